def wtL : List Nat := [228, 239]
set_option maxRecDepth 20000 in
theorem shl_wt_0 : ∀ d, d ∈ wtL → shC[d + 0]? = some (0, 9, [(0, 0), (0, 0), (0, 0), (1, d + 1), (1, d + 2), (1, d + 3), (1, d + 4), (1, d + 5), (1, d + 6), (1, d + 7), (1, d + 8), (1, d + 9), (1, d + 10)]) := by decide +kernel
set_option maxRecDepth 20000 in
theorem shl_wt_8 : ∀ d, d ∈ wtL → shC[d + 8]? = some (1, 6400, []) := by decide +kernel
theorem tck_wt_8 : ∀ d, d ∈ wtL → tcL.getD (d + 8) 0 = 0 := by decide +kernel
set_option maxRecDepth 100000 in
set_option maxHeartbeats 8000000 in
theorem c_X9_isOneKind (l : Launch) (G : va_G) (kc : KC) (ad : Nat → Nat) (σ : Sg) (wt : Nat) (va : Nat) (wa : Nat) (hwt : wt ∈ wtL) (hva : va < 200) (hwa : wa < 200) (hT : TC σ) : MI l G kc yX9_isOneKind cX9_isOneKind 4 (some .boolean) 0 0 [.ref (ad wt), .int (nI va), .int (nI wa)] shC ad σ (fun r σ1 => ((r = 1 ∧ (True)) ∨ (r = 0 ∧ (True))) ∧ σ1 = σ) := by
  intro sz
  refine z_body (y := yX9_isOneKind) (n := 4) (av := [.ref (ad wt), .int (nI va), .int (nI wa)]) (Qc := fun A => va_Qi (fun r σ1 => ((r = 1 ∧ (True)) ∨ (r = 0 ∧ (True))) ∧ σ1 = σ) (PoC G kc shC ad A) A) (plainFor_of_name (by decide)) (Nat.le_of_ble_eq_true rfl) (fun pr e s m below meth c A C0 hr hlk hnm hw hRo ls hl => ?_) sz
  have hx := C0.1
  have hb := C0.2.1
  have hown := C0.2.2.2.1
  have hts := C0.2.2.2.2.1
  have hl : lv_has ls 4 [(0, .ref (ad wt)), (1, .int (nI va)), (2, .int (nI wa))] := hl
  refine lv_iconst (v := 0) hx hb (dkP dF_3 DX9_isOneKind (i := 0) rfl rfl) (by decide) ?_
  refine lv_istore_n (lv' := [(3, .int 0), (0, .ref (ad wt)), (1, .int (nI va)), (2, .int (nI wa))]) hx hb (dkP dF_62 DX9_isOneKind (i := 1) rfl rfl) rfl hl (by decide) rfl (fun ls hl => ?_)
  have lp1 : ∀ (nq : Nat) (q3_2 : Nat) (H : Heap) (locs : List Loc) (ls : Array Slot), 32 - q3_2 < nq → (q3_2 ≤ 32) → St G kc A s.heap shC ad σ H locs → lv_has ls 4 [(3, .int (nI q3_2)), (0, .ref (ad wt)), (1, .int (nI va)), (2, .int (nI wa))] → W pr l e { frames := 0, cells := 0, slots := 0, locals := 0 } s m ([.ref (ad wt), .int (nI va), .int (nI wa)] : List Value).toArray below meth c H locs 0 0 (MQ below (va_Qi (fun r σ1 => ((r = 1 ∧ (True)) ∨ (r = 0 ∧ (True))) ∧ σ1 = σ) (PoC G kc shC ad A) A) ([.ref (ad wt), .int (nI va), .int (nI wa)] : List Value).toArray s 0 0 A) (F0 m 2 ls []) := by
    intro nq
    induction nq with
    | zero => intro q3_2 H locs ls hmu; exact absurd hmu (Nat.not_lt_zero _)
    | succ nq ih1 =>
      intro q3_2 H locs ls hmu hq3_2 hw hl
      refine lv_iload_n hx hb (dkP dF_29 DX9_isOneKind (i := 2) rfl rfl) rfl (lv_at hl 0 rfl) ?_
      refine lv_bipush (v := 32) hx hb (dks dF_16 DX9_isOneKind (i := 3) rfl rfl rfl) (by decide) ?_
      refine lv_icmp_ge (tgt := 41) hx hb (dkS dF_162 DX9_isOneKind (i := 4) rfl rfl rfl) (by decide) (fun c2 => ?_) (fun c2 => ?_)
      · simp (disch := omega) only [ta_lt, ta_le, ta_eq, tnI, tl32 32 (by decide)] at c2
        refine lv_iconst (v := 1) hx hb (dkP dF_4 DX9_isOneKind (i := 26) rfl rfl) (by decide) ?_
        exact z_zret C0 hr hlk (by decide) hw (⟨(Or.inl ⟨rfl, trivial⟩), rfl⟩) (dkP dF_172 DX9_isOneKind (i := 27) rfl rfl)
      · simp (disch := omega) only [ta_lt, ta_le, ta_eq, tnI, tl32 32 (by decide)] at c2
        refine lv_aload_n hx hb (dkP dF_42 DX9_isOneKind (i := 5) rfl rfl) rfl (lv_at hl 1 rfl) ?_
        refine z_gr C0 hw wt 10 (wt + 8) (fk_of (shl_wt_0 wt hwt) rfl) fl_X9_34 (dk2 dF_180 DX9_isOneKind (i := 6) rfl rfl rfl) ?_
        refine lv_iload_n hx hb (dkP dF_27 DX9_isOneKind (i := 7) rfl rfl) rfl (lv_at hl 2 rfl) ?_
        refine lv_bipush (v := 32) hx hb (dks dF_16 DX9_isOneKind (i := 8) rfl rfl rfl) (by decide) ?_
        refine lv_imul hx hb (dkP dF_104 DX9_isOneKind (i := 9) rfl rfl) ?_
        refine z_top (y := nI (va * 32)) (by simp only [fa_lit, nI_add, pk_mul]) ?_
        refine lv_iload_n hx hb (dkP dF_29 DX9_isOneKind (i := 10) rfl rfl) rfl (lv_at hl 0 rfl) ?_
        refine lv_iadd hx hb (dkP dF_96 DX9_isOneKind (i := 11) rfl rfl) ?_
        refine z_top (y := nI ((va * 32) + q3_2)) (by simp only [fa_lit, nI_add, pk_mul]) ?_
        refine z_ialdN (n := 6400) C0 hw (wt + 8) ((va * 32) + q3_2) (ak_of (shl_wt_8 wt hwt)) (by omega) (by decide) (dkP dF_46 DX9_isOneKind (i := 12) rfl rfl) ?_
        obtain ⟨v3, ev3⟩ : ∃ y : Int32, σ.1 (wt + 8) ((va * 32) + q3_2) = y := ⟨_, rfl⟩
        refine z_top (y := v3) ev3 ?_
        refine lv_aload_n hx hb (dkP dF_42 DX9_isOneKind (i := 13) rfl rfl) rfl (lv_at hl 1 rfl) ?_
        refine z_gr C0 hw wt 10 (wt + 8) (fk_of (shl_wt_0 wt hwt) rfl) fl_X9_34 (dk2 dF_180 DX9_isOneKind (i := 14) rfl rfl rfl) ?_
        refine lv_iload_n hx hb (dkP dF_28 DX9_isOneKind (i := 15) rfl rfl) rfl (lv_at hl 3 rfl) ?_
        refine lv_bipush (v := 32) hx hb (dks dF_16 DX9_isOneKind (i := 16) rfl rfl rfl) (by decide) ?_
        refine lv_imul hx hb (dkP dF_104 DX9_isOneKind (i := 17) rfl rfl) ?_
        refine z_top (y := nI (wa * 32)) (by simp only [fa_lit, nI_add, pk_mul]) ?_
        refine lv_iload_n hx hb (dkP dF_29 DX9_isOneKind (i := 18) rfl rfl) rfl (lv_at hl 0 rfl) ?_
        refine lv_iadd hx hb (dkP dF_96 DX9_isOneKind (i := 19) rfl rfl) ?_
        refine z_top (y := nI ((wa * 32) + q3_2)) (by simp only [fa_lit, nI_add, pk_mul]) ?_
        refine z_ialdN (n := 6400) C0 hw (wt + 8) ((wa * 32) + q3_2) (ak_of (shl_wt_8 wt hwt)) (by omega) (by decide) (dkP dF_46 DX9_isOneKind (i := 20) rfl rfl) ?_
        obtain ⟨v4, ev4⟩ : ∃ y : Int32, σ.1 (wt + 8) ((wa * 32) + q3_2) = y := ⟨_, rfl⟩
        refine z_top (y := v4) ev4 ?_
        refine lv_icmp_eq (tgt := 35) hx hb (dkS dF_159 DX9_isOneKind (i := 21) rfl rfl rfl) (by decide) (fun c5 => ?_) (fun c5 => ?_)
        · (try simp (disch := omega) only [ta_lt, ta_le, ta_eq, tnI] at c5)
          refine lv_iinc (v := nI (q3_2 + 1)) (lv' := [(3, .int (nI (q3_2 + 1))), (0, .ref (ad wt)), (1, .int (nI va)), (2, .int (nI wa))]) hx hb (dkI DX9_isOneKind (i := 24) rfl rfl rfl rfl) hl (k := 0) rfl (nI_1 _) (by decide) rfl (fun ls hl => ?_)
          refine lv_goto (tgt := 2) hx hb (dkS dF_167 DX9_isOneKind (i := 25) rfl rfl rfl) (by decide) ?_
          exact ih1 (q3_2 + 1) _ _ _ (by omega) (by (try simp only [lg_cmp_lt, lg_cmp_le, lg_cmp_gt, lg_cmp_ge, lg_cmp_eq] at c2); (try simp (disch := omega) only [ta_lt, ta_le, ta_eq, tb_lt, tb_le, tb_eq, tw, tnI, tsub1, tsv, tsb32, tn32 1 (by decide), tnj 1 (by decide), tl32 0 (by decide), tl64 0 (by decide), tl32 1 (by decide), tl64 1 (by decide), tl32 32 (by decide), tl64 32 (by decide)] at c2); (try simp only [lg_cmp_lt, lg_cmp_le, lg_cmp_gt, lg_cmp_ge, lg_cmp_eq] at c5); (try simp (disch := omega) only [ta_lt, ta_le, ta_eq, tb_lt, tb_le, tb_eq, tw, tnI, tsub1, tsv, tsb32, tn32 1 (by decide), tnj 1 (by decide), tl32 0 (by decide), tl64 0 (by decide), tl32 1 (by decide), tl64 1 (by decide), tl32 32 (by decide), tl64 32 (by decide)] at c5); (try simp (disch := omega) only [ta_lt, ta_le, ta_eq, tb_lt, tb_le, tb_eq, tw, tnI, tsub1, tsv, tsb32, tn32 1 (by decide), tnj 1 (by decide), tl32 0 (by decide), tl64 0 (by decide), tl32 1 (by decide), tl64 1 (by decide), tl32 32 (by decide), tl64 32 (by decide)]); omega) hw (lv_sub hl [0, 1, 2, 3] rfl)
        · (try simp (disch := omega) only [ta_lt, ta_le, ta_eq, tnI] at c5)
          refine lv_iconst (v := 0) hx hb (dkP dF_3 DX9_isOneKind (i := 22) rfl rfl) (by decide) ?_
          exact z_zret C0 hr hlk (by decide) hw (⟨(Or.inr ⟨rfl, trivial⟩), rfl⟩) (dkP dF_172 DX9_isOneKind (i := 23) rfl rfl)
  exact lp1 _ 0 _ _ _ (Nat.lt_succ_self _) (by (try simp (disch := omega) only [ta_lt, ta_le, ta_eq, tb_lt, tb_le, tb_eq, tw, tnI, tsub1, tsv, tsb32, tn32 1 (by decide), tnj 1 (by decide), tl32 0 (by decide), tl64 0 (by decide), tl32 1 (by decide), tl64 1 (by decide), tl32 32 (by decide), tl64 32 (by decide)]); omega) hw (lv_sub hl [0, 1, 2, 3] rfl)
set_option maxRecDepth 20000 in
theorem shl_wt_3 : ∀ d, d ∈ wtL → shC[d + 3]? = some (1, 200, []) := by decide +kernel
theorem tck_wt_3 : ∀ d, d ∈ wtL → tcL.getD (d + 3) 0 = 0 := by decide +kernel
set_option maxRecDepth 100000 in
set_option maxHeartbeats 8000000 in
theorem c_X9_hasKindAhead (l : Launch) (G : va_G) (kc : KC) (ad : Nat → Nat) (σ : Sg) (wt : Nat) (wa : Nat) (hwt : wt ∈ wtL) (hwa : wa < 200) (hT : TC σ) : MI l G kc yX9_hasKindAhead cX9_hasKindAhead 3 (some .boolean) 1 23 [.ref (ad wt), .int (nI wa)] shC ad σ (fun r σ1 => ((r = 1 ∧ (True)) ∨ (r = 0 ∧ (True))) ∧ σ1 = σ) := by
  intro sz
  refine z_body (y := yX9_hasKindAhead) (n := 3) (av := [.ref (ad wt), .int (nI wa)]) (Qc := fun A => va_Qi (fun r σ1 => ((r = 1 ∧ (True)) ∨ (r = 0 ∧ (True))) ∧ σ1 = σ) (PoC G kc shC ad A) A) (plainFor_of_name (by decide)) (Nat.le_of_ble_eq_true rfl) (fun pr e s m below meth c A C0 hr hlk hnm hw hRo ls hl => ?_) sz
  have hx := C0.1
  have hb := C0.2.1
  have hown := C0.2.2.2.1
  have hts := C0.2.2.2.2.1
  have hl : lv_has ls 3 [(0, .ref (ad wt)), (1, .int (nI wa))] := hl
  refine lv_iconst (v := 0) hx hb (dkP dF_3 DX9_hasKindAhead (i := 0) rfl rfl) (by decide) ?_
  refine lv_istore_n (lv' := [(2, .int 0), (0, .ref (ad wt)), (1, .int (nI wa))]) hx hb (dkP dF_61 DX9_hasKindAhead (i := 1) rfl rfl) rfl hl (by decide) rfl (fun ls hl => ?_)
  have lp1 : ∀ (nq : Nat) (q2_2 : Nat) (H : Heap) (locs : List Loc) (ls : Array Slot), wa - q2_2 < nq → (q2_2 ≤ wa) → St G kc A s.heap shC ad σ H locs → lv_has ls 3 [(2, .int (nI q2_2)), (0, .ref (ad wt)), (1, .int (nI wa))] → W pr l e { frames := 1, cells := 0, slots := 0, locals := 23 } s m ([.ref (ad wt), .int (nI wa)] : List Value).toArray below meth c H locs 0 0 (MQ below (va_Qi (fun r σ1 => ((r = 1 ∧ (True)) ∨ (r = 0 ∧ (True))) ∧ σ1 = σ) (PoC G kc shC ad A) A) ([.ref (ad wt), .int (nI wa)] : List Value).toArray s 0 0 A) (F0 m 2 ls []) := by
    intro nq
    induction nq with
    | zero => intro q2_2 H locs ls hmu; exact absurd hmu (Nat.not_lt_zero _)
    | succ nq ih1 =>
      intro q2_2 H locs ls hmu hq2_2 hw hl
      refine lv_iload_n hx hb (dkP dF_28 DX9_hasKindAhead (i := 2) rfl rfl) rfl (lv_at hl 0 rfl) ?_
      refine lv_iload_n hx hb (dkP dF_27 DX9_hasKindAhead (i := 3) rfl rfl) rfl (lv_at hl 2 rfl) ?_
      refine lv_icmp_ge (tgt := 39) hx hb (dkS dF_162 DX9_hasKindAhead (i := 4) rfl rfl rfl) (by decide) (fun c2 => ?_) (fun c2 => ?_)
      · simp (disch := omega) only [ta_lt, ta_le, ta_eq, tnI] at c2
        refine lv_iconst (v := 0) hx hb (dkP dF_3 DX9_hasKindAhead (i := 23) rfl rfl) (by decide) ?_
        exact z_zret C0 hr hlk (by decide) hw (⟨(Or.inr ⟨rfl, trivial⟩), rfl⟩) (dkP dF_172 DX9_hasKindAhead (i := 24) rfl rfl)
      · simp (disch := omega) only [ta_lt, ta_le, ta_eq, tnI] at c2
        refine lv_aload_n hx hb (dkP dF_42 DX9_hasKindAhead (i := 5) rfl rfl) rfl (lv_at hl 1 rfl) ?_
        refine z_gr C0 hw wt 5 (wt + 3) (fk_of (shl_wt_0 wt hwt) rfl) fl_X9_18 (dk2 dF_180 DX9_hasKindAhead (i := 6) rfl rfl rfl) ?_
        refine lv_iload_n hx hb (dkP dF_28 DX9_hasKindAhead (i := 7) rfl rfl) rfl (lv_at hl 0 rfl) ?_
        refine z_ialdN (n := 200) C0 hw (wt + 3) q2_2 (ak_of (shl_wt_3 wt hwt)) (by omega) (by decide) (dkP dF_46 DX9_hasKindAhead (i := 8) rfl rfl) ?_
        obtain ⟨v3, ev3⟩ : ∃ y : Int32, σ.1 (wt + 3) q2_2 = y := ⟨_, rfl⟩
        refine z_top (y := v3) ev3 ?_
        refine lv_aload_n hx hb (dkP dF_42 DX9_hasKindAhead (i := 9) rfl rfl) rfl (lv_at hl 1 rfl) ?_
        refine z_gr C0 hw wt 5 (wt + 3) (fk_of (shl_wt_0 wt hwt) rfl) fl_X9_18 (dk2 dF_180 DX9_hasKindAhead (i := 10) rfl rfl rfl) ?_
        refine lv_iload_n hx hb (dkP dF_27 DX9_hasKindAhead (i := 11) rfl rfl) rfl (lv_at hl 2 rfl) ?_
        refine z_ialdN (n := 200) C0 hw (wt + 3) wa (ak_of (shl_wt_3 wt hwt)) (by omega) (by decide) (dkP dF_46 DX9_hasKindAhead (i := 12) rfl rfl) ?_
        obtain ⟨v4, ev4⟩ : ∃ y : Int32, σ.1 (wt + 3) wa = y := ⟨_, rfl⟩
        refine z_top (y := v4) ev4 ?_
        refine lv_icmp_ne (tgt := 33) hx hb (dkS dF_160 DX9_hasKindAhead (i := 13) rfl rfl rfl) (by decide) (fun c5 => ?_) (fun c5 => ?_)
        · (try simp (disch := omega) only [ta_lt, ta_le, ta_eq, tnI] at c5)
          refine lv_iinc (v := nI (q2_2 + 1)) (lv' := [(2, .int (nI (q2_2 + 1))), (0, .ref (ad wt)), (1, .int (nI wa))]) hx hb (dkI DX9_hasKindAhead (i := 21) rfl rfl rfl rfl) hl (k := 0) rfl (nI_1 _) (by decide) rfl (fun ls hl => ?_)
          refine lv_goto (tgt := 2) hx hb (dkS dF_167 DX9_hasKindAhead (i := 22) rfl rfl rfl) (by decide) ?_
          exact ih1 (q2_2 + 1) _ _ _ (by omega) (by (try simp only [lg_cmp_lt, lg_cmp_le, lg_cmp_gt, lg_cmp_ge, lg_cmp_eq] at c2); (try simp (disch := omega) only [ta_lt, ta_le, ta_eq, tb_lt, tb_le, tb_eq, tw, tnI, tsub1, tsv, tsb32, tn32 1 (by decide), tnj 1 (by decide), tl32 0 (by decide), tl64 0 (by decide)] at c2); (try simp only [lg_cmp_lt, lg_cmp_le, lg_cmp_gt, lg_cmp_ge, lg_cmp_eq] at c5); (try simp (disch := omega) only [ta_lt, ta_le, ta_eq, tb_lt, tb_le, tb_eq, tw, tnI, tsub1, tsv, tsb32, tn32 1 (by decide), tnj 1 (by decide), tl32 0 (by decide), tl64 0 (by decide)] at c5); (try simp (disch := omega) only [ta_lt, ta_le, ta_eq, tb_lt, tb_le, tb_eq, tw, tnI, tsub1, tsv, tsb32, tn32 1 (by decide), tnj 1 (by decide), tl32 0 (by decide), tl64 0 (by decide)]); omega) hw (lv_sub hl [0, 1, 2] rfl)
        · (try simp (disch := omega) only [ta_lt, ta_le, ta_eq, tnI] at c5)
          refine lv_aload_n hx hb (dkP dF_42 DX9_hasKindAhead (i := 14) rfl rfl) rfl (lv_at hl 1 rfl) ?_
          refine lv_iload_n hx hb (dkP dF_28 DX9_hasKindAhead (i := 15) rfl rfl) rfl (lv_at hl 0 rfl) ?_
          refine lv_iload_n hx hb (dkP dF_27 DX9_hasKindAhead (i := 16) rfl rfl) rfl (lv_at hl 2 rfl) ?_
          refine zk_I hw (zr_V (As := [.int (nI q2_2), .int (nI wa)]) (rest := []) C0 (c_X9_isOneKind l G kc ad σ wt q2_2 wa hwt (by first | omega | assumption | decide | rfl) (by first | omega | assumption | decide | rfl) hT _) cv_X9_isOneKind lk_X9_175 (zp_V C0 hRo hw wt (shl_wt_0 wt hwt) rfl rfl) rfl hl.1 rfl ⟨by decide, by decide⟩ (Nat.le_of_ble_eq_true rfl) (dk2 dF_182 DX9_hasKindAhead (i := 17) rfl rfl rfl) ⟨Nat.le_refl _, Nat.le_refl _⟩) (fun r6 s6 H locs hp hw => ?_)
          obtain ⟨f6_0, hs6⟩ := hp
          (rw [hs6] at hw)
          rcases f6_0 with ⟨rfl, hc6⟩ | ⟨rfl, hc6⟩
          · skip
            refine lv_if_eq (tgt := 33) hx hb (dkS dF_153 DX9_hasKindAhead (i := 18) rfl rfl rfl) (by decide) (fun h => absurd h (by decide)) (fun _ => ?_)
            refine lv_iconst (v := 1) hx hb (dkP dF_4 DX9_hasKindAhead (i := 19) rfl rfl) (by decide) ?_
            exact z_zret C0 hr hlk (by decide) hw (⟨(Or.inl ⟨rfl, trivial⟩), rfl⟩) (dkP dF_172 DX9_hasKindAhead (i := 20) rfl rfl)
          · skip
            refine lv_if_eq (tgt := 33) hx hb (dkS dF_153 DX9_hasKindAhead (i := 18) rfl rfl rfl) (by decide) (fun _ => ?_) (fun h => absurd h (by decide))
            refine lv_iinc (v := nI (q2_2 + 1)) (lv' := [(2, .int (nI (q2_2 + 1))), (0, .ref (ad wt)), (1, .int (nI wa))]) hx hb (dkI DX9_hasKindAhead (i := 21) rfl rfl rfl rfl) hl (k := 0) rfl (nI_1 _) (by decide) rfl (fun ls hl => ?_)
            refine lv_goto (tgt := 2) hx hb (dkS dF_167 DX9_hasKindAhead (i := 22) rfl rfl rfl) (by decide) ?_
            exact ih1 (q2_2 + 1) _ _ _ (by omega) (by (try simp only [lg_cmp_lt, lg_cmp_le, lg_cmp_gt, lg_cmp_ge, lg_cmp_eq] at c2); (try simp (disch := omega) only [ta_lt, ta_le, ta_eq, tb_lt, tb_le, tb_eq, tw, tnI, tsub1, tsv, tsb32, tn32 1 (by decide), tnj 1 (by decide), tl32 0 (by decide), tl64 0 (by decide), tl32 1 (by decide), tl64 1 (by decide)] at c2); (try simp only [lg_cmp_lt, lg_cmp_le, lg_cmp_gt, lg_cmp_ge, lg_cmp_eq] at c5); (try simp (disch := omega) only [ta_lt, ta_le, ta_eq, tb_lt, tb_le, tb_eq, tw, tnI, tsub1, tsv, tsb32, tn32 1 (by decide), tnj 1 (by decide), tl32 0 (by decide), tl64 0 (by decide), tl32 1 (by decide), tl64 1 (by decide)] at c5); (try simp only [lg_cmp_lt, lg_cmp_le, lg_cmp_gt, lg_cmp_ge, lg_cmp_eq] at f6_0); (try simp (disch := omega) only [ta_lt, ta_le, ta_eq, tb_lt, tb_le, tb_eq, tw, tnI, tsub1, tsv, tsb32, tn32 1 (by decide), tnj 1 (by decide), tl32 0 (by decide), tl64 0 (by decide), tl32 1 (by decide), tl64 1 (by decide)] at f6_0); (try simp only [lg_cmp_lt, lg_cmp_le, lg_cmp_gt, lg_cmp_ge, lg_cmp_eq] at hc6); (try simp (disch := omega) only [ta_lt, ta_le, ta_eq, tb_lt, tb_le, tb_eq, tw, tnI, tsub1, tsv, tsb32, tn32 1 (by decide), tnj 1 (by decide), tl32 0 (by decide), tl64 0 (by decide), tl32 1 (by decide), tl64 1 (by decide)] at hc6); (try simp (disch := omega) only [ta_lt, ta_le, ta_eq, tb_lt, tb_le, tb_eq, tw, tnI, tsub1, tsv, tsb32, tn32 1 (by decide), tnj 1 (by decide), tl32 0 (by decide), tl64 0 (by decide), tl32 1 (by decide), tl64 1 (by decide)]); omega) hw (lv_sub hl [0, 1, 2] rfl)
  exact lp1 _ 0 _ _ _ (Nat.lt_succ_self _) (by (try simp (disch := omega) only [ta_lt, ta_le, ta_eq, tb_lt, tb_le, tb_eq, tw, tnI, tsub1, tsv, tsb32, tn32 1 (by decide), tnj 1 (by decide), tl32 0 (by decide), tl64 0 (by decide), tl32 1 (by decide), tl64 1 (by decide)]); omega) hw (lv_sub hl [0, 1, 2] rfl)
theorem tck_wt_0 : ∀ d, d ∈ wtL → tcL.getD (d + 0) 0 = 11 := by decide +kernel
set_option maxRecDepth 100000 in
set_option maxHeartbeats 8000000 in
theorem c_X9_distinct (l : Launch) (G : va_G) (kc : KC) (ad : Nat → Nat) (σ : Sg) (wt : Nat)  (hwt : wt ∈ wtL) (hT : TC σ) : MI l G kc yX9_distinct cX9_distinct 3 (some .int) 2 45 [.ref (ad wt)] shC ad σ (fun r σ1 => σ1 = σ) := by
  intro sz
  refine z_body (y := yX9_distinct) (n := 3) (av := [.ref (ad wt)]) (Qc := fun A => va_Qi (fun r σ1 => σ1 = σ) (PoC G kc shC ad A) A) (plainFor_of_name (by decide)) (Nat.le_of_ble_eq_true rfl) (fun pr e s m below meth c A C0 hr hlk hnm hw hRo ls hl => ?_) sz
  have hx := C0.1
  have hb := C0.2.1
  have hown := C0.2.2.2.1
  have hts := C0.2.2.2.2.1
  have hl : lv_has ls 3 [(0, .ref (ad wt))] := hl
  refine lv_iconst (v := 0) hx hb (dkP dF_3 DX9_distinct (i := 0) rfl rfl) (by decide) ?_
  refine lv_istore_n (lv' := [(1, .int 0), (0, .ref (ad wt))]) hx hb (dkP dF_60 DX9_distinct (i := 1) rfl rfl) rfl hl (by decide) rfl (fun ls hl => ?_)
  refine lv_iconst (v := 0) hx hb (dkP dF_3 DX9_distinct (i := 2) rfl rfl) (by decide) ?_
  refine lv_istore_n (lv' := [(2, .int 0), (1, .int 0), (0, .ref (ad wt))]) hx hb (dkP dF_61 DX9_distinct (i := 3) rfl rfl) rfl hl (by decide) rfl (fun ls hl => ?_)
  have lp1 : ∀ (nq : Nat) (q2_4 : Nat) (q1_4 : Nat) (H : Heap) (locs : List Loc) (ls : Array Slot), 200 - q2_4 < nq → (q2_4 ≤ 200) → (q1_4 ≤ q2_4) → St G kc A s.heap shC ad σ H locs → lv_has ls 3 [(2, .int (nI q2_4)), (1, .int (nI q1_4)), (0, .ref (ad wt))] → W pr l e { frames := 2, cells := 0, slots := 0, locals := 45 } s m ([.ref (ad wt)] : List Value).toArray below meth c H locs 0 0 (MQ below (va_Qi (fun r σ1 => σ1 = σ) (PoC G kc shC ad A) A) ([.ref (ad wt)] : List Value).toArray s 0 0 A) (F0 m 4 ls []) := by
    intro nq
    induction nq with
    | zero => intro q2_4 q1_4 H locs ls hmu; exact absurd hmu (Nat.not_lt_zero _)
    | succ nq ih1 =>
      intro q2_4 q1_4 H locs ls hmu hq2_4 hq1_4 hw hl
      refine lv_iload_n hx hb (dkP dF_28 DX9_distinct (i := 4) rfl rfl) rfl (lv_at hl 0 rfl) ?_
      refine lv_aload_n hx hb (dkP dF_42 DX9_distinct (i := 5) rfl rfl) rfl (lv_at hl 2 rfl) ?_
      refine z_gi C0 hw wt 0 (fk_of (shl_wt_0 wt hwt) rfl) fl_X9_43 (dk2 dF_180 DX9_distinct (i := 6) rfl rfl rfl) ?_
      obtain ⟨n2, hn2, en2⟩ := rngN (x := σ.1 wt 0) (h := 200) (tcr_11_0 hT (tck_wt_0 wt hwt))
      refine z_top (y := nI n2) en2 ?_
      refine lv_icmp_ge (tgt := 29) hx hb (dkS dF_162 DX9_distinct (i := 7) rfl rfl rfl) (by decide) (fun c3 => ?_) (fun c3 => ?_)
      · simp (disch := omega) only [ta_lt, ta_le, ta_eq, tnI] at c3
        refine lv_iload_n hx hb (dkP dF_27 DX9_distinct (i := 15) rfl rfl) rfl (lv_at hl 1 rfl) ?_
        exact z_iret C0 hr hlk hw rfl (dkP dF_172 DX9_distinct (i := 16) rfl rfl)
      · simp (disch := omega) only [ta_lt, ta_le, ta_eq, tnI] at c3
        refine lv_aload_n hx hb (dkP dF_42 DX9_distinct (i := 8) rfl rfl) rfl (lv_at hl 2 rfl) ?_
        refine lv_iload_n hx hb (dkP dF_28 DX9_distinct (i := 9) rfl rfl) rfl (lv_at hl 0 rfl) ?_
        refine zk_I hw (zr_V (As := [.int (nI q2_4)]) (rest := []) C0 (c_X9_hasKindAhead l G kc ad σ wt q2_4 hwt (by first | omega | assumption | decide | rfl) hT _) cv_X9_hasKindAhead lk_X9_172 (zp_V C0 hRo hw wt (shl_wt_0 wt hwt) rfl rfl) rfl hl.1 rfl ⟨by decide, by decide⟩ (Nat.le_of_ble_eq_true rfl) (dk2 dF_182 DX9_distinct (i := 10) rfl rfl rfl) ⟨Nat.le_refl _, Nat.le_refl _⟩) (fun r4 s4 H locs hp hw => ?_)
        obtain ⟨f4_0, hs4⟩ := hp
        (rw [hs4] at hw)
        rcases f4_0 with ⟨rfl, hc4⟩ | ⟨rfl, hc4⟩
        · skip
          refine lv_if_ne (tgt := 23) hx hb (dkS dF_154 DX9_distinct (i := 11) rfl rfl rfl) (by decide) (fun _ => ?_) (fun h => absurd h (by decide))
          refine lv_iinc (v := nI (q2_4 + 1)) (lv' := [(2, .int (nI (q2_4 + 1))), (1, .int (nI q1_4)), (0, .ref (ad wt))]) hx hb (dkI DX9_distinct (i := 13) rfl rfl rfl rfl) hl (k := 0) rfl (nI_1 _) (by decide) rfl (fun ls hl => ?_)
          refine lv_goto (tgt := 4) hx hb (dkS dF_167 DX9_distinct (i := 14) rfl rfl rfl) (by decide) ?_
          exact ih1 (q2_4 + 1) q1_4 _ _ _ (by omega) (by (try simp only [lg_cmp_lt, lg_cmp_le, lg_cmp_gt, lg_cmp_ge, lg_cmp_eq] at c3); (try simp (disch := omega) only [ta_lt, ta_le, ta_eq, tb_lt, tb_le, tb_eq, tw, tnI, tsub1, tsv, tsb32, tn32 1 (by decide), tnj 1 (by decide), tl32 0 (by decide), tl64 0 (by decide)] at c3); (try simp only [lg_cmp_lt, lg_cmp_le, lg_cmp_gt, lg_cmp_ge, lg_cmp_eq] at f4_0); (try simp (disch := omega) only [ta_lt, ta_le, ta_eq, tb_lt, tb_le, tb_eq, tw, tnI, tsub1, tsv, tsb32, tn32 1 (by decide), tnj 1 (by decide), tl32 0 (by decide), tl64 0 (by decide)] at f4_0); (try simp only [lg_cmp_lt, lg_cmp_le, lg_cmp_gt, lg_cmp_ge, lg_cmp_eq] at hc4); (try simp (disch := omega) only [ta_lt, ta_le, ta_eq, tb_lt, tb_le, tb_eq, tw, tnI, tsub1, tsv, tsb32, tn32 1 (by decide), tnj 1 (by decide), tl32 0 (by decide), tl64 0 (by decide)] at hc4); (try simp (disch := omega) only [ta_lt, ta_le, ta_eq, tb_lt, tb_le, tb_eq, tw, tnI, tsub1, tsv, tsb32, tn32 1 (by decide), tnj 1 (by decide), tl32 0 (by decide), tl64 0 (by decide)]); omega) (by (try simp only [lg_cmp_lt, lg_cmp_le, lg_cmp_gt, lg_cmp_ge, lg_cmp_eq] at c3); (try simp (disch := omega) only [ta_lt, ta_le, ta_eq, tb_lt, tb_le, tb_eq, tw, tnI, tsub1, tsv, tsb32, tn32 1 (by decide), tnj 1 (by decide), tl32 0 (by decide), tl64 0 (by decide)] at c3); (try simp only [lg_cmp_lt, lg_cmp_le, lg_cmp_gt, lg_cmp_ge, lg_cmp_eq] at f4_0); (try simp (disch := omega) only [ta_lt, ta_le, ta_eq, tb_lt, tb_le, tb_eq, tw, tnI, tsub1, tsv, tsb32, tn32 1 (by decide), tnj 1 (by decide), tl32 0 (by decide), tl64 0 (by decide)] at f4_0); (try simp only [lg_cmp_lt, lg_cmp_le, lg_cmp_gt, lg_cmp_ge, lg_cmp_eq] at hc4); (try simp (disch := omega) only [ta_lt, ta_le, ta_eq, tb_lt, tb_le, tb_eq, tw, tnI, tsub1, tsv, tsb32, tn32 1 (by decide), tnj 1 (by decide), tl32 0 (by decide), tl64 0 (by decide)] at hc4); (try simp (disch := omega) only [ta_lt, ta_le, ta_eq, tb_lt, tb_le, tb_eq, tw, tnI, tsub1, tsv, tsb32, tn32 1 (by decide), tnj 1 (by decide), tl32 0 (by decide), tl64 0 (by decide)]); omega) hw (lv_sub hl [0, 1, 2] rfl)
        · skip
          refine lv_if_ne (tgt := 23) hx hb (dkS dF_154 DX9_distinct (i := 11) rfl rfl rfl) (by decide) (fun h => absurd h (by decide)) (fun _ => ?_)
          refine lv_iinc (v := nI (q1_4 + 1)) (lv' := [(1, .int (nI (q1_4 + 1))), (2, .int (nI q2_4)), (0, .ref (ad wt))]) hx hb (dkI DX9_distinct (i := 12) rfl rfl rfl rfl) hl (k := 1) rfl (nI_1 _) (by decide) rfl (fun ls hl => ?_)
          refine lv_iinc (v := nI (q2_4 + 1)) (lv' := [(2, .int (nI (q2_4 + 1))), (1, .int (nI (q1_4 + 1))), (0, .ref (ad wt))]) hx hb (dkI DX9_distinct (i := 13) rfl rfl rfl rfl) hl (k := 1) rfl (nI_1 _) (by decide) rfl (fun ls hl => ?_)
          refine lv_goto (tgt := 4) hx hb (dkS dF_167 DX9_distinct (i := 14) rfl rfl rfl) (by decide) ?_
          exact ih1 (q2_4 + 1) (q1_4 + 1) _ _ _ (by omega) (by (try simp only [lg_cmp_lt, lg_cmp_le, lg_cmp_gt, lg_cmp_ge, lg_cmp_eq] at c3); (try simp (disch := omega) only [ta_lt, ta_le, ta_eq, tb_lt, tb_le, tb_eq, tw, tnI, tsub1, tsv, tsb32, tn32 1 (by decide), tnj 1 (by decide), tl32 0 (by decide), tl64 0 (by decide)] at c3); (try simp only [lg_cmp_lt, lg_cmp_le, lg_cmp_gt, lg_cmp_ge, lg_cmp_eq] at f4_0); (try simp (disch := omega) only [ta_lt, ta_le, ta_eq, tb_lt, tb_le, tb_eq, tw, tnI, tsub1, tsv, tsb32, tn32 1 (by decide), tnj 1 (by decide), tl32 0 (by decide), tl64 0 (by decide)] at f4_0); (try simp only [lg_cmp_lt, lg_cmp_le, lg_cmp_gt, lg_cmp_ge, lg_cmp_eq] at hc4); (try simp (disch := omega) only [ta_lt, ta_le, ta_eq, tb_lt, tb_le, tb_eq, tw, tnI, tsub1, tsv, tsb32, tn32 1 (by decide), tnj 1 (by decide), tl32 0 (by decide), tl64 0 (by decide)] at hc4); (try simp (disch := omega) only [ta_lt, ta_le, ta_eq, tb_lt, tb_le, tb_eq, tw, tnI, tsub1, tsv, tsb32, tn32 1 (by decide), tnj 1 (by decide), tl32 0 (by decide), tl64 0 (by decide)]); omega) (by (try simp only [lg_cmp_lt, lg_cmp_le, lg_cmp_gt, lg_cmp_ge, lg_cmp_eq] at c3); (try simp (disch := omega) only [ta_lt, ta_le, ta_eq, tb_lt, tb_le, tb_eq, tw, tnI, tsub1, tsv, tsb32, tn32 1 (by decide), tnj 1 (by decide), tl32 0 (by decide), tl64 0 (by decide)] at c3); (try simp only [lg_cmp_lt, lg_cmp_le, lg_cmp_gt, lg_cmp_ge, lg_cmp_eq] at f4_0); (try simp (disch := omega) only [ta_lt, ta_le, ta_eq, tb_lt, tb_le, tb_eq, tw, tnI, tsub1, tsv, tsb32, tn32 1 (by decide), tnj 1 (by decide), tl32 0 (by decide), tl64 0 (by decide)] at f4_0); (try simp only [lg_cmp_lt, lg_cmp_le, lg_cmp_gt, lg_cmp_ge, lg_cmp_eq] at hc4); (try simp (disch := omega) only [ta_lt, ta_le, ta_eq, tb_lt, tb_le, tb_eq, tw, tnI, tsub1, tsv, tsb32, tn32 1 (by decide), tnj 1 (by decide), tl32 0 (by decide), tl64 0 (by decide)] at hc4); (try simp (disch := omega) only [ta_lt, ta_le, ta_eq, tb_lt, tb_le, tb_eq, tw, tnI, tsub1, tsv, tsb32, tn32 1 (by decide), tnj 1 (by decide), tl32 0 (by decide), tl64 0 (by decide)]); omega) hw (lv_sub hl [0, 1, 2] rfl)
  exact lp1 _ 0 0 _ _ _ (Nat.lt_succ_self _) (by (try simp (disch := omega) only [ta_lt, ta_le, ta_eq, tb_lt, tb_le, tb_eq, tw, tnI, tsub1, tsv, tsb32, tn32 1 (by decide), tnj 1 (by decide), tl32 0 (by decide), tl64 0 (by decide)]); omega) (by (try simp (disch := omega) only [ta_lt, ta_le, ta_eq, tb_lt, tb_le, tb_eq, tw, tnI, tsub1, tsv, tsb32, tn32 1 (by decide), tnj 1 (by decide), tl32 0 (by decide), tl64 0 (by decide)]); omega) hw (lv_sub hl [0, 1, 2] rfl)
set_option maxRecDepth 20000 in
theorem shl_wt_1 : ∀ d, d ∈ wtL → shC[d + 1]? = some (1, 200, []) := by decide +kernel
theorem tck_wt_1 : ∀ d, d ∈ wtL → tcL.getD (d + 1) 0 = 0 := by decide +kernel
set_option maxRecDepth 20000 in
theorem shl_wt_2 : ∀ d, d ∈ wtL → shC[d + 2]? = some (1, 200, []) := by decide +kernel
theorem tck_wt_2 : ∀ d, d ∈ wtL → tcL.getD (d + 2) 0 = 0 := by decide +kernel
set_option maxRecDepth 20000 in
theorem shl_wt_4 : ∀ d, d ∈ wtL → shC[d + 4]? = some (1, 200, []) := by decide +kernel
theorem tck_wt_4 : ∀ d, d ∈ wtL → tcL.getD (d + 4) 0 = 12 := by decide +kernel
set_option maxRecDepth 20000 in
theorem shl_wt_6 : ∀ d, d ∈ wtL → shC[d + 6]? = some (2, 20000, []) := by decide +kernel
theorem tck_wt_6 : ∀ d, d ∈ wtL → tcL.getD (d + 6) 0 = 9 := by decide +kernel
set_option maxRecDepth 20000 in
theorem shl_wt_7 : ∀ d, d ∈ wtL → shC[d + 7]? = some (1, 24, []) := by decide +kernel
theorem tck_wt_7 : ∀ d, d ∈ wtL → tcL.getD (d + 7) 0 = 0 := by decide +kernel
set_option maxRecDepth 100000 in
set_option maxHeartbeats 8000000 in
theorem c_X9_tell (l : Launch) (G : va_G) (kc : KC) (ad : Nat → Nat) (σ : Sg) (wt : Nat) (wy : Int32) (what : Int32) (ix : Int32) (hwt : wt ∈ wtL) (hT : TC σ) : MI l G kc yX9_tell cX9_tell 4 (some .int) 0 0 [.ref (ad wt), .int wy, .int what, .int ix] shC ad σ (fun r σ1 => σ1 = σ) := by
  intro sz
  refine z_body (y := yX9_tell) (n := 4) (av := [.ref (ad wt), .int wy, .int what, .int ix]) (Qc := fun A => va_Qi (fun r σ1 => σ1 = σ) (PoC G kc shC ad A) A) (plainFor_of_name (by decide)) (Nat.le_of_ble_eq_true rfl) (fun pr e s m below meth c A C0 hr hlk hnm hw hRo ls hl => ?_) sz
  have hx := C0.1
  have hb := C0.2.1
  have hown := C0.2.2.2.1
  have hts := C0.2.2.2.2.1
  have hl : lv_has ls 4 [(0, .ref (ad wt)), (1, .int wy), (2, .int what), (3, .int ix)] := hl
  refine lv_iload_n hx hb (dkP dF_27 DX9_tell (i := 0) rfl rfl) rfl (lv_at hl 1 rfl) ?_
  refine lv_if_lt (tgt := 12) hx hb (dkS dF_155 DX9_tell (i := 1) rfl rfl rfl) (by decide) (fun c1 => ?_) (fun c1 => ?_)
  · (try simp (disch := omega) only [ta_lt, ta_le, ta_eq, tnI, tl32 0 (by decide)] at c1)
    refine lv_iconst (v := (-1)) hx hb (dkP dF_2 DX9_tell (i := 6) rfl rfl) (by decide) ?_
    exact z_iret C0 hr hlk hw rfl (dkP dF_172 DX9_tell (i := 7) rfl rfl)
  · (try simp (disch := omega) only [ta_lt, ta_le, ta_eq, tnI, tl32 0 (by decide)] at c1)
    refine lv_iload_n hx hb (dkP dF_27 DX9_tell (i := 2) rfl rfl) rfl (lv_at hl 1 rfl) ?_
    refine lv_aload_n hx hb (dkP dF_42 DX9_tell (i := 3) rfl rfl) rfl (lv_at hl 0 rfl) ?_
    refine z_gi C0 hw wt 0 (fk_of (shl_wt_0 wt hwt) rfl) fl_X9_43 (dk2 dF_180 DX9_tell (i := 4) rfl rfl rfl) ?_
    obtain ⟨n2, hn2, en2⟩ := rngN (x := σ.1 wt 0) (h := 200) (tcr_11_0 hT (tck_wt_0 wt hwt))
    refine z_top (y := nI n2) en2 ?_
    refine lv_icmp_lt (tgt := 14) hx hb (dkS dF_161 DX9_tell (i := 5) rfl rfl rfl) (by decide) (fun c3 => ?_) (fun c3 => ?_)
    · (try simp (disch := omega) only [ta_lt, ta_le, ta_eq, tnI] at c3); have hz3 := i32b wy
      obtain ⟨wn, hwn, rfl⟩ := to_nat (x := wy) (n := 200) (by (try simp only [lg_cmp_lt, lg_cmp_le, lg_cmp_gt, lg_cmp_ge, lg_cmp_eq] at c1); (try simp (disch := omega) only [ta_lt, ta_le, ta_eq, tb_lt, tb_le, tb_eq, tw, tnI, tsub1, tsv, tsb32, tn32 1 (by decide), tnj 1 (by decide), tl32 0 (by decide), tl64 0 (by decide)] at c1); (try simp only [lg_cmp_lt, lg_cmp_le, lg_cmp_gt, lg_cmp_ge, lg_cmp_eq] at c3); (try simp (disch := omega) only [ta_lt, ta_le, ta_eq, tb_lt, tb_le, tb_eq, tw, tnI, tsub1, tsv, tsb32, tn32 1 (by decide), tnj 1 (by decide), tl32 0 (by decide), tl64 0 (by decide)] at c3); (try simp (disch := omega) only [ta_lt, ta_le, ta_eq, tb_lt, tb_le, tb_eq, tw, tnI, tsub1, tsv, tsb32, tn32 1 (by decide), tnj 1 (by decide), tl32 0 (by decide), tl64 0 (by decide)]); omega)
      refine lv_iload_n hx hb (dkP dF_28 DX9_tell (i := 8) rfl rfl) rfl (lv_at hl 2 rfl) ?_
      by_cases hsw4 : 0 ≤ what.toInt ∧ what.toInt ≤ 4
      · obtain ⟨j4, hj4, rfl⟩ := to_nat (x := what) (n := 5) (by omega)
        match j4, hj4 with
        | 0, _ =>
          refine lv_tableIn (x := nI 0) (off := 33) (tgt := 48) hx hb (dX9_tell_15) (by decide) (by decide) rfl (by decide) ?_
          refine lv_aload_n hx hb (dkP dF_42 DX9_tell (i := 10) rfl rfl) rfl (lv_at hl 0 rfl) ?_
          refine z_gr C0 hw wt 3 (wt + 1) (fk_of (shl_wt_0 wt hwt) rfl) fl_X9_11 (dk2 dF_180 DX9_tell (i := 11) rfl rfl rfl) ?_
          refine lv_iload_n hx hb (dkP dF_27 DX9_tell (i := 12) rfl rfl) rfl (lv_at hl 1 rfl) ?_
          refine z_ialdN (n := 200) C0 hw (wt + 1) wn (ak_of (shl_wt_1 wt hwt)) (by omega) (by decide) (dkP dF_46 DX9_tell (i := 13) rfl rfl) ?_
          obtain ⟨v5, ev5⟩ : ∃ y : Int32, σ.1 (wt + 1) wn = y := ⟨_, rfl⟩
          refine z_top (y := v5) ev5 ?_
          exact z_iret C0 hr hlk hw rfl (dkP dF_172 DX9_tell (i := 14) rfl rfl)
        | 1, _ =>
          refine lv_tableIn (x := nI 1) (off := 40) (tgt := 55) hx hb (dX9_tell_15) (by decide) (by decide) rfl (by decide) ?_
          refine lv_aload_n hx hb (dkP dF_42 DX9_tell (i := 15) rfl rfl) rfl (lv_at hl 0 rfl) ?_
          refine z_gr C0 hw wt 4 (wt + 2) (fk_of (shl_wt_0 wt hwt) rfl) fl_X9_15 (dk2 dF_180 DX9_tell (i := 16) rfl rfl rfl) ?_
          refine lv_iload_n hx hb (dkP dF_27 DX9_tell (i := 17) rfl rfl) rfl (lv_at hl 1 rfl) ?_
          refine z_ialdN (n := 200) C0 hw (wt + 2) wn (ak_of (shl_wt_2 wt hwt)) (by omega) (by decide) (dkP dF_46 DX9_tell (i := 18) rfl rfl) ?_
          obtain ⟨v6, ev6⟩ : ∃ y : Int32, σ.1 (wt + 2) wn = y := ⟨_, rfl⟩
          refine z_top (y := v6) ev6 ?_
          exact z_iret C0 hr hlk hw rfl (dkP dF_172 DX9_tell (i := 19) rfl rfl)
        | 2, _ =>
          refine lv_tableIn (x := nI 2) (off := 47) (tgt := 62) hx hb (dX9_tell_15) (by decide) (by decide) rfl (by decide) ?_
          refine lv_aload_n hx hb (dkP dF_42 DX9_tell (i := 20) rfl rfl) rfl (lv_at hl 0 rfl) ?_
          refine z_gr C0 hw wt 5 (wt + 3) (fk_of (shl_wt_0 wt hwt) rfl) fl_X9_18 (dk2 dF_180 DX9_tell (i := 21) rfl rfl rfl) ?_
          refine lv_iload_n hx hb (dkP dF_27 DX9_tell (i := 22) rfl rfl) rfl (lv_at hl 1 rfl) ?_
          refine z_ialdN (n := 200) C0 hw (wt + 3) wn (ak_of (shl_wt_3 wt hwt)) (by omega) (by decide) (dkP dF_46 DX9_tell (i := 23) rfl rfl) ?_
          obtain ⟨v7, ev7⟩ : ∃ y : Int32, σ.1 (wt + 3) wn = y := ⟨_, rfl⟩
          refine z_top (y := v7) ev7 ?_
          exact z_iret C0 hr hlk hw rfl (dkP dF_172 DX9_tell (i := 24) rfl rfl)
        | 3, _ =>
          refine lv_tableIn (x := nI 3) (off := 54) (tgt := 69) hx hb (dX9_tell_15) (by decide) (by decide) rfl (by decide) ?_
          refine lv_aload_n hx hb (dkP dF_42 DX9_tell (i := 25) rfl rfl) rfl (lv_at hl 0 rfl) ?_
          refine z_gr C0 hw wt 6 (wt + 4) (fk_of (shl_wt_0 wt hwt) rfl) fl_X9_21 (dk2 dF_180 DX9_tell (i := 26) rfl rfl rfl) ?_
          refine lv_iload_n hx hb (dkP dF_27 DX9_tell (i := 27) rfl rfl) rfl (lv_at hl 1 rfl) ?_
          refine z_ialdN (n := 200) C0 hw (wt + 4) wn (ak_of (shl_wt_4 wt hwt)) (by omega) (by decide) (dkP dF_46 DX9_tell (i := 28) rfl rfl) ?_
          obtain ⟨n8, hn8, en8⟩ := rngN (x := σ.1 (wt + 4) wn) (h := 100) (tcr_12 hT (tck_wt_4 wt hwt))
          refine z_top (y := nI n8) en8 ?_
          exact z_iret C0 hr hlk hw rfl (dkP dF_172 DX9_tell (i := 29) rfl rfl)
        | 4, _ =>
          refine lv_tableIn (x := nI 4) (off := 61) (tgt := 76) hx hb (dX9_tell_15) (by decide) (by decide) rfl (by decide) ?_
          refine lv_iload_n hx hb (dkP dF_29 DX9_tell (i := 30) rfl rfl) rfl (lv_at hl 3 rfl) ?_
          refine lv_if_lt (tgt := 90) hx hb (dkS dF_155 DX9_tell (i := 31) rfl rfl rfl) (by decide) (fun c9 => ?_) (fun c9 => ?_)
          · (try simp (disch := omega) only [ta_lt, ta_le, ta_eq, tnI, tl32 0 (by decide)] at c9)
            refine lv_iconst (v := (-1)) hx hb (dkP dF_2 DX9_tell (i := 38) rfl rfl) (by decide) ?_
            refine lv_goto (tgt := 110) hx hb (dkS dF_167 DX9_tell (i := 39) rfl rfl rfl) (by decide) ?_
            exact z_iret C0 hr hlk hw rfl (dkP dF_172 DX9_tell (i := 51) rfl rfl)
          · (try simp (disch := omega) only [ta_lt, ta_le, ta_eq, tnI, tl32 0 (by decide)] at c9)
            refine lv_iload_n hx hb (dkP dF_29 DX9_tell (i := 32) rfl rfl) rfl (lv_at hl 3 rfl) ?_
            refine lv_aload_n hx hb (dkP dF_42 DX9_tell (i := 33) rfl rfl) rfl (lv_at hl 0 rfl) ?_
            refine z_gr C0 hw wt 6 (wt + 4) (fk_of (shl_wt_0 wt hwt) rfl) fl_X9_21 (dk2 dF_180 DX9_tell (i := 34) rfl rfl rfl) ?_
            refine lv_iload_n hx hb (dkP dF_27 DX9_tell (i := 35) rfl rfl) rfl (lv_at hl 1 rfl) ?_
            refine z_ialdN (n := 200) C0 hw (wt + 4) wn (ak_of (shl_wt_4 wt hwt)) (by omega) (by decide) (dkP dF_46 DX9_tell (i := 36) rfl rfl) ?_
            obtain ⟨n10, hn10, en10⟩ := rngN (x := σ.1 (wt + 4) wn) (h := 100) (tcr_12 hT (tck_wt_4 wt hwt))
            refine z_top (y := nI n10) en10 ?_
            refine lv_icmp_lt (tgt := 94) hx hb (dkS dF_161 DX9_tell (i := 37) rfl rfl rfl) (by decide) (fun c11 => ?_) (fun c11 => ?_)
            · (try simp (disch := omega) only [ta_lt, ta_le, ta_eq, tnI] at c11); have hz11 := i32b ix
              obtain ⟨xn, hxn, rfl⟩ := to_nat (x := ix) (n := 100) (by (try simp only [lg_cmp_lt, lg_cmp_le, lg_cmp_gt, lg_cmp_ge, lg_cmp_eq] at c1); (try simp (disch := omega) only [ta_lt, ta_le, ta_eq, tb_lt, tb_le, tb_eq, tw, tnI, tsub1, tsv, tsb32, tn32 1 (by decide), tnj 1 (by decide), tl32 0 (by decide), tl64 0 (by decide)] at c1); (try simp only [lg_cmp_lt, lg_cmp_le, lg_cmp_gt, lg_cmp_ge, lg_cmp_eq] at c3); (try simp (disch := omega) only [ta_lt, ta_le, ta_eq, tb_lt, tb_le, tb_eq, tw, tnI, tsub1, tsv, tsb32, tn32 1 (by decide), tnj 1 (by decide), tl32 0 (by decide), tl64 0 (by decide)] at c3); (try simp only [lg_cmp_lt, lg_cmp_le, lg_cmp_gt, lg_cmp_ge, lg_cmp_eq] at c9); (try simp (disch := omega) only [ta_lt, ta_le, ta_eq, tb_lt, tb_le, tb_eq, tw, tnI, tsub1, tsv, tsb32, tn32 1 (by decide), tnj 1 (by decide), tl32 0 (by decide), tl64 0 (by decide)] at c9); (try simp only [lg_cmp_lt, lg_cmp_le, lg_cmp_gt, lg_cmp_ge, lg_cmp_eq] at c11); (try simp (disch := omega) only [ta_lt, ta_le, ta_eq, tb_lt, tb_le, tb_eq, tw, tnI, tsub1, tsv, tsb32, tn32 1 (by decide), tnj 1 (by decide), tl32 0 (by decide), tl64 0 (by decide)] at c11); (try simp (disch := omega) only [ta_lt, ta_le, ta_eq, tb_lt, tb_le, tb_eq, tw, tnI, tsub1, tsv, tsb32, tn32 1 (by decide), tnj 1 (by decide), tl32 0 (by decide), tl64 0 (by decide)]); omega)
              refine lv_aload_n hx hb (dkP dF_42 DX9_tell (i := 40) rfl rfl) rfl (lv_at hl 0 rfl) ?_
              refine z_gr C0 hw wt 9 (wt + 7) (fk_of (shl_wt_0 wt hwt) rfl) fl_X9_31 (dk2 dF_180 DX9_tell (i := 41) rfl rfl rfl) ?_
              refine lv_aload_n hx hb (dkP dF_42 DX9_tell (i := 42) rfl rfl) rfl (lv_at hl 0 rfl) ?_
              refine z_gr C0 hw wt 8 (wt + 6) (fk_of (shl_wt_0 wt hwt) rfl) fl_X9_27 (dk2 dF_180 DX9_tell (i := 43) rfl rfl rfl) ?_
              refine lv_iload_n hx hb (dkP dF_27 DX9_tell (i := 44) rfl rfl) rfl (lv_at hl 1 rfl) ?_
              refine lv_bipush (v := 100) hx hb (dks dF_16 DX9_tell (i := 45) rfl rfl rfl) (by decide) ?_
              refine lv_imul hx hb (dkP dF_104 DX9_tell (i := 46) rfl rfl) ?_
              refine z_top (y := nI (wn * 100)) (by simp only [fa_lit, nI_add, pk_mul]) ?_
              refine lv_iload_n hx hb (dkP dF_29 DX9_tell (i := 47) rfl rfl) rfl (lv_at hl 3 rfl) ?_
              refine lv_iadd hx hb (dkP dF_96 DX9_tell (i := 48) rfl rfl) ?_
              refine z_top (y := nI ((wn * 100) + xn)) (by simp only [fa_lit, nI_add, pk_mul]) ?_
              refine z_baldN (n := 20000) C0 hw (wt + 6) ((wn * 100) + xn) (ak_of (shl_wt_6 wt hwt)) (by omega) (by decide) (dkP dF_51 DX9_tell (i := 49) rfl rfl) ?_
              obtain ⟨n12, hn12, en12⟩ := rngN (x := σ.1 (wt + 6) ((wn * 100) + xn)) (h := 23) (tcr_9 hT (tck_wt_6 wt hwt))
              refine z_top (y := nI n12) en12 ?_
              refine z_ialdN (n := 24) C0 hw (wt + 7) n12 (ak_of (shl_wt_7 wt hwt)) (by omega) (by decide) (dkP dF_46 DX9_tell (i := 50) rfl rfl) ?_
              obtain ⟨v13, ev13⟩ : ∃ y : Int32, σ.1 (wt + 7) n12 = y := ⟨_, rfl⟩
              refine z_top (y := v13) ev13 ?_
              exact z_iret C0 hr hlk hw rfl (dkP dF_172 DX9_tell (i := 51) rfl rfl)
            · (try simp (disch := omega) only [ta_lt, ta_le, ta_eq, tnI] at c11); have hz11 := i32b ix
              refine lv_iconst (v := (-1)) hx hb (dkP dF_2 DX9_tell (i := 38) rfl rfl) (by decide) ?_
              refine lv_goto (tgt := 110) hx hb (dkS dF_167 DX9_tell (i := 39) rfl rfl rfl) (by decide) ?_
              exact z_iret C0 hr hlk hw rfl (dkP dF_172 DX9_tell (i := 51) rfl rfl)
        | j + 5, hj => exact absurd hj (by omega)
      · refine lv_tableOut (tgt := 111) hx hb (dX9_tell_15) (by omega) (by decide) ?_
        refine lv_iconst (v := (-1)) hx hb (dkP dF_2 DX9_tell (i := 52) rfl rfl) (by decide) ?_
        exact z_iret C0 hr hlk hw rfl (dkP dF_172 DX9_tell (i := 53) rfl rfl)
    · (try simp (disch := omega) only [ta_lt, ta_le, ta_eq, tnI] at c3); have hz3 := i32b wy
      refine lv_iconst (v := (-1)) hx hb (dkP dF_2 DX9_tell (i := 6) rfl rfl) (by decide) ?_
      exact z_iret C0 hr hlk hw rfl (dkP dF_172 DX9_tell (i := 7) rfl rfl)
set_option maxRecDepth 100000 in
set_option maxHeartbeats 8000000 in
theorem c_X9_coefficient (l : Launch) (G : va_G) (kc : KC) (ad : Nat → Nat) (σ : Sg) (wt : Nat) (wy : Int32) (field : Int32) (ix : Int32) (hwt : wt ∈ wtL) (hT : TC σ) : MI l G kc yX9_coefficient cX9_coefficient 4 (some .int) 1 20 [.ref (ad wt), .int wy, .int field, .int ix] shC ad σ (fun r σ1 => σ1 = σ) := by
  intro sz
  refine z_body (y := yX9_coefficient) (n := 4) (av := [.ref (ad wt), .int wy, .int field, .int ix]) (Qc := fun A => va_Qi (fun r σ1 => σ1 = σ) (PoC G kc shC ad A) A) (plainFor_of_name (by decide)) (Nat.le_of_ble_eq_true rfl) (fun pr e s m below meth c A C0 hr hlk hnm hw hRo ls hl => ?_) sz
  have hx := C0.1
  have hb := C0.2.1
  have hown := C0.2.2.2.1
  have hts := C0.2.2.2.2.1
  have hl : lv_has ls 4 [(0, .ref (ad wt)), (1, .int wy), (2, .int field), (3, .int ix)] := hl
  refine lv_iload_n hx hb (dkP dF_27 DX9_coefficient (i := 0) rfl rfl) rfl (lv_at hl 1 rfl) ?_
  refine lv_if_lt (tgt := 32) hx hb (dkS dF_155 DX9_coefficient (i := 1) rfl rfl rfl) (by decide) (fun c1 => ?_) (fun c1 => ?_)
  · (try simp (disch := omega) only [ta_lt, ta_le, ta_eq, tnI, tl32 0 (by decide)] at c1)
    refine lv_ldc hx hb hown (hts _ kn_X9_171) (dk1 dF_18 DX9_coefficient (i := 16) rfl rfl rfl) ?_
    exact z_iret C0 hr hlk hw rfl (dkP dF_172 DX9_coefficient (i := 17) rfl rfl)
  · (try simp (disch := omega) only [ta_lt, ta_le, ta_eq, tnI, tl32 0 (by decide)] at c1)
    refine lv_iload_n hx hb (dkP dF_27 DX9_coefficient (i := 2) rfl rfl) rfl (lv_at hl 1 rfl) ?_
    refine lv_aload_n hx hb (dkP dF_42 DX9_coefficient (i := 3) rfl rfl) rfl (lv_at hl 0 rfl) ?_
    refine z_gi C0 hw wt 0 (fk_of (shl_wt_0 wt hwt) rfl) fl_X9_43 (dk2 dF_180 DX9_coefficient (i := 4) rfl rfl rfl) ?_
    obtain ⟨n2, hn2, en2⟩ := rngN (x := σ.1 wt 0) (h := 200) (tcr_11_0 hT (tck_wt_0 wt hwt))
    refine z_top (y := nI n2) en2 ?_
    refine lv_icmp_ge (tgt := 32) hx hb (dkS dF_162 DX9_coefficient (i := 5) rfl rfl rfl) (by decide) (fun c3 => ?_) (fun c3 => ?_)
    · (try simp (disch := omega) only [ta_lt, ta_le, ta_eq, tnI] at c3); have hz3 := i32b wy
      refine lv_ldc hx hb hown (hts _ kn_X9_171) (dk1 dF_18 DX9_coefficient (i := 16) rfl rfl rfl) ?_
      exact z_iret C0 hr hlk hw rfl (dkP dF_172 DX9_coefficient (i := 17) rfl rfl)
    · (try simp (disch := omega) only [ta_lt, ta_le, ta_eq, tnI] at c3); have hz3 := i32b wy
      obtain ⟨wn, hwn, rfl⟩ := to_nat (x := wy) (n := 200) (by (try simp only [lg_cmp_lt, lg_cmp_le, lg_cmp_gt, lg_cmp_ge, lg_cmp_eq] at c1); (try simp (disch := omega) only [ta_lt, ta_le, ta_eq, tb_lt, tb_le, tb_eq, tw, tnI, tsub1, tsv, tsb32, tn32 2000000000 (by decide), tnj 2000000000 (by decide), tn32 1 (by decide), tnj 1 (by decide), tl32 0 (by decide), tl64 0 (by decide)] at c1); (try simp only [lg_cmp_lt, lg_cmp_le, lg_cmp_gt, lg_cmp_ge, lg_cmp_eq] at c3); (try simp (disch := omega) only [ta_lt, ta_le, ta_eq, tb_lt, tb_le, tb_eq, tw, tnI, tsub1, tsv, tsb32, tn32 2000000000 (by decide), tnj 2000000000 (by decide), tn32 1 (by decide), tnj 1 (by decide), tl32 0 (by decide), tl64 0 (by decide)] at c3); (try simp (disch := omega) only [ta_lt, ta_le, ta_eq, tb_lt, tb_le, tb_eq, tw, tnI, tsub1, tsv, tsb32, tn32 2000000000 (by decide), tnj 2000000000 (by decide), tn32 1 (by decide), tnj 1 (by decide), tl32 0 (by decide), tl64 0 (by decide)]); omega)
      refine lv_iload_n hx hb (dkP dF_28 DX9_coefficient (i := 6) rfl rfl) rfl (lv_at hl 2 rfl) ?_
      refine zn_I hw (zr_S (As := [.int field]) (rest := []) C0 (c_X11_isField l G kc field  _) cs_X11_isField lk_X9_167 (zp_P C0 hRo hw a00 s00) rfl hl.1 rfl ⟨by decide, by decide⟩ (Nat.le_of_ble_eq_true rfl) (dk2 dF_184 DX9_coefficient (i := 7) rfl rfl rfl) ⟨Nat.le_refl _, Nat.le_refl _⟩) (fun r4 s4 H locs hp hw => ?_)
      rcases hp with ⟨rfl, hc4⟩ | ⟨rfl, hc4⟩
      · skip
        (try simp (disch := omega) only [ta_lt, ta_le, ta_eq, tb_lt, tb_le, tb_eq, tw, tnI, tn32 2000000000 (by decide), tnj 2000000000 (by decide), tn32 1 (by decide), tnj 1 (by decide), tl32 0 (by decide), tl64 0 (by decide)] at hc4)
        obtain ⟨k_field, hk_field, rfl⟩ := to_nat (x := field) (n := 8) (by (try simp only [lg_cmp_lt, lg_cmp_le, lg_cmp_gt, lg_cmp_ge, lg_cmp_eq] at c1); (try simp (disch := omega) only [ta_lt, ta_le, ta_eq, tb_lt, tb_le, tb_eq, tw, tnI, tn32 2000000000 (by decide), tnj 2000000000 (by decide), tn32 1 (by decide), tnj 1 (by decide), tl32 0 (by decide), tl64 0 (by decide)] at c1); (try simp only [lg_cmp_lt, lg_cmp_le, lg_cmp_gt, lg_cmp_ge, lg_cmp_eq] at c3); (try simp (disch := omega) only [ta_lt, ta_le, ta_eq, tb_lt, tb_le, tb_eq, tw, tnI, tn32 2000000000 (by decide), tnj 2000000000 (by decide), tn32 1 (by decide), tnj 1 (by decide), tl32 0 (by decide), tl64 0 (by decide)] at c3); (try simp only [lg_cmp_lt, lg_cmp_le, lg_cmp_gt, lg_cmp_ge, lg_cmp_eq] at hc4); (try simp (disch := omega) only [ta_lt, ta_le, ta_eq, tb_lt, tb_le, tb_eq, tw, tnI, tn32 2000000000 (by decide), tnj 2000000000 (by decide), tn32 1 (by decide), tnj 1 (by decide), tl32 0 (by decide), tl64 0 (by decide)] at hc4); (try simp (disch := omega) only [ta_lt, ta_le, ta_eq, tb_lt, tb_le, tb_eq, tw, tnI, tn32 2000000000 (by decide), tnj 2000000000 (by decide), tn32 1 (by decide), tnj 1 (by decide), tl32 0 (by decide), tl64 0 (by decide)]); omega)
        refine lv_if_eq (tgt := 32) hx hb (dkS dF_153 DX9_coefficient (i := 8) rfl rfl rfl) (by decide) (fun h => absurd h (by decide)) (fun _ => ?_)
        refine lv_iload_n hx hb (dkP dF_29 DX9_coefficient (i := 9) rfl rfl) rfl (lv_at hl 3 rfl) ?_
        refine lv_iconst (v := (-1)) hx hb (dkP dF_2 DX9_coefficient (i := 10) rfl rfl) (by decide) ?_
        refine lv_icmp_lt (tgt := 32) hx hb (dkS dF_161 DX9_coefficient (i := 11) rfl rfl rfl) (by decide) (fun c5 => ?_) (fun c5 => ?_)
        · (try simp (disch := omega) only [ta_lt, ta_le, ta_eq, tnI, tn32 1 (by decide)] at c5)
          refine lv_ldc hx hb hown (hts _ kn_X9_171) (dk1 dF_18 DX9_coefficient (i := 16) rfl rfl rfl) ?_
          exact z_iret C0 hr hlk hw rfl (dkP dF_172 DX9_coefficient (i := 17) rfl rfl)
        · (try simp (disch := omega) only [ta_lt, ta_le, ta_eq, tnI, tn32 1 (by decide)] at c5)
          refine lv_iload_n hx hb (dkP dF_29 DX9_coefficient (i := 12) rfl rfl) rfl (lv_at hl 3 rfl) ?_
          refine lv_aload_n hx hb (dkP dF_42 DX9_coefficient (i := 13) rfl rfl) rfl (lv_at hl 0 rfl) ?_
          refine z_gi C0 hw wt 1 (fk_of (shl_wt_0 wt hwt) rfl) fl_X9_52 (dk2 dF_180 DX9_coefficient (i := 14) rfl rfl rfl) ?_
          obtain ⟨n6, hn6, en6⟩ := rngN (x := σ.1 wt 1) (h := 3) (tcr_11_1 hT (tck_wt_0 wt hwt))
          refine z_top (y := nI n6) en6 ?_
          refine lv_icmp_lt (tgt := 35) hx hb (dkS dF_161 DX9_coefficient (i := 15) rfl rfl rfl) (by decide) (fun c7 => ?_) (fun c7 => ?_)
          · (try simp (disch := omega) only [ta_lt, ta_le, ta_eq, tnI] at c7); have hz7 := i32b ix
            refine lv_aload_n hx hb (dkP dF_42 DX9_coefficient (i := 18) rfl rfl) rfl (lv_at hl 0 rfl) ?_
            refine z_gr C0 hw wt 10 (wt + 8) (fk_of (shl_wt_0 wt hwt) rfl) fl_X9_34 (dk2 dF_180 DX9_coefficient (i := 19) rfl rfl rfl) ?_
            refine lv_iload_n hx hb (dkP dF_27 DX9_coefficient (i := 20) rfl rfl) rfl (lv_at hl 1 rfl) ?_
            refine lv_bipush (v := 32) hx hb (dks dF_16 DX9_coefficient (i := 21) rfl rfl rfl) (by decide) ?_
            refine lv_imul hx hb (dkP dF_104 DX9_coefficient (i := 22) rfl rfl) ?_
            refine z_top (y := nI (wn * 32)) (by simp only [fa_lit, nI_add, pk_mul]) ?_
            refine lv_iload_n hx hb (dkP dF_28 DX9_coefficient (i := 23) rfl rfl) rfl (lv_at hl 2 rfl) ?_
            refine lv_iconst (v := 4) hx hb (dkP dF_7 DX9_coefficient (i := 24) rfl rfl) (by decide) ?_
            refine lv_imul hx hb (dkP dF_104 DX9_coefficient (i := 25) rfl rfl) ?_
            refine z_top (y := nI (k_field * 4)) (by simp only [fa_lit, nI_add, pk_mul]) ?_
            refine lv_iadd hx hb (dkP dF_96 DX9_coefficient (i := 26) rfl rfl) ?_
            refine z_top (y := nI ((wn * 32) + (k_field * 4))) (by simp only [fa_lit, nI_add, pk_mul]) ?_
            refine lv_iload_n hx hb (dkP dF_29 DX9_coefficient (i := 27) rfl rfl) rfl (lv_at hl 3 rfl) ?_
            refine lv_iconst (v := (-1)) hx hb (dkP dF_2 DX9_coefficient (i := 28) rfl rfl) (by decide) ?_
            refine lv_icmp_ne (tgt := 56) hx hb (dkS dF_160 DX9_coefficient (i := 29) rfl rfl rfl) (by decide) (fun c8 => ?_) (fun c8 => ?_)
            · (try simp (disch := omega) only [ta_lt, ta_le, ta_eq, tnI, tn32 1 (by decide)] at c8)
              obtain ⟨xn, hxn, rfl⟩ := to_nat (x := ix) (n := 3) (by (try simp only [lg_cmp_lt, lg_cmp_le, lg_cmp_gt, lg_cmp_ge, lg_cmp_eq] at c1); (try simp (disch := omega) only [ta_lt, ta_le, ta_eq, tb_lt, tb_le, tb_eq, tw, tnI, tsub1, tsv, tsb32, tn32 2000000000 (by decide), tnj 2000000000 (by decide), tn32 1 (by decide), tnj 1 (by decide), tl32 0 (by decide), tl64 0 (by decide), tl32 4 (by decide), tl64 4 (by decide), tl32 32 (by decide), tl64 32 (by decide)] at c1); (try simp only [lg_cmp_lt, lg_cmp_le, lg_cmp_gt, lg_cmp_ge, lg_cmp_eq] at c3); (try simp (disch := omega) only [ta_lt, ta_le, ta_eq, tb_lt, tb_le, tb_eq, tw, tnI, tsub1, tsv, tsb32, tn32 2000000000 (by decide), tnj 2000000000 (by decide), tn32 1 (by decide), tnj 1 (by decide), tl32 0 (by decide), tl64 0 (by decide), tl32 4 (by decide), tl64 4 (by decide), tl32 32 (by decide), tl64 32 (by decide)] at c3); (try simp only [lg_cmp_lt, lg_cmp_le, lg_cmp_gt, lg_cmp_ge, lg_cmp_eq] at hc4); (try simp (disch := omega) only [ta_lt, ta_le, ta_eq, tb_lt, tb_le, tb_eq, tw, tnI, tsub1, tsv, tsb32, tn32 2000000000 (by decide), tnj 2000000000 (by decide), tn32 1 (by decide), tnj 1 (by decide), tl32 0 (by decide), tl64 0 (by decide), tl32 4 (by decide), tl64 4 (by decide), tl32 32 (by decide), tl64 32 (by decide)] at hc4); (try simp only [lg_cmp_lt, lg_cmp_le, lg_cmp_gt, lg_cmp_ge, lg_cmp_eq] at c5); (try simp (disch := omega) only [ta_lt, ta_le, ta_eq, tb_lt, tb_le, tb_eq, tw, tnI, tsub1, tsv, tsb32, tn32 2000000000 (by decide), tnj 2000000000 (by decide), tn32 1 (by decide), tnj 1 (by decide), tl32 0 (by decide), tl64 0 (by decide), tl32 4 (by decide), tl64 4 (by decide), tl32 32 (by decide), tl64 32 (by decide)] at c5); (try simp only [lg_cmp_lt, lg_cmp_le, lg_cmp_gt, lg_cmp_ge, lg_cmp_eq] at c7); (try simp (disch := omega) only [ta_lt, ta_le, ta_eq, tb_lt, tb_le, tb_eq, tw, tnI, tsub1, tsv, tsb32, tn32 2000000000 (by decide), tnj 2000000000 (by decide), tn32 1 (by decide), tnj 1 (by decide), tl32 0 (by decide), tl64 0 (by decide), tl32 4 (by decide), tl64 4 (by decide), tl32 32 (by decide), tl64 32 (by decide)] at c7); (try simp only [lg_cmp_lt, lg_cmp_le, lg_cmp_gt, lg_cmp_ge, lg_cmp_eq] at c8); (try simp (disch := omega) only [ta_lt, ta_le, ta_eq, tb_lt, tb_le, tb_eq, tw, tnI, tsub1, tsv, tsb32, tn32 2000000000 (by decide), tnj 2000000000 (by decide), tn32 1 (by decide), tnj 1 (by decide), tl32 0 (by decide), tl64 0 (by decide), tl32 4 (by decide), tl64 4 (by decide), tl32 32 (by decide), tl64 32 (by decide)] at c8); (try simp (disch := omega) only [ta_lt, ta_le, ta_eq, tb_lt, tb_le, tb_eq, tw, tnI, tsub1, tsv, tsb32, tn32 2000000000 (by decide), tnj 2000000000 (by decide), tn32 1 (by decide), tnj 1 (by decide), tl32 0 (by decide), tl64 0 (by decide), tl32 4 (by decide), tl64 4 (by decide), tl32 32 (by decide), tl64 32 (by decide)]); omega)
              refine lv_iload_n hx hb (dkP dF_29 DX9_coefficient (i := 32) rfl rfl) rfl (lv_at hl 3 rfl) ?_
              refine lv_iadd hx hb (dkP dF_96 DX9_coefficient (i := 33) rfl rfl) ?_
              refine z_top (y := nI (((wn * 32) + (k_field * 4)) + xn)) (by simp only [fa_lit, nI_add, pk_mul]) ?_
              refine z_ialdN (n := 6400) C0 hw (wt + 8) (((wn * 32) + (k_field * 4)) + xn) (ak_of (shl_wt_8 wt hwt)) (by omega) (by decide) (dkP dF_46 DX9_coefficient (i := 34) rfl rfl) ?_
              obtain ⟨v9, ev9⟩ : ∃ y : Int32, σ.1 (wt + 8) (((wn * 32) + (k_field * 4)) + xn) = y := ⟨_, rfl⟩
              refine z_top (y := v9) ev9 ?_
              exact z_iret C0 hr hlk hw rfl (dkP dF_172 DX9_coefficient (i := 35) rfl rfl)
            · (try simp (disch := omega) only [ta_lt, ta_le, ta_eq, tnI, tn32 1 (by decide)] at c8)
              refine lv_iconst (v := 3) hx hb (dkP dF_6 DX9_coefficient (i := 30) rfl rfl) (by decide) ?_
              refine lv_goto (tgt := 57) hx hb (dkS dF_167 DX9_coefficient (i := 31) rfl rfl rfl) (by decide) ?_
              refine lv_iadd hx hb (dkP dF_96 DX9_coefficient (i := 33) rfl rfl) ?_
              refine z_top (y := nI (((wn * 32) + (k_field * 4)) + 3)) (by simp only [fa_lit, nI_add, pk_mul]) ?_
              refine z_ialdN (n := 6400) C0 hw (wt + 8) (((wn * 32) + (k_field * 4)) + 3) (ak_of (shl_wt_8 wt hwt)) (by omega) (by decide) (dkP dF_46 DX9_coefficient (i := 34) rfl rfl) ?_
              obtain ⟨v10, ev10⟩ : ∃ y : Int32, σ.1 (wt + 8) (((wn * 32) + (k_field * 4)) + 3) = y := ⟨_, rfl⟩
              refine z_top (y := v10) ev10 ?_
              exact z_iret C0 hr hlk hw rfl (dkP dF_172 DX9_coefficient (i := 35) rfl rfl)
          · (try simp (disch := omega) only [ta_lt, ta_le, ta_eq, tnI] at c7); have hz7 := i32b ix
            refine lv_ldc hx hb hown (hts _ kn_X9_171) (dk1 dF_18 DX9_coefficient (i := 16) rfl rfl rfl) ?_
            exact z_iret C0 hr hlk hw rfl (dkP dF_172 DX9_coefficient (i := 17) rfl rfl)
      · skip
        (try simp (disch := omega) only [ta_lt, ta_le, ta_eq, tb_lt, tb_le, tb_eq, tw, tnI, tn32 2000000000 (by decide), tnj 2000000000 (by decide), tn32 1 (by decide), tnj 1 (by decide), tl32 0 (by decide), tl64 0 (by decide), tl32 3 (by decide), tl64 3 (by decide), tl32 4 (by decide), tl64 4 (by decide), tl32 32 (by decide), tl64 32 (by decide)] at hc4)
        refine lv_if_eq (tgt := 32) hx hb (dkS dF_153 DX9_coefficient (i := 8) rfl rfl rfl) (by decide) (fun _ => ?_) (fun h => absurd h (by decide))
        refine lv_ldc hx hb hown (hts _ kn_X9_171) (dk1 dF_18 DX9_coefficient (i := 16) rfl rfl rfl) ?_
        exact z_iret C0 hr hlk hw rfl (dkP dF_172 DX9_coefficient (i := 17) rfl rfl)
set_option maxRecDepth 20000 in
theorem shl_mc_0 : ∀ d, d ∈ mcL → shC[d + 0]? = some (0, 0, [(1, d + 1), (1, d + 2), (1, d + 3), (1, d + 4), (0, 0), (0, 0), (0, 0), (0, 0), (0, 0)]) := by decide +kernel
theorem tck_mc_0 : ∀ d, d ∈ mcL → tcL.getD (d + 0) 0 = 8 := by decide +kernel
set_option maxRecDepth 20000 in
theorem shl_mc_3 : ∀ d, d ∈ mcL → shC[d + 3]? = some (2, 100, []) := by decide +kernel
theorem tck_mc_3 : ∀ d, d ∈ mcL → tcL.getD (d + 3) 0 = 9 := by decide +kernel
set_option maxRecDepth 100000 in
set_option maxHeartbeats 8000000 in
theorem c_X9_isLike (l : Launch) (G : va_G) (kc : KC) (ad : Nat → Nat) (σ : Sg) (wt : Nat) (wy : Nat) (mc : Nat) (hwt : wt ∈ wtL) (hmc : mc ∈ mcL) (hwy : wy < 200) (hT : TC σ) : MI l G kc yX9_isLike cX9_isLike 4 (some .boolean) 0 0 [.ref (ad wt), .int (nI wy), .ref (ad mc)] shC ad σ (fun r σ1 => ((r = 1 ∧ (True)) ∨ (r = 0 ∧ (True))) ∧ σ1 = σ) := by
  intro sz
  refine z_body (y := yX9_isLike) (n := 4) (av := [.ref (ad wt), .int (nI wy), .ref (ad mc)]) (Qc := fun A => va_Qi (fun r σ1 => ((r = 1 ∧ (True)) ∨ (r = 0 ∧ (True))) ∧ σ1 = σ) (PoC G kc shC ad A) A) (plainFor_of_name (by decide)) (Nat.le_of_ble_eq_true rfl) (fun pr e s m below meth c A C0 hr hlk hnm hw hRo ls hl => ?_) sz
  have hx := C0.1
  have hb := C0.2.1
  have hown := C0.2.2.2.1
  have hts := C0.2.2.2.2.1
  have hl : lv_has ls 4 [(0, .ref (ad wt)), (1, .int (nI wy)), (2, .ref (ad mc))] := hl
  refine lv_aload_n hx hb (dkP dF_42 DX9_isLike (i := 0) rfl rfl) rfl (lv_at hl 0 rfl) ?_
  refine z_gr C0 hw wt 5 (wt + 3) (fk_of (shl_wt_0 wt hwt) rfl) fl_X9_18 (dk2 dF_180 DX9_isLike (i := 1) rfl rfl rfl) ?_
  refine lv_iload_n hx hb (dkP dF_27 DX9_isLike (i := 2) rfl rfl) rfl (lv_at hl 1 rfl) ?_
  refine z_ialdN (n := 200) C0 hw (wt + 3) wy (ak_of (shl_wt_3 wt hwt)) (by omega) (by decide) (dkP dF_46 DX9_isLike (i := 3) rfl rfl) ?_
  obtain ⟨v1, ev1⟩ : ∃ y : Int32, σ.1 (wt + 3) wy = y := ⟨_, rfl⟩
  refine z_top (y := v1) ev1 ?_
  refine lv_aload_n hx hb (dkP dF_44 DX9_isLike (i := 4) rfl rfl) rfl (lv_at hl 2 rfl) ?_
  refine z_gi C0 hw mc 6 (fk_of (shl_mc_0 mc hmc) rfl) fl_X9_93 (dk2 dF_180 DX9_isLike (i := 5) rfl rfl rfl) ?_
  obtain ⟨v2, ev2⟩ : ∃ y : Int32, σ.1 mc 6 = y := ⟨_, rfl⟩
  refine z_top (y := v2) ev2 ?_
  refine lv_icmp_ne (tgt := 26) hx hb (dkS dF_160 DX9_isLike (i := 6) rfl rfl rfl) (by decide) (fun c3 => ?_) (fun c3 => ?_)
  · (try simp (disch := omega) only [ta_lt, ta_le, ta_eq, tnI] at c3)
    refine lv_iconst (v := 0) hx hb (dkP dF_3 DX9_isLike (i := 14) rfl rfl) (by decide) ?_
    exact z_zret C0 hr hlk (by decide) hw (⟨(Or.inr ⟨rfl, trivial⟩), rfl⟩) (dkP dF_172 DX9_isLike (i := 15) rfl rfl)
  · (try simp (disch := omega) only [ta_lt, ta_le, ta_eq, tnI] at c3)
    refine lv_aload_n hx hb (dkP dF_42 DX9_isLike (i := 7) rfl rfl) rfl (lv_at hl 0 rfl) ?_
    refine z_gr C0 hw wt 6 (wt + 4) (fk_of (shl_wt_0 wt hwt) rfl) fl_X9_21 (dk2 dF_180 DX9_isLike (i := 8) rfl rfl rfl) ?_
    refine lv_iload_n hx hb (dkP dF_27 DX9_isLike (i := 9) rfl rfl) rfl (lv_at hl 1 rfl) ?_
    refine z_ialdN (n := 200) C0 hw (wt + 4) wy (ak_of (shl_wt_4 wt hwt)) (by omega) (by decide) (dkP dF_46 DX9_isLike (i := 10) rfl rfl) ?_
    obtain ⟨n4, hn4, en4⟩ := rngN (x := σ.1 (wt + 4) wy) (h := 100) (tcr_12 hT (tck_wt_4 wt hwt))
    refine z_top (y := nI n4) en4 ?_
    refine lv_aload_n hx hb (dkP dF_44 DX9_isLike (i := 11) rfl rfl) rfl (lv_at hl 2 rfl) ?_
    refine z_gi C0 hw mc 5 (fk_of (shl_mc_0 mc hmc) rfl) fl_X9_96 (dk2 dF_180 DX9_isLike (i := 12) rfl rfl rfl) ?_
    obtain ⟨n5, hn5, en5⟩ := rngN (x := σ.1 mc 5) (h := 100) (tcr_8_5 hT (tck_mc_0 mc hmc))
    refine z_top (y := nI n5) en5 ?_
    refine lv_icmp_eq (tgt := 28) hx hb (dkS dF_159 DX9_isLike (i := 13) rfl rfl rfl) (by decide) (fun c6 => ?_) (fun c6 => ?_)
    · simp (disch := omega) only [ta_lt, ta_le, ta_eq, tnI] at c6
      refine lv_iconst (v := 0) hx hb (dkP dF_3 DX9_isLike (i := 16) rfl rfl) (by decide) ?_
      refine lv_istore_n (lv' := [(3, .int 0), (0, .ref (ad wt)), (1, .int (nI wy)), (2, .ref (ad mc))]) hx hb (dkP dF_62 DX9_isLike (i := 17) rfl rfl) rfl hl (by decide) rfl (fun ls hl => ?_)
      have lp7 : ∀ (nq : Nat) (q3_30 : Nat) (H : Heap) (locs : List Loc) (ls : Array Slot), 100 - q3_30 < nq → (q3_30 ≤ 100) → St G kc A s.heap shC ad σ H locs → lv_has ls 4 [(3, .int (nI q3_30)), (0, .ref (ad wt)), (1, .int (nI wy)), (2, .ref (ad mc))] → W pr l e { frames := 0, cells := 0, slots := 0, locals := 0 } s m ([.ref (ad wt), .int (nI wy), .ref (ad mc)] : List Value).toArray below meth c H locs 0 0 (MQ below (va_Qi (fun r σ1 => ((r = 1 ∧ (True)) ∨ (r = 0 ∧ (True))) ∧ σ1 = σ) (PoC G kc shC ad A) A) ([.ref (ad wt), .int (nI wy), .ref (ad mc)] : List Value).toArray s 0 0 A) (F0 m 30 ls []) := by
        intro nq
        induction nq with
        | zero => intro q3_30 H locs ls hmu; exact absurd hmu (Nat.not_lt_zero _)
        | succ nq ih7 =>
          intro q3_30 H locs ls hmu hq3_30 hw hl
          refine lv_iload_n hx hb (dkP dF_29 DX9_isLike (i := 18) rfl rfl) rfl (lv_at hl 0 rfl) ?_
          refine lv_aload_n hx hb (dkP dF_44 DX9_isLike (i := 19) rfl rfl) rfl (lv_at hl 3 rfl) ?_
          refine z_gi C0 hw mc 5 (fk_of (shl_mc_0 mc hmc) rfl) fl_X9_96 (dk2 dF_180 DX9_isLike (i := 20) rfl rfl rfl) ?_
          refine z_top (y := (nI n5)) en5 ?_
          refine lv_icmp_ge (tgt := 66) hx hb (dkS dF_162 DX9_isLike (i := 21) rfl rfl rfl) (by decide) (fun c8 => ?_) (fun c8 => ?_)
          · simp (disch := omega) only [ta_lt, ta_le, ta_eq, tnI] at c8
            refine lv_iconst (v := 1) hx hb (dkP dF_4 DX9_isLike (i := 39) rfl rfl) (by decide) ?_
            exact z_zret C0 hr hlk (by decide) hw (⟨(Or.inl ⟨rfl, trivial⟩), rfl⟩) (dkP dF_172 DX9_isLike (i := 40) rfl rfl)
          · simp (disch := omega) only [ta_lt, ta_le, ta_eq, tnI] at c8
            refine lv_aload_n hx hb (dkP dF_42 DX9_isLike (i := 22) rfl rfl) rfl (lv_at hl 1 rfl) ?_
            refine z_gr C0 hw wt 8 (wt + 6) (fk_of (shl_wt_0 wt hwt) rfl) fl_X9_27 (dk2 dF_180 DX9_isLike (i := 23) rfl rfl rfl) ?_
            refine lv_iload_n hx hb (dkP dF_27 DX9_isLike (i := 24) rfl rfl) rfl (lv_at hl 2 rfl) ?_
            refine lv_bipush (v := 100) hx hb (dks dF_16 DX9_isLike (i := 25) rfl rfl rfl) (by decide) ?_
            refine lv_imul hx hb (dkP dF_104 DX9_isLike (i := 26) rfl rfl) ?_
            refine z_top (y := nI (wy * 100)) (by simp only [fa_lit, nI_add, pk_mul]) ?_
            refine lv_iload_n hx hb (dkP dF_29 DX9_isLike (i := 27) rfl rfl) rfl (lv_at hl 0 rfl) ?_
            refine lv_iadd hx hb (dkP dF_96 DX9_isLike (i := 28) rfl rfl) ?_
            refine z_top (y := nI ((wy * 100) + q3_30)) (by simp only [fa_lit, nI_add, pk_mul]) ?_
            refine z_baldN (n := 20000) C0 hw (wt + 6) ((wy * 100) + q3_30) (ak_of (shl_wt_6 wt hwt)) (by omega) (by decide) (dkP dF_51 DX9_isLike (i := 29) rfl rfl) ?_
            obtain ⟨n9, hn9, en9⟩ := rngN (x := σ.1 (wt + 6) ((wy * 100) + q3_30)) (h := 23) (tcr_9 hT (tck_wt_6 wt hwt))
            refine z_top (y := nI n9) en9 ?_
            refine lv_aload_n hx hb (dkP dF_44 DX9_isLike (i := 30) rfl rfl) rfl (lv_at hl 3 rfl) ?_
            refine z_gr C0 hw mc 2 (mc + 3) (fk_of (shl_mc_0 mc hmc) rfl) fl_X9_99 (dk2 dF_180 DX9_isLike (i := 31) rfl rfl rfl) ?_
            refine lv_iload_n hx hb (dkP dF_29 DX9_isLike (i := 32) rfl rfl) rfl (lv_at hl 0 rfl) ?_
            refine z_baldN (n := 100) C0 hw (mc + 3) q3_30 (ak_of (shl_mc_3 mc hmc)) (by omega) (by decide) (dkP dF_51 DX9_isLike (i := 33) rfl rfl) ?_
            obtain ⟨n10, hn10, en10⟩ := rngN (x := σ.1 (mc + 3) q3_30) (h := 23) (tcr_9 hT (tck_mc_3 mc hmc))
            refine z_top (y := nI n10) en10 ?_
            refine lv_icmp_eq (tgt := 60) hx hb (dkS dF_159 DX9_isLike (i := 34) rfl rfl rfl) (by decide) (fun c11 => ?_) (fun c11 => ?_)
            · simp (disch := omega) only [ta_lt, ta_le, ta_eq, tnI] at c11
              refine lv_iinc (v := nI (q3_30 + 1)) (lv' := [(3, .int (nI (q3_30 + 1))), (0, .ref (ad wt)), (1, .int (nI wy)), (2, .ref (ad mc))]) hx hb (dkI DX9_isLike (i := 37) rfl rfl rfl rfl) hl (k := 0) rfl (nI_1 _) (by decide) rfl (fun ls hl => ?_)
              refine lv_goto (tgt := 30) hx hb (dkS dF_167 DX9_isLike (i := 38) rfl rfl rfl) (by decide) ?_
              exact ih7 (q3_30 + 1) _ _ _ (by omega) (by (try simp only [lg_cmp_lt, lg_cmp_le, lg_cmp_gt, lg_cmp_ge, lg_cmp_eq] at c3); (try simp (disch := omega) only [ta_lt, ta_le, ta_eq, tb_lt, tb_le, tb_eq, tw, tnI, tsub1, tsv, tsb32, tn32 1 (by decide), tnj 1 (by decide), tl32 0 (by decide), tl64 0 (by decide), tl32 1 (by decide), tl64 1 (by decide), tl32 100 (by decide), tl64 100 (by decide)] at c3); (try simp only [lg_cmp_lt, lg_cmp_le, lg_cmp_gt, lg_cmp_ge, lg_cmp_eq] at c6); (try simp (disch := omega) only [ta_lt, ta_le, ta_eq, tb_lt, tb_le, tb_eq, tw, tnI, tsub1, tsv, tsb32, tn32 1 (by decide), tnj 1 (by decide), tl32 0 (by decide), tl64 0 (by decide), tl32 1 (by decide), tl64 1 (by decide), tl32 100 (by decide), tl64 100 (by decide)] at c6); (try simp only [lg_cmp_lt, lg_cmp_le, lg_cmp_gt, lg_cmp_ge, lg_cmp_eq] at c8); (try simp (disch := omega) only [ta_lt, ta_le, ta_eq, tb_lt, tb_le, tb_eq, tw, tnI, tsub1, tsv, tsb32, tn32 1 (by decide), tnj 1 (by decide), tl32 0 (by decide), tl64 0 (by decide), tl32 1 (by decide), tl64 1 (by decide), tl32 100 (by decide), tl64 100 (by decide)] at c8); (try simp only [lg_cmp_lt, lg_cmp_le, lg_cmp_gt, lg_cmp_ge, lg_cmp_eq] at c11); (try simp (disch := omega) only [ta_lt, ta_le, ta_eq, tb_lt, tb_le, tb_eq, tw, tnI, tsub1, tsv, tsb32, tn32 1 (by decide), tnj 1 (by decide), tl32 0 (by decide), tl64 0 (by decide), tl32 1 (by decide), tl64 1 (by decide), tl32 100 (by decide), tl64 100 (by decide)] at c11); (try simp (disch := omega) only [ta_lt, ta_le, ta_eq, tb_lt, tb_le, tb_eq, tw, tnI, tsub1, tsv, tsb32, tn32 1 (by decide), tnj 1 (by decide), tl32 0 (by decide), tl64 0 (by decide), tl32 1 (by decide), tl64 1 (by decide), tl32 100 (by decide), tl64 100 (by decide)]); omega) hw (lv_sub hl [0, 1, 2, 3] rfl)
            · simp (disch := omega) only [ta_lt, ta_le, ta_eq, tnI] at c11
              refine lv_iconst (v := 0) hx hb (dkP dF_3 DX9_isLike (i := 35) rfl rfl) (by decide) ?_
              exact z_zret C0 hr hlk (by decide) hw (⟨(Or.inr ⟨rfl, trivial⟩), rfl⟩) (dkP dF_172 DX9_isLike (i := 36) rfl rfl)
      exact lp7 _ 0 _ _ _ (Nat.lt_succ_self _) (by (try simp only [lg_cmp_lt, lg_cmp_le, lg_cmp_gt, lg_cmp_ge, lg_cmp_eq] at c3); (try simp (disch := omega) only [ta_lt, ta_le, ta_eq, tb_lt, tb_le, tb_eq, tw, tnI, tsub1, tsv, tsb32, tn32 1 (by decide), tnj 1 (by decide), tl32 0 (by decide), tl64 0 (by decide), tl32 1 (by decide), tl64 1 (by decide), tl32 100 (by decide), tl64 100 (by decide)] at c3); (try simp only [lg_cmp_lt, lg_cmp_le, lg_cmp_gt, lg_cmp_ge, lg_cmp_eq] at c6); (try simp (disch := omega) only [ta_lt, ta_le, ta_eq, tb_lt, tb_le, tb_eq, tw, tnI, tsub1, tsv, tsb32, tn32 1 (by decide), tnj 1 (by decide), tl32 0 (by decide), tl64 0 (by decide), tl32 1 (by decide), tl64 1 (by decide), tl32 100 (by decide), tl64 100 (by decide)] at c6); (try simp (disch := omega) only [ta_lt, ta_le, ta_eq, tb_lt, tb_le, tb_eq, tw, tnI, tsub1, tsv, tsb32, tn32 1 (by decide), tnj 1 (by decide), tl32 0 (by decide), tl64 0 (by decide), tl32 1 (by decide), tl64 1 (by decide), tl32 100 (by decide), tl64 100 (by decide)]); omega) hw (lv_sub hl [0, 1, 2, 3] rfl)
    · simp (disch := omega) only [ta_lt, ta_le, ta_eq, tnI] at c6
      refine lv_iconst (v := 0) hx hb (dkP dF_3 DX9_isLike (i := 14) rfl rfl) (by decide) ?_
      exact z_zret C0 hr hlk (by decide) hw (⟨(Or.inr ⟨rfl, trivial⟩), rfl⟩) (dkP dF_172 DX9_isLike (i := 15) rfl rfl)
set_option maxRecDepth 20000 in
theorem shl_wt_5 : ∀ d, d ∈ wtL → shC[d + 5]? = some (1, 200, []) := by decide +kernel
theorem tck_wt_5 : ∀ d, d ∈ wtL → tcL.getD (d + 5) 0 = 0 := by decide +kernel
set_option maxRecDepth 100000 in
set_option maxHeartbeats 8000000 in
theorem c_X9_wayLike (l : Launch) (G : va_G) (kc : KC) (ad : Nat → Nat) (σ : Sg) (wt : Nat) (mc : Nat) (hwt : wt ∈ wtL) (hmc : mc ∈ mcL) (hT : TC σ) : MI l G kc yX9_wayLike cX9_wayLike 3 (some .int) 1 23 [.ref (ad wt), .ref (ad mc)] shC ad σ (fun r σ1 => (-1 ≤ r.toInt ∧ r.toInt ≤ 199) ∧ σ1 = σ) := by
  intro sz
  refine z_body (y := yX9_wayLike) (n := 3) (av := [.ref (ad wt), .ref (ad mc)]) (Qc := fun A => va_Qi (fun r σ1 => (-1 ≤ r.toInt ∧ r.toInt ≤ 199) ∧ σ1 = σ) (PoC G kc shC ad A) A) (plainFor_of_name (by decide)) (Nat.le_of_ble_eq_true rfl) (fun pr e s m below meth c A C0 hr hlk hnm hw hRo ls hl => ?_) sz
  have hx := C0.1
  have hb := C0.2.1
  have hown := C0.2.2.2.1
  have hts := C0.2.2.2.2.1
  have hl : lv_has ls 3 [(0, .ref (ad wt)), (1, .ref (ad mc))] := hl
  refine lv_iconst (v := 0) hx hb (dkP dF_3 DX9_wayLike (i := 0) rfl rfl) (by decide) ?_
  refine lv_istore_n (lv' := [(2, .int 0), (0, .ref (ad wt)), (1, .ref (ad mc))]) hx hb (dkP dF_61 DX9_wayLike (i := 1) rfl rfl) rfl hl (by decide) rfl (fun ls hl => ?_)
  have lp1 : ∀ (nq : Nat) (q2_2 : Nat) (H : Heap) (locs : List Loc) (ls : Array Slot), 200 - q2_2 < nq → (q2_2 ≤ 200) → St G kc A s.heap shC ad σ H locs → lv_has ls 3 [(2, .int (nI q2_2)), (0, .ref (ad wt)), (1, .ref (ad mc))] → W pr l e { frames := 1, cells := 0, slots := 0, locals := 23 } s m ([.ref (ad wt), .ref (ad mc)] : List Value).toArray below meth c H locs 0 0 (MQ below (va_Qi (fun r σ1 => (-1 ≤ r.toInt ∧ r.toInt ≤ 199) ∧ σ1 = σ) (PoC G kc shC ad A) A) ([.ref (ad wt), .ref (ad mc)] : List Value).toArray s 0 0 A) (F0 m 2 ls []) := by
    intro nq
    induction nq with
    | zero => intro q2_2 H locs ls hmu; exact absurd hmu (Nat.not_lt_zero _)
    | succ nq ih1 =>
      intro q2_2 H locs ls hmu hq2_2 hw hl
      refine lv_iload_n hx hb (dkP dF_28 DX9_wayLike (i := 2) rfl rfl) rfl (lv_at hl 0 rfl) ?_
      refine lv_aload_n hx hb (dkP dF_42 DX9_wayLike (i := 3) rfl rfl) rfl (lv_at hl 1 rfl) ?_
      refine z_gi C0 hw wt 0 (fk_of (shl_wt_0 wt hwt) rfl) fl_X9_43 (dk2 dF_180 DX9_wayLike (i := 4) rfl rfl rfl) ?_
      obtain ⟨n2, hn2, en2⟩ := rngN (x := σ.1 wt 0) (h := 200) (tcr_11_0 hT (tck_wt_0 wt hwt))
      refine z_top (y := nI n2) en2 ?_
      refine lv_icmp_ge (tgt := 40) hx hb (dkS dF_162 DX9_wayLike (i := 5) rfl rfl rfl) (by decide) (fun c3 => ?_) (fun c3 => ?_)
      · simp (disch := omega) only [ta_lt, ta_le, ta_eq, tnI] at c3
        refine lv_iconst (v := (-1)) hx hb (dkP dF_2 DX9_wayLike (i := 22) rfl rfl) (by decide) ?_
        exact z_iret C0 hr hlk hw (⟨(show -1 ≤ _ ∧ _ ≤ 199 from by (try simp (disch := omega) only [tnI, tn32 1 (by decide), tl32 0 (by decide)]); omega), rfl⟩) (dkP dF_172 DX9_wayLike (i := 23) rfl rfl)
      · simp (disch := omega) only [ta_lt, ta_le, ta_eq, tnI] at c3
        refine lv_aload_n hx hb (dkP dF_42 DX9_wayLike (i := 6) rfl rfl) rfl (lv_at hl 1 rfl) ?_
        refine z_gr C0 hw wt 7 (wt + 5) (fk_of (shl_wt_0 wt hwt) rfl) fl_X9_24 (dk2 dF_180 DX9_wayLike (i := 7) rfl rfl rfl) ?_
        refine lv_iload_n hx hb (dkP dF_28 DX9_wayLike (i := 8) rfl rfl) rfl (lv_at hl 0 rfl) ?_
        refine z_ialdN (n := 200) C0 hw (wt + 5) q2_2 (ak_of (shl_wt_5 wt hwt)) (by omega) (by decide) (dkP dF_46 DX9_wayLike (i := 9) rfl rfl) ?_
        obtain ⟨v4, ev4⟩ : ∃ y : Int32, σ.1 (wt + 5) q2_2 = y := ⟨_, rfl⟩
        refine z_top (y := v4) ev4 ?_
        refine lv_aload_n hx hb (dkP dF_43 DX9_wayLike (i := 10) rfl rfl) rfl (lv_at hl 2 rfl) ?_
        refine z_gi C0 hw mc 8 (fk_of (shl_mc_0 mc hmc) rfl) fl_X9_86 (dk2 dF_180 DX9_wayLike (i := 11) rfl rfl rfl) ?_
        obtain ⟨v5, ev5⟩ : ∃ y : Int32, σ.1 mc 8 = y := ⟨_, rfl⟩
        refine z_top (y := v5) ev5 ?_
        refine lv_icmp_ne (tgt := 34) hx hb (dkS dF_160 DX9_wayLike (i := 12) rfl rfl rfl) (by decide) (fun c6 => ?_) (fun c6 => ?_)
        · (try simp (disch := omega) only [ta_lt, ta_le, ta_eq, tnI] at c6)
          refine lv_iinc (v := nI (q2_2 + 1)) (lv' := [(2, .int (nI (q2_2 + 1))), (0, .ref (ad wt)), (1, .ref (ad mc))]) hx hb (dkI DX9_wayLike (i := 20) rfl rfl rfl rfl) hl (k := 0) rfl (nI_1 _) (by decide) rfl (fun ls hl => ?_)
          refine lv_goto (tgt := 2) hx hb (dkS dF_167 DX9_wayLike (i := 21) rfl rfl rfl) (by decide) ?_
          exact ih1 (q2_2 + 1) _ _ _ (by omega) (by (try simp only [lg_cmp_lt, lg_cmp_le, lg_cmp_gt, lg_cmp_ge, lg_cmp_eq] at c3); (try simp (disch := omega) only [ta_lt, ta_le, ta_eq, tb_lt, tb_le, tb_eq, tw, tnI, tsub1, tsv, tsb32, tn32 1 (by decide), tnj 1 (by decide), tl32 0 (by decide), tl64 0 (by decide)] at c3); (try simp only [lg_cmp_lt, lg_cmp_le, lg_cmp_gt, lg_cmp_ge, lg_cmp_eq] at c6); (try simp (disch := omega) only [ta_lt, ta_le, ta_eq, tb_lt, tb_le, tb_eq, tw, tnI, tsub1, tsv, tsb32, tn32 1 (by decide), tnj 1 (by decide), tl32 0 (by decide), tl64 0 (by decide)] at c6); (try simp (disch := omega) only [ta_lt, ta_le, ta_eq, tb_lt, tb_le, tb_eq, tw, tnI, tsub1, tsv, tsb32, tn32 1 (by decide), tnj 1 (by decide), tl32 0 (by decide), tl64 0 (by decide)]); omega) hw (lv_sub hl [0, 1, 2] rfl)
        · (try simp (disch := omega) only [ta_lt, ta_le, ta_eq, tnI] at c6)
          refine lv_aload_n hx hb (dkP dF_42 DX9_wayLike (i := 13) rfl rfl) rfl (lv_at hl 1 rfl) ?_
          refine lv_iload_n hx hb (dkP dF_28 DX9_wayLike (i := 14) rfl rfl) rfl (lv_at hl 0 rfl) ?_
          refine lv_aload_n hx hb (dkP dF_43 DX9_wayLike (i := 15) rfl rfl) rfl (lv_at hl 2 rfl) ?_
          refine zk_I hw (zr_V (As := [.int (nI q2_2), .ref (ad mc)]) (rest := []) C0 (c_X9_isLike l G kc ad σ wt q2_2 mc hwt hmc (by first | omega | assumption | decide | rfl) hT _) cv_X9_isLike lk_X9_89 (zp_V C0 hRo hw wt (shl_wt_0 wt hwt) rfl rfl) rfl hl.1 rfl ⟨by decide, by decide⟩ (Nat.le_of_ble_eq_true rfl) (dk2 dF_182 DX9_wayLike (i := 16) rfl rfl rfl) ⟨Nat.le_refl _, Nat.le_refl _⟩) (fun r7 s7 H locs hp hw => ?_)
          obtain ⟨f7_0, hs7⟩ := hp
          (rw [hs7] at hw)
          rcases f7_0 with ⟨rfl, hc7⟩ | ⟨rfl, hc7⟩
          · skip
            refine lv_if_eq (tgt := 34) hx hb (dkS dF_153 DX9_wayLike (i := 17) rfl rfl rfl) (by decide) (fun h => absurd h (by decide)) (fun _ => ?_)
            refine lv_iload_n hx hb (dkP dF_28 DX9_wayLike (i := 18) rfl rfl) rfl (lv_at hl 0 rfl) ?_
            exact z_iret C0 hr hlk hw (⟨(show -1 ≤ _ ∧ _ ≤ 199 from by (try simp (disch := omega) only [tnI, tn32 1 (by decide), tl32 0 (by decide)]); omega), rfl⟩) (dkP dF_172 DX9_wayLike (i := 19) rfl rfl)
          · skip
            refine lv_if_eq (tgt := 34) hx hb (dkS dF_153 DX9_wayLike (i := 17) rfl rfl rfl) (by decide) (fun _ => ?_) (fun h => absurd h (by decide))
            refine lv_iinc (v := nI (q2_2 + 1)) (lv' := [(2, .int (nI (q2_2 + 1))), (0, .ref (ad wt)), (1, .ref (ad mc))]) hx hb (dkI DX9_wayLike (i := 20) rfl rfl rfl rfl) hl (k := 0) rfl (nI_1 _) (by decide) rfl (fun ls hl => ?_)
            refine lv_goto (tgt := 2) hx hb (dkS dF_167 DX9_wayLike (i := 21) rfl rfl rfl) (by decide) ?_
            exact ih1 (q2_2 + 1) _ _ _ (by omega) (by (try simp only [lg_cmp_lt, lg_cmp_le, lg_cmp_gt, lg_cmp_ge, lg_cmp_eq] at c3); (try simp (disch := omega) only [ta_lt, ta_le, ta_eq, tb_lt, tb_le, tb_eq, tw, tnI, tsub1, tsv, tsb32, tn32 1 (by decide), tnj 1 (by decide), tl32 0 (by decide), tl64 0 (by decide)] at c3); (try simp only [lg_cmp_lt, lg_cmp_le, lg_cmp_gt, lg_cmp_ge, lg_cmp_eq] at c6); (try simp (disch := omega) only [ta_lt, ta_le, ta_eq, tb_lt, tb_le, tb_eq, tw, tnI, tsub1, tsv, tsb32, tn32 1 (by decide), tnj 1 (by decide), tl32 0 (by decide), tl64 0 (by decide)] at c6); (try simp only [lg_cmp_lt, lg_cmp_le, lg_cmp_gt, lg_cmp_ge, lg_cmp_eq] at f7_0); (try simp (disch := omega) only [ta_lt, ta_le, ta_eq, tb_lt, tb_le, tb_eq, tw, tnI, tsub1, tsv, tsb32, tn32 1 (by decide), tnj 1 (by decide), tl32 0 (by decide), tl64 0 (by decide)] at f7_0); (try simp only [lg_cmp_lt, lg_cmp_le, lg_cmp_gt, lg_cmp_ge, lg_cmp_eq] at hc7); (try simp (disch := omega) only [ta_lt, ta_le, ta_eq, tb_lt, tb_le, tb_eq, tw, tnI, tsub1, tsv, tsb32, tn32 1 (by decide), tnj 1 (by decide), tl32 0 (by decide), tl64 0 (by decide)] at hc7); (try simp (disch := omega) only [ta_lt, ta_le, ta_eq, tb_lt, tb_le, tb_eq, tw, tnI, tsub1, tsv, tsb32, tn32 1 (by decide), tnj 1 (by decide), tl32 0 (by decide), tl64 0 (by decide)]); omega) hw (lv_sub hl [0, 1, 2] rfl)
  exact lp1 _ 0 _ _ _ (Nat.lt_succ_self _) (by (try simp (disch := omega) only [ta_lt, ta_le, ta_eq, tb_lt, tb_le, tb_eq, tw, tnI, tsub1, tsv, tsb32, tn32 1 (by decide), tnj 1 (by decide), tl32 0 (by decide), tl64 0 (by decide)]); omega) hw (lv_sub hl [0, 1, 2] rfl)
theorem nI_div32 : ∀ {q : Nat}, q < 100 → nI q / 32 = nI (q / 32) := by decide +kernel
set_option maxRecDepth 20000 in
theorem shl_mc_4 : ∀ d, d ∈ mcL → shC[d + 4]? = some (1, 4, []) := by decide +kernel
theorem tck_mc_4 : ∀ d, d ∈ mcL → tcL.getD (d + 4) 0 = 0 := by decide +kernel
set_option maxRecDepth 100000 in
set_option maxHeartbeats 8000000 in
theorem c_X0_addTurn (l : Launch) (G : va_G) (kc : KC) (ad : Nat → Nat) (σ : Sg) (mc : Nat) (hd : Int32) {q : Nat} (hmc : mc ∈ mcL) (hq : σ.1 mc 4 = nI q) (hq9 : q < 100) (hT : TC σ) : MV l G kc yX0_addTurn cX0_addTurn 2 0 0 [.ref (ad mc), .int hd] shC ad σ (fun σ1 => (σ1.1 mc 4 = nI (q + 1)) ∧ TC σ1 ∧ frC (fun x y => (x = mc + 4) ∨ (x = mc ∧ y = 4)) σ σ1) := by
  intro sz
  refine z_body (y := yX0_addTurn) (n := 2) (av := [.ref (ad mc), .int hd]) (Qc := fun A => va_Qv (fun σ1 => (σ1.1 mc 4 = nI (q + 1)) ∧ TC σ1 ∧ frC (fun x y => (x = mc + 4) ∨ (x = mc ∧ y = 4)) σ σ1) (PoC G kc shC ad A) A) (plainFor_of_name (by decide)) (Nat.le_of_ble_eq_true rfl) (fun pr e s m below meth c A C0 hr hlk hnm hw hRo ls hl => ?_) sz
  have hx := C0.1
  have hb := C0.2.1
  have hown := C0.2.2.2.1
  have hts := C0.2.2.2.2.1
  have hl : lv_has ls 2 [(0, .ref (ad mc)), (1, .int hd)] := hl
  refine lv_iload_n hx hb (dkP dF_27 DX0_addTurn (i := 0) rfl rfl) rfl (lv_at hl 1 rfl) ?_
  refine lv_if_eq (tgt := 28) hx hb (dkS dF_153 DX0_addTurn (i := 1) rfl rfl rfl) (by decide) (fun c1 => ?_) (fun c1 => ?_)
  · (try simp (disch := omega) only [ta_lt, ta_le, ta_eq, tnI, tl32 0 (by decide)] at c1)
    refine lv_aload_n hx hb (dkP dF_42 DX0_addTurn (i := 18) rfl rfl) rfl (lv_at hl 0 rfl) ?_
    refine lv_dup hx hb (dkP dF_89 DX0_addTurn (i := 19) rfl rfl) rfl ?_
    refine z_gi C0 hw mc 4 (fk_of (shl_mc_0 mc hmc) rfl) fl_X0_45 (dk2 dF_180 DX0_addTurn (i := 20) rfl rfl rfl) ?_
    refine z_top (y := (nI q)) hq ?_
    refine lv_iconst (v := 1) hx hb (dkP dF_4 DX0_addTurn (i := 21) rfl rfl) (by decide) ?_
    refine lv_iadd hx hb (dkP dF_96 DX0_addTurn (i := 22) rfl rfl) ?_
    refine z_top (y := nI (q + 1)) (by simp only [fa_lit, nI_add, pk_mul]) ?_
    refine z_pi C0 hw mc 4 (fk_of (shl_mc_0 mc hmc) rfl) fp_X0_45 (dk2 dF_181 DX0_addTurn (i := 23) rfl rfl rfl) (fun H locs hw => ?_)
    have hT2 : TC (sI σ mc 4 (nI (q + 1))) := TC.w hT (tcw_8_4 (tck_mc_0 mc hmc) (by (try simp only [lg_cmp_lt, lg_cmp_le, lg_cmp_gt, lg_cmp_ge, lg_cmp_eq] at c1); (try simp (disch := omega) only [ta_lt, ta_le, ta_eq, tb_lt, tb_le, tb_eq, tw, tnI, tsub1, tsv, tsb32, tn32 1 (by decide), tnj 1 (by decide), tl32 0 (by decide), tl64 0 (by decide), tl32 1 (by decide), tl64 1 (by decide)] at c1); (try simp (disch := omega) only [ta_lt, ta_le, ta_eq, tb_lt, tb_le, tb_eq, tw, tnI, tsub1, tsv, tsb32, tn32 1 (by decide), tnj 1 (by decide), tl32 0 (by decide), tl64 0 (by decide), tl32 1 (by decide), tl64 1 (by decide)]); omega))
    have hF2 : frC (fun x y => (x = mc + 4) ∨ (x = mc ∧ y = 4)) σ (sI σ mc 4 (nI (q + 1))) := frC.w frC.refl (by show (mc = mc + 4) ∨ (mc = mc ∧ 4 = 4); exact Or.inr (⟨rfl, rfl⟩))
    exact z_vret C0 hr hlk hw (⟨rd_s, hT2, hF2⟩) (dkP dF_177 DX0_addTurn (i := 24) rfl rfl)
  · (try simp (disch := omega) only [ta_lt, ta_le, ta_eq, tnI, tl32 0 (by decide)] at c1)
    refine lv_aload_n hx hb (dkP dF_42 DX0_addTurn (i := 2) rfl rfl) rfl (lv_at hl 0 rfl) ?_
    refine z_gr C0 hw mc 3 (mc + 4) (fk_of (shl_mc_0 mc hmc) rfl) fl_X0_24 (dk2 dF_180 DX0_addTurn (i := 3) rfl rfl rfl) ?_
    refine lv_aload_n hx hb (dkP dF_42 DX0_addTurn (i := 4) rfl rfl) rfl (lv_at hl 0 rfl) ?_
    refine z_gi C0 hw mc 4 (fk_of (shl_mc_0 mc hmc) rfl) fl_X0_45 (dk2 dF_180 DX0_addTurn (i := 5) rfl rfl rfl) ?_
    refine z_top (y := (nI q)) hq ?_
    refine lv_bipush (v := 32) hx hb (dks dF_16 DX0_addTurn (i := 6) rfl rfl rfl) (by decide) ?_
    refine lv_idiv hx hb (dkP dF_108 DX0_addTurn (i := 7) rfl rfl) (by decide) ?_
    refine z_top (y := nI (q / 32)) (nI_div32 (by omega)) ?_
    refine lv_dup2_11 hx hb (dkP dF_92 DX0_addTurn (i := 8) rfl rfl) rfl rfl ?_
    refine z_ialdN (n := 4) C0 hw (mc + 4) (q / 32) (ak_of (shl_mc_4 mc hmc)) (by omega) (by decide) (dkP dF_46 DX0_addTurn (i := 9) rfl rfl) ?_
    obtain ⟨v3, ev3⟩ : ∃ y : Int32, σ.1 (mc + 4) (q / 32) = y := ⟨_, rfl⟩
    refine z_top (y := v3) ev3 ?_
    refine lv_iconst (v := 1) hx hb (dkP dF_4 DX0_addTurn (i := 10) rfl rfl) (by decide) ?_
    refine lv_aload_n hx hb (dkP dF_42 DX0_addTurn (i := 11) rfl rfl) rfl (lv_at hl 0 rfl) ?_
    refine z_gi C0 hw mc 4 (fk_of (shl_mc_0 mc hmc) rfl) fl_X0_45 (dk2 dF_180 DX0_addTurn (i := 12) rfl rfl rfl) ?_
    refine z_top (y := (nI q)) hq ?_
    refine lv_bipush (v := 32) hx hb (dks dF_16 DX0_addTurn (i := 13) rfl rfl rfl) (by decide) ?_
    refine lv_irem hx hb (dkP dF_112 DX0_addTurn (i := 14) rfl rfl) (by decide) ?_
    refine lv_ishl hx hb (dkP dF_120 DX0_addTurn (i := 15) rfl rfl) ?_
    refine lv_ior hx hb (dkP dF_128 DX0_addTurn (i := 16) rfl rfl) ?_
    refine z_iastN (n := 4) C0 hw (mc + 4) (q / 32) (ak_of (shl_mc_4 mc hmc)) (by omega) (by decide) (dkP dF_79 DX0_addTurn (i := 17) rfl rfl) (fun H locs hw => ?_)
    have hT4 : TC (sI σ (mc + 4) (q / 32) (v3 ||| (1 <<< ((nI q) - (nI q) / 32 * 32 &&& 31)))) := TC.w hT (tc0 (tck_mc_4 mc hmc))
    have hF4 : frC (fun x y => (x = mc + 4) ∨ (x = mc ∧ y = 4)) σ (sI σ (mc + 4) (q / 32) (v3 ||| (1 <<< ((nI q) - (nI q) / 32 * 32 &&& 31)))) := frC.w frC.refl (by show ((mc + 4) = mc + 4) ∨ ((mc + 4) = mc ∧ (q / 32) = 4); exact Or.inl rfl)
    refine lv_aload_n hx hb (dkP dF_42 DX0_addTurn (i := 18) rfl rfl) rfl (lv_at hl 0 rfl) ?_
    refine lv_dup hx hb (dkP dF_89 DX0_addTurn (i := 19) rfl rfl) rfl ?_
    refine z_gi C0 hw mc 4 (fk_of (shl_mc_0 mc hmc) rfl) fl_X0_45 (dk2 dF_180 DX0_addTurn (i := 20) rfl rfl rfl) ?_
    refine z_top (y := (nI q)) ((rd_n (by omega)).trans hq) ?_
    refine lv_iconst (v := 1) hx hb (dkP dF_4 DX0_addTurn (i := 21) rfl rfl) (by decide) ?_
    refine lv_iadd hx hb (dkP dF_96 DX0_addTurn (i := 22) rfl rfl) ?_
    refine z_top (y := nI (q + 1)) (by simp only [fa_lit, nI_add, pk_mul]) ?_
    refine z_pi C0 hw mc 4 (fk_of (shl_mc_0 mc hmc) rfl) fp_X0_45 (dk2 dF_181 DX0_addTurn (i := 23) rfl rfl rfl) (fun H locs hw => ?_)
    have hT5 : TC (sI (sI σ (mc + 4) (q / 32) (v3 ||| (1 <<< ((nI q) - (nI q) / 32 * 32 &&& 31)))) mc 4 (nI (q + 1))) := TC.w hT4 (tcw_8_4 (tck_mc_0 mc hmc) (by (try simp only [lg_cmp_lt, lg_cmp_le, lg_cmp_gt, lg_cmp_ge, lg_cmp_eq] at c1); (try simp (disch := omega) only [ta_lt, ta_le, ta_eq, tb_lt, tb_le, tb_eq, tw, tnI, tsub1, tsv, tsb32, tn32 1 (by decide), tnj 1 (by decide), tl32 0 (by decide), tl64 0 (by decide), tl32 1 (by decide), tl64 1 (by decide), tl32 32 (by decide), tl64 32 (by decide)] at c1); (try simp (disch := omega) only [ta_lt, ta_le, ta_eq, tb_lt, tb_le, tb_eq, tw, tnI, tsub1, tsv, tsb32, tn32 1 (by decide), tnj 1 (by decide), tl32 0 (by decide), tl64 0 (by decide), tl32 1 (by decide), tl64 1 (by decide), tl32 32 (by decide), tl64 32 (by decide)]); omega))
    have hF5 : frC (fun x y => (x = mc + 4) ∨ (x = mc ∧ y = 4)) σ (sI (sI σ (mc + 4) (q / 32) (v3 ||| (1 <<< ((nI q) - (nI q) / 32 * 32 &&& 31)))) mc 4 (nI (q + 1))) := frC.w hF4 (by show (mc = mc + 4) ∨ (mc = mc ∧ 4 = 4); exact Or.inr (⟨rfl, rfl⟩))
    exact z_vret C0 hr hlk hw (⟨rd_s, hT5, hF5⟩) (dkP dF_177 DX0_addTurn (i := 24) rfl rfl)
set_option maxRecDepth 100000 in
set_option maxHeartbeats 8000000 in
theorem c_X0_jump (l : Launch) (G : va_G) (kc : KC) (ad : Nat → Nat) (σ : Sg) (mc : Nat) (tgt : Int32) (hmc : mc ∈ mcL) (htg : -1 ≤ tgt.toInt ∧ tgt.toInt ≤ 23) (hT : TC σ) : MI l G kc yX0_jump cX0_jump 2 (some .int) 0 0 [.ref (ad mc), .int tgt] shC ad σ (fun r σ1 => (0 ≤ r.toInt ∧ r.toInt ≤ 23) ∧ TC σ1 ∧ frC (fun x y => (x = mc ∧ y = 6)) σ σ1) := by
  intro sz
  refine z_body (y := yX0_jump) (n := 2) (av := [.ref (ad mc), .int tgt]) (Qc := fun A => va_Qi (fun r σ1 => (0 ≤ r.toInt ∧ r.toInt ≤ 23) ∧ TC σ1 ∧ frC (fun x y => (x = mc ∧ y = 6)) σ σ1) (PoC G kc shC ad A) A) (plainFor_of_name (by decide)) (Nat.le_of_ble_eq_true rfl) (fun pr e s m below meth c A C0 hr hlk hnm hw hRo ls hl => ?_) sz
  have hx := C0.1
  have hb := C0.2.1
  have hown := C0.2.2.2.1
  have hts := C0.2.2.2.2.1
  have hl : lv_has ls 2 [(0, .ref (ad mc)), (1, .int tgt)] := hl
  refine lv_iload_n hx hb (dkP dF_27 DX0_jump (i := 0) rfl rfl) rfl (lv_at hl 1 rfl) ?_
  refine lv_iconst (v := (-1)) hx hb (dkP dF_2 DX0_jump (i := 1) rfl rfl) (by decide) ?_
  refine lv_icmp_ne (tgt := 12) hx hb (dkS dF_160 DX0_jump (i := 2) rfl rfl rfl) (by decide) (fun c1 => ?_) (fun c1 => ?_)
  · (try simp (disch := omega) only [ta_lt, ta_le, ta_eq, tnI, tn32 1 (by decide)] at c1)
    refine lv_iload_n hx hb (dkP dF_27 DX0_jump (i := 8) rfl rfl) rfl (lv_at hl 1 rfl) ?_
    exact z_iret C0 hr hlk hw (⟨(show 0 ≤ _ ∧ _ ≤ 23 from by (try simp only [lg_cmp_lt, lg_cmp_le, lg_cmp_gt, lg_cmp_ge, lg_cmp_eq] at c1); (try simp (disch := omega) only [ta_lt, ta_le, ta_eq, tb_lt, tb_le, tb_eq, tw, tnI, tsub1, tsv, tsb32, tn32 1 (by decide), tnj 1 (by decide), tl32 0 (by decide), tl64 0 (by decide)] at c1); (try simp (disch := omega) only [ta_lt, ta_le, ta_eq, tb_lt, tb_le, tb_eq, tw, tnI, tsub1, tsv, tsb32, tn32 1 (by decide), tnj 1 (by decide), tl32 0 (by decide), tl64 0 (by decide)]); omega), hT, frC.refl⟩) (dkP dF_172 DX0_jump (i := 9) rfl rfl)
  · (try simp (disch := omega) only [ta_lt, ta_le, ta_eq, tnI, tn32 1 (by decide)] at c1)
    refine lv_aload_n hx hb (dkP dF_42 DX0_jump (i := 3) rfl rfl) rfl (lv_at hl 0 rfl) ?_
    refine lv_iconst (v := 3) hx hb (dkP dF_6 DX0_jump (i := 4) rfl rfl) (by decide) ?_
    refine z_pi C0 hw mc 6 (fk_of (shl_mc_0 mc hmc) rfl) fp_X0_57 (dk2 dF_181 DX0_jump (i := 5) rfl rfl rfl) (fun H locs hw => ?_)
    have hT2 : TC (sI σ mc 6 3) := TC.w hT (tcw_8_6 (tck_mc_0 mc hmc))
    have hF2 : frC (fun x y => (x = mc ∧ y = 6)) σ (sI σ mc 6 3) := frC.w frC.refl (by show (mc = mc ∧ 6 = 6); exact ⟨rfl, rfl⟩)
    refine lv_iconst (v := 0) hx hb (dkP dF_3 DX0_jump (i := 6) rfl rfl) (by decide) ?_
    exact z_iret C0 hr hlk hw (⟨(by decide), hT2, hF2⟩) (dkP dF_172 DX0_jump (i := 7) rfl rfl)
def pgL : List Nat := [8, 30, 52, 74, 96, 118, 140, 162, 257, 279, 301, 323, 345, 367, 389, 411, 440, 462, 484, 506, 528, 550, 572, 594, 623, 645, 667, 689, 711, 733, 755, 777]
set_option maxRecDepth 20000 in
theorem shl_pg_0 : ∀ d, d ∈ pgL → shC[d + 0]? = some (0, 4, [(0, 0), (0, 0), (2, 0), (2, 0), (0, 0), (0, 0), (1, d + 19), (1, d + 20), (1, d + 21)]) := by decide +kernel
theorem tck_pg_0 : ∀ d, d ∈ pgL → tcL.getD (d + 0) 0 = 5 := by decide +kernel
set_option maxRecDepth 100000 in
set_option maxHeartbeats 8000000 in
theorem c_X4_mayChange (l : Launch) (G : va_G) (kc : KC) (ad : Nat → Nat) (σ : Sg) (pg : Nat)  (hpg : pg ∈ pgL) (hT : TC σ) : MI l G kc yX4_mayChange cX4_mayChange 1 (some .boolean) 0 0 [.ref (ad pg)] shC ad σ (fun r σ1 => ((r = 1 ∧ (True)) ∨ (r = 0 ∧ (True))) ∧ σ1 = σ) := by
  intro sz
  refine z_body (y := yX4_mayChange) (n := 1) (av := [.ref (ad pg)]) (Qc := fun A => va_Qi (fun r σ1 => ((r = 1 ∧ (True)) ∨ (r = 0 ∧ (True))) ∧ σ1 = σ) (PoC G kc shC ad A) A) (plainFor_of_name (by decide)) (Nat.le_of_ble_eq_true rfl) (fun pr e s m below meth c A C0 hr hlk hnm hw hRo ls hl => ?_) sz
  have hx := C0.1
  have hb := C0.2.1
  have hown := C0.2.2.2.1
  have hts := C0.2.2.2.2.1
  have hl : lv_has ls 1 [(0, .ref (ad pg))] := hl
  refine lv_aload_n hx hb (dkP dF_42 DX4_mayChange (i := 0) rfl rfl) rfl (lv_at hl 0 rfl) ?_
  refine z_gi C0 hw pg 0 (fk_of (shl_pg_0 pg hpg) rfl) fl_X4_9 (dk2 dF_180 DX4_mayChange (i := 1) rfl rfl rfl) ?_
  obtain ⟨v1, ev1⟩ : ∃ y : Int32, σ.1 pg 0 = y := ⟨_, rfl⟩
  refine z_top (y := v1) ev1 ?_
  refine lv_if_eq (tgt := 15) hx hb (dkS dF_153 DX4_mayChange (i := 2) rfl rfl rfl) (by decide) (fun c2 => ?_) (fun c2 => ?_)
  · (try simp (disch := omega) only [ta_lt, ta_le, ta_eq, tnI, tl32 0 (by decide)] at c2)
    refine lv_iconst (v := 1) hx hb (dkP dF_4 DX4_mayChange (i := 7) rfl rfl) (by decide) ?_
    refine lv_goto (tgt := 20) hx hb (dkS dF_167 DX4_mayChange (i := 8) rfl rfl rfl) (by decide) ?_
    exact z_zret C0 hr hlk (by decide) hw (⟨(Or.inl ⟨rfl, trivial⟩), rfl⟩) (dkP dF_172 DX4_mayChange (i := 10) rfl rfl)
  · (try simp (disch := omega) only [ta_lt, ta_le, ta_eq, tnI, tl32 0 (by decide)] at c2)
    refine lv_aload_n hx hb (dkP dF_42 DX4_mayChange (i := 3) rfl rfl) rfl (lv_at hl 0 rfl) ?_
    refine z_gi C0 hw pg 0 (fk_of (shl_pg_0 pg hpg) rfl) fl_X4_9 (dk2 dF_180 DX4_mayChange (i := 4) rfl rfl rfl) ?_
    refine z_top (y := v1) ev1 ?_
    refine lv_iconst (v := 1) hx hb (dkP dF_4 DX4_mayChange (i := 5) rfl rfl) (by decide) ?_
    refine lv_icmp_ne (tgt := 19) hx hb (dkS dF_160 DX4_mayChange (i := 6) rfl rfl rfl) (by decide) (fun c3 => ?_) (fun c3 => ?_)
    · (try simp (disch := omega) only [ta_lt, ta_le, ta_eq, tnI, tl32 1 (by decide)] at c3)
      refine lv_iconst (v := 0) hx hb (dkP dF_3 DX4_mayChange (i := 9) rfl rfl) (by decide) ?_
      exact z_zret C0 hr hlk (by decide) hw (⟨(Or.inr ⟨rfl, trivial⟩), rfl⟩) (dkP dF_172 DX4_mayChange (i := 10) rfl rfl)
    · (try simp (disch := omega) only [ta_lt, ta_le, ta_eq, tnI, tl32 1 (by decide)] at c3)
      refine lv_iconst (v := 1) hx hb (dkP dF_4 DX4_mayChange (i := 7) rfl rfl) (by decide) ?_
      refine lv_goto (tgt := 20) hx hb (dkS dF_167 DX4_mayChange (i := 8) rfl rfl rfl) (by decide) ?_
      exact z_zret C0 hr hlk (by decide) hw (⟨(Or.inl ⟨rfl, trivial⟩), rfl⟩) (dkP dF_172 DX4_mayChange (i := 10) rfl rfl)
set_option maxRecDepth 100000 in
set_option maxHeartbeats 8000000 in
theorem c_X4_hasInput (l : Launch) (G : va_G) (kc : KC) (ad : Nat → Nat) (σ : Sg) (pg : Nat) (inp : Int32) (hpg : pg ∈ pgL) (hT : TC σ) : MI l G kc yX4_hasInput cX4_hasInput 2 (some .boolean) 0 0 [.ref (ad pg), .int inp] shC ad σ (fun r σ1 => ((r = 1 ∧ (0 ≤ inp.toInt)) ∨ (r = 0 ∧ (True))) ∧ σ1 = σ) := by
  intro sz
  refine z_body (y := yX4_hasInput) (n := 2) (av := [.ref (ad pg), .int inp]) (Qc := fun A => va_Qi (fun r σ1 => ((r = 1 ∧ (0 ≤ inp.toInt)) ∨ (r = 0 ∧ (True))) ∧ σ1 = σ) (PoC G kc shC ad A) A) (plainFor_of_name (by decide)) (Nat.le_of_ble_eq_true rfl) (fun pr e s m below meth c A C0 hr hlk hnm hw hRo ls hl => ?_) sz
  have hx := C0.1
  have hb := C0.2.1
  have hown := C0.2.2.2.1
  have hts := C0.2.2.2.2.1
  have hl : lv_has ls 2 [(0, .ref (ad pg)), (1, .int inp)] := hl
  refine lv_iload_n hx hb (dkP dF_27 DX4_hasInput (i := 0) rfl rfl) rfl (lv_at hl 1 rfl) ?_
  refine lv_if_lt (tgt := 16) hx hb (dkS dF_155 DX4_hasInput (i := 1) rfl rfl rfl) (by decide) (fun c1 => ?_) (fun c1 => ?_)
  · (try simp (disch := omega) only [ta_lt, ta_le, ta_eq, tnI, tl32 0 (by decide)] at c1)
    refine lv_iconst (v := 0) hx hb (dkP dF_3 DX4_hasInput (i := 8) rfl rfl) (by decide) ?_
    exact z_zret C0 hr hlk (by decide) hw (⟨(Or.inr ⟨rfl, trivial⟩), rfl⟩) (dkP dF_172 DX4_hasInput (i := 9) rfl rfl)
  · (try simp (disch := omega) only [ta_lt, ta_le, ta_eq, tnI, tl32 0 (by decide)] at c1)
    refine lv_iload_n hx hb (dkP dF_27 DX4_hasInput (i := 2) rfl rfl) rfl (lv_at hl 1 rfl) ?_
    refine lv_aload_n hx hb (dkP dF_42 DX4_hasInput (i := 3) rfl rfl) rfl (lv_at hl 0 rfl) ?_
    refine z_gi C0 hw pg 4 (fk_of (shl_pg_0 pg hpg) rfl) fl_X4_32 (dk2 dF_180 DX4_hasInput (i := 4) rfl rfl rfl) ?_
    obtain ⟨v2, ev2⟩ : ∃ y : Int32, σ.1 pg 4 = y := ⟨_, rfl⟩
    refine z_top (y := v2) ev2 ?_
    refine lv_icmp_ge (tgt := 16) hx hb (dkS dF_162 DX4_hasInput (i := 5) rfl rfl rfl) (by decide) (fun c3 => ?_) (fun c3 => ?_)
    · (try simp (disch := omega) only [ta_lt, ta_le, ta_eq, tnI] at c3)
      refine lv_iconst (v := 0) hx hb (dkP dF_3 DX4_hasInput (i := 8) rfl rfl) (by decide) ?_
      exact z_zret C0 hr hlk (by decide) hw (⟨(Or.inr ⟨rfl, trivial⟩), rfl⟩) (dkP dF_172 DX4_hasInput (i := 9) rfl rfl)
    · (try simp (disch := omega) only [ta_lt, ta_le, ta_eq, tnI] at c3)
      refine lv_iconst (v := 1) hx hb (dkP dF_4 DX4_hasInput (i := 6) rfl rfl) (by decide) ?_
      refine lv_goto (tgt := 17) hx hb (dkS dF_167 DX4_hasInput (i := 7) rfl rfl rfl) (by decide) ?_
      exact z_zret C0 hr hlk (by decide) hw (⟨(Or.inl ⟨rfl, (by (try simp only [lg_cmp_lt, lg_cmp_le, lg_cmp_gt, lg_cmp_ge, lg_cmp_eq] at c1); (try simp (disch := omega) only [ta_lt, ta_le, ta_eq, tb_lt, tb_le, tb_eq, tw, tnI, tsub1, tsv, tsb32, tn32 1 (by decide), tnj 1 (by decide), tl32 0 (by decide), tl64 0 (by decide), tl32 1 (by decide), tl64 1 (by decide)] at c1); (try simp only [lg_cmp_lt, lg_cmp_le, lg_cmp_gt, lg_cmp_ge, lg_cmp_eq] at c3); (try simp (disch := omega) only [ta_lt, ta_le, ta_eq, tb_lt, tb_le, tb_eq, tw, tnI, tsub1, tsv, tsb32, tn32 1 (by decide), tnj 1 (by decide), tl32 0 (by decide), tl64 0 (by decide), tl32 1 (by decide), tl64 1 (by decide)] at c3); (try simp (disch := omega) only [ta_lt, ta_le, ta_eq, tb_lt, tb_le, tb_eq, tw, tnI, tsub1, tsv, tsb32, tn32 1 (by decide), tnj 1 (by decide), tl32 0 (by decide), tl64 0 (by decide), tl32 1 (by decide), tl64 1 (by decide)]); omega)⟩), rfl⟩) (dkP dF_172 DX4_hasInput (i := 9) rfl rfl)
set_option maxRecDepth 20000 in
theorem shl_pg_19 : ∀ d, d ∈ pgL → shC[d + 19]? = some (1, 3, []) := by decide +kernel
theorem tck_pg_19 : ∀ d, d ∈ pgL → tcL.getD (d + 19) 0 = 6 := by decide +kernel
set_option maxRecDepth 100000 in
set_option maxHeartbeats 8000000 in
theorem c_X4_spannedBits (l : Launch) (G : va_G) (kc : KC) (ad : Nat → Nat) (σ : Sg) (pg : Nat)  (hpg : pg ∈ pgL) (hT : TC σ) : MI l G kc yX4_spannedBits cX4_spannedBits 3 (some .int) 0 0 [.ref (ad pg)] shC ad σ (fun r σ1 => σ1 = σ) := by
  intro sz
  refine z_body (y := yX4_spannedBits) (n := 3) (av := [.ref (ad pg)]) (Qc := fun A => va_Qi (fun r σ1 => σ1 = σ) (PoC G kc shC ad A) A) (plainFor_of_name (by decide)) (Nat.le_of_ble_eq_true rfl) (fun pr e s m below meth c A C0 hr hlk hnm hw hRo ls hl => ?_) sz
  have hx := C0.1
  have hb := C0.2.1
  have hown := C0.2.2.2.1
  have hts := C0.2.2.2.2.1
  have hl : lv_has ls 3 [(0, .ref (ad pg))] := hl
  refine lv_iconst (v := 0) hx hb (dkP dF_3 DX4_spannedBits (i := 0) rfl rfl) (by decide) ?_
  refine lv_istore_n (lv' := [(1, .int 0), (0, .ref (ad pg))]) hx hb (dkP dF_60 DX4_spannedBits (i := 1) rfl rfl) rfl hl (by decide) rfl (fun ls hl => ?_)
  refine lv_iconst (v := 0) hx hb (dkP dF_3 DX4_spannedBits (i := 2) rfl rfl) (by decide) ?_
  refine lv_istore_n (lv' := [(2, .int 0), (1, .int 0), (0, .ref (ad pg))]) hx hb (dkP dF_61 DX4_spannedBits (i := 3) rfl rfl) rfl hl (by decide) rfl (fun ls hl => ?_)
  have lp1 : ∀ (nq : Nat) (q2_4 : Nat) (q1_4 : Int32) (H : Heap) (locs : List Loc) (ls : Array Slot), 3 - q2_4 < nq → (q2_4 ≤ 3) → St G kc A s.heap shC ad σ H locs → lv_has ls 3 [(2, .int (nI q2_4)), (1, .int q1_4), (0, .ref (ad pg))] → W pr l e { frames := 0, cells := 0, slots := 0, locals := 0 } s m ([.ref (ad pg)] : List Value).toArray below meth c H locs 0 0 (MQ below (va_Qi (fun r σ1 => σ1 = σ) (PoC G kc shC ad A) A) ([.ref (ad pg)] : List Value).toArray s 0 0 A) (F0 m 4 ls []) := by
    intro nq
    induction nq with
    | zero => intro q2_4 q1_4 H locs ls hmu; exact absurd hmu (Nat.not_lt_zero _)
    | succ nq ih1 =>
      intro q2_4 q1_4 H locs ls hmu hq2_4 hw hl
      refine lv_iload_n hx hb (dkP dF_28 DX4_spannedBits (i := 4) rfl rfl) rfl (lv_at hl 0 rfl) ?_
      refine lv_aload_n hx hb (dkP dF_42 DX4_spannedBits (i := 5) rfl rfl) rfl (lv_at hl 2 rfl) ?_
      refine z_gi C0 hw pg 5 (fk_of (shl_pg_0 pg hpg) rfl) fl_X4_52 (dk2 dF_180 DX4_spannedBits (i := 6) rfl rfl rfl) ?_
      obtain ⟨n2, hn2, en2⟩ := rngN (x := σ.1 pg 5) (h := 3) (tcr_5_5 hT (tck_pg_0 pg hpg))
      refine z_top (y := nI n2) en2 ?_
      refine lv_icmp_ge (tgt := 29) hx hb (dkS dF_162 DX4_spannedBits (i := 7) rfl rfl rfl) (by decide) (fun c3 => ?_) (fun c3 => ?_)
      · simp (disch := omega) only [ta_lt, ta_le, ta_eq, tnI] at c3
        refine lv_iload_n hx hb (dkP dF_27 DX4_spannedBits (i := 19) rfl rfl) rfl (lv_at hl 1 rfl) ?_
        exact z_iret C0 hr hlk hw rfl (dkP dF_172 DX4_spannedBits (i := 20) rfl rfl)
      · simp (disch := omega) only [ta_lt, ta_le, ta_eq, tnI] at c3
        refine lv_iload_n hx hb (dkP dF_27 DX4_spannedBits (i := 8) rfl rfl) rfl (lv_at hl 1 rfl) ?_
        refine lv_iconst (v := 1) hx hb (dkP dF_4 DX4_spannedBits (i := 9) rfl rfl) (by decide) ?_
        refine lv_aload_n hx hb (dkP dF_42 DX4_spannedBits (i := 10) rfl rfl) rfl (lv_at hl 2 rfl) ?_
        refine z_gr C0 hw pg 6 (pg + 19) (fk_of (shl_pg_0 pg hpg) rfl) fl_X4_35 (dk2 dF_180 DX4_spannedBits (i := 11) rfl rfl rfl) ?_
        refine lv_iload_n hx hb (dkP dF_28 DX4_spannedBits (i := 12) rfl rfl) rfl (lv_at hl 0 rfl) ?_
        refine z_ialdN (n := 3) C0 hw (pg + 19) q2_4 (ak_of (shl_pg_19 pg hpg)) (by omega) (by decide) (dkP dF_46 DX4_spannedBits (i := 13) rfl rfl) ?_
        obtain ⟨n4, hn4, en4⟩ := rngN (x := σ.1 (pg + 19) q2_4) (h := 7) (tcr_6 hT (tck_pg_19 pg hpg))
        refine z_top (y := nI n4) en4 ?_
        refine lv_ishl hx hb (dkP dF_120 DX4_spannedBits (i := 14) rfl rfl) ?_
        refine lv_ior hx hb (dkP dF_128 DX4_spannedBits (i := 15) rfl rfl) ?_
        refine lv_topi (fun v5 ev5 => ?_)
        refine lv_istore_n (lv' := [(1, .int v5), (2, .int (nI q2_4)), (0, .ref (ad pg))]) hx hb (dkP dF_60 DX4_spannedBits (i := 16) rfl rfl) rfl hl (by decide) rfl (fun ls hl => ?_)
        refine lv_iinc (v := nI (q2_4 + 1)) (lv' := [(2, .int (nI (q2_4 + 1))), (1, .int v5), (0, .ref (ad pg))]) hx hb (dkI DX4_spannedBits (i := 17) rfl rfl rfl rfl) hl (k := 1) rfl (nI_1 _) (by decide) rfl (fun ls hl => ?_)
        refine lv_goto (tgt := 4) hx hb (dkS dF_167 DX4_spannedBits (i := 18) rfl rfl rfl) (by decide) ?_
        exact ih1 (q2_4 + 1) v5 _ _ _ (by omega) (by (try simp only [lg_cmp_lt, lg_cmp_le, lg_cmp_gt, lg_cmp_ge, lg_cmp_eq] at c3); (try simp (disch := omega) only [ta_lt, ta_le, ta_eq, tb_lt, tb_le, tb_eq, tw, tnI, tsub1, tsv, tsb32, tn32 1 (by decide), tnj 1 (by decide), tl32 0 (by decide), tl64 0 (by decide), tl32 1 (by decide), tl64 1 (by decide)] at c3); (try simp (disch := omega) only [ta_lt, ta_le, ta_eq, tb_lt, tb_le, tb_eq, tw, tnI, tsub1, tsv, tsb32, tn32 1 (by decide), tnj 1 (by decide), tl32 0 (by decide), tl64 0 (by decide), tl32 1 (by decide), tl64 1 (by decide)]); omega) hw (lv_sub hl [0, 1, 2] rfl)
  exact lp1 _ 0 0 _ _ _ (Nat.lt_succ_self _) (by (try simp (disch := omega) only [ta_lt, ta_le, ta_eq, tb_lt, tb_le, tb_eq, tw, tnI, tsub1, tsv, tsb32, tn32 1 (by decide), tnj 1 (by decide), tl32 0 (by decide), tl64 0 (by decide), tl32 1 (by decide), tl64 1 (by decide)]); omega) hw (lv_sub hl [0, 1, 2] rfl)
