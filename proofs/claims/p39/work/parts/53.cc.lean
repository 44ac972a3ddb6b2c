set_option maxRecDepth 20000 in
theorem shc_1 : shC[1]? = some (0, 10, [(1, 2), (1, 3), (1, 4), (1, 5), (0, 0), (0, 0), (0, 0), (1, 6)]) := by rfl
set_option maxRecDepth 20000 in
theorem shc_2 : shC[2]? = some (6, 8, [(1, 8), (1, 30), (1, 52), (1, 74), (1, 96), (1, 118), (1, 140), (1, 162)]) := by rfl
set_option maxRecDepth 20000 in
theorem rks_2 : ∀ k, k < 8 → rk shC 2 k = some (6, 8, 8 + 22 * k) := by
  intro k hk
  match k, hk with
  | 0, _ => rfl
  | 1, _ => rfl
  | 2, _ => rfl
  | 3, _ => rfl
  | 4, _ => rfl
  | 5, _ => rfl
  | 6, _ => rfl
  | 7, _ => rfl
  | k + 8, hk => exact absurd hk (by omega)
set_option maxRecDepth 20000 in
theorem shp_8 : ∀ k, k < 8 → shC[8 + 22 * k]? = some (0, 4, [(0, 0), (0, 0), (2, 0), (2, 0), (0, 0), (0, 0), (1, 27 + 22 * k), (1, 28 + 22 * k), (1, 29 + 22 * k)]) := by
  intro k hk
  match k, hk with
  | 0, _ => rfl
  | 1, _ => rfl
  | 2, _ => rfl
  | 3, _ => rfl
  | 4, _ => rfl
  | 5, _ => rfl
  | 6, _ => rfl
  | 7, _ => rfl
  | k + 8, hk => exact absurd hk (by omega)
theorem tcp_8 : ∀ k, k < 8 → tcL.getD (8 + 22 * k) 0 = 5 := by decide +kernel
set_option maxRecDepth 100000 in
set_option maxHeartbeats 8000000 in
theorem c_X10_bitsOf (l : Launch) (G : va_G) (kc : KC) (ad : Nat → Nat) (σ : Sg) (stg : Int32) (hT : TC σ) : MI l G kc yX10_bitsOf cX10_bitsOf 4 (some .int) 0 0 [.ref (ad 1), .int stg] shC ad σ (fun r σ1 => (∃ a, a < 256 ∧ r = nI a) ∧ σ1 = σ) := by
  intro sz
  refine z_body (y := yX10_bitsOf) (n := 4) (av := [.ref (ad 1), .int stg]) (Qc := fun A => va_Qi (fun r σ1 => (∃ a, a < 256 ∧ r = nI a) ∧ σ1 = σ) (PoC G kc shC ad A) A) (plainFor_of_name (by decide)) (Nat.le_of_ble_eq_true rfl) (fun pr e s m below meth c A C0 hr hlk hnm hw hRo ls hl => ?_) sz
  have hx := C0.1
  have hb := C0.2.1
  have hown := C0.2.2.2.1
  have hts := C0.2.2.2.2.1
  have hl : lv_has ls 4 [(0, .ref (ad 1)), (1, .int stg)] := hl
  refine lv_iconst (v := 0) hx hb (dkP dF_3 DX10_bitsOf (i := 0) rfl rfl) (by decide) ?_
  refine lv_istore_n (lv' := [(2, .int 0), (0, .ref (ad 1)), (1, .int stg)]) hx hb (dkP dF_61 DX10_bitsOf (i := 1) rfl rfl) rfl hl (by decide) rfl (fun ls hl => ?_)
  refine lv_iconst (v := 0) hx hb (dkP dF_3 DX10_bitsOf (i := 2) rfl rfl) (by decide) ?_
  refine lv_istore_n (lv' := [(3, .int 0), (2, .int 0), (0, .ref (ad 1)), (1, .int stg)]) hx hb (dkP dF_62 DX10_bitsOf (i := 3) rfl rfl) rfl hl (by decide) rfl (fun ls hl => ?_)
  have lp1 : ∀ (nq : Nat) (q3_4 : Nat) (q2_4 : Nat) (H : Heap) (locs : List Loc) (ls : Array Slot), 8 - q3_4 < nq → (q3_4 ≤ 8) → (q2_4 ≤ 255) → St G kc A s.heap shC ad σ H locs → lv_has ls 4 [(3, .int (nI q3_4)), (2, .int (nI q2_4)), (0, .ref (ad 1)), (1, .int stg)] → W pr l e { frames := 0, cells := 0, slots := 0, locals := 0 } s m ([.ref (ad 1), .int stg] : List Value).toArray below meth c H locs 0 0 (MQ below (va_Qi (fun r σ1 => (∃ a, a < 256 ∧ r = nI a) ∧ σ1 = σ) (PoC G kc shC ad A) A) ([.ref (ad 1), .int stg] : List Value).toArray s 0 0 A) (F0 m 4 ls []) := by
    intro nq
    induction nq with
    | zero => intro q3_4 q2_4 H locs ls hmu; exact absurd hmu (Nat.not_lt_zero _)
    | succ nq ih1 =>
      intro q3_4 q2_4 H locs ls hmu hq3_4 hq2_4 hw hl
      refine lv_iload_n hx hb (dkP dF_29 DX10_bitsOf (i := 4) rfl rfl) rfl (lv_at hl 0 rfl) ?_
      refine lv_bipush (v := 8) hx hb (dks dF_16 DX10_bitsOf (i := 5) rfl rfl rfl) (by decide) ?_
      refine lv_icmp_ge (tgt := 35) hx hb (dkS dF_162 DX10_bitsOf (i := 6) rfl rfl rfl) (by decide) (fun c2 => ?_) (fun c2 => ?_)
      · simp (disch := omega) only [ta_lt, ta_le, ta_eq, tnI, tl32 8 (by decide)] at c2
        refine lv_iload_n hx hb (dkP dF_28 DX10_bitsOf (i := 22) rfl rfl) rfl (lv_at hl 1 rfl) ?_
        exact z_iret C0 hr hlk hw (⟨⟨q2_4, by omega, rfl⟩, rfl⟩) (dkP dF_172 DX10_bitsOf (i := 23) rfl rfl)
      · simp (disch := omega) only [ta_lt, ta_le, ta_eq, tnI, tl32 8 (by decide)] at c2
        refine lv_aload_n hx hb (dkP dF_42 DX10_bitsOf (i := 7) rfl rfl) rfl (lv_at hl 2 rfl) ?_
        refine z_gr C0 hw 1 0 2 (fk_of shc_1 rfl) fl_X10_11 (dk2 dF_180 DX10_bitsOf (i := 8) rfl rfl rfl) ?_
        refine lv_iload_n hx hb (dkP dF_29 DX10_bitsOf (i := 9) rfl rfl) rfl (lv_at hl 0 rfl) ?_
        refine z_aaldN (n := 8) C0 hw 2 q3_4 (rks_2 q3_4 (by omega)) (by decide) (by omega) (by decide) (dkP dF_50 DX10_bitsOf (i := 10) rfl rfl) ?_
        refine z_gi C0 hw (8 + 22 * q3_4) 0 (fk_of (shp_8 q3_4 (by omega)) rfl) fl_X10_64 (dk2 dF_180 DX10_bitsOf (i := 11) rfl rfl rfl) ?_
        obtain ⟨v3, ev3⟩ : ∃ y : Int32, σ.1 (8 + 22 * q3_4) 0 = y := ⟨_, rfl⟩
        refine z_top (y := v3) ev3 ?_
        refine lv_iload_n hx hb (dkP dF_27 DX10_bitsOf (i := 12) rfl rfl) rfl (lv_at hl 3 rfl) ?_
        refine lv_icmp_ne (tgt := 29) hx hb (dkS dF_160 DX10_bitsOf (i := 13) rfl rfl rfl) (by decide) (fun c4 => ?_) (fun c4 => ?_)
        · (try simp (disch := omega) only [ta_lt, ta_le, ta_eq, tnI] at c4)
          refine lv_iinc (v := nI (q3_4 + 1)) (lv' := [(3, .int (nI (q3_4 + 1))), (2, .int (nI q2_4)), (0, .ref (ad 1)), (1, .int stg)]) hx hb (dkI DX10_bitsOf (i := 20) rfl rfl rfl rfl) hl (k := 0) rfl (nI_1 _) (by decide) rfl (fun ls hl => ?_)
          refine lv_goto (tgt := 4) hx hb (dkS dF_167 DX10_bitsOf (i := 21) rfl rfl rfl) (by decide) ?_
          exact ih1 (q3_4 + 1) q2_4 _ _ _ (by omega) (by (try simp only [lg_cmp_lt, lg_cmp_le, lg_cmp_gt, lg_cmp_ge, lg_cmp_eq] at c2); (try simp (disch := omega) only [ta_lt, ta_le, ta_eq, tb_lt, tb_le, tb_eq, tw, tnI, tsub1, tsv, tsb32, tn32 1 (by decide), tnj 1 (by decide), tl32 0 (by decide), tl64 0 (by decide), tl32 8 (by decide), tl64 8 (by decide)] at c2); (try simp only [lg_cmp_lt, lg_cmp_le, lg_cmp_gt, lg_cmp_ge, lg_cmp_eq] at c4); (try simp (disch := omega) only [ta_lt, ta_le, ta_eq, tb_lt, tb_le, tb_eq, tw, tnI, tsub1, tsv, tsb32, tn32 1 (by decide), tnj 1 (by decide), tl32 0 (by decide), tl64 0 (by decide), tl32 8 (by decide), tl64 8 (by decide)] at c4); (try simp (disch := omega) only [ta_lt, ta_le, ta_eq, tb_lt, tb_le, tb_eq, tw, tnI, tsub1, tsv, tsb32, tn32 1 (by decide), tnj 1 (by decide), tl32 0 (by decide), tl64 0 (by decide), tl32 8 (by decide), tl64 8 (by decide)]); omega) (by (try simp only [lg_cmp_lt, lg_cmp_le, lg_cmp_gt, lg_cmp_ge, lg_cmp_eq] at c2); (try simp (disch := omega) only [ta_lt, ta_le, ta_eq, tb_lt, tb_le, tb_eq, tw, tnI, tsub1, tsv, tsb32, tn32 1 (by decide), tnj 1 (by decide), tl32 0 (by decide), tl64 0 (by decide), tl32 8 (by decide), tl64 8 (by decide)] at c2); (try simp only [lg_cmp_lt, lg_cmp_le, lg_cmp_gt, lg_cmp_ge, lg_cmp_eq] at c4); (try simp (disch := omega) only [ta_lt, ta_le, ta_eq, tb_lt, tb_le, tb_eq, tw, tnI, tsub1, tsv, tsb32, tn32 1 (by decide), tnj 1 (by decide), tl32 0 (by decide), tl64 0 (by decide), tl32 8 (by decide), tl64 8 (by decide)] at c4); (try simp (disch := omega) only [ta_lt, ta_le, ta_eq, tb_lt, tb_le, tb_eq, tw, tnI, tsub1, tsv, tsb32, tn32 1 (by decide), tnj 1 (by decide), tl32 0 (by decide), tl64 0 (by decide), tl32 8 (by decide), tl64 8 (by decide)]); omega) hw (lv_sub hl [0, 1, 2, 3] rfl)
        · (try simp (disch := omega) only [ta_lt, ta_le, ta_eq, tnI] at c4)
          refine lv_iload_n hx hb (dkP dF_28 DX10_bitsOf (i := 14) rfl rfl) rfl (lv_at hl 1 rfl) ?_
          refine lv_iconst (v := 1) hx hb (dkP dF_4 DX10_bitsOf (i := 15) rfl rfl) (by decide) ?_
          refine lv_iload_n hx hb (dkP dF_29 DX10_bitsOf (i := 16) rfl rfl) rfl (lv_at hl 0 rfl) ?_
          refine lv_ishl hx hb (dkP dF_120 DX10_bitsOf (i := 17) rfl rfl) ?_
          refine z_top (y := nI (p2 q3_4)) (by (try simp only [fa_lit]); exact bs_p _ (by omega)) ?_
          have hbt5 := p2_lt (q := q3_4) (by omega)
          refine lv_ior hx hb (dkP dF_128 DX10_bitsOf (i := 18) rfl rfl) ?_
          refine z_top (y := nI (q2_4 ||| (p2 q3_4))) (by (try simp only [fa_lit]); exact nI_or _ _) ?_
          have hbt6 := or_lt (a := q2_4) (b := p2 q3_4) (by omega) (by omega)
          refine lv_istore_n (lv' := [(2, .int (nI (q2_4 ||| (p2 q3_4)))), (3, .int (nI q3_4)), (0, .ref (ad 1)), (1, .int stg)]) hx hb (dkP dF_61 DX10_bitsOf (i := 19) rfl rfl) rfl hl (by decide) rfl (fun ls hl => ?_)
          refine lv_iinc (v := nI (q3_4 + 1)) (lv' := [(3, .int (nI (q3_4 + 1))), (2, .int (nI (q2_4 ||| (p2 q3_4)))), (0, .ref (ad 1)), (1, .int stg)]) hx hb (dkI DX10_bitsOf (i := 20) rfl rfl rfl rfl) hl (k := 1) rfl (nI_1 _) (by decide) rfl (fun ls hl => ?_)
          refine lv_goto (tgt := 4) hx hb (dkS dF_167 DX10_bitsOf (i := 21) rfl rfl rfl) (by decide) ?_
          exact ih1 (q3_4 + 1) (q2_4 ||| (p2 q3_4)) _ _ _ (by omega) (by (try simp only [lg_cmp_lt, lg_cmp_le, lg_cmp_gt, lg_cmp_ge, lg_cmp_eq] at c2); (try simp (disch := omega) only [ta_lt, ta_le, ta_eq, tb_lt, tb_le, tb_eq, tw, tnI, tsub1, tsv, tsb32, tn32 1 (by decide), tnj 1 (by decide), tl32 0 (by decide), tl64 0 (by decide), tl32 1 (by decide), tl64 1 (by decide), tl32 8 (by decide), tl64 8 (by decide)] at c2); (try simp only [lg_cmp_lt, lg_cmp_le, lg_cmp_gt, lg_cmp_ge, lg_cmp_eq] at c4); (try simp (disch := omega) only [ta_lt, ta_le, ta_eq, tb_lt, tb_le, tb_eq, tw, tnI, tsub1, tsv, tsb32, tn32 1 (by decide), tnj 1 (by decide), tl32 0 (by decide), tl64 0 (by decide), tl32 1 (by decide), tl64 1 (by decide), tl32 8 (by decide), tl64 8 (by decide)] at c4); (try simp (disch := omega) only [ta_lt, ta_le, ta_eq, tb_lt, tb_le, tb_eq, tw, tnI, tsub1, tsv, tsb32, tn32 1 (by decide), tnj 1 (by decide), tl32 0 (by decide), tl64 0 (by decide), tl32 1 (by decide), tl64 1 (by decide), tl32 8 (by decide), tl64 8 (by decide)]); omega) (by (try simp only [lg_cmp_lt, lg_cmp_le, lg_cmp_gt, lg_cmp_ge, lg_cmp_eq] at c2); (try simp (disch := omega) only [ta_lt, ta_le, ta_eq, tb_lt, tb_le, tb_eq, tw, tnI, tsub1, tsv, tsb32, tn32 1 (by decide), tnj 1 (by decide), tl32 0 (by decide), tl64 0 (by decide), tl32 1 (by decide), tl64 1 (by decide), tl32 8 (by decide), tl64 8 (by decide)] at c2); (try simp only [lg_cmp_lt, lg_cmp_le, lg_cmp_gt, lg_cmp_ge, lg_cmp_eq] at c4); (try simp (disch := omega) only [ta_lt, ta_le, ta_eq, tb_lt, tb_le, tb_eq, tw, tnI, tsub1, tsv, tsb32, tn32 1 (by decide), tnj 1 (by decide), tl32 0 (by decide), tl64 0 (by decide), tl32 1 (by decide), tl64 1 (by decide), tl32 8 (by decide), tl64 8 (by decide)] at c4); (try simp (disch := omega) only [ta_lt, ta_le, ta_eq, tb_lt, tb_le, tb_eq, tw, tnI, tsub1, tsv, tsb32, tn32 1 (by decide), tnj 1 (by decide), tl32 0 (by decide), tl64 0 (by decide), tl32 1 (by decide), tl64 1 (by decide), tl32 8 (by decide), tl64 8 (by decide)]); omega) hw (lv_sub hl [0, 1, 2, 3] rfl)
  exact lp1 _ 0 0 _ _ _ (Nat.lt_succ_self _) (by (try simp (disch := omega) only [ta_lt, ta_le, ta_eq, tb_lt, tb_le, tb_eq, tw, tnI, tsub1, tsv, tsb32, tn32 1 (by decide), tnj 1 (by decide), tl32 0 (by decide), tl64 0 (by decide), tl32 1 (by decide), tl64 1 (by decide), tl32 8 (by decide), tl64 8 (by decide)]); omega) (by (try simp (disch := omega) only [ta_lt, ta_le, ta_eq, tb_lt, tb_le, tb_eq, tw, tnI, tsub1, tsv, tsb32, tn32 1 (by decide), tnj 1 (by decide), tl32 0 (by decide), tl64 0 (by decide), tl32 1 (by decide), tl64 1 (by decide), tl32 8 (by decide), tl64 8 (by decide)]); omega) hw (lv_sub hl [0, 1, 2, 3] rfl)
set_option maxRecDepth 100000 in
set_option maxHeartbeats 8000000 in
theorem c_X10_overBits (l : Launch) (G : va_G) (kc : KC) (ad : Nat → Nat) (σ : Sg)  (hT : TC σ) : MI l G kc yX10_overBits cX10_overBits 1 (some .int) 1 23 [.ref (ad 1)] shC ad σ (fun r σ1 => (∃ a, a < 256 ∧ r = nI a) ∧ σ1 = σ) := by
  intro sz
  refine z_body (y := yX10_overBits) (n := 1) (av := [.ref (ad 1)]) (Qc := fun A => va_Qi (fun r σ1 => (∃ a, a < 256 ∧ r = nI a) ∧ σ1 = σ) (PoC G kc shC ad A) A) (plainFor_of_name (by decide)) (Nat.le_of_ble_eq_true rfl) (fun pr e s m below meth c A C0 hr hlk hnm hw hRo ls hl => ?_) sz
  have hx := C0.1
  have hb := C0.2.1
  have hown := C0.2.2.2.1
  have hts := C0.2.2.2.2.1
  have hl : lv_has ls 1 [(0, .ref (ad 1))] := hl
  refine lv_aload_n hx hb (dkP dF_42 DX10_overBits (i := 0) rfl rfl) rfl (lv_at hl 0 rfl) ?_
  refine lv_iconst (v := 2) hx hb (dkP dF_5 DX10_overBits (i := 1) rfl rfl) (by decide) ?_
  refine zk_I hw (zr_V (As := [.int 2]) (rest := []) C0 (c_X10_bitsOf l G kc ad σ 2 hT _) cv_X10_bitsOf lk_X10_67 (zp_V C0 hRo hw 1 shc_1 rfl rfl) rfl hl.1 rfl ⟨by decide, by decide⟩ (Nat.le_of_ble_eq_true rfl) (dk2 dF_182 DX10_overBits (i := 2) rfl rfl rfl) ⟨Nat.le_refl _, Nat.le_refl _⟩) (fun r1 s1 H locs hp hw => ?_)
  obtain ⟨f1_0, hs1⟩ := hp
  (rw [hs1] at hw)
  obtain ⟨oa, hoa, eroa⟩ := f1_0
  subst eroa
  refine lv_aload_n hx hb (dkP dF_42 DX10_overBits (i := 3) rfl rfl) rfl (lv_at hl 0 rfl) ?_
  refine lv_iconst (v := 4) hx hb (dkP dF_7 DX10_overBits (i := 4) rfl rfl) (by decide) ?_
  refine zk_I hw (zr_V (As := [.int 4]) (rest := [.int (nI oa)]) C0 (c_X10_bitsOf l G kc ad σ 4 hT _) cv_X10_bitsOf lk_X10_67 (zp_V C0 hRo hw 1 shc_1 rfl rfl) rfl hl.1 rfl ⟨by decide, by decide⟩ (Nat.le_of_ble_eq_true rfl) (dk2 dF_182 DX10_overBits (i := 5) rfl rfl rfl) ⟨Nat.le_refl _, Nat.le_refl _⟩) (fun r2 s2 H locs hp hw => ?_)
  obtain ⟨f2_0, hs2⟩ := hp
  (rw [hs2] at hw)
  obtain ⟨ob, hob, erob⟩ := f2_0
  subst erob
  refine lv_ior hx hb (dkP dF_128 DX10_overBits (i := 6) rfl rfl) ?_
  refine z_top (y := nI (oa ||| ob)) (by (try simp only [fa_lit]); exact nI_or _ _) ?_
  have hbt3 := or_lt (a := oa) (b := ob) (by omega) (by omega)
  exact z_iret C0 hr hlk hw (⟨⟨_, or_lt hoa hob, rfl⟩, rfl⟩) (dkP dF_172 DX10_overBits (i := 7) rfl rfl)
set_option maxRecDepth 100000 in
set_option maxHeartbeats 8000000 in
theorem c_X10_setStage (l : Launch) (G : va_G) (kc : KC) (ad : Nat → Nat) (σ : Sg) (bits : Int32) (stg : Int32) (hT : TC σ) : MV l G kc yX10_setStage cX10_setStage 4 0 0 [.ref (ad 1), .int bits, .int stg] shC ad σ (fun σ1 => TC σ1 ∧ frC (fun x y => (x % 22 = 8 ∧ 8 ≤ x ∧ x ≤ 162 ∧ y = 0)) σ σ1) := by
  intro sz
  refine z_body (y := yX10_setStage) (n := 4) (av := [.ref (ad 1), .int bits, .int stg]) (Qc := fun A => va_Qv (fun σ1 => TC σ1 ∧ frC (fun x y => (x % 22 = 8 ∧ 8 ≤ x ∧ x ≤ 162 ∧ y = 0)) σ σ1) (PoC G kc shC ad A) A) (plainFor_of_name (by decide)) (Nat.le_of_ble_eq_true rfl) (fun pr e s m below meth c A C0 hr hlk hnm hw hRo ls hl => ?_) sz
  have hx := C0.1
  have hb := C0.2.1
  have hown := C0.2.2.2.1
  have hts := C0.2.2.2.2.1
  have hl : lv_has ls 4 [(0, .ref (ad 1)), (1, .int bits), (2, .int stg)] := hl
  refine lv_iconst (v := 0) hx hb (dkP dF_3 DX10_setStage (i := 0) rfl rfl) (by decide) ?_
  refine lv_istore_n (lv' := [(3, .int 0), (0, .ref (ad 1)), (1, .int bits), (2, .int stg)]) hx hb (dkP dF_62 DX10_setStage (i := 1) rfl rfl) rfl hl (by decide) rfl (fun ls hl => ?_)
  have lp2 : ∀ (nq : Nat) (q3_2 : Nat) (τ1 : Sg) (H : Heap) (locs : List Loc) (ls : Array Slot), 8 - q3_2 < nq → (q3_2 ≤ 8) → (TC τ1) → (frC (fun x y => (x % 22 = 8 ∧ 8 ≤ x ∧ x ≤ 162 ∧ y = 0)) σ τ1) → St G kc A s.heap shC ad τ1 H locs → lv_has ls 4 [(3, .int (nI q3_2)), (0, .ref (ad 1)), (1, .int bits), (2, .int stg)] → W pr l e { frames := 0, cells := 0, slots := 0, locals := 0 } s m ([.ref (ad 1), .int bits, .int stg] : List Value).toArray below meth c H locs 0 0 (MQ below (va_Qv (fun σ1 => TC σ1 ∧ frC (fun x y => (x % 22 = 8 ∧ 8 ≤ x ∧ x ≤ 162 ∧ y = 0)) σ σ1) (PoC G kc shC ad A) A) ([.ref (ad 1), .int bits, .int stg] : List Value).toArray s 0 0 A) (F0 m 2 ls []) := by
    intro nq
    induction nq with
    | zero => intro q3_2 τ1 H locs ls hmu; exact absurd hmu (Nat.not_lt_zero _)
    | succ nq ih2 =>
      intro q3_2 τ1 H locs ls hmu hq3_2 hT_τ1 hF_τ1 hw hl
      refine lv_iload_n hx hb (dkP dF_29 DX10_setStage (i := 2) rfl rfl) rfl (lv_at hl 0 rfl) ?_
      refine lv_bipush (v := 8) hx hb (dks dF_16 DX10_setStage (i := 3) rfl rfl rfl) (by decide) ?_
      refine lv_icmp_ge (tgt := 32) hx hb (dkS dF_162 DX10_setStage (i := 4) rfl rfl rfl) (by decide) (fun c3 => ?_) (fun c3 => ?_)
      · simp (disch := omega) only [ta_lt, ta_le, ta_eq, tnI, tl32 8 (by decide)] at c3
        exact z_vret C0 hr hlk hw (⟨hT_τ1, hF_τ1⟩) (dkP dF_177 DX10_setStage (i := 19) rfl rfl)
      · simp (disch := omega) only [ta_lt, ta_le, ta_eq, tnI, tl32 8 (by decide)] at c3
        refine lv_iload_n hx hb (dkP dF_27 DX10_setStage (i := 5) rfl rfl) rfl (lv_at hl 2 rfl) ?_
        refine lv_iload_n hx hb (dkP dF_29 DX10_setStage (i := 6) rfl rfl) rfl (lv_at hl 0 rfl) ?_
        refine lv_ishr hx hb (dkP dF_122 DX10_setStage (i := 7) rfl rfl) ?_
        refine lv_iconst (v := 1) hx hb (dkP dF_4 DX10_setStage (i := 8) rfl rfl) (by decide) ?_
        refine lv_iand hx hb (dkP dF_126 DX10_setStage (i := 9) rfl rfl) ?_
        refine lv_if_eq (tgt := 26) hx hb (dkS dF_153 DX10_setStage (i := 10) rfl rfl rfl) (by decide) (fun c4 => ?_) (fun c4 => ?_)
        · (try simp (disch := omega) only [ta_lt, ta_le, ta_eq, tnI, tl32 0 (by decide)] at c4)
          refine lv_iinc (v := nI (q3_2 + 1)) (lv' := [(3, .int (nI (q3_2 + 1))), (0, .ref (ad 1)), (1, .int bits), (2, .int stg)]) hx hb (dkI DX10_setStage (i := 17) rfl rfl rfl rfl) hl (k := 0) rfl (nI_1 _) (by decide) rfl (fun ls hl => ?_)
          refine lv_goto (tgt := 2) hx hb (dkS dF_167 DX10_setStage (i := 18) rfl rfl rfl) (by decide) ?_
          exact ih2 (q3_2 + 1) τ1 _ _ _ (by omega) (by (try simp only [lg_cmp_lt, lg_cmp_le, lg_cmp_gt, lg_cmp_ge, lg_cmp_eq] at c3); (try simp (disch := omega) only [ta_lt, ta_le, ta_eq, tb_lt, tb_le, tb_eq, tw, tnI, tsub1, tsv, tsb32, tn32 1 (by decide), tnj 1 (by decide), tl32 0 (by decide), tl64 0 (by decide), tl32 1 (by decide), tl64 1 (by decide), tl32 8 (by decide), tl64 8 (by decide)] at c3); (try simp only [lg_cmp_lt, lg_cmp_le, lg_cmp_gt, lg_cmp_ge, lg_cmp_eq] at c4); (try simp (disch := omega) only [ta_lt, ta_le, ta_eq, tb_lt, tb_le, tb_eq, tw, tnI, tsub1, tsv, tsb32, tn32 1 (by decide), tnj 1 (by decide), tl32 0 (by decide), tl64 0 (by decide), tl32 1 (by decide), tl64 1 (by decide), tl32 8 (by decide), tl64 8 (by decide)] at c4); (try simp (disch := omega) only [ta_lt, ta_le, ta_eq, tb_lt, tb_le, tb_eq, tw, tnI, tsub1, tsv, tsb32, tn32 1 (by decide), tnj 1 (by decide), tl32 0 (by decide), tl64 0 (by decide), tl32 1 (by decide), tl64 1 (by decide), tl32 8 (by decide), tl64 8 (by decide)]); omega) hT_τ1 hF_τ1 hw (lv_sub hl [0, 1, 2, 3] rfl)
        · (try simp (disch := omega) only [ta_lt, ta_le, ta_eq, tnI, tl32 0 (by decide)] at c4)
          refine lv_aload_n hx hb (dkP dF_42 DX10_setStage (i := 11) rfl rfl) rfl (lv_at hl 1 rfl) ?_
          refine z_gr C0 hw 1 0 2 (fk_of shc_1 rfl) fl_X10_11 (dk2 dF_180 DX10_setStage (i := 12) rfl rfl rfl) ?_
          refine lv_iload_n hx hb (dkP dF_29 DX10_setStage (i := 13) rfl rfl) rfl (lv_at hl 0 rfl) ?_
          refine z_aaldN (n := 8) C0 hw 2 q3_2 (rks_2 q3_2 (by omega)) (by decide) (by omega) (by decide) (dkP dF_50 DX10_setStage (i := 14) rfl rfl) ?_
          refine lv_iload_n hx hb (dkP dF_28 DX10_setStage (i := 15) rfl rfl) rfl (lv_at hl 3 rfl) ?_
          refine z_pi C0 hw (8 + 22 * q3_2) 0 (fk_of (shp_8 q3_2 (by omega)) rfl) fp_X10_64 (dk2 dF_181 DX10_setStage (i := 16) rfl rfl rfl) (fun H locs hw => ?_)
          have hT5 : TC (sI τ1 (8 + 22 * q3_2) 0 stg) := TC.w hT_τ1 (tcw_5_0 (tcp_8 q3_2 (by omega)))
          have hF5 : frC (fun x y => (x % 22 = 8 ∧ 8 ≤ x ∧ x ≤ 162 ∧ y = 0)) σ (sI τ1 (8 + 22 * q3_2) 0 stg) := frC.w hF_τ1 (by show ((8 + 22 * q3_2) % 22 = 8 ∧ 8 ≤ (8 + 22 * q3_2) ∧ (8 + 22 * q3_2) ≤ 162 ∧ 0 = 0); omega)
          refine lv_iinc (v := nI (q3_2 + 1)) (lv' := [(3, .int (nI (q3_2 + 1))), (0, .ref (ad 1)), (1, .int bits), (2, .int stg)]) hx hb (dkI DX10_setStage (i := 17) rfl rfl rfl rfl) hl (k := 0) rfl (nI_1 _) (by decide) rfl (fun ls hl => ?_)
          refine lv_goto (tgt := 2) hx hb (dkS dF_167 DX10_setStage (i := 18) rfl rfl rfl) (by decide) ?_
          exact ih2 (q3_2 + 1) (sI τ1 (8 + 22 * q3_2) 0 stg) _ _ _ (by omega) (by (try simp only [lg_cmp_lt, lg_cmp_le, lg_cmp_gt, lg_cmp_ge, lg_cmp_eq] at c3); (try simp (disch := omega) only [ta_lt, ta_le, ta_eq, tb_lt, tb_le, tb_eq, tw, tnI, tsub1, tsv, tsb32, tn32 1 (by decide), tnj 1 (by decide), tl32 0 (by decide), tl64 0 (by decide), tl32 1 (by decide), tl64 1 (by decide), tl32 8 (by decide), tl64 8 (by decide)] at c3); (try simp only [lg_cmp_lt, lg_cmp_le, lg_cmp_gt, lg_cmp_ge, lg_cmp_eq] at c4); (try simp (disch := omega) only [ta_lt, ta_le, ta_eq, tb_lt, tb_le, tb_eq, tw, tnI, tsub1, tsv, tsb32, tn32 1 (by decide), tnj 1 (by decide), tl32 0 (by decide), tl64 0 (by decide), tl32 1 (by decide), tl64 1 (by decide), tl32 8 (by decide), tl64 8 (by decide)] at c4); (try simp (disch := omega) only [ta_lt, ta_le, ta_eq, tb_lt, tb_le, tb_eq, tw, tnI, tsub1, tsv, tsb32, tn32 1 (by decide), tnj 1 (by decide), tl32 0 (by decide), tl64 0 (by decide), tl32 1 (by decide), tl64 1 (by decide), tl32 8 (by decide), tl64 8 (by decide)]); omega) hT5 hF5 hw (lv_sub hl [0, 1, 2, 3] rfl)
  exact lp2 _ 0 σ _ _ _ (Nat.lt_succ_self _) (by (try simp (disch := omega) only [ta_lt, ta_le, ta_eq, tb_lt, tb_le, tb_eq, tw, tnI, tsub1, tsv, tsb32, tn32 1 (by decide), tnj 1 (by decide), tl32 0 (by decide), tl64 0 (by decide), tl32 1 (by decide), tl64 1 (by decide), tl32 8 (by decide), tl64 8 (by decide)]); omega) hT frC.refl hw (lv_sub hl [0, 1, 2, 3] rfl)
set_option maxRecDepth 20000 in
theorem shc_3 : shC[3]? = some (1, 64, []) := by rfl
theorem tcl_3 : tcL.getD 3 0 = 15 := by decide +kernel
set_option maxRecDepth 100000 in
set_option maxHeartbeats 8000000 in
theorem c_X10_callersOf (l : Launch) (G : va_G) (kc : KC) (ad : Nat → Nat) (σ : Sg) (pg : Nat) (hp8 : pg < 8) (hT : TC σ) : MI l G kc yX10_callersOf cX10_callersOf 4 (some .int) 0 0 [.ref (ad 1), .int (nI pg)] shC ad σ (fun r σ1 => (∃ a, a < 256 ∧ r = nI a) ∧ σ1 = σ) := by
  intro sz
  refine z_body (y := yX10_callersOf) (n := 4) (av := [.ref (ad 1), .int (nI pg)]) (Qc := fun A => va_Qi (fun r σ1 => (∃ a, a < 256 ∧ r = nI a) ∧ σ1 = σ) (PoC G kc shC ad A) A) (plainFor_of_name (by decide)) (Nat.le_of_ble_eq_true rfl) (fun pr e s m below meth c A C0 hr hlk hnm hw hRo ls hl => ?_) sz
  have hx := C0.1
  have hb := C0.2.1
  have hown := C0.2.2.2.1
  have hts := C0.2.2.2.2.1
  have hl : lv_has ls 4 [(0, .ref (ad 1)), (1, .int (nI pg))] := hl
  refine lv_iconst (v := 0) hx hb (dkP dF_3 DX10_callersOf (i := 0) rfl rfl) (by decide) ?_
  refine lv_istore_n (lv' := [(2, .int 0), (0, .ref (ad 1)), (1, .int (nI pg))]) hx hb (dkP dF_61 DX10_callersOf (i := 1) rfl rfl) rfl hl (by decide) rfl (fun ls hl => ?_)
  refine lv_iconst (v := 0) hx hb (dkP dF_3 DX10_callersOf (i := 2) rfl rfl) (by decide) ?_
  refine lv_istore_n (lv' := [(3, .int 0), (2, .int 0), (0, .ref (ad 1)), (1, .int (nI pg))]) hx hb (dkP dF_62 DX10_callersOf (i := 3) rfl rfl) rfl hl (by decide) rfl (fun ls hl => ?_)
  have lp1 : ∀ (nq : Nat) (q3_4 : Nat) (q2_4 : Nat) (H : Heap) (locs : List Loc) (ls : Array Slot), 8 - q3_4 < nq → (q3_4 ≤ 8) → (q2_4 ≤ 255) → St G kc A s.heap shC ad σ H locs → lv_has ls 4 [(3, .int (nI q3_4)), (2, .int (nI q2_4)), (0, .ref (ad 1)), (1, .int (nI pg))] → W pr l e { frames := 0, cells := 0, slots := 0, locals := 0 } s m ([.ref (ad 1), .int (nI pg)] : List Value).toArray below meth c H locs 0 0 (MQ below (va_Qi (fun r σ1 => (∃ a, a < 256 ∧ r = nI a) ∧ σ1 = σ) (PoC G kc shC ad A) A) ([.ref (ad 1), .int (nI pg)] : List Value).toArray s 0 0 A) (F0 m 4 ls []) := by
    intro nq
    induction nq with
    | zero => intro q3_4 q2_4 H locs ls hmu; exact absurd hmu (Nat.not_lt_zero _)
    | succ nq ih1 =>
      intro q3_4 q2_4 H locs ls hmu hq3_4 hq2_4 hw hl
      refine lv_iload_n hx hb (dkP dF_29 DX10_callersOf (i := 4) rfl rfl) rfl (lv_at hl 0 rfl) ?_
      refine lv_bipush (v := 8) hx hb (dks dF_16 DX10_callersOf (i := 5) rfl rfl rfl) (by decide) ?_
      refine lv_icmp_ge (tgt := 37) hx hb (dkS dF_162 DX10_callersOf (i := 6) rfl rfl rfl) (by decide) (fun c2 => ?_) (fun c2 => ?_)
      · simp (disch := omega) only [ta_lt, ta_le, ta_eq, tnI, tl32 8 (by decide)] at c2
        refine lv_iload_n hx hb (dkP dF_28 DX10_callersOf (i := 25) rfl rfl) rfl (lv_at hl 1 rfl) ?_
        exact z_iret C0 hr hlk hw (⟨⟨q2_4, by omega, rfl⟩, rfl⟩) (dkP dF_172 DX10_callersOf (i := 26) rfl rfl)
      · simp (disch := omega) only [ta_lt, ta_le, ta_eq, tnI, tl32 8 (by decide)] at c2
        refine lv_aload_n hx hb (dkP dF_42 DX10_callersOf (i := 7) rfl rfl) rfl (lv_at hl 2 rfl) ?_
        refine z_gr C0 hw 1 1 3 (fk_of shc_1 rfl) fl_X10_17 (dk2 dF_180 DX10_callersOf (i := 8) rfl rfl rfl) ?_
        refine lv_iload_n hx hb (dkP dF_29 DX10_callersOf (i := 9) rfl rfl) rfl (lv_at hl 0 rfl) ?_
        refine lv_bipush (v := 8) hx hb (dks dF_16 DX10_callersOf (i := 10) rfl rfl rfl) (by decide) ?_
        refine lv_imul hx hb (dkP dF_104 DX10_callersOf (i := 11) rfl rfl) ?_
        refine z_top (y := nI (q3_4 * 8)) (by simp only [fa_lit, nI_add, pk_mul]) ?_
        refine lv_iload_n hx hb (dkP dF_27 DX10_callersOf (i := 12) rfl rfl) rfl (lv_at hl 3 rfl) ?_
        refine lv_iadd hx hb (dkP dF_96 DX10_callersOf (i := 13) rfl rfl) ?_
        refine z_top (y := nI ((q3_4 * 8) + pg)) (by simp only [fa_lit, nI_add, pk_mul]) ?_
        refine z_ialdN (n := 64) C0 hw 3 ((q3_4 * 8) + pg) (ak_of shc_3) (by omega) (by decide) (dkP dF_46 DX10_callersOf (i := 14) rfl rfl) ?_
        obtain ⟨v3, ev3⟩ : ∃ y : Int32, σ.1 3 ((q3_4 * 8) + pg) = y := ⟨_, rfl⟩
        have hv3 : -1 ≤ v3.toInt ∧ v3.toInt ≤ 999 := by rw [← ev3]; exact (tcr_15 hT tcl_3)
        refine z_top (y := v3) ev3 ?_
        refine lv_iconst (v := (-1)) hx hb (dkP dF_2 DX10_callersOf (i := 15) rfl rfl) (by decide) ?_
        refine lv_icmp_eq (tgt := 31) hx hb (dkS dF_159 DX10_callersOf (i := 16) rfl rfl rfl) (by decide) (fun c4 => ?_) (fun c4 => ?_)
        · (try simp (disch := omega) only [ta_lt, ta_le, ta_eq, tnI, tn32 1 (by decide)] at c4)
          refine lv_iinc (v := nI (q3_4 + 1)) (lv' := [(3, .int (nI (q3_4 + 1))), (2, .int (nI q2_4)), (0, .ref (ad 1)), (1, .int (nI pg))]) hx hb (dkI DX10_callersOf (i := 23) rfl rfl rfl rfl) hl (k := 0) rfl (nI_1 _) (by decide) rfl (fun ls hl => ?_)
          refine lv_goto (tgt := 4) hx hb (dkS dF_167 DX10_callersOf (i := 24) rfl rfl rfl) (by decide) ?_
          exact ih1 (q3_4 + 1) q2_4 _ _ _ (by omega) (by (try simp only [lg_cmp_lt, lg_cmp_le, lg_cmp_gt, lg_cmp_ge, lg_cmp_eq] at c2); (try simp (disch := omega) only [ta_lt, ta_le, ta_eq, tb_lt, tb_le, tb_eq, tw, tnI, tsub1, tsv, tsb32, tn32 1 (by decide), tnj 1 (by decide), tl32 0 (by decide), tl64 0 (by decide), tl32 8 (by decide), tl64 8 (by decide)] at c2); (try simp only [lg_cmp_lt, lg_cmp_le, lg_cmp_gt, lg_cmp_ge, lg_cmp_eq] at c4); (try simp (disch := omega) only [ta_lt, ta_le, ta_eq, tb_lt, tb_le, tb_eq, tw, tnI, tsub1, tsv, tsb32, tn32 1 (by decide), tnj 1 (by decide), tl32 0 (by decide), tl64 0 (by decide), tl32 8 (by decide), tl64 8 (by decide)] at c4); (try simp (disch := omega) only [ta_lt, ta_le, ta_eq, tb_lt, tb_le, tb_eq, tw, tnI, tsub1, tsv, tsb32, tn32 1 (by decide), tnj 1 (by decide), tl32 0 (by decide), tl64 0 (by decide), tl32 8 (by decide), tl64 8 (by decide)]); omega) (by (try simp only [lg_cmp_lt, lg_cmp_le, lg_cmp_gt, lg_cmp_ge, lg_cmp_eq] at c2); (try simp (disch := omega) only [ta_lt, ta_le, ta_eq, tb_lt, tb_le, tb_eq, tw, tnI, tsub1, tsv, tsb32, tn32 1 (by decide), tnj 1 (by decide), tl32 0 (by decide), tl64 0 (by decide), tl32 8 (by decide), tl64 8 (by decide)] at c2); (try simp only [lg_cmp_lt, lg_cmp_le, lg_cmp_gt, lg_cmp_ge, lg_cmp_eq] at c4); (try simp (disch := omega) only [ta_lt, ta_le, ta_eq, tb_lt, tb_le, tb_eq, tw, tnI, tsub1, tsv, tsb32, tn32 1 (by decide), tnj 1 (by decide), tl32 0 (by decide), tl64 0 (by decide), tl32 8 (by decide), tl64 8 (by decide)] at c4); (try simp (disch := omega) only [ta_lt, ta_le, ta_eq, tb_lt, tb_le, tb_eq, tw, tnI, tsub1, tsv, tsb32, tn32 1 (by decide), tnj 1 (by decide), tl32 0 (by decide), tl64 0 (by decide), tl32 8 (by decide), tl64 8 (by decide)]); omega) hw (lv_sub hl [0, 1, 2, 3] rfl)
        · (try simp (disch := omega) only [ta_lt, ta_le, ta_eq, tnI, tn32 1 (by decide)] at c4)
          refine lv_iload_n hx hb (dkP dF_28 DX10_callersOf (i := 17) rfl rfl) rfl (lv_at hl 1 rfl) ?_
          refine lv_iconst (v := 1) hx hb (dkP dF_4 DX10_callersOf (i := 18) rfl rfl) (by decide) ?_
          refine lv_iload_n hx hb (dkP dF_29 DX10_callersOf (i := 19) rfl rfl) rfl (lv_at hl 0 rfl) ?_
          refine lv_ishl hx hb (dkP dF_120 DX10_callersOf (i := 20) rfl rfl) ?_
          refine z_top (y := nI (p2 q3_4)) (by (try simp only [fa_lit]); exact bs_p _ (by omega)) ?_
          have hbt5 := p2_lt (q := q3_4) (by omega)
          refine lv_ior hx hb (dkP dF_128 DX10_callersOf (i := 21) rfl rfl) ?_
          refine z_top (y := nI (q2_4 ||| (p2 q3_4))) (by (try simp only [fa_lit]); exact nI_or _ _) ?_
          have hbt6 := or_lt (a := q2_4) (b := p2 q3_4) (by omega) (by omega)
          refine lv_istore_n (lv' := [(2, .int (nI (q2_4 ||| (p2 q3_4)))), (3, .int (nI q3_4)), (0, .ref (ad 1)), (1, .int (nI pg))]) hx hb (dkP dF_61 DX10_callersOf (i := 22) rfl rfl) rfl hl (by decide) rfl (fun ls hl => ?_)
          refine lv_iinc (v := nI (q3_4 + 1)) (lv' := [(3, .int (nI (q3_4 + 1))), (2, .int (nI (q2_4 ||| (p2 q3_4)))), (0, .ref (ad 1)), (1, .int (nI pg))]) hx hb (dkI DX10_callersOf (i := 23) rfl rfl rfl rfl) hl (k := 1) rfl (nI_1 _) (by decide) rfl (fun ls hl => ?_)
          refine lv_goto (tgt := 4) hx hb (dkS dF_167 DX10_callersOf (i := 24) rfl rfl rfl) (by decide) ?_
          exact ih1 (q3_4 + 1) (q2_4 ||| (p2 q3_4)) _ _ _ (by omega) (by (try simp only [lg_cmp_lt, lg_cmp_le, lg_cmp_gt, lg_cmp_ge, lg_cmp_eq] at c2); (try simp (disch := omega) only [ta_lt, ta_le, ta_eq, tb_lt, tb_le, tb_eq, tw, tnI, tsub1, tsv, tsb32, tn32 1 (by decide), tnj 1 (by decide), tl32 0 (by decide), tl64 0 (by decide), tl32 1 (by decide), tl64 1 (by decide), tl32 8 (by decide), tl64 8 (by decide)] at c2); (try simp only [lg_cmp_lt, lg_cmp_le, lg_cmp_gt, lg_cmp_ge, lg_cmp_eq] at c4); (try simp (disch := omega) only [ta_lt, ta_le, ta_eq, tb_lt, tb_le, tb_eq, tw, tnI, tsub1, tsv, tsb32, tn32 1 (by decide), tnj 1 (by decide), tl32 0 (by decide), tl64 0 (by decide), tl32 1 (by decide), tl64 1 (by decide), tl32 8 (by decide), tl64 8 (by decide)] at c4); (try simp (disch := omega) only [ta_lt, ta_le, ta_eq, tb_lt, tb_le, tb_eq, tw, tnI, tsub1, tsv, tsb32, tn32 1 (by decide), tnj 1 (by decide), tl32 0 (by decide), tl64 0 (by decide), tl32 1 (by decide), tl64 1 (by decide), tl32 8 (by decide), tl64 8 (by decide)]); omega) (by (try simp only [lg_cmp_lt, lg_cmp_le, lg_cmp_gt, lg_cmp_ge, lg_cmp_eq] at c2); (try simp (disch := omega) only [ta_lt, ta_le, ta_eq, tb_lt, tb_le, tb_eq, tw, tnI, tsub1, tsv, tsb32, tn32 1 (by decide), tnj 1 (by decide), tl32 0 (by decide), tl64 0 (by decide), tl32 1 (by decide), tl64 1 (by decide), tl32 8 (by decide), tl64 8 (by decide)] at c2); (try simp only [lg_cmp_lt, lg_cmp_le, lg_cmp_gt, lg_cmp_ge, lg_cmp_eq] at c4); (try simp (disch := omega) only [ta_lt, ta_le, ta_eq, tb_lt, tb_le, tb_eq, tw, tnI, tsub1, tsv, tsb32, tn32 1 (by decide), tnj 1 (by decide), tl32 0 (by decide), tl64 0 (by decide), tl32 1 (by decide), tl64 1 (by decide), tl32 8 (by decide), tl64 8 (by decide)] at c4); (try simp (disch := omega) only [ta_lt, ta_le, ta_eq, tb_lt, tb_le, tb_eq, tw, tnI, tsub1, tsv, tsb32, tn32 1 (by decide), tnj 1 (by decide), tl32 0 (by decide), tl64 0 (by decide), tl32 1 (by decide), tl64 1 (by decide), tl32 8 (by decide), tl64 8 (by decide)]); omega) hw (lv_sub hl [0, 1, 2, 3] rfl)
  exact lp1 _ 0 0 _ _ _ (Nat.lt_succ_self _) (by (try simp (disch := omega) only [ta_lt, ta_le, ta_eq, tb_lt, tb_le, tb_eq, tw, tnI, tsub1, tsv, tsb32, tn32 1 (by decide), tnj 1 (by decide), tl32 0 (by decide), tl64 0 (by decide), tl32 1 (by decide), tl64 1 (by decide), tl32 8 (by decide), tl64 8 (by decide)]); omega) (by (try simp (disch := omega) only [ta_lt, ta_le, ta_eq, tb_lt, tb_le, tb_eq, tw, tnI, tsub1, tsv, tsb32, tn32 1 (by decide), tnj 1 (by decide), tl32 0 (by decide), tl64 0 (by decide), tl32 1 (by decide), tl64 1 (by decide), tl32 8 (by decide), tl64 8 (by decide)]); omega) hw (lv_sub hl [0, 1, 2, 3] rfl)
theorem tcl_1 : tcL.getD 1 0 = 13 := by decide +kernel
set_option maxRecDepth 100000 in
set_option maxHeartbeats 8000000 in
theorem c_X10_hasHeap (l : Launch) (G : va_G) (kc : KC) (ad : Nat → Nat) (σ : Sg) (hh : Int32) (hT : TC σ) : MI l G kc yX10_hasHeap cX10_hasHeap 2 (some .boolean) 0 0 [.ref (ad 1), .int hh] shC ad σ (fun r σ1 => ((r = 1 ∧ (0 ≤ hh.toInt ∧ hh.toInt ≤ 59)) ∨ (r = 0 ∧ (True))) ∧ σ1 = σ) := by
  intro sz
  refine z_body (y := yX10_hasHeap) (n := 2) (av := [.ref (ad 1), .int hh]) (Qc := fun A => va_Qi (fun r σ1 => ((r = 1 ∧ (0 ≤ hh.toInt ∧ hh.toInt ≤ 59)) ∨ (r = 0 ∧ (True))) ∧ σ1 = σ) (PoC G kc shC ad A) A) (plainFor_of_name (by decide)) (Nat.le_of_ble_eq_true rfl) (fun pr e s m below meth c A C0 hr hlk hnm hw hRo ls hl => ?_) sz
  have hx := C0.1
  have hb := C0.2.1
  have hown := C0.2.2.2.1
  have hts := C0.2.2.2.2.1
  have hl : lv_has ls 2 [(0, .ref (ad 1)), (1, .int hh)] := hl
  refine lv_iload_n hx hb (dkP dF_27 DX10_hasHeap (i := 0) rfl rfl) rfl (lv_at hl 1 rfl) ?_
  refine lv_if_lt (tgt := 16) hx hb (dkS dF_155 DX10_hasHeap (i := 1) rfl rfl rfl) (by decide) (fun c1 => ?_) (fun c1 => ?_)
  · (try simp (disch := omega) only [ta_lt, ta_le, ta_eq, tnI, tl32 0 (by decide)] at c1)
    refine lv_iconst (v := 0) hx hb (dkP dF_3 DX10_hasHeap (i := 8) rfl rfl) (by decide) ?_
    exact z_zret C0 hr hlk (by decide) hw (⟨(Or.inr ⟨rfl, trivial⟩), rfl⟩) (dkP dF_172 DX10_hasHeap (i := 9) rfl rfl)
  · (try simp (disch := omega) only [ta_lt, ta_le, ta_eq, tnI, tl32 0 (by decide)] at c1)
    refine lv_iload_n hx hb (dkP dF_27 DX10_hasHeap (i := 2) rfl rfl) rfl (lv_at hl 1 rfl) ?_
    refine lv_aload_n hx hb (dkP dF_42 DX10_hasHeap (i := 3) rfl rfl) rfl (lv_at hl 0 rfl) ?_
    refine z_gi C0 hw 1 4 (fk_of shc_1 rfl) fl_X10_51 (dk2 dF_180 DX10_hasHeap (i := 4) rfl rfl rfl) ?_
    obtain ⟨n2, hn2, en2⟩ := rngN (x := σ.1 1 4) (h := 60) (tcr_13_4 hT tcl_1)
    refine z_top (y := nI n2) en2 ?_
    refine lv_icmp_ge (tgt := 16) hx hb (dkS dF_162 DX10_hasHeap (i := 5) rfl rfl rfl) (by decide) (fun c3 => ?_) (fun c3 => ?_)
    · (try simp (disch := omega) only [ta_lt, ta_le, ta_eq, tnI] at c3); have hz3 := i32b hh
      refine lv_iconst (v := 0) hx hb (dkP dF_3 DX10_hasHeap (i := 8) rfl rfl) (by decide) ?_
      exact z_zret C0 hr hlk (by decide) hw (⟨(Or.inr ⟨rfl, trivial⟩), rfl⟩) (dkP dF_172 DX10_hasHeap (i := 9) rfl rfl)
    · (try simp (disch := omega) only [ta_lt, ta_le, ta_eq, tnI] at c3); have hz3 := i32b hh
      refine lv_iconst (v := 1) hx hb (dkP dF_4 DX10_hasHeap (i := 6) rfl rfl) (by decide) ?_
      refine lv_goto (tgt := 17) hx hb (dkS dF_167 DX10_hasHeap (i := 7) rfl rfl rfl) (by decide) ?_
      exact z_zret C0 hr hlk (by decide) hw (⟨(Or.inl ⟨rfl, (by (try simp only [lg_cmp_lt, lg_cmp_le, lg_cmp_gt, lg_cmp_ge, lg_cmp_eq] at c1); (try simp (disch := omega) only [ta_lt, ta_le, ta_eq, tb_lt, tb_le, tb_eq, tw, tnI, tsub1, tsv, tsb32, tn32 1 (by decide), tnj 1 (by decide), tl32 0 (by decide), tl64 0 (by decide), tl32 1 (by decide), tl64 1 (by decide)] at c1); (try simp only [lg_cmp_lt, lg_cmp_le, lg_cmp_gt, lg_cmp_ge, lg_cmp_eq] at c3); (try simp (disch := omega) only [ta_lt, ta_le, ta_eq, tb_lt, tb_le, tb_eq, tw, tnI, tsub1, tsv, tsb32, tn32 1 (by decide), tnj 1 (by decide), tl32 0 (by decide), tl64 0 (by decide), tl32 1 (by decide), tl64 1 (by decide)] at c3); (try simp (disch := omega) only [ta_lt, ta_le, ta_eq, tb_lt, tb_le, tb_eq, tw, tnI, tsub1, tsv, tsb32, tn32 1 (by decide), tnj 1 (by decide), tl32 0 (by decide), tl64 0 (by decide), tl32 1 (by decide), tl64 1 (by decide)]); omega)⟩), rfl⟩) (dkP dF_172 DX10_hasHeap (i := 9) rfl rfl)
set_option maxRecDepth 20000 in
theorem shc_5 : shC[5]? = some (1, 420, []) := by rfl
theorem tcl_5 : tcL.getD 5 0 = 0 := by decide +kernel
set_option maxRecDepth 100000 in
set_option maxHeartbeats 8000000 in
theorem c_X10_heapFor (l : Launch) (G : va_G) (kc : KC) (ad : Nat → Nat) (σ : Sg) (pg : Int32) (line : Int32) (chs : Int32) (bts : Int32) (hT : TC σ) : MI l G kc yX10_heapFor cX10_heapFor 7 (some .int) 0 0 [.ref (ad 1), .int pg, .int line, .int chs, .int bts] shC ad σ (fun r σ1 => (-1 ≤ r.toInt ∧ r.toInt ≤ 59) ∧ TC σ1 ∧ frC (fun x y => (x = 1 ∧ y = 4) ∨ (x = 5)) σ σ1) := by
  intro sz
  refine z_body (y := yX10_heapFor) (n := 7) (av := [.ref (ad 1), .int pg, .int line, .int chs, .int bts]) (Qc := fun A => va_Qi (fun r σ1 => (-1 ≤ r.toInt ∧ r.toInt ≤ 59) ∧ TC σ1 ∧ frC (fun x y => (x = 1 ∧ y = 4) ∨ (x = 5)) σ σ1) (PoC G kc shC ad A) A) (plainFor_of_name (by decide)) (Nat.le_of_ble_eq_true rfl) (fun pr e s m below meth c A C0 hr hlk hnm hw hRo ls hl => ?_) sz
  have hx := C0.1
  have hb := C0.2.1
  have hown := C0.2.2.2.1
  have hts := C0.2.2.2.2.1
  have hl : lv_has ls 7 [(0, .ref (ad 1)), (1, .int pg), (2, .int line), (3, .int chs), (4, .int bts)] := hl
  refine lv_iconst (v := 0) hx hb (dkP dF_3 DX10_heapFor (i := 0) rfl rfl) (by decide) ?_
  refine lv_istore (lv' := [(5, .int 0), (0, .ref (ad 1)), (1, .int pg), (2, .int line), (3, .int chs), (4, .int bts)]) hx hb (dk1 dF_54 DX10_heapFor (i := 1) rfl rfl rfl) hl (by decide) rfl (fun ls hl => ?_)
  have lp1 : ∀ (nq : Nat) (q5_3 : Nat) (H : Heap) (locs : List Loc) (ls : Array Slot), 60 - q5_3 < nq → (q5_3 ≤ 60) → St G kc A s.heap shC ad σ H locs → lv_has ls 7 [(5, .int (nI q5_3)), (0, .ref (ad 1)), (1, .int pg), (2, .int line), (3, .int chs), (4, .int bts)] → W pr l e { frames := 0, cells := 0, slots := 0, locals := 0 } s m ([.ref (ad 1), .int pg, .int line, .int chs, .int bts] : List Value).toArray below meth c H locs 0 0 (MQ below (va_Qi (fun r σ1 => (-1 ≤ r.toInt ∧ r.toInt ≤ 59) ∧ TC σ1 ∧ frC (fun x y => (x = 1 ∧ y = 4) ∨ (x = 5)) σ σ1) (PoC G kc shC ad A) A) ([.ref (ad 1), .int pg, .int line, .int chs, .int bts] : List Value).toArray s 0 0 A) (F0 m 3 ls []) := by
    intro nq
    induction nq with
    | zero => intro q5_3 H locs ls hmu; exact absurd hmu (Nat.not_lt_zero _)
    | succ nq ih1 =>
      intro q5_3 H locs ls hmu hq5_3 hw hl
      refine lv_iload hx hb (dk1 dF_21 DX10_heapFor (i := 2) rfl rfl rfl) (lv_at hl 0 rfl) ?_
      refine lv_aload_n hx hb (dkP dF_42 DX10_heapFor (i := 3) rfl rfl) rfl (lv_at hl 1 rfl) ?_
      refine z_gi C0 hw 1 4 (fk_of shc_1 rfl) fl_X10_51 (dk2 dF_180 DX10_heapFor (i := 4) rfl rfl rfl) ?_
      obtain ⟨n2, hn2, en2⟩ := rngN (x := σ.1 1 4) (h := 60) (tcr_13_4 hT tcl_1)
      refine z_top (y := nI n2) en2 ?_
      refine lv_icmp_ge (tgt := 81) hx hb (dkS dF_162 DX10_heapFor (i := 5) rfl rfl rfl) (by decide) (fun c3 => ?_) (fun c3 => ?_)
      · simp (disch := omega) only [ta_lt, ta_le, ta_eq, tnI] at c3
        refine lv_aload_n hx hb (dkP dF_42 DX10_heapFor (i := 46) rfl rfl) rfl (lv_at hl 1 rfl) ?_
        refine z_gi C0 hw 1 4 (fk_of shc_1 rfl) fl_X10_51 (dk2 dF_180 DX10_heapFor (i := 47) rfl rfl rfl) ?_
        refine z_top (y := (nI n2)) en2 ?_
        refine lv_bipush (v := 60) hx hb (dks dF_16 DX10_heapFor (i := 48) rfl rfl rfl) (by decide) ?_
        refine lv_icmp_lt (tgt := 92) hx hb (dkS dF_161 DX10_heapFor (i := 49) rfl rfl rfl) (by decide) (fun c4 => ?_) (fun c4 => ?_)
        · simp (disch := omega) only [ta_lt, ta_le, ta_eq, tnI, tl32 60 (by decide)] at c4
          refine lv_aload_n hx hb (dkP dF_42 DX10_heapFor (i := 52) rfl rfl) rfl (lv_at hl 1 rfl) ?_
          refine z_gi C0 hw 1 4 (fk_of shc_1 rfl) fl_X10_51 (dk2 dF_180 DX10_heapFor (i := 53) rfl rfl rfl) ?_
          refine z_top (y := (nI n2)) en2 ?_
          refine lv_bipush (v := 7) hx hb (dks dF_16 DX10_heapFor (i := 54) rfl rfl rfl) (by decide) ?_
          refine lv_imul hx hb (dkP dF_104 DX10_heapFor (i := 55) rfl rfl) ?_
          refine z_top (y := nI (n2 * 7)) (by simp only [fa_lit, nI_add, pk_mul]) ?_
          refine lv_istore (lv' := [(5, .int (nI (n2 * 7))), (0, .ref (ad 1)), (1, .int pg), (2, .int line), (3, .int chs), (4, .int bts)]) hx hb (dk1 dF_54 DX10_heapFor (i := 56) rfl rfl rfl) hl (by decide) rfl (fun ls hl => ?_)
          refine lv_aload_n hx hb (dkP dF_42 DX10_heapFor (i := 57) rfl rfl) rfl (lv_at hl 1 rfl) ?_
          refine z_gr C0 hw 1 3 5 (fk_of shc_1 rfl) fl_X10_24 (dk2 dF_180 DX10_heapFor (i := 58) rfl rfl rfl) ?_
          refine lv_iload hx hb (dk1 dF_21 DX10_heapFor (i := 59) rfl rfl rfl) (lv_at hl 0 rfl) ?_
          refine lv_iconst (v := 0) hx hb (dkP dF_3 DX10_heapFor (i := 60) rfl rfl) (by decide) ?_
          refine lv_iadd hx hb (dkP dF_96 DX10_heapFor (i := 61) rfl rfl) ?_
          refine z_top (y := nI ((n2 * 7) + 0)) (by simp only [fa_lit, nI_add, pk_mul]) ?_
          refine lv_iload_n hx hb (dkP dF_27 DX10_heapFor (i := 62) rfl rfl) rfl (lv_at hl 2 rfl) ?_
          refine z_iastN (n := 420) C0 hw 5 ((n2 * 7) + 0) (ak_of shc_5) (by omega) (by decide) (dkP dF_79 DX10_heapFor (i := 63) rfl rfl) (fun H locs hw => ?_)
          have hT5 : TC (sI σ 5 ((n2 * 7) + 0) pg) := TC.w hT (tc0 tcl_5)
          have hF5 : frC (fun x y => (x = 1 ∧ y = 4) ∨ (x = 5)) σ (sI σ 5 ((n2 * 7) + 0) pg) := frC.w frC.refl (by show (5 = 1 ∧ (n2 * 7 + 0) = 4) ∨ (5 = 5); exact Or.inr (rfl))
          refine lv_aload_n hx hb (dkP dF_42 DX10_heapFor (i := 64) rfl rfl) rfl (lv_at hl 1 rfl) ?_
          refine z_gr C0 hw 1 3 5 (fk_of shc_1 rfl) fl_X10_24 (dk2 dF_180 DX10_heapFor (i := 65) rfl rfl rfl) ?_
          refine lv_iload hx hb (dk1 dF_21 DX10_heapFor (i := 66) rfl rfl rfl) (lv_at hl 0 rfl) ?_
          refine lv_iconst (v := 1) hx hb (dkP dF_4 DX10_heapFor (i := 67) rfl rfl) (by decide) ?_
          refine lv_iadd hx hb (dkP dF_96 DX10_heapFor (i := 68) rfl rfl) ?_
          refine z_top (y := nI ((n2 * 7) + 1)) (by simp only [fa_lit, nI_add, pk_mul]) ?_
          refine lv_iload_n hx hb (dkP dF_28 DX10_heapFor (i := 69) rfl rfl) rfl (lv_at hl 3 rfl) ?_
          refine z_iastN (n := 420) C0 hw 5 ((n2 * 7) + 1) (ak_of shc_5) (by omega) (by decide) (dkP dF_79 DX10_heapFor (i := 70) rfl rfl) (fun H locs hw => ?_)
          have hT6 : TC (sI (sI σ 5 ((n2 * 7) + 0) pg) 5 ((n2 * 7) + 1) line) := TC.w hT5 (tc0 tcl_5)
          have hF6 : frC (fun x y => (x = 1 ∧ y = 4) ∨ (x = 5)) σ (sI (sI σ 5 ((n2 * 7) + 0) pg) 5 ((n2 * 7) + 1) line) := frC.w hF5 (by show (5 = 1 ∧ (n2 * 7 + 1) = 4) ∨ (5 = 5); exact Or.inr (rfl))
          refine lv_aload_n hx hb (dkP dF_42 DX10_heapFor (i := 71) rfl rfl) rfl (lv_at hl 1 rfl) ?_
          refine z_gr C0 hw 1 3 5 (fk_of shc_1 rfl) fl_X10_24 (dk2 dF_180 DX10_heapFor (i := 72) rfl rfl rfl) ?_
          refine lv_iload hx hb (dk1 dF_21 DX10_heapFor (i := 73) rfl rfl rfl) (lv_at hl 0 rfl) ?_
          refine lv_iconst (v := 2) hx hb (dkP dF_5 DX10_heapFor (i := 74) rfl rfl) (by decide) ?_
          refine lv_iadd hx hb (dkP dF_96 DX10_heapFor (i := 75) rfl rfl) ?_
          refine z_top (y := nI ((n2 * 7) + 2)) (by simp only [fa_lit, nI_add, pk_mul]) ?_
          refine lv_iload_n hx hb (dkP dF_29 DX10_heapFor (i := 76) rfl rfl) rfl (lv_at hl 4 rfl) ?_
          refine z_iastN (n := 420) C0 hw 5 ((n2 * 7) + 2) (ak_of shc_5) (by omega) (by decide) (dkP dF_79 DX10_heapFor (i := 77) rfl rfl) (fun H locs hw => ?_)
          have hT7 : TC (sI (sI (sI σ 5 ((n2 * 7) + 0) pg) 5 ((n2 * 7) + 1) line) 5 ((n2 * 7) + 2) chs) := TC.w hT6 (tc0 tcl_5)
          have hF7 : frC (fun x y => (x = 1 ∧ y = 4) ∨ (x = 5)) σ (sI (sI (sI σ 5 ((n2 * 7) + 0) pg) 5 ((n2 * 7) + 1) line) 5 ((n2 * 7) + 2) chs) := frC.w hF6 (by show (5 = 1 ∧ (n2 * 7 + 2) = 4) ∨ (5 = 5); exact Or.inr (rfl))
          refine lv_aload_n hx hb (dkP dF_42 DX10_heapFor (i := 78) rfl rfl) rfl (lv_at hl 1 rfl) ?_
          refine z_gr C0 hw 1 3 5 (fk_of shc_1 rfl) fl_X10_24 (dk2 dF_180 DX10_heapFor (i := 79) rfl rfl rfl) ?_
          refine lv_iload hx hb (dk1 dF_21 DX10_heapFor (i := 80) rfl rfl rfl) (lv_at hl 0 rfl) ?_
          refine lv_iconst (v := 3) hx hb (dkP dF_6 DX10_heapFor (i := 81) rfl rfl) (by decide) ?_
          refine lv_iadd hx hb (dkP dF_96 DX10_heapFor (i := 82) rfl rfl) ?_
          refine z_top (y := nI ((n2 * 7) + 3)) (by simp only [fa_lit, nI_add, pk_mul]) ?_
          refine lv_iload hx hb (dk1 dF_21 DX10_heapFor (i := 83) rfl rfl rfl) (lv_at hl 5 rfl) ?_
          refine z_iastN (n := 420) C0 hw 5 ((n2 * 7) + 3) (ak_of shc_5) (by omega) (by decide) (dkP dF_79 DX10_heapFor (i := 84) rfl rfl) (fun H locs hw => ?_)
          have hT8 : TC (sI (sI (sI (sI σ 5 ((n2 * 7) + 0) pg) 5 ((n2 * 7) + 1) line) 5 ((n2 * 7) + 2) chs) 5 ((n2 * 7) + 3) bts) := TC.w hT7 (tc0 tcl_5)
          have hF8 : frC (fun x y => (x = 1 ∧ y = 4) ∨ (x = 5)) σ (sI (sI (sI (sI σ 5 ((n2 * 7) + 0) pg) 5 ((n2 * 7) + 1) line) 5 ((n2 * 7) + 2) chs) 5 ((n2 * 7) + 3) bts) := frC.w hF7 (by show (5 = 1 ∧ (n2 * 7 + 3) = 4) ∨ (5 = 5); exact Or.inr (rfl))
          refine lv_aload_n hx hb (dkP dF_42 DX10_heapFor (i := 85) rfl rfl) rfl (lv_at hl 1 rfl) ?_
          refine z_gr C0 hw 1 3 5 (fk_of shc_1 rfl) fl_X10_24 (dk2 dF_180 DX10_heapFor (i := 86) rfl rfl rfl) ?_
          refine lv_iload hx hb (dk1 dF_21 DX10_heapFor (i := 87) rfl rfl rfl) (lv_at hl 0 rfl) ?_
          refine lv_iconst (v := 4) hx hb (dkP dF_7 DX10_heapFor (i := 88) rfl rfl) (by decide) ?_
          refine lv_iadd hx hb (dkP dF_96 DX10_heapFor (i := 89) rfl rfl) ?_
          refine z_top (y := nI ((n2 * 7) + 4)) (by simp only [fa_lit, nI_add, pk_mul]) ?_
          refine lv_iconst (v := 0) hx hb (dkP dF_3 DX10_heapFor (i := 90) rfl rfl) (by decide) ?_
          refine z_iastN (n := 420) C0 hw 5 ((n2 * 7) + 4) (ak_of shc_5) (by omega) (by decide) (dkP dF_79 DX10_heapFor (i := 91) rfl rfl) (fun H locs hw => ?_)
          have hT9 : TC (sI (sI (sI (sI (sI σ 5 ((n2 * 7) + 0) pg) 5 ((n2 * 7) + 1) line) 5 ((n2 * 7) + 2) chs) 5 ((n2 * 7) + 3) bts) 5 ((n2 * 7) + 4) 0) := TC.w hT8 (tc0 tcl_5)
          have hF9 : frC (fun x y => (x = 1 ∧ y = 4) ∨ (x = 5)) σ (sI (sI (sI (sI (sI σ 5 ((n2 * 7) + 0) pg) 5 ((n2 * 7) + 1) line) 5 ((n2 * 7) + 2) chs) 5 ((n2 * 7) + 3) bts) 5 ((n2 * 7) + 4) 0) := frC.w hF8 (by show (5 = 1 ∧ (n2 * 7 + 4) = 4) ∨ (5 = 5); exact Or.inr (rfl))
          refine lv_aload_n hx hb (dkP dF_42 DX10_heapFor (i := 92) rfl rfl) rfl (lv_at hl 1 rfl) ?_
          refine z_gr C0 hw 1 3 5 (fk_of shc_1 rfl) fl_X10_24 (dk2 dF_180 DX10_heapFor (i := 93) rfl rfl rfl) ?_
          refine lv_iload hx hb (dk1 dF_21 DX10_heapFor (i := 94) rfl rfl rfl) (lv_at hl 0 rfl) ?_
          refine lv_iconst (v := 5) hx hb (dkP dF_8 DX10_heapFor (i := 95) rfl rfl) (by decide) ?_
          refine lv_iadd hx hb (dkP dF_96 DX10_heapFor (i := 96) rfl rfl) ?_
          refine z_top (y := nI ((n2 * 7) + 5)) (by simp only [fa_lit, nI_add, pk_mul]) ?_
          refine lv_iconst (v := 0) hx hb (dkP dF_3 DX10_heapFor (i := 97) rfl rfl) (by decide) ?_
          refine z_iastN (n := 420) C0 hw 5 ((n2 * 7) + 5) (ak_of shc_5) (by omega) (by decide) (dkP dF_79 DX10_heapFor (i := 98) rfl rfl) (fun H locs hw => ?_)
          have hT10 : TC (sI (sI (sI (sI (sI (sI σ 5 ((n2 * 7) + 0) pg) 5 ((n2 * 7) + 1) line) 5 ((n2 * 7) + 2) chs) 5 ((n2 * 7) + 3) bts) 5 ((n2 * 7) + 4) 0) 5 ((n2 * 7) + 5) 0) := TC.w hT9 (tc0 tcl_5)
          have hF10 : frC (fun x y => (x = 1 ∧ y = 4) ∨ (x = 5)) σ (sI (sI (sI (sI (sI (sI σ 5 ((n2 * 7) + 0) pg) 5 ((n2 * 7) + 1) line) 5 ((n2 * 7) + 2) chs) 5 ((n2 * 7) + 3) bts) 5 ((n2 * 7) + 4) 0) 5 ((n2 * 7) + 5) 0) := frC.w hF9 (by show (5 = 1 ∧ (n2 * 7 + 5) = 4) ∨ (5 = 5); exact Or.inr (rfl))
          refine lv_aload_n hx hb (dkP dF_42 DX10_heapFor (i := 99) rfl rfl) rfl (lv_at hl 1 rfl) ?_
          refine lv_dup hx hb (dkP dF_89 DX10_heapFor (i := 100) rfl rfl) rfl ?_
          refine z_gi C0 hw 1 4 (fk_of shc_1 rfl) fl_X10_51 (dk2 dF_180 DX10_heapFor (i := 101) rfl rfl rfl) ?_
          refine z_top (y := (nI n2)) ((rd_n (by omega)).trans ((rd_n (by omega)).trans ((rd_n (by omega)).trans ((rd_n (by omega)).trans ((rd_n (by omega)).trans ((rd_n (by omega)).trans en2)))))) ?_
          refine lv_iconst (v := 1) hx hb (dkP dF_4 DX10_heapFor (i := 102) rfl rfl) (by decide) ?_
          refine lv_iadd hx hb (dkP dF_96 DX10_heapFor (i := 103) rfl rfl) ?_
          refine z_top (y := nI (n2 + 1)) (by simp only [fa_lit, nI_add, pk_mul]) ?_
          refine z_pi C0 hw 1 4 (fk_of shc_1 rfl) fp_X10_51 (dk2 dF_181 DX10_heapFor (i := 104) rfl rfl rfl) (fun H locs hw => ?_)
          have hT11 : TC (sI (sI (sI (sI (sI (sI (sI σ 5 ((n2 * 7) + 0) pg) 5 ((n2 * 7) + 1) line) 5 ((n2 * 7) + 2) chs) 5 ((n2 * 7) + 3) bts) 5 ((n2 * 7) + 4) 0) 5 ((n2 * 7) + 5) 0) 1 4 (nI (n2 + 1))) := TC.w hT10 (tcw_13_4 tcl_1 (by (try simp only [lg_cmp_lt, lg_cmp_le, lg_cmp_gt, lg_cmp_ge, lg_cmp_eq] at c3); (try simp (disch := omega) only [ta_lt, ta_le, ta_eq, tb_lt, tb_le, tb_eq, tw, tnI, tsub1, tsv, tsb32, tn32 1 (by decide), tnj 1 (by decide), tl32 0 (by decide), tl64 0 (by decide), tl32 1 (by decide), tl64 1 (by decide), tl32 2 (by decide), tl64 2 (by decide), tl32 3 (by decide), tl64 3 (by decide), tl32 4 (by decide), tl64 4 (by decide), tl32 5 (by decide), tl64 5 (by decide), tl32 7 (by decide), tl64 7 (by decide), tl32 60 (by decide), tl64 60 (by decide)] at c3); (try simp only [lg_cmp_lt, lg_cmp_le, lg_cmp_gt, lg_cmp_ge, lg_cmp_eq] at c4); (try simp (disch := omega) only [ta_lt, ta_le, ta_eq, tb_lt, tb_le, tb_eq, tw, tnI, tsub1, tsv, tsb32, tn32 1 (by decide), tnj 1 (by decide), tl32 0 (by decide), tl64 0 (by decide), tl32 1 (by decide), tl64 1 (by decide), tl32 2 (by decide), tl64 2 (by decide), tl32 3 (by decide), tl64 3 (by decide), tl32 4 (by decide), tl64 4 (by decide), tl32 5 (by decide), tl64 5 (by decide), tl32 7 (by decide), tl64 7 (by decide), tl32 60 (by decide), tl64 60 (by decide)] at c4); (try simp (disch := omega) only [ta_lt, ta_le, ta_eq, tb_lt, tb_le, tb_eq, tw, tnI, tsub1, tsv, tsb32, tn32 1 (by decide), tnj 1 (by decide), tl32 0 (by decide), tl64 0 (by decide), tl32 1 (by decide), tl64 1 (by decide), tl32 2 (by decide), tl64 2 (by decide), tl32 3 (by decide), tl64 3 (by decide), tl32 4 (by decide), tl64 4 (by decide), tl32 5 (by decide), tl64 5 (by decide), tl32 7 (by decide), tl64 7 (by decide), tl32 60 (by decide), tl64 60 (by decide)]); omega))
          have hF11 : frC (fun x y => (x = 1 ∧ y = 4) ∨ (x = 5)) σ (sI (sI (sI (sI (sI (sI (sI σ 5 ((n2 * 7) + 0) pg) 5 ((n2 * 7) + 1) line) 5 ((n2 * 7) + 2) chs) 5 ((n2 * 7) + 3) bts) 5 ((n2 * 7) + 4) 0) 5 ((n2 * 7) + 5) 0) 1 4 (nI (n2 + 1))) := frC.w hF10 (by show (1 = 1 ∧ 4 = 4) ∨ (1 = 5); exact Or.inl (⟨rfl, rfl⟩))
          refine lv_aload_n hx hb (dkP dF_42 DX10_heapFor (i := 105) rfl rfl) rfl (lv_at hl 1 rfl) ?_
          refine z_gi C0 hw 1 4 (fk_of shc_1 rfl) fl_X10_51 (dk2 dF_180 DX10_heapFor (i := 106) rfl rfl rfl) ?_
          refine z_top (y := (nI (n2 + 1))) rd_s ?_
          refine lv_iconst (v := 1) hx hb (dkP dF_4 DX10_heapFor (i := 107) rfl rfl) (by decide) ?_
          refine lv_isub hx hb (dkP dF_100 DX10_heapFor (i := 108) rfl rfl) ?_
          refine z_top (y := nI ((n2 + 1) - 1)) (by simp only [fa_lit]; exact nI_sub (by omega)) ?_
          exact z_iret C0 hr hlk hw (⟨(show -1 ≤ _ ∧ _ ≤ 59 from by (try simp (disch := omega) only [tnI, tn32 1 (by decide), tl32 0 (by decide), tl32 1 (by decide), tl32 2 (by decide), tl32 3 (by decide), tl32 4 (by decide), tl32 5 (by decide), tl32 7 (by decide), tl32 60 (by decide)]); omega), hT11, hF11⟩) (dkP dF_172 DX10_heapFor (i := 109) rfl rfl)
        · simp (disch := omega) only [ta_lt, ta_le, ta_eq, tnI, tl32 60 (by decide)] at c4
          refine lv_iconst (v := (-1)) hx hb (dkP dF_2 DX10_heapFor (i := 50) rfl rfl) (by decide) ?_
          exact z_iret C0 hr hlk hw (⟨(show -1 ≤ _ ∧ _ ≤ 59 from by (try simp (disch := omega) only [tnI, tn32 1 (by decide), tl32 0 (by decide), tl32 1 (by decide), tl32 2 (by decide), tl32 3 (by decide), tl32 4 (by decide), tl32 5 (by decide), tl32 7 (by decide), tl32 60 (by decide)]); omega), hT, frC.refl⟩) (dkP dF_172 DX10_heapFor (i := 51) rfl rfl)
      · simp (disch := omega) only [ta_lt, ta_le, ta_eq, tnI] at c3
        refine lv_iload hx hb (dk1 dF_21 DX10_heapFor (i := 6) rfl rfl rfl) (lv_at hl 0 rfl) ?_
        refine lv_bipush (v := 7) hx hb (dks dF_16 DX10_heapFor (i := 7) rfl rfl rfl) (by decide) ?_
        refine lv_imul hx hb (dkP dF_104 DX10_heapFor (i := 8) rfl rfl) ?_
        refine z_top (y := nI (q5_3 * 7)) (by simp only [fa_lit, nI_add, pk_mul]) ?_
        refine lv_istore (lv' := [(6, .int (nI (q5_3 * 7))), (5, .int (nI q5_3)), (0, .ref (ad 1)), (1, .int pg), (2, .int line), (3, .int chs), (4, .int bts)]) hx hb (dk1 dF_54 DX10_heapFor (i := 9) rfl rfl rfl) hl (by decide) rfl (fun ls hl => ?_)
        refine lv_aload_n hx hb (dkP dF_42 DX10_heapFor (i := 10) rfl rfl) rfl (lv_at hl 2 rfl) ?_
        refine z_gr C0 hw 1 3 5 (fk_of shc_1 rfl) fl_X10_24 (dk2 dF_180 DX10_heapFor (i := 11) rfl rfl rfl) ?_
        refine lv_iload hx hb (dk1 dF_21 DX10_heapFor (i := 12) rfl rfl rfl) (lv_at hl 0 rfl) ?_
        refine lv_iconst (v := 0) hx hb (dkP dF_3 DX10_heapFor (i := 13) rfl rfl) (by decide) ?_
        refine lv_iadd hx hb (dkP dF_96 DX10_heapFor (i := 14) rfl rfl) ?_
        refine z_top (y := nI ((q5_3 * 7) + 0)) (by simp only [fa_lit, nI_add, pk_mul]) ?_
        refine z_ialdN (n := 420) C0 hw 5 ((q5_3 * 7) + 0) (ak_of shc_5) (by omega) (by decide) (dkP dF_46 DX10_heapFor (i := 15) rfl rfl) ?_
        obtain ⟨v12, ev12⟩ : ∃ y : Int32, σ.1 5 ((q5_3 * 7) + 0) = y := ⟨_, rfl⟩
        refine z_top (y := v12) ev12 ?_
        refine lv_iload_n hx hb (dkP dF_27 DX10_heapFor (i := 16) rfl rfl) rfl (lv_at hl 3 rfl) ?_
        refine lv_icmp_ne (tgt := 75) hx hb (dkS dF_160 DX10_heapFor (i := 17) rfl rfl rfl) (by decide) (fun c13 => ?_) (fun c13 => ?_)
        · (try simp (disch := omega) only [ta_lt, ta_le, ta_eq, tnI] at c13)
          refine lv_iinc (v := nI (q5_3 + 1)) (lv' := [(5, .int (nI (q5_3 + 1))), (6, .int (nI (q5_3 * 7))), (0, .ref (ad 1)), (1, .int pg), (2, .int line), (3, .int chs), (4, .int bts)]) hx hb (dkI DX10_heapFor (i := 44) rfl rfl rfl rfl) hl (k := 1) rfl (nI_1 _) (by decide) rfl (fun ls hl => ?_)
          refine lv_goto (tgt := 3) hx hb (dkS dF_167 DX10_heapFor (i := 45) rfl rfl rfl) (by decide) ?_
          exact ih1 (q5_3 + 1) _ _ _ (by omega) (by (try simp only [lg_cmp_lt, lg_cmp_le, lg_cmp_gt, lg_cmp_ge, lg_cmp_eq] at c3); (try simp (disch := omega) only [ta_lt, ta_le, ta_eq, tb_lt, tb_le, tb_eq, tw, tnI, tsub1, tsv, tsb32, tn32 1 (by decide), tnj 1 (by decide), tl32 0 (by decide), tl64 0 (by decide), tl32 1 (by decide), tl64 1 (by decide), tl32 2 (by decide), tl64 2 (by decide), tl32 3 (by decide), tl64 3 (by decide), tl32 4 (by decide), tl64 4 (by decide), tl32 5 (by decide), tl64 5 (by decide), tl32 7 (by decide), tl64 7 (by decide), tl32 60 (by decide), tl64 60 (by decide)] at c3); (try simp only [lg_cmp_lt, lg_cmp_le, lg_cmp_gt, lg_cmp_ge, lg_cmp_eq] at c13); (try simp (disch := omega) only [ta_lt, ta_le, ta_eq, tb_lt, tb_le, tb_eq, tw, tnI, tsub1, tsv, tsb32, tn32 1 (by decide), tnj 1 (by decide), tl32 0 (by decide), tl64 0 (by decide), tl32 1 (by decide), tl64 1 (by decide), tl32 2 (by decide), tl64 2 (by decide), tl32 3 (by decide), tl64 3 (by decide), tl32 4 (by decide), tl64 4 (by decide), tl32 5 (by decide), tl64 5 (by decide), tl32 7 (by decide), tl64 7 (by decide), tl32 60 (by decide), tl64 60 (by decide)] at c13); (try simp (disch := omega) only [ta_lt, ta_le, ta_eq, tb_lt, tb_le, tb_eq, tw, tnI, tsub1, tsv, tsb32, tn32 1 (by decide), tnj 1 (by decide), tl32 0 (by decide), tl64 0 (by decide), tl32 1 (by decide), tl64 1 (by decide), tl32 2 (by decide), tl64 2 (by decide), tl32 3 (by decide), tl64 3 (by decide), tl32 4 (by decide), tl64 4 (by decide), tl32 5 (by decide), tl64 5 (by decide), tl32 7 (by decide), tl64 7 (by decide), tl32 60 (by decide), tl64 60 (by decide)]); omega) hw (lv_sub hl [0, 2, 3, 4, 5, 6] rfl)
        · (try simp (disch := omega) only [ta_lt, ta_le, ta_eq, tnI] at c13)
          refine lv_aload_n hx hb (dkP dF_42 DX10_heapFor (i := 18) rfl rfl) rfl (lv_at hl 2 rfl) ?_
          refine z_gr C0 hw 1 3 5 (fk_of shc_1 rfl) fl_X10_24 (dk2 dF_180 DX10_heapFor (i := 19) rfl rfl rfl) ?_
          refine lv_iload hx hb (dk1 dF_21 DX10_heapFor (i := 20) rfl rfl rfl) (lv_at hl 0 rfl) ?_
          refine lv_iconst (v := 1) hx hb (dkP dF_4 DX10_heapFor (i := 21) rfl rfl) (by decide) ?_
          refine lv_iadd hx hb (dkP dF_96 DX10_heapFor (i := 22) rfl rfl) ?_
          refine z_top (y := nI ((q5_3 * 7) + 1)) (by simp only [fa_lit, nI_add, pk_mul]) ?_
          refine z_ialdN (n := 420) C0 hw 5 ((q5_3 * 7) + 1) (ak_of shc_5) (by omega) (by decide) (dkP dF_46 DX10_heapFor (i := 23) rfl rfl) ?_
          obtain ⟨v14, ev14⟩ : ∃ y : Int32, σ.1 5 ((q5_3 * 7) + 1) = y := ⟨_, rfl⟩
          refine z_top (y := v14) ev14 ?_
          refine lv_iload_n hx hb (dkP dF_28 DX10_heapFor (i := 24) rfl rfl) rfl (lv_at hl 4 rfl) ?_
          refine lv_icmp_ne (tgt := 75) hx hb (dkS dF_160 DX10_heapFor (i := 25) rfl rfl rfl) (by decide) (fun c15 => ?_) (fun c15 => ?_)
          · (try simp (disch := omega) only [ta_lt, ta_le, ta_eq, tnI] at c15)
            refine lv_iinc (v := nI (q5_3 + 1)) (lv' := [(5, .int (nI (q5_3 + 1))), (6, .int (nI (q5_3 * 7))), (0, .ref (ad 1)), (1, .int pg), (2, .int line), (3, .int chs), (4, .int bts)]) hx hb (dkI DX10_heapFor (i := 44) rfl rfl rfl rfl) hl (k := 1) rfl (nI_1 _) (by decide) rfl (fun ls hl => ?_)
            refine lv_goto (tgt := 3) hx hb (dkS dF_167 DX10_heapFor (i := 45) rfl rfl rfl) (by decide) ?_
            exact ih1 (q5_3 + 1) _ _ _ (by omega) (by (try simp only [lg_cmp_lt, lg_cmp_le, lg_cmp_gt, lg_cmp_ge, lg_cmp_eq] at c3); (try simp (disch := omega) only [ta_lt, ta_le, ta_eq, tb_lt, tb_le, tb_eq, tw, tnI, tsub1, tsv, tsb32, tn32 1 (by decide), tnj 1 (by decide), tl32 0 (by decide), tl64 0 (by decide), tl32 1 (by decide), tl64 1 (by decide), tl32 2 (by decide), tl64 2 (by decide), tl32 3 (by decide), tl64 3 (by decide), tl32 4 (by decide), tl64 4 (by decide), tl32 5 (by decide), tl64 5 (by decide), tl32 7 (by decide), tl64 7 (by decide), tl32 60 (by decide), tl64 60 (by decide)] at c3); (try simp only [lg_cmp_lt, lg_cmp_le, lg_cmp_gt, lg_cmp_ge, lg_cmp_eq] at c13); (try simp (disch := omega) only [ta_lt, ta_le, ta_eq, tb_lt, tb_le, tb_eq, tw, tnI, tsub1, tsv, tsb32, tn32 1 (by decide), tnj 1 (by decide), tl32 0 (by decide), tl64 0 (by decide), tl32 1 (by decide), tl64 1 (by decide), tl32 2 (by decide), tl64 2 (by decide), tl32 3 (by decide), tl64 3 (by decide), tl32 4 (by decide), tl64 4 (by decide), tl32 5 (by decide), tl64 5 (by decide), tl32 7 (by decide), tl64 7 (by decide), tl32 60 (by decide), tl64 60 (by decide)] at c13); (try simp only [lg_cmp_lt, lg_cmp_le, lg_cmp_gt, lg_cmp_ge, lg_cmp_eq] at c15); (try simp (disch := omega) only [ta_lt, ta_le, ta_eq, tb_lt, tb_le, tb_eq, tw, tnI, tsub1, tsv, tsb32, tn32 1 (by decide), tnj 1 (by decide), tl32 0 (by decide), tl64 0 (by decide), tl32 1 (by decide), tl64 1 (by decide), tl32 2 (by decide), tl64 2 (by decide), tl32 3 (by decide), tl64 3 (by decide), tl32 4 (by decide), tl64 4 (by decide), tl32 5 (by decide), tl64 5 (by decide), tl32 7 (by decide), tl64 7 (by decide), tl32 60 (by decide), tl64 60 (by decide)] at c15); (try simp (disch := omega) only [ta_lt, ta_le, ta_eq, tb_lt, tb_le, tb_eq, tw, tnI, tsub1, tsv, tsb32, tn32 1 (by decide), tnj 1 (by decide), tl32 0 (by decide), tl64 0 (by decide), tl32 1 (by decide), tl64 1 (by decide), tl32 2 (by decide), tl64 2 (by decide), tl32 3 (by decide), tl64 3 (by decide), tl32 4 (by decide), tl64 4 (by decide), tl32 5 (by decide), tl64 5 (by decide), tl32 7 (by decide), tl64 7 (by decide), tl32 60 (by decide), tl64 60 (by decide)]); omega) hw (lv_sub hl [0, 2, 3, 4, 5, 6] rfl)
          · (try simp (disch := omega) only [ta_lt, ta_le, ta_eq, tnI] at c15)
            refine lv_aload_n hx hb (dkP dF_42 DX10_heapFor (i := 26) rfl rfl) rfl (lv_at hl 2 rfl) ?_
            refine z_gr C0 hw 1 3 5 (fk_of shc_1 rfl) fl_X10_24 (dk2 dF_180 DX10_heapFor (i := 27) rfl rfl rfl) ?_
            refine lv_iload hx hb (dk1 dF_21 DX10_heapFor (i := 28) rfl rfl rfl) (lv_at hl 0 rfl) ?_
            refine lv_iconst (v := 2) hx hb (dkP dF_5 DX10_heapFor (i := 29) rfl rfl) (by decide) ?_
            refine lv_iadd hx hb (dkP dF_96 DX10_heapFor (i := 30) rfl rfl) ?_
            refine z_top (y := nI ((q5_3 * 7) + 2)) (by simp only [fa_lit, nI_add, pk_mul]) ?_
            refine z_ialdN (n := 420) C0 hw 5 ((q5_3 * 7) + 2) (ak_of shc_5) (by omega) (by decide) (dkP dF_46 DX10_heapFor (i := 31) rfl rfl) ?_
            obtain ⟨v16, ev16⟩ : ∃ y : Int32, σ.1 5 ((q5_3 * 7) + 2) = y := ⟨_, rfl⟩
            refine z_top (y := v16) ev16 ?_
            refine lv_iload_n hx hb (dkP dF_29 DX10_heapFor (i := 32) rfl rfl) rfl (lv_at hl 5 rfl) ?_
            refine lv_icmp_ne (tgt := 75) hx hb (dkS dF_160 DX10_heapFor (i := 33) rfl rfl rfl) (by decide) (fun c17 => ?_) (fun c17 => ?_)
            · (try simp (disch := omega) only [ta_lt, ta_le, ta_eq, tnI] at c17)
              refine lv_iinc (v := nI (q5_3 + 1)) (lv' := [(5, .int (nI (q5_3 + 1))), (6, .int (nI (q5_3 * 7))), (0, .ref (ad 1)), (1, .int pg), (2, .int line), (3, .int chs), (4, .int bts)]) hx hb (dkI DX10_heapFor (i := 44) rfl rfl rfl rfl) hl (k := 1) rfl (nI_1 _) (by decide) rfl (fun ls hl => ?_)
              refine lv_goto (tgt := 3) hx hb (dkS dF_167 DX10_heapFor (i := 45) rfl rfl rfl) (by decide) ?_
              exact ih1 (q5_3 + 1) _ _ _ (by omega) (by (try simp only [lg_cmp_lt, lg_cmp_le, lg_cmp_gt, lg_cmp_ge, lg_cmp_eq] at c3); (try simp (disch := omega) only [ta_lt, ta_le, ta_eq, tb_lt, tb_le, tb_eq, tw, tnI, tsub1, tsv, tsb32, tn32 1 (by decide), tnj 1 (by decide), tl32 0 (by decide), tl64 0 (by decide), tl32 1 (by decide), tl64 1 (by decide), tl32 2 (by decide), tl64 2 (by decide), tl32 3 (by decide), tl64 3 (by decide), tl32 4 (by decide), tl64 4 (by decide), tl32 5 (by decide), tl64 5 (by decide), tl32 7 (by decide), tl64 7 (by decide), tl32 60 (by decide), tl64 60 (by decide)] at c3); (try simp only [lg_cmp_lt, lg_cmp_le, lg_cmp_gt, lg_cmp_ge, lg_cmp_eq] at c13); (try simp (disch := omega) only [ta_lt, ta_le, ta_eq, tb_lt, tb_le, tb_eq, tw, tnI, tsub1, tsv, tsb32, tn32 1 (by decide), tnj 1 (by decide), tl32 0 (by decide), tl64 0 (by decide), tl32 1 (by decide), tl64 1 (by decide), tl32 2 (by decide), tl64 2 (by decide), tl32 3 (by decide), tl64 3 (by decide), tl32 4 (by decide), tl64 4 (by decide), tl32 5 (by decide), tl64 5 (by decide), tl32 7 (by decide), tl64 7 (by decide), tl32 60 (by decide), tl64 60 (by decide)] at c13); (try simp only [lg_cmp_lt, lg_cmp_le, lg_cmp_gt, lg_cmp_ge, lg_cmp_eq] at c15); (try simp (disch := omega) only [ta_lt, ta_le, ta_eq, tb_lt, tb_le, tb_eq, tw, tnI, tsub1, tsv, tsb32, tn32 1 (by decide), tnj 1 (by decide), tl32 0 (by decide), tl64 0 (by decide), tl32 1 (by decide), tl64 1 (by decide), tl32 2 (by decide), tl64 2 (by decide), tl32 3 (by decide), tl64 3 (by decide), tl32 4 (by decide), tl64 4 (by decide), tl32 5 (by decide), tl64 5 (by decide), tl32 7 (by decide), tl64 7 (by decide), tl32 60 (by decide), tl64 60 (by decide)] at c15); (try simp only [lg_cmp_lt, lg_cmp_le, lg_cmp_gt, lg_cmp_ge, lg_cmp_eq] at c17); (try simp (disch := omega) only [ta_lt, ta_le, ta_eq, tb_lt, tb_le, tb_eq, tw, tnI, tsub1, tsv, tsb32, tn32 1 (by decide), tnj 1 (by decide), tl32 0 (by decide), tl64 0 (by decide), tl32 1 (by decide), tl64 1 (by decide), tl32 2 (by decide), tl64 2 (by decide), tl32 3 (by decide), tl64 3 (by decide), tl32 4 (by decide), tl64 4 (by decide), tl32 5 (by decide), tl64 5 (by decide), tl32 7 (by decide), tl64 7 (by decide), tl32 60 (by decide), tl64 60 (by decide)] at c17); (try simp (disch := omega) only [ta_lt, ta_le, ta_eq, tb_lt, tb_le, tb_eq, tw, tnI, tsub1, tsv, tsb32, tn32 1 (by decide), tnj 1 (by decide), tl32 0 (by decide), tl64 0 (by decide), tl32 1 (by decide), tl64 1 (by decide), tl32 2 (by decide), tl64 2 (by decide), tl32 3 (by decide), tl64 3 (by decide), tl32 4 (by decide), tl64 4 (by decide), tl32 5 (by decide), tl64 5 (by decide), tl32 7 (by decide), tl64 7 (by decide), tl32 60 (by decide), tl64 60 (by decide)]); omega) hw (lv_sub hl [0, 2, 3, 4, 5, 6] rfl)
            · (try simp (disch := omega) only [ta_lt, ta_le, ta_eq, tnI] at c17)
              refine lv_aload_n hx hb (dkP dF_42 DX10_heapFor (i := 34) rfl rfl) rfl (lv_at hl 2 rfl) ?_
              refine z_gr C0 hw 1 3 5 (fk_of shc_1 rfl) fl_X10_24 (dk2 dF_180 DX10_heapFor (i := 35) rfl rfl rfl) ?_
              refine lv_iload hx hb (dk1 dF_21 DX10_heapFor (i := 36) rfl rfl rfl) (lv_at hl 0 rfl) ?_
              refine lv_iconst (v := 3) hx hb (dkP dF_6 DX10_heapFor (i := 37) rfl rfl) (by decide) ?_
              refine lv_iadd hx hb (dkP dF_96 DX10_heapFor (i := 38) rfl rfl) ?_
              refine z_top (y := nI ((q5_3 * 7) + 3)) (by simp only [fa_lit, nI_add, pk_mul]) ?_
              refine z_ialdN (n := 420) C0 hw 5 ((q5_3 * 7) + 3) (ak_of shc_5) (by omega) (by decide) (dkP dF_46 DX10_heapFor (i := 39) rfl rfl) ?_
              obtain ⟨v18, ev18⟩ : ∃ y : Int32, σ.1 5 ((q5_3 * 7) + 3) = y := ⟨_, rfl⟩
              refine z_top (y := v18) ev18 ?_
              refine lv_iload hx hb (dk1 dF_21 DX10_heapFor (i := 40) rfl rfl rfl) (lv_at hl 6 rfl) ?_
              refine lv_icmp_ne (tgt := 75) hx hb (dkS dF_160 DX10_heapFor (i := 41) rfl rfl rfl) (by decide) (fun c19 => ?_) (fun c19 => ?_)
              · (try simp (disch := omega) only [ta_lt, ta_le, ta_eq, tnI] at c19)
                refine lv_iinc (v := nI (q5_3 + 1)) (lv' := [(5, .int (nI (q5_3 + 1))), (6, .int (nI (q5_3 * 7))), (0, .ref (ad 1)), (1, .int pg), (2, .int line), (3, .int chs), (4, .int bts)]) hx hb (dkI DX10_heapFor (i := 44) rfl rfl rfl rfl) hl (k := 1) rfl (nI_1 _) (by decide) rfl (fun ls hl => ?_)
                refine lv_goto (tgt := 3) hx hb (dkS dF_167 DX10_heapFor (i := 45) rfl rfl rfl) (by decide) ?_
                exact ih1 (q5_3 + 1) _ _ _ (by omega) (by (try simp only [lg_cmp_lt, lg_cmp_le, lg_cmp_gt, lg_cmp_ge, lg_cmp_eq] at c3); (try simp (disch := omega) only [ta_lt, ta_le, ta_eq, tb_lt, tb_le, tb_eq, tw, tnI, tsub1, tsv, tsb32, tn32 1 (by decide), tnj 1 (by decide), tl32 0 (by decide), tl64 0 (by decide), tl32 1 (by decide), tl64 1 (by decide), tl32 2 (by decide), tl64 2 (by decide), tl32 3 (by decide), tl64 3 (by decide), tl32 4 (by decide), tl64 4 (by decide), tl32 5 (by decide), tl64 5 (by decide), tl32 7 (by decide), tl64 7 (by decide), tl32 60 (by decide), tl64 60 (by decide)] at c3); (try simp only [lg_cmp_lt, lg_cmp_le, lg_cmp_gt, lg_cmp_ge, lg_cmp_eq] at c13); (try simp (disch := omega) only [ta_lt, ta_le, ta_eq, tb_lt, tb_le, tb_eq, tw, tnI, tsub1, tsv, tsb32, tn32 1 (by decide), tnj 1 (by decide), tl32 0 (by decide), tl64 0 (by decide), tl32 1 (by decide), tl64 1 (by decide), tl32 2 (by decide), tl64 2 (by decide), tl32 3 (by decide), tl64 3 (by decide), tl32 4 (by decide), tl64 4 (by decide), tl32 5 (by decide), tl64 5 (by decide), tl32 7 (by decide), tl64 7 (by decide), tl32 60 (by decide), tl64 60 (by decide)] at c13); (try simp only [lg_cmp_lt, lg_cmp_le, lg_cmp_gt, lg_cmp_ge, lg_cmp_eq] at c15); (try simp (disch := omega) only [ta_lt, ta_le, ta_eq, tb_lt, tb_le, tb_eq, tw, tnI, tsub1, tsv, tsb32, tn32 1 (by decide), tnj 1 (by decide), tl32 0 (by decide), tl64 0 (by decide), tl32 1 (by decide), tl64 1 (by decide), tl32 2 (by decide), tl64 2 (by decide), tl32 3 (by decide), tl64 3 (by decide), tl32 4 (by decide), tl64 4 (by decide), tl32 5 (by decide), tl64 5 (by decide), tl32 7 (by decide), tl64 7 (by decide), tl32 60 (by decide), tl64 60 (by decide)] at c15); (try simp only [lg_cmp_lt, lg_cmp_le, lg_cmp_gt, lg_cmp_ge, lg_cmp_eq] at c17); (try simp (disch := omega) only [ta_lt, ta_le, ta_eq, tb_lt, tb_le, tb_eq, tw, tnI, tsub1, tsv, tsb32, tn32 1 (by decide), tnj 1 (by decide), tl32 0 (by decide), tl64 0 (by decide), tl32 1 (by decide), tl64 1 (by decide), tl32 2 (by decide), tl64 2 (by decide), tl32 3 (by decide), tl64 3 (by decide), tl32 4 (by decide), tl64 4 (by decide), tl32 5 (by decide), tl64 5 (by decide), tl32 7 (by decide), tl64 7 (by decide), tl32 60 (by decide), tl64 60 (by decide)] at c17); (try simp only [lg_cmp_lt, lg_cmp_le, lg_cmp_gt, lg_cmp_ge, lg_cmp_eq] at c19); (try simp (disch := omega) only [ta_lt, ta_le, ta_eq, tb_lt, tb_le, tb_eq, tw, tnI, tsub1, tsv, tsb32, tn32 1 (by decide), tnj 1 (by decide), tl32 0 (by decide), tl64 0 (by decide), tl32 1 (by decide), tl64 1 (by decide), tl32 2 (by decide), tl64 2 (by decide), tl32 3 (by decide), tl64 3 (by decide), tl32 4 (by decide), tl64 4 (by decide), tl32 5 (by decide), tl64 5 (by decide), tl32 7 (by decide), tl64 7 (by decide), tl32 60 (by decide), tl64 60 (by decide)] at c19); (try simp (disch := omega) only [ta_lt, ta_le, ta_eq, tb_lt, tb_le, tb_eq, tw, tnI, tsub1, tsv, tsb32, tn32 1 (by decide), tnj 1 (by decide), tl32 0 (by decide), tl64 0 (by decide), tl32 1 (by decide), tl64 1 (by decide), tl32 2 (by decide), tl64 2 (by decide), tl32 3 (by decide), tl64 3 (by decide), tl32 4 (by decide), tl64 4 (by decide), tl32 5 (by decide), tl64 5 (by decide), tl32 7 (by decide), tl64 7 (by decide), tl32 60 (by decide), tl64 60 (by decide)]); omega) hw (lv_sub hl [0, 2, 3, 4, 5, 6] rfl)
              · (try simp (disch := omega) only [ta_lt, ta_le, ta_eq, tnI] at c19)
                refine lv_iload hx hb (dk1 dF_21 DX10_heapFor (i := 42) rfl rfl rfl) (lv_at hl 1 rfl) ?_
                exact z_iret C0 hr hlk hw (⟨(show -1 ≤ _ ∧ _ ≤ 59 from by (try simp (disch := omega) only [tnI, tn32 1 (by decide), tl32 0 (by decide), tl32 1 (by decide), tl32 2 (by decide), tl32 3 (by decide), tl32 4 (by decide), tl32 5 (by decide), tl32 7 (by decide), tl32 60 (by decide)]); omega), hT, frC.refl⟩) (dkP dF_172 DX10_heapFor (i := 43) rfl rfl)
  exact lp1 _ 0 _ _ _ (Nat.lt_succ_self _) (by (try simp (disch := omega) only [ta_lt, ta_le, ta_eq, tb_lt, tb_le, tb_eq, tw, tnI, tsub1, tsv, tsb32, tn32 1 (by decide), tnj 1 (by decide), tl32 0 (by decide), tl64 0 (by decide), tl32 1 (by decide), tl64 1 (by decide), tl32 2 (by decide), tl64 2 (by decide), tl32 3 (by decide), tl64 3 (by decide), tl32 4 (by decide), tl64 4 (by decide), tl32 5 (by decide), tl64 5 (by decide), tl32 7 (by decide), tl64 7 (by decide), tl32 60 (by decide), tl64 60 (by decide)]); omega) hw (lv_sub hl [0, 1, 2, 3, 4, 5] rfl)
set_option maxRecDepth 100000 in
set_option maxHeartbeats 8000000 in
theorem c_X10_heapUp (l : Launch) (G : va_G) (kc : KC) (ad : Nat → Nat) (σ : Sg) (hh : Nat) (inp : Int32) (hhh : hh < 60) (hT : TC σ) : MI l G kc yX10_heapUp cX10_heapUp 4 (some .int) 0 0 [.ref (ad 1), .int (nI hh), .int inp] shC ad σ (fun r σ1 => TC σ1 ∧ frC (fun x y => (x = 5)) σ σ1) := by
  intro sz
  refine z_body (y := yX10_heapUp) (n := 4) (av := [.ref (ad 1), .int (nI hh), .int inp]) (Qc := fun A => va_Qi (fun r σ1 => TC σ1 ∧ frC (fun x y => (x = 5)) σ σ1) (PoC G kc shC ad A) A) (plainFor_of_name (by decide)) (Nat.le_of_ble_eq_true rfl) (fun pr e s m below meth c A C0 hr hlk hnm hw hRo ls hl => ?_) sz
  have hx := C0.1
  have hb := C0.2.1
  have hown := C0.2.2.2.1
  have hts := C0.2.2.2.2.1
  have hl : lv_has ls 4 [(0, .ref (ad 1)), (1, .int (nI hh)), (2, .int inp)] := hl
  refine lv_iload_n hx hb (dkP dF_27 DX10_heapUp (i := 0) rfl rfl) rfl (lv_at hl 1 rfl) ?_
  refine lv_bipush (v := 7) hx hb (dks dF_16 DX10_heapUp (i := 1) rfl rfl rfl) (by decide) ?_
  refine lv_imul hx hb (dkP dF_104 DX10_heapUp (i := 2) rfl rfl) ?_
  refine z_top (y := nI (hh * 7)) (by simp only [fa_lit, nI_add, pk_mul]) ?_
  refine lv_istore_n (lv' := [(3, .int (nI (hh * 7))), (0, .ref (ad 1)), (1, .int (nI hh)), (2, .int inp)]) hx hb (dkP dF_62 DX10_heapUp (i := 3) rfl rfl) rfl hl (by decide) rfl (fun ls hl => ?_)
  refine lv_aload_n hx hb (dkP dF_42 DX10_heapUp (i := 4) rfl rfl) rfl (lv_at hl 1 rfl) ?_
  refine z_gr C0 hw 1 3 5 (fk_of shc_1 rfl) fl_X10_24 (dk2 dF_180 DX10_heapUp (i := 5) rfl rfl rfl) ?_
  refine lv_iload_n hx hb (dkP dF_29 DX10_heapUp (i := 6) rfl rfl) rfl (lv_at hl 0 rfl) ?_
  refine lv_iconst (v := 4) hx hb (dkP dF_7 DX10_heapUp (i := 7) rfl rfl) (by decide) ?_
  refine lv_iadd hx hb (dkP dF_96 DX10_heapUp (i := 8) rfl rfl) ?_
  refine z_top (y := nI ((hh * 7) + 4)) (by simp only [fa_lit, nI_add, pk_mul]) ?_
  refine z_ialdN (n := 420) C0 hw 5 ((hh * 7) + 4) (ak_of shc_5) (by omega) (by decide) (dkP dF_46 DX10_heapUp (i := 9) rfl rfl) ?_
  obtain ⟨v1, ev1⟩ : ∃ y : Int32, σ.1 5 ((hh * 7) + 4) = y := ⟨_, rfl⟩
  refine z_top (y := v1) ev1 ?_
  refine lv_if_ne (tgt := 26) hx hb (dkS dF_154 DX10_heapUp (i := 10) rfl rfl rfl) (by decide) (fun c2 => ?_) (fun c2 => ?_)
  · (try simp (disch := omega) only [ta_lt, ta_le, ta_eq, tnI, tl32 0 (by decide)] at c2)
    refine lv_aload_n hx hb (dkP dF_42 DX10_heapUp (i := 18) rfl rfl) rfl (lv_at hl 1 rfl) ?_
    refine z_gr C0 hw 1 3 5 (fk_of shc_1 rfl) fl_X10_24 (dk2 dF_180 DX10_heapUp (i := 19) rfl rfl rfl) ?_
    refine lv_iload_n hx hb (dkP dF_29 DX10_heapUp (i := 20) rfl rfl) rfl (lv_at hl 0 rfl) ?_
    refine lv_iconst (v := 4) hx hb (dkP dF_7 DX10_heapUp (i := 21) rfl rfl) (by decide) ?_
    refine lv_iadd hx hb (dkP dF_96 DX10_heapUp (i := 22) rfl rfl) ?_
    refine z_top (y := nI ((hh * 7) + 4)) (by simp only [fa_lit, nI_add, pk_mul]) ?_
    refine lv_dup2_11 hx hb (dkP dF_92 DX10_heapUp (i := 23) rfl rfl) rfl rfl ?_
    refine z_ialdN (n := 420) C0 hw 5 ((hh * 7) + 4) (ak_of shc_5) (by omega) (by decide) (dkP dF_46 DX10_heapUp (i := 24) rfl rfl) ?_
    refine z_top (y := v1) ev1 ?_
    refine lv_iconst (v := 1) hx hb (dkP dF_4 DX10_heapUp (i := 25) rfl rfl) (by decide) ?_
    refine lv_iadd hx hb (dkP dF_96 DX10_heapUp (i := 26) rfl rfl) ?_
    refine z_iastN (n := 420) C0 hw 5 ((hh * 7) + 4) (ak_of shc_5) (by omega) (by decide) (dkP dF_79 DX10_heapUp (i := 27) rfl rfl) (fun H locs hw => ?_)
    have hT3 : TC (sI σ 5 ((hh * 7) + 4) (v1 + 1)) := TC.w hT (tc0 tcl_5)
    have hF3 : frC (fun x y => (x = 5)) σ (sI σ 5 ((hh * 7) + 4) (v1 + 1)) := frC.w frC.refl (by show (5 = 5); exact rfl)
    refine lv_aload_n hx hb (dkP dF_42 DX10_heapUp (i := 28) rfl rfl) rfl (lv_at hl 1 rfl) ?_
    refine z_gr C0 hw 1 3 5 (fk_of shc_1 rfl) fl_X10_24 (dk2 dF_180 DX10_heapUp (i := 29) rfl rfl rfl) ?_
    refine lv_iload_n hx hb (dkP dF_29 DX10_heapUp (i := 30) rfl rfl) rfl (lv_at hl 0 rfl) ?_
    refine lv_iconst (v := 5) hx hb (dkP dF_8 DX10_heapUp (i := 31) rfl rfl) (by decide) ?_
    refine lv_iadd hx hb (dkP dF_96 DX10_heapUp (i := 32) rfl rfl) ?_
    refine z_top (y := nI ((hh * 7) + 5)) (by simp only [fa_lit, nI_add, pk_mul]) ?_
    refine z_ialdN (n := 420) C0 hw 5 ((hh * 7) + 5) (ak_of shc_5) (by omega) (by decide) (dkP dF_46 DX10_heapUp (i := 33) rfl rfl) ?_
    obtain ⟨v4, ev4⟩ : ∃ y : Int32, (sI σ 5 ((hh * 7) + 4) (v1 + 1)).1 5 ((hh * 7) + 5) = y := ⟨_, rfl⟩
    refine z_top (y := v4) ev4 ?_
    exact z_iret C0 hr hlk hw (⟨hT3, hF3⟩) (dkP dF_172 DX10_heapUp (i := 34) rfl rfl)
  · (try simp (disch := omega) only [ta_lt, ta_le, ta_eq, tnI, tl32 0 (by decide)] at c2)
    refine lv_aload_n hx hb (dkP dF_42 DX10_heapUp (i := 11) rfl rfl) rfl (lv_at hl 1 rfl) ?_
    refine z_gr C0 hw 1 3 5 (fk_of shc_1 rfl) fl_X10_24 (dk2 dF_180 DX10_heapUp (i := 12) rfl rfl rfl) ?_
    refine lv_iload_n hx hb (dkP dF_29 DX10_heapUp (i := 13) rfl rfl) rfl (lv_at hl 0 rfl) ?_
    refine lv_bipush (v := 6) hx hb (dks dF_16 DX10_heapUp (i := 14) rfl rfl rfl) (by decide) ?_
    refine lv_iadd hx hb (dkP dF_96 DX10_heapUp (i := 15) rfl rfl) ?_
    refine z_top (y := nI ((hh * 7) + 6)) (by simp only [fa_lit, nI_add, pk_mul]) ?_
    refine lv_iload_n hx hb (dkP dF_28 DX10_heapUp (i := 16) rfl rfl) rfl (lv_at hl 3 rfl) ?_
    refine z_iastN (n := 420) C0 hw 5 ((hh * 7) + 6) (ak_of shc_5) (by omega) (by decide) (dkP dF_79 DX10_heapUp (i := 17) rfl rfl) (fun H locs hw => ?_)
    have hT5 : TC (sI σ 5 ((hh * 7) + 6) inp) := TC.w hT (tc0 tcl_5)
    have hF5 : frC (fun x y => (x = 5)) σ (sI σ 5 ((hh * 7) + 6) inp) := frC.w frC.refl (by show (5 = 5); exact rfl)
    refine lv_aload_n hx hb (dkP dF_42 DX10_heapUp (i := 18) rfl rfl) rfl (lv_at hl 1 rfl) ?_
    refine z_gr C0 hw 1 3 5 (fk_of shc_1 rfl) fl_X10_24 (dk2 dF_180 DX10_heapUp (i := 19) rfl rfl rfl) ?_
    refine lv_iload_n hx hb (dkP dF_29 DX10_heapUp (i := 20) rfl rfl) rfl (lv_at hl 0 rfl) ?_
    refine lv_iconst (v := 4) hx hb (dkP dF_7 DX10_heapUp (i := 21) rfl rfl) (by decide) ?_
    refine lv_iadd hx hb (dkP dF_96 DX10_heapUp (i := 22) rfl rfl) ?_
    refine z_top (y := nI ((hh * 7) + 4)) (by simp only [fa_lit, nI_add, pk_mul]) ?_
    refine lv_dup2_11 hx hb (dkP dF_92 DX10_heapUp (i := 23) rfl rfl) rfl rfl ?_
    refine z_ialdN (n := 420) C0 hw 5 ((hh * 7) + 4) (ak_of shc_5) (by omega) (by decide) (dkP dF_46 DX10_heapUp (i := 24) rfl rfl) ?_
    obtain ⟨v6, ev6⟩ : ∃ y : Int32, (sI σ 5 ((hh * 7) + 6) inp).1 5 ((hh * 7) + 4) = y := ⟨_, rfl⟩
    refine z_top (y := v6) ev6 ?_
    refine lv_iconst (v := 1) hx hb (dkP dF_4 DX10_heapUp (i := 25) rfl rfl) (by decide) ?_
    refine lv_iadd hx hb (dkP dF_96 DX10_heapUp (i := 26) rfl rfl) ?_
    refine z_iastN (n := 420) C0 hw 5 ((hh * 7) + 4) (ak_of shc_5) (by omega) (by decide) (dkP dF_79 DX10_heapUp (i := 27) rfl rfl) (fun H locs hw => ?_)
    have hT7 : TC (sI (sI σ 5 ((hh * 7) + 6) inp) 5 ((hh * 7) + 4) (v6 + 1)) := TC.w hT5 (tc0 tcl_5)
    have hF7 : frC (fun x y => (x = 5)) σ (sI (sI σ 5 ((hh * 7) + 6) inp) 5 ((hh * 7) + 4) (v6 + 1)) := frC.w hF5 (by show (5 = 5); exact rfl)
    refine lv_aload_n hx hb (dkP dF_42 DX10_heapUp (i := 28) rfl rfl) rfl (lv_at hl 1 rfl) ?_
    refine z_gr C0 hw 1 3 5 (fk_of shc_1 rfl) fl_X10_24 (dk2 dF_180 DX10_heapUp (i := 29) rfl rfl rfl) ?_
    refine lv_iload_n hx hb (dkP dF_29 DX10_heapUp (i := 30) rfl rfl) rfl (lv_at hl 0 rfl) ?_
    refine lv_iconst (v := 5) hx hb (dkP dF_8 DX10_heapUp (i := 31) rfl rfl) (by decide) ?_
    refine lv_iadd hx hb (dkP dF_96 DX10_heapUp (i := 32) rfl rfl) ?_
    refine z_top (y := nI ((hh * 7) + 5)) (by simp only [fa_lit, nI_add, pk_mul]) ?_
    refine z_ialdN (n := 420) C0 hw 5 ((hh * 7) + 5) (ak_of shc_5) (by omega) (by decide) (dkP dF_46 DX10_heapUp (i := 33) rfl rfl) ?_
    obtain ⟨v8, ev8⟩ : ∃ y : Int32, (sI (sI σ 5 ((hh * 7) + 6) inp) 5 ((hh * 7) + 4) (v6 + 1)).1 5 ((hh * 7) + 5) = y := ⟨_, rfl⟩
    refine z_top (y := v8) ev8 ?_
    exact z_iret C0 hr hlk hw (⟨hT7, hF7⟩) (dkP dF_172 DX10_heapUp (i := 34) rfl rfl)
set_option maxRecDepth 100000 in
set_option maxHeartbeats 8000000 in
theorem c_X10_heapsNotJudged (l : Launch) (G : va_G) (kc : KC) (ad : Nat → Nat) (σ : Sg)  (hT : TC σ) : MI l G kc yX10_heapsNotJudged cX10_heapsNotJudged 3 (some .int) 0 0 [.ref (ad 1)] shC ad σ (fun r σ1 => σ1 = σ) := by
  intro sz
  refine z_body (y := yX10_heapsNotJudged) (n := 3) (av := [.ref (ad 1)]) (Qc := fun A => va_Qi (fun r σ1 => σ1 = σ) (PoC G kc shC ad A) A) (plainFor_of_name (by decide)) (Nat.le_of_ble_eq_true rfl) (fun pr e s m below meth c A C0 hr hlk hnm hw hRo ls hl => ?_) sz
  have hx := C0.1
  have hb := C0.2.1
  have hown := C0.2.2.2.1
  have hts := C0.2.2.2.2.1
  have hl : lv_has ls 3 [(0, .ref (ad 1))] := hl
  refine lv_iconst (v := 0) hx hb (dkP dF_3 DX10_heapsNotJudged (i := 0) rfl rfl) (by decide) ?_
  refine lv_istore_n (lv' := [(1, .int 0), (0, .ref (ad 1))]) hx hb (dkP dF_60 DX10_heapsNotJudged (i := 1) rfl rfl) rfl hl (by decide) rfl (fun ls hl => ?_)
  refine lv_iconst (v := 0) hx hb (dkP dF_3 DX10_heapsNotJudged (i := 2) rfl rfl) (by decide) ?_
  refine lv_istore_n (lv' := [(2, .int 0), (1, .int 0), (0, .ref (ad 1))]) hx hb (dkP dF_61 DX10_heapsNotJudged (i := 3) rfl rfl) rfl hl (by decide) rfl (fun ls hl => ?_)
  have lp1 : ∀ (nq : Nat) (q2_4 : Nat) (q1_4 : Nat) (H : Heap) (locs : List Loc) (ls : Array Slot), 60 - q2_4 < nq → (q2_4 ≤ 60) → (q1_4 ≤ q2_4) → St G kc A s.heap shC ad σ H locs → lv_has ls 3 [(2, .int (nI q2_4)), (1, .int (nI q1_4)), (0, .ref (ad 1))] → W pr l e { frames := 0, cells := 0, slots := 0, locals := 0 } s m ([.ref (ad 1)] : List Value).toArray below meth c H locs 0 0 (MQ below (va_Qi (fun r σ1 => σ1 = σ) (PoC G kc shC ad A) A) ([.ref (ad 1)] : List Value).toArray s 0 0 A) (F0 m 4 ls []) := by
    intro nq
    induction nq with
    | zero => intro q2_4 q1_4 H locs ls hmu; exact absurd hmu (Nat.not_lt_zero _)
    | succ nq ih1 =>
      intro q2_4 q1_4 H locs ls hmu hq2_4 hq1_4 hw hl
      refine lv_iload_n hx hb (dkP dF_28 DX10_heapsNotJudged (i := 4) rfl rfl) rfl (lv_at hl 0 rfl) ?_
      refine lv_aload_n hx hb (dkP dF_42 DX10_heapsNotJudged (i := 5) rfl rfl) rfl (lv_at hl 2 rfl) ?_
      refine z_gi C0 hw 1 4 (fk_of shc_1 rfl) fl_X10_51 (dk2 dF_180 DX10_heapsNotJudged (i := 6) rfl rfl rfl) ?_
      obtain ⟨n2, hn2, en2⟩ := rngN (x := σ.1 1 4) (h := 60) (tcr_13_4 hT tcl_1)
      refine z_top (y := nI n2) en2 ?_
      refine lv_icmp_ge (tgt := 35) hx hb (dkS dF_162 DX10_heapsNotJudged (i := 7) rfl rfl rfl) (by decide) (fun c3 => ?_) (fun c3 => ?_)
      · simp (disch := omega) only [ta_lt, ta_le, ta_eq, tnI] at c3
        refine lv_iload_n hx hb (dkP dF_27 DX10_heapsNotJudged (i := 20) rfl rfl) rfl (lv_at hl 1 rfl) ?_
        exact z_iret C0 hr hlk hw rfl (dkP dF_172 DX10_heapsNotJudged (i := 21) rfl rfl)
      · simp (disch := omega) only [ta_lt, ta_le, ta_eq, tnI] at c3
        refine lv_aload_n hx hb (dkP dF_42 DX10_heapsNotJudged (i := 8) rfl rfl) rfl (lv_at hl 2 rfl) ?_
        refine z_gr C0 hw 1 3 5 (fk_of shc_1 rfl) fl_X10_24 (dk2 dF_180 DX10_heapsNotJudged (i := 9) rfl rfl rfl) ?_
        refine lv_iload_n hx hb (dkP dF_28 DX10_heapsNotJudged (i := 10) rfl rfl) rfl (lv_at hl 0 rfl) ?_
        refine lv_bipush (v := 7) hx hb (dks dF_16 DX10_heapsNotJudged (i := 11) rfl rfl rfl) (by decide) ?_
        refine lv_imul hx hb (dkP dF_104 DX10_heapsNotJudged (i := 12) rfl rfl) ?_
        refine z_top (y := nI (q2_4 * 7)) (by simp only [fa_lit, nI_add, pk_mul]) ?_
        refine lv_iconst (v := 5) hx hb (dkP dF_8 DX10_heapsNotJudged (i := 13) rfl rfl) (by decide) ?_
        refine lv_iadd hx hb (dkP dF_96 DX10_heapsNotJudged (i := 14) rfl rfl) ?_
        refine z_top (y := nI ((q2_4 * 7) + 5)) (by simp only [fa_lit, nI_add, pk_mul]) ?_
        refine z_ialdN (n := 420) C0 hw 5 ((q2_4 * 7) + 5) (ak_of shc_5) (by omega) (by decide) (dkP dF_46 DX10_heapsNotJudged (i := 15) rfl rfl) ?_
        obtain ⟨v4, ev4⟩ : ∃ y : Int32, σ.1 5 ((q2_4 * 7) + 5) = y := ⟨_, rfl⟩
        refine z_top (y := v4) ev4 ?_
        refine lv_if_ne (tgt := 29) hx hb (dkS dF_154 DX10_heapsNotJudged (i := 16) rfl rfl rfl) (by decide) (fun c5 => ?_) (fun c5 => ?_)
        · (try simp (disch := omega) only [ta_lt, ta_le, ta_eq, tnI, tl32 0 (by decide)] at c5)
          refine lv_iinc (v := nI (q2_4 + 1)) (lv' := [(2, .int (nI (q2_4 + 1))), (1, .int (nI q1_4)), (0, .ref (ad 1))]) hx hb (dkI DX10_heapsNotJudged (i := 18) rfl rfl rfl rfl) hl (k := 0) rfl (nI_1 _) (by decide) rfl (fun ls hl => ?_)
          refine lv_goto (tgt := 4) hx hb (dkS dF_167 DX10_heapsNotJudged (i := 19) rfl rfl rfl) (by decide) ?_
          exact ih1 (q2_4 + 1) q1_4 _ _ _ (by omega) (by (try simp only [lg_cmp_lt, lg_cmp_le, lg_cmp_gt, lg_cmp_ge, lg_cmp_eq] at c3); (try simp (disch := omega) only [ta_lt, ta_le, ta_eq, tb_lt, tb_le, tb_eq, tw, tnI, tsub1, tsv, tsb32, tn32 1 (by decide), tnj 1 (by decide), tl32 0 (by decide), tl64 0 (by decide), tl32 5 (by decide), tl64 5 (by decide), tl32 7 (by decide), tl64 7 (by decide)] at c3); (try simp only [lg_cmp_lt, lg_cmp_le, lg_cmp_gt, lg_cmp_ge, lg_cmp_eq] at c5); (try simp (disch := omega) only [ta_lt, ta_le, ta_eq, tb_lt, tb_le, tb_eq, tw, tnI, tsub1, tsv, tsb32, tn32 1 (by decide), tnj 1 (by decide), tl32 0 (by decide), tl64 0 (by decide), tl32 5 (by decide), tl64 5 (by decide), tl32 7 (by decide), tl64 7 (by decide)] at c5); (try simp (disch := omega) only [ta_lt, ta_le, ta_eq, tb_lt, tb_le, tb_eq, tw, tnI, tsub1, tsv, tsb32, tn32 1 (by decide), tnj 1 (by decide), tl32 0 (by decide), tl64 0 (by decide), tl32 5 (by decide), tl64 5 (by decide), tl32 7 (by decide), tl64 7 (by decide)]); omega) (by (try simp only [lg_cmp_lt, lg_cmp_le, lg_cmp_gt, lg_cmp_ge, lg_cmp_eq] at c3); (try simp (disch := omega) only [ta_lt, ta_le, ta_eq, tb_lt, tb_le, tb_eq, tw, tnI, tsub1, tsv, tsb32, tn32 1 (by decide), tnj 1 (by decide), tl32 0 (by decide), tl64 0 (by decide), tl32 5 (by decide), tl64 5 (by decide), tl32 7 (by decide), tl64 7 (by decide)] at c3); (try simp only [lg_cmp_lt, lg_cmp_le, lg_cmp_gt, lg_cmp_ge, lg_cmp_eq] at c5); (try simp (disch := omega) only [ta_lt, ta_le, ta_eq, tb_lt, tb_le, tb_eq, tw, tnI, tsub1, tsv, tsb32, tn32 1 (by decide), tnj 1 (by decide), tl32 0 (by decide), tl64 0 (by decide), tl32 5 (by decide), tl64 5 (by decide), tl32 7 (by decide), tl64 7 (by decide)] at c5); (try simp (disch := omega) only [ta_lt, ta_le, ta_eq, tb_lt, tb_le, tb_eq, tw, tnI, tsub1, tsv, tsb32, tn32 1 (by decide), tnj 1 (by decide), tl32 0 (by decide), tl64 0 (by decide), tl32 5 (by decide), tl64 5 (by decide), tl32 7 (by decide), tl64 7 (by decide)]); omega) hw (lv_sub hl [0, 1, 2] rfl)
        · (try simp (disch := omega) only [ta_lt, ta_le, ta_eq, tnI, tl32 0 (by decide)] at c5)
          refine lv_iinc (v := nI (q1_4 + 1)) (lv' := [(1, .int (nI (q1_4 + 1))), (2, .int (nI q2_4)), (0, .ref (ad 1))]) hx hb (dkI DX10_heapsNotJudged (i := 17) rfl rfl rfl rfl) hl (k := 1) rfl (nI_1 _) (by decide) rfl (fun ls hl => ?_)
          refine lv_iinc (v := nI (q2_4 + 1)) (lv' := [(2, .int (nI (q2_4 + 1))), (1, .int (nI (q1_4 + 1))), (0, .ref (ad 1))]) hx hb (dkI DX10_heapsNotJudged (i := 18) rfl rfl rfl rfl) hl (k := 1) rfl (nI_1 _) (by decide) rfl (fun ls hl => ?_)
          refine lv_goto (tgt := 4) hx hb (dkS dF_167 DX10_heapsNotJudged (i := 19) rfl rfl rfl) (by decide) ?_
          exact ih1 (q2_4 + 1) (q1_4 + 1) _ _ _ (by omega) (by (try simp only [lg_cmp_lt, lg_cmp_le, lg_cmp_gt, lg_cmp_ge, lg_cmp_eq] at c3); (try simp (disch := omega) only [ta_lt, ta_le, ta_eq, tb_lt, tb_le, tb_eq, tw, tnI, tsub1, tsv, tsb32, tn32 1 (by decide), tnj 1 (by decide), tl32 0 (by decide), tl64 0 (by decide), tl32 5 (by decide), tl64 5 (by decide), tl32 7 (by decide), tl64 7 (by decide)] at c3); (try simp only [lg_cmp_lt, lg_cmp_le, lg_cmp_gt, lg_cmp_ge, lg_cmp_eq] at c5); (try simp (disch := omega) only [ta_lt, ta_le, ta_eq, tb_lt, tb_le, tb_eq, tw, tnI, tsub1, tsv, tsb32, tn32 1 (by decide), tnj 1 (by decide), tl32 0 (by decide), tl64 0 (by decide), tl32 5 (by decide), tl64 5 (by decide), tl32 7 (by decide), tl64 7 (by decide)] at c5); (try simp (disch := omega) only [ta_lt, ta_le, ta_eq, tb_lt, tb_le, tb_eq, tw, tnI, tsub1, tsv, tsb32, tn32 1 (by decide), tnj 1 (by decide), tl32 0 (by decide), tl64 0 (by decide), tl32 5 (by decide), tl64 5 (by decide), tl32 7 (by decide), tl64 7 (by decide)]); omega) (by (try simp only [lg_cmp_lt, lg_cmp_le, lg_cmp_gt, lg_cmp_ge, lg_cmp_eq] at c3); (try simp (disch := omega) only [ta_lt, ta_le, ta_eq, tb_lt, tb_le, tb_eq, tw, tnI, tsub1, tsv, tsb32, tn32 1 (by decide), tnj 1 (by decide), tl32 0 (by decide), tl64 0 (by decide), tl32 5 (by decide), tl64 5 (by decide), tl32 7 (by decide), tl64 7 (by decide)] at c3); (try simp only [lg_cmp_lt, lg_cmp_le, lg_cmp_gt, lg_cmp_ge, lg_cmp_eq] at c5); (try simp (disch := omega) only [ta_lt, ta_le, ta_eq, tb_lt, tb_le, tb_eq, tw, tnI, tsub1, tsv, tsb32, tn32 1 (by decide), tnj 1 (by decide), tl32 0 (by decide), tl64 0 (by decide), tl32 5 (by decide), tl64 5 (by decide), tl32 7 (by decide), tl64 7 (by decide)] at c5); (try simp (disch := omega) only [ta_lt, ta_le, ta_eq, tb_lt, tb_le, tb_eq, tw, tnI, tsub1, tsv, tsb32, tn32 1 (by decide), tnj 1 (by decide), tl32 0 (by decide), tl64 0 (by decide), tl32 5 (by decide), tl64 5 (by decide), tl32 7 (by decide), tl64 7 (by decide)]); omega) hw (lv_sub hl [0, 1, 2] rfl)
  exact lp1 _ 0 0 _ _ _ (Nat.lt_succ_self _) (by (try simp (disch := omega) only [ta_lt, ta_le, ta_eq, tb_lt, tb_le, tb_eq, tw, tnI, tsub1, tsv, tsb32, tn32 1 (by decide), tnj 1 (by decide), tl32 0 (by decide), tl64 0 (by decide), tl32 5 (by decide), tl64 5 (by decide), tl32 7 (by decide), tl64 7 (by decide)]); omega) (by (try simp (disch := omega) only [ta_lt, ta_le, ta_eq, tb_lt, tb_le, tb_eq, tw, tnI, tsub1, tsv, tsb32, tn32 1 (by decide), tnj 1 (by decide), tl32 0 (by decide), tl64 0 (by decide), tl32 5 (by decide), tl64 5 (by decide), tl32 7 (by decide), tl64 7 (by decide)]); omega) hw (lv_sub hl [0, 1, 2] rfl)
