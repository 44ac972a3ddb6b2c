set_option maxRecDepth 20000 in
theorem shc_190 : shC[190]? = some (1, 601, []) := by rfl
theorem tcl_190 : tcL.getD 190 0 = 0 := by decide +kernel
set_option maxRecDepth 20000 in
theorem shc_188 : shC[188]? = some (1, 601, []) := by rfl
theorem tcl_188 : tcL.getD 188 0 = 0 := by decide +kernel
set_option maxRecDepth 20000 in
theorem shc_189 : shC[189]? = some (1, 601, []) := by rfl
theorem tcl_189 : tcL.getD 189 0 = 0 := by decide +kernel
set_option maxRecDepth 100000 in
set_option maxHeartbeats 8000000 in
theorem c_X5_splitOff (l : Launch) (G : va_G) (kc : KC) (ad : Nat → Nat) (σ : Sg) (sign : Int32) (fr : Nat) {ln tk : Nat} (hln : σ.1 186 1 = nI ln) (hl6 : ln ≤ 600) (hfr : fr < ln) (htk : σ.1 186 5 = nI tk) (htk6 : tk ≤ 600) (hsg : σ.1 187 fr = sign) (hT : TC σ) : MI l G kc yX5_splitOff cX5_splitOff 4 (some .int) 2 45 [.ref (ad 186), .int sign, .int (nI fr)] shC ad σ (fun r σ1 => (σ1.1 188 tk = 3 → fok (σ1.1 189 tk)) ∧ (∀ x, x ≠ tk → σ1.1 188 x = σ.1 188 x ∧ σ1.1 189 x = σ.1 189 x) ∧ (∃ q, fr < q ∧ q ≤ ln ∧ r = nI q) ∧ TC σ1 ∧ frC (fun x y => (x = 188) ∨ (x = 189) ∨ (x = 190)) σ σ1) := by
  intro sz
  refine z_body (y := yX5_splitOff) (n := 4) (av := [.ref (ad 186), .int sign, .int (nI fr)]) (Qc := fun A => va_Qi (fun r σ1 => (σ1.1 188 tk = 3 → fok (σ1.1 189 tk)) ∧ (∀ x, x ≠ tk → σ1.1 188 x = σ.1 188 x ∧ σ1.1 189 x = σ.1 189 x) ∧ (∃ q, fr < q ∧ q ≤ ln ∧ r = nI q) ∧ TC σ1 ∧ frC (fun x y => (x = 188) ∨ (x = 189) ∨ (x = 190)) σ σ1) (PoC G kc shC ad A) A) (plainFor_of_name (by decide)) (Nat.le_of_ble_eq_true rfl) (fun pr e s m below meth c A C0 hr hlk hnm hw hRo ls hl => ?_) sz
  have hx := C0.1
  have hb := C0.2.1
  have hown := C0.2.2.2.1
  have hts := C0.2.2.2.2.1
  have hl : lv_has ls 4 [(0, .ref (ad 186)), (1, .int sign), (2, .int (nI fr))] := hl
  refine lv_iload_n hx hb (dkP dF_28 DX5_splitOff (i := 0) rfl rfl) rfl (lv_at hl 2 rfl) ?_
  refine lv_iconst (v := 1) hx hb (dkP dF_4 DX5_splitOff (i := 1) rfl rfl) (by decide) ?_
  refine lv_iadd hx hb (dkP dF_96 DX5_splitOff (i := 2) rfl rfl) ?_
  refine z_top (y := nI (fr + 1)) (by simp only [fa_lit, nI_add, pk_mul]) ?_
  refine lv_istore_n (lv' := [(3, .int (nI (fr + 1))), (0, .ref (ad 186)), (1, .int sign), (2, .int (nI fr))]) hx hb (dkP dF_62 DX5_splitOff (i := 3) rfl rfl) rfl hl (by decide) rfl (fun ls hl => ?_)
  refine lv_aload_n hx hb (dkP dF_42 DX5_splitOff (i := 4) rfl rfl) rfl (lv_at hl 1 rfl) ?_
  refine z_gr C0 hw 186 4 190 (fk_of shc_186 rfl) fl_X5_22 (dk2 dF_180 DX5_splitOff (i := 5) rfl rfl rfl) ?_
  refine lv_aload_n hx hb (dkP dF_42 DX5_splitOff (i := 6) rfl rfl) rfl (lv_at hl 1 rfl) ?_
  refine z_gi C0 hw 186 5 (fk_of shc_186 rfl) fl_X5_82 (dk2 dF_180 DX5_splitOff (i := 7) rfl rfl rfl) ?_
  refine z_top (y := (nI tk)) htk ?_
  refine lv_iload_n hx hb (dkP dF_28 DX5_splitOff (i := 8) rfl rfl) rfl (lv_at hl 3 rfl) ?_
  refine z_iastN (n := 601) C0 hw 190 tk (ak_of shc_190) (by omega) (by decide) (dkP dF_79 DX5_splitOff (i := 9) rfl rfl) (fun H locs hw => ?_)
  have hT1 : TC (sI σ 190 tk (nI fr)) := TC.w hT (tc0 tcl_190)
  have hF1 : frC (fun x y => (x = 188) ∨ (x = 189) ∨ (x = 190)) σ (sI σ 190 tk (nI fr)) := frC.w frC.refl (by show (190 = 188) ∨ (190 = 189) ∨ (190 = 190); exact Or.inr (Or.inr (rfl)))
  refine lv_iload_n hx hb (dkP dF_27 DX5_splitOff (i := 10) rfl rfl) rfl (lv_at hl 2 rfl) ?_
  refine zn_I hw (zr_S (As := [.int sign]) (rest := []) C0 (c_X5_isSmall l G kc sign  _) cs_X5_isSmall lk_X5_89 (zp_P C0 hRo hw a00 s00) rfl hl.1 rfl ⟨by decide, by decide⟩ (Nat.le_of_ble_eq_true rfl) (dk2 dF_184 DX5_splitOff (i := 11) rfl rfl rfl) ⟨Nat.le_refl _, Nat.le_refl _⟩) (fun r2 s2 H locs hp hw => ?_)
  rcases hp with ⟨rfl, hc2⟩ | ⟨rfl, hc2⟩
  · skip
    (try simp (disch := omega) only [ta_lt, ta_le, ta_eq, tb_lt, tb_le, tb_eq, tw, tnI, tn32 1 (by decide), tnj 1 (by decide), tl32 0 (by decide), tl64 0 (by decide), tl32 1 (by decide), tl64 1 (by decide)] at hc2)
    refine lv_if_eq (tgt := 78) hx hb (dkS dF_153 DX5_splitOff (i := 12) rfl rfl rfl) (by decide) (fun h => absurd h (by decide)) (fun _ => ?_)
    have lp3 : ∀ (nq : Nat) (q3_21 : Nat) (H : Heap) (locs : List Loc) (ls : Array Slot), ln - q3_21 < nq → (q3_21 ≤ ln) → (∀ i, fr ≤ i → i < q3_21 → 97 ≤ (σ.1 187 i).toInt ∧ (σ.1 187 i).toInt ≤ 122) → (fr < q3_21) → St G kc A s.heap shC ad (sI σ 190 tk (nI fr)) H locs → lv_has ls 4 [(3, .int (nI q3_21)), (0, .ref (ad 186)), (1, .int sign), (2, .int (nI fr))] → W pr l e { frames := 2, cells := 0, slots := 0, locals := 45 } s m ([.ref (ad 186), .int sign, .int (nI fr)] : List Value).toArray below meth c H locs 0 0 (MQ below (va_Qi (fun r σ1 => (σ1.1 188 tk = 3 → fok (σ1.1 189 tk)) ∧ (∀ x, x ≠ tk → σ1.1 188 x = σ.1 188 x ∧ σ1.1 189 x = σ.1 189 x) ∧ (∃ q, fr < q ∧ q ≤ ln ∧ r = nI q) ∧ TC σ1 ∧ frC (fun x y => (x = 188) ∨ (x = 189) ∨ (x = 190)) σ σ1) (PoC G kc shC ad A) A) ([.ref (ad 186), .int sign, .int (nI fr)] : List Value).toArray s 0 0 A) (F0 m 21 ls []) := by
      intro nq
      induction nq with
      | zero => intro q3_21 H locs ls hmu; exact absurd hmu (Nat.not_lt_zero _)
      | succ nq ih3 =>
        intro q3_21 H locs ls hmu hq3_21 hsm hlo hw hl
        refine lv_iload_n hx hb (dkP dF_29 DX5_splitOff (i := 13) rfl rfl) rfl (lv_at hl 0 rfl) ?_
        refine lv_aload_n hx hb (dkP dF_42 DX5_splitOff (i := 14) rfl rfl) rfl (lv_at hl 1 rfl) ?_
        refine z_gi C0 hw 186 1 (fk_of shc_186 rfl) fl_X5_46 (dk2 dF_180 DX5_splitOff (i := 15) rfl rfl rfl) ?_
        refine z_top (y := (nI ln)) ((rd_n (by omega)).trans hln) ?_
        refine lv_icmp_ge (tgt := 47) hx hb (dkS dF_162 DX5_splitOff (i := 16) rfl rfl rfl) (by decide) (fun c4 => ?_) (fun c4 => ?_)
        · simp (disch := omega) only [ta_lt, ta_le, ta_eq, tnI] at c4
          refine lv_aload_n hx hb (dkP dF_42 DX5_splitOff (i := 25) rfl rfl) rfl (lv_at hl 1 rfl) ?_
          refine z_gr C0 hw 186 2 188 (fk_of shc_186 rfl) fl_X5_15 (dk2 dF_180 DX5_splitOff (i := 26) rfl rfl rfl) ?_
          refine lv_aload_n hx hb (dkP dF_42 DX5_splitOff (i := 27) rfl rfl) rfl (lv_at hl 1 rfl) ?_
          refine z_gi C0 hw 186 5 (fk_of shc_186 rfl) fl_X5_82 (dk2 dF_180 DX5_splitOff (i := 28) rfl rfl rfl) ?_
          refine z_top (y := (nI tk)) ((rd_n (by omega)).trans htk) ?_
          refine lv_aload_n hx hb (dkP dF_42 DX5_splitOff (i := 29) rfl rfl) rfl (lv_at hl 1 rfl) ?_
          refine lv_iload_n hx hb (dkP dF_28 DX5_splitOff (i := 30) rfl rfl) rfl (lv_at hl 3 rfl) ?_
          refine lv_iload_n hx hb (dkP dF_29 DX5_splitOff (i := 31) rfl rfl) rfl (lv_at hl 0 rfl) ?_
          refine zk_I hw (zr_V (As := [.int (nI fr), .int (nI q3_21)]) (rest := [.int (nI tk), .ref (ad 188)]) C0 (c_X5_wordKind l G kc ad (sI σ 190 tk (nI fr)) fr q3_21 (by omega) (by omega) (fun i h1 h2 => by rw [((rd_n (by omega)).trans rfl)]; exact hsm i h1 h2) hT1 _) cv_X5_wordKind lk_X5_92 (zp_V C0 hRo hw 186 shc_186 rfl rfl) rfl hl.1 rfl ⟨by decide, by decide⟩ (Nat.le_of_ble_eq_true rfl) (dk2 dF_182 DX5_splitOff (i := 32) rfl rfl rfl) ⟨Nat.le_refl _, Nat.le_refl _⟩) (fun r5 s5 H locs hp hw => ?_)
          obtain ⟨f5_0, hs5⟩ := hp
          (rw [hs5] at hw)
          refine z_iastN (n := 601) C0 hw 188 tk (ak_of shc_188) (by omega) (by decide) (dkP dF_79 DX5_splitOff (i := 33) rfl rfl) (fun H locs hw => ?_)
          have hT6 : TC (sI (sI σ 190 tk (nI fr)) 188 tk r5) := TC.w hT1 (tc0 tcl_188)
          have hF6 : frC (fun x y => (x = 188) ∨ (x = 189) ∨ (x = 190)) σ (sI (sI σ 190 tk (nI fr)) 188 tk r5) := frC.w hF1 (by show (188 = 188) ∨ (188 = 189) ∨ (188 = 190); exact Or.inl rfl)
          refine lv_aload_n hx hb (dkP dF_42 DX5_splitOff (i := 34) rfl rfl) rfl (lv_at hl 1 rfl) ?_
          refine z_gr C0 hw 186 3 189 (fk_of shc_186 rfl) fl_X5_19 (dk2 dF_180 DX5_splitOff (i := 35) rfl rfl rfl) ?_
          refine lv_aload_n hx hb (dkP dF_42 DX5_splitOff (i := 36) rfl rfl) rfl (lv_at hl 1 rfl) ?_
          refine z_gi C0 hw 186 5 (fk_of shc_186 rfl) fl_X5_82 (dk2 dF_180 DX5_splitOff (i := 37) rfl rfl rfl) ?_
          refine z_top (y := (nI tk)) ((rd_n (by omega)).trans ((rd_n (by omega)).trans htk)) ?_
          refine lv_iload_n hx hb (dkP dF_27 DX5_splitOff (i := 38) rfl rfl) rfl (lv_at hl 2 rfl) ?_
          refine lv_bipush (v := 97) hx hb (dks dF_16 DX5_splitOff (i := 39) rfl rfl rfl) (by decide) ?_
          refine lv_isub hx hb (dkP dF_100 DX5_splitOff (i := 40) rfl rfl) ?_
          refine z_iastN (n := 601) C0 hw 189 tk (ak_of shc_189) (by omega) (by decide) (dkP dF_79 DX5_splitOff (i := 41) rfl rfl) (fun H locs hw => ?_)
          have hT7 : TC (sI (sI (sI σ 190 tk (nI fr)) 188 tk r5) 189 tk (sign - 97)) := TC.w hT6 (tc0 tcl_189)
          have hF7 : frC (fun x y => (x = 188) ∨ (x = 189) ∨ (x = 190)) σ (sI (sI (sI σ 190 tk (nI fr)) 188 tk r5) 189 tk (sign - 97)) := frC.w hF6 (by show (189 = 188) ∨ (189 = 189) ∨ (189 = 190); exact Or.inr (Or.inl rfl))
          refine lv_goto (tgt := 160) hx hb (dkS dF_167 DX5_splitOff (i := 42) rfl rfl rfl) (by decide) ?_
          refine lv_iload_n hx hb (dkP dF_29 DX5_splitOff (i := 85) rfl rfl) rfl (lv_at hl 0 rfl) ?_
          exact z_iret C0 hr hlk hw (⟨(fun h3 => by rw [rd_s]; exact s97 (by omega) (by have h9 := f5_0 ((((rd_n (by omega)).trans rd_s)).symm.trans h3); rw [((rd_n (by omega)).trans rfl), hsg] at h9; omega)), (fun x hx1 => ⟨((rd_n (by omega)).trans ((rd_n (by omega)).trans ((rd_n (by omega)).trans rfl))), ((rd_n (by omega)).trans ((rd_n (by omega)).trans ((rd_n (by omega)).trans rfl)))⟩), ⟨q3_21, by omega, by omega, rfl⟩, hT7, hF7⟩) (dkP dF_172 DX5_splitOff (i := 86) rfl rfl)
        · simp (disch := omega) only [ta_lt, ta_le, ta_eq, tnI] at c4
          refine lv_aload_n hx hb (dkP dF_42 DX5_splitOff (i := 17) rfl rfl) rfl (lv_at hl 1 rfl) ?_
          refine z_gr C0 hw 186 0 187 (fk_of shc_186 rfl) fl_X5_11 (dk2 dF_180 DX5_splitOff (i := 18) rfl rfl rfl) ?_
          refine lv_iload_n hx hb (dkP dF_29 DX5_splitOff (i := 19) rfl rfl) rfl (lv_at hl 0 rfl) ?_
          refine z_baldN (n := 600) C0 hw 187 q3_21 (ak_of shc_187) (by omega) (by decide) (dkP dF_51 DX5_splitOff (i := 20) rfl rfl) ?_
          obtain ⟨v8, ev8⟩ : ∃ y : Int32, (sI σ 190 tk (nI fr)).1 187 q3_21 = y := ⟨_, rfl⟩
          refine z_top (y := v8) ev8 ?_
          refine zn_I hw (zr_S (As := [.int v8]) (rest := []) C0 (c_X5_isSmall l G kc v8  _) cs_X5_isSmall lk_X5_89 (zp_P C0 hRo hw a00 s00) rfl hl.1 rfl ⟨by decide, by decide⟩ (Nat.le_of_ble_eq_true rfl) (dk2 dF_184 DX5_splitOff (i := 21) rfl rfl rfl) ⟨Nat.le_refl _, Nat.le_refl _⟩) (fun r9 s9 H locs hp hw => ?_)
          rcases hp with ⟨rfl, hc9⟩ | ⟨rfl, hc9⟩
          · skip
            (try simp (disch := omega) only [ta_lt, ta_le, ta_eq, tb_lt, tb_le, tb_eq, tw, tnI, tn32 1 (by decide), tnj 1 (by decide), tl32 0 (by decide), tl64 0 (by decide), tl32 1 (by decide), tl64 1 (by decide), tl32 97 (by decide), tl64 97 (by decide)] at hc9)
            refine lv_if_eq (tgt := 47) hx hb (dkS dF_153 DX5_splitOff (i := 22) rfl rfl rfl) (by decide) (fun h => absurd h (by decide)) (fun _ => ?_)
            refine lv_iinc (v := nI (q3_21 + 1)) (lv' := [(3, .int (nI (q3_21 + 1))), (0, .ref (ad 186)), (1, .int sign), (2, .int (nI fr))]) hx hb (dkI DX5_splitOff (i := 23) rfl rfl rfl rfl) hl (k := 0) rfl (nI_1 _) (by decide) rfl (fun ls hl => ?_)
            refine lv_goto (tgt := 21) hx hb (dkS dF_167 DX5_splitOff (i := 24) rfl rfl rfl) (by decide) ?_
            exact ih3 (q3_21 + 1) _ _ _ (by omega) (by (try simp only [lg_cmp_lt, lg_cmp_le, lg_cmp_gt, lg_cmp_ge, lg_cmp_eq] at hc2); (try simp (disch := omega) only [ta_lt, ta_le, ta_eq, tb_lt, tb_le, tb_eq, tw, tnI, tsub1, tsv, tsb32, tn32 1 (by decide), tnj 1 (by decide), tl32 0 (by decide), tl64 0 (by decide), tl32 1 (by decide), tl64 1 (by decide), tl32 97 (by decide), tl64 97 (by decide)] at hc2); (try simp only [lg_cmp_lt, lg_cmp_le, lg_cmp_gt, lg_cmp_ge, lg_cmp_eq] at c4); (try simp (disch := omega) only [ta_lt, ta_le, ta_eq, tb_lt, tb_le, tb_eq, tw, tnI, tsub1, tsv, tsb32, tn32 1 (by decide), tnj 1 (by decide), tl32 0 (by decide), tl64 0 (by decide), tl32 1 (by decide), tl64 1 (by decide), tl32 97 (by decide), tl64 97 (by decide)] at c4); (try simp only [lg_cmp_lt, lg_cmp_le, lg_cmp_gt, lg_cmp_ge, lg_cmp_eq] at hc9); (try simp (disch := omega) only [ta_lt, ta_le, ta_eq, tb_lt, tb_le, tb_eq, tw, tnI, tsub1, tsv, tsb32, tn32 1 (by decide), tnj 1 (by decide), tl32 0 (by decide), tl64 0 (by decide), tl32 1 (by decide), tl64 1 (by decide), tl32 97 (by decide), tl64 97 (by decide)] at hc9); (try simp (disch := omega) only [ta_lt, ta_le, ta_eq, tb_lt, tb_le, tb_eq, tw, tnI, tsub1, tsv, tsb32, tn32 1 (by decide), tnj 1 (by decide), tl32 0 (by decide), tl64 0 (by decide), tl32 1 (by decide), tl64 1 (by decide), tl32 97 (by decide), tl64 97 (by decide)]); omega) (fun i h1 h2 => by by_cases e_ : i = q3_21; (· rw [e_, (((rd_n (by omega)).trans rfl).symm.trans ev8)]; exact ⟨by omega, by omega⟩); (· exact hsm i h1 (by omega))) (by omega) hw (lv_sub hl [0, 1, 2, 3] rfl)
          · skip
            (try simp (disch := omega) only [ta_lt, ta_le, ta_eq, tb_lt, tb_le, tb_eq, tw, tnI, tn32 1 (by decide), tnj 1 (by decide), tl32 0 (by decide), tl64 0 (by decide), tl32 1 (by decide), tl64 1 (by decide), tl32 97 (by decide), tl64 97 (by decide)] at hc9)
            refine lv_if_eq (tgt := 47) hx hb (dkS dF_153 DX5_splitOff (i := 22) rfl rfl rfl) (by decide) (fun _ => ?_) (fun h => absurd h (by decide))
            refine lv_aload_n hx hb (dkP dF_42 DX5_splitOff (i := 25) rfl rfl) rfl (lv_at hl 1 rfl) ?_
            refine z_gr C0 hw 186 2 188 (fk_of shc_186 rfl) fl_X5_15 (dk2 dF_180 DX5_splitOff (i := 26) rfl rfl rfl) ?_
            refine lv_aload_n hx hb (dkP dF_42 DX5_splitOff (i := 27) rfl rfl) rfl (lv_at hl 1 rfl) ?_
            refine z_gi C0 hw 186 5 (fk_of shc_186 rfl) fl_X5_82 (dk2 dF_180 DX5_splitOff (i := 28) rfl rfl rfl) ?_
            refine z_top (y := (nI tk)) ((rd_n (by omega)).trans htk) ?_
            refine lv_aload_n hx hb (dkP dF_42 DX5_splitOff (i := 29) rfl rfl) rfl (lv_at hl 1 rfl) ?_
            refine lv_iload_n hx hb (dkP dF_28 DX5_splitOff (i := 30) rfl rfl) rfl (lv_at hl 3 rfl) ?_
            refine lv_iload_n hx hb (dkP dF_29 DX5_splitOff (i := 31) rfl rfl) rfl (lv_at hl 0 rfl) ?_
            refine zk_I hw (zr_V (As := [.int (nI fr), .int (nI q3_21)]) (rest := [.int (nI tk), .ref (ad 188)]) C0 (c_X5_wordKind l G kc ad (sI σ 190 tk (nI fr)) fr q3_21 (by omega) (by omega) (fun i h1 h2 => by rw [((rd_n (by omega)).trans rfl)]; exact hsm i h1 h2) hT1 _) cv_X5_wordKind lk_X5_92 (zp_V C0 hRo hw 186 shc_186 rfl rfl) rfl hl.1 rfl ⟨by decide, by decide⟩ (Nat.le_of_ble_eq_true rfl) (dk2 dF_182 DX5_splitOff (i := 32) rfl rfl rfl) ⟨Nat.le_refl _, Nat.le_refl _⟩) (fun r10 s10 H locs hp hw => ?_)
            obtain ⟨f10_0, hs10⟩ := hp
            (rw [hs10] at hw)
            refine z_iastN (n := 601) C0 hw 188 tk (ak_of shc_188) (by omega) (by decide) (dkP dF_79 DX5_splitOff (i := 33) rfl rfl) (fun H locs hw => ?_)
            have hT11 : TC (sI (sI σ 190 tk (nI fr)) 188 tk r10) := TC.w hT1 (tc0 tcl_188)
            have hF11 : frC (fun x y => (x = 188) ∨ (x = 189) ∨ (x = 190)) σ (sI (sI σ 190 tk (nI fr)) 188 tk r10) := frC.w hF1 (by show (188 = 188) ∨ (188 = 189) ∨ (188 = 190); exact Or.inl rfl)
            refine lv_aload_n hx hb (dkP dF_42 DX5_splitOff (i := 34) rfl rfl) rfl (lv_at hl 1 rfl) ?_
            refine z_gr C0 hw 186 3 189 (fk_of shc_186 rfl) fl_X5_19 (dk2 dF_180 DX5_splitOff (i := 35) rfl rfl rfl) ?_
            refine lv_aload_n hx hb (dkP dF_42 DX5_splitOff (i := 36) rfl rfl) rfl (lv_at hl 1 rfl) ?_
            refine z_gi C0 hw 186 5 (fk_of shc_186 rfl) fl_X5_82 (dk2 dF_180 DX5_splitOff (i := 37) rfl rfl rfl) ?_
            refine z_top (y := (nI tk)) ((rd_n (by omega)).trans ((rd_n (by omega)).trans htk)) ?_
            refine lv_iload_n hx hb (dkP dF_27 DX5_splitOff (i := 38) rfl rfl) rfl (lv_at hl 2 rfl) ?_
            refine lv_bipush (v := 97) hx hb (dks dF_16 DX5_splitOff (i := 39) rfl rfl rfl) (by decide) ?_
            refine lv_isub hx hb (dkP dF_100 DX5_splitOff (i := 40) rfl rfl) ?_
            refine z_iastN (n := 601) C0 hw 189 tk (ak_of shc_189) (by omega) (by decide) (dkP dF_79 DX5_splitOff (i := 41) rfl rfl) (fun H locs hw => ?_)
            have hT12 : TC (sI (sI (sI σ 190 tk (nI fr)) 188 tk r10) 189 tk (sign - 97)) := TC.w hT11 (tc0 tcl_189)
            have hF12 : frC (fun x y => (x = 188) ∨ (x = 189) ∨ (x = 190)) σ (sI (sI (sI σ 190 tk (nI fr)) 188 tk r10) 189 tk (sign - 97)) := frC.w hF11 (by show (189 = 188) ∨ (189 = 189) ∨ (189 = 190); exact Or.inr (Or.inl rfl))
            refine lv_goto (tgt := 160) hx hb (dkS dF_167 DX5_splitOff (i := 42) rfl rfl rfl) (by decide) ?_
            refine lv_iload_n hx hb (dkP dF_29 DX5_splitOff (i := 85) rfl rfl) rfl (lv_at hl 0 rfl) ?_
            exact z_iret C0 hr hlk hw (⟨(fun h3 => by rw [rd_s]; exact s97 (by omega) (by have h9 := f10_0 ((((rd_n (by omega)).trans rd_s)).symm.trans h3); rw [((rd_n (by omega)).trans rfl), hsg] at h9; omega)), (fun x hx1 => ⟨((rd_n (by omega)).trans ((rd_n (by omega)).trans ((rd_n (by omega)).trans rfl))), ((rd_n (by omega)).trans ((rd_n (by omega)).trans ((rd_n (by omega)).trans rfl)))⟩), ⟨q3_21, by omega, by omega, rfl⟩, hT12, hF12⟩) (dkP dF_172 DX5_splitOff (i := 86) rfl rfl)
    exact lp3 _ (fr + 1) _ _ _ (Nat.lt_succ_self _) (by (try simp only [lg_cmp_lt, lg_cmp_le, lg_cmp_gt, lg_cmp_ge, lg_cmp_eq] at hc2); (try simp (disch := omega) only [ta_lt, ta_le, ta_eq, tb_lt, tb_le, tb_eq, tw, tnI, tsub1, tsv, tsb32, tn32 1 (by decide), tnj 1 (by decide), tl32 0 (by decide), tl64 0 (by decide), tl32 1 (by decide), tl64 1 (by decide), tl32 97 (by decide), tl64 97 (by decide)] at hc2); (try simp (disch := omega) only [ta_lt, ta_le, ta_eq, tb_lt, tb_le, tb_eq, tw, tnI, tsub1, tsv, tsb32, tn32 1 (by decide), tnj 1 (by decide), tl32 0 (by decide), tl64 0 (by decide), tl32 1 (by decide), tl64 1 (by decide), tl32 97 (by decide), tl64 97 (by decide)]); omega) (fun i h1 h2 => by have e_ : i = fr := (by omega); rw [e_, hsg]; exact ⟨by omega, by omega⟩) (by omega) hw (lv_sub hl [0, 1, 2, 3] rfl)
  · skip
    (try simp (disch := omega) only [ta_lt, ta_le, ta_eq, tb_lt, tb_le, tb_eq, tw, tnI, tn32 1 (by decide), tnj 1 (by decide), tl32 0 (by decide), tl64 0 (by decide), tl32 1 (by decide), tl64 1 (by decide), tl32 97 (by decide), tl64 97 (by decide)] at hc2)
    refine lv_if_eq (tgt := 78) hx hb (dkS dF_153 DX5_splitOff (i := 12) rfl rfl rfl) (by decide) (fun _ => ?_) (fun h => absurd h (by decide))
    refine lv_iload_n hx hb (dkP dF_27 DX5_splitOff (i := 43) rfl rfl) rfl (lv_at hl 2 rfl) ?_
    refine zn_I hw (zr_S (As := [.int sign]) (rest := []) C0 (c_X5_isDigit l G kc sign  _) cs_X5_isDigit lk_X5_95 (zp_P C0 hRo hw a00 s00) rfl hl.1 rfl ⟨by decide, by decide⟩ (Nat.le_of_ble_eq_true rfl) (dk2 dF_184 DX5_splitOff (i := 44) rfl rfl rfl) ⟨Nat.le_refl _, Nat.le_refl _⟩) (fun r13 s13 H locs hp hw => ?_)
    rcases hp with ⟨rfl, hc13⟩ | ⟨rfl, hc13⟩
    · skip
      (try simp (disch := omega) only [ta_lt, ta_le, ta_eq, tb_lt, tb_le, tb_eq, tw, tnI, tn32 1 (by decide), tnj 1 (by decide), tl32 0 (by decide), tl64 0 (by decide), tl32 1 (by decide), tl64 1 (by decide), tl32 97 (by decide), tl64 97 (by decide)] at hc13)
      refine lv_if_eq (tgt := 139) hx hb (dkS dF_153 DX5_splitOff (i := 45) rfl rfl rfl) (by decide) (fun h => absurd h (by decide)) (fun _ => ?_)
      have lp14 : ∀ (nq : Nat) (q3_85 : Nat) (H : Heap) (locs : List Loc) (ls : Array Slot), ln - q3_85 < nq → (q3_85 ≤ ln) → (fr < q3_85) → St G kc A s.heap shC ad (sI σ 190 tk (nI fr)) H locs → lv_has ls 4 [(3, .int (nI q3_85)), (0, .ref (ad 186)), (1, .int sign), (2, .int (nI fr))] → W pr l e { frames := 2, cells := 0, slots := 0, locals := 45 } s m ([.ref (ad 186), .int sign, .int (nI fr)] : List Value).toArray below meth c H locs 0 0 (MQ below (va_Qi (fun r σ1 => (σ1.1 188 tk = 3 → fok (σ1.1 189 tk)) ∧ (∀ x, x ≠ tk → σ1.1 188 x = σ.1 188 x ∧ σ1.1 189 x = σ.1 189 x) ∧ (∃ q, fr < q ∧ q ≤ ln ∧ r = nI q) ∧ TC σ1 ∧ frC (fun x y => (x = 188) ∨ (x = 189) ∨ (x = 190)) σ σ1) (PoC G kc shC ad A) A) ([.ref (ad 186), .int sign, .int (nI fr)] : List Value).toArray s 0 0 A) (F0 m 85 ls []) := by
        intro nq
        induction nq with
        | zero => intro q3_85 H locs ls hmu; exact absurd hmu (Nat.not_lt_zero _)
        | succ nq ih14 =>
          intro q3_85 H locs ls hmu hq3_85 hlo hw hl
          refine lv_iload_n hx hb (dkP dF_29 DX5_splitOff (i := 46) rfl rfl) rfl (lv_at hl 0 rfl) ?_
          refine lv_aload_n hx hb (dkP dF_42 DX5_splitOff (i := 47) rfl rfl) rfl (lv_at hl 1 rfl) ?_
          refine z_gi C0 hw 186 1 (fk_of shc_186 rfl) fl_X5_46 (dk2 dF_180 DX5_splitOff (i := 48) rfl rfl rfl) ?_
          refine z_top (y := (nI ln)) ((rd_n (by omega)).trans hln) ?_
          refine lv_icmp_ge (tgt := 111) hx hb (dkS dF_162 DX5_splitOff (i := 49) rfl rfl rfl) (by decide) (fun c15 => ?_) (fun c15 => ?_)
          · simp (disch := omega) only [ta_lt, ta_le, ta_eq, tnI] at c15
            refine lv_aload_n hx hb (dkP dF_42 DX5_splitOff (i := 58) rfl rfl) rfl (lv_at hl 1 rfl) ?_
            refine z_gr C0 hw 186 2 188 (fk_of shc_186 rfl) fl_X5_15 (dk2 dF_180 DX5_splitOff (i := 59) rfl rfl rfl) ?_
            refine lv_aload_n hx hb (dkP dF_42 DX5_splitOff (i := 60) rfl rfl) rfl (lv_at hl 1 rfl) ?_
            refine z_gi C0 hw 186 5 (fk_of shc_186 rfl) fl_X5_82 (dk2 dF_180 DX5_splitOff (i := 61) rfl rfl rfl) ?_
            refine z_top (y := (nI tk)) ((rd_n (by omega)).trans htk) ?_
            refine lv_iconst (v := 2) hx hb (dkP dF_5 DX5_splitOff (i := 62) rfl rfl) (by decide) ?_
            refine z_iastN (n := 601) C0 hw 188 tk (ak_of shc_188) (by omega) (by decide) (dkP dF_79 DX5_splitOff (i := 63) rfl rfl) (fun H locs hw => ?_)
            have hT16 : TC (sI (sI σ 190 tk (nI fr)) 188 tk 2) := TC.w hT1 (tc0 tcl_188)
            have hF16 : frC (fun x y => (x = 188) ∨ (x = 189) ∨ (x = 190)) σ (sI (sI σ 190 tk (nI fr)) 188 tk 2) := frC.w hF1 (by show (188 = 188) ∨ (188 = 189) ∨ (188 = 190); exact Or.inl rfl)
            refine lv_aload_n hx hb (dkP dF_42 DX5_splitOff (i := 64) rfl rfl) rfl (lv_at hl 1 rfl) ?_
            refine z_gr C0 hw 186 3 189 (fk_of shc_186 rfl) fl_X5_19 (dk2 dF_180 DX5_splitOff (i := 65) rfl rfl rfl) ?_
            refine lv_aload_n hx hb (dkP dF_42 DX5_splitOff (i := 66) rfl rfl) rfl (lv_at hl 1 rfl) ?_
            refine z_gi C0 hw 186 5 (fk_of shc_186 rfl) fl_X5_82 (dk2 dF_180 DX5_splitOff (i := 67) rfl rfl rfl) ?_
            refine z_top (y := (nI tk)) ((rd_n (by omega)).trans ((rd_n (by omega)).trans htk)) ?_
            refine lv_aload_n hx hb (dkP dF_42 DX5_splitOff (i := 68) rfl rfl) rfl (lv_at hl 1 rfl) ?_
            refine lv_iload_n hx hb (dkP dF_28 DX5_splitOff (i := 69) rfl rfl) rfl (lv_at hl 3 rfl) ?_
            refine lv_iload_n hx hb (dkP dF_29 DX5_splitOff (i := 70) rfl rfl) rfl (lv_at hl 0 rfl) ?_
            refine zk_I hw (zr_V (As := [.int (nI fr), .int (nI q3_85)]) (rest := [.int (nI tk), .ref (ad 189)]) C0 (c_X5_numberOf l G kc ad (sI (sI σ 190 tk (nI fr)) 188 tk 2) fr q3_85 (by omega) (by omega) hT16 _) cv_X5_numberOf lk_X5_98 (zp_V C0 hRo hw 186 shc_186 rfl rfl) rfl hl.1 rfl ⟨by decide, by decide⟩ (Nat.le_of_ble_eq_true rfl) (dk2 dF_182 DX5_splitOff (i := 71) rfl rfl rfl) ⟨Nat.le_refl _, Nat.le_refl _⟩) (fun r17 s17 H locs hp hw => ?_)
            have hs17 := hp
            (rw [hs17] at hw)
            refine z_iastN (n := 601) C0 hw 189 tk (ak_of shc_189) (by omega) (by decide) (dkP dF_79 DX5_splitOff (i := 72) rfl rfl) (fun H locs hw => ?_)
            have hT18 : TC (sI (sI (sI σ 190 tk (nI fr)) 188 tk 2) 189 tk r17) := TC.w hT16 (tc0 tcl_189)
            have hF18 : frC (fun x y => (x = 188) ∨ (x = 189) ∨ (x = 190)) σ (sI (sI (sI σ 190 tk (nI fr)) 188 tk 2) 189 tk r17) := frC.w hF16 (by show (189 = 188) ∨ (189 = 189) ∨ (189 = 190); exact Or.inr (Or.inl rfl))
            refine lv_goto (tgt := 160) hx hb (dkS dF_167 DX5_splitOff (i := 73) rfl rfl rfl) (by decide) ?_
            refine lv_iload_n hx hb (dkP dF_29 DX5_splitOff (i := 85) rfl rfl) rfl (lv_at hl 0 rfl) ?_
            exact z_iret C0 hr hlk hw (⟨(fun h3 => absurd ((((rd_n (by omega)).trans rd_s)).symm.trans h3) (by decide)), (fun x hx1 => ⟨((rd_n (by omega)).trans ((rd_n (by omega)).trans ((rd_n (by omega)).trans rfl))), ((rd_n (by omega)).trans ((rd_n (by omega)).trans ((rd_n (by omega)).trans rfl)))⟩), ⟨q3_85, by omega, by omega, rfl⟩, hT18, hF18⟩) (dkP dF_172 DX5_splitOff (i := 86) rfl rfl)
          · simp (disch := omega) only [ta_lt, ta_le, ta_eq, tnI] at c15
            refine lv_aload_n hx hb (dkP dF_42 DX5_splitOff (i := 50) rfl rfl) rfl (lv_at hl 1 rfl) ?_
            refine z_gr C0 hw 186 0 187 (fk_of shc_186 rfl) fl_X5_11 (dk2 dF_180 DX5_splitOff (i := 51) rfl rfl rfl) ?_
            refine lv_iload_n hx hb (dkP dF_29 DX5_splitOff (i := 52) rfl rfl) rfl (lv_at hl 0 rfl) ?_
            refine z_baldN (n := 600) C0 hw 187 q3_85 (ak_of shc_187) (by omega) (by decide) (dkP dF_51 DX5_splitOff (i := 53) rfl rfl) ?_
            obtain ⟨v19, ev19⟩ : ∃ y : Int32, (sI σ 190 tk (nI fr)).1 187 q3_85 = y := ⟨_, rfl⟩
            refine z_top (y := v19) ev19 ?_
            refine zn_I hw (zr_S (As := [.int v19]) (rest := []) C0 (c_X5_isDigit l G kc v19  _) cs_X5_isDigit lk_X5_95 (zp_P C0 hRo hw a00 s00) rfl hl.1 rfl ⟨by decide, by decide⟩ (Nat.le_of_ble_eq_true rfl) (dk2 dF_184 DX5_splitOff (i := 54) rfl rfl rfl) ⟨Nat.le_refl _, Nat.le_refl _⟩) (fun r20 s20 H locs hp hw => ?_)
            rcases hp with ⟨rfl, hc20⟩ | ⟨rfl, hc20⟩
            · skip
              (try simp (disch := omega) only [ta_lt, ta_le, ta_eq, tb_lt, tb_le, tb_eq, tw, tnI, tn32 1 (by decide), tnj 1 (by decide), tl32 0 (by decide), tl64 0 (by decide), tl32 1 (by decide), tl64 1 (by decide), tl32 2 (by decide), tl64 2 (by decide), tl32 97 (by decide), tl64 97 (by decide)] at hc20)
              refine lv_if_eq (tgt := 111) hx hb (dkS dF_153 DX5_splitOff (i := 55) rfl rfl rfl) (by decide) (fun h => absurd h (by decide)) (fun _ => ?_)
              refine lv_iinc (v := nI (q3_85 + 1)) (lv' := [(3, .int (nI (q3_85 + 1))), (0, .ref (ad 186)), (1, .int sign), (2, .int (nI fr))]) hx hb (dkI DX5_splitOff (i := 56) rfl rfl rfl rfl) hl (k := 0) rfl (nI_1 _) (by decide) rfl (fun ls hl => ?_)
              refine lv_goto (tgt := 85) hx hb (dkS dF_167 DX5_splitOff (i := 57) rfl rfl rfl) (by decide) ?_
              exact ih14 (q3_85 + 1) _ _ _ (by omega) (by (try simp only [lg_cmp_lt, lg_cmp_le, lg_cmp_gt, lg_cmp_ge, lg_cmp_eq] at hc2); (try simp (disch := omega) only [ta_lt, ta_le, ta_eq, tb_lt, tb_le, tb_eq, tw, tnI, tsub1, tsv, tsb32, tn32 1 (by decide), tnj 1 (by decide), tl32 0 (by decide), tl64 0 (by decide), tl32 1 (by decide), tl64 1 (by decide), tl32 2 (by decide), tl64 2 (by decide), tl32 97 (by decide), tl64 97 (by decide)] at hc2); (try simp only [lg_cmp_lt, lg_cmp_le, lg_cmp_gt, lg_cmp_ge, lg_cmp_eq] at hc13); (try simp (disch := omega) only [ta_lt, ta_le, ta_eq, tb_lt, tb_le, tb_eq, tw, tnI, tsub1, tsv, tsb32, tn32 1 (by decide), tnj 1 (by decide), tl32 0 (by decide), tl64 0 (by decide), tl32 1 (by decide), tl64 1 (by decide), tl32 2 (by decide), tl64 2 (by decide), tl32 97 (by decide), tl64 97 (by decide)] at hc13); (try simp only [lg_cmp_lt, lg_cmp_le, lg_cmp_gt, lg_cmp_ge, lg_cmp_eq] at c15); (try simp (disch := omega) only [ta_lt, ta_le, ta_eq, tb_lt, tb_le, tb_eq, tw, tnI, tsub1, tsv, tsb32, tn32 1 (by decide), tnj 1 (by decide), tl32 0 (by decide), tl64 0 (by decide), tl32 1 (by decide), tl64 1 (by decide), tl32 2 (by decide), tl64 2 (by decide), tl32 97 (by decide), tl64 97 (by decide)] at c15); (try simp only [lg_cmp_lt, lg_cmp_le, lg_cmp_gt, lg_cmp_ge, lg_cmp_eq] at hc20); (try simp (disch := omega) only [ta_lt, ta_le, ta_eq, tb_lt, tb_le, tb_eq, tw, tnI, tsub1, tsv, tsb32, tn32 1 (by decide), tnj 1 (by decide), tl32 0 (by decide), tl64 0 (by decide), tl32 1 (by decide), tl64 1 (by decide), tl32 2 (by decide), tl64 2 (by decide), tl32 97 (by decide), tl64 97 (by decide)] at hc20); (try simp (disch := omega) only [ta_lt, ta_le, ta_eq, tb_lt, tb_le, tb_eq, tw, tnI, tsub1, tsv, tsb32, tn32 1 (by decide), tnj 1 (by decide), tl32 0 (by decide), tl64 0 (by decide), tl32 1 (by decide), tl64 1 (by decide), tl32 2 (by decide), tl64 2 (by decide), tl32 97 (by decide), tl64 97 (by decide)]); omega) (by omega) hw (lv_sub hl [0, 1, 2, 3] rfl)
            · skip
              (try simp (disch := omega) only [ta_lt, ta_le, ta_eq, tb_lt, tb_le, tb_eq, tw, tnI, tn32 1 (by decide), tnj 1 (by decide), tl32 0 (by decide), tl64 0 (by decide), tl32 1 (by decide), tl64 1 (by decide), tl32 2 (by decide), tl64 2 (by decide), tl32 97 (by decide), tl64 97 (by decide)] at hc20)
              refine lv_if_eq (tgt := 111) hx hb (dkS dF_153 DX5_splitOff (i := 55) rfl rfl rfl) (by decide) (fun _ => ?_) (fun h => absurd h (by decide))
              refine lv_aload_n hx hb (dkP dF_42 DX5_splitOff (i := 58) rfl rfl) rfl (lv_at hl 1 rfl) ?_
              refine z_gr C0 hw 186 2 188 (fk_of shc_186 rfl) fl_X5_15 (dk2 dF_180 DX5_splitOff (i := 59) rfl rfl rfl) ?_
              refine lv_aload_n hx hb (dkP dF_42 DX5_splitOff (i := 60) rfl rfl) rfl (lv_at hl 1 rfl) ?_
              refine z_gi C0 hw 186 5 (fk_of shc_186 rfl) fl_X5_82 (dk2 dF_180 DX5_splitOff (i := 61) rfl rfl rfl) ?_
              refine z_top (y := (nI tk)) ((rd_n (by omega)).trans htk) ?_
              refine lv_iconst (v := 2) hx hb (dkP dF_5 DX5_splitOff (i := 62) rfl rfl) (by decide) ?_
              refine z_iastN (n := 601) C0 hw 188 tk (ak_of shc_188) (by omega) (by decide) (dkP dF_79 DX5_splitOff (i := 63) rfl rfl) (fun H locs hw => ?_)
              have hT21 : TC (sI (sI σ 190 tk (nI fr)) 188 tk 2) := TC.w hT1 (tc0 tcl_188)
              have hF21 : frC (fun x y => (x = 188) ∨ (x = 189) ∨ (x = 190)) σ (sI (sI σ 190 tk (nI fr)) 188 tk 2) := frC.w hF1 (by show (188 = 188) ∨ (188 = 189) ∨ (188 = 190); exact Or.inl rfl)
              refine lv_aload_n hx hb (dkP dF_42 DX5_splitOff (i := 64) rfl rfl) rfl (lv_at hl 1 rfl) ?_
              refine z_gr C0 hw 186 3 189 (fk_of shc_186 rfl) fl_X5_19 (dk2 dF_180 DX5_splitOff (i := 65) rfl rfl rfl) ?_
              refine lv_aload_n hx hb (dkP dF_42 DX5_splitOff (i := 66) rfl rfl) rfl (lv_at hl 1 rfl) ?_
              refine z_gi C0 hw 186 5 (fk_of shc_186 rfl) fl_X5_82 (dk2 dF_180 DX5_splitOff (i := 67) rfl rfl rfl) ?_
              refine z_top (y := (nI tk)) ((rd_n (by omega)).trans ((rd_n (by omega)).trans htk)) ?_
              refine lv_aload_n hx hb (dkP dF_42 DX5_splitOff (i := 68) rfl rfl) rfl (lv_at hl 1 rfl) ?_
              refine lv_iload_n hx hb (dkP dF_28 DX5_splitOff (i := 69) rfl rfl) rfl (lv_at hl 3 rfl) ?_
              refine lv_iload_n hx hb (dkP dF_29 DX5_splitOff (i := 70) rfl rfl) rfl (lv_at hl 0 rfl) ?_
              refine zk_I hw (zr_V (As := [.int (nI fr), .int (nI q3_85)]) (rest := [.int (nI tk), .ref (ad 189)]) C0 (c_X5_numberOf l G kc ad (sI (sI σ 190 tk (nI fr)) 188 tk 2) fr q3_85 (by omega) (by omega) hT21 _) cv_X5_numberOf lk_X5_98 (zp_V C0 hRo hw 186 shc_186 rfl rfl) rfl hl.1 rfl ⟨by decide, by decide⟩ (Nat.le_of_ble_eq_true rfl) (dk2 dF_182 DX5_splitOff (i := 71) rfl rfl rfl) ⟨Nat.le_refl _, Nat.le_refl _⟩) (fun r22 s22 H locs hp hw => ?_)
              have hs22 := hp
              (rw [hs22] at hw)
              refine z_iastN (n := 601) C0 hw 189 tk (ak_of shc_189) (by omega) (by decide) (dkP dF_79 DX5_splitOff (i := 72) rfl rfl) (fun H locs hw => ?_)
              have hT23 : TC (sI (sI (sI σ 190 tk (nI fr)) 188 tk 2) 189 tk r22) := TC.w hT21 (tc0 tcl_189)
              have hF23 : frC (fun x y => (x = 188) ∨ (x = 189) ∨ (x = 190)) σ (sI (sI (sI σ 190 tk (nI fr)) 188 tk 2) 189 tk r22) := frC.w hF21 (by show (189 = 188) ∨ (189 = 189) ∨ (189 = 190); exact Or.inr (Or.inl rfl))
              refine lv_goto (tgt := 160) hx hb (dkS dF_167 DX5_splitOff (i := 73) rfl rfl rfl) (by decide) ?_
              refine lv_iload_n hx hb (dkP dF_29 DX5_splitOff (i := 85) rfl rfl) rfl (lv_at hl 0 rfl) ?_
              exact z_iret C0 hr hlk hw (⟨(fun h3 => absurd ((((rd_n (by omega)).trans rd_s)).symm.trans h3) (by decide)), (fun x hx1 => ⟨((rd_n (by omega)).trans ((rd_n (by omega)).trans ((rd_n (by omega)).trans rfl))), ((rd_n (by omega)).trans ((rd_n (by omega)).trans ((rd_n (by omega)).trans rfl)))⟩), ⟨q3_85, by omega, by omega, rfl⟩, hT23, hF23⟩) (dkP dF_172 DX5_splitOff (i := 86) rfl rfl)
      exact lp14 _ (fr + 1) _ _ _ (Nat.lt_succ_self _) (by (try simp only [lg_cmp_lt, lg_cmp_le, lg_cmp_gt, lg_cmp_ge, lg_cmp_eq] at hc2); (try simp (disch := omega) only [ta_lt, ta_le, ta_eq, tb_lt, tb_le, tb_eq, tw, tnI, tsub1, tsv, tsb32, tn32 1 (by decide), tnj 1 (by decide), tl32 0 (by decide), tl64 0 (by decide), tl32 1 (by decide), tl64 1 (by decide), tl32 2 (by decide), tl64 2 (by decide), tl32 97 (by decide), tl64 97 (by decide)] at hc2); (try simp only [lg_cmp_lt, lg_cmp_le, lg_cmp_gt, lg_cmp_ge, lg_cmp_eq] at hc13); (try simp (disch := omega) only [ta_lt, ta_le, ta_eq, tb_lt, tb_le, tb_eq, tw, tnI, tsub1, tsv, tsb32, tn32 1 (by decide), tnj 1 (by decide), tl32 0 (by decide), tl64 0 (by decide), tl32 1 (by decide), tl64 1 (by decide), tl32 2 (by decide), tl64 2 (by decide), tl32 97 (by decide), tl64 97 (by decide)] at hc13); (try simp (disch := omega) only [ta_lt, ta_le, ta_eq, tb_lt, tb_le, tb_eq, tw, tnI, tsub1, tsv, tsb32, tn32 1 (by decide), tnj 1 (by decide), tl32 0 (by decide), tl64 0 (by decide), tl32 1 (by decide), tl64 1 (by decide), tl32 2 (by decide), tl64 2 (by decide), tl32 97 (by decide), tl64 97 (by decide)]); omega) (by omega) hw (lv_sub hl [0, 1, 2, 3] rfl)
    · skip
      (try simp (disch := omega) only [ta_lt, ta_le, ta_eq, tb_lt, tb_le, tb_eq, tw, tnI, tn32 1 (by decide), tnj 1 (by decide), tl32 0 (by decide), tl64 0 (by decide), tl32 1 (by decide), tl64 1 (by decide), tl32 2 (by decide), tl64 2 (by decide), tl32 97 (by decide), tl64 97 (by decide)] at hc13)
      refine lv_if_eq (tgt := 139) hx hb (dkS dF_153 DX5_splitOff (i := 45) rfl rfl rfl) (by decide) (fun _ => ?_) (fun h => absurd h (by decide))
      refine lv_aload_n hx hb (dkP dF_42 DX5_splitOff (i := 74) rfl rfl) rfl (lv_at hl 1 rfl) ?_
      refine z_gr C0 hw 186 2 188 (fk_of shc_186 rfl) fl_X5_15 (dk2 dF_180 DX5_splitOff (i := 75) rfl rfl rfl) ?_
      refine lv_aload_n hx hb (dkP dF_42 DX5_splitOff (i := 76) rfl rfl) rfl (lv_at hl 1 rfl) ?_
      refine z_gi C0 hw 186 5 (fk_of shc_186 rfl) fl_X5_82 (dk2 dF_180 DX5_splitOff (i := 77) rfl rfl rfl) ?_
      refine z_top (y := (nI tk)) ((rd_n (by omega)).trans htk) ?_
      refine lv_iload_n hx hb (dkP dF_27 DX5_splitOff (i := 78) rfl rfl) rfl (lv_at hl 2 rfl) ?_
      refine zn_I hw (zr_S (As := [.int sign]) (rest := [.int (nI tk), .ref (ad 188)]) C0 (c_X5_isSign l G kc sign  _) cs_X5_isSign lk_X5_101 (zp_P C0 hRo hw a00 s00) rfl hl.1 rfl ⟨by decide, by decide⟩ (Nat.le_of_ble_eq_true rfl) (dk2 dF_184 DX5_splitOff (i := 79) rfl rfl rfl) ⟨Nat.le_refl _, Nat.le_refl _⟩) (fun r24 s24 H locs hp hw => ?_)
      rcases hp with rfl | ⟨rfl, hsg24⟩
      · skip
        refine lv_if_eq (tgt := 158) hx hb (dkS dF_153 DX5_splitOff (i := 80) rfl rfl rfl) (by decide) (fun _ => ?_) (fun h => absurd h (by decide))
        refine lv_iconst (v := 1) hx hb (dkP dF_4 DX5_splitOff (i := 83) rfl rfl) (by decide) ?_
        refine z_iastN (n := 601) C0 hw 188 tk (ak_of shc_188) (by omega) (by decide) (dkP dF_79 DX5_splitOff (i := 84) rfl rfl) (fun H locs hw => ?_)
        have hT25 : TC (sI (sI σ 190 tk (nI fr)) 188 tk 1) := TC.w hT1 (tc0 tcl_188)
        have hF25 : frC (fun x y => (x = 188) ∨ (x = 189) ∨ (x = 190)) σ (sI (sI σ 190 tk (nI fr)) 188 tk 1) := frC.w hF1 (by show (188 = 188) ∨ (188 = 189) ∨ (188 = 190); exact Or.inl rfl)
        refine lv_iload_n hx hb (dkP dF_29 DX5_splitOff (i := 85) rfl rfl) rfl (lv_at hl 0 rfl) ?_
        exact z_iret C0 hr hlk hw (⟨(fun h3 => absurd ((rd_s).symm.trans h3) (by decide)), (fun x hx1 => ⟨((rd_n (by omega)).trans ((rd_n (by omega)).trans rfl)), ((rd_n (by omega)).trans ((rd_n (by omega)).trans rfl))⟩), ⟨fr + 1, by omega, by omega, rfl⟩, hT25, hF25⟩) (dkP dF_172 DX5_splitOff (i := 86) rfl rfl)
      · skip
        refine lv_if_eq (tgt := 158) hx hb (dkS dF_153 DX5_splitOff (i := 80) rfl rfl rfl) (by decide) (fun h => absurd h (by decide)) (fun _ => ?_)
        refine lv_iload_n hx hb (dkP dF_27 DX5_splitOff (i := 81) rfl rfl) rfl (lv_at hl 2 rfl) ?_
        refine lv_goto (tgt := 159) hx hb (dkS dF_167 DX5_splitOff (i := 82) rfl rfl rfl) (by decide) ?_
        refine z_iastN (n := 601) C0 hw 188 tk (ak_of shc_188) (by omega) (by decide) (dkP dF_79 DX5_splitOff (i := 84) rfl rfl) (fun H locs hw => ?_)
        have hT26 : TC (sI (sI σ 190 tk (nI fr)) 188 tk sign) := TC.w hT1 (tc0 tcl_188)
        have hF26 : frC (fun x y => (x = 188) ∨ (x = 189) ∨ (x = 190)) σ (sI (sI σ 190 tk (nI fr)) 188 tk sign) := frC.w hF1 (by show (188 = 188) ∨ (188 = 189) ∨ (188 = 190); exact Or.inl rfl)
        refine lv_iload_n hx hb (dkP dF_29 DX5_splitOff (i := 85) rfl rfl) rfl (lv_at hl 0 rfl) ?_
        exact z_iret C0 hr hlk hw (⟨(fun h3 => by have h9 := (rd_s).symm.trans h3; have h8 := (show True ∧ _ from ⟨trivial, hsg24⟩).2; rw [h9] at h8; exact absurd h8 (by decide)), (fun x hx1 => ⟨((rd_n (by omega)).trans ((rd_n (by omega)).trans rfl)), ((rd_n (by omega)).trans ((rd_n (by omega)).trans rfl))⟩), ⟨fr + 1, by omega, by omega, rfl⟩, hT26, hF26⟩) (dkP dF_172 DX5_splitOff (i := 86) rfl rfl)
