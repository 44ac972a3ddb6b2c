set_option maxRecDepth 100000 in
set_option maxHeartbeats 8000000 in
theorem c_X12_see (l : Launch) (G : va_G) (kc : KC) (ad : Nat → Nat) (σ : Sg) (k : Nat) (hk : k ≤ 600) (hT : TM σ) : MI l G kc yX12_see cX12_see 2 (some .int) 0 0 [.ref (ad 0), .int (nI k)] shM ad σ (fun r σ1 => (-1 ≤ r.toInt ∧ r.toInt ≤ 255) ∧ (r.toInt = -1 ∨ (k : Int) < (σ.1 0 7).toInt) ∧ σ1 = σ) := by
  intro sz
  refine z_body (y := yX12_see) (n := 2) (av := [.ref (ad 0), .int (nI k)]) (Qc := fun A => va_Qi (fun r σ1 => (-1 ≤ r.toInt ∧ r.toInt ≤ 255) ∧ (r.toInt = -1 ∨ (k : Int) < (σ.1 0 7).toInt) ∧ σ1 = σ) (PoC G kc shM ad A) A) (plainFor_of_name (by decide)) (Nat.le_of_ble_eq_true rfl) (fun pr e s m below meth c A C0 hr hlk hnm hw hRo ls hl => ?_) sz
  have hx := C0.1
  have hb := C0.2.1
  have hown := C0.2.2.2.1
  have hts := C0.2.2.2.2.1
  have hl : lv_has ls 2 [(0, .ref (ad 0)), (1, .int (nI k))] := hl
  refine lv_iload_n hx hb (dkP dF_27 DX12_see (i := 0) rfl rfl) rfl (lv_at hl 1 rfl) ?_
  refine lv_aload_n hx hb (dkP dF_42 DX12_see (i := 1) rfl rfl) rfl (lv_at hl 0 rfl) ?_
  refine z_gi C0 hw 0 7 rfl fl_X12_150 (dk2 dF_180 DX12_see (i := 2) rfl rfl rfl) ?_
  obtain ⟨n1, hn1, en1⟩ := rngN (x := σ.1 0 7) (h := 600) (show 0 ≤ _ ∧ _ ≤ 600 from hT 0 7)
  refine z_top (y := nI n1) en1 ?_
  refine lv_icmp_ge (tgt := 21) hx hb (dkS dF_162 DX12_see (i := 3) rfl rfl rfl) (by decide) (fun c2 => ?_) (fun c2 => ?_)
  · simp (disch := omega) only [ta_lt, ta_le, ta_eq, tnI] at c2
    refine lv_iconst (v := (-1)) hx hb (dkP dF_2 DX12_see (i := 11) rfl rfl) (by decide) ?_
    exact z_iret C0 hr hlk hw (⟨(by decide), (Or.inl (by decide)), rfl⟩) (dkP dF_172 DX12_see (i := 12) rfl rfl)
  · simp (disch := omega) only [ta_lt, ta_le, ta_eq, tnI] at c2
    refine lv_aload_n hx hb (dkP dF_42 DX12_see (i := 4) rfl rfl) rfl (lv_at hl 0 rfl) ?_
    refine z_gr C0 hw 0 4 4 rfl fl_X12_32 (dk2 dF_180 DX12_see (i := 5) rfl rfl rfl) ?_
    refine lv_iload_n hx hb (dkP dF_27 DX12_see (i := 6) rfl rfl) rfl (lv_at hl 1 rfl) ?_
    refine z_baldN (n := 600) C0 hw 4 k rfl (by omega) (by decide) (dkP dF_51 DX12_see (i := 7) rfl rfl) ?_
    obtain ⟨v3, ev3⟩ : ∃ y : Int32, σ.1 4 k = y := ⟨_, rfl⟩
    refine z_top (y := v3) ev3 ?_
    refine lv_sipush (v := 255) hx hb (dkS dF_17 DX12_see (i := 8) rfl rfl rfl) (by decide) ?_
    refine lv_iand hx hb (dkP dF_126 DX12_see (i := 9) rfl rfl) ?_
    refine lv_goto (tgt := 22) hx hb (dkS dF_167 DX12_see (i := 10) rfl rfl rfl) (by decide) ?_
    exact z_iret C0 hr hlk hw (⟨(seeR _), (Or.inr (by rw [en1]; simp (disch := omega) only [tnI] at *; omega)), rfl⟩) (dkP dF_172 DX12_see (i := 12) rfl rfl)
set_option maxRecDepth 100000 in
set_option maxHeartbeats 4000000 in
theorem c_J9_min_7cf53 (l : Launch) (G : va_G) (kc : KC)  (x : Int32) (y : Int32)  : MI l G kc yJ9_min_7cf53 cJ9_min_7cf53 2 (some .int) 0 0 [.int x, .int y] [] a00 s00 (fun r _ => True) := by
  intro sz
  refine z_body (y := yJ9_min_7cf53) (n := 2) (av := [.int x, .int y]) (Qc := fun A => va_Qi (fun r _ => True) (PoC G kc [] a00 A) A) (by decide +kernel) (Nat.le_of_ble_eq_true rfl) (fun pr e s m below meth c A C0 hr hlk hnm hw hRo ls hl => ?_) sz
  have hx := C0.1
  have hb := C0.2.1
  have hown := C0.2.2.2.1
  have hts := C0.2.2.2.2.1
  have hl : lv_has ls 2 [(0, .int x), (1, .int y)] := hl
  refine lv_iload_n hx hb (dkP dF_26 DJ9_min_7cf53 (i := 0) rfl rfl) rfl (lv_at hl 0 rfl) ?_
  refine lv_iload_n hx hb (dkP dF_27 DJ9_min_7cf53 (i := 1) rfl rfl) rfl (lv_at hl 1 rfl) ?_
  refine lv_icmp_gt (tgt := 9) hx hb (dkS dF_163 DJ9_min_7cf53 (i := 2) rfl rfl rfl) (by decide) (fun c1 => ?_) (fun c1 => ?_)
  · skip
    refine lv_iload_n hx hb (dkP dF_27 DJ9_min_7cf53 (i := 5) rfl rfl) rfl (lv_at hl 1 rfl) ?_
    exact z_iret C0 hr hlk hw trivial (dkP dF_172 DJ9_min_7cf53 (i := 6) rfl rfl)
  · skip
    refine lv_iload_n hx hb (dkP dF_26 DJ9_min_7cf53 (i := 3) rfl rfl) rfl (lv_at hl 0 rfl) ?_
    refine lv_goto (tgt := 10) hx hb (dkS dF_167 DJ9_min_7cf53 (i := 4) rfl rfl rfl) (by decide) ?_
    exact z_iret C0 hr hlk hw trivial (dkP dF_172 DJ9_min_7cf53 (i := 6) rfl rfl)
set_option maxRecDepth 100000 in
set_option maxHeartbeats 4000000 in
theorem c_X12_isMark (l : Launch) (G : va_G) (kc : KC)  (ch : Int32)  : MI l G kc yX12_isMark cX12_isMark 1 (some .boolean) 0 0 [.int ch] [] a00 s00 (fun r _ => r = 0 ∨ r = 1) := by
  intro sz
  refine z_body (y := yX12_isMark) (n := 1) (av := [.int ch]) (Qc := fun A => va_Qi (fun r _ => r = 0 ∨ r = 1) (PoC G kc [] a00 A) A) (plainFor_of_name (by decide)) (Nat.le_of_ble_eq_true rfl) (fun pr e s m below meth c A C0 hr hlk hnm hw hRo ls hl => ?_) sz
  have hx := C0.1
  have hb := C0.2.1
  have hown := C0.2.2.2.1
  have hts := C0.2.2.2.2.1
  have hl : lv_has ls 1 [(0, .int ch)] := hl
  refine lv_iload_n hx hb (dkP dF_26 DX12_isMark (i := 0) rfl rfl) rfl (lv_at hl 0 rfl) ?_
  refine lv_bipush (v := 58) hx hb (dks dF_16 DX12_isMark (i := 1) rfl rfl rfl) (by decide) ?_
  refine lv_icmp_eq (tgt := 60) hx hb (dkS dF_159 DX12_isMark (i := 2) rfl rfl rfl) (by decide) (fun c1 => ?_) (fun c1 => ?_)
  · skip
    refine lv_iconst (v := 1) hx hb (dkP dF_4 DX12_isMark (i := 30) rfl rfl) (by decide) ?_
    refine lv_goto (tgt := 65) hx hb (dkS dF_167 DX12_isMark (i := 31) rfl rfl rfl) (by decide) ?_
    exact z_zret C0 hr hlk (by decide) hw (by decide) (dkP dF_172 DX12_isMark (i := 33) rfl rfl)
  · skip
    refine lv_iload_n hx hb (dkP dF_26 DX12_isMark (i := 3) rfl rfl) rfl (lv_at hl 0 rfl) ?_
    refine lv_bipush (v := 59) hx hb (dks dF_16 DX12_isMark (i := 4) rfl rfl rfl) (by decide) ?_
    refine lv_icmp_eq (tgt := 60) hx hb (dkS dF_159 DX12_isMark (i := 5) rfl rfl rfl) (by decide) (fun c2 => ?_) (fun c2 => ?_)
    · skip
      refine lv_iconst (v := 1) hx hb (dkP dF_4 DX12_isMark (i := 30) rfl rfl) (by decide) ?_
      refine lv_goto (tgt := 65) hx hb (dkS dF_167 DX12_isMark (i := 31) rfl rfl rfl) (by decide) ?_
      exact z_zret C0 hr hlk (by decide) hw (by decide) (dkP dF_172 DX12_isMark (i := 33) rfl rfl)
    · skip
      refine lv_iload_n hx hb (dkP dF_26 DX12_isMark (i := 6) rfl rfl) rfl (lv_at hl 0 rfl) ?_
      refine lv_bipush (v := 61) hx hb (dks dF_16 DX12_isMark (i := 7) rfl rfl rfl) (by decide) ?_
      refine lv_icmp_eq (tgt := 60) hx hb (dkS dF_159 DX12_isMark (i := 8) rfl rfl rfl) (by decide) (fun c3 => ?_) (fun c3 => ?_)
      · skip
        refine lv_iconst (v := 1) hx hb (dkP dF_4 DX12_isMark (i := 30) rfl rfl) (by decide) ?_
        refine lv_goto (tgt := 65) hx hb (dkS dF_167 DX12_isMark (i := 31) rfl rfl rfl) (by decide) ?_
        exact z_zret C0 hr hlk (by decide) hw (by decide) (dkP dF_172 DX12_isMark (i := 33) rfl rfl)
      · skip
        refine lv_iload_n hx hb (dkP dF_26 DX12_isMark (i := 9) rfl rfl) rfl (lv_at hl 0 rfl) ?_
        refine lv_bipush (v := 60) hx hb (dks dF_16 DX12_isMark (i := 10) rfl rfl rfl) (by decide) ?_
        refine lv_icmp_eq (tgt := 60) hx hb (dkS dF_159 DX12_isMark (i := 11) rfl rfl rfl) (by decide) (fun c4 => ?_) (fun c4 => ?_)
        · skip
          refine lv_iconst (v := 1) hx hb (dkP dF_4 DX12_isMark (i := 30) rfl rfl) (by decide) ?_
          refine lv_goto (tgt := 65) hx hb (dkS dF_167 DX12_isMark (i := 31) rfl rfl rfl) (by decide) ?_
          exact z_zret C0 hr hlk (by decide) hw (by decide) (dkP dF_172 DX12_isMark (i := 33) rfl rfl)
        · skip
          refine lv_iload_n hx hb (dkP dF_26 DX12_isMark (i := 12) rfl rfl) rfl (lv_at hl 0 rfl) ?_
          refine lv_bipush (v := 62) hx hb (dks dF_16 DX12_isMark (i := 13) rfl rfl rfl) (by decide) ?_
          refine lv_icmp_eq (tgt := 60) hx hb (dkS dF_159 DX12_isMark (i := 14) rfl rfl rfl) (by decide) (fun c5 => ?_) (fun c5 => ?_)
          · skip
            refine lv_iconst (v := 1) hx hb (dkP dF_4 DX12_isMark (i := 30) rfl rfl) (by decide) ?_
            refine lv_goto (tgt := 65) hx hb (dkS dF_167 DX12_isMark (i := 31) rfl rfl rfl) (by decide) ?_
            exact z_zret C0 hr hlk (by decide) hw (by decide) (dkP dF_172 DX12_isMark (i := 33) rfl rfl)
          · skip
            refine lv_iload_n hx hb (dkP dF_26 DX12_isMark (i := 15) rfl rfl) rfl (lv_at hl 0 rfl) ?_
            refine lv_bipush (v := 43) hx hb (dks dF_16 DX12_isMark (i := 16) rfl rfl rfl) (by decide) ?_
            refine lv_icmp_eq (tgt := 60) hx hb (dkS dF_159 DX12_isMark (i := 17) rfl rfl rfl) (by decide) (fun c6 => ?_) (fun c6 => ?_)
            · skip
              refine lv_iconst (v := 1) hx hb (dkP dF_4 DX12_isMark (i := 30) rfl rfl) (by decide) ?_
              refine lv_goto (tgt := 65) hx hb (dkS dF_167 DX12_isMark (i := 31) rfl rfl rfl) (by decide) ?_
              exact z_zret C0 hr hlk (by decide) hw (by decide) (dkP dF_172 DX12_isMark (i := 33) rfl rfl)
            · skip
              refine lv_iload_n hx hb (dkP dF_26 DX12_isMark (i := 18) rfl rfl) rfl (lv_at hl 0 rfl) ?_
              refine lv_bipush (v := 45) hx hb (dks dF_16 DX12_isMark (i := 19) rfl rfl rfl) (by decide) ?_
              refine lv_icmp_eq (tgt := 60) hx hb (dkS dF_159 DX12_isMark (i := 20) rfl rfl rfl) (by decide) (fun c7 => ?_) (fun c7 => ?_)
              · skip
                refine lv_iconst (v := 1) hx hb (dkP dF_4 DX12_isMark (i := 30) rfl rfl) (by decide) ?_
                refine lv_goto (tgt := 65) hx hb (dkS dF_167 DX12_isMark (i := 31) rfl rfl rfl) (by decide) ?_
                exact z_zret C0 hr hlk (by decide) hw (by decide) (dkP dF_172 DX12_isMark (i := 33) rfl rfl)
              · skip
                refine lv_iload_n hx hb (dkP dF_26 DX12_isMark (i := 21) rfl rfl) rfl (lv_at hl 0 rfl) ?_
                refine lv_bipush (v := 42) hx hb (dks dF_16 DX12_isMark (i := 22) rfl rfl rfl) (by decide) ?_
                refine lv_icmp_eq (tgt := 60) hx hb (dkS dF_159 DX12_isMark (i := 23) rfl rfl rfl) (by decide) (fun c8 => ?_) (fun c8 => ?_)
                · skip
                  refine lv_iconst (v := 1) hx hb (dkP dF_4 DX12_isMark (i := 30) rfl rfl) (by decide) ?_
                  refine lv_goto (tgt := 65) hx hb (dkS dF_167 DX12_isMark (i := 31) rfl rfl rfl) (by decide) ?_
                  exact z_zret C0 hr hlk (by decide) hw (by decide) (dkP dF_172 DX12_isMark (i := 33) rfl rfl)
                · skip
                  refine lv_iload_n hx hb (dkP dF_26 DX12_isMark (i := 24) rfl rfl) rfl (lv_at hl 0 rfl) ?_
                  refine lv_bipush (v := 123) hx hb (dks dF_16 DX12_isMark (i := 25) rfl rfl rfl) (by decide) ?_
                  refine lv_icmp_eq (tgt := 60) hx hb (dkS dF_159 DX12_isMark (i := 26) rfl rfl rfl) (by decide) (fun c9 => ?_) (fun c9 => ?_)
                  · skip
                    refine lv_iconst (v := 1) hx hb (dkP dF_4 DX12_isMark (i := 30) rfl rfl) (by decide) ?_
                    refine lv_goto (tgt := 65) hx hb (dkS dF_167 DX12_isMark (i := 31) rfl rfl rfl) (by decide) ?_
                    exact z_zret C0 hr hlk (by decide) hw (by decide) (dkP dF_172 DX12_isMark (i := 33) rfl rfl)
                  · skip
                    refine lv_iload_n hx hb (dkP dF_26 DX12_isMark (i := 27) rfl rfl) rfl (lv_at hl 0 rfl) ?_
                    refine lv_bipush (v := 125) hx hb (dks dF_16 DX12_isMark (i := 28) rfl rfl rfl) (by decide) ?_
                    refine lv_icmp_ne (tgt := 64) hx hb (dkS dF_160 DX12_isMark (i := 29) rfl rfl rfl) (by decide) (fun c10 => ?_) (fun c10 => ?_)
                    · skip
                      refine lv_iconst (v := 0) hx hb (dkP dF_3 DX12_isMark (i := 32) rfl rfl) (by decide) ?_
                      exact z_zret C0 hr hlk (by decide) hw (by decide) (dkP dF_172 DX12_isMark (i := 33) rfl rfl)
                    · skip
                      refine lv_iconst (v := 1) hx hb (dkP dF_4 DX12_isMark (i := 30) rfl rfl) (by decide) ?_
                      refine lv_goto (tgt := 65) hx hb (dkS dF_167 DX12_isMark (i := 31) rfl rfl rfl) (by decide) ?_
                      exact z_zret C0 hr hlk (by decide) hw (by decide) (dkP dF_172 DX12_isMark (i := 33) rfl rfl)
set_option maxRecDepth 100000 in
set_option maxHeartbeats 8000000 in
theorem c_X12_step (l : Launch) (G : va_G) (kc : KC) (ad : Nat → Nat) (σ : Sg)  (hT : TM σ) : MV l G kc yX12_step cX12_step 2 1 25 [.ref (ad 0)] shM ad σ (fun σ1 => TM σ1 ∧ fr true [] [8, 9, 10, 11] σ σ1) := by
  intro sz
  refine z_body (y := yX12_step) (n := 2) (av := [.ref (ad 0)]) (Qc := fun A => va_Qv (fun σ1 => TM σ1 ∧ fr true [] [8, 9, 10, 11] σ σ1) (PoC G kc shM ad A) A) (plainFor_of_name (by decide)) (Nat.le_of_ble_eq_true rfl) (fun pr e s m below meth c A C0 hr hlk hnm hw hRo ls hl => ?_) sz
  have hx := C0.1
  have hb := C0.2.1
  have hown := C0.2.2.2.1
  have hts := C0.2.2.2.2.1
  have hl : lv_has ls 2 [(0, .ref (ad 0))] := hl
  have lp1 : ∀ (nq : Nat) (aτ : Nat) (τ : Sg) (H : Heap) (locs : List Loc) (ls : Array Slot), 601 - aτ < nq → (τ.1 0 8 = nI aτ) → (aτ ≤ 600) → (TM τ) → (fr true [] [8, 9, 10, 11] σ τ) → St G kc A s.heap shM ad τ H locs → lv_has ls 2 [(0, .ref (ad 0))] → W pr l e { frames := 1, cells := 0, slots := 0, locals := 25 } s m ([.ref (ad 0)] : List Value).toArray below meth c H locs 0 0 (MQ below (va_Qv (fun σ1 => TM σ1 ∧ fr true [] [8, 9, 10, 11] σ σ1) (PoC G kc shM ad A) A) ([.ref (ad 0)] : List Value).toArray s 0 0 A) (F0 m 0 ls []) := by
    intro nq
    induction nq with
    | zero => intro aτ τ H locs ls hmu; exact absurd hmu (Nat.not_lt_zero _)
    | succ nq ih1 =>
      intro aτ τ H locs ls hmu haτ hbτ hT_τ hF_τ hw hl
      refine lv_aload_n hx hb (dkP dF_42 DX12_step (i := 0) rfl rfl) rfl (lv_at hl 0 rfl) ?_
      refine lv_aload_n hx hb (dkP dF_42 DX12_step (i := 1) rfl rfl) rfl (lv_at hl 0 rfl) ?_
      refine z_gi C0 hw 0 8 rfl fl_X12_153 (dk2 dF_180 DX12_step (i := 2) rfl rfl rfl) ?_
      refine z_top (y := (nI aτ)) haτ ?_
      refine zk_I hw (zr_V (As := [.int (nI aτ)]) (rest := []) C0 (c_X12_see l G kc ad τ aτ (by omega) hT_τ _) cv_X12_see lk_X12_156 (zp_V C0 hRo hw 0 rfl rfl rfl) rfl hl.1 rfl ⟨by decide, by decide⟩ (Nat.le_of_ble_eq_true rfl) (dk2 dF_182 DX12_step (i := 3) rfl rfl rfl) ⟨Nat.le_refl _, Nat.le_refl _⟩) (fun r2 s2 H locs hp hw => ?_)
      obtain ⟨f2_0, f2_1, hs2⟩ := hp
      (rw [hs2] at hw)
      refine lv_bipush (v := 32) hx hb (dks dF_16 DX12_step (i := 4) rfl rfl rfl) (by decide) ?_
      refine lv_icmp_eq (tgt := 26) hx hb (dkS dF_159 DX12_step (i := 5) rfl rfl rfl) (by decide) (fun c3 => ?_) (fun c3 => ?_)
      · (try simp (disch := omega) only [ta_lt, ta_le, ta_eq, tnI, tl32 32 (by decide)] at c3)
        refine lv_aload_n hx hb (dkP dF_42 DX12_step (i := 12) rfl rfl) rfl (lv_at hl 0 rfl) ?_
        refine lv_dup hx hb (dkP dF_89 DX12_step (i := 13) rfl rfl) rfl ?_
        refine z_gi C0 hw 0 8 rfl fl_X12_153 (dk2 dF_180 DX12_step (i := 14) rfl rfl rfl) ?_
        refine z_top (y := (nI aτ)) haτ ?_
        refine lv_iconst (v := 1) hx hb (dkP dF_4 DX12_step (i := 15) rfl rfl) (by decide) ?_
        refine lv_iadd hx hb (dkP dF_96 DX12_step (i := 16) rfl rfl) ?_
        refine z_top (y := nI (aτ + 1)) (by simp only [fa_lit, nI_add, pk_mul]) ?_
        refine z_pi C0 hw 0 8 rfl fp_X12_153 (dk2 dF_181 DX12_step (i := 17) rfl rfl rfl) (fun H locs hw => ?_)
        have hT4 : TM (sI τ 0 8 (nI (aτ + 1))) := TM.w hT_τ (show 0 ≤ _ ∧ _ ≤ 600 from by have hs7 := (show 0 ≤ (τ.1 0 7).toInt ∧ (τ.1 0 7).toInt ≤ 600 from hT_τ 0 7); have hs7_0 := (show 0 ≤ (τ.1 0 7).toInt ∧ (τ.1 0 7).toInt ≤ 600 from hT_τ 0 7); (try simp only [lg_cmp_lt, lg_cmp_le, lg_cmp_gt, lg_cmp_ge, lg_cmp_eq] at f2_0); (try simp (disch := omega) only [ta_lt, ta_le, ta_eq, tb_lt, tb_le, tb_eq, tw, tnI, tsub1, tsv, tn32 1 (by decide), tnj 1 (by decide), tl32 0 (by decide), tl64 0 (by decide), tl32 1 (by decide), tl64 1 (by decide), tl32 32 (by decide), tl64 32 (by decide)] at f2_0); (try simp only [lg_cmp_lt, lg_cmp_le, lg_cmp_gt, lg_cmp_ge, lg_cmp_eq] at f2_1); (try simp (disch := omega) only [ta_lt, ta_le, ta_eq, tb_lt, tb_le, tb_eq, tw, tnI, tsub1, tsv, tn32 1 (by decide), tnj 1 (by decide), tl32 0 (by decide), tl64 0 (by decide), tl32 1 (by decide), tl64 1 (by decide), tl32 32 (by decide), tl64 32 (by decide)] at f2_1); (try simp only [lg_cmp_lt, lg_cmp_le, lg_cmp_gt, lg_cmp_ge, lg_cmp_eq] at c3); (try simp (disch := omega) only [ta_lt, ta_le, ta_eq, tb_lt, tb_le, tb_eq, tw, tnI, tsub1, tsv, tn32 1 (by decide), tnj 1 (by decide), tl32 0 (by decide), tl64 0 (by decide), tl32 1 (by decide), tl64 1 (by decide), tl32 32 (by decide), tl64 32 (by decide)] at c3); (try simp (disch := omega) only [ta_lt, ta_le, ta_eq, tb_lt, tb_le, tb_eq, tw, tnI, tsub1, tsv, tn32 1 (by decide), tnj 1 (by decide), tl32 0 (by decide), tl64 0 (by decide), tl32 1 (by decide), tl64 1 (by decide), tl32 32 (by decide), tl64 32 (by decide)]); omega)
        have hF4 : fr true [] [8, 9, 10, 11] σ (sI τ 0 8 (nI (aτ + 1))) := fr.w hF_τ (Or.inr ⟨rfl, by decide⟩) (fun _ h => absurd h (by decide))
        refine lv_goto (tgt := 0) hx hb (dkS dF_167 DX12_step (i := 18) rfl rfl rfl) (by decide) ?_
        exact ih1 (aτ + 1) (sI τ 0 8 (nI (aτ + 1))) _ _ _ (by omega) rd_s (by have hs7_0 := (show 0 ≤ (τ.1 0 7).toInt ∧ (τ.1 0 7).toInt ≤ 600 from hT_τ 0 7); (try simp only [lg_cmp_lt, lg_cmp_le, lg_cmp_gt, lg_cmp_ge, lg_cmp_eq] at f2_0); (try simp (disch := omega) only [ta_lt, ta_le, ta_eq, tb_lt, tb_le, tb_eq, tw, tnI, tsub1, tsv, tn32 1 (by decide), tnj 1 (by decide), tl32 0 (by decide), tl64 0 (by decide), tl32 1 (by decide), tl64 1 (by decide), tl32 32 (by decide), tl64 32 (by decide)] at f2_0); (try simp only [lg_cmp_lt, lg_cmp_le, lg_cmp_gt, lg_cmp_ge, lg_cmp_eq] at f2_1); (try simp (disch := omega) only [ta_lt, ta_le, ta_eq, tb_lt, tb_le, tb_eq, tw, tnI, tsub1, tsv, tn32 1 (by decide), tnj 1 (by decide), tl32 0 (by decide), tl64 0 (by decide), tl32 1 (by decide), tl64 1 (by decide), tl32 32 (by decide), tl64 32 (by decide)] at f2_1); (try simp only [lg_cmp_lt, lg_cmp_le, lg_cmp_gt, lg_cmp_ge, lg_cmp_eq] at c3); (try simp (disch := omega) only [ta_lt, ta_le, ta_eq, tb_lt, tb_le, tb_eq, tw, tnI, tsub1, tsv, tn32 1 (by decide), tnj 1 (by decide), tl32 0 (by decide), tl64 0 (by decide), tl32 1 (by decide), tl64 1 (by decide), tl32 32 (by decide), tl64 32 (by decide)] at c3); (try simp (disch := omega) only [ta_lt, ta_le, ta_eq, tb_lt, tb_le, tb_eq, tw, tnI, tsub1, tsv, tn32 1 (by decide), tnj 1 (by decide), tl32 0 (by decide), tl64 0 (by decide), tl32 1 (by decide), tl64 1 (by decide), tl32 32 (by decide), tl64 32 (by decide)]); omega) hT4 hF4 hw (lv_sub hl [0] rfl)
      · (try simp (disch := omega) only [ta_lt, ta_le, ta_eq, tnI, tl32 32 (by decide)] at c3)
        refine lv_aload_n hx hb (dkP dF_42 DX12_step (i := 6) rfl rfl) rfl (lv_at hl 0 rfl) ?_
        refine lv_aload_n hx hb (dkP dF_42 DX12_step (i := 7) rfl rfl) rfl (lv_at hl 0 rfl) ?_
        refine z_gi C0 hw 0 8 rfl fl_X12_153 (dk2 dF_180 DX12_step (i := 8) rfl rfl rfl) ?_
        refine z_top (y := (nI aτ)) haτ ?_
        refine zk_I hw (zr_V (As := [.int (nI aτ)]) (rest := []) C0 (c_X12_see l G kc ad τ aτ (by omega) hT_τ _) cv_X12_see lk_X12_156 (zp_V C0 hRo hw 0 rfl rfl rfl) rfl hl.1 rfl ⟨by decide, by decide⟩ (Nat.le_of_ble_eq_true rfl) (dk2 dF_182 DX12_step (i := 9) rfl rfl rfl) ⟨Nat.le_refl _, Nat.le_refl _⟩) (fun r5 s5 H locs hp hw => ?_)
        obtain ⟨f5_0, f5_1, hs5⟩ := hp
        (rw [hs5] at hw)
        refine lv_bipush (v := 10) hx hb (dks dF_16 DX12_step (i := 10) rfl rfl rfl) (by decide) ?_
        refine lv_icmp_ne (tgt := 39) hx hb (dkS dF_160 DX12_step (i := 11) rfl rfl rfl) (by decide) (fun c6 => ?_) (fun c6 => ?_)
        · (try simp (disch := omega) only [ta_lt, ta_le, ta_eq, tnI, tl32 10 (by decide)] at c6)
          refine lv_aload_n hx hb (dkP dF_42 DX12_step (i := 19) rfl rfl) rfl (lv_at hl 0 rfl) ?_
          refine lv_aload_n hx hb (dkP dF_42 DX12_step (i := 20) rfl rfl) rfl (lv_at hl 0 rfl) ?_
          refine z_gi C0 hw 0 8 rfl fl_X12_153 (dk2 dF_180 DX12_step (i := 21) rfl rfl rfl) ?_
          refine z_top (y := (nI aτ)) haτ ?_
          refine z_pi C0 hw 0 9 rfl fp_X12_159 (dk2 dF_181 DX12_step (i := 22) rfl rfl rfl) (fun H locs hw => ?_)
          have hT7 : TM (sI τ 0 9 (nI aτ)) := TM.w hT_τ (show 0 ≤ _ ∧ _ ≤ 600 from by (try simp only [lg_cmp_lt, lg_cmp_le, lg_cmp_gt, lg_cmp_ge, lg_cmp_eq] at f2_0); (try simp (disch := omega) only [ta_lt, ta_le, ta_eq, tb_lt, tb_le, tb_eq, tw, tnI, tsub1, tsv, tn32 1 (by decide), tnj 1 (by decide), tl32 0 (by decide), tl64 0 (by decide), tl32 1 (by decide), tl64 1 (by decide), tl32 10 (by decide), tl64 10 (by decide), tl32 32 (by decide), tl64 32 (by decide)] at f2_0); (try simp only [lg_cmp_lt, lg_cmp_le, lg_cmp_gt, lg_cmp_ge, lg_cmp_eq] at f2_1); (try simp (disch := omega) only [ta_lt, ta_le, ta_eq, tb_lt, tb_le, tb_eq, tw, tnI, tsub1, tsv, tn32 1 (by decide), tnj 1 (by decide), tl32 0 (by decide), tl64 0 (by decide), tl32 1 (by decide), tl64 1 (by decide), tl32 10 (by decide), tl64 10 (by decide), tl32 32 (by decide), tl64 32 (by decide)] at f2_1); (try simp only [lg_cmp_lt, lg_cmp_le, lg_cmp_gt, lg_cmp_ge, lg_cmp_eq] at c3); (try simp (disch := omega) only [ta_lt, ta_le, ta_eq, tb_lt, tb_le, tb_eq, tw, tnI, tsub1, tsv, tn32 1 (by decide), tnj 1 (by decide), tl32 0 (by decide), tl64 0 (by decide), tl32 1 (by decide), tl64 1 (by decide), tl32 10 (by decide), tl64 10 (by decide), tl32 32 (by decide), tl64 32 (by decide)] at c3); (try simp only [lg_cmp_lt, lg_cmp_le, lg_cmp_gt, lg_cmp_ge, lg_cmp_eq] at f5_0); (try simp (disch := omega) only [ta_lt, ta_le, ta_eq, tb_lt, tb_le, tb_eq, tw, tnI, tsub1, tsv, tn32 1 (by decide), tnj 1 (by decide), tl32 0 (by decide), tl64 0 (by decide), tl32 1 (by decide), tl64 1 (by decide), tl32 10 (by decide), tl64 10 (by decide), tl32 32 (by decide), tl64 32 (by decide)] at f5_0); (try simp only [lg_cmp_lt, lg_cmp_le, lg_cmp_gt, lg_cmp_ge, lg_cmp_eq] at f5_1); (try simp (disch := omega) only [ta_lt, ta_le, ta_eq, tb_lt, tb_le, tb_eq, tw, tnI, tsub1, tsv, tn32 1 (by decide), tnj 1 (by decide), tl32 0 (by decide), tl64 0 (by decide), tl32 1 (by decide), tl64 1 (by decide), tl32 10 (by decide), tl64 10 (by decide), tl32 32 (by decide), tl64 32 (by decide)] at f5_1); (try simp only [lg_cmp_lt, lg_cmp_le, lg_cmp_gt, lg_cmp_ge, lg_cmp_eq] at c6); (try simp (disch := omega) only [ta_lt, ta_le, ta_eq, tb_lt, tb_le, tb_eq, tw, tnI, tsub1, tsv, tn32 1 (by decide), tnj 1 (by decide), tl32 0 (by decide), tl64 0 (by decide), tl32 1 (by decide), tl64 1 (by decide), tl32 10 (by decide), tl64 10 (by decide), tl32 32 (by decide), tl64 32 (by decide)] at c6); (try simp (disch := omega) only [ta_lt, ta_le, ta_eq, tb_lt, tb_le, tb_eq, tw, tnI, tsub1, tsv, tn32 1 (by decide), tnj 1 (by decide), tl32 0 (by decide), tl64 0 (by decide), tl32 1 (by decide), tl64 1 (by decide), tl32 10 (by decide), tl64 10 (by decide), tl32 32 (by decide), tl64 32 (by decide)]); omega)
          have hF7 : fr true [] [8, 9, 10, 11] σ (sI τ 0 9 (nI aτ)) := fr.w hF_τ (Or.inr ⟨rfl, by decide⟩) (fun _ h => absurd h (by decide))
          refine lv_aload_n hx hb (dkP dF_42 DX12_step (i := 23) rfl rfl) rfl (lv_at hl 0 rfl) ?_
          refine lv_aload_n hx hb (dkP dF_42 DX12_step (i := 24) rfl rfl) rfl (lv_at hl 0 rfl) ?_
          refine z_gi C0 hw 0 8 rfl fl_X12_153 (dk2 dF_180 DX12_step (i := 25) rfl rfl rfl) ?_
          refine z_top (y := (nI aτ)) ((rd_n (by omega)).trans haτ) ?_
          refine zk_I hw (zr_V (As := [.int (nI aτ)]) (rest := []) C0 (c_X12_see l G kc ad (sI τ 0 9 (nI aτ)) aτ (by omega) hT7 _) cv_X12_see lk_X12_156 (zp_V C0 hRo hw 0 rfl rfl rfl) rfl hl.1 rfl ⟨by decide, by decide⟩ (Nat.le_of_ble_eq_true rfl) (dk2 dF_182 DX12_step (i := 26) rfl rfl rfl) ⟨Nat.le_refl _, Nat.le_refl _⟩) (fun r8 s8 H locs hp hw => ?_)
          obtain ⟨f8_0, f8_1, hs8⟩ := hp
          (rw [hs8] at hw)
          refine lv_istore_n (lv' := [(1, .int r8), (0, .ref (ad 0))]) hx hb (dkP dF_60 DX12_step (i := 27) rfl rfl) rfl hl (by decide) rfl (fun ls hl => ?_)
          refine lv_iload_n hx hb (dkP dF_27 DX12_step (i := 28) rfl rfl) rfl (lv_at hl 0 rfl) ?_
          refine lv_iconst (v := (-1)) hx hb (dkP dF_2 DX12_step (i := 29) rfl rfl) (by decide) ?_
          refine lv_icmp_ne (tgt := 69) hx hb (dkS dF_160 DX12_step (i := 30) rfl rfl rfl) (by decide) (fun c9 => ?_) (fun c9 => ?_)
          · (try simp (disch := omega) only [ta_lt, ta_le, ta_eq, tnI, tn32 1 (by decide)] at c9)
            refine lv_iload_n hx hb (dkP dF_27 DX12_step (i := 35) rfl rfl) rfl (lv_at hl 0 rfl) ?_
            refine lv_i2l hx hb (dkP dF_133 DX12_step (i := 36) rfl rfl) rfl ?_
            refine lv_ldc2 hx hb hown (hts _ kn_X12_165) (dk2 dF_20 DX12_step (i := 37) rfl rfl rfl) ?_
            refine lv_ldc2 hx hb hown (hts _ kn_X12_167) (dk2 dF_20 DX12_step (i := 38) rfl rfl rfl) ?_
            refine zn_I hw (zr_S (As := [.long r8.toInt64, .long 97, .long 122]) (rest := []) C0 (c_X12_in l G kc r8.toInt64 97 122  _) cs_X12_in lk_X12_9 (zp_P C0 hRo hw a00 s00) rfl hl.1 rfl ⟨by decide, by decide⟩ (Nat.le_of_ble_eq_true rfl) (dk2 dF_184 DX12_step (i := 39) rfl rfl rfl) ⟨Nat.le_refl _, Nat.le_refl _⟩) (fun r10 s10 H locs hp hw => ?_)
            rcases hp with ⟨rfl, hc10⟩ | ⟨rfl, hc10⟩
            · skip
              (try simp (disch := omega) only [ta_lt, ta_le, ta_eq, tb_lt, tb_le, tb_eq, tw, tnI, tn32 1 (by decide), tnj 1 (by decide), tl32 0 (by decide), tl64 0 (by decide), tl32 1 (by decide), tl64 1 (by decide), tl32 10 (by decide), tl64 10 (by decide), tl32 32 (by decide), tl64 32 (by decide), tl32 97 (by decide), tl64 97 (by decide), tl32 122 (by decide), tl64 122 (by decide)] at hc10)
              refine lv_if_eq (tgt := 125) hx hb (dkS dF_153 DX12_step (i := 40) rfl rfl rfl) (by decide) (fun h => absurd h (by decide)) (fun _ => ?_)
              have lp11 : ∀ (nq : Nat) (aρ : Nat) (ρ : Sg) (H : Heap) (locs : List Loc) (ls : Array Slot), 601 - aρ < nq → (ρ.1 0 8 = nI aρ) → (aρ ≤ 600) → (TM ρ) → (fr true [] [8, 9, 10, 11] σ ρ) → St G kc A s.heap shM ad ρ H locs → lv_has ls 2 [(1, .int r8), (0, .ref (ad 0))] → W pr l e { frames := 1, cells := 0, slots := 0, locals := 25 } s m ([.ref (ad 0)] : List Value).toArray below meth c H locs 0 0 (MQ below (va_Qv (fun σ1 => TM σ1 ∧ fr true [] [8, 9, 10, 11] σ σ1) (PoC G kc shM ad A) A) ([.ref (ad 0)] : List Value).toArray s 0 0 A) (F0 m 83 ls []) := by
                intro nq
                induction nq with
                | zero => intro aρ ρ H locs ls hmu; exact absurd hmu (Nat.not_lt_zero _)
                | succ nq ih11 =>
                  intro aρ ρ H locs ls hmu haρ hbρ hT_ρ hF_ρ hw hl
                  refine lv_aload_n hx hb (dkP dF_42 DX12_step (i := 41) rfl rfl) rfl (lv_at hl 1 rfl) ?_
                  refine lv_aload_n hx hb (dkP dF_42 DX12_step (i := 42) rfl rfl) rfl (lv_at hl 1 rfl) ?_
                  refine z_gi C0 hw 0 8 rfl fl_X12_153 (dk2 dF_180 DX12_step (i := 43) rfl rfl rfl) ?_
                  refine z_top (y := (nI aρ)) haρ ?_
                  refine zk_I hw (zr_V (As := [.int (nI aρ)]) (rest := []) C0 (c_X12_see l G kc ad ρ aρ (by omega) hT_ρ _) cv_X12_see lk_X12_156 (zp_V C0 hRo hw 0 rfl rfl rfl) rfl hl.1 rfl ⟨by decide, by decide⟩ (Nat.le_of_ble_eq_true rfl) (dk2 dF_182 DX12_step (i := 44) rfl rfl rfl) ⟨Nat.le_refl _, Nat.le_refl _⟩) (fun r12 s12 H locs hp hw => ?_)
                  obtain ⟨f12_0, f12_1, hs12⟩ := hp
                  (rw [hs12] at hw)
                  refine lv_i2l hx hb (dkP dF_133 DX12_step (i := 45) rfl rfl) rfl ?_
                  refine lv_ldc2 hx hb hown (hts _ kn_X12_165) (dk2 dF_20 DX12_step (i := 46) rfl rfl rfl) ?_
                  refine lv_ldc2 hx hb hown (hts _ kn_X12_167) (dk2 dF_20 DX12_step (i := 47) rfl rfl rfl) ?_
                  refine zn_I hw (zr_S (As := [.long r12.toInt64, .long 97, .long 122]) (rest := []) C0 (c_X12_in l G kc r12.toInt64 97 122  _) cs_X12_in lk_X12_9 (zp_P C0 hRo hw a00 s00) rfl hl.1 rfl ⟨by decide, by decide⟩ (Nat.le_of_ble_eq_true rfl) (dk2 dF_184 DX12_step (i := 48) rfl rfl rfl) ⟨Nat.le_refl _, Nat.le_refl _⟩) (fun r13 s13 H locs hp hw => ?_)
                  rcases hp with ⟨rfl, hc13⟩ | ⟨rfl, hc13⟩
                  · skip
                    (try simp (disch := omega) only [ta_lt, ta_le, ta_eq, tb_lt, tb_le, tb_eq, tw, tnI, tn32 1 (by decide), tnj 1 (by decide), tl32 0 (by decide), tl64 0 (by decide), tl32 1 (by decide), tl64 1 (by decide), tl32 10 (by decide), tl64 10 (by decide), tl32 32 (by decide), tl64 32 (by decide), tl32 97 (by decide), tl64 97 (by decide), tl32 122 (by decide), tl64 122 (by decide)] at hc13)
                    refine lv_if_eq (tgt := 117) hx hb (dkS dF_153 DX12_step (i := 49) rfl rfl rfl) (by decide) (fun h => absurd h (by decide)) (fun _ => ?_)
                    refine lv_aload_n hx hb (dkP dF_42 DX12_step (i := 50) rfl rfl) rfl (lv_at hl 1 rfl) ?_
                    refine lv_dup hx hb (dkP dF_89 DX12_step (i := 51) rfl rfl) rfl ?_
                    refine z_gi C0 hw 0 8 rfl fl_X12_153 (dk2 dF_180 DX12_step (i := 52) rfl rfl rfl) ?_
                    refine z_top (y := (nI aρ)) haρ ?_
                    refine lv_iconst (v := 1) hx hb (dkP dF_4 DX12_step (i := 53) rfl rfl) (by decide) ?_
                    refine lv_iadd hx hb (dkP dF_96 DX12_step (i := 54) rfl rfl) ?_
                    refine z_top (y := nI (aρ + 1)) (by simp only [fa_lit, nI_add, pk_mul]) ?_
                    refine z_pi C0 hw 0 8 rfl fp_X12_153 (dk2 dF_181 DX12_step (i := 55) rfl rfl rfl) (fun H locs hw => ?_)
                    have hT14 : TM (sI ρ 0 8 (nI (aρ + 1))) := TM.w hT_ρ (show 0 ≤ _ ∧ _ ≤ 600 from by have hs7 := (show 0 ≤ (ρ.1 0 7).toInt ∧ (ρ.1 0 7).toInt ≤ 600 from hT_ρ 0 7); have hs7_0 := (show 0 ≤ (τ.1 0 7).toInt ∧ (τ.1 0 7).toInt ≤ 600 from hT_τ 0 7); have hs7_1 := (show 0 ≤ ((sI τ 0 9 (nI aτ)).1 0 7).toInt ∧ ((sI τ 0 9 (nI aτ)).1 0 7).toInt ≤ 600 from hT7 0 7); have hs7_2 := (show 0 ≤ (ρ.1 0 7).toInt ∧ (ρ.1 0 7).toInt ≤ 600 from hT_ρ 0 7); (try simp only [lg_cmp_lt, lg_cmp_le, lg_cmp_gt, lg_cmp_ge, lg_cmp_eq] at f2_0); (try simp (disch := omega) only [ta_lt, ta_le, ta_eq, tb_lt, tb_le, tb_eq, tw, tnI, tsub1, tsv, tn32 1 (by decide), tnj 1 (by decide), tl32 0 (by decide), tl64 0 (by decide), tl32 1 (by decide), tl64 1 (by decide), tl32 10 (by decide), tl64 10 (by decide), tl32 32 (by decide), tl64 32 (by decide), tl32 97 (by decide), tl64 97 (by decide), tl32 122 (by decide), tl64 122 (by decide)] at f2_0); (try simp only [lg_cmp_lt, lg_cmp_le, lg_cmp_gt, lg_cmp_ge, lg_cmp_eq] at f2_1); (try simp (disch := omega) only [ta_lt, ta_le, ta_eq, tb_lt, tb_le, tb_eq, tw, tnI, tsub1, tsv, tn32 1 (by decide), tnj 1 (by decide), tl32 0 (by decide), tl64 0 (by decide), tl32 1 (by decide), tl64 1 (by decide), tl32 10 (by decide), tl64 10 (by decide), tl32 32 (by decide), tl64 32 (by decide), tl32 97 (by decide), tl64 97 (by decide), tl32 122 (by decide), tl64 122 (by decide)] at f2_1); (try simp only [lg_cmp_lt, lg_cmp_le, lg_cmp_gt, lg_cmp_ge, lg_cmp_eq] at c3); (try simp (disch := omega) only [ta_lt, ta_le, ta_eq, tb_lt, tb_le, tb_eq, tw, tnI, tsub1, tsv, tn32 1 (by decide), tnj 1 (by decide), tl32 0 (by decide), tl64 0 (by decide), tl32 1 (by decide), tl64 1 (by decide), tl32 10 (by decide), tl64 10 (by decide), tl32 32 (by decide), tl64 32 (by decide), tl32 97 (by decide), tl64 97 (by decide), tl32 122 (by decide), tl64 122 (by decide)] at c3); (try simp only [lg_cmp_lt, lg_cmp_le, lg_cmp_gt, lg_cmp_ge, lg_cmp_eq] at f5_0); (try simp (disch := omega) only [ta_lt, ta_le, ta_eq, tb_lt, tb_le, tb_eq, tw, tnI, tsub1, tsv, tn32 1 (by decide), tnj 1 (by decide), tl32 0 (by decide), tl64 0 (by decide), tl32 1 (by decide), tl64 1 (by decide), tl32 10 (by decide), tl64 10 (by decide), tl32 32 (by decide), tl64 32 (by decide), tl32 97 (by decide), tl64 97 (by decide), tl32 122 (by decide), tl64 122 (by decide)] at f5_0); (try simp only [lg_cmp_lt, lg_cmp_le, lg_cmp_gt, lg_cmp_ge, lg_cmp_eq] at f5_1); (try simp (disch := omega) only [ta_lt, ta_le, ta_eq, tb_lt, tb_le, tb_eq, tw, tnI, tsub1, tsv, tn32 1 (by decide), tnj 1 (by decide), tl32 0 (by decide), tl64 0 (by decide), tl32 1 (by decide), tl64 1 (by decide), tl32 10 (by decide), tl64 10 (by decide), tl32 32 (by decide), tl64 32 (by decide), tl32 97 (by decide), tl64 97 (by decide), tl32 122 (by decide), tl64 122 (by decide)] at f5_1); (try simp only [lg_cmp_lt, lg_cmp_le, lg_cmp_gt, lg_cmp_ge, lg_cmp_eq] at c6); (try simp (disch := omega) only [ta_lt, ta_le, ta_eq, tb_lt, tb_le, tb_eq, tw, tnI, tsub1, tsv, tn32 1 (by decide), tnj 1 (by decide), tl32 0 (by decide), tl64 0 (by decide), tl32 1 (by decide), tl64 1 (by decide), tl32 10 (by decide), tl64 10 (by decide), tl32 32 (by decide), tl64 32 (by decide), tl32 97 (by decide), tl64 97 (by decide), tl32 122 (by decide), tl64 122 (by decide)] at c6); (try simp only [lg_cmp_lt, lg_cmp_le, lg_cmp_gt, lg_cmp_ge, lg_cmp_eq] at f8_0); (try simp (disch := omega) only [ta_lt, ta_le, ta_eq, tb_lt, tb_le, tb_eq, tw, tnI, tsub1, tsv, tn32 1 (by decide), tnj 1 (by decide), tl32 0 (by decide), tl64 0 (by decide), tl32 1 (by decide), tl64 1 (by decide), tl32 10 (by decide), tl64 10 (by decide), tl32 32 (by decide), tl64 32 (by decide), tl32 97 (by decide), tl64 97 (by decide), tl32 122 (by decide), tl64 122 (by decide)] at f8_0); (try simp only [lg_cmp_lt, lg_cmp_le, lg_cmp_gt, lg_cmp_ge, lg_cmp_eq] at f8_1); (try simp (disch := omega) only [ta_lt, ta_le, ta_eq, tb_lt, tb_le, tb_eq, tw, tnI, tsub1, tsv, tn32 1 (by decide), tnj 1 (by decide), tl32 0 (by decide), tl64 0 (by decide), tl32 1 (by decide), tl64 1 (by decide), tl32 10 (by decide), tl64 10 (by decide), tl32 32 (by decide), tl64 32 (by decide), tl32 97 (by decide), tl64 97 (by decide), tl32 122 (by decide), tl64 122 (by decide)] at f8_1); (try simp only [lg_cmp_lt, lg_cmp_le, lg_cmp_gt, lg_cmp_ge, lg_cmp_eq] at c9); (try simp (disch := omega) only [ta_lt, ta_le, ta_eq, tb_lt, tb_le, tb_eq, tw, tnI, tsub1, tsv, tn32 1 (by decide), tnj 1 (by decide), tl32 0 (by decide), tl64 0 (by decide), tl32 1 (by decide), tl64 1 (by decide), tl32 10 (by decide), tl64 10 (by decide), tl32 32 (by decide), tl64 32 (by decide), tl32 97 (by decide), tl64 97 (by decide), tl32 122 (by decide), tl64 122 (by decide)] at c9); (try simp only [lg_cmp_lt, lg_cmp_le, lg_cmp_gt, lg_cmp_ge, lg_cmp_eq] at hc10); (try simp (disch := omega) only [ta_lt, ta_le, ta_eq, tb_lt, tb_le, tb_eq, tw, tnI, tsub1, tsv, tn32 1 (by decide), tnj 1 (by decide), tl32 0 (by decide), tl64 0 (by decide), tl32 1 (by decide), tl64 1 (by decide), tl32 10 (by decide), tl64 10 (by decide), tl32 32 (by decide), tl64 32 (by decide), tl32 97 (by decide), tl64 97 (by decide), tl32 122 (by decide), tl64 122 (by decide)] at hc10); (try simp only [lg_cmp_lt, lg_cmp_le, lg_cmp_gt, lg_cmp_ge, lg_cmp_eq] at f12_0); (try simp (disch := omega) only [ta_lt, ta_le, ta_eq, tb_lt, tb_le, tb_eq, tw, tnI, tsub1, tsv, tn32 1 (by decide), tnj 1 (by decide), tl32 0 (by decide), tl64 0 (by decide), tl32 1 (by decide), tl64 1 (by decide), tl32 10 (by decide), tl64 10 (by decide), tl32 32 (by decide), tl64 32 (by decide), tl32 97 (by decide), tl64 97 (by decide), tl32 122 (by decide), tl64 122 (by decide)] at f12_0); (try simp only [lg_cmp_lt, lg_cmp_le, lg_cmp_gt, lg_cmp_ge, lg_cmp_eq] at f12_1); (try simp (disch := omega) only [ta_lt, ta_le, ta_eq, tb_lt, tb_le, tb_eq, tw, tnI, tsub1, tsv, tn32 1 (by decide), tnj 1 (by decide), tl32 0 (by decide), tl64 0 (by decide), tl32 1 (by decide), tl64 1 (by decide), tl32 10 (by decide), tl64 10 (by decide), tl32 32 (by decide), tl64 32 (by decide), tl32 97 (by decide), tl64 97 (by decide), tl32 122 (by decide), tl64 122 (by decide)] at f12_1); (try simp only [lg_cmp_lt, lg_cmp_le, lg_cmp_gt, lg_cmp_ge, lg_cmp_eq] at hc13); (try simp (disch := omega) only [ta_lt, ta_le, ta_eq, tb_lt, tb_le, tb_eq, tw, tnI, tsub1, tsv, tn32 1 (by decide), tnj 1 (by decide), tl32 0 (by decide), tl64 0 (by decide), tl32 1 (by decide), tl64 1 (by decide), tl32 10 (by decide), tl64 10 (by decide), tl32 32 (by decide), tl64 32 (by decide), tl32 97 (by decide), tl64 97 (by decide), tl32 122 (by decide), tl64 122 (by decide)] at hc13); (try simp (disch := omega) only [ta_lt, ta_le, ta_eq, tb_lt, tb_le, tb_eq, tw, tnI, tsub1, tsv, tn32 1 (by decide), tnj 1 (by decide), tl32 0 (by decide), tl64 0 (by decide), tl32 1 (by decide), tl64 1 (by decide), tl32 10 (by decide), tl64 10 (by decide), tl32 32 (by decide), tl64 32 (by decide), tl32 97 (by decide), tl64 97 (by decide), tl32 122 (by decide), tl64 122 (by decide)]); omega)
                    have hF14 : fr true [] [8, 9, 10, 11] σ (sI ρ 0 8 (nI (aρ + 1))) := fr.w hF_ρ (Or.inr ⟨rfl, by decide⟩) (fun _ h => absurd h (by decide))
                    refine lv_goto (tgt := 83) hx hb (dkS dF_167 DX12_step (i := 56) rfl rfl rfl) (by decide) ?_
                    exact ih11 (aρ + 1) (sI ρ 0 8 (nI (aρ + 1))) _ _ _ (by omega) rd_s (by have hs7_0 := (show 0 ≤ (τ.1 0 7).toInt ∧ (τ.1 0 7).toInt ≤ 600 from hT_τ 0 7); have hs7_1 := (show 0 ≤ ((sI τ 0 9 (nI aτ)).1 0 7).toInt ∧ ((sI τ 0 9 (nI aτ)).1 0 7).toInt ≤ 600 from hT7 0 7); have hs7_2 := (show 0 ≤ (ρ.1 0 7).toInt ∧ (ρ.1 0 7).toInt ≤ 600 from hT_ρ 0 7); (try simp only [lg_cmp_lt, lg_cmp_le, lg_cmp_gt, lg_cmp_ge, lg_cmp_eq] at f2_0); (try simp (disch := omega) only [ta_lt, ta_le, ta_eq, tb_lt, tb_le, tb_eq, tw, tnI, tsub1, tsv, tn32 1 (by decide), tnj 1 (by decide), tl32 0 (by decide), tl64 0 (by decide), tl32 1 (by decide), tl64 1 (by decide), tl32 10 (by decide), tl64 10 (by decide), tl32 32 (by decide), tl64 32 (by decide), tl32 97 (by decide), tl64 97 (by decide), tl32 122 (by decide), tl64 122 (by decide)] at f2_0); (try simp only [lg_cmp_lt, lg_cmp_le, lg_cmp_gt, lg_cmp_ge, lg_cmp_eq] at f2_1); (try simp (disch := omega) only [ta_lt, ta_le, ta_eq, tb_lt, tb_le, tb_eq, tw, tnI, tsub1, tsv, tn32 1 (by decide), tnj 1 (by decide), tl32 0 (by decide), tl64 0 (by decide), tl32 1 (by decide), tl64 1 (by decide), tl32 10 (by decide), tl64 10 (by decide), tl32 32 (by decide), tl64 32 (by decide), tl32 97 (by decide), tl64 97 (by decide), tl32 122 (by decide), tl64 122 (by decide)] at f2_1); (try simp only [lg_cmp_lt, lg_cmp_le, lg_cmp_gt, lg_cmp_ge, lg_cmp_eq] at c3); (try simp (disch := omega) only [ta_lt, ta_le, ta_eq, tb_lt, tb_le, tb_eq, tw, tnI, tsub1, tsv, tn32 1 (by decide), tnj 1 (by decide), tl32 0 (by decide), tl64 0 (by decide), tl32 1 (by decide), tl64 1 (by decide), tl32 10 (by decide), tl64 10 (by decide), tl32 32 (by decide), tl64 32 (by decide), tl32 97 (by decide), tl64 97 (by decide), tl32 122 (by decide), tl64 122 (by decide)] at c3); (try simp only [lg_cmp_lt, lg_cmp_le, lg_cmp_gt, lg_cmp_ge, lg_cmp_eq] at f5_0); (try simp (disch := omega) only [ta_lt, ta_le, ta_eq, tb_lt, tb_le, tb_eq, tw, tnI, tsub1, tsv, tn32 1 (by decide), tnj 1 (by decide), tl32 0 (by decide), tl64 0 (by decide), tl32 1 (by decide), tl64 1 (by decide), tl32 10 (by decide), tl64 10 (by decide), tl32 32 (by decide), tl64 32 (by decide), tl32 97 (by decide), tl64 97 (by decide), tl32 122 (by decide), tl64 122 (by decide)] at f5_0); (try simp only [lg_cmp_lt, lg_cmp_le, lg_cmp_gt, lg_cmp_ge, lg_cmp_eq] at f5_1); (try simp (disch := omega) only [ta_lt, ta_le, ta_eq, tb_lt, tb_le, tb_eq, tw, tnI, tsub1, tsv, tn32 1 (by decide), tnj 1 (by decide), tl32 0 (by decide), tl64 0 (by decide), tl32 1 (by decide), tl64 1 (by decide), tl32 10 (by decide), tl64 10 (by decide), tl32 32 (by decide), tl64 32 (by decide), tl32 97 (by decide), tl64 97 (by decide), tl32 122 (by decide), tl64 122 (by decide)] at f5_1); (try simp only [lg_cmp_lt, lg_cmp_le, lg_cmp_gt, lg_cmp_ge, lg_cmp_eq] at c6); (try simp (disch := omega) only [ta_lt, ta_le, ta_eq, tb_lt, tb_le, tb_eq, tw, tnI, tsub1, tsv, tn32 1 (by decide), tnj 1 (by decide), tl32 0 (by decide), tl64 0 (by decide), tl32 1 (by decide), tl64 1 (by decide), tl32 10 (by decide), tl64 10 (by decide), tl32 32 (by decide), tl64 32 (by decide), tl32 97 (by decide), tl64 97 (by decide), tl32 122 (by decide), tl64 122 (by decide)] at c6); (try simp only [lg_cmp_lt, lg_cmp_le, lg_cmp_gt, lg_cmp_ge, lg_cmp_eq] at f8_0); (try simp (disch := omega) only [ta_lt, ta_le, ta_eq, tb_lt, tb_le, tb_eq, tw, tnI, tsub1, tsv, tn32 1 (by decide), tnj 1 (by decide), tl32 0 (by decide), tl64 0 (by decide), tl32 1 (by decide), tl64 1 (by decide), tl32 10 (by decide), tl64 10 (by decide), tl32 32 (by decide), tl64 32 (by decide), tl32 97 (by decide), tl64 97 (by decide), tl32 122 (by decide), tl64 122 (by decide)] at f8_0); (try simp only [lg_cmp_lt, lg_cmp_le, lg_cmp_gt, lg_cmp_ge, lg_cmp_eq] at f8_1); (try simp (disch := omega) only [ta_lt, ta_le, ta_eq, tb_lt, tb_le, tb_eq, tw, tnI, tsub1, tsv, tn32 1 (by decide), tnj 1 (by decide), tl32 0 (by decide), tl64 0 (by decide), tl32 1 (by decide), tl64 1 (by decide), tl32 10 (by decide), tl64 10 (by decide), tl32 32 (by decide), tl64 32 (by decide), tl32 97 (by decide), tl64 97 (by decide), tl32 122 (by decide), tl64 122 (by decide)] at f8_1); (try simp only [lg_cmp_lt, lg_cmp_le, lg_cmp_gt, lg_cmp_ge, lg_cmp_eq] at c9); (try simp (disch := omega) only [ta_lt, ta_le, ta_eq, tb_lt, tb_le, tb_eq, tw, tnI, tsub1, tsv, tn32 1 (by decide), tnj 1 (by decide), tl32 0 (by decide), tl64 0 (by decide), tl32 1 (by decide), tl64 1 (by decide), tl32 10 (by decide), tl64 10 (by decide), tl32 32 (by decide), tl64 32 (by decide), tl32 97 (by decide), tl64 97 (by decide), tl32 122 (by decide), tl64 122 (by decide)] at c9); (try simp only [lg_cmp_lt, lg_cmp_le, lg_cmp_gt, lg_cmp_ge, lg_cmp_eq] at hc10); (try simp (disch := omega) only [ta_lt, ta_le, ta_eq, tb_lt, tb_le, tb_eq, tw, tnI, tsub1, tsv, tn32 1 (by decide), tnj 1 (by decide), tl32 0 (by decide), tl64 0 (by decide), tl32 1 (by decide), tl64 1 (by decide), tl32 10 (by decide), tl64 10 (by decide), tl32 32 (by decide), tl64 32 (by decide), tl32 97 (by decide), tl64 97 (by decide), tl32 122 (by decide), tl64 122 (by decide)] at hc10); (try simp only [lg_cmp_lt, lg_cmp_le, lg_cmp_gt, lg_cmp_ge, lg_cmp_eq] at f12_0); (try simp (disch := omega) only [ta_lt, ta_le, ta_eq, tb_lt, tb_le, tb_eq, tw, tnI, tsub1, tsv, tn32 1 (by decide), tnj 1 (by decide), tl32 0 (by decide), tl64 0 (by decide), tl32 1 (by decide), tl64 1 (by decide), tl32 10 (by decide), tl64 10 (by decide), tl32 32 (by decide), tl64 32 (by decide), tl32 97 (by decide), tl64 97 (by decide), tl32 122 (by decide), tl64 122 (by decide)] at f12_0); (try simp only [lg_cmp_lt, lg_cmp_le, lg_cmp_gt, lg_cmp_ge, lg_cmp_eq] at f12_1); (try simp (disch := omega) only [ta_lt, ta_le, ta_eq, tb_lt, tb_le, tb_eq, tw, tnI, tsub1, tsv, tn32 1 (by decide), tnj 1 (by decide), tl32 0 (by decide), tl64 0 (by decide), tl32 1 (by decide), tl64 1 (by decide), tl32 10 (by decide), tl64 10 (by decide), tl32 32 (by decide), tl64 32 (by decide), tl32 97 (by decide), tl64 97 (by decide), tl32 122 (by decide), tl64 122 (by decide)] at f12_1); (try simp only [lg_cmp_lt, lg_cmp_le, lg_cmp_gt, lg_cmp_ge, lg_cmp_eq] at hc13); (try simp (disch := omega) only [ta_lt, ta_le, ta_eq, tb_lt, tb_le, tb_eq, tw, tnI, tsub1, tsv, tn32 1 (by decide), tnj 1 (by decide), tl32 0 (by decide), tl64 0 (by decide), tl32 1 (by decide), tl64 1 (by decide), tl32 10 (by decide), tl64 10 (by decide), tl32 32 (by decide), tl64 32 (by decide), tl32 97 (by decide), tl64 97 (by decide), tl32 122 (by decide), tl64 122 (by decide)] at hc13); (try simp (disch := omega) only [ta_lt, ta_le, ta_eq, tb_lt, tb_le, tb_eq, tw, tnI, tsub1, tsv, tn32 1 (by decide), tnj 1 (by decide), tl32 0 (by decide), tl64 0 (by decide), tl32 1 (by decide), tl64 1 (by decide), tl32 10 (by decide), tl64 10 (by decide), tl32 32 (by decide), tl64 32 (by decide), tl32 97 (by decide), tl64 97 (by decide), tl32 122 (by decide), tl64 122 (by decide)]); omega) hT14 hF14 hw (lv_sub hl [0, 1] rfl)
                  · skip
                    (try simp (disch := omega) only [ta_lt, ta_le, ta_eq, tb_lt, tb_le, tb_eq, tw, tnI, tn32 1 (by decide), tnj 1 (by decide), tl32 0 (by decide), tl64 0 (by decide), tl32 1 (by decide), tl64 1 (by decide), tl32 10 (by decide), tl64 10 (by decide), tl32 32 (by decide), tl64 32 (by decide), tl32 97 (by decide), tl64 97 (by decide), tl32 122 (by decide), tl64 122 (by decide)] at hc13)
                    refine lv_if_eq (tgt := 117) hx hb (dkS dF_153 DX12_step (i := 49) rfl rfl rfl) (by decide) (fun _ => ?_) (fun h => absurd h (by decide))
                    refine lv_aload_n hx hb (dkP dF_42 DX12_step (i := 57) rfl rfl) rfl (lv_at hl 1 rfl) ?_
                    refine lv_iconst (v := 1) hx hb (dkP dF_4 DX12_step (i := 58) rfl rfl) (by decide) ?_
                    refine z_pi C0 hw 0 10 rfl fp_X12_162 (dk2 dF_181 DX12_step (i := 59) rfl rfl rfl) (fun H locs hw => ?_)
                    have hT15 : TM (sI ρ 0 10 1) := TM.w hT_ρ (show True from trivial)
                    have hF15 : fr true [] [8, 9, 10, 11] σ (sI ρ 0 10 1) := fr.w hF_ρ (Or.inr ⟨rfl, by decide⟩) (fun _ h => absurd h (by decide))
                    refine lv_goto (tgt := 245) hx hb (dkS dF_167 DX12_step (i := 60) rfl rfl rfl) (by decide) ?_
                    exact z_vret C0 hr hlk hw (⟨hT15, hF15⟩) (dkP dF_177 DX12_step (i := 122) rfl rfl)
              exact lp11 _ aτ (sI τ 0 9 (nI aτ)) _ _ _ (Nat.lt_succ_self _) ((rd_n (by omega)).trans haτ) (by have hs7_0 := (show 0 ≤ (τ.1 0 7).toInt ∧ (τ.1 0 7).toInt ≤ 600 from hT_τ 0 7); have hs7_1 := (show 0 ≤ ((sI τ 0 9 (nI aτ)).1 0 7).toInt ∧ ((sI τ 0 9 (nI aτ)).1 0 7).toInt ≤ 600 from hT7 0 7); (try simp only [lg_cmp_lt, lg_cmp_le, lg_cmp_gt, lg_cmp_ge, lg_cmp_eq] at f2_0); (try simp (disch := omega) only [ta_lt, ta_le, ta_eq, tb_lt, tb_le, tb_eq, tw, tnI, tsub1, tsv, tn32 1 (by decide), tnj 1 (by decide), tl32 0 (by decide), tl64 0 (by decide), tl32 1 (by decide), tl64 1 (by decide), tl32 10 (by decide), tl64 10 (by decide), tl32 32 (by decide), tl64 32 (by decide), tl32 97 (by decide), tl64 97 (by decide), tl32 122 (by decide), tl64 122 (by decide)] at f2_0); (try simp only [lg_cmp_lt, lg_cmp_le, lg_cmp_gt, lg_cmp_ge, lg_cmp_eq] at f2_1); (try simp (disch := omega) only [ta_lt, ta_le, ta_eq, tb_lt, tb_le, tb_eq, tw, tnI, tsub1, tsv, tn32 1 (by decide), tnj 1 (by decide), tl32 0 (by decide), tl64 0 (by decide), tl32 1 (by decide), tl64 1 (by decide), tl32 10 (by decide), tl64 10 (by decide), tl32 32 (by decide), tl64 32 (by decide), tl32 97 (by decide), tl64 97 (by decide), tl32 122 (by decide), tl64 122 (by decide)] at f2_1); (try simp only [lg_cmp_lt, lg_cmp_le, lg_cmp_gt, lg_cmp_ge, lg_cmp_eq] at c3); (try simp (disch := omega) only [ta_lt, ta_le, ta_eq, tb_lt, tb_le, tb_eq, tw, tnI, tsub1, tsv, tn32 1 (by decide), tnj 1 (by decide), tl32 0 (by decide), tl64 0 (by decide), tl32 1 (by decide), tl64 1 (by decide), tl32 10 (by decide), tl64 10 (by decide), tl32 32 (by decide), tl64 32 (by decide), tl32 97 (by decide), tl64 97 (by decide), tl32 122 (by decide), tl64 122 (by decide)] at c3); (try simp only [lg_cmp_lt, lg_cmp_le, lg_cmp_gt, lg_cmp_ge, lg_cmp_eq] at f5_0); (try simp (disch := omega) only [ta_lt, ta_le, ta_eq, tb_lt, tb_le, tb_eq, tw, tnI, tsub1, tsv, tn32 1 (by decide), tnj 1 (by decide), tl32 0 (by decide), tl64 0 (by decide), tl32 1 (by decide), tl64 1 (by decide), tl32 10 (by decide), tl64 10 (by decide), tl32 32 (by decide), tl64 32 (by decide), tl32 97 (by decide), tl64 97 (by decide), tl32 122 (by decide), tl64 122 (by decide)] at f5_0); (try simp only [lg_cmp_lt, lg_cmp_le, lg_cmp_gt, lg_cmp_ge, lg_cmp_eq] at f5_1); (try simp (disch := omega) only [ta_lt, ta_le, ta_eq, tb_lt, tb_le, tb_eq, tw, tnI, tsub1, tsv, tn32 1 (by decide), tnj 1 (by decide), tl32 0 (by decide), tl64 0 (by decide), tl32 1 (by decide), tl64 1 (by decide), tl32 10 (by decide), tl64 10 (by decide), tl32 32 (by decide), tl64 32 (by decide), tl32 97 (by decide), tl64 97 (by decide), tl32 122 (by decide), tl64 122 (by decide)] at f5_1); (try simp only [lg_cmp_lt, lg_cmp_le, lg_cmp_gt, lg_cmp_ge, lg_cmp_eq] at c6); (try simp (disch := omega) only [ta_lt, ta_le, ta_eq, tb_lt, tb_le, tb_eq, tw, tnI, tsub1, tsv, tn32 1 (by decide), tnj 1 (by decide), tl32 0 (by decide), tl64 0 (by decide), tl32 1 (by decide), tl64 1 (by decide), tl32 10 (by decide), tl64 10 (by decide), tl32 32 (by decide), tl64 32 (by decide), tl32 97 (by decide), tl64 97 (by decide), tl32 122 (by decide), tl64 122 (by decide)] at c6); (try simp only [lg_cmp_lt, lg_cmp_le, lg_cmp_gt, lg_cmp_ge, lg_cmp_eq] at f8_0); (try simp (disch := omega) only [ta_lt, ta_le, ta_eq, tb_lt, tb_le, tb_eq, tw, tnI, tsub1, tsv, tn32 1 (by decide), tnj 1 (by decide), tl32 0 (by decide), tl64 0 (by decide), tl32 1 (by decide), tl64 1 (by decide), tl32 10 (by decide), tl64 10 (by decide), tl32 32 (by decide), tl64 32 (by decide), tl32 97 (by decide), tl64 97 (by decide), tl32 122 (by decide), tl64 122 (by decide)] at f8_0); (try simp only [lg_cmp_lt, lg_cmp_le, lg_cmp_gt, lg_cmp_ge, lg_cmp_eq] at f8_1); (try simp (disch := omega) only [ta_lt, ta_le, ta_eq, tb_lt, tb_le, tb_eq, tw, tnI, tsub1, tsv, tn32 1 (by decide), tnj 1 (by decide), tl32 0 (by decide), tl64 0 (by decide), tl32 1 (by decide), tl64 1 (by decide), tl32 10 (by decide), tl64 10 (by decide), tl32 32 (by decide), tl64 32 (by decide), tl32 97 (by decide), tl64 97 (by decide), tl32 122 (by decide), tl64 122 (by decide)] at f8_1); (try simp only [lg_cmp_lt, lg_cmp_le, lg_cmp_gt, lg_cmp_ge, lg_cmp_eq] at c9); (try simp (disch := omega) only [ta_lt, ta_le, ta_eq, tb_lt, tb_le, tb_eq, tw, tnI, tsub1, tsv, tn32 1 (by decide), tnj 1 (by decide), tl32 0 (by decide), tl64 0 (by decide), tl32 1 (by decide), tl64 1 (by decide), tl32 10 (by decide), tl64 10 (by decide), tl32 32 (by decide), tl64 32 (by decide), tl32 97 (by decide), tl64 97 (by decide), tl32 122 (by decide), tl64 122 (by decide)] at c9); (try simp only [lg_cmp_lt, lg_cmp_le, lg_cmp_gt, lg_cmp_ge, lg_cmp_eq] at hc10); (try simp (disch := omega) only [ta_lt, ta_le, ta_eq, tb_lt, tb_le, tb_eq, tw, tnI, tsub1, tsv, tn32 1 (by decide), tnj 1 (by decide), tl32 0 (by decide), tl64 0 (by decide), tl32 1 (by decide), tl64 1 (by decide), tl32 10 (by decide), tl64 10 (by decide), tl32 32 (by decide), tl64 32 (by decide), tl32 97 (by decide), tl64 97 (by decide), tl32 122 (by decide), tl64 122 (by decide)] at hc10); (try simp (disch := omega) only [ta_lt, ta_le, ta_eq, tb_lt, tb_le, tb_eq, tw, tnI, tsub1, tsv, tn32 1 (by decide), tnj 1 (by decide), tl32 0 (by decide), tl64 0 (by decide), tl32 1 (by decide), tl64 1 (by decide), tl32 10 (by decide), tl64 10 (by decide), tl32 32 (by decide), tl64 32 (by decide), tl32 97 (by decide), tl64 97 (by decide), tl32 122 (by decide), tl64 122 (by decide)]); omega) hT7 hF7 hw (lv_sub hl [0, 1] rfl)
            · skip
              (try simp (disch := omega) only [ta_lt, ta_le, ta_eq, tb_lt, tb_le, tb_eq, tw, tnI, tn32 1 (by decide), tnj 1 (by decide), tl32 0 (by decide), tl64 0 (by decide), tl32 1 (by decide), tl64 1 (by decide), tl32 10 (by decide), tl64 10 (by decide), tl32 32 (by decide), tl64 32 (by decide), tl32 97 (by decide), tl64 97 (by decide), tl32 122 (by decide), tl64 122 (by decide)] at hc10)
              refine lv_if_eq (tgt := 125) hx hb (dkS dF_153 DX12_step (i := 40) rfl rfl rfl) (by decide) (fun _ => ?_) (fun h => absurd h (by decide))
              refine lv_iload_n hx hb (dkP dF_27 DX12_step (i := 61) rfl rfl) rfl (lv_at hl 0 rfl) ?_
              refine lv_i2l hx hb (dkP dF_133 DX12_step (i := 62) rfl rfl) rfl ?_
              refine lv_ldc2 hx hb hown (hts _ kn_X12_169) (dk2 dF_20 DX12_step (i := 63) rfl rfl rfl) ?_
              refine lv_ldc2 hx hb hown (hts _ kn_X12_171) (dk2 dF_20 DX12_step (i := 64) rfl rfl rfl) ?_
              refine zn_I hw (zr_S (As := [.long r8.toInt64, .long 48, .long 57]) (rest := []) C0 (c_X12_in l G kc r8.toInt64 48 57  _) cs_X12_in lk_X12_9 (zp_P C0 hRo hw a00 s00) rfl hl.1 rfl ⟨by decide, by decide⟩ (Nat.le_of_ble_eq_true rfl) (dk2 dF_184 DX12_step (i := 65) rfl rfl rfl) ⟨Nat.le_refl _, Nat.le_refl _⟩) (fun r16 s16 H locs hp hw => ?_)
              rcases hp with ⟨rfl, hc16⟩ | ⟨rfl, hc16⟩
              · skip
                (try simp (disch := omega) only [ta_lt, ta_le, ta_eq, tb_lt, tb_le, tb_eq, tw, tnI, tn32 1 (by decide), tnj 1 (by decide), tl32 0 (by decide), tl64 0 (by decide), tl32 1 (by decide), tl64 1 (by decide), tl32 10 (by decide), tl64 10 (by decide), tl32 32 (by decide), tl64 32 (by decide), tl32 48 (by decide), tl64 48 (by decide), tl32 57 (by decide), tl64 57 (by decide), tl32 97 (by decide), tl64 97 (by decide), tl32 122 (by decide), tl64 122 (by decide)] at hc16)
                refine lv_if_eq (tgt := 214) hx hb (dkS dF_153 DX12_step (i := 66) rfl rfl rfl) (by decide) (fun h => absurd h (by decide)) (fun _ => ?_)
                refine lv_aload_n hx hb (dkP dF_42 DX12_step (i := 67) rfl rfl) rfl (lv_at hl 1 rfl) ?_
                refine lv_iconst (v := 0) hx hb (dkP dF_3 DX12_step (i := 68) rfl rfl) (by decide) ?_
                refine z_pi C0 hw 0 11 rfl fp_X12_173 (dk2 dF_181 DX12_step (i := 69) rfl rfl rfl) (fun H locs hw => ?_)
                have hT17 : TM (sI (sI τ 0 9 (nI aτ)) 0 11 0) := TM.w hT7 (show True from trivial)
                have hF17 : fr true [] [8, 9, 10, 11] σ (sI (sI τ 0 9 (nI aτ)) 0 11 0) := fr.w hF7 (Or.inr ⟨rfl, by decide⟩) (fun _ h => absurd h (by decide))
                have lp18 : ∀ (nq : Nat) (aπ : Nat) (π : Sg) (H : Heap) (locs : List Loc) (ls : Array Slot), 601 - aπ < nq → (π.1 0 8 = nI aπ) → (aπ ≤ 600) → (TM π) → (fr true [] [8, 9, 10, 11] σ π) → St G kc A s.heap shM ad π H locs → lv_has ls 2 [(1, .int r8), (0, .ref (ad 0))] → W pr l e { frames := 1, cells := 0, slots := 0, locals := 25 } s m ([.ref (ad 0)] : List Value).toArray below meth c H locs 0 0 (MQ below (va_Qv (fun σ1 => TM σ1 ∧ fr true [] [8, 9, 10, 11] σ σ1) (PoC G kc shM ad A) A) ([.ref (ad 0)] : List Value).toArray s 0 0 A) (F0 m 144 ls []) := by
                  intro nq
                  induction nq with
                  | zero => intro aπ π H locs ls hmu; exact absurd hmu (Nat.not_lt_zero _)
                  | succ nq ih18 =>
                    intro aπ π H locs ls hmu haπ hbπ hT_π hF_π hw hl
                    refine lv_aload_n hx hb (dkP dF_42 DX12_step (i := 70) rfl rfl) rfl (lv_at hl 1 rfl) ?_
                    refine lv_aload_n hx hb (dkP dF_42 DX12_step (i := 71) rfl rfl) rfl (lv_at hl 1 rfl) ?_
                    refine z_gi C0 hw 0 8 rfl fl_X12_153 (dk2 dF_180 DX12_step (i := 72) rfl rfl rfl) ?_
                    refine z_top (y := (nI aπ)) haπ ?_
                    refine zk_I hw (zr_V (As := [.int (nI aπ)]) (rest := []) C0 (c_X12_see l G kc ad π aπ (by omega) hT_π _) cv_X12_see lk_X12_156 (zp_V C0 hRo hw 0 rfl rfl rfl) rfl hl.1 rfl ⟨by decide, by decide⟩ (Nat.le_of_ble_eq_true rfl) (dk2 dF_182 DX12_step (i := 73) rfl rfl rfl) ⟨Nat.le_refl _, Nat.le_refl _⟩) (fun r19 s19 H locs hp hw => ?_)
                    obtain ⟨f19_0, f19_1, hs19⟩ := hp
                    (rw [hs19] at hw)
                    refine lv_i2l hx hb (dkP dF_133 DX12_step (i := 74) rfl rfl) rfl ?_
                    refine lv_ldc2 hx hb hown (hts _ kn_X12_169) (dk2 dF_20 DX12_step (i := 75) rfl rfl rfl) ?_
                    refine lv_ldc2 hx hb hown (hts _ kn_X12_171) (dk2 dF_20 DX12_step (i := 76) rfl rfl rfl) ?_
                    refine zn_I hw (zr_S (As := [.long r19.toInt64, .long 48, .long 57]) (rest := []) C0 (c_X12_in l G kc r19.toInt64 48 57  _) cs_X12_in lk_X12_9 (zp_P C0 hRo hw a00 s00) rfl hl.1 rfl ⟨by decide, by decide⟩ (Nat.le_of_ble_eq_true rfl) (dk2 dF_184 DX12_step (i := 77) rfl rfl rfl) ⟨Nat.le_refl _, Nat.le_refl _⟩) (fun r20 s20 H locs hp hw => ?_)
                    rcases hp with ⟨rfl, hc20⟩ | ⟨rfl, hc20⟩
                    · skip
                      (try simp (disch := omega) only [ta_lt, ta_le, ta_eq, tb_lt, tb_le, tb_eq, tw, tnI, tn32 1 (by decide), tnj 1 (by decide), tl32 0 (by decide), tl64 0 (by decide), tl32 1 (by decide), tl64 1 (by decide), tl32 10 (by decide), tl64 10 (by decide), tl32 32 (by decide), tl64 32 (by decide), tl32 48 (by decide), tl64 48 (by decide), tl32 57 (by decide), tl64 57 (by decide), tl32 97 (by decide), tl64 97 (by decide), tl32 122 (by decide), tl64 122 (by decide)] at hc20)
                      refine lv_if_eq (tgt := 206) hx hb (dkS dF_153 DX12_step (i := 78) rfl rfl rfl) (by decide) (fun h => absurd h (by decide)) (fun _ => ?_)
                      refine lv_aload_n hx hb (dkP dF_42 DX12_step (i := 79) rfl rfl) rfl (lv_at hl 1 rfl) ?_
                      refine lv_ldc hx hb hown (hts _ kn_X12_176) (dk1 dF_18 DX12_step (i := 80) rfl rfl rfl) ?_
                      refine lv_bipush (v := 10) hx hb (dks dF_16 DX12_step (i := 81) rfl rfl rfl) (by decide) ?_
                      refine lv_aload_n hx hb (dkP dF_42 DX12_step (i := 82) rfl rfl) rfl (lv_at hl 1 rfl) ?_
                      refine z_gi C0 hw 0 11 rfl fl_X12_173 (dk2 dF_180 DX12_step (i := 83) rfl rfl rfl) ?_
                      obtain ⟨v21, ev21⟩ : ∃ y : Int32, π.1 0 11 = y := ⟨_, rfl⟩
                      refine z_top (y := v21) ev21 ?_
                      refine lv_imul hx hb (dkP dF_104 DX12_step (i := 84) rfl rfl) ?_
                      refine lv_aload_n hx hb (dkP dF_42 DX12_step (i := 85) rfl rfl) rfl (lv_at hl 1 rfl) ?_
                      refine lv_aload_n hx hb (dkP dF_42 DX12_step (i := 86) rfl rfl) rfl (lv_at hl 1 rfl) ?_
                      refine z_gi C0 hw 0 8 rfl fl_X12_153 (dk2 dF_180 DX12_step (i := 87) rfl rfl rfl) ?_
                      refine z_top (y := (nI aπ)) haπ ?_
                      refine zk_I hw (zr_V (As := [.int (nI aπ)]) (rest := [.int (10 * v21), .int 99999, .ref (ad 0)]) C0 (c_X12_see l G kc ad π aπ (by omega) hT_π _) cv_X12_see lk_X12_156 (zp_V C0 hRo hw 0 rfl rfl rfl) rfl hl.1 rfl ⟨by decide, by decide⟩ (Nat.le_of_ble_eq_true rfl) (dk2 dF_182 DX12_step (i := 88) rfl rfl rfl) ⟨Nat.le_refl _, Nat.le_refl _⟩) (fun r22 s22 H locs hp hw => ?_)
                      obtain ⟨f22_0, f22_1, hs22⟩ := hp
                      (rw [hs22] at hw)
                      refine lv_iadd hx hb (dkP dF_96 DX12_step (i := 89) rfl rfl) ?_
                      refine lv_bipush (v := 48) hx hb (dks dF_16 DX12_step (i := 90) rfl rfl rfl) (by decide) ?_
                      refine lv_isub hx hb (dkP dF_100 DX12_step (i := 91) rfl rfl) ?_
                      refine zn_I hw (zr_S (As := [.int 99999, .int (((10 * v21) + r22) - 48)]) (rest := [.ref (ad 0)]) C0 (c_J9_min_7cf53 l G kc 99999 (((10 * v21) + r22) - 48)  _) cs_J9_min_7cf53 lk_X12_177 (zp_P C0 hRo hw a00 s00) rfl hl.1 rfl ⟨by decide, by decide⟩ (Nat.le_of_ble_eq_true rfl) (dk2 dF_184 DX12_step (i := 92) rfl rfl rfl) ⟨Nat.le_refl _, Nat.le_refl _⟩) (fun r23 s23 H locs hp hw => ?_)
                      refine z_pi C0 hw 0 11 rfl fp_X12_173 (dk2 dF_181 DX12_step (i := 93) rfl rfl rfl) (fun H locs hw => ?_)
                      have hT24 : TM (sI π 0 11 r23) := TM.w hT_π (show True from trivial)
                      have hF24 : fr true [] [8, 9, 10, 11] σ (sI π 0 11 r23) := fr.w hF_π (Or.inr ⟨rfl, by decide⟩) (fun _ h => absurd h (by decide))
                      refine lv_aload_n hx hb (dkP dF_42 DX12_step (i := 94) rfl rfl) rfl (lv_at hl 1 rfl) ?_
                      refine lv_dup hx hb (dkP dF_89 DX12_step (i := 95) rfl rfl) rfl ?_
                      refine z_gi C0 hw 0 8 rfl fl_X12_153 (dk2 dF_180 DX12_step (i := 96) rfl rfl rfl) ?_
                      refine z_top (y := (nI aπ)) ((rd_n (by omega)).trans haπ) ?_
                      refine lv_iconst (v := 1) hx hb (dkP dF_4 DX12_step (i := 97) rfl rfl) (by decide) ?_
                      refine lv_iadd hx hb (dkP dF_96 DX12_step (i := 98) rfl rfl) ?_
                      refine z_top (y := nI (aπ + 1)) (by simp only [fa_lit, nI_add, pk_mul]) ?_
                      refine z_pi C0 hw 0 8 rfl fp_X12_153 (dk2 dF_181 DX12_step (i := 99) rfl rfl rfl) (fun H locs hw => ?_)
                      have hT25 : TM (sI (sI π 0 11 r23) 0 8 (nI (aπ + 1))) := TM.w hT24 (show 0 ≤ _ ∧ _ ≤ 600 from by have hs7 := (show 0 ≤ ((sI π 0 11 r23).1 0 7).toInt ∧ ((sI π 0 11 r23).1 0 7).toInt ≤ 600 from hT24 0 7); have hs7_0 := (show 0 ≤ (τ.1 0 7).toInt ∧ (τ.1 0 7).toInt ≤ 600 from hT_τ 0 7); have hs7_1 := (show 0 ≤ ((sI τ 0 9 (nI aτ)).1 0 7).toInt ∧ ((sI τ 0 9 (nI aτ)).1 0 7).toInt ≤ 600 from hT7 0 7); have hs7_2 := (show 0 ≤ (π.1 0 7).toInt ∧ (π.1 0 7).toInt ≤ 600 from hT_π 0 7); (try simp only [lg_cmp_lt, lg_cmp_le, lg_cmp_gt, lg_cmp_ge, lg_cmp_eq] at f2_0); (try simp (disch := omega) only [ta_lt, ta_le, ta_eq, tb_lt, tb_le, tb_eq, tw, tnI, tsub1, tsv, tn32 1 (by decide), tnj 1 (by decide), tl32 0 (by decide), tl64 0 (by decide), tl32 1 (by decide), tl64 1 (by decide), tl32 10 (by decide), tl64 10 (by decide), tl32 32 (by decide), tl64 32 (by decide), tl32 48 (by decide), tl64 48 (by decide), tl32 57 (by decide), tl64 57 (by decide), tl32 97 (by decide), tl64 97 (by decide), tl32 122 (by decide), tl64 122 (by decide), tl32 99999 (by decide), tl64 99999 (by decide)] at f2_0); (try simp only [lg_cmp_lt, lg_cmp_le, lg_cmp_gt, lg_cmp_ge, lg_cmp_eq] at f2_1); (try simp (disch := omega) only [ta_lt, ta_le, ta_eq, tb_lt, tb_le, tb_eq, tw, tnI, tsub1, tsv, tn32 1 (by decide), tnj 1 (by decide), tl32 0 (by decide), tl64 0 (by decide), tl32 1 (by decide), tl64 1 (by decide), tl32 10 (by decide), tl64 10 (by decide), tl32 32 (by decide), tl64 32 (by decide), tl32 48 (by decide), tl64 48 (by decide), tl32 57 (by decide), tl64 57 (by decide), tl32 97 (by decide), tl64 97 (by decide), tl32 122 (by decide), tl64 122 (by decide), tl32 99999 (by decide), tl64 99999 (by decide)] at f2_1); (try simp only [lg_cmp_lt, lg_cmp_le, lg_cmp_gt, lg_cmp_ge, lg_cmp_eq] at c3); (try simp (disch := omega) only [ta_lt, ta_le, ta_eq, tb_lt, tb_le, tb_eq, tw, tnI, tsub1, tsv, tn32 1 (by decide), tnj 1 (by decide), tl32 0 (by decide), tl64 0 (by decide), tl32 1 (by decide), tl64 1 (by decide), tl32 10 (by decide), tl64 10 (by decide), tl32 32 (by decide), tl64 32 (by decide), tl32 48 (by decide), tl64 48 (by decide), tl32 57 (by decide), tl64 57 (by decide), tl32 97 (by decide), tl64 97 (by decide), tl32 122 (by decide), tl64 122 (by decide), tl32 99999 (by decide), tl64 99999 (by decide)] at c3); (try simp only [lg_cmp_lt, lg_cmp_le, lg_cmp_gt, lg_cmp_ge, lg_cmp_eq] at f5_0); (try simp (disch := omega) only [ta_lt, ta_le, ta_eq, tb_lt, tb_le, tb_eq, tw, tnI, tsub1, tsv, tn32 1 (by decide), tnj 1 (by decide), tl32 0 (by decide), tl64 0 (by decide), tl32 1 (by decide), tl64 1 (by decide), tl32 10 (by decide), tl64 10 (by decide), tl32 32 (by decide), tl64 32 (by decide), tl32 48 (by decide), tl64 48 (by decide), tl32 57 (by decide), tl64 57 (by decide), tl32 97 (by decide), tl64 97 (by decide), tl32 122 (by decide), tl64 122 (by decide), tl32 99999 (by decide), tl64 99999 (by decide)] at f5_0); (try simp only [lg_cmp_lt, lg_cmp_le, lg_cmp_gt, lg_cmp_ge, lg_cmp_eq] at f5_1); (try simp (disch := omega) only [ta_lt, ta_le, ta_eq, tb_lt, tb_le, tb_eq, tw, tnI, tsub1, tsv, tn32 1 (by decide), tnj 1 (by decide), tl32 0 (by decide), tl64 0 (by decide), tl32 1 (by decide), tl64 1 (by decide), tl32 10 (by decide), tl64 10 (by decide), tl32 32 (by decide), tl64 32 (by decide), tl32 48 (by decide), tl64 48 (by decide), tl32 57 (by decide), tl64 57 (by decide), tl32 97 (by decide), tl64 97 (by decide), tl32 122 (by decide), tl64 122 (by decide), tl32 99999 (by decide), tl64 99999 (by decide)] at f5_1); (try simp only [lg_cmp_lt, lg_cmp_le, lg_cmp_gt, lg_cmp_ge, lg_cmp_eq] at c6); (try simp (disch := omega) only [ta_lt, ta_le, ta_eq, tb_lt, tb_le, tb_eq, tw, tnI, tsub1, tsv, tn32 1 (by decide), tnj 1 (by decide), tl32 0 (by decide), tl64 0 (by decide), tl32 1 (by decide), tl64 1 (by decide), tl32 10 (by decide), tl64 10 (by decide), tl32 32 (by decide), tl64 32 (by decide), tl32 48 (by decide), tl64 48 (by decide), tl32 57 (by decide), tl64 57 (by decide), tl32 97 (by decide), tl64 97 (by decide), tl32 122 (by decide), tl64 122 (by decide), tl32 99999 (by decide), tl64 99999 (by decide)] at c6); (try simp only [lg_cmp_lt, lg_cmp_le, lg_cmp_gt, lg_cmp_ge, lg_cmp_eq] at f8_0); (try simp (disch := omega) only [ta_lt, ta_le, ta_eq, tb_lt, tb_le, tb_eq, tw, tnI, tsub1, tsv, tn32 1 (by decide), tnj 1 (by decide), tl32 0 (by decide), tl64 0 (by decide), tl32 1 (by decide), tl64 1 (by decide), tl32 10 (by decide), tl64 10 (by decide), tl32 32 (by decide), tl64 32 (by decide), tl32 48 (by decide), tl64 48 (by decide), tl32 57 (by decide), tl64 57 (by decide), tl32 97 (by decide), tl64 97 (by decide), tl32 122 (by decide), tl64 122 (by decide), tl32 99999 (by decide), tl64 99999 (by decide)] at f8_0); (try simp only [lg_cmp_lt, lg_cmp_le, lg_cmp_gt, lg_cmp_ge, lg_cmp_eq] at f8_1); (try simp (disch := omega) only [ta_lt, ta_le, ta_eq, tb_lt, tb_le, tb_eq, tw, tnI, tsub1, tsv, tn32 1 (by decide), tnj 1 (by decide), tl32 0 (by decide), tl64 0 (by decide), tl32 1 (by decide), tl64 1 (by decide), tl32 10 (by decide), tl64 10 (by decide), tl32 32 (by decide), tl64 32 (by decide), tl32 48 (by decide), tl64 48 (by decide), tl32 57 (by decide), tl64 57 (by decide), tl32 97 (by decide), tl64 97 (by decide), tl32 122 (by decide), tl64 122 (by decide), tl32 99999 (by decide), tl64 99999 (by decide)] at f8_1); (try simp only [lg_cmp_lt, lg_cmp_le, lg_cmp_gt, lg_cmp_ge, lg_cmp_eq] at c9); (try simp (disch := omega) only [ta_lt, ta_le, ta_eq, tb_lt, tb_le, tb_eq, tw, tnI, tsub1, tsv, tn32 1 (by decide), tnj 1 (by decide), tl32 0 (by decide), tl64 0 (by decide), tl32 1 (by decide), tl64 1 (by decide), tl32 10 (by decide), tl64 10 (by decide), tl32 32 (by decide), tl64 32 (by decide), tl32 48 (by decide), tl64 48 (by decide), tl32 57 (by decide), tl64 57 (by decide), tl32 97 (by decide), tl64 97 (by decide), tl32 122 (by decide), tl64 122 (by decide), tl32 99999 (by decide), tl64 99999 (by decide)] at c9); (try simp only [lg_cmp_lt, lg_cmp_le, lg_cmp_gt, lg_cmp_ge, lg_cmp_eq] at hc10); (try simp (disch := omega) only [ta_lt, ta_le, ta_eq, tb_lt, tb_le, tb_eq, tw, tnI, tsub1, tsv, tn32 1 (by decide), tnj 1 (by decide), tl32 0 (by decide), tl64 0 (by decide), tl32 1 (by decide), tl64 1 (by decide), tl32 10 (by decide), tl64 10 (by decide), tl32 32 (by decide), tl64 32 (by decide), tl32 48 (by decide), tl64 48 (by decide), tl32 57 (by decide), tl64 57 (by decide), tl32 97 (by decide), tl64 97 (by decide), tl32 122 (by decide), tl64 122 (by decide), tl32 99999 (by decide), tl64 99999 (by decide)] at hc10); (try simp only [lg_cmp_lt, lg_cmp_le, lg_cmp_gt, lg_cmp_ge, lg_cmp_eq] at hc16); (try simp (disch := omega) only [ta_lt, ta_le, ta_eq, tb_lt, tb_le, tb_eq, tw, tnI, tsub1, tsv, tn32 1 (by decide), tnj 1 (by decide), tl32 0 (by decide), tl64 0 (by decide), tl32 1 (by decide), tl64 1 (by decide), tl32 10 (by decide), tl64 10 (by decide), tl32 32 (by decide), tl64 32 (by decide), tl32 48 (by decide), tl64 48 (by decide), tl32 57 (by decide), tl64 57 (by decide), tl32 97 (by decide), tl64 97 (by decide), tl32 122 (by decide), tl64 122 (by decide), tl32 99999 (by decide), tl64 99999 (by decide)] at hc16); (try simp only [lg_cmp_lt, lg_cmp_le, lg_cmp_gt, lg_cmp_ge, lg_cmp_eq] at f19_0); (try simp (disch := omega) only [ta_lt, ta_le, ta_eq, tb_lt, tb_le, tb_eq, tw, tnI, tsub1, tsv, tn32 1 (by decide), tnj 1 (by decide), tl32 0 (by decide), tl64 0 (by decide), tl32 1 (by decide), tl64 1 (by decide), tl32 10 (by decide), tl64 10 (by decide), tl32 32 (by decide), tl64 32 (by decide), tl32 48 (by decide), tl64 48 (by decide), tl32 57 (by decide), tl64 57 (by decide), tl32 97 (by decide), tl64 97 (by decide), tl32 122 (by decide), tl64 122 (by decide), tl32 99999 (by decide), tl64 99999 (by decide)] at f19_0); (try simp only [lg_cmp_lt, lg_cmp_le, lg_cmp_gt, lg_cmp_ge, lg_cmp_eq] at f19_1); (try simp (disch := omega) only [ta_lt, ta_le, ta_eq, tb_lt, tb_le, tb_eq, tw, tnI, tsub1, tsv, tn32 1 (by decide), tnj 1 (by decide), tl32 0 (by decide), tl64 0 (by decide), tl32 1 (by decide), tl64 1 (by decide), tl32 10 (by decide), tl64 10 (by decide), tl32 32 (by decide), tl64 32 (by decide), tl32 48 (by decide), tl64 48 (by decide), tl32 57 (by decide), tl64 57 (by decide), tl32 97 (by decide), tl64 97 (by decide), tl32 122 (by decide), tl64 122 (by decide), tl32 99999 (by decide), tl64 99999 (by decide)] at f19_1); (try simp only [lg_cmp_lt, lg_cmp_le, lg_cmp_gt, lg_cmp_ge, lg_cmp_eq] at hc20); (try simp (disch := omega) only [ta_lt, ta_le, ta_eq, tb_lt, tb_le, tb_eq, tw, tnI, tsub1, tsv, tn32 1 (by decide), tnj 1 (by decide), tl32 0 (by decide), tl64 0 (by decide), tl32 1 (by decide), tl64 1 (by decide), tl32 10 (by decide), tl64 10 (by decide), tl32 32 (by decide), tl64 32 (by decide), tl32 48 (by decide), tl64 48 (by decide), tl32 57 (by decide), tl64 57 (by decide), tl32 97 (by decide), tl64 97 (by decide), tl32 122 (by decide), tl64 122 (by decide), tl32 99999 (by decide), tl64 99999 (by decide)] at hc20); (try simp only [lg_cmp_lt, lg_cmp_le, lg_cmp_gt, lg_cmp_ge, lg_cmp_eq] at f22_0); (try simp (disch := omega) only [ta_lt, ta_le, ta_eq, tb_lt, tb_le, tb_eq, tw, tnI, tsub1, tsv, tn32 1 (by decide), tnj 1 (by decide), tl32 0 (by decide), tl64 0 (by decide), tl32 1 (by decide), tl64 1 (by decide), tl32 10 (by decide), tl64 10 (by decide), tl32 32 (by decide), tl64 32 (by decide), tl32 48 (by decide), tl64 48 (by decide), tl32 57 (by decide), tl64 57 (by decide), tl32 97 (by decide), tl64 97 (by decide), tl32 122 (by decide), tl64 122 (by decide), tl32 99999 (by decide), tl64 99999 (by decide)] at f22_0); (try simp only [lg_cmp_lt, lg_cmp_le, lg_cmp_gt, lg_cmp_ge, lg_cmp_eq] at f22_1); (try simp (disch := omega) only [ta_lt, ta_le, ta_eq, tb_lt, tb_le, tb_eq, tw, tnI, tsub1, tsv, tn32 1 (by decide), tnj 1 (by decide), tl32 0 (by decide), tl64 0 (by decide), tl32 1 (by decide), tl64 1 (by decide), tl32 10 (by decide), tl64 10 (by decide), tl32 32 (by decide), tl64 32 (by decide), tl32 48 (by decide), tl64 48 (by decide), tl32 57 (by decide), tl64 57 (by decide), tl32 97 (by decide), tl64 97 (by decide), tl32 122 (by decide), tl64 122 (by decide), tl32 99999 (by decide), tl64 99999 (by decide)] at f22_1); (try simp (disch := omega) only [ta_lt, ta_le, ta_eq, tb_lt, tb_le, tb_eq, tw, tnI, tsub1, tsv, tn32 1 (by decide), tnj 1 (by decide), tl32 0 (by decide), tl64 0 (by decide), tl32 1 (by decide), tl64 1 (by decide), tl32 10 (by decide), tl64 10 (by decide), tl32 32 (by decide), tl64 32 (by decide), tl32 48 (by decide), tl64 48 (by decide), tl32 57 (by decide), tl64 57 (by decide), tl32 97 (by decide), tl64 97 (by decide), tl32 122 (by decide), tl64 122 (by decide), tl32 99999 (by decide), tl64 99999 (by decide)]); omega)
                      have hF25 : fr true [] [8, 9, 10, 11] σ (sI (sI π 0 11 r23) 0 8 (nI (aπ + 1))) := fr.w hF24 (Or.inr ⟨rfl, by decide⟩) (fun _ h => absurd h (by decide))
                      refine lv_goto (tgt := 144) hx hb (dkS dF_167 DX12_step (i := 100) rfl rfl rfl) (by decide) ?_
                      exact ih18 (aπ + 1) (sI (sI π 0 11 r23) 0 8 (nI (aπ + 1))) _ _ _ (by omega) rd_s (by have hs7_0 := (show 0 ≤ (τ.1 0 7).toInt ∧ (τ.1 0 7).toInt ≤ 600 from hT_τ 0 7); have hs7_1 := (show 0 ≤ ((sI τ 0 9 (nI aτ)).1 0 7).toInt ∧ ((sI τ 0 9 (nI aτ)).1 0 7).toInt ≤ 600 from hT7 0 7); have hs7_2 := (show 0 ≤ (π.1 0 7).toInt ∧ (π.1 0 7).toInt ≤ 600 from hT_π 0 7); (try simp only [lg_cmp_lt, lg_cmp_le, lg_cmp_gt, lg_cmp_ge, lg_cmp_eq] at f2_0); (try simp (disch := omega) only [ta_lt, ta_le, ta_eq, tb_lt, tb_le, tb_eq, tw, tnI, tsub1, tsv, tn32 1 (by decide), tnj 1 (by decide), tl32 0 (by decide), tl64 0 (by decide), tl32 1 (by decide), tl64 1 (by decide), tl32 10 (by decide), tl64 10 (by decide), tl32 32 (by decide), tl64 32 (by decide), tl32 48 (by decide), tl64 48 (by decide), tl32 57 (by decide), tl64 57 (by decide), tl32 97 (by decide), tl64 97 (by decide), tl32 122 (by decide), tl64 122 (by decide), tl32 99999 (by decide), tl64 99999 (by decide)] at f2_0); (try simp only [lg_cmp_lt, lg_cmp_le, lg_cmp_gt, lg_cmp_ge, lg_cmp_eq] at f2_1); (try simp (disch := omega) only [ta_lt, ta_le, ta_eq, tb_lt, tb_le, tb_eq, tw, tnI, tsub1, tsv, tn32 1 (by decide), tnj 1 (by decide), tl32 0 (by decide), tl64 0 (by decide), tl32 1 (by decide), tl64 1 (by decide), tl32 10 (by decide), tl64 10 (by decide), tl32 32 (by decide), tl64 32 (by decide), tl32 48 (by decide), tl64 48 (by decide), tl32 57 (by decide), tl64 57 (by decide), tl32 97 (by decide), tl64 97 (by decide), tl32 122 (by decide), tl64 122 (by decide), tl32 99999 (by decide), tl64 99999 (by decide)] at f2_1); (try simp only [lg_cmp_lt, lg_cmp_le, lg_cmp_gt, lg_cmp_ge, lg_cmp_eq] at c3); (try simp (disch := omega) only [ta_lt, ta_le, ta_eq, tb_lt, tb_le, tb_eq, tw, tnI, tsub1, tsv, tn32 1 (by decide), tnj 1 (by decide), tl32 0 (by decide), tl64 0 (by decide), tl32 1 (by decide), tl64 1 (by decide), tl32 10 (by decide), tl64 10 (by decide), tl32 32 (by decide), tl64 32 (by decide), tl32 48 (by decide), tl64 48 (by decide), tl32 57 (by decide), tl64 57 (by decide), tl32 97 (by decide), tl64 97 (by decide), tl32 122 (by decide), tl64 122 (by decide), tl32 99999 (by decide), tl64 99999 (by decide)] at c3); (try simp only [lg_cmp_lt, lg_cmp_le, lg_cmp_gt, lg_cmp_ge, lg_cmp_eq] at f5_0); (try simp (disch := omega) only [ta_lt, ta_le, ta_eq, tb_lt, tb_le, tb_eq, tw, tnI, tsub1, tsv, tn32 1 (by decide), tnj 1 (by decide), tl32 0 (by decide), tl64 0 (by decide), tl32 1 (by decide), tl64 1 (by decide), tl32 10 (by decide), tl64 10 (by decide), tl32 32 (by decide), tl64 32 (by decide), tl32 48 (by decide), tl64 48 (by decide), tl32 57 (by decide), tl64 57 (by decide), tl32 97 (by decide), tl64 97 (by decide), tl32 122 (by decide), tl64 122 (by decide), tl32 99999 (by decide), tl64 99999 (by decide)] at f5_0); (try simp only [lg_cmp_lt, lg_cmp_le, lg_cmp_gt, lg_cmp_ge, lg_cmp_eq] at f5_1); (try simp (disch := omega) only [ta_lt, ta_le, ta_eq, tb_lt, tb_le, tb_eq, tw, tnI, tsub1, tsv, tn32 1 (by decide), tnj 1 (by decide), tl32 0 (by decide), tl64 0 (by decide), tl32 1 (by decide), tl64 1 (by decide), tl32 10 (by decide), tl64 10 (by decide), tl32 32 (by decide), tl64 32 (by decide), tl32 48 (by decide), tl64 48 (by decide), tl32 57 (by decide), tl64 57 (by decide), tl32 97 (by decide), tl64 97 (by decide), tl32 122 (by decide), tl64 122 (by decide), tl32 99999 (by decide), tl64 99999 (by decide)] at f5_1); (try simp only [lg_cmp_lt, lg_cmp_le, lg_cmp_gt, lg_cmp_ge, lg_cmp_eq] at c6); (try simp (disch := omega) only [ta_lt, ta_le, ta_eq, tb_lt, tb_le, tb_eq, tw, tnI, tsub1, tsv, tn32 1 (by decide), tnj 1 (by decide), tl32 0 (by decide), tl64 0 (by decide), tl32 1 (by decide), tl64 1 (by decide), tl32 10 (by decide), tl64 10 (by decide), tl32 32 (by decide), tl64 32 (by decide), tl32 48 (by decide), tl64 48 (by decide), tl32 57 (by decide), tl64 57 (by decide), tl32 97 (by decide), tl64 97 (by decide), tl32 122 (by decide), tl64 122 (by decide), tl32 99999 (by decide), tl64 99999 (by decide)] at c6); (try simp only [lg_cmp_lt, lg_cmp_le, lg_cmp_gt, lg_cmp_ge, lg_cmp_eq] at f8_0); (try simp (disch := omega) only [ta_lt, ta_le, ta_eq, tb_lt, tb_le, tb_eq, tw, tnI, tsub1, tsv, tn32 1 (by decide), tnj 1 (by decide), tl32 0 (by decide), tl64 0 (by decide), tl32 1 (by decide), tl64 1 (by decide), tl32 10 (by decide), tl64 10 (by decide), tl32 32 (by decide), tl64 32 (by decide), tl32 48 (by decide), tl64 48 (by decide), tl32 57 (by decide), tl64 57 (by decide), tl32 97 (by decide), tl64 97 (by decide), tl32 122 (by decide), tl64 122 (by decide), tl32 99999 (by decide), tl64 99999 (by decide)] at f8_0); (try simp only [lg_cmp_lt, lg_cmp_le, lg_cmp_gt, lg_cmp_ge, lg_cmp_eq] at f8_1); (try simp (disch := omega) only [ta_lt, ta_le, ta_eq, tb_lt, tb_le, tb_eq, tw, tnI, tsub1, tsv, tn32 1 (by decide), tnj 1 (by decide), tl32 0 (by decide), tl64 0 (by decide), tl32 1 (by decide), tl64 1 (by decide), tl32 10 (by decide), tl64 10 (by decide), tl32 32 (by decide), tl64 32 (by decide), tl32 48 (by decide), tl64 48 (by decide), tl32 57 (by decide), tl64 57 (by decide), tl32 97 (by decide), tl64 97 (by decide), tl32 122 (by decide), tl64 122 (by decide), tl32 99999 (by decide), tl64 99999 (by decide)] at f8_1); (try simp only [lg_cmp_lt, lg_cmp_le, lg_cmp_gt, lg_cmp_ge, lg_cmp_eq] at c9); (try simp (disch := omega) only [ta_lt, ta_le, ta_eq, tb_lt, tb_le, tb_eq, tw, tnI, tsub1, tsv, tn32 1 (by decide), tnj 1 (by decide), tl32 0 (by decide), tl64 0 (by decide), tl32 1 (by decide), tl64 1 (by decide), tl32 10 (by decide), tl64 10 (by decide), tl32 32 (by decide), tl64 32 (by decide), tl32 48 (by decide), tl64 48 (by decide), tl32 57 (by decide), tl64 57 (by decide), tl32 97 (by decide), tl64 97 (by decide), tl32 122 (by decide), tl64 122 (by decide), tl32 99999 (by decide), tl64 99999 (by decide)] at c9); (try simp only [lg_cmp_lt, lg_cmp_le, lg_cmp_gt, lg_cmp_ge, lg_cmp_eq] at hc10); (try simp (disch := omega) only [ta_lt, ta_le, ta_eq, tb_lt, tb_le, tb_eq, tw, tnI, tsub1, tsv, tn32 1 (by decide), tnj 1 (by decide), tl32 0 (by decide), tl64 0 (by decide), tl32 1 (by decide), tl64 1 (by decide), tl32 10 (by decide), tl64 10 (by decide), tl32 32 (by decide), tl64 32 (by decide), tl32 48 (by decide), tl64 48 (by decide), tl32 57 (by decide), tl64 57 (by decide), tl32 97 (by decide), tl64 97 (by decide), tl32 122 (by decide), tl64 122 (by decide), tl32 99999 (by decide), tl64 99999 (by decide)] at hc10); (try simp only [lg_cmp_lt, lg_cmp_le, lg_cmp_gt, lg_cmp_ge, lg_cmp_eq] at hc16); (try simp (disch := omega) only [ta_lt, ta_le, ta_eq, tb_lt, tb_le, tb_eq, tw, tnI, tsub1, tsv, tn32 1 (by decide), tnj 1 (by decide), tl32 0 (by decide), tl64 0 (by decide), tl32 1 (by decide), tl64 1 (by decide), tl32 10 (by decide), tl64 10 (by decide), tl32 32 (by decide), tl64 32 (by decide), tl32 48 (by decide), tl64 48 (by decide), tl32 57 (by decide), tl64 57 (by decide), tl32 97 (by decide), tl64 97 (by decide), tl32 122 (by decide), tl64 122 (by decide), tl32 99999 (by decide), tl64 99999 (by decide)] at hc16); (try simp only [lg_cmp_lt, lg_cmp_le, lg_cmp_gt, lg_cmp_ge, lg_cmp_eq] at f19_0); (try simp (disch := omega) only [ta_lt, ta_le, ta_eq, tb_lt, tb_le, tb_eq, tw, tnI, tsub1, tsv, tn32 1 (by decide), tnj 1 (by decide), tl32 0 (by decide), tl64 0 (by decide), tl32 1 (by decide), tl64 1 (by decide), tl32 10 (by decide), tl64 10 (by decide), tl32 32 (by decide), tl64 32 (by decide), tl32 48 (by decide), tl64 48 (by decide), tl32 57 (by decide), tl64 57 (by decide), tl32 97 (by decide), tl64 97 (by decide), tl32 122 (by decide), tl64 122 (by decide), tl32 99999 (by decide), tl64 99999 (by decide)] at f19_0); (try simp only [lg_cmp_lt, lg_cmp_le, lg_cmp_gt, lg_cmp_ge, lg_cmp_eq] at f19_1); (try simp (disch := omega) only [ta_lt, ta_le, ta_eq, tb_lt, tb_le, tb_eq, tw, tnI, tsub1, tsv, tn32 1 (by decide), tnj 1 (by decide), tl32 0 (by decide), tl64 0 (by decide), tl32 1 (by decide), tl64 1 (by decide), tl32 10 (by decide), tl64 10 (by decide), tl32 32 (by decide), tl64 32 (by decide), tl32 48 (by decide), tl64 48 (by decide), tl32 57 (by decide), tl64 57 (by decide), tl32 97 (by decide), tl64 97 (by decide), tl32 122 (by decide), tl64 122 (by decide), tl32 99999 (by decide), tl64 99999 (by decide)] at f19_1); (try simp only [lg_cmp_lt, lg_cmp_le, lg_cmp_gt, lg_cmp_ge, lg_cmp_eq] at hc20); (try simp (disch := omega) only [ta_lt, ta_le, ta_eq, tb_lt, tb_le, tb_eq, tw, tnI, tsub1, tsv, tn32 1 (by decide), tnj 1 (by decide), tl32 0 (by decide), tl64 0 (by decide), tl32 1 (by decide), tl64 1 (by decide), tl32 10 (by decide), tl64 10 (by decide), tl32 32 (by decide), tl64 32 (by decide), tl32 48 (by decide), tl64 48 (by decide), tl32 57 (by decide), tl64 57 (by decide), tl32 97 (by decide), tl64 97 (by decide), tl32 122 (by decide), tl64 122 (by decide), tl32 99999 (by decide), tl64 99999 (by decide)] at hc20); (try simp only [lg_cmp_lt, lg_cmp_le, lg_cmp_gt, lg_cmp_ge, lg_cmp_eq] at f22_0); (try simp (disch := omega) only [ta_lt, ta_le, ta_eq, tb_lt, tb_le, tb_eq, tw, tnI, tsub1, tsv, tn32 1 (by decide), tnj 1 (by decide), tl32 0 (by decide), tl64 0 (by decide), tl32 1 (by decide), tl64 1 (by decide), tl32 10 (by decide), tl64 10 (by decide), tl32 32 (by decide), tl64 32 (by decide), tl32 48 (by decide), tl64 48 (by decide), tl32 57 (by decide), tl64 57 (by decide), tl32 97 (by decide), tl64 97 (by decide), tl32 122 (by decide), tl64 122 (by decide), tl32 99999 (by decide), tl64 99999 (by decide)] at f22_0); (try simp only [lg_cmp_lt, lg_cmp_le, lg_cmp_gt, lg_cmp_ge, lg_cmp_eq] at f22_1); (try simp (disch := omega) only [ta_lt, ta_le, ta_eq, tb_lt, tb_le, tb_eq, tw, tnI, tsub1, tsv, tn32 1 (by decide), tnj 1 (by decide), tl32 0 (by decide), tl64 0 (by decide), tl32 1 (by decide), tl64 1 (by decide), tl32 10 (by decide), tl64 10 (by decide), tl32 32 (by decide), tl64 32 (by decide), tl32 48 (by decide), tl64 48 (by decide), tl32 57 (by decide), tl64 57 (by decide), tl32 97 (by decide), tl64 97 (by decide), tl32 122 (by decide), tl64 122 (by decide), tl32 99999 (by decide), tl64 99999 (by decide)] at f22_1); (try simp (disch := omega) only [ta_lt, ta_le, ta_eq, tb_lt, tb_le, tb_eq, tw, tnI, tsub1, tsv, tn32 1 (by decide), tnj 1 (by decide), tl32 0 (by decide), tl64 0 (by decide), tl32 1 (by decide), tl64 1 (by decide), tl32 10 (by decide), tl64 10 (by decide), tl32 32 (by decide), tl64 32 (by decide), tl32 48 (by decide), tl64 48 (by decide), tl32 57 (by decide), tl64 57 (by decide), tl32 97 (by decide), tl64 97 (by decide), tl32 122 (by decide), tl64 122 (by decide), tl32 99999 (by decide), tl64 99999 (by decide)]); omega) hT25 hF25 hw (lv_sub hl [0, 1] rfl)
                    · skip
                      (try simp (disch := omega) only [ta_lt, ta_le, ta_eq, tb_lt, tb_le, tb_eq, tw, tnI, tn32 1 (by decide), tnj 1 (by decide), tl32 0 (by decide), tl64 0 (by decide), tl32 1 (by decide), tl64 1 (by decide), tl32 10 (by decide), tl64 10 (by decide), tl32 32 (by decide), tl64 32 (by decide), tl32 48 (by decide), tl64 48 (by decide), tl32 57 (by decide), tl64 57 (by decide), tl32 97 (by decide), tl64 97 (by decide), tl32 122 (by decide), tl64 122 (by decide), tl32 99999 (by decide), tl64 99999 (by decide)] at hc20)
                      refine lv_if_eq (tgt := 206) hx hb (dkS dF_153 DX12_step (i := 78) rfl rfl rfl) (by decide) (fun _ => ?_) (fun h => absurd h (by decide))
                      refine lv_aload_n hx hb (dkP dF_42 DX12_step (i := 101) rfl rfl) rfl (lv_at hl 1 rfl) ?_
                      refine lv_iconst (v := 2) hx hb (dkP dF_5 DX12_step (i := 102) rfl rfl) (by decide) ?_
                      refine z_pi C0 hw 0 10 rfl fp_X12_162 (dk2 dF_181 DX12_step (i := 103) rfl rfl rfl) (fun H locs hw => ?_)
                      have hT26 : TM (sI π 0 10 2) := TM.w hT_π (show True from trivial)
                      have hF26 : fr true [] [8, 9, 10, 11] σ (sI π 0 10 2) := fr.w hF_π (Or.inr ⟨rfl, by decide⟩) (fun _ h => absurd h (by decide))
                      refine lv_goto (tgt := 245) hx hb (dkS dF_167 DX12_step (i := 104) rfl rfl rfl) (by decide) ?_
                      exact z_vret C0 hr hlk hw (⟨hT26, hF26⟩) (dkP dF_177 DX12_step (i := 122) rfl rfl)
                exact lp18 _ aτ (sI (sI τ 0 9 (nI aτ)) 0 11 0) _ _ _ (Nat.lt_succ_self _) ((rd_n (by omega)).trans ((rd_n (by omega)).trans haτ)) (by have hs7_0 := (show 0 ≤ (τ.1 0 7).toInt ∧ (τ.1 0 7).toInt ≤ 600 from hT_τ 0 7); have hs7_1 := (show 0 ≤ ((sI τ 0 9 (nI aτ)).1 0 7).toInt ∧ ((sI τ 0 9 (nI aτ)).1 0 7).toInt ≤ 600 from hT7 0 7); (try simp only [lg_cmp_lt, lg_cmp_le, lg_cmp_gt, lg_cmp_ge, lg_cmp_eq] at f2_0); (try simp (disch := omega) only [ta_lt, ta_le, ta_eq, tb_lt, tb_le, tb_eq, tw, tnI, tsub1, tsv, tn32 1 (by decide), tnj 1 (by decide), tl32 0 (by decide), tl64 0 (by decide), tl32 1 (by decide), tl64 1 (by decide), tl32 2 (by decide), tl64 2 (by decide), tl32 10 (by decide), tl64 10 (by decide), tl32 32 (by decide), tl64 32 (by decide), tl32 48 (by decide), tl64 48 (by decide), tl32 57 (by decide), tl64 57 (by decide), tl32 97 (by decide), tl64 97 (by decide), tl32 122 (by decide), tl64 122 (by decide), tl32 99999 (by decide), tl64 99999 (by decide)] at f2_0); (try simp only [lg_cmp_lt, lg_cmp_le, lg_cmp_gt, lg_cmp_ge, lg_cmp_eq] at f2_1); (try simp (disch := omega) only [ta_lt, ta_le, ta_eq, tb_lt, tb_le, tb_eq, tw, tnI, tsub1, tsv, tn32 1 (by decide), tnj 1 (by decide), tl32 0 (by decide), tl64 0 (by decide), tl32 1 (by decide), tl64 1 (by decide), tl32 2 (by decide), tl64 2 (by decide), tl32 10 (by decide), tl64 10 (by decide), tl32 32 (by decide), tl64 32 (by decide), tl32 48 (by decide), tl64 48 (by decide), tl32 57 (by decide), tl64 57 (by decide), tl32 97 (by decide), tl64 97 (by decide), tl32 122 (by decide), tl64 122 (by decide), tl32 99999 (by decide), tl64 99999 (by decide)] at f2_1); (try simp only [lg_cmp_lt, lg_cmp_le, lg_cmp_gt, lg_cmp_ge, lg_cmp_eq] at c3); (try simp (disch := omega) only [ta_lt, ta_le, ta_eq, tb_lt, tb_le, tb_eq, tw, tnI, tsub1, tsv, tn32 1 (by decide), tnj 1 (by decide), tl32 0 (by decide), tl64 0 (by decide), tl32 1 (by decide), tl64 1 (by decide), tl32 2 (by decide), tl64 2 (by decide), tl32 10 (by decide), tl64 10 (by decide), tl32 32 (by decide), tl64 32 (by decide), tl32 48 (by decide), tl64 48 (by decide), tl32 57 (by decide), tl64 57 (by decide), tl32 97 (by decide), tl64 97 (by decide), tl32 122 (by decide), tl64 122 (by decide), tl32 99999 (by decide), tl64 99999 (by decide)] at c3); (try simp only [lg_cmp_lt, lg_cmp_le, lg_cmp_gt, lg_cmp_ge, lg_cmp_eq] at f5_0); (try simp (disch := omega) only [ta_lt, ta_le, ta_eq, tb_lt, tb_le, tb_eq, tw, tnI, tsub1, tsv, tn32 1 (by decide), tnj 1 (by decide), tl32 0 (by decide), tl64 0 (by decide), tl32 1 (by decide), tl64 1 (by decide), tl32 2 (by decide), tl64 2 (by decide), tl32 10 (by decide), tl64 10 (by decide), tl32 32 (by decide), tl64 32 (by decide), tl32 48 (by decide), tl64 48 (by decide), tl32 57 (by decide), tl64 57 (by decide), tl32 97 (by decide), tl64 97 (by decide), tl32 122 (by decide), tl64 122 (by decide), tl32 99999 (by decide), tl64 99999 (by decide)] at f5_0); (try simp only [lg_cmp_lt, lg_cmp_le, lg_cmp_gt, lg_cmp_ge, lg_cmp_eq] at f5_1); (try simp (disch := omega) only [ta_lt, ta_le, ta_eq, tb_lt, tb_le, tb_eq, tw, tnI, tsub1, tsv, tn32 1 (by decide), tnj 1 (by decide), tl32 0 (by decide), tl64 0 (by decide), tl32 1 (by decide), tl64 1 (by decide), tl32 2 (by decide), tl64 2 (by decide), tl32 10 (by decide), tl64 10 (by decide), tl32 32 (by decide), tl64 32 (by decide), tl32 48 (by decide), tl64 48 (by decide), tl32 57 (by decide), tl64 57 (by decide), tl32 97 (by decide), tl64 97 (by decide), tl32 122 (by decide), tl64 122 (by decide), tl32 99999 (by decide), tl64 99999 (by decide)] at f5_1); (try simp only [lg_cmp_lt, lg_cmp_le, lg_cmp_gt, lg_cmp_ge, lg_cmp_eq] at c6); (try simp (disch := omega) only [ta_lt, ta_le, ta_eq, tb_lt, tb_le, tb_eq, tw, tnI, tsub1, tsv, tn32 1 (by decide), tnj 1 (by decide), tl32 0 (by decide), tl64 0 (by decide), tl32 1 (by decide), tl64 1 (by decide), tl32 2 (by decide), tl64 2 (by decide), tl32 10 (by decide), tl64 10 (by decide), tl32 32 (by decide), tl64 32 (by decide), tl32 48 (by decide), tl64 48 (by decide), tl32 57 (by decide), tl64 57 (by decide), tl32 97 (by decide), tl64 97 (by decide), tl32 122 (by decide), tl64 122 (by decide), tl32 99999 (by decide), tl64 99999 (by decide)] at c6); (try simp only [lg_cmp_lt, lg_cmp_le, lg_cmp_gt, lg_cmp_ge, lg_cmp_eq] at f8_0); (try simp (disch := omega) only [ta_lt, ta_le, ta_eq, tb_lt, tb_le, tb_eq, tw, tnI, tsub1, tsv, tn32 1 (by decide), tnj 1 (by decide), tl32 0 (by decide), tl64 0 (by decide), tl32 1 (by decide), tl64 1 (by decide), tl32 2 (by decide), tl64 2 (by decide), tl32 10 (by decide), tl64 10 (by decide), tl32 32 (by decide), tl64 32 (by decide), tl32 48 (by decide), tl64 48 (by decide), tl32 57 (by decide), tl64 57 (by decide), tl32 97 (by decide), tl64 97 (by decide), tl32 122 (by decide), tl64 122 (by decide), tl32 99999 (by decide), tl64 99999 (by decide)] at f8_0); (try simp only [lg_cmp_lt, lg_cmp_le, lg_cmp_gt, lg_cmp_ge, lg_cmp_eq] at f8_1); (try simp (disch := omega) only [ta_lt, ta_le, ta_eq, tb_lt, tb_le, tb_eq, tw, tnI, tsub1, tsv, tn32 1 (by decide), tnj 1 (by decide), tl32 0 (by decide), tl64 0 (by decide), tl32 1 (by decide), tl64 1 (by decide), tl32 2 (by decide), tl64 2 (by decide), tl32 10 (by decide), tl64 10 (by decide), tl32 32 (by decide), tl64 32 (by decide), tl32 48 (by decide), tl64 48 (by decide), tl32 57 (by decide), tl64 57 (by decide), tl32 97 (by decide), tl64 97 (by decide), tl32 122 (by decide), tl64 122 (by decide), tl32 99999 (by decide), tl64 99999 (by decide)] at f8_1); (try simp only [lg_cmp_lt, lg_cmp_le, lg_cmp_gt, lg_cmp_ge, lg_cmp_eq] at c9); (try simp (disch := omega) only [ta_lt, ta_le, ta_eq, tb_lt, tb_le, tb_eq, tw, tnI, tsub1, tsv, tn32 1 (by decide), tnj 1 (by decide), tl32 0 (by decide), tl64 0 (by decide), tl32 1 (by decide), tl64 1 (by decide), tl32 2 (by decide), tl64 2 (by decide), tl32 10 (by decide), tl64 10 (by decide), tl32 32 (by decide), tl64 32 (by decide), tl32 48 (by decide), tl64 48 (by decide), tl32 57 (by decide), tl64 57 (by decide), tl32 97 (by decide), tl64 97 (by decide), tl32 122 (by decide), tl64 122 (by decide), tl32 99999 (by decide), tl64 99999 (by decide)] at c9); (try simp only [lg_cmp_lt, lg_cmp_le, lg_cmp_gt, lg_cmp_ge, lg_cmp_eq] at hc10); (try simp (disch := omega) only [ta_lt, ta_le, ta_eq, tb_lt, tb_le, tb_eq, tw, tnI, tsub1, tsv, tn32 1 (by decide), tnj 1 (by decide), tl32 0 (by decide), tl64 0 (by decide), tl32 1 (by decide), tl64 1 (by decide), tl32 2 (by decide), tl64 2 (by decide), tl32 10 (by decide), tl64 10 (by decide), tl32 32 (by decide), tl64 32 (by decide), tl32 48 (by decide), tl64 48 (by decide), tl32 57 (by decide), tl64 57 (by decide), tl32 97 (by decide), tl64 97 (by decide), tl32 122 (by decide), tl64 122 (by decide), tl32 99999 (by decide), tl64 99999 (by decide)] at hc10); (try simp only [lg_cmp_lt, lg_cmp_le, lg_cmp_gt, lg_cmp_ge, lg_cmp_eq] at hc16); (try simp (disch := omega) only [ta_lt, ta_le, ta_eq, tb_lt, tb_le, tb_eq, tw, tnI, tsub1, tsv, tn32 1 (by decide), tnj 1 (by decide), tl32 0 (by decide), tl64 0 (by decide), tl32 1 (by decide), tl64 1 (by decide), tl32 2 (by decide), tl64 2 (by decide), tl32 10 (by decide), tl64 10 (by decide), tl32 32 (by decide), tl64 32 (by decide), tl32 48 (by decide), tl64 48 (by decide), tl32 57 (by decide), tl64 57 (by decide), tl32 97 (by decide), tl64 97 (by decide), tl32 122 (by decide), tl64 122 (by decide), tl32 99999 (by decide), tl64 99999 (by decide)] at hc16); (try simp (disch := omega) only [ta_lt, ta_le, ta_eq, tb_lt, tb_le, tb_eq, tw, tnI, tsub1, tsv, tn32 1 (by decide), tnj 1 (by decide), tl32 0 (by decide), tl64 0 (by decide), tl32 1 (by decide), tl64 1 (by decide), tl32 2 (by decide), tl64 2 (by decide), tl32 10 (by decide), tl64 10 (by decide), tl32 32 (by decide), tl64 32 (by decide), tl32 48 (by decide), tl64 48 (by decide), tl32 57 (by decide), tl64 57 (by decide), tl32 97 (by decide), tl64 97 (by decide), tl32 122 (by decide), tl64 122 (by decide), tl32 99999 (by decide), tl64 99999 (by decide)]); omega) hT17 hF17 hw (lv_sub hl [0, 1] rfl)
              · skip
                (try simp (disch := omega) only [ta_lt, ta_le, ta_eq, tb_lt, tb_le, tb_eq, tw, tnI, tn32 1 (by decide), tnj 1 (by decide), tl32 0 (by decide), tl64 0 (by decide), tl32 1 (by decide), tl64 1 (by decide), tl32 2 (by decide), tl64 2 (by decide), tl32 10 (by decide), tl64 10 (by decide), tl32 32 (by decide), tl64 32 (by decide), tl32 48 (by decide), tl64 48 (by decide), tl32 57 (by decide), tl64 57 (by decide), tl32 97 (by decide), tl64 97 (by decide), tl32 122 (by decide), tl64 122 (by decide), tl32 99999 (by decide), tl64 99999 (by decide)] at hc16)
                refine lv_if_eq (tgt := 214) hx hb (dkS dF_153 DX12_step (i := 66) rfl rfl rfl) (by decide) (fun _ => ?_) (fun h => absurd h (by decide))
                refine lv_aload_n hx hb (dkP dF_42 DX12_step (i := 105) rfl rfl) rfl (lv_at hl 1 rfl) ?_
                refine lv_iload_n hx hb (dkP dF_27 DX12_step (i := 106) rfl rfl) rfl (lv_at hl 0 rfl) ?_
                refine z_pi C0 hw 0 11 rfl fp_X12_173 (dk2 dF_181 DX12_step (i := 107) rfl rfl rfl) (fun H locs hw => ?_)
                have hT27 : TM (sI (sI τ 0 9 (nI aτ)) 0 11 r8) := TM.w hT7 (show True from trivial)
                have hF27 : fr true [] [8, 9, 10, 11] σ (sI (sI τ 0 9 (nI aτ)) 0 11 r8) := fr.w hF7 (Or.inr ⟨rfl, by decide⟩) (fun _ h => absurd h (by decide))
                refine lv_aload_n hx hb (dkP dF_42 DX12_step (i := 108) rfl rfl) rfl (lv_at hl 1 rfl) ?_
                refine lv_iload_n hx hb (dkP dF_27 DX12_step (i := 109) rfl rfl) rfl (lv_at hl 0 rfl) ?_
                refine zn_I hw (zr_S (As := [.int r8]) (rest := [.ref (ad 0)]) C0 (c_X12_isMark l G kc r8  _) cs_X12_isMark lk_X12_183 (zp_P C0 hRo hw a00 s00) rfl hl.1 rfl ⟨by decide, by decide⟩ (Nat.le_of_ble_eq_true rfl) (dk2 dF_184 DX12_step (i := 110) rfl rfl rfl) ⟨Nat.le_refl _, Nat.le_refl _⟩) (fun r28 s28 H locs hp hw => ?_)
                rcases hp with rfl | rfl
                · skip
                  refine lv_if_eq (tgt := 231) hx hb (dkS dF_153 DX12_step (i := 111) rfl rfl rfl) (by decide) (fun _ => ?_) (fun h => absurd h (by decide))
                  refine lv_iconst (v := 4) hx hb (dkP dF_7 DX12_step (i := 114) rfl rfl) (by decide) ?_
                  refine z_pi C0 hw 0 10 rfl fp_X12_162 (dk2 dF_181 DX12_step (i := 115) rfl rfl rfl) (fun H locs hw => ?_)
                  have hT29 : TM (sI (sI (sI τ 0 9 (nI aτ)) 0 11 r8) 0 10 4) := TM.w hT27 (show True from trivial)
                  have hF29 : fr true [] [8, 9, 10, 11] σ (sI (sI (sI τ 0 9 (nI aτ)) 0 11 r8) 0 10 4) := fr.w hF27 (Or.inr ⟨rfl, by decide⟩) (fun _ h => absurd h (by decide))
                  refine lv_aload_n hx hb (dkP dF_42 DX12_step (i := 116) rfl rfl) rfl (lv_at hl 1 rfl) ?_
                  refine lv_dup hx hb (dkP dF_89 DX12_step (i := 117) rfl rfl) rfl ?_
                  refine z_gi C0 hw 0 8 rfl fl_X12_153 (dk2 dF_180 DX12_step (i := 118) rfl rfl rfl) ?_
                  refine z_top (y := (nI aτ)) ((rd_n (by omega)).trans ((rd_n (by omega)).trans ((rd_n (by omega)).trans haτ))) ?_
                  refine lv_iconst (v := 1) hx hb (dkP dF_4 DX12_step (i := 119) rfl rfl) (by decide) ?_
                  refine lv_iadd hx hb (dkP dF_96 DX12_step (i := 120) rfl rfl) ?_
                  refine z_top (y := nI (aτ + 1)) (by simp only [fa_lit, nI_add, pk_mul]) ?_
                  refine z_pi C0 hw 0 8 rfl fp_X12_153 (dk2 dF_181 DX12_step (i := 121) rfl rfl rfl) (fun H locs hw => ?_)
                  have hT30 : TM (sI (sI (sI (sI τ 0 9 (nI aτ)) 0 11 r8) 0 10 4) 0 8 (nI (aτ + 1))) := TM.w hT29 (show 0 ≤ _ ∧ _ ≤ 600 from by have hs7 := (show 0 ≤ ((sI (sI (sI τ 0 9 (nI aτ)) 0 11 r8) 0 10 4).1 0 7).toInt ∧ ((sI (sI (sI τ 0 9 (nI aτ)) 0 11 r8) 0 10 4).1 0 7).toInt ≤ 600 from hT29 0 7); have hs7_0 := (show 0 ≤ (τ.1 0 7).toInt ∧ (τ.1 0 7).toInt ≤ 600 from hT_τ 0 7); have hs7_1 := (show 0 ≤ ((sI τ 0 9 (nI aτ)).1 0 7).toInt ∧ ((sI τ 0 9 (nI aτ)).1 0 7).toInt ≤ 600 from hT7 0 7); (try simp only [lg_cmp_lt, lg_cmp_le, lg_cmp_gt, lg_cmp_ge, lg_cmp_eq] at f2_0); (try simp (disch := omega) only [ta_lt, ta_le, ta_eq, tb_lt, tb_le, tb_eq, tw, tnI, tsub1, tsv, tn32 1 (by decide), tnj 1 (by decide), tl32 0 (by decide), tl64 0 (by decide), tl32 1 (by decide), tl64 1 (by decide), tl32 2 (by decide), tl64 2 (by decide), tl32 4 (by decide), tl64 4 (by decide), tl32 10 (by decide), tl64 10 (by decide), tl32 32 (by decide), tl64 32 (by decide), tl32 48 (by decide), tl64 48 (by decide), tl32 57 (by decide), tl64 57 (by decide), tl32 97 (by decide), tl64 97 (by decide), tl32 122 (by decide), tl64 122 (by decide), tl32 99999 (by decide), tl64 99999 (by decide)] at f2_0); (try simp only [lg_cmp_lt, lg_cmp_le, lg_cmp_gt, lg_cmp_ge, lg_cmp_eq] at f2_1); (try simp (disch := omega) only [ta_lt, ta_le, ta_eq, tb_lt, tb_le, tb_eq, tw, tnI, tsub1, tsv, tn32 1 (by decide), tnj 1 (by decide), tl32 0 (by decide), tl64 0 (by decide), tl32 1 (by decide), tl64 1 (by decide), tl32 2 (by decide), tl64 2 (by decide), tl32 4 (by decide), tl64 4 (by decide), tl32 10 (by decide), tl64 10 (by decide), tl32 32 (by decide), tl64 32 (by decide), tl32 48 (by decide), tl64 48 (by decide), tl32 57 (by decide), tl64 57 (by decide), tl32 97 (by decide), tl64 97 (by decide), tl32 122 (by decide), tl64 122 (by decide), tl32 99999 (by decide), tl64 99999 (by decide)] at f2_1); (try simp only [lg_cmp_lt, lg_cmp_le, lg_cmp_gt, lg_cmp_ge, lg_cmp_eq] at c3); (try simp (disch := omega) only [ta_lt, ta_le, ta_eq, tb_lt, tb_le, tb_eq, tw, tnI, tsub1, tsv, tn32 1 (by decide), tnj 1 (by decide), tl32 0 (by decide), tl64 0 (by decide), tl32 1 (by decide), tl64 1 (by decide), tl32 2 (by decide), tl64 2 (by decide), tl32 4 (by decide), tl64 4 (by decide), tl32 10 (by decide), tl64 10 (by decide), tl32 32 (by decide), tl64 32 (by decide), tl32 48 (by decide), tl64 48 (by decide), tl32 57 (by decide), tl64 57 (by decide), tl32 97 (by decide), tl64 97 (by decide), tl32 122 (by decide), tl64 122 (by decide), tl32 99999 (by decide), tl64 99999 (by decide)] at c3); (try simp only [lg_cmp_lt, lg_cmp_le, lg_cmp_gt, lg_cmp_ge, lg_cmp_eq] at f5_0); (try simp (disch := omega) only [ta_lt, ta_le, ta_eq, tb_lt, tb_le, tb_eq, tw, tnI, tsub1, tsv, tn32 1 (by decide), tnj 1 (by decide), tl32 0 (by decide), tl64 0 (by decide), tl32 1 (by decide), tl64 1 (by decide), tl32 2 (by decide), tl64 2 (by decide), tl32 4 (by decide), tl64 4 (by decide), tl32 10 (by decide), tl64 10 (by decide), tl32 32 (by decide), tl64 32 (by decide), tl32 48 (by decide), tl64 48 (by decide), tl32 57 (by decide), tl64 57 (by decide), tl32 97 (by decide), tl64 97 (by decide), tl32 122 (by decide), tl64 122 (by decide), tl32 99999 (by decide), tl64 99999 (by decide)] at f5_0); (try simp only [lg_cmp_lt, lg_cmp_le, lg_cmp_gt, lg_cmp_ge, lg_cmp_eq] at f5_1); (try simp (disch := omega) only [ta_lt, ta_le, ta_eq, tb_lt, tb_le, tb_eq, tw, tnI, tsub1, tsv, tn32 1 (by decide), tnj 1 (by decide), tl32 0 (by decide), tl64 0 (by decide), tl32 1 (by decide), tl64 1 (by decide), tl32 2 (by decide), tl64 2 (by decide), tl32 4 (by decide), tl64 4 (by decide), tl32 10 (by decide), tl64 10 (by decide), tl32 32 (by decide), tl64 32 (by decide), tl32 48 (by decide), tl64 48 (by decide), tl32 57 (by decide), tl64 57 (by decide), tl32 97 (by decide), tl64 97 (by decide), tl32 122 (by decide), tl64 122 (by decide), tl32 99999 (by decide), tl64 99999 (by decide)] at f5_1); (try simp only [lg_cmp_lt, lg_cmp_le, lg_cmp_gt, lg_cmp_ge, lg_cmp_eq] at c6); (try simp (disch := omega) only [ta_lt, ta_le, ta_eq, tb_lt, tb_le, tb_eq, tw, tnI, tsub1, tsv, tn32 1 (by decide), tnj 1 (by decide), tl32 0 (by decide), tl64 0 (by decide), tl32 1 (by decide), tl64 1 (by decide), tl32 2 (by decide), tl64 2 (by decide), tl32 4 (by decide), tl64 4 (by decide), tl32 10 (by decide), tl64 10 (by decide), tl32 32 (by decide), tl64 32 (by decide), tl32 48 (by decide), tl64 48 (by decide), tl32 57 (by decide), tl64 57 (by decide), tl32 97 (by decide), tl64 97 (by decide), tl32 122 (by decide), tl64 122 (by decide), tl32 99999 (by decide), tl64 99999 (by decide)] at c6); (try simp only [lg_cmp_lt, lg_cmp_le, lg_cmp_gt, lg_cmp_ge, lg_cmp_eq] at f8_0); (try simp (disch := omega) only [ta_lt, ta_le, ta_eq, tb_lt, tb_le, tb_eq, tw, tnI, tsub1, tsv, tn32 1 (by decide), tnj 1 (by decide), tl32 0 (by decide), tl64 0 (by decide), tl32 1 (by decide), tl64 1 (by decide), tl32 2 (by decide), tl64 2 (by decide), tl32 4 (by decide), tl64 4 (by decide), tl32 10 (by decide), tl64 10 (by decide), tl32 32 (by decide), tl64 32 (by decide), tl32 48 (by decide), tl64 48 (by decide), tl32 57 (by decide), tl64 57 (by decide), tl32 97 (by decide), tl64 97 (by decide), tl32 122 (by decide), tl64 122 (by decide), tl32 99999 (by decide), tl64 99999 (by decide)] at f8_0); (try simp only [lg_cmp_lt, lg_cmp_le, lg_cmp_gt, lg_cmp_ge, lg_cmp_eq] at f8_1); (try simp (disch := omega) only [ta_lt, ta_le, ta_eq, tb_lt, tb_le, tb_eq, tw, tnI, tsub1, tsv, tn32 1 (by decide), tnj 1 (by decide), tl32 0 (by decide), tl64 0 (by decide), tl32 1 (by decide), tl64 1 (by decide), tl32 2 (by decide), tl64 2 (by decide), tl32 4 (by decide), tl64 4 (by decide), tl32 10 (by decide), tl64 10 (by decide), tl32 32 (by decide), tl64 32 (by decide), tl32 48 (by decide), tl64 48 (by decide), tl32 57 (by decide), tl64 57 (by decide), tl32 97 (by decide), tl64 97 (by decide), tl32 122 (by decide), tl64 122 (by decide), tl32 99999 (by decide), tl64 99999 (by decide)] at f8_1); (try simp only [lg_cmp_lt, lg_cmp_le, lg_cmp_gt, lg_cmp_ge, lg_cmp_eq] at c9); (try simp (disch := omega) only [ta_lt, ta_le, ta_eq, tb_lt, tb_le, tb_eq, tw, tnI, tsub1, tsv, tn32 1 (by decide), tnj 1 (by decide), tl32 0 (by decide), tl64 0 (by decide), tl32 1 (by decide), tl64 1 (by decide), tl32 2 (by decide), tl64 2 (by decide), tl32 4 (by decide), tl64 4 (by decide), tl32 10 (by decide), tl64 10 (by decide), tl32 32 (by decide), tl64 32 (by decide), tl32 48 (by decide), tl64 48 (by decide), tl32 57 (by decide), tl64 57 (by decide), tl32 97 (by decide), tl64 97 (by decide), tl32 122 (by decide), tl64 122 (by decide), tl32 99999 (by decide), tl64 99999 (by decide)] at c9); (try simp only [lg_cmp_lt, lg_cmp_le, lg_cmp_gt, lg_cmp_ge, lg_cmp_eq] at hc10); (try simp (disch := omega) only [ta_lt, ta_le, ta_eq, tb_lt, tb_le, tb_eq, tw, tnI, tsub1, tsv, tn32 1 (by decide), tnj 1 (by decide), tl32 0 (by decide), tl64 0 (by decide), tl32 1 (by decide), tl64 1 (by decide), tl32 2 (by decide), tl64 2 (by decide), tl32 4 (by decide), tl64 4 (by decide), tl32 10 (by decide), tl64 10 (by decide), tl32 32 (by decide), tl64 32 (by decide), tl32 48 (by decide), tl64 48 (by decide), tl32 57 (by decide), tl64 57 (by decide), tl32 97 (by decide), tl64 97 (by decide), tl32 122 (by decide), tl64 122 (by decide), tl32 99999 (by decide), tl64 99999 (by decide)] at hc10); (try simp only [lg_cmp_lt, lg_cmp_le, lg_cmp_gt, lg_cmp_ge, lg_cmp_eq] at hc16); (try simp (disch := omega) only [ta_lt, ta_le, ta_eq, tb_lt, tb_le, tb_eq, tw, tnI, tsub1, tsv, tn32 1 (by decide), tnj 1 (by decide), tl32 0 (by decide), tl64 0 (by decide), tl32 1 (by decide), tl64 1 (by decide), tl32 2 (by decide), tl64 2 (by decide), tl32 4 (by decide), tl64 4 (by decide), tl32 10 (by decide), tl64 10 (by decide), tl32 32 (by decide), tl64 32 (by decide), tl32 48 (by decide), tl64 48 (by decide), tl32 57 (by decide), tl64 57 (by decide), tl32 97 (by decide), tl64 97 (by decide), tl32 122 (by decide), tl64 122 (by decide), tl32 99999 (by decide), tl64 99999 (by decide)] at hc16); (try simp (disch := omega) only [ta_lt, ta_le, ta_eq, tb_lt, tb_le, tb_eq, tw, tnI, tsub1, tsv, tn32 1 (by decide), tnj 1 (by decide), tl32 0 (by decide), tl64 0 (by decide), tl32 1 (by decide), tl64 1 (by decide), tl32 2 (by decide), tl64 2 (by decide), tl32 4 (by decide), tl64 4 (by decide), tl32 10 (by decide), tl64 10 (by decide), tl32 32 (by decide), tl64 32 (by decide), tl32 48 (by decide), tl64 48 (by decide), tl32 57 (by decide), tl64 57 (by decide), tl32 97 (by decide), tl64 97 (by decide), tl32 122 (by decide), tl64 122 (by decide), tl32 99999 (by decide), tl64 99999 (by decide)]); omega)
                  have hF30 : fr true [] [8, 9, 10, 11] σ (sI (sI (sI (sI τ 0 9 (nI aτ)) 0 11 r8) 0 10 4) 0 8 (nI (aτ + 1))) := fr.w hF29 (Or.inr ⟨rfl, by decide⟩) (fun _ h => absurd h (by decide))
                  exact z_vret C0 hr hlk hw (⟨hT30, hF30⟩) (dkP dF_177 DX12_step (i := 122) rfl rfl)
                · skip
                  refine lv_if_eq (tgt := 231) hx hb (dkS dF_153 DX12_step (i := 111) rfl rfl rfl) (by decide) (fun h => absurd h (by decide)) (fun _ => ?_)
                  refine lv_iconst (v := 3) hx hb (dkP dF_6 DX12_step (i := 112) rfl rfl) (by decide) ?_
                  refine lv_goto (tgt := 232) hx hb (dkS dF_167 DX12_step (i := 113) rfl rfl rfl) (by decide) ?_
                  refine z_pi C0 hw 0 10 rfl fp_X12_162 (dk2 dF_181 DX12_step (i := 115) rfl rfl rfl) (fun H locs hw => ?_)
                  have hT31 : TM (sI (sI (sI τ 0 9 (nI aτ)) 0 11 r8) 0 10 3) := TM.w hT27 (show True from trivial)
                  have hF31 : fr true [] [8, 9, 10, 11] σ (sI (sI (sI τ 0 9 (nI aτ)) 0 11 r8) 0 10 3) := fr.w hF27 (Or.inr ⟨rfl, by decide⟩) (fun _ h => absurd h (by decide))
                  refine lv_aload_n hx hb (dkP dF_42 DX12_step (i := 116) rfl rfl) rfl (lv_at hl 1 rfl) ?_
                  refine lv_dup hx hb (dkP dF_89 DX12_step (i := 117) rfl rfl) rfl ?_
                  refine z_gi C0 hw 0 8 rfl fl_X12_153 (dk2 dF_180 DX12_step (i := 118) rfl rfl rfl) ?_
                  refine z_top (y := (nI aτ)) ((rd_n (by omega)).trans ((rd_n (by omega)).trans ((rd_n (by omega)).trans haτ))) ?_
                  refine lv_iconst (v := 1) hx hb (dkP dF_4 DX12_step (i := 119) rfl rfl) (by decide) ?_
                  refine lv_iadd hx hb (dkP dF_96 DX12_step (i := 120) rfl rfl) ?_
                  refine z_top (y := nI (aτ + 1)) (by simp only [fa_lit, nI_add, pk_mul]) ?_
                  refine z_pi C0 hw 0 8 rfl fp_X12_153 (dk2 dF_181 DX12_step (i := 121) rfl rfl rfl) (fun H locs hw => ?_)
                  have hT32 : TM (sI (sI (sI (sI τ 0 9 (nI aτ)) 0 11 r8) 0 10 3) 0 8 (nI (aτ + 1))) := TM.w hT31 (show 0 ≤ _ ∧ _ ≤ 600 from by have hs7 := (show 0 ≤ ((sI (sI (sI τ 0 9 (nI aτ)) 0 11 r8) 0 10 3).1 0 7).toInt ∧ ((sI (sI (sI τ 0 9 (nI aτ)) 0 11 r8) 0 10 3).1 0 7).toInt ≤ 600 from hT31 0 7); have hs7_0 := (show 0 ≤ (τ.1 0 7).toInt ∧ (τ.1 0 7).toInt ≤ 600 from hT_τ 0 7); have hs7_1 := (show 0 ≤ ((sI τ 0 9 (nI aτ)).1 0 7).toInt ∧ ((sI τ 0 9 (nI aτ)).1 0 7).toInt ≤ 600 from hT7 0 7); (try simp only [lg_cmp_lt, lg_cmp_le, lg_cmp_gt, lg_cmp_ge, lg_cmp_eq] at f2_0); (try simp (disch := omega) only [ta_lt, ta_le, ta_eq, tb_lt, tb_le, tb_eq, tw, tnI, tsub1, tsv, tn32 1 (by decide), tnj 1 (by decide), tl32 0 (by decide), tl64 0 (by decide), tl32 1 (by decide), tl64 1 (by decide), tl32 2 (by decide), tl64 2 (by decide), tl32 3 (by decide), tl64 3 (by decide), tl32 4 (by decide), tl64 4 (by decide), tl32 10 (by decide), tl64 10 (by decide), tl32 32 (by decide), tl64 32 (by decide), tl32 48 (by decide), tl64 48 (by decide), tl32 57 (by decide), tl64 57 (by decide), tl32 97 (by decide), tl64 97 (by decide), tl32 122 (by decide), tl64 122 (by decide), tl32 99999 (by decide), tl64 99999 (by decide)] at f2_0); (try simp only [lg_cmp_lt, lg_cmp_le, lg_cmp_gt, lg_cmp_ge, lg_cmp_eq] at f2_1); (try simp (disch := omega) only [ta_lt, ta_le, ta_eq, tb_lt, tb_le, tb_eq, tw, tnI, tsub1, tsv, tn32 1 (by decide), tnj 1 (by decide), tl32 0 (by decide), tl64 0 (by decide), tl32 1 (by decide), tl64 1 (by decide), tl32 2 (by decide), tl64 2 (by decide), tl32 3 (by decide), tl64 3 (by decide), tl32 4 (by decide), tl64 4 (by decide), tl32 10 (by decide), tl64 10 (by decide), tl32 32 (by decide), tl64 32 (by decide), tl32 48 (by decide), tl64 48 (by decide), tl32 57 (by decide), tl64 57 (by decide), tl32 97 (by decide), tl64 97 (by decide), tl32 122 (by decide), tl64 122 (by decide), tl32 99999 (by decide), tl64 99999 (by decide)] at f2_1); (try simp only [lg_cmp_lt, lg_cmp_le, lg_cmp_gt, lg_cmp_ge, lg_cmp_eq] at c3); (try simp (disch := omega) only [ta_lt, ta_le, ta_eq, tb_lt, tb_le, tb_eq, tw, tnI, tsub1, tsv, tn32 1 (by decide), tnj 1 (by decide), tl32 0 (by decide), tl64 0 (by decide), tl32 1 (by decide), tl64 1 (by decide), tl32 2 (by decide), tl64 2 (by decide), tl32 3 (by decide), tl64 3 (by decide), tl32 4 (by decide), tl64 4 (by decide), tl32 10 (by decide), tl64 10 (by decide), tl32 32 (by decide), tl64 32 (by decide), tl32 48 (by decide), tl64 48 (by decide), tl32 57 (by decide), tl64 57 (by decide), tl32 97 (by decide), tl64 97 (by decide), tl32 122 (by decide), tl64 122 (by decide), tl32 99999 (by decide), tl64 99999 (by decide)] at c3); (try simp only [lg_cmp_lt, lg_cmp_le, lg_cmp_gt, lg_cmp_ge, lg_cmp_eq] at f5_0); (try simp (disch := omega) only [ta_lt, ta_le, ta_eq, tb_lt, tb_le, tb_eq, tw, tnI, tsub1, tsv, tn32 1 (by decide), tnj 1 (by decide), tl32 0 (by decide), tl64 0 (by decide), tl32 1 (by decide), tl64 1 (by decide), tl32 2 (by decide), tl64 2 (by decide), tl32 3 (by decide), tl64 3 (by decide), tl32 4 (by decide), tl64 4 (by decide), tl32 10 (by decide), tl64 10 (by decide), tl32 32 (by decide), tl64 32 (by decide), tl32 48 (by decide), tl64 48 (by decide), tl32 57 (by decide), tl64 57 (by decide), tl32 97 (by decide), tl64 97 (by decide), tl32 122 (by decide), tl64 122 (by decide), tl32 99999 (by decide), tl64 99999 (by decide)] at f5_0); (try simp only [lg_cmp_lt, lg_cmp_le, lg_cmp_gt, lg_cmp_ge, lg_cmp_eq] at f5_1); (try simp (disch := omega) only [ta_lt, ta_le, ta_eq, tb_lt, tb_le, tb_eq, tw, tnI, tsub1, tsv, tn32 1 (by decide), tnj 1 (by decide), tl32 0 (by decide), tl64 0 (by decide), tl32 1 (by decide), tl64 1 (by decide), tl32 2 (by decide), tl64 2 (by decide), tl32 3 (by decide), tl64 3 (by decide), tl32 4 (by decide), tl64 4 (by decide), tl32 10 (by decide), tl64 10 (by decide), tl32 32 (by decide), tl64 32 (by decide), tl32 48 (by decide), tl64 48 (by decide), tl32 57 (by decide), tl64 57 (by decide), tl32 97 (by decide), tl64 97 (by decide), tl32 122 (by decide), tl64 122 (by decide), tl32 99999 (by decide), tl64 99999 (by decide)] at f5_1); (try simp only [lg_cmp_lt, lg_cmp_le, lg_cmp_gt, lg_cmp_ge, lg_cmp_eq] at c6); (try simp (disch := omega) only [ta_lt, ta_le, ta_eq, tb_lt, tb_le, tb_eq, tw, tnI, tsub1, tsv, tn32 1 (by decide), tnj 1 (by decide), tl32 0 (by decide), tl64 0 (by decide), tl32 1 (by decide), tl64 1 (by decide), tl32 2 (by decide), tl64 2 (by decide), tl32 3 (by decide), tl64 3 (by decide), tl32 4 (by decide), tl64 4 (by decide), tl32 10 (by decide), tl64 10 (by decide), tl32 32 (by decide), tl64 32 (by decide), tl32 48 (by decide), tl64 48 (by decide), tl32 57 (by decide), tl64 57 (by decide), tl32 97 (by decide), tl64 97 (by decide), tl32 122 (by decide), tl64 122 (by decide), tl32 99999 (by decide), tl64 99999 (by decide)] at c6); (try simp only [lg_cmp_lt, lg_cmp_le, lg_cmp_gt, lg_cmp_ge, lg_cmp_eq] at f8_0); (try simp (disch := omega) only [ta_lt, ta_le, ta_eq, tb_lt, tb_le, tb_eq, tw, tnI, tsub1, tsv, tn32 1 (by decide), tnj 1 (by decide), tl32 0 (by decide), tl64 0 (by decide), tl32 1 (by decide), tl64 1 (by decide), tl32 2 (by decide), tl64 2 (by decide), tl32 3 (by decide), tl64 3 (by decide), tl32 4 (by decide), tl64 4 (by decide), tl32 10 (by decide), tl64 10 (by decide), tl32 32 (by decide), tl64 32 (by decide), tl32 48 (by decide), tl64 48 (by decide), tl32 57 (by decide), tl64 57 (by decide), tl32 97 (by decide), tl64 97 (by decide), tl32 122 (by decide), tl64 122 (by decide), tl32 99999 (by decide), tl64 99999 (by decide)] at f8_0); (try simp only [lg_cmp_lt, lg_cmp_le, lg_cmp_gt, lg_cmp_ge, lg_cmp_eq] at f8_1); (try simp (disch := omega) only [ta_lt, ta_le, ta_eq, tb_lt, tb_le, tb_eq, tw, tnI, tsub1, tsv, tn32 1 (by decide), tnj 1 (by decide), tl32 0 (by decide), tl64 0 (by decide), tl32 1 (by decide), tl64 1 (by decide), tl32 2 (by decide), tl64 2 (by decide), tl32 3 (by decide), tl64 3 (by decide), tl32 4 (by decide), tl64 4 (by decide), tl32 10 (by decide), tl64 10 (by decide), tl32 32 (by decide), tl64 32 (by decide), tl32 48 (by decide), tl64 48 (by decide), tl32 57 (by decide), tl64 57 (by decide), tl32 97 (by decide), tl64 97 (by decide), tl32 122 (by decide), tl64 122 (by decide), tl32 99999 (by decide), tl64 99999 (by decide)] at f8_1); (try simp only [lg_cmp_lt, lg_cmp_le, lg_cmp_gt, lg_cmp_ge, lg_cmp_eq] at c9); (try simp (disch := omega) only [ta_lt, ta_le, ta_eq, tb_lt, tb_le, tb_eq, tw, tnI, tsub1, tsv, tn32 1 (by decide), tnj 1 (by decide), tl32 0 (by decide), tl64 0 (by decide), tl32 1 (by decide), tl64 1 (by decide), tl32 2 (by decide), tl64 2 (by decide), tl32 3 (by decide), tl64 3 (by decide), tl32 4 (by decide), tl64 4 (by decide), tl32 10 (by decide), tl64 10 (by decide), tl32 32 (by decide), tl64 32 (by decide), tl32 48 (by decide), tl64 48 (by decide), tl32 57 (by decide), tl64 57 (by decide), tl32 97 (by decide), tl64 97 (by decide), tl32 122 (by decide), tl64 122 (by decide), tl32 99999 (by decide), tl64 99999 (by decide)] at c9); (try simp only [lg_cmp_lt, lg_cmp_le, lg_cmp_gt, lg_cmp_ge, lg_cmp_eq] at hc10); (try simp (disch := omega) only [ta_lt, ta_le, ta_eq, tb_lt, tb_le, tb_eq, tw, tnI, tsub1, tsv, tn32 1 (by decide), tnj 1 (by decide), tl32 0 (by decide), tl64 0 (by decide), tl32 1 (by decide), tl64 1 (by decide), tl32 2 (by decide), tl64 2 (by decide), tl32 3 (by decide), tl64 3 (by decide), tl32 4 (by decide), tl64 4 (by decide), tl32 10 (by decide), tl64 10 (by decide), tl32 32 (by decide), tl64 32 (by decide), tl32 48 (by decide), tl64 48 (by decide), tl32 57 (by decide), tl64 57 (by decide), tl32 97 (by decide), tl64 97 (by decide), tl32 122 (by decide), tl64 122 (by decide), tl32 99999 (by decide), tl64 99999 (by decide)] at hc10); (try simp only [lg_cmp_lt, lg_cmp_le, lg_cmp_gt, lg_cmp_ge, lg_cmp_eq] at hc16); (try simp (disch := omega) only [ta_lt, ta_le, ta_eq, tb_lt, tb_le, tb_eq, tw, tnI, tsub1, tsv, tn32 1 (by decide), tnj 1 (by decide), tl32 0 (by decide), tl64 0 (by decide), tl32 1 (by decide), tl64 1 (by decide), tl32 2 (by decide), tl64 2 (by decide), tl32 3 (by decide), tl64 3 (by decide), tl32 4 (by decide), tl64 4 (by decide), tl32 10 (by decide), tl64 10 (by decide), tl32 32 (by decide), tl64 32 (by decide), tl32 48 (by decide), tl64 48 (by decide), tl32 57 (by decide), tl64 57 (by decide), tl32 97 (by decide), tl64 97 (by decide), tl32 122 (by decide), tl64 122 (by decide), tl32 99999 (by decide), tl64 99999 (by decide)] at hc16); (try simp (disch := omega) only [ta_lt, ta_le, ta_eq, tb_lt, tb_le, tb_eq, tw, tnI, tsub1, tsv, tn32 1 (by decide), tnj 1 (by decide), tl32 0 (by decide), tl64 0 (by decide), tl32 1 (by decide), tl64 1 (by decide), tl32 2 (by decide), tl64 2 (by decide), tl32 3 (by decide), tl64 3 (by decide), tl32 4 (by decide), tl64 4 (by decide), tl32 10 (by decide), tl64 10 (by decide), tl32 32 (by decide), tl64 32 (by decide), tl32 48 (by decide), tl64 48 (by decide), tl32 57 (by decide), tl64 57 (by decide), tl32 97 (by decide), tl64 97 (by decide), tl32 122 (by decide), tl64 122 (by decide), tl32 99999 (by decide), tl64 99999 (by decide)]); omega)
                  have hF32 : fr true [] [8, 9, 10, 11] σ (sI (sI (sI (sI τ 0 9 (nI aτ)) 0 11 r8) 0 10 3) 0 8 (nI (aτ + 1))) := fr.w hF31 (Or.inr ⟨rfl, by decide⟩) (fun _ h => absurd h (by decide))
                  exact z_vret C0 hr hlk hw (⟨hT32, hF32⟩) (dkP dF_177 DX12_step (i := 122) rfl rfl)
          · (try simp (disch := omega) only [ta_lt, ta_le, ta_eq, tnI, tn32 1 (by decide)] at c9)
            refine lv_aload_n hx hb (dkP dF_42 DX12_step (i := 31) rfl rfl) rfl (lv_at hl 1 rfl) ?_
            refine lv_iconst (v := 0) hx hb (dkP dF_3 DX12_step (i := 32) rfl rfl) (by decide) ?_
            refine z_pi C0 hw 0 10 rfl fp_X12_162 (dk2 dF_181 DX12_step (i := 33) rfl rfl rfl) (fun H locs hw => ?_)
            have hT33 : TM (sI (sI τ 0 9 (nI aτ)) 0 10 0) := TM.w hT7 (show True from trivial)
            have hF33 : fr true [] [8, 9, 10, 11] σ (sI (sI τ 0 9 (nI aτ)) 0 10 0) := fr.w hF7 (Or.inr ⟨rfl, by decide⟩) (fun _ h => absurd h (by decide))
            refine lv_goto (tgt := 245) hx hb (dkS dF_167 DX12_step (i := 34) rfl rfl rfl) (by decide) ?_
            exact z_vret C0 hr hlk hw (⟨hT33, hF33⟩) (dkP dF_177 DX12_step (i := 122) rfl rfl)
        · (try simp (disch := omega) only [ta_lt, ta_le, ta_eq, tnI, tl32 10 (by decide)] at c6)
          refine lv_aload_n hx hb (dkP dF_42 DX12_step (i := 12) rfl rfl) rfl (lv_at hl 0 rfl) ?_
          refine lv_dup hx hb (dkP dF_89 DX12_step (i := 13) rfl rfl) rfl ?_
          refine z_gi C0 hw 0 8 rfl fl_X12_153 (dk2 dF_180 DX12_step (i := 14) rfl rfl rfl) ?_
          refine z_top (y := (nI aτ)) haτ ?_
          refine lv_iconst (v := 1) hx hb (dkP dF_4 DX12_step (i := 15) rfl rfl) (by decide) ?_
          refine lv_iadd hx hb (dkP dF_96 DX12_step (i := 16) rfl rfl) ?_
          refine z_top (y := nI (aτ + 1)) (by simp only [fa_lit, nI_add, pk_mul]) ?_
          refine z_pi C0 hw 0 8 rfl fp_X12_153 (dk2 dF_181 DX12_step (i := 17) rfl rfl rfl) (fun H locs hw => ?_)
          have hT34 : TM (sI τ 0 8 (nI (aτ + 1))) := TM.w hT_τ (show 0 ≤ _ ∧ _ ≤ 600 from by have hs7 := (show 0 ≤ (τ.1 0 7).toInt ∧ (τ.1 0 7).toInt ≤ 600 from hT_τ 0 7); have hs7_0 := (show 0 ≤ (τ.1 0 7).toInt ∧ (τ.1 0 7).toInt ≤ 600 from hT_τ 0 7); (try simp only [lg_cmp_lt, lg_cmp_le, lg_cmp_gt, lg_cmp_ge, lg_cmp_eq] at f2_0); (try simp (disch := omega) only [ta_lt, ta_le, ta_eq, tb_lt, tb_le, tb_eq, tw, tnI, tsub1, tsv, tn32 1 (by decide), tnj 1 (by decide), tl32 0 (by decide), tl64 0 (by decide), tl32 1 (by decide), tl64 1 (by decide), tl32 2 (by decide), tl64 2 (by decide), tl32 3 (by decide), tl64 3 (by decide), tl32 4 (by decide), tl64 4 (by decide), tl32 10 (by decide), tl64 10 (by decide), tl32 32 (by decide), tl64 32 (by decide), tl32 48 (by decide), tl64 48 (by decide), tl32 57 (by decide), tl64 57 (by decide), tl32 97 (by decide), tl64 97 (by decide), tl32 122 (by decide), tl64 122 (by decide), tl32 99999 (by decide), tl64 99999 (by decide)] at f2_0); (try simp only [lg_cmp_lt, lg_cmp_le, lg_cmp_gt, lg_cmp_ge, lg_cmp_eq] at f2_1); (try simp (disch := omega) only [ta_lt, ta_le, ta_eq, tb_lt, tb_le, tb_eq, tw, tnI, tsub1, tsv, tn32 1 (by decide), tnj 1 (by decide), tl32 0 (by decide), tl64 0 (by decide), tl32 1 (by decide), tl64 1 (by decide), tl32 2 (by decide), tl64 2 (by decide), tl32 3 (by decide), tl64 3 (by decide), tl32 4 (by decide), tl64 4 (by decide), tl32 10 (by decide), tl64 10 (by decide), tl32 32 (by decide), tl64 32 (by decide), tl32 48 (by decide), tl64 48 (by decide), tl32 57 (by decide), tl64 57 (by decide), tl32 97 (by decide), tl64 97 (by decide), tl32 122 (by decide), tl64 122 (by decide), tl32 99999 (by decide), tl64 99999 (by decide)] at f2_1); (try simp only [lg_cmp_lt, lg_cmp_le, lg_cmp_gt, lg_cmp_ge, lg_cmp_eq] at c3); (try simp (disch := omega) only [ta_lt, ta_le, ta_eq, tb_lt, tb_le, tb_eq, tw, tnI, tsub1, tsv, tn32 1 (by decide), tnj 1 (by decide), tl32 0 (by decide), tl64 0 (by decide), tl32 1 (by decide), tl64 1 (by decide), tl32 2 (by decide), tl64 2 (by decide), tl32 3 (by decide), tl64 3 (by decide), tl32 4 (by decide), tl64 4 (by decide), tl32 10 (by decide), tl64 10 (by decide), tl32 32 (by decide), tl64 32 (by decide), tl32 48 (by decide), tl64 48 (by decide), tl32 57 (by decide), tl64 57 (by decide), tl32 97 (by decide), tl64 97 (by decide), tl32 122 (by decide), tl64 122 (by decide), tl32 99999 (by decide), tl64 99999 (by decide)] at c3); (try simp only [lg_cmp_lt, lg_cmp_le, lg_cmp_gt, lg_cmp_ge, lg_cmp_eq] at f5_0); (try simp (disch := omega) only [ta_lt, ta_le, ta_eq, tb_lt, tb_le, tb_eq, tw, tnI, tsub1, tsv, tn32 1 (by decide), tnj 1 (by decide), tl32 0 (by decide), tl64 0 (by decide), tl32 1 (by decide), tl64 1 (by decide), tl32 2 (by decide), tl64 2 (by decide), tl32 3 (by decide), tl64 3 (by decide), tl32 4 (by decide), tl64 4 (by decide), tl32 10 (by decide), tl64 10 (by decide), tl32 32 (by decide), tl64 32 (by decide), tl32 48 (by decide), tl64 48 (by decide), tl32 57 (by decide), tl64 57 (by decide), tl32 97 (by decide), tl64 97 (by decide), tl32 122 (by decide), tl64 122 (by decide), tl32 99999 (by decide), tl64 99999 (by decide)] at f5_0); (try simp only [lg_cmp_lt, lg_cmp_le, lg_cmp_gt, lg_cmp_ge, lg_cmp_eq] at f5_1); (try simp (disch := omega) only [ta_lt, ta_le, ta_eq, tb_lt, tb_le, tb_eq, tw, tnI, tsub1, tsv, tn32 1 (by decide), tnj 1 (by decide), tl32 0 (by decide), tl64 0 (by decide), tl32 1 (by decide), tl64 1 (by decide), tl32 2 (by decide), tl64 2 (by decide), tl32 3 (by decide), tl64 3 (by decide), tl32 4 (by decide), tl64 4 (by decide), tl32 10 (by decide), tl64 10 (by decide), tl32 32 (by decide), tl64 32 (by decide), tl32 48 (by decide), tl64 48 (by decide), tl32 57 (by decide), tl64 57 (by decide), tl32 97 (by decide), tl64 97 (by decide), tl32 122 (by decide), tl64 122 (by decide), tl32 99999 (by decide), tl64 99999 (by decide)] at f5_1); (try simp only [lg_cmp_lt, lg_cmp_le, lg_cmp_gt, lg_cmp_ge, lg_cmp_eq] at c6); (try simp (disch := omega) only [ta_lt, ta_le, ta_eq, tb_lt, tb_le, tb_eq, tw, tnI, tsub1, tsv, tn32 1 (by decide), tnj 1 (by decide), tl32 0 (by decide), tl64 0 (by decide), tl32 1 (by decide), tl64 1 (by decide), tl32 2 (by decide), tl64 2 (by decide), tl32 3 (by decide), tl64 3 (by decide), tl32 4 (by decide), tl64 4 (by decide), tl32 10 (by decide), tl64 10 (by decide), tl32 32 (by decide), tl64 32 (by decide), tl32 48 (by decide), tl64 48 (by decide), tl32 57 (by decide), tl64 57 (by decide), tl32 97 (by decide), tl64 97 (by decide), tl32 122 (by decide), tl64 122 (by decide), tl32 99999 (by decide), tl64 99999 (by decide)] at c6); (try simp (disch := omega) only [ta_lt, ta_le, ta_eq, tb_lt, tb_le, tb_eq, tw, tnI, tsub1, tsv, tn32 1 (by decide), tnj 1 (by decide), tl32 0 (by decide), tl64 0 (by decide), tl32 1 (by decide), tl64 1 (by decide), tl32 2 (by decide), tl64 2 (by decide), tl32 3 (by decide), tl64 3 (by decide), tl32 4 (by decide), tl64 4 (by decide), tl32 10 (by decide), tl64 10 (by decide), tl32 32 (by decide), tl64 32 (by decide), tl32 48 (by decide), tl64 48 (by decide), tl32 57 (by decide), tl64 57 (by decide), tl32 97 (by decide), tl64 97 (by decide), tl32 122 (by decide), tl64 122 (by decide), tl32 99999 (by decide), tl64 99999 (by decide)]); omega)
          have hF34 : fr true [] [8, 9, 10, 11] σ (sI τ 0 8 (nI (aτ + 1))) := fr.w hF_τ (Or.inr ⟨rfl, by decide⟩) (fun _ h => absurd h (by decide))
          refine lv_goto (tgt := 0) hx hb (dkS dF_167 DX12_step (i := 18) rfl rfl rfl) (by decide) ?_
          exact ih1 (aτ + 1) (sI τ 0 8 (nI (aτ + 1))) _ _ _ (by omega) rd_s (by have hs7_0 := (show 0 ≤ (τ.1 0 7).toInt ∧ (τ.1 0 7).toInt ≤ 600 from hT_τ 0 7); (try simp only [lg_cmp_lt, lg_cmp_le, lg_cmp_gt, lg_cmp_ge, lg_cmp_eq] at f2_0); (try simp (disch := omega) only [ta_lt, ta_le, ta_eq, tb_lt, tb_le, tb_eq, tw, tnI, tsub1, tsv, tn32 1 (by decide), tnj 1 (by decide), tl32 0 (by decide), tl64 0 (by decide), tl32 1 (by decide), tl64 1 (by decide), tl32 2 (by decide), tl64 2 (by decide), tl32 3 (by decide), tl64 3 (by decide), tl32 4 (by decide), tl64 4 (by decide), tl32 10 (by decide), tl64 10 (by decide), tl32 32 (by decide), tl64 32 (by decide), tl32 48 (by decide), tl64 48 (by decide), tl32 57 (by decide), tl64 57 (by decide), tl32 97 (by decide), tl64 97 (by decide), tl32 122 (by decide), tl64 122 (by decide), tl32 99999 (by decide), tl64 99999 (by decide)] at f2_0); (try simp only [lg_cmp_lt, lg_cmp_le, lg_cmp_gt, lg_cmp_ge, lg_cmp_eq] at f2_1); (try simp (disch := omega) only [ta_lt, ta_le, ta_eq, tb_lt, tb_le, tb_eq, tw, tnI, tsub1, tsv, tn32 1 (by decide), tnj 1 (by decide), tl32 0 (by decide), tl64 0 (by decide), tl32 1 (by decide), tl64 1 (by decide), tl32 2 (by decide), tl64 2 (by decide), tl32 3 (by decide), tl64 3 (by decide), tl32 4 (by decide), tl64 4 (by decide), tl32 10 (by decide), tl64 10 (by decide), tl32 32 (by decide), tl64 32 (by decide), tl32 48 (by decide), tl64 48 (by decide), tl32 57 (by decide), tl64 57 (by decide), tl32 97 (by decide), tl64 97 (by decide), tl32 122 (by decide), tl64 122 (by decide), tl32 99999 (by decide), tl64 99999 (by decide)] at f2_1); (try simp only [lg_cmp_lt, lg_cmp_le, lg_cmp_gt, lg_cmp_ge, lg_cmp_eq] at c3); (try simp (disch := omega) only [ta_lt, ta_le, ta_eq, tb_lt, tb_le, tb_eq, tw, tnI, tsub1, tsv, tn32 1 (by decide), tnj 1 (by decide), tl32 0 (by decide), tl64 0 (by decide), tl32 1 (by decide), tl64 1 (by decide), tl32 2 (by decide), tl64 2 (by decide), tl32 3 (by decide), tl64 3 (by decide), tl32 4 (by decide), tl64 4 (by decide), tl32 10 (by decide), tl64 10 (by decide), tl32 32 (by decide), tl64 32 (by decide), tl32 48 (by decide), tl64 48 (by decide), tl32 57 (by decide), tl64 57 (by decide), tl32 97 (by decide), tl64 97 (by decide), tl32 122 (by decide), tl64 122 (by decide), tl32 99999 (by decide), tl64 99999 (by decide)] at c3); (try simp only [lg_cmp_lt, lg_cmp_le, lg_cmp_gt, lg_cmp_ge, lg_cmp_eq] at f5_0); (try simp (disch := omega) only [ta_lt, ta_le, ta_eq, tb_lt, tb_le, tb_eq, tw, tnI, tsub1, tsv, tn32 1 (by decide), tnj 1 (by decide), tl32 0 (by decide), tl64 0 (by decide), tl32 1 (by decide), tl64 1 (by decide), tl32 2 (by decide), tl64 2 (by decide), tl32 3 (by decide), tl64 3 (by decide), tl32 4 (by decide), tl64 4 (by decide), tl32 10 (by decide), tl64 10 (by decide), tl32 32 (by decide), tl64 32 (by decide), tl32 48 (by decide), tl64 48 (by decide), tl32 57 (by decide), tl64 57 (by decide), tl32 97 (by decide), tl64 97 (by decide), tl32 122 (by decide), tl64 122 (by decide), tl32 99999 (by decide), tl64 99999 (by decide)] at f5_0); (try simp only [lg_cmp_lt, lg_cmp_le, lg_cmp_gt, lg_cmp_ge, lg_cmp_eq] at f5_1); (try simp (disch := omega) only [ta_lt, ta_le, ta_eq, tb_lt, tb_le, tb_eq, tw, tnI, tsub1, tsv, tn32 1 (by decide), tnj 1 (by decide), tl32 0 (by decide), tl64 0 (by decide), tl32 1 (by decide), tl64 1 (by decide), tl32 2 (by decide), tl64 2 (by decide), tl32 3 (by decide), tl64 3 (by decide), tl32 4 (by decide), tl64 4 (by decide), tl32 10 (by decide), tl64 10 (by decide), tl32 32 (by decide), tl64 32 (by decide), tl32 48 (by decide), tl64 48 (by decide), tl32 57 (by decide), tl64 57 (by decide), tl32 97 (by decide), tl64 97 (by decide), tl32 122 (by decide), tl64 122 (by decide), tl32 99999 (by decide), tl64 99999 (by decide)] at f5_1); (try simp only [lg_cmp_lt, lg_cmp_le, lg_cmp_gt, lg_cmp_ge, lg_cmp_eq] at c6); (try simp (disch := omega) only [ta_lt, ta_le, ta_eq, tb_lt, tb_le, tb_eq, tw, tnI, tsub1, tsv, tn32 1 (by decide), tnj 1 (by decide), tl32 0 (by decide), tl64 0 (by decide), tl32 1 (by decide), tl64 1 (by decide), tl32 2 (by decide), tl64 2 (by decide), tl32 3 (by decide), tl64 3 (by decide), tl32 4 (by decide), tl64 4 (by decide), tl32 10 (by decide), tl64 10 (by decide), tl32 32 (by decide), tl64 32 (by decide), tl32 48 (by decide), tl64 48 (by decide), tl32 57 (by decide), tl64 57 (by decide), tl32 97 (by decide), tl64 97 (by decide), tl32 122 (by decide), tl64 122 (by decide), tl32 99999 (by decide), tl64 99999 (by decide)] at c6); (try simp (disch := omega) only [ta_lt, ta_le, ta_eq, tb_lt, tb_le, tb_eq, tw, tnI, tsub1, tsv, tn32 1 (by decide), tnj 1 (by decide), tl32 0 (by decide), tl64 0 (by decide), tl32 1 (by decide), tl64 1 (by decide), tl32 2 (by decide), tl64 2 (by decide), tl32 3 (by decide), tl64 3 (by decide), tl32 4 (by decide), tl64 4 (by decide), tl32 10 (by decide), tl64 10 (by decide), tl32 32 (by decide), tl64 32 (by decide), tl32 48 (by decide), tl64 48 (by decide), tl32 57 (by decide), tl64 57 (by decide), tl32 97 (by decide), tl64 97 (by decide), tl32 122 (by decide), tl64 122 (by decide), tl32 99999 (by decide), tl64 99999 (by decide)]); omega) hT34 hF34 hw (lv_sub hl [0] rfl)
  obtain ⟨n35, hn35, en35⟩ := rngN (x := σ.1 0 8) (h := 600) (show 0 ≤ _ ∧ _ ≤ 600 from hT 0 8)
  exact lp1 _ n35 σ _ _ _ (Nat.lt_succ_self _) en35 (by (try simp (disch := omega) only [ta_lt, ta_le, ta_eq, tb_lt, tb_le, tb_eq, tw, tnI, tsub1, tsv, tn32 1 (by decide), tnj 1 (by decide), tl32 0 (by decide), tl64 0 (by decide), tl32 1 (by decide), tl64 1 (by decide), tl32 2 (by decide), tl64 2 (by decide), tl32 3 (by decide), tl64 3 (by decide), tl32 4 (by decide), tl64 4 (by decide), tl32 10 (by decide), tl64 10 (by decide), tl32 32 (by decide), tl64 32 (by decide), tl32 48 (by decide), tl64 48 (by decide), tl32 57 (by decide), tl64 57 (by decide), tl32 97 (by decide), tl64 97 (by decide), tl32 122 (by decide), tl64 122 (by decide), tl32 99999 (by decide), tl64 99999 (by decide)]); omega) hT fr.refl hw (lv_sub hl [0] rfl)
set_option maxRecDepth 100000 in
set_option maxHeartbeats 8000000 in
theorem c_X12_wrong (l : Launch) (G : va_G) (kc : KC) (ad : Nat → Nat) (σ : Sg) (kd : Int32) (hk : ¬ kd = 0) (hT : TM σ) : MV l G kc yX12_wrong cX12_wrong 2 1 20 [.ref (ad 0), .int kd] shM ad σ (fun σ1 => (¬ σ1.1 0 12 = 0) ∧ TM σ1 ∧ fr true [] [12, 13] σ σ1) := by
  intro sz
  refine z_body (y := yX12_wrong) (n := 2) (av := [.ref (ad 0), .int kd]) (Qc := fun A => va_Qv (fun σ1 => (¬ σ1.1 0 12 = 0) ∧ TM σ1 ∧ fr true [] [12, 13] σ σ1) (PoC G kc shM ad A) A) (plainFor_of_name (by decide)) (Nat.le_of_ble_eq_true rfl) (fun pr e s m below meth c A C0 hr hlk hnm hw hRo ls hl => ?_) sz
  have hx := C0.1
  have hb := C0.2.1
  have hown := C0.2.2.2.1
  have hts := C0.2.2.2.2.1
  have hl : lv_has ls 2 [(0, .ref (ad 0)), (1, .int kd)] := hl
  refine lv_aload_n hx hb (dkP dF_42 DX12_wrong (i := 0) rfl rfl) rfl (lv_at hl 0 rfl) ?_
  refine zk_I hw (zr_V (As := []) (rest := []) C0 (c_X12_good l G kc ad σ  _) cv_X12_good lk_X12_190 (zp_V C0 hRo hw 0 rfl rfl rfl) rfl hl.1 rfl ⟨by decide, by decide⟩ (Nat.le_of_ble_eq_true rfl) (dk2 dF_182 DX12_wrong (i := 1) rfl rfl rfl) ⟨Nat.le_refl _, Nat.le_refl _⟩) (fun r1 s1 H locs hp hw => ?_)
  obtain ⟨hq1, hs1⟩ := hp
  (rw [hs1] at hw; clear hs1)
  rcases hq1 with ⟨rfl, hc1⟩ | ⟨rfl, hc1⟩
  · skip
    refine lv_if_ne (tgt := 8) hx hb (dkS dF_154 DX12_wrong (i := 2) rfl rfl rfl) (by decide) (fun _ => ?_) (fun h => absurd h (by decide))
    refine lv_aload_n hx hb (dkP dF_42 DX12_wrong (i := 4) rfl rfl) rfl (lv_at hl 0 rfl) ?_
    refine lv_iload_n hx hb (dkP dF_27 DX12_wrong (i := 5) rfl rfl) rfl (lv_at hl 1 rfl) ?_
    refine z_pi C0 hw 0 12 rfl fp_X12_187 (dk2 dF_181 DX12_wrong (i := 6) rfl rfl rfl) (fun H locs hw => ?_)
    have hT2 : TM (sI σ 0 12 kd) := TM.w hT (show True from trivial)
    have hF2 : fr true [] [12, 13] σ (sI σ 0 12 kd) := fr.w fr.refl (Or.inr ⟨rfl, by decide⟩) (fun _ h => absurd h (by decide))
    refine lv_aload_n hx hb (dkP dF_42 DX12_wrong (i := 7) rfl rfl) rfl (lv_at hl 0 rfl) ?_
    refine lv_aload_n hx hb (dkP dF_42 DX12_wrong (i := 8) rfl rfl) rfl (lv_at hl 0 rfl) ?_
    refine z_gi C0 hw 0 9 rfl fl_X12_159 (dk2 dF_180 DX12_wrong (i := 9) rfl rfl rfl) ?_
    obtain ⟨n3, hn3, en3⟩ := rngN (x := (sI σ 0 12 kd).1 0 9) (h := 600) (show 0 ≤ _ ∧ _ ≤ 600 from hT2 0 9)
    refine z_top (y := nI n3) en3 ?_
    refine z_pi C0 hw 0 13 rfl fp_X12_39 (dk2 dF_181 DX12_wrong (i := 10) rfl rfl rfl) (fun H locs hw => ?_)
    have hT4 : TM (sI (sI σ 0 12 kd) 0 13 (nI n3)) := TM.w hT2 (show True from trivial)
    have hF4 : fr true [] [12, 13] σ (sI (sI σ 0 12 kd) 0 13 (nI n3)) := fr.w hF2 (Or.inr ⟨rfl, by decide⟩) (fun _ h => absurd h (by decide))
    exact z_vret C0 hr hlk hw (⟨(by rw [rd_n (by omega), rd_s]; exact hk), hT4, hF4⟩) (dkP dF_177 DX12_wrong (i := 11) rfl rfl)
  · skip
    refine lv_if_ne (tgt := 8) hx hb (dkS dF_154 DX12_wrong (i := 2) rfl rfl rfl) (by decide) (fun h => absurd h (by decide)) (fun _ => ?_)
    exact z_vret C0 hr hlk hw (⟨hc1, hT, fr.refl⟩) (dkP dF_177 DX12_wrong (i := 3) rfl rfl)
set_option maxRecDepth 100000 in
set_option maxHeartbeats 8000000 in
theorem c_X12_is (l : Launch) (G : va_G) (kc : KC) (ad : Nat → Nat) (σ : Sg) (w : Nat) (hw7 : w < 7) (hT : TM σ) : MI l G kc yX12_is cX12_is 4 (some .boolean) 4 85 [.ref (ad 0), .ref (kc.2.1 w)] shM ad σ (fun r σ1 => ((r = 1 ∧ (σ.1 0 12 = 0)) ∨ (r = 0 ∧ (True))) ∧ σ1 = σ) := by
  intro sz
  refine z_body (y := yX12_is) (n := 4) (av := [.ref (ad 0), .ref (kc.2.1 w)]) (Qc := fun A => va_Qi (fun r σ1 => ((r = 1 ∧ (σ.1 0 12 = 0)) ∨ (r = 0 ∧ (True))) ∧ σ1 = σ) (PoC G kc shM ad A) A) (plainFor_of_name (by decide)) (Nat.le_of_ble_eq_true rfl) (fun pr e s m below meth c A C0 hr hlk hnm hw hRo ls hl => ?_) sz
  have hx := C0.1
  have hb := C0.2.1
  have hown := C0.2.2.2.1
  have hts := C0.2.2.2.2.1
  have hl : lv_has ls 4 [(0, .ref (ad 0)), (1, .ref (kc.2.1 w))] := hl
  have hl4 := stl4 w hw7
  refine lv_aload_n hx hb (dkP dF_42 DX12_is (i := 0) rfl rfl) rfl (lv_at hl 0 rfl) ?_
  refine zk_I hw (zr_V (As := []) (rest := []) C0 (c_X12_good l G kc ad σ  _) cv_X12_good lk_X12_190 (zp_V C0 hRo hw 0 rfl rfl rfl) rfl hl.1 rfl ⟨by decide, by decide⟩ (Nat.le_of_ble_eq_true rfl) (dk2 dF_182 DX12_is (i := 1) rfl rfl rfl) ⟨Nat.le_refl _, Nat.le_refl _⟩) (fun r1 s1 H locs hp hw => ?_)
  obtain ⟨hq1, hs1⟩ := hp
  (rw [hs1] at hw; clear hs1)
  rcases hq1 with ⟨rfl, hc1⟩ | ⟨rfl, hc1⟩
  · skip
    refine lv_if_eq (tgt := 35) hx hb (dkS dF_153 DX12_is (i := 2) rfl rfl rfl) (by decide) (fun h => absurd h (by decide)) (fun _ => ?_)
    refine lv_aload_n hx hb (dkP dF_42 DX12_is (i := 3) rfl rfl) rfl (lv_at hl 0 rfl) ?_
    refine z_gi C0 hw 0 10 rfl fl_X12_162 (dk2 dF_180 DX12_is (i := 4) rfl rfl rfl) ?_
    obtain ⟨v2, ev2⟩ : ∃ y : Int32, σ.1 0 10 = y := ⟨_, rfl⟩
    refine z_top (y := v2) ev2 ?_
    refine lv_iconst (v := 1) hx hb (dkP dF_4 DX12_is (i := 5) rfl rfl) (by decide) ?_
    refine lv_icmp_ne (tgt := 35) hx hb (dkS dF_160 DX12_is (i := 6) rfl rfl rfl) (by decide) (fun c3 => ?_) (fun c3 => ?_)
    · (try simp (disch := omega) only [ta_lt, ta_le, ta_eq, tnI, tl32 1 (by decide)] at c3)
      refine lv_iconst (v := 0) hx hb (dkP dF_3 DX12_is (i := 17) rfl rfl) (by decide) ?_
      refine lv_istore_n (lv' := [(2, .int 0), (0, .ref (ad 0)), (1, .ref (kc.2.1 w))]) hx hb (dkP dF_61 DX12_is (i := 18) rfl rfl) rfl hl (by decide) rfl (fun ls hl => ?_)
      obtain ⟨n4, hn4, en4⟩ := rngN (x := σ.1 0 9) (h := 600) (show 0 ≤ _ ∧ _ ≤ 600 from hT 0 9)
      refine lv_iconst (v := 0) hx hb (dkP dF_3 DX12_is (i := 19) rfl rfl) (by decide) ?_
      refine lv_istore_n (lv' := [(3, .int 0), (2, .int 0), (0, .ref (ad 0)), (1, .ref (kc.2.1 w))]) hx hb (dkP dF_62 DX12_is (i := 20) rfl rfl) rfl hl (by decide) rfl (fun ls hl => ?_)
      have lp5 : ∀ (nq : Nat) (k : Nat) (b : Int32) (H : Heap) (locs : List Loc) (ls : Array Slot), stL.getD w 0 - k < nq → (k ≤ stL.getD w 0) → (b = 0 ∨ (b = 1 ∧ n4 + stL.getD w 0 ≤ 600 ∧ σ.1 0 12 = 0)) → St G kc A s.heap shM ad σ H locs → lv_has ls 4 [(3, .int (nI k)), (2, .int b), (0, .ref (ad 0)), (1, .ref (kc.2.1 w))] → W pr l e { frames := 4, cells := 0, slots := 0, locals := 85 } s m ([.ref (ad 0), .ref (kc.2.1 w)] : List Value).toArray below meth c H locs 0 0 (MQ below (va_Qi (fun r σ1 => ((r = 1 ∧ (σ.1 0 12 = 0)) ∨ (r = 0 ∧ (True))) ∧ σ1 = σ) (PoC G kc shM ad A) A) ([.ref (ad 0), .ref (kc.2.1 w)] : List Value).toArray s 0 0 A) (F0 m 39 ls []) := by
        intro nq
        induction nq with
        | zero => intro k b H locs ls hmu; exact absurd hmu (Nat.not_lt_zero _)
        | succ nq ih5 =>
          intro k b H locs ls hmu hk hbb hw hl
          refine lv_iload_n hx hb (dkP dF_29 DX12_is (i := 21) rfl rfl) rfl (lv_at hl 0 rfl) ?_
          refine lv_aload_n hx hb (dkP dF_43 DX12_is (i := 22) rfl rfl) rfl (lv_at hl 3 rfl) ?_
          refine zn_I hw (zr_V (As := []) (rest := [.int (nI k)]) C0 (c_J0_length_8abf5 l G kc w hw7 _) cv_J0_length_8abf5 lk_X12_194 (zp_K C0 hRo hw w hw7) rfl hl.1 rfl ⟨by decide, by decide⟩ (Nat.le_of_ble_eq_true rfl) (dk2 dF_182 DX12_is (i := 23) rfl rfl rfl) ⟨Nat.le_refl _, Nat.le_refl _⟩) (fun r6 s6 H locs hp hw => ?_)
          subst hp
          refine lv_icmp_ge (tgt := 82) hx hb (dkS dF_162 DX12_is (i := 24) rfl rfl rfl) (by decide) (fun c7 => ?_) (fun c7 => ?_)
          · simp (disch := omega) only [ta_lt, ta_le, ta_eq, tnI] at c7
            refine lv_iload_n hx hb (dkP dF_28 DX12_is (i := 44) rfl rfl) rfl (lv_at hl 1 rfl) ?_
            exact z_zret C0 hr hlk (by rcases hbb with h | h; (· exact Or.inl h); (· exact Or.inr h.1)) hw (⟨(by rcases hbb with h | h; (· exact Or.inr ⟨h, trivial⟩); (· exact Or.inl ⟨h.1, h.2.2⟩)), rfl⟩) (dkP dF_172 DX12_is (i := 45) rfl rfl)
          · simp (disch := omega) only [ta_lt, ta_le, ta_eq, tnI] at c7
            refine lv_iload_n hx hb (dkP dF_28 DX12_is (i := 25) rfl rfl) rfl (lv_at hl 1 rfl) ?_
            refine lv_if_eq (tgt := 82) hx hb (dkS dF_153 DX12_is (i := 26) rfl rfl rfl) (by decide) (fun c8 => ?_) (fun c8 => ?_)
            · skip
              refine lv_iload_n hx hb (dkP dF_28 DX12_is (i := 44) rfl rfl) rfl (lv_at hl 1 rfl) ?_
              exact z_zret C0 hr hlk (by rcases hbb with h | h; (· exact Or.inl h); (· exact Or.inr h.1)) hw (⟨(by rcases hbb with h | h; (· exact Or.inr ⟨h, trivial⟩); (· exact Or.inl ⟨h.1, h.2.2⟩)), rfl⟩) (dkP dF_172 DX12_is (i := 45) rfl rfl)
            · skip
              have hfl : n4 + stL.getD w 0 ≤ 600 ∧ σ.1 0 12 = 0 := by rcases hbb with h | h; (· exact absurd h c8); (· exact h.2)
              refine lv_aload_n hx hb (dkP dF_42 DX12_is (i := 27) rfl rfl) rfl (lv_at hl 2 rfl) ?_
              refine z_gr C0 hw 0 4 4 rfl fl_X12_32 (dk2 dF_180 DX12_is (i := 28) rfl rfl rfl) ?_
              refine lv_aload_n hx hb (dkP dF_42 DX12_is (i := 29) rfl rfl) rfl (lv_at hl 2 rfl) ?_
              refine z_gi C0 hw 0 9 rfl fl_X12_159 (dk2 dF_180 DX12_is (i := 30) rfl rfl rfl) ?_
              refine z_top (y := (nI n4)) en4 ?_
              refine lv_iload_n hx hb (dkP dF_29 DX12_is (i := 31) rfl rfl) rfl (lv_at hl 0 rfl) ?_
              refine lv_iadd hx hb (dkP dF_96 DX12_is (i := 32) rfl rfl) ?_
              refine z_top (y := nI (n4 + k)) (by simp only [fa_lit, nI_add, pk_mul]) ?_
              refine z_baldN (n := 600) C0 hw 4 (n4 + k) rfl (by omega) (by decide) (dkP dF_51 DX12_is (i := 33) rfl rfl) ?_
              obtain ⟨v9, ev9⟩ : ∃ y : Int32, σ.1 4 (n4 + k) = y := ⟨_, rfl⟩
              refine z_top (y := v9) ev9 ?_
              refine lv_aload_n hx hb (dkP dF_43 DX12_is (i := 34) rfl rfl) rfl (lv_at hl 3 rfl) ?_
              refine lv_iload_n hx hb (dkP dF_29 DX12_is (i := 35) rfl rfl) rfl (lv_at hl 0 rfl) ?_
              refine zn_I hw (zr_V (As := [.int (nI k)]) (rest := [.int v9]) C0 (c_J0_charAt_5068e l G kc w k hw7 (by omega) _) cv_J0_charAt_5068e lk_X12_200 (zp_K C0 hRo hw w hw7) rfl hl.1 rfl ⟨by decide, by decide⟩ (Nat.le_of_ble_eq_true rfl) (dk2 dF_182 DX12_is (i := 36) rfl rfl rfl) ⟨Nat.le_refl _, Nat.le_refl _⟩) (fun r10 s10 H locs hp hw => ?_)
              subst hp
              refine lv_icmp_ne (tgt := 74) hx hb (dkS dF_160 DX12_is (i := 37) rfl rfl rfl) (by decide) (fun c11 => ?_) (fun c11 => ?_)
              · (try simp (disch := omega) only [ta_lt, ta_le, ta_eq, tnI] at c11)
                refine lv_iconst (v := 0) hx hb (dkP dF_3 DX12_is (i := 40) rfl rfl) (by decide) ?_
                refine lv_istore_n (lv' := [(2, .int 0), (3, .int (nI k)), (0, .ref (ad 0)), (1, .ref (kc.2.1 w))]) hx hb (dkP dF_61 DX12_is (i := 41) rfl rfl) rfl hl (by decide) rfl (fun ls hl => ?_)
                refine lv_iinc (v := nI (k + 1)) (lv' := [(3, .int (nI (k + 1))), (2, .int 0), (0, .ref (ad 0)), (1, .ref (kc.2.1 w))]) hx hb (dkI DX12_is (i := 42) rfl rfl rfl rfl) hl (k := 1) rfl (nI_1 _) (by decide) rfl (fun ls hl => ?_)
                refine lv_goto (tgt := 39) hx hb (dkS dF_167 DX12_is (i := 43) rfl rfl rfl) (by decide) ?_
                exact ih5 (k + 1) 0 _ _ _ (by omega) (by omega) (Or.inl rfl) hw (lv_sub hl [0, 1, 2, 3] rfl)
              · (try simp (disch := omega) only [ta_lt, ta_le, ta_eq, tnI] at c11)
                refine lv_iconst (v := 1) hx hb (dkP dF_4 DX12_is (i := 38) rfl rfl) (by decide) ?_
                refine lv_goto (tgt := 75) hx hb (dkS dF_167 DX12_is (i := 39) rfl rfl rfl) (by decide) ?_
                refine lv_istore_n (lv' := [(2, .int 1), (3, .int (nI k)), (0, .ref (ad 0)), (1, .ref (kc.2.1 w))]) hx hb (dkP dF_61 DX12_is (i := 41) rfl rfl) rfl hl (by decide) rfl (fun ls hl => ?_)
                refine lv_iinc (v := nI (k + 1)) (lv' := [(3, .int (nI (k + 1))), (2, .int 1), (0, .ref (ad 0)), (1, .ref (kc.2.1 w))]) hx hb (dkI DX12_is (i := 42) rfl rfl rfl rfl) hl (k := 1) rfl (nI_1 _) (by decide) rfl (fun ls hl => ?_)
                refine lv_goto (tgt := 39) hx hb (dkS dF_167 DX12_is (i := 43) rfl rfl rfl) (by decide) ?_
                exact ih5 (k + 1) 1 _ _ _ (by omega) (by omega) (Or.inr ⟨rfl, hfl.1, hfl.2⟩) hw (lv_sub hl [0, 1, 2, 3] rfl)
      exact lp5 _ 0 0 _ _ _ (Nat.lt_succ_self _) (by omega) (Or.inl rfl) hw (lv_sub hl [0, 1, 2, 3] rfl)
    · (try simp (disch := omega) only [ta_lt, ta_le, ta_eq, tnI, tl32 1 (by decide)] at c3)
      refine lv_aload_n hx hb (dkP dF_42 DX12_is (i := 7) rfl rfl) rfl (lv_at hl 0 rfl) ?_
      refine z_gi C0 hw 0 8 rfl fl_X12_153 (dk2 dF_180 DX12_is (i := 8) rfl rfl rfl) ?_
      obtain ⟨n12, hn12, en12⟩ := rngN (x := σ.1 0 8) (h := 600) (show 0 ≤ _ ∧ _ ≤ 600 from hT 0 8)
      refine z_top (y := nI n12) en12 ?_
      refine lv_aload_n hx hb (dkP dF_42 DX12_is (i := 9) rfl rfl) rfl (lv_at hl 0 rfl) ?_
      refine z_gi C0 hw 0 9 rfl fl_X12_159 (dk2 dF_180 DX12_is (i := 10) rfl rfl rfl) ?_
      obtain ⟨n13, hn13, en13⟩ := rngN (x := σ.1 0 9) (h := 600) (show 0 ≤ _ ∧ _ ≤ 600 from hT 0 9)
      refine z_top (y := nI n13) en13 ?_
      refine lv_isub hx hb (dkP dF_100 DX12_is (i := 11) rfl rfl) ?_
      refine lv_aload_n hx hb (dkP dF_43 DX12_is (i := 12) rfl rfl) rfl (lv_at hl 1 rfl) ?_
      refine zn_I hw (zr_V (As := []) (rest := [.int ((nI n12) - (nI n13))]) C0 (c_J0_length_8abf5 l G kc w hw7 _) cv_J0_length_8abf5 lk_X12_194 (zp_K C0 hRo hw w hw7) rfl hl.1 rfl ⟨by decide, by decide⟩ (Nat.le_of_ble_eq_true rfl) (dk2 dF_182 DX12_is (i := 13) rfl rfl rfl) ⟨Nat.le_refl _, Nat.le_refl _⟩) (fun r14 s14 H locs hp hw => ?_)
      subst hp
      refine lv_icmp_ne (tgt := 35) hx hb (dkS dF_160 DX12_is (i := 14) rfl rfl rfl) (by decide) (fun c15 => ?_) (fun c15 => ?_)
      · skip
        refine lv_iconst (v := 0) hx hb (dkP dF_3 DX12_is (i := 17) rfl rfl) (by decide) ?_
        refine lv_istore_n (lv' := [(2, .int 0), (0, .ref (ad 0)), (1, .ref (kc.2.1 w))]) hx hb (dkP dF_61 DX12_is (i := 18) rfl rfl) rfl hl (by decide) rfl (fun ls hl => ?_)
        refine lv_iconst (v := 0) hx hb (dkP dF_3 DX12_is (i := 19) rfl rfl) (by decide) ?_
        refine lv_istore_n (lv' := [(3, .int 0), (2, .int 0), (0, .ref (ad 0)), (1, .ref (kc.2.1 w))]) hx hb (dkP dF_62 DX12_is (i := 20) rfl rfl) rfl hl (by decide) rfl (fun ls hl => ?_)
        have lp16 : ∀ (nq : Nat) (k : Nat) (b : Int32) (H : Heap) (locs : List Loc) (ls : Array Slot), stL.getD w 0 - k < nq → (k ≤ stL.getD w 0) → (b = 0 ∨ (b = 1 ∧ n13 + stL.getD w 0 ≤ 600 ∧ σ.1 0 12 = 0)) → St G kc A s.heap shM ad σ H locs → lv_has ls 4 [(3, .int (nI k)), (2, .int b), (0, .ref (ad 0)), (1, .ref (kc.2.1 w))] → W pr l e { frames := 4, cells := 0, slots := 0, locals := 85 } s m ([.ref (ad 0), .ref (kc.2.1 w)] : List Value).toArray below meth c H locs 0 0 (MQ below (va_Qi (fun r σ1 => ((r = 1 ∧ (σ.1 0 12 = 0)) ∨ (r = 0 ∧ (True))) ∧ σ1 = σ) (PoC G kc shM ad A) A) ([.ref (ad 0), .ref (kc.2.1 w)] : List Value).toArray s 0 0 A) (F0 m 39 ls []) := by
          intro nq
          induction nq with
          | zero => intro k b H locs ls hmu; exact absurd hmu (Nat.not_lt_zero _)
          | succ nq ih16 =>
            intro k b H locs ls hmu hk hbb hw hl
            refine lv_iload_n hx hb (dkP dF_29 DX12_is (i := 21) rfl rfl) rfl (lv_at hl 0 rfl) ?_
            refine lv_aload_n hx hb (dkP dF_43 DX12_is (i := 22) rfl rfl) rfl (lv_at hl 3 rfl) ?_
            refine zn_I hw (zr_V (As := []) (rest := [.int (nI k)]) C0 (c_J0_length_8abf5 l G kc w hw7 _) cv_J0_length_8abf5 lk_X12_194 (zp_K C0 hRo hw w hw7) rfl hl.1 rfl ⟨by decide, by decide⟩ (Nat.le_of_ble_eq_true rfl) (dk2 dF_182 DX12_is (i := 23) rfl rfl rfl) ⟨Nat.le_refl _, Nat.le_refl _⟩) (fun r17 s17 H locs hp hw => ?_)
            subst hp
            refine lv_icmp_ge (tgt := 82) hx hb (dkS dF_162 DX12_is (i := 24) rfl rfl rfl) (by decide) (fun c18 => ?_) (fun c18 => ?_)
            · simp (disch := omega) only [ta_lt, ta_le, ta_eq, tnI] at c18
              refine lv_iload_n hx hb (dkP dF_28 DX12_is (i := 44) rfl rfl) rfl (lv_at hl 1 rfl) ?_
              exact z_zret C0 hr hlk (by rcases hbb with h | h; (· exact Or.inl h); (· exact Or.inr h.1)) hw (⟨(by rcases hbb with h | h; (· exact Or.inr ⟨h, trivial⟩); (· exact Or.inl ⟨h.1, h.2.2⟩)), rfl⟩) (dkP dF_172 DX12_is (i := 45) rfl rfl)
            · simp (disch := omega) only [ta_lt, ta_le, ta_eq, tnI] at c18
              refine lv_iload_n hx hb (dkP dF_28 DX12_is (i := 25) rfl rfl) rfl (lv_at hl 1 rfl) ?_
              refine lv_if_eq (tgt := 82) hx hb (dkS dF_153 DX12_is (i := 26) rfl rfl rfl) (by decide) (fun c19 => ?_) (fun c19 => ?_)
              · skip
                refine lv_iload_n hx hb (dkP dF_28 DX12_is (i := 44) rfl rfl) rfl (lv_at hl 1 rfl) ?_
                exact z_zret C0 hr hlk (by rcases hbb with h | h; (· exact Or.inl h); (· exact Or.inr h.1)) hw (⟨(by rcases hbb with h | h; (· exact Or.inr ⟨h, trivial⟩); (· exact Or.inl ⟨h.1, h.2.2⟩)), rfl⟩) (dkP dF_172 DX12_is (i := 45) rfl rfl)
              · skip
                have hfl : n13 + stL.getD w 0 ≤ 600 ∧ σ.1 0 12 = 0 := by rcases hbb with h | h; (· exact absurd h c19); (· exact h.2)
                refine lv_aload_n hx hb (dkP dF_42 DX12_is (i := 27) rfl rfl) rfl (lv_at hl 2 rfl) ?_
                refine z_gr C0 hw 0 4 4 rfl fl_X12_32 (dk2 dF_180 DX12_is (i := 28) rfl rfl rfl) ?_
                refine lv_aload_n hx hb (dkP dF_42 DX12_is (i := 29) rfl rfl) rfl (lv_at hl 2 rfl) ?_
                refine z_gi C0 hw 0 9 rfl fl_X12_159 (dk2 dF_180 DX12_is (i := 30) rfl rfl rfl) ?_
                refine z_top (y := (nI n13)) en13 ?_
                refine lv_iload_n hx hb (dkP dF_29 DX12_is (i := 31) rfl rfl) rfl (lv_at hl 0 rfl) ?_
                refine lv_iadd hx hb (dkP dF_96 DX12_is (i := 32) rfl rfl) ?_
                refine z_top (y := nI (n13 + k)) (by simp only [fa_lit, nI_add, pk_mul]) ?_
                refine z_baldN (n := 600) C0 hw 4 (n13 + k) rfl (by omega) (by decide) (dkP dF_51 DX12_is (i := 33) rfl rfl) ?_
                obtain ⟨v20, ev20⟩ : ∃ y : Int32, σ.1 4 (n13 + k) = y := ⟨_, rfl⟩
                refine z_top (y := v20) ev20 ?_
                refine lv_aload_n hx hb (dkP dF_43 DX12_is (i := 34) rfl rfl) rfl (lv_at hl 3 rfl) ?_
                refine lv_iload_n hx hb (dkP dF_29 DX12_is (i := 35) rfl rfl) rfl (lv_at hl 0 rfl) ?_
                refine zn_I hw (zr_V (As := [.int (nI k)]) (rest := [.int v20]) C0 (c_J0_charAt_5068e l G kc w k hw7 (by omega) _) cv_J0_charAt_5068e lk_X12_200 (zp_K C0 hRo hw w hw7) rfl hl.1 rfl ⟨by decide, by decide⟩ (Nat.le_of_ble_eq_true rfl) (dk2 dF_182 DX12_is (i := 36) rfl rfl rfl) ⟨Nat.le_refl _, Nat.le_refl _⟩) (fun r21 s21 H locs hp hw => ?_)
                subst hp
                refine lv_icmp_ne (tgt := 74) hx hb (dkS dF_160 DX12_is (i := 37) rfl rfl rfl) (by decide) (fun c22 => ?_) (fun c22 => ?_)
                · (try simp (disch := omega) only [ta_lt, ta_le, ta_eq, tnI] at c22)
                  refine lv_iconst (v := 0) hx hb (dkP dF_3 DX12_is (i := 40) rfl rfl) (by decide) ?_
                  refine lv_istore_n (lv' := [(2, .int 0), (3, .int (nI k)), (0, .ref (ad 0)), (1, .ref (kc.2.1 w))]) hx hb (dkP dF_61 DX12_is (i := 41) rfl rfl) rfl hl (by decide) rfl (fun ls hl => ?_)
                  refine lv_iinc (v := nI (k + 1)) (lv' := [(3, .int (nI (k + 1))), (2, .int 0), (0, .ref (ad 0)), (1, .ref (kc.2.1 w))]) hx hb (dkI DX12_is (i := 42) rfl rfl rfl rfl) hl (k := 1) rfl (nI_1 _) (by decide) rfl (fun ls hl => ?_)
                  refine lv_goto (tgt := 39) hx hb (dkS dF_167 DX12_is (i := 43) rfl rfl rfl) (by decide) ?_
                  exact ih16 (k + 1) 0 _ _ _ (by omega) (by omega) (Or.inl rfl) hw (lv_sub hl [0, 1, 2, 3] rfl)
                · (try simp (disch := omega) only [ta_lt, ta_le, ta_eq, tnI] at c22)
                  refine lv_iconst (v := 1) hx hb (dkP dF_4 DX12_is (i := 38) rfl rfl) (by decide) ?_
                  refine lv_goto (tgt := 75) hx hb (dkS dF_167 DX12_is (i := 39) rfl rfl rfl) (by decide) ?_
                  refine lv_istore_n (lv' := [(2, .int 1), (3, .int (nI k)), (0, .ref (ad 0)), (1, .ref (kc.2.1 w))]) hx hb (dkP dF_61 DX12_is (i := 41) rfl rfl) rfl hl (by decide) rfl (fun ls hl => ?_)
                  refine lv_iinc (v := nI (k + 1)) (lv' := [(3, .int (nI (k + 1))), (2, .int 1), (0, .ref (ad 0)), (1, .ref (kc.2.1 w))]) hx hb (dkI DX12_is (i := 42) rfl rfl rfl rfl) hl (k := 1) rfl (nI_1 _) (by decide) rfl (fun ls hl => ?_)
                  refine lv_goto (tgt := 39) hx hb (dkS dF_167 DX12_is (i := 43) rfl rfl rfl) (by decide) ?_
                  exact ih16 (k + 1) 1 _ _ _ (by omega) (by omega) (Or.inr ⟨rfl, hfl.1, hfl.2⟩) hw (lv_sub hl [0, 1, 2, 3] rfl)
        exact lp16 _ 0 0 _ _ _ (Nat.lt_succ_self _) (by omega) (Or.inl rfl) hw (lv_sub hl [0, 1, 2, 3] rfl)
      · skip
        have hal : n13 + stL.getD w 0 = n12 := by have h := congrArg Int32.toInt c15; rw [pk_sub_toInt (by omega) (by omega), tnI _ (by omega)] at h; omega
        refine lv_iconst (v := 1) hx hb (dkP dF_4 DX12_is (i := 15) rfl rfl) (by decide) ?_
        refine lv_goto (tgt := 36) hx hb (dkS dF_167 DX12_is (i := 16) rfl rfl rfl) (by decide) ?_
        refine lv_istore_n (lv' := [(2, .int 1), (0, .ref (ad 0)), (1, .ref (kc.2.1 w))]) hx hb (dkP dF_61 DX12_is (i := 18) rfl rfl) rfl hl (by decide) rfl (fun ls hl => ?_)
        refine lv_iconst (v := 0) hx hb (dkP dF_3 DX12_is (i := 19) rfl rfl) (by decide) ?_
        refine lv_istore_n (lv' := [(3, .int 0), (2, .int 1), (0, .ref (ad 0)), (1, .ref (kc.2.1 w))]) hx hb (dkP dF_62 DX12_is (i := 20) rfl rfl) rfl hl (by decide) rfl (fun ls hl => ?_)
        have lp23 : ∀ (nq : Nat) (k : Nat) (b : Int32) (H : Heap) (locs : List Loc) (ls : Array Slot), stL.getD w 0 - k < nq → (k ≤ stL.getD w 0) → (b = 0 ∨ (b = 1 ∧ n13 + stL.getD w 0 ≤ 600 ∧ σ.1 0 12 = 0)) → St G kc A s.heap shM ad σ H locs → lv_has ls 4 [(3, .int (nI k)), (2, .int b), (0, .ref (ad 0)), (1, .ref (kc.2.1 w))] → W pr l e { frames := 4, cells := 0, slots := 0, locals := 85 } s m ([.ref (ad 0), .ref (kc.2.1 w)] : List Value).toArray below meth c H locs 0 0 (MQ below (va_Qi (fun r σ1 => ((r = 1 ∧ (σ.1 0 12 = 0)) ∨ (r = 0 ∧ (True))) ∧ σ1 = σ) (PoC G kc shM ad A) A) ([.ref (ad 0), .ref (kc.2.1 w)] : List Value).toArray s 0 0 A) (F0 m 39 ls []) := by
          intro nq
          induction nq with
          | zero => intro k b H locs ls hmu; exact absurd hmu (Nat.not_lt_zero _)
          | succ nq ih23 =>
            intro k b H locs ls hmu hk hbb hw hl
            refine lv_iload_n hx hb (dkP dF_29 DX12_is (i := 21) rfl rfl) rfl (lv_at hl 0 rfl) ?_
            refine lv_aload_n hx hb (dkP dF_43 DX12_is (i := 22) rfl rfl) rfl (lv_at hl 3 rfl) ?_
            refine zn_I hw (zr_V (As := []) (rest := [.int (nI k)]) C0 (c_J0_length_8abf5 l G kc w hw7 _) cv_J0_length_8abf5 lk_X12_194 (zp_K C0 hRo hw w hw7) rfl hl.1 rfl ⟨by decide, by decide⟩ (Nat.le_of_ble_eq_true rfl) (dk2 dF_182 DX12_is (i := 23) rfl rfl rfl) ⟨Nat.le_refl _, Nat.le_refl _⟩) (fun r24 s24 H locs hp hw => ?_)
            subst hp
            refine lv_icmp_ge (tgt := 82) hx hb (dkS dF_162 DX12_is (i := 24) rfl rfl rfl) (by decide) (fun c25 => ?_) (fun c25 => ?_)
            · simp (disch := omega) only [ta_lt, ta_le, ta_eq, tnI] at c25
              refine lv_iload_n hx hb (dkP dF_28 DX12_is (i := 44) rfl rfl) rfl (lv_at hl 1 rfl) ?_
              exact z_zret C0 hr hlk (by rcases hbb with h | h; (· exact Or.inl h); (· exact Or.inr h.1)) hw (⟨(by rcases hbb with h | h; (· exact Or.inr ⟨h, trivial⟩); (· exact Or.inl ⟨h.1, h.2.2⟩)), rfl⟩) (dkP dF_172 DX12_is (i := 45) rfl rfl)
            · simp (disch := omega) only [ta_lt, ta_le, ta_eq, tnI] at c25
              refine lv_iload_n hx hb (dkP dF_28 DX12_is (i := 25) rfl rfl) rfl (lv_at hl 1 rfl) ?_
              refine lv_if_eq (tgt := 82) hx hb (dkS dF_153 DX12_is (i := 26) rfl rfl rfl) (by decide) (fun c26 => ?_) (fun c26 => ?_)
              · skip
                refine lv_iload_n hx hb (dkP dF_28 DX12_is (i := 44) rfl rfl) rfl (lv_at hl 1 rfl) ?_
                exact z_zret C0 hr hlk (by rcases hbb with h | h; (· exact Or.inl h); (· exact Or.inr h.1)) hw (⟨(by rcases hbb with h | h; (· exact Or.inr ⟨h, trivial⟩); (· exact Or.inl ⟨h.1, h.2.2⟩)), rfl⟩) (dkP dF_172 DX12_is (i := 45) rfl rfl)
              · skip
                have hfl : n13 + stL.getD w 0 ≤ 600 ∧ σ.1 0 12 = 0 := by rcases hbb with h | h; (· exact absurd h c26); (· exact h.2)
                refine lv_aload_n hx hb (dkP dF_42 DX12_is (i := 27) rfl rfl) rfl (lv_at hl 2 rfl) ?_
                refine z_gr C0 hw 0 4 4 rfl fl_X12_32 (dk2 dF_180 DX12_is (i := 28) rfl rfl rfl) ?_
                refine lv_aload_n hx hb (dkP dF_42 DX12_is (i := 29) rfl rfl) rfl (lv_at hl 2 rfl) ?_
                refine z_gi C0 hw 0 9 rfl fl_X12_159 (dk2 dF_180 DX12_is (i := 30) rfl rfl rfl) ?_
                refine z_top (y := (nI n13)) en13 ?_
                refine lv_iload_n hx hb (dkP dF_29 DX12_is (i := 31) rfl rfl) rfl (lv_at hl 0 rfl) ?_
                refine lv_iadd hx hb (dkP dF_96 DX12_is (i := 32) rfl rfl) ?_
                refine z_top (y := nI (n13 + k)) (by simp only [fa_lit, nI_add, pk_mul]) ?_
                refine z_baldN (n := 600) C0 hw 4 (n13 + k) rfl (by omega) (by decide) (dkP dF_51 DX12_is (i := 33) rfl rfl) ?_
                obtain ⟨v27, ev27⟩ : ∃ y : Int32, σ.1 4 (n13 + k) = y := ⟨_, rfl⟩
                refine z_top (y := v27) ev27 ?_
                refine lv_aload_n hx hb (dkP dF_43 DX12_is (i := 34) rfl rfl) rfl (lv_at hl 3 rfl) ?_
                refine lv_iload_n hx hb (dkP dF_29 DX12_is (i := 35) rfl rfl) rfl (lv_at hl 0 rfl) ?_
                refine zn_I hw (zr_V (As := [.int (nI k)]) (rest := [.int v27]) C0 (c_J0_charAt_5068e l G kc w k hw7 (by omega) _) cv_J0_charAt_5068e lk_X12_200 (zp_K C0 hRo hw w hw7) rfl hl.1 rfl ⟨by decide, by decide⟩ (Nat.le_of_ble_eq_true rfl) (dk2 dF_182 DX12_is (i := 36) rfl rfl rfl) ⟨Nat.le_refl _, Nat.le_refl _⟩) (fun r28 s28 H locs hp hw => ?_)
                subst hp
                refine lv_icmp_ne (tgt := 74) hx hb (dkS dF_160 DX12_is (i := 37) rfl rfl rfl) (by decide) (fun c29 => ?_) (fun c29 => ?_)
                · (try simp (disch := omega) only [ta_lt, ta_le, ta_eq, tnI] at c29)
                  refine lv_iconst (v := 0) hx hb (dkP dF_3 DX12_is (i := 40) rfl rfl) (by decide) ?_
                  refine lv_istore_n (lv' := [(2, .int 0), (3, .int (nI k)), (0, .ref (ad 0)), (1, .ref (kc.2.1 w))]) hx hb (dkP dF_61 DX12_is (i := 41) rfl rfl) rfl hl (by decide) rfl (fun ls hl => ?_)
                  refine lv_iinc (v := nI (k + 1)) (lv' := [(3, .int (nI (k + 1))), (2, .int 0), (0, .ref (ad 0)), (1, .ref (kc.2.1 w))]) hx hb (dkI DX12_is (i := 42) rfl rfl rfl rfl) hl (k := 1) rfl (nI_1 _) (by decide) rfl (fun ls hl => ?_)
                  refine lv_goto (tgt := 39) hx hb (dkS dF_167 DX12_is (i := 43) rfl rfl rfl) (by decide) ?_
                  exact ih23 (k + 1) 0 _ _ _ (by omega) (by omega) (Or.inl rfl) hw (lv_sub hl [0, 1, 2, 3] rfl)
                · (try simp (disch := omega) only [ta_lt, ta_le, ta_eq, tnI] at c29)
                  refine lv_iconst (v := 1) hx hb (dkP dF_4 DX12_is (i := 38) rfl rfl) (by decide) ?_
                  refine lv_goto (tgt := 75) hx hb (dkS dF_167 DX12_is (i := 39) rfl rfl rfl) (by decide) ?_
                  refine lv_istore_n (lv' := [(2, .int 1), (3, .int (nI k)), (0, .ref (ad 0)), (1, .ref (kc.2.1 w))]) hx hb (dkP dF_61 DX12_is (i := 41) rfl rfl) rfl hl (by decide) rfl (fun ls hl => ?_)
                  refine lv_iinc (v := nI (k + 1)) (lv' := [(3, .int (nI (k + 1))), (2, .int 1), (0, .ref (ad 0)), (1, .ref (kc.2.1 w))]) hx hb (dkI DX12_is (i := 42) rfl rfl rfl rfl) hl (k := 1) rfl (nI_1 _) (by decide) rfl (fun ls hl => ?_)
                  refine lv_goto (tgt := 39) hx hb (dkS dF_167 DX12_is (i := 43) rfl rfl rfl) (by decide) ?_
                  exact ih23 (k + 1) 1 _ _ _ (by omega) (by omega) (Or.inr ⟨rfl, hfl.1, hfl.2⟩) hw (lv_sub hl [0, 1, 2, 3] rfl)
        exact lp23 _ 0 1 _ _ _ (Nat.lt_succ_self _) (by omega) (Or.inr ⟨rfl, by omega, hc1⟩) hw (lv_sub hl [0, 1, 2, 3] rfl)
  · skip
    refine lv_if_eq (tgt := 35) hx hb (dkS dF_153 DX12_is (i := 2) rfl rfl rfl) (by decide) (fun _ => ?_) (fun h => absurd h (by decide))
    refine lv_iconst (v := 0) hx hb (dkP dF_3 DX12_is (i := 17) rfl rfl) (by decide) ?_
    refine lv_istore_n (lv' := [(2, .int 0), (0, .ref (ad 0)), (1, .ref (kc.2.1 w))]) hx hb (dkP dF_61 DX12_is (i := 18) rfl rfl) rfl hl (by decide) rfl (fun ls hl => ?_)
    obtain ⟨n30, hn30, en30⟩ := rngN (x := σ.1 0 9) (h := 600) (show 0 ≤ _ ∧ _ ≤ 600 from hT 0 9)
    refine lv_iconst (v := 0) hx hb (dkP dF_3 DX12_is (i := 19) rfl rfl) (by decide) ?_
    refine lv_istore_n (lv' := [(3, .int 0), (2, .int 0), (0, .ref (ad 0)), (1, .ref (kc.2.1 w))]) hx hb (dkP dF_62 DX12_is (i := 20) rfl rfl) rfl hl (by decide) rfl (fun ls hl => ?_)
    have lp31 : ∀ (nq : Nat) (k : Nat) (b : Int32) (H : Heap) (locs : List Loc) (ls : Array Slot), stL.getD w 0 - k < nq → (k ≤ stL.getD w 0) → (b = 0 ∨ (b = 1 ∧ n30 + stL.getD w 0 ≤ 600 ∧ σ.1 0 12 = 0)) → St G kc A s.heap shM ad σ H locs → lv_has ls 4 [(3, .int (nI k)), (2, .int b), (0, .ref (ad 0)), (1, .ref (kc.2.1 w))] → W pr l e { frames := 4, cells := 0, slots := 0, locals := 85 } s m ([.ref (ad 0), .ref (kc.2.1 w)] : List Value).toArray below meth c H locs 0 0 (MQ below (va_Qi (fun r σ1 => ((r = 1 ∧ (σ.1 0 12 = 0)) ∨ (r = 0 ∧ (True))) ∧ σ1 = σ) (PoC G kc shM ad A) A) ([.ref (ad 0), .ref (kc.2.1 w)] : List Value).toArray s 0 0 A) (F0 m 39 ls []) := by
      intro nq
      induction nq with
      | zero => intro k b H locs ls hmu; exact absurd hmu (Nat.not_lt_zero _)
      | succ nq ih31 =>
        intro k b H locs ls hmu hk hbb hw hl
        refine lv_iload_n hx hb (dkP dF_29 DX12_is (i := 21) rfl rfl) rfl (lv_at hl 0 rfl) ?_
        refine lv_aload_n hx hb (dkP dF_43 DX12_is (i := 22) rfl rfl) rfl (lv_at hl 3 rfl) ?_
        refine zn_I hw (zr_V (As := []) (rest := [.int (nI k)]) C0 (c_J0_length_8abf5 l G kc w hw7 _) cv_J0_length_8abf5 lk_X12_194 (zp_K C0 hRo hw w hw7) rfl hl.1 rfl ⟨by decide, by decide⟩ (Nat.le_of_ble_eq_true rfl) (dk2 dF_182 DX12_is (i := 23) rfl rfl rfl) ⟨Nat.le_refl _, Nat.le_refl _⟩) (fun r32 s32 H locs hp hw => ?_)
        subst hp
        refine lv_icmp_ge (tgt := 82) hx hb (dkS dF_162 DX12_is (i := 24) rfl rfl rfl) (by decide) (fun c33 => ?_) (fun c33 => ?_)
        · simp (disch := omega) only [ta_lt, ta_le, ta_eq, tnI] at c33
          refine lv_iload_n hx hb (dkP dF_28 DX12_is (i := 44) rfl rfl) rfl (lv_at hl 1 rfl) ?_
          exact z_zret C0 hr hlk (by rcases hbb with h | h; (· exact Or.inl h); (· exact Or.inr h.1)) hw (⟨(by rcases hbb with h | h; (· exact Or.inr ⟨h, trivial⟩); (· exact Or.inl ⟨h.1, h.2.2⟩)), rfl⟩) (dkP dF_172 DX12_is (i := 45) rfl rfl)
        · simp (disch := omega) only [ta_lt, ta_le, ta_eq, tnI] at c33
          refine lv_iload_n hx hb (dkP dF_28 DX12_is (i := 25) rfl rfl) rfl (lv_at hl 1 rfl) ?_
          refine lv_if_eq (tgt := 82) hx hb (dkS dF_153 DX12_is (i := 26) rfl rfl rfl) (by decide) (fun c34 => ?_) (fun c34 => ?_)
          · skip
            refine lv_iload_n hx hb (dkP dF_28 DX12_is (i := 44) rfl rfl) rfl (lv_at hl 1 rfl) ?_
            exact z_zret C0 hr hlk (by rcases hbb with h | h; (· exact Or.inl h); (· exact Or.inr h.1)) hw (⟨(by rcases hbb with h | h; (· exact Or.inr ⟨h, trivial⟩); (· exact Or.inl ⟨h.1, h.2.2⟩)), rfl⟩) (dkP dF_172 DX12_is (i := 45) rfl rfl)
          · skip
            have hfl : n30 + stL.getD w 0 ≤ 600 ∧ σ.1 0 12 = 0 := by rcases hbb with h | h; (· exact absurd h c34); (· exact h.2)
            refine lv_aload_n hx hb (dkP dF_42 DX12_is (i := 27) rfl rfl) rfl (lv_at hl 2 rfl) ?_
            refine z_gr C0 hw 0 4 4 rfl fl_X12_32 (dk2 dF_180 DX12_is (i := 28) rfl rfl rfl) ?_
            refine lv_aload_n hx hb (dkP dF_42 DX12_is (i := 29) rfl rfl) rfl (lv_at hl 2 rfl) ?_
            refine z_gi C0 hw 0 9 rfl fl_X12_159 (dk2 dF_180 DX12_is (i := 30) rfl rfl rfl) ?_
            refine z_top (y := (nI n30)) en30 ?_
            refine lv_iload_n hx hb (dkP dF_29 DX12_is (i := 31) rfl rfl) rfl (lv_at hl 0 rfl) ?_
            refine lv_iadd hx hb (dkP dF_96 DX12_is (i := 32) rfl rfl) ?_
            refine z_top (y := nI (n30 + k)) (by simp only [fa_lit, nI_add, pk_mul]) ?_
            refine z_baldN (n := 600) C0 hw 4 (n30 + k) rfl (by omega) (by decide) (dkP dF_51 DX12_is (i := 33) rfl rfl) ?_
            obtain ⟨v35, ev35⟩ : ∃ y : Int32, σ.1 4 (n30 + k) = y := ⟨_, rfl⟩
            refine z_top (y := v35) ev35 ?_
            refine lv_aload_n hx hb (dkP dF_43 DX12_is (i := 34) rfl rfl) rfl (lv_at hl 3 rfl) ?_
            refine lv_iload_n hx hb (dkP dF_29 DX12_is (i := 35) rfl rfl) rfl (lv_at hl 0 rfl) ?_
            refine zn_I hw (zr_V (As := [.int (nI k)]) (rest := [.int v35]) C0 (c_J0_charAt_5068e l G kc w k hw7 (by omega) _) cv_J0_charAt_5068e lk_X12_200 (zp_K C0 hRo hw w hw7) rfl hl.1 rfl ⟨by decide, by decide⟩ (Nat.le_of_ble_eq_true rfl) (dk2 dF_182 DX12_is (i := 36) rfl rfl rfl) ⟨Nat.le_refl _, Nat.le_refl _⟩) (fun r36 s36 H locs hp hw => ?_)
            subst hp
            refine lv_icmp_ne (tgt := 74) hx hb (dkS dF_160 DX12_is (i := 37) rfl rfl rfl) (by decide) (fun c37 => ?_) (fun c37 => ?_)
            · (try simp (disch := omega) only [ta_lt, ta_le, ta_eq, tnI] at c37)
              refine lv_iconst (v := 0) hx hb (dkP dF_3 DX12_is (i := 40) rfl rfl) (by decide) ?_
              refine lv_istore_n (lv' := [(2, .int 0), (3, .int (nI k)), (0, .ref (ad 0)), (1, .ref (kc.2.1 w))]) hx hb (dkP dF_61 DX12_is (i := 41) rfl rfl) rfl hl (by decide) rfl (fun ls hl => ?_)
              refine lv_iinc (v := nI (k + 1)) (lv' := [(3, .int (nI (k + 1))), (2, .int 0), (0, .ref (ad 0)), (1, .ref (kc.2.1 w))]) hx hb (dkI DX12_is (i := 42) rfl rfl rfl rfl) hl (k := 1) rfl (nI_1 _) (by decide) rfl (fun ls hl => ?_)
              refine lv_goto (tgt := 39) hx hb (dkS dF_167 DX12_is (i := 43) rfl rfl rfl) (by decide) ?_
              exact ih31 (k + 1) 0 _ _ _ (by omega) (by omega) (Or.inl rfl) hw (lv_sub hl [0, 1, 2, 3] rfl)
            · (try simp (disch := omega) only [ta_lt, ta_le, ta_eq, tnI] at c37)
              refine lv_iconst (v := 1) hx hb (dkP dF_4 DX12_is (i := 38) rfl rfl) (by decide) ?_
              refine lv_goto (tgt := 75) hx hb (dkS dF_167 DX12_is (i := 39) rfl rfl rfl) (by decide) ?_
              refine lv_istore_n (lv' := [(2, .int 1), (3, .int (nI k)), (0, .ref (ad 0)), (1, .ref (kc.2.1 w))]) hx hb (dkP dF_61 DX12_is (i := 41) rfl rfl) rfl hl (by decide) rfl (fun ls hl => ?_)
              refine lv_iinc (v := nI (k + 1)) (lv' := [(3, .int (nI (k + 1))), (2, .int 1), (0, .ref (ad 0)), (1, .ref (kc.2.1 w))]) hx hb (dkI DX12_is (i := 42) rfl rfl rfl rfl) hl (k := 1) rfl (nI_1 _) (by decide) rfl (fun ls hl => ?_)
              refine lv_goto (tgt := 39) hx hb (dkS dF_167 DX12_is (i := 43) rfl rfl rfl) (by decide) ?_
              exact ih31 (k + 1) 1 _ _ _ (by omega) (by omega) (Or.inr ⟨rfl, hfl.1, hfl.2⟩) hw (lv_sub hl [0, 1, 2, 3] rfl)
    exact lp31 _ 0 0 _ _ _ (Nat.lt_succ_self _) (by omega) (Or.inl rfl) hw (lv_sub hl [0, 1, 2, 3] rfl)
set_option maxRecDepth 100000 in
set_option maxHeartbeats 8000000 in
theorem c_X12_takes (l : Launch) (G : va_G) (kc : KC) (ad : Nat → Nat) (σ : Sg) (w : Nat) (hw7 : w < 7) (hT : TM σ) : MI l G kc yX12_takes cX12_takes 3 (some .boolean) 5 108 [.ref (ad 0), .ref (kc.2.1 w)] shM ad σ (fun r σ1 => ((r = 1 ∧ (σ.1 0 12 = 0)) ∨ (r = 0 ∧ (True))) ∧ TM σ1 ∧ fr true [] [8, 9, 10, 11] σ σ1) := by
  intro sz
  refine z_body (y := yX12_takes) (n := 3) (av := [.ref (ad 0), .ref (kc.2.1 w)]) (Qc := fun A => va_Qi (fun r σ1 => ((r = 1 ∧ (σ.1 0 12 = 0)) ∨ (r = 0 ∧ (True))) ∧ TM σ1 ∧ fr true [] [8, 9, 10, 11] σ σ1) (PoC G kc shM ad A) A) (plainFor_of_name (by decide)) (Nat.le_of_ble_eq_true rfl) (fun pr e s m below meth c A C0 hr hlk hnm hw hRo ls hl => ?_) sz
  have hx := C0.1
  have hb := C0.2.1
  have hown := C0.2.2.2.1
  have hts := C0.2.2.2.2.1
  have hl : lv_has ls 3 [(0, .ref (ad 0)), (1, .ref (kc.2.1 w))] := hl
  refine lv_aload_n hx hb (dkP dF_42 DX12_takes (i := 0) rfl rfl) rfl (lv_at hl 0 rfl) ?_
  refine lv_aload_n hx hb (dkP dF_43 DX12_takes (i := 1) rfl rfl) rfl (lv_at hl 1 rfl) ?_
  refine zk_I hw (zr_V (As := [.ref (kc.2.1 w)]) (rest := []) C0 (c_X12_is l G kc ad σ w (by first | omega | assumption | decide | rfl) hT _) cv_X12_is lk_X12_204 (zp_V C0 hRo hw 0 rfl rfl rfl) rfl hl.1 rfl ⟨by decide, by decide⟩ (Nat.le_of_ble_eq_true rfl) (dk2 dF_182 DX12_takes (i := 2) rfl rfl rfl) ⟨Nat.le_refl _, Nat.le_refl _⟩) (fun r1 s1 H locs hp hw => ?_)
  obtain ⟨f1_0, hs1⟩ := hp
  (rw [hs1] at hw)
  rcases f1_0 with ⟨rfl, hc1⟩ | ⟨rfl, hc1⟩
  · skip
    refine lv_istore_n (lv' := [(2, .int 1), (0, .ref (ad 0)), (1, .ref (kc.2.1 w))]) hx hb (dkP dF_61 DX12_takes (i := 3) rfl rfl) rfl hl (by decide) rfl (fun ls hl => ?_)
    refine lv_iload_n hx hb (dkP dF_28 DX12_takes (i := 4) rfl rfl) rfl (lv_at hl 0 rfl) ?_
    refine lv_if_eq (tgt := 14) hx hb (dkS dF_153 DX12_takes (i := 5) rfl rfl rfl) (by decide) (fun h => absurd h (by decide)) (fun _ => ?_)
    refine lv_aload_n hx hb (dkP dF_42 DX12_takes (i := 6) rfl rfl) rfl (lv_at hl 1 rfl) ?_
    refine zk_V hw (zr_V (As := []) (rest := []) C0 (c_X12_step l G kc ad σ hT _) cv_X12_step lk_X12_208 (zp_V C0 hRo hw 0 rfl rfl rfl) rfl hl.1 rfl ⟨by decide, by decide⟩ (Nat.le_of_ble_eq_true rfl) (dk2 dF_182 DX12_takes (i := 7) rfl rfl rfl) ⟨Nat.le_refl _, Nat.le_refl _⟩) (fun s2 H locs hp hw => ?_)
    obtain ⟨hT2, hG2⟩ := hp
    have hF2 : fr true [] [8, 9, 10, 11] σ s2 := fr.t fr.refl hG2 (by decide) (by decide) (by decide)
    refine lv_iload_n hx hb (dkP dF_28 DX12_takes (i := 8) rfl rfl) rfl (lv_at hl 0 rfl) ?_
    exact z_zret C0 hr hlk (by decide) hw (⟨(Or.inl ⟨rfl, hc1⟩), hT2, hF2⟩) (dkP dF_172 DX12_takes (i := 9) rfl rfl)
  · skip
    refine lv_istore_n (lv' := [(2, .int 0), (0, .ref (ad 0)), (1, .ref (kc.2.1 w))]) hx hb (dkP dF_61 DX12_takes (i := 3) rfl rfl) rfl hl (by decide) rfl (fun ls hl => ?_)
    refine lv_iload_n hx hb (dkP dF_28 DX12_takes (i := 4) rfl rfl) rfl (lv_at hl 0 rfl) ?_
    refine lv_if_eq (tgt := 14) hx hb (dkS dF_153 DX12_takes (i := 5) rfl rfl rfl) (by decide) (fun _ => ?_) (fun h => absurd h (by decide))
    refine lv_iload_n hx hb (dkP dF_28 DX12_takes (i := 8) rfl rfl) rfl (lv_at hl 0 rfl) ?_
    exact z_zret C0 hr hlk (by decide) hw (⟨(Or.inr ⟨rfl, trivial⟩), hT, fr.refl⟩) (dkP dF_172 DX12_takes (i := 9) rfl rfl)
set_option maxRecDepth 100000 in
set_option maxHeartbeats 8000000 in
theorem c_X12_needs (l : Launch) (G : va_G) (kc : KC) (ad : Nat → Nat) (σ : Sg) (w : Nat) (hw7 : w < 7) (hT : TM σ) : MV l G kc yX12_needs cX12_needs 2 6 130 [.ref (ad 0), .ref (kc.2.1 w)] shM ad σ (fun σ1 => TM σ1 ∧ fr true [] [8, 9, 10, 11, 12, 13] σ σ1) := by
  intro sz
  refine z_body (y := yX12_needs) (n := 2) (av := [.ref (ad 0), .ref (kc.2.1 w)]) (Qc := fun A => va_Qv (fun σ1 => TM σ1 ∧ fr true [] [8, 9, 10, 11, 12, 13] σ σ1) (PoC G kc shM ad A) A) (plainFor_of_name (by decide)) (Nat.le_of_ble_eq_true rfl) (fun pr e s m below meth c A C0 hr hlk hnm hw hRo ls hl => ?_) sz
  have hx := C0.1
  have hb := C0.2.1
  have hown := C0.2.2.2.1
  have hts := C0.2.2.2.2.1
  have hl : lv_has ls 2 [(0, .ref (ad 0)), (1, .ref (kc.2.1 w))] := hl
  refine lv_aload_n hx hb (dkP dF_42 DX12_needs (i := 0) rfl rfl) rfl (lv_at hl 0 rfl) ?_
  refine lv_aload_n hx hb (dkP dF_43 DX12_needs (i := 1) rfl rfl) rfl (lv_at hl 1 rfl) ?_
  refine zk_I hw (zr_V (As := [.ref (kc.2.1 w)]) (rest := []) C0 (c_X12_takes l G kc ad σ w (by first | omega | assumption | decide | rfl) hT _) cv_X12_takes lk_X12_211 (zp_V C0 hRo hw 0 rfl rfl rfl) rfl hl.1 rfl ⟨by decide, by decide⟩ (Nat.le_of_ble_eq_true rfl) (dk2 dF_182 DX12_needs (i := 2) rfl rfl rfl) ⟨Nat.le_refl _, Nat.le_refl _⟩) (fun r1 s1 H locs hp hw => ?_)
  obtain ⟨f1_0, hT1, hG1⟩ := hp
  have hF1 : fr true [] [8, 9, 10, 11, 12, 13] σ s1 := fr.t fr.refl hG1 (by decide) (by decide) (by decide)
  rcases f1_0 with ⟨rfl, hc1⟩ | ⟨rfl, hc1⟩
  · skip
    refine lv_if_ne (tgt := 13) hx hb (dkS dF_154 DX12_needs (i := 3) rfl rfl rfl) (by decide) (fun _ => ?_) (fun h => absurd h (by decide))
    exact z_vret C0 hr hlk hw (⟨hT1, hF1⟩) (dkP dF_177 DX12_needs (i := 7) rfl rfl)
  · skip
    refine lv_if_ne (tgt := 13) hx hb (dkS dF_154 DX12_needs (i := 3) rfl rfl rfl) (by decide) (fun h => absurd h (by decide)) (fun _ => ?_)
    refine lv_aload_n hx hb (dkP dF_42 DX12_needs (i := 4) rfl rfl) rfl (lv_at hl 0 rfl) ?_
    refine lv_iconst (v := 1) hx hb (dkP dF_4 DX12_needs (i := 5) rfl rfl) (by decide) ?_
    refine zk_V hw (zr_V (As := [.int 1]) (rest := []) C0 (c_X12_wrong l G kc ad s1 1 (by first | omega | assumption | decide | rfl) hT1 _) cv_X12_wrong lk_X12_214 (zp_V C0 hRo hw 0 rfl rfl rfl) rfl hl.1 rfl ⟨by decide, by decide⟩ (Nat.le_of_ble_eq_true rfl) (dk2 dF_182 DX12_needs (i := 6) rfl rfl rfl) ⟨Nat.le_refl _, Nat.le_refl _⟩) (fun s2 H locs hp hw => ?_)
    obtain ⟨f2_0, hT2, hG2⟩ := hp
    have hF2 : fr true [] [8, 9, 10, 11, 12, 13] σ s2 := fr.t hF1 hG2 (by decide) (by decide) (by decide)
    exact z_vret C0 hr hlk hw (⟨hT2, hF2⟩) (dkP dF_177 DX12_needs (i := 7) rfl rfl)
set_option maxRecDepth 100000 in
set_option maxHeartbeats 8000000 in
theorem c_X12_isSign (l : Launch) (G : va_G) (kc : KC) (ad : Nat → Nat) (σ : Sg) (ch : Int32) (hT : TM σ) : MI l G kc yX12_isSign cX12_isSign 2 (some .boolean) 1 20 [.ref (ad 0), .int ch] shM ad σ (fun r σ1 => ((r = 1 ∧ (σ.1 0 12 = 0)) ∨ (r = 0 ∧ (True))) ∧ σ1 = σ) := by
  intro sz
  refine z_body (y := yX12_isSign) (n := 2) (av := [.ref (ad 0), .int ch]) (Qc := fun A => va_Qi (fun r σ1 => ((r = 1 ∧ (σ.1 0 12 = 0)) ∨ (r = 0 ∧ (True))) ∧ σ1 = σ) (PoC G kc shM ad A) A) (plainFor_of_name (by decide)) (Nat.le_of_ble_eq_true rfl) (fun pr e s m below meth c A C0 hr hlk hnm hw hRo ls hl => ?_) sz
  have hx := C0.1
  have hb := C0.2.1
  have hown := C0.2.2.2.1
  have hts := C0.2.2.2.2.1
  have hl : lv_has ls 2 [(0, .ref (ad 0)), (1, .int ch)] := hl
  refine lv_aload_n hx hb (dkP dF_42 DX12_isSign (i := 0) rfl rfl) rfl (lv_at hl 0 rfl) ?_
  refine zk_I hw (zr_V (As := []) (rest := []) C0 (c_X12_good l G kc ad σ  _) cv_X12_good lk_X12_190 (zp_V C0 hRo hw 0 rfl rfl rfl) rfl hl.1 rfl ⟨by decide, by decide⟩ (Nat.le_of_ble_eq_true rfl) (dk2 dF_182 DX12_isSign (i := 1) rfl rfl rfl) ⟨Nat.le_refl _, Nat.le_refl _⟩) (fun r1 s1 H locs hp hw => ?_)
  obtain ⟨hq1, hs1⟩ := hp
  (rw [hs1] at hw; clear hs1)
  rcases hq1 with ⟨rfl, hc1⟩ | ⟨rfl, hc1⟩
  · skip
    refine lv_if_eq (tgt := 27) hx hb (dkS dF_153 DX12_isSign (i := 2) rfl rfl rfl) (by decide) (fun h => absurd h (by decide)) (fun _ => ?_)
    refine lv_aload_n hx hb (dkP dF_42 DX12_isSign (i := 3) rfl rfl) rfl (lv_at hl 0 rfl) ?_
    refine z_gi C0 hw 0 10 rfl fl_X12_162 (dk2 dF_180 DX12_isSign (i := 4) rfl rfl rfl) ?_
    obtain ⟨v2, ev2⟩ : ∃ y : Int32, σ.1 0 10 = y := ⟨_, rfl⟩
    refine z_top (y := v2) ev2 ?_
    refine lv_iconst (v := 3) hx hb (dkP dF_6 DX12_isSign (i := 5) rfl rfl) (by decide) ?_
    refine lv_icmp_ne (tgt := 27) hx hb (dkS dF_160 DX12_isSign (i := 6) rfl rfl rfl) (by decide) (fun c3 => ?_) (fun c3 => ?_)
    · (try simp (disch := omega) only [ta_lt, ta_le, ta_eq, tnI, tl32 3 (by decide)] at c3)
      refine lv_iconst (v := 0) hx hb (dkP dF_3 DX12_isSign (i := 13) rfl rfl) (by decide) ?_
      exact z_zret C0 hr hlk (by decide) hw (⟨(Or.inr ⟨rfl, trivial⟩), rfl⟩) (dkP dF_172 DX12_isSign (i := 14) rfl rfl)
    · (try simp (disch := omega) only [ta_lt, ta_le, ta_eq, tnI, tl32 3 (by decide)] at c3)
      refine lv_aload_n hx hb (dkP dF_42 DX12_isSign (i := 7) rfl rfl) rfl (lv_at hl 0 rfl) ?_
      refine z_gi C0 hw 0 11 rfl fl_X12_173 (dk2 dF_180 DX12_isSign (i := 8) rfl rfl rfl) ?_
      obtain ⟨v4, ev4⟩ : ∃ y : Int32, σ.1 0 11 = y := ⟨_, rfl⟩
      refine z_top (y := v4) ev4 ?_
      refine lv_iload_n hx hb (dkP dF_27 DX12_isSign (i := 9) rfl rfl) rfl (lv_at hl 1 rfl) ?_
      refine lv_icmp_ne (tgt := 27) hx hb (dkS dF_160 DX12_isSign (i := 10) rfl rfl rfl) (by decide) (fun c5 => ?_) (fun c5 => ?_)
      · (try simp (disch := omega) only [ta_lt, ta_le, ta_eq, tnI] at c5)
        refine lv_iconst (v := 0) hx hb (dkP dF_3 DX12_isSign (i := 13) rfl rfl) (by decide) ?_
        exact z_zret C0 hr hlk (by decide) hw (⟨(Or.inr ⟨rfl, trivial⟩), rfl⟩) (dkP dF_172 DX12_isSign (i := 14) rfl rfl)
      · (try simp (disch := omega) only [ta_lt, ta_le, ta_eq, tnI] at c5)
        refine lv_iconst (v := 1) hx hb (dkP dF_4 DX12_isSign (i := 11) rfl rfl) (by decide) ?_
        refine lv_goto (tgt := 28) hx hb (dkS dF_167 DX12_isSign (i := 12) rfl rfl rfl) (by decide) ?_
        exact z_zret C0 hr hlk (by decide) hw (⟨(Or.inl ⟨rfl, hc1⟩), rfl⟩) (dkP dF_172 DX12_isSign (i := 14) rfl rfl)
  · skip
    refine lv_if_eq (tgt := 27) hx hb (dkS dF_153 DX12_isSign (i := 2) rfl rfl rfl) (by decide) (fun _ => ?_) (fun h => absurd h (by decide))
    refine lv_iconst (v := 0) hx hb (dkP dF_3 DX12_isSign (i := 13) rfl rfl) (by decide) ?_
    exact z_zret C0 hr hlk (by decide) hw (⟨(Or.inr ⟨rfl, trivial⟩), rfl⟩) (dkP dF_172 DX12_isSign (i := 14) rfl rfl)
set_option maxRecDepth 100000 in
set_option maxHeartbeats 8000000 in
theorem c_X12_takesSign (l : Launch) (G : va_G) (kc : KC) (ad : Nat → Nat) (σ : Sg) (ch : Int32) (hT : TM σ) : MI l G kc yX12_takesSign cX12_takesSign 3 (some .boolean) 2 46 [.ref (ad 0), .int ch] shM ad σ (fun r σ1 => ((r = 1 ∧ (σ.1 0 12 = 0)) ∨ (r = 0 ∧ (True))) ∧ TM σ1 ∧ fr true [] [8, 9, 10, 11] σ σ1) := by
  intro sz
  refine z_body (y := yX12_takesSign) (n := 3) (av := [.ref (ad 0), .int ch]) (Qc := fun A => va_Qi (fun r σ1 => ((r = 1 ∧ (σ.1 0 12 = 0)) ∨ (r = 0 ∧ (True))) ∧ TM σ1 ∧ fr true [] [8, 9, 10, 11] σ σ1) (PoC G kc shM ad A) A) (plainFor_of_name (by decide)) (Nat.le_of_ble_eq_true rfl) (fun pr e s m below meth c A C0 hr hlk hnm hw hRo ls hl => ?_) sz
  have hx := C0.1
  have hb := C0.2.1
  have hown := C0.2.2.2.1
  have hts := C0.2.2.2.2.1
  have hl : lv_has ls 3 [(0, .ref (ad 0)), (1, .int ch)] := hl
  refine lv_aload_n hx hb (dkP dF_42 DX12_takesSign (i := 0) rfl rfl) rfl (lv_at hl 0 rfl) ?_
  refine lv_iload_n hx hb (dkP dF_27 DX12_takesSign (i := 1) rfl rfl) rfl (lv_at hl 1 rfl) ?_
  refine zk_I hw (zr_V (As := [.int ch]) (rest := []) C0 (c_X12_isSign l G kc ad σ ch hT _) cv_X12_isSign lk_X12_218 (zp_V C0 hRo hw 0 rfl rfl rfl) rfl hl.1 rfl ⟨by decide, by decide⟩ (Nat.le_of_ble_eq_true rfl) (dk2 dF_182 DX12_takesSign (i := 2) rfl rfl rfl) ⟨Nat.le_refl _, Nat.le_refl _⟩) (fun r1 s1 H locs hp hw => ?_)
  obtain ⟨f1_0, hs1⟩ := hp
  (rw [hs1] at hw)
  rcases f1_0 with ⟨rfl, hc1⟩ | ⟨rfl, hc1⟩
  · skip
    refine lv_istore_n (lv' := [(2, .int 1), (0, .ref (ad 0)), (1, .int ch)]) hx hb (dkP dF_61 DX12_takesSign (i := 3) rfl rfl) rfl hl (by decide) rfl (fun ls hl => ?_)
    refine lv_iload_n hx hb (dkP dF_28 DX12_takesSign (i := 4) rfl rfl) rfl (lv_at hl 0 rfl) ?_
    refine lv_if_eq (tgt := 14) hx hb (dkS dF_153 DX12_takesSign (i := 5) rfl rfl rfl) (by decide) (fun h => absurd h (by decide)) (fun _ => ?_)
    refine lv_aload_n hx hb (dkP dF_42 DX12_takesSign (i := 6) rfl rfl) rfl (lv_at hl 1 rfl) ?_
    refine zk_V hw (zr_V (As := []) (rest := []) C0 (c_X12_step l G kc ad σ hT _) cv_X12_step lk_X12_208 (zp_V C0 hRo hw 0 rfl rfl rfl) rfl hl.1 rfl ⟨by decide, by decide⟩ (Nat.le_of_ble_eq_true rfl) (dk2 dF_182 DX12_takesSign (i := 7) rfl rfl rfl) ⟨Nat.le_refl _, Nat.le_refl _⟩) (fun s2 H locs hp hw => ?_)
    obtain ⟨hT2, hG2⟩ := hp
    have hF2 : fr true [] [8, 9, 10, 11] σ s2 := fr.t fr.refl hG2 (by decide) (by decide) (by decide)
    refine lv_iload_n hx hb (dkP dF_28 DX12_takesSign (i := 8) rfl rfl) rfl (lv_at hl 0 rfl) ?_
    exact z_zret C0 hr hlk (by decide) hw (⟨(Or.inl ⟨rfl, hc1⟩), hT2, hF2⟩) (dkP dF_172 DX12_takesSign (i := 9) rfl rfl)
  · skip
    refine lv_istore_n (lv' := [(2, .int 0), (0, .ref (ad 0)), (1, .int ch)]) hx hb (dkP dF_61 DX12_takesSign (i := 3) rfl rfl) rfl hl (by decide) rfl (fun ls hl => ?_)
    refine lv_iload_n hx hb (dkP dF_28 DX12_takesSign (i := 4) rfl rfl) rfl (lv_at hl 0 rfl) ?_
    refine lv_if_eq (tgt := 14) hx hb (dkS dF_153 DX12_takesSign (i := 5) rfl rfl rfl) (by decide) (fun _ => ?_) (fun h => absurd h (by decide))
    refine lv_iload_n hx hb (dkP dF_28 DX12_takesSign (i := 8) rfl rfl) rfl (lv_at hl 0 rfl) ?_
    exact z_zret C0 hr hlk (by decide) hw (⟨(Or.inr ⟨rfl, trivial⟩), hT, fr.refl⟩) (dkP dF_172 DX12_takesSign (i := 9) rfl rfl)
set_option maxRecDepth 100000 in
set_option maxHeartbeats 8000000 in
theorem c_X12_needsSign (l : Launch) (G : va_G) (kc : KC) (ad : Nat → Nat) (σ : Sg) (ch : Int32) (hT : TM σ) : MV l G kc yX12_needsSign cX12_needsSign 2 3 68 [.ref (ad 0), .int ch] shM ad σ (fun σ1 => TM σ1 ∧ fr true [] [8, 9, 10, 11, 12, 13] σ σ1) := by
  intro sz
  refine z_body (y := yX12_needsSign) (n := 2) (av := [.ref (ad 0), .int ch]) (Qc := fun A => va_Qv (fun σ1 => TM σ1 ∧ fr true [] [8, 9, 10, 11, 12, 13] σ σ1) (PoC G kc shM ad A) A) (plainFor_of_name (by decide)) (Nat.le_of_ble_eq_true rfl) (fun pr e s m below meth c A C0 hr hlk hnm hw hRo ls hl => ?_) sz
  have hx := C0.1
  have hb := C0.2.1
  have hown := C0.2.2.2.1
  have hts := C0.2.2.2.2.1
  have hl : lv_has ls 2 [(0, .ref (ad 0)), (1, .int ch)] := hl
  refine lv_aload_n hx hb (dkP dF_42 DX12_needsSign (i := 0) rfl rfl) rfl (lv_at hl 0 rfl) ?_
  refine lv_iload_n hx hb (dkP dF_27 DX12_needsSign (i := 1) rfl rfl) rfl (lv_at hl 1 rfl) ?_
  refine zk_I hw (zr_V (As := [.int ch]) (rest := []) C0 (c_X12_takesSign l G kc ad σ ch hT _) cv_X12_takesSign lk_X12_221 (zp_V C0 hRo hw 0 rfl rfl rfl) rfl hl.1 rfl ⟨by decide, by decide⟩ (Nat.le_of_ble_eq_true rfl) (dk2 dF_182 DX12_needsSign (i := 2) rfl rfl rfl) ⟨Nat.le_refl _, Nat.le_refl _⟩) (fun r1 s1 H locs hp hw => ?_)
  obtain ⟨f1_0, hT1, hG1⟩ := hp
  have hF1 : fr true [] [8, 9, 10, 11, 12, 13] σ s1 := fr.t fr.refl hG1 (by decide) (by decide) (by decide)
  rcases f1_0 with ⟨rfl, hc1⟩ | ⟨rfl, hc1⟩
  · skip
    refine lv_if_ne (tgt := 13) hx hb (dkS dF_154 DX12_needsSign (i := 3) rfl rfl rfl) (by decide) (fun _ => ?_) (fun h => absurd h (by decide))
    exact z_vret C0 hr hlk hw (⟨hT1, hF1⟩) (dkP dF_177 DX12_needsSign (i := 7) rfl rfl)
  · skip
    refine lv_if_ne (tgt := 13) hx hb (dkS dF_154 DX12_needsSign (i := 3) rfl rfl rfl) (by decide) (fun h => absurd h (by decide)) (fun _ => ?_)
    refine lv_aload_n hx hb (dkP dF_42 DX12_needsSign (i := 4) rfl rfl) rfl (lv_at hl 0 rfl) ?_
    refine lv_iconst (v := 1) hx hb (dkP dF_4 DX12_needsSign (i := 5) rfl rfl) (by decide) ?_
    refine zk_V hw (zr_V (As := [.int 1]) (rest := []) C0 (c_X12_wrong l G kc ad s1 1 (by first | omega | assumption | decide | rfl) hT1 _) cv_X12_wrong lk_X12_214 (zp_V C0 hRo hw 0 rfl rfl rfl) rfl hl.1 rfl ⟨by decide, by decide⟩ (Nat.le_of_ble_eq_true rfl) (dk2 dF_182 DX12_needsSign (i := 6) rfl rfl rfl) ⟨Nat.le_refl _, Nat.le_refl _⟩) (fun s2 H locs hp hw => ?_)
    obtain ⟨f2_0, hT2, hG2⟩ := hp
    have hF2 : fr true [] [8, 9, 10, 11, 12, 13] σ s2 := fr.t hF1 hG2 (by decide) (by decide) (by decide)
    exact z_vret C0 hr hlk hw (⟨hT2, hF2⟩) (dkP dF_177 DX12_needsSign (i := 7) rfl rfl)
set_option maxRecDepth 100000 in
set_option maxHeartbeats 8000000 in
theorem c_X12_number (l : Launch) (G : va_G) (kc : KC) (ad : Nat → Nat) (σ : Sg) (lw : Int32) (hg : Int32) (hT : TM σ) : MI l G kc yX12_number cX12_number 4 (some .int) 2 46 [.ref (ad 0), .int lw, .int hg] shM ad σ (fun r σ1 => TM σ1 ∧ fr true [] [8, 9, 10, 11, 12, 13] σ σ1) := by
  intro sz
  refine z_body (y := yX12_number) (n := 4) (av := [.ref (ad 0), .int lw, .int hg]) (Qc := fun A => va_Qi (fun r σ1 => TM σ1 ∧ fr true [] [8, 9, 10, 11, 12, 13] σ σ1) (PoC G kc shM ad A) A) (plainFor_of_name (by decide)) (Nat.le_of_ble_eq_true rfl) (fun pr e s m below meth c A C0 hr hlk hnm hw hRo ls hl => ?_) sz
  have hx := C0.1
  have hb := C0.2.1
  have hown := C0.2.2.2.1
  have hts := C0.2.2.2.2.1
  have hl : lv_has ls 4 [(0, .ref (ad 0)), (1, .int lw), (2, .int hg)] := hl
  have jp1 : ∀  (σb : Sg) (H : Heap) (locs : List Loc) (ls : Array Slot), (TM σb) → (fr true [] [8, 9, 10, 11, 12, 13] σ σb) → St G kc A s.heap shM ad σb H locs → lv_has ls 4 [(0, .ref (ad 0)), (1, .int lw), (2, .int hg)] → W pr l e { frames := 2, cells := 0, slots := 0, locals := 46 } s m ([.ref (ad 0), .int lw, .int hg] : List Value).toArray below meth c H locs 0 0 (MQ below (va_Qi (fun r σ1 => TM σ1 ∧ fr true [] [8, 9, 10, 11, 12, 13] σ σ1) (PoC G kc shM ad A) A) ([.ref (ad 0), .int lw, .int hg] : List Value).toArray s 0 0 A) (F0 m 47 ls []) := by
    intro  σb H locs ls hT_σb hF_σb hw hl
    refine lv_aload_n hx hb (dkP dF_42 DX12_number (i := 25) rfl rfl) rfl (lv_at hl 0 rfl) ?_
    refine zk_I hw (zr_V (As := []) (rest := []) C0 (c_X12_good l G kc ad σb  _) cv_X12_good lk_X12_190 (zp_V C0 hRo hw 0 rfl rfl rfl) rfl hl.1 rfl ⟨by decide, by decide⟩ (Nat.le_of_ble_eq_true rfl) (dk2 dF_182 DX12_number (i := 26) rfl rfl rfl) ⟨Nat.le_refl _, Nat.le_refl _⟩) (fun r2 s2 H locs hp hw => ?_)
    obtain ⟨hq2, hs2⟩ := hp
    (rw [hs2] at hw; clear hs2)
    rcases hq2 with ⟨rfl, hc2⟩ | ⟨rfl, hc2⟩
    · skip
      refine lv_if_ne (tgt := 56) hx hb (dkS dF_154 DX12_number (i := 27) rfl rfl rfl) (by decide) (fun _ => ?_) (fun h => absurd h (by decide))
      refine lv_aload_n hx hb (dkP dF_42 DX12_number (i := 30) rfl rfl) rfl (lv_at hl 0 rfl) ?_
      refine z_gi C0 hw 0 11 rfl fl_X12_173 (dk2 dF_180 DX12_number (i := 31) rfl rfl rfl) ?_
      obtain ⟨v3, ev3⟩ : ∃ y : Int32, σb.1 0 11 = y := ⟨_, rfl⟩
      refine z_top (y := v3) ev3 ?_
      refine lv_istore_n (lv' := [(3, .int v3), (0, .ref (ad 0)), (1, .int lw), (2, .int hg)]) hx hb (dkP dF_62 DX12_number (i := 32) rfl rfl) rfl hl (by decide) rfl (fun ls hl => ?_)
      refine lv_aload_n hx hb (dkP dF_42 DX12_number (i := 33) rfl rfl) rfl (lv_at hl 1 rfl) ?_
      refine zk_V hw (zr_V (As := []) (rest := []) C0 (c_X12_step l G kc ad σb hT_σb _) cv_X12_step lk_X12_208 (zp_V C0 hRo hw 0 rfl rfl rfl) rfl hl.1 rfl ⟨by decide, by decide⟩ (Nat.le_of_ble_eq_true rfl) (dk2 dF_182 DX12_number (i := 34) rfl rfl rfl) ⟨Nat.le_refl _, Nat.le_refl _⟩) (fun s4 H locs hp hw => ?_)
      obtain ⟨hT4, hG4⟩ := hp
      have hF4 : fr true [] [8, 9, 10, 11, 12, 13] σ s4 := fr.t hF_σb hG4 (by decide) (by decide) (by decide)
      refine lv_iload_n hx hb (dkP dF_29 DX12_number (i := 35) rfl rfl) rfl (lv_at hl 0 rfl) ?_
      exact z_iret C0 hr hlk hw (⟨hT4, hF4⟩) (dkP dF_172 DX12_number (i := 36) rfl rfl)
    · skip
      refine lv_if_ne (tgt := 56) hx hb (dkS dF_154 DX12_number (i := 27) rfl rfl rfl) (by decide) (fun h => absurd h (by decide)) (fun _ => ?_)
      refine lv_iconst (v := 0) hx hb (dkP dF_3 DX12_number (i := 28) rfl rfl) (by decide) ?_
      exact z_iret C0 hr hlk hw (⟨hT_σb, hF_σb⟩) (dkP dF_172 DX12_number (i := 29) rfl rfl)
  have jp5 : ∀  (σa : Sg) (H : Heap) (locs : List Loc) (ls : Array Slot), (TM σa) → (fr true [] [8, 9, 10, 11, 12, 13] σ σa) → St G kc A s.heap shM ad σa H locs → lv_has ls 4 [(0, .ref (ad 0)), (1, .int lw), (2, .int hg)] → W pr l e { frames := 2, cells := 0, slots := 0, locals := 46 } s m ([.ref (ad 0), .int lw, .int hg] : List Value).toArray below meth c H locs 0 0 (MQ below (va_Qi (fun r σ1 => TM σ1 ∧ fr true [] [8, 9, 10, 11, 12, 13] σ σ1) (PoC G kc shM ad A) A) ([.ref (ad 0), .int lw, .int hg] : List Value).toArray s 0 0 A) (F0 m 20 ls []) := by
    intro  σa H locs ls hT_σa hF_σa hw hl
    refine lv_aload_n hx hb (dkP dF_42 DX12_number (i := 10) rfl rfl) rfl (lv_at hl 0 rfl) ?_
    refine zk_I hw (zr_V (As := []) (rest := []) C0 (c_X12_good l G kc ad σa  _) cv_X12_good lk_X12_190 (zp_V C0 hRo hw 0 rfl rfl rfl) rfl hl.1 rfl ⟨by decide, by decide⟩ (Nat.le_of_ble_eq_true rfl) (dk2 dF_182 DX12_number (i := 11) rfl rfl rfl) ⟨Nat.le_refl _, Nat.le_refl _⟩) (fun r6 s6 H locs hp hw => ?_)
    obtain ⟨hq6, hs6⟩ := hp
    (rw [hs6] at hw; clear hs6)
    rcases hq6 with ⟨rfl, hc6⟩ | ⟨rfl, hc6⟩
    · skip
      refine lv_if_eq (tgt := 47) hx hb (dkS dF_153 DX12_number (i := 12) rfl rfl rfl) (by decide) (fun h => absurd h (by decide)) (fun _ => ?_)
      refine lv_aload_n hx hb (dkP dF_42 DX12_number (i := 13) rfl rfl) rfl (lv_at hl 0 rfl) ?_
      refine z_gi C0 hw 0 11 rfl fl_X12_173 (dk2 dF_180 DX12_number (i := 14) rfl rfl rfl) ?_
      obtain ⟨v7, ev7⟩ : ∃ y : Int32, σa.1 0 11 = y := ⟨_, rfl⟩
      refine z_top (y := v7) ev7 ?_
      refine lv_i2l hx hb (dkP dF_133 DX12_number (i := 15) rfl rfl) rfl ?_
      refine lv_iload_n hx hb (dkP dF_27 DX12_number (i := 16) rfl rfl) rfl (lv_at hl 1 rfl) ?_
      refine lv_i2l hx hb (dkP dF_133 DX12_number (i := 17) rfl rfl) rfl ?_
      refine lv_iload_n hx hb (dkP dF_28 DX12_number (i := 18) rfl rfl) rfl (lv_at hl 2 rfl) ?_
      refine lv_i2l hx hb (dkP dF_133 DX12_number (i := 19) rfl rfl) rfl ?_
      refine zn_I hw (zr_S (As := [.long v7.toInt64, .long lw.toInt64, .long hg.toInt64]) (rest := []) C0 (c_X12_in l G kc v7.toInt64 lw.toInt64 hg.toInt64  _) cs_X12_in lk_X12_9 (zp_P C0 hRo hw a00 s00) rfl hl.1 rfl ⟨by decide, by decide⟩ (Nat.le_of_ble_eq_true rfl) (dk2 dF_184 DX12_number (i := 20) rfl rfl rfl) ⟨Nat.le_refl _, Nat.le_refl _⟩) (fun r8 s8 H locs hp hw => ?_)
      rcases hp with ⟨rfl, hc8⟩ | ⟨rfl, hc8⟩
      · skip
        (try simp (disch := omega) only [ta_lt, ta_le, ta_eq, tb_lt, tb_le, tb_eq, tw, tnI, tn32 1 (by decide), tnj 1 (by decide), tl32 0 (by decide), tl64 0 (by decide)] at hc8)
        refine lv_if_ne (tgt := 47) hx hb (dkS dF_154 DX12_number (i := 21) rfl rfl rfl) (by decide) (fun _ => ?_) (fun h => absurd h (by decide))
        exact jp1 σa _ _ _ hT_σa hF_σa hw (lv_sub hl [0, 1, 2] rfl)
      · skip
        (try simp (disch := omega) only [ta_lt, ta_le, ta_eq, tb_lt, tb_le, tb_eq, tw, tnI, tn32 1 (by decide), tnj 1 (by decide), tl32 0 (by decide), tl64 0 (by decide)] at hc8)
        refine lv_if_ne (tgt := 47) hx hb (dkS dF_154 DX12_number (i := 21) rfl rfl rfl) (by decide) (fun h => absurd h (by decide)) (fun _ => ?_)
        refine lv_aload_n hx hb (dkP dF_42 DX12_number (i := 22) rfl rfl) rfl (lv_at hl 0 rfl) ?_
        refine lv_iconst (v := 2) hx hb (dkP dF_5 DX12_number (i := 23) rfl rfl) (by decide) ?_
        refine zk_V hw (zr_V (As := [.int 2]) (rest := []) C0 (c_X12_wrong l G kc ad σa 2 (by first | omega | assumption | decide | rfl) hT_σa _) cv_X12_wrong lk_X12_214 (zp_V C0 hRo hw 0 rfl rfl rfl) rfl hl.1 rfl ⟨by decide, by decide⟩ (Nat.le_of_ble_eq_true rfl) (dk2 dF_182 DX12_number (i := 24) rfl rfl rfl) ⟨Nat.le_refl _, Nat.le_refl _⟩) (fun s9 H locs hp hw => ?_)
        obtain ⟨f9_0, hT9, hG9⟩ := hp
        have hF9 : fr true [] [8, 9, 10, 11, 12, 13] σ s9 := fr.t hF_σa hG9 (by decide) (by decide) (by decide)
        exact jp1 s9 _ _ _ hT9 hF9 hw (lv_sub hl [0, 1, 2] rfl)
    · skip
      refine lv_if_eq (tgt := 47) hx hb (dkS dF_153 DX12_number (i := 12) rfl rfl rfl) (by decide) (fun _ => ?_) (fun h => absurd h (by decide))
      exact jp1 σa _ _ _ hT_σa hF_σa hw (lv_sub hl [0, 1, 2] rfl)
  refine lv_aload_n hx hb (dkP dF_42 DX12_number (i := 0) rfl rfl) rfl (lv_at hl 0 rfl) ?_
  refine zk_I hw (zr_V (As := []) (rest := []) C0 (c_X12_good l G kc ad σ  _) cv_X12_good lk_X12_190 (zp_V C0 hRo hw 0 rfl rfl rfl) rfl hl.1 rfl ⟨by decide, by decide⟩ (Nat.le_of_ble_eq_true rfl) (dk2 dF_182 DX12_number (i := 1) rfl rfl rfl) ⟨Nat.le_refl _, Nat.le_refl _⟩) (fun r10 s10 H locs hp hw => ?_)
  obtain ⟨hq10, hs10⟩ := hp
  (rw [hs10] at hw; clear hs10)
  rcases hq10 with ⟨rfl, hc10⟩ | ⟨rfl, hc10⟩
  · skip
    refine lv_if_eq (tgt := 20) hx hb (dkS dF_153 DX12_number (i := 2) rfl rfl rfl) (by decide) (fun h => absurd h (by decide)) (fun _ => ?_)
    refine lv_aload_n hx hb (dkP dF_42 DX12_number (i := 3) rfl rfl) rfl (lv_at hl 0 rfl) ?_
    refine z_gi C0 hw 0 10 rfl fl_X12_162 (dk2 dF_180 DX12_number (i := 4) rfl rfl rfl) ?_
    obtain ⟨v11, ev11⟩ : ∃ y : Int32, σ.1 0 10 = y := ⟨_, rfl⟩
    refine z_top (y := v11) ev11 ?_
    refine lv_iconst (v := 2) hx hb (dkP dF_5 DX12_number (i := 5) rfl rfl) (by decide) ?_
    refine lv_icmp_eq (tgt := 20) hx hb (dkS dF_159 DX12_number (i := 6) rfl rfl rfl) (by decide) (fun c12 => ?_) (fun c12 => ?_)
    · (try simp (disch := omega) only [ta_lt, ta_le, ta_eq, tnI, tl32 2 (by decide)] at c12)
      exact jp5 σ _ _ _ hT fr.refl hw (lv_sub hl [0, 1, 2] rfl)
    · (try simp (disch := omega) only [ta_lt, ta_le, ta_eq, tnI, tl32 2 (by decide)] at c12)
      refine lv_aload_n hx hb (dkP dF_42 DX12_number (i := 7) rfl rfl) rfl (lv_at hl 0 rfl) ?_
      refine lv_iconst (v := 1) hx hb (dkP dF_4 DX12_number (i := 8) rfl rfl) (by decide) ?_
      refine zk_V hw (zr_V (As := [.int 1]) (rest := []) C0 (c_X12_wrong l G kc ad σ 1 (by first | omega | assumption | decide | rfl) hT _) cv_X12_wrong lk_X12_214 (zp_V C0 hRo hw 0 rfl rfl rfl) rfl hl.1 rfl ⟨by decide, by decide⟩ (Nat.le_of_ble_eq_true rfl) (dk2 dF_182 DX12_number (i := 9) rfl rfl rfl) ⟨Nat.le_refl _, Nat.le_refl _⟩) (fun s13 H locs hp hw => ?_)
      obtain ⟨f13_0, hT13, hG13⟩ := hp
      have hF13 : fr true [] [8, 9, 10, 11, 12, 13] σ s13 := fr.t fr.refl hG13 (by decide) (by decide) (by decide)
      exact jp5 s13 _ _ _ hT13 hF13 hw (lv_sub hl [0, 1, 2] rfl)
  · skip
    refine lv_if_eq (tgt := 20) hx hb (dkS dF_153 DX12_number (i := 2) rfl rfl rfl) (by decide) (fun _ => ?_) (fun h => absurd h (by decide))
    exact jp5 σ _ _ _ hT fr.refl hw (lv_sub hl [0, 1, 2] rfl)
set_option maxRecDepth 100000 in
set_option maxHeartbeats 8000000 in
theorem c_X12_fieldHere (l : Launch) (G : va_G) (kc : KC) (ad : Nat → Nat) (σ : Sg)  (hT : TM σ) : MI l G kc yX12_fieldHere cX12_fieldHere 1 (some .int) 1 25 [.ref (ad 0)] shM ad σ (fun r σ1 => (-1 ≤ r.toInt ∧ r.toInt ≤ 7) ∧ σ1 = σ) := by
  intro sz
  refine z_body (y := yX12_fieldHere) (n := 1) (av := [.ref (ad 0)]) (Qc := fun A => va_Qi (fun r σ1 => (-1 ≤ r.toInt ∧ r.toInt ≤ 7) ∧ σ1 = σ) (PoC G kc shM ad A) A) (plainFor_of_name (by decide)) (Nat.le_of_ble_eq_true rfl) (fun pr e s m below meth c A C0 hr hlk hnm hw hRo ls hl => ?_) sz
  have hx := C0.1
  have hb := C0.2.1
  have hown := C0.2.2.2.1
  have hts := C0.2.2.2.2.1
  have hl : lv_has ls 1 [(0, .ref (ad 0))] := hl
  refine lv_aload_n hx hb (dkP dF_42 DX12_fieldHere (i := 0) rfl rfl) rfl (lv_at hl 0 rfl) ?_
  refine zk_I hw (zr_V (As := []) (rest := []) C0 (c_X12_good l G kc ad σ  _) cv_X12_good lk_X12_190 (zp_V C0 hRo hw 0 rfl rfl rfl) rfl hl.1 rfl ⟨by decide, by decide⟩ (Nat.le_of_ble_eq_true rfl) (dk2 dF_182 DX12_fieldHere (i := 1) rfl rfl rfl) ⟨Nat.le_refl _, Nat.le_refl _⟩) (fun r1 s1 H locs hp hw => ?_)
  obtain ⟨hq1, hs1⟩ := hp
  (rw [hs1] at hw; clear hs1)
  rcases hq1 with ⟨rfl, hc1⟩ | ⟨rfl, hc1⟩
  · skip
    refine lv_if_eq (tgt := 65) hx hb (dkS dF_153 DX12_fieldHere (i := 2) rfl rfl rfl) (by decide) (fun h => absurd h (by decide)) (fun _ => ?_)
    refine lv_aload_n hx hb (dkP dF_42 DX12_fieldHere (i := 3) rfl rfl) rfl (lv_at hl 0 rfl) ?_
    refine z_gi C0 hw 0 10 rfl fl_X12_162 (dk2 dF_180 DX12_fieldHere (i := 4) rfl rfl rfl) ?_
    obtain ⟨v2, ev2⟩ : ∃ y : Int32, σ.1 0 10 = y := ⟨_, rfl⟩
    refine z_top (y := v2) ev2 ?_
    refine lv_iconst (v := 1) hx hb (dkP dF_4 DX12_fieldHere (i := 5) rfl rfl) (by decide) ?_
    refine lv_icmp_ne (tgt := 65) hx hb (dkS dF_160 DX12_fieldHere (i := 6) rfl rfl rfl) (by decide) (fun c3 => ?_) (fun c3 => ?_)
    · (try simp (disch := omega) only [ta_lt, ta_le, ta_eq, tnI, tl32 1 (by decide)] at c3)
      refine lv_iconst (v := (-1)) hx hb (dkP dF_2 DX12_fieldHere (i := 32) rfl rfl) (by decide) ?_
      exact z_iret C0 hr hlk hw (⟨(by decide), rfl⟩) (dkP dF_172 DX12_fieldHere (i := 33) rfl rfl)
    · (try simp (disch := omega) only [ta_lt, ta_le, ta_eq, tnI, tl32 1 (by decide)] at c3)
      refine lv_aload_n hx hb (dkP dF_42 DX12_fieldHere (i := 7) rfl rfl) rfl (lv_at hl 0 rfl) ?_
      refine z_gi C0 hw 0 8 rfl fl_X12_153 (dk2 dF_180 DX12_fieldHere (i := 8) rfl rfl rfl) ?_
      obtain ⟨n4, hn4, en4⟩ := rngN (x := σ.1 0 8) (h := 600) (show 0 ≤ _ ∧ _ ≤ 600 from hT 0 8)
      refine z_top (y := nI n4) en4 ?_
      refine lv_aload_n hx hb (dkP dF_42 DX12_fieldHere (i := 9) rfl rfl) rfl (lv_at hl 0 rfl) ?_
      refine z_gi C0 hw 0 9 rfl fl_X12_159 (dk2 dF_180 DX12_fieldHere (i := 10) rfl rfl rfl) ?_
      obtain ⟨n5, hn5, en5⟩ := rngN (x := σ.1 0 9) (h := 600) (show 0 ≤ _ ∧ _ ≤ 600 from hT 0 9)
      refine z_top (y := nI n5) en5 ?_
      refine lv_isub hx hb (dkP dF_100 DX12_fieldHere (i := 11) rfl rfl) ?_
      refine lv_iconst (v := 1) hx hb (dkP dF_4 DX12_fieldHere (i := 12) rfl rfl) (by decide) ?_
      refine lv_icmp_ne (tgt := 65) hx hb (dkS dF_160 DX12_fieldHere (i := 13) rfl rfl rfl) (by decide) (fun c6 => ?_) (fun c6 => ?_)
      · skip
        refine lv_iconst (v := (-1)) hx hb (dkP dF_2 DX12_fieldHere (i := 32) rfl rfl) (by decide) ?_
        exact z_iret C0 hr hlk hw (⟨(by decide), rfl⟩) (dkP dF_172 DX12_fieldHere (i := 33) rfl rfl)
      · skip
        have hal : n5 + 1 = n4 := by have h := congrArg Int32.toInt c6; rw [pk_sub_toInt (by omega) (by omega), tl32 1 (by decide)] at h; omega
        refine lv_aload_n hx hb (dkP dF_42 DX12_fieldHere (i := 14) rfl rfl) rfl (lv_at hl 0 rfl) ?_
        refine z_gr C0 hw 0 4 4 rfl fl_X12_32 (dk2 dF_180 DX12_fieldHere (i := 15) rfl rfl rfl) ?_
        refine lv_aload_n hx hb (dkP dF_42 DX12_fieldHere (i := 16) rfl rfl) rfl (lv_at hl 0 rfl) ?_
        refine z_gi C0 hw 0 9 rfl fl_X12_159 (dk2 dF_180 DX12_fieldHere (i := 17) rfl rfl rfl) ?_
        refine z_top (y := (nI n5)) en5 ?_
        refine z_baldN (n := 600) C0 hw 4 n5 rfl (by omega) (by decide) (dkP dF_51 DX12_fieldHere (i := 18) rfl rfl) ?_
        obtain ⟨v7, ev7⟩ : ∃ y : Int32, σ.1 4 n5 = y := ⟨_, rfl⟩
        refine z_top (y := v7) ev7 ?_
        refine lv_i2l hx hb (dkP dF_133 DX12_fieldHere (i := 19) rfl rfl) rfl ?_
        refine lv_ldc2 hx hb hown (hts _ kn_X12_165) (dk2 dF_20 DX12_fieldHere (i := 20) rfl rfl rfl) ?_
        refine lv_ldc2 hx hb hown (hts _ kn_X12_224) (dk2 dF_20 DX12_fieldHere (i := 21) rfl rfl rfl) ?_
        refine zn_I hw (zr_S (As := [.long v7.toInt64, .long 97, .long 104]) (rest := []) C0 (c_X12_in l G kc v7.toInt64 97 104  _) cs_X12_in lk_X12_9 (zp_P C0 hRo hw a00 s00) rfl hl.1 rfl ⟨by decide, by decide⟩ (Nat.le_of_ble_eq_true rfl) (dk2 dF_184 DX12_fieldHere (i := 22) rfl rfl rfl) ⟨Nat.le_refl _, Nat.le_refl _⟩) (fun r8 s8 H locs hp hw => ?_)
        rcases hp with ⟨rfl, hc8⟩ | ⟨rfl, hc8⟩
        · skip
          (try simp (disch := omega) only [ta_lt, ta_le, ta_eq, tb_lt, tb_le, tb_eq, tw, tnI, tn32 1 (by decide), tnj 1 (by decide), tl32 0 (by decide), tl64 0 (by decide), tl32 1 (by decide), tl64 1 (by decide), tl32 97 (by decide), tl64 97 (by decide), tl32 104 (by decide), tl64 104 (by decide)] at hc8)
          refine lv_if_eq (tgt := 65) hx hb (dkS dF_153 DX12_fieldHere (i := 23) rfl rfl rfl) (by decide) (fun h => absurd h (by decide)) (fun _ => ?_)
          refine lv_aload_n hx hb (dkP dF_42 DX12_fieldHere (i := 24) rfl rfl) rfl (lv_at hl 0 rfl) ?_
          refine z_gr C0 hw 0 4 4 rfl fl_X12_32 (dk2 dF_180 DX12_fieldHere (i := 25) rfl rfl rfl) ?_
          refine lv_aload_n hx hb (dkP dF_42 DX12_fieldHere (i := 26) rfl rfl) rfl (lv_at hl 0 rfl) ?_
          refine z_gi C0 hw 0 9 rfl fl_X12_159 (dk2 dF_180 DX12_fieldHere (i := 27) rfl rfl rfl) ?_
          refine z_top (y := (nI n5)) en5 ?_
          refine z_baldN (n := 600) C0 hw 4 n5 rfl (by omega) (by decide) (dkP dF_51 DX12_fieldHere (i := 28) rfl rfl) ?_
          refine z_top (y := v7) ev7 ?_
          refine lv_bipush (v := 97) hx hb (dks dF_16 DX12_fieldHere (i := 29) rfl rfl rfl) (by decide) ?_
          refine lv_isub hx hb (dkP dF_100 DX12_fieldHere (i := 30) rfl rfl) ?_
          refine lv_goto (tgt := 66) hx hb (dkS dF_167 DX12_fieldHere (i := 31) rfl rfl rfl) (by decide) ?_
          exact z_iret C0 hr hlk hw (⟨(by (try simp (disch := omega) only [ta_lt, ta_le, ta_eq, tb_lt, tb_le, tb_eq, tw, tnI, tl64 97 (by decide), tl64 104 (by decide)] at hc8); have h := sub97 (x := v7) (by omega) (by omega); omega), rfl⟩) (dkP dF_172 DX12_fieldHere (i := 33) rfl rfl)
        · skip
          (try simp (disch := omega) only [ta_lt, ta_le, ta_eq, tb_lt, tb_le, tb_eq, tw, tnI, tn32 1 (by decide), tnj 1 (by decide), tl32 0 (by decide), tl64 0 (by decide), tl32 1 (by decide), tl64 1 (by decide), tl32 97 (by decide), tl64 97 (by decide), tl32 104 (by decide), tl64 104 (by decide)] at hc8)
          refine lv_if_eq (tgt := 65) hx hb (dkS dF_153 DX12_fieldHere (i := 23) rfl rfl rfl) (by decide) (fun _ => ?_) (fun h => absurd h (by decide))
          refine lv_iconst (v := (-1)) hx hb (dkP dF_2 DX12_fieldHere (i := 32) rfl rfl) (by decide) ?_
          exact z_iret C0 hr hlk hw (⟨(by decide), rfl⟩) (dkP dF_172 DX12_fieldHere (i := 33) rfl rfl)
  · skip
    refine lv_if_eq (tgt := 65) hx hb (dkS dF_153 DX12_fieldHere (i := 2) rfl rfl rfl) (by decide) (fun _ => ?_) (fun h => absurd h (by decide))
    refine lv_iconst (v := (-1)) hx hb (dkP dF_2 DX12_fieldHere (i := 32) rfl rfl) (by decide) ?_
    exact z_iret C0 hr hlk hw (⟨(by decide), rfl⟩) (dkP dF_172 DX12_fieldHere (i := 33) rfl rfl)
set_option maxRecDepth 100000 in
set_option maxHeartbeats 8000000 in
theorem c_X12_fieldThere (l : Launch) (G : va_G) (kc : KC) (ad : Nat → Nat) (σ : Sg)  (hT : TM σ) : MI l G kc yX12_fieldThere cX12_fieldThere 2 (some .int) 2 46 [.ref (ad 0)] shM ad σ (fun r σ1 => (0 ≤ r.toInt ∧ r.toInt ≤ 7) ∧ TM σ1 ∧ fr true [] [8, 9, 10, 11, 12, 13] σ σ1) := by
  intro sz
  refine z_body (y := yX12_fieldThere) (n := 2) (av := [.ref (ad 0)]) (Qc := fun A => va_Qi (fun r σ1 => (0 ≤ r.toInt ∧ r.toInt ≤ 7) ∧ TM σ1 ∧ fr true [] [8, 9, 10, 11, 12, 13] σ σ1) (PoC G kc shM ad A) A) (plainFor_of_name (by decide)) (Nat.le_of_ble_eq_true rfl) (fun pr e s m below meth c A C0 hr hlk hnm hw hRo ls hl => ?_) sz
  have hx := C0.1
  have hb := C0.2.1
  have hown := C0.2.2.2.1
  have hts := C0.2.2.2.2.1
  have hl : lv_has ls 2 [(0, .ref (ad 0))] := hl
  refine lv_aload_n hx hb (dkP dF_42 DX12_fieldThere (i := 0) rfl rfl) rfl (lv_at hl 0 rfl) ?_
  refine zk_I hw (zr_V (As := []) (rest := []) C0 (c_X12_fieldHere l G kc ad σ hT _) cv_X12_fieldHere lk_X12_226 (zp_V C0 hRo hw 0 rfl rfl rfl) rfl hl.1 rfl ⟨by decide, by decide⟩ (Nat.le_of_ble_eq_true rfl) (dk2 dF_182 DX12_fieldThere (i := 1) rfl rfl rfl) ⟨Nat.le_refl _, Nat.le_refl _⟩) (fun r1 s1 H locs hp hw => ?_)
  obtain ⟨f1_0, hs1⟩ := hp
  (rw [hs1] at hw)
  refine lv_istore_n (lv' := [(1, .int r1), (0, .ref (ad 0))]) hx hb (dkP dF_60 DX12_fieldThere (i := 2) rfl rfl) rfl hl (by decide) rfl (fun ls hl => ?_)
  refine lv_iload_n hx hb (dkP dF_27 DX12_fieldThere (i := 3) rfl rfl) rfl (lv_at hl 0 rfl) ?_
  refine lv_iconst (v := (-1)) hx hb (dkP dF_2 DX12_fieldThere (i := 4) rfl rfl) (by decide) ?_
  refine lv_icmp_ne (tgt := 18) hx hb (dkS dF_160 DX12_fieldThere (i := 5) rfl rfl rfl) (by decide) (fun c2 => ?_) (fun c2 => ?_)
  · (try simp (disch := omega) only [ta_lt, ta_le, ta_eq, tnI, tn32 1 (by decide)] at c2)
    refine lv_aload_n hx hb (dkP dF_42 DX12_fieldThere (i := 10) rfl rfl) rfl (lv_at hl 1 rfl) ?_
    refine zk_V hw (zr_V (As := []) (rest := []) C0 (c_X12_step l G kc ad σ hT _) cv_X12_step lk_X12_208 (zp_V C0 hRo hw 0 rfl rfl rfl) rfl hl.1 rfl ⟨by decide, by decide⟩ (Nat.le_of_ble_eq_true rfl) (dk2 dF_182 DX12_fieldThere (i := 11) rfl rfl rfl) ⟨Nat.le_refl _, Nat.le_refl _⟩) (fun s3 H locs hp hw => ?_)
    obtain ⟨hT3, hG3⟩ := hp
    have hF3 : fr true [] [8, 9, 10, 11, 12, 13] σ s3 := fr.t fr.refl hG3 (by decide) (by decide) (by decide)
    refine lv_iload_n hx hb (dkP dF_27 DX12_fieldThere (i := 12) rfl rfl) rfl (lv_at hl 0 rfl) ?_
    refine lv_iconst (v := (-1)) hx hb (dkP dF_2 DX12_fieldThere (i := 13) rfl rfl) (by decide) ?_
    refine lv_icmp_ne (tgt := 31) hx hb (dkS dF_160 DX12_fieldThere (i := 14) rfl rfl rfl) (by decide) (fun c4 => ?_) (fun c4 => ?_)
    · (try simp (disch := omega) only [ta_lt, ta_le, ta_eq, tnI, tn32 1 (by decide)] at c4)
      refine lv_iload_n hx hb (dkP dF_27 DX12_fieldThere (i := 17) rfl rfl) rfl (lv_at hl 0 rfl) ?_
      exact z_iret C0 hr hlk hw (⟨(show 0 ≤ _ ∧ _ ≤ 7 from by (try simp only [lg_cmp_lt, lg_cmp_le, lg_cmp_gt, lg_cmp_ge, lg_cmp_eq] at f1_0); (try simp (disch := omega) only [ta_lt, ta_le, ta_eq, tb_lt, tb_le, tb_eq, tw, tnI, tsub1, tsv, tn32 1 (by decide), tnj 1 (by decide), tl32 0 (by decide), tl64 0 (by decide)] at f1_0); (try simp only [lg_cmp_lt, lg_cmp_le, lg_cmp_gt, lg_cmp_ge, lg_cmp_eq] at c2); (try simp (disch := omega) only [ta_lt, ta_le, ta_eq, tb_lt, tb_le, tb_eq, tw, tnI, tsub1, tsv, tn32 1 (by decide), tnj 1 (by decide), tl32 0 (by decide), tl64 0 (by decide)] at c2); (try simp only [lg_cmp_lt, lg_cmp_le, lg_cmp_gt, lg_cmp_ge, lg_cmp_eq] at c4); (try simp (disch := omega) only [ta_lt, ta_le, ta_eq, tb_lt, tb_le, tb_eq, tw, tnI, tsub1, tsv, tn32 1 (by decide), tnj 1 (by decide), tl32 0 (by decide), tl64 0 (by decide)] at c4); (try simp (disch := omega) only [ta_lt, ta_le, ta_eq, tb_lt, tb_le, tb_eq, tw, tnI, tsub1, tsv, tn32 1 (by decide), tnj 1 (by decide), tl32 0 (by decide), tl64 0 (by decide)]); omega), hT3, hF3⟩) (dkP dF_172 DX12_fieldThere (i := 18) rfl rfl)
    · (try simp (disch := omega) only [ta_lt, ta_le, ta_eq, tnI, tn32 1 (by decide)] at c4)
      refine lv_iconst (v := 0) hx hb (dkP dF_3 DX12_fieldThere (i := 15) rfl rfl) (by decide) ?_
      refine lv_goto (tgt := 32) hx hb (dkS dF_167 DX12_fieldThere (i := 16) rfl rfl rfl) (by decide) ?_
      exact z_iret C0 hr hlk hw (⟨(show 0 ≤ _ ∧ _ ≤ 7 from by (try simp only [lg_cmp_lt, lg_cmp_le, lg_cmp_gt, lg_cmp_ge, lg_cmp_eq] at f1_0); (try simp (disch := omega) only [ta_lt, ta_le, ta_eq, tb_lt, tb_le, tb_eq, tw, tnI, tsub1, tsv, tn32 1 (by decide), tnj 1 (by decide), tl32 0 (by decide), tl64 0 (by decide)] at f1_0); (try simp only [lg_cmp_lt, lg_cmp_le, lg_cmp_gt, lg_cmp_ge, lg_cmp_eq] at c2); (try simp (disch := omega) only [ta_lt, ta_le, ta_eq, tb_lt, tb_le, tb_eq, tw, tnI, tsub1, tsv, tn32 1 (by decide), tnj 1 (by decide), tl32 0 (by decide), tl64 0 (by decide)] at c2); (try simp only [lg_cmp_lt, lg_cmp_le, lg_cmp_gt, lg_cmp_ge, lg_cmp_eq] at c4); (try simp (disch := omega) only [ta_lt, ta_le, ta_eq, tb_lt, tb_le, tb_eq, tw, tnI, tsub1, tsv, tn32 1 (by decide), tnj 1 (by decide), tl32 0 (by decide), tl64 0 (by decide)] at c4); (try simp (disch := omega) only [ta_lt, ta_le, ta_eq, tb_lt, tb_le, tb_eq, tw, tnI, tsub1, tsv, tn32 1 (by decide), tnj 1 (by decide), tl32 0 (by decide), tl64 0 (by decide)]); omega), hT3, hF3⟩) (dkP dF_172 DX12_fieldThere (i := 18) rfl rfl)
  · (try simp (disch := omega) only [ta_lt, ta_le, ta_eq, tnI, tn32 1 (by decide)] at c2)
    refine lv_aload_n hx hb (dkP dF_42 DX12_fieldThere (i := 6) rfl rfl) rfl (lv_at hl 1 rfl) ?_
    refine lv_iconst (v := 1) hx hb (dkP dF_4 DX12_fieldThere (i := 7) rfl rfl) (by decide) ?_
    refine zk_V hw (zr_V (As := [.int 1]) (rest := []) C0 (c_X12_wrong l G kc ad σ 1 (by first | omega | assumption | decide | rfl) hT _) cv_X12_wrong lk_X12_214 (zp_V C0 hRo hw 0 rfl rfl rfl) rfl hl.1 rfl ⟨by decide, by decide⟩ (Nat.le_of_ble_eq_true rfl) (dk2 dF_182 DX12_fieldThere (i := 8) rfl rfl rfl) ⟨Nat.le_refl _, Nat.le_refl _⟩) (fun s5 H locs hp hw => ?_)
    obtain ⟨f5_0, hT5, hG5⟩ := hp
    have hF5 : fr true [] [8, 9, 10, 11, 12, 13] σ s5 := fr.t fr.refl hG5 (by decide) (by decide) (by decide)
    refine lv_goto (tgt := 22) hx hb (dkS dF_167 DX12_fieldThere (i := 9) rfl rfl rfl) (by decide) ?_
    refine lv_iload_n hx hb (dkP dF_27 DX12_fieldThere (i := 12) rfl rfl) rfl (lv_at hl 0 rfl) ?_
    refine lv_iconst (v := (-1)) hx hb (dkP dF_2 DX12_fieldThere (i := 13) rfl rfl) (by decide) ?_
    refine lv_icmp_ne (tgt := 31) hx hb (dkS dF_160 DX12_fieldThere (i := 14) rfl rfl rfl) (by decide) (fun c6 => ?_) (fun c6 => ?_)
    · (try simp (disch := omega) only [ta_lt, ta_le, ta_eq, tnI, tn32 1 (by decide)] at c6)
      refine lv_iload_n hx hb (dkP dF_27 DX12_fieldThere (i := 17) rfl rfl) rfl (lv_at hl 0 rfl) ?_
      exact z_iret C0 hr hlk hw (⟨(show 0 ≤ _ ∧ _ ≤ 7 from by (try simp only [lg_cmp_lt, lg_cmp_le, lg_cmp_gt, lg_cmp_ge, lg_cmp_eq] at f1_0); (try simp (disch := omega) only [ta_lt, ta_le, ta_eq, tb_lt, tb_le, tb_eq, tw, tnI, tsub1, tsv, tn32 1 (by decide), tnj 1 (by decide), tl32 0 (by decide), tl64 0 (by decide), tl32 1 (by decide), tl64 1 (by decide)] at f1_0); (try simp only [lg_cmp_lt, lg_cmp_le, lg_cmp_gt, lg_cmp_ge, lg_cmp_eq] at c2); (try simp (disch := omega) only [ta_lt, ta_le, ta_eq, tb_lt, tb_le, tb_eq, tw, tnI, tsub1, tsv, tn32 1 (by decide), tnj 1 (by decide), tl32 0 (by decide), tl64 0 (by decide), tl32 1 (by decide), tl64 1 (by decide)] at c2); (try simp only [lg_cmp_lt, lg_cmp_le, lg_cmp_gt, lg_cmp_ge, lg_cmp_eq] at f5_0); (try simp (disch := omega) only [ta_lt, ta_le, ta_eq, tb_lt, tb_le, tb_eq, tw, tnI, tsub1, tsv, tn32 1 (by decide), tnj 1 (by decide), tl32 0 (by decide), tl64 0 (by decide), tl32 1 (by decide), tl64 1 (by decide)] at f5_0); (try simp only [lg_cmp_lt, lg_cmp_le, lg_cmp_gt, lg_cmp_ge, lg_cmp_eq] at c6); (try simp (disch := omega) only [ta_lt, ta_le, ta_eq, tb_lt, tb_le, tb_eq, tw, tnI, tsub1, tsv, tn32 1 (by decide), tnj 1 (by decide), tl32 0 (by decide), tl64 0 (by decide), tl32 1 (by decide), tl64 1 (by decide)] at c6); (try simp (disch := omega) only [ta_lt, ta_le, ta_eq, tb_lt, tb_le, tb_eq, tw, tnI, tsub1, tsv, tn32 1 (by decide), tnj 1 (by decide), tl32 0 (by decide), tl64 0 (by decide), tl32 1 (by decide), tl64 1 (by decide)]); omega), hT5, hF5⟩) (dkP dF_172 DX12_fieldThere (i := 18) rfl rfl)
    · (try simp (disch := omega) only [ta_lt, ta_le, ta_eq, tnI, tn32 1 (by decide)] at c6)
      refine lv_iconst (v := 0) hx hb (dkP dF_3 DX12_fieldThere (i := 15) rfl rfl) (by decide) ?_
      refine lv_goto (tgt := 32) hx hb (dkS dF_167 DX12_fieldThere (i := 16) rfl rfl rfl) (by decide) ?_
      exact z_iret C0 hr hlk hw (⟨(show 0 ≤ _ ∧ _ ≤ 7 from by (try simp only [lg_cmp_lt, lg_cmp_le, lg_cmp_gt, lg_cmp_ge, lg_cmp_eq] at f1_0); (try simp (disch := omega) only [ta_lt, ta_le, ta_eq, tb_lt, tb_le, tb_eq, tw, tnI, tsub1, tsv, tn32 1 (by decide), tnj 1 (by decide), tl32 0 (by decide), tl64 0 (by decide), tl32 1 (by decide), tl64 1 (by decide)] at f1_0); (try simp only [lg_cmp_lt, lg_cmp_le, lg_cmp_gt, lg_cmp_ge, lg_cmp_eq] at c2); (try simp (disch := omega) only [ta_lt, ta_le, ta_eq, tb_lt, tb_le, tb_eq, tw, tnI, tsub1, tsv, tn32 1 (by decide), tnj 1 (by decide), tl32 0 (by decide), tl64 0 (by decide), tl32 1 (by decide), tl64 1 (by decide)] at c2); (try simp only [lg_cmp_lt, lg_cmp_le, lg_cmp_gt, lg_cmp_ge, lg_cmp_eq] at f5_0); (try simp (disch := omega) only [ta_lt, ta_le, ta_eq, tb_lt, tb_le, tb_eq, tw, tnI, tsub1, tsv, tn32 1 (by decide), tnj 1 (by decide), tl32 0 (by decide), tl64 0 (by decide), tl32 1 (by decide), tl64 1 (by decide)] at f5_0); (try simp only [lg_cmp_lt, lg_cmp_le, lg_cmp_gt, lg_cmp_ge, lg_cmp_eq] at c6); (try simp (disch := omega) only [ta_lt, ta_le, ta_eq, tb_lt, tb_le, tb_eq, tw, tnI, tsub1, tsv, tn32 1 (by decide), tnj 1 (by decide), tl32 0 (by decide), tl64 0 (by decide), tl32 1 (by decide), tl64 1 (by decide)] at c6); (try simp (disch := omega) only [ta_lt, ta_le, ta_eq, tb_lt, tb_le, tb_eq, tw, tnI, tsub1, tsv, tn32 1 (by decide), tnj 1 (by decide), tl32 0 (by decide), tl64 0 (by decide), tl32 1 (by decide), tl64 1 (by decide)]); omega), hT5, hF5⟩) (dkP dF_172 DX12_fieldThere (i := 18) rfl rfl)
set_option maxRecDepth 100000 in
set_option maxHeartbeats 8000000 in
theorem c_X12_compared (l : Launch) (G : va_G) (kc : KC) (ad : Nat → Nat) (σ : Sg)  (hT : TM σ) : MI l G kc yX12_compared cX12_compared 2 (some .int) 2 46 [.ref (ad 0)] shM ad σ (fun r σ1 => TM σ1 ∧ fr true [] [8, 9, 10, 11, 12, 13] σ σ1) := by
  intro sz
  refine z_body (y := yX12_compared) (n := 2) (av := [.ref (ad 0)]) (Qc := fun A => va_Qi (fun r σ1 => TM σ1 ∧ fr true [] [8, 9, 10, 11, 12, 13] σ σ1) (PoC G kc shM ad A) A) (plainFor_of_name (by decide)) (Nat.le_of_ble_eq_true rfl) (fun pr e s m below meth c A C0 hr hlk hnm hw hRo ls hl => ?_) sz
  have hx := C0.1
  have hb := C0.2.1
  have hown := C0.2.2.2.1
  have hts := C0.2.2.2.2.1
  have hl : lv_has ls 2 [(0, .ref (ad 0))] := hl
  have jp1 : ∀ (cv : Int32) (σb : Sg) (H : Heap) (locs : List Loc) (ls : Array Slot), (TM σb) → (fr true [] [8, 9, 10, 11, 12, 13] σ σb) → St G kc A s.heap shM ad σb H locs → lv_has ls 2 [(0, .ref (ad 0)), (1, .int cv)] → W pr l e { frames := 2, cells := 0, slots := 0, locals := 46 } s m ([.ref (ad 0)] : List Value).toArray below meth c H locs 0 0 (MQ below (va_Qi (fun r σ1 => TM σ1 ∧ fr true [] [8, 9, 10, 11, 12, 13] σ σ1) (PoC G kc shM ad A) A) ([.ref (ad 0)] : List Value).toArray s 0 0 A) (F0 m 44 ls []) := by
    intro cv σb H locs ls hT_σb hF_σb hw hl
    refine lv_iload_n hx hb (dkP dF_27 DX12_compared (i := 21) rfl rfl) rfl (lv_at hl 1 rfl) ?_
    exact z_iret C0 hr hlk hw (⟨hT_σb, hF_σb⟩) (dkP dF_172 DX12_compared (i := 22) rfl rfl)
  refine lv_aload_n hx hb (dkP dF_42 DX12_compared (i := 0) rfl rfl) rfl (lv_at hl 0 rfl) ?_
  refine z_gi C0 hw 0 11 rfl fl_X12_173 (dk2 dF_180 DX12_compared (i := 1) rfl rfl rfl) ?_
  obtain ⟨v2, ev2⟩ : ∃ y : Int32, σ.1 0 11 = y := ⟨_, rfl⟩
  refine z_top (y := v2) ev2 ?_
  refine lv_istore_n (lv' := [(1, .int v2), (0, .ref (ad 0))]) hx hb (dkP dF_60 DX12_compared (i := 2) rfl rfl) rfl hl (by decide) rfl (fun ls hl => ?_)
  refine lv_aload_n hx hb (dkP dF_42 DX12_compared (i := 3) rfl rfl) rfl (lv_at hl 1 rfl) ?_
  refine lv_bipush (v := 60) hx hb (dks dF_16 DX12_compared (i := 4) rfl rfl rfl) (by decide) ?_
  refine zk_I hw (zr_V (As := [.int 60]) (rest := []) C0 (c_X12_isSign l G kc ad σ 60 hT _) cv_X12_isSign lk_X12_218 (zp_V C0 hRo hw 0 rfl rfl rfl) rfl hl.1 rfl ⟨by decide, by decide⟩ (Nat.le_of_ble_eq_true rfl) (dk2 dF_182 DX12_compared (i := 5) rfl rfl rfl) ⟨Nat.le_refl _, Nat.le_refl _⟩) (fun r3 s3 H locs hp hw => ?_)
  obtain ⟨f3_0, hs3⟩ := hp
  (rw [hs3] at hw)
  rcases f3_0 with ⟨rfl, hc3⟩ | ⟨rfl, hc3⟩
  · skip
    refine lv_if_ne (tgt := 40) hx hb (dkS dF_154 DX12_compared (i := 6) rfl rfl rfl) (by decide) (fun _ => ?_) (fun h => absurd h (by decide))
    refine lv_aload_n hx hb (dkP dF_42 DX12_compared (i := 19) rfl rfl) rfl (lv_at hl 1 rfl) ?_
    refine zk_V hw (zr_V (As := []) (rest := []) C0 (c_X12_step l G kc ad σ hT _) cv_X12_step lk_X12_208 (zp_V C0 hRo hw 0 rfl rfl rfl) rfl hl.1 rfl ⟨by decide, by decide⟩ (Nat.le_of_ble_eq_true rfl) (dk2 dF_182 DX12_compared (i := 20) rfl rfl rfl) ⟨Nat.le_refl _, Nat.le_refl _⟩) (fun s4 H locs hp hw => ?_)
    obtain ⟨hT4, hG4⟩ := hp
    have hF4 : fr true [] [8, 9, 10, 11, 12, 13] σ s4 := fr.t fr.refl hG4 (by decide) (by decide) (by decide)
    exact jp1 v2 s4 _ _ _ hT4 hF4 hw (lv_sub hl [1, 0] rfl)
  · skip
    refine lv_if_ne (tgt := 40) hx hb (dkS dF_154 DX12_compared (i := 6) rfl rfl rfl) (by decide) (fun h => absurd h (by decide)) (fun _ => ?_)
    refine lv_aload_n hx hb (dkP dF_42 DX12_compared (i := 7) rfl rfl) rfl (lv_at hl 1 rfl) ?_
    refine lv_bipush (v := 61) hx hb (dks dF_16 DX12_compared (i := 8) rfl rfl rfl) (by decide) ?_
    refine zk_I hw (zr_V (As := [.int 61]) (rest := []) C0 (c_X12_isSign l G kc ad σ 61 hT _) cv_X12_isSign lk_X12_218 (zp_V C0 hRo hw 0 rfl rfl rfl) rfl hl.1 rfl ⟨by decide, by decide⟩ (Nat.le_of_ble_eq_true rfl) (dk2 dF_182 DX12_compared (i := 9) rfl rfl rfl) ⟨Nat.le_refl _, Nat.le_refl _⟩) (fun r5 s5 H locs hp hw => ?_)
    obtain ⟨f5_0, hs5⟩ := hp
    (rw [hs5] at hw)
    rcases f5_0 with ⟨rfl, hc5⟩ | ⟨rfl, hc5⟩
    · skip
      refine lv_if_ne (tgt := 40) hx hb (dkS dF_154 DX12_compared (i := 10) rfl rfl rfl) (by decide) (fun _ => ?_) (fun h => absurd h (by decide))
      refine lv_aload_n hx hb (dkP dF_42 DX12_compared (i := 19) rfl rfl) rfl (lv_at hl 1 rfl) ?_
      refine zk_V hw (zr_V (As := []) (rest := []) C0 (c_X12_step l G kc ad σ hT _) cv_X12_step lk_X12_208 (zp_V C0 hRo hw 0 rfl rfl rfl) rfl hl.1 rfl ⟨by decide, by decide⟩ (Nat.le_of_ble_eq_true rfl) (dk2 dF_182 DX12_compared (i := 20) rfl rfl rfl) ⟨Nat.le_refl _, Nat.le_refl _⟩) (fun s6 H locs hp hw => ?_)
      obtain ⟨hT6, hG6⟩ := hp
      have hF6 : fr true [] [8, 9, 10, 11, 12, 13] σ s6 := fr.t fr.refl hG6 (by decide) (by decide) (by decide)
      exact jp1 v2 s6 _ _ _ hT6 hF6 hw (lv_sub hl [1, 0] rfl)
    · skip
      refine lv_if_ne (tgt := 40) hx hb (dkS dF_154 DX12_compared (i := 10) rfl rfl rfl) (by decide) (fun h => absurd h (by decide)) (fun _ => ?_)
      refine lv_aload_n hx hb (dkP dF_42 DX12_compared (i := 11) rfl rfl) rfl (lv_at hl 1 rfl) ?_
      refine lv_bipush (v := 62) hx hb (dks dF_16 DX12_compared (i := 12) rfl rfl rfl) (by decide) ?_
      refine zk_I hw (zr_V (As := [.int 62]) (rest := []) C0 (c_X12_isSign l G kc ad σ 62 hT _) cv_X12_isSign lk_X12_218 (zp_V C0 hRo hw 0 rfl rfl rfl) rfl hl.1 rfl ⟨by decide, by decide⟩ (Nat.le_of_ble_eq_true rfl) (dk2 dF_182 DX12_compared (i := 13) rfl rfl rfl) ⟨Nat.le_refl _, Nat.le_refl _⟩) (fun r7 s7 H locs hp hw => ?_)
      obtain ⟨f7_0, hs7⟩ := hp
      (rw [hs7] at hw)
      rcases f7_0 with ⟨rfl, hc7⟩ | ⟨rfl, hc7⟩
      · skip
        refine lv_if_ne (tgt := 40) hx hb (dkS dF_154 DX12_compared (i := 14) rfl rfl rfl) (by decide) (fun _ => ?_) (fun h => absurd h (by decide))
        refine lv_aload_n hx hb (dkP dF_42 DX12_compared (i := 19) rfl rfl) rfl (lv_at hl 1 rfl) ?_
        refine zk_V hw (zr_V (As := []) (rest := []) C0 (c_X12_step l G kc ad σ hT _) cv_X12_step lk_X12_208 (zp_V C0 hRo hw 0 rfl rfl rfl) rfl hl.1 rfl ⟨by decide, by decide⟩ (Nat.le_of_ble_eq_true rfl) (dk2 dF_182 DX12_compared (i := 20) rfl rfl rfl) ⟨Nat.le_refl _, Nat.le_refl _⟩) (fun s8 H locs hp hw => ?_)
        obtain ⟨hT8, hG8⟩ := hp
        have hF8 : fr true [] [8, 9, 10, 11, 12, 13] σ s8 := fr.t fr.refl hG8 (by decide) (by decide) (by decide)
        exact jp1 v2 s8 _ _ _ hT8 hF8 hw (lv_sub hl [1, 0] rfl)
      · skip
        refine lv_if_ne (tgt := 40) hx hb (dkS dF_154 DX12_compared (i := 14) rfl rfl rfl) (by decide) (fun h => absurd h (by decide)) (fun _ => ?_)
        refine lv_aload_n hx hb (dkP dF_42 DX12_compared (i := 15) rfl rfl) rfl (lv_at hl 1 rfl) ?_
        refine lv_iconst (v := 1) hx hb (dkP dF_4 DX12_compared (i := 16) rfl rfl) (by decide) ?_
        refine zk_V hw (zr_V (As := [.int 1]) (rest := []) C0 (c_X12_wrong l G kc ad σ 1 (by first | omega | assumption | decide | rfl) hT _) cv_X12_wrong lk_X12_214 (zp_V C0 hRo hw 0 rfl rfl rfl) rfl hl.1 rfl ⟨by decide, by decide⟩ (Nat.le_of_ble_eq_true rfl) (dk2 dF_182 DX12_compared (i := 17) rfl rfl rfl) ⟨Nat.le_refl _, Nat.le_refl _⟩) (fun s9 H locs hp hw => ?_)
        obtain ⟨f9_0, hT9, hG9⟩ := hp
        have hF9 : fr true [] [8, 9, 10, 11, 12, 13] σ s9 := fr.t fr.refl hG9 (by decide) (by decide) (by decide)
        refine lv_goto (tgt := 44) hx hb (dkS dF_167 DX12_compared (i := 18) rfl rfl rfl) (by decide) ?_
        exact jp1 v2 s9 _ _ _ hT9 hF9 hw (lv_sub hl [1, 0] rfl)
set_option maxRecDepth 100000 in
set_option maxHeartbeats 8000000 in
theorem c_X12_beginsTerm (l : Launch) (G : va_G) (kc : KC) (ad : Nat → Nat) (σ : Sg)  (hT : TM σ) : MI l G kc yX12_beginsTerm cX12_beginsTerm 1 (some .boolean) 2 45 [.ref (ad 0)] shM ad σ (fun r σ1 => ((r = 1 ∧ (True)) ∨ (r = 0 ∧ (True))) ∧ σ1 = σ) := by
  intro sz
  refine z_body (y := yX12_beginsTerm) (n := 1) (av := [.ref (ad 0)]) (Qc := fun A => va_Qi (fun r σ1 => ((r = 1 ∧ (True)) ∨ (r = 0 ∧ (True))) ∧ σ1 = σ) (PoC G kc shM ad A) A) (plainFor_of_name (by decide)) (Nat.le_of_ble_eq_true rfl) (fun pr e s m below meth c A C0 hr hlk hnm hw hRo ls hl => ?_) sz
  have hx := C0.1
  have hb := C0.2.1
  have hown := C0.2.2.2.1
  have hts := C0.2.2.2.2.1
  have hl : lv_has ls 1 [(0, .ref (ad 0))] := hl
  refine lv_aload_n hx hb (dkP dF_42 DX12_beginsTerm (i := 0) rfl rfl) rfl (lv_at hl 0 rfl) ?_
  refine zk_I hw (zr_V (As := []) (rest := []) C0 (c_X12_good l G kc ad σ  _) cv_X12_good lk_X12_190 (zp_V C0 hRo hw 0 rfl rfl rfl) rfl hl.1 rfl ⟨by decide, by decide⟩ (Nat.le_of_ble_eq_true rfl) (dk2 dF_182 DX12_beginsTerm (i := 1) rfl rfl rfl) ⟨Nat.le_refl _, Nat.le_refl _⟩) (fun r1 s1 H locs hp hw => ?_)
  obtain ⟨hq1, hs1⟩ := hp
  (rw [hs1] at hw; clear hs1)
  rcases hq1 with ⟨rfl, hc1⟩ | ⟨rfl, hc1⟩
  · skip
    refine lv_if_eq (tgt := 27) hx hb (dkS dF_153 DX12_beginsTerm (i := 2) rfl rfl rfl) (by decide) (fun h => absurd h (by decide)) (fun _ => ?_)
    refine lv_aload_n hx hb (dkP dF_42 DX12_beginsTerm (i := 3) rfl rfl) rfl (lv_at hl 0 rfl) ?_
    refine z_gi C0 hw 0 10 rfl fl_X12_162 (dk2 dF_180 DX12_beginsTerm (i := 4) rfl rfl rfl) ?_
    obtain ⟨v2, ev2⟩ : ∃ y : Int32, σ.1 0 10 = y := ⟨_, rfl⟩
    refine z_top (y := v2) ev2 ?_
    refine lv_iconst (v := 2) hx hb (dkP dF_5 DX12_beginsTerm (i := 5) rfl rfl) (by decide) ?_
    refine lv_icmp_eq (tgt := 23) hx hb (dkS dF_159 DX12_beginsTerm (i := 6) rfl rfl rfl) (by decide) (fun c3 => ?_) (fun c3 => ?_)
    · (try simp (disch := omega) only [ta_lt, ta_le, ta_eq, tnI, tl32 2 (by decide)] at c3)
      refine lv_iconst (v := 1) hx hb (dkP dF_4 DX12_beginsTerm (i := 11) rfl rfl) (by decide) ?_
      refine lv_goto (tgt := 28) hx hb (dkS dF_167 DX12_beginsTerm (i := 12) rfl rfl rfl) (by decide) ?_
      exact z_zret C0 hr hlk (by decide) hw (⟨(Or.inl ⟨rfl, trivial⟩), rfl⟩) (dkP dF_172 DX12_beginsTerm (i := 14) rfl rfl)
    · (try simp (disch := omega) only [ta_lt, ta_le, ta_eq, tnI, tl32 2 (by decide)] at c3)
      refine lv_aload_n hx hb (dkP dF_42 DX12_beginsTerm (i := 7) rfl rfl) rfl (lv_at hl 0 rfl) ?_
      refine zk_I hw (zr_V (As := []) (rest := []) C0 (c_X12_fieldHere l G kc ad σ hT _) cv_X12_fieldHere lk_X12_226 (zp_V C0 hRo hw 0 rfl rfl rfl) rfl hl.1 rfl ⟨by decide, by decide⟩ (Nat.le_of_ble_eq_true rfl) (dk2 dF_182 DX12_beginsTerm (i := 8) rfl rfl rfl) ⟨Nat.le_refl _, Nat.le_refl _⟩) (fun r4 s4 H locs hp hw => ?_)
      obtain ⟨f4_0, hs4⟩ := hp
      (rw [hs4] at hw)
      refine lv_iconst (v := (-1)) hx hb (dkP dF_2 DX12_beginsTerm (i := 9) rfl rfl) (by decide) ?_
      refine lv_icmp_eq (tgt := 27) hx hb (dkS dF_159 DX12_beginsTerm (i := 10) rfl rfl rfl) (by decide) (fun c5 => ?_) (fun c5 => ?_)
      · (try simp (disch := omega) only [ta_lt, ta_le, ta_eq, tnI, tn32 1 (by decide)] at c5)
        refine lv_iconst (v := 0) hx hb (dkP dF_3 DX12_beginsTerm (i := 13) rfl rfl) (by decide) ?_
        exact z_zret C0 hr hlk (by decide) hw (⟨(Or.inr ⟨rfl, trivial⟩), rfl⟩) (dkP dF_172 DX12_beginsTerm (i := 14) rfl rfl)
      · (try simp (disch := omega) only [ta_lt, ta_le, ta_eq, tnI, tn32 1 (by decide)] at c5)
        refine lv_iconst (v := 1) hx hb (dkP dF_4 DX12_beginsTerm (i := 11) rfl rfl) (by decide) ?_
        refine lv_goto (tgt := 28) hx hb (dkS dF_167 DX12_beginsTerm (i := 12) rfl rfl rfl) (by decide) ?_
        exact z_zret C0 hr hlk (by decide) hw (⟨(Or.inl ⟨rfl, trivial⟩), rfl⟩) (dkP dF_172 DX12_beginsTerm (i := 14) rfl rfl)
  · skip
    refine lv_if_eq (tgt := 27) hx hb (dkS dF_153 DX12_beginsTerm (i := 2) rfl rfl rfl) (by decide) (fun _ => ?_) (fun h => absurd h (by decide))
    refine lv_iconst (v := 0) hx hb (dkP dF_3 DX12_beginsTerm (i := 13) rfl rfl) (by decide) ?_
    exact z_zret C0 hr hlk (by decide) hw (⟨(Or.inr ⟨rfl, trivial⟩), rfl⟩) (dkP dF_172 DX12_beginsTerm (i := 14) rfl rfl)
set_option maxRecDepth 100000 in
set_option maxHeartbeats 8000000 in
theorem c_X12_term (l : Launch) (G : va_G) (kc : KC) (ad : Nat → Nat) (σ : Sg) (sg0 : Int32) (many : Nat) (hm : many ≤ 6) (hT : TM σ) : MV l G kc yX12_term cX12_term 5 3 69 [.ref (ad 0), .int sg0, .int (nI many)] shM ad σ (fun σ1 => (many = 6 → ¬ σ1.1 0 12 = 0) ∧ TM σ1 ∧ fr true [6] [8, 9, 10, 11, 12, 13] σ σ1) := by
  intro sz
  refine z_body (y := yX12_term) (n := 5) (av := [.ref (ad 0), .int sg0, .int (nI many)]) (Qc := fun A => va_Qv (fun σ1 => (many = 6 → ¬ σ1.1 0 12 = 0) ∧ TM σ1 ∧ fr true [6] [8, 9, 10, 11, 12, 13] σ σ1) (PoC G kc shM ad A) A) (plainFor_of_name (by decide)) (Nat.le_of_ble_eq_true rfl) (fun pr e s m below meth c A C0 hr hlk hnm hw hRo ls hl => ?_) sz
  have hx := C0.1
  have hb := C0.2.1
  have hown := C0.2.2.2.1
  have hts := C0.2.2.2.2.1
  have hl : lv_has ls 5 [(0, .ref (ad 0)), (1, .int sg0), (2, .int (nI many))] := hl
  have jp1 : ∀  (σc : Sg) (H : Heap) (locs : List Loc) (ls : Array Slot), (many = 6 → ¬ σc.1 0 12 = 0) → (TM σc) → (fr true [6] [8, 9, 10, 11, 12, 13] σ σc) → St G kc A s.heap shM ad σc H locs → lv_has ls 5 [(0, .ref (ad 0)), (1, .int sg0), (2, .int (nI many))] → W pr l e { frames := 3, cells := 0, slots := 0, locals := 69 } s m ([.ref (ad 0), .int sg0, .int (nI many)] : List Value).toArray below meth c H locs 0 0 (MQ below (va_Qv (fun σ1 => (many = 6 → ¬ σ1.1 0 12 = 0) ∧ TM σ1 ∧ fr true [6] [8, 9, 10, 11, 12, 13] σ σ1) (PoC G kc shM ad A) A) ([.ref (ad 0), .int sg0, .int (nI many)] : List Value).toArray s 0 0 A) (F0 m 53 ls []) := by
    intro  σc H locs ls h6 hT_σc hF_σc hw hl
    refine lv_aload_n hx hb (dkP dF_42 DX12_term (i := 26) rfl rfl) rfl (lv_at hl 0 rfl) ?_
    refine zk_I hw (zr_V (As := []) (rest := []) C0 (c_X12_good l G kc ad σc  _) cv_X12_good lk_X12_190 (zp_V C0 hRo hw 0 rfl rfl rfl) rfl hl.1 rfl ⟨by decide, by decide⟩ (Nat.le_of_ble_eq_true rfl) (dk2 dF_182 DX12_term (i := 27) rfl rfl rfl) ⟨Nat.le_refl _, Nat.le_refl _⟩) (fun r2 s2 H locs hp hw => ?_)
    obtain ⟨hq2, hs2⟩ := hp
    (rw [hs2] at hw; clear hs2)
    rcases hq2 with ⟨rfl, hc2⟩ | ⟨rfl, hc2⟩
    · skip
      refine lv_if_ne (tgt := 61) hx hb (dkS dF_154 DX12_term (i := 28) rfl rfl rfl) (by decide) (fun _ => ?_) (fun h => absurd h (by decide))
      refine lv_aload_n hx hb (dkP dF_42 DX12_term (i := 30) rfl rfl) rfl (lv_at hl 0 rfl) ?_
      refine zk_I hw (zr_V (As := []) (rest := []) C0 (c_X12_fieldHere l G kc ad σc hT_σc _) cv_X12_fieldHere lk_X12_226 (zp_V C0 hRo hw 0 rfl rfl rfl) rfl hl.1 rfl ⟨by decide, by decide⟩ (Nat.le_of_ble_eq_true rfl) (dk2 dF_182 DX12_term (i := 31) rfl rfl rfl) ⟨Nat.le_refl _, Nat.le_refl _⟩) (fun r3 s3 H locs hp hw => ?_)
      obtain ⟨f3_0, hs3⟩ := hp
      (rw [hs3] at hw)
      refine lv_istore_n (lv' := [(3, .int r3), (0, .ref (ad 0)), (1, .int sg0), (2, .int (nI many))]) hx hb (dkP dF_62 DX12_term (i := 32) rfl rfl) rfl hl (by decide) rfl (fun ls hl => ?_)
      refine lv_iload_n hx hb (dkP dF_29 DX12_term (i := 33) rfl rfl) rfl (lv_at hl 0 rfl) ?_
      refine lv_iconst (v := (-1)) hx hb (dkP dF_2 DX12_term (i := 34) rfl rfl) (by decide) ?_
      refine lv_icmp_eq (tgt := 86) hx hb (dkS dF_159 DX12_term (i := 35) rfl rfl rfl) (by decide) (fun c4 => ?_) (fun c4 => ?_)
      · (try simp (disch := omega) only [ta_lt, ta_le, ta_eq, tnI, tn32 1 (by decide)] at c4)
        refine lv_aload_n hx hb (dkP dF_42 DX12_term (i := 47) rfl rfl) rfl (lv_at hl 1 rfl) ?_
        refine lv_iconst (v := 0) hx hb (dkP dF_3 DX12_term (i := 48) rfl rfl) (by decide) ?_
        refine lv_sipush (v := 9999) hx hb (dkS dF_17 DX12_term (i := 49) rfl rfl rfl) (by decide) ?_
        refine zk_I hw (zr_V (As := [.int 0, .int 9999]) (rest := []) C0 (c_X12_number l G kc ad σc 0 9999 hT_σc _) cv_X12_number lk_X12_232 (zp_V C0 hRo hw 0 rfl rfl rfl) rfl hl.1 rfl ⟨by decide, by decide⟩ (Nat.le_of_ble_eq_true rfl) (dk2 dF_182 DX12_term (i := 50) rfl rfl rfl) ⟨Nat.le_refl _, Nat.le_refl _⟩) (fun r5 s5 H locs hp hw => ?_)
        obtain ⟨hT5, hG5⟩ := hp
        have hF5 : fr true [6] [8, 9, 10, 11, 12, 13] σ s5 := fr.t hF_σc hG5 (by decide) (by decide) (by decide)
        refine lv_istore (lv' := [(4, .int r5), (3, .int r3), (0, .ref (ad 0)), (1, .int sg0), (2, .int (nI many))]) hx hb (dk1 dF_54 DX12_term (i := 51) rfl rfl rfl) hl (by decide) rfl (fun ls hl => ?_)
        refine lv_aload_n hx hb (dkP dF_42 DX12_term (i := 52) rfl rfl) rfl (lv_at hl 2 rfl) ?_
        refine lv_bipush (v := 42) hx hb (dks dF_16 DX12_term (i := 53) rfl rfl rfl) (by decide) ?_
        refine zk_I hw (zr_V (As := [.int 42]) (rest := []) C0 (c_X12_takesSign l G kc ad s5 42 hT5 _) cv_X12_takesSign lk_X12_221 (zp_V C0 hRo hw 0 rfl rfl rfl) rfl hl.1 rfl ⟨by decide, by decide⟩ (Nat.le_of_ble_eq_true rfl) (dk2 dF_182 DX12_term (i := 54) rfl rfl rfl) ⟨Nat.le_refl _, Nat.le_refl _⟩) (fun r6 s6 H locs hp hw => ?_)
        obtain ⟨f6_0, hT6, hG6⟩ := hp
        have hF6 : fr true [6] [8, 9, 10, 11, 12, 13] σ s6 := fr.t hF5 hG6 (by decide) (by decide) (by decide)
        rcases f6_0 with ⟨rfl, hc6⟩ | ⟨rfl, hc6⟩
        · skip
          refine lv_if_eq (tgt := 124) hx hb (dkS dF_153 DX12_term (i := 55) rfl rfl rfl) (by decide) (fun h => absurd h (by decide)) (fun _ => ?_)
          refine lv_aload_n hx hb (dkP dF_42 DX12_term (i := 56) rfl rfl) rfl (lv_at hl 2 rfl) ?_
          refine z_gr C0 hw 0 14 6 rfl fl_X12_42 (dk2 dF_180 DX12_term (i := 57) rfl rfl rfl) ?_
          refine lv_aload_n hx hb (dkP dF_42 DX12_term (i := 58) rfl rfl) rfl (lv_at hl 2 rfl) ?_
          refine zk_I hw (zr_V (As := []) (rest := [.ref (ad 6)]) C0 (c_X12_fieldThere l G kc ad s6 hT6 _) cv_X12_fieldThere lk_X12_235 (zp_V C0 hRo hw 0 rfl rfl rfl) rfl hl.1 rfl ⟨by decide, by decide⟩ (Nat.le_of_ble_eq_true rfl) (dk2 dF_182 DX12_term (i := 59) rfl rfl rfl) ⟨Nat.le_refl _, Nat.le_refl _⟩) (fun r7 s7 H locs hp hw => ?_)
          obtain ⟨f7_0, hT7, hG7⟩ := hp
          have hF7 : fr true [6] [8, 9, 10, 11, 12, 13] σ s7 := fr.t hF6 hG7 (by decide) (by decide) (by decide)
          obtain ⟨n7, hn7, rfl⟩ := rngN (h := 7) f7_0
          refine lv_dup2_11 hx hb (dkP dF_92 DX12_term (i := 60) rfl rfl) rfl rfl ?_
          refine z_ialdN (n := 9) C0 hw 6 n7 rfl (by omega) (by decide) (dkP dF_46 DX12_term (i := 61) rfl rfl) ?_
          obtain ⟨v8, ev8⟩ : ∃ y : Int32, s7.1 6 n7 = y := ⟨_, rfl⟩
          refine z_top (y := v8) ev8 ?_
          refine lv_iload_n hx hb (dkP dF_27 DX12_term (i := 62) rfl rfl) rfl (lv_at hl 3 rfl) ?_
          refine lv_iload hx hb (dk1 dF_21 DX12_term (i := 63) rfl rfl rfl) (lv_at hl 0 rfl) ?_
          refine lv_imul hx hb (dkP dF_104 DX12_term (i := 64) rfl rfl) ?_
          refine lv_iadd hx hb (dkP dF_96 DX12_term (i := 65) rfl rfl) ?_
          refine z_iastN (n := 9) C0 hw 6 n7 rfl (by omega) (by decide) (dkP dF_79 DX12_term (i := 66) rfl rfl) (fun H locs hw => ?_)
          have hT9 : TM (sI s7 6 n7 (v8 + (sg0 * r5))) := TM.w hT7 (show True from trivial)
          have hF9 : fr true [6] [8, 9, 10, 11, 12, 13] σ (sI s7 6 n7 (v8 + (sg0 * r5))) := fr.w hF7 (Or.inl ⟨by decide, by decide⟩) (fun _ h => absurd h (by decide))
          refine lv_goto (tgt := 138) hx hb (dkS dF_167 DX12_term (i := 67) rfl rfl rfl) (by decide) ?_
          exact z_vret C0 hr hlk hw (⟨(fun h => absurd hc2 (h6 h)), hT9, hF9⟩) (dkP dF_177 DX12_term (i := 78) rfl rfl)
        · skip
          refine lv_if_eq (tgt := 124) hx hb (dkS dF_153 DX12_term (i := 55) rfl rfl rfl) (by decide) (fun _ => ?_) (fun h => absurd h (by decide))
          refine lv_aload_n hx hb (dkP dF_42 DX12_term (i := 68) rfl rfl) rfl (lv_at hl 2 rfl) ?_
          refine z_gr C0 hw 0 14 6 rfl fl_X12_42 (dk2 dF_180 DX12_term (i := 69) rfl rfl rfl) ?_
          refine lv_bipush (v := 8) hx hb (dks dF_16 DX12_term (i := 70) rfl rfl rfl) (by decide) ?_
          refine lv_dup2_11 hx hb (dkP dF_92 DX12_term (i := 71) rfl rfl) rfl rfl ?_
          refine z_ialdN (n := 9) C0 hw 6 8 rfl (by omega) (by decide) (dkP dF_46 DX12_term (i := 72) rfl rfl) ?_
          obtain ⟨v10, ev10⟩ : ∃ y : Int32, s6.1 6 8 = y := ⟨_, rfl⟩
          refine z_top (y := v10) ev10 ?_
          refine lv_iload_n hx hb (dkP dF_27 DX12_term (i := 73) rfl rfl) rfl (lv_at hl 3 rfl) ?_
          refine lv_iload hx hb (dk1 dF_21 DX12_term (i := 74) rfl rfl rfl) (lv_at hl 0 rfl) ?_
          refine lv_imul hx hb (dkP dF_104 DX12_term (i := 75) rfl rfl) ?_
          refine lv_iadd hx hb (dkP dF_96 DX12_term (i := 76) rfl rfl) ?_
          refine z_iastN (n := 9) C0 hw 6 8 rfl (by omega) (by decide) (dkP dF_79 DX12_term (i := 77) rfl rfl) (fun H locs hw => ?_)
          have hT11 : TM (sI s6 6 8 (v10 + (sg0 * r5))) := TM.w hT6 (show True from trivial)
          have hF11 : fr true [6] [8, 9, 10, 11, 12, 13] σ (sI s6 6 8 (v10 + (sg0 * r5))) := fr.w hF6 (Or.inl ⟨by decide, by decide⟩) (fun _ h => absurd h (by decide))
          exact z_vret C0 hr hlk hw (⟨(fun h => absurd hc2 (h6 h)), hT11, hF11⟩) (dkP dF_177 DX12_term (i := 78) rfl rfl)
      · (try simp (disch := omega) only [ta_lt, ta_le, ta_eq, tnI, tn32 1 (by decide)] at c4)
        obtain ⟨n12, hn12, en12⟩ := rngN (x := r3) (h := 7) (show 0 ≤ _ ∧ _ ≤ 7 from by (try simp only [lg_cmp_lt, lg_cmp_le, lg_cmp_gt, lg_cmp_ge, lg_cmp_eq] at hc2); (try simp (disch := omega) only [ta_lt, ta_le, ta_eq, tb_lt, tb_le, tb_eq, tw, tnI, tsub1, tsv, tn32 1 (by decide), tnj 1 (by decide), tl32 0 (by decide), tl64 0 (by decide), tl32 8 (by decide), tl64 8 (by decide), tl32 42 (by decide), tl64 42 (by decide), tl32 9999 (by decide), tl64 9999 (by decide)] at hc2); (try simp only [lg_cmp_lt, lg_cmp_le, lg_cmp_gt, lg_cmp_ge, lg_cmp_eq] at f3_0); (try simp (disch := omega) only [ta_lt, ta_le, ta_eq, tb_lt, tb_le, tb_eq, tw, tnI, tsub1, tsv, tn32 1 (by decide), tnj 1 (by decide), tl32 0 (by decide), tl64 0 (by decide), tl32 8 (by decide), tl64 8 (by decide), tl32 42 (by decide), tl64 42 (by decide), tl32 9999 (by decide), tl64 9999 (by decide)] at f3_0); (try simp only [lg_cmp_lt, lg_cmp_le, lg_cmp_gt, lg_cmp_ge, lg_cmp_eq] at c4); (try simp (disch := omega) only [ta_lt, ta_le, ta_eq, tb_lt, tb_le, tb_eq, tw, tnI, tsub1, tsv, tn32 1 (by decide), tnj 1 (by decide), tl32 0 (by decide), tl64 0 (by decide), tl32 8 (by decide), tl64 8 (by decide), tl32 42 (by decide), tl64 42 (by decide), tl32 9999 (by decide), tl64 9999 (by decide)] at c4); (try simp (disch := omega) only [ta_lt, ta_le, ta_eq, tb_lt, tb_le, tb_eq, tw, tnI, tsub1, tsv, tn32 1 (by decide), tnj 1 (by decide), tl32 0 (by decide), tl64 0 (by decide), tl32 8 (by decide), tl64 8 (by decide), tl32 42 (by decide), tl64 42 (by decide), tl32 9999 (by decide), tl64 9999 (by decide)]); omega)
        subst en12
        refine lv_aload_n hx hb (dkP dF_42 DX12_term (i := 36) rfl rfl) rfl (lv_at hl 1 rfl) ?_
        refine zk_V hw (zr_V (As := []) (rest := []) C0 (c_X12_step l G kc ad σc hT_σc _) cv_X12_step lk_X12_208 (zp_V C0 hRo hw 0 rfl rfl rfl) rfl hl.1 rfl ⟨by decide, by decide⟩ (Nat.le_of_ble_eq_true rfl) (dk2 dF_182 DX12_term (i := 37) rfl rfl rfl) ⟨Nat.le_refl _, Nat.le_refl _⟩) (fun s13 H locs hp hw => ?_)
        obtain ⟨hT13, hG13⟩ := hp
        have hF13 : fr true [6] [8, 9, 10, 11, 12, 13] σ s13 := fr.t hF_σc hG13 (by decide) (by decide) (by decide)
        refine lv_aload_n hx hb (dkP dF_42 DX12_term (i := 38) rfl rfl) rfl (lv_at hl 1 rfl) ?_
        refine z_gr C0 hw 0 14 6 rfl fl_X12_42 (dk2 dF_180 DX12_term (i := 39) rfl rfl rfl) ?_
        refine lv_iload_n hx hb (dkP dF_29 DX12_term (i := 40) rfl rfl) rfl (lv_at hl 0 rfl) ?_
        refine lv_dup2_11 hx hb (dkP dF_92 DX12_term (i := 41) rfl rfl) rfl rfl ?_
        refine z_ialdN (n := 9) C0 hw 6 n12 rfl (by omega) (by decide) (dkP dF_46 DX12_term (i := 42) rfl rfl) ?_
        obtain ⟨v14, ev14⟩ : ∃ y : Int32, s13.1 6 n12 = y := ⟨_, rfl⟩
        refine z_top (y := v14) ev14 ?_
        refine lv_iload_n hx hb (dkP dF_27 DX12_term (i := 43) rfl rfl) rfl (lv_at hl 2 rfl) ?_
        refine lv_iadd hx hb (dkP dF_96 DX12_term (i := 44) rfl rfl) ?_
        refine z_iastN (n := 9) C0 hw 6 n12 rfl (by omega) (by decide) (dkP dF_79 DX12_term (i := 45) rfl rfl) (fun H locs hw => ?_)
        have hT15 : TM (sI s13 6 n12 (v14 + sg0)) := TM.w hT13 (show True from trivial)
        have hF15 : fr true [6] [8, 9, 10, 11, 12, 13] σ (sI s13 6 n12 (v14 + sg0)) := fr.w hF13 (Or.inl ⟨by decide, by decide⟩) (fun _ h => absurd h (by decide))
        exact z_vret C0 hr hlk hw (⟨(fun h => absurd hc2 (h6 h)), hT15, hF15⟩) (dkP dF_177 DX12_term (i := 46) rfl rfl)
    · skip
      refine lv_if_ne (tgt := 61) hx hb (dkS dF_154 DX12_term (i := 28) rfl rfl rfl) (by decide) (fun h => absurd h (by decide)) (fun _ => ?_)
      exact z_vret C0 hr hlk hw (⟨h6, hT_σc, hF_σc⟩) (dkP dF_177 DX12_term (i := 29) rfl rfl)
  have jp16 : ∀  (σb : Sg) (H : Heap) (locs : List Loc) (ls : Array Slot), (TM σb) → (fr true [6] [8, 9, 10, 11, 12, 13] σ σb) → St G kc A s.heap shM ad σb H locs → lv_has ls 5 [(0, .ref (ad 0)), (1, .int sg0), (2, .int (nI many))] → W pr l e { frames := 3, cells := 0, slots := 0, locals := 69 } s m ([.ref (ad 0), .int sg0, .int (nI many)] : List Value).toArray below meth c H locs 0 0 (MQ below (va_Qv (fun σ1 => (many = 6 → ¬ σ1.1 0 12 = 0) ∧ TM σ1 ∧ fr true [6] [8, 9, 10, 11, 12, 13] σ σ1) (PoC G kc shM ad A) A) ([.ref (ad 0), .int sg0, .int (nI many)] : List Value).toArray s 0 0 A) (F0 m 42 ls []) := by
    intro  σb H locs ls hT_σb hF_σb hw hl
    refine lv_iload_n hx hb (dkP dF_28 DX12_term (i := 20) rfl rfl) rfl (lv_at hl 2 rfl) ?_
    refine lv_bipush (v := 6) hx hb (dks dF_16 DX12_term (i := 21) rfl rfl rfl) (by decide) ?_
    refine lv_icmp_ne (tgt := 53) hx hb (dkS dF_160 DX12_term (i := 22) rfl rfl rfl) (by decide) (fun c17 => ?_) (fun c17 => ?_)
    · simp (disch := omega) only [ta_lt, ta_le, ta_eq, tnI, tl32 6 (by decide)] at c17
      exact jp1 σb _ _ _ (fun h => by exfalso; (try simp only [lg_cmp_lt, lg_cmp_le, lg_cmp_gt, lg_cmp_ge, lg_cmp_eq] at c17); (try simp (disch := omega) only [ta_lt, ta_le, ta_eq, tb_lt, tb_le, tb_eq, tw, tnI, tsub1, tsv, tn32 1 (by decide), tnj 1 (by decide), tl32 0 (by decide), tl64 0 (by decide), tl32 6 (by decide), tl64 6 (by decide), tl32 8 (by decide), tl64 8 (by decide), tl32 42 (by decide), tl64 42 (by decide), tl32 9999 (by decide), tl64 9999 (by decide)] at c17); (try simp (disch := omega) only [ta_lt, ta_le, ta_eq, tb_lt, tb_le, tb_eq, tw, tnI, tsub1, tsv, tn32 1 (by decide), tnj 1 (by decide), tl32 0 (by decide), tl64 0 (by decide), tl32 6 (by decide), tl64 6 (by decide), tl32 8 (by decide), tl64 8 (by decide), tl32 42 (by decide), tl64 42 (by decide), tl32 9999 (by decide), tl64 9999 (by decide)]); omega) hT_σb hF_σb hw (lv_sub hl [0, 1, 2] rfl)
    · simp (disch := omega) only [ta_lt, ta_le, ta_eq, tnI, tl32 6 (by decide)] at c17
      refine lv_aload_n hx hb (dkP dF_42 DX12_term (i := 23) rfl rfl) rfl (lv_at hl 0 rfl) ?_
      refine lv_iconst (v := 3) hx hb (dkP dF_6 DX12_term (i := 24) rfl rfl) (by decide) ?_
      refine zk_V hw (zr_V (As := [.int 3]) (rest := []) C0 (c_X12_wrong l G kc ad σb 3 (by first | omega | assumption | decide | rfl) hT_σb _) cv_X12_wrong lk_X12_214 (zp_V C0 hRo hw 0 rfl rfl rfl) rfl hl.1 rfl ⟨by decide, by decide⟩ (Nat.le_of_ble_eq_true rfl) (dk2 dF_182 DX12_term (i := 25) rfl rfl rfl) ⟨Nat.le_refl _, Nat.le_refl _⟩) (fun s18 H locs hp hw => ?_)
      obtain ⟨f18_0, hT18, hG18⟩ := hp
      have hF18 : fr true [6] [8, 9, 10, 11, 12, 13] σ s18 := fr.t hF_σb hG18 (by decide) (by decide) (by decide)
      exact jp1 s18 _ _ _ (fun _ => f18_0) hT18 hF18 hw (lv_sub hl [0, 1, 2] rfl)
  have jp19 : ∀  (σa : Sg) (H : Heap) (locs : List Loc) (ls : Array Slot), (TM σa) → (fr true [6] [8, 9, 10, 11, 12, 13] σ σa) → St G kc A s.heap shM ad σa H locs → lv_has ls 5 [(0, .ref (ad 0)), (1, .int sg0), (2, .int (nI many))] → W pr l e { frames := 3, cells := 0, slots := 0, locals := 69 } s m ([.ref (ad 0), .int sg0, .int (nI many)] : List Value).toArray below meth c H locs 0 0 (MQ below (va_Qv (fun σ1 => (many = 6 → ¬ σ1.1 0 12 = 0) ∧ TM σ1 ∧ fr true [6] [8, 9, 10, 11, 12, 13] σ σ1) (PoC G kc shM ad A) A) ([.ref (ad 0), .int sg0, .int (nI many)] : List Value).toArray s 0 0 A) (F0 m 12 ls []) := by
    intro  σa H locs ls hT_σa hF_σa hw hl
    refine lv_aload_n hx hb (dkP dF_42 DX12_term (i := 6) rfl rfl) rfl (lv_at hl 0 rfl) ?_
    refine zk_I hw (zr_V (As := []) (rest := []) C0 (c_X12_good l G kc ad σa  _) cv_X12_good lk_X12_190 (zp_V C0 hRo hw 0 rfl rfl rfl) rfl hl.1 rfl ⟨by decide, by decide⟩ (Nat.le_of_ble_eq_true rfl) (dk2 dF_182 DX12_term (i := 7) rfl rfl rfl) ⟨Nat.le_refl _, Nat.le_refl _⟩) (fun r20 s20 H locs hp hw => ?_)
    obtain ⟨hq20, hs20⟩ := hp
    (rw [hs20] at hw; clear hs20)
    rcases hq20 with ⟨rfl, hc20⟩ | ⟨rfl, hc20⟩
    · skip
      refine lv_if_eq (tgt := 42) hx hb (dkS dF_153 DX12_term (i := 8) rfl rfl rfl) (by decide) (fun h => absurd h (by decide)) (fun _ => ?_)
      refine lv_aload_n hx hb (dkP dF_42 DX12_term (i := 9) rfl rfl) rfl (lv_at hl 0 rfl) ?_
      refine z_gi C0 hw 0 10 rfl fl_X12_162 (dk2 dF_180 DX12_term (i := 10) rfl rfl rfl) ?_
      obtain ⟨v21, ev21⟩ : ∃ y : Int32, σa.1 0 10 = y := ⟨_, rfl⟩
      refine z_top (y := v21) ev21 ?_
      refine lv_iconst (v := 2) hx hb (dkP dF_5 DX12_term (i := 11) rfl rfl) (by decide) ?_
      refine lv_icmp_ne (tgt := 42) hx hb (dkS dF_160 DX12_term (i := 12) rfl rfl rfl) (by decide) (fun c22 => ?_) (fun c22 => ?_)
      · (try simp (disch := omega) only [ta_lt, ta_le, ta_eq, tnI, tl32 2 (by decide)] at c22)
        exact jp16 σa _ _ _ hT_σa hF_σa hw (lv_sub hl [0, 1, 2] rfl)
      · (try simp (disch := omega) only [ta_lt, ta_le, ta_eq, tnI, tl32 2 (by decide)] at c22)
        refine lv_aload_n hx hb (dkP dF_42 DX12_term (i := 13) rfl rfl) rfl (lv_at hl 0 rfl) ?_
        refine z_gi C0 hw 0 11 rfl fl_X12_173 (dk2 dF_180 DX12_term (i := 14) rfl rfl rfl) ?_
        obtain ⟨v23, ev23⟩ : ∃ y : Int32, σa.1 0 11 = y := ⟨_, rfl⟩
        refine z_top (y := v23) ev23 ?_
        refine lv_sipush (v := 9999) hx hb (dkS dF_17 DX12_term (i := 15) rfl rfl rfl) (by decide) ?_
        refine lv_icmp_le (tgt := 42) hx hb (dkS dF_164 DX12_term (i := 16) rfl rfl rfl) (by decide) (fun c24 => ?_) (fun c24 => ?_)
        · (try simp (disch := omega) only [ta_lt, ta_le, ta_eq, tnI, tl32 9999 (by decide)] at c24)
          exact jp16 σa _ _ _ hT_σa hF_σa hw (lv_sub hl [0, 1, 2] rfl)
        · (try simp (disch := omega) only [ta_lt, ta_le, ta_eq, tnI, tl32 9999 (by decide)] at c24)
          refine lv_aload_n hx hb (dkP dF_42 DX12_term (i := 17) rfl rfl) rfl (lv_at hl 0 rfl) ?_
          refine lv_iconst (v := 2) hx hb (dkP dF_5 DX12_term (i := 18) rfl rfl) (by decide) ?_
          refine zk_V hw (zr_V (As := [.int 2]) (rest := []) C0 (c_X12_wrong l G kc ad σa 2 (by first | omega | assumption | decide | rfl) hT_σa _) cv_X12_wrong lk_X12_214 (zp_V C0 hRo hw 0 rfl rfl rfl) rfl hl.1 rfl ⟨by decide, by decide⟩ (Nat.le_of_ble_eq_true rfl) (dk2 dF_182 DX12_term (i := 19) rfl rfl rfl) ⟨Nat.le_refl _, Nat.le_refl _⟩) (fun s25 H locs hp hw => ?_)
          obtain ⟨f25_0, hT25, hG25⟩ := hp
          have hF25 : fr true [6] [8, 9, 10, 11, 12, 13] σ s25 := fr.t hF_σa hG25 (by decide) (by decide) (by decide)
          exact jp16 s25 _ _ _ hT25 hF25 hw (lv_sub hl [0, 1, 2] rfl)
    · skip
      refine lv_if_eq (tgt := 42) hx hb (dkS dF_153 DX12_term (i := 8) rfl rfl rfl) (by decide) (fun _ => ?_) (fun h => absurd h (by decide))
      exact jp16 σa _ _ _ hT_σa hF_σa hw (lv_sub hl [0, 1, 2] rfl)
  refine lv_aload_n hx hb (dkP dF_42 DX12_term (i := 0) rfl rfl) rfl (lv_at hl 0 rfl) ?_
  refine zk_I hw (zr_V (As := []) (rest := []) C0 (c_X12_beginsTerm l G kc ad σ hT _) cv_X12_beginsTerm lk_X12_229 (zp_V C0 hRo hw 0 rfl rfl rfl) rfl hl.1 rfl ⟨by decide, by decide⟩ (Nat.le_of_ble_eq_true rfl) (dk2 dF_182 DX12_term (i := 1) rfl rfl rfl) ⟨Nat.le_refl _, Nat.le_refl _⟩) (fun r26 s26 H locs hp hw => ?_)
  obtain ⟨f26_0, hs26⟩ := hp
  (rw [hs26] at hw)
  rcases f26_0 with ⟨rfl, hc26⟩ | ⟨rfl, hc26⟩
  · skip
    refine lv_if_ne (tgt := 12) hx hb (dkS dF_154 DX12_term (i := 2) rfl rfl rfl) (by decide) (fun _ => ?_) (fun h => absurd h (by decide))
    exact jp19 σ _ _ _ hT fr.refl hw (lv_sub hl [0, 1, 2] rfl)
  · skip
    refine lv_if_ne (tgt := 12) hx hb (dkS dF_154 DX12_term (i := 2) rfl rfl rfl) (by decide) (fun h => absurd h (by decide)) (fun _ => ?_)
    refine lv_aload_n hx hb (dkP dF_42 DX12_term (i := 3) rfl rfl) rfl (lv_at hl 0 rfl) ?_
    refine lv_iconst (v := 1) hx hb (dkP dF_4 DX12_term (i := 4) rfl rfl) (by decide) ?_
    refine zk_V hw (zr_V (As := [.int 1]) (rest := []) C0 (c_X12_wrong l G kc ad σ 1 (by first | omega | assumption | decide | rfl) hT _) cv_X12_wrong lk_X12_214 (zp_V C0 hRo hw 0 rfl rfl rfl) rfl hl.1 rfl ⟨by decide, by decide⟩ (Nat.le_of_ble_eq_true rfl) (dk2 dF_182 DX12_term (i := 5) rfl rfl rfl) ⟨Nat.le_refl _, Nat.le_refl _⟩) (fun s27 H locs hp hw => ?_)
    obtain ⟨f27_0, hT27, hG27⟩ := hp
    have hF27 : fr true [6] [8, 9, 10, 11, 12, 13] σ s27 := fr.t fr.refl hG27 (by decide) (by decide) (by decide)
    exact jp19 s27 _ _ _ hT27 hF27 hw (lv_sub hl [0, 1, 2] rfl)
set_option maxRecDepth 100000 in
set_option maxHeartbeats 8000000 in
theorem c_X12_readSum (l : Launch) (G : va_G) (kc : KC) (ad : Nat → Nat) (σ : Sg)  (hT : TM σ) : MV l G kc yX12_readSum cX12_readSum 3 4 93 [.ref (ad 0)] shM ad σ (fun σ1 => TM σ1 ∧ fr true [6] [8, 9, 10, 11, 12, 13] σ σ1) := by
  intro sz
  refine z_body (y := yX12_readSum) (n := 3) (av := [.ref (ad 0)]) (Qc := fun A => va_Qv (fun σ1 => TM σ1 ∧ fr true [6] [8, 9, 10, 11, 12, 13] σ σ1) (PoC G kc shM ad A) A) (plainFor_of_name (by decide)) (Nat.le_of_ble_eq_true rfl) (fun pr e s m below meth c A C0 hr hlk hnm hw hRo ls hl => ?_) sz
  have hx := C0.1
  have hb := C0.2.1
  have hown := C0.2.2.2.1
  have hts := C0.2.2.2.2.1
  have hl : lv_has ls 3 [(0, .ref (ad 0))] := hl
  refine lv_iconst (v := 0) hx hb (dkP dF_3 DX12_readSum (i := 0) rfl rfl) (by decide) ?_
  refine lv_istore_n (lv' := [(1, .int 0), (0, .ref (ad 0))]) hx hb (dkP dF_60 DX12_readSum (i := 1) rfl rfl) rfl hl (by decide) rfl (fun ls hl => ?_)
  have lp1 : ∀ (nq : Nat) (i : Nat) (τ : Sg) (H : Heap) (locs : List Loc) (ls : Array Slot), 9 - i < nq → (i ≤ 9) → (TM τ) → (fr true [6] [8, 9, 10, 11, 12, 13] σ τ) → St G kc A s.heap shM ad τ H locs → lv_has ls 3 [(1, .int (nI i)), (0, .ref (ad 0))] → W pr l e { frames := 4, cells := 0, slots := 0, locals := 93 } s m ([.ref (ad 0)] : List Value).toArray below meth c H locs 0 0 (MQ below (va_Qv (fun σ1 => TM σ1 ∧ fr true [6] [8, 9, 10, 11, 12, 13] σ σ1) (PoC G kc shM ad A) A) ([.ref (ad 0)] : List Value).toArray s 0 0 A) (F0 m 2 ls []) := by
    intro nq
    induction nq with
    | zero => intro i τ H locs ls hmu; exact absurd hmu (Nat.not_lt_zero _)
    | succ nq ih1 =>
      intro i τ H locs ls hmu hi hT_τ hF_τ hw hl
      refine lv_iload_n hx hb (dkP dF_27 DX12_readSum (i := 2) rfl rfl) rfl (lv_at hl 0 rfl) ?_
      refine lv_bipush (v := 9) hx hb (dks dF_16 DX12_readSum (i := 3) rfl rfl rfl) (by decide) ?_
      refine lv_icmp_ge (tgt := 21) hx hb (dkS dF_162 DX12_readSum (i := 4) rfl rfl rfl) (by decide) (fun c2 => ?_) (fun c2 => ?_)
      · simp (disch := omega) only [ta_lt, ta_le, ta_eq, tnI, tl32 9 (by decide)] at c2
        refine lv_aload_n hx hb (dkP dF_42 DX12_readSum (i := 12) rfl rfl) rfl (lv_at hl 1 rfl) ?_
        refine lv_bipush (v := 45) hx hb (dks dF_16 DX12_readSum (i := 13) rfl rfl rfl) (by decide) ?_
        refine zk_I hw (zr_V (As := [.int 45]) (rest := []) C0 (c_X12_takesSign l G kc ad τ 45 hT_τ _) cv_X12_takesSign lk_X12_221 (zp_V C0 hRo hw 0 rfl rfl rfl) rfl hl.1 rfl ⟨by decide, by decide⟩ (Nat.le_of_ble_eq_true rfl) (dk2 dF_182 DX12_readSum (i := 14) rfl rfl rfl) ⟨Nat.le_refl _, Nat.le_refl _⟩) (fun r3 s3 H locs hp hw => ?_)
        obtain ⟨f3_0, hT3, hG3⟩ := hp
        have hF3 : fr true [6] [8, 9, 10, 11, 12, 13] σ s3 := fr.t hF_τ hG3 (by decide) (by decide) (by decide)
        rcases f3_0 with ⟨rfl, hc3⟩ | ⟨rfl, hc3⟩
        · skip
          refine lv_if_eq (tgt := 34) hx hb (dkS dF_153 DX12_readSum (i := 15) rfl rfl rfl) (by decide) (fun h => absurd h (by decide)) (fun _ => ?_)
          refine lv_iconst (v := (-1)) hx hb (dkP dF_2 DX12_readSum (i := 16) rfl rfl) (by decide) ?_
          refine lv_goto (tgt := 35) hx hb (dkS dF_167 DX12_readSum (i := 17) rfl rfl rfl) (by decide) ?_
          refine lv_istore_n (lv' := [(1, .int (-1)), (0, .ref (ad 0))]) hx hb (dkP dF_60 DX12_readSum (i := 19) rfl rfl) rfl hl (by decide) rfl (fun ls hl => ?_)
          refine lv_iconst (v := 0) hx hb (dkP dF_3 DX12_readSum (i := 20) rfl rfl) (by decide) ?_
          refine lv_istore_n (lv' := [(2, .int 0), (1, .int (-1)), (0, .ref (ad 0))]) hx hb (dkP dF_61 DX12_readSum (i := 21) rfl rfl) rfl hl (by decide) rfl (fun ls hl => ?_)
          refine lv_aload_n hx hb (dkP dF_42 DX12_readSum (i := 22) rfl rfl) rfl (lv_at hl 2 rfl) ?_
          refine lv_iload_n hx hb (dkP dF_27 DX12_readSum (i := 23) rfl rfl) rfl (lv_at hl 1 rfl) ?_
          refine lv_iload_n hx hb (dkP dF_28 DX12_readSum (i := 24) rfl rfl) rfl (lv_at hl 0 rfl) ?_
          refine zk_V hw (zr_V (As := [.int (-1), .int 0]) (rest := []) C0 (c_X12_term l G kc ad s3 (-1) 0 (by omega) hT3 _) cv_X12_term lk_X12_238 (zp_V C0 hRo hw 0 rfl rfl rfl) rfl hl.1 rfl ⟨by decide, by decide⟩ (Nat.le_of_ble_eq_true rfl) (dk2 dF_182 DX12_readSum (i := 25) rfl rfl rfl) ⟨Nat.le_refl _, Nat.le_refl _⟩) (fun s4 H locs hp hw => ?_)
          obtain ⟨f4_0, hT4, hG4⟩ := hp
          have hF4 : fr true [6] [8, 9, 10, 11, 12, 13] σ s4 := fr.t hF3 hG4 (by decide) (by decide) (by decide)
          have lp5 : ∀ (nq : Nat) (sn : Int32) (mny : Nat) (ρ : Sg) (H : Heap) (locs : List Loc) (ls : Array Slot), 7 - mny < nq → (mny ≤ 6) → (mny = 6 → ¬ ρ.1 0 12 = 0) → (TM ρ) → (fr true [6] [8, 9, 10, 11, 12, 13] σ ρ) → St G kc A s.heap shM ad ρ H locs → lv_has ls 3 [(2, .int (nI mny)), (1, .int sn), (0, .ref (ad 0))] → W pr l e { frames := 4, cells := 0, slots := 0, locals := 93 } s m ([.ref (ad 0)] : List Value).toArray below meth c H locs 0 0 (MQ below (va_Qv (fun σ1 => TM σ1 ∧ fr true [6] [8, 9, 10, 11, 12, 13] σ σ1) (PoC G kc shM ad A) A) ([.ref (ad 0)] : List Value).toArray s 0 0 A) (F0 m 44 ls []) := by
            intro nq
            induction nq with
            | zero => intro sn mny ρ H locs ls hmu; exact absurd hmu (Nat.not_lt_zero _)
            | succ nq ih5 =>
              intro sn mny ρ H locs ls hmu hm h6 hT_ρ hF_ρ hw hl
              refine lv_aload_n hx hb (dkP dF_42 DX12_readSum (i := 26) rfl rfl) rfl (lv_at hl 2 rfl) ?_
              refine lv_bipush (v := 43) hx hb (dks dF_16 DX12_readSum (i := 27) rfl rfl rfl) (by decide) ?_
              refine zk_I hw (zr_V (As := [.int 43]) (rest := []) C0 (c_X12_isSign l G kc ad ρ 43 hT_ρ _) cv_X12_isSign lk_X12_218 (zp_V C0 hRo hw 0 rfl rfl rfl) rfl hl.1 rfl ⟨by decide, by decide⟩ (Nat.le_of_ble_eq_true rfl) (dk2 dF_182 DX12_readSum (i := 28) rfl rfl rfl) ⟨Nat.le_refl _, Nat.le_refl _⟩) (fun r6 s6 H locs hp hw => ?_)
              obtain ⟨f6_0, hs6⟩ := hp
              (rw [hs6] at hw)
              rcases f6_0 with ⟨rfl, hc6⟩ | ⟨rfl, hc6⟩
              · skip
                refine lv_if_ne (tgt := 62) hx hb (dkS dF_154 DX12_readSum (i := 29) rfl rfl rfl) (by decide) (fun _ => ?_) (fun h => absurd h (by decide))
                have hm6 : mny ≠ 6 := fun h => h6 h hc6
                refine lv_aload_n hx hb (dkP dF_42 DX12_readSum (i := 34) rfl rfl) rfl (lv_at hl 2 rfl) ?_
                refine z_gi C0 hw 0 11 rfl fl_X12_173 (dk2 dF_180 DX12_readSum (i := 35) rfl rfl rfl) ?_
                obtain ⟨v7, ev7⟩ : ∃ y : Int32, ρ.1 0 11 = y := ⟨_, rfl⟩
                refine z_top (y := v7) ev7 ?_
                refine lv_bipush (v := 43) hx hb (dks dF_16 DX12_readSum (i := 36) rfl rfl rfl) (by decide) ?_
                refine lv_icmp_ne (tgt := 75) hx hb (dkS dF_160 DX12_readSum (i := 37) rfl rfl rfl) (by decide) (fun c8 => ?_) (fun c8 => ?_)
                · (try simp (disch := omega) only [ta_lt, ta_le, ta_eq, tnI, tl32 43 (by decide)] at c8)
                  refine lv_iconst (v := (-1)) hx hb (dkP dF_2 DX12_readSum (i := 40) rfl rfl) (by decide) ?_
                  refine lv_istore_n (lv' := [(1, .int (-1)), (2, .int (nI mny)), (0, .ref (ad 0))]) hx hb (dkP dF_60 DX12_readSum (i := 41) rfl rfl) rfl hl (by decide) rfl (fun ls hl => ?_)
                  refine lv_aload_n hx hb (dkP dF_42 DX12_readSum (i := 42) rfl rfl) rfl (lv_at hl 2 rfl) ?_
                  refine zk_V hw (zr_V (As := []) (rest := []) C0 (c_X12_step l G kc ad ρ hT_ρ _) cv_X12_step lk_X12_208 (zp_V C0 hRo hw 0 rfl rfl rfl) rfl hl.1 rfl ⟨by decide, by decide⟩ (Nat.le_of_ble_eq_true rfl) (dk2 dF_182 DX12_readSum (i := 43) rfl rfl rfl) ⟨Nat.le_refl _, Nat.le_refl _⟩) (fun s9 H locs hp hw => ?_)
                  obtain ⟨hT9, hG9⟩ := hp
                  have hF9 : fr true [6] [8, 9, 10, 11, 12, 13] σ s9 := fr.t hF_ρ hG9 (by decide) (by decide) (by decide)
                  refine lv_iinc (v := nI (mny + 1)) (lv' := [(2, .int (nI (mny + 1))), (1, .int (-1)), (0, .ref (ad 0))]) hx hb (dkI DX12_readSum (i := 44) rfl rfl rfl rfl) hl (k := 1) rfl (nI_1 _) (by decide) rfl (fun ls hl => ?_)
                  refine lv_aload_n hx hb (dkP dF_42 DX12_readSum (i := 45) rfl rfl) rfl (lv_at hl 2 rfl) ?_
                  refine lv_iload_n hx hb (dkP dF_27 DX12_readSum (i := 46) rfl rfl) rfl (lv_at hl 1 rfl) ?_
                  refine lv_iload_n hx hb (dkP dF_28 DX12_readSum (i := 47) rfl rfl) rfl (lv_at hl 0 rfl) ?_
                  refine zk_V hw (zr_V (As := [.int (-1), .int (nI (mny + 1))]) (rest := []) C0 (c_X12_term l G kc ad s9 (-1) (mny + 1) (by omega) hT9 _) cv_X12_term lk_X12_238 (zp_V C0 hRo hw 0 rfl rfl rfl) rfl hl.1 rfl ⟨by decide, by decide⟩ (Nat.le_of_ble_eq_true rfl) (dk2 dF_182 DX12_readSum (i := 48) rfl rfl rfl) ⟨Nat.le_refl _, Nat.le_refl _⟩) (fun s10 H locs hp hw => ?_)
                  obtain ⟨f10_0, hT10, hG10⟩ := hp
                  have hF10 : fr true [6] [8, 9, 10, 11, 12, 13] σ s10 := fr.t hF9 hG10 (by decide) (by decide) (by decide)
                  refine lv_goto (tgt := 44) hx hb (dkS dF_167 DX12_readSum (i := 49) rfl rfl rfl) (by decide) ?_
                  exact ih5 (-1) (mny + 1) s10 _ _ _ (by omega) (by omega) f10_0 hT10 hF10 hw (lv_sub hl [0, 1, 2] rfl)
                · (try simp (disch := omega) only [ta_lt, ta_le, ta_eq, tnI, tl32 43 (by decide)] at c8)
                  refine lv_iconst (v := 1) hx hb (dkP dF_4 DX12_readSum (i := 38) rfl rfl) (by decide) ?_
                  refine lv_goto (tgt := 76) hx hb (dkS dF_167 DX12_readSum (i := 39) rfl rfl rfl) (by decide) ?_
                  refine lv_istore_n (lv' := [(1, .int 1), (2, .int (nI mny)), (0, .ref (ad 0))]) hx hb (dkP dF_60 DX12_readSum (i := 41) rfl rfl) rfl hl (by decide) rfl (fun ls hl => ?_)
                  refine lv_aload_n hx hb (dkP dF_42 DX12_readSum (i := 42) rfl rfl) rfl (lv_at hl 2 rfl) ?_
                  refine zk_V hw (zr_V (As := []) (rest := []) C0 (c_X12_step l G kc ad ρ hT_ρ _) cv_X12_step lk_X12_208 (zp_V C0 hRo hw 0 rfl rfl rfl) rfl hl.1 rfl ⟨by decide, by decide⟩ (Nat.le_of_ble_eq_true rfl) (dk2 dF_182 DX12_readSum (i := 43) rfl rfl rfl) ⟨Nat.le_refl _, Nat.le_refl _⟩) (fun s11 H locs hp hw => ?_)
                  obtain ⟨hT11, hG11⟩ := hp
                  have hF11 : fr true [6] [8, 9, 10, 11, 12, 13] σ s11 := fr.t hF_ρ hG11 (by decide) (by decide) (by decide)
                  refine lv_iinc (v := nI (mny + 1)) (lv' := [(2, .int (nI (mny + 1))), (1, .int 1), (0, .ref (ad 0))]) hx hb (dkI DX12_readSum (i := 44) rfl rfl rfl rfl) hl (k := 1) rfl (nI_1 _) (by decide) rfl (fun ls hl => ?_)
                  refine lv_aload_n hx hb (dkP dF_42 DX12_readSum (i := 45) rfl rfl) rfl (lv_at hl 2 rfl) ?_
                  refine lv_iload_n hx hb (dkP dF_27 DX12_readSum (i := 46) rfl rfl) rfl (lv_at hl 1 rfl) ?_
                  refine lv_iload_n hx hb (dkP dF_28 DX12_readSum (i := 47) rfl rfl) rfl (lv_at hl 0 rfl) ?_
                  refine zk_V hw (zr_V (As := [.int 1, .int (nI (mny + 1))]) (rest := []) C0 (c_X12_term l G kc ad s11 1 (mny + 1) (by omega) hT11 _) cv_X12_term lk_X12_238 (zp_V C0 hRo hw 0 rfl rfl rfl) rfl hl.1 rfl ⟨by decide, by decide⟩ (Nat.le_of_ble_eq_true rfl) (dk2 dF_182 DX12_readSum (i := 48) rfl rfl rfl) ⟨Nat.le_refl _, Nat.le_refl _⟩) (fun s12 H locs hp hw => ?_)
                  obtain ⟨f12_0, hT12, hG12⟩ := hp
                  have hF12 : fr true [6] [8, 9, 10, 11, 12, 13] σ s12 := fr.t hF11 hG12 (by decide) (by decide) (by decide)
                  refine lv_goto (tgt := 44) hx hb (dkS dF_167 DX12_readSum (i := 49) rfl rfl rfl) (by decide) ?_
                  exact ih5 1 (mny + 1) s12 _ _ _ (by omega) (by omega) f12_0 hT12 hF12 hw (lv_sub hl [0, 1, 2] rfl)
              · skip
                refine lv_if_ne (tgt := 62) hx hb (dkS dF_154 DX12_readSum (i := 29) rfl rfl rfl) (by decide) (fun h => absurd h (by decide)) (fun _ => ?_)
                refine lv_aload_n hx hb (dkP dF_42 DX12_readSum (i := 30) rfl rfl) rfl (lv_at hl 2 rfl) ?_
                refine lv_bipush (v := 45) hx hb (dks dF_16 DX12_readSum (i := 31) rfl rfl rfl) (by decide) ?_
                refine zk_I hw (zr_V (As := [.int 45]) (rest := []) C0 (c_X12_isSign l G kc ad ρ 45 hT_ρ _) cv_X12_isSign lk_X12_218 (zp_V C0 hRo hw 0 rfl rfl rfl) rfl hl.1 rfl ⟨by decide, by decide⟩ (Nat.le_of_ble_eq_true rfl) (dk2 dF_182 DX12_readSum (i := 32) rfl rfl rfl) ⟨Nat.le_refl _, Nat.le_refl _⟩) (fun r13 s13 H locs hp hw => ?_)
                obtain ⟨f13_0, hs13⟩ := hp
                (rw [hs13] at hw)
                rcases f13_0 with ⟨rfl, hc13⟩ | ⟨rfl, hc13⟩
                · skip
                  refine lv_if_eq (tgt := 93) hx hb (dkS dF_153 DX12_readSum (i := 33) rfl rfl rfl) (by decide) (fun h => absurd h (by decide)) (fun _ => ?_)
                  have hm6 : mny ≠ 6 := fun h => h6 h hc13
                  refine lv_aload_n hx hb (dkP dF_42 DX12_readSum (i := 34) rfl rfl) rfl (lv_at hl 2 rfl) ?_
                  refine z_gi C0 hw 0 11 rfl fl_X12_173 (dk2 dF_180 DX12_readSum (i := 35) rfl rfl rfl) ?_
                  obtain ⟨v14, ev14⟩ : ∃ y : Int32, ρ.1 0 11 = y := ⟨_, rfl⟩
                  refine z_top (y := v14) ev14 ?_
                  refine lv_bipush (v := 43) hx hb (dks dF_16 DX12_readSum (i := 36) rfl rfl rfl) (by decide) ?_
                  refine lv_icmp_ne (tgt := 75) hx hb (dkS dF_160 DX12_readSum (i := 37) rfl rfl rfl) (by decide) (fun c15 => ?_) (fun c15 => ?_)
                  · (try simp (disch := omega) only [ta_lt, ta_le, ta_eq, tnI, tl32 43 (by decide)] at c15)
                    refine lv_iconst (v := (-1)) hx hb (dkP dF_2 DX12_readSum (i := 40) rfl rfl) (by decide) ?_
                    refine lv_istore_n (lv' := [(1, .int (-1)), (2, .int (nI mny)), (0, .ref (ad 0))]) hx hb (dkP dF_60 DX12_readSum (i := 41) rfl rfl) rfl hl (by decide) rfl (fun ls hl => ?_)
                    refine lv_aload_n hx hb (dkP dF_42 DX12_readSum (i := 42) rfl rfl) rfl (lv_at hl 2 rfl) ?_
                    refine zk_V hw (zr_V (As := []) (rest := []) C0 (c_X12_step l G kc ad ρ hT_ρ _) cv_X12_step lk_X12_208 (zp_V C0 hRo hw 0 rfl rfl rfl) rfl hl.1 rfl ⟨by decide, by decide⟩ (Nat.le_of_ble_eq_true rfl) (dk2 dF_182 DX12_readSum (i := 43) rfl rfl rfl) ⟨Nat.le_refl _, Nat.le_refl _⟩) (fun s16 H locs hp hw => ?_)
                    obtain ⟨hT16, hG16⟩ := hp
                    have hF16 : fr true [6] [8, 9, 10, 11, 12, 13] σ s16 := fr.t hF_ρ hG16 (by decide) (by decide) (by decide)
                    refine lv_iinc (v := nI (mny + 1)) (lv' := [(2, .int (nI (mny + 1))), (1, .int (-1)), (0, .ref (ad 0))]) hx hb (dkI DX12_readSum (i := 44) rfl rfl rfl rfl) hl (k := 1) rfl (nI_1 _) (by decide) rfl (fun ls hl => ?_)
                    refine lv_aload_n hx hb (dkP dF_42 DX12_readSum (i := 45) rfl rfl) rfl (lv_at hl 2 rfl) ?_
                    refine lv_iload_n hx hb (dkP dF_27 DX12_readSum (i := 46) rfl rfl) rfl (lv_at hl 1 rfl) ?_
                    refine lv_iload_n hx hb (dkP dF_28 DX12_readSum (i := 47) rfl rfl) rfl (lv_at hl 0 rfl) ?_
                    refine zk_V hw (zr_V (As := [.int (-1), .int (nI (mny + 1))]) (rest := []) C0 (c_X12_term l G kc ad s16 (-1) (mny + 1) (by omega) hT16 _) cv_X12_term lk_X12_238 (zp_V C0 hRo hw 0 rfl rfl rfl) rfl hl.1 rfl ⟨by decide, by decide⟩ (Nat.le_of_ble_eq_true rfl) (dk2 dF_182 DX12_readSum (i := 48) rfl rfl rfl) ⟨Nat.le_refl _, Nat.le_refl _⟩) (fun s17 H locs hp hw => ?_)
                    obtain ⟨f17_0, hT17, hG17⟩ := hp
                    have hF17 : fr true [6] [8, 9, 10, 11, 12, 13] σ s17 := fr.t hF16 hG17 (by decide) (by decide) (by decide)
                    refine lv_goto (tgt := 44) hx hb (dkS dF_167 DX12_readSum (i := 49) rfl rfl rfl) (by decide) ?_
                    exact ih5 (-1) (mny + 1) s17 _ _ _ (by omega) (by omega) f17_0 hT17 hF17 hw (lv_sub hl [0, 1, 2] rfl)
                  · (try simp (disch := omega) only [ta_lt, ta_le, ta_eq, tnI, tl32 43 (by decide)] at c15)
                    refine lv_iconst (v := 1) hx hb (dkP dF_4 DX12_readSum (i := 38) rfl rfl) (by decide) ?_
                    refine lv_goto (tgt := 76) hx hb (dkS dF_167 DX12_readSum (i := 39) rfl rfl rfl) (by decide) ?_
                    refine lv_istore_n (lv' := [(1, .int 1), (2, .int (nI mny)), (0, .ref (ad 0))]) hx hb (dkP dF_60 DX12_readSum (i := 41) rfl rfl) rfl hl (by decide) rfl (fun ls hl => ?_)
                    refine lv_aload_n hx hb (dkP dF_42 DX12_readSum (i := 42) rfl rfl) rfl (lv_at hl 2 rfl) ?_
                    refine zk_V hw (zr_V (As := []) (rest := []) C0 (c_X12_step l G kc ad ρ hT_ρ _) cv_X12_step lk_X12_208 (zp_V C0 hRo hw 0 rfl rfl rfl) rfl hl.1 rfl ⟨by decide, by decide⟩ (Nat.le_of_ble_eq_true rfl) (dk2 dF_182 DX12_readSum (i := 43) rfl rfl rfl) ⟨Nat.le_refl _, Nat.le_refl _⟩) (fun s18 H locs hp hw => ?_)
                    obtain ⟨hT18, hG18⟩ := hp
                    have hF18 : fr true [6] [8, 9, 10, 11, 12, 13] σ s18 := fr.t hF_ρ hG18 (by decide) (by decide) (by decide)
                    refine lv_iinc (v := nI (mny + 1)) (lv' := [(2, .int (nI (mny + 1))), (1, .int 1), (0, .ref (ad 0))]) hx hb (dkI DX12_readSum (i := 44) rfl rfl rfl rfl) hl (k := 1) rfl (nI_1 _) (by decide) rfl (fun ls hl => ?_)
                    refine lv_aload_n hx hb (dkP dF_42 DX12_readSum (i := 45) rfl rfl) rfl (lv_at hl 2 rfl) ?_
                    refine lv_iload_n hx hb (dkP dF_27 DX12_readSum (i := 46) rfl rfl) rfl (lv_at hl 1 rfl) ?_
                    refine lv_iload_n hx hb (dkP dF_28 DX12_readSum (i := 47) rfl rfl) rfl (lv_at hl 0 rfl) ?_
                    refine zk_V hw (zr_V (As := [.int 1, .int (nI (mny + 1))]) (rest := []) C0 (c_X12_term l G kc ad s18 1 (mny + 1) (by omega) hT18 _) cv_X12_term lk_X12_238 (zp_V C0 hRo hw 0 rfl rfl rfl) rfl hl.1 rfl ⟨by decide, by decide⟩ (Nat.le_of_ble_eq_true rfl) (dk2 dF_182 DX12_readSum (i := 48) rfl rfl rfl) ⟨Nat.le_refl _, Nat.le_refl _⟩) (fun s19 H locs hp hw => ?_)
                    obtain ⟨f19_0, hT19, hG19⟩ := hp
                    have hF19 : fr true [6] [8, 9, 10, 11, 12, 13] σ s19 := fr.t hF18 hG19 (by decide) (by decide) (by decide)
                    refine lv_goto (tgt := 44) hx hb (dkS dF_167 DX12_readSum (i := 49) rfl rfl rfl) (by decide) ?_
                    exact ih5 1 (mny + 1) s19 _ _ _ (by omega) (by omega) f19_0 hT19 hF19 hw (lv_sub hl [0, 1, 2] rfl)
                · skip
                  refine lv_if_eq (tgt := 93) hx hb (dkS dF_153 DX12_readSum (i := 33) rfl rfl rfl) (by decide) (fun _ => ?_) (fun h => absurd h (by decide))
                  exact z_vret C0 hr hlk hw (⟨hT_ρ, hF_ρ⟩) (dkP dF_177 DX12_readSum (i := 50) rfl rfl)
          exact lp5 _ (-1) 0 s4 _ _ _ (Nat.lt_succ_self _) (by omega) (fun h => absurd h (by omega)) hT4 hF4 hw (lv_sub hl [0, 1, 2] rfl)
        · skip
          refine lv_if_eq (tgt := 34) hx hb (dkS dF_153 DX12_readSum (i := 15) rfl rfl rfl) (by decide) (fun _ => ?_) (fun h => absurd h (by decide))
          refine lv_iconst (v := 1) hx hb (dkP dF_4 DX12_readSum (i := 18) rfl rfl) (by decide) ?_
          refine lv_istore_n (lv' := [(1, .int 1), (0, .ref (ad 0))]) hx hb (dkP dF_60 DX12_readSum (i := 19) rfl rfl) rfl hl (by decide) rfl (fun ls hl => ?_)
          refine lv_iconst (v := 0) hx hb (dkP dF_3 DX12_readSum (i := 20) rfl rfl) (by decide) ?_
          refine lv_istore_n (lv' := [(2, .int 0), (1, .int 1), (0, .ref (ad 0))]) hx hb (dkP dF_61 DX12_readSum (i := 21) rfl rfl) rfl hl (by decide) rfl (fun ls hl => ?_)
          refine lv_aload_n hx hb (dkP dF_42 DX12_readSum (i := 22) rfl rfl) rfl (lv_at hl 2 rfl) ?_
          refine lv_iload_n hx hb (dkP dF_27 DX12_readSum (i := 23) rfl rfl) rfl (lv_at hl 1 rfl) ?_
          refine lv_iload_n hx hb (dkP dF_28 DX12_readSum (i := 24) rfl rfl) rfl (lv_at hl 0 rfl) ?_
          refine zk_V hw (zr_V (As := [.int 1, .int 0]) (rest := []) C0 (c_X12_term l G kc ad s3 1 0 (by omega) hT3 _) cv_X12_term lk_X12_238 (zp_V C0 hRo hw 0 rfl rfl rfl) rfl hl.1 rfl ⟨by decide, by decide⟩ (Nat.le_of_ble_eq_true rfl) (dk2 dF_182 DX12_readSum (i := 25) rfl rfl rfl) ⟨Nat.le_refl _, Nat.le_refl _⟩) (fun s20 H locs hp hw => ?_)
          obtain ⟨f20_0, hT20, hG20⟩ := hp
          have hF20 : fr true [6] [8, 9, 10, 11, 12, 13] σ s20 := fr.t hF3 hG20 (by decide) (by decide) (by decide)
          have lp21 : ∀ (nq : Nat) (sn : Int32) (mny : Nat) (ρ : Sg) (H : Heap) (locs : List Loc) (ls : Array Slot), 7 - mny < nq → (mny ≤ 6) → (mny = 6 → ¬ ρ.1 0 12 = 0) → (TM ρ) → (fr true [6] [8, 9, 10, 11, 12, 13] σ ρ) → St G kc A s.heap shM ad ρ H locs → lv_has ls 3 [(2, .int (nI mny)), (1, .int sn), (0, .ref (ad 0))] → W pr l e { frames := 4, cells := 0, slots := 0, locals := 93 } s m ([.ref (ad 0)] : List Value).toArray below meth c H locs 0 0 (MQ below (va_Qv (fun σ1 => TM σ1 ∧ fr true [6] [8, 9, 10, 11, 12, 13] σ σ1) (PoC G kc shM ad A) A) ([.ref (ad 0)] : List Value).toArray s 0 0 A) (F0 m 44 ls []) := by
            intro nq
            induction nq with
            | zero => intro sn mny ρ H locs ls hmu; exact absurd hmu (Nat.not_lt_zero _)
            | succ nq ih21 =>
              intro sn mny ρ H locs ls hmu hm h6 hT_ρ hF_ρ hw hl
              refine lv_aload_n hx hb (dkP dF_42 DX12_readSum (i := 26) rfl rfl) rfl (lv_at hl 2 rfl) ?_
              refine lv_bipush (v := 43) hx hb (dks dF_16 DX12_readSum (i := 27) rfl rfl rfl) (by decide) ?_
              refine zk_I hw (zr_V (As := [.int 43]) (rest := []) C0 (c_X12_isSign l G kc ad ρ 43 hT_ρ _) cv_X12_isSign lk_X12_218 (zp_V C0 hRo hw 0 rfl rfl rfl) rfl hl.1 rfl ⟨by decide, by decide⟩ (Nat.le_of_ble_eq_true rfl) (dk2 dF_182 DX12_readSum (i := 28) rfl rfl rfl) ⟨Nat.le_refl _, Nat.le_refl _⟩) (fun r22 s22 H locs hp hw => ?_)
              obtain ⟨f22_0, hs22⟩ := hp
              (rw [hs22] at hw)
              rcases f22_0 with ⟨rfl, hc22⟩ | ⟨rfl, hc22⟩
              · skip
                refine lv_if_ne (tgt := 62) hx hb (dkS dF_154 DX12_readSum (i := 29) rfl rfl rfl) (by decide) (fun _ => ?_) (fun h => absurd h (by decide))
                have hm6 : mny ≠ 6 := fun h => h6 h hc22
                refine lv_aload_n hx hb (dkP dF_42 DX12_readSum (i := 34) rfl rfl) rfl (lv_at hl 2 rfl) ?_
                refine z_gi C0 hw 0 11 rfl fl_X12_173 (dk2 dF_180 DX12_readSum (i := 35) rfl rfl rfl) ?_
                obtain ⟨v23, ev23⟩ : ∃ y : Int32, ρ.1 0 11 = y := ⟨_, rfl⟩
                refine z_top (y := v23) ev23 ?_
                refine lv_bipush (v := 43) hx hb (dks dF_16 DX12_readSum (i := 36) rfl rfl rfl) (by decide) ?_
                refine lv_icmp_ne (tgt := 75) hx hb (dkS dF_160 DX12_readSum (i := 37) rfl rfl rfl) (by decide) (fun c24 => ?_) (fun c24 => ?_)
                · (try simp (disch := omega) only [ta_lt, ta_le, ta_eq, tnI, tl32 43 (by decide)] at c24)
                  refine lv_iconst (v := (-1)) hx hb (dkP dF_2 DX12_readSum (i := 40) rfl rfl) (by decide) ?_
                  refine lv_istore_n (lv' := [(1, .int (-1)), (2, .int (nI mny)), (0, .ref (ad 0))]) hx hb (dkP dF_60 DX12_readSum (i := 41) rfl rfl) rfl hl (by decide) rfl (fun ls hl => ?_)
                  refine lv_aload_n hx hb (dkP dF_42 DX12_readSum (i := 42) rfl rfl) rfl (lv_at hl 2 rfl) ?_
                  refine zk_V hw (zr_V (As := []) (rest := []) C0 (c_X12_step l G kc ad ρ hT_ρ _) cv_X12_step lk_X12_208 (zp_V C0 hRo hw 0 rfl rfl rfl) rfl hl.1 rfl ⟨by decide, by decide⟩ (Nat.le_of_ble_eq_true rfl) (dk2 dF_182 DX12_readSum (i := 43) rfl rfl rfl) ⟨Nat.le_refl _, Nat.le_refl _⟩) (fun s25 H locs hp hw => ?_)
                  obtain ⟨hT25, hG25⟩ := hp
                  have hF25 : fr true [6] [8, 9, 10, 11, 12, 13] σ s25 := fr.t hF_ρ hG25 (by decide) (by decide) (by decide)
                  refine lv_iinc (v := nI (mny + 1)) (lv' := [(2, .int (nI (mny + 1))), (1, .int (-1)), (0, .ref (ad 0))]) hx hb (dkI DX12_readSum (i := 44) rfl rfl rfl rfl) hl (k := 1) rfl (nI_1 _) (by decide) rfl (fun ls hl => ?_)
                  refine lv_aload_n hx hb (dkP dF_42 DX12_readSum (i := 45) rfl rfl) rfl (lv_at hl 2 rfl) ?_
                  refine lv_iload_n hx hb (dkP dF_27 DX12_readSum (i := 46) rfl rfl) rfl (lv_at hl 1 rfl) ?_
                  refine lv_iload_n hx hb (dkP dF_28 DX12_readSum (i := 47) rfl rfl) rfl (lv_at hl 0 rfl) ?_
                  refine zk_V hw (zr_V (As := [.int (-1), .int (nI (mny + 1))]) (rest := []) C0 (c_X12_term l G kc ad s25 (-1) (mny + 1) (by omega) hT25 _) cv_X12_term lk_X12_238 (zp_V C0 hRo hw 0 rfl rfl rfl) rfl hl.1 rfl ⟨by decide, by decide⟩ (Nat.le_of_ble_eq_true rfl) (dk2 dF_182 DX12_readSum (i := 48) rfl rfl rfl) ⟨Nat.le_refl _, Nat.le_refl _⟩) (fun s26 H locs hp hw => ?_)
                  obtain ⟨f26_0, hT26, hG26⟩ := hp
                  have hF26 : fr true [6] [8, 9, 10, 11, 12, 13] σ s26 := fr.t hF25 hG26 (by decide) (by decide) (by decide)
                  refine lv_goto (tgt := 44) hx hb (dkS dF_167 DX12_readSum (i := 49) rfl rfl rfl) (by decide) ?_
                  exact ih21 (-1) (mny + 1) s26 _ _ _ (by omega) (by omega) f26_0 hT26 hF26 hw (lv_sub hl [0, 1, 2] rfl)
                · (try simp (disch := omega) only [ta_lt, ta_le, ta_eq, tnI, tl32 43 (by decide)] at c24)
                  refine lv_iconst (v := 1) hx hb (dkP dF_4 DX12_readSum (i := 38) rfl rfl) (by decide) ?_
                  refine lv_goto (tgt := 76) hx hb (dkS dF_167 DX12_readSum (i := 39) rfl rfl rfl) (by decide) ?_
                  refine lv_istore_n (lv' := [(1, .int 1), (2, .int (nI mny)), (0, .ref (ad 0))]) hx hb (dkP dF_60 DX12_readSum (i := 41) rfl rfl) rfl hl (by decide) rfl (fun ls hl => ?_)
                  refine lv_aload_n hx hb (dkP dF_42 DX12_readSum (i := 42) rfl rfl) rfl (lv_at hl 2 rfl) ?_
                  refine zk_V hw (zr_V (As := []) (rest := []) C0 (c_X12_step l G kc ad ρ hT_ρ _) cv_X12_step lk_X12_208 (zp_V C0 hRo hw 0 rfl rfl rfl) rfl hl.1 rfl ⟨by decide, by decide⟩ (Nat.le_of_ble_eq_true rfl) (dk2 dF_182 DX12_readSum (i := 43) rfl rfl rfl) ⟨Nat.le_refl _, Nat.le_refl _⟩) (fun s27 H locs hp hw => ?_)
                  obtain ⟨hT27, hG27⟩ := hp
                  have hF27 : fr true [6] [8, 9, 10, 11, 12, 13] σ s27 := fr.t hF_ρ hG27 (by decide) (by decide) (by decide)
                  refine lv_iinc (v := nI (mny + 1)) (lv' := [(2, .int (nI (mny + 1))), (1, .int 1), (0, .ref (ad 0))]) hx hb (dkI DX12_readSum (i := 44) rfl rfl rfl rfl) hl (k := 1) rfl (nI_1 _) (by decide) rfl (fun ls hl => ?_)
                  refine lv_aload_n hx hb (dkP dF_42 DX12_readSum (i := 45) rfl rfl) rfl (lv_at hl 2 rfl) ?_
                  refine lv_iload_n hx hb (dkP dF_27 DX12_readSum (i := 46) rfl rfl) rfl (lv_at hl 1 rfl) ?_
                  refine lv_iload_n hx hb (dkP dF_28 DX12_readSum (i := 47) rfl rfl) rfl (lv_at hl 0 rfl) ?_
                  refine zk_V hw (zr_V (As := [.int 1, .int (nI (mny + 1))]) (rest := []) C0 (c_X12_term l G kc ad s27 1 (mny + 1) (by omega) hT27 _) cv_X12_term lk_X12_238 (zp_V C0 hRo hw 0 rfl rfl rfl) rfl hl.1 rfl ⟨by decide, by decide⟩ (Nat.le_of_ble_eq_true rfl) (dk2 dF_182 DX12_readSum (i := 48) rfl rfl rfl) ⟨Nat.le_refl _, Nat.le_refl _⟩) (fun s28 H locs hp hw => ?_)
                  obtain ⟨f28_0, hT28, hG28⟩ := hp
                  have hF28 : fr true [6] [8, 9, 10, 11, 12, 13] σ s28 := fr.t hF27 hG28 (by decide) (by decide) (by decide)
                  refine lv_goto (tgt := 44) hx hb (dkS dF_167 DX12_readSum (i := 49) rfl rfl rfl) (by decide) ?_
                  exact ih21 1 (mny + 1) s28 _ _ _ (by omega) (by omega) f28_0 hT28 hF28 hw (lv_sub hl [0, 1, 2] rfl)
              · skip
                refine lv_if_ne (tgt := 62) hx hb (dkS dF_154 DX12_readSum (i := 29) rfl rfl rfl) (by decide) (fun h => absurd h (by decide)) (fun _ => ?_)
                refine lv_aload_n hx hb (dkP dF_42 DX12_readSum (i := 30) rfl rfl) rfl (lv_at hl 2 rfl) ?_
                refine lv_bipush (v := 45) hx hb (dks dF_16 DX12_readSum (i := 31) rfl rfl rfl) (by decide) ?_
                refine zk_I hw (zr_V (As := [.int 45]) (rest := []) C0 (c_X12_isSign l G kc ad ρ 45 hT_ρ _) cv_X12_isSign lk_X12_218 (zp_V C0 hRo hw 0 rfl rfl rfl) rfl hl.1 rfl ⟨by decide, by decide⟩ (Nat.le_of_ble_eq_true rfl) (dk2 dF_182 DX12_readSum (i := 32) rfl rfl rfl) ⟨Nat.le_refl _, Nat.le_refl _⟩) (fun r29 s29 H locs hp hw => ?_)
                obtain ⟨f29_0, hs29⟩ := hp
                (rw [hs29] at hw)
                rcases f29_0 with ⟨rfl, hc29⟩ | ⟨rfl, hc29⟩
                · skip
                  refine lv_if_eq (tgt := 93) hx hb (dkS dF_153 DX12_readSum (i := 33) rfl rfl rfl) (by decide) (fun h => absurd h (by decide)) (fun _ => ?_)
                  have hm6 : mny ≠ 6 := fun h => h6 h hc29
                  refine lv_aload_n hx hb (dkP dF_42 DX12_readSum (i := 34) rfl rfl) rfl (lv_at hl 2 rfl) ?_
                  refine z_gi C0 hw 0 11 rfl fl_X12_173 (dk2 dF_180 DX12_readSum (i := 35) rfl rfl rfl) ?_
                  obtain ⟨v30, ev30⟩ : ∃ y : Int32, ρ.1 0 11 = y := ⟨_, rfl⟩
                  refine z_top (y := v30) ev30 ?_
                  refine lv_bipush (v := 43) hx hb (dks dF_16 DX12_readSum (i := 36) rfl rfl rfl) (by decide) ?_
                  refine lv_icmp_ne (tgt := 75) hx hb (dkS dF_160 DX12_readSum (i := 37) rfl rfl rfl) (by decide) (fun c31 => ?_) (fun c31 => ?_)
                  · (try simp (disch := omega) only [ta_lt, ta_le, ta_eq, tnI, tl32 43 (by decide)] at c31)
                    refine lv_iconst (v := (-1)) hx hb (dkP dF_2 DX12_readSum (i := 40) rfl rfl) (by decide) ?_
                    refine lv_istore_n (lv' := [(1, .int (-1)), (2, .int (nI mny)), (0, .ref (ad 0))]) hx hb (dkP dF_60 DX12_readSum (i := 41) rfl rfl) rfl hl (by decide) rfl (fun ls hl => ?_)
                    refine lv_aload_n hx hb (dkP dF_42 DX12_readSum (i := 42) rfl rfl) rfl (lv_at hl 2 rfl) ?_
                    refine zk_V hw (zr_V (As := []) (rest := []) C0 (c_X12_step l G kc ad ρ hT_ρ _) cv_X12_step lk_X12_208 (zp_V C0 hRo hw 0 rfl rfl rfl) rfl hl.1 rfl ⟨by decide, by decide⟩ (Nat.le_of_ble_eq_true rfl) (dk2 dF_182 DX12_readSum (i := 43) rfl rfl rfl) ⟨Nat.le_refl _, Nat.le_refl _⟩) (fun s32 H locs hp hw => ?_)
                    obtain ⟨hT32, hG32⟩ := hp
                    have hF32 : fr true [6] [8, 9, 10, 11, 12, 13] σ s32 := fr.t hF_ρ hG32 (by decide) (by decide) (by decide)
                    refine lv_iinc (v := nI (mny + 1)) (lv' := [(2, .int (nI (mny + 1))), (1, .int (-1)), (0, .ref (ad 0))]) hx hb (dkI DX12_readSum (i := 44) rfl rfl rfl rfl) hl (k := 1) rfl (nI_1 _) (by decide) rfl (fun ls hl => ?_)
                    refine lv_aload_n hx hb (dkP dF_42 DX12_readSum (i := 45) rfl rfl) rfl (lv_at hl 2 rfl) ?_
                    refine lv_iload_n hx hb (dkP dF_27 DX12_readSum (i := 46) rfl rfl) rfl (lv_at hl 1 rfl) ?_
                    refine lv_iload_n hx hb (dkP dF_28 DX12_readSum (i := 47) rfl rfl) rfl (lv_at hl 0 rfl) ?_
                    refine zk_V hw (zr_V (As := [.int (-1), .int (nI (mny + 1))]) (rest := []) C0 (c_X12_term l G kc ad s32 (-1) (mny + 1) (by omega) hT32 _) cv_X12_term lk_X12_238 (zp_V C0 hRo hw 0 rfl rfl rfl) rfl hl.1 rfl ⟨by decide, by decide⟩ (Nat.le_of_ble_eq_true rfl) (dk2 dF_182 DX12_readSum (i := 48) rfl rfl rfl) ⟨Nat.le_refl _, Nat.le_refl _⟩) (fun s33 H locs hp hw => ?_)
                    obtain ⟨f33_0, hT33, hG33⟩ := hp
                    have hF33 : fr true [6] [8, 9, 10, 11, 12, 13] σ s33 := fr.t hF32 hG33 (by decide) (by decide) (by decide)
                    refine lv_goto (tgt := 44) hx hb (dkS dF_167 DX12_readSum (i := 49) rfl rfl rfl) (by decide) ?_
                    exact ih21 (-1) (mny + 1) s33 _ _ _ (by omega) (by omega) f33_0 hT33 hF33 hw (lv_sub hl [0, 1, 2] rfl)
                  · (try simp (disch := omega) only [ta_lt, ta_le, ta_eq, tnI, tl32 43 (by decide)] at c31)
                    refine lv_iconst (v := 1) hx hb (dkP dF_4 DX12_readSum (i := 38) rfl rfl) (by decide) ?_
                    refine lv_goto (tgt := 76) hx hb (dkS dF_167 DX12_readSum (i := 39) rfl rfl rfl) (by decide) ?_
                    refine lv_istore_n (lv' := [(1, .int 1), (2, .int (nI mny)), (0, .ref (ad 0))]) hx hb (dkP dF_60 DX12_readSum (i := 41) rfl rfl) rfl hl (by decide) rfl (fun ls hl => ?_)
                    refine lv_aload_n hx hb (dkP dF_42 DX12_readSum (i := 42) rfl rfl) rfl (lv_at hl 2 rfl) ?_
                    refine zk_V hw (zr_V (As := []) (rest := []) C0 (c_X12_step l G kc ad ρ hT_ρ _) cv_X12_step lk_X12_208 (zp_V C0 hRo hw 0 rfl rfl rfl) rfl hl.1 rfl ⟨by decide, by decide⟩ (Nat.le_of_ble_eq_true rfl) (dk2 dF_182 DX12_readSum (i := 43) rfl rfl rfl) ⟨Nat.le_refl _, Nat.le_refl _⟩) (fun s34 H locs hp hw => ?_)
                    obtain ⟨hT34, hG34⟩ := hp
                    have hF34 : fr true [6] [8, 9, 10, 11, 12, 13] σ s34 := fr.t hF_ρ hG34 (by decide) (by decide) (by decide)
                    refine lv_iinc (v := nI (mny + 1)) (lv' := [(2, .int (nI (mny + 1))), (1, .int 1), (0, .ref (ad 0))]) hx hb (dkI DX12_readSum (i := 44) rfl rfl rfl rfl) hl (k := 1) rfl (nI_1 _) (by decide) rfl (fun ls hl => ?_)
                    refine lv_aload_n hx hb (dkP dF_42 DX12_readSum (i := 45) rfl rfl) rfl (lv_at hl 2 rfl) ?_
                    refine lv_iload_n hx hb (dkP dF_27 DX12_readSum (i := 46) rfl rfl) rfl (lv_at hl 1 rfl) ?_
                    refine lv_iload_n hx hb (dkP dF_28 DX12_readSum (i := 47) rfl rfl) rfl (lv_at hl 0 rfl) ?_
                    refine zk_V hw (zr_V (As := [.int 1, .int (nI (mny + 1))]) (rest := []) C0 (c_X12_term l G kc ad s34 1 (mny + 1) (by omega) hT34 _) cv_X12_term lk_X12_238 (zp_V C0 hRo hw 0 rfl rfl rfl) rfl hl.1 rfl ⟨by decide, by decide⟩ (Nat.le_of_ble_eq_true rfl) (dk2 dF_182 DX12_readSum (i := 48) rfl rfl rfl) ⟨Nat.le_refl _, Nat.le_refl _⟩) (fun s35 H locs hp hw => ?_)
                    obtain ⟨f35_0, hT35, hG35⟩ := hp
                    have hF35 : fr true [6] [8, 9, 10, 11, 12, 13] σ s35 := fr.t hF34 hG35 (by decide) (by decide) (by decide)
                    refine lv_goto (tgt := 44) hx hb (dkS dF_167 DX12_readSum (i := 49) rfl rfl rfl) (by decide) ?_
                    exact ih21 1 (mny + 1) s35 _ _ _ (by omega) (by omega) f35_0 hT35 hF35 hw (lv_sub hl [0, 1, 2] rfl)
                · skip
                  refine lv_if_eq (tgt := 93) hx hb (dkS dF_153 DX12_readSum (i := 33) rfl rfl rfl) (by decide) (fun _ => ?_) (fun h => absurd h (by decide))
                  exact z_vret C0 hr hlk hw (⟨hT_ρ, hF_ρ⟩) (dkP dF_177 DX12_readSum (i := 50) rfl rfl)
          exact lp21 _ 1 0 s20 _ _ _ (Nat.lt_succ_self _) (by omega) (fun h => absurd h (by omega)) hT20 hF20 hw (lv_sub hl [0, 1, 2] rfl)
      · simp (disch := omega) only [ta_lt, ta_le, ta_eq, tnI, tl32 9 (by decide)] at c2
        refine lv_aload_n hx hb (dkP dF_42 DX12_readSum (i := 5) rfl rfl) rfl (lv_at hl 1 rfl) ?_
        refine z_gr C0 hw 0 14 6 rfl fl_X12_42 (dk2 dF_180 DX12_readSum (i := 6) rfl rfl rfl) ?_
        refine lv_iload_n hx hb (dkP dF_27 DX12_readSum (i := 7) rfl rfl) rfl (lv_at hl 0 rfl) ?_
        refine lv_iconst (v := 0) hx hb (dkP dF_3 DX12_readSum (i := 8) rfl rfl) (by decide) ?_
        refine z_iastN (n := 9) C0 hw 6 i rfl (by omega) (by decide) (dkP dF_79 DX12_readSum (i := 9) rfl rfl) (fun H locs hw => ?_)
        have hT36 : TM (sI τ 6 i 0) := TM.w hT_τ (show True from trivial)
        have hF36 : fr true [6] [8, 9, 10, 11, 12, 13] σ (sI τ 6 i 0) := fr.w hF_τ (Or.inl ⟨by decide, by decide⟩) (fun _ h => absurd h (by decide))
        refine lv_iinc (v := nI (i + 1)) (lv' := [(1, .int (nI (i + 1))), (0, .ref (ad 0))]) hx hb (dkI DX12_readSum (i := 10) rfl rfl rfl rfl) hl (k := 0) rfl (nI_1 _) (by decide) rfl (fun ls hl => ?_)
        refine lv_goto (tgt := 2) hx hb (dkS dF_167 DX12_readSum (i := 11) rfl rfl rfl) (by decide) ?_
        exact ih1 (i + 1) (sI τ 6 i 0) _ _ _ (by omega) (by omega) hT36 hF36 hw (lv_sub hl [0, 1] rfl)
  exact lp1 _ 0 σ _ _ _ (Nat.lt_succ_self _) (by omega) hT fr.refl hw (lv_sub hl [0, 1] rfl)
set_option maxRecDepth 100000 in
set_option maxHeartbeats 8000000 in
theorem c_X12_lays_6_7 (l : Launch) (G : va_G) (kc : KC) (ad : Nat → Nat) (σ : Sg) (a : Nat) (b : Nat) (n : Nat) (han : a + n ≤ 9) (hbn : b + n ≤ 384) (ht : ∀ i, i < n → ∀ v : Int, tyM 6 (a + i) v → tyM 7 (b + i) v) (hT : TM σ) : MV l G kc yX12_lays cX12_lays 6 0 0 [.ref (ad 6), .int (nI a), .ref (ad 7), .int (nI b), .int (nI n)] shM ad σ (fun σ1 => (∀ x, (x < b ∨ b + n ≤ x) → σ1.1 7 x = σ.1 7 x) ∧ TM σ1 ∧ fr true [7] [] σ σ1) := by
  intro sz
  refine z_body (y := yX12_lays) (n := 6) (av := [.ref (ad 6), .int (nI a), .ref (ad 7), .int (nI b), .int (nI n)]) (Qc := fun A => va_Qv (fun σ1 => (∀ x, (x < b ∨ b + n ≤ x) → σ1.1 7 x = σ.1 7 x) ∧ TM σ1 ∧ fr true [7] [] σ σ1) (PoC G kc shM ad A) A) (plainFor_of_name (by decide)) (Nat.le_of_ble_eq_true rfl) (fun pr e s m below meth c A C0 hr hlk hnm hw hRo ls hl => ?_) sz
  have hx := C0.1
  have hb := C0.2.1
  have hown := C0.2.2.2.1
  have hts := C0.2.2.2.2.1
  have hl : lv_has ls 6 [(0, .ref (ad 6)), (1, .int (nI a)), (2, .ref (ad 7)), (3, .int (nI b)), (4, .int (nI n))] := hl
  refine lv_iconst (v := 0) hx hb (dkP dF_3 DX12_lays (i := 0) rfl rfl) (by decide) ?_
  refine lv_istore (lv' := [(5, .int 0), (0, .ref (ad 6)), (1, .int (nI a)), (2, .ref (ad 7)), (3, .int (nI b)), (4, .int (nI n))]) hx hb (dk1 dF_54 DX12_lays (i := 1) rfl rfl rfl) hl (by decide) rfl (fun ls hl => ?_)
  have lp1 : ∀ (nq : Nat) (i : Nat) (τ : Sg) (H : Heap) (locs : List Loc) (ls : Array Slot), n - i < nq → (i ≤ n) → (∀ x, (x < b ∨ b + n ≤ x) → τ.1 7 x = σ.1 7 x) → (TM τ) → (fr true [7] [] σ τ) → St G kc A s.heap shM ad τ H locs → lv_has ls 6 [(5, .int (nI i)), (0, .ref (ad 6)), (1, .int (nI a)), (2, .ref (ad 7)), (3, .int (nI b)), (4, .int (nI n))] → W pr l e { frames := 0, cells := 0, slots := 0, locals := 0 } s m ([.ref (ad 6), .int (nI a), .ref (ad 7), .int (nI b), .int (nI n)] : List Value).toArray below meth c H locs 0 0 (MQ below (va_Qv (fun σ1 => (∀ x, (x < b ∨ b + n ≤ x) → σ1.1 7 x = σ.1 7 x) ∧ TM σ1 ∧ fr true [7] [] σ σ1) (PoC G kc shM ad A) A) ([.ref (ad 6), .int (nI a), .ref (ad 7), .int (nI b), .int (nI n)] : List Value).toArray s 0 0 A) (F0 m 3 ls []) := by
    intro nq
    induction nq with
    | zero => intro i τ H locs ls hmu; exact absurd hmu (Nat.not_lt_zero _)
    | succ nq ih1 =>
      intro i τ H locs ls hmu hi hu hT_τ hF_τ hw hl
      refine lv_iload hx hb (dk1 dF_21 DX12_lays (i := 2) rfl rfl rfl) (lv_at hl 0 rfl) ?_
      refine lv_iload hx hb (dk1 dF_21 DX12_lays (i := 3) rfl rfl rfl) (lv_at hl 5 rfl) ?_
      refine lv_icmp_ge (tgt := 28) hx hb (dkS dF_162 DX12_lays (i := 4) rfl rfl rfl) (by decide) (fun c2 => ?_) (fun c2 => ?_)
      · simp (disch := omega) only [ta_lt, ta_le, ta_eq, tnI] at c2
        exact z_vret C0 hr hlk hw (⟨hu, hT_τ, hF_τ⟩) (dkP dF_177 DX12_lays (i := 17) rfl rfl)
      · simp (disch := omega) only [ta_lt, ta_le, ta_eq, tnI] at c2
        refine lv_aload_n hx hb (dkP dF_44 DX12_lays (i := 5) rfl rfl) rfl (lv_at hl 3 rfl) ?_
        refine lv_iload_n hx hb (dkP dF_29 DX12_lays (i := 6) rfl rfl) rfl (lv_at hl 4 rfl) ?_
        refine lv_iload hx hb (dk1 dF_21 DX12_lays (i := 7) rfl rfl rfl) (lv_at hl 0 rfl) ?_
        refine lv_iadd hx hb (dkP dF_96 DX12_lays (i := 8) rfl rfl) ?_
        refine z_top (y := nI (b + i)) (by simp only [fa_lit, nI_add, pk_mul]) ?_
        refine lv_aload_n hx hb (dkP dF_42 DX12_lays (i := 9) rfl rfl) rfl (lv_at hl 1 rfl) ?_
        refine lv_iload_n hx hb (dkP dF_27 DX12_lays (i := 10) rfl rfl) rfl (lv_at hl 2 rfl) ?_
        refine lv_iload hx hb (dk1 dF_21 DX12_lays (i := 11) rfl rfl rfl) (lv_at hl 0 rfl) ?_
        refine lv_iadd hx hb (dkP dF_96 DX12_lays (i := 12) rfl rfl) ?_
        refine z_top (y := nI (a + i)) (by simp only [fa_lit, nI_add, pk_mul]) ?_
        refine z_ialdN (n := 9) C0 hw 6 (a + i) rfl (by omega) (by decide) (dkP dF_46 DX12_lays (i := 13) rfl rfl) ?_
        obtain ⟨v3, ev3⟩ : ∃ y : Int32, τ.1 6 (a + i) = y := ⟨_, rfl⟩
        refine z_top (y := v3) ev3 ?_
        refine z_iastN (n := 384) C0 hw 7 (b + i) rfl (by omega) (by decide) (dkP dF_79 DX12_lays (i := 14) rfl rfl) (fun H locs hw => ?_)
        have hT4 : TM (sI τ 7 (b + i) v3) := TM.w hT_τ (by rw [← ev3]; exact ht i (by omega) _ (hT_τ 6 _))
        have hF4 : fr true [7] [] σ (sI τ 7 (b + i) v3) := fr.w hF_τ (Or.inl ⟨by decide, by decide⟩) (fun _ h => absurd h (by decide))
        refine lv_iinc (v := nI (i + 1)) (lv' := [(5, .int (nI (i + 1))), (0, .ref (ad 6)), (1, .int (nI a)), (2, .ref (ad 7)), (3, .int (nI b)), (4, .int (nI n))]) hx hb (dkI DX12_lays (i := 15) rfl rfl rfl rfl) hl (k := 0) rfl (nI_1 _) (by decide) rfl (fun ls hl => ?_)
        refine lv_goto (tgt := 3) hx hb (dkS dF_167 DX12_lays (i := 16) rfl rfl rfl) (by decide) ?_
        exact ih1 (i + 1) (sI τ 7 (b + i) v3) _ _ _ (by omega) (by omega) (fun x hx => (rd_n (by omega)).trans (hu x hx)) hT4 hF4 hw (lv_sub hl [0, 1, 2, 3, 4, 5] rfl)
  exact lp1 _ 0 σ _ _ _ (Nat.lt_succ_self _) (by omega) (fun _ _ => rfl) hT fr.refl hw (lv_sub hl [0, 1, 2, 3, 4, 5] rfl)
set_option maxRecDepth 100000 in
set_option maxHeartbeats 8000000 in
theorem c_X12_lays_6_9 (l : Launch) (G : va_G) (kc : KC) (ad : Nat → Nat) (σ : Sg) (a : Nat) (b : Nat) (n : Nat) (han : a + n ≤ 9) (hbn : b + n ≤ 576) (ht : ∀ i, i < n → ∀ v : Int, tyM 6 (a + i) v → tyM 9 (b + i) v) (hT : TM σ) : MV l G kc yX12_lays cX12_lays 6 0 0 [.ref (ad 6), .int (nI a), .ref (ad 9), .int (nI b), .int (nI n)] shM ad σ (fun σ1 => (∀ x, (x < b ∨ b + n ≤ x) → σ1.1 9 x = σ.1 9 x) ∧ TM σ1 ∧ fr true [9] [] σ σ1) := by
  intro sz
  refine z_body (y := yX12_lays) (n := 6) (av := [.ref (ad 6), .int (nI a), .ref (ad 9), .int (nI b), .int (nI n)]) (Qc := fun A => va_Qv (fun σ1 => (∀ x, (x < b ∨ b + n ≤ x) → σ1.1 9 x = σ.1 9 x) ∧ TM σ1 ∧ fr true [9] [] σ σ1) (PoC G kc shM ad A) A) (plainFor_of_name (by decide)) (Nat.le_of_ble_eq_true rfl) (fun pr e s m below meth c A C0 hr hlk hnm hw hRo ls hl => ?_) sz
  have hx := C0.1
  have hb := C0.2.1
  have hown := C0.2.2.2.1
  have hts := C0.2.2.2.2.1
  have hl : lv_has ls 6 [(0, .ref (ad 6)), (1, .int (nI a)), (2, .ref (ad 9)), (3, .int (nI b)), (4, .int (nI n))] := hl
  refine lv_iconst (v := 0) hx hb (dkP dF_3 DX12_lays (i := 0) rfl rfl) (by decide) ?_
  refine lv_istore (lv' := [(5, .int 0), (0, .ref (ad 6)), (1, .int (nI a)), (2, .ref (ad 9)), (3, .int (nI b)), (4, .int (nI n))]) hx hb (dk1 dF_54 DX12_lays (i := 1) rfl rfl rfl) hl (by decide) rfl (fun ls hl => ?_)
  have lp1 : ∀ (nq : Nat) (i : Nat) (τ : Sg) (H : Heap) (locs : List Loc) (ls : Array Slot), n - i < nq → (i ≤ n) → (∀ x, (x < b ∨ b + n ≤ x) → τ.1 9 x = σ.1 9 x) → (TM τ) → (fr true [9] [] σ τ) → St G kc A s.heap shM ad τ H locs → lv_has ls 6 [(5, .int (nI i)), (0, .ref (ad 6)), (1, .int (nI a)), (2, .ref (ad 9)), (3, .int (nI b)), (4, .int (nI n))] → W pr l e { frames := 0, cells := 0, slots := 0, locals := 0 } s m ([.ref (ad 6), .int (nI a), .ref (ad 9), .int (nI b), .int (nI n)] : List Value).toArray below meth c H locs 0 0 (MQ below (va_Qv (fun σ1 => (∀ x, (x < b ∨ b + n ≤ x) → σ1.1 9 x = σ.1 9 x) ∧ TM σ1 ∧ fr true [9] [] σ σ1) (PoC G kc shM ad A) A) ([.ref (ad 6), .int (nI a), .ref (ad 9), .int (nI b), .int (nI n)] : List Value).toArray s 0 0 A) (F0 m 3 ls []) := by
    intro nq
    induction nq with
    | zero => intro i τ H locs ls hmu; exact absurd hmu (Nat.not_lt_zero _)
    | succ nq ih1 =>
      intro i τ H locs ls hmu hi hu hT_τ hF_τ hw hl
      refine lv_iload hx hb (dk1 dF_21 DX12_lays (i := 2) rfl rfl rfl) (lv_at hl 0 rfl) ?_
      refine lv_iload hx hb (dk1 dF_21 DX12_lays (i := 3) rfl rfl rfl) (lv_at hl 5 rfl) ?_
      refine lv_icmp_ge (tgt := 28) hx hb (dkS dF_162 DX12_lays (i := 4) rfl rfl rfl) (by decide) (fun c2 => ?_) (fun c2 => ?_)
      · simp (disch := omega) only [ta_lt, ta_le, ta_eq, tnI] at c2
        exact z_vret C0 hr hlk hw (⟨hu, hT_τ, hF_τ⟩) (dkP dF_177 DX12_lays (i := 17) rfl rfl)
      · simp (disch := omega) only [ta_lt, ta_le, ta_eq, tnI] at c2
        refine lv_aload_n hx hb (dkP dF_44 DX12_lays (i := 5) rfl rfl) rfl (lv_at hl 3 rfl) ?_
        refine lv_iload_n hx hb (dkP dF_29 DX12_lays (i := 6) rfl rfl) rfl (lv_at hl 4 rfl) ?_
        refine lv_iload hx hb (dk1 dF_21 DX12_lays (i := 7) rfl rfl rfl) (lv_at hl 0 rfl) ?_
        refine lv_iadd hx hb (dkP dF_96 DX12_lays (i := 8) rfl rfl) ?_
        refine z_top (y := nI (b + i)) (by simp only [fa_lit, nI_add, pk_mul]) ?_
        refine lv_aload_n hx hb (dkP dF_42 DX12_lays (i := 9) rfl rfl) rfl (lv_at hl 1 rfl) ?_
        refine lv_iload_n hx hb (dkP dF_27 DX12_lays (i := 10) rfl rfl) rfl (lv_at hl 2 rfl) ?_
        refine lv_iload hx hb (dk1 dF_21 DX12_lays (i := 11) rfl rfl rfl) (lv_at hl 0 rfl) ?_
        refine lv_iadd hx hb (dkP dF_96 DX12_lays (i := 12) rfl rfl) ?_
        refine z_top (y := nI (a + i)) (by simp only [fa_lit, nI_add, pk_mul]) ?_
        refine z_ialdN (n := 9) C0 hw 6 (a + i) rfl (by omega) (by decide) (dkP dF_46 DX12_lays (i := 13) rfl rfl) ?_
        obtain ⟨v3, ev3⟩ : ∃ y : Int32, τ.1 6 (a + i) = y := ⟨_, rfl⟩
        refine z_top (y := v3) ev3 ?_
        refine z_iastN (n := 576) C0 hw 9 (b + i) rfl (by omega) (by decide) (dkP dF_79 DX12_lays (i := 14) rfl rfl) (fun H locs hw => ?_)
        have hT4 : TM (sI τ 9 (b + i) v3) := TM.w hT_τ (by rw [← ev3]; exact ht i (by omega) _ (hT_τ 6 _))
        have hF4 : fr true [9] [] σ (sI τ 9 (b + i) v3) := fr.w hF_τ (Or.inl ⟨by decide, by decide⟩) (fun _ h => absurd h (by decide))
        refine lv_iinc (v := nI (i + 1)) (lv' := [(5, .int (nI (i + 1))), (0, .ref (ad 6)), (1, .int (nI a)), (2, .ref (ad 9)), (3, .int (nI b)), (4, .int (nI n))]) hx hb (dkI DX12_lays (i := 15) rfl rfl rfl rfl) hl (k := 0) rfl (nI_1 _) (by decide) rfl (fun ls hl => ?_)
        refine lv_goto (tgt := 3) hx hb (dkS dF_167 DX12_lays (i := 16) rfl rfl rfl) (by decide) ?_
        exact ih1 (i + 1) (sI τ 9 (b + i) v3) _ _ _ (by omega) (by omega) (fun x hx => (rd_n (by omega)).trans (hu x hx)) hT4 hF4 hw (lv_sub hl [0, 1, 2, 3, 4, 5] rfl)
  exact lp1 _ 0 σ _ _ _ (Nat.lt_succ_self _) (by omega) (fun _ _ => rfl) hT fr.refl hw (lv_sub hl [0, 1, 2, 3, 4, 5] rfl)
set_option maxRecDepth 100000 in
set_option maxHeartbeats 8000000 in
theorem c_X12_lays_6_10 (l : Launch) (G : va_G) (kc : KC) (ad : Nat → Nat) (σ : Sg) (a : Nat) (b : Nat) (n : Nat) (han : a + n ≤ 9) (hbn : b + n ≤ 960) (ht : ∀ i, i < n → ∀ v : Int, tyM 6 (a + i) v → tyM 10 (b + i) v) (hT : TM σ) : MV l G kc yX12_lays cX12_lays 6 0 0 [.ref (ad 6), .int (nI a), .ref (ad 10), .int (nI b), .int (nI n)] shM ad σ (fun σ1 => (∀ x, (x < b ∨ b + n ≤ x) → σ1.1 10 x = σ.1 10 x) ∧ TM σ1 ∧ fr true [10] [] σ σ1) := by
  intro sz
  refine z_body (y := yX12_lays) (n := 6) (av := [.ref (ad 6), .int (nI a), .ref (ad 10), .int (nI b), .int (nI n)]) (Qc := fun A => va_Qv (fun σ1 => (∀ x, (x < b ∨ b + n ≤ x) → σ1.1 10 x = σ.1 10 x) ∧ TM σ1 ∧ fr true [10] [] σ σ1) (PoC G kc shM ad A) A) (plainFor_of_name (by decide)) (Nat.le_of_ble_eq_true rfl) (fun pr e s m below meth c A C0 hr hlk hnm hw hRo ls hl => ?_) sz
  have hx := C0.1
  have hb := C0.2.1
  have hown := C0.2.2.2.1
  have hts := C0.2.2.2.2.1
  have hl : lv_has ls 6 [(0, .ref (ad 6)), (1, .int (nI a)), (2, .ref (ad 10)), (3, .int (nI b)), (4, .int (nI n))] := hl
  refine lv_iconst (v := 0) hx hb (dkP dF_3 DX12_lays (i := 0) rfl rfl) (by decide) ?_
  refine lv_istore (lv' := [(5, .int 0), (0, .ref (ad 6)), (1, .int (nI a)), (2, .ref (ad 10)), (3, .int (nI b)), (4, .int (nI n))]) hx hb (dk1 dF_54 DX12_lays (i := 1) rfl rfl rfl) hl (by decide) rfl (fun ls hl => ?_)
  have lp1 : ∀ (nq : Nat) (i : Nat) (τ : Sg) (H : Heap) (locs : List Loc) (ls : Array Slot), n - i < nq → (i ≤ n) → (∀ x, (x < b ∨ b + n ≤ x) → τ.1 10 x = σ.1 10 x) → (TM τ) → (fr true [10] [] σ τ) → St G kc A s.heap shM ad τ H locs → lv_has ls 6 [(5, .int (nI i)), (0, .ref (ad 6)), (1, .int (nI a)), (2, .ref (ad 10)), (3, .int (nI b)), (4, .int (nI n))] → W pr l e { frames := 0, cells := 0, slots := 0, locals := 0 } s m ([.ref (ad 6), .int (nI a), .ref (ad 10), .int (nI b), .int (nI n)] : List Value).toArray below meth c H locs 0 0 (MQ below (va_Qv (fun σ1 => (∀ x, (x < b ∨ b + n ≤ x) → σ1.1 10 x = σ.1 10 x) ∧ TM σ1 ∧ fr true [10] [] σ σ1) (PoC G kc shM ad A) A) ([.ref (ad 6), .int (nI a), .ref (ad 10), .int (nI b), .int (nI n)] : List Value).toArray s 0 0 A) (F0 m 3 ls []) := by
    intro nq
    induction nq with
    | zero => intro i τ H locs ls hmu; exact absurd hmu (Nat.not_lt_zero _)
    | succ nq ih1 =>
      intro i τ H locs ls hmu hi hu hT_τ hF_τ hw hl
      refine lv_iload hx hb (dk1 dF_21 DX12_lays (i := 2) rfl rfl rfl) (lv_at hl 0 rfl) ?_
      refine lv_iload hx hb (dk1 dF_21 DX12_lays (i := 3) rfl rfl rfl) (lv_at hl 5 rfl) ?_
      refine lv_icmp_ge (tgt := 28) hx hb (dkS dF_162 DX12_lays (i := 4) rfl rfl rfl) (by decide) (fun c2 => ?_) (fun c2 => ?_)
      · simp (disch := omega) only [ta_lt, ta_le, ta_eq, tnI] at c2
        exact z_vret C0 hr hlk hw (⟨hu, hT_τ, hF_τ⟩) (dkP dF_177 DX12_lays (i := 17) rfl rfl)
      · simp (disch := omega) only [ta_lt, ta_le, ta_eq, tnI] at c2
        refine lv_aload_n hx hb (dkP dF_44 DX12_lays (i := 5) rfl rfl) rfl (lv_at hl 3 rfl) ?_
        refine lv_iload_n hx hb (dkP dF_29 DX12_lays (i := 6) rfl rfl) rfl (lv_at hl 4 rfl) ?_
        refine lv_iload hx hb (dk1 dF_21 DX12_lays (i := 7) rfl rfl rfl) (lv_at hl 0 rfl) ?_
        refine lv_iadd hx hb (dkP dF_96 DX12_lays (i := 8) rfl rfl) ?_
        refine z_top (y := nI (b + i)) (by simp only [fa_lit, nI_add, pk_mul]) ?_
        refine lv_aload_n hx hb (dkP dF_42 DX12_lays (i := 9) rfl rfl) rfl (lv_at hl 1 rfl) ?_
        refine lv_iload_n hx hb (dkP dF_27 DX12_lays (i := 10) rfl rfl) rfl (lv_at hl 2 rfl) ?_
        refine lv_iload hx hb (dk1 dF_21 DX12_lays (i := 11) rfl rfl rfl) (lv_at hl 0 rfl) ?_
        refine lv_iadd hx hb (dkP dF_96 DX12_lays (i := 12) rfl rfl) ?_
        refine z_top (y := nI (a + i)) (by simp only [fa_lit, nI_add, pk_mul]) ?_
        refine z_ialdN (n := 9) C0 hw 6 (a + i) rfl (by omega) (by decide) (dkP dF_46 DX12_lays (i := 13) rfl rfl) ?_
        obtain ⟨v3, ev3⟩ : ∃ y : Int32, τ.1 6 (a + i) = y := ⟨_, rfl⟩
        refine z_top (y := v3) ev3 ?_
        refine z_iastN (n := 960) C0 hw 10 (b + i) rfl (by omega) (by decide) (dkP dF_79 DX12_lays (i := 14) rfl rfl) (fun H locs hw => ?_)
        have hT4 : TM (sI τ 10 (b + i) v3) := TM.w hT_τ (by rw [← ev3]; exact ht i (by omega) _ (hT_τ 6 _))
        have hF4 : fr true [10] [] σ (sI τ 10 (b + i) v3) := fr.w hF_τ (Or.inl ⟨by decide, by decide⟩) (fun _ h => absurd h (by decide))
        refine lv_iinc (v := nI (i + 1)) (lv' := [(5, .int (nI (i + 1))), (0, .ref (ad 6)), (1, .int (nI a)), (2, .ref (ad 10)), (3, .int (nI b)), (4, .int (nI n))]) hx hb (dkI DX12_lays (i := 15) rfl rfl rfl rfl) hl (k := 0) rfl (nI_1 _) (by decide) rfl (fun ls hl => ?_)
        refine lv_goto (tgt := 3) hx hb (dkS dF_167 DX12_lays (i := 16) rfl rfl rfl) (by decide) ?_
        exact ih1 (i + 1) (sI τ 10 (b + i) v3) _ _ _ (by omega) (by omega) (fun x hx => (rd_n (by omega)).trans (hu x hx)) hT4 hF4 hw (lv_sub hl [0, 1, 2, 3, 4, 5] rfl)
  exact lp1 _ 0 σ _ _ _ (Nat.lt_succ_self _) (by omega) (fun _ _ => rfl) hT fr.refl hw (lv_sub hl [0, 1, 2, 3, 4, 5] rfl)
set_option maxRecDepth 100000 in
set_option maxHeartbeats 8000000 in
theorem c_X12_lays_7_1 (l : Launch) (G : va_G) (kc : KC) (ad : Nat → Nat) (σ : Sg) (a : Nat) (b : Nat) (n : Nat) (han : a + n ≤ 384) (hbn : b + n ≤ 414128) (ht : ∀ i, i < n → ∀ v : Int, tyM 7 (a + i) v → tyM 1 (b + i) v) (hkr : ∀ i, i < n → ¬ KR (b + i)) (hT : TM σ) : MV l G kc yX12_lays cX12_lays 6 0 0 [.ref (ad 7), .int (nI a), .ref (ad 1), .int (nI b), .int (nI n)] shM ad σ (fun σ1 => (∀ x, (x < b ∨ b + n ≤ x) → σ1.1 1 x = σ.1 1 x) ∧ TM σ1 ∧ fr true [1] [] σ σ1) := by
  intro sz
  refine z_body (y := yX12_lays) (n := 6) (av := [.ref (ad 7), .int (nI a), .ref (ad 1), .int (nI b), .int (nI n)]) (Qc := fun A => va_Qv (fun σ1 => (∀ x, (x < b ∨ b + n ≤ x) → σ1.1 1 x = σ.1 1 x) ∧ TM σ1 ∧ fr true [1] [] σ σ1) (PoC G kc shM ad A) A) (plainFor_of_name (by decide)) (Nat.le_of_ble_eq_true rfl) (fun pr e s m below meth c A C0 hr hlk hnm hw hRo ls hl => ?_) sz
  have hx := C0.1
  have hb := C0.2.1
  have hown := C0.2.2.2.1
  have hts := C0.2.2.2.2.1
  have hl : lv_has ls 6 [(0, .ref (ad 7)), (1, .int (nI a)), (2, .ref (ad 1)), (3, .int (nI b)), (4, .int (nI n))] := hl
  refine lv_iconst (v := 0) hx hb (dkP dF_3 DX12_lays (i := 0) rfl rfl) (by decide) ?_
  refine lv_istore (lv' := [(5, .int 0), (0, .ref (ad 7)), (1, .int (nI a)), (2, .ref (ad 1)), (3, .int (nI b)), (4, .int (nI n))]) hx hb (dk1 dF_54 DX12_lays (i := 1) rfl rfl rfl) hl (by decide) rfl (fun ls hl => ?_)
  have lp1 : ∀ (nq : Nat) (i : Nat) (τ : Sg) (H : Heap) (locs : List Loc) (ls : Array Slot), n - i < nq → (i ≤ n) → (∀ x, (x < b ∨ b + n ≤ x) → τ.1 1 x = σ.1 1 x) → (TM τ) → (fr true [1] [] σ τ) → St G kc A s.heap shM ad τ H locs → lv_has ls 6 [(5, .int (nI i)), (0, .ref (ad 7)), (1, .int (nI a)), (2, .ref (ad 1)), (3, .int (nI b)), (4, .int (nI n))] → W pr l e { frames := 0, cells := 0, slots := 0, locals := 0 } s m ([.ref (ad 7), .int (nI a), .ref (ad 1), .int (nI b), .int (nI n)] : List Value).toArray below meth c H locs 0 0 (MQ below (va_Qv (fun σ1 => (∀ x, (x < b ∨ b + n ≤ x) → σ1.1 1 x = σ.1 1 x) ∧ TM σ1 ∧ fr true [1] [] σ σ1) (PoC G kc shM ad A) A) ([.ref (ad 7), .int (nI a), .ref (ad 1), .int (nI b), .int (nI n)] : List Value).toArray s 0 0 A) (F0 m 3 ls []) := by
    intro nq
    induction nq with
    | zero => intro i τ H locs ls hmu; exact absurd hmu (Nat.not_lt_zero _)
    | succ nq ih1 =>
      intro i τ H locs ls hmu hi hu hT_τ hF_τ hw hl
      refine lv_iload hx hb (dk1 dF_21 DX12_lays (i := 2) rfl rfl rfl) (lv_at hl 0 rfl) ?_
      refine lv_iload hx hb (dk1 dF_21 DX12_lays (i := 3) rfl rfl rfl) (lv_at hl 5 rfl) ?_
      refine lv_icmp_ge (tgt := 28) hx hb (dkS dF_162 DX12_lays (i := 4) rfl rfl rfl) (by decide) (fun c2 => ?_) (fun c2 => ?_)
      · simp (disch := omega) only [ta_lt, ta_le, ta_eq, tnI] at c2
        exact z_vret C0 hr hlk hw (⟨hu, hT_τ, hF_τ⟩) (dkP dF_177 DX12_lays (i := 17) rfl rfl)
      · simp (disch := omega) only [ta_lt, ta_le, ta_eq, tnI] at c2
        refine lv_aload_n hx hb (dkP dF_44 DX12_lays (i := 5) rfl rfl) rfl (lv_at hl 3 rfl) ?_
        refine lv_iload_n hx hb (dkP dF_29 DX12_lays (i := 6) rfl rfl) rfl (lv_at hl 4 rfl) ?_
        refine lv_iload hx hb (dk1 dF_21 DX12_lays (i := 7) rfl rfl rfl) (lv_at hl 0 rfl) ?_
        refine lv_iadd hx hb (dkP dF_96 DX12_lays (i := 8) rfl rfl) ?_
        refine z_top (y := nI (b + i)) (by simp only [fa_lit, nI_add, pk_mul]) ?_
        refine lv_aload_n hx hb (dkP dF_42 DX12_lays (i := 9) rfl rfl) rfl (lv_at hl 1 rfl) ?_
        refine lv_iload_n hx hb (dkP dF_27 DX12_lays (i := 10) rfl rfl) rfl (lv_at hl 2 rfl) ?_
        refine lv_iload hx hb (dk1 dF_21 DX12_lays (i := 11) rfl rfl rfl) (lv_at hl 0 rfl) ?_
        refine lv_iadd hx hb (dkP dF_96 DX12_lays (i := 12) rfl rfl) ?_
        refine z_top (y := nI (a + i)) (by simp only [fa_lit, nI_add, pk_mul]) ?_
        refine z_ialdN (n := 384) C0 hw 7 (a + i) rfl (by omega) (by decide) (dkP dF_46 DX12_lays (i := 13) rfl rfl) ?_
        obtain ⟨v3, ev3⟩ : ∃ y : Int32, τ.1 7 (a + i) = y := ⟨_, rfl⟩
        refine z_top (y := v3) ev3 ?_
        refine z_iastN (n := 414128) C0 hw 1 (b + i) rfl (by omega) (by decide) (dkP dF_79 DX12_lays (i := 14) rfl rfl) (fun H locs hw => ?_)
        have hT4 : TM (sI τ 1 (b + i) v3) := TM.w hT_τ (by rw [← ev3]; exact ht i (by omega) _ (hT_τ 7 _))
        have hF4 : fr true [1] [] σ (sI τ 1 (b + i) v3) := fr.w hF_τ (Or.inl ⟨by decide, by decide⟩) (fun _ _ => hkr i (by omega))
        refine lv_iinc (v := nI (i + 1)) (lv' := [(5, .int (nI (i + 1))), (0, .ref (ad 7)), (1, .int (nI a)), (2, .ref (ad 1)), (3, .int (nI b)), (4, .int (nI n))]) hx hb (dkI DX12_lays (i := 15) rfl rfl rfl rfl) hl (k := 0) rfl (nI_1 _) (by decide) rfl (fun ls hl => ?_)
        refine lv_goto (tgt := 3) hx hb (dkS dF_167 DX12_lays (i := 16) rfl rfl rfl) (by decide) ?_
        exact ih1 (i + 1) (sI τ 1 (b + i) v3) _ _ _ (by omega) (by omega) (fun x hx => (rd_n (by omega)).trans (hu x hx)) hT4 hF4 hw (lv_sub hl [0, 1, 2, 3, 4, 5] rfl)
  exact lp1 _ 0 σ _ _ _ (Nat.lt_succ_self _) (by omega) (fun _ _ => rfl) hT fr.refl hw (lv_sub hl [0, 1, 2, 3, 4, 5] rfl)
set_option maxRecDepth 100000 in
set_option maxHeartbeats 8000000 in
theorem c_X12_lays_8_1 (l : Launch) (G : va_G) (kc : KC) (ad : Nat → Nat) (σ : Sg) (a : Nat) (b : Nat) (n : Nat) (han : a + n ≤ 24) (hbn : b + n ≤ 414128) (ht : ∀ i, i < n → ∀ v : Int, tyM 8 (a + i) v → tyM 1 (b + i) v) (hkr : ∀ i, i < n → ¬ KR (b + i)) (hT : TM σ) : MV l G kc yX12_lays cX12_lays 6 0 0 [.ref (ad 8), .int (nI a), .ref (ad 1), .int (nI b), .int (nI n)] shM ad σ (fun σ1 => (∀ x, (x < b ∨ b + n ≤ x) → σ1.1 1 x = σ.1 1 x) ∧ TM σ1 ∧ fr true [1] [] σ σ1) := by
  intro sz
  refine z_body (y := yX12_lays) (n := 6) (av := [.ref (ad 8), .int (nI a), .ref (ad 1), .int (nI b), .int (nI n)]) (Qc := fun A => va_Qv (fun σ1 => (∀ x, (x < b ∨ b + n ≤ x) → σ1.1 1 x = σ.1 1 x) ∧ TM σ1 ∧ fr true [1] [] σ σ1) (PoC G kc shM ad A) A) (plainFor_of_name (by decide)) (Nat.le_of_ble_eq_true rfl) (fun pr e s m below meth c A C0 hr hlk hnm hw hRo ls hl => ?_) sz
  have hx := C0.1
  have hb := C0.2.1
  have hown := C0.2.2.2.1
  have hts := C0.2.2.2.2.1
  have hl : lv_has ls 6 [(0, .ref (ad 8)), (1, .int (nI a)), (2, .ref (ad 1)), (3, .int (nI b)), (4, .int (nI n))] := hl
  refine lv_iconst (v := 0) hx hb (dkP dF_3 DX12_lays (i := 0) rfl rfl) (by decide) ?_
  refine lv_istore (lv' := [(5, .int 0), (0, .ref (ad 8)), (1, .int (nI a)), (2, .ref (ad 1)), (3, .int (nI b)), (4, .int (nI n))]) hx hb (dk1 dF_54 DX12_lays (i := 1) rfl rfl rfl) hl (by decide) rfl (fun ls hl => ?_)
  have lp1 : ∀ (nq : Nat) (i : Nat) (τ : Sg) (H : Heap) (locs : List Loc) (ls : Array Slot), n - i < nq → (i ≤ n) → (∀ x, (x < b ∨ b + n ≤ x) → τ.1 1 x = σ.1 1 x) → (TM τ) → (fr true [1] [] σ τ) → St G kc A s.heap shM ad τ H locs → lv_has ls 6 [(5, .int (nI i)), (0, .ref (ad 8)), (1, .int (nI a)), (2, .ref (ad 1)), (3, .int (nI b)), (4, .int (nI n))] → W pr l e { frames := 0, cells := 0, slots := 0, locals := 0 } s m ([.ref (ad 8), .int (nI a), .ref (ad 1), .int (nI b), .int (nI n)] : List Value).toArray below meth c H locs 0 0 (MQ below (va_Qv (fun σ1 => (∀ x, (x < b ∨ b + n ≤ x) → σ1.1 1 x = σ.1 1 x) ∧ TM σ1 ∧ fr true [1] [] σ σ1) (PoC G kc shM ad A) A) ([.ref (ad 8), .int (nI a), .ref (ad 1), .int (nI b), .int (nI n)] : List Value).toArray s 0 0 A) (F0 m 3 ls []) := by
    intro nq
    induction nq with
    | zero => intro i τ H locs ls hmu; exact absurd hmu (Nat.not_lt_zero _)
    | succ nq ih1 =>
      intro i τ H locs ls hmu hi hu hT_τ hF_τ hw hl
      refine lv_iload hx hb (dk1 dF_21 DX12_lays (i := 2) rfl rfl rfl) (lv_at hl 0 rfl) ?_
      refine lv_iload hx hb (dk1 dF_21 DX12_lays (i := 3) rfl rfl rfl) (lv_at hl 5 rfl) ?_
      refine lv_icmp_ge (tgt := 28) hx hb (dkS dF_162 DX12_lays (i := 4) rfl rfl rfl) (by decide) (fun c2 => ?_) (fun c2 => ?_)
      · simp (disch := omega) only [ta_lt, ta_le, ta_eq, tnI] at c2
        exact z_vret C0 hr hlk hw (⟨hu, hT_τ, hF_τ⟩) (dkP dF_177 DX12_lays (i := 17) rfl rfl)
      · simp (disch := omega) only [ta_lt, ta_le, ta_eq, tnI] at c2
        refine lv_aload_n hx hb (dkP dF_44 DX12_lays (i := 5) rfl rfl) rfl (lv_at hl 3 rfl) ?_
        refine lv_iload_n hx hb (dkP dF_29 DX12_lays (i := 6) rfl rfl) rfl (lv_at hl 4 rfl) ?_
        refine lv_iload hx hb (dk1 dF_21 DX12_lays (i := 7) rfl rfl rfl) (lv_at hl 0 rfl) ?_
        refine lv_iadd hx hb (dkP dF_96 DX12_lays (i := 8) rfl rfl) ?_
        refine z_top (y := nI (b + i)) (by simp only [fa_lit, nI_add, pk_mul]) ?_
        refine lv_aload_n hx hb (dkP dF_42 DX12_lays (i := 9) rfl rfl) rfl (lv_at hl 1 rfl) ?_
        refine lv_iload_n hx hb (dkP dF_27 DX12_lays (i := 10) rfl rfl) rfl (lv_at hl 2 rfl) ?_
        refine lv_iload hx hb (dk1 dF_21 DX12_lays (i := 11) rfl rfl rfl) (lv_at hl 0 rfl) ?_
        refine lv_iadd hx hb (dkP dF_96 DX12_lays (i := 12) rfl rfl) ?_
        refine z_top (y := nI (a + i)) (by simp only [fa_lit, nI_add, pk_mul]) ?_
        refine z_ialdN (n := 24) C0 hw 8 (a + i) rfl (by omega) (by decide) (dkP dF_46 DX12_lays (i := 13) rfl rfl) ?_
        obtain ⟨v3, ev3⟩ : ∃ y : Int32, τ.1 8 (a + i) = y := ⟨_, rfl⟩
        refine z_top (y := v3) ev3 ?_
        refine z_iastN (n := 414128) C0 hw 1 (b + i) rfl (by omega) (by decide) (dkP dF_79 DX12_lays (i := 14) rfl rfl) (fun H locs hw => ?_)
        have hT4 : TM (sI τ 1 (b + i) v3) := TM.w hT_τ (by rw [← ev3]; exact ht i (by omega) _ (hT_τ 8 _))
        have hF4 : fr true [1] [] σ (sI τ 1 (b + i) v3) := fr.w hF_τ (Or.inl ⟨by decide, by decide⟩) (fun _ _ => hkr i (by omega))
        refine lv_iinc (v := nI (i + 1)) (lv' := [(5, .int (nI (i + 1))), (0, .ref (ad 8)), (1, .int (nI a)), (2, .ref (ad 1)), (3, .int (nI b)), (4, .int (nI n))]) hx hb (dkI DX12_lays (i := 15) rfl rfl rfl rfl) hl (k := 0) rfl (nI_1 _) (by decide) rfl (fun ls hl => ?_)
        refine lv_goto (tgt := 3) hx hb (dkS dF_167 DX12_lays (i := 16) rfl rfl rfl) (by decide) ?_
        exact ih1 (i + 1) (sI τ 1 (b + i) v3) _ _ _ (by omega) (by omega) (fun x hx => (rd_n (by omega)).trans (hu x hx)) hT4 hF4 hw (lv_sub hl [0, 1, 2, 3, 4, 5] rfl)
  exact lp1 _ 0 σ _ _ _ (Nat.lt_succ_self _) (by omega) (fun _ _ => rfl) hT fr.refl hw (lv_sub hl [0, 1, 2, 3, 4, 5] rfl)
set_option maxRecDepth 100000 in
set_option maxHeartbeats 8000000 in
theorem c_X12_lays_9_1 (l : Launch) (G : va_G) (kc : KC) (ad : Nat → Nat) (σ : Sg) (a : Nat) (b : Nat) (n : Nat) (han : a + n ≤ 576) (hbn : b + n ≤ 414128) (ht : ∀ i, i < n → ∀ v : Int, tyM 9 (a + i) v → tyM 1 (b + i) v) (hkr : ∀ i, i < n → ¬ KR (b + i)) (hT : TM σ) : MV l G kc yX12_lays cX12_lays 6 0 0 [.ref (ad 9), .int (nI a), .ref (ad 1), .int (nI b), .int (nI n)] shM ad σ (fun σ1 => (∀ x, (x < b ∨ b + n ≤ x) → σ1.1 1 x = σ.1 1 x) ∧ TM σ1 ∧ fr true [1] [] σ σ1) := by
  intro sz
  refine z_body (y := yX12_lays) (n := 6) (av := [.ref (ad 9), .int (nI a), .ref (ad 1), .int (nI b), .int (nI n)]) (Qc := fun A => va_Qv (fun σ1 => (∀ x, (x < b ∨ b + n ≤ x) → σ1.1 1 x = σ.1 1 x) ∧ TM σ1 ∧ fr true [1] [] σ σ1) (PoC G kc shM ad A) A) (plainFor_of_name (by decide)) (Nat.le_of_ble_eq_true rfl) (fun pr e s m below meth c A C0 hr hlk hnm hw hRo ls hl => ?_) sz
  have hx := C0.1
  have hb := C0.2.1
  have hown := C0.2.2.2.1
  have hts := C0.2.2.2.2.1
  have hl : lv_has ls 6 [(0, .ref (ad 9)), (1, .int (nI a)), (2, .ref (ad 1)), (3, .int (nI b)), (4, .int (nI n))] := hl
  refine lv_iconst (v := 0) hx hb (dkP dF_3 DX12_lays (i := 0) rfl rfl) (by decide) ?_
  refine lv_istore (lv' := [(5, .int 0), (0, .ref (ad 9)), (1, .int (nI a)), (2, .ref (ad 1)), (3, .int (nI b)), (4, .int (nI n))]) hx hb (dk1 dF_54 DX12_lays (i := 1) rfl rfl rfl) hl (by decide) rfl (fun ls hl => ?_)
  have lp1 : ∀ (nq : Nat) (i : Nat) (τ : Sg) (H : Heap) (locs : List Loc) (ls : Array Slot), n - i < nq → (i ≤ n) → (∀ x, (x < b ∨ b + n ≤ x) → τ.1 1 x = σ.1 1 x) → (TM τ) → (fr true [1] [] σ τ) → St G kc A s.heap shM ad τ H locs → lv_has ls 6 [(5, .int (nI i)), (0, .ref (ad 9)), (1, .int (nI a)), (2, .ref (ad 1)), (3, .int (nI b)), (4, .int (nI n))] → W pr l e { frames := 0, cells := 0, slots := 0, locals := 0 } s m ([.ref (ad 9), .int (nI a), .ref (ad 1), .int (nI b), .int (nI n)] : List Value).toArray below meth c H locs 0 0 (MQ below (va_Qv (fun σ1 => (∀ x, (x < b ∨ b + n ≤ x) → σ1.1 1 x = σ.1 1 x) ∧ TM σ1 ∧ fr true [1] [] σ σ1) (PoC G kc shM ad A) A) ([.ref (ad 9), .int (nI a), .ref (ad 1), .int (nI b), .int (nI n)] : List Value).toArray s 0 0 A) (F0 m 3 ls []) := by
    intro nq
    induction nq with
    | zero => intro i τ H locs ls hmu; exact absurd hmu (Nat.not_lt_zero _)
    | succ nq ih1 =>
      intro i τ H locs ls hmu hi hu hT_τ hF_τ hw hl
      refine lv_iload hx hb (dk1 dF_21 DX12_lays (i := 2) rfl rfl rfl) (lv_at hl 0 rfl) ?_
      refine lv_iload hx hb (dk1 dF_21 DX12_lays (i := 3) rfl rfl rfl) (lv_at hl 5 rfl) ?_
      refine lv_icmp_ge (tgt := 28) hx hb (dkS dF_162 DX12_lays (i := 4) rfl rfl rfl) (by decide) (fun c2 => ?_) (fun c2 => ?_)
      · simp (disch := omega) only [ta_lt, ta_le, ta_eq, tnI] at c2
        exact z_vret C0 hr hlk hw (⟨hu, hT_τ, hF_τ⟩) (dkP dF_177 DX12_lays (i := 17) rfl rfl)
      · simp (disch := omega) only [ta_lt, ta_le, ta_eq, tnI] at c2
        refine lv_aload_n hx hb (dkP dF_44 DX12_lays (i := 5) rfl rfl) rfl (lv_at hl 3 rfl) ?_
        refine lv_iload_n hx hb (dkP dF_29 DX12_lays (i := 6) rfl rfl) rfl (lv_at hl 4 rfl) ?_
        refine lv_iload hx hb (dk1 dF_21 DX12_lays (i := 7) rfl rfl rfl) (lv_at hl 0 rfl) ?_
        refine lv_iadd hx hb (dkP dF_96 DX12_lays (i := 8) rfl rfl) ?_
        refine z_top (y := nI (b + i)) (by simp only [fa_lit, nI_add, pk_mul]) ?_
        refine lv_aload_n hx hb (dkP dF_42 DX12_lays (i := 9) rfl rfl) rfl (lv_at hl 1 rfl) ?_
        refine lv_iload_n hx hb (dkP dF_27 DX12_lays (i := 10) rfl rfl) rfl (lv_at hl 2 rfl) ?_
        refine lv_iload hx hb (dk1 dF_21 DX12_lays (i := 11) rfl rfl rfl) (lv_at hl 0 rfl) ?_
        refine lv_iadd hx hb (dkP dF_96 DX12_lays (i := 12) rfl rfl) ?_
        refine z_top (y := nI (a + i)) (by simp only [fa_lit, nI_add, pk_mul]) ?_
        refine z_ialdN (n := 576) C0 hw 9 (a + i) rfl (by omega) (by decide) (dkP dF_46 DX12_lays (i := 13) rfl rfl) ?_
        obtain ⟨v3, ev3⟩ : ∃ y : Int32, τ.1 9 (a + i) = y := ⟨_, rfl⟩
        refine z_top (y := v3) ev3 ?_
        refine z_iastN (n := 414128) C0 hw 1 (b + i) rfl (by omega) (by decide) (dkP dF_79 DX12_lays (i := 14) rfl rfl) (fun H locs hw => ?_)
        have hT4 : TM (sI τ 1 (b + i) v3) := TM.w hT_τ (by rw [← ev3]; exact ht i (by omega) _ (hT_τ 9 _))
        have hF4 : fr true [1] [] σ (sI τ 1 (b + i) v3) := fr.w hF_τ (Or.inl ⟨by decide, by decide⟩) (fun _ _ => hkr i (by omega))
        refine lv_iinc (v := nI (i + 1)) (lv' := [(5, .int (nI (i + 1))), (0, .ref (ad 9)), (1, .int (nI a)), (2, .ref (ad 1)), (3, .int (nI b)), (4, .int (nI n))]) hx hb (dkI DX12_lays (i := 15) rfl rfl rfl rfl) hl (k := 0) rfl (nI_1 _) (by decide) rfl (fun ls hl => ?_)
        refine lv_goto (tgt := 3) hx hb (dkS dF_167 DX12_lays (i := 16) rfl rfl rfl) (by decide) ?_
        exact ih1 (i + 1) (sI τ 1 (b + i) v3) _ _ _ (by omega) (by omega) (fun x hx => (rd_n (by omega)).trans (hu x hx)) hT4 hF4 hw (lv_sub hl [0, 1, 2, 3, 4, 5] rfl)
  exact lp1 _ 0 σ _ _ _ (Nat.lt_succ_self _) (by omega) (fun _ _ => rfl) hT fr.refl hw (lv_sub hl [0, 1, 2, 3, 4, 5] rfl)
set_option maxRecDepth 100000 in
set_option maxHeartbeats 8000000 in
theorem c_X12_lays_10_1 (l : Launch) (G : va_G) (kc : KC) (ad : Nat → Nat) (σ : Sg) (a : Nat) (b : Nat) (n : Nat) (han : a + n ≤ 960) (hbn : b + n ≤ 414128) (ht : ∀ i, i < n → ∀ v : Int, tyM 10 (a + i) v → tyM 1 (b + i) v) (hkr : ∀ i, i < n → ¬ KR (b + i)) (hT : TM σ) : MV l G kc yX12_lays cX12_lays 6 0 0 [.ref (ad 10), .int (nI a), .ref (ad 1), .int (nI b), .int (nI n)] shM ad σ (fun σ1 => (∀ x, (x < b ∨ b + n ≤ x) → σ1.1 1 x = σ.1 1 x) ∧ TM σ1 ∧ fr true [1] [] σ σ1) := by
  intro sz
  refine z_body (y := yX12_lays) (n := 6) (av := [.ref (ad 10), .int (nI a), .ref (ad 1), .int (nI b), .int (nI n)]) (Qc := fun A => va_Qv (fun σ1 => (∀ x, (x < b ∨ b + n ≤ x) → σ1.1 1 x = σ.1 1 x) ∧ TM σ1 ∧ fr true [1] [] σ σ1) (PoC G kc shM ad A) A) (plainFor_of_name (by decide)) (Nat.le_of_ble_eq_true rfl) (fun pr e s m below meth c A C0 hr hlk hnm hw hRo ls hl => ?_) sz
  have hx := C0.1
  have hb := C0.2.1
  have hown := C0.2.2.2.1
  have hts := C0.2.2.2.2.1
  have hl : lv_has ls 6 [(0, .ref (ad 10)), (1, .int (nI a)), (2, .ref (ad 1)), (3, .int (nI b)), (4, .int (nI n))] := hl
  refine lv_iconst (v := 0) hx hb (dkP dF_3 DX12_lays (i := 0) rfl rfl) (by decide) ?_
  refine lv_istore (lv' := [(5, .int 0), (0, .ref (ad 10)), (1, .int (nI a)), (2, .ref (ad 1)), (3, .int (nI b)), (4, .int (nI n))]) hx hb (dk1 dF_54 DX12_lays (i := 1) rfl rfl rfl) hl (by decide) rfl (fun ls hl => ?_)
  have lp1 : ∀ (nq : Nat) (i : Nat) (τ : Sg) (H : Heap) (locs : List Loc) (ls : Array Slot), n - i < nq → (i ≤ n) → (∀ x, (x < b ∨ b + n ≤ x) → τ.1 1 x = σ.1 1 x) → (TM τ) → (fr true [1] [] σ τ) → St G kc A s.heap shM ad τ H locs → lv_has ls 6 [(5, .int (nI i)), (0, .ref (ad 10)), (1, .int (nI a)), (2, .ref (ad 1)), (3, .int (nI b)), (4, .int (nI n))] → W pr l e { frames := 0, cells := 0, slots := 0, locals := 0 } s m ([.ref (ad 10), .int (nI a), .ref (ad 1), .int (nI b), .int (nI n)] : List Value).toArray below meth c H locs 0 0 (MQ below (va_Qv (fun σ1 => (∀ x, (x < b ∨ b + n ≤ x) → σ1.1 1 x = σ.1 1 x) ∧ TM σ1 ∧ fr true [1] [] σ σ1) (PoC G kc shM ad A) A) ([.ref (ad 10), .int (nI a), .ref (ad 1), .int (nI b), .int (nI n)] : List Value).toArray s 0 0 A) (F0 m 3 ls []) := by
    intro nq
    induction nq with
    | zero => intro i τ H locs ls hmu; exact absurd hmu (Nat.not_lt_zero _)
    | succ nq ih1 =>
      intro i τ H locs ls hmu hi hu hT_τ hF_τ hw hl
      refine lv_iload hx hb (dk1 dF_21 DX12_lays (i := 2) rfl rfl rfl) (lv_at hl 0 rfl) ?_
      refine lv_iload hx hb (dk1 dF_21 DX12_lays (i := 3) rfl rfl rfl) (lv_at hl 5 rfl) ?_
      refine lv_icmp_ge (tgt := 28) hx hb (dkS dF_162 DX12_lays (i := 4) rfl rfl rfl) (by decide) (fun c2 => ?_) (fun c2 => ?_)
      · simp (disch := omega) only [ta_lt, ta_le, ta_eq, tnI] at c2
        exact z_vret C0 hr hlk hw (⟨hu, hT_τ, hF_τ⟩) (dkP dF_177 DX12_lays (i := 17) rfl rfl)
      · simp (disch := omega) only [ta_lt, ta_le, ta_eq, tnI] at c2
        refine lv_aload_n hx hb (dkP dF_44 DX12_lays (i := 5) rfl rfl) rfl (lv_at hl 3 rfl) ?_
        refine lv_iload_n hx hb (dkP dF_29 DX12_lays (i := 6) rfl rfl) rfl (lv_at hl 4 rfl) ?_
        refine lv_iload hx hb (dk1 dF_21 DX12_lays (i := 7) rfl rfl rfl) (lv_at hl 0 rfl) ?_
        refine lv_iadd hx hb (dkP dF_96 DX12_lays (i := 8) rfl rfl) ?_
        refine z_top (y := nI (b + i)) (by simp only [fa_lit, nI_add, pk_mul]) ?_
        refine lv_aload_n hx hb (dkP dF_42 DX12_lays (i := 9) rfl rfl) rfl (lv_at hl 1 rfl) ?_
        refine lv_iload_n hx hb (dkP dF_27 DX12_lays (i := 10) rfl rfl) rfl (lv_at hl 2 rfl) ?_
        refine lv_iload hx hb (dk1 dF_21 DX12_lays (i := 11) rfl rfl rfl) (lv_at hl 0 rfl) ?_
        refine lv_iadd hx hb (dkP dF_96 DX12_lays (i := 12) rfl rfl) ?_
        refine z_top (y := nI (a + i)) (by simp only [fa_lit, nI_add, pk_mul]) ?_
        refine z_ialdN (n := 960) C0 hw 10 (a + i) rfl (by omega) (by decide) (dkP dF_46 DX12_lays (i := 13) rfl rfl) ?_
        obtain ⟨v3, ev3⟩ : ∃ y : Int32, τ.1 10 (a + i) = y := ⟨_, rfl⟩
        refine z_top (y := v3) ev3 ?_
        refine z_iastN (n := 414128) C0 hw 1 (b + i) rfl (by omega) (by decide) (dkP dF_79 DX12_lays (i := 14) rfl rfl) (fun H locs hw => ?_)
        have hT4 : TM (sI τ 1 (b + i) v3) := TM.w hT_τ (by rw [← ev3]; exact ht i (by omega) _ (hT_τ 10 _))
        have hF4 : fr true [1] [] σ (sI τ 1 (b + i) v3) := fr.w hF_τ (Or.inl ⟨by decide, by decide⟩) (fun _ _ => hkr i (by omega))
        refine lv_iinc (v := nI (i + 1)) (lv' := [(5, .int (nI (i + 1))), (0, .ref (ad 10)), (1, .int (nI a)), (2, .ref (ad 1)), (3, .int (nI b)), (4, .int (nI n))]) hx hb (dkI DX12_lays (i := 15) rfl rfl rfl rfl) hl (k := 0) rfl (nI_1 _) (by decide) rfl (fun ls hl => ?_)
        refine lv_goto (tgt := 3) hx hb (dkS dF_167 DX12_lays (i := 16) rfl rfl rfl) (by decide) ?_
        exact ih1 (i + 1) (sI τ 1 (b + i) v3) _ _ _ (by omega) (by omega) (fun x hx => (rd_n (by omega)).trans (hu x hx)) hT4 hF4 hw (lv_sub hl [0, 1, 2, 3, 4, 5] rfl)
  exact lp1 _ 0 σ _ _ _ (Nat.lt_succ_self _) (by omega) (fun _ _ => rfl) hT fr.refl hw (lv_sub hl [0, 1, 2, 3, 4, 5] rfl)
set_option maxRecDepth 100000 in
set_option maxHeartbeats 8000000 in
theorem c_X12_lays_12_15 (l : Launch) (G : va_G) (kc : KC) (ad : Nat → Nat) (σ : Sg) (a : Nat) (b : Nat) (n : Nat) (han : a + n ≤ 8) (hbn : b + n ≤ 8) (ht : ∀ i, i < n → ∀ v : Int, tyM 12 (a + i) v → tyM 15 (b + i) v) (hT : TM σ) : MV l G kc yX12_lays cX12_lays 6 0 0 [.ref (ad 12), .int (nI a), .ref (ad 15), .int (nI b), .int (nI n)] shM ad σ (fun σ1 => (∀ x, (x < b ∨ b + n ≤ x) → σ1.1 15 x = σ.1 15 x) ∧ TM σ1 ∧ fr true [15] [] σ σ1) := by
  intro sz
  refine z_body (y := yX12_lays) (n := 6) (av := [.ref (ad 12), .int (nI a), .ref (ad 15), .int (nI b), .int (nI n)]) (Qc := fun A => va_Qv (fun σ1 => (∀ x, (x < b ∨ b + n ≤ x) → σ1.1 15 x = σ.1 15 x) ∧ TM σ1 ∧ fr true [15] [] σ σ1) (PoC G kc shM ad A) A) (plainFor_of_name (by decide)) (Nat.le_of_ble_eq_true rfl) (fun pr e s m below meth c A C0 hr hlk hnm hw hRo ls hl => ?_) sz
  have hx := C0.1
  have hb := C0.2.1
  have hown := C0.2.2.2.1
  have hts := C0.2.2.2.2.1
  have hl : lv_has ls 6 [(0, .ref (ad 12)), (1, .int (nI a)), (2, .ref (ad 15)), (3, .int (nI b)), (4, .int (nI n))] := hl
  refine lv_iconst (v := 0) hx hb (dkP dF_3 DX12_lays (i := 0) rfl rfl) (by decide) ?_
  refine lv_istore (lv' := [(5, .int 0), (0, .ref (ad 12)), (1, .int (nI a)), (2, .ref (ad 15)), (3, .int (nI b)), (4, .int (nI n))]) hx hb (dk1 dF_54 DX12_lays (i := 1) rfl rfl rfl) hl (by decide) rfl (fun ls hl => ?_)
  have lp1 : ∀ (nq : Nat) (i : Nat) (τ : Sg) (H : Heap) (locs : List Loc) (ls : Array Slot), n - i < nq → (i ≤ n) → (∀ x, (x < b ∨ b + n ≤ x) → τ.1 15 x = σ.1 15 x) → (TM τ) → (fr true [15] [] σ τ) → St G kc A s.heap shM ad τ H locs → lv_has ls 6 [(5, .int (nI i)), (0, .ref (ad 12)), (1, .int (nI a)), (2, .ref (ad 15)), (3, .int (nI b)), (4, .int (nI n))] → W pr l e { frames := 0, cells := 0, slots := 0, locals := 0 } s m ([.ref (ad 12), .int (nI a), .ref (ad 15), .int (nI b), .int (nI n)] : List Value).toArray below meth c H locs 0 0 (MQ below (va_Qv (fun σ1 => (∀ x, (x < b ∨ b + n ≤ x) → σ1.1 15 x = σ.1 15 x) ∧ TM σ1 ∧ fr true [15] [] σ σ1) (PoC G kc shM ad A) A) ([.ref (ad 12), .int (nI a), .ref (ad 15), .int (nI b), .int (nI n)] : List Value).toArray s 0 0 A) (F0 m 3 ls []) := by
    intro nq
    induction nq with
    | zero => intro i τ H locs ls hmu; exact absurd hmu (Nat.not_lt_zero _)
    | succ nq ih1 =>
      intro i τ H locs ls hmu hi hu hT_τ hF_τ hw hl
      refine lv_iload hx hb (dk1 dF_21 DX12_lays (i := 2) rfl rfl rfl) (lv_at hl 0 rfl) ?_
      refine lv_iload hx hb (dk1 dF_21 DX12_lays (i := 3) rfl rfl rfl) (lv_at hl 5 rfl) ?_
      refine lv_icmp_ge (tgt := 28) hx hb (dkS dF_162 DX12_lays (i := 4) rfl rfl rfl) (by decide) (fun c2 => ?_) (fun c2 => ?_)
      · simp (disch := omega) only [ta_lt, ta_le, ta_eq, tnI] at c2
        exact z_vret C0 hr hlk hw (⟨hu, hT_τ, hF_τ⟩) (dkP dF_177 DX12_lays (i := 17) rfl rfl)
      · simp (disch := omega) only [ta_lt, ta_le, ta_eq, tnI] at c2
        refine lv_aload_n hx hb (dkP dF_44 DX12_lays (i := 5) rfl rfl) rfl (lv_at hl 3 rfl) ?_
        refine lv_iload_n hx hb (dkP dF_29 DX12_lays (i := 6) rfl rfl) rfl (lv_at hl 4 rfl) ?_
        refine lv_iload hx hb (dk1 dF_21 DX12_lays (i := 7) rfl rfl rfl) (lv_at hl 0 rfl) ?_
        refine lv_iadd hx hb (dkP dF_96 DX12_lays (i := 8) rfl rfl) ?_
        refine z_top (y := nI (b + i)) (by simp only [fa_lit, nI_add, pk_mul]) ?_
        refine lv_aload_n hx hb (dkP dF_42 DX12_lays (i := 9) rfl rfl) rfl (lv_at hl 1 rfl) ?_
        refine lv_iload_n hx hb (dkP dF_27 DX12_lays (i := 10) rfl rfl) rfl (lv_at hl 2 rfl) ?_
        refine lv_iload hx hb (dk1 dF_21 DX12_lays (i := 11) rfl rfl rfl) (lv_at hl 0 rfl) ?_
        refine lv_iadd hx hb (dkP dF_96 DX12_lays (i := 12) rfl rfl) ?_
        refine z_top (y := nI (a + i)) (by simp only [fa_lit, nI_add, pk_mul]) ?_
        refine z_ialdN (n := 8) C0 hw 12 (a + i) rfl (by omega) (by decide) (dkP dF_46 DX12_lays (i := 13) rfl rfl) ?_
        obtain ⟨v3, ev3⟩ : ∃ y : Int32, τ.1 12 (a + i) = y := ⟨_, rfl⟩
        refine z_top (y := v3) ev3 ?_
        refine z_iastN (n := 8) C0 hw 15 (b + i) rfl (by omega) (by decide) (dkP dF_79 DX12_lays (i := 14) rfl rfl) (fun H locs hw => ?_)
        have hT4 : TM (sI τ 15 (b + i) v3) := TM.w hT_τ (by rw [← ev3]; exact ht i (by omega) _ (hT_τ 12 _))
        have hF4 : fr true [15] [] σ (sI τ 15 (b + i) v3) := fr.w hF_τ (Or.inl ⟨by decide, by decide⟩) (fun _ h => absurd h (by decide))
        refine lv_iinc (v := nI (i + 1)) (lv' := [(5, .int (nI (i + 1))), (0, .ref (ad 12)), (1, .int (nI a)), (2, .ref (ad 15)), (3, .int (nI b)), (4, .int (nI n))]) hx hb (dkI DX12_lays (i := 15) rfl rfl rfl rfl) hl (k := 0) rfl (nI_1 _) (by decide) rfl (fun ls hl => ?_)
        refine lv_goto (tgt := 3) hx hb (dkS dF_167 DX12_lays (i := 16) rfl rfl rfl) (by decide) ?_
        exact ih1 (i + 1) (sI τ 15 (b + i) v3) _ _ _ (by omega) (by omega) (fun x hx => (rd_n (by omega)).trans (hu x hx)) hT4 hF4 hw (lv_sub hl [0, 1, 2, 3, 4, 5] rfl)
  exact lp1 _ 0 σ _ _ _ (Nat.lt_succ_self _) (by omega) (fun _ _ => rfl) hT fr.refl hw (lv_sub hl [0, 1, 2, 3, 4, 5] rfl)
set_option maxRecDepth 100000 in
set_option maxHeartbeats 8000000 in
theorem c_X12_lays_14_15 (l : Launch) (G : va_G) (kc : KC) (ad : Nat → Nat) (σ : Sg) (a : Nat) (b : Nat) (n : Nat) (han : a + n ≤ 8) (hbn : b + n ≤ 8) (ht : ∀ i, i < n → ∀ v : Int, tyM 14 (a + i) v → tyM 15 (b + i) v) (hT : TM σ) : MV l G kc yX12_lays cX12_lays 6 0 0 [.ref (ad 14), .int (nI a), .ref (ad 15), .int (nI b), .int (nI n)] shM ad σ (fun σ1 => (∀ x, (x < b ∨ b + n ≤ x) → σ1.1 15 x = σ.1 15 x) ∧ TM σ1 ∧ fr true [15] [] σ σ1) := by
  intro sz
  refine z_body (y := yX12_lays) (n := 6) (av := [.ref (ad 14), .int (nI a), .ref (ad 15), .int (nI b), .int (nI n)]) (Qc := fun A => va_Qv (fun σ1 => (∀ x, (x < b ∨ b + n ≤ x) → σ1.1 15 x = σ.1 15 x) ∧ TM σ1 ∧ fr true [15] [] σ σ1) (PoC G kc shM ad A) A) (plainFor_of_name (by decide)) (Nat.le_of_ble_eq_true rfl) (fun pr e s m below meth c A C0 hr hlk hnm hw hRo ls hl => ?_) sz
  have hx := C0.1
  have hb := C0.2.1
  have hown := C0.2.2.2.1
  have hts := C0.2.2.2.2.1
  have hl : lv_has ls 6 [(0, .ref (ad 14)), (1, .int (nI a)), (2, .ref (ad 15)), (3, .int (nI b)), (4, .int (nI n))] := hl
  refine lv_iconst (v := 0) hx hb (dkP dF_3 DX12_lays (i := 0) rfl rfl) (by decide) ?_
  refine lv_istore (lv' := [(5, .int 0), (0, .ref (ad 14)), (1, .int (nI a)), (2, .ref (ad 15)), (3, .int (nI b)), (4, .int (nI n))]) hx hb (dk1 dF_54 DX12_lays (i := 1) rfl rfl rfl) hl (by decide) rfl (fun ls hl => ?_)
  have lp1 : ∀ (nq : Nat) (i : Nat) (τ : Sg) (H : Heap) (locs : List Loc) (ls : Array Slot), n - i < nq → (i ≤ n) → (∀ x, (x < b ∨ b + n ≤ x) → τ.1 15 x = σ.1 15 x) → (TM τ) → (fr true [15] [] σ τ) → St G kc A s.heap shM ad τ H locs → lv_has ls 6 [(5, .int (nI i)), (0, .ref (ad 14)), (1, .int (nI a)), (2, .ref (ad 15)), (3, .int (nI b)), (4, .int (nI n))] → W pr l e { frames := 0, cells := 0, slots := 0, locals := 0 } s m ([.ref (ad 14), .int (nI a), .ref (ad 15), .int (nI b), .int (nI n)] : List Value).toArray below meth c H locs 0 0 (MQ below (va_Qv (fun σ1 => (∀ x, (x < b ∨ b + n ≤ x) → σ1.1 15 x = σ.1 15 x) ∧ TM σ1 ∧ fr true [15] [] σ σ1) (PoC G kc shM ad A) A) ([.ref (ad 14), .int (nI a), .ref (ad 15), .int (nI b), .int (nI n)] : List Value).toArray s 0 0 A) (F0 m 3 ls []) := by
    intro nq
    induction nq with
    | zero => intro i τ H locs ls hmu; exact absurd hmu (Nat.not_lt_zero _)
    | succ nq ih1 =>
      intro i τ H locs ls hmu hi hu hT_τ hF_τ hw hl
      refine lv_iload hx hb (dk1 dF_21 DX12_lays (i := 2) rfl rfl rfl) (lv_at hl 0 rfl) ?_
      refine lv_iload hx hb (dk1 dF_21 DX12_lays (i := 3) rfl rfl rfl) (lv_at hl 5 rfl) ?_
      refine lv_icmp_ge (tgt := 28) hx hb (dkS dF_162 DX12_lays (i := 4) rfl rfl rfl) (by decide) (fun c2 => ?_) (fun c2 => ?_)
      · simp (disch := omega) only [ta_lt, ta_le, ta_eq, tnI] at c2
        exact z_vret C0 hr hlk hw (⟨hu, hT_τ, hF_τ⟩) (dkP dF_177 DX12_lays (i := 17) rfl rfl)
      · simp (disch := omega) only [ta_lt, ta_le, ta_eq, tnI] at c2
        refine lv_aload_n hx hb (dkP dF_44 DX12_lays (i := 5) rfl rfl) rfl (lv_at hl 3 rfl) ?_
        refine lv_iload_n hx hb (dkP dF_29 DX12_lays (i := 6) rfl rfl) rfl (lv_at hl 4 rfl) ?_
        refine lv_iload hx hb (dk1 dF_21 DX12_lays (i := 7) rfl rfl rfl) (lv_at hl 0 rfl) ?_
        refine lv_iadd hx hb (dkP dF_96 DX12_lays (i := 8) rfl rfl) ?_
        refine z_top (y := nI (b + i)) (by simp only [fa_lit, nI_add, pk_mul]) ?_
        refine lv_aload_n hx hb (dkP dF_42 DX12_lays (i := 9) rfl rfl) rfl (lv_at hl 1 rfl) ?_
        refine lv_iload_n hx hb (dkP dF_27 DX12_lays (i := 10) rfl rfl) rfl (lv_at hl 2 rfl) ?_
        refine lv_iload hx hb (dk1 dF_21 DX12_lays (i := 11) rfl rfl rfl) (lv_at hl 0 rfl) ?_
        refine lv_iadd hx hb (dkP dF_96 DX12_lays (i := 12) rfl rfl) ?_
        refine z_top (y := nI (a + i)) (by simp only [fa_lit, nI_add, pk_mul]) ?_
        refine z_ialdN (n := 8) C0 hw 14 (a + i) rfl (by omega) (by decide) (dkP dF_46 DX12_lays (i := 13) rfl rfl) ?_
        obtain ⟨v3, ev3⟩ : ∃ y : Int32, τ.1 14 (a + i) = y := ⟨_, rfl⟩
        refine z_top (y := v3) ev3 ?_
        refine z_iastN (n := 8) C0 hw 15 (b + i) rfl (by omega) (by decide) (dkP dF_79 DX12_lays (i := 14) rfl rfl) (fun H locs hw => ?_)
        have hT4 : TM (sI τ 15 (b + i) v3) := TM.w hT_τ (by rw [← ev3]; exact ht i (by omega) _ (hT_τ 14 _))
        have hF4 : fr true [15] [] σ (sI τ 15 (b + i) v3) := fr.w hF_τ (Or.inl ⟨by decide, by decide⟩) (fun _ h => absurd h (by decide))
        refine lv_iinc (v := nI (i + 1)) (lv' := [(5, .int (nI (i + 1))), (0, .ref (ad 14)), (1, .int (nI a)), (2, .ref (ad 15)), (3, .int (nI b)), (4, .int (nI n))]) hx hb (dkI DX12_lays (i := 15) rfl rfl rfl rfl) hl (k := 0) rfl (nI_1 _) (by decide) rfl (fun ls hl => ?_)
        refine lv_goto (tgt := 3) hx hb (dkS dF_167 DX12_lays (i := 16) rfl rfl rfl) (by decide) ?_
        exact ih1 (i + 1) (sI τ 15 (b + i) v3) _ _ _ (by omega) (by omega) (fun x hx => (rd_n (by omega)).trans (hu x hx)) hT4 hF4 hw (lv_sub hl [0, 1, 2, 3, 4, 5] rfl)
  exact lp1 _ 0 σ _ _ _ (Nat.lt_succ_self _) (by omega) (fun _ _ => rfl) hT fr.refl hw (lv_sub hl [0, 1, 2, 3, 4, 5] rfl)
set_option maxRecDepth 100000 in
set_option maxHeartbeats 8000000 in
theorem c_X12_lays_13_18 (l : Launch) (G : va_G) (kc : KC) (ad : Nat → Nat) (σ : Sg) (a : Nat) (b : Nat) (n : Nat) (han : a + n ≤ 100) (hbn : b + n ≤ 20100) (ht : ∀ i, i < n → ∀ v : Int, tyM 13 (a + i) v → tyM 18 (b + i) v) (hT : TM σ) : MV l G kc yX12_lays cX12_lays 6 0 0 [.ref (ad 13), .int (nI a), .ref (ad 18), .int (nI b), .int (nI n)] shM ad σ (fun σ1 => (∀ x, (x < b ∨ b + n ≤ x) → σ1.1 18 x = σ.1 18 x) ∧ TM σ1 ∧ fr true [18] [] σ σ1) := by
  intro sz
  refine z_body (y := yX12_lays) (n := 6) (av := [.ref (ad 13), .int (nI a), .ref (ad 18), .int (nI b), .int (nI n)]) (Qc := fun A => va_Qv (fun σ1 => (∀ x, (x < b ∨ b + n ≤ x) → σ1.1 18 x = σ.1 18 x) ∧ TM σ1 ∧ fr true [18] [] σ σ1) (PoC G kc shM ad A) A) (plainFor_of_name (by decide)) (Nat.le_of_ble_eq_true rfl) (fun pr e s m below meth c A C0 hr hlk hnm hw hRo ls hl => ?_) sz
  have hx := C0.1
  have hb := C0.2.1
  have hown := C0.2.2.2.1
  have hts := C0.2.2.2.2.1
  have hl : lv_has ls 6 [(0, .ref (ad 13)), (1, .int (nI a)), (2, .ref (ad 18)), (3, .int (nI b)), (4, .int (nI n))] := hl
  refine lv_iconst (v := 0) hx hb (dkP dF_3 DX12_lays (i := 0) rfl rfl) (by decide) ?_
  refine lv_istore (lv' := [(5, .int 0), (0, .ref (ad 13)), (1, .int (nI a)), (2, .ref (ad 18)), (3, .int (nI b)), (4, .int (nI n))]) hx hb (dk1 dF_54 DX12_lays (i := 1) rfl rfl rfl) hl (by decide) rfl (fun ls hl => ?_)
  have lp1 : ∀ (nq : Nat) (i : Nat) (τ : Sg) (H : Heap) (locs : List Loc) (ls : Array Slot), n - i < nq → (i ≤ n) → (∀ x, (x < b ∨ b + n ≤ x) → τ.1 18 x = σ.1 18 x) → (TM τ) → (fr true [18] [] σ τ) → St G kc A s.heap shM ad τ H locs → lv_has ls 6 [(5, .int (nI i)), (0, .ref (ad 13)), (1, .int (nI a)), (2, .ref (ad 18)), (3, .int (nI b)), (4, .int (nI n))] → W pr l e { frames := 0, cells := 0, slots := 0, locals := 0 } s m ([.ref (ad 13), .int (nI a), .ref (ad 18), .int (nI b), .int (nI n)] : List Value).toArray below meth c H locs 0 0 (MQ below (va_Qv (fun σ1 => (∀ x, (x < b ∨ b + n ≤ x) → σ1.1 18 x = σ.1 18 x) ∧ TM σ1 ∧ fr true [18] [] σ σ1) (PoC G kc shM ad A) A) ([.ref (ad 13), .int (nI a), .ref (ad 18), .int (nI b), .int (nI n)] : List Value).toArray s 0 0 A) (F0 m 3 ls []) := by
    intro nq
    induction nq with
    | zero => intro i τ H locs ls hmu; exact absurd hmu (Nat.not_lt_zero _)
    | succ nq ih1 =>
      intro i τ H locs ls hmu hi hu hT_τ hF_τ hw hl
      refine lv_iload hx hb (dk1 dF_21 DX12_lays (i := 2) rfl rfl rfl) (lv_at hl 0 rfl) ?_
      refine lv_iload hx hb (dk1 dF_21 DX12_lays (i := 3) rfl rfl rfl) (lv_at hl 5 rfl) ?_
      refine lv_icmp_ge (tgt := 28) hx hb (dkS dF_162 DX12_lays (i := 4) rfl rfl rfl) (by decide) (fun c2 => ?_) (fun c2 => ?_)
      · simp (disch := omega) only [ta_lt, ta_le, ta_eq, tnI] at c2
        exact z_vret C0 hr hlk hw (⟨hu, hT_τ, hF_τ⟩) (dkP dF_177 DX12_lays (i := 17) rfl rfl)
      · simp (disch := omega) only [ta_lt, ta_le, ta_eq, tnI] at c2
        refine lv_aload_n hx hb (dkP dF_44 DX12_lays (i := 5) rfl rfl) rfl (lv_at hl 3 rfl) ?_
        refine lv_iload_n hx hb (dkP dF_29 DX12_lays (i := 6) rfl rfl) rfl (lv_at hl 4 rfl) ?_
        refine lv_iload hx hb (dk1 dF_21 DX12_lays (i := 7) rfl rfl rfl) (lv_at hl 0 rfl) ?_
        refine lv_iadd hx hb (dkP dF_96 DX12_lays (i := 8) rfl rfl) ?_
        refine z_top (y := nI (b + i)) (by simp only [fa_lit, nI_add, pk_mul]) ?_
        refine lv_aload_n hx hb (dkP dF_42 DX12_lays (i := 9) rfl rfl) rfl (lv_at hl 1 rfl) ?_
        refine lv_iload_n hx hb (dkP dF_27 DX12_lays (i := 10) rfl rfl) rfl (lv_at hl 2 rfl) ?_
        refine lv_iload hx hb (dk1 dF_21 DX12_lays (i := 11) rfl rfl rfl) (lv_at hl 0 rfl) ?_
        refine lv_iadd hx hb (dkP dF_96 DX12_lays (i := 12) rfl rfl) ?_
        refine z_top (y := nI (a + i)) (by simp only [fa_lit, nI_add, pk_mul]) ?_
        refine z_ialdN (n := 100) C0 hw 13 (a + i) rfl (by omega) (by decide) (dkP dF_46 DX12_lays (i := 13) rfl rfl) ?_
        obtain ⟨n3, hn3, en3⟩ := rngN (x := τ.1 13 (a + i)) (h := 23) (show 0 ≤ _ ∧ _ ≤ 23 from hT_τ 13 _)
        refine z_top (y := nI n3) en3 ?_
        refine z_iastN (n := 20100) C0 hw 18 (b + i) rfl (by omega) (by decide) (dkP dF_79 DX12_lays (i := 14) rfl rfl) (fun H locs hw => ?_)
        have hT4 : TM (sI τ 18 (b + i) (nI n3)) := TM.w hT_τ (by rw [← en3]; exact ht i (by omega) _ (hT_τ 13 _))
        have hF4 : fr true [18] [] σ (sI τ 18 (b + i) (nI n3)) := fr.w hF_τ (Or.inl ⟨by decide, by decide⟩) (fun _ h => absurd h (by decide))
        refine lv_iinc (v := nI (i + 1)) (lv' := [(5, .int (nI (i + 1))), (0, .ref (ad 13)), (1, .int (nI a)), (2, .ref (ad 18)), (3, .int (nI b)), (4, .int (nI n))]) hx hb (dkI DX12_lays (i := 15) rfl rfl rfl rfl) hl (k := 0) rfl (nI_1 _) (by decide) rfl (fun ls hl => ?_)
        refine lv_goto (tgt := 3) hx hb (dkS dF_167 DX12_lays (i := 16) rfl rfl rfl) (by decide) ?_
        exact ih1 (i + 1) (sI τ 18 (b + i) (nI n3)) _ _ _ (by omega) (by omega) (fun x hx => (rd_n (by omega)).trans (hu x hx)) hT4 hF4 hw (lv_sub hl [0, 1, 2, 3, 4, 5] rfl)
  exact lp1 _ 0 σ _ _ _ (Nat.lt_succ_self _) (by omega) (fun _ _ => rfl) hT fr.refl hw (lv_sub hl [0, 1, 2, 3, 4, 5] rfl)
set_option maxRecDepth 100000 in
set_option maxHeartbeats 8000000 in
theorem c_X12_lays_28_26 (l : Launch) (G : va_G) (kc : KC) (ad : Nat → Nat) (σ : Sg) (a : Nat) (b : Nat) (n : Nat) (han : a + n ≤ 72) (hbn : b + n ≤ 14400) (ht : ∀ i, i < n → ∀ v : Int, tyM 28 (a + i) v → tyM 26 (b + i) v) (hT : TM σ) : MV l G kc yX12_lays cX12_lays 6 0 0 [.ref (ad 28), .int (nI a), .ref (ad 26), .int (nI b), .int (nI n)] shM ad σ (fun σ1 => (∀ x, (x < b ∨ b + n ≤ x) → σ1.1 26 x = σ.1 26 x) ∧ TM σ1 ∧ fr true [26] [] σ σ1) := by
  intro sz
  refine z_body (y := yX12_lays) (n := 6) (av := [.ref (ad 28), .int (nI a), .ref (ad 26), .int (nI b), .int (nI n)]) (Qc := fun A => va_Qv (fun σ1 => (∀ x, (x < b ∨ b + n ≤ x) → σ1.1 26 x = σ.1 26 x) ∧ TM σ1 ∧ fr true [26] [] σ σ1) (PoC G kc shM ad A) A) (plainFor_of_name (by decide)) (Nat.le_of_ble_eq_true rfl) (fun pr e s m below meth c A C0 hr hlk hnm hw hRo ls hl => ?_) sz
  have hx := C0.1
  have hb := C0.2.1
  have hown := C0.2.2.2.1
  have hts := C0.2.2.2.2.1
  have hl : lv_has ls 6 [(0, .ref (ad 28)), (1, .int (nI a)), (2, .ref (ad 26)), (3, .int (nI b)), (4, .int (nI n))] := hl
  refine lv_iconst (v := 0) hx hb (dkP dF_3 DX12_lays (i := 0) rfl rfl) (by decide) ?_
  refine lv_istore (lv' := [(5, .int 0), (0, .ref (ad 28)), (1, .int (nI a)), (2, .ref (ad 26)), (3, .int (nI b)), (4, .int (nI n))]) hx hb (dk1 dF_54 DX12_lays (i := 1) rfl rfl rfl) hl (by decide) rfl (fun ls hl => ?_)
  have lp1 : ∀ (nq : Nat) (i : Nat) (τ : Sg) (H : Heap) (locs : List Loc) (ls : Array Slot), n - i < nq → (i ≤ n) → (∀ x, (x < b ∨ b + n ≤ x) → τ.1 26 x = σ.1 26 x) → (TM τ) → (fr true [26] [] σ τ) → St G kc A s.heap shM ad τ H locs → lv_has ls 6 [(5, .int (nI i)), (0, .ref (ad 28)), (1, .int (nI a)), (2, .ref (ad 26)), (3, .int (nI b)), (4, .int (nI n))] → W pr l e { frames := 0, cells := 0, slots := 0, locals := 0 } s m ([.ref (ad 28), .int (nI a), .ref (ad 26), .int (nI b), .int (nI n)] : List Value).toArray below meth c H locs 0 0 (MQ below (va_Qv (fun σ1 => (∀ x, (x < b ∨ b + n ≤ x) → σ1.1 26 x = σ.1 26 x) ∧ TM σ1 ∧ fr true [26] [] σ σ1) (PoC G kc shM ad A) A) ([.ref (ad 28), .int (nI a), .ref (ad 26), .int (nI b), .int (nI n)] : List Value).toArray s 0 0 A) (F0 m 3 ls []) := by
    intro nq
    induction nq with
    | zero => intro i τ H locs ls hmu; exact absurd hmu (Nat.not_lt_zero _)
    | succ nq ih1 =>
      intro i τ H locs ls hmu hi hu hT_τ hF_τ hw hl
      refine lv_iload hx hb (dk1 dF_21 DX12_lays (i := 2) rfl rfl rfl) (lv_at hl 0 rfl) ?_
      refine lv_iload hx hb (dk1 dF_21 DX12_lays (i := 3) rfl rfl rfl) (lv_at hl 5 rfl) ?_
      refine lv_icmp_ge (tgt := 28) hx hb (dkS dF_162 DX12_lays (i := 4) rfl rfl rfl) (by decide) (fun c2 => ?_) (fun c2 => ?_)
      · simp (disch := omega) only [ta_lt, ta_le, ta_eq, tnI] at c2
        exact z_vret C0 hr hlk hw (⟨hu, hT_τ, hF_τ⟩) (dkP dF_177 DX12_lays (i := 17) rfl rfl)
      · simp (disch := omega) only [ta_lt, ta_le, ta_eq, tnI] at c2
        refine lv_aload_n hx hb (dkP dF_44 DX12_lays (i := 5) rfl rfl) rfl (lv_at hl 3 rfl) ?_
        refine lv_iload_n hx hb (dkP dF_29 DX12_lays (i := 6) rfl rfl) rfl (lv_at hl 4 rfl) ?_
        refine lv_iload hx hb (dk1 dF_21 DX12_lays (i := 7) rfl rfl rfl) (lv_at hl 0 rfl) ?_
        refine lv_iadd hx hb (dkP dF_96 DX12_lays (i := 8) rfl rfl) ?_
        refine z_top (y := nI (b + i)) (by simp only [fa_lit, nI_add, pk_mul]) ?_
        refine lv_aload_n hx hb (dkP dF_42 DX12_lays (i := 9) rfl rfl) rfl (lv_at hl 1 rfl) ?_
        refine lv_iload_n hx hb (dkP dF_27 DX12_lays (i := 10) rfl rfl) rfl (lv_at hl 2 rfl) ?_
        refine lv_iload hx hb (dk1 dF_21 DX12_lays (i := 11) rfl rfl rfl) (lv_at hl 0 rfl) ?_
        refine lv_iadd hx hb (dkP dF_96 DX12_lays (i := 12) rfl rfl) ?_
        refine z_top (y := nI (a + i)) (by simp only [fa_lit, nI_add, pk_mul]) ?_
        refine z_ialdN (n := 72) C0 hw 28 (a + i) rfl (by omega) (by decide) (dkP dF_46 DX12_lays (i := 13) rfl rfl) ?_
        obtain ⟨v3, ev3⟩ : ∃ y : Int32, τ.1 28 (a + i) = y := ⟨_, rfl⟩
        refine z_top (y := v3) ev3 ?_
        refine z_iastN (n := 14400) C0 hw 26 (b + i) rfl (by omega) (by decide) (dkP dF_79 DX12_lays (i := 14) rfl rfl) (fun H locs hw => ?_)
        have hT4 : TM (sI τ 26 (b + i) v3) := TM.w hT_τ (by rw [← ev3]; exact ht i (by omega) _ (hT_τ 28 _))
        have hF4 : fr true [26] [] σ (sI τ 26 (b + i) v3) := fr.w hF_τ (Or.inl ⟨by decide, by decide⟩) (fun _ h => absurd h (by decide))
        refine lv_iinc (v := nI (i + 1)) (lv' := [(5, .int (nI (i + 1))), (0, .ref (ad 28)), (1, .int (nI a)), (2, .ref (ad 26)), (3, .int (nI b)), (4, .int (nI n))]) hx hb (dkI DX12_lays (i := 15) rfl rfl rfl rfl) hl (k := 0) rfl (nI_1 _) (by decide) rfl (fun ls hl => ?_)
        refine lv_goto (tgt := 3) hx hb (dkS dF_167 DX12_lays (i := 16) rfl rfl rfl) (by decide) ?_
        exact ih1 (i + 1) (sI τ 26 (b + i) v3) _ _ _ (by omega) (by omega) (fun x hx => (rd_n (by omega)).trans (hu x hx)) hT4 hF4 hw (lv_sub hl [0, 1, 2, 3, 4, 5] rfl)
  exact lp1 _ 0 σ _ _ _ (Nat.lt_succ_self _) (by omega) (fun _ _ => rfl) hT fr.refl hw (lv_sub hl [0, 1, 2, 3, 4, 5] rfl)
set_option maxRecDepth 100000 in
set_option maxHeartbeats 8000000 in
theorem c_X12_lays_29_28 (l : Launch) (G : va_G) (kc : KC) (ad : Nat → Nat) (σ : Sg) (a : Nat) (b : Nat) (n : Nat) (han : a + n ≤ 9) (hbn : b + n ≤ 72) (ht : ∀ i, i < n → ∀ v : Int, tyM 29 (a + i) v → tyM 28 (b + i) v) (hT : TM σ) : MV l G kc yX12_lays cX12_lays 6 0 0 [.ref (ad 29), .int (nI a), .ref (ad 28), .int (nI b), .int (nI n)] shM ad σ (fun σ1 => (∀ x, (x < b ∨ b + n ≤ x) → σ1.1 28 x = σ.1 28 x) ∧ TM σ1 ∧ fr true [28] [] σ σ1) := by
  intro sz
  refine z_body (y := yX12_lays) (n := 6) (av := [.ref (ad 29), .int (nI a), .ref (ad 28), .int (nI b), .int (nI n)]) (Qc := fun A => va_Qv (fun σ1 => (∀ x, (x < b ∨ b + n ≤ x) → σ1.1 28 x = σ.1 28 x) ∧ TM σ1 ∧ fr true [28] [] σ σ1) (PoC G kc shM ad A) A) (plainFor_of_name (by decide)) (Nat.le_of_ble_eq_true rfl) (fun pr e s m below meth c A C0 hr hlk hnm hw hRo ls hl => ?_) sz
  have hx := C0.1
  have hb := C0.2.1
  have hown := C0.2.2.2.1
  have hts := C0.2.2.2.2.1
  have hl : lv_has ls 6 [(0, .ref (ad 29)), (1, .int (nI a)), (2, .ref (ad 28)), (3, .int (nI b)), (4, .int (nI n))] := hl
  refine lv_iconst (v := 0) hx hb (dkP dF_3 DX12_lays (i := 0) rfl rfl) (by decide) ?_
  refine lv_istore (lv' := [(5, .int 0), (0, .ref (ad 29)), (1, .int (nI a)), (2, .ref (ad 28)), (3, .int (nI b)), (4, .int (nI n))]) hx hb (dk1 dF_54 DX12_lays (i := 1) rfl rfl rfl) hl (by decide) rfl (fun ls hl => ?_)
  have lp1 : ∀ (nq : Nat) (i : Nat) (τ : Sg) (H : Heap) (locs : List Loc) (ls : Array Slot), n - i < nq → (i ≤ n) → (∀ x, (x < b ∨ b + n ≤ x) → τ.1 28 x = σ.1 28 x) → (TM τ) → (fr true [28] [] σ τ) → St G kc A s.heap shM ad τ H locs → lv_has ls 6 [(5, .int (nI i)), (0, .ref (ad 29)), (1, .int (nI a)), (2, .ref (ad 28)), (3, .int (nI b)), (4, .int (nI n))] → W pr l e { frames := 0, cells := 0, slots := 0, locals := 0 } s m ([.ref (ad 29), .int (nI a), .ref (ad 28), .int (nI b), .int (nI n)] : List Value).toArray below meth c H locs 0 0 (MQ below (va_Qv (fun σ1 => (∀ x, (x < b ∨ b + n ≤ x) → σ1.1 28 x = σ.1 28 x) ∧ TM σ1 ∧ fr true [28] [] σ σ1) (PoC G kc shM ad A) A) ([.ref (ad 29), .int (nI a), .ref (ad 28), .int (nI b), .int (nI n)] : List Value).toArray s 0 0 A) (F0 m 3 ls []) := by
    intro nq
    induction nq with
    | zero => intro i τ H locs ls hmu; exact absurd hmu (Nat.not_lt_zero _)
    | succ nq ih1 =>
      intro i τ H locs ls hmu hi hu hT_τ hF_τ hw hl
      refine lv_iload hx hb (dk1 dF_21 DX12_lays (i := 2) rfl rfl rfl) (lv_at hl 0 rfl) ?_
      refine lv_iload hx hb (dk1 dF_21 DX12_lays (i := 3) rfl rfl rfl) (lv_at hl 5 rfl) ?_
      refine lv_icmp_ge (tgt := 28) hx hb (dkS dF_162 DX12_lays (i := 4) rfl rfl rfl) (by decide) (fun c2 => ?_) (fun c2 => ?_)
      · simp (disch := omega) only [ta_lt, ta_le, ta_eq, tnI] at c2
        exact z_vret C0 hr hlk hw (⟨hu, hT_τ, hF_τ⟩) (dkP dF_177 DX12_lays (i := 17) rfl rfl)
      · simp (disch := omega) only [ta_lt, ta_le, ta_eq, tnI] at c2
        refine lv_aload_n hx hb (dkP dF_44 DX12_lays (i := 5) rfl rfl) rfl (lv_at hl 3 rfl) ?_
        refine lv_iload_n hx hb (dkP dF_29 DX12_lays (i := 6) rfl rfl) rfl (lv_at hl 4 rfl) ?_
        refine lv_iload hx hb (dk1 dF_21 DX12_lays (i := 7) rfl rfl rfl) (lv_at hl 0 rfl) ?_
        refine lv_iadd hx hb (dkP dF_96 DX12_lays (i := 8) rfl rfl) ?_
        refine z_top (y := nI (b + i)) (by simp only [fa_lit, nI_add, pk_mul]) ?_
        refine lv_aload_n hx hb (dkP dF_42 DX12_lays (i := 9) rfl rfl) rfl (lv_at hl 1 rfl) ?_
        refine lv_iload_n hx hb (dkP dF_27 DX12_lays (i := 10) rfl rfl) rfl (lv_at hl 2 rfl) ?_
        refine lv_iload hx hb (dk1 dF_21 DX12_lays (i := 11) rfl rfl rfl) (lv_at hl 0 rfl) ?_
        refine lv_iadd hx hb (dkP dF_96 DX12_lays (i := 12) rfl rfl) ?_
        refine z_top (y := nI (a + i)) (by simp only [fa_lit, nI_add, pk_mul]) ?_
        refine z_ialdN (n := 9) C0 hw 29 (a + i) rfl (by omega) (by decide) (dkP dF_46 DX12_lays (i := 13) rfl rfl) ?_
        obtain ⟨v3, ev3⟩ : ∃ y : Int32, τ.1 29 (a + i) = y := ⟨_, rfl⟩
        refine z_top (y := v3) ev3 ?_
        refine z_iastN (n := 72) C0 hw 28 (b + i) rfl (by omega) (by decide) (dkP dF_79 DX12_lays (i := 14) rfl rfl) (fun H locs hw => ?_)
        have hT4 : TM (sI τ 28 (b + i) v3) := TM.w hT_τ (by rw [← ev3]; exact ht i (by omega) _ (hT_τ 29 _))
        have hF4 : fr true [28] [] σ (sI τ 28 (b + i) v3) := fr.w hF_τ (Or.inl ⟨by decide, by decide⟩) (fun _ h => absurd h (by decide))
        refine lv_iinc (v := nI (i + 1)) (lv' := [(5, .int (nI (i + 1))), (0, .ref (ad 29)), (1, .int (nI a)), (2, .ref (ad 28)), (3, .int (nI b)), (4, .int (nI n))]) hx hb (dkI DX12_lays (i := 15) rfl rfl rfl rfl) hl (k := 0) rfl (nI_1 _) (by decide) rfl (fun ls hl => ?_)
        refine lv_goto (tgt := 3) hx hb (dkS dF_167 DX12_lays (i := 16) rfl rfl rfl) (by decide) ?_
        exact ih1 (i + 1) (sI τ 28 (b + i) v3) _ _ _ (by omega) (by omega) (fun x hx => (rd_n (by omega)).trans (hu x hx)) hT4 hF4 hw (lv_sub hl [0, 1, 2, 3, 4, 5] rfl)
  exact lp1 _ 0 σ _ _ _ (Nat.lt_succ_self _) (by omega) (fun _ _ => rfl) hT fr.refl hw (lv_sub hl [0, 1, 2, 3, 4, 5] rfl)
set_option maxRecDepth 100000 in
set_option maxHeartbeats 8000000 in
theorem c_X12_lays_28_1 (l : Launch) (G : va_G) (kc : KC) (ad : Nat → Nat) (σ : Sg) (a : Nat) (b : Nat) (n : Nat) (han : a + n ≤ 72) (hbn : b + n ≤ 414128) (ht : ∀ i, i < n → ∀ v : Int, tyM 28 (a + i) v → tyM 1 (b + i) v) (hkr : ∀ i, i < n → ¬ KR (b + i)) (hT : TM σ) : MV l G kc yX12_lays cX12_lays 6 0 0 [.ref (ad 28), .int (nI a), .ref (ad 1), .int (nI b), .int (nI n)] shM ad σ (fun σ1 => (∀ x, (x < b ∨ b + n ≤ x) → σ1.1 1 x = σ.1 1 x) ∧ TM σ1 ∧ fr true [1] [] σ σ1) := by
  intro sz
  refine z_body (y := yX12_lays) (n := 6) (av := [.ref (ad 28), .int (nI a), .ref (ad 1), .int (nI b), .int (nI n)]) (Qc := fun A => va_Qv (fun σ1 => (∀ x, (x < b ∨ b + n ≤ x) → σ1.1 1 x = σ.1 1 x) ∧ TM σ1 ∧ fr true [1] [] σ σ1) (PoC G kc shM ad A) A) (plainFor_of_name (by decide)) (Nat.le_of_ble_eq_true rfl) (fun pr e s m below meth c A C0 hr hlk hnm hw hRo ls hl => ?_) sz
  have hx := C0.1
  have hb := C0.2.1
  have hown := C0.2.2.2.1
  have hts := C0.2.2.2.2.1
  have hl : lv_has ls 6 [(0, .ref (ad 28)), (1, .int (nI a)), (2, .ref (ad 1)), (3, .int (nI b)), (4, .int (nI n))] := hl
  refine lv_iconst (v := 0) hx hb (dkP dF_3 DX12_lays (i := 0) rfl rfl) (by decide) ?_
  refine lv_istore (lv' := [(5, .int 0), (0, .ref (ad 28)), (1, .int (nI a)), (2, .ref (ad 1)), (3, .int (nI b)), (4, .int (nI n))]) hx hb (dk1 dF_54 DX12_lays (i := 1) rfl rfl rfl) hl (by decide) rfl (fun ls hl => ?_)
  have lp1 : ∀ (nq : Nat) (i : Nat) (τ : Sg) (H : Heap) (locs : List Loc) (ls : Array Slot), n - i < nq → (i ≤ n) → (∀ x, (x < b ∨ b + n ≤ x) → τ.1 1 x = σ.1 1 x) → (TM τ) → (fr true [1] [] σ τ) → St G kc A s.heap shM ad τ H locs → lv_has ls 6 [(5, .int (nI i)), (0, .ref (ad 28)), (1, .int (nI a)), (2, .ref (ad 1)), (3, .int (nI b)), (4, .int (nI n))] → W pr l e { frames := 0, cells := 0, slots := 0, locals := 0 } s m ([.ref (ad 28), .int (nI a), .ref (ad 1), .int (nI b), .int (nI n)] : List Value).toArray below meth c H locs 0 0 (MQ below (va_Qv (fun σ1 => (∀ x, (x < b ∨ b + n ≤ x) → σ1.1 1 x = σ.1 1 x) ∧ TM σ1 ∧ fr true [1] [] σ σ1) (PoC G kc shM ad A) A) ([.ref (ad 28), .int (nI a), .ref (ad 1), .int (nI b), .int (nI n)] : List Value).toArray s 0 0 A) (F0 m 3 ls []) := by
    intro nq
    induction nq with
    | zero => intro i τ H locs ls hmu; exact absurd hmu (Nat.not_lt_zero _)
    | succ nq ih1 =>
      intro i τ H locs ls hmu hi hu hT_τ hF_τ hw hl
      refine lv_iload hx hb (dk1 dF_21 DX12_lays (i := 2) rfl rfl rfl) (lv_at hl 0 rfl) ?_
      refine lv_iload hx hb (dk1 dF_21 DX12_lays (i := 3) rfl rfl rfl) (lv_at hl 5 rfl) ?_
      refine lv_icmp_ge (tgt := 28) hx hb (dkS dF_162 DX12_lays (i := 4) rfl rfl rfl) (by decide) (fun c2 => ?_) (fun c2 => ?_)
      · simp (disch := omega) only [ta_lt, ta_le, ta_eq, tnI] at c2
        exact z_vret C0 hr hlk hw (⟨hu, hT_τ, hF_τ⟩) (dkP dF_177 DX12_lays (i := 17) rfl rfl)
      · simp (disch := omega) only [ta_lt, ta_le, ta_eq, tnI] at c2
        refine lv_aload_n hx hb (dkP dF_44 DX12_lays (i := 5) rfl rfl) rfl (lv_at hl 3 rfl) ?_
        refine lv_iload_n hx hb (dkP dF_29 DX12_lays (i := 6) rfl rfl) rfl (lv_at hl 4 rfl) ?_
        refine lv_iload hx hb (dk1 dF_21 DX12_lays (i := 7) rfl rfl rfl) (lv_at hl 0 rfl) ?_
        refine lv_iadd hx hb (dkP dF_96 DX12_lays (i := 8) rfl rfl) ?_
        refine z_top (y := nI (b + i)) (by simp only [fa_lit, nI_add, pk_mul]) ?_
        refine lv_aload_n hx hb (dkP dF_42 DX12_lays (i := 9) rfl rfl) rfl (lv_at hl 1 rfl) ?_
        refine lv_iload_n hx hb (dkP dF_27 DX12_lays (i := 10) rfl rfl) rfl (lv_at hl 2 rfl) ?_
        refine lv_iload hx hb (dk1 dF_21 DX12_lays (i := 11) rfl rfl rfl) (lv_at hl 0 rfl) ?_
        refine lv_iadd hx hb (dkP dF_96 DX12_lays (i := 12) rfl rfl) ?_
        refine z_top (y := nI (a + i)) (by simp only [fa_lit, nI_add, pk_mul]) ?_
        refine z_ialdN (n := 72) C0 hw 28 (a + i) rfl (by omega) (by decide) (dkP dF_46 DX12_lays (i := 13) rfl rfl) ?_
        obtain ⟨v3, ev3⟩ : ∃ y : Int32, τ.1 28 (a + i) = y := ⟨_, rfl⟩
        refine z_top (y := v3) ev3 ?_
        refine z_iastN (n := 414128) C0 hw 1 (b + i) rfl (by omega) (by decide) (dkP dF_79 DX12_lays (i := 14) rfl rfl) (fun H locs hw => ?_)
        have hT4 : TM (sI τ 1 (b + i) v3) := TM.w hT_τ (by rw [← ev3]; exact ht i (by omega) _ (hT_τ 28 _))
        have hF4 : fr true [1] [] σ (sI τ 1 (b + i) v3) := fr.w hF_τ (Or.inl ⟨by decide, by decide⟩) (fun _ _ => hkr i (by omega))
        refine lv_iinc (v := nI (i + 1)) (lv' := [(5, .int (nI (i + 1))), (0, .ref (ad 28)), (1, .int (nI a)), (2, .ref (ad 1)), (3, .int (nI b)), (4, .int (nI n))]) hx hb (dkI DX12_lays (i := 15) rfl rfl rfl rfl) hl (k := 0) rfl (nI_1 _) (by decide) rfl (fun ls hl => ?_)
        refine lv_goto (tgt := 3) hx hb (dkS dF_167 DX12_lays (i := 16) rfl rfl rfl) (by decide) ?_
        exact ih1 (i + 1) (sI τ 1 (b + i) v3) _ _ _ (by omega) (by omega) (fun x hx => (rd_n (by omega)).trans (hu x hx)) hT4 hF4 hw (lv_sub hl [0, 1, 2, 3, 4, 5] rfl)
  exact lp1 _ 0 σ _ _ _ (Nat.lt_succ_self _) (by omega) (fun _ _ => rfl) hT fr.refl hw (lv_sub hl [0, 1, 2, 3, 4, 5] rfl)
set_option maxRecDepth 100000 in
set_option maxHeartbeats 8000000 in
theorem c_X12_begins (l : Launch) (G : va_G) (kc : KC) (ad : Nat → Nat) (σ : Sg)  (hT : TM σ) : MV l G kc yX12_begins cX12_begins 1 2 46 [.ref (ad 0)] shM ad σ (fun σ1 => TM σ1 ∧ fr true [] [5, 7, 8, 9, 10, 11, 12, 13] σ σ1) := by
  intro sz
  refine z_body (y := yX12_begins) (n := 1) (av := [.ref (ad 0)]) (Qc := fun A => va_Qv (fun σ1 => TM σ1 ∧ fr true [] [5, 7, 8, 9, 10, 11, 12, 13] σ σ1) (PoC G kc shM ad A) A) (plainFor_of_name (by decide)) (Nat.le_of_ble_eq_true rfl) (fun pr e s m below meth c A C0 hr hlk hnm hw hRo ls hl => ?_) sz
  have hx := C0.1
  have hb := C0.2.1
  have hown := C0.2.2.2.1
  have hts := C0.2.2.2.2.1
  have hl : lv_has ls 1 [(0, .ref (ad 0))] := hl
  refine lv_aload_n hx hb (dkP dF_42 DX12_begins (i := 0) rfl rfl) rfl (lv_at hl 0 rfl) ?_
  refine lv_aload_n hx hb (dkP dF_42 DX12_begins (i := 1) rfl rfl) rfl (lv_at hl 0 rfl) ?_
  refine z_gi C0 hw 0 5 rfl fl_X12_147 (dk2 dF_180 DX12_begins (i := 2) rfl rfl rfl) ?_
  obtain ⟨n1, hn1, en1⟩ := rngN (x := σ.1 0 5) (h := 600) (show 0 ≤ _ ∧ _ ≤ 600 from hT 0 5)
  refine z_top (y := nI n1) en1 ?_
  refine z_pi C0 hw 0 7 rfl fp_X12_150 (dk2 dF_181 DX12_begins (i := 3) rfl rfl rfl) (fun H locs hw => ?_)
  have hT2 : TM (sI σ 0 7 (nI n1)) := TM.w hT (show 0 ≤ _ ∧ _ ≤ 600 from by (try simp (disch := omega) only [ta_lt, ta_le, ta_eq, tb_lt, tb_le, tb_eq, tw, tnI, tsub1, tsv, tn32 1 (by decide), tnj 1 (by decide), tl32 0 (by decide), tl64 0 (by decide)]); omega)
  have hF2 : fr true [] [5, 7, 8, 9, 10, 11, 12, 13] σ (sI σ 0 7 (nI n1)) := fr.w fr.refl (Or.inr ⟨rfl, by decide⟩) (fun _ h => absurd h (by decide))
  refine lv_aload_n hx hb (dkP dF_42 DX12_begins (i := 4) rfl rfl) rfl (lv_at hl 0 rfl) ?_
  refine lv_iconst (v := 0) hx hb (dkP dF_3 DX12_begins (i := 5) rfl rfl) (by decide) ?_
  refine z_pi C0 hw 0 5 rfl fp_X12_147 (dk2 dF_181 DX12_begins (i := 6) rfl rfl rfl) (fun H locs hw => ?_)
  have hT3 : TM (sI (sI σ 0 7 (nI n1)) 0 5 0) := TM.w hT2 (show 0 ≤ _ ∧ _ ≤ 600 from by (try simp (disch := omega) only [ta_lt, ta_le, ta_eq, tb_lt, tb_le, tb_eq, tw, tnI, tsub1, tsv, tn32 1 (by decide), tnj 1 (by decide), tl32 0 (by decide), tl64 0 (by decide)]); omega)
  have hF3 : fr true [] [5, 7, 8, 9, 10, 11, 12, 13] σ (sI (sI σ 0 7 (nI n1)) 0 5 0) := fr.w hF2 (Or.inr ⟨rfl, by decide⟩) (fun _ h => absurd h (by decide))
  refine lv_aload_n hx hb (dkP dF_42 DX12_begins (i := 7) rfl rfl) rfl (lv_at hl 0 rfl) ?_
  refine lv_iconst (v := 0) hx hb (dkP dF_3 DX12_begins (i := 8) rfl rfl) (by decide) ?_
  refine z_pi C0 hw 0 8 rfl fp_X12_153 (dk2 dF_181 DX12_begins (i := 9) rfl rfl rfl) (fun H locs hw => ?_)
  have hT4 : TM (sI (sI (sI σ 0 7 (nI n1)) 0 5 0) 0 8 0) := TM.w hT3 (show 0 ≤ _ ∧ _ ≤ 600 from by have hs7 := (show 0 ≤ ((sI (sI σ 0 7 (nI n1)) 0 5 0).1 0 7).toInt ∧ ((sI (sI σ 0 7 (nI n1)) 0 5 0).1 0 7).toInt ≤ 600 from hT3 0 7); (try simp (disch := omega) only [ta_lt, ta_le, ta_eq, tb_lt, tb_le, tb_eq, tw, tnI, tsub1, tsv, tn32 1 (by decide), tnj 1 (by decide), tl32 0 (by decide), tl64 0 (by decide)]); omega)
  have hF4 : fr true [] [5, 7, 8, 9, 10, 11, 12, 13] σ (sI (sI (sI σ 0 7 (nI n1)) 0 5 0) 0 8 0) := fr.w hF3 (Or.inr ⟨rfl, by decide⟩) (fun _ h => absurd h (by decide))
  refine lv_aload_n hx hb (dkP dF_42 DX12_begins (i := 10) rfl rfl) rfl (lv_at hl 0 rfl) ?_
  refine lv_iconst (v := 0) hx hb (dkP dF_3 DX12_begins (i := 11) rfl rfl) (by decide) ?_
  refine z_pi C0 hw 0 12 rfl fp_X12_187 (dk2 dF_181 DX12_begins (i := 12) rfl rfl rfl) (fun H locs hw => ?_)
  have hT5 : TM (sI (sI (sI (sI σ 0 7 (nI n1)) 0 5 0) 0 8 0) 0 12 0) := TM.w hT4 (show True from trivial)
  have hF5 : fr true [] [5, 7, 8, 9, 10, 11, 12, 13] σ (sI (sI (sI (sI σ 0 7 (nI n1)) 0 5 0) 0 8 0) 0 12 0) := fr.w hF4 (Or.inr ⟨rfl, by decide⟩) (fun _ h => absurd h (by decide))
  refine lv_aload_n hx hb (dkP dF_42 DX12_begins (i := 13) rfl rfl) rfl (lv_at hl 0 rfl) ?_
  refine lv_iconst (v := (-1)) hx hb (dkP dF_2 DX12_begins (i := 14) rfl rfl) (by decide) ?_
  refine z_pi C0 hw 0 13 rfl fp_X12_39 (dk2 dF_181 DX12_begins (i := 15) rfl rfl rfl) (fun H locs hw => ?_)
  have hT6 : TM (sI (sI (sI (sI (sI σ 0 7 (nI n1)) 0 5 0) 0 8 0) 0 12 0) 0 13 (-1)) := TM.w hT5 (show True from trivial)
  have hF6 : fr true [] [5, 7, 8, 9, 10, 11, 12, 13] σ (sI (sI (sI (sI (sI σ 0 7 (nI n1)) 0 5 0) 0 8 0) 0 12 0) 0 13 (-1)) := fr.w hF5 (Or.inr ⟨rfl, by decide⟩) (fun _ h => absurd h (by decide))
  refine lv_aload_n hx hb (dkP dF_42 DX12_begins (i := 16) rfl rfl) rfl (lv_at hl 0 rfl) ?_
  refine zk_V hw (zr_V (As := []) (rest := []) C0 (c_X12_step l G kc ad (sI (sI (sI (sI (sI σ 0 7 (nI n1)) 0 5 0) 0 8 0) 0 12 0) 0 13 (-1)) hT6 _) cv_X12_step lk_X12_208 (zp_V C0 hRo hw 0 rfl rfl rfl) rfl hl.1 rfl ⟨by decide, by decide⟩ (Nat.le_of_ble_eq_true rfl) (dk2 dF_182 DX12_begins (i := 17) rfl rfl rfl) ⟨Nat.le_refl _, Nat.le_refl _⟩) (fun s7 H locs hp hw => ?_)
  obtain ⟨hT7, hG7⟩ := hp
  have hF7 : fr true [] [5, 7, 8, 9, 10, 11, 12, 13] σ s7 := fr.t hF6 hG7 (by decide) (by decide) (by decide)
  exact z_vret C0 hr hlk hw (⟨hT7, hF7⟩) (dkP dF_177 DX12_begins (i := 18) rfl rfl)
