theorem JM.c {σ τ : Sg} (h : JM σ) (hw : ∀ k, 413544 ≤ k → k < 413608 → τ.1 1 k = σ.1 1 k) (hi : τ.1 2 = σ.1 2) (hh : τ.1 3 = σ.1 3) : JM τ := by
  obtain ⟨⟨rk, hrk⟩, h2⟩ := h
  refine ⟨⟨rk, fun p hp q hq he => hrk p hp q hq ?_⟩, ?_⟩
  · rw [← hw _ (by omega) (by omega)]
    exact he
  · rw [hi, hh]
    exact h2
theorem JM.f {S F : List Nat} {σ τ : Sg} (h : JM σ) (hf : fr true S F σ τ) (h1 : 2 ∉ S) (h2 : 3 ∉ S) : JM τ :=
  h.c (fun k ha hb => hf.2.2.2 rfl k (by unfold KR; omega)) (hf.1 2 (by decide) h1) (hf.1 3 (by decide) h2)
set_option maxRecDepth 100000 in
set_option maxHeartbeats 8000000 in
theorem c_X12_sheet_q (l : Launch) (G : va_G) (kc : KC) (ad : Nat → Nat) (σ : Sg) (slot : Int32) (wd : Int32) (nm : Int32) (hT : TM σ) : MI l G kc yX12_sheet cX12_sheet 5 (some .int) 2 45 [.ref (ad 0), .int slot, .int wd, .int nm] shM ad σ (fun r σ1 => (SHQ slot wd nm r) ∧ TM σ1 ∧ fr true [33, 34] [] σ σ1) := by
  intro sz
  refine z_body (y := yX12_sheet) (n := 5) (av := [.ref (ad 0), .int slot, .int wd, .int nm]) (Qc := fun A => va_Qi (fun r σ1 => (SHQ slot wd nm r) ∧ TM σ1 ∧ fr true [33, 34] [] σ σ1) (PoC G kc shM ad A) A) (plainFor_of_name (by decide)) (Nat.le_of_ble_eq_true rfl) (fun pr e s m below meth c A C0 hr hlk hnm hw hRo ls hl => ?_) sz
  have hx := C0.1
  have hb := C0.2.1
  have hown := C0.2.2.2.1
  have hts := C0.2.2.2.2.1
  have hl : lv_has ls 5 [(0, .ref (ad 0)), (1, .int slot), (2, .int wd), (3, .int nm)] := hl
  refine lv_iload_n hx hb (dkP dF_27 DX12_sheet (i := 0) rfl rfl) rfl (lv_at hl 1 rfl) ?_
  refine zn_I hw (zr_S (As := [.int slot]) (rest := []) C0 (c_X12_isSlot l G kc slot  _) cs_X12_isSlot lk_X12_446 (zp_P C0 hRo hw a00 s00) rfl hl.1 rfl ⟨by decide, by decide⟩ (Nat.le_of_ble_eq_true rfl) (dk2 dF_184 DX12_sheet (i := 1) rfl rfl rfl) ⟨Nat.le_refl _, Nat.le_refl _⟩) (fun r1 s1 H locs hp hw => ?_)
  rcases hp with ⟨rfl, hc1⟩ | ⟨rfl, hc1⟩
  · skip
    (try simp (disch := omega) only [ta_lt, ta_le, ta_eq, tb_lt, tb_le, tb_eq, tw, tnI, tn32 1 (by decide), tnj 1 (by decide), tl32 0 (by decide), tl64 0 (by decide)] at hc1)
    obtain ⟨k_slot, hk_slot, rfl⟩ := to_nat (x := slot) (n := 4) (by (try simp only [lg_cmp_lt, lg_cmp_le, lg_cmp_gt, lg_cmp_ge, lg_cmp_eq] at hc1); (try simp (disch := omega) only [ta_lt, ta_le, ta_eq, tb_lt, tb_le, tb_eq, tw, tnI, tn32 1 (by decide), tnj 1 (by decide), tl32 0 (by decide), tl64 0 (by decide)] at hc1); (try simp (disch := omega) only [ta_lt, ta_le, ta_eq, tb_lt, tb_le, tb_eq, tw, tnI, tn32 1 (by decide), tnj 1 (by decide), tl32 0 (by decide), tl64 0 (by decide)]); omega)
    refine lv_if_eq (tgt := 25) hx hb (dkS dF_153 DX12_sheet (i := 2) rfl rfl rfl) (by decide) (fun h => absurd h (by decide)) (fun _ => ?_)
    refine lv_iload_n hx hb (dkP dF_28 DX12_sheet (i := 3) rfl rfl) rfl (lv_at hl 2 rfl) ?_
    refine lv_i2l hx hb (dkP dF_133 DX12_sheet (i := 4) rfl rfl) rfl ?_
    refine lv_lconst (v := 0) hx hb (dkP dF_9 DX12_sheet (i := 5) rfl rfl) (by decide) ?_
    refine lv_ldc2 hx hb hown (hts _ kn_X12_501) (dk2 dF_20 DX12_sheet (i := 6) rfl rfl rfl) ?_
    refine zn_I hw (zr_S (As := [.long wd.toInt64, .long 0, .long 3]) (rest := []) C0 (c_X12_in l G kc wd.toInt64 0 3  _) cs_X12_in lk_X12_9 (zp_P C0 hRo hw a00 s00) rfl hl.1 rfl ⟨by decide, by decide⟩ (Nat.le_of_ble_eq_true rfl) (dk2 dF_184 DX12_sheet (i := 7) rfl rfl rfl) ⟨Nat.le_refl _, Nat.le_refl _⟩) (fun r2 s2 H locs hp hw => ?_)
    rcases hp with ⟨rfl, hc2⟩ | ⟨rfl, hc2⟩
    · skip
      (try simp (disch := omega) only [ta_lt, ta_le, ta_eq, tb_lt, tb_le, tb_eq, tw, tnI, tn32 1 (by decide), tnj 1 (by decide), tl32 0 (by decide), tl64 0 (by decide), tl32 3 (by decide), tl64 3 (by decide)] at hc2)
      obtain ⟨k_wd, hk_wd, rfl⟩ := to_nat (x := wd) (n := 4) (by (try simp only [lg_cmp_lt, lg_cmp_le, lg_cmp_gt, lg_cmp_ge, lg_cmp_eq] at hc1); (try simp (disch := omega) only [ta_lt, ta_le, ta_eq, tb_lt, tb_le, tb_eq, tw, tnI, tn32 1 (by decide), tnj 1 (by decide), tl32 0 (by decide), tl64 0 (by decide), tl32 3 (by decide), tl64 3 (by decide)] at hc1); (try simp only [lg_cmp_lt, lg_cmp_le, lg_cmp_gt, lg_cmp_ge, lg_cmp_eq] at hk_slot); (try simp (disch := omega) only [ta_lt, ta_le, ta_eq, tb_lt, tb_le, tb_eq, tw, tnI, tn32 1 (by decide), tnj 1 (by decide), tl32 0 (by decide), tl64 0 (by decide), tl32 3 (by decide), tl64 3 (by decide)] at hk_slot); (try simp only [lg_cmp_lt, lg_cmp_le, lg_cmp_gt, lg_cmp_ge, lg_cmp_eq] at hc2); (try simp (disch := omega) only [ta_lt, ta_le, ta_eq, tb_lt, tb_le, tb_eq, tw, tnI, tn32 1 (by decide), tnj 1 (by decide), tl32 0 (by decide), tl64 0 (by decide), tl32 3 (by decide), tl64 3 (by decide)] at hc2); (try simp (disch := omega) only [ta_lt, ta_le, ta_eq, tb_lt, tb_le, tb_eq, tw, tnI, tn32 1 (by decide), tnj 1 (by decide), tl32 0 (by decide), tl64 0 (by decide), tl32 3 (by decide), tl64 3 (by decide)]); omega)
      refine lv_if_eq (tgt := 25) hx hb (dkS dF_153 DX12_sheet (i := 8) rfl rfl rfl) (by decide) (fun h => absurd h (by decide)) (fun _ => ?_)
      refine lv_iload_n hx hb (dkP dF_29 DX12_sheet (i := 9) rfl rfl) rfl (lv_at hl 3 rfl) ?_
      refine lv_bipush (v := 60) hx hb (dks dF_16 DX12_sheet (i := 10) rfl rfl rfl) (by decide) ?_
      refine lv_icmp_le (tgt := 28) hx hb (dkS dF_164 DX12_sheet (i := 11) rfl rfl rfl) (by decide) (fun c3 => ?_) (fun c3 => ?_)
      · (try simp (disch := omega) only [ta_lt, ta_le, ta_eq, tnI, tl32 60 (by decide)] at c3)
        refine lv_iload_n hx hb (dkP dF_29 DX12_sheet (i := 14) rfl rfl) rfl (lv_at hl 3 rfl) ?_
        refine lv_if_ge (tgt := 35) hx hb (dkS dF_156 DX12_sheet (i := 15) rfl rfl rfl) (by decide) (fun c4 => ?_) (fun c4 => ?_)
        · (try simp (disch := omega) only [ta_lt, ta_le, ta_eq, tnI, tl32 0 (by decide)] at c4)
          refine lv_aload_n hx hb (dkP dF_42 DX12_sheet (i := 18) rfl rfl) rfl (lv_at hl 0 rfl) ?_
          refine z_gr C0 hw 0 50 33 rfl fl_X12_126 (dk2 dF_180 DX12_sheet (i := 19) rfl rfl rfl) ?_
          refine lv_iload_n hx hb (dkP dF_27 DX12_sheet (i := 20) rfl rfl) rfl (lv_at hl 1 rfl) ?_
          refine lv_iload_n hx hb (dkP dF_29 DX12_sheet (i := 21) rfl rfl) rfl (lv_at hl 3 rfl) ?_
          refine z_iastN (n := 4) C0 hw 33 k_slot rfl (by omega) (by decide) (dkP dF_79 DX12_sheet (i := 22) rfl rfl) (fun H locs hw => ?_)
          have hT5 : TM (sI σ 33 k_slot nm) := TM.w hT (show -1 ≤ _ ∧ _ ≤ 60 from by (try simp only [lg_cmp_lt, lg_cmp_le, lg_cmp_gt, lg_cmp_ge, lg_cmp_eq] at hc1); (try simp (disch := omega) only [ta_lt, ta_le, ta_eq, tb_lt, tb_le, tb_eq, tw, tnI, tsub1, tsv, tn32 1 (by decide), tnj 1 (by decide), tl32 0 (by decide), tl64 0 (by decide), tl32 3 (by decide), tl64 3 (by decide), tl32 60 (by decide), tl64 60 (by decide)] at hc1); (try simp only [lg_cmp_lt, lg_cmp_le, lg_cmp_gt, lg_cmp_ge, lg_cmp_eq] at hc2); (try simp (disch := omega) only [ta_lt, ta_le, ta_eq, tb_lt, tb_le, tb_eq, tw, tnI, tsub1, tsv, tn32 1 (by decide), tnj 1 (by decide), tl32 0 (by decide), tl64 0 (by decide), tl32 3 (by decide), tl64 3 (by decide), tl32 60 (by decide), tl64 60 (by decide)] at hc2); (try simp only [lg_cmp_lt, lg_cmp_le, lg_cmp_gt, lg_cmp_ge, lg_cmp_eq] at c3); (try simp (disch := omega) only [ta_lt, ta_le, ta_eq, tb_lt, tb_le, tb_eq, tw, tnI, tsub1, tsv, tn32 1 (by decide), tnj 1 (by decide), tl32 0 (by decide), tl64 0 (by decide), tl32 3 (by decide), tl64 3 (by decide), tl32 60 (by decide), tl64 60 (by decide)] at c3); (try simp only [lg_cmp_lt, lg_cmp_le, lg_cmp_gt, lg_cmp_ge, lg_cmp_eq] at c4); (try simp (disch := omega) only [ta_lt, ta_le, ta_eq, tb_lt, tb_le, tb_eq, tw, tnI, tsub1, tsv, tn32 1 (by decide), tnj 1 (by decide), tl32 0 (by decide), tl64 0 (by decide), tl32 3 (by decide), tl64 3 (by decide), tl32 60 (by decide), tl64 60 (by decide)] at c4); (try simp (disch := omega) only [ta_lt, ta_le, ta_eq, tb_lt, tb_le, tb_eq, tw, tnI, tsub1, tsv, tn32 1 (by decide), tnj 1 (by decide), tl32 0 (by decide), tl64 0 (by decide), tl32 3 (by decide), tl64 3 (by decide), tl32 60 (by decide), tl64 60 (by decide)]); omega)
          have hF5 : fr true [33, 34] [] σ (sI σ 33 k_slot nm) := fr.w fr.refl (Or.inl ⟨by decide, by decide⟩) (fun _ h => absurd h (by decide))
          refine lv_aload_n hx hb (dkP dF_42 DX12_sheet (i := 23) rfl rfl) rfl (lv_at hl 0 rfl) ?_
          refine z_gr C0 hw 0 51 34 rfl fl_X12_129 (dk2 dF_180 DX12_sheet (i := 24) rfl rfl rfl) ?_
          refine lv_iload_n hx hb (dkP dF_27 DX12_sheet (i := 25) rfl rfl) rfl (lv_at hl 1 rfl) ?_
          refine lv_iload_n hx hb (dkP dF_28 DX12_sheet (i := 26) rfl rfl) rfl (lv_at hl 2 rfl) ?_
          refine z_iastN (n := 4) C0 hw 34 k_slot rfl (by omega) (by decide) (dkP dF_79 DX12_sheet (i := 27) rfl rfl) (fun H locs hw => ?_)
          have hT6 : TM (sI (sI σ 33 k_slot nm) 34 k_slot (nI k_wd)) := TM.w hT5 (show True from trivial)
          have hF6 : fr true [33, 34] [] σ (sI (sI σ 33 k_slot nm) 34 k_slot (nI k_wd)) := fr.w hF5 (Or.inl ⟨by decide, by decide⟩) (fun _ h => absurd h (by decide))
          refine lv_iconst (v := 0) hx hb (dkP dF_3 DX12_sheet (i := 28) rfl rfl) (by decide) ?_
          refine lv_istore (lv' := [(4, .int 0), (0, .ref (ad 0)), (1, .int (nI k_slot)), (2, .int (nI k_wd)), (3, .int nm)]) hx hb (dk1 dF_54 DX12_sheet (i := 29) rfl rfl rfl) hl (by decide) rfl (fun ls hl => ?_)
          have lp8 : ∀ (nq : Nat) (q4_52 : Nat) (τ7 : Sg) (H : Heap) (locs : List Loc) (ls : Array Slot), 60 - q4_52 < nq → (q4_52 ≤ 60) → (TM τ7) → (fr true [33, 34] [] σ τ7) → St G kc A s.heap shM ad τ7 H locs → lv_has ls 5 [(4, .int (nI q4_52)), (0, .ref (ad 0)), (1, .int (nI k_slot)), (2, .int (nI k_wd)), (3, .int nm)] → W pr l e { frames := 2, cells := 0, slots := 0, locals := 45 } s m ([.ref (ad 0), .int (nI k_slot), .int (nI k_wd), .int nm] : List Value).toArray below meth c H locs 0 0 (MQ below (va_Qi (fun r σ1 => (SHQ (nI k_slot) (nI k_wd) nm r) ∧ TM σ1 ∧ fr true [33, 34] [] σ σ1) (PoC G kc shM ad A) A) ([.ref (ad 0), .int (nI k_slot), .int (nI k_wd), .int nm] : List Value).toArray s 0 0 A) (F0 m 52 ls []) := by
            intro nq
            induction nq with
            | zero => intro q4_52 τ7 H locs ls hmu; exact absurd hmu (Nat.not_lt_zero _)
            | succ nq ih8 =>
              intro q4_52 τ7 H locs ls hmu hq4_52 hT_τ7 hF_τ7 hw hl
              refine lv_iload hx hb (dk1 dF_21 DX12_sheet (i := 30) rfl rfl rfl) (lv_at hl 0 rfl) ?_
              refine lv_bipush (v := 60) hx hb (dks dF_16 DX12_sheet (i := 31) rfl rfl rfl) (by decide) ?_
              refine lv_icmp_ge (tgt := 78) hx hb (dkS dF_162 DX12_sheet (i := 32) rfl rfl rfl) (by decide) (fun c9 => ?_) (fun c9 => ?_)
              · simp (disch := omega) only [ta_lt, ta_le, ta_eq, tnI, tl32 60 (by decide)] at c9
                refine lv_iconst (v := 0) hx hb (dkP dF_3 DX12_sheet (i := 44) rfl rfl) (by decide) ?_
                exact z_iret C0 hr hlk hw (⟨(by unfold SHQ; right; right; refine ⟨?_, ?_, ?_, ?_, ?_, ?_, rfl⟩ <;> ((try simp only [lg_cmp_lt, lg_cmp_le, lg_cmp_gt, lg_cmp_ge, lg_cmp_eq] at hc1); (try simp (disch := omega) only [ta_lt, ta_le, ta_eq, tb_lt, tb_le, tb_eq, tw, tnI, tsub1, tsv, tn32 1 (by decide), tnj 1 (by decide), tl32 0 (by decide), tl64 0 (by decide), tl32 3 (by decide), tl64 3 (by decide), tl32 60 (by decide), tl64 60 (by decide)] at hc1); (try simp only [lg_cmp_lt, lg_cmp_le, lg_cmp_gt, lg_cmp_ge, lg_cmp_eq] at hc2); (try simp (disch := omega) only [ta_lt, ta_le, ta_eq, tb_lt, tb_le, tb_eq, tw, tnI, tsub1, tsv, tn32 1 (by decide), tnj 1 (by decide), tl32 0 (by decide), tl64 0 (by decide), tl32 3 (by decide), tl64 3 (by decide), tl32 60 (by decide), tl64 60 (by decide)] at hc2); (try simp only [lg_cmp_lt, lg_cmp_le, lg_cmp_gt, lg_cmp_ge, lg_cmp_eq] at c3); (try simp (disch := omega) only [ta_lt, ta_le, ta_eq, tb_lt, tb_le, tb_eq, tw, tnI, tsub1, tsv, tn32 1 (by decide), tnj 1 (by decide), tl32 0 (by decide), tl64 0 (by decide), tl32 3 (by decide), tl64 3 (by decide), tl32 60 (by decide), tl64 60 (by decide)] at c3); (try simp only [lg_cmp_lt, lg_cmp_le, lg_cmp_gt, lg_cmp_ge, lg_cmp_eq] at c4); (try simp (disch := omega) only [ta_lt, ta_le, ta_eq, tb_lt, tb_le, tb_eq, tw, tnI, tsub1, tsv, tn32 1 (by decide), tnj 1 (by decide), tl32 0 (by decide), tl64 0 (by decide), tl32 3 (by decide), tl64 3 (by decide), tl32 60 (by decide), tl64 60 (by decide)] at c4); (try simp only [lg_cmp_lt, lg_cmp_le, lg_cmp_gt, lg_cmp_ge, lg_cmp_eq] at c9); (try simp (disch := omega) only [ta_lt, ta_le, ta_eq, tb_lt, tb_le, tb_eq, tw, tnI, tsub1, tsv, tn32 1 (by decide), tnj 1 (by decide), tl32 0 (by decide), tl64 0 (by decide), tl32 3 (by decide), tl64 3 (by decide), tl32 60 (by decide), tl64 60 (by decide)] at c9); (try simp (disch := omega) only [ta_lt, ta_le, ta_eq, tb_lt, tb_le, tb_eq, tw, tnI, tsub1, tsv, tn32 1 (by decide), tnj 1 (by decide), tl32 0 (by decide), tl64 0 (by decide), tl32 3 (by decide), tl64 3 (by decide), tl32 60 (by decide), tl64 60 (by decide)]); omega)), hT_τ7, hF_τ7⟩) (dkP dF_172 DX12_sheet (i := 45) rfl rfl)
              · simp (disch := omega) only [ta_lt, ta_le, ta_eq, tnI, tl32 60 (by decide)] at c9
                refine lv_aload_n hx hb (dkP dF_42 DX12_sheet (i := 33) rfl rfl) rfl (lv_at hl 1 rfl) ?_
                refine z_gr C0 hw 0 52 35 rfl fl_X12_132 (dk2 dF_180 DX12_sheet (i := 34) rfl rfl rfl) ?_
                refine lv_bipush (v := 60) hx hb (dks dF_16 DX12_sheet (i := 35) rfl rfl rfl) (by decide) ?_
                refine lv_iload_n hx hb (dkP dF_27 DX12_sheet (i := 36) rfl rfl) rfl (lv_at hl 2 rfl) ?_
                refine lv_imul hx hb (dkP dF_104 DX12_sheet (i := 37) rfl rfl) ?_
                refine z_top (y := nI (60 * k_slot)) (by simp only [fa_lit, nI_add, pk_mul]) ?_
                refine lv_iload hx hb (dk1 dF_21 DX12_sheet (i := 38) rfl rfl rfl) (lv_at hl 0 rfl) ?_
                refine lv_iadd hx hb (dkP dF_96 DX12_sheet (i := 39) rfl rfl) ?_
                refine z_top (y := nI ((60 * k_slot) + q4_52)) (by simp only [fa_lit, nI_add, pk_mul]) ?_
                refine lv_lconst (v := 0) hx hb (dkP dF_9 DX12_sheet (i := 40) rfl rfl) (by decide) ?_
                refine z_lastN (n := 240) C0 hw 35 ((60 * k_slot) + q4_52) rfl (by omega) (by decide) (dkP dF_80 DX12_sheet (i := 41) rfl rfl) (fun H locs hw => ?_)
                have hF10 : fr true [33, 34] [] σ (sL τ7 35 ((60 * k_slot) + q4_52) 0) := fr.l hF_τ7
                refine lv_iinc (v := nI (q4_52 + 1)) (lv' := [(4, .int (nI (q4_52 + 1))), (0, .ref (ad 0)), (1, .int (nI k_slot)), (2, .int (nI k_wd)), (3, .int nm)]) hx hb (dkI DX12_sheet (i := 42) rfl rfl rfl rfl) hl (k := 0) rfl (nI_1 _) (by decide) rfl (fun ls hl => ?_)
                refine lv_goto (tgt := 52) hx hb (dkS dF_167 DX12_sheet (i := 43) rfl rfl rfl) (by decide) ?_
                exact ih8 (q4_52 + 1) (sL τ7 35 ((60 * k_slot) + q4_52) 0) _ _ _ (by omega) (by (try simp only [lg_cmp_lt, lg_cmp_le, lg_cmp_gt, lg_cmp_ge, lg_cmp_eq] at hc1); (try simp (disch := omega) only [ta_lt, ta_le, ta_eq, tb_lt, tb_le, tb_eq, tw, tnI, tsub1, tsv, tn32 1 (by decide), tnj 1 (by decide), tl32 0 (by decide), tl64 0 (by decide), tl32 3 (by decide), tl64 3 (by decide), tl32 60 (by decide), tl64 60 (by decide)] at hc1); (try simp only [lg_cmp_lt, lg_cmp_le, lg_cmp_gt, lg_cmp_ge, lg_cmp_eq] at hc2); (try simp (disch := omega) only [ta_lt, ta_le, ta_eq, tb_lt, tb_le, tb_eq, tw, tnI, tsub1, tsv, tn32 1 (by decide), tnj 1 (by decide), tl32 0 (by decide), tl64 0 (by decide), tl32 3 (by decide), tl64 3 (by decide), tl32 60 (by decide), tl64 60 (by decide)] at hc2); (try simp only [lg_cmp_lt, lg_cmp_le, lg_cmp_gt, lg_cmp_ge, lg_cmp_eq] at c3); (try simp (disch := omega) only [ta_lt, ta_le, ta_eq, tb_lt, tb_le, tb_eq, tw, tnI, tsub1, tsv, tn32 1 (by decide), tnj 1 (by decide), tl32 0 (by decide), tl64 0 (by decide), tl32 3 (by decide), tl64 3 (by decide), tl32 60 (by decide), tl64 60 (by decide)] at c3); (try simp only [lg_cmp_lt, lg_cmp_le, lg_cmp_gt, lg_cmp_ge, lg_cmp_eq] at c4); (try simp (disch := omega) only [ta_lt, ta_le, ta_eq, tb_lt, tb_le, tb_eq, tw, tnI, tsub1, tsv, tn32 1 (by decide), tnj 1 (by decide), tl32 0 (by decide), tl64 0 (by decide), tl32 3 (by decide), tl64 3 (by decide), tl32 60 (by decide), tl64 60 (by decide)] at c4); (try simp only [lg_cmp_lt, lg_cmp_le, lg_cmp_gt, lg_cmp_ge, lg_cmp_eq] at c9); (try simp (disch := omega) only [ta_lt, ta_le, ta_eq, tb_lt, tb_le, tb_eq, tw, tnI, tsub1, tsv, tn32 1 (by decide), tnj 1 (by decide), tl32 0 (by decide), tl64 0 (by decide), tl32 3 (by decide), tl64 3 (by decide), tl32 60 (by decide), tl64 60 (by decide)] at c9); (try simp (disch := omega) only [ta_lt, ta_le, ta_eq, tb_lt, tb_le, tb_eq, tw, tnI, tsub1, tsv, tn32 1 (by decide), tnj 1 (by decide), tl32 0 (by decide), tl64 0 (by decide), tl32 3 (by decide), tl64 3 (by decide), tl32 60 (by decide), tl64 60 (by decide)]); omega) hT_τ7 hF10 hw (lv_sub hl [0, 1, 2, 3, 4] rfl)
          exact lp8 _ 0 (sI (sI σ 33 k_slot nm) 34 k_slot (nI k_wd)) _ _ _ (Nat.lt_succ_self _) (by (try simp only [lg_cmp_lt, lg_cmp_le, lg_cmp_gt, lg_cmp_ge, lg_cmp_eq] at hc1); (try simp (disch := omega) only [ta_lt, ta_le, ta_eq, tb_lt, tb_le, tb_eq, tw, tnI, tsub1, tsv, tn32 1 (by decide), tnj 1 (by decide), tl32 0 (by decide), tl64 0 (by decide), tl32 3 (by decide), tl64 3 (by decide), tl32 60 (by decide), tl64 60 (by decide)] at hc1); (try simp only [lg_cmp_lt, lg_cmp_le, lg_cmp_gt, lg_cmp_ge, lg_cmp_eq] at hc2); (try simp (disch := omega) only [ta_lt, ta_le, ta_eq, tb_lt, tb_le, tb_eq, tw, tnI, tsub1, tsv, tn32 1 (by decide), tnj 1 (by decide), tl32 0 (by decide), tl64 0 (by decide), tl32 3 (by decide), tl64 3 (by decide), tl32 60 (by decide), tl64 60 (by decide)] at hc2); (try simp only [lg_cmp_lt, lg_cmp_le, lg_cmp_gt, lg_cmp_ge, lg_cmp_eq] at c3); (try simp (disch := omega) only [ta_lt, ta_le, ta_eq, tb_lt, tb_le, tb_eq, tw, tnI, tsub1, tsv, tn32 1 (by decide), tnj 1 (by decide), tl32 0 (by decide), tl64 0 (by decide), tl32 3 (by decide), tl64 3 (by decide), tl32 60 (by decide), tl64 60 (by decide)] at c3); (try simp only [lg_cmp_lt, lg_cmp_le, lg_cmp_gt, lg_cmp_ge, lg_cmp_eq] at c4); (try simp (disch := omega) only [ta_lt, ta_le, ta_eq, tb_lt, tb_le, tb_eq, tw, tnI, tsub1, tsv, tn32 1 (by decide), tnj 1 (by decide), tl32 0 (by decide), tl64 0 (by decide), tl32 3 (by decide), tl64 3 (by decide), tl32 60 (by decide), tl64 60 (by decide)] at c4); (try simp (disch := omega) only [ta_lt, ta_le, ta_eq, tb_lt, tb_le, tb_eq, tw, tnI, tsub1, tsv, tn32 1 (by decide), tnj 1 (by decide), tl32 0 (by decide), tl64 0 (by decide), tl32 3 (by decide), tl64 3 (by decide), tl32 60 (by decide), tl64 60 (by decide)]); omega) hT6 hF6 hw (lv_sub hl [0, 1, 2, 3, 4] rfl)
        · (try simp (disch := omega) only [ta_lt, ta_le, ta_eq, tnI, tl32 0 (by decide)] at c4)
          refine lv_bipush (v := (-3)) hx hb (dks dF_16 DX12_sheet (i := 16) rfl rfl rfl) (by decide) ?_
          exact z_iret C0 hr hlk hw (⟨(by unfold SHQ; right; left; refine ⟨?_, ?_, ?_, ?_, ?_, rfl⟩ <;> ((try simp only [lg_cmp_lt, lg_cmp_le, lg_cmp_gt, lg_cmp_ge, lg_cmp_eq] at hc1); (try simp (disch := omega) only [ta_lt, ta_le, ta_eq, tb_lt, tb_le, tb_eq, tw, tnI, tsub1, tsv, tn32 3 (by decide), tnj 3 (by decide), tn32 1 (by decide), tnj 1 (by decide), tl32 0 (by decide), tl64 0 (by decide), tl32 3 (by decide), tl64 3 (by decide), tl32 60 (by decide), tl64 60 (by decide)] at hc1); (try simp only [lg_cmp_lt, lg_cmp_le, lg_cmp_gt, lg_cmp_ge, lg_cmp_eq] at hc2); (try simp (disch := omega) only [ta_lt, ta_le, ta_eq, tb_lt, tb_le, tb_eq, tw, tnI, tsub1, tsv, tn32 3 (by decide), tnj 3 (by decide), tn32 1 (by decide), tnj 1 (by decide), tl32 0 (by decide), tl64 0 (by decide), tl32 3 (by decide), tl64 3 (by decide), tl32 60 (by decide), tl64 60 (by decide)] at hc2); (try simp only [lg_cmp_lt, lg_cmp_le, lg_cmp_gt, lg_cmp_ge, lg_cmp_eq] at c3); (try simp (disch := omega) only [ta_lt, ta_le, ta_eq, tb_lt, tb_le, tb_eq, tw, tnI, tsub1, tsv, tn32 3 (by decide), tnj 3 (by decide), tn32 1 (by decide), tnj 1 (by decide), tl32 0 (by decide), tl64 0 (by decide), tl32 3 (by decide), tl64 3 (by decide), tl32 60 (by decide), tl64 60 (by decide)] at c3); (try simp only [lg_cmp_lt, lg_cmp_le, lg_cmp_gt, lg_cmp_ge, lg_cmp_eq] at c4); (try simp (disch := omega) only [ta_lt, ta_le, ta_eq, tb_lt, tb_le, tb_eq, tw, tnI, tsub1, tsv, tn32 3 (by decide), tnj 3 (by decide), tn32 1 (by decide), tnj 1 (by decide), tl32 0 (by decide), tl64 0 (by decide), tl32 3 (by decide), tl64 3 (by decide), tl32 60 (by decide), tl64 60 (by decide)] at c4); (try simp (disch := omega) only [ta_lt, ta_le, ta_eq, tb_lt, tb_le, tb_eq, tw, tnI, tsub1, tsv, tn32 3 (by decide), tnj 3 (by decide), tn32 1 (by decide), tnj 1 (by decide), tl32 0 (by decide), tl64 0 (by decide), tl32 3 (by decide), tl64 3 (by decide), tl32 60 (by decide), tl64 60 (by decide)]); omega)), hT, fr.refl⟩) (dkP dF_172 DX12_sheet (i := 17) rfl rfl)
      · (try simp (disch := omega) only [ta_lt, ta_le, ta_eq, tnI, tl32 60 (by decide)] at c3)
        refine lv_bipush (v := (-2)) hx hb (dks dF_16 DX12_sheet (i := 12) rfl rfl rfl) (by decide) ?_
        exact z_iret C0 hr hlk hw (⟨(by unfold SHQ; left; refine ⟨?_, rfl⟩; (try simp only [lg_cmp_lt, lg_cmp_le, lg_cmp_gt, lg_cmp_ge, lg_cmp_eq] at hc1); (try simp (disch := omega) only [ta_lt, ta_le, ta_eq, tb_lt, tb_le, tb_eq, tw, tnI, tsub1, tsv, tn32 3 (by decide), tnj 3 (by decide), tn32 2 (by decide), tnj 2 (by decide), tn32 1 (by decide), tnj 1 (by decide), tl32 0 (by decide), tl64 0 (by decide), tl32 3 (by decide), tl64 3 (by decide), tl32 60 (by decide), tl64 60 (by decide)] at hc1); (try simp only [lg_cmp_lt, lg_cmp_le, lg_cmp_gt, lg_cmp_ge, lg_cmp_eq] at hc2); (try simp (disch := omega) only [ta_lt, ta_le, ta_eq, tb_lt, tb_le, tb_eq, tw, tnI, tsub1, tsv, tn32 3 (by decide), tnj 3 (by decide), tn32 2 (by decide), tnj 2 (by decide), tn32 1 (by decide), tnj 1 (by decide), tl32 0 (by decide), tl64 0 (by decide), tl32 3 (by decide), tl64 3 (by decide), tl32 60 (by decide), tl64 60 (by decide)] at hc2); (try simp only [lg_cmp_lt, lg_cmp_le, lg_cmp_gt, lg_cmp_ge, lg_cmp_eq] at c3); (try simp (disch := omega) only [ta_lt, ta_le, ta_eq, tb_lt, tb_le, tb_eq, tw, tnI, tsub1, tsv, tn32 3 (by decide), tnj 3 (by decide), tn32 2 (by decide), tnj 2 (by decide), tn32 1 (by decide), tnj 1 (by decide), tl32 0 (by decide), tl64 0 (by decide), tl32 3 (by decide), tl64 3 (by decide), tl32 60 (by decide), tl64 60 (by decide)] at c3); (try simp (disch := omega) only [ta_lt, ta_le, ta_eq, tb_lt, tb_le, tb_eq, tw, tnI, tsub1, tsv, tn32 3 (by decide), tnj 3 (by decide), tn32 2 (by decide), tnj 2 (by decide), tn32 1 (by decide), tnj 1 (by decide), tl32 0 (by decide), tl64 0 (by decide), tl32 3 (by decide), tl64 3 (by decide), tl32 60 (by decide), tl64 60 (by decide)]); omega), hT, fr.refl⟩) (dkP dF_172 DX12_sheet (i := 13) rfl rfl)
    · skip
      (try simp (disch := omega) only [ta_lt, ta_le, ta_eq, tb_lt, tb_le, tb_eq, tw, tnI, tn32 3 (by decide), tnj 3 (by decide), tn32 2 (by decide), tnj 2 (by decide), tn32 1 (by decide), tnj 1 (by decide), tl32 0 (by decide), tl64 0 (by decide), tl32 3 (by decide), tl64 3 (by decide), tl32 60 (by decide), tl64 60 (by decide)] at hc2)
      refine lv_if_eq (tgt := 25) hx hb (dkS dF_153 DX12_sheet (i := 8) rfl rfl rfl) (by decide) (fun _ => ?_) (fun h => absurd h (by decide))
      refine lv_bipush (v := (-2)) hx hb (dks dF_16 DX12_sheet (i := 12) rfl rfl rfl) (by decide) ?_
      exact z_iret C0 hr hlk hw (⟨(by unfold SHQ; left; refine ⟨?_, rfl⟩; (try simp only [lg_cmp_lt, lg_cmp_le, lg_cmp_gt, lg_cmp_ge, lg_cmp_eq] at hc1); (try simp (disch := omega) only [ta_lt, ta_le, ta_eq, tb_lt, tb_le, tb_eq, tw, tnI, tsub1, tsv, tn32 3 (by decide), tnj 3 (by decide), tn32 2 (by decide), tnj 2 (by decide), tn32 1 (by decide), tnj 1 (by decide), tl32 0 (by decide), tl64 0 (by decide), tl32 3 (by decide), tl64 3 (by decide), tl32 60 (by decide), tl64 60 (by decide)] at hc1); (try simp only [lg_cmp_lt, lg_cmp_le, lg_cmp_gt, lg_cmp_ge, lg_cmp_eq] at hc2); (try simp (disch := omega) only [ta_lt, ta_le, ta_eq, tb_lt, tb_le, tb_eq, tw, tnI, tsub1, tsv, tn32 3 (by decide), tnj 3 (by decide), tn32 2 (by decide), tnj 2 (by decide), tn32 1 (by decide), tnj 1 (by decide), tl32 0 (by decide), tl64 0 (by decide), tl32 3 (by decide), tl64 3 (by decide), tl32 60 (by decide), tl64 60 (by decide)] at hc2); (try simp (disch := omega) only [ta_lt, ta_le, ta_eq, tb_lt, tb_le, tb_eq, tw, tnI, tsub1, tsv, tn32 3 (by decide), tnj 3 (by decide), tn32 2 (by decide), tnj 2 (by decide), tn32 1 (by decide), tnj 1 (by decide), tl32 0 (by decide), tl64 0 (by decide), tl32 3 (by decide), tl64 3 (by decide), tl32 60 (by decide), tl64 60 (by decide)]); omega), hT, fr.refl⟩) (dkP dF_172 DX12_sheet (i := 13) rfl rfl)
  · skip
    (try simp (disch := omega) only [ta_lt, ta_le, ta_eq, tb_lt, tb_le, tb_eq, tw, tnI, tn32 3 (by decide), tnj 3 (by decide), tn32 2 (by decide), tnj 2 (by decide), tn32 1 (by decide), tnj 1 (by decide), tl32 0 (by decide), tl64 0 (by decide), tl32 3 (by decide), tl64 3 (by decide), tl32 60 (by decide), tl64 60 (by decide)] at hc1)
    refine lv_if_eq (tgt := 25) hx hb (dkS dF_153 DX12_sheet (i := 2) rfl rfl rfl) (by decide) (fun _ => ?_) (fun h => absurd h (by decide))
    refine lv_bipush (v := (-2)) hx hb (dks dF_16 DX12_sheet (i := 12) rfl rfl rfl) (by decide) ?_
    exact z_iret C0 hr hlk hw (⟨(by unfold SHQ; left; refine ⟨?_, rfl⟩; (try simp only [lg_cmp_lt, lg_cmp_le, lg_cmp_gt, lg_cmp_ge, lg_cmp_eq] at hc1); (try simp (disch := omega) only [ta_lt, ta_le, ta_eq, tb_lt, tb_le, tb_eq, tw, tnI, tsub1, tsv, tn32 3 (by decide), tnj 3 (by decide), tn32 2 (by decide), tnj 2 (by decide), tn32 1 (by decide), tnj 1 (by decide), tl32 0 (by decide), tl64 0 (by decide), tl32 3 (by decide), tl64 3 (by decide), tl32 60 (by decide), tl64 60 (by decide)] at hc1); (try simp (disch := omega) only [ta_lt, ta_le, ta_eq, tb_lt, tb_le, tb_eq, tw, tnI, tsub1, tsv, tn32 3 (by decide), tnj 3 (by decide), tn32 2 (by decide), tnj 2 (by decide), tn32 1 (by decide), tnj 1 (by decide), tl32 0 (by decide), tl64 0 (by decide), tl32 3 (by decide), tl64 3 (by decide), tl32 60 (by decide), tl64 60 (by decide)]); omega), hT, fr.refl⟩) (dkP dF_172 DX12_sheet (i := 13) rfl rfl)
set_option maxRecDepth 100000 in
set_option maxHeartbeats 8000000 in
theorem c_X12_keep_q (l : Launch) (G : va_G) (kc : KC) (ad : Nat → Nat) (σ : Sg) (ik : Int32) (hJ : JM σ) (hT : TM σ) : MI l G kc yX12_keep cX12_keep 3 (some .int) 1 25 [.ref (ad 0), .int ik] shM ad σ (fun r σ1 => (KQ ik r) ∧ ((r = -2 ∧ σ1 = σ) ∨ ∃ k, k < 3 ∧ ik = nI k ∧ r = 0 ∧ KPT σ σ1 k) ∧ TM σ1 ∧ fr true [2, 3] [] σ σ1) := by
  intro sz
  refine z_body (y := yX12_keep) (n := 3) (av := [.ref (ad 0), .int ik]) (Qc := fun A => va_Qi (fun r σ1 => (KQ ik r) ∧ ((r = -2 ∧ σ1 = σ) ∨ ∃ k, k < 3 ∧ ik = nI k ∧ r = 0 ∧ KPT σ σ1 k) ∧ TM σ1 ∧ fr true [2, 3] [] σ σ1) (PoC G kc shM ad A) A) (plainFor_of_name (by decide)) (Nat.le_of_ble_eq_true rfl) (fun pr e s m below meth c A C0 hr hlk hnm hw hRo ls hl => ?_) sz
  have hx := C0.1
  have hb := C0.2.1
  have hown := C0.2.2.2.1
  have hts := C0.2.2.2.2.1
  have hl : lv_has ls 3 [(0, .ref (ad 0)), (1, .int ik)] := hl
  refine lv_iload_n hx hb (dkP dF_27 DX12_keep (i := 0) rfl rfl) rfl (lv_at hl 1 rfl) ?_
  refine lv_i2l hx hb (dkP dF_133 DX12_keep (i := 1) rfl rfl) rfl ?_
  refine lv_lconst (v := 0) hx hb (dkP dF_9 DX12_keep (i := 2) rfl rfl) (by decide) ?_
  refine lv_ldc2 hx hb hown (hts _ kn_X12_145) (dk2 dF_20 DX12_keep (i := 3) rfl rfl rfl) ?_
  refine zn_I hw (zr_S (As := [.long ik.toInt64, .long 0, .long 2]) (rest := []) C0 (c_X12_in l G kc ik.toInt64 0 2  _) cs_X12_in lk_X12_9 (zp_P C0 hRo hw a00 s00) rfl hl.1 rfl ⟨by decide, by decide⟩ (Nat.le_of_ble_eq_true rfl) (dk2 dF_184 DX12_keep (i := 4) rfl rfl rfl) ⟨Nat.le_refl _, Nat.le_refl _⟩) (fun r1 s1 H locs hp hw => ?_)
  rcases hp with ⟨rfl, hc1⟩ | ⟨rfl, hc1⟩
  · skip
    (try simp (disch := omega) only [ta_lt, ta_le, ta_eq, tb_lt, tb_le, tb_eq, tw, tnI, tn32 1 (by decide), tnj 1 (by decide), tl32 0 (by decide), tl64 0 (by decide), tl32 2 (by decide), tl64 2 (by decide)] at hc1)
    obtain ⟨k_ik, hk_ik, rfl⟩ := to_nat (x := ik) (n := 3) (by (try simp only [lg_cmp_lt, lg_cmp_le, lg_cmp_gt, lg_cmp_ge, lg_cmp_eq] at hc1); (try simp (disch := omega) only [ta_lt, ta_le, ta_eq, tb_lt, tb_le, tb_eq, tw, tnI, tn32 1 (by decide), tnj 1 (by decide), tl32 0 (by decide), tl64 0 (by decide), tl32 2 (by decide), tl64 2 (by decide)] at hc1); (try simp (disch := omega) only [ta_lt, ta_le, ta_eq, tb_lt, tb_le, tb_eq, tw, tnI, tn32 1 (by decide), tnj 1 (by decide), tl32 0 (by decide), tl64 0 (by decide), tl32 2 (by decide), tl64 2 (by decide)]); omega)
    refine lv_if_ne (tgt := 15) hx hb (dkS dF_154 DX12_keep (i := 5) rfl rfl rfl) (by decide) (fun _ => ?_) (fun h => absurd h (by decide))
    refine lv_iconst (v := 0) hx hb (dkP dF_3 DX12_keep (i := 8) rfl rfl) (by decide) ?_
    refine lv_istore_n (lv' := [(2, .int 0), (0, .ref (ad 0)), (1, .int (nI k_ik))]) hx hb (dkP dF_61 DX12_keep (i := 9) rfl rfl) rfl hl (by decide) rfl (fun ls hl => ?_)
    have lp3 : ∀ (nq : Nat) (q2_17 : Nat) (τ2 : Sg) (H : Heap) (locs : List Loc) (ls : Array Slot), 414128 - q2_17 < nq → (q2_17 ≤ 414128) → ((∀ i, i < q2_17 → τ2.1 2 (414128 * k_ik + i) = σ.1 1 i)) → ((∀ x, (x < 414128 * k_ik ∨ 414128 * k_ik + 414128 ≤ x) → τ2.1 2 x = σ.1 2 x)) → (τ2.1 3 = σ.1 3) → (TM τ2) → (fr true [2, 3] [] σ τ2) → St G kc A s.heap shM ad τ2 H locs → lv_has ls 3 [(2, .int (nI q2_17)), (0, .ref (ad 0)), (1, .int (nI k_ik))] → W pr l e { frames := 1, cells := 0, slots := 0, locals := 25 } s m ([.ref (ad 0), .int (nI k_ik)] : List Value).toArray below meth c H locs 0 0 (MQ below (va_Qi (fun r σ1 => (KQ (nI k_ik) r) ∧ ((r = -2 ∧ σ1 = σ) ∨ ∃ k, k < 3 ∧ (nI k_ik) = nI k ∧ r = 0 ∧ KPT σ σ1 k) ∧ TM σ1 ∧ fr true [2, 3] [] σ σ1) (PoC G kc shM ad A) A) ([.ref (ad 0), .int (nI k_ik)] : List Value).toArray s 0 0 A) (F0 m 17 ls []) := by
      intro nq
      induction nq with
      | zero => intro q2_17 τ2 H locs ls hmu; exact absurd hmu (Nat.not_lt_zero _)
      | succ nq ih3 =>
        intro q2_17 τ2 H locs ls hmu hq2_17 hki hko hkh hT_τ2 hF_τ2 hw hl
        refine lv_iload_n hx hb (dkP dF_28 DX12_keep (i := 10) rfl rfl) rfl (lv_at hl 0 rfl) ?_
        refine lv_ldc hx hb hown (hts _ kn_X12_19) (dk1 dF_18 DX12_keep (i := 11) rfl rfl rfl) ?_
        refine lv_icmp_ge (tgt := 46) hx hb (dkS dF_162 DX12_keep (i := 12) rfl rfl rfl) (by decide) (fun c4 => ?_) (fun c4 => ?_)
        · simp (disch := omega) only [ta_lt, ta_le, ta_eq, tnI, tl32 414128 (by decide)] at c4
          refine lv_aload_n hx hb (dkP dF_42 DX12_keep (i := 27) rfl rfl) rfl (lv_at hl 1 rfl) ?_
          refine z_gr C0 hw 0 3 3 rfl fl_X12_28 (dk2 dF_180 DX12_keep (i := 28) rfl rfl rfl) ?_
          refine lv_iload_n hx hb (dkP dF_27 DX12_keep (i := 29) rfl rfl) rfl (lv_at hl 2 rfl) ?_
          refine lv_iconst (v := 1) hx hb (dkP dF_4 DX12_keep (i := 30) rfl rfl) (by decide) ?_
          refine z_zastN (n := 3) C0 hw 3 k_ik rfl (by decide) (by omega) (by decide) (dkP dF_84 DX12_keep (i := 31) rfl rfl) (fun H locs hw => ?_)
          have hT5 : TM (sI τ2 3 k_ik 1) := TM.w hT_τ2 (show 0 ≤ _ ∧ _ ≤ 1 from by (try simp only [lg_cmp_lt, lg_cmp_le, lg_cmp_gt, lg_cmp_ge, lg_cmp_eq] at hc1); (try simp (disch := omega) only [ta_lt, ta_le, ta_eq, tb_lt, tb_le, tb_eq, tw, tnI, tsub1, tsv, tn32 1 (by decide), tnj 1 (by decide), tl32 0 (by decide), tl64 0 (by decide), tl32 1 (by decide), tl64 1 (by decide), tl32 2 (by decide), tl64 2 (by decide), tl32 414128 (by decide), tl64 414128 (by decide)] at hc1); (try simp only [lg_cmp_lt, lg_cmp_le, lg_cmp_gt, lg_cmp_ge, lg_cmp_eq] at c4); (try simp (disch := omega) only [ta_lt, ta_le, ta_eq, tb_lt, tb_le, tb_eq, tw, tnI, tsub1, tsv, tn32 1 (by decide), tnj 1 (by decide), tl32 0 (by decide), tl64 0 (by decide), tl32 1 (by decide), tl64 1 (by decide), tl32 2 (by decide), tl64 2 (by decide), tl32 414128 (by decide), tl64 414128 (by decide)] at c4); (try simp (disch := omega) only [ta_lt, ta_le, ta_eq, tb_lt, tb_le, tb_eq, tw, tnI, tsub1, tsv, tn32 1 (by decide), tnj 1 (by decide), tl32 0 (by decide), tl64 0 (by decide), tl32 1 (by decide), tl64 1 (by decide), tl32 2 (by decide), tl64 2 (by decide), tl32 414128 (by decide), tl64 414128 (by decide)]); omega)
          have hF5 : fr true [2, 3] [] σ (sI τ2 3 k_ik 1) := fr.w hF_τ2 (Or.inl ⟨by decide, by decide⟩) (fun _ h => absurd h (by decide))
          refine lv_iconst (v := 0) hx hb (dkP dF_3 DX12_keep (i := 32) rfl rfl) (by decide) ?_
          exact z_iret C0 hr hlk hw (⟨(by unfold KQ; right; refine ⟨?_, ?_, rfl⟩ <;> ((try simp only [lg_cmp_lt, lg_cmp_le, lg_cmp_gt, lg_cmp_ge, lg_cmp_eq] at hc1); (try simp (disch := omega) only [ta_lt, ta_le, ta_eq, tb_lt, tb_le, tb_eq, tw, tnI, tsub1, tsv, tn32 1 (by decide), tnj 1 (by decide), tl32 0 (by decide), tl64 0 (by decide), tl32 1 (by decide), tl64 1 (by decide), tl32 2 (by decide), tl64 2 (by decide), tl32 414128 (by decide), tl64 414128 (by decide)] at hc1); (try simp only [lg_cmp_lt, lg_cmp_le, lg_cmp_gt, lg_cmp_ge, lg_cmp_eq] at c4); (try simp (disch := omega) only [ta_lt, ta_le, ta_eq, tb_lt, tb_le, tb_eq, tw, tnI, tsub1, tsv, tn32 1 (by decide), tnj 1 (by decide), tl32 0 (by decide), tl64 0 (by decide), tl32 1 (by decide), tl64 1 (by decide), tl32 2 (by decide), tl64 2 (by decide), tl32 414128 (by decide), tl64 414128 (by decide)] at c4); (try simp (disch := omega) only [ta_lt, ta_le, ta_eq, tb_lt, tb_le, tb_eq, tw, tnI, tsub1, tsv, tn32 1 (by decide), tnj 1 (by decide), tl32 0 (by decide), tl64 0 (by decide), tl32 1 (by decide), tl64 1 (by decide), tl32 2 (by decide), tl64 2 (by decide), tl32 414128 (by decide), tl64 414128 (by decide)]); omega)), (Or.inr ⟨k_ik, by omega, rfl, rfl, JM_keep hJ (by omega) (fun i hi => ((congrFun (sI_o (by decide)) _)).trans (hki i (by omega))) (fun x hx1 => ((congrFun (sI_o (by decide)) _)).trans (hko x hx1)) rd_s (fun j hj => (rd_n (by omega)).trans (congrFun hkh j)) ((sI_o (by decide)).trans ((hF_τ2.1 1 (by decide) (by decide)).trans rfl)) (fun j hT9 => hT 1 3)⟩), hT5, hF5⟩) (dkP dF_172 DX12_keep (i := 33) rfl rfl)
        · simp (disch := omega) only [ta_lt, ta_le, ta_eq, tnI, tl32 414128 (by decide)] at c4
          refine lv_aload_n hx hb (dkP dF_42 DX12_keep (i := 13) rfl rfl) rfl (lv_at hl 1 rfl) ?_
          refine z_gr C0 hw 0 2 2 rfl fl_X12_25 (dk2 dF_180 DX12_keep (i := 14) rfl rfl rfl) ?_
          refine lv_ldc hx hb hown (hts _ kn_X12_19) (dk1 dF_18 DX12_keep (i := 15) rfl rfl rfl) ?_
          refine lv_iload_n hx hb (dkP dF_27 DX12_keep (i := 16) rfl rfl) rfl (lv_at hl 2 rfl) ?_
          refine lv_imul hx hb (dkP dF_104 DX12_keep (i := 17) rfl rfl) ?_
          refine z_top (y := nI (414128 * k_ik)) (by simp only [fa_lit, nI_add, pk_mul]) ?_
          refine lv_iload_n hx hb (dkP dF_28 DX12_keep (i := 18) rfl rfl) rfl (lv_at hl 0 rfl) ?_
          refine lv_iadd hx hb (dkP dF_96 DX12_keep (i := 19) rfl rfl) ?_
          refine z_top (y := nI ((414128 * k_ik) + q2_17)) (by simp only [fa_lit, nI_add, pk_mul]) ?_
          refine lv_aload_n hx hb (dkP dF_42 DX12_keep (i := 20) rfl rfl) rfl (lv_at hl 1 rfl) ?_
          refine z_gr C0 hw 0 1 1 rfl fl_X12_20 (dk2 dF_180 DX12_keep (i := 21) rfl rfl rfl) ?_
          refine lv_iload_n hx hb (dkP dF_28 DX12_keep (i := 22) rfl rfl) rfl (lv_at hl 0 rfl) ?_
          refine z_ialdN (n := 414128) C0 hw 1 q2_17 rfl (by omega) (by decide) (dkP dF_46 DX12_keep (i := 23) rfl rfl) ?_
          obtain ⟨v6, ev6⟩ : ∃ y : Int32, τ2.1 1 q2_17 = y := ⟨_, rfl⟩
          refine z_top (y := v6) ev6 ?_
          refine z_iastN (n := 1242384) C0 hw 2 ((414128 * k_ik) + q2_17) rfl (by omega) (by decide) (dkP dF_79 DX12_keep (i := 24) rfl rfl) (fun H locs hw => ?_)
          have hT7 : TM (sI τ2 2 ((414128 * k_ik) + q2_17) v6) := TM.w hT_τ2 (ty_kp (by omega) (by rw [← ev6]; exact hT_τ2 1 _))
          have hF7 : fr true [2, 3] [] σ (sI τ2 2 ((414128 * k_ik) + q2_17) v6) := fr.w hF_τ2 (Or.inl ⟨by decide, by decide⟩) (fun _ h => absurd h (by decide))
          refine lv_iinc (v := nI (q2_17 + 1)) (lv' := [(2, .int (nI (q2_17 + 1))), (0, .ref (ad 0)), (1, .int (nI k_ik))]) hx hb (dkI DX12_keep (i := 25) rfl rfl rfl rfl) hl (k := 0) rfl (nI_1 _) (by decide) rfl (fun ls hl => ?_)
          refine lv_goto (tgt := 17) hx hb (dkS dF_167 DX12_keep (i := 26) rfl rfl rfl) (by decide) ?_
          exact ih3 (q2_17 + 1) (sI τ2 2 ((414128 * k_ik) + q2_17) v6) _ _ _ (by omega) (by (try simp only [lg_cmp_lt, lg_cmp_le, lg_cmp_gt, lg_cmp_ge, lg_cmp_eq] at hc1); (try simp (disch := omega) only [ta_lt, ta_le, ta_eq, tb_lt, tb_le, tb_eq, tw, tnI, tsub1, tsv, tn32 1 (by decide), tnj 1 (by decide), tl32 0 (by decide), tl64 0 (by decide), tl32 1 (by decide), tl64 1 (by decide), tl32 2 (by decide), tl64 2 (by decide), tl32 414128 (by decide), tl64 414128 (by decide)] at hc1); (try simp only [lg_cmp_lt, lg_cmp_le, lg_cmp_gt, lg_cmp_ge, lg_cmp_eq] at c4); (try simp (disch := omega) only [ta_lt, ta_le, ta_eq, tb_lt, tb_le, tb_eq, tw, tnI, tsub1, tsv, tn32 1 (by decide), tnj 1 (by decide), tl32 0 (by decide), tl64 0 (by decide), tl32 1 (by decide), tl64 1 (by decide), tl32 2 (by decide), tl64 2 (by decide), tl32 414128 (by decide), tl64 414128 (by decide)] at c4); (try simp (disch := omega) only [ta_lt, ta_le, ta_eq, tb_lt, tb_le, tb_eq, tw, tnI, tsub1, tsv, tn32 1 (by decide), tnj 1 (by decide), tl32 0 (by decide), tl64 0 (by decide), tl32 1 (by decide), tl64 1 (by decide), tl32 2 (by decide), tl64 2 (by decide), tl32 414128 (by decide), tl64 414128 (by decide)]); omega) (fun i hi => by by_cases e_ : i = q2_17; (· rw [e_]; exact rd_s.trans (Eq.symm (((congrFun ((hF_τ2.1 1 (by decide) (by decide)).trans rfl) q2_17)).symm.trans ev6))); (· exact (rd_n (by omega)).trans (hki i (by omega)))) (fun x hx1 => (rd_n (by omega)).trans (hko x hx1)) ((sI_o (by decide)).trans hkh) hT7 hF7 hw (lv_sub hl [0, 1, 2] rfl)
    exact lp3 _ 0 σ _ _ _ (Nat.lt_succ_self _) (by (try simp only [lg_cmp_lt, lg_cmp_le, lg_cmp_gt, lg_cmp_ge, lg_cmp_eq] at hc1); (try simp (disch := omega) only [ta_lt, ta_le, ta_eq, tb_lt, tb_le, tb_eq, tw, tnI, tsub1, tsv, tn32 1 (by decide), tnj 1 (by decide), tl32 0 (by decide), tl64 0 (by decide), tl32 1 (by decide), tl64 1 (by decide), tl32 2 (by decide), tl64 2 (by decide), tl32 414128 (by decide), tl64 414128 (by decide)] at hc1); (try simp (disch := omega) only [ta_lt, ta_le, ta_eq, tb_lt, tb_le, tb_eq, tw, tnI, tsub1, tsv, tn32 1 (by decide), tnj 1 (by decide), tl32 0 (by decide), tl64 0 (by decide), tl32 1 (by decide), tl64 1 (by decide), tl32 2 (by decide), tl64 2 (by decide), tl32 414128 (by decide), tl64 414128 (by decide)]); omega) (fun i hi => absurd hi (Nat.not_lt_zero i)) (fun _ _ => rfl) rfl hT fr.refl hw (lv_sub hl [0, 1, 2] rfl)
  · skip
    (try simp (disch := omega) only [ta_lt, ta_le, ta_eq, tb_lt, tb_le, tb_eq, tw, tnI, tn32 1 (by decide), tnj 1 (by decide), tl32 0 (by decide), tl64 0 (by decide), tl32 1 (by decide), tl64 1 (by decide), tl32 2 (by decide), tl64 2 (by decide), tl32 414128 (by decide), tl64 414128 (by decide)] at hc1)
    refine lv_if_ne (tgt := 15) hx hb (dkS dF_154 DX12_keep (i := 5) rfl rfl rfl) (by decide) (fun h => absurd h (by decide)) (fun _ => ?_)
    refine lv_bipush (v := (-2)) hx hb (dks dF_16 DX12_keep (i := 6) rfl rfl rfl) (by decide) ?_
    exact z_iret C0 hr hlk hw (⟨(by unfold KQ; left; refine ⟨?_, rfl⟩; (try simp only [lg_cmp_lt, lg_cmp_le, lg_cmp_gt, lg_cmp_ge, lg_cmp_eq] at hc1); (try simp (disch := omega) only [ta_lt, ta_le, ta_eq, tb_lt, tb_le, tb_eq, tw, tnI, tsub1, tsv, tn32 2 (by decide), tnj 2 (by decide), tn32 1 (by decide), tnj 1 (by decide), tl32 0 (by decide), tl64 0 (by decide), tl32 1 (by decide), tl64 1 (by decide), tl32 2 (by decide), tl64 2 (by decide), tl32 414128 (by decide), tl64 414128 (by decide)] at hc1); (try simp (disch := omega) only [ta_lt, ta_le, ta_eq, tb_lt, tb_le, tb_eq, tw, tnI, tsub1, tsv, tn32 2 (by decide), tnj 2 (by decide), tn32 1 (by decide), tnj 1 (by decide), tl32 0 (by decide), tl64 0 (by decide), tl32 1 (by decide), tl64 1 (by decide), tl32 2 (by decide), tl64 2 (by decide), tl32 414128 (by decide), tl64 414128 (by decide)]); omega), (Or.inl ⟨rfl, rfl⟩), hT, fr.refl⟩) (dkP dF_172 DX12_keep (i := 7) rfl rfl)
set_option maxRecDepth 100000 in
set_option maxHeartbeats 8000000 in
theorem c_X12_leads_q (l : Launch) (G : va_G) (kc : KC) (ad : Nat → Nat) (σ : Sg) (k : Nat) (hk : 414028 ≤ k) (hk2 : k + 4 < 414128) (hT : TM σ) : MI l G kc yX12_leads cX12_leads 3 (some .int) 1 22 [.ref (ad 0), .int (nI k)] shM ad σ (fun r σ1 => (∀ x, 413544 ≤ x → x < 413608 → σ1.1 1 x = σ.1 1 x) ∧ TM σ1 ∧ fr false [1] [] σ σ1) := by
  intro sz
  refine z_body (y := yX12_leads) (n := 3) (av := [.ref (ad 0), .int (nI k)]) (Qc := fun A => va_Qi (fun r σ1 => (∀ x, 413544 ≤ x → x < 413608 → σ1.1 1 x = σ.1 1 x) ∧ TM σ1 ∧ fr false [1] [] σ σ1) (PoC G kc shM ad A) A) (plainFor_of_name (by decide)) (Nat.le_of_ble_eq_true rfl) (fun pr e s m below meth c A C0 hr hlk hnm hw hRo ls hl => ?_) sz
  have hx := C0.1
  have hb := C0.2.1
  have hown := C0.2.2.2.1
  have hts := C0.2.2.2.2.1
  have hl : lv_has ls 3 [(0, .ref (ad 0)), (1, .int (nI k))] := hl
  refine lv_aload_n hx hb (dkP dF_42 DX12_leads (i := 0) rfl rfl) rfl (lv_at hl 0 rfl) ?_
  refine z_gr C0 hw 0 1 1 rfl fl_X12_20 (dk2 dF_180 DX12_leads (i := 1) rfl rfl rfl) ?_
  refine lv_iload_n hx hb (dkP dF_27 DX12_leads (i := 2) rfl rfl) rfl (lv_at hl 1 rfl) ?_
  refine lv_iconst (v := 2) hx hb (dkP dF_5 DX12_leads (i := 3) rfl rfl) (by decide) ?_
  refine lv_iadd hx hb (dkP dF_96 DX12_leads (i := 4) rfl rfl) ?_
  refine z_top (y := nI (k + 2)) (by simp only [fa_lit, nI_add, pk_mul]) ?_
  refine z_ialdN (n := 414128) C0 hw 1 (k + 2) rfl (by omega) (by decide) (dkP dF_46 DX12_leads (i := 5) rfl rfl) ?_
  obtain ⟨v1, ev1⟩ : ∃ y : Int32, σ.1 1 (k + 2) = y := ⟨_, rfl⟩
  refine z_top (y := v1) ev1 ?_
  refine lv_if_ne (tgt := 15) hx hb (dkS dF_154 DX12_leads (i := 6) rfl rfl rfl) (by decide) (fun c2 => ?_) (fun c2 => ?_)
  · (try simp (disch := omega) only [ta_lt, ta_le, ta_eq, tnI, tl32 0 (by decide)] at c2)
    refine lv_iconst (v := 0) hx hb (dkP dF_3 DX12_leads (i := 9) rfl rfl) (by decide) ?_
    refine lv_istore_n (lv' := [(2, .int 0), (0, .ref (ad 0)), (1, .int (nI k))]) hx hb (dkP dF_61 DX12_leads (i := 10) rfl rfl) rfl hl (by decide) rfl (fun ls hl => ?_)
    refine lv_iload_n hx hb (dkP dF_28 DX12_leads (i := 11) rfl rfl) rfl (lv_at hl 0 rfl) ?_
    refine lv_if_eq (tgt := 52) hx hb (dkS dF_153 DX12_leads (i := 12) rfl rfl rfl) (by decide) (fun _ => ?_) (fun h => absurd h (by decide))
    refine lv_aload_n hx hb (dkP dF_42 DX12_leads (i := 34) rfl rfl) rfl (lv_at hl 1 rfl) ?_
    refine z_gr C0 hw 0 1 1 rfl fl_X12_20 (dk2 dF_180 DX12_leads (i := 35) rfl rfl rfl) ?_
    refine lv_iload_n hx hb (dkP dF_27 DX12_leads (i := 36) rfl rfl) rfl (lv_at hl 2 rfl) ?_
    refine lv_aload_n hx hb (dkP dF_42 DX12_leads (i := 37) rfl rfl) rfl (lv_at hl 1 rfl) ?_
    refine z_gr C0 hw 0 1 1 rfl fl_X12_20 (dk2 dF_180 DX12_leads (i := 38) rfl rfl rfl) ?_
    refine lv_iload_n hx hb (dkP dF_27 DX12_leads (i := 39) rfl rfl) rfl (lv_at hl 2 rfl) ?_
    refine lv_iconst (v := 1) hx hb (dkP dF_4 DX12_leads (i := 40) rfl rfl) (by decide) ?_
    refine lv_iadd hx hb (dkP dF_96 DX12_leads (i := 41) rfl rfl) ?_
    refine z_top (y := nI (k + 1)) (by simp only [fa_lit, nI_add, pk_mul]) ?_
    refine z_ialdN (n := 414128) C0 hw 1 (k + 1) rfl (by omega) (by decide) (dkP dF_46 DX12_leads (i := 42) rfl rfl) ?_
    obtain ⟨v3, ev3⟩ : ∃ y : Int32, σ.1 1 (k + 1) = y := ⟨_, rfl⟩
    refine z_top (y := v3) ev3 ?_
    refine lv_aload_n hx hb (dkP dF_42 DX12_leads (i := 43) rfl rfl) rfl (lv_at hl 1 rfl) ?_
    refine z_gr C0 hw 0 1 1 rfl fl_X12_20 (dk2 dF_180 DX12_leads (i := 44) rfl rfl rfl) ?_
    refine lv_iconst (v := 4) hx hb (dkP dF_7 DX12_leads (i := 45) rfl rfl) (by decide) ?_
    refine z_ialdN (n := 414128) C0 hw 1 4 rfl (by omega) (by decide) (dkP dF_46 DX12_leads (i := 46) rfl rfl) ?_
    obtain ⟨v4, ev4⟩ : ∃ y : Int32, σ.1 1 4 = y := ⟨_, rfl⟩
    refine z_top (y := v4) ev4 ?_
    refine lv_isub hx hb (dkP dF_100 DX12_leads (i := 47) rfl rfl) ?_
    refine lv_aload_n hx hb (dkP dF_42 DX12_leads (i := 48) rfl rfl) rfl (lv_at hl 1 rfl) ?_
    refine z_gr C0 hw 0 1 1 rfl fl_X12_20 (dk2 dF_180 DX12_leads (i := 49) rfl rfl rfl) ?_
    refine lv_iconst (v := 3) hx hb (dkP dF_6 DX12_leads (i := 50) rfl rfl) (by decide) ?_
    refine z_ialdN (n := 414128) C0 hw 1 3 rfl (by omega) (by decide) (dkP dF_46 DX12_leads (i := 51) rfl rfl) ?_
    obtain ⟨n5, hm5, hn5, en5⟩ := rngP (x := σ.1 1 3) (l := 1) (h := 9) (by decide) (show 1 ≤ _ ∧ _ ≤ 9 from hT 1 3)
    refine z_top (y := nI n5) en5 ?_
    refine zn_I hw (zr_S (As := [.int (v3 - v4), .int (nI n5)]) (rest := [.int (nI k), .ref (ad 1)]) C0 (c_J9_floorDiv_7cf53 l G kc (v3 - v4) (nI n5) (nI_ne (by omega) (by omega)) _) cs_J9_floorDiv_7cf53 lk_X12_481 (zp_P C0 hRo hw a00 s00) rfl hl.1 rfl ⟨by decide, by decide⟩ (Nat.le_of_ble_eq_true rfl) (dk2 dF_184 DX12_leads (i := 52) rfl rfl rfl) ⟨Nat.le_refl _, Nat.le_refl _⟩) (fun r6 s6 H locs hp hw => ?_)
    refine z_iastN (n := 414128) C0 hw 1 k rfl (by omega) (by decide) (dkP dF_79 DX12_leads (i := 53) rfl rfl) (fun H locs hw => ?_)
    have hT7 : TM (sI σ 1 k r6) := TM.w hT (ty_hi (by omega))
    have hF7 : fr false [1] [] σ (sI σ 1 k r6) := fr.w fr.refl (Or.inl ⟨by decide, by decide⟩) (fun h => absurd h (by decide))
    refine lv_aload_n hx hb (dkP dF_42 DX12_leads (i := 54) rfl rfl) rfl (lv_at hl 1 rfl) ?_
    refine z_gr C0 hw 0 1 1 rfl fl_X12_20 (dk2 dF_180 DX12_leads (i := 55) rfl rfl rfl) ?_
    refine lv_iload_n hx hb (dkP dF_27 DX12_leads (i := 56) rfl rfl) rfl (lv_at hl 2 rfl) ?_
    refine lv_iconst (v := 4) hx hb (dkP dF_7 DX12_leads (i := 57) rfl rfl) (by decide) ?_
    refine lv_iadd hx hb (dkP dF_96 DX12_leads (i := 58) rfl rfl) ?_
    refine z_top (y := nI (k + 4)) (by simp only [fa_lit, nI_add, pk_mul]) ?_
    refine lv_iload_n hx hb (dkP dF_28 DX12_leads (i := 59) rfl rfl) rfl (lv_at hl 0 rfl) ?_
    refine lv_if_eq (tgt := 97) hx hb (dkS dF_153 DX12_leads (i := 60) rfl rfl rfl) (by decide) (fun _ => ?_) (fun h => absurd h (by decide))
    refine lv_aload_n hx hb (dkP dF_42 DX12_leads (i := 63) rfl rfl) rfl (lv_at hl 1 rfl) ?_
    refine z_gr C0 hw 0 1 1 rfl fl_X12_20 (dk2 dF_180 DX12_leads (i := 64) rfl rfl rfl) ?_
    refine lv_iload_n hx hb (dkP dF_27 DX12_leads (i := 65) rfl rfl) rfl (lv_at hl 2 rfl) ?_
    refine lv_iconst (v := 1) hx hb (dkP dF_4 DX12_leads (i := 66) rfl rfl) (by decide) ?_
    refine lv_iadd hx hb (dkP dF_96 DX12_leads (i := 67) rfl rfl) ?_
    refine z_top (y := nI (k + 1)) (by simp only [fa_lit, nI_add, pk_mul]) ?_
    refine z_ialdN (n := 414128) C0 hw 1 (k + 1) rfl (by omega) (by decide) (dkP dF_46 DX12_leads (i := 68) rfl rfl) ?_
    refine z_top (y := v3) ((rd_n (by omega)).trans ev3) ?_
    refine lv_aload_n hx hb (dkP dF_42 DX12_leads (i := 69) rfl rfl) rfl (lv_at hl 1 rfl) ?_
    refine z_gr C0 hw 0 1 1 rfl fl_X12_20 (dk2 dF_180 DX12_leads (i := 70) rfl rfl rfl) ?_
    refine lv_iconst (v := 4) hx hb (dkP dF_7 DX12_leads (i := 71) rfl rfl) (by decide) ?_
    refine z_ialdN (n := 414128) C0 hw 1 4 rfl (by omega) (by decide) (dkP dF_46 DX12_leads (i := 72) rfl rfl) ?_
    refine z_top (y := v4) ((rd_n (by omega)).trans ev4) ?_
    refine lv_isub hx hb (dkP dF_100 DX12_leads (i := 73) rfl rfl) ?_
    refine lv_aload_n hx hb (dkP dF_42 DX12_leads (i := 74) rfl rfl) rfl (lv_at hl 1 rfl) ?_
    refine z_gr C0 hw 0 1 1 rfl fl_X12_20 (dk2 dF_180 DX12_leads (i := 75) rfl rfl rfl) ?_
    refine lv_iconst (v := 3) hx hb (dkP dF_6 DX12_leads (i := 76) rfl rfl) (by decide) ?_
    refine z_ialdN (n := 414128) C0 hw 1 3 rfl (by omega) (by decide) (dkP dF_46 DX12_leads (i := 77) rfl rfl) ?_
    refine z_top (y := (nI n5)) ((rd_n (by omega)).trans en5) ?_
    refine zn_I hw (zr_S (As := [.int (v3 - v4), .int (nI n5)]) (rest := [.int (nI (k + 4)), .ref (ad 1)]) C0 (c_J9_floorMod_7cf53 l G kc (v3 - v4) (nI n5) (nI_ne (by omega) (by omega)) _) cs_J9_floorMod_7cf53 lk_X12_484 (zp_P C0 hRo hw a00 s00) rfl hl.1 rfl ⟨by decide, by decide⟩ (Nat.le_of_ble_eq_true rfl) (dk2 dF_184 DX12_leads (i := 78) rfl rfl rfl) ⟨Nat.le_refl _, Nat.le_refl _⟩) (fun r8 s8 H locs hp hw => ?_)
    refine z_iastN (n := 414128) C0 hw 1 (k + 4) rfl (by omega) (by decide) (dkP dF_79 DX12_leads (i := 79) rfl rfl) (fun H locs hw => ?_)
    have hT9 : TM (sI (sI σ 1 k r6) 1 (k + 4) r8) := TM.w hT7 (ty_hi (by omega))
    have hF9 : fr false [1] [] σ (sI (sI σ 1 k r6) 1 (k + 4) r8) := fr.w hF7 (Or.inl ⟨by decide, by decide⟩) (fun h => absurd h (by decide))
    refine lv_aload_n hx hb (dkP dF_42 DX12_leads (i := 80) rfl rfl) rfl (lv_at hl 1 rfl) ?_
    refine z_gr C0 hw 0 1 1 rfl fl_X12_20 (dk2 dF_180 DX12_leads (i := 81) rfl rfl rfl) ?_
    refine lv_iload_n hx hb (dkP dF_27 DX12_leads (i := 82) rfl rfl) rfl (lv_at hl 2 rfl) ?_
    refine lv_iconst (v := 3) hx hb (dkP dF_6 DX12_leads (i := 83) rfl rfl) (by decide) ?_
    refine lv_iadd hx hb (dkP dF_96 DX12_leads (i := 84) rfl rfl) ?_
    refine z_top (y := nI (k + 3)) (by simp only [fa_lit, nI_add, pk_mul]) ?_
    refine lv_iconst (v := 0) hx hb (dkP dF_3 DX12_leads (i := 85) rfl rfl) (by decide) ?_
    refine z_iastN (n := 414128) C0 hw 1 (k + 3) rfl (by omega) (by decide) (dkP dF_79 DX12_leads (i := 86) rfl rfl) (fun H locs hw => ?_)
    have hT10 : TM (sI (sI (sI σ 1 k r6) 1 (k + 4) r8) 1 (k + 3) 0) := TM.w hT9 (ty_hi (by omega))
    have hF10 : fr false [1] [] σ (sI (sI (sI σ 1 k r6) 1 (k + 4) r8) 1 (k + 3) 0) := fr.w hF9 (Or.inl ⟨by decide, by decide⟩) (fun h => absurd h (by decide))
    refine lv_iload_n hx hb (dkP dF_28 DX12_leads (i := 87) rfl rfl) rfl (lv_at hl 0 rfl) ?_
    refine lv_if_eq (tgt := 146) hx hb (dkS dF_153 DX12_leads (i := 88) rfl rfl rfl) (by decide) (fun _ => ?_) (fun h => absurd h (by decide))
    refine lv_aload_n hx hb (dkP dF_42 DX12_leads (i := 96) rfl rfl) rfl (lv_at hl 1 rfl) ?_
    refine z_gr C0 hw 0 1 1 rfl fl_X12_20 (dk2 dF_180 DX12_leads (i := 97) rfl rfl rfl) ?_
    refine lv_iload_n hx hb (dkP dF_27 DX12_leads (i := 98) rfl rfl) rfl (lv_at hl 2 rfl) ?_
    refine z_ialdN (n := 414128) C0 hw 1 k rfl (by omega) (by decide) (dkP dF_46 DX12_leads (i := 99) rfl rfl) ?_
    refine z_top (y := r6) ((rd_n (by omega)).trans ((rd_n (by omega)).trans rd_s)) ?_
    exact z_iret C0 hr hlk hw (⟨(fun x h1 h2 => ((rd_n (by omega)).trans ((rd_n (by omega)).trans ((rd_n (by omega)).trans rfl)))), hT10, hF10⟩) (dkP dF_172 DX12_leads (i := 100) rfl rfl)
  · (try simp (disch := omega) only [ta_lt, ta_le, ta_eq, tnI, tl32 0 (by decide)] at c2)
    refine lv_iconst (v := 1) hx hb (dkP dF_4 DX12_leads (i := 7) rfl rfl) (by decide) ?_
    refine lv_goto (tgt := 16) hx hb (dkS dF_167 DX12_leads (i := 8) rfl rfl rfl) (by decide) ?_
    refine lv_istore_n (lv' := [(2, .int 1), (0, .ref (ad 0)), (1, .int (nI k))]) hx hb (dkP dF_61 DX12_leads (i := 10) rfl rfl) rfl hl (by decide) rfl (fun ls hl => ?_)
    refine lv_iload_n hx hb (dkP dF_28 DX12_leads (i := 11) rfl rfl) rfl (lv_at hl 0 rfl) ?_
    refine lv_if_eq (tgt := 52) hx hb (dkS dF_153 DX12_leads (i := 12) rfl rfl rfl) (by decide) (fun h => absurd h (by decide)) (fun _ => ?_)
    refine lv_aload_n hx hb (dkP dF_42 DX12_leads (i := 13) rfl rfl) rfl (lv_at hl 1 rfl) ?_
    refine z_gr C0 hw 0 1 1 rfl fl_X12_20 (dk2 dF_180 DX12_leads (i := 14) rfl rfl rfl) ?_
    refine lv_iload_n hx hb (dkP dF_27 DX12_leads (i := 15) rfl rfl) rfl (lv_at hl 2 rfl) ?_
    refine lv_iconst (v := 1) hx hb (dkP dF_4 DX12_leads (i := 16) rfl rfl) (by decide) ?_
    refine lv_iadd hx hb (dkP dF_96 DX12_leads (i := 17) rfl rfl) ?_
    refine z_top (y := nI (k + 1)) (by simp only [fa_lit, nI_add, pk_mul]) ?_
    refine lv_aload_n hx hb (dkP dF_42 DX12_leads (i := 18) rfl rfl) rfl (lv_at hl 1 rfl) ?_
    refine z_gr C0 hw 0 1 1 rfl fl_X12_20 (dk2 dF_180 DX12_leads (i := 19) rfl rfl rfl) ?_
    refine lv_iconst (v := 3) hx hb (dkP dF_6 DX12_leads (i := 20) rfl rfl) (by decide) ?_
    refine z_ialdN (n := 414128) C0 hw 1 3 rfl (by omega) (by decide) (dkP dF_46 DX12_leads (i := 21) rfl rfl) ?_
    obtain ⟨n11, hm11, hn11, en11⟩ := rngP (x := σ.1 1 3) (l := 1) (h := 9) (by decide) (show 1 ≤ _ ∧ _ ≤ 9 from hT 1 3)
    refine z_top (y := nI n11) en11 ?_
    refine lv_aload_n hx hb (dkP dF_42 DX12_leads (i := 22) rfl rfl) rfl (lv_at hl 1 rfl) ?_
    refine z_gr C0 hw 0 1 1 rfl fl_X12_20 (dk2 dF_180 DX12_leads (i := 23) rfl rfl rfl) ?_
    refine lv_iload_n hx hb (dkP dF_27 DX12_leads (i := 24) rfl rfl) rfl (lv_at hl 2 rfl) ?_
    refine z_ialdN (n := 414128) C0 hw 1 k rfl (by omega) (by decide) (dkP dF_46 DX12_leads (i := 25) rfl rfl) ?_
    obtain ⟨v12, ev12⟩ : ∃ y : Int32, σ.1 1 k = y := ⟨_, rfl⟩
    refine z_top (y := v12) ev12 ?_
    refine lv_imul hx hb (dkP dF_104 DX12_leads (i := 26) rfl rfl) ?_
    refine lv_aload_n hx hb (dkP dF_42 DX12_leads (i := 27) rfl rfl) rfl (lv_at hl 1 rfl) ?_
    refine z_gr C0 hw 0 1 1 rfl fl_X12_20 (dk2 dF_180 DX12_leads (i := 28) rfl rfl rfl) ?_
    refine lv_iconst (v := 4) hx hb (dkP dF_7 DX12_leads (i := 29) rfl rfl) (by decide) ?_
    refine z_ialdN (n := 414128) C0 hw 1 4 rfl (by omega) (by decide) (dkP dF_46 DX12_leads (i := 30) rfl rfl) ?_
    obtain ⟨v13, ev13⟩ : ∃ y : Int32, σ.1 1 4 = y := ⟨_, rfl⟩
    refine z_top (y := v13) ev13 ?_
    refine lv_iadd hx hb (dkP dF_96 DX12_leads (i := 31) rfl rfl) ?_
    refine z_iastN (n := 414128) C0 hw 1 (k + 1) rfl (by omega) (by decide) (dkP dF_79 DX12_leads (i := 32) rfl rfl) (fun H locs hw => ?_)
    have hT14 : TM (sI σ 1 (k + 1) (((nI n11) * v12) + v13)) := TM.w hT (ty_hi (by omega))
    have hF14 : fr false [1] [] σ (sI σ 1 (k + 1) (((nI n11) * v12) + v13)) := fr.w fr.refl (Or.inl ⟨by decide, by decide⟩) (fun h => absurd h (by decide))
    refine lv_goto (tgt := 82) hx hb (dkS dF_167 DX12_leads (i := 33) rfl rfl rfl) (by decide) ?_
    refine lv_aload_n hx hb (dkP dF_42 DX12_leads (i := 54) rfl rfl) rfl (lv_at hl 1 rfl) ?_
    refine z_gr C0 hw 0 1 1 rfl fl_X12_20 (dk2 dF_180 DX12_leads (i := 55) rfl rfl rfl) ?_
    refine lv_iload_n hx hb (dkP dF_27 DX12_leads (i := 56) rfl rfl) rfl (lv_at hl 2 rfl) ?_
    refine lv_iconst (v := 4) hx hb (dkP dF_7 DX12_leads (i := 57) rfl rfl) (by decide) ?_
    refine lv_iadd hx hb (dkP dF_96 DX12_leads (i := 58) rfl rfl) ?_
    refine z_top (y := nI (k + 4)) (by simp only [fa_lit, nI_add, pk_mul]) ?_
    refine lv_iload_n hx hb (dkP dF_28 DX12_leads (i := 59) rfl rfl) rfl (lv_at hl 0 rfl) ?_
    refine lv_if_eq (tgt := 97) hx hb (dkS dF_153 DX12_leads (i := 60) rfl rfl rfl) (by decide) (fun h => absurd h (by decide)) (fun _ => ?_)
    refine lv_iconst (v := 0) hx hb (dkP dF_3 DX12_leads (i := 61) rfl rfl) (by decide) ?_
    refine lv_goto (tgt := 121) hx hb (dkS dF_167 DX12_leads (i := 62) rfl rfl rfl) (by decide) ?_
    refine z_iastN (n := 414128) C0 hw 1 (k + 4) rfl (by omega) (by decide) (dkP dF_79 DX12_leads (i := 79) rfl rfl) (fun H locs hw => ?_)
    have hT15 : TM (sI (sI σ 1 (k + 1) (((nI n11) * v12) + v13)) 1 (k + 4) 0) := TM.w hT14 (ty_hi (by omega))
    have hF15 : fr false [1] [] σ (sI (sI σ 1 (k + 1) (((nI n11) * v12) + v13)) 1 (k + 4) 0) := fr.w hF14 (Or.inl ⟨by decide, by decide⟩) (fun h => absurd h (by decide))
    refine lv_aload_n hx hb (dkP dF_42 DX12_leads (i := 80) rfl rfl) rfl (lv_at hl 1 rfl) ?_
    refine z_gr C0 hw 0 1 1 rfl fl_X12_20 (dk2 dF_180 DX12_leads (i := 81) rfl rfl rfl) ?_
    refine lv_iload_n hx hb (dkP dF_27 DX12_leads (i := 82) rfl rfl) rfl (lv_at hl 2 rfl) ?_
    refine lv_iconst (v := 3) hx hb (dkP dF_6 DX12_leads (i := 83) rfl rfl) (by decide) ?_
    refine lv_iadd hx hb (dkP dF_96 DX12_leads (i := 84) rfl rfl) ?_
    refine z_top (y := nI (k + 3)) (by simp only [fa_lit, nI_add, pk_mul]) ?_
    refine lv_iconst (v := 0) hx hb (dkP dF_3 DX12_leads (i := 85) rfl rfl) (by decide) ?_
    refine z_iastN (n := 414128) C0 hw 1 (k + 3) rfl (by omega) (by decide) (dkP dF_79 DX12_leads (i := 86) rfl rfl) (fun H locs hw => ?_)
    have hT16 : TM (sI (sI (sI σ 1 (k + 1) (((nI n11) * v12) + v13)) 1 (k + 4) 0) 1 (k + 3) 0) := TM.w hT15 (ty_hi (by omega))
    have hF16 : fr false [1] [] σ (sI (sI (sI σ 1 (k + 1) (((nI n11) * v12) + v13)) 1 (k + 4) 0) 1 (k + 3) 0) := fr.w hF15 (Or.inl ⟨by decide, by decide⟩) (fun h => absurd h (by decide))
    refine lv_iload_n hx hb (dkP dF_28 DX12_leads (i := 87) rfl rfl) rfl (lv_at hl 0 rfl) ?_
    refine lv_if_eq (tgt := 146) hx hb (dkS dF_153 DX12_leads (i := 88) rfl rfl rfl) (by decide) (fun h => absurd h (by decide)) (fun _ => ?_)
    refine lv_aload_n hx hb (dkP dF_42 DX12_leads (i := 89) rfl rfl) rfl (lv_at hl 1 rfl) ?_
    refine z_gr C0 hw 0 1 1 rfl fl_X12_20 (dk2 dF_180 DX12_leads (i := 90) rfl rfl rfl) ?_
    refine lv_iload_n hx hb (dkP dF_27 DX12_leads (i := 91) rfl rfl) rfl (lv_at hl 2 rfl) ?_
    refine lv_iconst (v := 1) hx hb (dkP dF_4 DX12_leads (i := 92) rfl rfl) (by decide) ?_
    refine lv_iadd hx hb (dkP dF_96 DX12_leads (i := 93) rfl rfl) ?_
    refine z_top (y := nI (k + 1)) (by simp only [fa_lit, nI_add, pk_mul]) ?_
    refine z_ialdN (n := 414128) C0 hw 1 (k + 1) rfl (by omega) (by decide) (dkP dF_46 DX12_leads (i := 94) rfl rfl) ?_
    obtain ⟨v17, ev17⟩ : ∃ y : Int32, (sI (sI (sI σ 1 (k + 1) (((nI n11) * v12) + v13)) 1 (k + 4) 0) 1 (k + 3) 0).1 1 (k + 1) = y := ⟨_, rfl⟩
    refine z_top (y := v17) ev17 ?_
    refine lv_goto (tgt := 152) hx hb (dkS dF_167 DX12_leads (i := 95) rfl rfl rfl) (by decide) ?_
    exact z_iret C0 hr hlk hw (⟨(fun x h1 h2 => ((rd_n (by omega)).trans ((rd_n (by omega)).trans ((rd_n (by omega)).trans rfl)))), hT16, hF16⟩) (dkP dF_172 DX12_leads (i := 100) rfl rfl)
set_option maxRecDepth 100000 in
set_option maxHeartbeats 8000000 in
theorem c_X12_form_q (l : Launch) (G : va_G) (kc : KC) (ad : Nat → Nat) (σ : Sg) (fm : Int32) (fk : Int32) (hT : TM σ) : MI l G kc yX12_form cX12_form 4 (some .int) 2 44 [.ref (ad 0), .int fm, .int fk] shM ad σ (fun r σ1 => (FMQ fm fk r) ∧ (∀ k, 413544 ≤ k → k < 413608 → σ1.1 1 k = σ.1 1 k) ∧ TM σ1 ∧ fr false [1] [] σ σ1) := by
  intro sz
  refine z_body (y := yX12_form) (n := 4) (av := [.ref (ad 0), .int fm, .int fk]) (Qc := fun A => va_Qi (fun r σ1 => (FMQ fm fk r) ∧ (∀ k, 413544 ≤ k → k < 413608 → σ1.1 1 k = σ.1 1 k) ∧ TM σ1 ∧ fr false [1] [] σ σ1) (PoC G kc shM ad A) A) (plainFor_of_name (by decide)) (Nat.le_of_ble_eq_true rfl) (fun pr e s m below meth c A C0 hr hlk hnm hw hRo ls hl => ?_) sz
  have hx := C0.1
  have hb := C0.2.1
  have hown := C0.2.2.2.1
  have hts := C0.2.2.2.2.1
  have hl : lv_has ls 4 [(0, .ref (ad 0)), (1, .int fm), (2, .int fk)] := hl
  refine lv_iload_n hx hb (dkP dF_27 DX12_form (i := 0) rfl rfl) rfl (lv_at hl 1 rfl) ?_
  refine lv_i2l hx hb (dkP dF_133 DX12_form (i := 1) rfl rfl) rfl ?_
  refine lv_lconst (v := 1) hx hb (dkP dF_10 DX12_form (i := 2) rfl rfl) (by decide) ?_
  refine lv_ldc2 hx hb hown (hts _ kn_X12_487) (dk2 dF_20 DX12_form (i := 3) rfl rfl rfl) ?_
  refine zn_I hw (zr_S (As := [.long fm.toInt64, .long 1, .long 9]) (rest := []) C0 (c_X12_in l G kc fm.toInt64 1 9  _) cs_X12_in lk_X12_9 (zp_P C0 hRo hw a00 s00) rfl hl.1 rfl ⟨by decide, by decide⟩ (Nat.le_of_ble_eq_true rfl) (dk2 dF_184 DX12_form (i := 4) rfl rfl rfl) ⟨Nat.le_refl _, Nat.le_refl _⟩) (fun r1 s1 H locs hp hw => ?_)
  rcases hp with ⟨rfl, hc1⟩ | ⟨rfl, hc1⟩
  · skip
    (try simp (disch := omega) only [ta_lt, ta_le, ta_eq, tb_lt, tb_le, tb_eq, tw, tnI, tn32 1 (by decide), tnj 1 (by decide), tl32 0 (by decide), tl64 0 (by decide), tl32 1 (by decide), tl64 1 (by decide), tl32 9 (by decide), tl64 9 (by decide)] at hc1)
    refine lv_if_eq (tgt := 26) hx hb (dkS dF_153 DX12_form (i := 5) rfl rfl rfl) (by decide) (fun h => absurd h (by decide)) (fun _ => ?_)
    refine lv_iload_n hx hb (dkP dF_28 DX12_form (i := 6) rfl rfl) rfl (lv_at hl 2 rfl) ?_
    refine lv_i2l hx hb (dkP dF_133 DX12_form (i := 7) rfl rfl) rfl ?_
    refine lv_ldc2 hx hb hown (hts _ kn_X12_335) (dk2 dF_20 DX12_form (i := 8) rfl rfl rfl) ?_
    refine lv_ldc2 hx hb hown (hts _ kn_X12_337) (dk2 dF_20 DX12_form (i := 9) rfl rfl rfl) ?_
    refine zn_I hw (zr_S (As := [.long fk.toInt64, .long (-99), .long 99]) (rest := []) C0 (c_X12_in l G kc fk.toInt64 (-99) 99  _) cs_X12_in lk_X12_9 (zp_P C0 hRo hw a00 s00) rfl hl.1 rfl ⟨by decide, by decide⟩ (Nat.le_of_ble_eq_true rfl) (dk2 dF_184 DX12_form (i := 10) rfl rfl rfl) ⟨Nat.le_refl _, Nat.le_refl _⟩) (fun r2 s2 H locs hp hw => ?_)
    rcases hp with ⟨rfl, hc2⟩ | ⟨rfl, hc2⟩
    · skip
      (try simp (disch := omega) only [ta_lt, ta_le, ta_eq, tb_lt, tb_le, tb_eq, tw, tnI, tn32 99 (by decide), tnj 99 (by decide), tn32 1 (by decide), tnj 1 (by decide), tl32 0 (by decide), tl64 0 (by decide), tl32 1 (by decide), tl64 1 (by decide), tl32 9 (by decide), tl64 9 (by decide), tl32 99 (by decide), tl64 99 (by decide)] at hc2)
      refine lv_if_ne (tgt := 29) hx hb (dkS dF_154 DX12_form (i := 11) rfl rfl rfl) (by decide) (fun _ => ?_) (fun h => absurd h (by decide))
      refine lv_aload_n hx hb (dkP dF_42 DX12_form (i := 14) rfl rfl) rfl (lv_at hl 0 rfl) ?_
      refine z_gr C0 hw 0 1 1 rfl fl_X12_20 (dk2 dF_180 DX12_form (i := 15) rfl rfl rfl) ?_
      refine lv_iconst (v := 3) hx hb (dkP dF_6 DX12_form (i := 16) rfl rfl) (by decide) ?_
      refine lv_iload_n hx hb (dkP dF_27 DX12_form (i := 17) rfl rfl) rfl (lv_at hl 1 rfl) ?_
      refine z_iastN (n := 414128) C0 hw 1 3 rfl (by omega) (by decide) (dkP dF_79 DX12_form (i := 18) rfl rfl) (fun H locs hw => ?_)
      have hT3 : TM (sI σ 1 3 fm) := TM.w hT (show 1 ≤ _ ∧ _ ≤ 9 from by (try simp only [lg_cmp_lt, lg_cmp_le, lg_cmp_gt, lg_cmp_ge, lg_cmp_eq] at hc1); (try simp (disch := omega) only [ta_lt, ta_le, ta_eq, tb_lt, tb_le, tb_eq, tw, tnI, tsub1, tsv, tn32 99 (by decide), tnj 99 (by decide), tn32 1 (by decide), tnj 1 (by decide), tl32 0 (by decide), tl64 0 (by decide), tl32 1 (by decide), tl64 1 (by decide), tl32 3 (by decide), tl64 3 (by decide), tl32 9 (by decide), tl64 9 (by decide), tl32 99 (by decide), tl64 99 (by decide)] at hc1); (try simp only [lg_cmp_lt, lg_cmp_le, lg_cmp_gt, lg_cmp_ge, lg_cmp_eq] at hc2); (try simp (disch := omega) only [ta_lt, ta_le, ta_eq, tb_lt, tb_le, tb_eq, tw, tnI, tsub1, tsv, tn32 99 (by decide), tnj 99 (by decide), tn32 1 (by decide), tnj 1 (by decide), tl32 0 (by decide), tl64 0 (by decide), tl32 1 (by decide), tl64 1 (by decide), tl32 3 (by decide), tl64 3 (by decide), tl32 9 (by decide), tl64 9 (by decide), tl32 99 (by decide), tl64 99 (by decide)] at hc2); (try simp (disch := omega) only [ta_lt, ta_le, ta_eq, tb_lt, tb_le, tb_eq, tw, tnI, tsub1, tsv, tn32 99 (by decide), tnj 99 (by decide), tn32 1 (by decide), tnj 1 (by decide), tl32 0 (by decide), tl64 0 (by decide), tl32 1 (by decide), tl64 1 (by decide), tl32 3 (by decide), tl64 3 (by decide), tl32 9 (by decide), tl64 9 (by decide), tl32 99 (by decide), tl64 99 (by decide)]); omega)
      have hF3 : fr false [1] [] σ (sI σ 1 3 fm) := fr.w fr.refl (Or.inl ⟨by decide, by decide⟩) (fun h => absurd h (by decide))
      refine lv_aload_n hx hb (dkP dF_42 DX12_form (i := 19) rfl rfl) rfl (lv_at hl 0 rfl) ?_
      refine z_gr C0 hw 0 1 1 rfl fl_X12_20 (dk2 dF_180 DX12_form (i := 20) rfl rfl rfl) ?_
      refine lv_iconst (v := 4) hx hb (dkP dF_7 DX12_form (i := 21) rfl rfl) (by decide) ?_
      refine lv_iload_n hx hb (dkP dF_28 DX12_form (i := 22) rfl rfl) rfl (lv_at hl 2 rfl) ?_
      refine z_iastN (n := 414128) C0 hw 1 4 rfl (by omega) (by decide) (dkP dF_79 DX12_form (i := 23) rfl rfl) (fun H locs hw => ?_)
      have hT4 : TM (sI (sI σ 1 3 fm) 1 4 fk) := TM.w hT3 (ty_k (by decide))
      have hF4 : fr false [1] [] σ (sI (sI σ 1 3 fm) 1 4 fk) := fr.w hF3 (Or.inl ⟨by decide, by decide⟩) (fun h => absurd h (by decide))
      refine lv_iconst (v := 0) hx hb (dkP dF_3 DX12_form (i := 24) rfl rfl) (by decide) ?_
      refine lv_istore_n (lv' := [(3, .int 0), (0, .ref (ad 0)), (1, .int fm), (2, .int fk)]) hx hb (dkP dF_62 DX12_form (i := 25) rfl rfl) rfl hl (by decide) rfl (fun ls hl => ?_)
      have lp6 : ∀ (nq : Nat) (q3_45 : Nat) (τ5 : Sg) (H : Heap) (locs : List Loc) (ls : Array Slot), 20 - q3_45 < nq → (q3_45 ≤ 20) → (∀ k, 413544 ≤ k → k < 413608 → τ5.1 1 k = σ.1 1 k) → (TM τ5) → (fr false [1] [] σ τ5) → St G kc A s.heap shM ad τ5 H locs → lv_has ls 4 [(3, .int (nI q3_45)), (0, .ref (ad 0)), (1, .int fm), (2, .int fk)] → W pr l e { frames := 2, cells := 0, slots := 0, locals := 44 } s m ([.ref (ad 0), .int fm, .int fk] : List Value).toArray below meth c H locs 0 0 (MQ below (va_Qi (fun r σ1 => (FMQ fm fk r) ∧ (∀ k, 413544 ≤ k → k < 413608 → σ1.1 1 k = σ.1 1 k) ∧ TM σ1 ∧ fr false [1] [] σ σ1) (PoC G kc shM ad A) A) ([.ref (ad 0), .int fm, .int fk] : List Value).toArray s 0 0 A) (F0 m 45 ls []) := by
        intro nq
        induction nq with
        | zero => intro q3_45 τ5 H locs ls hmu; exact absurd hmu (Nat.not_lt_zero _)
        | succ nq ih6 =>
          intro q3_45 τ5 H locs ls hmu hq3_45 hndk hT_τ5 hF_τ5 hw hl
          refine lv_iload_n hx hb (dkP dF_29 DX12_form (i := 26) rfl rfl) rfl (lv_at hl 0 rfl) ?_
          refine lv_bipush (v := 20) hx hb (dks dF_16 DX12_form (i := 27) rfl rfl rfl) (by decide) ?_
          refine lv_icmp_ge (tgt := 66) hx hb (dkS dF_162 DX12_form (i := 28) rfl rfl rfl) (by decide) (fun c7 => ?_) (fun c7 => ?_)
          · simp (disch := omega) only [ta_lt, ta_le, ta_eq, tnI, tl32 20 (by decide)] at c7
            refine lv_iconst (v := 0) hx hb (dkP dF_3 DX12_form (i := 36) rfl rfl) (by decide) ?_
            exact z_iret C0 hr hlk hw (⟨(by unfold FMQ; right; refine ⟨?_, ?_, ?_, ?_, rfl⟩ <;> ((try simp only [lg_cmp_lt, lg_cmp_le, lg_cmp_gt, lg_cmp_ge, lg_cmp_eq] at hc1); (try simp (disch := omega) only [ta_lt, ta_le, ta_eq, tb_lt, tb_le, tb_eq, tw, tnI, tsub1, tsv, tn32 99 (by decide), tnj 99 (by decide), tn32 1 (by decide), tnj 1 (by decide), tl32 0 (by decide), tl64 0 (by decide), tl32 1 (by decide), tl64 1 (by decide), tl32 3 (by decide), tl64 3 (by decide), tl32 4 (by decide), tl64 4 (by decide), tl32 9 (by decide), tl64 9 (by decide), tl32 20 (by decide), tl64 20 (by decide), tl32 99 (by decide), tl64 99 (by decide)] at hc1); (try simp only [lg_cmp_lt, lg_cmp_le, lg_cmp_gt, lg_cmp_ge, lg_cmp_eq] at hc2); (try simp (disch := omega) only [ta_lt, ta_le, ta_eq, tb_lt, tb_le, tb_eq, tw, tnI, tsub1, tsv, tn32 99 (by decide), tnj 99 (by decide), tn32 1 (by decide), tnj 1 (by decide), tl32 0 (by decide), tl64 0 (by decide), tl32 1 (by decide), tl64 1 (by decide), tl32 3 (by decide), tl64 3 (by decide), tl32 4 (by decide), tl64 4 (by decide), tl32 9 (by decide), tl64 9 (by decide), tl32 20 (by decide), tl64 20 (by decide), tl32 99 (by decide), tl64 99 (by decide)] at hc2); (try simp only [lg_cmp_lt, lg_cmp_le, lg_cmp_gt, lg_cmp_ge, lg_cmp_eq] at c7); (try simp (disch := omega) only [ta_lt, ta_le, ta_eq, tb_lt, tb_le, tb_eq, tw, tnI, tsub1, tsv, tn32 99 (by decide), tnj 99 (by decide), tn32 1 (by decide), tnj 1 (by decide), tl32 0 (by decide), tl64 0 (by decide), tl32 1 (by decide), tl64 1 (by decide), tl32 3 (by decide), tl64 3 (by decide), tl32 4 (by decide), tl64 4 (by decide), tl32 9 (by decide), tl64 9 (by decide), tl32 20 (by decide), tl64 20 (by decide), tl32 99 (by decide), tl64 99 (by decide)] at c7); (try simp (disch := omega) only [ta_lt, ta_le, ta_eq, tb_lt, tb_le, tb_eq, tw, tnI, tsub1, tsv, tn32 99 (by decide), tnj 99 (by decide), tn32 1 (by decide), tnj 1 (by decide), tl32 0 (by decide), tl64 0 (by decide), tl32 1 (by decide), tl64 1 (by decide), tl32 3 (by decide), tl64 3 (by decide), tl32 4 (by decide), tl64 4 (by decide), tl32 9 (by decide), tl64 9 (by decide), tl32 20 (by decide), tl64 20 (by decide), tl32 99 (by decide), tl64 99 (by decide)]); omega)), hndk, hT_τ5, hF_τ5⟩) (dkP dF_172 DX12_form (i := 37) rfl rfl)
          · simp (disch := omega) only [ta_lt, ta_le, ta_eq, tnI, tl32 20 (by decide)] at c7
            refine lv_aload_n hx hb (dkP dF_42 DX12_form (i := 29) rfl rfl) rfl (lv_at hl 1 rfl) ?_
            refine lv_iload_n hx hb (dkP dF_29 DX12_form (i := 30) rfl rfl) rfl (lv_at hl 0 rfl) ?_
            refine zn_I hw (zr_S (As := [.int (nI q3_45)]) (rest := [.ref (ad 0)]) C0 (c_X12_rowAt l G kc q3_45  _) cs_X12_rowAt lk_X12_489 (zp_P C0 hRo hw a00 s00) rfl hl.1 rfl ⟨by decide, by decide⟩ (Nat.le_of_ble_eq_true rfl) (dk2 dF_184 DX12_form (i := 31) rfl rfl rfl) ⟨Nat.le_refl _, Nat.le_refl _⟩) (fun r8 s8 H locs hp hw => ?_)
            subst hp
            refine zk_I hw (zr_V (As := [.int (nI (414028 + 5 * q3_45))]) (rest := []) C0 (c_X12_leads_q l G kc ad τ5 (414028 + 5 * q3_45) (by first | omega | assumption | decide | rfl) (by first | omega | assumption | decide | rfl) hT_τ5 _) cv_X12_leads lk_X12_492 (zp_V C0 hRo hw 0 rfl rfl rfl) rfl hl.1 rfl ⟨by decide, by decide⟩ (Nat.le_of_ble_eq_true rfl) (dk2 dF_182 DX12_form (i := 32) rfl rfl rfl) ⟨Nat.le_refl _, Nat.le_refl _⟩) (fun r9 s9 H locs hp hw => ?_)
            obtain ⟨f9_0, hT9, hG9⟩ := hp
            have hF9 : fr false [1] [] σ s9 := fr.t hF_τ5 hG9 (by decide) (by decide) (by decide)
            refine lv_pop hx hb (dkP dF_87 DX12_form (i := 33) rfl rfl) rfl ?_
            refine lv_iinc (v := nI (q3_45 + 1)) (lv' := [(3, .int (nI (q3_45 + 1))), (0, .ref (ad 0)), (1, .int fm), (2, .int fk)]) hx hb (dkI DX12_form (i := 34) rfl rfl rfl rfl) hl (k := 0) rfl (nI_1 _) (by decide) rfl (fun ls hl => ?_)
            refine lv_goto (tgt := 45) hx hb (dkS dF_167 DX12_form (i := 35) rfl rfl rfl) (by decide) ?_
            exact ih6 (q3_45 + 1) s9 _ _ _ (by omega) (by (try simp only [lg_cmp_lt, lg_cmp_le, lg_cmp_gt, lg_cmp_ge, lg_cmp_eq] at hc1); (try simp (disch := omega) only [ta_lt, ta_le, ta_eq, tb_lt, tb_le, tb_eq, tw, tnI, tsub1, tsv, tn32 99 (by decide), tnj 99 (by decide), tn32 1 (by decide), tnj 1 (by decide), tl32 0 (by decide), tl64 0 (by decide), tl32 1 (by decide), tl64 1 (by decide), tl32 3 (by decide), tl64 3 (by decide), tl32 4 (by decide), tl64 4 (by decide), tl32 9 (by decide), tl64 9 (by decide), tl32 20 (by decide), tl64 20 (by decide), tl32 99 (by decide), tl64 99 (by decide)] at hc1); (try simp only [lg_cmp_lt, lg_cmp_le, lg_cmp_gt, lg_cmp_ge, lg_cmp_eq] at hc2); (try simp (disch := omega) only [ta_lt, ta_le, ta_eq, tb_lt, tb_le, tb_eq, tw, tnI, tsub1, tsv, tn32 99 (by decide), tnj 99 (by decide), tn32 1 (by decide), tnj 1 (by decide), tl32 0 (by decide), tl64 0 (by decide), tl32 1 (by decide), tl64 1 (by decide), tl32 3 (by decide), tl64 3 (by decide), tl32 4 (by decide), tl64 4 (by decide), tl32 9 (by decide), tl64 9 (by decide), tl32 20 (by decide), tl64 20 (by decide), tl32 99 (by decide), tl64 99 (by decide)] at hc2); (try simp only [lg_cmp_lt, lg_cmp_le, lg_cmp_gt, lg_cmp_ge, lg_cmp_eq] at c7); (try simp (disch := omega) only [ta_lt, ta_le, ta_eq, tb_lt, tb_le, tb_eq, tw, tnI, tsub1, tsv, tn32 99 (by decide), tnj 99 (by decide), tn32 1 (by decide), tnj 1 (by decide), tl32 0 (by decide), tl64 0 (by decide), tl32 1 (by decide), tl64 1 (by decide), tl32 3 (by decide), tl64 3 (by decide), tl32 4 (by decide), tl64 4 (by decide), tl32 9 (by decide), tl64 9 (by decide), tl32 20 (by decide), tl64 20 (by decide), tl32 99 (by decide), tl64 99 (by decide)] at c7); (try simp only [lg_cmp_lt, lg_cmp_le, lg_cmp_gt, lg_cmp_ge, lg_cmp_eq] at f9_0); (try simp (disch := omega) only [ta_lt, ta_le, ta_eq, tb_lt, tb_le, tb_eq, tw, tnI, tsub1, tsv, tn32 99 (by decide), tnj 99 (by decide), tn32 1 (by decide), tnj 1 (by decide), tl32 0 (by decide), tl64 0 (by decide), tl32 1 (by decide), tl64 1 (by decide), tl32 3 (by decide), tl64 3 (by decide), tl32 4 (by decide), tl64 4 (by decide), tl32 9 (by decide), tl64 9 (by decide), tl32 20 (by decide), tl64 20 (by decide), tl32 99 (by decide), tl64 99 (by decide)] at f9_0); (try simp (disch := omega) only [ta_lt, ta_le, ta_eq, tb_lt, tb_le, tb_eq, tw, tnI, tsub1, tsv, tn32 99 (by decide), tnj 99 (by decide), tn32 1 (by decide), tnj 1 (by decide), tl32 0 (by decide), tl64 0 (by decide), tl32 1 (by decide), tl64 1 (by decide), tl32 3 (by decide), tl64 3 (by decide), tl32 4 (by decide), tl64 4 (by decide), tl32 9 (by decide), tl64 9 (by decide), tl32 20 (by decide), tl64 20 (by decide), tl32 99 (by decide), tl64 99 (by decide)]); omega) (fun k h1 h2 => (f9_0 k h1 h2).trans (hndk k h1 h2)) hT9 hF9 hw (lv_sub hl [0, 1, 2, 3] rfl)
      exact lp6 _ 0 (sI (sI σ 1 3 fm) 1 4 fk) _ _ _ (Nat.lt_succ_self _) (by (try simp only [lg_cmp_lt, lg_cmp_le, lg_cmp_gt, lg_cmp_ge, lg_cmp_eq] at hc1); (try simp (disch := omega) only [ta_lt, ta_le, ta_eq, tb_lt, tb_le, tb_eq, tw, tnI, tsub1, tsv, tn32 99 (by decide), tnj 99 (by decide), tn32 1 (by decide), tnj 1 (by decide), tl32 0 (by decide), tl64 0 (by decide), tl32 1 (by decide), tl64 1 (by decide), tl32 3 (by decide), tl64 3 (by decide), tl32 4 (by decide), tl64 4 (by decide), tl32 9 (by decide), tl64 9 (by decide), tl32 20 (by decide), tl64 20 (by decide), tl32 99 (by decide), tl64 99 (by decide)] at hc1); (try simp only [lg_cmp_lt, lg_cmp_le, lg_cmp_gt, lg_cmp_ge, lg_cmp_eq] at hc2); (try simp (disch := omega) only [ta_lt, ta_le, ta_eq, tb_lt, tb_le, tb_eq, tw, tnI, tsub1, tsv, tn32 99 (by decide), tnj 99 (by decide), tn32 1 (by decide), tnj 1 (by decide), tl32 0 (by decide), tl64 0 (by decide), tl32 1 (by decide), tl64 1 (by decide), tl32 3 (by decide), tl64 3 (by decide), tl32 4 (by decide), tl64 4 (by decide), tl32 9 (by decide), tl64 9 (by decide), tl32 20 (by decide), tl64 20 (by decide), tl32 99 (by decide), tl64 99 (by decide)] at hc2); (try simp (disch := omega) only [ta_lt, ta_le, ta_eq, tb_lt, tb_le, tb_eq, tw, tnI, tsub1, tsv, tn32 99 (by decide), tnj 99 (by decide), tn32 1 (by decide), tnj 1 (by decide), tl32 0 (by decide), tl64 0 (by decide), tl32 1 (by decide), tl64 1 (by decide), tl32 3 (by decide), tl64 3 (by decide), tl32 4 (by decide), tl64 4 (by decide), tl32 9 (by decide), tl64 9 (by decide), tl32 20 (by decide), tl64 20 (by decide), tl32 99 (by decide), tl64 99 (by decide)]); omega) (fun k h1 h2 => ((rd_n (by omega)).trans ((rd_n (by omega)).trans rfl))) hT4 hF4 hw (lv_sub hl [0, 1, 2, 3] rfl)
    · skip
      (try simp (disch := omega) only [ta_lt, ta_le, ta_eq, tb_lt, tb_le, tb_eq, tw, tnI, tn32 99 (by decide), tnj 99 (by decide), tn32 1 (by decide), tnj 1 (by decide), tl32 0 (by decide), tl64 0 (by decide), tl32 1 (by decide), tl64 1 (by decide), tl32 3 (by decide), tl64 3 (by decide), tl32 4 (by decide), tl64 4 (by decide), tl32 9 (by decide), tl64 9 (by decide), tl32 20 (by decide), tl64 20 (by decide), tl32 99 (by decide), tl64 99 (by decide)] at hc2)
      refine lv_if_ne (tgt := 29) hx hb (dkS dF_154 DX12_form (i := 11) rfl rfl rfl) (by decide) (fun h => absurd h (by decide)) (fun _ => ?_)
      refine lv_bipush (v := (-2)) hx hb (dks dF_16 DX12_form (i := 12) rfl rfl rfl) (by decide) ?_
      exact z_iret C0 hr hlk hw (⟨(by unfold FMQ; left; refine ⟨?_, rfl⟩; (try simp only [lg_cmp_lt, lg_cmp_le, lg_cmp_gt, lg_cmp_ge, lg_cmp_eq] at hc1); (try simp (disch := omega) only [ta_lt, ta_le, ta_eq, tb_lt, tb_le, tb_eq, tw, tnI, tsub1, tsv, tn32 99 (by decide), tnj 99 (by decide), tn32 2 (by decide), tnj 2 (by decide), tn32 1 (by decide), tnj 1 (by decide), tl32 0 (by decide), tl64 0 (by decide), tl32 1 (by decide), tl64 1 (by decide), tl32 3 (by decide), tl64 3 (by decide), tl32 4 (by decide), tl64 4 (by decide), tl32 9 (by decide), tl64 9 (by decide), tl32 20 (by decide), tl64 20 (by decide), tl32 99 (by decide), tl64 99 (by decide)] at hc1); (try simp only [lg_cmp_lt, lg_cmp_le, lg_cmp_gt, lg_cmp_ge, lg_cmp_eq] at hc2); (try simp (disch := omega) only [ta_lt, ta_le, ta_eq, tb_lt, tb_le, tb_eq, tw, tnI, tsub1, tsv, tn32 99 (by decide), tnj 99 (by decide), tn32 2 (by decide), tnj 2 (by decide), tn32 1 (by decide), tnj 1 (by decide), tl32 0 (by decide), tl64 0 (by decide), tl32 1 (by decide), tl64 1 (by decide), tl32 3 (by decide), tl64 3 (by decide), tl32 4 (by decide), tl64 4 (by decide), tl32 9 (by decide), tl64 9 (by decide), tl32 20 (by decide), tl64 20 (by decide), tl32 99 (by decide), tl64 99 (by decide)] at hc2); (try simp (disch := omega) only [ta_lt, ta_le, ta_eq, tb_lt, tb_le, tb_eq, tw, tnI, tsub1, tsv, tn32 99 (by decide), tnj 99 (by decide), tn32 2 (by decide), tnj 2 (by decide), tn32 1 (by decide), tnj 1 (by decide), tl32 0 (by decide), tl64 0 (by decide), tl32 1 (by decide), tl64 1 (by decide), tl32 3 (by decide), tl64 3 (by decide), tl32 4 (by decide), tl64 4 (by decide), tl32 9 (by decide), tl64 9 (by decide), tl32 20 (by decide), tl64 20 (by decide), tl32 99 (by decide), tl64 99 (by decide)]); omega), (fun k h1 h2 => rfl), hT, fr.refl⟩) (dkP dF_172 DX12_form (i := 13) rfl rfl)
  · skip
    (try simp (disch := omega) only [ta_lt, ta_le, ta_eq, tb_lt, tb_le, tb_eq, tw, tnI, tn32 99 (by decide), tnj 99 (by decide), tn32 2 (by decide), tnj 2 (by decide), tn32 1 (by decide), tnj 1 (by decide), tl32 0 (by decide), tl64 0 (by decide), tl32 1 (by decide), tl64 1 (by decide), tl32 3 (by decide), tl64 3 (by decide), tl32 4 (by decide), tl64 4 (by decide), tl32 9 (by decide), tl64 9 (by decide), tl32 20 (by decide), tl64 20 (by decide), tl32 99 (by decide), tl64 99 (by decide)] at hc1)
    refine lv_if_eq (tgt := 26) hx hb (dkS dF_153 DX12_form (i := 5) rfl rfl rfl) (by decide) (fun _ => ?_) (fun h => absurd h (by decide))
    refine lv_bipush (v := (-2)) hx hb (dks dF_16 DX12_form (i := 12) rfl rfl rfl) (by decide) ?_
    exact z_iret C0 hr hlk hw (⟨(by unfold FMQ; left; refine ⟨?_, rfl⟩; (try simp only [lg_cmp_lt, lg_cmp_le, lg_cmp_gt, lg_cmp_ge, lg_cmp_eq] at hc1); (try simp (disch := omega) only [ta_lt, ta_le, ta_eq, tb_lt, tb_le, tb_eq, tw, tnI, tsub1, tsv, tn32 99 (by decide), tnj 99 (by decide), tn32 2 (by decide), tnj 2 (by decide), tn32 1 (by decide), tnj 1 (by decide), tl32 0 (by decide), tl64 0 (by decide), tl32 1 (by decide), tl64 1 (by decide), tl32 3 (by decide), tl64 3 (by decide), tl32 4 (by decide), tl64 4 (by decide), tl32 9 (by decide), tl64 9 (by decide), tl32 20 (by decide), tl64 20 (by decide), tl32 99 (by decide), tl64 99 (by decide)] at hc1); (try simp (disch := omega) only [ta_lt, ta_le, ta_eq, tb_lt, tb_le, tb_eq, tw, tnI, tsub1, tsv, tn32 99 (by decide), tnj 99 (by decide), tn32 2 (by decide), tnj 2 (by decide), tn32 1 (by decide), tnj 1 (by decide), tl32 0 (by decide), tl64 0 (by decide), tl32 1 (by decide), tl64 1 (by decide), tl32 3 (by decide), tl64 3 (by decide), tl32 4 (by decide), tl64 4 (by decide), tl32 9 (by decide), tl64 9 (by decide), tl32 20 (by decide), tl64 20 (by decide), tl32 99 (by decide), tl64 99 (by decide)]); omega), (fun k h1 h2 => rfl), hT, fr.refl⟩) (dkP dF_172 DX12_form (i := 13) rfl rfl)
set_option maxRecDepth 100000 in
set_option maxHeartbeats 8000000 in
theorem c_X12_put_q (l : Launch) (G : va_G) (kc : KC) (ad : Nat → Nat) (σ : Sg) (row : Int32) (side : Int32) (va : Int32) (hT : TM σ) : MI l G kc yX12_put cX12_put 5 (some .int) 2 45 [.ref (ad 0), .int row, .int side, .int va] shM ad σ (fun r σ1 => (∀ k, 413544 ≤ k → k < 413608 → σ1.1 1 k = σ.1 1 k) ∧ TM σ1 ∧ fr false [1] [] σ σ1) := by
  intro sz
  refine z_body (y := yX12_put) (n := 5) (av := [.ref (ad 0), .int row, .int side, .int va]) (Qc := fun A => va_Qi (fun r σ1 => (∀ k, 413544 ≤ k → k < 413608 → σ1.1 1 k = σ.1 1 k) ∧ TM σ1 ∧ fr false [1] [] σ σ1) (PoC G kc shM ad A) A) (plainFor_of_name (by decide)) (Nat.le_of_ble_eq_true rfl) (fun pr e s m below meth c A C0 hr hlk hnm hw hRo ls hl => ?_) sz
  have hx := C0.1
  have hb := C0.2.1
  have hown := C0.2.2.2.1
  have hts := C0.2.2.2.2.1
  have hl : lv_has ls 5 [(0, .ref (ad 0)), (1, .int row), (2, .int side), (3, .int va)] := hl
  refine lv_iload_n hx hb (dkP dF_27 DX12_put (i := 0) rfl rfl) rfl (lv_at hl 1 rfl) ?_
  refine zn_I hw (zr_S (As := [.int row]) (rest := []) C0 (c_X12_isRow l G kc row  _) cs_X12_isRow lk_X12_495 (zp_P C0 hRo hw a00 s00) rfl hl.1 rfl ⟨by decide, by decide⟩ (Nat.le_of_ble_eq_true rfl) (dk2 dF_184 DX12_put (i := 1) rfl rfl rfl) ⟨Nat.le_refl _, Nat.le_refl _⟩) (fun r1 s1 H locs hp hw => ?_)
  rcases hp with ⟨rfl, hc1⟩ | ⟨rfl, hc1⟩
  · skip
    (try simp (disch := omega) only [ta_lt, ta_le, ta_eq, tb_lt, tb_le, tb_eq, tw, tnI, tn32 1 (by decide), tnj 1 (by decide), tl32 0 (by decide), tl64 0 (by decide)] at hc1)
    obtain ⟨k_row, hk_row, rfl⟩ := to_nat (x := row) (n := 20) (by (try simp only [lg_cmp_lt, lg_cmp_le, lg_cmp_gt, lg_cmp_ge, lg_cmp_eq] at hc1); (try simp (disch := omega) only [ta_lt, ta_le, ta_eq, tb_lt, tb_le, tb_eq, tw, tnI, tn32 1 (by decide), tnj 1 (by decide), tl32 0 (by decide), tl64 0 (by decide)] at hc1); (try simp (disch := omega) only [ta_lt, ta_le, ta_eq, tb_lt, tb_le, tb_eq, tw, tnI, tn32 1 (by decide), tnj 1 (by decide), tl32 0 (by decide), tl64 0 (by decide)]); omega)
    refine lv_if_eq (tgt := 31) hx hb (dkS dF_153 DX12_put (i := 2) rfl rfl rfl) (by decide) (fun h => absurd h (by decide)) (fun _ => ?_)
    refine lv_iload_n hx hb (dkP dF_28 DX12_put (i := 3) rfl rfl) rfl (lv_at hl 2 rfl) ?_
    refine lv_i2l hx hb (dkP dF_133 DX12_put (i := 4) rfl rfl) rfl ?_
    refine lv_lconst (v := 0) hx hb (dkP dF_9 DX12_put (i := 5) rfl rfl) (by decide) ?_
    refine lv_lconst (v := 1) hx hb (dkP dF_10 DX12_put (i := 6) rfl rfl) (by decide) ?_
    refine zn_I hw (zr_S (As := [.long side.toInt64, .long 0, .long 1]) (rest := []) C0 (c_X12_in l G kc side.toInt64 0 1  _) cs_X12_in lk_X12_9 (zp_P C0 hRo hw a00 s00) rfl hl.1 rfl ⟨by decide, by decide⟩ (Nat.le_of_ble_eq_true rfl) (dk2 dF_184 DX12_put (i := 7) rfl rfl rfl) ⟨Nat.le_refl _, Nat.le_refl _⟩) (fun r2 s2 H locs hp hw => ?_)
    rcases hp with ⟨rfl, hc2⟩ | ⟨rfl, hc2⟩
    · skip
      (try simp (disch := omega) only [ta_lt, ta_le, ta_eq, tb_lt, tb_le, tb_eq, tw, tnI, tn32 1 (by decide), tnj 1 (by decide), tl32 0 (by decide), tl64 0 (by decide), tl32 1 (by decide), tl64 1 (by decide)] at hc2)
      obtain ⟨k_side, hk_side, rfl⟩ := to_nat (x := side) (n := 2) (by (try simp only [lg_cmp_lt, lg_cmp_le, lg_cmp_gt, lg_cmp_ge, lg_cmp_eq] at hc1); (try simp (disch := omega) only [ta_lt, ta_le, ta_eq, tb_lt, tb_le, tb_eq, tw, tnI, tn32 1 (by decide), tnj 1 (by decide), tl32 0 (by decide), tl64 0 (by decide), tl32 1 (by decide), tl64 1 (by decide)] at hc1); (try simp only [lg_cmp_lt, lg_cmp_le, lg_cmp_gt, lg_cmp_ge, lg_cmp_eq] at hk_row); (try simp (disch := omega) only [ta_lt, ta_le, ta_eq, tb_lt, tb_le, tb_eq, tw, tnI, tn32 1 (by decide), tnj 1 (by decide), tl32 0 (by decide), tl64 0 (by decide), tl32 1 (by decide), tl64 1 (by decide)] at hk_row); (try simp only [lg_cmp_lt, lg_cmp_le, lg_cmp_gt, lg_cmp_ge, lg_cmp_eq] at hc2); (try simp (disch := omega) only [ta_lt, ta_le, ta_eq, tb_lt, tb_le, tb_eq, tw, tnI, tn32 1 (by decide), tnj 1 (by decide), tl32 0 (by decide), tl64 0 (by decide), tl32 1 (by decide), tl64 1 (by decide)] at hc2); (try simp (disch := omega) only [ta_lt, ta_le, ta_eq, tb_lt, tb_le, tb_eq, tw, tnI, tn32 1 (by decide), tnj 1 (by decide), tl32 0 (by decide), tl64 0 (by decide), tl32 1 (by decide), tl64 1 (by decide)]); omega)
      refine lv_if_eq (tgt := 31) hx hb (dkS dF_153 DX12_put (i := 8) rfl rfl rfl) (by decide) (fun h => absurd h (by decide)) (fun _ => ?_)
      refine lv_iload_n hx hb (dkP dF_29 DX12_put (i := 9) rfl rfl) rfl (lv_at hl 3 rfl) ?_
      refine lv_i2l hx hb (dkP dF_133 DX12_put (i := 10) rfl rfl) rfl ?_
      refine lv_ldc2 hx hb hown (hts _ kn_X12_349) (dk2 dF_20 DX12_put (i := 11) rfl rfl rfl) ?_
      refine lv_ldc2 hx hb hown (hts _ kn_X12_351) (dk2 dF_20 DX12_put (i := 12) rfl rfl rfl) ?_
      refine zn_I hw (zr_S (As := [.long va.toInt64, .long (-9999), .long 9999]) (rest := []) C0 (c_X12_in l G kc va.toInt64 (-9999) 9999  _) cs_X12_in lk_X12_9 (zp_P C0 hRo hw a00 s00) rfl hl.1 rfl ⟨by decide, by decide⟩ (Nat.le_of_ble_eq_true rfl) (dk2 dF_184 DX12_put (i := 13) rfl rfl rfl) ⟨Nat.le_refl _, Nat.le_refl _⟩) (fun r3 s3 H locs hp hw => ?_)
      rcases hp with ⟨rfl, hc3⟩ | ⟨rfl, hc3⟩
      · skip
        (try simp (disch := omega) only [ta_lt, ta_le, ta_eq, tb_lt, tb_le, tb_eq, tw, tnI, tn32 9999 (by decide), tnj 9999 (by decide), tn32 1 (by decide), tnj 1 (by decide), tl32 0 (by decide), tl64 0 (by decide), tl32 1 (by decide), tl64 1 (by decide), tl32 9999 (by decide), tl64 9999 (by decide)] at hc3)
        refine lv_if_ne (tgt := 34) hx hb (dkS dF_154 DX12_put (i := 14) rfl rfl rfl) (by decide) (fun _ => ?_) (fun h => absurd h (by decide))
        refine lv_iload_n hx hb (dkP dF_27 DX12_put (i := 17) rfl rfl) rfl (lv_at hl 1 rfl) ?_
        refine zn_I hw (zr_S (As := [.int (nI k_row)]) (rest := []) C0 (c_X12_rowAt l G kc k_row  _) cs_X12_rowAt lk_X12_489 (zp_P C0 hRo hw a00 s00) rfl hl.1 rfl ⟨by decide, by decide⟩ (Nat.le_of_ble_eq_true rfl) (dk2 dF_184 DX12_put (i := 18) rfl rfl rfl) ⟨Nat.le_refl _, Nat.le_refl _⟩) (fun r4 s4 H locs hp hw => ?_)
        subst hp
        refine lv_istore (lv' := [(4, .int (nI (414028 + 5 * k_row))), (0, .ref (ad 0)), (1, .int (nI k_row)), (2, .int (nI k_side)), (3, .int va)]) hx hb (dk1 dF_54 DX12_put (i := 19) rfl rfl rfl) hl (by decide) rfl (fun ls hl => ?_)
        refine lv_aload_n hx hb (dkP dF_42 DX12_put (i := 20) rfl rfl) rfl (lv_at hl 1 rfl) ?_
        refine z_gr C0 hw 0 1 1 rfl fl_X12_20 (dk2 dF_180 DX12_put (i := 21) rfl rfl rfl) ?_
        refine lv_iload hx hb (dk1 dF_21 DX12_put (i := 22) rfl rfl rfl) (lv_at hl 0 rfl) ?_
        refine lv_iconst (v := 3) hx hb (dkP dF_6 DX12_put (i := 23) rfl rfl) (by decide) ?_
        refine lv_iadd hx hb (dkP dF_96 DX12_put (i := 24) rfl rfl) ?_
        refine z_top (y := nI ((414028 + 5 * k_row) + 3)) (by simp only [fa_lit, nI_add, pk_mul]) ?_
        refine lv_aload_n hx hb (dkP dF_42 DX12_put (i := 25) rfl rfl) rfl (lv_at hl 1 rfl) ?_
        refine z_gr C0 hw 0 1 1 rfl fl_X12_20 (dk2 dF_180 DX12_put (i := 26) rfl rfl rfl) ?_
        refine lv_iload hx hb (dk1 dF_21 DX12_put (i := 27) rfl rfl rfl) (lv_at hl 0 rfl) ?_
        refine lv_iconst (v := 2) hx hb (dkP dF_5 DX12_put (i := 28) rfl rfl) (by decide) ?_
        refine lv_iadd hx hb (dkP dF_96 DX12_put (i := 29) rfl rfl) ?_
        refine z_top (y := nI ((414028 + 5 * k_row) + 2)) (by simp only [fa_lit, nI_add, pk_mul]) ?_
        refine z_ialdN (n := 414128) C0 hw 1 ((414028 + 5 * k_row) + 2) rfl (by omega) (by decide) (dkP dF_46 DX12_put (i := 30) rfl rfl) ?_
        obtain ⟨v5, ev5⟩ : ∃ y : Int32, σ.1 1 ((414028 + 5 * k_row) + 2) = y := ⟨_, rfl⟩
        refine z_top (y := v5) ev5 ?_
        refine lv_iload_n hx hb (dkP dF_28 DX12_put (i := 31) rfl rfl) rfl (lv_at hl 3 rfl) ?_
        refine lv_icmp_ne (tgt := 75) hx hb (dkS dF_160 DX12_put (i := 32) rfl rfl rfl) (by decide) (fun c6 => ?_) (fun c6 => ?_)
        · (try simp (disch := omega) only [ta_lt, ta_le, ta_eq, tnI] at c6); have hz6 := i32b v5
          refine lv_iconst (v := 1) hx hb (dkP dF_4 DX12_put (i := 42) rfl rfl) (by decide) ?_
          refine z_iastN (n := 414128) C0 hw 1 ((414028 + 5 * k_row) + 3) rfl (by omega) (by decide) (dkP dF_79 DX12_put (i := 43) rfl rfl) (fun H locs hw => ?_)
          have hT7 : TM (sI σ 1 ((414028 + 5 * k_row) + 3) 1) := TM.w hT (ty_hi (by omega))
          have hF7 : fr false [1] [] σ (sI σ 1 ((414028 + 5 * k_row) + 3) 1) := fr.w fr.refl (Or.inl ⟨by decide, by decide⟩) (fun h => absurd h (by decide))
          refine lv_aload_n hx hb (dkP dF_42 DX12_put (i := 44) rfl rfl) rfl (lv_at hl 1 rfl) ?_
          refine z_gr C0 hw 0 1 1 rfl fl_X12_20 (dk2 dF_180 DX12_put (i := 45) rfl rfl rfl) ?_
          refine lv_iload hx hb (dk1 dF_21 DX12_put (i := 46) rfl rfl rfl) (lv_at hl 0 rfl) ?_
          refine lv_iconst (v := 2) hx hb (dkP dF_5 DX12_put (i := 47) rfl rfl) (by decide) ?_
          refine lv_iadd hx hb (dkP dF_96 DX12_put (i := 48) rfl rfl) ?_
          refine z_top (y := nI ((414028 + 5 * k_row) + 2)) (by simp only [fa_lit, nI_add, pk_mul]) ?_
          refine lv_iload_n hx hb (dkP dF_28 DX12_put (i := 49) rfl rfl) rfl (lv_at hl 3 rfl) ?_
          refine z_iastN (n := 414128) C0 hw 1 ((414028 + 5 * k_row) + 2) rfl (by omega) (by decide) (dkP dF_79 DX12_put (i := 50) rfl rfl) (fun H locs hw => ?_)
          have hT8 : TM (sI (sI σ 1 ((414028 + 5 * k_row) + 3) 1) 1 ((414028 + 5 * k_row) + 2) (nI k_side)) := TM.w hT7 (ty_hi (by omega))
          have hF8 : fr false [1] [] σ (sI (sI σ 1 ((414028 + 5 * k_row) + 3) 1) 1 ((414028 + 5 * k_row) + 2) (nI k_side)) := fr.w hF7 (Or.inl ⟨by decide, by decide⟩) (fun h => absurd h (by decide))
          refine lv_aload_n hx hb (dkP dF_42 DX12_put (i := 51) rfl rfl) rfl (lv_at hl 1 rfl) ?_
          refine z_gr C0 hw 0 1 1 rfl fl_X12_20 (dk2 dF_180 DX12_put (i := 52) rfl rfl rfl) ?_
          refine lv_iload hx hb (dk1 dF_21 DX12_put (i := 53) rfl rfl rfl) (lv_at hl 0 rfl) ?_
          refine lv_iload_n hx hb (dkP dF_28 DX12_put (i := 54) rfl rfl) rfl (lv_at hl 3 rfl) ?_
          refine lv_iadd hx hb (dkP dF_96 DX12_put (i := 55) rfl rfl) ?_
          refine z_top (y := nI ((414028 + 5 * k_row) + k_side)) (by simp only [fa_lit, nI_add, pk_mul]) ?_
          refine lv_iload_n hx hb (dkP dF_29 DX12_put (i := 56) rfl rfl) rfl (lv_at hl 4 rfl) ?_
          refine z_iastN (n := 414128) C0 hw 1 ((414028 + 5 * k_row) + k_side) rfl (by omega) (by decide) (dkP dF_79 DX12_put (i := 57) rfl rfl) (fun H locs hw => ?_)
          have hT9 : TM (sI (sI (sI σ 1 ((414028 + 5 * k_row) + 3) 1) 1 ((414028 + 5 * k_row) + 2) (nI k_side)) 1 ((414028 + 5 * k_row) + k_side) va) := TM.w hT8 (ty_hi (by omega))
          have hF9 : fr false [1] [] σ (sI (sI (sI σ 1 ((414028 + 5 * k_row) + 3) 1) 1 ((414028 + 5 * k_row) + 2) (nI k_side)) 1 ((414028 + 5 * k_row) + k_side) va) := fr.w hF8 (Or.inl ⟨by decide, by decide⟩) (fun h => absurd h (by decide))
          refine lv_aload_n hx hb (dkP dF_42 DX12_put (i := 58) rfl rfl) rfl (lv_at hl 1 rfl) ?_
          refine z_gr C0 hw 0 1 1 rfl fl_X12_20 (dk2 dF_180 DX12_put (i := 59) rfl rfl rfl) ?_
          refine lv_iload hx hb (dk1 dF_21 DX12_put (i := 60) rfl rfl rfl) (lv_at hl 0 rfl) ?_
          refine lv_iconst (v := 3) hx hb (dkP dF_6 DX12_put (i := 61) rfl rfl) (by decide) ?_
          refine lv_iadd hx hb (dkP dF_96 DX12_put (i := 62) rfl rfl) ?_
          refine z_top (y := nI ((414028 + 5 * k_row) + 3)) (by simp only [fa_lit, nI_add, pk_mul]) ?_
          refine z_ialdN (n := 414128) C0 hw 1 ((414028 + 5 * k_row) + 3) rfl (by omega) (by decide) (dkP dF_46 DX12_put (i := 63) rfl rfl) ?_
          obtain ⟨v10, ev10⟩ : ∃ y : Int32, (sI (sI (sI σ 1 ((414028 + 5 * k_row) + 3) 1) 1 ((414028 + 5 * k_row) + 2) (nI k_side)) 1 ((414028 + 5 * k_row) + k_side) va).1 1 ((414028 + 5 * k_row) + 3) = y := ⟨_, rfl⟩
          refine z_top (y := v10) ev10 ?_
          exact z_iret C0 hr hlk hw (⟨(fun k h1 h2 => ((rd_n (by omega)).trans ((rd_n (by omega)).trans ((rd_n (by omega)).trans rfl)))), hT9, hF9⟩) (dkP dF_172 DX12_put (i := 64) rfl rfl)
        · (try simp (disch := omega) only [ta_lt, ta_le, ta_eq, tnI] at c6); have hz6 := i32b v5
          refine lv_aload_n hx hb (dkP dF_42 DX12_put (i := 33) rfl rfl) rfl (lv_at hl 1 rfl) ?_
          refine z_gr C0 hw 0 1 1 rfl fl_X12_20 (dk2 dF_180 DX12_put (i := 34) rfl rfl rfl) ?_
          refine lv_iload hx hb (dk1 dF_21 DX12_put (i := 35) rfl rfl rfl) (lv_at hl 0 rfl) ?_
          refine lv_iconst (v := 3) hx hb (dkP dF_6 DX12_put (i := 36) rfl rfl) (by decide) ?_
          refine lv_iadd hx hb (dkP dF_96 DX12_put (i := 37) rfl rfl) ?_
          refine z_top (y := nI ((414028 + 5 * k_row) + 3)) (by simp only [fa_lit, nI_add, pk_mul]) ?_
          refine z_ialdN (n := 414128) C0 hw 1 ((414028 + 5 * k_row) + 3) rfl (by omega) (by decide) (dkP dF_46 DX12_put (i := 38) rfl rfl) ?_
          obtain ⟨v11, ev11⟩ : ∃ y : Int32, σ.1 1 ((414028 + 5 * k_row) + 3) = y := ⟨_, rfl⟩
          refine z_top (y := v11) ev11 ?_
          refine lv_iconst (v := 1) hx hb (dkP dF_4 DX12_put (i := 39) rfl rfl) (by decide) ?_
          refine lv_iadd hx hb (dkP dF_96 DX12_put (i := 40) rfl rfl) ?_
          refine lv_goto (tgt := 76) hx hb (dkS dF_167 DX12_put (i := 41) rfl rfl rfl) (by decide) ?_
          refine z_iastN (n := 414128) C0 hw 1 ((414028 + 5 * k_row) + 3) rfl (by omega) (by decide) (dkP dF_79 DX12_put (i := 43) rfl rfl) (fun H locs hw => ?_)
          have hT12 : TM (sI σ 1 ((414028 + 5 * k_row) + 3) (v11 + 1)) := TM.w hT (ty_hi (by omega))
          have hF12 : fr false [1] [] σ (sI σ 1 ((414028 + 5 * k_row) + 3) (v11 + 1)) := fr.w fr.refl (Or.inl ⟨by decide, by decide⟩) (fun h => absurd h (by decide))
          refine lv_aload_n hx hb (dkP dF_42 DX12_put (i := 44) rfl rfl) rfl (lv_at hl 1 rfl) ?_
          refine z_gr C0 hw 0 1 1 rfl fl_X12_20 (dk2 dF_180 DX12_put (i := 45) rfl rfl rfl) ?_
          refine lv_iload hx hb (dk1 dF_21 DX12_put (i := 46) rfl rfl rfl) (lv_at hl 0 rfl) ?_
          refine lv_iconst (v := 2) hx hb (dkP dF_5 DX12_put (i := 47) rfl rfl) (by decide) ?_
          refine lv_iadd hx hb (dkP dF_96 DX12_put (i := 48) rfl rfl) ?_
          refine z_top (y := nI ((414028 + 5 * k_row) + 2)) (by simp only [fa_lit, nI_add, pk_mul]) ?_
          refine lv_iload_n hx hb (dkP dF_28 DX12_put (i := 49) rfl rfl) rfl (lv_at hl 3 rfl) ?_
          refine z_iastN (n := 414128) C0 hw 1 ((414028 + 5 * k_row) + 2) rfl (by omega) (by decide) (dkP dF_79 DX12_put (i := 50) rfl rfl) (fun H locs hw => ?_)
          have hT13 : TM (sI (sI σ 1 ((414028 + 5 * k_row) + 3) (v11 + 1)) 1 ((414028 + 5 * k_row) + 2) (nI k_side)) := TM.w hT12 (ty_hi (by omega))
          have hF13 : fr false [1] [] σ (sI (sI σ 1 ((414028 + 5 * k_row) + 3) (v11 + 1)) 1 ((414028 + 5 * k_row) + 2) (nI k_side)) := fr.w hF12 (Or.inl ⟨by decide, by decide⟩) (fun h => absurd h (by decide))
          refine lv_aload_n hx hb (dkP dF_42 DX12_put (i := 51) rfl rfl) rfl (lv_at hl 1 rfl) ?_
          refine z_gr C0 hw 0 1 1 rfl fl_X12_20 (dk2 dF_180 DX12_put (i := 52) rfl rfl rfl) ?_
          refine lv_iload hx hb (dk1 dF_21 DX12_put (i := 53) rfl rfl rfl) (lv_at hl 0 rfl) ?_
          refine lv_iload_n hx hb (dkP dF_28 DX12_put (i := 54) rfl rfl) rfl (lv_at hl 3 rfl) ?_
          refine lv_iadd hx hb (dkP dF_96 DX12_put (i := 55) rfl rfl) ?_
          refine z_top (y := nI ((414028 + 5 * k_row) + k_side)) (by simp only [fa_lit, nI_add, pk_mul]) ?_
          refine lv_iload_n hx hb (dkP dF_29 DX12_put (i := 56) rfl rfl) rfl (lv_at hl 4 rfl) ?_
          refine z_iastN (n := 414128) C0 hw 1 ((414028 + 5 * k_row) + k_side) rfl (by omega) (by decide) (dkP dF_79 DX12_put (i := 57) rfl rfl) (fun H locs hw => ?_)
          have hT14 : TM (sI (sI (sI σ 1 ((414028 + 5 * k_row) + 3) (v11 + 1)) 1 ((414028 + 5 * k_row) + 2) (nI k_side)) 1 ((414028 + 5 * k_row) + k_side) va) := TM.w hT13 (ty_hi (by omega))
          have hF14 : fr false [1] [] σ (sI (sI (sI σ 1 ((414028 + 5 * k_row) + 3) (v11 + 1)) 1 ((414028 + 5 * k_row) + 2) (nI k_side)) 1 ((414028 + 5 * k_row) + k_side) va) := fr.w hF13 (Or.inl ⟨by decide, by decide⟩) (fun h => absurd h (by decide))
          refine lv_aload_n hx hb (dkP dF_42 DX12_put (i := 58) rfl rfl) rfl (lv_at hl 1 rfl) ?_
          refine z_gr C0 hw 0 1 1 rfl fl_X12_20 (dk2 dF_180 DX12_put (i := 59) rfl rfl rfl) ?_
          refine lv_iload hx hb (dk1 dF_21 DX12_put (i := 60) rfl rfl rfl) (lv_at hl 0 rfl) ?_
          refine lv_iconst (v := 3) hx hb (dkP dF_6 DX12_put (i := 61) rfl rfl) (by decide) ?_
          refine lv_iadd hx hb (dkP dF_96 DX12_put (i := 62) rfl rfl) ?_
          refine z_top (y := nI ((414028 + 5 * k_row) + 3)) (by simp only [fa_lit, nI_add, pk_mul]) ?_
          refine z_ialdN (n := 414128) C0 hw 1 ((414028 + 5 * k_row) + 3) rfl (by omega) (by decide) (dkP dF_46 DX12_put (i := 63) rfl rfl) ?_
          obtain ⟨v15, ev15⟩ : ∃ y : Int32, (sI (sI (sI σ 1 ((414028 + 5 * k_row) + 3) (v11 + 1)) 1 ((414028 + 5 * k_row) + 2) (nI k_side)) 1 ((414028 + 5 * k_row) + k_side) va).1 1 ((414028 + 5 * k_row) + 3) = y := ⟨_, rfl⟩
          refine z_top (y := v15) ev15 ?_
          exact z_iret C0 hr hlk hw (⟨(fun k h1 h2 => ((rd_n (by omega)).trans ((rd_n (by omega)).trans ((rd_n (by omega)).trans rfl)))), hT14, hF14⟩) (dkP dF_172 DX12_put (i := 64) rfl rfl)
      · skip
        (try simp (disch := omega) only [ta_lt, ta_le, ta_eq, tb_lt, tb_le, tb_eq, tw, tnI, tn32 9999 (by decide), tnj 9999 (by decide), tn32 1 (by decide), tnj 1 (by decide), tl32 0 (by decide), tl64 0 (by decide), tl32 1 (by decide), tl64 1 (by decide), tl32 2 (by decide), tl64 2 (by decide), tl32 3 (by decide), tl64 3 (by decide), tl32 9999 (by decide), tl64 9999 (by decide)] at hc3)
        refine lv_if_ne (tgt := 34) hx hb (dkS dF_154 DX12_put (i := 14) rfl rfl rfl) (by decide) (fun h => absurd h (by decide)) (fun _ => ?_)
        refine lv_bipush (v := (-2)) hx hb (dks dF_16 DX12_put (i := 15) rfl rfl rfl) (by decide) ?_
        exact z_iret C0 hr hlk hw (⟨(fun k h1 h2 => rfl), hT, fr.refl⟩) (dkP dF_172 DX12_put (i := 16) rfl rfl)
    · skip
      (try simp (disch := omega) only [ta_lt, ta_le, ta_eq, tb_lt, tb_le, tb_eq, tw, tnI, tn32 9999 (by decide), tnj 9999 (by decide), tn32 2 (by decide), tnj 2 (by decide), tn32 1 (by decide), tnj 1 (by decide), tl32 0 (by decide), tl64 0 (by decide), tl32 1 (by decide), tl64 1 (by decide), tl32 2 (by decide), tl64 2 (by decide), tl32 3 (by decide), tl64 3 (by decide), tl32 9999 (by decide), tl64 9999 (by decide)] at hc2)
      refine lv_if_eq (tgt := 31) hx hb (dkS dF_153 DX12_put (i := 8) rfl rfl rfl) (by decide) (fun _ => ?_) (fun h => absurd h (by decide))
      refine lv_bipush (v := (-2)) hx hb (dks dF_16 DX12_put (i := 15) rfl rfl rfl) (by decide) ?_
      exact z_iret C0 hr hlk hw (⟨(fun k h1 h2 => rfl), hT, fr.refl⟩) (dkP dF_172 DX12_put (i := 16) rfl rfl)
  · skip
    (try simp (disch := omega) only [ta_lt, ta_le, ta_eq, tb_lt, tb_le, tb_eq, tw, tnI, tn32 9999 (by decide), tnj 9999 (by decide), tn32 2 (by decide), tnj 2 (by decide), tn32 1 (by decide), tnj 1 (by decide), tl32 0 (by decide), tl64 0 (by decide), tl32 1 (by decide), tl64 1 (by decide), tl32 2 (by decide), tl64 2 (by decide), tl32 3 (by decide), tl64 3 (by decide), tl32 9999 (by decide), tl64 9999 (by decide)] at hc1)
    refine lv_if_eq (tgt := 31) hx hb (dkS dF_153 DX12_put (i := 2) rfl rfl rfl) (by decide) (fun _ => ?_) (fun h => absurd h (by decide))
    refine lv_bipush (v := (-2)) hx hb (dks dF_16 DX12_put (i := 15) rfl rfl rfl) (by decide) ?_
    exact z_iret C0 hr hlk hw (⟨(fun k h1 h2 => rfl), hT, fr.refl⟩) (dkP dF_172 DX12_put (i := 16) rfl rfl)
set_option maxRecDepth 100000 in
set_option maxHeartbeats 8000000 in
theorem c_X12_lead_q (l : Launch) (G : va_G) (kc : KC) (ad : Nat → Nat) (σ : Sg) (row : Int32) (hT : TM σ) : MI l G kc yX12_lead cX12_lead 2 (some .int) 2 45 [.ref (ad 0), .int row] shM ad σ (fun r σ1 => (∀ k, 413544 ≤ k → k < 413608 → σ1.1 1 k = σ.1 1 k) ∧ TM σ1 ∧ fr false [1] [] σ σ1) := by
  intro sz
  refine z_body (y := yX12_lead) (n := 2) (av := [.ref (ad 0), .int row]) (Qc := fun A => va_Qi (fun r σ1 => (∀ k, 413544 ≤ k → k < 413608 → σ1.1 1 k = σ.1 1 k) ∧ TM σ1 ∧ fr false [1] [] σ σ1) (PoC G kc shM ad A) A) (plainFor_of_name (by decide)) (Nat.le_of_ble_eq_true rfl) (fun pr e s m below meth c A C0 hr hlk hnm hw hRo ls hl => ?_) sz
  have hx := C0.1
  have hb := C0.2.1
  have hown := C0.2.2.2.1
  have hts := C0.2.2.2.2.1
  have hl : lv_has ls 2 [(0, .ref (ad 0)), (1, .int row)] := hl
  refine lv_iload_n hx hb (dkP dF_27 DX12_lead (i := 0) rfl rfl) rfl (lv_at hl 1 rfl) ?_
  refine zn_I hw (zr_S (As := [.int row]) (rest := []) C0 (c_X12_isRow l G kc row  _) cs_X12_isRow lk_X12_495 (zp_P C0 hRo hw a00 s00) rfl hl.1 rfl ⟨by decide, by decide⟩ (Nat.le_of_ble_eq_true rfl) (dk2 dF_184 DX12_lead (i := 1) rfl rfl rfl) ⟨Nat.le_refl _, Nat.le_refl _⟩) (fun r1 s1 H locs hp hw => ?_)
  rcases hp with ⟨rfl, hc1⟩ | ⟨rfl, hc1⟩
  · skip
    (try simp (disch := omega) only [ta_lt, ta_le, ta_eq, tb_lt, tb_le, tb_eq, tw, tnI, tn32 1 (by decide), tnj 1 (by decide), tl32 0 (by decide), tl64 0 (by decide)] at hc1)
    obtain ⟨k_row, hk_row, rfl⟩ := to_nat (x := row) (n := 20) (by (try simp only [lg_cmp_lt, lg_cmp_le, lg_cmp_gt, lg_cmp_ge, lg_cmp_eq] at hc1); (try simp (disch := omega) only [ta_lt, ta_le, ta_eq, tb_lt, tb_le, tb_eq, tw, tnI, tn32 1 (by decide), tnj 1 (by decide), tl32 0 (by decide), tl64 0 (by decide)] at hc1); (try simp (disch := omega) only [ta_lt, ta_le, ta_eq, tb_lt, tb_le, tb_eq, tw, tnI, tn32 1 (by decide), tnj 1 (by decide), tl32 0 (by decide), tl64 0 (by decide)]); omega)
    refine lv_if_eq (tgt := 18) hx hb (dkS dF_153 DX12_lead (i := 2) rfl rfl rfl) (by decide) (fun h => absurd h (by decide)) (fun _ => ?_)
    refine lv_aload_n hx hb (dkP dF_42 DX12_lead (i := 3) rfl rfl) rfl (lv_at hl 0 rfl) ?_
    refine lv_iload_n hx hb (dkP dF_27 DX12_lead (i := 4) rfl rfl) rfl (lv_at hl 1 rfl) ?_
    refine zn_I hw (zr_S (As := [.int (nI k_row)]) (rest := [.ref (ad 0)]) C0 (c_X12_rowAt l G kc k_row  _) cs_X12_rowAt lk_X12_489 (zp_P C0 hRo hw a00 s00) rfl hl.1 rfl ⟨by decide, by decide⟩ (Nat.le_of_ble_eq_true rfl) (dk2 dF_184 DX12_lead (i := 5) rfl rfl rfl) ⟨Nat.le_refl _, Nat.le_refl _⟩) (fun r2 s2 H locs hp hw => ?_)
    subst hp
    refine zk_I hw (zr_V (As := [.int (nI (414028 + 5 * k_row))]) (rest := []) C0 (c_X12_leads_q l G kc ad σ (414028 + 5 * k_row) (by first | omega | assumption | decide | rfl) (by first | omega | assumption | decide | rfl) hT _) cv_X12_leads lk_X12_492 (zp_V C0 hRo hw 0 rfl rfl rfl) rfl hl.1 rfl ⟨by decide, by decide⟩ (Nat.le_of_ble_eq_true rfl) (dk2 dF_182 DX12_lead (i := 6) rfl rfl rfl) ⟨Nat.le_refl _, Nat.le_refl _⟩) (fun r3 s3 H locs hp hw => ?_)
    obtain ⟨f3_0, hT3, hG3⟩ := hp
    have hF3 : fr false [1] [] σ s3 := fr.t fr.refl hG3 (by decide) (by decide) (by decide)
    refine lv_goto (tgt := 21) hx hb (dkS dF_167 DX12_lead (i := 7) rfl rfl rfl) (by decide) ?_
    exact z_iret C0 hr hlk hw (⟨f3_0, hT3, hF3⟩) (dkP dF_172 DX12_lead (i := 9) rfl rfl)
  · skip
    (try simp (disch := omega) only [ta_lt, ta_le, ta_eq, tb_lt, tb_le, tb_eq, tw, tnI, tn32 1 (by decide), tnj 1 (by decide), tl32 0 (by decide), tl64 0 (by decide)] at hc1)
    refine lv_if_eq (tgt := 18) hx hb (dkS dF_153 DX12_lead (i := 2) rfl rfl rfl) (by decide) (fun _ => ?_) (fun h => absurd h (by decide))
    refine lv_ldcw hx hb hown (hts _ kn_X12_413) (dk2 dF_19 DX12_lead (i := 8) rfl rfl rfl) ?_
    exact z_iret C0 hr hlk hw (⟨(fun k h1 h2 => rfl), hT, fr.refl⟩) (dkP dF_172 DX12_lead (i := 9) rfl rfl)
set_option maxRecDepth 100000 in
set_option maxHeartbeats 8000000 in
theorem c_X12_calls_q (l : Launch) (G : va_G) (kc : KC) (ad : Nat → Nat) (σ : Sg) (program : Int32) (other : Int32) (price : Int32) (hT : TM σ) : MI l G kc yX12_calls cX12_calls 6 (some .int) 2 45 [.ref (ad 0), .int program, .int other, .int price] shM ad σ (fun r σ1 => (∀ k, 413544 ≤ k → k < 413608 → σ1.1 1 k = σ.1 1 k) ∧ TM σ1 ∧ fr false [1] [] σ σ1) := by
  intro sz
  refine z_body (y := yX12_calls) (n := 6) (av := [.ref (ad 0), .int program, .int other, .int price]) (Qc := fun A => va_Qi (fun r σ1 => (∀ k, 413544 ≤ k → k < 413608 → σ1.1 1 k = σ.1 1 k) ∧ TM σ1 ∧ fr false [1] [] σ σ1) (PoC G kc shM ad A) A) (plainFor_of_name (by decide)) (Nat.le_of_ble_eq_true rfl) (fun pr e s m below meth c A C0 hr hlk hnm hw hRo ls hl => ?_) sz
  have hx := C0.1
  have hb := C0.2.1
  have hown := C0.2.2.2.1
  have hts := C0.2.2.2.2.1
  have hl : lv_has ls 6 [(0, .ref (ad 0)), (1, .int program), (2, .int other), (3, .int price)] := hl
  refine lv_iload_n hx hb (dkP dF_27 DX12_calls (i := 0) rfl rfl) rfl (lv_at hl 1 rfl) ?_
  refine zn_I hw (zr_S (As := [.int program]) (rest := []) C0 (c_X12_isProgram l G kc program  _) cs_X12_isProgram lk_X12_272 (zp_P C0 hRo hw a00 s00) rfl hl.1 rfl ⟨by decide, by decide⟩ (Nat.le_of_ble_eq_true rfl) (dk2 dF_184 DX12_calls (i := 1) rfl rfl rfl) ⟨Nat.le_refl _, Nat.le_refl _⟩) (fun r1 s1 H locs hp hw => ?_)
  rcases hp with ⟨rfl, hc1⟩ | ⟨rfl, hc1⟩
  · skip
    (try simp (disch := omega) only [ta_lt, ta_le, ta_eq, tb_lt, tb_le, tb_eq, tw, tnI, tn32 1 (by decide), tnj 1 (by decide), tl32 0 (by decide), tl64 0 (by decide)] at hc1)
    obtain ⟨k_program, hk_program, rfl⟩ := to_nat (x := program) (n := 8) (by (try simp only [lg_cmp_lt, lg_cmp_le, lg_cmp_gt, lg_cmp_ge, lg_cmp_eq] at hc1); (try simp (disch := omega) only [ta_lt, ta_le, ta_eq, tb_lt, tb_le, tb_eq, tw, tnI, tn32 1 (by decide), tnj 1 (by decide), tl32 0 (by decide), tl64 0 (by decide)] at hc1); (try simp (disch := omega) only [ta_lt, ta_le, ta_eq, tb_lt, tb_le, tb_eq, tw, tnI, tn32 1 (by decide), tnj 1 (by decide), tl32 0 (by decide), tl64 0 (by decide)]); omega)
    refine lv_if_eq (tgt := 33) hx hb (dkS dF_153 DX12_calls (i := 2) rfl rfl rfl) (by decide) (fun h => absurd h (by decide)) (fun _ => ?_)
    refine lv_iload_n hx hb (dkP dF_28 DX12_calls (i := 3) rfl rfl) rfl (lv_at hl 2 rfl) ?_
    refine zn_I hw (zr_S (As := [.int other]) (rest := []) C0 (c_X12_isProgram l G kc other  _) cs_X12_isProgram lk_X12_272 (zp_P C0 hRo hw a00 s00) rfl hl.1 rfl ⟨by decide, by decide⟩ (Nat.le_of_ble_eq_true rfl) (dk2 dF_184 DX12_calls (i := 4) rfl rfl rfl) ⟨Nat.le_refl _, Nat.le_refl _⟩) (fun r2 s2 H locs hp hw => ?_)
    rcases hp with ⟨rfl, hc2⟩ | ⟨rfl, hc2⟩
    · skip
      (try simp (disch := omega) only [ta_lt, ta_le, ta_eq, tb_lt, tb_le, tb_eq, tw, tnI, tn32 1 (by decide), tnj 1 (by decide), tl32 0 (by decide), tl64 0 (by decide)] at hc2)
      obtain ⟨k_other, hk_other, rfl⟩ := to_nat (x := other) (n := 8) (by (try simp only [lg_cmp_lt, lg_cmp_le, lg_cmp_gt, lg_cmp_ge, lg_cmp_eq] at hc1); (try simp (disch := omega) only [ta_lt, ta_le, ta_eq, tb_lt, tb_le, tb_eq, tw, tnI, tn32 1 (by decide), tnj 1 (by decide), tl32 0 (by decide), tl64 0 (by decide)] at hc1); (try simp only [lg_cmp_lt, lg_cmp_le, lg_cmp_gt, lg_cmp_ge, lg_cmp_eq] at hk_program); (try simp (disch := omega) only [ta_lt, ta_le, ta_eq, tb_lt, tb_le, tb_eq, tw, tnI, tn32 1 (by decide), tnj 1 (by decide), tl32 0 (by decide), tl64 0 (by decide)] at hk_program); (try simp only [lg_cmp_lt, lg_cmp_le, lg_cmp_gt, lg_cmp_ge, lg_cmp_eq] at hc2); (try simp (disch := omega) only [ta_lt, ta_le, ta_eq, tb_lt, tb_le, tb_eq, tw, tnI, tn32 1 (by decide), tnj 1 (by decide), tl32 0 (by decide), tl64 0 (by decide)] at hc2); (try simp (disch := omega) only [ta_lt, ta_le, ta_eq, tb_lt, tb_le, tb_eq, tw, tnI, tn32 1 (by decide), tnj 1 (by decide), tl32 0 (by decide), tl64 0 (by decide)]); omega)
      refine lv_if_eq (tgt := 33) hx hb (dkS dF_153 DX12_calls (i := 5) rfl rfl rfl) (by decide) (fun h => absurd h (by decide)) (fun _ => ?_)
      refine lv_iload_n hx hb (dkP dF_27 DX12_calls (i := 6) rfl rfl) rfl (lv_at hl 1 rfl) ?_
      refine lv_iload_n hx hb (dkP dF_28 DX12_calls (i := 7) rfl rfl) rfl (lv_at hl 2 rfl) ?_
      refine lv_icmp_eq (tgt := 33) hx hb (dkS dF_159 DX12_calls (i := 8) rfl rfl rfl) (by decide) (fun c3 => ?_) (fun c3 => ?_)
      · simp (disch := omega) only [ta_lt, ta_le, ta_eq, tnI] at c3
        refine lv_bipush (v := (-2)) hx hb (dks dF_16 DX12_calls (i := 15) rfl rfl rfl) (by decide) ?_
        exact z_iret C0 hr hlk hw (⟨(fun k h1 h2 => rfl), hT, fr.refl⟩) (dkP dF_172 DX12_calls (i := 16) rfl rfl)
      · simp (disch := omega) only [ta_lt, ta_le, ta_eq, tnI] at c3
        refine lv_iload_n hx hb (dkP dF_29 DX12_calls (i := 9) rfl rfl) rfl (lv_at hl 3 rfl) ?_
        refine lv_i2l hx hb (dkP dF_133 DX12_calls (i := 10) rfl rfl) rfl ?_
        refine lv_ldc2 hx hb hown (hts _ kn_X12_411) (dk2 dF_20 DX12_calls (i := 11) rfl rfl rfl) ?_
        refine lv_ldc2 hx hb hown (hts _ kn_X12_242) (dk2 dF_20 DX12_calls (i := 12) rfl rfl rfl) ?_
        refine zn_I hw (zr_S (As := [.long price.toInt64, .long (-1), .long 999]) (rest := []) C0 (c_X12_in l G kc price.toInt64 (-1) 999  _) cs_X12_in lk_X12_9 (zp_P C0 hRo hw a00 s00) rfl hl.1 rfl ⟨by decide, by decide⟩ (Nat.le_of_ble_eq_true rfl) (dk2 dF_184 DX12_calls (i := 13) rfl rfl rfl) ⟨Nat.le_refl _, Nat.le_refl _⟩) (fun r4 s4 H locs hp hw => ?_)
        rcases hp with ⟨rfl, hc4⟩ | ⟨rfl, hc4⟩
        · skip
          (try simp (disch := omega) only [ta_lt, ta_le, ta_eq, tb_lt, tb_le, tb_eq, tw, tnI, tn32 2 (by decide), tnj 2 (by decide), tn32 1 (by decide), tnj 1 (by decide), tl32 0 (by decide), tl64 0 (by decide), tl32 999 (by decide), tl64 999 (by decide)] at hc4)
          refine lv_if_ne (tgt := 36) hx hb (dkS dF_154 DX12_calls (i := 14) rfl rfl rfl) (by decide) (fun _ => ?_) (fun h => absurd h (by decide))
          refine lv_ldc hx hb hown (hts _ kn_X12_143) (dk1 dF_18 DX12_calls (i := 17) rfl rfl rfl) ?_
          refine lv_bipush (v := 8) hx hb (dks dF_16 DX12_calls (i := 18) rfl rfl rfl) (by decide) ?_
          refine lv_iload_n hx hb (dkP dF_27 DX12_calls (i := 19) rfl rfl) rfl (lv_at hl 1 rfl) ?_
          refine lv_imul hx hb (dkP dF_104 DX12_calls (i := 20) rfl rfl) ?_
          refine z_top (y := nI (8 * k_program)) (by simp only [fa_lit, nI_add, pk_mul]) ?_
          refine lv_iadd hx hb (dkP dF_96 DX12_calls (i := 21) rfl rfl) ?_
          refine z_top (y := nI (413480 + (8 * k_program))) (by simp only [fa_lit, nI_add, pk_mul]) ?_
          refine lv_iload_n hx hb (dkP dF_28 DX12_calls (i := 22) rfl rfl) rfl (lv_at hl 2 rfl) ?_
          refine lv_iadd hx hb (dkP dF_96 DX12_calls (i := 23) rfl rfl) ?_
          refine z_top (y := nI ((413480 + (8 * k_program)) + k_other)) (by simp only [fa_lit, nI_add, pk_mul]) ?_
          refine lv_istore (lv' := [(4, .int (nI ((413480 + (8 * k_program)) + k_other))), (0, .ref (ad 0)), (1, .int (nI k_program)), (2, .int (nI k_other)), (3, .int price)]) hx hb (dk1 dF_54 DX12_calls (i := 24) rfl rfl rfl) hl (by decide) rfl (fun ls hl => ?_)
          refine lv_aload_n hx hb (dkP dF_42 DX12_calls (i := 25) rfl rfl) rfl (lv_at hl 1 rfl) ?_
          refine z_gr C0 hw 0 1 1 rfl fl_X12_20 (dk2 dF_180 DX12_calls (i := 26) rfl rfl rfl) ?_
          refine lv_iload hx hb (dk1 dF_21 DX12_calls (i := 27) rfl rfl rfl) (lv_at hl 0 rfl) ?_
          refine z_ialdN (n := 414128) C0 hw 1 ((413480 + (8 * k_program)) + k_other) rfl (by omega) (by decide) (dkP dF_46 DX12_calls (i := 28) rfl rfl) ?_
          obtain ⟨v5, ev5⟩ : ∃ y : Int32, σ.1 1 ((413480 + (8 * k_program)) + k_other) = y := ⟨_, rfl⟩
          have hv5 : -1 ≤ v5.toInt ∧ v5.toInt ≤ 999 := by rw [← ev5]; exact (wTy_k (by omega) (by omega) (hT 1 _))
          refine z_top (y := v5) ev5 ?_
          refine lv_istore (lv' := [(5, .int v5), (4, .int (nI ((413480 + (8 * k_program)) + k_other))), (0, .ref (ad 0)), (1, .int (nI k_program)), (2, .int (nI k_other)), (3, .int price)]) hx hb (dk1 dF_54 DX12_calls (i := 29) rfl rfl rfl) hl (by decide) rfl (fun ls hl => ?_)
          refine lv_aload_n hx hb (dkP dF_42 DX12_calls (i := 30) rfl rfl) rfl (lv_at hl 2 rfl) ?_
          refine z_gr C0 hw 0 1 1 rfl fl_X12_20 (dk2 dF_180 DX12_calls (i := 31) rfl rfl rfl) ?_
          refine lv_iload hx hb (dk1 dF_21 DX12_calls (i := 32) rfl rfl rfl) (lv_at hl 1 rfl) ?_
          refine lv_iload_n hx hb (dkP dF_29 DX12_calls (i := 33) rfl rfl) rfl (lv_at hl 5 rfl) ?_
          refine z_iastN (n := 414128) C0 hw 1 ((413480 + (8 * k_program)) + k_other) rfl (by omega) (by decide) (dkP dF_79 DX12_calls (i := 34) rfl rfl) (fun H locs hw => ?_)
          have hT6 : TM (sI σ 1 ((413480 + (8 * k_program)) + k_other) price) := TM.w hT (ty_ck (by omega) (by omega) (by (try simp only [lg_cmp_lt, lg_cmp_le, lg_cmp_gt, lg_cmp_ge, lg_cmp_eq] at hc1); (try simp (disch := omega) only [ta_lt, ta_le, ta_eq, tb_lt, tb_le, tb_eq, tw, tnI, tsub1, tsv, tn32 2 (by decide), tnj 2 (by decide), tn32 1 (by decide), tnj 1 (by decide), tl32 0 (by decide), tl64 0 (by decide), tl32 8 (by decide), tl64 8 (by decide), tl32 999 (by decide), tl64 999 (by decide), tl32 413480 (by decide), tl64 413480 (by decide)] at hc1); (try simp only [lg_cmp_lt, lg_cmp_le, lg_cmp_gt, lg_cmp_ge, lg_cmp_eq] at hc2); (try simp (disch := omega) only [ta_lt, ta_le, ta_eq, tb_lt, tb_le, tb_eq, tw, tnI, tsub1, tsv, tn32 2 (by decide), tnj 2 (by decide), tn32 1 (by decide), tnj 1 (by decide), tl32 0 (by decide), tl64 0 (by decide), tl32 8 (by decide), tl64 8 (by decide), tl32 999 (by decide), tl64 999 (by decide), tl32 413480 (by decide), tl64 413480 (by decide)] at hc2); (try simp only [lg_cmp_lt, lg_cmp_le, lg_cmp_gt, lg_cmp_ge, lg_cmp_eq] at c3); (try simp (disch := omega) only [ta_lt, ta_le, ta_eq, tb_lt, tb_le, tb_eq, tw, tnI, tsub1, tsv, tn32 2 (by decide), tnj 2 (by decide), tn32 1 (by decide), tnj 1 (by decide), tl32 0 (by decide), tl64 0 (by decide), tl32 8 (by decide), tl64 8 (by decide), tl32 999 (by decide), tl64 999 (by decide), tl32 413480 (by decide), tl64 413480 (by decide)] at c3); (try simp only [lg_cmp_lt, lg_cmp_le, lg_cmp_gt, lg_cmp_ge, lg_cmp_eq] at hc4); (try simp (disch := omega) only [ta_lt, ta_le, ta_eq, tb_lt, tb_le, tb_eq, tw, tnI, tsub1, tsv, tn32 2 (by decide), tnj 2 (by decide), tn32 1 (by decide), tnj 1 (by decide), tl32 0 (by decide), tl64 0 (by decide), tl32 8 (by decide), tl64 8 (by decide), tl32 999 (by decide), tl64 999 (by decide), tl32 413480 (by decide), tl64 413480 (by decide)] at hc4); (try simp (disch := omega) only [ta_lt, ta_le, ta_eq, tb_lt, tb_le, tb_eq, tw, tnI, tsub1, tsv, tn32 2 (by decide), tnj 2 (by decide), tn32 1 (by decide), tnj 1 (by decide), tl32 0 (by decide), tl64 0 (by decide), tl32 8 (by decide), tl64 8 (by decide), tl32 999 (by decide), tl64 999 (by decide), tl32 413480 (by decide), tl64 413480 (by decide)]); omega))
          have hF6 : fr false [1] [] σ (sI σ 1 ((413480 + (8 * k_program)) + k_other) price) := fr.w fr.refl (Or.inl ⟨by decide, by decide⟩) (fun h => absurd h (by decide))
          refine lv_iload hx hb (dk1 dF_21 DX12_calls (i := 35) rfl rfl rfl) (lv_at hl 0 rfl) ?_
          exact z_iret C0 hr hlk hw (⟨(fun k h1 h2 => ((rd_n (by omega)).trans rfl)), hT6, hF6⟩) (dkP dF_172 DX12_calls (i := 36) rfl rfl)
        · skip
          (try simp (disch := omega) only [ta_lt, ta_le, ta_eq, tb_lt, tb_le, tb_eq, tw, tnI, tn32 2 (by decide), tnj 2 (by decide), tn32 1 (by decide), tnj 1 (by decide), tl32 0 (by decide), tl64 0 (by decide), tl32 8 (by decide), tl64 8 (by decide), tl32 999 (by decide), tl64 999 (by decide), tl32 413480 (by decide), tl64 413480 (by decide)] at hc4)
          refine lv_if_ne (tgt := 36) hx hb (dkS dF_154 DX12_calls (i := 14) rfl rfl rfl) (by decide) (fun h => absurd h (by decide)) (fun _ => ?_)
          refine lv_bipush (v := (-2)) hx hb (dks dF_16 DX12_calls (i := 15) rfl rfl rfl) (by decide) ?_
          exact z_iret C0 hr hlk hw (⟨(fun k h1 h2 => rfl), hT, fr.refl⟩) (dkP dF_172 DX12_calls (i := 16) rfl rfl)
    · skip
      (try simp (disch := omega) only [ta_lt, ta_le, ta_eq, tb_lt, tb_le, tb_eq, tw, tnI, tn32 2 (by decide), tnj 2 (by decide), tn32 1 (by decide), tnj 1 (by decide), tl32 0 (by decide), tl64 0 (by decide), tl32 8 (by decide), tl64 8 (by decide), tl32 999 (by decide), tl64 999 (by decide), tl32 413480 (by decide), tl64 413480 (by decide)] at hc2)
      refine lv_if_eq (tgt := 33) hx hb (dkS dF_153 DX12_calls (i := 5) rfl rfl rfl) (by decide) (fun _ => ?_) (fun h => absurd h (by decide))
      refine lv_bipush (v := (-2)) hx hb (dks dF_16 DX12_calls (i := 15) rfl rfl rfl) (by decide) ?_
      exact z_iret C0 hr hlk hw (⟨(fun k h1 h2 => rfl), hT, fr.refl⟩) (dkP dF_172 DX12_calls (i := 16) rfl rfl)
  · skip
    (try simp (disch := omega) only [ta_lt, ta_le, ta_eq, tb_lt, tb_le, tb_eq, tw, tnI, tn32 2 (by decide), tnj 2 (by decide), tn32 1 (by decide), tnj 1 (by decide), tl32 0 (by decide), tl64 0 (by decide), tl32 8 (by decide), tl64 8 (by decide), tl32 999 (by decide), tl64 999 (by decide), tl32 413480 (by decide), tl64 413480 (by decide)] at hc1)
    refine lv_if_eq (tgt := 33) hx hb (dkS dF_153 DX12_calls (i := 2) rfl rfl rfl) (by decide) (fun _ => ?_) (fun h => absurd h (by decide))
    refine lv_bipush (v := (-2)) hx hb (dks dF_16 DX12_calls (i := 15) rfl rfl rfl) (by decide) ?_
    exact z_iret C0 hr hlk hw (⟨(fun k h1 h2 => rfl), hT, fr.refl⟩) (dkP dF_172 DX12_calls (i := 16) rfl rfl)
