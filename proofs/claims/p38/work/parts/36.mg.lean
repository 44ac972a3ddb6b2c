set_option maxRecDepth 100000 in
set_option maxHeartbeats 4000000 in
theorem c_X12_cut (l : Launch) (G : va_G) (kc : KC)  (va : Int64) (wd : Int32)  : ML l G kc yX12_cut cX12_cut 4 0 0 [.long va, .int wd] [] a00 s00 (fun r _ => True) := by
  intro sz
  refine z_body (y := yX12_cut) (n := 4) (av := [.long va, .int wd]) (Qc := fun A => va_Ql (fun r _ => True) (PoC G kc [] a00 A) A) (plainFor_of_name (by decide)) (Nat.le_of_ble_eq_true rfl) (fun pr e s m below meth c A C0 hr hlk hnm hw hRo ls hl => ?_) sz
  have hx := C0.1
  have hb := C0.2.1
  have hown := C0.2.2.2.1
  have hts := C0.2.2.2.2.1
  have hl : lv_has ls 4 [(0, .long va), (2, .int wd)] := hl
  refine lv_bipush (v := 64) hx hb (dks dF_16 DX12_cut (i := 0) rfl rfl rfl) (by decide) ?_
  refine lv_bipush (v := 8) hx hb (dks dF_16 DX12_cut (i := 1) rfl rfl rfl) (by decide) ?_
  refine lv_iload_n hx hb (dkP dF_28 DX12_cut (i := 2) rfl rfl) rfl (lv_at hl 1 rfl) ?_
  refine lv_ishl hx hb (dkP dF_120 DX12_cut (i := 3) rfl rfl) ?_
  refine lv_isub hx hb (dkP dF_100 DX12_cut (i := 4) rfl rfl) ?_
  refine lv_topi (fun v1 ev1 => ?_)
  refine lv_istore_n (lv' := [(3, .int v1), (0, .long va), (2, .int wd)]) hx hb (dkP dF_62 DX12_cut (i := 5) rfl rfl) rfl hl (by decide) rfl (fun ls hl => ?_)
  refine lv_lload_n hx hb (dkP dF_30 DX12_cut (i := 6) rfl rfl) rfl (lv_at hl 1 rfl) ?_
  refine lv_iload_n hx hb (dkP dF_29 DX12_cut (i := 7) rfl rfl) rfl (lv_at hl 0 rfl) ?_
  refine lv_lshl hx hb (dkP dF_121 DX12_cut (i := 8) rfl rfl) rfl ?_
  refine lv_iload_n hx hb (dkP dF_29 DX12_cut (i := 9) rfl rfl) rfl (lv_at hl 0 rfl) ?_
  refine lv_lshr hx hb (dkP dF_123 DX12_cut (i := 10) rfl rfl) rfl ?_
  exact z_lret C0 hr hlk hw trivial (dkP dF_173 DX12_cut (i := 11) rfl rfl)
set_option maxRecDepth 100000 in
set_option maxHeartbeats 8000000 in
theorem c_X12_sheet (l : Launch) (G : va_G) (kc : KC) (ad : Nat → Nat) (σ : Sg) (slot : Int32) (wd : Int32) (nm : Int32) (hT : TM σ) : MI l G kc yX12_sheet cX12_sheet 5 (some .int) 2 45 [.ref (ad 0), .int slot, .int wd, .int nm] shM ad σ (fun r σ1 => TM σ1 ∧ fr true [33, 34] [] σ σ1) := by
  intro sz
  refine z_body (y := yX12_sheet) (n := 5) (av := [.ref (ad 0), .int slot, .int wd, .int nm]) (Qc := fun A => va_Qi (fun r σ1 => TM σ1 ∧ fr true [33, 34] [] σ σ1) (PoC G kc shM ad A) A) (plainFor_of_name (by decide)) (Nat.le_of_ble_eq_true rfl) (fun pr e s m below meth c A C0 hr hlk hnm hw hRo ls hl => ?_) sz
  have hx := C0.1
  have hb := C0.2.1
  have hown := C0.2.2.2.1
  have hts := C0.2.2.2.2.1
  have hl : lv_has ls 5 [(0, .ref (ad 0)), (1, .int slot), (2, .int wd), (3, .int nm)] := hl
  refine lv_iload_n hx hb (dkP dF_27 DX12_sheet (i := 0) rfl rfl) rfl (lv_at hl 1 rfl) ?_
  refine zn_I hw (zr_S (As := [.int slot]) (rest := []) C0 (c_X12_isSlot l G kc slot  _) cs_X12_isSlot lk_X12_446 (zp_P C0 hRo hw a00 s00) rfl hl.1 rfl ⟨by decide, by decide⟩ (Nat.le_of_ble_eq_true rfl) (dk2 dF_184 DX12_sheet (i := 1) rfl rfl rfl) ⟨Nat.le_refl _, Nat.le_refl _⟩) (fun r1 s1 H locs hp hw => ?_)
  rcases hp with ⟨rfl, hc1⟩ | ⟨rfl, hc1⟩
  · skip
    (try simp (disch := omega) only [ta_lt, ta_le, ta_eq, tb_lt, tb_le, tb_eq, tw, tnI, tn32 1 (by decide), tnj 1 (by decide), tl32 0 (by decide), tl64 0 (by decide)] at hc1)
    obtain ⟨k_slot, hk_slot, rfl⟩ := to_nat (x := slot) (n := 4) (by (try simp only [lg_cmp_lt, lg_cmp_le, lg_cmp_gt, lg_cmp_ge, lg_cmp_eq] at hc1); (try simp (disch := omega) only [ta_lt, ta_le, ta_eq, tb_lt, tb_le, tb_eq, tw, tnI, tn32 1 (by decide), tnj 1 (by decide), tl32 0 (by decide), tl64 0 (by decide)] at hc1); (try simp (disch := omega) only [ta_lt, ta_le, ta_eq, tb_lt, tb_le, tb_eq, tw, tnI, tn32 1 (by decide), tnj 1 (by decide), tl32 0 (by decide), tl64 0 (by decide)]); omega)
    refine lv_if_eq (tgt := 25) hx hb (dkS dF_153 DX12_sheet (i := 2) rfl rfl rfl) (by decide) (fun h => absurd h (by decide)) (fun _ => ?_)
    refine lv_iload_n hx hb (dkP dF_28 DX12_sheet (i := 3) rfl rfl) rfl (lv_at hl 2 rfl) ?_
    refine lv_i2l hx hb (dkP dF_133 DX12_sheet (i := 4) rfl rfl) rfl ?_
    refine lv_lconst (v := 0) hx hb (dkP dF_9 DX12_sheet (i := 5) rfl rfl) (by decide) ?_
    refine lv_ldc2 hx hb hown (hts _ kn_X12_501) (dk2 dF_20 DX12_sheet (i := 6) rfl rfl rfl) ?_
    refine zn_I hw (zr_S (As := [.long wd.toInt64, .long 0, .long 3]) (rest := []) C0 (c_X12_in l G kc wd.toInt64 0 3  _) cs_X12_in lk_X12_9 (zp_P C0 hRo hw a00 s00) rfl hl.1 rfl ⟨by decide, by decide⟩ (Nat.le_of_ble_eq_true rfl) (dk2 dF_184 DX12_sheet (i := 7) rfl rfl rfl) ⟨Nat.le_refl _, Nat.le_refl _⟩) (fun r2 s2 H locs hp hw => ?_)
    rcases hp with ⟨rfl, hc2⟩ | ⟨rfl, hc2⟩
    · skip
      (try simp (disch := omega) only [ta_lt, ta_le, ta_eq, tb_lt, tb_le, tb_eq, tw, tnI, tn32 1 (by decide), tnj 1 (by decide), tl32 0 (by decide), tl64 0 (by decide), tl32 3 (by decide), tl64 3 (by decide)] at hc2)
      obtain ⟨k_wd, hk_wd, rfl⟩ := to_nat (x := wd) (n := 4) (by (try simp only [lg_cmp_lt, lg_cmp_le, lg_cmp_gt, lg_cmp_ge, lg_cmp_eq] at hc1); (try simp (disch := omega) only [ta_lt, ta_le, ta_eq, tb_lt, tb_le, tb_eq, tw, tnI, tn32 1 (by decide), tnj 1 (by decide), tl32 0 (by decide), tl64 0 (by decide), tl32 3 (by decide), tl64 3 (by decide)] at hc1); (try simp only [lg_cmp_lt, lg_cmp_le, lg_cmp_gt, lg_cmp_ge, lg_cmp_eq] at hk_slot); (try simp (disch := omega) only [ta_lt, ta_le, ta_eq, tb_lt, tb_le, tb_eq, tw, tnI, tn32 1 (by decide), tnj 1 (by decide), tl32 0 (by decide), tl64 0 (by decide), tl32 3 (by decide), tl64 3 (by decide)] at hk_slot); (try simp only [lg_cmp_lt, lg_cmp_le, lg_cmp_gt, lg_cmp_ge, lg_cmp_eq] at hc2); (try simp (disch := omega) only [ta_lt, ta_le, ta_eq, tb_lt, tb_le, tb_eq, tw, tnI, tn32 1 (by decide), tnj 1 (by decide), tl32 0 (by decide), tl64 0 (by decide), tl32 3 (by decide), tl64 3 (by decide)] at hc2); (try simp (disch := omega) only [ta_lt, ta_le, ta_eq, tb_lt, tb_le, tb_eq, tw, tnI, tn32 1 (by decide), tnj 1 (by decide), tl32 0 (by decide), tl64 0 (by decide), tl32 3 (by decide), tl64 3 (by decide)]); omega)
      refine lv_if_eq (tgt := 25) hx hb (dkS dF_153 DX12_sheet (i := 8) rfl rfl rfl) (by decide) (fun h => absurd h (by decide)) (fun _ => ?_)
      refine lv_iload_n hx hb (dkP dF_29 DX12_sheet (i := 9) rfl rfl) rfl (lv_at hl 3 rfl) ?_
      refine lv_bipush (v := 60) hx hb (dks dF_16 DX12_sheet (i := 10) rfl rfl rfl) (by decide) ?_
      refine lv_icmp_le (tgt := 28) hx hb (dkS dF_164 DX12_sheet (i := 11) rfl rfl rfl) (by decide) (fun c3 => ?_) (fun c3 => ?_)
      · (try simp (disch := omega) only [ta_lt, ta_le, ta_eq, tnI, tl32 60 (by decide)] at c3)
        refine lv_iload_n hx hb (dkP dF_29 DX12_sheet (i := 14) rfl rfl) rfl (lv_at hl 3 rfl) ?_
        refine lv_if_ge (tgt := 35) hx hb (dkS dF_156 DX12_sheet (i := 15) rfl rfl rfl) (by decide) (fun c4 => ?_) (fun c4 => ?_)
        · (try simp (disch := omega) only [ta_lt, ta_le, ta_eq, tnI, tl32 0 (by decide)] at c4)
          refine lv_aload_n hx hb (dkP dF_42 DX12_sheet (i := 18) rfl rfl) rfl (lv_at hl 0 rfl) ?_
          refine z_gr C0 hw 0 50 33 rfl fl_X12_126 (dk2 dF_180 DX12_sheet (i := 19) rfl rfl rfl) ?_
          refine lv_iload_n hx hb (dkP dF_27 DX12_sheet (i := 20) rfl rfl) rfl (lv_at hl 1 rfl) ?_
          refine lv_iload_n hx hb (dkP dF_29 DX12_sheet (i := 21) rfl rfl) rfl (lv_at hl 3 rfl) ?_
          refine z_iastN (n := 4) C0 hw 33 k_slot rfl (by omega) (by decide) (dkP dF_79 DX12_sheet (i := 22) rfl rfl) (fun H locs hw => ?_)
          have hT5 : TM (sI σ 33 k_slot nm) := TM.w hT (show -1 ≤ _ ∧ _ ≤ 60 from by (try simp only [lg_cmp_lt, lg_cmp_le, lg_cmp_gt, lg_cmp_ge, lg_cmp_eq] at hc1); (try simp (disch := omega) only [ta_lt, ta_le, ta_eq, tb_lt, tb_le, tb_eq, tw, tnI, tsub1, tsv, tn32 1 (by decide), tnj 1 (by decide), tl32 0 (by decide), tl64 0 (by decide), tl32 3 (by decide), tl64 3 (by decide), tl32 60 (by decide), tl64 60 (by decide)] at hc1); (try simp only [lg_cmp_lt, lg_cmp_le, lg_cmp_gt, lg_cmp_ge, lg_cmp_eq] at hc2); (try simp (disch := omega) only [ta_lt, ta_le, ta_eq, tb_lt, tb_le, tb_eq, tw, tnI, tsub1, tsv, tn32 1 (by decide), tnj 1 (by decide), tl32 0 (by decide), tl64 0 (by decide), tl32 3 (by decide), tl64 3 (by decide), tl32 60 (by decide), tl64 60 (by decide)] at hc2); (try simp only [lg_cmp_lt, lg_cmp_le, lg_cmp_gt, lg_cmp_ge, lg_cmp_eq] at c3); (try simp (disch := omega) only [ta_lt, ta_le, ta_eq, tb_lt, tb_le, tb_eq, tw, tnI, tsub1, tsv, tn32 1 (by decide), tnj 1 (by decide), tl32 0 (by decide), tl64 0 (by decide), tl32 3 (by decide), tl64 3 (by decide), tl32 60 (by decide), tl64 60 (by decide)] at c3); (try simp only [lg_cmp_lt, lg_cmp_le, lg_cmp_gt, lg_cmp_ge, lg_cmp_eq] at c4); (try simp (disch := omega) only [ta_lt, ta_le, ta_eq, tb_lt, tb_le, tb_eq, tw, tnI, tsub1, tsv, tn32 1 (by decide), tnj 1 (by decide), tl32 0 (by decide), tl64 0 (by decide), tl32 3 (by decide), tl64 3 (by decide), tl32 60 (by decide), tl64 60 (by decide)] at c4); (try simp (disch := omega) only [ta_lt, ta_le, ta_eq, tb_lt, tb_le, tb_eq, tw, tnI, tsub1, tsv, tn32 1 (by decide), tnj 1 (by decide), tl32 0 (by decide), tl64 0 (by decide), tl32 3 (by decide), tl64 3 (by decide), tl32 60 (by decide), tl64 60 (by decide)]); omega)
          have hF5 : fr true [33, 34] [] σ (sI σ 33 k_slot nm) := fr.w fr.refl (Or.inl ⟨by decide, by decide⟩) (fun _ h => absurd h (by decide))
          refine lv_aload_n hx hb (dkP dF_42 DX12_sheet (i := 23) rfl rfl) rfl (lv_at hl 0 rfl) ?_
          refine z_gr C0 hw 0 51 34 rfl fl_X12_129 (dk2 dF_180 DX12_sheet (i := 24) rfl rfl rfl) ?_
          refine lv_iload_n hx hb (dkP dF_27 DX12_sheet (i := 25) rfl rfl) rfl (lv_at hl 1 rfl) ?_
          refine lv_iload_n hx hb (dkP dF_28 DX12_sheet (i := 26) rfl rfl) rfl (lv_at hl 2 rfl) ?_
          refine z_iastN (n := 4) C0 hw 34 k_slot rfl (by omega) (by decide) (dkP dF_79 DX12_sheet (i := 27) rfl rfl) (fun H locs hw => ?_)
          have hT6 : TM (sI (sI σ 33 k_slot nm) 34 k_slot (nI k_wd)) := TM.w hT5 (show True from trivial)
          have hF6 : fr true [33, 34] [] σ (sI (sI σ 33 k_slot nm) 34 k_slot (nI k_wd)) := fr.w hF5 (Or.inl ⟨by decide, by decide⟩) (fun _ h => absurd h (by decide))
          refine lv_iconst (v := 0) hx hb (dkP dF_3 DX12_sheet (i := 28) rfl rfl) (by decide) ?_
          refine lv_istore (lv' := [(4, .int 0), (0, .ref (ad 0)), (1, .int (nI k_slot)), (2, .int (nI k_wd)), (3, .int nm)]) hx hb (dk1 dF_54 DX12_sheet (i := 29) rfl rfl rfl) hl (by decide) rfl (fun ls hl => ?_)
          have lp8 : ∀ (nq : Nat) (q4_52 : Nat) (τ7 : Sg) (H : Heap) (locs : List Loc) (ls : Array Slot), 60 - q4_52 < nq → (q4_52 ≤ 60) → (TM τ7) → (fr true [33, 34] [] σ τ7) → St G kc A s.heap shM ad τ7 H locs → lv_has ls 5 [(4, .int (nI q4_52)), (0, .ref (ad 0)), (1, .int (nI k_slot)), (2, .int (nI k_wd)), (3, .int nm)] → W pr l e { frames := 2, cells := 0, slots := 0, locals := 45 } s m ([.ref (ad 0), .int (nI k_slot), .int (nI k_wd), .int nm] : List Value).toArray below meth c H locs 0 0 (MQ below (va_Qi (fun r σ1 => TM σ1 ∧ fr true [33, 34] [] σ σ1) (PoC G kc shM ad A) A) ([.ref (ad 0), .int (nI k_slot), .int (nI k_wd), .int nm] : List Value).toArray s 0 0 A) (F0 m 52 ls []) := by
            intro nq
            induction nq with
            | zero => intro q4_52 τ7 H locs ls hmu; exact absurd hmu (Nat.not_lt_zero _)
            | succ nq ih8 =>
              intro q4_52 τ7 H locs ls hmu hq4_52 hT_τ7 hF_τ7 hw hl
              refine lv_iload hx hb (dk1 dF_21 DX12_sheet (i := 30) rfl rfl rfl) (lv_at hl 0 rfl) ?_
              refine lv_bipush (v := 60) hx hb (dks dF_16 DX12_sheet (i := 31) rfl rfl rfl) (by decide) ?_
              refine lv_icmp_ge (tgt := 78) hx hb (dkS dF_162 DX12_sheet (i := 32) rfl rfl rfl) (by decide) (fun c9 => ?_) (fun c9 => ?_)
              · simp (disch := omega) only [ta_lt, ta_le, ta_eq, tnI, tl32 60 (by decide)] at c9
                refine lv_iconst (v := 0) hx hb (dkP dF_3 DX12_sheet (i := 44) rfl rfl) (by decide) ?_
                exact z_iret C0 hr hlk hw (⟨hT_τ7, hF_τ7⟩) (dkP dF_172 DX12_sheet (i := 45) rfl rfl)
              · simp (disch := omega) only [ta_lt, ta_le, ta_eq, tnI, tl32 60 (by decide)] at c9
                refine lv_aload_n hx hb (dkP dF_42 DX12_sheet (i := 33) rfl rfl) rfl (lv_at hl 1 rfl) ?_
                refine z_gr C0 hw 0 52 35 rfl fl_X12_132 (dk2 dF_180 DX12_sheet (i := 34) rfl rfl rfl) ?_
                refine lv_bipush (v := 60) hx hb (dks dF_16 DX12_sheet (i := 35) rfl rfl rfl) (by decide) ?_
                refine lv_iload_n hx hb (dkP dF_27 DX12_sheet (i := 36) rfl rfl) rfl (lv_at hl 2 rfl) ?_
                refine lv_imul hx hb (dkP dF_104 DX12_sheet (i := 37) rfl rfl) ?_
                refine z_top (y := nI (60 * k_slot)) (by simp only [fa_lit, nI_add, pk_mul]) ?_
                refine lv_iload hx hb (dk1 dF_21 DX12_sheet (i := 38) rfl rfl rfl) (lv_at hl 0 rfl) ?_
                refine lv_iadd hx hb (dkP dF_96 DX12_sheet (i := 39) rfl rfl) ?_
                refine z_top (y := nI ((60 * k_slot) + q4_52)) (by simp only [fa_lit, nI_add, pk_mul]) ?_
                refine lv_lconst (v := 0) hx hb (dkP dF_9 DX12_sheet (i := 40) rfl rfl) (by decide) ?_
                refine z_lastN (n := 240) C0 hw 35 ((60 * k_slot) + q4_52) rfl (by omega) (by decide) (dkP dF_80 DX12_sheet (i := 41) rfl rfl) (fun H locs hw => ?_)
                have hF10 : fr true [33, 34] [] σ (sL τ7 35 ((60 * k_slot) + q4_52) 0) := fr.l hF_τ7
                refine lv_iinc (v := nI (q4_52 + 1)) (lv' := [(4, .int (nI (q4_52 + 1))), (0, .ref (ad 0)), (1, .int (nI k_slot)), (2, .int (nI k_wd)), (3, .int nm)]) hx hb (dkI DX12_sheet (i := 42) rfl rfl rfl rfl) hl (k := 0) rfl (nI_1 _) (by decide) rfl (fun ls hl => ?_)
                refine lv_goto (tgt := 52) hx hb (dkS dF_167 DX12_sheet (i := 43) rfl rfl rfl) (by decide) ?_
                exact ih8 (q4_52 + 1) (sL τ7 35 ((60 * k_slot) + q4_52) 0) _ _ _ (by omega) (by (try simp only [lg_cmp_lt, lg_cmp_le, lg_cmp_gt, lg_cmp_ge, lg_cmp_eq] at hc1); (try simp (disch := omega) only [ta_lt, ta_le, ta_eq, tb_lt, tb_le, tb_eq, tw, tnI, tsub1, tsv, tn32 1 (by decide), tnj 1 (by decide), tl32 0 (by decide), tl64 0 (by decide), tl32 3 (by decide), tl64 3 (by decide), tl32 60 (by decide), tl64 60 (by decide)] at hc1); (try simp only [lg_cmp_lt, lg_cmp_le, lg_cmp_gt, lg_cmp_ge, lg_cmp_eq] at hc2); (try simp (disch := omega) only [ta_lt, ta_le, ta_eq, tb_lt, tb_le, tb_eq, tw, tnI, tsub1, tsv, tn32 1 (by decide), tnj 1 (by decide), tl32 0 (by decide), tl64 0 (by decide), tl32 3 (by decide), tl64 3 (by decide), tl32 60 (by decide), tl64 60 (by decide)] at hc2); (try simp only [lg_cmp_lt, lg_cmp_le, lg_cmp_gt, lg_cmp_ge, lg_cmp_eq] at c3); (try simp (disch := omega) only [ta_lt, ta_le, ta_eq, tb_lt, tb_le, tb_eq, tw, tnI, tsub1, tsv, tn32 1 (by decide), tnj 1 (by decide), tl32 0 (by decide), tl64 0 (by decide), tl32 3 (by decide), tl64 3 (by decide), tl32 60 (by decide), tl64 60 (by decide)] at c3); (try simp only [lg_cmp_lt, lg_cmp_le, lg_cmp_gt, lg_cmp_ge, lg_cmp_eq] at c4); (try simp (disch := omega) only [ta_lt, ta_le, ta_eq, tb_lt, tb_le, tb_eq, tw, tnI, tsub1, tsv, tn32 1 (by decide), tnj 1 (by decide), tl32 0 (by decide), tl64 0 (by decide), tl32 3 (by decide), tl64 3 (by decide), tl32 60 (by decide), tl64 60 (by decide)] at c4); (try simp only [lg_cmp_lt, lg_cmp_le, lg_cmp_gt, lg_cmp_ge, lg_cmp_eq] at c9); (try simp (disch := omega) only [ta_lt, ta_le, ta_eq, tb_lt, tb_le, tb_eq, tw, tnI, tsub1, tsv, tn32 1 (by decide), tnj 1 (by decide), tl32 0 (by decide), tl64 0 (by decide), tl32 3 (by decide), tl64 3 (by decide), tl32 60 (by decide), tl64 60 (by decide)] at c9); (try simp (disch := omega) only [ta_lt, ta_le, ta_eq, tb_lt, tb_le, tb_eq, tw, tnI, tsub1, tsv, tn32 1 (by decide), tnj 1 (by decide), tl32 0 (by decide), tl64 0 (by decide), tl32 3 (by decide), tl64 3 (by decide), tl32 60 (by decide), tl64 60 (by decide)]); omega) hT_τ7 hF10 hw (lv_sub hl [0, 1, 2, 3, 4] rfl)
          exact lp8 _ 0 (sI (sI σ 33 k_slot nm) 34 k_slot (nI k_wd)) _ _ _ (Nat.lt_succ_self _) (by (try simp only [lg_cmp_lt, lg_cmp_le, lg_cmp_gt, lg_cmp_ge, lg_cmp_eq] at hc1); (try simp (disch := omega) only [ta_lt, ta_le, ta_eq, tb_lt, tb_le, tb_eq, tw, tnI, tsub1, tsv, tn32 1 (by decide), tnj 1 (by decide), tl32 0 (by decide), tl64 0 (by decide), tl32 3 (by decide), tl64 3 (by decide), tl32 60 (by decide), tl64 60 (by decide)] at hc1); (try simp only [lg_cmp_lt, lg_cmp_le, lg_cmp_gt, lg_cmp_ge, lg_cmp_eq] at hc2); (try simp (disch := omega) only [ta_lt, ta_le, ta_eq, tb_lt, tb_le, tb_eq, tw, tnI, tsub1, tsv, tn32 1 (by decide), tnj 1 (by decide), tl32 0 (by decide), tl64 0 (by decide), tl32 3 (by decide), tl64 3 (by decide), tl32 60 (by decide), tl64 60 (by decide)] at hc2); (try simp only [lg_cmp_lt, lg_cmp_le, lg_cmp_gt, lg_cmp_ge, lg_cmp_eq] at c3); (try simp (disch := omega) only [ta_lt, ta_le, ta_eq, tb_lt, tb_le, tb_eq, tw, tnI, tsub1, tsv, tn32 1 (by decide), tnj 1 (by decide), tl32 0 (by decide), tl64 0 (by decide), tl32 3 (by decide), tl64 3 (by decide), tl32 60 (by decide), tl64 60 (by decide)] at c3); (try simp only [lg_cmp_lt, lg_cmp_le, lg_cmp_gt, lg_cmp_ge, lg_cmp_eq] at c4); (try simp (disch := omega) only [ta_lt, ta_le, ta_eq, tb_lt, tb_le, tb_eq, tw, tnI, tsub1, tsv, tn32 1 (by decide), tnj 1 (by decide), tl32 0 (by decide), tl64 0 (by decide), tl32 3 (by decide), tl64 3 (by decide), tl32 60 (by decide), tl64 60 (by decide)] at c4); (try simp (disch := omega) only [ta_lt, ta_le, ta_eq, tb_lt, tb_le, tb_eq, tw, tnI, tsub1, tsv, tn32 1 (by decide), tnj 1 (by decide), tl32 0 (by decide), tl64 0 (by decide), tl32 3 (by decide), tl64 3 (by decide), tl32 60 (by decide), tl64 60 (by decide)]); omega) hT6 hF6 hw (lv_sub hl [0, 1, 2, 3, 4] rfl)
        · (try simp (disch := omega) only [ta_lt, ta_le, ta_eq, tnI, tl32 0 (by decide)] at c4)
          refine lv_bipush (v := (-3)) hx hb (dks dF_16 DX12_sheet (i := 16) rfl rfl rfl) (by decide) ?_
          exact z_iret C0 hr hlk hw (⟨hT, fr.refl⟩) (dkP dF_172 DX12_sheet (i := 17) rfl rfl)
      · (try simp (disch := omega) only [ta_lt, ta_le, ta_eq, tnI, tl32 60 (by decide)] at c3)
        refine lv_bipush (v := (-2)) hx hb (dks dF_16 DX12_sheet (i := 12) rfl rfl rfl) (by decide) ?_
        exact z_iret C0 hr hlk hw (⟨hT, fr.refl⟩) (dkP dF_172 DX12_sheet (i := 13) rfl rfl)
    · skip
      (try simp (disch := omega) only [ta_lt, ta_le, ta_eq, tb_lt, tb_le, tb_eq, tw, tnI, tn32 3 (by decide), tnj 3 (by decide), tn32 2 (by decide), tnj 2 (by decide), tn32 1 (by decide), tnj 1 (by decide), tl32 0 (by decide), tl64 0 (by decide), tl32 3 (by decide), tl64 3 (by decide), tl32 60 (by decide), tl64 60 (by decide)] at hc2)
      refine lv_if_eq (tgt := 25) hx hb (dkS dF_153 DX12_sheet (i := 8) rfl rfl rfl) (by decide) (fun _ => ?_) (fun h => absurd h (by decide))
      refine lv_bipush (v := (-2)) hx hb (dks dF_16 DX12_sheet (i := 12) rfl rfl rfl) (by decide) ?_
      exact z_iret C0 hr hlk hw (⟨hT, fr.refl⟩) (dkP dF_172 DX12_sheet (i := 13) rfl rfl)
  · skip
    (try simp (disch := omega) only [ta_lt, ta_le, ta_eq, tb_lt, tb_le, tb_eq, tw, tnI, tn32 3 (by decide), tnj 3 (by decide), tn32 2 (by decide), tnj 2 (by decide), tn32 1 (by decide), tnj 1 (by decide), tl32 0 (by decide), tl64 0 (by decide), tl32 3 (by decide), tl64 3 (by decide), tl32 60 (by decide), tl64 60 (by decide)] at hc1)
    refine lv_if_eq (tgt := 25) hx hb (dkS dF_153 DX12_sheet (i := 2) rfl rfl rfl) (by decide) (fun _ => ?_) (fun h => absurd h (by decide))
    refine lv_bipush (v := (-2)) hx hb (dks dF_16 DX12_sheet (i := 12) rfl rfl rfl) (by decide) ?_
    exact z_iret C0 hr hlk hw (⟨hT, fr.refl⟩) (dkP dF_172 DX12_sheet (i := 13) rfl rfl)
set_option maxRecDepth 100000 in
set_option maxHeartbeats 8000000 in
theorem c_X12_write (l : Launch) (G : va_G) (kc : KC) (ad : Nat → Nat) (σ : Sg) (slot : Int32) (ix : Int32) (va : Int64) (hT : TM σ) : MI l G kc yX12_write cX12_write 5 (some .int) 2 45 [.ref (ad 0), .int slot, .int ix, .long va] shM ad σ (fun r σ1 => TM σ1 ∧ fr true [] [] σ σ1) := by
  intro sz
  refine z_body (y := yX12_write) (n := 5) (av := [.ref (ad 0), .int slot, .int ix, .long va]) (Qc := fun A => va_Qi (fun r σ1 => TM σ1 ∧ fr true [] [] σ σ1) (PoC G kc shM ad A) A) (plainFor_of_name (by decide)) (Nat.le_of_ble_eq_true rfl) (fun pr e s m below meth c A C0 hr hlk hnm hw hRo ls hl => ?_) sz
  have hx := C0.1
  have hb := C0.2.1
  have hown := C0.2.2.2.1
  have hts := C0.2.2.2.2.1
  have hl : lv_has ls 5 [(0, .ref (ad 0)), (1, .int slot), (2, .int ix), (3, .long va)] := hl
  refine lv_iload_n hx hb (dkP dF_27 DX12_write (i := 0) rfl rfl) rfl (lv_at hl 1 rfl) ?_
  refine zn_I hw (zr_S (As := [.int slot]) (rest := []) C0 (c_X12_isSlot l G kc slot  _) cs_X12_isSlot lk_X12_446 (zp_P C0 hRo hw a00 s00) rfl hl.1 rfl ⟨by decide, by decide⟩ (Nat.le_of_ble_eq_true rfl) (dk2 dF_184 DX12_write (i := 1) rfl rfl rfl) ⟨Nat.le_refl _, Nat.le_refl _⟩) (fun r1 s1 H locs hp hw => ?_)
  rcases hp with ⟨rfl, hc1⟩ | ⟨rfl, hc1⟩
  · skip
    (try simp (disch := omega) only [ta_lt, ta_le, ta_eq, tb_lt, tb_le, tb_eq, tw, tnI, tn32 1 (by decide), tnj 1 (by decide), tl32 0 (by decide), tl64 0 (by decide)] at hc1)
    obtain ⟨k_slot, hk_slot, rfl⟩ := to_nat (x := slot) (n := 4) (by (try simp only [lg_cmp_lt, lg_cmp_le, lg_cmp_gt, lg_cmp_ge, lg_cmp_eq] at hc1); (try simp (disch := omega) only [ta_lt, ta_le, ta_eq, tb_lt, tb_le, tb_eq, tw, tnI, tn32 1 (by decide), tnj 1 (by decide), tl32 0 (by decide), tl64 0 (by decide)] at hc1); (try simp (disch := omega) only [ta_lt, ta_le, ta_eq, tb_lt, tb_le, tb_eq, tw, tnI, tn32 1 (by decide), tnj 1 (by decide), tl32 0 (by decide), tl64 0 (by decide)]); omega)
    refine lv_if_ne (tgt := 10) hx hb (dkS dF_154 DX12_write (i := 2) rfl rfl rfl) (by decide) (fun _ => ?_) (fun h => absurd h (by decide))
    refine lv_aload_n hx hb (dkP dF_42 DX12_write (i := 5) rfl rfl) rfl (lv_at hl 0 rfl) ?_
    refine z_gr C0 hw 0 50 33 rfl fl_X12_126 (dk2 dF_180 DX12_write (i := 6) rfl rfl rfl) ?_
    refine lv_iload_n hx hb (dkP dF_27 DX12_write (i := 7) rfl rfl) rfl (lv_at hl 1 rfl) ?_
    refine z_ialdN (n := 4) C0 hw 33 k_slot rfl (by omega) (by decide) (dkP dF_46 DX12_write (i := 8) rfl rfl) ?_
    obtain ⟨v2, ev2⟩ : ∃ y : Int32, σ.1 33 k_slot = y := ⟨_, rfl⟩
    have hv2 : -1 ≤ v2.toInt ∧ v2.toInt ≤ 60 := by rw [← ev2]; exact (show -1 ≤ _ ∧ _ ≤ 60 from hT 33 _)
    refine z_top (y := v2) ev2 ?_
    refine lv_iconst (v := (-1)) hx hb (dkP dF_2 DX12_write (i := 9) rfl rfl) (by decide) ?_
    refine lv_icmp_ne (tgt := 23) hx hb (dkS dF_160 DX12_write (i := 10) rfl rfl rfl) (by decide) (fun c3 => ?_) (fun c3 => ?_)
    · (try simp (disch := omega) only [ta_lt, ta_le, ta_eq, tnI, tn32 1 (by decide)] at c3)
      refine lv_iload_n hx hb (dkP dF_28 DX12_write (i := 13) rfl rfl) rfl (lv_at hl 2 rfl) ?_
      refine lv_i2l hx hb (dkP dF_133 DX12_write (i := 14) rfl rfl) rfl ?_
      refine lv_lconst (v := 0) hx hb (dkP dF_9 DX12_write (i := 15) rfl rfl) (by decide) ?_
      refine lv_aload_n hx hb (dkP dF_42 DX12_write (i := 16) rfl rfl) rfl (lv_at hl 0 rfl) ?_
      refine z_gr C0 hw 0 50 33 rfl fl_X12_126 (dk2 dF_180 DX12_write (i := 17) rfl rfl rfl) ?_
      refine lv_iload_n hx hb (dkP dF_27 DX12_write (i := 18) rfl rfl) rfl (lv_at hl 1 rfl) ?_
      refine z_ialdN (n := 4) C0 hw 33 k_slot rfl (by omega) (by decide) (dkP dF_46 DX12_write (i := 19) rfl rfl) ?_
      refine z_top (y := v2) ev2 ?_
      refine lv_iconst (v := 1) hx hb (dkP dF_4 DX12_write (i := 20) rfl rfl) (by decide) ?_
      refine lv_isub hx hb (dkP dF_100 DX12_write (i := 21) rfl rfl) ?_
      refine lv_i2l hx hb (dkP dF_133 DX12_write (i := 22) rfl rfl) rfl ?_
      refine zn_I hw (zr_S (As := [.long ix.toInt64, .long 0, .long ((v2 - 1).toInt64)]) (rest := []) C0 (c_X12_in l G kc ix.toInt64 0 ((v2 - 1).toInt64)  _) cs_X12_in lk_X12_9 (zp_P C0 hRo hw a00 s00) rfl hl.1 rfl ⟨by decide, by decide⟩ (Nat.le_of_ble_eq_true rfl) (dk2 dF_184 DX12_write (i := 23) rfl rfl rfl) ⟨Nat.le_refl _, Nat.le_refl _⟩) (fun r4 s4 H locs hp hw => ?_)
      rcases hp with ⟨rfl, hc4⟩ | ⟨rfl, hc4⟩
      · skip
        (try simp (disch := omega) only [ta_lt, ta_le, ta_eq, tb_lt, tb_le, tb_eq, tw, tnI, tn32 1 (by decide), tnj 1 (by decide), tl32 0 (by decide), tl64 0 (by decide), tl32 1 (by decide), tl64 1 (by decide)] at hc4)
        refine lv_if_ne (tgt := 44) hx hb (dkS dF_154 DX12_write (i := 24) rfl rfl rfl) (by decide) (fun _ => ?_) (fun h => absurd h (by decide))
        obtain ⟨xn, hxn, rfl⟩ := to_nat (x := ix) (n := 60) (by (try simp only [lg_cmp_lt, lg_cmp_le, lg_cmp_gt, lg_cmp_ge, lg_cmp_eq] at hc1); (try simp (disch := omega) only [ta_lt, ta_le, ta_eq, tb_lt, tb_le, tb_eq, tw, tnI, tsub1, tsv, tn32 1 (by decide), tnj 1 (by decide), tl32 0 (by decide), tl64 0 (by decide), tl32 1 (by decide), tl64 1 (by decide)] at hc1); (try simp only [lg_cmp_lt, lg_cmp_le, lg_cmp_gt, lg_cmp_ge, lg_cmp_eq] at c3); (try simp (disch := omega) only [ta_lt, ta_le, ta_eq, tb_lt, tb_le, tb_eq, tw, tnI, tsub1, tsv, tn32 1 (by decide), tnj 1 (by decide), tl32 0 (by decide), tl64 0 (by decide), tl32 1 (by decide), tl64 1 (by decide)] at c3); (try simp only [lg_cmp_lt, lg_cmp_le, lg_cmp_gt, lg_cmp_ge, lg_cmp_eq] at hc4); (try simp (disch := omega) only [ta_lt, ta_le, ta_eq, tb_lt, tb_le, tb_eq, tw, tnI, tsub1, tsv, tn32 1 (by decide), tnj 1 (by decide), tl32 0 (by decide), tl64 0 (by decide), tl32 1 (by decide), tl64 1 (by decide)] at hc4); (try simp (disch := omega) only [ta_lt, ta_le, ta_eq, tb_lt, tb_le, tb_eq, tw, tnI, tsub1, tsv, tn32 1 (by decide), tnj 1 (by decide), tl32 0 (by decide), tl64 0 (by decide), tl32 1 (by decide), tl64 1 (by decide)]); omega)
        refine lv_aload_n hx hb (dkP dF_42 DX12_write (i := 27) rfl rfl) rfl (lv_at hl 0 rfl) ?_
        refine z_gr C0 hw 0 52 35 rfl fl_X12_132 (dk2 dF_180 DX12_write (i := 28) rfl rfl rfl) ?_
        refine lv_bipush (v := 60) hx hb (dks dF_16 DX12_write (i := 29) rfl rfl rfl) (by decide) ?_
        refine lv_iload_n hx hb (dkP dF_27 DX12_write (i := 30) rfl rfl) rfl (lv_at hl 1 rfl) ?_
        refine lv_imul hx hb (dkP dF_104 DX12_write (i := 31) rfl rfl) ?_
        refine z_top (y := nI (60 * k_slot)) (by simp only [fa_lit, nI_add, pk_mul]) ?_
        refine lv_iload_n hx hb (dkP dF_28 DX12_write (i := 32) rfl rfl) rfl (lv_at hl 2 rfl) ?_
        refine lv_iadd hx hb (dkP dF_96 DX12_write (i := 33) rfl rfl) ?_
        refine z_top (y := nI ((60 * k_slot) + xn)) (by simp only [fa_lit, nI_add, pk_mul]) ?_
        refine lv_lload_n hx hb (dkP dF_33 DX12_write (i := 34) rfl rfl) rfl (lv_at hl 3 rfl) ?_
        refine lv_aload_n hx hb (dkP dF_42 DX12_write (i := 35) rfl rfl) rfl (lv_at hl 0 rfl) ?_
        refine z_gr C0 hw 0 51 34 rfl fl_X12_129 (dk2 dF_180 DX12_write (i := 36) rfl rfl rfl) ?_
        refine lv_iload_n hx hb (dkP dF_27 DX12_write (i := 37) rfl rfl) rfl (lv_at hl 1 rfl) ?_
        refine z_ialdN (n := 4) C0 hw 34 k_slot rfl (by omega) (by decide) (dkP dF_46 DX12_write (i := 38) rfl rfl) ?_
        obtain ⟨v5, ev5⟩ : ∃ y : Int32, σ.1 34 k_slot = y := ⟨_, rfl⟩
        refine z_top (y := v5) ev5 ?_
        refine zn_L hw (zr_S (As := [.long va, .int v5]) (rest := [.int (nI ((60 * k_slot) + xn)), .ref (ad 35)]) C0 (c_X12_cut l G kc va v5  _) cs_X12_cut lk_X12_503 (zp_P C0 hRo hw a00 s00) rfl hl.1 rfl ⟨by decide, by decide⟩ (Nat.le_of_ble_eq_true rfl) (dk2 dF_184 DX12_write (i := 39) rfl rfl rfl) ⟨Nat.le_refl _, Nat.le_refl _⟩) (fun r6 s6 H locs hp hw => ?_)
        refine z_lastN (n := 240) C0 hw 35 ((60 * k_slot) + xn) rfl (by omega) (by decide) (dkP dF_80 DX12_write (i := 40) rfl rfl) (fun H locs hw => ?_)
        have hF7 : fr true [] [] σ (sL σ 35 ((60 * k_slot) + xn) r6) := fr.l fr.refl
        refine lv_iconst (v := 0) hx hb (dkP dF_3 DX12_write (i := 41) rfl rfl) (by decide) ?_
        exact z_iret C0 hr hlk hw (⟨hT, hF7⟩) (dkP dF_172 DX12_write (i := 42) rfl rfl)
      · skip
        (try simp (disch := omega) only [ta_lt, ta_le, ta_eq, tb_lt, tb_le, tb_eq, tw, tnI, tn32 1 (by decide), tnj 1 (by decide), tl32 0 (by decide), tl64 0 (by decide), tl32 1 (by decide), tl64 1 (by decide), tl32 60 (by decide), tl64 60 (by decide)] at hc4)
        refine lv_if_ne (tgt := 44) hx hb (dkS dF_154 DX12_write (i := 24) rfl rfl rfl) (by decide) (fun h => absurd h (by decide)) (fun _ => ?_)
        refine lv_bipush (v := (-7)) hx hb (dks dF_16 DX12_write (i := 25) rfl rfl rfl) (by decide) ?_
        exact z_iret C0 hr hlk hw (⟨hT, fr.refl⟩) (dkP dF_172 DX12_write (i := 26) rfl rfl)
    · (try simp (disch := omega) only [ta_lt, ta_le, ta_eq, tnI, tn32 1 (by decide)] at c3)
      refine lv_bipush (v := (-6)) hx hb (dks dF_16 DX12_write (i := 11) rfl rfl rfl) (by decide) ?_
      exact z_iret C0 hr hlk hw (⟨hT, fr.refl⟩) (dkP dF_172 DX12_write (i := 12) rfl rfl)
  · skip
    (try simp (disch := omega) only [ta_lt, ta_le, ta_eq, tb_lt, tb_le, tb_eq, tw, tnI, tn32 7 (by decide), tnj 7 (by decide), tn32 6 (by decide), tnj 6 (by decide), tn32 1 (by decide), tnj 1 (by decide), tl32 0 (by decide), tl64 0 (by decide), tl32 1 (by decide), tl64 1 (by decide), tl32 60 (by decide), tl64 60 (by decide)] at hc1)
    refine lv_if_ne (tgt := 10) hx hb (dkS dF_154 DX12_write (i := 2) rfl rfl rfl) (by decide) (fun h => absurd h (by decide)) (fun _ => ?_)
    refine lv_bipush (v := (-2)) hx hb (dks dF_16 DX12_write (i := 3) rfl rfl rfl) (by decide) ?_
    exact z_iret C0 hr hlk hw (⟨hT, fr.refl⟩) (dkP dF_172 DX12_write (i := 4) rfl rfl)
set_option maxRecDepth 100000 in
set_option maxHeartbeats 8000000 in
theorem c_X12_end (l : Launch) (G : va_G) (kc : KC) (ad : Nat → Nat) (σ : Sg) (va : Int32) (hT : TM σ) : MI l G kc yX12_end cX12_end 2 (some .int) 1 25 [.ref (ad 0), .int va] shM ad σ (fun r σ1 => TM σ1 ∧ fr true [] [5] σ σ1) := by
  intro sz
  refine z_body (y := yX12_end) (n := 2) (av := [.ref (ad 0), .int va]) (Qc := fun A => va_Qi (fun r σ1 => TM σ1 ∧ fr true [] [5] σ σ1) (PoC G kc shM ad A) A) (plainFor_of_name (by decide)) (Nat.le_of_ble_eq_true rfl) (fun pr e s m below meth c A C0 hr hlk hnm hw hRo ls hl => ?_) sz
  have hx := C0.1
  have hb := C0.2.1
  have hown := C0.2.2.2.1
  have hts := C0.2.2.2.2.1
  have hl : lv_has ls 2 [(0, .ref (ad 0)), (1, .int va)] := hl
  refine lv_iload_n hx hb (dkP dF_27 DX12_end (i := 0) rfl rfl) rfl (lv_at hl 1 rfl) ?_
  refine lv_i2l hx hb (dkP dF_133 DX12_end (i := 1) rfl rfl) rfl ?_
  refine lv_lconst (v := 0) hx hb (dkP dF_9 DX12_end (i := 2) rfl rfl) (by decide) ?_
  refine lv_aload_n hx hb (dkP dF_42 DX12_end (i := 3) rfl rfl) rfl (lv_at hl 0 rfl) ?_
  refine z_gi C0 hw 0 5 rfl fl_X12_147 (dk2 dF_180 DX12_end (i := 4) rfl rfl rfl) ?_
  obtain ⟨n1, hn1, en1⟩ := rngN (x := σ.1 0 5) (h := 600) (show 0 ≤ _ ∧ _ ≤ 600 from hT 0 5)
  refine z_top (y := nI n1) en1 ?_
  refine lv_i2l hx hb (dkP dF_133 DX12_end (i := 5) rfl rfl) rfl ?_
  refine zn_I hw (zr_S (As := [.long va.toInt64, .long 0, .long ((nI n1).toInt64)]) (rest := []) C0 (c_X12_in l G kc va.toInt64 0 ((nI n1).toInt64)  _) cs_X12_in lk_X12_9 (zp_P C0 hRo hw a00 s00) rfl hl.1 rfl ⟨by decide, by decide⟩ (Nat.le_of_ble_eq_true rfl) (dk2 dF_184 DX12_end (i := 6) rfl rfl rfl) ⟨Nat.le_refl _, Nat.le_refl _⟩) (fun r2 s2 H locs hp hw => ?_)
  rcases hp with ⟨rfl, hc2⟩ | ⟨rfl, hc2⟩
  · skip
    (try simp (disch := omega) only [ta_lt, ta_le, ta_eq, tb_lt, tb_le, tb_eq, tw, tnI, tn32 1 (by decide), tnj 1 (by decide), tl32 0 (by decide), tl64 0 (by decide)] at hc2)
    refine lv_if_ne (tgt := 16) hx hb (dkS dF_154 DX12_end (i := 7) rfl rfl rfl) (by decide) (fun _ => ?_) (fun h => absurd h (by decide))
    refine lv_aload_n hx hb (dkP dF_42 DX12_end (i := 10) rfl rfl) rfl (lv_at hl 0 rfl) ?_
    refine lv_iload_n hx hb (dkP dF_27 DX12_end (i := 11) rfl rfl) rfl (lv_at hl 1 rfl) ?_
    refine z_pi C0 hw 0 5 rfl fp_X12_147 (dk2 dF_181 DX12_end (i := 12) rfl rfl rfl) (fun H locs hw => ?_)
    have hT3 : TM (sI σ 0 5 va) := TM.w hT (show 0 ≤ _ ∧ _ ≤ 600 from by (try simp only [lg_cmp_lt, lg_cmp_le, lg_cmp_gt, lg_cmp_ge, lg_cmp_eq] at hc2); (try simp (disch := omega) only [ta_lt, ta_le, ta_eq, tb_lt, tb_le, tb_eq, tw, tnI, tsub1, tsv, tn32 1 (by decide), tnj 1 (by decide), tl32 0 (by decide), tl64 0 (by decide)] at hc2); (try simp (disch := omega) only [ta_lt, ta_le, ta_eq, tb_lt, tb_le, tb_eq, tw, tnI, tsub1, tsv, tn32 1 (by decide), tnj 1 (by decide), tl32 0 (by decide), tl64 0 (by decide)]); omega)
    have hF3 : fr true [] [5] σ (sI σ 0 5 va) := fr.w fr.refl (Or.inr ⟨rfl, by decide⟩) (fun _ h => absurd h (by decide))
    refine lv_iload_n hx hb (dkP dF_27 DX12_end (i := 13) rfl rfl) rfl (lv_at hl 1 rfl) ?_
    exact z_iret C0 hr hlk hw (⟨hT3, hF3⟩) (dkP dF_172 DX12_end (i := 14) rfl rfl)
  · skip
    (try simp (disch := omega) only [ta_lt, ta_le, ta_eq, tb_lt, tb_le, tb_eq, tw, tnI, tn32 1 (by decide), tnj 1 (by decide), tl32 0 (by decide), tl64 0 (by decide)] at hc2)
    refine lv_if_ne (tgt := 16) hx hb (dkS dF_154 DX12_end (i := 7) rfl rfl rfl) (by decide) (fun h => absurd h (by decide)) (fun _ => ?_)
    refine lv_iconst (v := (-1)) hx hb (dkP dF_2 DX12_end (i := 8) rfl rfl) (by decide) ?_
    exact z_iret C0 hr hlk hw (⟨hT, fr.refl⟩) (dkP dF_172 DX12_end (i := 9) rfl rfl)
set_option maxRecDepth 100000 in
set_option maxHeartbeats 8000000 in
theorem c_X12_fault (l : Launch) (G : va_G) (kc : KC) (ad : Nat → Nat) (σ : Sg) (what : Int32) (hT : TM σ) : MI l G kc yX12_fault cX12_fault 2 (some .int) 0 0 [.ref (ad 0), .int what] shM ad σ (fun r σ1 => σ1 = σ) := by
  intro sz
  refine z_body (y := yX12_fault) (n := 2) (av := [.ref (ad 0), .int what]) (Qc := fun A => va_Qi (fun r σ1 => σ1 = σ) (PoC G kc shM ad A) A) (plainFor_of_name (by decide)) (Nat.le_of_ble_eq_true rfl) (fun pr e s m below meth c A C0 hr hlk hnm hw hRo ls hl => ?_) sz
  have hx := C0.1
  have hb := C0.2.1
  have hown := C0.2.2.2.1
  have hts := C0.2.2.2.2.1
  have hl : lv_has ls 2 [(0, .ref (ad 0)), (1, .int what)] := hl
  refine lv_iload_n hx hb (dkP dF_27 DX12_fault (i := 0) rfl rfl) rfl (lv_at hl 1 rfl) ?_
  refine lv_if_ne (tgt := 11) hx hb (dkS dF_154 DX12_fault (i := 1) rfl rfl rfl) (by decide) (fun c1 => ?_) (fun c1 => ?_)
  · (try simp (disch := omega) only [ta_lt, ta_le, ta_eq, tnI, tl32 0 (by decide)] at c1)
    refine lv_iload_n hx hb (dkP dF_27 DX12_fault (i := 5) rfl rfl) rfl (lv_at hl 1 rfl) ?_
    refine lv_iconst (v := 1) hx hb (dkP dF_4 DX12_fault (i := 6) rfl rfl) (by decide) ?_
    refine lv_icmp_ne (tgt := 23) hx hb (dkS dF_160 DX12_fault (i := 7) rfl rfl rfl) (by decide) (fun c2 => ?_) (fun c2 => ?_)
    · (try simp (disch := omega) only [ta_lt, ta_le, ta_eq, tnI, tl32 1 (by decide)] at c2)
      refine lv_iconst (v := (-1)) hx hb (dkP dF_2 DX12_fault (i := 11) rfl rfl) (by decide) ?_
      exact z_iret C0 hr hlk hw rfl (dkP dF_172 DX12_fault (i := 12) rfl rfl)
    · (try simp (disch := omega) only [ta_lt, ta_le, ta_eq, tnI, tl32 1 (by decide)] at c2)
      refine lv_aload_n hx hb (dkP dF_42 DX12_fault (i := 8) rfl rfl) rfl (lv_at hl 0 rfl) ?_
      refine z_gi C0 hw 0 13 rfl fl_X12_39 (dk2 dF_180 DX12_fault (i := 9) rfl rfl rfl) ?_
      obtain ⟨v3, ev3⟩ : ∃ y : Int32, σ.1 0 13 = y := ⟨_, rfl⟩
      refine z_top (y := v3) ev3 ?_
      refine lv_goto (tgt := 24) hx hb (dkS dF_167 DX12_fault (i := 10) rfl rfl rfl) (by decide) ?_
      exact z_iret C0 hr hlk hw rfl (dkP dF_172 DX12_fault (i := 12) rfl rfl)
  · (try simp (disch := omega) only [ta_lt, ta_le, ta_eq, tnI, tl32 0 (by decide)] at c1)
    refine lv_aload_n hx hb (dkP dF_42 DX12_fault (i := 2) rfl rfl) rfl (lv_at hl 0 rfl) ?_
    refine z_gi C0 hw 0 12 rfl fl_X12_187 (dk2 dF_180 DX12_fault (i := 3) rfl rfl rfl) ?_
    obtain ⟨v4, ev4⟩ : ∃ y : Int32, σ.1 0 12 = y := ⟨_, rfl⟩
    refine z_top (y := v4) ev4 ?_
    refine lv_goto (tgt := 24) hx hb (dkS dF_167 DX12_fault (i := 4) rfl rfl rfl) (by decide) ?_
    exact z_iret C0 hr hlk hw rfl (dkP dF_172 DX12_fault (i := 12) rfl rfl)
set_option maxRecDepth 100000 in
set_option maxHeartbeats 8000000 in
theorem c_X12_field (l : Launch) (G : va_G) (kc : KC) (ad : Nat → Nat) (σ : Sg) (field : Int32) (hT : TM σ) : MI l G kc yX12_field cX12_field 2 (some .int) 2 45 [.ref (ad 0), .int field] shM ad σ (fun r σ1 => σ1 = σ) := by
  intro sz
  refine z_body (y := yX12_field) (n := 2) (av := [.ref (ad 0), .int field]) (Qc := fun A => va_Qi (fun r σ1 => σ1 = σ) (PoC G kc shM ad A) A) (plainFor_of_name (by decide)) (Nat.le_of_ble_eq_true rfl) (fun pr e s m below meth c A C0 hr hlk hnm hw hRo ls hl => ?_) sz
  have hx := C0.1
  have hb := C0.2.1
  have hown := C0.2.2.2.1
  have hts := C0.2.2.2.2.1
  have hl : lv_has ls 2 [(0, .ref (ad 0)), (1, .int field)] := hl
  refine lv_iload_n hx hb (dkP dF_27 DX12_field (i := 0) rfl rfl) rfl (lv_at hl 1 rfl) ?_
  refine zn_I hw (zr_S (As := [.int field]) (rest := []) C0 (c_X12_isField l G kc field  _) cs_X12_isField lk_X12_332 (zp_P C0 hRo hw a00 s00) rfl hl.1 rfl ⟨by decide, by decide⟩ (Nat.le_of_ble_eq_true rfl) (dk2 dF_184 DX12_field (i := 1) rfl rfl rfl) ⟨Nat.le_refl _, Nat.le_refl _⟩) (fun r1 s1 H locs hp hw => ?_)
  rcases hp with ⟨rfl, hc1⟩ | ⟨rfl, hc1⟩
  · skip
    (try simp (disch := omega) only [ta_lt, ta_le, ta_eq, tb_lt, tb_le, tb_eq, tw, tnI, tn32 1 (by decide), tnj 1 (by decide), tl32 0 (by decide), tl64 0 (by decide)] at hc1)
    obtain ⟨k_field, hk_field, rfl⟩ := to_nat (x := field) (n := 8) (by (try simp only [lg_cmp_lt, lg_cmp_le, lg_cmp_gt, lg_cmp_ge, lg_cmp_eq] at hc1); (try simp (disch := omega) only [ta_lt, ta_le, ta_eq, tb_lt, tb_le, tb_eq, tw, tnI, tn32 1 (by decide), tnj 1 (by decide), tl32 0 (by decide), tl64 0 (by decide)] at hc1); (try simp (disch := omega) only [ta_lt, ta_le, ta_eq, tb_lt, tb_le, tb_eq, tw, tnI, tn32 1 (by decide), tnj 1 (by decide), tl32 0 (by decide), tl64 0 (by decide)]); omega)
    refine lv_if_eq (tgt := 16) hx hb (dkS dF_153 DX12_field (i := 2) rfl rfl rfl) (by decide) (fun h => absurd h (by decide)) (fun _ => ?_)
    refine lv_aload_n hx hb (dkP dF_42 DX12_field (i := 3) rfl rfl) rfl (lv_at hl 0 rfl) ?_
    refine z_gr C0 hw 0 26 15 rfl fl_X12_69 (dk2 dF_180 DX12_field (i := 4) rfl rfl rfl) ?_
    refine lv_iload_n hx hb (dkP dF_27 DX12_field (i := 5) rfl rfl) rfl (lv_at hl 1 rfl) ?_
    refine z_ialdN (n := 8) C0 hw 15 k_field rfl (by omega) (by decide) (dkP dF_46 DX12_field (i := 6) rfl rfl) ?_
    obtain ⟨v2, ev2⟩ : ∃ y : Int32, σ.1 15 k_field = y := ⟨_, rfl⟩
    refine z_top (y := v2) ev2 ?_
    refine lv_goto (tgt := 17) hx hb (dkS dF_167 DX12_field (i := 7) rfl rfl rfl) (by decide) ?_
    exact z_iret C0 hr hlk hw rfl (dkP dF_172 DX12_field (i := 9) rfl rfl)
  · skip
    (try simp (disch := omega) only [ta_lt, ta_le, ta_eq, tb_lt, tb_le, tb_eq, tw, tnI, tn32 1 (by decide), tnj 1 (by decide), tl32 0 (by decide), tl64 0 (by decide)] at hc1)
    refine lv_if_eq (tgt := 16) hx hb (dkS dF_153 DX12_field (i := 2) rfl rfl rfl) (by decide) (fun _ => ?_) (fun h => absurd h (by decide))
    refine lv_iconst (v := (-1)) hx hb (dkP dF_2 DX12_field (i := 8) rfl rfl) (by decide) ?_
    exact z_iret C0 hr hlk hw rfl (dkP dF_172 DX12_field (i := 9) rfl rfl)
set_option maxRecDepth 100000 in
set_option maxHeartbeats 8000000 in
theorem c_X12_did (l : Launch) (G : va_G) (kc : KC) (ad : Nat → Nat) (σ : Sg)  (hT : TM σ) : MI l G kc yX12_did cX12_did 1 (some .int) 0 0 [.ref (ad 0)] shM ad σ (fun r σ1 => σ1 = σ) := by
  intro sz
  refine z_body (y := yX12_did) (n := 1) (av := [.ref (ad 0)]) (Qc := fun A => va_Qi (fun r σ1 => σ1 = σ) (PoC G kc shM ad A) A) (plainFor_of_name (by decide)) (Nat.le_of_ble_eq_true rfl) (fun pr e s m below meth c A C0 hr hlk hnm hw hRo ls hl => ?_) sz
  have hx := C0.1
  have hb := C0.2.1
  have hown := C0.2.2.2.1
  have hts := C0.2.2.2.2.1
  have hl : lv_has ls 1 [(0, .ref (ad 0))] := hl
  refine lv_aload_n hx hb (dkP dF_42 DX12_did (i := 0) rfl rfl) rfl (lv_at hl 0 rfl) ?_
  refine z_gi C0 hw 0 27 rfl fl_X12_72 (dk2 dF_180 DX12_did (i := 1) rfl rfl rfl) ?_
  obtain ⟨v1, ev1⟩ : ∃ y : Int32, σ.1 0 27 = y := ⟨_, rfl⟩
  refine z_top (y := v1) ev1 ?_
  exact z_iret C0 hr hlk hw rfl (dkP dF_172 DX12_did (i := 2) rfl rfl)
