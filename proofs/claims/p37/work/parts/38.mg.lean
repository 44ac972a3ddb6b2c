set_option maxRecDepth 100000 in
set_option maxHeartbeats 8000000 in
theorem c_X12_feed (l : Launch) (G : va_G) (kc : KC) (ad : Nat → Nat) (σ : Sg) (fa : Int32) (fb : Int32) (fd : Int32) (fe : Int32) (fg : Int32) (hT : TM σ) : MI l G kc yX12_feed cX12_feed 7 (some .int) 0 0 [.ref (ad 0), .int fa, .int fb, .int fd, .int fe, .int fg] shM ad σ (fun r σ1 => TM σ1 ∧ fr true [4, 5] [5] σ σ1) := by
  intro sz
  refine z_body (y := yX12_feed) (n := 7) (av := [.ref (ad 0), .int fa, .int fb, .int fd, .int fe, .int fg]) (Qc := fun A => va_Qi (fun r σ1 => TM σ1 ∧ fr true [4, 5] [5] σ σ1) (PoC G kc shM ad A) A) (plainFor_of_name (by decide)) (Nat.le_of_ble_eq_true rfl) (fun pr e s m below meth c A C0 hr hlk hnm hw hRo ls hl => ?_) sz
  have hx := C0.1
  have hb := C0.2.1
  have hown := C0.2.2.2.1
  have hts := C0.2.2.2.2.1
  have hl : lv_has ls 7 [(0, .ref (ad 0)), (1, .int fa), (2, .int fb), (3, .int fd), (4, .int fe), (5, .int fg)] := hl
  refine lv_aload_n hx hb (dkP dF_42 DX12_feed (i := 0) rfl rfl) rfl (lv_at hl 0 rfl) ?_
  refine z_gi C0 hw 0 5 rfl fl_X12_147 (dk2 dF_180 DX12_feed (i := 1) rfl rfl rfl) ?_
  obtain ⟨n1, hn1, en1⟩ := rngN (x := σ.1 0 5) (h := 600) (show 0 ≤ _ ∧ _ ≤ 600 from hT 0 5)
  refine z_top (y := nI n1) en1 ?_
  refine lv_bipush (v := 20) hx hb (dks dF_16 DX12_feed (i := 2) rfl rfl rfl) (by decide) ?_
  refine lv_iadd hx hb (dkP dF_96 DX12_feed (i := 3) rfl rfl) ?_
  refine z_top (y := nI (n1 + 20)) (by simp only [fa_lit, nI_add, pk_mul]) ?_
  refine lv_sipush (v := 600) hx hb (dkS dF_17 DX12_feed (i := 4) rfl rfl rfl) (by decide) ?_
  refine lv_icmp_le (tgt := 15) hx hb (dkS dF_164 DX12_feed (i := 5) rfl rfl rfl) (by decide) (fun c2 => ?_) (fun c2 => ?_)
  · simp (disch := omega) only [ta_lt, ta_le, ta_eq, tnI, tl32 600 (by decide)] at c2
    refine lv_aload_n hx hb (dkP dF_42 DX12_feed (i := 8) rfl rfl) rfl (lv_at hl 0 rfl) ?_
    refine z_gr C0 hw 0 6 5 rfl fl_X12_36 (dk2 dF_180 DX12_feed (i := 9) rfl rfl rfl) ?_
    refine lv_iconst (v := 0) hx hb (dkP dF_3 DX12_feed (i := 10) rfl rfl) (by decide) ?_
    refine lv_iload_n hx hb (dkP dF_27 DX12_feed (i := 11) rfl rfl) rfl (lv_at hl 1 rfl) ?_
    refine z_iastN (n := 5) C0 hw 5 0 rfl (by omega) (by decide) (dkP dF_79 DX12_feed (i := 12) rfl rfl) (fun H locs hw => ?_)
    have hT3 : TM (sI σ 5 0 fa) := TM.w hT (show True from trivial)
    have hF3 : fr true [4, 5] [5] σ (sI σ 5 0 fa) := fr.w fr.refl (Or.inl ⟨by decide, by decide⟩) (fun _ h => absurd h (by decide))
    refine lv_aload_n hx hb (dkP dF_42 DX12_feed (i := 13) rfl rfl) rfl (lv_at hl 0 rfl) ?_
    refine z_gr C0 hw 0 6 5 rfl fl_X12_36 (dk2 dF_180 DX12_feed (i := 14) rfl rfl rfl) ?_
    refine lv_iconst (v := 1) hx hb (dkP dF_4 DX12_feed (i := 15) rfl rfl) (by decide) ?_
    refine lv_iload_n hx hb (dkP dF_28 DX12_feed (i := 16) rfl rfl) rfl (lv_at hl 2 rfl) ?_
    refine z_iastN (n := 5) C0 hw 5 1 rfl (by omega) (by decide) (dkP dF_79 DX12_feed (i := 17) rfl rfl) (fun H locs hw => ?_)
    have hT4 : TM (sI (sI σ 5 0 fa) 5 1 fb) := TM.w hT3 (show True from trivial)
    have hF4 : fr true [4, 5] [5] σ (sI (sI σ 5 0 fa) 5 1 fb) := fr.w hF3 (Or.inl ⟨by decide, by decide⟩) (fun _ h => absurd h (by decide))
    refine lv_aload_n hx hb (dkP dF_42 DX12_feed (i := 18) rfl rfl) rfl (lv_at hl 0 rfl) ?_
    refine z_gr C0 hw 0 6 5 rfl fl_X12_36 (dk2 dF_180 DX12_feed (i := 19) rfl rfl rfl) ?_
    refine lv_iconst (v := 2) hx hb (dkP dF_5 DX12_feed (i := 20) rfl rfl) (by decide) ?_
    refine lv_iload_n hx hb (dkP dF_29 DX12_feed (i := 21) rfl rfl) rfl (lv_at hl 3 rfl) ?_
    refine z_iastN (n := 5) C0 hw 5 2 rfl (by omega) (by decide) (dkP dF_79 DX12_feed (i := 22) rfl rfl) (fun H locs hw => ?_)
    have hT5 : TM (sI (sI (sI σ 5 0 fa) 5 1 fb) 5 2 fd) := TM.w hT4 (show True from trivial)
    have hF5 : fr true [4, 5] [5] σ (sI (sI (sI σ 5 0 fa) 5 1 fb) 5 2 fd) := fr.w hF4 (Or.inl ⟨by decide, by decide⟩) (fun _ h => absurd h (by decide))
    refine lv_aload_n hx hb (dkP dF_42 DX12_feed (i := 23) rfl rfl) rfl (lv_at hl 0 rfl) ?_
    refine z_gr C0 hw 0 6 5 rfl fl_X12_36 (dk2 dF_180 DX12_feed (i := 24) rfl rfl rfl) ?_
    refine lv_iconst (v := 3) hx hb (dkP dF_6 DX12_feed (i := 25) rfl rfl) (by decide) ?_
    refine lv_iload hx hb (dk1 dF_21 DX12_feed (i := 26) rfl rfl rfl) (lv_at hl 4 rfl) ?_
    refine z_iastN (n := 5) C0 hw 5 3 rfl (by omega) (by decide) (dkP dF_79 DX12_feed (i := 27) rfl rfl) (fun H locs hw => ?_)
    have hT6 : TM (sI (sI (sI (sI σ 5 0 fa) 5 1 fb) 5 2 fd) 5 3 fe) := TM.w hT5 (show True from trivial)
    have hF6 : fr true [4, 5] [5] σ (sI (sI (sI (sI σ 5 0 fa) 5 1 fb) 5 2 fd) 5 3 fe) := fr.w hF5 (Or.inl ⟨by decide, by decide⟩) (fun _ h => absurd h (by decide))
    refine lv_aload_n hx hb (dkP dF_42 DX12_feed (i := 28) rfl rfl) rfl (lv_at hl 0 rfl) ?_
    refine z_gr C0 hw 0 6 5 rfl fl_X12_36 (dk2 dF_180 DX12_feed (i := 29) rfl rfl rfl) ?_
    refine lv_iconst (v := 4) hx hb (dkP dF_7 DX12_feed (i := 30) rfl rfl) (by decide) ?_
    refine lv_iload hx hb (dk1 dF_21 DX12_feed (i := 31) rfl rfl rfl) (lv_at hl 5 rfl) ?_
    refine z_iastN (n := 5) C0 hw 5 4 rfl (by omega) (by decide) (dkP dF_79 DX12_feed (i := 32) rfl rfl) (fun H locs hw => ?_)
    have hT7 : TM (sI (sI (sI (sI (sI σ 5 0 fa) 5 1 fb) 5 2 fd) 5 3 fe) 5 4 fg) := TM.w hT6 (show True from trivial)
    have hF7 : fr true [4, 5] [5] σ (sI (sI (sI (sI (sI σ 5 0 fa) 5 1 fb) 5 2 fd) 5 3 fe) 5 4 fg) := fr.w hF6 (Or.inl ⟨by decide, by decide⟩) (fun _ h => absurd h (by decide))
    refine lv_iconst (v := 0) hx hb (dkP dF_3 DX12_feed (i := 33) rfl rfl) (by decide) ?_
    refine lv_istore (lv' := [(6, .int 0), (0, .ref (ad 0)), (1, .int fa), (2, .int fb), (3, .int fd), (4, .int fe), (5, .int fg)]) hx hb (dk1 dF_54 DX12_feed (i := 34) rfl rfl rfl) hl (by decide) rfl (fun ls hl => ?_)
    have lp9 : ∀ (nq : Nat) (q6_55 : Nat) (τ8 : Sg) (H : Heap) (locs : List Loc) (ls : Array Slot), 20 - q6_55 < nq → (q6_55 ≤ 20) → (τ8.1 0 5 = nI n1) → (TM τ8) → (fr true [4, 5] [5] σ τ8) → St G kc A s.heap shM ad τ8 H locs → lv_has ls 7 [(6, .int (nI q6_55)), (0, .ref (ad 0)), (1, .int fa), (2, .int fb), (3, .int fd), (4, .int fe), (5, .int fg)] → W pr l e { frames := 0, cells := 0, slots := 0, locals := 0 } s m ([.ref (ad 0), .int fa, .int fb, .int fd, .int fe, .int fg] : List Value).toArray below meth c H locs 0 0 (MQ below (va_Qi (fun r σ1 => TM σ1 ∧ fr true [4, 5] [5] σ σ1) (PoC G kc shM ad A) A) ([.ref (ad 0), .int fa, .int fb, .int fd, .int fe, .int fg] : List Value).toArray s 0 0 A) (F0 m 55 ls []) := by
      intro nq
      induction nq with
      | zero => intro q6_55 τ8 H locs ls hmu; exact absurd hmu (Nat.not_lt_zero _)
      | succ nq ih9 =>
        intro q6_55 τ8 H locs ls hmu hq6_55 htp hT_τ8 hF_τ8 hw hl
        refine lv_iload hx hb (dk1 dF_21 DX12_feed (i := 35) rfl rfl rfl) (lv_at hl 0 rfl) ?_
        refine lv_bipush (v := 20) hx hb (dks dF_16 DX12_feed (i := 36) rfl rfl rfl) (by decide) ?_
        refine lv_icmp_ge (tgt := 101) hx hb (dkS dF_162 DX12_feed (i := 37) rfl rfl rfl) (by decide) (fun c10 => ?_) (fun c10 => ?_)
        · simp (disch := omega) only [ta_lt, ta_le, ta_eq, tnI, tl32 20 (by decide)] at c10
          refine lv_aload_n hx hb (dkP dF_42 DX12_feed (i := 62) rfl rfl) rfl (lv_at hl 1 rfl) ?_
          refine lv_dup hx hb (dkP dF_89 DX12_feed (i := 63) rfl rfl) rfl ?_
          refine z_gi C0 hw 0 5 rfl fl_X12_147 (dk2 dF_180 DX12_feed (i := 64) rfl rfl rfl) ?_
          refine z_top (y := (nI n1)) htp ?_
          refine lv_bipush (v := 20) hx hb (dks dF_16 DX12_feed (i := 65) rfl rfl rfl) (by decide) ?_
          refine lv_iadd hx hb (dkP dF_96 DX12_feed (i := 66) rfl rfl) ?_
          refine z_top (y := nI (n1 + 20)) (by simp only [fa_lit, nI_add, pk_mul]) ?_
          refine z_pi C0 hw 0 5 rfl fp_X12_147 (dk2 dF_181 DX12_feed (i := 67) rfl rfl rfl) (fun H locs hw => ?_)
          have hT11 : TM (sI τ8 0 5 (nI (n1 + 20))) := TM.w hT_τ8 (show 0 ≤ _ ∧ _ ≤ 600 from by (try simp only [lg_cmp_lt, lg_cmp_le, lg_cmp_gt, lg_cmp_ge, lg_cmp_eq] at c2); (try simp (disch := omega) only [ta_lt, ta_le, ta_eq, tb_lt, tb_le, tb_eq, tw, tnI, tsub1, tsv, tn32 1 (by decide), tnj 1 (by decide), tl32 0 (by decide), tl64 0 (by decide), tl32 1 (by decide), tl64 1 (by decide), tl32 2 (by decide), tl64 2 (by decide), tl32 3 (by decide), tl64 3 (by decide), tl32 4 (by decide), tl64 4 (by decide), tl32 20 (by decide), tl64 20 (by decide), tl32 600 (by decide), tl64 600 (by decide)] at c2); (try simp only [lg_cmp_lt, lg_cmp_le, lg_cmp_gt, lg_cmp_ge, lg_cmp_eq] at c10); (try simp (disch := omega) only [ta_lt, ta_le, ta_eq, tb_lt, tb_le, tb_eq, tw, tnI, tsub1, tsv, tn32 1 (by decide), tnj 1 (by decide), tl32 0 (by decide), tl64 0 (by decide), tl32 1 (by decide), tl64 1 (by decide), tl32 2 (by decide), tl64 2 (by decide), tl32 3 (by decide), tl64 3 (by decide), tl32 4 (by decide), tl64 4 (by decide), tl32 20 (by decide), tl64 20 (by decide), tl32 600 (by decide), tl64 600 (by decide)] at c10); (try simp (disch := omega) only [ta_lt, ta_le, ta_eq, tb_lt, tb_le, tb_eq, tw, tnI, tsub1, tsv, tn32 1 (by decide), tnj 1 (by decide), tl32 0 (by decide), tl64 0 (by decide), tl32 1 (by decide), tl64 1 (by decide), tl32 2 (by decide), tl64 2 (by decide), tl32 3 (by decide), tl64 3 (by decide), tl32 4 (by decide), tl64 4 (by decide), tl32 20 (by decide), tl64 20 (by decide), tl32 600 (by decide), tl64 600 (by decide)]); omega)
          have hF11 : fr true [4, 5] [5] σ (sI τ8 0 5 (nI (n1 + 20))) := fr.w hF_τ8 (Or.inr ⟨rfl, by decide⟩) (fun _ h => absurd h (by decide))
          refine lv_aload_n hx hb (dkP dF_42 DX12_feed (i := 68) rfl rfl) rfl (lv_at hl 1 rfl) ?_
          refine z_gi C0 hw 0 5 rfl fl_X12_147 (dk2 dF_180 DX12_feed (i := 69) rfl rfl rfl) ?_
          refine z_top (y := (nI (n1 + 20))) rd_s ?_
          exact z_iret C0 hr hlk hw (⟨hT11, hF11⟩) (dkP dF_172 DX12_feed (i := 70) rfl rfl)
        · simp (disch := omega) only [ta_lt, ta_le, ta_eq, tnI, tl32 20 (by decide)] at c10
          refine lv_aload_n hx hb (dkP dF_42 DX12_feed (i := 38) rfl rfl) rfl (lv_at hl 1 rfl) ?_
          refine z_gr C0 hw 0 4 4 rfl fl_X12_32 (dk2 dF_180 DX12_feed (i := 39) rfl rfl rfl) ?_
          refine lv_aload_n hx hb (dkP dF_42 DX12_feed (i := 40) rfl rfl) rfl (lv_at hl 1 rfl) ?_
          refine z_gi C0 hw 0 5 rfl fl_X12_147 (dk2 dF_180 DX12_feed (i := 41) rfl rfl rfl) ?_
          refine z_top (y := (nI n1)) htp ?_
          refine lv_iload hx hb (dk1 dF_21 DX12_feed (i := 42) rfl rfl rfl) (lv_at hl 0 rfl) ?_
          refine lv_iadd hx hb (dkP dF_96 DX12_feed (i := 43) rfl rfl) ?_
          refine z_top (y := nI (n1 + q6_55)) (by simp only [fa_lit, nI_add, pk_mul]) ?_
          refine lv_aload_n hx hb (dkP dF_42 DX12_feed (i := 44) rfl rfl) rfl (lv_at hl 1 rfl) ?_
          refine z_gr C0 hw 0 6 5 rfl fl_X12_36 (dk2 dF_180 DX12_feed (i := 45) rfl rfl rfl) ?_
          refine lv_iload hx hb (dk1 dF_21 DX12_feed (i := 46) rfl rfl rfl) (lv_at hl 0 rfl) ?_
          refine lv_iconst (v := 4) hx hb (dkP dF_7 DX12_feed (i := 47) rfl rfl) (by decide) ?_
          refine lv_idiv hx hb (dkP dF_108 DX12_feed (i := 48) rfl rfl) (by decide) ?_
          refine z_top (y := nI (q6_55 / 4)) (nI_div4 (by omega)) ?_
          refine z_ialdN (n := 5) C0 hw 5 (q6_55 / 4) rfl (by omega) (by decide) (dkP dF_46 DX12_feed (i := 49) rfl rfl) ?_
          obtain ⟨v12, ev12⟩ : ∃ y : Int32, τ8.1 5 (q6_55 / 4) = y := ⟨_, rfl⟩
          refine z_top (y := v12) ev12 ?_
          refine lv_bipush (v := 24) hx hb (dks dF_16 DX12_feed (i := 50) rfl rfl rfl) (by decide) ?_
          refine lv_bipush (v := 8) hx hb (dks dF_16 DX12_feed (i := 51) rfl rfl rfl) (by decide) ?_
          refine lv_iload hx hb (dk1 dF_21 DX12_feed (i := 52) rfl rfl rfl) (lv_at hl 0 rfl) ?_
          refine lv_iconst (v := 4) hx hb (dkP dF_7 DX12_feed (i := 53) rfl rfl) (by decide) ?_
          refine lv_irem hx hb (dkP dF_112 DX12_feed (i := 54) rfl rfl) (by decide) ?_
          refine lv_imul hx hb (dkP dF_104 DX12_feed (i := 55) rfl rfl) ?_
          refine lv_isub hx hb (dkP dF_100 DX12_feed (i := 56) rfl rfl) ?_
          refine lv_ishr hx hb (dkP dF_122 DX12_feed (i := 57) rfl rfl) ?_
          refine lv_i2b hx hb (dkP dF_145 DX12_feed (i := 58) rfl rfl) rfl ?_
          refine z_bastN (n := 600) C0 hw 4 (n1 + q6_55) rfl (by omega) (by decide) (dkP dF_84 DX12_feed (i := 59) rfl rfl) (fun H locs hw => ?_)
          have hT13 : TM (sI τ8 4 (n1 + q6_55) (((v12 >>> (24 - (8 * ((nI q6_55) - (nI q6_55) / 4 * 4)) &&& 31)).toInt8.toInt32).toInt8.toInt32)) := TM.w hT_τ8 (show True from trivial)
          have hF13 : fr true [4, 5] [5] σ (sI τ8 4 (n1 + q6_55) (((v12 >>> (24 - (8 * ((nI q6_55) - (nI q6_55) / 4 * 4)) &&& 31)).toInt8.toInt32).toInt8.toInt32)) := fr.w hF_τ8 (Or.inl ⟨by decide, by decide⟩) (fun _ h => absurd h (by decide))
          refine lv_iinc (v := nI (q6_55 + 1)) (lv' := [(6, .int (nI (q6_55 + 1))), (0, .ref (ad 0)), (1, .int fa), (2, .int fb), (3, .int fd), (4, .int fe), (5, .int fg)]) hx hb (dkI DX12_feed (i := 60) rfl rfl rfl rfl) hl (k := 0) rfl (nI_1 _) (by decide) rfl (fun ls hl => ?_)
          refine lv_goto (tgt := 55) hx hb (dkS dF_167 DX12_feed (i := 61) rfl rfl rfl) (by decide) ?_
          exact ih9 (q6_55 + 1) (sI τ8 4 (n1 + q6_55) (((v12 >>> (24 - (8 * ((nI q6_55) - (nI q6_55) / 4 * 4)) &&& 31)).toInt8.toInt32).toInt8.toInt32)) _ _ _ (by omega) (by (try simp only [lg_cmp_lt, lg_cmp_le, lg_cmp_gt, lg_cmp_ge, lg_cmp_eq] at c2); (try simp (disch := omega) only [ta_lt, ta_le, ta_eq, tb_lt, tb_le, tb_eq, tw, tnI, tsub1, tsv, tn32 1 (by decide), tnj 1 (by decide), tl32 0 (by decide), tl64 0 (by decide), tl32 1 (by decide), tl64 1 (by decide), tl32 2 (by decide), tl64 2 (by decide), tl32 3 (by decide), tl64 3 (by decide), tl32 4 (by decide), tl64 4 (by decide), tl32 8 (by decide), tl64 8 (by decide), tl32 20 (by decide), tl64 20 (by decide), tl32 24 (by decide), tl64 24 (by decide), tl32 600 (by decide), tl64 600 (by decide)] at c2); (try simp only [lg_cmp_lt, lg_cmp_le, lg_cmp_gt, lg_cmp_ge, lg_cmp_eq] at c10); (try simp (disch := omega) only [ta_lt, ta_le, ta_eq, tb_lt, tb_le, tb_eq, tw, tnI, tsub1, tsv, tn32 1 (by decide), tnj 1 (by decide), tl32 0 (by decide), tl64 0 (by decide), tl32 1 (by decide), tl64 1 (by decide), tl32 2 (by decide), tl64 2 (by decide), tl32 3 (by decide), tl64 3 (by decide), tl32 4 (by decide), tl64 4 (by decide), tl32 8 (by decide), tl64 8 (by decide), tl32 20 (by decide), tl64 20 (by decide), tl32 24 (by decide), tl64 24 (by decide), tl32 600 (by decide), tl64 600 (by decide)] at c10); (try simp (disch := omega) only [ta_lt, ta_le, ta_eq, tb_lt, tb_le, tb_eq, tw, tnI, tsub1, tsv, tn32 1 (by decide), tnj 1 (by decide), tl32 0 (by decide), tl64 0 (by decide), tl32 1 (by decide), tl64 1 (by decide), tl32 2 (by decide), tl64 2 (by decide), tl32 3 (by decide), tl64 3 (by decide), tl32 4 (by decide), tl64 4 (by decide), tl32 8 (by decide), tl64 8 (by decide), tl32 20 (by decide), tl64 20 (by decide), tl32 24 (by decide), tl64 24 (by decide), tl32 600 (by decide), tl64 600 (by decide)]); omega) ((rd_n (by omega)).trans htp) hT13 hF13 hw (lv_sub hl [0, 1, 2, 3, 4, 5, 6] rfl)
    exact lp9 _ 0 (sI (sI (sI (sI (sI σ 5 0 fa) 5 1 fb) 5 2 fd) 5 3 fe) 5 4 fg) _ _ _ (Nat.lt_succ_self _) (by (try simp only [lg_cmp_lt, lg_cmp_le, lg_cmp_gt, lg_cmp_ge, lg_cmp_eq] at c2); (try simp (disch := omega) only [ta_lt, ta_le, ta_eq, tb_lt, tb_le, tb_eq, tw, tnI, tsub1, tsv, tn32 1 (by decide), tnj 1 (by decide), tl32 0 (by decide), tl64 0 (by decide), tl32 1 (by decide), tl64 1 (by decide), tl32 2 (by decide), tl64 2 (by decide), tl32 3 (by decide), tl64 3 (by decide), tl32 4 (by decide), tl64 4 (by decide), tl32 8 (by decide), tl64 8 (by decide), tl32 20 (by decide), tl64 20 (by decide), tl32 24 (by decide), tl64 24 (by decide), tl32 600 (by decide), tl64 600 (by decide)] at c2); (try simp (disch := omega) only [ta_lt, ta_le, ta_eq, tb_lt, tb_le, tb_eq, tw, tnI, tsub1, tsv, tn32 1 (by decide), tnj 1 (by decide), tl32 0 (by decide), tl64 0 (by decide), tl32 1 (by decide), tl64 1 (by decide), tl32 2 (by decide), tl64 2 (by decide), tl32 3 (by decide), tl64 3 (by decide), tl32 4 (by decide), tl64 4 (by decide), tl32 8 (by decide), tl64 8 (by decide), tl32 20 (by decide), tl64 20 (by decide), tl32 24 (by decide), tl64 24 (by decide), tl32 600 (by decide), tl64 600 (by decide)]); omega) ((rd_n (by omega)).trans ((rd_n (by omega)).trans ((rd_n (by omega)).trans ((rd_n (by omega)).trans ((rd_n (by omega)).trans en1))))) hT7 hF7 hw (lv_sub hl [0, 1, 2, 3, 4, 5, 6] rfl)
  · simp (disch := omega) only [ta_lt, ta_le, ta_eq, tnI, tl32 600 (by decide)] at c2
    refine lv_iconst (v := (-1)) hx hb (dkP dF_2 DX12_feed (i := 6) rfl rfl) (by decide) ?_
    exact z_iret C0 hr hlk hw (⟨hT, fr.refl⟩) (dkP dF_172 DX12_feed (i := 7) rfl rfl)
