theorem wtN2 : ∀ d, d ∈ wtL → 228 ≤ d ∧ d ≤ 239 := by decide +kernel
theorem soN2 : ∀ d, d ∈ soL → d + 2 ≤ 210 ∨ 257 ≤ d := by decide +kernel
theorem snN2 : ∀ d, d ∈ snL → d + 2 ≤ 210 ∨ 257 ≤ d := by decide +kernel
set_option maxRecDepth 100000 in
set_option maxHeartbeats 8000000 in
theorem c_X8_valueByLetters (l : Launch) (G : va_G) (kc : KC) (ad : Nat → Nat) (σ : Sg) (su : Nat) (ap : Nat) (wt : Nat) {j : Nat} (hsu : su ∈ soL) (hwt : wt ∈ wtL) (hj : σ.1 (su + 1) ap &&& 15 = nI j) (hab : ap + 2 + j ≤ 192) (hT : TC σ) : MV l G kc yX8_valueByLetters cX8_valueByLetters 9 1 23 [.ref (ad su), .int (nI ap), .ref (ad (wt + 9)), .ref (ad (wt + 10))] shC ad σ (fun σ1 => TC σ1 ∧ frC (fun x y => (x = wt + 10)) σ σ1) := by
  intro sz
  refine z_body (y := yX8_valueByLetters) (n := 9) (av := [.ref (ad su), .int (nI ap), .ref (ad (wt + 9)), .ref (ad (wt + 10))]) (Qc := fun A => va_Qv (fun σ1 => TC σ1 ∧ frC (fun x y => (x = wt + 10)) σ σ1) (PoC G kc shC ad A) A) (plainFor_of_name (by decide)) (Nat.le_of_ble_eq_true rfl) (fun pr e s m below meth c A C0 hr hlk hnm hw hRo ls hl => ?_) sz
  have hx := C0.1
  have hb := C0.2.1
  have hown := C0.2.2.2.1
  have hts := C0.2.2.2.2.1
  have hl : lv_has ls 9 [(0, .ref (ad su)), (1, .int (nI ap)), (2, .ref (ad (wt + 9))), (3, .ref (ad (wt + 10)))] := hl
  have hsun := soN2 su hsu
  have hwtn := wtN2 wt hwt
  refine lv_aload_n hx hb (dkP dF_42 DX8_valueByLetters (i := 0) rfl rfl) rfl (lv_at hl 0 rfl) ?_
  refine z_gr C0 hw su 0 (su + 1) (fk_of (shl_so_0 su hsu) rfl) fl_X8_9 (dk2 dF_180 DX8_valueByLetters (i := 1) rfl rfl rfl) ?_
  refine lv_iload_n hx hb (dkP dF_27 DX8_valueByLetters (i := 2) rfl rfl) rfl (lv_at hl 1 rfl) ?_
  refine z_ialdN (n := 192) C0 hw (su + 1) ap (ak_of (shl_so_1 su hsu)) (by omega) (by decide) (dkP dF_46 DX8_valueByLetters (i := 3) rfl rfl) ?_
  obtain ⟨v1, ev1⟩ : ∃ y : Int32, σ.1 (su + 1) ap = y := ⟨_, rfl⟩
  refine z_top (y := v1) ev1 ?_
  refine lv_bipush (v := 15) hx hb (dks dF_16 DX8_valueByLetters (i := 4) rfl rfl rfl) (by decide) ?_
  refine lv_iand hx hb (dkP dF_126 DX8_valueByLetters (i := 5) rfl rfl) ?_
  refine z_top (y := nI j) (by rw [← ev1]; exact hj) ?_
  refine lv_istore (lv' := [(4, .int (nI j)), (0, .ref (ad su)), (1, .int (nI ap)), (2, .ref (ad (wt + 9))), (3, .ref (ad (wt + 10)))]) hx hb (dk1 dF_54 DX8_valueByLetters (i := 6) rfl rfl rfl) hl (by decide) rfl (fun ls hl => ?_)
  refine lv_aload_n hx hb (dkP dF_42 DX8_valueByLetters (i := 7) rfl rfl) rfl (lv_at hl 1 rfl) ?_
  refine z_gr C0 hw su 0 (su + 1) (fk_of (shl_so_0 su hsu) rfl) fl_X8_9 (dk2 dF_180 DX8_valueByLetters (i := 8) rfl rfl rfl) ?_
  refine lv_iload_n hx hb (dkP dF_27 DX8_valueByLetters (i := 9) rfl rfl) rfl (lv_at hl 2 rfl) ?_
  refine z_ialdN (n := 192) C0 hw (su + 1) ap (ak_of (shl_so_1 su hsu)) (by omega) (by decide) (dkP dF_46 DX8_valueByLetters (i := 10) rfl rfl) ?_
  refine z_top (y := v1) ev1 ?_
  refine lv_iconst (v := 4) hx hb (dkP dF_7 DX8_valueByLetters (i := 11) rfl rfl) (by decide) ?_
  refine lv_ishr hx hb (dkP dF_122 DX8_valueByLetters (i := 12) rfl rfl) ?_
  refine lv_topi (fun v2 ev2 => ?_)
  refine lv_istore (lv' := [(5, .int v2), (4, .int (nI j)), (0, .ref (ad su)), (1, .int (nI ap)), (2, .ref (ad (wt + 9))), (3, .ref (ad (wt + 10)))]) hx hb (dk1 dF_54 DX8_valueByLetters (i := 13) rfl rfl rfl) hl (by decide) rfl (fun ls hl => ?_)
  refine lv_aload_n hx hb (dkP dF_45 DX8_valueByLetters (i := 14) rfl rfl) rfl (lv_at hl 5 rfl) ?_
  refine lv_iconst (v := 0) hx hb (dkP dF_3 DX8_valueByLetters (i := 15) rfl rfl) (by decide) ?_
  refine zk_V hw (zr_S (As := [.ref (ad (wt + 10)), .int 0]) (rest := []) C0 (c_J7_fill_53178_v l G kc ad σ wt 0 hwt hT _) cs_J7_fill_53178 lk_X8_35 (zp_S C0 hRo hw) rfl hl.1 rfl ⟨by decide, by decide⟩ (Nat.le_of_ble_eq_true rfl) (dk2 dF_184 DX8_valueByLetters (i := 16) rfl rfl rfl) ⟨Nat.le_refl _, Nat.le_refl _⟩) (fun s3 H locs hp hw => ?_)
  obtain ⟨f3_0, hT3, hG3⟩ := hp
  have hF3 : frC (fun x y => (x = wt + 10)) σ s3 := frC.t frC.refl hG3 (fun x y h => by have h : (x = wt + 10) := h; show (x = wt + 10); exact h)
  refine lv_aload_n hx hb (dkP dF_45 DX8_valueByLetters (i := 17) rfl rfl) rfl (lv_at hl 5 rfl) ?_
  refine lv_iconst (v := 3) hx hb (dkP dF_6 DX8_valueByLetters (i := 18) rfl rfl) (by decide) ?_
  refine lv_aload_n hx hb (dkP dF_42 DX8_valueByLetters (i := 19) rfl rfl) rfl (lv_at hl 2 rfl) ?_
  refine z_gr C0 hw su 0 (su + 1) (fk_of (shl_so_0 su hsu) rfl) fl_X8_9 (dk2 dF_180 DX8_valueByLetters (i := 20) rfl rfl rfl) ?_
  refine lv_iload_n hx hb (dkP dF_27 DX8_valueByLetters (i := 21) rfl rfl) rfl (lv_at hl 3 rfl) ?_
  refine lv_iconst (v := 1) hx hb (dkP dF_4 DX8_valueByLetters (i := 22) rfl rfl) (by decide) ?_
  refine lv_iadd hx hb (dkP dF_96 DX8_valueByLetters (i := 23) rfl rfl) ?_
  refine z_top (y := nI (ap + 1)) (by simp only [fa_lit, nI_add, pk_mul]) ?_
  refine z_ialdN (n := 192) C0 hw (su + 1) (ap + 1) (ak_of (shl_so_1 su hsu)) (by omega) (by decide) (dkP dF_46 DX8_valueByLetters (i := 24) rfl rfl) ?_
  obtain ⟨v4, ev4⟩ : ∃ y : Int32, s3.1 (su + 1) (ap + 1) = y := ⟨_, rfl⟩
  refine z_top (y := v4) ev4 ?_
  refine z_iastN (n := 4) C0 hw (wt + 10) 3 (ak_of (shl_wt_10 wt hwt)) (by omega) (by decide) (dkP dF_79 DX8_valueByLetters (i := 25) rfl rfl) (fun H locs hw => ?_)
  have hT5 : TC (sI s3 (wt + 10) 3 v4) := TC.w hT3 (tc0 (tck_wt_10 wt hwt))
  have hF5 : frC (fun x y => (x = wt + 10)) σ (sI s3 (wt + 10) 3 v4) := frC.w hF3 (by show ((wt + 10) = wt + 10); exact rfl)
  refine lv_iconst (v := 0) hx hb (dkP dF_3 DX8_valueByLetters (i := 26) rfl rfl) (by decide) ?_
  refine lv_istore (lv' := [(6, .int 0), (5, .int v2), (4, .int (nI j)), (0, .ref (ad su)), (1, .int (nI ap)), (2, .ref (ad (wt + 9))), (3, .ref (ad (wt + 10)))]) hx hb (dk1 dF_54 DX8_valueByLetters (i := 27) rfl rfl rfl) hl (by decide) rfl (fun ls hl => ?_)
  have lp7 : ∀ (nq : Nat) (q6_40 : Nat) (q5_40 : Int32) (τ6 : Sg) (H : Heap) (locs : List Loc) (ls : Array Slot), j - q6_40 < nq → (q6_40 ≤ j) → (TC τ6) → (frC (fun x y => (x = wt + 10)) σ τ6) → St G kc A s.heap shC ad τ6 H locs → lv_has ls 9 [(6, .int (nI q6_40)), (5, .int q5_40), (4, .int (nI j)), (0, .ref (ad su)), (1, .int (nI ap)), (2, .ref (ad (wt + 9))), (3, .ref (ad (wt + 10)))] → W pr l e { frames := 1, cells := 0, slots := 0, locals := 23 } s m ([.ref (ad su), .int (nI ap), .ref (ad (wt + 9)), .ref (ad (wt + 10))] : List Value).toArray below meth c H locs 0 0 (MQ below (va_Qv (fun σ1 => TC σ1 ∧ frC (fun x y => (x = wt + 10)) σ σ1) (PoC G kc shC ad A) A) ([.ref (ad su), .int (nI ap), .ref (ad (wt + 9)), .ref (ad (wt + 10))] : List Value).toArray s 0 0 A) (F0 m 40 ls []) := by
    intro nq
    induction nq with
    | zero => intro q6_40 q5_40 τ6 H locs ls hmu; exact absurd hmu (Nat.not_lt_zero _)
    | succ nq ih7 =>
      intro q6_40 q5_40 τ6 H locs ls hmu hq6_40 hT_τ6 hF_τ6 hw hl
      refine lv_iload hx hb (dk1 dF_21 DX8_valueByLetters (i := 28) rfl rfl rfl) (lv_at hl 0 rfl) ?_
      refine lv_iload hx hb (dk1 dF_21 DX8_valueByLetters (i := 29) rfl rfl rfl) (lv_at hl 2 rfl) ?_
      refine lv_icmp_ge (tgt := 109) hx hb (dkS dF_162 DX8_valueByLetters (i := 30) rfl rfl rfl) (by decide) (fun c8 => ?_) (fun c8 => ?_)
      · simp (disch := omega) only [ta_lt, ta_le, ta_eq, tnI] at c8
        exact z_vret C0 hr hlk hw (⟨hT_τ6, hF_τ6⟩) (dkP dF_177 DX8_valueByLetters (i := 70) rfl rfl)
      · simp (disch := omega) only [ta_lt, ta_le, ta_eq, tnI] at c8
        refine lv_iload hx hb (dk1 dF_21 DX8_valueByLetters (i := 31) rfl rfl rfl) (lv_at hl 1 rfl) ?_
        refine lv_bipush (v := 7) hx hb (dks dF_16 DX8_valueByLetters (i := 32) rfl rfl rfl) (by decide) ?_
        refine lv_iand hx hb (dkP dF_126 DX8_valueByLetters (i := 33) rfl rfl) ?_
        obtain ⟨kl, hkl, ekl⟩ := pk_andE q5_40 (m := 7) 3 (by decide)
        refine z_top (y := nI kl) ekl ?_
        refine lv_iconst (v := 4) hx hb (dkP dF_7 DX8_valueByLetters (i := 34) rfl rfl) (by decide) ?_
        refine lv_imul hx hb (dkP dF_104 DX8_valueByLetters (i := 35) rfl rfl) ?_
        refine z_top (y := nI (kl * 4)) (by simp only [fa_lit, nI_add, pk_mul]) ?_
        refine lv_istore (lv' := [(7, .int (nI (kl * 4))), (6, .int (nI q6_40)), (5, .int q5_40), (4, .int (nI j)), (0, .ref (ad su)), (1, .int (nI ap)), (2, .ref (ad (wt + 9))), (3, .ref (ad (wt + 10)))]) hx hb (dk1 dF_54 DX8_valueByLetters (i := 36) rfl rfl rfl) hl (by decide) rfl (fun ls hl => ?_)
        refine lv_iconst (v := 0) hx hb (dkP dF_3 DX8_valueByLetters (i := 37) rfl rfl) (by decide) ?_
        refine lv_istore (lv' := [(8, .int 0), (7, .int (nI (kl * 4))), (6, .int (nI q6_40)), (5, .int q5_40), (4, .int (nI j)), (0, .ref (ad su)), (1, .int (nI ap)), (2, .ref (ad (wt + 9))), (3, .ref (ad (wt + 10)))]) hx hb (dk1 dF_54 DX8_valueByLetters (i := 38) rfl rfl rfl) hl (by decide) rfl (fun ls hl => ?_)
        have lp10 : ∀ (nq : Nat) (q8_59 : Nat) (τ9 : Sg) (H : Heap) (locs : List Loc) (ls : Array Slot), 4 - q8_59 < nq → (q8_59 ≤ 4) → (TC τ9) → (frC (fun x y => (x = wt + 10)) σ τ9) → St G kc A s.heap shC ad τ9 H locs → lv_has ls 9 [(8, .int (nI q8_59)), (7, .int (nI (kl * 4))), (6, .int (nI q6_40)), (5, .int q5_40), (4, .int (nI j)), (0, .ref (ad su)), (1, .int (nI ap)), (2, .ref (ad (wt + 9))), (3, .ref (ad (wt + 10)))] → W pr l e { frames := 1, cells := 0, slots := 0, locals := 23 } s m ([.ref (ad su), .int (nI ap), .ref (ad (wt + 9)), .ref (ad (wt + 10))] : List Value).toArray below meth c H locs 0 0 (MQ below (va_Qv (fun σ1 => TC σ1 ∧ frC (fun x y => (x = wt + 10)) σ σ1) (PoC G kc shC ad A) A) ([.ref (ad su), .int (nI ap), .ref (ad (wt + 9)), .ref (ad (wt + 10))] : List Value).toArray s 0 0 A) (F0 m 59 ls []) := by
          intro nq
          induction nq with
          | zero => intro q8_59 τ9 H locs ls hmu; exact absurd hmu (Nat.not_lt_zero _)
          | succ nq ih10 =>
            intro q8_59 τ9 H locs ls hmu hq8_59 hT_τ9 hF_τ9 hw hl
            refine lv_iload hx hb (dk1 dF_21 DX8_valueByLetters (i := 39) rfl rfl rfl) (lv_at hl 0 rfl) ?_
            refine lv_iconst (v := 4) hx hb (dkP dF_7 DX8_valueByLetters (i := 40) rfl rfl) (by decide) ?_
            refine lv_icmp_ge (tgt := 97) hx hb (dkS dF_162 DX8_valueByLetters (i := 41) rfl rfl rfl) (by decide) (fun c11 => ?_) (fun c11 => ?_)
            · simp (disch := omega) only [ta_lt, ta_le, ta_eq, tnI, tl32 4 (by decide)] at c11
              refine lv_iload hx hb (dk1 dF_21 DX8_valueByLetters (i := 64) rfl rfl rfl) (lv_at hl 3 rfl) ?_
              refine lv_iconst (v := 3) hx hb (dkP dF_6 DX8_valueByLetters (i := 65) rfl rfl) (by decide) ?_
              refine lv_ishr hx hb (dkP dF_122 DX8_valueByLetters (i := 66) rfl rfl) ?_
              refine lv_topi (fun v12 ev12 => ?_)
              refine lv_istore (lv' := [(5, .int v12), (8, .int (nI q8_59)), (7, .int (nI (kl * 4))), (6, .int (nI q6_40)), (4, .int (nI j)), (0, .ref (ad su)), (1, .int (nI ap)), (2, .ref (ad (wt + 9))), (3, .ref (ad (wt + 10)))]) hx hb (dk1 dF_54 DX8_valueByLetters (i := 67) rfl rfl rfl) hl (by decide) rfl (fun ls hl => ?_)
              refine lv_iinc (v := nI (q6_40 + 1)) (lv' := [(6, .int (nI (q6_40 + 1))), (5, .int v12), (8, .int (nI q8_59)), (7, .int (nI (kl * 4))), (4, .int (nI j)), (0, .ref (ad su)), (1, .int (nI ap)), (2, .ref (ad (wt + 9))), (3, .ref (ad (wt + 10)))]) hx hb (dkI DX8_valueByLetters (i := 68) rfl rfl rfl rfl) hl (k := 3) rfl (nI_1 _) (by decide) rfl (fun ls hl => ?_)
              refine lv_goto (tgt := 40) hx hb (dkS dF_167 DX8_valueByLetters (i := 69) rfl rfl rfl) (by decide) ?_
              exact ih7 (q6_40 + 1) v12 τ9 _ _ _ (by omega) (by (try simp only [lg_cmp_lt, lg_cmp_le, lg_cmp_gt, lg_cmp_ge, lg_cmp_eq] at f3_0); (try simp (disch := omega) only [ta_lt, ta_le, ta_eq, tb_lt, tb_le, tb_eq, tw, tnI, tsub1, tsv, tsb32, tn32 1 (by decide), tnj 1 (by decide), tl32 0 (by decide), tl64 0 (by decide), tl32 1 (by decide), tl64 1 (by decide), tl32 3 (by decide), tl64 3 (by decide), tl32 4 (by decide), tl64 4 (by decide), tl32 7 (by decide), tl64 7 (by decide), tl32 15 (by decide), tl64 15 (by decide)] at f3_0); (try simp only [lg_cmp_lt, lg_cmp_le, lg_cmp_gt, lg_cmp_ge, lg_cmp_eq] at c8); (try simp (disch := omega) only [ta_lt, ta_le, ta_eq, tb_lt, tb_le, tb_eq, tw, tnI, tsub1, tsv, tsb32, tn32 1 (by decide), tnj 1 (by decide), tl32 0 (by decide), tl64 0 (by decide), tl32 1 (by decide), tl64 1 (by decide), tl32 3 (by decide), tl64 3 (by decide), tl32 4 (by decide), tl64 4 (by decide), tl32 7 (by decide), tl64 7 (by decide), tl32 15 (by decide), tl64 15 (by decide)] at c8); (try simp only [lg_cmp_lt, lg_cmp_le, lg_cmp_gt, lg_cmp_ge, lg_cmp_eq] at c11); (try simp (disch := omega) only [ta_lt, ta_le, ta_eq, tb_lt, tb_le, tb_eq, tw, tnI, tsub1, tsv, tsb32, tn32 1 (by decide), tnj 1 (by decide), tl32 0 (by decide), tl64 0 (by decide), tl32 1 (by decide), tl64 1 (by decide), tl32 3 (by decide), tl64 3 (by decide), tl32 4 (by decide), tl64 4 (by decide), tl32 7 (by decide), tl64 7 (by decide), tl32 15 (by decide), tl64 15 (by decide)] at c11); (try simp (disch := omega) only [ta_lt, ta_le, ta_eq, tb_lt, tb_le, tb_eq, tw, tnI, tsub1, tsv, tsb32, tn32 1 (by decide), tnj 1 (by decide), tl32 0 (by decide), tl64 0 (by decide), tl32 1 (by decide), tl64 1 (by decide), tl32 3 (by decide), tl64 3 (by decide), tl32 4 (by decide), tl64 4 (by decide), tl32 7 (by decide), tl64 7 (by decide), tl32 15 (by decide), tl64 15 (by decide)]); omega) hT_τ9 hF_τ9 hw (lv_sub hl [0, 1, 4, 5, 6, 7, 8] rfl)
            · simp (disch := omega) only [ta_lt, ta_le, ta_eq, tnI, tl32 4 (by decide)] at c11
              refine lv_aload_n hx hb (dkP dF_45 DX8_valueByLetters (i := 42) rfl rfl) rfl (lv_at hl 8 rfl) ?_
              refine lv_iload hx hb (dk1 dF_21 DX8_valueByLetters (i := 43) rfl rfl rfl) (lv_at hl 0 rfl) ?_
              refine lv_dup2_11 hx hb (dkP dF_92 DX8_valueByLetters (i := 44) rfl rfl) rfl rfl ?_
              refine z_ialdN (n := 4) C0 hw (wt + 10) q8_59 (ak_of (shl_wt_10 wt hwt)) (by omega) (by decide) (dkP dF_46 DX8_valueByLetters (i := 45) rfl rfl) ?_
              obtain ⟨v13, ev13⟩ : ∃ y : Int32, τ9.1 (wt + 10) q8_59 = y := ⟨_, rfl⟩
              refine z_top (y := v13) ev13 ?_
              refine lv_aload_n hx hb (dkP dF_42 DX8_valueByLetters (i := 46) rfl rfl) rfl (lv_at hl 5 rfl) ?_
              refine z_gr C0 hw su 0 (su + 1) (fk_of (shl_so_0 su hsu) rfl) fl_X8_9 (dk2 dF_180 DX8_valueByLetters (i := 47) rfl rfl rfl) ?_
              refine lv_iload_n hx hb (dkP dF_27 DX8_valueByLetters (i := 48) rfl rfl) rfl (lv_at hl 6 rfl) ?_
              refine lv_iconst (v := 2) hx hb (dkP dF_5 DX8_valueByLetters (i := 49) rfl rfl) (by decide) ?_
              refine lv_iadd hx hb (dkP dF_96 DX8_valueByLetters (i := 50) rfl rfl) ?_
              refine z_top (y := nI (ap + 2)) (by simp only [fa_lit, nI_add, pk_mul]) ?_
              refine lv_iload hx hb (dk1 dF_21 DX8_valueByLetters (i := 51) rfl rfl rfl) (lv_at hl 2 rfl) ?_
              refine lv_iadd hx hb (dkP dF_96 DX8_valueByLetters (i := 52) rfl rfl) ?_
              refine z_top (y := nI ((ap + 2) + q6_40)) (by simp only [fa_lit, nI_add, pk_mul]) ?_
              refine z_ialdN (n := 192) C0 hw (su + 1) ((ap + 2) + q6_40) (ak_of (shl_so_1 su hsu)) (by omega) (by decide) (dkP dF_46 DX8_valueByLetters (i := 53) rfl rfl) ?_
              obtain ⟨v14, ev14⟩ : ∃ y : Int32, τ9.1 (su + 1) ((ap + 2) + q6_40) = y := ⟨_, rfl⟩
              refine z_top (y := v14) ev14 ?_
              refine lv_aload_n hx hb (dkP dF_44 DX8_valueByLetters (i := 54) rfl rfl) rfl (lv_at hl 7 rfl) ?_
              refine lv_iload hx hb (dk1 dF_21 DX8_valueByLetters (i := 55) rfl rfl rfl) (lv_at hl 1 rfl) ?_
              refine lv_iload hx hb (dk1 dF_21 DX8_valueByLetters (i := 56) rfl rfl rfl) (lv_at hl 0 rfl) ?_
              refine lv_iadd hx hb (dkP dF_96 DX8_valueByLetters (i := 57) rfl rfl) ?_
              refine z_top (y := nI ((kl * 4) + q8_59)) (by simp only [fa_lit, nI_add, pk_mul]) ?_
              refine z_ialdN (n := 32) C0 hw (wt + 9) ((kl * 4) + q8_59) (ak_of (shl_wt_9 wt hwt)) (by omega) (by decide) (dkP dF_46 DX8_valueByLetters (i := 58) rfl rfl) ?_
              obtain ⟨v15, ev15⟩ : ∃ y : Int32, τ9.1 (wt + 9) ((kl * 4) + q8_59) = y := ⟨_, rfl⟩
              refine z_top (y := v15) ev15 ?_
              refine lv_imul hx hb (dkP dF_104 DX8_valueByLetters (i := 59) rfl rfl) ?_
              refine lv_iadd hx hb (dkP dF_96 DX8_valueByLetters (i := 60) rfl rfl) ?_
              refine z_iastN (n := 4) C0 hw (wt + 10) q8_59 (ak_of (shl_wt_10 wt hwt)) (by omega) (by decide) (dkP dF_79 DX8_valueByLetters (i := 61) rfl rfl) (fun H locs hw => ?_)
              have hT16 : TC (sI τ9 (wt + 10) q8_59 (v13 + (v14 * v15))) := TC.w hT_τ9 (tc0 (tck_wt_10 wt hwt))
              have hF16 : frC (fun x y => (x = wt + 10)) σ (sI τ9 (wt + 10) q8_59 (v13 + (v14 * v15))) := frC.w hF_τ9 (by show ((wt + 10) = wt + 10); exact rfl)
              refine lv_iinc (v := nI (q8_59 + 1)) (lv' := [(8, .int (nI (q8_59 + 1))), (7, .int (nI (kl * 4))), (6, .int (nI q6_40)), (5, .int q5_40), (4, .int (nI j)), (0, .ref (ad su)), (1, .int (nI ap)), (2, .ref (ad (wt + 9))), (3, .ref (ad (wt + 10)))]) hx hb (dkI DX8_valueByLetters (i := 62) rfl rfl rfl rfl) hl (k := 0) rfl (nI_1 _) (by decide) rfl (fun ls hl => ?_)
              refine lv_goto (tgt := 59) hx hb (dkS dF_167 DX8_valueByLetters (i := 63) rfl rfl rfl) (by decide) ?_
              exact ih10 (q8_59 + 1) (sI τ9 (wt + 10) q8_59 (v13 + (v14 * v15))) _ _ _ (by omega) (by (try simp only [lg_cmp_lt, lg_cmp_le, lg_cmp_gt, lg_cmp_ge, lg_cmp_eq] at f3_0); (try simp (disch := omega) only [ta_lt, ta_le, ta_eq, tb_lt, tb_le, tb_eq, tw, tnI, tsub1, tsv, tsb32, tn32 1 (by decide), tnj 1 (by decide), tl32 0 (by decide), tl64 0 (by decide), tl32 1 (by decide), tl64 1 (by decide), tl32 2 (by decide), tl64 2 (by decide), tl32 3 (by decide), tl64 3 (by decide), tl32 4 (by decide), tl64 4 (by decide), tl32 7 (by decide), tl64 7 (by decide), tl32 15 (by decide), tl64 15 (by decide)] at f3_0); (try simp only [lg_cmp_lt, lg_cmp_le, lg_cmp_gt, lg_cmp_ge, lg_cmp_eq] at c8); (try simp (disch := omega) only [ta_lt, ta_le, ta_eq, tb_lt, tb_le, tb_eq, tw, tnI, tsub1, tsv, tsb32, tn32 1 (by decide), tnj 1 (by decide), tl32 0 (by decide), tl64 0 (by decide), tl32 1 (by decide), tl64 1 (by decide), tl32 2 (by decide), tl64 2 (by decide), tl32 3 (by decide), tl64 3 (by decide), tl32 4 (by decide), tl64 4 (by decide), tl32 7 (by decide), tl64 7 (by decide), tl32 15 (by decide), tl64 15 (by decide)] at c8); (try simp only [lg_cmp_lt, lg_cmp_le, lg_cmp_gt, lg_cmp_ge, lg_cmp_eq] at c11); (try simp (disch := omega) only [ta_lt, ta_le, ta_eq, tb_lt, tb_le, tb_eq, tw, tnI, tsub1, tsv, tsb32, tn32 1 (by decide), tnj 1 (by decide), tl32 0 (by decide), tl64 0 (by decide), tl32 1 (by decide), tl64 1 (by decide), tl32 2 (by decide), tl64 2 (by decide), tl32 3 (by decide), tl64 3 (by decide), tl32 4 (by decide), tl64 4 (by decide), tl32 7 (by decide), tl64 7 (by decide), tl32 15 (by decide), tl64 15 (by decide)] at c11); (try simp (disch := omega) only [ta_lt, ta_le, ta_eq, tb_lt, tb_le, tb_eq, tw, tnI, tsub1, tsv, tsb32, tn32 1 (by decide), tnj 1 (by decide), tl32 0 (by decide), tl64 0 (by decide), tl32 1 (by decide), tl64 1 (by decide), tl32 2 (by decide), tl64 2 (by decide), tl32 3 (by decide), tl64 3 (by decide), tl32 4 (by decide), tl64 4 (by decide), tl32 7 (by decide), tl64 7 (by decide), tl32 15 (by decide), tl64 15 (by decide)]); omega) hT16 hF16 hw (lv_sub hl [0, 1, 2, 3, 4, 5, 6, 7, 8] rfl)
        exact lp10 _ 0 τ6 _ _ _ (Nat.lt_succ_self _) (by (try simp only [lg_cmp_lt, lg_cmp_le, lg_cmp_gt, lg_cmp_ge, lg_cmp_eq] at f3_0); (try simp (disch := omega) only [ta_lt, ta_le, ta_eq, tb_lt, tb_le, tb_eq, tw, tnI, tsub1, tsv, tsb32, tn32 1 (by decide), tnj 1 (by decide), tl32 0 (by decide), tl64 0 (by decide), tl32 1 (by decide), tl64 1 (by decide), tl32 2 (by decide), tl64 2 (by decide), tl32 3 (by decide), tl64 3 (by decide), tl32 4 (by decide), tl64 4 (by decide), tl32 7 (by decide), tl64 7 (by decide), tl32 15 (by decide), tl64 15 (by decide)] at f3_0); (try simp only [lg_cmp_lt, lg_cmp_le, lg_cmp_gt, lg_cmp_ge, lg_cmp_eq] at c8); (try simp (disch := omega) only [ta_lt, ta_le, ta_eq, tb_lt, tb_le, tb_eq, tw, tnI, tsub1, tsv, tsb32, tn32 1 (by decide), tnj 1 (by decide), tl32 0 (by decide), tl64 0 (by decide), tl32 1 (by decide), tl64 1 (by decide), tl32 2 (by decide), tl64 2 (by decide), tl32 3 (by decide), tl64 3 (by decide), tl32 4 (by decide), tl64 4 (by decide), tl32 7 (by decide), tl64 7 (by decide), tl32 15 (by decide), tl64 15 (by decide)] at c8); (try simp (disch := omega) only [ta_lt, ta_le, ta_eq, tb_lt, tb_le, tb_eq, tw, tnI, tsub1, tsv, tsb32, tn32 1 (by decide), tnj 1 (by decide), tl32 0 (by decide), tl64 0 (by decide), tl32 1 (by decide), tl64 1 (by decide), tl32 2 (by decide), tl64 2 (by decide), tl32 3 (by decide), tl64 3 (by decide), tl32 4 (by decide), tl64 4 (by decide), tl32 7 (by decide), tl64 7 (by decide), tl32 15 (by decide), tl64 15 (by decide)]); omega) hT_τ6 hF_τ6 hw (lv_sub hl [0, 1, 2, 3, 4, 5, 6, 7, 8] rfl)
  exact lp7 _ 0 v2 (sI s3 (wt + 10) 3 v4) _ _ _ (Nat.lt_succ_self _) (by (try simp only [lg_cmp_lt, lg_cmp_le, lg_cmp_gt, lg_cmp_ge, lg_cmp_eq] at f3_0); (try simp (disch := omega) only [ta_lt, ta_le, ta_eq, tb_lt, tb_le, tb_eq, tw, tnI, tsub1, tsv, tsb32, tn32 1 (by decide), tnj 1 (by decide), tl32 0 (by decide), tl64 0 (by decide), tl32 1 (by decide), tl64 1 (by decide), tl32 2 (by decide), tl64 2 (by decide), tl32 3 (by decide), tl64 3 (by decide), tl32 4 (by decide), tl64 4 (by decide), tl32 7 (by decide), tl64 7 (by decide), tl32 15 (by decide), tl64 15 (by decide)] at f3_0); (try simp (disch := omega) only [ta_lt, ta_le, ta_eq, tb_lt, tb_le, tb_eq, tw, tnI, tsub1, tsv, tsb32, tn32 1 (by decide), tnj 1 (by decide), tl32 0 (by decide), tl64 0 (by decide), tl32 1 (by decide), tl64 1 (by decide), tl32 2 (by decide), tl64 2 (by decide), tl32 3 (by decide), tl64 3 (by decide), tl32 4 (by decide), tl64 4 (by decide), tl32 7 (by decide), tl64 7 (by decide), tl32 15 (by decide), tl64 15 (by decide)]); omega) hT5 hF5 hw (lv_sub hl [0, 1, 2, 3, 4, 5, 6] rfl)
