set_option maxRecDepth 100000 in
set_option maxHeartbeats 8000000 in
theorem c_X5_split (l : Launch) (G : va_G) (kc : KC) (ad : Nat → Nat) (σ : Sg)  (hT : TC σ) : MV l G kc yX5_split cX5_split 3 3 68 [.ref (ad 186)] shC ad σ (fun σ1 => (∃ tk, TK σ1 tk) ∧ TC σ1 ∧ frC (fun x y => (x = 186 ∧ y = 5) ∨ (x = 188) ∨ (x = 189) ∨ (x = 190)) σ σ1) := by
  intro sz
  refine z_body (y := yX5_split) (n := 3) (av := [.ref (ad 186)]) (Qc := fun A => va_Qv (fun σ1 => (∃ tk, TK σ1 tk) ∧ TC σ1 ∧ frC (fun x y => (x = 186 ∧ y = 5) ∨ (x = 188) ∨ (x = 189) ∨ (x = 190)) σ σ1) (PoC G kc shC ad A) A) (plainFor_of_name (by decide)) (Nat.le_of_ble_eq_true rfl) (fun pr e s m below meth c A C0 hr hlk hnm hw hRo ls hl => ?_) sz
  have hx := C0.1
  have hb := C0.2.1
  have hown := C0.2.2.2.1
  have hts := C0.2.2.2.2.1
  have hl : lv_has ls 3 [(0, .ref (ad 186))] := hl
  obtain ⟨n1, hn1, en1⟩ := rngN (x := σ.1 186 1) (h := 600) (tcr_10_1 hT tcl_186)
  refine lv_aload_n hx hb (dkP dF_42 DX5_split (i := 0) rfl rfl) rfl (lv_at hl 0 rfl) ?_
  refine lv_iconst (v := 0) hx hb (dkP dF_3 DX5_split (i := 1) rfl rfl) (by decide) ?_
  refine z_pi C0 hw 186 5 (fk_of shc_186 rfl) fp_X5_82 (dk2 dF_181 DX5_split (i := 2) rfl rfl rfl) (fun H locs hw => ?_)
  have hT2 : TC (sI σ 186 5 0) := TC.w hT (tcw_10_5 tcl_186 (by (try simp (disch := omega) only [ta_lt, ta_le, ta_eq, tb_lt, tb_le, tb_eq, tw, tnI, tsub1, tsv, tsb32, tn32 1 (by decide), tnj 1 (by decide), tl32 0 (by decide), tl64 0 (by decide)]); omega))
  have hF2 : frC (fun x y => (x = 186 ∧ y = 5) ∨ (x = 188) ∨ (x = 189) ∨ (x = 190)) σ (sI σ 186 5 0) := frC.w frC.refl (by show (186 = 186 ∧ 5 = 5) ∨ (186 = 188) ∨ (186 = 189) ∨ (186 = 190); exact Or.inl (⟨rfl, rfl⟩))
  refine lv_iconst (v := 0) hx hb (dkP dF_3 DX5_split (i := 3) rfl rfl) (by decide) ?_
  refine lv_istore_n (lv' := [(1, .int 0), (0, .ref (ad 186))]) hx hb (dkP dF_60 DX5_split (i := 4) rfl rfl) rfl hl (by decide) rfl (fun ls hl => ?_)
  have lp4 : ∀ (nq : Nat) (q1_7 : Nat) (tn : Nat) (τ3 : Sg) (H : Heap) (locs : List Loc) (ls : Array Slot), 600 - q1_7 < nq → (q1_7 ≤ 600) → (τ3.1 186 5 = nI tn) → (tn ≤ q1_7) → (∀ i, i < tn → τ3.1 188 i = 3 → fok (τ3.1 189 i)) → (TC τ3) → (frC (fun x y => (x = 186 ∧ y = 5) ∨ (x = 188) ∨ (x = 189) ∨ (x = 190)) σ τ3) → St G kc A s.heap shC ad τ3 H locs → lv_has ls 3 [(1, .int (nI q1_7)), (0, .ref (ad 186))] → W pr l e { frames := 3, cells := 0, slots := 0, locals := 68 } s m ([.ref (ad 186)] : List Value).toArray below meth c H locs 0 0 (MQ below (va_Qv (fun σ1 => (∃ tk, TK σ1 tk) ∧ TC σ1 ∧ frC (fun x y => (x = 186 ∧ y = 5) ∨ (x = 188) ∨ (x = 189) ∨ (x = 190)) σ σ1) (PoC G kc shC ad A) A) ([.ref (ad 186)] : List Value).toArray s 0 0 A) (F0 m 7 ls []) := by
    intro nq
    induction nq with
    | zero => intro q1_7 tn τ3 H locs ls hmu; exact absurd hmu (Nat.not_lt_zero _)
    | succ nq ih4 =>
      intro q1_7 tn τ3 H locs ls hmu hq1_7 htn htf hK hT_τ3 hF_τ3 hw hl
      refine lv_iload_n hx hb (dkP dF_27 DX5_split (i := 5) rfl rfl) rfl (lv_at hl 0 rfl) ?_
      refine lv_aload_n hx hb (dkP dF_42 DX5_split (i := 6) rfl rfl) rfl (lv_at hl 1 rfl) ?_
      refine z_gi C0 hw 186 1 (fk_of shc_186 rfl) fl_X5_46 (dk2 dF_180 DX5_split (i := 7) rfl rfl rfl) ?_
      refine z_top (y := (nI n1)) ((hF_τ3.1 186 1 (by show ¬ ((186 = 186 ∧ 1 = 5) ∨ (186 = 188) ∨ (186 = 189) ∨ (186 = 190)); omega)).trans en1) ?_
      refine lv_icmp_ge (tgt := 59) hx hb (dkS dF_162 DX5_split (i := 8) rfl rfl rfl) (by decide) (fun c5 => ?_) (fun c5 => ?_)
      · simp (disch := omega) only [ta_lt, ta_le, ta_eq, tnI] at c5
        refine lv_aload_n hx hb (dkP dF_42 DX5_split (i := 35) rfl rfl) rfl (lv_at hl 1 rfl) ?_
        refine z_gr C0 hw 186 2 188 (fk_of shc_186 rfl) fl_X5_15 (dk2 dF_180 DX5_split (i := 36) rfl rfl rfl) ?_
        refine lv_aload_n hx hb (dkP dF_42 DX5_split (i := 37) rfl rfl) rfl (lv_at hl 1 rfl) ?_
        refine z_gi C0 hw 186 5 (fk_of shc_186 rfl) fl_X5_82 (dk2 dF_180 DX5_split (i := 38) rfl rfl rfl) ?_
        refine z_top (y := (nI tn)) htn ?_
        refine lv_iconst (v := 0) hx hb (dkP dF_3 DX5_split (i := 39) rfl rfl) (by decide) ?_
        refine z_iastN (n := 601) C0 hw 188 tn (ak_of shc_188) (by omega) (by decide) (dkP dF_79 DX5_split (i := 40) rfl rfl) (fun H locs hw => ?_)
        have hT6 : TC (sI τ3 188 tn 0) := TC.w hT_τ3 (tc0 tcl_188)
        have hF6 : frC (fun x y => (x = 186 ∧ y = 5) ∨ (x = 188) ∨ (x = 189) ∨ (x = 190)) σ (sI τ3 188 tn 0) := frC.w hF_τ3 (by show (188 = 186 ∧ tn = 5) ∨ (188 = 188) ∨ (188 = 189) ∨ (188 = 190); exact Or.inr (Or.inl rfl))
        refine lv_aload_n hx hb (dkP dF_42 DX5_split (i := 41) rfl rfl) rfl (lv_at hl 1 rfl) ?_
        refine z_gr C0 hw 186 4 190 (fk_of shc_186 rfl) fl_X5_22 (dk2 dF_180 DX5_split (i := 42) rfl rfl rfl) ?_
        refine lv_aload_n hx hb (dkP dF_42 DX5_split (i := 43) rfl rfl) rfl (lv_at hl 1 rfl) ?_
        refine z_gi C0 hw 186 5 (fk_of shc_186 rfl) fl_X5_82 (dk2 dF_180 DX5_split (i := 44) rfl rfl rfl) ?_
        refine z_top (y := (nI tn)) ((rd_n (by omega)).trans htn) ?_
        refine lv_aload_n hx hb (dkP dF_42 DX5_split (i := 45) rfl rfl) rfl (lv_at hl 1 rfl) ?_
        refine z_gi C0 hw 186 1 (fk_of shc_186 rfl) fl_X5_46 (dk2 dF_180 DX5_split (i := 46) rfl rfl rfl) ?_
        refine z_top (y := (nI n1)) ((rd_n (by omega)).trans ((hF_τ3.1 186 1 (by show ¬ ((186 = 186 ∧ 1 = 5) ∨ (186 = 188) ∨ (186 = 189) ∨ (186 = 190)); omega)).trans en1)) ?_
        refine z_iastN (n := 601) C0 hw 190 tn (ak_of shc_190) (by omega) (by decide) (dkP dF_79 DX5_split (i := 47) rfl rfl) (fun H locs hw => ?_)
        have hT7 : TC (sI (sI τ3 188 tn 0) 190 tn (nI n1)) := TC.w hT6 (tc0 tcl_190)
        have hF7 : frC (fun x y => (x = 186 ∧ y = 5) ∨ (x = 188) ∨ (x = 189) ∨ (x = 190)) σ (sI (sI τ3 188 tn 0) 190 tn (nI n1)) := frC.w hF6 (by show (190 = 186 ∧ tn = 5) ∨ (190 = 188) ∨ (190 = 189) ∨ (190 = 190); exact Or.inr (Or.inr (Or.inr (rfl))))
        exact z_vret C0 hr hlk hw (⟨⟨tn, by omega, (rd_n (by omega)).trans rd_s, fun i hi h3 => by rw [((rd_n (by omega)).trans ((rd_n (by omega)).trans rfl))] at h3; rw [((rd_n (by omega)).trans ((rd_n (by omega)).trans rfl))]; exact hK i hi h3⟩, hT7, hF7⟩) (dkP dF_177 DX5_split (i := 48) rfl rfl)
      · simp (disch := omega) only [ta_lt, ta_le, ta_eq, tnI] at c5
        refine lv_aload_n hx hb (dkP dF_42 DX5_split (i := 9) rfl rfl) rfl (lv_at hl 1 rfl) ?_
        refine z_gr C0 hw 186 0 187 (fk_of shc_186 rfl) fl_X5_11 (dk2 dF_180 DX5_split (i := 10) rfl rfl rfl) ?_
        refine lv_iload_n hx hb (dkP dF_27 DX5_split (i := 11) rfl rfl) rfl (lv_at hl 0 rfl) ?_
        refine z_baldN (n := 600) C0 hw 187 q1_7 (ak_of shc_187) (by omega) (by decide) (dkP dF_51 DX5_split (i := 12) rfl rfl) ?_
        obtain ⟨v8, ev8⟩ : ∃ y : Int32, τ3.1 187 q1_7 = y := ⟨_, rfl⟩
        refine z_top (y := v8) ev8 ?_
        refine lv_istore_n (lv' := [(2, .int v8), (1, .int (nI q1_7)), (0, .ref (ad 186))]) hx hb (dkP dF_61 DX5_split (i := 13) rfl rfl) rfl hl (by decide) rfl (fun ls hl => ?_)
        refine lv_iload_n hx hb (dkP dF_28 DX5_split (i := 14) rfl rfl) rfl (lv_at hl 0 rfl) ?_
        refine lv_bipush (v := 32) hx hb (dks dF_16 DX5_split (i := 15) rfl rfl rfl) (by decide) ?_
        refine lv_icmp_eq (tgt := 53) hx hb (dkS dF_159 DX5_split (i := 16) rfl rfl rfl) (by decide) (fun c9 => ?_) (fun c9 => ?_)
        · (try simp (disch := omega) only [ta_lt, ta_le, ta_eq, tnI, tl32 32 (by decide)] at c9)
          refine lv_iinc (v := nI (q1_7 + 1)) (lv' := [(1, .int (nI (q1_7 + 1))), (2, .int v8), (0, .ref (ad 186))]) hx hb (dkI DX5_split (i := 33) rfl rfl rfl rfl) hl (k := 1) rfl (nI_1 _) (by decide) rfl (fun ls hl => ?_)
          refine lv_goto (tgt := 7) hx hb (dkS dF_167 DX5_split (i := 34) rfl rfl rfl) (by decide) ?_
          exact ih4 (q1_7 + 1) tn τ3 _ _ _ (by omega) (by (try simp only [lg_cmp_lt, lg_cmp_le, lg_cmp_gt, lg_cmp_ge, lg_cmp_eq] at c5); (try simp (disch := omega) only [ta_lt, ta_le, ta_eq, tb_lt, tb_le, tb_eq, tw, tnI, tsub1, tsv, tsb32, tn32 1 (by decide), tnj 1 (by decide), tl32 0 (by decide), tl64 0 (by decide), tl32 32 (by decide), tl64 32 (by decide)] at c5); (try simp only [lg_cmp_lt, lg_cmp_le, lg_cmp_gt, lg_cmp_ge, lg_cmp_eq] at c9); (try simp (disch := omega) only [ta_lt, ta_le, ta_eq, tb_lt, tb_le, tb_eq, tw, tnI, tsub1, tsv, tsb32, tn32 1 (by decide), tnj 1 (by decide), tl32 0 (by decide), tl64 0 (by decide), tl32 32 (by decide), tl64 32 (by decide)] at c9); (try simp (disch := omega) only [ta_lt, ta_le, ta_eq, tb_lt, tb_le, tb_eq, tw, tnI, tsub1, tsv, tsb32, tn32 1 (by decide), tnj 1 (by decide), tl32 0 (by decide), tl64 0 (by decide), tl32 32 (by decide), tl64 32 (by decide)]); omega) htn (by omega) hK hT_τ3 hF_τ3 hw (lv_sub hl [0, 2] rfl)
        · (try simp (disch := omega) only [ta_lt, ta_le, ta_eq, tnI, tl32 32 (by decide)] at c9)
          refine lv_iload_n hx hb (dkP dF_28 DX5_split (i := 17) rfl rfl) rfl (lv_at hl 0 rfl) ?_
          refine lv_bipush (v := 10) hx hb (dks dF_16 DX5_split (i := 18) rfl rfl rfl) (by decide) ?_
          refine lv_icmp_eq (tgt := 53) hx hb (dkS dF_159 DX5_split (i := 19) rfl rfl rfl) (by decide) (fun c10 => ?_) (fun c10 => ?_)
          · (try simp (disch := omega) only [ta_lt, ta_le, ta_eq, tnI, tl32 10 (by decide)] at c10)
            refine lv_iinc (v := nI (q1_7 + 1)) (lv' := [(1, .int (nI (q1_7 + 1))), (2, .int v8), (0, .ref (ad 186))]) hx hb (dkI DX5_split (i := 33) rfl rfl rfl rfl) hl (k := 1) rfl (nI_1 _) (by decide) rfl (fun ls hl => ?_)
            refine lv_goto (tgt := 7) hx hb (dkS dF_167 DX5_split (i := 34) rfl rfl rfl) (by decide) ?_
            exact ih4 (q1_7 + 1) tn τ3 _ _ _ (by omega) (by (try simp only [lg_cmp_lt, lg_cmp_le, lg_cmp_gt, lg_cmp_ge, lg_cmp_eq] at c5); (try simp (disch := omega) only [ta_lt, ta_le, ta_eq, tb_lt, tb_le, tb_eq, tw, tnI, tsub1, tsv, tsb32, tn32 1 (by decide), tnj 1 (by decide), tl32 0 (by decide), tl64 0 (by decide), tl32 10 (by decide), tl64 10 (by decide), tl32 32 (by decide), tl64 32 (by decide)] at c5); (try simp only [lg_cmp_lt, lg_cmp_le, lg_cmp_gt, lg_cmp_ge, lg_cmp_eq] at c9); (try simp (disch := omega) only [ta_lt, ta_le, ta_eq, tb_lt, tb_le, tb_eq, tw, tnI, tsub1, tsv, tsb32, tn32 1 (by decide), tnj 1 (by decide), tl32 0 (by decide), tl64 0 (by decide), tl32 10 (by decide), tl64 10 (by decide), tl32 32 (by decide), tl64 32 (by decide)] at c9); (try simp only [lg_cmp_lt, lg_cmp_le, lg_cmp_gt, lg_cmp_ge, lg_cmp_eq] at c10); (try simp (disch := omega) only [ta_lt, ta_le, ta_eq, tb_lt, tb_le, tb_eq, tw, tnI, tsub1, tsv, tsb32, tn32 1 (by decide), tnj 1 (by decide), tl32 0 (by decide), tl64 0 (by decide), tl32 10 (by decide), tl64 10 (by decide), tl32 32 (by decide), tl64 32 (by decide)] at c10); (try simp (disch := omega) only [ta_lt, ta_le, ta_eq, tb_lt, tb_le, tb_eq, tw, tnI, tsub1, tsv, tsb32, tn32 1 (by decide), tnj 1 (by decide), tl32 0 (by decide), tl64 0 (by decide), tl32 10 (by decide), tl64 10 (by decide), tl32 32 (by decide), tl64 32 (by decide)]); omega) htn (by omega) hK hT_τ3 hF_τ3 hw (lv_sub hl [0, 2] rfl)
          · (try simp (disch := omega) only [ta_lt, ta_le, ta_eq, tnI, tl32 10 (by decide)] at c10)
            refine lv_aload_n hx hb (dkP dF_42 DX5_split (i := 20) rfl rfl) rfl (lv_at hl 2 rfl) ?_
            refine lv_iload_n hx hb (dkP dF_28 DX5_split (i := 21) rfl rfl) rfl (lv_at hl 0 rfl) ?_
            refine lv_iload_n hx hb (dkP dF_27 DX5_split (i := 22) rfl rfl) rfl (lv_at hl 1 rfl) ?_
            refine zk_I hw (zr_V (As := [.int v8, .int (nI q1_7)]) (rest := []) C0 (c_X5_splitOff l G kc ad τ3 v8 q1_7 ((hF_τ3.1 186 1 (by show ¬ ((186 = 186 ∧ 1 = 5) ∨ (186 = 188) ∨ (186 = 189) ∨ (186 = 190)); omega)).trans en1) (by omega) (by omega) htn (by omega) ev8 hT_τ3 _) cv_X5_splitOff lk_X5_85 (zp_V C0 hRo hw 186 shc_186 rfl rfl) rfl hl.1 rfl ⟨by decide, by decide⟩ (Nat.le_of_ble_eq_true rfl) (dk2 dF_182 DX5_split (i := 23) rfl rfl rfl) ⟨Nat.le_refl _, Nat.le_refl _⟩) (fun r11 s11 H locs hp hw => ?_)
            obtain ⟨f11_0, f11_1, f11_2, hT11, hG11⟩ := hp
            have hF11 : frC (fun x y => (x = 186 ∧ y = 5) ∨ (x = 188) ∨ (x = 189) ∨ (x = 190)) σ s11 := frC.t hF_τ3 hG11 (fun x y h => by have h : (x = 188) ∨ (x = 189) ∨ (x = 190) := h; show (x = 186 ∧ y = 5) ∨ (x = 188) ∨ (x = 189) ∨ (x = 190); rcases h with h | h | h; (· exact Or.inr (Or.inl h)); (· exact Or.inr (Or.inr (Or.inl h))); (· exact Or.inr (Or.inr (Or.inr (h)))))
            obtain ⟨mq, hmq1, hmq2, hmqe⟩ := f11_2
            subst hmqe
            refine lv_iconst (v := 1) hx hb (dkP dF_4 DX5_split (i := 24) rfl rfl) (by decide) ?_
            refine lv_isub hx hb (dkP dF_100 DX5_split (i := 25) rfl rfl) ?_
            refine z_top (y := nI (mq - 1)) (by simp only [fa_lit]; exact nI_sub (by omega)) ?_
            refine lv_istore_n (lv' := [(1, .int (nI (mq - 1))), (2, .int v8), (0, .ref (ad 186))]) hx hb (dkP dF_60 DX5_split (i := 26) rfl rfl) rfl hl (by decide) rfl (fun ls hl => ?_)
            refine lv_aload_n hx hb (dkP dF_42 DX5_split (i := 27) rfl rfl) rfl (lv_at hl 2 rfl) ?_
            refine lv_dup hx hb (dkP dF_89 DX5_split (i := 28) rfl rfl) rfl ?_
            refine z_gi C0 hw 186 5 (fk_of shc_186 rfl) fl_X5_82 (dk2 dF_180 DX5_split (i := 29) rfl rfl rfl) ?_
            refine z_top (y := (nI tn)) ((hG11.1 186 5 (by show ¬ ((186 = 188) ∨ (186 = 189) ∨ (186 = 190)); omega)).trans htn) ?_
            refine lv_iconst (v := 1) hx hb (dkP dF_4 DX5_split (i := 30) rfl rfl) (by decide) ?_
            refine lv_iadd hx hb (dkP dF_96 DX5_split (i := 31) rfl rfl) ?_
            refine z_top (y := nI (tn + 1)) (by simp only [fa_lit, nI_add, pk_mul]) ?_
            refine z_pi C0 hw 186 5 (fk_of shc_186 rfl) fp_X5_82 (dk2 dF_181 DX5_split (i := 32) rfl rfl rfl) (fun H locs hw => ?_)
            have hT12 : TC (sI s11 186 5 (nI (tn + 1))) := TC.w hT11 (tcw_10_5 tcl_186 (by (try simp only [lg_cmp_lt, lg_cmp_le, lg_cmp_gt, lg_cmp_ge, lg_cmp_eq] at c5); (try simp (disch := omega) only [ta_lt, ta_le, ta_eq, tb_lt, tb_le, tb_eq, tw, tnI, tsub1, tsv, tsb32, tn32 1 (by decide), tnj 1 (by decide), tl32 0 (by decide), tl64 0 (by decide), tl32 1 (by decide), tl64 1 (by decide), tl32 10 (by decide), tl64 10 (by decide), tl32 32 (by decide), tl64 32 (by decide)] at c5); (try simp only [lg_cmp_lt, lg_cmp_le, lg_cmp_gt, lg_cmp_ge, lg_cmp_eq] at c9); (try simp (disch := omega) only [ta_lt, ta_le, ta_eq, tb_lt, tb_le, tb_eq, tw, tnI, tsub1, tsv, tsb32, tn32 1 (by decide), tnj 1 (by decide), tl32 0 (by decide), tl64 0 (by decide), tl32 1 (by decide), tl64 1 (by decide), tl32 10 (by decide), tl64 10 (by decide), tl32 32 (by decide), tl64 32 (by decide)] at c9); (try simp only [lg_cmp_lt, lg_cmp_le, lg_cmp_gt, lg_cmp_ge, lg_cmp_eq] at c10); (try simp (disch := omega) only [ta_lt, ta_le, ta_eq, tb_lt, tb_le, tb_eq, tw, tnI, tsub1, tsv, tsb32, tn32 1 (by decide), tnj 1 (by decide), tl32 0 (by decide), tl64 0 (by decide), tl32 1 (by decide), tl64 1 (by decide), tl32 10 (by decide), tl64 10 (by decide), tl32 32 (by decide), tl64 32 (by decide)] at c10); (try simp only [lg_cmp_lt, lg_cmp_le, lg_cmp_gt, lg_cmp_ge, lg_cmp_eq] at f11_0); (try simp (disch := omega) only [ta_lt, ta_le, ta_eq, tb_lt, tb_le, tb_eq, tw, tnI, tsub1, tsv, tsb32, tn32 1 (by decide), tnj 1 (by decide), tl32 0 (by decide), tl64 0 (by decide), tl32 1 (by decide), tl64 1 (by decide), tl32 10 (by decide), tl64 10 (by decide), tl32 32 (by decide), tl64 32 (by decide)] at f11_0); (try simp only [lg_cmp_lt, lg_cmp_le, lg_cmp_gt, lg_cmp_ge, lg_cmp_eq] at f11_1); (try simp (disch := omega) only [ta_lt, ta_le, ta_eq, tb_lt, tb_le, tb_eq, tw, tnI, tsub1, tsv, tsb32, tn32 1 (by decide), tnj 1 (by decide), tl32 0 (by decide), tl64 0 (by decide), tl32 1 (by decide), tl64 1 (by decide), tl32 10 (by decide), tl64 10 (by decide), tl32 32 (by decide), tl64 32 (by decide)] at f11_1); (try simp only [lg_cmp_lt, lg_cmp_le, lg_cmp_gt, lg_cmp_ge, lg_cmp_eq] at f11_2); (try simp (disch := omega) only [ta_lt, ta_le, ta_eq, tb_lt, tb_le, tb_eq, tw, tnI, tsub1, tsv, tsb32, tn32 1 (by decide), tnj 1 (by decide), tl32 0 (by decide), tl64 0 (by decide), tl32 1 (by decide), tl64 1 (by decide), tl32 10 (by decide), tl64 10 (by decide), tl32 32 (by decide), tl64 32 (by decide)] at f11_2); (try simp (disch := omega) only [ta_lt, ta_le, ta_eq, tb_lt, tb_le, tb_eq, tw, tnI, tsub1, tsv, tsb32, tn32 1 (by decide), tnj 1 (by decide), tl32 0 (by decide), tl64 0 (by decide), tl32 1 (by decide), tl64 1 (by decide), tl32 10 (by decide), tl64 10 (by decide), tl32 32 (by decide), tl64 32 (by decide)]); omega))
            have hF12 : frC (fun x y => (x = 186 ∧ y = 5) ∨ (x = 188) ∨ (x = 189) ∨ (x = 190)) σ (sI s11 186 5 (nI (tn + 1))) := frC.w hF11 (by show (186 = 186 ∧ 5 = 5) ∨ (186 = 188) ∨ (186 = 189) ∨ (186 = 190); exact Or.inl (⟨rfl, rfl⟩))
            refine lv_iinc (v := nI (mq - 1 + 1)) (lv' := [(1, .int (nI (mq - 1 + 1))), (2, .int v8), (0, .ref (ad 186))]) hx hb (dkI DX5_split (i := 33) rfl rfl rfl rfl) hl (k := 0) rfl (nI_1 _) (by decide) rfl (fun ls hl => ?_)
            refine lv_goto (tgt := 7) hx hb (dkS dF_167 DX5_split (i := 34) rfl rfl rfl) (by decide) ?_
            exact ih4 (mq - 1 + 1) (tn + 1) (sI s11 186 5 (nI (tn + 1))) _ _ _ (by omega) (by (try simp only [lg_cmp_lt, lg_cmp_le, lg_cmp_gt, lg_cmp_ge, lg_cmp_eq] at c5); (try simp (disch := omega) only [ta_lt, ta_le, ta_eq, tb_lt, tb_le, tb_eq, tw, tnI, tsub1, tsv, tsb32, tn32 1 (by decide), tnj 1 (by decide), tl32 0 (by decide), tl64 0 (by decide), tl32 1 (by decide), tl64 1 (by decide), tl32 10 (by decide), tl64 10 (by decide), tl32 32 (by decide), tl64 32 (by decide)] at c5); (try simp only [lg_cmp_lt, lg_cmp_le, lg_cmp_gt, lg_cmp_ge, lg_cmp_eq] at c9); (try simp (disch := omega) only [ta_lt, ta_le, ta_eq, tb_lt, tb_le, tb_eq, tw, tnI, tsub1, tsv, tsb32, tn32 1 (by decide), tnj 1 (by decide), tl32 0 (by decide), tl64 0 (by decide), tl32 1 (by decide), tl64 1 (by decide), tl32 10 (by decide), tl64 10 (by decide), tl32 32 (by decide), tl64 32 (by decide)] at c9); (try simp only [lg_cmp_lt, lg_cmp_le, lg_cmp_gt, lg_cmp_ge, lg_cmp_eq] at c10); (try simp (disch := omega) only [ta_lt, ta_le, ta_eq, tb_lt, tb_le, tb_eq, tw, tnI, tsub1, tsv, tsb32, tn32 1 (by decide), tnj 1 (by decide), tl32 0 (by decide), tl64 0 (by decide), tl32 1 (by decide), tl64 1 (by decide), tl32 10 (by decide), tl64 10 (by decide), tl32 32 (by decide), tl64 32 (by decide)] at c10); (try simp only [lg_cmp_lt, lg_cmp_le, lg_cmp_gt, lg_cmp_ge, lg_cmp_eq] at f11_0); (try simp (disch := omega) only [ta_lt, ta_le, ta_eq, tb_lt, tb_le, tb_eq, tw, tnI, tsub1, tsv, tsb32, tn32 1 (by decide), tnj 1 (by decide), tl32 0 (by decide), tl64 0 (by decide), tl32 1 (by decide), tl64 1 (by decide), tl32 10 (by decide), tl64 10 (by decide), tl32 32 (by decide), tl64 32 (by decide)] at f11_0); (try simp only [lg_cmp_lt, lg_cmp_le, lg_cmp_gt, lg_cmp_ge, lg_cmp_eq] at f11_1); (try simp (disch := omega) only [ta_lt, ta_le, ta_eq, tb_lt, tb_le, tb_eq, tw, tnI, tsub1, tsv, tsb32, tn32 1 (by decide), tnj 1 (by decide), tl32 0 (by decide), tl64 0 (by decide), tl32 1 (by decide), tl64 1 (by decide), tl32 10 (by decide), tl64 10 (by decide), tl32 32 (by decide), tl64 32 (by decide)] at f11_1); (try simp only [lg_cmp_lt, lg_cmp_le, lg_cmp_gt, lg_cmp_ge, lg_cmp_eq] at f11_2); (try simp (disch := omega) only [ta_lt, ta_le, ta_eq, tb_lt, tb_le, tb_eq, tw, tnI, tsub1, tsv, tsb32, tn32 1 (by decide), tnj 1 (by decide), tl32 0 (by decide), tl64 0 (by decide), tl32 1 (by decide), tl64 1 (by decide), tl32 10 (by decide), tl64 10 (by decide), tl32 32 (by decide), tl64 32 (by decide)] at f11_2); (try simp (disch := omega) only [ta_lt, ta_le, ta_eq, tb_lt, tb_le, tb_eq, tw, tnI, tsub1, tsv, tsb32, tn32 1 (by decide), tnj 1 (by decide), tl32 0 (by decide), tl64 0 (by decide), tl32 1 (by decide), tl64 1 (by decide), tl32 10 (by decide), tl64 10 (by decide), tl32 32 (by decide), tl64 32 (by decide)]); omega) rd_s (by omega) (fun i hi h3 => by by_cases e_ : i = tn; (· rw [e_] at h3 ⊢; rw [rd_n (by omega)] at h3 ⊢; exact f11_0 h3); (· rw [rd_n (by omega), (f11_1 i (by omega)).1] at h3; rw [rd_n (by omega), (f11_1 i (by omega)).2]; exact hK i (by omega) h3)) hT12 hF12 hw (lv_sub hl [0, 2] rfl)
  exact lp4 _ 0 0 (sI σ 186 5 0) _ _ _ (Nat.lt_succ_self _) (by (try simp (disch := omega) only [ta_lt, ta_le, ta_eq, tb_lt, tb_le, tb_eq, tw, tnI, tsub1, tsv, tsb32, tn32 1 (by decide), tnj 1 (by decide), tl32 0 (by decide), tl64 0 (by decide), tl32 1 (by decide), tl64 1 (by decide), tl32 10 (by decide), tl64 10 (by decide), tl32 32 (by decide), tl64 32 (by decide)]); omega) rd_s (by omega) (fun i hi => absurd hi (Nat.not_lt_zero i)) hT2 hF2 hw (lv_sub hl [0, 1] rfl)
set_option maxRecDepth 100000 in
set_option maxHeartbeats 8000000 in
theorem c_X5_begin (l : Launch) (G : va_G) (kc : KC) (ad : Nat → Nat) (σ : Sg)  (hT : TC σ) : MV l G kc yX5_begin cX5_begin 1 4 90 [.ref (ad 186)] shC ad σ (fun σ1 => (∃ tk, TK σ1 tk) ∧ ((σ1.1 186 6).toInt ≤ 0) ∧ TC σ1 ∧ frC (fun x y => (x = 186 ∧ y = 1) ∨ (x = 186 ∧ y = 5) ∨ (x = 186 ∧ y = 6) ∨ (x = 186 ∧ y = 7) ∨ (x = 186 ∧ y = 8) ∨ (x = 188) ∨ (x = 189) ∨ (x = 190)) σ σ1) := by
  intro sz
  refine z_body (y := yX5_begin) (n := 1) (av := [.ref (ad 186)]) (Qc := fun A => va_Qv (fun σ1 => (∃ tk, TK σ1 tk) ∧ ((σ1.1 186 6).toInt ≤ 0) ∧ TC σ1 ∧ frC (fun x y => (x = 186 ∧ y = 1) ∨ (x = 186 ∧ y = 5) ∨ (x = 186 ∧ y = 6) ∨ (x = 186 ∧ y = 7) ∨ (x = 186 ∧ y = 8) ∨ (x = 188) ∨ (x = 189) ∨ (x = 190)) σ σ1) (PoC G kc shC ad A) A) (plainFor_of_name (by decide)) (Nat.le_of_ble_eq_true rfl) (fun pr e s m below meth c A C0 hr hlk hnm hw hRo ls hl => ?_) sz
  have hx := C0.1
  have hb := C0.2.1
  have hown := C0.2.2.2.1
  have hts := C0.2.2.2.2.1
  have hl : lv_has ls 1 [(0, .ref (ad 186))] := hl
  refine lv_aload_n hx hb (dkP dF_42 DX5_begin (i := 0) rfl rfl) rfl (lv_at hl 0 rfl) ?_
  refine zk_V hw (zr_V (As := []) (rest := []) C0 (c_X5_split l G kc ad σ hT _) cv_X5_split lk_X5_76 (zp_V C0 hRo hw 186 shc_186 rfl rfl) rfl hl.1 rfl ⟨by decide, by decide⟩ (Nat.le_of_ble_eq_true rfl) (dk2 dF_182 DX5_begin (i := 1) rfl rfl rfl) ⟨Nat.le_refl _, Nat.le_refl _⟩) (fun s1 H locs hp hw => ?_)
  obtain ⟨f1_0, hT1, hG1⟩ := hp
  have hF1 : frC (fun x y => (x = 186 ∧ y = 1) ∨ (x = 186 ∧ y = 5) ∨ (x = 186 ∧ y = 6) ∨ (x = 186 ∧ y = 7) ∨ (x = 186 ∧ y = 8) ∨ (x = 188) ∨ (x = 189) ∨ (x = 190)) σ s1 := frC.t frC.refl hG1 (fun x y h => by have h : (x = 186 ∧ y = 5) ∨ (x = 188) ∨ (x = 189) ∨ (x = 190) := h; show (x = 186 ∧ y = 1) ∨ (x = 186 ∧ y = 5) ∨ (x = 186 ∧ y = 6) ∨ (x = 186 ∧ y = 7) ∨ (x = 186 ∧ y = 8) ∨ (x = 188) ∨ (x = 189) ∨ (x = 190); rcases h with h | h | h | h; (· exact Or.inr (Or.inl h)); (· exact Or.inr (Or.inr (Or.inr (Or.inr (Or.inr (Or.inl h)))))); (· exact Or.inr (Or.inr (Or.inr (Or.inr (Or.inr (Or.inr (Or.inl h))))))); (· exact Or.inr (Or.inr (Or.inr (Or.inr (Or.inr (Or.inr (Or.inr (h)))))))))
  refine lv_aload_n hx hb (dkP dF_42 DX5_begin (i := 2) rfl rfl) rfl (lv_at hl 0 rfl) ?_
  refine lv_iconst (v := 0) hx hb (dkP dF_3 DX5_begin (i := 3) rfl rfl) (by decide) ?_
  refine z_pi C0 hw 186 6 (fk_of shc_186 rfl) fp_X5_55 (dk2 dF_181 DX5_begin (i := 4) rfl rfl rfl) (fun H locs hw => ?_)
  have hT2 : TC (sI s1 186 6 0) := TC.w hT1 (tcw_10_6 tcl_186 (by (try simp only [lg_cmp_lt, lg_cmp_le, lg_cmp_gt, lg_cmp_ge, lg_cmp_eq] at f1_0); (try simp (disch := omega) only [ta_lt, ta_le, ta_eq, tb_lt, tb_le, tb_eq, tw, tnI, tsub1, tsv, tsb32, tn32 1 (by decide), tnj 1 (by decide), tl32 0 (by decide), tl64 0 (by decide)] at f1_0); (try simp (disch := omega) only [ta_lt, ta_le, ta_eq, tb_lt, tb_le, tb_eq, tw, tnI, tsub1, tsv, tsb32, tn32 1 (by decide), tnj 1 (by decide), tl32 0 (by decide), tl64 0 (by decide)]); omega))
  have hF2 : frC (fun x y => (x = 186 ∧ y = 1) ∨ (x = 186 ∧ y = 5) ∨ (x = 186 ∧ y = 6) ∨ (x = 186 ∧ y = 7) ∨ (x = 186 ∧ y = 8) ∨ (x = 188) ∨ (x = 189) ∨ (x = 190)) σ (sI s1 186 6 0) := frC.w hF1 (by show (186 = 186 ∧ 6 = 1) ∨ (186 = 186 ∧ 6 = 5) ∨ (186 = 186 ∧ 6 = 6) ∨ (186 = 186 ∧ 6 = 7) ∨ (186 = 186 ∧ 6 = 8) ∨ (186 = 188) ∨ (186 = 189) ∨ (186 = 190); exact Or.inr (Or.inr (Or.inl (⟨rfl, rfl⟩))))
  refine lv_aload_n hx hb (dkP dF_42 DX5_begin (i := 5) rfl rfl) rfl (lv_at hl 0 rfl) ?_
  refine lv_iconst (v := 0) hx hb (dkP dF_3 DX5_begin (i := 6) rfl rfl) (by decide) ?_
  refine z_pi C0 hw 186 7 (fk_of shc_186 rfl) fp_X5_79 (dk2 dF_181 DX5_begin (i := 7) rfl rfl rfl) (fun H locs hw => ?_)
  have hT3 : TC (sI (sI s1 186 6 0) 186 7 0) := TC.w hT2 (tcw_10_7 tcl_186)
  have hF3 : frC (fun x y => (x = 186 ∧ y = 1) ∨ (x = 186 ∧ y = 5) ∨ (x = 186 ∧ y = 6) ∨ (x = 186 ∧ y = 7) ∨ (x = 186 ∧ y = 8) ∨ (x = 188) ∨ (x = 189) ∨ (x = 190)) σ (sI (sI s1 186 6 0) 186 7 0) := frC.w hF2 (by show (186 = 186 ∧ 7 = 1) ∨ (186 = 186 ∧ 7 = 5) ∨ (186 = 186 ∧ 7 = 6) ∨ (186 = 186 ∧ 7 = 7) ∨ (186 = 186 ∧ 7 = 8) ∨ (186 = 188) ∨ (186 = 189) ∨ (186 = 190); exact Or.inr (Or.inr (Or.inr (Or.inl (⟨rfl, rfl⟩)))))
  refine lv_aload_n hx hb (dkP dF_42 DX5_begin (i := 8) rfl rfl) rfl (lv_at hl 0 rfl) ?_
  refine lv_iconst (v := (-1)) hx hb (dkP dF_2 DX5_begin (i := 9) rfl rfl) (by decide) ?_
  refine z_pi C0 hw 186 8 (fk_of shc_186 rfl) fp_X5_25 (dk2 dF_181 DX5_begin (i := 10) rfl rfl rfl) (fun H locs hw => ?_)
  have hT4 : TC (sI (sI (sI s1 186 6 0) 186 7 0) 186 8 (-1)) := TC.w hT3 (tcw_10_8 tcl_186)
  have hF4 : frC (fun x y => (x = 186 ∧ y = 1) ∨ (x = 186 ∧ y = 5) ∨ (x = 186 ∧ y = 6) ∨ (x = 186 ∧ y = 7) ∨ (x = 186 ∧ y = 8) ∨ (x = 188) ∨ (x = 189) ∨ (x = 190)) σ (sI (sI (sI s1 186 6 0) 186 7 0) 186 8 (-1)) := frC.w hF3 (by show (186 = 186 ∧ 8 = 1) ∨ (186 = 186 ∧ 8 = 5) ∨ (186 = 186 ∧ 8 = 6) ∨ (186 = 186 ∧ 8 = 7) ∨ (186 = 186 ∧ 8 = 8) ∨ (186 = 188) ∨ (186 = 189) ∨ (186 = 190); exact Or.inr (Or.inr (Or.inr (Or.inr (Or.inl (⟨rfl, rfl⟩))))))
  refine lv_aload_n hx hb (dkP dF_42 DX5_begin (i := 11) rfl rfl) rfl (lv_at hl 0 rfl) ?_
  refine lv_iconst (v := 0) hx hb (dkP dF_3 DX5_begin (i := 12) rfl rfl) (by decide) ?_
  refine z_pi C0 hw 186 1 (fk_of shc_186 rfl) fp_X5_46 (dk2 dF_181 DX5_begin (i := 13) rfl rfl rfl) (fun H locs hw => ?_)
  have hT5 : TC (sI (sI (sI (sI s1 186 6 0) 186 7 0) 186 8 (-1)) 186 1 0) := TC.w hT4 (tcw_10_1 tcl_186 (by (try simp only [lg_cmp_lt, lg_cmp_le, lg_cmp_gt, lg_cmp_ge, lg_cmp_eq] at f1_0); (try simp (disch := omega) only [ta_lt, ta_le, ta_eq, tb_lt, tb_le, tb_eq, tw, tnI, tsub1, tsv, tsb32, tn32 1 (by decide), tnj 1 (by decide), tl32 0 (by decide), tl64 0 (by decide)] at f1_0); (try simp (disch := omega) only [ta_lt, ta_le, ta_eq, tb_lt, tb_le, tb_eq, tw, tnI, tsub1, tsv, tsb32, tn32 1 (by decide), tnj 1 (by decide), tl32 0 (by decide), tl64 0 (by decide)]); omega))
  have hF5 : frC (fun x y => (x = 186 ∧ y = 1) ∨ (x = 186 ∧ y = 5) ∨ (x = 186 ∧ y = 6) ∨ (x = 186 ∧ y = 7) ∨ (x = 186 ∧ y = 8) ∨ (x = 188) ∨ (x = 189) ∨ (x = 190)) σ (sI (sI (sI (sI s1 186 6 0) 186 7 0) 186 8 (-1)) 186 1 0) := frC.w hF4 (by show (186 = 186 ∧ 1 = 1) ∨ (186 = 186 ∧ 1 = 5) ∨ (186 = 186 ∧ 1 = 6) ∨ (186 = 186 ∧ 1 = 7) ∨ (186 = 186 ∧ 1 = 8) ∨ (186 = 188) ∨ (186 = 189) ∨ (186 = 190); exact Or.inl (⟨rfl, rfl⟩))
  exact z_vret C0 hr hlk hw (⟨(by obtain ⟨tk, hK⟩ := f1_0; exact ⟨tk, hK.c (fun x => ((rd_n (by omega)).trans ((rd_n (by omega)).trans ((rd_n (by omega)).trans ((rd_n (by omega)).trans rfl))))) (fun x => ((rd_n (by omega)).trans ((rd_n (by omega)).trans ((rd_n (by omega)).trans ((rd_n (by omega)).trans rfl)))))⟩), (by rw [((rd_n (by omega)).trans ((rd_n (by omega)).trans ((rd_n (by omega)).trans rd_s)))]; decide), hT5, hF5⟩) (dkP dF_177 DX5_begin (i := 14) rfl rfl)
set_option maxRecDepth 100000 in
set_option maxHeartbeats 8000000 in
theorem c_X5_fail (l : Launch) (G : va_G) (kc : KC) (ad : Nat → Nat) (σ : Sg) (ft : Int32) (hT : TC σ) : MI l G kc yX5_fail cX5_fail 2 (some .boolean) 0 0 [.ref (ad 186), .int ft] shC ad σ (fun r σ1 => ((r = 1 ∧ (False)) ∨ (r = 0 ∧ (True))) ∧ TC σ1 ∧ frC (fun x y => (x = 186 ∧ y = 7) ∨ (x = 186 ∧ y = 8)) σ σ1) := by
  intro sz
  refine z_body (y := yX5_fail) (n := 2) (av := [.ref (ad 186), .int ft]) (Qc := fun A => va_Qi (fun r σ1 => ((r = 1 ∧ (False)) ∨ (r = 0 ∧ (True))) ∧ TC σ1 ∧ frC (fun x y => (x = 186 ∧ y = 7) ∨ (x = 186 ∧ y = 8)) σ σ1) (PoC G kc shC ad A) A) (plainFor_of_name (by decide)) (Nat.le_of_ble_eq_true rfl) (fun pr e s m below meth c A C0 hr hlk hnm hw hRo ls hl => ?_) sz
  have hx := C0.1
  have hb := C0.2.1
  have hown := C0.2.2.2.1
  have hts := C0.2.2.2.2.1
  have hl : lv_has ls 2 [(0, .ref (ad 186)), (1, .int ft)] := hl
  refine lv_aload_n hx hb (dkP dF_42 DX5_fail (i := 0) rfl rfl) rfl (lv_at hl 0 rfl) ?_
  refine lv_iload_n hx hb (dkP dF_27 DX5_fail (i := 1) rfl rfl) rfl (lv_at hl 1 rfl) ?_
  refine z_pi C0 hw 186 7 (fk_of shc_186 rfl) fp_X5_79 (dk2 dF_181 DX5_fail (i := 2) rfl rfl rfl) (fun H locs hw => ?_)
  have hT1 : TC (sI σ 186 7 ft) := TC.w hT (tcw_10_7 tcl_186)
  have hF1 : frC (fun x y => (x = 186 ∧ y = 7) ∨ (x = 186 ∧ y = 8)) σ (sI σ 186 7 ft) := frC.w frC.refl (by show (186 = 186 ∧ 7 = 7) ∨ (186 = 186 ∧ 7 = 8); exact Or.inl (⟨rfl, rfl⟩))
  refine lv_aload_n hx hb (dkP dF_42 DX5_fail (i := 3) rfl rfl) rfl (lv_at hl 0 rfl) ?_
  refine lv_aload_n hx hb (dkP dF_42 DX5_fail (i := 4) rfl rfl) rfl (lv_at hl 0 rfl) ?_
  refine z_gr C0 hw 186 4 190 (fk_of shc_186 rfl) fl_X5_22 (dk2 dF_180 DX5_fail (i := 5) rfl rfl rfl) ?_
  refine lv_aload_n hx hb (dkP dF_42 DX5_fail (i := 6) rfl rfl) rfl (lv_at hl 0 rfl) ?_
  refine z_gi C0 hw 186 6 (fk_of shc_186 rfl) fl_X5_55 (dk2 dF_180 DX5_fail (i := 7) rfl rfl rfl) ?_
  obtain ⟨n2, hn2, en2⟩ := rngN (x := (sI σ 186 7 ft).1 186 6) (h := 600) (tcr_10_6 hT1 tcl_186)
  refine z_top (y := nI n2) en2 ?_
  refine z_ialdN (n := 601) C0 hw 190 n2 (ak_of shc_190) (by omega) (by decide) (dkP dF_46 DX5_fail (i := 8) rfl rfl) ?_
  obtain ⟨v3, ev3⟩ : ∃ y : Int32, (sI σ 186 7 ft).1 190 n2 = y := ⟨_, rfl⟩
  refine z_top (y := v3) ev3 ?_
  refine z_pi C0 hw 186 8 (fk_of shc_186 rfl) fp_X5_25 (dk2 dF_181 DX5_fail (i := 9) rfl rfl rfl) (fun H locs hw => ?_)
  have hT4 : TC (sI (sI σ 186 7 ft) 186 8 v3) := TC.w hT1 (tcw_10_8 tcl_186)
  have hF4 : frC (fun x y => (x = 186 ∧ y = 7) ∨ (x = 186 ∧ y = 8)) σ (sI (sI σ 186 7 ft) 186 8 v3) := frC.w hF1 (by show (186 = 186 ∧ 8 = 7) ∨ (186 = 186 ∧ 8 = 8); exact Or.inr (⟨rfl, rfl⟩))
  refine lv_iconst (v := 0) hx hb (dkP dF_3 DX5_fail (i := 10) rfl rfl) (by decide) ?_
  exact z_zret C0 hr hlk (by decide) hw (⟨(Or.inr ⟨rfl, trivial⟩), hT4, hF4⟩) (dkP dF_172 DX5_fail (i := 11) rfl rfl)
set_option maxRecDepth 100000 in
set_option maxHeartbeats 8000000 in
theorem c_X5_take (l : Launch) (G : va_G) (kc : KC) (ad : Nat → Nat) (σ : Sg) (kd : Int32) {tk : Nat} (hK : TK σ tk) (hA : (σ.1 186 6).toInt ≤ (tk : Int)) (hkd : ¬ kd.toInt = 0) (hT : TC σ) : MI l G kc yX5_take cX5_take 2 (some .boolean) 1 21 [.ref (ad 186), .int kd] shC ad σ (fun r σ1 => ((r = 1 ∧ (∃ n, n ≤ tk ∧ σ.1 186 6 = nI n ∧ σ.1 188 n = kd)) ∨ (r = 0 ∧ (True))) ∧ ((σ1.1 186 6).toInt ≤ (tk : Int)) ∧ TC σ1 ∧ frC (fun x y => (x = 186 ∧ y = 6) ∨ (x = 186 ∧ y = 7) ∨ (x = 186 ∧ y = 8)) σ σ1) := by
  intro sz
  refine z_body (y := yX5_take) (n := 2) (av := [.ref (ad 186), .int kd]) (Qc := fun A => va_Qi (fun r σ1 => ((r = 1 ∧ (∃ n, n ≤ tk ∧ σ.1 186 6 = nI n ∧ σ.1 188 n = kd)) ∨ (r = 0 ∧ (True))) ∧ ((σ1.1 186 6).toInt ≤ (tk : Int)) ∧ TC σ1 ∧ frC (fun x y => (x = 186 ∧ y = 6) ∨ (x = 186 ∧ y = 7) ∨ (x = 186 ∧ y = 8)) σ σ1) (PoC G kc shC ad A) A) (plainFor_of_name (by decide)) (Nat.le_of_ble_eq_true rfl) (fun pr e s m below meth c A C0 hr hlk hnm hw hRo ls hl => ?_) sz
  have hx := C0.1
  have hb := C0.2.1
  have hown := C0.2.2.2.1
  have hts := C0.2.2.2.2.1
  have hl : lv_has ls 2 [(0, .ref (ad 186)), (1, .int kd)] := hl
  have htk6 := hK.1
  refine lv_aload_n hx hb (dkP dF_42 DX5_take (i := 0) rfl rfl) rfl (lv_at hl 0 rfl) ?_
  refine z_gr C0 hw 186 2 188 (fk_of shc_186 rfl) fl_X5_15 (dk2 dF_180 DX5_take (i := 1) rfl rfl rfl) ?_
  refine lv_aload_n hx hb (dkP dF_42 DX5_take (i := 2) rfl rfl) rfl (lv_at hl 0 rfl) ?_
  refine z_gi C0 hw 186 6 (fk_of shc_186 rfl) fl_X5_55 (dk2 dF_180 DX5_take (i := 3) rfl rfl rfl) ?_
  obtain ⟨n1, hn1, en1⟩ := rngN (x := σ.1 186 6) (h := 600) (tcr_10_6 hT tcl_186)
  refine z_top (y := nI n1) en1 ?_
  have hat2 : n1 ≤ tk := by have h9 : (σ.1 186 6).toInt ≤ (tk : Int) := hA; rw [en1, tnI _ (by omega)] at h9; omega
  refine z_ialdN (n := 601) C0 hw 188 n1 (ak_of shc_188) (by omega) (by decide) (dkP dF_46 DX5_take (i := 4) rfl rfl) ?_
  obtain ⟨v3, ev3⟩ : ∃ y : Int32, σ.1 188 n1 = y := ⟨_, rfl⟩
  refine z_top (y := v3) ev3 ?_
  refine lv_iload_n hx hb (dkP dF_27 DX5_take (i := 5) rfl rfl) rfl (lv_at hl 1 rfl) ?_
  refine lv_icmp_eq (tgt := 19) hx hb (dkS dF_159 DX5_take (i := 6) rfl rfl rfl) (by decide) (fun c4 => ?_) (fun c4 => ?_)
  · (try simp (disch := omega) only [ta_lt, ta_le, ta_eq, tnI] at c4)
    refine lv_aload_n hx hb (dkP dF_42 DX5_take (i := 11) rfl rfl) rfl (lv_at hl 0 rfl) ?_
    refine lv_dup hx hb (dkP dF_89 DX5_take (i := 12) rfl rfl) rfl ?_
    refine z_gi C0 hw 186 6 (fk_of shc_186 rfl) fl_X5_55 (dk2 dF_180 DX5_take (i := 13) rfl rfl rfl) ?_
    refine z_top (y := (nI n1)) en1 ?_
    refine lv_iconst (v := 1) hx hb (dkP dF_4 DX5_take (i := 14) rfl rfl) (by decide) ?_
    refine lv_iadd hx hb (dkP dF_96 DX5_take (i := 15) rfl rfl) ?_
    refine z_top (y := nI (n1 + 1)) (by simp only [fa_lit, nI_add, pk_mul]) ?_
    refine z_pi C0 hw 186 6 (fk_of shc_186 rfl) fp_X5_55 (dk2 dF_181 DX5_take (i := 16) rfl rfl rfl) (fun H locs hw => ?_)
    have hlt5 : n1 < tk := TK.lt hK (by omega) ev3 (fun h0 => by first | exact absurd h0 (by decide) | (have h8 := congrArg Int32.toInt h0; simp only [tl32 0 (by decide)] at h8; omega))
    have hT5 : TC (sI σ 186 6 (nI (n1 + 1))) := TC.w hT (tcw_10_6 tcl_186 (by (try simp only [lg_cmp_lt, lg_cmp_le, lg_cmp_gt, lg_cmp_ge, lg_cmp_eq] at c4); (try simp (disch := omega) only [ta_lt, ta_le, ta_eq, tb_lt, tb_le, tb_eq, tw, tnI, tsub1, tsv, tsb32, tn32 1 (by decide), tnj 1 (by decide), tl32 0 (by decide), tl64 0 (by decide), tl32 1 (by decide), tl64 1 (by decide)] at c4); (try simp (disch := omega) only [ta_lt, ta_le, ta_eq, tb_lt, tb_le, tb_eq, tw, tnI, tsub1, tsv, tsb32, tn32 1 (by decide), tnj 1 (by decide), tl32 0 (by decide), tl64 0 (by decide), tl32 1 (by decide), tl64 1 (by decide)]); omega))
    have hF5 : frC (fun x y => (x = 186 ∧ y = 6) ∨ (x = 186 ∧ y = 7) ∨ (x = 186 ∧ y = 8)) σ (sI σ 186 6 (nI (n1 + 1))) := frC.w frC.refl (by show (186 = 186 ∧ 6 = 6) ∨ (186 = 186 ∧ 6 = 7) ∨ (186 = 186 ∧ 6 = 8); exact Or.inl (⟨rfl, rfl⟩))
    refine lv_iconst (v := 1) hx hb (dkP dF_4 DX5_take (i := 17) rfl rfl) (by decide) ?_
    exact z_zret C0 hr hlk (by decide) hw (⟨(Or.inl ⟨rfl, ⟨n1, by omega, en1, (ev3.trans (Int32.toInt_inj.1 (by omega)))⟩⟩), (by rw [rd_s, tnI _ (by omega)]; omega), hT5, hF5⟩) (dkP dF_172 DX5_take (i := 18) rfl rfl)
  · (try simp (disch := omega) only [ta_lt, ta_le, ta_eq, tnI] at c4)
    refine lv_aload_n hx hb (dkP dF_42 DX5_take (i := 7) rfl rfl) rfl (lv_at hl 0 rfl) ?_
    refine lv_iconst (v := 1) hx hb (dkP dF_4 DX5_take (i := 8) rfl rfl) (by decide) ?_
    refine zk_I hw (zr_V (As := [.int 1]) (rest := []) C0 (c_X5_fail l G kc ad σ 1 hT _) cv_X5_fail lk_X5_70 (zp_V C0 hRo hw 186 shc_186 rfl rfl) rfl hl.1 rfl ⟨by decide, by decide⟩ (Nat.le_of_ble_eq_true rfl) (dk2 dF_182 DX5_take (i := 9) rfl rfl rfl) ⟨Nat.le_refl _, Nat.le_refl _⟩) (fun r6 s6 H locs hp hw => ?_)
    obtain ⟨f6_0, hT6, hG6⟩ := hp
    have hF6 : frC (fun x y => (x = 186 ∧ y = 6) ∨ (x = 186 ∧ y = 7) ∨ (x = 186 ∧ y = 8)) σ s6 := frC.t frC.refl hG6 (fun x y h => by have h : (x = 186 ∧ y = 7) ∨ (x = 186 ∧ y = 8) := h; show (x = 186 ∧ y = 6) ∨ (x = 186 ∧ y = 7) ∨ (x = 186 ∧ y = 8); rcases h with h | h; (· exact Or.inr (Or.inl h)); (· exact Or.inr (Or.inr (h))))
    obtain ⟨rfl, -⟩ := f6_0.resolve_left (fun h => h.2)
    exact z_zret C0 hr hlk (by decide) hw (⟨(Or.inr ⟨rfl, trivial⟩), (by rw [((hG6.1 186 6 (by show ¬ ((186 = 186 ∧ 6 = 7) ∨ (186 = 186 ∧ 6 = 8)); omega)).trans en1), tnI _ (by omega)]; omega), hT6, hF6⟩) (dkP dF_172 DX5_take (i := 10) rfl rfl)
set_option maxRecDepth 100000 in
set_option maxHeartbeats 8000000 in
theorem c_X5_takeNumber (l : Launch) (G : va_G) (kc : KC) (ad : Nat → Nat) (σ : Sg)  {tk : Nat} (hK : TK σ tk) (hA : (σ.1 186 6).toInt ≤ (tk : Int)) (hT : TC σ) : MI l G kc yX5_takeNumber cX5_takeNumber 1 (some .int) 1 21 [.ref (ad 186)] shC ad σ (fun r σ1 => ((σ1.1 186 6).toInt ≤ (tk : Int)) ∧ TC σ1 ∧ frC (fun x y => (x = 186 ∧ y = 6) ∨ (x = 186 ∧ y = 7) ∨ (x = 186 ∧ y = 8)) σ σ1) := by
  intro sz
  refine z_body (y := yX5_takeNumber) (n := 1) (av := [.ref (ad 186)]) (Qc := fun A => va_Qi (fun r σ1 => ((σ1.1 186 6).toInt ≤ (tk : Int)) ∧ TC σ1 ∧ frC (fun x y => (x = 186 ∧ y = 6) ∨ (x = 186 ∧ y = 7) ∨ (x = 186 ∧ y = 8)) σ σ1) (PoC G kc shC ad A) A) (plainFor_of_name (by decide)) (Nat.le_of_ble_eq_true rfl) (fun pr e s m below meth c A C0 hr hlk hnm hw hRo ls hl => ?_) sz
  have hx := C0.1
  have hb := C0.2.1
  have hown := C0.2.2.2.1
  have hts := C0.2.2.2.2.1
  have hl : lv_has ls 1 [(0, .ref (ad 186))] := hl
  have htk6 := hK.1
  refine lv_aload_n hx hb (dkP dF_42 DX5_takeNumber (i := 0) rfl rfl) rfl (lv_at hl 0 rfl) ?_
  refine z_gr C0 hw 186 2 188 (fk_of shc_186 rfl) fl_X5_15 (dk2 dF_180 DX5_takeNumber (i := 1) rfl rfl rfl) ?_
  refine lv_aload_n hx hb (dkP dF_42 DX5_takeNumber (i := 2) rfl rfl) rfl (lv_at hl 0 rfl) ?_
  refine z_gi C0 hw 186 6 (fk_of shc_186 rfl) fl_X5_55 (dk2 dF_180 DX5_takeNumber (i := 3) rfl rfl rfl) ?_
  obtain ⟨n1, hn1, en1⟩ := rngN (x := σ.1 186 6) (h := 600) (tcr_10_6 hT tcl_186)
  refine z_top (y := nI n1) en1 ?_
  have hat2 : n1 ≤ tk := by have h9 : (σ.1 186 6).toInt ≤ (tk : Int) := hA; rw [en1, tnI _ (by omega)] at h9; omega
  refine z_ialdN (n := 601) C0 hw 188 n1 (ak_of shc_188) (by omega) (by decide) (dkP dF_46 DX5_takeNumber (i := 4) rfl rfl) ?_
  obtain ⟨v3, ev3⟩ : ∃ y : Int32, σ.1 188 n1 = y := ⟨_, rfl⟩
  refine z_top (y := v3) ev3 ?_
  refine lv_iconst (v := 2) hx hb (dkP dF_5 DX5_takeNumber (i := 5) rfl rfl) (by decide) ?_
  refine lv_icmp_ne (tgt := 28) hx hb (dkS dF_160 DX5_takeNumber (i := 6) rfl rfl rfl) (by decide) (fun c4 => ?_) (fun c4 => ?_)
  · (try simp (disch := omega) only [ta_lt, ta_le, ta_eq, tnI, tl32 2 (by decide)] at c4)
    refine lv_aload_n hx hb (dkP dF_42 DX5_takeNumber (i := 14) rfl rfl) rfl (lv_at hl 0 rfl) ?_
    refine lv_aload_n hx hb (dkP dF_42 DX5_takeNumber (i := 15) rfl rfl) rfl (lv_at hl 0 rfl) ?_
    refine z_gr C0 hw 186 2 188 (fk_of shc_186 rfl) fl_X5_15 (dk2 dF_180 DX5_takeNumber (i := 16) rfl rfl rfl) ?_
    refine lv_aload_n hx hb (dkP dF_42 DX5_takeNumber (i := 17) rfl rfl) rfl (lv_at hl 0 rfl) ?_
    refine z_gi C0 hw 186 6 (fk_of shc_186 rfl) fl_X5_55 (dk2 dF_180 DX5_takeNumber (i := 18) rfl rfl rfl) ?_
    refine z_top (y := (nI n1)) en1 ?_
    refine z_ialdN (n := 601) C0 hw 188 n1 (ak_of shc_188) (by omega) (by decide) (dkP dF_46 DX5_takeNumber (i := 19) rfl rfl) ?_
    refine z_top (y := v3) ev3 ?_
    refine lv_iconst (v := 2) hx hb (dkP dF_5 DX5_takeNumber (i := 20) rfl rfl) (by decide) ?_
    refine lv_icmp_ne (tgt := 46) hx hb (dkS dF_160 DX5_takeNumber (i := 21) rfl rfl rfl) (by decide) (fun c5 => ?_) (fun c5 => False.elim (by (try simp (disch := omega) only [ta_lt, ta_le, ta_eq, tnI, tl32 2 (by decide)] at c5); omega))
    (try simp (disch := omega) only [ta_lt, ta_le, ta_eq, tnI, tl32 2 (by decide)] at c5)
    refine lv_iconst (v := 1) hx hb (dkP dF_4 DX5_takeNumber (i := 24) rfl rfl) (by decide) ?_
    refine zk_I hw (zr_V (As := [.int 1]) (rest := []) C0 (c_X5_fail l G kc ad σ 1 hT _) cv_X5_fail lk_X5_70 (zp_V C0 hRo hw 186 shc_186 rfl rfl) rfl hl.1 rfl ⟨by decide, by decide⟩ (Nat.le_of_ble_eq_true rfl) (dk2 dF_182 DX5_takeNumber (i := 25) rfl rfl rfl) ⟨Nat.le_refl _, Nat.le_refl _⟩) (fun r6 s6 H locs hp hw => ?_)
    obtain ⟨f6_0, hT6, hG6⟩ := hp
    have hF6 : frC (fun x y => (x = 186 ∧ y = 6) ∨ (x = 186 ∧ y = 7) ∨ (x = 186 ∧ y = 8)) σ s6 := frC.t frC.refl hG6 (fun x y h => by have h : (x = 186 ∧ y = 7) ∨ (x = 186 ∧ y = 8) := h; show (x = 186 ∧ y = 6) ∨ (x = 186 ∧ y = 7) ∨ (x = 186 ∧ y = 8); rcases h with h | h; (· exact Or.inr (Or.inl h)); (· exact Or.inr (Or.inr (h))))
    obtain ⟨rfl, -⟩ := f6_0.resolve_left (fun h => h.2)
    refine lv_pop hx hb (dkP dF_87 DX5_takeNumber (i := 26) rfl rfl) rfl ?_
    refine lv_iconst (v := (-1)) hx hb (dkP dF_2 DX5_takeNumber (i := 27) rfl rfl) (by decide) ?_
    exact z_iret C0 hr hlk hw (⟨(by rw [((hG6.1 186 6 (by show ¬ ((186 = 186 ∧ 6 = 7) ∨ (186 = 186 ∧ 6 = 8)); omega)).trans en1), tnI _ (by omega)]; omega), hT6, hF6⟩) (dkP dF_172 DX5_takeNumber (i := 28) rfl rfl)
  · (try simp (disch := omega) only [ta_lt, ta_le, ta_eq, tnI, tl32 2 (by decide)] at c4)
    refine lv_aload_n hx hb (dkP dF_42 DX5_takeNumber (i := 7) rfl rfl) rfl (lv_at hl 0 rfl) ?_
    refine z_gr C0 hw 186 3 189 (fk_of shc_186 rfl) fl_X5_19 (dk2 dF_180 DX5_takeNumber (i := 8) rfl rfl rfl) ?_
    refine lv_aload_n hx hb (dkP dF_42 DX5_takeNumber (i := 9) rfl rfl) rfl (lv_at hl 0 rfl) ?_
    refine z_gi C0 hw 186 6 (fk_of shc_186 rfl) fl_X5_55 (dk2 dF_180 DX5_takeNumber (i := 10) rfl rfl rfl) ?_
    refine z_top (y := (nI n1)) en1 ?_
    refine z_ialdN (n := 601) C0 hw 189 n1 (ak_of shc_189) (by omega) (by decide) (dkP dF_46 DX5_takeNumber (i := 11) rfl rfl) ?_
    obtain ⟨v7, ev7⟩ : ∃ y : Int32, σ.1 189 n1 = y := ⟨_, rfl⟩
    refine z_top (y := v7) ev7 ?_
    refine lv_sipush (v := 9999) hx hb (dkS dF_17 DX5_takeNumber (i := 12) rfl rfl rfl) (by decide) ?_
    refine lv_icmp_le (tgt := 53) hx hb (dkS dF_164 DX5_takeNumber (i := 13) rfl rfl rfl) (by decide) (fun c8 => ?_) (fun c8 => ?_)
    · (try simp (disch := omega) only [ta_lt, ta_le, ta_eq, tnI, tl32 9999 (by decide)] at c8)
      refine lv_aload_n hx hb (dkP dF_42 DX5_takeNumber (i := 29) rfl rfl) rfl (lv_at hl 0 rfl) ?_
      refine lv_dup hx hb (dkP dF_89 DX5_takeNumber (i := 30) rfl rfl) rfl ?_
      refine z_gi C0 hw 186 6 (fk_of shc_186 rfl) fl_X5_55 (dk2 dF_180 DX5_takeNumber (i := 31) rfl rfl rfl) ?_
      refine z_top (y := (nI n1)) en1 ?_
      refine lv_iconst (v := 1) hx hb (dkP dF_4 DX5_takeNumber (i := 32) rfl rfl) (by decide) ?_
      refine lv_iadd hx hb (dkP dF_96 DX5_takeNumber (i := 33) rfl rfl) ?_
      refine z_top (y := nI (n1 + 1)) (by simp only [fa_lit, nI_add, pk_mul]) ?_
      refine z_pi C0 hw 186 6 (fk_of shc_186 rfl) fp_X5_55 (dk2 dF_181 DX5_takeNumber (i := 34) rfl rfl rfl) (fun H locs hw => ?_)
      have hlt9 : n1 < tk := TK.lt hK (by omega) ev3 (fun h0 => by first | exact absurd h0 (by decide) | (have h8 := congrArg Int32.toInt h0; simp only [tl32 0 (by decide)] at h8; omega))
      have hT9 : TC (sI σ 186 6 (nI (n1 + 1))) := TC.w hT (tcw_10_6 tcl_186 (by (try simp only [lg_cmp_lt, lg_cmp_le, lg_cmp_gt, lg_cmp_ge, lg_cmp_eq] at c4); (try simp (disch := omega) only [ta_lt, ta_le, ta_eq, tb_lt, tb_le, tb_eq, tw, tnI, tsub1, tsv, tsb32, tn32 1 (by decide), tnj 1 (by decide), tl32 0 (by decide), tl64 0 (by decide), tl32 1 (by decide), tl64 1 (by decide), tl32 2 (by decide), tl64 2 (by decide), tl32 9999 (by decide), tl64 9999 (by decide)] at c4); (try simp only [lg_cmp_lt, lg_cmp_le, lg_cmp_gt, lg_cmp_ge, lg_cmp_eq] at c8); (try simp (disch := omega) only [ta_lt, ta_le, ta_eq, tb_lt, tb_le, tb_eq, tw, tnI, tsub1, tsv, tsb32, tn32 1 (by decide), tnj 1 (by decide), tl32 0 (by decide), tl64 0 (by decide), tl32 1 (by decide), tl64 1 (by decide), tl32 2 (by decide), tl64 2 (by decide), tl32 9999 (by decide), tl64 9999 (by decide)] at c8); (try simp (disch := omega) only [ta_lt, ta_le, ta_eq, tb_lt, tb_le, tb_eq, tw, tnI, tsub1, tsv, tsb32, tn32 1 (by decide), tnj 1 (by decide), tl32 0 (by decide), tl64 0 (by decide), tl32 1 (by decide), tl64 1 (by decide), tl32 2 (by decide), tl64 2 (by decide), tl32 9999 (by decide), tl64 9999 (by decide)]); omega))
      have hF9 : frC (fun x y => (x = 186 ∧ y = 6) ∨ (x = 186 ∧ y = 7) ∨ (x = 186 ∧ y = 8)) σ (sI σ 186 6 (nI (n1 + 1))) := frC.w frC.refl (by show (186 = 186 ∧ 6 = 6) ∨ (186 = 186 ∧ 6 = 7) ∨ (186 = 186 ∧ 6 = 8); exact Or.inl (⟨rfl, rfl⟩))
      refine lv_aload_n hx hb (dkP dF_42 DX5_takeNumber (i := 35) rfl rfl) rfl (lv_at hl 0 rfl) ?_
      refine z_gr C0 hw 186 3 189 (fk_of shc_186 rfl) fl_X5_19 (dk2 dF_180 DX5_takeNumber (i := 36) rfl rfl rfl) ?_
      refine lv_aload_n hx hb (dkP dF_42 DX5_takeNumber (i := 37) rfl rfl) rfl (lv_at hl 0 rfl) ?_
      refine z_gi C0 hw 186 6 (fk_of shc_186 rfl) fl_X5_55 (dk2 dF_180 DX5_takeNumber (i := 38) rfl rfl rfl) ?_
      refine z_top (y := (nI (n1 + 1))) rd_s ?_
      refine lv_iconst (v := 1) hx hb (dkP dF_4 DX5_takeNumber (i := 39) rfl rfl) (by decide) ?_
      refine lv_isub hx hb (dkP dF_100 DX5_takeNumber (i := 40) rfl rfl) ?_
      refine z_top (y := nI ((n1 + 1) - 1)) (by simp only [fa_lit]; exact nI_sub (by omega)) ?_
      refine z_ialdN (n := 601) C0 hw 189 ((n1 + 1) - 1) (ak_of shc_189) (by omega) (by decide) (dkP dF_46 DX5_takeNumber (i := 41) rfl rfl) ?_
      obtain ⟨v10, ev10⟩ : ∃ y : Int32, (sI σ 186 6 (nI (n1 + 1))).1 189 ((n1 + 1) - 1) = y := ⟨_, rfl⟩
      refine z_top (y := v10) ev10 ?_
      exact z_iret C0 hr hlk hw (⟨(by rw [rd_s, tnI _ (by omega)]; omega), hT9, hF9⟩) (dkP dF_172 DX5_takeNumber (i := 42) rfl rfl)
    · (try simp (disch := omega) only [ta_lt, ta_le, ta_eq, tnI, tl32 9999 (by decide)] at c8)
      refine lv_aload_n hx hb (dkP dF_42 DX5_takeNumber (i := 14) rfl rfl) rfl (lv_at hl 0 rfl) ?_
      refine lv_aload_n hx hb (dkP dF_42 DX5_takeNumber (i := 15) rfl rfl) rfl (lv_at hl 0 rfl) ?_
      refine z_gr C0 hw 186 2 188 (fk_of shc_186 rfl) fl_X5_15 (dk2 dF_180 DX5_takeNumber (i := 16) rfl rfl rfl) ?_
      refine lv_aload_n hx hb (dkP dF_42 DX5_takeNumber (i := 17) rfl rfl) rfl (lv_at hl 0 rfl) ?_
      refine z_gi C0 hw 186 6 (fk_of shc_186 rfl) fl_X5_55 (dk2 dF_180 DX5_takeNumber (i := 18) rfl rfl rfl) ?_
      refine z_top (y := (nI n1)) en1 ?_
      refine z_ialdN (n := 601) C0 hw 188 n1 (ak_of shc_188) (by omega) (by decide) (dkP dF_46 DX5_takeNumber (i := 19) rfl rfl) ?_
      refine z_top (y := v3) ev3 ?_
      refine lv_iconst (v := 2) hx hb (dkP dF_5 DX5_takeNumber (i := 20) rfl rfl) (by decide) ?_
      refine lv_icmp_ne (tgt := 46) hx hb (dkS dF_160 DX5_takeNumber (i := 21) rfl rfl rfl) (by decide) (fun c11 => False.elim (by (try simp (disch := omega) only [ta_lt, ta_le, ta_eq, tnI, tl32 2 (by decide)] at c11); omega)) (fun c11 => ?_)
      (try simp (disch := omega) only [ta_lt, ta_le, ta_eq, tnI, tl32 2 (by decide)] at c11)
      refine lv_iconst (v := 2) hx hb (dkP dF_5 DX5_takeNumber (i := 22) rfl rfl) (by decide) ?_
      refine lv_goto (tgt := 47) hx hb (dkS dF_167 DX5_takeNumber (i := 23) rfl rfl rfl) (by decide) ?_
      refine zk_I hw (zr_V (As := [.int 2]) (rest := []) C0 (c_X5_fail l G kc ad σ 2 hT _) cv_X5_fail lk_X5_70 (zp_V C0 hRo hw 186 shc_186 rfl rfl) rfl hl.1 rfl ⟨by decide, by decide⟩ (Nat.le_of_ble_eq_true rfl) (dk2 dF_182 DX5_takeNumber (i := 25) rfl rfl rfl) ⟨Nat.le_refl _, Nat.le_refl _⟩) (fun r12 s12 H locs hp hw => ?_)
      obtain ⟨f12_0, hT12, hG12⟩ := hp
      have hF12 : frC (fun x y => (x = 186 ∧ y = 6) ∨ (x = 186 ∧ y = 7) ∨ (x = 186 ∧ y = 8)) σ s12 := frC.t frC.refl hG12 (fun x y h => by have h : (x = 186 ∧ y = 7) ∨ (x = 186 ∧ y = 8) := h; show (x = 186 ∧ y = 6) ∨ (x = 186 ∧ y = 7) ∨ (x = 186 ∧ y = 8); rcases h with h | h; (· exact Or.inr (Or.inl h)); (· exact Or.inr (Or.inr (h))))
      obtain ⟨rfl, -⟩ := f12_0.resolve_left (fun h => h.2)
      refine lv_pop hx hb (dkP dF_87 DX5_takeNumber (i := 26) rfl rfl) rfl ?_
      refine lv_iconst (v := (-1)) hx hb (dkP dF_2 DX5_takeNumber (i := 27) rfl rfl) (by decide) ?_
      exact z_iret C0 hr hlk hw (⟨(by rw [((hG12.1 186 6 (by show ¬ ((186 = 186 ∧ 6 = 7) ∨ (186 = 186 ∧ 6 = 8)); omega)).trans en1), tnI _ (by omega)]; omega), hT12, hF12⟩) (dkP dF_172 DX5_takeNumber (i := 28) rfl rfl)
set_option maxRecDepth 100000 in
set_option maxHeartbeats 8000000 in
theorem c_X5_takeOp (l : Launch) (G : va_G) (kc : KC) (ad : Nat → Nat) (σ : Sg)  {tk : Nat} (hK : TK σ tk) (hA : (σ.1 186 6).toInt ≤ (tk : Int)) (hT : TC σ) : MI l G kc yX5_takeOp cX5_takeOp 3 (some .int) 1 21 [.ref (ad 186)] shC ad σ (fun r σ1 => ((σ1.1 186 6).toInt ≤ (tk : Int)) ∧ TC σ1 ∧ frC (fun x y => (x = 186 ∧ y = 6) ∨ (x = 186 ∧ y = 7) ∨ (x = 186 ∧ y = 8)) σ σ1) := by
  intro sz
  refine z_body (y := yX5_takeOp) (n := 3) (av := [.ref (ad 186)]) (Qc := fun A => va_Qi (fun r σ1 => ((σ1.1 186 6).toInt ≤ (tk : Int)) ∧ TC σ1 ∧ frC (fun x y => (x = 186 ∧ y = 6) ∨ (x = 186 ∧ y = 7) ∨ (x = 186 ∧ y = 8)) σ σ1) (PoC G kc shC ad A) A) (plainFor_of_name (by decide)) (Nat.le_of_ble_eq_true rfl) (fun pr e s m below meth c A C0 hr hlk hnm hw hRo ls hl => ?_) sz
  have hx := C0.1
  have hb := C0.2.1
  have hown := C0.2.2.2.1
  have hts := C0.2.2.2.2.1
  have hl : lv_has ls 3 [(0, .ref (ad 186))] := hl
  have htk6 := hK.1
  refine lv_aload_n hx hb (dkP dF_42 DX5_takeOp (i := 0) rfl rfl) rfl (lv_at hl 0 rfl) ?_
  refine z_gr C0 hw 186 2 188 (fk_of shc_186 rfl) fl_X5_15 (dk2 dF_180 DX5_takeOp (i := 1) rfl rfl rfl) ?_
  refine lv_aload_n hx hb (dkP dF_42 DX5_takeOp (i := 2) rfl rfl) rfl (lv_at hl 0 rfl) ?_
  refine z_gi C0 hw 186 6 (fk_of shc_186 rfl) fl_X5_55 (dk2 dF_180 DX5_takeOp (i := 3) rfl rfl rfl) ?_
  obtain ⟨n1, hn1, en1⟩ := rngN (x := σ.1 186 6) (h := 600) (tcr_10_6 hT tcl_186)
  refine z_top (y := nI n1) en1 ?_
  have hat2 : n1 ≤ tk := by have h9 : (σ.1 186 6).toInt ≤ (tk : Int) := hA; rw [en1, tnI _ (by omega)] at h9; omega
  refine z_ialdN (n := 601) C0 hw 188 n1 (ak_of shc_188) (by omega) (by decide) (dkP dF_46 DX5_takeOp (i := 4) rfl rfl) ?_
  obtain ⟨v3, ev3⟩ : ∃ y : Int32, σ.1 188 n1 = y := ⟨_, rfl⟩
  refine z_top (y := v3) ev3 ?_
  refine lv_istore_n (lv' := [(1, .int v3), (0, .ref (ad 186))]) hx hb (dkP dF_60 DX5_takeOp (i := 5) rfl rfl) rfl hl (by decide) rfl (fun ls hl => ?_)
  refine lv_iload_n hx hb (dkP dF_27 DX5_takeOp (i := 6) rfl rfl) rfl (lv_at hl 0 rfl) ?_
  refine lv_bipush (v := 60) hx hb (dks dF_16 DX5_takeOp (i := 7) rfl rfl rfl) (by decide) ?_
  refine lv_icmp_ne (tgt := 20) hx hb (dkS dF_160 DX5_takeOp (i := 8) rfl rfl rfl) (by decide) (fun c4 => ?_) (fun c4 => ?_)
  · (try simp (disch := omega) only [ta_lt, ta_le, ta_eq, tnI, tl32 60 (by decide)] at c4)
    refine lv_iload_n hx hb (dkP dF_27 DX5_takeOp (i := 11) rfl rfl) rfl (lv_at hl 0 rfl) ?_
    refine lv_bipush (v := 62) hx hb (dks dF_16 DX5_takeOp (i := 12) rfl rfl rfl) (by decide) ?_
    refine lv_icmp_ne (tgt := 30) hx hb (dkS dF_160 DX5_takeOp (i := 13) rfl rfl rfl) (by decide) (fun c5 => ?_) (fun c5 => ?_)
    · (try simp (disch := omega) only [ta_lt, ta_le, ta_eq, tnI, tl32 62 (by decide)] at c5)
      refine lv_iload_n hx hb (dkP dF_27 DX5_takeOp (i := 16) rfl rfl) rfl (lv_at hl 0 rfl) ?_
      refine lv_bipush (v := 61) hx hb (dks dF_16 DX5_takeOp (i := 17) rfl rfl rfl) (by decide) ?_
      refine lv_icmp_ne (tgt := 40) hx hb (dkS dF_160 DX5_takeOp (i := 18) rfl rfl rfl) (by decide) (fun c6 => ?_) (fun c6 => ?_)
      · (try simp (disch := omega) only [ta_lt, ta_le, ta_eq, tnI, tl32 61 (by decide)] at c6)
        refine lv_iconst (v := (-1)) hx hb (dkP dF_2 DX5_takeOp (i := 21) rfl rfl) (by decide) ?_
        refine lv_istore_n (lv' := [(2, .int (-1)), (1, .int v3), (0, .ref (ad 186))]) hx hb (dkP dF_61 DX5_takeOp (i := 22) rfl rfl) rfl hl (by decide) rfl (fun ls hl => ?_)
        refine lv_iload_n hx hb (dkP dF_28 DX5_takeOp (i := 23) rfl rfl) rfl (lv_at hl 0 rfl) ?_
        refine lv_iconst (v := (-1)) hx hb (dkP dF_2 DX5_takeOp (i := 24) rfl rfl) (by decide) ?_
        refine lv_icmp_ne (tgt := 56) hx hb (dkS dF_160 DX5_takeOp (i := 25) rfl rfl rfl) (by decide) (fun h => absurd h (by decide)) (fun _ => ?_)
        refine lv_aload_n hx hb (dkP dF_42 DX5_takeOp (i := 26) rfl rfl) rfl (lv_at hl 2 rfl) ?_
        refine lv_iconst (v := 1) hx hb (dkP dF_4 DX5_takeOp (i := 27) rfl rfl) (by decide) ?_
        refine zk_I hw (zr_V (As := [.int 1]) (rest := []) C0 (c_X5_fail l G kc ad σ 1 hT _) cv_X5_fail lk_X5_70 (zp_V C0 hRo hw 186 shc_186 rfl rfl) rfl hl.1 rfl ⟨by decide, by decide⟩ (Nat.le_of_ble_eq_true rfl) (dk2 dF_182 DX5_takeOp (i := 28) rfl rfl rfl) ⟨Nat.le_refl _, Nat.le_refl _⟩) (fun r7 s7 H locs hp hw => ?_)
        obtain ⟨f7_0, hT7, hG7⟩ := hp
        have hF7 : frC (fun x y => (x = 186 ∧ y = 6) ∨ (x = 186 ∧ y = 7) ∨ (x = 186 ∧ y = 8)) σ s7 := frC.t frC.refl hG7 (fun x y h => by have h : (x = 186 ∧ y = 7) ∨ (x = 186 ∧ y = 8) := h; show (x = 186 ∧ y = 6) ∨ (x = 186 ∧ y = 7) ∨ (x = 186 ∧ y = 8); rcases h with h | h; (· exact Or.inr (Or.inl h)); (· exact Or.inr (Or.inr (h))))
        obtain ⟨rfl, -⟩ := f7_0.resolve_left (fun h => h.2)
        refine lv_pop hx hb (dkP dF_87 DX5_takeOp (i := 29) rfl rfl) rfl ?_
        refine lv_goto (tgt := 66) hx hb (dkS dF_167 DX5_takeOp (i := 30) rfl rfl rfl) (by decide) ?_
        refine lv_iload_n hx hb (dkP dF_28 DX5_takeOp (i := 37) rfl rfl) rfl (lv_at hl 0 rfl) ?_
        exact z_iret C0 hr hlk hw (⟨(by rw [((hG7.1 186 6 (by show ¬ ((186 = 186 ∧ 6 = 7) ∨ (186 = 186 ∧ 6 = 8)); omega)).trans en1), tnI _ (by omega)]; omega), hT7, hF7⟩) (dkP dF_172 DX5_takeOp (i := 38) rfl rfl)
      · (try simp (disch := omega) only [ta_lt, ta_le, ta_eq, tnI, tl32 61 (by decide)] at c6)
        refine lv_iconst (v := 2) hx hb (dkP dF_5 DX5_takeOp (i := 19) rfl rfl) (by decide) ?_
        refine lv_goto (tgt := 41) hx hb (dkS dF_167 DX5_takeOp (i := 20) rfl rfl rfl) (by decide) ?_
        refine lv_istore_n (lv' := [(2, .int 2), (1, .int v3), (0, .ref (ad 186))]) hx hb (dkP dF_61 DX5_takeOp (i := 22) rfl rfl) rfl hl (by decide) rfl (fun ls hl => ?_)
        refine lv_iload_n hx hb (dkP dF_28 DX5_takeOp (i := 23) rfl rfl) rfl (lv_at hl 0 rfl) ?_
        refine lv_iconst (v := (-1)) hx hb (dkP dF_2 DX5_takeOp (i := 24) rfl rfl) (by decide) ?_
        refine lv_icmp_ne (tgt := 56) hx hb (dkS dF_160 DX5_takeOp (i := 25) rfl rfl rfl) (by decide) (fun _ => ?_) (fun h => absurd h (by decide))
        refine lv_aload_n hx hb (dkP dF_42 DX5_takeOp (i := 31) rfl rfl) rfl (lv_at hl 2 rfl) ?_
        refine lv_dup hx hb (dkP dF_89 DX5_takeOp (i := 32) rfl rfl) rfl ?_
        refine z_gi C0 hw 186 6 (fk_of shc_186 rfl) fl_X5_55 (dk2 dF_180 DX5_takeOp (i := 33) rfl rfl rfl) ?_
        refine z_top (y := (nI n1)) en1 ?_
        refine lv_iconst (v := 1) hx hb (dkP dF_4 DX5_takeOp (i := 34) rfl rfl) (by decide) ?_
        refine lv_iadd hx hb (dkP dF_96 DX5_takeOp (i := 35) rfl rfl) ?_
        refine z_top (y := nI (n1 + 1)) (by simp only [fa_lit, nI_add, pk_mul]) ?_
        refine z_pi C0 hw 186 6 (fk_of shc_186 rfl) fp_X5_55 (dk2 dF_181 DX5_takeOp (i := 36) rfl rfl rfl) (fun H locs hw => ?_)
        have hlt8 : n1 < tk := TK.lt hK (by omega) ev3 (fun h0 => by first | exact absurd h0 (by decide) | (have h8 := congrArg Int32.toInt h0; simp only [tl32 0 (by decide)] at h8; omega))
        have hT8 : TC (sI σ 186 6 (nI (n1 + 1))) := TC.w hT (tcw_10_6 tcl_186 (by (try simp only [lg_cmp_lt, lg_cmp_le, lg_cmp_gt, lg_cmp_ge, lg_cmp_eq] at c4); (try simp (disch := omega) only [ta_lt, ta_le, ta_eq, tb_lt, tb_le, tb_eq, tw, tnI, tsub1, tsv, tsb32, tn32 1 (by decide), tnj 1 (by decide), tl32 0 (by decide), tl64 0 (by decide), tl32 1 (by decide), tl64 1 (by decide), tl32 2 (by decide), tl64 2 (by decide), tl32 60 (by decide), tl64 60 (by decide), tl32 61 (by decide), tl64 61 (by decide), tl32 62 (by decide), tl64 62 (by decide)] at c4); (try simp only [lg_cmp_lt, lg_cmp_le, lg_cmp_gt, lg_cmp_ge, lg_cmp_eq] at c5); (try simp (disch := omega) only [ta_lt, ta_le, ta_eq, tb_lt, tb_le, tb_eq, tw, tnI, tsub1, tsv, tsb32, tn32 1 (by decide), tnj 1 (by decide), tl32 0 (by decide), tl64 0 (by decide), tl32 1 (by decide), tl64 1 (by decide), tl32 2 (by decide), tl64 2 (by decide), tl32 60 (by decide), tl64 60 (by decide), tl32 61 (by decide), tl64 61 (by decide), tl32 62 (by decide), tl64 62 (by decide)] at c5); (try simp only [lg_cmp_lt, lg_cmp_le, lg_cmp_gt, lg_cmp_ge, lg_cmp_eq] at c6); (try simp (disch := omega) only [ta_lt, ta_le, ta_eq, tb_lt, tb_le, tb_eq, tw, tnI, tsub1, tsv, tsb32, tn32 1 (by decide), tnj 1 (by decide), tl32 0 (by decide), tl64 0 (by decide), tl32 1 (by decide), tl64 1 (by decide), tl32 2 (by decide), tl64 2 (by decide), tl32 60 (by decide), tl64 60 (by decide), tl32 61 (by decide), tl64 61 (by decide), tl32 62 (by decide), tl64 62 (by decide)] at c6); (try simp (disch := omega) only [ta_lt, ta_le, ta_eq, tb_lt, tb_le, tb_eq, tw, tnI, tsub1, tsv, tsb32, tn32 1 (by decide), tnj 1 (by decide), tl32 0 (by decide), tl64 0 (by decide), tl32 1 (by decide), tl64 1 (by decide), tl32 2 (by decide), tl64 2 (by decide), tl32 60 (by decide), tl64 60 (by decide), tl32 61 (by decide), tl64 61 (by decide), tl32 62 (by decide), tl64 62 (by decide)]); omega))
        have hF8 : frC (fun x y => (x = 186 ∧ y = 6) ∨ (x = 186 ∧ y = 7) ∨ (x = 186 ∧ y = 8)) σ (sI σ 186 6 (nI (n1 + 1))) := frC.w frC.refl (by show (186 = 186 ∧ 6 = 6) ∨ (186 = 186 ∧ 6 = 7) ∨ (186 = 186 ∧ 6 = 8); exact Or.inl (⟨rfl, rfl⟩))
        refine lv_iload_n hx hb (dkP dF_28 DX5_takeOp (i := 37) rfl rfl) rfl (lv_at hl 0 rfl) ?_
        exact z_iret C0 hr hlk hw (⟨(by rw [rd_s, tnI _ (by omega)]; omega), hT8, hF8⟩) (dkP dF_172 DX5_takeOp (i := 38) rfl rfl)
    · (try simp (disch := omega) only [ta_lt, ta_le, ta_eq, tnI, tl32 62 (by decide)] at c5)
      refine lv_iconst (v := 1) hx hb (dkP dF_4 DX5_takeOp (i := 14) rfl rfl) (by decide) ?_
      refine lv_goto (tgt := 41) hx hb (dkS dF_167 DX5_takeOp (i := 15) rfl rfl rfl) (by decide) ?_
      refine lv_istore_n (lv' := [(2, .int 1), (1, .int v3), (0, .ref (ad 186))]) hx hb (dkP dF_61 DX5_takeOp (i := 22) rfl rfl) rfl hl (by decide) rfl (fun ls hl => ?_)
      refine lv_iload_n hx hb (dkP dF_28 DX5_takeOp (i := 23) rfl rfl) rfl (lv_at hl 0 rfl) ?_
      refine lv_iconst (v := (-1)) hx hb (dkP dF_2 DX5_takeOp (i := 24) rfl rfl) (by decide) ?_
      refine lv_icmp_ne (tgt := 56) hx hb (dkS dF_160 DX5_takeOp (i := 25) rfl rfl rfl) (by decide) (fun _ => ?_) (fun h => absurd h (by decide))
      refine lv_aload_n hx hb (dkP dF_42 DX5_takeOp (i := 31) rfl rfl) rfl (lv_at hl 2 rfl) ?_
      refine lv_dup hx hb (dkP dF_89 DX5_takeOp (i := 32) rfl rfl) rfl ?_
      refine z_gi C0 hw 186 6 (fk_of shc_186 rfl) fl_X5_55 (dk2 dF_180 DX5_takeOp (i := 33) rfl rfl rfl) ?_
      refine z_top (y := (nI n1)) en1 ?_
      refine lv_iconst (v := 1) hx hb (dkP dF_4 DX5_takeOp (i := 34) rfl rfl) (by decide) ?_
      refine lv_iadd hx hb (dkP dF_96 DX5_takeOp (i := 35) rfl rfl) ?_
      refine z_top (y := nI (n1 + 1)) (by simp only [fa_lit, nI_add, pk_mul]) ?_
      refine z_pi C0 hw 186 6 (fk_of shc_186 rfl) fp_X5_55 (dk2 dF_181 DX5_takeOp (i := 36) rfl rfl rfl) (fun H locs hw => ?_)
      have hlt9 : n1 < tk := TK.lt hK (by omega) ev3 (fun h0 => by first | exact absurd h0 (by decide) | (have h8 := congrArg Int32.toInt h0; simp only [tl32 0 (by decide)] at h8; omega))
      have hT9 : TC (sI σ 186 6 (nI (n1 + 1))) := TC.w hT (tcw_10_6 tcl_186 (by (try simp only [lg_cmp_lt, lg_cmp_le, lg_cmp_gt, lg_cmp_ge, lg_cmp_eq] at c4); (try simp (disch := omega) only [ta_lt, ta_le, ta_eq, tb_lt, tb_le, tb_eq, tw, tnI, tsub1, tsv, tsb32, tn32 1 (by decide), tnj 1 (by decide), tl32 0 (by decide), tl64 0 (by decide), tl32 1 (by decide), tl64 1 (by decide), tl32 2 (by decide), tl64 2 (by decide), tl32 60 (by decide), tl64 60 (by decide), tl32 61 (by decide), tl64 61 (by decide), tl32 62 (by decide), tl64 62 (by decide)] at c4); (try simp only [lg_cmp_lt, lg_cmp_le, lg_cmp_gt, lg_cmp_ge, lg_cmp_eq] at c5); (try simp (disch := omega) only [ta_lt, ta_le, ta_eq, tb_lt, tb_le, tb_eq, tw, tnI, tsub1, tsv, tsb32, tn32 1 (by decide), tnj 1 (by decide), tl32 0 (by decide), tl64 0 (by decide), tl32 1 (by decide), tl64 1 (by decide), tl32 2 (by decide), tl64 2 (by decide), tl32 60 (by decide), tl64 60 (by decide), tl32 61 (by decide), tl64 61 (by decide), tl32 62 (by decide), tl64 62 (by decide)] at c5); (try simp (disch := omega) only [ta_lt, ta_le, ta_eq, tb_lt, tb_le, tb_eq, tw, tnI, tsub1, tsv, tsb32, tn32 1 (by decide), tnj 1 (by decide), tl32 0 (by decide), tl64 0 (by decide), tl32 1 (by decide), tl64 1 (by decide), tl32 2 (by decide), tl64 2 (by decide), tl32 60 (by decide), tl64 60 (by decide), tl32 61 (by decide), tl64 61 (by decide), tl32 62 (by decide), tl64 62 (by decide)]); omega))
      have hF9 : frC (fun x y => (x = 186 ∧ y = 6) ∨ (x = 186 ∧ y = 7) ∨ (x = 186 ∧ y = 8)) σ (sI σ 186 6 (nI (n1 + 1))) := frC.w frC.refl (by show (186 = 186 ∧ 6 = 6) ∨ (186 = 186 ∧ 6 = 7) ∨ (186 = 186 ∧ 6 = 8); exact Or.inl (⟨rfl, rfl⟩))
      refine lv_iload_n hx hb (dkP dF_28 DX5_takeOp (i := 37) rfl rfl) rfl (lv_at hl 0 rfl) ?_
      exact z_iret C0 hr hlk hw (⟨(by rw [rd_s, tnI _ (by omega)]; omega), hT9, hF9⟩) (dkP dF_172 DX5_takeOp (i := 38) rfl rfl)
  · (try simp (disch := omega) only [ta_lt, ta_le, ta_eq, tnI, tl32 60 (by decide)] at c4)
    refine lv_iconst (v := 0) hx hb (dkP dF_3 DX5_takeOp (i := 9) rfl rfl) (by decide) ?_
    refine lv_goto (tgt := 41) hx hb (dkS dF_167 DX5_takeOp (i := 10) rfl rfl rfl) (by decide) ?_
    refine lv_istore_n (lv' := [(2, .int 0), (1, .int v3), (0, .ref (ad 186))]) hx hb (dkP dF_61 DX5_takeOp (i := 22) rfl rfl) rfl hl (by decide) rfl (fun ls hl => ?_)
    refine lv_iload_n hx hb (dkP dF_28 DX5_takeOp (i := 23) rfl rfl) rfl (lv_at hl 0 rfl) ?_
    refine lv_iconst (v := (-1)) hx hb (dkP dF_2 DX5_takeOp (i := 24) rfl rfl) (by decide) ?_
    refine lv_icmp_ne (tgt := 56) hx hb (dkS dF_160 DX5_takeOp (i := 25) rfl rfl rfl) (by decide) (fun _ => ?_) (fun h => absurd h (by decide))
    refine lv_aload_n hx hb (dkP dF_42 DX5_takeOp (i := 31) rfl rfl) rfl (lv_at hl 2 rfl) ?_
    refine lv_dup hx hb (dkP dF_89 DX5_takeOp (i := 32) rfl rfl) rfl ?_
    refine z_gi C0 hw 186 6 (fk_of shc_186 rfl) fl_X5_55 (dk2 dF_180 DX5_takeOp (i := 33) rfl rfl rfl) ?_
    refine z_top (y := (nI n1)) en1 ?_
    refine lv_iconst (v := 1) hx hb (dkP dF_4 DX5_takeOp (i := 34) rfl rfl) (by decide) ?_
    refine lv_iadd hx hb (dkP dF_96 DX5_takeOp (i := 35) rfl rfl) ?_
    refine z_top (y := nI (n1 + 1)) (by simp only [fa_lit, nI_add, pk_mul]) ?_
    refine z_pi C0 hw 186 6 (fk_of shc_186 rfl) fp_X5_55 (dk2 dF_181 DX5_takeOp (i := 36) rfl rfl rfl) (fun H locs hw => ?_)
    have hlt10 : n1 < tk := TK.lt hK (by omega) ev3 (fun h0 => by first | exact absurd h0 (by decide) | (have h8 := congrArg Int32.toInt h0; simp only [tl32 0 (by decide)] at h8; omega))
    have hT10 : TC (sI σ 186 6 (nI (n1 + 1))) := TC.w hT (tcw_10_6 tcl_186 (by (try simp only [lg_cmp_lt, lg_cmp_le, lg_cmp_gt, lg_cmp_ge, lg_cmp_eq] at c4); (try simp (disch := omega) only [ta_lt, ta_le, ta_eq, tb_lt, tb_le, tb_eq, tw, tnI, tsub1, tsv, tsb32, tn32 1 (by decide), tnj 1 (by decide), tl32 0 (by decide), tl64 0 (by decide), tl32 1 (by decide), tl64 1 (by decide), tl32 2 (by decide), tl64 2 (by decide), tl32 60 (by decide), tl64 60 (by decide), tl32 61 (by decide), tl64 61 (by decide), tl32 62 (by decide), tl64 62 (by decide)] at c4); (try simp (disch := omega) only [ta_lt, ta_le, ta_eq, tb_lt, tb_le, tb_eq, tw, tnI, tsub1, tsv, tsb32, tn32 1 (by decide), tnj 1 (by decide), tl32 0 (by decide), tl64 0 (by decide), tl32 1 (by decide), tl64 1 (by decide), tl32 2 (by decide), tl64 2 (by decide), tl32 60 (by decide), tl64 60 (by decide), tl32 61 (by decide), tl64 61 (by decide), tl32 62 (by decide), tl64 62 (by decide)]); omega))
    have hF10 : frC (fun x y => (x = 186 ∧ y = 6) ∨ (x = 186 ∧ y = 7) ∨ (x = 186 ∧ y = 8)) σ (sI σ 186 6 (nI (n1 + 1))) := frC.w frC.refl (by show (186 = 186 ∧ 6 = 6) ∨ (186 = 186 ∧ 6 = 7) ∨ (186 = 186 ∧ 6 = 8); exact Or.inl (⟨rfl, rfl⟩))
    refine lv_iload_n hx hb (dkP dF_28 DX5_takeOp (i := 37) rfl rfl) rfl (lv_at hl 0 rfl) ?_
    exact z_iret C0 hr hlk hw (⟨(by rw [rd_s, tnI _ (by omega)]; omega), hT10, hF10⟩) (dkP dF_172 DX5_takeOp (i := 38) rfl rfl)
