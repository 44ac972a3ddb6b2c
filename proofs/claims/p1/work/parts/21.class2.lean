set_option maxRecDepth 100000 in
set_option maxHeartbeats 4000000 in
theorem c_X6_has (l : Launch) (G : va_G) (kc : Nat → ClassId) (ad : Nat → Nat)  (i : Int32)  : MI l G kc yX6_has cX6_has 2 (some .boolean) 0 0 [.ref (ad 6), .int i] shC ad sC0 (fun r σ1 => ((r = 1 ∧ (0 ≤ i.toInt ∧ i.toInt ≤ 19)) ∨ (r = 0 ∧ ¬ (0 ≤ i.toInt ∧ i.toInt ≤ 19))) ∧ σ1 = sC0) := by
  intro sz
  refine z_body (y := yX6_has) (n := 2) (av := [.ref (ad 6), .int i]) (Qc := fun A => va_Qi (fun r σ1 => ((r = 1 ∧ (0 ≤ i.toInt ∧ i.toInt ≤ 19)) ∨ (r = 0 ∧ ¬ (0 ≤ i.toInt ∧ i.toInt ≤ 19))) ∧ σ1 = sC0) (PoC G kc shC ad A) A) (plainFor_of_name (by decide)) (Nat.le_of_ble_eq_true rfl) (fun pr e s m below meth c A C0 hr hlk hnm hw ls hl => ?_) sz
  have hx := C0.1
  have hb := C0.2.1
  have hown := C0.2.2.2.1
  have hts := C0.2.2.2.2.1
  have hl : lv_has ls 2 [(0, .ref (ad 6)), (1, .int i)] := hl
  refine lv_iload_n hx hb (dkP dF_27 DX6_has (i := 0) rfl rfl) rfl (lv_at hl 1 rfl) ?_
  refine lv_if_lt (tgt := 14) hx hb (dkS dF_155 DX6_has (i := 1) rfl rfl rfl) (by decide) (fun c1 => ?_) (fun c1 => ?_)
  · skip
    refine lv_iconst (v := 0) hx hb (dkP dF_3 DX6_has (i := 7) rfl rfl) (by decide) ?_
    exact z_zret C0 hr hlk (by decide) hw (⟨Or.inr ⟨rfl, (by (try simp only [lg_cmp_lt, lg_cmp_le, lg_cmp_gt, lg_cmp_ge, lg_cmp_eq] at c1); (try simp (disch := omega) only [ta_lt, ta_le, ta_eq, tb_lt, tb_le, tb_eq, tw, tnI, tn32 1 (by decide), tnj 1 (by decide), tl32 0 (by decide), tl64 0 (by decide)] at c1); (try simp (disch := omega) only [ta_lt, ta_le, ta_eq, tb_lt, tb_le, tb_eq, tw, tnI, tn32 1 (by decide), tnj 1 (by decide), tl32 0 (by decide), tl64 0 (by decide)]); omega)⟩, rfl⟩) (dkP dF_172 DX6_has (i := 8) rfl rfl)
  · skip
    refine lv_iload_n hx hb (dkP dF_27 DX6_has (i := 2) rfl rfl) rfl (lv_at hl 1 rfl) ?_
    refine lv_bipush (v := 20) hx hb (dks dF_16 DX6_has (i := 3) rfl rfl rfl) (by decide) ?_
    refine lv_icmp_ge (tgt := 14) hx hb (dkS dF_162 DX6_has (i := 4) rfl rfl rfl) (by decide) (fun c2 => ?_) (fun c2 => ?_)
    · skip
      refine lv_iconst (v := 0) hx hb (dkP dF_3 DX6_has (i := 7) rfl rfl) (by decide) ?_
      exact z_zret C0 hr hlk (by decide) hw (⟨Or.inr ⟨rfl, (by (try simp only [lg_cmp_lt, lg_cmp_le, lg_cmp_gt, lg_cmp_ge, lg_cmp_eq] at c1); (try simp (disch := omega) only [ta_lt, ta_le, ta_eq, tb_lt, tb_le, tb_eq, tw, tnI, tn32 1 (by decide), tnj 1 (by decide), tl32 0 (by decide), tl64 0 (by decide), tl32 20 (by decide), tl64 20 (by decide)] at c1); (try simp only [lg_cmp_lt, lg_cmp_le, lg_cmp_gt, lg_cmp_ge, lg_cmp_eq] at c2); (try simp (disch := omega) only [ta_lt, ta_le, ta_eq, tb_lt, tb_le, tb_eq, tw, tnI, tn32 1 (by decide), tnj 1 (by decide), tl32 0 (by decide), tl64 0 (by decide), tl32 20 (by decide), tl64 20 (by decide)] at c2); (try simp (disch := omega) only [ta_lt, ta_le, ta_eq, tb_lt, tb_le, tb_eq, tw, tnI, tn32 1 (by decide), tnj 1 (by decide), tl32 0 (by decide), tl64 0 (by decide), tl32 20 (by decide), tl64 20 (by decide)]); omega)⟩, rfl⟩) (dkP dF_172 DX6_has (i := 8) rfl rfl)
    · skip
      refine lv_iconst (v := 1) hx hb (dkP dF_4 DX6_has (i := 5) rfl rfl) (by decide) ?_
      refine lv_goto (tgt := 15) hx hb (dkS dF_167 DX6_has (i := 6) rfl rfl rfl) (by decide) ?_
      exact z_zret C0 hr hlk (by decide) hw (⟨Or.inl ⟨rfl, (by (try simp only [lg_cmp_lt, lg_cmp_le, lg_cmp_gt, lg_cmp_ge, lg_cmp_eq] at c1); (try simp (disch := omega) only [ta_lt, ta_le, ta_eq, tb_lt, tb_le, tb_eq, tw, tnI, tn32 1 (by decide), tnj 1 (by decide), tl32 0 (by decide), tl64 0 (by decide), tl32 1 (by decide), tl64 1 (by decide), tl32 20 (by decide), tl64 20 (by decide)] at c1); (try simp only [lg_cmp_lt, lg_cmp_le, lg_cmp_gt, lg_cmp_ge, lg_cmp_eq] at c2); (try simp (disch := omega) only [ta_lt, ta_le, ta_eq, tb_lt, tb_le, tb_eq, tw, tnI, tn32 1 (by decide), tnj 1 (by decide), tl32 0 (by decide), tl64 0 (by decide), tl32 1 (by decide), tl64 1 (by decide), tl32 20 (by decide), tl64 20 (by decide)] at c2); (try simp (disch := omega) only [ta_lt, ta_le, ta_eq, tb_lt, tb_le, tb_eq, tw, tnI, tn32 1 (by decide), tnj 1 (by decide), tl32 0 (by decide), tl64 0 (by decide), tl32 1 (by decide), tl64 1 (by decide), tl32 20 (by decide), tl64 20 (by decide)]); omega)⟩, rfl⟩) (dkP dF_172 DX6_has (i := 8) rfl rfl)
set_option maxRecDepth 20000 in
theorem shc_6 : shC[6]? = some (0, 6, [(1, 7), (0, 0), (0, 0)]) := by rfl
set_option maxRecDepth 20000 in
theorem shc_7 : shC[7]? = some (1, 100, []) := by rfl
set_option maxRecDepth 20000 in
theorem s0a_7 : ∀ j, sC0.1 7 j = 0 := fun _ => rfl
set_option maxRecDepth 100000 in
set_option maxHeartbeats 4000000 in
theorem c_X6_tell (l : Launch) (G : va_G) (kc : Nat → ClassId) (ad : Nat → Nat)  (i : Int32) (w : Int32)  : MI l G kc yX6_tell cX6_tell 3 (some .int) 1 21 [.ref (ad 6), .int i, .int w] shC ad sC0 (fun r σ1 => r = (if 0 ≤ i.toInt ∧ i.toInt ≤ 19 ∧ 0 ≤ w.toInt ∧ w.toInt ≤ 4 then 0 else -2000000000) ∧ σ1 = sC0) := by
  intro sz
  refine z_body (y := yX6_tell) (n := 3) (av := [.ref (ad 6), .int i, .int w]) (Qc := fun A => va_Qi (fun r σ1 => r = (if 0 ≤ i.toInt ∧ i.toInt ≤ 19 ∧ 0 ≤ w.toInt ∧ w.toInt ≤ 4 then 0 else -2000000000) ∧ σ1 = sC0) (PoC G kc shC ad A) A) (plainFor_of_name (by decide)) (Nat.le_of_ble_eq_true rfl) (fun pr e s m below meth c A C0 hr hlk hnm hw ls hl => ?_) sz
  have hx := C0.1
  have hb := C0.2.1
  have hown := C0.2.2.2.1
  have hts := C0.2.2.2.2.1
  have hl : lv_has ls 3 [(0, .ref (ad 6)), (1, .int i), (2, .int w)] := hl
  refine lv_aload_n hx hb (dkP dF_42 DX6_tell (i := 0) rfl rfl) rfl (lv_at hl 0 rfl) ?_
  refine lv_iload_n hx hb (dkP dF_27 DX6_tell (i := 1) rfl rfl) rfl (lv_at hl 1 rfl) ?_
  refine zk_I hw (zr_V (As := [.int i]) (rest := []) C0 (c_X6_has l G kc ad i  _) cv_X6_has lk_X6_41 (zp_V C0 hw 6 shc_6 rfl rfl) rfl hl.1 rfl ⟨by decide, by decide⟩ (Nat.le_of_ble_eq_true rfl) (dk2 dF_182 DX6_tell (i := 2) rfl rfl rfl) ⟨Nat.le_refl _, Nat.le_refl _⟩) (fun r1 s1 H locs hp hw => ?_)
  obtain ⟨hq1, hs1⟩ := hp
  (rw [hs1] at hw; clear hs1)
  rcases hq1 with ⟨rfl, hc1⟩ | ⟨rfl, hc1⟩
  · skip
    obtain ⟨k_i, hk_i, rfl⟩ := to_nat (x := i) (n := 20) (by (try simp only [lg_cmp_lt, lg_cmp_le, lg_cmp_gt, lg_cmp_ge, lg_cmp_eq] at hc1); (try simp (disch := omega) only [ta_lt, ta_le, ta_eq, tb_lt, tb_le, tb_eq, tw, tnI, tn32 1 (by decide), tnj 1 (by decide), tl32 0 (by decide), tl64 0 (by decide)] at hc1); (try simp (disch := omega) only [ta_lt, ta_le, ta_eq, tb_lt, tb_le, tb_eq, tw, tnI, tn32 1 (by decide), tnj 1 (by decide), tl32 0 (by decide), tl64 0 (by decide)]); omega)
    refine lv_if_eq (tgt := 30) hx hb (dkS dF_153 DX6_tell (i := 3) rfl rfl rfl) (by decide) (fun h => absurd h (by decide)) (fun _ => ?_)
    refine lv_iload_n hx hb (dkP dF_28 DX6_tell (i := 4) rfl rfl) rfl (lv_at hl 2 rfl) ?_
    refine lv_if_lt (tgt := 30) hx hb (dkS dF_155 DX6_tell (i := 5) rfl rfl rfl) (by decide) (fun c2 => ?_) (fun c2 => ?_)
    · skip
      refine lv_ldc hx hb hown (hts _ kn_X6_45) (dk1 dF_18 DX6_tell (i := 18) rfl rfl rfl) ?_
      exact z_iret C0 hr hlk hw (⟨(by first | rfl | ((try simp only [lg_cmp_lt, lg_cmp_le, lg_cmp_gt, lg_cmp_ge, lg_cmp_eq] at hc1); (try simp (disch := omega) only [ta_lt, ta_le, ta_eq, tb_lt, tb_le, tb_eq, tw, tnI, tn32 2000000000 (by decide), tnj 2000000000 (by decide), tn32 1 (by decide), tnj 1 (by decide), tl32 0 (by decide), tl64 0 (by decide)] at hc1); (try simp only [lg_cmp_lt, lg_cmp_le, lg_cmp_gt, lg_cmp_ge, lg_cmp_eq] at hk_i); (try simp (disch := omega) only [ta_lt, ta_le, ta_eq, tb_lt, tb_le, tb_eq, tw, tnI, tn32 2000000000 (by decide), tnj 2000000000 (by decide), tn32 1 (by decide), tnj 1 (by decide), tl32 0 (by decide), tl64 0 (by decide)] at hk_i); (try simp only [lg_cmp_lt, lg_cmp_le, lg_cmp_gt, lg_cmp_ge, lg_cmp_eq] at c2); (try simp (disch := omega) only [ta_lt, ta_le, ta_eq, tb_lt, tb_le, tb_eq, tw, tnI, tn32 2000000000 (by decide), tnj 2000000000 (by decide), tn32 1 (by decide), tnj 1 (by decide), tl32 0 (by decide), tl64 0 (by decide)] at c2); (try simp (disch := omega) only [tnI, tn32 2000000000 (by decide), tnj 2000000000 (by decide), tn32 1 (by decide), tnj 1 (by decide), tl32 0 (by decide), tl64 0 (by decide)]); (repeat' split) <;> first | rfl | omega | (apply Int32.toInt_inj.mp; simp (disch := omega) only [tnI, tn32 2000000000 (by decide), tnj 2000000000 (by decide), tn32 1 (by decide), tnj 1 (by decide), tl32 0 (by decide), tl64 0 (by decide)]; omega))), rfl⟩) (dkP dF_172 DX6_tell (i := 19) rfl rfl)
    · skip
      refine lv_iload_n hx hb (dkP dF_28 DX6_tell (i := 6) rfl rfl) rfl (lv_at hl 2 rfl) ?_
      refine lv_iconst (v := 5) hx hb (dkP dF_8 DX6_tell (i := 7) rfl rfl) (by decide) ?_
      refine lv_icmp_ge (tgt := 30) hx hb (dkS dF_162 DX6_tell (i := 8) rfl rfl rfl) (by decide) (fun c3 => ?_) (fun c3 => ?_)
      · skip
        refine lv_ldc hx hb hown (hts _ kn_X6_45) (dk1 dF_18 DX6_tell (i := 18) rfl rfl rfl) ?_
        exact z_iret C0 hr hlk hw (⟨(by first | rfl | ((try simp only [lg_cmp_lt, lg_cmp_le, lg_cmp_gt, lg_cmp_ge, lg_cmp_eq] at hc1); (try simp (disch := omega) only [ta_lt, ta_le, ta_eq, tb_lt, tb_le, tb_eq, tw, tnI, tn32 2000000000 (by decide), tnj 2000000000 (by decide), tn32 1 (by decide), tnj 1 (by decide), tl32 0 (by decide), tl64 0 (by decide), tl32 5 (by decide), tl64 5 (by decide)] at hc1); (try simp only [lg_cmp_lt, lg_cmp_le, lg_cmp_gt, lg_cmp_ge, lg_cmp_eq] at hk_i); (try simp (disch := omega) only [ta_lt, ta_le, ta_eq, tb_lt, tb_le, tb_eq, tw, tnI, tn32 2000000000 (by decide), tnj 2000000000 (by decide), tn32 1 (by decide), tnj 1 (by decide), tl32 0 (by decide), tl64 0 (by decide), tl32 5 (by decide), tl64 5 (by decide)] at hk_i); (try simp only [lg_cmp_lt, lg_cmp_le, lg_cmp_gt, lg_cmp_ge, lg_cmp_eq] at c2); (try simp (disch := omega) only [ta_lt, ta_le, ta_eq, tb_lt, tb_le, tb_eq, tw, tnI, tn32 2000000000 (by decide), tnj 2000000000 (by decide), tn32 1 (by decide), tnj 1 (by decide), tl32 0 (by decide), tl64 0 (by decide), tl32 5 (by decide), tl64 5 (by decide)] at c2); (try simp only [lg_cmp_lt, lg_cmp_le, lg_cmp_gt, lg_cmp_ge, lg_cmp_eq] at c3); (try simp (disch := omega) only [ta_lt, ta_le, ta_eq, tb_lt, tb_le, tb_eq, tw, tnI, tn32 2000000000 (by decide), tnj 2000000000 (by decide), tn32 1 (by decide), tnj 1 (by decide), tl32 0 (by decide), tl64 0 (by decide), tl32 5 (by decide), tl64 5 (by decide)] at c3); (try simp (disch := omega) only [tnI, tn32 2000000000 (by decide), tnj 2000000000 (by decide), tn32 1 (by decide), tnj 1 (by decide), tl32 0 (by decide), tl64 0 (by decide), tl32 5 (by decide), tl64 5 (by decide)]); (repeat' split) <;> first | rfl | omega | (apply Int32.toInt_inj.mp; simp (disch := omega) only [tnI, tn32 2000000000 (by decide), tnj 2000000000 (by decide), tn32 1 (by decide), tnj 1 (by decide), tl32 0 (by decide), tl64 0 (by decide), tl32 5 (by decide), tl64 5 (by decide)]; omega))), rfl⟩) (dkP dF_172 DX6_tell (i := 19) rfl rfl)
      · skip
        obtain ⟨k_w, hk_w, rfl⟩ := to_nat (x := w) (n := 5) (by (try simp only [lg_cmp_lt, lg_cmp_le, lg_cmp_gt, lg_cmp_ge, lg_cmp_eq] at hc1); (try simp (disch := omega) only [ta_lt, ta_le, ta_eq, tb_lt, tb_le, tb_eq, tw, tnI, tn32 2000000000 (by decide), tnj 2000000000 (by decide), tn32 1 (by decide), tnj 1 (by decide), tl32 0 (by decide), tl64 0 (by decide), tl32 5 (by decide), tl64 5 (by decide)] at hc1); (try simp only [lg_cmp_lt, lg_cmp_le, lg_cmp_gt, lg_cmp_ge, lg_cmp_eq] at hk_i); (try simp (disch := omega) only [ta_lt, ta_le, ta_eq, tb_lt, tb_le, tb_eq, tw, tnI, tn32 2000000000 (by decide), tnj 2000000000 (by decide), tn32 1 (by decide), tnj 1 (by decide), tl32 0 (by decide), tl64 0 (by decide), tl32 5 (by decide), tl64 5 (by decide)] at hk_i); (try simp only [lg_cmp_lt, lg_cmp_le, lg_cmp_gt, lg_cmp_ge, lg_cmp_eq] at c2); (try simp (disch := omega) only [ta_lt, ta_le, ta_eq, tb_lt, tb_le, tb_eq, tw, tnI, tn32 2000000000 (by decide), tnj 2000000000 (by decide), tn32 1 (by decide), tnj 1 (by decide), tl32 0 (by decide), tl64 0 (by decide), tl32 5 (by decide), tl64 5 (by decide)] at c2); (try simp only [lg_cmp_lt, lg_cmp_le, lg_cmp_gt, lg_cmp_ge, lg_cmp_eq] at c3); (try simp (disch := omega) only [ta_lt, ta_le, ta_eq, tb_lt, tb_le, tb_eq, tw, tnI, tn32 2000000000 (by decide), tnj 2000000000 (by decide), tn32 1 (by decide), tnj 1 (by decide), tl32 0 (by decide), tl64 0 (by decide), tl32 5 (by decide), tl64 5 (by decide)] at c3); (try simp (disch := omega) only [ta_lt, ta_le, ta_eq, tb_lt, tb_le, tb_eq, tw, tnI, tn32 2000000000 (by decide), tnj 2000000000 (by decide), tn32 1 (by decide), tnj 1 (by decide), tl32 0 (by decide), tl64 0 (by decide), tl32 5 (by decide), tl64 5 (by decide)]); omega)
        refine lv_aload_n hx hb (dkP dF_42 DX6_tell (i := 9) rfl rfl) rfl (lv_at hl 0 rfl) ?_
        refine z_gr C0 hw 6 0 7 (fk_of shc_6 rfl) fl_X6_11 (dk2 dF_180 DX6_tell (i := 10) rfl rfl rfl) ?_
        refine lv_iload_n hx hb (dkP dF_27 DX6_tell (i := 11) rfl rfl) rfl (lv_at hl 1 rfl) ?_
        refine lv_iconst (v := 5) hx hb (dkP dF_8 DX6_tell (i := 12) rfl rfl) (by decide) ?_
        refine lv_imul hx hb (dkP dF_104 DX6_tell (i := 13) rfl rfl) ?_
        refine z_top (y := nI (k_i * 5)) (by simp only [fa_lit, nI_add, pk_mul]) ?_
        refine lv_iload_n hx hb (dkP dF_28 DX6_tell (i := 14) rfl rfl) rfl (lv_at hl 2 rfl) ?_
        refine lv_iadd hx hb (dkP dF_96 DX6_tell (i := 15) rfl rfl) ?_
        refine z_top (y := nI ((k_i * 5) + k_w)) (by simp only [fa_lit, nI_add, pk_mul]) ?_
        refine z_ialdN (n := 100) C0 hw 7 ((k_i * 5) + k_w) (ak_of shc_7) (by omega) (by decide) (dkP dF_46 DX6_tell (i := 16) rfl rfl) ?_
        refine z_top (y := 0) (s0a_7 _) ?_
        refine lv_goto (tgt := 32) hx hb (dkS dF_167 DX6_tell (i := 17) rfl rfl rfl) (by decide) ?_
        exact z_iret C0 hr hlk hw (⟨(by first | rfl | ((try simp only [lg_cmp_lt, lg_cmp_le, lg_cmp_gt, lg_cmp_ge, lg_cmp_eq] at hc1); (try simp (disch := omega) only [ta_lt, ta_le, ta_eq, tb_lt, tb_le, tb_eq, tw, tnI, tn32 2000000000 (by decide), tnj 2000000000 (by decide), tn32 1 (by decide), tnj 1 (by decide), tl32 0 (by decide), tl64 0 (by decide), tl32 5 (by decide), tl64 5 (by decide)] at hc1); (try simp only [lg_cmp_lt, lg_cmp_le, lg_cmp_gt, lg_cmp_ge, lg_cmp_eq] at hk_i); (try simp (disch := omega) only [ta_lt, ta_le, ta_eq, tb_lt, tb_le, tb_eq, tw, tnI, tn32 2000000000 (by decide), tnj 2000000000 (by decide), tn32 1 (by decide), tnj 1 (by decide), tl32 0 (by decide), tl64 0 (by decide), tl32 5 (by decide), tl64 5 (by decide)] at hk_i); (try simp only [lg_cmp_lt, lg_cmp_le, lg_cmp_gt, lg_cmp_ge, lg_cmp_eq] at c2); (try simp (disch := omega) only [ta_lt, ta_le, ta_eq, tb_lt, tb_le, tb_eq, tw, tnI, tn32 2000000000 (by decide), tnj 2000000000 (by decide), tn32 1 (by decide), tnj 1 (by decide), tl32 0 (by decide), tl64 0 (by decide), tl32 5 (by decide), tl64 5 (by decide)] at c2); (try simp only [lg_cmp_lt, lg_cmp_le, lg_cmp_gt, lg_cmp_ge, lg_cmp_eq] at c3); (try simp (disch := omega) only [ta_lt, ta_le, ta_eq, tb_lt, tb_le, tb_eq, tw, tnI, tn32 2000000000 (by decide), tnj 2000000000 (by decide), tn32 1 (by decide), tnj 1 (by decide), tl32 0 (by decide), tl64 0 (by decide), tl32 5 (by decide), tl64 5 (by decide)] at c3); (try simp (disch := omega) only [tnI, tn32 2000000000 (by decide), tnj 2000000000 (by decide), tn32 1 (by decide), tnj 1 (by decide), tl32 0 (by decide), tl64 0 (by decide), tl32 5 (by decide), tl64 5 (by decide)]); (repeat' split) <;> first | rfl | omega | (apply Int32.toInt_inj.mp; simp (disch := omega) only [tnI, tn32 2000000000 (by decide), tnj 2000000000 (by decide), tn32 1 (by decide), tnj 1 (by decide), tl32 0 (by decide), tl64 0 (by decide), tl32 5 (by decide), tl64 5 (by decide)]; omega))), rfl⟩) (dkP dF_172 DX6_tell (i := 19) rfl rfl)
  · skip
    refine lv_if_eq (tgt := 30) hx hb (dkS dF_153 DX6_tell (i := 3) rfl rfl rfl) (by decide) (fun _ => ?_) (fun h => absurd h (by decide))
    refine lv_ldc hx hb hown (hts _ kn_X6_45) (dk1 dF_18 DX6_tell (i := 18) rfl rfl rfl) ?_
    exact z_iret C0 hr hlk hw (⟨(by first | rfl | ((try simp only [lg_cmp_lt, lg_cmp_le, lg_cmp_gt, lg_cmp_ge, lg_cmp_eq] at hc1); (try simp (disch := omega) only [ta_lt, ta_le, ta_eq, tb_lt, tb_le, tb_eq, tw, tnI, tn32 2000000000 (by decide), tnj 2000000000 (by decide), tn32 1 (by decide), tnj 1 (by decide), tl32 0 (by decide), tl64 0 (by decide), tl32 5 (by decide), tl64 5 (by decide)] at hc1); (try simp (disch := omega) only [tnI, tn32 2000000000 (by decide), tnj 2000000000 (by decide), tn32 1 (by decide), tnj 1 (by decide), tl32 0 (by decide), tl64 0 (by decide), tl32 5 (by decide), tl64 5 (by decide)]); (repeat' split) <;> first | rfl | omega | (apply Int32.toInt_inj.mp; simp (disch := omega) only [tnI, tn32 2000000000 (by decide), tnj 2000000000 (by decide), tn32 1 (by decide), tnj 1 (by decide), tl32 0 (by decide), tl64 0 (by decide), tl32 5 (by decide), tl64 5 (by decide)]; omega))), rfl⟩) (dkP dF_172 DX6_tell (i := 19) rfl rfl)
set_option maxRecDepth 100000 in
set_option maxHeartbeats 4000000 in
theorem c_X11_row (l : Launch) (G : va_G) (kc : Nat → ClassId) (ad : Nat → Nat)  (i : Int32) (w : Int32)  : MI l G kc yX11_row cX11_row 3 (some .int) 2 43 [.ref (ad 0), .int i, .int w] shC ad sC0 (fun r σ1 => r = if 0 ≤ i.toInt ∧ i.toInt ≤ 19 ∧ 0 ≤ w.toInt ∧ w.toInt ≤ 4 then 0 else -2000000000) := by
  intro sz
  refine z_body (y := yX11_row) (n := 3) (av := [.ref (ad 0), .int i, .int w]) (Qc := fun A => va_Qi (fun r σ1 => r = if 0 ≤ i.toInt ∧ i.toInt ≤ 19 ∧ 0 ≤ w.toInt ∧ w.toInt ≤ 4 then 0 else -2000000000) (PoC G kc shC ad A) A) (plainFor_of_name (by decide)) (Nat.le_of_ble_eq_true rfl) (fun pr e s m below meth c A C0 hr hlk hnm hw ls hl => ?_) sz
  have hx := C0.1
  have hb := C0.2.1
  have hown := C0.2.2.2.1
  have hts := C0.2.2.2.2.1
  have hl : lv_has ls 3 [(0, .ref (ad 0)), (1, .int i), (2, .int w)] := hl
  refine lv_aload_n hx hb (dkP dF_42 DX11_row (i := 0) rfl rfl) rfl (lv_at hl 0 rfl) ?_
  refine z_gr C0 hw 0 0 1 (fk_of shc_0 rfl) fl_X11_10 (dk2 dF_180 DX11_row (i := 1) rfl rfl rfl) ?_
  refine z_gr C0 hw 1 7 6 (fk_of shc_1 rfl) fl_X11_301 (dk2 dF_180 DX11_row (i := 2) rfl rfl rfl) ?_
  refine lv_iload_n hx hb (dkP dF_27 DX11_row (i := 3) rfl rfl) rfl (lv_at hl 1 rfl) ?_
  refine lv_iload_n hx hb (dkP dF_28 DX11_row (i := 4) rfl rfl) rfl (lv_at hl 2 rfl) ?_
  refine zk_I hw (zr_V (As := [.int i, .int w]) (rest := []) C0 (c_X6_tell l G kc ad i w  _) cv_X6_tell lk_X11_319 (zp_V C0 hw 6 shc_6 rfl rfl) rfl hl.1 rfl ⟨by decide, by decide⟩ (Nat.le_of_ble_eq_true rfl) (dk2 dF_182 DX11_row (i := 5) rfl rfl rfl) ⟨Nat.le_refl _, Nat.le_refl _⟩) (fun r1 s1 H locs hp hw => ?_)
  obtain ⟨rfl, hs1⟩ := hp
  (rw [hs1] at hw; clear hs1)
  exact z_iret C0 hr hlk hw rfl (dkP dF_172 DX11_row (i := 6) rfl rfl)
set_option maxRecDepth 20000 in
theorem s0_6_1 : sC0.1 6 1 = 1 := by rfl
set_option maxRecDepth 20000 in
theorem s0_6_2 : sC0.1 6 2 = 0 := by rfl
set_option maxRecDepth 100000 in
set_option maxHeartbeats 4000000 in
theorem c_X6_leadOver_f (l : Launch) (G : va_G) (kc : Nat → ClassId) (ad : Nat → Nat)  (i : Nat) (hi : i < 20) : MI l G kc yX6_leadOver cX6_leadOver 4 (some .int) 0 0 [.ref (ad 6), .int (nI i)] shC ad sC0 (fun r σ1 => r = 0 ∧ True) := by
  intro sz
  refine z_body (y := yX6_leadOver) (n := 4) (av := [.ref (ad 6), .int (nI i)]) (Qc := fun A => va_Qi (fun r σ1 => r = 0 ∧ True) (PoC G kc shC ad A) A) (plainFor_of_name (by decide)) (Nat.le_of_ble_eq_true rfl) (fun pr e s m below meth c A C0 hr hlk hnm hw ls hl => ?_) sz
  have hx := C0.1
  have hb := C0.2.1
  have hown := C0.2.2.2.1
  have hts := C0.2.2.2.2.1
  have hl : lv_has ls 4 [(0, .ref (ad 6)), (1, .int (nI i))] := hl
  refine lv_iload_n hx hb (dkP dF_27 DX6_leadOver (i := 0) rfl rfl) rfl (lv_at hl 1 rfl) ?_
  refine lv_iconst (v := 5) hx hb (dkP dF_8 DX6_leadOver (i := 1) rfl rfl) (by decide) ?_
  refine lv_imul hx hb (dkP dF_104 DX6_leadOver (i := 2) rfl rfl) ?_
  refine z_top (y := nI (i * 5)) (by simp only [fa_lit, nI_add, pk_mul]) ?_
  refine lv_istore_n (lv' := [(2, .int (nI (i * 5))), (0, .ref (ad 6)), (1, .int (nI i))]) hx hb (dkP dF_61 DX6_leadOver (i := 3) rfl rfl) rfl hl (by decide) rfl (fun ls hl => ?_)
  refine lv_aload_n hx hb (dkP dF_42 DX6_leadOver (i := 4) rfl rfl) rfl (lv_at hl 1 rfl) ?_
  refine z_gr C0 hw 6 0 7 (fk_of shc_6 rfl) fl_X6_11 (dk2 dF_180 DX6_leadOver (i := 5) rfl rfl rfl) ?_
  refine lv_iload_n hx hb (dkP dF_28 DX6_leadOver (i := 6) rfl rfl) rfl (lv_at hl 0 rfl) ?_
  refine lv_iconst (v := 3) hx hb (dkP dF_6 DX6_leadOver (i := 7) rfl rfl) (by decide) ?_
  refine lv_iadd hx hb (dkP dF_96 DX6_leadOver (i := 8) rfl rfl) ?_
  refine z_top (y := nI ((i * 5) + 3)) (by simp only [fa_lit, nI_add, pk_mul]) ?_
  refine lv_iconst (v := 0) hx hb (dkP dF_3 DX6_leadOver (i := 9) rfl rfl) (by decide) ?_
  refine z_iastN (n := 100) C0 hw 7 ((i * 5) + 3) (ak_of shc_7) (by omega) (by decide) (dkP dF_79 DX6_leadOver (i := 10) rfl rfl) (fun H locs hw => ?_)
  refine lv_aload_n hx hb (dkP dF_42 DX6_leadOver (i := 11) rfl rfl) rfl (lv_at hl 1 rfl) ?_
  refine z_gr C0 hw 6 0 7 (fk_of shc_6 rfl) fl_X6_11 (dk2 dF_180 DX6_leadOver (i := 12) rfl rfl rfl) ?_
  refine lv_iload_n hx hb (dkP dF_28 DX6_leadOver (i := 13) rfl rfl) rfl (lv_at hl 0 rfl) ?_
  refine lv_iconst (v := 2) hx hb (dkP dF_5 DX6_leadOver (i := 14) rfl rfl) (by decide) ?_
  refine lv_iadd hx hb (dkP dF_96 DX6_leadOver (i := 15) rfl rfl) ?_
  refine z_top (y := nI ((i * 5) + 2)) (by simp only [fa_lit, nI_add, pk_mul]) ?_
  refine z_ialdN (n := 100) C0 hw 7 ((i * 5) + 2) (ak_of shc_7) (by omega) (by decide) (dkP dF_46 DX6_leadOver (i := 16) rfl rfl) ?_
  refine z_top (y := 0) ((rd_n (by omega)).trans (s0a_7 _)) ?_
  refine lv_if_ne (tgt := 66) hx hb (dkS dF_154 DX6_leadOver (i := 17) rfl rfl rfl) (by decide) (fun h => absurd h (by decide)) (fun _ => ?_)
  refine lv_aload_n hx hb (dkP dF_42 DX6_leadOver (i := 18) rfl rfl) rfl (lv_at hl 1 rfl) ?_
  refine z_gr C0 hw 6 0 7 (fk_of shc_6 rfl) fl_X6_11 (dk2 dF_180 DX6_leadOver (i := 19) rfl rfl rfl) ?_
  refine lv_iload_n hx hb (dkP dF_28 DX6_leadOver (i := 20) rfl rfl) rfl (lv_at hl 0 rfl) ?_
  refine lv_iconst (v := 4) hx hb (dkP dF_7 DX6_leadOver (i := 21) rfl rfl) (by decide) ?_
  refine lv_iadd hx hb (dkP dF_96 DX6_leadOver (i := 22) rfl rfl) ?_
  refine z_top (y := nI ((i * 5) + 4)) (by simp only [fa_lit, nI_add, pk_mul]) ?_
  refine lv_iconst (v := 0) hx hb (dkP dF_3 DX6_leadOver (i := 23) rfl rfl) (by decide) ?_
  refine z_iastN (n := 100) C0 hw 7 ((i * 5) + 4) (ak_of shc_7) (by omega) (by decide) (dkP dF_79 DX6_leadOver (i := 24) rfl rfl) (fun H locs hw => ?_)
  refine lv_aload_n hx hb (dkP dF_42 DX6_leadOver (i := 25) rfl rfl) rfl (lv_at hl 1 rfl) ?_
  refine z_gr C0 hw 6 0 7 (fk_of shc_6 rfl) fl_X6_11 (dk2 dF_180 DX6_leadOver (i := 26) rfl rfl rfl) ?_
  refine lv_iload_n hx hb (dkP dF_28 DX6_leadOver (i := 27) rfl rfl) rfl (lv_at hl 0 rfl) ?_
  refine lv_iconst (v := 1) hx hb (dkP dF_4 DX6_leadOver (i := 28) rfl rfl) (by decide) ?_
  refine lv_iadd hx hb (dkP dF_96 DX6_leadOver (i := 29) rfl rfl) ?_
  refine z_top (y := nI ((i * 5) + 1)) (by simp only [fa_lit, nI_add, pk_mul]) ?_
  refine lv_aload_n hx hb (dkP dF_42 DX6_leadOver (i := 30) rfl rfl) rfl (lv_at hl 1 rfl) ?_
  refine z_gi C0 hw 6 1 (fk_of shc_6 rfl) fl_X6_15 (dk2 dF_180 DX6_leadOver (i := 31) rfl rfl rfl) ?_
  refine z_top (y := 1) ((rd_n (by omega)).trans ((rd_n (by omega)).trans s0_6_1)) ?_
  refine lv_aload_n hx hb (dkP dF_42 DX6_leadOver (i := 32) rfl rfl) rfl (lv_at hl 1 rfl) ?_
  refine z_gr C0 hw 6 0 7 (fk_of shc_6 rfl) fl_X6_11 (dk2 dF_180 DX6_leadOver (i := 33) rfl rfl rfl) ?_
  refine lv_iload_n hx hb (dkP dF_28 DX6_leadOver (i := 34) rfl rfl) rfl (lv_at hl 0 rfl) ?_
  refine z_ialdN (n := 100) C0 hw 7 (i * 5) (ak_of shc_7) (by omega) (by decide) (dkP dF_46 DX6_leadOver (i := 35) rfl rfl) ?_
  refine z_top (y := 0) ((rd_n (by omega)).trans ((rd_n (by omega)).trans (s0a_7 _))) ?_
  refine lv_imul hx hb (dkP dF_104 DX6_leadOver (i := 36) rfl rfl) ?_
  refine z_top (y := 0) (by decide) ?_
  refine lv_aload_n hx hb (dkP dF_42 DX6_leadOver (i := 37) rfl rfl) rfl (lv_at hl 1 rfl) ?_
  refine z_gi C0 hw 6 2 (fk_of shc_6 rfl) fl_X6_25 (dk2 dF_180 DX6_leadOver (i := 38) rfl rfl rfl) ?_
  refine z_top (y := 0) ((rd_n (by omega)).trans ((rd_n (by omega)).trans s0_6_2)) ?_
  refine lv_iadd hx hb (dkP dF_96 DX6_leadOver (i := 39) rfl rfl) ?_
  refine z_top (y := 0) (by decide) ?_
  refine z_iastN (n := 100) C0 hw 7 ((i * 5) + 1) (ak_of shc_7) (by omega) (by decide) (dkP dF_79 DX6_leadOver (i := 40) rfl rfl) (fun H locs hw => ?_)
  refine lv_aload_n hx hb (dkP dF_42 DX6_leadOver (i := 41) rfl rfl) rfl (lv_at hl 1 rfl) ?_
  refine z_gr C0 hw 6 0 7 (fk_of shc_6 rfl) fl_X6_11 (dk2 dF_180 DX6_leadOver (i := 42) rfl rfl rfl) ?_
  refine lv_iload_n hx hb (dkP dF_28 DX6_leadOver (i := 43) rfl rfl) rfl (lv_at hl 0 rfl) ?_
  refine lv_iconst (v := 1) hx hb (dkP dF_4 DX6_leadOver (i := 44) rfl rfl) (by decide) ?_
  refine lv_iadd hx hb (dkP dF_96 DX6_leadOver (i := 45) rfl rfl) ?_
  refine z_top (y := nI ((i * 5) + 1)) (by simp only [fa_lit, nI_add, pk_mul]) ?_
  refine z_ialdN (n := 100) C0 hw 7 ((i * 5) + 1) (ak_of shc_7) (by omega) (by decide) (dkP dF_46 DX6_leadOver (i := 46) rfl rfl) ?_
  refine z_top (y := 0) rd_s ?_
  exact z_iret C0 hr hlk hw (⟨rfl, trivial⟩) (dkP dF_172 DX6_leadOver (i := 47) rfl rfl)
set_option maxRecDepth 100000 in
set_option maxHeartbeats 4000000 in
theorem c_X11_lead (l : Launch) (G : va_G) (kc : Nat → ClassId) (ad : Nat → Nat)  (i : Int32)  : MI l G kc yX11_lead cX11_lead 2 (some .int) 1 23 [.ref (ad 0), .int i] shC ad sC0 (fun r σ1 => r = if 0 ≤ i.toInt ∧ i.toInt ≤ 19 then 0 else -2000000000) := by
  intro sz
  refine z_body (y := yX11_lead) (n := 2) (av := [.ref (ad 0), .int i]) (Qc := fun A => va_Qi (fun r σ1 => r = if 0 ≤ i.toInt ∧ i.toInt ≤ 19 then 0 else -2000000000) (PoC G kc shC ad A) A) (plainFor_of_name (by decide)) (Nat.le_of_ble_eq_true rfl) (fun pr e s m below meth c A C0 hr hlk hnm hw ls hl => ?_) sz
  have hx := C0.1
  have hb := C0.2.1
  have hown := C0.2.2.2.1
  have hts := C0.2.2.2.2.1
  have hl : lv_has ls 2 [(0, .ref (ad 0)), (1, .int i)] := hl
  refine lv_aload_n hx hb (dkP dF_42 DX11_lead (i := 0) rfl rfl) rfl (lv_at hl 0 rfl) ?_
  refine z_gr C0 hw 0 0 1 (fk_of shc_0 rfl) fl_X11_10 (dk2 dF_180 DX11_lead (i := 1) rfl rfl rfl) ?_
  refine z_gr C0 hw 1 7 6 (fk_of shc_1 rfl) fl_X11_301 (dk2 dF_180 DX11_lead (i := 2) rfl rfl rfl) ?_
  refine lv_iload_n hx hb (dkP dF_27 DX11_lead (i := 3) rfl rfl) rfl (lv_at hl 1 rfl) ?_
  refine zk_I hw (zr_V (As := [.int i]) (rest := []) C0 (c_X6_has l G kc ad i  _) cv_X6_has lk_X11_310 (zp_V C0 hw 6 shc_6 rfl rfl) rfl hl.1 rfl ⟨by decide, by decide⟩ (Nat.le_of_ble_eq_true rfl) (dk2 dF_182 DX11_lead (i := 4) rfl rfl rfl) ⟨Nat.le_refl _, Nat.le_refl _⟩) (fun r1 s1 H locs hp hw => ?_)
  obtain ⟨hq1, hs1⟩ := hp
  (rw [hs1] at hw; clear hs1)
  rcases hq1 with ⟨rfl, hc1⟩ | ⟨rfl, hc1⟩
  · skip
    obtain ⟨k_i, hk_i, rfl⟩ := to_nat (x := i) (n := 20) (by (try simp only [lg_cmp_lt, lg_cmp_le, lg_cmp_gt, lg_cmp_ge, lg_cmp_eq] at hc1); (try simp (disch := omega) only [ta_lt, ta_le, ta_eq, tb_lt, tb_le, tb_eq, tw, tnI, tn32 1 (by decide), tnj 1 (by decide), tl32 0 (by decide), tl64 0 (by decide)] at hc1); (try simp (disch := omega) only [ta_lt, ta_le, ta_eq, tb_lt, tb_le, tb_eq, tw, tnI, tn32 1 (by decide), tnj 1 (by decide), tl32 0 (by decide), tl64 0 (by decide)]); omega)
    refine lv_if_eq (tgt := 28) hx hb (dkS dF_153 DX11_lead (i := 5) rfl rfl rfl) (by decide) (fun h => absurd h (by decide)) (fun _ => ?_)
    refine lv_aload_n hx hb (dkP dF_42 DX11_lead (i := 6) rfl rfl) rfl (lv_at hl 0 rfl) ?_
    refine z_gr C0 hw 0 0 1 (fk_of shc_0 rfl) fl_X11_10 (dk2 dF_180 DX11_lead (i := 7) rfl rfl rfl) ?_
    refine z_gr C0 hw 1 7 6 (fk_of shc_1 rfl) fl_X11_301 (dk2 dF_180 DX11_lead (i := 8) rfl rfl rfl) ?_
    refine lv_iload_n hx hb (dkP dF_27 DX11_lead (i := 9) rfl rfl) rfl (lv_at hl 1 rfl) ?_
    refine zk_I hw (zr_V (As := [.int (nI k_i)]) (rest := []) C0 (c_X6_leadOver_f l G kc ad k_i (by first | omega | assumption | decide | rfl) _) cv_X6_leadOver lk_X11_316 (zp_V C0 hw 6 shc_6 rfl rfl) rfl hl.1 rfl ⟨by decide, by decide⟩ (Nat.le_of_ble_eq_true rfl) (dk2 dF_182 DX11_lead (i := 10) rfl rfl rfl) ⟨Nat.le_refl _, Nat.le_refl _⟩) (fun r2 s2 H locs hp hw => ?_)
    obtain ⟨rfl, hs2⟩ := hp
    refine lv_goto (tgt := 30) hx hb (dkS dF_167 DX11_lead (i := 11) rfl rfl rfl) (by decide) ?_
    exact z_iret C0 hr hlk hw (by first | rfl | ((try simp only [lg_cmp_lt, lg_cmp_le, lg_cmp_gt, lg_cmp_ge, lg_cmp_eq] at hc1); (try simp (disch := omega) only [ta_lt, ta_le, ta_eq, tb_lt, tb_le, tb_eq, tw, tnI, tn32 1 (by decide), tnj 1 (by decide), tl32 0 (by decide), tl64 0 (by decide)] at hc1); (try simp only [lg_cmp_lt, lg_cmp_le, lg_cmp_gt, lg_cmp_ge, lg_cmp_eq] at hk_i); (try simp (disch := omega) only [ta_lt, ta_le, ta_eq, tb_lt, tb_le, tb_eq, tw, tnI, tn32 1 (by decide), tnj 1 (by decide), tl32 0 (by decide), tl64 0 (by decide)] at hk_i); (try simp (disch := omega) only [tnI, tn32 1 (by decide), tnj 1 (by decide), tl32 0 (by decide), tl64 0 (by decide)]); (repeat' split) <;> first | rfl | omega | (apply Int32.toInt_inj.mp; simp (disch := omega) only [tnI, tn32 1 (by decide), tnj 1 (by decide), tl32 0 (by decide), tl64 0 (by decide)]; omega))) (dkP dF_172 DX11_lead (i := 13) rfl rfl)
  · skip
    refine lv_if_eq (tgt := 28) hx hb (dkS dF_153 DX11_lead (i := 5) rfl rfl rfl) (by decide) (fun _ => ?_) (fun h => absurd h (by decide))
    refine lv_ldc hx hb hown (hts _ kn_X11_217) (dk1 dF_18 DX11_lead (i := 12) rfl rfl rfl) ?_
    exact z_iret C0 hr hlk hw (by first | rfl | ((try simp only [lg_cmp_lt, lg_cmp_le, lg_cmp_gt, lg_cmp_ge, lg_cmp_eq] at hc1); (try simp (disch := omega) only [ta_lt, ta_le, ta_eq, tb_lt, tb_le, tb_eq, tw, tnI, tn32 2000000000 (by decide), tnj 2000000000 (by decide), tn32 1 (by decide), tnj 1 (by decide), tl32 0 (by decide), tl64 0 (by decide)] at hc1); (try simp (disch := omega) only [tnI, tn32 2000000000 (by decide), tnj 2000000000 (by decide), tn32 1 (by decide), tnj 1 (by decide), tl32 0 (by decide), tl64 0 (by decide)]); (repeat' split) <;> first | rfl | omega | (apply Int32.toInt_inj.mp; simp (disch := omega) only [tnI, tn32 2000000000 (by decide), tnj 2000000000 (by decide), tn32 1 (by decide), tnj 1 (by decide), tl32 0 (by decide), tl64 0 (by decide)]; omega))) (dkP dF_172 DX11_lead (i := 13) rfl rfl)
set_option maxRecDepth 100000 in
set_option maxHeartbeats 4000000 in
theorem c_X6_leadOver_g (l : Launch) (G : va_G) (kc : Nat → ClassId) (ad : Nat → Nat) (σ : Sg)  (i : Nat) (hi : i < 20) (hm : ¬ σ.1 6 1 = 0) : MI l G kc yX6_leadOver cX6_leadOver 4 (some .int) 1 22 [.ref (ad 6), .int (nI i)] shC ad σ (fun r σ1 => Of σ σ1 7 1) := by
  intro sz
  refine z_body (y := yX6_leadOver) (n := 4) (av := [.ref (ad 6), .int (nI i)]) (Qc := fun A => va_Qi (fun r σ1 => Of σ σ1 7 1) (PoC G kc shC ad A) A) (plainFor_of_name (by decide)) (Nat.le_of_ble_eq_true rfl) (fun pr e s m below meth c A C0 hr hlk hnm hw ls hl => ?_) sz
  have hx := C0.1
  have hb := C0.2.1
  have hown := C0.2.2.2.1
  have hts := C0.2.2.2.2.1
  have hl : lv_has ls 4 [(0, .ref (ad 6)), (1, .int (nI i))] := hl
  refine lv_iload_n hx hb (dkP dF_27 DX6_leadOver (i := 0) rfl rfl) rfl (lv_at hl 1 rfl) ?_
  refine lv_iconst (v := 5) hx hb (dkP dF_8 DX6_leadOver (i := 1) rfl rfl) (by decide) ?_
  refine lv_imul hx hb (dkP dF_104 DX6_leadOver (i := 2) rfl rfl) ?_
  refine z_top (y := nI (i * 5)) (by simp only [fa_lit, nI_add, pk_mul]) ?_
  refine lv_istore_n (lv' := [(2, .int (nI (i * 5))), (0, .ref (ad 6)), (1, .int (nI i))]) hx hb (dkP dF_61 DX6_leadOver (i := 3) rfl rfl) rfl hl (by decide) rfl (fun ls hl => ?_)
  refine lv_aload_n hx hb (dkP dF_42 DX6_leadOver (i := 4) rfl rfl) rfl (lv_at hl 1 rfl) ?_
  refine z_gr C0 hw 6 0 7 (fk_of shc_6 rfl) fl_X6_11 (dk2 dF_180 DX6_leadOver (i := 5) rfl rfl rfl) ?_
  refine lv_iload_n hx hb (dkP dF_28 DX6_leadOver (i := 6) rfl rfl) rfl (lv_at hl 0 rfl) ?_
  refine lv_iconst (v := 3) hx hb (dkP dF_6 DX6_leadOver (i := 7) rfl rfl) (by decide) ?_
  refine lv_iadd hx hb (dkP dF_96 DX6_leadOver (i := 8) rfl rfl) ?_
  refine z_top (y := nI ((i * 5) + 3)) (by simp only [fa_lit, nI_add, pk_mul]) ?_
  refine lv_iconst (v := 0) hx hb (dkP dF_3 DX6_leadOver (i := 9) rfl rfl) (by decide) ?_
  refine z_iastN (n := 100) C0 hw 7 ((i * 5) + 3) (ak_of shc_7) (by omega) (by decide) (dkP dF_79 DX6_leadOver (i := 10) rfl rfl) (fun H locs hw => ?_)
  refine lv_aload_n hx hb (dkP dF_42 DX6_leadOver (i := 11) rfl rfl) rfl (lv_at hl 1 rfl) ?_
  refine z_gr C0 hw 6 0 7 (fk_of shc_6 rfl) fl_X6_11 (dk2 dF_180 DX6_leadOver (i := 12) rfl rfl rfl) ?_
  refine lv_iload_n hx hb (dkP dF_28 DX6_leadOver (i := 13) rfl rfl) rfl (lv_at hl 0 rfl) ?_
  refine lv_iconst (v := 2) hx hb (dkP dF_5 DX6_leadOver (i := 14) rfl rfl) (by decide) ?_
  refine lv_iadd hx hb (dkP dF_96 DX6_leadOver (i := 15) rfl rfl) ?_
  refine z_top (y := nI ((i * 5) + 2)) (by simp only [fa_lit, nI_add, pk_mul]) ?_
  refine z_ialdN (n := 100) C0 hw 7 ((i * 5) + 2) (ak_of shc_7) (by omega) (by decide) (dkP dF_46 DX6_leadOver (i := 16) rfl rfl) ?_
  refine lv_if_ne (tgt := 66) hx hb (dkS dF_154 DX6_leadOver (i := 17) rfl rfl rfl) (by decide) (fun c1 => ?_) (fun c1 => ?_)
  · skip
    refine lv_aload_n hx hb (dkP dF_42 DX6_leadOver (i := 48) rfl rfl) rfl (lv_at hl 1 rfl) ?_
    refine z_gr C0 hw 6 0 7 (fk_of shc_6 rfl) fl_X6_11 (dk2 dF_180 DX6_leadOver (i := 49) rfl rfl rfl) ?_
    refine lv_iload_n hx hb (dkP dF_28 DX6_leadOver (i := 50) rfl rfl) rfl (lv_at hl 0 rfl) ?_
    refine lv_iconst (v := 1) hx hb (dkP dF_4 DX6_leadOver (i := 51) rfl rfl) (by decide) ?_
    refine lv_iadd hx hb (dkP dF_96 DX6_leadOver (i := 52) rfl rfl) ?_
    refine z_top (y := nI ((i * 5) + 1)) (by simp only [fa_lit, nI_add, pk_mul]) ?_
    refine z_ialdN (n := 100) C0 hw 7 ((i * 5) + 1) (ak_of shc_7) (by omega) (by decide) (dkP dF_46 DX6_leadOver (i := 53) rfl rfl) ?_
    refine lv_aload_n hx hb (dkP dF_42 DX6_leadOver (i := 54) rfl rfl) rfl (lv_at hl 1 rfl) ?_
    refine z_gi C0 hw 6 2 (fk_of shc_6 rfl) fl_X6_25 (dk2 dF_180 DX6_leadOver (i := 55) rfl rfl rfl) ?_
    refine lv_isub hx hb (dkP dF_100 DX6_leadOver (i := 56) rfl rfl) ?_
    refine lv_topi (fun v2 ev2 => ?_)
    refine lv_istore_n (lv' := [(3, .int v2), (2, .int (nI (i * 5))), (0, .ref (ad 6)), (1, .int (nI i))]) hx hb (dkP dF_62 DX6_leadOver (i := 57) rfl rfl) rfl hl (by decide) rfl (fun ls hl => ?_)
    refine lv_aload_n hx hb (dkP dF_42 DX6_leadOver (i := 58) rfl rfl) rfl (lv_at hl 2 rfl) ?_
    refine z_gr C0 hw 6 0 7 (fk_of shc_6 rfl) fl_X6_11 (dk2 dF_180 DX6_leadOver (i := 59) rfl rfl rfl) ?_
    refine lv_iload_n hx hb (dkP dF_28 DX6_leadOver (i := 60) rfl rfl) rfl (lv_at hl 1 rfl) ?_
    refine lv_iconst (v := 4) hx hb (dkP dF_7 DX6_leadOver (i := 61) rfl rfl) (by decide) ?_
    refine lv_iadd hx hb (dkP dF_96 DX6_leadOver (i := 62) rfl rfl) ?_
    refine z_top (y := nI ((i * 5) + 4)) (by simp only [fa_lit, nI_add, pk_mul]) ?_
    refine lv_iload_n hx hb (dkP dF_29 DX6_leadOver (i := 63) rfl rfl) rfl (lv_at hl 0 rfl) ?_
    refine lv_aload_n hx hb (dkP dF_42 DX6_leadOver (i := 64) rfl rfl) rfl (lv_at hl 2 rfl) ?_
    refine z_gi C0 hw 6 1 (fk_of shc_6 rfl) fl_X6_15 (dk2 dF_180 DX6_leadOver (i := 65) rfl rfl rfl) ?_
    refine zn_I hw (zr_S (As := [.int v2, .int ((sI σ 7 ((i * 5) + 3) 0).1 6 1)]) (rest := [.int (nI ((i * 5) + 4)), .ref (ad 7)]) C0 (c_J9_floorMod_7cf53 l G kc v2 ((sI σ 7 ((i * 5) + 3) 0).1 6 1) (by first | exact hm | (simp (disch := omega) only [sI_o]; exact hm)) _) cs_J9_floorMod_7cf53 lk_X6_32 (zp_P C0 a00 s00) rfl hl.1 rfl ⟨by decide, by decide⟩ (Nat.le_of_ble_eq_true rfl) (dk2 dF_184 DX6_leadOver (i := 66) rfl rfl rfl) ⟨Nat.le_refl _, Nat.le_refl _⟩) (fun r3 s3 H locs hp hw => ?_)
    subst hp
    refine z_iastN (n := 100) C0 hw 7 ((i * 5) + 4) (ak_of shc_7) (by omega) (by decide) (dkP dF_79 DX6_leadOver (i := 67) rfl rfl) (fun H locs hw => ?_)
    refine lv_aload_n hx hb (dkP dF_42 DX6_leadOver (i := 68) rfl rfl) rfl (lv_at hl 2 rfl) ?_
    refine z_gr C0 hw 6 0 7 (fk_of shc_6 rfl) fl_X6_11 (dk2 dF_180 DX6_leadOver (i := 69) rfl rfl rfl) ?_
    refine lv_iload_n hx hb (dkP dF_28 DX6_leadOver (i := 70) rfl rfl) rfl (lv_at hl 1 rfl) ?_
    refine lv_iload_n hx hb (dkP dF_29 DX6_leadOver (i := 71) rfl rfl) rfl (lv_at hl 0 rfl) ?_
    refine lv_aload_n hx hb (dkP dF_42 DX6_leadOver (i := 72) rfl rfl) rfl (lv_at hl 2 rfl) ?_
    refine z_gi C0 hw 6 1 (fk_of shc_6 rfl) fl_X6_15 (dk2 dF_180 DX6_leadOver (i := 73) rfl rfl rfl) ?_
    refine zn_I hw (zr_S (As := [.int v2, .int ((sI (sI σ 7 ((i * 5) + 3) 0) 7 ((i * 5) + 4) (fmd v2 ((sI σ 7 ((i * 5) + 3) 0).1 6 1))).1 6 1)]) (rest := [.int (nI (i * 5)), .ref (ad 7)]) C0 (c_J9_floorDiv_7cf53 l G kc v2 ((sI (sI σ 7 ((i * 5) + 3) 0) 7 ((i * 5) + 4) (fmd v2 ((sI σ 7 ((i * 5) + 3) 0).1 6 1))).1 6 1) (by first | exact hm | (simp (disch := omega) only [sI_o]; exact hm)) _) cs_J9_floorDiv_7cf53 lk_X6_38 (zp_P C0 a00 s00) rfl hl.1 rfl ⟨by decide, by decide⟩ (Nat.le_of_ble_eq_true rfl) (dk2 dF_184 DX6_leadOver (i := 74) rfl rfl rfl) ⟨Nat.le_refl _, Nat.le_refl _⟩) (fun r4 s4 H locs hp hw => ?_)
    subst hp
    refine z_iastN (n := 100) C0 hw 7 (i * 5) (ak_of shc_7) (by omega) (by decide) (dkP dF_79 DX6_leadOver (i := 75) rfl rfl) (fun H locs hw => ?_)
    refine lv_aload_n hx hb (dkP dF_42 DX6_leadOver (i := 76) rfl rfl) rfl (lv_at hl 2 rfl) ?_
    refine z_gr C0 hw 6 0 7 (fk_of shc_6 rfl) fl_X6_11 (dk2 dF_180 DX6_leadOver (i := 77) rfl rfl rfl) ?_
    refine lv_iload_n hx hb (dkP dF_28 DX6_leadOver (i := 78) rfl rfl) rfl (lv_at hl 1 rfl) ?_
    refine z_ialdN (n := 100) C0 hw 7 (i * 5) (ak_of shc_7) (by omega) (by decide) (dkP dF_46 DX6_leadOver (i := 79) rfl rfl) ?_
    exact z_iret C0 hr hlk hw (Of.tI (Of.tI (Of.tI Of.refl (by omega)) (by omega)) (by omega)) (dkP dF_172 DX6_leadOver (i := 80) rfl rfl)
  · skip
    refine lv_aload_n hx hb (dkP dF_42 DX6_leadOver (i := 18) rfl rfl) rfl (lv_at hl 1 rfl) ?_
    refine z_gr C0 hw 6 0 7 (fk_of shc_6 rfl) fl_X6_11 (dk2 dF_180 DX6_leadOver (i := 19) rfl rfl rfl) ?_
    refine lv_iload_n hx hb (dkP dF_28 DX6_leadOver (i := 20) rfl rfl) rfl (lv_at hl 0 rfl) ?_
    refine lv_iconst (v := 4) hx hb (dkP dF_7 DX6_leadOver (i := 21) rfl rfl) (by decide) ?_
    refine lv_iadd hx hb (dkP dF_96 DX6_leadOver (i := 22) rfl rfl) ?_
    refine z_top (y := nI ((i * 5) + 4)) (by simp only [fa_lit, nI_add, pk_mul]) ?_
    refine lv_iconst (v := 0) hx hb (dkP dF_3 DX6_leadOver (i := 23) rfl rfl) (by decide) ?_
    refine z_iastN (n := 100) C0 hw 7 ((i * 5) + 4) (ak_of shc_7) (by omega) (by decide) (dkP dF_79 DX6_leadOver (i := 24) rfl rfl) (fun H locs hw => ?_)
    refine lv_aload_n hx hb (dkP dF_42 DX6_leadOver (i := 25) rfl rfl) rfl (lv_at hl 1 rfl) ?_
    refine z_gr C0 hw 6 0 7 (fk_of shc_6 rfl) fl_X6_11 (dk2 dF_180 DX6_leadOver (i := 26) rfl rfl rfl) ?_
    refine lv_iload_n hx hb (dkP dF_28 DX6_leadOver (i := 27) rfl rfl) rfl (lv_at hl 0 rfl) ?_
    refine lv_iconst (v := 1) hx hb (dkP dF_4 DX6_leadOver (i := 28) rfl rfl) (by decide) ?_
    refine lv_iadd hx hb (dkP dF_96 DX6_leadOver (i := 29) rfl rfl) ?_
    refine z_top (y := nI ((i * 5) + 1)) (by simp only [fa_lit, nI_add, pk_mul]) ?_
    refine lv_aload_n hx hb (dkP dF_42 DX6_leadOver (i := 30) rfl rfl) rfl (lv_at hl 1 rfl) ?_
    refine z_gi C0 hw 6 1 (fk_of shc_6 rfl) fl_X6_15 (dk2 dF_180 DX6_leadOver (i := 31) rfl rfl rfl) ?_
    refine lv_aload_n hx hb (dkP dF_42 DX6_leadOver (i := 32) rfl rfl) rfl (lv_at hl 1 rfl) ?_
    refine z_gr C0 hw 6 0 7 (fk_of shc_6 rfl) fl_X6_11 (dk2 dF_180 DX6_leadOver (i := 33) rfl rfl rfl) ?_
    refine lv_iload_n hx hb (dkP dF_28 DX6_leadOver (i := 34) rfl rfl) rfl (lv_at hl 0 rfl) ?_
    refine z_ialdN (n := 100) C0 hw 7 (i * 5) (ak_of shc_7) (by omega) (by decide) (dkP dF_46 DX6_leadOver (i := 35) rfl rfl) ?_
    refine lv_imul hx hb (dkP dF_104 DX6_leadOver (i := 36) rfl rfl) ?_
    refine lv_aload_n hx hb (dkP dF_42 DX6_leadOver (i := 37) rfl rfl) rfl (lv_at hl 1 rfl) ?_
    refine z_gi C0 hw 6 2 (fk_of shc_6 rfl) fl_X6_25 (dk2 dF_180 DX6_leadOver (i := 38) rfl rfl rfl) ?_
    refine lv_iadd hx hb (dkP dF_96 DX6_leadOver (i := 39) rfl rfl) ?_
    refine z_iastN (n := 100) C0 hw 7 ((i * 5) + 1) (ak_of shc_7) (by omega) (by decide) (dkP dF_79 DX6_leadOver (i := 40) rfl rfl) (fun H locs hw => ?_)
    refine lv_aload_n hx hb (dkP dF_42 DX6_leadOver (i := 41) rfl rfl) rfl (lv_at hl 1 rfl) ?_
    refine z_gr C0 hw 6 0 7 (fk_of shc_6 rfl) fl_X6_11 (dk2 dF_180 DX6_leadOver (i := 42) rfl rfl rfl) ?_
    refine lv_iload_n hx hb (dkP dF_28 DX6_leadOver (i := 43) rfl rfl) rfl (lv_at hl 0 rfl) ?_
    refine lv_iconst (v := 1) hx hb (dkP dF_4 DX6_leadOver (i := 44) rfl rfl) (by decide) ?_
    refine lv_iadd hx hb (dkP dF_96 DX6_leadOver (i := 45) rfl rfl) ?_
    refine z_top (y := nI ((i * 5) + 1)) (by simp only [fa_lit, nI_add, pk_mul]) ?_
    refine z_ialdN (n := 100) C0 hw 7 ((i * 5) + 1) (ak_of shc_7) (by omega) (by decide) (dkP dF_46 DX6_leadOver (i := 46) rfl rfl) ?_
    exact z_iret C0 hr hlk hw (Of.tI (Of.tI (Of.tI Of.refl (by omega)) (by omega)) (by omega)) (dkP dF_172 DX6_leadOver (i := 47) rfl rfl)
set_option maxRecDepth 100000 in
set_option maxHeartbeats 4000000 in
theorem c_X6_reform (l : Launch) (G : va_G) (kc : Nat → ClassId) (ad : Nat → Nat) (σ : Sg)  (m2 : Int32) (k2 : Int32) (hm : ¬ m2 = 0) : MV l G kc yX6_reform cX6_reform 4 2 45 [.ref (ad 6), .int m2, .int k2] shC ad σ (fun σ1 => True) := by
  intro sz
  refine z_body (y := yX6_reform) (n := 4) (av := [.ref (ad 6), .int m2, .int k2]) (Qc := fun A => va_Qv (fun σ1 => True) (PoC G kc shC ad A) A) (plainFor_of_name (by decide)) (Nat.le_of_ble_eq_true rfl) (fun pr e s m below meth c A C0 hr hlk hnm hw ls hl => ?_) sz
  have hx := C0.1
  have hb := C0.2.1
  have hown := C0.2.2.2.1
  have hts := C0.2.2.2.2.1
  have hl : lv_has ls 4 [(0, .ref (ad 6)), (1, .int m2), (2, .int k2)] := hl
  refine lv_aload_n hx hb (dkP dF_42 DX6_reform (i := 0) rfl rfl) rfl (lv_at hl 0 rfl) ?_
  refine lv_iload_n hx hb (dkP dF_27 DX6_reform (i := 1) rfl rfl) rfl (lv_at hl 1 rfl) ?_
  refine z_pi C0 hw 6 1 (fk_of shc_6 rfl) fp_X6_15 (dk2 dF_181 DX6_reform (i := 2) rfl rfl rfl) (fun H locs hw => ?_)
  refine lv_aload_n hx hb (dkP dF_42 DX6_reform (i := 3) rfl rfl) rfl (lv_at hl 0 rfl) ?_
  refine lv_iload_n hx hb (dkP dF_28 DX6_reform (i := 4) rfl rfl) rfl (lv_at hl 2 rfl) ?_
  refine z_pi C0 hw 6 2 (fk_of shc_6 rfl) fp_X6_25 (dk2 dF_181 DX6_reform (i := 5) rfl rfl rfl) (fun H locs hw => ?_)
  refine lv_iconst (v := 0) hx hb (dkP dF_3 DX6_reform (i := 6) rfl rfl) (by decide) ?_
  refine lv_istore_n (lv' := [(3, .int 0), (0, .ref (ad 6)), (1, .int m2), (2, .int k2)]) hx hb (dkP dF_62 DX6_reform (i := 7) rfl rfl) rfl hl (by decide) rfl (fun ls hl => ?_)
  have lp1 : ∀ (n : Nat) (i : Nat) (τ : Sg) (H : Heap) (locs : List Loc) (ls : Array Slot), 20 - i < n → (i ≤ 20) → (¬ τ.1 6 1 = 0) → St G kc A s.heap shC ad τ H locs → lv_has ls 4 [(3, .int (nI i)), (0, .ref (ad 6)), (1, .int m2), (2, .int k2)] → W pr l e { frames := 2, cells := 0, slots := 0, locals := 45 } s m ([.ref (ad 6), .int m2, .int k2] : List Value).toArray below meth c H locs 0 0 (MQ below (va_Qv (fun σ1 => True) (PoC G kc shC ad A) A) ([.ref (ad 6), .int m2, .int k2] : List Value).toArray s 0 0 A) (F0 m 12 ls []) := by
    intro n
    induction n with
    | zero => intro i τ H locs ls hmu; exact absurd hmu (Nat.not_lt_zero _)
    | succ n ih1 =>
      intro i τ H locs ls hmu hi hτ hw hl
      refine lv_iload_n hx hb (dkP dF_29 DX6_reform (i := 8) rfl rfl) rfl (lv_at hl 0 rfl) ?_
      refine lv_bipush (v := 20) hx hb (dks dF_16 DX6_reform (i := 9) rfl rfl rfl) (by decide) ?_
      refine lv_icmp_ge (tgt := 30) hx hb (dkS dF_162 DX6_reform (i := 10) rfl rfl rfl) (by decide) (fun c2 => ?_) (fun c2 => ?_)
      · simp (disch := omega) only [ta_lt, ta_le, ta_eq, tnI, tl32 20 (by decide)] at c2
        exact z_vret C0 hr hlk hw trivial (dkP dF_177 DX6_reform (i := 17) rfl rfl)
      · simp (disch := omega) only [ta_lt, ta_le, ta_eq, tnI, tl32 20 (by decide)] at c2
        refine lv_aload_n hx hb (dkP dF_42 DX6_reform (i := 11) rfl rfl) rfl (lv_at hl 1 rfl) ?_
        refine lv_iload_n hx hb (dkP dF_29 DX6_reform (i := 12) rfl rfl) rfl (lv_at hl 0 rfl) ?_
        refine zk_I hw (zr_V (As := [.int (nI i)]) (rest := []) C0 (c_X6_leadOver_g l G kc ad τ i (by first | omega | assumption | decide | rfl) (by first | omega | assumption | decide | rfl) _) cv_X6_leadOver lk_X6_28 (zp_V C0 hw 6 shc_6 rfl rfl) rfl hl.1 rfl ⟨by decide, by decide⟩ (Nat.le_of_ble_eq_true rfl) (dk2 dF_182 DX6_reform (i := 13) rfl rfl rfl) ⟨Nat.le_refl _, Nat.le_refl _⟩) (fun r3 s3 H locs hp hw => ?_)
        have hp3 := hp
        refine lv_pop hx hb (dkP dF_87 DX6_reform (i := 14) rfl rfl) rfl ?_
        refine lv_iinc (v := nI (i + 1)) (lv' := [(3, .int (nI (i + 1))), (0, .ref (ad 6)), (1, .int m2), (2, .int k2)]) hx hb (dkI DX6_reform (i := 15) rfl rfl rfl rfl) hl (k := 0) rfl (nI_1 _) (by decide) rfl (fun ls hl => ?_)
        refine lv_goto (tgt := 12) hx hb (dkS dF_167 DX6_reform (i := 16) rfl rfl rfl) (by decide) ?_
        exact ih1 (i + 1) s3 _ _ _ (by omega) (by omega) (by rw [hp3.1 6 (by omega)]; exact hτ) hw (lv_sub hl [0, 1, 2, 3] rfl)
  exact lp1 _ 0 (sI (sI σ 6 1 m2) 6 2 k2) _ _ _ (Nat.lt_succ_self _) (by omega) (by rw [rd_n (by omega), rd_s]; exact hm) hw (lv_sub hl [0, 1, 2, 3] rfl)
set_option maxRecDepth 100000 in
set_option maxHeartbeats 4000000 in
theorem c_X11_form (l : Launch) (G : va_G) (kc : Nat → ClassId) (ad : Nat → Nat)  (m2 : Int32) (k2 : Int32)  : MI l G kc yX11_form cX11_form 3 (some .int) 3 68 [.ref (ad 0), .int m2, .int k2] shC ad sC0 (fun r σ1 => r = if 1 ≤ m2.toInt ∧ m2.toInt ≤ 9 ∧ -99 ≤ k2.toInt ∧ k2.toInt ≤ 99 then 0 else -2) := by
  intro sz
  refine z_body (y := yX11_form) (n := 3) (av := [.ref (ad 0), .int m2, .int k2]) (Qc := fun A => va_Qi (fun r σ1 => r = if 1 ≤ m2.toInt ∧ m2.toInt ≤ 9 ∧ -99 ≤ k2.toInt ∧ k2.toInt ≤ 99 then 0 else -2) (PoC G kc shC ad A) A) (plainFor_of_name (by decide)) (Nat.le_of_ble_eq_true rfl) (fun pr e s m below meth c A C0 hr hlk hnm hw ls hl => ?_) sz
  have hx := C0.1
  have hb := C0.2.1
  have hown := C0.2.2.2.1
  have hts := C0.2.2.2.2.1
  have hl : lv_has ls 3 [(0, .ref (ad 0)), (1, .int m2), (2, .int k2)] := hl
  refine lv_iload_n hx hb (dkP dF_27 DX11_form (i := 0) rfl rfl) rfl (lv_at hl 1 rfl) ?_
  refine lv_iconst (v := 1) hx hb (dkP dF_4 DX11_form (i := 1) rfl rfl) (by decide) ?_
  refine lv_icmp_lt (tgt := 18) hx hb (dkS dF_161 DX11_form (i := 2) rfl rfl rfl) (by decide) (fun c1 => ?_) (fun c1 => ?_)
  · skip
    refine lv_bipush (v := (-2)) hx hb (dks dF_16 DX11_form (i := 9) rfl rfl rfl) (by decide) ?_
    exact z_iret C0 hr hlk hw (by first | rfl | ((try simp only [lg_cmp_lt, lg_cmp_le, lg_cmp_gt, lg_cmp_ge, lg_cmp_eq] at c1); (try simp (disch := omega) only [ta_lt, ta_le, ta_eq, tb_lt, tb_le, tb_eq, tw, tnI, tn32 2 (by decide), tnj 2 (by decide), tn32 1 (by decide), tnj 1 (by decide), tl32 0 (by decide), tl64 0 (by decide), tl32 1 (by decide), tl64 1 (by decide)] at c1); (try simp (disch := omega) only [tnI, tn32 2 (by decide), tnj 2 (by decide), tn32 1 (by decide), tnj 1 (by decide), tl32 0 (by decide), tl64 0 (by decide), tl32 1 (by decide), tl64 1 (by decide)]); (repeat' split) <;> first | rfl | omega | (apply Int32.toInt_inj.mp; simp (disch := omega) only [tnI, tn32 2 (by decide), tnj 2 (by decide), tn32 1 (by decide), tnj 1 (by decide), tl32 0 (by decide), tl64 0 (by decide), tl32 1 (by decide), tl64 1 (by decide)]; omega))) (dkP dF_172 DX11_form (i := 10) rfl rfl)
  · skip
    refine lv_iload_n hx hb (dkP dF_27 DX11_form (i := 3) rfl rfl) rfl (lv_at hl 1 rfl) ?_
    refine lv_bipush (v := 9) hx hb (dks dF_16 DX11_form (i := 4) rfl rfl rfl) (by decide) ?_
    refine lv_icmp_gt (tgt := 18) hx hb (dkS dF_163 DX11_form (i := 5) rfl rfl rfl) (by decide) (fun c2 => ?_) (fun c2 => ?_)
    · skip
      refine lv_bipush (v := (-2)) hx hb (dks dF_16 DX11_form (i := 9) rfl rfl rfl) (by decide) ?_
      exact z_iret C0 hr hlk hw (by first | rfl | ((try simp only [lg_cmp_lt, lg_cmp_le, lg_cmp_gt, lg_cmp_ge, lg_cmp_eq] at c1); (try simp (disch := omega) only [ta_lt, ta_le, ta_eq, tb_lt, tb_le, tb_eq, tw, tnI, tn32 2 (by decide), tnj 2 (by decide), tn32 1 (by decide), tnj 1 (by decide), tl32 0 (by decide), tl64 0 (by decide), tl32 1 (by decide), tl64 1 (by decide), tl32 9 (by decide), tl64 9 (by decide)] at c1); (try simp only [lg_cmp_lt, lg_cmp_le, lg_cmp_gt, lg_cmp_ge, lg_cmp_eq] at c2); (try simp (disch := omega) only [ta_lt, ta_le, ta_eq, tb_lt, tb_le, tb_eq, tw, tnI, tn32 2 (by decide), tnj 2 (by decide), tn32 1 (by decide), tnj 1 (by decide), tl32 0 (by decide), tl64 0 (by decide), tl32 1 (by decide), tl64 1 (by decide), tl32 9 (by decide), tl64 9 (by decide)] at c2); (try simp (disch := omega) only [tnI, tn32 2 (by decide), tnj 2 (by decide), tn32 1 (by decide), tnj 1 (by decide), tl32 0 (by decide), tl64 0 (by decide), tl32 1 (by decide), tl64 1 (by decide), tl32 9 (by decide), tl64 9 (by decide)]); (repeat' split) <;> first | rfl | omega | (apply Int32.toInt_inj.mp; simp (disch := omega) only [tnI, tn32 2 (by decide), tnj 2 (by decide), tn32 1 (by decide), tnj 1 (by decide), tl32 0 (by decide), tl64 0 (by decide), tl32 1 (by decide), tl64 1 (by decide), tl32 9 (by decide), tl64 9 (by decide)]; omega))) (dkP dF_172 DX11_form (i := 10) rfl rfl)
    · skip
      refine lv_iload_n hx hb (dkP dF_28 DX11_form (i := 6) rfl rfl) rfl (lv_at hl 2 rfl) ?_
      refine zn_I hw (zr_S (As := [.int k2]) (rest := []) C0 (c_X11_isEdge l G kc k2  _) cs_X11_isEdge lk_X11_133 (zp_P C0 a00 s00) rfl hl.1 rfl ⟨by decide, by decide⟩ (Nat.le_of_ble_eq_true rfl) (dk2 dF_184 DX11_form (i := 7) rfl rfl rfl) ⟨Nat.le_refl _, Nat.le_refl _⟩) (fun r3 s3 H locs hp hw => ?_)
      rcases hp with ⟨rfl, hc3⟩ | ⟨rfl, hc3⟩
      · skip
        refine lv_if_ne (tgt := 21) hx hb (dkS dF_154 DX11_form (i := 8) rfl rfl rfl) (by decide) (fun _ => ?_) (fun h => absurd h (by decide))
        refine lv_aload_n hx hb (dkP dF_42 DX11_form (i := 11) rfl rfl) rfl (lv_at hl 0 rfl) ?_
        refine z_gr C0 hw 0 0 1 (fk_of shc_0 rfl) fl_X11_10 (dk2 dF_180 DX11_form (i := 12) rfl rfl rfl) ?_
        refine z_gr C0 hw 1 7 6 (fk_of shc_1 rfl) fl_X11_301 (dk2 dF_180 DX11_form (i := 13) rfl rfl rfl) ?_
        refine lv_iload_n hx hb (dkP dF_27 DX11_form (i := 14) rfl rfl) rfl (lv_at hl 1 rfl) ?_
        refine lv_iload_n hx hb (dkP dF_28 DX11_form (i := 15) rfl rfl) rfl (lv_at hl 2 rfl) ?_
        refine zk_V hw (zr_V (As := [.int m2, .int k2]) (rest := []) C0 (c_X6_reform l G kc ad sC0 m2 k2 (by intro z; have z2 : m2.toInt = 0 := (by rw [z]; rfl); (try simp (disch := omega) only [ta_lt, ta_le, ta_eq, tb_lt, tb_le, tb_eq, tw, tnI, tn32 2 (by decide), tnj 2 (by decide), tn32 1 (by decide), tnj 1 (by decide), tl32 0 (by decide), tl64 0 (by decide), tl32 1 (by decide), tl64 1 (by decide), tl32 9 (by decide), tl64 9 (by decide)] at c1); (try simp (disch := omega) only [ta_lt, ta_le, ta_eq, tb_lt, tb_le, tb_eq, tw, tnI, tn32 2 (by decide), tnj 2 (by decide), tn32 1 (by decide), tnj 1 (by decide), tl32 0 (by decide), tl64 0 (by decide), tl32 1 (by decide), tl64 1 (by decide), tl32 9 (by decide), tl64 9 (by decide)] at c2); (try simp (disch := omega) only [ta_lt, ta_le, ta_eq, tb_lt, tb_le, tb_eq, tw, tnI, tn32 2 (by decide), tnj 2 (by decide), tn32 1 (by decide), tnj 1 (by decide), tl32 0 (by decide), tl64 0 (by decide), tl32 1 (by decide), tl64 1 (by decide), tl32 9 (by decide), tl64 9 (by decide)] at hc3); omega) _) cv_X6_reform lk_X11_305 (zp_V C0 hw 6 shc_6 rfl rfl) rfl hl.1 rfl ⟨by decide, by decide⟩ (Nat.le_of_ble_eq_true rfl) (dk2 dF_182 DX11_form (i := 16) rfl rfl rfl) ⟨Nat.le_refl _, Nat.le_refl _⟩) (fun s4 H locs hp hw => ?_)
        refine lv_iconst (v := 0) hx hb (dkP dF_3 DX11_form (i := 17) rfl rfl) (by decide) ?_
        exact z_iret C0 hr hlk hw (by first | rfl | ((try simp only [lg_cmp_lt, lg_cmp_le, lg_cmp_gt, lg_cmp_ge, lg_cmp_eq] at c1); (try simp (disch := omega) only [ta_lt, ta_le, ta_eq, tb_lt, tb_le, tb_eq, tw, tnI, tn32 2 (by decide), tnj 2 (by decide), tn32 1 (by decide), tnj 1 (by decide), tl32 0 (by decide), tl64 0 (by decide), tl32 1 (by decide), tl64 1 (by decide), tl32 9 (by decide), tl64 9 (by decide)] at c1); (try simp only [lg_cmp_lt, lg_cmp_le, lg_cmp_gt, lg_cmp_ge, lg_cmp_eq] at c2); (try simp (disch := omega) only [ta_lt, ta_le, ta_eq, tb_lt, tb_le, tb_eq, tw, tnI, tn32 2 (by decide), tnj 2 (by decide), tn32 1 (by decide), tnj 1 (by decide), tl32 0 (by decide), tl64 0 (by decide), tl32 1 (by decide), tl64 1 (by decide), tl32 9 (by decide), tl64 9 (by decide)] at c2); (try simp only [lg_cmp_lt, lg_cmp_le, lg_cmp_gt, lg_cmp_ge, lg_cmp_eq] at hc3); (try simp (disch := omega) only [ta_lt, ta_le, ta_eq, tb_lt, tb_le, tb_eq, tw, tnI, tn32 2 (by decide), tnj 2 (by decide), tn32 1 (by decide), tnj 1 (by decide), tl32 0 (by decide), tl64 0 (by decide), tl32 1 (by decide), tl64 1 (by decide), tl32 9 (by decide), tl64 9 (by decide)] at hc3); (try simp (disch := omega) only [tnI, tn32 2 (by decide), tnj 2 (by decide), tn32 1 (by decide), tnj 1 (by decide), tl32 0 (by decide), tl64 0 (by decide), tl32 1 (by decide), tl64 1 (by decide), tl32 9 (by decide), tl64 9 (by decide)]); (repeat' split) <;> first | rfl | omega | (apply Int32.toInt_inj.mp; simp (disch := omega) only [tnI, tn32 2 (by decide), tnj 2 (by decide), tn32 1 (by decide), tnj 1 (by decide), tl32 0 (by decide), tl64 0 (by decide), tl32 1 (by decide), tl64 1 (by decide), tl32 9 (by decide), tl64 9 (by decide)]; omega))) (dkP dF_172 DX11_form (i := 18) rfl rfl)
      · skip
        refine lv_if_ne (tgt := 21) hx hb (dkS dF_154 DX11_form (i := 8) rfl rfl rfl) (by decide) (fun h => absurd h (by decide)) (fun _ => ?_)
        refine lv_bipush (v := (-2)) hx hb (dks dF_16 DX11_form (i := 9) rfl rfl rfl) (by decide) ?_
        exact z_iret C0 hr hlk hw (by first | rfl | ((try simp only [lg_cmp_lt, lg_cmp_le, lg_cmp_gt, lg_cmp_ge, lg_cmp_eq] at c1); (try simp (disch := omega) only [ta_lt, ta_le, ta_eq, tb_lt, tb_le, tb_eq, tw, tnI, tn32 2 (by decide), tnj 2 (by decide), tn32 1 (by decide), tnj 1 (by decide), tl32 0 (by decide), tl64 0 (by decide), tl32 1 (by decide), tl64 1 (by decide), tl32 9 (by decide), tl64 9 (by decide)] at c1); (try simp only [lg_cmp_lt, lg_cmp_le, lg_cmp_gt, lg_cmp_ge, lg_cmp_eq] at c2); (try simp (disch := omega) only [ta_lt, ta_le, ta_eq, tb_lt, tb_le, tb_eq, tw, tnI, tn32 2 (by decide), tnj 2 (by decide), tn32 1 (by decide), tnj 1 (by decide), tl32 0 (by decide), tl64 0 (by decide), tl32 1 (by decide), tl64 1 (by decide), tl32 9 (by decide), tl64 9 (by decide)] at c2); (try simp only [lg_cmp_lt, lg_cmp_le, lg_cmp_gt, lg_cmp_ge, lg_cmp_eq] at hc3); (try simp (disch := omega) only [ta_lt, ta_le, ta_eq, tb_lt, tb_le, tb_eq, tw, tnI, tn32 2 (by decide), tnj 2 (by decide), tn32 1 (by decide), tnj 1 (by decide), tl32 0 (by decide), tl64 0 (by decide), tl32 1 (by decide), tl64 1 (by decide), tl32 9 (by decide), tl64 9 (by decide)] at hc3); (try simp (disch := omega) only [tnI, tn32 2 (by decide), tnj 2 (by decide), tn32 1 (by decide), tnj 1 (by decide), tl32 0 (by decide), tl64 0 (by decide), tl32 1 (by decide), tl64 1 (by decide), tl32 9 (by decide), tl64 9 (by decide)]); (repeat' split) <;> first | rfl | omega | (apply Int32.toInt_inj.mp; simp (disch := omega) only [tnI, tn32 2 (by decide), tnj 2 (by decide), tn32 1 (by decide), tnj 1 (by decide), tl32 0 (by decide), tl64 0 (by decide), tl32 1 (by decide), tl64 1 (by decide), tl32 9 (by decide), tl64 9 (by decide)]; omega))) (dkP dF_172 DX11_form (i := 10) rfl rfl)
set_option maxRecDepth 100000 in
set_option maxHeartbeats 4000000 in
theorem c_X6_enter (l : Launch) (G : va_G) (kc : Nat → ClassId) (ad : Nat → Nat)  (i : Nat) (sd : Nat) (v : Int32) (hi : i < 20) (hs : sd < 2) : MI l G kc yX6_enter cX6_enter 5 (some .int) 0 0 [.ref (ad 6), .int (nI i), .int (nI sd), .int v] shC ad sC0 (fun r σ1 => r = 1 ∧ True) := by
  intro sz
  refine z_body (y := yX6_enter) (n := 5) (av := [.ref (ad 6), .int (nI i), .int (nI sd), .int v]) (Qc := fun A => va_Qi (fun r σ1 => r = 1 ∧ True) (PoC G kc shC ad A) A) (plainFor_of_name (by decide)) (Nat.le_of_ble_eq_true rfl) (fun pr e s m below meth c A C0 hr hlk hnm hw ls hl => ?_) sz
  have hx := C0.1
  have hb := C0.2.1
  have hown := C0.2.2.2.1
  have hts := C0.2.2.2.2.1
  have hl : lv_has ls 5 [(0, .ref (ad 6)), (1, .int (nI i)), (2, .int (nI sd)), (3, .int v)] := hl
  refine lv_iload_n hx hb (dkP dF_27 DX6_enter (i := 0) rfl rfl) rfl (lv_at hl 1 rfl) ?_
  refine lv_iconst (v := 5) hx hb (dkP dF_8 DX6_enter (i := 1) rfl rfl) (by decide) ?_
  refine lv_imul hx hb (dkP dF_104 DX6_enter (i := 2) rfl rfl) ?_
  refine z_top (y := nI (i * 5)) (by simp only [fa_lit, nI_add, pk_mul]) ?_
  refine lv_istore (lv' := [(4, .int (nI (i * 5))), (0, .ref (ad 6)), (1, .int (nI i)), (2, .int (nI sd)), (3, .int v)]) hx hb (dk1 dF_54 DX6_enter (i := 3) rfl rfl rfl) hl (by decide) rfl (fun ls hl => ?_)
  refine lv_aload_n hx hb (dkP dF_42 DX6_enter (i := 4) rfl rfl) rfl (lv_at hl 1 rfl) ?_
  refine z_gr C0 hw 6 0 7 (fk_of shc_6 rfl) fl_X6_11 (dk2 dF_180 DX6_enter (i := 5) rfl rfl rfl) ?_
  refine lv_iload hx hb (dk1 dF_21 DX6_enter (i := 6) rfl rfl rfl) (lv_at hl 0 rfl) ?_
  refine lv_iload_n hx hb (dkP dF_28 DX6_enter (i := 7) rfl rfl) rfl (lv_at hl 3 rfl) ?_
  refine lv_iadd hx hb (dkP dF_96 DX6_enter (i := 8) rfl rfl) ?_
  refine z_top (y := nI ((i * 5) + sd)) (by simp only [fa_lit, nI_add, pk_mul]) ?_
  refine lv_iload_n hx hb (dkP dF_29 DX6_enter (i := 9) rfl rfl) rfl (lv_at hl 4 rfl) ?_
  refine z_iastN (n := 100) C0 hw 7 ((i * 5) + sd) (ak_of shc_7) (by omega) (by decide) (dkP dF_79 DX6_enter (i := 10) rfl rfl) (fun H locs hw => ?_)
  refine lv_aload_n hx hb (dkP dF_42 DX6_enter (i := 11) rfl rfl) rfl (lv_at hl 1 rfl) ?_
  refine z_gr C0 hw 6 0 7 (fk_of shc_6 rfl) fl_X6_11 (dk2 dF_180 DX6_enter (i := 12) rfl rfl rfl) ?_
  refine lv_iload hx hb (dk1 dF_21 DX6_enter (i := 13) rfl rfl rfl) (lv_at hl 0 rfl) ?_
  refine lv_iconst (v := 2) hx hb (dkP dF_5 DX6_enter (i := 14) rfl rfl) (by decide) ?_
  refine lv_iadd hx hb (dkP dF_96 DX6_enter (i := 15) rfl rfl) ?_
  refine z_top (y := nI ((i * 5) + 2)) (by simp only [fa_lit, nI_add, pk_mul]) ?_
  refine z_ialdN (n := 100) C0 hw 7 ((i * 5) + 2) (ak_of shc_7) (by omega) (by decide) (dkP dF_46 DX6_enter (i := 16) rfl rfl) ?_
  refine z_top (y := 0) ((rd_n (by omega)).trans (s0a_7 _)) ?_
  refine lv_iload_n hx hb (dkP dF_28 DX6_enter (i := 17) rfl rfl) rfl (lv_at hl 3 rfl) ?_
  refine lv_icmp_ne (tgt := 44) hx hb (dkS dF_160 DX6_enter (i := 18) rfl rfl rfl) (by decide) (fun c1 => ?_) (fun c1 => ?_)
  · simp (disch := omega) only [ta_lt, ta_le, ta_eq, tnI, tl32 0 (by decide)] at c1
    refine lv_aload_n hx hb (dkP dF_42 DX6_enter (i := 30) rfl rfl) rfl (lv_at hl 1 rfl) ?_
    refine z_gr C0 hw 6 0 7 (fk_of shc_6 rfl) fl_X6_11 (dk2 dF_180 DX6_enter (i := 31) rfl rfl rfl) ?_
    refine lv_iload hx hb (dk1 dF_21 DX6_enter (i := 32) rfl rfl rfl) (lv_at hl 0 rfl) ?_
    refine lv_iconst (v := 2) hx hb (dkP dF_5 DX6_enter (i := 33) rfl rfl) (by decide) ?_
    refine lv_iadd hx hb (dkP dF_96 DX6_enter (i := 34) rfl rfl) ?_
    refine z_top (y := nI ((i * 5) + 2)) (by simp only [fa_lit, nI_add, pk_mul]) ?_
    refine lv_iload_n hx hb (dkP dF_28 DX6_enter (i := 35) rfl rfl) rfl (lv_at hl 3 rfl) ?_
    refine z_iastN (n := 100) C0 hw 7 ((i * 5) + 2) (ak_of shc_7) (by omega) (by decide) (dkP dF_79 DX6_enter (i := 36) rfl rfl) (fun H locs hw => ?_)
    refine lv_aload_n hx hb (dkP dF_42 DX6_enter (i := 37) rfl rfl) rfl (lv_at hl 1 rfl) ?_
    refine z_gr C0 hw 6 0 7 (fk_of shc_6 rfl) fl_X6_11 (dk2 dF_180 DX6_enter (i := 38) rfl rfl rfl) ?_
    refine lv_iload hx hb (dk1 dF_21 DX6_enter (i := 39) rfl rfl rfl) (lv_at hl 0 rfl) ?_
    refine lv_iconst (v := 3) hx hb (dkP dF_6 DX6_enter (i := 40) rfl rfl) (by decide) ?_
    refine lv_iadd hx hb (dkP dF_96 DX6_enter (i := 41) rfl rfl) ?_
    refine z_top (y := nI ((i * 5) + 3)) (by simp only [fa_lit, nI_add, pk_mul]) ?_
    refine lv_iconst (v := 1) hx hb (dkP dF_4 DX6_enter (i := 42) rfl rfl) (by decide) ?_
    refine z_iastN (n := 100) C0 hw 7 ((i * 5) + 3) (ak_of shc_7) (by omega) (by decide) (dkP dF_79 DX6_enter (i := 43) rfl rfl) (fun H locs hw => ?_)
    refine lv_aload_n hx hb (dkP dF_42 DX6_enter (i := 44) rfl rfl) rfl (lv_at hl 1 rfl) ?_
    refine z_gr C0 hw 6 0 7 (fk_of shc_6 rfl) fl_X6_11 (dk2 dF_180 DX6_enter (i := 45) rfl rfl rfl) ?_
    refine lv_iload hx hb (dk1 dF_21 DX6_enter (i := 46) rfl rfl rfl) (lv_at hl 0 rfl) ?_
    refine lv_iconst (v := 3) hx hb (dkP dF_6 DX6_enter (i := 47) rfl rfl) (by decide) ?_
    refine lv_iadd hx hb (dkP dF_96 DX6_enter (i := 48) rfl rfl) ?_
    refine z_top (y := nI ((i * 5) + 3)) (by simp only [fa_lit, nI_add, pk_mul]) ?_
    refine z_ialdN (n := 100) C0 hw 7 ((i * 5) + 3) (ak_of shc_7) (by omega) (by decide) (dkP dF_46 DX6_enter (i := 49) rfl rfl) ?_
    refine z_top (y := 1) rd_s ?_
    exact z_iret C0 hr hlk hw (⟨rfl, trivial⟩) (dkP dF_172 DX6_enter (i := 50) rfl rfl)
  · simp (disch := omega) only [ta_lt, ta_le, ta_eq, tnI, tl32 0 (by decide)] at c1
    refine lv_aload_n hx hb (dkP dF_42 DX6_enter (i := 19) rfl rfl) rfl (lv_at hl 1 rfl) ?_
    refine z_gr C0 hw 6 0 7 (fk_of shc_6 rfl) fl_X6_11 (dk2 dF_180 DX6_enter (i := 20) rfl rfl rfl) ?_
    refine lv_iload hx hb (dk1 dF_21 DX6_enter (i := 21) rfl rfl rfl) (lv_at hl 0 rfl) ?_
    refine lv_iconst (v := 3) hx hb (dkP dF_6 DX6_enter (i := 22) rfl rfl) (by decide) ?_
    refine lv_iadd hx hb (dkP dF_96 DX6_enter (i := 23) rfl rfl) ?_
    refine z_top (y := nI ((i * 5) + 3)) (by simp only [fa_lit, nI_add, pk_mul]) ?_
    refine lv_dup2_11 hx hb (dkP dF_92 DX6_enter (i := 24) rfl rfl) rfl rfl ?_
    refine z_ialdN (n := 100) C0 hw 7 ((i * 5) + 3) (ak_of shc_7) (by omega) (by decide) (dkP dF_46 DX6_enter (i := 25) rfl rfl) ?_
    refine z_top (y := 0) ((rd_n (by omega)).trans (s0a_7 _)) ?_
    refine lv_iconst (v := 1) hx hb (dkP dF_4 DX6_enter (i := 26) rfl rfl) (by decide) ?_
    refine lv_iadd hx hb (dkP dF_96 DX6_enter (i := 27) rfl rfl) ?_
    refine z_top (y := 1) (by decide) ?_
    refine z_iastN (n := 100) C0 hw 7 ((i * 5) + 3) (ak_of shc_7) (by omega) (by decide) (dkP dF_79 DX6_enter (i := 28) rfl rfl) (fun H locs hw => ?_)
    refine lv_goto (tgt := 64) hx hb (dkS dF_167 DX6_enter (i := 29) rfl rfl rfl) (by decide) ?_
    refine lv_aload_n hx hb (dkP dF_42 DX6_enter (i := 44) rfl rfl) rfl (lv_at hl 1 rfl) ?_
    refine z_gr C0 hw 6 0 7 (fk_of shc_6 rfl) fl_X6_11 (dk2 dF_180 DX6_enter (i := 45) rfl rfl rfl) ?_
    refine lv_iload hx hb (dk1 dF_21 DX6_enter (i := 46) rfl rfl rfl) (lv_at hl 0 rfl) ?_
    refine lv_iconst (v := 3) hx hb (dkP dF_6 DX6_enter (i := 47) rfl rfl) (by decide) ?_
    refine lv_iadd hx hb (dkP dF_96 DX6_enter (i := 48) rfl rfl) ?_
    refine z_top (y := nI ((i * 5) + 3)) (by simp only [fa_lit, nI_add, pk_mul]) ?_
    refine z_ialdN (n := 100) C0 hw 7 ((i * 5) + 3) (ak_of shc_7) (by omega) (by decide) (dkP dF_46 DX6_enter (i := 49) rfl rfl) ?_
    refine z_top (y := 1) rd_s ?_
    exact z_iret C0 hr hlk hw (⟨rfl, trivial⟩) (dkP dF_172 DX6_enter (i := 50) rfl rfl)
set_option maxRecDepth 100000 in
set_option maxHeartbeats 4000000 in
theorem c_X11_put (l : Launch) (G : va_G) (kc : Nat → ClassId) (ad : Nat → Nat)  (i : Int32) (sd : Int32) (v : Int32)  : MI l G kc yX11_put cX11_put 4 (some .int) 1 24 [.ref (ad 0), .int i, .int sd, .int v] shC ad sC0 (fun r σ1 => r = if 0 ≤ i.toInt ∧ i.toInt ≤ 19 ∧ 0 ≤ sd.toInt ∧ sd.toInt ≤ 1 ∧ -9999 ≤ v.toInt ∧ v.toInt ≤ 9999 then 1 else -2) := by
  intro sz
  refine z_body (y := yX11_put) (n := 4) (av := [.ref (ad 0), .int i, .int sd, .int v]) (Qc := fun A => va_Qi (fun r σ1 => r = if 0 ≤ i.toInt ∧ i.toInt ≤ 19 ∧ 0 ≤ sd.toInt ∧ sd.toInt ≤ 1 ∧ -9999 ≤ v.toInt ∧ v.toInt ≤ 9999 then 1 else -2) (PoC G kc shC ad A) A) (plainFor_of_name (by decide)) (Nat.le_of_ble_eq_true rfl) (fun pr e s m below meth c A C0 hr hlk hnm hw ls hl => ?_) sz
  have hx := C0.1
  have hb := C0.2.1
  have hown := C0.2.2.2.1
  have hts := C0.2.2.2.2.1
  have hl : lv_has ls 4 [(0, .ref (ad 0)), (1, .int i), (2, .int sd), (3, .int v)] := hl
  refine lv_aload_n hx hb (dkP dF_42 DX11_put (i := 0) rfl rfl) rfl (lv_at hl 0 rfl) ?_
  refine z_gr C0 hw 0 0 1 (fk_of shc_0 rfl) fl_X11_10 (dk2 dF_180 DX11_put (i := 1) rfl rfl rfl) ?_
  refine z_gr C0 hw 1 7 6 (fk_of shc_1 rfl) fl_X11_301 (dk2 dF_180 DX11_put (i := 2) rfl rfl rfl) ?_
  refine lv_iload_n hx hb (dkP dF_27 DX11_put (i := 3) rfl rfl) rfl (lv_at hl 1 rfl) ?_
  refine zk_I hw (zr_V (As := [.int i]) (rest := []) C0 (c_X6_has l G kc ad i  _) cv_X6_has lk_X11_310 (zp_V C0 hw 6 shc_6 rfl rfl) rfl hl.1 rfl ⟨by decide, by decide⟩ (Nat.le_of_ble_eq_true rfl) (dk2 dF_182 DX11_put (i := 4) rfl rfl rfl) ⟨Nat.le_refl _, Nat.le_refl _⟩) (fun r1 s1 H locs hp hw => ?_)
  obtain ⟨hq1, hs1⟩ := hp
  (rw [hs1] at hw; clear hs1)
  rcases hq1 with ⟨rfl, hc1⟩ | ⟨rfl, hc1⟩
  · skip
    obtain ⟨k_i, hk_i, rfl⟩ := to_nat (x := i) (n := 20) (by (try simp only [lg_cmp_lt, lg_cmp_le, lg_cmp_gt, lg_cmp_ge, lg_cmp_eq] at hc1); (try simp (disch := omega) only [ta_lt, ta_le, ta_eq, tb_lt, tb_le, tb_eq, tw, tnI, tn32 1 (by decide), tnj 1 (by decide), tl32 0 (by decide), tl64 0 (by decide)] at hc1); (try simp (disch := omega) only [ta_lt, ta_le, ta_eq, tb_lt, tb_le, tb_eq, tw, tnI, tn32 1 (by decide), tnj 1 (by decide), tl32 0 (by decide), tl64 0 (by decide)]); omega)
    refine lv_if_eq (tgt := 37) hx hb (dkS dF_153 DX11_put (i := 5) rfl rfl rfl) (by decide) (fun h => absurd h (by decide)) (fun _ => ?_)
    refine lv_iload_n hx hb (dkP dF_28 DX11_put (i := 6) rfl rfl) rfl (lv_at hl 2 rfl) ?_
    refine lv_if_lt (tgt := 37) hx hb (dkS dF_155 DX11_put (i := 7) rfl rfl rfl) (by decide) (fun c2 => ?_) (fun c2 => ?_)
    · skip
      refine lv_bipush (v := (-2)) hx hb (dks dF_16 DX11_put (i := 17) rfl rfl rfl) (by decide) ?_
      exact z_iret C0 hr hlk hw (by first | rfl | ((try simp only [lg_cmp_lt, lg_cmp_le, lg_cmp_gt, lg_cmp_ge, lg_cmp_eq] at hc1); (try simp (disch := omega) only [ta_lt, ta_le, ta_eq, tb_lt, tb_le, tb_eq, tw, tnI, tn32 2 (by decide), tnj 2 (by decide), tn32 1 (by decide), tnj 1 (by decide), tl32 0 (by decide), tl64 0 (by decide)] at hc1); (try simp only [lg_cmp_lt, lg_cmp_le, lg_cmp_gt, lg_cmp_ge, lg_cmp_eq] at hk_i); (try simp (disch := omega) only [ta_lt, ta_le, ta_eq, tb_lt, tb_le, tb_eq, tw, tnI, tn32 2 (by decide), tnj 2 (by decide), tn32 1 (by decide), tnj 1 (by decide), tl32 0 (by decide), tl64 0 (by decide)] at hk_i); (try simp only [lg_cmp_lt, lg_cmp_le, lg_cmp_gt, lg_cmp_ge, lg_cmp_eq] at c2); (try simp (disch := omega) only [ta_lt, ta_le, ta_eq, tb_lt, tb_le, tb_eq, tw, tnI, tn32 2 (by decide), tnj 2 (by decide), tn32 1 (by decide), tnj 1 (by decide), tl32 0 (by decide), tl64 0 (by decide)] at c2); (try simp (disch := omega) only [tnI, tn32 2 (by decide), tnj 2 (by decide), tn32 1 (by decide), tnj 1 (by decide), tl32 0 (by decide), tl64 0 (by decide)]); (repeat' split) <;> first | rfl | omega | (apply Int32.toInt_inj.mp; simp (disch := omega) only [tnI, tn32 2 (by decide), tnj 2 (by decide), tn32 1 (by decide), tnj 1 (by decide), tl32 0 (by decide), tl64 0 (by decide)]; omega))) (dkP dF_172 DX11_put (i := 18) rfl rfl)
    · skip
      refine lv_iload_n hx hb (dkP dF_28 DX11_put (i := 8) rfl rfl) rfl (lv_at hl 2 rfl) ?_
      refine lv_iconst (v := 1) hx hb (dkP dF_4 DX11_put (i := 9) rfl rfl) (by decide) ?_
      refine lv_icmp_gt (tgt := 37) hx hb (dkS dF_163 DX11_put (i := 10) rfl rfl rfl) (by decide) (fun c3 => ?_) (fun c3 => ?_)
      · skip
        refine lv_bipush (v := (-2)) hx hb (dks dF_16 DX11_put (i := 17) rfl rfl rfl) (by decide) ?_
        exact z_iret C0 hr hlk hw (by first | rfl | ((try simp only [lg_cmp_lt, lg_cmp_le, lg_cmp_gt, lg_cmp_ge, lg_cmp_eq] at hc1); (try simp (disch := omega) only [ta_lt, ta_le, ta_eq, tb_lt, tb_le, tb_eq, tw, tnI, tn32 2 (by decide), tnj 2 (by decide), tn32 1 (by decide), tnj 1 (by decide), tl32 0 (by decide), tl64 0 (by decide), tl32 1 (by decide), tl64 1 (by decide)] at hc1); (try simp only [lg_cmp_lt, lg_cmp_le, lg_cmp_gt, lg_cmp_ge, lg_cmp_eq] at hk_i); (try simp (disch := omega) only [ta_lt, ta_le, ta_eq, tb_lt, tb_le, tb_eq, tw, tnI, tn32 2 (by decide), tnj 2 (by decide), tn32 1 (by decide), tnj 1 (by decide), tl32 0 (by decide), tl64 0 (by decide), tl32 1 (by decide), tl64 1 (by decide)] at hk_i); (try simp only [lg_cmp_lt, lg_cmp_le, lg_cmp_gt, lg_cmp_ge, lg_cmp_eq] at c2); (try simp (disch := omega) only [ta_lt, ta_le, ta_eq, tb_lt, tb_le, tb_eq, tw, tnI, tn32 2 (by decide), tnj 2 (by decide), tn32 1 (by decide), tnj 1 (by decide), tl32 0 (by decide), tl64 0 (by decide), tl32 1 (by decide), tl64 1 (by decide)] at c2); (try simp only [lg_cmp_lt, lg_cmp_le, lg_cmp_gt, lg_cmp_ge, lg_cmp_eq] at c3); (try simp (disch := omega) only [ta_lt, ta_le, ta_eq, tb_lt, tb_le, tb_eq, tw, tnI, tn32 2 (by decide), tnj 2 (by decide), tn32 1 (by decide), tnj 1 (by decide), tl32 0 (by decide), tl64 0 (by decide), tl32 1 (by decide), tl64 1 (by decide)] at c3); (try simp (disch := omega) only [tnI, tn32 2 (by decide), tnj 2 (by decide), tn32 1 (by decide), tnj 1 (by decide), tl32 0 (by decide), tl64 0 (by decide), tl32 1 (by decide), tl64 1 (by decide)]); (repeat' split) <;> first | rfl | omega | (apply Int32.toInt_inj.mp; simp (disch := omega) only [tnI, tn32 2 (by decide), tnj 2 (by decide), tn32 1 (by decide), tnj 1 (by decide), tl32 0 (by decide), tl64 0 (by decide), tl32 1 (by decide), tl64 1 (by decide)]; omega))) (dkP dF_172 DX11_put (i := 18) rfl rfl)
      · skip
        refine lv_iload_n hx hb (dkP dF_29 DX11_put (i := 11) rfl rfl) rfl (lv_at hl 3 rfl) ?_
        refine lv_sipush (v := (-9999)) hx hb (dkS dF_17 DX11_put (i := 12) rfl rfl rfl) (by decide) ?_
        refine lv_icmp_lt (tgt := 37) hx hb (dkS dF_161 DX11_put (i := 13) rfl rfl rfl) (by decide) (fun c4 => ?_) (fun c4 => ?_)
        · skip
          refine lv_bipush (v := (-2)) hx hb (dks dF_16 DX11_put (i := 17) rfl rfl rfl) (by decide) ?_
          exact z_iret C0 hr hlk hw (by first | rfl | ((try simp only [lg_cmp_lt, lg_cmp_le, lg_cmp_gt, lg_cmp_ge, lg_cmp_eq] at hc1); (try simp (disch := omega) only [ta_lt, ta_le, ta_eq, tb_lt, tb_le, tb_eq, tw, tnI, tn32 9999 (by decide), tnj 9999 (by decide), tn32 2 (by decide), tnj 2 (by decide), tn32 1 (by decide), tnj 1 (by decide), tl32 0 (by decide), tl64 0 (by decide), tl32 1 (by decide), tl64 1 (by decide)] at hc1); (try simp only [lg_cmp_lt, lg_cmp_le, lg_cmp_gt, lg_cmp_ge, lg_cmp_eq] at hk_i); (try simp (disch := omega) only [ta_lt, ta_le, ta_eq, tb_lt, tb_le, tb_eq, tw, tnI, tn32 9999 (by decide), tnj 9999 (by decide), tn32 2 (by decide), tnj 2 (by decide), tn32 1 (by decide), tnj 1 (by decide), tl32 0 (by decide), tl64 0 (by decide), tl32 1 (by decide), tl64 1 (by decide)] at hk_i); (try simp only [lg_cmp_lt, lg_cmp_le, lg_cmp_gt, lg_cmp_ge, lg_cmp_eq] at c2); (try simp (disch := omega) only [ta_lt, ta_le, ta_eq, tb_lt, tb_le, tb_eq, tw, tnI, tn32 9999 (by decide), tnj 9999 (by decide), tn32 2 (by decide), tnj 2 (by decide), tn32 1 (by decide), tnj 1 (by decide), tl32 0 (by decide), tl64 0 (by decide), tl32 1 (by decide), tl64 1 (by decide)] at c2); (try simp only [lg_cmp_lt, lg_cmp_le, lg_cmp_gt, lg_cmp_ge, lg_cmp_eq] at c3); (try simp (disch := omega) only [ta_lt, ta_le, ta_eq, tb_lt, tb_le, tb_eq, tw, tnI, tn32 9999 (by decide), tnj 9999 (by decide), tn32 2 (by decide), tnj 2 (by decide), tn32 1 (by decide), tnj 1 (by decide), tl32 0 (by decide), tl64 0 (by decide), tl32 1 (by decide), tl64 1 (by decide)] at c3); (try simp only [lg_cmp_lt, lg_cmp_le, lg_cmp_gt, lg_cmp_ge, lg_cmp_eq] at c4); (try simp (disch := omega) only [ta_lt, ta_le, ta_eq, tb_lt, tb_le, tb_eq, tw, tnI, tn32 9999 (by decide), tnj 9999 (by decide), tn32 2 (by decide), tnj 2 (by decide), tn32 1 (by decide), tnj 1 (by decide), tl32 0 (by decide), tl64 0 (by decide), tl32 1 (by decide), tl64 1 (by decide)] at c4); (try simp (disch := omega) only [tnI, tn32 9999 (by decide), tnj 9999 (by decide), tn32 2 (by decide), tnj 2 (by decide), tn32 1 (by decide), tnj 1 (by decide), tl32 0 (by decide), tl64 0 (by decide), tl32 1 (by decide), tl64 1 (by decide)]); (repeat' split) <;> first | rfl | omega | (apply Int32.toInt_inj.mp; simp (disch := omega) only [tnI, tn32 9999 (by decide), tnj 9999 (by decide), tn32 2 (by decide), tnj 2 (by decide), tn32 1 (by decide), tnj 1 (by decide), tl32 0 (by decide), tl64 0 (by decide), tl32 1 (by decide), tl64 1 (by decide)]; omega))) (dkP dF_172 DX11_put (i := 18) rfl rfl)
        · skip
          refine lv_iload_n hx hb (dkP dF_29 DX11_put (i := 14) rfl rfl) rfl (lv_at hl 3 rfl) ?_
          refine lv_sipush (v := 9999) hx hb (dkS dF_17 DX11_put (i := 15) rfl rfl rfl) (by decide) ?_
          refine lv_icmp_le (tgt := 40) hx hb (dkS dF_164 DX11_put (i := 16) rfl rfl rfl) (by decide) (fun c5 => ?_) (fun c5 => ?_)
          · skip
            obtain ⟨k_sd, hk_sd, rfl⟩ := to_nat (x := sd) (n := 2) (by (try simp only [lg_cmp_lt, lg_cmp_le, lg_cmp_gt, lg_cmp_ge, lg_cmp_eq] at hc1); (try simp (disch := omega) only [ta_lt, ta_le, ta_eq, tb_lt, tb_le, tb_eq, tw, tnI, tn32 9999 (by decide), tnj 9999 (by decide), tn32 2 (by decide), tnj 2 (by decide), tn32 1 (by decide), tnj 1 (by decide), tl32 0 (by decide), tl64 0 (by decide), tl32 1 (by decide), tl64 1 (by decide), tl32 9999 (by decide), tl64 9999 (by decide)] at hc1); (try simp only [lg_cmp_lt, lg_cmp_le, lg_cmp_gt, lg_cmp_ge, lg_cmp_eq] at hk_i); (try simp (disch := omega) only [ta_lt, ta_le, ta_eq, tb_lt, tb_le, tb_eq, tw, tnI, tn32 9999 (by decide), tnj 9999 (by decide), tn32 2 (by decide), tnj 2 (by decide), tn32 1 (by decide), tnj 1 (by decide), tl32 0 (by decide), tl64 0 (by decide), tl32 1 (by decide), tl64 1 (by decide), tl32 9999 (by decide), tl64 9999 (by decide)] at hk_i); (try simp only [lg_cmp_lt, lg_cmp_le, lg_cmp_gt, lg_cmp_ge, lg_cmp_eq] at c2); (try simp (disch := omega) only [ta_lt, ta_le, ta_eq, tb_lt, tb_le, tb_eq, tw, tnI, tn32 9999 (by decide), tnj 9999 (by decide), tn32 2 (by decide), tnj 2 (by decide), tn32 1 (by decide), tnj 1 (by decide), tl32 0 (by decide), tl64 0 (by decide), tl32 1 (by decide), tl64 1 (by decide), tl32 9999 (by decide), tl64 9999 (by decide)] at c2); (try simp only [lg_cmp_lt, lg_cmp_le, lg_cmp_gt, lg_cmp_ge, lg_cmp_eq] at c3); (try simp (disch := omega) only [ta_lt, ta_le, ta_eq, tb_lt, tb_le, tb_eq, tw, tnI, tn32 9999 (by decide), tnj 9999 (by decide), tn32 2 (by decide), tnj 2 (by decide), tn32 1 (by decide), tnj 1 (by decide), tl32 0 (by decide), tl64 0 (by decide), tl32 1 (by decide), tl64 1 (by decide), tl32 9999 (by decide), tl64 9999 (by decide)] at c3); (try simp only [lg_cmp_lt, lg_cmp_le, lg_cmp_gt, lg_cmp_ge, lg_cmp_eq] at c4); (try simp (disch := omega) only [ta_lt, ta_le, ta_eq, tb_lt, tb_le, tb_eq, tw, tnI, tn32 9999 (by decide), tnj 9999 (by decide), tn32 2 (by decide), tnj 2 (by decide), tn32 1 (by decide), tnj 1 (by decide), tl32 0 (by decide), tl64 0 (by decide), tl32 1 (by decide), tl64 1 (by decide), tl32 9999 (by decide), tl64 9999 (by decide)] at c4); (try simp only [lg_cmp_lt, lg_cmp_le, lg_cmp_gt, lg_cmp_ge, lg_cmp_eq] at c5); (try simp (disch := omega) only [ta_lt, ta_le, ta_eq, tb_lt, tb_le, tb_eq, tw, tnI, tn32 9999 (by decide), tnj 9999 (by decide), tn32 2 (by decide), tnj 2 (by decide), tn32 1 (by decide), tnj 1 (by decide), tl32 0 (by decide), tl64 0 (by decide), tl32 1 (by decide), tl64 1 (by decide), tl32 9999 (by decide), tl64 9999 (by decide)] at c5); (try simp (disch := omega) only [ta_lt, ta_le, ta_eq, tb_lt, tb_le, tb_eq, tw, tnI, tn32 9999 (by decide), tnj 9999 (by decide), tn32 2 (by decide), tnj 2 (by decide), tn32 1 (by decide), tnj 1 (by decide), tl32 0 (by decide), tl64 0 (by decide), tl32 1 (by decide), tl64 1 (by decide), tl32 9999 (by decide), tl64 9999 (by decide)]); omega)
            refine lv_aload_n hx hb (dkP dF_42 DX11_put (i := 19) rfl rfl) rfl (lv_at hl 0 rfl) ?_
            refine z_gr C0 hw 0 0 1 (fk_of shc_0 rfl) fl_X11_10 (dk2 dF_180 DX11_put (i := 20) rfl rfl rfl) ?_
            refine z_gr C0 hw 1 7 6 (fk_of shc_1 rfl) fl_X11_301 (dk2 dF_180 DX11_put (i := 21) rfl rfl rfl) ?_
            refine lv_iload_n hx hb (dkP dF_27 DX11_put (i := 22) rfl rfl) rfl (lv_at hl 1 rfl) ?_
            refine lv_iload_n hx hb (dkP dF_28 DX11_put (i := 23) rfl rfl) rfl (lv_at hl 2 rfl) ?_
            refine lv_iload_n hx hb (dkP dF_29 DX11_put (i := 24) rfl rfl) rfl (lv_at hl 3 rfl) ?_
            refine zk_I hw (zr_V (As := [.int (nI k_i), .int (nI k_sd), .int v]) (rest := []) C0 (c_X6_enter l G kc ad k_i k_sd v (by first | omega | assumption | decide | rfl) (by first | omega | assumption | decide | rfl) _) cv_X6_enter lk_X11_313 (zp_V C0 hw 6 shc_6 rfl rfl) rfl hl.1 rfl ⟨by decide, by decide⟩ (Nat.le_of_ble_eq_true rfl) (dk2 dF_182 DX11_put (i := 25) rfl rfl rfl) ⟨Nat.le_refl _, Nat.le_refl _⟩) (fun r6 s6 H locs hp hw => ?_)
            obtain ⟨rfl, hs6⟩ := hp
            exact z_iret C0 hr hlk hw (by first | rfl | ((try simp only [lg_cmp_lt, lg_cmp_le, lg_cmp_gt, lg_cmp_ge, lg_cmp_eq] at hc1); (try simp (disch := omega) only [ta_lt, ta_le, ta_eq, tb_lt, tb_le, tb_eq, tw, tnI, tn32 9999 (by decide), tnj 9999 (by decide), tn32 2 (by decide), tnj 2 (by decide), tn32 1 (by decide), tnj 1 (by decide), tl32 0 (by decide), tl64 0 (by decide), tl32 1 (by decide), tl64 1 (by decide), tl32 9999 (by decide), tl64 9999 (by decide)] at hc1); (try simp only [lg_cmp_lt, lg_cmp_le, lg_cmp_gt, lg_cmp_ge, lg_cmp_eq] at hk_i); (try simp (disch := omega) only [ta_lt, ta_le, ta_eq, tb_lt, tb_le, tb_eq, tw, tnI, tn32 9999 (by decide), tnj 9999 (by decide), tn32 2 (by decide), tnj 2 (by decide), tn32 1 (by decide), tnj 1 (by decide), tl32 0 (by decide), tl64 0 (by decide), tl32 1 (by decide), tl64 1 (by decide), tl32 9999 (by decide), tl64 9999 (by decide)] at hk_i); (try simp only [lg_cmp_lt, lg_cmp_le, lg_cmp_gt, lg_cmp_ge, lg_cmp_eq] at c2); (try simp (disch := omega) only [ta_lt, ta_le, ta_eq, tb_lt, tb_le, tb_eq, tw, tnI, tn32 9999 (by decide), tnj 9999 (by decide), tn32 2 (by decide), tnj 2 (by decide), tn32 1 (by decide), tnj 1 (by decide), tl32 0 (by decide), tl64 0 (by decide), tl32 1 (by decide), tl64 1 (by decide), tl32 9999 (by decide), tl64 9999 (by decide)] at c2); (try simp only [lg_cmp_lt, lg_cmp_le, lg_cmp_gt, lg_cmp_ge, lg_cmp_eq] at c3); (try simp (disch := omega) only [ta_lt, ta_le, ta_eq, tb_lt, tb_le, tb_eq, tw, tnI, tn32 9999 (by decide), tnj 9999 (by decide), tn32 2 (by decide), tnj 2 (by decide), tn32 1 (by decide), tnj 1 (by decide), tl32 0 (by decide), tl64 0 (by decide), tl32 1 (by decide), tl64 1 (by decide), tl32 9999 (by decide), tl64 9999 (by decide)] at c3); (try simp only [lg_cmp_lt, lg_cmp_le, lg_cmp_gt, lg_cmp_ge, lg_cmp_eq] at c4); (try simp (disch := omega) only [ta_lt, ta_le, ta_eq, tb_lt, tb_le, tb_eq, tw, tnI, tn32 9999 (by decide), tnj 9999 (by decide), tn32 2 (by decide), tnj 2 (by decide), tn32 1 (by decide), tnj 1 (by decide), tl32 0 (by decide), tl64 0 (by decide), tl32 1 (by decide), tl64 1 (by decide), tl32 9999 (by decide), tl64 9999 (by decide)] at c4); (try simp only [lg_cmp_lt, lg_cmp_le, lg_cmp_gt, lg_cmp_ge, lg_cmp_eq] at c5); (try simp (disch := omega) only [ta_lt, ta_le, ta_eq, tb_lt, tb_le, tb_eq, tw, tnI, tn32 9999 (by decide), tnj 9999 (by decide), tn32 2 (by decide), tnj 2 (by decide), tn32 1 (by decide), tnj 1 (by decide), tl32 0 (by decide), tl64 0 (by decide), tl32 1 (by decide), tl64 1 (by decide), tl32 9999 (by decide), tl64 9999 (by decide)] at c5); (try simp (disch := omega) only [tnI, tn32 9999 (by decide), tnj 9999 (by decide), tn32 2 (by decide), tnj 2 (by decide), tn32 1 (by decide), tnj 1 (by decide), tl32 0 (by decide), tl64 0 (by decide), tl32 1 (by decide), tl64 1 (by decide), tl32 9999 (by decide), tl64 9999 (by decide)]); (repeat' split) <;> first | rfl | omega | (apply Int32.toInt_inj.mp; simp (disch := omega) only [tnI, tn32 9999 (by decide), tnj 9999 (by decide), tn32 2 (by decide), tnj 2 (by decide), tn32 1 (by decide), tnj 1 (by decide), tl32 0 (by decide), tl64 0 (by decide), tl32 1 (by decide), tl64 1 (by decide), tl32 9999 (by decide), tl64 9999 (by decide)]; omega))) (dkP dF_172 DX11_put (i := 26) rfl rfl)
          · skip
            refine lv_bipush (v := (-2)) hx hb (dks dF_16 DX11_put (i := 17) rfl rfl rfl) (by decide) ?_
            exact z_iret C0 hr hlk hw (by first | rfl | ((try simp only [lg_cmp_lt, lg_cmp_le, lg_cmp_gt, lg_cmp_ge, lg_cmp_eq] at hc1); (try simp (disch := omega) only [ta_lt, ta_le, ta_eq, tb_lt, tb_le, tb_eq, tw, tnI, tn32 9999 (by decide), tnj 9999 (by decide), tn32 2 (by decide), tnj 2 (by decide), tn32 1 (by decide), tnj 1 (by decide), tl32 0 (by decide), tl64 0 (by decide), tl32 1 (by decide), tl64 1 (by decide), tl32 9999 (by decide), tl64 9999 (by decide)] at hc1); (try simp only [lg_cmp_lt, lg_cmp_le, lg_cmp_gt, lg_cmp_ge, lg_cmp_eq] at hk_i); (try simp (disch := omega) only [ta_lt, ta_le, ta_eq, tb_lt, tb_le, tb_eq, tw, tnI, tn32 9999 (by decide), tnj 9999 (by decide), tn32 2 (by decide), tnj 2 (by decide), tn32 1 (by decide), tnj 1 (by decide), tl32 0 (by decide), tl64 0 (by decide), tl32 1 (by decide), tl64 1 (by decide), tl32 9999 (by decide), tl64 9999 (by decide)] at hk_i); (try simp only [lg_cmp_lt, lg_cmp_le, lg_cmp_gt, lg_cmp_ge, lg_cmp_eq] at c2); (try simp (disch := omega) only [ta_lt, ta_le, ta_eq, tb_lt, tb_le, tb_eq, tw, tnI, tn32 9999 (by decide), tnj 9999 (by decide), tn32 2 (by decide), tnj 2 (by decide), tn32 1 (by decide), tnj 1 (by decide), tl32 0 (by decide), tl64 0 (by decide), tl32 1 (by decide), tl64 1 (by decide), tl32 9999 (by decide), tl64 9999 (by decide)] at c2); (try simp only [lg_cmp_lt, lg_cmp_le, lg_cmp_gt, lg_cmp_ge, lg_cmp_eq] at c3); (try simp (disch := omega) only [ta_lt, ta_le, ta_eq, tb_lt, tb_le, tb_eq, tw, tnI, tn32 9999 (by decide), tnj 9999 (by decide), tn32 2 (by decide), tnj 2 (by decide), tn32 1 (by decide), tnj 1 (by decide), tl32 0 (by decide), tl64 0 (by decide), tl32 1 (by decide), tl64 1 (by decide), tl32 9999 (by decide), tl64 9999 (by decide)] at c3); (try simp only [lg_cmp_lt, lg_cmp_le, lg_cmp_gt, lg_cmp_ge, lg_cmp_eq] at c4); (try simp (disch := omega) only [ta_lt, ta_le, ta_eq, tb_lt, tb_le, tb_eq, tw, tnI, tn32 9999 (by decide), tnj 9999 (by decide), tn32 2 (by decide), tnj 2 (by decide), tn32 1 (by decide), tnj 1 (by decide), tl32 0 (by decide), tl64 0 (by decide), tl32 1 (by decide), tl64 1 (by decide), tl32 9999 (by decide), tl64 9999 (by decide)] at c4); (try simp only [lg_cmp_lt, lg_cmp_le, lg_cmp_gt, lg_cmp_ge, lg_cmp_eq] at c5); (try simp (disch := omega) only [ta_lt, ta_le, ta_eq, tb_lt, tb_le, tb_eq, tw, tnI, tn32 9999 (by decide), tnj 9999 (by decide), tn32 2 (by decide), tnj 2 (by decide), tn32 1 (by decide), tnj 1 (by decide), tl32 0 (by decide), tl64 0 (by decide), tl32 1 (by decide), tl64 1 (by decide), tl32 9999 (by decide), tl64 9999 (by decide)] at c5); (try simp (disch := omega) only [tnI, tn32 9999 (by decide), tnj 9999 (by decide), tn32 2 (by decide), tnj 2 (by decide), tn32 1 (by decide), tnj 1 (by decide), tl32 0 (by decide), tl64 0 (by decide), tl32 1 (by decide), tl64 1 (by decide), tl32 9999 (by decide), tl64 9999 (by decide)]); (repeat' split) <;> first | rfl | omega | (apply Int32.toInt_inj.mp; simp (disch := omega) only [tnI, tn32 9999 (by decide), tnj 9999 (by decide), tn32 2 (by decide), tnj 2 (by decide), tn32 1 (by decide), tnj 1 (by decide), tl32 0 (by decide), tl64 0 (by decide), tl32 1 (by decide), tl64 1 (by decide), tl32 9999 (by decide), tl64 9999 (by decide)]; omega))) (dkP dF_172 DX11_put (i := 18) rfl rfl)
  · skip
    refine lv_if_eq (tgt := 37) hx hb (dkS dF_153 DX11_put (i := 5) rfl rfl rfl) (by decide) (fun _ => ?_) (fun h => absurd h (by decide))
    refine lv_bipush (v := (-2)) hx hb (dks dF_16 DX11_put (i := 17) rfl rfl rfl) (by decide) ?_
    exact z_iret C0 hr hlk hw (by first | rfl | ((try simp only [lg_cmp_lt, lg_cmp_le, lg_cmp_gt, lg_cmp_ge, lg_cmp_eq] at hc1); (try simp (disch := omega) only [ta_lt, ta_le, ta_eq, tb_lt, tb_le, tb_eq, tw, tnI, tn32 9999 (by decide), tnj 9999 (by decide), tn32 2 (by decide), tnj 2 (by decide), tn32 1 (by decide), tnj 1 (by decide), tl32 0 (by decide), tl64 0 (by decide), tl32 1 (by decide), tl64 1 (by decide), tl32 9999 (by decide), tl64 9999 (by decide)] at hc1); (try simp (disch := omega) only [tnI, tn32 9999 (by decide), tnj 9999 (by decide), tn32 2 (by decide), tnj 2 (by decide), tn32 1 (by decide), tnj 1 (by decide), tl32 0 (by decide), tl64 0 (by decide), tl32 1 (by decide), tl64 1 (by decide), tl32 9999 (by decide), tl64 9999 (by decide)]); (repeat' split) <;> first | rfl | omega | (apply Int32.toInt_inj.mp; simp (disch := omega) only [tnI, tn32 9999 (by decide), tnj 9999 (by decide), tn32 2 (by decide), tnj 2 (by decide), tn32 1 (by decide), tnj 1 (by decide), tl32 0 (by decide), tl64 0 (by decide), tl32 1 (by decide), tl64 1 (by decide), tl32 9999 (by decide), tl64 9999 (by decide)]; omega))) (dkP dF_172 DX11_put (i := 18) rfl rfl)
set_option maxRecDepth 100000 in
set_option maxHeartbeats 4000000 in
theorem c_X6_agreement (l : Launch) (G : va_G) (kc : Nat → ClassId) (ad : Nat → Nat)    : MI l G kc yX6_agreement cX6_agreement 4 (some .int) 0 0 [.ref (ad 6)] shC ad sC0 (fun r σ1 => r = (-1) ∧ σ1 = sC0) := by
  intro sz
  refine z_body (y := yX6_agreement) (n := 4) (av := [.ref (ad 6)]) (Qc := fun A => va_Qi (fun r σ1 => r = (-1) ∧ σ1 = sC0) (PoC G kc shC ad A) A) (plainFor_of_name (by decide)) (Nat.le_of_ble_eq_true rfl) (fun pr e s m below meth c A C0 hr hlk hnm hw ls hl => ?_) sz
  have hx := C0.1
  have hb := C0.2.1
  have hown := C0.2.2.2.1
  have hts := C0.2.2.2.2.1
  have hl : lv_has ls 4 [(0, .ref (ad 6))] := hl
  refine lv_iconst (v := 0) hx hb (dkP dF_3 DX6_agreement (i := 0) rfl rfl) (by decide) ?_
  refine lv_istore_n (lv' := [(1, .int 0), (0, .ref (ad 6))]) hx hb (dkP dF_60 DX6_agreement (i := 1) rfl rfl) rfl hl (by decide) rfl (fun ls hl => ?_)
  refine lv_iconst (v := 1) hx hb (dkP dF_4 DX6_agreement (i := 2) rfl rfl) (by decide) ?_
  refine lv_istore_n (lv' := [(2, .int 1), (1, .int 0), (0, .ref (ad 6))]) hx hb (dkP dF_61 DX6_agreement (i := 3) rfl rfl) rfl hl (by decide) rfl (fun ls hl => ?_)
  refine lv_iconst (v := 0) hx hb (dkP dF_3 DX6_agreement (i := 4) rfl rfl) (by decide) ?_
  refine lv_istore_n (lv' := [(3, .int 0), (2, .int 1), (1, .int 0), (0, .ref (ad 6))]) hx hb (dkP dF_62 DX6_agreement (i := 5) rfl rfl) rfl hl (by decide) rfl (fun ls hl => ?_)
  have lp1 : ∀ (n : Nat) (a : Nat) (H : Heap) (locs : List Loc) (ls : Array Slot), 100 - a < n → (a ≤ 100) → (a % 5 = 0) → St G kc A s.heap shC ad sC0 H locs → lv_has ls 4 [(3, .int (nI a)), (2, .int 1), (1, .int 0), (0, .ref (ad 6))] → W pr l e { frames := 0, cells := 0, slots := 0, locals := 0 } s m ([.ref (ad 6)] : List Value).toArray below meth c H locs 0 0 (MQ below (va_Qi (fun r σ1 => r = (-1) ∧ σ1 = sC0) (PoC G kc shC ad A) A) ([.ref (ad 6)] : List Value).toArray s 0 0 A) (F0 m 6 ls []) := by
    intro n
    induction n with
    | zero => intro a H locs ls hmu; exact absurd hmu (Nat.not_lt_zero _)
    | succ n ih1 =>
      intro a H locs ls hmu ha hm hw hl
      refine lv_iload_n hx hb (dkP dF_29 DX6_agreement (i := 6) rfl rfl) rfl (lv_at hl 0 rfl) ?_
      refine lv_aload_n hx hb (dkP dF_42 DX6_agreement (i := 7) rfl rfl) rfl (lv_at hl 3 rfl) ?_
      refine z_gr C0 hw 6 0 7 (fk_of shc_6 rfl) fl_X6_11 (dk2 dF_180 DX6_agreement (i := 8) rfl rfl rfl) ?_
      refine z_alen (t := 0) (n := 100) C0 hw 7 (ak_of shc_7) (by decide) (dkP dF_190 DX6_agreement (i := 9) rfl rfl) ?_
      refine z_top (y := 100) rfl ?_
      refine lv_icmp_ge (tgt := 70) hx hb (dkS dF_162 DX6_agreement (i := 10) rfl rfl rfl) (by decide) (fun c2 => ?_) (fun c2 => ?_)
      · simp (disch := omega) only [ta_lt, ta_le, ta_eq, tnI, tl32 100 (by decide)] at c2
        refine lv_iload_n hx hb (dkP dF_27 DX6_agreement (i := 44) rfl rfl) rfl (lv_at hl 2 rfl) ?_
        refine lv_if_le (tgt := 76) hx hb (dkS dF_158 DX6_agreement (i := 45) rfl rfl rfl) (by decide) (fun _ => ?_) (fun h => absurd h (by decide))
        refine lv_iload_n hx hb (dkP dF_28 DX6_agreement (i := 48) rfl rfl) rfl (lv_at hl 1 rfl) ?_
        refine lv_if_eq (tgt := 84) hx hb (dkS dF_153 DX6_agreement (i := 49) rfl rfl rfl) (by decide) (fun h => absurd h (by decide)) (fun _ => ?_)
        refine lv_iconst (v := (-1)) hx hb (dkP dF_2 DX6_agreement (i := 50) rfl rfl) (by decide) ?_
        refine lv_goto (tgt := 86) hx hb (dkS dF_167 DX6_agreement (i := 51) rfl rfl rfl) (by decide) ?_
        exact z_iret C0 hr hlk hw (⟨(by first | rfl | ((try simp only [lg_cmp_lt, lg_cmp_le, lg_cmp_gt, lg_cmp_ge, lg_cmp_eq] at c2); (try simp (disch := omega) only [ta_lt, ta_le, ta_eq, tb_lt, tb_le, tb_eq, tw, tnI, tn32 1 (by decide), tnj 1 (by decide), tl32 0 (by decide), tl64 0 (by decide), tl32 1 (by decide), tl64 1 (by decide)] at c2); (try simp (disch := omega) only [tnI, tn32 1 (by decide), tnj 1 (by decide), tl32 0 (by decide), tl64 0 (by decide), tl32 1 (by decide), tl64 1 (by decide)]); (repeat' split) <;> first | rfl | omega | (apply Int32.toInt_inj.mp; simp (disch := omega) only [tnI, tn32 1 (by decide), tnj 1 (by decide), tl32 0 (by decide), tl64 0 (by decide), tl32 1 (by decide), tl64 1 (by decide)]; omega))), rfl⟩) (dkP dF_172 DX6_agreement (i := 53) rfl rfl)
      · simp (disch := omega) only [ta_lt, ta_le, ta_eq, tnI, tl32 100 (by decide)] at c2
        refine lv_aload_n hx hb (dkP dF_42 DX6_agreement (i := 11) rfl rfl) rfl (lv_at hl 3 rfl) ?_
        refine z_gr C0 hw 6 0 7 (fk_of shc_6 rfl) fl_X6_11 (dk2 dF_180 DX6_agreement (i := 12) rfl rfl rfl) ?_
        refine lv_iload_n hx hb (dkP dF_29 DX6_agreement (i := 13) rfl rfl) rfl (lv_at hl 0 rfl) ?_
        refine lv_iconst (v := 3) hx hb (dkP dF_6 DX6_agreement (i := 14) rfl rfl) (by decide) ?_
        refine lv_iadd hx hb (dkP dF_96 DX6_agreement (i := 15) rfl rfl) ?_
        refine z_top (y := nI (a + 3)) (by simp only [fa_lit, nI_add, pk_mul]) ?_
        refine z_ialdN (n := 100) C0 hw 7 (a + 3) (ak_of shc_7) (by omega) (by decide) (dkP dF_46 DX6_agreement (i := 16) rfl rfl) ?_
        refine z_top (y := 0) (s0a_7 _) ?_
        refine lv_if_le (tgt := 29) hx hb (dkS dF_158 DX6_agreement (i := 17) rfl rfl rfl) (by decide) (fun _ => ?_) (fun h => absurd h (by decide))
        refine lv_iload_n hx hb (dkP dF_28 DX6_agreement (i := 19) rfl rfl) rfl (lv_at hl 1 rfl) ?_
        refine lv_aload_n hx hb (dkP dF_42 DX6_agreement (i := 20) rfl rfl) rfl (lv_at hl 3 rfl) ?_
        refine z_gr C0 hw 6 0 7 (fk_of shc_6 rfl) fl_X6_11 (dk2 dF_180 DX6_agreement (i := 21) rfl rfl rfl) ?_
        refine lv_iload_n hx hb (dkP dF_29 DX6_agreement (i := 22) rfl rfl) rfl (lv_at hl 0 rfl) ?_
        refine lv_iconst (v := 1) hx hb (dkP dF_4 DX6_agreement (i := 23) rfl rfl) (by decide) ?_
        refine lv_iadd hx hb (dkP dF_96 DX6_agreement (i := 24) rfl rfl) ?_
        refine z_top (y := nI (a + 1)) (by simp only [fa_lit, nI_add, pk_mul]) ?_
        refine z_ialdN (n := 100) C0 hw 7 (a + 1) (ak_of shc_7) (by omega) (by decide) (dkP dF_46 DX6_agreement (i := 25) rfl rfl) ?_
        refine z_top (y := 0) (s0a_7 _) ?_
        refine lv_aload_n hx hb (dkP dF_42 DX6_agreement (i := 26) rfl rfl) rfl (lv_at hl 3 rfl) ?_
        refine z_gi C0 hw 6 1 (fk_of shc_6 rfl) fl_X6_15 (dk2 dF_180 DX6_agreement (i := 27) rfl rfl rfl) ?_
        refine z_top (y := 1) s0_6_1 ?_
        refine lv_aload_n hx hb (dkP dF_42 DX6_agreement (i := 28) rfl rfl) rfl (lv_at hl 3 rfl) ?_
        refine z_gr C0 hw 6 0 7 (fk_of shc_6 rfl) fl_X6_11 (dk2 dF_180 DX6_agreement (i := 29) rfl rfl rfl) ?_
        refine lv_iload_n hx hb (dkP dF_29 DX6_agreement (i := 30) rfl rfl) rfl (lv_at hl 0 rfl) ?_
        refine z_ialdN (n := 100) C0 hw 7 a (ak_of shc_7) (by omega) (by decide) (dkP dF_46 DX6_agreement (i := 31) rfl rfl) ?_
        refine z_top (y := 0) (s0a_7 _) ?_
        refine lv_imul hx hb (dkP dF_104 DX6_agreement (i := 32) rfl rfl) ?_
        refine z_top (y := 0) (by decide) ?_
        refine lv_aload_n hx hb (dkP dF_42 DX6_agreement (i := 33) rfl rfl) rfl (lv_at hl 3 rfl) ?_
        refine z_gi C0 hw 6 2 (fk_of shc_6 rfl) fl_X6_25 (dk2 dF_180 DX6_agreement (i := 34) rfl rfl rfl) ?_
        refine z_top (y := 0) s0_6_2 ?_
        refine lv_iadd hx hb (dkP dF_96 DX6_agreement (i := 35) rfl rfl) ?_
        refine z_top (y := 0) (by decide) ?_
        refine lv_icmp_ne (tgt := 61) hx hb (dkS dF_160 DX6_agreement (i := 36) rfl rfl rfl) (by decide) (fun h => absurd h (by decide)) (fun _ => ?_)
        refine lv_iconst (v := 1) hx hb (dkP dF_4 DX6_agreement (i := 37) rfl rfl) (by decide) ?_
        refine lv_goto (tgt := 62) hx hb (dkS dF_167 DX6_agreement (i := 38) rfl rfl rfl) (by decide) ?_
        refine lv_iand hx hb (dkP dF_126 DX6_agreement (i := 40) rfl rfl) ?_
        refine z_top (y := 1) (by decide) ?_
        refine lv_istore_n (lv' := [(2, .int 1), (3, .int (nI a)), (1, .int 0), (0, .ref (ad 6))]) hx hb (dkP dF_61 DX6_agreement (i := 41) rfl rfl) rfl hl (by decide) rfl (fun ls hl => ?_)
        refine lv_iinc (v := nI (a + 5)) (lv' := [(3, .int (nI (a + 5))), (2, .int 1), (1, .int 0), (0, .ref (ad 6))]) hx hb (dkI DX6_agreement (i := 42) rfl rfl rfl rfl) hl (k := 1) rfl (nI_add _ 5) (by decide) rfl (fun ls hl => ?_)
        refine lv_goto (tgt := 6) hx hb (dkS dF_167 DX6_agreement (i := 43) rfl rfl rfl) (by decide) ?_
        exact ih1 (a + 5) _ _ _ (by omega) (by omega) (by omega) hw (lv_sub hl [0, 1, 2, 3] rfl)
  exact lp1 _ 0 _ _ _ (Nat.lt_succ_self _) (by omega) (by decide) hw (lv_sub hl [0, 1, 2, 3] rfl)
set_option maxRecDepth 100000 in
set_option maxHeartbeats 4000000 in
theorem c_X11_check (l : Launch) (G : va_G) (kc : Nat → ClassId) (ad : Nat → Nat)    : MI l G kc yX11_check cX11_check 1 (some .int) 1 23 [.ref (ad 0)] shC ad sC0 (fun r σ1 => r = -1) := by
  intro sz
  refine z_body (y := yX11_check) (n := 1) (av := [.ref (ad 0)]) (Qc := fun A => va_Qi (fun r σ1 => r = -1) (PoC G kc shC ad A) A) (plainFor_of_name (by decide)) (Nat.le_of_ble_eq_true rfl) (fun pr e s m below meth c A C0 hr hlk hnm hw ls hl => ?_) sz
  have hx := C0.1
  have hb := C0.2.1
  have hown := C0.2.2.2.1
  have hts := C0.2.2.2.2.1
  have hl : lv_has ls 1 [(0, .ref (ad 0))] := hl
  refine lv_aload_n hx hb (dkP dF_42 DX11_check (i := 0) rfl rfl) rfl (lv_at hl 0 rfl) ?_
  refine z_gr C0 hw 0 0 1 (fk_of shc_0 rfl) fl_X11_10 (dk2 dF_180 DX11_check (i := 1) rfl rfl rfl) ?_
  refine z_gr C0 hw 1 7 6 (fk_of shc_1 rfl) fl_X11_301 (dk2 dF_180 DX11_check (i := 2) rfl rfl rfl) ?_
  refine zk_I hw (zr_V (As := []) (rest := []) C0 (c_X6_agreement l G kc ad  _) cv_X6_agreement lk_X11_321 (zp_V C0 hw 6 shc_6 rfl rfl) rfl hl.1 rfl ⟨by decide, by decide⟩ (Nat.le_of_ble_eq_true rfl) (dk2 dF_182 DX11_check (i := 3) rfl rfl rfl) ⟨Nat.le_refl _, Nat.le_refl _⟩) (fun r1 s1 H locs hp hw => ?_)
  obtain ⟨rfl, hs1⟩ := hp
  (rw [hs1] at hw; clear hs1)
  exact z_iret C0 hr hlk hw (by first | rfl | ((try simp (disch := omega) only [tnI, tn32 1 (by decide), tnj 1 (by decide), tl32 0 (by decide), tl64 0 (by decide)]); (repeat' split) <;> first | rfl | omega | (apply Int32.toInt_inj.mp; simp (disch := omega) only [tnI, tn32 1 (by decide), tnj 1 (by decide), tl32 0 (by decide), tl64 0 (by decide)]; omega))) (dkP dF_172 DX11_check (i := 4) rfl rfl)
set_option maxRecDepth 100000 in
set_option maxHeartbeats 4000000 in
theorem c_X6_lostOfAll (l : Launch) (G : va_G) (kc : Nat → ClassId) (ad : Nat → Nat)    : MI l G kc yX6_lostOfAll cX6_lostOfAll 3 (some .int) 0 0 [.ref (ad 6)] shC ad sC0 (fun r σ1 => r = (0) ∧ σ1 = sC0) := by
  intro sz
  refine z_body (y := yX6_lostOfAll) (n := 3) (av := [.ref (ad 6)]) (Qc := fun A => va_Qi (fun r σ1 => r = (0) ∧ σ1 = sC0) (PoC G kc shC ad A) A) (plainFor_of_name (by decide)) (Nat.le_of_ble_eq_true rfl) (fun pr e s m below meth c A C0 hr hlk hnm hw ls hl => ?_) sz
  have hx := C0.1
  have hb := C0.2.1
  have hown := C0.2.2.2.1
  have hts := C0.2.2.2.2.1
  have hl : lv_has ls 3 [(0, .ref (ad 6))] := hl
  refine lv_iconst (v := 0) hx hb (dkP dF_3 DX6_lostOfAll (i := 0) rfl rfl) (by decide) ?_
  refine lv_istore_n (lv' := [(1, .int 0), (0, .ref (ad 6))]) hx hb (dkP dF_60 DX6_lostOfAll (i := 1) rfl rfl) rfl hl (by decide) rfl (fun ls hl => ?_)
  refine lv_iconst (v := 0) hx hb (dkP dF_3 DX6_lostOfAll (i := 2) rfl rfl) (by decide) ?_
  refine lv_istore_n (lv' := [(2, .int 0), (1, .int 0), (0, .ref (ad 6))]) hx hb (dkP dF_61 DX6_lostOfAll (i := 3) rfl rfl) rfl hl (by decide) rfl (fun ls hl => ?_)
  have lp1 : ∀ (n : Nat) (a : Nat) (H : Heap) (locs : List Loc) (ls : Array Slot), 100 - a < n → (a ≤ 100) → (a % 5 = 0) → St G kc A s.heap shC ad sC0 H locs → lv_has ls 3 [(2, .int (nI a)), (1, .int 0), (0, .ref (ad 6))] → W pr l e { frames := 0, cells := 0, slots := 0, locals := 0 } s m ([.ref (ad 6)] : List Value).toArray below meth c H locs 0 0 (MQ below (va_Qi (fun r σ1 => r = (0) ∧ σ1 = sC0) (PoC G kc shC ad A) A) ([.ref (ad 6)] : List Value).toArray s 0 0 A) (F0 m 4 ls []) := by
    intro n
    induction n with
    | zero => intro a H locs ls hmu; exact absurd hmu (Nat.not_lt_zero _)
    | succ n ih1 =>
      intro a H locs ls hmu ha hm hw hl
      refine lv_iload_n hx hb (dkP dF_28 DX6_lostOfAll (i := 4) rfl rfl) rfl (lv_at hl 0 rfl) ?_
      refine lv_aload_n hx hb (dkP dF_42 DX6_lostOfAll (i := 5) rfl rfl) rfl (lv_at hl 2 rfl) ?_
      refine z_gr C0 hw 6 0 7 (fk_of shc_6 rfl) fl_X6_11 (dk2 dF_180 DX6_lostOfAll (i := 6) rfl rfl rfl) ?_
      refine z_alen (t := 0) (n := 100) C0 hw 7 (ak_of shc_7) (by decide) (dkP dF_190 DX6_lostOfAll (i := 7) rfl rfl) ?_
      refine z_top (y := 100) rfl ?_
      refine lv_icmp_ge (tgt := 30) hx hb (dkS dF_162 DX6_lostOfAll (i := 8) rfl rfl rfl) (by decide) (fun c2 => ?_) (fun c2 => ?_)
      · simp (disch := omega) only [ta_lt, ta_le, ta_eq, tnI, tl32 100 (by decide)] at c2
        refine lv_iload_n hx hb (dkP dF_27 DX6_lostOfAll (i := 20) rfl rfl) rfl (lv_at hl 1 rfl) ?_
        exact z_iret C0 hr hlk hw (⟨(by first | rfl | ((try simp only [lg_cmp_lt, lg_cmp_le, lg_cmp_gt, lg_cmp_ge, lg_cmp_eq] at c2); (try simp (disch := omega) only [ta_lt, ta_le, ta_eq, tb_lt, tb_le, tb_eq, tw, tnI, tn32 1 (by decide), tnj 1 (by decide), tl32 0 (by decide), tl64 0 (by decide)] at c2); (try simp (disch := omega) only [tnI, tn32 1 (by decide), tnj 1 (by decide), tl32 0 (by decide), tl64 0 (by decide)]); (repeat' split) <;> first | rfl | omega | (apply Int32.toInt_inj.mp; simp (disch := omega) only [tnI, tn32 1 (by decide), tnj 1 (by decide), tl32 0 (by decide), tl64 0 (by decide)]; omega))), rfl⟩) (dkP dF_172 DX6_lostOfAll (i := 21) rfl rfl)
      · simp (disch := omega) only [ta_lt, ta_le, ta_eq, tnI, tl32 100 (by decide)] at c2
        refine lv_iload_n hx hb (dkP dF_27 DX6_lostOfAll (i := 9) rfl rfl) rfl (lv_at hl 1 rfl) ?_
        refine lv_aload_n hx hb (dkP dF_42 DX6_lostOfAll (i := 10) rfl rfl) rfl (lv_at hl 2 rfl) ?_
        refine z_gr C0 hw 6 0 7 (fk_of shc_6 rfl) fl_X6_11 (dk2 dF_180 DX6_lostOfAll (i := 11) rfl rfl rfl) ?_
        refine lv_iload_n hx hb (dkP dF_28 DX6_lostOfAll (i := 12) rfl rfl) rfl (lv_at hl 0 rfl) ?_
        refine lv_iconst (v := 4) hx hb (dkP dF_7 DX6_lostOfAll (i := 13) rfl rfl) (by decide) ?_
        refine lv_iadd hx hb (dkP dF_96 DX6_lostOfAll (i := 14) rfl rfl) ?_
        refine z_top (y := nI (a + 4)) (by simp only [fa_lit, nI_add, pk_mul]) ?_
        refine z_ialdN (n := 100) C0 hw 7 (a + 4) (ak_of shc_7) (by omega) (by decide) (dkP dF_46 DX6_lostOfAll (i := 15) rfl rfl) ?_
        refine z_top (y := 0) (s0a_7 _) ?_
        refine lv_iadd hx hb (dkP dF_96 DX6_lostOfAll (i := 16) rfl rfl) ?_
        refine z_top (y := 0) (by decide) ?_
        refine lv_istore_n (lv' := [(1, .int 0), (2, .int (nI a)), (0, .ref (ad 6))]) hx hb (dkP dF_60 DX6_lostOfAll (i := 17) rfl rfl) rfl hl (by decide) rfl (fun ls hl => ?_)
        refine lv_iinc (v := nI (a + 5)) (lv' := [(2, .int (nI (a + 5))), (1, .int 0), (0, .ref (ad 6))]) hx hb (dkI DX6_lostOfAll (i := 18) rfl rfl rfl rfl) hl (k := 1) rfl (nI_add _ 5) (by decide) rfl (fun ls hl => ?_)
        refine lv_goto (tgt := 4) hx hb (dkS dF_167 DX6_lostOfAll (i := 19) rfl rfl rfl) (by decide) ?_
        exact ih1 (a + 5) _ _ _ (by omega) (by omega) (by omega) hw (lv_sub hl [0, 1, 2] rfl)
  exact lp1 _ 0 _ _ _ (Nat.lt_succ_self _) (by omega) (by decide) hw (lv_sub hl [0, 1, 2] rfl)
set_option maxRecDepth 20000 in
theorem shc_3 : shC[3]? = some (1, 64, []) := by rfl
set_option maxRecDepth 20000 in
theorem s0a_3 : ∀ j, sC0.1 3 j = (-1) := fun _ => rfl
set_option maxRecDepth 100000 in
set_option maxHeartbeats 4000000 in
theorem c_X11_calls (l : Launch) (G : va_G) (kc : Nat → ClassId) (ad : Nat → Nat)  (p : Int32) (o : Int32) (v : Int32)  : MI l G kc yX11_calls cX11_calls 5 (some .int) 1 20 [.ref (ad 0), .int p, .int o, .int v] shC ad sC0 (fun r σ1 => r = if 0 ≤ p.toInt ∧ p.toInt ≤ 7 ∧ 0 ≤ o.toInt ∧ o.toInt ≤ 7 ∧ ¬ p.toInt = o.toInt ∧ -1 ≤ v.toInt ∧ v.toInt ≤ 999 then -1 else -2) := by
  intro sz
  refine z_body (y := yX11_calls) (n := 5) (av := [.ref (ad 0), .int p, .int o, .int v]) (Qc := fun A => va_Qi (fun r σ1 => r = if 0 ≤ p.toInt ∧ p.toInt ≤ 7 ∧ 0 ≤ o.toInt ∧ o.toInt ≤ 7 ∧ ¬ p.toInt = o.toInt ∧ -1 ≤ v.toInt ∧ v.toInt ≤ 999 then -1 else -2) (PoC G kc shC ad A) A) (plainFor_of_name (by decide)) (Nat.le_of_ble_eq_true rfl) (fun pr e s m below meth c A C0 hr hlk hnm hw ls hl => ?_) sz
  have hx := C0.1
  have hb := C0.2.1
  have hown := C0.2.2.2.1
  have hts := C0.2.2.2.2.1
  have hl : lv_has ls 5 [(0, .ref (ad 0)), (1, .int p), (2, .int o), (3, .int v)] := hl
  refine lv_iload_n hx hb (dkP dF_27 DX11_calls (i := 0) rfl rfl) rfl (lv_at hl 1 rfl) ?_
  refine zn_I hw (zr_S (As := [.int p]) (rest := []) C0 (c_X11_isProgram l G kc p  _) cs_X11_isProgram lk_X11_257 (zp_P C0 a00 s00) rfl hl.1 rfl ⟨by decide, by decide⟩ (Nat.le_of_ble_eq_true rfl) (dk2 dF_184 DX11_calls (i := 1) rfl rfl rfl) ⟨Nat.le_refl _, Nat.le_refl _⟩) (fun r1 s1 H locs hp hw => ?_)
  rcases hp with ⟨rfl, hc1⟩ | ⟨rfl, hc1⟩
  · skip
    obtain ⟨k_p, hk_p, rfl⟩ := to_nat (x := p) (n := 8) (by (try simp only [lg_cmp_lt, lg_cmp_le, lg_cmp_gt, lg_cmp_ge, lg_cmp_eq] at hc1); (try simp (disch := omega) only [ta_lt, ta_le, ta_eq, tb_lt, tb_le, tb_eq, tw, tnI, tn32 1 (by decide), tnj 1 (by decide), tl32 0 (by decide), tl64 0 (by decide)] at hc1); (try simp (disch := omega) only [ta_lt, ta_le, ta_eq, tb_lt, tb_le, tb_eq, tw, tnI, tn32 1 (by decide), tnj 1 (by decide), tl32 0 (by decide), tl64 0 (by decide)]); omega)
    refine lv_if_eq (tgt := 31) hx hb (dkS dF_153 DX11_calls (i := 2) rfl rfl rfl) (by decide) (fun h => absurd h (by decide)) (fun _ => ?_)
    refine lv_iload_n hx hb (dkP dF_28 DX11_calls (i := 3) rfl rfl) rfl (lv_at hl 2 rfl) ?_
    refine zn_I hw (zr_S (As := [.int o]) (rest := []) C0 (c_X11_isProgram l G kc o  _) cs_X11_isProgram lk_X11_257 (zp_P C0 a00 s00) rfl hl.1 rfl ⟨by decide, by decide⟩ (Nat.le_of_ble_eq_true rfl) (dk2 dF_184 DX11_calls (i := 4) rfl rfl rfl) ⟨Nat.le_refl _, Nat.le_refl _⟩) (fun r2 s2 H locs hp hw => ?_)
    rcases hp with ⟨rfl, hc2⟩ | ⟨rfl, hc2⟩
    · skip
      obtain ⟨k_o, hk_o, rfl⟩ := to_nat (x := o) (n := 8) (by (try simp only [lg_cmp_lt, lg_cmp_le, lg_cmp_gt, lg_cmp_ge, lg_cmp_eq] at hc1); (try simp (disch := omega) only [ta_lt, ta_le, ta_eq, tb_lt, tb_le, tb_eq, tw, tnI, tn32 1 (by decide), tnj 1 (by decide), tl32 0 (by decide), tl64 0 (by decide)] at hc1); (try simp only [lg_cmp_lt, lg_cmp_le, lg_cmp_gt, lg_cmp_ge, lg_cmp_eq] at hk_p); (try simp (disch := omega) only [ta_lt, ta_le, ta_eq, tb_lt, tb_le, tb_eq, tw, tnI, tn32 1 (by decide), tnj 1 (by decide), tl32 0 (by decide), tl64 0 (by decide)] at hk_p); (try simp only [lg_cmp_lt, lg_cmp_le, lg_cmp_gt, lg_cmp_ge, lg_cmp_eq] at hc2); (try simp (disch := omega) only [ta_lt, ta_le, ta_eq, tb_lt, tb_le, tb_eq, tw, tnI, tn32 1 (by decide), tnj 1 (by decide), tl32 0 (by decide), tl64 0 (by decide)] at hc2); (try simp (disch := omega) only [ta_lt, ta_le, ta_eq, tb_lt, tb_le, tb_eq, tw, tnI, tn32 1 (by decide), tnj 1 (by decide), tl32 0 (by decide), tl64 0 (by decide)]); omega)
      refine lv_if_eq (tgt := 31) hx hb (dkS dF_153 DX11_calls (i := 5) rfl rfl rfl) (by decide) (fun h => absurd h (by decide)) (fun _ => ?_)
      refine lv_iload_n hx hb (dkP dF_27 DX11_calls (i := 6) rfl rfl) rfl (lv_at hl 1 rfl) ?_
      refine lv_iload_n hx hb (dkP dF_28 DX11_calls (i := 7) rfl rfl) rfl (lv_at hl 2 rfl) ?_
      refine lv_icmp_eq (tgt := 31) hx hb (dkS dF_159 DX11_calls (i := 8) rfl rfl rfl) (by decide) (fun c3 => ?_) (fun c3 => ?_)
      · simp (disch := omega) only [ta_lt, ta_le, ta_eq, tnI] at c3
        refine lv_bipush (v := (-2)) hx hb (dks dF_16 DX11_calls (i := 15) rfl rfl rfl) (by decide) ?_
        exact z_iret C0 hr hlk hw (by first | rfl | ((try simp only [lg_cmp_lt, lg_cmp_le, lg_cmp_gt, lg_cmp_ge, lg_cmp_eq] at hc1); (try simp (disch := omega) only [ta_lt, ta_le, ta_eq, tb_lt, tb_le, tb_eq, tw, tnI, tn32 2 (by decide), tnj 2 (by decide), tn32 1 (by decide), tnj 1 (by decide), tl32 0 (by decide), tl64 0 (by decide)] at hc1); (try simp only [lg_cmp_lt, lg_cmp_le, lg_cmp_gt, lg_cmp_ge, lg_cmp_eq] at hk_p); (try simp (disch := omega) only [ta_lt, ta_le, ta_eq, tb_lt, tb_le, tb_eq, tw, tnI, tn32 2 (by decide), tnj 2 (by decide), tn32 1 (by decide), tnj 1 (by decide), tl32 0 (by decide), tl64 0 (by decide)] at hk_p); (try simp only [lg_cmp_lt, lg_cmp_le, lg_cmp_gt, lg_cmp_ge, lg_cmp_eq] at hc2); (try simp (disch := omega) only [ta_lt, ta_le, ta_eq, tb_lt, tb_le, tb_eq, tw, tnI, tn32 2 (by decide), tnj 2 (by decide), tn32 1 (by decide), tnj 1 (by decide), tl32 0 (by decide), tl64 0 (by decide)] at hc2); (try simp only [lg_cmp_lt, lg_cmp_le, lg_cmp_gt, lg_cmp_ge, lg_cmp_eq] at hk_o); (try simp (disch := omega) only [ta_lt, ta_le, ta_eq, tb_lt, tb_le, tb_eq, tw, tnI, tn32 2 (by decide), tnj 2 (by decide), tn32 1 (by decide), tnj 1 (by decide), tl32 0 (by decide), tl64 0 (by decide)] at hk_o); (try simp only [lg_cmp_lt, lg_cmp_le, lg_cmp_gt, lg_cmp_ge, lg_cmp_eq] at c3); (try simp (disch := omega) only [ta_lt, ta_le, ta_eq, tb_lt, tb_le, tb_eq, tw, tnI, tn32 2 (by decide), tnj 2 (by decide), tn32 1 (by decide), tnj 1 (by decide), tl32 0 (by decide), tl64 0 (by decide)] at c3); (try simp (disch := omega) only [tnI, tn32 2 (by decide), tnj 2 (by decide), tn32 1 (by decide), tnj 1 (by decide), tl32 0 (by decide), tl64 0 (by decide)]); (repeat' split) <;> first | rfl | omega | (apply Int32.toInt_inj.mp; simp (disch := omega) only [tnI, tn32 2 (by decide), tnj 2 (by decide), tn32 1 (by decide), tnj 1 (by decide), tl32 0 (by decide), tl64 0 (by decide)]; omega))) (dkP dF_172 DX11_calls (i := 16) rfl rfl)
      · simp (disch := omega) only [ta_lt, ta_le, ta_eq, tnI] at c3
        refine lv_iload_n hx hb (dkP dF_29 DX11_calls (i := 9) rfl rfl) rfl (lv_at hl 3 rfl) ?_
        refine lv_iconst (v := (-1)) hx hb (dkP dF_2 DX11_calls (i := 10) rfl rfl) (by decide) ?_
        refine lv_icmp_lt (tgt := 31) hx hb (dkS dF_161 DX11_calls (i := 11) rfl rfl rfl) (by decide) (fun c4 => ?_) (fun c4 => ?_)
        · skip
          refine lv_bipush (v := (-2)) hx hb (dks dF_16 DX11_calls (i := 15) rfl rfl rfl) (by decide) ?_
          exact z_iret C0 hr hlk hw (by first | rfl | ((try simp only [lg_cmp_lt, lg_cmp_le, lg_cmp_gt, lg_cmp_ge, lg_cmp_eq] at hc1); (try simp (disch := omega) only [ta_lt, ta_le, ta_eq, tb_lt, tb_le, tb_eq, tw, tnI, tn32 2 (by decide), tnj 2 (by decide), tn32 1 (by decide), tnj 1 (by decide), tl32 0 (by decide), tl64 0 (by decide)] at hc1); (try simp only [lg_cmp_lt, lg_cmp_le, lg_cmp_gt, lg_cmp_ge, lg_cmp_eq] at hk_p); (try simp (disch := omega) only [ta_lt, ta_le, ta_eq, tb_lt, tb_le, tb_eq, tw, tnI, tn32 2 (by decide), tnj 2 (by decide), tn32 1 (by decide), tnj 1 (by decide), tl32 0 (by decide), tl64 0 (by decide)] at hk_p); (try simp only [lg_cmp_lt, lg_cmp_le, lg_cmp_gt, lg_cmp_ge, lg_cmp_eq] at hc2); (try simp (disch := omega) only [ta_lt, ta_le, ta_eq, tb_lt, tb_le, tb_eq, tw, tnI, tn32 2 (by decide), tnj 2 (by decide), tn32 1 (by decide), tnj 1 (by decide), tl32 0 (by decide), tl64 0 (by decide)] at hc2); (try simp only [lg_cmp_lt, lg_cmp_le, lg_cmp_gt, lg_cmp_ge, lg_cmp_eq] at hk_o); (try simp (disch := omega) only [ta_lt, ta_le, ta_eq, tb_lt, tb_le, tb_eq, tw, tnI, tn32 2 (by decide), tnj 2 (by decide), tn32 1 (by decide), tnj 1 (by decide), tl32 0 (by decide), tl64 0 (by decide)] at hk_o); (try simp only [lg_cmp_lt, lg_cmp_le, lg_cmp_gt, lg_cmp_ge, lg_cmp_eq] at c3); (try simp (disch := omega) only [ta_lt, ta_le, ta_eq, tb_lt, tb_le, tb_eq, tw, tnI, tn32 2 (by decide), tnj 2 (by decide), tn32 1 (by decide), tnj 1 (by decide), tl32 0 (by decide), tl64 0 (by decide)] at c3); (try simp only [lg_cmp_lt, lg_cmp_le, lg_cmp_gt, lg_cmp_ge, lg_cmp_eq] at c4); (try simp (disch := omega) only [ta_lt, ta_le, ta_eq, tb_lt, tb_le, tb_eq, tw, tnI, tn32 2 (by decide), tnj 2 (by decide), tn32 1 (by decide), tnj 1 (by decide), tl32 0 (by decide), tl64 0 (by decide)] at c4); (try simp (disch := omega) only [tnI, tn32 2 (by decide), tnj 2 (by decide), tn32 1 (by decide), tnj 1 (by decide), tl32 0 (by decide), tl64 0 (by decide)]); (repeat' split) <;> first | rfl | omega | (apply Int32.toInt_inj.mp; simp (disch := omega) only [tnI, tn32 2 (by decide), tnj 2 (by decide), tn32 1 (by decide), tnj 1 (by decide), tl32 0 (by decide), tl64 0 (by decide)]; omega))) (dkP dF_172 DX11_calls (i := 16) rfl rfl)
        · skip
          refine lv_iload_n hx hb (dkP dF_29 DX11_calls (i := 12) rfl rfl) rfl (lv_at hl 3 rfl) ?_
          refine lv_sipush (v := 999) hx hb (dkS dF_17 DX11_calls (i := 13) rfl rfl rfl) (by decide) ?_
          refine lv_icmp_le (tgt := 34) hx hb (dkS dF_164 DX11_calls (i := 14) rfl rfl rfl) (by decide) (fun c5 => ?_) (fun c5 => ?_)
          · skip
            refine lv_aload_n hx hb (dkP dF_42 DX11_calls (i := 17) rfl rfl) rfl (lv_at hl 0 rfl) ?_
            refine z_gr C0 hw 0 0 1 (fk_of shc_0 rfl) fl_X11_10 (dk2 dF_180 DX11_calls (i := 18) rfl rfl rfl) ?_
            refine z_gr C0 hw 1 1 3 (fk_of shc_1 rfl) fl_X11_260 (dk2 dF_180 DX11_calls (i := 19) rfl rfl rfl) ?_
            refine lv_iload_n hx hb (dkP dF_27 DX11_calls (i := 20) rfl rfl) rfl (lv_at hl 1 rfl) ?_
            refine lv_bipush (v := 8) hx hb (dks dF_16 DX11_calls (i := 21) rfl rfl rfl) (by decide) ?_
            refine lv_imul hx hb (dkP dF_104 DX11_calls (i := 22) rfl rfl) ?_
            refine z_top (y := nI (k_p * 8)) (by simp only [fa_lit, nI_add, pk_mul]) ?_
            refine lv_iload_n hx hb (dkP dF_28 DX11_calls (i := 23) rfl rfl) rfl (lv_at hl 2 rfl) ?_
            refine lv_iadd hx hb (dkP dF_96 DX11_calls (i := 24) rfl rfl) ?_
            refine z_top (y := nI ((k_p * 8) + k_o)) (by simp only [fa_lit, nI_add, pk_mul]) ?_
            refine z_ialdN (n := 64) C0 hw 3 ((k_p * 8) + k_o) (ak_of shc_3) (by omega) (by decide) (dkP dF_46 DX11_calls (i := 25) rfl rfl) ?_
            refine z_top (y := (-1)) (s0a_3 _) ?_
            refine lv_istore (lv' := [(4, .int (-1)), (0, .ref (ad 0)), (1, .int (nI k_p)), (2, .int (nI k_o)), (3, .int v)]) hx hb (dk1 dF_54 DX11_calls (i := 26) rfl rfl rfl) hl (by decide) rfl (fun ls hl => ?_)
            refine lv_aload_n hx hb (dkP dF_42 DX11_calls (i := 27) rfl rfl) rfl (lv_at hl 1 rfl) ?_
            refine z_gr C0 hw 0 0 1 (fk_of shc_0 rfl) fl_X11_10 (dk2 dF_180 DX11_calls (i := 28) rfl rfl rfl) ?_
            refine z_gr C0 hw 1 1 3 (fk_of shc_1 rfl) fl_X11_260 (dk2 dF_180 DX11_calls (i := 29) rfl rfl rfl) ?_
            refine lv_iload_n hx hb (dkP dF_27 DX11_calls (i := 30) rfl rfl) rfl (lv_at hl 2 rfl) ?_
            refine lv_bipush (v := 8) hx hb (dks dF_16 DX11_calls (i := 31) rfl rfl rfl) (by decide) ?_
            refine lv_imul hx hb (dkP dF_104 DX11_calls (i := 32) rfl rfl) ?_
            refine z_top (y := nI (k_p * 8)) (by simp only [fa_lit, nI_add, pk_mul]) ?_
            refine lv_iload_n hx hb (dkP dF_28 DX11_calls (i := 33) rfl rfl) rfl (lv_at hl 3 rfl) ?_
            refine lv_iadd hx hb (dkP dF_96 DX11_calls (i := 34) rfl rfl) ?_
            refine z_top (y := nI ((k_p * 8) + k_o)) (by simp only [fa_lit, nI_add, pk_mul]) ?_
            refine lv_iload_n hx hb (dkP dF_29 DX11_calls (i := 35) rfl rfl) rfl (lv_at hl 4 rfl) ?_
            refine z_iastN (n := 64) C0 hw 3 ((k_p * 8) + k_o) (ak_of shc_3) (by omega) (by decide) (dkP dF_79 DX11_calls (i := 36) rfl rfl) (fun H locs hw => ?_)
            refine lv_iload hx hb (dk1 dF_21 DX11_calls (i := 37) rfl rfl rfl) (lv_at hl 0 rfl) ?_
            exact z_iret C0 hr hlk hw (by first | rfl | ((try simp only [lg_cmp_lt, lg_cmp_le, lg_cmp_gt, lg_cmp_ge, lg_cmp_eq] at hc1); (try simp (disch := omega) only [ta_lt, ta_le, ta_eq, tb_lt, tb_le, tb_eq, tw, tnI, tn32 2 (by decide), tnj 2 (by decide), tn32 1 (by decide), tnj 1 (by decide), tl32 0 (by decide), tl64 0 (by decide), tl32 8 (by decide), tl64 8 (by decide), tl32 999 (by decide), tl64 999 (by decide)] at hc1); (try simp only [lg_cmp_lt, lg_cmp_le, lg_cmp_gt, lg_cmp_ge, lg_cmp_eq] at hk_p); (try simp (disch := omega) only [ta_lt, ta_le, ta_eq, tb_lt, tb_le, tb_eq, tw, tnI, tn32 2 (by decide), tnj 2 (by decide), tn32 1 (by decide), tnj 1 (by decide), tl32 0 (by decide), tl64 0 (by decide), tl32 8 (by decide), tl64 8 (by decide), tl32 999 (by decide), tl64 999 (by decide)] at hk_p); (try simp only [lg_cmp_lt, lg_cmp_le, lg_cmp_gt, lg_cmp_ge, lg_cmp_eq] at hc2); (try simp (disch := omega) only [ta_lt, ta_le, ta_eq, tb_lt, tb_le, tb_eq, tw, tnI, tn32 2 (by decide), tnj 2 (by decide), tn32 1 (by decide), tnj 1 (by decide), tl32 0 (by decide), tl64 0 (by decide), tl32 8 (by decide), tl64 8 (by decide), tl32 999 (by decide), tl64 999 (by decide)] at hc2); (try simp only [lg_cmp_lt, lg_cmp_le, lg_cmp_gt, lg_cmp_ge, lg_cmp_eq] at hk_o); (try simp (disch := omega) only [ta_lt, ta_le, ta_eq, tb_lt, tb_le, tb_eq, tw, tnI, tn32 2 (by decide), tnj 2 (by decide), tn32 1 (by decide), tnj 1 (by decide), tl32 0 (by decide), tl64 0 (by decide), tl32 8 (by decide), tl64 8 (by decide), tl32 999 (by decide), tl64 999 (by decide)] at hk_o); (try simp only [lg_cmp_lt, lg_cmp_le, lg_cmp_gt, lg_cmp_ge, lg_cmp_eq] at c3); (try simp (disch := omega) only [ta_lt, ta_le, ta_eq, tb_lt, tb_le, tb_eq, tw, tnI, tn32 2 (by decide), tnj 2 (by decide), tn32 1 (by decide), tnj 1 (by decide), tl32 0 (by decide), tl64 0 (by decide), tl32 8 (by decide), tl64 8 (by decide), tl32 999 (by decide), tl64 999 (by decide)] at c3); (try simp only [lg_cmp_lt, lg_cmp_le, lg_cmp_gt, lg_cmp_ge, lg_cmp_eq] at c4); (try simp (disch := omega) only [ta_lt, ta_le, ta_eq, tb_lt, tb_le, tb_eq, tw, tnI, tn32 2 (by decide), tnj 2 (by decide), tn32 1 (by decide), tnj 1 (by decide), tl32 0 (by decide), tl64 0 (by decide), tl32 8 (by decide), tl64 8 (by decide), tl32 999 (by decide), tl64 999 (by decide)] at c4); (try simp only [lg_cmp_lt, lg_cmp_le, lg_cmp_gt, lg_cmp_ge, lg_cmp_eq] at c5); (try simp (disch := omega) only [ta_lt, ta_le, ta_eq, tb_lt, tb_le, tb_eq, tw, tnI, tn32 2 (by decide), tnj 2 (by decide), tn32 1 (by decide), tnj 1 (by decide), tl32 0 (by decide), tl64 0 (by decide), tl32 8 (by decide), tl64 8 (by decide), tl32 999 (by decide), tl64 999 (by decide)] at c5); (try simp (disch := omega) only [tnI, tn32 2 (by decide), tnj 2 (by decide), tn32 1 (by decide), tnj 1 (by decide), tl32 0 (by decide), tl64 0 (by decide), tl32 8 (by decide), tl64 8 (by decide), tl32 999 (by decide), tl64 999 (by decide)]); (repeat' split) <;> first | rfl | omega | (apply Int32.toInt_inj.mp; simp (disch := omega) only [tnI, tn32 2 (by decide), tnj 2 (by decide), tn32 1 (by decide), tnj 1 (by decide), tl32 0 (by decide), tl64 0 (by decide), tl32 8 (by decide), tl64 8 (by decide), tl32 999 (by decide), tl64 999 (by decide)]; omega))) (dkP dF_172 DX11_calls (i := 38) rfl rfl)
          · skip
            refine lv_bipush (v := (-2)) hx hb (dks dF_16 DX11_calls (i := 15) rfl rfl rfl) (by decide) ?_
            exact z_iret C0 hr hlk hw (by first | rfl | ((try simp only [lg_cmp_lt, lg_cmp_le, lg_cmp_gt, lg_cmp_ge, lg_cmp_eq] at hc1); (try simp (disch := omega) only [ta_lt, ta_le, ta_eq, tb_lt, tb_le, tb_eq, tw, tnI, tn32 2 (by decide), tnj 2 (by decide), tn32 1 (by decide), tnj 1 (by decide), tl32 0 (by decide), tl64 0 (by decide), tl32 8 (by decide), tl64 8 (by decide), tl32 999 (by decide), tl64 999 (by decide)] at hc1); (try simp only [lg_cmp_lt, lg_cmp_le, lg_cmp_gt, lg_cmp_ge, lg_cmp_eq] at hk_p); (try simp (disch := omega) only [ta_lt, ta_le, ta_eq, tb_lt, tb_le, tb_eq, tw, tnI, tn32 2 (by decide), tnj 2 (by decide), tn32 1 (by decide), tnj 1 (by decide), tl32 0 (by decide), tl64 0 (by decide), tl32 8 (by decide), tl64 8 (by decide), tl32 999 (by decide), tl64 999 (by decide)] at hk_p); (try simp only [lg_cmp_lt, lg_cmp_le, lg_cmp_gt, lg_cmp_ge, lg_cmp_eq] at hc2); (try simp (disch := omega) only [ta_lt, ta_le, ta_eq, tb_lt, tb_le, tb_eq, tw, tnI, tn32 2 (by decide), tnj 2 (by decide), tn32 1 (by decide), tnj 1 (by decide), tl32 0 (by decide), tl64 0 (by decide), tl32 8 (by decide), tl64 8 (by decide), tl32 999 (by decide), tl64 999 (by decide)] at hc2); (try simp only [lg_cmp_lt, lg_cmp_le, lg_cmp_gt, lg_cmp_ge, lg_cmp_eq] at hk_o); (try simp (disch := omega) only [ta_lt, ta_le, ta_eq, tb_lt, tb_le, tb_eq, tw, tnI, tn32 2 (by decide), tnj 2 (by decide), tn32 1 (by decide), tnj 1 (by decide), tl32 0 (by decide), tl64 0 (by decide), tl32 8 (by decide), tl64 8 (by decide), tl32 999 (by decide), tl64 999 (by decide)] at hk_o); (try simp only [lg_cmp_lt, lg_cmp_le, lg_cmp_gt, lg_cmp_ge, lg_cmp_eq] at c3); (try simp (disch := omega) only [ta_lt, ta_le, ta_eq, tb_lt, tb_le, tb_eq, tw, tnI, tn32 2 (by decide), tnj 2 (by decide), tn32 1 (by decide), tnj 1 (by decide), tl32 0 (by decide), tl64 0 (by decide), tl32 8 (by decide), tl64 8 (by decide), tl32 999 (by decide), tl64 999 (by decide)] at c3); (try simp only [lg_cmp_lt, lg_cmp_le, lg_cmp_gt, lg_cmp_ge, lg_cmp_eq] at c4); (try simp (disch := omega) only [ta_lt, ta_le, ta_eq, tb_lt, tb_le, tb_eq, tw, tnI, tn32 2 (by decide), tnj 2 (by decide), tn32 1 (by decide), tnj 1 (by decide), tl32 0 (by decide), tl64 0 (by decide), tl32 8 (by decide), tl64 8 (by decide), tl32 999 (by decide), tl64 999 (by decide)] at c4); (try simp only [lg_cmp_lt, lg_cmp_le, lg_cmp_gt, lg_cmp_ge, lg_cmp_eq] at c5); (try simp (disch := omega) only [ta_lt, ta_le, ta_eq, tb_lt, tb_le, tb_eq, tw, tnI, tn32 2 (by decide), tnj 2 (by decide), tn32 1 (by decide), tnj 1 (by decide), tl32 0 (by decide), tl64 0 (by decide), tl32 8 (by decide), tl64 8 (by decide), tl32 999 (by decide), tl64 999 (by decide)] at c5); (try simp (disch := omega) only [tnI, tn32 2 (by decide), tnj 2 (by decide), tn32 1 (by decide), tnj 1 (by decide), tl32 0 (by decide), tl64 0 (by decide), tl32 8 (by decide), tl64 8 (by decide), tl32 999 (by decide), tl64 999 (by decide)]); (repeat' split) <;> first | rfl | omega | (apply Int32.toInt_inj.mp; simp (disch := omega) only [tnI, tn32 2 (by decide), tnj 2 (by decide), tn32 1 (by decide), tnj 1 (by decide), tl32 0 (by decide), tl64 0 (by decide), tl32 8 (by decide), tl64 8 (by decide), tl32 999 (by decide), tl64 999 (by decide)]; omega))) (dkP dF_172 DX11_calls (i := 16) rfl rfl)
    · skip
      refine lv_if_eq (tgt := 31) hx hb (dkS dF_153 DX11_calls (i := 5) rfl rfl rfl) (by decide) (fun _ => ?_) (fun h => absurd h (by decide))
      refine lv_bipush (v := (-2)) hx hb (dks dF_16 DX11_calls (i := 15) rfl rfl rfl) (by decide) ?_
      exact z_iret C0 hr hlk hw (by first | rfl | ((try simp only [lg_cmp_lt, lg_cmp_le, lg_cmp_gt, lg_cmp_ge, lg_cmp_eq] at hc1); (try simp (disch := omega) only [ta_lt, ta_le, ta_eq, tb_lt, tb_le, tb_eq, tw, tnI, tn32 2 (by decide), tnj 2 (by decide), tn32 1 (by decide), tnj 1 (by decide), tl32 0 (by decide), tl64 0 (by decide), tl32 8 (by decide), tl64 8 (by decide), tl32 999 (by decide), tl64 999 (by decide)] at hc1); (try simp only [lg_cmp_lt, lg_cmp_le, lg_cmp_gt, lg_cmp_ge, lg_cmp_eq] at hk_p); (try simp (disch := omega) only [ta_lt, ta_le, ta_eq, tb_lt, tb_le, tb_eq, tw, tnI, tn32 2 (by decide), tnj 2 (by decide), tn32 1 (by decide), tnj 1 (by decide), tl32 0 (by decide), tl64 0 (by decide), tl32 8 (by decide), tl64 8 (by decide), tl32 999 (by decide), tl64 999 (by decide)] at hk_p); (try simp only [lg_cmp_lt, lg_cmp_le, lg_cmp_gt, lg_cmp_ge, lg_cmp_eq] at hc2); (try simp (disch := omega) only [ta_lt, ta_le, ta_eq, tb_lt, tb_le, tb_eq, tw, tnI, tn32 2 (by decide), tnj 2 (by decide), tn32 1 (by decide), tnj 1 (by decide), tl32 0 (by decide), tl64 0 (by decide), tl32 8 (by decide), tl64 8 (by decide), tl32 999 (by decide), tl64 999 (by decide)] at hc2); (try simp (disch := omega) only [tnI, tn32 2 (by decide), tnj 2 (by decide), tn32 1 (by decide), tnj 1 (by decide), tl32 0 (by decide), tl64 0 (by decide), tl32 8 (by decide), tl64 8 (by decide), tl32 999 (by decide), tl64 999 (by decide)]); (repeat' split) <;> first | rfl | omega | (apply Int32.toInt_inj.mp; simp (disch := omega) only [tnI, tn32 2 (by decide), tnj 2 (by decide), tn32 1 (by decide), tnj 1 (by decide), tl32 0 (by decide), tl64 0 (by decide), tl32 8 (by decide), tl64 8 (by decide), tl32 999 (by decide), tl64 999 (by decide)]; omega))) (dkP dF_172 DX11_calls (i := 16) rfl rfl)
  · skip
    refine lv_if_eq (tgt := 31) hx hb (dkS dF_153 DX11_calls (i := 2) rfl rfl rfl) (by decide) (fun _ => ?_) (fun h => absurd h (by decide))
    refine lv_bipush (v := (-2)) hx hb (dks dF_16 DX11_calls (i := 15) rfl rfl rfl) (by decide) ?_
    exact z_iret C0 hr hlk hw (by first | rfl | ((try simp only [lg_cmp_lt, lg_cmp_le, lg_cmp_gt, lg_cmp_ge, lg_cmp_eq] at hc1); (try simp (disch := omega) only [ta_lt, ta_le, ta_eq, tb_lt, tb_le, tb_eq, tw, tnI, tn32 2 (by decide), tnj 2 (by decide), tn32 1 (by decide), tnj 1 (by decide), tl32 0 (by decide), tl64 0 (by decide), tl32 8 (by decide), tl64 8 (by decide), tl32 999 (by decide), tl64 999 (by decide)] at hc1); (try simp (disch := omega) only [tnI, tn32 2 (by decide), tnj 2 (by decide), tn32 1 (by decide), tnj 1 (by decide), tl32 0 (by decide), tl64 0 (by decide), tl32 8 (by decide), tl64 8 (by decide), tl32 999 (by decide), tl64 999 (by decide)]); (repeat' split) <;> first | rfl | omega | (apply Int32.toInt_inj.mp; simp (disch := omega) only [tnI, tn32 2 (by decide), tnj 2 (by decide), tn32 1 (by decide), tnj 1 (by decide), tl32 0 (by decide), tl64 0 (by decide), tl32 8 (by decide), tl64 8 (by decide), tl32 999 (by decide), tl64 999 (by decide)]; omega))) (dkP dF_172 DX11_calls (i := 16) rfl rfl)
set_option maxRecDepth 20000 in
theorem shc_4 : shC[4]? = some (1, 8, []) := by rfl
set_option maxRecDepth 20000 in
theorem s0a_4 : ∀ j, sC0.1 4 j = 0 := fun _ => rfl
set_option maxRecDepth 100000 in
set_option maxHeartbeats 4000000 in
theorem c_X10_needersOf (l : Launch) (G : va_G) (kc : Nat → ClassId) (ad : Nat → Nat)  (p : Nat)  : MI l G kc yX10_needersOf cX10_needersOf 5 (some .int) 0 0 [.ref (ad 1), .int (nI p)] shC ad sC0 (fun r σ1 => r = (0) ∧ σ1 = sC0) := by
  intro sz
  refine z_body (y := yX10_needersOf) (n := 5) (av := [.ref (ad 1), .int (nI p)]) (Qc := fun A => va_Qi (fun r σ1 => r = (0) ∧ σ1 = sC0) (PoC G kc shC ad A) A) (plainFor_of_name (by decide)) (Nat.le_of_ble_eq_true rfl) (fun pr e s m below meth c A C0 hr hlk hnm hw ls hl => ?_) sz
  have hx := C0.1
  have hb := C0.2.1
  have hown := C0.2.2.2.1
  have hts := C0.2.2.2.2.1
  have hl : lv_has ls 5 [(0, .ref (ad 1)), (1, .int (nI p))] := hl
  refine lv_iconst (v := 0) hx hb (dkP dF_3 DX10_needersOf (i := 0) rfl rfl) (by decide) ?_
  refine lv_istore_n (lv' := [(2, .int 0), (0, .ref (ad 1)), (1, .int (nI p))]) hx hb (dkP dF_61 DX10_needersOf (i := 1) rfl rfl) rfl hl (by decide) rfl (fun ls hl => ?_)
  refine lv_iconst (v := 0) hx hb (dkP dF_3 DX10_needersOf (i := 2) rfl rfl) (by decide) ?_
  refine lv_istore_n (lv' := [(3, .int 0), (2, .int 0), (0, .ref (ad 1)), (1, .int (nI p))]) hx hb (dkP dF_62 DX10_needersOf (i := 3) rfl rfl) rfl hl (by decide) rfl (fun ls hl => ?_)
  have lp1 : ∀ (n : Nat) (ia : Nat) (H : Heap) (locs : List Loc) (ls : Array Slot), 8 - ia < n → (ia ≤ 8) → St G kc A s.heap shC ad sC0 H locs → lv_has ls 5 [(3, .int (nI ia)), (2, .int 0), (0, .ref (ad 1)), (1, .int (nI p))] → W pr l e { frames := 0, cells := 0, slots := 0, locals := 0 } s m ([.ref (ad 1), .int (nI p)] : List Value).toArray below meth c H locs 0 0 (MQ below (va_Qi (fun r σ1 => r = (0) ∧ σ1 = sC0) (PoC G kc shC ad A) A) ([.ref (ad 1), .int (nI p)] : List Value).toArray s 0 0 A) (F0 m 4 ls []) := by
    intro n
    induction n with
    | zero => intro ia H locs ls hmu; exact absurd hmu (Nat.not_lt_zero _)
    | succ n ih1 =>
      intro ia H locs ls hmu hia hw hl
      refine lv_iload_n hx hb (dkP dF_29 DX10_needersOf (i := 4) rfl rfl) rfl (lv_at hl 0 rfl) ?_
      refine lv_bipush (v := 8) hx hb (dks dF_16 DX10_needersOf (i := 5) rfl rfl rfl) (by decide) ?_
      refine lv_icmp_ge (tgt := 55) hx hb (dkS dF_162 DX10_needersOf (i := 6) rfl rfl rfl) (by decide) (fun c2 => ?_) (fun c2 => ?_)
      · simp (disch := omega) only [ta_lt, ta_le, ta_eq, tnI, tl32 8 (by decide)] at c2
        refine lv_iload_n hx hb (dkP dF_28 DX10_needersOf (i := 33) rfl rfl) rfl (lv_at hl 1 rfl) ?_
        exact z_iret C0 hr hlk hw (⟨(by first | rfl | ((try simp only [lg_cmp_lt, lg_cmp_le, lg_cmp_gt, lg_cmp_ge, lg_cmp_eq] at c2); (try simp (disch := omega) only [ta_lt, ta_le, ta_eq, tb_lt, tb_le, tb_eq, tw, tnI, tn32 1 (by decide), tnj 1 (by decide), tl32 0 (by decide), tl64 0 (by decide), tl32 8 (by decide), tl64 8 (by decide)] at c2); (try simp (disch := omega) only [tnI, tn32 1 (by decide), tnj 1 (by decide), tl32 0 (by decide), tl64 0 (by decide), tl32 8 (by decide), tl64 8 (by decide)]); (repeat' split) <;> first | rfl | omega | (apply Int32.toInt_inj.mp; simp (disch := omega) only [tnI, tn32 1 (by decide), tnj 1 (by decide), tl32 0 (by decide), tl64 0 (by decide), tl32 8 (by decide), tl64 8 (by decide)]; omega))), rfl⟩) (dkP dF_172 DX10_needersOf (i := 34) rfl rfl)
      · simp (disch := omega) only [ta_lt, ta_le, ta_eq, tnI, tl32 8 (by decide)] at c2
        refine lv_iconst (v := 0) hx hb (dkP dF_3 DX10_needersOf (i := 7) rfl rfl) (by decide) ?_
        refine lv_istore (lv' := [(4, .int 0), (3, .int (nI ia)), (2, .int 0), (0, .ref (ad 1)), (1, .int (nI p))]) hx hb (dk1 dF_54 DX10_needersOf (i := 8) rfl rfl rfl) hl (by decide) rfl (fun ls hl => ?_)
        have lp3 : ∀ (n : Nat) (ib : Nat) (H : Heap) (locs : List Loc) (ls : Array Slot), 8 - ib < n → (ib ≤ 8) → St G kc A s.heap shC ad sC0 H locs → lv_has ls 5 [(4, .int (nI ib)), (3, .int (nI ia)), (2, .int 0), (0, .ref (ad 1)), (1, .int (nI p))] → W pr l e { frames := 0, cells := 0, slots := 0, locals := 0 } s m ([.ref (ad 1), .int (nI p)] : List Value).toArray below meth c H locs 0 0 (MQ below (va_Qi (fun r σ1 => r = (0) ∧ σ1 = sC0) (PoC G kc shC ad A) A) ([.ref (ad 1), .int (nI p)] : List Value).toArray s 0 0 A) (F0 m 13 ls []) := by
          intro n
          induction n with
          | zero => intro ib H locs ls hmu; exact absurd hmu (Nat.not_lt_zero _)
          | succ n ih3 =>
            intro ib H locs ls hmu hib hw hl
            refine lv_iload hx hb (dk1 dF_21 DX10_needersOf (i := 9) rfl rfl rfl) (lv_at hl 0 rfl) ?_
            refine lv_bipush (v := 8) hx hb (dks dF_16 DX10_needersOf (i := 10) rfl rfl rfl) (by decide) ?_
            refine lv_icmp_ge (tgt := 49) hx hb (dkS dF_162 DX10_needersOf (i := 11) rfl rfl rfl) (by decide) (fun c4 => ?_) (fun c4 => ?_)
            · simp (disch := omega) only [ta_lt, ta_le, ta_eq, tnI, tl32 8 (by decide)] at c4
              refine lv_iinc (v := nI (ia + 1)) (lv' := [(3, .int (nI (ia + 1))), (4, .int (nI ib)), (2, .int 0), (0, .ref (ad 1)), (1, .int (nI p))]) hx hb (dkI DX10_needersOf (i := 31) rfl rfl rfl rfl) hl (k := 1) rfl (nI_1 _) (by decide) rfl (fun ls hl => ?_)
              refine lv_goto (tgt := 4) hx hb (dkS dF_167 DX10_needersOf (i := 32) rfl rfl rfl) (by decide) ?_
              exact ih1 (ia + 1) _ _ _ (by omega) (by omega) hw (lv_sub hl [0, 2, 3, 4] rfl)
            · simp (disch := omega) only [ta_lt, ta_le, ta_eq, tnI, tl32 8 (by decide)] at c4
              refine lv_aload_n hx hb (dkP dF_42 DX10_needersOf (i := 12) rfl rfl) rfl (lv_at hl 3 rfl) ?_
              refine z_gr C0 hw 1 2 4 (fk_of shc_1 rfl) fl_X10_21 (dk2 dF_180 DX10_needersOf (i := 13) rfl rfl rfl) ?_
              refine lv_iload hx hb (dk1 dF_21 DX10_needersOf (i := 14) rfl rfl rfl) (lv_at hl 0 rfl) ?_
              refine z_ialdN (n := 8) C0 hw 4 ib (ak_of shc_4) (by omega) (by decide) (dkP dF_46 DX10_needersOf (i := 15) rfl rfl) ?_
              refine z_top (y := 0) (s0a_4 _) ?_
              refine lv_iload_n hx hb (dkP dF_28 DX10_needersOf (i := 16) rfl rfl) rfl (lv_at hl 2 rfl) ?_
              refine lv_iconst (v := 1) hx hb (dkP dF_4 DX10_needersOf (i := 17) rfl rfl) (by decide) ?_
              refine lv_iload_n hx hb (dkP dF_27 DX10_needersOf (i := 18) rfl rfl) rfl (lv_at hl 4 rfl) ?_
              refine lv_ishl hx hb (dkP dF_120 DX10_needersOf (i := 19) rfl rfl) ?_
              refine lv_ior hx hb (dkP dF_128 DX10_needersOf (i := 20) rfl rfl) ?_
              refine lv_iand hx hb (dkP dF_126 DX10_needersOf (i := 21) rfl rfl) ?_
              refine z_top (y := 0) (z0a _) ?_
              refine lv_if_eq (tgt := 43) hx hb (dkS dF_153 DX10_needersOf (i := 22) rfl rfl rfl) (by decide) (fun _ => ?_) (fun h => absurd h (by decide))
              refine lv_iinc (v := nI (ib + 1)) (lv' := [(4, .int (nI (ib + 1))), (3, .int (nI ia)), (2, .int 0), (0, .ref (ad 1)), (1, .int (nI p))]) hx hb (dkI DX10_needersOf (i := 29) rfl rfl rfl rfl) hl (k := 0) rfl (nI_1 _) (by decide) rfl (fun ls hl => ?_)
              refine lv_goto (tgt := 13) hx hb (dkS dF_167 DX10_needersOf (i := 30) rfl rfl rfl) (by decide) ?_
              exact ih3 (ib + 1) _ _ _ (by omega) (by omega) hw (lv_sub hl [0, 1, 2, 3, 4] rfl)
        exact lp3 _ 0 _ _ _ (Nat.lt_succ_self _) (by omega) hw (lv_sub hl [0, 1, 2, 3, 4] rfl)
  exact lp1 _ 0 _ _ _ (Nat.lt_succ_self _) (by omega) hw (lv_sub hl [0, 1, 2, 3] rfl)
set_option maxRecDepth 100000 in
set_option maxHeartbeats 4000000 in
theorem c_X11_needs (l : Launch) (G : va_G) (kc : Nat → ClassId) (ad : Nat → Nat)  (p : Int32) (o : Int32)  : MI l G kc yX11_needs cX11_needs 3 (some .int) 1 24 [.ref (ad 0), .int p, .int o] shC ad sC0 (fun r σ1 => r = if 0 ≤ p.toInt ∧ p.toInt ≤ 7 ∧ 0 ≤ o.toInt ∧ o.toInt ≤ 7 then (if p.toInt = o.toInt then -5 else 0) else -2) := by
  intro sz
  refine z_body (y := yX11_needs) (n := 3) (av := [.ref (ad 0), .int p, .int o]) (Qc := fun A => va_Qi (fun r σ1 => r = if 0 ≤ p.toInt ∧ p.toInt ≤ 7 ∧ 0 ≤ o.toInt ∧ o.toInt ≤ 7 then (if p.toInt = o.toInt then -5 else 0) else -2) (PoC G kc shC ad A) A) (plainFor_of_name (by decide)) (Nat.le_of_ble_eq_true rfl) (fun pr e s m below meth c A C0 hr hlk hnm hw ls hl => ?_) sz
  have hx := C0.1
  have hb := C0.2.1
  have hown := C0.2.2.2.1
  have hts := C0.2.2.2.2.1
  have hl : lv_has ls 3 [(0, .ref (ad 0)), (1, .int p), (2, .int o)] := hl
  refine lv_iload_n hx hb (dkP dF_27 DX11_needs (i := 0) rfl rfl) rfl (lv_at hl 1 rfl) ?_
  refine zn_I hw (zr_S (As := [.int p]) (rest := []) C0 (c_X11_isProgram l G kc p  _) cs_X11_isProgram lk_X11_257 (zp_P C0 a00 s00) rfl hl.1 rfl ⟨by decide, by decide⟩ (Nat.le_of_ble_eq_true rfl) (dk2 dF_184 DX11_needs (i := 1) rfl rfl rfl) ⟨Nat.le_refl _, Nat.le_refl _⟩) (fun r1 s1 H locs hp hw => ?_)
  rcases hp with ⟨rfl, hc1⟩ | ⟨rfl, hc1⟩
  · skip
    obtain ⟨k_p, hk_p, rfl⟩ := to_nat (x := p) (n := 8) (by (try simp only [lg_cmp_lt, lg_cmp_le, lg_cmp_gt, lg_cmp_ge, lg_cmp_eq] at hc1); (try simp (disch := omega) only [ta_lt, ta_le, ta_eq, tb_lt, tb_le, tb_eq, tw, tnI, tn32 1 (by decide), tnj 1 (by decide), tl32 0 (by decide), tl64 0 (by decide)] at hc1); (try simp (disch := omega) only [ta_lt, ta_le, ta_eq, tb_lt, tb_le, tb_eq, tw, tnI, tn32 1 (by decide), tnj 1 (by decide), tl32 0 (by decide), tl64 0 (by decide)]); omega)
    refine lv_if_eq (tgt := 14) hx hb (dkS dF_153 DX11_needs (i := 2) rfl rfl rfl) (by decide) (fun h => absurd h (by decide)) (fun _ => ?_)
    refine lv_iload_n hx hb (dkP dF_28 DX11_needs (i := 3) rfl rfl) rfl (lv_at hl 2 rfl) ?_
    refine zn_I hw (zr_S (As := [.int o]) (rest := []) C0 (c_X11_isProgram l G kc o  _) cs_X11_isProgram lk_X11_257 (zp_P C0 a00 s00) rfl hl.1 rfl ⟨by decide, by decide⟩ (Nat.le_of_ble_eq_true rfl) (dk2 dF_184 DX11_needs (i := 4) rfl rfl rfl) ⟨Nat.le_refl _, Nat.le_refl _⟩) (fun r2 s2 H locs hp hw => ?_)
    rcases hp with ⟨rfl, hc2⟩ | ⟨rfl, hc2⟩
    · skip
      obtain ⟨k_o, hk_o, rfl⟩ := to_nat (x := o) (n := 8) (by (try simp only [lg_cmp_lt, lg_cmp_le, lg_cmp_gt, lg_cmp_ge, lg_cmp_eq] at hc1); (try simp (disch := omega) only [ta_lt, ta_le, ta_eq, tb_lt, tb_le, tb_eq, tw, tnI, tn32 1 (by decide), tnj 1 (by decide), tl32 0 (by decide), tl64 0 (by decide)] at hc1); (try simp only [lg_cmp_lt, lg_cmp_le, lg_cmp_gt, lg_cmp_ge, lg_cmp_eq] at hk_p); (try simp (disch := omega) only [ta_lt, ta_le, ta_eq, tb_lt, tb_le, tb_eq, tw, tnI, tn32 1 (by decide), tnj 1 (by decide), tl32 0 (by decide), tl64 0 (by decide)] at hk_p); (try simp only [lg_cmp_lt, lg_cmp_le, lg_cmp_gt, lg_cmp_ge, lg_cmp_eq] at hc2); (try simp (disch := omega) only [ta_lt, ta_le, ta_eq, tb_lt, tb_le, tb_eq, tw, tnI, tn32 1 (by decide), tnj 1 (by decide), tl32 0 (by decide), tl64 0 (by decide)] at hc2); (try simp (disch := omega) only [ta_lt, ta_le, ta_eq, tb_lt, tb_le, tb_eq, tw, tnI, tn32 1 (by decide), tnj 1 (by decide), tl32 0 (by decide), tl64 0 (by decide)]); omega)
      refine lv_if_ne (tgt := 17) hx hb (dkS dF_154 DX11_needs (i := 5) rfl rfl rfl) (by decide) (fun _ => ?_) (fun h => absurd h (by decide))
      refine lv_iload_n hx hb (dkP dF_27 DX11_needs (i := 8) rfl rfl) rfl (lv_at hl 1 rfl) ?_
      refine lv_iload_n hx hb (dkP dF_28 DX11_needs (i := 9) rfl rfl) rfl (lv_at hl 2 rfl) ?_
      refine lv_icmp_eq (tgt := 37) hx hb (dkS dF_159 DX11_needs (i := 10) rfl rfl rfl) (by decide) (fun c3 => ?_) (fun c3 => ?_)
      · simp (disch := omega) only [ta_lt, ta_le, ta_eq, tnI] at c3
        refine lv_bipush (v := (-5)) hx hb (dks dF_16 DX11_needs (i := 20) rfl rfl rfl) (by decide) ?_
        exact z_iret C0 hr hlk hw (by first | rfl | ((try simp only [lg_cmp_lt, lg_cmp_le, lg_cmp_gt, lg_cmp_ge, lg_cmp_eq] at hc1); (try simp (disch := omega) only [ta_lt, ta_le, ta_eq, tb_lt, tb_le, tb_eq, tw, tnI, tn32 5 (by decide), tnj 5 (by decide), tn32 1 (by decide), tnj 1 (by decide), tl32 0 (by decide), tl64 0 (by decide)] at hc1); (try simp only [lg_cmp_lt, lg_cmp_le, lg_cmp_gt, lg_cmp_ge, lg_cmp_eq] at hk_p); (try simp (disch := omega) only [ta_lt, ta_le, ta_eq, tb_lt, tb_le, tb_eq, tw, tnI, tn32 5 (by decide), tnj 5 (by decide), tn32 1 (by decide), tnj 1 (by decide), tl32 0 (by decide), tl64 0 (by decide)] at hk_p); (try simp only [lg_cmp_lt, lg_cmp_le, lg_cmp_gt, lg_cmp_ge, lg_cmp_eq] at hc2); (try simp (disch := omega) only [ta_lt, ta_le, ta_eq, tb_lt, tb_le, tb_eq, tw, tnI, tn32 5 (by decide), tnj 5 (by decide), tn32 1 (by decide), tnj 1 (by decide), tl32 0 (by decide), tl64 0 (by decide)] at hc2); (try simp only [lg_cmp_lt, lg_cmp_le, lg_cmp_gt, lg_cmp_ge, lg_cmp_eq] at hk_o); (try simp (disch := omega) only [ta_lt, ta_le, ta_eq, tb_lt, tb_le, tb_eq, tw, tnI, tn32 5 (by decide), tnj 5 (by decide), tn32 1 (by decide), tnj 1 (by decide), tl32 0 (by decide), tl64 0 (by decide)] at hk_o); (try simp only [lg_cmp_lt, lg_cmp_le, lg_cmp_gt, lg_cmp_ge, lg_cmp_eq] at c3); (try simp (disch := omega) only [ta_lt, ta_le, ta_eq, tb_lt, tb_le, tb_eq, tw, tnI, tn32 5 (by decide), tnj 5 (by decide), tn32 1 (by decide), tnj 1 (by decide), tl32 0 (by decide), tl64 0 (by decide)] at c3); (try simp (disch := omega) only [tnI, tn32 5 (by decide), tnj 5 (by decide), tn32 1 (by decide), tnj 1 (by decide), tl32 0 (by decide), tl64 0 (by decide)]); (repeat' split) <;> first | rfl | omega | (apply Int32.toInt_inj.mp; simp (disch := omega) only [tnI, tn32 5 (by decide), tnj 5 (by decide), tn32 1 (by decide), tnj 1 (by decide), tl32 0 (by decide), tl64 0 (by decide)]; omega))) (dkP dF_172 DX11_needs (i := 21) rfl rfl)
      · simp (disch := omega) only [ta_lt, ta_le, ta_eq, tnI] at c3
        refine lv_aload_n hx hb (dkP dF_42 DX11_needs (i := 11) rfl rfl) rfl (lv_at hl 0 rfl) ?_
        refine z_gr C0 hw 0 0 1 (fk_of shc_0 rfl) fl_X11_10 (dk2 dF_180 DX11_needs (i := 12) rfl rfl rfl) ?_
        refine lv_iload_n hx hb (dkP dF_27 DX11_needs (i := 13) rfl rfl) rfl (lv_at hl 1 rfl) ?_
        refine zk_I hw (zr_V (As := [.int (nI k_p)]) (rest := []) C0 (c_X10_needersOf l G kc ad k_p  _) cv_X10_needersOf lk_X11_263 (zp_V C0 hw 1 shc_1 rfl rfl) rfl hl.1 rfl ⟨by decide, by decide⟩ (Nat.le_of_ble_eq_true rfl) (dk2 dF_182 DX11_needs (i := 14) rfl rfl rfl) ⟨Nat.le_refl _, Nat.le_refl _⟩) (fun r4 s4 H locs hp hw => ?_)
        obtain ⟨rfl, hs4⟩ := hp
        (rw [hs4] at hw; clear hs4)
        refine lv_iconst (v := 1) hx hb (dkP dF_4 DX11_needs (i := 15) rfl rfl) (by decide) ?_
        refine lv_iload_n hx hb (dkP dF_28 DX11_needs (i := 16) rfl rfl) rfl (lv_at hl 2 rfl) ?_
        refine lv_ishl hx hb (dkP dF_120 DX11_needs (i := 17) rfl rfl) ?_
        refine lv_iand hx hb (dkP dF_126 DX11_needs (i := 18) rfl rfl) ?_
        refine z_top (y := 0) (z0a _) ?_
        refine lv_if_eq (tgt := 40) hx hb (dkS dF_153 DX11_needs (i := 19) rfl rfl rfl) (by decide) (fun _ => ?_) (fun h => absurd h (by decide))
        refine lv_aload_n hx hb (dkP dF_42 DX11_needs (i := 22) rfl rfl) rfl (lv_at hl 0 rfl) ?_
        refine z_gr C0 hw 0 0 1 (fk_of shc_0 rfl) fl_X11_10 (dk2 dF_180 DX11_needs (i := 23) rfl rfl rfl) ?_
        refine z_gr C0 hw 1 2 4 (fk_of shc_1 rfl) fl_X11_267 (dk2 dF_180 DX11_needs (i := 24) rfl rfl rfl) ?_
        refine lv_iload_n hx hb (dkP dF_27 DX11_needs (i := 25) rfl rfl) rfl (lv_at hl 1 rfl) ?_
        refine lv_dup2_11 hx hb (dkP dF_92 DX11_needs (i := 26) rfl rfl) rfl rfl ?_
        refine z_ialdN (n := 8) C0 hw 4 k_p (ak_of shc_4) (by omega) (by decide) (dkP dF_46 DX11_needs (i := 27) rfl rfl) ?_
        refine z_top (y := 0) (s0a_4 _) ?_
        refine lv_iconst (v := 1) hx hb (dkP dF_4 DX11_needs (i := 28) rfl rfl) (by decide) ?_
        refine lv_iload_n hx hb (dkP dF_28 DX11_needs (i := 29) rfl rfl) rfl (lv_at hl 2 rfl) ?_
        refine lv_ishl hx hb (dkP dF_120 DX11_needs (i := 30) rfl rfl) ?_
        refine lv_ior hx hb (dkP dF_128 DX11_needs (i := 31) rfl rfl) ?_
        refine z_iastN (n := 8) C0 hw 4 k_p (ak_of shc_4) (by omega) (by decide) (dkP dF_79 DX11_needs (i := 32) rfl rfl) (fun H locs hw => ?_)
        refine lv_iconst (v := 0) hx hb (dkP dF_3 DX11_needs (i := 33) rfl rfl) (by decide) ?_
        exact z_iret C0 hr hlk hw (by first | rfl | ((try simp only [lg_cmp_lt, lg_cmp_le, lg_cmp_gt, lg_cmp_ge, lg_cmp_eq] at hc1); (try simp (disch := omega) only [ta_lt, ta_le, ta_eq, tb_lt, tb_le, tb_eq, tw, tnI, tn32 5 (by decide), tnj 5 (by decide), tn32 1 (by decide), tnj 1 (by decide), tl32 0 (by decide), tl64 0 (by decide), tl32 1 (by decide), tl64 1 (by decide)] at hc1); (try simp only [lg_cmp_lt, lg_cmp_le, lg_cmp_gt, lg_cmp_ge, lg_cmp_eq] at hk_p); (try simp (disch := omega) only [ta_lt, ta_le, ta_eq, tb_lt, tb_le, tb_eq, tw, tnI, tn32 5 (by decide), tnj 5 (by decide), tn32 1 (by decide), tnj 1 (by decide), tl32 0 (by decide), tl64 0 (by decide), tl32 1 (by decide), tl64 1 (by decide)] at hk_p); (try simp only [lg_cmp_lt, lg_cmp_le, lg_cmp_gt, lg_cmp_ge, lg_cmp_eq] at hc2); (try simp (disch := omega) only [ta_lt, ta_le, ta_eq, tb_lt, tb_le, tb_eq, tw, tnI, tn32 5 (by decide), tnj 5 (by decide), tn32 1 (by decide), tnj 1 (by decide), tl32 0 (by decide), tl64 0 (by decide), tl32 1 (by decide), tl64 1 (by decide)] at hc2); (try simp only [lg_cmp_lt, lg_cmp_le, lg_cmp_gt, lg_cmp_ge, lg_cmp_eq] at hk_o); (try simp (disch := omega) only [ta_lt, ta_le, ta_eq, tb_lt, tb_le, tb_eq, tw, tnI, tn32 5 (by decide), tnj 5 (by decide), tn32 1 (by decide), tnj 1 (by decide), tl32 0 (by decide), tl64 0 (by decide), tl32 1 (by decide), tl64 1 (by decide)] at hk_o); (try simp only [lg_cmp_lt, lg_cmp_le, lg_cmp_gt, lg_cmp_ge, lg_cmp_eq] at c3); (try simp (disch := omega) only [ta_lt, ta_le, ta_eq, tb_lt, tb_le, tb_eq, tw, tnI, tn32 5 (by decide), tnj 5 (by decide), tn32 1 (by decide), tnj 1 (by decide), tl32 0 (by decide), tl64 0 (by decide), tl32 1 (by decide), tl64 1 (by decide)] at c3); (try simp (disch := omega) only [tnI, tn32 5 (by decide), tnj 5 (by decide), tn32 1 (by decide), tnj 1 (by decide), tl32 0 (by decide), tl64 0 (by decide), tl32 1 (by decide), tl64 1 (by decide)]); (repeat' split) <;> first | rfl | omega | (apply Int32.toInt_inj.mp; simp (disch := omega) only [tnI, tn32 5 (by decide), tnj 5 (by decide), tn32 1 (by decide), tnj 1 (by decide), tl32 0 (by decide), tl64 0 (by decide), tl32 1 (by decide), tl64 1 (by decide)]; omega))) (dkP dF_172 DX11_needs (i := 34) rfl rfl)
    · skip
      refine lv_if_ne (tgt := 17) hx hb (dkS dF_154 DX11_needs (i := 5) rfl rfl rfl) (by decide) (fun h => absurd h (by decide)) (fun _ => ?_)
      refine lv_bipush (v := (-2)) hx hb (dks dF_16 DX11_needs (i := 6) rfl rfl rfl) (by decide) ?_
      exact z_iret C0 hr hlk hw (by first | rfl | ((try simp only [lg_cmp_lt, lg_cmp_le, lg_cmp_gt, lg_cmp_ge, lg_cmp_eq] at hc1); (try simp (disch := omega) only [ta_lt, ta_le, ta_eq, tb_lt, tb_le, tb_eq, tw, tnI, tn32 5 (by decide), tnj 5 (by decide), tn32 2 (by decide), tnj 2 (by decide), tn32 1 (by decide), tnj 1 (by decide), tl32 0 (by decide), tl64 0 (by decide), tl32 1 (by decide), tl64 1 (by decide)] at hc1); (try simp only [lg_cmp_lt, lg_cmp_le, lg_cmp_gt, lg_cmp_ge, lg_cmp_eq] at hk_p); (try simp (disch := omega) only [ta_lt, ta_le, ta_eq, tb_lt, tb_le, tb_eq, tw, tnI, tn32 5 (by decide), tnj 5 (by decide), tn32 2 (by decide), tnj 2 (by decide), tn32 1 (by decide), tnj 1 (by decide), tl32 0 (by decide), tl64 0 (by decide), tl32 1 (by decide), tl64 1 (by decide)] at hk_p); (try simp only [lg_cmp_lt, lg_cmp_le, lg_cmp_gt, lg_cmp_ge, lg_cmp_eq] at hc2); (try simp (disch := omega) only [ta_lt, ta_le, ta_eq, tb_lt, tb_le, tb_eq, tw, tnI, tn32 5 (by decide), tnj 5 (by decide), tn32 2 (by decide), tnj 2 (by decide), tn32 1 (by decide), tnj 1 (by decide), tl32 0 (by decide), tl64 0 (by decide), tl32 1 (by decide), tl64 1 (by decide)] at hc2); (try simp (disch := omega) only [tnI, tn32 5 (by decide), tnj 5 (by decide), tn32 2 (by decide), tnj 2 (by decide), tn32 1 (by decide), tnj 1 (by decide), tl32 0 (by decide), tl64 0 (by decide), tl32 1 (by decide), tl64 1 (by decide)]); (repeat' split) <;> first | rfl | omega | (apply Int32.toInt_inj.mp; simp (disch := omega) only [tnI, tn32 5 (by decide), tnj 5 (by decide), tn32 2 (by decide), tnj 2 (by decide), tn32 1 (by decide), tnj 1 (by decide), tl32 0 (by decide), tl64 0 (by decide), tl32 1 (by decide), tl64 1 (by decide)]; omega))) (dkP dF_172 DX11_needs (i := 7) rfl rfl)
  · skip
    refine lv_if_eq (tgt := 14) hx hb (dkS dF_153 DX11_needs (i := 2) rfl rfl rfl) (by decide) (fun _ => ?_) (fun h => absurd h (by decide))
    refine lv_bipush (v := (-2)) hx hb (dks dF_16 DX11_needs (i := 6) rfl rfl rfl) (by decide) ?_
    exact z_iret C0 hr hlk hw (by first | rfl | ((try simp only [lg_cmp_lt, lg_cmp_le, lg_cmp_gt, lg_cmp_ge, lg_cmp_eq] at hc1); (try simp (disch := omega) only [ta_lt, ta_le, ta_eq, tb_lt, tb_le, tb_eq, tw, tnI, tn32 5 (by decide), tnj 5 (by decide), tn32 2 (by decide), tnj 2 (by decide), tn32 1 (by decide), tnj 1 (by decide), tl32 0 (by decide), tl64 0 (by decide), tl32 1 (by decide), tl64 1 (by decide)] at hc1); (try simp (disch := omega) only [tnI, tn32 5 (by decide), tnj 5 (by decide), tn32 2 (by decide), tnj 2 (by decide), tn32 1 (by decide), tnj 1 (by decide), tl32 0 (by decide), tl64 0 (by decide), tl32 1 (by decide), tl64 1 (by decide)]); (repeat' split) <;> first | rfl | omega | (apply Int32.toInt_inj.mp; simp (disch := omega) only [tnI, tn32 5 (by decide), tnj 5 (by decide), tn32 2 (by decide), tnj 2 (by decide), tn32 1 (by decide), tnj 1 (by decide), tl32 0 (by decide), tl64 0 (by decide), tl32 1 (by decide), tl64 1 (by decide)]; omega))) (dkP dF_172 DX11_needs (i := 7) rfl rfl)
set_option maxRecDepth 100000 in
set_option maxHeartbeats 4000000 in
theorem c_X10_bitsOf (l : Launch) (G : va_G) (kc : Nat → ClassId) (ad : Nat → Nat)  (v : Int32) (hv : ¬ v.toInt = 0) : MI l G kc yX10_bitsOf cX10_bitsOf 4 (some .int) 0 0 [.ref (ad 1), .int v] shC ad sC0 (fun r σ1 => r = (0) ∧ σ1 = sC0) := by
  intro sz
  refine z_body (y := yX10_bitsOf) (n := 4) (av := [.ref (ad 1), .int v]) (Qc := fun A => va_Qi (fun r σ1 => r = (0) ∧ σ1 = sC0) (PoC G kc shC ad A) A) (plainFor_of_name (by decide)) (Nat.le_of_ble_eq_true rfl) (fun pr e s m below meth c A C0 hr hlk hnm hw ls hl => ?_) sz
  have hx := C0.1
  have hb := C0.2.1
  have hown := C0.2.2.2.1
  have hts := C0.2.2.2.2.1
  have hl : lv_has ls 4 [(0, .ref (ad 1)), (1, .int v)] := hl
  refine lv_iconst (v := 0) hx hb (dkP dF_3 DX10_bitsOf (i := 0) rfl rfl) (by decide) ?_
  refine lv_istore_n (lv' := [(2, .int 0), (0, .ref (ad 1)), (1, .int v)]) hx hb (dkP dF_61 DX10_bitsOf (i := 1) rfl rfl) rfl hl (by decide) rfl (fun ls hl => ?_)
  refine lv_iconst (v := 0) hx hb (dkP dF_3 DX10_bitsOf (i := 2) rfl rfl) (by decide) ?_
  refine lv_istore_n (lv' := [(3, .int 0), (2, .int 0), (0, .ref (ad 1)), (1, .int v)]) hx hb (dkP dF_62 DX10_bitsOf (i := 3) rfl rfl) rfl hl (by decide) rfl (fun ls hl => ?_)
  have lp1 : ∀ (n : Nat) (i : Nat) (H : Heap) (locs : List Loc) (ls : Array Slot), 8 - i < n → (i ≤ 8) → St G kc A s.heap shC ad sC0 H locs → lv_has ls 4 [(3, .int (nI i)), (2, .int 0), (0, .ref (ad 1)), (1, .int v)] → W pr l e { frames := 0, cells := 0, slots := 0, locals := 0 } s m ([.ref (ad 1), .int v] : List Value).toArray below meth c H locs 0 0 (MQ below (va_Qi (fun r σ1 => r = (0) ∧ σ1 = sC0) (PoC G kc shC ad A) A) ([.ref (ad 1), .int v] : List Value).toArray s 0 0 A) (F0 m 4 ls []) := by
    intro n
    induction n with
    | zero => intro i H locs ls hmu; exact absurd hmu (Nat.not_lt_zero _)
    | succ n ih1 =>
      intro i H locs ls hmu hi hw hl
      refine lv_iload_n hx hb (dkP dF_29 DX10_bitsOf (i := 4) rfl rfl) rfl (lv_at hl 0 rfl) ?_
      refine lv_bipush (v := 8) hx hb (dks dF_16 DX10_bitsOf (i := 5) rfl rfl rfl) (by decide) ?_
      refine lv_icmp_ge (tgt := 35) hx hb (dkS dF_162 DX10_bitsOf (i := 6) rfl rfl rfl) (by decide) (fun c2 => ?_) (fun c2 => ?_)
      · simp (disch := omega) only [ta_lt, ta_le, ta_eq, tnI, tl32 8 (by decide)] at c2
        refine lv_iload_n hx hb (dkP dF_28 DX10_bitsOf (i := 22) rfl rfl) rfl (lv_at hl 1 rfl) ?_
        exact z_iret C0 hr hlk hw (⟨(by first | rfl | ((try simp only [lg_cmp_lt, lg_cmp_le, lg_cmp_gt, lg_cmp_ge, lg_cmp_eq] at c2); (try simp (disch := omega) only [ta_lt, ta_le, ta_eq, tb_lt, tb_le, tb_eq, tw, tnI, tn32 1 (by decide), tnj 1 (by decide), tl32 0 (by decide), tl64 0 (by decide), tl32 8 (by decide), tl64 8 (by decide)] at c2); (try simp (disch := omega) only [tnI, tn32 1 (by decide), tnj 1 (by decide), tl32 0 (by decide), tl64 0 (by decide), tl32 8 (by decide), tl64 8 (by decide)]); (repeat' split) <;> first | rfl | omega | (apply Int32.toInt_inj.mp; simp (disch := omega) only [tnI, tn32 1 (by decide), tnj 1 (by decide), tl32 0 (by decide), tl64 0 (by decide), tl32 8 (by decide), tl64 8 (by decide)]; omega))), rfl⟩) (dkP dF_172 DX10_bitsOf (i := 23) rfl rfl)
      · simp (disch := omega) only [ta_lt, ta_le, ta_eq, tnI, tl32 8 (by decide)] at c2
        refine lv_aload_n hx hb (dkP dF_42 DX10_bitsOf (i := 7) rfl rfl) rfl (lv_at hl 2 rfl) ?_
        refine z_gr C0 hw 1 0 2 (fk_of shc_1 rfl) fl_X10_11 (dk2 dF_180 DX10_bitsOf (i := 8) rfl rfl rfl) ?_
        refine lv_iload_n hx hb (dkP dF_29 DX10_bitsOf (i := 9) rfl rfl) rfl (lv_at hl 0 rfl) ?_
        refine z_aaldN (n := 8) C0 hw 2 i (rks_2 i (by omega)) (by decide) (by omega) (by decide) (dkP dF_50 DX10_bitsOf (i := 10) rfl rfl) ?_
        refine z_gi C0 hw (8 + 22 * i) 0 (fk_of (shp_8 i (by omega)) rfl) fl_X10_64 (dk2 dF_180 DX10_bitsOf (i := 11) rfl rfl rfl) ?_
        refine z_top (y := 0) (s0p_8_0 i (by omega)) ?_
        refine lv_iload_n hx hb (dkP dF_27 DX10_bitsOf (i := 12) rfl rfl) rfl (lv_at hl 3 rfl) ?_
        refine lv_icmp_ne (tgt := 29) hx hb (dkS dF_160 DX10_bitsOf (i := 13) rfl rfl rfl) (by decide) (fun c3 => ?_) (fun c3 => absurd c3 (by simp only [ta_eq, tl32 0 (by decide)]; omega))
        refine lv_iinc (v := nI (i + 1)) (lv' := [(3, .int (nI (i + 1))), (2, .int 0), (0, .ref (ad 1)), (1, .int v)]) hx hb (dkI DX10_bitsOf (i := 20) rfl rfl rfl rfl) hl (k := 0) rfl (nI_1 _) (by decide) rfl (fun ls hl => ?_)
        refine lv_goto (tgt := 4) hx hb (dkS dF_167 DX10_bitsOf (i := 21) rfl rfl rfl) (by decide) ?_
        exact ih1 (i + 1) _ _ _ (by omega) (by omega) hw (lv_sub hl [0, 1, 2, 3] rfl)
  exact lp1 _ 0 _ _ _ (Nat.lt_succ_self _) (by omega) hw (lv_sub hl [0, 1, 2, 3] rfl)
set_option maxRecDepth 100000 in
set_option maxHeartbeats 4000000 in
theorem c_X10_overBits (l : Launch) (G : va_G) (kc : Nat → ClassId) (ad : Nat → Nat)    : MI l G kc yX10_overBits cX10_overBits 1 (some .int) 1 23 [.ref (ad 1)] shC ad sC0 (fun r σ1 => r = (0) ∧ σ1 = sC0) := by
  intro sz
  refine z_body (y := yX10_overBits) (n := 1) (av := [.ref (ad 1)]) (Qc := fun A => va_Qi (fun r σ1 => r = (0) ∧ σ1 = sC0) (PoC G kc shC ad A) A) (plainFor_of_name (by decide)) (Nat.le_of_ble_eq_true rfl) (fun pr e s m below meth c A C0 hr hlk hnm hw ls hl => ?_) sz
  have hx := C0.1
  have hb := C0.2.1
  have hown := C0.2.2.2.1
  have hts := C0.2.2.2.2.1
  have hl : lv_has ls 1 [(0, .ref (ad 1))] := hl
  refine lv_aload_n hx hb (dkP dF_42 DX10_overBits (i := 0) rfl rfl) rfl (lv_at hl 0 rfl) ?_
  refine lv_iconst (v := 2) hx hb (dkP dF_5 DX10_overBits (i := 1) rfl rfl) (by decide) ?_
  refine zk_I hw (zr_V (As := [.int 2]) (rest := []) C0 (c_X10_bitsOf l G kc ad 2 (by first | omega | assumption | decide | rfl) _) cv_X10_bitsOf lk_X10_67 (zp_V C0 hw 1 shc_1 rfl rfl) rfl hl.1 rfl ⟨by decide, by decide⟩ (Nat.le_of_ble_eq_true rfl) (dk2 dF_182 DX10_overBits (i := 2) rfl rfl rfl) ⟨Nat.le_refl _, Nat.le_refl _⟩) (fun r1 s1 H locs hp hw => ?_)
  obtain ⟨rfl, hs1⟩ := hp
  (rw [hs1] at hw; clear hs1)
  refine lv_aload_n hx hb (dkP dF_42 DX10_overBits (i := 3) rfl rfl) rfl (lv_at hl 0 rfl) ?_
  refine lv_iconst (v := 4) hx hb (dkP dF_7 DX10_overBits (i := 4) rfl rfl) (by decide) ?_
  refine zk_I hw (zr_V (As := [.int 4]) (rest := [.int 0]) C0 (c_X10_bitsOf l G kc ad 4 (by first | omega | assumption | decide | rfl) _) cv_X10_bitsOf lk_X10_67 (zp_V C0 hw 1 shc_1 rfl rfl) rfl hl.1 rfl ⟨by decide, by decide⟩ (Nat.le_of_ble_eq_true rfl) (dk2 dF_182 DX10_overBits (i := 5) rfl rfl rfl) ⟨Nat.le_refl _, Nat.le_refl _⟩) (fun r2 s2 H locs hp hw => ?_)
  obtain ⟨rfl, hs2⟩ := hp
  (rw [hs2] at hw; clear hs2)
  refine lv_ior hx hb (dkP dF_128 DX10_overBits (i := 6) rfl rfl) ?_
  refine z_top (y := 0) (by decide) ?_
  exact z_iret C0 hr hlk hw (⟨(by first | rfl | ((try simp (disch := omega) only [tnI, tn32 1 (by decide), tnj 1 (by decide), tl32 0 (by decide), tl64 0 (by decide), tl32 2 (by decide), tl64 2 (by decide), tl32 4 (by decide), tl64 4 (by decide)]); (repeat' split) <;> first | rfl | omega | (apply Int32.toInt_inj.mp; simp (disch := omega) only [tnI, tn32 1 (by decide), tnj 1 (by decide), tl32 0 (by decide), tl64 0 (by decide), tl32 2 (by decide), tl64 2 (by decide), tl32 4 (by decide), tl64 4 (by decide)]; omega))), rfl⟩) (dkP dF_172 DX10_overBits (i := 7) rfl rfl)
set_option maxRecDepth 100000 in
set_option maxHeartbeats 4000000 in
theorem c_X10_neededBy (l : Launch) (G : va_G) (kc : Nat → ClassId) (ad : Nat → Nat)  (v : Int32)  : MI l G kc yX10_neededBy cX10_neededBy 4 (some .int) 0 0 [.ref (ad 1), .int v] shC ad sC0 (fun r σ1 => r = (0) ∧ σ1 = sC0) := by
  intro sz
  refine z_body (y := yX10_neededBy) (n := 4) (av := [.ref (ad 1), .int v]) (Qc := fun A => va_Qi (fun r σ1 => r = (0) ∧ σ1 = sC0) (PoC G kc shC ad A) A) (plainFor_of_name (by decide)) (Nat.le_of_ble_eq_true rfl) (fun pr e s m below meth c A C0 hr hlk hnm hw ls hl => ?_) sz
  have hx := C0.1
  have hb := C0.2.1
  have hown := C0.2.2.2.1
  have hts := C0.2.2.2.2.1
  have hl : lv_has ls 4 [(0, .ref (ad 1)), (1, .int v)] := hl
  refine lv_iconst (v := 0) hx hb (dkP dF_3 DX10_neededBy (i := 0) rfl rfl) (by decide) ?_
  refine lv_istore_n (lv' := [(2, .int 0), (0, .ref (ad 1)), (1, .int v)]) hx hb (dkP dF_61 DX10_neededBy (i := 1) rfl rfl) rfl hl (by decide) rfl (fun ls hl => ?_)
  refine lv_iconst (v := 0) hx hb (dkP dF_3 DX10_neededBy (i := 2) rfl rfl) (by decide) ?_
  refine lv_istore_n (lv' := [(3, .int 0), (2, .int 0), (0, .ref (ad 1)), (1, .int v)]) hx hb (dkP dF_62 DX10_neededBy (i := 3) rfl rfl) rfl hl (by decide) rfl (fun ls hl => ?_)
  have lp1 : ∀ (n : Nat) (i : Nat) (H : Heap) (locs : List Loc) (ls : Array Slot), 8 - i < n → (i ≤ 8) → St G kc A s.heap shC ad sC0 H locs → lv_has ls 4 [(3, .int (nI i)), (2, .int 0), (0, .ref (ad 1)), (1, .int v)] → W pr l e { frames := 0, cells := 0, slots := 0, locals := 0 } s m ([.ref (ad 1), .int v] : List Value).toArray below meth c H locs 0 0 (MQ below (va_Qi (fun r σ1 => r = (0) ∧ σ1 = sC0) (PoC G kc shC ad A) A) ([.ref (ad 1), .int v] : List Value).toArray s 0 0 A) (F0 m 4 ls []) := by
    intro n
    induction n with
    | zero => intro i H locs ls hmu; exact absurd hmu (Nat.not_lt_zero _)
    | succ n ih1 =>
      intro i H locs ls hmu hi hw hl
      refine lv_iload_n hx hb (dkP dF_29 DX10_neededBy (i := 4) rfl rfl) rfl (lv_at hl 0 rfl) ?_
      refine lv_bipush (v := 8) hx hb (dks dF_16 DX10_neededBy (i := 5) rfl rfl rfl) (by decide) ?_
      refine lv_icmp_ge (tgt := 33) hx hb (dkS dF_162 DX10_neededBy (i := 6) rfl rfl rfl) (by decide) (fun c2 => ?_) (fun c2 => ?_)
      · simp (disch := omega) only [ta_lt, ta_le, ta_eq, tnI, tl32 8 (by decide)] at c2
        refine lv_iload_n hx hb (dkP dF_28 DX10_neededBy (i := 22) rfl rfl) rfl (lv_at hl 1 rfl) ?_
        exact z_iret C0 hr hlk hw (⟨(by first | rfl | ((try simp only [lg_cmp_lt, lg_cmp_le, lg_cmp_gt, lg_cmp_ge, lg_cmp_eq] at c2); (try simp (disch := omega) only [ta_lt, ta_le, ta_eq, tb_lt, tb_le, tb_eq, tw, tnI, tn32 1 (by decide), tnj 1 (by decide), tl32 0 (by decide), tl64 0 (by decide), tl32 8 (by decide), tl64 8 (by decide)] at c2); (try simp (disch := omega) only [tnI, tn32 1 (by decide), tnj 1 (by decide), tl32 0 (by decide), tl64 0 (by decide), tl32 8 (by decide), tl64 8 (by decide)]); (repeat' split) <;> first | rfl | omega | (apply Int32.toInt_inj.mp; simp (disch := omega) only [tnI, tn32 1 (by decide), tnj 1 (by decide), tl32 0 (by decide), tl64 0 (by decide), tl32 8 (by decide), tl64 8 (by decide)]; omega))), rfl⟩) (dkP dF_172 DX10_neededBy (i := 23) rfl rfl)
      · simp (disch := omega) only [ta_lt, ta_le, ta_eq, tnI, tl32 8 (by decide)] at c2
        refine lv_iload_n hx hb (dkP dF_27 DX10_neededBy (i := 7) rfl rfl) rfl (lv_at hl 3 rfl) ?_
        refine lv_iload_n hx hb (dkP dF_29 DX10_neededBy (i := 8) rfl rfl) rfl (lv_at hl 0 rfl) ?_
        refine lv_ishr hx hb (dkP dF_122 DX10_neededBy (i := 9) rfl rfl) ?_
        refine lv_iconst (v := 1) hx hb (dkP dF_4 DX10_neededBy (i := 10) rfl rfl) (by decide) ?_
        refine lv_iand hx hb (dkP dF_126 DX10_neededBy (i := 11) rfl rfl) ?_
        refine lv_if_eq (tgt := 27) hx hb (dkS dF_153 DX10_neededBy (i := 12) rfl rfl rfl) (by decide) (fun c3 => ?_) (fun c3 => ?_)
        · skip
          refine lv_iinc (v := nI (i + 1)) (lv' := [(3, .int (nI (i + 1))), (2, .int 0), (0, .ref (ad 1)), (1, .int v)]) hx hb (dkI DX10_neededBy (i := 20) rfl rfl rfl rfl) hl (k := 0) rfl (nI_1 _) (by decide) rfl (fun ls hl => ?_)
          refine lv_goto (tgt := 4) hx hb (dkS dF_167 DX10_neededBy (i := 21) rfl rfl rfl) (by decide) ?_
          exact ih1 (i + 1) _ _ _ (by omega) (by omega) hw (lv_sub hl [0, 1, 2, 3] rfl)
        · skip
          refine lv_iload_n hx hb (dkP dF_28 DX10_neededBy (i := 13) rfl rfl) rfl (lv_at hl 1 rfl) ?_
          refine lv_aload_n hx hb (dkP dF_42 DX10_neededBy (i := 14) rfl rfl) rfl (lv_at hl 2 rfl) ?_
          refine z_gr C0 hw 1 2 4 (fk_of shc_1 rfl) fl_X10_21 (dk2 dF_180 DX10_neededBy (i := 15) rfl rfl rfl) ?_
          refine lv_iload_n hx hb (dkP dF_29 DX10_neededBy (i := 16) rfl rfl) rfl (lv_at hl 0 rfl) ?_
          refine z_ialdN (n := 8) C0 hw 4 i (ak_of shc_4) (by omega) (by decide) (dkP dF_46 DX10_neededBy (i := 17) rfl rfl) ?_
          refine z_top (y := 0) (s0a_4 _) ?_
          refine lv_ior hx hb (dkP dF_128 DX10_neededBy (i := 18) rfl rfl) ?_
          refine z_top (y := 0) (by decide) ?_
          refine lv_istore_n (lv' := [(2, .int 0), (3, .int (nI i)), (0, .ref (ad 1)), (1, .int v)]) hx hb (dkP dF_61 DX10_neededBy (i := 19) rfl rfl) rfl hl (by decide) rfl (fun ls hl => ?_)
          refine lv_iinc (v := nI (i + 1)) (lv' := [(3, .int (nI (i + 1))), (2, .int 0), (0, .ref (ad 1)), (1, .int v)]) hx hb (dkI DX10_neededBy (i := 20) rfl rfl rfl rfl) hl (k := 1) rfl (nI_1 _) (by decide) rfl (fun ls hl => ?_)
          refine lv_goto (tgt := 4) hx hb (dkS dF_167 DX10_neededBy (i := 21) rfl rfl rfl) (by decide) ?_
          exact ih1 (i + 1) _ _ _ (by omega) (by omega) hw (lv_sub hl [0, 1, 2, 3] rfl)
  exact lp1 _ 0 _ _ _ (Nat.lt_succ_self _) (by omega) hw (lv_sub hl [0, 1, 2, 3] rfl)
set_option maxRecDepth 20000 in
theorem s0p_9_1 : ∀ k, k < 8 → sC0.1 (9 + 22 * k) 1 = 0 := by
  intro k hk
  match k, hk with
  | 0, _ => rfl
  | 1, _ => rfl
  | 2, _ => rfl
  | 3, _ => rfl
  | 4, _ => rfl
  | 5, _ => rfl
  | 6, _ => rfl
  | 7, _ => rfl
  | k + 8, hk => exact absurd hk (by omega)
set_option maxRecDepth 100000 in
set_option maxHeartbeats 4000000 in
theorem c_X10_linesOfAll (l : Launch) (G : va_G) (kc : Nat → ClassId) (ad : Nat → Nat)    : MI l G kc yX10_linesOfAll cX10_linesOfAll 3 (some .int) 0 0 [.ref (ad 1)] shC ad sC0 (fun r σ1 => r = (0) ∧ σ1 = sC0) := by
  intro sz
  refine z_body (y := yX10_linesOfAll) (n := 3) (av := [.ref (ad 1)]) (Qc := fun A => va_Qi (fun r σ1 => r = (0) ∧ σ1 = sC0) (PoC G kc shC ad A) A) (plainFor_of_name (by decide)) (Nat.le_of_ble_eq_true rfl) (fun pr e s m below meth c A C0 hr hlk hnm hw ls hl => ?_) sz
  have hx := C0.1
  have hb := C0.2.1
  have hown := C0.2.2.2.1
  have hts := C0.2.2.2.2.1
  have hl : lv_has ls 3 [(0, .ref (ad 1))] := hl
  refine lv_iconst (v := 0) hx hb (dkP dF_3 DX10_linesOfAll (i := 0) rfl rfl) (by decide) ?_
  refine lv_istore_n (lv' := [(1, .int 0), (0, .ref (ad 1))]) hx hb (dkP dF_60 DX10_linesOfAll (i := 1) rfl rfl) rfl hl (by decide) rfl (fun ls hl => ?_)
  refine lv_iconst (v := 0) hx hb (dkP dF_3 DX10_linesOfAll (i := 2) rfl rfl) (by decide) ?_
  refine lv_istore_n (lv' := [(2, .int 0), (1, .int 0), (0, .ref (ad 1))]) hx hb (dkP dF_61 DX10_linesOfAll (i := 3) rfl rfl) rfl hl (by decide) rfl (fun ls hl => ?_)
  have lp1 : ∀ (n : Nat) (i : Nat) (H : Heap) (locs : List Loc) (ls : Array Slot), 8 - i < n → (i ≤ 8) → St G kc A s.heap shC ad sC0 H locs → lv_has ls 3 [(2, .int (nI i)), (1, .int 0), (0, .ref (ad 1))] → W pr l e { frames := 0, cells := 0, slots := 0, locals := 0 } s m ([.ref (ad 1)] : List Value).toArray below meth c H locs 0 0 (MQ below (va_Qi (fun r σ1 => r = (0) ∧ σ1 = sC0) (PoC G kc shC ad A) A) ([.ref (ad 1)] : List Value).toArray s 0 0 A) (F0 m 4 ls []) := by
    intro n
    induction n with
    | zero => intro i H locs ls hmu; exact absurd hmu (Nat.not_lt_zero _)
    | succ n ih1 =>
      intro i H locs ls hmu hi hw hl
      refine lv_iload_n hx hb (dkP dF_28 DX10_linesOfAll (i := 4) rfl rfl) rfl (lv_at hl 0 rfl) ?_
      refine lv_bipush (v := 8) hx hb (dks dF_16 DX10_linesOfAll (i := 5) rfl rfl rfl) (by decide) ?_
      refine lv_icmp_ge (tgt := 31) hx hb (dkS dF_162 DX10_linesOfAll (i := 6) rfl rfl rfl) (by decide) (fun c2 => ?_) (fun c2 => ?_)
      · simp (disch := omega) only [ta_lt, ta_le, ta_eq, tnI, tl32 8 (by decide)] at c2
        refine lv_iload_n hx hb (dkP dF_27 DX10_linesOfAll (i := 18) rfl rfl) rfl (lv_at hl 1 rfl) ?_
        exact z_iret C0 hr hlk hw (⟨(by first | rfl | ((try simp only [lg_cmp_lt, lg_cmp_le, lg_cmp_gt, lg_cmp_ge, lg_cmp_eq] at c2); (try simp (disch := omega) only [ta_lt, ta_le, ta_eq, tb_lt, tb_le, tb_eq, tw, tnI, tn32 1 (by decide), tnj 1 (by decide), tl32 0 (by decide), tl64 0 (by decide), tl32 8 (by decide), tl64 8 (by decide)] at c2); (try simp (disch := omega) only [tnI, tn32 1 (by decide), tnj 1 (by decide), tl32 0 (by decide), tl64 0 (by decide), tl32 8 (by decide), tl64 8 (by decide)]); (repeat' split) <;> first | rfl | omega | (apply Int32.toInt_inj.mp; simp (disch := omega) only [tnI, tn32 1 (by decide), tnj 1 (by decide), tl32 0 (by decide), tl64 0 (by decide), tl32 8 (by decide), tl64 8 (by decide)]; omega))), rfl⟩) (dkP dF_172 DX10_linesOfAll (i := 19) rfl rfl)
      · simp (disch := omega) only [ta_lt, ta_le, ta_eq, tnI, tl32 8 (by decide)] at c2
        refine lv_iload_n hx hb (dkP dF_27 DX10_linesOfAll (i := 7) rfl rfl) rfl (lv_at hl 1 rfl) ?_
        refine lv_aload_n hx hb (dkP dF_42 DX10_linesOfAll (i := 8) rfl rfl) rfl (lv_at hl 2 rfl) ?_
        refine z_gr C0 hw 1 0 2 (fk_of shc_1 rfl) fl_X10_11 (dk2 dF_180 DX10_linesOfAll (i := 9) rfl rfl rfl) ?_
        refine lv_iload_n hx hb (dkP dF_28 DX10_linesOfAll (i := 10) rfl rfl) rfl (lv_at hl 0 rfl) ?_
        refine z_aaldN (n := 8) C0 hw 2 i (rks_2 i (by omega)) (by decide) (by omega) (by decide) (dkP dF_50 DX10_linesOfAll (i := 11) rfl rfl) ?_
        refine z_gms C0 hw (8 + 22 * i) 2 (9 + 22 * i) (s0rp_8_2 i (by omega)) (fk_of (shp_8 i (by omega)) rfl) fl_X10_71 (dk2 dF_180 DX10_linesOfAll (i := 12) rfl rfl rfl) ?_
        refine z_gi C0 hw (9 + 22 * i) 1 (fk_of (shp_9 i (by omega)) rfl) fl_X10_75 (dk2 dF_180 DX10_linesOfAll (i := 13) rfl rfl rfl) ?_
        refine z_top (y := 0) (s0p_9_1 i (by omega)) ?_
        refine lv_iadd hx hb (dkP dF_96 DX10_linesOfAll (i := 14) rfl rfl) ?_
        refine z_top (y := 0) (by decide) ?_
        refine lv_istore_n (lv' := [(1, .int 0), (2, .int (nI i)), (0, .ref (ad 1))]) hx hb (dkP dF_60 DX10_linesOfAll (i := 15) rfl rfl) rfl hl (by decide) rfl (fun ls hl => ?_)
        refine lv_iinc (v := nI (i + 1)) (lv' := [(2, .int (nI (i + 1))), (1, .int 0), (0, .ref (ad 1))]) hx hb (dkI DX10_linesOfAll (i := 16) rfl rfl rfl rfl) hl (k := 1) rfl (nI_1 _) (by decide) rfl (fun ls hl => ?_)
        refine lv_goto (tgt := 4) hx hb (dkS dF_167 DX10_linesOfAll (i := 17) rfl rfl rfl) (by decide) ?_
        exact ih1 (i + 1) _ _ _ (by omega) (by omega) hw (lv_sub hl [0, 1, 2] rfl)
  exact lp1 _ 0 _ _ _ (Nat.lt_succ_self _) (by omega) hw (lv_sub hl [0, 1, 2] rfl)
set_option maxRecDepth 100000 in
set_option maxHeartbeats 4000000 in
theorem c_X10_casesOfAll (l : Launch) (G : va_G) (kc : Nat → ClassId) (ad : Nat → Nat)    : MI l G kc yX10_casesOfAll cX10_casesOfAll 3 (some .int) 0 0 [.ref (ad 1)] shC ad sC0 (fun r σ1 => r = (0) ∧ σ1 = sC0) := by
  intro sz
  refine z_body (y := yX10_casesOfAll) (n := 3) (av := [.ref (ad 1)]) (Qc := fun A => va_Qi (fun r σ1 => r = (0) ∧ σ1 = sC0) (PoC G kc shC ad A) A) (plainFor_of_name (by decide)) (Nat.le_of_ble_eq_true rfl) (fun pr e s m below meth c A C0 hr hlk hnm hw ls hl => ?_) sz
  have hx := C0.1
  have hb := C0.2.1
  have hown := C0.2.2.2.1
  have hts := C0.2.2.2.2.1
  have hl : lv_has ls 3 [(0, .ref (ad 1))] := hl
  refine lv_iconst (v := 0) hx hb (dkP dF_3 DX10_casesOfAll (i := 0) rfl rfl) (by decide) ?_
  refine lv_istore_n (lv' := [(1, .int 0), (0, .ref (ad 1))]) hx hb (dkP dF_60 DX10_casesOfAll (i := 1) rfl rfl) rfl hl (by decide) rfl (fun ls hl => ?_)
  refine lv_iconst (v := 0) hx hb (dkP dF_3 DX10_casesOfAll (i := 2) rfl rfl) (by decide) ?_
  refine lv_istore_n (lv' := [(2, .int 0), (1, .int 0), (0, .ref (ad 1))]) hx hb (dkP dF_61 DX10_casesOfAll (i := 3) rfl rfl) rfl hl (by decide) rfl (fun ls hl => ?_)
  have lp1 : ∀ (n : Nat) (i : Nat) (H : Heap) (locs : List Loc) (ls : Array Slot), 8 - i < n → (i ≤ 8) → St G kc A s.heap shC ad sC0 H locs → lv_has ls 3 [(2, .int (nI i)), (1, .int 0), (0, .ref (ad 1))] → W pr l e { frames := 0, cells := 0, slots := 0, locals := 0 } s m ([.ref (ad 1)] : List Value).toArray below meth c H locs 0 0 (MQ below (va_Qi (fun r σ1 => r = (0) ∧ σ1 = sC0) (PoC G kc shC ad A) A) ([.ref (ad 1)] : List Value).toArray s 0 0 A) (F0 m 4 ls []) := by
    intro n
    induction n with
    | zero => intro i H locs ls hmu; exact absurd hmu (Nat.not_lt_zero _)
    | succ n ih1 =>
      intro i H locs ls hmu hi hw hl
      refine lv_iload_n hx hb (dkP dF_28 DX10_casesOfAll (i := 4) rfl rfl) rfl (lv_at hl 0 rfl) ?_
      refine lv_bipush (v := 8) hx hb (dks dF_16 DX10_casesOfAll (i := 5) rfl rfl rfl) (by decide) ?_
      refine lv_icmp_ge (tgt := 31) hx hb (dkS dF_162 DX10_casesOfAll (i := 6) rfl rfl rfl) (by decide) (fun c2 => ?_) (fun c2 => ?_)
      · simp (disch := omega) only [ta_lt, ta_le, ta_eq, tnI, tl32 8 (by decide)] at c2
        refine lv_iload_n hx hb (dkP dF_27 DX10_casesOfAll (i := 18) rfl rfl) rfl (lv_at hl 1 rfl) ?_
        exact z_iret C0 hr hlk hw (⟨(by first | rfl | ((try simp only [lg_cmp_lt, lg_cmp_le, lg_cmp_gt, lg_cmp_ge, lg_cmp_eq] at c2); (try simp (disch := omega) only [ta_lt, ta_le, ta_eq, tb_lt, tb_le, tb_eq, tw, tnI, tn32 1 (by decide), tnj 1 (by decide), tl32 0 (by decide), tl64 0 (by decide), tl32 8 (by decide), tl64 8 (by decide)] at c2); (try simp (disch := omega) only [tnI, tn32 1 (by decide), tnj 1 (by decide), tl32 0 (by decide), tl64 0 (by decide), tl32 8 (by decide), tl64 8 (by decide)]); (repeat' split) <;> first | rfl | omega | (apply Int32.toInt_inj.mp; simp (disch := omega) only [tnI, tn32 1 (by decide), tnj 1 (by decide), tl32 0 (by decide), tl64 0 (by decide), tl32 8 (by decide), tl64 8 (by decide)]; omega))), rfl⟩) (dkP dF_172 DX10_casesOfAll (i := 19) rfl rfl)
      · simp (disch := omega) only [ta_lt, ta_le, ta_eq, tnI, tl32 8 (by decide)] at c2
        refine lv_iload_n hx hb (dkP dF_27 DX10_casesOfAll (i := 7) rfl rfl) rfl (lv_at hl 1 rfl) ?_
        refine lv_aload_n hx hb (dkP dF_42 DX10_casesOfAll (i := 8) rfl rfl) rfl (lv_at hl 2 rfl) ?_
        refine z_gr C0 hw 1 0 2 (fk_of shc_1 rfl) fl_X10_11 (dk2 dF_180 DX10_casesOfAll (i := 9) rfl rfl rfl) ?_
        refine lv_iload_n hx hb (dkP dF_28 DX10_casesOfAll (i := 10) rfl rfl) rfl (lv_at hl 0 rfl) ?_
        refine z_aaldN (n := 8) C0 hw 2 i (rks_2 i (by omega)) (by decide) (by omega) (by decide) (dkP dF_50 DX10_casesOfAll (i := 11) rfl rfl) ?_
        refine z_gms C0 hw (8 + 22 * i) 3 (19 + 22 * i) (s0rp_8_3 i (by omega)) (fk_of (shp_8 i (by omega)) rfl) fl_X10_80 (dk2 dF_180 DX10_casesOfAll (i := 12) rfl rfl rfl) ?_
        refine z_gi C0 hw (19 + 22 * i) 3 (fk_of (shp_19 i (by omega)) rfl) fl_X10_84 (dk2 dF_180 DX10_casesOfAll (i := 13) rfl rfl rfl) ?_
        refine z_top (y := 0) (s0p_19_3 i (by omega)) ?_
        refine lv_iadd hx hb (dkP dF_96 DX10_casesOfAll (i := 14) rfl rfl) ?_
        refine z_top (y := 0) (by decide) ?_
        refine lv_istore_n (lv' := [(1, .int 0), (2, .int (nI i)), (0, .ref (ad 1))]) hx hb (dkP dF_60 DX10_casesOfAll (i := 15) rfl rfl) rfl hl (by decide) rfl (fun ls hl => ?_)
        refine lv_iinc (v := nI (i + 1)) (lv' := [(2, .int (nI (i + 1))), (1, .int 0), (0, .ref (ad 1))]) hx hb (dkI DX10_casesOfAll (i := 16) rfl rfl rfl rfl) hl (k := 1) rfl (nI_1 _) (by decide) rfl (fun ls hl => ?_)
        refine lv_goto (tgt := 4) hx hb (dkS dF_167 DX10_casesOfAll (i := 17) rfl rfl rfl) (by decide) ?_
        exact ih1 (i + 1) _ _ _ (by omega) (by omega) hw (lv_sub hl [0, 1, 2] rfl)
  exact lp1 _ 0 _ _ _ (Nat.lt_succ_self _) (by omega) hw (lv_sub hl [0, 1, 2] rfl)
set_option maxRecDepth 100000 in
set_option maxHeartbeats 4000000 in
theorem c_X10_heapsNotJudged (l : Launch) (G : va_G) (kc : Nat → ClassId) (ad : Nat → Nat)    : MI l G kc yX10_heapsNotJudged cX10_heapsNotJudged 3 (some .int) 0 0 [.ref (ad 1)] shC ad sC0 (fun r σ1 => r = (0) ∧ σ1 = sC0) := by
  intro sz
  refine z_body (y := yX10_heapsNotJudged) (n := 3) (av := [.ref (ad 1)]) (Qc := fun A => va_Qi (fun r σ1 => r = (0) ∧ σ1 = sC0) (PoC G kc shC ad A) A) (plainFor_of_name (by decide)) (Nat.le_of_ble_eq_true rfl) (fun pr e s m below meth c A C0 hr hlk hnm hw ls hl => ?_) sz
  have hx := C0.1
  have hb := C0.2.1
  have hown := C0.2.2.2.1
  have hts := C0.2.2.2.2.1
  have hl : lv_has ls 3 [(0, .ref (ad 1))] := hl
  refine lv_iconst (v := 0) hx hb (dkP dF_3 DX10_heapsNotJudged (i := 0) rfl rfl) (by decide) ?_
  refine lv_istore_n (lv' := [(1, .int 0), (0, .ref (ad 1))]) hx hb (dkP dF_60 DX10_heapsNotJudged (i := 1) rfl rfl) rfl hl (by decide) rfl (fun ls hl => ?_)
  refine lv_iconst (v := 0) hx hb (dkP dF_3 DX10_heapsNotJudged (i := 2) rfl rfl) (by decide) ?_
  refine lv_istore_n (lv' := [(2, .int 0), (1, .int 0), (0, .ref (ad 1))]) hx hb (dkP dF_61 DX10_heapsNotJudged (i := 3) rfl rfl) rfl hl (by decide) rfl (fun ls hl => ?_)
  refine lv_iload_n hx hb (dkP dF_28 DX10_heapsNotJudged (i := 4) rfl rfl) rfl (lv_at hl 0 rfl) ?_
  refine lv_aload_n hx hb (dkP dF_42 DX10_heapsNotJudged (i := 5) rfl rfl) rfl (lv_at hl 2 rfl) ?_
  refine z_gi C0 hw 1 4 (fk_of shc_1 rfl) fl_X10_51 (dk2 dF_180 DX10_heapsNotJudged (i := 6) rfl rfl rfl) ?_
  refine z_top (y := 0) s0_1_4 ?_
  refine lv_icmp_ge (tgt := 35) hx hb (dkS dF_162 DX10_heapsNotJudged (i := 7) rfl rfl rfl) (by decide) (fun _ => ?_) (fun h => absurd h (by decide))
  refine lv_iload_n hx hb (dkP dF_27 DX10_heapsNotJudged (i := 20) rfl rfl) rfl (lv_at hl 1 rfl) ?_
  exact z_iret C0 hr hlk hw (⟨(by first | rfl | ((try simp (disch := omega) only [tnI, tn32 1 (by decide), tnj 1 (by decide), tl32 0 (by decide), tl64 0 (by decide)]); (repeat' split) <;> first | rfl | omega | (apply Int32.toInt_inj.mp; simp (disch := omega) only [tnI, tn32 1 (by decide), tnj 1 (by decide), tl32 0 (by decide), tl64 0 (by decide)]; omega))), rfl⟩) (dkP dF_172 DX10_heapsNotJudged (i := 21) rfl rfl)
set_option maxRecDepth 100000 in
set_option maxHeartbeats 4000000 in
theorem c_X7_isSlot (l : Launch) (G : va_G) (kc : Nat → ClassId) (ad : Nat → Nat)  (s0 : Int32)  : MI l G kc yX7_isSlot cX7_isSlot 2 (some .boolean) 0 0 [.ref (ad 223), .int s0] shC ad sC0 (fun r σ1 => ((r = 1 ∧ (0 ≤ s0.toInt ∧ s0.toInt ≤ 3)) ∨ (r = 0 ∧ ¬ (0 ≤ s0.toInt ∧ s0.toInt ≤ 3))) ∧ σ1 = sC0) := by
  intro sz
  refine z_body (y := yX7_isSlot) (n := 2) (av := [.ref (ad 223), .int s0]) (Qc := fun A => va_Qi (fun r σ1 => ((r = 1 ∧ (0 ≤ s0.toInt ∧ s0.toInt ≤ 3)) ∨ (r = 0 ∧ ¬ (0 ≤ s0.toInt ∧ s0.toInt ≤ 3))) ∧ σ1 = sC0) (PoC G kc shC ad A) A) (plainFor_of_name (by decide)) (Nat.le_of_ble_eq_true rfl) (fun pr e s m below meth c A C0 hr hlk hnm hw ls hl => ?_) sz
  have hx := C0.1
  have hb := C0.2.1
  have hown := C0.2.2.2.1
  have hts := C0.2.2.2.2.1
  have hl : lv_has ls 2 [(0, .ref (ad 223)), (1, .int s0)] := hl
  refine lv_iload_n hx hb (dkP dF_27 DX7_isSlot (i := 0) rfl rfl) rfl (lv_at hl 1 rfl) ?_
  refine lv_if_lt (tgt := 13) hx hb (dkS dF_155 DX7_isSlot (i := 1) rfl rfl rfl) (by decide) (fun c1 => ?_) (fun c1 => ?_)
  · skip
    refine lv_iconst (v := 0) hx hb (dkP dF_3 DX7_isSlot (i := 7) rfl rfl) (by decide) ?_
    exact z_zret C0 hr hlk (by decide) hw (⟨Or.inr ⟨rfl, (by (try simp only [lg_cmp_lt, lg_cmp_le, lg_cmp_gt, lg_cmp_ge, lg_cmp_eq] at c1); (try simp (disch := omega) only [ta_lt, ta_le, ta_eq, tb_lt, tb_le, tb_eq, tw, tnI, tn32 1 (by decide), tnj 1 (by decide), tl32 0 (by decide), tl64 0 (by decide)] at c1); (try simp (disch := omega) only [ta_lt, ta_le, ta_eq, tb_lt, tb_le, tb_eq, tw, tnI, tn32 1 (by decide), tnj 1 (by decide), tl32 0 (by decide), tl64 0 (by decide)]); omega)⟩, rfl⟩) (dkP dF_172 DX7_isSlot (i := 8) rfl rfl)
  · skip
    refine lv_iload_n hx hb (dkP dF_27 DX7_isSlot (i := 2) rfl rfl) rfl (lv_at hl 1 rfl) ?_
    refine lv_iconst (v := 4) hx hb (dkP dF_7 DX7_isSlot (i := 3) rfl rfl) (by decide) ?_
    refine lv_icmp_ge (tgt := 13) hx hb (dkS dF_162 DX7_isSlot (i := 4) rfl rfl rfl) (by decide) (fun c2 => ?_) (fun c2 => ?_)
    · skip
      refine lv_iconst (v := 0) hx hb (dkP dF_3 DX7_isSlot (i := 7) rfl rfl) (by decide) ?_
      exact z_zret C0 hr hlk (by decide) hw (⟨Or.inr ⟨rfl, (by (try simp only [lg_cmp_lt, lg_cmp_le, lg_cmp_gt, lg_cmp_ge, lg_cmp_eq] at c1); (try simp (disch := omega) only [ta_lt, ta_le, ta_eq, tb_lt, tb_le, tb_eq, tw, tnI, tn32 1 (by decide), tnj 1 (by decide), tl32 0 (by decide), tl64 0 (by decide), tl32 4 (by decide), tl64 4 (by decide)] at c1); (try simp only [lg_cmp_lt, lg_cmp_le, lg_cmp_gt, lg_cmp_ge, lg_cmp_eq] at c2); (try simp (disch := omega) only [ta_lt, ta_le, ta_eq, tb_lt, tb_le, tb_eq, tw, tnI, tn32 1 (by decide), tnj 1 (by decide), tl32 0 (by decide), tl64 0 (by decide), tl32 4 (by decide), tl64 4 (by decide)] at c2); (try simp (disch := omega) only [ta_lt, ta_le, ta_eq, tb_lt, tb_le, tb_eq, tw, tnI, tn32 1 (by decide), tnj 1 (by decide), tl32 0 (by decide), tl64 0 (by decide), tl32 4 (by decide), tl64 4 (by decide)]); omega)⟩, rfl⟩) (dkP dF_172 DX7_isSlot (i := 8) rfl rfl)
    · skip
      refine lv_iconst (v := 1) hx hb (dkP dF_4 DX7_isSlot (i := 5) rfl rfl) (by decide) ?_
      refine lv_goto (tgt := 14) hx hb (dkS dF_167 DX7_isSlot (i := 6) rfl rfl rfl) (by decide) ?_
      exact z_zret C0 hr hlk (by decide) hw (⟨Or.inl ⟨rfl, (by (try simp only [lg_cmp_lt, lg_cmp_le, lg_cmp_gt, lg_cmp_ge, lg_cmp_eq] at c1); (try simp (disch := omega) only [ta_lt, ta_le, ta_eq, tb_lt, tb_le, tb_eq, tw, tnI, tn32 1 (by decide), tnj 1 (by decide), tl32 0 (by decide), tl64 0 (by decide), tl32 1 (by decide), tl64 1 (by decide), tl32 4 (by decide), tl64 4 (by decide)] at c1); (try simp only [lg_cmp_lt, lg_cmp_le, lg_cmp_gt, lg_cmp_ge, lg_cmp_eq] at c2); (try simp (disch := omega) only [ta_lt, ta_le, ta_eq, tb_lt, tb_le, tb_eq, tw, tnI, tn32 1 (by decide), tnj 1 (by decide), tl32 0 (by decide), tl64 0 (by decide), tl32 1 (by decide), tl64 1 (by decide), tl32 4 (by decide), tl64 4 (by decide)] at c2); (try simp (disch := omega) only [ta_lt, ta_le, ta_eq, tb_lt, tb_le, tb_eq, tw, tnI, tn32 1 (by decide), tnj 1 (by decide), tl32 0 (by decide), tl64 0 (by decide), tl32 1 (by decide), tl64 1 (by decide), tl32 4 (by decide), tl64 4 (by decide)]); omega)⟩, rfl⟩) (dkP dF_172 DX7_isSlot (i := 8) rfl rfl)
set_option maxRecDepth 20000 in
theorem shc_223 : shC[223]? = some (0, 7, [(1, 224), (1, 225), (1, 226)]) := by rfl
set_option maxRecDepth 20000 in
theorem shc_225 : shC[225]? = some (1, 4, []) := by rfl
set_option maxRecDepth 20000 in
theorem s0a_225 : ∀ j, sC0.1 225 j = (-1) := fun _ => rfl
set_option maxRecDepth 100000 in
set_option maxHeartbeats 4000000 in
theorem c_X7_hasNumbers (l : Launch) (G : va_G) (kc : Nat → ClassId) (ad : Nat → Nat)  (s0 : Nat) (hs : s0 < 4) : MI l G kc yX7_hasNumbers cX7_hasNumbers 2 (some .boolean) 0 0 [.ref (ad 223), .int (nI s0)] shC ad sC0 (fun r σ1 => ((r = 1 ∧ (False)) ∨ (r = 0 ∧ ¬ (False))) ∧ σ1 = sC0) := by
  intro sz
  refine z_body (y := yX7_hasNumbers) (n := 2) (av := [.ref (ad 223), .int (nI s0)]) (Qc := fun A => va_Qi (fun r σ1 => ((r = 1 ∧ (False)) ∨ (r = 0 ∧ ¬ (False))) ∧ σ1 = sC0) (PoC G kc shC ad A) A) (plainFor_of_name (by decide)) (Nat.le_of_ble_eq_true rfl) (fun pr e s m below meth c A C0 hr hlk hnm hw ls hl => ?_) sz
  have hx := C0.1
  have hb := C0.2.1
  have hown := C0.2.2.2.1
  have hts := C0.2.2.2.2.1
  have hl : lv_has ls 2 [(0, .ref (ad 223)), (1, .int (nI s0))] := hl
  refine lv_aload_n hx hb (dkP dF_42 DX7_hasNumbers (i := 0) rfl rfl) rfl (lv_at hl 0 rfl) ?_
  refine z_gr C0 hw 223 1 225 (fk_of shc_223 rfl) fl_X7_15 (dk2 dF_180 DX7_hasNumbers (i := 1) rfl rfl rfl) ?_
  refine lv_iload_n hx hb (dkP dF_27 DX7_hasNumbers (i := 2) rfl rfl) rfl (lv_at hl 1 rfl) ?_
  refine z_ialdN (n := 4) C0 hw 225 s0 (ak_of shc_225) (by omega) (by decide) (dkP dF_46 DX7_hasNumbers (i := 3) rfl rfl) ?_
  refine z_top (y := (-1)) (s0a_225 _) ?_
  refine lv_iconst (v := (-1)) hx hb (dkP dF_2 DX7_hasNumbers (i := 4) rfl rfl) (by decide) ?_
  refine lv_icmp_eq (tgt := 14) hx hb (dkS dF_159 DX7_hasNumbers (i := 5) rfl rfl rfl) (by decide) (fun _ => ?_) (fun h => absurd h (by decide))
  refine lv_iconst (v := 0) hx hb (dkP dF_3 DX7_hasNumbers (i := 8) rfl rfl) (by decide) ?_
  exact z_zret C0 hr hlk (by decide) hw (⟨Or.inr ⟨rfl, fun z => z⟩, rfl⟩) (dkP dF_172 DX7_hasNumbers (i := 9) rfl rfl)
set_option maxRecDepth 100000 in
set_option maxHeartbeats 4000000 in
theorem c_X7_filled (l : Launch) (G : va_G) (kc : Nat → ClassId) (ad : Nat → Nat)    : MI l G kc yX7_filled cX7_filled 3 (some .int) 1 21 [.ref (ad 223)] shC ad sC0 (fun r σ1 => r = (0) ∧ σ1 = sC0) := by
  intro sz
  refine z_body (y := yX7_filled) (n := 3) (av := [.ref (ad 223)]) (Qc := fun A => va_Qi (fun r σ1 => r = (0) ∧ σ1 = sC0) (PoC G kc shC ad A) A) (plainFor_of_name (by decide)) (Nat.le_of_ble_eq_true rfl) (fun pr e s m below meth c A C0 hr hlk hnm hw ls hl => ?_) sz
  have hx := C0.1
  have hb := C0.2.1
  have hown := C0.2.2.2.1
  have hts := C0.2.2.2.2.1
  have hl : lv_has ls 3 [(0, .ref (ad 223))] := hl
  refine lv_iconst (v := 0) hx hb (dkP dF_3 DX7_filled (i := 0) rfl rfl) (by decide) ?_
  refine lv_istore_n (lv' := [(1, .int 0), (0, .ref (ad 223))]) hx hb (dkP dF_60 DX7_filled (i := 1) rfl rfl) rfl hl (by decide) rfl (fun ls hl => ?_)
  refine lv_iconst (v := 0) hx hb (dkP dF_3 DX7_filled (i := 2) rfl rfl) (by decide) ?_
  refine lv_istore_n (lv' := [(2, .int 0), (1, .int 0), (0, .ref (ad 223))]) hx hb (dkP dF_61 DX7_filled (i := 3) rfl rfl) rfl hl (by decide) rfl (fun ls hl => ?_)
  refine lv_iload_n hx hb (dkP dF_28 DX7_filled (i := 4) rfl rfl) rfl (lv_at hl 0 rfl) ?_
  refine lv_iconst (v := 4) hx hb (dkP dF_7 DX7_filled (i := 5) rfl rfl) (by decide) ?_
  refine lv_icmp_ge (tgt := 26) hx hb (dkS dF_162 DX7_filled (i := 6) rfl rfl rfl) (by decide) (fun h => absurd h (by decide)) (fun _ => ?_)
  refine lv_aload_n hx hb (dkP dF_42 DX7_filled (i := 7) rfl rfl) rfl (lv_at hl 2 rfl) ?_
  refine lv_iload_n hx hb (dkP dF_28 DX7_filled (i := 8) rfl rfl) rfl (lv_at hl 0 rfl) ?_
  refine zk_I hw (zr_V (As := [.int 0]) (rest := []) C0 (c_X7_hasNumbers l G kc ad 0 (by first | omega | assumption | decide | rfl) _) cv_X7_hasNumbers lk_X7_28 (zp_V C0 hw 223 shc_223 rfl rfl) rfl hl.1 rfl ⟨by decide, by decide⟩ (Nat.le_of_ble_eq_true rfl) (dk2 dF_182 DX7_filled (i := 9) rfl rfl rfl) ⟨Nat.le_refl _, Nat.le_refl _⟩) (fun r1 s1 H locs hp hw => ?_)
  obtain ⟨hq1, hs1⟩ := hp
  (rw [hs1] at hw; clear hs1)
  rcases hq1 with ⟨rfl, hc1⟩ | ⟨rfl, hc1⟩
  · exact False.elim hc1
  · skip
    refine lv_if_eq (tgt := 20) hx hb (dkS dF_153 DX7_filled (i := 10) rfl rfl rfl) (by decide) (fun _ => ?_) (fun h => absurd h (by decide))
    refine lv_iinc (v := 1) (lv' := [(2, .int 1), (1, .int 0), (0, .ref (ad 223))]) hx hb (dkI DX7_filled (i := 12) rfl rfl rfl rfl) hl (k := 0) rfl (by decide) (by decide) rfl (fun ls hl => ?_)
    refine lv_goto (tgt := 4) hx hb (dkS dF_167 DX7_filled (i := 13) rfl rfl rfl) (by decide) ?_
    refine lv_iload_n hx hb (dkP dF_28 DX7_filled (i := 4) rfl rfl) rfl (lv_at hl 0 rfl) ?_
    refine lv_iconst (v := 4) hx hb (dkP dF_7 DX7_filled (i := 5) rfl rfl) (by decide) ?_
    refine lv_icmp_ge (tgt := 26) hx hb (dkS dF_162 DX7_filled (i := 6) rfl rfl rfl) (by decide) (fun h => absurd h (by decide)) (fun _ => ?_)
    refine lv_aload_n hx hb (dkP dF_42 DX7_filled (i := 7) rfl rfl) rfl (lv_at hl 2 rfl) ?_
    refine lv_iload_n hx hb (dkP dF_28 DX7_filled (i := 8) rfl rfl) rfl (lv_at hl 0 rfl) ?_
    refine zk_I hw (zr_V (As := [.int 1]) (rest := []) C0 (c_X7_hasNumbers l G kc ad 1 (by first | omega | assumption | decide | rfl) _) cv_X7_hasNumbers lk_X7_28 (zp_V C0 hw 223 shc_223 rfl rfl) rfl hl.1 rfl ⟨by decide, by decide⟩ (Nat.le_of_ble_eq_true rfl) (dk2 dF_182 DX7_filled (i := 9) rfl rfl rfl) ⟨Nat.le_refl _, Nat.le_refl _⟩) (fun r2 s2 H locs hp hw => ?_)
    obtain ⟨hq2, hs2⟩ := hp
    (rw [hs2] at hw; clear hs2)
    rcases hq2 with ⟨rfl, hc2⟩ | ⟨rfl, hc2⟩
    · exact False.elim hc2
    · skip
      refine lv_if_eq (tgt := 20) hx hb (dkS dF_153 DX7_filled (i := 10) rfl rfl rfl) (by decide) (fun _ => ?_) (fun h => absurd h (by decide))
      refine lv_iinc (v := 2) (lv' := [(2, .int 2), (1, .int 0), (0, .ref (ad 223))]) hx hb (dkI DX7_filled (i := 12) rfl rfl rfl rfl) hl (k := 0) rfl (by decide) (by decide) rfl (fun ls hl => ?_)
      refine lv_goto (tgt := 4) hx hb (dkS dF_167 DX7_filled (i := 13) rfl rfl rfl) (by decide) ?_
      refine lv_iload_n hx hb (dkP dF_28 DX7_filled (i := 4) rfl rfl) rfl (lv_at hl 0 rfl) ?_
      refine lv_iconst (v := 4) hx hb (dkP dF_7 DX7_filled (i := 5) rfl rfl) (by decide) ?_
      refine lv_icmp_ge (tgt := 26) hx hb (dkS dF_162 DX7_filled (i := 6) rfl rfl rfl) (by decide) (fun h => absurd h (by decide)) (fun _ => ?_)
      refine lv_aload_n hx hb (dkP dF_42 DX7_filled (i := 7) rfl rfl) rfl (lv_at hl 2 rfl) ?_
      refine lv_iload_n hx hb (dkP dF_28 DX7_filled (i := 8) rfl rfl) rfl (lv_at hl 0 rfl) ?_
      refine zk_I hw (zr_V (As := [.int 2]) (rest := []) C0 (c_X7_hasNumbers l G kc ad 2 (by first | omega | assumption | decide | rfl) _) cv_X7_hasNumbers lk_X7_28 (zp_V C0 hw 223 shc_223 rfl rfl) rfl hl.1 rfl ⟨by decide, by decide⟩ (Nat.le_of_ble_eq_true rfl) (dk2 dF_182 DX7_filled (i := 9) rfl rfl rfl) ⟨Nat.le_refl _, Nat.le_refl _⟩) (fun r3 s3 H locs hp hw => ?_)
      obtain ⟨hq3, hs3⟩ := hp
      (rw [hs3] at hw; clear hs3)
      rcases hq3 with ⟨rfl, hc3⟩ | ⟨rfl, hc3⟩
      · exact False.elim hc3
      · skip
        refine lv_if_eq (tgt := 20) hx hb (dkS dF_153 DX7_filled (i := 10) rfl rfl rfl) (by decide) (fun _ => ?_) (fun h => absurd h (by decide))
        refine lv_iinc (v := 3) (lv' := [(2, .int 3), (1, .int 0), (0, .ref (ad 223))]) hx hb (dkI DX7_filled (i := 12) rfl rfl rfl rfl) hl (k := 0) rfl (by decide) (by decide) rfl (fun ls hl => ?_)
        refine lv_goto (tgt := 4) hx hb (dkS dF_167 DX7_filled (i := 13) rfl rfl rfl) (by decide) ?_
        refine lv_iload_n hx hb (dkP dF_28 DX7_filled (i := 4) rfl rfl) rfl (lv_at hl 0 rfl) ?_
        refine lv_iconst (v := 4) hx hb (dkP dF_7 DX7_filled (i := 5) rfl rfl) (by decide) ?_
        refine lv_icmp_ge (tgt := 26) hx hb (dkS dF_162 DX7_filled (i := 6) rfl rfl rfl) (by decide) (fun h => absurd h (by decide)) (fun _ => ?_)
        refine lv_aload_n hx hb (dkP dF_42 DX7_filled (i := 7) rfl rfl) rfl (lv_at hl 2 rfl) ?_
        refine lv_iload_n hx hb (dkP dF_28 DX7_filled (i := 8) rfl rfl) rfl (lv_at hl 0 rfl) ?_
        refine zk_I hw (zr_V (As := [.int 3]) (rest := []) C0 (c_X7_hasNumbers l G kc ad 3 (by first | omega | assumption | decide | rfl) _) cv_X7_hasNumbers lk_X7_28 (zp_V C0 hw 223 shc_223 rfl rfl) rfl hl.1 rfl ⟨by decide, by decide⟩ (Nat.le_of_ble_eq_true rfl) (dk2 dF_182 DX7_filled (i := 9) rfl rfl rfl) ⟨Nat.le_refl _, Nat.le_refl _⟩) (fun r4 s4 H locs hp hw => ?_)
        obtain ⟨hq4, hs4⟩ := hp
        (rw [hs4] at hw; clear hs4)
        rcases hq4 with ⟨rfl, hc4⟩ | ⟨rfl, hc4⟩
        · exact False.elim hc4
        · skip
          refine lv_if_eq (tgt := 20) hx hb (dkS dF_153 DX7_filled (i := 10) rfl rfl rfl) (by decide) (fun _ => ?_) (fun h => absurd h (by decide))
          refine lv_iinc (v := 4) (lv' := [(2, .int 4), (1, .int 0), (0, .ref (ad 223))]) hx hb (dkI DX7_filled (i := 12) rfl rfl rfl rfl) hl (k := 0) rfl (by decide) (by decide) rfl (fun ls hl => ?_)
          refine lv_goto (tgt := 4) hx hb (dkS dF_167 DX7_filled (i := 13) rfl rfl rfl) (by decide) ?_
          refine lv_iload_n hx hb (dkP dF_28 DX7_filled (i := 4) rfl rfl) rfl (lv_at hl 0 rfl) ?_
          refine lv_iconst (v := 4) hx hb (dkP dF_7 DX7_filled (i := 5) rfl rfl) (by decide) ?_
          refine lv_icmp_ge (tgt := 26) hx hb (dkS dF_162 DX7_filled (i := 6) rfl rfl rfl) (by decide) (fun _ => ?_) (fun h => absurd h (by decide))
          refine lv_iload_n hx hb (dkP dF_27 DX7_filled (i := 14) rfl rfl) rfl (lv_at hl 1 rfl) ?_
          exact z_iret C0 hr hlk hw (⟨(by first | rfl | ((try simp only [lg_cmp_lt, lg_cmp_le, lg_cmp_gt, lg_cmp_ge, lg_cmp_eq] at hc1); (try simp (disch := omega) only [ta_lt, ta_le, ta_eq, tb_lt, tb_le, tb_eq, tw, tnI, tn32 1 (by decide), tnj 1 (by decide), tl32 0 (by decide), tl64 0 (by decide), tl32 4 (by decide), tl64 4 (by decide)] at hc1); (try simp only [lg_cmp_lt, lg_cmp_le, lg_cmp_gt, lg_cmp_ge, lg_cmp_eq] at hc2); (try simp (disch := omega) only [ta_lt, ta_le, ta_eq, tb_lt, tb_le, tb_eq, tw, tnI, tn32 1 (by decide), tnj 1 (by decide), tl32 0 (by decide), tl64 0 (by decide), tl32 4 (by decide), tl64 4 (by decide)] at hc2); (try simp only [lg_cmp_lt, lg_cmp_le, lg_cmp_gt, lg_cmp_ge, lg_cmp_eq] at hc3); (try simp (disch := omega) only [ta_lt, ta_le, ta_eq, tb_lt, tb_le, tb_eq, tw, tnI, tn32 1 (by decide), tnj 1 (by decide), tl32 0 (by decide), tl64 0 (by decide), tl32 4 (by decide), tl64 4 (by decide)] at hc3); (try simp only [lg_cmp_lt, lg_cmp_le, lg_cmp_gt, lg_cmp_ge, lg_cmp_eq] at hc4); (try simp (disch := omega) only [ta_lt, ta_le, ta_eq, tb_lt, tb_le, tb_eq, tw, tnI, tn32 1 (by decide), tnj 1 (by decide), tl32 0 (by decide), tl64 0 (by decide), tl32 4 (by decide), tl64 4 (by decide)] at hc4); (try simp (disch := omega) only [tnI, tn32 1 (by decide), tnj 1 (by decide), tl32 0 (by decide), tl64 0 (by decide), tl32 4 (by decide), tl64 4 (by decide)]); (repeat' split) <;> first | rfl | omega | (apply Int32.toInt_inj.mp; simp (disch := omega) only [tnI, tn32 1 (by decide), tnj 1 (by decide), tl32 0 (by decide), tl64 0 (by decide), tl32 4 (by decide), tl64 4 (by decide)]; omega))), rfl⟩) (dkP dF_172 DX7_filled (i := 15) rfl rfl)
set_option maxRecDepth 100000 in
set_option maxHeartbeats 4000000 in
theorem c_J6_bitCount_0f7a4 (l : Launch) (G : va_G) (kc : Nat → ClassId)  (x : Int32)  : MI l G kc yJ6_bitCount_0f7a4 cJ6_bitCount_0f7a4 1 (some .int) 0 0 [.int x] [] a00 s00 (fun r _ => r = bct x) := by
  intro sz
  refine z_body (y := yJ6_bitCount_0f7a4) (n := 1) (av := [.int x]) (Qc := fun A => va_Qi (fun r _ => r = bct x) (PoC G kc [] a00 A) A) (by decide +kernel) (Nat.le_of_ble_eq_true rfl) (fun pr e s m below meth c A C0 hr hlk hnm hw ls hl => ?_) sz
  have hx := C0.1
  have hb := C0.2.1
  have hown := C0.2.2.2.1
  have hts := C0.2.2.2.2.1
  have hl : lv_has ls 1 [(0, .int x)] := hl
  refine lv_iload_n hx hb (dkP dF_26 DJ6_bitCount_0f7a4 (i := 0) rfl rfl) rfl (lv_at hl 0 rfl) ?_
  refine lv_iload_n hx hb (dkP dF_26 DJ6_bitCount_0f7a4 (i := 1) rfl rfl) rfl (lv_at hl 0 rfl) ?_
  refine lv_iconst (v := 1) hx hb (dkP dF_4 DJ6_bitCount_0f7a4 (i := 2) rfl rfl) (by decide) ?_
  refine lv_iushr hx hb (dkP dF_124 DJ6_bitCount_0f7a4 (i := 3) rfl rfl) rfl ?_
  refine lv_ldcw hx hb hown (hts _ kn_J6_265) (dk2 dF_19 DJ6_bitCount_0f7a4 (i := 4) rfl rfl rfl) ?_
  refine lv_iand hx hb (dkP dF_126 DJ6_bitCount_0f7a4 (i := 5) rfl rfl) ?_
  refine lv_isub hx hb (dkP dF_100 DJ6_bitCount_0f7a4 (i := 6) rfl rfl) ?_
  refine lv_istore_n (lv' := [(0, .int (x - (((x.toUInt32 >>> ((1 : Int32).toUInt32 &&& Int32.toUInt32 31)).toInt32) &&& 1431655765)))]) hx hb (dkP dF_59 DJ6_bitCount_0f7a4 (i := 7) rfl rfl) rfl hl (by decide) rfl (fun ls hl => ?_)
  refine lv_iload_n hx hb (dkP dF_26 DJ6_bitCount_0f7a4 (i := 8) rfl rfl) rfl (lv_at hl 0 rfl) ?_
  refine lv_ldcw hx hb hown (hts _ kn_J6_266) (dk2 dF_19 DJ6_bitCount_0f7a4 (i := 9) rfl rfl rfl) ?_
  refine lv_iand hx hb (dkP dF_126 DJ6_bitCount_0f7a4 (i := 10) rfl rfl) ?_
  refine lv_iload_n hx hb (dkP dF_26 DJ6_bitCount_0f7a4 (i := 11) rfl rfl) rfl (lv_at hl 0 rfl) ?_
  refine lv_iconst (v := 2) hx hb (dkP dF_5 DJ6_bitCount_0f7a4 (i := 12) rfl rfl) (by decide) ?_
  refine lv_iushr hx hb (dkP dF_124 DJ6_bitCount_0f7a4 (i := 13) rfl rfl) rfl ?_
  refine lv_ldcw hx hb hown (hts _ kn_J6_266) (dk2 dF_19 DJ6_bitCount_0f7a4 (i := 14) rfl rfl rfl) ?_
  refine lv_iand hx hb (dkP dF_126 DJ6_bitCount_0f7a4 (i := 15) rfl rfl) ?_
  refine lv_iadd hx hb (dkP dF_96 DJ6_bitCount_0f7a4 (i := 16) rfl rfl) ?_
  refine lv_istore_n (lv' := [(0, .int (((x - (((x.toUInt32 >>> ((1 : Int32).toUInt32 &&& Int32.toUInt32 31)).toInt32) &&& 1431655765)) &&& 858993459) + ((((x - (((x.toUInt32 >>> ((1 : Int32).toUInt32 &&& Int32.toUInt32 31)).toInt32) &&& 1431655765)).toUInt32 >>> ((2 : Int32).toUInt32 &&& Int32.toUInt32 31)).toInt32) &&& 858993459)))]) hx hb (dkP dF_59 DJ6_bitCount_0f7a4 (i := 17) rfl rfl) rfl hl (by decide) rfl (fun ls hl => ?_)
  refine lv_iload_n hx hb (dkP dF_26 DJ6_bitCount_0f7a4 (i := 18) rfl rfl) rfl (lv_at hl 0 rfl) ?_
  refine lv_iload_n hx hb (dkP dF_26 DJ6_bitCount_0f7a4 (i := 19) rfl rfl) rfl (lv_at hl 0 rfl) ?_
  refine lv_iconst (v := 4) hx hb (dkP dF_7 DJ6_bitCount_0f7a4 (i := 20) rfl rfl) (by decide) ?_
  refine lv_iushr hx hb (dkP dF_124 DJ6_bitCount_0f7a4 (i := 21) rfl rfl) rfl ?_
  refine lv_iadd hx hb (dkP dF_96 DJ6_bitCount_0f7a4 (i := 22) rfl rfl) ?_
  refine lv_ldcw hx hb hown (hts _ kn_J6_267) (dk2 dF_19 DJ6_bitCount_0f7a4 (i := 23) rfl rfl rfl) ?_
  refine lv_iand hx hb (dkP dF_126 DJ6_bitCount_0f7a4 (i := 24) rfl rfl) ?_
  refine lv_istore_n (lv' := [(0, .int (((((x - (((x.toUInt32 >>> ((1 : Int32).toUInt32 &&& Int32.toUInt32 31)).toInt32) &&& 1431655765)) &&& 858993459) + ((((x - (((x.toUInt32 >>> ((1 : Int32).toUInt32 &&& Int32.toUInt32 31)).toInt32) &&& 1431655765)).toUInt32 >>> ((2 : Int32).toUInt32 &&& Int32.toUInt32 31)).toInt32) &&& 858993459)) + (((((x - (((x.toUInt32 >>> ((1 : Int32).toUInt32 &&& Int32.toUInt32 31)).toInt32) &&& 1431655765)) &&& 858993459) + ((((x - (((x.toUInt32 >>> ((1 : Int32).toUInt32 &&& Int32.toUInt32 31)).toInt32) &&& 1431655765)).toUInt32 >>> ((2 : Int32).toUInt32 &&& Int32.toUInt32 31)).toInt32) &&& 858993459)).toUInt32 >>> ((4 : Int32).toUInt32 &&& Int32.toUInt32 31)).toInt32)) &&& 252645135))]) hx hb (dkP dF_59 DJ6_bitCount_0f7a4 (i := 25) rfl rfl) rfl hl (by decide) rfl (fun ls hl => ?_)
  refine lv_iload_n hx hb (dkP dF_26 DJ6_bitCount_0f7a4 (i := 26) rfl rfl) rfl (lv_at hl 0 rfl) ?_
  refine lv_iload_n hx hb (dkP dF_26 DJ6_bitCount_0f7a4 (i := 27) rfl rfl) rfl (lv_at hl 0 rfl) ?_
  refine lv_bipush (v := 8) hx hb (dks dF_16 DJ6_bitCount_0f7a4 (i := 28) rfl rfl rfl) (by decide) ?_
  refine lv_iushr hx hb (dkP dF_124 DJ6_bitCount_0f7a4 (i := 29) rfl rfl) rfl ?_
  refine lv_iadd hx hb (dkP dF_96 DJ6_bitCount_0f7a4 (i := 30) rfl rfl) ?_
  refine lv_istore_n (lv' := [(0, .int ((((((x - (((x.toUInt32 >>> ((1 : Int32).toUInt32 &&& Int32.toUInt32 31)).toInt32) &&& 1431655765)) &&& 858993459) + ((((x - (((x.toUInt32 >>> ((1 : Int32).toUInt32 &&& Int32.toUInt32 31)).toInt32) &&& 1431655765)).toUInt32 >>> ((2 : Int32).toUInt32 &&& Int32.toUInt32 31)).toInt32) &&& 858993459)) + (((((x - (((x.toUInt32 >>> ((1 : Int32).toUInt32 &&& Int32.toUInt32 31)).toInt32) &&& 1431655765)) &&& 858993459) + ((((x - (((x.toUInt32 >>> ((1 : Int32).toUInt32 &&& Int32.toUInt32 31)).toInt32) &&& 1431655765)).toUInt32 >>> ((2 : Int32).toUInt32 &&& Int32.toUInt32 31)).toInt32) &&& 858993459)).toUInt32 >>> ((4 : Int32).toUInt32 &&& Int32.toUInt32 31)).toInt32)) &&& 252645135) + (((((((x - (((x.toUInt32 >>> ((1 : Int32).toUInt32 &&& Int32.toUInt32 31)).toInt32) &&& 1431655765)) &&& 858993459) + ((((x - (((x.toUInt32 >>> ((1 : Int32).toUInt32 &&& Int32.toUInt32 31)).toInt32) &&& 1431655765)).toUInt32 >>> ((2 : Int32).toUInt32 &&& Int32.toUInt32 31)).toInt32) &&& 858993459)) + (((((x - (((x.toUInt32 >>> ((1 : Int32).toUInt32 &&& Int32.toUInt32 31)).toInt32) &&& 1431655765)) &&& 858993459) + ((((x - (((x.toUInt32 >>> ((1 : Int32).toUInt32 &&& Int32.toUInt32 31)).toInt32) &&& 1431655765)).toUInt32 >>> ((2 : Int32).toUInt32 &&& Int32.toUInt32 31)).toInt32) &&& 858993459)).toUInt32 >>> ((4 : Int32).toUInt32 &&& Int32.toUInt32 31)).toInt32)) &&& 252645135).toUInt32 >>> ((8 : Int32).toUInt32 &&& Int32.toUInt32 31)).toInt32)))]) hx hb (dkP dF_59 DJ6_bitCount_0f7a4 (i := 31) rfl rfl) rfl hl (by decide) rfl (fun ls hl => ?_)
  refine lv_iload_n hx hb (dkP dF_26 DJ6_bitCount_0f7a4 (i := 32) rfl rfl) rfl (lv_at hl 0 rfl) ?_
  refine lv_iload_n hx hb (dkP dF_26 DJ6_bitCount_0f7a4 (i := 33) rfl rfl) rfl (lv_at hl 0 rfl) ?_
  refine lv_bipush (v := 16) hx hb (dks dF_16 DJ6_bitCount_0f7a4 (i := 34) rfl rfl rfl) (by decide) ?_
  refine lv_iushr hx hb (dkP dF_124 DJ6_bitCount_0f7a4 (i := 35) rfl rfl) rfl ?_
  refine lv_iadd hx hb (dkP dF_96 DJ6_bitCount_0f7a4 (i := 36) rfl rfl) ?_
  refine lv_istore_n (lv' := [(0, .int (((((((x - (((x.toUInt32 >>> ((1 : Int32).toUInt32 &&& Int32.toUInt32 31)).toInt32) &&& 1431655765)) &&& 858993459) + ((((x - (((x.toUInt32 >>> ((1 : Int32).toUInt32 &&& Int32.toUInt32 31)).toInt32) &&& 1431655765)).toUInt32 >>> ((2 : Int32).toUInt32 &&& Int32.toUInt32 31)).toInt32) &&& 858993459)) + (((((x - (((x.toUInt32 >>> ((1 : Int32).toUInt32 &&& Int32.toUInt32 31)).toInt32) &&& 1431655765)) &&& 858993459) + ((((x - (((x.toUInt32 >>> ((1 : Int32).toUInt32 &&& Int32.toUInt32 31)).toInt32) &&& 1431655765)).toUInt32 >>> ((2 : Int32).toUInt32 &&& Int32.toUInt32 31)).toInt32) &&& 858993459)).toUInt32 >>> ((4 : Int32).toUInt32 &&& Int32.toUInt32 31)).toInt32)) &&& 252645135) + (((((((x - (((x.toUInt32 >>> ((1 : Int32).toUInt32 &&& Int32.toUInt32 31)).toInt32) &&& 1431655765)) &&& 858993459) + ((((x - (((x.toUInt32 >>> ((1 : Int32).toUInt32 &&& Int32.toUInt32 31)).toInt32) &&& 1431655765)).toUInt32 >>> ((2 : Int32).toUInt32 &&& Int32.toUInt32 31)).toInt32) &&& 858993459)) + (((((x - (((x.toUInt32 >>> ((1 : Int32).toUInt32 &&& Int32.toUInt32 31)).toInt32) &&& 1431655765)) &&& 858993459) + ((((x - (((x.toUInt32 >>> ((1 : Int32).toUInt32 &&& Int32.toUInt32 31)).toInt32) &&& 1431655765)).toUInt32 >>> ((2 : Int32).toUInt32 &&& Int32.toUInt32 31)).toInt32) &&& 858993459)).toUInt32 >>> ((4 : Int32).toUInt32 &&& Int32.toUInt32 31)).toInt32)) &&& 252645135).toUInt32 >>> ((8 : Int32).toUInt32 &&& Int32.toUInt32 31)).toInt32)) + ((((((((x - (((x.toUInt32 >>> ((1 : Int32).toUInt32 &&& Int32.toUInt32 31)).toInt32) &&& 1431655765)) &&& 858993459) + ((((x - (((x.toUInt32 >>> ((1 : Int32).toUInt32 &&& Int32.toUInt32 31)).toInt32) &&& 1431655765)).toUInt32 >>> ((2 : Int32).toUInt32 &&& Int32.toUInt32 31)).toInt32) &&& 858993459)) + (((((x - (((x.toUInt32 >>> ((1 : Int32).toUInt32 &&& Int32.toUInt32 31)).toInt32) &&& 1431655765)) &&& 858993459) + ((((x - (((x.toUInt32 >>> ((1 : Int32).toUInt32 &&& Int32.toUInt32 31)).toInt32) &&& 1431655765)).toUInt32 >>> ((2 : Int32).toUInt32 &&& Int32.toUInt32 31)).toInt32) &&& 858993459)).toUInt32 >>> ((4 : Int32).toUInt32 &&& Int32.toUInt32 31)).toInt32)) &&& 252645135) + (((((((x - (((x.toUInt32 >>> ((1 : Int32).toUInt32 &&& Int32.toUInt32 31)).toInt32) &&& 1431655765)) &&& 858993459) + ((((x - (((x.toUInt32 >>> ((1 : Int32).toUInt32 &&& Int32.toUInt32 31)).toInt32) &&& 1431655765)).toUInt32 >>> ((2 : Int32).toUInt32 &&& Int32.toUInt32 31)).toInt32) &&& 858993459)) + (((((x - (((x.toUInt32 >>> ((1 : Int32).toUInt32 &&& Int32.toUInt32 31)).toInt32) &&& 1431655765)) &&& 858993459) + ((((x - (((x.toUInt32 >>> ((1 : Int32).toUInt32 &&& Int32.toUInt32 31)).toInt32) &&& 1431655765)).toUInt32 >>> ((2 : Int32).toUInt32 &&& Int32.toUInt32 31)).toInt32) &&& 858993459)).toUInt32 >>> ((4 : Int32).toUInt32 &&& Int32.toUInt32 31)).toInt32)) &&& 252645135).toUInt32 >>> ((8 : Int32).toUInt32 &&& Int32.toUInt32 31)).toInt32)).toUInt32 >>> ((16 : Int32).toUInt32 &&& Int32.toUInt32 31)).toInt32)))]) hx hb (dkP dF_59 DJ6_bitCount_0f7a4 (i := 37) rfl rfl) rfl hl (by decide) rfl (fun ls hl => ?_)
  refine lv_iload_n hx hb (dkP dF_26 DJ6_bitCount_0f7a4 (i := 38) rfl rfl) rfl (lv_at hl 0 rfl) ?_
  refine lv_bipush (v := 63) hx hb (dks dF_16 DJ6_bitCount_0f7a4 (i := 39) rfl rfl rfl) (by decide) ?_
  refine lv_iand hx hb (dkP dF_126 DJ6_bitCount_0f7a4 (i := 40) rfl rfl) ?_
  exact z_iret C0 hr hlk hw rfl (dkP dF_172 DJ6_bitCount_0f7a4 (i := 41) rfl rfl)
set_option maxRecDepth 20000 in
theorem s0_1_5 : sC0.1 1 5 = 0 := by rfl
set_option maxRecDepth 20000 in
theorem s0_1_6 : sC0.1 1 6 = 0 := by rfl
set_option maxRecDepth 100000 in
set_option maxHeartbeats 4000000 in
theorem c_X11_count (l : Launch) (G : va_G) (kc : Nat → ClassId) (ad : Nat → Nat)  (w : Int32)  : MI l G kc yX11_count cX11_count 2 (some .int) 2 43 [.ref (ad 0), .int w] shC ad sC0 (fun r σ1 => r = if 0 ≤ w.toInt ∧ w.toInt ≤ 10 then 0 else -1) := by
  intro sz
  refine z_body (y := yX11_count) (n := 2) (av := [.ref (ad 0), .int w]) (Qc := fun A => va_Qi (fun r σ1 => r = if 0 ≤ w.toInt ∧ w.toInt ≤ 10 then 0 else -1) (PoC G kc shC ad A) A) (plainFor_of_name (by decide)) (Nat.le_of_ble_eq_true rfl) (fun pr e s m below meth c A C0 hr hlk hnm hw ls hl => ?_) sz
  have hx := C0.1
  have hb := C0.2.1
  have hown := C0.2.2.2.1
  have hts := C0.2.2.2.2.1
  have hl : lv_has ls 2 [(0, .ref (ad 0)), (1, .int w)] := hl
  refine lv_iload_n hx hb (dkP dF_27 DX11_count (i := 0) rfl rfl) rfl (lv_at hl 1 rfl) ?_
  by_cases hsw1 : 0 ≤ w.toInt ∧ w.toInt ≤ 10
  · obtain ⟨j1, hj1, rfl⟩ := to_nat (x := w) (n := 11) (by omega)
    match j1, hj1 with
    | 0, _ =>
      refine lv_tableIn (x := nI 0) (off := 59) (tgt := 60) hx hb (dX11_count_1) (by decide) (by decide) rfl (by decide) ?_
      refine lv_aload_n hx hb (dkP dF_42 DX11_count (i := 2) rfl rfl) rfl (lv_at hl 0 rfl) ?_
      refine z_gr C0 hw 0 0 1 (fk_of shc_0 rfl) fl_X11_10 (dk2 dF_180 DX11_count (i := 3) rfl rfl rfl) ?_
      refine zk_I hw (zr_V (As := []) (rest := []) C0 (c_X10_linesOfAll l G kc ad  _) cv_X10_linesOfAll lk_X11_324 (zp_V C0 hw 1 shc_1 rfl rfl) rfl hl.1 rfl ⟨by decide, by decide⟩ (Nat.le_of_ble_eq_true rfl) (dk2 dF_182 DX11_count (i := 4) rfl rfl rfl) ⟨Nat.le_refl _, Nat.le_refl _⟩) (fun r2 s2 H locs hp hw => ?_)
      obtain ⟨rfl, hs2⟩ := hp
      (rw [hs2] at hw; clear hs2)
      exact z_iret C0 hr hlk hw (by first | rfl | ((try simp (disch := omega) only [tnI, tn32 1 (by decide), tnj 1 (by decide), tl32 0 (by decide), tl64 0 (by decide)]); (repeat' split) <;> first | rfl | omega | (apply Int32.toInt_inj.mp; simp (disch := omega) only [tnI, tn32 1 (by decide), tnj 1 (by decide), tl32 0 (by decide), tl64 0 (by decide)]; omega))) (dkP dF_172 DX11_count (i := 5) rfl rfl)
    | 1, _ =>
      refine lv_tableIn (x := nI 1) (off := 67) (tgt := 68) hx hb (dX11_count_1) (by decide) (by decide) rfl (by decide) ?_
      refine lv_aload_n hx hb (dkP dF_42 DX11_count (i := 6) rfl rfl) rfl (lv_at hl 0 rfl) ?_
      refine z_gr C0 hw 0 0 1 (fk_of shc_0 rfl) fl_X11_10 (dk2 dF_180 DX11_count (i := 7) rfl rfl rfl) ?_
      refine zk_I hw (zr_V (As := []) (rest := []) C0 (c_X10_casesOfAll l G kc ad  _) cv_X10_casesOfAll lk_X11_327 (zp_V C0 hw 1 shc_1 rfl rfl) rfl hl.1 rfl ⟨by decide, by decide⟩ (Nat.le_of_ble_eq_true rfl) (dk2 dF_182 DX11_count (i := 8) rfl rfl rfl) ⟨Nat.le_refl _, Nat.le_refl _⟩) (fun r3 s3 H locs hp hw => ?_)
      obtain ⟨rfl, hs3⟩ := hp
      (rw [hs3] at hw; clear hs3)
      exact z_iret C0 hr hlk hw (by first | rfl | ((try simp (disch := omega) only [tnI, tn32 1 (by decide), tnj 1 (by decide), tl32 0 (by decide), tl64 0 (by decide)]); (repeat' split) <;> first | rfl | omega | (apply Int32.toInt_inj.mp; simp (disch := omega) only [tnI, tn32 1 (by decide), tnj 1 (by decide), tl32 0 (by decide), tl64 0 (by decide)]; omega))) (dkP dF_172 DX11_count (i := 9) rfl rfl)
    | 2, _ =>
      refine lv_tableIn (x := nI 2) (off := 75) (tgt := 76) hx hb (dX11_count_1) (by decide) (by decide) rfl (by decide) ?_
      refine lv_aload_n hx hb (dkP dF_42 DX11_count (i := 10) rfl rfl) rfl (lv_at hl 0 rfl) ?_
      refine z_gr C0 hw 0 0 1 (fk_of shc_0 rfl) fl_X11_10 (dk2 dF_180 DX11_count (i := 11) rfl rfl rfl) ?_
      refine lv_iconst (v := 2) hx hb (dkP dF_5 DX11_count (i := 12) rfl rfl) (by decide) ?_
      refine zk_I hw (zr_V (As := [.int 2]) (rest := []) C0 (c_X10_bitsOf l G kc ad 2 (by first | omega | assumption | decide | rfl) _) cv_X10_bitsOf lk_X11_276 (zp_V C0 hw 1 shc_1 rfl rfl) rfl hl.1 rfl ⟨by decide, by decide⟩ (Nat.le_of_ble_eq_true rfl) (dk2 dF_182 DX11_count (i := 13) rfl rfl rfl) ⟨Nat.le_refl _, Nat.le_refl _⟩) (fun r4 s4 H locs hp hw => ?_)
      obtain ⟨rfl, hs4⟩ := hp
      (rw [hs4] at hw; clear hs4)
      refine zn_I hw (zr_S (As := [.int 0]) (rest := []) C0 (c_J6_bitCount_0f7a4 l G kc 0  _) cs_J6_bitCount_0f7a4 lk_X11_282 (zp_P C0 a00 s00) rfl hl.1 rfl ⟨by decide, by decide⟩ (Nat.le_of_ble_eq_true rfl) (dk2 dF_184 DX11_count (i := 14) rfl rfl rfl) ⟨Nat.le_refl _, Nat.le_refl _⟩) (fun r5 s5 H locs hp hw => ?_)
      subst hp
      refine z_top (y := 0) (by decide) ?_
      exact z_iret C0 hr hlk hw (by first | rfl | ((try simp (disch := omega) only [tnI, tn32 1 (by decide), tnj 1 (by decide), tl32 0 (by decide), tl64 0 (by decide), tl32 2 (by decide), tl64 2 (by decide)]); (repeat' split) <;> first | rfl | omega | (apply Int32.toInt_inj.mp; simp (disch := omega) only [tnI, tn32 1 (by decide), tnj 1 (by decide), tl32 0 (by decide), tl64 0 (by decide), tl32 2 (by decide), tl64 2 (by decide)]; omega))) (dkP dF_172 DX11_count (i := 15) rfl rfl)
    | 3, _ =>
      refine lv_tableIn (x := nI 3) (off := 87) (tgt := 88) hx hb (dX11_count_1) (by decide) (by decide) rfl (by decide) ?_
      refine lv_aload_n hx hb (dkP dF_42 DX11_count (i := 16) rfl rfl) rfl (lv_at hl 0 rfl) ?_
      refine z_gr C0 hw 0 0 1 (fk_of shc_0 rfl) fl_X11_10 (dk2 dF_180 DX11_count (i := 17) rfl rfl rfl) ?_
      refine lv_iconst (v := 4) hx hb (dkP dF_7 DX11_count (i := 18) rfl rfl) (by decide) ?_
      refine zk_I hw (zr_V (As := [.int 4]) (rest := []) C0 (c_X10_bitsOf l G kc ad 4 (by first | omega | assumption | decide | rfl) _) cv_X10_bitsOf lk_X11_276 (zp_V C0 hw 1 shc_1 rfl rfl) rfl hl.1 rfl ⟨by decide, by decide⟩ (Nat.le_of_ble_eq_true rfl) (dk2 dF_182 DX11_count (i := 19) rfl rfl rfl) ⟨Nat.le_refl _, Nat.le_refl _⟩) (fun r6 s6 H locs hp hw => ?_)
      obtain ⟨rfl, hs6⟩ := hp
      (rw [hs6] at hw; clear hs6)
      refine zn_I hw (zr_S (As := [.int 0]) (rest := []) C0 (c_J6_bitCount_0f7a4 l G kc 0  _) cs_J6_bitCount_0f7a4 lk_X11_282 (zp_P C0 a00 s00) rfl hl.1 rfl ⟨by decide, by decide⟩ (Nat.le_of_ble_eq_true rfl) (dk2 dF_184 DX11_count (i := 20) rfl rfl rfl) ⟨Nat.le_refl _, Nat.le_refl _⟩) (fun r7 s7 H locs hp hw => ?_)
      subst hp
      refine z_top (y := 0) (by decide) ?_
      exact z_iret C0 hr hlk hw (by first | rfl | ((try simp (disch := omega) only [tnI, tn32 1 (by decide), tnj 1 (by decide), tl32 0 (by decide), tl64 0 (by decide), tl32 2 (by decide), tl64 2 (by decide), tl32 4 (by decide), tl64 4 (by decide)]); (repeat' split) <;> first | rfl | omega | (apply Int32.toInt_inj.mp; simp (disch := omega) only [tnI, tn32 1 (by decide), tnj 1 (by decide), tl32 0 (by decide), tl64 0 (by decide), tl32 2 (by decide), tl64 2 (by decide), tl32 4 (by decide), tl64 4 (by decide)]; omega))) (dkP dF_172 DX11_count (i := 21) rfl rfl)
    | 4, _ =>
      refine lv_tableIn (x := nI 4) (off := 99) (tgt := 100) hx hb (dX11_count_1) (by decide) (by decide) rfl (by decide) ?_
      refine lv_aload_n hx hb (dkP dF_42 DX11_count (i := 22) rfl rfl) rfl (lv_at hl 0 rfl) ?_
      refine z_gr C0 hw 0 0 1 (fk_of shc_0 rfl) fl_X11_10 (dk2 dF_180 DX11_count (i := 23) rfl rfl rfl) ?_
      refine lv_iconst (v := 1) hx hb (dkP dF_4 DX11_count (i := 24) rfl rfl) (by decide) ?_
      refine zk_I hw (zr_V (As := [.int 1]) (rest := []) C0 (c_X10_bitsOf l G kc ad 1 (by first | omega | assumption | decide | rfl) _) cv_X10_bitsOf lk_X11_276 (zp_V C0 hw 1 shc_1 rfl rfl) rfl hl.1 rfl ⟨by decide, by decide⟩ (Nat.le_of_ble_eq_true rfl) (dk2 dF_182 DX11_count (i := 25) rfl rfl rfl) ⟨Nat.le_refl _, Nat.le_refl _⟩) (fun r8 s8 H locs hp hw => ?_)
      obtain ⟨rfl, hs8⟩ := hp
      (rw [hs8] at hw; clear hs8)
      refine zn_I hw (zr_S (As := [.int 0]) (rest := []) C0 (c_J6_bitCount_0f7a4 l G kc 0  _) cs_J6_bitCount_0f7a4 lk_X11_282 (zp_P C0 a00 s00) rfl hl.1 rfl ⟨by decide, by decide⟩ (Nat.le_of_ble_eq_true rfl) (dk2 dF_184 DX11_count (i := 26) rfl rfl rfl) ⟨Nat.le_refl _, Nat.le_refl _⟩) (fun r9 s9 H locs hp hw => ?_)
      subst hp
      refine z_top (y := 0) (by decide) ?_
      exact z_iret C0 hr hlk hw (by first | rfl | ((try simp (disch := omega) only [tnI, tn32 1 (by decide), tnj 1 (by decide), tl32 0 (by decide), tl64 0 (by decide), tl32 1 (by decide), tl64 1 (by decide), tl32 2 (by decide), tl64 2 (by decide), tl32 4 (by decide), tl64 4 (by decide)]); (repeat' split) <;> first | rfl | omega | (apply Int32.toInt_inj.mp; simp (disch := omega) only [tnI, tn32 1 (by decide), tnj 1 (by decide), tl32 0 (by decide), tl64 0 (by decide), tl32 1 (by decide), tl64 1 (by decide), tl32 2 (by decide), tl64 2 (by decide), tl32 4 (by decide), tl64 4 (by decide)]; omega))) (dkP dF_172 DX11_count (i := 27) rfl rfl)
    | 5, _ =>
      refine lv_tableIn (x := nI 5) (off := 111) (tgt := 112) hx hb (dX11_count_1) (by decide) (by decide) rfl (by decide) ?_
      refine lv_aload_n hx hb (dkP dF_42 DX11_count (i := 28) rfl rfl) rfl (lv_at hl 0 rfl) ?_
      refine z_gr C0 hw 0 3 186 (fk_of shc_0 rfl) fl_X11_27 (dk2 dF_180 DX11_count (i := 29) rfl rfl rfl) ?_
      refine z_gi C0 hw 186 1 (fk_of shc_186 rfl) fl_X11_81 (dk2 dF_180 DX11_count (i := 30) rfl rfl rfl) ?_
      refine z_top (y := 0) s0_186_1 ?_
      exact z_iret C0 hr hlk hw (by first | rfl | ((try simp (disch := omega) only [tnI, tn32 1 (by decide), tnj 1 (by decide), tl32 0 (by decide), tl64 0 (by decide), tl32 1 (by decide), tl64 1 (by decide), tl32 2 (by decide), tl64 2 (by decide), tl32 4 (by decide), tl64 4 (by decide)]); (repeat' split) <;> first | rfl | omega | (apply Int32.toInt_inj.mp; simp (disch := omega) only [tnI, tn32 1 (by decide), tnj 1 (by decide), tl32 0 (by decide), tl64 0 (by decide), tl32 1 (by decide), tl64 1 (by decide), tl32 2 (by decide), tl64 2 (by decide), tl32 4 (by decide), tl64 4 (by decide)]; omega))) (dkP dF_172 DX11_count (i := 31) rfl rfl)
    | 6, _ =>
      refine lv_tableIn (x := nI 6) (off := 119) (tgt := 120) hx hb (dX11_count_1) (by decide) (by decide) rfl (by decide) ?_
      refine lv_aload_n hx hb (dkP dF_42 DX11_count (i := 32) rfl rfl) rfl (lv_at hl 0 rfl) ?_
      refine z_gr C0 hw 0 0 1 (fk_of shc_0 rfl) fl_X11_10 (dk2 dF_180 DX11_count (i := 33) rfl rfl rfl) ?_
      refine z_gi C0 hw 1 5 (fk_of shc_1 rfl) fl_X11_245 (dk2 dF_180 DX11_count (i := 34) rfl rfl rfl) ?_
      refine z_top (y := 0) s0_1_5 ?_
      exact z_iret C0 hr hlk hw (by first | rfl | ((try simp (disch := omega) only [tnI, tn32 1 (by decide), tnj 1 (by decide), tl32 0 (by decide), tl64 0 (by decide), tl32 1 (by decide), tl64 1 (by decide), tl32 2 (by decide), tl64 2 (by decide), tl32 4 (by decide), tl64 4 (by decide)]); (repeat' split) <;> first | rfl | omega | (apply Int32.toInt_inj.mp; simp (disch := omega) only [tnI, tn32 1 (by decide), tnj 1 (by decide), tl32 0 (by decide), tl64 0 (by decide), tl32 1 (by decide), tl64 1 (by decide), tl32 2 (by decide), tl64 2 (by decide), tl32 4 (by decide), tl64 4 (by decide)]; omega))) (dkP dF_172 DX11_count (i := 35) rfl rfl)
    | 7, _ =>
      refine lv_tableIn (x := nI 7) (off := 127) (tgt := 128) hx hb (dX11_count_1) (by decide) (by decide) rfl (by decide) ?_
      refine lv_aload_n hx hb (dkP dF_42 DX11_count (i := 36) rfl rfl) rfl (lv_at hl 0 rfl) ?_
      refine z_gr C0 hw 0 0 1 (fk_of shc_0 rfl) fl_X11_10 (dk2 dF_180 DX11_count (i := 37) rfl rfl rfl) ?_
      refine z_gi C0 hw 1 6 (fk_of shc_1 rfl) fl_X11_214 (dk2 dF_180 DX11_count (i := 38) rfl rfl rfl) ?_
      refine z_top (y := 0) s0_1_6 ?_
      exact z_iret C0 hr hlk hw (by first | rfl | ((try simp (disch := omega) only [tnI, tn32 1 (by decide), tnj 1 (by decide), tl32 0 (by decide), tl64 0 (by decide), tl32 1 (by decide), tl64 1 (by decide), tl32 2 (by decide), tl64 2 (by decide), tl32 4 (by decide), tl64 4 (by decide)]); (repeat' split) <;> first | rfl | omega | (apply Int32.toInt_inj.mp; simp (disch := omega) only [tnI, tn32 1 (by decide), tnj 1 (by decide), tl32 0 (by decide), tl64 0 (by decide), tl32 1 (by decide), tl64 1 (by decide), tl32 2 (by decide), tl64 2 (by decide), tl32 4 (by decide), tl64 4 (by decide)]; omega))) (dkP dF_172 DX11_count (i := 39) rfl rfl)
    | 8, _ =>
      refine lv_tableIn (x := nI 8) (off := 135) (tgt := 136) hx hb (dX11_count_1) (by decide) (by decide) rfl (by decide) ?_
      refine lv_aload_n hx hb (dkP dF_42 DX11_count (i := 40) rfl rfl) rfl (lv_at hl 0 rfl) ?_
      refine z_gr C0 hw 0 0 1 (fk_of shc_0 rfl) fl_X11_10 (dk2 dF_180 DX11_count (i := 41) rfl rfl rfl) ?_
      refine zk_I hw (zr_V (As := []) (rest := []) C0 (c_X10_heapsNotJudged l G kc ad  _) cv_X10_heapsNotJudged lk_X11_330 (zp_V C0 hw 1 shc_1 rfl rfl) rfl hl.1 rfl ⟨by decide, by decide⟩ (Nat.le_of_ble_eq_true rfl) (dk2 dF_182 DX11_count (i := 42) rfl rfl rfl) ⟨Nat.le_refl _, Nat.le_refl _⟩) (fun r10 s10 H locs hp hw => ?_)
      obtain ⟨rfl, hs10⟩ := hp
      (rw [hs10] at hw; clear hs10)
      exact z_iret C0 hr hlk hw (by first | rfl | ((try simp (disch := omega) only [tnI, tn32 1 (by decide), tnj 1 (by decide), tl32 0 (by decide), tl64 0 (by decide), tl32 1 (by decide), tl64 1 (by decide), tl32 2 (by decide), tl64 2 (by decide), tl32 4 (by decide), tl64 4 (by decide)]); (repeat' split) <;> first | rfl | omega | (apply Int32.toInt_inj.mp; simp (disch := omega) only [tnI, tn32 1 (by decide), tnj 1 (by decide), tl32 0 (by decide), tl64 0 (by decide), tl32 1 (by decide), tl64 1 (by decide), tl32 2 (by decide), tl64 2 (by decide), tl32 4 (by decide), tl64 4 (by decide)]; omega))) (dkP dF_172 DX11_count (i := 43) rfl rfl)
    | 9, _ =>
      refine lv_tableIn (x := nI 9) (off := 143) (tgt := 144) hx hb (dX11_count_1) (by decide) (by decide) rfl (by decide) ?_
      refine lv_aload_n hx hb (dkP dF_42 DX11_count (i := 44) rfl rfl) rfl (lv_at hl 0 rfl) ?_
      refine z_gr C0 hw 0 7 223 (fk_of shc_0 rfl) fl_X11_51 (dk2 dF_180 DX11_count (i := 45) rfl rfl rfl) ?_
      refine zk_I hw (zr_V (As := []) (rest := []) C0 (c_X7_filled l G kc ad  _) cv_X7_filled lk_X11_333 (zp_V C0 hw 223 shc_223 rfl rfl) rfl hl.1 rfl ⟨by decide, by decide⟩ (Nat.le_of_ble_eq_true rfl) (dk2 dF_182 DX11_count (i := 46) rfl rfl rfl) ⟨Nat.le_refl _, Nat.le_refl _⟩) (fun r11 s11 H locs hp hw => ?_)
      obtain ⟨rfl, hs11⟩ := hp
      (rw [hs11] at hw; clear hs11)
      exact z_iret C0 hr hlk hw (by first | rfl | ((try simp (disch := omega) only [tnI, tn32 1 (by decide), tnj 1 (by decide), tl32 0 (by decide), tl64 0 (by decide), tl32 1 (by decide), tl64 1 (by decide), tl32 2 (by decide), tl64 2 (by decide), tl32 4 (by decide), tl64 4 (by decide)]); (repeat' split) <;> first | rfl | omega | (apply Int32.toInt_inj.mp; simp (disch := omega) only [tnI, tn32 1 (by decide), tnj 1 (by decide), tl32 0 (by decide), tl64 0 (by decide), tl32 1 (by decide), tl64 1 (by decide), tl32 2 (by decide), tl64 2 (by decide), tl32 4 (by decide), tl64 4 (by decide)]; omega))) (dkP dF_172 DX11_count (i := 47) rfl rfl)
    | 10, _ =>
      refine lv_tableIn (x := nI 10) (off := 151) (tgt := 152) hx hb (dX11_count_1) (by decide) (by decide) rfl (by decide) ?_
      refine lv_aload_n hx hb (dkP dF_42 DX11_count (i := 48) rfl rfl) rfl (lv_at hl 0 rfl) ?_
      refine z_gr C0 hw 0 0 1 (fk_of shc_0 rfl) fl_X11_10 (dk2 dF_180 DX11_count (i := 49) rfl rfl rfl) ?_
      refine z_gr C0 hw 1 7 6 (fk_of shc_1 rfl) fl_X11_301 (dk2 dF_180 DX11_count (i := 50) rfl rfl rfl) ?_
      refine zk_I hw (zr_V (As := []) (rest := []) C0 (c_X6_lostOfAll l G kc ad  _) cv_X6_lostOfAll lk_X11_336 (zp_V C0 hw 6 shc_6 rfl rfl) rfl hl.1 rfl ⟨by decide, by decide⟩ (Nat.le_of_ble_eq_true rfl) (dk2 dF_182 DX11_count (i := 51) rfl rfl rfl) ⟨Nat.le_refl _, Nat.le_refl _⟩) (fun r12 s12 H locs hp hw => ?_)
      obtain ⟨rfl, hs12⟩ := hp
      (rw [hs12] at hw; clear hs12)
      exact z_iret C0 hr hlk hw (by first | rfl | ((try simp (disch := omega) only [tnI, tn32 1 (by decide), tnj 1 (by decide), tl32 0 (by decide), tl64 0 (by decide), tl32 1 (by decide), tl64 1 (by decide), tl32 2 (by decide), tl64 2 (by decide), tl32 4 (by decide), tl64 4 (by decide)]); (repeat' split) <;> first | rfl | omega | (apply Int32.toInt_inj.mp; simp (disch := omega) only [tnI, tn32 1 (by decide), tnj 1 (by decide), tl32 0 (by decide), tl64 0 (by decide), tl32 1 (by decide), tl64 1 (by decide), tl32 2 (by decide), tl64 2 (by decide), tl32 4 (by decide), tl64 4 (by decide)]; omega))) (dkP dF_172 DX11_count (i := 52) rfl rfl)
    | j + 11, hj => exact absurd hj (by omega)
  · refine lv_tableOut (tgt := 163) hx hb (dX11_count_1) (by omega) (by decide) ?_
    refine lv_iconst (v := (-1)) hx hb (dkP dF_2 DX11_count (i := 53) rfl rfl) (by decide) ?_
    exact z_iret C0 hr hlk hw (by first | rfl | ((try simp only [lg_cmp_lt, lg_cmp_le, lg_cmp_gt, lg_cmp_ge, lg_cmp_eq] at hsw1); (try simp (disch := omega) only [ta_lt, ta_le, ta_eq, tb_lt, tb_le, tb_eq, tw, tnI, tn32 1 (by decide), tnj 1 (by decide), tl32 0 (by decide), tl64 0 (by decide), tl32 1 (by decide), tl64 1 (by decide), tl32 2 (by decide), tl64 2 (by decide), tl32 4 (by decide), tl64 4 (by decide)] at hsw1); (try simp (disch := omega) only [tnI, tn32 1 (by decide), tnj 1 (by decide), tl32 0 (by decide), tl64 0 (by decide), tl32 1 (by decide), tl64 1 (by decide), tl32 2 (by decide), tl64 2 (by decide), tl32 4 (by decide), tl64 4 (by decide)]); (repeat' split) <;> first | rfl | omega | (apply Int32.toInt_inj.mp; simp (disch := omega) only [tnI, tn32 1 (by decide), tnj 1 (by decide), tl32 0 (by decide), tl64 0 (by decide), tl32 1 (by decide), tl64 1 (by decide), tl32 2 (by decide), tl64 2 (by decide), tl32 4 (by decide), tl64 4 (by decide)]; omega))) (dkP dF_172 DX11_count (i := 54) rfl rfl)
set_option maxRecDepth 100000 in
set_option maxHeartbeats 4000000 in
theorem c_X11_write (l : Launch) (G : va_G) (kc : Nat → ClassId) (ad : Nat → Nat)  (sl : Int32) (i : Int32) (v : Int64)  : MI l G kc yX11_write cX11_write 5 (some .int) 1 21 [.ref (ad 0), .int sl, .int i, .long v] shC ad sC0 (fun r σ1 => r = if 0 ≤ sl.toInt ∧ sl.toInt ≤ 3 then -6 else -2) := by
  intro sz
  refine z_body (y := yX11_write) (n := 5) (av := [.ref (ad 0), .int sl, .int i, .long v]) (Qc := fun A => va_Qi (fun r σ1 => r = if 0 ≤ sl.toInt ∧ sl.toInt ≤ 3 then -6 else -2) (PoC G kc shC ad A) A) (plainFor_of_name (by decide)) (Nat.le_of_ble_eq_true rfl) (fun pr e s m below meth c A C0 hr hlk hnm hw ls hl => ?_) sz
  have hx := C0.1
  have hb := C0.2.1
  have hown := C0.2.2.2.1
  have hts := C0.2.2.2.2.1
  have hl : lv_has ls 5 [(0, .ref (ad 0)), (1, .int sl), (2, .int i), (3, .long v)] := hl
  refine lv_aload_n hx hb (dkP dF_42 DX11_write (i := 0) rfl rfl) rfl (lv_at hl 0 rfl) ?_
  refine z_gr C0 hw 0 7 223 (fk_of shc_0 rfl) fl_X11_51 (dk2 dF_180 DX11_write (i := 1) rfl rfl rfl) ?_
  refine lv_iload_n hx hb (dkP dF_27 DX11_write (i := 2) rfl rfl) rfl (lv_at hl 1 rfl) ?_
  refine zk_I hw (zr_V (As := [.int sl]) (rest := []) C0 (c_X7_isSlot l G kc ad sl  _) cv_X7_isSlot lk_X11_228 (zp_V C0 hw 223 shc_223 rfl rfl) rfl hl.1 rfl ⟨by decide, by decide⟩ (Nat.le_of_ble_eq_true rfl) (dk2 dF_182 DX11_write (i := 3) rfl rfl rfl) ⟨Nat.le_refl _, Nat.le_refl _⟩) (fun r1 s1 H locs hp hw => ?_)
  obtain ⟨hq1, hs1⟩ := hp
  (rw [hs1] at hw; clear hs1)
  rcases hq1 with ⟨rfl, hc1⟩ | ⟨rfl, hc1⟩
  · skip
    obtain ⟨k_sl, hk_sl, rfl⟩ := to_nat (x := sl) (n := 4) (by (try simp only [lg_cmp_lt, lg_cmp_le, lg_cmp_gt, lg_cmp_ge, lg_cmp_eq] at hc1); (try simp (disch := omega) only [ta_lt, ta_le, ta_eq, tb_lt, tb_le, tb_eq, tw, tnI, tn32 1 (by decide), tnj 1 (by decide), tl32 0 (by decide), tl64 0 (by decide)] at hc1); (try simp (disch := omega) only [ta_lt, ta_le, ta_eq, tb_lt, tb_le, tb_eq, tw, tnI, tn32 1 (by decide), tnj 1 (by decide), tl32 0 (by decide), tl64 0 (by decide)]); omega)
    refine lv_if_ne (tgt := 14) hx hb (dkS dF_154 DX11_write (i := 4) rfl rfl rfl) (by decide) (fun _ => ?_) (fun h => absurd h (by decide))
    refine lv_aload_n hx hb (dkP dF_42 DX11_write (i := 7) rfl rfl) rfl (lv_at hl 0 rfl) ?_
    refine z_gr C0 hw 0 7 223 (fk_of shc_0 rfl) fl_X11_51 (dk2 dF_180 DX11_write (i := 8) rfl rfl rfl) ?_
    refine lv_iload_n hx hb (dkP dF_27 DX11_write (i := 9) rfl rfl) rfl (lv_at hl 1 rfl) ?_
    refine zk_I hw (zr_V (As := [.int (nI k_sl)]) (rest := []) C0 (c_X7_hasNumbers l G kc ad k_sl (by first | omega | assumption | decide | rfl) _) cv_X7_hasNumbers lk_X11_231 (zp_V C0 hw 223 shc_223 rfl rfl) rfl hl.1 rfl ⟨by decide, by decide⟩ (Nat.le_of_ble_eq_true rfl) (dk2 dF_182 DX11_write (i := 10) rfl rfl rfl) ⟨Nat.le_refl _, Nat.le_refl _⟩) (fun r2 s2 H locs hp hw => ?_)
    obtain ⟨hq2, hs2⟩ := hp
    (rw [hs2] at hw; clear hs2)
    rcases hq2 with ⟨rfl, hc2⟩ | ⟨rfl, hc2⟩
    · exact False.elim hc2
    · skip
      refine lv_if_ne (tgt := 28) hx hb (dkS dF_154 DX11_write (i := 11) rfl rfl rfl) (by decide) (fun h => absurd h (by decide)) (fun _ => ?_)
      refine lv_bipush (v := (-6)) hx hb (dks dF_16 DX11_write (i := 12) rfl rfl rfl) (by decide) ?_
      exact z_iret C0 hr hlk hw (by first | rfl | ((try simp only [lg_cmp_lt, lg_cmp_le, lg_cmp_gt, lg_cmp_ge, lg_cmp_eq] at hc1); (try simp (disch := omega) only [ta_lt, ta_le, ta_eq, tb_lt, tb_le, tb_eq, tw, tnI, tn32 6 (by decide), tnj 6 (by decide), tn32 1 (by decide), tnj 1 (by decide), tl32 0 (by decide), tl64 0 (by decide)] at hc1); (try simp only [lg_cmp_lt, lg_cmp_le, lg_cmp_gt, lg_cmp_ge, lg_cmp_eq] at hk_sl); (try simp (disch := omega) only [ta_lt, ta_le, ta_eq, tb_lt, tb_le, tb_eq, tw, tnI, tn32 6 (by decide), tnj 6 (by decide), tn32 1 (by decide), tnj 1 (by decide), tl32 0 (by decide), tl64 0 (by decide)] at hk_sl); (try simp only [lg_cmp_lt, lg_cmp_le, lg_cmp_gt, lg_cmp_ge, lg_cmp_eq] at hc2); (try simp (disch := omega) only [ta_lt, ta_le, ta_eq, tb_lt, tb_le, tb_eq, tw, tnI, tn32 6 (by decide), tnj 6 (by decide), tn32 1 (by decide), tnj 1 (by decide), tl32 0 (by decide), tl64 0 (by decide)] at hc2); (try simp (disch := omega) only [tnI, tn32 6 (by decide), tnj 6 (by decide), tn32 1 (by decide), tnj 1 (by decide), tl32 0 (by decide), tl64 0 (by decide)]); (repeat' split) <;> first | rfl | omega | (apply Int32.toInt_inj.mp; simp (disch := omega) only [tnI, tn32 6 (by decide), tnj 6 (by decide), tn32 1 (by decide), tnj 1 (by decide), tl32 0 (by decide), tl64 0 (by decide)]; omega))) (dkP dF_172 DX11_write (i := 13) rfl rfl)
  · skip
    refine lv_if_ne (tgt := 14) hx hb (dkS dF_154 DX11_write (i := 4) rfl rfl rfl) (by decide) (fun h => absurd h (by decide)) (fun _ => ?_)
    refine lv_bipush (v := (-2)) hx hb (dks dF_16 DX11_write (i := 5) rfl rfl rfl) (by decide) ?_
    exact z_iret C0 hr hlk hw (by first | rfl | ((try simp only [lg_cmp_lt, lg_cmp_le, lg_cmp_gt, lg_cmp_ge, lg_cmp_eq] at hc1); (try simp (disch := omega) only [ta_lt, ta_le, ta_eq, tb_lt, tb_le, tb_eq, tw, tnI, tn32 6 (by decide), tnj 6 (by decide), tn32 2 (by decide), tnj 2 (by decide), tn32 1 (by decide), tnj 1 (by decide), tl32 0 (by decide), tl64 0 (by decide)] at hc1); (try simp (disch := omega) only [tnI, tn32 6 (by decide), tnj 6 (by decide), tn32 2 (by decide), tnj 2 (by decide), tn32 1 (by decide), tnj 1 (by decide), tl32 0 (by decide), tl64 0 (by decide)]); (repeat' split) <;> first | rfl | omega | (apply Int32.toInt_inj.mp; simp (disch := omega) only [tnI, tn32 6 (by decide), tnj 6 (by decide), tn32 2 (by decide), tnj 2 (by decide), tn32 1 (by decide), tnj 1 (by decide), tl32 0 (by decide), tl64 0 (by decide)]; omega))) (dkP dF_172 DX11_write (i := 6) rfl rfl)
set_option maxRecDepth 100000 in
set_option maxHeartbeats 4000000 in
theorem c_X11_paste (l : Launch) (G : va_G) (kc : Nat → ClassId) (ad : Nat → Nat)  (sl : Int32) (i : Int32) (to : Int32) (q : Int32) (n : Int32)  : MI l G kc yX11_paste cX11_paste 6 (some .int) 1 21 [.ref (ad 0), .int sl, .int i, .int to, .int q, .int n] shC ad sC0 (fun r σ1 => r = if 0 ≤ sl.toInt ∧ sl.toInt ≤ 3 ∧ 0 ≤ to.toInt ∧ to.toInt ≤ 3 then -6 else -2) := by
  intro sz
  refine z_body (y := yX11_paste) (n := 6) (av := [.ref (ad 0), .int sl, .int i, .int to, .int q, .int n]) (Qc := fun A => va_Qi (fun r σ1 => r = if 0 ≤ sl.toInt ∧ sl.toInt ≤ 3 ∧ 0 ≤ to.toInt ∧ to.toInt ≤ 3 then -6 else -2) (PoC G kc shC ad A) A) (plainFor_of_name (by decide)) (Nat.le_of_ble_eq_true rfl) (fun pr e s m below meth c A C0 hr hlk hnm hw ls hl => ?_) sz
  have hx := C0.1
  have hb := C0.2.1
  have hown := C0.2.2.2.1
  have hts := C0.2.2.2.2.1
  have hl : lv_has ls 6 [(0, .ref (ad 0)), (1, .int sl), (2, .int i), (3, .int to), (4, .int q), (5, .int n)] := hl
  refine lv_aload_n hx hb (dkP dF_42 DX11_paste (i := 0) rfl rfl) rfl (lv_at hl 0 rfl) ?_
  refine z_gr C0 hw 0 7 223 (fk_of shc_0 rfl) fl_X11_51 (dk2 dF_180 DX11_paste (i := 1) rfl rfl rfl) ?_
  refine lv_iload_n hx hb (dkP dF_27 DX11_paste (i := 2) rfl rfl) rfl (lv_at hl 1 rfl) ?_
  refine zk_I hw (zr_V (As := [.int sl]) (rest := []) C0 (c_X7_isSlot l G kc ad sl  _) cv_X7_isSlot lk_X11_228 (zp_V C0 hw 223 shc_223 rfl rfl) rfl hl.1 rfl ⟨by decide, by decide⟩ (Nat.le_of_ble_eq_true rfl) (dk2 dF_182 DX11_paste (i := 3) rfl rfl rfl) ⟨Nat.le_refl _, Nat.le_refl _⟩) (fun r1 s1 H locs hp hw => ?_)
  obtain ⟨hq1, hs1⟩ := hp
  (rw [hs1] at hw; clear hs1)
  rcases hq1 with ⟨rfl, hc1⟩ | ⟨rfl, hc1⟩
  · skip
    obtain ⟨k_sl, hk_sl, rfl⟩ := to_nat (x := sl) (n := 4) (by (try simp only [lg_cmp_lt, lg_cmp_le, lg_cmp_gt, lg_cmp_ge, lg_cmp_eq] at hc1); (try simp (disch := omega) only [ta_lt, ta_le, ta_eq, tb_lt, tb_le, tb_eq, tw, tnI, tn32 1 (by decide), tnj 1 (by decide), tl32 0 (by decide), tl64 0 (by decide)] at hc1); (try simp (disch := omega) only [ta_lt, ta_le, ta_eq, tb_lt, tb_le, tb_eq, tw, tnI, tn32 1 (by decide), tnj 1 (by decide), tl32 0 (by decide), tl64 0 (by decide)]); omega)
    refine lv_if_eq (tgt := 22) hx hb (dkS dF_153 DX11_paste (i := 4) rfl rfl rfl) (by decide) (fun h => absurd h (by decide)) (fun _ => ?_)
    refine lv_aload_n hx hb (dkP dF_42 DX11_paste (i := 5) rfl rfl) rfl (lv_at hl 0 rfl) ?_
    refine z_gr C0 hw 0 7 223 (fk_of shc_0 rfl) fl_X11_51 (dk2 dF_180 DX11_paste (i := 6) rfl rfl rfl) ?_
    refine lv_iload_n hx hb (dkP dF_29 DX11_paste (i := 7) rfl rfl) rfl (lv_at hl 3 rfl) ?_
    refine zk_I hw (zr_V (As := [.int to]) (rest := []) C0 (c_X7_isSlot l G kc ad to  _) cv_X7_isSlot lk_X11_228 (zp_V C0 hw 223 shc_223 rfl rfl) rfl hl.1 rfl ⟨by decide, by decide⟩ (Nat.le_of_ble_eq_true rfl) (dk2 dF_182 DX11_paste (i := 8) rfl rfl rfl) ⟨Nat.le_refl _, Nat.le_refl _⟩) (fun r2 s2 H locs hp hw => ?_)
    obtain ⟨hq2, hs2⟩ := hp
    (rw [hs2] at hw; clear hs2)
    rcases hq2 with ⟨rfl, hc2⟩ | ⟨rfl, hc2⟩
    · skip
      obtain ⟨k_to, hk_to, rfl⟩ := to_nat (x := to) (n := 4) (by (try simp only [lg_cmp_lt, lg_cmp_le, lg_cmp_gt, lg_cmp_ge, lg_cmp_eq] at hc1); (try simp (disch := omega) only [ta_lt, ta_le, ta_eq, tb_lt, tb_le, tb_eq, tw, tnI, tn32 1 (by decide), tnj 1 (by decide), tl32 0 (by decide), tl64 0 (by decide)] at hc1); (try simp only [lg_cmp_lt, lg_cmp_le, lg_cmp_gt, lg_cmp_ge, lg_cmp_eq] at hk_sl); (try simp (disch := omega) only [ta_lt, ta_le, ta_eq, tb_lt, tb_le, tb_eq, tw, tnI, tn32 1 (by decide), tnj 1 (by decide), tl32 0 (by decide), tl64 0 (by decide)] at hk_sl); (try simp only [lg_cmp_lt, lg_cmp_le, lg_cmp_gt, lg_cmp_ge, lg_cmp_eq] at hc2); (try simp (disch := omega) only [ta_lt, ta_le, ta_eq, tb_lt, tb_le, tb_eq, tw, tnI, tn32 1 (by decide), tnj 1 (by decide), tl32 0 (by decide), tl64 0 (by decide)] at hc2); (try simp (disch := omega) only [ta_lt, ta_le, ta_eq, tb_lt, tb_le, tb_eq, tw, tnI, tn32 1 (by decide), tnj 1 (by decide), tl32 0 (by decide), tl64 0 (by decide)]); omega)
      refine lv_if_ne (tgt := 25) hx hb (dkS dF_154 DX11_paste (i := 9) rfl rfl rfl) (by decide) (fun _ => ?_) (fun h => absurd h (by decide))
      refine lv_aload_n hx hb (dkP dF_42 DX11_paste (i := 12) rfl rfl) rfl (lv_at hl 0 rfl) ?_
      refine z_gr C0 hw 0 7 223 (fk_of shc_0 rfl) fl_X11_51 (dk2 dF_180 DX11_paste (i := 13) rfl rfl rfl) ?_
      refine lv_iload_n hx hb (dkP dF_27 DX11_paste (i := 14) rfl rfl) rfl (lv_at hl 1 rfl) ?_
      refine zk_I hw (zr_V (As := [.int (nI k_sl)]) (rest := []) C0 (c_X7_hasNumbers l G kc ad k_sl (by first | omega | assumption | decide | rfl) _) cv_X7_hasNumbers lk_X11_231 (zp_V C0 hw 223 shc_223 rfl rfl) rfl hl.1 rfl ⟨by decide, by decide⟩ (Nat.le_of_ble_eq_true rfl) (dk2 dF_182 DX11_paste (i := 15) rfl rfl rfl) ⟨Nat.le_refl _, Nat.le_refl _⟩) (fun r3 s3 H locs hp hw => ?_)
      obtain ⟨hq3, hs3⟩ := hp
      (rw [hs3] at hw; clear hs3)
      rcases hq3 with ⟨rfl, hc3⟩ | ⟨rfl, hc3⟩
      · exact False.elim hc3
      · skip
        refine lv_if_eq (tgt := 47) hx hb (dkS dF_153 DX11_paste (i := 16) rfl rfl rfl) (by decide) (fun _ => ?_) (fun h => absurd h (by decide))
        refine lv_bipush (v := (-6)) hx hb (dks dF_16 DX11_paste (i := 22) rfl rfl rfl) (by decide) ?_
        exact z_iret C0 hr hlk hw (by first | rfl | ((try simp only [lg_cmp_lt, lg_cmp_le, lg_cmp_gt, lg_cmp_ge, lg_cmp_eq] at hc1); (try simp (disch := omega) only [ta_lt, ta_le, ta_eq, tb_lt, tb_le, tb_eq, tw, tnI, tn32 6 (by decide), tnj 6 (by decide), tn32 1 (by decide), tnj 1 (by decide), tl32 0 (by decide), tl64 0 (by decide)] at hc1); (try simp only [lg_cmp_lt, lg_cmp_le, lg_cmp_gt, lg_cmp_ge, lg_cmp_eq] at hk_sl); (try simp (disch := omega) only [ta_lt, ta_le, ta_eq, tb_lt, tb_le, tb_eq, tw, tnI, tn32 6 (by decide), tnj 6 (by decide), tn32 1 (by decide), tnj 1 (by decide), tl32 0 (by decide), tl64 0 (by decide)] at hk_sl); (try simp only [lg_cmp_lt, lg_cmp_le, lg_cmp_gt, lg_cmp_ge, lg_cmp_eq] at hc2); (try simp (disch := omega) only [ta_lt, ta_le, ta_eq, tb_lt, tb_le, tb_eq, tw, tnI, tn32 6 (by decide), tnj 6 (by decide), tn32 1 (by decide), tnj 1 (by decide), tl32 0 (by decide), tl64 0 (by decide)] at hc2); (try simp only [lg_cmp_lt, lg_cmp_le, lg_cmp_gt, lg_cmp_ge, lg_cmp_eq] at hk_to); (try simp (disch := omega) only [ta_lt, ta_le, ta_eq, tb_lt, tb_le, tb_eq, tw, tnI, tn32 6 (by decide), tnj 6 (by decide), tn32 1 (by decide), tnj 1 (by decide), tl32 0 (by decide), tl64 0 (by decide)] at hk_to); (try simp only [lg_cmp_lt, lg_cmp_le, lg_cmp_gt, lg_cmp_ge, lg_cmp_eq] at hc3); (try simp (disch := omega) only [ta_lt, ta_le, ta_eq, tb_lt, tb_le, tb_eq, tw, tnI, tn32 6 (by decide), tnj 6 (by decide), tn32 1 (by decide), tnj 1 (by decide), tl32 0 (by decide), tl64 0 (by decide)] at hc3); (try simp (disch := omega) only [tnI, tn32 6 (by decide), tnj 6 (by decide), tn32 1 (by decide), tnj 1 (by decide), tl32 0 (by decide), tl64 0 (by decide)]); (repeat' split) <;> first | rfl | omega | (apply Int32.toInt_inj.mp; simp (disch := omega) only [tnI, tn32 6 (by decide), tnj 6 (by decide), tn32 1 (by decide), tnj 1 (by decide), tl32 0 (by decide), tl64 0 (by decide)]; omega))) (dkP dF_172 DX11_paste (i := 23) rfl rfl)
    · skip
      refine lv_if_ne (tgt := 25) hx hb (dkS dF_154 DX11_paste (i := 9) rfl rfl rfl) (by decide) (fun h => absurd h (by decide)) (fun _ => ?_)
      refine lv_bipush (v := (-2)) hx hb (dks dF_16 DX11_paste (i := 10) rfl rfl rfl) (by decide) ?_
      exact z_iret C0 hr hlk hw (by first | rfl | ((try simp only [lg_cmp_lt, lg_cmp_le, lg_cmp_gt, lg_cmp_ge, lg_cmp_eq] at hc1); (try simp (disch := omega) only [ta_lt, ta_le, ta_eq, tb_lt, tb_le, tb_eq, tw, tnI, tn32 6 (by decide), tnj 6 (by decide), tn32 2 (by decide), tnj 2 (by decide), tn32 1 (by decide), tnj 1 (by decide), tl32 0 (by decide), tl64 0 (by decide)] at hc1); (try simp only [lg_cmp_lt, lg_cmp_le, lg_cmp_gt, lg_cmp_ge, lg_cmp_eq] at hk_sl); (try simp (disch := omega) only [ta_lt, ta_le, ta_eq, tb_lt, tb_le, tb_eq, tw, tnI, tn32 6 (by decide), tnj 6 (by decide), tn32 2 (by decide), tnj 2 (by decide), tn32 1 (by decide), tnj 1 (by decide), tl32 0 (by decide), tl64 0 (by decide)] at hk_sl); (try simp only [lg_cmp_lt, lg_cmp_le, lg_cmp_gt, lg_cmp_ge, lg_cmp_eq] at hc2); (try simp (disch := omega) only [ta_lt, ta_le, ta_eq, tb_lt, tb_le, tb_eq, tw, tnI, tn32 6 (by decide), tnj 6 (by decide), tn32 2 (by decide), tnj 2 (by decide), tn32 1 (by decide), tnj 1 (by decide), tl32 0 (by decide), tl64 0 (by decide)] at hc2); (try simp (disch := omega) only [tnI, tn32 6 (by decide), tnj 6 (by decide), tn32 2 (by decide), tnj 2 (by decide), tn32 1 (by decide), tnj 1 (by decide), tl32 0 (by decide), tl64 0 (by decide)]); (repeat' split) <;> first | rfl | omega | (apply Int32.toInt_inj.mp; simp (disch := omega) only [tnI, tn32 6 (by decide), tnj 6 (by decide), tn32 2 (by decide), tnj 2 (by decide), tn32 1 (by decide), tnj 1 (by decide), tl32 0 (by decide), tl64 0 (by decide)]; omega))) (dkP dF_172 DX11_paste (i := 11) rfl rfl)
  · skip
    refine lv_if_eq (tgt := 22) hx hb (dkS dF_153 DX11_paste (i := 4) rfl rfl rfl) (by decide) (fun _ => ?_) (fun h => absurd h (by decide))
    refine lv_bipush (v := (-2)) hx hb (dks dF_16 DX11_paste (i := 10) rfl rfl rfl) (by decide) ?_
    exact z_iret C0 hr hlk hw (by first | rfl | ((try simp only [lg_cmp_lt, lg_cmp_le, lg_cmp_gt, lg_cmp_ge, lg_cmp_eq] at hc1); (try simp (disch := omega) only [ta_lt, ta_le, ta_eq, tb_lt, tb_le, tb_eq, tw, tnI, tn32 6 (by decide), tnj 6 (by decide), tn32 2 (by decide), tnj 2 (by decide), tn32 1 (by decide), tnj 1 (by decide), tl32 0 (by decide), tl64 0 (by decide)] at hc1); (try simp (disch := omega) only [tnI, tn32 6 (by decide), tnj 6 (by decide), tn32 2 (by decide), tnj 2 (by decide), tn32 1 (by decide), tnj 1 (by decide), tl32 0 (by decide), tl64 0 (by decide)]); (repeat' split) <;> first | rfl | omega | (apply Int32.toInt_inj.mp; simp (disch := omega) only [tnI, tn32 6 (by decide), tnj 6 (by decide), tn32 2 (by decide), tnj 2 (by decide), tn32 1 (by decide), tnj 1 (by decide), tl32 0 (by decide), tl64 0 (by decide)]; omega))) (dkP dF_172 DX11_paste (i := 11) rfl rfl)
set_option maxRecDepth 20000 in
theorem shc_226 : shC[226]? = some (1, 4, []) := by rfl
set_option maxRecDepth 20000 in
theorem shc_224 : shC[224]? = some (4, 240, []) := by rfl
set_option maxRecDepth 100000 in
set_option maxHeartbeats 4000000 in
theorem c_X7_lay (l : Launch) (G : va_G) (kc : Nat → ClassId) (ad : Nat → Nat) (σ : Sg)  (s0 : Nat) (w : Int32) (nn : Int32) (hs : s0 < 4) : MV l G kc yX7_lay cX7_lay 5 0 0 [.ref (ad 223), .int (nI s0), .int w, .int nn] shC ad σ (fun σ1 => True) := by
  intro sz
  refine z_body (y := yX7_lay) (n := 5) (av := [.ref (ad 223), .int (nI s0), .int w, .int nn]) (Qc := fun A => va_Qv (fun σ1 => True) (PoC G kc shC ad A) A) (plainFor_of_name (by decide)) (Nat.le_of_ble_eq_true rfl) (fun pr e s m below meth c A C0 hr hlk hnm hw ls hl => ?_) sz
  have hx := C0.1
  have hb := C0.2.1
  have hown := C0.2.2.2.1
  have hts := C0.2.2.2.2.1
  have hl : lv_has ls 5 [(0, .ref (ad 223)), (1, .int (nI s0)), (2, .int w), (3, .int nn)] := hl
  refine lv_aload_n hx hb (dkP dF_42 DX7_lay (i := 0) rfl rfl) rfl (lv_at hl 0 rfl) ?_
  refine z_gr C0 hw 223 1 225 (fk_of shc_223 rfl) fl_X7_15 (dk2 dF_180 DX7_lay (i := 1) rfl rfl rfl) ?_
  refine lv_iload_n hx hb (dkP dF_27 DX7_lay (i := 2) rfl rfl) rfl (lv_at hl 1 rfl) ?_
  refine lv_iload_n hx hb (dkP dF_29 DX7_lay (i := 3) rfl rfl) rfl (lv_at hl 3 rfl) ?_
  refine z_iastN (n := 4) C0 hw 225 s0 (ak_of shc_225) (by omega) (by decide) (dkP dF_79 DX7_lay (i := 4) rfl rfl) (fun H locs hw => ?_)
  refine lv_aload_n hx hb (dkP dF_42 DX7_lay (i := 5) rfl rfl) rfl (lv_at hl 0 rfl) ?_
  refine z_gr C0 hw 223 2 226 (fk_of shc_223 rfl) fl_X7_19 (dk2 dF_180 DX7_lay (i := 6) rfl rfl rfl) ?_
  refine lv_iload_n hx hb (dkP dF_27 DX7_lay (i := 7) rfl rfl) rfl (lv_at hl 1 rfl) ?_
  refine lv_iload_n hx hb (dkP dF_28 DX7_lay (i := 8) rfl rfl) rfl (lv_at hl 2 rfl) ?_
  refine z_iastN (n := 4) C0 hw 226 s0 (ak_of shc_226) (by omega) (by decide) (dkP dF_79 DX7_lay (i := 9) rfl rfl) (fun H locs hw => ?_)
  refine lv_iconst (v := 0) hx hb (dkP dF_3 DX7_lay (i := 10) rfl rfl) (by decide) ?_
  refine lv_istore (lv' := [(4, .int 0), (0, .ref (ad 223)), (1, .int (nI s0)), (2, .int w), (3, .int nn)]) hx hb (dk1 dF_54 DX7_lay (i := 11) rfl rfl rfl) hl (by decide) rfl (fun ls hl => ?_)
  have lp1 : ∀ (n : Nat) (i : Nat) (τ : Sg) (H : Heap) (locs : List Loc) (ls : Array Slot), 60 - i < n → (i ≤ 60) → St G kc A s.heap shC ad τ H locs → lv_has ls 5 [(4, .int (nI i)), (0, .ref (ad 223)), (1, .int (nI s0)), (2, .int w), (3, .int nn)] → W pr l e { frames := 0, cells := 0, slots := 0, locals := 0 } s m ([.ref (ad 223), .int (nI s0), .int w, .int nn] : List Value).toArray below meth c H locs 0 0 (MQ below (va_Qv (fun σ1 => True) (PoC G kc shC ad A) A) ([.ref (ad 223), .int (nI s0), .int w, .int nn] : List Value).toArray s 0 0 A) (F0 m 17 ls []) := by
    intro n
    induction n with
    | zero => intro i τ H locs ls hmu; exact absurd hmu (Nat.not_lt_zero _)
    | succ n ih1 =>
      intro i τ H locs ls hmu hi hw hl
      refine lv_iload hx hb (dk1 dF_21 DX7_lay (i := 12) rfl rfl rfl) (lv_at hl 0 rfl) ?_
      refine lv_bipush (v := 60) hx hb (dks dF_16 DX7_lay (i := 13) rfl rfl rfl) (by decide) ?_
      refine lv_icmp_ge (tgt := 43) hx hb (dkS dF_162 DX7_lay (i := 14) rfl rfl rfl) (by decide) (fun c2 => ?_) (fun c2 => ?_)
      · simp (disch := omega) only [ta_lt, ta_le, ta_eq, tnI, tl32 60 (by decide)] at c2
        exact z_vret C0 hr hlk hw trivial (dkP dF_177 DX7_lay (i := 26) rfl rfl)
      · simp (disch := omega) only [ta_lt, ta_le, ta_eq, tnI, tl32 60 (by decide)] at c2
        refine lv_aload_n hx hb (dkP dF_42 DX7_lay (i := 15) rfl rfl) rfl (lv_at hl 1 rfl) ?_
        refine z_gr C0 hw 223 0 224 (fk_of shc_223 rfl) fl_X7_11 (dk2 dF_180 DX7_lay (i := 16) rfl rfl rfl) ?_
        refine lv_iload_n hx hb (dkP dF_27 DX7_lay (i := 17) rfl rfl) rfl (lv_at hl 2 rfl) ?_
        refine lv_bipush (v := 60) hx hb (dks dF_16 DX7_lay (i := 18) rfl rfl rfl) (by decide) ?_
        refine lv_imul hx hb (dkP dF_104 DX7_lay (i := 19) rfl rfl) ?_
        refine z_top (y := nI (s0 * 60)) (by simp only [fa_lit, nI_add, pk_mul]) ?_
        refine lv_iload hx hb (dk1 dF_21 DX7_lay (i := 20) rfl rfl rfl) (lv_at hl 0 rfl) ?_
        refine lv_iadd hx hb (dkP dF_96 DX7_lay (i := 21) rfl rfl) ?_
        refine z_top (y := nI ((s0 * 60) + i)) (by simp only [fa_lit, nI_add, pk_mul]) ?_
        refine lv_lconst (v := 0) hx hb (dkP dF_9 DX7_lay (i := 22) rfl rfl) (by decide) ?_
        refine z_lastN (n := 240) C0 hw 224 ((s0 * 60) + i) (ak_of shc_224) (by omega) (by decide) (dkP dF_80 DX7_lay (i := 23) rfl rfl) (fun H locs hw => ?_)
        refine lv_iinc (v := nI (i + 1)) (lv' := [(4, .int (nI (i + 1))), (0, .ref (ad 223)), (1, .int (nI s0)), (2, .int w), (3, .int nn)]) hx hb (dkI DX7_lay (i := 24) rfl rfl rfl rfl) hl (k := 0) rfl (nI_1 _) (by decide) rfl (fun ls hl => ?_)
        refine lv_goto (tgt := 17) hx hb (dkS dF_167 DX7_lay (i := 25) rfl rfl rfl) (by decide) ?_
        exact ih1 (i + 1) (sL τ 224 ((s0 * 60) + i) 0) _ _ _ (by omega) (by omega) hw (lv_sub hl [0, 1, 2, 3, 4] rfl)
  exact lp1 _ 0 (sI (sI σ 225 s0 nn) 226 s0 w) _ _ _ (Nat.lt_succ_self _) (by omega) hw (lv_sub hl [0, 1, 2, 3, 4] rfl)
set_option maxRecDepth 100000 in
set_option maxHeartbeats 4000000 in
theorem c_X11_sheet (l : Launch) (G : va_G) (kc : Nat → ClassId) (ad : Nat → Nat)  (sl : Int32) (w : Int32) (n : Int32)  : MI l G kc yX11_sheet cX11_sheet 4 (some .int) 1 24 [.ref (ad 0), .int sl, .int w, .int n] shC ad sC0 (fun r σ1 => r = if 0 ≤ sl.toInt ∧ sl.toInt ≤ 3 ∧ 0 ≤ w.toInt ∧ w.toInt ≤ 3 ∧ n.toInt ≤ 60 then (if n.toInt < 0 then -3 else 0) else -2) := by
  intro sz
  refine z_body (y := yX11_sheet) (n := 4) (av := [.ref (ad 0), .int sl, .int w, .int n]) (Qc := fun A => va_Qi (fun r σ1 => r = if 0 ≤ sl.toInt ∧ sl.toInt ≤ 3 ∧ 0 ≤ w.toInt ∧ w.toInt ≤ 3 ∧ n.toInt ≤ 60 then (if n.toInt < 0 then -3 else 0) else -2) (PoC G kc shC ad A) A) (plainFor_of_name (by decide)) (Nat.le_of_ble_eq_true rfl) (fun pr e s m below meth c A C0 hr hlk hnm hw ls hl => ?_) sz
  have hx := C0.1
  have hb := C0.2.1
  have hown := C0.2.2.2.1
  have hts := C0.2.2.2.2.1
  have hl : lv_has ls 4 [(0, .ref (ad 0)), (1, .int sl), (2, .int w), (3, .int n)] := hl
  refine lv_aload_n hx hb (dkP dF_42 DX11_sheet (i := 0) rfl rfl) rfl (lv_at hl 0 rfl) ?_
  refine z_gr C0 hw 0 7 223 (fk_of shc_0 rfl) fl_X11_51 (dk2 dF_180 DX11_sheet (i := 1) rfl rfl rfl) ?_
  refine lv_iload_n hx hb (dkP dF_27 DX11_sheet (i := 2) rfl rfl) rfl (lv_at hl 1 rfl) ?_
  refine zk_I hw (zr_V (As := [.int sl]) (rest := []) C0 (c_X7_isSlot l G kc ad sl  _) cv_X7_isSlot lk_X11_228 (zp_V C0 hw 223 shc_223 rfl rfl) rfl hl.1 rfl ⟨by decide, by decide⟩ (Nat.le_of_ble_eq_true rfl) (dk2 dF_182 DX11_sheet (i := 3) rfl rfl rfl) ⟨Nat.le_refl _, Nat.le_refl _⟩) (fun r1 s1 H locs hp hw => ?_)
  obtain ⟨hq1, hs1⟩ := hp
  (rw [hs1] at hw; clear hs1)
  rcases hq1 with ⟨rfl, hc1⟩ | ⟨rfl, hc1⟩
  · skip
    obtain ⟨k_sl, hk_sl, rfl⟩ := to_nat (x := sl) (n := 4) (by (try simp only [lg_cmp_lt, lg_cmp_le, lg_cmp_gt, lg_cmp_ge, lg_cmp_eq] at hc1); (try simp (disch := omega) only [ta_lt, ta_le, ta_eq, tb_lt, tb_le, tb_eq, tw, tnI, tn32 1 (by decide), tnj 1 (by decide), tl32 0 (by decide), tl64 0 (by decide)] at hc1); (try simp (disch := omega) only [ta_lt, ta_le, ta_eq, tb_lt, tb_le, tb_eq, tw, tnI, tn32 1 (by decide), tnj 1 (by decide), tl32 0 (by decide), tl64 0 (by decide)]); omega)
    refine lv_if_eq (tgt := 26) hx hb (dkS dF_153 DX11_sheet (i := 4) rfl rfl rfl) (by decide) (fun h => absurd h (by decide)) (fun _ => ?_)
    refine lv_iload_n hx hb (dkP dF_28 DX11_sheet (i := 5) rfl rfl) rfl (lv_at hl 2 rfl) ?_
    refine lv_if_lt (tgt := 26) hx hb (dkS dF_155 DX11_sheet (i := 6) rfl rfl rfl) (by decide) (fun c2 => ?_) (fun c2 => ?_)
    · skip
      refine lv_bipush (v := (-2)) hx hb (dks dF_16 DX11_sheet (i := 13) rfl rfl rfl) (by decide) ?_
      exact z_iret C0 hr hlk hw (by first | rfl | ((try simp only [lg_cmp_lt, lg_cmp_le, lg_cmp_gt, lg_cmp_ge, lg_cmp_eq] at hc1); (try simp (disch := omega) only [ta_lt, ta_le, ta_eq, tb_lt, tb_le, tb_eq, tw, tnI, tn32 2 (by decide), tnj 2 (by decide), tn32 1 (by decide), tnj 1 (by decide), tl32 0 (by decide), tl64 0 (by decide)] at hc1); (try simp only [lg_cmp_lt, lg_cmp_le, lg_cmp_gt, lg_cmp_ge, lg_cmp_eq] at hk_sl); (try simp (disch := omega) only [ta_lt, ta_le, ta_eq, tb_lt, tb_le, tb_eq, tw, tnI, tn32 2 (by decide), tnj 2 (by decide), tn32 1 (by decide), tnj 1 (by decide), tl32 0 (by decide), tl64 0 (by decide)] at hk_sl); (try simp only [lg_cmp_lt, lg_cmp_le, lg_cmp_gt, lg_cmp_ge, lg_cmp_eq] at c2); (try simp (disch := omega) only [ta_lt, ta_le, ta_eq, tb_lt, tb_le, tb_eq, tw, tnI, tn32 2 (by decide), tnj 2 (by decide), tn32 1 (by decide), tnj 1 (by decide), tl32 0 (by decide), tl64 0 (by decide)] at c2); (try simp (disch := omega) only [tnI, tn32 2 (by decide), tnj 2 (by decide), tn32 1 (by decide), tnj 1 (by decide), tl32 0 (by decide), tl64 0 (by decide)]); (repeat' split) <;> first | rfl | omega | (apply Int32.toInt_inj.mp; simp (disch := omega) only [tnI, tn32 2 (by decide), tnj 2 (by decide), tn32 1 (by decide), tnj 1 (by decide), tl32 0 (by decide), tl64 0 (by decide)]; omega))) (dkP dF_172 DX11_sheet (i := 14) rfl rfl)
    · skip
      refine lv_iload_n hx hb (dkP dF_28 DX11_sheet (i := 7) rfl rfl) rfl (lv_at hl 2 rfl) ?_
      refine lv_iconst (v := 3) hx hb (dkP dF_6 DX11_sheet (i := 8) rfl rfl) (by decide) ?_
      refine lv_icmp_gt (tgt := 26) hx hb (dkS dF_163 DX11_sheet (i := 9) rfl rfl rfl) (by decide) (fun c3 => ?_) (fun c3 => ?_)
      · skip
        refine lv_bipush (v := (-2)) hx hb (dks dF_16 DX11_sheet (i := 13) rfl rfl rfl) (by decide) ?_
        exact z_iret C0 hr hlk hw (by first | rfl | ((try simp only [lg_cmp_lt, lg_cmp_le, lg_cmp_gt, lg_cmp_ge, lg_cmp_eq] at hc1); (try simp (disch := omega) only [ta_lt, ta_le, ta_eq, tb_lt, tb_le, tb_eq, tw, tnI, tn32 2 (by decide), tnj 2 (by decide), tn32 1 (by decide), tnj 1 (by decide), tl32 0 (by decide), tl64 0 (by decide), tl32 3 (by decide), tl64 3 (by decide)] at hc1); (try simp only [lg_cmp_lt, lg_cmp_le, lg_cmp_gt, lg_cmp_ge, lg_cmp_eq] at hk_sl); (try simp (disch := omega) only [ta_lt, ta_le, ta_eq, tb_lt, tb_le, tb_eq, tw, tnI, tn32 2 (by decide), tnj 2 (by decide), tn32 1 (by decide), tnj 1 (by decide), tl32 0 (by decide), tl64 0 (by decide), tl32 3 (by decide), tl64 3 (by decide)] at hk_sl); (try simp only [lg_cmp_lt, lg_cmp_le, lg_cmp_gt, lg_cmp_ge, lg_cmp_eq] at c2); (try simp (disch := omega) only [ta_lt, ta_le, ta_eq, tb_lt, tb_le, tb_eq, tw, tnI, tn32 2 (by decide), tnj 2 (by decide), tn32 1 (by decide), tnj 1 (by decide), tl32 0 (by decide), tl64 0 (by decide), tl32 3 (by decide), tl64 3 (by decide)] at c2); (try simp only [lg_cmp_lt, lg_cmp_le, lg_cmp_gt, lg_cmp_ge, lg_cmp_eq] at c3); (try simp (disch := omega) only [ta_lt, ta_le, ta_eq, tb_lt, tb_le, tb_eq, tw, tnI, tn32 2 (by decide), tnj 2 (by decide), tn32 1 (by decide), tnj 1 (by decide), tl32 0 (by decide), tl64 0 (by decide), tl32 3 (by decide), tl64 3 (by decide)] at c3); (try simp (disch := omega) only [tnI, tn32 2 (by decide), tnj 2 (by decide), tn32 1 (by decide), tnj 1 (by decide), tl32 0 (by decide), tl64 0 (by decide), tl32 3 (by decide), tl64 3 (by decide)]); (repeat' split) <;> first | rfl | omega | (apply Int32.toInt_inj.mp; simp (disch := omega) only [tnI, tn32 2 (by decide), tnj 2 (by decide), tn32 1 (by decide), tnj 1 (by decide), tl32 0 (by decide), tl64 0 (by decide), tl32 3 (by decide), tl64 3 (by decide)]; omega))) (dkP dF_172 DX11_sheet (i := 14) rfl rfl)
      · skip
        refine lv_iload_n hx hb (dkP dF_29 DX11_sheet (i := 10) rfl rfl) rfl (lv_at hl 3 rfl) ?_
        refine lv_bipush (v := 60) hx hb (dks dF_16 DX11_sheet (i := 11) rfl rfl rfl) (by decide) ?_
        refine lv_icmp_le (tgt := 29) hx hb (dkS dF_164 DX11_sheet (i := 12) rfl rfl rfl) (by decide) (fun c4 => ?_) (fun c4 => ?_)
        · skip
          refine lv_iload_n hx hb (dkP dF_29 DX11_sheet (i := 15) rfl rfl) rfl (lv_at hl 3 rfl) ?_
          refine lv_if_ge (tgt := 36) hx hb (dkS dF_156 DX11_sheet (i := 16) rfl rfl rfl) (by decide) (fun c5 => ?_) (fun c5 => ?_)
          · skip
            refine lv_aload_n hx hb (dkP dF_42 DX11_sheet (i := 19) rfl rfl) rfl (lv_at hl 0 rfl) ?_
            refine z_gr C0 hw 0 7 223 (fk_of shc_0 rfl) fl_X11_51 (dk2 dF_180 DX11_sheet (i := 20) rfl rfl rfl) ?_
            refine lv_iload_n hx hb (dkP dF_27 DX11_sheet (i := 21) rfl rfl) rfl (lv_at hl 1 rfl) ?_
            refine lv_iload_n hx hb (dkP dF_28 DX11_sheet (i := 22) rfl rfl) rfl (lv_at hl 2 rfl) ?_
            refine lv_iload_n hx hb (dkP dF_29 DX11_sheet (i := 23) rfl rfl) rfl (lv_at hl 3 rfl) ?_
            refine zk_V hw (zr_V (As := [.int (nI k_sl), .int w, .int n]) (rest := []) C0 (c_X7_lay l G kc ad sC0 k_sl w n (by first | omega | assumption | decide | rfl) _) cv_X7_lay lk_X11_343 (zp_V C0 hw 223 shc_223 rfl rfl) rfl hl.1 rfl ⟨by decide, by decide⟩ (Nat.le_of_ble_eq_true rfl) (dk2 dF_182 DX11_sheet (i := 24) rfl rfl rfl) ⟨Nat.le_refl _, Nat.le_refl _⟩) (fun s6 H locs hp hw => ?_)
            refine lv_iconst (v := 0) hx hb (dkP dF_3 DX11_sheet (i := 25) rfl rfl) (by decide) ?_
            exact z_iret C0 hr hlk hw (by first | rfl | ((try simp only [lg_cmp_lt, lg_cmp_le, lg_cmp_gt, lg_cmp_ge, lg_cmp_eq] at hc1); (try simp (disch := omega) only [ta_lt, ta_le, ta_eq, tb_lt, tb_le, tb_eq, tw, tnI, tn32 2 (by decide), tnj 2 (by decide), tn32 1 (by decide), tnj 1 (by decide), tl32 0 (by decide), tl64 0 (by decide), tl32 3 (by decide), tl64 3 (by decide), tl32 60 (by decide), tl64 60 (by decide)] at hc1); (try simp only [lg_cmp_lt, lg_cmp_le, lg_cmp_gt, lg_cmp_ge, lg_cmp_eq] at hk_sl); (try simp (disch := omega) only [ta_lt, ta_le, ta_eq, tb_lt, tb_le, tb_eq, tw, tnI, tn32 2 (by decide), tnj 2 (by decide), tn32 1 (by decide), tnj 1 (by decide), tl32 0 (by decide), tl64 0 (by decide), tl32 3 (by decide), tl64 3 (by decide), tl32 60 (by decide), tl64 60 (by decide)] at hk_sl); (try simp only [lg_cmp_lt, lg_cmp_le, lg_cmp_gt, lg_cmp_ge, lg_cmp_eq] at c2); (try simp (disch := omega) only [ta_lt, ta_le, ta_eq, tb_lt, tb_le, tb_eq, tw, tnI, tn32 2 (by decide), tnj 2 (by decide), tn32 1 (by decide), tnj 1 (by decide), tl32 0 (by decide), tl64 0 (by decide), tl32 3 (by decide), tl64 3 (by decide), tl32 60 (by decide), tl64 60 (by decide)] at c2); (try simp only [lg_cmp_lt, lg_cmp_le, lg_cmp_gt, lg_cmp_ge, lg_cmp_eq] at c3); (try simp (disch := omega) only [ta_lt, ta_le, ta_eq, tb_lt, tb_le, tb_eq, tw, tnI, tn32 2 (by decide), tnj 2 (by decide), tn32 1 (by decide), tnj 1 (by decide), tl32 0 (by decide), tl64 0 (by decide), tl32 3 (by decide), tl64 3 (by decide), tl32 60 (by decide), tl64 60 (by decide)] at c3); (try simp only [lg_cmp_lt, lg_cmp_le, lg_cmp_gt, lg_cmp_ge, lg_cmp_eq] at c4); (try simp (disch := omega) only [ta_lt, ta_le, ta_eq, tb_lt, tb_le, tb_eq, tw, tnI, tn32 2 (by decide), tnj 2 (by decide), tn32 1 (by decide), tnj 1 (by decide), tl32 0 (by decide), tl64 0 (by decide), tl32 3 (by decide), tl64 3 (by decide), tl32 60 (by decide), tl64 60 (by decide)] at c4); (try simp only [lg_cmp_lt, lg_cmp_le, lg_cmp_gt, lg_cmp_ge, lg_cmp_eq] at c5); (try simp (disch := omega) only [ta_lt, ta_le, ta_eq, tb_lt, tb_le, tb_eq, tw, tnI, tn32 2 (by decide), tnj 2 (by decide), tn32 1 (by decide), tnj 1 (by decide), tl32 0 (by decide), tl64 0 (by decide), tl32 3 (by decide), tl64 3 (by decide), tl32 60 (by decide), tl64 60 (by decide)] at c5); (try simp (disch := omega) only [tnI, tn32 2 (by decide), tnj 2 (by decide), tn32 1 (by decide), tnj 1 (by decide), tl32 0 (by decide), tl64 0 (by decide), tl32 3 (by decide), tl64 3 (by decide), tl32 60 (by decide), tl64 60 (by decide)]); (repeat' split) <;> first | rfl | omega | (apply Int32.toInt_inj.mp; simp (disch := omega) only [tnI, tn32 2 (by decide), tnj 2 (by decide), tn32 1 (by decide), tnj 1 (by decide), tl32 0 (by decide), tl64 0 (by decide), tl32 3 (by decide), tl64 3 (by decide), tl32 60 (by decide), tl64 60 (by decide)]; omega))) (dkP dF_172 DX11_sheet (i := 26) rfl rfl)
          · skip
            refine lv_bipush (v := (-3)) hx hb (dks dF_16 DX11_sheet (i := 17) rfl rfl rfl) (by decide) ?_
            exact z_iret C0 hr hlk hw (by first | rfl | ((try simp only [lg_cmp_lt, lg_cmp_le, lg_cmp_gt, lg_cmp_ge, lg_cmp_eq] at hc1); (try simp (disch := omega) only [ta_lt, ta_le, ta_eq, tb_lt, tb_le, tb_eq, tw, tnI, tn32 3 (by decide), tnj 3 (by decide), tn32 2 (by decide), tnj 2 (by decide), tn32 1 (by decide), tnj 1 (by decide), tl32 0 (by decide), tl64 0 (by decide), tl32 3 (by decide), tl64 3 (by decide), tl32 60 (by decide), tl64 60 (by decide)] at hc1); (try simp only [lg_cmp_lt, lg_cmp_le, lg_cmp_gt, lg_cmp_ge, lg_cmp_eq] at hk_sl); (try simp (disch := omega) only [ta_lt, ta_le, ta_eq, tb_lt, tb_le, tb_eq, tw, tnI, tn32 3 (by decide), tnj 3 (by decide), tn32 2 (by decide), tnj 2 (by decide), tn32 1 (by decide), tnj 1 (by decide), tl32 0 (by decide), tl64 0 (by decide), tl32 3 (by decide), tl64 3 (by decide), tl32 60 (by decide), tl64 60 (by decide)] at hk_sl); (try simp only [lg_cmp_lt, lg_cmp_le, lg_cmp_gt, lg_cmp_ge, lg_cmp_eq] at c2); (try simp (disch := omega) only [ta_lt, ta_le, ta_eq, tb_lt, tb_le, tb_eq, tw, tnI, tn32 3 (by decide), tnj 3 (by decide), tn32 2 (by decide), tnj 2 (by decide), tn32 1 (by decide), tnj 1 (by decide), tl32 0 (by decide), tl64 0 (by decide), tl32 3 (by decide), tl64 3 (by decide), tl32 60 (by decide), tl64 60 (by decide)] at c2); (try simp only [lg_cmp_lt, lg_cmp_le, lg_cmp_gt, lg_cmp_ge, lg_cmp_eq] at c3); (try simp (disch := omega) only [ta_lt, ta_le, ta_eq, tb_lt, tb_le, tb_eq, tw, tnI, tn32 3 (by decide), tnj 3 (by decide), tn32 2 (by decide), tnj 2 (by decide), tn32 1 (by decide), tnj 1 (by decide), tl32 0 (by decide), tl64 0 (by decide), tl32 3 (by decide), tl64 3 (by decide), tl32 60 (by decide), tl64 60 (by decide)] at c3); (try simp only [lg_cmp_lt, lg_cmp_le, lg_cmp_gt, lg_cmp_ge, lg_cmp_eq] at c4); (try simp (disch := omega) only [ta_lt, ta_le, ta_eq, tb_lt, tb_le, tb_eq, tw, tnI, tn32 3 (by decide), tnj 3 (by decide), tn32 2 (by decide), tnj 2 (by decide), tn32 1 (by decide), tnj 1 (by decide), tl32 0 (by decide), tl64 0 (by decide), tl32 3 (by decide), tl64 3 (by decide), tl32 60 (by decide), tl64 60 (by decide)] at c4); (try simp only [lg_cmp_lt, lg_cmp_le, lg_cmp_gt, lg_cmp_ge, lg_cmp_eq] at c5); (try simp (disch := omega) only [ta_lt, ta_le, ta_eq, tb_lt, tb_le, tb_eq, tw, tnI, tn32 3 (by decide), tnj 3 (by decide), tn32 2 (by decide), tnj 2 (by decide), tn32 1 (by decide), tnj 1 (by decide), tl32 0 (by decide), tl64 0 (by decide), tl32 3 (by decide), tl64 3 (by decide), tl32 60 (by decide), tl64 60 (by decide)] at c5); (try simp (disch := omega) only [tnI, tn32 3 (by decide), tnj 3 (by decide), tn32 2 (by decide), tnj 2 (by decide), tn32 1 (by decide), tnj 1 (by decide), tl32 0 (by decide), tl64 0 (by decide), tl32 3 (by decide), tl64 3 (by decide), tl32 60 (by decide), tl64 60 (by decide)]); (repeat' split) <;> first | rfl | omega | (apply Int32.toInt_inj.mp; simp (disch := omega) only [tnI, tn32 3 (by decide), tnj 3 (by decide), tn32 2 (by decide), tnj 2 (by decide), tn32 1 (by decide), tnj 1 (by decide), tl32 0 (by decide), tl64 0 (by decide), tl32 3 (by decide), tl64 3 (by decide), tl32 60 (by decide), tl64 60 (by decide)]; omega))) (dkP dF_172 DX11_sheet (i := 18) rfl rfl)
        · skip
          refine lv_bipush (v := (-2)) hx hb (dks dF_16 DX11_sheet (i := 13) rfl rfl rfl) (by decide) ?_
          exact z_iret C0 hr hlk hw (by first | rfl | ((try simp only [lg_cmp_lt, lg_cmp_le, lg_cmp_gt, lg_cmp_ge, lg_cmp_eq] at hc1); (try simp (disch := omega) only [ta_lt, ta_le, ta_eq, tb_lt, tb_le, tb_eq, tw, tnI, tn32 3 (by decide), tnj 3 (by decide), tn32 2 (by decide), tnj 2 (by decide), tn32 1 (by decide), tnj 1 (by decide), tl32 0 (by decide), tl64 0 (by decide), tl32 3 (by decide), tl64 3 (by decide), tl32 60 (by decide), tl64 60 (by decide)] at hc1); (try simp only [lg_cmp_lt, lg_cmp_le, lg_cmp_gt, lg_cmp_ge, lg_cmp_eq] at hk_sl); (try simp (disch := omega) only [ta_lt, ta_le, ta_eq, tb_lt, tb_le, tb_eq, tw, tnI, tn32 3 (by decide), tnj 3 (by decide), tn32 2 (by decide), tnj 2 (by decide), tn32 1 (by decide), tnj 1 (by decide), tl32 0 (by decide), tl64 0 (by decide), tl32 3 (by decide), tl64 3 (by decide), tl32 60 (by decide), tl64 60 (by decide)] at hk_sl); (try simp only [lg_cmp_lt, lg_cmp_le, lg_cmp_gt, lg_cmp_ge, lg_cmp_eq] at c2); (try simp (disch := omega) only [ta_lt, ta_le, ta_eq, tb_lt, tb_le, tb_eq, tw, tnI, tn32 3 (by decide), tnj 3 (by decide), tn32 2 (by decide), tnj 2 (by decide), tn32 1 (by decide), tnj 1 (by decide), tl32 0 (by decide), tl64 0 (by decide), tl32 3 (by decide), tl64 3 (by decide), tl32 60 (by decide), tl64 60 (by decide)] at c2); (try simp only [lg_cmp_lt, lg_cmp_le, lg_cmp_gt, lg_cmp_ge, lg_cmp_eq] at c3); (try simp (disch := omega) only [ta_lt, ta_le, ta_eq, tb_lt, tb_le, tb_eq, tw, tnI, tn32 3 (by decide), tnj 3 (by decide), tn32 2 (by decide), tnj 2 (by decide), tn32 1 (by decide), tnj 1 (by decide), tl32 0 (by decide), tl64 0 (by decide), tl32 3 (by decide), tl64 3 (by decide), tl32 60 (by decide), tl64 60 (by decide)] at c3); (try simp only [lg_cmp_lt, lg_cmp_le, lg_cmp_gt, lg_cmp_ge, lg_cmp_eq] at c4); (try simp (disch := omega) only [ta_lt, ta_le, ta_eq, tb_lt, tb_le, tb_eq, tw, tnI, tn32 3 (by decide), tnj 3 (by decide), tn32 2 (by decide), tnj 2 (by decide), tn32 1 (by decide), tnj 1 (by decide), tl32 0 (by decide), tl64 0 (by decide), tl32 3 (by decide), tl64 3 (by decide), tl32 60 (by decide), tl64 60 (by decide)] at c4); (try simp (disch := omega) only [tnI, tn32 3 (by decide), tnj 3 (by decide), tn32 2 (by decide), tnj 2 (by decide), tn32 1 (by decide), tnj 1 (by decide), tl32 0 (by decide), tl64 0 (by decide), tl32 3 (by decide), tl64 3 (by decide), tl32 60 (by decide), tl64 60 (by decide)]); (repeat' split) <;> first | rfl | omega | (apply Int32.toInt_inj.mp; simp (disch := omega) only [tnI, tn32 3 (by decide), tnj 3 (by decide), tn32 2 (by decide), tnj 2 (by decide), tn32 1 (by decide), tnj 1 (by decide), tl32 0 (by decide), tl64 0 (by decide), tl32 3 (by decide), tl64 3 (by decide), tl32 60 (by decide), tl64 60 (by decide)]; omega))) (dkP dF_172 DX11_sheet (i := 14) rfl rfl)
  · skip
    refine lv_if_eq (tgt := 26) hx hb (dkS dF_153 DX11_sheet (i := 4) rfl rfl rfl) (by decide) (fun _ => ?_) (fun h => absurd h (by decide))
    refine lv_bipush (v := (-2)) hx hb (dks dF_16 DX11_sheet (i := 13) rfl rfl rfl) (by decide) ?_
    exact z_iret C0 hr hlk hw (by first | rfl | ((try simp only [lg_cmp_lt, lg_cmp_le, lg_cmp_gt, lg_cmp_ge, lg_cmp_eq] at hc1); (try simp (disch := omega) only [ta_lt, ta_le, ta_eq, tb_lt, tb_le, tb_eq, tw, tnI, tn32 3 (by decide), tnj 3 (by decide), tn32 2 (by decide), tnj 2 (by decide), tn32 1 (by decide), tnj 1 (by decide), tl32 0 (by decide), tl64 0 (by decide), tl32 3 (by decide), tl64 3 (by decide), tl32 60 (by decide), tl64 60 (by decide)] at hc1); (try simp (disch := omega) only [tnI, tn32 3 (by decide), tnj 3 (by decide), tn32 2 (by decide), tnj 2 (by decide), tn32 1 (by decide), tnj 1 (by decide), tl32 0 (by decide), tl64 0 (by decide), tl32 3 (by decide), tl64 3 (by decide), tl32 60 (by decide), tl64 60 (by decide)]); (repeat' split) <;> first | rfl | omega | (apply Int32.toInt_inj.mp; simp (disch := omega) only [tnI, tn32 3 (by decide), tnj 3 (by decide), tn32 2 (by decide), tnj 2 (by decide), tn32 1 (by decide), tnj 1 (by decide), tl32 0 (by decide), tl64 0 (by decide), tl32 3 (by decide), tl64 3 (by decide), tl32 60 (by decide), tl64 60 (by decide)]; omega))) (dkP dF_172 DX11_sheet (i := 14) rfl rfl)
set_option maxRecDepth 20000 in
theorem shc_185 : shC[185]? = some (3, 3, []) := by rfl
set_option maxRecDepth 20000 in
theorem s0a_185 : ∀ j, sC0.1 185 j = 0 := fun _ => rfl
set_option maxRecDepth 100000 in
set_option maxHeartbeats 4000000 in
theorem c_X11_restore (l : Launch) (G : va_G) (kc : Nat → ClassId) (ad : Nat → Nat)  (k : Int32)  : MI l G kc yX11_restore cX11_restore 2 (some .int) 0 0 [.ref (ad 0), .int k] shC ad sC0 (fun r σ1 => r = if 0 ≤ k.toInt ∧ k.toInt ≤ 2 then -6 else -2) := by
  intro sz
  refine z_body (y := yX11_restore) (n := 2) (av := [.ref (ad 0), .int k]) (Qc := fun A => va_Qi (fun r σ1 => r = if 0 ≤ k.toInt ∧ k.toInt ≤ 2 then -6 else -2) (PoC G kc shC ad A) A) (plainFor_of_name (by decide)) (Nat.le_of_ble_eq_true rfl) (fun pr e s m below meth c A C0 hr hlk hnm hw ls hl => ?_) sz
  have hx := C0.1
  have hb := C0.2.1
  have hown := C0.2.2.2.1
  have hts := C0.2.2.2.2.1
  have hl : lv_has ls 2 [(0, .ref (ad 0)), (1, .int k)] := hl
  refine lv_iload_n hx hb (dkP dF_27 DX11_restore (i := 0) rfl rfl) rfl (lv_at hl 1 rfl) ?_
  refine lv_if_lt (tgt := 9) hx hb (dkS dF_155 DX11_restore (i := 1) rfl rfl rfl) (by decide) (fun c1 => ?_) (fun c1 => ?_)
  · skip
    refine lv_bipush (v := (-2)) hx hb (dks dF_16 DX11_restore (i := 5) rfl rfl rfl) (by decide) ?_
    exact z_iret C0 hr hlk hw (by first | rfl | ((try simp only [lg_cmp_lt, lg_cmp_le, lg_cmp_gt, lg_cmp_ge, lg_cmp_eq] at c1); (try simp (disch := omega) only [ta_lt, ta_le, ta_eq, tb_lt, tb_le, tb_eq, tw, tnI, tn32 2 (by decide), tnj 2 (by decide), tn32 1 (by decide), tnj 1 (by decide), tl32 0 (by decide), tl64 0 (by decide)] at c1); (try simp (disch := omega) only [tnI, tn32 2 (by decide), tnj 2 (by decide), tn32 1 (by decide), tnj 1 (by decide), tl32 0 (by decide), tl64 0 (by decide)]); (repeat' split) <;> first | rfl | omega | (apply Int32.toInt_inj.mp; simp (disch := omega) only [tnI, tn32 2 (by decide), tnj 2 (by decide), tn32 1 (by decide), tnj 1 (by decide), tl32 0 (by decide), tl64 0 (by decide)]; omega))) (dkP dF_172 DX11_restore (i := 6) rfl rfl)
  · skip
    refine lv_iload_n hx hb (dkP dF_27 DX11_restore (i := 2) rfl rfl) rfl (lv_at hl 1 rfl) ?_
    refine lv_iconst (v := 3) hx hb (dkP dF_6 DX11_restore (i := 3) rfl rfl) (by decide) ?_
    refine lv_icmp_lt (tgt := 12) hx hb (dkS dF_161 DX11_restore (i := 4) rfl rfl rfl) (by decide) (fun c2 => ?_) (fun c2 => ?_)
    · skip
      obtain ⟨k_k, hk_k, rfl⟩ := to_nat (x := k) (n := 3) (by (try simp only [lg_cmp_lt, lg_cmp_le, lg_cmp_gt, lg_cmp_ge, lg_cmp_eq] at c1); (try simp (disch := omega) only [ta_lt, ta_le, ta_eq, tb_lt, tb_le, tb_eq, tw, tnI, tn32 2 (by decide), tnj 2 (by decide), tn32 1 (by decide), tnj 1 (by decide), tl32 0 (by decide), tl64 0 (by decide), tl32 3 (by decide), tl64 3 (by decide)] at c1); (try simp only [lg_cmp_lt, lg_cmp_le, lg_cmp_gt, lg_cmp_ge, lg_cmp_eq] at c2); (try simp (disch := omega) only [ta_lt, ta_le, ta_eq, tb_lt, tb_le, tb_eq, tw, tnI, tn32 2 (by decide), tnj 2 (by decide), tn32 1 (by decide), tnj 1 (by decide), tl32 0 (by decide), tl64 0 (by decide), tl32 3 (by decide), tl64 3 (by decide)] at c2); (try simp (disch := omega) only [ta_lt, ta_le, ta_eq, tb_lt, tb_le, tb_eq, tw, tnI, tn32 2 (by decide), tnj 2 (by decide), tn32 1 (by decide), tnj 1 (by decide), tl32 0 (by decide), tl64 0 (by decide), tl32 3 (by decide), tl64 3 (by decide)]); omega)
      refine lv_aload_n hx hb (dkP dF_42 DX11_restore (i := 7) rfl rfl) rfl (lv_at hl 0 rfl) ?_
      refine z_gr C0 hw 0 2 185 (fk_of shc_0 rfl) fl_X11_20 (dk2 dF_180 DX11_restore (i := 8) rfl rfl rfl) ?_
      refine lv_iload_n hx hb (dkP dF_27 DX11_restore (i := 9) rfl rfl) rfl (lv_at hl 1 rfl) ?_
      refine z_zaldN (n := 3) C0 hw 185 k_k (ak_of shc_185) (by omega) (by decide) (dkP dF_51 DX11_restore (i := 10) rfl rfl) ?_
      refine z_top (y := 0) (s0a_185 _) ?_
      refine lv_if_ne (tgt := 24) hx hb (dkS dF_154 DX11_restore (i := 11) rfl rfl rfl) (by decide) (fun h => absurd h (by decide)) (fun _ => ?_)
      refine lv_bipush (v := (-6)) hx hb (dks dF_16 DX11_restore (i := 12) rfl rfl rfl) (by decide) ?_
      exact z_iret C0 hr hlk hw (by first | rfl | ((try simp only [lg_cmp_lt, lg_cmp_le, lg_cmp_gt, lg_cmp_ge, lg_cmp_eq] at c1); (try simp (disch := omega) only [ta_lt, ta_le, ta_eq, tb_lt, tb_le, tb_eq, tw, tnI, tn32 6 (by decide), tnj 6 (by decide), tn32 2 (by decide), tnj 2 (by decide), tn32 1 (by decide), tnj 1 (by decide), tl32 0 (by decide), tl64 0 (by decide), tl32 3 (by decide), tl64 3 (by decide)] at c1); (try simp only [lg_cmp_lt, lg_cmp_le, lg_cmp_gt, lg_cmp_ge, lg_cmp_eq] at c2); (try simp (disch := omega) only [ta_lt, ta_le, ta_eq, tb_lt, tb_le, tb_eq, tw, tnI, tn32 6 (by decide), tnj 6 (by decide), tn32 2 (by decide), tnj 2 (by decide), tn32 1 (by decide), tnj 1 (by decide), tl32 0 (by decide), tl64 0 (by decide), tl32 3 (by decide), tl64 3 (by decide)] at c2); (try simp (disch := omega) only [tnI, tn32 6 (by decide), tnj 6 (by decide), tn32 2 (by decide), tnj 2 (by decide), tn32 1 (by decide), tnj 1 (by decide), tl32 0 (by decide), tl64 0 (by decide), tl32 3 (by decide), tl64 3 (by decide)]); (repeat' split) <;> first | rfl | omega | (apply Int32.toInt_inj.mp; simp (disch := omega) only [tnI, tn32 6 (by decide), tnj 6 (by decide), tn32 2 (by decide), tnj 2 (by decide), tn32 1 (by decide), tnj 1 (by decide), tl32 0 (by decide), tl64 0 (by decide), tl32 3 (by decide), tl64 3 (by decide)]; omega))) (dkP dF_172 DX11_restore (i := 13) rfl rfl)
    · skip
      refine lv_bipush (v := (-2)) hx hb (dks dF_16 DX11_restore (i := 5) rfl rfl rfl) (by decide) ?_
      exact z_iret C0 hr hlk hw (by first | rfl | ((try simp only [lg_cmp_lt, lg_cmp_le, lg_cmp_gt, lg_cmp_ge, lg_cmp_eq] at c1); (try simp (disch := omega) only [ta_lt, ta_le, ta_eq, tb_lt, tb_le, tb_eq, tw, tnI, tn32 6 (by decide), tnj 6 (by decide), tn32 2 (by decide), tnj 2 (by decide), tn32 1 (by decide), tnj 1 (by decide), tl32 0 (by decide), tl64 0 (by decide), tl32 3 (by decide), tl64 3 (by decide)] at c1); (try simp only [lg_cmp_lt, lg_cmp_le, lg_cmp_gt, lg_cmp_ge, lg_cmp_eq] at c2); (try simp (disch := omega) only [ta_lt, ta_le, ta_eq, tb_lt, tb_le, tb_eq, tw, tnI, tn32 6 (by decide), tnj 6 (by decide), tn32 2 (by decide), tnj 2 (by decide), tn32 1 (by decide), tnj 1 (by decide), tl32 0 (by decide), tl64 0 (by decide), tl32 3 (by decide), tl64 3 (by decide)] at c2); (try simp (disch := omega) only [tnI, tn32 6 (by decide), tnj 6 (by decide), tn32 2 (by decide), tnj 2 (by decide), tn32 1 (by decide), tnj 1 (by decide), tl32 0 (by decide), tl64 0 (by decide), tl32 3 (by decide), tl64 3 (by decide)]); (repeat' split) <;> first | rfl | omega | (apply Int32.toInt_inj.mp; simp (disch := omega) only [tnI, tn32 6 (by decide), tnj 6 (by decide), tn32 2 (by decide), tnj 2 (by decide), tn32 1 (by decide), tnj 1 (by decide), tl32 0 (by decide), tl64 0 (by decide), tl32 3 (by decide), tl64 3 (by decide)]; omega))) (dkP dF_172 DX11_restore (i := 6) rfl rfl)
