def shM : List ShE := [(0, 12, [(0, 0), (1, 1), (1, 2), (1, 3), (1, 4), (0, 0), (1, 5), (0, 0), (0, 0), (0, 0), (0, 0), (0, 0), (0, 0), (0, 0), (1, 6), (1, 7), (1, 8), (1, 9), (1, 10), (0, 0), (1, 11), (1, 12), (1, 13), (0, 0), (1, 14), (0, 0), (1, 15), (0, 0), (1, 16), (1, 17), (1, 18), (1, 19), (1, 20), (0, 0), (1, 21), (1, 22), (1, 23), (1, 24), (1, 25), (1, 26), (1, 27), (0, 0), (0, 0), (0, 0), (1, 28), (1, 29), (1, 30), (1, 31), (1, 32), (0, 0), (1, 33), (1, 34), (1, 35), (1, 36)]), (1, 414128, []), (1, 1242384, []), (3, 3, []), (2, 600, []), (1, 5, []), (1, 9, []), (1, 384, []), (1, 24, []), (1, 576, []), (1, 960, []), (1, 8, []), (1, 8, []), (1, 100, []), (1, 8, []), (1, 8, []), (1, 201, []), (1, 201, []), (1, 20100, []), (1, 201, []), (1, 201, []), (1, 200, []), (1, 200, []), (1, 20000, []), (1, 200, []), (1, 200, []), (1, 14400, []), (1, 8, []), (1, 72, []), (1, 9, []), (3, 100, []), (1, 256, []), (1, 8, []), (1, 4, []), (1, 4, []), (4, 240, []), (4, 60, [])]
set_option maxRecDepth 100000 in
set_option maxHeartbeats 4000000 in
theorem c_X12_in (l : Launch) (G : va_G) (kc : KC)  (v : Int64) (lo : Int64) (hi : Int64)  : MI l G kc yX12_in cX12_in 6 (some .boolean) 0 0 [.long v, .long lo, .long hi] [] a00 s00 (fun r _ => ((r = 1 ∧ (lo.toInt ≤ v.toInt ∧ v.toInt ≤ hi.toInt)) ∨ (r = 0 ∧ ¬ (lo.toInt ≤ v.toInt ∧ v.toInt ≤ hi.toInt)))) := by
  intro sz
  refine z_body (y := yX12_in) (n := 6) (av := [.long v, .long lo, .long hi]) (Qc := fun A => va_Qi (fun r _ => ((r = 1 ∧ (lo.toInt ≤ v.toInt ∧ v.toInt ≤ hi.toInt)) ∨ (r = 0 ∧ ¬ (lo.toInt ≤ v.toInt ∧ v.toInt ≤ hi.toInt)))) (PoC G kc [] a00 A) A) (plainFor_of_name (by decide)) (Nat.le_of_ble_eq_true rfl) (fun pr e s m below meth c A C0 hr hlk hnm hw hRo ls hl => ?_) sz
  have hx := C0.1
  have hb := C0.2.1
  have hown := C0.2.2.2.1
  have hts := C0.2.2.2.2.1
  have hl : lv_has ls 6 [(0, .long v), (2, .long lo), (4, .long hi)] := hl
  refine lv_lload_n hx hb (dkP dF_30 DX12_in (i := 0) rfl rfl) rfl (lv_at hl 0 rfl) ?_
  refine lv_lload_n hx hb (dkP dF_32 DX12_in (i := 1) rfl rfl) rfl (lv_at hl 1 rfl) ?_
  refine W.lcmp hx hb (dkP dF_148 DX12_in (i := 2) rfl rfl) ?_
  refine lv_if_lt (tgt := 17) hx hb (dkS dF_155 DX12_in (i := 3) rfl rfl rfl) (by decide) (fun c1 => ?_) (fun c1 => ?_)
  · skip
    refine lv_iconst (v := 0) hx hb (dkP dF_3 DX12_in (i := 10) rfl rfl) (by decide) ?_
    exact z_zret C0 hr hlk (by decide) hw (Or.inr ⟨rfl, (by (try simp only [lg_cmp_lt, lg_cmp_le, lg_cmp_gt, lg_cmp_ge, lg_cmp_eq] at c1); (try simp (disch := omega) only [ta_lt, ta_le, ta_eq, tb_lt, tb_le, tb_eq, tw, tnI, tn32 1 (by decide), tnj 1 (by decide), tl32 0 (by decide), tl64 0 (by decide)] at c1); (try simp (disch := omega) only [ta_lt, ta_le, ta_eq, tb_lt, tb_le, tb_eq, tw, tnI, tn32 1 (by decide), tnj 1 (by decide), tl32 0 (by decide), tl64 0 (by decide)]); omega)⟩) (dkP dF_172 DX12_in (i := 11) rfl rfl)
  · skip
    refine lv_lload_n hx hb (dkP dF_30 DX12_in (i := 4) rfl rfl) rfl (lv_at hl 0 rfl) ?_
    refine lv_lload hx hb (dk1 dF_22 DX12_in (i := 5) rfl rfl rfl) (lv_at hl 2 rfl) ?_
    refine W.lcmp hx hb (dkP dF_148 DX12_in (i := 6) rfl rfl) ?_
    refine lv_if_gt (tgt := 17) hx hb (dkS dF_157 DX12_in (i := 7) rfl rfl rfl) (by decide) (fun c2 => ?_) (fun c2 => ?_)
    · skip
      refine lv_iconst (v := 0) hx hb (dkP dF_3 DX12_in (i := 10) rfl rfl) (by decide) ?_
      exact z_zret C0 hr hlk (by decide) hw (Or.inr ⟨rfl, (by (try simp only [lg_cmp_lt, lg_cmp_le, lg_cmp_gt, lg_cmp_ge, lg_cmp_eq] at c1); (try simp (disch := omega) only [ta_lt, ta_le, ta_eq, tb_lt, tb_le, tb_eq, tw, tnI, tn32 1 (by decide), tnj 1 (by decide), tl32 0 (by decide), tl64 0 (by decide)] at c1); (try simp only [lg_cmp_lt, lg_cmp_le, lg_cmp_gt, lg_cmp_ge, lg_cmp_eq] at c2); (try simp (disch := omega) only [ta_lt, ta_le, ta_eq, tb_lt, tb_le, tb_eq, tw, tnI, tn32 1 (by decide), tnj 1 (by decide), tl32 0 (by decide), tl64 0 (by decide)] at c2); (try simp (disch := omega) only [ta_lt, ta_le, ta_eq, tb_lt, tb_le, tb_eq, tw, tnI, tn32 1 (by decide), tnj 1 (by decide), tl32 0 (by decide), tl64 0 (by decide)]); omega)⟩) (dkP dF_172 DX12_in (i := 11) rfl rfl)
    · skip
      refine lv_iconst (v := 1) hx hb (dkP dF_4 DX12_in (i := 8) rfl rfl) (by decide) ?_
      refine lv_goto (tgt := 18) hx hb (dkS dF_167 DX12_in (i := 9) rfl rfl rfl) (by decide) ?_
      exact z_zret C0 hr hlk (by decide) hw (Or.inl ⟨rfl, (by (try simp only [lg_cmp_lt, lg_cmp_le, lg_cmp_gt, lg_cmp_ge, lg_cmp_eq] at c1); (try simp (disch := omega) only [ta_lt, ta_le, ta_eq, tb_lt, tb_le, tb_eq, tw, tnI, tn32 1 (by decide), tnj 1 (by decide), tl32 0 (by decide), tl64 0 (by decide), tl32 1 (by decide), tl64 1 (by decide)] at c1); (try simp only [lg_cmp_lt, lg_cmp_le, lg_cmp_gt, lg_cmp_ge, lg_cmp_eq] at c2); (try simp (disch := omega) only [ta_lt, ta_le, ta_eq, tb_lt, tb_le, tb_eq, tw, tnI, tn32 1 (by decide), tnj 1 (by decide), tl32 0 (by decide), tl64 0 (by decide), tl32 1 (by decide), tl64 1 (by decide)] at c2); (try simp (disch := omega) only [ta_lt, ta_le, ta_eq, tb_lt, tb_le, tb_eq, tw, tnI, tn32 1 (by decide), tnj 1 (by decide), tl32 0 (by decide), tl64 0 (by decide), tl32 1 (by decide), tl64 1 (by decide)]); omega)⟩) (dkP dF_172 DX12_in (i := 11) rfl rfl)
set_option maxRecDepth 100000 in
set_option maxHeartbeats 4000000 in
theorem c_X12_isProgram (l : Launch) (G : va_G) (kc : KC)  (p : Int32)  : MI l G kc yX12_isProgram cX12_isProgram 1 (some .boolean) 1 25 [.int p] [] a00 s00 (fun r _ => ((r = 1 ∧ (0 ≤ p.toInt ∧ p.toInt ≤ 7)) ∨ (r = 0 ∧ ¬ (0 ≤ p.toInt ∧ p.toInt ≤ 7)))) := by
  intro sz
  refine z_body (y := yX12_isProgram) (n := 1) (av := [.int p]) (Qc := fun A => va_Qi (fun r _ => ((r = 1 ∧ (0 ≤ p.toInt ∧ p.toInt ≤ 7)) ∨ (r = 0 ∧ ¬ (0 ≤ p.toInt ∧ p.toInt ≤ 7)))) (PoC G kc [] a00 A) A) (plainFor_of_name (by decide)) (Nat.le_of_ble_eq_true rfl) (fun pr e s m below meth c A C0 hr hlk hnm hw hRo ls hl => ?_) sz
  have hx := C0.1
  have hb := C0.2.1
  have hown := C0.2.2.2.1
  have hts := C0.2.2.2.2.1
  have hl : lv_has ls 1 [(0, .int p)] := hl
  refine lv_iload_n hx hb (dkP dF_26 DX12_isProgram (i := 0) rfl rfl) rfl (lv_at hl 0 rfl) ?_
  refine lv_i2l hx hb (dkP dF_133 DX12_isProgram (i := 1) rfl rfl) rfl ?_
  refine lv_lconst (v := 0) hx hb (dkP dF_9 DX12_isProgram (i := 2) rfl rfl) (by decide) ?_
  refine lv_ldc2 hx hb hown (hts _ kn_X12_7) (dk2 dF_20 DX12_isProgram (i := 3) rfl rfl rfl) ?_
  refine zn_I hw (zr_S (As := [.long p.toInt64, .long 0, .long 7]) (rest := []) C0 (c_X12_in l G kc p.toInt64 0 7  _) cs_X12_in lk_X12_9 (zp_P C0 hRo hw a00 s00) rfl hl.1 rfl ⟨by decide, by decide⟩ (Nat.le_of_ble_eq_true rfl) (dk2 dF_184 DX12_isProgram (i := 4) rfl rfl rfl) ⟨Nat.le_refl _, Nat.le_refl _⟩) (fun r1 s1 H locs hp hw => ?_)
  rcases hp with ⟨rfl, hc1⟩ | ⟨rfl, hc1⟩
  · skip
    obtain ⟨k_p, hk_p, rfl⟩ := to_nat (x := p) (n := 8) (by (try simp only [lg_cmp_lt, lg_cmp_le, lg_cmp_gt, lg_cmp_ge, lg_cmp_eq] at hc1); (try simp (disch := omega) only [ta_lt, ta_le, ta_eq, tb_lt, tb_le, tb_eq, tw, tnI, tn32 1 (by decide), tnj 1 (by decide), tl32 0 (by decide), tl64 0 (by decide), tl32 7 (by decide), tl64 7 (by decide)] at hc1); (try simp (disch := omega) only [ta_lt, ta_le, ta_eq, tb_lt, tb_le, tb_eq, tw, tnI, tn32 1 (by decide), tnj 1 (by decide), tl32 0 (by decide), tl64 0 (by decide), tl32 7 (by decide), tl64 7 (by decide)]); omega)
    exact z_zret C0 hr hlk (by decide) hw (Or.inl ⟨rfl, (by (try simp only [lg_cmp_lt, lg_cmp_le, lg_cmp_gt, lg_cmp_ge, lg_cmp_eq] at hc1); (try simp (disch := omega) only [ta_lt, ta_le, ta_eq, tb_lt, tb_le, tb_eq, tw, tnI, tn32 1 (by decide), tnj 1 (by decide), tl32 0 (by decide), tl64 0 (by decide), tl32 7 (by decide), tl64 7 (by decide)] at hc1); (try simp only [lg_cmp_lt, lg_cmp_le, lg_cmp_gt, lg_cmp_ge, lg_cmp_eq] at hk_p); (try simp (disch := omega) only [ta_lt, ta_le, ta_eq, tb_lt, tb_le, tb_eq, tw, tnI, tn32 1 (by decide), tnj 1 (by decide), tl32 0 (by decide), tl64 0 (by decide), tl32 7 (by decide), tl64 7 (by decide)] at hk_p); (try simp (disch := omega) only [ta_lt, ta_le, ta_eq, tb_lt, tb_le, tb_eq, tw, tnI, tn32 1 (by decide), tnj 1 (by decide), tl32 0 (by decide), tl64 0 (by decide), tl32 7 (by decide), tl64 7 (by decide)]); omega)⟩) (dkP dF_172 DX12_isProgram (i := 5) rfl rfl)
  · skip
    exact z_zret C0 hr hlk (by decide) hw (Or.inr ⟨rfl, (by (try simp only [lg_cmp_lt, lg_cmp_le, lg_cmp_gt, lg_cmp_ge, lg_cmp_eq] at hc1); (try simp (disch := omega) only [ta_lt, ta_le, ta_eq, tb_lt, tb_le, tb_eq, tw, tnI, tn32 1 (by decide), tnj 1 (by decide), tl32 0 (by decide), tl64 0 (by decide), tl32 7 (by decide), tl64 7 (by decide)] at hc1); (try simp (disch := omega) only [ta_lt, ta_le, ta_eq, tb_lt, tb_le, tb_eq, tw, tnI, tn32 1 (by decide), tnj 1 (by decide), tl32 0 (by decide), tl64 0 (by decide), tl32 7 (by decide), tl64 7 (by decide)]); omega)⟩) (dkP dF_172 DX12_isProgram (i := 5) rfl rfl)
set_option maxRecDepth 100000 in
set_option maxHeartbeats 4000000 in
theorem c_X12_isField (l : Launch) (G : va_G) (kc : KC)  (p : Int32)  : MI l G kc yX12_isField cX12_isField 1 (some .boolean) 1 25 [.int p] [] a00 s00 (fun r _ => ((r = 1 ∧ (0 ≤ p.toInt ∧ p.toInt ≤ 7)) ∨ (r = 0 ∧ ¬ (0 ≤ p.toInt ∧ p.toInt ≤ 7)))) := by
  intro sz
  refine z_body (y := yX12_isField) (n := 1) (av := [.int p]) (Qc := fun A => va_Qi (fun r _ => ((r = 1 ∧ (0 ≤ p.toInt ∧ p.toInt ≤ 7)) ∨ (r = 0 ∧ ¬ (0 ≤ p.toInt ∧ p.toInt ≤ 7)))) (PoC G kc [] a00 A) A) (plainFor_of_name (by decide)) (Nat.le_of_ble_eq_true rfl) (fun pr e s m below meth c A C0 hr hlk hnm hw hRo ls hl => ?_) sz
  have hx := C0.1
  have hb := C0.2.1
  have hown := C0.2.2.2.1
  have hts := C0.2.2.2.2.1
  have hl : lv_has ls 1 [(0, .int p)] := hl
  refine lv_iload_n hx hb (dkP dF_26 DX12_isField (i := 0) rfl rfl) rfl (lv_at hl 0 rfl) ?_
  refine lv_i2l hx hb (dkP dF_133 DX12_isField (i := 1) rfl rfl) rfl ?_
  refine lv_lconst (v := 0) hx hb (dkP dF_9 DX12_isField (i := 2) rfl rfl) (by decide) ?_
  refine lv_ldc2 hx hb hown (hts _ kn_X12_7) (dk2 dF_20 DX12_isField (i := 3) rfl rfl rfl) ?_
  refine zn_I hw (zr_S (As := [.long p.toInt64, .long 0, .long 7]) (rest := []) C0 (c_X12_in l G kc p.toInt64 0 7  _) cs_X12_in lk_X12_9 (zp_P C0 hRo hw a00 s00) rfl hl.1 rfl ⟨by decide, by decide⟩ (Nat.le_of_ble_eq_true rfl) (dk2 dF_184 DX12_isField (i := 4) rfl rfl rfl) ⟨Nat.le_refl _, Nat.le_refl _⟩) (fun r1 s1 H locs hp hw => ?_)
  rcases hp with ⟨rfl, hc1⟩ | ⟨rfl, hc1⟩
  · skip
    obtain ⟨k_p, hk_p, rfl⟩ := to_nat (x := p) (n := 8) (by (try simp only [lg_cmp_lt, lg_cmp_le, lg_cmp_gt, lg_cmp_ge, lg_cmp_eq] at hc1); (try simp (disch := omega) only [ta_lt, ta_le, ta_eq, tb_lt, tb_le, tb_eq, tw, tnI, tn32 1 (by decide), tnj 1 (by decide), tl32 0 (by decide), tl64 0 (by decide), tl32 7 (by decide), tl64 7 (by decide)] at hc1); (try simp (disch := omega) only [ta_lt, ta_le, ta_eq, tb_lt, tb_le, tb_eq, tw, tnI, tn32 1 (by decide), tnj 1 (by decide), tl32 0 (by decide), tl64 0 (by decide), tl32 7 (by decide), tl64 7 (by decide)]); omega)
    exact z_zret C0 hr hlk (by decide) hw (Or.inl ⟨rfl, (by (try simp only [lg_cmp_lt, lg_cmp_le, lg_cmp_gt, lg_cmp_ge, lg_cmp_eq] at hc1); (try simp (disch := omega) only [ta_lt, ta_le, ta_eq, tb_lt, tb_le, tb_eq, tw, tnI, tn32 1 (by decide), tnj 1 (by decide), tl32 0 (by decide), tl64 0 (by decide), tl32 7 (by decide), tl64 7 (by decide)] at hc1); (try simp only [lg_cmp_lt, lg_cmp_le, lg_cmp_gt, lg_cmp_ge, lg_cmp_eq] at hk_p); (try simp (disch := omega) only [ta_lt, ta_le, ta_eq, tb_lt, tb_le, tb_eq, tw, tnI, tn32 1 (by decide), tnj 1 (by decide), tl32 0 (by decide), tl64 0 (by decide), tl32 7 (by decide), tl64 7 (by decide)] at hk_p); (try simp (disch := omega) only [ta_lt, ta_le, ta_eq, tb_lt, tb_le, tb_eq, tw, tnI, tn32 1 (by decide), tnj 1 (by decide), tl32 0 (by decide), tl64 0 (by decide), tl32 7 (by decide), tl64 7 (by decide)]); omega)⟩) (dkP dF_172 DX12_isField (i := 5) rfl rfl)
  · skip
    exact z_zret C0 hr hlk (by decide) hw (Or.inr ⟨rfl, (by (try simp only [lg_cmp_lt, lg_cmp_le, lg_cmp_gt, lg_cmp_ge, lg_cmp_eq] at hc1); (try simp (disch := omega) only [ta_lt, ta_le, ta_eq, tb_lt, tb_le, tb_eq, tw, tnI, tn32 1 (by decide), tnj 1 (by decide), tl32 0 (by decide), tl64 0 (by decide), tl32 7 (by decide), tl64 7 (by decide)] at hc1); (try simp (disch := omega) only [ta_lt, ta_le, ta_eq, tb_lt, tb_le, tb_eq, tw, tnI, tn32 1 (by decide), tnj 1 (by decide), tl32 0 (by decide), tl64 0 (by decide), tl32 7 (by decide), tl64 7 (by decide)]); omega)⟩) (dkP dF_172 DX12_isField (i := 5) rfl rfl)
set_option maxRecDepth 100000 in
set_option maxHeartbeats 4000000 in
theorem c_X12_isRow (l : Launch) (G : va_G) (kc : KC)  (p : Int32)  : MI l G kc yX12_isRow cX12_isRow 1 (some .boolean) 1 25 [.int p] [] a00 s00 (fun r _ => ((r = 1 ∧ (0 ≤ p.toInt ∧ p.toInt ≤ 19)) ∨ (r = 0 ∧ ¬ (0 ≤ p.toInt ∧ p.toInt ≤ 19)))) := by
  intro sz
  refine z_body (y := yX12_isRow) (n := 1) (av := [.int p]) (Qc := fun A => va_Qi (fun r _ => ((r = 1 ∧ (0 ≤ p.toInt ∧ p.toInt ≤ 19)) ∨ (r = 0 ∧ ¬ (0 ≤ p.toInt ∧ p.toInt ≤ 19)))) (PoC G kc [] a00 A) A) (plainFor_of_name (by decide)) (Nat.le_of_ble_eq_true rfl) (fun pr e s m below meth c A C0 hr hlk hnm hw hRo ls hl => ?_) sz
  have hx := C0.1
  have hb := C0.2.1
  have hown := C0.2.2.2.1
  have hts := C0.2.2.2.2.1
  have hl : lv_has ls 1 [(0, .int p)] := hl
  refine lv_iload_n hx hb (dkP dF_26 DX12_isRow (i := 0) rfl rfl) rfl (lv_at hl 0 rfl) ?_
  refine lv_i2l hx hb (dkP dF_133 DX12_isRow (i := 1) rfl rfl) rfl ?_
  refine lv_lconst (v := 0) hx hb (dkP dF_9 DX12_isRow (i := 2) rfl rfl) (by decide) ?_
  refine lv_ldc2 hx hb hown (hts _ kn_X12_479) (dk2 dF_20 DX12_isRow (i := 3) rfl rfl rfl) ?_
  refine zn_I hw (zr_S (As := [.long p.toInt64, .long 0, .long 19]) (rest := []) C0 (c_X12_in l G kc p.toInt64 0 19  _) cs_X12_in lk_X12_9 (zp_P C0 hRo hw a00 s00) rfl hl.1 rfl ⟨by decide, by decide⟩ (Nat.le_of_ble_eq_true rfl) (dk2 dF_184 DX12_isRow (i := 4) rfl rfl rfl) ⟨Nat.le_refl _, Nat.le_refl _⟩) (fun r1 s1 H locs hp hw => ?_)
  rcases hp with ⟨rfl, hc1⟩ | ⟨rfl, hc1⟩
  · skip
    obtain ⟨k_p, hk_p, rfl⟩ := to_nat (x := p) (n := 20) (by (try simp only [lg_cmp_lt, lg_cmp_le, lg_cmp_gt, lg_cmp_ge, lg_cmp_eq] at hc1); (try simp (disch := omega) only [ta_lt, ta_le, ta_eq, tb_lt, tb_le, tb_eq, tw, tnI, tn32 1 (by decide), tnj 1 (by decide), tl32 0 (by decide), tl64 0 (by decide), tl32 19 (by decide), tl64 19 (by decide)] at hc1); (try simp (disch := omega) only [ta_lt, ta_le, ta_eq, tb_lt, tb_le, tb_eq, tw, tnI, tn32 1 (by decide), tnj 1 (by decide), tl32 0 (by decide), tl64 0 (by decide), tl32 19 (by decide), tl64 19 (by decide)]); omega)
    exact z_zret C0 hr hlk (by decide) hw (Or.inl ⟨rfl, (by (try simp only [lg_cmp_lt, lg_cmp_le, lg_cmp_gt, lg_cmp_ge, lg_cmp_eq] at hc1); (try simp (disch := omega) only [ta_lt, ta_le, ta_eq, tb_lt, tb_le, tb_eq, tw, tnI, tn32 1 (by decide), tnj 1 (by decide), tl32 0 (by decide), tl64 0 (by decide), tl32 19 (by decide), tl64 19 (by decide)] at hc1); (try simp only [lg_cmp_lt, lg_cmp_le, lg_cmp_gt, lg_cmp_ge, lg_cmp_eq] at hk_p); (try simp (disch := omega) only [ta_lt, ta_le, ta_eq, tb_lt, tb_le, tb_eq, tw, tnI, tn32 1 (by decide), tnj 1 (by decide), tl32 0 (by decide), tl64 0 (by decide), tl32 19 (by decide), tl64 19 (by decide)] at hk_p); (try simp (disch := omega) only [ta_lt, ta_le, ta_eq, tb_lt, tb_le, tb_eq, tw, tnI, tn32 1 (by decide), tnj 1 (by decide), tl32 0 (by decide), tl64 0 (by decide), tl32 19 (by decide), tl64 19 (by decide)]); omega)⟩) (dkP dF_172 DX12_isRow (i := 5) rfl rfl)
  · skip
    exact z_zret C0 hr hlk (by decide) hw (Or.inr ⟨rfl, (by (try simp only [lg_cmp_lt, lg_cmp_le, lg_cmp_gt, lg_cmp_ge, lg_cmp_eq] at hc1); (try simp (disch := omega) only [ta_lt, ta_le, ta_eq, tb_lt, tb_le, tb_eq, tw, tnI, tn32 1 (by decide), tnj 1 (by decide), tl32 0 (by decide), tl64 0 (by decide), tl32 19 (by decide), tl64 19 (by decide)] at hc1); (try simp (disch := omega) only [ta_lt, ta_le, ta_eq, tb_lt, tb_le, tb_eq, tw, tnI, tn32 1 (by decide), tnj 1 (by decide), tl32 0 (by decide), tl64 0 (by decide), tl32 19 (by decide), tl64 19 (by decide)]); omega)⟩) (dkP dF_172 DX12_isRow (i := 5) rfl rfl)
set_option maxRecDepth 100000 in
set_option maxHeartbeats 4000000 in
theorem c_X12_isSlot (l : Launch) (G : va_G) (kc : KC)  (p : Int32)  : MI l G kc yX12_isSlot cX12_isSlot 1 (some .boolean) 1 25 [.int p] [] a00 s00 (fun r _ => ((r = 1 ∧ (0 ≤ p.toInt ∧ p.toInt ≤ 3)) ∨ (r = 0 ∧ ¬ (0 ≤ p.toInt ∧ p.toInt ≤ 3)))) := by
  intro sz
  refine z_body (y := yX12_isSlot) (n := 1) (av := [.int p]) (Qc := fun A => va_Qi (fun r _ => ((r = 1 ∧ (0 ≤ p.toInt ∧ p.toInt ≤ 3)) ∨ (r = 0 ∧ ¬ (0 ≤ p.toInt ∧ p.toInt ≤ 3)))) (PoC G kc [] a00 A) A) (plainFor_of_name (by decide)) (Nat.le_of_ble_eq_true rfl) (fun pr e s m below meth c A C0 hr hlk hnm hw hRo ls hl => ?_) sz
  have hx := C0.1
  have hb := C0.2.1
  have hown := C0.2.2.2.1
  have hts := C0.2.2.2.2.1
  have hl : lv_has ls 1 [(0, .int p)] := hl
  refine lv_iload_n hx hb (dkP dF_26 DX12_isSlot (i := 0) rfl rfl) rfl (lv_at hl 0 rfl) ?_
  refine lv_i2l hx hb (dkP dF_133 DX12_isSlot (i := 1) rfl rfl) rfl ?_
  refine lv_lconst (v := 0) hx hb (dkP dF_9 DX12_isSlot (i := 2) rfl rfl) (by decide) ?_
  refine lv_ldc2 hx hb hown (hts _ kn_X12_501) (dk2 dF_20 DX12_isSlot (i := 3) rfl rfl rfl) ?_
  refine zn_I hw (zr_S (As := [.long p.toInt64, .long 0, .long 3]) (rest := []) C0 (c_X12_in l G kc p.toInt64 0 3  _) cs_X12_in lk_X12_9 (zp_P C0 hRo hw a00 s00) rfl hl.1 rfl ⟨by decide, by decide⟩ (Nat.le_of_ble_eq_true rfl) (dk2 dF_184 DX12_isSlot (i := 4) rfl rfl rfl) ⟨Nat.le_refl _, Nat.le_refl _⟩) (fun r1 s1 H locs hp hw => ?_)
  rcases hp with ⟨rfl, hc1⟩ | ⟨rfl, hc1⟩
  · skip
    obtain ⟨k_p, hk_p, rfl⟩ := to_nat (x := p) (n := 4) (by (try simp only [lg_cmp_lt, lg_cmp_le, lg_cmp_gt, lg_cmp_ge, lg_cmp_eq] at hc1); (try simp (disch := omega) only [ta_lt, ta_le, ta_eq, tb_lt, tb_le, tb_eq, tw, tnI, tn32 1 (by decide), tnj 1 (by decide), tl32 0 (by decide), tl64 0 (by decide), tl32 3 (by decide), tl64 3 (by decide)] at hc1); (try simp (disch := omega) only [ta_lt, ta_le, ta_eq, tb_lt, tb_le, tb_eq, tw, tnI, tn32 1 (by decide), tnj 1 (by decide), tl32 0 (by decide), tl64 0 (by decide), tl32 3 (by decide), tl64 3 (by decide)]); omega)
    exact z_zret C0 hr hlk (by decide) hw (Or.inl ⟨rfl, (by (try simp only [lg_cmp_lt, lg_cmp_le, lg_cmp_gt, lg_cmp_ge, lg_cmp_eq] at hc1); (try simp (disch := omega) only [ta_lt, ta_le, ta_eq, tb_lt, tb_le, tb_eq, tw, tnI, tn32 1 (by decide), tnj 1 (by decide), tl32 0 (by decide), tl64 0 (by decide), tl32 3 (by decide), tl64 3 (by decide)] at hc1); (try simp only [lg_cmp_lt, lg_cmp_le, lg_cmp_gt, lg_cmp_ge, lg_cmp_eq] at hk_p); (try simp (disch := omega) only [ta_lt, ta_le, ta_eq, tb_lt, tb_le, tb_eq, tw, tnI, tn32 1 (by decide), tnj 1 (by decide), tl32 0 (by decide), tl64 0 (by decide), tl32 3 (by decide), tl64 3 (by decide)] at hk_p); (try simp (disch := omega) only [ta_lt, ta_le, ta_eq, tb_lt, tb_le, tb_eq, tw, tnI, tn32 1 (by decide), tnj 1 (by decide), tl32 0 (by decide), tl64 0 (by decide), tl32 3 (by decide), tl64 3 (by decide)]); omega)⟩) (dkP dF_172 DX12_isSlot (i := 5) rfl rfl)
  · skip
    exact z_zret C0 hr hlk (by decide) hw (Or.inr ⟨rfl, (by (try simp only [lg_cmp_lt, lg_cmp_le, lg_cmp_gt, lg_cmp_ge, lg_cmp_eq] at hc1); (try simp (disch := omega) only [ta_lt, ta_le, ta_eq, tb_lt, tb_le, tb_eq, tw, tnI, tn32 1 (by decide), tnj 1 (by decide), tl32 0 (by decide), tl64 0 (by decide), tl32 3 (by decide), tl64 3 (by decide)] at hc1); (try simp (disch := omega) only [ta_lt, ta_le, ta_eq, tb_lt, tb_le, tb_eq, tw, tnI, tn32 1 (by decide), tnj 1 (by decide), tl32 0 (by decide), tl64 0 (by decide), tl32 3 (by decide), tl64 3 (by decide)]); omega)⟩) (dkP dF_172 DX12_isSlot (i := 5) rfl rfl)
set_option maxRecDepth 100000 in
set_option maxHeartbeats 4000000 in
theorem c_X12_of (l : Launch) (G : va_G) (kc : KC)  (k : Nat)  : MI l G kc yX12_of cX12_of 1 (some .int) 0 0 [.int (nI k)] [] a00 s00 (fun r _ => r = nI (8 + 20 * k)) := by
  intro sz
  refine z_body (y := yX12_of) (n := 1) (av := [.int (nI k)]) (Qc := fun A => va_Qi (fun r _ => r = nI (8 + 20 * k)) (PoC G kc [] a00 A) A) (plainFor_of_name (by decide)) (Nat.le_of_ble_eq_true rfl) (fun pr e s m below meth c A C0 hr hlk hnm hw hRo ls hl => ?_) sz
  have hx := C0.1
  have hb := C0.2.1
  have hown := C0.2.2.2.1
  have hts := C0.2.2.2.2.1
  have hl : lv_has ls 1 [(0, .int (nI k))] := hl
  refine lv_bipush (v := 8) hx hb (dks dF_16 DX12_of (i := 0) rfl rfl rfl) (by decide) ?_
  refine lv_bipush (v := 20) hx hb (dks dF_16 DX12_of (i := 1) rfl rfl rfl) (by decide) ?_
  refine lv_iload_n hx hb (dkP dF_26 DX12_of (i := 2) rfl rfl) rfl (lv_at hl 0 rfl) ?_
  refine lv_imul hx hb (dkP dF_104 DX12_of (i := 3) rfl rfl) ?_
  refine z_top (y := nI (20 * k)) (by simp only [fa_lit, nI_add, pk_mul]) ?_
  refine lv_iadd hx hb (dkP dF_96 DX12_of (i := 4) rfl rfl) ?_
  refine z_top (y := nI (8 + (20 * k))) (by simp only [fa_lit, nI_add, pk_mul]) ?_
  exact z_iret C0 hr hlk hw rfl (dkP dF_172 DX12_of (i := 5) rfl rfl)
set_option maxRecDepth 100000 in
set_option maxHeartbeats 4000000 in
theorem c_X12_rowAt (l : Launch) (G : va_G) (kc : KC)  (k : Nat)  : MI l G kc yX12_rowAt cX12_rowAt 1 (some .int) 0 0 [.int (nI k)] [] a00 s00 (fun r _ => r = nI (414028 + 5 * k)) := by
  intro sz
  refine z_body (y := yX12_rowAt) (n := 1) (av := [.int (nI k)]) (Qc := fun A => va_Qi (fun r _ => r = nI (414028 + 5 * k)) (PoC G kc [] a00 A) A) (plainFor_of_name (by decide)) (Nat.le_of_ble_eq_true rfl) (fun pr e s m below meth c A C0 hr hlk hnm hw hRo ls hl => ?_) sz
  have hx := C0.1
  have hb := C0.2.1
  have hown := C0.2.2.2.1
  have hts := C0.2.2.2.2.1
  have hl : lv_has ls 1 [(0, .int (nI k))] := hl
  refine lv_ldcw hx hb hown (hts _ kn_X12_478) (dk2 dF_19 DX12_rowAt (i := 0) rfl rfl rfl) ?_
  refine lv_iconst (v := 5) hx hb (dkP dF_8 DX12_rowAt (i := 1) rfl rfl) (by decide) ?_
  refine lv_iload_n hx hb (dkP dF_26 DX12_rowAt (i := 2) rfl rfl) rfl (lv_at hl 0 rfl) ?_
  refine lv_imul hx hb (dkP dF_104 DX12_rowAt (i := 3) rfl rfl) ?_
  refine z_top (y := nI (5 * k)) (by simp only [fa_lit, nI_add, pk_mul]) ?_
  refine lv_iadd hx hb (dkP dF_96 DX12_rowAt (i := 4) rfl rfl) ?_
  refine z_top (y := nI (414028 + (5 * k))) (by simp only [fa_lit, nI_add, pk_mul]) ?_
  exact z_iret C0 hr hlk hw rfl (dkP dF_172 DX12_rowAt (i := 5) rfl rfl)
set_option maxRecDepth 100000 in
set_option maxHeartbeats 4000000 in
theorem c_X12_stateOf (l : Launch) (G : va_G) (kc : KC) (ad : Nat → Nat) (σ : Sg)  (k : Nat) (hk : k < 8) : MI l G kc yX12_stateOf cX12_stateOf 2 (some .int) 1 20 [.ref (ad 0), .int (nI k)] shM ad σ (fun r σ1 => r = σ.1 1 (8 + 20 * k) ∧ σ1 = σ) := by
  intro sz
  refine z_body (y := yX12_stateOf) (n := 2) (av := [.ref (ad 0), .int (nI k)]) (Qc := fun A => va_Qi (fun r σ1 => r = σ.1 1 (8 + 20 * k) ∧ σ1 = σ) (PoC G kc shM ad A) A) (plainFor_of_name (by decide)) (Nat.le_of_ble_eq_true rfl) (fun pr e s m below meth c A C0 hr hlk hnm hw hRo ls hl => ?_) sz
  have hx := C0.1
  have hb := C0.2.1
  have hown := C0.2.2.2.1
  have hts := C0.2.2.2.2.1
  have hl : lv_has ls 2 [(0, .ref (ad 0)), (1, .int (nI k))] := hl
  refine lv_aload_n hx hb (dkP dF_42 DX12_stateOf (i := 0) rfl rfl) rfl (lv_at hl 0 rfl) ?_
  refine z_gr C0 hw 0 1 1 rfl fl_X12_20 (dk2 dF_180 DX12_stateOf (i := 1) rfl rfl rfl) ?_
  refine lv_iload_n hx hb (dkP dF_27 DX12_stateOf (i := 2) rfl rfl) rfl (lv_at hl 1 rfl) ?_
  refine zn_I hw (zr_S (As := [.int (nI k)]) (rest := [.ref (ad 1)]) C0 (c_X12_of l G kc k  _) cs_X12_of lk_X12_139 (zp_P C0 hRo hw a00 s00) rfl hl.1 rfl ⟨by decide, by decide⟩ (Nat.le_of_ble_eq_true rfl) (dk2 dF_184 DX12_stateOf (i := 3) rfl rfl rfl) ⟨Nat.le_refl _, Nat.le_refl _⟩) (fun r1 s1 H locs hp hw => ?_)
  subst hp
  refine z_ialdN (n := 414128) C0 hw 1 (8 + 20 * k) rfl (by omega) (by decide) (dkP dF_46 DX12_stateOf (i := 4) rfl rfl) ?_
  exact z_iret C0 hr hlk hw (⟨rfl, rfl⟩) (dkP dF_172 DX12_stateOf (i := 5) rfl rfl)
set_option maxRecDepth 100000 in
set_option maxHeartbeats 4000000 in
theorem c_X12_hasOld (l : Launch) (G : va_G) (kc : KC) (ad : Nat → Nat) (σ : Sg)  (k : Nat) (hk : k < 8) : MI l G kc yX12_hasOld cX12_hasOld 2 (some .boolean) 1 20 [.ref (ad 0), .int (nI k)] shM ad σ (fun r σ1 => ((r = 1 ∧ (¬ σ.1 1 (8 + 20 * k + 1) = -1)) ∨ (r = 0 ∧ ¬ (¬ σ.1 1 (8 + 20 * k + 1) = -1))) ∧ σ1 = σ) := by
  intro sz
  refine z_body (y := yX12_hasOld) (n := 2) (av := [.ref (ad 0), .int (nI k)]) (Qc := fun A => va_Qi (fun r σ1 => ((r = 1 ∧ (¬ σ.1 1 (8 + 20 * k + 1) = -1)) ∨ (r = 0 ∧ ¬ (¬ σ.1 1 (8 + 20 * k + 1) = -1))) ∧ σ1 = σ) (PoC G kc shM ad A) A) (plainFor_of_name (by decide)) (Nat.le_of_ble_eq_true rfl) (fun pr e s m below meth c A C0 hr hlk hnm hw hRo ls hl => ?_) sz
  have hx := C0.1
  have hb := C0.2.1
  have hown := C0.2.2.2.1
  have hts := C0.2.2.2.2.1
  have hl : lv_has ls 2 [(0, .ref (ad 0)), (1, .int (nI k))] := hl
  refine lv_aload_n hx hb (dkP dF_42 DX12_hasOld (i := 0) rfl rfl) rfl (lv_at hl 0 rfl) ?_
  refine z_gr C0 hw 0 1 1 rfl fl_X12_20 (dk2 dF_180 DX12_hasOld (i := 1) rfl rfl rfl) ?_
  refine lv_iload_n hx hb (dkP dF_27 DX12_hasOld (i := 2) rfl rfl) rfl (lv_at hl 1 rfl) ?_
  refine zn_I hw (zr_S (As := [.int (nI k)]) (rest := [.ref (ad 1)]) C0 (c_X12_of l G kc k  _) cs_X12_of lk_X12_139 (zp_P C0 hRo hw a00 s00) rfl hl.1 rfl ⟨by decide, by decide⟩ (Nat.le_of_ble_eq_true rfl) (dk2 dF_184 DX12_hasOld (i := 3) rfl rfl rfl) ⟨Nat.le_refl _, Nat.le_refl _⟩) (fun r1 s1 H locs hp hw => ?_)
  subst hp
  refine lv_iconst (v := 1) hx hb (dkP dF_4 DX12_hasOld (i := 4) rfl rfl) (by decide) ?_
  refine lv_iadd hx hb (dkP dF_96 DX12_hasOld (i := 5) rfl rfl) ?_
  refine z_top (y := nI ((8 + 20 * k) + 1)) (by simp only [fa_lit, nI_add, pk_mul]) ?_
  refine z_ialdN (n := 414128) C0 hw 1 ((8 + 20 * k) + 1) rfl (by omega) (by decide) (dkP dF_46 DX12_hasOld (i := 6) rfl rfl) ?_
  refine lv_iconst (v := (-1)) hx hb (dkP dF_2 DX12_hasOld (i := 7) rfl rfl) (by decide) ?_
  refine lv_icmp_eq (tgt := 19) hx hb (dkS dF_159 DX12_hasOld (i := 8) rfl rfl rfl) (by decide) (fun c2 => ?_) (fun c2 => ?_)
  · skip
    refine lv_iconst (v := 0) hx hb (dkP dF_3 DX12_hasOld (i := 11) rfl rfl) (by decide) ?_
    exact z_zret C0 hr hlk (by decide) hw (⟨Or.inr ⟨rfl, (by first | assumption | (intro h; contradiction) | simp_all)⟩, rfl⟩) (dkP dF_172 DX12_hasOld (i := 12) rfl rfl)
  · skip
    refine lv_iconst (v := 1) hx hb (dkP dF_4 DX12_hasOld (i := 9) rfl rfl) (by decide) ?_
    refine lv_goto (tgt := 20) hx hb (dkS dF_167 DX12_hasOld (i := 10) rfl rfl rfl) (by decide) ?_
    exact z_zret C0 hr hlk (by decide) hw (⟨Or.inl ⟨rfl, (by first | assumption | (intro h; contradiction) | simp_all)⟩, rfl⟩) (dkP dF_172 DX12_hasOld (i := 12) rfl rfl)
set_option maxRecDepth 100000 in
set_option maxHeartbeats 4000000 in
theorem c_X12_hasNew (l : Launch) (G : va_G) (kc : KC) (ad : Nat → Nat) (σ : Sg)  (k : Nat) (hk : k < 8) : MI l G kc yX12_hasNew cX12_hasNew 2 (some .boolean) 1 20 [.ref (ad 0), .int (nI k)] shM ad σ (fun r σ1 => ((r = 1 ∧ (¬ σ.1 1 (8 + 20 * k + 2) = -1)) ∨ (r = 0 ∧ ¬ (¬ σ.1 1 (8 + 20 * k + 2) = -1))) ∧ σ1 = σ) := by
  intro sz
  refine z_body (y := yX12_hasNew) (n := 2) (av := [.ref (ad 0), .int (nI k)]) (Qc := fun A => va_Qi (fun r σ1 => ((r = 1 ∧ (¬ σ.1 1 (8 + 20 * k + 2) = -1)) ∨ (r = 0 ∧ ¬ (¬ σ.1 1 (8 + 20 * k + 2) = -1))) ∧ σ1 = σ) (PoC G kc shM ad A) A) (plainFor_of_name (by decide)) (Nat.le_of_ble_eq_true rfl) (fun pr e s m below meth c A C0 hr hlk hnm hw hRo ls hl => ?_) sz
  have hx := C0.1
  have hb := C0.2.1
  have hown := C0.2.2.2.1
  have hts := C0.2.2.2.2.1
  have hl : lv_has ls 2 [(0, .ref (ad 0)), (1, .int (nI k))] := hl
  refine lv_aload_n hx hb (dkP dF_42 DX12_hasNew (i := 0) rfl rfl) rfl (lv_at hl 0 rfl) ?_
  refine z_gr C0 hw 0 1 1 rfl fl_X12_20 (dk2 dF_180 DX12_hasNew (i := 1) rfl rfl rfl) ?_
  refine lv_iload_n hx hb (dkP dF_27 DX12_hasNew (i := 2) rfl rfl) rfl (lv_at hl 1 rfl) ?_
  refine zn_I hw (zr_S (As := [.int (nI k)]) (rest := [.ref (ad 1)]) C0 (c_X12_of l G kc k  _) cs_X12_of lk_X12_139 (zp_P C0 hRo hw a00 s00) rfl hl.1 rfl ⟨by decide, by decide⟩ (Nat.le_of_ble_eq_true rfl) (dk2 dF_184 DX12_hasNew (i := 3) rfl rfl rfl) ⟨Nat.le_refl _, Nat.le_refl _⟩) (fun r1 s1 H locs hp hw => ?_)
  subst hp
  refine lv_iconst (v := 2) hx hb (dkP dF_5 DX12_hasNew (i := 4) rfl rfl) (by decide) ?_
  refine lv_iadd hx hb (dkP dF_96 DX12_hasNew (i := 5) rfl rfl) ?_
  refine z_top (y := nI ((8 + 20 * k) + 2)) (by simp only [fa_lit, nI_add, pk_mul]) ?_
  refine z_ialdN (n := 414128) C0 hw 1 ((8 + 20 * k) + 2) rfl (by omega) (by decide) (dkP dF_46 DX12_hasNew (i := 6) rfl rfl) ?_
  refine lv_iconst (v := (-1)) hx hb (dkP dF_2 DX12_hasNew (i := 7) rfl rfl) (by decide) ?_
  refine lv_icmp_eq (tgt := 19) hx hb (dkS dF_159 DX12_hasNew (i := 8) rfl rfl rfl) (by decide) (fun c2 => ?_) (fun c2 => ?_)
  · skip
    refine lv_iconst (v := 0) hx hb (dkP dF_3 DX12_hasNew (i := 11) rfl rfl) (by decide) ?_
    exact z_zret C0 hr hlk (by decide) hw (⟨Or.inr ⟨rfl, (by first | assumption | (intro h; contradiction) | simp_all)⟩, rfl⟩) (dkP dF_172 DX12_hasNew (i := 12) rfl rfl)
  · skip
    refine lv_iconst (v := 1) hx hb (dkP dF_4 DX12_hasNew (i := 9) rfl rfl) (by decide) ?_
    refine lv_goto (tgt := 20) hx hb (dkS dF_167 DX12_hasNew (i := 10) rfl rfl rfl) (by decide) ?_
    exact z_zret C0 hr hlk (by decide) hw (⟨Or.inl ⟨rfl, (by first | assumption | (intro h; contradiction) | simp_all)⟩, rfl⟩) (dkP dF_172 DX12_hasNew (i := 12) rfl rfl)
set_option maxRecDepth 100000 in
set_option maxHeartbeats 4000000 in
theorem c_X12_lineAt (l : Launch) (G : va_G) (kc : KC)  (k : Nat) (l_ : Nat)  : MI l G kc yX12_lineAt cX12_lineAt 2 (some .int) 0 0 [.int (nI k), .int (nI l_)] [] a00 s00 (fun r _ => r = nI (168 + 16 * (24 * k + l_))) := by
  intro sz
  refine z_body (y := yX12_lineAt) (n := 2) (av := [.int (nI k), .int (nI l_)]) (Qc := fun A => va_Qi (fun r _ => r = nI (168 + 16 * (24 * k + l_))) (PoC G kc [] a00 A) A) (plainFor_of_name (by decide)) (Nat.le_of_ble_eq_true rfl) (fun pr e s m below meth c A C0 hr hlk hnm hw hRo ls hl => ?_) sz
  have hx := C0.1
  have hb := C0.2.1
  have hown := C0.2.2.2.1
  have hts := C0.2.2.2.2.1
  have hl : lv_has ls 2 [(0, .int (nI k)), (1, .int (nI l_))] := hl
  refine lv_sipush (v := 168) hx hb (dkS dF_17 DX12_lineAt (i := 0) rfl rfl rfl) (by decide) ?_
  refine lv_bipush (v := 16) hx hb (dks dF_16 DX12_lineAt (i := 1) rfl rfl rfl) (by decide) ?_
  refine lv_bipush (v := 24) hx hb (dks dF_16 DX12_lineAt (i := 2) rfl rfl rfl) (by decide) ?_
  refine lv_iload_n hx hb (dkP dF_26 DX12_lineAt (i := 3) rfl rfl) rfl (lv_at hl 0 rfl) ?_
  refine lv_imul hx hb (dkP dF_104 DX12_lineAt (i := 4) rfl rfl) ?_
  refine z_top (y := nI (24 * k)) (by simp only [fa_lit, nI_add, pk_mul]) ?_
  refine lv_iload_n hx hb (dkP dF_27 DX12_lineAt (i := 5) rfl rfl) rfl (lv_at hl 1 rfl) ?_
  refine lv_iadd hx hb (dkP dF_96 DX12_lineAt (i := 6) rfl rfl) ?_
  refine z_top (y := nI ((24 * k) + l_)) (by simp only [fa_lit, nI_add, pk_mul]) ?_
  refine lv_imul hx hb (dkP dF_104 DX12_lineAt (i := 7) rfl rfl) ?_
  refine z_top (y := nI (16 * ((24 * k) + l_))) (by simp only [fa_lit, nI_add, pk_mul]) ?_
  refine lv_iadd hx hb (dkP dF_96 DX12_lineAt (i := 8) rfl rfl) ?_
  refine z_top (y := nI (168 + (16 * ((24 * k) + l_)))) (by simp only [fa_lit, nI_add, pk_mul]) ?_
  exact z_iret C0 hr hlk hw rfl (dkP dF_172 DX12_lineAt (i := 9) rfl rfl)
set_option maxRecDepth 100000 in
set_option maxHeartbeats 4000000 in
theorem c_X12_caseAt (l : Launch) (G : va_G) (kc : KC)  (k : Nat) (l_ : Nat)  : MI l G kc yX12_caseAt cX12_caseAt 2 (some .int) 0 0 [.int (nI k), .int (nI l_)] [] a00 s00 (fun r _ => r = nI (3240 + 2 * (40 * k + l_))) := by
  intro sz
  refine z_body (y := yX12_caseAt) (n := 2) (av := [.int (nI k), .int (nI l_)]) (Qc := fun A => va_Qi (fun r _ => r = nI (3240 + 2 * (40 * k + l_))) (PoC G kc [] a00 A) A) (plainFor_of_name (by decide)) (Nat.le_of_ble_eq_true rfl) (fun pr e s m below meth c A C0 hr hlk hnm hw hRo ls hl => ?_) sz
  have hx := C0.1
  have hb := C0.2.1
  have hown := C0.2.2.2.1
  have hts := C0.2.2.2.2.1
  have hl : lv_has ls 2 [(0, .int (nI k)), (1, .int (nI l_))] := hl
  refine lv_sipush (v := 3240) hx hb (dkS dF_17 DX12_caseAt (i := 0) rfl rfl rfl) (by decide) ?_
  refine lv_iconst (v := 2) hx hb (dkP dF_5 DX12_caseAt (i := 1) rfl rfl) (by decide) ?_
  refine lv_bipush (v := 40) hx hb (dks dF_16 DX12_caseAt (i := 2) rfl rfl rfl) (by decide) ?_
  refine lv_iload_n hx hb (dkP dF_26 DX12_caseAt (i := 3) rfl rfl) rfl (lv_at hl 0 rfl) ?_
  refine lv_imul hx hb (dkP dF_104 DX12_caseAt (i := 4) rfl rfl) ?_
  refine z_top (y := nI (40 * k)) (by simp only [fa_lit, nI_add, pk_mul]) ?_
  refine lv_iload_n hx hb (dkP dF_27 DX12_caseAt (i := 5) rfl rfl) rfl (lv_at hl 1 rfl) ?_
  refine lv_iadd hx hb (dkP dF_96 DX12_caseAt (i := 6) rfl rfl) ?_
  refine z_top (y := nI ((40 * k) + l_)) (by simp only [fa_lit, nI_add, pk_mul]) ?_
  refine lv_imul hx hb (dkP dF_104 DX12_caseAt (i := 7) rfl rfl) ?_
  refine z_top (y := nI (2 * ((40 * k) + l_))) (by simp only [fa_lit, nI_add, pk_mul]) ?_
  refine lv_iadd hx hb (dkP dF_96 DX12_caseAt (i := 8) rfl rfl) ?_
  refine z_top (y := nI (3240 + (2 * ((40 * k) + l_)))) (by simp only [fa_lit, nI_add, pk_mul]) ?_
  exact z_iret C0 hr hlk hw rfl (dkP dF_172 DX12_caseAt (i := 9) rfl rfl)
set_option maxRecDepth 100000 in
set_option maxHeartbeats 4000000 in
theorem c_X12_testAt (l : Launch) (G : va_G) (kc : KC)  (k : Nat) (l_ : Nat) (t_ : Nat)  : MI l G kc yX12_testAt cX12_testAt 3 (some .int) 0 0 [.int (nI k), .int (nI l_), .int (nI t_)] [] a00 s00 (fun r _ => r = nI (3880 + 12 * (100 * (40 * k + l_) + t_))) := by
  intro sz
  refine z_body (y := yX12_testAt) (n := 3) (av := [.int (nI k), .int (nI l_), .int (nI t_)]) (Qc := fun A => va_Qi (fun r _ => r = nI (3880 + 12 * (100 * (40 * k + l_) + t_))) (PoC G kc [] a00 A) A) (plainFor_of_name (by decide)) (Nat.le_of_ble_eq_true rfl) (fun pr e s m below meth c A C0 hr hlk hnm hw hRo ls hl => ?_) sz
  have hx := C0.1
  have hb := C0.2.1
  have hown := C0.2.2.2.1
  have hts := C0.2.2.2.2.1
  have hl : lv_has ls 3 [(0, .int (nI k)), (1, .int (nI l_)), (2, .int (nI t_))] := hl
  refine lv_sipush (v := 3880) hx hb (dkS dF_17 DX12_testAt (i := 0) rfl rfl rfl) (by decide) ?_
  refine lv_bipush (v := 12) hx hb (dks dF_16 DX12_testAt (i := 1) rfl rfl rfl) (by decide) ?_
  refine lv_bipush (v := 100) hx hb (dks dF_16 DX12_testAt (i := 2) rfl rfl rfl) (by decide) ?_
  refine lv_bipush (v := 40) hx hb (dks dF_16 DX12_testAt (i := 3) rfl rfl rfl) (by decide) ?_
  refine lv_iload_n hx hb (dkP dF_26 DX12_testAt (i := 4) rfl rfl) rfl (lv_at hl 0 rfl) ?_
  refine lv_imul hx hb (dkP dF_104 DX12_testAt (i := 5) rfl rfl) ?_
  refine z_top (y := nI (40 * k)) (by simp only [fa_lit, nI_add, pk_mul]) ?_
  refine lv_iload_n hx hb (dkP dF_27 DX12_testAt (i := 6) rfl rfl) rfl (lv_at hl 1 rfl) ?_
  refine lv_iadd hx hb (dkP dF_96 DX12_testAt (i := 7) rfl rfl) ?_
  refine z_top (y := nI ((40 * k) + l_)) (by simp only [fa_lit, nI_add, pk_mul]) ?_
  refine lv_imul hx hb (dkP dF_104 DX12_testAt (i := 8) rfl rfl) ?_
  refine z_top (y := nI (100 * ((40 * k) + l_))) (by simp only [fa_lit, nI_add, pk_mul]) ?_
  refine lv_iload_n hx hb (dkP dF_28 DX12_testAt (i := 9) rfl rfl) rfl (lv_at hl 2 rfl) ?_
  refine lv_iadd hx hb (dkP dF_96 DX12_testAt (i := 10) rfl rfl) ?_
  refine z_top (y := nI ((100 * ((40 * k) + l_)) + t_)) (by simp only [fa_lit, nI_add, pk_mul]) ?_
  refine lv_imul hx hb (dkP dF_104 DX12_testAt (i := 11) rfl rfl) ?_
  refine z_top (y := nI (12 * ((100 * ((40 * k) + l_)) + t_))) (by simp only [fa_lit, nI_add, pk_mul]) ?_
  refine lv_iadd hx hb (dkP dF_96 DX12_testAt (i := 12) rfl rfl) ?_
  refine z_top (y := nI (3880 + (12 * ((100 * ((40 * k) + l_)) + t_)))) (by simp only [fa_lit, nI_add, pk_mul]) ?_
  exact z_iret C0 hr hlk hw rfl (dkP dF_172 DX12_testAt (i := 13) rfl rfl)
set_option maxRecDepth 100000 in
set_option maxHeartbeats 4000000 in
theorem c_X12_putAt (l : Launch) (G : va_G) (kc : KC)  (k : Nat) (l_ : Nat) (t_ : Nat)  : MI l G kc yX12_putAt cX12_putAt 3 (some .int) 0 0 [.int (nI k), .int (nI l_), .int (nI t_)] [] a00 s00 (fun r _ => r = nI (387880 + 10 * (8 * (40 * k + l_) + t_))) := by
  intro sz
  refine z_body (y := yX12_putAt) (n := 3) (av := [.int (nI k), .int (nI l_), .int (nI t_)]) (Qc := fun A => va_Qi (fun r _ => r = nI (387880 + 10 * (8 * (40 * k + l_) + t_))) (PoC G kc [] a00 A) A) (plainFor_of_name (by decide)) (Nat.le_of_ble_eq_true rfl) (fun pr e s m below meth c A C0 hr hlk hnm hw hRo ls hl => ?_) sz
  have hx := C0.1
  have hb := C0.2.1
  have hown := C0.2.2.2.1
  have hts := C0.2.2.2.2.1
  have hl : lv_has ls 3 [(0, .int (nI k)), (1, .int (nI l_)), (2, .int (nI t_))] := hl
  refine lv_ldc hx hb hown (hts _ kn_X12_144) (dk1 dF_18 DX12_putAt (i := 0) rfl rfl rfl) ?_
  refine lv_bipush (v := 10) hx hb (dks dF_16 DX12_putAt (i := 1) rfl rfl rfl) (by decide) ?_
  refine lv_bipush (v := 8) hx hb (dks dF_16 DX12_putAt (i := 2) rfl rfl rfl) (by decide) ?_
  refine lv_bipush (v := 40) hx hb (dks dF_16 DX12_putAt (i := 3) rfl rfl rfl) (by decide) ?_
  refine lv_iload_n hx hb (dkP dF_26 DX12_putAt (i := 4) rfl rfl) rfl (lv_at hl 0 rfl) ?_
  refine lv_imul hx hb (dkP dF_104 DX12_putAt (i := 5) rfl rfl) ?_
  refine z_top (y := nI (40 * k)) (by simp only [fa_lit, nI_add, pk_mul]) ?_
  refine lv_iload_n hx hb (dkP dF_27 DX12_putAt (i := 6) rfl rfl) rfl (lv_at hl 1 rfl) ?_
  refine lv_iadd hx hb (dkP dF_96 DX12_putAt (i := 7) rfl rfl) ?_
  refine z_top (y := nI ((40 * k) + l_)) (by simp only [fa_lit, nI_add, pk_mul]) ?_
  refine lv_imul hx hb (dkP dF_104 DX12_putAt (i := 8) rfl rfl) ?_
  refine z_top (y := nI (8 * ((40 * k) + l_))) (by simp only [fa_lit, nI_add, pk_mul]) ?_
  refine lv_iload_n hx hb (dkP dF_28 DX12_putAt (i := 9) rfl rfl) rfl (lv_at hl 2 rfl) ?_
  refine lv_iadd hx hb (dkP dF_96 DX12_putAt (i := 10) rfl rfl) ?_
  refine z_top (y := nI ((8 * ((40 * k) + l_)) + t_)) (by simp only [fa_lit, nI_add, pk_mul]) ?_
  refine lv_imul hx hb (dkP dF_104 DX12_putAt (i := 11) rfl rfl) ?_
  refine z_top (y := nI (10 * ((8 * ((40 * k) + l_)) + t_))) (by simp only [fa_lit, nI_add, pk_mul]) ?_
  refine lv_iadd hx hb (dkP dF_96 DX12_putAt (i := 12) rfl rfl) ?_
  refine z_top (y := nI (387880 + (10 * ((8 * ((40 * k) + l_)) + t_)))) (by simp only [fa_lit, nI_add, pk_mul]) ?_
  exact z_iret C0 hr hlk hw rfl (dkP dF_172 DX12_putAt (i := 13) rfl rfl)
set_option maxRecDepth 100000 in
set_option maxHeartbeats 4000000 in
theorem c_J9_max_7cf53 (l : Launch) (G : va_G) (kc : KC)  (x : Int32) (y : Int32)  : MI l G kc yJ9_max_7cf53 cJ9_max_7cf53 2 (some .int) 0 0 [.int x, .int y] [] a00 s00 (fun r _ => r = if x.toInt < y.toInt then y else x) := by
  intro sz
  refine z_body (y := yJ9_max_7cf53) (n := 2) (av := [.int x, .int y]) (Qc := fun A => va_Qi (fun r _ => r = if x.toInt < y.toInt then y else x) (PoC G kc [] a00 A) A) (by decide +kernel) (Nat.le_of_ble_eq_true rfl) (fun pr e s m below meth c A C0 hr hlk hnm hw hRo ls hl => ?_) sz
  have hx := C0.1
  have hb := C0.2.1
  have hown := C0.2.2.2.1
  have hts := C0.2.2.2.2.1
  have hl : lv_has ls 2 [(0, .int x), (1, .int y)] := hl
  refine lv_iload_n hx hb (dkP dF_26 DJ9_max_7cf53 (i := 0) rfl rfl) rfl (lv_at hl 0 rfl) ?_
  refine lv_iload_n hx hb (dkP dF_27 DJ9_max_7cf53 (i := 1) rfl rfl) rfl (lv_at hl 1 rfl) ?_
  refine lv_icmp_lt (tgt := 9) hx hb (dkS dF_161 DJ9_max_7cf53 (i := 2) rfl rfl rfl) (by decide) (fun c1 => ?_) (fun c1 => ?_)
  · skip
    refine lv_iload_n hx hb (dkP dF_27 DJ9_max_7cf53 (i := 5) rfl rfl) rfl (lv_at hl 1 rfl) ?_
    exact z_iret C0 hr hlk hw (by simp only [ta_lt] at c1; simp only [c1, if_true, if_false]) (dkP dF_172 DJ9_max_7cf53 (i := 6) rfl rfl)
  · skip
    refine lv_iload_n hx hb (dkP dF_26 DJ9_max_7cf53 (i := 3) rfl rfl) rfl (lv_at hl 0 rfl) ?_
    refine lv_goto (tgt := 10) hx hb (dkS dF_167 DJ9_max_7cf53 (i := 4) rfl rfl rfl) (by decide) ?_
    exact z_iret C0 hr hlk hw (by simp only [ta_lt] at c1; simp only [c1, if_true, if_false]) (dkP dF_172 DJ9_max_7cf53 (i := 6) rfl rfl)
set_option maxRecDepth 100000 in
set_option maxHeartbeats 4000000 in
theorem c_X12_good (l : Launch) (G : va_G) (kc : KC) (ad : Nat → Nat) (σ : Sg)    : MI l G kc yX12_good cX12_good 1 (some .boolean) 0 0 [.ref (ad 0)] shM ad σ (fun r σ1 => ((r = 1 ∧ (σ.1 0 12 = 0)) ∨ (r = 0 ∧ ¬ (σ.1 0 12 = 0))) ∧ σ1 = σ) := by
  intro sz
  refine z_body (y := yX12_good) (n := 1) (av := [.ref (ad 0)]) (Qc := fun A => va_Qi (fun r σ1 => ((r = 1 ∧ (σ.1 0 12 = 0)) ∨ (r = 0 ∧ ¬ (σ.1 0 12 = 0))) ∧ σ1 = σ) (PoC G kc shM ad A) A) (plainFor_of_name (by decide)) (Nat.le_of_ble_eq_true rfl) (fun pr e s m below meth c A C0 hr hlk hnm hw hRo ls hl => ?_) sz
  have hx := C0.1
  have hb := C0.2.1
  have hown := C0.2.2.2.1
  have hts := C0.2.2.2.2.1
  have hl : lv_has ls 1 [(0, .ref (ad 0))] := hl
  refine lv_aload_n hx hb (dkP dF_42 DX12_good (i := 0) rfl rfl) rfl (lv_at hl 0 rfl) ?_
  refine z_gi C0 hw 0 12 rfl fl_X12_187 (dk2 dF_180 DX12_good (i := 1) rfl rfl rfl) ?_
  refine lv_if_ne (tgt := 11) hx hb (dkS dF_154 DX12_good (i := 2) rfl rfl rfl) (by decide) (fun c1 => ?_) (fun c1 => ?_)
  · skip
    refine lv_iconst (v := 0) hx hb (dkP dF_3 DX12_good (i := 5) rfl rfl) (by decide) ?_
    exact z_zret C0 hr hlk (by decide) hw (⟨Or.inr ⟨rfl, (by first | assumption | simp_all)⟩, rfl⟩) (dkP dF_172 DX12_good (i := 6) rfl rfl)
  · skip
    refine lv_iconst (v := 1) hx hb (dkP dF_4 DX12_good (i := 3) rfl rfl) (by decide) ?_
    refine lv_goto (tgt := 12) hx hb (dkS dF_167 DX12_good (i := 4) rfl rfl rfl) (by decide) ?_
    exact z_zret C0 hr hlk (by decide) hw (⟨Or.inl ⟨rfl, (by first | assumption | simp_all)⟩, rfl⟩) (dkP dF_172 DX12_good (i := 6) rfl rfl)
