set_option maxRecDepth 100000 in
set_option maxHeartbeats 4000000 in
theorem c_X11_isProgram (l : Launch) (G : va_G) (kc : KC)  (p : Int32)  : MI l G kc yX11_isProgram cX11_isProgram 1 (some .boolean) 0 0 [.int p] [] a00 s00 (fun r _ => ((r = 1 ∧ (0 ≤ p.toInt ∧ p.toInt ≤ 7)) ∨ (r = 0 ∧ ¬ (0 ≤ p.toInt ∧ p.toInt ≤ 7)))) := by
  intro sz
  refine z_body (y := yX11_isProgram) (n := 1) (av := [.int p]) (Qc := fun A => va_Qi (fun r _ => ((r = 1 ∧ (0 ≤ p.toInt ∧ p.toInt ≤ 7)) ∨ (r = 0 ∧ ¬ (0 ≤ p.toInt ∧ p.toInt ≤ 7)))) (PoC G kc [] a00 A) A) (plainFor_of_name (by decide)) (Nat.le_of_ble_eq_true rfl) (fun pr e s m below meth c A C0 hr hlk hnm hw hRo ls hl => ?_) sz
  have hx := C0.1
  have hb := C0.2.1
  have hown := C0.2.2.2.1
  have hts := C0.2.2.2.2.1
  have hl : lv_has ls 1 [(0, .int p)] := hl
  refine lv_iload_n hx hb (dkP dF_26 DX11_isProgram (i := 0) rfl rfl) rfl (lv_at hl 0 rfl) ?_
  refine lv_if_lt (tgt := 14) hx hb (dkS dF_155 DX11_isProgram (i := 1) rfl rfl rfl) (by decide) (fun c1 => ?_) (fun c1 => ?_)
  · skip
    refine lv_iconst (v := 0) hx hb (dkP dF_3 DX11_isProgram (i := 7) rfl rfl) (by decide) ?_
    exact z_zret C0 hr hlk (by decide) hw (Or.inr ⟨rfl, (by (try simp only [lg_cmp_lt, lg_cmp_le, lg_cmp_gt, lg_cmp_ge, lg_cmp_eq] at c1); (try simp (disch := omega) only [ta_lt, ta_le, ta_eq, tb_lt, tb_le, tb_eq, tw, tnI, tn32 1 (by decide), tnj 1 (by decide), tl32 0 (by decide), tl64 0 (by decide)] at c1); (try simp (disch := omega) only [ta_lt, ta_le, ta_eq, tb_lt, tb_le, tb_eq, tw, tnI, tn32 1 (by decide), tnj 1 (by decide), tl32 0 (by decide), tl64 0 (by decide)]); omega)⟩) (dkP dF_172 DX11_isProgram (i := 8) rfl rfl)
  · skip
    refine lv_iload_n hx hb (dkP dF_26 DX11_isProgram (i := 2) rfl rfl) rfl (lv_at hl 0 rfl) ?_
    refine lv_bipush (v := 8) hx hb (dks dF_16 DX11_isProgram (i := 3) rfl rfl rfl) (by decide) ?_
    refine lv_icmp_ge (tgt := 14) hx hb (dkS dF_162 DX11_isProgram (i := 4) rfl rfl rfl) (by decide) (fun c2 => ?_) (fun c2 => ?_)
    · skip
      refine lv_iconst (v := 0) hx hb (dkP dF_3 DX11_isProgram (i := 7) rfl rfl) (by decide) ?_
      exact z_zret C0 hr hlk (by decide) hw (Or.inr ⟨rfl, (by (try simp only [lg_cmp_lt, lg_cmp_le, lg_cmp_gt, lg_cmp_ge, lg_cmp_eq] at c1); (try simp (disch := omega) only [ta_lt, ta_le, ta_eq, tb_lt, tb_le, tb_eq, tw, tnI, tn32 1 (by decide), tnj 1 (by decide), tl32 0 (by decide), tl64 0 (by decide), tl32 8 (by decide), tl64 8 (by decide)] at c1); (try simp only [lg_cmp_lt, lg_cmp_le, lg_cmp_gt, lg_cmp_ge, lg_cmp_eq] at c2); (try simp (disch := omega) only [ta_lt, ta_le, ta_eq, tb_lt, tb_le, tb_eq, tw, tnI, tn32 1 (by decide), tnj 1 (by decide), tl32 0 (by decide), tl64 0 (by decide), tl32 8 (by decide), tl64 8 (by decide)] at c2); (try simp (disch := omega) only [ta_lt, ta_le, ta_eq, tb_lt, tb_le, tb_eq, tw, tnI, tn32 1 (by decide), tnj 1 (by decide), tl32 0 (by decide), tl64 0 (by decide), tl32 8 (by decide), tl64 8 (by decide)]); omega)⟩) (dkP dF_172 DX11_isProgram (i := 8) rfl rfl)
    · skip
      refine lv_iconst (v := 1) hx hb (dkP dF_4 DX11_isProgram (i := 5) rfl rfl) (by decide) ?_
      refine lv_goto (tgt := 15) hx hb (dkS dF_167 DX11_isProgram (i := 6) rfl rfl rfl) (by decide) ?_
      exact z_zret C0 hr hlk (by decide) hw (Or.inl ⟨rfl, (by (try simp only [lg_cmp_lt, lg_cmp_le, lg_cmp_gt, lg_cmp_ge, lg_cmp_eq] at c1); (try simp (disch := omega) only [ta_lt, ta_le, ta_eq, tb_lt, tb_le, tb_eq, tw, tnI, tn32 1 (by decide), tnj 1 (by decide), tl32 0 (by decide), tl64 0 (by decide), tl32 1 (by decide), tl64 1 (by decide), tl32 8 (by decide), tl64 8 (by decide)] at c1); (try simp only [lg_cmp_lt, lg_cmp_le, lg_cmp_gt, lg_cmp_ge, lg_cmp_eq] at c2); (try simp (disch := omega) only [ta_lt, ta_le, ta_eq, tb_lt, tb_le, tb_eq, tw, tnI, tn32 1 (by decide), tnj 1 (by decide), tl32 0 (by decide), tl64 0 (by decide), tl32 1 (by decide), tl64 1 (by decide), tl32 8 (by decide), tl64 8 (by decide)] at c2); (try simp (disch := omega) only [ta_lt, ta_le, ta_eq, tb_lt, tb_le, tb_eq, tw, tnI, tn32 1 (by decide), tnj 1 (by decide), tl32 0 (by decide), tl64 0 (by decide), tl32 1 (by decide), tl64 1 (by decide), tl32 8 (by decide), tl64 8 (by decide)]); omega)⟩) (dkP dF_172 DX11_isProgram (i := 8) rfl rfl)
set_option maxRecDepth 100000 in
set_option maxHeartbeats 4000000 in
theorem c_X11_isField (l : Launch) (G : va_G) (kc : KC)  (p : Int32)  : MI l G kc yX11_isField cX11_isField 1 (some .boolean) 0 0 [.int p] [] a00 s00 (fun r _ => ((r = 1 ∧ (0 ≤ p.toInt ∧ p.toInt ≤ 7)) ∨ (r = 0 ∧ ¬ (0 ≤ p.toInt ∧ p.toInt ≤ 7)))) := by
  intro sz
  refine z_body (y := yX11_isField) (n := 1) (av := [.int p]) (Qc := fun A => va_Qi (fun r _ => ((r = 1 ∧ (0 ≤ p.toInt ∧ p.toInt ≤ 7)) ∨ (r = 0 ∧ ¬ (0 ≤ p.toInt ∧ p.toInt ≤ 7)))) (PoC G kc [] a00 A) A) (plainFor_of_name (by decide)) (Nat.le_of_ble_eq_true rfl) (fun pr e s m below meth c A C0 hr hlk hnm hw hRo ls hl => ?_) sz
  have hx := C0.1
  have hb := C0.2.1
  have hown := C0.2.2.2.1
  have hts := C0.2.2.2.2.1
  have hl : lv_has ls 1 [(0, .int p)] := hl
  refine lv_iload_n hx hb (dkP dF_26 DX11_isField (i := 0) rfl rfl) rfl (lv_at hl 0 rfl) ?_
  refine lv_if_lt (tgt := 14) hx hb (dkS dF_155 DX11_isField (i := 1) rfl rfl rfl) (by decide) (fun c1 => ?_) (fun c1 => ?_)
  · skip
    refine lv_iconst (v := 0) hx hb (dkP dF_3 DX11_isField (i := 7) rfl rfl) (by decide) ?_
    exact z_zret C0 hr hlk (by decide) hw (Or.inr ⟨rfl, (by (try simp only [lg_cmp_lt, lg_cmp_le, lg_cmp_gt, lg_cmp_ge, lg_cmp_eq] at c1); (try simp (disch := omega) only [ta_lt, ta_le, ta_eq, tb_lt, tb_le, tb_eq, tw, tnI, tn32 1 (by decide), tnj 1 (by decide), tl32 0 (by decide), tl64 0 (by decide)] at c1); (try simp (disch := omega) only [ta_lt, ta_le, ta_eq, tb_lt, tb_le, tb_eq, tw, tnI, tn32 1 (by decide), tnj 1 (by decide), tl32 0 (by decide), tl64 0 (by decide)]); omega)⟩) (dkP dF_172 DX11_isField (i := 8) rfl rfl)
  · skip
    refine lv_iload_n hx hb (dkP dF_26 DX11_isField (i := 2) rfl rfl) rfl (lv_at hl 0 rfl) ?_
    refine lv_bipush (v := 8) hx hb (dks dF_16 DX11_isField (i := 3) rfl rfl rfl) (by decide) ?_
    refine lv_icmp_ge (tgt := 14) hx hb (dkS dF_162 DX11_isField (i := 4) rfl rfl rfl) (by decide) (fun c2 => ?_) (fun c2 => ?_)
    · skip
      refine lv_iconst (v := 0) hx hb (dkP dF_3 DX11_isField (i := 7) rfl rfl) (by decide) ?_
      exact z_zret C0 hr hlk (by decide) hw (Or.inr ⟨rfl, (by (try simp only [lg_cmp_lt, lg_cmp_le, lg_cmp_gt, lg_cmp_ge, lg_cmp_eq] at c1); (try simp (disch := omega) only [ta_lt, ta_le, ta_eq, tb_lt, tb_le, tb_eq, tw, tnI, tn32 1 (by decide), tnj 1 (by decide), tl32 0 (by decide), tl64 0 (by decide), tl32 8 (by decide), tl64 8 (by decide)] at c1); (try simp only [lg_cmp_lt, lg_cmp_le, lg_cmp_gt, lg_cmp_ge, lg_cmp_eq] at c2); (try simp (disch := omega) only [ta_lt, ta_le, ta_eq, tb_lt, tb_le, tb_eq, tw, tnI, tn32 1 (by decide), tnj 1 (by decide), tl32 0 (by decide), tl64 0 (by decide), tl32 8 (by decide), tl64 8 (by decide)] at c2); (try simp (disch := omega) only [ta_lt, ta_le, ta_eq, tb_lt, tb_le, tb_eq, tw, tnI, tn32 1 (by decide), tnj 1 (by decide), tl32 0 (by decide), tl64 0 (by decide), tl32 8 (by decide), tl64 8 (by decide)]); omega)⟩) (dkP dF_172 DX11_isField (i := 8) rfl rfl)
    · skip
      refine lv_iconst (v := 1) hx hb (dkP dF_4 DX11_isField (i := 5) rfl rfl) (by decide) ?_
      refine lv_goto (tgt := 15) hx hb (dkS dF_167 DX11_isField (i := 6) rfl rfl rfl) (by decide) ?_
      exact z_zret C0 hr hlk (by decide) hw (Or.inl ⟨rfl, (by (try simp only [lg_cmp_lt, lg_cmp_le, lg_cmp_gt, lg_cmp_ge, lg_cmp_eq] at c1); (try simp (disch := omega) only [ta_lt, ta_le, ta_eq, tb_lt, tb_le, tb_eq, tw, tnI, tn32 1 (by decide), tnj 1 (by decide), tl32 0 (by decide), tl64 0 (by decide), tl32 1 (by decide), tl64 1 (by decide), tl32 8 (by decide), tl64 8 (by decide)] at c1); (try simp only [lg_cmp_lt, lg_cmp_le, lg_cmp_gt, lg_cmp_ge, lg_cmp_eq] at c2); (try simp (disch := omega) only [ta_lt, ta_le, ta_eq, tb_lt, tb_le, tb_eq, tw, tnI, tn32 1 (by decide), tnj 1 (by decide), tl32 0 (by decide), tl64 0 (by decide), tl32 1 (by decide), tl64 1 (by decide), tl32 8 (by decide), tl64 8 (by decide)] at c2); (try simp (disch := omega) only [ta_lt, ta_le, ta_eq, tb_lt, tb_le, tb_eq, tw, tnI, tn32 1 (by decide), tnj 1 (by decide), tl32 0 (by decide), tl64 0 (by decide), tl32 1 (by decide), tl64 1 (by decide), tl32 8 (by decide), tl64 8 (by decide)]); omega)⟩) (dkP dF_172 DX11_isField (i := 8) rfl rfl)
set_option maxRecDepth 100000 in
set_option maxHeartbeats 4000000 in
theorem c_X11_isEdge (l : Launch) (G : va_G) (kc : KC)  (p : Int32)  : MI l G kc yX11_isEdge cX11_isEdge 1 (some .boolean) 0 0 [.int p] [] a00 s00 (fun r _ => ((r = 1 ∧ (-99 ≤ p.toInt ∧ p.toInt ≤ 99)) ∨ (r = 0 ∧ ¬ (-99 ≤ p.toInt ∧ p.toInt ≤ 99)))) := by
  intro sz
  refine z_body (y := yX11_isEdge) (n := 1) (av := [.int p]) (Qc := fun A => va_Qi (fun r _ => ((r = 1 ∧ (-99 ≤ p.toInt ∧ p.toInt ≤ 99)) ∨ (r = 0 ∧ ¬ (-99 ≤ p.toInt ∧ p.toInt ≤ 99)))) (PoC G kc [] a00 A) A) (plainFor_of_name (by decide)) (Nat.le_of_ble_eq_true rfl) (fun pr e s m below meth c A C0 hr hlk hnm hw hRo ls hl => ?_) sz
  have hx := C0.1
  have hb := C0.2.1
  have hown := C0.2.2.2.1
  have hts := C0.2.2.2.2.1
  have hl : lv_has ls 1 [(0, .int p)] := hl
  refine lv_iload_n hx hb (dkP dF_26 DX11_isEdge (i := 0) rfl rfl) rfl (lv_at hl 0 rfl) ?_
  refine lv_bipush (v := (-99)) hx hb (dks dF_16 DX11_isEdge (i := 1) rfl rfl rfl) (by decide) ?_
  refine lv_icmp_lt (tgt := 16) hx hb (dkS dF_161 DX11_isEdge (i := 2) rfl rfl rfl) (by decide) (fun c1 => ?_) (fun c1 => ?_)
  · skip
    refine lv_iconst (v := 0) hx hb (dkP dF_3 DX11_isEdge (i := 8) rfl rfl) (by decide) ?_
    exact z_zret C0 hr hlk (by decide) hw (Or.inr ⟨rfl, (by (try simp only [lg_cmp_lt, lg_cmp_le, lg_cmp_gt, lg_cmp_ge, lg_cmp_eq] at c1); (try simp (disch := omega) only [ta_lt, ta_le, ta_eq, tb_lt, tb_le, tb_eq, tw, tnI, tn32 99 (by decide), tnj 99 (by decide), tn32 1 (by decide), tnj 1 (by decide), tl32 0 (by decide), tl64 0 (by decide)] at c1); (try simp (disch := omega) only [ta_lt, ta_le, ta_eq, tb_lt, tb_le, tb_eq, tw, tnI, tn32 99 (by decide), tnj 99 (by decide), tn32 1 (by decide), tnj 1 (by decide), tl32 0 (by decide), tl64 0 (by decide)]); omega)⟩) (dkP dF_172 DX11_isEdge (i := 9) rfl rfl)
  · skip
    refine lv_iload_n hx hb (dkP dF_26 DX11_isEdge (i := 3) rfl rfl) rfl (lv_at hl 0 rfl) ?_
    refine lv_bipush (v := 99) hx hb (dks dF_16 DX11_isEdge (i := 4) rfl rfl rfl) (by decide) ?_
    refine lv_icmp_gt (tgt := 16) hx hb (dkS dF_163 DX11_isEdge (i := 5) rfl rfl rfl) (by decide) (fun c2 => ?_) (fun c2 => ?_)
    · skip
      refine lv_iconst (v := 0) hx hb (dkP dF_3 DX11_isEdge (i := 8) rfl rfl) (by decide) ?_
      exact z_zret C0 hr hlk (by decide) hw (Or.inr ⟨rfl, (by (try simp only [lg_cmp_lt, lg_cmp_le, lg_cmp_gt, lg_cmp_ge, lg_cmp_eq] at c1); (try simp (disch := omega) only [ta_lt, ta_le, ta_eq, tb_lt, tb_le, tb_eq, tw, tnI, tn32 99 (by decide), tnj 99 (by decide), tn32 1 (by decide), tnj 1 (by decide), tl32 0 (by decide), tl64 0 (by decide), tl32 99 (by decide), tl64 99 (by decide)] at c1); (try simp only [lg_cmp_lt, lg_cmp_le, lg_cmp_gt, lg_cmp_ge, lg_cmp_eq] at c2); (try simp (disch := omega) only [ta_lt, ta_le, ta_eq, tb_lt, tb_le, tb_eq, tw, tnI, tn32 99 (by decide), tnj 99 (by decide), tn32 1 (by decide), tnj 1 (by decide), tl32 0 (by decide), tl64 0 (by decide), tl32 99 (by decide), tl64 99 (by decide)] at c2); (try simp (disch := omega) only [ta_lt, ta_le, ta_eq, tb_lt, tb_le, tb_eq, tw, tnI, tn32 99 (by decide), tnj 99 (by decide), tn32 1 (by decide), tnj 1 (by decide), tl32 0 (by decide), tl64 0 (by decide), tl32 99 (by decide), tl64 99 (by decide)]); omega)⟩) (dkP dF_172 DX11_isEdge (i := 9) rfl rfl)
    · skip
      refine lv_iconst (v := 1) hx hb (dkP dF_4 DX11_isEdge (i := 6) rfl rfl) (by decide) ?_
      refine lv_goto (tgt := 17) hx hb (dkS dF_167 DX11_isEdge (i := 7) rfl rfl rfl) (by decide) ?_
      exact z_zret C0 hr hlk (by decide) hw (Or.inl ⟨rfl, (by (try simp only [lg_cmp_lt, lg_cmp_le, lg_cmp_gt, lg_cmp_ge, lg_cmp_eq] at c1); (try simp (disch := omega) only [ta_lt, ta_le, ta_eq, tb_lt, tb_le, tb_eq, tw, tnI, tn32 99 (by decide), tnj 99 (by decide), tn32 1 (by decide), tnj 1 (by decide), tl32 0 (by decide), tl64 0 (by decide), tl32 1 (by decide), tl64 1 (by decide), tl32 99 (by decide), tl64 99 (by decide)] at c1); (try simp only [lg_cmp_lt, lg_cmp_le, lg_cmp_gt, lg_cmp_ge, lg_cmp_eq] at c2); (try simp (disch := omega) only [ta_lt, ta_le, ta_eq, tb_lt, tb_le, tb_eq, tw, tnI, tn32 99 (by decide), tnj 99 (by decide), tn32 1 (by decide), tnj 1 (by decide), tl32 0 (by decide), tl64 0 (by decide), tl32 1 (by decide), tl64 1 (by decide), tl32 99 (by decide), tl64 99 (by decide)] at c2); (try simp (disch := omega) only [ta_lt, ta_le, ta_eq, tb_lt, tb_le, tb_eq, tw, tnI, tn32 99 (by decide), tnj 99 (by decide), tn32 1 (by decide), tnj 1 (by decide), tl32 0 (by decide), tl64 0 (by decide), tl32 1 (by decide), tl64 1 (by decide), tl32 99 (by decide), tl64 99 (by decide)]); omega)⟩) (dkP dF_172 DX11_isEdge (i := 9) rfl rfl)
set_option maxRecDepth 100000 in
set_option maxHeartbeats 4000000 in
theorem c_X11_isInRange (l : Launch) (G : va_G) (kc : KC)  (p : Int32)  : MI l G kc yX11_isInRange cX11_isInRange 1 (some .boolean) 0 0 [.int p] [] a00 s00 (fun r _ => ((r = 1 ∧ (-9999 ≤ p.toInt ∧ p.toInt ≤ 9999)) ∨ (r = 0 ∧ ¬ (-9999 ≤ p.toInt ∧ p.toInt ≤ 9999)))) := by
  intro sz
  refine z_body (y := yX11_isInRange) (n := 1) (av := [.int p]) (Qc := fun A => va_Qi (fun r _ => ((r = 1 ∧ (-9999 ≤ p.toInt ∧ p.toInt ≤ 9999)) ∨ (r = 0 ∧ ¬ (-9999 ≤ p.toInt ∧ p.toInt ≤ 9999)))) (PoC G kc [] a00 A) A) (plainFor_of_name (by decide)) (Nat.le_of_ble_eq_true rfl) (fun pr e s m below meth c A C0 hr hlk hnm hw hRo ls hl => ?_) sz
  have hx := C0.1
  have hb := C0.2.1
  have hown := C0.2.2.2.1
  have hts := C0.2.2.2.2.1
  have hl : lv_has ls 1 [(0, .int p)] := hl
  refine lv_iload_n hx hb (dkP dF_26 DX11_isInRange (i := 0) rfl rfl) rfl (lv_at hl 0 rfl) ?_
  refine lv_sipush (v := (-9999)) hx hb (dkS dF_17 DX11_isInRange (i := 1) rfl rfl rfl) (by decide) ?_
  refine lv_icmp_lt (tgt := 18) hx hb (dkS dF_161 DX11_isInRange (i := 2) rfl rfl rfl) (by decide) (fun c1 => ?_) (fun c1 => ?_)
  · skip
    refine lv_iconst (v := 0) hx hb (dkP dF_3 DX11_isInRange (i := 8) rfl rfl) (by decide) ?_
    exact z_zret C0 hr hlk (by decide) hw (Or.inr ⟨rfl, (by (try simp only [lg_cmp_lt, lg_cmp_le, lg_cmp_gt, lg_cmp_ge, lg_cmp_eq] at c1); (try simp (disch := omega) only [ta_lt, ta_le, ta_eq, tb_lt, tb_le, tb_eq, tw, tnI, tn32 9999 (by decide), tnj 9999 (by decide), tn32 1 (by decide), tnj 1 (by decide), tl32 0 (by decide), tl64 0 (by decide)] at c1); (try simp (disch := omega) only [ta_lt, ta_le, ta_eq, tb_lt, tb_le, tb_eq, tw, tnI, tn32 9999 (by decide), tnj 9999 (by decide), tn32 1 (by decide), tnj 1 (by decide), tl32 0 (by decide), tl64 0 (by decide)]); omega)⟩) (dkP dF_172 DX11_isInRange (i := 9) rfl rfl)
  · skip
    refine lv_iload_n hx hb (dkP dF_26 DX11_isInRange (i := 3) rfl rfl) rfl (lv_at hl 0 rfl) ?_
    refine lv_sipush (v := 9999) hx hb (dkS dF_17 DX11_isInRange (i := 4) rfl rfl rfl) (by decide) ?_
    refine lv_icmp_gt (tgt := 18) hx hb (dkS dF_163 DX11_isInRange (i := 5) rfl rfl rfl) (by decide) (fun c2 => ?_) (fun c2 => ?_)
    · skip
      refine lv_iconst (v := 0) hx hb (dkP dF_3 DX11_isInRange (i := 8) rfl rfl) (by decide) ?_
      exact z_zret C0 hr hlk (by decide) hw (Or.inr ⟨rfl, (by (try simp only [lg_cmp_lt, lg_cmp_le, lg_cmp_gt, lg_cmp_ge, lg_cmp_eq] at c1); (try simp (disch := omega) only [ta_lt, ta_le, ta_eq, tb_lt, tb_le, tb_eq, tw, tnI, tn32 9999 (by decide), tnj 9999 (by decide), tn32 1 (by decide), tnj 1 (by decide), tl32 0 (by decide), tl64 0 (by decide), tl32 9999 (by decide), tl64 9999 (by decide)] at c1); (try simp only [lg_cmp_lt, lg_cmp_le, lg_cmp_gt, lg_cmp_ge, lg_cmp_eq] at c2); (try simp (disch := omega) only [ta_lt, ta_le, ta_eq, tb_lt, tb_le, tb_eq, tw, tnI, tn32 9999 (by decide), tnj 9999 (by decide), tn32 1 (by decide), tnj 1 (by decide), tl32 0 (by decide), tl64 0 (by decide), tl32 9999 (by decide), tl64 9999 (by decide)] at c2); (try simp (disch := omega) only [ta_lt, ta_le, ta_eq, tb_lt, tb_le, tb_eq, tw, tnI, tn32 9999 (by decide), tnj 9999 (by decide), tn32 1 (by decide), tnj 1 (by decide), tl32 0 (by decide), tl64 0 (by decide), tl32 9999 (by decide), tl64 9999 (by decide)]); omega)⟩) (dkP dF_172 DX11_isInRange (i := 9) rfl rfl)
    · skip
      refine lv_iconst (v := 1) hx hb (dkP dF_4 DX11_isInRange (i := 6) rfl rfl) (by decide) ?_
      refine lv_goto (tgt := 19) hx hb (dkS dF_167 DX11_isInRange (i := 7) rfl rfl rfl) (by decide) ?_
      exact z_zret C0 hr hlk (by decide) hw (Or.inl ⟨rfl, (by (try simp only [lg_cmp_lt, lg_cmp_le, lg_cmp_gt, lg_cmp_ge, lg_cmp_eq] at c1); (try simp (disch := omega) only [ta_lt, ta_le, ta_eq, tb_lt, tb_le, tb_eq, tw, tnI, tn32 9999 (by decide), tnj 9999 (by decide), tn32 1 (by decide), tnj 1 (by decide), tl32 0 (by decide), tl64 0 (by decide), tl32 1 (by decide), tl64 1 (by decide), tl32 9999 (by decide), tl64 9999 (by decide)] at c1); (try simp only [lg_cmp_lt, lg_cmp_le, lg_cmp_gt, lg_cmp_ge, lg_cmp_eq] at c2); (try simp (disch := omega) only [ta_lt, ta_le, ta_eq, tb_lt, tb_le, tb_eq, tw, tnI, tn32 9999 (by decide), tnj 9999 (by decide), tn32 1 (by decide), tnj 1 (by decide), tl32 0 (by decide), tl64 0 (by decide), tl32 1 (by decide), tl64 1 (by decide), tl32 9999 (by decide), tl64 9999 (by decide)] at c2); (try simp (disch := omega) only [ta_lt, ta_le, ta_eq, tb_lt, tb_le, tb_eq, tw, tnI, tn32 9999 (by decide), tnj 9999 (by decide), tn32 1 (by decide), tnj 1 (by decide), tl32 0 (by decide), tl64 0 (by decide), tl32 1 (by decide), tl64 1 (by decide), tl32 9999 (by decide), tl64 9999 (by decide)]); omega)⟩) (dkP dF_172 DX11_isInRange (i := 9) rfl rfl)
set_option maxRecDepth 100000 in
set_option maxHeartbeats 8000000 in
theorem c_X7_isSlot (l : Launch) (G : va_G) (kc : KC) (ad : Nat → Nat) (σ : Sg) (slot : Int32) (hT : TC σ) : MI l G kc yX7_isSlot cX7_isSlot 2 (some .boolean) 0 0 [.ref (ad 223), .int slot] shC ad σ (fun r σ1 => ((r = 1 ∧ (0 ≤ slot.toInt ∧ slot.toInt ≤ 3)) ∨ (r = 0 ∧ (True))) ∧ σ1 = σ) := by
  intro sz
  refine z_body (y := yX7_isSlot) (n := 2) (av := [.ref (ad 223), .int slot]) (Qc := fun A => va_Qi (fun r σ1 => ((r = 1 ∧ (0 ≤ slot.toInt ∧ slot.toInt ≤ 3)) ∨ (r = 0 ∧ (True))) ∧ σ1 = σ) (PoC G kc shC ad A) A) (plainFor_of_name (by decide)) (Nat.le_of_ble_eq_true rfl) (fun pr e s m below meth c A C0 hr hlk hnm hw hRo ls hl => ?_) sz
  have hx := C0.1
  have hb := C0.2.1
  have hown := C0.2.2.2.1
  have hts := C0.2.2.2.2.1
  have hl : lv_has ls 2 [(0, .ref (ad 223)), (1, .int slot)] := hl
  refine lv_iload_n hx hb (dkP dF_27 DX7_isSlot (i := 0) rfl rfl) rfl (lv_at hl 1 rfl) ?_
  refine lv_if_lt (tgt := 13) hx hb (dkS dF_155 DX7_isSlot (i := 1) rfl rfl rfl) (by decide) (fun c1 => ?_) (fun c1 => ?_)
  · (try simp (disch := omega) only [ta_lt, ta_le, ta_eq, tnI, tl32 0 (by decide)] at c1)
    refine lv_iconst (v := 0) hx hb (dkP dF_3 DX7_isSlot (i := 7) rfl rfl) (by decide) ?_
    exact z_zret C0 hr hlk (by decide) hw (⟨(Or.inr ⟨rfl, trivial⟩), rfl⟩) (dkP dF_172 DX7_isSlot (i := 8) rfl rfl)
  · (try simp (disch := omega) only [ta_lt, ta_le, ta_eq, tnI, tl32 0 (by decide)] at c1)
    refine lv_iload_n hx hb (dkP dF_27 DX7_isSlot (i := 2) rfl rfl) rfl (lv_at hl 1 rfl) ?_
    refine lv_iconst (v := 4) hx hb (dkP dF_7 DX7_isSlot (i := 3) rfl rfl) (by decide) ?_
    refine lv_icmp_ge (tgt := 13) hx hb (dkS dF_162 DX7_isSlot (i := 4) rfl rfl rfl) (by decide) (fun c2 => ?_) (fun c2 => ?_)
    · (try simp (disch := omega) only [ta_lt, ta_le, ta_eq, tnI, tl32 4 (by decide)] at c2)
      refine lv_iconst (v := 0) hx hb (dkP dF_3 DX7_isSlot (i := 7) rfl rfl) (by decide) ?_
      exact z_zret C0 hr hlk (by decide) hw (⟨(Or.inr ⟨rfl, trivial⟩), rfl⟩) (dkP dF_172 DX7_isSlot (i := 8) rfl rfl)
    · (try simp (disch := omega) only [ta_lt, ta_le, ta_eq, tnI, tl32 4 (by decide)] at c2)
      refine lv_iconst (v := 1) hx hb (dkP dF_4 DX7_isSlot (i := 5) rfl rfl) (by decide) ?_
      refine lv_goto (tgt := 14) hx hb (dkS dF_167 DX7_isSlot (i := 6) rfl rfl rfl) (by decide) ?_
      exact z_zret C0 hr hlk (by decide) hw (⟨(Or.inl ⟨rfl, (by (try simp only [lg_cmp_lt, lg_cmp_le, lg_cmp_gt, lg_cmp_ge, lg_cmp_eq] at c1); (try simp (disch := omega) only [ta_lt, ta_le, ta_eq, tb_lt, tb_le, tb_eq, tw, tnI, tsub1, tsv, tn32 1 (by decide), tnj 1 (by decide), tl32 0 (by decide), tl64 0 (by decide), tl32 1 (by decide), tl64 1 (by decide), tl32 4 (by decide), tl64 4 (by decide)] at c1); (try simp only [lg_cmp_lt, lg_cmp_le, lg_cmp_gt, lg_cmp_ge, lg_cmp_eq] at c2); (try simp (disch := omega) only [ta_lt, ta_le, ta_eq, tb_lt, tb_le, tb_eq, tw, tnI, tsub1, tsv, tn32 1 (by decide), tnj 1 (by decide), tl32 0 (by decide), tl64 0 (by decide), tl32 1 (by decide), tl64 1 (by decide), tl32 4 (by decide), tl64 4 (by decide)] at c2); (try simp (disch := omega) only [ta_lt, ta_le, ta_eq, tb_lt, tb_le, tb_eq, tw, tnI, tsub1, tsv, tn32 1 (by decide), tnj 1 (by decide), tl32 0 (by decide), tl64 0 (by decide), tl32 1 (by decide), tl64 1 (by decide), tl32 4 (by decide), tl64 4 (by decide)]); omega)⟩), rfl⟩) (dkP dF_172 DX7_isSlot (i := 8) rfl rfl)
