def w0r (r : Nat) : Int32 := if r = 1 ∨ r = 2 ∨ r = 3 then -1 else if 4 ≤ r ∧ r % 2 = 0 then 1 else 0
def w0 (j : Nat) : Int32 := if j = 3 then 1 else if 8 ≤ j ∧ j < 168 then w0r ((j - 8) % 20) else if 413480 ≤ j ∧ j < 413544 then -1 else 0
def sM0 : Sg := (fun i k => if i = 0 then (if k = 13 ∨ k = 27 then -1 else 0) else if i = 1 then w0 k else if i = 33 then (if k < 4 then -1 else 0) else 0, fun _ _ => 0, fun _ _ => none)
theorem mn0 (k : Nat) (h : k < 4) : sM0.1 33 k = -1 := by
  show (if k < 4 then (-1 : Int32) else 0) = -1
  rw [if_pos h]
theorem w0_p (k r : Nat) (hk : k < 8) (hr : r < 20) : sM0.1 1 (8 + 20 * k + r) = w0r r := by
  show w0 (8 + 20 * k + r) = w0r r
  unfold w0
  rw [if_neg (by omega), if_pos (by omega), show (8 + 20 * k + r - 8) % 20 = r by omega]
theorem w0_lo (k f : Nat) (hk : k < 8) (hf : f < 8) : sM0.1 1 (8 + 20 * k + 4 + 2 * f) = 1 := by
  have h := w0_p k (4 + 2 * f) hk (by omega)
  rw [show 8 + 20 * k + 4 + 2 * f = 8 + 20 * k + (4 + 2 * f) by omega, h]
  unfold w0r
  rw [if_neg (by omega), if_pos (by omega)]
theorem w0_hi (k f : Nat) (hk : k < 8) (hf : f < 8) : sM0.1 1 (8 + 20 * k + 4 + 2 * f + 1) = 0 := by
  have h := w0_p k (5 + 2 * f) hk (by omega)
  rw [show 8 + 20 * k + 4 + 2 * f + 1 = 8 + 20 * k + (5 + 2 * f) by omega, h]
  unfold w0r
  rw [if_neg (by omega), if_neg (by omega)]
theorem w0_z (j : Nat) (h : 168 ≤ j) (h2 : j < 413480 ∨ 413544 ≤ j) : sM0.1 1 j = 0 := by
  show w0 j = 0
  unfold w0
  rw [if_neg (by omega), if_neg (by omega), if_neg (by omega)]
theorem w0_c (j : Nat) (h : 413480 ≤ j) (h2 : j < 413544) : sM0.1 1 j = -1 := by
  show w0 j = -1
  unfold w0
  rw [if_neg (by omega), if_neg (by omega), if_pos (by omega)]
set_option maxRecDepth 100000 in
set_option maxHeartbeats 4000000 in
theorem c_X12_end (l : Launch) (G : va_G) (kc : Nat → ClassId) (ad : Nat → Nat)  (n : Int32)  : MI l G kc yX12_end cX12_end 2 (some .int) 1 25 [.ref (ad 0), .int n] shM ad sM0 (fun r σ1 => r = if n.toInt = 0 then 0 else -1) := by
  intro sz
  refine z_body (y := yX12_end) (n := 2) (av := [.ref (ad 0), .int n]) (Qc := fun A => va_Qi (fun r σ1 => r = if n.toInt = 0 then 0 else -1) (PoC G kc shM ad A) A) (plainFor_of_name (by decide)) (Nat.le_of_ble_eq_true rfl) (fun pr e s m below meth c A C0 hr hlk hnm hw ls hl => ?_) sz
  have hx := C0.1
  have hb := C0.2.1
  have hown := C0.2.2.2.1
  have hts := C0.2.2.2.2.1
  have hl : lv_has ls 2 [(0, .ref (ad 0)), (1, .int n)] := hl
  refine lv_iload_n hx hb (dkP dF_27 DX12_end (i := 0) rfl rfl) rfl (lv_at hl 1 rfl) ?_
  refine lv_i2l hx hb (dkP dF_133 DX12_end (i := 1) rfl rfl) rfl ?_
  refine lv_lconst (v := 0) hx hb (dkP dF_9 DX12_end (i := 2) rfl rfl) (by decide) ?_
  refine lv_aload_n hx hb (dkP dF_42 DX12_end (i := 3) rfl rfl) rfl (lv_at hl 0 rfl) ?_
  refine z_gi C0 hw 0 5 rfl fl_X12_147 (dk2 dF_180 DX12_end (i := 4) rfl rfl rfl) ?_
  refine z_top (y := 0) (by rfl) ?_
  refine lv_i2l hx hb (dkP dF_133 DX12_end (i := 5) rfl rfl) rfl ?_
  refine zn_I hw (zr_S (As := [.long n.toInt64, .long 0, .long ((0 : Int32).toInt64)]) (rest := []) C0 (c_X12_in l G kc n.toInt64 0 ((0 : Int32).toInt64)  _) cs_X12_in lk_X12_9 (zp_P C0 a00 s00) rfl hl.1 rfl ⟨by decide, by decide⟩ (Nat.le_of_ble_eq_true rfl) (dk2 dF_184 DX12_end (i := 6) rfl rfl rfl) ⟨Nat.le_refl _, Nat.le_refl _⟩) (fun r1 s1 H locs hp hw => ?_)
  rcases hp with ⟨rfl, hc1⟩ | ⟨rfl, hc1⟩
  · skip
    obtain ⟨k_n, hk_n, rfl⟩ := to_nat (x := n) (n := 1) (by (try simp only [lg_cmp_lt, lg_cmp_le, lg_cmp_gt, lg_cmp_ge, lg_cmp_eq] at hc1); (try simp (disch := omega) only [ta_lt, ta_le, ta_eq, tb_lt, tb_le, tb_eq, tw, tnI, tn32 1 (by decide), tnj 1 (by decide), tl32 0 (by decide), tl64 0 (by decide)] at hc1); (try simp (disch := omega) only [ta_lt, ta_le, ta_eq, tb_lt, tb_le, tb_eq, tw, tnI, tn32 1 (by decide), tnj 1 (by decide), tl32 0 (by decide), tl64 0 (by decide)]); omega)
    refine lv_if_ne (tgt := 16) hx hb (dkS dF_154 DX12_end (i := 7) rfl rfl rfl) (by decide) (fun _ => ?_) (fun h => absurd h (by decide))
    refine lv_aload_n hx hb (dkP dF_42 DX12_end (i := 10) rfl rfl) rfl (lv_at hl 0 rfl) ?_
    refine lv_iload_n hx hb (dkP dF_27 DX12_end (i := 11) rfl rfl) rfl (lv_at hl 1 rfl) ?_
    refine z_pi C0 hw 0 5 rfl fp_X12_147 (dk2 dF_181 DX12_end (i := 12) rfl rfl rfl) (fun H locs hw => ?_)
    refine lv_iload_n hx hb (dkP dF_27 DX12_end (i := 13) rfl rfl) rfl (lv_at hl 1 rfl) ?_
    exact z_iret C0 hr hlk hw (by first | rfl | ((try simp only [lg_cmp_lt, lg_cmp_le, lg_cmp_gt, lg_cmp_ge, lg_cmp_eq] at hc1); (try simp (disch := omega) only [ta_lt, ta_le, ta_eq, tb_lt, tb_le, tb_eq, tw, tnI, tn32 1 (by decide), tnj 1 (by decide), tl32 0 (by decide), tl64 0 (by decide)] at hc1); (try simp only [lg_cmp_lt, lg_cmp_le, lg_cmp_gt, lg_cmp_ge, lg_cmp_eq] at hk_n); (try simp (disch := omega) only [ta_lt, ta_le, ta_eq, tb_lt, tb_le, tb_eq, tw, tnI, tn32 1 (by decide), tnj 1 (by decide), tl32 0 (by decide), tl64 0 (by decide)] at hk_n); (try simp (disch := omega) only [tnI, tn32 1 (by decide), tnj 1 (by decide), tl32 0 (by decide), tl64 0 (by decide)]); (repeat' split) <;> first | rfl | omega | (apply Int32.toInt_inj.mp; simp (disch := omega) only [tnI, tn32 1 (by decide), tnj 1 (by decide), tl32 0 (by decide), tl64 0 (by decide)]; omega))) (dkP dF_172 DX12_end (i := 14) rfl rfl)
  · skip
    refine lv_if_ne (tgt := 16) hx hb (dkS dF_154 DX12_end (i := 7) rfl rfl rfl) (by decide) (fun h => absurd h (by decide)) (fun _ => ?_)
    refine lv_iconst (v := (-1)) hx hb (dkP dF_2 DX12_end (i := 8) rfl rfl) (by decide) ?_
    exact z_iret C0 hr hlk hw (by first | rfl | ((try simp only [lg_cmp_lt, lg_cmp_le, lg_cmp_gt, lg_cmp_ge, lg_cmp_eq] at hc1); (try simp (disch := omega) only [ta_lt, ta_le, ta_eq, tb_lt, tb_le, tb_eq, tw, tnI, tn32 1 (by decide), tnj 1 (by decide), tl32 0 (by decide), tl64 0 (by decide)] at hc1); (try simp (disch := omega) only [tnI, tn32 1 (by decide), tnj 1 (by decide), tl32 0 (by decide), tl64 0 (by decide)]); (repeat' split) <;> first | rfl | omega | (apply Int32.toInt_inj.mp; simp (disch := omega) only [tnI, tn32 1 (by decide), tnj 1 (by decide), tl32 0 (by decide), tl64 0 (by decide)]; omega))) (dkP dF_172 DX12_end (i := 9) rfl rfl)
set_option maxRecDepth 100000 in
set_option maxHeartbeats 4000000 in
theorem c_X12_fault (l : Launch) (G : va_G) (kc : Nat → ClassId) (ad : Nat → Nat)  (w : Int32)  : MI l G kc yX12_fault cX12_fault 2 (some .int) 0 0 [.ref (ad 0), .int w] shM ad sM0 (fun r σ1 => r = if w.toInt = 0 then 0 else -1) := by
  intro sz
  refine z_body (y := yX12_fault) (n := 2) (av := [.ref (ad 0), .int w]) (Qc := fun A => va_Qi (fun r σ1 => r = if w.toInt = 0 then 0 else -1) (PoC G kc shM ad A) A) (plainFor_of_name (by decide)) (Nat.le_of_ble_eq_true rfl) (fun pr e s m below meth c A C0 hr hlk hnm hw ls hl => ?_) sz
  have hx := C0.1
  have hb := C0.2.1
  have hown := C0.2.2.2.1
  have hts := C0.2.2.2.2.1
  have hl : lv_has ls 2 [(0, .ref (ad 0)), (1, .int w)] := hl
  refine lv_iload_n hx hb (dkP dF_27 DX12_fault (i := 0) rfl rfl) rfl (lv_at hl 1 rfl) ?_
  refine lv_if_ne (tgt := 11) hx hb (dkS dF_154 DX12_fault (i := 1) rfl rfl rfl) (by decide) (fun c1 => ?_) (fun c1 => ?_)
  · skip
    refine lv_iload_n hx hb (dkP dF_27 DX12_fault (i := 5) rfl rfl) rfl (lv_at hl 1 rfl) ?_
    refine lv_iconst (v := 1) hx hb (dkP dF_4 DX12_fault (i := 6) rfl rfl) (by decide) ?_
    refine lv_icmp_ne (tgt := 23) hx hb (dkS dF_160 DX12_fault (i := 7) rfl rfl rfl) (by decide) (fun c2 => ?_) (fun c2 => ?_)
    · skip
      refine lv_iconst (v := (-1)) hx hb (dkP dF_2 DX12_fault (i := 11) rfl rfl) (by decide) ?_
      exact z_iret C0 hr hlk hw (by first | rfl | ((try simp only [lg_cmp_lt, lg_cmp_le, lg_cmp_gt, lg_cmp_ge, lg_cmp_eq] at c1); (try simp (disch := omega) only [ta_lt, ta_le, ta_eq, tb_lt, tb_le, tb_eq, tw, tnI, tn32 1 (by decide), tnj 1 (by decide), tl32 0 (by decide), tl64 0 (by decide), tl32 1 (by decide), tl64 1 (by decide)] at c1); (try simp only [lg_cmp_lt, lg_cmp_le, lg_cmp_gt, lg_cmp_ge, lg_cmp_eq] at c2); (try simp (disch := omega) only [ta_lt, ta_le, ta_eq, tb_lt, tb_le, tb_eq, tw, tnI, tn32 1 (by decide), tnj 1 (by decide), tl32 0 (by decide), tl64 0 (by decide), tl32 1 (by decide), tl64 1 (by decide)] at c2); (try simp (disch := omega) only [tnI, tn32 1 (by decide), tnj 1 (by decide), tl32 0 (by decide), tl64 0 (by decide), tl32 1 (by decide), tl64 1 (by decide)]); (repeat' split) <;> first | rfl | omega | (apply Int32.toInt_inj.mp; simp (disch := omega) only [tnI, tn32 1 (by decide), tnj 1 (by decide), tl32 0 (by decide), tl64 0 (by decide), tl32 1 (by decide), tl64 1 (by decide)]; omega))) (dkP dF_172 DX12_fault (i := 12) rfl rfl)
    · skip
      refine lv_aload_n hx hb (dkP dF_42 DX12_fault (i := 8) rfl rfl) rfl (lv_at hl 0 rfl) ?_
      refine z_gi C0 hw 0 13 rfl fl_X12_39 (dk2 dF_180 DX12_fault (i := 9) rfl rfl rfl) ?_
      refine z_top (y := (-1)) (by rfl) ?_
      refine lv_goto (tgt := 24) hx hb (dkS dF_167 DX12_fault (i := 10) rfl rfl rfl) (by decide) ?_
      exact z_iret C0 hr hlk hw (by first | rfl | ((try simp only [lg_cmp_lt, lg_cmp_le, lg_cmp_gt, lg_cmp_ge, lg_cmp_eq] at c1); (try simp (disch := omega) only [ta_lt, ta_le, ta_eq, tb_lt, tb_le, tb_eq, tw, tnI, tn32 1 (by decide), tnj 1 (by decide), tl32 0 (by decide), tl64 0 (by decide), tl32 1 (by decide), tl64 1 (by decide)] at c1); (try simp only [lg_cmp_lt, lg_cmp_le, lg_cmp_gt, lg_cmp_ge, lg_cmp_eq] at c2); (try simp (disch := omega) only [ta_lt, ta_le, ta_eq, tb_lt, tb_le, tb_eq, tw, tnI, tn32 1 (by decide), tnj 1 (by decide), tl32 0 (by decide), tl64 0 (by decide), tl32 1 (by decide), tl64 1 (by decide)] at c2); (try simp (disch := omega) only [tnI, tn32 1 (by decide), tnj 1 (by decide), tl32 0 (by decide), tl64 0 (by decide), tl32 1 (by decide), tl64 1 (by decide)]); (repeat' split) <;> first | rfl | omega | (apply Int32.toInt_inj.mp; simp (disch := omega) only [tnI, tn32 1 (by decide), tnj 1 (by decide), tl32 0 (by decide), tl64 0 (by decide), tl32 1 (by decide), tl64 1 (by decide)]; omega))) (dkP dF_172 DX12_fault (i := 12) rfl rfl)
  · skip
    refine lv_aload_n hx hb (dkP dF_42 DX12_fault (i := 2) rfl rfl) rfl (lv_at hl 0 rfl) ?_
    refine z_gi C0 hw 0 12 rfl fl_X12_187 (dk2 dF_180 DX12_fault (i := 3) rfl rfl rfl) ?_
    refine z_top (y := 0) (by rfl) ?_
    refine lv_goto (tgt := 24) hx hb (dkS dF_167 DX12_fault (i := 4) rfl rfl rfl) (by decide) ?_
    exact z_iret C0 hr hlk hw (by first | rfl | ((try simp only [lg_cmp_lt, lg_cmp_le, lg_cmp_gt, lg_cmp_ge, lg_cmp_eq] at c1); (try simp (disch := omega) only [ta_lt, ta_le, ta_eq, tb_lt, tb_le, tb_eq, tw, tnI, tn32 1 (by decide), tnj 1 (by decide), tl32 0 (by decide), tl64 0 (by decide), tl32 1 (by decide), tl64 1 (by decide)] at c1); (try simp (disch := omega) only [tnI, tn32 1 (by decide), tnj 1 (by decide), tl32 0 (by decide), tl64 0 (by decide), tl32 1 (by decide), tl64 1 (by decide)]); (repeat' split) <;> first | rfl | omega | (apply Int32.toInt_inj.mp; simp (disch := omega) only [tnI, tn32 1 (by decide), tnj 1 (by decide), tl32 0 (by decide), tl64 0 (by decide), tl32 1 (by decide), tl64 1 (by decide)]; omega))) (dkP dF_172 DX12_fault (i := 12) rfl rfl)
set_option maxRecDepth 100000 in
set_option maxHeartbeats 4000000 in
theorem c_X12_did (l : Launch) (G : va_G) (kc : Nat → ClassId) (ad : Nat → Nat)    : MI l G kc yX12_did cX12_did 1 (some .int) 0 0 [.ref (ad 0)] shM ad sM0 (fun r σ1 => r = -1) := by
  intro sz
  refine z_body (y := yX12_did) (n := 1) (av := [.ref (ad 0)]) (Qc := fun A => va_Qi (fun r σ1 => r = -1) (PoC G kc shM ad A) A) (plainFor_of_name (by decide)) (Nat.le_of_ble_eq_true rfl) (fun pr e s m below meth c A C0 hr hlk hnm hw ls hl => ?_) sz
  have hx := C0.1
  have hb := C0.2.1
  have hown := C0.2.2.2.1
  have hts := C0.2.2.2.2.1
  have hl : lv_has ls 1 [(0, .ref (ad 0))] := hl
  refine lv_aload_n hx hb (dkP dF_42 DX12_did (i := 0) rfl rfl) rfl (lv_at hl 0 rfl) ?_
  refine z_gi C0 hw 0 27 rfl fl_X12_72 (dk2 dF_180 DX12_did (i := 1) rfl rfl rfl) ?_
  refine z_top (y := (-1)) (by rfl) ?_
  exact z_iret C0 hr hlk hw (by first | rfl | ((try simp (disch := omega) only [tnI, tn32 1 (by decide), tnj 1 (by decide), tl32 0 (by decide), tl64 0 (by decide)]); (repeat' split) <;> first | rfl | omega | (apply Int32.toInt_inj.mp; simp (disch := omega) only [tnI, tn32 1 (by decide), tnj 1 (by decide), tl32 0 (by decide), tl64 0 (by decide)]; omega))) (dkP dF_172 DX12_did (i := 2) rfl rfl)
set_option maxRecDepth 100000 in
set_option maxHeartbeats 4000000 in
theorem c_X12_dead (l : Launch) (G : va_G) (kc : Nat → ClassId) (ad : Nat → Nat)    : MI l G kc yX12_dead cX12_dead 1 (some .int) 0 0 [.ref (ad 0)] shM ad sM0 (fun r σ1 => r = 0) := by
  intro sz
  refine z_body (y := yX12_dead) (n := 1) (av := [.ref (ad 0)]) (Qc := fun A => va_Qi (fun r σ1 => r = 0) (PoC G kc shM ad A) A) (plainFor_of_name (by decide)) (Nat.le_of_ble_eq_true rfl) (fun pr e s m below meth c A C0 hr hlk hnm hw ls hl => ?_) sz
  have hx := C0.1
  have hb := C0.2.1
  have hown := C0.2.2.2.1
  have hts := C0.2.2.2.2.1
  have hl : lv_has ls 1 [(0, .ref (ad 0))] := hl
  refine lv_aload_n hx hb (dkP dF_42 DX12_dead (i := 0) rfl rfl) rfl (lv_at hl 0 rfl) ?_
  refine z_gi C0 hw 0 43 rfl fl_X12_405 (dk2 dF_180 DX12_dead (i := 1) rfl rfl rfl) ?_
  refine z_top (y := 0) (by rfl) ?_
  exact z_iret C0 hr hlk hw (by first | rfl | ((try simp (disch := omega) only [tnI, tn32 1 (by decide), tnj 1 (by decide), tl32 0 (by decide), tl64 0 (by decide)]); (repeat' split) <;> first | rfl | omega | (apply Int32.toInt_inj.mp; simp (disch := omega) only [tnI, tn32 1 (by decide), tnj 1 (by decide), tl32 0 (by decide), tl64 0 (by decide)]; omega))) (dkP dF_172 DX12_dead (i := 2) rfl rfl)
set_option maxRecDepth 100000 in
set_option maxHeartbeats 4000000 in
theorem c_X12_heaps_ (l : Launch) (G : va_G) (kc : Nat → ClassId) (ad : Nat → Nat)    : MI l G kc yX12_heaps_ cX12_heaps_ 1 (some .int) 0 0 [.ref (ad 0)] shM ad sM0 (fun r σ1 => r = 0) := by
  intro sz
  refine z_body (y := yX12_heaps_) (n := 1) (av := [.ref (ad 0)]) (Qc := fun A => va_Qi (fun r σ1 => r = 0) (PoC G kc shM ad A) A) (plainFor_of_name (by decide)) (Nat.le_of_ble_eq_true rfl) (fun pr e s m below meth c A C0 hr hlk hnm hw ls hl => ?_) sz
  have hx := C0.1
  have hb := C0.2.1
  have hown := C0.2.2.2.1
  have hts := C0.2.2.2.2.1
  have hl : lv_has ls 1 [(0, .ref (ad 0))] := hl
  refine lv_aload_n hx hb (dkP dF_42 DX12_heaps_ (i := 0) rfl rfl) rfl (lv_at hl 0 rfl) ?_
  refine z_gr C0 hw 0 1 1 rfl fl_X12_20 (dk2 dF_180 DX12_heaps_ (i := 1) rfl rfl rfl) ?_
  refine lv_iconst (v := 2) hx hb (dkP dF_5 DX12_heaps_ (i := 2) rfl rfl) (by decide) ?_
  refine z_ialdN (n := 414128) C0 hw 1 2 rfl (by omega) (by decide) (dkP dF_46 DX12_heaps_ (i := 3) rfl rfl) ?_
  refine z_top (y := 0) (by rfl) ?_
  exact z_iret C0 hr hlk hw (by first | rfl | ((try simp (disch := omega) only [tnI, tn32 1 (by decide), tnj 1 (by decide), tl32 0 (by decide), tl64 0 (by decide), tl32 2 (by decide), tl64 2 (by decide)]); (repeat' split) <;> first | rfl | omega | (apply Int32.toInt_inj.mp; simp (disch := omega) only [tnI, tn32 1 (by decide), tnj 1 (by decide), tl32 0 (by decide), tl64 0 (by decide), tl32 2 (by decide), tl64 2 (by decide)]; omega))) (dkP dF_172 DX12_heaps_ (i := 4) rfl rfl)
set_option maxRecDepth 100000 in
set_option maxHeartbeats 4000000 in
theorem c_X12_field (l : Launch) (G : va_G) (kc : Nat → ClassId) (ad : Nat → Nat)  (f : Int32)  : MI l G kc yX12_field cX12_field 2 (some .int) 2 45 [.ref (ad 0), .int f] shM ad sM0 (fun r σ1 => r = if 0 ≤ f.toInt ∧ f.toInt ≤ 7 then 0 else -1) := by
  intro sz
  refine z_body (y := yX12_field) (n := 2) (av := [.ref (ad 0), .int f]) (Qc := fun A => va_Qi (fun r σ1 => r = if 0 ≤ f.toInt ∧ f.toInt ≤ 7 then 0 else -1) (PoC G kc shM ad A) A) (plainFor_of_name (by decide)) (Nat.le_of_ble_eq_true rfl) (fun pr e s m below meth c A C0 hr hlk hnm hw ls hl => ?_) sz
  have hx := C0.1
  have hb := C0.2.1
  have hown := C0.2.2.2.1
  have hts := C0.2.2.2.2.1
  have hl : lv_has ls 2 [(0, .ref (ad 0)), (1, .int f)] := hl
  refine lv_iload_n hx hb (dkP dF_27 DX12_field (i := 0) rfl rfl) rfl (lv_at hl 1 rfl) ?_
  refine zn_I hw (zr_S (As := [.int f]) (rest := []) C0 (c_X12_isField l G kc f  _) cs_X12_isField lk_X12_332 (zp_P C0 a00 s00) rfl hl.1 rfl ⟨by decide, by decide⟩ (Nat.le_of_ble_eq_true rfl) (dk2 dF_184 DX12_field (i := 1) rfl rfl rfl) ⟨Nat.le_refl _, Nat.le_refl _⟩) (fun r1 s1 H locs hp hw => ?_)
  rcases hp with ⟨rfl, hc1⟩ | ⟨rfl, hc1⟩
  · skip
    obtain ⟨k_f, hk_f, rfl⟩ := to_nat (x := f) (n := 8) (by (try simp only [lg_cmp_lt, lg_cmp_le, lg_cmp_gt, lg_cmp_ge, lg_cmp_eq] at hc1); (try simp (disch := omega) only [ta_lt, ta_le, ta_eq, tb_lt, tb_le, tb_eq, tw, tnI, tn32 1 (by decide), tnj 1 (by decide), tl32 0 (by decide), tl64 0 (by decide)] at hc1); (try simp (disch := omega) only [ta_lt, ta_le, ta_eq, tb_lt, tb_le, tb_eq, tw, tnI, tn32 1 (by decide), tnj 1 (by decide), tl32 0 (by decide), tl64 0 (by decide)]); omega)
    refine lv_if_eq (tgt := 16) hx hb (dkS dF_153 DX12_field (i := 2) rfl rfl rfl) (by decide) (fun h => absurd h (by decide)) (fun _ => ?_)
    refine lv_aload_n hx hb (dkP dF_42 DX12_field (i := 3) rfl rfl) rfl (lv_at hl 0 rfl) ?_
    refine z_gr C0 hw 0 26 15 rfl fl_X12_69 (dk2 dF_180 DX12_field (i := 4) rfl rfl rfl) ?_
    refine lv_iload_n hx hb (dkP dF_27 DX12_field (i := 5) rfl rfl) rfl (lv_at hl 1 rfl) ?_
    refine z_ialdN (n := 8) C0 hw 15 k_f rfl (by omega) (by decide) (dkP dF_46 DX12_field (i := 6) rfl rfl) ?_
    refine z_top (y := 0) rfl ?_
    refine lv_goto (tgt := 17) hx hb (dkS dF_167 DX12_field (i := 7) rfl rfl rfl) (by decide) ?_
    exact z_iret C0 hr hlk hw (by first | rfl | ((try simp only [lg_cmp_lt, lg_cmp_le, lg_cmp_gt, lg_cmp_ge, lg_cmp_eq] at hc1); (try simp (disch := omega) only [ta_lt, ta_le, ta_eq, tb_lt, tb_le, tb_eq, tw, tnI, tn32 1 (by decide), tnj 1 (by decide), tl32 0 (by decide), tl64 0 (by decide)] at hc1); (try simp only [lg_cmp_lt, lg_cmp_le, lg_cmp_gt, lg_cmp_ge, lg_cmp_eq] at hk_f); (try simp (disch := omega) only [ta_lt, ta_le, ta_eq, tb_lt, tb_le, tb_eq, tw, tnI, tn32 1 (by decide), tnj 1 (by decide), tl32 0 (by decide), tl64 0 (by decide)] at hk_f); (try simp (disch := omega) only [tnI, tn32 1 (by decide), tnj 1 (by decide), tl32 0 (by decide), tl64 0 (by decide)]); (repeat' split) <;> first | rfl | omega | (apply Int32.toInt_inj.mp; simp (disch := omega) only [tnI, tn32 1 (by decide), tnj 1 (by decide), tl32 0 (by decide), tl64 0 (by decide)]; omega))) (dkP dF_172 DX12_field (i := 9) rfl rfl)
  · skip
    refine lv_if_eq (tgt := 16) hx hb (dkS dF_153 DX12_field (i := 2) rfl rfl rfl) (by decide) (fun _ => ?_) (fun h => absurd h (by decide))
    refine lv_iconst (v := (-1)) hx hb (dkP dF_2 DX12_field (i := 8) rfl rfl) (by decide) ?_
    exact z_iret C0 hr hlk hw (by first | rfl | ((try simp only [lg_cmp_lt, lg_cmp_le, lg_cmp_gt, lg_cmp_ge, lg_cmp_eq] at hc1); (try simp (disch := omega) only [ta_lt, ta_le, ta_eq, tb_lt, tb_le, tb_eq, tw, tnI, tn32 1 (by decide), tnj 1 (by decide), tl32 0 (by decide), tl64 0 (by decide)] at hc1); (try simp (disch := omega) only [tnI, tn32 1 (by decide), tnj 1 (by decide), tl32 0 (by decide), tl64 0 (by decide)]); (repeat' split) <;> first | rfl | omega | (apply Int32.toInt_inj.mp; simp (disch := omega) only [tnI, tn32 1 (by decide), tnj 1 (by decide), tl32 0 (by decide), tl64 0 (by decide)]; omega))) (dkP dF_172 DX12_field (i := 9) rfl rfl)
set_option maxRecDepth 100000 in
set_option maxHeartbeats 4000000 in
theorem c_X12_state (l : Launch) (G : va_G) (kc : Nat → ClassId) (ad : Nat → Nat)  (p : Int32)  : MI l G kc yX12_state cX12_state 2 (some .int) 2 45 [.ref (ad 0), .int p] shM ad sM0 (fun r σ1 => r = if (0 ≤ p.toInt ∧ p.toInt ≤ 7) then 0 else -2) := by
  intro sz
  refine z_body (y := yX12_state) (n := 2) (av := [.ref (ad 0), .int p]) (Qc := fun A => va_Qi (fun r σ1 => r = if (0 ≤ p.toInt ∧ p.toInt ≤ 7) then 0 else -2) (PoC G kc shM ad A) A) (plainFor_of_name (by decide)) (Nat.le_of_ble_eq_true rfl) (fun pr e s m below meth c A C0 hr hlk hnm hw ls hl => ?_) sz
  have hx := C0.1
  have hb := C0.2.1
  have hown := C0.2.2.2.1
  have hts := C0.2.2.2.2.1
  have hl : lv_has ls 2 [(0, .ref (ad 0)), (1, .int p)] := hl
  refine lv_iload_n hx hb (dkP dF_27 DX12_state (i := 0) rfl rfl) rfl (lv_at hl 1 rfl) ?_
  refine zn_I hw (zr_S (As := [.int p]) (rest := []) C0 (c_X12_isProgram l G kc p  _) cs_X12_isProgram lk_X12_272 (zp_P C0 a00 s00) rfl hl.1 rfl ⟨by decide, by decide⟩ (Nat.le_of_ble_eq_true rfl) (dk2 dF_184 DX12_state (i := 1) rfl rfl rfl) ⟨Nat.le_refl _, Nat.le_refl _⟩) (fun r1 s1 H locs hp hw => ?_)
  rcases hp with ⟨rfl, hc1⟩ | ⟨rfl, hc1⟩
  · skip
    obtain ⟨k_p, hk_p, rfl⟩ := to_nat (x := p) (n := 8) (by (try simp only [lg_cmp_lt, lg_cmp_le, lg_cmp_gt, lg_cmp_ge, lg_cmp_eq] at hc1); (try simp (disch := omega) only [ta_lt, ta_le, ta_eq, tb_lt, tb_le, tb_eq, tw, tnI, tn32 1 (by decide), tnj 1 (by decide), tl32 0 (by decide), tl64 0 (by decide)] at hc1); (try simp (disch := omega) only [ta_lt, ta_le, ta_eq, tb_lt, tb_le, tb_eq, tw, tnI, tn32 1 (by decide), tnj 1 (by decide), tl32 0 (by decide), tl64 0 (by decide)]); omega)
    refine lv_if_eq (tgt := 15) hx hb (dkS dF_153 DX12_state (i := 2) rfl rfl rfl) (by decide) (fun h => absurd h (by decide)) (fun _ => ?_)
    refine lv_aload_n hx hb (dkP dF_42 DX12_state (i := 3) rfl rfl) rfl (lv_at hl 0 rfl) ?_
    refine lv_iload_n hx hb (dkP dF_27 DX12_state (i := 4) rfl rfl) rfl (lv_at hl 1 rfl) ?_
    refine zk_I hw (zr_V (As := [.int (nI k_p)]) (rest := []) C0 (c_X12_stateOf l G kc ad sM0 k_p (by first | omega | assumption | decide | rfl) _) cv_X12_stateOf lk_X12_275 (zp_V C0 hw 0 rfl rfl rfl) rfl hl.1 rfl ⟨by decide, by decide⟩ (Nat.le_of_ble_eq_true rfl) (dk2 dF_182 DX12_state (i := 5) rfl rfl rfl) ⟨Nat.le_refl _, Nat.le_refl _⟩) (fun r2 s2 H locs hp hw => ?_)
    obtain ⟨rfl, hs2⟩ := hp
    subst hs2
    refine z_top (y := 0) (w0_p k_p 0 (by omega) (by decide)) ?_
    refine lv_goto (tgt := 17) hx hb (dkS dF_167 DX12_state (i := 6) rfl rfl rfl) (by decide) ?_
    exact z_iret C0 hr hlk hw (by first | rfl | ((try simp only [lg_cmp_lt, lg_cmp_le, lg_cmp_gt, lg_cmp_ge, lg_cmp_eq] at hc1); (try simp (disch := omega) only [ta_lt, ta_le, ta_eq, tb_lt, tb_le, tb_eq, tw, tnI, tn32 1 (by decide), tnj 1 (by decide), tl32 0 (by decide), tl64 0 (by decide)] at hc1); (try simp only [lg_cmp_lt, lg_cmp_le, lg_cmp_gt, lg_cmp_ge, lg_cmp_eq] at hk_p); (try simp (disch := omega) only [ta_lt, ta_le, ta_eq, tb_lt, tb_le, tb_eq, tw, tnI, tn32 1 (by decide), tnj 1 (by decide), tl32 0 (by decide), tl64 0 (by decide)] at hk_p); (try simp (disch := omega) only [tnI, tn32 1 (by decide), tnj 1 (by decide), tl32 0 (by decide), tl64 0 (by decide)]); (repeat' split) <;> first | rfl | omega | (apply Int32.toInt_inj.mp; simp (disch := omega) only [tnI, tn32 1 (by decide), tnj 1 (by decide), tl32 0 (by decide), tl64 0 (by decide)]; omega))) (dkP dF_172 DX12_state (i := 8) rfl rfl)
  · skip
    refine lv_if_eq (tgt := 15) hx hb (dkS dF_153 DX12_state (i := 2) rfl rfl rfl) (by decide) (fun _ => ?_) (fun h => absurd h (by decide))
    refine lv_bipush (v := (-2)) hx hb (dks dF_16 DX12_state (i := 7) rfl rfl rfl) (by decide) ?_
    exact z_iret C0 hr hlk hw (by first | rfl | ((try simp only [lg_cmp_lt, lg_cmp_le, lg_cmp_gt, lg_cmp_ge, lg_cmp_eq] at hc1); (try simp (disch := omega) only [ta_lt, ta_le, ta_eq, tb_lt, tb_le, tb_eq, tw, tnI, tn32 2 (by decide), tnj 2 (by decide), tn32 1 (by decide), tnj 1 (by decide), tl32 0 (by decide), tl64 0 (by decide)] at hc1); (try simp (disch := omega) only [tnI, tn32 2 (by decide), tnj 2 (by decide), tn32 1 (by decide), tnj 1 (by decide), tl32 0 (by decide), tl64 0 (by decide)]); (repeat' split) <;> first | rfl | omega | (apply Int32.toInt_inj.mp; simp (disch := omega) only [tnI, tn32 2 (by decide), tnj 2 (by decide), tn32 1 (by decide), tnj 1 (by decide), tl32 0 (by decide), tl64 0 (by decide)]; omega))) (dkP dF_172 DX12_state (i := 8) rfl rfl)
set_option maxRecDepth 100000 in
set_option maxHeartbeats 4000000 in
theorem c_X12_isCasing (l : Launch) (G : va_G) (kc : Nat → ClassId) (ad : Nat → Nat)  (p : Int32) (q : Int32)  : MI l G kc yX12_isCasing cX12_isCasing 3 (some .boolean) 2 45 [.ref (ad 0), .int p, .int q] shM ad sM0 (fun r σ1 => ((r = 1 ∧ (False)) ∨ (r = 0 ∧ ¬ (False))) ∧ σ1 = sM0) := by
  intro sz
  refine z_body (y := yX12_isCasing) (n := 3) (av := [.ref (ad 0), .int p, .int q]) (Qc := fun A => va_Qi (fun r σ1 => ((r = 1 ∧ (False)) ∨ (r = 0 ∧ ¬ (False))) ∧ σ1 = sM0) (PoC G kc shM ad A) A) (plainFor_of_name (by decide)) (Nat.le_of_ble_eq_true rfl) (fun pr e s m below meth c A C0 hr hlk hnm hw ls hl => ?_) sz
  have hx := C0.1
  have hb := C0.2.1
  have hown := C0.2.2.2.1
  have hts := C0.2.2.2.2.1
  have hl : lv_has ls 3 [(0, .ref (ad 0)), (1, .int p), (2, .int q)] := hl
  refine lv_iload_n hx hb (dkP dF_27 DX12_isCasing (i := 0) rfl rfl) rfl (lv_at hl 1 rfl) ?_
  refine zn_I hw (zr_S (As := [.int p]) (rest := []) C0 (c_X12_isProgram l G kc p  _) cs_X12_isProgram lk_X12_272 (zp_P C0 a00 s00) rfl hl.1 rfl ⟨by decide, by decide⟩ (Nat.le_of_ble_eq_true rfl) (dk2 dF_184 DX12_isCasing (i := 1) rfl rfl rfl) ⟨Nat.le_refl _, Nat.le_refl _⟩) (fun r1 s1 H locs hp hw => ?_)
  rcases hp with ⟨rfl, hc1⟩ | ⟨rfl, hc1⟩
  · skip
    obtain ⟨k_p, hk_p, rfl⟩ := to_nat (x := p) (n := 8) (by (try simp only [lg_cmp_lt, lg_cmp_le, lg_cmp_gt, lg_cmp_ge, lg_cmp_eq] at hc1); (try simp (disch := omega) only [ta_lt, ta_le, ta_eq, tb_lt, tb_le, tb_eq, tw, tnI, tn32 1 (by decide), tnj 1 (by decide), tl32 0 (by decide), tl64 0 (by decide)] at hc1); (try simp (disch := omega) only [ta_lt, ta_le, ta_eq, tb_lt, tb_le, tb_eq, tw, tnI, tn32 1 (by decide), tnj 1 (by decide), tl32 0 (by decide), tl64 0 (by decide)]); omega)
    refine lv_if_eq (tgt := 42) hx hb (dkS dF_153 DX12_isCasing (i := 2) rfl rfl rfl) (by decide) (fun h => absurd h (by decide)) (fun _ => ?_)
    refine lv_aload_n hx hb (dkP dF_42 DX12_isCasing (i := 3) rfl rfl) rfl (lv_at hl 0 rfl) ?_
    refine lv_iload_n hx hb (dkP dF_27 DX12_isCasing (i := 4) rfl rfl) rfl (lv_at hl 1 rfl) ?_
    refine zk_I hw (zr_V (As := [.int (nI k_p)]) (rest := []) C0 (c_X12_hasNew l G kc ad sM0 k_p (by first | omega | assumption | decide | rfl) _) cv_X12_hasNew lk_X12_378 (zp_V C0 hw 0 rfl rfl rfl) rfl hl.1 rfl ⟨by decide, by decide⟩ (Nat.le_of_ble_eq_true rfl) (dk2 dF_182 DX12_isCasing (i := 5) rfl rfl rfl) ⟨Nat.le_refl _, Nat.le_refl _⟩) (fun r2 s2 H locs hp hw => ?_)
    obtain ⟨hq2, hs2⟩ := hp
    subst hs2
    rcases hq2 with ⟨rfl, hc2⟩ | ⟨rfl, hc2⟩
    · exact absurd (w0_p k_p 2 (by omega) (by decide)) hc2
    · skip
      refine lv_if_eq (tgt := 42) hx hb (dkS dF_153 DX12_isCasing (i := 6) rfl rfl rfl) (by decide) (fun _ => ?_) (fun h => absurd h (by decide))
      refine lv_iconst (v := 0) hx hb (dkP dF_3 DX12_isCasing (i := 24) rfl rfl) (by decide) ?_
      exact z_zret C0 hr hlk (by decide) hw (⟨Or.inr ⟨rfl, fun z => z⟩, rfl⟩) (dkP dF_172 DX12_isCasing (i := 25) rfl rfl)
  · skip
    refine lv_if_eq (tgt := 42) hx hb (dkS dF_153 DX12_isCasing (i := 2) rfl rfl rfl) (by decide) (fun _ => ?_) (fun h => absurd h (by decide))
    refine lv_iconst (v := 0) hx hb (dkP dF_3 DX12_isCasing (i := 24) rfl rfl) (by decide) ?_
    exact z_zret C0 hr hlk (by decide) hw (⟨Or.inr ⟨rfl, fun z => z⟩, rfl⟩) (dkP dF_172 DX12_isCasing (i := 25) rfl rfl)
set_option maxRecDepth 100000 in
set_option maxHeartbeats 4000000 in
theorem c_X12_hasBoth (l : Launch) (G : va_G) (kc : Nat → ClassId) (ad : Nat → Nat)  (p : Int32)  : MI l G kc yX12_hasBoth cX12_hasBoth 2 (some .boolean) 2 45 [.ref (ad 0), .int p] shM ad sM0 (fun r σ1 => ((r = 1 ∧ (False)) ∨ (r = 0 ∧ ¬ (False))) ∧ σ1 = sM0) := by
  intro sz
  refine z_body (y := yX12_hasBoth) (n := 2) (av := [.ref (ad 0), .int p]) (Qc := fun A => va_Qi (fun r σ1 => ((r = 1 ∧ (False)) ∨ (r = 0 ∧ ¬ (False))) ∧ σ1 = sM0) (PoC G kc shM ad A) A) (plainFor_of_name (by decide)) (Nat.le_of_ble_eq_true rfl) (fun pr e s m below meth c A C0 hr hlk hnm hw ls hl => ?_) sz
  have hx := C0.1
  have hb := C0.2.1
  have hown := C0.2.2.2.1
  have hts := C0.2.2.2.2.1
  have hl : lv_has ls 2 [(0, .ref (ad 0)), (1, .int p)] := hl
  refine lv_iload_n hx hb (dkP dF_27 DX12_hasBoth (i := 0) rfl rfl) rfl (lv_at hl 1 rfl) ?_
  refine zn_I hw (zr_S (As := [.int p]) (rest := []) C0 (c_X12_isProgram l G kc p  _) cs_X12_isProgram lk_X12_272 (zp_P C0 a00 s00) rfl hl.1 rfl ⟨by decide, by decide⟩ (Nat.le_of_ble_eq_true rfl) (dk2 dF_184 DX12_hasBoth (i := 1) rfl rfl rfl) ⟨Nat.le_refl _, Nat.le_refl _⟩) (fun r1 s1 H locs hp hw => ?_)
  rcases hp with ⟨rfl, hc1⟩ | ⟨rfl, hc1⟩
  · skip
    obtain ⟨k_p, hk_p, rfl⟩ := to_nat (x := p) (n := 8) (by (try simp only [lg_cmp_lt, lg_cmp_le, lg_cmp_gt, lg_cmp_ge, lg_cmp_eq] at hc1); (try simp (disch := omega) only [ta_lt, ta_le, ta_eq, tb_lt, tb_le, tb_eq, tw, tnI, tn32 1 (by decide), tnj 1 (by decide), tl32 0 (by decide), tl64 0 (by decide)] at hc1); (try simp (disch := omega) only [ta_lt, ta_le, ta_eq, tb_lt, tb_le, tb_eq, tw, tnI, tn32 1 (by decide), tnj 1 (by decide), tl32 0 (by decide), tl64 0 (by decide)]); omega)
    refine lv_if_eq (tgt := 27) hx hb (dkS dF_153 DX12_hasBoth (i := 2) rfl rfl rfl) (by decide) (fun h => absurd h (by decide)) (fun _ => ?_)
    refine lv_aload_n hx hb (dkP dF_42 DX12_hasBoth (i := 3) rfl rfl) rfl (lv_at hl 0 rfl) ?_
    refine lv_iload_n hx hb (dkP dF_27 DX12_hasBoth (i := 4) rfl rfl) rfl (lv_at hl 1 rfl) ?_
    refine zk_I hw (zr_V (As := [.int (nI k_p)]) (rest := []) C0 (c_X12_hasOld l G kc ad sM0 k_p (by first | omega | assumption | decide | rfl) _) cv_X12_hasOld lk_X12_366 (zp_V C0 hw 0 rfl rfl rfl) rfl hl.1 rfl ⟨by decide, by decide⟩ (Nat.le_of_ble_eq_true rfl) (dk2 dF_182 DX12_hasBoth (i := 5) rfl rfl rfl) ⟨Nat.le_refl _, Nat.le_refl _⟩) (fun r2 s2 H locs hp hw => ?_)
    obtain ⟨hq2, hs2⟩ := hp
    subst hs2
    rcases hq2 with ⟨rfl, hc2⟩ | ⟨rfl, hc2⟩
    · exact absurd (w0_p k_p 1 (by omega) (by decide)) hc2
    · skip
      refine lv_if_eq (tgt := 27) hx hb (dkS dF_153 DX12_hasBoth (i := 6) rfl rfl rfl) (by decide) (fun _ => ?_) (fun h => absurd h (by decide))
      refine lv_iconst (v := 0) hx hb (dkP dF_3 DX12_hasBoth (i := 13) rfl rfl) (by decide) ?_
      exact z_zret C0 hr hlk (by decide) hw (⟨Or.inr ⟨rfl, fun z => z⟩, rfl⟩) (dkP dF_172 DX12_hasBoth (i := 14) rfl rfl)
  · skip
    refine lv_if_eq (tgt := 27) hx hb (dkS dF_153 DX12_hasBoth (i := 2) rfl rfl rfl) (by decide) (fun _ => ?_) (fun h => absurd h (by decide))
    refine lv_iconst (v := 0) hx hb (dkP dF_3 DX12_hasBoth (i := 13) rfl rfl) (by decide) ?_
    exact z_zret C0 hr hlk (by decide) hw (⟨Or.inr ⟨rfl, fun z => z⟩, rfl⟩) (dkP dF_172 DX12_hasBoth (i := 14) rfl rfl)
set_option maxRecDepth 100000 in
set_option maxHeartbeats 4000000 in
theorem c_X12_isNeed (l : Launch) (G : va_G) (kc : Nat → ClassId) (ad : Nat → Nat)  (a : Nat) (b : Nat) (ha : a < 8) (hb2 : b < 8) : MI l G kc yX12_isNeed cX12_isNeed 3 (some .boolean) 0 0 [.ref (ad 0), .int (nI a), .int (nI b)] shM ad sM0 (fun r σ1 => ((r = 1 ∧ (False)) ∨ (r = 0 ∧ ¬ (False))) ∧ σ1 = sM0) := by
  intro sz
  refine z_body (y := yX12_isNeed) (n := 3) (av := [.ref (ad 0), .int (nI a), .int (nI b)]) (Qc := fun A => va_Qi (fun r σ1 => ((r = 1 ∧ (False)) ∨ (r = 0 ∧ ¬ (False))) ∧ σ1 = sM0) (PoC G kc shM ad A) A) (plainFor_of_name (by decide)) (Nat.le_of_ble_eq_true rfl) (fun pr e s m below meth c A C0 hr hlk hnm hw ls hl => ?_) sz
  have hx := C0.1
  have hb := C0.2.1
  have hown := C0.2.2.2.1
  have hts := C0.2.2.2.2.1
  have hl : lv_has ls 3 [(0, .ref (ad 0)), (1, .int (nI a)), (2, .int (nI b))] := hl
  refine lv_aload_n hx hb (dkP dF_42 DX12_isNeed (i := 0) rfl rfl) rfl (lv_at hl 0 rfl) ?_
  refine z_gr C0 hw 0 1 1 rfl fl_X12_20 (dk2 dF_180 DX12_isNeed (i := 1) rfl rfl rfl) ?_
  refine lv_ldcw hx hb hown (hts _ kn_X12_454) (dk2 dF_19 DX12_isNeed (i := 2) rfl rfl rfl) ?_
  refine lv_bipush (v := 8) hx hb (dks dF_16 DX12_isNeed (i := 3) rfl rfl rfl) (by decide) ?_
  refine lv_iload_n hx hb (dkP dF_27 DX12_isNeed (i := 4) rfl rfl) rfl (lv_at hl 1 rfl) ?_
  refine lv_imul hx hb (dkP dF_104 DX12_isNeed (i := 5) rfl rfl) ?_
  refine z_top (y := nI (8 * a)) (by simp only [fa_lit, nI_add, pk_mul]) ?_
  refine lv_iadd hx hb (dkP dF_96 DX12_isNeed (i := 6) rfl rfl) ?_
  refine z_top (y := nI (413544 + (8 * a))) (by simp only [fa_lit, nI_add, pk_mul]) ?_
  refine lv_iload_n hx hb (dkP dF_28 DX12_isNeed (i := 7) rfl rfl) rfl (lv_at hl 2 rfl) ?_
  refine lv_iadd hx hb (dkP dF_96 DX12_isNeed (i := 8) rfl rfl) ?_
  refine z_top (y := nI ((413544 + (8 * a)) + b)) (by simp only [fa_lit, nI_add, pk_mul]) ?_
  refine z_ialdN (n := 414128) C0 hw 1 ((413544 + (8 * a)) + b) rfl (by omega) (by decide) (dkP dF_46 DX12_isNeed (i := 9) rfl rfl) ?_
  refine z_top (y := 0) (w0_z _ (by omega) (by omega)) ?_
  refine lv_iconst (v := 1) hx hb (dkP dF_4 DX12_isNeed (i := 10) rfl rfl) (by decide) ?_
  refine lv_icmp_ne (tgt := 23) hx hb (dkS dF_160 DX12_isNeed (i := 11) rfl rfl rfl) (by decide) (fun _ => ?_) (fun h => absurd h (by decide))
  refine lv_iconst (v := 0) hx hb (dkP dF_3 DX12_isNeed (i := 14) rfl rfl) (by decide) ?_
  exact z_zret C0 hr hlk (by decide) hw (⟨Or.inr ⟨rfl, fun z => z⟩, rfl⟩) (dkP dF_172 DX12_isNeed (i := 15) rfl rfl)
set_option maxRecDepth 100000 in
set_option maxHeartbeats 4000000 in
theorem c_X12_spanLow (l : Launch) (G : va_G) (kc : Nat → ClassId) (ad : Nat → Nat)  (a : Nat) (b : Nat) (ha : a < 8) (hb2 : b < 8) : MI l G kc yX12_spanLow cX12_spanLow 3 (some .int) 1 20 [.ref (ad 0), .int (nI a), .int (nI b)] shM ad sM0 (fun r σ1 => r = 1 ∧ σ1 = sM0) := by
  intro sz
  refine z_body (y := yX12_spanLow) (n := 3) (av := [.ref (ad 0), .int (nI a), .int (nI b)]) (Qc := fun A => va_Qi (fun r σ1 => r = 1 ∧ σ1 = sM0) (PoC G kc shM ad A) A) (plainFor_of_name (by decide)) (Nat.le_of_ble_eq_true rfl) (fun pr e s m below meth c A C0 hr hlk hnm hw ls hl => ?_) sz
  have hx := C0.1
  have hb := C0.2.1
  have hown := C0.2.2.2.1
  have hts := C0.2.2.2.2.1
  have hl : lv_has ls 3 [(0, .ref (ad 0)), (1, .int (nI a)), (2, .int (nI b))] := hl
  refine lv_aload_n hx hb (dkP dF_42 DX12_spanLow (i := 0) rfl rfl) rfl (lv_at hl 0 rfl) ?_
  refine z_gr C0 hw 0 1 1 rfl fl_X12_20 (dk2 dF_180 DX12_spanLow (i := 1) rfl rfl rfl) ?_
  refine lv_iload_n hx hb (dkP dF_27 DX12_spanLow (i := 2) rfl rfl) rfl (lv_at hl 1 rfl) ?_
  refine zn_I hw (zr_S (As := [.int (nI a)]) (rest := [.ref (ad 1)]) C0 (c_X12_of l G kc a  _) cs_X12_of lk_X12_139 (zp_P C0 a00 s00) rfl hl.1 rfl ⟨by decide, by decide⟩ (Nat.le_of_ble_eq_true rfl) (dk2 dF_184 DX12_spanLow (i := 3) rfl rfl rfl) ⟨Nat.le_refl _, Nat.le_refl _⟩) (fun r1 s1 H locs hp hw => ?_)
  subst hp
  refine lv_iconst (v := 4) hx hb (dkP dF_7 DX12_spanLow (i := 4) rfl rfl) (by decide) ?_
  refine lv_iadd hx hb (dkP dF_96 DX12_spanLow (i := 5) rfl rfl) ?_
  refine z_top (y := nI ((8 + 20 * a) + 4)) (by simp only [fa_lit, nI_add, pk_mul]) ?_
  refine lv_iconst (v := 2) hx hb (dkP dF_5 DX12_spanLow (i := 6) rfl rfl) (by decide) ?_
  refine lv_iload_n hx hb (dkP dF_28 DX12_spanLow (i := 7) rfl rfl) rfl (lv_at hl 2 rfl) ?_
  refine lv_imul hx hb (dkP dF_104 DX12_spanLow (i := 8) rfl rfl) ?_
  refine z_top (y := nI (2 * b)) (by simp only [fa_lit, nI_add, pk_mul]) ?_
  refine lv_iadd hx hb (dkP dF_96 DX12_spanLow (i := 9) rfl rfl) ?_
  refine z_top (y := nI (((8 + 20 * a) + 4) + (2 * b))) (by simp only [fa_lit, nI_add, pk_mul]) ?_
  refine z_ialdN (n := 414128) C0 hw 1 (((8 + 20 * a) + 4) + (2 * b)) rfl (by omega) (by decide) (dkP dF_46 DX12_spanLow (i := 10) rfl rfl) ?_
  refine z_top (y := 1) (w0_lo a b (by omega) (by omega)) ?_
  exact z_iret C0 hr hlk hw (⟨(by first | rfl | ((try simp (disch := omega) only [tnI, tn32 1 (by decide), tnj 1 (by decide), tl32 0 (by decide), tl64 0 (by decide), tl32 2 (by decide), tl64 2 (by decide), tl32 4 (by decide), tl64 4 (by decide)]); (repeat' split) <;> first | rfl | omega | (apply Int32.toInt_inj.mp; simp (disch := omega) only [tnI, tn32 1 (by decide), tnj 1 (by decide), tl32 0 (by decide), tl64 0 (by decide), tl32 2 (by decide), tl64 2 (by decide), tl32 4 (by decide), tl64 4 (by decide)]; omega))), rfl⟩) (dkP dF_172 DX12_spanLow (i := 11) rfl rfl)
set_option maxRecDepth 100000 in
set_option maxHeartbeats 4000000 in
theorem c_X12_wish (l : Launch) (G : va_G) (kc : Nat → ClassId) (ad : Nat → Nat)  (p : Int32) (q : Int32) (f : Int32) (mo : Int32)  : MI l G kc yX12_wish cX12_wish 6 (some .int) 3 67 [.ref (ad 0), .int p, .int q, .int f, .int mo] shM ad sM0 (fun r σ1 => r = -2) := by
  intro sz
  refine z_body (y := yX12_wish) (n := 6) (av := [.ref (ad 0), .int p, .int q, .int f, .int mo]) (Qc := fun A => va_Qi (fun r σ1 => r = -2) (PoC G kc shM ad A) A) (plainFor_of_name (by decide)) (Nat.le_of_ble_eq_true rfl) (fun pr e s m below meth c A C0 hr hlk hnm hw ls hl => ?_) sz
  have hx := C0.1
  have hb := C0.2.1
  have hown := C0.2.2.2.1
  have hts := C0.2.2.2.2.1
  have hl : lv_has ls 6 [(0, .ref (ad 0)), (1, .int p), (2, .int q), (3, .int f), (4, .int mo)] := hl
  refine lv_aload_n hx hb (dkP dF_42 DX12_wish (i := 0) rfl rfl) rfl (lv_at hl 0 rfl) ?_
  refine lv_iload_n hx hb (dkP dF_27 DX12_wish (i := 1) rfl rfl) rfl (lv_at hl 1 rfl) ?_
  refine lv_iload_n hx hb (dkP dF_28 DX12_wish (i := 2) rfl rfl) rfl (lv_at hl 2 rfl) ?_
  refine zk_I hw (zr_V (As := [.int p, .int q]) (rest := []) C0 (c_X12_isCasing l G kc ad p q  _) cv_X12_isCasing lk_X12_427 (zp_V C0 hw 0 rfl rfl rfl) rfl hl.1 rfl ⟨by decide, by decide⟩ (Nat.le_of_ble_eq_true rfl) (dk2 dF_182 DX12_wish (i := 3) rfl rfl rfl) ⟨Nat.le_refl _, Nat.le_refl _⟩) (fun r1 s1 H locs hp hw => ?_)
  obtain ⟨hq1, hs1⟩ := hp
  subst hs1
  rcases hq1 with ⟨rfl, hc1⟩ | ⟨rfl, hc1⟩
  · exact False.elim hc1
  · skip
    refine lv_if_eq (tgt := 40) hx hb (dkS dF_153 DX12_wish (i := 4) rfl rfl rfl) (by decide) (fun _ => ?_) (fun h => absurd h (by decide))
    refine lv_bipush (v := (-2)) hx hb (dks dF_16 DX12_wish (i := 19) rfl rfl rfl) (by decide) ?_
    exact z_iret C0 hr hlk hw (by first | rfl | ((try simp only [lg_cmp_lt, lg_cmp_le, lg_cmp_gt, lg_cmp_ge, lg_cmp_eq] at hc1); (try simp (disch := omega) only [ta_lt, ta_le, ta_eq, tb_lt, tb_le, tb_eq, tw, tnI, tn32 2 (by decide), tnj 2 (by decide), tn32 1 (by decide), tnj 1 (by decide), tl32 0 (by decide), tl64 0 (by decide)] at hc1); (try simp (disch := omega) only [tnI, tn32 2 (by decide), tnj 2 (by decide), tn32 1 (by decide), tnj 1 (by decide), tl32 0 (by decide), tl64 0 (by decide)]); (repeat' split) <;> first | rfl | omega | (apply Int32.toInt_inj.mp; simp (disch := omega) only [tnI, tn32 2 (by decide), tnj 2 (by decide), tn32 1 (by decide), tnj 1 (by decide), tl32 0 (by decide), tl64 0 (by decide)]; omega))) (dkP dF_172 DX12_wish (i := 20) rfl rfl)
set_option maxRecDepth 100000 in
set_option maxHeartbeats 4000000 in
theorem c_X12_casing (l : Launch) (G : va_G) (kc : Nat → ClassId) (ad : Nat → Nat)  (p : Int32) (q : Int32) (wh : Int32) (j : Int32) (i : Int32)  : MI l G kc yX12_casing cX12_casing 8 (some .int) 3 67 [.ref (ad 0), .int p, .int q, .int wh, .int j, .int i] shM ad sM0 (fun r σ1 => r = -2000000000) := by
  intro sz
  refine z_body (y := yX12_casing) (n := 8) (av := [.ref (ad 0), .int p, .int q, .int wh, .int j, .int i]) (Qc := fun A => va_Qi (fun r σ1 => r = -2000000000) (PoC G kc shM ad A) A) (plainFor_of_name (by decide)) (Nat.le_of_ble_eq_true rfl) (fun pr e s m below meth c A C0 hr hlk hnm hw ls hl => ?_) sz
  have hx := C0.1
  have hb := C0.2.1
  have hown := C0.2.2.2.1
  have hts := C0.2.2.2.2.1
  have hl : lv_has ls 8 [(0, .ref (ad 0)), (1, .int p), (2, .int q), (3, .int wh), (4, .int j), (5, .int i)] := hl
  refine lv_aload_n hx hb (dkP dF_42 DX12_casing (i := 0) rfl rfl) rfl (lv_at hl 0 rfl) ?_
  refine lv_iload_n hx hb (dkP dF_27 DX12_casing (i := 1) rfl rfl) rfl (lv_at hl 1 rfl) ?_
  refine lv_iload_n hx hb (dkP dF_28 DX12_casing (i := 2) rfl rfl) rfl (lv_at hl 2 rfl) ?_
  refine zk_I hw (zr_V (As := [.int p, .int q]) (rest := []) C0 (c_X12_isCasing l G kc ad p q  _) cv_X12_isCasing lk_X12_427 (zp_V C0 hw 0 rfl rfl rfl) rfl hl.1 rfl ⟨by decide, by decide⟩ (Nat.le_of_ble_eq_true rfl) (dk2 dF_182 DX12_casing (i := 3) rfl rfl rfl) ⟨Nat.le_refl _, Nat.le_refl _⟩) (fun r1 s1 H locs hp hw => ?_)
  obtain ⟨hq1, hs1⟩ := hp
  subst hs1
  rcases hq1 with ⟨rfl, hc1⟩ | ⟨rfl, hc1⟩
  · exact False.elim hc1
  · skip
    refine lv_if_ne (tgt := 13) hx hb (dkS dF_154 DX12_casing (i := 4) rfl rfl rfl) (by decide) (fun h => absurd h (by decide)) (fun _ => ?_)
    refine lv_ldcw hx hb hown (hts _ kn_X12_413) (dk2 dF_19 DX12_casing (i := 5) rfl rfl rfl) ?_
    exact z_iret C0 hr hlk hw (by first | rfl | ((try simp only [lg_cmp_lt, lg_cmp_le, lg_cmp_gt, lg_cmp_ge, lg_cmp_eq] at hc1); (try simp (disch := omega) only [ta_lt, ta_le, ta_eq, tb_lt, tb_le, tb_eq, tw, tnI, tn32 2000000000 (by decide), tnj 2000000000 (by decide), tn32 1 (by decide), tnj 1 (by decide), tl32 0 (by decide), tl64 0 (by decide)] at hc1); (try simp (disch := omega) only [tnI, tn32 2000000000 (by decide), tnj 2000000000 (by decide), tn32 1 (by decide), tnj 1 (by decide), tl32 0 (by decide), tl64 0 (by decide)]); (repeat' split) <;> first | rfl | omega | (apply Int32.toInt_inj.mp; simp (disch := omega) only [tnI, tn32 2000000000 (by decide), tnj 2000000000 (by decide), tn32 1 (by decide), tnj 1 (by decide), tl32 0 (by decide), tl64 0 (by decide)]; omega))) (dkP dF_172 DX12_casing (i := 6) rfl rfl)
set_option maxRecDepth 100000 in
set_option maxHeartbeats 4000000 in
theorem c_X12_unlike (l : Launch) (G : va_G) (kc : Nat → ClassId) (ad : Nat → Nat)  (p : Int32)  : MI l G kc yX12_unlike cX12_unlike 4 (some .int) 3 66 [.ref (ad 0), .int p] shM ad sM0 (fun r σ1 => r = -2) := by
  intro sz
  refine z_body (y := yX12_unlike) (n := 4) (av := [.ref (ad 0), .int p]) (Qc := fun A => va_Qi (fun r σ1 => r = -2) (PoC G kc shM ad A) A) (plainFor_of_name (by decide)) (Nat.le_of_ble_eq_true rfl) (fun pr e s m below meth c A C0 hr hlk hnm hw ls hl => ?_) sz
  have hx := C0.1
  have hb := C0.2.1
  have hown := C0.2.2.2.1
  have hts := C0.2.2.2.2.1
  have hl : lv_has ls 4 [(0, .ref (ad 0)), (1, .int p)] := hl
  refine lv_aload_n hx hb (dkP dF_42 DX12_unlike (i := 0) rfl rfl) rfl (lv_at hl 0 rfl) ?_
  refine lv_iload_n hx hb (dkP dF_27 DX12_unlike (i := 1) rfl rfl) rfl (lv_at hl 1 rfl) ?_
  refine zk_I hw (zr_V (As := [.int p]) (rest := []) C0 (c_X12_hasBoth l G kc ad p  _) cv_X12_hasBoth lk_X12_435 (zp_V C0 hw 0 rfl rfl rfl) rfl hl.1 rfl ⟨by decide, by decide⟩ (Nat.le_of_ble_eq_true rfl) (dk2 dF_182 DX12_unlike (i := 2) rfl rfl rfl) ⟨Nat.le_refl _, Nat.le_refl _⟩) (fun r1 s1 H locs hp hw => ?_)
  obtain ⟨hq1, hs1⟩ := hp
  subst hs1
  rcases hq1 with ⟨rfl, hc1⟩ | ⟨rfl, hc1⟩
  · exact False.elim hc1
  · skip
    refine lv_if_ne (tgt := 11) hx hb (dkS dF_154 DX12_unlike (i := 3) rfl rfl rfl) (by decide) (fun h => absurd h (by decide)) (fun _ => ?_)
    refine lv_bipush (v := (-2)) hx hb (dks dF_16 DX12_unlike (i := 4) rfl rfl rfl) (by decide) ?_
    exact z_iret C0 hr hlk hw (by first | rfl | ((try simp only [lg_cmp_lt, lg_cmp_le, lg_cmp_gt, lg_cmp_ge, lg_cmp_eq] at hc1); (try simp (disch := omega) only [ta_lt, ta_le, ta_eq, tb_lt, tb_le, tb_eq, tw, tnI, tn32 2 (by decide), tnj 2 (by decide), tn32 1 (by decide), tnj 1 (by decide), tl32 0 (by decide), tl64 0 (by decide)] at hc1); (try simp (disch := omega) only [tnI, tn32 2 (by decide), tnj 2 (by decide), tn32 1 (by decide), tnj 1 (by decide), tl32 0 (by decide), tl64 0 (by decide)]); (repeat' split) <;> first | rfl | omega | (apply Int32.toInt_inj.mp; simp (disch := omega) only [tnI, tn32 2 (by decide), tnj 2 (by decide), tn32 1 (by decide), tnj 1 (by decide), tl32 0 (by decide), tl64 0 (by decide)]; omega))) (dkP dF_172 DX12_unlike (i := 5) rfl rfl)
set_option maxRecDepth 100000 in
set_option maxHeartbeats 4000000 in
theorem c_X12_parts (l : Launch) (G : va_G) (kc : Nat → ClassId) (ad : Nat → Nat)  (p : Int32) (q : Int32)  : MI l G kc yX12_parts cX12_parts 4 (some .int) 3 66 [.ref (ad 0), .int p, .int q] shM ad sM0 (fun r σ1 => r = -2) := by
  intro sz
  refine z_body (y := yX12_parts) (n := 4) (av := [.ref (ad 0), .int p, .int q]) (Qc := fun A => va_Qi (fun r σ1 => r = -2) (PoC G kc shM ad A) A) (plainFor_of_name (by decide)) (Nat.le_of_ble_eq_true rfl) (fun pr e s m below meth c A C0 hr hlk hnm hw ls hl => ?_) sz
  have hx := C0.1
  have hb := C0.2.1
  have hown := C0.2.2.2.1
  have hts := C0.2.2.2.2.1
  have hl : lv_has ls 4 [(0, .ref (ad 0)), (1, .int p), (2, .int q)] := hl
  refine lv_aload_n hx hb (dkP dF_42 DX12_parts (i := 0) rfl rfl) rfl (lv_at hl 0 rfl) ?_
  refine lv_iload_n hx hb (dkP dF_27 DX12_parts (i := 1) rfl rfl) rfl (lv_at hl 1 rfl) ?_
  refine zk_I hw (zr_V (As := [.int p]) (rest := []) C0 (c_X12_hasBoth l G kc ad p  _) cv_X12_hasBoth lk_X12_435 (zp_V C0 hw 0 rfl rfl rfl) rfl hl.1 rfl ⟨by decide, by decide⟩ (Nat.le_of_ble_eq_true rfl) (dk2 dF_182 DX12_parts (i := 2) rfl rfl rfl) ⟨Nat.le_refl _, Nat.le_refl _⟩) (fun r1 s1 H locs hp hw => ?_)
  obtain ⟨hq1, hs1⟩ := hp
  subst hs1
  rcases hq1 with ⟨rfl, hc1⟩ | ⟨rfl, hc1⟩
  · exact False.elim hc1
  · skip
    refine lv_if_eq (tgt := 17) hx hb (dkS dF_153 DX12_parts (i := 3) rfl rfl rfl) (by decide) (fun _ => ?_) (fun h => absurd h (by decide))
    refine lv_bipush (v := (-2)) hx hb (dks dF_16 DX12_parts (i := 9) rfl rfl rfl) (by decide) ?_
    exact z_iret C0 hr hlk hw (by first | rfl | ((try simp only [lg_cmp_lt, lg_cmp_le, lg_cmp_gt, lg_cmp_ge, lg_cmp_eq] at hc1); (try simp (disch := omega) only [ta_lt, ta_le, ta_eq, tb_lt, tb_le, tb_eq, tw, tnI, tn32 2 (by decide), tnj 2 (by decide), tn32 1 (by decide), tnj 1 (by decide), tl32 0 (by decide), tl64 0 (by decide)] at hc1); (try simp (disch := omega) only [tnI, tn32 2 (by decide), tnj 2 (by decide), tn32 1 (by decide), tnj 1 (by decide), tl32 0 (by decide), tl64 0 (by decide)]); (repeat' split) <;> first | rfl | omega | (apply Int32.toInt_inj.mp; simp (disch := omega) only [tnI, tn32 2 (by decide), tnj 2 (by decide), tn32 1 (by decide), tnj 1 (by decide), tl32 0 (by decide), tl64 0 (by decide)]; omega))) (dkP dF_172 DX12_parts (i := 10) rfl rfl)
set_option maxRecDepth 100000 in
set_option maxHeartbeats 4000000 in
theorem c_X12_where (l : Launch) (G : va_G) (kc : Nat → ClassId) (ad : Nat → Nat)  (p : Int32) (q : Int32)  : MI l G kc yX12_where cX12_where 3 (some .int) 3 66 [.ref (ad 0), .int p, .int q] shM ad sM0 (fun r σ1 => r = -2) := by
  intro sz
  refine z_body (y := yX12_where) (n := 3) (av := [.ref (ad 0), .int p, .int q]) (Qc := fun A => va_Qi (fun r σ1 => r = -2) (PoC G kc shM ad A) A) (plainFor_of_name (by decide)) (Nat.le_of_ble_eq_true rfl) (fun pr e s m below meth c A C0 hr hlk hnm hw ls hl => ?_) sz
  have hx := C0.1
  have hb := C0.2.1
  have hown := C0.2.2.2.1
  have hts := C0.2.2.2.2.1
  have hl : lv_has ls 3 [(0, .ref (ad 0)), (1, .int p), (2, .int q)] := hl
  refine lv_aload_n hx hb (dkP dF_42 DX12_where (i := 0) rfl rfl) rfl (lv_at hl 0 rfl) ?_
  refine lv_iload_n hx hb (dkP dF_27 DX12_where (i := 1) rfl rfl) rfl (lv_at hl 1 rfl) ?_
  refine zk_I hw (zr_V (As := [.int p]) (rest := []) C0 (c_X12_hasBoth l G kc ad p  _) cv_X12_hasBoth lk_X12_435 (zp_V C0 hw 0 rfl rfl rfl) rfl hl.1 rfl ⟨by decide, by decide⟩ (Nat.le_of_ble_eq_true rfl) (dk2 dF_182 DX12_where (i := 2) rfl rfl rfl) ⟨Nat.le_refl _, Nat.le_refl _⟩) (fun r1 s1 H locs hp hw => ?_)
  obtain ⟨hq1, hs1⟩ := hp
  subst hs1
  rcases hq1 with ⟨rfl, hc1⟩ | ⟨rfl, hc1⟩
  · exact False.elim hc1
  · skip
    refine lv_if_eq (tgt := 26) hx hb (dkS dF_153 DX12_where (i := 3) rfl rfl rfl) (by decide) (fun _ => ?_) (fun h => absurd h (by decide))
    refine lv_bipush (v := (-2)) hx hb (dks dF_16 DX12_where (i := 14) rfl rfl rfl) (by decide) ?_
    exact z_iret C0 hr hlk hw (by first | rfl | ((try simp only [lg_cmp_lt, lg_cmp_le, lg_cmp_gt, lg_cmp_ge, lg_cmp_eq] at hc1); (try simp (disch := omega) only [ta_lt, ta_le, ta_eq, tb_lt, tb_le, tb_eq, tw, tnI, tn32 2 (by decide), tnj 2 (by decide), tn32 1 (by decide), tnj 1 (by decide), tl32 0 (by decide), tl64 0 (by decide)] at hc1); (try simp (disch := omega) only [tnI, tn32 2 (by decide), tnj 2 (by decide), tn32 1 (by decide), tnj 1 (by decide), tl32 0 (by decide), tl64 0 (by decide)]); (repeat' split) <;> first | rfl | omega | (apply Int32.toInt_inj.mp; simp (disch := omega) only [tnI, tn32 2 (by decide), tnj 2 (by decide), tn32 1 (by decide), tnj 1 (by decide), tl32 0 (by decide), tl64 0 (by decide)]; omega))) (dkP dF_172 DX12_where (i := 15) rfl rfl)
set_option maxRecDepth 100000 in
set_option maxHeartbeats 4000000 in
theorem c_X12_night (l : Launch) (G : va_G) (kc : Nat → ClassId) (ad : Nat → Nat)  (p : Int32) (q : Int32)  : MI l G kc yX12_night cX12_night 5 (some .int) 3 66 [.ref (ad 0), .int p, .int q] shM ad sM0 (fun r σ1 => r = -2) := by
  intro sz
  refine z_body (y := yX12_night) (n := 5) (av := [.ref (ad 0), .int p, .int q]) (Qc := fun A => va_Qi (fun r σ1 => r = -2) (PoC G kc shM ad A) A) (plainFor_of_name (by decide)) (Nat.le_of_ble_eq_true rfl) (fun pr e s m below meth c A C0 hr hlk hnm hw ls hl => ?_) sz
  have hx := C0.1
  have hb := C0.2.1
  have hown := C0.2.2.2.1
  have hts := C0.2.2.2.2.1
  have hl : lv_has ls 5 [(0, .ref (ad 0)), (1, .int p), (2, .int q)] := hl
  refine lv_aload_n hx hb (dkP dF_42 DX12_night (i := 0) rfl rfl) rfl (lv_at hl 0 rfl) ?_
  refine lv_iload_n hx hb (dkP dF_27 DX12_night (i := 1) rfl rfl) rfl (lv_at hl 1 rfl) ?_
  refine zk_I hw (zr_V (As := [.int p]) (rest := []) C0 (c_X12_hasBoth l G kc ad p  _) cv_X12_hasBoth lk_X12_435 (zp_V C0 hw 0 rfl rfl rfl) rfl hl.1 rfl ⟨by decide, by decide⟩ (Nat.le_of_ble_eq_true rfl) (dk2 dF_182 DX12_night (i := 2) rfl rfl rfl) ⟨Nat.le_refl _, Nat.le_refl _⟩) (fun r1 s1 H locs hp hw => ?_)
  obtain ⟨hq1, hs1⟩ := hp
  subst hs1
  rcases hq1 with ⟨rfl, hc1⟩ | ⟨rfl, hc1⟩
  · exact False.elim hc1
  · skip
    refine lv_if_eq (tgt := 24) hx hb (dkS dF_153 DX12_night (i := 3) rfl rfl rfl) (by decide) (fun _ => ?_) (fun h => absurd h (by decide))
    refine lv_bipush (v := (-2)) hx hb (dks dF_16 DX12_night (i := 12) rfl rfl rfl) (by decide) ?_
    exact z_iret C0 hr hlk hw (by first | rfl | ((try simp only [lg_cmp_lt, lg_cmp_le, lg_cmp_gt, lg_cmp_ge, lg_cmp_eq] at hc1); (try simp (disch := omega) only [ta_lt, ta_le, ta_eq, tb_lt, tb_le, tb_eq, tw, tnI, tn32 2 (by decide), tnj 2 (by decide), tn32 1 (by decide), tnj 1 (by decide), tl32 0 (by decide), tl64 0 (by decide)] at hc1); (try simp (disch := omega) only [tnI, tn32 2 (by decide), tnj 2 (by decide), tn32 1 (by decide), tnj 1 (by decide), tl32 0 (by decide), tl64 0 (by decide)]); (repeat' split) <;> first | rfl | omega | (apply Int32.toInt_inj.mp; simp (disch := omega) only [tnI, tn32 2 (by decide), tnj 2 (by decide), tn32 1 (by decide), tnj 1 (by decide), tl32 0 (by decide), tl64 0 (by decide)]; omega))) (dkP dF_172 DX12_night (i := 13) rfl rfl)
set_option maxRecDepth 100000 in
set_option maxHeartbeats 4000000 in
theorem c_X12_kinds (l : Launch) (G : va_G) (kc : Nat → ClassId) (ad : Nat → Nat)    : MI l G kc yX12_kinds cX12_kinds 5 (some .int) 0 0 [.ref (ad 0)] shM ad sM0 (fun r σ1 => r = 0) := by
  intro sz
  refine z_body (y := yX12_kinds) (n := 5) (av := [.ref (ad 0)]) (Qc := fun A => va_Qi (fun r σ1 => r = 0) (PoC G kc shM ad A) A) (plainFor_of_name (by decide)) (Nat.le_of_ble_eq_true rfl) (fun pr e s m below meth c A C0 hr hlk hnm hw ls hl => ?_) sz
  have hx := C0.1
  have hb := C0.2.1
  have hown := C0.2.2.2.1
  have hts := C0.2.2.2.2.1
  have hl : lv_has ls 5 [(0, .ref (ad 0))] := hl
  refine lv_iconst (v := 0) hx hb (dkP dF_3 DX12_kinds (i := 0) rfl rfl) (by decide) ?_
  refine lv_istore_n (lv' := [(1, .int 0), (0, .ref (ad 0))]) hx hb (dkP dF_60 DX12_kinds (i := 1) rfl rfl) rfl hl (by decide) rfl (fun ls hl => ?_)
  refine lv_iconst (v := 0) hx hb (dkP dF_3 DX12_kinds (i := 2) rfl rfl) (by decide) ?_
  refine lv_istore_n (lv' := [(2, .int 0), (1, .int 0), (0, .ref (ad 0))]) hx hb (dkP dF_61 DX12_kinds (i := 3) rfl rfl) rfl hl (by decide) rfl (fun ls hl => ?_)
  refine lv_iload_n hx hb (dkP dF_28 DX12_kinds (i := 4) rfl rfl) rfl (lv_at hl 0 rfl) ?_
  refine lv_aload_n hx hb (dkP dF_42 DX12_kinds (i := 5) rfl rfl) rfl (lv_at hl 2 rfl) ?_
  refine z_gi C0 hw 0 41 rfl fl_X12_399 (dk2 dF_180 DX12_kinds (i := 6) rfl rfl rfl) ?_
  refine z_top (y := 0) (by rfl) ?_
  refine lv_icmp_ge (tgt := 67) hx hb (dkS dF_162 DX12_kinds (i := 7) rfl rfl rfl) (by decide) (fun _ => ?_) (fun h => absurd h (by decide))
  refine lv_iload_n hx hb (dkP dF_27 DX12_kinds (i := 38) rfl rfl) rfl (lv_at hl 1 rfl) ?_
  exact z_iret C0 hr hlk hw (by first | rfl | ((try simp (disch := omega) only [tnI, tn32 1 (by decide), tnj 1 (by decide), tl32 0 (by decide), tl64 0 (by decide)]); (repeat' split) <;> first | rfl | omega | (apply Int32.toInt_inj.mp; simp (disch := omega) only [tnI, tn32 1 (by decide), tnj 1 (by decide), tl32 0 (by decide), tl64 0 (by decide)]; omega))) (dkP dF_172 DX12_kinds (i := 39) rfl rfl)
set_option maxRecDepth 100000 in
set_option maxHeartbeats 4000000 in
theorem c_X12_row (l : Launch) (G : va_G) (kc : Nat → ClassId) (ad : Nat → Nat)  (i : Int32) (w : Int32)  : MI l G kc yX12_row cX12_row 3 (some .int) 2 45 [.ref (ad 0), .int i, .int w] shM ad sM0 (fun r σ1 => r = if 0 ≤ i.toInt ∧ i.toInt ≤ 19 ∧ 0 ≤ w.toInt ∧ w.toInt ≤ 4 then 0 else -2000000000) := by
  intro sz
  refine z_body (y := yX12_row) (n := 3) (av := [.ref (ad 0), .int i, .int w]) (Qc := fun A => va_Qi (fun r σ1 => r = if 0 ≤ i.toInt ∧ i.toInt ≤ 19 ∧ 0 ≤ w.toInt ∧ w.toInt ≤ 4 then 0 else -2000000000) (PoC G kc shM ad A) A) (plainFor_of_name (by decide)) (Nat.le_of_ble_eq_true rfl) (fun pr e s m below meth c A C0 hr hlk hnm hw ls hl => ?_) sz
  have hx := C0.1
  have hb := C0.2.1
  have hown := C0.2.2.2.1
  have hts := C0.2.2.2.2.1
  have hl : lv_has ls 3 [(0, .ref (ad 0)), (1, .int i), (2, .int w)] := hl
  refine lv_iload_n hx hb (dkP dF_27 DX12_row (i := 0) rfl rfl) rfl (lv_at hl 1 rfl) ?_
  refine zn_I hw (zr_S (As := [.int i]) (rest := []) C0 (c_X12_isRow l G kc i  _) cs_X12_isRow lk_X12_495 (zp_P C0 a00 s00) rfl hl.1 rfl ⟨by decide, by decide⟩ (Nat.le_of_ble_eq_true rfl) (dk2 dF_184 DX12_row (i := 1) rfl rfl rfl) ⟨Nat.le_refl _, Nat.le_refl _⟩) (fun r1 s1 H locs hp hw => ?_)
  rcases hp with ⟨rfl, hc1⟩ | ⟨rfl, hc1⟩
  · skip
    obtain ⟨k_i, hk_i, rfl⟩ := to_nat (x := i) (n := 20) (by (try simp only [lg_cmp_lt, lg_cmp_le, lg_cmp_gt, lg_cmp_ge, lg_cmp_eq] at hc1); (try simp (disch := omega) only [ta_lt, ta_le, ta_eq, tb_lt, tb_le, tb_eq, tw, tnI, tn32 1 (by decide), tnj 1 (by decide), tl32 0 (by decide), tl64 0 (by decide)] at hc1); (try simp (disch := omega) only [ta_lt, ta_le, ta_eq, tb_lt, tb_le, tb_eq, tw, tnI, tn32 1 (by decide), tnj 1 (by decide), tl32 0 (by decide), tl64 0 (by decide)]); omega)
    refine lv_if_eq (tgt := 33) hx hb (dkS dF_153 DX12_row (i := 2) rfl rfl rfl) (by decide) (fun h => absurd h (by decide)) (fun _ => ?_)
    refine lv_iload_n hx hb (dkP dF_28 DX12_row (i := 3) rfl rfl) rfl (lv_at hl 2 rfl) ?_
    refine lv_i2l hx hb (dkP dF_133 DX12_row (i := 4) rfl rfl) rfl ?_
    refine lv_lconst (v := 0) hx hb (dkP dF_9 DX12_row (i := 5) rfl rfl) (by decide) ?_
    refine lv_ldc2 hx hb hown (hts _ kn_X12_433) (dk2 dF_20 DX12_row (i := 6) rfl rfl rfl) ?_
    refine zn_I hw (zr_S (As := [.long w.toInt64, .long 0, .long 4]) (rest := []) C0 (c_X12_in l G kc w.toInt64 0 4  _) cs_X12_in lk_X12_9 (zp_P C0 a00 s00) rfl hl.1 rfl ⟨by decide, by decide⟩ (Nat.le_of_ble_eq_true rfl) (dk2 dF_184 DX12_row (i := 7) rfl rfl rfl) ⟨Nat.le_refl _, Nat.le_refl _⟩) (fun r2 s2 H locs hp hw => ?_)
    rcases hp with ⟨rfl, hc2⟩ | ⟨rfl, hc2⟩
    · skip
      obtain ⟨k_w, hk_w, rfl⟩ := to_nat (x := w) (n := 5) (by (try simp only [lg_cmp_lt, lg_cmp_le, lg_cmp_gt, lg_cmp_ge, lg_cmp_eq] at hc1); (try simp (disch := omega) only [ta_lt, ta_le, ta_eq, tb_lt, tb_le, tb_eq, tw, tnI, tn32 1 (by decide), tnj 1 (by decide), tl32 0 (by decide), tl64 0 (by decide), tl32 4 (by decide), tl64 4 (by decide)] at hc1); (try simp only [lg_cmp_lt, lg_cmp_le, lg_cmp_gt, lg_cmp_ge, lg_cmp_eq] at hk_i); (try simp (disch := omega) only [ta_lt, ta_le, ta_eq, tb_lt, tb_le, tb_eq, tw, tnI, tn32 1 (by decide), tnj 1 (by decide), tl32 0 (by decide), tl64 0 (by decide), tl32 4 (by decide), tl64 4 (by decide)] at hk_i); (try simp only [lg_cmp_lt, lg_cmp_le, lg_cmp_gt, lg_cmp_ge, lg_cmp_eq] at hc2); (try simp (disch := omega) only [ta_lt, ta_le, ta_eq, tb_lt, tb_le, tb_eq, tw, tnI, tn32 1 (by decide), tnj 1 (by decide), tl32 0 (by decide), tl64 0 (by decide), tl32 4 (by decide), tl64 4 (by decide)] at hc2); (try simp (disch := omega) only [ta_lt, ta_le, ta_eq, tb_lt, tb_le, tb_eq, tw, tnI, tn32 1 (by decide), tnj 1 (by decide), tl32 0 (by decide), tl64 0 (by decide), tl32 4 (by decide), tl64 4 (by decide)]); omega)
      refine lv_if_eq (tgt := 33) hx hb (dkS dF_153 DX12_row (i := 8) rfl rfl rfl) (by decide) (fun h => absurd h (by decide)) (fun _ => ?_)
      refine lv_aload_n hx hb (dkP dF_42 DX12_row (i := 9) rfl rfl) rfl (lv_at hl 0 rfl) ?_
      refine z_gr C0 hw 0 1 1 rfl fl_X12_20 (dk2 dF_180 DX12_row (i := 10) rfl rfl rfl) ?_
      refine lv_iload_n hx hb (dkP dF_27 DX12_row (i := 11) rfl rfl) rfl (lv_at hl 1 rfl) ?_
      refine zn_I hw (zr_S (As := [.int (nI k_i)]) (rest := [.ref (ad 1)]) C0 (c_X12_rowAt l G kc k_i  _) cs_X12_rowAt lk_X12_489 (zp_P C0 a00 s00) rfl hl.1 rfl ⟨by decide, by decide⟩ (Nat.le_of_ble_eq_true rfl) (dk2 dF_184 DX12_row (i := 12) rfl rfl rfl) ⟨Nat.le_refl _, Nat.le_refl _⟩) (fun r3 s3 H locs hp hw => ?_)
      subst hp
      refine lv_iload_n hx hb (dkP dF_28 DX12_row (i := 13) rfl rfl) rfl (lv_at hl 2 rfl) ?_
      refine lv_iadd hx hb (dkP dF_96 DX12_row (i := 14) rfl rfl) ?_
      refine z_top (y := nI ((414028 + 5 * k_i) + k_w)) (by simp only [fa_lit, nI_add, pk_mul]) ?_
      refine z_ialdN (n := 414128) C0 hw 1 ((414028 + 5 * k_i) + k_w) rfl (by omega) (by decide) (dkP dF_46 DX12_row (i := 15) rfl rfl) ?_
      refine z_top (y := 0) (w0_z _ (by omega) (by omega)) ?_
      refine lv_goto (tgt := 36) hx hb (dkS dF_167 DX12_row (i := 16) rfl rfl rfl) (by decide) ?_
      exact z_iret C0 hr hlk hw (by first | rfl | ((try simp only [lg_cmp_lt, lg_cmp_le, lg_cmp_gt, lg_cmp_ge, lg_cmp_eq] at hc1); (try simp (disch := omega) only [ta_lt, ta_le, ta_eq, tb_lt, tb_le, tb_eq, tw, tnI, tn32 1 (by decide), tnj 1 (by decide), tl32 0 (by decide), tl64 0 (by decide), tl32 4 (by decide), tl64 4 (by decide)] at hc1); (try simp only [lg_cmp_lt, lg_cmp_le, lg_cmp_gt, lg_cmp_ge, lg_cmp_eq] at hk_i); (try simp (disch := omega) only [ta_lt, ta_le, ta_eq, tb_lt, tb_le, tb_eq, tw, tnI, tn32 1 (by decide), tnj 1 (by decide), tl32 0 (by decide), tl64 0 (by decide), tl32 4 (by decide), tl64 4 (by decide)] at hk_i); (try simp only [lg_cmp_lt, lg_cmp_le, lg_cmp_gt, lg_cmp_ge, lg_cmp_eq] at hc2); (try simp (disch := omega) only [ta_lt, ta_le, ta_eq, tb_lt, tb_le, tb_eq, tw, tnI, tn32 1 (by decide), tnj 1 (by decide), tl32 0 (by decide), tl64 0 (by decide), tl32 4 (by decide), tl64 4 (by decide)] at hc2); (try simp only [lg_cmp_lt, lg_cmp_le, lg_cmp_gt, lg_cmp_ge, lg_cmp_eq] at hk_w); (try simp (disch := omega) only [ta_lt, ta_le, ta_eq, tb_lt, tb_le, tb_eq, tw, tnI, tn32 1 (by decide), tnj 1 (by decide), tl32 0 (by decide), tl64 0 (by decide), tl32 4 (by decide), tl64 4 (by decide)] at hk_w); (try simp (disch := omega) only [tnI, tn32 1 (by decide), tnj 1 (by decide), tl32 0 (by decide), tl64 0 (by decide), tl32 4 (by decide), tl64 4 (by decide)]); (repeat' split) <;> first | rfl | omega | (apply Int32.toInt_inj.mp; simp (disch := omega) only [tnI, tn32 1 (by decide), tnj 1 (by decide), tl32 0 (by decide), tl64 0 (by decide), tl32 4 (by decide), tl64 4 (by decide)]; omega))) (dkP dF_172 DX12_row (i := 18) rfl rfl)
    · skip
      refine lv_if_eq (tgt := 33) hx hb (dkS dF_153 DX12_row (i := 8) rfl rfl rfl) (by decide) (fun _ => ?_) (fun h => absurd h (by decide))
      refine lv_ldcw hx hb hown (hts _ kn_X12_413) (dk2 dF_19 DX12_row (i := 17) rfl rfl rfl) ?_
      exact z_iret C0 hr hlk hw (by first | rfl | ((try simp only [lg_cmp_lt, lg_cmp_le, lg_cmp_gt, lg_cmp_ge, lg_cmp_eq] at hc1); (try simp (disch := omega) only [ta_lt, ta_le, ta_eq, tb_lt, tb_le, tb_eq, tw, tnI, tn32 2000000000 (by decide), tnj 2000000000 (by decide), tn32 1 (by decide), tnj 1 (by decide), tl32 0 (by decide), tl64 0 (by decide), tl32 4 (by decide), tl64 4 (by decide)] at hc1); (try simp only [lg_cmp_lt, lg_cmp_le, lg_cmp_gt, lg_cmp_ge, lg_cmp_eq] at hk_i); (try simp (disch := omega) only [ta_lt, ta_le, ta_eq, tb_lt, tb_le, tb_eq, tw, tnI, tn32 2000000000 (by decide), tnj 2000000000 (by decide), tn32 1 (by decide), tnj 1 (by decide), tl32 0 (by decide), tl64 0 (by decide), tl32 4 (by decide), tl64 4 (by decide)] at hk_i); (try simp only [lg_cmp_lt, lg_cmp_le, lg_cmp_gt, lg_cmp_ge, lg_cmp_eq] at hc2); (try simp (disch := omega) only [ta_lt, ta_le, ta_eq, tb_lt, tb_le, tb_eq, tw, tnI, tn32 2000000000 (by decide), tnj 2000000000 (by decide), tn32 1 (by decide), tnj 1 (by decide), tl32 0 (by decide), tl64 0 (by decide), tl32 4 (by decide), tl64 4 (by decide)] at hc2); (try simp (disch := omega) only [tnI, tn32 2000000000 (by decide), tnj 2000000000 (by decide), tn32 1 (by decide), tnj 1 (by decide), tl32 0 (by decide), tl64 0 (by decide), tl32 4 (by decide), tl64 4 (by decide)]); (repeat' split) <;> first | rfl | omega | (apply Int32.toInt_inj.mp; simp (disch := omega) only [tnI, tn32 2000000000 (by decide), tnj 2000000000 (by decide), tn32 1 (by decide), tnj 1 (by decide), tl32 0 (by decide), tl64 0 (by decide), tl32 4 (by decide), tl64 4 (by decide)]; omega))) (dkP dF_172 DX12_row (i := 18) rfl rfl)
  · skip
    refine lv_if_eq (tgt := 33) hx hb (dkS dF_153 DX12_row (i := 2) rfl rfl rfl) (by decide) (fun _ => ?_) (fun h => absurd h (by decide))
    refine lv_ldcw hx hb hown (hts _ kn_X12_413) (dk2 dF_19 DX12_row (i := 17) rfl rfl rfl) ?_
    exact z_iret C0 hr hlk hw (by first | rfl | ((try simp only [lg_cmp_lt, lg_cmp_le, lg_cmp_gt, lg_cmp_ge, lg_cmp_eq] at hc1); (try simp (disch := omega) only [ta_lt, ta_le, ta_eq, tb_lt, tb_le, tb_eq, tw, tnI, tn32 2000000000 (by decide), tnj 2000000000 (by decide), tn32 1 (by decide), tnj 1 (by decide), tl32 0 (by decide), tl64 0 (by decide), tl32 4 (by decide), tl64 4 (by decide)] at hc1); (try simp (disch := omega) only [tnI, tn32 2000000000 (by decide), tnj 2000000000 (by decide), tn32 1 (by decide), tnj 1 (by decide), tl32 0 (by decide), tl64 0 (by decide), tl32 4 (by decide), tl64 4 (by decide)]); (repeat' split) <;> first | rfl | omega | (apply Int32.toInt_inj.mp; simp (disch := omega) only [tnI, tn32 2000000000 (by decide), tnj 2000000000 (by decide), tn32 1 (by decide), tnj 1 (by decide), tl32 0 (by decide), tl64 0 (by decide), tl32 4 (by decide), tl64 4 (by decide)]; omega))) (dkP dF_172 DX12_row (i := 18) rfl rfl)
set_option maxRecDepth 100000 in
set_option maxHeartbeats 4000000 in
theorem c_X12_check (l : Launch) (G : va_G) (kc : Nat → ClassId) (ad : Nat → Nat)    : MI l G kc yX12_check cX12_check 5 (some .int) 1 20 [.ref (ad 0)] shM ad sM0 (fun r σ1 => r = -1) := by
  intro sz
  refine z_body (y := yX12_check) (n := 5) (av := [.ref (ad 0)]) (Qc := fun A => va_Qi (fun r σ1 => r = -1) (PoC G kc shM ad A) A) (plainFor_of_name (by decide)) (Nat.le_of_ble_eq_true rfl) (fun pr e s m below meth c A C0 hr hlk hnm hw ls hl => ?_) sz
  have hx := C0.1
  have hb := C0.2.1
  have hown := C0.2.2.2.1
  have hts := C0.2.2.2.2.1
  have hl : lv_has ls 5 [(0, .ref (ad 0))] := hl
  refine lv_iconst (v := 0) hx hb (dkP dF_3 DX12_check (i := 0) rfl rfl) (by decide) ?_
  refine lv_istore_n (lv' := [(1, .int 0), (0, .ref (ad 0))]) hx hb (dkP dF_60 DX12_check (i := 1) rfl rfl) rfl hl (by decide) rfl (fun ls hl => ?_)
  refine lv_iconst (v := 1) hx hb (dkP dF_4 DX12_check (i := 2) rfl rfl) (by decide) ?_
  refine lv_istore_n (lv' := [(2, .int 1), (1, .int 0), (0, .ref (ad 0))]) hx hb (dkP dF_61 DX12_check (i := 3) rfl rfl) rfl hl (by decide) rfl (fun ls hl => ?_)
  refine lv_iconst (v := 0) hx hb (dkP dF_3 DX12_check (i := 4) rfl rfl) (by decide) ?_
  refine lv_istore_n (lv' := [(3, .int 0), (2, .int 1), (1, .int 0), (0, .ref (ad 0))]) hx hb (dkP dF_62 DX12_check (i := 5) rfl rfl) rfl hl (by decide) rfl (fun ls hl => ?_)
  refine lv_iload_n hx hb (dkP dF_29 DX12_check (i := 6) rfl rfl) rfl (lv_at hl 0 rfl) ?_
  refine lv_bipush (v := 20) hx hb (dks dF_16 DX12_check (i := 7) rfl rfl rfl) (by decide) ?_
  refine lv_icmp_ge (tgt := 87) hx hb (dkS dF_162 DX12_check (i := 8) rfl rfl rfl) (by decide) (fun h => absurd h (by decide)) (fun _ => ?_)
  refine lv_iload_n hx hb (dkP dF_29 DX12_check (i := 9) rfl rfl) rfl (lv_at hl 0 rfl) ?_
  refine zn_I hw (zr_S (As := [.int 0]) (rest := []) C0 (c_X12_rowAt l G kc 0  _) cs_X12_rowAt lk_X12_489 (zp_P C0 a00 s00) rfl hl.1 rfl ⟨by decide, by decide⟩ (Nat.le_of_ble_eq_true rfl) (dk2 dF_184 DX12_check (i := 10) rfl rfl rfl) ⟨Nat.le_refl _, Nat.le_refl _⟩) (fun r1 s1 H locs hp hw => ?_)
  subst hp
  refine z_top (y := 414028) (by rfl) ?_
  refine lv_istore (lv' := [(4, .int 414028), (3, .int 0), (2, .int 1), (1, .int 0), (0, .ref (ad 0))]) hx hb (dk1 dF_54 DX12_check (i := 11) rfl rfl rfl) hl (by decide) rfl (fun ls hl => ?_)
  refine lv_iload_n hx hb (dkP dF_27 DX12_check (i := 12) rfl rfl) rfl (lv_at hl 3 rfl) ?_
  refine lv_aload_n hx hb (dkP dF_42 DX12_check (i := 13) rfl rfl) rfl (lv_at hl 4 rfl) ?_
  refine z_gr C0 hw 0 1 1 rfl fl_X12_20 (dk2 dF_180 DX12_check (i := 14) rfl rfl rfl) ?_
  refine lv_iload hx hb (dk1 dF_21 DX12_check (i := 15) rfl rfl rfl) (lv_at hl 0 rfl) ?_
  refine lv_iconst (v := 3) hx hb (dkP dF_6 DX12_check (i := 16) rfl rfl) (by decide) ?_
  refine lv_iadd hx hb (dkP dF_96 DX12_check (i := 17) rfl rfl) ?_
  refine z_top (y := 414031) (by decide) ?_
  refine z_ialdN (n := 414128) C0 hw 1 414031 rfl (by omega) (by decide) (dkP dF_46 DX12_check (i := 18) rfl rfl) ?_
  refine z_top (y := 0) (by rfl) ?_
  refine lv_if_le (tgt := 35) hx hb (dkS dF_158 DX12_check (i := 19) rfl rfl rfl) (by decide) (fun _ => ?_) (fun h => absurd h (by decide))
  refine lv_iconst (v := 0) hx hb (dkP dF_3 DX12_check (i := 22) rfl rfl) (by decide) ?_
  refine lv_iadd hx hb (dkP dF_96 DX12_check (i := 23) rfl rfl) ?_
  refine z_top (y := 0) (by decide) ?_
  refine lv_istore_n (lv' := [(1, .int 0), (4, .int 414028), (3, .int 0), (2, .int 1), (0, .ref (ad 0))]) hx hb (dkP dF_60 DX12_check (i := 24) rfl rfl) rfl hl (by decide) rfl (fun ls hl => ?_)
  refine lv_iload_n hx hb (dkP dF_28 DX12_check (i := 25) rfl rfl) rfl (lv_at hl 3 rfl) ?_
  refine lv_if_eq (tgt := 79) hx hb (dkS dF_153 DX12_check (i := 26) rfl rfl rfl) (by decide) (fun h => absurd h (by decide)) (fun _ => ?_)
  refine lv_aload_n hx hb (dkP dF_42 DX12_check (i := 27) rfl rfl) rfl (lv_at hl 4 rfl) ?_
  refine z_gr C0 hw 0 1 1 rfl fl_X12_20 (dk2 dF_180 DX12_check (i := 28) rfl rfl rfl) ?_
  refine lv_iload hx hb (dk1 dF_21 DX12_check (i := 29) rfl rfl rfl) (lv_at hl 1 rfl) ?_
  refine lv_iconst (v := 1) hx hb (dkP dF_4 DX12_check (i := 30) rfl rfl) (by decide) ?_
  refine lv_iadd hx hb (dkP dF_96 DX12_check (i := 31) rfl rfl) ?_
  refine z_top (y := 414029) (by decide) ?_
  refine z_ialdN (n := 414128) C0 hw 1 414029 rfl (by omega) (by decide) (dkP dF_46 DX12_check (i := 32) rfl rfl) ?_
  refine z_top (y := 0) (by rfl) ?_
  refine lv_aload_n hx hb (dkP dF_42 DX12_check (i := 33) rfl rfl) rfl (lv_at hl 4 rfl) ?_
  refine z_gr C0 hw 0 1 1 rfl fl_X12_20 (dk2 dF_180 DX12_check (i := 34) rfl rfl rfl) ?_
  refine lv_iconst (v := 3) hx hb (dkP dF_6 DX12_check (i := 35) rfl rfl) (by decide) ?_
  refine z_ialdN (n := 414128) C0 hw 1 3 rfl (by omega) (by decide) (dkP dF_46 DX12_check (i := 36) rfl rfl) ?_
  refine z_top (y := 1) (by rfl) ?_
  refine lv_aload_n hx hb (dkP dF_42 DX12_check (i := 37) rfl rfl) rfl (lv_at hl 4 rfl) ?_
  refine z_gr C0 hw 0 1 1 rfl fl_X12_20 (dk2 dF_180 DX12_check (i := 38) rfl rfl rfl) ?_
  refine lv_iload hx hb (dk1 dF_21 DX12_check (i := 39) rfl rfl rfl) (lv_at hl 1 rfl) ?_
  refine z_ialdN (n := 414128) C0 hw 1 414028 rfl (by omega) (by decide) (dkP dF_46 DX12_check (i := 40) rfl rfl) ?_
  refine z_top (y := 0) (by rfl) ?_
  refine lv_imul hx hb (dkP dF_104 DX12_check (i := 41) rfl rfl) ?_
  refine z_top (y := 0) (by decide) ?_
  refine lv_aload_n hx hb (dkP dF_42 DX12_check (i := 42) rfl rfl) rfl (lv_at hl 4 rfl) ?_
  refine z_gr C0 hw 0 1 1 rfl fl_X12_20 (dk2 dF_180 DX12_check (i := 43) rfl rfl rfl) ?_
  refine lv_iconst (v := 4) hx hb (dkP dF_7 DX12_check (i := 44) rfl rfl) (by decide) ?_
  refine z_ialdN (n := 414128) C0 hw 1 4 rfl (by omega) (by decide) (dkP dF_46 DX12_check (i := 45) rfl rfl) ?_
  refine z_top (y := 0) (by rfl) ?_
  refine lv_iadd hx hb (dkP dF_96 DX12_check (i := 46) rfl rfl) ?_
  refine z_top (y := 0) (by decide) ?_
  refine lv_icmp_ne (tgt := 79) hx hb (dkS dF_160 DX12_check (i := 47) rfl rfl rfl) (by decide) (fun h => absurd h (by decide)) (fun _ => ?_)
  refine lv_iconst (v := 1) hx hb (dkP dF_4 DX12_check (i := 48) rfl rfl) (by decide) ?_
  refine lv_goto (tgt := 80) hx hb (dkS dF_167 DX12_check (i := 49) rfl rfl rfl) (by decide) ?_
  refine lv_istore_n (lv' := [(2, .int 1), (1, .int 0), (4, .int 414028), (3, .int 0), (0, .ref (ad 0))]) hx hb (dkP dF_61 DX12_check (i := 51) rfl rfl) rfl hl (by decide) rfl (fun ls hl => ?_)
  refine lv_iinc (v := 1) (lv' := [(3, .int 1), (2, .int 1), (1, .int 0), (4, .int 414028), (0, .ref (ad 0))]) hx hb (dkI DX12_check (i := 52) rfl rfl rfl rfl) hl (k := 3) rfl (by decide) (by decide) rfl (fun ls hl => ?_)
  refine lv_goto (tgt := 6) hx hb (dkS dF_167 DX12_check (i := 53) rfl rfl rfl) (by decide) ?_
  refine lv_iload_n hx hb (dkP dF_29 DX12_check (i := 6) rfl rfl) rfl (lv_at hl 0 rfl) ?_
  refine lv_bipush (v := 20) hx hb (dks dF_16 DX12_check (i := 7) rfl rfl rfl) (by decide) ?_
  refine lv_icmp_ge (tgt := 87) hx hb (dkS dF_162 DX12_check (i := 8) rfl rfl rfl) (by decide) (fun h => absurd h (by decide)) (fun _ => ?_)
  refine lv_iload_n hx hb (dkP dF_29 DX12_check (i := 9) rfl rfl) rfl (lv_at hl 0 rfl) ?_
  refine zn_I hw (zr_S (As := [.int 1]) (rest := []) C0 (c_X12_rowAt l G kc 1  _) cs_X12_rowAt lk_X12_489 (zp_P C0 a00 s00) rfl hl.1 rfl ⟨by decide, by decide⟩ (Nat.le_of_ble_eq_true rfl) (dk2 dF_184 DX12_check (i := 10) rfl rfl rfl) ⟨Nat.le_refl _, Nat.le_refl _⟩) (fun r2 s2 H locs hp hw => ?_)
  subst hp
  refine z_top (y := 414033) (by rfl) ?_
  refine lv_istore (lv' := [(4, .int 414033), (3, .int 1), (2, .int 1), (1, .int 0), (0, .ref (ad 0))]) hx hb (dk1 dF_54 DX12_check (i := 11) rfl rfl rfl) hl (by decide) rfl (fun ls hl => ?_)
  refine lv_iload_n hx hb (dkP dF_27 DX12_check (i := 12) rfl rfl) rfl (lv_at hl 3 rfl) ?_
  refine lv_aload_n hx hb (dkP dF_42 DX12_check (i := 13) rfl rfl) rfl (lv_at hl 4 rfl) ?_
  refine z_gr C0 hw 0 1 1 rfl fl_X12_20 (dk2 dF_180 DX12_check (i := 14) rfl rfl rfl) ?_
  refine lv_iload hx hb (dk1 dF_21 DX12_check (i := 15) rfl rfl rfl) (lv_at hl 0 rfl) ?_
  refine lv_iconst (v := 3) hx hb (dkP dF_6 DX12_check (i := 16) rfl rfl) (by decide) ?_
  refine lv_iadd hx hb (dkP dF_96 DX12_check (i := 17) rfl rfl) ?_
  refine z_top (y := 414036) (by decide) ?_
  refine z_ialdN (n := 414128) C0 hw 1 414036 rfl (by omega) (by decide) (dkP dF_46 DX12_check (i := 18) rfl rfl) ?_
  refine z_top (y := 0) (by rfl) ?_
  refine lv_if_le (tgt := 35) hx hb (dkS dF_158 DX12_check (i := 19) rfl rfl rfl) (by decide) (fun _ => ?_) (fun h => absurd h (by decide))
  refine lv_iconst (v := 0) hx hb (dkP dF_3 DX12_check (i := 22) rfl rfl) (by decide) ?_
  refine lv_iadd hx hb (dkP dF_96 DX12_check (i := 23) rfl rfl) ?_
  refine z_top (y := 0) (by decide) ?_
  refine lv_istore_n (lv' := [(1, .int 0), (4, .int 414033), (3, .int 1), (2, .int 1), (0, .ref (ad 0))]) hx hb (dkP dF_60 DX12_check (i := 24) rfl rfl) rfl hl (by decide) rfl (fun ls hl => ?_)
  refine lv_iload_n hx hb (dkP dF_28 DX12_check (i := 25) rfl rfl) rfl (lv_at hl 3 rfl) ?_
  refine lv_if_eq (tgt := 79) hx hb (dkS dF_153 DX12_check (i := 26) rfl rfl rfl) (by decide) (fun h => absurd h (by decide)) (fun _ => ?_)
  refine lv_aload_n hx hb (dkP dF_42 DX12_check (i := 27) rfl rfl) rfl (lv_at hl 4 rfl) ?_
  refine z_gr C0 hw 0 1 1 rfl fl_X12_20 (dk2 dF_180 DX12_check (i := 28) rfl rfl rfl) ?_
  refine lv_iload hx hb (dk1 dF_21 DX12_check (i := 29) rfl rfl rfl) (lv_at hl 1 rfl) ?_
  refine lv_iconst (v := 1) hx hb (dkP dF_4 DX12_check (i := 30) rfl rfl) (by decide) ?_
  refine lv_iadd hx hb (dkP dF_96 DX12_check (i := 31) rfl rfl) ?_
  refine z_top (y := 414034) (by decide) ?_
  refine z_ialdN (n := 414128) C0 hw 1 414034 rfl (by omega) (by decide) (dkP dF_46 DX12_check (i := 32) rfl rfl) ?_
  refine z_top (y := 0) (by rfl) ?_
  refine lv_aload_n hx hb (dkP dF_42 DX12_check (i := 33) rfl rfl) rfl (lv_at hl 4 rfl) ?_
  refine z_gr C0 hw 0 1 1 rfl fl_X12_20 (dk2 dF_180 DX12_check (i := 34) rfl rfl rfl) ?_
  refine lv_iconst (v := 3) hx hb (dkP dF_6 DX12_check (i := 35) rfl rfl) (by decide) ?_
  refine z_ialdN (n := 414128) C0 hw 1 3 rfl (by omega) (by decide) (dkP dF_46 DX12_check (i := 36) rfl rfl) ?_
  refine z_top (y := 1) (by rfl) ?_
  refine lv_aload_n hx hb (dkP dF_42 DX12_check (i := 37) rfl rfl) rfl (lv_at hl 4 rfl) ?_
  refine z_gr C0 hw 0 1 1 rfl fl_X12_20 (dk2 dF_180 DX12_check (i := 38) rfl rfl rfl) ?_
  refine lv_iload hx hb (dk1 dF_21 DX12_check (i := 39) rfl rfl rfl) (lv_at hl 1 rfl) ?_
  refine z_ialdN (n := 414128) C0 hw 1 414033 rfl (by omega) (by decide) (dkP dF_46 DX12_check (i := 40) rfl rfl) ?_
  refine z_top (y := 0) (by rfl) ?_
  refine lv_imul hx hb (dkP dF_104 DX12_check (i := 41) rfl rfl) ?_
  refine z_top (y := 0) (by decide) ?_
  refine lv_aload_n hx hb (dkP dF_42 DX12_check (i := 42) rfl rfl) rfl (lv_at hl 4 rfl) ?_
  refine z_gr C0 hw 0 1 1 rfl fl_X12_20 (dk2 dF_180 DX12_check (i := 43) rfl rfl rfl) ?_
  refine lv_iconst (v := 4) hx hb (dkP dF_7 DX12_check (i := 44) rfl rfl) (by decide) ?_
  refine z_ialdN (n := 414128) C0 hw 1 4 rfl (by omega) (by decide) (dkP dF_46 DX12_check (i := 45) rfl rfl) ?_
  refine z_top (y := 0) (by rfl) ?_
  refine lv_iadd hx hb (dkP dF_96 DX12_check (i := 46) rfl rfl) ?_
  refine z_top (y := 0) (by decide) ?_
  refine lv_icmp_ne (tgt := 79) hx hb (dkS dF_160 DX12_check (i := 47) rfl rfl rfl) (by decide) (fun h => absurd h (by decide)) (fun _ => ?_)
  refine lv_iconst (v := 1) hx hb (dkP dF_4 DX12_check (i := 48) rfl rfl) (by decide) ?_
  refine lv_goto (tgt := 80) hx hb (dkS dF_167 DX12_check (i := 49) rfl rfl rfl) (by decide) ?_
  refine lv_istore_n (lv' := [(2, .int 1), (1, .int 0), (4, .int 414033), (3, .int 1), (0, .ref (ad 0))]) hx hb (dkP dF_61 DX12_check (i := 51) rfl rfl) rfl hl (by decide) rfl (fun ls hl => ?_)
  refine lv_iinc (v := 2) (lv' := [(3, .int 2), (2, .int 1), (1, .int 0), (4, .int 414033), (0, .ref (ad 0))]) hx hb (dkI DX12_check (i := 52) rfl rfl rfl rfl) hl (k := 3) rfl (by decide) (by decide) rfl (fun ls hl => ?_)
  refine lv_goto (tgt := 6) hx hb (dkS dF_167 DX12_check (i := 53) rfl rfl rfl) (by decide) ?_
  refine lv_iload_n hx hb (dkP dF_29 DX12_check (i := 6) rfl rfl) rfl (lv_at hl 0 rfl) ?_
  refine lv_bipush (v := 20) hx hb (dks dF_16 DX12_check (i := 7) rfl rfl rfl) (by decide) ?_
  refine lv_icmp_ge (tgt := 87) hx hb (dkS dF_162 DX12_check (i := 8) rfl rfl rfl) (by decide) (fun h => absurd h (by decide)) (fun _ => ?_)
  refine lv_iload_n hx hb (dkP dF_29 DX12_check (i := 9) rfl rfl) rfl (lv_at hl 0 rfl) ?_
  refine zn_I hw (zr_S (As := [.int 2]) (rest := []) C0 (c_X12_rowAt l G kc 2  _) cs_X12_rowAt lk_X12_489 (zp_P C0 a00 s00) rfl hl.1 rfl ⟨by decide, by decide⟩ (Nat.le_of_ble_eq_true rfl) (dk2 dF_184 DX12_check (i := 10) rfl rfl rfl) ⟨Nat.le_refl _, Nat.le_refl _⟩) (fun r3 s3 H locs hp hw => ?_)
  subst hp
  refine z_top (y := 414038) (by rfl) ?_
  refine lv_istore (lv' := [(4, .int 414038), (3, .int 2), (2, .int 1), (1, .int 0), (0, .ref (ad 0))]) hx hb (dk1 dF_54 DX12_check (i := 11) rfl rfl rfl) hl (by decide) rfl (fun ls hl => ?_)
  refine lv_iload_n hx hb (dkP dF_27 DX12_check (i := 12) rfl rfl) rfl (lv_at hl 3 rfl) ?_
  refine lv_aload_n hx hb (dkP dF_42 DX12_check (i := 13) rfl rfl) rfl (lv_at hl 4 rfl) ?_
  refine z_gr C0 hw 0 1 1 rfl fl_X12_20 (dk2 dF_180 DX12_check (i := 14) rfl rfl rfl) ?_
  refine lv_iload hx hb (dk1 dF_21 DX12_check (i := 15) rfl rfl rfl) (lv_at hl 0 rfl) ?_
  refine lv_iconst (v := 3) hx hb (dkP dF_6 DX12_check (i := 16) rfl rfl) (by decide) ?_
  refine lv_iadd hx hb (dkP dF_96 DX12_check (i := 17) rfl rfl) ?_
  refine z_top (y := 414041) (by decide) ?_
  refine z_ialdN (n := 414128) C0 hw 1 414041 rfl (by omega) (by decide) (dkP dF_46 DX12_check (i := 18) rfl rfl) ?_
  refine z_top (y := 0) (by rfl) ?_
  refine lv_if_le (tgt := 35) hx hb (dkS dF_158 DX12_check (i := 19) rfl rfl rfl) (by decide) (fun _ => ?_) (fun h => absurd h (by decide))
  refine lv_iconst (v := 0) hx hb (dkP dF_3 DX12_check (i := 22) rfl rfl) (by decide) ?_
  refine lv_iadd hx hb (dkP dF_96 DX12_check (i := 23) rfl rfl) ?_
  refine z_top (y := 0) (by decide) ?_
  refine lv_istore_n (lv' := [(1, .int 0), (4, .int 414038), (3, .int 2), (2, .int 1), (0, .ref (ad 0))]) hx hb (dkP dF_60 DX12_check (i := 24) rfl rfl) rfl hl (by decide) rfl (fun ls hl => ?_)
  refine lv_iload_n hx hb (dkP dF_28 DX12_check (i := 25) rfl rfl) rfl (lv_at hl 3 rfl) ?_
  refine lv_if_eq (tgt := 79) hx hb (dkS dF_153 DX12_check (i := 26) rfl rfl rfl) (by decide) (fun h => absurd h (by decide)) (fun _ => ?_)
  refine lv_aload_n hx hb (dkP dF_42 DX12_check (i := 27) rfl rfl) rfl (lv_at hl 4 rfl) ?_
  refine z_gr C0 hw 0 1 1 rfl fl_X12_20 (dk2 dF_180 DX12_check (i := 28) rfl rfl rfl) ?_
  refine lv_iload hx hb (dk1 dF_21 DX12_check (i := 29) rfl rfl rfl) (lv_at hl 1 rfl) ?_
  refine lv_iconst (v := 1) hx hb (dkP dF_4 DX12_check (i := 30) rfl rfl) (by decide) ?_
  refine lv_iadd hx hb (dkP dF_96 DX12_check (i := 31) rfl rfl) ?_
  refine z_top (y := 414039) (by decide) ?_
  refine z_ialdN (n := 414128) C0 hw 1 414039 rfl (by omega) (by decide) (dkP dF_46 DX12_check (i := 32) rfl rfl) ?_
  refine z_top (y := 0) (by rfl) ?_
  refine lv_aload_n hx hb (dkP dF_42 DX12_check (i := 33) rfl rfl) rfl (lv_at hl 4 rfl) ?_
  refine z_gr C0 hw 0 1 1 rfl fl_X12_20 (dk2 dF_180 DX12_check (i := 34) rfl rfl rfl) ?_
  refine lv_iconst (v := 3) hx hb (dkP dF_6 DX12_check (i := 35) rfl rfl) (by decide) ?_
  refine z_ialdN (n := 414128) C0 hw 1 3 rfl (by omega) (by decide) (dkP dF_46 DX12_check (i := 36) rfl rfl) ?_
  refine z_top (y := 1) (by rfl) ?_
  refine lv_aload_n hx hb (dkP dF_42 DX12_check (i := 37) rfl rfl) rfl (lv_at hl 4 rfl) ?_
  refine z_gr C0 hw 0 1 1 rfl fl_X12_20 (dk2 dF_180 DX12_check (i := 38) rfl rfl rfl) ?_
  refine lv_iload hx hb (dk1 dF_21 DX12_check (i := 39) rfl rfl rfl) (lv_at hl 1 rfl) ?_
  refine z_ialdN (n := 414128) C0 hw 1 414038 rfl (by omega) (by decide) (dkP dF_46 DX12_check (i := 40) rfl rfl) ?_
  refine z_top (y := 0) (by rfl) ?_
  refine lv_imul hx hb (dkP dF_104 DX12_check (i := 41) rfl rfl) ?_
  refine z_top (y := 0) (by decide) ?_
  refine lv_aload_n hx hb (dkP dF_42 DX12_check (i := 42) rfl rfl) rfl (lv_at hl 4 rfl) ?_
  refine z_gr C0 hw 0 1 1 rfl fl_X12_20 (dk2 dF_180 DX12_check (i := 43) rfl rfl rfl) ?_
  refine lv_iconst (v := 4) hx hb (dkP dF_7 DX12_check (i := 44) rfl rfl) (by decide) ?_
  refine z_ialdN (n := 414128) C0 hw 1 4 rfl (by omega) (by decide) (dkP dF_46 DX12_check (i := 45) rfl rfl) ?_
  refine z_top (y := 0) (by rfl) ?_
  refine lv_iadd hx hb (dkP dF_96 DX12_check (i := 46) rfl rfl) ?_
  refine z_top (y := 0) (by decide) ?_
  refine lv_icmp_ne (tgt := 79) hx hb (dkS dF_160 DX12_check (i := 47) rfl rfl rfl) (by decide) (fun h => absurd h (by decide)) (fun _ => ?_)
  refine lv_iconst (v := 1) hx hb (dkP dF_4 DX12_check (i := 48) rfl rfl) (by decide) ?_
  refine lv_goto (tgt := 80) hx hb (dkS dF_167 DX12_check (i := 49) rfl rfl rfl) (by decide) ?_
  refine lv_istore_n (lv' := [(2, .int 1), (1, .int 0), (4, .int 414038), (3, .int 2), (0, .ref (ad 0))]) hx hb (dkP dF_61 DX12_check (i := 51) rfl rfl) rfl hl (by decide) rfl (fun ls hl => ?_)
  refine lv_iinc (v := 3) (lv' := [(3, .int 3), (2, .int 1), (1, .int 0), (4, .int 414038), (0, .ref (ad 0))]) hx hb (dkI DX12_check (i := 52) rfl rfl rfl rfl) hl (k := 3) rfl (by decide) (by decide) rfl (fun ls hl => ?_)
  refine lv_goto (tgt := 6) hx hb (dkS dF_167 DX12_check (i := 53) rfl rfl rfl) (by decide) ?_
  refine lv_iload_n hx hb (dkP dF_29 DX12_check (i := 6) rfl rfl) rfl (lv_at hl 0 rfl) ?_
  refine lv_bipush (v := 20) hx hb (dks dF_16 DX12_check (i := 7) rfl rfl rfl) (by decide) ?_
  refine lv_icmp_ge (tgt := 87) hx hb (dkS dF_162 DX12_check (i := 8) rfl rfl rfl) (by decide) (fun h => absurd h (by decide)) (fun _ => ?_)
  refine lv_iload_n hx hb (dkP dF_29 DX12_check (i := 9) rfl rfl) rfl (lv_at hl 0 rfl) ?_
  refine zn_I hw (zr_S (As := [.int 3]) (rest := []) C0 (c_X12_rowAt l G kc 3  _) cs_X12_rowAt lk_X12_489 (zp_P C0 a00 s00) rfl hl.1 rfl ⟨by decide, by decide⟩ (Nat.le_of_ble_eq_true rfl) (dk2 dF_184 DX12_check (i := 10) rfl rfl rfl) ⟨Nat.le_refl _, Nat.le_refl _⟩) (fun r4 s4 H locs hp hw => ?_)
  subst hp
  refine z_top (y := 414043) (by rfl) ?_
  refine lv_istore (lv' := [(4, .int 414043), (3, .int 3), (2, .int 1), (1, .int 0), (0, .ref (ad 0))]) hx hb (dk1 dF_54 DX12_check (i := 11) rfl rfl rfl) hl (by decide) rfl (fun ls hl => ?_)
  refine lv_iload_n hx hb (dkP dF_27 DX12_check (i := 12) rfl rfl) rfl (lv_at hl 3 rfl) ?_
  refine lv_aload_n hx hb (dkP dF_42 DX12_check (i := 13) rfl rfl) rfl (lv_at hl 4 rfl) ?_
  refine z_gr C0 hw 0 1 1 rfl fl_X12_20 (dk2 dF_180 DX12_check (i := 14) rfl rfl rfl) ?_
  refine lv_iload hx hb (dk1 dF_21 DX12_check (i := 15) rfl rfl rfl) (lv_at hl 0 rfl) ?_
  refine lv_iconst (v := 3) hx hb (dkP dF_6 DX12_check (i := 16) rfl rfl) (by decide) ?_
  refine lv_iadd hx hb (dkP dF_96 DX12_check (i := 17) rfl rfl) ?_
  refine z_top (y := 414046) (by decide) ?_
  refine z_ialdN (n := 414128) C0 hw 1 414046 rfl (by omega) (by decide) (dkP dF_46 DX12_check (i := 18) rfl rfl) ?_
  refine z_top (y := 0) (by rfl) ?_
  refine lv_if_le (tgt := 35) hx hb (dkS dF_158 DX12_check (i := 19) rfl rfl rfl) (by decide) (fun _ => ?_) (fun h => absurd h (by decide))
  refine lv_iconst (v := 0) hx hb (dkP dF_3 DX12_check (i := 22) rfl rfl) (by decide) ?_
  refine lv_iadd hx hb (dkP dF_96 DX12_check (i := 23) rfl rfl) ?_
  refine z_top (y := 0) (by decide) ?_
  refine lv_istore_n (lv' := [(1, .int 0), (4, .int 414043), (3, .int 3), (2, .int 1), (0, .ref (ad 0))]) hx hb (dkP dF_60 DX12_check (i := 24) rfl rfl) rfl hl (by decide) rfl (fun ls hl => ?_)
  refine lv_iload_n hx hb (dkP dF_28 DX12_check (i := 25) rfl rfl) rfl (lv_at hl 3 rfl) ?_
  refine lv_if_eq (tgt := 79) hx hb (dkS dF_153 DX12_check (i := 26) rfl rfl rfl) (by decide) (fun h => absurd h (by decide)) (fun _ => ?_)
  refine lv_aload_n hx hb (dkP dF_42 DX12_check (i := 27) rfl rfl) rfl (lv_at hl 4 rfl) ?_
  refine z_gr C0 hw 0 1 1 rfl fl_X12_20 (dk2 dF_180 DX12_check (i := 28) rfl rfl rfl) ?_
  refine lv_iload hx hb (dk1 dF_21 DX12_check (i := 29) rfl rfl rfl) (lv_at hl 1 rfl) ?_
  refine lv_iconst (v := 1) hx hb (dkP dF_4 DX12_check (i := 30) rfl rfl) (by decide) ?_
  refine lv_iadd hx hb (dkP dF_96 DX12_check (i := 31) rfl rfl) ?_
  refine z_top (y := 414044) (by decide) ?_
  refine z_ialdN (n := 414128) C0 hw 1 414044 rfl (by omega) (by decide) (dkP dF_46 DX12_check (i := 32) rfl rfl) ?_
  refine z_top (y := 0) (by rfl) ?_
  refine lv_aload_n hx hb (dkP dF_42 DX12_check (i := 33) rfl rfl) rfl (lv_at hl 4 rfl) ?_
  refine z_gr C0 hw 0 1 1 rfl fl_X12_20 (dk2 dF_180 DX12_check (i := 34) rfl rfl rfl) ?_
  refine lv_iconst (v := 3) hx hb (dkP dF_6 DX12_check (i := 35) rfl rfl) (by decide) ?_
  refine z_ialdN (n := 414128) C0 hw 1 3 rfl (by omega) (by decide) (dkP dF_46 DX12_check (i := 36) rfl rfl) ?_
  refine z_top (y := 1) (by rfl) ?_
  refine lv_aload_n hx hb (dkP dF_42 DX12_check (i := 37) rfl rfl) rfl (lv_at hl 4 rfl) ?_
  refine z_gr C0 hw 0 1 1 rfl fl_X12_20 (dk2 dF_180 DX12_check (i := 38) rfl rfl rfl) ?_
  refine lv_iload hx hb (dk1 dF_21 DX12_check (i := 39) rfl rfl rfl) (lv_at hl 1 rfl) ?_
  refine z_ialdN (n := 414128) C0 hw 1 414043 rfl (by omega) (by decide) (dkP dF_46 DX12_check (i := 40) rfl rfl) ?_
  refine z_top (y := 0) (by rfl) ?_
  refine lv_imul hx hb (dkP dF_104 DX12_check (i := 41) rfl rfl) ?_
  refine z_top (y := 0) (by decide) ?_
  refine lv_aload_n hx hb (dkP dF_42 DX12_check (i := 42) rfl rfl) rfl (lv_at hl 4 rfl) ?_
  refine z_gr C0 hw 0 1 1 rfl fl_X12_20 (dk2 dF_180 DX12_check (i := 43) rfl rfl rfl) ?_
  refine lv_iconst (v := 4) hx hb (dkP dF_7 DX12_check (i := 44) rfl rfl) (by decide) ?_
  refine z_ialdN (n := 414128) C0 hw 1 4 rfl (by omega) (by decide) (dkP dF_46 DX12_check (i := 45) rfl rfl) ?_
  refine z_top (y := 0) (by rfl) ?_
  refine lv_iadd hx hb (dkP dF_96 DX12_check (i := 46) rfl rfl) ?_
  refine z_top (y := 0) (by decide) ?_
  refine lv_icmp_ne (tgt := 79) hx hb (dkS dF_160 DX12_check (i := 47) rfl rfl rfl) (by decide) (fun h => absurd h (by decide)) (fun _ => ?_)
  refine lv_iconst (v := 1) hx hb (dkP dF_4 DX12_check (i := 48) rfl rfl) (by decide) ?_
  refine lv_goto (tgt := 80) hx hb (dkS dF_167 DX12_check (i := 49) rfl rfl rfl) (by decide) ?_
  refine lv_istore_n (lv' := [(2, .int 1), (1, .int 0), (4, .int 414043), (3, .int 3), (0, .ref (ad 0))]) hx hb (dkP dF_61 DX12_check (i := 51) rfl rfl) rfl hl (by decide) rfl (fun ls hl => ?_)
  refine lv_iinc (v := 4) (lv' := [(3, .int 4), (2, .int 1), (1, .int 0), (4, .int 414043), (0, .ref (ad 0))]) hx hb (dkI DX12_check (i := 52) rfl rfl rfl rfl) hl (k := 3) rfl (by decide) (by decide) rfl (fun ls hl => ?_)
  refine lv_goto (tgt := 6) hx hb (dkS dF_167 DX12_check (i := 53) rfl rfl rfl) (by decide) ?_
  refine lv_iload_n hx hb (dkP dF_29 DX12_check (i := 6) rfl rfl) rfl (lv_at hl 0 rfl) ?_
  refine lv_bipush (v := 20) hx hb (dks dF_16 DX12_check (i := 7) rfl rfl rfl) (by decide) ?_
  refine lv_icmp_ge (tgt := 87) hx hb (dkS dF_162 DX12_check (i := 8) rfl rfl rfl) (by decide) (fun h => absurd h (by decide)) (fun _ => ?_)
  refine lv_iload_n hx hb (dkP dF_29 DX12_check (i := 9) rfl rfl) rfl (lv_at hl 0 rfl) ?_
  refine zn_I hw (zr_S (As := [.int 4]) (rest := []) C0 (c_X12_rowAt l G kc 4  _) cs_X12_rowAt lk_X12_489 (zp_P C0 a00 s00) rfl hl.1 rfl ⟨by decide, by decide⟩ (Nat.le_of_ble_eq_true rfl) (dk2 dF_184 DX12_check (i := 10) rfl rfl rfl) ⟨Nat.le_refl _, Nat.le_refl _⟩) (fun r5 s5 H locs hp hw => ?_)
  subst hp
  refine z_top (y := 414048) (by rfl) ?_
  refine lv_istore (lv' := [(4, .int 414048), (3, .int 4), (2, .int 1), (1, .int 0), (0, .ref (ad 0))]) hx hb (dk1 dF_54 DX12_check (i := 11) rfl rfl rfl) hl (by decide) rfl (fun ls hl => ?_)
  refine lv_iload_n hx hb (dkP dF_27 DX12_check (i := 12) rfl rfl) rfl (lv_at hl 3 rfl) ?_
  refine lv_aload_n hx hb (dkP dF_42 DX12_check (i := 13) rfl rfl) rfl (lv_at hl 4 rfl) ?_
  refine z_gr C0 hw 0 1 1 rfl fl_X12_20 (dk2 dF_180 DX12_check (i := 14) rfl rfl rfl) ?_
  refine lv_iload hx hb (dk1 dF_21 DX12_check (i := 15) rfl rfl rfl) (lv_at hl 0 rfl) ?_
  refine lv_iconst (v := 3) hx hb (dkP dF_6 DX12_check (i := 16) rfl rfl) (by decide) ?_
  refine lv_iadd hx hb (dkP dF_96 DX12_check (i := 17) rfl rfl) ?_
  refine z_top (y := 414051) (by decide) ?_
  refine z_ialdN (n := 414128) C0 hw 1 414051 rfl (by omega) (by decide) (dkP dF_46 DX12_check (i := 18) rfl rfl) ?_
  refine z_top (y := 0) (by rfl) ?_
  refine lv_if_le (tgt := 35) hx hb (dkS dF_158 DX12_check (i := 19) rfl rfl rfl) (by decide) (fun _ => ?_) (fun h => absurd h (by decide))
  refine lv_iconst (v := 0) hx hb (dkP dF_3 DX12_check (i := 22) rfl rfl) (by decide) ?_
  refine lv_iadd hx hb (dkP dF_96 DX12_check (i := 23) rfl rfl) ?_
  refine z_top (y := 0) (by decide) ?_
  refine lv_istore_n (lv' := [(1, .int 0), (4, .int 414048), (3, .int 4), (2, .int 1), (0, .ref (ad 0))]) hx hb (dkP dF_60 DX12_check (i := 24) rfl rfl) rfl hl (by decide) rfl (fun ls hl => ?_)
  refine lv_iload_n hx hb (dkP dF_28 DX12_check (i := 25) rfl rfl) rfl (lv_at hl 3 rfl) ?_
  refine lv_if_eq (tgt := 79) hx hb (dkS dF_153 DX12_check (i := 26) rfl rfl rfl) (by decide) (fun h => absurd h (by decide)) (fun _ => ?_)
  refine lv_aload_n hx hb (dkP dF_42 DX12_check (i := 27) rfl rfl) rfl (lv_at hl 4 rfl) ?_
  refine z_gr C0 hw 0 1 1 rfl fl_X12_20 (dk2 dF_180 DX12_check (i := 28) rfl rfl rfl) ?_
  refine lv_iload hx hb (dk1 dF_21 DX12_check (i := 29) rfl rfl rfl) (lv_at hl 1 rfl) ?_
  refine lv_iconst (v := 1) hx hb (dkP dF_4 DX12_check (i := 30) rfl rfl) (by decide) ?_
  refine lv_iadd hx hb (dkP dF_96 DX12_check (i := 31) rfl rfl) ?_
  refine z_top (y := 414049) (by decide) ?_
  refine z_ialdN (n := 414128) C0 hw 1 414049 rfl (by omega) (by decide) (dkP dF_46 DX12_check (i := 32) rfl rfl) ?_
  refine z_top (y := 0) (by rfl) ?_
  refine lv_aload_n hx hb (dkP dF_42 DX12_check (i := 33) rfl rfl) rfl (lv_at hl 4 rfl) ?_
  refine z_gr C0 hw 0 1 1 rfl fl_X12_20 (dk2 dF_180 DX12_check (i := 34) rfl rfl rfl) ?_
  refine lv_iconst (v := 3) hx hb (dkP dF_6 DX12_check (i := 35) rfl rfl) (by decide) ?_
  refine z_ialdN (n := 414128) C0 hw 1 3 rfl (by omega) (by decide) (dkP dF_46 DX12_check (i := 36) rfl rfl) ?_
  refine z_top (y := 1) (by rfl) ?_
  refine lv_aload_n hx hb (dkP dF_42 DX12_check (i := 37) rfl rfl) rfl (lv_at hl 4 rfl) ?_
  refine z_gr C0 hw 0 1 1 rfl fl_X12_20 (dk2 dF_180 DX12_check (i := 38) rfl rfl rfl) ?_
  refine lv_iload hx hb (dk1 dF_21 DX12_check (i := 39) rfl rfl rfl) (lv_at hl 1 rfl) ?_
  refine z_ialdN (n := 414128) C0 hw 1 414048 rfl (by omega) (by decide) (dkP dF_46 DX12_check (i := 40) rfl rfl) ?_
  refine z_top (y := 0) (by rfl) ?_
  refine lv_imul hx hb (dkP dF_104 DX12_check (i := 41) rfl rfl) ?_
  refine z_top (y := 0) (by decide) ?_
  refine lv_aload_n hx hb (dkP dF_42 DX12_check (i := 42) rfl rfl) rfl (lv_at hl 4 rfl) ?_
  refine z_gr C0 hw 0 1 1 rfl fl_X12_20 (dk2 dF_180 DX12_check (i := 43) rfl rfl rfl) ?_
  refine lv_iconst (v := 4) hx hb (dkP dF_7 DX12_check (i := 44) rfl rfl) (by decide) ?_
  refine z_ialdN (n := 414128) C0 hw 1 4 rfl (by omega) (by decide) (dkP dF_46 DX12_check (i := 45) rfl rfl) ?_
  refine z_top (y := 0) (by rfl) ?_
  refine lv_iadd hx hb (dkP dF_96 DX12_check (i := 46) rfl rfl) ?_
  refine z_top (y := 0) (by decide) ?_
  refine lv_icmp_ne (tgt := 79) hx hb (dkS dF_160 DX12_check (i := 47) rfl rfl rfl) (by decide) (fun h => absurd h (by decide)) (fun _ => ?_)
  refine lv_iconst (v := 1) hx hb (dkP dF_4 DX12_check (i := 48) rfl rfl) (by decide) ?_
  refine lv_goto (tgt := 80) hx hb (dkS dF_167 DX12_check (i := 49) rfl rfl rfl) (by decide) ?_
  refine lv_istore_n (lv' := [(2, .int 1), (1, .int 0), (4, .int 414048), (3, .int 4), (0, .ref (ad 0))]) hx hb (dkP dF_61 DX12_check (i := 51) rfl rfl) rfl hl (by decide) rfl (fun ls hl => ?_)
  refine lv_iinc (v := 5) (lv' := [(3, .int 5), (2, .int 1), (1, .int 0), (4, .int 414048), (0, .ref (ad 0))]) hx hb (dkI DX12_check (i := 52) rfl rfl rfl rfl) hl (k := 3) rfl (by decide) (by decide) rfl (fun ls hl => ?_)
  refine lv_goto (tgt := 6) hx hb (dkS dF_167 DX12_check (i := 53) rfl rfl rfl) (by decide) ?_
  refine lv_iload_n hx hb (dkP dF_29 DX12_check (i := 6) rfl rfl) rfl (lv_at hl 0 rfl) ?_
  refine lv_bipush (v := 20) hx hb (dks dF_16 DX12_check (i := 7) rfl rfl rfl) (by decide) ?_
  refine lv_icmp_ge (tgt := 87) hx hb (dkS dF_162 DX12_check (i := 8) rfl rfl rfl) (by decide) (fun h => absurd h (by decide)) (fun _ => ?_)
  refine lv_iload_n hx hb (dkP dF_29 DX12_check (i := 9) rfl rfl) rfl (lv_at hl 0 rfl) ?_
  refine zn_I hw (zr_S (As := [.int 5]) (rest := []) C0 (c_X12_rowAt l G kc 5  _) cs_X12_rowAt lk_X12_489 (zp_P C0 a00 s00) rfl hl.1 rfl ⟨by decide, by decide⟩ (Nat.le_of_ble_eq_true rfl) (dk2 dF_184 DX12_check (i := 10) rfl rfl rfl) ⟨Nat.le_refl _, Nat.le_refl _⟩) (fun r6 s6 H locs hp hw => ?_)
  subst hp
  refine z_top (y := 414053) (by rfl) ?_
  refine lv_istore (lv' := [(4, .int 414053), (3, .int 5), (2, .int 1), (1, .int 0), (0, .ref (ad 0))]) hx hb (dk1 dF_54 DX12_check (i := 11) rfl rfl rfl) hl (by decide) rfl (fun ls hl => ?_)
  refine lv_iload_n hx hb (dkP dF_27 DX12_check (i := 12) rfl rfl) rfl (lv_at hl 3 rfl) ?_
  refine lv_aload_n hx hb (dkP dF_42 DX12_check (i := 13) rfl rfl) rfl (lv_at hl 4 rfl) ?_
  refine z_gr C0 hw 0 1 1 rfl fl_X12_20 (dk2 dF_180 DX12_check (i := 14) rfl rfl rfl) ?_
  refine lv_iload hx hb (dk1 dF_21 DX12_check (i := 15) rfl rfl rfl) (lv_at hl 0 rfl) ?_
  refine lv_iconst (v := 3) hx hb (dkP dF_6 DX12_check (i := 16) rfl rfl) (by decide) ?_
  refine lv_iadd hx hb (dkP dF_96 DX12_check (i := 17) rfl rfl) ?_
  refine z_top (y := 414056) (by decide) ?_
  refine z_ialdN (n := 414128) C0 hw 1 414056 rfl (by omega) (by decide) (dkP dF_46 DX12_check (i := 18) rfl rfl) ?_
  refine z_top (y := 0) (by rfl) ?_
  refine lv_if_le (tgt := 35) hx hb (dkS dF_158 DX12_check (i := 19) rfl rfl rfl) (by decide) (fun _ => ?_) (fun h => absurd h (by decide))
  refine lv_iconst (v := 0) hx hb (dkP dF_3 DX12_check (i := 22) rfl rfl) (by decide) ?_
  refine lv_iadd hx hb (dkP dF_96 DX12_check (i := 23) rfl rfl) ?_
  refine z_top (y := 0) (by decide) ?_
  refine lv_istore_n (lv' := [(1, .int 0), (4, .int 414053), (3, .int 5), (2, .int 1), (0, .ref (ad 0))]) hx hb (dkP dF_60 DX12_check (i := 24) rfl rfl) rfl hl (by decide) rfl (fun ls hl => ?_)
  refine lv_iload_n hx hb (dkP dF_28 DX12_check (i := 25) rfl rfl) rfl (lv_at hl 3 rfl) ?_
  refine lv_if_eq (tgt := 79) hx hb (dkS dF_153 DX12_check (i := 26) rfl rfl rfl) (by decide) (fun h => absurd h (by decide)) (fun _ => ?_)
  refine lv_aload_n hx hb (dkP dF_42 DX12_check (i := 27) rfl rfl) rfl (lv_at hl 4 rfl) ?_
  refine z_gr C0 hw 0 1 1 rfl fl_X12_20 (dk2 dF_180 DX12_check (i := 28) rfl rfl rfl) ?_
  refine lv_iload hx hb (dk1 dF_21 DX12_check (i := 29) rfl rfl rfl) (lv_at hl 1 rfl) ?_
  refine lv_iconst (v := 1) hx hb (dkP dF_4 DX12_check (i := 30) rfl rfl) (by decide) ?_
  refine lv_iadd hx hb (dkP dF_96 DX12_check (i := 31) rfl rfl) ?_
  refine z_top (y := 414054) (by decide) ?_
  refine z_ialdN (n := 414128) C0 hw 1 414054 rfl (by omega) (by decide) (dkP dF_46 DX12_check (i := 32) rfl rfl) ?_
  refine z_top (y := 0) (by rfl) ?_
  refine lv_aload_n hx hb (dkP dF_42 DX12_check (i := 33) rfl rfl) rfl (lv_at hl 4 rfl) ?_
  refine z_gr C0 hw 0 1 1 rfl fl_X12_20 (dk2 dF_180 DX12_check (i := 34) rfl rfl rfl) ?_
  refine lv_iconst (v := 3) hx hb (dkP dF_6 DX12_check (i := 35) rfl rfl) (by decide) ?_
  refine z_ialdN (n := 414128) C0 hw 1 3 rfl (by omega) (by decide) (dkP dF_46 DX12_check (i := 36) rfl rfl) ?_
  refine z_top (y := 1) (by rfl) ?_
  refine lv_aload_n hx hb (dkP dF_42 DX12_check (i := 37) rfl rfl) rfl (lv_at hl 4 rfl) ?_
  refine z_gr C0 hw 0 1 1 rfl fl_X12_20 (dk2 dF_180 DX12_check (i := 38) rfl rfl rfl) ?_
  refine lv_iload hx hb (dk1 dF_21 DX12_check (i := 39) rfl rfl rfl) (lv_at hl 1 rfl) ?_
  refine z_ialdN (n := 414128) C0 hw 1 414053 rfl (by omega) (by decide) (dkP dF_46 DX12_check (i := 40) rfl rfl) ?_
  refine z_top (y := 0) (by rfl) ?_
  refine lv_imul hx hb (dkP dF_104 DX12_check (i := 41) rfl rfl) ?_
  refine z_top (y := 0) (by decide) ?_
  refine lv_aload_n hx hb (dkP dF_42 DX12_check (i := 42) rfl rfl) rfl (lv_at hl 4 rfl) ?_
  refine z_gr C0 hw 0 1 1 rfl fl_X12_20 (dk2 dF_180 DX12_check (i := 43) rfl rfl rfl) ?_
  refine lv_iconst (v := 4) hx hb (dkP dF_7 DX12_check (i := 44) rfl rfl) (by decide) ?_
  refine z_ialdN (n := 414128) C0 hw 1 4 rfl (by omega) (by decide) (dkP dF_46 DX12_check (i := 45) rfl rfl) ?_
  refine z_top (y := 0) (by rfl) ?_
  refine lv_iadd hx hb (dkP dF_96 DX12_check (i := 46) rfl rfl) ?_
  refine z_top (y := 0) (by decide) ?_
  refine lv_icmp_ne (tgt := 79) hx hb (dkS dF_160 DX12_check (i := 47) rfl rfl rfl) (by decide) (fun h => absurd h (by decide)) (fun _ => ?_)
  refine lv_iconst (v := 1) hx hb (dkP dF_4 DX12_check (i := 48) rfl rfl) (by decide) ?_
  refine lv_goto (tgt := 80) hx hb (dkS dF_167 DX12_check (i := 49) rfl rfl rfl) (by decide) ?_
  refine lv_istore_n (lv' := [(2, .int 1), (1, .int 0), (4, .int 414053), (3, .int 5), (0, .ref (ad 0))]) hx hb (dkP dF_61 DX12_check (i := 51) rfl rfl) rfl hl (by decide) rfl (fun ls hl => ?_)
  refine lv_iinc (v := 6) (lv' := [(3, .int 6), (2, .int 1), (1, .int 0), (4, .int 414053), (0, .ref (ad 0))]) hx hb (dkI DX12_check (i := 52) rfl rfl rfl rfl) hl (k := 3) rfl (by decide) (by decide) rfl (fun ls hl => ?_)
  refine lv_goto (tgt := 6) hx hb (dkS dF_167 DX12_check (i := 53) rfl rfl rfl) (by decide) ?_
  refine lv_iload_n hx hb (dkP dF_29 DX12_check (i := 6) rfl rfl) rfl (lv_at hl 0 rfl) ?_
  refine lv_bipush (v := 20) hx hb (dks dF_16 DX12_check (i := 7) rfl rfl rfl) (by decide) ?_
  refine lv_icmp_ge (tgt := 87) hx hb (dkS dF_162 DX12_check (i := 8) rfl rfl rfl) (by decide) (fun h => absurd h (by decide)) (fun _ => ?_)
  refine lv_iload_n hx hb (dkP dF_29 DX12_check (i := 9) rfl rfl) rfl (lv_at hl 0 rfl) ?_
  refine zn_I hw (zr_S (As := [.int 6]) (rest := []) C0 (c_X12_rowAt l G kc 6  _) cs_X12_rowAt lk_X12_489 (zp_P C0 a00 s00) rfl hl.1 rfl ⟨by decide, by decide⟩ (Nat.le_of_ble_eq_true rfl) (dk2 dF_184 DX12_check (i := 10) rfl rfl rfl) ⟨Nat.le_refl _, Nat.le_refl _⟩) (fun r7 s7 H locs hp hw => ?_)
  subst hp
  refine z_top (y := 414058) (by rfl) ?_
  refine lv_istore (lv' := [(4, .int 414058), (3, .int 6), (2, .int 1), (1, .int 0), (0, .ref (ad 0))]) hx hb (dk1 dF_54 DX12_check (i := 11) rfl rfl rfl) hl (by decide) rfl (fun ls hl => ?_)
  refine lv_iload_n hx hb (dkP dF_27 DX12_check (i := 12) rfl rfl) rfl (lv_at hl 3 rfl) ?_
  refine lv_aload_n hx hb (dkP dF_42 DX12_check (i := 13) rfl rfl) rfl (lv_at hl 4 rfl) ?_
  refine z_gr C0 hw 0 1 1 rfl fl_X12_20 (dk2 dF_180 DX12_check (i := 14) rfl rfl rfl) ?_
  refine lv_iload hx hb (dk1 dF_21 DX12_check (i := 15) rfl rfl rfl) (lv_at hl 0 rfl) ?_
  refine lv_iconst (v := 3) hx hb (dkP dF_6 DX12_check (i := 16) rfl rfl) (by decide) ?_
  refine lv_iadd hx hb (dkP dF_96 DX12_check (i := 17) rfl rfl) ?_
  refine z_top (y := 414061) (by decide) ?_
  refine z_ialdN (n := 414128) C0 hw 1 414061 rfl (by omega) (by decide) (dkP dF_46 DX12_check (i := 18) rfl rfl) ?_
  refine z_top (y := 0) (by rfl) ?_
  refine lv_if_le (tgt := 35) hx hb (dkS dF_158 DX12_check (i := 19) rfl rfl rfl) (by decide) (fun _ => ?_) (fun h => absurd h (by decide))
  refine lv_iconst (v := 0) hx hb (dkP dF_3 DX12_check (i := 22) rfl rfl) (by decide) ?_
  refine lv_iadd hx hb (dkP dF_96 DX12_check (i := 23) rfl rfl) ?_
  refine z_top (y := 0) (by decide) ?_
  refine lv_istore_n (lv' := [(1, .int 0), (4, .int 414058), (3, .int 6), (2, .int 1), (0, .ref (ad 0))]) hx hb (dkP dF_60 DX12_check (i := 24) rfl rfl) rfl hl (by decide) rfl (fun ls hl => ?_)
  refine lv_iload_n hx hb (dkP dF_28 DX12_check (i := 25) rfl rfl) rfl (lv_at hl 3 rfl) ?_
  refine lv_if_eq (tgt := 79) hx hb (dkS dF_153 DX12_check (i := 26) rfl rfl rfl) (by decide) (fun h => absurd h (by decide)) (fun _ => ?_)
  refine lv_aload_n hx hb (dkP dF_42 DX12_check (i := 27) rfl rfl) rfl (lv_at hl 4 rfl) ?_
  refine z_gr C0 hw 0 1 1 rfl fl_X12_20 (dk2 dF_180 DX12_check (i := 28) rfl rfl rfl) ?_
  refine lv_iload hx hb (dk1 dF_21 DX12_check (i := 29) rfl rfl rfl) (lv_at hl 1 rfl) ?_
  refine lv_iconst (v := 1) hx hb (dkP dF_4 DX12_check (i := 30) rfl rfl) (by decide) ?_
  refine lv_iadd hx hb (dkP dF_96 DX12_check (i := 31) rfl rfl) ?_
  refine z_top (y := 414059) (by decide) ?_
  refine z_ialdN (n := 414128) C0 hw 1 414059 rfl (by omega) (by decide) (dkP dF_46 DX12_check (i := 32) rfl rfl) ?_
  refine z_top (y := 0) (by rfl) ?_
  refine lv_aload_n hx hb (dkP dF_42 DX12_check (i := 33) rfl rfl) rfl (lv_at hl 4 rfl) ?_
  refine z_gr C0 hw 0 1 1 rfl fl_X12_20 (dk2 dF_180 DX12_check (i := 34) rfl rfl rfl) ?_
  refine lv_iconst (v := 3) hx hb (dkP dF_6 DX12_check (i := 35) rfl rfl) (by decide) ?_
  refine z_ialdN (n := 414128) C0 hw 1 3 rfl (by omega) (by decide) (dkP dF_46 DX12_check (i := 36) rfl rfl) ?_
  refine z_top (y := 1) (by rfl) ?_
  refine lv_aload_n hx hb (dkP dF_42 DX12_check (i := 37) rfl rfl) rfl (lv_at hl 4 rfl) ?_
  refine z_gr C0 hw 0 1 1 rfl fl_X12_20 (dk2 dF_180 DX12_check (i := 38) rfl rfl rfl) ?_
  refine lv_iload hx hb (dk1 dF_21 DX12_check (i := 39) rfl rfl rfl) (lv_at hl 1 rfl) ?_
  refine z_ialdN (n := 414128) C0 hw 1 414058 rfl (by omega) (by decide) (dkP dF_46 DX12_check (i := 40) rfl rfl) ?_
  refine z_top (y := 0) (by rfl) ?_
  refine lv_imul hx hb (dkP dF_104 DX12_check (i := 41) rfl rfl) ?_
  refine z_top (y := 0) (by decide) ?_
  refine lv_aload_n hx hb (dkP dF_42 DX12_check (i := 42) rfl rfl) rfl (lv_at hl 4 rfl) ?_
  refine z_gr C0 hw 0 1 1 rfl fl_X12_20 (dk2 dF_180 DX12_check (i := 43) rfl rfl rfl) ?_
  refine lv_iconst (v := 4) hx hb (dkP dF_7 DX12_check (i := 44) rfl rfl) (by decide) ?_
  refine z_ialdN (n := 414128) C0 hw 1 4 rfl (by omega) (by decide) (dkP dF_46 DX12_check (i := 45) rfl rfl) ?_
  refine z_top (y := 0) (by rfl) ?_
  refine lv_iadd hx hb (dkP dF_96 DX12_check (i := 46) rfl rfl) ?_
  refine z_top (y := 0) (by decide) ?_
  refine lv_icmp_ne (tgt := 79) hx hb (dkS dF_160 DX12_check (i := 47) rfl rfl rfl) (by decide) (fun h => absurd h (by decide)) (fun _ => ?_)
  refine lv_iconst (v := 1) hx hb (dkP dF_4 DX12_check (i := 48) rfl rfl) (by decide) ?_
  refine lv_goto (tgt := 80) hx hb (dkS dF_167 DX12_check (i := 49) rfl rfl rfl) (by decide) ?_
  refine lv_istore_n (lv' := [(2, .int 1), (1, .int 0), (4, .int 414058), (3, .int 6), (0, .ref (ad 0))]) hx hb (dkP dF_61 DX12_check (i := 51) rfl rfl) rfl hl (by decide) rfl (fun ls hl => ?_)
  refine lv_iinc (v := 7) (lv' := [(3, .int 7), (2, .int 1), (1, .int 0), (4, .int 414058), (0, .ref (ad 0))]) hx hb (dkI DX12_check (i := 52) rfl rfl rfl rfl) hl (k := 3) rfl (by decide) (by decide) rfl (fun ls hl => ?_)
  refine lv_goto (tgt := 6) hx hb (dkS dF_167 DX12_check (i := 53) rfl rfl rfl) (by decide) ?_
  refine lv_iload_n hx hb (dkP dF_29 DX12_check (i := 6) rfl rfl) rfl (lv_at hl 0 rfl) ?_
  refine lv_bipush (v := 20) hx hb (dks dF_16 DX12_check (i := 7) rfl rfl rfl) (by decide) ?_
  refine lv_icmp_ge (tgt := 87) hx hb (dkS dF_162 DX12_check (i := 8) rfl rfl rfl) (by decide) (fun h => absurd h (by decide)) (fun _ => ?_)
  refine lv_iload_n hx hb (dkP dF_29 DX12_check (i := 9) rfl rfl) rfl (lv_at hl 0 rfl) ?_
  refine zn_I hw (zr_S (As := [.int 7]) (rest := []) C0 (c_X12_rowAt l G kc 7  _) cs_X12_rowAt lk_X12_489 (zp_P C0 a00 s00) rfl hl.1 rfl ⟨by decide, by decide⟩ (Nat.le_of_ble_eq_true rfl) (dk2 dF_184 DX12_check (i := 10) rfl rfl rfl) ⟨Nat.le_refl _, Nat.le_refl _⟩) (fun r8 s8 H locs hp hw => ?_)
  subst hp
  refine z_top (y := 414063) (by rfl) ?_
  refine lv_istore (lv' := [(4, .int 414063), (3, .int 7), (2, .int 1), (1, .int 0), (0, .ref (ad 0))]) hx hb (dk1 dF_54 DX12_check (i := 11) rfl rfl rfl) hl (by decide) rfl (fun ls hl => ?_)
  refine lv_iload_n hx hb (dkP dF_27 DX12_check (i := 12) rfl rfl) rfl (lv_at hl 3 rfl) ?_
  refine lv_aload_n hx hb (dkP dF_42 DX12_check (i := 13) rfl rfl) rfl (lv_at hl 4 rfl) ?_
  refine z_gr C0 hw 0 1 1 rfl fl_X12_20 (dk2 dF_180 DX12_check (i := 14) rfl rfl rfl) ?_
  refine lv_iload hx hb (dk1 dF_21 DX12_check (i := 15) rfl rfl rfl) (lv_at hl 0 rfl) ?_
  refine lv_iconst (v := 3) hx hb (dkP dF_6 DX12_check (i := 16) rfl rfl) (by decide) ?_
  refine lv_iadd hx hb (dkP dF_96 DX12_check (i := 17) rfl rfl) ?_
  refine z_top (y := 414066) (by decide) ?_
  refine z_ialdN (n := 414128) C0 hw 1 414066 rfl (by omega) (by decide) (dkP dF_46 DX12_check (i := 18) rfl rfl) ?_
  refine z_top (y := 0) (by rfl) ?_
  refine lv_if_le (tgt := 35) hx hb (dkS dF_158 DX12_check (i := 19) rfl rfl rfl) (by decide) (fun _ => ?_) (fun h => absurd h (by decide))
  refine lv_iconst (v := 0) hx hb (dkP dF_3 DX12_check (i := 22) rfl rfl) (by decide) ?_
  refine lv_iadd hx hb (dkP dF_96 DX12_check (i := 23) rfl rfl) ?_
  refine z_top (y := 0) (by decide) ?_
  refine lv_istore_n (lv' := [(1, .int 0), (4, .int 414063), (3, .int 7), (2, .int 1), (0, .ref (ad 0))]) hx hb (dkP dF_60 DX12_check (i := 24) rfl rfl) rfl hl (by decide) rfl (fun ls hl => ?_)
  refine lv_iload_n hx hb (dkP dF_28 DX12_check (i := 25) rfl rfl) rfl (lv_at hl 3 rfl) ?_
  refine lv_if_eq (tgt := 79) hx hb (dkS dF_153 DX12_check (i := 26) rfl rfl rfl) (by decide) (fun h => absurd h (by decide)) (fun _ => ?_)
  refine lv_aload_n hx hb (dkP dF_42 DX12_check (i := 27) rfl rfl) rfl (lv_at hl 4 rfl) ?_
  refine z_gr C0 hw 0 1 1 rfl fl_X12_20 (dk2 dF_180 DX12_check (i := 28) rfl rfl rfl) ?_
  refine lv_iload hx hb (dk1 dF_21 DX12_check (i := 29) rfl rfl rfl) (lv_at hl 1 rfl) ?_
  refine lv_iconst (v := 1) hx hb (dkP dF_4 DX12_check (i := 30) rfl rfl) (by decide) ?_
  refine lv_iadd hx hb (dkP dF_96 DX12_check (i := 31) rfl rfl) ?_
  refine z_top (y := 414064) (by decide) ?_
  refine z_ialdN (n := 414128) C0 hw 1 414064 rfl (by omega) (by decide) (dkP dF_46 DX12_check (i := 32) rfl rfl) ?_
  refine z_top (y := 0) (by rfl) ?_
  refine lv_aload_n hx hb (dkP dF_42 DX12_check (i := 33) rfl rfl) rfl (lv_at hl 4 rfl) ?_
  refine z_gr C0 hw 0 1 1 rfl fl_X12_20 (dk2 dF_180 DX12_check (i := 34) rfl rfl rfl) ?_
  refine lv_iconst (v := 3) hx hb (dkP dF_6 DX12_check (i := 35) rfl rfl) (by decide) ?_
  refine z_ialdN (n := 414128) C0 hw 1 3 rfl (by omega) (by decide) (dkP dF_46 DX12_check (i := 36) rfl rfl) ?_
  refine z_top (y := 1) (by rfl) ?_
  refine lv_aload_n hx hb (dkP dF_42 DX12_check (i := 37) rfl rfl) rfl (lv_at hl 4 rfl) ?_
  refine z_gr C0 hw 0 1 1 rfl fl_X12_20 (dk2 dF_180 DX12_check (i := 38) rfl rfl rfl) ?_
  refine lv_iload hx hb (dk1 dF_21 DX12_check (i := 39) rfl rfl rfl) (lv_at hl 1 rfl) ?_
  refine z_ialdN (n := 414128) C0 hw 1 414063 rfl (by omega) (by decide) (dkP dF_46 DX12_check (i := 40) rfl rfl) ?_
  refine z_top (y := 0) (by rfl) ?_
  refine lv_imul hx hb (dkP dF_104 DX12_check (i := 41) rfl rfl) ?_
  refine z_top (y := 0) (by decide) ?_
  refine lv_aload_n hx hb (dkP dF_42 DX12_check (i := 42) rfl rfl) rfl (lv_at hl 4 rfl) ?_
  refine z_gr C0 hw 0 1 1 rfl fl_X12_20 (dk2 dF_180 DX12_check (i := 43) rfl rfl rfl) ?_
  refine lv_iconst (v := 4) hx hb (dkP dF_7 DX12_check (i := 44) rfl rfl) (by decide) ?_
  refine z_ialdN (n := 414128) C0 hw 1 4 rfl (by omega) (by decide) (dkP dF_46 DX12_check (i := 45) rfl rfl) ?_
  refine z_top (y := 0) (by rfl) ?_
  refine lv_iadd hx hb (dkP dF_96 DX12_check (i := 46) rfl rfl) ?_
  refine z_top (y := 0) (by decide) ?_
  refine lv_icmp_ne (tgt := 79) hx hb (dkS dF_160 DX12_check (i := 47) rfl rfl rfl) (by decide) (fun h => absurd h (by decide)) (fun _ => ?_)
  refine lv_iconst (v := 1) hx hb (dkP dF_4 DX12_check (i := 48) rfl rfl) (by decide) ?_
  refine lv_goto (tgt := 80) hx hb (dkS dF_167 DX12_check (i := 49) rfl rfl rfl) (by decide) ?_
  refine lv_istore_n (lv' := [(2, .int 1), (1, .int 0), (4, .int 414063), (3, .int 7), (0, .ref (ad 0))]) hx hb (dkP dF_61 DX12_check (i := 51) rfl rfl) rfl hl (by decide) rfl (fun ls hl => ?_)
  refine lv_iinc (v := 8) (lv' := [(3, .int 8), (2, .int 1), (1, .int 0), (4, .int 414063), (0, .ref (ad 0))]) hx hb (dkI DX12_check (i := 52) rfl rfl rfl rfl) hl (k := 3) rfl (by decide) (by decide) rfl (fun ls hl => ?_)
  refine lv_goto (tgt := 6) hx hb (dkS dF_167 DX12_check (i := 53) rfl rfl rfl) (by decide) ?_
  refine lv_iload_n hx hb (dkP dF_29 DX12_check (i := 6) rfl rfl) rfl (lv_at hl 0 rfl) ?_
  refine lv_bipush (v := 20) hx hb (dks dF_16 DX12_check (i := 7) rfl rfl rfl) (by decide) ?_
  refine lv_icmp_ge (tgt := 87) hx hb (dkS dF_162 DX12_check (i := 8) rfl rfl rfl) (by decide) (fun h => absurd h (by decide)) (fun _ => ?_)
  refine lv_iload_n hx hb (dkP dF_29 DX12_check (i := 9) rfl rfl) rfl (lv_at hl 0 rfl) ?_
  refine zn_I hw (zr_S (As := [.int 8]) (rest := []) C0 (c_X12_rowAt l G kc 8  _) cs_X12_rowAt lk_X12_489 (zp_P C0 a00 s00) rfl hl.1 rfl ⟨by decide, by decide⟩ (Nat.le_of_ble_eq_true rfl) (dk2 dF_184 DX12_check (i := 10) rfl rfl rfl) ⟨Nat.le_refl _, Nat.le_refl _⟩) (fun r9 s9 H locs hp hw => ?_)
  subst hp
  refine z_top (y := 414068) (by rfl) ?_
  refine lv_istore (lv' := [(4, .int 414068), (3, .int 8), (2, .int 1), (1, .int 0), (0, .ref (ad 0))]) hx hb (dk1 dF_54 DX12_check (i := 11) rfl rfl rfl) hl (by decide) rfl (fun ls hl => ?_)
  refine lv_iload_n hx hb (dkP dF_27 DX12_check (i := 12) rfl rfl) rfl (lv_at hl 3 rfl) ?_
  refine lv_aload_n hx hb (dkP dF_42 DX12_check (i := 13) rfl rfl) rfl (lv_at hl 4 rfl) ?_
  refine z_gr C0 hw 0 1 1 rfl fl_X12_20 (dk2 dF_180 DX12_check (i := 14) rfl rfl rfl) ?_
  refine lv_iload hx hb (dk1 dF_21 DX12_check (i := 15) rfl rfl rfl) (lv_at hl 0 rfl) ?_
  refine lv_iconst (v := 3) hx hb (dkP dF_6 DX12_check (i := 16) rfl rfl) (by decide) ?_
  refine lv_iadd hx hb (dkP dF_96 DX12_check (i := 17) rfl rfl) ?_
  refine z_top (y := 414071) (by decide) ?_
  refine z_ialdN (n := 414128) C0 hw 1 414071 rfl (by omega) (by decide) (dkP dF_46 DX12_check (i := 18) rfl rfl) ?_
  refine z_top (y := 0) (by rfl) ?_
  refine lv_if_le (tgt := 35) hx hb (dkS dF_158 DX12_check (i := 19) rfl rfl rfl) (by decide) (fun _ => ?_) (fun h => absurd h (by decide))
  refine lv_iconst (v := 0) hx hb (dkP dF_3 DX12_check (i := 22) rfl rfl) (by decide) ?_
  refine lv_iadd hx hb (dkP dF_96 DX12_check (i := 23) rfl rfl) ?_
  refine z_top (y := 0) (by decide) ?_
  refine lv_istore_n (lv' := [(1, .int 0), (4, .int 414068), (3, .int 8), (2, .int 1), (0, .ref (ad 0))]) hx hb (dkP dF_60 DX12_check (i := 24) rfl rfl) rfl hl (by decide) rfl (fun ls hl => ?_)
  refine lv_iload_n hx hb (dkP dF_28 DX12_check (i := 25) rfl rfl) rfl (lv_at hl 3 rfl) ?_
  refine lv_if_eq (tgt := 79) hx hb (dkS dF_153 DX12_check (i := 26) rfl rfl rfl) (by decide) (fun h => absurd h (by decide)) (fun _ => ?_)
  refine lv_aload_n hx hb (dkP dF_42 DX12_check (i := 27) rfl rfl) rfl (lv_at hl 4 rfl) ?_
  refine z_gr C0 hw 0 1 1 rfl fl_X12_20 (dk2 dF_180 DX12_check (i := 28) rfl rfl rfl) ?_
  refine lv_iload hx hb (dk1 dF_21 DX12_check (i := 29) rfl rfl rfl) (lv_at hl 1 rfl) ?_
  refine lv_iconst (v := 1) hx hb (dkP dF_4 DX12_check (i := 30) rfl rfl) (by decide) ?_
  refine lv_iadd hx hb (dkP dF_96 DX12_check (i := 31) rfl rfl) ?_
  refine z_top (y := 414069) (by decide) ?_
  refine z_ialdN (n := 414128) C0 hw 1 414069 rfl (by omega) (by decide) (dkP dF_46 DX12_check (i := 32) rfl rfl) ?_
  refine z_top (y := 0) (by rfl) ?_
  refine lv_aload_n hx hb (dkP dF_42 DX12_check (i := 33) rfl rfl) rfl (lv_at hl 4 rfl) ?_
  refine z_gr C0 hw 0 1 1 rfl fl_X12_20 (dk2 dF_180 DX12_check (i := 34) rfl rfl rfl) ?_
  refine lv_iconst (v := 3) hx hb (dkP dF_6 DX12_check (i := 35) rfl rfl) (by decide) ?_
  refine z_ialdN (n := 414128) C0 hw 1 3 rfl (by omega) (by decide) (dkP dF_46 DX12_check (i := 36) rfl rfl) ?_
  refine z_top (y := 1) (by rfl) ?_
  refine lv_aload_n hx hb (dkP dF_42 DX12_check (i := 37) rfl rfl) rfl (lv_at hl 4 rfl) ?_
  refine z_gr C0 hw 0 1 1 rfl fl_X12_20 (dk2 dF_180 DX12_check (i := 38) rfl rfl rfl) ?_
  refine lv_iload hx hb (dk1 dF_21 DX12_check (i := 39) rfl rfl rfl) (lv_at hl 1 rfl) ?_
  refine z_ialdN (n := 414128) C0 hw 1 414068 rfl (by omega) (by decide) (dkP dF_46 DX12_check (i := 40) rfl rfl) ?_
  refine z_top (y := 0) (by rfl) ?_
  refine lv_imul hx hb (dkP dF_104 DX12_check (i := 41) rfl rfl) ?_
  refine z_top (y := 0) (by decide) ?_
  refine lv_aload_n hx hb (dkP dF_42 DX12_check (i := 42) rfl rfl) rfl (lv_at hl 4 rfl) ?_
  refine z_gr C0 hw 0 1 1 rfl fl_X12_20 (dk2 dF_180 DX12_check (i := 43) rfl rfl rfl) ?_
  refine lv_iconst (v := 4) hx hb (dkP dF_7 DX12_check (i := 44) rfl rfl) (by decide) ?_
  refine z_ialdN (n := 414128) C0 hw 1 4 rfl (by omega) (by decide) (dkP dF_46 DX12_check (i := 45) rfl rfl) ?_
  refine z_top (y := 0) (by rfl) ?_
  refine lv_iadd hx hb (dkP dF_96 DX12_check (i := 46) rfl rfl) ?_
  refine z_top (y := 0) (by decide) ?_
  refine lv_icmp_ne (tgt := 79) hx hb (dkS dF_160 DX12_check (i := 47) rfl rfl rfl) (by decide) (fun h => absurd h (by decide)) (fun _ => ?_)
  refine lv_iconst (v := 1) hx hb (dkP dF_4 DX12_check (i := 48) rfl rfl) (by decide) ?_
  refine lv_goto (tgt := 80) hx hb (dkS dF_167 DX12_check (i := 49) rfl rfl rfl) (by decide) ?_
  refine lv_istore_n (lv' := [(2, .int 1), (1, .int 0), (4, .int 414068), (3, .int 8), (0, .ref (ad 0))]) hx hb (dkP dF_61 DX12_check (i := 51) rfl rfl) rfl hl (by decide) rfl (fun ls hl => ?_)
  refine lv_iinc (v := 9) (lv' := [(3, .int 9), (2, .int 1), (1, .int 0), (4, .int 414068), (0, .ref (ad 0))]) hx hb (dkI DX12_check (i := 52) rfl rfl rfl rfl) hl (k := 3) rfl (by decide) (by decide) rfl (fun ls hl => ?_)
  refine lv_goto (tgt := 6) hx hb (dkS dF_167 DX12_check (i := 53) rfl rfl rfl) (by decide) ?_
  refine lv_iload_n hx hb (dkP dF_29 DX12_check (i := 6) rfl rfl) rfl (lv_at hl 0 rfl) ?_
  refine lv_bipush (v := 20) hx hb (dks dF_16 DX12_check (i := 7) rfl rfl rfl) (by decide) ?_
  refine lv_icmp_ge (tgt := 87) hx hb (dkS dF_162 DX12_check (i := 8) rfl rfl rfl) (by decide) (fun h => absurd h (by decide)) (fun _ => ?_)
  refine lv_iload_n hx hb (dkP dF_29 DX12_check (i := 9) rfl rfl) rfl (lv_at hl 0 rfl) ?_
  refine zn_I hw (zr_S (As := [.int 9]) (rest := []) C0 (c_X12_rowAt l G kc 9  _) cs_X12_rowAt lk_X12_489 (zp_P C0 a00 s00) rfl hl.1 rfl ⟨by decide, by decide⟩ (Nat.le_of_ble_eq_true rfl) (dk2 dF_184 DX12_check (i := 10) rfl rfl rfl) ⟨Nat.le_refl _, Nat.le_refl _⟩) (fun r10 s10 H locs hp hw => ?_)
  subst hp
  refine z_top (y := 414073) (by rfl) ?_
  refine lv_istore (lv' := [(4, .int 414073), (3, .int 9), (2, .int 1), (1, .int 0), (0, .ref (ad 0))]) hx hb (dk1 dF_54 DX12_check (i := 11) rfl rfl rfl) hl (by decide) rfl (fun ls hl => ?_)
  refine lv_iload_n hx hb (dkP dF_27 DX12_check (i := 12) rfl rfl) rfl (lv_at hl 3 rfl) ?_
  refine lv_aload_n hx hb (dkP dF_42 DX12_check (i := 13) rfl rfl) rfl (lv_at hl 4 rfl) ?_
  refine z_gr C0 hw 0 1 1 rfl fl_X12_20 (dk2 dF_180 DX12_check (i := 14) rfl rfl rfl) ?_
  refine lv_iload hx hb (dk1 dF_21 DX12_check (i := 15) rfl rfl rfl) (lv_at hl 0 rfl) ?_
  refine lv_iconst (v := 3) hx hb (dkP dF_6 DX12_check (i := 16) rfl rfl) (by decide) ?_
  refine lv_iadd hx hb (dkP dF_96 DX12_check (i := 17) rfl rfl) ?_
  refine z_top (y := 414076) (by decide) ?_
  refine z_ialdN (n := 414128) C0 hw 1 414076 rfl (by omega) (by decide) (dkP dF_46 DX12_check (i := 18) rfl rfl) ?_
  refine z_top (y := 0) (by rfl) ?_
  refine lv_if_le (tgt := 35) hx hb (dkS dF_158 DX12_check (i := 19) rfl rfl rfl) (by decide) (fun _ => ?_) (fun h => absurd h (by decide))
  refine lv_iconst (v := 0) hx hb (dkP dF_3 DX12_check (i := 22) rfl rfl) (by decide) ?_
  refine lv_iadd hx hb (dkP dF_96 DX12_check (i := 23) rfl rfl) ?_
  refine z_top (y := 0) (by decide) ?_
  refine lv_istore_n (lv' := [(1, .int 0), (4, .int 414073), (3, .int 9), (2, .int 1), (0, .ref (ad 0))]) hx hb (dkP dF_60 DX12_check (i := 24) rfl rfl) rfl hl (by decide) rfl (fun ls hl => ?_)
  refine lv_iload_n hx hb (dkP dF_28 DX12_check (i := 25) rfl rfl) rfl (lv_at hl 3 rfl) ?_
  refine lv_if_eq (tgt := 79) hx hb (dkS dF_153 DX12_check (i := 26) rfl rfl rfl) (by decide) (fun h => absurd h (by decide)) (fun _ => ?_)
  refine lv_aload_n hx hb (dkP dF_42 DX12_check (i := 27) rfl rfl) rfl (lv_at hl 4 rfl) ?_
  refine z_gr C0 hw 0 1 1 rfl fl_X12_20 (dk2 dF_180 DX12_check (i := 28) rfl rfl rfl) ?_
  refine lv_iload hx hb (dk1 dF_21 DX12_check (i := 29) rfl rfl rfl) (lv_at hl 1 rfl) ?_
  refine lv_iconst (v := 1) hx hb (dkP dF_4 DX12_check (i := 30) rfl rfl) (by decide) ?_
  refine lv_iadd hx hb (dkP dF_96 DX12_check (i := 31) rfl rfl) ?_
  refine z_top (y := 414074) (by decide) ?_
  refine z_ialdN (n := 414128) C0 hw 1 414074 rfl (by omega) (by decide) (dkP dF_46 DX12_check (i := 32) rfl rfl) ?_
  refine z_top (y := 0) (by rfl) ?_
  refine lv_aload_n hx hb (dkP dF_42 DX12_check (i := 33) rfl rfl) rfl (lv_at hl 4 rfl) ?_
  refine z_gr C0 hw 0 1 1 rfl fl_X12_20 (dk2 dF_180 DX12_check (i := 34) rfl rfl rfl) ?_
  refine lv_iconst (v := 3) hx hb (dkP dF_6 DX12_check (i := 35) rfl rfl) (by decide) ?_
  refine z_ialdN (n := 414128) C0 hw 1 3 rfl (by omega) (by decide) (dkP dF_46 DX12_check (i := 36) rfl rfl) ?_
  refine z_top (y := 1) (by rfl) ?_
  refine lv_aload_n hx hb (dkP dF_42 DX12_check (i := 37) rfl rfl) rfl (lv_at hl 4 rfl) ?_
  refine z_gr C0 hw 0 1 1 rfl fl_X12_20 (dk2 dF_180 DX12_check (i := 38) rfl rfl rfl) ?_
  refine lv_iload hx hb (dk1 dF_21 DX12_check (i := 39) rfl rfl rfl) (lv_at hl 1 rfl) ?_
  refine z_ialdN (n := 414128) C0 hw 1 414073 rfl (by omega) (by decide) (dkP dF_46 DX12_check (i := 40) rfl rfl) ?_
  refine z_top (y := 0) (by rfl) ?_
  refine lv_imul hx hb (dkP dF_104 DX12_check (i := 41) rfl rfl) ?_
  refine z_top (y := 0) (by decide) ?_
  refine lv_aload_n hx hb (dkP dF_42 DX12_check (i := 42) rfl rfl) rfl (lv_at hl 4 rfl) ?_
  refine z_gr C0 hw 0 1 1 rfl fl_X12_20 (dk2 dF_180 DX12_check (i := 43) rfl rfl rfl) ?_
  refine lv_iconst (v := 4) hx hb (dkP dF_7 DX12_check (i := 44) rfl rfl) (by decide) ?_
  refine z_ialdN (n := 414128) C0 hw 1 4 rfl (by omega) (by decide) (dkP dF_46 DX12_check (i := 45) rfl rfl) ?_
  refine z_top (y := 0) (by rfl) ?_
  refine lv_iadd hx hb (dkP dF_96 DX12_check (i := 46) rfl rfl) ?_
  refine z_top (y := 0) (by decide) ?_
  refine lv_icmp_ne (tgt := 79) hx hb (dkS dF_160 DX12_check (i := 47) rfl rfl rfl) (by decide) (fun h => absurd h (by decide)) (fun _ => ?_)
  refine lv_iconst (v := 1) hx hb (dkP dF_4 DX12_check (i := 48) rfl rfl) (by decide) ?_
  refine lv_goto (tgt := 80) hx hb (dkS dF_167 DX12_check (i := 49) rfl rfl rfl) (by decide) ?_
  refine lv_istore_n (lv' := [(2, .int 1), (1, .int 0), (4, .int 414073), (3, .int 9), (0, .ref (ad 0))]) hx hb (dkP dF_61 DX12_check (i := 51) rfl rfl) rfl hl (by decide) rfl (fun ls hl => ?_)
  refine lv_iinc (v := 10) (lv' := [(3, .int 10), (2, .int 1), (1, .int 0), (4, .int 414073), (0, .ref (ad 0))]) hx hb (dkI DX12_check (i := 52) rfl rfl rfl rfl) hl (k := 3) rfl (by decide) (by decide) rfl (fun ls hl => ?_)
  refine lv_goto (tgt := 6) hx hb (dkS dF_167 DX12_check (i := 53) rfl rfl rfl) (by decide) ?_
  refine lv_iload_n hx hb (dkP dF_29 DX12_check (i := 6) rfl rfl) rfl (lv_at hl 0 rfl) ?_
  refine lv_bipush (v := 20) hx hb (dks dF_16 DX12_check (i := 7) rfl rfl rfl) (by decide) ?_
  refine lv_icmp_ge (tgt := 87) hx hb (dkS dF_162 DX12_check (i := 8) rfl rfl rfl) (by decide) (fun h => absurd h (by decide)) (fun _ => ?_)
  refine lv_iload_n hx hb (dkP dF_29 DX12_check (i := 9) rfl rfl) rfl (lv_at hl 0 rfl) ?_
  refine zn_I hw (zr_S (As := [.int 10]) (rest := []) C0 (c_X12_rowAt l G kc 10  _) cs_X12_rowAt lk_X12_489 (zp_P C0 a00 s00) rfl hl.1 rfl ⟨by decide, by decide⟩ (Nat.le_of_ble_eq_true rfl) (dk2 dF_184 DX12_check (i := 10) rfl rfl rfl) ⟨Nat.le_refl _, Nat.le_refl _⟩) (fun r11 s11 H locs hp hw => ?_)
  subst hp
  refine z_top (y := 414078) (by rfl) ?_
  refine lv_istore (lv' := [(4, .int 414078), (3, .int 10), (2, .int 1), (1, .int 0), (0, .ref (ad 0))]) hx hb (dk1 dF_54 DX12_check (i := 11) rfl rfl rfl) hl (by decide) rfl (fun ls hl => ?_)
  refine lv_iload_n hx hb (dkP dF_27 DX12_check (i := 12) rfl rfl) rfl (lv_at hl 3 rfl) ?_
  refine lv_aload_n hx hb (dkP dF_42 DX12_check (i := 13) rfl rfl) rfl (lv_at hl 4 rfl) ?_
  refine z_gr C0 hw 0 1 1 rfl fl_X12_20 (dk2 dF_180 DX12_check (i := 14) rfl rfl rfl) ?_
  refine lv_iload hx hb (dk1 dF_21 DX12_check (i := 15) rfl rfl rfl) (lv_at hl 0 rfl) ?_
  refine lv_iconst (v := 3) hx hb (dkP dF_6 DX12_check (i := 16) rfl rfl) (by decide) ?_
  refine lv_iadd hx hb (dkP dF_96 DX12_check (i := 17) rfl rfl) ?_
  refine z_top (y := 414081) (by decide) ?_
  refine z_ialdN (n := 414128) C0 hw 1 414081 rfl (by omega) (by decide) (dkP dF_46 DX12_check (i := 18) rfl rfl) ?_
  refine z_top (y := 0) (by rfl) ?_
  refine lv_if_le (tgt := 35) hx hb (dkS dF_158 DX12_check (i := 19) rfl rfl rfl) (by decide) (fun _ => ?_) (fun h => absurd h (by decide))
  refine lv_iconst (v := 0) hx hb (dkP dF_3 DX12_check (i := 22) rfl rfl) (by decide) ?_
  refine lv_iadd hx hb (dkP dF_96 DX12_check (i := 23) rfl rfl) ?_
  refine z_top (y := 0) (by decide) ?_
  refine lv_istore_n (lv' := [(1, .int 0), (4, .int 414078), (3, .int 10), (2, .int 1), (0, .ref (ad 0))]) hx hb (dkP dF_60 DX12_check (i := 24) rfl rfl) rfl hl (by decide) rfl (fun ls hl => ?_)
  refine lv_iload_n hx hb (dkP dF_28 DX12_check (i := 25) rfl rfl) rfl (lv_at hl 3 rfl) ?_
  refine lv_if_eq (tgt := 79) hx hb (dkS dF_153 DX12_check (i := 26) rfl rfl rfl) (by decide) (fun h => absurd h (by decide)) (fun _ => ?_)
  refine lv_aload_n hx hb (dkP dF_42 DX12_check (i := 27) rfl rfl) rfl (lv_at hl 4 rfl) ?_
  refine z_gr C0 hw 0 1 1 rfl fl_X12_20 (dk2 dF_180 DX12_check (i := 28) rfl rfl rfl) ?_
  refine lv_iload hx hb (dk1 dF_21 DX12_check (i := 29) rfl rfl rfl) (lv_at hl 1 rfl) ?_
  refine lv_iconst (v := 1) hx hb (dkP dF_4 DX12_check (i := 30) rfl rfl) (by decide) ?_
  refine lv_iadd hx hb (dkP dF_96 DX12_check (i := 31) rfl rfl) ?_
  refine z_top (y := 414079) (by decide) ?_
  refine z_ialdN (n := 414128) C0 hw 1 414079 rfl (by omega) (by decide) (dkP dF_46 DX12_check (i := 32) rfl rfl) ?_
  refine z_top (y := 0) (by rfl) ?_
  refine lv_aload_n hx hb (dkP dF_42 DX12_check (i := 33) rfl rfl) rfl (lv_at hl 4 rfl) ?_
  refine z_gr C0 hw 0 1 1 rfl fl_X12_20 (dk2 dF_180 DX12_check (i := 34) rfl rfl rfl) ?_
  refine lv_iconst (v := 3) hx hb (dkP dF_6 DX12_check (i := 35) rfl rfl) (by decide) ?_
  refine z_ialdN (n := 414128) C0 hw 1 3 rfl (by omega) (by decide) (dkP dF_46 DX12_check (i := 36) rfl rfl) ?_
  refine z_top (y := 1) (by rfl) ?_
  refine lv_aload_n hx hb (dkP dF_42 DX12_check (i := 37) rfl rfl) rfl (lv_at hl 4 rfl) ?_
  refine z_gr C0 hw 0 1 1 rfl fl_X12_20 (dk2 dF_180 DX12_check (i := 38) rfl rfl rfl) ?_
  refine lv_iload hx hb (dk1 dF_21 DX12_check (i := 39) rfl rfl rfl) (lv_at hl 1 rfl) ?_
  refine z_ialdN (n := 414128) C0 hw 1 414078 rfl (by omega) (by decide) (dkP dF_46 DX12_check (i := 40) rfl rfl) ?_
  refine z_top (y := 0) (by rfl) ?_
  refine lv_imul hx hb (dkP dF_104 DX12_check (i := 41) rfl rfl) ?_
  refine z_top (y := 0) (by decide) ?_
  refine lv_aload_n hx hb (dkP dF_42 DX12_check (i := 42) rfl rfl) rfl (lv_at hl 4 rfl) ?_
  refine z_gr C0 hw 0 1 1 rfl fl_X12_20 (dk2 dF_180 DX12_check (i := 43) rfl rfl rfl) ?_
  refine lv_iconst (v := 4) hx hb (dkP dF_7 DX12_check (i := 44) rfl rfl) (by decide) ?_
  refine z_ialdN (n := 414128) C0 hw 1 4 rfl (by omega) (by decide) (dkP dF_46 DX12_check (i := 45) rfl rfl) ?_
  refine z_top (y := 0) (by rfl) ?_
  refine lv_iadd hx hb (dkP dF_96 DX12_check (i := 46) rfl rfl) ?_
  refine z_top (y := 0) (by decide) ?_
  refine lv_icmp_ne (tgt := 79) hx hb (dkS dF_160 DX12_check (i := 47) rfl rfl rfl) (by decide) (fun h => absurd h (by decide)) (fun _ => ?_)
  refine lv_iconst (v := 1) hx hb (dkP dF_4 DX12_check (i := 48) rfl rfl) (by decide) ?_
  refine lv_goto (tgt := 80) hx hb (dkS dF_167 DX12_check (i := 49) rfl rfl rfl) (by decide) ?_
  refine lv_istore_n (lv' := [(2, .int 1), (1, .int 0), (4, .int 414078), (3, .int 10), (0, .ref (ad 0))]) hx hb (dkP dF_61 DX12_check (i := 51) rfl rfl) rfl hl (by decide) rfl (fun ls hl => ?_)
  refine lv_iinc (v := 11) (lv' := [(3, .int 11), (2, .int 1), (1, .int 0), (4, .int 414078), (0, .ref (ad 0))]) hx hb (dkI DX12_check (i := 52) rfl rfl rfl rfl) hl (k := 3) rfl (by decide) (by decide) rfl (fun ls hl => ?_)
  refine lv_goto (tgt := 6) hx hb (dkS dF_167 DX12_check (i := 53) rfl rfl rfl) (by decide) ?_
  refine lv_iload_n hx hb (dkP dF_29 DX12_check (i := 6) rfl rfl) rfl (lv_at hl 0 rfl) ?_
  refine lv_bipush (v := 20) hx hb (dks dF_16 DX12_check (i := 7) rfl rfl rfl) (by decide) ?_
  refine lv_icmp_ge (tgt := 87) hx hb (dkS dF_162 DX12_check (i := 8) rfl rfl rfl) (by decide) (fun h => absurd h (by decide)) (fun _ => ?_)
  refine lv_iload_n hx hb (dkP dF_29 DX12_check (i := 9) rfl rfl) rfl (lv_at hl 0 rfl) ?_
  refine zn_I hw (zr_S (As := [.int 11]) (rest := []) C0 (c_X12_rowAt l G kc 11  _) cs_X12_rowAt lk_X12_489 (zp_P C0 a00 s00) rfl hl.1 rfl ⟨by decide, by decide⟩ (Nat.le_of_ble_eq_true rfl) (dk2 dF_184 DX12_check (i := 10) rfl rfl rfl) ⟨Nat.le_refl _, Nat.le_refl _⟩) (fun r12 s12 H locs hp hw => ?_)
  subst hp
  refine z_top (y := 414083) (by rfl) ?_
  refine lv_istore (lv' := [(4, .int 414083), (3, .int 11), (2, .int 1), (1, .int 0), (0, .ref (ad 0))]) hx hb (dk1 dF_54 DX12_check (i := 11) rfl rfl rfl) hl (by decide) rfl (fun ls hl => ?_)
  refine lv_iload_n hx hb (dkP dF_27 DX12_check (i := 12) rfl rfl) rfl (lv_at hl 3 rfl) ?_
  refine lv_aload_n hx hb (dkP dF_42 DX12_check (i := 13) rfl rfl) rfl (lv_at hl 4 rfl) ?_
  refine z_gr C0 hw 0 1 1 rfl fl_X12_20 (dk2 dF_180 DX12_check (i := 14) rfl rfl rfl) ?_
  refine lv_iload hx hb (dk1 dF_21 DX12_check (i := 15) rfl rfl rfl) (lv_at hl 0 rfl) ?_
  refine lv_iconst (v := 3) hx hb (dkP dF_6 DX12_check (i := 16) rfl rfl) (by decide) ?_
  refine lv_iadd hx hb (dkP dF_96 DX12_check (i := 17) rfl rfl) ?_
  refine z_top (y := 414086) (by decide) ?_
  refine z_ialdN (n := 414128) C0 hw 1 414086 rfl (by omega) (by decide) (dkP dF_46 DX12_check (i := 18) rfl rfl) ?_
  refine z_top (y := 0) (by rfl) ?_
  refine lv_if_le (tgt := 35) hx hb (dkS dF_158 DX12_check (i := 19) rfl rfl rfl) (by decide) (fun _ => ?_) (fun h => absurd h (by decide))
  refine lv_iconst (v := 0) hx hb (dkP dF_3 DX12_check (i := 22) rfl rfl) (by decide) ?_
  refine lv_iadd hx hb (dkP dF_96 DX12_check (i := 23) rfl rfl) ?_
  refine z_top (y := 0) (by decide) ?_
  refine lv_istore_n (lv' := [(1, .int 0), (4, .int 414083), (3, .int 11), (2, .int 1), (0, .ref (ad 0))]) hx hb (dkP dF_60 DX12_check (i := 24) rfl rfl) rfl hl (by decide) rfl (fun ls hl => ?_)
  refine lv_iload_n hx hb (dkP dF_28 DX12_check (i := 25) rfl rfl) rfl (lv_at hl 3 rfl) ?_
  refine lv_if_eq (tgt := 79) hx hb (dkS dF_153 DX12_check (i := 26) rfl rfl rfl) (by decide) (fun h => absurd h (by decide)) (fun _ => ?_)
  refine lv_aload_n hx hb (dkP dF_42 DX12_check (i := 27) rfl rfl) rfl (lv_at hl 4 rfl) ?_
  refine z_gr C0 hw 0 1 1 rfl fl_X12_20 (dk2 dF_180 DX12_check (i := 28) rfl rfl rfl) ?_
  refine lv_iload hx hb (dk1 dF_21 DX12_check (i := 29) rfl rfl rfl) (lv_at hl 1 rfl) ?_
  refine lv_iconst (v := 1) hx hb (dkP dF_4 DX12_check (i := 30) rfl rfl) (by decide) ?_
  refine lv_iadd hx hb (dkP dF_96 DX12_check (i := 31) rfl rfl) ?_
  refine z_top (y := 414084) (by decide) ?_
  refine z_ialdN (n := 414128) C0 hw 1 414084 rfl (by omega) (by decide) (dkP dF_46 DX12_check (i := 32) rfl rfl) ?_
  refine z_top (y := 0) (by rfl) ?_
  refine lv_aload_n hx hb (dkP dF_42 DX12_check (i := 33) rfl rfl) rfl (lv_at hl 4 rfl) ?_
  refine z_gr C0 hw 0 1 1 rfl fl_X12_20 (dk2 dF_180 DX12_check (i := 34) rfl rfl rfl) ?_
  refine lv_iconst (v := 3) hx hb (dkP dF_6 DX12_check (i := 35) rfl rfl) (by decide) ?_
  refine z_ialdN (n := 414128) C0 hw 1 3 rfl (by omega) (by decide) (dkP dF_46 DX12_check (i := 36) rfl rfl) ?_
  refine z_top (y := 1) (by rfl) ?_
  refine lv_aload_n hx hb (dkP dF_42 DX12_check (i := 37) rfl rfl) rfl (lv_at hl 4 rfl) ?_
  refine z_gr C0 hw 0 1 1 rfl fl_X12_20 (dk2 dF_180 DX12_check (i := 38) rfl rfl rfl) ?_
  refine lv_iload hx hb (dk1 dF_21 DX12_check (i := 39) rfl rfl rfl) (lv_at hl 1 rfl) ?_
  refine z_ialdN (n := 414128) C0 hw 1 414083 rfl (by omega) (by decide) (dkP dF_46 DX12_check (i := 40) rfl rfl) ?_
  refine z_top (y := 0) (by rfl) ?_
  refine lv_imul hx hb (dkP dF_104 DX12_check (i := 41) rfl rfl) ?_
  refine z_top (y := 0) (by decide) ?_
  refine lv_aload_n hx hb (dkP dF_42 DX12_check (i := 42) rfl rfl) rfl (lv_at hl 4 rfl) ?_
  refine z_gr C0 hw 0 1 1 rfl fl_X12_20 (dk2 dF_180 DX12_check (i := 43) rfl rfl rfl) ?_
  refine lv_iconst (v := 4) hx hb (dkP dF_7 DX12_check (i := 44) rfl rfl) (by decide) ?_
  refine z_ialdN (n := 414128) C0 hw 1 4 rfl (by omega) (by decide) (dkP dF_46 DX12_check (i := 45) rfl rfl) ?_
  refine z_top (y := 0) (by rfl) ?_
  refine lv_iadd hx hb (dkP dF_96 DX12_check (i := 46) rfl rfl) ?_
  refine z_top (y := 0) (by decide) ?_
  refine lv_icmp_ne (tgt := 79) hx hb (dkS dF_160 DX12_check (i := 47) rfl rfl rfl) (by decide) (fun h => absurd h (by decide)) (fun _ => ?_)
  refine lv_iconst (v := 1) hx hb (dkP dF_4 DX12_check (i := 48) rfl rfl) (by decide) ?_
  refine lv_goto (tgt := 80) hx hb (dkS dF_167 DX12_check (i := 49) rfl rfl rfl) (by decide) ?_
  refine lv_istore_n (lv' := [(2, .int 1), (1, .int 0), (4, .int 414083), (3, .int 11), (0, .ref (ad 0))]) hx hb (dkP dF_61 DX12_check (i := 51) rfl rfl) rfl hl (by decide) rfl (fun ls hl => ?_)
  refine lv_iinc (v := 12) (lv' := [(3, .int 12), (2, .int 1), (1, .int 0), (4, .int 414083), (0, .ref (ad 0))]) hx hb (dkI DX12_check (i := 52) rfl rfl rfl rfl) hl (k := 3) rfl (by decide) (by decide) rfl (fun ls hl => ?_)
  refine lv_goto (tgt := 6) hx hb (dkS dF_167 DX12_check (i := 53) rfl rfl rfl) (by decide) ?_
  refine lv_iload_n hx hb (dkP dF_29 DX12_check (i := 6) rfl rfl) rfl (lv_at hl 0 rfl) ?_
  refine lv_bipush (v := 20) hx hb (dks dF_16 DX12_check (i := 7) rfl rfl rfl) (by decide) ?_
  refine lv_icmp_ge (tgt := 87) hx hb (dkS dF_162 DX12_check (i := 8) rfl rfl rfl) (by decide) (fun h => absurd h (by decide)) (fun _ => ?_)
  refine lv_iload_n hx hb (dkP dF_29 DX12_check (i := 9) rfl rfl) rfl (lv_at hl 0 rfl) ?_
  refine zn_I hw (zr_S (As := [.int 12]) (rest := []) C0 (c_X12_rowAt l G kc 12  _) cs_X12_rowAt lk_X12_489 (zp_P C0 a00 s00) rfl hl.1 rfl ⟨by decide, by decide⟩ (Nat.le_of_ble_eq_true rfl) (dk2 dF_184 DX12_check (i := 10) rfl rfl rfl) ⟨Nat.le_refl _, Nat.le_refl _⟩) (fun r13 s13 H locs hp hw => ?_)
  subst hp
  refine z_top (y := 414088) (by rfl) ?_
  refine lv_istore (lv' := [(4, .int 414088), (3, .int 12), (2, .int 1), (1, .int 0), (0, .ref (ad 0))]) hx hb (dk1 dF_54 DX12_check (i := 11) rfl rfl rfl) hl (by decide) rfl (fun ls hl => ?_)
  refine lv_iload_n hx hb (dkP dF_27 DX12_check (i := 12) rfl rfl) rfl (lv_at hl 3 rfl) ?_
  refine lv_aload_n hx hb (dkP dF_42 DX12_check (i := 13) rfl rfl) rfl (lv_at hl 4 rfl) ?_
  refine z_gr C0 hw 0 1 1 rfl fl_X12_20 (dk2 dF_180 DX12_check (i := 14) rfl rfl rfl) ?_
  refine lv_iload hx hb (dk1 dF_21 DX12_check (i := 15) rfl rfl rfl) (lv_at hl 0 rfl) ?_
  refine lv_iconst (v := 3) hx hb (dkP dF_6 DX12_check (i := 16) rfl rfl) (by decide) ?_
  refine lv_iadd hx hb (dkP dF_96 DX12_check (i := 17) rfl rfl) ?_
  refine z_top (y := 414091) (by decide) ?_
  refine z_ialdN (n := 414128) C0 hw 1 414091 rfl (by omega) (by decide) (dkP dF_46 DX12_check (i := 18) rfl rfl) ?_
  refine z_top (y := 0) (by rfl) ?_
  refine lv_if_le (tgt := 35) hx hb (dkS dF_158 DX12_check (i := 19) rfl rfl rfl) (by decide) (fun _ => ?_) (fun h => absurd h (by decide))
  refine lv_iconst (v := 0) hx hb (dkP dF_3 DX12_check (i := 22) rfl rfl) (by decide) ?_
  refine lv_iadd hx hb (dkP dF_96 DX12_check (i := 23) rfl rfl) ?_
  refine z_top (y := 0) (by decide) ?_
  refine lv_istore_n (lv' := [(1, .int 0), (4, .int 414088), (3, .int 12), (2, .int 1), (0, .ref (ad 0))]) hx hb (dkP dF_60 DX12_check (i := 24) rfl rfl) rfl hl (by decide) rfl (fun ls hl => ?_)
  refine lv_iload_n hx hb (dkP dF_28 DX12_check (i := 25) rfl rfl) rfl (lv_at hl 3 rfl) ?_
  refine lv_if_eq (tgt := 79) hx hb (dkS dF_153 DX12_check (i := 26) rfl rfl rfl) (by decide) (fun h => absurd h (by decide)) (fun _ => ?_)
  refine lv_aload_n hx hb (dkP dF_42 DX12_check (i := 27) rfl rfl) rfl (lv_at hl 4 rfl) ?_
  refine z_gr C0 hw 0 1 1 rfl fl_X12_20 (dk2 dF_180 DX12_check (i := 28) rfl rfl rfl) ?_
  refine lv_iload hx hb (dk1 dF_21 DX12_check (i := 29) rfl rfl rfl) (lv_at hl 1 rfl) ?_
  refine lv_iconst (v := 1) hx hb (dkP dF_4 DX12_check (i := 30) rfl rfl) (by decide) ?_
  refine lv_iadd hx hb (dkP dF_96 DX12_check (i := 31) rfl rfl) ?_
  refine z_top (y := 414089) (by decide) ?_
  refine z_ialdN (n := 414128) C0 hw 1 414089 rfl (by omega) (by decide) (dkP dF_46 DX12_check (i := 32) rfl rfl) ?_
  refine z_top (y := 0) (by rfl) ?_
  refine lv_aload_n hx hb (dkP dF_42 DX12_check (i := 33) rfl rfl) rfl (lv_at hl 4 rfl) ?_
  refine z_gr C0 hw 0 1 1 rfl fl_X12_20 (dk2 dF_180 DX12_check (i := 34) rfl rfl rfl) ?_
  refine lv_iconst (v := 3) hx hb (dkP dF_6 DX12_check (i := 35) rfl rfl) (by decide) ?_
  refine z_ialdN (n := 414128) C0 hw 1 3 rfl (by omega) (by decide) (dkP dF_46 DX12_check (i := 36) rfl rfl) ?_
  refine z_top (y := 1) (by rfl) ?_
  refine lv_aload_n hx hb (dkP dF_42 DX12_check (i := 37) rfl rfl) rfl (lv_at hl 4 rfl) ?_
  refine z_gr C0 hw 0 1 1 rfl fl_X12_20 (dk2 dF_180 DX12_check (i := 38) rfl rfl rfl) ?_
  refine lv_iload hx hb (dk1 dF_21 DX12_check (i := 39) rfl rfl rfl) (lv_at hl 1 rfl) ?_
  refine z_ialdN (n := 414128) C0 hw 1 414088 rfl (by omega) (by decide) (dkP dF_46 DX12_check (i := 40) rfl rfl) ?_
  refine z_top (y := 0) (by rfl) ?_
  refine lv_imul hx hb (dkP dF_104 DX12_check (i := 41) rfl rfl) ?_
  refine z_top (y := 0) (by decide) ?_
  refine lv_aload_n hx hb (dkP dF_42 DX12_check (i := 42) rfl rfl) rfl (lv_at hl 4 rfl) ?_
  refine z_gr C0 hw 0 1 1 rfl fl_X12_20 (dk2 dF_180 DX12_check (i := 43) rfl rfl rfl) ?_
  refine lv_iconst (v := 4) hx hb (dkP dF_7 DX12_check (i := 44) rfl rfl) (by decide) ?_
  refine z_ialdN (n := 414128) C0 hw 1 4 rfl (by omega) (by decide) (dkP dF_46 DX12_check (i := 45) rfl rfl) ?_
  refine z_top (y := 0) (by rfl) ?_
  refine lv_iadd hx hb (dkP dF_96 DX12_check (i := 46) rfl rfl) ?_
  refine z_top (y := 0) (by decide) ?_
  refine lv_icmp_ne (tgt := 79) hx hb (dkS dF_160 DX12_check (i := 47) rfl rfl rfl) (by decide) (fun h => absurd h (by decide)) (fun _ => ?_)
  refine lv_iconst (v := 1) hx hb (dkP dF_4 DX12_check (i := 48) rfl rfl) (by decide) ?_
  refine lv_goto (tgt := 80) hx hb (dkS dF_167 DX12_check (i := 49) rfl rfl rfl) (by decide) ?_
  refine lv_istore_n (lv' := [(2, .int 1), (1, .int 0), (4, .int 414088), (3, .int 12), (0, .ref (ad 0))]) hx hb (dkP dF_61 DX12_check (i := 51) rfl rfl) rfl hl (by decide) rfl (fun ls hl => ?_)
  refine lv_iinc (v := 13) (lv' := [(3, .int 13), (2, .int 1), (1, .int 0), (4, .int 414088), (0, .ref (ad 0))]) hx hb (dkI DX12_check (i := 52) rfl rfl rfl rfl) hl (k := 3) rfl (by decide) (by decide) rfl (fun ls hl => ?_)
  refine lv_goto (tgt := 6) hx hb (dkS dF_167 DX12_check (i := 53) rfl rfl rfl) (by decide) ?_
  refine lv_iload_n hx hb (dkP dF_29 DX12_check (i := 6) rfl rfl) rfl (lv_at hl 0 rfl) ?_
  refine lv_bipush (v := 20) hx hb (dks dF_16 DX12_check (i := 7) rfl rfl rfl) (by decide) ?_
  refine lv_icmp_ge (tgt := 87) hx hb (dkS dF_162 DX12_check (i := 8) rfl rfl rfl) (by decide) (fun h => absurd h (by decide)) (fun _ => ?_)
  refine lv_iload_n hx hb (dkP dF_29 DX12_check (i := 9) rfl rfl) rfl (lv_at hl 0 rfl) ?_
  refine zn_I hw (zr_S (As := [.int 13]) (rest := []) C0 (c_X12_rowAt l G kc 13  _) cs_X12_rowAt lk_X12_489 (zp_P C0 a00 s00) rfl hl.1 rfl ⟨by decide, by decide⟩ (Nat.le_of_ble_eq_true rfl) (dk2 dF_184 DX12_check (i := 10) rfl rfl rfl) ⟨Nat.le_refl _, Nat.le_refl _⟩) (fun r14 s14 H locs hp hw => ?_)
  subst hp
  refine z_top (y := 414093) (by rfl) ?_
  refine lv_istore (lv' := [(4, .int 414093), (3, .int 13), (2, .int 1), (1, .int 0), (0, .ref (ad 0))]) hx hb (dk1 dF_54 DX12_check (i := 11) rfl rfl rfl) hl (by decide) rfl (fun ls hl => ?_)
  refine lv_iload_n hx hb (dkP dF_27 DX12_check (i := 12) rfl rfl) rfl (lv_at hl 3 rfl) ?_
  refine lv_aload_n hx hb (dkP dF_42 DX12_check (i := 13) rfl rfl) rfl (lv_at hl 4 rfl) ?_
  refine z_gr C0 hw 0 1 1 rfl fl_X12_20 (dk2 dF_180 DX12_check (i := 14) rfl rfl rfl) ?_
  refine lv_iload hx hb (dk1 dF_21 DX12_check (i := 15) rfl rfl rfl) (lv_at hl 0 rfl) ?_
  refine lv_iconst (v := 3) hx hb (dkP dF_6 DX12_check (i := 16) rfl rfl) (by decide) ?_
  refine lv_iadd hx hb (dkP dF_96 DX12_check (i := 17) rfl rfl) ?_
  refine z_top (y := 414096) (by decide) ?_
  refine z_ialdN (n := 414128) C0 hw 1 414096 rfl (by omega) (by decide) (dkP dF_46 DX12_check (i := 18) rfl rfl) ?_
  refine z_top (y := 0) (by rfl) ?_
  refine lv_if_le (tgt := 35) hx hb (dkS dF_158 DX12_check (i := 19) rfl rfl rfl) (by decide) (fun _ => ?_) (fun h => absurd h (by decide))
  refine lv_iconst (v := 0) hx hb (dkP dF_3 DX12_check (i := 22) rfl rfl) (by decide) ?_
  refine lv_iadd hx hb (dkP dF_96 DX12_check (i := 23) rfl rfl) ?_
  refine z_top (y := 0) (by decide) ?_
  refine lv_istore_n (lv' := [(1, .int 0), (4, .int 414093), (3, .int 13), (2, .int 1), (0, .ref (ad 0))]) hx hb (dkP dF_60 DX12_check (i := 24) rfl rfl) rfl hl (by decide) rfl (fun ls hl => ?_)
  refine lv_iload_n hx hb (dkP dF_28 DX12_check (i := 25) rfl rfl) rfl (lv_at hl 3 rfl) ?_
  refine lv_if_eq (tgt := 79) hx hb (dkS dF_153 DX12_check (i := 26) rfl rfl rfl) (by decide) (fun h => absurd h (by decide)) (fun _ => ?_)
  refine lv_aload_n hx hb (dkP dF_42 DX12_check (i := 27) rfl rfl) rfl (lv_at hl 4 rfl) ?_
  refine z_gr C0 hw 0 1 1 rfl fl_X12_20 (dk2 dF_180 DX12_check (i := 28) rfl rfl rfl) ?_
  refine lv_iload hx hb (dk1 dF_21 DX12_check (i := 29) rfl rfl rfl) (lv_at hl 1 rfl) ?_
  refine lv_iconst (v := 1) hx hb (dkP dF_4 DX12_check (i := 30) rfl rfl) (by decide) ?_
  refine lv_iadd hx hb (dkP dF_96 DX12_check (i := 31) rfl rfl) ?_
  refine z_top (y := 414094) (by decide) ?_
  refine z_ialdN (n := 414128) C0 hw 1 414094 rfl (by omega) (by decide) (dkP dF_46 DX12_check (i := 32) rfl rfl) ?_
  refine z_top (y := 0) (by rfl) ?_
  refine lv_aload_n hx hb (dkP dF_42 DX12_check (i := 33) rfl rfl) rfl (lv_at hl 4 rfl) ?_
  refine z_gr C0 hw 0 1 1 rfl fl_X12_20 (dk2 dF_180 DX12_check (i := 34) rfl rfl rfl) ?_
  refine lv_iconst (v := 3) hx hb (dkP dF_6 DX12_check (i := 35) rfl rfl) (by decide) ?_
  refine z_ialdN (n := 414128) C0 hw 1 3 rfl (by omega) (by decide) (dkP dF_46 DX12_check (i := 36) rfl rfl) ?_
  refine z_top (y := 1) (by rfl) ?_
  refine lv_aload_n hx hb (dkP dF_42 DX12_check (i := 37) rfl rfl) rfl (lv_at hl 4 rfl) ?_
  refine z_gr C0 hw 0 1 1 rfl fl_X12_20 (dk2 dF_180 DX12_check (i := 38) rfl rfl rfl) ?_
  refine lv_iload hx hb (dk1 dF_21 DX12_check (i := 39) rfl rfl rfl) (lv_at hl 1 rfl) ?_
  refine z_ialdN (n := 414128) C0 hw 1 414093 rfl (by omega) (by decide) (dkP dF_46 DX12_check (i := 40) rfl rfl) ?_
  refine z_top (y := 0) (by rfl) ?_
  refine lv_imul hx hb (dkP dF_104 DX12_check (i := 41) rfl rfl) ?_
  refine z_top (y := 0) (by decide) ?_
  refine lv_aload_n hx hb (dkP dF_42 DX12_check (i := 42) rfl rfl) rfl (lv_at hl 4 rfl) ?_
  refine z_gr C0 hw 0 1 1 rfl fl_X12_20 (dk2 dF_180 DX12_check (i := 43) rfl rfl rfl) ?_
  refine lv_iconst (v := 4) hx hb (dkP dF_7 DX12_check (i := 44) rfl rfl) (by decide) ?_
  refine z_ialdN (n := 414128) C0 hw 1 4 rfl (by omega) (by decide) (dkP dF_46 DX12_check (i := 45) rfl rfl) ?_
  refine z_top (y := 0) (by rfl) ?_
  refine lv_iadd hx hb (dkP dF_96 DX12_check (i := 46) rfl rfl) ?_
  refine z_top (y := 0) (by decide) ?_
  refine lv_icmp_ne (tgt := 79) hx hb (dkS dF_160 DX12_check (i := 47) rfl rfl rfl) (by decide) (fun h => absurd h (by decide)) (fun _ => ?_)
  refine lv_iconst (v := 1) hx hb (dkP dF_4 DX12_check (i := 48) rfl rfl) (by decide) ?_
  refine lv_goto (tgt := 80) hx hb (dkS dF_167 DX12_check (i := 49) rfl rfl rfl) (by decide) ?_
  refine lv_istore_n (lv' := [(2, .int 1), (1, .int 0), (4, .int 414093), (3, .int 13), (0, .ref (ad 0))]) hx hb (dkP dF_61 DX12_check (i := 51) rfl rfl) rfl hl (by decide) rfl (fun ls hl => ?_)
  refine lv_iinc (v := 14) (lv' := [(3, .int 14), (2, .int 1), (1, .int 0), (4, .int 414093), (0, .ref (ad 0))]) hx hb (dkI DX12_check (i := 52) rfl rfl rfl rfl) hl (k := 3) rfl (by decide) (by decide) rfl (fun ls hl => ?_)
  refine lv_goto (tgt := 6) hx hb (dkS dF_167 DX12_check (i := 53) rfl rfl rfl) (by decide) ?_
  refine lv_iload_n hx hb (dkP dF_29 DX12_check (i := 6) rfl rfl) rfl (lv_at hl 0 rfl) ?_
  refine lv_bipush (v := 20) hx hb (dks dF_16 DX12_check (i := 7) rfl rfl rfl) (by decide) ?_
  refine lv_icmp_ge (tgt := 87) hx hb (dkS dF_162 DX12_check (i := 8) rfl rfl rfl) (by decide) (fun h => absurd h (by decide)) (fun _ => ?_)
  refine lv_iload_n hx hb (dkP dF_29 DX12_check (i := 9) rfl rfl) rfl (lv_at hl 0 rfl) ?_
  refine zn_I hw (zr_S (As := [.int 14]) (rest := []) C0 (c_X12_rowAt l G kc 14  _) cs_X12_rowAt lk_X12_489 (zp_P C0 a00 s00) rfl hl.1 rfl ⟨by decide, by decide⟩ (Nat.le_of_ble_eq_true rfl) (dk2 dF_184 DX12_check (i := 10) rfl rfl rfl) ⟨Nat.le_refl _, Nat.le_refl _⟩) (fun r15 s15 H locs hp hw => ?_)
  subst hp
  refine z_top (y := 414098) (by rfl) ?_
  refine lv_istore (lv' := [(4, .int 414098), (3, .int 14), (2, .int 1), (1, .int 0), (0, .ref (ad 0))]) hx hb (dk1 dF_54 DX12_check (i := 11) rfl rfl rfl) hl (by decide) rfl (fun ls hl => ?_)
  refine lv_iload_n hx hb (dkP dF_27 DX12_check (i := 12) rfl rfl) rfl (lv_at hl 3 rfl) ?_
  refine lv_aload_n hx hb (dkP dF_42 DX12_check (i := 13) rfl rfl) rfl (lv_at hl 4 rfl) ?_
  refine z_gr C0 hw 0 1 1 rfl fl_X12_20 (dk2 dF_180 DX12_check (i := 14) rfl rfl rfl) ?_
  refine lv_iload hx hb (dk1 dF_21 DX12_check (i := 15) rfl rfl rfl) (lv_at hl 0 rfl) ?_
  refine lv_iconst (v := 3) hx hb (dkP dF_6 DX12_check (i := 16) rfl rfl) (by decide) ?_
  refine lv_iadd hx hb (dkP dF_96 DX12_check (i := 17) rfl rfl) ?_
  refine z_top (y := 414101) (by decide) ?_
  refine z_ialdN (n := 414128) C0 hw 1 414101 rfl (by omega) (by decide) (dkP dF_46 DX12_check (i := 18) rfl rfl) ?_
  refine z_top (y := 0) (by rfl) ?_
  refine lv_if_le (tgt := 35) hx hb (dkS dF_158 DX12_check (i := 19) rfl rfl rfl) (by decide) (fun _ => ?_) (fun h => absurd h (by decide))
  refine lv_iconst (v := 0) hx hb (dkP dF_3 DX12_check (i := 22) rfl rfl) (by decide) ?_
  refine lv_iadd hx hb (dkP dF_96 DX12_check (i := 23) rfl rfl) ?_
  refine z_top (y := 0) (by decide) ?_
  refine lv_istore_n (lv' := [(1, .int 0), (4, .int 414098), (3, .int 14), (2, .int 1), (0, .ref (ad 0))]) hx hb (dkP dF_60 DX12_check (i := 24) rfl rfl) rfl hl (by decide) rfl (fun ls hl => ?_)
  refine lv_iload_n hx hb (dkP dF_28 DX12_check (i := 25) rfl rfl) rfl (lv_at hl 3 rfl) ?_
  refine lv_if_eq (tgt := 79) hx hb (dkS dF_153 DX12_check (i := 26) rfl rfl rfl) (by decide) (fun h => absurd h (by decide)) (fun _ => ?_)
  refine lv_aload_n hx hb (dkP dF_42 DX12_check (i := 27) rfl rfl) rfl (lv_at hl 4 rfl) ?_
  refine z_gr C0 hw 0 1 1 rfl fl_X12_20 (dk2 dF_180 DX12_check (i := 28) rfl rfl rfl) ?_
  refine lv_iload hx hb (dk1 dF_21 DX12_check (i := 29) rfl rfl rfl) (lv_at hl 1 rfl) ?_
  refine lv_iconst (v := 1) hx hb (dkP dF_4 DX12_check (i := 30) rfl rfl) (by decide) ?_
  refine lv_iadd hx hb (dkP dF_96 DX12_check (i := 31) rfl rfl) ?_
  refine z_top (y := 414099) (by decide) ?_
  refine z_ialdN (n := 414128) C0 hw 1 414099 rfl (by omega) (by decide) (dkP dF_46 DX12_check (i := 32) rfl rfl) ?_
  refine z_top (y := 0) (by rfl) ?_
  refine lv_aload_n hx hb (dkP dF_42 DX12_check (i := 33) rfl rfl) rfl (lv_at hl 4 rfl) ?_
  refine z_gr C0 hw 0 1 1 rfl fl_X12_20 (dk2 dF_180 DX12_check (i := 34) rfl rfl rfl) ?_
  refine lv_iconst (v := 3) hx hb (dkP dF_6 DX12_check (i := 35) rfl rfl) (by decide) ?_
  refine z_ialdN (n := 414128) C0 hw 1 3 rfl (by omega) (by decide) (dkP dF_46 DX12_check (i := 36) rfl rfl) ?_
  refine z_top (y := 1) (by rfl) ?_
  refine lv_aload_n hx hb (dkP dF_42 DX12_check (i := 37) rfl rfl) rfl (lv_at hl 4 rfl) ?_
  refine z_gr C0 hw 0 1 1 rfl fl_X12_20 (dk2 dF_180 DX12_check (i := 38) rfl rfl rfl) ?_
  refine lv_iload hx hb (dk1 dF_21 DX12_check (i := 39) rfl rfl rfl) (lv_at hl 1 rfl) ?_
  refine z_ialdN (n := 414128) C0 hw 1 414098 rfl (by omega) (by decide) (dkP dF_46 DX12_check (i := 40) rfl rfl) ?_
  refine z_top (y := 0) (by rfl) ?_
  refine lv_imul hx hb (dkP dF_104 DX12_check (i := 41) rfl rfl) ?_
  refine z_top (y := 0) (by decide) ?_
  refine lv_aload_n hx hb (dkP dF_42 DX12_check (i := 42) rfl rfl) rfl (lv_at hl 4 rfl) ?_
  refine z_gr C0 hw 0 1 1 rfl fl_X12_20 (dk2 dF_180 DX12_check (i := 43) rfl rfl rfl) ?_
  refine lv_iconst (v := 4) hx hb (dkP dF_7 DX12_check (i := 44) rfl rfl) (by decide) ?_
  refine z_ialdN (n := 414128) C0 hw 1 4 rfl (by omega) (by decide) (dkP dF_46 DX12_check (i := 45) rfl rfl) ?_
  refine z_top (y := 0) (by rfl) ?_
  refine lv_iadd hx hb (dkP dF_96 DX12_check (i := 46) rfl rfl) ?_
  refine z_top (y := 0) (by decide) ?_
  refine lv_icmp_ne (tgt := 79) hx hb (dkS dF_160 DX12_check (i := 47) rfl rfl rfl) (by decide) (fun h => absurd h (by decide)) (fun _ => ?_)
  refine lv_iconst (v := 1) hx hb (dkP dF_4 DX12_check (i := 48) rfl rfl) (by decide) ?_
  refine lv_goto (tgt := 80) hx hb (dkS dF_167 DX12_check (i := 49) rfl rfl rfl) (by decide) ?_
  refine lv_istore_n (lv' := [(2, .int 1), (1, .int 0), (4, .int 414098), (3, .int 14), (0, .ref (ad 0))]) hx hb (dkP dF_61 DX12_check (i := 51) rfl rfl) rfl hl (by decide) rfl (fun ls hl => ?_)
  refine lv_iinc (v := 15) (lv' := [(3, .int 15), (2, .int 1), (1, .int 0), (4, .int 414098), (0, .ref (ad 0))]) hx hb (dkI DX12_check (i := 52) rfl rfl rfl rfl) hl (k := 3) rfl (by decide) (by decide) rfl (fun ls hl => ?_)
  refine lv_goto (tgt := 6) hx hb (dkS dF_167 DX12_check (i := 53) rfl rfl rfl) (by decide) ?_
  refine lv_iload_n hx hb (dkP dF_29 DX12_check (i := 6) rfl rfl) rfl (lv_at hl 0 rfl) ?_
  refine lv_bipush (v := 20) hx hb (dks dF_16 DX12_check (i := 7) rfl rfl rfl) (by decide) ?_
  refine lv_icmp_ge (tgt := 87) hx hb (dkS dF_162 DX12_check (i := 8) rfl rfl rfl) (by decide) (fun h => absurd h (by decide)) (fun _ => ?_)
  refine lv_iload_n hx hb (dkP dF_29 DX12_check (i := 9) rfl rfl) rfl (lv_at hl 0 rfl) ?_
  refine zn_I hw (zr_S (As := [.int 15]) (rest := []) C0 (c_X12_rowAt l G kc 15  _) cs_X12_rowAt lk_X12_489 (zp_P C0 a00 s00) rfl hl.1 rfl ⟨by decide, by decide⟩ (Nat.le_of_ble_eq_true rfl) (dk2 dF_184 DX12_check (i := 10) rfl rfl rfl) ⟨Nat.le_refl _, Nat.le_refl _⟩) (fun r16 s16 H locs hp hw => ?_)
  subst hp
  refine z_top (y := 414103) (by rfl) ?_
  refine lv_istore (lv' := [(4, .int 414103), (3, .int 15), (2, .int 1), (1, .int 0), (0, .ref (ad 0))]) hx hb (dk1 dF_54 DX12_check (i := 11) rfl rfl rfl) hl (by decide) rfl (fun ls hl => ?_)
  refine lv_iload_n hx hb (dkP dF_27 DX12_check (i := 12) rfl rfl) rfl (lv_at hl 3 rfl) ?_
  refine lv_aload_n hx hb (dkP dF_42 DX12_check (i := 13) rfl rfl) rfl (lv_at hl 4 rfl) ?_
  refine z_gr C0 hw 0 1 1 rfl fl_X12_20 (dk2 dF_180 DX12_check (i := 14) rfl rfl rfl) ?_
  refine lv_iload hx hb (dk1 dF_21 DX12_check (i := 15) rfl rfl rfl) (lv_at hl 0 rfl) ?_
  refine lv_iconst (v := 3) hx hb (dkP dF_6 DX12_check (i := 16) rfl rfl) (by decide) ?_
  refine lv_iadd hx hb (dkP dF_96 DX12_check (i := 17) rfl rfl) ?_
  refine z_top (y := 414106) (by decide) ?_
  refine z_ialdN (n := 414128) C0 hw 1 414106 rfl (by omega) (by decide) (dkP dF_46 DX12_check (i := 18) rfl rfl) ?_
  refine z_top (y := 0) (by rfl) ?_
  refine lv_if_le (tgt := 35) hx hb (dkS dF_158 DX12_check (i := 19) rfl rfl rfl) (by decide) (fun _ => ?_) (fun h => absurd h (by decide))
  refine lv_iconst (v := 0) hx hb (dkP dF_3 DX12_check (i := 22) rfl rfl) (by decide) ?_
  refine lv_iadd hx hb (dkP dF_96 DX12_check (i := 23) rfl rfl) ?_
  refine z_top (y := 0) (by decide) ?_
  refine lv_istore_n (lv' := [(1, .int 0), (4, .int 414103), (3, .int 15), (2, .int 1), (0, .ref (ad 0))]) hx hb (dkP dF_60 DX12_check (i := 24) rfl rfl) rfl hl (by decide) rfl (fun ls hl => ?_)
  refine lv_iload_n hx hb (dkP dF_28 DX12_check (i := 25) rfl rfl) rfl (lv_at hl 3 rfl) ?_
  refine lv_if_eq (tgt := 79) hx hb (dkS dF_153 DX12_check (i := 26) rfl rfl rfl) (by decide) (fun h => absurd h (by decide)) (fun _ => ?_)
  refine lv_aload_n hx hb (dkP dF_42 DX12_check (i := 27) rfl rfl) rfl (lv_at hl 4 rfl) ?_
  refine z_gr C0 hw 0 1 1 rfl fl_X12_20 (dk2 dF_180 DX12_check (i := 28) rfl rfl rfl) ?_
  refine lv_iload hx hb (dk1 dF_21 DX12_check (i := 29) rfl rfl rfl) (lv_at hl 1 rfl) ?_
  refine lv_iconst (v := 1) hx hb (dkP dF_4 DX12_check (i := 30) rfl rfl) (by decide) ?_
  refine lv_iadd hx hb (dkP dF_96 DX12_check (i := 31) rfl rfl) ?_
  refine z_top (y := 414104) (by decide) ?_
  refine z_ialdN (n := 414128) C0 hw 1 414104 rfl (by omega) (by decide) (dkP dF_46 DX12_check (i := 32) rfl rfl) ?_
  refine z_top (y := 0) (by rfl) ?_
  refine lv_aload_n hx hb (dkP dF_42 DX12_check (i := 33) rfl rfl) rfl (lv_at hl 4 rfl) ?_
  refine z_gr C0 hw 0 1 1 rfl fl_X12_20 (dk2 dF_180 DX12_check (i := 34) rfl rfl rfl) ?_
  refine lv_iconst (v := 3) hx hb (dkP dF_6 DX12_check (i := 35) rfl rfl) (by decide) ?_
  refine z_ialdN (n := 414128) C0 hw 1 3 rfl (by omega) (by decide) (dkP dF_46 DX12_check (i := 36) rfl rfl) ?_
  refine z_top (y := 1) (by rfl) ?_
  refine lv_aload_n hx hb (dkP dF_42 DX12_check (i := 37) rfl rfl) rfl (lv_at hl 4 rfl) ?_
  refine z_gr C0 hw 0 1 1 rfl fl_X12_20 (dk2 dF_180 DX12_check (i := 38) rfl rfl rfl) ?_
  refine lv_iload hx hb (dk1 dF_21 DX12_check (i := 39) rfl rfl rfl) (lv_at hl 1 rfl) ?_
  refine z_ialdN (n := 414128) C0 hw 1 414103 rfl (by omega) (by decide) (dkP dF_46 DX12_check (i := 40) rfl rfl) ?_
  refine z_top (y := 0) (by rfl) ?_
  refine lv_imul hx hb (dkP dF_104 DX12_check (i := 41) rfl rfl) ?_
  refine z_top (y := 0) (by decide) ?_
  refine lv_aload_n hx hb (dkP dF_42 DX12_check (i := 42) rfl rfl) rfl (lv_at hl 4 rfl) ?_
  refine z_gr C0 hw 0 1 1 rfl fl_X12_20 (dk2 dF_180 DX12_check (i := 43) rfl rfl rfl) ?_
  refine lv_iconst (v := 4) hx hb (dkP dF_7 DX12_check (i := 44) rfl rfl) (by decide) ?_
  refine z_ialdN (n := 414128) C0 hw 1 4 rfl (by omega) (by decide) (dkP dF_46 DX12_check (i := 45) rfl rfl) ?_
  refine z_top (y := 0) (by rfl) ?_
  refine lv_iadd hx hb (dkP dF_96 DX12_check (i := 46) rfl rfl) ?_
  refine z_top (y := 0) (by decide) ?_
  refine lv_icmp_ne (tgt := 79) hx hb (dkS dF_160 DX12_check (i := 47) rfl rfl rfl) (by decide) (fun h => absurd h (by decide)) (fun _ => ?_)
  refine lv_iconst (v := 1) hx hb (dkP dF_4 DX12_check (i := 48) rfl rfl) (by decide) ?_
  refine lv_goto (tgt := 80) hx hb (dkS dF_167 DX12_check (i := 49) rfl rfl rfl) (by decide) ?_
  refine lv_istore_n (lv' := [(2, .int 1), (1, .int 0), (4, .int 414103), (3, .int 15), (0, .ref (ad 0))]) hx hb (dkP dF_61 DX12_check (i := 51) rfl rfl) rfl hl (by decide) rfl (fun ls hl => ?_)
  refine lv_iinc (v := 16) (lv' := [(3, .int 16), (2, .int 1), (1, .int 0), (4, .int 414103), (0, .ref (ad 0))]) hx hb (dkI DX12_check (i := 52) rfl rfl rfl rfl) hl (k := 3) rfl (by decide) (by decide) rfl (fun ls hl => ?_)
  refine lv_goto (tgt := 6) hx hb (dkS dF_167 DX12_check (i := 53) rfl rfl rfl) (by decide) ?_
  refine lv_iload_n hx hb (dkP dF_29 DX12_check (i := 6) rfl rfl) rfl (lv_at hl 0 rfl) ?_
  refine lv_bipush (v := 20) hx hb (dks dF_16 DX12_check (i := 7) rfl rfl rfl) (by decide) ?_
  refine lv_icmp_ge (tgt := 87) hx hb (dkS dF_162 DX12_check (i := 8) rfl rfl rfl) (by decide) (fun h => absurd h (by decide)) (fun _ => ?_)
  refine lv_iload_n hx hb (dkP dF_29 DX12_check (i := 9) rfl rfl) rfl (lv_at hl 0 rfl) ?_
  refine zn_I hw (zr_S (As := [.int 16]) (rest := []) C0 (c_X12_rowAt l G kc 16  _) cs_X12_rowAt lk_X12_489 (zp_P C0 a00 s00) rfl hl.1 rfl ⟨by decide, by decide⟩ (Nat.le_of_ble_eq_true rfl) (dk2 dF_184 DX12_check (i := 10) rfl rfl rfl) ⟨Nat.le_refl _, Nat.le_refl _⟩) (fun r17 s17 H locs hp hw => ?_)
  subst hp
  refine z_top (y := 414108) (by rfl) ?_
  refine lv_istore (lv' := [(4, .int 414108), (3, .int 16), (2, .int 1), (1, .int 0), (0, .ref (ad 0))]) hx hb (dk1 dF_54 DX12_check (i := 11) rfl rfl rfl) hl (by decide) rfl (fun ls hl => ?_)
  refine lv_iload_n hx hb (dkP dF_27 DX12_check (i := 12) rfl rfl) rfl (lv_at hl 3 rfl) ?_
  refine lv_aload_n hx hb (dkP dF_42 DX12_check (i := 13) rfl rfl) rfl (lv_at hl 4 rfl) ?_
  refine z_gr C0 hw 0 1 1 rfl fl_X12_20 (dk2 dF_180 DX12_check (i := 14) rfl rfl rfl) ?_
  refine lv_iload hx hb (dk1 dF_21 DX12_check (i := 15) rfl rfl rfl) (lv_at hl 0 rfl) ?_
  refine lv_iconst (v := 3) hx hb (dkP dF_6 DX12_check (i := 16) rfl rfl) (by decide) ?_
  refine lv_iadd hx hb (dkP dF_96 DX12_check (i := 17) rfl rfl) ?_
  refine z_top (y := 414111) (by decide) ?_
  refine z_ialdN (n := 414128) C0 hw 1 414111 rfl (by omega) (by decide) (dkP dF_46 DX12_check (i := 18) rfl rfl) ?_
  refine z_top (y := 0) (by rfl) ?_
  refine lv_if_le (tgt := 35) hx hb (dkS dF_158 DX12_check (i := 19) rfl rfl rfl) (by decide) (fun _ => ?_) (fun h => absurd h (by decide))
  refine lv_iconst (v := 0) hx hb (dkP dF_3 DX12_check (i := 22) rfl rfl) (by decide) ?_
  refine lv_iadd hx hb (dkP dF_96 DX12_check (i := 23) rfl rfl) ?_
  refine z_top (y := 0) (by decide) ?_
  refine lv_istore_n (lv' := [(1, .int 0), (4, .int 414108), (3, .int 16), (2, .int 1), (0, .ref (ad 0))]) hx hb (dkP dF_60 DX12_check (i := 24) rfl rfl) rfl hl (by decide) rfl (fun ls hl => ?_)
  refine lv_iload_n hx hb (dkP dF_28 DX12_check (i := 25) rfl rfl) rfl (lv_at hl 3 rfl) ?_
  refine lv_if_eq (tgt := 79) hx hb (dkS dF_153 DX12_check (i := 26) rfl rfl rfl) (by decide) (fun h => absurd h (by decide)) (fun _ => ?_)
  refine lv_aload_n hx hb (dkP dF_42 DX12_check (i := 27) rfl rfl) rfl (lv_at hl 4 rfl) ?_
  refine z_gr C0 hw 0 1 1 rfl fl_X12_20 (dk2 dF_180 DX12_check (i := 28) rfl rfl rfl) ?_
  refine lv_iload hx hb (dk1 dF_21 DX12_check (i := 29) rfl rfl rfl) (lv_at hl 1 rfl) ?_
  refine lv_iconst (v := 1) hx hb (dkP dF_4 DX12_check (i := 30) rfl rfl) (by decide) ?_
  refine lv_iadd hx hb (dkP dF_96 DX12_check (i := 31) rfl rfl) ?_
  refine z_top (y := 414109) (by decide) ?_
  refine z_ialdN (n := 414128) C0 hw 1 414109 rfl (by omega) (by decide) (dkP dF_46 DX12_check (i := 32) rfl rfl) ?_
  refine z_top (y := 0) (by rfl) ?_
  refine lv_aload_n hx hb (dkP dF_42 DX12_check (i := 33) rfl rfl) rfl (lv_at hl 4 rfl) ?_
  refine z_gr C0 hw 0 1 1 rfl fl_X12_20 (dk2 dF_180 DX12_check (i := 34) rfl rfl rfl) ?_
  refine lv_iconst (v := 3) hx hb (dkP dF_6 DX12_check (i := 35) rfl rfl) (by decide) ?_
  refine z_ialdN (n := 414128) C0 hw 1 3 rfl (by omega) (by decide) (dkP dF_46 DX12_check (i := 36) rfl rfl) ?_
  refine z_top (y := 1) (by rfl) ?_
  refine lv_aload_n hx hb (dkP dF_42 DX12_check (i := 37) rfl rfl) rfl (lv_at hl 4 rfl) ?_
  refine z_gr C0 hw 0 1 1 rfl fl_X12_20 (dk2 dF_180 DX12_check (i := 38) rfl rfl rfl) ?_
  refine lv_iload hx hb (dk1 dF_21 DX12_check (i := 39) rfl rfl rfl) (lv_at hl 1 rfl) ?_
  refine z_ialdN (n := 414128) C0 hw 1 414108 rfl (by omega) (by decide) (dkP dF_46 DX12_check (i := 40) rfl rfl) ?_
  refine z_top (y := 0) (by rfl) ?_
  refine lv_imul hx hb (dkP dF_104 DX12_check (i := 41) rfl rfl) ?_
  refine z_top (y := 0) (by decide) ?_
  refine lv_aload_n hx hb (dkP dF_42 DX12_check (i := 42) rfl rfl) rfl (lv_at hl 4 rfl) ?_
  refine z_gr C0 hw 0 1 1 rfl fl_X12_20 (dk2 dF_180 DX12_check (i := 43) rfl rfl rfl) ?_
  refine lv_iconst (v := 4) hx hb (dkP dF_7 DX12_check (i := 44) rfl rfl) (by decide) ?_
  refine z_ialdN (n := 414128) C0 hw 1 4 rfl (by omega) (by decide) (dkP dF_46 DX12_check (i := 45) rfl rfl) ?_
  refine z_top (y := 0) (by rfl) ?_
  refine lv_iadd hx hb (dkP dF_96 DX12_check (i := 46) rfl rfl) ?_
  refine z_top (y := 0) (by decide) ?_
  refine lv_icmp_ne (tgt := 79) hx hb (dkS dF_160 DX12_check (i := 47) rfl rfl rfl) (by decide) (fun h => absurd h (by decide)) (fun _ => ?_)
  refine lv_iconst (v := 1) hx hb (dkP dF_4 DX12_check (i := 48) rfl rfl) (by decide) ?_
  refine lv_goto (tgt := 80) hx hb (dkS dF_167 DX12_check (i := 49) rfl rfl rfl) (by decide) ?_
  refine lv_istore_n (lv' := [(2, .int 1), (1, .int 0), (4, .int 414108), (3, .int 16), (0, .ref (ad 0))]) hx hb (dkP dF_61 DX12_check (i := 51) rfl rfl) rfl hl (by decide) rfl (fun ls hl => ?_)
  refine lv_iinc (v := 17) (lv' := [(3, .int 17), (2, .int 1), (1, .int 0), (4, .int 414108), (0, .ref (ad 0))]) hx hb (dkI DX12_check (i := 52) rfl rfl rfl rfl) hl (k := 3) rfl (by decide) (by decide) rfl (fun ls hl => ?_)
  refine lv_goto (tgt := 6) hx hb (dkS dF_167 DX12_check (i := 53) rfl rfl rfl) (by decide) ?_
  refine lv_iload_n hx hb (dkP dF_29 DX12_check (i := 6) rfl rfl) rfl (lv_at hl 0 rfl) ?_
  refine lv_bipush (v := 20) hx hb (dks dF_16 DX12_check (i := 7) rfl rfl rfl) (by decide) ?_
  refine lv_icmp_ge (tgt := 87) hx hb (dkS dF_162 DX12_check (i := 8) rfl rfl rfl) (by decide) (fun h => absurd h (by decide)) (fun _ => ?_)
  refine lv_iload_n hx hb (dkP dF_29 DX12_check (i := 9) rfl rfl) rfl (lv_at hl 0 rfl) ?_
  refine zn_I hw (zr_S (As := [.int 17]) (rest := []) C0 (c_X12_rowAt l G kc 17  _) cs_X12_rowAt lk_X12_489 (zp_P C0 a00 s00) rfl hl.1 rfl ⟨by decide, by decide⟩ (Nat.le_of_ble_eq_true rfl) (dk2 dF_184 DX12_check (i := 10) rfl rfl rfl) ⟨Nat.le_refl _, Nat.le_refl _⟩) (fun r18 s18 H locs hp hw => ?_)
  subst hp
  refine z_top (y := 414113) (by rfl) ?_
  refine lv_istore (lv' := [(4, .int 414113), (3, .int 17), (2, .int 1), (1, .int 0), (0, .ref (ad 0))]) hx hb (dk1 dF_54 DX12_check (i := 11) rfl rfl rfl) hl (by decide) rfl (fun ls hl => ?_)
  refine lv_iload_n hx hb (dkP dF_27 DX12_check (i := 12) rfl rfl) rfl (lv_at hl 3 rfl) ?_
  refine lv_aload_n hx hb (dkP dF_42 DX12_check (i := 13) rfl rfl) rfl (lv_at hl 4 rfl) ?_
  refine z_gr C0 hw 0 1 1 rfl fl_X12_20 (dk2 dF_180 DX12_check (i := 14) rfl rfl rfl) ?_
  refine lv_iload hx hb (dk1 dF_21 DX12_check (i := 15) rfl rfl rfl) (lv_at hl 0 rfl) ?_
  refine lv_iconst (v := 3) hx hb (dkP dF_6 DX12_check (i := 16) rfl rfl) (by decide) ?_
  refine lv_iadd hx hb (dkP dF_96 DX12_check (i := 17) rfl rfl) ?_
  refine z_top (y := 414116) (by decide) ?_
  refine z_ialdN (n := 414128) C0 hw 1 414116 rfl (by omega) (by decide) (dkP dF_46 DX12_check (i := 18) rfl rfl) ?_
  refine z_top (y := 0) (by rfl) ?_
  refine lv_if_le (tgt := 35) hx hb (dkS dF_158 DX12_check (i := 19) rfl rfl rfl) (by decide) (fun _ => ?_) (fun h => absurd h (by decide))
  refine lv_iconst (v := 0) hx hb (dkP dF_3 DX12_check (i := 22) rfl rfl) (by decide) ?_
  refine lv_iadd hx hb (dkP dF_96 DX12_check (i := 23) rfl rfl) ?_
  refine z_top (y := 0) (by decide) ?_
  refine lv_istore_n (lv' := [(1, .int 0), (4, .int 414113), (3, .int 17), (2, .int 1), (0, .ref (ad 0))]) hx hb (dkP dF_60 DX12_check (i := 24) rfl rfl) rfl hl (by decide) rfl (fun ls hl => ?_)
  refine lv_iload_n hx hb (dkP dF_28 DX12_check (i := 25) rfl rfl) rfl (lv_at hl 3 rfl) ?_
  refine lv_if_eq (tgt := 79) hx hb (dkS dF_153 DX12_check (i := 26) rfl rfl rfl) (by decide) (fun h => absurd h (by decide)) (fun _ => ?_)
  refine lv_aload_n hx hb (dkP dF_42 DX12_check (i := 27) rfl rfl) rfl (lv_at hl 4 rfl) ?_
  refine z_gr C0 hw 0 1 1 rfl fl_X12_20 (dk2 dF_180 DX12_check (i := 28) rfl rfl rfl) ?_
  refine lv_iload hx hb (dk1 dF_21 DX12_check (i := 29) rfl rfl rfl) (lv_at hl 1 rfl) ?_
  refine lv_iconst (v := 1) hx hb (dkP dF_4 DX12_check (i := 30) rfl rfl) (by decide) ?_
  refine lv_iadd hx hb (dkP dF_96 DX12_check (i := 31) rfl rfl) ?_
  refine z_top (y := 414114) (by decide) ?_
  refine z_ialdN (n := 414128) C0 hw 1 414114 rfl (by omega) (by decide) (dkP dF_46 DX12_check (i := 32) rfl rfl) ?_
  refine z_top (y := 0) (by rfl) ?_
  refine lv_aload_n hx hb (dkP dF_42 DX12_check (i := 33) rfl rfl) rfl (lv_at hl 4 rfl) ?_
  refine z_gr C0 hw 0 1 1 rfl fl_X12_20 (dk2 dF_180 DX12_check (i := 34) rfl rfl rfl) ?_
  refine lv_iconst (v := 3) hx hb (dkP dF_6 DX12_check (i := 35) rfl rfl) (by decide) ?_
  refine z_ialdN (n := 414128) C0 hw 1 3 rfl (by omega) (by decide) (dkP dF_46 DX12_check (i := 36) rfl rfl) ?_
  refine z_top (y := 1) (by rfl) ?_
  refine lv_aload_n hx hb (dkP dF_42 DX12_check (i := 37) rfl rfl) rfl (lv_at hl 4 rfl) ?_
  refine z_gr C0 hw 0 1 1 rfl fl_X12_20 (dk2 dF_180 DX12_check (i := 38) rfl rfl rfl) ?_
  refine lv_iload hx hb (dk1 dF_21 DX12_check (i := 39) rfl rfl rfl) (lv_at hl 1 rfl) ?_
  refine z_ialdN (n := 414128) C0 hw 1 414113 rfl (by omega) (by decide) (dkP dF_46 DX12_check (i := 40) rfl rfl) ?_
  refine z_top (y := 0) (by rfl) ?_
  refine lv_imul hx hb (dkP dF_104 DX12_check (i := 41) rfl rfl) ?_
  refine z_top (y := 0) (by decide) ?_
  refine lv_aload_n hx hb (dkP dF_42 DX12_check (i := 42) rfl rfl) rfl (lv_at hl 4 rfl) ?_
  refine z_gr C0 hw 0 1 1 rfl fl_X12_20 (dk2 dF_180 DX12_check (i := 43) rfl rfl rfl) ?_
  refine lv_iconst (v := 4) hx hb (dkP dF_7 DX12_check (i := 44) rfl rfl) (by decide) ?_
  refine z_ialdN (n := 414128) C0 hw 1 4 rfl (by omega) (by decide) (dkP dF_46 DX12_check (i := 45) rfl rfl) ?_
  refine z_top (y := 0) (by rfl) ?_
  refine lv_iadd hx hb (dkP dF_96 DX12_check (i := 46) rfl rfl) ?_
  refine z_top (y := 0) (by decide) ?_
  refine lv_icmp_ne (tgt := 79) hx hb (dkS dF_160 DX12_check (i := 47) rfl rfl rfl) (by decide) (fun h => absurd h (by decide)) (fun _ => ?_)
  refine lv_iconst (v := 1) hx hb (dkP dF_4 DX12_check (i := 48) rfl rfl) (by decide) ?_
  refine lv_goto (tgt := 80) hx hb (dkS dF_167 DX12_check (i := 49) rfl rfl rfl) (by decide) ?_
  refine lv_istore_n (lv' := [(2, .int 1), (1, .int 0), (4, .int 414113), (3, .int 17), (0, .ref (ad 0))]) hx hb (dkP dF_61 DX12_check (i := 51) rfl rfl) rfl hl (by decide) rfl (fun ls hl => ?_)
  refine lv_iinc (v := 18) (lv' := [(3, .int 18), (2, .int 1), (1, .int 0), (4, .int 414113), (0, .ref (ad 0))]) hx hb (dkI DX12_check (i := 52) rfl rfl rfl rfl) hl (k := 3) rfl (by decide) (by decide) rfl (fun ls hl => ?_)
  refine lv_goto (tgt := 6) hx hb (dkS dF_167 DX12_check (i := 53) rfl rfl rfl) (by decide) ?_
  refine lv_iload_n hx hb (dkP dF_29 DX12_check (i := 6) rfl rfl) rfl (lv_at hl 0 rfl) ?_
  refine lv_bipush (v := 20) hx hb (dks dF_16 DX12_check (i := 7) rfl rfl rfl) (by decide) ?_
  refine lv_icmp_ge (tgt := 87) hx hb (dkS dF_162 DX12_check (i := 8) rfl rfl rfl) (by decide) (fun h => absurd h (by decide)) (fun _ => ?_)
  refine lv_iload_n hx hb (dkP dF_29 DX12_check (i := 9) rfl rfl) rfl (lv_at hl 0 rfl) ?_
  refine zn_I hw (zr_S (As := [.int 18]) (rest := []) C0 (c_X12_rowAt l G kc 18  _) cs_X12_rowAt lk_X12_489 (zp_P C0 a00 s00) rfl hl.1 rfl ⟨by decide, by decide⟩ (Nat.le_of_ble_eq_true rfl) (dk2 dF_184 DX12_check (i := 10) rfl rfl rfl) ⟨Nat.le_refl _, Nat.le_refl _⟩) (fun r19 s19 H locs hp hw => ?_)
  subst hp
  refine z_top (y := 414118) (by rfl) ?_
  refine lv_istore (lv' := [(4, .int 414118), (3, .int 18), (2, .int 1), (1, .int 0), (0, .ref (ad 0))]) hx hb (dk1 dF_54 DX12_check (i := 11) rfl rfl rfl) hl (by decide) rfl (fun ls hl => ?_)
  refine lv_iload_n hx hb (dkP dF_27 DX12_check (i := 12) rfl rfl) rfl (lv_at hl 3 rfl) ?_
  refine lv_aload_n hx hb (dkP dF_42 DX12_check (i := 13) rfl rfl) rfl (lv_at hl 4 rfl) ?_
  refine z_gr C0 hw 0 1 1 rfl fl_X12_20 (dk2 dF_180 DX12_check (i := 14) rfl rfl rfl) ?_
  refine lv_iload hx hb (dk1 dF_21 DX12_check (i := 15) rfl rfl rfl) (lv_at hl 0 rfl) ?_
  refine lv_iconst (v := 3) hx hb (dkP dF_6 DX12_check (i := 16) rfl rfl) (by decide) ?_
  refine lv_iadd hx hb (dkP dF_96 DX12_check (i := 17) rfl rfl) ?_
  refine z_top (y := 414121) (by decide) ?_
  refine z_ialdN (n := 414128) C0 hw 1 414121 rfl (by omega) (by decide) (dkP dF_46 DX12_check (i := 18) rfl rfl) ?_
  refine z_top (y := 0) (by rfl) ?_
  refine lv_if_le (tgt := 35) hx hb (dkS dF_158 DX12_check (i := 19) rfl rfl rfl) (by decide) (fun _ => ?_) (fun h => absurd h (by decide))
  refine lv_iconst (v := 0) hx hb (dkP dF_3 DX12_check (i := 22) rfl rfl) (by decide) ?_
  refine lv_iadd hx hb (dkP dF_96 DX12_check (i := 23) rfl rfl) ?_
  refine z_top (y := 0) (by decide) ?_
  refine lv_istore_n (lv' := [(1, .int 0), (4, .int 414118), (3, .int 18), (2, .int 1), (0, .ref (ad 0))]) hx hb (dkP dF_60 DX12_check (i := 24) rfl rfl) rfl hl (by decide) rfl (fun ls hl => ?_)
  refine lv_iload_n hx hb (dkP dF_28 DX12_check (i := 25) rfl rfl) rfl (lv_at hl 3 rfl) ?_
  refine lv_if_eq (tgt := 79) hx hb (dkS dF_153 DX12_check (i := 26) rfl rfl rfl) (by decide) (fun h => absurd h (by decide)) (fun _ => ?_)
  refine lv_aload_n hx hb (dkP dF_42 DX12_check (i := 27) rfl rfl) rfl (lv_at hl 4 rfl) ?_
  refine z_gr C0 hw 0 1 1 rfl fl_X12_20 (dk2 dF_180 DX12_check (i := 28) rfl rfl rfl) ?_
  refine lv_iload hx hb (dk1 dF_21 DX12_check (i := 29) rfl rfl rfl) (lv_at hl 1 rfl) ?_
  refine lv_iconst (v := 1) hx hb (dkP dF_4 DX12_check (i := 30) rfl rfl) (by decide) ?_
  refine lv_iadd hx hb (dkP dF_96 DX12_check (i := 31) rfl rfl) ?_
  refine z_top (y := 414119) (by decide) ?_
  refine z_ialdN (n := 414128) C0 hw 1 414119 rfl (by omega) (by decide) (dkP dF_46 DX12_check (i := 32) rfl rfl) ?_
  refine z_top (y := 0) (by rfl) ?_
  refine lv_aload_n hx hb (dkP dF_42 DX12_check (i := 33) rfl rfl) rfl (lv_at hl 4 rfl) ?_
  refine z_gr C0 hw 0 1 1 rfl fl_X12_20 (dk2 dF_180 DX12_check (i := 34) rfl rfl rfl) ?_
  refine lv_iconst (v := 3) hx hb (dkP dF_6 DX12_check (i := 35) rfl rfl) (by decide) ?_
  refine z_ialdN (n := 414128) C0 hw 1 3 rfl (by omega) (by decide) (dkP dF_46 DX12_check (i := 36) rfl rfl) ?_
  refine z_top (y := 1) (by rfl) ?_
  refine lv_aload_n hx hb (dkP dF_42 DX12_check (i := 37) rfl rfl) rfl (lv_at hl 4 rfl) ?_
  refine z_gr C0 hw 0 1 1 rfl fl_X12_20 (dk2 dF_180 DX12_check (i := 38) rfl rfl rfl) ?_
  refine lv_iload hx hb (dk1 dF_21 DX12_check (i := 39) rfl rfl rfl) (lv_at hl 1 rfl) ?_
  refine z_ialdN (n := 414128) C0 hw 1 414118 rfl (by omega) (by decide) (dkP dF_46 DX12_check (i := 40) rfl rfl) ?_
  refine z_top (y := 0) (by rfl) ?_
  refine lv_imul hx hb (dkP dF_104 DX12_check (i := 41) rfl rfl) ?_
  refine z_top (y := 0) (by decide) ?_
  refine lv_aload_n hx hb (dkP dF_42 DX12_check (i := 42) rfl rfl) rfl (lv_at hl 4 rfl) ?_
  refine z_gr C0 hw 0 1 1 rfl fl_X12_20 (dk2 dF_180 DX12_check (i := 43) rfl rfl rfl) ?_
  refine lv_iconst (v := 4) hx hb (dkP dF_7 DX12_check (i := 44) rfl rfl) (by decide) ?_
  refine z_ialdN (n := 414128) C0 hw 1 4 rfl (by omega) (by decide) (dkP dF_46 DX12_check (i := 45) rfl rfl) ?_
  refine z_top (y := 0) (by rfl) ?_
  refine lv_iadd hx hb (dkP dF_96 DX12_check (i := 46) rfl rfl) ?_
  refine z_top (y := 0) (by decide) ?_
  refine lv_icmp_ne (tgt := 79) hx hb (dkS dF_160 DX12_check (i := 47) rfl rfl rfl) (by decide) (fun h => absurd h (by decide)) (fun _ => ?_)
  refine lv_iconst (v := 1) hx hb (dkP dF_4 DX12_check (i := 48) rfl rfl) (by decide) ?_
  refine lv_goto (tgt := 80) hx hb (dkS dF_167 DX12_check (i := 49) rfl rfl rfl) (by decide) ?_
  refine lv_istore_n (lv' := [(2, .int 1), (1, .int 0), (4, .int 414118), (3, .int 18), (0, .ref (ad 0))]) hx hb (dkP dF_61 DX12_check (i := 51) rfl rfl) rfl hl (by decide) rfl (fun ls hl => ?_)
  refine lv_iinc (v := 19) (lv' := [(3, .int 19), (2, .int 1), (1, .int 0), (4, .int 414118), (0, .ref (ad 0))]) hx hb (dkI DX12_check (i := 52) rfl rfl rfl rfl) hl (k := 3) rfl (by decide) (by decide) rfl (fun ls hl => ?_)
  refine lv_goto (tgt := 6) hx hb (dkS dF_167 DX12_check (i := 53) rfl rfl rfl) (by decide) ?_
  refine lv_iload_n hx hb (dkP dF_29 DX12_check (i := 6) rfl rfl) rfl (lv_at hl 0 rfl) ?_
  refine lv_bipush (v := 20) hx hb (dks dF_16 DX12_check (i := 7) rfl rfl rfl) (by decide) ?_
  refine lv_icmp_ge (tgt := 87) hx hb (dkS dF_162 DX12_check (i := 8) rfl rfl rfl) (by decide) (fun h => absurd h (by decide)) (fun _ => ?_)
  refine lv_iload_n hx hb (dkP dF_29 DX12_check (i := 9) rfl rfl) rfl (lv_at hl 0 rfl) ?_
  refine zn_I hw (zr_S (As := [.int 19]) (rest := []) C0 (c_X12_rowAt l G kc 19  _) cs_X12_rowAt lk_X12_489 (zp_P C0 a00 s00) rfl hl.1 rfl ⟨by decide, by decide⟩ (Nat.le_of_ble_eq_true rfl) (dk2 dF_184 DX12_check (i := 10) rfl rfl rfl) ⟨Nat.le_refl _, Nat.le_refl _⟩) (fun r20 s20 H locs hp hw => ?_)
  subst hp
  refine z_top (y := 414123) (by rfl) ?_
  refine lv_istore (lv' := [(4, .int 414123), (3, .int 19), (2, .int 1), (1, .int 0), (0, .ref (ad 0))]) hx hb (dk1 dF_54 DX12_check (i := 11) rfl rfl rfl) hl (by decide) rfl (fun ls hl => ?_)
  refine lv_iload_n hx hb (dkP dF_27 DX12_check (i := 12) rfl rfl) rfl (lv_at hl 3 rfl) ?_
  refine lv_aload_n hx hb (dkP dF_42 DX12_check (i := 13) rfl rfl) rfl (lv_at hl 4 rfl) ?_
  refine z_gr C0 hw 0 1 1 rfl fl_X12_20 (dk2 dF_180 DX12_check (i := 14) rfl rfl rfl) ?_
  refine lv_iload hx hb (dk1 dF_21 DX12_check (i := 15) rfl rfl rfl) (lv_at hl 0 rfl) ?_
  refine lv_iconst (v := 3) hx hb (dkP dF_6 DX12_check (i := 16) rfl rfl) (by decide) ?_
  refine lv_iadd hx hb (dkP dF_96 DX12_check (i := 17) rfl rfl) ?_
  refine z_top (y := 414126) (by decide) ?_
  refine z_ialdN (n := 414128) C0 hw 1 414126 rfl (by omega) (by decide) (dkP dF_46 DX12_check (i := 18) rfl rfl) ?_
  refine z_top (y := 0) (by rfl) ?_
  refine lv_if_le (tgt := 35) hx hb (dkS dF_158 DX12_check (i := 19) rfl rfl rfl) (by decide) (fun _ => ?_) (fun h => absurd h (by decide))
  refine lv_iconst (v := 0) hx hb (dkP dF_3 DX12_check (i := 22) rfl rfl) (by decide) ?_
  refine lv_iadd hx hb (dkP dF_96 DX12_check (i := 23) rfl rfl) ?_
  refine z_top (y := 0) (by decide) ?_
  refine lv_istore_n (lv' := [(1, .int 0), (4, .int 414123), (3, .int 19), (2, .int 1), (0, .ref (ad 0))]) hx hb (dkP dF_60 DX12_check (i := 24) rfl rfl) rfl hl (by decide) rfl (fun ls hl => ?_)
  refine lv_iload_n hx hb (dkP dF_28 DX12_check (i := 25) rfl rfl) rfl (lv_at hl 3 rfl) ?_
  refine lv_if_eq (tgt := 79) hx hb (dkS dF_153 DX12_check (i := 26) rfl rfl rfl) (by decide) (fun h => absurd h (by decide)) (fun _ => ?_)
  refine lv_aload_n hx hb (dkP dF_42 DX12_check (i := 27) rfl rfl) rfl (lv_at hl 4 rfl) ?_
  refine z_gr C0 hw 0 1 1 rfl fl_X12_20 (dk2 dF_180 DX12_check (i := 28) rfl rfl rfl) ?_
  refine lv_iload hx hb (dk1 dF_21 DX12_check (i := 29) rfl rfl rfl) (lv_at hl 1 rfl) ?_
  refine lv_iconst (v := 1) hx hb (dkP dF_4 DX12_check (i := 30) rfl rfl) (by decide) ?_
  refine lv_iadd hx hb (dkP dF_96 DX12_check (i := 31) rfl rfl) ?_
  refine z_top (y := 414124) (by decide) ?_
  refine z_ialdN (n := 414128) C0 hw 1 414124 rfl (by omega) (by decide) (dkP dF_46 DX12_check (i := 32) rfl rfl) ?_
  refine z_top (y := 0) (by rfl) ?_
  refine lv_aload_n hx hb (dkP dF_42 DX12_check (i := 33) rfl rfl) rfl (lv_at hl 4 rfl) ?_
  refine z_gr C0 hw 0 1 1 rfl fl_X12_20 (dk2 dF_180 DX12_check (i := 34) rfl rfl rfl) ?_
  refine lv_iconst (v := 3) hx hb (dkP dF_6 DX12_check (i := 35) rfl rfl) (by decide) ?_
  refine z_ialdN (n := 414128) C0 hw 1 3 rfl (by omega) (by decide) (dkP dF_46 DX12_check (i := 36) rfl rfl) ?_
  refine z_top (y := 1) (by rfl) ?_
  refine lv_aload_n hx hb (dkP dF_42 DX12_check (i := 37) rfl rfl) rfl (lv_at hl 4 rfl) ?_
  refine z_gr C0 hw 0 1 1 rfl fl_X12_20 (dk2 dF_180 DX12_check (i := 38) rfl rfl rfl) ?_
  refine lv_iload hx hb (dk1 dF_21 DX12_check (i := 39) rfl rfl rfl) (lv_at hl 1 rfl) ?_
  refine z_ialdN (n := 414128) C0 hw 1 414123 rfl (by omega) (by decide) (dkP dF_46 DX12_check (i := 40) rfl rfl) ?_
  refine z_top (y := 0) (by rfl) ?_
  refine lv_imul hx hb (dkP dF_104 DX12_check (i := 41) rfl rfl) ?_
  refine z_top (y := 0) (by decide) ?_
  refine lv_aload_n hx hb (dkP dF_42 DX12_check (i := 42) rfl rfl) rfl (lv_at hl 4 rfl) ?_
  refine z_gr C0 hw 0 1 1 rfl fl_X12_20 (dk2 dF_180 DX12_check (i := 43) rfl rfl rfl) ?_
  refine lv_iconst (v := 4) hx hb (dkP dF_7 DX12_check (i := 44) rfl rfl) (by decide) ?_
  refine z_ialdN (n := 414128) C0 hw 1 4 rfl (by omega) (by decide) (dkP dF_46 DX12_check (i := 45) rfl rfl) ?_
  refine z_top (y := 0) (by rfl) ?_
  refine lv_iadd hx hb (dkP dF_96 DX12_check (i := 46) rfl rfl) ?_
  refine z_top (y := 0) (by decide) ?_
  refine lv_icmp_ne (tgt := 79) hx hb (dkS dF_160 DX12_check (i := 47) rfl rfl rfl) (by decide) (fun h => absurd h (by decide)) (fun _ => ?_)
  refine lv_iconst (v := 1) hx hb (dkP dF_4 DX12_check (i := 48) rfl rfl) (by decide) ?_
  refine lv_goto (tgt := 80) hx hb (dkS dF_167 DX12_check (i := 49) rfl rfl rfl) (by decide) ?_
  refine lv_istore_n (lv' := [(2, .int 1), (1, .int 0), (4, .int 414123), (3, .int 19), (0, .ref (ad 0))]) hx hb (dkP dF_61 DX12_check (i := 51) rfl rfl) rfl hl (by decide) rfl (fun ls hl => ?_)
  refine lv_iinc (v := 20) (lv' := [(3, .int 20), (2, .int 1), (1, .int 0), (4, .int 414123), (0, .ref (ad 0))]) hx hb (dkI DX12_check (i := 52) rfl rfl rfl rfl) hl (k := 3) rfl (by decide) (by decide) rfl (fun ls hl => ?_)
  refine lv_goto (tgt := 6) hx hb (dkS dF_167 DX12_check (i := 53) rfl rfl rfl) (by decide) ?_
  refine lv_iload_n hx hb (dkP dF_29 DX12_check (i := 6) rfl rfl) rfl (lv_at hl 0 rfl) ?_
  refine lv_bipush (v := 20) hx hb (dks dF_16 DX12_check (i := 7) rfl rfl rfl) (by decide) ?_
  refine lv_icmp_ge (tgt := 87) hx hb (dkS dF_162 DX12_check (i := 8) rfl rfl rfl) (by decide) (fun _ => ?_) (fun h => absurd h (by decide))
  refine lv_iload_n hx hb (dkP dF_27 DX12_check (i := 54) rfl rfl) rfl (lv_at hl 2 rfl) ?_
  refine lv_if_le (tgt := 95) hx hb (dkS dF_158 DX12_check (i := 55) rfl rfl rfl) (by decide) (fun _ => ?_) (fun h => absurd h (by decide))
  refine lv_iload_n hx hb (dkP dF_28 DX12_check (i := 58) rfl rfl) rfl (lv_at hl 1 rfl) ?_
  refine lv_if_eq (tgt := 103) hx hb (dkS dF_153 DX12_check (i := 59) rfl rfl rfl) (by decide) (fun h => absurd h (by decide)) (fun _ => ?_)
  refine lv_iconst (v := (-1)) hx hb (dkP dF_2 DX12_check (i := 60) rfl rfl) (by decide) ?_
  refine lv_goto (tgt := 105) hx hb (dkS dF_167 DX12_check (i := 61) rfl rfl rfl) (by decide) ?_
  exact z_iret C0 hr hlk hw (by first | rfl | ((try simp (disch := omega) only [tnI, tn32 1 (by decide), tnj 1 (by decide), tl32 0 (by decide), tl64 0 (by decide), tl32 1 (by decide), tl64 1 (by decide), tl32 3 (by decide), tl64 3 (by decide), tl32 4 (by decide), tl64 4 (by decide), tl32 20 (by decide), tl64 20 (by decide), tl32 414029 (by decide), tl64 414029 (by decide), tl32 414031 (by decide), tl64 414031 (by decide), tl32 414034 (by decide), tl64 414034 (by decide), tl32 414036 (by decide), tl64 414036 (by decide), tl32 414039 (by decide), tl64 414039 (by decide), tl32 414041 (by decide), tl64 414041 (by decide), tl32 414044 (by decide), tl64 414044 (by decide), tl32 414046 (by decide), tl64 414046 (by decide), tl32 414049 (by decide), tl64 414049 (by decide), tl32 414051 (by decide), tl64 414051 (by decide), tl32 414054 (by decide), tl64 414054 (by decide), tl32 414056 (by decide), tl64 414056 (by decide), tl32 414059 (by decide), tl64 414059 (by decide), tl32 414061 (by decide), tl64 414061 (by decide), tl32 414064 (by decide), tl64 414064 (by decide), tl32 414066 (by decide), tl64 414066 (by decide), tl32 414069 (by decide), tl64 414069 (by decide), tl32 414071 (by decide), tl64 414071 (by decide), tl32 414074 (by decide), tl64 414074 (by decide), tl32 414076 (by decide), tl64 414076 (by decide), tl32 414079 (by decide), tl64 414079 (by decide), tl32 414081 (by decide), tl64 414081 (by decide), tl32 414084 (by decide), tl64 414084 (by decide), tl32 414086 (by decide), tl64 414086 (by decide), tl32 414089 (by decide), tl64 414089 (by decide), tl32 414091 (by decide), tl64 414091 (by decide), tl32 414094 (by decide), tl64 414094 (by decide), tl32 414096 (by decide), tl64 414096 (by decide), tl32 414099 (by decide), tl64 414099 (by decide), tl32 414101 (by decide), tl64 414101 (by decide), tl32 414104 (by decide), tl64 414104 (by decide), tl32 414106 (by decide), tl64 414106 (by decide), tl32 414109 (by decide), tl64 414109 (by decide), tl32 414111 (by decide), tl64 414111 (by decide), tl32 414114 (by decide), tl64 414114 (by decide), tl32 414116 (by decide), tl64 414116 (by decide), tl32 414119 (by decide), tl64 414119 (by decide), tl32 414121 (by decide), tl64 414121 (by decide), tl32 414124 (by decide), tl64 414124 (by decide), tl32 414126 (by decide), tl64 414126 (by decide)]); (repeat' split) <;> first | rfl | omega | (apply Int32.toInt_inj.mp; simp (disch := omega) only [tnI, tn32 1 (by decide), tnj 1 (by decide), tl32 0 (by decide), tl64 0 (by decide), tl32 1 (by decide), tl64 1 (by decide), tl32 3 (by decide), tl64 3 (by decide), tl32 4 (by decide), tl64 4 (by decide), tl32 20 (by decide), tl64 20 (by decide), tl32 414029 (by decide), tl64 414029 (by decide), tl32 414031 (by decide), tl64 414031 (by decide), tl32 414034 (by decide), tl64 414034 (by decide), tl32 414036 (by decide), tl64 414036 (by decide), tl32 414039 (by decide), tl64 414039 (by decide), tl32 414041 (by decide), tl64 414041 (by decide), tl32 414044 (by decide), tl64 414044 (by decide), tl32 414046 (by decide), tl64 414046 (by decide), tl32 414049 (by decide), tl64 414049 (by decide), tl32 414051 (by decide), tl64 414051 (by decide), tl32 414054 (by decide), tl64 414054 (by decide), tl32 414056 (by decide), tl64 414056 (by decide), tl32 414059 (by decide), tl64 414059 (by decide), tl32 414061 (by decide), tl64 414061 (by decide), tl32 414064 (by decide), tl64 414064 (by decide), tl32 414066 (by decide), tl64 414066 (by decide), tl32 414069 (by decide), tl64 414069 (by decide), tl32 414071 (by decide), tl64 414071 (by decide), tl32 414074 (by decide), tl64 414074 (by decide), tl32 414076 (by decide), tl64 414076 (by decide), tl32 414079 (by decide), tl64 414079 (by decide), tl32 414081 (by decide), tl64 414081 (by decide), tl32 414084 (by decide), tl64 414084 (by decide), tl32 414086 (by decide), tl64 414086 (by decide), tl32 414089 (by decide), tl64 414089 (by decide), tl32 414091 (by decide), tl64 414091 (by decide), tl32 414094 (by decide), tl64 414094 (by decide), tl32 414096 (by decide), tl64 414096 (by decide), tl32 414099 (by decide), tl64 414099 (by decide), tl32 414101 (by decide), tl64 414101 (by decide), tl32 414104 (by decide), tl64 414104 (by decide), tl32 414106 (by decide), tl64 414106 (by decide), tl32 414109 (by decide), tl64 414109 (by decide), tl32 414111 (by decide), tl64 414111 (by decide), tl32 414114 (by decide), tl64 414114 (by decide), tl32 414116 (by decide), tl64 414116 (by decide), tl32 414119 (by decide), tl64 414119 (by decide), tl32 414121 (by decide), tl64 414121 (by decide), tl32 414124 (by decide), tl64 414124 (by decide), tl32 414126 (by decide), tl64 414126 (by decide)]; omega))) (dkP dF_172 DX12_check (i := 63) rfl rfl)
set_option maxRecDepth 100000 in
set_option maxHeartbeats 4000000 in
theorem c_X12_calls (l : Launch) (G : va_G) (kc : Nat → ClassId) (ad : Nat → Nat)  (p : Int32) (o : Int32) (v : Int32)  : MI l G kc yX12_calls cX12_calls 6 (some .int) 2 45 [.ref (ad 0), .int p, .int o, .int v] shM ad sM0 (fun r σ1 => r = if 0 ≤ p.toInt ∧ p.toInt ≤ 7 ∧ 0 ≤ o.toInt ∧ o.toInt ≤ 7 ∧ ¬ p.toInt = o.toInt ∧ -1 ≤ v.toInt ∧ v.toInt ≤ 999 then -1 else -2) := by
  intro sz
  refine z_body (y := yX12_calls) (n := 6) (av := [.ref (ad 0), .int p, .int o, .int v]) (Qc := fun A => va_Qi (fun r σ1 => r = if 0 ≤ p.toInt ∧ p.toInt ≤ 7 ∧ 0 ≤ o.toInt ∧ o.toInt ≤ 7 ∧ ¬ p.toInt = o.toInt ∧ -1 ≤ v.toInt ∧ v.toInt ≤ 999 then -1 else -2) (PoC G kc shM ad A) A) (plainFor_of_name (by decide)) (Nat.le_of_ble_eq_true rfl) (fun pr e s m below meth c A C0 hr hlk hnm hw ls hl => ?_) sz
  have hx := C0.1
  have hb := C0.2.1
  have hown := C0.2.2.2.1
  have hts := C0.2.2.2.2.1
  have hl : lv_has ls 6 [(0, .ref (ad 0)), (1, .int p), (2, .int o), (3, .int v)] := hl
  refine lv_iload_n hx hb (dkP dF_27 DX12_calls (i := 0) rfl rfl) rfl (lv_at hl 1 rfl) ?_
  refine zn_I hw (zr_S (As := [.int p]) (rest := []) C0 (c_X12_isProgram l G kc p  _) cs_X12_isProgram lk_X12_272 (zp_P C0 a00 s00) rfl hl.1 rfl ⟨by decide, by decide⟩ (Nat.le_of_ble_eq_true rfl) (dk2 dF_184 DX12_calls (i := 1) rfl rfl rfl) ⟨Nat.le_refl _, Nat.le_refl _⟩) (fun r1 s1 H locs hp hw => ?_)
  rcases hp with ⟨rfl, hc1⟩ | ⟨rfl, hc1⟩
  · skip
    obtain ⟨k_p, hk_p, rfl⟩ := to_nat (x := p) (n := 8) (by (try simp only [lg_cmp_lt, lg_cmp_le, lg_cmp_gt, lg_cmp_ge, lg_cmp_eq] at hc1); (try simp (disch := omega) only [ta_lt, ta_le, ta_eq, tb_lt, tb_le, tb_eq, tw, tnI, tn32 1 (by decide), tnj 1 (by decide), tl32 0 (by decide), tl64 0 (by decide)] at hc1); (try simp (disch := omega) only [ta_lt, ta_le, ta_eq, tb_lt, tb_le, tb_eq, tw, tnI, tn32 1 (by decide), tnj 1 (by decide), tl32 0 (by decide), tl64 0 (by decide)]); omega)
    refine lv_if_eq (tgt := 33) hx hb (dkS dF_153 DX12_calls (i := 2) rfl rfl rfl) (by decide) (fun h => absurd h (by decide)) (fun _ => ?_)
    refine lv_iload_n hx hb (dkP dF_28 DX12_calls (i := 3) rfl rfl) rfl (lv_at hl 2 rfl) ?_
    refine zn_I hw (zr_S (As := [.int o]) (rest := []) C0 (c_X12_isProgram l G kc o  _) cs_X12_isProgram lk_X12_272 (zp_P C0 a00 s00) rfl hl.1 rfl ⟨by decide, by decide⟩ (Nat.le_of_ble_eq_true rfl) (dk2 dF_184 DX12_calls (i := 4) rfl rfl rfl) ⟨Nat.le_refl _, Nat.le_refl _⟩) (fun r2 s2 H locs hp hw => ?_)
    rcases hp with ⟨rfl, hc2⟩ | ⟨rfl, hc2⟩
    · skip
      obtain ⟨k_o, hk_o, rfl⟩ := to_nat (x := o) (n := 8) (by (try simp only [lg_cmp_lt, lg_cmp_le, lg_cmp_gt, lg_cmp_ge, lg_cmp_eq] at hc1); (try simp (disch := omega) only [ta_lt, ta_le, ta_eq, tb_lt, tb_le, tb_eq, tw, tnI, tn32 1 (by decide), tnj 1 (by decide), tl32 0 (by decide), tl64 0 (by decide)] at hc1); (try simp only [lg_cmp_lt, lg_cmp_le, lg_cmp_gt, lg_cmp_ge, lg_cmp_eq] at hk_p); (try simp (disch := omega) only [ta_lt, ta_le, ta_eq, tb_lt, tb_le, tb_eq, tw, tnI, tn32 1 (by decide), tnj 1 (by decide), tl32 0 (by decide), tl64 0 (by decide)] at hk_p); (try simp only [lg_cmp_lt, lg_cmp_le, lg_cmp_gt, lg_cmp_ge, lg_cmp_eq] at hc2); (try simp (disch := omega) only [ta_lt, ta_le, ta_eq, tb_lt, tb_le, tb_eq, tw, tnI, tn32 1 (by decide), tnj 1 (by decide), tl32 0 (by decide), tl64 0 (by decide)] at hc2); (try simp (disch := omega) only [ta_lt, ta_le, ta_eq, tb_lt, tb_le, tb_eq, tw, tnI, tn32 1 (by decide), tnj 1 (by decide), tl32 0 (by decide), tl64 0 (by decide)]); omega)
      refine lv_if_eq (tgt := 33) hx hb (dkS dF_153 DX12_calls (i := 5) rfl rfl rfl) (by decide) (fun h => absurd h (by decide)) (fun _ => ?_)
      refine lv_iload_n hx hb (dkP dF_27 DX12_calls (i := 6) rfl rfl) rfl (lv_at hl 1 rfl) ?_
      refine lv_iload_n hx hb (dkP dF_28 DX12_calls (i := 7) rfl rfl) rfl (lv_at hl 2 rfl) ?_
      refine lv_icmp_eq (tgt := 33) hx hb (dkS dF_159 DX12_calls (i := 8) rfl rfl rfl) (by decide) (fun c3 => ?_) (fun c3 => ?_)
      · simp (disch := omega) only [ta_lt, ta_le, ta_eq, tnI] at c3
        refine lv_bipush (v := (-2)) hx hb (dks dF_16 DX12_calls (i := 15) rfl rfl rfl) (by decide) ?_
        exact z_iret C0 hr hlk hw (by first | rfl | ((try simp only [lg_cmp_lt, lg_cmp_le, lg_cmp_gt, lg_cmp_ge, lg_cmp_eq] at hc1); (try simp (disch := omega) only [ta_lt, ta_le, ta_eq, tb_lt, tb_le, tb_eq, tw, tnI, tn32 2 (by decide), tnj 2 (by decide), tn32 1 (by decide), tnj 1 (by decide), tl32 0 (by decide), tl64 0 (by decide)] at hc1); (try simp only [lg_cmp_lt, lg_cmp_le, lg_cmp_gt, lg_cmp_ge, lg_cmp_eq] at hk_p); (try simp (disch := omega) only [ta_lt, ta_le, ta_eq, tb_lt, tb_le, tb_eq, tw, tnI, tn32 2 (by decide), tnj 2 (by decide), tn32 1 (by decide), tnj 1 (by decide), tl32 0 (by decide), tl64 0 (by decide)] at hk_p); (try simp only [lg_cmp_lt, lg_cmp_le, lg_cmp_gt, lg_cmp_ge, lg_cmp_eq] at hc2); (try simp (disch := omega) only [ta_lt, ta_le, ta_eq, tb_lt, tb_le, tb_eq, tw, tnI, tn32 2 (by decide), tnj 2 (by decide), tn32 1 (by decide), tnj 1 (by decide), tl32 0 (by decide), tl64 0 (by decide)] at hc2); (try simp only [lg_cmp_lt, lg_cmp_le, lg_cmp_gt, lg_cmp_ge, lg_cmp_eq] at hk_o); (try simp (disch := omega) only [ta_lt, ta_le, ta_eq, tb_lt, tb_le, tb_eq, tw, tnI, tn32 2 (by decide), tnj 2 (by decide), tn32 1 (by decide), tnj 1 (by decide), tl32 0 (by decide), tl64 0 (by decide)] at hk_o); (try simp only [lg_cmp_lt, lg_cmp_le, lg_cmp_gt, lg_cmp_ge, lg_cmp_eq] at c3); (try simp (disch := omega) only [ta_lt, ta_le, ta_eq, tb_lt, tb_le, tb_eq, tw, tnI, tn32 2 (by decide), tnj 2 (by decide), tn32 1 (by decide), tnj 1 (by decide), tl32 0 (by decide), tl64 0 (by decide)] at c3); (try simp (disch := omega) only [tnI, tn32 2 (by decide), tnj 2 (by decide), tn32 1 (by decide), tnj 1 (by decide), tl32 0 (by decide), tl64 0 (by decide)]); (repeat' split) <;> first | rfl | omega | (apply Int32.toInt_inj.mp; simp (disch := omega) only [tnI, tn32 2 (by decide), tnj 2 (by decide), tn32 1 (by decide), tnj 1 (by decide), tl32 0 (by decide), tl64 0 (by decide)]; omega))) (dkP dF_172 DX12_calls (i := 16) rfl rfl)
      · simp (disch := omega) only [ta_lt, ta_le, ta_eq, tnI] at c3
        refine lv_iload_n hx hb (dkP dF_29 DX12_calls (i := 9) rfl rfl) rfl (lv_at hl 3 rfl) ?_
        refine lv_i2l hx hb (dkP dF_133 DX12_calls (i := 10) rfl rfl) rfl ?_
        refine lv_ldc2 hx hb hown (hts _ kn_X12_411) (dk2 dF_20 DX12_calls (i := 11) rfl rfl rfl) ?_
        refine lv_ldc2 hx hb hown (hts _ kn_X12_242) (dk2 dF_20 DX12_calls (i := 12) rfl rfl rfl) ?_
        refine zn_I hw (zr_S (As := [.long v.toInt64, .long (-1), .long 999]) (rest := []) C0 (c_X12_in l G kc v.toInt64 (-1) 999  _) cs_X12_in lk_X12_9 (zp_P C0 a00 s00) rfl hl.1 rfl ⟨by decide, by decide⟩ (Nat.le_of_ble_eq_true rfl) (dk2 dF_184 DX12_calls (i := 13) rfl rfl rfl) ⟨Nat.le_refl _, Nat.le_refl _⟩) (fun r4 s4 H locs hp hw => ?_)
        rcases hp with ⟨rfl, hc4⟩ | ⟨rfl, hc4⟩
        · skip
          refine lv_if_ne (tgt := 36) hx hb (dkS dF_154 DX12_calls (i := 14) rfl rfl rfl) (by decide) (fun _ => ?_) (fun h => absurd h (by decide))
          refine lv_ldc hx hb hown (hts _ kn_X12_143) (dk1 dF_18 DX12_calls (i := 17) rfl rfl rfl) ?_
          refine lv_bipush (v := 8) hx hb (dks dF_16 DX12_calls (i := 18) rfl rfl rfl) (by decide) ?_
          refine lv_iload_n hx hb (dkP dF_27 DX12_calls (i := 19) rfl rfl) rfl (lv_at hl 1 rfl) ?_
          refine lv_imul hx hb (dkP dF_104 DX12_calls (i := 20) rfl rfl) ?_
          refine z_top (y := nI (8 * k_p)) (by simp only [fa_lit, nI_add, pk_mul]) ?_
          refine lv_iadd hx hb (dkP dF_96 DX12_calls (i := 21) rfl rfl) ?_
          refine z_top (y := nI (413480 + (8 * k_p))) (by simp only [fa_lit, nI_add, pk_mul]) ?_
          refine lv_iload_n hx hb (dkP dF_28 DX12_calls (i := 22) rfl rfl) rfl (lv_at hl 2 rfl) ?_
          refine lv_iadd hx hb (dkP dF_96 DX12_calls (i := 23) rfl rfl) ?_
          refine z_top (y := nI ((413480 + (8 * k_p)) + k_o)) (by simp only [fa_lit, nI_add, pk_mul]) ?_
          refine lv_istore (lv' := [(4, .int (nI ((413480 + (8 * k_p)) + k_o))), (0, .ref (ad 0)), (1, .int (nI k_p)), (2, .int (nI k_o)), (3, .int v)]) hx hb (dk1 dF_54 DX12_calls (i := 24) rfl rfl rfl) hl (by decide) rfl (fun ls hl => ?_)
          refine lv_aload_n hx hb (dkP dF_42 DX12_calls (i := 25) rfl rfl) rfl (lv_at hl 1 rfl) ?_
          refine z_gr C0 hw 0 1 1 rfl fl_X12_20 (dk2 dF_180 DX12_calls (i := 26) rfl rfl rfl) ?_
          refine lv_iload hx hb (dk1 dF_21 DX12_calls (i := 27) rfl rfl rfl) (lv_at hl 0 rfl) ?_
          refine z_ialdN (n := 414128) C0 hw 1 ((413480 + (8 * k_p)) + k_o) rfl (by omega) (by decide) (dkP dF_46 DX12_calls (i := 28) rfl rfl) ?_
          refine z_top (y := (-1)) (w0_c _ (by omega) (by omega)) ?_
          refine lv_istore (lv' := [(5, .int (-1)), (4, .int (nI ((413480 + (8 * k_p)) + k_o))), (0, .ref (ad 0)), (1, .int (nI k_p)), (2, .int (nI k_o)), (3, .int v)]) hx hb (dk1 dF_54 DX12_calls (i := 29) rfl rfl rfl) hl (by decide) rfl (fun ls hl => ?_)
          refine lv_aload_n hx hb (dkP dF_42 DX12_calls (i := 30) rfl rfl) rfl (lv_at hl 2 rfl) ?_
          refine z_gr C0 hw 0 1 1 rfl fl_X12_20 (dk2 dF_180 DX12_calls (i := 31) rfl rfl rfl) ?_
          refine lv_iload hx hb (dk1 dF_21 DX12_calls (i := 32) rfl rfl rfl) (lv_at hl 1 rfl) ?_
          refine lv_iload_n hx hb (dkP dF_29 DX12_calls (i := 33) rfl rfl) rfl (lv_at hl 5 rfl) ?_
          refine z_iastN (n := 414128) C0 hw 1 ((413480 + (8 * k_p)) + k_o) rfl (by omega) (by decide) (dkP dF_79 DX12_calls (i := 34) rfl rfl) (fun H locs hw => ?_)
          refine lv_iload hx hb (dk1 dF_21 DX12_calls (i := 35) rfl rfl rfl) (lv_at hl 0 rfl) ?_
          exact z_iret C0 hr hlk hw (by first | rfl | ((try simp only [lg_cmp_lt, lg_cmp_le, lg_cmp_gt, lg_cmp_ge, lg_cmp_eq] at hc1); (try simp (disch := omega) only [ta_lt, ta_le, ta_eq, tb_lt, tb_le, tb_eq, tw, tnI, tn32 2 (by decide), tnj 2 (by decide), tn32 1 (by decide), tnj 1 (by decide), tl32 0 (by decide), tl64 0 (by decide), tl32 8 (by decide), tl64 8 (by decide), tl32 999 (by decide), tl64 999 (by decide), tl32 413480 (by decide), tl64 413480 (by decide)] at hc1); (try simp only [lg_cmp_lt, lg_cmp_le, lg_cmp_gt, lg_cmp_ge, lg_cmp_eq] at hk_p); (try simp (disch := omega) only [ta_lt, ta_le, ta_eq, tb_lt, tb_le, tb_eq, tw, tnI, tn32 2 (by decide), tnj 2 (by decide), tn32 1 (by decide), tnj 1 (by decide), tl32 0 (by decide), tl64 0 (by decide), tl32 8 (by decide), tl64 8 (by decide), tl32 999 (by decide), tl64 999 (by decide), tl32 413480 (by decide), tl64 413480 (by decide)] at hk_p); (try simp only [lg_cmp_lt, lg_cmp_le, lg_cmp_gt, lg_cmp_ge, lg_cmp_eq] at hc2); (try simp (disch := omega) only [ta_lt, ta_le, ta_eq, tb_lt, tb_le, tb_eq, tw, tnI, tn32 2 (by decide), tnj 2 (by decide), tn32 1 (by decide), tnj 1 (by decide), tl32 0 (by decide), tl64 0 (by decide), tl32 8 (by decide), tl64 8 (by decide), tl32 999 (by decide), tl64 999 (by decide), tl32 413480 (by decide), tl64 413480 (by decide)] at hc2); (try simp only [lg_cmp_lt, lg_cmp_le, lg_cmp_gt, lg_cmp_ge, lg_cmp_eq] at hk_o); (try simp (disch := omega) only [ta_lt, ta_le, ta_eq, tb_lt, tb_le, tb_eq, tw, tnI, tn32 2 (by decide), tnj 2 (by decide), tn32 1 (by decide), tnj 1 (by decide), tl32 0 (by decide), tl64 0 (by decide), tl32 8 (by decide), tl64 8 (by decide), tl32 999 (by decide), tl64 999 (by decide), tl32 413480 (by decide), tl64 413480 (by decide)] at hk_o); (try simp only [lg_cmp_lt, lg_cmp_le, lg_cmp_gt, lg_cmp_ge, lg_cmp_eq] at c3); (try simp (disch := omega) only [ta_lt, ta_le, ta_eq, tb_lt, tb_le, tb_eq, tw, tnI, tn32 2 (by decide), tnj 2 (by decide), tn32 1 (by decide), tnj 1 (by decide), tl32 0 (by decide), tl64 0 (by decide), tl32 8 (by decide), tl64 8 (by decide), tl32 999 (by decide), tl64 999 (by decide), tl32 413480 (by decide), tl64 413480 (by decide)] at c3); (try simp only [lg_cmp_lt, lg_cmp_le, lg_cmp_gt, lg_cmp_ge, lg_cmp_eq] at hc4); (try simp (disch := omega) only [ta_lt, ta_le, ta_eq, tb_lt, tb_le, tb_eq, tw, tnI, tn32 2 (by decide), tnj 2 (by decide), tn32 1 (by decide), tnj 1 (by decide), tl32 0 (by decide), tl64 0 (by decide), tl32 8 (by decide), tl64 8 (by decide), tl32 999 (by decide), tl64 999 (by decide), tl32 413480 (by decide), tl64 413480 (by decide)] at hc4); (try simp (disch := omega) only [tnI, tn32 2 (by decide), tnj 2 (by decide), tn32 1 (by decide), tnj 1 (by decide), tl32 0 (by decide), tl64 0 (by decide), tl32 8 (by decide), tl64 8 (by decide), tl32 999 (by decide), tl64 999 (by decide), tl32 413480 (by decide), tl64 413480 (by decide)]); (repeat' split) <;> first | rfl | omega | (apply Int32.toInt_inj.mp; simp (disch := omega) only [tnI, tn32 2 (by decide), tnj 2 (by decide), tn32 1 (by decide), tnj 1 (by decide), tl32 0 (by decide), tl64 0 (by decide), tl32 8 (by decide), tl64 8 (by decide), tl32 999 (by decide), tl64 999 (by decide), tl32 413480 (by decide), tl64 413480 (by decide)]; omega))) (dkP dF_172 DX12_calls (i := 36) rfl rfl)
        · skip
          refine lv_if_ne (tgt := 36) hx hb (dkS dF_154 DX12_calls (i := 14) rfl rfl rfl) (by decide) (fun h => absurd h (by decide)) (fun _ => ?_)
          refine lv_bipush (v := (-2)) hx hb (dks dF_16 DX12_calls (i := 15) rfl rfl rfl) (by decide) ?_
          exact z_iret C0 hr hlk hw (by first | rfl | ((try simp only [lg_cmp_lt, lg_cmp_le, lg_cmp_gt, lg_cmp_ge, lg_cmp_eq] at hc1); (try simp (disch := omega) only [ta_lt, ta_le, ta_eq, tb_lt, tb_le, tb_eq, tw, tnI, tn32 2 (by decide), tnj 2 (by decide), tn32 1 (by decide), tnj 1 (by decide), tl32 0 (by decide), tl64 0 (by decide), tl32 8 (by decide), tl64 8 (by decide), tl32 999 (by decide), tl64 999 (by decide), tl32 413480 (by decide), tl64 413480 (by decide)] at hc1); (try simp only [lg_cmp_lt, lg_cmp_le, lg_cmp_gt, lg_cmp_ge, lg_cmp_eq] at hk_p); (try simp (disch := omega) only [ta_lt, ta_le, ta_eq, tb_lt, tb_le, tb_eq, tw, tnI, tn32 2 (by decide), tnj 2 (by decide), tn32 1 (by decide), tnj 1 (by decide), tl32 0 (by decide), tl64 0 (by decide), tl32 8 (by decide), tl64 8 (by decide), tl32 999 (by decide), tl64 999 (by decide), tl32 413480 (by decide), tl64 413480 (by decide)] at hk_p); (try simp only [lg_cmp_lt, lg_cmp_le, lg_cmp_gt, lg_cmp_ge, lg_cmp_eq] at hc2); (try simp (disch := omega) only [ta_lt, ta_le, ta_eq, tb_lt, tb_le, tb_eq, tw, tnI, tn32 2 (by decide), tnj 2 (by decide), tn32 1 (by decide), tnj 1 (by decide), tl32 0 (by decide), tl64 0 (by decide), tl32 8 (by decide), tl64 8 (by decide), tl32 999 (by decide), tl64 999 (by decide), tl32 413480 (by decide), tl64 413480 (by decide)] at hc2); (try simp only [lg_cmp_lt, lg_cmp_le, lg_cmp_gt, lg_cmp_ge, lg_cmp_eq] at hk_o); (try simp (disch := omega) only [ta_lt, ta_le, ta_eq, tb_lt, tb_le, tb_eq, tw, tnI, tn32 2 (by decide), tnj 2 (by decide), tn32 1 (by decide), tnj 1 (by decide), tl32 0 (by decide), tl64 0 (by decide), tl32 8 (by decide), tl64 8 (by decide), tl32 999 (by decide), tl64 999 (by decide), tl32 413480 (by decide), tl64 413480 (by decide)] at hk_o); (try simp only [lg_cmp_lt, lg_cmp_le, lg_cmp_gt, lg_cmp_ge, lg_cmp_eq] at c3); (try simp (disch := omega) only [ta_lt, ta_le, ta_eq, tb_lt, tb_le, tb_eq, tw, tnI, tn32 2 (by decide), tnj 2 (by decide), tn32 1 (by decide), tnj 1 (by decide), tl32 0 (by decide), tl64 0 (by decide), tl32 8 (by decide), tl64 8 (by decide), tl32 999 (by decide), tl64 999 (by decide), tl32 413480 (by decide), tl64 413480 (by decide)] at c3); (try simp only [lg_cmp_lt, lg_cmp_le, lg_cmp_gt, lg_cmp_ge, lg_cmp_eq] at hc4); (try simp (disch := omega) only [ta_lt, ta_le, ta_eq, tb_lt, tb_le, tb_eq, tw, tnI, tn32 2 (by decide), tnj 2 (by decide), tn32 1 (by decide), tnj 1 (by decide), tl32 0 (by decide), tl64 0 (by decide), tl32 8 (by decide), tl64 8 (by decide), tl32 999 (by decide), tl64 999 (by decide), tl32 413480 (by decide), tl64 413480 (by decide)] at hc4); (try simp (disch := omega) only [tnI, tn32 2 (by decide), tnj 2 (by decide), tn32 1 (by decide), tnj 1 (by decide), tl32 0 (by decide), tl64 0 (by decide), tl32 8 (by decide), tl64 8 (by decide), tl32 999 (by decide), tl64 999 (by decide), tl32 413480 (by decide), tl64 413480 (by decide)]); (repeat' split) <;> first | rfl | omega | (apply Int32.toInt_inj.mp; simp (disch := omega) only [tnI, tn32 2 (by decide), tnj 2 (by decide), tn32 1 (by decide), tnj 1 (by decide), tl32 0 (by decide), tl64 0 (by decide), tl32 8 (by decide), tl64 8 (by decide), tl32 999 (by decide), tl64 999 (by decide), tl32 413480 (by decide), tl64 413480 (by decide)]; omega))) (dkP dF_172 DX12_calls (i := 16) rfl rfl)
    · skip
      refine lv_if_eq (tgt := 33) hx hb (dkS dF_153 DX12_calls (i := 5) rfl rfl rfl) (by decide) (fun _ => ?_) (fun h => absurd h (by decide))
      refine lv_bipush (v := (-2)) hx hb (dks dF_16 DX12_calls (i := 15) rfl rfl rfl) (by decide) ?_
      exact z_iret C0 hr hlk hw (by first | rfl | ((try simp only [lg_cmp_lt, lg_cmp_le, lg_cmp_gt, lg_cmp_ge, lg_cmp_eq] at hc1); (try simp (disch := omega) only [ta_lt, ta_le, ta_eq, tb_lt, tb_le, tb_eq, tw, tnI, tn32 2 (by decide), tnj 2 (by decide), tn32 1 (by decide), tnj 1 (by decide), tl32 0 (by decide), tl64 0 (by decide), tl32 8 (by decide), tl64 8 (by decide), tl32 999 (by decide), tl64 999 (by decide), tl32 413480 (by decide), tl64 413480 (by decide)] at hc1); (try simp only [lg_cmp_lt, lg_cmp_le, lg_cmp_gt, lg_cmp_ge, lg_cmp_eq] at hk_p); (try simp (disch := omega) only [ta_lt, ta_le, ta_eq, tb_lt, tb_le, tb_eq, tw, tnI, tn32 2 (by decide), tnj 2 (by decide), tn32 1 (by decide), tnj 1 (by decide), tl32 0 (by decide), tl64 0 (by decide), tl32 8 (by decide), tl64 8 (by decide), tl32 999 (by decide), tl64 999 (by decide), tl32 413480 (by decide), tl64 413480 (by decide)] at hk_p); (try simp only [lg_cmp_lt, lg_cmp_le, lg_cmp_gt, lg_cmp_ge, lg_cmp_eq] at hc2); (try simp (disch := omega) only [ta_lt, ta_le, ta_eq, tb_lt, tb_le, tb_eq, tw, tnI, tn32 2 (by decide), tnj 2 (by decide), tn32 1 (by decide), tnj 1 (by decide), tl32 0 (by decide), tl64 0 (by decide), tl32 8 (by decide), tl64 8 (by decide), tl32 999 (by decide), tl64 999 (by decide), tl32 413480 (by decide), tl64 413480 (by decide)] at hc2); (try simp (disch := omega) only [tnI, tn32 2 (by decide), tnj 2 (by decide), tn32 1 (by decide), tnj 1 (by decide), tl32 0 (by decide), tl64 0 (by decide), tl32 8 (by decide), tl64 8 (by decide), tl32 999 (by decide), tl64 999 (by decide), tl32 413480 (by decide), tl64 413480 (by decide)]); (repeat' split) <;> first | rfl | omega | (apply Int32.toInt_inj.mp; simp (disch := omega) only [tnI, tn32 2 (by decide), tnj 2 (by decide), tn32 1 (by decide), tnj 1 (by decide), tl32 0 (by decide), tl64 0 (by decide), tl32 8 (by decide), tl64 8 (by decide), tl32 999 (by decide), tl64 999 (by decide), tl32 413480 (by decide), tl64 413480 (by decide)]; omega))) (dkP dF_172 DX12_calls (i := 16) rfl rfl)
  · skip
    refine lv_if_eq (tgt := 33) hx hb (dkS dF_153 DX12_calls (i := 2) rfl rfl rfl) (by decide) (fun _ => ?_) (fun h => absurd h (by decide))
    refine lv_bipush (v := (-2)) hx hb (dks dF_16 DX12_calls (i := 15) rfl rfl rfl) (by decide) ?_
    exact z_iret C0 hr hlk hw (by first | rfl | ((try simp only [lg_cmp_lt, lg_cmp_le, lg_cmp_gt, lg_cmp_ge, lg_cmp_eq] at hc1); (try simp (disch := omega) only [ta_lt, ta_le, ta_eq, tb_lt, tb_le, tb_eq, tw, tnI, tn32 2 (by decide), tnj 2 (by decide), tn32 1 (by decide), tnj 1 (by decide), tl32 0 (by decide), tl64 0 (by decide), tl32 8 (by decide), tl64 8 (by decide), tl32 999 (by decide), tl64 999 (by decide), tl32 413480 (by decide), tl64 413480 (by decide)] at hc1); (try simp (disch := omega) only [tnI, tn32 2 (by decide), tnj 2 (by decide), tn32 1 (by decide), tnj 1 (by decide), tl32 0 (by decide), tl64 0 (by decide), tl32 8 (by decide), tl64 8 (by decide), tl32 999 (by decide), tl64 999 (by decide), tl32 413480 (by decide), tl64 413480 (by decide)]); (repeat' split) <;> first | rfl | omega | (apply Int32.toInt_inj.mp; simp (disch := omega) only [tnI, tn32 2 (by decide), tnj 2 (by decide), tn32 1 (by decide), tnj 1 (by decide), tl32 0 (by decide), tl64 0 (by decide), tl32 8 (by decide), tl64 8 (by decide), tl32 999 (by decide), tl64 999 (by decide), tl32 413480 (by decide), tl64 413480 (by decide)]; omega))) (dkP dF_172 DX12_calls (i := 16) rfl rfl)
set_option maxRecDepth 100000 in
set_option maxHeartbeats 4000000 in
theorem c_X12_needing (l : Launch) (G : va_G) (kc : Nat → ClassId) (ad : Nat → Nat)  (a : Nat) (ha : a < 8) : MI l G kc yX12_needing cX12_needing 7 (some .int) 1 22 [.ref (ad 0), .int (nI a)] shM ad sM0 (fun r σ1 => r = 0 ∧ σ1 = sM0) := by
  intro sz
  refine z_body (y := yX12_needing) (n := 7) (av := [.ref (ad 0), .int (nI a)]) (Qc := fun A => va_Qi (fun r σ1 => r = 0 ∧ σ1 = sM0) (PoC G kc shM ad A) A) (plainFor_of_name (by decide)) (Nat.le_of_ble_eq_true rfl) (fun pr e s m below meth c A C0 hr hlk hnm hw ls hl => ?_) sz
  have hx := C0.1
  have hb := C0.2.1
  have hown := C0.2.2.2.1
  have hts := C0.2.2.2.2.1
  have hl : lv_has ls 7 [(0, .ref (ad 0)), (1, .int (nI a))] := hl
  refine lv_iconst (v := 0) hx hb (dkP dF_3 DX12_needing (i := 0) rfl rfl) (by decide) ?_
  refine lv_istore_n (lv' := [(2, .int 0), (0, .ref (ad 0)), (1, .int (nI a))]) hx hb (dkP dF_61 DX12_needing (i := 1) rfl rfl) rfl hl (by decide) rfl (fun ls hl => ?_)
  refine lv_iconst (v := 1) hx hb (dkP dF_4 DX12_needing (i := 2) rfl rfl) (by decide) ?_
  refine lv_istore_n (lv' := [(3, .int 1), (2, .int 0), (0, .ref (ad 0)), (1, .int (nI a))]) hx hb (dkP dF_62 DX12_needing (i := 3) rfl rfl) rfl hl (by decide) rfl (fun ls hl => ?_)
  refine lv_iload_n hx hb (dkP dF_29 DX12_needing (i := 4) rfl rfl) rfl (lv_at hl 0 rfl) ?_
  refine lv_if_eq (tgt := 117) hx hb (dkS dF_153 DX12_needing (i := 5) rfl rfl rfl) (by decide) (fun h => absurd h (by decide)) (fun _ => ?_)
  refine lv_iconst (v := 0) hx hb (dkP dF_3 DX12_needing (i := 6) rfl rfl) (by decide) ?_
  refine lv_istore_n (lv' := [(3, .int 0), (2, .int 0), (0, .ref (ad 0)), (1, .int (nI a))]) hx hb (dkP dF_62 DX12_needing (i := 7) rfl rfl) rfl hl (by decide) rfl (fun ls hl => ?_)
  refine lv_iconst (v := 0) hx hb (dkP dF_3 DX12_needing (i := 8) rfl rfl) (by decide) ?_
  refine lv_istore (lv' := [(4, .int 0), (3, .int 0), (2, .int 0), (0, .ref (ad 0)), (1, .int (nI a))]) hx hb (dk1 dF_54 DX12_needing (i := 9) rfl rfl rfl) hl (by decide) rfl (fun ls hl => ?_)
  refine lv_iload hx hb (dk1 dF_21 DX12_needing (i := 10) rfl rfl rfl) (lv_at hl 0 rfl) ?_
  refine lv_bipush (v := 8) hx hb (dks dF_16 DX12_needing (i := 11) rfl rfl rfl) (by decide) ?_
  refine lv_icmp_ge (tgt := 114) hx hb (dkS dF_162 DX12_needing (i := 12) rfl rfl rfl) (by decide) (fun h => absurd h (by decide)) (fun _ => ?_)
  refine lv_iload_n hx hb (dkP dF_28 DX12_needing (i := 13) rfl rfl) rfl (lv_at hl 2 rfl) ?_
  refine lv_iload hx hb (dk1 dF_21 DX12_needing (i := 14) rfl rfl rfl) (lv_at hl 0 rfl) ?_
  refine lv_ishr hx hb (dkP dF_122 DX12_needing (i := 15) rfl rfl) ?_
  refine z_top (y := 0) (by decide) ?_
  refine lv_iconst (v := 1) hx hb (dkP dF_4 DX12_needing (i := 16) rfl rfl) (by decide) ?_
  refine lv_iand hx hb (dkP dF_126 DX12_needing (i := 17) rfl rfl) ?_
  refine z_top (y := 0) (by decide) ?_
  refine lv_iconst (v := 1) hx hb (dkP dF_4 DX12_needing (i := 18) rfl rfl) (by decide) ?_
  refine lv_icmp_ne (tgt := 33) hx hb (dkS dF_160 DX12_needing (i := 19) rfl rfl rfl) (by decide) (fun _ => ?_) (fun h => absurd h (by decide))
  refine lv_aload_n hx hb (dkP dF_42 DX12_needing (i := 21) rfl rfl) rfl (lv_at hl 3 rfl) ?_
  refine lv_iload hx hb (dk1 dF_21 DX12_needing (i := 22) rfl rfl rfl) (lv_at hl 0 rfl) ?_
  refine lv_iload_n hx hb (dkP dF_27 DX12_needing (i := 23) rfl rfl) rfl (lv_at hl 4 rfl) ?_
  refine zk_I hw (zr_V (As := [.int 0, .int (nI a)]) (rest := []) C0 (c_X12_isNeed l G kc ad 0 a (by first | omega | assumption | decide | rfl) (by first | omega | assumption | decide | rfl) _) cv_X12_isNeed lk_X12_455 (zp_V C0 hw 0 rfl rfl rfl) rfl hl.1 rfl ⟨by decide, by decide⟩ (Nat.le_of_ble_eq_true rfl) (dk2 dF_182 DX12_needing (i := 24) rfl rfl rfl) ⟨Nat.le_refl _, Nat.le_refl _⟩) (fun r1 s1 H locs hp hw => ?_)
  obtain ⟨hq1, hs1⟩ := hp
  subst hs1
  rcases hq1 with ⟨rfl, hc1⟩ | ⟨rfl, hc1⟩
  · exact False.elim hc1
  · skip
    refine lv_istore (lv' := [(5, .int 0), (4, .int 0), (3, .int 0), (2, .int 0), (0, .ref (ad 0)), (1, .int (nI a))]) hx hb (dk1 dF_54 DX12_needing (i := 25) rfl rfl rfl) hl (by decide) rfl (fun ls hl => ?_)
    refine lv_iconst (v := 0) hx hb (dkP dF_3 DX12_needing (i := 26) rfl rfl) (by decide) ?_
    refine lv_istore (lv' := [(6, .int 0), (5, .int 0), (4, .int 0), (3, .int 0), (2, .int 0), (0, .ref (ad 0)), (1, .int (nI a))]) hx hb (dk1 dF_54 DX12_needing (i := 27) rfl rfl rfl) hl (by decide) rfl (fun ls hl => ?_)
    refine lv_iload hx hb (dk1 dF_21 DX12_needing (i := 28) rfl rfl rfl) (lv_at hl 0 rfl) ?_
    refine lv_bipush (v := 8) hx hb (dks dF_16 DX12_needing (i := 29) rfl rfl rfl) (by decide) ?_
    refine lv_icmp_ge (tgt := 91) hx hb (dkS dF_162 DX12_needing (i := 30) rfl rfl rfl) (by decide) (fun h => absurd h (by decide)) (fun _ => ?_)
    refine lv_iload hx hb (dk1 dF_21 DX12_needing (i := 31) rfl rfl rfl) (lv_at hl 1 rfl) ?_
    refine lv_if_ne (tgt := 78) hx hb (dkS dF_154 DX12_needing (i := 32) rfl rfl rfl) (by decide) (fun h => absurd h (by decide)) (fun _ => ?_)
    refine lv_iload_n hx hb (dkP dF_28 DX12_needing (i := 33) rfl rfl) rfl (lv_at hl 4 rfl) ?_
    refine lv_iload hx hb (dk1 dF_21 DX12_needing (i := 34) rfl rfl rfl) (lv_at hl 0 rfl) ?_
    refine lv_ishr hx hb (dkP dF_122 DX12_needing (i := 35) rfl rfl) ?_
    refine z_top (y := 0) (by decide) ?_
    refine lv_iconst (v := 1) hx hb (dkP dF_4 DX12_needing (i := 36) rfl rfl) (by decide) ?_
    refine lv_iand hx hb (dkP dF_126 DX12_needing (i := 37) rfl rfl) ?_
    refine z_top (y := 0) (by decide) ?_
    refine lv_iconst (v := 1) hx hb (dkP dF_4 DX12_needing (i := 38) rfl rfl) (by decide) ?_
    refine lv_icmp_ne (tgt := 82) hx hb (dkS dF_160 DX12_needing (i := 39) rfl rfl rfl) (by decide) (fun _ => ?_) (fun h => absurd h (by decide))
    refine lv_iconst (v := 0) hx hb (dkP dF_3 DX12_needing (i := 47) rfl rfl) (by decide) ?_
    refine lv_istore (lv' := [(5, .int 0), (6, .int 0), (4, .int 0), (3, .int 0), (2, .int 0), (0, .ref (ad 0)), (1, .int (nI a))]) hx hb (dk1 dF_54 DX12_needing (i := 48) rfl rfl rfl) hl (by decide) rfl (fun ls hl => ?_)
    refine lv_iinc (v := 1) (lv' := [(6, .int 1), (5, .int 0), (4, .int 0), (3, .int 0), (2, .int 0), (0, .ref (ad 0)), (1, .int (nI a))]) hx hb (dkI DX12_needing (i := 49) rfl rfl rfl rfl) hl (k := 1) rfl (by decide) (by decide) rfl (fun ls hl => ?_)
    refine lv_goto (tgt := 45) hx hb (dkS dF_167 DX12_needing (i := 50) rfl rfl rfl) (by decide) ?_
    refine lv_iload hx hb (dk1 dF_21 DX12_needing (i := 28) rfl rfl rfl) (lv_at hl 0 rfl) ?_
    refine lv_bipush (v := 8) hx hb (dks dF_16 DX12_needing (i := 29) rfl rfl rfl) (by decide) ?_
    refine lv_icmp_ge (tgt := 91) hx hb (dkS dF_162 DX12_needing (i := 30) rfl rfl rfl) (by decide) (fun h => absurd h (by decide)) (fun _ => ?_)
    refine lv_iload hx hb (dk1 dF_21 DX12_needing (i := 31) rfl rfl rfl) (lv_at hl 1 rfl) ?_
    refine lv_if_ne (tgt := 78) hx hb (dkS dF_154 DX12_needing (i := 32) rfl rfl rfl) (by decide) (fun h => absurd h (by decide)) (fun _ => ?_)
    refine lv_iload_n hx hb (dkP dF_28 DX12_needing (i := 33) rfl rfl) rfl (lv_at hl 4 rfl) ?_
    refine lv_iload hx hb (dk1 dF_21 DX12_needing (i := 34) rfl rfl rfl) (lv_at hl 0 rfl) ?_
    refine lv_ishr hx hb (dkP dF_122 DX12_needing (i := 35) rfl rfl) ?_
    refine z_top (y := 0) (by decide) ?_
    refine lv_iconst (v := 1) hx hb (dkP dF_4 DX12_needing (i := 36) rfl rfl) (by decide) ?_
    refine lv_iand hx hb (dkP dF_126 DX12_needing (i := 37) rfl rfl) ?_
    refine z_top (y := 0) (by decide) ?_
    refine lv_iconst (v := 1) hx hb (dkP dF_4 DX12_needing (i := 38) rfl rfl) (by decide) ?_
    refine lv_icmp_ne (tgt := 82) hx hb (dkS dF_160 DX12_needing (i := 39) rfl rfl rfl) (by decide) (fun _ => ?_) (fun h => absurd h (by decide))
    refine lv_iconst (v := 0) hx hb (dkP dF_3 DX12_needing (i := 47) rfl rfl) (by decide) ?_
    refine lv_istore (lv' := [(5, .int 0), (6, .int 1), (4, .int 0), (3, .int 0), (2, .int 0), (0, .ref (ad 0)), (1, .int (nI a))]) hx hb (dk1 dF_54 DX12_needing (i := 48) rfl rfl rfl) hl (by decide) rfl (fun ls hl => ?_)
    refine lv_iinc (v := 2) (lv' := [(6, .int 2), (5, .int 0), (4, .int 0), (3, .int 0), (2, .int 0), (0, .ref (ad 0)), (1, .int (nI a))]) hx hb (dkI DX12_needing (i := 49) rfl rfl rfl rfl) hl (k := 1) rfl (by decide) (by decide) rfl (fun ls hl => ?_)
    refine lv_goto (tgt := 45) hx hb (dkS dF_167 DX12_needing (i := 50) rfl rfl rfl) (by decide) ?_
    refine lv_iload hx hb (dk1 dF_21 DX12_needing (i := 28) rfl rfl rfl) (lv_at hl 0 rfl) ?_
    refine lv_bipush (v := 8) hx hb (dks dF_16 DX12_needing (i := 29) rfl rfl rfl) (by decide) ?_
    refine lv_icmp_ge (tgt := 91) hx hb (dkS dF_162 DX12_needing (i := 30) rfl rfl rfl) (by decide) (fun h => absurd h (by decide)) (fun _ => ?_)
    refine lv_iload hx hb (dk1 dF_21 DX12_needing (i := 31) rfl rfl rfl) (lv_at hl 1 rfl) ?_
    refine lv_if_ne (tgt := 78) hx hb (dkS dF_154 DX12_needing (i := 32) rfl rfl rfl) (by decide) (fun h => absurd h (by decide)) (fun _ => ?_)
    refine lv_iload_n hx hb (dkP dF_28 DX12_needing (i := 33) rfl rfl) rfl (lv_at hl 4 rfl) ?_
    refine lv_iload hx hb (dk1 dF_21 DX12_needing (i := 34) rfl rfl rfl) (lv_at hl 0 rfl) ?_
    refine lv_ishr hx hb (dkP dF_122 DX12_needing (i := 35) rfl rfl) ?_
    refine z_top (y := 0) (by decide) ?_
    refine lv_iconst (v := 1) hx hb (dkP dF_4 DX12_needing (i := 36) rfl rfl) (by decide) ?_
    refine lv_iand hx hb (dkP dF_126 DX12_needing (i := 37) rfl rfl) ?_
    refine z_top (y := 0) (by decide) ?_
    refine lv_iconst (v := 1) hx hb (dkP dF_4 DX12_needing (i := 38) rfl rfl) (by decide) ?_
    refine lv_icmp_ne (tgt := 82) hx hb (dkS dF_160 DX12_needing (i := 39) rfl rfl rfl) (by decide) (fun _ => ?_) (fun h => absurd h (by decide))
    refine lv_iconst (v := 0) hx hb (dkP dF_3 DX12_needing (i := 47) rfl rfl) (by decide) ?_
    refine lv_istore (lv' := [(5, .int 0), (6, .int 2), (4, .int 0), (3, .int 0), (2, .int 0), (0, .ref (ad 0)), (1, .int (nI a))]) hx hb (dk1 dF_54 DX12_needing (i := 48) rfl rfl rfl) hl (by decide) rfl (fun ls hl => ?_)
    refine lv_iinc (v := 3) (lv' := [(6, .int 3), (5, .int 0), (4, .int 0), (3, .int 0), (2, .int 0), (0, .ref (ad 0)), (1, .int (nI a))]) hx hb (dkI DX12_needing (i := 49) rfl rfl rfl rfl) hl (k := 1) rfl (by decide) (by decide) rfl (fun ls hl => ?_)
    refine lv_goto (tgt := 45) hx hb (dkS dF_167 DX12_needing (i := 50) rfl rfl rfl) (by decide) ?_
    refine lv_iload hx hb (dk1 dF_21 DX12_needing (i := 28) rfl rfl rfl) (lv_at hl 0 rfl) ?_
    refine lv_bipush (v := 8) hx hb (dks dF_16 DX12_needing (i := 29) rfl rfl rfl) (by decide) ?_
    refine lv_icmp_ge (tgt := 91) hx hb (dkS dF_162 DX12_needing (i := 30) rfl rfl rfl) (by decide) (fun h => absurd h (by decide)) (fun _ => ?_)
    refine lv_iload hx hb (dk1 dF_21 DX12_needing (i := 31) rfl rfl rfl) (lv_at hl 1 rfl) ?_
    refine lv_if_ne (tgt := 78) hx hb (dkS dF_154 DX12_needing (i := 32) rfl rfl rfl) (by decide) (fun h => absurd h (by decide)) (fun _ => ?_)
    refine lv_iload_n hx hb (dkP dF_28 DX12_needing (i := 33) rfl rfl) rfl (lv_at hl 4 rfl) ?_
    refine lv_iload hx hb (dk1 dF_21 DX12_needing (i := 34) rfl rfl rfl) (lv_at hl 0 rfl) ?_
    refine lv_ishr hx hb (dkP dF_122 DX12_needing (i := 35) rfl rfl) ?_
    refine z_top (y := 0) (by decide) ?_
    refine lv_iconst (v := 1) hx hb (dkP dF_4 DX12_needing (i := 36) rfl rfl) (by decide) ?_
    refine lv_iand hx hb (dkP dF_126 DX12_needing (i := 37) rfl rfl) ?_
    refine z_top (y := 0) (by decide) ?_
    refine lv_iconst (v := 1) hx hb (dkP dF_4 DX12_needing (i := 38) rfl rfl) (by decide) ?_
    refine lv_icmp_ne (tgt := 82) hx hb (dkS dF_160 DX12_needing (i := 39) rfl rfl rfl) (by decide) (fun _ => ?_) (fun h => absurd h (by decide))
    refine lv_iconst (v := 0) hx hb (dkP dF_3 DX12_needing (i := 47) rfl rfl) (by decide) ?_
    refine lv_istore (lv' := [(5, .int 0), (6, .int 3), (4, .int 0), (3, .int 0), (2, .int 0), (0, .ref (ad 0)), (1, .int (nI a))]) hx hb (dk1 dF_54 DX12_needing (i := 48) rfl rfl rfl) hl (by decide) rfl (fun ls hl => ?_)
    refine lv_iinc (v := 4) (lv' := [(6, .int 4), (5, .int 0), (4, .int 0), (3, .int 0), (2, .int 0), (0, .ref (ad 0)), (1, .int (nI a))]) hx hb (dkI DX12_needing (i := 49) rfl rfl rfl rfl) hl (k := 1) rfl (by decide) (by decide) rfl (fun ls hl => ?_)
    refine lv_goto (tgt := 45) hx hb (dkS dF_167 DX12_needing (i := 50) rfl rfl rfl) (by decide) ?_
    refine lv_iload hx hb (dk1 dF_21 DX12_needing (i := 28) rfl rfl rfl) (lv_at hl 0 rfl) ?_
    refine lv_bipush (v := 8) hx hb (dks dF_16 DX12_needing (i := 29) rfl rfl rfl) (by decide) ?_
    refine lv_icmp_ge (tgt := 91) hx hb (dkS dF_162 DX12_needing (i := 30) rfl rfl rfl) (by decide) (fun h => absurd h (by decide)) (fun _ => ?_)
    refine lv_iload hx hb (dk1 dF_21 DX12_needing (i := 31) rfl rfl rfl) (lv_at hl 1 rfl) ?_
    refine lv_if_ne (tgt := 78) hx hb (dkS dF_154 DX12_needing (i := 32) rfl rfl rfl) (by decide) (fun h => absurd h (by decide)) (fun _ => ?_)
    refine lv_iload_n hx hb (dkP dF_28 DX12_needing (i := 33) rfl rfl) rfl (lv_at hl 4 rfl) ?_
    refine lv_iload hx hb (dk1 dF_21 DX12_needing (i := 34) rfl rfl rfl) (lv_at hl 0 rfl) ?_
    refine lv_ishr hx hb (dkP dF_122 DX12_needing (i := 35) rfl rfl) ?_
    refine z_top (y := 0) (by decide) ?_
    refine lv_iconst (v := 1) hx hb (dkP dF_4 DX12_needing (i := 36) rfl rfl) (by decide) ?_
    refine lv_iand hx hb (dkP dF_126 DX12_needing (i := 37) rfl rfl) ?_
    refine z_top (y := 0) (by decide) ?_
    refine lv_iconst (v := 1) hx hb (dkP dF_4 DX12_needing (i := 38) rfl rfl) (by decide) ?_
    refine lv_icmp_ne (tgt := 82) hx hb (dkS dF_160 DX12_needing (i := 39) rfl rfl rfl) (by decide) (fun _ => ?_) (fun h => absurd h (by decide))
    refine lv_iconst (v := 0) hx hb (dkP dF_3 DX12_needing (i := 47) rfl rfl) (by decide) ?_
    refine lv_istore (lv' := [(5, .int 0), (6, .int 4), (4, .int 0), (3, .int 0), (2, .int 0), (0, .ref (ad 0)), (1, .int (nI a))]) hx hb (dk1 dF_54 DX12_needing (i := 48) rfl rfl rfl) hl (by decide) rfl (fun ls hl => ?_)
    refine lv_iinc (v := 5) (lv' := [(6, .int 5), (5, .int 0), (4, .int 0), (3, .int 0), (2, .int 0), (0, .ref (ad 0)), (1, .int (nI a))]) hx hb (dkI DX12_needing (i := 49) rfl rfl rfl rfl) hl (k := 1) rfl (by decide) (by decide) rfl (fun ls hl => ?_)
    refine lv_goto (tgt := 45) hx hb (dkS dF_167 DX12_needing (i := 50) rfl rfl rfl) (by decide) ?_
    refine lv_iload hx hb (dk1 dF_21 DX12_needing (i := 28) rfl rfl rfl) (lv_at hl 0 rfl) ?_
    refine lv_bipush (v := 8) hx hb (dks dF_16 DX12_needing (i := 29) rfl rfl rfl) (by decide) ?_
    refine lv_icmp_ge (tgt := 91) hx hb (dkS dF_162 DX12_needing (i := 30) rfl rfl rfl) (by decide) (fun h => absurd h (by decide)) (fun _ => ?_)
    refine lv_iload hx hb (dk1 dF_21 DX12_needing (i := 31) rfl rfl rfl) (lv_at hl 1 rfl) ?_
    refine lv_if_ne (tgt := 78) hx hb (dkS dF_154 DX12_needing (i := 32) rfl rfl rfl) (by decide) (fun h => absurd h (by decide)) (fun _ => ?_)
    refine lv_iload_n hx hb (dkP dF_28 DX12_needing (i := 33) rfl rfl) rfl (lv_at hl 4 rfl) ?_
    refine lv_iload hx hb (dk1 dF_21 DX12_needing (i := 34) rfl rfl rfl) (lv_at hl 0 rfl) ?_
    refine lv_ishr hx hb (dkP dF_122 DX12_needing (i := 35) rfl rfl) ?_
    refine z_top (y := 0) (by decide) ?_
    refine lv_iconst (v := 1) hx hb (dkP dF_4 DX12_needing (i := 36) rfl rfl) (by decide) ?_
    refine lv_iand hx hb (dkP dF_126 DX12_needing (i := 37) rfl rfl) ?_
    refine z_top (y := 0) (by decide) ?_
    refine lv_iconst (v := 1) hx hb (dkP dF_4 DX12_needing (i := 38) rfl rfl) (by decide) ?_
    refine lv_icmp_ne (tgt := 82) hx hb (dkS dF_160 DX12_needing (i := 39) rfl rfl rfl) (by decide) (fun _ => ?_) (fun h => absurd h (by decide))
    refine lv_iconst (v := 0) hx hb (dkP dF_3 DX12_needing (i := 47) rfl rfl) (by decide) ?_
    refine lv_istore (lv' := [(5, .int 0), (6, .int 5), (4, .int 0), (3, .int 0), (2, .int 0), (0, .ref (ad 0)), (1, .int (nI a))]) hx hb (dk1 dF_54 DX12_needing (i := 48) rfl rfl rfl) hl (by decide) rfl (fun ls hl => ?_)
    refine lv_iinc (v := 6) (lv' := [(6, .int 6), (5, .int 0), (4, .int 0), (3, .int 0), (2, .int 0), (0, .ref (ad 0)), (1, .int (nI a))]) hx hb (dkI DX12_needing (i := 49) rfl rfl rfl rfl) hl (k := 1) rfl (by decide) (by decide) rfl (fun ls hl => ?_)
    refine lv_goto (tgt := 45) hx hb (dkS dF_167 DX12_needing (i := 50) rfl rfl rfl) (by decide) ?_
    refine lv_iload hx hb (dk1 dF_21 DX12_needing (i := 28) rfl rfl rfl) (lv_at hl 0 rfl) ?_
    refine lv_bipush (v := 8) hx hb (dks dF_16 DX12_needing (i := 29) rfl rfl rfl) (by decide) ?_
    refine lv_icmp_ge (tgt := 91) hx hb (dkS dF_162 DX12_needing (i := 30) rfl rfl rfl) (by decide) (fun h => absurd h (by decide)) (fun _ => ?_)
    refine lv_iload hx hb (dk1 dF_21 DX12_needing (i := 31) rfl rfl rfl) (lv_at hl 1 rfl) ?_
    refine lv_if_ne (tgt := 78) hx hb (dkS dF_154 DX12_needing (i := 32) rfl rfl rfl) (by decide) (fun h => absurd h (by decide)) (fun _ => ?_)
    refine lv_iload_n hx hb (dkP dF_28 DX12_needing (i := 33) rfl rfl) rfl (lv_at hl 4 rfl) ?_
    refine lv_iload hx hb (dk1 dF_21 DX12_needing (i := 34) rfl rfl rfl) (lv_at hl 0 rfl) ?_
    refine lv_ishr hx hb (dkP dF_122 DX12_needing (i := 35) rfl rfl) ?_
    refine z_top (y := 0) (by decide) ?_
    refine lv_iconst (v := 1) hx hb (dkP dF_4 DX12_needing (i := 36) rfl rfl) (by decide) ?_
    refine lv_iand hx hb (dkP dF_126 DX12_needing (i := 37) rfl rfl) ?_
    refine z_top (y := 0) (by decide) ?_
    refine lv_iconst (v := 1) hx hb (dkP dF_4 DX12_needing (i := 38) rfl rfl) (by decide) ?_
    refine lv_icmp_ne (tgt := 82) hx hb (dkS dF_160 DX12_needing (i := 39) rfl rfl rfl) (by decide) (fun _ => ?_) (fun h => absurd h (by decide))
    refine lv_iconst (v := 0) hx hb (dkP dF_3 DX12_needing (i := 47) rfl rfl) (by decide) ?_
    refine lv_istore (lv' := [(5, .int 0), (6, .int 6), (4, .int 0), (3, .int 0), (2, .int 0), (0, .ref (ad 0)), (1, .int (nI a))]) hx hb (dk1 dF_54 DX12_needing (i := 48) rfl rfl rfl) hl (by decide) rfl (fun ls hl => ?_)
    refine lv_iinc (v := 7) (lv' := [(6, .int 7), (5, .int 0), (4, .int 0), (3, .int 0), (2, .int 0), (0, .ref (ad 0)), (1, .int (nI a))]) hx hb (dkI DX12_needing (i := 49) rfl rfl rfl rfl) hl (k := 1) rfl (by decide) (by decide) rfl (fun ls hl => ?_)
    refine lv_goto (tgt := 45) hx hb (dkS dF_167 DX12_needing (i := 50) rfl rfl rfl) (by decide) ?_
    refine lv_iload hx hb (dk1 dF_21 DX12_needing (i := 28) rfl rfl rfl) (lv_at hl 0 rfl) ?_
    refine lv_bipush (v := 8) hx hb (dks dF_16 DX12_needing (i := 29) rfl rfl rfl) (by decide) ?_
    refine lv_icmp_ge (tgt := 91) hx hb (dkS dF_162 DX12_needing (i := 30) rfl rfl rfl) (by decide) (fun h => absurd h (by decide)) (fun _ => ?_)
    refine lv_iload hx hb (dk1 dF_21 DX12_needing (i := 31) rfl rfl rfl) (lv_at hl 1 rfl) ?_
    refine lv_if_ne (tgt := 78) hx hb (dkS dF_154 DX12_needing (i := 32) rfl rfl rfl) (by decide) (fun h => absurd h (by decide)) (fun _ => ?_)
    refine lv_iload_n hx hb (dkP dF_28 DX12_needing (i := 33) rfl rfl) rfl (lv_at hl 4 rfl) ?_
    refine lv_iload hx hb (dk1 dF_21 DX12_needing (i := 34) rfl rfl rfl) (lv_at hl 0 rfl) ?_
    refine lv_ishr hx hb (dkP dF_122 DX12_needing (i := 35) rfl rfl) ?_
    refine z_top (y := 0) (by decide) ?_
    refine lv_iconst (v := 1) hx hb (dkP dF_4 DX12_needing (i := 36) rfl rfl) (by decide) ?_
    refine lv_iand hx hb (dkP dF_126 DX12_needing (i := 37) rfl rfl) ?_
    refine z_top (y := 0) (by decide) ?_
    refine lv_iconst (v := 1) hx hb (dkP dF_4 DX12_needing (i := 38) rfl rfl) (by decide) ?_
    refine lv_icmp_ne (tgt := 82) hx hb (dkS dF_160 DX12_needing (i := 39) rfl rfl rfl) (by decide) (fun _ => ?_) (fun h => absurd h (by decide))
    refine lv_iconst (v := 0) hx hb (dkP dF_3 DX12_needing (i := 47) rfl rfl) (by decide) ?_
    refine lv_istore (lv' := [(5, .int 0), (6, .int 7), (4, .int 0), (3, .int 0), (2, .int 0), (0, .ref (ad 0)), (1, .int (nI a))]) hx hb (dk1 dF_54 DX12_needing (i := 48) rfl rfl rfl) hl (by decide) rfl (fun ls hl => ?_)
    refine lv_iinc (v := 8) (lv' := [(6, .int 8), (5, .int 0), (4, .int 0), (3, .int 0), (2, .int 0), (0, .ref (ad 0)), (1, .int (nI a))]) hx hb (dkI DX12_needing (i := 49) rfl rfl rfl rfl) hl (k := 1) rfl (by decide) (by decide) rfl (fun ls hl => ?_)
    refine lv_goto (tgt := 45) hx hb (dkS dF_167 DX12_needing (i := 50) rfl rfl rfl) (by decide) ?_
    refine lv_iload hx hb (dk1 dF_21 DX12_needing (i := 28) rfl rfl rfl) (lv_at hl 0 rfl) ?_
    refine lv_bipush (v := 8) hx hb (dks dF_16 DX12_needing (i := 29) rfl rfl rfl) (by decide) ?_
    refine lv_icmp_ge (tgt := 91) hx hb (dkS dF_162 DX12_needing (i := 30) rfl rfl rfl) (by decide) (fun _ => ?_) (fun h => absurd h (by decide))
    refine lv_iload hx hb (dk1 dF_21 DX12_needing (i := 51) rfl rfl rfl) (lv_at hl 1 rfl) ?_
    refine lv_if_ne (tgt := 99) hx hb (dkS dF_154 DX12_needing (i := 52) rfl rfl rfl) (by decide) (fun h => absurd h (by decide)) (fun _ => ?_)
    refine lv_goto (tgt := 108) hx hb (dkS dF_167 DX12_needing (i := 53) rfl rfl rfl) (by decide) ?_
    refine lv_iinc (v := 1) (lv' := [(4, .int 1), (6, .int 8), (5, .int 0), (3, .int 0), (2, .int 0), (0, .ref (ad 0)), (1, .int (nI a))]) hx hb (dkI DX12_needing (i := 62) rfl rfl rfl rfl) hl (k := 2) rfl (by decide) (by decide) rfl (fun ls hl => ?_)
    refine lv_goto (tgt := 13) hx hb (dkS dF_167 DX12_needing (i := 63) rfl rfl rfl) (by decide) ?_
    refine lv_iload hx hb (dk1 dF_21 DX12_needing (i := 10) rfl rfl rfl) (lv_at hl 0 rfl) ?_
    refine lv_bipush (v := 8) hx hb (dks dF_16 DX12_needing (i := 11) rfl rfl rfl) (by decide) ?_
    refine lv_icmp_ge (tgt := 114) hx hb (dkS dF_162 DX12_needing (i := 12) rfl rfl rfl) (by decide) (fun h => absurd h (by decide)) (fun _ => ?_)
    refine lv_iload_n hx hb (dkP dF_28 DX12_needing (i := 13) rfl rfl) rfl (lv_at hl 4 rfl) ?_
    refine lv_iload hx hb (dk1 dF_21 DX12_needing (i := 14) rfl rfl rfl) (lv_at hl 0 rfl) ?_
    refine lv_ishr hx hb (dkP dF_122 DX12_needing (i := 15) rfl rfl) ?_
    refine z_top (y := 0) (by decide) ?_
    refine lv_iconst (v := 1) hx hb (dkP dF_4 DX12_needing (i := 16) rfl rfl) (by decide) ?_
    refine lv_iand hx hb (dkP dF_126 DX12_needing (i := 17) rfl rfl) ?_
    refine z_top (y := 0) (by decide) ?_
    refine lv_iconst (v := 1) hx hb (dkP dF_4 DX12_needing (i := 18) rfl rfl) (by decide) ?_
    refine lv_icmp_ne (tgt := 33) hx hb (dkS dF_160 DX12_needing (i := 19) rfl rfl rfl) (by decide) (fun _ => ?_) (fun h => absurd h (by decide))
    refine lv_aload_n hx hb (dkP dF_42 DX12_needing (i := 21) rfl rfl) rfl (lv_at hl 5 rfl) ?_
    refine lv_iload hx hb (dk1 dF_21 DX12_needing (i := 22) rfl rfl rfl) (lv_at hl 0 rfl) ?_
    refine lv_iload_n hx hb (dkP dF_27 DX12_needing (i := 23) rfl rfl) rfl (lv_at hl 6 rfl) ?_
    refine zk_I hw (zr_V (As := [.int 1, .int (nI a)]) (rest := []) C0 (c_X12_isNeed l G kc ad 1 a (by first | omega | assumption | decide | rfl) (by first | omega | assumption | decide | rfl) _) cv_X12_isNeed lk_X12_455 (zp_V C0 hw 0 rfl rfl rfl) rfl hl.1 rfl ⟨by decide, by decide⟩ (Nat.le_of_ble_eq_true rfl) (dk2 dF_182 DX12_needing (i := 24) rfl rfl rfl) ⟨Nat.le_refl _, Nat.le_refl _⟩) (fun r2 s2 H locs hp hw => ?_)
    obtain ⟨hq2, hs2⟩ := hp
    subst hs2
    rcases hq2 with ⟨rfl, hc2⟩ | ⟨rfl, hc2⟩
    · exact False.elim hc2
    · skip
      refine lv_istore (lv' := [(5, .int 0), (4, .int 1), (6, .int 8), (3, .int 0), (2, .int 0), (0, .ref (ad 0)), (1, .int (nI a))]) hx hb (dk1 dF_54 DX12_needing (i := 25) rfl rfl rfl) hl (by decide) rfl (fun ls hl => ?_)
      refine lv_iconst (v := 0) hx hb (dkP dF_3 DX12_needing (i := 26) rfl rfl) (by decide) ?_
      refine lv_istore (lv' := [(6, .int 0), (5, .int 0), (4, .int 1), (3, .int 0), (2, .int 0), (0, .ref (ad 0)), (1, .int (nI a))]) hx hb (dk1 dF_54 DX12_needing (i := 27) rfl rfl rfl) hl (by decide) rfl (fun ls hl => ?_)
      refine lv_iload hx hb (dk1 dF_21 DX12_needing (i := 28) rfl rfl rfl) (lv_at hl 0 rfl) ?_
      refine lv_bipush (v := 8) hx hb (dks dF_16 DX12_needing (i := 29) rfl rfl rfl) (by decide) ?_
      refine lv_icmp_ge (tgt := 91) hx hb (dkS dF_162 DX12_needing (i := 30) rfl rfl rfl) (by decide) (fun h => absurd h (by decide)) (fun _ => ?_)
      refine lv_iload hx hb (dk1 dF_21 DX12_needing (i := 31) rfl rfl rfl) (lv_at hl 1 rfl) ?_
      refine lv_if_ne (tgt := 78) hx hb (dkS dF_154 DX12_needing (i := 32) rfl rfl rfl) (by decide) (fun h => absurd h (by decide)) (fun _ => ?_)
      refine lv_iload_n hx hb (dkP dF_28 DX12_needing (i := 33) rfl rfl) rfl (lv_at hl 4 rfl) ?_
      refine lv_iload hx hb (dk1 dF_21 DX12_needing (i := 34) rfl rfl rfl) (lv_at hl 0 rfl) ?_
      refine lv_ishr hx hb (dkP dF_122 DX12_needing (i := 35) rfl rfl) ?_
      refine z_top (y := 0) (by decide) ?_
      refine lv_iconst (v := 1) hx hb (dkP dF_4 DX12_needing (i := 36) rfl rfl) (by decide) ?_
      refine lv_iand hx hb (dkP dF_126 DX12_needing (i := 37) rfl rfl) ?_
      refine z_top (y := 0) (by decide) ?_
      refine lv_iconst (v := 1) hx hb (dkP dF_4 DX12_needing (i := 38) rfl rfl) (by decide) ?_
      refine lv_icmp_ne (tgt := 82) hx hb (dkS dF_160 DX12_needing (i := 39) rfl rfl rfl) (by decide) (fun _ => ?_) (fun h => absurd h (by decide))
      refine lv_iconst (v := 0) hx hb (dkP dF_3 DX12_needing (i := 47) rfl rfl) (by decide) ?_
      refine lv_istore (lv' := [(5, .int 0), (6, .int 0), (4, .int 1), (3, .int 0), (2, .int 0), (0, .ref (ad 0)), (1, .int (nI a))]) hx hb (dk1 dF_54 DX12_needing (i := 48) rfl rfl rfl) hl (by decide) rfl (fun ls hl => ?_)
      refine lv_iinc (v := 1) (lv' := [(6, .int 1), (5, .int 0), (4, .int 1), (3, .int 0), (2, .int 0), (0, .ref (ad 0)), (1, .int (nI a))]) hx hb (dkI DX12_needing (i := 49) rfl rfl rfl rfl) hl (k := 1) rfl (by decide) (by decide) rfl (fun ls hl => ?_)
      refine lv_goto (tgt := 45) hx hb (dkS dF_167 DX12_needing (i := 50) rfl rfl rfl) (by decide) ?_
      refine lv_iload hx hb (dk1 dF_21 DX12_needing (i := 28) rfl rfl rfl) (lv_at hl 0 rfl) ?_
      refine lv_bipush (v := 8) hx hb (dks dF_16 DX12_needing (i := 29) rfl rfl rfl) (by decide) ?_
      refine lv_icmp_ge (tgt := 91) hx hb (dkS dF_162 DX12_needing (i := 30) rfl rfl rfl) (by decide) (fun h => absurd h (by decide)) (fun _ => ?_)
      refine lv_iload hx hb (dk1 dF_21 DX12_needing (i := 31) rfl rfl rfl) (lv_at hl 1 rfl) ?_
      refine lv_if_ne (tgt := 78) hx hb (dkS dF_154 DX12_needing (i := 32) rfl rfl rfl) (by decide) (fun h => absurd h (by decide)) (fun _ => ?_)
      refine lv_iload_n hx hb (dkP dF_28 DX12_needing (i := 33) rfl rfl) rfl (lv_at hl 4 rfl) ?_
      refine lv_iload hx hb (dk1 dF_21 DX12_needing (i := 34) rfl rfl rfl) (lv_at hl 0 rfl) ?_
      refine lv_ishr hx hb (dkP dF_122 DX12_needing (i := 35) rfl rfl) ?_
      refine z_top (y := 0) (by decide) ?_
      refine lv_iconst (v := 1) hx hb (dkP dF_4 DX12_needing (i := 36) rfl rfl) (by decide) ?_
      refine lv_iand hx hb (dkP dF_126 DX12_needing (i := 37) rfl rfl) ?_
      refine z_top (y := 0) (by decide) ?_
      refine lv_iconst (v := 1) hx hb (dkP dF_4 DX12_needing (i := 38) rfl rfl) (by decide) ?_
      refine lv_icmp_ne (tgt := 82) hx hb (dkS dF_160 DX12_needing (i := 39) rfl rfl rfl) (by decide) (fun _ => ?_) (fun h => absurd h (by decide))
      refine lv_iconst (v := 0) hx hb (dkP dF_3 DX12_needing (i := 47) rfl rfl) (by decide) ?_
      refine lv_istore (lv' := [(5, .int 0), (6, .int 1), (4, .int 1), (3, .int 0), (2, .int 0), (0, .ref (ad 0)), (1, .int (nI a))]) hx hb (dk1 dF_54 DX12_needing (i := 48) rfl rfl rfl) hl (by decide) rfl (fun ls hl => ?_)
      refine lv_iinc (v := 2) (lv' := [(6, .int 2), (5, .int 0), (4, .int 1), (3, .int 0), (2, .int 0), (0, .ref (ad 0)), (1, .int (nI a))]) hx hb (dkI DX12_needing (i := 49) rfl rfl rfl rfl) hl (k := 1) rfl (by decide) (by decide) rfl (fun ls hl => ?_)
      refine lv_goto (tgt := 45) hx hb (dkS dF_167 DX12_needing (i := 50) rfl rfl rfl) (by decide) ?_
      refine lv_iload hx hb (dk1 dF_21 DX12_needing (i := 28) rfl rfl rfl) (lv_at hl 0 rfl) ?_
      refine lv_bipush (v := 8) hx hb (dks dF_16 DX12_needing (i := 29) rfl rfl rfl) (by decide) ?_
      refine lv_icmp_ge (tgt := 91) hx hb (dkS dF_162 DX12_needing (i := 30) rfl rfl rfl) (by decide) (fun h => absurd h (by decide)) (fun _ => ?_)
      refine lv_iload hx hb (dk1 dF_21 DX12_needing (i := 31) rfl rfl rfl) (lv_at hl 1 rfl) ?_
      refine lv_if_ne (tgt := 78) hx hb (dkS dF_154 DX12_needing (i := 32) rfl rfl rfl) (by decide) (fun h => absurd h (by decide)) (fun _ => ?_)
      refine lv_iload_n hx hb (dkP dF_28 DX12_needing (i := 33) rfl rfl) rfl (lv_at hl 4 rfl) ?_
      refine lv_iload hx hb (dk1 dF_21 DX12_needing (i := 34) rfl rfl rfl) (lv_at hl 0 rfl) ?_
      refine lv_ishr hx hb (dkP dF_122 DX12_needing (i := 35) rfl rfl) ?_
      refine z_top (y := 0) (by decide) ?_
      refine lv_iconst (v := 1) hx hb (dkP dF_4 DX12_needing (i := 36) rfl rfl) (by decide) ?_
      refine lv_iand hx hb (dkP dF_126 DX12_needing (i := 37) rfl rfl) ?_
      refine z_top (y := 0) (by decide) ?_
      refine lv_iconst (v := 1) hx hb (dkP dF_4 DX12_needing (i := 38) rfl rfl) (by decide) ?_
      refine lv_icmp_ne (tgt := 82) hx hb (dkS dF_160 DX12_needing (i := 39) rfl rfl rfl) (by decide) (fun _ => ?_) (fun h => absurd h (by decide))
      refine lv_iconst (v := 0) hx hb (dkP dF_3 DX12_needing (i := 47) rfl rfl) (by decide) ?_
      refine lv_istore (lv' := [(5, .int 0), (6, .int 2), (4, .int 1), (3, .int 0), (2, .int 0), (0, .ref (ad 0)), (1, .int (nI a))]) hx hb (dk1 dF_54 DX12_needing (i := 48) rfl rfl rfl) hl (by decide) rfl (fun ls hl => ?_)
      refine lv_iinc (v := 3) (lv' := [(6, .int 3), (5, .int 0), (4, .int 1), (3, .int 0), (2, .int 0), (0, .ref (ad 0)), (1, .int (nI a))]) hx hb (dkI DX12_needing (i := 49) rfl rfl rfl rfl) hl (k := 1) rfl (by decide) (by decide) rfl (fun ls hl => ?_)
      refine lv_goto (tgt := 45) hx hb (dkS dF_167 DX12_needing (i := 50) rfl rfl rfl) (by decide) ?_
      refine lv_iload hx hb (dk1 dF_21 DX12_needing (i := 28) rfl rfl rfl) (lv_at hl 0 rfl) ?_
      refine lv_bipush (v := 8) hx hb (dks dF_16 DX12_needing (i := 29) rfl rfl rfl) (by decide) ?_
      refine lv_icmp_ge (tgt := 91) hx hb (dkS dF_162 DX12_needing (i := 30) rfl rfl rfl) (by decide) (fun h => absurd h (by decide)) (fun _ => ?_)
      refine lv_iload hx hb (dk1 dF_21 DX12_needing (i := 31) rfl rfl rfl) (lv_at hl 1 rfl) ?_
      refine lv_if_ne (tgt := 78) hx hb (dkS dF_154 DX12_needing (i := 32) rfl rfl rfl) (by decide) (fun h => absurd h (by decide)) (fun _ => ?_)
      refine lv_iload_n hx hb (dkP dF_28 DX12_needing (i := 33) rfl rfl) rfl (lv_at hl 4 rfl) ?_
      refine lv_iload hx hb (dk1 dF_21 DX12_needing (i := 34) rfl rfl rfl) (lv_at hl 0 rfl) ?_
      refine lv_ishr hx hb (dkP dF_122 DX12_needing (i := 35) rfl rfl) ?_
      refine z_top (y := 0) (by decide) ?_
      refine lv_iconst (v := 1) hx hb (dkP dF_4 DX12_needing (i := 36) rfl rfl) (by decide) ?_
      refine lv_iand hx hb (dkP dF_126 DX12_needing (i := 37) rfl rfl) ?_
      refine z_top (y := 0) (by decide) ?_
      refine lv_iconst (v := 1) hx hb (dkP dF_4 DX12_needing (i := 38) rfl rfl) (by decide) ?_
      refine lv_icmp_ne (tgt := 82) hx hb (dkS dF_160 DX12_needing (i := 39) rfl rfl rfl) (by decide) (fun _ => ?_) (fun h => absurd h (by decide))
      refine lv_iconst (v := 0) hx hb (dkP dF_3 DX12_needing (i := 47) rfl rfl) (by decide) ?_
      refine lv_istore (lv' := [(5, .int 0), (6, .int 3), (4, .int 1), (3, .int 0), (2, .int 0), (0, .ref (ad 0)), (1, .int (nI a))]) hx hb (dk1 dF_54 DX12_needing (i := 48) rfl rfl rfl) hl (by decide) rfl (fun ls hl => ?_)
      refine lv_iinc (v := 4) (lv' := [(6, .int 4), (5, .int 0), (4, .int 1), (3, .int 0), (2, .int 0), (0, .ref (ad 0)), (1, .int (nI a))]) hx hb (dkI DX12_needing (i := 49) rfl rfl rfl rfl) hl (k := 1) rfl (by decide) (by decide) rfl (fun ls hl => ?_)
      refine lv_goto (tgt := 45) hx hb (dkS dF_167 DX12_needing (i := 50) rfl rfl rfl) (by decide) ?_
      refine lv_iload hx hb (dk1 dF_21 DX12_needing (i := 28) rfl rfl rfl) (lv_at hl 0 rfl) ?_
      refine lv_bipush (v := 8) hx hb (dks dF_16 DX12_needing (i := 29) rfl rfl rfl) (by decide) ?_
      refine lv_icmp_ge (tgt := 91) hx hb (dkS dF_162 DX12_needing (i := 30) rfl rfl rfl) (by decide) (fun h => absurd h (by decide)) (fun _ => ?_)
      refine lv_iload hx hb (dk1 dF_21 DX12_needing (i := 31) rfl rfl rfl) (lv_at hl 1 rfl) ?_
      refine lv_if_ne (tgt := 78) hx hb (dkS dF_154 DX12_needing (i := 32) rfl rfl rfl) (by decide) (fun h => absurd h (by decide)) (fun _ => ?_)
      refine lv_iload_n hx hb (dkP dF_28 DX12_needing (i := 33) rfl rfl) rfl (lv_at hl 4 rfl) ?_
      refine lv_iload hx hb (dk1 dF_21 DX12_needing (i := 34) rfl rfl rfl) (lv_at hl 0 rfl) ?_
      refine lv_ishr hx hb (dkP dF_122 DX12_needing (i := 35) rfl rfl) ?_
      refine z_top (y := 0) (by decide) ?_
      refine lv_iconst (v := 1) hx hb (dkP dF_4 DX12_needing (i := 36) rfl rfl) (by decide) ?_
      refine lv_iand hx hb (dkP dF_126 DX12_needing (i := 37) rfl rfl) ?_
      refine z_top (y := 0) (by decide) ?_
      refine lv_iconst (v := 1) hx hb (dkP dF_4 DX12_needing (i := 38) rfl rfl) (by decide) ?_
      refine lv_icmp_ne (tgt := 82) hx hb (dkS dF_160 DX12_needing (i := 39) rfl rfl rfl) (by decide) (fun _ => ?_) (fun h => absurd h (by decide))
      refine lv_iconst (v := 0) hx hb (dkP dF_3 DX12_needing (i := 47) rfl rfl) (by decide) ?_
      refine lv_istore (lv' := [(5, .int 0), (6, .int 4), (4, .int 1), (3, .int 0), (2, .int 0), (0, .ref (ad 0)), (1, .int (nI a))]) hx hb (dk1 dF_54 DX12_needing (i := 48) rfl rfl rfl) hl (by decide) rfl (fun ls hl => ?_)
      refine lv_iinc (v := 5) (lv' := [(6, .int 5), (5, .int 0), (4, .int 1), (3, .int 0), (2, .int 0), (0, .ref (ad 0)), (1, .int (nI a))]) hx hb (dkI DX12_needing (i := 49) rfl rfl rfl rfl) hl (k := 1) rfl (by decide) (by decide) rfl (fun ls hl => ?_)
      refine lv_goto (tgt := 45) hx hb (dkS dF_167 DX12_needing (i := 50) rfl rfl rfl) (by decide) ?_
      refine lv_iload hx hb (dk1 dF_21 DX12_needing (i := 28) rfl rfl rfl) (lv_at hl 0 rfl) ?_
      refine lv_bipush (v := 8) hx hb (dks dF_16 DX12_needing (i := 29) rfl rfl rfl) (by decide) ?_
      refine lv_icmp_ge (tgt := 91) hx hb (dkS dF_162 DX12_needing (i := 30) rfl rfl rfl) (by decide) (fun h => absurd h (by decide)) (fun _ => ?_)
      refine lv_iload hx hb (dk1 dF_21 DX12_needing (i := 31) rfl rfl rfl) (lv_at hl 1 rfl) ?_
      refine lv_if_ne (tgt := 78) hx hb (dkS dF_154 DX12_needing (i := 32) rfl rfl rfl) (by decide) (fun h => absurd h (by decide)) (fun _ => ?_)
      refine lv_iload_n hx hb (dkP dF_28 DX12_needing (i := 33) rfl rfl) rfl (lv_at hl 4 rfl) ?_
      refine lv_iload hx hb (dk1 dF_21 DX12_needing (i := 34) rfl rfl rfl) (lv_at hl 0 rfl) ?_
      refine lv_ishr hx hb (dkP dF_122 DX12_needing (i := 35) rfl rfl) ?_
      refine z_top (y := 0) (by decide) ?_
      refine lv_iconst (v := 1) hx hb (dkP dF_4 DX12_needing (i := 36) rfl rfl) (by decide) ?_
      refine lv_iand hx hb (dkP dF_126 DX12_needing (i := 37) rfl rfl) ?_
      refine z_top (y := 0) (by decide) ?_
      refine lv_iconst (v := 1) hx hb (dkP dF_4 DX12_needing (i := 38) rfl rfl) (by decide) ?_
      refine lv_icmp_ne (tgt := 82) hx hb (dkS dF_160 DX12_needing (i := 39) rfl rfl rfl) (by decide) (fun _ => ?_) (fun h => absurd h (by decide))
      refine lv_iconst (v := 0) hx hb (dkP dF_3 DX12_needing (i := 47) rfl rfl) (by decide) ?_
      refine lv_istore (lv' := [(5, .int 0), (6, .int 5), (4, .int 1), (3, .int 0), (2, .int 0), (0, .ref (ad 0)), (1, .int (nI a))]) hx hb (dk1 dF_54 DX12_needing (i := 48) rfl rfl rfl) hl (by decide) rfl (fun ls hl => ?_)
      refine lv_iinc (v := 6) (lv' := [(6, .int 6), (5, .int 0), (4, .int 1), (3, .int 0), (2, .int 0), (0, .ref (ad 0)), (1, .int (nI a))]) hx hb (dkI DX12_needing (i := 49) rfl rfl rfl rfl) hl (k := 1) rfl (by decide) (by decide) rfl (fun ls hl => ?_)
      refine lv_goto (tgt := 45) hx hb (dkS dF_167 DX12_needing (i := 50) rfl rfl rfl) (by decide) ?_
      refine lv_iload hx hb (dk1 dF_21 DX12_needing (i := 28) rfl rfl rfl) (lv_at hl 0 rfl) ?_
      refine lv_bipush (v := 8) hx hb (dks dF_16 DX12_needing (i := 29) rfl rfl rfl) (by decide) ?_
      refine lv_icmp_ge (tgt := 91) hx hb (dkS dF_162 DX12_needing (i := 30) rfl rfl rfl) (by decide) (fun h => absurd h (by decide)) (fun _ => ?_)
      refine lv_iload hx hb (dk1 dF_21 DX12_needing (i := 31) rfl rfl rfl) (lv_at hl 1 rfl) ?_
      refine lv_if_ne (tgt := 78) hx hb (dkS dF_154 DX12_needing (i := 32) rfl rfl rfl) (by decide) (fun h => absurd h (by decide)) (fun _ => ?_)
      refine lv_iload_n hx hb (dkP dF_28 DX12_needing (i := 33) rfl rfl) rfl (lv_at hl 4 rfl) ?_
      refine lv_iload hx hb (dk1 dF_21 DX12_needing (i := 34) rfl rfl rfl) (lv_at hl 0 rfl) ?_
      refine lv_ishr hx hb (dkP dF_122 DX12_needing (i := 35) rfl rfl) ?_
      refine z_top (y := 0) (by decide) ?_
      refine lv_iconst (v := 1) hx hb (dkP dF_4 DX12_needing (i := 36) rfl rfl) (by decide) ?_
      refine lv_iand hx hb (dkP dF_126 DX12_needing (i := 37) rfl rfl) ?_
      refine z_top (y := 0) (by decide) ?_
      refine lv_iconst (v := 1) hx hb (dkP dF_4 DX12_needing (i := 38) rfl rfl) (by decide) ?_
      refine lv_icmp_ne (tgt := 82) hx hb (dkS dF_160 DX12_needing (i := 39) rfl rfl rfl) (by decide) (fun _ => ?_) (fun h => absurd h (by decide))
      refine lv_iconst (v := 0) hx hb (dkP dF_3 DX12_needing (i := 47) rfl rfl) (by decide) ?_
      refine lv_istore (lv' := [(5, .int 0), (6, .int 6), (4, .int 1), (3, .int 0), (2, .int 0), (0, .ref (ad 0)), (1, .int (nI a))]) hx hb (dk1 dF_54 DX12_needing (i := 48) rfl rfl rfl) hl (by decide) rfl (fun ls hl => ?_)
      refine lv_iinc (v := 7) (lv' := [(6, .int 7), (5, .int 0), (4, .int 1), (3, .int 0), (2, .int 0), (0, .ref (ad 0)), (1, .int (nI a))]) hx hb (dkI DX12_needing (i := 49) rfl rfl rfl rfl) hl (k := 1) rfl (by decide) (by decide) rfl (fun ls hl => ?_)
      refine lv_goto (tgt := 45) hx hb (dkS dF_167 DX12_needing (i := 50) rfl rfl rfl) (by decide) ?_
      refine lv_iload hx hb (dk1 dF_21 DX12_needing (i := 28) rfl rfl rfl) (lv_at hl 0 rfl) ?_
      refine lv_bipush (v := 8) hx hb (dks dF_16 DX12_needing (i := 29) rfl rfl rfl) (by decide) ?_
      refine lv_icmp_ge (tgt := 91) hx hb (dkS dF_162 DX12_needing (i := 30) rfl rfl rfl) (by decide) (fun h => absurd h (by decide)) (fun _ => ?_)
      refine lv_iload hx hb (dk1 dF_21 DX12_needing (i := 31) rfl rfl rfl) (lv_at hl 1 rfl) ?_
      refine lv_if_ne (tgt := 78) hx hb (dkS dF_154 DX12_needing (i := 32) rfl rfl rfl) (by decide) (fun h => absurd h (by decide)) (fun _ => ?_)
      refine lv_iload_n hx hb (dkP dF_28 DX12_needing (i := 33) rfl rfl) rfl (lv_at hl 4 rfl) ?_
      refine lv_iload hx hb (dk1 dF_21 DX12_needing (i := 34) rfl rfl rfl) (lv_at hl 0 rfl) ?_
      refine lv_ishr hx hb (dkP dF_122 DX12_needing (i := 35) rfl rfl) ?_
      refine z_top (y := 0) (by decide) ?_
      refine lv_iconst (v := 1) hx hb (dkP dF_4 DX12_needing (i := 36) rfl rfl) (by decide) ?_
      refine lv_iand hx hb (dkP dF_126 DX12_needing (i := 37) rfl rfl) ?_
      refine z_top (y := 0) (by decide) ?_
      refine lv_iconst (v := 1) hx hb (dkP dF_4 DX12_needing (i := 38) rfl rfl) (by decide) ?_
      refine lv_icmp_ne (tgt := 82) hx hb (dkS dF_160 DX12_needing (i := 39) rfl rfl rfl) (by decide) (fun _ => ?_) (fun h => absurd h (by decide))
      refine lv_iconst (v := 0) hx hb (dkP dF_3 DX12_needing (i := 47) rfl rfl) (by decide) ?_
      refine lv_istore (lv' := [(5, .int 0), (6, .int 7), (4, .int 1), (3, .int 0), (2, .int 0), (0, .ref (ad 0)), (1, .int (nI a))]) hx hb (dk1 dF_54 DX12_needing (i := 48) rfl rfl rfl) hl (by decide) rfl (fun ls hl => ?_)
      refine lv_iinc (v := 8) (lv' := [(6, .int 8), (5, .int 0), (4, .int 1), (3, .int 0), (2, .int 0), (0, .ref (ad 0)), (1, .int (nI a))]) hx hb (dkI DX12_needing (i := 49) rfl rfl rfl rfl) hl (k := 1) rfl (by decide) (by decide) rfl (fun ls hl => ?_)
      refine lv_goto (tgt := 45) hx hb (dkS dF_167 DX12_needing (i := 50) rfl rfl rfl) (by decide) ?_
      refine lv_iload hx hb (dk1 dF_21 DX12_needing (i := 28) rfl rfl rfl) (lv_at hl 0 rfl) ?_
      refine lv_bipush (v := 8) hx hb (dks dF_16 DX12_needing (i := 29) rfl rfl rfl) (by decide) ?_
      refine lv_icmp_ge (tgt := 91) hx hb (dkS dF_162 DX12_needing (i := 30) rfl rfl rfl) (by decide) (fun _ => ?_) (fun h => absurd h (by decide))
      refine lv_iload hx hb (dk1 dF_21 DX12_needing (i := 51) rfl rfl rfl) (lv_at hl 1 rfl) ?_
      refine lv_if_ne (tgt := 99) hx hb (dkS dF_154 DX12_needing (i := 52) rfl rfl rfl) (by decide) (fun h => absurd h (by decide)) (fun _ => ?_)
      refine lv_goto (tgt := 108) hx hb (dkS dF_167 DX12_needing (i := 53) rfl rfl rfl) (by decide) ?_
      refine lv_iinc (v := 2) (lv' := [(4, .int 2), (6, .int 8), (5, .int 0), (3, .int 0), (2, .int 0), (0, .ref (ad 0)), (1, .int (nI a))]) hx hb (dkI DX12_needing (i := 62) rfl rfl rfl rfl) hl (k := 2) rfl (by decide) (by decide) rfl (fun ls hl => ?_)
      refine lv_goto (tgt := 13) hx hb (dkS dF_167 DX12_needing (i := 63) rfl rfl rfl) (by decide) ?_
      refine lv_iload hx hb (dk1 dF_21 DX12_needing (i := 10) rfl rfl rfl) (lv_at hl 0 rfl) ?_
      refine lv_bipush (v := 8) hx hb (dks dF_16 DX12_needing (i := 11) rfl rfl rfl) (by decide) ?_
      refine lv_icmp_ge (tgt := 114) hx hb (dkS dF_162 DX12_needing (i := 12) rfl rfl rfl) (by decide) (fun h => absurd h (by decide)) (fun _ => ?_)
      refine lv_iload_n hx hb (dkP dF_28 DX12_needing (i := 13) rfl rfl) rfl (lv_at hl 4 rfl) ?_
      refine lv_iload hx hb (dk1 dF_21 DX12_needing (i := 14) rfl rfl rfl) (lv_at hl 0 rfl) ?_
      refine lv_ishr hx hb (dkP dF_122 DX12_needing (i := 15) rfl rfl) ?_
      refine z_top (y := 0) (by decide) ?_
      refine lv_iconst (v := 1) hx hb (dkP dF_4 DX12_needing (i := 16) rfl rfl) (by decide) ?_
      refine lv_iand hx hb (dkP dF_126 DX12_needing (i := 17) rfl rfl) ?_
      refine z_top (y := 0) (by decide) ?_
      refine lv_iconst (v := 1) hx hb (dkP dF_4 DX12_needing (i := 18) rfl rfl) (by decide) ?_
      refine lv_icmp_ne (tgt := 33) hx hb (dkS dF_160 DX12_needing (i := 19) rfl rfl rfl) (by decide) (fun _ => ?_) (fun h => absurd h (by decide))
      refine lv_aload_n hx hb (dkP dF_42 DX12_needing (i := 21) rfl rfl) rfl (lv_at hl 5 rfl) ?_
      refine lv_iload hx hb (dk1 dF_21 DX12_needing (i := 22) rfl rfl rfl) (lv_at hl 0 rfl) ?_
      refine lv_iload_n hx hb (dkP dF_27 DX12_needing (i := 23) rfl rfl) rfl (lv_at hl 6 rfl) ?_
      refine zk_I hw (zr_V (As := [.int 2, .int (nI a)]) (rest := []) C0 (c_X12_isNeed l G kc ad 2 a (by first | omega | assumption | decide | rfl) (by first | omega | assumption | decide | rfl) _) cv_X12_isNeed lk_X12_455 (zp_V C0 hw 0 rfl rfl rfl) rfl hl.1 rfl ⟨by decide, by decide⟩ (Nat.le_of_ble_eq_true rfl) (dk2 dF_182 DX12_needing (i := 24) rfl rfl rfl) ⟨Nat.le_refl _, Nat.le_refl _⟩) (fun r3 s3 H locs hp hw => ?_)
      obtain ⟨hq3, hs3⟩ := hp
      subst hs3
      rcases hq3 with ⟨rfl, hc3⟩ | ⟨rfl, hc3⟩
      · exact False.elim hc3
      · skip
        refine lv_istore (lv' := [(5, .int 0), (4, .int 2), (6, .int 8), (3, .int 0), (2, .int 0), (0, .ref (ad 0)), (1, .int (nI a))]) hx hb (dk1 dF_54 DX12_needing (i := 25) rfl rfl rfl) hl (by decide) rfl (fun ls hl => ?_)
        refine lv_iconst (v := 0) hx hb (dkP dF_3 DX12_needing (i := 26) rfl rfl) (by decide) ?_
        refine lv_istore (lv' := [(6, .int 0), (5, .int 0), (4, .int 2), (3, .int 0), (2, .int 0), (0, .ref (ad 0)), (1, .int (nI a))]) hx hb (dk1 dF_54 DX12_needing (i := 27) rfl rfl rfl) hl (by decide) rfl (fun ls hl => ?_)
        refine lv_iload hx hb (dk1 dF_21 DX12_needing (i := 28) rfl rfl rfl) (lv_at hl 0 rfl) ?_
        refine lv_bipush (v := 8) hx hb (dks dF_16 DX12_needing (i := 29) rfl rfl rfl) (by decide) ?_
        refine lv_icmp_ge (tgt := 91) hx hb (dkS dF_162 DX12_needing (i := 30) rfl rfl rfl) (by decide) (fun h => absurd h (by decide)) (fun _ => ?_)
        refine lv_iload hx hb (dk1 dF_21 DX12_needing (i := 31) rfl rfl rfl) (lv_at hl 1 rfl) ?_
        refine lv_if_ne (tgt := 78) hx hb (dkS dF_154 DX12_needing (i := 32) rfl rfl rfl) (by decide) (fun h => absurd h (by decide)) (fun _ => ?_)
        refine lv_iload_n hx hb (dkP dF_28 DX12_needing (i := 33) rfl rfl) rfl (lv_at hl 4 rfl) ?_
        refine lv_iload hx hb (dk1 dF_21 DX12_needing (i := 34) rfl rfl rfl) (lv_at hl 0 rfl) ?_
        refine lv_ishr hx hb (dkP dF_122 DX12_needing (i := 35) rfl rfl) ?_
        refine z_top (y := 0) (by decide) ?_
        refine lv_iconst (v := 1) hx hb (dkP dF_4 DX12_needing (i := 36) rfl rfl) (by decide) ?_
        refine lv_iand hx hb (dkP dF_126 DX12_needing (i := 37) rfl rfl) ?_
        refine z_top (y := 0) (by decide) ?_
        refine lv_iconst (v := 1) hx hb (dkP dF_4 DX12_needing (i := 38) rfl rfl) (by decide) ?_
        refine lv_icmp_ne (tgt := 82) hx hb (dkS dF_160 DX12_needing (i := 39) rfl rfl rfl) (by decide) (fun _ => ?_) (fun h => absurd h (by decide))
        refine lv_iconst (v := 0) hx hb (dkP dF_3 DX12_needing (i := 47) rfl rfl) (by decide) ?_
        refine lv_istore (lv' := [(5, .int 0), (6, .int 0), (4, .int 2), (3, .int 0), (2, .int 0), (0, .ref (ad 0)), (1, .int (nI a))]) hx hb (dk1 dF_54 DX12_needing (i := 48) rfl rfl rfl) hl (by decide) rfl (fun ls hl => ?_)
        refine lv_iinc (v := 1) (lv' := [(6, .int 1), (5, .int 0), (4, .int 2), (3, .int 0), (2, .int 0), (0, .ref (ad 0)), (1, .int (nI a))]) hx hb (dkI DX12_needing (i := 49) rfl rfl rfl rfl) hl (k := 1) rfl (by decide) (by decide) rfl (fun ls hl => ?_)
        refine lv_goto (tgt := 45) hx hb (dkS dF_167 DX12_needing (i := 50) rfl rfl rfl) (by decide) ?_
        refine lv_iload hx hb (dk1 dF_21 DX12_needing (i := 28) rfl rfl rfl) (lv_at hl 0 rfl) ?_
        refine lv_bipush (v := 8) hx hb (dks dF_16 DX12_needing (i := 29) rfl rfl rfl) (by decide) ?_
        refine lv_icmp_ge (tgt := 91) hx hb (dkS dF_162 DX12_needing (i := 30) rfl rfl rfl) (by decide) (fun h => absurd h (by decide)) (fun _ => ?_)
        refine lv_iload hx hb (dk1 dF_21 DX12_needing (i := 31) rfl rfl rfl) (lv_at hl 1 rfl) ?_
        refine lv_if_ne (tgt := 78) hx hb (dkS dF_154 DX12_needing (i := 32) rfl rfl rfl) (by decide) (fun h => absurd h (by decide)) (fun _ => ?_)
        refine lv_iload_n hx hb (dkP dF_28 DX12_needing (i := 33) rfl rfl) rfl (lv_at hl 4 rfl) ?_
        refine lv_iload hx hb (dk1 dF_21 DX12_needing (i := 34) rfl rfl rfl) (lv_at hl 0 rfl) ?_
        refine lv_ishr hx hb (dkP dF_122 DX12_needing (i := 35) rfl rfl) ?_
        refine z_top (y := 0) (by decide) ?_
        refine lv_iconst (v := 1) hx hb (dkP dF_4 DX12_needing (i := 36) rfl rfl) (by decide) ?_
        refine lv_iand hx hb (dkP dF_126 DX12_needing (i := 37) rfl rfl) ?_
        refine z_top (y := 0) (by decide) ?_
        refine lv_iconst (v := 1) hx hb (dkP dF_4 DX12_needing (i := 38) rfl rfl) (by decide) ?_
        refine lv_icmp_ne (tgt := 82) hx hb (dkS dF_160 DX12_needing (i := 39) rfl rfl rfl) (by decide) (fun _ => ?_) (fun h => absurd h (by decide))
        refine lv_iconst (v := 0) hx hb (dkP dF_3 DX12_needing (i := 47) rfl rfl) (by decide) ?_
        refine lv_istore (lv' := [(5, .int 0), (6, .int 1), (4, .int 2), (3, .int 0), (2, .int 0), (0, .ref (ad 0)), (1, .int (nI a))]) hx hb (dk1 dF_54 DX12_needing (i := 48) rfl rfl rfl) hl (by decide) rfl (fun ls hl => ?_)
        refine lv_iinc (v := 2) (lv' := [(6, .int 2), (5, .int 0), (4, .int 2), (3, .int 0), (2, .int 0), (0, .ref (ad 0)), (1, .int (nI a))]) hx hb (dkI DX12_needing (i := 49) rfl rfl rfl rfl) hl (k := 1) rfl (by decide) (by decide) rfl (fun ls hl => ?_)
        refine lv_goto (tgt := 45) hx hb (dkS dF_167 DX12_needing (i := 50) rfl rfl rfl) (by decide) ?_
        refine lv_iload hx hb (dk1 dF_21 DX12_needing (i := 28) rfl rfl rfl) (lv_at hl 0 rfl) ?_
        refine lv_bipush (v := 8) hx hb (dks dF_16 DX12_needing (i := 29) rfl rfl rfl) (by decide) ?_
        refine lv_icmp_ge (tgt := 91) hx hb (dkS dF_162 DX12_needing (i := 30) rfl rfl rfl) (by decide) (fun h => absurd h (by decide)) (fun _ => ?_)
        refine lv_iload hx hb (dk1 dF_21 DX12_needing (i := 31) rfl rfl rfl) (lv_at hl 1 rfl) ?_
        refine lv_if_ne (tgt := 78) hx hb (dkS dF_154 DX12_needing (i := 32) rfl rfl rfl) (by decide) (fun h => absurd h (by decide)) (fun _ => ?_)
        refine lv_iload_n hx hb (dkP dF_28 DX12_needing (i := 33) rfl rfl) rfl (lv_at hl 4 rfl) ?_
        refine lv_iload hx hb (dk1 dF_21 DX12_needing (i := 34) rfl rfl rfl) (lv_at hl 0 rfl) ?_
        refine lv_ishr hx hb (dkP dF_122 DX12_needing (i := 35) rfl rfl) ?_
        refine z_top (y := 0) (by decide) ?_
        refine lv_iconst (v := 1) hx hb (dkP dF_4 DX12_needing (i := 36) rfl rfl) (by decide) ?_
        refine lv_iand hx hb (dkP dF_126 DX12_needing (i := 37) rfl rfl) ?_
        refine z_top (y := 0) (by decide) ?_
        refine lv_iconst (v := 1) hx hb (dkP dF_4 DX12_needing (i := 38) rfl rfl) (by decide) ?_
        refine lv_icmp_ne (tgt := 82) hx hb (dkS dF_160 DX12_needing (i := 39) rfl rfl rfl) (by decide) (fun _ => ?_) (fun h => absurd h (by decide))
        refine lv_iconst (v := 0) hx hb (dkP dF_3 DX12_needing (i := 47) rfl rfl) (by decide) ?_
        refine lv_istore (lv' := [(5, .int 0), (6, .int 2), (4, .int 2), (3, .int 0), (2, .int 0), (0, .ref (ad 0)), (1, .int (nI a))]) hx hb (dk1 dF_54 DX12_needing (i := 48) rfl rfl rfl) hl (by decide) rfl (fun ls hl => ?_)
        refine lv_iinc (v := 3) (lv' := [(6, .int 3), (5, .int 0), (4, .int 2), (3, .int 0), (2, .int 0), (0, .ref (ad 0)), (1, .int (nI a))]) hx hb (dkI DX12_needing (i := 49) rfl rfl rfl rfl) hl (k := 1) rfl (by decide) (by decide) rfl (fun ls hl => ?_)
        refine lv_goto (tgt := 45) hx hb (dkS dF_167 DX12_needing (i := 50) rfl rfl rfl) (by decide) ?_
        refine lv_iload hx hb (dk1 dF_21 DX12_needing (i := 28) rfl rfl rfl) (lv_at hl 0 rfl) ?_
        refine lv_bipush (v := 8) hx hb (dks dF_16 DX12_needing (i := 29) rfl rfl rfl) (by decide) ?_
        refine lv_icmp_ge (tgt := 91) hx hb (dkS dF_162 DX12_needing (i := 30) rfl rfl rfl) (by decide) (fun h => absurd h (by decide)) (fun _ => ?_)
        refine lv_iload hx hb (dk1 dF_21 DX12_needing (i := 31) rfl rfl rfl) (lv_at hl 1 rfl) ?_
        refine lv_if_ne (tgt := 78) hx hb (dkS dF_154 DX12_needing (i := 32) rfl rfl rfl) (by decide) (fun h => absurd h (by decide)) (fun _ => ?_)
        refine lv_iload_n hx hb (dkP dF_28 DX12_needing (i := 33) rfl rfl) rfl (lv_at hl 4 rfl) ?_
        refine lv_iload hx hb (dk1 dF_21 DX12_needing (i := 34) rfl rfl rfl) (lv_at hl 0 rfl) ?_
        refine lv_ishr hx hb (dkP dF_122 DX12_needing (i := 35) rfl rfl) ?_
        refine z_top (y := 0) (by decide) ?_
        refine lv_iconst (v := 1) hx hb (dkP dF_4 DX12_needing (i := 36) rfl rfl) (by decide) ?_
        refine lv_iand hx hb (dkP dF_126 DX12_needing (i := 37) rfl rfl) ?_
        refine z_top (y := 0) (by decide) ?_
        refine lv_iconst (v := 1) hx hb (dkP dF_4 DX12_needing (i := 38) rfl rfl) (by decide) ?_
        refine lv_icmp_ne (tgt := 82) hx hb (dkS dF_160 DX12_needing (i := 39) rfl rfl rfl) (by decide) (fun _ => ?_) (fun h => absurd h (by decide))
        refine lv_iconst (v := 0) hx hb (dkP dF_3 DX12_needing (i := 47) rfl rfl) (by decide) ?_
        refine lv_istore (lv' := [(5, .int 0), (6, .int 3), (4, .int 2), (3, .int 0), (2, .int 0), (0, .ref (ad 0)), (1, .int (nI a))]) hx hb (dk1 dF_54 DX12_needing (i := 48) rfl rfl rfl) hl (by decide) rfl (fun ls hl => ?_)
        refine lv_iinc (v := 4) (lv' := [(6, .int 4), (5, .int 0), (4, .int 2), (3, .int 0), (2, .int 0), (0, .ref (ad 0)), (1, .int (nI a))]) hx hb (dkI DX12_needing (i := 49) rfl rfl rfl rfl) hl (k := 1) rfl (by decide) (by decide) rfl (fun ls hl => ?_)
        refine lv_goto (tgt := 45) hx hb (dkS dF_167 DX12_needing (i := 50) rfl rfl rfl) (by decide) ?_
        refine lv_iload hx hb (dk1 dF_21 DX12_needing (i := 28) rfl rfl rfl) (lv_at hl 0 rfl) ?_
        refine lv_bipush (v := 8) hx hb (dks dF_16 DX12_needing (i := 29) rfl rfl rfl) (by decide) ?_
        refine lv_icmp_ge (tgt := 91) hx hb (dkS dF_162 DX12_needing (i := 30) rfl rfl rfl) (by decide) (fun h => absurd h (by decide)) (fun _ => ?_)
        refine lv_iload hx hb (dk1 dF_21 DX12_needing (i := 31) rfl rfl rfl) (lv_at hl 1 rfl) ?_
        refine lv_if_ne (tgt := 78) hx hb (dkS dF_154 DX12_needing (i := 32) rfl rfl rfl) (by decide) (fun h => absurd h (by decide)) (fun _ => ?_)
        refine lv_iload_n hx hb (dkP dF_28 DX12_needing (i := 33) rfl rfl) rfl (lv_at hl 4 rfl) ?_
        refine lv_iload hx hb (dk1 dF_21 DX12_needing (i := 34) rfl rfl rfl) (lv_at hl 0 rfl) ?_
        refine lv_ishr hx hb (dkP dF_122 DX12_needing (i := 35) rfl rfl) ?_
        refine z_top (y := 0) (by decide) ?_
        refine lv_iconst (v := 1) hx hb (dkP dF_4 DX12_needing (i := 36) rfl rfl) (by decide) ?_
        refine lv_iand hx hb (dkP dF_126 DX12_needing (i := 37) rfl rfl) ?_
        refine z_top (y := 0) (by decide) ?_
        refine lv_iconst (v := 1) hx hb (dkP dF_4 DX12_needing (i := 38) rfl rfl) (by decide) ?_
        refine lv_icmp_ne (tgt := 82) hx hb (dkS dF_160 DX12_needing (i := 39) rfl rfl rfl) (by decide) (fun _ => ?_) (fun h => absurd h (by decide))
        refine lv_iconst (v := 0) hx hb (dkP dF_3 DX12_needing (i := 47) rfl rfl) (by decide) ?_
        refine lv_istore (lv' := [(5, .int 0), (6, .int 4), (4, .int 2), (3, .int 0), (2, .int 0), (0, .ref (ad 0)), (1, .int (nI a))]) hx hb (dk1 dF_54 DX12_needing (i := 48) rfl rfl rfl) hl (by decide) rfl (fun ls hl => ?_)
        refine lv_iinc (v := 5) (lv' := [(6, .int 5), (5, .int 0), (4, .int 2), (3, .int 0), (2, .int 0), (0, .ref (ad 0)), (1, .int (nI a))]) hx hb (dkI DX12_needing (i := 49) rfl rfl rfl rfl) hl (k := 1) rfl (by decide) (by decide) rfl (fun ls hl => ?_)
        refine lv_goto (tgt := 45) hx hb (dkS dF_167 DX12_needing (i := 50) rfl rfl rfl) (by decide) ?_
        refine lv_iload hx hb (dk1 dF_21 DX12_needing (i := 28) rfl rfl rfl) (lv_at hl 0 rfl) ?_
        refine lv_bipush (v := 8) hx hb (dks dF_16 DX12_needing (i := 29) rfl rfl rfl) (by decide) ?_
        refine lv_icmp_ge (tgt := 91) hx hb (dkS dF_162 DX12_needing (i := 30) rfl rfl rfl) (by decide) (fun h => absurd h (by decide)) (fun _ => ?_)
        refine lv_iload hx hb (dk1 dF_21 DX12_needing (i := 31) rfl rfl rfl) (lv_at hl 1 rfl) ?_
        refine lv_if_ne (tgt := 78) hx hb (dkS dF_154 DX12_needing (i := 32) rfl rfl rfl) (by decide) (fun h => absurd h (by decide)) (fun _ => ?_)
        refine lv_iload_n hx hb (dkP dF_28 DX12_needing (i := 33) rfl rfl) rfl (lv_at hl 4 rfl) ?_
        refine lv_iload hx hb (dk1 dF_21 DX12_needing (i := 34) rfl rfl rfl) (lv_at hl 0 rfl) ?_
        refine lv_ishr hx hb (dkP dF_122 DX12_needing (i := 35) rfl rfl) ?_
        refine z_top (y := 0) (by decide) ?_
        refine lv_iconst (v := 1) hx hb (dkP dF_4 DX12_needing (i := 36) rfl rfl) (by decide) ?_
        refine lv_iand hx hb (dkP dF_126 DX12_needing (i := 37) rfl rfl) ?_
        refine z_top (y := 0) (by decide) ?_
        refine lv_iconst (v := 1) hx hb (dkP dF_4 DX12_needing (i := 38) rfl rfl) (by decide) ?_
        refine lv_icmp_ne (tgt := 82) hx hb (dkS dF_160 DX12_needing (i := 39) rfl rfl rfl) (by decide) (fun _ => ?_) (fun h => absurd h (by decide))
        refine lv_iconst (v := 0) hx hb (dkP dF_3 DX12_needing (i := 47) rfl rfl) (by decide) ?_
        refine lv_istore (lv' := [(5, .int 0), (6, .int 5), (4, .int 2), (3, .int 0), (2, .int 0), (0, .ref (ad 0)), (1, .int (nI a))]) hx hb (dk1 dF_54 DX12_needing (i := 48) rfl rfl rfl) hl (by decide) rfl (fun ls hl => ?_)
        refine lv_iinc (v := 6) (lv' := [(6, .int 6), (5, .int 0), (4, .int 2), (3, .int 0), (2, .int 0), (0, .ref (ad 0)), (1, .int (nI a))]) hx hb (dkI DX12_needing (i := 49) rfl rfl rfl rfl) hl (k := 1) rfl (by decide) (by decide) rfl (fun ls hl => ?_)
        refine lv_goto (tgt := 45) hx hb (dkS dF_167 DX12_needing (i := 50) rfl rfl rfl) (by decide) ?_
        refine lv_iload hx hb (dk1 dF_21 DX12_needing (i := 28) rfl rfl rfl) (lv_at hl 0 rfl) ?_
        refine lv_bipush (v := 8) hx hb (dks dF_16 DX12_needing (i := 29) rfl rfl rfl) (by decide) ?_
        refine lv_icmp_ge (tgt := 91) hx hb (dkS dF_162 DX12_needing (i := 30) rfl rfl rfl) (by decide) (fun h => absurd h (by decide)) (fun _ => ?_)
        refine lv_iload hx hb (dk1 dF_21 DX12_needing (i := 31) rfl rfl rfl) (lv_at hl 1 rfl) ?_
        refine lv_if_ne (tgt := 78) hx hb (dkS dF_154 DX12_needing (i := 32) rfl rfl rfl) (by decide) (fun h => absurd h (by decide)) (fun _ => ?_)
        refine lv_iload_n hx hb (dkP dF_28 DX12_needing (i := 33) rfl rfl) rfl (lv_at hl 4 rfl) ?_
        refine lv_iload hx hb (dk1 dF_21 DX12_needing (i := 34) rfl rfl rfl) (lv_at hl 0 rfl) ?_
        refine lv_ishr hx hb (dkP dF_122 DX12_needing (i := 35) rfl rfl) ?_
        refine z_top (y := 0) (by decide) ?_
        refine lv_iconst (v := 1) hx hb (dkP dF_4 DX12_needing (i := 36) rfl rfl) (by decide) ?_
        refine lv_iand hx hb (dkP dF_126 DX12_needing (i := 37) rfl rfl) ?_
        refine z_top (y := 0) (by decide) ?_
        refine lv_iconst (v := 1) hx hb (dkP dF_4 DX12_needing (i := 38) rfl rfl) (by decide) ?_
        refine lv_icmp_ne (tgt := 82) hx hb (dkS dF_160 DX12_needing (i := 39) rfl rfl rfl) (by decide) (fun _ => ?_) (fun h => absurd h (by decide))
        refine lv_iconst (v := 0) hx hb (dkP dF_3 DX12_needing (i := 47) rfl rfl) (by decide) ?_
        refine lv_istore (lv' := [(5, .int 0), (6, .int 6), (4, .int 2), (3, .int 0), (2, .int 0), (0, .ref (ad 0)), (1, .int (nI a))]) hx hb (dk1 dF_54 DX12_needing (i := 48) rfl rfl rfl) hl (by decide) rfl (fun ls hl => ?_)
        refine lv_iinc (v := 7) (lv' := [(6, .int 7), (5, .int 0), (4, .int 2), (3, .int 0), (2, .int 0), (0, .ref (ad 0)), (1, .int (nI a))]) hx hb (dkI DX12_needing (i := 49) rfl rfl rfl rfl) hl (k := 1) rfl (by decide) (by decide) rfl (fun ls hl => ?_)
        refine lv_goto (tgt := 45) hx hb (dkS dF_167 DX12_needing (i := 50) rfl rfl rfl) (by decide) ?_
        refine lv_iload hx hb (dk1 dF_21 DX12_needing (i := 28) rfl rfl rfl) (lv_at hl 0 rfl) ?_
        refine lv_bipush (v := 8) hx hb (dks dF_16 DX12_needing (i := 29) rfl rfl rfl) (by decide) ?_
        refine lv_icmp_ge (tgt := 91) hx hb (dkS dF_162 DX12_needing (i := 30) rfl rfl rfl) (by decide) (fun h => absurd h (by decide)) (fun _ => ?_)
        refine lv_iload hx hb (dk1 dF_21 DX12_needing (i := 31) rfl rfl rfl) (lv_at hl 1 rfl) ?_
        refine lv_if_ne (tgt := 78) hx hb (dkS dF_154 DX12_needing (i := 32) rfl rfl rfl) (by decide) (fun h => absurd h (by decide)) (fun _ => ?_)
        refine lv_iload_n hx hb (dkP dF_28 DX12_needing (i := 33) rfl rfl) rfl (lv_at hl 4 rfl) ?_
        refine lv_iload hx hb (dk1 dF_21 DX12_needing (i := 34) rfl rfl rfl) (lv_at hl 0 rfl) ?_
        refine lv_ishr hx hb (dkP dF_122 DX12_needing (i := 35) rfl rfl) ?_
        refine z_top (y := 0) (by decide) ?_
        refine lv_iconst (v := 1) hx hb (dkP dF_4 DX12_needing (i := 36) rfl rfl) (by decide) ?_
        refine lv_iand hx hb (dkP dF_126 DX12_needing (i := 37) rfl rfl) ?_
        refine z_top (y := 0) (by decide) ?_
        refine lv_iconst (v := 1) hx hb (dkP dF_4 DX12_needing (i := 38) rfl rfl) (by decide) ?_
        refine lv_icmp_ne (tgt := 82) hx hb (dkS dF_160 DX12_needing (i := 39) rfl rfl rfl) (by decide) (fun _ => ?_) (fun h => absurd h (by decide))
        refine lv_iconst (v := 0) hx hb (dkP dF_3 DX12_needing (i := 47) rfl rfl) (by decide) ?_
        refine lv_istore (lv' := [(5, .int 0), (6, .int 7), (4, .int 2), (3, .int 0), (2, .int 0), (0, .ref (ad 0)), (1, .int (nI a))]) hx hb (dk1 dF_54 DX12_needing (i := 48) rfl rfl rfl) hl (by decide) rfl (fun ls hl => ?_)
        refine lv_iinc (v := 8) (lv' := [(6, .int 8), (5, .int 0), (4, .int 2), (3, .int 0), (2, .int 0), (0, .ref (ad 0)), (1, .int (nI a))]) hx hb (dkI DX12_needing (i := 49) rfl rfl rfl rfl) hl (k := 1) rfl (by decide) (by decide) rfl (fun ls hl => ?_)
        refine lv_goto (tgt := 45) hx hb (dkS dF_167 DX12_needing (i := 50) rfl rfl rfl) (by decide) ?_
        refine lv_iload hx hb (dk1 dF_21 DX12_needing (i := 28) rfl rfl rfl) (lv_at hl 0 rfl) ?_
        refine lv_bipush (v := 8) hx hb (dks dF_16 DX12_needing (i := 29) rfl rfl rfl) (by decide) ?_
        refine lv_icmp_ge (tgt := 91) hx hb (dkS dF_162 DX12_needing (i := 30) rfl rfl rfl) (by decide) (fun _ => ?_) (fun h => absurd h (by decide))
        refine lv_iload hx hb (dk1 dF_21 DX12_needing (i := 51) rfl rfl rfl) (lv_at hl 1 rfl) ?_
        refine lv_if_ne (tgt := 99) hx hb (dkS dF_154 DX12_needing (i := 52) rfl rfl rfl) (by decide) (fun h => absurd h (by decide)) (fun _ => ?_)
        refine lv_goto (tgt := 108) hx hb (dkS dF_167 DX12_needing (i := 53) rfl rfl rfl) (by decide) ?_
        refine lv_iinc (v := 3) (lv' := [(4, .int 3), (6, .int 8), (5, .int 0), (3, .int 0), (2, .int 0), (0, .ref (ad 0)), (1, .int (nI a))]) hx hb (dkI DX12_needing (i := 62) rfl rfl rfl rfl) hl (k := 2) rfl (by decide) (by decide) rfl (fun ls hl => ?_)
        refine lv_goto (tgt := 13) hx hb (dkS dF_167 DX12_needing (i := 63) rfl rfl rfl) (by decide) ?_
        refine lv_iload hx hb (dk1 dF_21 DX12_needing (i := 10) rfl rfl rfl) (lv_at hl 0 rfl) ?_
        refine lv_bipush (v := 8) hx hb (dks dF_16 DX12_needing (i := 11) rfl rfl rfl) (by decide) ?_
        refine lv_icmp_ge (tgt := 114) hx hb (dkS dF_162 DX12_needing (i := 12) rfl rfl rfl) (by decide) (fun h => absurd h (by decide)) (fun _ => ?_)
        refine lv_iload_n hx hb (dkP dF_28 DX12_needing (i := 13) rfl rfl) rfl (lv_at hl 4 rfl) ?_
        refine lv_iload hx hb (dk1 dF_21 DX12_needing (i := 14) rfl rfl rfl) (lv_at hl 0 rfl) ?_
        refine lv_ishr hx hb (dkP dF_122 DX12_needing (i := 15) rfl rfl) ?_
        refine z_top (y := 0) (by decide) ?_
        refine lv_iconst (v := 1) hx hb (dkP dF_4 DX12_needing (i := 16) rfl rfl) (by decide) ?_
        refine lv_iand hx hb (dkP dF_126 DX12_needing (i := 17) rfl rfl) ?_
        refine z_top (y := 0) (by decide) ?_
        refine lv_iconst (v := 1) hx hb (dkP dF_4 DX12_needing (i := 18) rfl rfl) (by decide) ?_
        refine lv_icmp_ne (tgt := 33) hx hb (dkS dF_160 DX12_needing (i := 19) rfl rfl rfl) (by decide) (fun _ => ?_) (fun h => absurd h (by decide))
        refine lv_aload_n hx hb (dkP dF_42 DX12_needing (i := 21) rfl rfl) rfl (lv_at hl 5 rfl) ?_
        refine lv_iload hx hb (dk1 dF_21 DX12_needing (i := 22) rfl rfl rfl) (lv_at hl 0 rfl) ?_
        refine lv_iload_n hx hb (dkP dF_27 DX12_needing (i := 23) rfl rfl) rfl (lv_at hl 6 rfl) ?_
        refine zk_I hw (zr_V (As := [.int 3, .int (nI a)]) (rest := []) C0 (c_X12_isNeed l G kc ad 3 a (by first | omega | assumption | decide | rfl) (by first | omega | assumption | decide | rfl) _) cv_X12_isNeed lk_X12_455 (zp_V C0 hw 0 rfl rfl rfl) rfl hl.1 rfl ⟨by decide, by decide⟩ (Nat.le_of_ble_eq_true rfl) (dk2 dF_182 DX12_needing (i := 24) rfl rfl rfl) ⟨Nat.le_refl _, Nat.le_refl _⟩) (fun r4 s4 H locs hp hw => ?_)
        obtain ⟨hq4, hs4⟩ := hp
        subst hs4
        rcases hq4 with ⟨rfl, hc4⟩ | ⟨rfl, hc4⟩
        · exact False.elim hc4
        · skip
          refine lv_istore (lv' := [(5, .int 0), (4, .int 3), (6, .int 8), (3, .int 0), (2, .int 0), (0, .ref (ad 0)), (1, .int (nI a))]) hx hb (dk1 dF_54 DX12_needing (i := 25) rfl rfl rfl) hl (by decide) rfl (fun ls hl => ?_)
          refine lv_iconst (v := 0) hx hb (dkP dF_3 DX12_needing (i := 26) rfl rfl) (by decide) ?_
          refine lv_istore (lv' := [(6, .int 0), (5, .int 0), (4, .int 3), (3, .int 0), (2, .int 0), (0, .ref (ad 0)), (1, .int (nI a))]) hx hb (dk1 dF_54 DX12_needing (i := 27) rfl rfl rfl) hl (by decide) rfl (fun ls hl => ?_)
          refine lv_iload hx hb (dk1 dF_21 DX12_needing (i := 28) rfl rfl rfl) (lv_at hl 0 rfl) ?_
          refine lv_bipush (v := 8) hx hb (dks dF_16 DX12_needing (i := 29) rfl rfl rfl) (by decide) ?_
          refine lv_icmp_ge (tgt := 91) hx hb (dkS dF_162 DX12_needing (i := 30) rfl rfl rfl) (by decide) (fun h => absurd h (by decide)) (fun _ => ?_)
          refine lv_iload hx hb (dk1 dF_21 DX12_needing (i := 31) rfl rfl rfl) (lv_at hl 1 rfl) ?_
          refine lv_if_ne (tgt := 78) hx hb (dkS dF_154 DX12_needing (i := 32) rfl rfl rfl) (by decide) (fun h => absurd h (by decide)) (fun _ => ?_)
          refine lv_iload_n hx hb (dkP dF_28 DX12_needing (i := 33) rfl rfl) rfl (lv_at hl 4 rfl) ?_
          refine lv_iload hx hb (dk1 dF_21 DX12_needing (i := 34) rfl rfl rfl) (lv_at hl 0 rfl) ?_
          refine lv_ishr hx hb (dkP dF_122 DX12_needing (i := 35) rfl rfl) ?_
          refine z_top (y := 0) (by decide) ?_
          refine lv_iconst (v := 1) hx hb (dkP dF_4 DX12_needing (i := 36) rfl rfl) (by decide) ?_
          refine lv_iand hx hb (dkP dF_126 DX12_needing (i := 37) rfl rfl) ?_
          refine z_top (y := 0) (by decide) ?_
          refine lv_iconst (v := 1) hx hb (dkP dF_4 DX12_needing (i := 38) rfl rfl) (by decide) ?_
          refine lv_icmp_ne (tgt := 82) hx hb (dkS dF_160 DX12_needing (i := 39) rfl rfl rfl) (by decide) (fun _ => ?_) (fun h => absurd h (by decide))
          refine lv_iconst (v := 0) hx hb (dkP dF_3 DX12_needing (i := 47) rfl rfl) (by decide) ?_
          refine lv_istore (lv' := [(5, .int 0), (6, .int 0), (4, .int 3), (3, .int 0), (2, .int 0), (0, .ref (ad 0)), (1, .int (nI a))]) hx hb (dk1 dF_54 DX12_needing (i := 48) rfl rfl rfl) hl (by decide) rfl (fun ls hl => ?_)
          refine lv_iinc (v := 1) (lv' := [(6, .int 1), (5, .int 0), (4, .int 3), (3, .int 0), (2, .int 0), (0, .ref (ad 0)), (1, .int (nI a))]) hx hb (dkI DX12_needing (i := 49) rfl rfl rfl rfl) hl (k := 1) rfl (by decide) (by decide) rfl (fun ls hl => ?_)
          refine lv_goto (tgt := 45) hx hb (dkS dF_167 DX12_needing (i := 50) rfl rfl rfl) (by decide) ?_
          refine lv_iload hx hb (dk1 dF_21 DX12_needing (i := 28) rfl rfl rfl) (lv_at hl 0 rfl) ?_
          refine lv_bipush (v := 8) hx hb (dks dF_16 DX12_needing (i := 29) rfl rfl rfl) (by decide) ?_
          refine lv_icmp_ge (tgt := 91) hx hb (dkS dF_162 DX12_needing (i := 30) rfl rfl rfl) (by decide) (fun h => absurd h (by decide)) (fun _ => ?_)
          refine lv_iload hx hb (dk1 dF_21 DX12_needing (i := 31) rfl rfl rfl) (lv_at hl 1 rfl) ?_
          refine lv_if_ne (tgt := 78) hx hb (dkS dF_154 DX12_needing (i := 32) rfl rfl rfl) (by decide) (fun h => absurd h (by decide)) (fun _ => ?_)
          refine lv_iload_n hx hb (dkP dF_28 DX12_needing (i := 33) rfl rfl) rfl (lv_at hl 4 rfl) ?_
          refine lv_iload hx hb (dk1 dF_21 DX12_needing (i := 34) rfl rfl rfl) (lv_at hl 0 rfl) ?_
          refine lv_ishr hx hb (dkP dF_122 DX12_needing (i := 35) rfl rfl) ?_
          refine z_top (y := 0) (by decide) ?_
          refine lv_iconst (v := 1) hx hb (dkP dF_4 DX12_needing (i := 36) rfl rfl) (by decide) ?_
          refine lv_iand hx hb (dkP dF_126 DX12_needing (i := 37) rfl rfl) ?_
          refine z_top (y := 0) (by decide) ?_
          refine lv_iconst (v := 1) hx hb (dkP dF_4 DX12_needing (i := 38) rfl rfl) (by decide) ?_
          refine lv_icmp_ne (tgt := 82) hx hb (dkS dF_160 DX12_needing (i := 39) rfl rfl rfl) (by decide) (fun _ => ?_) (fun h => absurd h (by decide))
          refine lv_iconst (v := 0) hx hb (dkP dF_3 DX12_needing (i := 47) rfl rfl) (by decide) ?_
          refine lv_istore (lv' := [(5, .int 0), (6, .int 1), (4, .int 3), (3, .int 0), (2, .int 0), (0, .ref (ad 0)), (1, .int (nI a))]) hx hb (dk1 dF_54 DX12_needing (i := 48) rfl rfl rfl) hl (by decide) rfl (fun ls hl => ?_)
          refine lv_iinc (v := 2) (lv' := [(6, .int 2), (5, .int 0), (4, .int 3), (3, .int 0), (2, .int 0), (0, .ref (ad 0)), (1, .int (nI a))]) hx hb (dkI DX12_needing (i := 49) rfl rfl rfl rfl) hl (k := 1) rfl (by decide) (by decide) rfl (fun ls hl => ?_)
          refine lv_goto (tgt := 45) hx hb (dkS dF_167 DX12_needing (i := 50) rfl rfl rfl) (by decide) ?_
          refine lv_iload hx hb (dk1 dF_21 DX12_needing (i := 28) rfl rfl rfl) (lv_at hl 0 rfl) ?_
          refine lv_bipush (v := 8) hx hb (dks dF_16 DX12_needing (i := 29) rfl rfl rfl) (by decide) ?_
          refine lv_icmp_ge (tgt := 91) hx hb (dkS dF_162 DX12_needing (i := 30) rfl rfl rfl) (by decide) (fun h => absurd h (by decide)) (fun _ => ?_)
          refine lv_iload hx hb (dk1 dF_21 DX12_needing (i := 31) rfl rfl rfl) (lv_at hl 1 rfl) ?_
          refine lv_if_ne (tgt := 78) hx hb (dkS dF_154 DX12_needing (i := 32) rfl rfl rfl) (by decide) (fun h => absurd h (by decide)) (fun _ => ?_)
          refine lv_iload_n hx hb (dkP dF_28 DX12_needing (i := 33) rfl rfl) rfl (lv_at hl 4 rfl) ?_
          refine lv_iload hx hb (dk1 dF_21 DX12_needing (i := 34) rfl rfl rfl) (lv_at hl 0 rfl) ?_
          refine lv_ishr hx hb (dkP dF_122 DX12_needing (i := 35) rfl rfl) ?_
          refine z_top (y := 0) (by decide) ?_
          refine lv_iconst (v := 1) hx hb (dkP dF_4 DX12_needing (i := 36) rfl rfl) (by decide) ?_
          refine lv_iand hx hb (dkP dF_126 DX12_needing (i := 37) rfl rfl) ?_
          refine z_top (y := 0) (by decide) ?_
          refine lv_iconst (v := 1) hx hb (dkP dF_4 DX12_needing (i := 38) rfl rfl) (by decide) ?_
          refine lv_icmp_ne (tgt := 82) hx hb (dkS dF_160 DX12_needing (i := 39) rfl rfl rfl) (by decide) (fun _ => ?_) (fun h => absurd h (by decide))
          refine lv_iconst (v := 0) hx hb (dkP dF_3 DX12_needing (i := 47) rfl rfl) (by decide) ?_
          refine lv_istore (lv' := [(5, .int 0), (6, .int 2), (4, .int 3), (3, .int 0), (2, .int 0), (0, .ref (ad 0)), (1, .int (nI a))]) hx hb (dk1 dF_54 DX12_needing (i := 48) rfl rfl rfl) hl (by decide) rfl (fun ls hl => ?_)
          refine lv_iinc (v := 3) (lv' := [(6, .int 3), (5, .int 0), (4, .int 3), (3, .int 0), (2, .int 0), (0, .ref (ad 0)), (1, .int (nI a))]) hx hb (dkI DX12_needing (i := 49) rfl rfl rfl rfl) hl (k := 1) rfl (by decide) (by decide) rfl (fun ls hl => ?_)
          refine lv_goto (tgt := 45) hx hb (dkS dF_167 DX12_needing (i := 50) rfl rfl rfl) (by decide) ?_
          refine lv_iload hx hb (dk1 dF_21 DX12_needing (i := 28) rfl rfl rfl) (lv_at hl 0 rfl) ?_
          refine lv_bipush (v := 8) hx hb (dks dF_16 DX12_needing (i := 29) rfl rfl rfl) (by decide) ?_
          refine lv_icmp_ge (tgt := 91) hx hb (dkS dF_162 DX12_needing (i := 30) rfl rfl rfl) (by decide) (fun h => absurd h (by decide)) (fun _ => ?_)
          refine lv_iload hx hb (dk1 dF_21 DX12_needing (i := 31) rfl rfl rfl) (lv_at hl 1 rfl) ?_
          refine lv_if_ne (tgt := 78) hx hb (dkS dF_154 DX12_needing (i := 32) rfl rfl rfl) (by decide) (fun h => absurd h (by decide)) (fun _ => ?_)
          refine lv_iload_n hx hb (dkP dF_28 DX12_needing (i := 33) rfl rfl) rfl (lv_at hl 4 rfl) ?_
          refine lv_iload hx hb (dk1 dF_21 DX12_needing (i := 34) rfl rfl rfl) (lv_at hl 0 rfl) ?_
          refine lv_ishr hx hb (dkP dF_122 DX12_needing (i := 35) rfl rfl) ?_
          refine z_top (y := 0) (by decide) ?_
          refine lv_iconst (v := 1) hx hb (dkP dF_4 DX12_needing (i := 36) rfl rfl) (by decide) ?_
          refine lv_iand hx hb (dkP dF_126 DX12_needing (i := 37) rfl rfl) ?_
          refine z_top (y := 0) (by decide) ?_
          refine lv_iconst (v := 1) hx hb (dkP dF_4 DX12_needing (i := 38) rfl rfl) (by decide) ?_
          refine lv_icmp_ne (tgt := 82) hx hb (dkS dF_160 DX12_needing (i := 39) rfl rfl rfl) (by decide) (fun _ => ?_) (fun h => absurd h (by decide))
          refine lv_iconst (v := 0) hx hb (dkP dF_3 DX12_needing (i := 47) rfl rfl) (by decide) ?_
          refine lv_istore (lv' := [(5, .int 0), (6, .int 3), (4, .int 3), (3, .int 0), (2, .int 0), (0, .ref (ad 0)), (1, .int (nI a))]) hx hb (dk1 dF_54 DX12_needing (i := 48) rfl rfl rfl) hl (by decide) rfl (fun ls hl => ?_)
          refine lv_iinc (v := 4) (lv' := [(6, .int 4), (5, .int 0), (4, .int 3), (3, .int 0), (2, .int 0), (0, .ref (ad 0)), (1, .int (nI a))]) hx hb (dkI DX12_needing (i := 49) rfl rfl rfl rfl) hl (k := 1) rfl (by decide) (by decide) rfl (fun ls hl => ?_)
          refine lv_goto (tgt := 45) hx hb (dkS dF_167 DX12_needing (i := 50) rfl rfl rfl) (by decide) ?_
          refine lv_iload hx hb (dk1 dF_21 DX12_needing (i := 28) rfl rfl rfl) (lv_at hl 0 rfl) ?_
          refine lv_bipush (v := 8) hx hb (dks dF_16 DX12_needing (i := 29) rfl rfl rfl) (by decide) ?_
          refine lv_icmp_ge (tgt := 91) hx hb (dkS dF_162 DX12_needing (i := 30) rfl rfl rfl) (by decide) (fun h => absurd h (by decide)) (fun _ => ?_)
          refine lv_iload hx hb (dk1 dF_21 DX12_needing (i := 31) rfl rfl rfl) (lv_at hl 1 rfl) ?_
          refine lv_if_ne (tgt := 78) hx hb (dkS dF_154 DX12_needing (i := 32) rfl rfl rfl) (by decide) (fun h => absurd h (by decide)) (fun _ => ?_)
          refine lv_iload_n hx hb (dkP dF_28 DX12_needing (i := 33) rfl rfl) rfl (lv_at hl 4 rfl) ?_
          refine lv_iload hx hb (dk1 dF_21 DX12_needing (i := 34) rfl rfl rfl) (lv_at hl 0 rfl) ?_
          refine lv_ishr hx hb (dkP dF_122 DX12_needing (i := 35) rfl rfl) ?_
          refine z_top (y := 0) (by decide) ?_
          refine lv_iconst (v := 1) hx hb (dkP dF_4 DX12_needing (i := 36) rfl rfl) (by decide) ?_
          refine lv_iand hx hb (dkP dF_126 DX12_needing (i := 37) rfl rfl) ?_
          refine z_top (y := 0) (by decide) ?_
          refine lv_iconst (v := 1) hx hb (dkP dF_4 DX12_needing (i := 38) rfl rfl) (by decide) ?_
          refine lv_icmp_ne (tgt := 82) hx hb (dkS dF_160 DX12_needing (i := 39) rfl rfl rfl) (by decide) (fun _ => ?_) (fun h => absurd h (by decide))
          refine lv_iconst (v := 0) hx hb (dkP dF_3 DX12_needing (i := 47) rfl rfl) (by decide) ?_
          refine lv_istore (lv' := [(5, .int 0), (6, .int 4), (4, .int 3), (3, .int 0), (2, .int 0), (0, .ref (ad 0)), (1, .int (nI a))]) hx hb (dk1 dF_54 DX12_needing (i := 48) rfl rfl rfl) hl (by decide) rfl (fun ls hl => ?_)
          refine lv_iinc (v := 5) (lv' := [(6, .int 5), (5, .int 0), (4, .int 3), (3, .int 0), (2, .int 0), (0, .ref (ad 0)), (1, .int (nI a))]) hx hb (dkI DX12_needing (i := 49) rfl rfl rfl rfl) hl (k := 1) rfl (by decide) (by decide) rfl (fun ls hl => ?_)
          refine lv_goto (tgt := 45) hx hb (dkS dF_167 DX12_needing (i := 50) rfl rfl rfl) (by decide) ?_
          refine lv_iload hx hb (dk1 dF_21 DX12_needing (i := 28) rfl rfl rfl) (lv_at hl 0 rfl) ?_
          refine lv_bipush (v := 8) hx hb (dks dF_16 DX12_needing (i := 29) rfl rfl rfl) (by decide) ?_
          refine lv_icmp_ge (tgt := 91) hx hb (dkS dF_162 DX12_needing (i := 30) rfl rfl rfl) (by decide) (fun h => absurd h (by decide)) (fun _ => ?_)
          refine lv_iload hx hb (dk1 dF_21 DX12_needing (i := 31) rfl rfl rfl) (lv_at hl 1 rfl) ?_
          refine lv_if_ne (tgt := 78) hx hb (dkS dF_154 DX12_needing (i := 32) rfl rfl rfl) (by decide) (fun h => absurd h (by decide)) (fun _ => ?_)
          refine lv_iload_n hx hb (dkP dF_28 DX12_needing (i := 33) rfl rfl) rfl (lv_at hl 4 rfl) ?_
          refine lv_iload hx hb (dk1 dF_21 DX12_needing (i := 34) rfl rfl rfl) (lv_at hl 0 rfl) ?_
          refine lv_ishr hx hb (dkP dF_122 DX12_needing (i := 35) rfl rfl) ?_
          refine z_top (y := 0) (by decide) ?_
          refine lv_iconst (v := 1) hx hb (dkP dF_4 DX12_needing (i := 36) rfl rfl) (by decide) ?_
          refine lv_iand hx hb (dkP dF_126 DX12_needing (i := 37) rfl rfl) ?_
          refine z_top (y := 0) (by decide) ?_
          refine lv_iconst (v := 1) hx hb (dkP dF_4 DX12_needing (i := 38) rfl rfl) (by decide) ?_
          refine lv_icmp_ne (tgt := 82) hx hb (dkS dF_160 DX12_needing (i := 39) rfl rfl rfl) (by decide) (fun _ => ?_) (fun h => absurd h (by decide))
          refine lv_iconst (v := 0) hx hb (dkP dF_3 DX12_needing (i := 47) rfl rfl) (by decide) ?_
          refine lv_istore (lv' := [(5, .int 0), (6, .int 5), (4, .int 3), (3, .int 0), (2, .int 0), (0, .ref (ad 0)), (1, .int (nI a))]) hx hb (dk1 dF_54 DX12_needing (i := 48) rfl rfl rfl) hl (by decide) rfl (fun ls hl => ?_)
          refine lv_iinc (v := 6) (lv' := [(6, .int 6), (5, .int 0), (4, .int 3), (3, .int 0), (2, .int 0), (0, .ref (ad 0)), (1, .int (nI a))]) hx hb (dkI DX12_needing (i := 49) rfl rfl rfl rfl) hl (k := 1) rfl (by decide) (by decide) rfl (fun ls hl => ?_)
          refine lv_goto (tgt := 45) hx hb (dkS dF_167 DX12_needing (i := 50) rfl rfl rfl) (by decide) ?_
          refine lv_iload hx hb (dk1 dF_21 DX12_needing (i := 28) rfl rfl rfl) (lv_at hl 0 rfl) ?_
          refine lv_bipush (v := 8) hx hb (dks dF_16 DX12_needing (i := 29) rfl rfl rfl) (by decide) ?_
          refine lv_icmp_ge (tgt := 91) hx hb (dkS dF_162 DX12_needing (i := 30) rfl rfl rfl) (by decide) (fun h => absurd h (by decide)) (fun _ => ?_)
          refine lv_iload hx hb (dk1 dF_21 DX12_needing (i := 31) rfl rfl rfl) (lv_at hl 1 rfl) ?_
          refine lv_if_ne (tgt := 78) hx hb (dkS dF_154 DX12_needing (i := 32) rfl rfl rfl) (by decide) (fun h => absurd h (by decide)) (fun _ => ?_)
          refine lv_iload_n hx hb (dkP dF_28 DX12_needing (i := 33) rfl rfl) rfl (lv_at hl 4 rfl) ?_
          refine lv_iload hx hb (dk1 dF_21 DX12_needing (i := 34) rfl rfl rfl) (lv_at hl 0 rfl) ?_
          refine lv_ishr hx hb (dkP dF_122 DX12_needing (i := 35) rfl rfl) ?_
          refine z_top (y := 0) (by decide) ?_
          refine lv_iconst (v := 1) hx hb (dkP dF_4 DX12_needing (i := 36) rfl rfl) (by decide) ?_
          refine lv_iand hx hb (dkP dF_126 DX12_needing (i := 37) rfl rfl) ?_
          refine z_top (y := 0) (by decide) ?_
          refine lv_iconst (v := 1) hx hb (dkP dF_4 DX12_needing (i := 38) rfl rfl) (by decide) ?_
          refine lv_icmp_ne (tgt := 82) hx hb (dkS dF_160 DX12_needing (i := 39) rfl rfl rfl) (by decide) (fun _ => ?_) (fun h => absurd h (by decide))
          refine lv_iconst (v := 0) hx hb (dkP dF_3 DX12_needing (i := 47) rfl rfl) (by decide) ?_
          refine lv_istore (lv' := [(5, .int 0), (6, .int 6), (4, .int 3), (3, .int 0), (2, .int 0), (0, .ref (ad 0)), (1, .int (nI a))]) hx hb (dk1 dF_54 DX12_needing (i := 48) rfl rfl rfl) hl (by decide) rfl (fun ls hl => ?_)
          refine lv_iinc (v := 7) (lv' := [(6, .int 7), (5, .int 0), (4, .int 3), (3, .int 0), (2, .int 0), (0, .ref (ad 0)), (1, .int (nI a))]) hx hb (dkI DX12_needing (i := 49) rfl rfl rfl rfl) hl (k := 1) rfl (by decide) (by decide) rfl (fun ls hl => ?_)
          refine lv_goto (tgt := 45) hx hb (dkS dF_167 DX12_needing (i := 50) rfl rfl rfl) (by decide) ?_
          refine lv_iload hx hb (dk1 dF_21 DX12_needing (i := 28) rfl rfl rfl) (lv_at hl 0 rfl) ?_
          refine lv_bipush (v := 8) hx hb (dks dF_16 DX12_needing (i := 29) rfl rfl rfl) (by decide) ?_
          refine lv_icmp_ge (tgt := 91) hx hb (dkS dF_162 DX12_needing (i := 30) rfl rfl rfl) (by decide) (fun h => absurd h (by decide)) (fun _ => ?_)
          refine lv_iload hx hb (dk1 dF_21 DX12_needing (i := 31) rfl rfl rfl) (lv_at hl 1 rfl) ?_
          refine lv_if_ne (tgt := 78) hx hb (dkS dF_154 DX12_needing (i := 32) rfl rfl rfl) (by decide) (fun h => absurd h (by decide)) (fun _ => ?_)
          refine lv_iload_n hx hb (dkP dF_28 DX12_needing (i := 33) rfl rfl) rfl (lv_at hl 4 rfl) ?_
          refine lv_iload hx hb (dk1 dF_21 DX12_needing (i := 34) rfl rfl rfl) (lv_at hl 0 rfl) ?_
          refine lv_ishr hx hb (dkP dF_122 DX12_needing (i := 35) rfl rfl) ?_
          refine z_top (y := 0) (by decide) ?_
          refine lv_iconst (v := 1) hx hb (dkP dF_4 DX12_needing (i := 36) rfl rfl) (by decide) ?_
          refine lv_iand hx hb (dkP dF_126 DX12_needing (i := 37) rfl rfl) ?_
          refine z_top (y := 0) (by decide) ?_
          refine lv_iconst (v := 1) hx hb (dkP dF_4 DX12_needing (i := 38) rfl rfl) (by decide) ?_
          refine lv_icmp_ne (tgt := 82) hx hb (dkS dF_160 DX12_needing (i := 39) rfl rfl rfl) (by decide) (fun _ => ?_) (fun h => absurd h (by decide))
          refine lv_iconst (v := 0) hx hb (dkP dF_3 DX12_needing (i := 47) rfl rfl) (by decide) ?_
          refine lv_istore (lv' := [(5, .int 0), (6, .int 7), (4, .int 3), (3, .int 0), (2, .int 0), (0, .ref (ad 0)), (1, .int (nI a))]) hx hb (dk1 dF_54 DX12_needing (i := 48) rfl rfl rfl) hl (by decide) rfl (fun ls hl => ?_)
          refine lv_iinc (v := 8) (lv' := [(6, .int 8), (5, .int 0), (4, .int 3), (3, .int 0), (2, .int 0), (0, .ref (ad 0)), (1, .int (nI a))]) hx hb (dkI DX12_needing (i := 49) rfl rfl rfl rfl) hl (k := 1) rfl (by decide) (by decide) rfl (fun ls hl => ?_)
          refine lv_goto (tgt := 45) hx hb (dkS dF_167 DX12_needing (i := 50) rfl rfl rfl) (by decide) ?_
          refine lv_iload hx hb (dk1 dF_21 DX12_needing (i := 28) rfl rfl rfl) (lv_at hl 0 rfl) ?_
          refine lv_bipush (v := 8) hx hb (dks dF_16 DX12_needing (i := 29) rfl rfl rfl) (by decide) ?_
          refine lv_icmp_ge (tgt := 91) hx hb (dkS dF_162 DX12_needing (i := 30) rfl rfl rfl) (by decide) (fun _ => ?_) (fun h => absurd h (by decide))
          refine lv_iload hx hb (dk1 dF_21 DX12_needing (i := 51) rfl rfl rfl) (lv_at hl 1 rfl) ?_
          refine lv_if_ne (tgt := 99) hx hb (dkS dF_154 DX12_needing (i := 52) rfl rfl rfl) (by decide) (fun h => absurd h (by decide)) (fun _ => ?_)
          refine lv_goto (tgt := 108) hx hb (dkS dF_167 DX12_needing (i := 53) rfl rfl rfl) (by decide) ?_
          refine lv_iinc (v := 4) (lv' := [(4, .int 4), (6, .int 8), (5, .int 0), (3, .int 0), (2, .int 0), (0, .ref (ad 0)), (1, .int (nI a))]) hx hb (dkI DX12_needing (i := 62) rfl rfl rfl rfl) hl (k := 2) rfl (by decide) (by decide) rfl (fun ls hl => ?_)
          refine lv_goto (tgt := 13) hx hb (dkS dF_167 DX12_needing (i := 63) rfl rfl rfl) (by decide) ?_
          refine lv_iload hx hb (dk1 dF_21 DX12_needing (i := 10) rfl rfl rfl) (lv_at hl 0 rfl) ?_
          refine lv_bipush (v := 8) hx hb (dks dF_16 DX12_needing (i := 11) rfl rfl rfl) (by decide) ?_
          refine lv_icmp_ge (tgt := 114) hx hb (dkS dF_162 DX12_needing (i := 12) rfl rfl rfl) (by decide) (fun h => absurd h (by decide)) (fun _ => ?_)
          refine lv_iload_n hx hb (dkP dF_28 DX12_needing (i := 13) rfl rfl) rfl (lv_at hl 4 rfl) ?_
          refine lv_iload hx hb (dk1 dF_21 DX12_needing (i := 14) rfl rfl rfl) (lv_at hl 0 rfl) ?_
          refine lv_ishr hx hb (dkP dF_122 DX12_needing (i := 15) rfl rfl) ?_
          refine z_top (y := 0) (by decide) ?_
          refine lv_iconst (v := 1) hx hb (dkP dF_4 DX12_needing (i := 16) rfl rfl) (by decide) ?_
          refine lv_iand hx hb (dkP dF_126 DX12_needing (i := 17) rfl rfl) ?_
          refine z_top (y := 0) (by decide) ?_
          refine lv_iconst (v := 1) hx hb (dkP dF_4 DX12_needing (i := 18) rfl rfl) (by decide) ?_
          refine lv_icmp_ne (tgt := 33) hx hb (dkS dF_160 DX12_needing (i := 19) rfl rfl rfl) (by decide) (fun _ => ?_) (fun h => absurd h (by decide))
          refine lv_aload_n hx hb (dkP dF_42 DX12_needing (i := 21) rfl rfl) rfl (lv_at hl 5 rfl) ?_
          refine lv_iload hx hb (dk1 dF_21 DX12_needing (i := 22) rfl rfl rfl) (lv_at hl 0 rfl) ?_
          refine lv_iload_n hx hb (dkP dF_27 DX12_needing (i := 23) rfl rfl) rfl (lv_at hl 6 rfl) ?_
          refine zk_I hw (zr_V (As := [.int 4, .int (nI a)]) (rest := []) C0 (c_X12_isNeed l G kc ad 4 a (by first | omega | assumption | decide | rfl) (by first | omega | assumption | decide | rfl) _) cv_X12_isNeed lk_X12_455 (zp_V C0 hw 0 rfl rfl rfl) rfl hl.1 rfl ⟨by decide, by decide⟩ (Nat.le_of_ble_eq_true rfl) (dk2 dF_182 DX12_needing (i := 24) rfl rfl rfl) ⟨Nat.le_refl _, Nat.le_refl _⟩) (fun r5 s5 H locs hp hw => ?_)
          obtain ⟨hq5, hs5⟩ := hp
          subst hs5
          rcases hq5 with ⟨rfl, hc5⟩ | ⟨rfl, hc5⟩
          · exact False.elim hc5
          · skip
            refine lv_istore (lv' := [(5, .int 0), (4, .int 4), (6, .int 8), (3, .int 0), (2, .int 0), (0, .ref (ad 0)), (1, .int (nI a))]) hx hb (dk1 dF_54 DX12_needing (i := 25) rfl rfl rfl) hl (by decide) rfl (fun ls hl => ?_)
            refine lv_iconst (v := 0) hx hb (dkP dF_3 DX12_needing (i := 26) rfl rfl) (by decide) ?_
            refine lv_istore (lv' := [(6, .int 0), (5, .int 0), (4, .int 4), (3, .int 0), (2, .int 0), (0, .ref (ad 0)), (1, .int (nI a))]) hx hb (dk1 dF_54 DX12_needing (i := 27) rfl rfl rfl) hl (by decide) rfl (fun ls hl => ?_)
            refine lv_iload hx hb (dk1 dF_21 DX12_needing (i := 28) rfl rfl rfl) (lv_at hl 0 rfl) ?_
            refine lv_bipush (v := 8) hx hb (dks dF_16 DX12_needing (i := 29) rfl rfl rfl) (by decide) ?_
            refine lv_icmp_ge (tgt := 91) hx hb (dkS dF_162 DX12_needing (i := 30) rfl rfl rfl) (by decide) (fun h => absurd h (by decide)) (fun _ => ?_)
            refine lv_iload hx hb (dk1 dF_21 DX12_needing (i := 31) rfl rfl rfl) (lv_at hl 1 rfl) ?_
            refine lv_if_ne (tgt := 78) hx hb (dkS dF_154 DX12_needing (i := 32) rfl rfl rfl) (by decide) (fun h => absurd h (by decide)) (fun _ => ?_)
            refine lv_iload_n hx hb (dkP dF_28 DX12_needing (i := 33) rfl rfl) rfl (lv_at hl 4 rfl) ?_
            refine lv_iload hx hb (dk1 dF_21 DX12_needing (i := 34) rfl rfl rfl) (lv_at hl 0 rfl) ?_
            refine lv_ishr hx hb (dkP dF_122 DX12_needing (i := 35) rfl rfl) ?_
            refine z_top (y := 0) (by decide) ?_
            refine lv_iconst (v := 1) hx hb (dkP dF_4 DX12_needing (i := 36) rfl rfl) (by decide) ?_
            refine lv_iand hx hb (dkP dF_126 DX12_needing (i := 37) rfl rfl) ?_
            refine z_top (y := 0) (by decide) ?_
            refine lv_iconst (v := 1) hx hb (dkP dF_4 DX12_needing (i := 38) rfl rfl) (by decide) ?_
            refine lv_icmp_ne (tgt := 82) hx hb (dkS dF_160 DX12_needing (i := 39) rfl rfl rfl) (by decide) (fun _ => ?_) (fun h => absurd h (by decide))
            refine lv_iconst (v := 0) hx hb (dkP dF_3 DX12_needing (i := 47) rfl rfl) (by decide) ?_
            refine lv_istore (lv' := [(5, .int 0), (6, .int 0), (4, .int 4), (3, .int 0), (2, .int 0), (0, .ref (ad 0)), (1, .int (nI a))]) hx hb (dk1 dF_54 DX12_needing (i := 48) rfl rfl rfl) hl (by decide) rfl (fun ls hl => ?_)
            refine lv_iinc (v := 1) (lv' := [(6, .int 1), (5, .int 0), (4, .int 4), (3, .int 0), (2, .int 0), (0, .ref (ad 0)), (1, .int (nI a))]) hx hb (dkI DX12_needing (i := 49) rfl rfl rfl rfl) hl (k := 1) rfl (by decide) (by decide) rfl (fun ls hl => ?_)
            refine lv_goto (tgt := 45) hx hb (dkS dF_167 DX12_needing (i := 50) rfl rfl rfl) (by decide) ?_
            refine lv_iload hx hb (dk1 dF_21 DX12_needing (i := 28) rfl rfl rfl) (lv_at hl 0 rfl) ?_
            refine lv_bipush (v := 8) hx hb (dks dF_16 DX12_needing (i := 29) rfl rfl rfl) (by decide) ?_
            refine lv_icmp_ge (tgt := 91) hx hb (dkS dF_162 DX12_needing (i := 30) rfl rfl rfl) (by decide) (fun h => absurd h (by decide)) (fun _ => ?_)
            refine lv_iload hx hb (dk1 dF_21 DX12_needing (i := 31) rfl rfl rfl) (lv_at hl 1 rfl) ?_
            refine lv_if_ne (tgt := 78) hx hb (dkS dF_154 DX12_needing (i := 32) rfl rfl rfl) (by decide) (fun h => absurd h (by decide)) (fun _ => ?_)
            refine lv_iload_n hx hb (dkP dF_28 DX12_needing (i := 33) rfl rfl) rfl (lv_at hl 4 rfl) ?_
            refine lv_iload hx hb (dk1 dF_21 DX12_needing (i := 34) rfl rfl rfl) (lv_at hl 0 rfl) ?_
            refine lv_ishr hx hb (dkP dF_122 DX12_needing (i := 35) rfl rfl) ?_
            refine z_top (y := 0) (by decide) ?_
            refine lv_iconst (v := 1) hx hb (dkP dF_4 DX12_needing (i := 36) rfl rfl) (by decide) ?_
            refine lv_iand hx hb (dkP dF_126 DX12_needing (i := 37) rfl rfl) ?_
            refine z_top (y := 0) (by decide) ?_
            refine lv_iconst (v := 1) hx hb (dkP dF_4 DX12_needing (i := 38) rfl rfl) (by decide) ?_
            refine lv_icmp_ne (tgt := 82) hx hb (dkS dF_160 DX12_needing (i := 39) rfl rfl rfl) (by decide) (fun _ => ?_) (fun h => absurd h (by decide))
            refine lv_iconst (v := 0) hx hb (dkP dF_3 DX12_needing (i := 47) rfl rfl) (by decide) ?_
            refine lv_istore (lv' := [(5, .int 0), (6, .int 1), (4, .int 4), (3, .int 0), (2, .int 0), (0, .ref (ad 0)), (1, .int (nI a))]) hx hb (dk1 dF_54 DX12_needing (i := 48) rfl rfl rfl) hl (by decide) rfl (fun ls hl => ?_)
            refine lv_iinc (v := 2) (lv' := [(6, .int 2), (5, .int 0), (4, .int 4), (3, .int 0), (2, .int 0), (0, .ref (ad 0)), (1, .int (nI a))]) hx hb (dkI DX12_needing (i := 49) rfl rfl rfl rfl) hl (k := 1) rfl (by decide) (by decide) rfl (fun ls hl => ?_)
            refine lv_goto (tgt := 45) hx hb (dkS dF_167 DX12_needing (i := 50) rfl rfl rfl) (by decide) ?_
            refine lv_iload hx hb (dk1 dF_21 DX12_needing (i := 28) rfl rfl rfl) (lv_at hl 0 rfl) ?_
            refine lv_bipush (v := 8) hx hb (dks dF_16 DX12_needing (i := 29) rfl rfl rfl) (by decide) ?_
            refine lv_icmp_ge (tgt := 91) hx hb (dkS dF_162 DX12_needing (i := 30) rfl rfl rfl) (by decide) (fun h => absurd h (by decide)) (fun _ => ?_)
            refine lv_iload hx hb (dk1 dF_21 DX12_needing (i := 31) rfl rfl rfl) (lv_at hl 1 rfl) ?_
            refine lv_if_ne (tgt := 78) hx hb (dkS dF_154 DX12_needing (i := 32) rfl rfl rfl) (by decide) (fun h => absurd h (by decide)) (fun _ => ?_)
            refine lv_iload_n hx hb (dkP dF_28 DX12_needing (i := 33) rfl rfl) rfl (lv_at hl 4 rfl) ?_
            refine lv_iload hx hb (dk1 dF_21 DX12_needing (i := 34) rfl rfl rfl) (lv_at hl 0 rfl) ?_
            refine lv_ishr hx hb (dkP dF_122 DX12_needing (i := 35) rfl rfl) ?_
            refine z_top (y := 0) (by decide) ?_
            refine lv_iconst (v := 1) hx hb (dkP dF_4 DX12_needing (i := 36) rfl rfl) (by decide) ?_
            refine lv_iand hx hb (dkP dF_126 DX12_needing (i := 37) rfl rfl) ?_
            refine z_top (y := 0) (by decide) ?_
            refine lv_iconst (v := 1) hx hb (dkP dF_4 DX12_needing (i := 38) rfl rfl) (by decide) ?_
            refine lv_icmp_ne (tgt := 82) hx hb (dkS dF_160 DX12_needing (i := 39) rfl rfl rfl) (by decide) (fun _ => ?_) (fun h => absurd h (by decide))
            refine lv_iconst (v := 0) hx hb (dkP dF_3 DX12_needing (i := 47) rfl rfl) (by decide) ?_
            refine lv_istore (lv' := [(5, .int 0), (6, .int 2), (4, .int 4), (3, .int 0), (2, .int 0), (0, .ref (ad 0)), (1, .int (nI a))]) hx hb (dk1 dF_54 DX12_needing (i := 48) rfl rfl rfl) hl (by decide) rfl (fun ls hl => ?_)
            refine lv_iinc (v := 3) (lv' := [(6, .int 3), (5, .int 0), (4, .int 4), (3, .int 0), (2, .int 0), (0, .ref (ad 0)), (1, .int (nI a))]) hx hb (dkI DX12_needing (i := 49) rfl rfl rfl rfl) hl (k := 1) rfl (by decide) (by decide) rfl (fun ls hl => ?_)
            refine lv_goto (tgt := 45) hx hb (dkS dF_167 DX12_needing (i := 50) rfl rfl rfl) (by decide) ?_
            refine lv_iload hx hb (dk1 dF_21 DX12_needing (i := 28) rfl rfl rfl) (lv_at hl 0 rfl) ?_
            refine lv_bipush (v := 8) hx hb (dks dF_16 DX12_needing (i := 29) rfl rfl rfl) (by decide) ?_
            refine lv_icmp_ge (tgt := 91) hx hb (dkS dF_162 DX12_needing (i := 30) rfl rfl rfl) (by decide) (fun h => absurd h (by decide)) (fun _ => ?_)
            refine lv_iload hx hb (dk1 dF_21 DX12_needing (i := 31) rfl rfl rfl) (lv_at hl 1 rfl) ?_
            refine lv_if_ne (tgt := 78) hx hb (dkS dF_154 DX12_needing (i := 32) rfl rfl rfl) (by decide) (fun h => absurd h (by decide)) (fun _ => ?_)
            refine lv_iload_n hx hb (dkP dF_28 DX12_needing (i := 33) rfl rfl) rfl (lv_at hl 4 rfl) ?_
            refine lv_iload hx hb (dk1 dF_21 DX12_needing (i := 34) rfl rfl rfl) (lv_at hl 0 rfl) ?_
            refine lv_ishr hx hb (dkP dF_122 DX12_needing (i := 35) rfl rfl) ?_
            refine z_top (y := 0) (by decide) ?_
            refine lv_iconst (v := 1) hx hb (dkP dF_4 DX12_needing (i := 36) rfl rfl) (by decide) ?_
            refine lv_iand hx hb (dkP dF_126 DX12_needing (i := 37) rfl rfl) ?_
            refine z_top (y := 0) (by decide) ?_
            refine lv_iconst (v := 1) hx hb (dkP dF_4 DX12_needing (i := 38) rfl rfl) (by decide) ?_
            refine lv_icmp_ne (tgt := 82) hx hb (dkS dF_160 DX12_needing (i := 39) rfl rfl rfl) (by decide) (fun _ => ?_) (fun h => absurd h (by decide))
            refine lv_iconst (v := 0) hx hb (dkP dF_3 DX12_needing (i := 47) rfl rfl) (by decide) ?_
            refine lv_istore (lv' := [(5, .int 0), (6, .int 3), (4, .int 4), (3, .int 0), (2, .int 0), (0, .ref (ad 0)), (1, .int (nI a))]) hx hb (dk1 dF_54 DX12_needing (i := 48) rfl rfl rfl) hl (by decide) rfl (fun ls hl => ?_)
            refine lv_iinc (v := 4) (lv' := [(6, .int 4), (5, .int 0), (4, .int 4), (3, .int 0), (2, .int 0), (0, .ref (ad 0)), (1, .int (nI a))]) hx hb (dkI DX12_needing (i := 49) rfl rfl rfl rfl) hl (k := 1) rfl (by decide) (by decide) rfl (fun ls hl => ?_)
            refine lv_goto (tgt := 45) hx hb (dkS dF_167 DX12_needing (i := 50) rfl rfl rfl) (by decide) ?_
            refine lv_iload hx hb (dk1 dF_21 DX12_needing (i := 28) rfl rfl rfl) (lv_at hl 0 rfl) ?_
            refine lv_bipush (v := 8) hx hb (dks dF_16 DX12_needing (i := 29) rfl rfl rfl) (by decide) ?_
            refine lv_icmp_ge (tgt := 91) hx hb (dkS dF_162 DX12_needing (i := 30) rfl rfl rfl) (by decide) (fun h => absurd h (by decide)) (fun _ => ?_)
            refine lv_iload hx hb (dk1 dF_21 DX12_needing (i := 31) rfl rfl rfl) (lv_at hl 1 rfl) ?_
            refine lv_if_ne (tgt := 78) hx hb (dkS dF_154 DX12_needing (i := 32) rfl rfl rfl) (by decide) (fun h => absurd h (by decide)) (fun _ => ?_)
            refine lv_iload_n hx hb (dkP dF_28 DX12_needing (i := 33) rfl rfl) rfl (lv_at hl 4 rfl) ?_
            refine lv_iload hx hb (dk1 dF_21 DX12_needing (i := 34) rfl rfl rfl) (lv_at hl 0 rfl) ?_
            refine lv_ishr hx hb (dkP dF_122 DX12_needing (i := 35) rfl rfl) ?_
            refine z_top (y := 0) (by decide) ?_
            refine lv_iconst (v := 1) hx hb (dkP dF_4 DX12_needing (i := 36) rfl rfl) (by decide) ?_
            refine lv_iand hx hb (dkP dF_126 DX12_needing (i := 37) rfl rfl) ?_
            refine z_top (y := 0) (by decide) ?_
            refine lv_iconst (v := 1) hx hb (dkP dF_4 DX12_needing (i := 38) rfl rfl) (by decide) ?_
            refine lv_icmp_ne (tgt := 82) hx hb (dkS dF_160 DX12_needing (i := 39) rfl rfl rfl) (by decide) (fun _ => ?_) (fun h => absurd h (by decide))
            refine lv_iconst (v := 0) hx hb (dkP dF_3 DX12_needing (i := 47) rfl rfl) (by decide) ?_
            refine lv_istore (lv' := [(5, .int 0), (6, .int 4), (4, .int 4), (3, .int 0), (2, .int 0), (0, .ref (ad 0)), (1, .int (nI a))]) hx hb (dk1 dF_54 DX12_needing (i := 48) rfl rfl rfl) hl (by decide) rfl (fun ls hl => ?_)
            refine lv_iinc (v := 5) (lv' := [(6, .int 5), (5, .int 0), (4, .int 4), (3, .int 0), (2, .int 0), (0, .ref (ad 0)), (1, .int (nI a))]) hx hb (dkI DX12_needing (i := 49) rfl rfl rfl rfl) hl (k := 1) rfl (by decide) (by decide) rfl (fun ls hl => ?_)
            refine lv_goto (tgt := 45) hx hb (dkS dF_167 DX12_needing (i := 50) rfl rfl rfl) (by decide) ?_
            refine lv_iload hx hb (dk1 dF_21 DX12_needing (i := 28) rfl rfl rfl) (lv_at hl 0 rfl) ?_
            refine lv_bipush (v := 8) hx hb (dks dF_16 DX12_needing (i := 29) rfl rfl rfl) (by decide) ?_
            refine lv_icmp_ge (tgt := 91) hx hb (dkS dF_162 DX12_needing (i := 30) rfl rfl rfl) (by decide) (fun h => absurd h (by decide)) (fun _ => ?_)
            refine lv_iload hx hb (dk1 dF_21 DX12_needing (i := 31) rfl rfl rfl) (lv_at hl 1 rfl) ?_
            refine lv_if_ne (tgt := 78) hx hb (dkS dF_154 DX12_needing (i := 32) rfl rfl rfl) (by decide) (fun h => absurd h (by decide)) (fun _ => ?_)
            refine lv_iload_n hx hb (dkP dF_28 DX12_needing (i := 33) rfl rfl) rfl (lv_at hl 4 rfl) ?_
            refine lv_iload hx hb (dk1 dF_21 DX12_needing (i := 34) rfl rfl rfl) (lv_at hl 0 rfl) ?_
            refine lv_ishr hx hb (dkP dF_122 DX12_needing (i := 35) rfl rfl) ?_
            refine z_top (y := 0) (by decide) ?_
            refine lv_iconst (v := 1) hx hb (dkP dF_4 DX12_needing (i := 36) rfl rfl) (by decide) ?_
            refine lv_iand hx hb (dkP dF_126 DX12_needing (i := 37) rfl rfl) ?_
            refine z_top (y := 0) (by decide) ?_
            refine lv_iconst (v := 1) hx hb (dkP dF_4 DX12_needing (i := 38) rfl rfl) (by decide) ?_
            refine lv_icmp_ne (tgt := 82) hx hb (dkS dF_160 DX12_needing (i := 39) rfl rfl rfl) (by decide) (fun _ => ?_) (fun h => absurd h (by decide))
            refine lv_iconst (v := 0) hx hb (dkP dF_3 DX12_needing (i := 47) rfl rfl) (by decide) ?_
            refine lv_istore (lv' := [(5, .int 0), (6, .int 5), (4, .int 4), (3, .int 0), (2, .int 0), (0, .ref (ad 0)), (1, .int (nI a))]) hx hb (dk1 dF_54 DX12_needing (i := 48) rfl rfl rfl) hl (by decide) rfl (fun ls hl => ?_)
            refine lv_iinc (v := 6) (lv' := [(6, .int 6), (5, .int 0), (4, .int 4), (3, .int 0), (2, .int 0), (0, .ref (ad 0)), (1, .int (nI a))]) hx hb (dkI DX12_needing (i := 49) rfl rfl rfl rfl) hl (k := 1) rfl (by decide) (by decide) rfl (fun ls hl => ?_)
            refine lv_goto (tgt := 45) hx hb (dkS dF_167 DX12_needing (i := 50) rfl rfl rfl) (by decide) ?_
            refine lv_iload hx hb (dk1 dF_21 DX12_needing (i := 28) rfl rfl rfl) (lv_at hl 0 rfl) ?_
            refine lv_bipush (v := 8) hx hb (dks dF_16 DX12_needing (i := 29) rfl rfl rfl) (by decide) ?_
            refine lv_icmp_ge (tgt := 91) hx hb (dkS dF_162 DX12_needing (i := 30) rfl rfl rfl) (by decide) (fun h => absurd h (by decide)) (fun _ => ?_)
            refine lv_iload hx hb (dk1 dF_21 DX12_needing (i := 31) rfl rfl rfl) (lv_at hl 1 rfl) ?_
            refine lv_if_ne (tgt := 78) hx hb (dkS dF_154 DX12_needing (i := 32) rfl rfl rfl) (by decide) (fun h => absurd h (by decide)) (fun _ => ?_)
            refine lv_iload_n hx hb (dkP dF_28 DX12_needing (i := 33) rfl rfl) rfl (lv_at hl 4 rfl) ?_
            refine lv_iload hx hb (dk1 dF_21 DX12_needing (i := 34) rfl rfl rfl) (lv_at hl 0 rfl) ?_
            refine lv_ishr hx hb (dkP dF_122 DX12_needing (i := 35) rfl rfl) ?_
            refine z_top (y := 0) (by decide) ?_
            refine lv_iconst (v := 1) hx hb (dkP dF_4 DX12_needing (i := 36) rfl rfl) (by decide) ?_
            refine lv_iand hx hb (dkP dF_126 DX12_needing (i := 37) rfl rfl) ?_
            refine z_top (y := 0) (by decide) ?_
            refine lv_iconst (v := 1) hx hb (dkP dF_4 DX12_needing (i := 38) rfl rfl) (by decide) ?_
            refine lv_icmp_ne (tgt := 82) hx hb (dkS dF_160 DX12_needing (i := 39) rfl rfl rfl) (by decide) (fun _ => ?_) (fun h => absurd h (by decide))
            refine lv_iconst (v := 0) hx hb (dkP dF_3 DX12_needing (i := 47) rfl rfl) (by decide) ?_
            refine lv_istore (lv' := [(5, .int 0), (6, .int 6), (4, .int 4), (3, .int 0), (2, .int 0), (0, .ref (ad 0)), (1, .int (nI a))]) hx hb (dk1 dF_54 DX12_needing (i := 48) rfl rfl rfl) hl (by decide) rfl (fun ls hl => ?_)
            refine lv_iinc (v := 7) (lv' := [(6, .int 7), (5, .int 0), (4, .int 4), (3, .int 0), (2, .int 0), (0, .ref (ad 0)), (1, .int (nI a))]) hx hb (dkI DX12_needing (i := 49) rfl rfl rfl rfl) hl (k := 1) rfl (by decide) (by decide) rfl (fun ls hl => ?_)
            refine lv_goto (tgt := 45) hx hb (dkS dF_167 DX12_needing (i := 50) rfl rfl rfl) (by decide) ?_
            refine lv_iload hx hb (dk1 dF_21 DX12_needing (i := 28) rfl rfl rfl) (lv_at hl 0 rfl) ?_
            refine lv_bipush (v := 8) hx hb (dks dF_16 DX12_needing (i := 29) rfl rfl rfl) (by decide) ?_
            refine lv_icmp_ge (tgt := 91) hx hb (dkS dF_162 DX12_needing (i := 30) rfl rfl rfl) (by decide) (fun h => absurd h (by decide)) (fun _ => ?_)
            refine lv_iload hx hb (dk1 dF_21 DX12_needing (i := 31) rfl rfl rfl) (lv_at hl 1 rfl) ?_
            refine lv_if_ne (tgt := 78) hx hb (dkS dF_154 DX12_needing (i := 32) rfl rfl rfl) (by decide) (fun h => absurd h (by decide)) (fun _ => ?_)
            refine lv_iload_n hx hb (dkP dF_28 DX12_needing (i := 33) rfl rfl) rfl (lv_at hl 4 rfl) ?_
            refine lv_iload hx hb (dk1 dF_21 DX12_needing (i := 34) rfl rfl rfl) (lv_at hl 0 rfl) ?_
            refine lv_ishr hx hb (dkP dF_122 DX12_needing (i := 35) rfl rfl) ?_
            refine z_top (y := 0) (by decide) ?_
            refine lv_iconst (v := 1) hx hb (dkP dF_4 DX12_needing (i := 36) rfl rfl) (by decide) ?_
            refine lv_iand hx hb (dkP dF_126 DX12_needing (i := 37) rfl rfl) ?_
            refine z_top (y := 0) (by decide) ?_
            refine lv_iconst (v := 1) hx hb (dkP dF_4 DX12_needing (i := 38) rfl rfl) (by decide) ?_
            refine lv_icmp_ne (tgt := 82) hx hb (dkS dF_160 DX12_needing (i := 39) rfl rfl rfl) (by decide) (fun _ => ?_) (fun h => absurd h (by decide))
            refine lv_iconst (v := 0) hx hb (dkP dF_3 DX12_needing (i := 47) rfl rfl) (by decide) ?_
            refine lv_istore (lv' := [(5, .int 0), (6, .int 7), (4, .int 4), (3, .int 0), (2, .int 0), (0, .ref (ad 0)), (1, .int (nI a))]) hx hb (dk1 dF_54 DX12_needing (i := 48) rfl rfl rfl) hl (by decide) rfl (fun ls hl => ?_)
            refine lv_iinc (v := 8) (lv' := [(6, .int 8), (5, .int 0), (4, .int 4), (3, .int 0), (2, .int 0), (0, .ref (ad 0)), (1, .int (nI a))]) hx hb (dkI DX12_needing (i := 49) rfl rfl rfl rfl) hl (k := 1) rfl (by decide) (by decide) rfl (fun ls hl => ?_)
            refine lv_goto (tgt := 45) hx hb (dkS dF_167 DX12_needing (i := 50) rfl rfl rfl) (by decide) ?_
            refine lv_iload hx hb (dk1 dF_21 DX12_needing (i := 28) rfl rfl rfl) (lv_at hl 0 rfl) ?_
            refine lv_bipush (v := 8) hx hb (dks dF_16 DX12_needing (i := 29) rfl rfl rfl) (by decide) ?_
            refine lv_icmp_ge (tgt := 91) hx hb (dkS dF_162 DX12_needing (i := 30) rfl rfl rfl) (by decide) (fun _ => ?_) (fun h => absurd h (by decide))
            refine lv_iload hx hb (dk1 dF_21 DX12_needing (i := 51) rfl rfl rfl) (lv_at hl 1 rfl) ?_
            refine lv_if_ne (tgt := 99) hx hb (dkS dF_154 DX12_needing (i := 52) rfl rfl rfl) (by decide) (fun h => absurd h (by decide)) (fun _ => ?_)
            refine lv_goto (tgt := 108) hx hb (dkS dF_167 DX12_needing (i := 53) rfl rfl rfl) (by decide) ?_
            refine lv_iinc (v := 5) (lv' := [(4, .int 5), (6, .int 8), (5, .int 0), (3, .int 0), (2, .int 0), (0, .ref (ad 0)), (1, .int (nI a))]) hx hb (dkI DX12_needing (i := 62) rfl rfl rfl rfl) hl (k := 2) rfl (by decide) (by decide) rfl (fun ls hl => ?_)
            refine lv_goto (tgt := 13) hx hb (dkS dF_167 DX12_needing (i := 63) rfl rfl rfl) (by decide) ?_
            refine lv_iload hx hb (dk1 dF_21 DX12_needing (i := 10) rfl rfl rfl) (lv_at hl 0 rfl) ?_
            refine lv_bipush (v := 8) hx hb (dks dF_16 DX12_needing (i := 11) rfl rfl rfl) (by decide) ?_
            refine lv_icmp_ge (tgt := 114) hx hb (dkS dF_162 DX12_needing (i := 12) rfl rfl rfl) (by decide) (fun h => absurd h (by decide)) (fun _ => ?_)
            refine lv_iload_n hx hb (dkP dF_28 DX12_needing (i := 13) rfl rfl) rfl (lv_at hl 4 rfl) ?_
            refine lv_iload hx hb (dk1 dF_21 DX12_needing (i := 14) rfl rfl rfl) (lv_at hl 0 rfl) ?_
            refine lv_ishr hx hb (dkP dF_122 DX12_needing (i := 15) rfl rfl) ?_
            refine z_top (y := 0) (by decide) ?_
            refine lv_iconst (v := 1) hx hb (dkP dF_4 DX12_needing (i := 16) rfl rfl) (by decide) ?_
            refine lv_iand hx hb (dkP dF_126 DX12_needing (i := 17) rfl rfl) ?_
            refine z_top (y := 0) (by decide) ?_
            refine lv_iconst (v := 1) hx hb (dkP dF_4 DX12_needing (i := 18) rfl rfl) (by decide) ?_
            refine lv_icmp_ne (tgt := 33) hx hb (dkS dF_160 DX12_needing (i := 19) rfl rfl rfl) (by decide) (fun _ => ?_) (fun h => absurd h (by decide))
            refine lv_aload_n hx hb (dkP dF_42 DX12_needing (i := 21) rfl rfl) rfl (lv_at hl 5 rfl) ?_
            refine lv_iload hx hb (dk1 dF_21 DX12_needing (i := 22) rfl rfl rfl) (lv_at hl 0 rfl) ?_
            refine lv_iload_n hx hb (dkP dF_27 DX12_needing (i := 23) rfl rfl) rfl (lv_at hl 6 rfl) ?_
            refine zk_I hw (zr_V (As := [.int 5, .int (nI a)]) (rest := []) C0 (c_X12_isNeed l G kc ad 5 a (by first | omega | assumption | decide | rfl) (by first | omega | assumption | decide | rfl) _) cv_X12_isNeed lk_X12_455 (zp_V C0 hw 0 rfl rfl rfl) rfl hl.1 rfl ⟨by decide, by decide⟩ (Nat.le_of_ble_eq_true rfl) (dk2 dF_182 DX12_needing (i := 24) rfl rfl rfl) ⟨Nat.le_refl _, Nat.le_refl _⟩) (fun r6 s6 H locs hp hw => ?_)
            obtain ⟨hq6, hs6⟩ := hp
            subst hs6
            rcases hq6 with ⟨rfl, hc6⟩ | ⟨rfl, hc6⟩
            · exact False.elim hc6
            · skip
              refine lv_istore (lv' := [(5, .int 0), (4, .int 5), (6, .int 8), (3, .int 0), (2, .int 0), (0, .ref (ad 0)), (1, .int (nI a))]) hx hb (dk1 dF_54 DX12_needing (i := 25) rfl rfl rfl) hl (by decide) rfl (fun ls hl => ?_)
              refine lv_iconst (v := 0) hx hb (dkP dF_3 DX12_needing (i := 26) rfl rfl) (by decide) ?_
              refine lv_istore (lv' := [(6, .int 0), (5, .int 0), (4, .int 5), (3, .int 0), (2, .int 0), (0, .ref (ad 0)), (1, .int (nI a))]) hx hb (dk1 dF_54 DX12_needing (i := 27) rfl rfl rfl) hl (by decide) rfl (fun ls hl => ?_)
              refine lv_iload hx hb (dk1 dF_21 DX12_needing (i := 28) rfl rfl rfl) (lv_at hl 0 rfl) ?_
              refine lv_bipush (v := 8) hx hb (dks dF_16 DX12_needing (i := 29) rfl rfl rfl) (by decide) ?_
              refine lv_icmp_ge (tgt := 91) hx hb (dkS dF_162 DX12_needing (i := 30) rfl rfl rfl) (by decide) (fun h => absurd h (by decide)) (fun _ => ?_)
              refine lv_iload hx hb (dk1 dF_21 DX12_needing (i := 31) rfl rfl rfl) (lv_at hl 1 rfl) ?_
              refine lv_if_ne (tgt := 78) hx hb (dkS dF_154 DX12_needing (i := 32) rfl rfl rfl) (by decide) (fun h => absurd h (by decide)) (fun _ => ?_)
              refine lv_iload_n hx hb (dkP dF_28 DX12_needing (i := 33) rfl rfl) rfl (lv_at hl 4 rfl) ?_
              refine lv_iload hx hb (dk1 dF_21 DX12_needing (i := 34) rfl rfl rfl) (lv_at hl 0 rfl) ?_
              refine lv_ishr hx hb (dkP dF_122 DX12_needing (i := 35) rfl rfl) ?_
              refine z_top (y := 0) (by decide) ?_
              refine lv_iconst (v := 1) hx hb (dkP dF_4 DX12_needing (i := 36) rfl rfl) (by decide) ?_
              refine lv_iand hx hb (dkP dF_126 DX12_needing (i := 37) rfl rfl) ?_
              refine z_top (y := 0) (by decide) ?_
              refine lv_iconst (v := 1) hx hb (dkP dF_4 DX12_needing (i := 38) rfl rfl) (by decide) ?_
              refine lv_icmp_ne (tgt := 82) hx hb (dkS dF_160 DX12_needing (i := 39) rfl rfl rfl) (by decide) (fun _ => ?_) (fun h => absurd h (by decide))
              refine lv_iconst (v := 0) hx hb (dkP dF_3 DX12_needing (i := 47) rfl rfl) (by decide) ?_
              refine lv_istore (lv' := [(5, .int 0), (6, .int 0), (4, .int 5), (3, .int 0), (2, .int 0), (0, .ref (ad 0)), (1, .int (nI a))]) hx hb (dk1 dF_54 DX12_needing (i := 48) rfl rfl rfl) hl (by decide) rfl (fun ls hl => ?_)
              refine lv_iinc (v := 1) (lv' := [(6, .int 1), (5, .int 0), (4, .int 5), (3, .int 0), (2, .int 0), (0, .ref (ad 0)), (1, .int (nI a))]) hx hb (dkI DX12_needing (i := 49) rfl rfl rfl rfl) hl (k := 1) rfl (by decide) (by decide) rfl (fun ls hl => ?_)
              refine lv_goto (tgt := 45) hx hb (dkS dF_167 DX12_needing (i := 50) rfl rfl rfl) (by decide) ?_
              refine lv_iload hx hb (dk1 dF_21 DX12_needing (i := 28) rfl rfl rfl) (lv_at hl 0 rfl) ?_
              refine lv_bipush (v := 8) hx hb (dks dF_16 DX12_needing (i := 29) rfl rfl rfl) (by decide) ?_
              refine lv_icmp_ge (tgt := 91) hx hb (dkS dF_162 DX12_needing (i := 30) rfl rfl rfl) (by decide) (fun h => absurd h (by decide)) (fun _ => ?_)
              refine lv_iload hx hb (dk1 dF_21 DX12_needing (i := 31) rfl rfl rfl) (lv_at hl 1 rfl) ?_
              refine lv_if_ne (tgt := 78) hx hb (dkS dF_154 DX12_needing (i := 32) rfl rfl rfl) (by decide) (fun h => absurd h (by decide)) (fun _ => ?_)
              refine lv_iload_n hx hb (dkP dF_28 DX12_needing (i := 33) rfl rfl) rfl (lv_at hl 4 rfl) ?_
              refine lv_iload hx hb (dk1 dF_21 DX12_needing (i := 34) rfl rfl rfl) (lv_at hl 0 rfl) ?_
              refine lv_ishr hx hb (dkP dF_122 DX12_needing (i := 35) rfl rfl) ?_
              refine z_top (y := 0) (by decide) ?_
              refine lv_iconst (v := 1) hx hb (dkP dF_4 DX12_needing (i := 36) rfl rfl) (by decide) ?_
              refine lv_iand hx hb (dkP dF_126 DX12_needing (i := 37) rfl rfl) ?_
              refine z_top (y := 0) (by decide) ?_
              refine lv_iconst (v := 1) hx hb (dkP dF_4 DX12_needing (i := 38) rfl rfl) (by decide) ?_
              refine lv_icmp_ne (tgt := 82) hx hb (dkS dF_160 DX12_needing (i := 39) rfl rfl rfl) (by decide) (fun _ => ?_) (fun h => absurd h (by decide))
              refine lv_iconst (v := 0) hx hb (dkP dF_3 DX12_needing (i := 47) rfl rfl) (by decide) ?_
              refine lv_istore (lv' := [(5, .int 0), (6, .int 1), (4, .int 5), (3, .int 0), (2, .int 0), (0, .ref (ad 0)), (1, .int (nI a))]) hx hb (dk1 dF_54 DX12_needing (i := 48) rfl rfl rfl) hl (by decide) rfl (fun ls hl => ?_)
              refine lv_iinc (v := 2) (lv' := [(6, .int 2), (5, .int 0), (4, .int 5), (3, .int 0), (2, .int 0), (0, .ref (ad 0)), (1, .int (nI a))]) hx hb (dkI DX12_needing (i := 49) rfl rfl rfl rfl) hl (k := 1) rfl (by decide) (by decide) rfl (fun ls hl => ?_)
              refine lv_goto (tgt := 45) hx hb (dkS dF_167 DX12_needing (i := 50) rfl rfl rfl) (by decide) ?_
              refine lv_iload hx hb (dk1 dF_21 DX12_needing (i := 28) rfl rfl rfl) (lv_at hl 0 rfl) ?_
              refine lv_bipush (v := 8) hx hb (dks dF_16 DX12_needing (i := 29) rfl rfl rfl) (by decide) ?_
              refine lv_icmp_ge (tgt := 91) hx hb (dkS dF_162 DX12_needing (i := 30) rfl rfl rfl) (by decide) (fun h => absurd h (by decide)) (fun _ => ?_)
              refine lv_iload hx hb (dk1 dF_21 DX12_needing (i := 31) rfl rfl rfl) (lv_at hl 1 rfl) ?_
              refine lv_if_ne (tgt := 78) hx hb (dkS dF_154 DX12_needing (i := 32) rfl rfl rfl) (by decide) (fun h => absurd h (by decide)) (fun _ => ?_)
              refine lv_iload_n hx hb (dkP dF_28 DX12_needing (i := 33) rfl rfl) rfl (lv_at hl 4 rfl) ?_
              refine lv_iload hx hb (dk1 dF_21 DX12_needing (i := 34) rfl rfl rfl) (lv_at hl 0 rfl) ?_
              refine lv_ishr hx hb (dkP dF_122 DX12_needing (i := 35) rfl rfl) ?_
              refine z_top (y := 0) (by decide) ?_
              refine lv_iconst (v := 1) hx hb (dkP dF_4 DX12_needing (i := 36) rfl rfl) (by decide) ?_
              refine lv_iand hx hb (dkP dF_126 DX12_needing (i := 37) rfl rfl) ?_
              refine z_top (y := 0) (by decide) ?_
              refine lv_iconst (v := 1) hx hb (dkP dF_4 DX12_needing (i := 38) rfl rfl) (by decide) ?_
              refine lv_icmp_ne (tgt := 82) hx hb (dkS dF_160 DX12_needing (i := 39) rfl rfl rfl) (by decide) (fun _ => ?_) (fun h => absurd h (by decide))
              refine lv_iconst (v := 0) hx hb (dkP dF_3 DX12_needing (i := 47) rfl rfl) (by decide) ?_
              refine lv_istore (lv' := [(5, .int 0), (6, .int 2), (4, .int 5), (3, .int 0), (2, .int 0), (0, .ref (ad 0)), (1, .int (nI a))]) hx hb (dk1 dF_54 DX12_needing (i := 48) rfl rfl rfl) hl (by decide) rfl (fun ls hl => ?_)
              refine lv_iinc (v := 3) (lv' := [(6, .int 3), (5, .int 0), (4, .int 5), (3, .int 0), (2, .int 0), (0, .ref (ad 0)), (1, .int (nI a))]) hx hb (dkI DX12_needing (i := 49) rfl rfl rfl rfl) hl (k := 1) rfl (by decide) (by decide) rfl (fun ls hl => ?_)
              refine lv_goto (tgt := 45) hx hb (dkS dF_167 DX12_needing (i := 50) rfl rfl rfl) (by decide) ?_
              refine lv_iload hx hb (dk1 dF_21 DX12_needing (i := 28) rfl rfl rfl) (lv_at hl 0 rfl) ?_
              refine lv_bipush (v := 8) hx hb (dks dF_16 DX12_needing (i := 29) rfl rfl rfl) (by decide) ?_
              refine lv_icmp_ge (tgt := 91) hx hb (dkS dF_162 DX12_needing (i := 30) rfl rfl rfl) (by decide) (fun h => absurd h (by decide)) (fun _ => ?_)
              refine lv_iload hx hb (dk1 dF_21 DX12_needing (i := 31) rfl rfl rfl) (lv_at hl 1 rfl) ?_
              refine lv_if_ne (tgt := 78) hx hb (dkS dF_154 DX12_needing (i := 32) rfl rfl rfl) (by decide) (fun h => absurd h (by decide)) (fun _ => ?_)
              refine lv_iload_n hx hb (dkP dF_28 DX12_needing (i := 33) rfl rfl) rfl (lv_at hl 4 rfl) ?_
              refine lv_iload hx hb (dk1 dF_21 DX12_needing (i := 34) rfl rfl rfl) (lv_at hl 0 rfl) ?_
              refine lv_ishr hx hb (dkP dF_122 DX12_needing (i := 35) rfl rfl) ?_
              refine z_top (y := 0) (by decide) ?_
              refine lv_iconst (v := 1) hx hb (dkP dF_4 DX12_needing (i := 36) rfl rfl) (by decide) ?_
              refine lv_iand hx hb (dkP dF_126 DX12_needing (i := 37) rfl rfl) ?_
              refine z_top (y := 0) (by decide) ?_
              refine lv_iconst (v := 1) hx hb (dkP dF_4 DX12_needing (i := 38) rfl rfl) (by decide) ?_
              refine lv_icmp_ne (tgt := 82) hx hb (dkS dF_160 DX12_needing (i := 39) rfl rfl rfl) (by decide) (fun _ => ?_) (fun h => absurd h (by decide))
              refine lv_iconst (v := 0) hx hb (dkP dF_3 DX12_needing (i := 47) rfl rfl) (by decide) ?_
              refine lv_istore (lv' := [(5, .int 0), (6, .int 3), (4, .int 5), (3, .int 0), (2, .int 0), (0, .ref (ad 0)), (1, .int (nI a))]) hx hb (dk1 dF_54 DX12_needing (i := 48) rfl rfl rfl) hl (by decide) rfl (fun ls hl => ?_)
              refine lv_iinc (v := 4) (lv' := [(6, .int 4), (5, .int 0), (4, .int 5), (3, .int 0), (2, .int 0), (0, .ref (ad 0)), (1, .int (nI a))]) hx hb (dkI DX12_needing (i := 49) rfl rfl rfl rfl) hl (k := 1) rfl (by decide) (by decide) rfl (fun ls hl => ?_)
              refine lv_goto (tgt := 45) hx hb (dkS dF_167 DX12_needing (i := 50) rfl rfl rfl) (by decide) ?_
              refine lv_iload hx hb (dk1 dF_21 DX12_needing (i := 28) rfl rfl rfl) (lv_at hl 0 rfl) ?_
              refine lv_bipush (v := 8) hx hb (dks dF_16 DX12_needing (i := 29) rfl rfl rfl) (by decide) ?_
              refine lv_icmp_ge (tgt := 91) hx hb (dkS dF_162 DX12_needing (i := 30) rfl rfl rfl) (by decide) (fun h => absurd h (by decide)) (fun _ => ?_)
              refine lv_iload hx hb (dk1 dF_21 DX12_needing (i := 31) rfl rfl rfl) (lv_at hl 1 rfl) ?_
              refine lv_if_ne (tgt := 78) hx hb (dkS dF_154 DX12_needing (i := 32) rfl rfl rfl) (by decide) (fun h => absurd h (by decide)) (fun _ => ?_)
              refine lv_iload_n hx hb (dkP dF_28 DX12_needing (i := 33) rfl rfl) rfl (lv_at hl 4 rfl) ?_
              refine lv_iload hx hb (dk1 dF_21 DX12_needing (i := 34) rfl rfl rfl) (lv_at hl 0 rfl) ?_
              refine lv_ishr hx hb (dkP dF_122 DX12_needing (i := 35) rfl rfl) ?_
              refine z_top (y := 0) (by decide) ?_
              refine lv_iconst (v := 1) hx hb (dkP dF_4 DX12_needing (i := 36) rfl rfl) (by decide) ?_
              refine lv_iand hx hb (dkP dF_126 DX12_needing (i := 37) rfl rfl) ?_
              refine z_top (y := 0) (by decide) ?_
              refine lv_iconst (v := 1) hx hb (dkP dF_4 DX12_needing (i := 38) rfl rfl) (by decide) ?_
              refine lv_icmp_ne (tgt := 82) hx hb (dkS dF_160 DX12_needing (i := 39) rfl rfl rfl) (by decide) (fun _ => ?_) (fun h => absurd h (by decide))
              refine lv_iconst (v := 0) hx hb (dkP dF_3 DX12_needing (i := 47) rfl rfl) (by decide) ?_
              refine lv_istore (lv' := [(5, .int 0), (6, .int 4), (4, .int 5), (3, .int 0), (2, .int 0), (0, .ref (ad 0)), (1, .int (nI a))]) hx hb (dk1 dF_54 DX12_needing (i := 48) rfl rfl rfl) hl (by decide) rfl (fun ls hl => ?_)
              refine lv_iinc (v := 5) (lv' := [(6, .int 5), (5, .int 0), (4, .int 5), (3, .int 0), (2, .int 0), (0, .ref (ad 0)), (1, .int (nI a))]) hx hb (dkI DX12_needing (i := 49) rfl rfl rfl rfl) hl (k := 1) rfl (by decide) (by decide) rfl (fun ls hl => ?_)
              refine lv_goto (tgt := 45) hx hb (dkS dF_167 DX12_needing (i := 50) rfl rfl rfl) (by decide) ?_
              refine lv_iload hx hb (dk1 dF_21 DX12_needing (i := 28) rfl rfl rfl) (lv_at hl 0 rfl) ?_
              refine lv_bipush (v := 8) hx hb (dks dF_16 DX12_needing (i := 29) rfl rfl rfl) (by decide) ?_
              refine lv_icmp_ge (tgt := 91) hx hb (dkS dF_162 DX12_needing (i := 30) rfl rfl rfl) (by decide) (fun h => absurd h (by decide)) (fun _ => ?_)
              refine lv_iload hx hb (dk1 dF_21 DX12_needing (i := 31) rfl rfl rfl) (lv_at hl 1 rfl) ?_
              refine lv_if_ne (tgt := 78) hx hb (dkS dF_154 DX12_needing (i := 32) rfl rfl rfl) (by decide) (fun h => absurd h (by decide)) (fun _ => ?_)
              refine lv_iload_n hx hb (dkP dF_28 DX12_needing (i := 33) rfl rfl) rfl (lv_at hl 4 rfl) ?_
              refine lv_iload hx hb (dk1 dF_21 DX12_needing (i := 34) rfl rfl rfl) (lv_at hl 0 rfl) ?_
              refine lv_ishr hx hb (dkP dF_122 DX12_needing (i := 35) rfl rfl) ?_
              refine z_top (y := 0) (by decide) ?_
              refine lv_iconst (v := 1) hx hb (dkP dF_4 DX12_needing (i := 36) rfl rfl) (by decide) ?_
              refine lv_iand hx hb (dkP dF_126 DX12_needing (i := 37) rfl rfl) ?_
              refine z_top (y := 0) (by decide) ?_
              refine lv_iconst (v := 1) hx hb (dkP dF_4 DX12_needing (i := 38) rfl rfl) (by decide) ?_
              refine lv_icmp_ne (tgt := 82) hx hb (dkS dF_160 DX12_needing (i := 39) rfl rfl rfl) (by decide) (fun _ => ?_) (fun h => absurd h (by decide))
              refine lv_iconst (v := 0) hx hb (dkP dF_3 DX12_needing (i := 47) rfl rfl) (by decide) ?_
              refine lv_istore (lv' := [(5, .int 0), (6, .int 5), (4, .int 5), (3, .int 0), (2, .int 0), (0, .ref (ad 0)), (1, .int (nI a))]) hx hb (dk1 dF_54 DX12_needing (i := 48) rfl rfl rfl) hl (by decide) rfl (fun ls hl => ?_)
              refine lv_iinc (v := 6) (lv' := [(6, .int 6), (5, .int 0), (4, .int 5), (3, .int 0), (2, .int 0), (0, .ref (ad 0)), (1, .int (nI a))]) hx hb (dkI DX12_needing (i := 49) rfl rfl rfl rfl) hl (k := 1) rfl (by decide) (by decide) rfl (fun ls hl => ?_)
              refine lv_goto (tgt := 45) hx hb (dkS dF_167 DX12_needing (i := 50) rfl rfl rfl) (by decide) ?_
              refine lv_iload hx hb (dk1 dF_21 DX12_needing (i := 28) rfl rfl rfl) (lv_at hl 0 rfl) ?_
              refine lv_bipush (v := 8) hx hb (dks dF_16 DX12_needing (i := 29) rfl rfl rfl) (by decide) ?_
              refine lv_icmp_ge (tgt := 91) hx hb (dkS dF_162 DX12_needing (i := 30) rfl rfl rfl) (by decide) (fun h => absurd h (by decide)) (fun _ => ?_)
              refine lv_iload hx hb (dk1 dF_21 DX12_needing (i := 31) rfl rfl rfl) (lv_at hl 1 rfl) ?_
              refine lv_if_ne (tgt := 78) hx hb (dkS dF_154 DX12_needing (i := 32) rfl rfl rfl) (by decide) (fun h => absurd h (by decide)) (fun _ => ?_)
              refine lv_iload_n hx hb (dkP dF_28 DX12_needing (i := 33) rfl rfl) rfl (lv_at hl 4 rfl) ?_
              refine lv_iload hx hb (dk1 dF_21 DX12_needing (i := 34) rfl rfl rfl) (lv_at hl 0 rfl) ?_
              refine lv_ishr hx hb (dkP dF_122 DX12_needing (i := 35) rfl rfl) ?_
              refine z_top (y := 0) (by decide) ?_
              refine lv_iconst (v := 1) hx hb (dkP dF_4 DX12_needing (i := 36) rfl rfl) (by decide) ?_
              refine lv_iand hx hb (dkP dF_126 DX12_needing (i := 37) rfl rfl) ?_
              refine z_top (y := 0) (by decide) ?_
              refine lv_iconst (v := 1) hx hb (dkP dF_4 DX12_needing (i := 38) rfl rfl) (by decide) ?_
              refine lv_icmp_ne (tgt := 82) hx hb (dkS dF_160 DX12_needing (i := 39) rfl rfl rfl) (by decide) (fun _ => ?_) (fun h => absurd h (by decide))
              refine lv_iconst (v := 0) hx hb (dkP dF_3 DX12_needing (i := 47) rfl rfl) (by decide) ?_
              refine lv_istore (lv' := [(5, .int 0), (6, .int 6), (4, .int 5), (3, .int 0), (2, .int 0), (0, .ref (ad 0)), (1, .int (nI a))]) hx hb (dk1 dF_54 DX12_needing (i := 48) rfl rfl rfl) hl (by decide) rfl (fun ls hl => ?_)
              refine lv_iinc (v := 7) (lv' := [(6, .int 7), (5, .int 0), (4, .int 5), (3, .int 0), (2, .int 0), (0, .ref (ad 0)), (1, .int (nI a))]) hx hb (dkI DX12_needing (i := 49) rfl rfl rfl rfl) hl (k := 1) rfl (by decide) (by decide) rfl (fun ls hl => ?_)
              refine lv_goto (tgt := 45) hx hb (dkS dF_167 DX12_needing (i := 50) rfl rfl rfl) (by decide) ?_
              refine lv_iload hx hb (dk1 dF_21 DX12_needing (i := 28) rfl rfl rfl) (lv_at hl 0 rfl) ?_
              refine lv_bipush (v := 8) hx hb (dks dF_16 DX12_needing (i := 29) rfl rfl rfl) (by decide) ?_
              refine lv_icmp_ge (tgt := 91) hx hb (dkS dF_162 DX12_needing (i := 30) rfl rfl rfl) (by decide) (fun h => absurd h (by decide)) (fun _ => ?_)
              refine lv_iload hx hb (dk1 dF_21 DX12_needing (i := 31) rfl rfl rfl) (lv_at hl 1 rfl) ?_
              refine lv_if_ne (tgt := 78) hx hb (dkS dF_154 DX12_needing (i := 32) rfl rfl rfl) (by decide) (fun h => absurd h (by decide)) (fun _ => ?_)
              refine lv_iload_n hx hb (dkP dF_28 DX12_needing (i := 33) rfl rfl) rfl (lv_at hl 4 rfl) ?_
              refine lv_iload hx hb (dk1 dF_21 DX12_needing (i := 34) rfl rfl rfl) (lv_at hl 0 rfl) ?_
              refine lv_ishr hx hb (dkP dF_122 DX12_needing (i := 35) rfl rfl) ?_
              refine z_top (y := 0) (by decide) ?_
              refine lv_iconst (v := 1) hx hb (dkP dF_4 DX12_needing (i := 36) rfl rfl) (by decide) ?_
              refine lv_iand hx hb (dkP dF_126 DX12_needing (i := 37) rfl rfl) ?_
              refine z_top (y := 0) (by decide) ?_
              refine lv_iconst (v := 1) hx hb (dkP dF_4 DX12_needing (i := 38) rfl rfl) (by decide) ?_
              refine lv_icmp_ne (tgt := 82) hx hb (dkS dF_160 DX12_needing (i := 39) rfl rfl rfl) (by decide) (fun _ => ?_) (fun h => absurd h (by decide))
              refine lv_iconst (v := 0) hx hb (dkP dF_3 DX12_needing (i := 47) rfl rfl) (by decide) ?_
              refine lv_istore (lv' := [(5, .int 0), (6, .int 7), (4, .int 5), (3, .int 0), (2, .int 0), (0, .ref (ad 0)), (1, .int (nI a))]) hx hb (dk1 dF_54 DX12_needing (i := 48) rfl rfl rfl) hl (by decide) rfl (fun ls hl => ?_)
              refine lv_iinc (v := 8) (lv' := [(6, .int 8), (5, .int 0), (4, .int 5), (3, .int 0), (2, .int 0), (0, .ref (ad 0)), (1, .int (nI a))]) hx hb (dkI DX12_needing (i := 49) rfl rfl rfl rfl) hl (k := 1) rfl (by decide) (by decide) rfl (fun ls hl => ?_)
              refine lv_goto (tgt := 45) hx hb (dkS dF_167 DX12_needing (i := 50) rfl rfl rfl) (by decide) ?_
              refine lv_iload hx hb (dk1 dF_21 DX12_needing (i := 28) rfl rfl rfl) (lv_at hl 0 rfl) ?_
              refine lv_bipush (v := 8) hx hb (dks dF_16 DX12_needing (i := 29) rfl rfl rfl) (by decide) ?_
              refine lv_icmp_ge (tgt := 91) hx hb (dkS dF_162 DX12_needing (i := 30) rfl rfl rfl) (by decide) (fun _ => ?_) (fun h => absurd h (by decide))
              refine lv_iload hx hb (dk1 dF_21 DX12_needing (i := 51) rfl rfl rfl) (lv_at hl 1 rfl) ?_
              refine lv_if_ne (tgt := 99) hx hb (dkS dF_154 DX12_needing (i := 52) rfl rfl rfl) (by decide) (fun h => absurd h (by decide)) (fun _ => ?_)
              refine lv_goto (tgt := 108) hx hb (dkS dF_167 DX12_needing (i := 53) rfl rfl rfl) (by decide) ?_
              refine lv_iinc (v := 6) (lv' := [(4, .int 6), (6, .int 8), (5, .int 0), (3, .int 0), (2, .int 0), (0, .ref (ad 0)), (1, .int (nI a))]) hx hb (dkI DX12_needing (i := 62) rfl rfl rfl rfl) hl (k := 2) rfl (by decide) (by decide) rfl (fun ls hl => ?_)
              refine lv_goto (tgt := 13) hx hb (dkS dF_167 DX12_needing (i := 63) rfl rfl rfl) (by decide) ?_
              refine lv_iload hx hb (dk1 dF_21 DX12_needing (i := 10) rfl rfl rfl) (lv_at hl 0 rfl) ?_
              refine lv_bipush (v := 8) hx hb (dks dF_16 DX12_needing (i := 11) rfl rfl rfl) (by decide) ?_
              refine lv_icmp_ge (tgt := 114) hx hb (dkS dF_162 DX12_needing (i := 12) rfl rfl rfl) (by decide) (fun h => absurd h (by decide)) (fun _ => ?_)
              refine lv_iload_n hx hb (dkP dF_28 DX12_needing (i := 13) rfl rfl) rfl (lv_at hl 4 rfl) ?_
              refine lv_iload hx hb (dk1 dF_21 DX12_needing (i := 14) rfl rfl rfl) (lv_at hl 0 rfl) ?_
              refine lv_ishr hx hb (dkP dF_122 DX12_needing (i := 15) rfl rfl) ?_
              refine z_top (y := 0) (by decide) ?_
              refine lv_iconst (v := 1) hx hb (dkP dF_4 DX12_needing (i := 16) rfl rfl) (by decide) ?_
              refine lv_iand hx hb (dkP dF_126 DX12_needing (i := 17) rfl rfl) ?_
              refine z_top (y := 0) (by decide) ?_
              refine lv_iconst (v := 1) hx hb (dkP dF_4 DX12_needing (i := 18) rfl rfl) (by decide) ?_
              refine lv_icmp_ne (tgt := 33) hx hb (dkS dF_160 DX12_needing (i := 19) rfl rfl rfl) (by decide) (fun _ => ?_) (fun h => absurd h (by decide))
              refine lv_aload_n hx hb (dkP dF_42 DX12_needing (i := 21) rfl rfl) rfl (lv_at hl 5 rfl) ?_
              refine lv_iload hx hb (dk1 dF_21 DX12_needing (i := 22) rfl rfl rfl) (lv_at hl 0 rfl) ?_
              refine lv_iload_n hx hb (dkP dF_27 DX12_needing (i := 23) rfl rfl) rfl (lv_at hl 6 rfl) ?_
              refine zk_I hw (zr_V (As := [.int 6, .int (nI a)]) (rest := []) C0 (c_X12_isNeed l G kc ad 6 a (by first | omega | assumption | decide | rfl) (by first | omega | assumption | decide | rfl) _) cv_X12_isNeed lk_X12_455 (zp_V C0 hw 0 rfl rfl rfl) rfl hl.1 rfl ⟨by decide, by decide⟩ (Nat.le_of_ble_eq_true rfl) (dk2 dF_182 DX12_needing (i := 24) rfl rfl rfl) ⟨Nat.le_refl _, Nat.le_refl _⟩) (fun r7 s7 H locs hp hw => ?_)
              obtain ⟨hq7, hs7⟩ := hp
              subst hs7
              rcases hq7 with ⟨rfl, hc7⟩ | ⟨rfl, hc7⟩
              · exact False.elim hc7
              · skip
                refine lv_istore (lv' := [(5, .int 0), (4, .int 6), (6, .int 8), (3, .int 0), (2, .int 0), (0, .ref (ad 0)), (1, .int (nI a))]) hx hb (dk1 dF_54 DX12_needing (i := 25) rfl rfl rfl) hl (by decide) rfl (fun ls hl => ?_)
                refine lv_iconst (v := 0) hx hb (dkP dF_3 DX12_needing (i := 26) rfl rfl) (by decide) ?_
                refine lv_istore (lv' := [(6, .int 0), (5, .int 0), (4, .int 6), (3, .int 0), (2, .int 0), (0, .ref (ad 0)), (1, .int (nI a))]) hx hb (dk1 dF_54 DX12_needing (i := 27) rfl rfl rfl) hl (by decide) rfl (fun ls hl => ?_)
                refine lv_iload hx hb (dk1 dF_21 DX12_needing (i := 28) rfl rfl rfl) (lv_at hl 0 rfl) ?_
                refine lv_bipush (v := 8) hx hb (dks dF_16 DX12_needing (i := 29) rfl rfl rfl) (by decide) ?_
                refine lv_icmp_ge (tgt := 91) hx hb (dkS dF_162 DX12_needing (i := 30) rfl rfl rfl) (by decide) (fun h => absurd h (by decide)) (fun _ => ?_)
                refine lv_iload hx hb (dk1 dF_21 DX12_needing (i := 31) rfl rfl rfl) (lv_at hl 1 rfl) ?_
                refine lv_if_ne (tgt := 78) hx hb (dkS dF_154 DX12_needing (i := 32) rfl rfl rfl) (by decide) (fun h => absurd h (by decide)) (fun _ => ?_)
                refine lv_iload_n hx hb (dkP dF_28 DX12_needing (i := 33) rfl rfl) rfl (lv_at hl 4 rfl) ?_
                refine lv_iload hx hb (dk1 dF_21 DX12_needing (i := 34) rfl rfl rfl) (lv_at hl 0 rfl) ?_
                refine lv_ishr hx hb (dkP dF_122 DX12_needing (i := 35) rfl rfl) ?_
                refine z_top (y := 0) (by decide) ?_
                refine lv_iconst (v := 1) hx hb (dkP dF_4 DX12_needing (i := 36) rfl rfl) (by decide) ?_
                refine lv_iand hx hb (dkP dF_126 DX12_needing (i := 37) rfl rfl) ?_
                refine z_top (y := 0) (by decide) ?_
                refine lv_iconst (v := 1) hx hb (dkP dF_4 DX12_needing (i := 38) rfl rfl) (by decide) ?_
                refine lv_icmp_ne (tgt := 82) hx hb (dkS dF_160 DX12_needing (i := 39) rfl rfl rfl) (by decide) (fun _ => ?_) (fun h => absurd h (by decide))
                refine lv_iconst (v := 0) hx hb (dkP dF_3 DX12_needing (i := 47) rfl rfl) (by decide) ?_
                refine lv_istore (lv' := [(5, .int 0), (6, .int 0), (4, .int 6), (3, .int 0), (2, .int 0), (0, .ref (ad 0)), (1, .int (nI a))]) hx hb (dk1 dF_54 DX12_needing (i := 48) rfl rfl rfl) hl (by decide) rfl (fun ls hl => ?_)
                refine lv_iinc (v := 1) (lv' := [(6, .int 1), (5, .int 0), (4, .int 6), (3, .int 0), (2, .int 0), (0, .ref (ad 0)), (1, .int (nI a))]) hx hb (dkI DX12_needing (i := 49) rfl rfl rfl rfl) hl (k := 1) rfl (by decide) (by decide) rfl (fun ls hl => ?_)
                refine lv_goto (tgt := 45) hx hb (dkS dF_167 DX12_needing (i := 50) rfl rfl rfl) (by decide) ?_
                refine lv_iload hx hb (dk1 dF_21 DX12_needing (i := 28) rfl rfl rfl) (lv_at hl 0 rfl) ?_
                refine lv_bipush (v := 8) hx hb (dks dF_16 DX12_needing (i := 29) rfl rfl rfl) (by decide) ?_
                refine lv_icmp_ge (tgt := 91) hx hb (dkS dF_162 DX12_needing (i := 30) rfl rfl rfl) (by decide) (fun h => absurd h (by decide)) (fun _ => ?_)
                refine lv_iload hx hb (dk1 dF_21 DX12_needing (i := 31) rfl rfl rfl) (lv_at hl 1 rfl) ?_
                refine lv_if_ne (tgt := 78) hx hb (dkS dF_154 DX12_needing (i := 32) rfl rfl rfl) (by decide) (fun h => absurd h (by decide)) (fun _ => ?_)
                refine lv_iload_n hx hb (dkP dF_28 DX12_needing (i := 33) rfl rfl) rfl (lv_at hl 4 rfl) ?_
                refine lv_iload hx hb (dk1 dF_21 DX12_needing (i := 34) rfl rfl rfl) (lv_at hl 0 rfl) ?_
                refine lv_ishr hx hb (dkP dF_122 DX12_needing (i := 35) rfl rfl) ?_
                refine z_top (y := 0) (by decide) ?_
                refine lv_iconst (v := 1) hx hb (dkP dF_4 DX12_needing (i := 36) rfl rfl) (by decide) ?_
                refine lv_iand hx hb (dkP dF_126 DX12_needing (i := 37) rfl rfl) ?_
                refine z_top (y := 0) (by decide) ?_
                refine lv_iconst (v := 1) hx hb (dkP dF_4 DX12_needing (i := 38) rfl rfl) (by decide) ?_
                refine lv_icmp_ne (tgt := 82) hx hb (dkS dF_160 DX12_needing (i := 39) rfl rfl rfl) (by decide) (fun _ => ?_) (fun h => absurd h (by decide))
                refine lv_iconst (v := 0) hx hb (dkP dF_3 DX12_needing (i := 47) rfl rfl) (by decide) ?_
                refine lv_istore (lv' := [(5, .int 0), (6, .int 1), (4, .int 6), (3, .int 0), (2, .int 0), (0, .ref (ad 0)), (1, .int (nI a))]) hx hb (dk1 dF_54 DX12_needing (i := 48) rfl rfl rfl) hl (by decide) rfl (fun ls hl => ?_)
                refine lv_iinc (v := 2) (lv' := [(6, .int 2), (5, .int 0), (4, .int 6), (3, .int 0), (2, .int 0), (0, .ref (ad 0)), (1, .int (nI a))]) hx hb (dkI DX12_needing (i := 49) rfl rfl rfl rfl) hl (k := 1) rfl (by decide) (by decide) rfl (fun ls hl => ?_)
                refine lv_goto (tgt := 45) hx hb (dkS dF_167 DX12_needing (i := 50) rfl rfl rfl) (by decide) ?_
                refine lv_iload hx hb (dk1 dF_21 DX12_needing (i := 28) rfl rfl rfl) (lv_at hl 0 rfl) ?_
                refine lv_bipush (v := 8) hx hb (dks dF_16 DX12_needing (i := 29) rfl rfl rfl) (by decide) ?_
                refine lv_icmp_ge (tgt := 91) hx hb (dkS dF_162 DX12_needing (i := 30) rfl rfl rfl) (by decide) (fun h => absurd h (by decide)) (fun _ => ?_)
                refine lv_iload hx hb (dk1 dF_21 DX12_needing (i := 31) rfl rfl rfl) (lv_at hl 1 rfl) ?_
                refine lv_if_ne (tgt := 78) hx hb (dkS dF_154 DX12_needing (i := 32) rfl rfl rfl) (by decide) (fun h => absurd h (by decide)) (fun _ => ?_)
                refine lv_iload_n hx hb (dkP dF_28 DX12_needing (i := 33) rfl rfl) rfl (lv_at hl 4 rfl) ?_
                refine lv_iload hx hb (dk1 dF_21 DX12_needing (i := 34) rfl rfl rfl) (lv_at hl 0 rfl) ?_
                refine lv_ishr hx hb (dkP dF_122 DX12_needing (i := 35) rfl rfl) ?_
                refine z_top (y := 0) (by decide) ?_
                refine lv_iconst (v := 1) hx hb (dkP dF_4 DX12_needing (i := 36) rfl rfl) (by decide) ?_
                refine lv_iand hx hb (dkP dF_126 DX12_needing (i := 37) rfl rfl) ?_
                refine z_top (y := 0) (by decide) ?_
                refine lv_iconst (v := 1) hx hb (dkP dF_4 DX12_needing (i := 38) rfl rfl) (by decide) ?_
                refine lv_icmp_ne (tgt := 82) hx hb (dkS dF_160 DX12_needing (i := 39) rfl rfl rfl) (by decide) (fun _ => ?_) (fun h => absurd h (by decide))
                refine lv_iconst (v := 0) hx hb (dkP dF_3 DX12_needing (i := 47) rfl rfl) (by decide) ?_
                refine lv_istore (lv' := [(5, .int 0), (6, .int 2), (4, .int 6), (3, .int 0), (2, .int 0), (0, .ref (ad 0)), (1, .int (nI a))]) hx hb (dk1 dF_54 DX12_needing (i := 48) rfl rfl rfl) hl (by decide) rfl (fun ls hl => ?_)
                refine lv_iinc (v := 3) (lv' := [(6, .int 3), (5, .int 0), (4, .int 6), (3, .int 0), (2, .int 0), (0, .ref (ad 0)), (1, .int (nI a))]) hx hb (dkI DX12_needing (i := 49) rfl rfl rfl rfl) hl (k := 1) rfl (by decide) (by decide) rfl (fun ls hl => ?_)
                refine lv_goto (tgt := 45) hx hb (dkS dF_167 DX12_needing (i := 50) rfl rfl rfl) (by decide) ?_
                refine lv_iload hx hb (dk1 dF_21 DX12_needing (i := 28) rfl rfl rfl) (lv_at hl 0 rfl) ?_
                refine lv_bipush (v := 8) hx hb (dks dF_16 DX12_needing (i := 29) rfl rfl rfl) (by decide) ?_
                refine lv_icmp_ge (tgt := 91) hx hb (dkS dF_162 DX12_needing (i := 30) rfl rfl rfl) (by decide) (fun h => absurd h (by decide)) (fun _ => ?_)
                refine lv_iload hx hb (dk1 dF_21 DX12_needing (i := 31) rfl rfl rfl) (lv_at hl 1 rfl) ?_
                refine lv_if_ne (tgt := 78) hx hb (dkS dF_154 DX12_needing (i := 32) rfl rfl rfl) (by decide) (fun h => absurd h (by decide)) (fun _ => ?_)
                refine lv_iload_n hx hb (dkP dF_28 DX12_needing (i := 33) rfl rfl) rfl (lv_at hl 4 rfl) ?_
                refine lv_iload hx hb (dk1 dF_21 DX12_needing (i := 34) rfl rfl rfl) (lv_at hl 0 rfl) ?_
                refine lv_ishr hx hb (dkP dF_122 DX12_needing (i := 35) rfl rfl) ?_
                refine z_top (y := 0) (by decide) ?_
                refine lv_iconst (v := 1) hx hb (dkP dF_4 DX12_needing (i := 36) rfl rfl) (by decide) ?_
                refine lv_iand hx hb (dkP dF_126 DX12_needing (i := 37) rfl rfl) ?_
                refine z_top (y := 0) (by decide) ?_
                refine lv_iconst (v := 1) hx hb (dkP dF_4 DX12_needing (i := 38) rfl rfl) (by decide) ?_
                refine lv_icmp_ne (tgt := 82) hx hb (dkS dF_160 DX12_needing (i := 39) rfl rfl rfl) (by decide) (fun _ => ?_) (fun h => absurd h (by decide))
                refine lv_iconst (v := 0) hx hb (dkP dF_3 DX12_needing (i := 47) rfl rfl) (by decide) ?_
                refine lv_istore (lv' := [(5, .int 0), (6, .int 3), (4, .int 6), (3, .int 0), (2, .int 0), (0, .ref (ad 0)), (1, .int (nI a))]) hx hb (dk1 dF_54 DX12_needing (i := 48) rfl rfl rfl) hl (by decide) rfl (fun ls hl => ?_)
                refine lv_iinc (v := 4) (lv' := [(6, .int 4), (5, .int 0), (4, .int 6), (3, .int 0), (2, .int 0), (0, .ref (ad 0)), (1, .int (nI a))]) hx hb (dkI DX12_needing (i := 49) rfl rfl rfl rfl) hl (k := 1) rfl (by decide) (by decide) rfl (fun ls hl => ?_)
                refine lv_goto (tgt := 45) hx hb (dkS dF_167 DX12_needing (i := 50) rfl rfl rfl) (by decide) ?_
                refine lv_iload hx hb (dk1 dF_21 DX12_needing (i := 28) rfl rfl rfl) (lv_at hl 0 rfl) ?_
                refine lv_bipush (v := 8) hx hb (dks dF_16 DX12_needing (i := 29) rfl rfl rfl) (by decide) ?_
                refine lv_icmp_ge (tgt := 91) hx hb (dkS dF_162 DX12_needing (i := 30) rfl rfl rfl) (by decide) (fun h => absurd h (by decide)) (fun _ => ?_)
                refine lv_iload hx hb (dk1 dF_21 DX12_needing (i := 31) rfl rfl rfl) (lv_at hl 1 rfl) ?_
                refine lv_if_ne (tgt := 78) hx hb (dkS dF_154 DX12_needing (i := 32) rfl rfl rfl) (by decide) (fun h => absurd h (by decide)) (fun _ => ?_)
                refine lv_iload_n hx hb (dkP dF_28 DX12_needing (i := 33) rfl rfl) rfl (lv_at hl 4 rfl) ?_
                refine lv_iload hx hb (dk1 dF_21 DX12_needing (i := 34) rfl rfl rfl) (lv_at hl 0 rfl) ?_
                refine lv_ishr hx hb (dkP dF_122 DX12_needing (i := 35) rfl rfl) ?_
                refine z_top (y := 0) (by decide) ?_
                refine lv_iconst (v := 1) hx hb (dkP dF_4 DX12_needing (i := 36) rfl rfl) (by decide) ?_
                refine lv_iand hx hb (dkP dF_126 DX12_needing (i := 37) rfl rfl) ?_
                refine z_top (y := 0) (by decide) ?_
                refine lv_iconst (v := 1) hx hb (dkP dF_4 DX12_needing (i := 38) rfl rfl) (by decide) ?_
                refine lv_icmp_ne (tgt := 82) hx hb (dkS dF_160 DX12_needing (i := 39) rfl rfl rfl) (by decide) (fun _ => ?_) (fun h => absurd h (by decide))
                refine lv_iconst (v := 0) hx hb (dkP dF_3 DX12_needing (i := 47) rfl rfl) (by decide) ?_
                refine lv_istore (lv' := [(5, .int 0), (6, .int 4), (4, .int 6), (3, .int 0), (2, .int 0), (0, .ref (ad 0)), (1, .int (nI a))]) hx hb (dk1 dF_54 DX12_needing (i := 48) rfl rfl rfl) hl (by decide) rfl (fun ls hl => ?_)
                refine lv_iinc (v := 5) (lv' := [(6, .int 5), (5, .int 0), (4, .int 6), (3, .int 0), (2, .int 0), (0, .ref (ad 0)), (1, .int (nI a))]) hx hb (dkI DX12_needing (i := 49) rfl rfl rfl rfl) hl (k := 1) rfl (by decide) (by decide) rfl (fun ls hl => ?_)
                refine lv_goto (tgt := 45) hx hb (dkS dF_167 DX12_needing (i := 50) rfl rfl rfl) (by decide) ?_
                refine lv_iload hx hb (dk1 dF_21 DX12_needing (i := 28) rfl rfl rfl) (lv_at hl 0 rfl) ?_
                refine lv_bipush (v := 8) hx hb (dks dF_16 DX12_needing (i := 29) rfl rfl rfl) (by decide) ?_
                refine lv_icmp_ge (tgt := 91) hx hb (dkS dF_162 DX12_needing (i := 30) rfl rfl rfl) (by decide) (fun h => absurd h (by decide)) (fun _ => ?_)
                refine lv_iload hx hb (dk1 dF_21 DX12_needing (i := 31) rfl rfl rfl) (lv_at hl 1 rfl) ?_
                refine lv_if_ne (tgt := 78) hx hb (dkS dF_154 DX12_needing (i := 32) rfl rfl rfl) (by decide) (fun h => absurd h (by decide)) (fun _ => ?_)
                refine lv_iload_n hx hb (dkP dF_28 DX12_needing (i := 33) rfl rfl) rfl (lv_at hl 4 rfl) ?_
                refine lv_iload hx hb (dk1 dF_21 DX12_needing (i := 34) rfl rfl rfl) (lv_at hl 0 rfl) ?_
                refine lv_ishr hx hb (dkP dF_122 DX12_needing (i := 35) rfl rfl) ?_
                refine z_top (y := 0) (by decide) ?_
                refine lv_iconst (v := 1) hx hb (dkP dF_4 DX12_needing (i := 36) rfl rfl) (by decide) ?_
                refine lv_iand hx hb (dkP dF_126 DX12_needing (i := 37) rfl rfl) ?_
                refine z_top (y := 0) (by decide) ?_
                refine lv_iconst (v := 1) hx hb (dkP dF_4 DX12_needing (i := 38) rfl rfl) (by decide) ?_
                refine lv_icmp_ne (tgt := 82) hx hb (dkS dF_160 DX12_needing (i := 39) rfl rfl rfl) (by decide) (fun _ => ?_) (fun h => absurd h (by decide))
                refine lv_iconst (v := 0) hx hb (dkP dF_3 DX12_needing (i := 47) rfl rfl) (by decide) ?_
                refine lv_istore (lv' := [(5, .int 0), (6, .int 5), (4, .int 6), (3, .int 0), (2, .int 0), (0, .ref (ad 0)), (1, .int (nI a))]) hx hb (dk1 dF_54 DX12_needing (i := 48) rfl rfl rfl) hl (by decide) rfl (fun ls hl => ?_)
                refine lv_iinc (v := 6) (lv' := [(6, .int 6), (5, .int 0), (4, .int 6), (3, .int 0), (2, .int 0), (0, .ref (ad 0)), (1, .int (nI a))]) hx hb (dkI DX12_needing (i := 49) rfl rfl rfl rfl) hl (k := 1) rfl (by decide) (by decide) rfl (fun ls hl => ?_)
                refine lv_goto (tgt := 45) hx hb (dkS dF_167 DX12_needing (i := 50) rfl rfl rfl) (by decide) ?_
                refine lv_iload hx hb (dk1 dF_21 DX12_needing (i := 28) rfl rfl rfl) (lv_at hl 0 rfl) ?_
                refine lv_bipush (v := 8) hx hb (dks dF_16 DX12_needing (i := 29) rfl rfl rfl) (by decide) ?_
                refine lv_icmp_ge (tgt := 91) hx hb (dkS dF_162 DX12_needing (i := 30) rfl rfl rfl) (by decide) (fun h => absurd h (by decide)) (fun _ => ?_)
                refine lv_iload hx hb (dk1 dF_21 DX12_needing (i := 31) rfl rfl rfl) (lv_at hl 1 rfl) ?_
                refine lv_if_ne (tgt := 78) hx hb (dkS dF_154 DX12_needing (i := 32) rfl rfl rfl) (by decide) (fun h => absurd h (by decide)) (fun _ => ?_)
                refine lv_iload_n hx hb (dkP dF_28 DX12_needing (i := 33) rfl rfl) rfl (lv_at hl 4 rfl) ?_
                refine lv_iload hx hb (dk1 dF_21 DX12_needing (i := 34) rfl rfl rfl) (lv_at hl 0 rfl) ?_
                refine lv_ishr hx hb (dkP dF_122 DX12_needing (i := 35) rfl rfl) ?_
                refine z_top (y := 0) (by decide) ?_
                refine lv_iconst (v := 1) hx hb (dkP dF_4 DX12_needing (i := 36) rfl rfl) (by decide) ?_
                refine lv_iand hx hb (dkP dF_126 DX12_needing (i := 37) rfl rfl) ?_
                refine z_top (y := 0) (by decide) ?_
                refine lv_iconst (v := 1) hx hb (dkP dF_4 DX12_needing (i := 38) rfl rfl) (by decide) ?_
                refine lv_icmp_ne (tgt := 82) hx hb (dkS dF_160 DX12_needing (i := 39) rfl rfl rfl) (by decide) (fun _ => ?_) (fun h => absurd h (by decide))
                refine lv_iconst (v := 0) hx hb (dkP dF_3 DX12_needing (i := 47) rfl rfl) (by decide) ?_
                refine lv_istore (lv' := [(5, .int 0), (6, .int 6), (4, .int 6), (3, .int 0), (2, .int 0), (0, .ref (ad 0)), (1, .int (nI a))]) hx hb (dk1 dF_54 DX12_needing (i := 48) rfl rfl rfl) hl (by decide) rfl (fun ls hl => ?_)
                refine lv_iinc (v := 7) (lv' := [(6, .int 7), (5, .int 0), (4, .int 6), (3, .int 0), (2, .int 0), (0, .ref (ad 0)), (1, .int (nI a))]) hx hb (dkI DX12_needing (i := 49) rfl rfl rfl rfl) hl (k := 1) rfl (by decide) (by decide) rfl (fun ls hl => ?_)
                refine lv_goto (tgt := 45) hx hb (dkS dF_167 DX12_needing (i := 50) rfl rfl rfl) (by decide) ?_
                refine lv_iload hx hb (dk1 dF_21 DX12_needing (i := 28) rfl rfl rfl) (lv_at hl 0 rfl) ?_
                refine lv_bipush (v := 8) hx hb (dks dF_16 DX12_needing (i := 29) rfl rfl rfl) (by decide) ?_
                refine lv_icmp_ge (tgt := 91) hx hb (dkS dF_162 DX12_needing (i := 30) rfl rfl rfl) (by decide) (fun h => absurd h (by decide)) (fun _ => ?_)
                refine lv_iload hx hb (dk1 dF_21 DX12_needing (i := 31) rfl rfl rfl) (lv_at hl 1 rfl) ?_
                refine lv_if_ne (tgt := 78) hx hb (dkS dF_154 DX12_needing (i := 32) rfl rfl rfl) (by decide) (fun h => absurd h (by decide)) (fun _ => ?_)
                refine lv_iload_n hx hb (dkP dF_28 DX12_needing (i := 33) rfl rfl) rfl (lv_at hl 4 rfl) ?_
                refine lv_iload hx hb (dk1 dF_21 DX12_needing (i := 34) rfl rfl rfl) (lv_at hl 0 rfl) ?_
                refine lv_ishr hx hb (dkP dF_122 DX12_needing (i := 35) rfl rfl) ?_
                refine z_top (y := 0) (by decide) ?_
                refine lv_iconst (v := 1) hx hb (dkP dF_4 DX12_needing (i := 36) rfl rfl) (by decide) ?_
                refine lv_iand hx hb (dkP dF_126 DX12_needing (i := 37) rfl rfl) ?_
                refine z_top (y := 0) (by decide) ?_
                refine lv_iconst (v := 1) hx hb (dkP dF_4 DX12_needing (i := 38) rfl rfl) (by decide) ?_
                refine lv_icmp_ne (tgt := 82) hx hb (dkS dF_160 DX12_needing (i := 39) rfl rfl rfl) (by decide) (fun _ => ?_) (fun h => absurd h (by decide))
                refine lv_iconst (v := 0) hx hb (dkP dF_3 DX12_needing (i := 47) rfl rfl) (by decide) ?_
                refine lv_istore (lv' := [(5, .int 0), (6, .int 7), (4, .int 6), (3, .int 0), (2, .int 0), (0, .ref (ad 0)), (1, .int (nI a))]) hx hb (dk1 dF_54 DX12_needing (i := 48) rfl rfl rfl) hl (by decide) rfl (fun ls hl => ?_)
                refine lv_iinc (v := 8) (lv' := [(6, .int 8), (5, .int 0), (4, .int 6), (3, .int 0), (2, .int 0), (0, .ref (ad 0)), (1, .int (nI a))]) hx hb (dkI DX12_needing (i := 49) rfl rfl rfl rfl) hl (k := 1) rfl (by decide) (by decide) rfl (fun ls hl => ?_)
                refine lv_goto (tgt := 45) hx hb (dkS dF_167 DX12_needing (i := 50) rfl rfl rfl) (by decide) ?_
                refine lv_iload hx hb (dk1 dF_21 DX12_needing (i := 28) rfl rfl rfl) (lv_at hl 0 rfl) ?_
                refine lv_bipush (v := 8) hx hb (dks dF_16 DX12_needing (i := 29) rfl rfl rfl) (by decide) ?_
                refine lv_icmp_ge (tgt := 91) hx hb (dkS dF_162 DX12_needing (i := 30) rfl rfl rfl) (by decide) (fun _ => ?_) (fun h => absurd h (by decide))
                refine lv_iload hx hb (dk1 dF_21 DX12_needing (i := 51) rfl rfl rfl) (lv_at hl 1 rfl) ?_
                refine lv_if_ne (tgt := 99) hx hb (dkS dF_154 DX12_needing (i := 52) rfl rfl rfl) (by decide) (fun h => absurd h (by decide)) (fun _ => ?_)
                refine lv_goto (tgt := 108) hx hb (dkS dF_167 DX12_needing (i := 53) rfl rfl rfl) (by decide) ?_
                refine lv_iinc (v := 7) (lv' := [(4, .int 7), (6, .int 8), (5, .int 0), (3, .int 0), (2, .int 0), (0, .ref (ad 0)), (1, .int (nI a))]) hx hb (dkI DX12_needing (i := 62) rfl rfl rfl rfl) hl (k := 2) rfl (by decide) (by decide) rfl (fun ls hl => ?_)
                refine lv_goto (tgt := 13) hx hb (dkS dF_167 DX12_needing (i := 63) rfl rfl rfl) (by decide) ?_
                refine lv_iload hx hb (dk1 dF_21 DX12_needing (i := 10) rfl rfl rfl) (lv_at hl 0 rfl) ?_
                refine lv_bipush (v := 8) hx hb (dks dF_16 DX12_needing (i := 11) rfl rfl rfl) (by decide) ?_
                refine lv_icmp_ge (tgt := 114) hx hb (dkS dF_162 DX12_needing (i := 12) rfl rfl rfl) (by decide) (fun h => absurd h (by decide)) (fun _ => ?_)
                refine lv_iload_n hx hb (dkP dF_28 DX12_needing (i := 13) rfl rfl) rfl (lv_at hl 4 rfl) ?_
                refine lv_iload hx hb (dk1 dF_21 DX12_needing (i := 14) rfl rfl rfl) (lv_at hl 0 rfl) ?_
                refine lv_ishr hx hb (dkP dF_122 DX12_needing (i := 15) rfl rfl) ?_
                refine z_top (y := 0) (by decide) ?_
                refine lv_iconst (v := 1) hx hb (dkP dF_4 DX12_needing (i := 16) rfl rfl) (by decide) ?_
                refine lv_iand hx hb (dkP dF_126 DX12_needing (i := 17) rfl rfl) ?_
                refine z_top (y := 0) (by decide) ?_
                refine lv_iconst (v := 1) hx hb (dkP dF_4 DX12_needing (i := 18) rfl rfl) (by decide) ?_
                refine lv_icmp_ne (tgt := 33) hx hb (dkS dF_160 DX12_needing (i := 19) rfl rfl rfl) (by decide) (fun _ => ?_) (fun h => absurd h (by decide))
                refine lv_aload_n hx hb (dkP dF_42 DX12_needing (i := 21) rfl rfl) rfl (lv_at hl 5 rfl) ?_
                refine lv_iload hx hb (dk1 dF_21 DX12_needing (i := 22) rfl rfl rfl) (lv_at hl 0 rfl) ?_
                refine lv_iload_n hx hb (dkP dF_27 DX12_needing (i := 23) rfl rfl) rfl (lv_at hl 6 rfl) ?_
                refine zk_I hw (zr_V (As := [.int 7, .int (nI a)]) (rest := []) C0 (c_X12_isNeed l G kc ad 7 a (by first | omega | assumption | decide | rfl) (by first | omega | assumption | decide | rfl) _) cv_X12_isNeed lk_X12_455 (zp_V C0 hw 0 rfl rfl rfl) rfl hl.1 rfl ⟨by decide, by decide⟩ (Nat.le_of_ble_eq_true rfl) (dk2 dF_182 DX12_needing (i := 24) rfl rfl rfl) ⟨Nat.le_refl _, Nat.le_refl _⟩) (fun r8 s8 H locs hp hw => ?_)
                obtain ⟨hq8, hs8⟩ := hp
                subst hs8
                rcases hq8 with ⟨rfl, hc8⟩ | ⟨rfl, hc8⟩
                · exact False.elim hc8
                · skip
                  refine lv_istore (lv' := [(5, .int 0), (4, .int 7), (6, .int 8), (3, .int 0), (2, .int 0), (0, .ref (ad 0)), (1, .int (nI a))]) hx hb (dk1 dF_54 DX12_needing (i := 25) rfl rfl rfl) hl (by decide) rfl (fun ls hl => ?_)
                  refine lv_iconst (v := 0) hx hb (dkP dF_3 DX12_needing (i := 26) rfl rfl) (by decide) ?_
                  refine lv_istore (lv' := [(6, .int 0), (5, .int 0), (4, .int 7), (3, .int 0), (2, .int 0), (0, .ref (ad 0)), (1, .int (nI a))]) hx hb (dk1 dF_54 DX12_needing (i := 27) rfl rfl rfl) hl (by decide) rfl (fun ls hl => ?_)
                  refine lv_iload hx hb (dk1 dF_21 DX12_needing (i := 28) rfl rfl rfl) (lv_at hl 0 rfl) ?_
                  refine lv_bipush (v := 8) hx hb (dks dF_16 DX12_needing (i := 29) rfl rfl rfl) (by decide) ?_
                  refine lv_icmp_ge (tgt := 91) hx hb (dkS dF_162 DX12_needing (i := 30) rfl rfl rfl) (by decide) (fun h => absurd h (by decide)) (fun _ => ?_)
                  refine lv_iload hx hb (dk1 dF_21 DX12_needing (i := 31) rfl rfl rfl) (lv_at hl 1 rfl) ?_
                  refine lv_if_ne (tgt := 78) hx hb (dkS dF_154 DX12_needing (i := 32) rfl rfl rfl) (by decide) (fun h => absurd h (by decide)) (fun _ => ?_)
                  refine lv_iload_n hx hb (dkP dF_28 DX12_needing (i := 33) rfl rfl) rfl (lv_at hl 4 rfl) ?_
                  refine lv_iload hx hb (dk1 dF_21 DX12_needing (i := 34) rfl rfl rfl) (lv_at hl 0 rfl) ?_
                  refine lv_ishr hx hb (dkP dF_122 DX12_needing (i := 35) rfl rfl) ?_
                  refine z_top (y := 0) (by decide) ?_
                  refine lv_iconst (v := 1) hx hb (dkP dF_4 DX12_needing (i := 36) rfl rfl) (by decide) ?_
                  refine lv_iand hx hb (dkP dF_126 DX12_needing (i := 37) rfl rfl) ?_
                  refine z_top (y := 0) (by decide) ?_
                  refine lv_iconst (v := 1) hx hb (dkP dF_4 DX12_needing (i := 38) rfl rfl) (by decide) ?_
                  refine lv_icmp_ne (tgt := 82) hx hb (dkS dF_160 DX12_needing (i := 39) rfl rfl rfl) (by decide) (fun _ => ?_) (fun h => absurd h (by decide))
                  refine lv_iconst (v := 0) hx hb (dkP dF_3 DX12_needing (i := 47) rfl rfl) (by decide) ?_
                  refine lv_istore (lv' := [(5, .int 0), (6, .int 0), (4, .int 7), (3, .int 0), (2, .int 0), (0, .ref (ad 0)), (1, .int (nI a))]) hx hb (dk1 dF_54 DX12_needing (i := 48) rfl rfl rfl) hl (by decide) rfl (fun ls hl => ?_)
                  refine lv_iinc (v := 1) (lv' := [(6, .int 1), (5, .int 0), (4, .int 7), (3, .int 0), (2, .int 0), (0, .ref (ad 0)), (1, .int (nI a))]) hx hb (dkI DX12_needing (i := 49) rfl rfl rfl rfl) hl (k := 1) rfl (by decide) (by decide) rfl (fun ls hl => ?_)
                  refine lv_goto (tgt := 45) hx hb (dkS dF_167 DX12_needing (i := 50) rfl rfl rfl) (by decide) ?_
                  refine lv_iload hx hb (dk1 dF_21 DX12_needing (i := 28) rfl rfl rfl) (lv_at hl 0 rfl) ?_
                  refine lv_bipush (v := 8) hx hb (dks dF_16 DX12_needing (i := 29) rfl rfl rfl) (by decide) ?_
                  refine lv_icmp_ge (tgt := 91) hx hb (dkS dF_162 DX12_needing (i := 30) rfl rfl rfl) (by decide) (fun h => absurd h (by decide)) (fun _ => ?_)
                  refine lv_iload hx hb (dk1 dF_21 DX12_needing (i := 31) rfl rfl rfl) (lv_at hl 1 rfl) ?_
                  refine lv_if_ne (tgt := 78) hx hb (dkS dF_154 DX12_needing (i := 32) rfl rfl rfl) (by decide) (fun h => absurd h (by decide)) (fun _ => ?_)
                  refine lv_iload_n hx hb (dkP dF_28 DX12_needing (i := 33) rfl rfl) rfl (lv_at hl 4 rfl) ?_
                  refine lv_iload hx hb (dk1 dF_21 DX12_needing (i := 34) rfl rfl rfl) (lv_at hl 0 rfl) ?_
                  refine lv_ishr hx hb (dkP dF_122 DX12_needing (i := 35) rfl rfl) ?_
                  refine z_top (y := 0) (by decide) ?_
                  refine lv_iconst (v := 1) hx hb (dkP dF_4 DX12_needing (i := 36) rfl rfl) (by decide) ?_
                  refine lv_iand hx hb (dkP dF_126 DX12_needing (i := 37) rfl rfl) ?_
                  refine z_top (y := 0) (by decide) ?_
                  refine lv_iconst (v := 1) hx hb (dkP dF_4 DX12_needing (i := 38) rfl rfl) (by decide) ?_
                  refine lv_icmp_ne (tgt := 82) hx hb (dkS dF_160 DX12_needing (i := 39) rfl rfl rfl) (by decide) (fun _ => ?_) (fun h => absurd h (by decide))
                  refine lv_iconst (v := 0) hx hb (dkP dF_3 DX12_needing (i := 47) rfl rfl) (by decide) ?_
                  refine lv_istore (lv' := [(5, .int 0), (6, .int 1), (4, .int 7), (3, .int 0), (2, .int 0), (0, .ref (ad 0)), (1, .int (nI a))]) hx hb (dk1 dF_54 DX12_needing (i := 48) rfl rfl rfl) hl (by decide) rfl (fun ls hl => ?_)
                  refine lv_iinc (v := 2) (lv' := [(6, .int 2), (5, .int 0), (4, .int 7), (3, .int 0), (2, .int 0), (0, .ref (ad 0)), (1, .int (nI a))]) hx hb (dkI DX12_needing (i := 49) rfl rfl rfl rfl) hl (k := 1) rfl (by decide) (by decide) rfl (fun ls hl => ?_)
                  refine lv_goto (tgt := 45) hx hb (dkS dF_167 DX12_needing (i := 50) rfl rfl rfl) (by decide) ?_
                  refine lv_iload hx hb (dk1 dF_21 DX12_needing (i := 28) rfl rfl rfl) (lv_at hl 0 rfl) ?_
                  refine lv_bipush (v := 8) hx hb (dks dF_16 DX12_needing (i := 29) rfl rfl rfl) (by decide) ?_
                  refine lv_icmp_ge (tgt := 91) hx hb (dkS dF_162 DX12_needing (i := 30) rfl rfl rfl) (by decide) (fun h => absurd h (by decide)) (fun _ => ?_)
                  refine lv_iload hx hb (dk1 dF_21 DX12_needing (i := 31) rfl rfl rfl) (lv_at hl 1 rfl) ?_
                  refine lv_if_ne (tgt := 78) hx hb (dkS dF_154 DX12_needing (i := 32) rfl rfl rfl) (by decide) (fun h => absurd h (by decide)) (fun _ => ?_)
                  refine lv_iload_n hx hb (dkP dF_28 DX12_needing (i := 33) rfl rfl) rfl (lv_at hl 4 rfl) ?_
                  refine lv_iload hx hb (dk1 dF_21 DX12_needing (i := 34) rfl rfl rfl) (lv_at hl 0 rfl) ?_
                  refine lv_ishr hx hb (dkP dF_122 DX12_needing (i := 35) rfl rfl) ?_
                  refine z_top (y := 0) (by decide) ?_
                  refine lv_iconst (v := 1) hx hb (dkP dF_4 DX12_needing (i := 36) rfl rfl) (by decide) ?_
                  refine lv_iand hx hb (dkP dF_126 DX12_needing (i := 37) rfl rfl) ?_
                  refine z_top (y := 0) (by decide) ?_
                  refine lv_iconst (v := 1) hx hb (dkP dF_4 DX12_needing (i := 38) rfl rfl) (by decide) ?_
                  refine lv_icmp_ne (tgt := 82) hx hb (dkS dF_160 DX12_needing (i := 39) rfl rfl rfl) (by decide) (fun _ => ?_) (fun h => absurd h (by decide))
                  refine lv_iconst (v := 0) hx hb (dkP dF_3 DX12_needing (i := 47) rfl rfl) (by decide) ?_
                  refine lv_istore (lv' := [(5, .int 0), (6, .int 2), (4, .int 7), (3, .int 0), (2, .int 0), (0, .ref (ad 0)), (1, .int (nI a))]) hx hb (dk1 dF_54 DX12_needing (i := 48) rfl rfl rfl) hl (by decide) rfl (fun ls hl => ?_)
                  refine lv_iinc (v := 3) (lv' := [(6, .int 3), (5, .int 0), (4, .int 7), (3, .int 0), (2, .int 0), (0, .ref (ad 0)), (1, .int (nI a))]) hx hb (dkI DX12_needing (i := 49) rfl rfl rfl rfl) hl (k := 1) rfl (by decide) (by decide) rfl (fun ls hl => ?_)
                  refine lv_goto (tgt := 45) hx hb (dkS dF_167 DX12_needing (i := 50) rfl rfl rfl) (by decide) ?_
                  refine lv_iload hx hb (dk1 dF_21 DX12_needing (i := 28) rfl rfl rfl) (lv_at hl 0 rfl) ?_
                  refine lv_bipush (v := 8) hx hb (dks dF_16 DX12_needing (i := 29) rfl rfl rfl) (by decide) ?_
                  refine lv_icmp_ge (tgt := 91) hx hb (dkS dF_162 DX12_needing (i := 30) rfl rfl rfl) (by decide) (fun h => absurd h (by decide)) (fun _ => ?_)
                  refine lv_iload hx hb (dk1 dF_21 DX12_needing (i := 31) rfl rfl rfl) (lv_at hl 1 rfl) ?_
                  refine lv_if_ne (tgt := 78) hx hb (dkS dF_154 DX12_needing (i := 32) rfl rfl rfl) (by decide) (fun h => absurd h (by decide)) (fun _ => ?_)
                  refine lv_iload_n hx hb (dkP dF_28 DX12_needing (i := 33) rfl rfl) rfl (lv_at hl 4 rfl) ?_
                  refine lv_iload hx hb (dk1 dF_21 DX12_needing (i := 34) rfl rfl rfl) (lv_at hl 0 rfl) ?_
                  refine lv_ishr hx hb (dkP dF_122 DX12_needing (i := 35) rfl rfl) ?_
                  refine z_top (y := 0) (by decide) ?_
                  refine lv_iconst (v := 1) hx hb (dkP dF_4 DX12_needing (i := 36) rfl rfl) (by decide) ?_
                  refine lv_iand hx hb (dkP dF_126 DX12_needing (i := 37) rfl rfl) ?_
                  refine z_top (y := 0) (by decide) ?_
                  refine lv_iconst (v := 1) hx hb (dkP dF_4 DX12_needing (i := 38) rfl rfl) (by decide) ?_
                  refine lv_icmp_ne (tgt := 82) hx hb (dkS dF_160 DX12_needing (i := 39) rfl rfl rfl) (by decide) (fun _ => ?_) (fun h => absurd h (by decide))
                  refine lv_iconst (v := 0) hx hb (dkP dF_3 DX12_needing (i := 47) rfl rfl) (by decide) ?_
                  refine lv_istore (lv' := [(5, .int 0), (6, .int 3), (4, .int 7), (3, .int 0), (2, .int 0), (0, .ref (ad 0)), (1, .int (nI a))]) hx hb (dk1 dF_54 DX12_needing (i := 48) rfl rfl rfl) hl (by decide) rfl (fun ls hl => ?_)
                  refine lv_iinc (v := 4) (lv' := [(6, .int 4), (5, .int 0), (4, .int 7), (3, .int 0), (2, .int 0), (0, .ref (ad 0)), (1, .int (nI a))]) hx hb (dkI DX12_needing (i := 49) rfl rfl rfl rfl) hl (k := 1) rfl (by decide) (by decide) rfl (fun ls hl => ?_)
                  refine lv_goto (tgt := 45) hx hb (dkS dF_167 DX12_needing (i := 50) rfl rfl rfl) (by decide) ?_
                  refine lv_iload hx hb (dk1 dF_21 DX12_needing (i := 28) rfl rfl rfl) (lv_at hl 0 rfl) ?_
                  refine lv_bipush (v := 8) hx hb (dks dF_16 DX12_needing (i := 29) rfl rfl rfl) (by decide) ?_
                  refine lv_icmp_ge (tgt := 91) hx hb (dkS dF_162 DX12_needing (i := 30) rfl rfl rfl) (by decide) (fun h => absurd h (by decide)) (fun _ => ?_)
                  refine lv_iload hx hb (dk1 dF_21 DX12_needing (i := 31) rfl rfl rfl) (lv_at hl 1 rfl) ?_
                  refine lv_if_ne (tgt := 78) hx hb (dkS dF_154 DX12_needing (i := 32) rfl rfl rfl) (by decide) (fun h => absurd h (by decide)) (fun _ => ?_)
                  refine lv_iload_n hx hb (dkP dF_28 DX12_needing (i := 33) rfl rfl) rfl (lv_at hl 4 rfl) ?_
                  refine lv_iload hx hb (dk1 dF_21 DX12_needing (i := 34) rfl rfl rfl) (lv_at hl 0 rfl) ?_
                  refine lv_ishr hx hb (dkP dF_122 DX12_needing (i := 35) rfl rfl) ?_
                  refine z_top (y := 0) (by decide) ?_
                  refine lv_iconst (v := 1) hx hb (dkP dF_4 DX12_needing (i := 36) rfl rfl) (by decide) ?_
                  refine lv_iand hx hb (dkP dF_126 DX12_needing (i := 37) rfl rfl) ?_
                  refine z_top (y := 0) (by decide) ?_
                  refine lv_iconst (v := 1) hx hb (dkP dF_4 DX12_needing (i := 38) rfl rfl) (by decide) ?_
                  refine lv_icmp_ne (tgt := 82) hx hb (dkS dF_160 DX12_needing (i := 39) rfl rfl rfl) (by decide) (fun _ => ?_) (fun h => absurd h (by decide))
                  refine lv_iconst (v := 0) hx hb (dkP dF_3 DX12_needing (i := 47) rfl rfl) (by decide) ?_
                  refine lv_istore (lv' := [(5, .int 0), (6, .int 4), (4, .int 7), (3, .int 0), (2, .int 0), (0, .ref (ad 0)), (1, .int (nI a))]) hx hb (dk1 dF_54 DX12_needing (i := 48) rfl rfl rfl) hl (by decide) rfl (fun ls hl => ?_)
                  refine lv_iinc (v := 5) (lv' := [(6, .int 5), (5, .int 0), (4, .int 7), (3, .int 0), (2, .int 0), (0, .ref (ad 0)), (1, .int (nI a))]) hx hb (dkI DX12_needing (i := 49) rfl rfl rfl rfl) hl (k := 1) rfl (by decide) (by decide) rfl (fun ls hl => ?_)
                  refine lv_goto (tgt := 45) hx hb (dkS dF_167 DX12_needing (i := 50) rfl rfl rfl) (by decide) ?_
                  refine lv_iload hx hb (dk1 dF_21 DX12_needing (i := 28) rfl rfl rfl) (lv_at hl 0 rfl) ?_
                  refine lv_bipush (v := 8) hx hb (dks dF_16 DX12_needing (i := 29) rfl rfl rfl) (by decide) ?_
                  refine lv_icmp_ge (tgt := 91) hx hb (dkS dF_162 DX12_needing (i := 30) rfl rfl rfl) (by decide) (fun h => absurd h (by decide)) (fun _ => ?_)
                  refine lv_iload hx hb (dk1 dF_21 DX12_needing (i := 31) rfl rfl rfl) (lv_at hl 1 rfl) ?_
                  refine lv_if_ne (tgt := 78) hx hb (dkS dF_154 DX12_needing (i := 32) rfl rfl rfl) (by decide) (fun h => absurd h (by decide)) (fun _ => ?_)
                  refine lv_iload_n hx hb (dkP dF_28 DX12_needing (i := 33) rfl rfl) rfl (lv_at hl 4 rfl) ?_
                  refine lv_iload hx hb (dk1 dF_21 DX12_needing (i := 34) rfl rfl rfl) (lv_at hl 0 rfl) ?_
                  refine lv_ishr hx hb (dkP dF_122 DX12_needing (i := 35) rfl rfl) ?_
                  refine z_top (y := 0) (by decide) ?_
                  refine lv_iconst (v := 1) hx hb (dkP dF_4 DX12_needing (i := 36) rfl rfl) (by decide) ?_
                  refine lv_iand hx hb (dkP dF_126 DX12_needing (i := 37) rfl rfl) ?_
                  refine z_top (y := 0) (by decide) ?_
                  refine lv_iconst (v := 1) hx hb (dkP dF_4 DX12_needing (i := 38) rfl rfl) (by decide) ?_
                  refine lv_icmp_ne (tgt := 82) hx hb (dkS dF_160 DX12_needing (i := 39) rfl rfl rfl) (by decide) (fun _ => ?_) (fun h => absurd h (by decide))
                  refine lv_iconst (v := 0) hx hb (dkP dF_3 DX12_needing (i := 47) rfl rfl) (by decide) ?_
                  refine lv_istore (lv' := [(5, .int 0), (6, .int 5), (4, .int 7), (3, .int 0), (2, .int 0), (0, .ref (ad 0)), (1, .int (nI a))]) hx hb (dk1 dF_54 DX12_needing (i := 48) rfl rfl rfl) hl (by decide) rfl (fun ls hl => ?_)
                  refine lv_iinc (v := 6) (lv' := [(6, .int 6), (5, .int 0), (4, .int 7), (3, .int 0), (2, .int 0), (0, .ref (ad 0)), (1, .int (nI a))]) hx hb (dkI DX12_needing (i := 49) rfl rfl rfl rfl) hl (k := 1) rfl (by decide) (by decide) rfl (fun ls hl => ?_)
                  refine lv_goto (tgt := 45) hx hb (dkS dF_167 DX12_needing (i := 50) rfl rfl rfl) (by decide) ?_
                  refine lv_iload hx hb (dk1 dF_21 DX12_needing (i := 28) rfl rfl rfl) (lv_at hl 0 rfl) ?_
                  refine lv_bipush (v := 8) hx hb (dks dF_16 DX12_needing (i := 29) rfl rfl rfl) (by decide) ?_
                  refine lv_icmp_ge (tgt := 91) hx hb (dkS dF_162 DX12_needing (i := 30) rfl rfl rfl) (by decide) (fun h => absurd h (by decide)) (fun _ => ?_)
                  refine lv_iload hx hb (dk1 dF_21 DX12_needing (i := 31) rfl rfl rfl) (lv_at hl 1 rfl) ?_
                  refine lv_if_ne (tgt := 78) hx hb (dkS dF_154 DX12_needing (i := 32) rfl rfl rfl) (by decide) (fun h => absurd h (by decide)) (fun _ => ?_)
                  refine lv_iload_n hx hb (dkP dF_28 DX12_needing (i := 33) rfl rfl) rfl (lv_at hl 4 rfl) ?_
                  refine lv_iload hx hb (dk1 dF_21 DX12_needing (i := 34) rfl rfl rfl) (lv_at hl 0 rfl) ?_
                  refine lv_ishr hx hb (dkP dF_122 DX12_needing (i := 35) rfl rfl) ?_
                  refine z_top (y := 0) (by decide) ?_
                  refine lv_iconst (v := 1) hx hb (dkP dF_4 DX12_needing (i := 36) rfl rfl) (by decide) ?_
                  refine lv_iand hx hb (dkP dF_126 DX12_needing (i := 37) rfl rfl) ?_
                  refine z_top (y := 0) (by decide) ?_
                  refine lv_iconst (v := 1) hx hb (dkP dF_4 DX12_needing (i := 38) rfl rfl) (by decide) ?_
                  refine lv_icmp_ne (tgt := 82) hx hb (dkS dF_160 DX12_needing (i := 39) rfl rfl rfl) (by decide) (fun _ => ?_) (fun h => absurd h (by decide))
                  refine lv_iconst (v := 0) hx hb (dkP dF_3 DX12_needing (i := 47) rfl rfl) (by decide) ?_
                  refine lv_istore (lv' := [(5, .int 0), (6, .int 6), (4, .int 7), (3, .int 0), (2, .int 0), (0, .ref (ad 0)), (1, .int (nI a))]) hx hb (dk1 dF_54 DX12_needing (i := 48) rfl rfl rfl) hl (by decide) rfl (fun ls hl => ?_)
                  refine lv_iinc (v := 7) (lv' := [(6, .int 7), (5, .int 0), (4, .int 7), (3, .int 0), (2, .int 0), (0, .ref (ad 0)), (1, .int (nI a))]) hx hb (dkI DX12_needing (i := 49) rfl rfl rfl rfl) hl (k := 1) rfl (by decide) (by decide) rfl (fun ls hl => ?_)
                  refine lv_goto (tgt := 45) hx hb (dkS dF_167 DX12_needing (i := 50) rfl rfl rfl) (by decide) ?_
                  refine lv_iload hx hb (dk1 dF_21 DX12_needing (i := 28) rfl rfl rfl) (lv_at hl 0 rfl) ?_
                  refine lv_bipush (v := 8) hx hb (dks dF_16 DX12_needing (i := 29) rfl rfl rfl) (by decide) ?_
                  refine lv_icmp_ge (tgt := 91) hx hb (dkS dF_162 DX12_needing (i := 30) rfl rfl rfl) (by decide) (fun h => absurd h (by decide)) (fun _ => ?_)
                  refine lv_iload hx hb (dk1 dF_21 DX12_needing (i := 31) rfl rfl rfl) (lv_at hl 1 rfl) ?_
                  refine lv_if_ne (tgt := 78) hx hb (dkS dF_154 DX12_needing (i := 32) rfl rfl rfl) (by decide) (fun h => absurd h (by decide)) (fun _ => ?_)
                  refine lv_iload_n hx hb (dkP dF_28 DX12_needing (i := 33) rfl rfl) rfl (lv_at hl 4 rfl) ?_
                  refine lv_iload hx hb (dk1 dF_21 DX12_needing (i := 34) rfl rfl rfl) (lv_at hl 0 rfl) ?_
                  refine lv_ishr hx hb (dkP dF_122 DX12_needing (i := 35) rfl rfl) ?_
                  refine z_top (y := 0) (by decide) ?_
                  refine lv_iconst (v := 1) hx hb (dkP dF_4 DX12_needing (i := 36) rfl rfl) (by decide) ?_
                  refine lv_iand hx hb (dkP dF_126 DX12_needing (i := 37) rfl rfl) ?_
                  refine z_top (y := 0) (by decide) ?_
                  refine lv_iconst (v := 1) hx hb (dkP dF_4 DX12_needing (i := 38) rfl rfl) (by decide) ?_
                  refine lv_icmp_ne (tgt := 82) hx hb (dkS dF_160 DX12_needing (i := 39) rfl rfl rfl) (by decide) (fun _ => ?_) (fun h => absurd h (by decide))
                  refine lv_iconst (v := 0) hx hb (dkP dF_3 DX12_needing (i := 47) rfl rfl) (by decide) ?_
                  refine lv_istore (lv' := [(5, .int 0), (6, .int 7), (4, .int 7), (3, .int 0), (2, .int 0), (0, .ref (ad 0)), (1, .int (nI a))]) hx hb (dk1 dF_54 DX12_needing (i := 48) rfl rfl rfl) hl (by decide) rfl (fun ls hl => ?_)
                  refine lv_iinc (v := 8) (lv' := [(6, .int 8), (5, .int 0), (4, .int 7), (3, .int 0), (2, .int 0), (0, .ref (ad 0)), (1, .int (nI a))]) hx hb (dkI DX12_needing (i := 49) rfl rfl rfl rfl) hl (k := 1) rfl (by decide) (by decide) rfl (fun ls hl => ?_)
                  refine lv_goto (tgt := 45) hx hb (dkS dF_167 DX12_needing (i := 50) rfl rfl rfl) (by decide) ?_
                  refine lv_iload hx hb (dk1 dF_21 DX12_needing (i := 28) rfl rfl rfl) (lv_at hl 0 rfl) ?_
                  refine lv_bipush (v := 8) hx hb (dks dF_16 DX12_needing (i := 29) rfl rfl rfl) (by decide) ?_
                  refine lv_icmp_ge (tgt := 91) hx hb (dkS dF_162 DX12_needing (i := 30) rfl rfl rfl) (by decide) (fun _ => ?_) (fun h => absurd h (by decide))
                  refine lv_iload hx hb (dk1 dF_21 DX12_needing (i := 51) rfl rfl rfl) (lv_at hl 1 rfl) ?_
                  refine lv_if_ne (tgt := 99) hx hb (dkS dF_154 DX12_needing (i := 52) rfl rfl rfl) (by decide) (fun h => absurd h (by decide)) (fun _ => ?_)
                  refine lv_goto (tgt := 108) hx hb (dkS dF_167 DX12_needing (i := 53) rfl rfl rfl) (by decide) ?_
                  refine lv_iinc (v := 8) (lv' := [(4, .int 8), (6, .int 8), (5, .int 0), (3, .int 0), (2, .int 0), (0, .ref (ad 0)), (1, .int (nI a))]) hx hb (dkI DX12_needing (i := 62) rfl rfl rfl rfl) hl (k := 2) rfl (by decide) (by decide) rfl (fun ls hl => ?_)
                  refine lv_goto (tgt := 13) hx hb (dkS dF_167 DX12_needing (i := 63) rfl rfl rfl) (by decide) ?_
                  refine lv_iload hx hb (dk1 dF_21 DX12_needing (i := 10) rfl rfl rfl) (lv_at hl 0 rfl) ?_
                  refine lv_bipush (v := 8) hx hb (dks dF_16 DX12_needing (i := 11) rfl rfl rfl) (by decide) ?_
                  refine lv_icmp_ge (tgt := 114) hx hb (dkS dF_162 DX12_needing (i := 12) rfl rfl rfl) (by decide) (fun _ => ?_) (fun h => absurd h (by decide))
                  refine lv_goto (tgt := 4) hx hb (dkS dF_167 DX12_needing (i := 64) rfl rfl rfl) (by decide) ?_
                  refine lv_iload_n hx hb (dkP dF_29 DX12_needing (i := 4) rfl rfl) rfl (lv_at hl 3 rfl) ?_
                  refine lv_if_eq (tgt := 117) hx hb (dkS dF_153 DX12_needing (i := 5) rfl rfl rfl) (by decide) (fun _ => ?_) (fun h => absurd h (by decide))
                  refine lv_iload_n hx hb (dkP dF_28 DX12_needing (i := 65) rfl rfl) rfl (lv_at hl 4 rfl) ?_
                  exact z_iret C0 hr hlk hw (⟨(by first | rfl | ((try simp only [lg_cmp_lt, lg_cmp_le, lg_cmp_gt, lg_cmp_ge, lg_cmp_eq] at hc1); (try simp (disch := omega) only [ta_lt, ta_le, ta_eq, tb_lt, tb_le, tb_eq, tw, tnI, tn32 1 (by decide), tnj 1 (by decide), tl32 0 (by decide), tl64 0 (by decide), tl32 1 (by decide), tl64 1 (by decide), tl32 8 (by decide), tl64 8 (by decide)] at hc1); (try simp only [lg_cmp_lt, lg_cmp_le, lg_cmp_gt, lg_cmp_ge, lg_cmp_eq] at hc2); (try simp (disch := omega) only [ta_lt, ta_le, ta_eq, tb_lt, tb_le, tb_eq, tw, tnI, tn32 1 (by decide), tnj 1 (by decide), tl32 0 (by decide), tl64 0 (by decide), tl32 1 (by decide), tl64 1 (by decide), tl32 8 (by decide), tl64 8 (by decide)] at hc2); (try simp only [lg_cmp_lt, lg_cmp_le, lg_cmp_gt, lg_cmp_ge, lg_cmp_eq] at hc3); (try simp (disch := omega) only [ta_lt, ta_le, ta_eq, tb_lt, tb_le, tb_eq, tw, tnI, tn32 1 (by decide), tnj 1 (by decide), tl32 0 (by decide), tl64 0 (by decide), tl32 1 (by decide), tl64 1 (by decide), tl32 8 (by decide), tl64 8 (by decide)] at hc3); (try simp only [lg_cmp_lt, lg_cmp_le, lg_cmp_gt, lg_cmp_ge, lg_cmp_eq] at hc4); (try simp (disch := omega) only [ta_lt, ta_le, ta_eq, tb_lt, tb_le, tb_eq, tw, tnI, tn32 1 (by decide), tnj 1 (by decide), tl32 0 (by decide), tl64 0 (by decide), tl32 1 (by decide), tl64 1 (by decide), tl32 8 (by decide), tl64 8 (by decide)] at hc4); (try simp only [lg_cmp_lt, lg_cmp_le, lg_cmp_gt, lg_cmp_ge, lg_cmp_eq] at hc5); (try simp (disch := omega) only [ta_lt, ta_le, ta_eq, tb_lt, tb_le, tb_eq, tw, tnI, tn32 1 (by decide), tnj 1 (by decide), tl32 0 (by decide), tl64 0 (by decide), tl32 1 (by decide), tl64 1 (by decide), tl32 8 (by decide), tl64 8 (by decide)] at hc5); (try simp only [lg_cmp_lt, lg_cmp_le, lg_cmp_gt, lg_cmp_ge, lg_cmp_eq] at hc6); (try simp (disch := omega) only [ta_lt, ta_le, ta_eq, tb_lt, tb_le, tb_eq, tw, tnI, tn32 1 (by decide), tnj 1 (by decide), tl32 0 (by decide), tl64 0 (by decide), tl32 1 (by decide), tl64 1 (by decide), tl32 8 (by decide), tl64 8 (by decide)] at hc6); (try simp only [lg_cmp_lt, lg_cmp_le, lg_cmp_gt, lg_cmp_ge, lg_cmp_eq] at hc7); (try simp (disch := omega) only [ta_lt, ta_le, ta_eq, tb_lt, tb_le, tb_eq, tw, tnI, tn32 1 (by decide), tnj 1 (by decide), tl32 0 (by decide), tl64 0 (by decide), tl32 1 (by decide), tl64 1 (by decide), tl32 8 (by decide), tl64 8 (by decide)] at hc7); (try simp only [lg_cmp_lt, lg_cmp_le, lg_cmp_gt, lg_cmp_ge, lg_cmp_eq] at hc8); (try simp (disch := omega) only [ta_lt, ta_le, ta_eq, tb_lt, tb_le, tb_eq, tw, tnI, tn32 1 (by decide), tnj 1 (by decide), tl32 0 (by decide), tl64 0 (by decide), tl32 1 (by decide), tl64 1 (by decide), tl32 8 (by decide), tl64 8 (by decide)] at hc8); (try simp (disch := omega) only [tnI, tn32 1 (by decide), tnj 1 (by decide), tl32 0 (by decide), tl64 0 (by decide), tl32 1 (by decide), tl64 1 (by decide), tl32 8 (by decide), tl64 8 (by decide)]); (repeat' split) <;> first | rfl | omega | (apply Int32.toInt_inj.mp; simp (disch := omega) only [tnI, tn32 1 (by decide), tnj 1 (by decide), tl32 0 (by decide), tl64 0 (by decide), tl32 1 (by decide), tl64 1 (by decide), tl32 8 (by decide), tl64 8 (by decide)]; omega))), rfl⟩) (dkP dF_172 DX12_needing (i := 66) rfl rfl)
set_option maxRecDepth 100000 in
set_option maxHeartbeats 4000000 in
theorem c_X12_needs_ (l : Launch) (G : va_G) (kc : Nat → ClassId) (ad : Nat → Nat)  (p : Int32) (o : Int32)  : MI l G kc yX12_needs_ cX12_needs_ 3 (some .int) 2 48 [.ref (ad 0), .int p, .int o] shM ad sM0 (fun r σ1 => r = if 0 ≤ p.toInt ∧ p.toInt ≤ 7 ∧ 0 ≤ o.toInt ∧ o.toInt ≤ 7 then (if p.toInt = o.toInt then -5 else 0) else -2) := by
  intro sz
  refine z_body (y := yX12_needs_) (n := 3) (av := [.ref (ad 0), .int p, .int o]) (Qc := fun A => va_Qi (fun r σ1 => r = if 0 ≤ p.toInt ∧ p.toInt ≤ 7 ∧ 0 ≤ o.toInt ∧ o.toInt ≤ 7 then (if p.toInt = o.toInt then -5 else 0) else -2) (PoC G kc shM ad A) A) (plainFor_of_name (by decide)) (Nat.le_of_ble_eq_true rfl) (fun pr e s m below meth c A C0 hr hlk hnm hw ls hl => ?_) sz
  have hx := C0.1
  have hb := C0.2.1
  have hown := C0.2.2.2.1
  have hts := C0.2.2.2.2.1
  have hl : lv_has ls 3 [(0, .ref (ad 0)), (1, .int p), (2, .int o)] := hl
  refine lv_iload_n hx hb (dkP dF_27 DX12_needs_ (i := 0) rfl rfl) rfl (lv_at hl 1 rfl) ?_
  refine zn_I hw (zr_S (As := [.int p]) (rest := []) C0 (c_X12_isProgram l G kc p  _) cs_X12_isProgram lk_X12_272 (zp_P C0 a00 s00) rfl hl.1 rfl ⟨by decide, by decide⟩ (Nat.le_of_ble_eq_true rfl) (dk2 dF_184 DX12_needs_ (i := 1) rfl rfl rfl) ⟨Nat.le_refl _, Nat.le_refl _⟩) (fun r1 s1 H locs hp hw => ?_)
  rcases hp with ⟨rfl, hc1⟩ | ⟨rfl, hc1⟩
  · skip
    obtain ⟨k_p, hk_p, rfl⟩ := to_nat (x := p) (n := 8) (by (try simp only [lg_cmp_lt, lg_cmp_le, lg_cmp_gt, lg_cmp_ge, lg_cmp_eq] at hc1); (try simp (disch := omega) only [ta_lt, ta_le, ta_eq, tb_lt, tb_le, tb_eq, tw, tnI, tn32 1 (by decide), tnj 1 (by decide), tl32 0 (by decide), tl64 0 (by decide)] at hc1); (try simp (disch := omega) only [ta_lt, ta_le, ta_eq, tb_lt, tb_le, tb_eq, tw, tnI, tn32 1 (by decide), tnj 1 (by decide), tl32 0 (by decide), tl64 0 (by decide)]); omega)
    refine lv_if_eq (tgt := 14) hx hb (dkS dF_153 DX12_needs_ (i := 2) rfl rfl rfl) (by decide) (fun h => absurd h (by decide)) (fun _ => ?_)
    refine lv_iload_n hx hb (dkP dF_28 DX12_needs_ (i := 3) rfl rfl) rfl (lv_at hl 2 rfl) ?_
    refine zn_I hw (zr_S (As := [.int o]) (rest := []) C0 (c_X12_isProgram l G kc o  _) cs_X12_isProgram lk_X12_272 (zp_P C0 a00 s00) rfl hl.1 rfl ⟨by decide, by decide⟩ (Nat.le_of_ble_eq_true rfl) (dk2 dF_184 DX12_needs_ (i := 4) rfl rfl rfl) ⟨Nat.le_refl _, Nat.le_refl _⟩) (fun r2 s2 H locs hp hw => ?_)
    rcases hp with ⟨rfl, hc2⟩ | ⟨rfl, hc2⟩
    · skip
      obtain ⟨k_o, hk_o, rfl⟩ := to_nat (x := o) (n := 8) (by (try simp only [lg_cmp_lt, lg_cmp_le, lg_cmp_gt, lg_cmp_ge, lg_cmp_eq] at hc1); (try simp (disch := omega) only [ta_lt, ta_le, ta_eq, tb_lt, tb_le, tb_eq, tw, tnI, tn32 1 (by decide), tnj 1 (by decide), tl32 0 (by decide), tl64 0 (by decide)] at hc1); (try simp only [lg_cmp_lt, lg_cmp_le, lg_cmp_gt, lg_cmp_ge, lg_cmp_eq] at hk_p); (try simp (disch := omega) only [ta_lt, ta_le, ta_eq, tb_lt, tb_le, tb_eq, tw, tnI, tn32 1 (by decide), tnj 1 (by decide), tl32 0 (by decide), tl64 0 (by decide)] at hk_p); (try simp only [lg_cmp_lt, lg_cmp_le, lg_cmp_gt, lg_cmp_ge, lg_cmp_eq] at hc2); (try simp (disch := omega) only [ta_lt, ta_le, ta_eq, tb_lt, tb_le, tb_eq, tw, tnI, tn32 1 (by decide), tnj 1 (by decide), tl32 0 (by decide), tl64 0 (by decide)] at hc2); (try simp (disch := omega) only [ta_lt, ta_le, ta_eq, tb_lt, tb_le, tb_eq, tw, tnI, tn32 1 (by decide), tnj 1 (by decide), tl32 0 (by decide), tl64 0 (by decide)]); omega)
      refine lv_if_ne (tgt := 17) hx hb (dkS dF_154 DX12_needs_ (i := 5) rfl rfl rfl) (by decide) (fun _ => ?_) (fun h => absurd h (by decide))
      refine lv_iload_n hx hb (dkP dF_27 DX12_needs_ (i := 8) rfl rfl) rfl (lv_at hl 1 rfl) ?_
      refine lv_iload_n hx hb (dkP dF_28 DX12_needs_ (i := 9) rfl rfl) rfl (lv_at hl 2 rfl) ?_
      refine lv_icmp_eq (tgt := 35) hx hb (dkS dF_159 DX12_needs_ (i := 10) rfl rfl rfl) (by decide) (fun c3 => ?_) (fun c3 => ?_)
      · simp (disch := omega) only [ta_lt, ta_le, ta_eq, tnI] at c3
        refine lv_bipush (v := (-5)) hx hb (dks dF_16 DX12_needs_ (i := 20) rfl rfl rfl) (by decide) ?_
        exact z_iret C0 hr hlk hw (by first | rfl | ((try simp only [lg_cmp_lt, lg_cmp_le, lg_cmp_gt, lg_cmp_ge, lg_cmp_eq] at hc1); (try simp (disch := omega) only [ta_lt, ta_le, ta_eq, tb_lt, tb_le, tb_eq, tw, tnI, tn32 5 (by decide), tnj 5 (by decide), tn32 1 (by decide), tnj 1 (by decide), tl32 0 (by decide), tl64 0 (by decide)] at hc1); (try simp only [lg_cmp_lt, lg_cmp_le, lg_cmp_gt, lg_cmp_ge, lg_cmp_eq] at hk_p); (try simp (disch := omega) only [ta_lt, ta_le, ta_eq, tb_lt, tb_le, tb_eq, tw, tnI, tn32 5 (by decide), tnj 5 (by decide), tn32 1 (by decide), tnj 1 (by decide), tl32 0 (by decide), tl64 0 (by decide)] at hk_p); (try simp only [lg_cmp_lt, lg_cmp_le, lg_cmp_gt, lg_cmp_ge, lg_cmp_eq] at hc2); (try simp (disch := omega) only [ta_lt, ta_le, ta_eq, tb_lt, tb_le, tb_eq, tw, tnI, tn32 5 (by decide), tnj 5 (by decide), tn32 1 (by decide), tnj 1 (by decide), tl32 0 (by decide), tl64 0 (by decide)] at hc2); (try simp only [lg_cmp_lt, lg_cmp_le, lg_cmp_gt, lg_cmp_ge, lg_cmp_eq] at hk_o); (try simp (disch := omega) only [ta_lt, ta_le, ta_eq, tb_lt, tb_le, tb_eq, tw, tnI, tn32 5 (by decide), tnj 5 (by decide), tn32 1 (by decide), tnj 1 (by decide), tl32 0 (by decide), tl64 0 (by decide)] at hk_o); (try simp only [lg_cmp_lt, lg_cmp_le, lg_cmp_gt, lg_cmp_ge, lg_cmp_eq] at c3); (try simp (disch := omega) only [ta_lt, ta_le, ta_eq, tb_lt, tb_le, tb_eq, tw, tnI, tn32 5 (by decide), tnj 5 (by decide), tn32 1 (by decide), tnj 1 (by decide), tl32 0 (by decide), tl64 0 (by decide)] at c3); (try simp (disch := omega) only [tnI, tn32 5 (by decide), tnj 5 (by decide), tn32 1 (by decide), tnj 1 (by decide), tl32 0 (by decide), tl64 0 (by decide)]); (repeat' split) <;> first | rfl | omega | (apply Int32.toInt_inj.mp; simp (disch := omega) only [tnI, tn32 5 (by decide), tnj 5 (by decide), tn32 1 (by decide), tnj 1 (by decide), tl32 0 (by decide), tl64 0 (by decide)]; omega))) (dkP dF_172 DX12_needs_ (i := 21) rfl rfl)
      · simp (disch := omega) only [ta_lt, ta_le, ta_eq, tnI] at c3
        refine lv_aload_n hx hb (dkP dF_42 DX12_needs_ (i := 11) rfl rfl) rfl (lv_at hl 0 rfl) ?_
        refine lv_iload_n hx hb (dkP dF_27 DX12_needs_ (i := 12) rfl rfl) rfl (lv_at hl 1 rfl) ?_
        refine zk_I hw (zr_V (As := [.int (nI k_p)]) (rest := []) C0 (c_X12_needing l G kc ad k_p (by first | omega | assumption | decide | rfl) _) cv_X12_needing lk_X12_458 (zp_V C0 hw 0 rfl rfl rfl) rfl hl.1 rfl ⟨by decide, by decide⟩ (Nat.le_of_ble_eq_true rfl) (dk2 dF_182 DX12_needs_ (i := 13) rfl rfl rfl) ⟨Nat.le_refl _, Nat.le_refl _⟩) (fun r4 s4 H locs hp hw => ?_)
        obtain ⟨rfl, hs4⟩ := hp
        subst hs4
        refine lv_iload_n hx hb (dkP dF_28 DX12_needs_ (i := 14) rfl rfl) rfl (lv_at hl 2 rfl) ?_
        refine lv_ishr hx hb (dkP dF_122 DX12_needs_ (i := 15) rfl rfl) ?_
        refine z_top (y := 0) (z0r _) ?_
        refine lv_iconst (v := 1) hx hb (dkP dF_4 DX12_needs_ (i := 16) rfl rfl) (by decide) ?_
        refine lv_iand hx hb (dkP dF_126 DX12_needs_ (i := 17) rfl rfl) ?_
        refine z_top (y := 0) (by decide) ?_
        refine lv_iconst (v := 1) hx hb (dkP dF_4 DX12_needs_ (i := 18) rfl rfl) (by decide) ?_
        refine lv_icmp_ne (tgt := 38) hx hb (dkS dF_160 DX12_needs_ (i := 19) rfl rfl rfl) (by decide) (fun _ => ?_) (fun h => absurd h (by decide))
        refine lv_aload_n hx hb (dkP dF_42 DX12_needs_ (i := 22) rfl rfl) rfl (lv_at hl 0 rfl) ?_
        refine z_gr C0 hw 0 1 1 rfl fl_X12_20 (dk2 dF_180 DX12_needs_ (i := 23) rfl rfl rfl) ?_
        refine lv_ldcw hx hb hown (hts _ kn_X12_454) (dk2 dF_19 DX12_needs_ (i := 24) rfl rfl rfl) ?_
        refine lv_bipush (v := 8) hx hb (dks dF_16 DX12_needs_ (i := 25) rfl rfl rfl) (by decide) ?_
        refine lv_iload_n hx hb (dkP dF_27 DX12_needs_ (i := 26) rfl rfl) rfl (lv_at hl 1 rfl) ?_
        refine lv_imul hx hb (dkP dF_104 DX12_needs_ (i := 27) rfl rfl) ?_
        refine z_top (y := nI (8 * k_p)) (by simp only [fa_lit, nI_add, pk_mul]) ?_
        refine lv_iadd hx hb (dkP dF_96 DX12_needs_ (i := 28) rfl rfl) ?_
        refine z_top (y := nI (413544 + (8 * k_p))) (by simp only [fa_lit, nI_add, pk_mul]) ?_
        refine lv_iload_n hx hb (dkP dF_28 DX12_needs_ (i := 29) rfl rfl) rfl (lv_at hl 2 rfl) ?_
        refine lv_iadd hx hb (dkP dF_96 DX12_needs_ (i := 30) rfl rfl) ?_
        refine z_top (y := nI ((413544 + (8 * k_p)) + k_o)) (by simp only [fa_lit, nI_add, pk_mul]) ?_
        refine lv_iconst (v := 1) hx hb (dkP dF_4 DX12_needs_ (i := 31) rfl rfl) (by decide) ?_
        refine z_iastN (n := 414128) C0 hw 1 ((413544 + (8 * k_p)) + k_o) rfl (by omega) (by decide) (dkP dF_79 DX12_needs_ (i := 32) rfl rfl) (fun H locs hw => ?_)
        refine lv_iconst (v := 0) hx hb (dkP dF_3 DX12_needs_ (i := 33) rfl rfl) (by decide) ?_
        exact z_iret C0 hr hlk hw (by first | rfl | ((try simp only [lg_cmp_lt, lg_cmp_le, lg_cmp_gt, lg_cmp_ge, lg_cmp_eq] at hc1); (try simp (disch := omega) only [ta_lt, ta_le, ta_eq, tb_lt, tb_le, tb_eq, tw, tnI, tn32 5 (by decide), tnj 5 (by decide), tn32 1 (by decide), tnj 1 (by decide), tl32 0 (by decide), tl64 0 (by decide), tl32 1 (by decide), tl64 1 (by decide), tl32 8 (by decide), tl64 8 (by decide), tl32 413544 (by decide), tl64 413544 (by decide)] at hc1); (try simp only [lg_cmp_lt, lg_cmp_le, lg_cmp_gt, lg_cmp_ge, lg_cmp_eq] at hk_p); (try simp (disch := omega) only [ta_lt, ta_le, ta_eq, tb_lt, tb_le, tb_eq, tw, tnI, tn32 5 (by decide), tnj 5 (by decide), tn32 1 (by decide), tnj 1 (by decide), tl32 0 (by decide), tl64 0 (by decide), tl32 1 (by decide), tl64 1 (by decide), tl32 8 (by decide), tl64 8 (by decide), tl32 413544 (by decide), tl64 413544 (by decide)] at hk_p); (try simp only [lg_cmp_lt, lg_cmp_le, lg_cmp_gt, lg_cmp_ge, lg_cmp_eq] at hc2); (try simp (disch := omega) only [ta_lt, ta_le, ta_eq, tb_lt, tb_le, tb_eq, tw, tnI, tn32 5 (by decide), tnj 5 (by decide), tn32 1 (by decide), tnj 1 (by decide), tl32 0 (by decide), tl64 0 (by decide), tl32 1 (by decide), tl64 1 (by decide), tl32 8 (by decide), tl64 8 (by decide), tl32 413544 (by decide), tl64 413544 (by decide)] at hc2); (try simp only [lg_cmp_lt, lg_cmp_le, lg_cmp_gt, lg_cmp_ge, lg_cmp_eq] at hk_o); (try simp (disch := omega) only [ta_lt, ta_le, ta_eq, tb_lt, tb_le, tb_eq, tw, tnI, tn32 5 (by decide), tnj 5 (by decide), tn32 1 (by decide), tnj 1 (by decide), tl32 0 (by decide), tl64 0 (by decide), tl32 1 (by decide), tl64 1 (by decide), tl32 8 (by decide), tl64 8 (by decide), tl32 413544 (by decide), tl64 413544 (by decide)] at hk_o); (try simp only [lg_cmp_lt, lg_cmp_le, lg_cmp_gt, lg_cmp_ge, lg_cmp_eq] at c3); (try simp (disch := omega) only [ta_lt, ta_le, ta_eq, tb_lt, tb_le, tb_eq, tw, tnI, tn32 5 (by decide), tnj 5 (by decide), tn32 1 (by decide), tnj 1 (by decide), tl32 0 (by decide), tl64 0 (by decide), tl32 1 (by decide), tl64 1 (by decide), tl32 8 (by decide), tl64 8 (by decide), tl32 413544 (by decide), tl64 413544 (by decide)] at c3); (try simp (disch := omega) only [tnI, tn32 5 (by decide), tnj 5 (by decide), tn32 1 (by decide), tnj 1 (by decide), tl32 0 (by decide), tl64 0 (by decide), tl32 1 (by decide), tl64 1 (by decide), tl32 8 (by decide), tl64 8 (by decide), tl32 413544 (by decide), tl64 413544 (by decide)]); (repeat' split) <;> first | rfl | omega | (apply Int32.toInt_inj.mp; simp (disch := omega) only [tnI, tn32 5 (by decide), tnj 5 (by decide), tn32 1 (by decide), tnj 1 (by decide), tl32 0 (by decide), tl64 0 (by decide), tl32 1 (by decide), tl64 1 (by decide), tl32 8 (by decide), tl64 8 (by decide), tl32 413544 (by decide), tl64 413544 (by decide)]; omega))) (dkP dF_172 DX12_needs_ (i := 34) rfl rfl)
    · skip
      refine lv_if_ne (tgt := 17) hx hb (dkS dF_154 DX12_needs_ (i := 5) rfl rfl rfl) (by decide) (fun h => absurd h (by decide)) (fun _ => ?_)
      refine lv_bipush (v := (-2)) hx hb (dks dF_16 DX12_needs_ (i := 6) rfl rfl rfl) (by decide) ?_
      exact z_iret C0 hr hlk hw (by first | rfl | ((try simp only [lg_cmp_lt, lg_cmp_le, lg_cmp_gt, lg_cmp_ge, lg_cmp_eq] at hc1); (try simp (disch := omega) only [ta_lt, ta_le, ta_eq, tb_lt, tb_le, tb_eq, tw, tnI, tn32 5 (by decide), tnj 5 (by decide), tn32 2 (by decide), tnj 2 (by decide), tn32 1 (by decide), tnj 1 (by decide), tl32 0 (by decide), tl64 0 (by decide), tl32 1 (by decide), tl64 1 (by decide), tl32 8 (by decide), tl64 8 (by decide), tl32 413544 (by decide), tl64 413544 (by decide)] at hc1); (try simp only [lg_cmp_lt, lg_cmp_le, lg_cmp_gt, lg_cmp_ge, lg_cmp_eq] at hk_p); (try simp (disch := omega) only [ta_lt, ta_le, ta_eq, tb_lt, tb_le, tb_eq, tw, tnI, tn32 5 (by decide), tnj 5 (by decide), tn32 2 (by decide), tnj 2 (by decide), tn32 1 (by decide), tnj 1 (by decide), tl32 0 (by decide), tl64 0 (by decide), tl32 1 (by decide), tl64 1 (by decide), tl32 8 (by decide), tl64 8 (by decide), tl32 413544 (by decide), tl64 413544 (by decide)] at hk_p); (try simp only [lg_cmp_lt, lg_cmp_le, lg_cmp_gt, lg_cmp_ge, lg_cmp_eq] at hc2); (try simp (disch := omega) only [ta_lt, ta_le, ta_eq, tb_lt, tb_le, tb_eq, tw, tnI, tn32 5 (by decide), tnj 5 (by decide), tn32 2 (by decide), tnj 2 (by decide), tn32 1 (by decide), tnj 1 (by decide), tl32 0 (by decide), tl64 0 (by decide), tl32 1 (by decide), tl64 1 (by decide), tl32 8 (by decide), tl64 8 (by decide), tl32 413544 (by decide), tl64 413544 (by decide)] at hc2); (try simp (disch := omega) only [tnI, tn32 5 (by decide), tnj 5 (by decide), tn32 2 (by decide), tnj 2 (by decide), tn32 1 (by decide), tnj 1 (by decide), tl32 0 (by decide), tl64 0 (by decide), tl32 1 (by decide), tl64 1 (by decide), tl32 8 (by decide), tl64 8 (by decide), tl32 413544 (by decide), tl64 413544 (by decide)]); (repeat' split) <;> first | rfl | omega | (apply Int32.toInt_inj.mp; simp (disch := omega) only [tnI, tn32 5 (by decide), tnj 5 (by decide), tn32 2 (by decide), tnj 2 (by decide), tn32 1 (by decide), tnj 1 (by decide), tl32 0 (by decide), tl64 0 (by decide), tl32 1 (by decide), tl64 1 (by decide), tl32 8 (by decide), tl64 8 (by decide), tl32 413544 (by decide), tl64 413544 (by decide)]; omega))) (dkP dF_172 DX12_needs_ (i := 7) rfl rfl)
  · skip
    refine lv_if_eq (tgt := 14) hx hb (dkS dF_153 DX12_needs_ (i := 2) rfl rfl rfl) (by decide) (fun _ => ?_) (fun h => absurd h (by decide))
    refine lv_bipush (v := (-2)) hx hb (dks dF_16 DX12_needs_ (i := 6) rfl rfl rfl) (by decide) ?_
    exact z_iret C0 hr hlk hw (by first | rfl | ((try simp only [lg_cmp_lt, lg_cmp_le, lg_cmp_gt, lg_cmp_ge, lg_cmp_eq] at hc1); (try simp (disch := omega) only [ta_lt, ta_le, ta_eq, tb_lt, tb_le, tb_eq, tw, tnI, tn32 5 (by decide), tnj 5 (by decide), tn32 2 (by decide), tnj 2 (by decide), tn32 1 (by decide), tnj 1 (by decide), tl32 0 (by decide), tl64 0 (by decide), tl32 1 (by decide), tl64 1 (by decide), tl32 8 (by decide), tl64 8 (by decide), tl32 413544 (by decide), tl64 413544 (by decide)] at hc1); (try simp (disch := omega) only [tnI, tn32 5 (by decide), tnj 5 (by decide), tn32 2 (by decide), tnj 2 (by decide), tn32 1 (by decide), tnj 1 (by decide), tl32 0 (by decide), tl64 0 (by decide), tl32 1 (by decide), tl64 1 (by decide), tl32 8 (by decide), tl64 8 (by decide), tl32 413544 (by decide), tl64 413544 (by decide)]); (repeat' split) <;> first | rfl | omega | (apply Int32.toInt_inj.mp; simp (disch := omega) only [tnI, tn32 5 (by decide), tnj 5 (by decide), tn32 2 (by decide), tnj 2 (by decide), tn32 1 (by decide), tnj 1 (by decide), tl32 0 (by decide), tl64 0 (by decide), tl32 1 (by decide), tl64 1 (by decide), tl32 8 (by decide), tl64 8 (by decide), tl32 413544 (by decide), tl64 413544 (by decide)]; omega))) (dkP dF_172 DX12_needs_ (i := 7) rfl rfl)
set_option maxRecDepth 100000 in
set_option maxHeartbeats 4000000 in
theorem c_X12_feed (l : Launch) (G : va_G) (kc : Nat → ClassId) (ad : Nat → Nat)  (a : Int32) (b : Int32) (d : Int32) (f : Int32) (h : Int32)  : MI l G kc yX12_feed cX12_feed 7 (some .int) 0 0 [.ref (ad 0), .int a, .int b, .int d, .int f, .int h] shM ad sM0 (fun r σ1 => r = 20) := by
  intro sz
  refine z_body (y := yX12_feed) (n := 7) (av := [.ref (ad 0), .int a, .int b, .int d, .int f, .int h]) (Qc := fun A => va_Qi (fun r σ1 => r = 20) (PoC G kc shM ad A) A) (plainFor_of_name (by decide)) (Nat.le_of_ble_eq_true rfl) (fun pr e s m below meth c A C0 hr hlk hnm hw ls hl => ?_) sz
  have hx := C0.1
  have hb := C0.2.1
  have hown := C0.2.2.2.1
  have hts := C0.2.2.2.2.1
  have hl : lv_has ls 7 [(0, .ref (ad 0)), (1, .int a), (2, .int b), (3, .int d), (4, .int f), (5, .int h)] := hl
  refine lv_aload_n hx hb (dkP dF_42 DX12_feed (i := 0) rfl rfl) rfl (lv_at hl 0 rfl) ?_
  refine z_gi C0 hw 0 5 rfl fl_X12_147 (dk2 dF_180 DX12_feed (i := 1) rfl rfl rfl) ?_
  refine z_top (y := 0) (by rfl) ?_
  refine lv_bipush (v := 20) hx hb (dks dF_16 DX12_feed (i := 2) rfl rfl rfl) (by decide) ?_
  refine lv_iadd hx hb (dkP dF_96 DX12_feed (i := 3) rfl rfl) ?_
  refine z_top (y := 20) (by decide) ?_
  refine lv_sipush (v := 600) hx hb (dkS dF_17 DX12_feed (i := 4) rfl rfl rfl) (by decide) ?_
  refine lv_icmp_le (tgt := 15) hx hb (dkS dF_164 DX12_feed (i := 5) rfl rfl rfl) (by decide) (fun _ => ?_) (fun h => absurd h (by decide))
  refine lv_aload_n hx hb (dkP dF_42 DX12_feed (i := 8) rfl rfl) rfl (lv_at hl 0 rfl) ?_
  refine z_gr C0 hw 0 6 5 rfl fl_X12_36 (dk2 dF_180 DX12_feed (i := 9) rfl rfl rfl) ?_
  refine lv_iconst (v := 0) hx hb (dkP dF_3 DX12_feed (i := 10) rfl rfl) (by decide) ?_
  refine lv_iload_n hx hb (dkP dF_27 DX12_feed (i := 11) rfl rfl) rfl (lv_at hl 1 rfl) ?_
  refine z_iastN (n := 5) C0 hw 5 0 rfl (by omega) (by decide) (dkP dF_79 DX12_feed (i := 12) rfl rfl) (fun H locs hw => ?_)
  refine lv_aload_n hx hb (dkP dF_42 DX12_feed (i := 13) rfl rfl) rfl (lv_at hl 0 rfl) ?_
  refine z_gr C0 hw 0 6 5 rfl fl_X12_36 (dk2 dF_180 DX12_feed (i := 14) rfl rfl rfl) ?_
  refine lv_iconst (v := 1) hx hb (dkP dF_4 DX12_feed (i := 15) rfl rfl) (by decide) ?_
  refine lv_iload_n hx hb (dkP dF_28 DX12_feed (i := 16) rfl rfl) rfl (lv_at hl 2 rfl) ?_
  refine z_iastN (n := 5) C0 hw 5 1 rfl (by omega) (by decide) (dkP dF_79 DX12_feed (i := 17) rfl rfl) (fun H locs hw => ?_)
  refine lv_aload_n hx hb (dkP dF_42 DX12_feed (i := 18) rfl rfl) rfl (lv_at hl 0 rfl) ?_
  refine z_gr C0 hw 0 6 5 rfl fl_X12_36 (dk2 dF_180 DX12_feed (i := 19) rfl rfl rfl) ?_
  refine lv_iconst (v := 2) hx hb (dkP dF_5 DX12_feed (i := 20) rfl rfl) (by decide) ?_
  refine lv_iload_n hx hb (dkP dF_29 DX12_feed (i := 21) rfl rfl) rfl (lv_at hl 3 rfl) ?_
  refine z_iastN (n := 5) C0 hw 5 2 rfl (by omega) (by decide) (dkP dF_79 DX12_feed (i := 22) rfl rfl) (fun H locs hw => ?_)
  refine lv_aload_n hx hb (dkP dF_42 DX12_feed (i := 23) rfl rfl) rfl (lv_at hl 0 rfl) ?_
  refine z_gr C0 hw 0 6 5 rfl fl_X12_36 (dk2 dF_180 DX12_feed (i := 24) rfl rfl rfl) ?_
  refine lv_iconst (v := 3) hx hb (dkP dF_6 DX12_feed (i := 25) rfl rfl) (by decide) ?_
  refine lv_iload hx hb (dk1 dF_21 DX12_feed (i := 26) rfl rfl rfl) (lv_at hl 4 rfl) ?_
  refine z_iastN (n := 5) C0 hw 5 3 rfl (by omega) (by decide) (dkP dF_79 DX12_feed (i := 27) rfl rfl) (fun H locs hw => ?_)
  refine lv_aload_n hx hb (dkP dF_42 DX12_feed (i := 28) rfl rfl) rfl (lv_at hl 0 rfl) ?_
  refine z_gr C0 hw 0 6 5 rfl fl_X12_36 (dk2 dF_180 DX12_feed (i := 29) rfl rfl rfl) ?_
  refine lv_iconst (v := 4) hx hb (dkP dF_7 DX12_feed (i := 30) rfl rfl) (by decide) ?_
  refine lv_iload hx hb (dk1 dF_21 DX12_feed (i := 31) rfl rfl rfl) (lv_at hl 5 rfl) ?_
  refine z_iastN (n := 5) C0 hw 5 4 rfl (by omega) (by decide) (dkP dF_79 DX12_feed (i := 32) rfl rfl) (fun H locs hw => ?_)
  refine lv_iconst (v := 0) hx hb (dkP dF_3 DX12_feed (i := 33) rfl rfl) (by decide) ?_
  refine lv_istore (lv' := [(6, .int 0), (0, .ref (ad 0)), (1, .int a), (2, .int b), (3, .int d), (4, .int f), (5, .int h)]) hx hb (dk1 dF_54 DX12_feed (i := 34) rfl rfl rfl) hl (by decide) rfl (fun ls hl => ?_)
  refine lv_iload hx hb (dk1 dF_21 DX12_feed (i := 35) rfl rfl rfl) (lv_at hl 0 rfl) ?_
  refine lv_bipush (v := 20) hx hb (dks dF_16 DX12_feed (i := 36) rfl rfl rfl) (by decide) ?_
  refine lv_icmp_ge (tgt := 101) hx hb (dkS dF_162 DX12_feed (i := 37) rfl rfl rfl) (by decide) (fun h => absurd h (by decide)) (fun _ => ?_)
  refine lv_aload_n hx hb (dkP dF_42 DX12_feed (i := 38) rfl rfl) rfl (lv_at hl 1 rfl) ?_
  refine z_gr C0 hw 0 4 4 rfl fl_X12_32 (dk2 dF_180 DX12_feed (i := 39) rfl rfl rfl) ?_
  refine lv_aload_n hx hb (dkP dF_42 DX12_feed (i := 40) rfl rfl) rfl (lv_at hl 1 rfl) ?_
  refine z_gi C0 hw 0 5 rfl fl_X12_147 (dk2 dF_180 DX12_feed (i := 41) rfl rfl rfl) ?_
  refine z_top (y := 0) (by rfl) ?_
  refine lv_iload hx hb (dk1 dF_21 DX12_feed (i := 42) rfl rfl rfl) (lv_at hl 0 rfl) ?_
  refine lv_iadd hx hb (dkP dF_96 DX12_feed (i := 43) rfl rfl) ?_
  refine z_top (y := 0) (by decide) ?_
  refine lv_aload_n hx hb (dkP dF_42 DX12_feed (i := 44) rfl rfl) rfl (lv_at hl 1 rfl) ?_
  refine z_gr C0 hw 0 6 5 rfl fl_X12_36 (dk2 dF_180 DX12_feed (i := 45) rfl rfl rfl) ?_
  refine lv_iload hx hb (dk1 dF_21 DX12_feed (i := 46) rfl rfl rfl) (lv_at hl 0 rfl) ?_
  refine lv_iconst (v := 4) hx hb (dkP dF_7 DX12_feed (i := 47) rfl rfl) (by decide) ?_
  refine lv_idiv hx hb (dkP dF_108 DX12_feed (i := 48) rfl rfl) (by decide) ?_
  refine z_top (y := 0) (by decide) ?_
  refine z_ialdN (n := 5) C0 hw 5 0 rfl (by omega) (by decide) (dkP dF_46 DX12_feed (i := 49) rfl rfl) ?_
  refine z_top (y := a) (by simp [sI, u2]) ?_
  refine lv_bipush (v := 24) hx hb (dks dF_16 DX12_feed (i := 50) rfl rfl rfl) (by decide) ?_
  refine lv_bipush (v := 8) hx hb (dks dF_16 DX12_feed (i := 51) rfl rfl rfl) (by decide) ?_
  refine lv_iload hx hb (dk1 dF_21 DX12_feed (i := 52) rfl rfl rfl) (lv_at hl 0 rfl) ?_
  refine lv_iconst (v := 4) hx hb (dkP dF_7 DX12_feed (i := 53) rfl rfl) (by decide) ?_
  refine lv_irem hx hb (dkP dF_112 DX12_feed (i := 54) rfl rfl) (by decide) ?_
  refine z_top (y := 0) (by decide) ?_
  refine lv_imul hx hb (dkP dF_104 DX12_feed (i := 55) rfl rfl) ?_
  refine z_top (y := 0) (by decide) ?_
  refine lv_isub hx hb (dkP dF_100 DX12_feed (i := 56) rfl rfl) ?_
  refine z_top (y := 24) (by decide) ?_
  refine lv_ishr hx hb (dkP dF_122 DX12_feed (i := 57) rfl rfl) ?_
  refine lv_i2b hx hb (dkP dF_145 DX12_feed (i := 58) rfl rfl) rfl ?_
  refine z_bastN (n := 600) C0 hw 4 0 rfl (by omega) (by decide) (dkP dF_84 DX12_feed (i := 59) rfl rfl) (fun H locs hw => ?_)
  refine lv_iinc (v := 1) (lv' := [(6, .int 1), (0, .ref (ad 0)), (1, .int a), (2, .int b), (3, .int d), (4, .int f), (5, .int h)]) hx hb (dkI DX12_feed (i := 60) rfl rfl rfl rfl) hl (k := 0) rfl (by decide) (by decide) rfl (fun ls hl => ?_)
  refine lv_goto (tgt := 55) hx hb (dkS dF_167 DX12_feed (i := 61) rfl rfl rfl) (by decide) ?_
  refine lv_iload hx hb (dk1 dF_21 DX12_feed (i := 35) rfl rfl rfl) (lv_at hl 0 rfl) ?_
  refine lv_bipush (v := 20) hx hb (dks dF_16 DX12_feed (i := 36) rfl rfl rfl) (by decide) ?_
  refine lv_icmp_ge (tgt := 101) hx hb (dkS dF_162 DX12_feed (i := 37) rfl rfl rfl) (by decide) (fun h => absurd h (by decide)) (fun _ => ?_)
  refine lv_aload_n hx hb (dkP dF_42 DX12_feed (i := 38) rfl rfl) rfl (lv_at hl 1 rfl) ?_
  refine z_gr C0 hw 0 4 4 rfl fl_X12_32 (dk2 dF_180 DX12_feed (i := 39) rfl rfl rfl) ?_
  refine lv_aload_n hx hb (dkP dF_42 DX12_feed (i := 40) rfl rfl) rfl (lv_at hl 1 rfl) ?_
  refine z_gi C0 hw 0 5 rfl fl_X12_147 (dk2 dF_180 DX12_feed (i := 41) rfl rfl rfl) ?_
  refine z_top (y := 0) (by rfl) ?_
  refine lv_iload hx hb (dk1 dF_21 DX12_feed (i := 42) rfl rfl rfl) (lv_at hl 0 rfl) ?_
  refine lv_iadd hx hb (dkP dF_96 DX12_feed (i := 43) rfl rfl) ?_
  refine z_top (y := 1) (by decide) ?_
  refine lv_aload_n hx hb (dkP dF_42 DX12_feed (i := 44) rfl rfl) rfl (lv_at hl 1 rfl) ?_
  refine z_gr C0 hw 0 6 5 rfl fl_X12_36 (dk2 dF_180 DX12_feed (i := 45) rfl rfl rfl) ?_
  refine lv_iload hx hb (dk1 dF_21 DX12_feed (i := 46) rfl rfl rfl) (lv_at hl 0 rfl) ?_
  refine lv_iconst (v := 4) hx hb (dkP dF_7 DX12_feed (i := 47) rfl rfl) (by decide) ?_
  refine lv_idiv hx hb (dkP dF_108 DX12_feed (i := 48) rfl rfl) (by decide) ?_
  refine z_top (y := 0) (by decide) ?_
  refine z_ialdN (n := 5) C0 hw 5 0 rfl (by omega) (by decide) (dkP dF_46 DX12_feed (i := 49) rfl rfl) ?_
  refine z_top (y := a) (by simp [sI, u2]) ?_
  refine lv_bipush (v := 24) hx hb (dks dF_16 DX12_feed (i := 50) rfl rfl rfl) (by decide) ?_
  refine lv_bipush (v := 8) hx hb (dks dF_16 DX12_feed (i := 51) rfl rfl rfl) (by decide) ?_
  refine lv_iload hx hb (dk1 dF_21 DX12_feed (i := 52) rfl rfl rfl) (lv_at hl 0 rfl) ?_
  refine lv_iconst (v := 4) hx hb (dkP dF_7 DX12_feed (i := 53) rfl rfl) (by decide) ?_
  refine lv_irem hx hb (dkP dF_112 DX12_feed (i := 54) rfl rfl) (by decide) ?_
  refine z_top (y := 1) (by decide) ?_
  refine lv_imul hx hb (dkP dF_104 DX12_feed (i := 55) rfl rfl) ?_
  refine z_top (y := 8) (by decide) ?_
  refine lv_isub hx hb (dkP dF_100 DX12_feed (i := 56) rfl rfl) ?_
  refine z_top (y := 16) (by decide) ?_
  refine lv_ishr hx hb (dkP dF_122 DX12_feed (i := 57) rfl rfl) ?_
  refine lv_i2b hx hb (dkP dF_145 DX12_feed (i := 58) rfl rfl) rfl ?_
  refine z_bastN (n := 600) C0 hw 4 1 rfl (by omega) (by decide) (dkP dF_84 DX12_feed (i := 59) rfl rfl) (fun H locs hw => ?_)
  refine lv_iinc (v := 2) (lv' := [(6, .int 2), (0, .ref (ad 0)), (1, .int a), (2, .int b), (3, .int d), (4, .int f), (5, .int h)]) hx hb (dkI DX12_feed (i := 60) rfl rfl rfl rfl) hl (k := 0) rfl (by decide) (by decide) rfl (fun ls hl => ?_)
  refine lv_goto (tgt := 55) hx hb (dkS dF_167 DX12_feed (i := 61) rfl rfl rfl) (by decide) ?_
  refine lv_iload hx hb (dk1 dF_21 DX12_feed (i := 35) rfl rfl rfl) (lv_at hl 0 rfl) ?_
  refine lv_bipush (v := 20) hx hb (dks dF_16 DX12_feed (i := 36) rfl rfl rfl) (by decide) ?_
  refine lv_icmp_ge (tgt := 101) hx hb (dkS dF_162 DX12_feed (i := 37) rfl rfl rfl) (by decide) (fun h => absurd h (by decide)) (fun _ => ?_)
  refine lv_aload_n hx hb (dkP dF_42 DX12_feed (i := 38) rfl rfl) rfl (lv_at hl 1 rfl) ?_
  refine z_gr C0 hw 0 4 4 rfl fl_X12_32 (dk2 dF_180 DX12_feed (i := 39) rfl rfl rfl) ?_
  refine lv_aload_n hx hb (dkP dF_42 DX12_feed (i := 40) rfl rfl) rfl (lv_at hl 1 rfl) ?_
  refine z_gi C0 hw 0 5 rfl fl_X12_147 (dk2 dF_180 DX12_feed (i := 41) rfl rfl rfl) ?_
  refine z_top (y := 0) (by rfl) ?_
  refine lv_iload hx hb (dk1 dF_21 DX12_feed (i := 42) rfl rfl rfl) (lv_at hl 0 rfl) ?_
  refine lv_iadd hx hb (dkP dF_96 DX12_feed (i := 43) rfl rfl) ?_
  refine z_top (y := 2) (by decide) ?_
  refine lv_aload_n hx hb (dkP dF_42 DX12_feed (i := 44) rfl rfl) rfl (lv_at hl 1 rfl) ?_
  refine z_gr C0 hw 0 6 5 rfl fl_X12_36 (dk2 dF_180 DX12_feed (i := 45) rfl rfl rfl) ?_
  refine lv_iload hx hb (dk1 dF_21 DX12_feed (i := 46) rfl rfl rfl) (lv_at hl 0 rfl) ?_
  refine lv_iconst (v := 4) hx hb (dkP dF_7 DX12_feed (i := 47) rfl rfl) (by decide) ?_
  refine lv_idiv hx hb (dkP dF_108 DX12_feed (i := 48) rfl rfl) (by decide) ?_
  refine z_top (y := 0) (by decide) ?_
  refine z_ialdN (n := 5) C0 hw 5 0 rfl (by omega) (by decide) (dkP dF_46 DX12_feed (i := 49) rfl rfl) ?_
  refine z_top (y := a) (by simp [sI, u2]) ?_
  refine lv_bipush (v := 24) hx hb (dks dF_16 DX12_feed (i := 50) rfl rfl rfl) (by decide) ?_
  refine lv_bipush (v := 8) hx hb (dks dF_16 DX12_feed (i := 51) rfl rfl rfl) (by decide) ?_
  refine lv_iload hx hb (dk1 dF_21 DX12_feed (i := 52) rfl rfl rfl) (lv_at hl 0 rfl) ?_
  refine lv_iconst (v := 4) hx hb (dkP dF_7 DX12_feed (i := 53) rfl rfl) (by decide) ?_
  refine lv_irem hx hb (dkP dF_112 DX12_feed (i := 54) rfl rfl) (by decide) ?_
  refine z_top (y := 2) (by decide) ?_
  refine lv_imul hx hb (dkP dF_104 DX12_feed (i := 55) rfl rfl) ?_
  refine z_top (y := 16) (by decide) ?_
  refine lv_isub hx hb (dkP dF_100 DX12_feed (i := 56) rfl rfl) ?_
  refine z_top (y := 8) (by decide) ?_
  refine lv_ishr hx hb (dkP dF_122 DX12_feed (i := 57) rfl rfl) ?_
  refine lv_i2b hx hb (dkP dF_145 DX12_feed (i := 58) rfl rfl) rfl ?_
  refine z_bastN (n := 600) C0 hw 4 2 rfl (by omega) (by decide) (dkP dF_84 DX12_feed (i := 59) rfl rfl) (fun H locs hw => ?_)
  refine lv_iinc (v := 3) (lv' := [(6, .int 3), (0, .ref (ad 0)), (1, .int a), (2, .int b), (3, .int d), (4, .int f), (5, .int h)]) hx hb (dkI DX12_feed (i := 60) rfl rfl rfl rfl) hl (k := 0) rfl (by decide) (by decide) rfl (fun ls hl => ?_)
  refine lv_goto (tgt := 55) hx hb (dkS dF_167 DX12_feed (i := 61) rfl rfl rfl) (by decide) ?_
  refine lv_iload hx hb (dk1 dF_21 DX12_feed (i := 35) rfl rfl rfl) (lv_at hl 0 rfl) ?_
  refine lv_bipush (v := 20) hx hb (dks dF_16 DX12_feed (i := 36) rfl rfl rfl) (by decide) ?_
  refine lv_icmp_ge (tgt := 101) hx hb (dkS dF_162 DX12_feed (i := 37) rfl rfl rfl) (by decide) (fun h => absurd h (by decide)) (fun _ => ?_)
  refine lv_aload_n hx hb (dkP dF_42 DX12_feed (i := 38) rfl rfl) rfl (lv_at hl 1 rfl) ?_
  refine z_gr C0 hw 0 4 4 rfl fl_X12_32 (dk2 dF_180 DX12_feed (i := 39) rfl rfl rfl) ?_
  refine lv_aload_n hx hb (dkP dF_42 DX12_feed (i := 40) rfl rfl) rfl (lv_at hl 1 rfl) ?_
  refine z_gi C0 hw 0 5 rfl fl_X12_147 (dk2 dF_180 DX12_feed (i := 41) rfl rfl rfl) ?_
  refine z_top (y := 0) (by rfl) ?_
  refine lv_iload hx hb (dk1 dF_21 DX12_feed (i := 42) rfl rfl rfl) (lv_at hl 0 rfl) ?_
  refine lv_iadd hx hb (dkP dF_96 DX12_feed (i := 43) rfl rfl) ?_
  refine z_top (y := 3) (by decide) ?_
  refine lv_aload_n hx hb (dkP dF_42 DX12_feed (i := 44) rfl rfl) rfl (lv_at hl 1 rfl) ?_
  refine z_gr C0 hw 0 6 5 rfl fl_X12_36 (dk2 dF_180 DX12_feed (i := 45) rfl rfl rfl) ?_
  refine lv_iload hx hb (dk1 dF_21 DX12_feed (i := 46) rfl rfl rfl) (lv_at hl 0 rfl) ?_
  refine lv_iconst (v := 4) hx hb (dkP dF_7 DX12_feed (i := 47) rfl rfl) (by decide) ?_
  refine lv_idiv hx hb (dkP dF_108 DX12_feed (i := 48) rfl rfl) (by decide) ?_
  refine z_top (y := 0) (by decide) ?_
  refine z_ialdN (n := 5) C0 hw 5 0 rfl (by omega) (by decide) (dkP dF_46 DX12_feed (i := 49) rfl rfl) ?_
  refine z_top (y := a) (by simp [sI, u2]) ?_
  refine lv_bipush (v := 24) hx hb (dks dF_16 DX12_feed (i := 50) rfl rfl rfl) (by decide) ?_
  refine lv_bipush (v := 8) hx hb (dks dF_16 DX12_feed (i := 51) rfl rfl rfl) (by decide) ?_
  refine lv_iload hx hb (dk1 dF_21 DX12_feed (i := 52) rfl rfl rfl) (lv_at hl 0 rfl) ?_
  refine lv_iconst (v := 4) hx hb (dkP dF_7 DX12_feed (i := 53) rfl rfl) (by decide) ?_
  refine lv_irem hx hb (dkP dF_112 DX12_feed (i := 54) rfl rfl) (by decide) ?_
  refine z_top (y := 3) (by decide) ?_
  refine lv_imul hx hb (dkP dF_104 DX12_feed (i := 55) rfl rfl) ?_
  refine z_top (y := 24) (by decide) ?_
  refine lv_isub hx hb (dkP dF_100 DX12_feed (i := 56) rfl rfl) ?_
  refine z_top (y := 0) (by decide) ?_
  refine lv_ishr hx hb (dkP dF_122 DX12_feed (i := 57) rfl rfl) ?_
  refine lv_i2b hx hb (dkP dF_145 DX12_feed (i := 58) rfl rfl) rfl ?_
  refine z_bastN (n := 600) C0 hw 4 3 rfl (by omega) (by decide) (dkP dF_84 DX12_feed (i := 59) rfl rfl) (fun H locs hw => ?_)
  refine lv_iinc (v := 4) (lv' := [(6, .int 4), (0, .ref (ad 0)), (1, .int a), (2, .int b), (3, .int d), (4, .int f), (5, .int h)]) hx hb (dkI DX12_feed (i := 60) rfl rfl rfl rfl) hl (k := 0) rfl (by decide) (by decide) rfl (fun ls hl => ?_)
  refine lv_goto (tgt := 55) hx hb (dkS dF_167 DX12_feed (i := 61) rfl rfl rfl) (by decide) ?_
  refine lv_iload hx hb (dk1 dF_21 DX12_feed (i := 35) rfl rfl rfl) (lv_at hl 0 rfl) ?_
  refine lv_bipush (v := 20) hx hb (dks dF_16 DX12_feed (i := 36) rfl rfl rfl) (by decide) ?_
  refine lv_icmp_ge (tgt := 101) hx hb (dkS dF_162 DX12_feed (i := 37) rfl rfl rfl) (by decide) (fun h => absurd h (by decide)) (fun _ => ?_)
  refine lv_aload_n hx hb (dkP dF_42 DX12_feed (i := 38) rfl rfl) rfl (lv_at hl 1 rfl) ?_
  refine z_gr C0 hw 0 4 4 rfl fl_X12_32 (dk2 dF_180 DX12_feed (i := 39) rfl rfl rfl) ?_
  refine lv_aload_n hx hb (dkP dF_42 DX12_feed (i := 40) rfl rfl) rfl (lv_at hl 1 rfl) ?_
  refine z_gi C0 hw 0 5 rfl fl_X12_147 (dk2 dF_180 DX12_feed (i := 41) rfl rfl rfl) ?_
  refine z_top (y := 0) (by rfl) ?_
  refine lv_iload hx hb (dk1 dF_21 DX12_feed (i := 42) rfl rfl rfl) (lv_at hl 0 rfl) ?_
  refine lv_iadd hx hb (dkP dF_96 DX12_feed (i := 43) rfl rfl) ?_
  refine z_top (y := 4) (by decide) ?_
  refine lv_aload_n hx hb (dkP dF_42 DX12_feed (i := 44) rfl rfl) rfl (lv_at hl 1 rfl) ?_
  refine z_gr C0 hw 0 6 5 rfl fl_X12_36 (dk2 dF_180 DX12_feed (i := 45) rfl rfl rfl) ?_
  refine lv_iload hx hb (dk1 dF_21 DX12_feed (i := 46) rfl rfl rfl) (lv_at hl 0 rfl) ?_
  refine lv_iconst (v := 4) hx hb (dkP dF_7 DX12_feed (i := 47) rfl rfl) (by decide) ?_
  refine lv_idiv hx hb (dkP dF_108 DX12_feed (i := 48) rfl rfl) (by decide) ?_
  refine z_top (y := 1) (by decide) ?_
  refine z_ialdN (n := 5) C0 hw 5 1 rfl (by omega) (by decide) (dkP dF_46 DX12_feed (i := 49) rfl rfl) ?_
  refine z_top (y := b) (by simp [sI, u2]) ?_
  refine lv_bipush (v := 24) hx hb (dks dF_16 DX12_feed (i := 50) rfl rfl rfl) (by decide) ?_
  refine lv_bipush (v := 8) hx hb (dks dF_16 DX12_feed (i := 51) rfl rfl rfl) (by decide) ?_
  refine lv_iload hx hb (dk1 dF_21 DX12_feed (i := 52) rfl rfl rfl) (lv_at hl 0 rfl) ?_
  refine lv_iconst (v := 4) hx hb (dkP dF_7 DX12_feed (i := 53) rfl rfl) (by decide) ?_
  refine lv_irem hx hb (dkP dF_112 DX12_feed (i := 54) rfl rfl) (by decide) ?_
  refine z_top (y := 0) (by decide) ?_
  refine lv_imul hx hb (dkP dF_104 DX12_feed (i := 55) rfl rfl) ?_
  refine z_top (y := 0) (by decide) ?_
  refine lv_isub hx hb (dkP dF_100 DX12_feed (i := 56) rfl rfl) ?_
  refine z_top (y := 24) (by decide) ?_
  refine lv_ishr hx hb (dkP dF_122 DX12_feed (i := 57) rfl rfl) ?_
  refine lv_i2b hx hb (dkP dF_145 DX12_feed (i := 58) rfl rfl) rfl ?_
  refine z_bastN (n := 600) C0 hw 4 4 rfl (by omega) (by decide) (dkP dF_84 DX12_feed (i := 59) rfl rfl) (fun H locs hw => ?_)
  refine lv_iinc (v := 5) (lv' := [(6, .int 5), (0, .ref (ad 0)), (1, .int a), (2, .int b), (3, .int d), (4, .int f), (5, .int h)]) hx hb (dkI DX12_feed (i := 60) rfl rfl rfl rfl) hl (k := 0) rfl (by decide) (by decide) rfl (fun ls hl => ?_)
  refine lv_goto (tgt := 55) hx hb (dkS dF_167 DX12_feed (i := 61) rfl rfl rfl) (by decide) ?_
  refine lv_iload hx hb (dk1 dF_21 DX12_feed (i := 35) rfl rfl rfl) (lv_at hl 0 rfl) ?_
  refine lv_bipush (v := 20) hx hb (dks dF_16 DX12_feed (i := 36) rfl rfl rfl) (by decide) ?_
  refine lv_icmp_ge (tgt := 101) hx hb (dkS dF_162 DX12_feed (i := 37) rfl rfl rfl) (by decide) (fun h => absurd h (by decide)) (fun _ => ?_)
  refine lv_aload_n hx hb (dkP dF_42 DX12_feed (i := 38) rfl rfl) rfl (lv_at hl 1 rfl) ?_
  refine z_gr C0 hw 0 4 4 rfl fl_X12_32 (dk2 dF_180 DX12_feed (i := 39) rfl rfl rfl) ?_
  refine lv_aload_n hx hb (dkP dF_42 DX12_feed (i := 40) rfl rfl) rfl (lv_at hl 1 rfl) ?_
  refine z_gi C0 hw 0 5 rfl fl_X12_147 (dk2 dF_180 DX12_feed (i := 41) rfl rfl rfl) ?_
  refine z_top (y := 0) (by rfl) ?_
  refine lv_iload hx hb (dk1 dF_21 DX12_feed (i := 42) rfl rfl rfl) (lv_at hl 0 rfl) ?_
  refine lv_iadd hx hb (dkP dF_96 DX12_feed (i := 43) rfl rfl) ?_
  refine z_top (y := 5) (by decide) ?_
  refine lv_aload_n hx hb (dkP dF_42 DX12_feed (i := 44) rfl rfl) rfl (lv_at hl 1 rfl) ?_
  refine z_gr C0 hw 0 6 5 rfl fl_X12_36 (dk2 dF_180 DX12_feed (i := 45) rfl rfl rfl) ?_
  refine lv_iload hx hb (dk1 dF_21 DX12_feed (i := 46) rfl rfl rfl) (lv_at hl 0 rfl) ?_
  refine lv_iconst (v := 4) hx hb (dkP dF_7 DX12_feed (i := 47) rfl rfl) (by decide) ?_
  refine lv_idiv hx hb (dkP dF_108 DX12_feed (i := 48) rfl rfl) (by decide) ?_
  refine z_top (y := 1) (by decide) ?_
  refine z_ialdN (n := 5) C0 hw 5 1 rfl (by omega) (by decide) (dkP dF_46 DX12_feed (i := 49) rfl rfl) ?_
  refine z_top (y := b) (by simp [sI, u2]) ?_
  refine lv_bipush (v := 24) hx hb (dks dF_16 DX12_feed (i := 50) rfl rfl rfl) (by decide) ?_
  refine lv_bipush (v := 8) hx hb (dks dF_16 DX12_feed (i := 51) rfl rfl rfl) (by decide) ?_
  refine lv_iload hx hb (dk1 dF_21 DX12_feed (i := 52) rfl rfl rfl) (lv_at hl 0 rfl) ?_
  refine lv_iconst (v := 4) hx hb (dkP dF_7 DX12_feed (i := 53) rfl rfl) (by decide) ?_
  refine lv_irem hx hb (dkP dF_112 DX12_feed (i := 54) rfl rfl) (by decide) ?_
  refine z_top (y := 1) (by decide) ?_
  refine lv_imul hx hb (dkP dF_104 DX12_feed (i := 55) rfl rfl) ?_
  refine z_top (y := 8) (by decide) ?_
  refine lv_isub hx hb (dkP dF_100 DX12_feed (i := 56) rfl rfl) ?_
  refine z_top (y := 16) (by decide) ?_
  refine lv_ishr hx hb (dkP dF_122 DX12_feed (i := 57) rfl rfl) ?_
  refine lv_i2b hx hb (dkP dF_145 DX12_feed (i := 58) rfl rfl) rfl ?_
  refine z_bastN (n := 600) C0 hw 4 5 rfl (by omega) (by decide) (dkP dF_84 DX12_feed (i := 59) rfl rfl) (fun H locs hw => ?_)
  refine lv_iinc (v := 6) (lv' := [(6, .int 6), (0, .ref (ad 0)), (1, .int a), (2, .int b), (3, .int d), (4, .int f), (5, .int h)]) hx hb (dkI DX12_feed (i := 60) rfl rfl rfl rfl) hl (k := 0) rfl (by decide) (by decide) rfl (fun ls hl => ?_)
  refine lv_goto (tgt := 55) hx hb (dkS dF_167 DX12_feed (i := 61) rfl rfl rfl) (by decide) ?_
  refine lv_iload hx hb (dk1 dF_21 DX12_feed (i := 35) rfl rfl rfl) (lv_at hl 0 rfl) ?_
  refine lv_bipush (v := 20) hx hb (dks dF_16 DX12_feed (i := 36) rfl rfl rfl) (by decide) ?_
  refine lv_icmp_ge (tgt := 101) hx hb (dkS dF_162 DX12_feed (i := 37) rfl rfl rfl) (by decide) (fun h => absurd h (by decide)) (fun _ => ?_)
  refine lv_aload_n hx hb (dkP dF_42 DX12_feed (i := 38) rfl rfl) rfl (lv_at hl 1 rfl) ?_
  refine z_gr C0 hw 0 4 4 rfl fl_X12_32 (dk2 dF_180 DX12_feed (i := 39) rfl rfl rfl) ?_
  refine lv_aload_n hx hb (dkP dF_42 DX12_feed (i := 40) rfl rfl) rfl (lv_at hl 1 rfl) ?_
  refine z_gi C0 hw 0 5 rfl fl_X12_147 (dk2 dF_180 DX12_feed (i := 41) rfl rfl rfl) ?_
  refine z_top (y := 0) (by rfl) ?_
  refine lv_iload hx hb (dk1 dF_21 DX12_feed (i := 42) rfl rfl rfl) (lv_at hl 0 rfl) ?_
  refine lv_iadd hx hb (dkP dF_96 DX12_feed (i := 43) rfl rfl) ?_
  refine z_top (y := 6) (by decide) ?_
  refine lv_aload_n hx hb (dkP dF_42 DX12_feed (i := 44) rfl rfl) rfl (lv_at hl 1 rfl) ?_
  refine z_gr C0 hw 0 6 5 rfl fl_X12_36 (dk2 dF_180 DX12_feed (i := 45) rfl rfl rfl) ?_
  refine lv_iload hx hb (dk1 dF_21 DX12_feed (i := 46) rfl rfl rfl) (lv_at hl 0 rfl) ?_
  refine lv_iconst (v := 4) hx hb (dkP dF_7 DX12_feed (i := 47) rfl rfl) (by decide) ?_
  refine lv_idiv hx hb (dkP dF_108 DX12_feed (i := 48) rfl rfl) (by decide) ?_
  refine z_top (y := 1) (by decide) ?_
  refine z_ialdN (n := 5) C0 hw 5 1 rfl (by omega) (by decide) (dkP dF_46 DX12_feed (i := 49) rfl rfl) ?_
  refine z_top (y := b) (by simp [sI, u2]) ?_
  refine lv_bipush (v := 24) hx hb (dks dF_16 DX12_feed (i := 50) rfl rfl rfl) (by decide) ?_
  refine lv_bipush (v := 8) hx hb (dks dF_16 DX12_feed (i := 51) rfl rfl rfl) (by decide) ?_
  refine lv_iload hx hb (dk1 dF_21 DX12_feed (i := 52) rfl rfl rfl) (lv_at hl 0 rfl) ?_
  refine lv_iconst (v := 4) hx hb (dkP dF_7 DX12_feed (i := 53) rfl rfl) (by decide) ?_
  refine lv_irem hx hb (dkP dF_112 DX12_feed (i := 54) rfl rfl) (by decide) ?_
  refine z_top (y := 2) (by decide) ?_
  refine lv_imul hx hb (dkP dF_104 DX12_feed (i := 55) rfl rfl) ?_
  refine z_top (y := 16) (by decide) ?_
  refine lv_isub hx hb (dkP dF_100 DX12_feed (i := 56) rfl rfl) ?_
  refine z_top (y := 8) (by decide) ?_
  refine lv_ishr hx hb (dkP dF_122 DX12_feed (i := 57) rfl rfl) ?_
  refine lv_i2b hx hb (dkP dF_145 DX12_feed (i := 58) rfl rfl) rfl ?_
  refine z_bastN (n := 600) C0 hw 4 6 rfl (by omega) (by decide) (dkP dF_84 DX12_feed (i := 59) rfl rfl) (fun H locs hw => ?_)
  refine lv_iinc (v := 7) (lv' := [(6, .int 7), (0, .ref (ad 0)), (1, .int a), (2, .int b), (3, .int d), (4, .int f), (5, .int h)]) hx hb (dkI DX12_feed (i := 60) rfl rfl rfl rfl) hl (k := 0) rfl (by decide) (by decide) rfl (fun ls hl => ?_)
  refine lv_goto (tgt := 55) hx hb (dkS dF_167 DX12_feed (i := 61) rfl rfl rfl) (by decide) ?_
  refine lv_iload hx hb (dk1 dF_21 DX12_feed (i := 35) rfl rfl rfl) (lv_at hl 0 rfl) ?_
  refine lv_bipush (v := 20) hx hb (dks dF_16 DX12_feed (i := 36) rfl rfl rfl) (by decide) ?_
  refine lv_icmp_ge (tgt := 101) hx hb (dkS dF_162 DX12_feed (i := 37) rfl rfl rfl) (by decide) (fun h => absurd h (by decide)) (fun _ => ?_)
  refine lv_aload_n hx hb (dkP dF_42 DX12_feed (i := 38) rfl rfl) rfl (lv_at hl 1 rfl) ?_
  refine z_gr C0 hw 0 4 4 rfl fl_X12_32 (dk2 dF_180 DX12_feed (i := 39) rfl rfl rfl) ?_
  refine lv_aload_n hx hb (dkP dF_42 DX12_feed (i := 40) rfl rfl) rfl (lv_at hl 1 rfl) ?_
  refine z_gi C0 hw 0 5 rfl fl_X12_147 (dk2 dF_180 DX12_feed (i := 41) rfl rfl rfl) ?_
  refine z_top (y := 0) (by rfl) ?_
  refine lv_iload hx hb (dk1 dF_21 DX12_feed (i := 42) rfl rfl rfl) (lv_at hl 0 rfl) ?_
  refine lv_iadd hx hb (dkP dF_96 DX12_feed (i := 43) rfl rfl) ?_
  refine z_top (y := 7) (by decide) ?_
  refine lv_aload_n hx hb (dkP dF_42 DX12_feed (i := 44) rfl rfl) rfl (lv_at hl 1 rfl) ?_
  refine z_gr C0 hw 0 6 5 rfl fl_X12_36 (dk2 dF_180 DX12_feed (i := 45) rfl rfl rfl) ?_
  refine lv_iload hx hb (dk1 dF_21 DX12_feed (i := 46) rfl rfl rfl) (lv_at hl 0 rfl) ?_
  refine lv_iconst (v := 4) hx hb (dkP dF_7 DX12_feed (i := 47) rfl rfl) (by decide) ?_
  refine lv_idiv hx hb (dkP dF_108 DX12_feed (i := 48) rfl rfl) (by decide) ?_
  refine z_top (y := 1) (by decide) ?_
  refine z_ialdN (n := 5) C0 hw 5 1 rfl (by omega) (by decide) (dkP dF_46 DX12_feed (i := 49) rfl rfl) ?_
  refine z_top (y := b) (by simp [sI, u2]) ?_
  refine lv_bipush (v := 24) hx hb (dks dF_16 DX12_feed (i := 50) rfl rfl rfl) (by decide) ?_
  refine lv_bipush (v := 8) hx hb (dks dF_16 DX12_feed (i := 51) rfl rfl rfl) (by decide) ?_
  refine lv_iload hx hb (dk1 dF_21 DX12_feed (i := 52) rfl rfl rfl) (lv_at hl 0 rfl) ?_
  refine lv_iconst (v := 4) hx hb (dkP dF_7 DX12_feed (i := 53) rfl rfl) (by decide) ?_
  refine lv_irem hx hb (dkP dF_112 DX12_feed (i := 54) rfl rfl) (by decide) ?_
  refine z_top (y := 3) (by decide) ?_
  refine lv_imul hx hb (dkP dF_104 DX12_feed (i := 55) rfl rfl) ?_
  refine z_top (y := 24) (by decide) ?_
  refine lv_isub hx hb (dkP dF_100 DX12_feed (i := 56) rfl rfl) ?_
  refine z_top (y := 0) (by decide) ?_
  refine lv_ishr hx hb (dkP dF_122 DX12_feed (i := 57) rfl rfl) ?_
  refine lv_i2b hx hb (dkP dF_145 DX12_feed (i := 58) rfl rfl) rfl ?_
  refine z_bastN (n := 600) C0 hw 4 7 rfl (by omega) (by decide) (dkP dF_84 DX12_feed (i := 59) rfl rfl) (fun H locs hw => ?_)
  refine lv_iinc (v := 8) (lv' := [(6, .int 8), (0, .ref (ad 0)), (1, .int a), (2, .int b), (3, .int d), (4, .int f), (5, .int h)]) hx hb (dkI DX12_feed (i := 60) rfl rfl rfl rfl) hl (k := 0) rfl (by decide) (by decide) rfl (fun ls hl => ?_)
  refine lv_goto (tgt := 55) hx hb (dkS dF_167 DX12_feed (i := 61) rfl rfl rfl) (by decide) ?_
  refine lv_iload hx hb (dk1 dF_21 DX12_feed (i := 35) rfl rfl rfl) (lv_at hl 0 rfl) ?_
  refine lv_bipush (v := 20) hx hb (dks dF_16 DX12_feed (i := 36) rfl rfl rfl) (by decide) ?_
  refine lv_icmp_ge (tgt := 101) hx hb (dkS dF_162 DX12_feed (i := 37) rfl rfl rfl) (by decide) (fun h => absurd h (by decide)) (fun _ => ?_)
  refine lv_aload_n hx hb (dkP dF_42 DX12_feed (i := 38) rfl rfl) rfl (lv_at hl 1 rfl) ?_
  refine z_gr C0 hw 0 4 4 rfl fl_X12_32 (dk2 dF_180 DX12_feed (i := 39) rfl rfl rfl) ?_
  refine lv_aload_n hx hb (dkP dF_42 DX12_feed (i := 40) rfl rfl) rfl (lv_at hl 1 rfl) ?_
  refine z_gi C0 hw 0 5 rfl fl_X12_147 (dk2 dF_180 DX12_feed (i := 41) rfl rfl rfl) ?_
  refine z_top (y := 0) (by rfl) ?_
  refine lv_iload hx hb (dk1 dF_21 DX12_feed (i := 42) rfl rfl rfl) (lv_at hl 0 rfl) ?_
  refine lv_iadd hx hb (dkP dF_96 DX12_feed (i := 43) rfl rfl) ?_
  refine z_top (y := 8) (by decide) ?_
  refine lv_aload_n hx hb (dkP dF_42 DX12_feed (i := 44) rfl rfl) rfl (lv_at hl 1 rfl) ?_
  refine z_gr C0 hw 0 6 5 rfl fl_X12_36 (dk2 dF_180 DX12_feed (i := 45) rfl rfl rfl) ?_
  refine lv_iload hx hb (dk1 dF_21 DX12_feed (i := 46) rfl rfl rfl) (lv_at hl 0 rfl) ?_
  refine lv_iconst (v := 4) hx hb (dkP dF_7 DX12_feed (i := 47) rfl rfl) (by decide) ?_
  refine lv_idiv hx hb (dkP dF_108 DX12_feed (i := 48) rfl rfl) (by decide) ?_
  refine z_top (y := 2) (by decide) ?_
  refine z_ialdN (n := 5) C0 hw 5 2 rfl (by omega) (by decide) (dkP dF_46 DX12_feed (i := 49) rfl rfl) ?_
  refine z_top (y := d) (by simp [sI, u2]) ?_
  refine lv_bipush (v := 24) hx hb (dks dF_16 DX12_feed (i := 50) rfl rfl rfl) (by decide) ?_
  refine lv_bipush (v := 8) hx hb (dks dF_16 DX12_feed (i := 51) rfl rfl rfl) (by decide) ?_
  refine lv_iload hx hb (dk1 dF_21 DX12_feed (i := 52) rfl rfl rfl) (lv_at hl 0 rfl) ?_
  refine lv_iconst (v := 4) hx hb (dkP dF_7 DX12_feed (i := 53) rfl rfl) (by decide) ?_
  refine lv_irem hx hb (dkP dF_112 DX12_feed (i := 54) rfl rfl) (by decide) ?_
  refine z_top (y := 0) (by decide) ?_
  refine lv_imul hx hb (dkP dF_104 DX12_feed (i := 55) rfl rfl) ?_
  refine z_top (y := 0) (by decide) ?_
  refine lv_isub hx hb (dkP dF_100 DX12_feed (i := 56) rfl rfl) ?_
  refine z_top (y := 24) (by decide) ?_
  refine lv_ishr hx hb (dkP dF_122 DX12_feed (i := 57) rfl rfl) ?_
  refine lv_i2b hx hb (dkP dF_145 DX12_feed (i := 58) rfl rfl) rfl ?_
  refine z_bastN (n := 600) C0 hw 4 8 rfl (by omega) (by decide) (dkP dF_84 DX12_feed (i := 59) rfl rfl) (fun H locs hw => ?_)
  refine lv_iinc (v := 9) (lv' := [(6, .int 9), (0, .ref (ad 0)), (1, .int a), (2, .int b), (3, .int d), (4, .int f), (5, .int h)]) hx hb (dkI DX12_feed (i := 60) rfl rfl rfl rfl) hl (k := 0) rfl (by decide) (by decide) rfl (fun ls hl => ?_)
  refine lv_goto (tgt := 55) hx hb (dkS dF_167 DX12_feed (i := 61) rfl rfl rfl) (by decide) ?_
  refine lv_iload hx hb (dk1 dF_21 DX12_feed (i := 35) rfl rfl rfl) (lv_at hl 0 rfl) ?_
  refine lv_bipush (v := 20) hx hb (dks dF_16 DX12_feed (i := 36) rfl rfl rfl) (by decide) ?_
  refine lv_icmp_ge (tgt := 101) hx hb (dkS dF_162 DX12_feed (i := 37) rfl rfl rfl) (by decide) (fun h => absurd h (by decide)) (fun _ => ?_)
  refine lv_aload_n hx hb (dkP dF_42 DX12_feed (i := 38) rfl rfl) rfl (lv_at hl 1 rfl) ?_
  refine z_gr C0 hw 0 4 4 rfl fl_X12_32 (dk2 dF_180 DX12_feed (i := 39) rfl rfl rfl) ?_
  refine lv_aload_n hx hb (dkP dF_42 DX12_feed (i := 40) rfl rfl) rfl (lv_at hl 1 rfl) ?_
  refine z_gi C0 hw 0 5 rfl fl_X12_147 (dk2 dF_180 DX12_feed (i := 41) rfl rfl rfl) ?_
  refine z_top (y := 0) (by rfl) ?_
  refine lv_iload hx hb (dk1 dF_21 DX12_feed (i := 42) rfl rfl rfl) (lv_at hl 0 rfl) ?_
  refine lv_iadd hx hb (dkP dF_96 DX12_feed (i := 43) rfl rfl) ?_
  refine z_top (y := 9) (by decide) ?_
  refine lv_aload_n hx hb (dkP dF_42 DX12_feed (i := 44) rfl rfl) rfl (lv_at hl 1 rfl) ?_
  refine z_gr C0 hw 0 6 5 rfl fl_X12_36 (dk2 dF_180 DX12_feed (i := 45) rfl rfl rfl) ?_
  refine lv_iload hx hb (dk1 dF_21 DX12_feed (i := 46) rfl rfl rfl) (lv_at hl 0 rfl) ?_
  refine lv_iconst (v := 4) hx hb (dkP dF_7 DX12_feed (i := 47) rfl rfl) (by decide) ?_
  refine lv_idiv hx hb (dkP dF_108 DX12_feed (i := 48) rfl rfl) (by decide) ?_
  refine z_top (y := 2) (by decide) ?_
  refine z_ialdN (n := 5) C0 hw 5 2 rfl (by omega) (by decide) (dkP dF_46 DX12_feed (i := 49) rfl rfl) ?_
  refine z_top (y := d) (by simp [sI, u2]) ?_
  refine lv_bipush (v := 24) hx hb (dks dF_16 DX12_feed (i := 50) rfl rfl rfl) (by decide) ?_
  refine lv_bipush (v := 8) hx hb (dks dF_16 DX12_feed (i := 51) rfl rfl rfl) (by decide) ?_
  refine lv_iload hx hb (dk1 dF_21 DX12_feed (i := 52) rfl rfl rfl) (lv_at hl 0 rfl) ?_
  refine lv_iconst (v := 4) hx hb (dkP dF_7 DX12_feed (i := 53) rfl rfl) (by decide) ?_
  refine lv_irem hx hb (dkP dF_112 DX12_feed (i := 54) rfl rfl) (by decide) ?_
  refine z_top (y := 1) (by decide) ?_
  refine lv_imul hx hb (dkP dF_104 DX12_feed (i := 55) rfl rfl) ?_
  refine z_top (y := 8) (by decide) ?_
  refine lv_isub hx hb (dkP dF_100 DX12_feed (i := 56) rfl rfl) ?_
  refine z_top (y := 16) (by decide) ?_
  refine lv_ishr hx hb (dkP dF_122 DX12_feed (i := 57) rfl rfl) ?_
  refine lv_i2b hx hb (dkP dF_145 DX12_feed (i := 58) rfl rfl) rfl ?_
  refine z_bastN (n := 600) C0 hw 4 9 rfl (by omega) (by decide) (dkP dF_84 DX12_feed (i := 59) rfl rfl) (fun H locs hw => ?_)
  refine lv_iinc (v := 10) (lv' := [(6, .int 10), (0, .ref (ad 0)), (1, .int a), (2, .int b), (3, .int d), (4, .int f), (5, .int h)]) hx hb (dkI DX12_feed (i := 60) rfl rfl rfl rfl) hl (k := 0) rfl (by decide) (by decide) rfl (fun ls hl => ?_)
  refine lv_goto (tgt := 55) hx hb (dkS dF_167 DX12_feed (i := 61) rfl rfl rfl) (by decide) ?_
  refine lv_iload hx hb (dk1 dF_21 DX12_feed (i := 35) rfl rfl rfl) (lv_at hl 0 rfl) ?_
  refine lv_bipush (v := 20) hx hb (dks dF_16 DX12_feed (i := 36) rfl rfl rfl) (by decide) ?_
  refine lv_icmp_ge (tgt := 101) hx hb (dkS dF_162 DX12_feed (i := 37) rfl rfl rfl) (by decide) (fun h => absurd h (by decide)) (fun _ => ?_)
  refine lv_aload_n hx hb (dkP dF_42 DX12_feed (i := 38) rfl rfl) rfl (lv_at hl 1 rfl) ?_
  refine z_gr C0 hw 0 4 4 rfl fl_X12_32 (dk2 dF_180 DX12_feed (i := 39) rfl rfl rfl) ?_
  refine lv_aload_n hx hb (dkP dF_42 DX12_feed (i := 40) rfl rfl) rfl (lv_at hl 1 rfl) ?_
  refine z_gi C0 hw 0 5 rfl fl_X12_147 (dk2 dF_180 DX12_feed (i := 41) rfl rfl rfl) ?_
  refine z_top (y := 0) (by rfl) ?_
  refine lv_iload hx hb (dk1 dF_21 DX12_feed (i := 42) rfl rfl rfl) (lv_at hl 0 rfl) ?_
  refine lv_iadd hx hb (dkP dF_96 DX12_feed (i := 43) rfl rfl) ?_
  refine z_top (y := 10) (by decide) ?_
  refine lv_aload_n hx hb (dkP dF_42 DX12_feed (i := 44) rfl rfl) rfl (lv_at hl 1 rfl) ?_
  refine z_gr C0 hw 0 6 5 rfl fl_X12_36 (dk2 dF_180 DX12_feed (i := 45) rfl rfl rfl) ?_
  refine lv_iload hx hb (dk1 dF_21 DX12_feed (i := 46) rfl rfl rfl) (lv_at hl 0 rfl) ?_
  refine lv_iconst (v := 4) hx hb (dkP dF_7 DX12_feed (i := 47) rfl rfl) (by decide) ?_
  refine lv_idiv hx hb (dkP dF_108 DX12_feed (i := 48) rfl rfl) (by decide) ?_
  refine z_top (y := 2) (by decide) ?_
  refine z_ialdN (n := 5) C0 hw 5 2 rfl (by omega) (by decide) (dkP dF_46 DX12_feed (i := 49) rfl rfl) ?_
  refine z_top (y := d) (by simp [sI, u2]) ?_
  refine lv_bipush (v := 24) hx hb (dks dF_16 DX12_feed (i := 50) rfl rfl rfl) (by decide) ?_
  refine lv_bipush (v := 8) hx hb (dks dF_16 DX12_feed (i := 51) rfl rfl rfl) (by decide) ?_
  refine lv_iload hx hb (dk1 dF_21 DX12_feed (i := 52) rfl rfl rfl) (lv_at hl 0 rfl) ?_
  refine lv_iconst (v := 4) hx hb (dkP dF_7 DX12_feed (i := 53) rfl rfl) (by decide) ?_
  refine lv_irem hx hb (dkP dF_112 DX12_feed (i := 54) rfl rfl) (by decide) ?_
  refine z_top (y := 2) (by decide) ?_
  refine lv_imul hx hb (dkP dF_104 DX12_feed (i := 55) rfl rfl) ?_
  refine z_top (y := 16) (by decide) ?_
  refine lv_isub hx hb (dkP dF_100 DX12_feed (i := 56) rfl rfl) ?_
  refine z_top (y := 8) (by decide) ?_
  refine lv_ishr hx hb (dkP dF_122 DX12_feed (i := 57) rfl rfl) ?_
  refine lv_i2b hx hb (dkP dF_145 DX12_feed (i := 58) rfl rfl) rfl ?_
  refine z_bastN (n := 600) C0 hw 4 10 rfl (by omega) (by decide) (dkP dF_84 DX12_feed (i := 59) rfl rfl) (fun H locs hw => ?_)
  refine lv_iinc (v := 11) (lv' := [(6, .int 11), (0, .ref (ad 0)), (1, .int a), (2, .int b), (3, .int d), (4, .int f), (5, .int h)]) hx hb (dkI DX12_feed (i := 60) rfl rfl rfl rfl) hl (k := 0) rfl (by decide) (by decide) rfl (fun ls hl => ?_)
  refine lv_goto (tgt := 55) hx hb (dkS dF_167 DX12_feed (i := 61) rfl rfl rfl) (by decide) ?_
  refine lv_iload hx hb (dk1 dF_21 DX12_feed (i := 35) rfl rfl rfl) (lv_at hl 0 rfl) ?_
  refine lv_bipush (v := 20) hx hb (dks dF_16 DX12_feed (i := 36) rfl rfl rfl) (by decide) ?_
  refine lv_icmp_ge (tgt := 101) hx hb (dkS dF_162 DX12_feed (i := 37) rfl rfl rfl) (by decide) (fun h => absurd h (by decide)) (fun _ => ?_)
  refine lv_aload_n hx hb (dkP dF_42 DX12_feed (i := 38) rfl rfl) rfl (lv_at hl 1 rfl) ?_
  refine z_gr C0 hw 0 4 4 rfl fl_X12_32 (dk2 dF_180 DX12_feed (i := 39) rfl rfl rfl) ?_
  refine lv_aload_n hx hb (dkP dF_42 DX12_feed (i := 40) rfl rfl) rfl (lv_at hl 1 rfl) ?_
  refine z_gi C0 hw 0 5 rfl fl_X12_147 (dk2 dF_180 DX12_feed (i := 41) rfl rfl rfl) ?_
  refine z_top (y := 0) (by rfl) ?_
  refine lv_iload hx hb (dk1 dF_21 DX12_feed (i := 42) rfl rfl rfl) (lv_at hl 0 rfl) ?_
  refine lv_iadd hx hb (dkP dF_96 DX12_feed (i := 43) rfl rfl) ?_
  refine z_top (y := 11) (by decide) ?_
  refine lv_aload_n hx hb (dkP dF_42 DX12_feed (i := 44) rfl rfl) rfl (lv_at hl 1 rfl) ?_
  refine z_gr C0 hw 0 6 5 rfl fl_X12_36 (dk2 dF_180 DX12_feed (i := 45) rfl rfl rfl) ?_
  refine lv_iload hx hb (dk1 dF_21 DX12_feed (i := 46) rfl rfl rfl) (lv_at hl 0 rfl) ?_
  refine lv_iconst (v := 4) hx hb (dkP dF_7 DX12_feed (i := 47) rfl rfl) (by decide) ?_
  refine lv_idiv hx hb (dkP dF_108 DX12_feed (i := 48) rfl rfl) (by decide) ?_
  refine z_top (y := 2) (by decide) ?_
  refine z_ialdN (n := 5) C0 hw 5 2 rfl (by omega) (by decide) (dkP dF_46 DX12_feed (i := 49) rfl rfl) ?_
  refine z_top (y := d) (by simp [sI, u2]) ?_
  refine lv_bipush (v := 24) hx hb (dks dF_16 DX12_feed (i := 50) rfl rfl rfl) (by decide) ?_
  refine lv_bipush (v := 8) hx hb (dks dF_16 DX12_feed (i := 51) rfl rfl rfl) (by decide) ?_
  refine lv_iload hx hb (dk1 dF_21 DX12_feed (i := 52) rfl rfl rfl) (lv_at hl 0 rfl) ?_
  refine lv_iconst (v := 4) hx hb (dkP dF_7 DX12_feed (i := 53) rfl rfl) (by decide) ?_
  refine lv_irem hx hb (dkP dF_112 DX12_feed (i := 54) rfl rfl) (by decide) ?_
  refine z_top (y := 3) (by decide) ?_
  refine lv_imul hx hb (dkP dF_104 DX12_feed (i := 55) rfl rfl) ?_
  refine z_top (y := 24) (by decide) ?_
  refine lv_isub hx hb (dkP dF_100 DX12_feed (i := 56) rfl rfl) ?_
  refine z_top (y := 0) (by decide) ?_
  refine lv_ishr hx hb (dkP dF_122 DX12_feed (i := 57) rfl rfl) ?_
  refine lv_i2b hx hb (dkP dF_145 DX12_feed (i := 58) rfl rfl) rfl ?_
  refine z_bastN (n := 600) C0 hw 4 11 rfl (by omega) (by decide) (dkP dF_84 DX12_feed (i := 59) rfl rfl) (fun H locs hw => ?_)
  refine lv_iinc (v := 12) (lv' := [(6, .int 12), (0, .ref (ad 0)), (1, .int a), (2, .int b), (3, .int d), (4, .int f), (5, .int h)]) hx hb (dkI DX12_feed (i := 60) rfl rfl rfl rfl) hl (k := 0) rfl (by decide) (by decide) rfl (fun ls hl => ?_)
  refine lv_goto (tgt := 55) hx hb (dkS dF_167 DX12_feed (i := 61) rfl rfl rfl) (by decide) ?_
  refine lv_iload hx hb (dk1 dF_21 DX12_feed (i := 35) rfl rfl rfl) (lv_at hl 0 rfl) ?_
  refine lv_bipush (v := 20) hx hb (dks dF_16 DX12_feed (i := 36) rfl rfl rfl) (by decide) ?_
  refine lv_icmp_ge (tgt := 101) hx hb (dkS dF_162 DX12_feed (i := 37) rfl rfl rfl) (by decide) (fun h => absurd h (by decide)) (fun _ => ?_)
  refine lv_aload_n hx hb (dkP dF_42 DX12_feed (i := 38) rfl rfl) rfl (lv_at hl 1 rfl) ?_
  refine z_gr C0 hw 0 4 4 rfl fl_X12_32 (dk2 dF_180 DX12_feed (i := 39) rfl rfl rfl) ?_
  refine lv_aload_n hx hb (dkP dF_42 DX12_feed (i := 40) rfl rfl) rfl (lv_at hl 1 rfl) ?_
  refine z_gi C0 hw 0 5 rfl fl_X12_147 (dk2 dF_180 DX12_feed (i := 41) rfl rfl rfl) ?_
  refine z_top (y := 0) (by rfl) ?_
  refine lv_iload hx hb (dk1 dF_21 DX12_feed (i := 42) rfl rfl rfl) (lv_at hl 0 rfl) ?_
  refine lv_iadd hx hb (dkP dF_96 DX12_feed (i := 43) rfl rfl) ?_
  refine z_top (y := 12) (by decide) ?_
  refine lv_aload_n hx hb (dkP dF_42 DX12_feed (i := 44) rfl rfl) rfl (lv_at hl 1 rfl) ?_
  refine z_gr C0 hw 0 6 5 rfl fl_X12_36 (dk2 dF_180 DX12_feed (i := 45) rfl rfl rfl) ?_
  refine lv_iload hx hb (dk1 dF_21 DX12_feed (i := 46) rfl rfl rfl) (lv_at hl 0 rfl) ?_
  refine lv_iconst (v := 4) hx hb (dkP dF_7 DX12_feed (i := 47) rfl rfl) (by decide) ?_
  refine lv_idiv hx hb (dkP dF_108 DX12_feed (i := 48) rfl rfl) (by decide) ?_
  refine z_top (y := 3) (by decide) ?_
  refine z_ialdN (n := 5) C0 hw 5 3 rfl (by omega) (by decide) (dkP dF_46 DX12_feed (i := 49) rfl rfl) ?_
  refine z_top (y := f) (by simp [sI, u2]) ?_
  refine lv_bipush (v := 24) hx hb (dks dF_16 DX12_feed (i := 50) rfl rfl rfl) (by decide) ?_
  refine lv_bipush (v := 8) hx hb (dks dF_16 DX12_feed (i := 51) rfl rfl rfl) (by decide) ?_
  refine lv_iload hx hb (dk1 dF_21 DX12_feed (i := 52) rfl rfl rfl) (lv_at hl 0 rfl) ?_
  refine lv_iconst (v := 4) hx hb (dkP dF_7 DX12_feed (i := 53) rfl rfl) (by decide) ?_
  refine lv_irem hx hb (dkP dF_112 DX12_feed (i := 54) rfl rfl) (by decide) ?_
  refine z_top (y := 0) (by decide) ?_
  refine lv_imul hx hb (dkP dF_104 DX12_feed (i := 55) rfl rfl) ?_
  refine z_top (y := 0) (by decide) ?_
  refine lv_isub hx hb (dkP dF_100 DX12_feed (i := 56) rfl rfl) ?_
  refine z_top (y := 24) (by decide) ?_
  refine lv_ishr hx hb (dkP dF_122 DX12_feed (i := 57) rfl rfl) ?_
  refine lv_i2b hx hb (dkP dF_145 DX12_feed (i := 58) rfl rfl) rfl ?_
  refine z_bastN (n := 600) C0 hw 4 12 rfl (by omega) (by decide) (dkP dF_84 DX12_feed (i := 59) rfl rfl) (fun H locs hw => ?_)
  refine lv_iinc (v := 13) (lv' := [(6, .int 13), (0, .ref (ad 0)), (1, .int a), (2, .int b), (3, .int d), (4, .int f), (5, .int h)]) hx hb (dkI DX12_feed (i := 60) rfl rfl rfl rfl) hl (k := 0) rfl (by decide) (by decide) rfl (fun ls hl => ?_)
  refine lv_goto (tgt := 55) hx hb (dkS dF_167 DX12_feed (i := 61) rfl rfl rfl) (by decide) ?_
  refine lv_iload hx hb (dk1 dF_21 DX12_feed (i := 35) rfl rfl rfl) (lv_at hl 0 rfl) ?_
  refine lv_bipush (v := 20) hx hb (dks dF_16 DX12_feed (i := 36) rfl rfl rfl) (by decide) ?_
  refine lv_icmp_ge (tgt := 101) hx hb (dkS dF_162 DX12_feed (i := 37) rfl rfl rfl) (by decide) (fun h => absurd h (by decide)) (fun _ => ?_)
  refine lv_aload_n hx hb (dkP dF_42 DX12_feed (i := 38) rfl rfl) rfl (lv_at hl 1 rfl) ?_
  refine z_gr C0 hw 0 4 4 rfl fl_X12_32 (dk2 dF_180 DX12_feed (i := 39) rfl rfl rfl) ?_
  refine lv_aload_n hx hb (dkP dF_42 DX12_feed (i := 40) rfl rfl) rfl (lv_at hl 1 rfl) ?_
  refine z_gi C0 hw 0 5 rfl fl_X12_147 (dk2 dF_180 DX12_feed (i := 41) rfl rfl rfl) ?_
  refine z_top (y := 0) (by rfl) ?_
  refine lv_iload hx hb (dk1 dF_21 DX12_feed (i := 42) rfl rfl rfl) (lv_at hl 0 rfl) ?_
  refine lv_iadd hx hb (dkP dF_96 DX12_feed (i := 43) rfl rfl) ?_
  refine z_top (y := 13) (by decide) ?_
  refine lv_aload_n hx hb (dkP dF_42 DX12_feed (i := 44) rfl rfl) rfl (lv_at hl 1 rfl) ?_
  refine z_gr C0 hw 0 6 5 rfl fl_X12_36 (dk2 dF_180 DX12_feed (i := 45) rfl rfl rfl) ?_
  refine lv_iload hx hb (dk1 dF_21 DX12_feed (i := 46) rfl rfl rfl) (lv_at hl 0 rfl) ?_
  refine lv_iconst (v := 4) hx hb (dkP dF_7 DX12_feed (i := 47) rfl rfl) (by decide) ?_
  refine lv_idiv hx hb (dkP dF_108 DX12_feed (i := 48) rfl rfl) (by decide) ?_
  refine z_top (y := 3) (by decide) ?_
  refine z_ialdN (n := 5) C0 hw 5 3 rfl (by omega) (by decide) (dkP dF_46 DX12_feed (i := 49) rfl rfl) ?_
  refine z_top (y := f) (by simp [sI, u2]) ?_
  refine lv_bipush (v := 24) hx hb (dks dF_16 DX12_feed (i := 50) rfl rfl rfl) (by decide) ?_
  refine lv_bipush (v := 8) hx hb (dks dF_16 DX12_feed (i := 51) rfl rfl rfl) (by decide) ?_
  refine lv_iload hx hb (dk1 dF_21 DX12_feed (i := 52) rfl rfl rfl) (lv_at hl 0 rfl) ?_
  refine lv_iconst (v := 4) hx hb (dkP dF_7 DX12_feed (i := 53) rfl rfl) (by decide) ?_
  refine lv_irem hx hb (dkP dF_112 DX12_feed (i := 54) rfl rfl) (by decide) ?_
  refine z_top (y := 1) (by decide) ?_
  refine lv_imul hx hb (dkP dF_104 DX12_feed (i := 55) rfl rfl) ?_
  refine z_top (y := 8) (by decide) ?_
  refine lv_isub hx hb (dkP dF_100 DX12_feed (i := 56) rfl rfl) ?_
  refine z_top (y := 16) (by decide) ?_
  refine lv_ishr hx hb (dkP dF_122 DX12_feed (i := 57) rfl rfl) ?_
  refine lv_i2b hx hb (dkP dF_145 DX12_feed (i := 58) rfl rfl) rfl ?_
  refine z_bastN (n := 600) C0 hw 4 13 rfl (by omega) (by decide) (dkP dF_84 DX12_feed (i := 59) rfl rfl) (fun H locs hw => ?_)
  refine lv_iinc (v := 14) (lv' := [(6, .int 14), (0, .ref (ad 0)), (1, .int a), (2, .int b), (3, .int d), (4, .int f), (5, .int h)]) hx hb (dkI DX12_feed (i := 60) rfl rfl rfl rfl) hl (k := 0) rfl (by decide) (by decide) rfl (fun ls hl => ?_)
  refine lv_goto (tgt := 55) hx hb (dkS dF_167 DX12_feed (i := 61) rfl rfl rfl) (by decide) ?_
  refine lv_iload hx hb (dk1 dF_21 DX12_feed (i := 35) rfl rfl rfl) (lv_at hl 0 rfl) ?_
  refine lv_bipush (v := 20) hx hb (dks dF_16 DX12_feed (i := 36) rfl rfl rfl) (by decide) ?_
  refine lv_icmp_ge (tgt := 101) hx hb (dkS dF_162 DX12_feed (i := 37) rfl rfl rfl) (by decide) (fun h => absurd h (by decide)) (fun _ => ?_)
  refine lv_aload_n hx hb (dkP dF_42 DX12_feed (i := 38) rfl rfl) rfl (lv_at hl 1 rfl) ?_
  refine z_gr C0 hw 0 4 4 rfl fl_X12_32 (dk2 dF_180 DX12_feed (i := 39) rfl rfl rfl) ?_
  refine lv_aload_n hx hb (dkP dF_42 DX12_feed (i := 40) rfl rfl) rfl (lv_at hl 1 rfl) ?_
  refine z_gi C0 hw 0 5 rfl fl_X12_147 (dk2 dF_180 DX12_feed (i := 41) rfl rfl rfl) ?_
  refine z_top (y := 0) (by rfl) ?_
  refine lv_iload hx hb (dk1 dF_21 DX12_feed (i := 42) rfl rfl rfl) (lv_at hl 0 rfl) ?_
  refine lv_iadd hx hb (dkP dF_96 DX12_feed (i := 43) rfl rfl) ?_
  refine z_top (y := 14) (by decide) ?_
  refine lv_aload_n hx hb (dkP dF_42 DX12_feed (i := 44) rfl rfl) rfl (lv_at hl 1 rfl) ?_
  refine z_gr C0 hw 0 6 5 rfl fl_X12_36 (dk2 dF_180 DX12_feed (i := 45) rfl rfl rfl) ?_
  refine lv_iload hx hb (dk1 dF_21 DX12_feed (i := 46) rfl rfl rfl) (lv_at hl 0 rfl) ?_
  refine lv_iconst (v := 4) hx hb (dkP dF_7 DX12_feed (i := 47) rfl rfl) (by decide) ?_
  refine lv_idiv hx hb (dkP dF_108 DX12_feed (i := 48) rfl rfl) (by decide) ?_
  refine z_top (y := 3) (by decide) ?_
  refine z_ialdN (n := 5) C0 hw 5 3 rfl (by omega) (by decide) (dkP dF_46 DX12_feed (i := 49) rfl rfl) ?_
  refine z_top (y := f) (by simp [sI, u2]) ?_
  refine lv_bipush (v := 24) hx hb (dks dF_16 DX12_feed (i := 50) rfl rfl rfl) (by decide) ?_
  refine lv_bipush (v := 8) hx hb (dks dF_16 DX12_feed (i := 51) rfl rfl rfl) (by decide) ?_
  refine lv_iload hx hb (dk1 dF_21 DX12_feed (i := 52) rfl rfl rfl) (lv_at hl 0 rfl) ?_
  refine lv_iconst (v := 4) hx hb (dkP dF_7 DX12_feed (i := 53) rfl rfl) (by decide) ?_
  refine lv_irem hx hb (dkP dF_112 DX12_feed (i := 54) rfl rfl) (by decide) ?_
  refine z_top (y := 2) (by decide) ?_
  refine lv_imul hx hb (dkP dF_104 DX12_feed (i := 55) rfl rfl) ?_
  refine z_top (y := 16) (by decide) ?_
  refine lv_isub hx hb (dkP dF_100 DX12_feed (i := 56) rfl rfl) ?_
  refine z_top (y := 8) (by decide) ?_
  refine lv_ishr hx hb (dkP dF_122 DX12_feed (i := 57) rfl rfl) ?_
  refine lv_i2b hx hb (dkP dF_145 DX12_feed (i := 58) rfl rfl) rfl ?_
  refine z_bastN (n := 600) C0 hw 4 14 rfl (by omega) (by decide) (dkP dF_84 DX12_feed (i := 59) rfl rfl) (fun H locs hw => ?_)
  refine lv_iinc (v := 15) (lv' := [(6, .int 15), (0, .ref (ad 0)), (1, .int a), (2, .int b), (3, .int d), (4, .int f), (5, .int h)]) hx hb (dkI DX12_feed (i := 60) rfl rfl rfl rfl) hl (k := 0) rfl (by decide) (by decide) rfl (fun ls hl => ?_)
  refine lv_goto (tgt := 55) hx hb (dkS dF_167 DX12_feed (i := 61) rfl rfl rfl) (by decide) ?_
  refine lv_iload hx hb (dk1 dF_21 DX12_feed (i := 35) rfl rfl rfl) (lv_at hl 0 rfl) ?_
  refine lv_bipush (v := 20) hx hb (dks dF_16 DX12_feed (i := 36) rfl rfl rfl) (by decide) ?_
  refine lv_icmp_ge (tgt := 101) hx hb (dkS dF_162 DX12_feed (i := 37) rfl rfl rfl) (by decide) (fun h => absurd h (by decide)) (fun _ => ?_)
  refine lv_aload_n hx hb (dkP dF_42 DX12_feed (i := 38) rfl rfl) rfl (lv_at hl 1 rfl) ?_
  refine z_gr C0 hw 0 4 4 rfl fl_X12_32 (dk2 dF_180 DX12_feed (i := 39) rfl rfl rfl) ?_
  refine lv_aload_n hx hb (dkP dF_42 DX12_feed (i := 40) rfl rfl) rfl (lv_at hl 1 rfl) ?_
  refine z_gi C0 hw 0 5 rfl fl_X12_147 (dk2 dF_180 DX12_feed (i := 41) rfl rfl rfl) ?_
  refine z_top (y := 0) (by rfl) ?_
  refine lv_iload hx hb (dk1 dF_21 DX12_feed (i := 42) rfl rfl rfl) (lv_at hl 0 rfl) ?_
  refine lv_iadd hx hb (dkP dF_96 DX12_feed (i := 43) rfl rfl) ?_
  refine z_top (y := 15) (by decide) ?_
  refine lv_aload_n hx hb (dkP dF_42 DX12_feed (i := 44) rfl rfl) rfl (lv_at hl 1 rfl) ?_
  refine z_gr C0 hw 0 6 5 rfl fl_X12_36 (dk2 dF_180 DX12_feed (i := 45) rfl rfl rfl) ?_
  refine lv_iload hx hb (dk1 dF_21 DX12_feed (i := 46) rfl rfl rfl) (lv_at hl 0 rfl) ?_
  refine lv_iconst (v := 4) hx hb (dkP dF_7 DX12_feed (i := 47) rfl rfl) (by decide) ?_
  refine lv_idiv hx hb (dkP dF_108 DX12_feed (i := 48) rfl rfl) (by decide) ?_
  refine z_top (y := 3) (by decide) ?_
  refine z_ialdN (n := 5) C0 hw 5 3 rfl (by omega) (by decide) (dkP dF_46 DX12_feed (i := 49) rfl rfl) ?_
  refine z_top (y := f) (by simp [sI, u2]) ?_
  refine lv_bipush (v := 24) hx hb (dks dF_16 DX12_feed (i := 50) rfl rfl rfl) (by decide) ?_
  refine lv_bipush (v := 8) hx hb (dks dF_16 DX12_feed (i := 51) rfl rfl rfl) (by decide) ?_
  refine lv_iload hx hb (dk1 dF_21 DX12_feed (i := 52) rfl rfl rfl) (lv_at hl 0 rfl) ?_
  refine lv_iconst (v := 4) hx hb (dkP dF_7 DX12_feed (i := 53) rfl rfl) (by decide) ?_
  refine lv_irem hx hb (dkP dF_112 DX12_feed (i := 54) rfl rfl) (by decide) ?_
  refine z_top (y := 3) (by decide) ?_
  refine lv_imul hx hb (dkP dF_104 DX12_feed (i := 55) rfl rfl) ?_
  refine z_top (y := 24) (by decide) ?_
  refine lv_isub hx hb (dkP dF_100 DX12_feed (i := 56) rfl rfl) ?_
  refine z_top (y := 0) (by decide) ?_
  refine lv_ishr hx hb (dkP dF_122 DX12_feed (i := 57) rfl rfl) ?_
  refine lv_i2b hx hb (dkP dF_145 DX12_feed (i := 58) rfl rfl) rfl ?_
  refine z_bastN (n := 600) C0 hw 4 15 rfl (by omega) (by decide) (dkP dF_84 DX12_feed (i := 59) rfl rfl) (fun H locs hw => ?_)
  refine lv_iinc (v := 16) (lv' := [(6, .int 16), (0, .ref (ad 0)), (1, .int a), (2, .int b), (3, .int d), (4, .int f), (5, .int h)]) hx hb (dkI DX12_feed (i := 60) rfl rfl rfl rfl) hl (k := 0) rfl (by decide) (by decide) rfl (fun ls hl => ?_)
  refine lv_goto (tgt := 55) hx hb (dkS dF_167 DX12_feed (i := 61) rfl rfl rfl) (by decide) ?_
  refine lv_iload hx hb (dk1 dF_21 DX12_feed (i := 35) rfl rfl rfl) (lv_at hl 0 rfl) ?_
  refine lv_bipush (v := 20) hx hb (dks dF_16 DX12_feed (i := 36) rfl rfl rfl) (by decide) ?_
  refine lv_icmp_ge (tgt := 101) hx hb (dkS dF_162 DX12_feed (i := 37) rfl rfl rfl) (by decide) (fun h => absurd h (by decide)) (fun _ => ?_)
  refine lv_aload_n hx hb (dkP dF_42 DX12_feed (i := 38) rfl rfl) rfl (lv_at hl 1 rfl) ?_
  refine z_gr C0 hw 0 4 4 rfl fl_X12_32 (dk2 dF_180 DX12_feed (i := 39) rfl rfl rfl) ?_
  refine lv_aload_n hx hb (dkP dF_42 DX12_feed (i := 40) rfl rfl) rfl (lv_at hl 1 rfl) ?_
  refine z_gi C0 hw 0 5 rfl fl_X12_147 (dk2 dF_180 DX12_feed (i := 41) rfl rfl rfl) ?_
  refine z_top (y := 0) (by rfl) ?_
  refine lv_iload hx hb (dk1 dF_21 DX12_feed (i := 42) rfl rfl rfl) (lv_at hl 0 rfl) ?_
  refine lv_iadd hx hb (dkP dF_96 DX12_feed (i := 43) rfl rfl) ?_
  refine z_top (y := 16) (by decide) ?_
  refine lv_aload_n hx hb (dkP dF_42 DX12_feed (i := 44) rfl rfl) rfl (lv_at hl 1 rfl) ?_
  refine z_gr C0 hw 0 6 5 rfl fl_X12_36 (dk2 dF_180 DX12_feed (i := 45) rfl rfl rfl) ?_
  refine lv_iload hx hb (dk1 dF_21 DX12_feed (i := 46) rfl rfl rfl) (lv_at hl 0 rfl) ?_
  refine lv_iconst (v := 4) hx hb (dkP dF_7 DX12_feed (i := 47) rfl rfl) (by decide) ?_
  refine lv_idiv hx hb (dkP dF_108 DX12_feed (i := 48) rfl rfl) (by decide) ?_
  refine z_top (y := 4) (by decide) ?_
  refine z_ialdN (n := 5) C0 hw 5 4 rfl (by omega) (by decide) (dkP dF_46 DX12_feed (i := 49) rfl rfl) ?_
  refine z_top (y := h) (by simp [sI, u2]) ?_
  refine lv_bipush (v := 24) hx hb (dks dF_16 DX12_feed (i := 50) rfl rfl rfl) (by decide) ?_
  refine lv_bipush (v := 8) hx hb (dks dF_16 DX12_feed (i := 51) rfl rfl rfl) (by decide) ?_
  refine lv_iload hx hb (dk1 dF_21 DX12_feed (i := 52) rfl rfl rfl) (lv_at hl 0 rfl) ?_
  refine lv_iconst (v := 4) hx hb (dkP dF_7 DX12_feed (i := 53) rfl rfl) (by decide) ?_
  refine lv_irem hx hb (dkP dF_112 DX12_feed (i := 54) rfl rfl) (by decide) ?_
  refine z_top (y := 0) (by decide) ?_
  refine lv_imul hx hb (dkP dF_104 DX12_feed (i := 55) rfl rfl) ?_
  refine z_top (y := 0) (by decide) ?_
  refine lv_isub hx hb (dkP dF_100 DX12_feed (i := 56) rfl rfl) ?_
  refine z_top (y := 24) (by decide) ?_
  refine lv_ishr hx hb (dkP dF_122 DX12_feed (i := 57) rfl rfl) ?_
  refine lv_i2b hx hb (dkP dF_145 DX12_feed (i := 58) rfl rfl) rfl ?_
  refine z_bastN (n := 600) C0 hw 4 16 rfl (by omega) (by decide) (dkP dF_84 DX12_feed (i := 59) rfl rfl) (fun H locs hw => ?_)
  refine lv_iinc (v := 17) (lv' := [(6, .int 17), (0, .ref (ad 0)), (1, .int a), (2, .int b), (3, .int d), (4, .int f), (5, .int h)]) hx hb (dkI DX12_feed (i := 60) rfl rfl rfl rfl) hl (k := 0) rfl (by decide) (by decide) rfl (fun ls hl => ?_)
  refine lv_goto (tgt := 55) hx hb (dkS dF_167 DX12_feed (i := 61) rfl rfl rfl) (by decide) ?_
  refine lv_iload hx hb (dk1 dF_21 DX12_feed (i := 35) rfl rfl rfl) (lv_at hl 0 rfl) ?_
  refine lv_bipush (v := 20) hx hb (dks dF_16 DX12_feed (i := 36) rfl rfl rfl) (by decide) ?_
  refine lv_icmp_ge (tgt := 101) hx hb (dkS dF_162 DX12_feed (i := 37) rfl rfl rfl) (by decide) (fun h => absurd h (by decide)) (fun _ => ?_)
  refine lv_aload_n hx hb (dkP dF_42 DX12_feed (i := 38) rfl rfl) rfl (lv_at hl 1 rfl) ?_
  refine z_gr C0 hw 0 4 4 rfl fl_X12_32 (dk2 dF_180 DX12_feed (i := 39) rfl rfl rfl) ?_
  refine lv_aload_n hx hb (dkP dF_42 DX12_feed (i := 40) rfl rfl) rfl (lv_at hl 1 rfl) ?_
  refine z_gi C0 hw 0 5 rfl fl_X12_147 (dk2 dF_180 DX12_feed (i := 41) rfl rfl rfl) ?_
  refine z_top (y := 0) (by rfl) ?_
  refine lv_iload hx hb (dk1 dF_21 DX12_feed (i := 42) rfl rfl rfl) (lv_at hl 0 rfl) ?_
  refine lv_iadd hx hb (dkP dF_96 DX12_feed (i := 43) rfl rfl) ?_
  refine z_top (y := 17) (by decide) ?_
  refine lv_aload_n hx hb (dkP dF_42 DX12_feed (i := 44) rfl rfl) rfl (lv_at hl 1 rfl) ?_
  refine z_gr C0 hw 0 6 5 rfl fl_X12_36 (dk2 dF_180 DX12_feed (i := 45) rfl rfl rfl) ?_
  refine lv_iload hx hb (dk1 dF_21 DX12_feed (i := 46) rfl rfl rfl) (lv_at hl 0 rfl) ?_
  refine lv_iconst (v := 4) hx hb (dkP dF_7 DX12_feed (i := 47) rfl rfl) (by decide) ?_
  refine lv_idiv hx hb (dkP dF_108 DX12_feed (i := 48) rfl rfl) (by decide) ?_
  refine z_top (y := 4) (by decide) ?_
  refine z_ialdN (n := 5) C0 hw 5 4 rfl (by omega) (by decide) (dkP dF_46 DX12_feed (i := 49) rfl rfl) ?_
  refine z_top (y := h) (by simp [sI, u2]) ?_
  refine lv_bipush (v := 24) hx hb (dks dF_16 DX12_feed (i := 50) rfl rfl rfl) (by decide) ?_
  refine lv_bipush (v := 8) hx hb (dks dF_16 DX12_feed (i := 51) rfl rfl rfl) (by decide) ?_
  refine lv_iload hx hb (dk1 dF_21 DX12_feed (i := 52) rfl rfl rfl) (lv_at hl 0 rfl) ?_
  refine lv_iconst (v := 4) hx hb (dkP dF_7 DX12_feed (i := 53) rfl rfl) (by decide) ?_
  refine lv_irem hx hb (dkP dF_112 DX12_feed (i := 54) rfl rfl) (by decide) ?_
  refine z_top (y := 1) (by decide) ?_
  refine lv_imul hx hb (dkP dF_104 DX12_feed (i := 55) rfl rfl) ?_
  refine z_top (y := 8) (by decide) ?_
  refine lv_isub hx hb (dkP dF_100 DX12_feed (i := 56) rfl rfl) ?_
  refine z_top (y := 16) (by decide) ?_
  refine lv_ishr hx hb (dkP dF_122 DX12_feed (i := 57) rfl rfl) ?_
  refine lv_i2b hx hb (dkP dF_145 DX12_feed (i := 58) rfl rfl) rfl ?_
  refine z_bastN (n := 600) C0 hw 4 17 rfl (by omega) (by decide) (dkP dF_84 DX12_feed (i := 59) rfl rfl) (fun H locs hw => ?_)
  refine lv_iinc (v := 18) (lv' := [(6, .int 18), (0, .ref (ad 0)), (1, .int a), (2, .int b), (3, .int d), (4, .int f), (5, .int h)]) hx hb (dkI DX12_feed (i := 60) rfl rfl rfl rfl) hl (k := 0) rfl (by decide) (by decide) rfl (fun ls hl => ?_)
  refine lv_goto (tgt := 55) hx hb (dkS dF_167 DX12_feed (i := 61) rfl rfl rfl) (by decide) ?_
  refine lv_iload hx hb (dk1 dF_21 DX12_feed (i := 35) rfl rfl rfl) (lv_at hl 0 rfl) ?_
  refine lv_bipush (v := 20) hx hb (dks dF_16 DX12_feed (i := 36) rfl rfl rfl) (by decide) ?_
  refine lv_icmp_ge (tgt := 101) hx hb (dkS dF_162 DX12_feed (i := 37) rfl rfl rfl) (by decide) (fun h => absurd h (by decide)) (fun _ => ?_)
  refine lv_aload_n hx hb (dkP dF_42 DX12_feed (i := 38) rfl rfl) rfl (lv_at hl 1 rfl) ?_
  refine z_gr C0 hw 0 4 4 rfl fl_X12_32 (dk2 dF_180 DX12_feed (i := 39) rfl rfl rfl) ?_
  refine lv_aload_n hx hb (dkP dF_42 DX12_feed (i := 40) rfl rfl) rfl (lv_at hl 1 rfl) ?_
  refine z_gi C0 hw 0 5 rfl fl_X12_147 (dk2 dF_180 DX12_feed (i := 41) rfl rfl rfl) ?_
  refine z_top (y := 0) (by rfl) ?_
  refine lv_iload hx hb (dk1 dF_21 DX12_feed (i := 42) rfl rfl rfl) (lv_at hl 0 rfl) ?_
  refine lv_iadd hx hb (dkP dF_96 DX12_feed (i := 43) rfl rfl) ?_
  refine z_top (y := 18) (by decide) ?_
  refine lv_aload_n hx hb (dkP dF_42 DX12_feed (i := 44) rfl rfl) rfl (lv_at hl 1 rfl) ?_
  refine z_gr C0 hw 0 6 5 rfl fl_X12_36 (dk2 dF_180 DX12_feed (i := 45) rfl rfl rfl) ?_
  refine lv_iload hx hb (dk1 dF_21 DX12_feed (i := 46) rfl rfl rfl) (lv_at hl 0 rfl) ?_
  refine lv_iconst (v := 4) hx hb (dkP dF_7 DX12_feed (i := 47) rfl rfl) (by decide) ?_
  refine lv_idiv hx hb (dkP dF_108 DX12_feed (i := 48) rfl rfl) (by decide) ?_
  refine z_top (y := 4) (by decide) ?_
  refine z_ialdN (n := 5) C0 hw 5 4 rfl (by omega) (by decide) (dkP dF_46 DX12_feed (i := 49) rfl rfl) ?_
  refine z_top (y := h) (by simp [sI, u2]) ?_
  refine lv_bipush (v := 24) hx hb (dks dF_16 DX12_feed (i := 50) rfl rfl rfl) (by decide) ?_
  refine lv_bipush (v := 8) hx hb (dks dF_16 DX12_feed (i := 51) rfl rfl rfl) (by decide) ?_
  refine lv_iload hx hb (dk1 dF_21 DX12_feed (i := 52) rfl rfl rfl) (lv_at hl 0 rfl) ?_
  refine lv_iconst (v := 4) hx hb (dkP dF_7 DX12_feed (i := 53) rfl rfl) (by decide) ?_
  refine lv_irem hx hb (dkP dF_112 DX12_feed (i := 54) rfl rfl) (by decide) ?_
  refine z_top (y := 2) (by decide) ?_
  refine lv_imul hx hb (dkP dF_104 DX12_feed (i := 55) rfl rfl) ?_
  refine z_top (y := 16) (by decide) ?_
  refine lv_isub hx hb (dkP dF_100 DX12_feed (i := 56) rfl rfl) ?_
  refine z_top (y := 8) (by decide) ?_
  refine lv_ishr hx hb (dkP dF_122 DX12_feed (i := 57) rfl rfl) ?_
  refine lv_i2b hx hb (dkP dF_145 DX12_feed (i := 58) rfl rfl) rfl ?_
  refine z_bastN (n := 600) C0 hw 4 18 rfl (by omega) (by decide) (dkP dF_84 DX12_feed (i := 59) rfl rfl) (fun H locs hw => ?_)
  refine lv_iinc (v := 19) (lv' := [(6, .int 19), (0, .ref (ad 0)), (1, .int a), (2, .int b), (3, .int d), (4, .int f), (5, .int h)]) hx hb (dkI DX12_feed (i := 60) rfl rfl rfl rfl) hl (k := 0) rfl (by decide) (by decide) rfl (fun ls hl => ?_)
  refine lv_goto (tgt := 55) hx hb (dkS dF_167 DX12_feed (i := 61) rfl rfl rfl) (by decide) ?_
  refine lv_iload hx hb (dk1 dF_21 DX12_feed (i := 35) rfl rfl rfl) (lv_at hl 0 rfl) ?_
  refine lv_bipush (v := 20) hx hb (dks dF_16 DX12_feed (i := 36) rfl rfl rfl) (by decide) ?_
  refine lv_icmp_ge (tgt := 101) hx hb (dkS dF_162 DX12_feed (i := 37) rfl rfl rfl) (by decide) (fun h => absurd h (by decide)) (fun _ => ?_)
  refine lv_aload_n hx hb (dkP dF_42 DX12_feed (i := 38) rfl rfl) rfl (lv_at hl 1 rfl) ?_
  refine z_gr C0 hw 0 4 4 rfl fl_X12_32 (dk2 dF_180 DX12_feed (i := 39) rfl rfl rfl) ?_
  refine lv_aload_n hx hb (dkP dF_42 DX12_feed (i := 40) rfl rfl) rfl (lv_at hl 1 rfl) ?_
  refine z_gi C0 hw 0 5 rfl fl_X12_147 (dk2 dF_180 DX12_feed (i := 41) rfl rfl rfl) ?_
  refine z_top (y := 0) (by rfl) ?_
  refine lv_iload hx hb (dk1 dF_21 DX12_feed (i := 42) rfl rfl rfl) (lv_at hl 0 rfl) ?_
  refine lv_iadd hx hb (dkP dF_96 DX12_feed (i := 43) rfl rfl) ?_
  refine z_top (y := 19) (by decide) ?_
  refine lv_aload_n hx hb (dkP dF_42 DX12_feed (i := 44) rfl rfl) rfl (lv_at hl 1 rfl) ?_
  refine z_gr C0 hw 0 6 5 rfl fl_X12_36 (dk2 dF_180 DX12_feed (i := 45) rfl rfl rfl) ?_
  refine lv_iload hx hb (dk1 dF_21 DX12_feed (i := 46) rfl rfl rfl) (lv_at hl 0 rfl) ?_
  refine lv_iconst (v := 4) hx hb (dkP dF_7 DX12_feed (i := 47) rfl rfl) (by decide) ?_
  refine lv_idiv hx hb (dkP dF_108 DX12_feed (i := 48) rfl rfl) (by decide) ?_
  refine z_top (y := 4) (by decide) ?_
  refine z_ialdN (n := 5) C0 hw 5 4 rfl (by omega) (by decide) (dkP dF_46 DX12_feed (i := 49) rfl rfl) ?_
  refine z_top (y := h) (by simp [sI, u2]) ?_
  refine lv_bipush (v := 24) hx hb (dks dF_16 DX12_feed (i := 50) rfl rfl rfl) (by decide) ?_
  refine lv_bipush (v := 8) hx hb (dks dF_16 DX12_feed (i := 51) rfl rfl rfl) (by decide) ?_
  refine lv_iload hx hb (dk1 dF_21 DX12_feed (i := 52) rfl rfl rfl) (lv_at hl 0 rfl) ?_
  refine lv_iconst (v := 4) hx hb (dkP dF_7 DX12_feed (i := 53) rfl rfl) (by decide) ?_
  refine lv_irem hx hb (dkP dF_112 DX12_feed (i := 54) rfl rfl) (by decide) ?_
  refine z_top (y := 3) (by decide) ?_
  refine lv_imul hx hb (dkP dF_104 DX12_feed (i := 55) rfl rfl) ?_
  refine z_top (y := 24) (by decide) ?_
  refine lv_isub hx hb (dkP dF_100 DX12_feed (i := 56) rfl rfl) ?_
  refine z_top (y := 0) (by decide) ?_
  refine lv_ishr hx hb (dkP dF_122 DX12_feed (i := 57) rfl rfl) ?_
  refine lv_i2b hx hb (dkP dF_145 DX12_feed (i := 58) rfl rfl) rfl ?_
  refine z_bastN (n := 600) C0 hw 4 19 rfl (by omega) (by decide) (dkP dF_84 DX12_feed (i := 59) rfl rfl) (fun H locs hw => ?_)
  refine lv_iinc (v := 20) (lv' := [(6, .int 20), (0, .ref (ad 0)), (1, .int a), (2, .int b), (3, .int d), (4, .int f), (5, .int h)]) hx hb (dkI DX12_feed (i := 60) rfl rfl rfl rfl) hl (k := 0) rfl (by decide) (by decide) rfl (fun ls hl => ?_)
  refine lv_goto (tgt := 55) hx hb (dkS dF_167 DX12_feed (i := 61) rfl rfl rfl) (by decide) ?_
  refine lv_iload hx hb (dk1 dF_21 DX12_feed (i := 35) rfl rfl rfl) (lv_at hl 0 rfl) ?_
  refine lv_bipush (v := 20) hx hb (dks dF_16 DX12_feed (i := 36) rfl rfl rfl) (by decide) ?_
  refine lv_icmp_ge (tgt := 101) hx hb (dkS dF_162 DX12_feed (i := 37) rfl rfl rfl) (by decide) (fun _ => ?_) (fun h => absurd h (by decide))
  refine lv_aload_n hx hb (dkP dF_42 DX12_feed (i := 62) rfl rfl) rfl (lv_at hl 1 rfl) ?_
  refine lv_dup hx hb (dkP dF_89 DX12_feed (i := 63) rfl rfl) rfl ?_
  refine z_gi C0 hw 0 5 rfl fl_X12_147 (dk2 dF_180 DX12_feed (i := 64) rfl rfl rfl) ?_
  refine z_top (y := 0) (by rfl) ?_
  refine lv_bipush (v := 20) hx hb (dks dF_16 DX12_feed (i := 65) rfl rfl rfl) (by decide) ?_
  refine lv_iadd hx hb (dkP dF_96 DX12_feed (i := 66) rfl rfl) ?_
  refine z_top (y := 20) (by decide) ?_
  refine z_pi C0 hw 0 5 rfl fp_X12_147 (dk2 dF_181 DX12_feed (i := 67) rfl rfl rfl) (fun H locs hw => ?_)
  refine lv_aload_n hx hb (dkP dF_42 DX12_feed (i := 68) rfl rfl) rfl (lv_at hl 1 rfl) ?_
  refine z_gi C0 hw 0 5 rfl fl_X12_147 (dk2 dF_180 DX12_feed (i := 69) rfl rfl rfl) ?_
  refine z_top (y := 20) (by simp [sI, u2]) ?_
  exact z_iret C0 hr hlk hw (by first | rfl | ((try simp (disch := omega) only [tnI, tn32 1 (by decide), tnj 1 (by decide), tl32 0 (by decide), tl64 0 (by decide), tl32 1 (by decide), tl64 1 (by decide), tl32 2 (by decide), tl64 2 (by decide), tl32 3 (by decide), tl64 3 (by decide), tl32 4 (by decide), tl64 4 (by decide), tl32 5 (by decide), tl64 5 (by decide), tl32 6 (by decide), tl64 6 (by decide), tl32 7 (by decide), tl64 7 (by decide), tl32 8 (by decide), tl64 8 (by decide), tl32 9 (by decide), tl64 9 (by decide), tl32 10 (by decide), tl64 10 (by decide), tl32 11 (by decide), tl64 11 (by decide), tl32 12 (by decide), tl64 12 (by decide), tl32 13 (by decide), tl64 13 (by decide), tl32 14 (by decide), tl64 14 (by decide), tl32 15 (by decide), tl64 15 (by decide), tl32 16 (by decide), tl64 16 (by decide), tl32 17 (by decide), tl64 17 (by decide), tl32 18 (by decide), tl64 18 (by decide), tl32 19 (by decide), tl64 19 (by decide), tl32 20 (by decide), tl64 20 (by decide), tl32 24 (by decide), tl64 24 (by decide), tl32 600 (by decide), tl64 600 (by decide)]); (repeat' split) <;> first | rfl | omega | (apply Int32.toInt_inj.mp; simp (disch := omega) only [tnI, tn32 1 (by decide), tnj 1 (by decide), tl32 0 (by decide), tl64 0 (by decide), tl32 1 (by decide), tl64 1 (by decide), tl32 2 (by decide), tl64 2 (by decide), tl32 3 (by decide), tl64 3 (by decide), tl32 4 (by decide), tl64 4 (by decide), tl32 5 (by decide), tl64 5 (by decide), tl32 6 (by decide), tl64 6 (by decide), tl32 7 (by decide), tl64 7 (by decide), tl32 8 (by decide), tl64 8 (by decide), tl32 9 (by decide), tl64 9 (by decide), tl32 10 (by decide), tl64 10 (by decide), tl32 11 (by decide), tl64 11 (by decide), tl32 12 (by decide), tl64 12 (by decide), tl32 13 (by decide), tl64 13 (by decide), tl32 14 (by decide), tl64 14 (by decide), tl32 15 (by decide), tl64 15 (by decide), tl32 16 (by decide), tl64 16 (by decide), tl32 17 (by decide), tl64 17 (by decide), tl32 18 (by decide), tl64 18 (by decide), tl32 19 (by decide), tl64 19 (by decide), tl32 20 (by decide), tl64 20 (by decide), tl32 24 (by decide), tl64 24 (by decide), tl32 600 (by decide), tl64 600 (by decide)]; omega))) (dkP dF_172 DX12_feed (i := 70) rfl rfl)
set_option maxRecDepth 100000 in
set_option maxHeartbeats 4000000 in
theorem c_X12_run (l : Launch) (G : va_G) (kc : Nat → ClassId) (ad : Nat → Nat)  (p : Int32) (q : Int32)  : MI l G kc yX12_run cX12_run 4 (some .int) 2 45 [.ref (ad 0), .int p, .int q] shM ad sM0 (fun r σ1 => r = -2) := by
  intro sz
  refine z_body (y := yX12_run) (n := 4) (av := [.ref (ad 0), .int p, .int q]) (Qc := fun A => va_Qi (fun r σ1 => r = -2) (PoC G kc shM ad A) A) (plainFor_of_name (by decide)) (Nat.le_of_ble_eq_true rfl) (fun pr e s m below meth c A C0 hr hlk hnm hw ls hl => ?_) sz
  have hx := C0.1
  have hb := C0.2.1
  have hown := C0.2.2.2.1
  have hts := C0.2.2.2.2.1
  have hl : lv_has ls 4 [(0, .ref (ad 0)), (1, .int p), (2, .int q)] := hl
  refine lv_iload_n hx hb (dkP dF_27 DX12_run (i := 0) rfl rfl) rfl (lv_at hl 1 rfl) ?_
  refine zn_I hw (zr_S (As := [.int p]) (rest := []) C0 (c_X12_isProgram l G kc p  _) cs_X12_isProgram lk_X12_272 (zp_P C0 a00 s00) rfl hl.1 rfl ⟨by decide, by decide⟩ (Nat.le_of_ble_eq_true rfl) (dk2 dF_184 DX12_run (i := 1) rfl rfl rfl) ⟨Nat.le_refl _, Nat.le_refl _⟩) (fun r1 s1 H locs hp hw => ?_)
  rcases hp with ⟨rfl, hc1⟩ | ⟨rfl, hc1⟩
  · skip
    obtain ⟨k_p, hk_p, rfl⟩ := to_nat (x := p) (n := 8) (by (try simp only [lg_cmp_lt, lg_cmp_le, lg_cmp_gt, lg_cmp_ge, lg_cmp_eq] at hc1); (try simp (disch := omega) only [ta_lt, ta_le, ta_eq, tb_lt, tb_le, tb_eq, tw, tnI, tn32 1 (by decide), tnj 1 (by decide), tl32 0 (by decide), tl64 0 (by decide)] at hc1); (try simp (disch := omega) only [ta_lt, ta_le, ta_eq, tb_lt, tb_le, tb_eq, tw, tnI, tn32 1 (by decide), tnj 1 (by decide), tl32 0 (by decide), tl64 0 (by decide)]); omega)
    refine lv_if_eq (tgt := 24) hx hb (dkS dF_153 DX12_run (i := 2) rfl rfl rfl) (by decide) (fun h => absurd h (by decide)) (fun _ => ?_)
    refine lv_aload_n hx hb (dkP dF_42 DX12_run (i := 3) rfl rfl) rfl (lv_at hl 0 rfl) ?_
    refine lv_iload_n hx hb (dkP dF_27 DX12_run (i := 4) rfl rfl) rfl (lv_at hl 1 rfl) ?_
    refine zk_I hw (zr_V (As := [.int (nI k_p)]) (rest := []) C0 (c_X12_hasOld l G kc ad sM0 k_p (by first | omega | assumption | decide | rfl) _) cv_X12_hasOld lk_X12_366 (zp_V C0 hw 0 rfl rfl rfl) rfl hl.1 rfl ⟨by decide, by decide⟩ (Nat.le_of_ble_eq_true rfl) (dk2 dF_182 DX12_run (i := 5) rfl rfl rfl) ⟨Nat.le_refl _, Nat.le_refl _⟩) (fun r2 s2 H locs hp hw => ?_)
    obtain ⟨hq2, hs2⟩ := hp
    subst hs2
    rcases hq2 with ⟨rfl, hc2⟩ | ⟨rfl, hc2⟩
    · exact absurd (w0_p k_p 1 (by omega) (by decide)) hc2
    · skip
      refine lv_if_eq (tgt := 24) hx hb (dkS dF_153 DX12_run (i := 6) rfl rfl rfl) (by decide) (fun _ => ?_) (fun h => absurd h (by decide))
      refine lv_bipush (v := (-2)) hx hb (dks dF_16 DX12_run (i := 12) rfl rfl rfl) (by decide) ?_
      exact z_iret C0 hr hlk hw (by first | rfl | ((try simp only [lg_cmp_lt, lg_cmp_le, lg_cmp_gt, lg_cmp_ge, lg_cmp_eq] at hc1); (try simp (disch := omega) only [ta_lt, ta_le, ta_eq, tb_lt, tb_le, tb_eq, tw, tnI, tn32 2 (by decide), tnj 2 (by decide), tn32 1 (by decide), tnj 1 (by decide), tl32 0 (by decide), tl64 0 (by decide)] at hc1); (try simp only [lg_cmp_lt, lg_cmp_le, lg_cmp_gt, lg_cmp_ge, lg_cmp_eq] at hk_p); (try simp (disch := omega) only [ta_lt, ta_le, ta_eq, tb_lt, tb_le, tb_eq, tw, tnI, tn32 2 (by decide), tnj 2 (by decide), tn32 1 (by decide), tnj 1 (by decide), tl32 0 (by decide), tl64 0 (by decide)] at hk_p); (try simp only [lg_cmp_lt, lg_cmp_le, lg_cmp_gt, lg_cmp_ge, lg_cmp_eq] at hc2); (try simp (disch := omega) only [ta_lt, ta_le, ta_eq, tb_lt, tb_le, tb_eq, tw, tnI, tn32 2 (by decide), tnj 2 (by decide), tn32 1 (by decide), tnj 1 (by decide), tl32 0 (by decide), tl64 0 (by decide)] at hc2); (try simp (disch := omega) only [tnI, tn32 2 (by decide), tnj 2 (by decide), tn32 1 (by decide), tnj 1 (by decide), tl32 0 (by decide), tl64 0 (by decide)]); (repeat' split) <;> first | rfl | omega | (apply Int32.toInt_inj.mp; simp (disch := omega) only [tnI, tn32 2 (by decide), tnj 2 (by decide), tn32 1 (by decide), tnj 1 (by decide), tl32 0 (by decide), tl64 0 (by decide)]; omega))) (dkP dF_172 DX12_run (i := 13) rfl rfl)
  · skip
    refine lv_if_eq (tgt := 24) hx hb (dkS dF_153 DX12_run (i := 2) rfl rfl rfl) (by decide) (fun _ => ?_) (fun h => absurd h (by decide))
    refine lv_bipush (v := (-2)) hx hb (dks dF_16 DX12_run (i := 12) rfl rfl rfl) (by decide) ?_
    exact z_iret C0 hr hlk hw (by first | rfl | ((try simp only [lg_cmp_lt, lg_cmp_le, lg_cmp_gt, lg_cmp_ge, lg_cmp_eq] at hc1); (try simp (disch := omega) only [ta_lt, ta_le, ta_eq, tb_lt, tb_le, tb_eq, tw, tnI, tn32 2 (by decide), tnj 2 (by decide), tn32 1 (by decide), tnj 1 (by decide), tl32 0 (by decide), tl64 0 (by decide)] at hc1); (try simp (disch := omega) only [tnI, tn32 2 (by decide), tnj 2 (by decide), tn32 1 (by decide), tnj 1 (by decide), tl32 0 (by decide), tl64 0 (by decide)]); (repeat' split) <;> first | rfl | omega | (apply Int32.toInt_inj.mp; simp (disch := omega) only [tnI, tn32 2 (by decide), tnj 2 (by decide), tn32 1 (by decide), tnj 1 (by decide), tl32 0 (by decide), tl64 0 (by decide)]; omega))) (dkP dF_172 DX12_run (i := 13) rfl rfl)
set_option maxRecDepth 100000 in
set_option maxHeartbeats 4000000 in
theorem c_X12_runNew (l : Launch) (G : va_G) (kc : Nat → ClassId) (ad : Nat → Nat)  (p : Int32) (q : Int32)  : MI l G kc yX12_runNew cX12_runNew 4 (some .int) 2 45 [.ref (ad 0), .int p, .int q] shM ad sM0 (fun r σ1 => r = -2) := by
  intro sz
  refine z_body (y := yX12_runNew) (n := 4) (av := [.ref (ad 0), .int p, .int q]) (Qc := fun A => va_Qi (fun r σ1 => r = -2) (PoC G kc shM ad A) A) (plainFor_of_name (by decide)) (Nat.le_of_ble_eq_true rfl) (fun pr e s m below meth c A C0 hr hlk hnm hw ls hl => ?_) sz
  have hx := C0.1
  have hb := C0.2.1
  have hown := C0.2.2.2.1
  have hts := C0.2.2.2.2.1
  have hl : lv_has ls 4 [(0, .ref (ad 0)), (1, .int p), (2, .int q)] := hl
  refine lv_iload_n hx hb (dkP dF_27 DX12_runNew (i := 0) rfl rfl) rfl (lv_at hl 1 rfl) ?_
  refine zn_I hw (zr_S (As := [.int p]) (rest := []) C0 (c_X12_isProgram l G kc p  _) cs_X12_isProgram lk_X12_272 (zp_P C0 a00 s00) rfl hl.1 rfl ⟨by decide, by decide⟩ (Nat.le_of_ble_eq_true rfl) (dk2 dF_184 DX12_runNew (i := 1) rfl rfl rfl) ⟨Nat.le_refl _, Nat.le_refl _⟩) (fun r1 s1 H locs hp hw => ?_)
  rcases hp with ⟨rfl, hc1⟩ | ⟨rfl, hc1⟩
  · skip
    obtain ⟨k_p, hk_p, rfl⟩ := to_nat (x := p) (n := 8) (by (try simp only [lg_cmp_lt, lg_cmp_le, lg_cmp_gt, lg_cmp_ge, lg_cmp_eq] at hc1); (try simp (disch := omega) only [ta_lt, ta_le, ta_eq, tb_lt, tb_le, tb_eq, tw, tnI, tn32 1 (by decide), tnj 1 (by decide), tl32 0 (by decide), tl64 0 (by decide)] at hc1); (try simp (disch := omega) only [ta_lt, ta_le, ta_eq, tb_lt, tb_le, tb_eq, tw, tnI, tn32 1 (by decide), tnj 1 (by decide), tl32 0 (by decide), tl64 0 (by decide)]); omega)
    refine lv_if_eq (tgt := 24) hx hb (dkS dF_153 DX12_runNew (i := 2) rfl rfl rfl) (by decide) (fun h => absurd h (by decide)) (fun _ => ?_)
    refine lv_aload_n hx hb (dkP dF_42 DX12_runNew (i := 3) rfl rfl) rfl (lv_at hl 0 rfl) ?_
    refine lv_iload_n hx hb (dkP dF_27 DX12_runNew (i := 4) rfl rfl) rfl (lv_at hl 1 rfl) ?_
    refine zk_I hw (zr_V (As := [.int (nI k_p)]) (rest := []) C0 (c_X12_hasNew l G kc ad sM0 k_p (by first | omega | assumption | decide | rfl) _) cv_X12_hasNew lk_X12_378 (zp_V C0 hw 0 rfl rfl rfl) rfl hl.1 rfl ⟨by decide, by decide⟩ (Nat.le_of_ble_eq_true rfl) (dk2 dF_182 DX12_runNew (i := 5) rfl rfl rfl) ⟨Nat.le_refl _, Nat.le_refl _⟩) (fun r2 s2 H locs hp hw => ?_)
    obtain ⟨hq2, hs2⟩ := hp
    subst hs2
    rcases hq2 with ⟨rfl, hc2⟩ | ⟨rfl, hc2⟩
    · exact absurd (w0_p k_p 2 (by omega) (by decide)) hc2
    · skip
      refine lv_if_eq (tgt := 24) hx hb (dkS dF_153 DX12_runNew (i := 6) rfl rfl rfl) (by decide) (fun _ => ?_) (fun h => absurd h (by decide))
      refine lv_bipush (v := (-2)) hx hb (dks dF_16 DX12_runNew (i := 12) rfl rfl rfl) (by decide) ?_
      exact z_iret C0 hr hlk hw (by first | rfl | ((try simp only [lg_cmp_lt, lg_cmp_le, lg_cmp_gt, lg_cmp_ge, lg_cmp_eq] at hc1); (try simp (disch := omega) only [ta_lt, ta_le, ta_eq, tb_lt, tb_le, tb_eq, tw, tnI, tn32 2 (by decide), tnj 2 (by decide), tn32 1 (by decide), tnj 1 (by decide), tl32 0 (by decide), tl64 0 (by decide)] at hc1); (try simp only [lg_cmp_lt, lg_cmp_le, lg_cmp_gt, lg_cmp_ge, lg_cmp_eq] at hk_p); (try simp (disch := omega) only [ta_lt, ta_le, ta_eq, tb_lt, tb_le, tb_eq, tw, tnI, tn32 2 (by decide), tnj 2 (by decide), tn32 1 (by decide), tnj 1 (by decide), tl32 0 (by decide), tl64 0 (by decide)] at hk_p); (try simp only [lg_cmp_lt, lg_cmp_le, lg_cmp_gt, lg_cmp_ge, lg_cmp_eq] at hc2); (try simp (disch := omega) only [ta_lt, ta_le, ta_eq, tb_lt, tb_le, tb_eq, tw, tnI, tn32 2 (by decide), tnj 2 (by decide), tn32 1 (by decide), tnj 1 (by decide), tl32 0 (by decide), tl64 0 (by decide)] at hc2); (try simp (disch := omega) only [tnI, tn32 2 (by decide), tnj 2 (by decide), tn32 1 (by decide), tnj 1 (by decide), tl32 0 (by decide), tl64 0 (by decide)]); (repeat' split) <;> first | rfl | omega | (apply Int32.toInt_inj.mp; simp (disch := omega) only [tnI, tn32 2 (by decide), tnj 2 (by decide), tn32 1 (by decide), tnj 1 (by decide), tl32 0 (by decide), tl64 0 (by decide)]; omega))) (dkP dF_172 DX12_runNew (i := 13) rfl rfl)
  · skip
    refine lv_if_eq (tgt := 24) hx hb (dkS dF_153 DX12_runNew (i := 2) rfl rfl rfl) (by decide) (fun _ => ?_) (fun h => absurd h (by decide))
    refine lv_bipush (v := (-2)) hx hb (dks dF_16 DX12_runNew (i := 12) rfl rfl rfl) (by decide) ?_
    exact z_iret C0 hr hlk hw (by first | rfl | ((try simp only [lg_cmp_lt, lg_cmp_le, lg_cmp_gt, lg_cmp_ge, lg_cmp_eq] at hc1); (try simp (disch := omega) only [ta_lt, ta_le, ta_eq, tb_lt, tb_le, tb_eq, tw, tnI, tn32 2 (by decide), tnj 2 (by decide), tn32 1 (by decide), tnj 1 (by decide), tl32 0 (by decide), tl64 0 (by decide)] at hc1); (try simp (disch := omega) only [tnI, tn32 2 (by decide), tnj 2 (by decide), tn32 1 (by decide), tnj 1 (by decide), tl32 0 (by decide), tl64 0 (by decide)]); (repeat' split) <;> first | rfl | omega | (apply Int32.toInt_inj.mp; simp (disch := omega) only [tnI, tn32 2 (by decide), tnj 2 (by decide), tn32 1 (by decide), tnj 1 (by decide), tl32 0 (by decide), tl64 0 (by decide)]; omega))) (dkP dF_172 DX12_runNew (i := 13) rfl rfl)
set_option maxRecDepth 100000 in
set_option maxHeartbeats 4000000 in
theorem c_X12_ways (l : Launch) (G : va_G) (kc : Nat → ClassId) (ad : Nat → Nat)  (p : Int32)  : MI l G kc yX12_ways cX12_ways 4 (some .int) 2 45 [.ref (ad 0), .int p] shM ad sM0 (fun r σ1 => r = -2) := by
  intro sz
  refine z_body (y := yX12_ways) (n := 4) (av := [.ref (ad 0), .int p]) (Qc := fun A => va_Qi (fun r σ1 => r = -2) (PoC G kc shM ad A) A) (plainFor_of_name (by decide)) (Nat.le_of_ble_eq_true rfl) (fun pr e s m below meth c A C0 hr hlk hnm hw ls hl => ?_) sz
  have hx := C0.1
  have hb := C0.2.1
  have hown := C0.2.2.2.1
  have hts := C0.2.2.2.2.1
  have hl : lv_has ls 4 [(0, .ref (ad 0)), (1, .int p)] := hl
  refine lv_iload_n hx hb (dkP dF_27 DX12_ways (i := 0) rfl rfl) rfl (lv_at hl 1 rfl) ?_
  refine zn_I hw (zr_S (As := [.int p]) (rest := []) C0 (c_X12_isProgram l G kc p  _) cs_X12_isProgram lk_X12_272 (zp_P C0 a00 s00) rfl hl.1 rfl ⟨by decide, by decide⟩ (Nat.le_of_ble_eq_true rfl) (dk2 dF_184 DX12_ways (i := 1) rfl rfl rfl) ⟨Nat.le_refl _, Nat.le_refl _⟩) (fun r1 s1 H locs hp hw => ?_)
  rcases hp with ⟨rfl, hc1⟩ | ⟨rfl, hc1⟩
  · skip
    obtain ⟨k_p, hk_p, rfl⟩ := to_nat (x := p) (n := 8) (by (try simp only [lg_cmp_lt, lg_cmp_le, lg_cmp_gt, lg_cmp_ge, lg_cmp_eq] at hc1); (try simp (disch := omega) only [ta_lt, ta_le, ta_eq, tb_lt, tb_le, tb_eq, tw, tnI, tn32 1 (by decide), tnj 1 (by decide), tl32 0 (by decide), tl64 0 (by decide)] at hc1); (try simp (disch := omega) only [ta_lt, ta_le, ta_eq, tb_lt, tb_le, tb_eq, tw, tnI, tn32 1 (by decide), tnj 1 (by decide), tl32 0 (by decide), tl64 0 (by decide)]); omega)
    refine lv_if_eq (tgt := 15) hx hb (dkS dF_153 DX12_ways (i := 2) rfl rfl rfl) (by decide) (fun h => absurd h (by decide)) (fun _ => ?_)
    refine lv_aload_n hx hb (dkP dF_42 DX12_ways (i := 3) rfl rfl) rfl (lv_at hl 0 rfl) ?_
    refine lv_iload_n hx hb (dkP dF_27 DX12_ways (i := 4) rfl rfl) rfl (lv_at hl 1 rfl) ?_
    refine zk_I hw (zr_V (As := [.int (nI k_p)]) (rest := []) C0 (c_X12_hasOld l G kc ad sM0 k_p (by first | omega | assumption | decide | rfl) _) cv_X12_hasOld lk_X12_366 (zp_V C0 hw 0 rfl rfl rfl) rfl hl.1 rfl ⟨by decide, by decide⟩ (Nat.le_of_ble_eq_true rfl) (dk2 dF_182 DX12_ways (i := 5) rfl rfl rfl) ⟨Nat.le_refl _, Nat.le_refl _⟩) (fun r2 s2 H locs hp hw => ?_)
    obtain ⟨hq2, hs2⟩ := hp
    subst hs2
    rcases hq2 with ⟨rfl, hc2⟩ | ⟨rfl, hc2⟩
    · exact absurd (w0_p k_p 1 (by omega) (by decide)) hc2
    · skip
      refine lv_if_ne (tgt := 18) hx hb (dkS dF_154 DX12_ways (i := 6) rfl rfl rfl) (by decide) (fun h => absurd h (by decide)) (fun _ => ?_)
      refine lv_bipush (v := (-2)) hx hb (dks dF_16 DX12_ways (i := 7) rfl rfl rfl) (by decide) ?_
      exact z_iret C0 hr hlk hw (by first | rfl | ((try simp only [lg_cmp_lt, lg_cmp_le, lg_cmp_gt, lg_cmp_ge, lg_cmp_eq] at hc1); (try simp (disch := omega) only [ta_lt, ta_le, ta_eq, tb_lt, tb_le, tb_eq, tw, tnI, tn32 2 (by decide), tnj 2 (by decide), tn32 1 (by decide), tnj 1 (by decide), tl32 0 (by decide), tl64 0 (by decide)] at hc1); (try simp only [lg_cmp_lt, lg_cmp_le, lg_cmp_gt, lg_cmp_ge, lg_cmp_eq] at hk_p); (try simp (disch := omega) only [ta_lt, ta_le, ta_eq, tb_lt, tb_le, tb_eq, tw, tnI, tn32 2 (by decide), tnj 2 (by decide), tn32 1 (by decide), tnj 1 (by decide), tl32 0 (by decide), tl64 0 (by decide)] at hk_p); (try simp only [lg_cmp_lt, lg_cmp_le, lg_cmp_gt, lg_cmp_ge, lg_cmp_eq] at hc2); (try simp (disch := omega) only [ta_lt, ta_le, ta_eq, tb_lt, tb_le, tb_eq, tw, tnI, tn32 2 (by decide), tnj 2 (by decide), tn32 1 (by decide), tnj 1 (by decide), tl32 0 (by decide), tl64 0 (by decide)] at hc2); (try simp (disch := omega) only [tnI, tn32 2 (by decide), tnj 2 (by decide), tn32 1 (by decide), tnj 1 (by decide), tl32 0 (by decide), tl64 0 (by decide)]); (repeat' split) <;> first | rfl | omega | (apply Int32.toInt_inj.mp; simp (disch := omega) only [tnI, tn32 2 (by decide), tnj 2 (by decide), tn32 1 (by decide), tnj 1 (by decide), tl32 0 (by decide), tl64 0 (by decide)]; omega))) (dkP dF_172 DX12_ways (i := 8) rfl rfl)
  · skip
    refine lv_if_eq (tgt := 15) hx hb (dkS dF_153 DX12_ways (i := 2) rfl rfl rfl) (by decide) (fun _ => ?_) (fun h => absurd h (by decide))
    refine lv_bipush (v := (-2)) hx hb (dks dF_16 DX12_ways (i := 7) rfl rfl rfl) (by decide) ?_
    exact z_iret C0 hr hlk hw (by first | rfl | ((try simp only [lg_cmp_lt, lg_cmp_le, lg_cmp_gt, lg_cmp_ge, lg_cmp_eq] at hc1); (try simp (disch := omega) only [ta_lt, ta_le, ta_eq, tb_lt, tb_le, tb_eq, tw, tnI, tn32 2 (by decide), tnj 2 (by decide), tn32 1 (by decide), tnj 1 (by decide), tl32 0 (by decide), tl64 0 (by decide)] at hc1); (try simp (disch := omega) only [tnI, tn32 2 (by decide), tnj 2 (by decide), tn32 1 (by decide), tnj 1 (by decide), tl32 0 (by decide), tl64 0 (by decide)]); (repeat' split) <;> first | rfl | omega | (apply Int32.toInt_inj.mp; simp (disch := omega) only [tnI, tn32 2 (by decide), tnj 2 (by decide), tn32 1 (by decide), tnj 1 (by decide), tl32 0 (by decide), tl64 0 (by decide)]; omega))) (dkP dF_172 DX12_ways (i := 8) rfl rfl)
set_option maxRecDepth 100000 in
set_option maxHeartbeats 4000000 in
theorem c_X12_make (l : Launch) (G : va_G) (kc : Nat → ClassId) (ad : Nat → Nat)  (p : Int32)  : MI l G kc yX12_make cX12_make 5 (some .int) 2 45 [.ref (ad 0), .int p] shM ad sM0 (fun r σ1 => r = -2) := by
  intro sz
  refine z_body (y := yX12_make) (n := 5) (av := [.ref (ad 0), .int p]) (Qc := fun A => va_Qi (fun r σ1 => r = -2) (PoC G kc shM ad A) A) (plainFor_of_name (by decide)) (Nat.le_of_ble_eq_true rfl) (fun pr e s m below meth c A C0 hr hlk hnm hw ls hl => ?_) sz
  have hx := C0.1
  have hb := C0.2.1
  have hown := C0.2.2.2.1
  have hts := C0.2.2.2.2.1
  have hl : lv_has ls 5 [(0, .ref (ad 0)), (1, .int p)] := hl
  refine lv_iload_n hx hb (dkP dF_27 DX12_make (i := 0) rfl rfl) rfl (lv_at hl 1 rfl) ?_
  refine zn_I hw (zr_S (As := [.int p]) (rest := []) C0 (c_X12_isProgram l G kc p  _) cs_X12_isProgram lk_X12_272 (zp_P C0 a00 s00) rfl hl.1 rfl ⟨by decide, by decide⟩ (Nat.le_of_ble_eq_true rfl) (dk2 dF_184 DX12_make (i := 1) rfl rfl rfl) ⟨Nat.le_refl _, Nat.le_refl _⟩) (fun r1 s1 H locs hp hw => ?_)
  rcases hp with ⟨rfl, hc1⟩ | ⟨rfl, hc1⟩
  · skip
    obtain ⟨k_p, hk_p, rfl⟩ := to_nat (x := p) (n := 8) (by (try simp only [lg_cmp_lt, lg_cmp_le, lg_cmp_gt, lg_cmp_ge, lg_cmp_eq] at hc1); (try simp (disch := omega) only [ta_lt, ta_le, ta_eq, tb_lt, tb_le, tb_eq, tw, tnI, tn32 1 (by decide), tnj 1 (by decide), tl32 0 (by decide), tl64 0 (by decide)] at hc1); (try simp (disch := omega) only [ta_lt, ta_le, ta_eq, tb_lt, tb_le, tb_eq, tw, tnI, tn32 1 (by decide), tnj 1 (by decide), tl32 0 (by decide), tl64 0 (by decide)]); omega)
    refine lv_if_eq (tgt := 24) hx hb (dkS dF_153 DX12_make (i := 2) rfl rfl rfl) (by decide) (fun h => absurd h (by decide)) (fun _ => ?_)
    refine lv_aload_n hx hb (dkP dF_42 DX12_make (i := 3) rfl rfl) rfl (lv_at hl 0 rfl) ?_
    refine lv_iload_n hx hb (dkP dF_27 DX12_make (i := 4) rfl rfl) rfl (lv_at hl 1 rfl) ?_
    refine zk_I hw (zr_V (As := [.int (nI k_p)]) (rest := []) C0 (c_X12_hasOld l G kc ad sM0 k_p (by first | omega | assumption | decide | rfl) _) cv_X12_hasOld lk_X12_366 (zp_V C0 hw 0 rfl rfl rfl) rfl hl.1 rfl ⟨by decide, by decide⟩ (Nat.le_of_ble_eq_true rfl) (dk2 dF_182 DX12_make (i := 5) rfl rfl rfl) ⟨Nat.le_refl _, Nat.le_refl _⟩) (fun r2 s2 H locs hp hw => ?_)
    obtain ⟨hq2, hs2⟩ := hp
    subst hs2
    rcases hq2 with ⟨rfl, hc2⟩ | ⟨rfl, hc2⟩
    · exact absurd (w0_p k_p 1 (by omega) (by decide)) hc2
    · skip
      refine lv_if_eq (tgt := 24) hx hb (dkS dF_153 DX12_make (i := 6) rfl rfl rfl) (by decide) (fun _ => ?_) (fun h => absurd h (by decide))
      refine lv_bipush (v := (-2)) hx hb (dks dF_16 DX12_make (i := 12) rfl rfl rfl) (by decide) ?_
      exact z_iret C0 hr hlk hw (by first | rfl | ((try simp only [lg_cmp_lt, lg_cmp_le, lg_cmp_gt, lg_cmp_ge, lg_cmp_eq] at hc1); (try simp (disch := omega) only [ta_lt, ta_le, ta_eq, tb_lt, tb_le, tb_eq, tw, tnI, tn32 2 (by decide), tnj 2 (by decide), tn32 1 (by decide), tnj 1 (by decide), tl32 0 (by decide), tl64 0 (by decide)] at hc1); (try simp only [lg_cmp_lt, lg_cmp_le, lg_cmp_gt, lg_cmp_ge, lg_cmp_eq] at hk_p); (try simp (disch := omega) only [ta_lt, ta_le, ta_eq, tb_lt, tb_le, tb_eq, tw, tnI, tn32 2 (by decide), tnj 2 (by decide), tn32 1 (by decide), tnj 1 (by decide), tl32 0 (by decide), tl64 0 (by decide)] at hk_p); (try simp only [lg_cmp_lt, lg_cmp_le, lg_cmp_gt, lg_cmp_ge, lg_cmp_eq] at hc2); (try simp (disch := omega) only [ta_lt, ta_le, ta_eq, tb_lt, tb_le, tb_eq, tw, tnI, tn32 2 (by decide), tnj 2 (by decide), tn32 1 (by decide), tnj 1 (by decide), tl32 0 (by decide), tl64 0 (by decide)] at hc2); (try simp (disch := omega) only [tnI, tn32 2 (by decide), tnj 2 (by decide), tn32 1 (by decide), tnj 1 (by decide), tl32 0 (by decide), tl64 0 (by decide)]); (repeat' split) <;> first | rfl | omega | (apply Int32.toInt_inj.mp; simp (disch := omega) only [tnI, tn32 2 (by decide), tnj 2 (by decide), tn32 1 (by decide), tnj 1 (by decide), tl32 0 (by decide), tl64 0 (by decide)]; omega))) (dkP dF_172 DX12_make (i := 13) rfl rfl)
  · skip
    refine lv_if_eq (tgt := 24) hx hb (dkS dF_153 DX12_make (i := 2) rfl rfl rfl) (by decide) (fun _ => ?_) (fun h => absurd h (by decide))
    refine lv_bipush (v := (-2)) hx hb (dks dF_16 DX12_make (i := 12) rfl rfl rfl) (by decide) ?_
    exact z_iret C0 hr hlk hw (by first | rfl | ((try simp only [lg_cmp_lt, lg_cmp_le, lg_cmp_gt, lg_cmp_ge, lg_cmp_eq] at hc1); (try simp (disch := omega) only [ta_lt, ta_le, ta_eq, tb_lt, tb_le, tb_eq, tw, tnI, tn32 2 (by decide), tnj 2 (by decide), tn32 1 (by decide), tnj 1 (by decide), tl32 0 (by decide), tl64 0 (by decide)] at hc1); (try simp (disch := omega) only [tnI, tn32 2 (by decide), tnj 2 (by decide), tn32 1 (by decide), tnj 1 (by decide), tl32 0 (by decide), tl64 0 (by decide)]); (repeat' split) <;> first | rfl | omega | (apply Int32.toInt_inj.mp; simp (disch := omega) only [tnI, tn32 2 (by decide), tnj 2 (by decide), tn32 1 (by decide), tnj 1 (by decide), tl32 0 (by decide), tl64 0 (by decide)]; omega))) (dkP dF_172 DX12_make (i := 13) rfl rfl)
set_option maxRecDepth 100000 in
set_option maxHeartbeats 4000000 in
theorem c_X12_live (l : Launch) (G : va_G) (kc : Nat → ClassId) (ad : Nat → Nat)  (p : Int32)  : MI l G kc yX12_live cX12_live 3 (some .int) 2 45 [.ref (ad 0), .int p] shM ad sM0 (fun r σ1 => r = -2) := by
  intro sz
  refine z_body (y := yX12_live) (n := 3) (av := [.ref (ad 0), .int p]) (Qc := fun A => va_Qi (fun r σ1 => r = -2) (PoC G kc shM ad A) A) (plainFor_of_name (by decide)) (Nat.le_of_ble_eq_true rfl) (fun pr e s m below meth c A C0 hr hlk hnm hw ls hl => ?_) sz
  have hx := C0.1
  have hb := C0.2.1
  have hown := C0.2.2.2.1
  have hts := C0.2.2.2.2.1
  have hl : lv_has ls 3 [(0, .ref (ad 0)), (1, .int p)] := hl
  refine lv_iload_n hx hb (dkP dF_27 DX12_live (i := 0) rfl rfl) rfl (lv_at hl 1 rfl) ?_
  refine zn_I hw (zr_S (As := [.int p]) (rest := []) C0 (c_X12_isProgram l G kc p  _) cs_X12_isProgram lk_X12_272 (zp_P C0 a00 s00) rfl hl.1 rfl ⟨by decide, by decide⟩ (Nat.le_of_ble_eq_true rfl) (dk2 dF_184 DX12_live (i := 1) rfl rfl rfl) ⟨Nat.le_refl _, Nat.le_refl _⟩) (fun r1 s1 H locs hp hw => ?_)
  rcases hp with ⟨rfl, hc1⟩ | ⟨rfl, hc1⟩
  · skip
    obtain ⟨k_p, hk_p, rfl⟩ := to_nat (x := p) (n := 8) (by (try simp only [lg_cmp_lt, lg_cmp_le, lg_cmp_gt, lg_cmp_ge, lg_cmp_eq] at hc1); (try simp (disch := omega) only [ta_lt, ta_le, ta_eq, tb_lt, tb_le, tb_eq, tw, tnI, tn32 1 (by decide), tnj 1 (by decide), tl32 0 (by decide), tl64 0 (by decide)] at hc1); (try simp (disch := omega) only [ta_lt, ta_le, ta_eq, tb_lt, tb_le, tb_eq, tw, tnI, tn32 1 (by decide), tnj 1 (by decide), tl32 0 (by decide), tl64 0 (by decide)]); omega)
    refine lv_if_eq (tgt := 25) hx hb (dkS dF_153 DX12_live (i := 2) rfl rfl rfl) (by decide) (fun h => absurd h (by decide)) (fun _ => ?_)
    refine lv_aload_n hx hb (dkP dF_42 DX12_live (i := 3) rfl rfl) rfl (lv_at hl 0 rfl) ?_
    refine lv_iload_n hx hb (dkP dF_27 DX12_live (i := 4) rfl rfl) rfl (lv_at hl 1 rfl) ?_
    refine zk_I hw (zr_V (As := [.int (nI k_p)]) (rest := []) C0 (c_X12_stateOf l G kc ad sM0 k_p (by first | omega | assumption | decide | rfl) _) cv_X12_stateOf lk_X12_275 (zp_V C0 hw 0 rfl rfl rfl) rfl hl.1 rfl ⟨by decide, by decide⟩ (Nat.le_of_ble_eq_true rfl) (dk2 dF_182 DX12_live (i := 5) rfl rfl rfl) ⟨Nat.le_refl _, Nat.le_refl _⟩) (fun r2 s2 H locs hp hw => ?_)
    obtain ⟨rfl, hs2⟩ := hp
    subst hs2
    refine z_top (y := 0) (w0_p k_p 0 (by omega) (by decide)) ?_
    refine lv_iconst (v := 1) hx hb (dkP dF_4 DX12_live (i := 6) rfl rfl) (by decide) ?_
    refine lv_icmp_eq (tgt := 28) hx hb (dkS dF_159 DX12_live (i := 7) rfl rfl rfl) (by decide) (fun h => absurd h (by decide)) (fun _ => ?_)
    refine lv_aload_n hx hb (dkP dF_42 DX12_live (i := 8) rfl rfl) rfl (lv_at hl 0 rfl) ?_
    refine lv_iload_n hx hb (dkP dF_27 DX12_live (i := 9) rfl rfl) rfl (lv_at hl 1 rfl) ?_
    refine zk_I hw (zr_V (As := [.int (nI k_p)]) (rest := []) C0 (c_X12_stateOf l G kc ad sM0 k_p (by first | omega | assumption | decide | rfl) _) cv_X12_stateOf lk_X12_275 (zp_V C0 hw 0 rfl rfl rfl) rfl hl.1 rfl ⟨by decide, by decide⟩ (Nat.le_of_ble_eq_true rfl) (dk2 dF_182 DX12_live (i := 10) rfl rfl rfl) ⟨Nat.le_refl _, Nat.le_refl _⟩) (fun r3 s3 H locs hp hw => ?_)
    obtain ⟨rfl, hs3⟩ := hp
    subst hs3
    refine z_top (y := 0) (w0_p k_p 0 (by omega) (by decide)) ?_
    refine lv_iconst (v := 3) hx hb (dkP dF_6 DX12_live (i := 11) rfl rfl) (by decide) ?_
    refine lv_icmp_eq (tgt := 28) hx hb (dkS dF_159 DX12_live (i := 12) rfl rfl rfl) (by decide) (fun h => absurd h (by decide)) (fun _ => ?_)
    refine lv_bipush (v := (-2)) hx hb (dks dF_16 DX12_live (i := 13) rfl rfl rfl) (by decide) ?_
    exact z_iret C0 hr hlk hw (by first | rfl | ((try simp only [lg_cmp_lt, lg_cmp_le, lg_cmp_gt, lg_cmp_ge, lg_cmp_eq] at hc1); (try simp (disch := omega) only [ta_lt, ta_le, ta_eq, tb_lt, tb_le, tb_eq, tw, tnI, tn32 2 (by decide), tnj 2 (by decide), tn32 1 (by decide), tnj 1 (by decide), tl32 0 (by decide), tl64 0 (by decide), tl32 1 (by decide), tl64 1 (by decide), tl32 3 (by decide), tl64 3 (by decide)] at hc1); (try simp only [lg_cmp_lt, lg_cmp_le, lg_cmp_gt, lg_cmp_ge, lg_cmp_eq] at hk_p); (try simp (disch := omega) only [ta_lt, ta_le, ta_eq, tb_lt, tb_le, tb_eq, tw, tnI, tn32 2 (by decide), tnj 2 (by decide), tn32 1 (by decide), tnj 1 (by decide), tl32 0 (by decide), tl64 0 (by decide), tl32 1 (by decide), tl64 1 (by decide), tl32 3 (by decide), tl64 3 (by decide)] at hk_p); (try simp (disch := omega) only [tnI, tn32 2 (by decide), tnj 2 (by decide), tn32 1 (by decide), tnj 1 (by decide), tl32 0 (by decide), tl64 0 (by decide), tl32 1 (by decide), tl64 1 (by decide), tl32 3 (by decide), tl64 3 (by decide)]); (repeat' split) <;> first | rfl | omega | (apply Int32.toInt_inj.mp; simp (disch := omega) only [tnI, tn32 2 (by decide), tnj 2 (by decide), tn32 1 (by decide), tnj 1 (by decide), tl32 0 (by decide), tl64 0 (by decide), tl32 1 (by decide), tl64 1 (by decide), tl32 3 (by decide), tl64 3 (by decide)]; omega))) (dkP dF_172 DX12_live (i := 14) rfl rfl)
  · skip
    refine lv_if_eq (tgt := 25) hx hb (dkS dF_153 DX12_live (i := 2) rfl rfl rfl) (by decide) (fun _ => ?_) (fun h => absurd h (by decide))
    refine lv_bipush (v := (-2)) hx hb (dks dF_16 DX12_live (i := 13) rfl rfl rfl) (by decide) ?_
    exact z_iret C0 hr hlk hw (by first | rfl | ((try simp only [lg_cmp_lt, lg_cmp_le, lg_cmp_gt, lg_cmp_ge, lg_cmp_eq] at hc1); (try simp (disch := omega) only [ta_lt, ta_le, ta_eq, tb_lt, tb_le, tb_eq, tw, tnI, tn32 2 (by decide), tnj 2 (by decide), tn32 1 (by decide), tnj 1 (by decide), tl32 0 (by decide), tl64 0 (by decide), tl32 1 (by decide), tl64 1 (by decide), tl32 3 (by decide), tl64 3 (by decide)] at hc1); (try simp (disch := omega) only [tnI, tn32 2 (by decide), tnj 2 (by decide), tn32 1 (by decide), tnj 1 (by decide), tl32 0 (by decide), tl64 0 (by decide), tl32 1 (by decide), tl64 1 (by decide), tl32 3 (by decide), tl64 3 (by decide)]); (repeat' split) <;> first | rfl | omega | (apply Int32.toInt_inj.mp; simp (disch := omega) only [tnI, tn32 2 (by decide), tnj 2 (by decide), tn32 1 (by decide), tnj 1 (by decide), tl32 0 (by decide), tl64 0 (by decide), tl32 1 (by decide), tl64 1 (by decide), tl32 3 (by decide), tl64 3 (by decide)]; omega))) (dkP dF_172 DX12_live (i := 14) rfl rfl)
set_option maxRecDepth 100000 in
set_option maxHeartbeats 4000000 in
theorem c_X12_back (l : Launch) (G : va_G) (kc : Nat → ClassId) (ad : Nat → Nat)  (p : Int32)  : MI l G kc yX12_back cX12_back 5 (some .int) 2 45 [.ref (ad 0), .int p] shM ad sM0 (fun r σ1 => r = -2) := by
  intro sz
  refine z_body (y := yX12_back) (n := 5) (av := [.ref (ad 0), .int p]) (Qc := fun A => va_Qi (fun r σ1 => r = -2) (PoC G kc shM ad A) A) (plainFor_of_name (by decide)) (Nat.le_of_ble_eq_true rfl) (fun pr e s m below meth c A C0 hr hlk hnm hw ls hl => ?_) sz
  have hx := C0.1
  have hb := C0.2.1
  have hown := C0.2.2.2.1
  have hts := C0.2.2.2.2.1
  have hl : lv_has ls 5 [(0, .ref (ad 0)), (1, .int p)] := hl
  refine lv_iload_n hx hb (dkP dF_27 DX12_back (i := 0) rfl rfl) rfl (lv_at hl 1 rfl) ?_
  refine zn_I hw (zr_S (As := [.int p]) (rest := []) C0 (c_X12_isProgram l G kc p  _) cs_X12_isProgram lk_X12_272 (zp_P C0 a00 s00) rfl hl.1 rfl ⟨by decide, by decide⟩ (Nat.le_of_ble_eq_true rfl) (dk2 dF_184 DX12_back (i := 1) rfl rfl rfl) ⟨Nat.le_refl _, Nat.le_refl _⟩) (fun r1 s1 H locs hp hw => ?_)
  rcases hp with ⟨rfl, hc1⟩ | ⟨rfl, hc1⟩
  · skip
    obtain ⟨k_p, hk_p, rfl⟩ := to_nat (x := p) (n := 8) (by (try simp only [lg_cmp_lt, lg_cmp_le, lg_cmp_gt, lg_cmp_ge, lg_cmp_eq] at hc1); (try simp (disch := omega) only [ta_lt, ta_le, ta_eq, tb_lt, tb_le, tb_eq, tw, tnI, tn32 1 (by decide), tnj 1 (by decide), tl32 0 (by decide), tl64 0 (by decide)] at hc1); (try simp (disch := omega) only [ta_lt, ta_le, ta_eq, tb_lt, tb_le, tb_eq, tw, tnI, tn32 1 (by decide), tnj 1 (by decide), tl32 0 (by decide), tl64 0 (by decide)]); omega)
    refine lv_if_eq (tgt := 16) hx hb (dkS dF_153 DX12_back (i := 2) rfl rfl rfl) (by decide) (fun h => absurd h (by decide)) (fun _ => ?_)
    refine lv_aload_n hx hb (dkP dF_42 DX12_back (i := 3) rfl rfl) rfl (lv_at hl 0 rfl) ?_
    refine lv_iload_n hx hb (dkP dF_27 DX12_back (i := 4) rfl rfl) rfl (lv_at hl 1 rfl) ?_
    refine zk_I hw (zr_V (As := [.int (nI k_p)]) (rest := []) C0 (c_X12_stateOf l G kc ad sM0 k_p (by first | omega | assumption | decide | rfl) _) cv_X12_stateOf lk_X12_275 (zp_V C0 hw 0 rfl rfl rfl) rfl hl.1 rfl ⟨by decide, by decide⟩ (Nat.le_of_ble_eq_true rfl) (dk2 dF_182 DX12_back (i := 5) rfl rfl rfl) ⟨Nat.le_refl _, Nat.le_refl _⟩) (fun r2 s2 H locs hp hw => ?_)
    obtain ⟨rfl, hs2⟩ := hp
    subst hs2
    refine z_top (y := 0) (w0_p k_p 0 (by omega) (by decide)) ?_
    refine lv_iconst (v := 2) hx hb (dkP dF_5 DX12_back (i := 6) rfl rfl) (by decide) ?_
    refine lv_icmp_eq (tgt := 19) hx hb (dkS dF_159 DX12_back (i := 7) rfl rfl rfl) (by decide) (fun h => absurd h (by decide)) (fun _ => ?_)
    refine lv_bipush (v := (-2)) hx hb (dks dF_16 DX12_back (i := 8) rfl rfl rfl) (by decide) ?_
    exact z_iret C0 hr hlk hw (by first | rfl | ((try simp only [lg_cmp_lt, lg_cmp_le, lg_cmp_gt, lg_cmp_ge, lg_cmp_eq] at hc1); (try simp (disch := omega) only [ta_lt, ta_le, ta_eq, tb_lt, tb_le, tb_eq, tw, tnI, tn32 2 (by decide), tnj 2 (by decide), tn32 1 (by decide), tnj 1 (by decide), tl32 0 (by decide), tl64 0 (by decide), tl32 2 (by decide), tl64 2 (by decide)] at hc1); (try simp only [lg_cmp_lt, lg_cmp_le, lg_cmp_gt, lg_cmp_ge, lg_cmp_eq] at hk_p); (try simp (disch := omega) only [ta_lt, ta_le, ta_eq, tb_lt, tb_le, tb_eq, tw, tnI, tn32 2 (by decide), tnj 2 (by decide), tn32 1 (by decide), tnj 1 (by decide), tl32 0 (by decide), tl64 0 (by decide), tl32 2 (by decide), tl64 2 (by decide)] at hk_p); (try simp (disch := omega) only [tnI, tn32 2 (by decide), tnj 2 (by decide), tn32 1 (by decide), tnj 1 (by decide), tl32 0 (by decide), tl64 0 (by decide), tl32 2 (by decide), tl64 2 (by decide)]); (repeat' split) <;> first | rfl | omega | (apply Int32.toInt_inj.mp; simp (disch := omega) only [tnI, tn32 2 (by decide), tnj 2 (by decide), tn32 1 (by decide), tnj 1 (by decide), tl32 0 (by decide), tl64 0 (by decide), tl32 2 (by decide), tl64 2 (by decide)]; omega))) (dkP dF_172 DX12_back (i := 9) rfl rfl)
  · skip
    refine lv_if_eq (tgt := 16) hx hb (dkS dF_153 DX12_back (i := 2) rfl rfl rfl) (by decide) (fun _ => ?_) (fun h => absurd h (by decide))
    refine lv_bipush (v := (-2)) hx hb (dks dF_16 DX12_back (i := 8) rfl rfl rfl) (by decide) ?_
    exact z_iret C0 hr hlk hw (by first | rfl | ((try simp only [lg_cmp_lt, lg_cmp_le, lg_cmp_gt, lg_cmp_ge, lg_cmp_eq] at hc1); (try simp (disch := omega) only [ta_lt, ta_le, ta_eq, tb_lt, tb_le, tb_eq, tw, tnI, tn32 2 (by decide), tnj 2 (by decide), tn32 1 (by decide), tnj 1 (by decide), tl32 0 (by decide), tl64 0 (by decide), tl32 2 (by decide), tl64 2 (by decide)] at hc1); (try simp (disch := omega) only [tnI, tn32 2 (by decide), tnj 2 (by decide), tn32 1 (by decide), tnj 1 (by decide), tl32 0 (by decide), tl64 0 (by decide), tl32 2 (by decide), tl64 2 (by decide)]); (repeat' split) <;> first | rfl | omega | (apply Int32.toInt_inj.mp; simp (disch := omega) only [tnI, tn32 2 (by decide), tnj 2 (by decide), tn32 1 (by decide), tnj 1 (by decide), tl32 0 (by decide), tl64 0 (by decide), tl32 2 (by decide), tl64 2 (by decide)]; omega))) (dkP dF_172 DX12_back (i := 9) rfl rfl)
set_option maxRecDepth 100000 in
set_option maxHeartbeats 4000000 in
theorem c_X12_retire (l : Launch) (G : va_G) (kc : Nat → ClassId) (ad : Nat → Nat)  (p : Int32)  : MI l G kc yX12_retire cX12_retire 3 (some .int) 2 45 [.ref (ad 0), .int p] shM ad sM0 (fun r σ1 => r = -2) := by
  intro sz
  refine z_body (y := yX12_retire) (n := 3) (av := [.ref (ad 0), .int p]) (Qc := fun A => va_Qi (fun r σ1 => r = -2) (PoC G kc shM ad A) A) (plainFor_of_name (by decide)) (Nat.le_of_ble_eq_true rfl) (fun pr e s m below meth c A C0 hr hlk hnm hw ls hl => ?_) sz
  have hx := C0.1
  have hb := C0.2.1
  have hown := C0.2.2.2.1
  have hts := C0.2.2.2.2.1
  have hl : lv_has ls 3 [(0, .ref (ad 0)), (1, .int p)] := hl
  refine lv_iload_n hx hb (dkP dF_27 DX12_retire (i := 0) rfl rfl) rfl (lv_at hl 1 rfl) ?_
  refine zn_I hw (zr_S (As := [.int p]) (rest := []) C0 (c_X12_isProgram l G kc p  _) cs_X12_isProgram lk_X12_272 (zp_P C0 a00 s00) rfl hl.1 rfl ⟨by decide, by decide⟩ (Nat.le_of_ble_eq_true rfl) (dk2 dF_184 DX12_retire (i := 1) rfl rfl rfl) ⟨Nat.le_refl _, Nat.le_refl _⟩) (fun r1 s1 H locs hp hw => ?_)
  rcases hp with ⟨rfl, hc1⟩ | ⟨rfl, hc1⟩
  · skip
    obtain ⟨k_p, hk_p, rfl⟩ := to_nat (x := p) (n := 8) (by (try simp only [lg_cmp_lt, lg_cmp_le, lg_cmp_gt, lg_cmp_ge, lg_cmp_eq] at hc1); (try simp (disch := omega) only [ta_lt, ta_le, ta_eq, tb_lt, tb_le, tb_eq, tw, tnI, tn32 1 (by decide), tnj 1 (by decide), tl32 0 (by decide), tl64 0 (by decide)] at hc1); (try simp (disch := omega) only [ta_lt, ta_le, ta_eq, tb_lt, tb_le, tb_eq, tw, tnI, tn32 1 (by decide), tnj 1 (by decide), tl32 0 (by decide), tl64 0 (by decide)]); omega)
    refine lv_if_eq (tgt := 16) hx hb (dkS dF_153 DX12_retire (i := 2) rfl rfl rfl) (by decide) (fun h => absurd h (by decide)) (fun _ => ?_)
    refine lv_aload_n hx hb (dkP dF_42 DX12_retire (i := 3) rfl rfl) rfl (lv_at hl 0 rfl) ?_
    refine lv_iload_n hx hb (dkP dF_27 DX12_retire (i := 4) rfl rfl) rfl (lv_at hl 1 rfl) ?_
    refine zk_I hw (zr_V (As := [.int (nI k_p)]) (rest := []) C0 (c_X12_stateOf l G kc ad sM0 k_p (by first | omega | assumption | decide | rfl) _) cv_X12_stateOf lk_X12_275 (zp_V C0 hw 0 rfl rfl rfl) rfl hl.1 rfl ⟨by decide, by decide⟩ (Nat.le_of_ble_eq_true rfl) (dk2 dF_182 DX12_retire (i := 5) rfl rfl rfl) ⟨Nat.le_refl _, Nat.le_refl _⟩) (fun r2 s2 H locs hp hw => ?_)
    obtain ⟨rfl, hs2⟩ := hp
    subst hs2
    refine z_top (y := 0) (w0_p k_p 0 (by omega) (by decide)) ?_
    refine lv_iconst (v := 2) hx hb (dkP dF_5 DX12_retire (i := 6) rfl rfl) (by decide) ?_
    refine lv_icmp_eq (tgt := 19) hx hb (dkS dF_159 DX12_retire (i := 7) rfl rfl rfl) (by decide) (fun h => absurd h (by decide)) (fun _ => ?_)
    refine lv_bipush (v := (-2)) hx hb (dks dF_16 DX12_retire (i := 8) rfl rfl rfl) (by decide) ?_
    exact z_iret C0 hr hlk hw (by first | rfl | ((try simp only [lg_cmp_lt, lg_cmp_le, lg_cmp_gt, lg_cmp_ge, lg_cmp_eq] at hc1); (try simp (disch := omega) only [ta_lt, ta_le, ta_eq, tb_lt, tb_le, tb_eq, tw, tnI, tn32 2 (by decide), tnj 2 (by decide), tn32 1 (by decide), tnj 1 (by decide), tl32 0 (by decide), tl64 0 (by decide), tl32 2 (by decide), tl64 2 (by decide)] at hc1); (try simp only [lg_cmp_lt, lg_cmp_le, lg_cmp_gt, lg_cmp_ge, lg_cmp_eq] at hk_p); (try simp (disch := omega) only [ta_lt, ta_le, ta_eq, tb_lt, tb_le, tb_eq, tw, tnI, tn32 2 (by decide), tnj 2 (by decide), tn32 1 (by decide), tnj 1 (by decide), tl32 0 (by decide), tl64 0 (by decide), tl32 2 (by decide), tl64 2 (by decide)] at hk_p); (try simp (disch := omega) only [tnI, tn32 2 (by decide), tnj 2 (by decide), tn32 1 (by decide), tnj 1 (by decide), tl32 0 (by decide), tl64 0 (by decide), tl32 2 (by decide), tl64 2 (by decide)]); (repeat' split) <;> first | rfl | omega | (apply Int32.toInt_inj.mp; simp (disch := omega) only [tnI, tn32 2 (by decide), tnj 2 (by decide), tn32 1 (by decide), tnj 1 (by decide), tl32 0 (by decide), tl64 0 (by decide), tl32 2 (by decide), tl64 2 (by decide)]; omega))) (dkP dF_172 DX12_retire (i := 9) rfl rfl)
  · skip
    refine lv_if_eq (tgt := 16) hx hb (dkS dF_153 DX12_retire (i := 2) rfl rfl rfl) (by decide) (fun _ => ?_) (fun h => absurd h (by decide))
    refine lv_bipush (v := (-2)) hx hb (dks dF_16 DX12_retire (i := 8) rfl rfl rfl) (by decide) ?_
    exact z_iret C0 hr hlk hw (by first | rfl | ((try simp only [lg_cmp_lt, lg_cmp_le, lg_cmp_gt, lg_cmp_ge, lg_cmp_eq] at hc1); (try simp (disch := omega) only [ta_lt, ta_le, ta_eq, tb_lt, tb_le, tb_eq, tw, tnI, tn32 2 (by decide), tnj 2 (by decide), tn32 1 (by decide), tnj 1 (by decide), tl32 0 (by decide), tl64 0 (by decide), tl32 2 (by decide), tl64 2 (by decide)] at hc1); (try simp (disch := omega) only [tnI, tn32 2 (by decide), tnj 2 (by decide), tn32 1 (by decide), tnj 1 (by decide), tl32 0 (by decide), tl64 0 (by decide), tl32 2 (by decide), tl64 2 (by decide)]); (repeat' split) <;> first | rfl | omega | (apply Int32.toInt_inj.mp; simp (disch := omega) only [tnI, tn32 2 (by decide), tnj 2 (by decide), tn32 1 (by decide), tnj 1 (by decide), tl32 0 (by decide), tl64 0 (by decide), tl32 2 (by decide), tl64 2 (by decide)]; omega))) (dkP dF_172 DX12_retire (i := 9) rfl rfl)
set_option maxRecDepth 100000 in
set_option maxHeartbeats 4000000 in
theorem c_X12_planned (l : Launch) (G : va_G) (kc : Nat → ClassId) (ad : Nat → Nat)  (i : Int32)  : MI l G kc yX12_planned cX12_planned 2 (some .int) 1 25 [.ref (ad 0), .int i] shM ad sM0 (fun r σ1 => r = -1) := by
  intro sz
  refine z_body (y := yX12_planned) (n := 2) (av := [.ref (ad 0), .int i]) (Qc := fun A => va_Qi (fun r σ1 => r = -1) (PoC G kc shM ad A) A) (plainFor_of_name (by decide)) (Nat.le_of_ble_eq_true rfl) (fun pr e s m below meth c A C0 hr hlk hnm hw ls hl => ?_) sz
  have hx := C0.1
  have hb := C0.2.1
  have hown := C0.2.2.2.1
  have hts := C0.2.2.2.2.1
  have hl : lv_has ls 2 [(0, .ref (ad 0)), (1, .int i)] := hl
  refine lv_iload_n hx hb (dkP dF_27 DX12_planned (i := 0) rfl rfl) rfl (lv_at hl 1 rfl) ?_
  refine lv_i2l hx hb (dkP dF_133 DX12_planned (i := 1) rfl rfl) rfl ?_
  refine lv_lconst (v := 0) hx hb (dkP dF_9 DX12_planned (i := 2) rfl rfl) (by decide) ?_
  refine lv_aload_n hx hb (dkP dF_42 DX12_planned (i := 3) rfl rfl) rfl (lv_at hl 0 rfl) ?_
  refine z_gi C0 hw 0 49 rfl fl_X12_475 (dk2 dF_180 DX12_planned (i := 4) rfl rfl rfl) ?_
  refine z_top (y := 0) (by rfl) ?_
  refine lv_iconst (v := 1) hx hb (dkP dF_4 DX12_planned (i := 5) rfl rfl) (by decide) ?_
  refine lv_isub hx hb (dkP dF_100 DX12_planned (i := 6) rfl rfl) ?_
  refine z_top (y := (-1)) (by decide) ?_
  refine lv_i2l hx hb (dkP dF_133 DX12_planned (i := 7) rfl rfl) rfl ?_
  refine zn_I hw (zr_S (As := [.long i.toInt64, .long 0, .long (((-1) : Int32).toInt64)]) (rest := []) C0 (c_X12_in l G kc i.toInt64 0 (((-1) : Int32).toInt64)  _) cs_X12_in lk_X12_9 (zp_P C0 a00 s00) rfl hl.1 rfl ⟨by decide, by decide⟩ (Nat.le_of_ble_eq_true rfl) (dk2 dF_184 DX12_planned (i := 8) rfl rfl rfl) ⟨Nat.le_refl _, Nat.le_refl _⟩) (fun r1 s1 H locs hp hw => ?_)
  rcases hp with ⟨rfl, hc1⟩ | ⟨rfl, hc1⟩
  · exact False.elim (by (try simp only [lg_cmp_lt, lg_cmp_le, lg_cmp_gt, lg_cmp_ge, lg_cmp_eq] at hc1); (try simp (disch := omega) only [ta_lt, ta_le, ta_eq, tb_lt, tb_le, tb_eq, tw, tnI, tn32 1 (by decide), tnj 1 (by decide), tl32 0 (by decide), tl64 0 (by decide), tl32 1 (by decide), tl64 1 (by decide)] at hc1); omega)
  · skip
    refine lv_if_eq (tgt := 25) hx hb (dkS dF_153 DX12_planned (i := 9) rfl rfl rfl) (by decide) (fun _ => ?_) (fun h => absurd h (by decide))
    refine lv_iconst (v := (-1)) hx hb (dkP dF_2 DX12_planned (i := 15) rfl rfl) (by decide) ?_
    exact z_iret C0 hr hlk hw (by first | rfl | ((try simp only [lg_cmp_lt, lg_cmp_le, lg_cmp_gt, lg_cmp_ge, lg_cmp_eq] at hc1); (try simp (disch := omega) only [ta_lt, ta_le, ta_eq, tb_lt, tb_le, tb_eq, tw, tnI, tn32 1 (by decide), tnj 1 (by decide), tl32 0 (by decide), tl64 0 (by decide), tl32 1 (by decide), tl64 1 (by decide)] at hc1); (try simp (disch := omega) only [tnI, tn32 1 (by decide), tnj 1 (by decide), tl32 0 (by decide), tl64 0 (by decide), tl32 1 (by decide), tl64 1 (by decide)]); (repeat' split) <;> first | rfl | omega | (apply Int32.toInt_inj.mp; simp (disch := omega) only [tnI, tn32 1 (by decide), tnj 1 (by decide), tl32 0 (by decide), tl64 0 (by decide), tl32 1 (by decide), tl64 1 (by decide)]; omega))) (dkP dF_172 DX12_planned (i := 16) rfl rfl)
set_option maxRecDepth 100000 in
set_option maxHeartbeats 4000000 in
theorem c_X12_way (l : Launch) (G : va_G) (kc : Nat → ClassId) (ad : Nat → Nat)  (w : Int32) (what : Int32) (i : Int32)  : MI l G kc yX12_way cX12_way 4 (some .int) 1 25 [.ref (ad 0), .int w, .int what, .int i] shM ad sM0 (fun r σ1 => r = -1) := by
  intro sz
  refine z_body (y := yX12_way) (n := 4) (av := [.ref (ad 0), .int w, .int what, .int i]) (Qc := fun A => va_Qi (fun r σ1 => r = -1) (PoC G kc shM ad A) A) (plainFor_of_name (by decide)) (Nat.le_of_ble_eq_true rfl) (fun pr e s m below meth c A C0 hr hlk hnm hw ls hl => ?_) sz
  have hx := C0.1
  have hb := C0.2.1
  have hown := C0.2.2.2.1
  have hts := C0.2.2.2.2.1
  have hl : lv_has ls 4 [(0, .ref (ad 0)), (1, .int w), (2, .int what), (3, .int i)] := hl
  refine lv_iload_n hx hb (dkP dF_27 DX12_way (i := 0) rfl rfl) rfl (lv_at hl 1 rfl) ?_
  refine lv_i2l hx hb (dkP dF_133 DX12_way (i := 1) rfl rfl) rfl ?_
  refine lv_lconst (v := 0) hx hb (dkP dF_9 DX12_way (i := 2) rfl rfl) (by decide) ?_
  refine lv_aload_n hx hb (dkP dF_42 DX12_way (i := 3) rfl rfl) rfl (lv_at hl 0 rfl) ?_
  refine z_gi C0 hw 0 41 rfl fl_X12_399 (dk2 dF_180 DX12_way (i := 4) rfl rfl rfl) ?_
  refine z_top (y := 0) (by rfl) ?_
  refine lv_iconst (v := 1) hx hb (dkP dF_4 DX12_way (i := 5) rfl rfl) (by decide) ?_
  refine lv_isub hx hb (dkP dF_100 DX12_way (i := 6) rfl rfl) ?_
  refine z_top (y := (-1)) (by decide) ?_
  refine lv_i2l hx hb (dkP dF_133 DX12_way (i := 7) rfl rfl) rfl ?_
  refine zn_I hw (zr_S (As := [.long w.toInt64, .long 0, .long (((-1) : Int32).toInt64)]) (rest := []) C0 (c_X12_in l G kc w.toInt64 0 (((-1) : Int32).toInt64)  _) cs_X12_in lk_X12_9 (zp_P C0 a00 s00) rfl hl.1 rfl ⟨by decide, by decide⟩ (Nat.le_of_ble_eq_true rfl) (dk2 dF_184 DX12_way (i := 8) rfl rfl rfl) ⟨Nat.le_refl _, Nat.le_refl _⟩) (fun r1 s1 H locs hp hw => ?_)
  rcases hp with ⟨rfl, hc1⟩ | ⟨rfl, hc1⟩
  · exact False.elim (by (try simp only [lg_cmp_lt, lg_cmp_le, lg_cmp_gt, lg_cmp_ge, lg_cmp_eq] at hc1); (try simp (disch := omega) only [ta_lt, ta_le, ta_eq, tb_lt, tb_le, tb_eq, tw, tnI, tn32 1 (by decide), tnj 1 (by decide), tl32 0 (by decide), tl64 0 (by decide), tl32 1 (by decide), tl64 1 (by decide)] at hc1); omega)
  · skip
    refine lv_if_ne (tgt := 18) hx hb (dkS dF_154 DX12_way (i := 9) rfl rfl rfl) (by decide) (fun h => absurd h (by decide)) (fun _ => ?_)
    refine lv_iconst (v := (-1)) hx hb (dkP dF_2 DX12_way (i := 10) rfl rfl) (by decide) ?_
    exact z_iret C0 hr hlk hw (by first | rfl | ((try simp only [lg_cmp_lt, lg_cmp_le, lg_cmp_gt, lg_cmp_ge, lg_cmp_eq] at hc1); (try simp (disch := omega) only [ta_lt, ta_le, ta_eq, tb_lt, tb_le, tb_eq, tw, tnI, tn32 1 (by decide), tnj 1 (by decide), tl32 0 (by decide), tl64 0 (by decide), tl32 1 (by decide), tl64 1 (by decide)] at hc1); (try simp (disch := omega) only [tnI, tn32 1 (by decide), tnj 1 (by decide), tl32 0 (by decide), tl64 0 (by decide), tl32 1 (by decide), tl64 1 (by decide)]); (repeat' split) <;> first | rfl | omega | (apply Int32.toInt_inj.mp; simp (disch := omega) only [tnI, tn32 1 (by decide), tnj 1 (by decide), tl32 0 (by decide), tl64 0 (by decide), tl32 1 (by decide), tl64 1 (by decide)]; omega))) (dkP dF_172 DX12_way (i := 11) rfl rfl)
set_option maxRecDepth 100000 in
set_option maxHeartbeats 4000000 in
theorem c_X12_rule (l : Launch) (G : va_G) (kc : Nat → ClassId) (ad : Nat → Nat)  (w : Int32) (f : Int32) (i : Int32)  : MI l G kc yX12_rule cX12_rule 4 (some .int) 1 25 [.ref (ad 0), .int w, .int f, .int i] shM ad sM0 (fun r σ1 => r = -2000000000) := by
  intro sz
  refine z_body (y := yX12_rule) (n := 4) (av := [.ref (ad 0), .int w, .int f, .int i]) (Qc := fun A => va_Qi (fun r σ1 => r = -2000000000) (PoC G kc shM ad A) A) (plainFor_of_name (by decide)) (Nat.le_of_ble_eq_true rfl) (fun pr e s m below meth c A C0 hr hlk hnm hw ls hl => ?_) sz
  have hx := C0.1
  have hb := C0.2.1
  have hown := C0.2.2.2.1
  have hts := C0.2.2.2.2.1
  have hl : lv_has ls 4 [(0, .ref (ad 0)), (1, .int w), (2, .int f), (3, .int i)] := hl
  refine lv_iload_n hx hb (dkP dF_27 DX12_rule (i := 0) rfl rfl) rfl (lv_at hl 1 rfl) ?_
  refine lv_i2l hx hb (dkP dF_133 DX12_rule (i := 1) rfl rfl) rfl ?_
  refine lv_lconst (v := 0) hx hb (dkP dF_9 DX12_rule (i := 2) rfl rfl) (by decide) ?_
  refine lv_aload_n hx hb (dkP dF_42 DX12_rule (i := 3) rfl rfl) rfl (lv_at hl 0 rfl) ?_
  refine z_gi C0 hw 0 41 rfl fl_X12_399 (dk2 dF_180 DX12_rule (i := 4) rfl rfl rfl) ?_
  refine z_top (y := 0) (by rfl) ?_
  refine lv_iconst (v := 1) hx hb (dkP dF_4 DX12_rule (i := 5) rfl rfl) (by decide) ?_
  refine lv_isub hx hb (dkP dF_100 DX12_rule (i := 6) rfl rfl) ?_
  refine z_top (y := (-1)) (by decide) ?_
  refine lv_i2l hx hb (dkP dF_133 DX12_rule (i := 7) rfl rfl) rfl ?_
  refine zn_I hw (zr_S (As := [.long w.toInt64, .long 0, .long (((-1) : Int32).toInt64)]) (rest := []) C0 (c_X12_in l G kc w.toInt64 0 (((-1) : Int32).toInt64)  _) cs_X12_in lk_X12_9 (zp_P C0 a00 s00) rfl hl.1 rfl ⟨by decide, by decide⟩ (Nat.le_of_ble_eq_true rfl) (dk2 dF_184 DX12_rule (i := 8) rfl rfl rfl) ⟨Nat.le_refl _, Nat.le_refl _⟩) (fun r1 s1 H locs hp hw => ?_)
  rcases hp with ⟨rfl, hc1⟩ | ⟨rfl, hc1⟩
  · exact False.elim (by (try simp only [lg_cmp_lt, lg_cmp_le, lg_cmp_gt, lg_cmp_ge, lg_cmp_eq] at hc1); (try simp (disch := omega) only [ta_lt, ta_le, ta_eq, tb_lt, tb_le, tb_eq, tw, tnI, tn32 1 (by decide), tnj 1 (by decide), tl32 0 (by decide), tl64 0 (by decide), tl32 1 (by decide), tl64 1 (by decide)] at hc1); omega)
  · skip
    refine lv_if_eq (tgt := 41) hx hb (dkS dF_153 DX12_rule (i := 9) rfl rfl rfl) (by decide) (fun _ => ?_) (fun h => absurd h (by decide))
    refine lv_ldcw hx hb hown (hts _ kn_X12_413) (dk2 dF_19 DX12_rule (i := 23) rfl rfl rfl) ?_
    exact z_iret C0 hr hlk hw (by first | rfl | ((try simp only [lg_cmp_lt, lg_cmp_le, lg_cmp_gt, lg_cmp_ge, lg_cmp_eq] at hc1); (try simp (disch := omega) only [ta_lt, ta_le, ta_eq, tb_lt, tb_le, tb_eq, tw, tnI, tn32 2000000000 (by decide), tnj 2000000000 (by decide), tn32 1 (by decide), tnj 1 (by decide), tl32 0 (by decide), tl64 0 (by decide), tl32 1 (by decide), tl64 1 (by decide)] at hc1); (try simp (disch := omega) only [tnI, tn32 2000000000 (by decide), tnj 2000000000 (by decide), tn32 1 (by decide), tnj 1 (by decide), tl32 0 (by decide), tl64 0 (by decide), tl32 1 (by decide), tl64 1 (by decide)]); (repeat' split) <;> first | rfl | omega | (apply Int32.toInt_inj.mp; simp (disch := omega) only [tnI, tn32 2000000000 (by decide), tnj 2000000000 (by decide), tn32 1 (by decide), tnj 1 (by decide), tl32 0 (by decide), tl64 0 (by decide), tl32 1 (by decide), tl64 1 (by decide)]; omega))) (dkP dF_172 DX12_rule (i := 24) rfl rfl)
set_option maxRecDepth 100000 in
set_option maxHeartbeats 4000000 in
theorem c_X12_heap (l : Launch) (G : va_G) (kc : Nat → ClassId) (ad : Nat → Nat)  (h : Int32) (w : Int32)  : MI l G kc yX12_heap cX12_heap 3 (some .int) 1 25 [.ref (ad 0), .int h, .int w] shM ad sM0 (fun r σ1 => r = -1) := by
  intro sz
  refine z_body (y := yX12_heap) (n := 3) (av := [.ref (ad 0), .int h, .int w]) (Qc := fun A => va_Qi (fun r σ1 => r = -1) (PoC G kc shM ad A) A) (plainFor_of_name (by decide)) (Nat.le_of_ble_eq_true rfl) (fun pr e s m below meth c A C0 hr hlk hnm hw ls hl => ?_) sz
  have hx := C0.1
  have hb := C0.2.1
  have hown := C0.2.2.2.1
  have hts := C0.2.2.2.2.1
  have hl : lv_has ls 3 [(0, .ref (ad 0)), (1, .int h), (2, .int w)] := hl
  refine lv_iload_n hx hb (dkP dF_27 DX12_heap (i := 0) rfl rfl) rfl (lv_at hl 1 rfl) ?_
  refine lv_i2l hx hb (dkP dF_133 DX12_heap (i := 1) rfl rfl) rfl ?_
  refine lv_lconst (v := 0) hx hb (dkP dF_9 DX12_heap (i := 2) rfl rfl) (by decide) ?_
  refine lv_aload_n hx hb (dkP dF_42 DX12_heap (i := 3) rfl rfl) rfl (lv_at hl 0 rfl) ?_
  refine z_gr C0 hw 0 1 1 rfl fl_X12_20 (dk2 dF_180 DX12_heap (i := 4) rfl rfl rfl) ?_
  refine lv_iconst (v := 2) hx hb (dkP dF_5 DX12_heap (i := 5) rfl rfl) (by decide) ?_
  refine z_ialdN (n := 414128) C0 hw 1 2 rfl (by omega) (by decide) (dkP dF_46 DX12_heap (i := 6) rfl rfl) ?_
  refine z_top (y := 0) (by rfl) ?_
  refine lv_iconst (v := 1) hx hb (dkP dF_4 DX12_heap (i := 7) rfl rfl) (by decide) ?_
  refine lv_isub hx hb (dkP dF_100 DX12_heap (i := 8) rfl rfl) ?_
  refine z_top (y := (-1)) (by decide) ?_
  refine lv_i2l hx hb (dkP dF_133 DX12_heap (i := 9) rfl rfl) rfl ?_
  refine zn_I hw (zr_S (As := [.long h.toInt64, .long 0, .long (((-1) : Int32).toInt64)]) (rest := []) C0 (c_X12_in l G kc h.toInt64 0 (((-1) : Int32).toInt64)  _) cs_X12_in lk_X12_9 (zp_P C0 a00 s00) rfl hl.1 rfl ⟨by decide, by decide⟩ (Nat.le_of_ble_eq_true rfl) (dk2 dF_184 DX12_heap (i := 10) rfl rfl rfl) ⟨Nat.le_refl _, Nat.le_refl _⟩) (fun r1 s1 H locs hp hw => ?_)
  rcases hp with ⟨rfl, hc1⟩ | ⟨rfl, hc1⟩
  · exact False.elim (by (try simp only [lg_cmp_lt, lg_cmp_le, lg_cmp_gt, lg_cmp_ge, lg_cmp_eq] at hc1); (try simp (disch := omega) only [ta_lt, ta_le, ta_eq, tb_lt, tb_le, tb_eq, tw, tnI, tn32 1 (by decide), tnj 1 (by decide), tl32 0 (by decide), tl64 0 (by decide), tl32 1 (by decide), tl64 1 (by decide), tl32 2 (by decide), tl64 2 (by decide)] at hc1); omega)
  · skip
    refine lv_if_eq (tgt := 48) hx hb (dkS dF_153 DX12_heap (i := 11) rfl rfl rfl) (by decide) (fun _ => ?_) (fun h => absurd h (by decide))
    refine lv_iconst (v := (-1)) hx hb (dkP dF_2 DX12_heap (i := 29) rfl rfl) (by decide) ?_
    exact z_iret C0 hr hlk hw (by first | rfl | ((try simp only [lg_cmp_lt, lg_cmp_le, lg_cmp_gt, lg_cmp_ge, lg_cmp_eq] at hc1); (try simp (disch := omega) only [ta_lt, ta_le, ta_eq, tb_lt, tb_le, tb_eq, tw, tnI, tn32 1 (by decide), tnj 1 (by decide), tl32 0 (by decide), tl64 0 (by decide), tl32 1 (by decide), tl64 1 (by decide), tl32 2 (by decide), tl64 2 (by decide)] at hc1); (try simp (disch := omega) only [tnI, tn32 1 (by decide), tnj 1 (by decide), tl32 0 (by decide), tl64 0 (by decide), tl32 1 (by decide), tl64 1 (by decide), tl32 2 (by decide), tl64 2 (by decide)]); (repeat' split) <;> first | rfl | omega | (apply Int32.toInt_inj.mp; simp (disch := omega) only [tnI, tn32 1 (by decide), tnj 1 (by decide), tl32 0 (by decide), tl64 0 (by decide), tl32 1 (by decide), tl64 1 (by decide), tl32 2 (by decide), tl64 2 (by decide)]; omega))) (dkP dF_172 DX12_heap (i := 30) rfl rfl)
set_option maxRecDepth 100000 in
set_option maxHeartbeats 4000000 in
theorem c_X12_judge (l : Launch) (G : va_G) (kc : Nat → ClassId) (ad : Nat → Nat)  (h : Int32) (w : Int32)  : MI l G kc yX12_judge cX12_judge 5 (some .int) 1 25 [.ref (ad 0), .int h, .int w] shM ad sM0 (fun r σ1 => r = -2) := by
  intro sz
  refine z_body (y := yX12_judge) (n := 5) (av := [.ref (ad 0), .int h, .int w]) (Qc := fun A => va_Qi (fun r σ1 => r = -2) (PoC G kc shM ad A) A) (plainFor_of_name (by decide)) (Nat.le_of_ble_eq_true rfl) (fun pr e s m below meth c A C0 hr hlk hnm hw ls hl => ?_) sz
  have hx := C0.1
  have hb := C0.2.1
  have hown := C0.2.2.2.1
  have hts := C0.2.2.2.2.1
  have hl : lv_has ls 5 [(0, .ref (ad 0)), (1, .int h), (2, .int w)] := hl
  refine lv_iload_n hx hb (dkP dF_27 DX12_judge (i := 0) rfl rfl) rfl (lv_at hl 1 rfl) ?_
  refine lv_i2l hx hb (dkP dF_133 DX12_judge (i := 1) rfl rfl) rfl ?_
  refine lv_lconst (v := 0) hx hb (dkP dF_9 DX12_judge (i := 2) rfl rfl) (by decide) ?_
  refine lv_aload_n hx hb (dkP dF_42 DX12_judge (i := 3) rfl rfl) rfl (lv_at hl 0 rfl) ?_
  refine z_gr C0 hw 0 1 1 rfl fl_X12_20 (dk2 dF_180 DX12_judge (i := 4) rfl rfl rfl) ?_
  refine lv_iconst (v := 2) hx hb (dkP dF_5 DX12_judge (i := 5) rfl rfl) (by decide) ?_
  refine z_ialdN (n := 414128) C0 hw 1 2 rfl (by omega) (by decide) (dkP dF_46 DX12_judge (i := 6) rfl rfl) ?_
  refine z_top (y := 0) (by rfl) ?_
  refine lv_iconst (v := 1) hx hb (dkP dF_4 DX12_judge (i := 7) rfl rfl) (by decide) ?_
  refine lv_isub hx hb (dkP dF_100 DX12_judge (i := 8) rfl rfl) ?_
  refine z_top (y := (-1)) (by decide) ?_
  refine lv_i2l hx hb (dkP dF_133 DX12_judge (i := 9) rfl rfl) rfl ?_
  refine zn_I hw (zr_S (As := [.long h.toInt64, .long 0, .long (((-1) : Int32).toInt64)]) (rest := []) C0 (c_X12_in l G kc h.toInt64 0 (((-1) : Int32).toInt64)  _) cs_X12_in lk_X12_9 (zp_P C0 a00 s00) rfl hl.1 rfl ⟨by decide, by decide⟩ (Nat.le_of_ble_eq_true rfl) (dk2 dF_184 DX12_judge (i := 10) rfl rfl rfl) ⟨Nat.le_refl _, Nat.le_refl _⟩) (fun r1 s1 H locs hp hw => ?_)
  rcases hp with ⟨rfl, hc1⟩ | ⟨rfl, hc1⟩
  · exact False.elim (by (try simp only [lg_cmp_lt, lg_cmp_le, lg_cmp_gt, lg_cmp_ge, lg_cmp_eq] at hc1); (try simp (disch := omega) only [ta_lt, ta_le, ta_eq, tb_lt, tb_le, tb_eq, tw, tnI, tn32 1 (by decide), tnj 1 (by decide), tl32 0 (by decide), tl64 0 (by decide), tl32 1 (by decide), tl64 1 (by decide), tl32 2 (by decide), tl64 2 (by decide)] at hc1); omega)
  · skip
    refine lv_if_eq (tgt := 30) hx hb (dkS dF_153 DX12_judge (i := 11) rfl rfl rfl) (by decide) (fun _ => ?_) (fun h => absurd h (by decide))
    refine lv_bipush (v := (-2)) hx hb (dks dF_16 DX12_judge (i := 18) rfl rfl rfl) (by decide) ?_
    exact z_iret C0 hr hlk hw (by first | rfl | ((try simp only [lg_cmp_lt, lg_cmp_le, lg_cmp_gt, lg_cmp_ge, lg_cmp_eq] at hc1); (try simp (disch := omega) only [ta_lt, ta_le, ta_eq, tb_lt, tb_le, tb_eq, tw, tnI, tn32 2 (by decide), tnj 2 (by decide), tn32 1 (by decide), tnj 1 (by decide), tl32 0 (by decide), tl64 0 (by decide), tl32 1 (by decide), tl64 1 (by decide), tl32 2 (by decide), tl64 2 (by decide)] at hc1); (try simp (disch := omega) only [tnI, tn32 2 (by decide), tnj 2 (by decide), tn32 1 (by decide), tnj 1 (by decide), tl32 0 (by decide), tl64 0 (by decide), tl32 1 (by decide), tl64 1 (by decide), tl32 2 (by decide), tl64 2 (by decide)]); (repeat' split) <;> first | rfl | omega | (apply Int32.toInt_inj.mp; simp (disch := omega) only [tnI, tn32 2 (by decide), tnj 2 (by decide), tn32 1 (by decide), tnj 1 (by decide), tl32 0 (by decide), tl64 0 (by decide), tl32 1 (by decide), tl64 1 (by decide), tl32 2 (by decide), tl64 2 (by decide)]; omega))) (dkP dF_172 DX12_judge (i := 19) rfl rfl)
