set_option maxRecDepth 100000 in
set_option maxHeartbeats 4000000 in
theorem c_X12_step (l : Launch) (G : va_G) (kc : Nat → ClassId) (ad : Nat → Nat) (σ : Sg)   (hz : σ.1 0 7 = 0) (hat : σ.1 0 8 = 0) : MV l G kc yX12_step cX12_step 2 1 21 [.ref (ad 0)] shM ad σ (fun σ1 => σ1 = sI (sI σ 0 9 0) 0 10 0) := by
  intro sz
  refine z_body (y := yX12_step) (n := 2) (av := [.ref (ad 0)]) (Qc := fun A => va_Qv (fun σ1 => σ1 = sI (sI σ 0 9 0) 0 10 0) (PoC G kc shM ad A) A) (plainFor_of_name (by decide)) (Nat.le_of_ble_eq_true rfl) (fun pr e s m below meth c A C0 hr hlk hnm hw ls hl => ?_) sz
  have hx := C0.1
  have hb := C0.2.1
  have hown := C0.2.2.2.1
  have hts := C0.2.2.2.2.1
  have hl : lv_has ls 2 [(0, .ref (ad 0))] := hl
  refine lv_aload_n hx hb (dkP dF_42 DX12_step (i := 0) rfl rfl) rfl (lv_at hl 0 rfl) ?_
  refine lv_aload_n hx hb (dkP dF_42 DX12_step (i := 1) rfl rfl) rfl (lv_at hl 0 rfl) ?_
  refine z_gi C0 hw 0 8 rfl fl_X12_153 (dk2 dF_180 DX12_step (i := 2) rfl rfl rfl) ?_
  refine z_top (y := 0) (by simp [sI, u2, hat]) ?_
  refine zk_I hw (zr_V (As := [.int 0]) (rest := []) C0 (c_X12_see l G kc ad σ 0 (by decide) (by simp [sI, u2, hz]) _) cv_X12_see lk_X12_156 (zp_V C0 hw 0 rfl rfl rfl) rfl hl.1 rfl ⟨by decide, by decide⟩ (Nat.le_of_ble_eq_true rfl) (dk2 dF_182 DX12_step (i := 3) rfl rfl rfl) ⟨Nat.le_refl _, Nat.le_refl _⟩) (fun r1 s1 H locs hp hw => ?_)
  obtain ⟨rfl, hs1⟩ := hp
  (rw [hs1] at hw; clear hs1)
  refine lv_bipush (v := 32) hx hb (dks dF_16 DX12_step (i := 4) rfl rfl rfl) (by decide) ?_
  refine lv_icmp_eq (tgt := 26) hx hb (dkS dF_159 DX12_step (i := 5) rfl rfl rfl) (by decide) (fun h => absurd h (by decide)) (fun _ => ?_)
  refine lv_aload_n hx hb (dkP dF_42 DX12_step (i := 6) rfl rfl) rfl (lv_at hl 0 rfl) ?_
  refine lv_aload_n hx hb (dkP dF_42 DX12_step (i := 7) rfl rfl) rfl (lv_at hl 0 rfl) ?_
  refine z_gi C0 hw 0 8 rfl fl_X12_153 (dk2 dF_180 DX12_step (i := 8) rfl rfl rfl) ?_
  refine z_top (y := 0) (by simp [sI, u2, hat]) ?_
  refine zk_I hw (zr_V (As := [.int 0]) (rest := []) C0 (c_X12_see l G kc ad σ 0 (by decide) (by simp [sI, u2, hz]) _) cv_X12_see lk_X12_156 (zp_V C0 hw 0 rfl rfl rfl) rfl hl.1 rfl ⟨by decide, by decide⟩ (Nat.le_of_ble_eq_true rfl) (dk2 dF_182 DX12_step (i := 9) rfl rfl rfl) ⟨Nat.le_refl _, Nat.le_refl _⟩) (fun r2 s2 H locs hp hw => ?_)
  obtain ⟨rfl, hs2⟩ := hp
  (rw [hs2] at hw; clear hs2)
  refine lv_bipush (v := 10) hx hb (dks dF_16 DX12_step (i := 10) rfl rfl rfl) (by decide) ?_
  refine lv_icmp_ne (tgt := 39) hx hb (dkS dF_160 DX12_step (i := 11) rfl rfl rfl) (by decide) (fun _ => ?_) (fun h => absurd h (by decide))
  refine lv_aload_n hx hb (dkP dF_42 DX12_step (i := 19) rfl rfl) rfl (lv_at hl 0 rfl) ?_
  refine lv_aload_n hx hb (dkP dF_42 DX12_step (i := 20) rfl rfl) rfl (lv_at hl 0 rfl) ?_
  refine z_gi C0 hw 0 8 rfl fl_X12_153 (dk2 dF_180 DX12_step (i := 21) rfl rfl rfl) ?_
  refine z_top (y := 0) (by simp [sI, u2, hat]) ?_
  refine z_pi C0 hw 0 9 rfl fp_X12_159 (dk2 dF_181 DX12_step (i := 22) rfl rfl rfl) (fun H locs hw => ?_)
  refine lv_aload_n hx hb (dkP dF_42 DX12_step (i := 23) rfl rfl) rfl (lv_at hl 0 rfl) ?_
  refine lv_aload_n hx hb (dkP dF_42 DX12_step (i := 24) rfl rfl) rfl (lv_at hl 0 rfl) ?_
  refine z_gi C0 hw 0 8 rfl fl_X12_153 (dk2 dF_180 DX12_step (i := 25) rfl rfl rfl) ?_
  refine z_top (y := 0) (by simp [sI, u2, hat]) ?_
  refine zk_I hw (zr_V (As := [.int 0]) (rest := []) C0 (c_X12_see l G kc ad (sI σ 0 9 0) 0 (by decide) (by simp [sI, u2, hz]) _) cv_X12_see lk_X12_156 (zp_V C0 hw 0 rfl rfl rfl) rfl hl.1 rfl ⟨by decide, by decide⟩ (Nat.le_of_ble_eq_true rfl) (dk2 dF_182 DX12_step (i := 26) rfl rfl rfl) ⟨Nat.le_refl _, Nat.le_refl _⟩) (fun r3 s3 H locs hp hw => ?_)
  obtain ⟨rfl, hs3⟩ := hp
  subst hs3
  refine lv_istore_n (lv' := [(1, .int (-1)), (0, .ref (ad 0))]) hx hb (dkP dF_60 DX12_step (i := 27) rfl rfl) rfl hl (by decide) rfl (fun ls hl => ?_)
  refine lv_iload_n hx hb (dkP dF_27 DX12_step (i := 28) rfl rfl) rfl (lv_at hl 0 rfl) ?_
  refine lv_iconst (v := (-1)) hx hb (dkP dF_2 DX12_step (i := 29) rfl rfl) (by decide) ?_
  refine lv_icmp_ne (tgt := 69) hx hb (dkS dF_160 DX12_step (i := 30) rfl rfl rfl) (by decide) (fun h => absurd h (by decide)) (fun _ => ?_)
  refine lv_aload_n hx hb (dkP dF_42 DX12_step (i := 31) rfl rfl) rfl (lv_at hl 1 rfl) ?_
  refine lv_iconst (v := 0) hx hb (dkP dF_3 DX12_step (i := 32) rfl rfl) (by decide) ?_
  refine z_pi C0 hw 0 10 rfl fp_X12_162 (dk2 dF_181 DX12_step (i := 33) rfl rfl rfl) (fun H locs hw => ?_)
  refine lv_goto (tgt := 245) hx hb (dkS dF_167 DX12_step (i := 34) rfl rfl rfl) (by decide) ?_
  exact z_vret C0 hr hlk hw rfl (dkP dF_177 DX12_step (i := 122) rfl rfl)
set_option maxRecDepth 100000 in
set_option maxHeartbeats 4000000 in
theorem c_X12_begins (l : Launch) (G : va_G) (kc : Nat → ClassId) (ad : Nat → Nat)    : MV l G kc yX12_begins cX12_begins 1 2 42 [.ref (ad 0)] shM ad sM0 (fun σ1 => σ1 = sI (sI (sI (sI (sI (sI (sI sM0 0 7 0) 0 5 0) 0 8 0) 0 12 0) 0 13 (-1)) 0 9 0) 0 10 0) := by
  intro sz
  refine z_body (y := yX12_begins) (n := 1) (av := [.ref (ad 0)]) (Qc := fun A => va_Qv (fun σ1 => σ1 = sI (sI (sI (sI (sI (sI (sI sM0 0 7 0) 0 5 0) 0 8 0) 0 12 0) 0 13 (-1)) 0 9 0) 0 10 0) (PoC G kc shM ad A) A) (plainFor_of_name (by decide)) (Nat.le_of_ble_eq_true rfl) (fun pr e s m below meth c A C0 hr hlk hnm hw ls hl => ?_) sz
  have hx := C0.1
  have hb := C0.2.1
  have hown := C0.2.2.2.1
  have hts := C0.2.2.2.2.1
  have hl : lv_has ls 1 [(0, .ref (ad 0))] := hl
  refine lv_aload_n hx hb (dkP dF_42 DX12_begins (i := 0) rfl rfl) rfl (lv_at hl 0 rfl) ?_
  refine lv_aload_n hx hb (dkP dF_42 DX12_begins (i := 1) rfl rfl) rfl (lv_at hl 0 rfl) ?_
  refine z_gi C0 hw 0 5 rfl fl_X12_147 (dk2 dF_180 DX12_begins (i := 2) rfl rfl rfl) ?_
  refine z_top (y := 0) (by rfl) ?_
  refine z_pi C0 hw 0 7 rfl fp_X12_150 (dk2 dF_181 DX12_begins (i := 3) rfl rfl rfl) (fun H locs hw => ?_)
  refine lv_aload_n hx hb (dkP dF_42 DX12_begins (i := 4) rfl rfl) rfl (lv_at hl 0 rfl) ?_
  refine lv_iconst (v := 0) hx hb (dkP dF_3 DX12_begins (i := 5) rfl rfl) (by decide) ?_
  refine z_pi C0 hw 0 5 rfl fp_X12_147 (dk2 dF_181 DX12_begins (i := 6) rfl rfl rfl) (fun H locs hw => ?_)
  refine lv_aload_n hx hb (dkP dF_42 DX12_begins (i := 7) rfl rfl) rfl (lv_at hl 0 rfl) ?_
  refine lv_iconst (v := 0) hx hb (dkP dF_3 DX12_begins (i := 8) rfl rfl) (by decide) ?_
  refine z_pi C0 hw 0 8 rfl fp_X12_153 (dk2 dF_181 DX12_begins (i := 9) rfl rfl rfl) (fun H locs hw => ?_)
  refine lv_aload_n hx hb (dkP dF_42 DX12_begins (i := 10) rfl rfl) rfl (lv_at hl 0 rfl) ?_
  refine lv_iconst (v := 0) hx hb (dkP dF_3 DX12_begins (i := 11) rfl rfl) (by decide) ?_
  refine z_pi C0 hw 0 12 rfl fp_X12_187 (dk2 dF_181 DX12_begins (i := 12) rfl rfl rfl) (fun H locs hw => ?_)
  refine lv_aload_n hx hb (dkP dF_42 DX12_begins (i := 13) rfl rfl) rfl (lv_at hl 0 rfl) ?_
  refine lv_iconst (v := (-1)) hx hb (dkP dF_2 DX12_begins (i := 14) rfl rfl) (by decide) ?_
  refine z_pi C0 hw 0 13 rfl fp_X12_39 (dk2 dF_181 DX12_begins (i := 15) rfl rfl rfl) (fun H locs hw => ?_)
  refine lv_aload_n hx hb (dkP dF_42 DX12_begins (i := 16) rfl rfl) rfl (lv_at hl 0 rfl) ?_
  refine zk_V hw (zr_V (As := []) (rest := []) C0 (c_X12_step l G kc ad (sI (sI (sI (sI (sI sM0 0 7 0) 0 5 0) 0 8 0) 0 12 0) 0 13 (-1)) (by rfl) (by rfl) _) cv_X12_step lk_X12_208 (zp_V C0 hw 0 rfl rfl rfl) rfl hl.1 rfl ⟨by decide, by decide⟩ (Nat.le_of_ble_eq_true rfl) (dk2 dF_182 DX12_begins (i := 17) rfl rfl rfl) ⟨Nat.le_refl _, Nat.le_refl _⟩) (fun s1 H locs hp hw => ?_)
  subst hp
  exact z_vret C0 hr hlk hw rfl (dkP dF_177 DX12_begins (i := 18) rfl rfl)
set_option maxRecDepth 100000 in
set_option maxHeartbeats 4000000 in
theorem c_X12_lays (l : Launch) (G : va_G) (kc : Nat → ClassId) (ad : Nat → Nat) (σ : Sg)  (x : Nat) (a : Int32) (y : Nat) (b : Int32)  : MV l G kc yX12_lays cX12_lays 6 0 0 [.ref (ad x), .int a, .ref (ad y), .int b, .int 0] shM ad σ (fun σ1 => σ1 = σ) := by
  intro sz
  refine z_body (y := yX12_lays) (n := 6) (av := [.ref (ad x), .int a, .ref (ad y), .int b, .int 0]) (Qc := fun A => va_Qv (fun σ1 => σ1 = σ) (PoC G kc shM ad A) A) (plainFor_of_name (by decide)) (Nat.le_of_ble_eq_true rfl) (fun pr e s m below meth c A C0 hr hlk hnm hw ls hl => ?_) sz
  have hx := C0.1
  have hb := C0.2.1
  have hown := C0.2.2.2.1
  have hts := C0.2.2.2.2.1
  have hl : lv_has ls 6 [(0, .ref (ad x)), (1, .int a), (2, .ref (ad y)), (3, .int b), (4, .int 0)] := hl
  refine lv_iconst (v := 0) hx hb (dkP dF_3 DX12_lays (i := 0) rfl rfl) (by decide) ?_
  refine lv_istore (lv' := [(5, .int 0), (0, .ref (ad x)), (1, .int a), (2, .ref (ad y)), (3, .int b), (4, .int 0)]) hx hb (dk1 dF_54 DX12_lays (i := 1) rfl rfl rfl) hl (by decide) rfl (fun ls hl => ?_)
  refine lv_iload hx hb (dk1 dF_21 DX12_lays (i := 2) rfl rfl rfl) (lv_at hl 0 rfl) ?_
  refine lv_iload hx hb (dk1 dF_21 DX12_lays (i := 3) rfl rfl rfl) (lv_at hl 5 rfl) ?_
  refine lv_icmp_ge (tgt := 28) hx hb (dkS dF_162 DX12_lays (i := 4) rfl rfl rfl) (by decide) (fun _ => ?_) (fun h => absurd h (by decide))
  exact z_vret C0 hr hlk hw rfl (dkP dF_177 DX12_lays (i := 17) rfl rfl)
set_option maxRecDepth 100000 in
set_option maxHeartbeats 4000000 in
theorem c_X12_begun (l : Launch) (G : va_G) (kc : Nat → ClassId) (ad : Nat → Nat) (σ : Sg)  (k : Nat) (n : Int32) (hk : k < 8) : MV l G kc yX12_begun cX12_begun 3 1 20 [.ref (ad 0), .int (nI k), .int n] shM ad σ (fun σ1 => True) := by
  intro sz
  refine z_body (y := yX12_begun) (n := 3) (av := [.ref (ad 0), .int (nI k), .int n]) (Qc := fun A => va_Qv (fun σ1 => True) (PoC G kc shM ad A) A) (plainFor_of_name (by decide)) (Nat.le_of_ble_eq_true rfl) (fun pr e s m below meth c A C0 hr hlk hnm hw ls hl => ?_) sz
  have hx := C0.1
  have hb := C0.2.1
  have hown := C0.2.2.2.1
  have hts := C0.2.2.2.2.1
  have hl : lv_has ls 3 [(0, .ref (ad 0)), (1, .int (nI k)), (2, .int n)] := hl
  refine lv_aload_n hx hb (dkP dF_42 DX12_begun (i := 0) rfl rfl) rfl (lv_at hl 0 rfl) ?_
  refine z_gr C0 hw 0 1 1 rfl fl_X12_20 (dk2 dF_180 DX12_begun (i := 1) rfl rfl rfl) ?_
  refine lv_iload_n hx hb (dkP dF_27 DX12_begun (i := 2) rfl rfl) rfl (lv_at hl 1 rfl) ?_
  refine zn_I hw (zr_S (As := [.int (nI k)]) (rest := [.ref (ad 1)]) C0 (c_X12_of l G kc k  _) cs_X12_of lk_X12_139 (zp_P C0 a00 s00) rfl hl.1 rfl ⟨by decide, by decide⟩ (Nat.le_of_ble_eq_true rfl) (dk2 dF_184 DX12_begun (i := 3) rfl rfl rfl) ⟨Nat.le_refl _, Nat.le_refl _⟩) (fun r1 s1 H locs hp hw => ?_)
  subst hp
  refine lv_iconst (v := 1) hx hb (dkP dF_4 DX12_begun (i := 4) rfl rfl) (by decide) ?_
  refine z_iastN (n := 414128) C0 hw 1 (8 + 20 * k) rfl (by omega) (by decide) (dkP dF_79 DX12_begun (i := 5) rfl rfl) (fun H locs hw => ?_)
  refine lv_aload_n hx hb (dkP dF_42 DX12_begun (i := 6) rfl rfl) rfl (lv_at hl 0 rfl) ?_
  refine z_gr C0 hw 0 1 1 rfl fl_X12_20 (dk2 dF_180 DX12_begun (i := 7) rfl rfl rfl) ?_
  refine lv_iload_n hx hb (dkP dF_27 DX12_begun (i := 8) rfl rfl) rfl (lv_at hl 1 rfl) ?_
  refine zn_I hw (zr_S (As := [.int (nI k)]) (rest := [.ref (ad 1)]) C0 (c_X12_of l G kc k  _) cs_X12_of lk_X12_139 (zp_P C0 a00 s00) rfl hl.1 rfl ⟨by decide, by decide⟩ (Nat.le_of_ble_eq_true rfl) (dk2 dF_184 DX12_begun (i := 9) rfl rfl rfl) ⟨Nat.le_refl _, Nat.le_refl _⟩) (fun r2 s2 H locs hp hw => ?_)
  subst hp
  refine lv_iconst (v := 2) hx hb (dkP dF_5 DX12_begun (i := 10) rfl rfl) (by decide) ?_
  refine lv_iadd hx hb (dkP dF_96 DX12_begun (i := 11) rfl rfl) ?_
  refine z_top (y := nI ((8 + 20 * k) + 2)) (by simp only [fa_lit, nI_add, pk_mul]) ?_
  refine lv_iload_n hx hb (dkP dF_28 DX12_begun (i := 12) rfl rfl) rfl (lv_at hl 2 rfl) ?_
  refine z_iastN (n := 414128) C0 hw 1 ((8 + 20 * k) + 2) rfl (by omega) (by decide) (dkP dF_79 DX12_begun (i := 13) rfl rfl) (fun H locs hw => ?_)
  refine lv_aload_n hx hb (dkP dF_42 DX12_begun (i := 14) rfl rfl) rfl (lv_at hl 0 rfl) ?_
  refine z_gr C0 hw 0 1 1 rfl fl_X12_20 (dk2 dF_180 DX12_begun (i := 15) rfl rfl rfl) ?_
  refine lv_iload_n hx hb (dkP dF_27 DX12_begun (i := 16) rfl rfl) rfl (lv_at hl 1 rfl) ?_
  refine zn_I hw (zr_S (As := [.int (nI k)]) (rest := [.ref (ad 1)]) C0 (c_X12_of l G kc k  _) cs_X12_of lk_X12_139 (zp_P C0 a00 s00) rfl hl.1 rfl ⟨by decide, by decide⟩ (Nat.le_of_ble_eq_true rfl) (dk2 dF_184 DX12_begun (i := 17) rfl rfl rfl) ⟨Nat.le_refl _, Nat.le_refl _⟩) (fun r3 s3 H locs hp hw => ?_)
  subst hp
  refine lv_iconst (v := 3) hx hb (dkP dF_6 DX12_begun (i := 18) rfl rfl) (by decide) ?_
  refine lv_iadd hx hb (dkP dF_96 DX12_begun (i := 19) rfl rfl) ?_
  refine z_top (y := nI ((8 + 20 * k) + 3)) (by simp only [fa_lit, nI_add, pk_mul]) ?_
  refine lv_iconst (v := (-1)) hx hb (dkP dF_2 DX12_begun (i := 20) rfl rfl) (by decide) ?_
  refine z_iastN (n := 414128) C0 hw 1 ((8 + 20 * k) + 3) rfl (by omega) (by decide) (dkP dF_79 DX12_begun (i := 21) rfl rfl) (fun H locs hw => ?_)
  exact z_vret C0 hr hlk hw trivial (dkP dF_177 DX12_begun (i := 22) rfl rfl)
set_option maxRecDepth 100000 in
set_option maxHeartbeats 4000000 in
theorem c_X12_old (l : Launch) (G : va_G) (kc : Nat → ClassId) (ad : Nat → Nat)  (p : Int32)  : MI l G kc yX12_old cX12_old 3 (some .int) 3 62 [.ref (ad 0), .int p] shM ad sM0 (fun r σ1 => r = if 0 ≤ p.toInt ∧ p.toInt ≤ 7 then 0 else -2) := by
  intro sz
  refine z_body (y := yX12_old) (n := 3) (av := [.ref (ad 0), .int p]) (Qc := fun A => va_Qi (fun r σ1 => r = if 0 ≤ p.toInt ∧ p.toInt ≤ 7 then 0 else -2) (PoC G kc shM ad A) A) (plainFor_of_name (by decide)) (Nat.le_of_ble_eq_true rfl) (fun pr e s m below meth c A C0 hr hlk hnm hw ls hl => ?_) sz
  have hx := C0.1
  have hb := C0.2.1
  have hown := C0.2.2.2.1
  have hts := C0.2.2.2.2.1
  have hl : lv_has ls 3 [(0, .ref (ad 0)), (1, .int p)] := hl
  refine lv_iload_n hx hb (dkP dF_27 DX12_old (i := 0) rfl rfl) rfl (lv_at hl 1 rfl) ?_
  refine zn_I hw (zr_S (As := [.int p]) (rest := []) C0 (c_X12_isProgram l G kc p  _) cs_X12_isProgram lk_X12_272 (zp_P C0 a00 s00) rfl hl.1 rfl ⟨by decide, by decide⟩ (Nat.le_of_ble_eq_true rfl) (dk2 dF_184 DX12_old (i := 1) rfl rfl rfl) ⟨Nat.le_refl _, Nat.le_refl _⟩) (fun r1 s1 H locs hp hw => ?_)
  rcases hp with ⟨rfl, hc1⟩ | ⟨rfl, hc1⟩
  · skip
    obtain ⟨k_p, hk_p, rfl⟩ := to_nat (x := p) (n := 8) (by (try simp only [lg_cmp_lt, lg_cmp_le, lg_cmp_gt, lg_cmp_ge, lg_cmp_eq] at hc1); (try simp (disch := omega) only [ta_lt, ta_le, ta_eq, tb_lt, tb_le, tb_eq, tw, tnI, tn32 1 (by decide), tnj 1 (by decide), tl32 0 (by decide), tl64 0 (by decide)] at hc1); (try simp (disch := omega) only [ta_lt, ta_le, ta_eq, tb_lt, tb_le, tb_eq, tw, tnI, tn32 1 (by decide), tnj 1 (by decide), tl32 0 (by decide), tl64 0 (by decide)]); omega)
    refine lv_if_eq (tgt := 15) hx hb (dkS dF_153 DX12_old (i := 2) rfl rfl rfl) (by decide) (fun h => absurd h (by decide)) (fun _ => ?_)
    refine lv_aload_n hx hb (dkP dF_42 DX12_old (i := 3) rfl rfl) rfl (lv_at hl 0 rfl) ?_
    refine lv_iload_n hx hb (dkP dF_27 DX12_old (i := 4) rfl rfl) rfl (lv_at hl 1 rfl) ?_
    refine zk_I hw (zr_V (As := [.int (nI k_p)]) (rest := []) C0 (c_X12_stateOf l G kc ad sM0 k_p (by first | omega | assumption | decide | rfl) _) cv_X12_stateOf lk_X12_275 (zp_V C0 hw 0 rfl rfl rfl) rfl hl.1 rfl ⟨by decide, by decide⟩ (Nat.le_of_ble_eq_true rfl) (dk2 dF_182 DX12_old (i := 5) rfl rfl rfl) ⟨Nat.le_refl _, Nat.le_refl _⟩) (fun r2 s2 H locs hp hw => ?_)
    obtain ⟨rfl, hs2⟩ := hp
    subst hs2
    refine z_top (y := 0) (w0_p k_p 0 (by omega) (by decide)) ?_
    refine lv_if_eq (tgt := 18) hx hb (dkS dF_153 DX12_old (i := 6) rfl rfl rfl) (by decide) (fun _ => ?_) (fun h => absurd h (by decide))
    refine lv_aload_n hx hb (dkP dF_42 DX12_old (i := 9) rfl rfl) rfl (lv_at hl 0 rfl) ?_
    refine zk_V hw (zr_V (As := []) (rest := []) C0 (c_X12_begins l G kc ad  _) cv_X12_begins lk_X12_278 (zp_V C0 hw 0 rfl rfl rfl) rfl hl.1 rfl ⟨by decide, by decide⟩ (Nat.le_of_ble_eq_true rfl) (dk2 dF_182 DX12_old (i := 10) rfl rfl rfl) ⟨Nat.le_refl _, Nat.le_refl _⟩) (fun s3 H locs hp hw => ?_)
    subst hp
    refine lv_iconst (v := 0) hx hb (dkP dF_3 DX12_old (i := 11) rfl rfl) (by decide) ?_
    refine lv_istore_n (lv' := [(2, .int 0), (0, .ref (ad 0)), (1, .int (nI k_p))]) hx hb (dkP dF_61 DX12_old (i := 12) rfl rfl) rfl hl (by decide) rfl (fun ls hl => ?_)
    refine lv_aload_n hx hb (dkP dF_42 DX12_old (i := 13) rfl rfl) rfl (lv_at hl 1 rfl) ?_
    refine zk_I hw (zr_V (As := []) (rest := []) C0 (c_X12_good l G kc ad (sI (sI (sI (sI (sI (sI (sI sM0 0 7 0) 0 5 0) 0 8 0) 0 12 0) 0 13 (-1)) 0 9 0) 0 10 0)  _) cv_X12_good lk_X12_190 (zp_V C0 hw 0 rfl rfl rfl) rfl hl.1 rfl ⟨by decide, by decide⟩ (Nat.le_of_ble_eq_true rfl) (dk2 dF_182 DX12_old (i := 14) rfl rfl rfl) ⟨Nat.le_refl _, Nat.le_refl _⟩) (fun r4 s4 H locs hp hw => ?_)
    obtain ⟨hq4, hs4⟩ := hp
    subst hs4
    rcases hq4 with ⟨rfl, hc4⟩ | ⟨rfl, hc4⟩
    · skip
      refine lv_if_eq (tgt := 49) hx hb (dkS dF_153 DX12_old (i := 15) rfl rfl rfl) (by decide) (fun h => absurd h (by decide)) (fun _ => ?_)
      refine lv_aload_n hx hb (dkP dF_42 DX12_old (i := 16) rfl rfl) rfl (lv_at hl 1 rfl) ?_
      refine z_gi C0 hw 0 10 rfl fl_X12_162 (dk2 dF_180 DX12_old (i := 17) rfl rfl rfl) ?_
      refine z_top (y := 0) (by simp [sI, u2]) ?_
      refine lv_if_eq (tgt := 49) hx hb (dkS dF_153 DX12_old (i := 18) rfl rfl rfl) (by decide) (fun _ => ?_) (fun h => absurd h (by decide))
      refine lv_aload_n hx hb (dkP dF_42 DX12_old (i := 24) rfl rfl) rfl (lv_at hl 1 rfl) ?_
      refine zk_I hw (zr_V (As := []) (rest := []) C0 (c_X12_good l G kc ad (sI (sI (sI (sI (sI (sI (sI sM0 0 7 0) 0 5 0) 0 8 0) 0 12 0) 0 13 (-1)) 0 9 0) 0 10 0)  _) cv_X12_good lk_X12_190 (zp_V C0 hw 0 rfl rfl rfl) rfl hl.1 rfl ⟨by decide, by decide⟩ (Nat.le_of_ble_eq_true rfl) (dk2 dF_182 DX12_old (i := 25) rfl rfl rfl) ⟨Nat.le_refl _, Nat.le_refl _⟩) (fun r5 s5 H locs hp hw => ?_)
      obtain ⟨hq5, hs5⟩ := hp
      subst hs5
      rcases hq5 with ⟨rfl, hc5⟩ | ⟨rfl, hc5⟩
      · skip
        refine lv_if_ne (tgt := 59) hx hb (dkS dF_154 DX12_old (i := 26) rfl rfl rfl) (by decide) (fun _ => ?_) (fun h => absurd h (by decide))
        refine lv_aload_n hx hb (dkP dF_42 DX12_old (i := 29) rfl rfl) rfl (lv_at hl 1 rfl) ?_
        refine z_gr C0 hw 0 1 1 rfl fl_X12_20 (dk2 dF_180 DX12_old (i := 30) rfl rfl rfl) ?_
        refine lv_iload_n hx hb (dkP dF_27 DX12_old (i := 31) rfl rfl) rfl (lv_at hl 2 rfl) ?_
        refine zn_I hw (zr_S (As := [.int (nI k_p)]) (rest := [.ref (ad 1)]) C0 (c_X12_of l G kc k_p  _) cs_X12_of lk_X12_139 (zp_P C0 a00 s00) rfl hl.1 rfl ⟨by decide, by decide⟩ (Nat.le_of_ble_eq_true rfl) (dk2 dF_184 DX12_old (i := 32) rfl rfl rfl) ⟨Nat.le_refl _, Nat.le_refl _⟩) (fun r6 s6 H locs hp hw => ?_)
        subst hp
        refine lv_iconst (v := 1) hx hb (dkP dF_4 DX12_old (i := 33) rfl rfl) (by decide) ?_
        refine lv_iadd hx hb (dkP dF_96 DX12_old (i := 34) rfl rfl) ?_
        refine z_top (y := nI ((8 + 20 * k_p) + 1)) (by simp only [fa_lit, nI_add, pk_mul]) ?_
        refine lv_iload_n hx hb (dkP dF_28 DX12_old (i := 35) rfl rfl) rfl (lv_at hl 0 rfl) ?_
        refine z_iastN (n := 414128) C0 hw 1 ((8 + 20 * k_p) + 1) rfl (by omega) (by decide) (dkP dF_79 DX12_old (i := 36) rfl rfl) (fun H locs hw => ?_)
        refine lv_aload_n hx hb (dkP dF_42 DX12_old (i := 37) rfl rfl) rfl (lv_at hl 1 rfl) ?_
        refine z_gr C0 hw 0 15 7 rfl fl_X12_45 (dk2 dF_180 DX12_old (i := 38) rfl rfl rfl) ?_
        refine lv_iconst (v := 0) hx hb (dkP dF_3 DX12_old (i := 39) rfl rfl) (by decide) ?_
        refine lv_aload_n hx hb (dkP dF_42 DX12_old (i := 40) rfl rfl) rfl (lv_at hl 1 rfl) ?_
        refine z_gr C0 hw 0 1 1 rfl fl_X12_20 (dk2 dF_180 DX12_old (i := 41) rfl rfl rfl) ?_
        refine lv_iload_n hx hb (dkP dF_27 DX12_old (i := 42) rfl rfl) rfl (lv_at hl 2 rfl) ?_
        refine lv_iconst (v := 0) hx hb (dkP dF_3 DX12_old (i := 43) rfl rfl) (by decide) ?_
        refine zn_I hw (zr_S (As := [.int (nI k_p), .int 0]) (rest := [.ref (ad 1), .int 0, .ref (ad 7)]) C0 (c_X12_lineAt l G kc k_p  _) cs_X12_lineAt lk_X12_284 (zp_P C0 a00 s00) rfl hl.1 rfl ⟨by decide, by decide⟩ (Nat.le_of_ble_eq_true rfl) (dk2 dF_184 DX12_old (i := 44) rfl rfl rfl) ⟨Nat.le_refl _, Nat.le_refl _⟩) (fun r7 s7 H locs hp hw => ?_)
        subst hp
        refine lv_bipush (v := 16) hx hb (dks dF_16 DX12_old (i := 45) rfl rfl rfl) (by decide) ?_
        refine lv_iload_n hx hb (dkP dF_28 DX12_old (i := 46) rfl rfl) rfl (lv_at hl 0 rfl) ?_
        refine lv_imul hx hb (dkP dF_104 DX12_old (i := 47) rfl rfl) ?_
        refine z_top (y := 0) (by decide) ?_
        refine zk_V hw (zr_S (As := [.ref (ad 7), .int 0, .ref (ad 1), .int (nI (168 + 16 * (24 * k_p + 0))), .int 0]) (rest := []) C0 (c_X12_lays l G kc ad (sI (sI (sI (sI (sI (sI (sI (sI sM0 0 7 0) 0 5 0) 0 8 0) 0 12 0) 0 13 (-1)) 0 9 0) 0 10 0) 1 ((8 + 20 * k_p) + 1) 0) 7 0 1 (nI (168 + 16 * (24 * k_p + 0)))  _) cs_X12_lays lk_X12_255 (zp_S C0 hw) rfl hl.1 rfl ⟨by decide, by decide⟩ (Nat.le_of_ble_eq_true rfl) (dk2 dF_184 DX12_old (i := 48) rfl rfl rfl) ⟨Nat.le_refl _, Nat.le_refl _⟩) (fun s8 H locs hp hw => ?_)
        subst hp
        refine lv_aload_n hx hb (dkP dF_42 DX12_old (i := 49) rfl rfl) rfl (lv_at hl 1 rfl) ?_
        refine z_gr C0 hw 0 1 1 rfl fl_X12_20 (dk2 dF_180 DX12_old (i := 50) rfl rfl rfl) ?_
        refine lv_iload_n hx hb (dkP dF_27 DX12_old (i := 51) rfl rfl) rfl (lv_at hl 2 rfl) ?_
        refine zn_I hw (zr_S (As := [.int (nI k_p)]) (rest := [.ref (ad 1)]) C0 (c_X12_of l G kc k_p  _) cs_X12_of lk_X12_139 (zp_P C0 a00 s00) rfl hl.1 rfl ⟨by decide, by decide⟩ (Nat.le_of_ble_eq_true rfl) (dk2 dF_184 DX12_old (i := 52) rfl rfl rfl) ⟨Nat.le_refl _, Nat.le_refl _⟩) (fun r9 s9 H locs hp hw => ?_)
        subst hp
        refine lv_iconst (v := 3) hx hb (dkP dF_6 DX12_old (i := 53) rfl rfl) (by decide) ?_
        refine lv_iadd hx hb (dkP dF_96 DX12_old (i := 54) rfl rfl) ?_
        refine z_top (y := nI ((8 + 20 * k_p) + 3)) (by simp only [fa_lit, nI_add, pk_mul]) ?_
        refine lv_iconst (v := (-1)) hx hb (dkP dF_2 DX12_old (i := 55) rfl rfl) (by decide) ?_
        refine z_iastN (n := 414128) C0 hw 1 ((8 + 20 * k_p) + 3) rfl (by omega) (by decide) (dkP dF_79 DX12_old (i := 56) rfl rfl) (fun H locs hw => ?_)
        refine lv_iload_n hx hb (dkP dF_28 DX12_old (i := 57) rfl rfl) rfl (lv_at hl 0 rfl) ?_
        exact z_iret C0 hr hlk hw (by first | rfl | ((try simp only [lg_cmp_lt, lg_cmp_le, lg_cmp_gt, lg_cmp_ge, lg_cmp_eq] at hc1); (try simp (disch := omega) only [ta_lt, ta_le, ta_eq, tb_lt, tb_le, tb_eq, tw, tnI, tn32 1 (by decide), tnj 1 (by decide), tl32 0 (by decide), tl64 0 (by decide), tl32 1 (by decide), tl64 1 (by decide), tl32 3 (by decide), tl64 3 (by decide), tl32 16 (by decide), tl64 16 (by decide)] at hc1); (try simp only [lg_cmp_lt, lg_cmp_le, lg_cmp_gt, lg_cmp_ge, lg_cmp_eq] at hk_p); (try simp (disch := omega) only [ta_lt, ta_le, ta_eq, tb_lt, tb_le, tb_eq, tw, tnI, tn32 1 (by decide), tnj 1 (by decide), tl32 0 (by decide), tl64 0 (by decide), tl32 1 (by decide), tl64 1 (by decide), tl32 3 (by decide), tl64 3 (by decide), tl32 16 (by decide), tl64 16 (by decide)] at hk_p); (try simp only [lg_cmp_lt, lg_cmp_le, lg_cmp_gt, lg_cmp_ge, lg_cmp_eq] at hc4); (try simp (disch := omega) only [ta_lt, ta_le, ta_eq, tb_lt, tb_le, tb_eq, tw, tnI, tn32 1 (by decide), tnj 1 (by decide), tl32 0 (by decide), tl64 0 (by decide), tl32 1 (by decide), tl64 1 (by decide), tl32 3 (by decide), tl64 3 (by decide), tl32 16 (by decide), tl64 16 (by decide)] at hc4); (try simp only [lg_cmp_lt, lg_cmp_le, lg_cmp_gt, lg_cmp_ge, lg_cmp_eq] at hc5); (try simp (disch := omega) only [ta_lt, ta_le, ta_eq, tb_lt, tb_le, tb_eq, tw, tnI, tn32 1 (by decide), tnj 1 (by decide), tl32 0 (by decide), tl64 0 (by decide), tl32 1 (by decide), tl64 1 (by decide), tl32 3 (by decide), tl64 3 (by decide), tl32 16 (by decide), tl64 16 (by decide)] at hc5); (try simp (disch := omega) only [tnI, tn32 1 (by decide), tnj 1 (by decide), tl32 0 (by decide), tl64 0 (by decide), tl32 1 (by decide), tl64 1 (by decide), tl32 3 (by decide), tl64 3 (by decide), tl32 16 (by decide), tl64 16 (by decide)]); (repeat' split) <;> first | rfl | omega | (apply Int32.toInt_inj.mp; simp (disch := omega) only [tnI, tn32 1 (by decide), tnj 1 (by decide), tl32 0 (by decide), tl64 0 (by decide), tl32 1 (by decide), tl64 1 (by decide), tl32 3 (by decide), tl64 3 (by decide), tl32 16 (by decide), tl64 16 (by decide)]; omega))) (dkP dF_172 DX12_old (i := 58) rfl rfl)
      · exact absurd (by simp [sI, u2]) hc5
    · exact absurd (by simp [sI, u2]) hc4
  · skip
    refine lv_if_eq (tgt := 15) hx hb (dkS dF_153 DX12_old (i := 2) rfl rfl rfl) (by decide) (fun _ => ?_) (fun h => absurd h (by decide))
    refine lv_bipush (v := (-2)) hx hb (dks dF_16 DX12_old (i := 7) rfl rfl rfl) (by decide) ?_
    exact z_iret C0 hr hlk hw (by first | rfl | ((try simp only [lg_cmp_lt, lg_cmp_le, lg_cmp_gt, lg_cmp_ge, lg_cmp_eq] at hc1); (try simp (disch := omega) only [ta_lt, ta_le, ta_eq, tb_lt, tb_le, tb_eq, tw, tnI, tn32 2 (by decide), tnj 2 (by decide), tn32 1 (by decide), tnj 1 (by decide), tl32 0 (by decide), tl64 0 (by decide), tl32 1 (by decide), tl64 1 (by decide), tl32 3 (by decide), tl64 3 (by decide), tl32 16 (by decide), tl64 16 (by decide)] at hc1); (try simp (disch := omega) only [tnI, tn32 2 (by decide), tnj 2 (by decide), tn32 1 (by decide), tnj 1 (by decide), tl32 0 (by decide), tl64 0 (by decide), tl32 1 (by decide), tl64 1 (by decide), tl32 3 (by decide), tl64 3 (by decide), tl32 16 (by decide), tl64 16 (by decide)]); (repeat' split) <;> first | rfl | omega | (apply Int32.toInt_inj.mp; simp (disch := omega) only [tnI, tn32 2 (by decide), tnj 2 (by decide), tn32 1 (by decide), tnj 1 (by decide), tl32 0 (by decide), tl64 0 (by decide), tl32 1 (by decide), tl64 1 (by decide), tl32 3 (by decide), tl64 3 (by decide), tl32 16 (by decide), tl64 16 (by decide)]; omega))) (dkP dF_172 DX12_old (i := 8) rfl rfl)
set_option maxRecDepth 100000 in
set_option maxHeartbeats 4000000 in
theorem c_X12_renew (l : Launch) (G : va_G) (kc : Nat → ClassId) (ad : Nat → Nat)  (p : Int32)  : MI l G kc yX12_renew cX12_renew 4 (some .int) 3 62 [.ref (ad 0), .int p] shM ad sM0 (fun r σ1 => r = if 0 ≤ p.toInt ∧ p.toInt ≤ 7 then 0 else -2) := by
  intro sz
  refine z_body (y := yX12_renew) (n := 4) (av := [.ref (ad 0), .int p]) (Qc := fun A => va_Qi (fun r σ1 => r = if 0 ≤ p.toInt ∧ p.toInt ≤ 7 then 0 else -2) (PoC G kc shM ad A) A) (plainFor_of_name (by decide)) (Nat.le_of_ble_eq_true rfl) (fun pr e s m below meth c A C0 hr hlk hnm hw ls hl => ?_) sz
  have hx := C0.1
  have hb := C0.2.1
  have hown := C0.2.2.2.1
  have hts := C0.2.2.2.2.1
  have hl : lv_has ls 4 [(0, .ref (ad 0)), (1, .int p)] := hl
  refine lv_iload_n hx hb (dkP dF_27 DX12_renew (i := 0) rfl rfl) rfl (lv_at hl 1 rfl) ?_
  refine zn_I hw (zr_S (As := [.int p]) (rest := []) C0 (c_X12_isProgram l G kc p  _) cs_X12_isProgram lk_X12_272 (zp_P C0 a00 s00) rfl hl.1 rfl ⟨by decide, by decide⟩ (Nat.le_of_ble_eq_true rfl) (dk2 dF_184 DX12_renew (i := 1) rfl rfl rfl) ⟨Nat.le_refl _, Nat.le_refl _⟩) (fun r1 s1 H locs hp hw => ?_)
  rcases hp with ⟨rfl, hc1⟩ | ⟨rfl, hc1⟩
  · skip
    obtain ⟨k_p, hk_p, rfl⟩ := to_nat (x := p) (n := 8) (by (try simp only [lg_cmp_lt, lg_cmp_le, lg_cmp_gt, lg_cmp_ge, lg_cmp_eq] at hc1); (try simp (disch := omega) only [ta_lt, ta_le, ta_eq, tb_lt, tb_le, tb_eq, tw, tnI, tn32 1 (by decide), tnj 1 (by decide), tl32 0 (by decide), tl64 0 (by decide)] at hc1); (try simp (disch := omega) only [ta_lt, ta_le, ta_eq, tb_lt, tb_le, tb_eq, tw, tnI, tn32 1 (by decide), tnj 1 (by decide), tl32 0 (by decide), tl64 0 (by decide)]); omega)
    refine lv_if_eq (tgt := 16) hx hb (dkS dF_153 DX12_renew (i := 2) rfl rfl rfl) (by decide) (fun h => absurd h (by decide)) (fun _ => ?_)
    refine lv_aload_n hx hb (dkP dF_42 DX12_renew (i := 3) rfl rfl) rfl (lv_at hl 0 rfl) ?_
    refine lv_iload_n hx hb (dkP dF_27 DX12_renew (i := 4) rfl rfl) rfl (lv_at hl 1 rfl) ?_
    refine zk_I hw (zr_V (As := [.int (nI k_p)]) (rest := []) C0 (c_X12_stateOf l G kc ad sM0 k_p (by first | omega | assumption | decide | rfl) _) cv_X12_stateOf lk_X12_275 (zp_V C0 hw 0 rfl rfl rfl) rfl hl.1 rfl ⟨by decide, by decide⟩ (Nat.le_of_ble_eq_true rfl) (dk2 dF_182 DX12_renew (i := 5) rfl rfl rfl) ⟨Nat.le_refl _, Nat.le_refl _⟩) (fun r2 s2 H locs hp hw => ?_)
    obtain ⟨rfl, hs2⟩ := hp
    subst hs2
    refine z_top (y := 0) (w0_p k_p 0 (by omega) (by decide)) ?_
    refine lv_iconst (v := 1) hx hb (dkP dF_4 DX12_renew (i := 6) rfl rfl) (by decide) ?_
    refine lv_icmp_le (tgt := 19) hx hb (dkS dF_164 DX12_renew (i := 7) rfl rfl rfl) (by decide) (fun _ => ?_) (fun h => absurd h (by decide))
    refine lv_aload_n hx hb (dkP dF_42 DX12_renew (i := 10) rfl rfl) rfl (lv_at hl 0 rfl) ?_
    refine zk_V hw (zr_V (As := []) (rest := []) C0 (c_X12_begins l G kc ad  _) cv_X12_begins lk_X12_278 (zp_V C0 hw 0 rfl rfl rfl) rfl hl.1 rfl ⟨by decide, by decide⟩ (Nat.le_of_ble_eq_true rfl) (dk2 dF_182 DX12_renew (i := 11) rfl rfl rfl) ⟨Nat.le_refl _, Nat.le_refl _⟩) (fun s3 H locs hp hw => ?_)
    subst hp
    refine lv_aload_n hx hb (dkP dF_42 DX12_renew (i := 12) rfl rfl) rfl (lv_at hl 0 rfl) ?_
    refine lv_iconst (v := 0) hx hb (dkP dF_3 DX12_renew (i := 13) rfl rfl) (by decide) ?_
    refine z_pz C0 hw 0 19 (by decide) rfl fp_X12_295 (dk2 dF_181 DX12_renew (i := 14) rfl rfl rfl) (fun H locs hw => ?_)
    refine lv_iconst (v := 0) hx hb (dkP dF_3 DX12_renew (i := 15) rfl rfl) (by decide) ?_
    refine lv_istore_n (lv' := [(2, .int 0), (0, .ref (ad 0)), (1, .int (nI k_p))]) hx hb (dkP dF_61 DX12_renew (i := 16) rfl rfl) rfl hl (by decide) rfl (fun ls hl => ?_)
    refine lv_aload_n hx hb (dkP dF_42 DX12_renew (i := 17) rfl rfl) rfl (lv_at hl 1 rfl) ?_
    refine zk_I hw (zr_V (As := []) (rest := []) C0 (c_X12_good l G kc ad (sI (sI (sI (sI (sI (sI (sI (sI sM0 0 7 0) 0 5 0) 0 8 0) 0 12 0) 0 13 (-1)) 0 9 0) 0 10 0) 0 19 0)  _) cv_X12_good lk_X12_190 (zp_V C0 hw 0 rfl rfl rfl) rfl hl.1 rfl ⟨by decide, by decide⟩ (Nat.le_of_ble_eq_true rfl) (dk2 dF_182 DX12_renew (i := 18) rfl rfl rfl) ⟨Nat.le_refl _, Nat.le_refl _⟩) (fun r4 s4 H locs hp hw => ?_)
    obtain ⟨hq4, hs4⟩ := hp
    subst hs4
    rcases hq4 with ⟨rfl, hc4⟩ | ⟨rfl, hc4⟩
    · skip
      refine lv_if_eq (tgt := 55) hx hb (dkS dF_153 DX12_renew (i := 19) rfl rfl rfl) (by decide) (fun h => absurd h (by decide)) (fun _ => ?_)
      refine lv_aload_n hx hb (dkP dF_42 DX12_renew (i := 20) rfl rfl) rfl (lv_at hl 1 rfl) ?_
      refine z_gi C0 hw 0 10 rfl fl_X12_162 (dk2 dF_180 DX12_renew (i := 21) rfl rfl rfl) ?_
      refine z_top (y := 0) (by simp [sI, u2]) ?_
      refine lv_if_eq (tgt := 55) hx hb (dkS dF_153 DX12_renew (i := 22) rfl rfl rfl) (by decide) (fun _ => ?_) (fun h => absurd h (by decide))
      refine lv_aload_n hx hb (dkP dF_42 DX12_renew (i := 28) rfl rfl) rfl (lv_at hl 1 rfl) ?_
      refine zk_I hw (zr_V (As := []) (rest := []) C0 (c_X12_good l G kc ad (sI (sI (sI (sI (sI (sI (sI (sI sM0 0 7 0) 0 5 0) 0 8 0) 0 12 0) 0 13 (-1)) 0 9 0) 0 10 0) 0 19 0)  _) cv_X12_good lk_X12_190 (zp_V C0 hw 0 rfl rfl rfl) rfl hl.1 rfl ⟨by decide, by decide⟩ (Nat.le_of_ble_eq_true rfl) (dk2 dF_182 DX12_renew (i := 29) rfl rfl rfl) ⟨Nat.le_refl _, Nat.le_refl _⟩) (fun r5 s5 H locs hp hw => ?_)
      obtain ⟨hq5, hs5⟩ := hp
      subst hs5
      rcases hq5 with ⟨rfl, hc5⟩ | ⟨rfl, hc5⟩
      · skip
        refine lv_if_ne (tgt := 65) hx hb (dkS dF_154 DX12_renew (i := 30) rfl rfl rfl) (by decide) (fun _ => ?_) (fun h => absurd h (by decide))
        refine lv_iconst (v := 0) hx hb (dkP dF_3 DX12_renew (i := 33) rfl rfl) (by decide) ?_
        refine lv_istore_n (lv' := [(3, .int 0), (2, .int 0), (0, .ref (ad 0)), (1, .int (nI k_p))]) hx hb (dkP dF_62 DX12_renew (i := 34) rfl rfl) rfl hl (by decide) rfl (fun ls hl => ?_)
        refine lv_iload_n hx hb (dkP dF_29 DX12_renew (i := 35) rfl rfl) rfl (lv_at hl 0 rfl) ?_
        refine lv_iload_n hx hb (dkP dF_28 DX12_renew (i := 36) rfl rfl) rfl (lv_at hl 1 rfl) ?_
        refine lv_icmp_ge (tgt := 164) hx hb (dkS dF_162 DX12_renew (i := 37) rfl rfl rfl) (by decide) (fun _ => ?_) (fun h => absurd h (by decide))
        refine lv_aload_n hx hb (dkP dF_42 DX12_renew (i := 94) rfl rfl) rfl (lv_at hl 2 rfl) ?_
        refine lv_iload_n hx hb (dkP dF_27 DX12_renew (i := 95) rfl rfl) rfl (lv_at hl 3 rfl) ?_
        refine lv_iload_n hx hb (dkP dF_28 DX12_renew (i := 96) rfl rfl) rfl (lv_at hl 1 rfl) ?_
        refine zk_V hw (zr_V (As := [.int (nI k_p), .int 0]) (rest := []) C0 (c_X12_begun l G kc ad (sI (sI (sI (sI (sI (sI (sI (sI sM0 0 7 0) 0 5 0) 0 8 0) 0 12 0) 0 13 (-1)) 0 9 0) 0 10 0) 0 19 0) k_p 0 (by first | omega | assumption | decide | rfl) _) cv_X12_begun lk_X12_320 (zp_V C0 hw 0 rfl rfl rfl) rfl hl.1 rfl ⟨by decide, by decide⟩ (Nat.le_of_ble_eq_true rfl) (dk2 dF_182 DX12_renew (i := 97) rfl rfl rfl) ⟨Nat.le_refl _, Nat.le_refl _⟩) (fun s6 H locs hp hw => ?_)
        refine lv_iload_n hx hb (dkP dF_28 DX12_renew (i := 98) rfl rfl) rfl (lv_at hl 1 rfl) ?_
        exact z_iret C0 hr hlk hw (by first | rfl | ((try simp only [lg_cmp_lt, lg_cmp_le, lg_cmp_gt, lg_cmp_ge, lg_cmp_eq] at hc1); (try simp (disch := omega) only [ta_lt, ta_le, ta_eq, tb_lt, tb_le, tb_eq, tw, tnI, tn32 1 (by decide), tnj 1 (by decide), tl32 0 (by decide), tl64 0 (by decide), tl32 1 (by decide), tl64 1 (by decide)] at hc1); (try simp only [lg_cmp_lt, lg_cmp_le, lg_cmp_gt, lg_cmp_ge, lg_cmp_eq] at hk_p); (try simp (disch := omega) only [ta_lt, ta_le, ta_eq, tb_lt, tb_le, tb_eq, tw, tnI, tn32 1 (by decide), tnj 1 (by decide), tl32 0 (by decide), tl64 0 (by decide), tl32 1 (by decide), tl64 1 (by decide)] at hk_p); (try simp only [lg_cmp_lt, lg_cmp_le, lg_cmp_gt, lg_cmp_ge, lg_cmp_eq] at hc4); (try simp (disch := omega) only [ta_lt, ta_le, ta_eq, tb_lt, tb_le, tb_eq, tw, tnI, tn32 1 (by decide), tnj 1 (by decide), tl32 0 (by decide), tl64 0 (by decide), tl32 1 (by decide), tl64 1 (by decide)] at hc4); (try simp only [lg_cmp_lt, lg_cmp_le, lg_cmp_gt, lg_cmp_ge, lg_cmp_eq] at hc5); (try simp (disch := omega) only [ta_lt, ta_le, ta_eq, tb_lt, tb_le, tb_eq, tw, tnI, tn32 1 (by decide), tnj 1 (by decide), tl32 0 (by decide), tl64 0 (by decide), tl32 1 (by decide), tl64 1 (by decide)] at hc5); (try simp (disch := omega) only [tnI, tn32 1 (by decide), tnj 1 (by decide), tl32 0 (by decide), tl64 0 (by decide), tl32 1 (by decide), tl64 1 (by decide)]); (repeat' split) <;> first | rfl | omega | (apply Int32.toInt_inj.mp; simp (disch := omega) only [tnI, tn32 1 (by decide), tnj 1 (by decide), tl32 0 (by decide), tl64 0 (by decide), tl32 1 (by decide), tl64 1 (by decide)]; omega))) (dkP dF_172 DX12_renew (i := 99) rfl rfl)
      · exact absurd (by simp [sI, u2]) hc5
    · exact absurd (by simp [sI, u2]) hc4
  · skip
    refine lv_if_eq (tgt := 16) hx hb (dkS dF_153 DX12_renew (i := 2) rfl rfl rfl) (by decide) (fun _ => ?_) (fun h => absurd h (by decide))
    refine lv_bipush (v := (-2)) hx hb (dks dF_16 DX12_renew (i := 8) rfl rfl rfl) (by decide) ?_
    exact z_iret C0 hr hlk hw (by first | rfl | ((try simp only [lg_cmp_lt, lg_cmp_le, lg_cmp_gt, lg_cmp_ge, lg_cmp_eq] at hc1); (try simp (disch := omega) only [ta_lt, ta_le, ta_eq, tb_lt, tb_le, tb_eq, tw, tnI, tn32 2 (by decide), tnj 2 (by decide), tn32 1 (by decide), tnj 1 (by decide), tl32 0 (by decide), tl64 0 (by decide), tl32 1 (by decide), tl64 1 (by decide)] at hc1); (try simp (disch := omega) only [tnI, tn32 2 (by decide), tnj 2 (by decide), tn32 1 (by decide), tnj 1 (by decide), tl32 0 (by decide), tl64 0 (by decide), tl32 1 (by decide), tl64 1 (by decide)]); (repeat' split) <;> first | rfl | omega | (apply Int32.toInt_inj.mp; simp (disch := omega) only [tnI, tn32 2 (by decide), tnj 2 (by decide), tn32 1 (by decide), tnj 1 (by decide), tl32 0 (by decide), tl64 0 (by decide), tl32 1 (by decide), tl64 1 (by decide)]; omega))) (dkP dF_172 DX12_renew (i := 9) rfl rfl)
set_option maxRecDepth 100000 in
set_option maxHeartbeats 4000000 in
theorem c_X12_write (l : Launch) (G : va_G) (kc : Nat → ClassId) (ad : Nat → Nat)  (sl : Int32) (i : Int32) (v : Int64)  : MI l G kc yX12_write cX12_write 5 (some .int) 2 45 [.ref (ad 0), .int sl, .int i, .long v] shM ad sM0 (fun r σ1 => r = if 0 ≤ sl.toInt ∧ sl.toInt ≤ 3 then -6 else -2) := by
  intro sz
  refine z_body (y := yX12_write) (n := 5) (av := [.ref (ad 0), .int sl, .int i, .long v]) (Qc := fun A => va_Qi (fun r σ1 => r = if 0 ≤ sl.toInt ∧ sl.toInt ≤ 3 then -6 else -2) (PoC G kc shM ad A) A) (plainFor_of_name (by decide)) (Nat.le_of_ble_eq_true rfl) (fun pr e s m below meth c A C0 hr hlk hnm hw ls hl => ?_) sz
  have hx := C0.1
  have hb := C0.2.1
  have hown := C0.2.2.2.1
  have hts := C0.2.2.2.2.1
  have hl : lv_has ls 5 [(0, .ref (ad 0)), (1, .int sl), (2, .int i), (3, .long v)] := hl
  refine lv_iload_n hx hb (dkP dF_27 DX12_write (i := 0) rfl rfl) rfl (lv_at hl 1 rfl) ?_
  refine zn_I hw (zr_S (As := [.int sl]) (rest := []) C0 (c_X12_isSlot l G kc sl  _) cs_X12_isSlot lk_X12_446 (zp_P C0 a00 s00) rfl hl.1 rfl ⟨by decide, by decide⟩ (Nat.le_of_ble_eq_true rfl) (dk2 dF_184 DX12_write (i := 1) rfl rfl rfl) ⟨Nat.le_refl _, Nat.le_refl _⟩) (fun r1 s1 H locs hp hw => ?_)
  rcases hp with ⟨rfl, hc1⟩ | ⟨rfl, hc1⟩
  · skip
    obtain ⟨k_sl, hk_sl, rfl⟩ := to_nat (x := sl) (n := 4) (by (try simp only [lg_cmp_lt, lg_cmp_le, lg_cmp_gt, lg_cmp_ge, lg_cmp_eq] at hc1); (try simp (disch := omega) only [ta_lt, ta_le, ta_eq, tb_lt, tb_le, tb_eq, tw, tnI, tn32 1 (by decide), tnj 1 (by decide), tl32 0 (by decide), tl64 0 (by decide)] at hc1); (try simp (disch := omega) only [ta_lt, ta_le, ta_eq, tb_lt, tb_le, tb_eq, tw, tnI, tn32 1 (by decide), tnj 1 (by decide), tl32 0 (by decide), tl64 0 (by decide)]); omega)
    refine lv_if_ne (tgt := 10) hx hb (dkS dF_154 DX12_write (i := 2) rfl rfl rfl) (by decide) (fun _ => ?_) (fun h => absurd h (by decide))
    refine lv_aload_n hx hb (dkP dF_42 DX12_write (i := 5) rfl rfl) rfl (lv_at hl 0 rfl) ?_
    refine z_gr C0 hw 0 50 33 rfl fl_X12_126 (dk2 dF_180 DX12_write (i := 6) rfl rfl rfl) ?_
    refine lv_iload_n hx hb (dkP dF_27 DX12_write (i := 7) rfl rfl) rfl (lv_at hl 1 rfl) ?_
    refine z_ialdN (n := 4) C0 hw 33 k_sl rfl (by omega) (by decide) (dkP dF_46 DX12_write (i := 8) rfl rfl) ?_
    refine z_top (y := (-1)) (mn0 _ (by omega)) ?_
    refine lv_iconst (v := (-1)) hx hb (dkP dF_2 DX12_write (i := 9) rfl rfl) (by decide) ?_
    refine lv_icmp_ne (tgt := 23) hx hb (dkS dF_160 DX12_write (i := 10) rfl rfl rfl) (by decide) (fun h => absurd h (by decide)) (fun _ => ?_)
    refine lv_bipush (v := (-6)) hx hb (dks dF_16 DX12_write (i := 11) rfl rfl rfl) (by decide) ?_
    exact z_iret C0 hr hlk hw (by first | rfl | ((try simp only [lg_cmp_lt, lg_cmp_le, lg_cmp_gt, lg_cmp_ge, lg_cmp_eq] at hc1); (try simp (disch := omega) only [ta_lt, ta_le, ta_eq, tb_lt, tb_le, tb_eq, tw, tnI, tn32 6 (by decide), tnj 6 (by decide), tn32 1 (by decide), tnj 1 (by decide), tl32 0 (by decide), tl64 0 (by decide)] at hc1); (try simp only [lg_cmp_lt, lg_cmp_le, lg_cmp_gt, lg_cmp_ge, lg_cmp_eq] at hk_sl); (try simp (disch := omega) only [ta_lt, ta_le, ta_eq, tb_lt, tb_le, tb_eq, tw, tnI, tn32 6 (by decide), tnj 6 (by decide), tn32 1 (by decide), tnj 1 (by decide), tl32 0 (by decide), tl64 0 (by decide)] at hk_sl); (try simp (disch := omega) only [tnI, tn32 6 (by decide), tnj 6 (by decide), tn32 1 (by decide), tnj 1 (by decide), tl32 0 (by decide), tl64 0 (by decide)]); (repeat' split) <;> first | rfl | omega | (apply Int32.toInt_inj.mp; simp (disch := omega) only [tnI, tn32 6 (by decide), tnj 6 (by decide), tn32 1 (by decide), tnj 1 (by decide), tl32 0 (by decide), tl64 0 (by decide)]; omega))) (dkP dF_172 DX12_write (i := 12) rfl rfl)
  · skip
    refine lv_if_ne (tgt := 10) hx hb (dkS dF_154 DX12_write (i := 2) rfl rfl rfl) (by decide) (fun h => absurd h (by decide)) (fun _ => ?_)
    refine lv_bipush (v := (-2)) hx hb (dks dF_16 DX12_write (i := 3) rfl rfl rfl) (by decide) ?_
    exact z_iret C0 hr hlk hw (by first | rfl | ((try simp only [lg_cmp_lt, lg_cmp_le, lg_cmp_gt, lg_cmp_ge, lg_cmp_eq] at hc1); (try simp (disch := omega) only [ta_lt, ta_le, ta_eq, tb_lt, tb_le, tb_eq, tw, tnI, tn32 6 (by decide), tnj 6 (by decide), tn32 2 (by decide), tnj 2 (by decide), tn32 1 (by decide), tnj 1 (by decide), tl32 0 (by decide), tl64 0 (by decide)] at hc1); (try simp (disch := omega) only [tnI, tn32 6 (by decide), tnj 6 (by decide), tn32 2 (by decide), tnj 2 (by decide), tn32 1 (by decide), tnj 1 (by decide), tl32 0 (by decide), tl64 0 (by decide)]); (repeat' split) <;> first | rfl | omega | (apply Int32.toInt_inj.mp; simp (disch := omega) only [tnI, tn32 6 (by decide), tnj 6 (by decide), tn32 2 (by decide), tnj 2 (by decide), tn32 1 (by decide), tnj 1 (by decide), tl32 0 (by decide), tl64 0 (by decide)]; omega))) (dkP dF_172 DX12_write (i := 4) rfl rfl)
set_option maxRecDepth 100000 in
set_option maxHeartbeats 4000000 in
theorem c_X12_paste (l : Launch) (G : va_G) (kc : Nat → ClassId) (ad : Nat → Nat)  (sl : Int32) (i : Int32) (to : Int32) (q : Int32) (n : Int32)  : MI l G kc yX12_paste cX12_paste 7 (some .int) 2 45 [.ref (ad 0), .int sl, .int i, .int to, .int q, .int n] shM ad sM0 (fun r σ1 => r = if 0 ≤ sl.toInt ∧ sl.toInt ≤ 3 ∧ 0 ≤ to.toInt ∧ to.toInt ≤ 3 then -6 else -2) := by
  intro sz
  refine z_body (y := yX12_paste) (n := 7) (av := [.ref (ad 0), .int sl, .int i, .int to, .int q, .int n]) (Qc := fun A => va_Qi (fun r σ1 => r = if 0 ≤ sl.toInt ∧ sl.toInt ≤ 3 ∧ 0 ≤ to.toInt ∧ to.toInt ≤ 3 then -6 else -2) (PoC G kc shM ad A) A) (plainFor_of_name (by decide)) (Nat.le_of_ble_eq_true rfl) (fun pr e s m below meth c A C0 hr hlk hnm hw ls hl => ?_) sz
  have hx := C0.1
  have hb := C0.2.1
  have hown := C0.2.2.2.1
  have hts := C0.2.2.2.2.1
  have hl : lv_has ls 7 [(0, .ref (ad 0)), (1, .int sl), (2, .int i), (3, .int to), (4, .int q), (5, .int n)] := hl
  refine lv_iload_n hx hb (dkP dF_27 DX12_paste (i := 0) rfl rfl) rfl (lv_at hl 1 rfl) ?_
  refine zn_I hw (zr_S (As := [.int sl]) (rest := []) C0 (c_X12_isSlot l G kc sl  _) cs_X12_isSlot lk_X12_446 (zp_P C0 a00 s00) rfl hl.1 rfl ⟨by decide, by decide⟩ (Nat.le_of_ble_eq_true rfl) (dk2 dF_184 DX12_paste (i := 1) rfl rfl rfl) ⟨Nat.le_refl _, Nat.le_refl _⟩) (fun r1 s1 H locs hp hw => ?_)
  rcases hp with ⟨rfl, hc1⟩ | ⟨rfl, hc1⟩
  · skip
    obtain ⟨k_sl, hk_sl, rfl⟩ := to_nat (x := sl) (n := 4) (by (try simp only [lg_cmp_lt, lg_cmp_le, lg_cmp_gt, lg_cmp_ge, lg_cmp_eq] at hc1); (try simp (disch := omega) only [ta_lt, ta_le, ta_eq, tb_lt, tb_le, tb_eq, tw, tnI, tn32 1 (by decide), tnj 1 (by decide), tl32 0 (by decide), tl64 0 (by decide)] at hc1); (try simp (disch := omega) only [ta_lt, ta_le, ta_eq, tb_lt, tb_le, tb_eq, tw, tnI, tn32 1 (by decide), tnj 1 (by decide), tl32 0 (by decide), tl64 0 (by decide)]); omega)
    refine lv_if_eq (tgt := 14) hx hb (dkS dF_153 DX12_paste (i := 2) rfl rfl rfl) (by decide) (fun h => absurd h (by decide)) (fun _ => ?_)
    refine lv_iload_n hx hb (dkP dF_29 DX12_paste (i := 3) rfl rfl) rfl (lv_at hl 3 rfl) ?_
    refine zn_I hw (zr_S (As := [.int to]) (rest := []) C0 (c_X12_isSlot l G kc to  _) cs_X12_isSlot lk_X12_446 (zp_P C0 a00 s00) rfl hl.1 rfl ⟨by decide, by decide⟩ (Nat.le_of_ble_eq_true rfl) (dk2 dF_184 DX12_paste (i := 4) rfl rfl rfl) ⟨Nat.le_refl _, Nat.le_refl _⟩) (fun r2 s2 H locs hp hw => ?_)
    rcases hp with ⟨rfl, hc2⟩ | ⟨rfl, hc2⟩
    · skip
      obtain ⟨k_to, hk_to, rfl⟩ := to_nat (x := to) (n := 4) (by (try simp only [lg_cmp_lt, lg_cmp_le, lg_cmp_gt, lg_cmp_ge, lg_cmp_eq] at hc1); (try simp (disch := omega) only [ta_lt, ta_le, ta_eq, tb_lt, tb_le, tb_eq, tw, tnI, tn32 1 (by decide), tnj 1 (by decide), tl32 0 (by decide), tl64 0 (by decide)] at hc1); (try simp only [lg_cmp_lt, lg_cmp_le, lg_cmp_gt, lg_cmp_ge, lg_cmp_eq] at hk_sl); (try simp (disch := omega) only [ta_lt, ta_le, ta_eq, tb_lt, tb_le, tb_eq, tw, tnI, tn32 1 (by decide), tnj 1 (by decide), tl32 0 (by decide), tl64 0 (by decide)] at hk_sl); (try simp only [lg_cmp_lt, lg_cmp_le, lg_cmp_gt, lg_cmp_ge, lg_cmp_eq] at hc2); (try simp (disch := omega) only [ta_lt, ta_le, ta_eq, tb_lt, tb_le, tb_eq, tw, tnI, tn32 1 (by decide), tnj 1 (by decide), tl32 0 (by decide), tl64 0 (by decide)] at hc2); (try simp (disch := omega) only [ta_lt, ta_le, ta_eq, tb_lt, tb_le, tb_eq, tw, tnI, tn32 1 (by decide), tnj 1 (by decide), tl32 0 (by decide), tl64 0 (by decide)]); omega)
      refine lv_if_ne (tgt := 17) hx hb (dkS dF_154 DX12_paste (i := 5) rfl rfl rfl) (by decide) (fun _ => ?_) (fun h => absurd h (by decide))
      refine lv_aload_n hx hb (dkP dF_42 DX12_paste (i := 8) rfl rfl) rfl (lv_at hl 0 rfl) ?_
      refine z_gr C0 hw 0 50 33 rfl fl_X12_126 (dk2 dF_180 DX12_paste (i := 9) rfl rfl rfl) ?_
      refine lv_iload_n hx hb (dkP dF_27 DX12_paste (i := 10) rfl rfl) rfl (lv_at hl 1 rfl) ?_
      refine z_ialdN (n := 4) C0 hw 33 k_sl rfl (by omega) (by decide) (dkP dF_46 DX12_paste (i := 11) rfl rfl) ?_
      refine z_top (y := (-1)) (mn0 _ (by omega)) ?_
      refine lv_iconst (v := (-1)) hx hb (dkP dF_2 DX12_paste (i := 12) rfl rfl) (by decide) ?_
      refine lv_icmp_eq (tgt := 37) hx hb (dkS dF_159 DX12_paste (i := 13) rfl rfl rfl) (by decide) (fun _ => ?_) (fun h => absurd h (by decide))
      refine lv_bipush (v := (-6)) hx hb (dks dF_16 DX12_paste (i := 20) rfl rfl rfl) (by decide) ?_
      exact z_iret C0 hr hlk hw (by first | rfl | ((try simp only [lg_cmp_lt, lg_cmp_le, lg_cmp_gt, lg_cmp_ge, lg_cmp_eq] at hc1); (try simp (disch := omega) only [ta_lt, ta_le, ta_eq, tb_lt, tb_le, tb_eq, tw, tnI, tn32 6 (by decide), tnj 6 (by decide), tn32 1 (by decide), tnj 1 (by decide), tl32 0 (by decide), tl64 0 (by decide)] at hc1); (try simp only [lg_cmp_lt, lg_cmp_le, lg_cmp_gt, lg_cmp_ge, lg_cmp_eq] at hk_sl); (try simp (disch := omega) only [ta_lt, ta_le, ta_eq, tb_lt, tb_le, tb_eq, tw, tnI, tn32 6 (by decide), tnj 6 (by decide), tn32 1 (by decide), tnj 1 (by decide), tl32 0 (by decide), tl64 0 (by decide)] at hk_sl); (try simp only [lg_cmp_lt, lg_cmp_le, lg_cmp_gt, lg_cmp_ge, lg_cmp_eq] at hc2); (try simp (disch := omega) only [ta_lt, ta_le, ta_eq, tb_lt, tb_le, tb_eq, tw, tnI, tn32 6 (by decide), tnj 6 (by decide), tn32 1 (by decide), tnj 1 (by decide), tl32 0 (by decide), tl64 0 (by decide)] at hc2); (try simp only [lg_cmp_lt, lg_cmp_le, lg_cmp_gt, lg_cmp_ge, lg_cmp_eq] at hk_to); (try simp (disch := omega) only [ta_lt, ta_le, ta_eq, tb_lt, tb_le, tb_eq, tw, tnI, tn32 6 (by decide), tnj 6 (by decide), tn32 1 (by decide), tnj 1 (by decide), tl32 0 (by decide), tl64 0 (by decide)] at hk_to); (try simp (disch := omega) only [tnI, tn32 6 (by decide), tnj 6 (by decide), tn32 1 (by decide), tnj 1 (by decide), tl32 0 (by decide), tl64 0 (by decide)]); (repeat' split) <;> first | rfl | omega | (apply Int32.toInt_inj.mp; simp (disch := omega) only [tnI, tn32 6 (by decide), tnj 6 (by decide), tn32 1 (by decide), tnj 1 (by decide), tl32 0 (by decide), tl64 0 (by decide)]; omega))) (dkP dF_172 DX12_paste (i := 21) rfl rfl)
    · skip
      refine lv_if_ne (tgt := 17) hx hb (dkS dF_154 DX12_paste (i := 5) rfl rfl rfl) (by decide) (fun h => absurd h (by decide)) (fun _ => ?_)
      refine lv_bipush (v := (-2)) hx hb (dks dF_16 DX12_paste (i := 6) rfl rfl rfl) (by decide) ?_
      exact z_iret C0 hr hlk hw (by first | rfl | ((try simp only [lg_cmp_lt, lg_cmp_le, lg_cmp_gt, lg_cmp_ge, lg_cmp_eq] at hc1); (try simp (disch := omega) only [ta_lt, ta_le, ta_eq, tb_lt, tb_le, tb_eq, tw, tnI, tn32 6 (by decide), tnj 6 (by decide), tn32 2 (by decide), tnj 2 (by decide), tn32 1 (by decide), tnj 1 (by decide), tl32 0 (by decide), tl64 0 (by decide)] at hc1); (try simp only [lg_cmp_lt, lg_cmp_le, lg_cmp_gt, lg_cmp_ge, lg_cmp_eq] at hk_sl); (try simp (disch := omega) only [ta_lt, ta_le, ta_eq, tb_lt, tb_le, tb_eq, tw, tnI, tn32 6 (by decide), tnj 6 (by decide), tn32 2 (by decide), tnj 2 (by decide), tn32 1 (by decide), tnj 1 (by decide), tl32 0 (by decide), tl64 0 (by decide)] at hk_sl); (try simp only [lg_cmp_lt, lg_cmp_le, lg_cmp_gt, lg_cmp_ge, lg_cmp_eq] at hc2); (try simp (disch := omega) only [ta_lt, ta_le, ta_eq, tb_lt, tb_le, tb_eq, tw, tnI, tn32 6 (by decide), tnj 6 (by decide), tn32 2 (by decide), tnj 2 (by decide), tn32 1 (by decide), tnj 1 (by decide), tl32 0 (by decide), tl64 0 (by decide)] at hc2); (try simp (disch := omega) only [tnI, tn32 6 (by decide), tnj 6 (by decide), tn32 2 (by decide), tnj 2 (by decide), tn32 1 (by decide), tnj 1 (by decide), tl32 0 (by decide), tl64 0 (by decide)]); (repeat' split) <;> first | rfl | omega | (apply Int32.toInt_inj.mp; simp (disch := omega) only [tnI, tn32 6 (by decide), tnj 6 (by decide), tn32 2 (by decide), tnj 2 (by decide), tn32 1 (by decide), tnj 1 (by decide), tl32 0 (by decide), tl64 0 (by decide)]; omega))) (dkP dF_172 DX12_paste (i := 7) rfl rfl)
  · skip
    refine lv_if_eq (tgt := 14) hx hb (dkS dF_153 DX12_paste (i := 2) rfl rfl rfl) (by decide) (fun _ => ?_) (fun h => absurd h (by decide))
    refine lv_bipush (v := (-2)) hx hb (dks dF_16 DX12_paste (i := 6) rfl rfl rfl) (by decide) ?_
    exact z_iret C0 hr hlk hw (by first | rfl | ((try simp only [lg_cmp_lt, lg_cmp_le, lg_cmp_gt, lg_cmp_ge, lg_cmp_eq] at hc1); (try simp (disch := omega) only [ta_lt, ta_le, ta_eq, tb_lt, tb_le, tb_eq, tw, tnI, tn32 6 (by decide), tnj 6 (by decide), tn32 2 (by decide), tnj 2 (by decide), tn32 1 (by decide), tnj 1 (by decide), tl32 0 (by decide), tl64 0 (by decide)] at hc1); (try simp (disch := omega) only [tnI, tn32 6 (by decide), tnj 6 (by decide), tn32 2 (by decide), tnj 2 (by decide), tn32 1 (by decide), tnj 1 (by decide), tl32 0 (by decide), tl64 0 (by decide)]); (repeat' split) <;> first | rfl | omega | (apply Int32.toInt_inj.mp; simp (disch := omega) only [tnI, tn32 6 (by decide), tnj 6 (by decide), tn32 2 (by decide), tnj 2 (by decide), tn32 1 (by decide), tnj 1 (by decide), tl32 0 (by decide), tl64 0 (by decide)]; omega))) (dkP dF_172 DX12_paste (i := 7) rfl rfl)
set_option maxRecDepth 100000 in
set_option maxHeartbeats 4000000 in
theorem c_X12_restore (l : Launch) (G : va_G) (kc : Nat → ClassId) (ad : Nat → Nat)  (k : Int32)  : MI l G kc yX12_restore cX12_restore 3 (some .int) 1 25 [.ref (ad 0), .int k] shM ad sM0 (fun r σ1 => r = if 0 ≤ k.toInt ∧ k.toInt ≤ 2 then -6 else -2) := by
  intro sz
  refine z_body (y := yX12_restore) (n := 3) (av := [.ref (ad 0), .int k]) (Qc := fun A => va_Qi (fun r σ1 => r = if 0 ≤ k.toInt ∧ k.toInt ≤ 2 then -6 else -2) (PoC G kc shM ad A) A) (plainFor_of_name (by decide)) (Nat.le_of_ble_eq_true rfl) (fun pr e s m below meth c A C0 hr hlk hnm hw ls hl => ?_) sz
  have hx := C0.1
  have hb := C0.2.1
  have hown := C0.2.2.2.1
  have hts := C0.2.2.2.2.1
  have hl : lv_has ls 3 [(0, .ref (ad 0)), (1, .int k)] := hl
  refine lv_iload_n hx hb (dkP dF_27 DX12_restore (i := 0) rfl rfl) rfl (lv_at hl 1 rfl) ?_
  refine lv_i2l hx hb (dkP dF_133 DX12_restore (i := 1) rfl rfl) rfl ?_
  refine lv_lconst (v := 0) hx hb (dkP dF_9 DX12_restore (i := 2) rfl rfl) (by decide) ?_
  refine lv_ldc2 hx hb hown (hts _ kn_X12_145) (dk2 dF_20 DX12_restore (i := 3) rfl rfl rfl) ?_
  refine zn_I hw (zr_S (As := [.long k.toInt64, .long 0, .long 2]) (rest := []) C0 (c_X12_in l G kc k.toInt64 0 2  _) cs_X12_in lk_X12_9 (zp_P C0 a00 s00) rfl hl.1 rfl ⟨by decide, by decide⟩ (Nat.le_of_ble_eq_true rfl) (dk2 dF_184 DX12_restore (i := 4) rfl rfl rfl) ⟨Nat.le_refl _, Nat.le_refl _⟩) (fun r1 s1 H locs hp hw => ?_)
  rcases hp with ⟨rfl, hc1⟩ | ⟨rfl, hc1⟩
  · skip
    obtain ⟨k_k, hk_k, rfl⟩ := to_nat (x := k) (n := 3) (by (try simp only [lg_cmp_lt, lg_cmp_le, lg_cmp_gt, lg_cmp_ge, lg_cmp_eq] at hc1); (try simp (disch := omega) only [ta_lt, ta_le, ta_eq, tb_lt, tb_le, tb_eq, tw, tnI, tn32 1 (by decide), tnj 1 (by decide), tl32 0 (by decide), tl64 0 (by decide), tl32 2 (by decide), tl64 2 (by decide)] at hc1); (try simp (disch := omega) only [ta_lt, ta_le, ta_eq, tb_lt, tb_le, tb_eq, tw, tnI, tn32 1 (by decide), tnj 1 (by decide), tl32 0 (by decide), tl64 0 (by decide), tl32 2 (by decide), tl64 2 (by decide)]); omega)
    refine lv_if_ne (tgt := 15) hx hb (dkS dF_154 DX12_restore (i := 5) rfl rfl rfl) (by decide) (fun _ => ?_) (fun h => absurd h (by decide))
    refine lv_aload_n hx hb (dkP dF_42 DX12_restore (i := 8) rfl rfl) rfl (lv_at hl 0 rfl) ?_
    refine z_gr C0 hw 0 3 3 rfl fl_X12_28 (dk2 dF_180 DX12_restore (i := 9) rfl rfl rfl) ?_
    refine lv_iload_n hx hb (dkP dF_27 DX12_restore (i := 10) rfl rfl) rfl (lv_at hl 1 rfl) ?_
    refine z_zaldN (n := 3) C0 hw 3 k_k rfl (by omega) (by decide) (dkP dF_51 DX12_restore (i := 11) rfl rfl) ?_
    refine z_top (y := 0) rfl ?_
    refine lv_if_ne (tgt := 27) hx hb (dkS dF_154 DX12_restore (i := 12) rfl rfl rfl) (by decide) (fun h => absurd h (by decide)) (fun _ => ?_)
    refine lv_bipush (v := (-6)) hx hb (dks dF_16 DX12_restore (i := 13) rfl rfl rfl) (by decide) ?_
    exact z_iret C0 hr hlk hw (by first | rfl | ((try simp only [lg_cmp_lt, lg_cmp_le, lg_cmp_gt, lg_cmp_ge, lg_cmp_eq] at hc1); (try simp (disch := omega) only [ta_lt, ta_le, ta_eq, tb_lt, tb_le, tb_eq, tw, tnI, tn32 6 (by decide), tnj 6 (by decide), tn32 1 (by decide), tnj 1 (by decide), tl32 0 (by decide), tl64 0 (by decide), tl32 2 (by decide), tl64 2 (by decide)] at hc1); (try simp only [lg_cmp_lt, lg_cmp_le, lg_cmp_gt, lg_cmp_ge, lg_cmp_eq] at hk_k); (try simp (disch := omega) only [ta_lt, ta_le, ta_eq, tb_lt, tb_le, tb_eq, tw, tnI, tn32 6 (by decide), tnj 6 (by decide), tn32 1 (by decide), tnj 1 (by decide), tl32 0 (by decide), tl64 0 (by decide), tl32 2 (by decide), tl64 2 (by decide)] at hk_k); (try simp (disch := omega) only [tnI, tn32 6 (by decide), tnj 6 (by decide), tn32 1 (by decide), tnj 1 (by decide), tl32 0 (by decide), tl64 0 (by decide), tl32 2 (by decide), tl64 2 (by decide)]); (repeat' split) <;> first | rfl | omega | (apply Int32.toInt_inj.mp; simp (disch := omega) only [tnI, tn32 6 (by decide), tnj 6 (by decide), tn32 1 (by decide), tnj 1 (by decide), tl32 0 (by decide), tl64 0 (by decide), tl32 2 (by decide), tl64 2 (by decide)]; omega))) (dkP dF_172 DX12_restore (i := 14) rfl rfl)
  · skip
    refine lv_if_ne (tgt := 15) hx hb (dkS dF_154 DX12_restore (i := 5) rfl rfl rfl) (by decide) (fun h => absurd h (by decide)) (fun _ => ?_)
    refine lv_bipush (v := (-2)) hx hb (dks dF_16 DX12_restore (i := 6) rfl rfl rfl) (by decide) ?_
    exact z_iret C0 hr hlk hw (by first | rfl | ((try simp only [lg_cmp_lt, lg_cmp_le, lg_cmp_gt, lg_cmp_ge, lg_cmp_eq] at hc1); (try simp (disch := omega) only [ta_lt, ta_le, ta_eq, tb_lt, tb_le, tb_eq, tw, tnI, tn32 6 (by decide), tnj 6 (by decide), tn32 2 (by decide), tnj 2 (by decide), tn32 1 (by decide), tnj 1 (by decide), tl32 0 (by decide), tl64 0 (by decide), tl32 2 (by decide), tl64 2 (by decide)] at hc1); (try simp (disch := omega) only [tnI, tn32 6 (by decide), tnj 6 (by decide), tn32 2 (by decide), tnj 2 (by decide), tn32 1 (by decide), tnj 1 (by decide), tl32 0 (by decide), tl64 0 (by decide), tl32 2 (by decide), tl64 2 (by decide)]); (repeat' split) <;> first | rfl | omega | (apply Int32.toInt_inj.mp; simp (disch := omega) only [tnI, tn32 6 (by decide), tnj 6 (by decide), tn32 2 (by decide), tnj 2 (by decide), tn32 1 (by decide), tnj 1 (by decide), tl32 0 (by decide), tl64 0 (by decide), tl32 2 (by decide), tl64 2 (by decide)]; omega))) (dkP dF_172 DX12_restore (i := 7) rfl rfl)
set_option maxRecDepth 100000 in
set_option maxHeartbeats 4000000 in
theorem c_X12_sheet (l : Launch) (G : va_G) (kc : Nat → ClassId) (ad : Nat → Nat)  (sl : Int32) (w : Int32) (n : Int32)  : MI l G kc yX12_sheet cX12_sheet 5 (some .int) 2 45 [.ref (ad 0), .int sl, .int w, .int n] shM ad sM0 (fun r σ1 => r = if 0 ≤ sl.toInt ∧ sl.toInt ≤ 3 ∧ 0 ≤ w.toInt ∧ w.toInt ≤ 3 ∧ n.toInt ≤ 60 then (if n.toInt < 0 then -3 else 0) else -2) := by
  intro sz
  refine z_body (y := yX12_sheet) (n := 5) (av := [.ref (ad 0), .int sl, .int w, .int n]) (Qc := fun A => va_Qi (fun r σ1 => r = if 0 ≤ sl.toInt ∧ sl.toInt ≤ 3 ∧ 0 ≤ w.toInt ∧ w.toInt ≤ 3 ∧ n.toInt ≤ 60 then (if n.toInt < 0 then -3 else 0) else -2) (PoC G kc shM ad A) A) (plainFor_of_name (by decide)) (Nat.le_of_ble_eq_true rfl) (fun pr e s m below meth c A C0 hr hlk hnm hw ls hl => ?_) sz
  have hx := C0.1
  have hb := C0.2.1
  have hown := C0.2.2.2.1
  have hts := C0.2.2.2.2.1
  have hl : lv_has ls 5 [(0, .ref (ad 0)), (1, .int sl), (2, .int w), (3, .int n)] := hl
  refine lv_iload_n hx hb (dkP dF_27 DX12_sheet (i := 0) rfl rfl) rfl (lv_at hl 1 rfl) ?_
  refine zn_I hw (zr_S (As := [.int sl]) (rest := []) C0 (c_X12_isSlot l G kc sl  _) cs_X12_isSlot lk_X12_446 (zp_P C0 a00 s00) rfl hl.1 rfl ⟨by decide, by decide⟩ (Nat.le_of_ble_eq_true rfl) (dk2 dF_184 DX12_sheet (i := 1) rfl rfl rfl) ⟨Nat.le_refl _, Nat.le_refl _⟩) (fun r1 s1 H locs hp hw => ?_)
  rcases hp with ⟨rfl, hc1⟩ | ⟨rfl, hc1⟩
  · skip
    obtain ⟨k_sl, hk_sl, rfl⟩ := to_nat (x := sl) (n := 4) (by (try simp only [lg_cmp_lt, lg_cmp_le, lg_cmp_gt, lg_cmp_ge, lg_cmp_eq] at hc1); (try simp (disch := omega) only [ta_lt, ta_le, ta_eq, tb_lt, tb_le, tb_eq, tw, tnI, tn32 1 (by decide), tnj 1 (by decide), tl32 0 (by decide), tl64 0 (by decide)] at hc1); (try simp (disch := omega) only [ta_lt, ta_le, ta_eq, tb_lt, tb_le, tb_eq, tw, tnI, tn32 1 (by decide), tnj 1 (by decide), tl32 0 (by decide), tl64 0 (by decide)]); omega)
    refine lv_if_eq (tgt := 25) hx hb (dkS dF_153 DX12_sheet (i := 2) rfl rfl rfl) (by decide) (fun h => absurd h (by decide)) (fun _ => ?_)
    refine lv_iload_n hx hb (dkP dF_28 DX12_sheet (i := 3) rfl rfl) rfl (lv_at hl 2 rfl) ?_
    refine lv_i2l hx hb (dkP dF_133 DX12_sheet (i := 4) rfl rfl) rfl ?_
    refine lv_lconst (v := 0) hx hb (dkP dF_9 DX12_sheet (i := 5) rfl rfl) (by decide) ?_
    refine lv_ldc2 hx hb hown (hts _ kn_X12_501) (dk2 dF_20 DX12_sheet (i := 6) rfl rfl rfl) ?_
    refine zn_I hw (zr_S (As := [.long w.toInt64, .long 0, .long 3]) (rest := []) C0 (c_X12_in l G kc w.toInt64 0 3  _) cs_X12_in lk_X12_9 (zp_P C0 a00 s00) rfl hl.1 rfl ⟨by decide, by decide⟩ (Nat.le_of_ble_eq_true rfl) (dk2 dF_184 DX12_sheet (i := 7) rfl rfl rfl) ⟨Nat.le_refl _, Nat.le_refl _⟩) (fun r2 s2 H locs hp hw => ?_)
    rcases hp with ⟨rfl, hc2⟩ | ⟨rfl, hc2⟩
    · skip
      obtain ⟨k_w, hk_w, rfl⟩ := to_nat (x := w) (n := 4) (by (try simp only [lg_cmp_lt, lg_cmp_le, lg_cmp_gt, lg_cmp_ge, lg_cmp_eq] at hc1); (try simp (disch := omega) only [ta_lt, ta_le, ta_eq, tb_lt, tb_le, tb_eq, tw, tnI, tn32 1 (by decide), tnj 1 (by decide), tl32 0 (by decide), tl64 0 (by decide), tl32 3 (by decide), tl64 3 (by decide)] at hc1); (try simp only [lg_cmp_lt, lg_cmp_le, lg_cmp_gt, lg_cmp_ge, lg_cmp_eq] at hk_sl); (try simp (disch := omega) only [ta_lt, ta_le, ta_eq, tb_lt, tb_le, tb_eq, tw, tnI, tn32 1 (by decide), tnj 1 (by decide), tl32 0 (by decide), tl64 0 (by decide), tl32 3 (by decide), tl64 3 (by decide)] at hk_sl); (try simp only [lg_cmp_lt, lg_cmp_le, lg_cmp_gt, lg_cmp_ge, lg_cmp_eq] at hc2); (try simp (disch := omega) only [ta_lt, ta_le, ta_eq, tb_lt, tb_le, tb_eq, tw, tnI, tn32 1 (by decide), tnj 1 (by decide), tl32 0 (by decide), tl64 0 (by decide), tl32 3 (by decide), tl64 3 (by decide)] at hc2); (try simp (disch := omega) only [ta_lt, ta_le, ta_eq, tb_lt, tb_le, tb_eq, tw, tnI, tn32 1 (by decide), tnj 1 (by decide), tl32 0 (by decide), tl64 0 (by decide), tl32 3 (by decide), tl64 3 (by decide)]); omega)
      refine lv_if_eq (tgt := 25) hx hb (dkS dF_153 DX12_sheet (i := 8) rfl rfl rfl) (by decide) (fun h => absurd h (by decide)) (fun _ => ?_)
      refine lv_iload_n hx hb (dkP dF_29 DX12_sheet (i := 9) rfl rfl) rfl (lv_at hl 3 rfl) ?_
      refine lv_bipush (v := 60) hx hb (dks dF_16 DX12_sheet (i := 10) rfl rfl rfl) (by decide) ?_
      refine lv_icmp_le (tgt := 28) hx hb (dkS dF_164 DX12_sheet (i := 11) rfl rfl rfl) (by decide) (fun c3 => ?_) (fun c3 => ?_)
      · skip
        refine lv_iload_n hx hb (dkP dF_29 DX12_sheet (i := 14) rfl rfl) rfl (lv_at hl 3 rfl) ?_
        refine lv_if_ge (tgt := 35) hx hb (dkS dF_156 DX12_sheet (i := 15) rfl rfl rfl) (by decide) (fun c4 => ?_) (fun c4 => ?_)
        · skip
          refine lv_aload_n hx hb (dkP dF_42 DX12_sheet (i := 18) rfl rfl) rfl (lv_at hl 0 rfl) ?_
          refine z_gr C0 hw 0 50 33 rfl fl_X12_126 (dk2 dF_180 DX12_sheet (i := 19) rfl rfl rfl) ?_
          refine lv_iload_n hx hb (dkP dF_27 DX12_sheet (i := 20) rfl rfl) rfl (lv_at hl 1 rfl) ?_
          refine lv_iload_n hx hb (dkP dF_29 DX12_sheet (i := 21) rfl rfl) rfl (lv_at hl 3 rfl) ?_
          refine z_iastN (n := 4) C0 hw 33 k_sl rfl (by omega) (by decide) (dkP dF_79 DX12_sheet (i := 22) rfl rfl) (fun H locs hw => ?_)
          refine lv_aload_n hx hb (dkP dF_42 DX12_sheet (i := 23) rfl rfl) rfl (lv_at hl 0 rfl) ?_
          refine z_gr C0 hw 0 51 34 rfl fl_X12_129 (dk2 dF_180 DX12_sheet (i := 24) rfl rfl rfl) ?_
          refine lv_iload_n hx hb (dkP dF_27 DX12_sheet (i := 25) rfl rfl) rfl (lv_at hl 1 rfl) ?_
          refine lv_iload_n hx hb (dkP dF_28 DX12_sheet (i := 26) rfl rfl) rfl (lv_at hl 2 rfl) ?_
          refine z_iastN (n := 4) C0 hw 34 k_sl rfl (by omega) (by decide) (dkP dF_79 DX12_sheet (i := 27) rfl rfl) (fun H locs hw => ?_)
          refine lv_iconst (v := 0) hx hb (dkP dF_3 DX12_sheet (i := 28) rfl rfl) (by decide) ?_
          refine lv_istore (lv' := [(4, .int 0), (0, .ref (ad 0)), (1, .int (nI k_sl)), (2, .int (nI k_w)), (3, .int n)]) hx hb (dk1 dF_54 DX12_sheet (i := 29) rfl rfl rfl) hl (by decide) rfl (fun ls hl => ?_)
          refine lv_iload hx hb (dk1 dF_21 DX12_sheet (i := 30) rfl rfl rfl) (lv_at hl 0 rfl) ?_
          refine lv_bipush (v := 60) hx hb (dks dF_16 DX12_sheet (i := 31) rfl rfl rfl) (by decide) ?_
          refine lv_icmp_ge (tgt := 78) hx hb (dkS dF_162 DX12_sheet (i := 32) rfl rfl rfl) (by decide) (fun h => absurd h (by decide)) (fun _ => ?_)
          refine lv_aload_n hx hb (dkP dF_42 DX12_sheet (i := 33) rfl rfl) rfl (lv_at hl 1 rfl) ?_
          refine z_gr C0 hw 0 52 35 rfl fl_X12_132 (dk2 dF_180 DX12_sheet (i := 34) rfl rfl rfl) ?_
          refine lv_bipush (v := 60) hx hb (dks dF_16 DX12_sheet (i := 35) rfl rfl rfl) (by decide) ?_
          refine lv_iload_n hx hb (dkP dF_27 DX12_sheet (i := 36) rfl rfl) rfl (lv_at hl 2 rfl) ?_
          refine lv_imul hx hb (dkP dF_104 DX12_sheet (i := 37) rfl rfl) ?_
          refine z_top (y := nI (60 * k_sl)) (by simp only [fa_lit, nI_add, pk_mul]) ?_
          refine lv_iload hx hb (dk1 dF_21 DX12_sheet (i := 38) rfl rfl rfl) (lv_at hl 0 rfl) ?_
          refine lv_iadd hx hb (dkP dF_96 DX12_sheet (i := 39) rfl rfl) ?_
          refine z_top (y := nI ((60 * k_sl) + 0)) (by simp only [fa_lit, nI_add, pk_mul]) ?_
          refine lv_lconst (v := 0) hx hb (dkP dF_9 DX12_sheet (i := 40) rfl rfl) (by decide) ?_
          refine z_lastN (n := 240) C0 hw 35 ((60 * k_sl) + 0) rfl (by omega) (by decide) (dkP dF_80 DX12_sheet (i := 41) rfl rfl) (fun H locs hw => ?_)
          refine lv_iinc (v := 1) (lv' := [(4, .int 1), (0, .ref (ad 0)), (1, .int (nI k_sl)), (2, .int (nI k_w)), (3, .int n)]) hx hb (dkI DX12_sheet (i := 42) rfl rfl rfl rfl) hl (k := 0) rfl (by decide) (by decide) rfl (fun ls hl => ?_)
          refine lv_goto (tgt := 52) hx hb (dkS dF_167 DX12_sheet (i := 43) rfl rfl rfl) (by decide) ?_
          refine lv_iload hx hb (dk1 dF_21 DX12_sheet (i := 30) rfl rfl rfl) (lv_at hl 0 rfl) ?_
          refine lv_bipush (v := 60) hx hb (dks dF_16 DX12_sheet (i := 31) rfl rfl rfl) (by decide) ?_
          refine lv_icmp_ge (tgt := 78) hx hb (dkS dF_162 DX12_sheet (i := 32) rfl rfl rfl) (by decide) (fun h => absurd h (by decide)) (fun _ => ?_)
          refine lv_aload_n hx hb (dkP dF_42 DX12_sheet (i := 33) rfl rfl) rfl (lv_at hl 1 rfl) ?_
          refine z_gr C0 hw 0 52 35 rfl fl_X12_132 (dk2 dF_180 DX12_sheet (i := 34) rfl rfl rfl) ?_
          refine lv_bipush (v := 60) hx hb (dks dF_16 DX12_sheet (i := 35) rfl rfl rfl) (by decide) ?_
          refine lv_iload_n hx hb (dkP dF_27 DX12_sheet (i := 36) rfl rfl) rfl (lv_at hl 2 rfl) ?_
          refine lv_imul hx hb (dkP dF_104 DX12_sheet (i := 37) rfl rfl) ?_
          refine z_top (y := nI (60 * k_sl)) (by simp only [fa_lit, nI_add, pk_mul]) ?_
          refine lv_iload hx hb (dk1 dF_21 DX12_sheet (i := 38) rfl rfl rfl) (lv_at hl 0 rfl) ?_
          refine lv_iadd hx hb (dkP dF_96 DX12_sheet (i := 39) rfl rfl) ?_
          refine z_top (y := nI ((60 * k_sl) + 1)) (by simp only [fa_lit, nI_add, pk_mul]) ?_
          refine lv_lconst (v := 0) hx hb (dkP dF_9 DX12_sheet (i := 40) rfl rfl) (by decide) ?_
          refine z_lastN (n := 240) C0 hw 35 ((60 * k_sl) + 1) rfl (by omega) (by decide) (dkP dF_80 DX12_sheet (i := 41) rfl rfl) (fun H locs hw => ?_)
          refine lv_iinc (v := 2) (lv' := [(4, .int 2), (0, .ref (ad 0)), (1, .int (nI k_sl)), (2, .int (nI k_w)), (3, .int n)]) hx hb (dkI DX12_sheet (i := 42) rfl rfl rfl rfl) hl (k := 0) rfl (by decide) (by decide) rfl (fun ls hl => ?_)
          refine lv_goto (tgt := 52) hx hb (dkS dF_167 DX12_sheet (i := 43) rfl rfl rfl) (by decide) ?_
          refine lv_iload hx hb (dk1 dF_21 DX12_sheet (i := 30) rfl rfl rfl) (lv_at hl 0 rfl) ?_
          refine lv_bipush (v := 60) hx hb (dks dF_16 DX12_sheet (i := 31) rfl rfl rfl) (by decide) ?_
          refine lv_icmp_ge (tgt := 78) hx hb (dkS dF_162 DX12_sheet (i := 32) rfl rfl rfl) (by decide) (fun h => absurd h (by decide)) (fun _ => ?_)
          refine lv_aload_n hx hb (dkP dF_42 DX12_sheet (i := 33) rfl rfl) rfl (lv_at hl 1 rfl) ?_
          refine z_gr C0 hw 0 52 35 rfl fl_X12_132 (dk2 dF_180 DX12_sheet (i := 34) rfl rfl rfl) ?_
          refine lv_bipush (v := 60) hx hb (dks dF_16 DX12_sheet (i := 35) rfl rfl rfl) (by decide) ?_
          refine lv_iload_n hx hb (dkP dF_27 DX12_sheet (i := 36) rfl rfl) rfl (lv_at hl 2 rfl) ?_
          refine lv_imul hx hb (dkP dF_104 DX12_sheet (i := 37) rfl rfl) ?_
          refine z_top (y := nI (60 * k_sl)) (by simp only [fa_lit, nI_add, pk_mul]) ?_
          refine lv_iload hx hb (dk1 dF_21 DX12_sheet (i := 38) rfl rfl rfl) (lv_at hl 0 rfl) ?_
          refine lv_iadd hx hb (dkP dF_96 DX12_sheet (i := 39) rfl rfl) ?_
          refine z_top (y := nI ((60 * k_sl) + 2)) (by simp only [fa_lit, nI_add, pk_mul]) ?_
          refine lv_lconst (v := 0) hx hb (dkP dF_9 DX12_sheet (i := 40) rfl rfl) (by decide) ?_
          refine z_lastN (n := 240) C0 hw 35 ((60 * k_sl) + 2) rfl (by omega) (by decide) (dkP dF_80 DX12_sheet (i := 41) rfl rfl) (fun H locs hw => ?_)
          refine lv_iinc (v := 3) (lv' := [(4, .int 3), (0, .ref (ad 0)), (1, .int (nI k_sl)), (2, .int (nI k_w)), (3, .int n)]) hx hb (dkI DX12_sheet (i := 42) rfl rfl rfl rfl) hl (k := 0) rfl (by decide) (by decide) rfl (fun ls hl => ?_)
          refine lv_goto (tgt := 52) hx hb (dkS dF_167 DX12_sheet (i := 43) rfl rfl rfl) (by decide) ?_
          refine lv_iload hx hb (dk1 dF_21 DX12_sheet (i := 30) rfl rfl rfl) (lv_at hl 0 rfl) ?_
          refine lv_bipush (v := 60) hx hb (dks dF_16 DX12_sheet (i := 31) rfl rfl rfl) (by decide) ?_
          refine lv_icmp_ge (tgt := 78) hx hb (dkS dF_162 DX12_sheet (i := 32) rfl rfl rfl) (by decide) (fun h => absurd h (by decide)) (fun _ => ?_)
          refine lv_aload_n hx hb (dkP dF_42 DX12_sheet (i := 33) rfl rfl) rfl (lv_at hl 1 rfl) ?_
          refine z_gr C0 hw 0 52 35 rfl fl_X12_132 (dk2 dF_180 DX12_sheet (i := 34) rfl rfl rfl) ?_
          refine lv_bipush (v := 60) hx hb (dks dF_16 DX12_sheet (i := 35) rfl rfl rfl) (by decide) ?_
          refine lv_iload_n hx hb (dkP dF_27 DX12_sheet (i := 36) rfl rfl) rfl (lv_at hl 2 rfl) ?_
          refine lv_imul hx hb (dkP dF_104 DX12_sheet (i := 37) rfl rfl) ?_
          refine z_top (y := nI (60 * k_sl)) (by simp only [fa_lit, nI_add, pk_mul]) ?_
          refine lv_iload hx hb (dk1 dF_21 DX12_sheet (i := 38) rfl rfl rfl) (lv_at hl 0 rfl) ?_
          refine lv_iadd hx hb (dkP dF_96 DX12_sheet (i := 39) rfl rfl) ?_
          refine z_top (y := nI ((60 * k_sl) + 3)) (by simp only [fa_lit, nI_add, pk_mul]) ?_
          refine lv_lconst (v := 0) hx hb (dkP dF_9 DX12_sheet (i := 40) rfl rfl) (by decide) ?_
          refine z_lastN (n := 240) C0 hw 35 ((60 * k_sl) + 3) rfl (by omega) (by decide) (dkP dF_80 DX12_sheet (i := 41) rfl rfl) (fun H locs hw => ?_)
          refine lv_iinc (v := 4) (lv' := [(4, .int 4), (0, .ref (ad 0)), (1, .int (nI k_sl)), (2, .int (nI k_w)), (3, .int n)]) hx hb (dkI DX12_sheet (i := 42) rfl rfl rfl rfl) hl (k := 0) rfl (by decide) (by decide) rfl (fun ls hl => ?_)
          refine lv_goto (tgt := 52) hx hb (dkS dF_167 DX12_sheet (i := 43) rfl rfl rfl) (by decide) ?_
          refine lv_iload hx hb (dk1 dF_21 DX12_sheet (i := 30) rfl rfl rfl) (lv_at hl 0 rfl) ?_
          refine lv_bipush (v := 60) hx hb (dks dF_16 DX12_sheet (i := 31) rfl rfl rfl) (by decide) ?_
          refine lv_icmp_ge (tgt := 78) hx hb (dkS dF_162 DX12_sheet (i := 32) rfl rfl rfl) (by decide) (fun h => absurd h (by decide)) (fun _ => ?_)
          refine lv_aload_n hx hb (dkP dF_42 DX12_sheet (i := 33) rfl rfl) rfl (lv_at hl 1 rfl) ?_
          refine z_gr C0 hw 0 52 35 rfl fl_X12_132 (dk2 dF_180 DX12_sheet (i := 34) rfl rfl rfl) ?_
          refine lv_bipush (v := 60) hx hb (dks dF_16 DX12_sheet (i := 35) rfl rfl rfl) (by decide) ?_
          refine lv_iload_n hx hb (dkP dF_27 DX12_sheet (i := 36) rfl rfl) rfl (lv_at hl 2 rfl) ?_
          refine lv_imul hx hb (dkP dF_104 DX12_sheet (i := 37) rfl rfl) ?_
          refine z_top (y := nI (60 * k_sl)) (by simp only [fa_lit, nI_add, pk_mul]) ?_
          refine lv_iload hx hb (dk1 dF_21 DX12_sheet (i := 38) rfl rfl rfl) (lv_at hl 0 rfl) ?_
          refine lv_iadd hx hb (dkP dF_96 DX12_sheet (i := 39) rfl rfl) ?_
          refine z_top (y := nI ((60 * k_sl) + 4)) (by simp only [fa_lit, nI_add, pk_mul]) ?_
          refine lv_lconst (v := 0) hx hb (dkP dF_9 DX12_sheet (i := 40) rfl rfl) (by decide) ?_
          refine z_lastN (n := 240) C0 hw 35 ((60 * k_sl) + 4) rfl (by omega) (by decide) (dkP dF_80 DX12_sheet (i := 41) rfl rfl) (fun H locs hw => ?_)
          refine lv_iinc (v := 5) (lv' := [(4, .int 5), (0, .ref (ad 0)), (1, .int (nI k_sl)), (2, .int (nI k_w)), (3, .int n)]) hx hb (dkI DX12_sheet (i := 42) rfl rfl rfl rfl) hl (k := 0) rfl (by decide) (by decide) rfl (fun ls hl => ?_)
          refine lv_goto (tgt := 52) hx hb (dkS dF_167 DX12_sheet (i := 43) rfl rfl rfl) (by decide) ?_
          refine lv_iload hx hb (dk1 dF_21 DX12_sheet (i := 30) rfl rfl rfl) (lv_at hl 0 rfl) ?_
          refine lv_bipush (v := 60) hx hb (dks dF_16 DX12_sheet (i := 31) rfl rfl rfl) (by decide) ?_
          refine lv_icmp_ge (tgt := 78) hx hb (dkS dF_162 DX12_sheet (i := 32) rfl rfl rfl) (by decide) (fun h => absurd h (by decide)) (fun _ => ?_)
          refine lv_aload_n hx hb (dkP dF_42 DX12_sheet (i := 33) rfl rfl) rfl (lv_at hl 1 rfl) ?_
          refine z_gr C0 hw 0 52 35 rfl fl_X12_132 (dk2 dF_180 DX12_sheet (i := 34) rfl rfl rfl) ?_
          refine lv_bipush (v := 60) hx hb (dks dF_16 DX12_sheet (i := 35) rfl rfl rfl) (by decide) ?_
          refine lv_iload_n hx hb (dkP dF_27 DX12_sheet (i := 36) rfl rfl) rfl (lv_at hl 2 rfl) ?_
          refine lv_imul hx hb (dkP dF_104 DX12_sheet (i := 37) rfl rfl) ?_
          refine z_top (y := nI (60 * k_sl)) (by simp only [fa_lit, nI_add, pk_mul]) ?_
          refine lv_iload hx hb (dk1 dF_21 DX12_sheet (i := 38) rfl rfl rfl) (lv_at hl 0 rfl) ?_
          refine lv_iadd hx hb (dkP dF_96 DX12_sheet (i := 39) rfl rfl) ?_
          refine z_top (y := nI ((60 * k_sl) + 5)) (by simp only [fa_lit, nI_add, pk_mul]) ?_
          refine lv_lconst (v := 0) hx hb (dkP dF_9 DX12_sheet (i := 40) rfl rfl) (by decide) ?_
          refine z_lastN (n := 240) C0 hw 35 ((60 * k_sl) + 5) rfl (by omega) (by decide) (dkP dF_80 DX12_sheet (i := 41) rfl rfl) (fun H locs hw => ?_)
          refine lv_iinc (v := 6) (lv' := [(4, .int 6), (0, .ref (ad 0)), (1, .int (nI k_sl)), (2, .int (nI k_w)), (3, .int n)]) hx hb (dkI DX12_sheet (i := 42) rfl rfl rfl rfl) hl (k := 0) rfl (by decide) (by decide) rfl (fun ls hl => ?_)
          refine lv_goto (tgt := 52) hx hb (dkS dF_167 DX12_sheet (i := 43) rfl rfl rfl) (by decide) ?_
          refine lv_iload hx hb (dk1 dF_21 DX12_sheet (i := 30) rfl rfl rfl) (lv_at hl 0 rfl) ?_
          refine lv_bipush (v := 60) hx hb (dks dF_16 DX12_sheet (i := 31) rfl rfl rfl) (by decide) ?_
          refine lv_icmp_ge (tgt := 78) hx hb (dkS dF_162 DX12_sheet (i := 32) rfl rfl rfl) (by decide) (fun h => absurd h (by decide)) (fun _ => ?_)
          refine lv_aload_n hx hb (dkP dF_42 DX12_sheet (i := 33) rfl rfl) rfl (lv_at hl 1 rfl) ?_
          refine z_gr C0 hw 0 52 35 rfl fl_X12_132 (dk2 dF_180 DX12_sheet (i := 34) rfl rfl rfl) ?_
          refine lv_bipush (v := 60) hx hb (dks dF_16 DX12_sheet (i := 35) rfl rfl rfl) (by decide) ?_
          refine lv_iload_n hx hb (dkP dF_27 DX12_sheet (i := 36) rfl rfl) rfl (lv_at hl 2 rfl) ?_
          refine lv_imul hx hb (dkP dF_104 DX12_sheet (i := 37) rfl rfl) ?_
          refine z_top (y := nI (60 * k_sl)) (by simp only [fa_lit, nI_add, pk_mul]) ?_
          refine lv_iload hx hb (dk1 dF_21 DX12_sheet (i := 38) rfl rfl rfl) (lv_at hl 0 rfl) ?_
          refine lv_iadd hx hb (dkP dF_96 DX12_sheet (i := 39) rfl rfl) ?_
          refine z_top (y := nI ((60 * k_sl) + 6)) (by simp only [fa_lit, nI_add, pk_mul]) ?_
          refine lv_lconst (v := 0) hx hb (dkP dF_9 DX12_sheet (i := 40) rfl rfl) (by decide) ?_
          refine z_lastN (n := 240) C0 hw 35 ((60 * k_sl) + 6) rfl (by omega) (by decide) (dkP dF_80 DX12_sheet (i := 41) rfl rfl) (fun H locs hw => ?_)
          refine lv_iinc (v := 7) (lv' := [(4, .int 7), (0, .ref (ad 0)), (1, .int (nI k_sl)), (2, .int (nI k_w)), (3, .int n)]) hx hb (dkI DX12_sheet (i := 42) rfl rfl rfl rfl) hl (k := 0) rfl (by decide) (by decide) rfl (fun ls hl => ?_)
          refine lv_goto (tgt := 52) hx hb (dkS dF_167 DX12_sheet (i := 43) rfl rfl rfl) (by decide) ?_
          refine lv_iload hx hb (dk1 dF_21 DX12_sheet (i := 30) rfl rfl rfl) (lv_at hl 0 rfl) ?_
          refine lv_bipush (v := 60) hx hb (dks dF_16 DX12_sheet (i := 31) rfl rfl rfl) (by decide) ?_
          refine lv_icmp_ge (tgt := 78) hx hb (dkS dF_162 DX12_sheet (i := 32) rfl rfl rfl) (by decide) (fun h => absurd h (by decide)) (fun _ => ?_)
          refine lv_aload_n hx hb (dkP dF_42 DX12_sheet (i := 33) rfl rfl) rfl (lv_at hl 1 rfl) ?_
          refine z_gr C0 hw 0 52 35 rfl fl_X12_132 (dk2 dF_180 DX12_sheet (i := 34) rfl rfl rfl) ?_
          refine lv_bipush (v := 60) hx hb (dks dF_16 DX12_sheet (i := 35) rfl rfl rfl) (by decide) ?_
          refine lv_iload_n hx hb (dkP dF_27 DX12_sheet (i := 36) rfl rfl) rfl (lv_at hl 2 rfl) ?_
          refine lv_imul hx hb (dkP dF_104 DX12_sheet (i := 37) rfl rfl) ?_
          refine z_top (y := nI (60 * k_sl)) (by simp only [fa_lit, nI_add, pk_mul]) ?_
          refine lv_iload hx hb (dk1 dF_21 DX12_sheet (i := 38) rfl rfl rfl) (lv_at hl 0 rfl) ?_
          refine lv_iadd hx hb (dkP dF_96 DX12_sheet (i := 39) rfl rfl) ?_
          refine z_top (y := nI ((60 * k_sl) + 7)) (by simp only [fa_lit, nI_add, pk_mul]) ?_
          refine lv_lconst (v := 0) hx hb (dkP dF_9 DX12_sheet (i := 40) rfl rfl) (by decide) ?_
          refine z_lastN (n := 240) C0 hw 35 ((60 * k_sl) + 7) rfl (by omega) (by decide) (dkP dF_80 DX12_sheet (i := 41) rfl rfl) (fun H locs hw => ?_)
          refine lv_iinc (v := 8) (lv' := [(4, .int 8), (0, .ref (ad 0)), (1, .int (nI k_sl)), (2, .int (nI k_w)), (3, .int n)]) hx hb (dkI DX12_sheet (i := 42) rfl rfl rfl rfl) hl (k := 0) rfl (by decide) (by decide) rfl (fun ls hl => ?_)
          refine lv_goto (tgt := 52) hx hb (dkS dF_167 DX12_sheet (i := 43) rfl rfl rfl) (by decide) ?_
          refine lv_iload hx hb (dk1 dF_21 DX12_sheet (i := 30) rfl rfl rfl) (lv_at hl 0 rfl) ?_
          refine lv_bipush (v := 60) hx hb (dks dF_16 DX12_sheet (i := 31) rfl rfl rfl) (by decide) ?_
          refine lv_icmp_ge (tgt := 78) hx hb (dkS dF_162 DX12_sheet (i := 32) rfl rfl rfl) (by decide) (fun h => absurd h (by decide)) (fun _ => ?_)
          refine lv_aload_n hx hb (dkP dF_42 DX12_sheet (i := 33) rfl rfl) rfl (lv_at hl 1 rfl) ?_
          refine z_gr C0 hw 0 52 35 rfl fl_X12_132 (dk2 dF_180 DX12_sheet (i := 34) rfl rfl rfl) ?_
          refine lv_bipush (v := 60) hx hb (dks dF_16 DX12_sheet (i := 35) rfl rfl rfl) (by decide) ?_
          refine lv_iload_n hx hb (dkP dF_27 DX12_sheet (i := 36) rfl rfl) rfl (lv_at hl 2 rfl) ?_
          refine lv_imul hx hb (dkP dF_104 DX12_sheet (i := 37) rfl rfl) ?_
          refine z_top (y := nI (60 * k_sl)) (by simp only [fa_lit, nI_add, pk_mul]) ?_
          refine lv_iload hx hb (dk1 dF_21 DX12_sheet (i := 38) rfl rfl rfl) (lv_at hl 0 rfl) ?_
          refine lv_iadd hx hb (dkP dF_96 DX12_sheet (i := 39) rfl rfl) ?_
          refine z_top (y := nI ((60 * k_sl) + 8)) (by simp only [fa_lit, nI_add, pk_mul]) ?_
          refine lv_lconst (v := 0) hx hb (dkP dF_9 DX12_sheet (i := 40) rfl rfl) (by decide) ?_
          refine z_lastN (n := 240) C0 hw 35 ((60 * k_sl) + 8) rfl (by omega) (by decide) (dkP dF_80 DX12_sheet (i := 41) rfl rfl) (fun H locs hw => ?_)
          refine lv_iinc (v := 9) (lv' := [(4, .int 9), (0, .ref (ad 0)), (1, .int (nI k_sl)), (2, .int (nI k_w)), (3, .int n)]) hx hb (dkI DX12_sheet (i := 42) rfl rfl rfl rfl) hl (k := 0) rfl (by decide) (by decide) rfl (fun ls hl => ?_)
          refine lv_goto (tgt := 52) hx hb (dkS dF_167 DX12_sheet (i := 43) rfl rfl rfl) (by decide) ?_
          refine lv_iload hx hb (dk1 dF_21 DX12_sheet (i := 30) rfl rfl rfl) (lv_at hl 0 rfl) ?_
          refine lv_bipush (v := 60) hx hb (dks dF_16 DX12_sheet (i := 31) rfl rfl rfl) (by decide) ?_
          refine lv_icmp_ge (tgt := 78) hx hb (dkS dF_162 DX12_sheet (i := 32) rfl rfl rfl) (by decide) (fun h => absurd h (by decide)) (fun _ => ?_)
          refine lv_aload_n hx hb (dkP dF_42 DX12_sheet (i := 33) rfl rfl) rfl (lv_at hl 1 rfl) ?_
          refine z_gr C0 hw 0 52 35 rfl fl_X12_132 (dk2 dF_180 DX12_sheet (i := 34) rfl rfl rfl) ?_
          refine lv_bipush (v := 60) hx hb (dks dF_16 DX12_sheet (i := 35) rfl rfl rfl) (by decide) ?_
          refine lv_iload_n hx hb (dkP dF_27 DX12_sheet (i := 36) rfl rfl) rfl (lv_at hl 2 rfl) ?_
          refine lv_imul hx hb (dkP dF_104 DX12_sheet (i := 37) rfl rfl) ?_
          refine z_top (y := nI (60 * k_sl)) (by simp only [fa_lit, nI_add, pk_mul]) ?_
          refine lv_iload hx hb (dk1 dF_21 DX12_sheet (i := 38) rfl rfl rfl) (lv_at hl 0 rfl) ?_
          refine lv_iadd hx hb (dkP dF_96 DX12_sheet (i := 39) rfl rfl) ?_
          refine z_top (y := nI ((60 * k_sl) + 9)) (by simp only [fa_lit, nI_add, pk_mul]) ?_
          refine lv_lconst (v := 0) hx hb (dkP dF_9 DX12_sheet (i := 40) rfl rfl) (by decide) ?_
          refine z_lastN (n := 240) C0 hw 35 ((60 * k_sl) + 9) rfl (by omega) (by decide) (dkP dF_80 DX12_sheet (i := 41) rfl rfl) (fun H locs hw => ?_)
          refine lv_iinc (v := 10) (lv' := [(4, .int 10), (0, .ref (ad 0)), (1, .int (nI k_sl)), (2, .int (nI k_w)), (3, .int n)]) hx hb (dkI DX12_sheet (i := 42) rfl rfl rfl rfl) hl (k := 0) rfl (by decide) (by decide) rfl (fun ls hl => ?_)
          refine lv_goto (tgt := 52) hx hb (dkS dF_167 DX12_sheet (i := 43) rfl rfl rfl) (by decide) ?_
          refine lv_iload hx hb (dk1 dF_21 DX12_sheet (i := 30) rfl rfl rfl) (lv_at hl 0 rfl) ?_
          refine lv_bipush (v := 60) hx hb (dks dF_16 DX12_sheet (i := 31) rfl rfl rfl) (by decide) ?_
          refine lv_icmp_ge (tgt := 78) hx hb (dkS dF_162 DX12_sheet (i := 32) rfl rfl rfl) (by decide) (fun h => absurd h (by decide)) (fun _ => ?_)
          refine lv_aload_n hx hb (dkP dF_42 DX12_sheet (i := 33) rfl rfl) rfl (lv_at hl 1 rfl) ?_
          refine z_gr C0 hw 0 52 35 rfl fl_X12_132 (dk2 dF_180 DX12_sheet (i := 34) rfl rfl rfl) ?_
          refine lv_bipush (v := 60) hx hb (dks dF_16 DX12_sheet (i := 35) rfl rfl rfl) (by decide) ?_
          refine lv_iload_n hx hb (dkP dF_27 DX12_sheet (i := 36) rfl rfl) rfl (lv_at hl 2 rfl) ?_
          refine lv_imul hx hb (dkP dF_104 DX12_sheet (i := 37) rfl rfl) ?_
          refine z_top (y := nI (60 * k_sl)) (by simp only [fa_lit, nI_add, pk_mul]) ?_
          refine lv_iload hx hb (dk1 dF_21 DX12_sheet (i := 38) rfl rfl rfl) (lv_at hl 0 rfl) ?_
          refine lv_iadd hx hb (dkP dF_96 DX12_sheet (i := 39) rfl rfl) ?_
          refine z_top (y := nI ((60 * k_sl) + 10)) (by simp only [fa_lit, nI_add, pk_mul]) ?_
          refine lv_lconst (v := 0) hx hb (dkP dF_9 DX12_sheet (i := 40) rfl rfl) (by decide) ?_
          refine z_lastN (n := 240) C0 hw 35 ((60 * k_sl) + 10) rfl (by omega) (by decide) (dkP dF_80 DX12_sheet (i := 41) rfl rfl) (fun H locs hw => ?_)
          refine lv_iinc (v := 11) (lv' := [(4, .int 11), (0, .ref (ad 0)), (1, .int (nI k_sl)), (2, .int (nI k_w)), (3, .int n)]) hx hb (dkI DX12_sheet (i := 42) rfl rfl rfl rfl) hl (k := 0) rfl (by decide) (by decide) rfl (fun ls hl => ?_)
          refine lv_goto (tgt := 52) hx hb (dkS dF_167 DX12_sheet (i := 43) rfl rfl rfl) (by decide) ?_
          refine lv_iload hx hb (dk1 dF_21 DX12_sheet (i := 30) rfl rfl rfl) (lv_at hl 0 rfl) ?_
          refine lv_bipush (v := 60) hx hb (dks dF_16 DX12_sheet (i := 31) rfl rfl rfl) (by decide) ?_
          refine lv_icmp_ge (tgt := 78) hx hb (dkS dF_162 DX12_sheet (i := 32) rfl rfl rfl) (by decide) (fun h => absurd h (by decide)) (fun _ => ?_)
          refine lv_aload_n hx hb (dkP dF_42 DX12_sheet (i := 33) rfl rfl) rfl (lv_at hl 1 rfl) ?_
          refine z_gr C0 hw 0 52 35 rfl fl_X12_132 (dk2 dF_180 DX12_sheet (i := 34) rfl rfl rfl) ?_
          refine lv_bipush (v := 60) hx hb (dks dF_16 DX12_sheet (i := 35) rfl rfl rfl) (by decide) ?_
          refine lv_iload_n hx hb (dkP dF_27 DX12_sheet (i := 36) rfl rfl) rfl (lv_at hl 2 rfl) ?_
          refine lv_imul hx hb (dkP dF_104 DX12_sheet (i := 37) rfl rfl) ?_
          refine z_top (y := nI (60 * k_sl)) (by simp only [fa_lit, nI_add, pk_mul]) ?_
          refine lv_iload hx hb (dk1 dF_21 DX12_sheet (i := 38) rfl rfl rfl) (lv_at hl 0 rfl) ?_
          refine lv_iadd hx hb (dkP dF_96 DX12_sheet (i := 39) rfl rfl) ?_
          refine z_top (y := nI ((60 * k_sl) + 11)) (by simp only [fa_lit, nI_add, pk_mul]) ?_
          refine lv_lconst (v := 0) hx hb (dkP dF_9 DX12_sheet (i := 40) rfl rfl) (by decide) ?_
          refine z_lastN (n := 240) C0 hw 35 ((60 * k_sl) + 11) rfl (by omega) (by decide) (dkP dF_80 DX12_sheet (i := 41) rfl rfl) (fun H locs hw => ?_)
          refine lv_iinc (v := 12) (lv' := [(4, .int 12), (0, .ref (ad 0)), (1, .int (nI k_sl)), (2, .int (nI k_w)), (3, .int n)]) hx hb (dkI DX12_sheet (i := 42) rfl rfl rfl rfl) hl (k := 0) rfl (by decide) (by decide) rfl (fun ls hl => ?_)
          refine lv_goto (tgt := 52) hx hb (dkS dF_167 DX12_sheet (i := 43) rfl rfl rfl) (by decide) ?_
          refine lv_iload hx hb (dk1 dF_21 DX12_sheet (i := 30) rfl rfl rfl) (lv_at hl 0 rfl) ?_
          refine lv_bipush (v := 60) hx hb (dks dF_16 DX12_sheet (i := 31) rfl rfl rfl) (by decide) ?_
          refine lv_icmp_ge (tgt := 78) hx hb (dkS dF_162 DX12_sheet (i := 32) rfl rfl rfl) (by decide) (fun h => absurd h (by decide)) (fun _ => ?_)
          refine lv_aload_n hx hb (dkP dF_42 DX12_sheet (i := 33) rfl rfl) rfl (lv_at hl 1 rfl) ?_
          refine z_gr C0 hw 0 52 35 rfl fl_X12_132 (dk2 dF_180 DX12_sheet (i := 34) rfl rfl rfl) ?_
          refine lv_bipush (v := 60) hx hb (dks dF_16 DX12_sheet (i := 35) rfl rfl rfl) (by decide) ?_
          refine lv_iload_n hx hb (dkP dF_27 DX12_sheet (i := 36) rfl rfl) rfl (lv_at hl 2 rfl) ?_
          refine lv_imul hx hb (dkP dF_104 DX12_sheet (i := 37) rfl rfl) ?_
          refine z_top (y := nI (60 * k_sl)) (by simp only [fa_lit, nI_add, pk_mul]) ?_
          refine lv_iload hx hb (dk1 dF_21 DX12_sheet (i := 38) rfl rfl rfl) (lv_at hl 0 rfl) ?_
          refine lv_iadd hx hb (dkP dF_96 DX12_sheet (i := 39) rfl rfl) ?_
          refine z_top (y := nI ((60 * k_sl) + 12)) (by simp only [fa_lit, nI_add, pk_mul]) ?_
          refine lv_lconst (v := 0) hx hb (dkP dF_9 DX12_sheet (i := 40) rfl rfl) (by decide) ?_
          refine z_lastN (n := 240) C0 hw 35 ((60 * k_sl) + 12) rfl (by omega) (by decide) (dkP dF_80 DX12_sheet (i := 41) rfl rfl) (fun H locs hw => ?_)
          refine lv_iinc (v := 13) (lv' := [(4, .int 13), (0, .ref (ad 0)), (1, .int (nI k_sl)), (2, .int (nI k_w)), (3, .int n)]) hx hb (dkI DX12_sheet (i := 42) rfl rfl rfl rfl) hl (k := 0) rfl (by decide) (by decide) rfl (fun ls hl => ?_)
          refine lv_goto (tgt := 52) hx hb (dkS dF_167 DX12_sheet (i := 43) rfl rfl rfl) (by decide) ?_
          refine lv_iload hx hb (dk1 dF_21 DX12_sheet (i := 30) rfl rfl rfl) (lv_at hl 0 rfl) ?_
          refine lv_bipush (v := 60) hx hb (dks dF_16 DX12_sheet (i := 31) rfl rfl rfl) (by decide) ?_
          refine lv_icmp_ge (tgt := 78) hx hb (dkS dF_162 DX12_sheet (i := 32) rfl rfl rfl) (by decide) (fun h => absurd h (by decide)) (fun _ => ?_)
          refine lv_aload_n hx hb (dkP dF_42 DX12_sheet (i := 33) rfl rfl) rfl (lv_at hl 1 rfl) ?_
          refine z_gr C0 hw 0 52 35 rfl fl_X12_132 (dk2 dF_180 DX12_sheet (i := 34) rfl rfl rfl) ?_
          refine lv_bipush (v := 60) hx hb (dks dF_16 DX12_sheet (i := 35) rfl rfl rfl) (by decide) ?_
          refine lv_iload_n hx hb (dkP dF_27 DX12_sheet (i := 36) rfl rfl) rfl (lv_at hl 2 rfl) ?_
          refine lv_imul hx hb (dkP dF_104 DX12_sheet (i := 37) rfl rfl) ?_
          refine z_top (y := nI (60 * k_sl)) (by simp only [fa_lit, nI_add, pk_mul]) ?_
          refine lv_iload hx hb (dk1 dF_21 DX12_sheet (i := 38) rfl rfl rfl) (lv_at hl 0 rfl) ?_
          refine lv_iadd hx hb (dkP dF_96 DX12_sheet (i := 39) rfl rfl) ?_
          refine z_top (y := nI ((60 * k_sl) + 13)) (by simp only [fa_lit, nI_add, pk_mul]) ?_
          refine lv_lconst (v := 0) hx hb (dkP dF_9 DX12_sheet (i := 40) rfl rfl) (by decide) ?_
          refine z_lastN (n := 240) C0 hw 35 ((60 * k_sl) + 13) rfl (by omega) (by decide) (dkP dF_80 DX12_sheet (i := 41) rfl rfl) (fun H locs hw => ?_)
          refine lv_iinc (v := 14) (lv' := [(4, .int 14), (0, .ref (ad 0)), (1, .int (nI k_sl)), (2, .int (nI k_w)), (3, .int n)]) hx hb (dkI DX12_sheet (i := 42) rfl rfl rfl rfl) hl (k := 0) rfl (by decide) (by decide) rfl (fun ls hl => ?_)
          refine lv_goto (tgt := 52) hx hb (dkS dF_167 DX12_sheet (i := 43) rfl rfl rfl) (by decide) ?_
          refine lv_iload hx hb (dk1 dF_21 DX12_sheet (i := 30) rfl rfl rfl) (lv_at hl 0 rfl) ?_
          refine lv_bipush (v := 60) hx hb (dks dF_16 DX12_sheet (i := 31) rfl rfl rfl) (by decide) ?_
          refine lv_icmp_ge (tgt := 78) hx hb (dkS dF_162 DX12_sheet (i := 32) rfl rfl rfl) (by decide) (fun h => absurd h (by decide)) (fun _ => ?_)
          refine lv_aload_n hx hb (dkP dF_42 DX12_sheet (i := 33) rfl rfl) rfl (lv_at hl 1 rfl) ?_
          refine z_gr C0 hw 0 52 35 rfl fl_X12_132 (dk2 dF_180 DX12_sheet (i := 34) rfl rfl rfl) ?_
          refine lv_bipush (v := 60) hx hb (dks dF_16 DX12_sheet (i := 35) rfl rfl rfl) (by decide) ?_
          refine lv_iload_n hx hb (dkP dF_27 DX12_sheet (i := 36) rfl rfl) rfl (lv_at hl 2 rfl) ?_
          refine lv_imul hx hb (dkP dF_104 DX12_sheet (i := 37) rfl rfl) ?_
          refine z_top (y := nI (60 * k_sl)) (by simp only [fa_lit, nI_add, pk_mul]) ?_
          refine lv_iload hx hb (dk1 dF_21 DX12_sheet (i := 38) rfl rfl rfl) (lv_at hl 0 rfl) ?_
          refine lv_iadd hx hb (dkP dF_96 DX12_sheet (i := 39) rfl rfl) ?_
          refine z_top (y := nI ((60 * k_sl) + 14)) (by simp only [fa_lit, nI_add, pk_mul]) ?_
          refine lv_lconst (v := 0) hx hb (dkP dF_9 DX12_sheet (i := 40) rfl rfl) (by decide) ?_
          refine z_lastN (n := 240) C0 hw 35 ((60 * k_sl) + 14) rfl (by omega) (by decide) (dkP dF_80 DX12_sheet (i := 41) rfl rfl) (fun H locs hw => ?_)
          refine lv_iinc (v := 15) (lv' := [(4, .int 15), (0, .ref (ad 0)), (1, .int (nI k_sl)), (2, .int (nI k_w)), (3, .int n)]) hx hb (dkI DX12_sheet (i := 42) rfl rfl rfl rfl) hl (k := 0) rfl (by decide) (by decide) rfl (fun ls hl => ?_)
          refine lv_goto (tgt := 52) hx hb (dkS dF_167 DX12_sheet (i := 43) rfl rfl rfl) (by decide) ?_
          refine lv_iload hx hb (dk1 dF_21 DX12_sheet (i := 30) rfl rfl rfl) (lv_at hl 0 rfl) ?_
          refine lv_bipush (v := 60) hx hb (dks dF_16 DX12_sheet (i := 31) rfl rfl rfl) (by decide) ?_
          refine lv_icmp_ge (tgt := 78) hx hb (dkS dF_162 DX12_sheet (i := 32) rfl rfl rfl) (by decide) (fun h => absurd h (by decide)) (fun _ => ?_)
          refine lv_aload_n hx hb (dkP dF_42 DX12_sheet (i := 33) rfl rfl) rfl (lv_at hl 1 rfl) ?_
          refine z_gr C0 hw 0 52 35 rfl fl_X12_132 (dk2 dF_180 DX12_sheet (i := 34) rfl rfl rfl) ?_
          refine lv_bipush (v := 60) hx hb (dks dF_16 DX12_sheet (i := 35) rfl rfl rfl) (by decide) ?_
          refine lv_iload_n hx hb (dkP dF_27 DX12_sheet (i := 36) rfl rfl) rfl (lv_at hl 2 rfl) ?_
          refine lv_imul hx hb (dkP dF_104 DX12_sheet (i := 37) rfl rfl) ?_
          refine z_top (y := nI (60 * k_sl)) (by simp only [fa_lit, nI_add, pk_mul]) ?_
          refine lv_iload hx hb (dk1 dF_21 DX12_sheet (i := 38) rfl rfl rfl) (lv_at hl 0 rfl) ?_
          refine lv_iadd hx hb (dkP dF_96 DX12_sheet (i := 39) rfl rfl) ?_
          refine z_top (y := nI ((60 * k_sl) + 15)) (by simp only [fa_lit, nI_add, pk_mul]) ?_
          refine lv_lconst (v := 0) hx hb (dkP dF_9 DX12_sheet (i := 40) rfl rfl) (by decide) ?_
          refine z_lastN (n := 240) C0 hw 35 ((60 * k_sl) + 15) rfl (by omega) (by decide) (dkP dF_80 DX12_sheet (i := 41) rfl rfl) (fun H locs hw => ?_)
          refine lv_iinc (v := 16) (lv' := [(4, .int 16), (0, .ref (ad 0)), (1, .int (nI k_sl)), (2, .int (nI k_w)), (3, .int n)]) hx hb (dkI DX12_sheet (i := 42) rfl rfl rfl rfl) hl (k := 0) rfl (by decide) (by decide) rfl (fun ls hl => ?_)
          refine lv_goto (tgt := 52) hx hb (dkS dF_167 DX12_sheet (i := 43) rfl rfl rfl) (by decide) ?_
          refine lv_iload hx hb (dk1 dF_21 DX12_sheet (i := 30) rfl rfl rfl) (lv_at hl 0 rfl) ?_
          refine lv_bipush (v := 60) hx hb (dks dF_16 DX12_sheet (i := 31) rfl rfl rfl) (by decide) ?_
          refine lv_icmp_ge (tgt := 78) hx hb (dkS dF_162 DX12_sheet (i := 32) rfl rfl rfl) (by decide) (fun h => absurd h (by decide)) (fun _ => ?_)
          refine lv_aload_n hx hb (dkP dF_42 DX12_sheet (i := 33) rfl rfl) rfl (lv_at hl 1 rfl) ?_
          refine z_gr C0 hw 0 52 35 rfl fl_X12_132 (dk2 dF_180 DX12_sheet (i := 34) rfl rfl rfl) ?_
          refine lv_bipush (v := 60) hx hb (dks dF_16 DX12_sheet (i := 35) rfl rfl rfl) (by decide) ?_
          refine lv_iload_n hx hb (dkP dF_27 DX12_sheet (i := 36) rfl rfl) rfl (lv_at hl 2 rfl) ?_
          refine lv_imul hx hb (dkP dF_104 DX12_sheet (i := 37) rfl rfl) ?_
          refine z_top (y := nI (60 * k_sl)) (by simp only [fa_lit, nI_add, pk_mul]) ?_
          refine lv_iload hx hb (dk1 dF_21 DX12_sheet (i := 38) rfl rfl rfl) (lv_at hl 0 rfl) ?_
          refine lv_iadd hx hb (dkP dF_96 DX12_sheet (i := 39) rfl rfl) ?_
          refine z_top (y := nI ((60 * k_sl) + 16)) (by simp only [fa_lit, nI_add, pk_mul]) ?_
          refine lv_lconst (v := 0) hx hb (dkP dF_9 DX12_sheet (i := 40) rfl rfl) (by decide) ?_
          refine z_lastN (n := 240) C0 hw 35 ((60 * k_sl) + 16) rfl (by omega) (by decide) (dkP dF_80 DX12_sheet (i := 41) rfl rfl) (fun H locs hw => ?_)
          refine lv_iinc (v := 17) (lv' := [(4, .int 17), (0, .ref (ad 0)), (1, .int (nI k_sl)), (2, .int (nI k_w)), (3, .int n)]) hx hb (dkI DX12_sheet (i := 42) rfl rfl rfl rfl) hl (k := 0) rfl (by decide) (by decide) rfl (fun ls hl => ?_)
          refine lv_goto (tgt := 52) hx hb (dkS dF_167 DX12_sheet (i := 43) rfl rfl rfl) (by decide) ?_
          refine lv_iload hx hb (dk1 dF_21 DX12_sheet (i := 30) rfl rfl rfl) (lv_at hl 0 rfl) ?_
          refine lv_bipush (v := 60) hx hb (dks dF_16 DX12_sheet (i := 31) rfl rfl rfl) (by decide) ?_
          refine lv_icmp_ge (tgt := 78) hx hb (dkS dF_162 DX12_sheet (i := 32) rfl rfl rfl) (by decide) (fun h => absurd h (by decide)) (fun _ => ?_)
          refine lv_aload_n hx hb (dkP dF_42 DX12_sheet (i := 33) rfl rfl) rfl (lv_at hl 1 rfl) ?_
          refine z_gr C0 hw 0 52 35 rfl fl_X12_132 (dk2 dF_180 DX12_sheet (i := 34) rfl rfl rfl) ?_
          refine lv_bipush (v := 60) hx hb (dks dF_16 DX12_sheet (i := 35) rfl rfl rfl) (by decide) ?_
          refine lv_iload_n hx hb (dkP dF_27 DX12_sheet (i := 36) rfl rfl) rfl (lv_at hl 2 rfl) ?_
          refine lv_imul hx hb (dkP dF_104 DX12_sheet (i := 37) rfl rfl) ?_
          refine z_top (y := nI (60 * k_sl)) (by simp only [fa_lit, nI_add, pk_mul]) ?_
          refine lv_iload hx hb (dk1 dF_21 DX12_sheet (i := 38) rfl rfl rfl) (lv_at hl 0 rfl) ?_
          refine lv_iadd hx hb (dkP dF_96 DX12_sheet (i := 39) rfl rfl) ?_
          refine z_top (y := nI ((60 * k_sl) + 17)) (by simp only [fa_lit, nI_add, pk_mul]) ?_
          refine lv_lconst (v := 0) hx hb (dkP dF_9 DX12_sheet (i := 40) rfl rfl) (by decide) ?_
          refine z_lastN (n := 240) C0 hw 35 ((60 * k_sl) + 17) rfl (by omega) (by decide) (dkP dF_80 DX12_sheet (i := 41) rfl rfl) (fun H locs hw => ?_)
          refine lv_iinc (v := 18) (lv' := [(4, .int 18), (0, .ref (ad 0)), (1, .int (nI k_sl)), (2, .int (nI k_w)), (3, .int n)]) hx hb (dkI DX12_sheet (i := 42) rfl rfl rfl rfl) hl (k := 0) rfl (by decide) (by decide) rfl (fun ls hl => ?_)
          refine lv_goto (tgt := 52) hx hb (dkS dF_167 DX12_sheet (i := 43) rfl rfl rfl) (by decide) ?_
          refine lv_iload hx hb (dk1 dF_21 DX12_sheet (i := 30) rfl rfl rfl) (lv_at hl 0 rfl) ?_
          refine lv_bipush (v := 60) hx hb (dks dF_16 DX12_sheet (i := 31) rfl rfl rfl) (by decide) ?_
          refine lv_icmp_ge (tgt := 78) hx hb (dkS dF_162 DX12_sheet (i := 32) rfl rfl rfl) (by decide) (fun h => absurd h (by decide)) (fun _ => ?_)
          refine lv_aload_n hx hb (dkP dF_42 DX12_sheet (i := 33) rfl rfl) rfl (lv_at hl 1 rfl) ?_
          refine z_gr C0 hw 0 52 35 rfl fl_X12_132 (dk2 dF_180 DX12_sheet (i := 34) rfl rfl rfl) ?_
          refine lv_bipush (v := 60) hx hb (dks dF_16 DX12_sheet (i := 35) rfl rfl rfl) (by decide) ?_
          refine lv_iload_n hx hb (dkP dF_27 DX12_sheet (i := 36) rfl rfl) rfl (lv_at hl 2 rfl) ?_
          refine lv_imul hx hb (dkP dF_104 DX12_sheet (i := 37) rfl rfl) ?_
          refine z_top (y := nI (60 * k_sl)) (by simp only [fa_lit, nI_add, pk_mul]) ?_
          refine lv_iload hx hb (dk1 dF_21 DX12_sheet (i := 38) rfl rfl rfl) (lv_at hl 0 rfl) ?_
          refine lv_iadd hx hb (dkP dF_96 DX12_sheet (i := 39) rfl rfl) ?_
          refine z_top (y := nI ((60 * k_sl) + 18)) (by simp only [fa_lit, nI_add, pk_mul]) ?_
          refine lv_lconst (v := 0) hx hb (dkP dF_9 DX12_sheet (i := 40) rfl rfl) (by decide) ?_
          refine z_lastN (n := 240) C0 hw 35 ((60 * k_sl) + 18) rfl (by omega) (by decide) (dkP dF_80 DX12_sheet (i := 41) rfl rfl) (fun H locs hw => ?_)
          refine lv_iinc (v := 19) (lv' := [(4, .int 19), (0, .ref (ad 0)), (1, .int (nI k_sl)), (2, .int (nI k_w)), (3, .int n)]) hx hb (dkI DX12_sheet (i := 42) rfl rfl rfl rfl) hl (k := 0) rfl (by decide) (by decide) rfl (fun ls hl => ?_)
          refine lv_goto (tgt := 52) hx hb (dkS dF_167 DX12_sheet (i := 43) rfl rfl rfl) (by decide) ?_
          refine lv_iload hx hb (dk1 dF_21 DX12_sheet (i := 30) rfl rfl rfl) (lv_at hl 0 rfl) ?_
          refine lv_bipush (v := 60) hx hb (dks dF_16 DX12_sheet (i := 31) rfl rfl rfl) (by decide) ?_
          refine lv_icmp_ge (tgt := 78) hx hb (dkS dF_162 DX12_sheet (i := 32) rfl rfl rfl) (by decide) (fun h => absurd h (by decide)) (fun _ => ?_)
          refine lv_aload_n hx hb (dkP dF_42 DX12_sheet (i := 33) rfl rfl) rfl (lv_at hl 1 rfl) ?_
          refine z_gr C0 hw 0 52 35 rfl fl_X12_132 (dk2 dF_180 DX12_sheet (i := 34) rfl rfl rfl) ?_
          refine lv_bipush (v := 60) hx hb (dks dF_16 DX12_sheet (i := 35) rfl rfl rfl) (by decide) ?_
          refine lv_iload_n hx hb (dkP dF_27 DX12_sheet (i := 36) rfl rfl) rfl (lv_at hl 2 rfl) ?_
          refine lv_imul hx hb (dkP dF_104 DX12_sheet (i := 37) rfl rfl) ?_
          refine z_top (y := nI (60 * k_sl)) (by simp only [fa_lit, nI_add, pk_mul]) ?_
          refine lv_iload hx hb (dk1 dF_21 DX12_sheet (i := 38) rfl rfl rfl) (lv_at hl 0 rfl) ?_
          refine lv_iadd hx hb (dkP dF_96 DX12_sheet (i := 39) rfl rfl) ?_
          refine z_top (y := nI ((60 * k_sl) + 19)) (by simp only [fa_lit, nI_add, pk_mul]) ?_
          refine lv_lconst (v := 0) hx hb (dkP dF_9 DX12_sheet (i := 40) rfl rfl) (by decide) ?_
          refine z_lastN (n := 240) C0 hw 35 ((60 * k_sl) + 19) rfl (by omega) (by decide) (dkP dF_80 DX12_sheet (i := 41) rfl rfl) (fun H locs hw => ?_)
          refine lv_iinc (v := 20) (lv' := [(4, .int 20), (0, .ref (ad 0)), (1, .int (nI k_sl)), (2, .int (nI k_w)), (3, .int n)]) hx hb (dkI DX12_sheet (i := 42) rfl rfl rfl rfl) hl (k := 0) rfl (by decide) (by decide) rfl (fun ls hl => ?_)
          refine lv_goto (tgt := 52) hx hb (dkS dF_167 DX12_sheet (i := 43) rfl rfl rfl) (by decide) ?_
          refine lv_iload hx hb (dk1 dF_21 DX12_sheet (i := 30) rfl rfl rfl) (lv_at hl 0 rfl) ?_
          refine lv_bipush (v := 60) hx hb (dks dF_16 DX12_sheet (i := 31) rfl rfl rfl) (by decide) ?_
          refine lv_icmp_ge (tgt := 78) hx hb (dkS dF_162 DX12_sheet (i := 32) rfl rfl rfl) (by decide) (fun h => absurd h (by decide)) (fun _ => ?_)
          refine lv_aload_n hx hb (dkP dF_42 DX12_sheet (i := 33) rfl rfl) rfl (lv_at hl 1 rfl) ?_
          refine z_gr C0 hw 0 52 35 rfl fl_X12_132 (dk2 dF_180 DX12_sheet (i := 34) rfl rfl rfl) ?_
          refine lv_bipush (v := 60) hx hb (dks dF_16 DX12_sheet (i := 35) rfl rfl rfl) (by decide) ?_
          refine lv_iload_n hx hb (dkP dF_27 DX12_sheet (i := 36) rfl rfl) rfl (lv_at hl 2 rfl) ?_
          refine lv_imul hx hb (dkP dF_104 DX12_sheet (i := 37) rfl rfl) ?_
          refine z_top (y := nI (60 * k_sl)) (by simp only [fa_lit, nI_add, pk_mul]) ?_
          refine lv_iload hx hb (dk1 dF_21 DX12_sheet (i := 38) rfl rfl rfl) (lv_at hl 0 rfl) ?_
          refine lv_iadd hx hb (dkP dF_96 DX12_sheet (i := 39) rfl rfl) ?_
          refine z_top (y := nI ((60 * k_sl) + 20)) (by simp only [fa_lit, nI_add, pk_mul]) ?_
          refine lv_lconst (v := 0) hx hb (dkP dF_9 DX12_sheet (i := 40) rfl rfl) (by decide) ?_
          refine z_lastN (n := 240) C0 hw 35 ((60 * k_sl) + 20) rfl (by omega) (by decide) (dkP dF_80 DX12_sheet (i := 41) rfl rfl) (fun H locs hw => ?_)
          refine lv_iinc (v := 21) (lv' := [(4, .int 21), (0, .ref (ad 0)), (1, .int (nI k_sl)), (2, .int (nI k_w)), (3, .int n)]) hx hb (dkI DX12_sheet (i := 42) rfl rfl rfl rfl) hl (k := 0) rfl (by decide) (by decide) rfl (fun ls hl => ?_)
          refine lv_goto (tgt := 52) hx hb (dkS dF_167 DX12_sheet (i := 43) rfl rfl rfl) (by decide) ?_
          refine lv_iload hx hb (dk1 dF_21 DX12_sheet (i := 30) rfl rfl rfl) (lv_at hl 0 rfl) ?_
          refine lv_bipush (v := 60) hx hb (dks dF_16 DX12_sheet (i := 31) rfl rfl rfl) (by decide) ?_
          refine lv_icmp_ge (tgt := 78) hx hb (dkS dF_162 DX12_sheet (i := 32) rfl rfl rfl) (by decide) (fun h => absurd h (by decide)) (fun _ => ?_)
          refine lv_aload_n hx hb (dkP dF_42 DX12_sheet (i := 33) rfl rfl) rfl (lv_at hl 1 rfl) ?_
          refine z_gr C0 hw 0 52 35 rfl fl_X12_132 (dk2 dF_180 DX12_sheet (i := 34) rfl rfl rfl) ?_
          refine lv_bipush (v := 60) hx hb (dks dF_16 DX12_sheet (i := 35) rfl rfl rfl) (by decide) ?_
          refine lv_iload_n hx hb (dkP dF_27 DX12_sheet (i := 36) rfl rfl) rfl (lv_at hl 2 rfl) ?_
          refine lv_imul hx hb (dkP dF_104 DX12_sheet (i := 37) rfl rfl) ?_
          refine z_top (y := nI (60 * k_sl)) (by simp only [fa_lit, nI_add, pk_mul]) ?_
          refine lv_iload hx hb (dk1 dF_21 DX12_sheet (i := 38) rfl rfl rfl) (lv_at hl 0 rfl) ?_
          refine lv_iadd hx hb (dkP dF_96 DX12_sheet (i := 39) rfl rfl) ?_
          refine z_top (y := nI ((60 * k_sl) + 21)) (by simp only [fa_lit, nI_add, pk_mul]) ?_
          refine lv_lconst (v := 0) hx hb (dkP dF_9 DX12_sheet (i := 40) rfl rfl) (by decide) ?_
          refine z_lastN (n := 240) C0 hw 35 ((60 * k_sl) + 21) rfl (by omega) (by decide) (dkP dF_80 DX12_sheet (i := 41) rfl rfl) (fun H locs hw => ?_)
          refine lv_iinc (v := 22) (lv' := [(4, .int 22), (0, .ref (ad 0)), (1, .int (nI k_sl)), (2, .int (nI k_w)), (3, .int n)]) hx hb (dkI DX12_sheet (i := 42) rfl rfl rfl rfl) hl (k := 0) rfl (by decide) (by decide) rfl (fun ls hl => ?_)
          refine lv_goto (tgt := 52) hx hb (dkS dF_167 DX12_sheet (i := 43) rfl rfl rfl) (by decide) ?_
          refine lv_iload hx hb (dk1 dF_21 DX12_sheet (i := 30) rfl rfl rfl) (lv_at hl 0 rfl) ?_
          refine lv_bipush (v := 60) hx hb (dks dF_16 DX12_sheet (i := 31) rfl rfl rfl) (by decide) ?_
          refine lv_icmp_ge (tgt := 78) hx hb (dkS dF_162 DX12_sheet (i := 32) rfl rfl rfl) (by decide) (fun h => absurd h (by decide)) (fun _ => ?_)
          refine lv_aload_n hx hb (dkP dF_42 DX12_sheet (i := 33) rfl rfl) rfl (lv_at hl 1 rfl) ?_
          refine z_gr C0 hw 0 52 35 rfl fl_X12_132 (dk2 dF_180 DX12_sheet (i := 34) rfl rfl rfl) ?_
          refine lv_bipush (v := 60) hx hb (dks dF_16 DX12_sheet (i := 35) rfl rfl rfl) (by decide) ?_
          refine lv_iload_n hx hb (dkP dF_27 DX12_sheet (i := 36) rfl rfl) rfl (lv_at hl 2 rfl) ?_
          refine lv_imul hx hb (dkP dF_104 DX12_sheet (i := 37) rfl rfl) ?_
          refine z_top (y := nI (60 * k_sl)) (by simp only [fa_lit, nI_add, pk_mul]) ?_
          refine lv_iload hx hb (dk1 dF_21 DX12_sheet (i := 38) rfl rfl rfl) (lv_at hl 0 rfl) ?_
          refine lv_iadd hx hb (dkP dF_96 DX12_sheet (i := 39) rfl rfl) ?_
          refine z_top (y := nI ((60 * k_sl) + 22)) (by simp only [fa_lit, nI_add, pk_mul]) ?_
          refine lv_lconst (v := 0) hx hb (dkP dF_9 DX12_sheet (i := 40) rfl rfl) (by decide) ?_
          refine z_lastN (n := 240) C0 hw 35 ((60 * k_sl) + 22) rfl (by omega) (by decide) (dkP dF_80 DX12_sheet (i := 41) rfl rfl) (fun H locs hw => ?_)
          refine lv_iinc (v := 23) (lv' := [(4, .int 23), (0, .ref (ad 0)), (1, .int (nI k_sl)), (2, .int (nI k_w)), (3, .int n)]) hx hb (dkI DX12_sheet (i := 42) rfl rfl rfl rfl) hl (k := 0) rfl (by decide) (by decide) rfl (fun ls hl => ?_)
          refine lv_goto (tgt := 52) hx hb (dkS dF_167 DX12_sheet (i := 43) rfl rfl rfl) (by decide) ?_
          refine lv_iload hx hb (dk1 dF_21 DX12_sheet (i := 30) rfl rfl rfl) (lv_at hl 0 rfl) ?_
          refine lv_bipush (v := 60) hx hb (dks dF_16 DX12_sheet (i := 31) rfl rfl rfl) (by decide) ?_
          refine lv_icmp_ge (tgt := 78) hx hb (dkS dF_162 DX12_sheet (i := 32) rfl rfl rfl) (by decide) (fun h => absurd h (by decide)) (fun _ => ?_)
          refine lv_aload_n hx hb (dkP dF_42 DX12_sheet (i := 33) rfl rfl) rfl (lv_at hl 1 rfl) ?_
          refine z_gr C0 hw 0 52 35 rfl fl_X12_132 (dk2 dF_180 DX12_sheet (i := 34) rfl rfl rfl) ?_
          refine lv_bipush (v := 60) hx hb (dks dF_16 DX12_sheet (i := 35) rfl rfl rfl) (by decide) ?_
          refine lv_iload_n hx hb (dkP dF_27 DX12_sheet (i := 36) rfl rfl) rfl (lv_at hl 2 rfl) ?_
          refine lv_imul hx hb (dkP dF_104 DX12_sheet (i := 37) rfl rfl) ?_
          refine z_top (y := nI (60 * k_sl)) (by simp only [fa_lit, nI_add, pk_mul]) ?_
          refine lv_iload hx hb (dk1 dF_21 DX12_sheet (i := 38) rfl rfl rfl) (lv_at hl 0 rfl) ?_
          refine lv_iadd hx hb (dkP dF_96 DX12_sheet (i := 39) rfl rfl) ?_
          refine z_top (y := nI ((60 * k_sl) + 23)) (by simp only [fa_lit, nI_add, pk_mul]) ?_
          refine lv_lconst (v := 0) hx hb (dkP dF_9 DX12_sheet (i := 40) rfl rfl) (by decide) ?_
          refine z_lastN (n := 240) C0 hw 35 ((60 * k_sl) + 23) rfl (by omega) (by decide) (dkP dF_80 DX12_sheet (i := 41) rfl rfl) (fun H locs hw => ?_)
          refine lv_iinc (v := 24) (lv' := [(4, .int 24), (0, .ref (ad 0)), (1, .int (nI k_sl)), (2, .int (nI k_w)), (3, .int n)]) hx hb (dkI DX12_sheet (i := 42) rfl rfl rfl rfl) hl (k := 0) rfl (by decide) (by decide) rfl (fun ls hl => ?_)
          refine lv_goto (tgt := 52) hx hb (dkS dF_167 DX12_sheet (i := 43) rfl rfl rfl) (by decide) ?_
          refine lv_iload hx hb (dk1 dF_21 DX12_sheet (i := 30) rfl rfl rfl) (lv_at hl 0 rfl) ?_
          refine lv_bipush (v := 60) hx hb (dks dF_16 DX12_sheet (i := 31) rfl rfl rfl) (by decide) ?_
          refine lv_icmp_ge (tgt := 78) hx hb (dkS dF_162 DX12_sheet (i := 32) rfl rfl rfl) (by decide) (fun h => absurd h (by decide)) (fun _ => ?_)
          refine lv_aload_n hx hb (dkP dF_42 DX12_sheet (i := 33) rfl rfl) rfl (lv_at hl 1 rfl) ?_
          refine z_gr C0 hw 0 52 35 rfl fl_X12_132 (dk2 dF_180 DX12_sheet (i := 34) rfl rfl rfl) ?_
          refine lv_bipush (v := 60) hx hb (dks dF_16 DX12_sheet (i := 35) rfl rfl rfl) (by decide) ?_
          refine lv_iload_n hx hb (dkP dF_27 DX12_sheet (i := 36) rfl rfl) rfl (lv_at hl 2 rfl) ?_
          refine lv_imul hx hb (dkP dF_104 DX12_sheet (i := 37) rfl rfl) ?_
          refine z_top (y := nI (60 * k_sl)) (by simp only [fa_lit, nI_add, pk_mul]) ?_
          refine lv_iload hx hb (dk1 dF_21 DX12_sheet (i := 38) rfl rfl rfl) (lv_at hl 0 rfl) ?_
          refine lv_iadd hx hb (dkP dF_96 DX12_sheet (i := 39) rfl rfl) ?_
          refine z_top (y := nI ((60 * k_sl) + 24)) (by simp only [fa_lit, nI_add, pk_mul]) ?_
          refine lv_lconst (v := 0) hx hb (dkP dF_9 DX12_sheet (i := 40) rfl rfl) (by decide) ?_
          refine z_lastN (n := 240) C0 hw 35 ((60 * k_sl) + 24) rfl (by omega) (by decide) (dkP dF_80 DX12_sheet (i := 41) rfl rfl) (fun H locs hw => ?_)
          refine lv_iinc (v := 25) (lv' := [(4, .int 25), (0, .ref (ad 0)), (1, .int (nI k_sl)), (2, .int (nI k_w)), (3, .int n)]) hx hb (dkI DX12_sheet (i := 42) rfl rfl rfl rfl) hl (k := 0) rfl (by decide) (by decide) rfl (fun ls hl => ?_)
          refine lv_goto (tgt := 52) hx hb (dkS dF_167 DX12_sheet (i := 43) rfl rfl rfl) (by decide) ?_
          refine lv_iload hx hb (dk1 dF_21 DX12_sheet (i := 30) rfl rfl rfl) (lv_at hl 0 rfl) ?_
          refine lv_bipush (v := 60) hx hb (dks dF_16 DX12_sheet (i := 31) rfl rfl rfl) (by decide) ?_
          refine lv_icmp_ge (tgt := 78) hx hb (dkS dF_162 DX12_sheet (i := 32) rfl rfl rfl) (by decide) (fun h => absurd h (by decide)) (fun _ => ?_)
          refine lv_aload_n hx hb (dkP dF_42 DX12_sheet (i := 33) rfl rfl) rfl (lv_at hl 1 rfl) ?_
          refine z_gr C0 hw 0 52 35 rfl fl_X12_132 (dk2 dF_180 DX12_sheet (i := 34) rfl rfl rfl) ?_
          refine lv_bipush (v := 60) hx hb (dks dF_16 DX12_sheet (i := 35) rfl rfl rfl) (by decide) ?_
          refine lv_iload_n hx hb (dkP dF_27 DX12_sheet (i := 36) rfl rfl) rfl (lv_at hl 2 rfl) ?_
          refine lv_imul hx hb (dkP dF_104 DX12_sheet (i := 37) rfl rfl) ?_
          refine z_top (y := nI (60 * k_sl)) (by simp only [fa_lit, nI_add, pk_mul]) ?_
          refine lv_iload hx hb (dk1 dF_21 DX12_sheet (i := 38) rfl rfl rfl) (lv_at hl 0 rfl) ?_
          refine lv_iadd hx hb (dkP dF_96 DX12_sheet (i := 39) rfl rfl) ?_
          refine z_top (y := nI ((60 * k_sl) + 25)) (by simp only [fa_lit, nI_add, pk_mul]) ?_
          refine lv_lconst (v := 0) hx hb (dkP dF_9 DX12_sheet (i := 40) rfl rfl) (by decide) ?_
          refine z_lastN (n := 240) C0 hw 35 ((60 * k_sl) + 25) rfl (by omega) (by decide) (dkP dF_80 DX12_sheet (i := 41) rfl rfl) (fun H locs hw => ?_)
          refine lv_iinc (v := 26) (lv' := [(4, .int 26), (0, .ref (ad 0)), (1, .int (nI k_sl)), (2, .int (nI k_w)), (3, .int n)]) hx hb (dkI DX12_sheet (i := 42) rfl rfl rfl rfl) hl (k := 0) rfl (by decide) (by decide) rfl (fun ls hl => ?_)
          refine lv_goto (tgt := 52) hx hb (dkS dF_167 DX12_sheet (i := 43) rfl rfl rfl) (by decide) ?_
          refine lv_iload hx hb (dk1 dF_21 DX12_sheet (i := 30) rfl rfl rfl) (lv_at hl 0 rfl) ?_
          refine lv_bipush (v := 60) hx hb (dks dF_16 DX12_sheet (i := 31) rfl rfl rfl) (by decide) ?_
          refine lv_icmp_ge (tgt := 78) hx hb (dkS dF_162 DX12_sheet (i := 32) rfl rfl rfl) (by decide) (fun h => absurd h (by decide)) (fun _ => ?_)
          refine lv_aload_n hx hb (dkP dF_42 DX12_sheet (i := 33) rfl rfl) rfl (lv_at hl 1 rfl) ?_
          refine z_gr C0 hw 0 52 35 rfl fl_X12_132 (dk2 dF_180 DX12_sheet (i := 34) rfl rfl rfl) ?_
          refine lv_bipush (v := 60) hx hb (dks dF_16 DX12_sheet (i := 35) rfl rfl rfl) (by decide) ?_
          refine lv_iload_n hx hb (dkP dF_27 DX12_sheet (i := 36) rfl rfl) rfl (lv_at hl 2 rfl) ?_
          refine lv_imul hx hb (dkP dF_104 DX12_sheet (i := 37) rfl rfl) ?_
          refine z_top (y := nI (60 * k_sl)) (by simp only [fa_lit, nI_add, pk_mul]) ?_
          refine lv_iload hx hb (dk1 dF_21 DX12_sheet (i := 38) rfl rfl rfl) (lv_at hl 0 rfl) ?_
          refine lv_iadd hx hb (dkP dF_96 DX12_sheet (i := 39) rfl rfl) ?_
          refine z_top (y := nI ((60 * k_sl) + 26)) (by simp only [fa_lit, nI_add, pk_mul]) ?_
          refine lv_lconst (v := 0) hx hb (dkP dF_9 DX12_sheet (i := 40) rfl rfl) (by decide) ?_
          refine z_lastN (n := 240) C0 hw 35 ((60 * k_sl) + 26) rfl (by omega) (by decide) (dkP dF_80 DX12_sheet (i := 41) rfl rfl) (fun H locs hw => ?_)
          refine lv_iinc (v := 27) (lv' := [(4, .int 27), (0, .ref (ad 0)), (1, .int (nI k_sl)), (2, .int (nI k_w)), (3, .int n)]) hx hb (dkI DX12_sheet (i := 42) rfl rfl rfl rfl) hl (k := 0) rfl (by decide) (by decide) rfl (fun ls hl => ?_)
          refine lv_goto (tgt := 52) hx hb (dkS dF_167 DX12_sheet (i := 43) rfl rfl rfl) (by decide) ?_
          refine lv_iload hx hb (dk1 dF_21 DX12_sheet (i := 30) rfl rfl rfl) (lv_at hl 0 rfl) ?_
          refine lv_bipush (v := 60) hx hb (dks dF_16 DX12_sheet (i := 31) rfl rfl rfl) (by decide) ?_
          refine lv_icmp_ge (tgt := 78) hx hb (dkS dF_162 DX12_sheet (i := 32) rfl rfl rfl) (by decide) (fun h => absurd h (by decide)) (fun _ => ?_)
          refine lv_aload_n hx hb (dkP dF_42 DX12_sheet (i := 33) rfl rfl) rfl (lv_at hl 1 rfl) ?_
          refine z_gr C0 hw 0 52 35 rfl fl_X12_132 (dk2 dF_180 DX12_sheet (i := 34) rfl rfl rfl) ?_
          refine lv_bipush (v := 60) hx hb (dks dF_16 DX12_sheet (i := 35) rfl rfl rfl) (by decide) ?_
          refine lv_iload_n hx hb (dkP dF_27 DX12_sheet (i := 36) rfl rfl) rfl (lv_at hl 2 rfl) ?_
          refine lv_imul hx hb (dkP dF_104 DX12_sheet (i := 37) rfl rfl) ?_
          refine z_top (y := nI (60 * k_sl)) (by simp only [fa_lit, nI_add, pk_mul]) ?_
          refine lv_iload hx hb (dk1 dF_21 DX12_sheet (i := 38) rfl rfl rfl) (lv_at hl 0 rfl) ?_
          refine lv_iadd hx hb (dkP dF_96 DX12_sheet (i := 39) rfl rfl) ?_
          refine z_top (y := nI ((60 * k_sl) + 27)) (by simp only [fa_lit, nI_add, pk_mul]) ?_
          refine lv_lconst (v := 0) hx hb (dkP dF_9 DX12_sheet (i := 40) rfl rfl) (by decide) ?_
          refine z_lastN (n := 240) C0 hw 35 ((60 * k_sl) + 27) rfl (by omega) (by decide) (dkP dF_80 DX12_sheet (i := 41) rfl rfl) (fun H locs hw => ?_)
          refine lv_iinc (v := 28) (lv' := [(4, .int 28), (0, .ref (ad 0)), (1, .int (nI k_sl)), (2, .int (nI k_w)), (3, .int n)]) hx hb (dkI DX12_sheet (i := 42) rfl rfl rfl rfl) hl (k := 0) rfl (by decide) (by decide) rfl (fun ls hl => ?_)
          refine lv_goto (tgt := 52) hx hb (dkS dF_167 DX12_sheet (i := 43) rfl rfl rfl) (by decide) ?_
          refine lv_iload hx hb (dk1 dF_21 DX12_sheet (i := 30) rfl rfl rfl) (lv_at hl 0 rfl) ?_
          refine lv_bipush (v := 60) hx hb (dks dF_16 DX12_sheet (i := 31) rfl rfl rfl) (by decide) ?_
          refine lv_icmp_ge (tgt := 78) hx hb (dkS dF_162 DX12_sheet (i := 32) rfl rfl rfl) (by decide) (fun h => absurd h (by decide)) (fun _ => ?_)
          refine lv_aload_n hx hb (dkP dF_42 DX12_sheet (i := 33) rfl rfl) rfl (lv_at hl 1 rfl) ?_
          refine z_gr C0 hw 0 52 35 rfl fl_X12_132 (dk2 dF_180 DX12_sheet (i := 34) rfl rfl rfl) ?_
          refine lv_bipush (v := 60) hx hb (dks dF_16 DX12_sheet (i := 35) rfl rfl rfl) (by decide) ?_
          refine lv_iload_n hx hb (dkP dF_27 DX12_sheet (i := 36) rfl rfl) rfl (lv_at hl 2 rfl) ?_
          refine lv_imul hx hb (dkP dF_104 DX12_sheet (i := 37) rfl rfl) ?_
          refine z_top (y := nI (60 * k_sl)) (by simp only [fa_lit, nI_add, pk_mul]) ?_
          refine lv_iload hx hb (dk1 dF_21 DX12_sheet (i := 38) rfl rfl rfl) (lv_at hl 0 rfl) ?_
          refine lv_iadd hx hb (dkP dF_96 DX12_sheet (i := 39) rfl rfl) ?_
          refine z_top (y := nI ((60 * k_sl) + 28)) (by simp only [fa_lit, nI_add, pk_mul]) ?_
          refine lv_lconst (v := 0) hx hb (dkP dF_9 DX12_sheet (i := 40) rfl rfl) (by decide) ?_
          refine z_lastN (n := 240) C0 hw 35 ((60 * k_sl) + 28) rfl (by omega) (by decide) (dkP dF_80 DX12_sheet (i := 41) rfl rfl) (fun H locs hw => ?_)
          refine lv_iinc (v := 29) (lv' := [(4, .int 29), (0, .ref (ad 0)), (1, .int (nI k_sl)), (2, .int (nI k_w)), (3, .int n)]) hx hb (dkI DX12_sheet (i := 42) rfl rfl rfl rfl) hl (k := 0) rfl (by decide) (by decide) rfl (fun ls hl => ?_)
          refine lv_goto (tgt := 52) hx hb (dkS dF_167 DX12_sheet (i := 43) rfl rfl rfl) (by decide) ?_
          refine lv_iload hx hb (dk1 dF_21 DX12_sheet (i := 30) rfl rfl rfl) (lv_at hl 0 rfl) ?_
          refine lv_bipush (v := 60) hx hb (dks dF_16 DX12_sheet (i := 31) rfl rfl rfl) (by decide) ?_
          refine lv_icmp_ge (tgt := 78) hx hb (dkS dF_162 DX12_sheet (i := 32) rfl rfl rfl) (by decide) (fun h => absurd h (by decide)) (fun _ => ?_)
          refine lv_aload_n hx hb (dkP dF_42 DX12_sheet (i := 33) rfl rfl) rfl (lv_at hl 1 rfl) ?_
          refine z_gr C0 hw 0 52 35 rfl fl_X12_132 (dk2 dF_180 DX12_sheet (i := 34) rfl rfl rfl) ?_
          refine lv_bipush (v := 60) hx hb (dks dF_16 DX12_sheet (i := 35) rfl rfl rfl) (by decide) ?_
          refine lv_iload_n hx hb (dkP dF_27 DX12_sheet (i := 36) rfl rfl) rfl (lv_at hl 2 rfl) ?_
          refine lv_imul hx hb (dkP dF_104 DX12_sheet (i := 37) rfl rfl) ?_
          refine z_top (y := nI (60 * k_sl)) (by simp only [fa_lit, nI_add, pk_mul]) ?_
          refine lv_iload hx hb (dk1 dF_21 DX12_sheet (i := 38) rfl rfl rfl) (lv_at hl 0 rfl) ?_
          refine lv_iadd hx hb (dkP dF_96 DX12_sheet (i := 39) rfl rfl) ?_
          refine z_top (y := nI ((60 * k_sl) + 29)) (by simp only [fa_lit, nI_add, pk_mul]) ?_
          refine lv_lconst (v := 0) hx hb (dkP dF_9 DX12_sheet (i := 40) rfl rfl) (by decide) ?_
          refine z_lastN (n := 240) C0 hw 35 ((60 * k_sl) + 29) rfl (by omega) (by decide) (dkP dF_80 DX12_sheet (i := 41) rfl rfl) (fun H locs hw => ?_)
          refine lv_iinc (v := 30) (lv' := [(4, .int 30), (0, .ref (ad 0)), (1, .int (nI k_sl)), (2, .int (nI k_w)), (3, .int n)]) hx hb (dkI DX12_sheet (i := 42) rfl rfl rfl rfl) hl (k := 0) rfl (by decide) (by decide) rfl (fun ls hl => ?_)
          refine lv_goto (tgt := 52) hx hb (dkS dF_167 DX12_sheet (i := 43) rfl rfl rfl) (by decide) ?_
          refine lv_iload hx hb (dk1 dF_21 DX12_sheet (i := 30) rfl rfl rfl) (lv_at hl 0 rfl) ?_
          refine lv_bipush (v := 60) hx hb (dks dF_16 DX12_sheet (i := 31) rfl rfl rfl) (by decide) ?_
          refine lv_icmp_ge (tgt := 78) hx hb (dkS dF_162 DX12_sheet (i := 32) rfl rfl rfl) (by decide) (fun h => absurd h (by decide)) (fun _ => ?_)
          refine lv_aload_n hx hb (dkP dF_42 DX12_sheet (i := 33) rfl rfl) rfl (lv_at hl 1 rfl) ?_
          refine z_gr C0 hw 0 52 35 rfl fl_X12_132 (dk2 dF_180 DX12_sheet (i := 34) rfl rfl rfl) ?_
          refine lv_bipush (v := 60) hx hb (dks dF_16 DX12_sheet (i := 35) rfl rfl rfl) (by decide) ?_
          refine lv_iload_n hx hb (dkP dF_27 DX12_sheet (i := 36) rfl rfl) rfl (lv_at hl 2 rfl) ?_
          refine lv_imul hx hb (dkP dF_104 DX12_sheet (i := 37) rfl rfl) ?_
          refine z_top (y := nI (60 * k_sl)) (by simp only [fa_lit, nI_add, pk_mul]) ?_
          refine lv_iload hx hb (dk1 dF_21 DX12_sheet (i := 38) rfl rfl rfl) (lv_at hl 0 rfl) ?_
          refine lv_iadd hx hb (dkP dF_96 DX12_sheet (i := 39) rfl rfl) ?_
          refine z_top (y := nI ((60 * k_sl) + 30)) (by simp only [fa_lit, nI_add, pk_mul]) ?_
          refine lv_lconst (v := 0) hx hb (dkP dF_9 DX12_sheet (i := 40) rfl rfl) (by decide) ?_
          refine z_lastN (n := 240) C0 hw 35 ((60 * k_sl) + 30) rfl (by omega) (by decide) (dkP dF_80 DX12_sheet (i := 41) rfl rfl) (fun H locs hw => ?_)
          refine lv_iinc (v := 31) (lv' := [(4, .int 31), (0, .ref (ad 0)), (1, .int (nI k_sl)), (2, .int (nI k_w)), (3, .int n)]) hx hb (dkI DX12_sheet (i := 42) rfl rfl rfl rfl) hl (k := 0) rfl (by decide) (by decide) rfl (fun ls hl => ?_)
          refine lv_goto (tgt := 52) hx hb (dkS dF_167 DX12_sheet (i := 43) rfl rfl rfl) (by decide) ?_
          refine lv_iload hx hb (dk1 dF_21 DX12_sheet (i := 30) rfl rfl rfl) (lv_at hl 0 rfl) ?_
          refine lv_bipush (v := 60) hx hb (dks dF_16 DX12_sheet (i := 31) rfl rfl rfl) (by decide) ?_
          refine lv_icmp_ge (tgt := 78) hx hb (dkS dF_162 DX12_sheet (i := 32) rfl rfl rfl) (by decide) (fun h => absurd h (by decide)) (fun _ => ?_)
          refine lv_aload_n hx hb (dkP dF_42 DX12_sheet (i := 33) rfl rfl) rfl (lv_at hl 1 rfl) ?_
          refine z_gr C0 hw 0 52 35 rfl fl_X12_132 (dk2 dF_180 DX12_sheet (i := 34) rfl rfl rfl) ?_
          refine lv_bipush (v := 60) hx hb (dks dF_16 DX12_sheet (i := 35) rfl rfl rfl) (by decide) ?_
          refine lv_iload_n hx hb (dkP dF_27 DX12_sheet (i := 36) rfl rfl) rfl (lv_at hl 2 rfl) ?_
          refine lv_imul hx hb (dkP dF_104 DX12_sheet (i := 37) rfl rfl) ?_
          refine z_top (y := nI (60 * k_sl)) (by simp only [fa_lit, nI_add, pk_mul]) ?_
          refine lv_iload hx hb (dk1 dF_21 DX12_sheet (i := 38) rfl rfl rfl) (lv_at hl 0 rfl) ?_
          refine lv_iadd hx hb (dkP dF_96 DX12_sheet (i := 39) rfl rfl) ?_
          refine z_top (y := nI ((60 * k_sl) + 31)) (by simp only [fa_lit, nI_add, pk_mul]) ?_
          refine lv_lconst (v := 0) hx hb (dkP dF_9 DX12_sheet (i := 40) rfl rfl) (by decide) ?_
          refine z_lastN (n := 240) C0 hw 35 ((60 * k_sl) + 31) rfl (by omega) (by decide) (dkP dF_80 DX12_sheet (i := 41) rfl rfl) (fun H locs hw => ?_)
          refine lv_iinc (v := 32) (lv' := [(4, .int 32), (0, .ref (ad 0)), (1, .int (nI k_sl)), (2, .int (nI k_w)), (3, .int n)]) hx hb (dkI DX12_sheet (i := 42) rfl rfl rfl rfl) hl (k := 0) rfl (by decide) (by decide) rfl (fun ls hl => ?_)
          refine lv_goto (tgt := 52) hx hb (dkS dF_167 DX12_sheet (i := 43) rfl rfl rfl) (by decide) ?_
          refine lv_iload hx hb (dk1 dF_21 DX12_sheet (i := 30) rfl rfl rfl) (lv_at hl 0 rfl) ?_
          refine lv_bipush (v := 60) hx hb (dks dF_16 DX12_sheet (i := 31) rfl rfl rfl) (by decide) ?_
          refine lv_icmp_ge (tgt := 78) hx hb (dkS dF_162 DX12_sheet (i := 32) rfl rfl rfl) (by decide) (fun h => absurd h (by decide)) (fun _ => ?_)
          refine lv_aload_n hx hb (dkP dF_42 DX12_sheet (i := 33) rfl rfl) rfl (lv_at hl 1 rfl) ?_
          refine z_gr C0 hw 0 52 35 rfl fl_X12_132 (dk2 dF_180 DX12_sheet (i := 34) rfl rfl rfl) ?_
          refine lv_bipush (v := 60) hx hb (dks dF_16 DX12_sheet (i := 35) rfl rfl rfl) (by decide) ?_
          refine lv_iload_n hx hb (dkP dF_27 DX12_sheet (i := 36) rfl rfl) rfl (lv_at hl 2 rfl) ?_
          refine lv_imul hx hb (dkP dF_104 DX12_sheet (i := 37) rfl rfl) ?_
          refine z_top (y := nI (60 * k_sl)) (by simp only [fa_lit, nI_add, pk_mul]) ?_
          refine lv_iload hx hb (dk1 dF_21 DX12_sheet (i := 38) rfl rfl rfl) (lv_at hl 0 rfl) ?_
          refine lv_iadd hx hb (dkP dF_96 DX12_sheet (i := 39) rfl rfl) ?_
          refine z_top (y := nI ((60 * k_sl) + 32)) (by simp only [fa_lit, nI_add, pk_mul]) ?_
          refine lv_lconst (v := 0) hx hb (dkP dF_9 DX12_sheet (i := 40) rfl rfl) (by decide) ?_
          refine z_lastN (n := 240) C0 hw 35 ((60 * k_sl) + 32) rfl (by omega) (by decide) (dkP dF_80 DX12_sheet (i := 41) rfl rfl) (fun H locs hw => ?_)
          refine lv_iinc (v := 33) (lv' := [(4, .int 33), (0, .ref (ad 0)), (1, .int (nI k_sl)), (2, .int (nI k_w)), (3, .int n)]) hx hb (dkI DX12_sheet (i := 42) rfl rfl rfl rfl) hl (k := 0) rfl (by decide) (by decide) rfl (fun ls hl => ?_)
          refine lv_goto (tgt := 52) hx hb (dkS dF_167 DX12_sheet (i := 43) rfl rfl rfl) (by decide) ?_
          refine lv_iload hx hb (dk1 dF_21 DX12_sheet (i := 30) rfl rfl rfl) (lv_at hl 0 rfl) ?_
          refine lv_bipush (v := 60) hx hb (dks dF_16 DX12_sheet (i := 31) rfl rfl rfl) (by decide) ?_
          refine lv_icmp_ge (tgt := 78) hx hb (dkS dF_162 DX12_sheet (i := 32) rfl rfl rfl) (by decide) (fun h => absurd h (by decide)) (fun _ => ?_)
          refine lv_aload_n hx hb (dkP dF_42 DX12_sheet (i := 33) rfl rfl) rfl (lv_at hl 1 rfl) ?_
          refine z_gr C0 hw 0 52 35 rfl fl_X12_132 (dk2 dF_180 DX12_sheet (i := 34) rfl rfl rfl) ?_
          refine lv_bipush (v := 60) hx hb (dks dF_16 DX12_sheet (i := 35) rfl rfl rfl) (by decide) ?_
          refine lv_iload_n hx hb (dkP dF_27 DX12_sheet (i := 36) rfl rfl) rfl (lv_at hl 2 rfl) ?_
          refine lv_imul hx hb (dkP dF_104 DX12_sheet (i := 37) rfl rfl) ?_
          refine z_top (y := nI (60 * k_sl)) (by simp only [fa_lit, nI_add, pk_mul]) ?_
          refine lv_iload hx hb (dk1 dF_21 DX12_sheet (i := 38) rfl rfl rfl) (lv_at hl 0 rfl) ?_
          refine lv_iadd hx hb (dkP dF_96 DX12_sheet (i := 39) rfl rfl) ?_
          refine z_top (y := nI ((60 * k_sl) + 33)) (by simp only [fa_lit, nI_add, pk_mul]) ?_
          refine lv_lconst (v := 0) hx hb (dkP dF_9 DX12_sheet (i := 40) rfl rfl) (by decide) ?_
          refine z_lastN (n := 240) C0 hw 35 ((60 * k_sl) + 33) rfl (by omega) (by decide) (dkP dF_80 DX12_sheet (i := 41) rfl rfl) (fun H locs hw => ?_)
          refine lv_iinc (v := 34) (lv' := [(4, .int 34), (0, .ref (ad 0)), (1, .int (nI k_sl)), (2, .int (nI k_w)), (3, .int n)]) hx hb (dkI DX12_sheet (i := 42) rfl rfl rfl rfl) hl (k := 0) rfl (by decide) (by decide) rfl (fun ls hl => ?_)
          refine lv_goto (tgt := 52) hx hb (dkS dF_167 DX12_sheet (i := 43) rfl rfl rfl) (by decide) ?_
          refine lv_iload hx hb (dk1 dF_21 DX12_sheet (i := 30) rfl rfl rfl) (lv_at hl 0 rfl) ?_
          refine lv_bipush (v := 60) hx hb (dks dF_16 DX12_sheet (i := 31) rfl rfl rfl) (by decide) ?_
          refine lv_icmp_ge (tgt := 78) hx hb (dkS dF_162 DX12_sheet (i := 32) rfl rfl rfl) (by decide) (fun h => absurd h (by decide)) (fun _ => ?_)
          refine lv_aload_n hx hb (dkP dF_42 DX12_sheet (i := 33) rfl rfl) rfl (lv_at hl 1 rfl) ?_
          refine z_gr C0 hw 0 52 35 rfl fl_X12_132 (dk2 dF_180 DX12_sheet (i := 34) rfl rfl rfl) ?_
          refine lv_bipush (v := 60) hx hb (dks dF_16 DX12_sheet (i := 35) rfl rfl rfl) (by decide) ?_
          refine lv_iload_n hx hb (dkP dF_27 DX12_sheet (i := 36) rfl rfl) rfl (lv_at hl 2 rfl) ?_
          refine lv_imul hx hb (dkP dF_104 DX12_sheet (i := 37) rfl rfl) ?_
          refine z_top (y := nI (60 * k_sl)) (by simp only [fa_lit, nI_add, pk_mul]) ?_
          refine lv_iload hx hb (dk1 dF_21 DX12_sheet (i := 38) rfl rfl rfl) (lv_at hl 0 rfl) ?_
          refine lv_iadd hx hb (dkP dF_96 DX12_sheet (i := 39) rfl rfl) ?_
          refine z_top (y := nI ((60 * k_sl) + 34)) (by simp only [fa_lit, nI_add, pk_mul]) ?_
          refine lv_lconst (v := 0) hx hb (dkP dF_9 DX12_sheet (i := 40) rfl rfl) (by decide) ?_
          refine z_lastN (n := 240) C0 hw 35 ((60 * k_sl) + 34) rfl (by omega) (by decide) (dkP dF_80 DX12_sheet (i := 41) rfl rfl) (fun H locs hw => ?_)
          refine lv_iinc (v := 35) (lv' := [(4, .int 35), (0, .ref (ad 0)), (1, .int (nI k_sl)), (2, .int (nI k_w)), (3, .int n)]) hx hb (dkI DX12_sheet (i := 42) rfl rfl rfl rfl) hl (k := 0) rfl (by decide) (by decide) rfl (fun ls hl => ?_)
          refine lv_goto (tgt := 52) hx hb (dkS dF_167 DX12_sheet (i := 43) rfl rfl rfl) (by decide) ?_
          refine lv_iload hx hb (dk1 dF_21 DX12_sheet (i := 30) rfl rfl rfl) (lv_at hl 0 rfl) ?_
          refine lv_bipush (v := 60) hx hb (dks dF_16 DX12_sheet (i := 31) rfl rfl rfl) (by decide) ?_
          refine lv_icmp_ge (tgt := 78) hx hb (dkS dF_162 DX12_sheet (i := 32) rfl rfl rfl) (by decide) (fun h => absurd h (by decide)) (fun _ => ?_)
          refine lv_aload_n hx hb (dkP dF_42 DX12_sheet (i := 33) rfl rfl) rfl (lv_at hl 1 rfl) ?_
          refine z_gr C0 hw 0 52 35 rfl fl_X12_132 (dk2 dF_180 DX12_sheet (i := 34) rfl rfl rfl) ?_
          refine lv_bipush (v := 60) hx hb (dks dF_16 DX12_sheet (i := 35) rfl rfl rfl) (by decide) ?_
          refine lv_iload_n hx hb (dkP dF_27 DX12_sheet (i := 36) rfl rfl) rfl (lv_at hl 2 rfl) ?_
          refine lv_imul hx hb (dkP dF_104 DX12_sheet (i := 37) rfl rfl) ?_
          refine z_top (y := nI (60 * k_sl)) (by simp only [fa_lit, nI_add, pk_mul]) ?_
          refine lv_iload hx hb (dk1 dF_21 DX12_sheet (i := 38) rfl rfl rfl) (lv_at hl 0 rfl) ?_
          refine lv_iadd hx hb (dkP dF_96 DX12_sheet (i := 39) rfl rfl) ?_
          refine z_top (y := nI ((60 * k_sl) + 35)) (by simp only [fa_lit, nI_add, pk_mul]) ?_
          refine lv_lconst (v := 0) hx hb (dkP dF_9 DX12_sheet (i := 40) rfl rfl) (by decide) ?_
          refine z_lastN (n := 240) C0 hw 35 ((60 * k_sl) + 35) rfl (by omega) (by decide) (dkP dF_80 DX12_sheet (i := 41) rfl rfl) (fun H locs hw => ?_)
          refine lv_iinc (v := 36) (lv' := [(4, .int 36), (0, .ref (ad 0)), (1, .int (nI k_sl)), (2, .int (nI k_w)), (3, .int n)]) hx hb (dkI DX12_sheet (i := 42) rfl rfl rfl rfl) hl (k := 0) rfl (by decide) (by decide) rfl (fun ls hl => ?_)
          refine lv_goto (tgt := 52) hx hb (dkS dF_167 DX12_sheet (i := 43) rfl rfl rfl) (by decide) ?_
          refine lv_iload hx hb (dk1 dF_21 DX12_sheet (i := 30) rfl rfl rfl) (lv_at hl 0 rfl) ?_
          refine lv_bipush (v := 60) hx hb (dks dF_16 DX12_sheet (i := 31) rfl rfl rfl) (by decide) ?_
          refine lv_icmp_ge (tgt := 78) hx hb (dkS dF_162 DX12_sheet (i := 32) rfl rfl rfl) (by decide) (fun h => absurd h (by decide)) (fun _ => ?_)
          refine lv_aload_n hx hb (dkP dF_42 DX12_sheet (i := 33) rfl rfl) rfl (lv_at hl 1 rfl) ?_
          refine z_gr C0 hw 0 52 35 rfl fl_X12_132 (dk2 dF_180 DX12_sheet (i := 34) rfl rfl rfl) ?_
          refine lv_bipush (v := 60) hx hb (dks dF_16 DX12_sheet (i := 35) rfl rfl rfl) (by decide) ?_
          refine lv_iload_n hx hb (dkP dF_27 DX12_sheet (i := 36) rfl rfl) rfl (lv_at hl 2 rfl) ?_
          refine lv_imul hx hb (dkP dF_104 DX12_sheet (i := 37) rfl rfl) ?_
          refine z_top (y := nI (60 * k_sl)) (by simp only [fa_lit, nI_add, pk_mul]) ?_
          refine lv_iload hx hb (dk1 dF_21 DX12_sheet (i := 38) rfl rfl rfl) (lv_at hl 0 rfl) ?_
          refine lv_iadd hx hb (dkP dF_96 DX12_sheet (i := 39) rfl rfl) ?_
          refine z_top (y := nI ((60 * k_sl) + 36)) (by simp only [fa_lit, nI_add, pk_mul]) ?_
          refine lv_lconst (v := 0) hx hb (dkP dF_9 DX12_sheet (i := 40) rfl rfl) (by decide) ?_
          refine z_lastN (n := 240) C0 hw 35 ((60 * k_sl) + 36) rfl (by omega) (by decide) (dkP dF_80 DX12_sheet (i := 41) rfl rfl) (fun H locs hw => ?_)
          refine lv_iinc (v := 37) (lv' := [(4, .int 37), (0, .ref (ad 0)), (1, .int (nI k_sl)), (2, .int (nI k_w)), (3, .int n)]) hx hb (dkI DX12_sheet (i := 42) rfl rfl rfl rfl) hl (k := 0) rfl (by decide) (by decide) rfl (fun ls hl => ?_)
          refine lv_goto (tgt := 52) hx hb (dkS dF_167 DX12_sheet (i := 43) rfl rfl rfl) (by decide) ?_
          refine lv_iload hx hb (dk1 dF_21 DX12_sheet (i := 30) rfl rfl rfl) (lv_at hl 0 rfl) ?_
          refine lv_bipush (v := 60) hx hb (dks dF_16 DX12_sheet (i := 31) rfl rfl rfl) (by decide) ?_
          refine lv_icmp_ge (tgt := 78) hx hb (dkS dF_162 DX12_sheet (i := 32) rfl rfl rfl) (by decide) (fun h => absurd h (by decide)) (fun _ => ?_)
          refine lv_aload_n hx hb (dkP dF_42 DX12_sheet (i := 33) rfl rfl) rfl (lv_at hl 1 rfl) ?_
          refine z_gr C0 hw 0 52 35 rfl fl_X12_132 (dk2 dF_180 DX12_sheet (i := 34) rfl rfl rfl) ?_
          refine lv_bipush (v := 60) hx hb (dks dF_16 DX12_sheet (i := 35) rfl rfl rfl) (by decide) ?_
          refine lv_iload_n hx hb (dkP dF_27 DX12_sheet (i := 36) rfl rfl) rfl (lv_at hl 2 rfl) ?_
          refine lv_imul hx hb (dkP dF_104 DX12_sheet (i := 37) rfl rfl) ?_
          refine z_top (y := nI (60 * k_sl)) (by simp only [fa_lit, nI_add, pk_mul]) ?_
          refine lv_iload hx hb (dk1 dF_21 DX12_sheet (i := 38) rfl rfl rfl) (lv_at hl 0 rfl) ?_
          refine lv_iadd hx hb (dkP dF_96 DX12_sheet (i := 39) rfl rfl) ?_
          refine z_top (y := nI ((60 * k_sl) + 37)) (by simp only [fa_lit, nI_add, pk_mul]) ?_
          refine lv_lconst (v := 0) hx hb (dkP dF_9 DX12_sheet (i := 40) rfl rfl) (by decide) ?_
          refine z_lastN (n := 240) C0 hw 35 ((60 * k_sl) + 37) rfl (by omega) (by decide) (dkP dF_80 DX12_sheet (i := 41) rfl rfl) (fun H locs hw => ?_)
          refine lv_iinc (v := 38) (lv' := [(4, .int 38), (0, .ref (ad 0)), (1, .int (nI k_sl)), (2, .int (nI k_w)), (3, .int n)]) hx hb (dkI DX12_sheet (i := 42) rfl rfl rfl rfl) hl (k := 0) rfl (by decide) (by decide) rfl (fun ls hl => ?_)
          refine lv_goto (tgt := 52) hx hb (dkS dF_167 DX12_sheet (i := 43) rfl rfl rfl) (by decide) ?_
          refine lv_iload hx hb (dk1 dF_21 DX12_sheet (i := 30) rfl rfl rfl) (lv_at hl 0 rfl) ?_
          refine lv_bipush (v := 60) hx hb (dks dF_16 DX12_sheet (i := 31) rfl rfl rfl) (by decide) ?_
          refine lv_icmp_ge (tgt := 78) hx hb (dkS dF_162 DX12_sheet (i := 32) rfl rfl rfl) (by decide) (fun h => absurd h (by decide)) (fun _ => ?_)
          refine lv_aload_n hx hb (dkP dF_42 DX12_sheet (i := 33) rfl rfl) rfl (lv_at hl 1 rfl) ?_
          refine z_gr C0 hw 0 52 35 rfl fl_X12_132 (dk2 dF_180 DX12_sheet (i := 34) rfl rfl rfl) ?_
          refine lv_bipush (v := 60) hx hb (dks dF_16 DX12_sheet (i := 35) rfl rfl rfl) (by decide) ?_
          refine lv_iload_n hx hb (dkP dF_27 DX12_sheet (i := 36) rfl rfl) rfl (lv_at hl 2 rfl) ?_
          refine lv_imul hx hb (dkP dF_104 DX12_sheet (i := 37) rfl rfl) ?_
          refine z_top (y := nI (60 * k_sl)) (by simp only [fa_lit, nI_add, pk_mul]) ?_
          refine lv_iload hx hb (dk1 dF_21 DX12_sheet (i := 38) rfl rfl rfl) (lv_at hl 0 rfl) ?_
          refine lv_iadd hx hb (dkP dF_96 DX12_sheet (i := 39) rfl rfl) ?_
          refine z_top (y := nI ((60 * k_sl) + 38)) (by simp only [fa_lit, nI_add, pk_mul]) ?_
          refine lv_lconst (v := 0) hx hb (dkP dF_9 DX12_sheet (i := 40) rfl rfl) (by decide) ?_
          refine z_lastN (n := 240) C0 hw 35 ((60 * k_sl) + 38) rfl (by omega) (by decide) (dkP dF_80 DX12_sheet (i := 41) rfl rfl) (fun H locs hw => ?_)
          refine lv_iinc (v := 39) (lv' := [(4, .int 39), (0, .ref (ad 0)), (1, .int (nI k_sl)), (2, .int (nI k_w)), (3, .int n)]) hx hb (dkI DX12_sheet (i := 42) rfl rfl rfl rfl) hl (k := 0) rfl (by decide) (by decide) rfl (fun ls hl => ?_)
          refine lv_goto (tgt := 52) hx hb (dkS dF_167 DX12_sheet (i := 43) rfl rfl rfl) (by decide) ?_
          refine lv_iload hx hb (dk1 dF_21 DX12_sheet (i := 30) rfl rfl rfl) (lv_at hl 0 rfl) ?_
          refine lv_bipush (v := 60) hx hb (dks dF_16 DX12_sheet (i := 31) rfl rfl rfl) (by decide) ?_
          refine lv_icmp_ge (tgt := 78) hx hb (dkS dF_162 DX12_sheet (i := 32) rfl rfl rfl) (by decide) (fun h => absurd h (by decide)) (fun _ => ?_)
          refine lv_aload_n hx hb (dkP dF_42 DX12_sheet (i := 33) rfl rfl) rfl (lv_at hl 1 rfl) ?_
          refine z_gr C0 hw 0 52 35 rfl fl_X12_132 (dk2 dF_180 DX12_sheet (i := 34) rfl rfl rfl) ?_
          refine lv_bipush (v := 60) hx hb (dks dF_16 DX12_sheet (i := 35) rfl rfl rfl) (by decide) ?_
          refine lv_iload_n hx hb (dkP dF_27 DX12_sheet (i := 36) rfl rfl) rfl (lv_at hl 2 rfl) ?_
          refine lv_imul hx hb (dkP dF_104 DX12_sheet (i := 37) rfl rfl) ?_
          refine z_top (y := nI (60 * k_sl)) (by simp only [fa_lit, nI_add, pk_mul]) ?_
          refine lv_iload hx hb (dk1 dF_21 DX12_sheet (i := 38) rfl rfl rfl) (lv_at hl 0 rfl) ?_
          refine lv_iadd hx hb (dkP dF_96 DX12_sheet (i := 39) rfl rfl) ?_
          refine z_top (y := nI ((60 * k_sl) + 39)) (by simp only [fa_lit, nI_add, pk_mul]) ?_
          refine lv_lconst (v := 0) hx hb (dkP dF_9 DX12_sheet (i := 40) rfl rfl) (by decide) ?_
          refine z_lastN (n := 240) C0 hw 35 ((60 * k_sl) + 39) rfl (by omega) (by decide) (dkP dF_80 DX12_sheet (i := 41) rfl rfl) (fun H locs hw => ?_)
          refine lv_iinc (v := 40) (lv' := [(4, .int 40), (0, .ref (ad 0)), (1, .int (nI k_sl)), (2, .int (nI k_w)), (3, .int n)]) hx hb (dkI DX12_sheet (i := 42) rfl rfl rfl rfl) hl (k := 0) rfl (by decide) (by decide) rfl (fun ls hl => ?_)
          refine lv_goto (tgt := 52) hx hb (dkS dF_167 DX12_sheet (i := 43) rfl rfl rfl) (by decide) ?_
          refine lv_iload hx hb (dk1 dF_21 DX12_sheet (i := 30) rfl rfl rfl) (lv_at hl 0 rfl) ?_
          refine lv_bipush (v := 60) hx hb (dks dF_16 DX12_sheet (i := 31) rfl rfl rfl) (by decide) ?_
          refine lv_icmp_ge (tgt := 78) hx hb (dkS dF_162 DX12_sheet (i := 32) rfl rfl rfl) (by decide) (fun h => absurd h (by decide)) (fun _ => ?_)
          refine lv_aload_n hx hb (dkP dF_42 DX12_sheet (i := 33) rfl rfl) rfl (lv_at hl 1 rfl) ?_
          refine z_gr C0 hw 0 52 35 rfl fl_X12_132 (dk2 dF_180 DX12_sheet (i := 34) rfl rfl rfl) ?_
          refine lv_bipush (v := 60) hx hb (dks dF_16 DX12_sheet (i := 35) rfl rfl rfl) (by decide) ?_
          refine lv_iload_n hx hb (dkP dF_27 DX12_sheet (i := 36) rfl rfl) rfl (lv_at hl 2 rfl) ?_
          refine lv_imul hx hb (dkP dF_104 DX12_sheet (i := 37) rfl rfl) ?_
          refine z_top (y := nI (60 * k_sl)) (by simp only [fa_lit, nI_add, pk_mul]) ?_
          refine lv_iload hx hb (dk1 dF_21 DX12_sheet (i := 38) rfl rfl rfl) (lv_at hl 0 rfl) ?_
          refine lv_iadd hx hb (dkP dF_96 DX12_sheet (i := 39) rfl rfl) ?_
          refine z_top (y := nI ((60 * k_sl) + 40)) (by simp only [fa_lit, nI_add, pk_mul]) ?_
          refine lv_lconst (v := 0) hx hb (dkP dF_9 DX12_sheet (i := 40) rfl rfl) (by decide) ?_
          refine z_lastN (n := 240) C0 hw 35 ((60 * k_sl) + 40) rfl (by omega) (by decide) (dkP dF_80 DX12_sheet (i := 41) rfl rfl) (fun H locs hw => ?_)
          refine lv_iinc (v := 41) (lv' := [(4, .int 41), (0, .ref (ad 0)), (1, .int (nI k_sl)), (2, .int (nI k_w)), (3, .int n)]) hx hb (dkI DX12_sheet (i := 42) rfl rfl rfl rfl) hl (k := 0) rfl (by decide) (by decide) rfl (fun ls hl => ?_)
          refine lv_goto (tgt := 52) hx hb (dkS dF_167 DX12_sheet (i := 43) rfl rfl rfl) (by decide) ?_
          refine lv_iload hx hb (dk1 dF_21 DX12_sheet (i := 30) rfl rfl rfl) (lv_at hl 0 rfl) ?_
          refine lv_bipush (v := 60) hx hb (dks dF_16 DX12_sheet (i := 31) rfl rfl rfl) (by decide) ?_
          refine lv_icmp_ge (tgt := 78) hx hb (dkS dF_162 DX12_sheet (i := 32) rfl rfl rfl) (by decide) (fun h => absurd h (by decide)) (fun _ => ?_)
          refine lv_aload_n hx hb (dkP dF_42 DX12_sheet (i := 33) rfl rfl) rfl (lv_at hl 1 rfl) ?_
          refine z_gr C0 hw 0 52 35 rfl fl_X12_132 (dk2 dF_180 DX12_sheet (i := 34) rfl rfl rfl) ?_
          refine lv_bipush (v := 60) hx hb (dks dF_16 DX12_sheet (i := 35) rfl rfl rfl) (by decide) ?_
          refine lv_iload_n hx hb (dkP dF_27 DX12_sheet (i := 36) rfl rfl) rfl (lv_at hl 2 rfl) ?_
          refine lv_imul hx hb (dkP dF_104 DX12_sheet (i := 37) rfl rfl) ?_
          refine z_top (y := nI (60 * k_sl)) (by simp only [fa_lit, nI_add, pk_mul]) ?_
          refine lv_iload hx hb (dk1 dF_21 DX12_sheet (i := 38) rfl rfl rfl) (lv_at hl 0 rfl) ?_
          refine lv_iadd hx hb (dkP dF_96 DX12_sheet (i := 39) rfl rfl) ?_
          refine z_top (y := nI ((60 * k_sl) + 41)) (by simp only [fa_lit, nI_add, pk_mul]) ?_
          refine lv_lconst (v := 0) hx hb (dkP dF_9 DX12_sheet (i := 40) rfl rfl) (by decide) ?_
          refine z_lastN (n := 240) C0 hw 35 ((60 * k_sl) + 41) rfl (by omega) (by decide) (dkP dF_80 DX12_sheet (i := 41) rfl rfl) (fun H locs hw => ?_)
          refine lv_iinc (v := 42) (lv' := [(4, .int 42), (0, .ref (ad 0)), (1, .int (nI k_sl)), (2, .int (nI k_w)), (3, .int n)]) hx hb (dkI DX12_sheet (i := 42) rfl rfl rfl rfl) hl (k := 0) rfl (by decide) (by decide) rfl (fun ls hl => ?_)
          refine lv_goto (tgt := 52) hx hb (dkS dF_167 DX12_sheet (i := 43) rfl rfl rfl) (by decide) ?_
          refine lv_iload hx hb (dk1 dF_21 DX12_sheet (i := 30) rfl rfl rfl) (lv_at hl 0 rfl) ?_
          refine lv_bipush (v := 60) hx hb (dks dF_16 DX12_sheet (i := 31) rfl rfl rfl) (by decide) ?_
          refine lv_icmp_ge (tgt := 78) hx hb (dkS dF_162 DX12_sheet (i := 32) rfl rfl rfl) (by decide) (fun h => absurd h (by decide)) (fun _ => ?_)
          refine lv_aload_n hx hb (dkP dF_42 DX12_sheet (i := 33) rfl rfl) rfl (lv_at hl 1 rfl) ?_
          refine z_gr C0 hw 0 52 35 rfl fl_X12_132 (dk2 dF_180 DX12_sheet (i := 34) rfl rfl rfl) ?_
          refine lv_bipush (v := 60) hx hb (dks dF_16 DX12_sheet (i := 35) rfl rfl rfl) (by decide) ?_
          refine lv_iload_n hx hb (dkP dF_27 DX12_sheet (i := 36) rfl rfl) rfl (lv_at hl 2 rfl) ?_
          refine lv_imul hx hb (dkP dF_104 DX12_sheet (i := 37) rfl rfl) ?_
          refine z_top (y := nI (60 * k_sl)) (by simp only [fa_lit, nI_add, pk_mul]) ?_
          refine lv_iload hx hb (dk1 dF_21 DX12_sheet (i := 38) rfl rfl rfl) (lv_at hl 0 rfl) ?_
          refine lv_iadd hx hb (dkP dF_96 DX12_sheet (i := 39) rfl rfl) ?_
          refine z_top (y := nI ((60 * k_sl) + 42)) (by simp only [fa_lit, nI_add, pk_mul]) ?_
          refine lv_lconst (v := 0) hx hb (dkP dF_9 DX12_sheet (i := 40) rfl rfl) (by decide) ?_
          refine z_lastN (n := 240) C0 hw 35 ((60 * k_sl) + 42) rfl (by omega) (by decide) (dkP dF_80 DX12_sheet (i := 41) rfl rfl) (fun H locs hw => ?_)
          refine lv_iinc (v := 43) (lv' := [(4, .int 43), (0, .ref (ad 0)), (1, .int (nI k_sl)), (2, .int (nI k_w)), (3, .int n)]) hx hb (dkI DX12_sheet (i := 42) rfl rfl rfl rfl) hl (k := 0) rfl (by decide) (by decide) rfl (fun ls hl => ?_)
          refine lv_goto (tgt := 52) hx hb (dkS dF_167 DX12_sheet (i := 43) rfl rfl rfl) (by decide) ?_
          refine lv_iload hx hb (dk1 dF_21 DX12_sheet (i := 30) rfl rfl rfl) (lv_at hl 0 rfl) ?_
          refine lv_bipush (v := 60) hx hb (dks dF_16 DX12_sheet (i := 31) rfl rfl rfl) (by decide) ?_
          refine lv_icmp_ge (tgt := 78) hx hb (dkS dF_162 DX12_sheet (i := 32) rfl rfl rfl) (by decide) (fun h => absurd h (by decide)) (fun _ => ?_)
          refine lv_aload_n hx hb (dkP dF_42 DX12_sheet (i := 33) rfl rfl) rfl (lv_at hl 1 rfl) ?_
          refine z_gr C0 hw 0 52 35 rfl fl_X12_132 (dk2 dF_180 DX12_sheet (i := 34) rfl rfl rfl) ?_
          refine lv_bipush (v := 60) hx hb (dks dF_16 DX12_sheet (i := 35) rfl rfl rfl) (by decide) ?_
          refine lv_iload_n hx hb (dkP dF_27 DX12_sheet (i := 36) rfl rfl) rfl (lv_at hl 2 rfl) ?_
          refine lv_imul hx hb (dkP dF_104 DX12_sheet (i := 37) rfl rfl) ?_
          refine z_top (y := nI (60 * k_sl)) (by simp only [fa_lit, nI_add, pk_mul]) ?_
          refine lv_iload hx hb (dk1 dF_21 DX12_sheet (i := 38) rfl rfl rfl) (lv_at hl 0 rfl) ?_
          refine lv_iadd hx hb (dkP dF_96 DX12_sheet (i := 39) rfl rfl) ?_
          refine z_top (y := nI ((60 * k_sl) + 43)) (by simp only [fa_lit, nI_add, pk_mul]) ?_
          refine lv_lconst (v := 0) hx hb (dkP dF_9 DX12_sheet (i := 40) rfl rfl) (by decide) ?_
          refine z_lastN (n := 240) C0 hw 35 ((60 * k_sl) + 43) rfl (by omega) (by decide) (dkP dF_80 DX12_sheet (i := 41) rfl rfl) (fun H locs hw => ?_)
          refine lv_iinc (v := 44) (lv' := [(4, .int 44), (0, .ref (ad 0)), (1, .int (nI k_sl)), (2, .int (nI k_w)), (3, .int n)]) hx hb (dkI DX12_sheet (i := 42) rfl rfl rfl rfl) hl (k := 0) rfl (by decide) (by decide) rfl (fun ls hl => ?_)
          refine lv_goto (tgt := 52) hx hb (dkS dF_167 DX12_sheet (i := 43) rfl rfl rfl) (by decide) ?_
          refine lv_iload hx hb (dk1 dF_21 DX12_sheet (i := 30) rfl rfl rfl) (lv_at hl 0 rfl) ?_
          refine lv_bipush (v := 60) hx hb (dks dF_16 DX12_sheet (i := 31) rfl rfl rfl) (by decide) ?_
          refine lv_icmp_ge (tgt := 78) hx hb (dkS dF_162 DX12_sheet (i := 32) rfl rfl rfl) (by decide) (fun h => absurd h (by decide)) (fun _ => ?_)
          refine lv_aload_n hx hb (dkP dF_42 DX12_sheet (i := 33) rfl rfl) rfl (lv_at hl 1 rfl) ?_
          refine z_gr C0 hw 0 52 35 rfl fl_X12_132 (dk2 dF_180 DX12_sheet (i := 34) rfl rfl rfl) ?_
          refine lv_bipush (v := 60) hx hb (dks dF_16 DX12_sheet (i := 35) rfl rfl rfl) (by decide) ?_
          refine lv_iload_n hx hb (dkP dF_27 DX12_sheet (i := 36) rfl rfl) rfl (lv_at hl 2 rfl) ?_
          refine lv_imul hx hb (dkP dF_104 DX12_sheet (i := 37) rfl rfl) ?_
          refine z_top (y := nI (60 * k_sl)) (by simp only [fa_lit, nI_add, pk_mul]) ?_
          refine lv_iload hx hb (dk1 dF_21 DX12_sheet (i := 38) rfl rfl rfl) (lv_at hl 0 rfl) ?_
          refine lv_iadd hx hb (dkP dF_96 DX12_sheet (i := 39) rfl rfl) ?_
          refine z_top (y := nI ((60 * k_sl) + 44)) (by simp only [fa_lit, nI_add, pk_mul]) ?_
          refine lv_lconst (v := 0) hx hb (dkP dF_9 DX12_sheet (i := 40) rfl rfl) (by decide) ?_
          refine z_lastN (n := 240) C0 hw 35 ((60 * k_sl) + 44) rfl (by omega) (by decide) (dkP dF_80 DX12_sheet (i := 41) rfl rfl) (fun H locs hw => ?_)
          refine lv_iinc (v := 45) (lv' := [(4, .int 45), (0, .ref (ad 0)), (1, .int (nI k_sl)), (2, .int (nI k_w)), (3, .int n)]) hx hb (dkI DX12_sheet (i := 42) rfl rfl rfl rfl) hl (k := 0) rfl (by decide) (by decide) rfl (fun ls hl => ?_)
          refine lv_goto (tgt := 52) hx hb (dkS dF_167 DX12_sheet (i := 43) rfl rfl rfl) (by decide) ?_
          refine lv_iload hx hb (dk1 dF_21 DX12_sheet (i := 30) rfl rfl rfl) (lv_at hl 0 rfl) ?_
          refine lv_bipush (v := 60) hx hb (dks dF_16 DX12_sheet (i := 31) rfl rfl rfl) (by decide) ?_
          refine lv_icmp_ge (tgt := 78) hx hb (dkS dF_162 DX12_sheet (i := 32) rfl rfl rfl) (by decide) (fun h => absurd h (by decide)) (fun _ => ?_)
          refine lv_aload_n hx hb (dkP dF_42 DX12_sheet (i := 33) rfl rfl) rfl (lv_at hl 1 rfl) ?_
          refine z_gr C0 hw 0 52 35 rfl fl_X12_132 (dk2 dF_180 DX12_sheet (i := 34) rfl rfl rfl) ?_
          refine lv_bipush (v := 60) hx hb (dks dF_16 DX12_sheet (i := 35) rfl rfl rfl) (by decide) ?_
          refine lv_iload_n hx hb (dkP dF_27 DX12_sheet (i := 36) rfl rfl) rfl (lv_at hl 2 rfl) ?_
          refine lv_imul hx hb (dkP dF_104 DX12_sheet (i := 37) rfl rfl) ?_
          refine z_top (y := nI (60 * k_sl)) (by simp only [fa_lit, nI_add, pk_mul]) ?_
          refine lv_iload hx hb (dk1 dF_21 DX12_sheet (i := 38) rfl rfl rfl) (lv_at hl 0 rfl) ?_
          refine lv_iadd hx hb (dkP dF_96 DX12_sheet (i := 39) rfl rfl) ?_
          refine z_top (y := nI ((60 * k_sl) + 45)) (by simp only [fa_lit, nI_add, pk_mul]) ?_
          refine lv_lconst (v := 0) hx hb (dkP dF_9 DX12_sheet (i := 40) rfl rfl) (by decide) ?_
          refine z_lastN (n := 240) C0 hw 35 ((60 * k_sl) + 45) rfl (by omega) (by decide) (dkP dF_80 DX12_sheet (i := 41) rfl rfl) (fun H locs hw => ?_)
          refine lv_iinc (v := 46) (lv' := [(4, .int 46), (0, .ref (ad 0)), (1, .int (nI k_sl)), (2, .int (nI k_w)), (3, .int n)]) hx hb (dkI DX12_sheet (i := 42) rfl rfl rfl rfl) hl (k := 0) rfl (by decide) (by decide) rfl (fun ls hl => ?_)
          refine lv_goto (tgt := 52) hx hb (dkS dF_167 DX12_sheet (i := 43) rfl rfl rfl) (by decide) ?_
          refine lv_iload hx hb (dk1 dF_21 DX12_sheet (i := 30) rfl rfl rfl) (lv_at hl 0 rfl) ?_
          refine lv_bipush (v := 60) hx hb (dks dF_16 DX12_sheet (i := 31) rfl rfl rfl) (by decide) ?_
          refine lv_icmp_ge (tgt := 78) hx hb (dkS dF_162 DX12_sheet (i := 32) rfl rfl rfl) (by decide) (fun h => absurd h (by decide)) (fun _ => ?_)
          refine lv_aload_n hx hb (dkP dF_42 DX12_sheet (i := 33) rfl rfl) rfl (lv_at hl 1 rfl) ?_
          refine z_gr C0 hw 0 52 35 rfl fl_X12_132 (dk2 dF_180 DX12_sheet (i := 34) rfl rfl rfl) ?_
          refine lv_bipush (v := 60) hx hb (dks dF_16 DX12_sheet (i := 35) rfl rfl rfl) (by decide) ?_
          refine lv_iload_n hx hb (dkP dF_27 DX12_sheet (i := 36) rfl rfl) rfl (lv_at hl 2 rfl) ?_
          refine lv_imul hx hb (dkP dF_104 DX12_sheet (i := 37) rfl rfl) ?_
          refine z_top (y := nI (60 * k_sl)) (by simp only [fa_lit, nI_add, pk_mul]) ?_
          refine lv_iload hx hb (dk1 dF_21 DX12_sheet (i := 38) rfl rfl rfl) (lv_at hl 0 rfl) ?_
          refine lv_iadd hx hb (dkP dF_96 DX12_sheet (i := 39) rfl rfl) ?_
          refine z_top (y := nI ((60 * k_sl) + 46)) (by simp only [fa_lit, nI_add, pk_mul]) ?_
          refine lv_lconst (v := 0) hx hb (dkP dF_9 DX12_sheet (i := 40) rfl rfl) (by decide) ?_
          refine z_lastN (n := 240) C0 hw 35 ((60 * k_sl) + 46) rfl (by omega) (by decide) (dkP dF_80 DX12_sheet (i := 41) rfl rfl) (fun H locs hw => ?_)
          refine lv_iinc (v := 47) (lv' := [(4, .int 47), (0, .ref (ad 0)), (1, .int (nI k_sl)), (2, .int (nI k_w)), (3, .int n)]) hx hb (dkI DX12_sheet (i := 42) rfl rfl rfl rfl) hl (k := 0) rfl (by decide) (by decide) rfl (fun ls hl => ?_)
          refine lv_goto (tgt := 52) hx hb (dkS dF_167 DX12_sheet (i := 43) rfl rfl rfl) (by decide) ?_
          refine lv_iload hx hb (dk1 dF_21 DX12_sheet (i := 30) rfl rfl rfl) (lv_at hl 0 rfl) ?_
          refine lv_bipush (v := 60) hx hb (dks dF_16 DX12_sheet (i := 31) rfl rfl rfl) (by decide) ?_
          refine lv_icmp_ge (tgt := 78) hx hb (dkS dF_162 DX12_sheet (i := 32) rfl rfl rfl) (by decide) (fun h => absurd h (by decide)) (fun _ => ?_)
          refine lv_aload_n hx hb (dkP dF_42 DX12_sheet (i := 33) rfl rfl) rfl (lv_at hl 1 rfl) ?_
          refine z_gr C0 hw 0 52 35 rfl fl_X12_132 (dk2 dF_180 DX12_sheet (i := 34) rfl rfl rfl) ?_
          refine lv_bipush (v := 60) hx hb (dks dF_16 DX12_sheet (i := 35) rfl rfl rfl) (by decide) ?_
          refine lv_iload_n hx hb (dkP dF_27 DX12_sheet (i := 36) rfl rfl) rfl (lv_at hl 2 rfl) ?_
          refine lv_imul hx hb (dkP dF_104 DX12_sheet (i := 37) rfl rfl) ?_
          refine z_top (y := nI (60 * k_sl)) (by simp only [fa_lit, nI_add, pk_mul]) ?_
          refine lv_iload hx hb (dk1 dF_21 DX12_sheet (i := 38) rfl rfl rfl) (lv_at hl 0 rfl) ?_
          refine lv_iadd hx hb (dkP dF_96 DX12_sheet (i := 39) rfl rfl) ?_
          refine z_top (y := nI ((60 * k_sl) + 47)) (by simp only [fa_lit, nI_add, pk_mul]) ?_
          refine lv_lconst (v := 0) hx hb (dkP dF_9 DX12_sheet (i := 40) rfl rfl) (by decide) ?_
          refine z_lastN (n := 240) C0 hw 35 ((60 * k_sl) + 47) rfl (by omega) (by decide) (dkP dF_80 DX12_sheet (i := 41) rfl rfl) (fun H locs hw => ?_)
          refine lv_iinc (v := 48) (lv' := [(4, .int 48), (0, .ref (ad 0)), (1, .int (nI k_sl)), (2, .int (nI k_w)), (3, .int n)]) hx hb (dkI DX12_sheet (i := 42) rfl rfl rfl rfl) hl (k := 0) rfl (by decide) (by decide) rfl (fun ls hl => ?_)
          refine lv_goto (tgt := 52) hx hb (dkS dF_167 DX12_sheet (i := 43) rfl rfl rfl) (by decide) ?_
          refine lv_iload hx hb (dk1 dF_21 DX12_sheet (i := 30) rfl rfl rfl) (lv_at hl 0 rfl) ?_
          refine lv_bipush (v := 60) hx hb (dks dF_16 DX12_sheet (i := 31) rfl rfl rfl) (by decide) ?_
          refine lv_icmp_ge (tgt := 78) hx hb (dkS dF_162 DX12_sheet (i := 32) rfl rfl rfl) (by decide) (fun h => absurd h (by decide)) (fun _ => ?_)
          refine lv_aload_n hx hb (dkP dF_42 DX12_sheet (i := 33) rfl rfl) rfl (lv_at hl 1 rfl) ?_
          refine z_gr C0 hw 0 52 35 rfl fl_X12_132 (dk2 dF_180 DX12_sheet (i := 34) rfl rfl rfl) ?_
          refine lv_bipush (v := 60) hx hb (dks dF_16 DX12_sheet (i := 35) rfl rfl rfl) (by decide) ?_
          refine lv_iload_n hx hb (dkP dF_27 DX12_sheet (i := 36) rfl rfl) rfl (lv_at hl 2 rfl) ?_
          refine lv_imul hx hb (dkP dF_104 DX12_sheet (i := 37) rfl rfl) ?_
          refine z_top (y := nI (60 * k_sl)) (by simp only [fa_lit, nI_add, pk_mul]) ?_
          refine lv_iload hx hb (dk1 dF_21 DX12_sheet (i := 38) rfl rfl rfl) (lv_at hl 0 rfl) ?_
          refine lv_iadd hx hb (dkP dF_96 DX12_sheet (i := 39) rfl rfl) ?_
          refine z_top (y := nI ((60 * k_sl) + 48)) (by simp only [fa_lit, nI_add, pk_mul]) ?_
          refine lv_lconst (v := 0) hx hb (dkP dF_9 DX12_sheet (i := 40) rfl rfl) (by decide) ?_
          refine z_lastN (n := 240) C0 hw 35 ((60 * k_sl) + 48) rfl (by omega) (by decide) (dkP dF_80 DX12_sheet (i := 41) rfl rfl) (fun H locs hw => ?_)
          refine lv_iinc (v := 49) (lv' := [(4, .int 49), (0, .ref (ad 0)), (1, .int (nI k_sl)), (2, .int (nI k_w)), (3, .int n)]) hx hb (dkI DX12_sheet (i := 42) rfl rfl rfl rfl) hl (k := 0) rfl (by decide) (by decide) rfl (fun ls hl => ?_)
          refine lv_goto (tgt := 52) hx hb (dkS dF_167 DX12_sheet (i := 43) rfl rfl rfl) (by decide) ?_
          refine lv_iload hx hb (dk1 dF_21 DX12_sheet (i := 30) rfl rfl rfl) (lv_at hl 0 rfl) ?_
          refine lv_bipush (v := 60) hx hb (dks dF_16 DX12_sheet (i := 31) rfl rfl rfl) (by decide) ?_
          refine lv_icmp_ge (tgt := 78) hx hb (dkS dF_162 DX12_sheet (i := 32) rfl rfl rfl) (by decide) (fun h => absurd h (by decide)) (fun _ => ?_)
          refine lv_aload_n hx hb (dkP dF_42 DX12_sheet (i := 33) rfl rfl) rfl (lv_at hl 1 rfl) ?_
          refine z_gr C0 hw 0 52 35 rfl fl_X12_132 (dk2 dF_180 DX12_sheet (i := 34) rfl rfl rfl) ?_
          refine lv_bipush (v := 60) hx hb (dks dF_16 DX12_sheet (i := 35) rfl rfl rfl) (by decide) ?_
          refine lv_iload_n hx hb (dkP dF_27 DX12_sheet (i := 36) rfl rfl) rfl (lv_at hl 2 rfl) ?_
          refine lv_imul hx hb (dkP dF_104 DX12_sheet (i := 37) rfl rfl) ?_
          refine z_top (y := nI (60 * k_sl)) (by simp only [fa_lit, nI_add, pk_mul]) ?_
          refine lv_iload hx hb (dk1 dF_21 DX12_sheet (i := 38) rfl rfl rfl) (lv_at hl 0 rfl) ?_
          refine lv_iadd hx hb (dkP dF_96 DX12_sheet (i := 39) rfl rfl) ?_
          refine z_top (y := nI ((60 * k_sl) + 49)) (by simp only [fa_lit, nI_add, pk_mul]) ?_
          refine lv_lconst (v := 0) hx hb (dkP dF_9 DX12_sheet (i := 40) rfl rfl) (by decide) ?_
          refine z_lastN (n := 240) C0 hw 35 ((60 * k_sl) + 49) rfl (by omega) (by decide) (dkP dF_80 DX12_sheet (i := 41) rfl rfl) (fun H locs hw => ?_)
          refine lv_iinc (v := 50) (lv' := [(4, .int 50), (0, .ref (ad 0)), (1, .int (nI k_sl)), (2, .int (nI k_w)), (3, .int n)]) hx hb (dkI DX12_sheet (i := 42) rfl rfl rfl rfl) hl (k := 0) rfl (by decide) (by decide) rfl (fun ls hl => ?_)
          refine lv_goto (tgt := 52) hx hb (dkS dF_167 DX12_sheet (i := 43) rfl rfl rfl) (by decide) ?_
          refine lv_iload hx hb (dk1 dF_21 DX12_sheet (i := 30) rfl rfl rfl) (lv_at hl 0 rfl) ?_
          refine lv_bipush (v := 60) hx hb (dks dF_16 DX12_sheet (i := 31) rfl rfl rfl) (by decide) ?_
          refine lv_icmp_ge (tgt := 78) hx hb (dkS dF_162 DX12_sheet (i := 32) rfl rfl rfl) (by decide) (fun h => absurd h (by decide)) (fun _ => ?_)
          refine lv_aload_n hx hb (dkP dF_42 DX12_sheet (i := 33) rfl rfl) rfl (lv_at hl 1 rfl) ?_
          refine z_gr C0 hw 0 52 35 rfl fl_X12_132 (dk2 dF_180 DX12_sheet (i := 34) rfl rfl rfl) ?_
          refine lv_bipush (v := 60) hx hb (dks dF_16 DX12_sheet (i := 35) rfl rfl rfl) (by decide) ?_
          refine lv_iload_n hx hb (dkP dF_27 DX12_sheet (i := 36) rfl rfl) rfl (lv_at hl 2 rfl) ?_
          refine lv_imul hx hb (dkP dF_104 DX12_sheet (i := 37) rfl rfl) ?_
          refine z_top (y := nI (60 * k_sl)) (by simp only [fa_lit, nI_add, pk_mul]) ?_
          refine lv_iload hx hb (dk1 dF_21 DX12_sheet (i := 38) rfl rfl rfl) (lv_at hl 0 rfl) ?_
          refine lv_iadd hx hb (dkP dF_96 DX12_sheet (i := 39) rfl rfl) ?_
          refine z_top (y := nI ((60 * k_sl) + 50)) (by simp only [fa_lit, nI_add, pk_mul]) ?_
          refine lv_lconst (v := 0) hx hb (dkP dF_9 DX12_sheet (i := 40) rfl rfl) (by decide) ?_
          refine z_lastN (n := 240) C0 hw 35 ((60 * k_sl) + 50) rfl (by omega) (by decide) (dkP dF_80 DX12_sheet (i := 41) rfl rfl) (fun H locs hw => ?_)
          refine lv_iinc (v := 51) (lv' := [(4, .int 51), (0, .ref (ad 0)), (1, .int (nI k_sl)), (2, .int (nI k_w)), (3, .int n)]) hx hb (dkI DX12_sheet (i := 42) rfl rfl rfl rfl) hl (k := 0) rfl (by decide) (by decide) rfl (fun ls hl => ?_)
          refine lv_goto (tgt := 52) hx hb (dkS dF_167 DX12_sheet (i := 43) rfl rfl rfl) (by decide) ?_
          refine lv_iload hx hb (dk1 dF_21 DX12_sheet (i := 30) rfl rfl rfl) (lv_at hl 0 rfl) ?_
          refine lv_bipush (v := 60) hx hb (dks dF_16 DX12_sheet (i := 31) rfl rfl rfl) (by decide) ?_
          refine lv_icmp_ge (tgt := 78) hx hb (dkS dF_162 DX12_sheet (i := 32) rfl rfl rfl) (by decide) (fun h => absurd h (by decide)) (fun _ => ?_)
          refine lv_aload_n hx hb (dkP dF_42 DX12_sheet (i := 33) rfl rfl) rfl (lv_at hl 1 rfl) ?_
          refine z_gr C0 hw 0 52 35 rfl fl_X12_132 (dk2 dF_180 DX12_sheet (i := 34) rfl rfl rfl) ?_
          refine lv_bipush (v := 60) hx hb (dks dF_16 DX12_sheet (i := 35) rfl rfl rfl) (by decide) ?_
          refine lv_iload_n hx hb (dkP dF_27 DX12_sheet (i := 36) rfl rfl) rfl (lv_at hl 2 rfl) ?_
          refine lv_imul hx hb (dkP dF_104 DX12_sheet (i := 37) rfl rfl) ?_
          refine z_top (y := nI (60 * k_sl)) (by simp only [fa_lit, nI_add, pk_mul]) ?_
          refine lv_iload hx hb (dk1 dF_21 DX12_sheet (i := 38) rfl rfl rfl) (lv_at hl 0 rfl) ?_
          refine lv_iadd hx hb (dkP dF_96 DX12_sheet (i := 39) rfl rfl) ?_
          refine z_top (y := nI ((60 * k_sl) + 51)) (by simp only [fa_lit, nI_add, pk_mul]) ?_
          refine lv_lconst (v := 0) hx hb (dkP dF_9 DX12_sheet (i := 40) rfl rfl) (by decide) ?_
          refine z_lastN (n := 240) C0 hw 35 ((60 * k_sl) + 51) rfl (by omega) (by decide) (dkP dF_80 DX12_sheet (i := 41) rfl rfl) (fun H locs hw => ?_)
          refine lv_iinc (v := 52) (lv' := [(4, .int 52), (0, .ref (ad 0)), (1, .int (nI k_sl)), (2, .int (nI k_w)), (3, .int n)]) hx hb (dkI DX12_sheet (i := 42) rfl rfl rfl rfl) hl (k := 0) rfl (by decide) (by decide) rfl (fun ls hl => ?_)
          refine lv_goto (tgt := 52) hx hb (dkS dF_167 DX12_sheet (i := 43) rfl rfl rfl) (by decide) ?_
          refine lv_iload hx hb (dk1 dF_21 DX12_sheet (i := 30) rfl rfl rfl) (lv_at hl 0 rfl) ?_
          refine lv_bipush (v := 60) hx hb (dks dF_16 DX12_sheet (i := 31) rfl rfl rfl) (by decide) ?_
          refine lv_icmp_ge (tgt := 78) hx hb (dkS dF_162 DX12_sheet (i := 32) rfl rfl rfl) (by decide) (fun h => absurd h (by decide)) (fun _ => ?_)
          refine lv_aload_n hx hb (dkP dF_42 DX12_sheet (i := 33) rfl rfl) rfl (lv_at hl 1 rfl) ?_
          refine z_gr C0 hw 0 52 35 rfl fl_X12_132 (dk2 dF_180 DX12_sheet (i := 34) rfl rfl rfl) ?_
          refine lv_bipush (v := 60) hx hb (dks dF_16 DX12_sheet (i := 35) rfl rfl rfl) (by decide) ?_
          refine lv_iload_n hx hb (dkP dF_27 DX12_sheet (i := 36) rfl rfl) rfl (lv_at hl 2 rfl) ?_
          refine lv_imul hx hb (dkP dF_104 DX12_sheet (i := 37) rfl rfl) ?_
          refine z_top (y := nI (60 * k_sl)) (by simp only [fa_lit, nI_add, pk_mul]) ?_
          refine lv_iload hx hb (dk1 dF_21 DX12_sheet (i := 38) rfl rfl rfl) (lv_at hl 0 rfl) ?_
          refine lv_iadd hx hb (dkP dF_96 DX12_sheet (i := 39) rfl rfl) ?_
          refine z_top (y := nI ((60 * k_sl) + 52)) (by simp only [fa_lit, nI_add, pk_mul]) ?_
          refine lv_lconst (v := 0) hx hb (dkP dF_9 DX12_sheet (i := 40) rfl rfl) (by decide) ?_
          refine z_lastN (n := 240) C0 hw 35 ((60 * k_sl) + 52) rfl (by omega) (by decide) (dkP dF_80 DX12_sheet (i := 41) rfl rfl) (fun H locs hw => ?_)
          refine lv_iinc (v := 53) (lv' := [(4, .int 53), (0, .ref (ad 0)), (1, .int (nI k_sl)), (2, .int (nI k_w)), (3, .int n)]) hx hb (dkI DX12_sheet (i := 42) rfl rfl rfl rfl) hl (k := 0) rfl (by decide) (by decide) rfl (fun ls hl => ?_)
          refine lv_goto (tgt := 52) hx hb (dkS dF_167 DX12_sheet (i := 43) rfl rfl rfl) (by decide) ?_
          refine lv_iload hx hb (dk1 dF_21 DX12_sheet (i := 30) rfl rfl rfl) (lv_at hl 0 rfl) ?_
          refine lv_bipush (v := 60) hx hb (dks dF_16 DX12_sheet (i := 31) rfl rfl rfl) (by decide) ?_
          refine lv_icmp_ge (tgt := 78) hx hb (dkS dF_162 DX12_sheet (i := 32) rfl rfl rfl) (by decide) (fun h => absurd h (by decide)) (fun _ => ?_)
          refine lv_aload_n hx hb (dkP dF_42 DX12_sheet (i := 33) rfl rfl) rfl (lv_at hl 1 rfl) ?_
          refine z_gr C0 hw 0 52 35 rfl fl_X12_132 (dk2 dF_180 DX12_sheet (i := 34) rfl rfl rfl) ?_
          refine lv_bipush (v := 60) hx hb (dks dF_16 DX12_sheet (i := 35) rfl rfl rfl) (by decide) ?_
          refine lv_iload_n hx hb (dkP dF_27 DX12_sheet (i := 36) rfl rfl) rfl (lv_at hl 2 rfl) ?_
          refine lv_imul hx hb (dkP dF_104 DX12_sheet (i := 37) rfl rfl) ?_
          refine z_top (y := nI (60 * k_sl)) (by simp only [fa_lit, nI_add, pk_mul]) ?_
          refine lv_iload hx hb (dk1 dF_21 DX12_sheet (i := 38) rfl rfl rfl) (lv_at hl 0 rfl) ?_
          refine lv_iadd hx hb (dkP dF_96 DX12_sheet (i := 39) rfl rfl) ?_
          refine z_top (y := nI ((60 * k_sl) + 53)) (by simp only [fa_lit, nI_add, pk_mul]) ?_
          refine lv_lconst (v := 0) hx hb (dkP dF_9 DX12_sheet (i := 40) rfl rfl) (by decide) ?_
          refine z_lastN (n := 240) C0 hw 35 ((60 * k_sl) + 53) rfl (by omega) (by decide) (dkP dF_80 DX12_sheet (i := 41) rfl rfl) (fun H locs hw => ?_)
          refine lv_iinc (v := 54) (lv' := [(4, .int 54), (0, .ref (ad 0)), (1, .int (nI k_sl)), (2, .int (nI k_w)), (3, .int n)]) hx hb (dkI DX12_sheet (i := 42) rfl rfl rfl rfl) hl (k := 0) rfl (by decide) (by decide) rfl (fun ls hl => ?_)
          refine lv_goto (tgt := 52) hx hb (dkS dF_167 DX12_sheet (i := 43) rfl rfl rfl) (by decide) ?_
          refine lv_iload hx hb (dk1 dF_21 DX12_sheet (i := 30) rfl rfl rfl) (lv_at hl 0 rfl) ?_
          refine lv_bipush (v := 60) hx hb (dks dF_16 DX12_sheet (i := 31) rfl rfl rfl) (by decide) ?_
          refine lv_icmp_ge (tgt := 78) hx hb (dkS dF_162 DX12_sheet (i := 32) rfl rfl rfl) (by decide) (fun h => absurd h (by decide)) (fun _ => ?_)
          refine lv_aload_n hx hb (dkP dF_42 DX12_sheet (i := 33) rfl rfl) rfl (lv_at hl 1 rfl) ?_
          refine z_gr C0 hw 0 52 35 rfl fl_X12_132 (dk2 dF_180 DX12_sheet (i := 34) rfl rfl rfl) ?_
          refine lv_bipush (v := 60) hx hb (dks dF_16 DX12_sheet (i := 35) rfl rfl rfl) (by decide) ?_
          refine lv_iload_n hx hb (dkP dF_27 DX12_sheet (i := 36) rfl rfl) rfl (lv_at hl 2 rfl) ?_
          refine lv_imul hx hb (dkP dF_104 DX12_sheet (i := 37) rfl rfl) ?_
          refine z_top (y := nI (60 * k_sl)) (by simp only [fa_lit, nI_add, pk_mul]) ?_
          refine lv_iload hx hb (dk1 dF_21 DX12_sheet (i := 38) rfl rfl rfl) (lv_at hl 0 rfl) ?_
          refine lv_iadd hx hb (dkP dF_96 DX12_sheet (i := 39) rfl rfl) ?_
          refine z_top (y := nI ((60 * k_sl) + 54)) (by simp only [fa_lit, nI_add, pk_mul]) ?_
          refine lv_lconst (v := 0) hx hb (dkP dF_9 DX12_sheet (i := 40) rfl rfl) (by decide) ?_
          refine z_lastN (n := 240) C0 hw 35 ((60 * k_sl) + 54) rfl (by omega) (by decide) (dkP dF_80 DX12_sheet (i := 41) rfl rfl) (fun H locs hw => ?_)
          refine lv_iinc (v := 55) (lv' := [(4, .int 55), (0, .ref (ad 0)), (1, .int (nI k_sl)), (2, .int (nI k_w)), (3, .int n)]) hx hb (dkI DX12_sheet (i := 42) rfl rfl rfl rfl) hl (k := 0) rfl (by decide) (by decide) rfl (fun ls hl => ?_)
          refine lv_goto (tgt := 52) hx hb (dkS dF_167 DX12_sheet (i := 43) rfl rfl rfl) (by decide) ?_
          refine lv_iload hx hb (dk1 dF_21 DX12_sheet (i := 30) rfl rfl rfl) (lv_at hl 0 rfl) ?_
          refine lv_bipush (v := 60) hx hb (dks dF_16 DX12_sheet (i := 31) rfl rfl rfl) (by decide) ?_
          refine lv_icmp_ge (tgt := 78) hx hb (dkS dF_162 DX12_sheet (i := 32) rfl rfl rfl) (by decide) (fun h => absurd h (by decide)) (fun _ => ?_)
          refine lv_aload_n hx hb (dkP dF_42 DX12_sheet (i := 33) rfl rfl) rfl (lv_at hl 1 rfl) ?_
          refine z_gr C0 hw 0 52 35 rfl fl_X12_132 (dk2 dF_180 DX12_sheet (i := 34) rfl rfl rfl) ?_
          refine lv_bipush (v := 60) hx hb (dks dF_16 DX12_sheet (i := 35) rfl rfl rfl) (by decide) ?_
          refine lv_iload_n hx hb (dkP dF_27 DX12_sheet (i := 36) rfl rfl) rfl (lv_at hl 2 rfl) ?_
          refine lv_imul hx hb (dkP dF_104 DX12_sheet (i := 37) rfl rfl) ?_
          refine z_top (y := nI (60 * k_sl)) (by simp only [fa_lit, nI_add, pk_mul]) ?_
          refine lv_iload hx hb (dk1 dF_21 DX12_sheet (i := 38) rfl rfl rfl) (lv_at hl 0 rfl) ?_
          refine lv_iadd hx hb (dkP dF_96 DX12_sheet (i := 39) rfl rfl) ?_
          refine z_top (y := nI ((60 * k_sl) + 55)) (by simp only [fa_lit, nI_add, pk_mul]) ?_
          refine lv_lconst (v := 0) hx hb (dkP dF_9 DX12_sheet (i := 40) rfl rfl) (by decide) ?_
          refine z_lastN (n := 240) C0 hw 35 ((60 * k_sl) + 55) rfl (by omega) (by decide) (dkP dF_80 DX12_sheet (i := 41) rfl rfl) (fun H locs hw => ?_)
          refine lv_iinc (v := 56) (lv' := [(4, .int 56), (0, .ref (ad 0)), (1, .int (nI k_sl)), (2, .int (nI k_w)), (3, .int n)]) hx hb (dkI DX12_sheet (i := 42) rfl rfl rfl rfl) hl (k := 0) rfl (by decide) (by decide) rfl (fun ls hl => ?_)
          refine lv_goto (tgt := 52) hx hb (dkS dF_167 DX12_sheet (i := 43) rfl rfl rfl) (by decide) ?_
          refine lv_iload hx hb (dk1 dF_21 DX12_sheet (i := 30) rfl rfl rfl) (lv_at hl 0 rfl) ?_
          refine lv_bipush (v := 60) hx hb (dks dF_16 DX12_sheet (i := 31) rfl rfl rfl) (by decide) ?_
          refine lv_icmp_ge (tgt := 78) hx hb (dkS dF_162 DX12_sheet (i := 32) rfl rfl rfl) (by decide) (fun h => absurd h (by decide)) (fun _ => ?_)
          refine lv_aload_n hx hb (dkP dF_42 DX12_sheet (i := 33) rfl rfl) rfl (lv_at hl 1 rfl) ?_
          refine z_gr C0 hw 0 52 35 rfl fl_X12_132 (dk2 dF_180 DX12_sheet (i := 34) rfl rfl rfl) ?_
          refine lv_bipush (v := 60) hx hb (dks dF_16 DX12_sheet (i := 35) rfl rfl rfl) (by decide) ?_
          refine lv_iload_n hx hb (dkP dF_27 DX12_sheet (i := 36) rfl rfl) rfl (lv_at hl 2 rfl) ?_
          refine lv_imul hx hb (dkP dF_104 DX12_sheet (i := 37) rfl rfl) ?_
          refine z_top (y := nI (60 * k_sl)) (by simp only [fa_lit, nI_add, pk_mul]) ?_
          refine lv_iload hx hb (dk1 dF_21 DX12_sheet (i := 38) rfl rfl rfl) (lv_at hl 0 rfl) ?_
          refine lv_iadd hx hb (dkP dF_96 DX12_sheet (i := 39) rfl rfl) ?_
          refine z_top (y := nI ((60 * k_sl) + 56)) (by simp only [fa_lit, nI_add, pk_mul]) ?_
          refine lv_lconst (v := 0) hx hb (dkP dF_9 DX12_sheet (i := 40) rfl rfl) (by decide) ?_
          refine z_lastN (n := 240) C0 hw 35 ((60 * k_sl) + 56) rfl (by omega) (by decide) (dkP dF_80 DX12_sheet (i := 41) rfl rfl) (fun H locs hw => ?_)
          refine lv_iinc (v := 57) (lv' := [(4, .int 57), (0, .ref (ad 0)), (1, .int (nI k_sl)), (2, .int (nI k_w)), (3, .int n)]) hx hb (dkI DX12_sheet (i := 42) rfl rfl rfl rfl) hl (k := 0) rfl (by decide) (by decide) rfl (fun ls hl => ?_)
          refine lv_goto (tgt := 52) hx hb (dkS dF_167 DX12_sheet (i := 43) rfl rfl rfl) (by decide) ?_
          refine lv_iload hx hb (dk1 dF_21 DX12_sheet (i := 30) rfl rfl rfl) (lv_at hl 0 rfl) ?_
          refine lv_bipush (v := 60) hx hb (dks dF_16 DX12_sheet (i := 31) rfl rfl rfl) (by decide) ?_
          refine lv_icmp_ge (tgt := 78) hx hb (dkS dF_162 DX12_sheet (i := 32) rfl rfl rfl) (by decide) (fun h => absurd h (by decide)) (fun _ => ?_)
          refine lv_aload_n hx hb (dkP dF_42 DX12_sheet (i := 33) rfl rfl) rfl (lv_at hl 1 rfl) ?_
          refine z_gr C0 hw 0 52 35 rfl fl_X12_132 (dk2 dF_180 DX12_sheet (i := 34) rfl rfl rfl) ?_
          refine lv_bipush (v := 60) hx hb (dks dF_16 DX12_sheet (i := 35) rfl rfl rfl) (by decide) ?_
          refine lv_iload_n hx hb (dkP dF_27 DX12_sheet (i := 36) rfl rfl) rfl (lv_at hl 2 rfl) ?_
          refine lv_imul hx hb (dkP dF_104 DX12_sheet (i := 37) rfl rfl) ?_
          refine z_top (y := nI (60 * k_sl)) (by simp only [fa_lit, nI_add, pk_mul]) ?_
          refine lv_iload hx hb (dk1 dF_21 DX12_sheet (i := 38) rfl rfl rfl) (lv_at hl 0 rfl) ?_
          refine lv_iadd hx hb (dkP dF_96 DX12_sheet (i := 39) rfl rfl) ?_
          refine z_top (y := nI ((60 * k_sl) + 57)) (by simp only [fa_lit, nI_add, pk_mul]) ?_
          refine lv_lconst (v := 0) hx hb (dkP dF_9 DX12_sheet (i := 40) rfl rfl) (by decide) ?_
          refine z_lastN (n := 240) C0 hw 35 ((60 * k_sl) + 57) rfl (by omega) (by decide) (dkP dF_80 DX12_sheet (i := 41) rfl rfl) (fun H locs hw => ?_)
          refine lv_iinc (v := 58) (lv' := [(4, .int 58), (0, .ref (ad 0)), (1, .int (nI k_sl)), (2, .int (nI k_w)), (3, .int n)]) hx hb (dkI DX12_sheet (i := 42) rfl rfl rfl rfl) hl (k := 0) rfl (by decide) (by decide) rfl (fun ls hl => ?_)
          refine lv_goto (tgt := 52) hx hb (dkS dF_167 DX12_sheet (i := 43) rfl rfl rfl) (by decide) ?_
          refine lv_iload hx hb (dk1 dF_21 DX12_sheet (i := 30) rfl rfl rfl) (lv_at hl 0 rfl) ?_
          refine lv_bipush (v := 60) hx hb (dks dF_16 DX12_sheet (i := 31) rfl rfl rfl) (by decide) ?_
          refine lv_icmp_ge (tgt := 78) hx hb (dkS dF_162 DX12_sheet (i := 32) rfl rfl rfl) (by decide) (fun h => absurd h (by decide)) (fun _ => ?_)
          refine lv_aload_n hx hb (dkP dF_42 DX12_sheet (i := 33) rfl rfl) rfl (lv_at hl 1 rfl) ?_
          refine z_gr C0 hw 0 52 35 rfl fl_X12_132 (dk2 dF_180 DX12_sheet (i := 34) rfl rfl rfl) ?_
          refine lv_bipush (v := 60) hx hb (dks dF_16 DX12_sheet (i := 35) rfl rfl rfl) (by decide) ?_
          refine lv_iload_n hx hb (dkP dF_27 DX12_sheet (i := 36) rfl rfl) rfl (lv_at hl 2 rfl) ?_
          refine lv_imul hx hb (dkP dF_104 DX12_sheet (i := 37) rfl rfl) ?_
          refine z_top (y := nI (60 * k_sl)) (by simp only [fa_lit, nI_add, pk_mul]) ?_
          refine lv_iload hx hb (dk1 dF_21 DX12_sheet (i := 38) rfl rfl rfl) (lv_at hl 0 rfl) ?_
          refine lv_iadd hx hb (dkP dF_96 DX12_sheet (i := 39) rfl rfl) ?_
          refine z_top (y := nI ((60 * k_sl) + 58)) (by simp only [fa_lit, nI_add, pk_mul]) ?_
          refine lv_lconst (v := 0) hx hb (dkP dF_9 DX12_sheet (i := 40) rfl rfl) (by decide) ?_
          refine z_lastN (n := 240) C0 hw 35 ((60 * k_sl) + 58) rfl (by omega) (by decide) (dkP dF_80 DX12_sheet (i := 41) rfl rfl) (fun H locs hw => ?_)
          refine lv_iinc (v := 59) (lv' := [(4, .int 59), (0, .ref (ad 0)), (1, .int (nI k_sl)), (2, .int (nI k_w)), (3, .int n)]) hx hb (dkI DX12_sheet (i := 42) rfl rfl rfl rfl) hl (k := 0) rfl (by decide) (by decide) rfl (fun ls hl => ?_)
          refine lv_goto (tgt := 52) hx hb (dkS dF_167 DX12_sheet (i := 43) rfl rfl rfl) (by decide) ?_
          refine lv_iload hx hb (dk1 dF_21 DX12_sheet (i := 30) rfl rfl rfl) (lv_at hl 0 rfl) ?_
          refine lv_bipush (v := 60) hx hb (dks dF_16 DX12_sheet (i := 31) rfl rfl rfl) (by decide) ?_
          refine lv_icmp_ge (tgt := 78) hx hb (dkS dF_162 DX12_sheet (i := 32) rfl rfl rfl) (by decide) (fun h => absurd h (by decide)) (fun _ => ?_)
          refine lv_aload_n hx hb (dkP dF_42 DX12_sheet (i := 33) rfl rfl) rfl (lv_at hl 1 rfl) ?_
          refine z_gr C0 hw 0 52 35 rfl fl_X12_132 (dk2 dF_180 DX12_sheet (i := 34) rfl rfl rfl) ?_
          refine lv_bipush (v := 60) hx hb (dks dF_16 DX12_sheet (i := 35) rfl rfl rfl) (by decide) ?_
          refine lv_iload_n hx hb (dkP dF_27 DX12_sheet (i := 36) rfl rfl) rfl (lv_at hl 2 rfl) ?_
          refine lv_imul hx hb (dkP dF_104 DX12_sheet (i := 37) rfl rfl) ?_
          refine z_top (y := nI (60 * k_sl)) (by simp only [fa_lit, nI_add, pk_mul]) ?_
          refine lv_iload hx hb (dk1 dF_21 DX12_sheet (i := 38) rfl rfl rfl) (lv_at hl 0 rfl) ?_
          refine lv_iadd hx hb (dkP dF_96 DX12_sheet (i := 39) rfl rfl) ?_
          refine z_top (y := nI ((60 * k_sl) + 59)) (by simp only [fa_lit, nI_add, pk_mul]) ?_
          refine lv_lconst (v := 0) hx hb (dkP dF_9 DX12_sheet (i := 40) rfl rfl) (by decide) ?_
          refine z_lastN (n := 240) C0 hw 35 ((60 * k_sl) + 59) rfl (by omega) (by decide) (dkP dF_80 DX12_sheet (i := 41) rfl rfl) (fun H locs hw => ?_)
          refine lv_iinc (v := 60) (lv' := [(4, .int 60), (0, .ref (ad 0)), (1, .int (nI k_sl)), (2, .int (nI k_w)), (3, .int n)]) hx hb (dkI DX12_sheet (i := 42) rfl rfl rfl rfl) hl (k := 0) rfl (by decide) (by decide) rfl (fun ls hl => ?_)
          refine lv_goto (tgt := 52) hx hb (dkS dF_167 DX12_sheet (i := 43) rfl rfl rfl) (by decide) ?_
          refine lv_iload hx hb (dk1 dF_21 DX12_sheet (i := 30) rfl rfl rfl) (lv_at hl 0 rfl) ?_
          refine lv_bipush (v := 60) hx hb (dks dF_16 DX12_sheet (i := 31) rfl rfl rfl) (by decide) ?_
          refine lv_icmp_ge (tgt := 78) hx hb (dkS dF_162 DX12_sheet (i := 32) rfl rfl rfl) (by decide) (fun _ => ?_) (fun h => absurd h (by decide))
          refine lv_iconst (v := 0) hx hb (dkP dF_3 DX12_sheet (i := 44) rfl rfl) (by decide) ?_
          exact z_iret C0 hr hlk hw (by first | rfl | ((try simp only [lg_cmp_lt, lg_cmp_le, lg_cmp_gt, lg_cmp_ge, lg_cmp_eq] at hc1); (try simp (disch := omega) only [ta_lt, ta_le, ta_eq, tb_lt, tb_le, tb_eq, tw, tnI, tn32 1 (by decide), tnj 1 (by decide), tl32 0 (by decide), tl64 0 (by decide), tl32 3 (by decide), tl64 3 (by decide), tl32 60 (by decide), tl64 60 (by decide)] at hc1); (try simp only [lg_cmp_lt, lg_cmp_le, lg_cmp_gt, lg_cmp_ge, lg_cmp_eq] at hk_sl); (try simp (disch := omega) only [ta_lt, ta_le, ta_eq, tb_lt, tb_le, tb_eq, tw, tnI, tn32 1 (by decide), tnj 1 (by decide), tl32 0 (by decide), tl64 0 (by decide), tl32 3 (by decide), tl64 3 (by decide), tl32 60 (by decide), tl64 60 (by decide)] at hk_sl); (try simp only [lg_cmp_lt, lg_cmp_le, lg_cmp_gt, lg_cmp_ge, lg_cmp_eq] at hc2); (try simp (disch := omega) only [ta_lt, ta_le, ta_eq, tb_lt, tb_le, tb_eq, tw, tnI, tn32 1 (by decide), tnj 1 (by decide), tl32 0 (by decide), tl64 0 (by decide), tl32 3 (by decide), tl64 3 (by decide), tl32 60 (by decide), tl64 60 (by decide)] at hc2); (try simp only [lg_cmp_lt, lg_cmp_le, lg_cmp_gt, lg_cmp_ge, lg_cmp_eq] at hk_w); (try simp (disch := omega) only [ta_lt, ta_le, ta_eq, tb_lt, tb_le, tb_eq, tw, tnI, tn32 1 (by decide), tnj 1 (by decide), tl32 0 (by decide), tl64 0 (by decide), tl32 3 (by decide), tl64 3 (by decide), tl32 60 (by decide), tl64 60 (by decide)] at hk_w); (try simp only [lg_cmp_lt, lg_cmp_le, lg_cmp_gt, lg_cmp_ge, lg_cmp_eq] at c3); (try simp (disch := omega) only [ta_lt, ta_le, ta_eq, tb_lt, tb_le, tb_eq, tw, tnI, tn32 1 (by decide), tnj 1 (by decide), tl32 0 (by decide), tl64 0 (by decide), tl32 3 (by decide), tl64 3 (by decide), tl32 60 (by decide), tl64 60 (by decide)] at c3); (try simp only [lg_cmp_lt, lg_cmp_le, lg_cmp_gt, lg_cmp_ge, lg_cmp_eq] at c4); (try simp (disch := omega) only [ta_lt, ta_le, ta_eq, tb_lt, tb_le, tb_eq, tw, tnI, tn32 1 (by decide), tnj 1 (by decide), tl32 0 (by decide), tl64 0 (by decide), tl32 3 (by decide), tl64 3 (by decide), tl32 60 (by decide), tl64 60 (by decide)] at c4); (try simp (disch := omega) only [tnI, tn32 1 (by decide), tnj 1 (by decide), tl32 0 (by decide), tl64 0 (by decide), tl32 3 (by decide), tl64 3 (by decide), tl32 60 (by decide), tl64 60 (by decide)]); (repeat' split) <;> first | rfl | omega | (apply Int32.toInt_inj.mp; simp (disch := omega) only [tnI, tn32 1 (by decide), tnj 1 (by decide), tl32 0 (by decide), tl64 0 (by decide), tl32 3 (by decide), tl64 3 (by decide), tl32 60 (by decide), tl64 60 (by decide)]; omega))) (dkP dF_172 DX12_sheet (i := 45) rfl rfl)
        · skip
          refine lv_bipush (v := (-3)) hx hb (dks dF_16 DX12_sheet (i := 16) rfl rfl rfl) (by decide) ?_
          exact z_iret C0 hr hlk hw (by first | rfl | ((try simp only [lg_cmp_lt, lg_cmp_le, lg_cmp_gt, lg_cmp_ge, lg_cmp_eq] at hc1); (try simp (disch := omega) only [ta_lt, ta_le, ta_eq, tb_lt, tb_le, tb_eq, tw, tnI, tn32 3 (by decide), tnj 3 (by decide), tn32 1 (by decide), tnj 1 (by decide), tl32 0 (by decide), tl64 0 (by decide), tl32 3 (by decide), tl64 3 (by decide), tl32 60 (by decide), tl64 60 (by decide)] at hc1); (try simp only [lg_cmp_lt, lg_cmp_le, lg_cmp_gt, lg_cmp_ge, lg_cmp_eq] at hk_sl); (try simp (disch := omega) only [ta_lt, ta_le, ta_eq, tb_lt, tb_le, tb_eq, tw, tnI, tn32 3 (by decide), tnj 3 (by decide), tn32 1 (by decide), tnj 1 (by decide), tl32 0 (by decide), tl64 0 (by decide), tl32 3 (by decide), tl64 3 (by decide), tl32 60 (by decide), tl64 60 (by decide)] at hk_sl); (try simp only [lg_cmp_lt, lg_cmp_le, lg_cmp_gt, lg_cmp_ge, lg_cmp_eq] at hc2); (try simp (disch := omega) only [ta_lt, ta_le, ta_eq, tb_lt, tb_le, tb_eq, tw, tnI, tn32 3 (by decide), tnj 3 (by decide), tn32 1 (by decide), tnj 1 (by decide), tl32 0 (by decide), tl64 0 (by decide), tl32 3 (by decide), tl64 3 (by decide), tl32 60 (by decide), tl64 60 (by decide)] at hc2); (try simp only [lg_cmp_lt, lg_cmp_le, lg_cmp_gt, lg_cmp_ge, lg_cmp_eq] at hk_w); (try simp (disch := omega) only [ta_lt, ta_le, ta_eq, tb_lt, tb_le, tb_eq, tw, tnI, tn32 3 (by decide), tnj 3 (by decide), tn32 1 (by decide), tnj 1 (by decide), tl32 0 (by decide), tl64 0 (by decide), tl32 3 (by decide), tl64 3 (by decide), tl32 60 (by decide), tl64 60 (by decide)] at hk_w); (try simp only [lg_cmp_lt, lg_cmp_le, lg_cmp_gt, lg_cmp_ge, lg_cmp_eq] at c3); (try simp (disch := omega) only [ta_lt, ta_le, ta_eq, tb_lt, tb_le, tb_eq, tw, tnI, tn32 3 (by decide), tnj 3 (by decide), tn32 1 (by decide), tnj 1 (by decide), tl32 0 (by decide), tl64 0 (by decide), tl32 3 (by decide), tl64 3 (by decide), tl32 60 (by decide), tl64 60 (by decide)] at c3); (try simp only [lg_cmp_lt, lg_cmp_le, lg_cmp_gt, lg_cmp_ge, lg_cmp_eq] at c4); (try simp (disch := omega) only [ta_lt, ta_le, ta_eq, tb_lt, tb_le, tb_eq, tw, tnI, tn32 3 (by decide), tnj 3 (by decide), tn32 1 (by decide), tnj 1 (by decide), tl32 0 (by decide), tl64 0 (by decide), tl32 3 (by decide), tl64 3 (by decide), tl32 60 (by decide), tl64 60 (by decide)] at c4); (try simp (disch := omega) only [tnI, tn32 3 (by decide), tnj 3 (by decide), tn32 1 (by decide), tnj 1 (by decide), tl32 0 (by decide), tl64 0 (by decide), tl32 3 (by decide), tl64 3 (by decide), tl32 60 (by decide), tl64 60 (by decide)]); (repeat' split) <;> first | rfl | omega | (apply Int32.toInt_inj.mp; simp (disch := omega) only [tnI, tn32 3 (by decide), tnj 3 (by decide), tn32 1 (by decide), tnj 1 (by decide), tl32 0 (by decide), tl64 0 (by decide), tl32 3 (by decide), tl64 3 (by decide), tl32 60 (by decide), tl64 60 (by decide)]; omega))) (dkP dF_172 DX12_sheet (i := 17) rfl rfl)
      · skip
        refine lv_bipush (v := (-2)) hx hb (dks dF_16 DX12_sheet (i := 12) rfl rfl rfl) (by decide) ?_
        exact z_iret C0 hr hlk hw (by first | rfl | ((try simp only [lg_cmp_lt, lg_cmp_le, lg_cmp_gt, lg_cmp_ge, lg_cmp_eq] at hc1); (try simp (disch := omega) only [ta_lt, ta_le, ta_eq, tb_lt, tb_le, tb_eq, tw, tnI, tn32 3 (by decide), tnj 3 (by decide), tn32 2 (by decide), tnj 2 (by decide), tn32 1 (by decide), tnj 1 (by decide), tl32 0 (by decide), tl64 0 (by decide), tl32 3 (by decide), tl64 3 (by decide), tl32 60 (by decide), tl64 60 (by decide)] at hc1); (try simp only [lg_cmp_lt, lg_cmp_le, lg_cmp_gt, lg_cmp_ge, lg_cmp_eq] at hk_sl); (try simp (disch := omega) only [ta_lt, ta_le, ta_eq, tb_lt, tb_le, tb_eq, tw, tnI, tn32 3 (by decide), tnj 3 (by decide), tn32 2 (by decide), tnj 2 (by decide), tn32 1 (by decide), tnj 1 (by decide), tl32 0 (by decide), tl64 0 (by decide), tl32 3 (by decide), tl64 3 (by decide), tl32 60 (by decide), tl64 60 (by decide)] at hk_sl); (try simp only [lg_cmp_lt, lg_cmp_le, lg_cmp_gt, lg_cmp_ge, lg_cmp_eq] at hc2); (try simp (disch := omega) only [ta_lt, ta_le, ta_eq, tb_lt, tb_le, tb_eq, tw, tnI, tn32 3 (by decide), tnj 3 (by decide), tn32 2 (by decide), tnj 2 (by decide), tn32 1 (by decide), tnj 1 (by decide), tl32 0 (by decide), tl64 0 (by decide), tl32 3 (by decide), tl64 3 (by decide), tl32 60 (by decide), tl64 60 (by decide)] at hc2); (try simp only [lg_cmp_lt, lg_cmp_le, lg_cmp_gt, lg_cmp_ge, lg_cmp_eq] at hk_w); (try simp (disch := omega) only [ta_lt, ta_le, ta_eq, tb_lt, tb_le, tb_eq, tw, tnI, tn32 3 (by decide), tnj 3 (by decide), tn32 2 (by decide), tnj 2 (by decide), tn32 1 (by decide), tnj 1 (by decide), tl32 0 (by decide), tl64 0 (by decide), tl32 3 (by decide), tl64 3 (by decide), tl32 60 (by decide), tl64 60 (by decide)] at hk_w); (try simp only [lg_cmp_lt, lg_cmp_le, lg_cmp_gt, lg_cmp_ge, lg_cmp_eq] at c3); (try simp (disch := omega) only [ta_lt, ta_le, ta_eq, tb_lt, tb_le, tb_eq, tw, tnI, tn32 3 (by decide), tnj 3 (by decide), tn32 2 (by decide), tnj 2 (by decide), tn32 1 (by decide), tnj 1 (by decide), tl32 0 (by decide), tl64 0 (by decide), tl32 3 (by decide), tl64 3 (by decide), tl32 60 (by decide), tl64 60 (by decide)] at c3); (try simp (disch := omega) only [tnI, tn32 3 (by decide), tnj 3 (by decide), tn32 2 (by decide), tnj 2 (by decide), tn32 1 (by decide), tnj 1 (by decide), tl32 0 (by decide), tl64 0 (by decide), tl32 3 (by decide), tl64 3 (by decide), tl32 60 (by decide), tl64 60 (by decide)]); (repeat' split) <;> first | rfl | omega | (apply Int32.toInt_inj.mp; simp (disch := omega) only [tnI, tn32 3 (by decide), tnj 3 (by decide), tn32 2 (by decide), tnj 2 (by decide), tn32 1 (by decide), tnj 1 (by decide), tl32 0 (by decide), tl64 0 (by decide), tl32 3 (by decide), tl64 3 (by decide), tl32 60 (by decide), tl64 60 (by decide)]; omega))) (dkP dF_172 DX12_sheet (i := 13) rfl rfl)
    · skip
      refine lv_if_eq (tgt := 25) hx hb (dkS dF_153 DX12_sheet (i := 8) rfl rfl rfl) (by decide) (fun _ => ?_) (fun h => absurd h (by decide))
      refine lv_bipush (v := (-2)) hx hb (dks dF_16 DX12_sheet (i := 12) rfl rfl rfl) (by decide) ?_
      exact z_iret C0 hr hlk hw (by first | rfl | ((try simp only [lg_cmp_lt, lg_cmp_le, lg_cmp_gt, lg_cmp_ge, lg_cmp_eq] at hc1); (try simp (disch := omega) only [ta_lt, ta_le, ta_eq, tb_lt, tb_le, tb_eq, tw, tnI, tn32 3 (by decide), tnj 3 (by decide), tn32 2 (by decide), tnj 2 (by decide), tn32 1 (by decide), tnj 1 (by decide), tl32 0 (by decide), tl64 0 (by decide), tl32 3 (by decide), tl64 3 (by decide), tl32 60 (by decide), tl64 60 (by decide)] at hc1); (try simp only [lg_cmp_lt, lg_cmp_le, lg_cmp_gt, lg_cmp_ge, lg_cmp_eq] at hk_sl); (try simp (disch := omega) only [ta_lt, ta_le, ta_eq, tb_lt, tb_le, tb_eq, tw, tnI, tn32 3 (by decide), tnj 3 (by decide), tn32 2 (by decide), tnj 2 (by decide), tn32 1 (by decide), tnj 1 (by decide), tl32 0 (by decide), tl64 0 (by decide), tl32 3 (by decide), tl64 3 (by decide), tl32 60 (by decide), tl64 60 (by decide)] at hk_sl); (try simp only [lg_cmp_lt, lg_cmp_le, lg_cmp_gt, lg_cmp_ge, lg_cmp_eq] at hc2); (try simp (disch := omega) only [ta_lt, ta_le, ta_eq, tb_lt, tb_le, tb_eq, tw, tnI, tn32 3 (by decide), tnj 3 (by decide), tn32 2 (by decide), tnj 2 (by decide), tn32 1 (by decide), tnj 1 (by decide), tl32 0 (by decide), tl64 0 (by decide), tl32 3 (by decide), tl64 3 (by decide), tl32 60 (by decide), tl64 60 (by decide)] at hc2); (try simp (disch := omega) only [tnI, tn32 3 (by decide), tnj 3 (by decide), tn32 2 (by decide), tnj 2 (by decide), tn32 1 (by decide), tnj 1 (by decide), tl32 0 (by decide), tl64 0 (by decide), tl32 3 (by decide), tl64 3 (by decide), tl32 60 (by decide), tl64 60 (by decide)]); (repeat' split) <;> first | rfl | omega | (apply Int32.toInt_inj.mp; simp (disch := omega) only [tnI, tn32 3 (by decide), tnj 3 (by decide), tn32 2 (by decide), tnj 2 (by decide), tn32 1 (by decide), tnj 1 (by decide), tl32 0 (by decide), tl64 0 (by decide), tl32 3 (by decide), tl64 3 (by decide), tl32 60 (by decide), tl64 60 (by decide)]; omega))) (dkP dF_172 DX12_sheet (i := 13) rfl rfl)
  · skip
    refine lv_if_eq (tgt := 25) hx hb (dkS dF_153 DX12_sheet (i := 2) rfl rfl rfl) (by decide) (fun _ => ?_) (fun h => absurd h (by decide))
    refine lv_bipush (v := (-2)) hx hb (dks dF_16 DX12_sheet (i := 12) rfl rfl rfl) (by decide) ?_
    exact z_iret C0 hr hlk hw (by first | rfl | ((try simp only [lg_cmp_lt, lg_cmp_le, lg_cmp_gt, lg_cmp_ge, lg_cmp_eq] at hc1); (try simp (disch := omega) only [ta_lt, ta_le, ta_eq, tb_lt, tb_le, tb_eq, tw, tnI, tn32 3 (by decide), tnj 3 (by decide), tn32 2 (by decide), tnj 2 (by decide), tn32 1 (by decide), tnj 1 (by decide), tl32 0 (by decide), tl64 0 (by decide), tl32 3 (by decide), tl64 3 (by decide), tl32 60 (by decide), tl64 60 (by decide)] at hc1); (try simp (disch := omega) only [tnI, tn32 3 (by decide), tnj 3 (by decide), tn32 2 (by decide), tnj 2 (by decide), tn32 1 (by decide), tnj 1 (by decide), tl32 0 (by decide), tl64 0 (by decide), tl32 3 (by decide), tl64 3 (by decide), tl32 60 (by decide), tl64 60 (by decide)]); (repeat' split) <;> first | rfl | omega | (apply Int32.toInt_inj.mp; simp (disch := omega) only [tnI, tn32 3 (by decide), tnj 3 (by decide), tn32 2 (by decide), tnj 2 (by decide), tn32 1 (by decide), tnj 1 (by decide), tl32 0 (by decide), tl64 0 (by decide), tl32 3 (by decide), tl64 3 (by decide), tl32 60 (by decide), tl64 60 (by decide)]; omega))) (dkP dF_172 DX12_sheet (i := 13) rfl rfl)
set_option maxRecDepth 100000 in
set_option maxHeartbeats 4000000 in
theorem c_X12_spanMany (l : Launch) (G : va_G) (kc : Nat → ClassId) (ad : Nat → Nat)  (a : Nat) (b : Nat) (ha : a < 8) (hb2 : b < 8) : MI l G kc yX12_spanMany cX12_spanMany 3 (some .int) 2 42 [.ref (ad 0), .int (nI a), .int (nI b)] shM ad sM0 (fun r σ1 => r = 0 ∧ σ1 = sM0) := by
  intro sz
  refine z_body (y := yX12_spanMany) (n := 3) (av := [.ref (ad 0), .int (nI a), .int (nI b)]) (Qc := fun A => va_Qi (fun r σ1 => r = 0 ∧ σ1 = sM0) (PoC G kc shM ad A) A) (plainFor_of_name (by decide)) (Nat.le_of_ble_eq_true rfl) (fun pr e s m below meth c A C0 hr hlk hnm hw ls hl => ?_) sz
  have hx := C0.1
  have hb := C0.2.1
  have hown := C0.2.2.2.1
  have hts := C0.2.2.2.2.1
  have hl : lv_has ls 3 [(0, .ref (ad 0)), (1, .int (nI a)), (2, .int (nI b))] := hl
  refine lv_iconst (v := 0) hx hb (dkP dF_3 DX12_spanMany (i := 0) rfl rfl) (by decide) ?_
  refine lv_aload_n hx hb (dkP dF_42 DX12_spanMany (i := 1) rfl rfl) rfl (lv_at hl 0 rfl) ?_
  refine z_gr C0 hw 0 1 1 rfl fl_X12_20 (dk2 dF_180 DX12_spanMany (i := 2) rfl rfl rfl) ?_
  refine lv_iload_n hx hb (dkP dF_27 DX12_spanMany (i := 3) rfl rfl) rfl (lv_at hl 1 rfl) ?_
  refine zn_I hw (zr_S (As := [.int (nI a)]) (rest := [.ref (ad 1), .int 0]) C0 (c_X12_of l G kc a  _) cs_X12_of lk_X12_139 (zp_P C0 a00 s00) rfl hl.1 rfl ⟨by decide, by decide⟩ (Nat.le_of_ble_eq_true rfl) (dk2 dF_184 DX12_spanMany (i := 4) rfl rfl rfl) ⟨Nat.le_refl _, Nat.le_refl _⟩) (fun r1 s1 H locs hp hw => ?_)
  subst hp
  refine lv_iconst (v := 4) hx hb (dkP dF_7 DX12_spanMany (i := 5) rfl rfl) (by decide) ?_
  refine lv_iadd hx hb (dkP dF_96 DX12_spanMany (i := 6) rfl rfl) ?_
  refine z_top (y := nI ((8 + 20 * a) + 4)) (by simp only [fa_lit, nI_add, pk_mul]) ?_
  refine lv_iconst (v := 2) hx hb (dkP dF_5 DX12_spanMany (i := 7) rfl rfl) (by decide) ?_
  refine lv_iload_n hx hb (dkP dF_28 DX12_spanMany (i := 8) rfl rfl) rfl (lv_at hl 2 rfl) ?_
  refine lv_imul hx hb (dkP dF_104 DX12_spanMany (i := 9) rfl rfl) ?_
  refine z_top (y := nI (2 * b)) (by simp only [fa_lit, nI_add, pk_mul]) ?_
  refine lv_iadd hx hb (dkP dF_96 DX12_spanMany (i := 10) rfl rfl) ?_
  refine z_top (y := nI (((8 + 20 * a) + 4) + (2 * b))) (by simp only [fa_lit, nI_add, pk_mul]) ?_
  refine lv_iconst (v := 1) hx hb (dkP dF_4 DX12_spanMany (i := 11) rfl rfl) (by decide) ?_
  refine lv_iadd hx hb (dkP dF_96 DX12_spanMany (i := 12) rfl rfl) ?_
  refine z_top (y := nI ((((8 + 20 * a) + 4) + (2 * b)) + 1)) (by simp only [fa_lit, nI_add, pk_mul]) ?_
  refine z_ialdN (n := 414128) C0 hw 1 ((((8 + 20 * a) + 4) + (2 * b)) + 1) rfl (by omega) (by decide) (dkP dF_46 DX12_spanMany (i := 13) rfl rfl) ?_
  refine z_top (y := 0) (w0_hi a b (by omega) (by omega)) ?_
  refine lv_aload_n hx hb (dkP dF_42 DX12_spanMany (i := 14) rfl rfl) rfl (lv_at hl 0 rfl) ?_
  refine lv_iload_n hx hb (dkP dF_27 DX12_spanMany (i := 15) rfl rfl) rfl (lv_at hl 1 rfl) ?_
  refine lv_iload_n hx hb (dkP dF_28 DX12_spanMany (i := 16) rfl rfl) rfl (lv_at hl 2 rfl) ?_
  refine zk_I hw (zr_V (As := [.int (nI a), .int (nI b)]) (rest := [.int 0, .int 0]) C0 (c_X12_spanLow l G kc ad a b (by first | omega | assumption | decide | rfl) (by first | omega | assumption | decide | rfl) _) cv_X12_spanLow lk_X12_323 (zp_V C0 hw 0 rfl rfl rfl) rfl hl.1 rfl ⟨by decide, by decide⟩ (Nat.le_of_ble_eq_true rfl) (dk2 dF_182 DX12_spanMany (i := 17) rfl rfl rfl) ⟨Nat.le_refl _, Nat.le_refl _⟩) (fun r2 s2 H locs hp hw => ?_)
  obtain ⟨rfl, hs2⟩ := hp
  subst hs2
  refine lv_isub hx hb (dkP dF_100 DX12_spanMany (i := 18) rfl rfl) ?_
  refine z_top (y := (-1)) (by decide) ?_
  refine lv_iconst (v := 1) hx hb (dkP dF_4 DX12_spanMany (i := 19) rfl rfl) (by decide) ?_
  refine lv_iadd hx hb (dkP dF_96 DX12_spanMany (i := 20) rfl rfl) ?_
  refine z_top (y := 0) (by decide) ?_
  refine zn_I hw (zr_S (As := [.int 0, .int 0]) (rest := []) C0 (c_J9_max_7cf53 l G kc 0 0  _) cs_J9_max_7cf53 lk_X12_326 (zp_P C0 a00 s00) rfl hl.1 rfl ⟨by decide, by decide⟩ (Nat.le_of_ble_eq_true rfl) (dk2 dF_184 DX12_spanMany (i := 21) rfl rfl rfl) ⟨Nat.le_refl _, Nat.le_refl _⟩) (fun r3 s3 H locs hp hw => ?_)
  subst hp
  refine z_top (y := 0) (by rfl) ?_
  exact z_iret C0 hr hlk hw (⟨(by first | rfl | ((try simp (disch := omega) only [tnI, tn32 1 (by decide), tnj 1 (by decide), tl32 0 (by decide), tl64 0 (by decide), tl32 1 (by decide), tl64 1 (by decide), tl32 2 (by decide), tl64 2 (by decide), tl32 4 (by decide), tl64 4 (by decide)]); (repeat' split) <;> first | rfl | omega | (apply Int32.toInt_inj.mp; simp (disch := omega) only [tnI, tn32 1 (by decide), tnj 1 (by decide), tl32 0 (by decide), tl64 0 (by decide), tl32 1 (by decide), tl64 1 (by decide), tl32 2 (by decide), tl64 2 (by decide), tl32 4 (by decide), tl64 4 (by decide)]; omega))), rfl⟩) (dkP dF_172 DX12_spanMany (i := 22) rfl rfl)
set_option maxRecDepth 100000 in
set_option maxHeartbeats 4000000 in
theorem c_X12_statesOf (l : Launch) (G : va_G) (kc : Nat → ClassId) (ad : Nat → Nat)  (v : Int32) (hv : ¬ v.toInt = 0) : MI l G kc yX12_statesOf cX12_statesOf 4 (some .int) 2 41 [.ref (ad 0), .int v] shM ad sM0 (fun r σ1 => r = 0 ∧ σ1 = sM0) := by
  intro sz
  refine z_body (y := yX12_statesOf) (n := 4) (av := [.ref (ad 0), .int v]) (Qc := fun A => va_Qi (fun r σ1 => r = 0 ∧ σ1 = sM0) (PoC G kc shM ad A) A) (plainFor_of_name (by decide)) (Nat.le_of_ble_eq_true rfl) (fun pr e s m below meth c A C0 hr hlk hnm hw ls hl => ?_) sz
  have hx := C0.1
  have hb := C0.2.1
  have hown := C0.2.2.2.1
  have hts := C0.2.2.2.2.1
  have hl : lv_has ls 4 [(0, .ref (ad 0)), (1, .int v)] := hl
  refine lv_iconst (v := 0) hx hb (dkP dF_3 DX12_statesOf (i := 0) rfl rfl) (by decide) ?_
  refine lv_istore_n (lv' := [(2, .int 0), (0, .ref (ad 0)), (1, .int v)]) hx hb (dkP dF_61 DX12_statesOf (i := 1) rfl rfl) rfl hl (by decide) rfl (fun ls hl => ?_)
  refine lv_iconst (v := 0) hx hb (dkP dF_3 DX12_statesOf (i := 2) rfl rfl) (by decide) ?_
  refine lv_istore_n (lv' := [(3, .int 0), (2, .int 0), (0, .ref (ad 0)), (1, .int v)]) hx hb (dkP dF_62 DX12_statesOf (i := 3) rfl rfl) rfl hl (by decide) rfl (fun ls hl => ?_)
  refine lv_iload_n hx hb (dkP dF_29 DX12_statesOf (i := 4) rfl rfl) rfl (lv_at hl 0 rfl) ?_
  refine lv_bipush (v := 8) hx hb (dks dF_16 DX12_statesOf (i := 5) rfl rfl rfl) (by decide) ?_
  refine lv_icmp_ge (tgt := 33) hx hb (dkS dF_162 DX12_statesOf (i := 6) rfl rfl rfl) (by decide) (fun h => absurd h (by decide)) (fun _ => ?_)
  refine lv_iload_n hx hb (dkP dF_28 DX12_statesOf (i := 7) rfl rfl) rfl (lv_at hl 1 rfl) ?_
  refine lv_aload_n hx hb (dkP dF_42 DX12_statesOf (i := 8) rfl rfl) rfl (lv_at hl 2 rfl) ?_
  refine lv_iload_n hx hb (dkP dF_29 DX12_statesOf (i := 9) rfl rfl) rfl (lv_at hl 0 rfl) ?_
  refine zk_I hw (zr_V (As := [.int 0]) (rest := [.int 0]) C0 (c_X12_stateOf l G kc ad sM0 0 (by first | omega | assumption | decide | rfl) _) cv_X12_stateOf lk_X12_275 (zp_V C0 hw 0 rfl rfl rfl) rfl hl.1 rfl ⟨by decide, by decide⟩ (Nat.le_of_ble_eq_true rfl) (dk2 dF_182 DX12_statesOf (i := 10) rfl rfl rfl) ⟨Nat.le_refl _, Nat.le_refl _⟩) (fun r1 s1 H locs hp hw => ?_)
  obtain ⟨rfl, hs1⟩ := hp
  subst hs1
  refine z_top (y := 0) (by rfl) ?_
  refine lv_iload_n hx hb (dkP dF_27 DX12_statesOf (i := 11) rfl rfl) rfl (lv_at hl 3 rfl) ?_
  refine lv_icmp_ne (tgt := 24) hx hb (dkS dF_160 DX12_statesOf (i := 12) rfl rfl rfl) (by decide) (fun c2 => ?_) (fun c2 => absurd c2 (by simp only [ta_eq, tl32 0 (by decide)]; omega))
  refine lv_iconst (v := 0) hx hb (dkP dF_3 DX12_statesOf (i := 15) rfl rfl) (by decide) ?_
  refine lv_iadd hx hb (dkP dF_96 DX12_statesOf (i := 16) rfl rfl) ?_
  refine z_top (y := 0) (by decide) ?_
  refine lv_istore_n (lv' := [(2, .int 0), (3, .int 0), (0, .ref (ad 0)), (1, .int v)]) hx hb (dkP dF_61 DX12_statesOf (i := 17) rfl rfl) rfl hl (by decide) rfl (fun ls hl => ?_)
  refine lv_iinc (v := 1) (lv' := [(3, .int 1), (2, .int 0), (0, .ref (ad 0)), (1, .int v)]) hx hb (dkI DX12_statesOf (i := 18) rfl rfl rfl rfl) hl (k := 1) rfl (by decide) (by decide) rfl (fun ls hl => ?_)
  refine lv_goto (tgt := 4) hx hb (dkS dF_167 DX12_statesOf (i := 19) rfl rfl rfl) (by decide) ?_
  refine lv_iload_n hx hb (dkP dF_29 DX12_statesOf (i := 4) rfl rfl) rfl (lv_at hl 0 rfl) ?_
  refine lv_bipush (v := 8) hx hb (dks dF_16 DX12_statesOf (i := 5) rfl rfl rfl) (by decide) ?_
  refine lv_icmp_ge (tgt := 33) hx hb (dkS dF_162 DX12_statesOf (i := 6) rfl rfl rfl) (by decide) (fun h => absurd h (by decide)) (fun _ => ?_)
  refine lv_iload_n hx hb (dkP dF_28 DX12_statesOf (i := 7) rfl rfl) rfl (lv_at hl 1 rfl) ?_
  refine lv_aload_n hx hb (dkP dF_42 DX12_statesOf (i := 8) rfl rfl) rfl (lv_at hl 2 rfl) ?_
  refine lv_iload_n hx hb (dkP dF_29 DX12_statesOf (i := 9) rfl rfl) rfl (lv_at hl 0 rfl) ?_
  refine zk_I hw (zr_V (As := [.int 1]) (rest := [.int 0]) C0 (c_X12_stateOf l G kc ad sM0 1 (by first | omega | assumption | decide | rfl) _) cv_X12_stateOf lk_X12_275 (zp_V C0 hw 0 rfl rfl rfl) rfl hl.1 rfl ⟨by decide, by decide⟩ (Nat.le_of_ble_eq_true rfl) (dk2 dF_182 DX12_statesOf (i := 10) rfl rfl rfl) ⟨Nat.le_refl _, Nat.le_refl _⟩) (fun r3 s3 H locs hp hw => ?_)
  obtain ⟨rfl, hs3⟩ := hp
  subst hs3
  refine z_top (y := 0) (by rfl) ?_
  refine lv_iload_n hx hb (dkP dF_27 DX12_statesOf (i := 11) rfl rfl) rfl (lv_at hl 3 rfl) ?_
  refine lv_icmp_ne (tgt := 24) hx hb (dkS dF_160 DX12_statesOf (i := 12) rfl rfl rfl) (by decide) (fun c4 => ?_) (fun c4 => absurd c4 (by simp only [ta_eq, tl32 0 (by decide)]; omega))
  refine lv_iconst (v := 0) hx hb (dkP dF_3 DX12_statesOf (i := 15) rfl rfl) (by decide) ?_
  refine lv_iadd hx hb (dkP dF_96 DX12_statesOf (i := 16) rfl rfl) ?_
  refine z_top (y := 0) (by decide) ?_
  refine lv_istore_n (lv' := [(2, .int 0), (3, .int 1), (0, .ref (ad 0)), (1, .int v)]) hx hb (dkP dF_61 DX12_statesOf (i := 17) rfl rfl) rfl hl (by decide) rfl (fun ls hl => ?_)
  refine lv_iinc (v := 2) (lv' := [(3, .int 2), (2, .int 0), (0, .ref (ad 0)), (1, .int v)]) hx hb (dkI DX12_statesOf (i := 18) rfl rfl rfl rfl) hl (k := 1) rfl (by decide) (by decide) rfl (fun ls hl => ?_)
  refine lv_goto (tgt := 4) hx hb (dkS dF_167 DX12_statesOf (i := 19) rfl rfl rfl) (by decide) ?_
  refine lv_iload_n hx hb (dkP dF_29 DX12_statesOf (i := 4) rfl rfl) rfl (lv_at hl 0 rfl) ?_
  refine lv_bipush (v := 8) hx hb (dks dF_16 DX12_statesOf (i := 5) rfl rfl rfl) (by decide) ?_
  refine lv_icmp_ge (tgt := 33) hx hb (dkS dF_162 DX12_statesOf (i := 6) rfl rfl rfl) (by decide) (fun h => absurd h (by decide)) (fun _ => ?_)
  refine lv_iload_n hx hb (dkP dF_28 DX12_statesOf (i := 7) rfl rfl) rfl (lv_at hl 1 rfl) ?_
  refine lv_aload_n hx hb (dkP dF_42 DX12_statesOf (i := 8) rfl rfl) rfl (lv_at hl 2 rfl) ?_
  refine lv_iload_n hx hb (dkP dF_29 DX12_statesOf (i := 9) rfl rfl) rfl (lv_at hl 0 rfl) ?_
  refine zk_I hw (zr_V (As := [.int 2]) (rest := [.int 0]) C0 (c_X12_stateOf l G kc ad sM0 2 (by first | omega | assumption | decide | rfl) _) cv_X12_stateOf lk_X12_275 (zp_V C0 hw 0 rfl rfl rfl) rfl hl.1 rfl ⟨by decide, by decide⟩ (Nat.le_of_ble_eq_true rfl) (dk2 dF_182 DX12_statesOf (i := 10) rfl rfl rfl) ⟨Nat.le_refl _, Nat.le_refl _⟩) (fun r5 s5 H locs hp hw => ?_)
  obtain ⟨rfl, hs5⟩ := hp
  subst hs5
  refine z_top (y := 0) (by rfl) ?_
  refine lv_iload_n hx hb (dkP dF_27 DX12_statesOf (i := 11) rfl rfl) rfl (lv_at hl 3 rfl) ?_
  refine lv_icmp_ne (tgt := 24) hx hb (dkS dF_160 DX12_statesOf (i := 12) rfl rfl rfl) (by decide) (fun c6 => ?_) (fun c6 => absurd c6 (by simp only [ta_eq, tl32 0 (by decide)]; omega))
  refine lv_iconst (v := 0) hx hb (dkP dF_3 DX12_statesOf (i := 15) rfl rfl) (by decide) ?_
  refine lv_iadd hx hb (dkP dF_96 DX12_statesOf (i := 16) rfl rfl) ?_
  refine z_top (y := 0) (by decide) ?_
  refine lv_istore_n (lv' := [(2, .int 0), (3, .int 2), (0, .ref (ad 0)), (1, .int v)]) hx hb (dkP dF_61 DX12_statesOf (i := 17) rfl rfl) rfl hl (by decide) rfl (fun ls hl => ?_)
  refine lv_iinc (v := 3) (lv' := [(3, .int 3), (2, .int 0), (0, .ref (ad 0)), (1, .int v)]) hx hb (dkI DX12_statesOf (i := 18) rfl rfl rfl rfl) hl (k := 1) rfl (by decide) (by decide) rfl (fun ls hl => ?_)
  refine lv_goto (tgt := 4) hx hb (dkS dF_167 DX12_statesOf (i := 19) rfl rfl rfl) (by decide) ?_
  refine lv_iload_n hx hb (dkP dF_29 DX12_statesOf (i := 4) rfl rfl) rfl (lv_at hl 0 rfl) ?_
  refine lv_bipush (v := 8) hx hb (dks dF_16 DX12_statesOf (i := 5) rfl rfl rfl) (by decide) ?_
  refine lv_icmp_ge (tgt := 33) hx hb (dkS dF_162 DX12_statesOf (i := 6) rfl rfl rfl) (by decide) (fun h => absurd h (by decide)) (fun _ => ?_)
  refine lv_iload_n hx hb (dkP dF_28 DX12_statesOf (i := 7) rfl rfl) rfl (lv_at hl 1 rfl) ?_
  refine lv_aload_n hx hb (dkP dF_42 DX12_statesOf (i := 8) rfl rfl) rfl (lv_at hl 2 rfl) ?_
  refine lv_iload_n hx hb (dkP dF_29 DX12_statesOf (i := 9) rfl rfl) rfl (lv_at hl 0 rfl) ?_
  refine zk_I hw (zr_V (As := [.int 3]) (rest := [.int 0]) C0 (c_X12_stateOf l G kc ad sM0 3 (by first | omega | assumption | decide | rfl) _) cv_X12_stateOf lk_X12_275 (zp_V C0 hw 0 rfl rfl rfl) rfl hl.1 rfl ⟨by decide, by decide⟩ (Nat.le_of_ble_eq_true rfl) (dk2 dF_182 DX12_statesOf (i := 10) rfl rfl rfl) ⟨Nat.le_refl _, Nat.le_refl _⟩) (fun r7 s7 H locs hp hw => ?_)
  obtain ⟨rfl, hs7⟩ := hp
  subst hs7
  refine z_top (y := 0) (by rfl) ?_
  refine lv_iload_n hx hb (dkP dF_27 DX12_statesOf (i := 11) rfl rfl) rfl (lv_at hl 3 rfl) ?_
  refine lv_icmp_ne (tgt := 24) hx hb (dkS dF_160 DX12_statesOf (i := 12) rfl rfl rfl) (by decide) (fun c8 => ?_) (fun c8 => absurd c8 (by simp only [ta_eq, tl32 0 (by decide)]; omega))
  refine lv_iconst (v := 0) hx hb (dkP dF_3 DX12_statesOf (i := 15) rfl rfl) (by decide) ?_
  refine lv_iadd hx hb (dkP dF_96 DX12_statesOf (i := 16) rfl rfl) ?_
  refine z_top (y := 0) (by decide) ?_
  refine lv_istore_n (lv' := [(2, .int 0), (3, .int 3), (0, .ref (ad 0)), (1, .int v)]) hx hb (dkP dF_61 DX12_statesOf (i := 17) rfl rfl) rfl hl (by decide) rfl (fun ls hl => ?_)
  refine lv_iinc (v := 4) (lv' := [(3, .int 4), (2, .int 0), (0, .ref (ad 0)), (1, .int v)]) hx hb (dkI DX12_statesOf (i := 18) rfl rfl rfl rfl) hl (k := 1) rfl (by decide) (by decide) rfl (fun ls hl => ?_)
  refine lv_goto (tgt := 4) hx hb (dkS dF_167 DX12_statesOf (i := 19) rfl rfl rfl) (by decide) ?_
  refine lv_iload_n hx hb (dkP dF_29 DX12_statesOf (i := 4) rfl rfl) rfl (lv_at hl 0 rfl) ?_
  refine lv_bipush (v := 8) hx hb (dks dF_16 DX12_statesOf (i := 5) rfl rfl rfl) (by decide) ?_
  refine lv_icmp_ge (tgt := 33) hx hb (dkS dF_162 DX12_statesOf (i := 6) rfl rfl rfl) (by decide) (fun h => absurd h (by decide)) (fun _ => ?_)
  refine lv_iload_n hx hb (dkP dF_28 DX12_statesOf (i := 7) rfl rfl) rfl (lv_at hl 1 rfl) ?_
  refine lv_aload_n hx hb (dkP dF_42 DX12_statesOf (i := 8) rfl rfl) rfl (lv_at hl 2 rfl) ?_
  refine lv_iload_n hx hb (dkP dF_29 DX12_statesOf (i := 9) rfl rfl) rfl (lv_at hl 0 rfl) ?_
  refine zk_I hw (zr_V (As := [.int 4]) (rest := [.int 0]) C0 (c_X12_stateOf l G kc ad sM0 4 (by first | omega | assumption | decide | rfl) _) cv_X12_stateOf lk_X12_275 (zp_V C0 hw 0 rfl rfl rfl) rfl hl.1 rfl ⟨by decide, by decide⟩ (Nat.le_of_ble_eq_true rfl) (dk2 dF_182 DX12_statesOf (i := 10) rfl rfl rfl) ⟨Nat.le_refl _, Nat.le_refl _⟩) (fun r9 s9 H locs hp hw => ?_)
  obtain ⟨rfl, hs9⟩ := hp
  subst hs9
  refine z_top (y := 0) (by rfl) ?_
  refine lv_iload_n hx hb (dkP dF_27 DX12_statesOf (i := 11) rfl rfl) rfl (lv_at hl 3 rfl) ?_
  refine lv_icmp_ne (tgt := 24) hx hb (dkS dF_160 DX12_statesOf (i := 12) rfl rfl rfl) (by decide) (fun c10 => ?_) (fun c10 => absurd c10 (by simp only [ta_eq, tl32 0 (by decide)]; omega))
  refine lv_iconst (v := 0) hx hb (dkP dF_3 DX12_statesOf (i := 15) rfl rfl) (by decide) ?_
  refine lv_iadd hx hb (dkP dF_96 DX12_statesOf (i := 16) rfl rfl) ?_
  refine z_top (y := 0) (by decide) ?_
  refine lv_istore_n (lv' := [(2, .int 0), (3, .int 4), (0, .ref (ad 0)), (1, .int v)]) hx hb (dkP dF_61 DX12_statesOf (i := 17) rfl rfl) rfl hl (by decide) rfl (fun ls hl => ?_)
  refine lv_iinc (v := 5) (lv' := [(3, .int 5), (2, .int 0), (0, .ref (ad 0)), (1, .int v)]) hx hb (dkI DX12_statesOf (i := 18) rfl rfl rfl rfl) hl (k := 1) rfl (by decide) (by decide) rfl (fun ls hl => ?_)
  refine lv_goto (tgt := 4) hx hb (dkS dF_167 DX12_statesOf (i := 19) rfl rfl rfl) (by decide) ?_
  refine lv_iload_n hx hb (dkP dF_29 DX12_statesOf (i := 4) rfl rfl) rfl (lv_at hl 0 rfl) ?_
  refine lv_bipush (v := 8) hx hb (dks dF_16 DX12_statesOf (i := 5) rfl rfl rfl) (by decide) ?_
  refine lv_icmp_ge (tgt := 33) hx hb (dkS dF_162 DX12_statesOf (i := 6) rfl rfl rfl) (by decide) (fun h => absurd h (by decide)) (fun _ => ?_)
  refine lv_iload_n hx hb (dkP dF_28 DX12_statesOf (i := 7) rfl rfl) rfl (lv_at hl 1 rfl) ?_
  refine lv_aload_n hx hb (dkP dF_42 DX12_statesOf (i := 8) rfl rfl) rfl (lv_at hl 2 rfl) ?_
  refine lv_iload_n hx hb (dkP dF_29 DX12_statesOf (i := 9) rfl rfl) rfl (lv_at hl 0 rfl) ?_
  refine zk_I hw (zr_V (As := [.int 5]) (rest := [.int 0]) C0 (c_X12_stateOf l G kc ad sM0 5 (by first | omega | assumption | decide | rfl) _) cv_X12_stateOf lk_X12_275 (zp_V C0 hw 0 rfl rfl rfl) rfl hl.1 rfl ⟨by decide, by decide⟩ (Nat.le_of_ble_eq_true rfl) (dk2 dF_182 DX12_statesOf (i := 10) rfl rfl rfl) ⟨Nat.le_refl _, Nat.le_refl _⟩) (fun r11 s11 H locs hp hw => ?_)
  obtain ⟨rfl, hs11⟩ := hp
  subst hs11
  refine z_top (y := 0) (by rfl) ?_
  refine lv_iload_n hx hb (dkP dF_27 DX12_statesOf (i := 11) rfl rfl) rfl (lv_at hl 3 rfl) ?_
  refine lv_icmp_ne (tgt := 24) hx hb (dkS dF_160 DX12_statesOf (i := 12) rfl rfl rfl) (by decide) (fun c12 => ?_) (fun c12 => absurd c12 (by simp only [ta_eq, tl32 0 (by decide)]; omega))
  refine lv_iconst (v := 0) hx hb (dkP dF_3 DX12_statesOf (i := 15) rfl rfl) (by decide) ?_
  refine lv_iadd hx hb (dkP dF_96 DX12_statesOf (i := 16) rfl rfl) ?_
  refine z_top (y := 0) (by decide) ?_
  refine lv_istore_n (lv' := [(2, .int 0), (3, .int 5), (0, .ref (ad 0)), (1, .int v)]) hx hb (dkP dF_61 DX12_statesOf (i := 17) rfl rfl) rfl hl (by decide) rfl (fun ls hl => ?_)
  refine lv_iinc (v := 6) (lv' := [(3, .int 6), (2, .int 0), (0, .ref (ad 0)), (1, .int v)]) hx hb (dkI DX12_statesOf (i := 18) rfl rfl rfl rfl) hl (k := 1) rfl (by decide) (by decide) rfl (fun ls hl => ?_)
  refine lv_goto (tgt := 4) hx hb (dkS dF_167 DX12_statesOf (i := 19) rfl rfl rfl) (by decide) ?_
  refine lv_iload_n hx hb (dkP dF_29 DX12_statesOf (i := 4) rfl rfl) rfl (lv_at hl 0 rfl) ?_
  refine lv_bipush (v := 8) hx hb (dks dF_16 DX12_statesOf (i := 5) rfl rfl rfl) (by decide) ?_
  refine lv_icmp_ge (tgt := 33) hx hb (dkS dF_162 DX12_statesOf (i := 6) rfl rfl rfl) (by decide) (fun h => absurd h (by decide)) (fun _ => ?_)
  refine lv_iload_n hx hb (dkP dF_28 DX12_statesOf (i := 7) rfl rfl) rfl (lv_at hl 1 rfl) ?_
  refine lv_aload_n hx hb (dkP dF_42 DX12_statesOf (i := 8) rfl rfl) rfl (lv_at hl 2 rfl) ?_
  refine lv_iload_n hx hb (dkP dF_29 DX12_statesOf (i := 9) rfl rfl) rfl (lv_at hl 0 rfl) ?_
  refine zk_I hw (zr_V (As := [.int 6]) (rest := [.int 0]) C0 (c_X12_stateOf l G kc ad sM0 6 (by first | omega | assumption | decide | rfl) _) cv_X12_stateOf lk_X12_275 (zp_V C0 hw 0 rfl rfl rfl) rfl hl.1 rfl ⟨by decide, by decide⟩ (Nat.le_of_ble_eq_true rfl) (dk2 dF_182 DX12_statesOf (i := 10) rfl rfl rfl) ⟨Nat.le_refl _, Nat.le_refl _⟩) (fun r13 s13 H locs hp hw => ?_)
  obtain ⟨rfl, hs13⟩ := hp
  subst hs13
  refine z_top (y := 0) (by rfl) ?_
  refine lv_iload_n hx hb (dkP dF_27 DX12_statesOf (i := 11) rfl rfl) rfl (lv_at hl 3 rfl) ?_
  refine lv_icmp_ne (tgt := 24) hx hb (dkS dF_160 DX12_statesOf (i := 12) rfl rfl rfl) (by decide) (fun c14 => ?_) (fun c14 => absurd c14 (by simp only [ta_eq, tl32 0 (by decide)]; omega))
  refine lv_iconst (v := 0) hx hb (dkP dF_3 DX12_statesOf (i := 15) rfl rfl) (by decide) ?_
  refine lv_iadd hx hb (dkP dF_96 DX12_statesOf (i := 16) rfl rfl) ?_
  refine z_top (y := 0) (by decide) ?_
  refine lv_istore_n (lv' := [(2, .int 0), (3, .int 6), (0, .ref (ad 0)), (1, .int v)]) hx hb (dkP dF_61 DX12_statesOf (i := 17) rfl rfl) rfl hl (by decide) rfl (fun ls hl => ?_)
  refine lv_iinc (v := 7) (lv' := [(3, .int 7), (2, .int 0), (0, .ref (ad 0)), (1, .int v)]) hx hb (dkI DX12_statesOf (i := 18) rfl rfl rfl rfl) hl (k := 1) rfl (by decide) (by decide) rfl (fun ls hl => ?_)
  refine lv_goto (tgt := 4) hx hb (dkS dF_167 DX12_statesOf (i := 19) rfl rfl rfl) (by decide) ?_
  refine lv_iload_n hx hb (dkP dF_29 DX12_statesOf (i := 4) rfl rfl) rfl (lv_at hl 0 rfl) ?_
  refine lv_bipush (v := 8) hx hb (dks dF_16 DX12_statesOf (i := 5) rfl rfl rfl) (by decide) ?_
  refine lv_icmp_ge (tgt := 33) hx hb (dkS dF_162 DX12_statesOf (i := 6) rfl rfl rfl) (by decide) (fun h => absurd h (by decide)) (fun _ => ?_)
  refine lv_iload_n hx hb (dkP dF_28 DX12_statesOf (i := 7) rfl rfl) rfl (lv_at hl 1 rfl) ?_
  refine lv_aload_n hx hb (dkP dF_42 DX12_statesOf (i := 8) rfl rfl) rfl (lv_at hl 2 rfl) ?_
  refine lv_iload_n hx hb (dkP dF_29 DX12_statesOf (i := 9) rfl rfl) rfl (lv_at hl 0 rfl) ?_
  refine zk_I hw (zr_V (As := [.int 7]) (rest := [.int 0]) C0 (c_X12_stateOf l G kc ad sM0 7 (by first | omega | assumption | decide | rfl) _) cv_X12_stateOf lk_X12_275 (zp_V C0 hw 0 rfl rfl rfl) rfl hl.1 rfl ⟨by decide, by decide⟩ (Nat.le_of_ble_eq_true rfl) (dk2 dF_182 DX12_statesOf (i := 10) rfl rfl rfl) ⟨Nat.le_refl _, Nat.le_refl _⟩) (fun r15 s15 H locs hp hw => ?_)
  obtain ⟨rfl, hs15⟩ := hp
  subst hs15
  refine z_top (y := 0) (by rfl) ?_
  refine lv_iload_n hx hb (dkP dF_27 DX12_statesOf (i := 11) rfl rfl) rfl (lv_at hl 3 rfl) ?_
  refine lv_icmp_ne (tgt := 24) hx hb (dkS dF_160 DX12_statesOf (i := 12) rfl rfl rfl) (by decide) (fun c16 => ?_) (fun c16 => absurd c16 (by simp only [ta_eq, tl32 0 (by decide)]; omega))
  refine lv_iconst (v := 0) hx hb (dkP dF_3 DX12_statesOf (i := 15) rfl rfl) (by decide) ?_
  refine lv_iadd hx hb (dkP dF_96 DX12_statesOf (i := 16) rfl rfl) ?_
  refine z_top (y := 0) (by decide) ?_
  refine lv_istore_n (lv' := [(2, .int 0), (3, .int 7), (0, .ref (ad 0)), (1, .int v)]) hx hb (dkP dF_61 DX12_statesOf (i := 17) rfl rfl) rfl hl (by decide) rfl (fun ls hl => ?_)
  refine lv_iinc (v := 8) (lv' := [(3, .int 8), (2, .int 0), (0, .ref (ad 0)), (1, .int v)]) hx hb (dkI DX12_statesOf (i := 18) rfl rfl rfl rfl) hl (k := 1) rfl (by decide) (by decide) rfl (fun ls hl => ?_)
  refine lv_goto (tgt := 4) hx hb (dkS dF_167 DX12_statesOf (i := 19) rfl rfl rfl) (by decide) ?_
  refine lv_iload_n hx hb (dkP dF_29 DX12_statesOf (i := 4) rfl rfl) rfl (lv_at hl 0 rfl) ?_
  refine lv_bipush (v := 8) hx hb (dks dF_16 DX12_statesOf (i := 5) rfl rfl rfl) (by decide) ?_
  refine lv_icmp_ge (tgt := 33) hx hb (dkS dF_162 DX12_statesOf (i := 6) rfl rfl rfl) (by decide) (fun _ => ?_) (fun h => absurd h (by decide))
  refine lv_iload_n hx hb (dkP dF_28 DX12_statesOf (i := 20) rfl rfl) rfl (lv_at hl 1 rfl) ?_
  exact z_iret C0 hr hlk hw (⟨(by first | rfl | ((try simp only [lg_cmp_lt, lg_cmp_le, lg_cmp_gt, lg_cmp_ge, lg_cmp_eq] at c2); (try simp (disch := omega) only [ta_lt, ta_le, ta_eq, tb_lt, tb_le, tb_eq, tw, tnI, tn32 1 (by decide), tnj 1 (by decide), tl32 0 (by decide), tl64 0 (by decide), tl32 8 (by decide), tl64 8 (by decide)] at c2); (try simp only [lg_cmp_lt, lg_cmp_le, lg_cmp_gt, lg_cmp_ge, lg_cmp_eq] at c4); (try simp (disch := omega) only [ta_lt, ta_le, ta_eq, tb_lt, tb_le, tb_eq, tw, tnI, tn32 1 (by decide), tnj 1 (by decide), tl32 0 (by decide), tl64 0 (by decide), tl32 8 (by decide), tl64 8 (by decide)] at c4); (try simp only [lg_cmp_lt, lg_cmp_le, lg_cmp_gt, lg_cmp_ge, lg_cmp_eq] at c6); (try simp (disch := omega) only [ta_lt, ta_le, ta_eq, tb_lt, tb_le, tb_eq, tw, tnI, tn32 1 (by decide), tnj 1 (by decide), tl32 0 (by decide), tl64 0 (by decide), tl32 8 (by decide), tl64 8 (by decide)] at c6); (try simp only [lg_cmp_lt, lg_cmp_le, lg_cmp_gt, lg_cmp_ge, lg_cmp_eq] at c8); (try simp (disch := omega) only [ta_lt, ta_le, ta_eq, tb_lt, tb_le, tb_eq, tw, tnI, tn32 1 (by decide), tnj 1 (by decide), tl32 0 (by decide), tl64 0 (by decide), tl32 8 (by decide), tl64 8 (by decide)] at c8); (try simp only [lg_cmp_lt, lg_cmp_le, lg_cmp_gt, lg_cmp_ge, lg_cmp_eq] at c10); (try simp (disch := omega) only [ta_lt, ta_le, ta_eq, tb_lt, tb_le, tb_eq, tw, tnI, tn32 1 (by decide), tnj 1 (by decide), tl32 0 (by decide), tl64 0 (by decide), tl32 8 (by decide), tl64 8 (by decide)] at c10); (try simp only [lg_cmp_lt, lg_cmp_le, lg_cmp_gt, lg_cmp_ge, lg_cmp_eq] at c12); (try simp (disch := omega) only [ta_lt, ta_le, ta_eq, tb_lt, tb_le, tb_eq, tw, tnI, tn32 1 (by decide), tnj 1 (by decide), tl32 0 (by decide), tl64 0 (by decide), tl32 8 (by decide), tl64 8 (by decide)] at c12); (try simp only [lg_cmp_lt, lg_cmp_le, lg_cmp_gt, lg_cmp_ge, lg_cmp_eq] at c14); (try simp (disch := omega) only [ta_lt, ta_le, ta_eq, tb_lt, tb_le, tb_eq, tw, tnI, tn32 1 (by decide), tnj 1 (by decide), tl32 0 (by decide), tl64 0 (by decide), tl32 8 (by decide), tl64 8 (by decide)] at c14); (try simp only [lg_cmp_lt, lg_cmp_le, lg_cmp_gt, lg_cmp_ge, lg_cmp_eq] at c16); (try simp (disch := omega) only [ta_lt, ta_le, ta_eq, tb_lt, tb_le, tb_eq, tw, tnI, tn32 1 (by decide), tnj 1 (by decide), tl32 0 (by decide), tl64 0 (by decide), tl32 8 (by decide), tl64 8 (by decide)] at c16); (try simp (disch := omega) only [tnI, tn32 1 (by decide), tnj 1 (by decide), tl32 0 (by decide), tl64 0 (by decide), tl32 8 (by decide), tl64 8 (by decide)]); (repeat' split) <;> first | rfl | omega | (apply Int32.toInt_inj.mp; simp (disch := omega) only [tnI, tn32 1 (by decide), tnj 1 (by decide), tl32 0 (by decide), tl64 0 (by decide), tl32 8 (by decide), tl64 8 (by decide)]; omega))), rfl⟩) (dkP dF_172 DX12_statesOf (i := 21) rfl rfl)
set_option maxRecDepth 100000 in
set_option maxHeartbeats 4000000 in
theorem c_X12_count (l : Launch) (G : va_G) (kc : Nat → ClassId) (ad : Nat → Nat)  (w : Int32)  : MI l G kc yX12_count cX12_count 4 (some .int) 3 64 [.ref (ad 0), .int w] shM ad sM0 (fun r σ1 => r = if 0 ≤ w.toInt ∧ w.toInt ≤ 10 then 0 else -1) := by
  intro sz
  refine z_body (y := yX12_count) (n := 4) (av := [.ref (ad 0), .int w]) (Qc := fun A => va_Qi (fun r σ1 => r = if 0 ≤ w.toInt ∧ w.toInt ≤ 10 then 0 else -1) (PoC G kc shM ad A) A) (plainFor_of_name (by decide)) (Nat.le_of_ble_eq_true rfl) (fun pr e s m below meth c A C0 hr hlk hnm hw ls hl => ?_) sz
  have hx := C0.1
  have hb := C0.2.1
  have hown := C0.2.2.2.1
  have hts := C0.2.2.2.2.1
  have hl : lv_has ls 4 [(0, .ref (ad 0)), (1, .int w)] := hl
  refine lv_iconst (v := 0) hx hb (dkP dF_3 DX12_count (i := 0) rfl rfl) (by decide) ?_
  refine lv_istore_n (lv' := [(2, .int 0), (0, .ref (ad 0)), (1, .int w)]) hx hb (dkP dF_61 DX12_count (i := 1) rfl rfl) rfl hl (by decide) rfl (fun ls hl => ?_)
  refine lv_iload_n hx hb (dkP dF_27 DX12_count (i := 2) rfl rfl) rfl (lv_at hl 2 rfl) ?_
  by_cases hsw1 : 0 ≤ w.toInt ∧ w.toInt ≤ 10
  · obtain ⟨j1, hj1, rfl⟩ := to_nat (x := w) (n := 11) (by omega)
    match j1, hj1 with
    | 0, _ =>
      refine lv_tableIn (x := nI 0) (off := 57) (tgt := 60) hx hb (dX12_count_3) (by decide) (by decide) rfl (by decide) ?_
      refine lv_iconst (v := 0) hx hb (dkP dF_3 DX12_count (i := 4) rfl rfl) (by decide) ?_
      refine lv_istore_n (lv' := [(3, .int 0), (2, .int 0), (0, .ref (ad 0)), (1, .int (nI 0))]) hx hb (dkP dF_62 DX12_count (i := 5) rfl rfl) rfl hl (by decide) rfl (fun ls hl => ?_)
      refine lv_iload_n hx hb (dkP dF_29 DX12_count (i := 6) rfl rfl) rfl (lv_at hl 0 rfl) ?_
      refine lv_bipush (v := 8) hx hb (dks dF_16 DX12_count (i := 7) rfl rfl rfl) (by decide) ?_
      refine lv_icmp_ge (tgt := 94) hx hb (dkS dF_162 DX12_count (i := 8) rfl rfl rfl) (by decide) (fun h => absurd h (by decide)) (fun _ => ?_)
      refine lv_iload_n hx hb (dkP dF_28 DX12_count (i := 9) rfl rfl) rfl (lv_at hl 1 rfl) ?_
      refine lv_iconst (v := 0) hx hb (dkP dF_3 DX12_count (i := 10) rfl rfl) (by decide) ?_
      refine lv_aload_n hx hb (dkP dF_42 DX12_count (i := 11) rfl rfl) rfl (lv_at hl 2 rfl) ?_
      refine z_gr C0 hw 0 1 1 rfl fl_X12_20 (dk2 dF_180 DX12_count (i := 12) rfl rfl rfl) ?_
      refine lv_iload_n hx hb (dkP dF_29 DX12_count (i := 13) rfl rfl) rfl (lv_at hl 0 rfl) ?_
      refine zn_I hw (zr_S (As := [.int 0]) (rest := [.ref (ad 1), .int 0, .int 0]) C0 (c_X12_of l G kc 0  _) cs_X12_of lk_X12_139 (zp_P C0 a00 s00) rfl hl.1 rfl ⟨by decide, by decide⟩ (Nat.le_of_ble_eq_true rfl) (dk2 dF_184 DX12_count (i := 14) rfl rfl rfl) ⟨Nat.le_refl _, Nat.le_refl _⟩) (fun r2 s2 H locs hp hw => ?_)
      subst hp
      refine z_top (y := 8) (by rfl) ?_
      refine lv_iconst (v := 1) hx hb (dkP dF_4 DX12_count (i := 15) rfl rfl) (by decide) ?_
      refine lv_iadd hx hb (dkP dF_96 DX12_count (i := 16) rfl rfl) ?_
      refine z_top (y := 9) (by decide) ?_
      refine lv_iload_n hx hb (dkP dF_27 DX12_count (i := 17) rfl rfl) rfl (lv_at hl 3 rfl) ?_
      refine lv_iadd hx hb (dkP dF_96 DX12_count (i := 18) rfl rfl) ?_
      refine z_top (y := 9) (by decide) ?_
      refine z_ialdN (n := 414128) C0 hw 1 9 rfl (by omega) (by decide) (dkP dF_46 DX12_count (i := 19) rfl rfl) ?_
      refine z_top (y := (-1)) (by rfl) ?_
      refine zn_I hw (zr_S (As := [.int 0, .int (-1)]) (rest := [.int 0]) C0 (c_J9_max_7cf53 l G kc 0 (-1)  _) cs_J9_max_7cf53 lk_X12_326 (zp_P C0 a00 s00) rfl hl.1 rfl ⟨by decide, by decide⟩ (Nat.le_of_ble_eq_true rfl) (dk2 dF_184 DX12_count (i := 20) rfl rfl rfl) ⟨Nat.le_refl _, Nat.le_refl _⟩) (fun r3 s3 H locs hp hw => ?_)
      subst hp
      refine z_top (y := 0) (by rfl) ?_
      refine lv_iadd hx hb (dkP dF_96 DX12_count (i := 21) rfl rfl) ?_
      refine z_top (y := 0) (by decide) ?_
      refine lv_istore_n (lv' := [(2, .int 0), (3, .int 0), (0, .ref (ad 0)), (1, .int (nI 0))]) hx hb (dkP dF_61 DX12_count (i := 22) rfl rfl) rfl hl (by decide) rfl (fun ls hl => ?_)
      refine lv_iinc (v := 1) (lv' := [(3, .int 1), (2, .int 0), (0, .ref (ad 0)), (1, .int (nI 0))]) hx hb (dkI DX12_count (i := 23) rfl rfl rfl rfl) hl (k := 1) rfl (by decide) (by decide) rfl (fun ls hl => ?_)
      refine lv_goto (tgt := 62) hx hb (dkS dF_167 DX12_count (i := 24) rfl rfl rfl) (by decide) ?_
      refine lv_iload_n hx hb (dkP dF_29 DX12_count (i := 6) rfl rfl) rfl (lv_at hl 0 rfl) ?_
      refine lv_bipush (v := 8) hx hb (dks dF_16 DX12_count (i := 7) rfl rfl rfl) (by decide) ?_
      refine lv_icmp_ge (tgt := 94) hx hb (dkS dF_162 DX12_count (i := 8) rfl rfl rfl) (by decide) (fun h => absurd h (by decide)) (fun _ => ?_)
      refine lv_iload_n hx hb (dkP dF_28 DX12_count (i := 9) rfl rfl) rfl (lv_at hl 1 rfl) ?_
      refine lv_iconst (v := 0) hx hb (dkP dF_3 DX12_count (i := 10) rfl rfl) (by decide) ?_
      refine lv_aload_n hx hb (dkP dF_42 DX12_count (i := 11) rfl rfl) rfl (lv_at hl 2 rfl) ?_
      refine z_gr C0 hw 0 1 1 rfl fl_X12_20 (dk2 dF_180 DX12_count (i := 12) rfl rfl rfl) ?_
      refine lv_iload_n hx hb (dkP dF_29 DX12_count (i := 13) rfl rfl) rfl (lv_at hl 0 rfl) ?_
      refine zn_I hw (zr_S (As := [.int 1]) (rest := [.ref (ad 1), .int 0, .int 0]) C0 (c_X12_of l G kc 1  _) cs_X12_of lk_X12_139 (zp_P C0 a00 s00) rfl hl.1 rfl ⟨by decide, by decide⟩ (Nat.le_of_ble_eq_true rfl) (dk2 dF_184 DX12_count (i := 14) rfl rfl rfl) ⟨Nat.le_refl _, Nat.le_refl _⟩) (fun r4 s4 H locs hp hw => ?_)
      subst hp
      refine z_top (y := 28) (by rfl) ?_
      refine lv_iconst (v := 1) hx hb (dkP dF_4 DX12_count (i := 15) rfl rfl) (by decide) ?_
      refine lv_iadd hx hb (dkP dF_96 DX12_count (i := 16) rfl rfl) ?_
      refine z_top (y := 29) (by decide) ?_
      refine lv_iload_n hx hb (dkP dF_27 DX12_count (i := 17) rfl rfl) rfl (lv_at hl 3 rfl) ?_
      refine lv_iadd hx hb (dkP dF_96 DX12_count (i := 18) rfl rfl) ?_
      refine z_top (y := 29) (by decide) ?_
      refine z_ialdN (n := 414128) C0 hw 1 29 rfl (by omega) (by decide) (dkP dF_46 DX12_count (i := 19) rfl rfl) ?_
      refine z_top (y := (-1)) (by rfl) ?_
      refine zn_I hw (zr_S (As := [.int 0, .int (-1)]) (rest := [.int 0]) C0 (c_J9_max_7cf53 l G kc 0 (-1)  _) cs_J9_max_7cf53 lk_X12_326 (zp_P C0 a00 s00) rfl hl.1 rfl ⟨by decide, by decide⟩ (Nat.le_of_ble_eq_true rfl) (dk2 dF_184 DX12_count (i := 20) rfl rfl rfl) ⟨Nat.le_refl _, Nat.le_refl _⟩) (fun r5 s5 H locs hp hw => ?_)
      subst hp
      refine z_top (y := 0) (by rfl) ?_
      refine lv_iadd hx hb (dkP dF_96 DX12_count (i := 21) rfl rfl) ?_
      refine z_top (y := 0) (by decide) ?_
      refine lv_istore_n (lv' := [(2, .int 0), (3, .int 1), (0, .ref (ad 0)), (1, .int (nI 0))]) hx hb (dkP dF_61 DX12_count (i := 22) rfl rfl) rfl hl (by decide) rfl (fun ls hl => ?_)
      refine lv_iinc (v := 2) (lv' := [(3, .int 2), (2, .int 0), (0, .ref (ad 0)), (1, .int (nI 0))]) hx hb (dkI DX12_count (i := 23) rfl rfl rfl rfl) hl (k := 1) rfl (by decide) (by decide) rfl (fun ls hl => ?_)
      refine lv_goto (tgt := 62) hx hb (dkS dF_167 DX12_count (i := 24) rfl rfl rfl) (by decide) ?_
      refine lv_iload_n hx hb (dkP dF_29 DX12_count (i := 6) rfl rfl) rfl (lv_at hl 0 rfl) ?_
      refine lv_bipush (v := 8) hx hb (dks dF_16 DX12_count (i := 7) rfl rfl rfl) (by decide) ?_
      refine lv_icmp_ge (tgt := 94) hx hb (dkS dF_162 DX12_count (i := 8) rfl rfl rfl) (by decide) (fun h => absurd h (by decide)) (fun _ => ?_)
      refine lv_iload_n hx hb (dkP dF_28 DX12_count (i := 9) rfl rfl) rfl (lv_at hl 1 rfl) ?_
      refine lv_iconst (v := 0) hx hb (dkP dF_3 DX12_count (i := 10) rfl rfl) (by decide) ?_
      refine lv_aload_n hx hb (dkP dF_42 DX12_count (i := 11) rfl rfl) rfl (lv_at hl 2 rfl) ?_
      refine z_gr C0 hw 0 1 1 rfl fl_X12_20 (dk2 dF_180 DX12_count (i := 12) rfl rfl rfl) ?_
      refine lv_iload_n hx hb (dkP dF_29 DX12_count (i := 13) rfl rfl) rfl (lv_at hl 0 rfl) ?_
      refine zn_I hw (zr_S (As := [.int 2]) (rest := [.ref (ad 1), .int 0, .int 0]) C0 (c_X12_of l G kc 2  _) cs_X12_of lk_X12_139 (zp_P C0 a00 s00) rfl hl.1 rfl ⟨by decide, by decide⟩ (Nat.le_of_ble_eq_true rfl) (dk2 dF_184 DX12_count (i := 14) rfl rfl rfl) ⟨Nat.le_refl _, Nat.le_refl _⟩) (fun r6 s6 H locs hp hw => ?_)
      subst hp
      refine z_top (y := 48) (by rfl) ?_
      refine lv_iconst (v := 1) hx hb (dkP dF_4 DX12_count (i := 15) rfl rfl) (by decide) ?_
      refine lv_iadd hx hb (dkP dF_96 DX12_count (i := 16) rfl rfl) ?_
      refine z_top (y := 49) (by decide) ?_
      refine lv_iload_n hx hb (dkP dF_27 DX12_count (i := 17) rfl rfl) rfl (lv_at hl 3 rfl) ?_
      refine lv_iadd hx hb (dkP dF_96 DX12_count (i := 18) rfl rfl) ?_
      refine z_top (y := 49) (by decide) ?_
      refine z_ialdN (n := 414128) C0 hw 1 49 rfl (by omega) (by decide) (dkP dF_46 DX12_count (i := 19) rfl rfl) ?_
      refine z_top (y := (-1)) (by rfl) ?_
      refine zn_I hw (zr_S (As := [.int 0, .int (-1)]) (rest := [.int 0]) C0 (c_J9_max_7cf53 l G kc 0 (-1)  _) cs_J9_max_7cf53 lk_X12_326 (zp_P C0 a00 s00) rfl hl.1 rfl ⟨by decide, by decide⟩ (Nat.le_of_ble_eq_true rfl) (dk2 dF_184 DX12_count (i := 20) rfl rfl rfl) ⟨Nat.le_refl _, Nat.le_refl _⟩) (fun r7 s7 H locs hp hw => ?_)
      subst hp
      refine z_top (y := 0) (by rfl) ?_
      refine lv_iadd hx hb (dkP dF_96 DX12_count (i := 21) rfl rfl) ?_
      refine z_top (y := 0) (by decide) ?_
      refine lv_istore_n (lv' := [(2, .int 0), (3, .int 2), (0, .ref (ad 0)), (1, .int (nI 0))]) hx hb (dkP dF_61 DX12_count (i := 22) rfl rfl) rfl hl (by decide) rfl (fun ls hl => ?_)
      refine lv_iinc (v := 3) (lv' := [(3, .int 3), (2, .int 0), (0, .ref (ad 0)), (1, .int (nI 0))]) hx hb (dkI DX12_count (i := 23) rfl rfl rfl rfl) hl (k := 1) rfl (by decide) (by decide) rfl (fun ls hl => ?_)
      refine lv_goto (tgt := 62) hx hb (dkS dF_167 DX12_count (i := 24) rfl rfl rfl) (by decide) ?_
      refine lv_iload_n hx hb (dkP dF_29 DX12_count (i := 6) rfl rfl) rfl (lv_at hl 0 rfl) ?_
      refine lv_bipush (v := 8) hx hb (dks dF_16 DX12_count (i := 7) rfl rfl rfl) (by decide) ?_
      refine lv_icmp_ge (tgt := 94) hx hb (dkS dF_162 DX12_count (i := 8) rfl rfl rfl) (by decide) (fun h => absurd h (by decide)) (fun _ => ?_)
      refine lv_iload_n hx hb (dkP dF_28 DX12_count (i := 9) rfl rfl) rfl (lv_at hl 1 rfl) ?_
      refine lv_iconst (v := 0) hx hb (dkP dF_3 DX12_count (i := 10) rfl rfl) (by decide) ?_
      refine lv_aload_n hx hb (dkP dF_42 DX12_count (i := 11) rfl rfl) rfl (lv_at hl 2 rfl) ?_
      refine z_gr C0 hw 0 1 1 rfl fl_X12_20 (dk2 dF_180 DX12_count (i := 12) rfl rfl rfl) ?_
      refine lv_iload_n hx hb (dkP dF_29 DX12_count (i := 13) rfl rfl) rfl (lv_at hl 0 rfl) ?_
      refine zn_I hw (zr_S (As := [.int 3]) (rest := [.ref (ad 1), .int 0, .int 0]) C0 (c_X12_of l G kc 3  _) cs_X12_of lk_X12_139 (zp_P C0 a00 s00) rfl hl.1 rfl ⟨by decide, by decide⟩ (Nat.le_of_ble_eq_true rfl) (dk2 dF_184 DX12_count (i := 14) rfl rfl rfl) ⟨Nat.le_refl _, Nat.le_refl _⟩) (fun r8 s8 H locs hp hw => ?_)
      subst hp
      refine z_top (y := 68) (by rfl) ?_
      refine lv_iconst (v := 1) hx hb (dkP dF_4 DX12_count (i := 15) rfl rfl) (by decide) ?_
      refine lv_iadd hx hb (dkP dF_96 DX12_count (i := 16) rfl rfl) ?_
      refine z_top (y := 69) (by decide) ?_
      refine lv_iload_n hx hb (dkP dF_27 DX12_count (i := 17) rfl rfl) rfl (lv_at hl 3 rfl) ?_
      refine lv_iadd hx hb (dkP dF_96 DX12_count (i := 18) rfl rfl) ?_
      refine z_top (y := 69) (by decide) ?_
      refine z_ialdN (n := 414128) C0 hw 1 69 rfl (by omega) (by decide) (dkP dF_46 DX12_count (i := 19) rfl rfl) ?_
      refine z_top (y := (-1)) (by rfl) ?_
      refine zn_I hw (zr_S (As := [.int 0, .int (-1)]) (rest := [.int 0]) C0 (c_J9_max_7cf53 l G kc 0 (-1)  _) cs_J9_max_7cf53 lk_X12_326 (zp_P C0 a00 s00) rfl hl.1 rfl ⟨by decide, by decide⟩ (Nat.le_of_ble_eq_true rfl) (dk2 dF_184 DX12_count (i := 20) rfl rfl rfl) ⟨Nat.le_refl _, Nat.le_refl _⟩) (fun r9 s9 H locs hp hw => ?_)
      subst hp
      refine z_top (y := 0) (by rfl) ?_
      refine lv_iadd hx hb (dkP dF_96 DX12_count (i := 21) rfl rfl) ?_
      refine z_top (y := 0) (by decide) ?_
      refine lv_istore_n (lv' := [(2, .int 0), (3, .int 3), (0, .ref (ad 0)), (1, .int (nI 0))]) hx hb (dkP dF_61 DX12_count (i := 22) rfl rfl) rfl hl (by decide) rfl (fun ls hl => ?_)
      refine lv_iinc (v := 4) (lv' := [(3, .int 4), (2, .int 0), (0, .ref (ad 0)), (1, .int (nI 0))]) hx hb (dkI DX12_count (i := 23) rfl rfl rfl rfl) hl (k := 1) rfl (by decide) (by decide) rfl (fun ls hl => ?_)
      refine lv_goto (tgt := 62) hx hb (dkS dF_167 DX12_count (i := 24) rfl rfl rfl) (by decide) ?_
      refine lv_iload_n hx hb (dkP dF_29 DX12_count (i := 6) rfl rfl) rfl (lv_at hl 0 rfl) ?_
      refine lv_bipush (v := 8) hx hb (dks dF_16 DX12_count (i := 7) rfl rfl rfl) (by decide) ?_
      refine lv_icmp_ge (tgt := 94) hx hb (dkS dF_162 DX12_count (i := 8) rfl rfl rfl) (by decide) (fun h => absurd h (by decide)) (fun _ => ?_)
      refine lv_iload_n hx hb (dkP dF_28 DX12_count (i := 9) rfl rfl) rfl (lv_at hl 1 rfl) ?_
      refine lv_iconst (v := 0) hx hb (dkP dF_3 DX12_count (i := 10) rfl rfl) (by decide) ?_
      refine lv_aload_n hx hb (dkP dF_42 DX12_count (i := 11) rfl rfl) rfl (lv_at hl 2 rfl) ?_
      refine z_gr C0 hw 0 1 1 rfl fl_X12_20 (dk2 dF_180 DX12_count (i := 12) rfl rfl rfl) ?_
      refine lv_iload_n hx hb (dkP dF_29 DX12_count (i := 13) rfl rfl) rfl (lv_at hl 0 rfl) ?_
      refine zn_I hw (zr_S (As := [.int 4]) (rest := [.ref (ad 1), .int 0, .int 0]) C0 (c_X12_of l G kc 4  _) cs_X12_of lk_X12_139 (zp_P C0 a00 s00) rfl hl.1 rfl ⟨by decide, by decide⟩ (Nat.le_of_ble_eq_true rfl) (dk2 dF_184 DX12_count (i := 14) rfl rfl rfl) ⟨Nat.le_refl _, Nat.le_refl _⟩) (fun r10 s10 H locs hp hw => ?_)
      subst hp
      refine z_top (y := 88) (by rfl) ?_
      refine lv_iconst (v := 1) hx hb (dkP dF_4 DX12_count (i := 15) rfl rfl) (by decide) ?_
      refine lv_iadd hx hb (dkP dF_96 DX12_count (i := 16) rfl rfl) ?_
      refine z_top (y := 89) (by decide) ?_
      refine lv_iload_n hx hb (dkP dF_27 DX12_count (i := 17) rfl rfl) rfl (lv_at hl 3 rfl) ?_
      refine lv_iadd hx hb (dkP dF_96 DX12_count (i := 18) rfl rfl) ?_
      refine z_top (y := 89) (by decide) ?_
      refine z_ialdN (n := 414128) C0 hw 1 89 rfl (by omega) (by decide) (dkP dF_46 DX12_count (i := 19) rfl rfl) ?_
      refine z_top (y := (-1)) (by rfl) ?_
      refine zn_I hw (zr_S (As := [.int 0, .int (-1)]) (rest := [.int 0]) C0 (c_J9_max_7cf53 l G kc 0 (-1)  _) cs_J9_max_7cf53 lk_X12_326 (zp_P C0 a00 s00) rfl hl.1 rfl ⟨by decide, by decide⟩ (Nat.le_of_ble_eq_true rfl) (dk2 dF_184 DX12_count (i := 20) rfl rfl rfl) ⟨Nat.le_refl _, Nat.le_refl _⟩) (fun r11 s11 H locs hp hw => ?_)
      subst hp
      refine z_top (y := 0) (by rfl) ?_
      refine lv_iadd hx hb (dkP dF_96 DX12_count (i := 21) rfl rfl) ?_
      refine z_top (y := 0) (by decide) ?_
      refine lv_istore_n (lv' := [(2, .int 0), (3, .int 4), (0, .ref (ad 0)), (1, .int (nI 0))]) hx hb (dkP dF_61 DX12_count (i := 22) rfl rfl) rfl hl (by decide) rfl (fun ls hl => ?_)
      refine lv_iinc (v := 5) (lv' := [(3, .int 5), (2, .int 0), (0, .ref (ad 0)), (1, .int (nI 0))]) hx hb (dkI DX12_count (i := 23) rfl rfl rfl rfl) hl (k := 1) rfl (by decide) (by decide) rfl (fun ls hl => ?_)
      refine lv_goto (tgt := 62) hx hb (dkS dF_167 DX12_count (i := 24) rfl rfl rfl) (by decide) ?_
      refine lv_iload_n hx hb (dkP dF_29 DX12_count (i := 6) rfl rfl) rfl (lv_at hl 0 rfl) ?_
      refine lv_bipush (v := 8) hx hb (dks dF_16 DX12_count (i := 7) rfl rfl rfl) (by decide) ?_
      refine lv_icmp_ge (tgt := 94) hx hb (dkS dF_162 DX12_count (i := 8) rfl rfl rfl) (by decide) (fun h => absurd h (by decide)) (fun _ => ?_)
      refine lv_iload_n hx hb (dkP dF_28 DX12_count (i := 9) rfl rfl) rfl (lv_at hl 1 rfl) ?_
      refine lv_iconst (v := 0) hx hb (dkP dF_3 DX12_count (i := 10) rfl rfl) (by decide) ?_
      refine lv_aload_n hx hb (dkP dF_42 DX12_count (i := 11) rfl rfl) rfl (lv_at hl 2 rfl) ?_
      refine z_gr C0 hw 0 1 1 rfl fl_X12_20 (dk2 dF_180 DX12_count (i := 12) rfl rfl rfl) ?_
      refine lv_iload_n hx hb (dkP dF_29 DX12_count (i := 13) rfl rfl) rfl (lv_at hl 0 rfl) ?_
      refine zn_I hw (zr_S (As := [.int 5]) (rest := [.ref (ad 1), .int 0, .int 0]) C0 (c_X12_of l G kc 5  _) cs_X12_of lk_X12_139 (zp_P C0 a00 s00) rfl hl.1 rfl ⟨by decide, by decide⟩ (Nat.le_of_ble_eq_true rfl) (dk2 dF_184 DX12_count (i := 14) rfl rfl rfl) ⟨Nat.le_refl _, Nat.le_refl _⟩) (fun r12 s12 H locs hp hw => ?_)
      subst hp
      refine z_top (y := 108) (by rfl) ?_
      refine lv_iconst (v := 1) hx hb (dkP dF_4 DX12_count (i := 15) rfl rfl) (by decide) ?_
      refine lv_iadd hx hb (dkP dF_96 DX12_count (i := 16) rfl rfl) ?_
      refine z_top (y := 109) (by decide) ?_
      refine lv_iload_n hx hb (dkP dF_27 DX12_count (i := 17) rfl rfl) rfl (lv_at hl 3 rfl) ?_
      refine lv_iadd hx hb (dkP dF_96 DX12_count (i := 18) rfl rfl) ?_
      refine z_top (y := 109) (by decide) ?_
      refine z_ialdN (n := 414128) C0 hw 1 109 rfl (by omega) (by decide) (dkP dF_46 DX12_count (i := 19) rfl rfl) ?_
      refine z_top (y := (-1)) (by rfl) ?_
      refine zn_I hw (zr_S (As := [.int 0, .int (-1)]) (rest := [.int 0]) C0 (c_J9_max_7cf53 l G kc 0 (-1)  _) cs_J9_max_7cf53 lk_X12_326 (zp_P C0 a00 s00) rfl hl.1 rfl ⟨by decide, by decide⟩ (Nat.le_of_ble_eq_true rfl) (dk2 dF_184 DX12_count (i := 20) rfl rfl rfl) ⟨Nat.le_refl _, Nat.le_refl _⟩) (fun r13 s13 H locs hp hw => ?_)
      subst hp
      refine z_top (y := 0) (by rfl) ?_
      refine lv_iadd hx hb (dkP dF_96 DX12_count (i := 21) rfl rfl) ?_
      refine z_top (y := 0) (by decide) ?_
      refine lv_istore_n (lv' := [(2, .int 0), (3, .int 5), (0, .ref (ad 0)), (1, .int (nI 0))]) hx hb (dkP dF_61 DX12_count (i := 22) rfl rfl) rfl hl (by decide) rfl (fun ls hl => ?_)
      refine lv_iinc (v := 6) (lv' := [(3, .int 6), (2, .int 0), (0, .ref (ad 0)), (1, .int (nI 0))]) hx hb (dkI DX12_count (i := 23) rfl rfl rfl rfl) hl (k := 1) rfl (by decide) (by decide) rfl (fun ls hl => ?_)
      refine lv_goto (tgt := 62) hx hb (dkS dF_167 DX12_count (i := 24) rfl rfl rfl) (by decide) ?_
      refine lv_iload_n hx hb (dkP dF_29 DX12_count (i := 6) rfl rfl) rfl (lv_at hl 0 rfl) ?_
      refine lv_bipush (v := 8) hx hb (dks dF_16 DX12_count (i := 7) rfl rfl rfl) (by decide) ?_
      refine lv_icmp_ge (tgt := 94) hx hb (dkS dF_162 DX12_count (i := 8) rfl rfl rfl) (by decide) (fun h => absurd h (by decide)) (fun _ => ?_)
      refine lv_iload_n hx hb (dkP dF_28 DX12_count (i := 9) rfl rfl) rfl (lv_at hl 1 rfl) ?_
      refine lv_iconst (v := 0) hx hb (dkP dF_3 DX12_count (i := 10) rfl rfl) (by decide) ?_
      refine lv_aload_n hx hb (dkP dF_42 DX12_count (i := 11) rfl rfl) rfl (lv_at hl 2 rfl) ?_
      refine z_gr C0 hw 0 1 1 rfl fl_X12_20 (dk2 dF_180 DX12_count (i := 12) rfl rfl rfl) ?_
      refine lv_iload_n hx hb (dkP dF_29 DX12_count (i := 13) rfl rfl) rfl (lv_at hl 0 rfl) ?_
      refine zn_I hw (zr_S (As := [.int 6]) (rest := [.ref (ad 1), .int 0, .int 0]) C0 (c_X12_of l G kc 6  _) cs_X12_of lk_X12_139 (zp_P C0 a00 s00) rfl hl.1 rfl ⟨by decide, by decide⟩ (Nat.le_of_ble_eq_true rfl) (dk2 dF_184 DX12_count (i := 14) rfl rfl rfl) ⟨Nat.le_refl _, Nat.le_refl _⟩) (fun r14 s14 H locs hp hw => ?_)
      subst hp
      refine z_top (y := 128) (by rfl) ?_
      refine lv_iconst (v := 1) hx hb (dkP dF_4 DX12_count (i := 15) rfl rfl) (by decide) ?_
      refine lv_iadd hx hb (dkP dF_96 DX12_count (i := 16) rfl rfl) ?_
      refine z_top (y := 129) (by decide) ?_
      refine lv_iload_n hx hb (dkP dF_27 DX12_count (i := 17) rfl rfl) rfl (lv_at hl 3 rfl) ?_
      refine lv_iadd hx hb (dkP dF_96 DX12_count (i := 18) rfl rfl) ?_
      refine z_top (y := 129) (by decide) ?_
      refine z_ialdN (n := 414128) C0 hw 1 129 rfl (by omega) (by decide) (dkP dF_46 DX12_count (i := 19) rfl rfl) ?_
      refine z_top (y := (-1)) (by rfl) ?_
      refine zn_I hw (zr_S (As := [.int 0, .int (-1)]) (rest := [.int 0]) C0 (c_J9_max_7cf53 l G kc 0 (-1)  _) cs_J9_max_7cf53 lk_X12_326 (zp_P C0 a00 s00) rfl hl.1 rfl ⟨by decide, by decide⟩ (Nat.le_of_ble_eq_true rfl) (dk2 dF_184 DX12_count (i := 20) rfl rfl rfl) ⟨Nat.le_refl _, Nat.le_refl _⟩) (fun r15 s15 H locs hp hw => ?_)
      subst hp
      refine z_top (y := 0) (by rfl) ?_
      refine lv_iadd hx hb (dkP dF_96 DX12_count (i := 21) rfl rfl) ?_
      refine z_top (y := 0) (by decide) ?_
      refine lv_istore_n (lv' := [(2, .int 0), (3, .int 6), (0, .ref (ad 0)), (1, .int (nI 0))]) hx hb (dkP dF_61 DX12_count (i := 22) rfl rfl) rfl hl (by decide) rfl (fun ls hl => ?_)
      refine lv_iinc (v := 7) (lv' := [(3, .int 7), (2, .int 0), (0, .ref (ad 0)), (1, .int (nI 0))]) hx hb (dkI DX12_count (i := 23) rfl rfl rfl rfl) hl (k := 1) rfl (by decide) (by decide) rfl (fun ls hl => ?_)
      refine lv_goto (tgt := 62) hx hb (dkS dF_167 DX12_count (i := 24) rfl rfl rfl) (by decide) ?_
      refine lv_iload_n hx hb (dkP dF_29 DX12_count (i := 6) rfl rfl) rfl (lv_at hl 0 rfl) ?_
      refine lv_bipush (v := 8) hx hb (dks dF_16 DX12_count (i := 7) rfl rfl rfl) (by decide) ?_
      refine lv_icmp_ge (tgt := 94) hx hb (dkS dF_162 DX12_count (i := 8) rfl rfl rfl) (by decide) (fun h => absurd h (by decide)) (fun _ => ?_)
      refine lv_iload_n hx hb (dkP dF_28 DX12_count (i := 9) rfl rfl) rfl (lv_at hl 1 rfl) ?_
      refine lv_iconst (v := 0) hx hb (dkP dF_3 DX12_count (i := 10) rfl rfl) (by decide) ?_
      refine lv_aload_n hx hb (dkP dF_42 DX12_count (i := 11) rfl rfl) rfl (lv_at hl 2 rfl) ?_
      refine z_gr C0 hw 0 1 1 rfl fl_X12_20 (dk2 dF_180 DX12_count (i := 12) rfl rfl rfl) ?_
      refine lv_iload_n hx hb (dkP dF_29 DX12_count (i := 13) rfl rfl) rfl (lv_at hl 0 rfl) ?_
      refine zn_I hw (zr_S (As := [.int 7]) (rest := [.ref (ad 1), .int 0, .int 0]) C0 (c_X12_of l G kc 7  _) cs_X12_of lk_X12_139 (zp_P C0 a00 s00) rfl hl.1 rfl ⟨by decide, by decide⟩ (Nat.le_of_ble_eq_true rfl) (dk2 dF_184 DX12_count (i := 14) rfl rfl rfl) ⟨Nat.le_refl _, Nat.le_refl _⟩) (fun r16 s16 H locs hp hw => ?_)
      subst hp
      refine z_top (y := 148) (by rfl) ?_
      refine lv_iconst (v := 1) hx hb (dkP dF_4 DX12_count (i := 15) rfl rfl) (by decide) ?_
      refine lv_iadd hx hb (dkP dF_96 DX12_count (i := 16) rfl rfl) ?_
      refine z_top (y := 149) (by decide) ?_
      refine lv_iload_n hx hb (dkP dF_27 DX12_count (i := 17) rfl rfl) rfl (lv_at hl 3 rfl) ?_
      refine lv_iadd hx hb (dkP dF_96 DX12_count (i := 18) rfl rfl) ?_
      refine z_top (y := 149) (by decide) ?_
      refine z_ialdN (n := 414128) C0 hw 1 149 rfl (by omega) (by decide) (dkP dF_46 DX12_count (i := 19) rfl rfl) ?_
      refine z_top (y := (-1)) (by rfl) ?_
      refine zn_I hw (zr_S (As := [.int 0, .int (-1)]) (rest := [.int 0]) C0 (c_J9_max_7cf53 l G kc 0 (-1)  _) cs_J9_max_7cf53 lk_X12_326 (zp_P C0 a00 s00) rfl hl.1 rfl ⟨by decide, by decide⟩ (Nat.le_of_ble_eq_true rfl) (dk2 dF_184 DX12_count (i := 20) rfl rfl rfl) ⟨Nat.le_refl _, Nat.le_refl _⟩) (fun r17 s17 H locs hp hw => ?_)
      subst hp
      refine z_top (y := 0) (by rfl) ?_
      refine lv_iadd hx hb (dkP dF_96 DX12_count (i := 21) rfl rfl) ?_
      refine z_top (y := 0) (by decide) ?_
      refine lv_istore_n (lv' := [(2, .int 0), (3, .int 7), (0, .ref (ad 0)), (1, .int (nI 0))]) hx hb (dkP dF_61 DX12_count (i := 22) rfl rfl) rfl hl (by decide) rfl (fun ls hl => ?_)
      refine lv_iinc (v := 8) (lv' := [(3, .int 8), (2, .int 0), (0, .ref (ad 0)), (1, .int (nI 0))]) hx hb (dkI DX12_count (i := 23) rfl rfl rfl rfl) hl (k := 1) rfl (by decide) (by decide) rfl (fun ls hl => ?_)
      refine lv_goto (tgt := 62) hx hb (dkS dF_167 DX12_count (i := 24) rfl rfl rfl) (by decide) ?_
      refine lv_iload_n hx hb (dkP dF_29 DX12_count (i := 6) rfl rfl) rfl (lv_at hl 0 rfl) ?_
      refine lv_bipush (v := 8) hx hb (dks dF_16 DX12_count (i := 7) rfl rfl rfl) (by decide) ?_
      refine lv_icmp_ge (tgt := 94) hx hb (dkS dF_162 DX12_count (i := 8) rfl rfl rfl) (by decide) (fun _ => ?_) (fun h => absurd h (by decide))
      refine lv_iload_n hx hb (dkP dF_28 DX12_count (i := 25) rfl rfl) rfl (lv_at hl 1 rfl) ?_
      exact z_iret C0 hr hlk hw (by first | rfl | ((try simp (disch := omega) only [tnI, tn32 1 (by decide), tnj 1 (by decide), tl32 0 (by decide), tl64 0 (by decide), tl32 1 (by decide), tl64 1 (by decide), tl32 8 (by decide), tl64 8 (by decide), tl32 9 (by decide), tl64 9 (by decide), tl32 29 (by decide), tl64 29 (by decide), tl32 49 (by decide), tl64 49 (by decide), tl32 69 (by decide), tl64 69 (by decide), tl32 89 (by decide), tl64 89 (by decide), tl32 109 (by decide), tl64 109 (by decide), tl32 129 (by decide), tl64 129 (by decide), tl32 149 (by decide), tl64 149 (by decide)]); (repeat' split) <;> first | rfl | omega | (apply Int32.toInt_inj.mp; simp (disch := omega) only [tnI, tn32 1 (by decide), tnj 1 (by decide), tl32 0 (by decide), tl64 0 (by decide), tl32 1 (by decide), tl64 1 (by decide), tl32 8 (by decide), tl64 8 (by decide), tl32 9 (by decide), tl64 9 (by decide), tl32 29 (by decide), tl64 29 (by decide), tl32 49 (by decide), tl64 49 (by decide), tl32 69 (by decide), tl64 69 (by decide), tl32 89 (by decide), tl64 89 (by decide), tl32 109 (by decide), tl64 109 (by decide), tl32 129 (by decide), tl64 129 (by decide), tl32 149 (by decide), tl64 149 (by decide)]; omega))) (dkP dF_172 DX12_count (i := 26) rfl rfl)
    | 1, _ =>
      refine lv_tableIn (x := nI 1) (off := 57) (tgt := 60) hx hb (dX12_count_3) (by decide) (by decide) rfl (by decide) ?_
      refine lv_iconst (v := 0) hx hb (dkP dF_3 DX12_count (i := 4) rfl rfl) (by decide) ?_
      refine lv_istore_n (lv' := [(3, .int 0), (2, .int 0), (0, .ref (ad 0)), (1, .int (nI 1))]) hx hb (dkP dF_62 DX12_count (i := 5) rfl rfl) rfl hl (by decide) rfl (fun ls hl => ?_)
      refine lv_iload_n hx hb (dkP dF_29 DX12_count (i := 6) rfl rfl) rfl (lv_at hl 0 rfl) ?_
      refine lv_bipush (v := 8) hx hb (dks dF_16 DX12_count (i := 7) rfl rfl rfl) (by decide) ?_
      refine lv_icmp_ge (tgt := 94) hx hb (dkS dF_162 DX12_count (i := 8) rfl rfl rfl) (by decide) (fun h => absurd h (by decide)) (fun _ => ?_)
      refine lv_iload_n hx hb (dkP dF_28 DX12_count (i := 9) rfl rfl) rfl (lv_at hl 1 rfl) ?_
      refine lv_iconst (v := 0) hx hb (dkP dF_3 DX12_count (i := 10) rfl rfl) (by decide) ?_
      refine lv_aload_n hx hb (dkP dF_42 DX12_count (i := 11) rfl rfl) rfl (lv_at hl 2 rfl) ?_
      refine z_gr C0 hw 0 1 1 rfl fl_X12_20 (dk2 dF_180 DX12_count (i := 12) rfl rfl rfl) ?_
      refine lv_iload_n hx hb (dkP dF_29 DX12_count (i := 13) rfl rfl) rfl (lv_at hl 0 rfl) ?_
      refine zn_I hw (zr_S (As := [.int 0]) (rest := [.ref (ad 1), .int 0, .int 0]) C0 (c_X12_of l G kc 0  _) cs_X12_of lk_X12_139 (zp_P C0 a00 s00) rfl hl.1 rfl ⟨by decide, by decide⟩ (Nat.le_of_ble_eq_true rfl) (dk2 dF_184 DX12_count (i := 14) rfl rfl rfl) ⟨Nat.le_refl _, Nat.le_refl _⟩) (fun r18 s18 H locs hp hw => ?_)
      subst hp
      refine z_top (y := 8) (by rfl) ?_
      refine lv_iconst (v := 1) hx hb (dkP dF_4 DX12_count (i := 15) rfl rfl) (by decide) ?_
      refine lv_iadd hx hb (dkP dF_96 DX12_count (i := 16) rfl rfl) ?_
      refine z_top (y := 9) (by decide) ?_
      refine lv_iload_n hx hb (dkP dF_27 DX12_count (i := 17) rfl rfl) rfl (lv_at hl 3 rfl) ?_
      refine lv_iadd hx hb (dkP dF_96 DX12_count (i := 18) rfl rfl) ?_
      refine z_top (y := 10) (by decide) ?_
      refine z_ialdN (n := 414128) C0 hw 1 10 rfl (by omega) (by decide) (dkP dF_46 DX12_count (i := 19) rfl rfl) ?_
      refine z_top (y := (-1)) (by rfl) ?_
      refine zn_I hw (zr_S (As := [.int 0, .int (-1)]) (rest := [.int 0]) C0 (c_J9_max_7cf53 l G kc 0 (-1)  _) cs_J9_max_7cf53 lk_X12_326 (zp_P C0 a00 s00) rfl hl.1 rfl ⟨by decide, by decide⟩ (Nat.le_of_ble_eq_true rfl) (dk2 dF_184 DX12_count (i := 20) rfl rfl rfl) ⟨Nat.le_refl _, Nat.le_refl _⟩) (fun r19 s19 H locs hp hw => ?_)
      subst hp
      refine z_top (y := 0) (by rfl) ?_
      refine lv_iadd hx hb (dkP dF_96 DX12_count (i := 21) rfl rfl) ?_
      refine z_top (y := 0) (by decide) ?_
      refine lv_istore_n (lv' := [(2, .int 0), (3, .int 0), (0, .ref (ad 0)), (1, .int (nI 1))]) hx hb (dkP dF_61 DX12_count (i := 22) rfl rfl) rfl hl (by decide) rfl (fun ls hl => ?_)
      refine lv_iinc (v := 1) (lv' := [(3, .int 1), (2, .int 0), (0, .ref (ad 0)), (1, .int (nI 1))]) hx hb (dkI DX12_count (i := 23) rfl rfl rfl rfl) hl (k := 1) rfl (by decide) (by decide) rfl (fun ls hl => ?_)
      refine lv_goto (tgt := 62) hx hb (dkS dF_167 DX12_count (i := 24) rfl rfl rfl) (by decide) ?_
      refine lv_iload_n hx hb (dkP dF_29 DX12_count (i := 6) rfl rfl) rfl (lv_at hl 0 rfl) ?_
      refine lv_bipush (v := 8) hx hb (dks dF_16 DX12_count (i := 7) rfl rfl rfl) (by decide) ?_
      refine lv_icmp_ge (tgt := 94) hx hb (dkS dF_162 DX12_count (i := 8) rfl rfl rfl) (by decide) (fun h => absurd h (by decide)) (fun _ => ?_)
      refine lv_iload_n hx hb (dkP dF_28 DX12_count (i := 9) rfl rfl) rfl (lv_at hl 1 rfl) ?_
      refine lv_iconst (v := 0) hx hb (dkP dF_3 DX12_count (i := 10) rfl rfl) (by decide) ?_
      refine lv_aload_n hx hb (dkP dF_42 DX12_count (i := 11) rfl rfl) rfl (lv_at hl 2 rfl) ?_
      refine z_gr C0 hw 0 1 1 rfl fl_X12_20 (dk2 dF_180 DX12_count (i := 12) rfl rfl rfl) ?_
      refine lv_iload_n hx hb (dkP dF_29 DX12_count (i := 13) rfl rfl) rfl (lv_at hl 0 rfl) ?_
      refine zn_I hw (zr_S (As := [.int 1]) (rest := [.ref (ad 1), .int 0, .int 0]) C0 (c_X12_of l G kc 1  _) cs_X12_of lk_X12_139 (zp_P C0 a00 s00) rfl hl.1 rfl ⟨by decide, by decide⟩ (Nat.le_of_ble_eq_true rfl) (dk2 dF_184 DX12_count (i := 14) rfl rfl rfl) ⟨Nat.le_refl _, Nat.le_refl _⟩) (fun r20 s20 H locs hp hw => ?_)
      subst hp
      refine z_top (y := 28) (by rfl) ?_
      refine lv_iconst (v := 1) hx hb (dkP dF_4 DX12_count (i := 15) rfl rfl) (by decide) ?_
      refine lv_iadd hx hb (dkP dF_96 DX12_count (i := 16) rfl rfl) ?_
      refine z_top (y := 29) (by decide) ?_
      refine lv_iload_n hx hb (dkP dF_27 DX12_count (i := 17) rfl rfl) rfl (lv_at hl 3 rfl) ?_
      refine lv_iadd hx hb (dkP dF_96 DX12_count (i := 18) rfl rfl) ?_
      refine z_top (y := 30) (by decide) ?_
      refine z_ialdN (n := 414128) C0 hw 1 30 rfl (by omega) (by decide) (dkP dF_46 DX12_count (i := 19) rfl rfl) ?_
      refine z_top (y := (-1)) (by rfl) ?_
      refine zn_I hw (zr_S (As := [.int 0, .int (-1)]) (rest := [.int 0]) C0 (c_J9_max_7cf53 l G kc 0 (-1)  _) cs_J9_max_7cf53 lk_X12_326 (zp_P C0 a00 s00) rfl hl.1 rfl ⟨by decide, by decide⟩ (Nat.le_of_ble_eq_true rfl) (dk2 dF_184 DX12_count (i := 20) rfl rfl rfl) ⟨Nat.le_refl _, Nat.le_refl _⟩) (fun r21 s21 H locs hp hw => ?_)
      subst hp
      refine z_top (y := 0) (by rfl) ?_
      refine lv_iadd hx hb (dkP dF_96 DX12_count (i := 21) rfl rfl) ?_
      refine z_top (y := 0) (by decide) ?_
      refine lv_istore_n (lv' := [(2, .int 0), (3, .int 1), (0, .ref (ad 0)), (1, .int (nI 1))]) hx hb (dkP dF_61 DX12_count (i := 22) rfl rfl) rfl hl (by decide) rfl (fun ls hl => ?_)
      refine lv_iinc (v := 2) (lv' := [(3, .int 2), (2, .int 0), (0, .ref (ad 0)), (1, .int (nI 1))]) hx hb (dkI DX12_count (i := 23) rfl rfl rfl rfl) hl (k := 1) rfl (by decide) (by decide) rfl (fun ls hl => ?_)
      refine lv_goto (tgt := 62) hx hb (dkS dF_167 DX12_count (i := 24) rfl rfl rfl) (by decide) ?_
      refine lv_iload_n hx hb (dkP dF_29 DX12_count (i := 6) rfl rfl) rfl (lv_at hl 0 rfl) ?_
      refine lv_bipush (v := 8) hx hb (dks dF_16 DX12_count (i := 7) rfl rfl rfl) (by decide) ?_
      refine lv_icmp_ge (tgt := 94) hx hb (dkS dF_162 DX12_count (i := 8) rfl rfl rfl) (by decide) (fun h => absurd h (by decide)) (fun _ => ?_)
      refine lv_iload_n hx hb (dkP dF_28 DX12_count (i := 9) rfl rfl) rfl (lv_at hl 1 rfl) ?_
      refine lv_iconst (v := 0) hx hb (dkP dF_3 DX12_count (i := 10) rfl rfl) (by decide) ?_
      refine lv_aload_n hx hb (dkP dF_42 DX12_count (i := 11) rfl rfl) rfl (lv_at hl 2 rfl) ?_
      refine z_gr C0 hw 0 1 1 rfl fl_X12_20 (dk2 dF_180 DX12_count (i := 12) rfl rfl rfl) ?_
      refine lv_iload_n hx hb (dkP dF_29 DX12_count (i := 13) rfl rfl) rfl (lv_at hl 0 rfl) ?_
      refine zn_I hw (zr_S (As := [.int 2]) (rest := [.ref (ad 1), .int 0, .int 0]) C0 (c_X12_of l G kc 2  _) cs_X12_of lk_X12_139 (zp_P C0 a00 s00) rfl hl.1 rfl ⟨by decide, by decide⟩ (Nat.le_of_ble_eq_true rfl) (dk2 dF_184 DX12_count (i := 14) rfl rfl rfl) ⟨Nat.le_refl _, Nat.le_refl _⟩) (fun r22 s22 H locs hp hw => ?_)
      subst hp
      refine z_top (y := 48) (by rfl) ?_
      refine lv_iconst (v := 1) hx hb (dkP dF_4 DX12_count (i := 15) rfl rfl) (by decide) ?_
      refine lv_iadd hx hb (dkP dF_96 DX12_count (i := 16) rfl rfl) ?_
      refine z_top (y := 49) (by decide) ?_
      refine lv_iload_n hx hb (dkP dF_27 DX12_count (i := 17) rfl rfl) rfl (lv_at hl 3 rfl) ?_
      refine lv_iadd hx hb (dkP dF_96 DX12_count (i := 18) rfl rfl) ?_
      refine z_top (y := 50) (by decide) ?_
      refine z_ialdN (n := 414128) C0 hw 1 50 rfl (by omega) (by decide) (dkP dF_46 DX12_count (i := 19) rfl rfl) ?_
      refine z_top (y := (-1)) (by rfl) ?_
      refine zn_I hw (zr_S (As := [.int 0, .int (-1)]) (rest := [.int 0]) C0 (c_J9_max_7cf53 l G kc 0 (-1)  _) cs_J9_max_7cf53 lk_X12_326 (zp_P C0 a00 s00) rfl hl.1 rfl ⟨by decide, by decide⟩ (Nat.le_of_ble_eq_true rfl) (dk2 dF_184 DX12_count (i := 20) rfl rfl rfl) ⟨Nat.le_refl _, Nat.le_refl _⟩) (fun r23 s23 H locs hp hw => ?_)
      subst hp
      refine z_top (y := 0) (by rfl) ?_
      refine lv_iadd hx hb (dkP dF_96 DX12_count (i := 21) rfl rfl) ?_
      refine z_top (y := 0) (by decide) ?_
      refine lv_istore_n (lv' := [(2, .int 0), (3, .int 2), (0, .ref (ad 0)), (1, .int (nI 1))]) hx hb (dkP dF_61 DX12_count (i := 22) rfl rfl) rfl hl (by decide) rfl (fun ls hl => ?_)
      refine lv_iinc (v := 3) (lv' := [(3, .int 3), (2, .int 0), (0, .ref (ad 0)), (1, .int (nI 1))]) hx hb (dkI DX12_count (i := 23) rfl rfl rfl rfl) hl (k := 1) rfl (by decide) (by decide) rfl (fun ls hl => ?_)
      refine lv_goto (tgt := 62) hx hb (dkS dF_167 DX12_count (i := 24) rfl rfl rfl) (by decide) ?_
      refine lv_iload_n hx hb (dkP dF_29 DX12_count (i := 6) rfl rfl) rfl (lv_at hl 0 rfl) ?_
      refine lv_bipush (v := 8) hx hb (dks dF_16 DX12_count (i := 7) rfl rfl rfl) (by decide) ?_
      refine lv_icmp_ge (tgt := 94) hx hb (dkS dF_162 DX12_count (i := 8) rfl rfl rfl) (by decide) (fun h => absurd h (by decide)) (fun _ => ?_)
      refine lv_iload_n hx hb (dkP dF_28 DX12_count (i := 9) rfl rfl) rfl (lv_at hl 1 rfl) ?_
      refine lv_iconst (v := 0) hx hb (dkP dF_3 DX12_count (i := 10) rfl rfl) (by decide) ?_
      refine lv_aload_n hx hb (dkP dF_42 DX12_count (i := 11) rfl rfl) rfl (lv_at hl 2 rfl) ?_
      refine z_gr C0 hw 0 1 1 rfl fl_X12_20 (dk2 dF_180 DX12_count (i := 12) rfl rfl rfl) ?_
      refine lv_iload_n hx hb (dkP dF_29 DX12_count (i := 13) rfl rfl) rfl (lv_at hl 0 rfl) ?_
      refine zn_I hw (zr_S (As := [.int 3]) (rest := [.ref (ad 1), .int 0, .int 0]) C0 (c_X12_of l G kc 3  _) cs_X12_of lk_X12_139 (zp_P C0 a00 s00) rfl hl.1 rfl ⟨by decide, by decide⟩ (Nat.le_of_ble_eq_true rfl) (dk2 dF_184 DX12_count (i := 14) rfl rfl rfl) ⟨Nat.le_refl _, Nat.le_refl _⟩) (fun r24 s24 H locs hp hw => ?_)
      subst hp
      refine z_top (y := 68) (by rfl) ?_
      refine lv_iconst (v := 1) hx hb (dkP dF_4 DX12_count (i := 15) rfl rfl) (by decide) ?_
      refine lv_iadd hx hb (dkP dF_96 DX12_count (i := 16) rfl rfl) ?_
      refine z_top (y := 69) (by decide) ?_
      refine lv_iload_n hx hb (dkP dF_27 DX12_count (i := 17) rfl rfl) rfl (lv_at hl 3 rfl) ?_
      refine lv_iadd hx hb (dkP dF_96 DX12_count (i := 18) rfl rfl) ?_
      refine z_top (y := 70) (by decide) ?_
      refine z_ialdN (n := 414128) C0 hw 1 70 rfl (by omega) (by decide) (dkP dF_46 DX12_count (i := 19) rfl rfl) ?_
      refine z_top (y := (-1)) (by rfl) ?_
      refine zn_I hw (zr_S (As := [.int 0, .int (-1)]) (rest := [.int 0]) C0 (c_J9_max_7cf53 l G kc 0 (-1)  _) cs_J9_max_7cf53 lk_X12_326 (zp_P C0 a00 s00) rfl hl.1 rfl ⟨by decide, by decide⟩ (Nat.le_of_ble_eq_true rfl) (dk2 dF_184 DX12_count (i := 20) rfl rfl rfl) ⟨Nat.le_refl _, Nat.le_refl _⟩) (fun r25 s25 H locs hp hw => ?_)
      subst hp
      refine z_top (y := 0) (by rfl) ?_
      refine lv_iadd hx hb (dkP dF_96 DX12_count (i := 21) rfl rfl) ?_
      refine z_top (y := 0) (by decide) ?_
      refine lv_istore_n (lv' := [(2, .int 0), (3, .int 3), (0, .ref (ad 0)), (1, .int (nI 1))]) hx hb (dkP dF_61 DX12_count (i := 22) rfl rfl) rfl hl (by decide) rfl (fun ls hl => ?_)
      refine lv_iinc (v := 4) (lv' := [(3, .int 4), (2, .int 0), (0, .ref (ad 0)), (1, .int (nI 1))]) hx hb (dkI DX12_count (i := 23) rfl rfl rfl rfl) hl (k := 1) rfl (by decide) (by decide) rfl (fun ls hl => ?_)
      refine lv_goto (tgt := 62) hx hb (dkS dF_167 DX12_count (i := 24) rfl rfl rfl) (by decide) ?_
      refine lv_iload_n hx hb (dkP dF_29 DX12_count (i := 6) rfl rfl) rfl (lv_at hl 0 rfl) ?_
      refine lv_bipush (v := 8) hx hb (dks dF_16 DX12_count (i := 7) rfl rfl rfl) (by decide) ?_
      refine lv_icmp_ge (tgt := 94) hx hb (dkS dF_162 DX12_count (i := 8) rfl rfl rfl) (by decide) (fun h => absurd h (by decide)) (fun _ => ?_)
      refine lv_iload_n hx hb (dkP dF_28 DX12_count (i := 9) rfl rfl) rfl (lv_at hl 1 rfl) ?_
      refine lv_iconst (v := 0) hx hb (dkP dF_3 DX12_count (i := 10) rfl rfl) (by decide) ?_
      refine lv_aload_n hx hb (dkP dF_42 DX12_count (i := 11) rfl rfl) rfl (lv_at hl 2 rfl) ?_
      refine z_gr C0 hw 0 1 1 rfl fl_X12_20 (dk2 dF_180 DX12_count (i := 12) rfl rfl rfl) ?_
      refine lv_iload_n hx hb (dkP dF_29 DX12_count (i := 13) rfl rfl) rfl (lv_at hl 0 rfl) ?_
      refine zn_I hw (zr_S (As := [.int 4]) (rest := [.ref (ad 1), .int 0, .int 0]) C0 (c_X12_of l G kc 4  _) cs_X12_of lk_X12_139 (zp_P C0 a00 s00) rfl hl.1 rfl ⟨by decide, by decide⟩ (Nat.le_of_ble_eq_true rfl) (dk2 dF_184 DX12_count (i := 14) rfl rfl rfl) ⟨Nat.le_refl _, Nat.le_refl _⟩) (fun r26 s26 H locs hp hw => ?_)
      subst hp
      refine z_top (y := 88) (by rfl) ?_
      refine lv_iconst (v := 1) hx hb (dkP dF_4 DX12_count (i := 15) rfl rfl) (by decide) ?_
      refine lv_iadd hx hb (dkP dF_96 DX12_count (i := 16) rfl rfl) ?_
      refine z_top (y := 89) (by decide) ?_
      refine lv_iload_n hx hb (dkP dF_27 DX12_count (i := 17) rfl rfl) rfl (lv_at hl 3 rfl) ?_
      refine lv_iadd hx hb (dkP dF_96 DX12_count (i := 18) rfl rfl) ?_
      refine z_top (y := 90) (by decide) ?_
      refine z_ialdN (n := 414128) C0 hw 1 90 rfl (by omega) (by decide) (dkP dF_46 DX12_count (i := 19) rfl rfl) ?_
      refine z_top (y := (-1)) (by rfl) ?_
      refine zn_I hw (zr_S (As := [.int 0, .int (-1)]) (rest := [.int 0]) C0 (c_J9_max_7cf53 l G kc 0 (-1)  _) cs_J9_max_7cf53 lk_X12_326 (zp_P C0 a00 s00) rfl hl.1 rfl ⟨by decide, by decide⟩ (Nat.le_of_ble_eq_true rfl) (dk2 dF_184 DX12_count (i := 20) rfl rfl rfl) ⟨Nat.le_refl _, Nat.le_refl _⟩) (fun r27 s27 H locs hp hw => ?_)
      subst hp
      refine z_top (y := 0) (by rfl) ?_
      refine lv_iadd hx hb (dkP dF_96 DX12_count (i := 21) rfl rfl) ?_
      refine z_top (y := 0) (by decide) ?_
      refine lv_istore_n (lv' := [(2, .int 0), (3, .int 4), (0, .ref (ad 0)), (1, .int (nI 1))]) hx hb (dkP dF_61 DX12_count (i := 22) rfl rfl) rfl hl (by decide) rfl (fun ls hl => ?_)
      refine lv_iinc (v := 5) (lv' := [(3, .int 5), (2, .int 0), (0, .ref (ad 0)), (1, .int (nI 1))]) hx hb (dkI DX12_count (i := 23) rfl rfl rfl rfl) hl (k := 1) rfl (by decide) (by decide) rfl (fun ls hl => ?_)
      refine lv_goto (tgt := 62) hx hb (dkS dF_167 DX12_count (i := 24) rfl rfl rfl) (by decide) ?_
      refine lv_iload_n hx hb (dkP dF_29 DX12_count (i := 6) rfl rfl) rfl (lv_at hl 0 rfl) ?_
      refine lv_bipush (v := 8) hx hb (dks dF_16 DX12_count (i := 7) rfl rfl rfl) (by decide) ?_
      refine lv_icmp_ge (tgt := 94) hx hb (dkS dF_162 DX12_count (i := 8) rfl rfl rfl) (by decide) (fun h => absurd h (by decide)) (fun _ => ?_)
      refine lv_iload_n hx hb (dkP dF_28 DX12_count (i := 9) rfl rfl) rfl (lv_at hl 1 rfl) ?_
      refine lv_iconst (v := 0) hx hb (dkP dF_3 DX12_count (i := 10) rfl rfl) (by decide) ?_
      refine lv_aload_n hx hb (dkP dF_42 DX12_count (i := 11) rfl rfl) rfl (lv_at hl 2 rfl) ?_
      refine z_gr C0 hw 0 1 1 rfl fl_X12_20 (dk2 dF_180 DX12_count (i := 12) rfl rfl rfl) ?_
      refine lv_iload_n hx hb (dkP dF_29 DX12_count (i := 13) rfl rfl) rfl (lv_at hl 0 rfl) ?_
      refine zn_I hw (zr_S (As := [.int 5]) (rest := [.ref (ad 1), .int 0, .int 0]) C0 (c_X12_of l G kc 5  _) cs_X12_of lk_X12_139 (zp_P C0 a00 s00) rfl hl.1 rfl ⟨by decide, by decide⟩ (Nat.le_of_ble_eq_true rfl) (dk2 dF_184 DX12_count (i := 14) rfl rfl rfl) ⟨Nat.le_refl _, Nat.le_refl _⟩) (fun r28 s28 H locs hp hw => ?_)
      subst hp
      refine z_top (y := 108) (by rfl) ?_
      refine lv_iconst (v := 1) hx hb (dkP dF_4 DX12_count (i := 15) rfl rfl) (by decide) ?_
      refine lv_iadd hx hb (dkP dF_96 DX12_count (i := 16) rfl rfl) ?_
      refine z_top (y := 109) (by decide) ?_
      refine lv_iload_n hx hb (dkP dF_27 DX12_count (i := 17) rfl rfl) rfl (lv_at hl 3 rfl) ?_
      refine lv_iadd hx hb (dkP dF_96 DX12_count (i := 18) rfl rfl) ?_
      refine z_top (y := 110) (by decide) ?_
      refine z_ialdN (n := 414128) C0 hw 1 110 rfl (by omega) (by decide) (dkP dF_46 DX12_count (i := 19) rfl rfl) ?_
      refine z_top (y := (-1)) (by rfl) ?_
      refine zn_I hw (zr_S (As := [.int 0, .int (-1)]) (rest := [.int 0]) C0 (c_J9_max_7cf53 l G kc 0 (-1)  _) cs_J9_max_7cf53 lk_X12_326 (zp_P C0 a00 s00) rfl hl.1 rfl ⟨by decide, by decide⟩ (Nat.le_of_ble_eq_true rfl) (dk2 dF_184 DX12_count (i := 20) rfl rfl rfl) ⟨Nat.le_refl _, Nat.le_refl _⟩) (fun r29 s29 H locs hp hw => ?_)
      subst hp
      refine z_top (y := 0) (by rfl) ?_
      refine lv_iadd hx hb (dkP dF_96 DX12_count (i := 21) rfl rfl) ?_
      refine z_top (y := 0) (by decide) ?_
      refine lv_istore_n (lv' := [(2, .int 0), (3, .int 5), (0, .ref (ad 0)), (1, .int (nI 1))]) hx hb (dkP dF_61 DX12_count (i := 22) rfl rfl) rfl hl (by decide) rfl (fun ls hl => ?_)
      refine lv_iinc (v := 6) (lv' := [(3, .int 6), (2, .int 0), (0, .ref (ad 0)), (1, .int (nI 1))]) hx hb (dkI DX12_count (i := 23) rfl rfl rfl rfl) hl (k := 1) rfl (by decide) (by decide) rfl (fun ls hl => ?_)
      refine lv_goto (tgt := 62) hx hb (dkS dF_167 DX12_count (i := 24) rfl rfl rfl) (by decide) ?_
      refine lv_iload_n hx hb (dkP dF_29 DX12_count (i := 6) rfl rfl) rfl (lv_at hl 0 rfl) ?_
      refine lv_bipush (v := 8) hx hb (dks dF_16 DX12_count (i := 7) rfl rfl rfl) (by decide) ?_
      refine lv_icmp_ge (tgt := 94) hx hb (dkS dF_162 DX12_count (i := 8) rfl rfl rfl) (by decide) (fun h => absurd h (by decide)) (fun _ => ?_)
      refine lv_iload_n hx hb (dkP dF_28 DX12_count (i := 9) rfl rfl) rfl (lv_at hl 1 rfl) ?_
      refine lv_iconst (v := 0) hx hb (dkP dF_3 DX12_count (i := 10) rfl rfl) (by decide) ?_
      refine lv_aload_n hx hb (dkP dF_42 DX12_count (i := 11) rfl rfl) rfl (lv_at hl 2 rfl) ?_
      refine z_gr C0 hw 0 1 1 rfl fl_X12_20 (dk2 dF_180 DX12_count (i := 12) rfl rfl rfl) ?_
      refine lv_iload_n hx hb (dkP dF_29 DX12_count (i := 13) rfl rfl) rfl (lv_at hl 0 rfl) ?_
      refine zn_I hw (zr_S (As := [.int 6]) (rest := [.ref (ad 1), .int 0, .int 0]) C0 (c_X12_of l G kc 6  _) cs_X12_of lk_X12_139 (zp_P C0 a00 s00) rfl hl.1 rfl ⟨by decide, by decide⟩ (Nat.le_of_ble_eq_true rfl) (dk2 dF_184 DX12_count (i := 14) rfl rfl rfl) ⟨Nat.le_refl _, Nat.le_refl _⟩) (fun r30 s30 H locs hp hw => ?_)
      subst hp
      refine z_top (y := 128) (by rfl) ?_
      refine lv_iconst (v := 1) hx hb (dkP dF_4 DX12_count (i := 15) rfl rfl) (by decide) ?_
      refine lv_iadd hx hb (dkP dF_96 DX12_count (i := 16) rfl rfl) ?_
      refine z_top (y := 129) (by decide) ?_
      refine lv_iload_n hx hb (dkP dF_27 DX12_count (i := 17) rfl rfl) rfl (lv_at hl 3 rfl) ?_
      refine lv_iadd hx hb (dkP dF_96 DX12_count (i := 18) rfl rfl) ?_
      refine z_top (y := 130) (by decide) ?_
      refine z_ialdN (n := 414128) C0 hw 1 130 rfl (by omega) (by decide) (dkP dF_46 DX12_count (i := 19) rfl rfl) ?_
      refine z_top (y := (-1)) (by rfl) ?_
      refine zn_I hw (zr_S (As := [.int 0, .int (-1)]) (rest := [.int 0]) C0 (c_J9_max_7cf53 l G kc 0 (-1)  _) cs_J9_max_7cf53 lk_X12_326 (zp_P C0 a00 s00) rfl hl.1 rfl ⟨by decide, by decide⟩ (Nat.le_of_ble_eq_true rfl) (dk2 dF_184 DX12_count (i := 20) rfl rfl rfl) ⟨Nat.le_refl _, Nat.le_refl _⟩) (fun r31 s31 H locs hp hw => ?_)
      subst hp
      refine z_top (y := 0) (by rfl) ?_
      refine lv_iadd hx hb (dkP dF_96 DX12_count (i := 21) rfl rfl) ?_
      refine z_top (y := 0) (by decide) ?_
      refine lv_istore_n (lv' := [(2, .int 0), (3, .int 6), (0, .ref (ad 0)), (1, .int (nI 1))]) hx hb (dkP dF_61 DX12_count (i := 22) rfl rfl) rfl hl (by decide) rfl (fun ls hl => ?_)
      refine lv_iinc (v := 7) (lv' := [(3, .int 7), (2, .int 0), (0, .ref (ad 0)), (1, .int (nI 1))]) hx hb (dkI DX12_count (i := 23) rfl rfl rfl rfl) hl (k := 1) rfl (by decide) (by decide) rfl (fun ls hl => ?_)
      refine lv_goto (tgt := 62) hx hb (dkS dF_167 DX12_count (i := 24) rfl rfl rfl) (by decide) ?_
      refine lv_iload_n hx hb (dkP dF_29 DX12_count (i := 6) rfl rfl) rfl (lv_at hl 0 rfl) ?_
      refine lv_bipush (v := 8) hx hb (dks dF_16 DX12_count (i := 7) rfl rfl rfl) (by decide) ?_
      refine lv_icmp_ge (tgt := 94) hx hb (dkS dF_162 DX12_count (i := 8) rfl rfl rfl) (by decide) (fun h => absurd h (by decide)) (fun _ => ?_)
      refine lv_iload_n hx hb (dkP dF_28 DX12_count (i := 9) rfl rfl) rfl (lv_at hl 1 rfl) ?_
      refine lv_iconst (v := 0) hx hb (dkP dF_3 DX12_count (i := 10) rfl rfl) (by decide) ?_
      refine lv_aload_n hx hb (dkP dF_42 DX12_count (i := 11) rfl rfl) rfl (lv_at hl 2 rfl) ?_
      refine z_gr C0 hw 0 1 1 rfl fl_X12_20 (dk2 dF_180 DX12_count (i := 12) rfl rfl rfl) ?_
      refine lv_iload_n hx hb (dkP dF_29 DX12_count (i := 13) rfl rfl) rfl (lv_at hl 0 rfl) ?_
      refine zn_I hw (zr_S (As := [.int 7]) (rest := [.ref (ad 1), .int 0, .int 0]) C0 (c_X12_of l G kc 7  _) cs_X12_of lk_X12_139 (zp_P C0 a00 s00) rfl hl.1 rfl ⟨by decide, by decide⟩ (Nat.le_of_ble_eq_true rfl) (dk2 dF_184 DX12_count (i := 14) rfl rfl rfl) ⟨Nat.le_refl _, Nat.le_refl _⟩) (fun r32 s32 H locs hp hw => ?_)
      subst hp
      refine z_top (y := 148) (by rfl) ?_
      refine lv_iconst (v := 1) hx hb (dkP dF_4 DX12_count (i := 15) rfl rfl) (by decide) ?_
      refine lv_iadd hx hb (dkP dF_96 DX12_count (i := 16) rfl rfl) ?_
      refine z_top (y := 149) (by decide) ?_
      refine lv_iload_n hx hb (dkP dF_27 DX12_count (i := 17) rfl rfl) rfl (lv_at hl 3 rfl) ?_
      refine lv_iadd hx hb (dkP dF_96 DX12_count (i := 18) rfl rfl) ?_
      refine z_top (y := 150) (by decide) ?_
      refine z_ialdN (n := 414128) C0 hw 1 150 rfl (by omega) (by decide) (dkP dF_46 DX12_count (i := 19) rfl rfl) ?_
      refine z_top (y := (-1)) (by rfl) ?_
      refine zn_I hw (zr_S (As := [.int 0, .int (-1)]) (rest := [.int 0]) C0 (c_J9_max_7cf53 l G kc 0 (-1)  _) cs_J9_max_7cf53 lk_X12_326 (zp_P C0 a00 s00) rfl hl.1 rfl ⟨by decide, by decide⟩ (Nat.le_of_ble_eq_true rfl) (dk2 dF_184 DX12_count (i := 20) rfl rfl rfl) ⟨Nat.le_refl _, Nat.le_refl _⟩) (fun r33 s33 H locs hp hw => ?_)
      subst hp
      refine z_top (y := 0) (by rfl) ?_
      refine lv_iadd hx hb (dkP dF_96 DX12_count (i := 21) rfl rfl) ?_
      refine z_top (y := 0) (by decide) ?_
      refine lv_istore_n (lv' := [(2, .int 0), (3, .int 7), (0, .ref (ad 0)), (1, .int (nI 1))]) hx hb (dkP dF_61 DX12_count (i := 22) rfl rfl) rfl hl (by decide) rfl (fun ls hl => ?_)
      refine lv_iinc (v := 8) (lv' := [(3, .int 8), (2, .int 0), (0, .ref (ad 0)), (1, .int (nI 1))]) hx hb (dkI DX12_count (i := 23) rfl rfl rfl rfl) hl (k := 1) rfl (by decide) (by decide) rfl (fun ls hl => ?_)
      refine lv_goto (tgt := 62) hx hb (dkS dF_167 DX12_count (i := 24) rfl rfl rfl) (by decide) ?_
      refine lv_iload_n hx hb (dkP dF_29 DX12_count (i := 6) rfl rfl) rfl (lv_at hl 0 rfl) ?_
      refine lv_bipush (v := 8) hx hb (dks dF_16 DX12_count (i := 7) rfl rfl rfl) (by decide) ?_
      refine lv_icmp_ge (tgt := 94) hx hb (dkS dF_162 DX12_count (i := 8) rfl rfl rfl) (by decide) (fun _ => ?_) (fun h => absurd h (by decide))
      refine lv_iload_n hx hb (dkP dF_28 DX12_count (i := 25) rfl rfl) rfl (lv_at hl 1 rfl) ?_
      exact z_iret C0 hr hlk hw (by first | rfl | ((try simp (disch := omega) only [tnI, tn32 1 (by decide), tnj 1 (by decide), tl32 0 (by decide), tl64 0 (by decide), tl32 1 (by decide), tl64 1 (by decide), tl32 8 (by decide), tl64 8 (by decide), tl32 9 (by decide), tl64 9 (by decide), tl32 10 (by decide), tl64 10 (by decide), tl32 29 (by decide), tl64 29 (by decide), tl32 30 (by decide), tl64 30 (by decide), tl32 49 (by decide), tl64 49 (by decide), tl32 50 (by decide), tl64 50 (by decide), tl32 69 (by decide), tl64 69 (by decide), tl32 70 (by decide), tl64 70 (by decide), tl32 89 (by decide), tl64 89 (by decide), tl32 90 (by decide), tl64 90 (by decide), tl32 109 (by decide), tl64 109 (by decide), tl32 110 (by decide), tl64 110 (by decide), tl32 129 (by decide), tl64 129 (by decide), tl32 130 (by decide), tl64 130 (by decide), tl32 149 (by decide), tl64 149 (by decide), tl32 150 (by decide), tl64 150 (by decide)]); (repeat' split) <;> first | rfl | omega | (apply Int32.toInt_inj.mp; simp (disch := omega) only [tnI, tn32 1 (by decide), tnj 1 (by decide), tl32 0 (by decide), tl64 0 (by decide), tl32 1 (by decide), tl64 1 (by decide), tl32 8 (by decide), tl64 8 (by decide), tl32 9 (by decide), tl64 9 (by decide), tl32 10 (by decide), tl64 10 (by decide), tl32 29 (by decide), tl64 29 (by decide), tl32 30 (by decide), tl64 30 (by decide), tl32 49 (by decide), tl64 49 (by decide), tl32 50 (by decide), tl64 50 (by decide), tl32 69 (by decide), tl64 69 (by decide), tl32 70 (by decide), tl64 70 (by decide), tl32 89 (by decide), tl64 89 (by decide), tl32 90 (by decide), tl64 90 (by decide), tl32 109 (by decide), tl64 109 (by decide), tl32 110 (by decide), tl64 110 (by decide), tl32 129 (by decide), tl64 129 (by decide), tl32 130 (by decide), tl64 130 (by decide), tl32 149 (by decide), tl64 149 (by decide), tl32 150 (by decide), tl64 150 (by decide)]; omega))) (dkP dF_172 DX12_count (i := 26) rfl rfl)
    | 2, _ =>
      refine lv_tableIn (x := nI 2) (off := 93) (tgt := 96) hx hb (dX12_count_3) (by decide) (by decide) rfl (by decide) ?_
      refine lv_aload_n hx hb (dkP dF_42 DX12_count (i := 27) rfl rfl) rfl (lv_at hl 1 rfl) ?_
      refine lv_iconst (v := 2) hx hb (dkP dF_5 DX12_count (i := 28) rfl rfl) (by decide) ?_
      refine zk_I hw (zr_V (As := [.int 2]) (rest := []) C0 (c_X12_statesOf l G kc ad 2 (by first | omega | assumption | decide | rfl) _) cv_X12_statesOf lk_X12_498 (zp_V C0 hw 0 rfl rfl rfl) rfl hl.1 rfl ⟨by decide, by decide⟩ (Nat.le_of_ble_eq_true rfl) (dk2 dF_182 DX12_count (i := 29) rfl rfl rfl) ⟨Nat.le_refl _, Nat.le_refl _⟩) (fun r34 s34 H locs hp hw => ?_)
      obtain ⟨rfl, hs34⟩ := hp
      subst hs34
      exact z_iret C0 hr hlk hw (by first | rfl | ((try simp (disch := omega) only [tnI, tn32 1 (by decide), tnj 1 (by decide), tl32 0 (by decide), tl64 0 (by decide), tl32 1 (by decide), tl64 1 (by decide), tl32 2 (by decide), tl64 2 (by decide), tl32 8 (by decide), tl64 8 (by decide), tl32 9 (by decide), tl64 9 (by decide), tl32 10 (by decide), tl64 10 (by decide), tl32 29 (by decide), tl64 29 (by decide), tl32 30 (by decide), tl64 30 (by decide), tl32 49 (by decide), tl64 49 (by decide), tl32 50 (by decide), tl64 50 (by decide), tl32 69 (by decide), tl64 69 (by decide), tl32 70 (by decide), tl64 70 (by decide), tl32 89 (by decide), tl64 89 (by decide), tl32 90 (by decide), tl64 90 (by decide), tl32 109 (by decide), tl64 109 (by decide), tl32 110 (by decide), tl64 110 (by decide), tl32 129 (by decide), tl64 129 (by decide), tl32 130 (by decide), tl64 130 (by decide), tl32 149 (by decide), tl64 149 (by decide), tl32 150 (by decide), tl64 150 (by decide)]); (repeat' split) <;> first | rfl | omega | (apply Int32.toInt_inj.mp; simp (disch := omega) only [tnI, tn32 1 (by decide), tnj 1 (by decide), tl32 0 (by decide), tl64 0 (by decide), tl32 1 (by decide), tl64 1 (by decide), tl32 2 (by decide), tl64 2 (by decide), tl32 8 (by decide), tl64 8 (by decide), tl32 9 (by decide), tl64 9 (by decide), tl32 10 (by decide), tl64 10 (by decide), tl32 29 (by decide), tl64 29 (by decide), tl32 30 (by decide), tl64 30 (by decide), tl32 49 (by decide), tl64 49 (by decide), tl32 50 (by decide), tl64 50 (by decide), tl32 69 (by decide), tl64 69 (by decide), tl32 70 (by decide), tl64 70 (by decide), tl32 89 (by decide), tl64 89 (by decide), tl32 90 (by decide), tl64 90 (by decide), tl32 109 (by decide), tl64 109 (by decide), tl32 110 (by decide), tl64 110 (by decide), tl32 129 (by decide), tl64 129 (by decide), tl32 130 (by decide), tl64 130 (by decide), tl32 149 (by decide), tl64 149 (by decide), tl32 150 (by decide), tl64 150 (by decide)]; omega))) (dkP dF_172 DX12_count (i := 30) rfl rfl)
    | 3, _ =>
      refine lv_tableIn (x := nI 3) (off := 99) (tgt := 102) hx hb (dX12_count_3) (by decide) (by decide) rfl (by decide) ?_
      refine lv_aload_n hx hb (dkP dF_42 DX12_count (i := 31) rfl rfl) rfl (lv_at hl 1 rfl) ?_
      refine lv_iconst (v := 4) hx hb (dkP dF_7 DX12_count (i := 32) rfl rfl) (by decide) ?_
      refine zk_I hw (zr_V (As := [.int 4]) (rest := []) C0 (c_X12_statesOf l G kc ad 4 (by first | omega | assumption | decide | rfl) _) cv_X12_statesOf lk_X12_498 (zp_V C0 hw 0 rfl rfl rfl) rfl hl.1 rfl ⟨by decide, by decide⟩ (Nat.le_of_ble_eq_true rfl) (dk2 dF_182 DX12_count (i := 33) rfl rfl rfl) ⟨Nat.le_refl _, Nat.le_refl _⟩) (fun r35 s35 H locs hp hw => ?_)
      obtain ⟨rfl, hs35⟩ := hp
      subst hs35
      exact z_iret C0 hr hlk hw (by first | rfl | ((try simp (disch := omega) only [tnI, tn32 1 (by decide), tnj 1 (by decide), tl32 0 (by decide), tl64 0 (by decide), tl32 1 (by decide), tl64 1 (by decide), tl32 2 (by decide), tl64 2 (by decide), tl32 4 (by decide), tl64 4 (by decide), tl32 8 (by decide), tl64 8 (by decide), tl32 9 (by decide), tl64 9 (by decide), tl32 10 (by decide), tl64 10 (by decide), tl32 29 (by decide), tl64 29 (by decide), tl32 30 (by decide), tl64 30 (by decide), tl32 49 (by decide), tl64 49 (by decide), tl32 50 (by decide), tl64 50 (by decide), tl32 69 (by decide), tl64 69 (by decide), tl32 70 (by decide), tl64 70 (by decide), tl32 89 (by decide), tl64 89 (by decide), tl32 90 (by decide), tl64 90 (by decide), tl32 109 (by decide), tl64 109 (by decide), tl32 110 (by decide), tl64 110 (by decide), tl32 129 (by decide), tl64 129 (by decide), tl32 130 (by decide), tl64 130 (by decide), tl32 149 (by decide), tl64 149 (by decide), tl32 150 (by decide), tl64 150 (by decide)]); (repeat' split) <;> first | rfl | omega | (apply Int32.toInt_inj.mp; simp (disch := omega) only [tnI, tn32 1 (by decide), tnj 1 (by decide), tl32 0 (by decide), tl64 0 (by decide), tl32 1 (by decide), tl64 1 (by decide), tl32 2 (by decide), tl64 2 (by decide), tl32 4 (by decide), tl64 4 (by decide), tl32 8 (by decide), tl64 8 (by decide), tl32 9 (by decide), tl64 9 (by decide), tl32 10 (by decide), tl64 10 (by decide), tl32 29 (by decide), tl64 29 (by decide), tl32 30 (by decide), tl64 30 (by decide), tl32 49 (by decide), tl64 49 (by decide), tl32 50 (by decide), tl64 50 (by decide), tl32 69 (by decide), tl64 69 (by decide), tl32 70 (by decide), tl64 70 (by decide), tl32 89 (by decide), tl64 89 (by decide), tl32 90 (by decide), tl64 90 (by decide), tl32 109 (by decide), tl64 109 (by decide), tl32 110 (by decide), tl64 110 (by decide), tl32 129 (by decide), tl64 129 (by decide), tl32 130 (by decide), tl64 130 (by decide), tl32 149 (by decide), tl64 149 (by decide), tl32 150 (by decide), tl64 150 (by decide)]; omega))) (dkP dF_172 DX12_count (i := 34) rfl rfl)
    | 4, _ =>
      refine lv_tableIn (x := nI 4) (off := 105) (tgt := 108) hx hb (dX12_count_3) (by decide) (by decide) rfl (by decide) ?_
      refine lv_aload_n hx hb (dkP dF_42 DX12_count (i := 35) rfl rfl) rfl (lv_at hl 1 rfl) ?_
      refine lv_iconst (v := 1) hx hb (dkP dF_4 DX12_count (i := 36) rfl rfl) (by decide) ?_
      refine zk_I hw (zr_V (As := [.int 1]) (rest := []) C0 (c_X12_statesOf l G kc ad 1 (by first | omega | assumption | decide | rfl) _) cv_X12_statesOf lk_X12_498 (zp_V C0 hw 0 rfl rfl rfl) rfl hl.1 rfl ⟨by decide, by decide⟩ (Nat.le_of_ble_eq_true rfl) (dk2 dF_182 DX12_count (i := 37) rfl rfl rfl) ⟨Nat.le_refl _, Nat.le_refl _⟩) (fun r36 s36 H locs hp hw => ?_)
      obtain ⟨rfl, hs36⟩ := hp
      subst hs36
      exact z_iret C0 hr hlk hw (by first | rfl | ((try simp (disch := omega) only [tnI, tn32 1 (by decide), tnj 1 (by decide), tl32 0 (by decide), tl64 0 (by decide), tl32 1 (by decide), tl64 1 (by decide), tl32 2 (by decide), tl64 2 (by decide), tl32 4 (by decide), tl64 4 (by decide), tl32 8 (by decide), tl64 8 (by decide), tl32 9 (by decide), tl64 9 (by decide), tl32 10 (by decide), tl64 10 (by decide), tl32 29 (by decide), tl64 29 (by decide), tl32 30 (by decide), tl64 30 (by decide), tl32 49 (by decide), tl64 49 (by decide), tl32 50 (by decide), tl64 50 (by decide), tl32 69 (by decide), tl64 69 (by decide), tl32 70 (by decide), tl64 70 (by decide), tl32 89 (by decide), tl64 89 (by decide), tl32 90 (by decide), tl64 90 (by decide), tl32 109 (by decide), tl64 109 (by decide), tl32 110 (by decide), tl64 110 (by decide), tl32 129 (by decide), tl64 129 (by decide), tl32 130 (by decide), tl64 130 (by decide), tl32 149 (by decide), tl64 149 (by decide), tl32 150 (by decide), tl64 150 (by decide)]); (repeat' split) <;> first | rfl | omega | (apply Int32.toInt_inj.mp; simp (disch := omega) only [tnI, tn32 1 (by decide), tnj 1 (by decide), tl32 0 (by decide), tl64 0 (by decide), tl32 1 (by decide), tl64 1 (by decide), tl32 2 (by decide), tl64 2 (by decide), tl32 4 (by decide), tl64 4 (by decide), tl32 8 (by decide), tl64 8 (by decide), tl32 9 (by decide), tl64 9 (by decide), tl32 10 (by decide), tl64 10 (by decide), tl32 29 (by decide), tl64 29 (by decide), tl32 30 (by decide), tl64 30 (by decide), tl32 49 (by decide), tl64 49 (by decide), tl32 50 (by decide), tl64 50 (by decide), tl32 69 (by decide), tl64 69 (by decide), tl32 70 (by decide), tl64 70 (by decide), tl32 89 (by decide), tl64 89 (by decide), tl32 90 (by decide), tl64 90 (by decide), tl32 109 (by decide), tl64 109 (by decide), tl32 110 (by decide), tl64 110 (by decide), tl32 129 (by decide), tl64 129 (by decide), tl32 130 (by decide), tl64 130 (by decide), tl32 149 (by decide), tl64 149 (by decide), tl32 150 (by decide), tl64 150 (by decide)]; omega))) (dkP dF_172 DX12_count (i := 38) rfl rfl)
    | 5, _ =>
      refine lv_tableIn (x := nI 5) (off := 111) (tgt := 114) hx hb (dX12_count_3) (by decide) (by decide) rfl (by decide) ?_
      refine lv_aload_n hx hb (dkP dF_42 DX12_count (i := 39) rfl rfl) rfl (lv_at hl 1 rfl) ?_
      refine z_gi C0 hw 0 5 rfl fl_X12_147 (dk2 dF_180 DX12_count (i := 40) rfl rfl rfl) ?_
      refine z_top (y := 0) (by rfl) ?_
      exact z_iret C0 hr hlk hw (by first | rfl | ((try simp (disch := omega) only [tnI, tn32 1 (by decide), tnj 1 (by decide), tl32 0 (by decide), tl64 0 (by decide), tl32 1 (by decide), tl64 1 (by decide), tl32 2 (by decide), tl64 2 (by decide), tl32 4 (by decide), tl64 4 (by decide), tl32 8 (by decide), tl64 8 (by decide), tl32 9 (by decide), tl64 9 (by decide), tl32 10 (by decide), tl64 10 (by decide), tl32 29 (by decide), tl64 29 (by decide), tl32 30 (by decide), tl64 30 (by decide), tl32 49 (by decide), tl64 49 (by decide), tl32 50 (by decide), tl64 50 (by decide), tl32 69 (by decide), tl64 69 (by decide), tl32 70 (by decide), tl64 70 (by decide), tl32 89 (by decide), tl64 89 (by decide), tl32 90 (by decide), tl64 90 (by decide), tl32 109 (by decide), tl64 109 (by decide), tl32 110 (by decide), tl64 110 (by decide), tl32 129 (by decide), tl64 129 (by decide), tl32 130 (by decide), tl64 130 (by decide), tl32 149 (by decide), tl64 149 (by decide), tl32 150 (by decide), tl64 150 (by decide)]); (repeat' split) <;> first | rfl | omega | (apply Int32.toInt_inj.mp; simp (disch := omega) only [tnI, tn32 1 (by decide), tnj 1 (by decide), tl32 0 (by decide), tl64 0 (by decide), tl32 1 (by decide), tl64 1 (by decide), tl32 2 (by decide), tl64 2 (by decide), tl32 4 (by decide), tl64 4 (by decide), tl32 8 (by decide), tl64 8 (by decide), tl32 9 (by decide), tl64 9 (by decide), tl32 10 (by decide), tl64 10 (by decide), tl32 29 (by decide), tl64 29 (by decide), tl32 30 (by decide), tl64 30 (by decide), tl32 49 (by decide), tl64 49 (by decide), tl32 50 (by decide), tl64 50 (by decide), tl32 69 (by decide), tl64 69 (by decide), tl32 70 (by decide), tl64 70 (by decide), tl32 89 (by decide), tl64 89 (by decide), tl32 90 (by decide), tl64 90 (by decide), tl32 109 (by decide), tl64 109 (by decide), tl32 110 (by decide), tl64 110 (by decide), tl32 129 (by decide), tl64 129 (by decide), tl32 130 (by decide), tl64 130 (by decide), tl32 149 (by decide), tl64 149 (by decide), tl32 150 (by decide), tl64 150 (by decide)]; omega))) (dkP dF_172 DX12_count (i := 41) rfl rfl)
    | 6, _ =>
      refine lv_tableIn (x := nI 6) (off := 116) (tgt := 119) hx hb (dX12_count_3) (by decide) (by decide) rfl (by decide) ?_
      refine lv_aload_n hx hb (dkP dF_42 DX12_count (i := 42) rfl rfl) rfl (lv_at hl 1 rfl) ?_
      refine z_gr C0 hw 0 1 1 rfl fl_X12_20 (dk2 dF_180 DX12_count (i := 43) rfl rfl rfl) ?_
      refine lv_iconst (v := 0) hx hb (dkP dF_3 DX12_count (i := 44) rfl rfl) (by decide) ?_
      refine z_ialdN (n := 414128) C0 hw 1 0 rfl (by omega) (by decide) (dkP dF_46 DX12_count (i := 45) rfl rfl) ?_
      refine z_top (y := 0) (by rfl) ?_
      exact z_iret C0 hr hlk hw (by first | rfl | ((try simp (disch := omega) only [tnI, tn32 1 (by decide), tnj 1 (by decide), tl32 0 (by decide), tl64 0 (by decide), tl32 1 (by decide), tl64 1 (by decide), tl32 2 (by decide), tl64 2 (by decide), tl32 4 (by decide), tl64 4 (by decide), tl32 8 (by decide), tl64 8 (by decide), tl32 9 (by decide), tl64 9 (by decide), tl32 10 (by decide), tl64 10 (by decide), tl32 29 (by decide), tl64 29 (by decide), tl32 30 (by decide), tl64 30 (by decide), tl32 49 (by decide), tl64 49 (by decide), tl32 50 (by decide), tl64 50 (by decide), tl32 69 (by decide), tl64 69 (by decide), tl32 70 (by decide), tl64 70 (by decide), tl32 89 (by decide), tl64 89 (by decide), tl32 90 (by decide), tl64 90 (by decide), tl32 109 (by decide), tl64 109 (by decide), tl32 110 (by decide), tl64 110 (by decide), tl32 129 (by decide), tl64 129 (by decide), tl32 130 (by decide), tl64 130 (by decide), tl32 149 (by decide), tl64 149 (by decide), tl32 150 (by decide), tl64 150 (by decide)]); (repeat' split) <;> first | rfl | omega | (apply Int32.toInt_inj.mp; simp (disch := omega) only [tnI, tn32 1 (by decide), tnj 1 (by decide), tl32 0 (by decide), tl64 0 (by decide), tl32 1 (by decide), tl64 1 (by decide), tl32 2 (by decide), tl64 2 (by decide), tl32 4 (by decide), tl64 4 (by decide), tl32 8 (by decide), tl64 8 (by decide), tl32 9 (by decide), tl64 9 (by decide), tl32 10 (by decide), tl64 10 (by decide), tl32 29 (by decide), tl64 29 (by decide), tl32 30 (by decide), tl64 30 (by decide), tl32 49 (by decide), tl64 49 (by decide), tl32 50 (by decide), tl64 50 (by decide), tl32 69 (by decide), tl64 69 (by decide), tl32 70 (by decide), tl64 70 (by decide), tl32 89 (by decide), tl64 89 (by decide), tl32 90 (by decide), tl64 90 (by decide), tl32 109 (by decide), tl64 109 (by decide), tl32 110 (by decide), tl64 110 (by decide), tl32 129 (by decide), tl64 129 (by decide), tl32 130 (by decide), tl64 130 (by decide), tl32 149 (by decide), tl64 149 (by decide), tl32 150 (by decide), tl64 150 (by decide)]; omega))) (dkP dF_172 DX12_count (i := 46) rfl rfl)
    | 7, _ =>
      refine lv_tableIn (x := nI 7) (off := 123) (tgt := 126) hx hb (dX12_count_3) (by decide) (by decide) rfl (by decide) ?_
      refine lv_aload_n hx hb (dkP dF_42 DX12_count (i := 47) rfl rfl) rfl (lv_at hl 1 rfl) ?_
      refine z_gr C0 hw 0 1 1 rfl fl_X12_20 (dk2 dF_180 DX12_count (i := 48) rfl rfl rfl) ?_
      refine lv_iconst (v := 1) hx hb (dkP dF_4 DX12_count (i := 49) rfl rfl) (by decide) ?_
      refine z_ialdN (n := 414128) C0 hw 1 1 rfl (by omega) (by decide) (dkP dF_46 DX12_count (i := 50) rfl rfl) ?_
      refine z_top (y := 0) (by rfl) ?_
      exact z_iret C0 hr hlk hw (by first | rfl | ((try simp (disch := omega) only [tnI, tn32 1 (by decide), tnj 1 (by decide), tl32 0 (by decide), tl64 0 (by decide), tl32 1 (by decide), tl64 1 (by decide), tl32 2 (by decide), tl64 2 (by decide), tl32 4 (by decide), tl64 4 (by decide), tl32 8 (by decide), tl64 8 (by decide), tl32 9 (by decide), tl64 9 (by decide), tl32 10 (by decide), tl64 10 (by decide), tl32 29 (by decide), tl64 29 (by decide), tl32 30 (by decide), tl64 30 (by decide), tl32 49 (by decide), tl64 49 (by decide), tl32 50 (by decide), tl64 50 (by decide), tl32 69 (by decide), tl64 69 (by decide), tl32 70 (by decide), tl64 70 (by decide), tl32 89 (by decide), tl64 89 (by decide), tl32 90 (by decide), tl64 90 (by decide), tl32 109 (by decide), tl64 109 (by decide), tl32 110 (by decide), tl64 110 (by decide), tl32 129 (by decide), tl64 129 (by decide), tl32 130 (by decide), tl64 130 (by decide), tl32 149 (by decide), tl64 149 (by decide), tl32 150 (by decide), tl64 150 (by decide)]); (repeat' split) <;> first | rfl | omega | (apply Int32.toInt_inj.mp; simp (disch := omega) only [tnI, tn32 1 (by decide), tnj 1 (by decide), tl32 0 (by decide), tl64 0 (by decide), tl32 1 (by decide), tl64 1 (by decide), tl32 2 (by decide), tl64 2 (by decide), tl32 4 (by decide), tl64 4 (by decide), tl32 8 (by decide), tl64 8 (by decide), tl32 9 (by decide), tl64 9 (by decide), tl32 10 (by decide), tl64 10 (by decide), tl32 29 (by decide), tl64 29 (by decide), tl32 30 (by decide), tl64 30 (by decide), tl32 49 (by decide), tl64 49 (by decide), tl32 50 (by decide), tl64 50 (by decide), tl32 69 (by decide), tl64 69 (by decide), tl32 70 (by decide), tl64 70 (by decide), tl32 89 (by decide), tl64 89 (by decide), tl32 90 (by decide), tl64 90 (by decide), tl32 109 (by decide), tl64 109 (by decide), tl32 110 (by decide), tl64 110 (by decide), tl32 129 (by decide), tl64 129 (by decide), tl32 130 (by decide), tl64 130 (by decide), tl32 149 (by decide), tl64 149 (by decide), tl32 150 (by decide), tl64 150 (by decide)]; omega))) (dkP dF_172 DX12_count (i := 51) rfl rfl)
    | 8, _ =>
      refine lv_tableIn (x := nI 8) (off := 130) (tgt := 133) hx hb (dX12_count_3) (by decide) (by decide) rfl (by decide) ?_
      refine lv_iconst (v := 0) hx hb (dkP dF_3 DX12_count (i := 52) rfl rfl) (by decide) ?_
      refine lv_istore_n (lv' := [(3, .int 0), (2, .int 0), (0, .ref (ad 0)), (1, .int (nI 8))]) hx hb (dkP dF_62 DX12_count (i := 53) rfl rfl) rfl hl (by decide) rfl (fun ls hl => ?_)
      refine lv_iload_n hx hb (dkP dF_29 DX12_count (i := 54) rfl rfl) rfl (lv_at hl 0 rfl) ?_
      refine lv_aload_n hx hb (dkP dF_42 DX12_count (i := 55) rfl rfl) rfl (lv_at hl 2 rfl) ?_
      refine z_gr C0 hw 0 1 1 rfl fl_X12_20 (dk2 dF_180 DX12_count (i := 56) rfl rfl rfl) ?_
      refine lv_iconst (v := 2) hx hb (dkP dF_5 DX12_count (i := 57) rfl rfl) (by decide) ?_
      refine z_ialdN (n := 414128) C0 hw 1 2 rfl (by omega) (by decide) (dkP dF_46 DX12_count (i := 58) rfl rfl) ?_
      refine z_top (y := 0) (by rfl) ?_
      refine lv_icmp_ge (tgt := 177) hx hb (dkS dF_162 DX12_count (i := 59) rfl rfl rfl) (by decide) (fun _ => ?_) (fun h => absurd h (by decide))
      refine lv_iload_n hx hb (dkP dF_28 DX12_count (i := 79) rfl rfl) rfl (lv_at hl 1 rfl) ?_
      exact z_iret C0 hr hlk hw (by first | rfl | ((try simp (disch := omega) only [tnI, tn32 1 (by decide), tnj 1 (by decide), tl32 0 (by decide), tl64 0 (by decide), tl32 1 (by decide), tl64 1 (by decide), tl32 2 (by decide), tl64 2 (by decide), tl32 4 (by decide), tl64 4 (by decide), tl32 8 (by decide), tl64 8 (by decide), tl32 9 (by decide), tl64 9 (by decide), tl32 10 (by decide), tl64 10 (by decide), tl32 29 (by decide), tl64 29 (by decide), tl32 30 (by decide), tl64 30 (by decide), tl32 49 (by decide), tl64 49 (by decide), tl32 50 (by decide), tl64 50 (by decide), tl32 69 (by decide), tl64 69 (by decide), tl32 70 (by decide), tl64 70 (by decide), tl32 89 (by decide), tl64 89 (by decide), tl32 90 (by decide), tl64 90 (by decide), tl32 109 (by decide), tl64 109 (by decide), tl32 110 (by decide), tl64 110 (by decide), tl32 129 (by decide), tl64 129 (by decide), tl32 130 (by decide), tl64 130 (by decide), tl32 149 (by decide), tl64 149 (by decide), tl32 150 (by decide), tl64 150 (by decide)]); (repeat' split) <;> first | rfl | omega | (apply Int32.toInt_inj.mp; simp (disch := omega) only [tnI, tn32 1 (by decide), tnj 1 (by decide), tl32 0 (by decide), tl64 0 (by decide), tl32 1 (by decide), tl64 1 (by decide), tl32 2 (by decide), tl64 2 (by decide), tl32 4 (by decide), tl64 4 (by decide), tl32 8 (by decide), tl64 8 (by decide), tl32 9 (by decide), tl64 9 (by decide), tl32 10 (by decide), tl64 10 (by decide), tl32 29 (by decide), tl64 29 (by decide), tl32 30 (by decide), tl64 30 (by decide), tl32 49 (by decide), tl64 49 (by decide), tl32 50 (by decide), tl64 50 (by decide), tl32 69 (by decide), tl64 69 (by decide), tl32 70 (by decide), tl64 70 (by decide), tl32 89 (by decide), tl64 89 (by decide), tl32 90 (by decide), tl64 90 (by decide), tl32 109 (by decide), tl64 109 (by decide), tl32 110 (by decide), tl64 110 (by decide), tl32 129 (by decide), tl64 129 (by decide), tl32 130 (by decide), tl64 130 (by decide), tl32 149 (by decide), tl64 149 (by decide), tl32 150 (by decide), tl64 150 (by decide)]; omega))) (dkP dF_172 DX12_count (i := 80) rfl rfl)
    | 9, _ =>
      refine lv_tableIn (x := nI 9) (off := 176) (tgt := 179) hx hb (dX12_count_3) (by decide) (by decide) rfl (by decide) ?_
      refine lv_iconst (v := 0) hx hb (dkP dF_3 DX12_count (i := 81) rfl rfl) (by decide) ?_
      refine lv_istore_n (lv' := [(3, .int 0), (2, .int 0), (0, .ref (ad 0)), (1, .int (nI 9))]) hx hb (dkP dF_62 DX12_count (i := 82) rfl rfl) rfl hl (by decide) rfl (fun ls hl => ?_)
      refine lv_iload_n hx hb (dkP dF_29 DX12_count (i := 83) rfl rfl) rfl (lv_at hl 0 rfl) ?_
      refine lv_iconst (v := 4) hx hb (dkP dF_7 DX12_count (i := 84) rfl rfl) (by decide) ?_
      refine lv_icmp_ge (tgt := 210) hx hb (dkS dF_162 DX12_count (i := 85) rfl rfl rfl) (by decide) (fun h => absurd h (by decide)) (fun _ => ?_)
      refine lv_iload_n hx hb (dkP dF_28 DX12_count (i := 86) rfl rfl) rfl (lv_at hl 1 rfl) ?_
      refine lv_aload_n hx hb (dkP dF_42 DX12_count (i := 87) rfl rfl) rfl (lv_at hl 2 rfl) ?_
      refine z_gr C0 hw 0 50 33 rfl fl_X12_126 (dk2 dF_180 DX12_count (i := 88) rfl rfl rfl) ?_
      refine lv_iload_n hx hb (dkP dF_29 DX12_count (i := 89) rfl rfl) rfl (lv_at hl 0 rfl) ?_
      refine z_ialdN (n := 4) C0 hw 33 0 rfl (by omega) (by decide) (dkP dF_46 DX12_count (i := 90) rfl rfl) ?_
      refine z_top (y := (-1)) (by rfl) ?_
      refine lv_iconst (v := (-1)) hx hb (dkP dF_2 DX12_count (i := 91) rfl rfl) (by decide) ?_
      refine lv_icmp_ne (tgt := 201) hx hb (dkS dF_160 DX12_count (i := 92) rfl rfl rfl) (by decide) (fun h => absurd h (by decide)) (fun _ => ?_)
      refine lv_iconst (v := 0) hx hb (dkP dF_3 DX12_count (i := 93) rfl rfl) (by decide) ?_
      refine lv_goto (tgt := 202) hx hb (dkS dF_167 DX12_count (i := 94) rfl rfl rfl) (by decide) ?_
      refine lv_iadd hx hb (dkP dF_96 DX12_count (i := 96) rfl rfl) ?_
      refine z_top (y := 0) (by decide) ?_
      refine lv_istore_n (lv' := [(2, .int 0), (3, .int 0), (0, .ref (ad 0)), (1, .int (nI 9))]) hx hb (dkP dF_61 DX12_count (i := 97) rfl rfl) rfl hl (by decide) rfl (fun ls hl => ?_)
      refine lv_iinc (v := 1) (lv' := [(3, .int 1), (2, .int 0), (0, .ref (ad 0)), (1, .int (nI 9))]) hx hb (dkI DX12_count (i := 98) rfl rfl rfl rfl) hl (k := 1) rfl (by decide) (by decide) rfl (fun ls hl => ?_)
      refine lv_goto (tgt := 181) hx hb (dkS dF_167 DX12_count (i := 99) rfl rfl rfl) (by decide) ?_
      refine lv_iload_n hx hb (dkP dF_29 DX12_count (i := 83) rfl rfl) rfl (lv_at hl 0 rfl) ?_
      refine lv_iconst (v := 4) hx hb (dkP dF_7 DX12_count (i := 84) rfl rfl) (by decide) ?_
      refine lv_icmp_ge (tgt := 210) hx hb (dkS dF_162 DX12_count (i := 85) rfl rfl rfl) (by decide) (fun h => absurd h (by decide)) (fun _ => ?_)
      refine lv_iload_n hx hb (dkP dF_28 DX12_count (i := 86) rfl rfl) rfl (lv_at hl 1 rfl) ?_
      refine lv_aload_n hx hb (dkP dF_42 DX12_count (i := 87) rfl rfl) rfl (lv_at hl 2 rfl) ?_
      refine z_gr C0 hw 0 50 33 rfl fl_X12_126 (dk2 dF_180 DX12_count (i := 88) rfl rfl rfl) ?_
      refine lv_iload_n hx hb (dkP dF_29 DX12_count (i := 89) rfl rfl) rfl (lv_at hl 0 rfl) ?_
      refine z_ialdN (n := 4) C0 hw 33 1 rfl (by omega) (by decide) (dkP dF_46 DX12_count (i := 90) rfl rfl) ?_
      refine z_top (y := (-1)) (by rfl) ?_
      refine lv_iconst (v := (-1)) hx hb (dkP dF_2 DX12_count (i := 91) rfl rfl) (by decide) ?_
      refine lv_icmp_ne (tgt := 201) hx hb (dkS dF_160 DX12_count (i := 92) rfl rfl rfl) (by decide) (fun h => absurd h (by decide)) (fun _ => ?_)
      refine lv_iconst (v := 0) hx hb (dkP dF_3 DX12_count (i := 93) rfl rfl) (by decide) ?_
      refine lv_goto (tgt := 202) hx hb (dkS dF_167 DX12_count (i := 94) rfl rfl rfl) (by decide) ?_
      refine lv_iadd hx hb (dkP dF_96 DX12_count (i := 96) rfl rfl) ?_
      refine z_top (y := 0) (by decide) ?_
      refine lv_istore_n (lv' := [(2, .int 0), (3, .int 1), (0, .ref (ad 0)), (1, .int (nI 9))]) hx hb (dkP dF_61 DX12_count (i := 97) rfl rfl) rfl hl (by decide) rfl (fun ls hl => ?_)
      refine lv_iinc (v := 2) (lv' := [(3, .int 2), (2, .int 0), (0, .ref (ad 0)), (1, .int (nI 9))]) hx hb (dkI DX12_count (i := 98) rfl rfl rfl rfl) hl (k := 1) rfl (by decide) (by decide) rfl (fun ls hl => ?_)
      refine lv_goto (tgt := 181) hx hb (dkS dF_167 DX12_count (i := 99) rfl rfl rfl) (by decide) ?_
      refine lv_iload_n hx hb (dkP dF_29 DX12_count (i := 83) rfl rfl) rfl (lv_at hl 0 rfl) ?_
      refine lv_iconst (v := 4) hx hb (dkP dF_7 DX12_count (i := 84) rfl rfl) (by decide) ?_
      refine lv_icmp_ge (tgt := 210) hx hb (dkS dF_162 DX12_count (i := 85) rfl rfl rfl) (by decide) (fun h => absurd h (by decide)) (fun _ => ?_)
      refine lv_iload_n hx hb (dkP dF_28 DX12_count (i := 86) rfl rfl) rfl (lv_at hl 1 rfl) ?_
      refine lv_aload_n hx hb (dkP dF_42 DX12_count (i := 87) rfl rfl) rfl (lv_at hl 2 rfl) ?_
      refine z_gr C0 hw 0 50 33 rfl fl_X12_126 (dk2 dF_180 DX12_count (i := 88) rfl rfl rfl) ?_
      refine lv_iload_n hx hb (dkP dF_29 DX12_count (i := 89) rfl rfl) rfl (lv_at hl 0 rfl) ?_
      refine z_ialdN (n := 4) C0 hw 33 2 rfl (by omega) (by decide) (dkP dF_46 DX12_count (i := 90) rfl rfl) ?_
      refine z_top (y := (-1)) (by rfl) ?_
      refine lv_iconst (v := (-1)) hx hb (dkP dF_2 DX12_count (i := 91) rfl rfl) (by decide) ?_
      refine lv_icmp_ne (tgt := 201) hx hb (dkS dF_160 DX12_count (i := 92) rfl rfl rfl) (by decide) (fun h => absurd h (by decide)) (fun _ => ?_)
      refine lv_iconst (v := 0) hx hb (dkP dF_3 DX12_count (i := 93) rfl rfl) (by decide) ?_
      refine lv_goto (tgt := 202) hx hb (dkS dF_167 DX12_count (i := 94) rfl rfl rfl) (by decide) ?_
      refine lv_iadd hx hb (dkP dF_96 DX12_count (i := 96) rfl rfl) ?_
      refine z_top (y := 0) (by decide) ?_
      refine lv_istore_n (lv' := [(2, .int 0), (3, .int 2), (0, .ref (ad 0)), (1, .int (nI 9))]) hx hb (dkP dF_61 DX12_count (i := 97) rfl rfl) rfl hl (by decide) rfl (fun ls hl => ?_)
      refine lv_iinc (v := 3) (lv' := [(3, .int 3), (2, .int 0), (0, .ref (ad 0)), (1, .int (nI 9))]) hx hb (dkI DX12_count (i := 98) rfl rfl rfl rfl) hl (k := 1) rfl (by decide) (by decide) rfl (fun ls hl => ?_)
      refine lv_goto (tgt := 181) hx hb (dkS dF_167 DX12_count (i := 99) rfl rfl rfl) (by decide) ?_
      refine lv_iload_n hx hb (dkP dF_29 DX12_count (i := 83) rfl rfl) rfl (lv_at hl 0 rfl) ?_
      refine lv_iconst (v := 4) hx hb (dkP dF_7 DX12_count (i := 84) rfl rfl) (by decide) ?_
      refine lv_icmp_ge (tgt := 210) hx hb (dkS dF_162 DX12_count (i := 85) rfl rfl rfl) (by decide) (fun h => absurd h (by decide)) (fun _ => ?_)
      refine lv_iload_n hx hb (dkP dF_28 DX12_count (i := 86) rfl rfl) rfl (lv_at hl 1 rfl) ?_
      refine lv_aload_n hx hb (dkP dF_42 DX12_count (i := 87) rfl rfl) rfl (lv_at hl 2 rfl) ?_
      refine z_gr C0 hw 0 50 33 rfl fl_X12_126 (dk2 dF_180 DX12_count (i := 88) rfl rfl rfl) ?_
      refine lv_iload_n hx hb (dkP dF_29 DX12_count (i := 89) rfl rfl) rfl (lv_at hl 0 rfl) ?_
      refine z_ialdN (n := 4) C0 hw 33 3 rfl (by omega) (by decide) (dkP dF_46 DX12_count (i := 90) rfl rfl) ?_
      refine z_top (y := (-1)) (by rfl) ?_
      refine lv_iconst (v := (-1)) hx hb (dkP dF_2 DX12_count (i := 91) rfl rfl) (by decide) ?_
      refine lv_icmp_ne (tgt := 201) hx hb (dkS dF_160 DX12_count (i := 92) rfl rfl rfl) (by decide) (fun h => absurd h (by decide)) (fun _ => ?_)
      refine lv_iconst (v := 0) hx hb (dkP dF_3 DX12_count (i := 93) rfl rfl) (by decide) ?_
      refine lv_goto (tgt := 202) hx hb (dkS dF_167 DX12_count (i := 94) rfl rfl rfl) (by decide) ?_
      refine lv_iadd hx hb (dkP dF_96 DX12_count (i := 96) rfl rfl) ?_
      refine z_top (y := 0) (by decide) ?_
      refine lv_istore_n (lv' := [(2, .int 0), (3, .int 3), (0, .ref (ad 0)), (1, .int (nI 9))]) hx hb (dkP dF_61 DX12_count (i := 97) rfl rfl) rfl hl (by decide) rfl (fun ls hl => ?_)
      refine lv_iinc (v := 4) (lv' := [(3, .int 4), (2, .int 0), (0, .ref (ad 0)), (1, .int (nI 9))]) hx hb (dkI DX12_count (i := 98) rfl rfl rfl rfl) hl (k := 1) rfl (by decide) (by decide) rfl (fun ls hl => ?_)
      refine lv_goto (tgt := 181) hx hb (dkS dF_167 DX12_count (i := 99) rfl rfl rfl) (by decide) ?_
      refine lv_iload_n hx hb (dkP dF_29 DX12_count (i := 83) rfl rfl) rfl (lv_at hl 0 rfl) ?_
      refine lv_iconst (v := 4) hx hb (dkP dF_7 DX12_count (i := 84) rfl rfl) (by decide) ?_
      refine lv_icmp_ge (tgt := 210) hx hb (dkS dF_162 DX12_count (i := 85) rfl rfl rfl) (by decide) (fun _ => ?_) (fun h => absurd h (by decide))
      refine lv_iload_n hx hb (dkP dF_28 DX12_count (i := 100) rfl rfl) rfl (lv_at hl 1 rfl) ?_
      exact z_iret C0 hr hlk hw (by first | rfl | ((try simp (disch := omega) only [tnI, tn32 1 (by decide), tnj 1 (by decide), tl32 0 (by decide), tl64 0 (by decide), tl32 1 (by decide), tl64 1 (by decide), tl32 2 (by decide), tl64 2 (by decide), tl32 4 (by decide), tl64 4 (by decide), tl32 8 (by decide), tl64 8 (by decide), tl32 9 (by decide), tl64 9 (by decide), tl32 10 (by decide), tl64 10 (by decide), tl32 29 (by decide), tl64 29 (by decide), tl32 30 (by decide), tl64 30 (by decide), tl32 49 (by decide), tl64 49 (by decide), tl32 50 (by decide), tl64 50 (by decide), tl32 69 (by decide), tl64 69 (by decide), tl32 70 (by decide), tl64 70 (by decide), tl32 89 (by decide), tl64 89 (by decide), tl32 90 (by decide), tl64 90 (by decide), tl32 109 (by decide), tl64 109 (by decide), tl32 110 (by decide), tl64 110 (by decide), tl32 129 (by decide), tl64 129 (by decide), tl32 130 (by decide), tl64 130 (by decide), tl32 149 (by decide), tl64 149 (by decide), tl32 150 (by decide), tl64 150 (by decide)]); (repeat' split) <;> first | rfl | omega | (apply Int32.toInt_inj.mp; simp (disch := omega) only [tnI, tn32 1 (by decide), tnj 1 (by decide), tl32 0 (by decide), tl64 0 (by decide), tl32 1 (by decide), tl64 1 (by decide), tl32 2 (by decide), tl64 2 (by decide), tl32 4 (by decide), tl64 4 (by decide), tl32 8 (by decide), tl64 8 (by decide), tl32 9 (by decide), tl64 9 (by decide), tl32 10 (by decide), tl64 10 (by decide), tl32 29 (by decide), tl64 29 (by decide), tl32 30 (by decide), tl64 30 (by decide), tl32 49 (by decide), tl64 49 (by decide), tl32 50 (by decide), tl64 50 (by decide), tl32 69 (by decide), tl64 69 (by decide), tl32 70 (by decide), tl64 70 (by decide), tl32 89 (by decide), tl64 89 (by decide), tl32 90 (by decide), tl64 90 (by decide), tl32 109 (by decide), tl64 109 (by decide), tl32 110 (by decide), tl64 110 (by decide), tl32 129 (by decide), tl64 129 (by decide), tl32 130 (by decide), tl64 130 (by decide), tl32 149 (by decide), tl64 149 (by decide), tl32 150 (by decide), tl64 150 (by decide)]; omega))) (dkP dF_172 DX12_count (i := 101) rfl rfl)
    | 10, _ =>
      refine lv_tableIn (x := nI 10) (off := 209) (tgt := 212) hx hb (dX12_count_3) (by decide) (by decide) rfl (by decide) ?_
      refine lv_iconst (v := 0) hx hb (dkP dF_3 DX12_count (i := 102) rfl rfl) (by decide) ?_
      refine lv_istore_n (lv' := [(3, .int 0), (2, .int 0), (0, .ref (ad 0)), (1, .int (nI 10))]) hx hb (dkP dF_62 DX12_count (i := 103) rfl rfl) rfl hl (by decide) rfl (fun ls hl => ?_)
      refine lv_iload_n hx hb (dkP dF_29 DX12_count (i := 104) rfl rfl) rfl (lv_at hl 0 rfl) ?_
      refine lv_bipush (v := 20) hx hb (dks dF_16 DX12_count (i := 105) rfl rfl rfl) (by decide) ?_
      refine lv_icmp_ge (tgt := 240) hx hb (dkS dF_162 DX12_count (i := 106) rfl rfl rfl) (by decide) (fun h => absurd h (by decide)) (fun _ => ?_)
      refine lv_iload_n hx hb (dkP dF_28 DX12_count (i := 107) rfl rfl) rfl (lv_at hl 1 rfl) ?_
      refine lv_aload_n hx hb (dkP dF_42 DX12_count (i := 108) rfl rfl) rfl (lv_at hl 2 rfl) ?_
      refine z_gr C0 hw 0 1 1 rfl fl_X12_20 (dk2 dF_180 DX12_count (i := 109) rfl rfl rfl) ?_
      refine lv_iload_n hx hb (dkP dF_29 DX12_count (i := 110) rfl rfl) rfl (lv_at hl 0 rfl) ?_
      refine zn_I hw (zr_S (As := [.int 0]) (rest := [.ref (ad 1), .int 0]) C0 (c_X12_rowAt l G kc 0  _) cs_X12_rowAt lk_X12_489 (zp_P C0 a00 s00) rfl hl.1 rfl ⟨by decide, by decide⟩ (Nat.le_of_ble_eq_true rfl) (dk2 dF_184 DX12_count (i := 111) rfl rfl rfl) ⟨Nat.le_refl _, Nat.le_refl _⟩) (fun r37 s37 H locs hp hw => ?_)
      subst hp
      refine z_top (y := 414028) (by rfl) ?_
      refine lv_iconst (v := 4) hx hb (dkP dF_7 DX12_count (i := 112) rfl rfl) (by decide) ?_
      refine lv_iadd hx hb (dkP dF_96 DX12_count (i := 113) rfl rfl) ?_
      refine z_top (y := 414032) (by decide) ?_
      refine z_ialdN (n := 414128) C0 hw 1 414032 rfl (by omega) (by decide) (dkP dF_46 DX12_count (i := 114) rfl rfl) ?_
      refine z_top (y := 0) (by rfl) ?_
      refine lv_iadd hx hb (dkP dF_96 DX12_count (i := 115) rfl rfl) ?_
      refine z_top (y := 0) (by decide) ?_
      refine lv_istore_n (lv' := [(2, .int 0), (3, .int 0), (0, .ref (ad 0)), (1, .int (nI 10))]) hx hb (dkP dF_61 DX12_count (i := 116) rfl rfl) rfl hl (by decide) rfl (fun ls hl => ?_)
      refine lv_iinc (v := 1) (lv' := [(3, .int 1), (2, .int 0), (0, .ref (ad 0)), (1, .int (nI 10))]) hx hb (dkI DX12_count (i := 117) rfl rfl rfl rfl) hl (k := 1) rfl (by decide) (by decide) rfl (fun ls hl => ?_)
      refine lv_goto (tgt := 214) hx hb (dkS dF_167 DX12_count (i := 118) rfl rfl rfl) (by decide) ?_
      refine lv_iload_n hx hb (dkP dF_29 DX12_count (i := 104) rfl rfl) rfl (lv_at hl 0 rfl) ?_
      refine lv_bipush (v := 20) hx hb (dks dF_16 DX12_count (i := 105) rfl rfl rfl) (by decide) ?_
      refine lv_icmp_ge (tgt := 240) hx hb (dkS dF_162 DX12_count (i := 106) rfl rfl rfl) (by decide) (fun h => absurd h (by decide)) (fun _ => ?_)
      refine lv_iload_n hx hb (dkP dF_28 DX12_count (i := 107) rfl rfl) rfl (lv_at hl 1 rfl) ?_
      refine lv_aload_n hx hb (dkP dF_42 DX12_count (i := 108) rfl rfl) rfl (lv_at hl 2 rfl) ?_
      refine z_gr C0 hw 0 1 1 rfl fl_X12_20 (dk2 dF_180 DX12_count (i := 109) rfl rfl rfl) ?_
      refine lv_iload_n hx hb (dkP dF_29 DX12_count (i := 110) rfl rfl) rfl (lv_at hl 0 rfl) ?_
      refine zn_I hw (zr_S (As := [.int 1]) (rest := [.ref (ad 1), .int 0]) C0 (c_X12_rowAt l G kc 1  _) cs_X12_rowAt lk_X12_489 (zp_P C0 a00 s00) rfl hl.1 rfl ⟨by decide, by decide⟩ (Nat.le_of_ble_eq_true rfl) (dk2 dF_184 DX12_count (i := 111) rfl rfl rfl) ⟨Nat.le_refl _, Nat.le_refl _⟩) (fun r38 s38 H locs hp hw => ?_)
      subst hp
      refine z_top (y := 414033) (by rfl) ?_
      refine lv_iconst (v := 4) hx hb (dkP dF_7 DX12_count (i := 112) rfl rfl) (by decide) ?_
      refine lv_iadd hx hb (dkP dF_96 DX12_count (i := 113) rfl rfl) ?_
      refine z_top (y := 414037) (by decide) ?_
      refine z_ialdN (n := 414128) C0 hw 1 414037 rfl (by omega) (by decide) (dkP dF_46 DX12_count (i := 114) rfl rfl) ?_
      refine z_top (y := 0) (by rfl) ?_
      refine lv_iadd hx hb (dkP dF_96 DX12_count (i := 115) rfl rfl) ?_
      refine z_top (y := 0) (by decide) ?_
      refine lv_istore_n (lv' := [(2, .int 0), (3, .int 1), (0, .ref (ad 0)), (1, .int (nI 10))]) hx hb (dkP dF_61 DX12_count (i := 116) rfl rfl) rfl hl (by decide) rfl (fun ls hl => ?_)
      refine lv_iinc (v := 2) (lv' := [(3, .int 2), (2, .int 0), (0, .ref (ad 0)), (1, .int (nI 10))]) hx hb (dkI DX12_count (i := 117) rfl rfl rfl rfl) hl (k := 1) rfl (by decide) (by decide) rfl (fun ls hl => ?_)
      refine lv_goto (tgt := 214) hx hb (dkS dF_167 DX12_count (i := 118) rfl rfl rfl) (by decide) ?_
      refine lv_iload_n hx hb (dkP dF_29 DX12_count (i := 104) rfl rfl) rfl (lv_at hl 0 rfl) ?_
      refine lv_bipush (v := 20) hx hb (dks dF_16 DX12_count (i := 105) rfl rfl rfl) (by decide) ?_
      refine lv_icmp_ge (tgt := 240) hx hb (dkS dF_162 DX12_count (i := 106) rfl rfl rfl) (by decide) (fun h => absurd h (by decide)) (fun _ => ?_)
      refine lv_iload_n hx hb (dkP dF_28 DX12_count (i := 107) rfl rfl) rfl (lv_at hl 1 rfl) ?_
      refine lv_aload_n hx hb (dkP dF_42 DX12_count (i := 108) rfl rfl) rfl (lv_at hl 2 rfl) ?_
      refine z_gr C0 hw 0 1 1 rfl fl_X12_20 (dk2 dF_180 DX12_count (i := 109) rfl rfl rfl) ?_
      refine lv_iload_n hx hb (dkP dF_29 DX12_count (i := 110) rfl rfl) rfl (lv_at hl 0 rfl) ?_
      refine zn_I hw (zr_S (As := [.int 2]) (rest := [.ref (ad 1), .int 0]) C0 (c_X12_rowAt l G kc 2  _) cs_X12_rowAt lk_X12_489 (zp_P C0 a00 s00) rfl hl.1 rfl ⟨by decide, by decide⟩ (Nat.le_of_ble_eq_true rfl) (dk2 dF_184 DX12_count (i := 111) rfl rfl rfl) ⟨Nat.le_refl _, Nat.le_refl _⟩) (fun r39 s39 H locs hp hw => ?_)
      subst hp
      refine z_top (y := 414038) (by rfl) ?_
      refine lv_iconst (v := 4) hx hb (dkP dF_7 DX12_count (i := 112) rfl rfl) (by decide) ?_
      refine lv_iadd hx hb (dkP dF_96 DX12_count (i := 113) rfl rfl) ?_
      refine z_top (y := 414042) (by decide) ?_
      refine z_ialdN (n := 414128) C0 hw 1 414042 rfl (by omega) (by decide) (dkP dF_46 DX12_count (i := 114) rfl rfl) ?_
      refine z_top (y := 0) (by rfl) ?_
      refine lv_iadd hx hb (dkP dF_96 DX12_count (i := 115) rfl rfl) ?_
      refine z_top (y := 0) (by decide) ?_
      refine lv_istore_n (lv' := [(2, .int 0), (3, .int 2), (0, .ref (ad 0)), (1, .int (nI 10))]) hx hb (dkP dF_61 DX12_count (i := 116) rfl rfl) rfl hl (by decide) rfl (fun ls hl => ?_)
      refine lv_iinc (v := 3) (lv' := [(3, .int 3), (2, .int 0), (0, .ref (ad 0)), (1, .int (nI 10))]) hx hb (dkI DX12_count (i := 117) rfl rfl rfl rfl) hl (k := 1) rfl (by decide) (by decide) rfl (fun ls hl => ?_)
      refine lv_goto (tgt := 214) hx hb (dkS dF_167 DX12_count (i := 118) rfl rfl rfl) (by decide) ?_
      refine lv_iload_n hx hb (dkP dF_29 DX12_count (i := 104) rfl rfl) rfl (lv_at hl 0 rfl) ?_
      refine lv_bipush (v := 20) hx hb (dks dF_16 DX12_count (i := 105) rfl rfl rfl) (by decide) ?_
      refine lv_icmp_ge (tgt := 240) hx hb (dkS dF_162 DX12_count (i := 106) rfl rfl rfl) (by decide) (fun h => absurd h (by decide)) (fun _ => ?_)
      refine lv_iload_n hx hb (dkP dF_28 DX12_count (i := 107) rfl rfl) rfl (lv_at hl 1 rfl) ?_
      refine lv_aload_n hx hb (dkP dF_42 DX12_count (i := 108) rfl rfl) rfl (lv_at hl 2 rfl) ?_
      refine z_gr C0 hw 0 1 1 rfl fl_X12_20 (dk2 dF_180 DX12_count (i := 109) rfl rfl rfl) ?_
      refine lv_iload_n hx hb (dkP dF_29 DX12_count (i := 110) rfl rfl) rfl (lv_at hl 0 rfl) ?_
      refine zn_I hw (zr_S (As := [.int 3]) (rest := [.ref (ad 1), .int 0]) C0 (c_X12_rowAt l G kc 3  _) cs_X12_rowAt lk_X12_489 (zp_P C0 a00 s00) rfl hl.1 rfl ⟨by decide, by decide⟩ (Nat.le_of_ble_eq_true rfl) (dk2 dF_184 DX12_count (i := 111) rfl rfl rfl) ⟨Nat.le_refl _, Nat.le_refl _⟩) (fun r40 s40 H locs hp hw => ?_)
      subst hp
      refine z_top (y := 414043) (by rfl) ?_
      refine lv_iconst (v := 4) hx hb (dkP dF_7 DX12_count (i := 112) rfl rfl) (by decide) ?_
      refine lv_iadd hx hb (dkP dF_96 DX12_count (i := 113) rfl rfl) ?_
      refine z_top (y := 414047) (by decide) ?_
      refine z_ialdN (n := 414128) C0 hw 1 414047 rfl (by omega) (by decide) (dkP dF_46 DX12_count (i := 114) rfl rfl) ?_
      refine z_top (y := 0) (by rfl) ?_
      refine lv_iadd hx hb (dkP dF_96 DX12_count (i := 115) rfl rfl) ?_
      refine z_top (y := 0) (by decide) ?_
      refine lv_istore_n (lv' := [(2, .int 0), (3, .int 3), (0, .ref (ad 0)), (1, .int (nI 10))]) hx hb (dkP dF_61 DX12_count (i := 116) rfl rfl) rfl hl (by decide) rfl (fun ls hl => ?_)
      refine lv_iinc (v := 4) (lv' := [(3, .int 4), (2, .int 0), (0, .ref (ad 0)), (1, .int (nI 10))]) hx hb (dkI DX12_count (i := 117) rfl rfl rfl rfl) hl (k := 1) rfl (by decide) (by decide) rfl (fun ls hl => ?_)
      refine lv_goto (tgt := 214) hx hb (dkS dF_167 DX12_count (i := 118) rfl rfl rfl) (by decide) ?_
      refine lv_iload_n hx hb (dkP dF_29 DX12_count (i := 104) rfl rfl) rfl (lv_at hl 0 rfl) ?_
      refine lv_bipush (v := 20) hx hb (dks dF_16 DX12_count (i := 105) rfl rfl rfl) (by decide) ?_
      refine lv_icmp_ge (tgt := 240) hx hb (dkS dF_162 DX12_count (i := 106) rfl rfl rfl) (by decide) (fun h => absurd h (by decide)) (fun _ => ?_)
      refine lv_iload_n hx hb (dkP dF_28 DX12_count (i := 107) rfl rfl) rfl (lv_at hl 1 rfl) ?_
      refine lv_aload_n hx hb (dkP dF_42 DX12_count (i := 108) rfl rfl) rfl (lv_at hl 2 rfl) ?_
      refine z_gr C0 hw 0 1 1 rfl fl_X12_20 (dk2 dF_180 DX12_count (i := 109) rfl rfl rfl) ?_
      refine lv_iload_n hx hb (dkP dF_29 DX12_count (i := 110) rfl rfl) rfl (lv_at hl 0 rfl) ?_
      refine zn_I hw (zr_S (As := [.int 4]) (rest := [.ref (ad 1), .int 0]) C0 (c_X12_rowAt l G kc 4  _) cs_X12_rowAt lk_X12_489 (zp_P C0 a00 s00) rfl hl.1 rfl ⟨by decide, by decide⟩ (Nat.le_of_ble_eq_true rfl) (dk2 dF_184 DX12_count (i := 111) rfl rfl rfl) ⟨Nat.le_refl _, Nat.le_refl _⟩) (fun r41 s41 H locs hp hw => ?_)
      subst hp
      refine z_top (y := 414048) (by rfl) ?_
      refine lv_iconst (v := 4) hx hb (dkP dF_7 DX12_count (i := 112) rfl rfl) (by decide) ?_
      refine lv_iadd hx hb (dkP dF_96 DX12_count (i := 113) rfl rfl) ?_
      refine z_top (y := 414052) (by decide) ?_
      refine z_ialdN (n := 414128) C0 hw 1 414052 rfl (by omega) (by decide) (dkP dF_46 DX12_count (i := 114) rfl rfl) ?_
      refine z_top (y := 0) (by rfl) ?_
      refine lv_iadd hx hb (dkP dF_96 DX12_count (i := 115) rfl rfl) ?_
      refine z_top (y := 0) (by decide) ?_
      refine lv_istore_n (lv' := [(2, .int 0), (3, .int 4), (0, .ref (ad 0)), (1, .int (nI 10))]) hx hb (dkP dF_61 DX12_count (i := 116) rfl rfl) rfl hl (by decide) rfl (fun ls hl => ?_)
      refine lv_iinc (v := 5) (lv' := [(3, .int 5), (2, .int 0), (0, .ref (ad 0)), (1, .int (nI 10))]) hx hb (dkI DX12_count (i := 117) rfl rfl rfl rfl) hl (k := 1) rfl (by decide) (by decide) rfl (fun ls hl => ?_)
      refine lv_goto (tgt := 214) hx hb (dkS dF_167 DX12_count (i := 118) rfl rfl rfl) (by decide) ?_
      refine lv_iload_n hx hb (dkP dF_29 DX12_count (i := 104) rfl rfl) rfl (lv_at hl 0 rfl) ?_
      refine lv_bipush (v := 20) hx hb (dks dF_16 DX12_count (i := 105) rfl rfl rfl) (by decide) ?_
      refine lv_icmp_ge (tgt := 240) hx hb (dkS dF_162 DX12_count (i := 106) rfl rfl rfl) (by decide) (fun h => absurd h (by decide)) (fun _ => ?_)
      refine lv_iload_n hx hb (dkP dF_28 DX12_count (i := 107) rfl rfl) rfl (lv_at hl 1 rfl) ?_
      refine lv_aload_n hx hb (dkP dF_42 DX12_count (i := 108) rfl rfl) rfl (lv_at hl 2 rfl) ?_
      refine z_gr C0 hw 0 1 1 rfl fl_X12_20 (dk2 dF_180 DX12_count (i := 109) rfl rfl rfl) ?_
      refine lv_iload_n hx hb (dkP dF_29 DX12_count (i := 110) rfl rfl) rfl (lv_at hl 0 rfl) ?_
      refine zn_I hw (zr_S (As := [.int 5]) (rest := [.ref (ad 1), .int 0]) C0 (c_X12_rowAt l G kc 5  _) cs_X12_rowAt lk_X12_489 (zp_P C0 a00 s00) rfl hl.1 rfl ⟨by decide, by decide⟩ (Nat.le_of_ble_eq_true rfl) (dk2 dF_184 DX12_count (i := 111) rfl rfl rfl) ⟨Nat.le_refl _, Nat.le_refl _⟩) (fun r42 s42 H locs hp hw => ?_)
      subst hp
      refine z_top (y := 414053) (by rfl) ?_
      refine lv_iconst (v := 4) hx hb (dkP dF_7 DX12_count (i := 112) rfl rfl) (by decide) ?_
      refine lv_iadd hx hb (dkP dF_96 DX12_count (i := 113) rfl rfl) ?_
      refine z_top (y := 414057) (by decide) ?_
      refine z_ialdN (n := 414128) C0 hw 1 414057 rfl (by omega) (by decide) (dkP dF_46 DX12_count (i := 114) rfl rfl) ?_
      refine z_top (y := 0) (by rfl) ?_
      refine lv_iadd hx hb (dkP dF_96 DX12_count (i := 115) rfl rfl) ?_
      refine z_top (y := 0) (by decide) ?_
      refine lv_istore_n (lv' := [(2, .int 0), (3, .int 5), (0, .ref (ad 0)), (1, .int (nI 10))]) hx hb (dkP dF_61 DX12_count (i := 116) rfl rfl) rfl hl (by decide) rfl (fun ls hl => ?_)
      refine lv_iinc (v := 6) (lv' := [(3, .int 6), (2, .int 0), (0, .ref (ad 0)), (1, .int (nI 10))]) hx hb (dkI DX12_count (i := 117) rfl rfl rfl rfl) hl (k := 1) rfl (by decide) (by decide) rfl (fun ls hl => ?_)
      refine lv_goto (tgt := 214) hx hb (dkS dF_167 DX12_count (i := 118) rfl rfl rfl) (by decide) ?_
      refine lv_iload_n hx hb (dkP dF_29 DX12_count (i := 104) rfl rfl) rfl (lv_at hl 0 rfl) ?_
      refine lv_bipush (v := 20) hx hb (dks dF_16 DX12_count (i := 105) rfl rfl rfl) (by decide) ?_
      refine lv_icmp_ge (tgt := 240) hx hb (dkS dF_162 DX12_count (i := 106) rfl rfl rfl) (by decide) (fun h => absurd h (by decide)) (fun _ => ?_)
      refine lv_iload_n hx hb (dkP dF_28 DX12_count (i := 107) rfl rfl) rfl (lv_at hl 1 rfl) ?_
      refine lv_aload_n hx hb (dkP dF_42 DX12_count (i := 108) rfl rfl) rfl (lv_at hl 2 rfl) ?_
      refine z_gr C0 hw 0 1 1 rfl fl_X12_20 (dk2 dF_180 DX12_count (i := 109) rfl rfl rfl) ?_
      refine lv_iload_n hx hb (dkP dF_29 DX12_count (i := 110) rfl rfl) rfl (lv_at hl 0 rfl) ?_
      refine zn_I hw (zr_S (As := [.int 6]) (rest := [.ref (ad 1), .int 0]) C0 (c_X12_rowAt l G kc 6  _) cs_X12_rowAt lk_X12_489 (zp_P C0 a00 s00) rfl hl.1 rfl ⟨by decide, by decide⟩ (Nat.le_of_ble_eq_true rfl) (dk2 dF_184 DX12_count (i := 111) rfl rfl rfl) ⟨Nat.le_refl _, Nat.le_refl _⟩) (fun r43 s43 H locs hp hw => ?_)
      subst hp
      refine z_top (y := 414058) (by rfl) ?_
      refine lv_iconst (v := 4) hx hb (dkP dF_7 DX12_count (i := 112) rfl rfl) (by decide) ?_
      refine lv_iadd hx hb (dkP dF_96 DX12_count (i := 113) rfl rfl) ?_
      refine z_top (y := 414062) (by decide) ?_
      refine z_ialdN (n := 414128) C0 hw 1 414062 rfl (by omega) (by decide) (dkP dF_46 DX12_count (i := 114) rfl rfl) ?_
      refine z_top (y := 0) (by rfl) ?_
      refine lv_iadd hx hb (dkP dF_96 DX12_count (i := 115) rfl rfl) ?_
      refine z_top (y := 0) (by decide) ?_
      refine lv_istore_n (lv' := [(2, .int 0), (3, .int 6), (0, .ref (ad 0)), (1, .int (nI 10))]) hx hb (dkP dF_61 DX12_count (i := 116) rfl rfl) rfl hl (by decide) rfl (fun ls hl => ?_)
      refine lv_iinc (v := 7) (lv' := [(3, .int 7), (2, .int 0), (0, .ref (ad 0)), (1, .int (nI 10))]) hx hb (dkI DX12_count (i := 117) rfl rfl rfl rfl) hl (k := 1) rfl (by decide) (by decide) rfl (fun ls hl => ?_)
      refine lv_goto (tgt := 214) hx hb (dkS dF_167 DX12_count (i := 118) rfl rfl rfl) (by decide) ?_
      refine lv_iload_n hx hb (dkP dF_29 DX12_count (i := 104) rfl rfl) rfl (lv_at hl 0 rfl) ?_
      refine lv_bipush (v := 20) hx hb (dks dF_16 DX12_count (i := 105) rfl rfl rfl) (by decide) ?_
      refine lv_icmp_ge (tgt := 240) hx hb (dkS dF_162 DX12_count (i := 106) rfl rfl rfl) (by decide) (fun h => absurd h (by decide)) (fun _ => ?_)
      refine lv_iload_n hx hb (dkP dF_28 DX12_count (i := 107) rfl rfl) rfl (lv_at hl 1 rfl) ?_
      refine lv_aload_n hx hb (dkP dF_42 DX12_count (i := 108) rfl rfl) rfl (lv_at hl 2 rfl) ?_
      refine z_gr C0 hw 0 1 1 rfl fl_X12_20 (dk2 dF_180 DX12_count (i := 109) rfl rfl rfl) ?_
      refine lv_iload_n hx hb (dkP dF_29 DX12_count (i := 110) rfl rfl) rfl (lv_at hl 0 rfl) ?_
      refine zn_I hw (zr_S (As := [.int 7]) (rest := [.ref (ad 1), .int 0]) C0 (c_X12_rowAt l G kc 7  _) cs_X12_rowAt lk_X12_489 (zp_P C0 a00 s00) rfl hl.1 rfl ⟨by decide, by decide⟩ (Nat.le_of_ble_eq_true rfl) (dk2 dF_184 DX12_count (i := 111) rfl rfl rfl) ⟨Nat.le_refl _, Nat.le_refl _⟩) (fun r44 s44 H locs hp hw => ?_)
      subst hp
      refine z_top (y := 414063) (by rfl) ?_
      refine lv_iconst (v := 4) hx hb (dkP dF_7 DX12_count (i := 112) rfl rfl) (by decide) ?_
      refine lv_iadd hx hb (dkP dF_96 DX12_count (i := 113) rfl rfl) ?_
      refine z_top (y := 414067) (by decide) ?_
      refine z_ialdN (n := 414128) C0 hw 1 414067 rfl (by omega) (by decide) (dkP dF_46 DX12_count (i := 114) rfl rfl) ?_
      refine z_top (y := 0) (by rfl) ?_
      refine lv_iadd hx hb (dkP dF_96 DX12_count (i := 115) rfl rfl) ?_
      refine z_top (y := 0) (by decide) ?_
      refine lv_istore_n (lv' := [(2, .int 0), (3, .int 7), (0, .ref (ad 0)), (1, .int (nI 10))]) hx hb (dkP dF_61 DX12_count (i := 116) rfl rfl) rfl hl (by decide) rfl (fun ls hl => ?_)
      refine lv_iinc (v := 8) (lv' := [(3, .int 8), (2, .int 0), (0, .ref (ad 0)), (1, .int (nI 10))]) hx hb (dkI DX12_count (i := 117) rfl rfl rfl rfl) hl (k := 1) rfl (by decide) (by decide) rfl (fun ls hl => ?_)
      refine lv_goto (tgt := 214) hx hb (dkS dF_167 DX12_count (i := 118) rfl rfl rfl) (by decide) ?_
      refine lv_iload_n hx hb (dkP dF_29 DX12_count (i := 104) rfl rfl) rfl (lv_at hl 0 rfl) ?_
      refine lv_bipush (v := 20) hx hb (dks dF_16 DX12_count (i := 105) rfl rfl rfl) (by decide) ?_
      refine lv_icmp_ge (tgt := 240) hx hb (dkS dF_162 DX12_count (i := 106) rfl rfl rfl) (by decide) (fun h => absurd h (by decide)) (fun _ => ?_)
      refine lv_iload_n hx hb (dkP dF_28 DX12_count (i := 107) rfl rfl) rfl (lv_at hl 1 rfl) ?_
      refine lv_aload_n hx hb (dkP dF_42 DX12_count (i := 108) rfl rfl) rfl (lv_at hl 2 rfl) ?_
      refine z_gr C0 hw 0 1 1 rfl fl_X12_20 (dk2 dF_180 DX12_count (i := 109) rfl rfl rfl) ?_
      refine lv_iload_n hx hb (dkP dF_29 DX12_count (i := 110) rfl rfl) rfl (lv_at hl 0 rfl) ?_
      refine zn_I hw (zr_S (As := [.int 8]) (rest := [.ref (ad 1), .int 0]) C0 (c_X12_rowAt l G kc 8  _) cs_X12_rowAt lk_X12_489 (zp_P C0 a00 s00) rfl hl.1 rfl ⟨by decide, by decide⟩ (Nat.le_of_ble_eq_true rfl) (dk2 dF_184 DX12_count (i := 111) rfl rfl rfl) ⟨Nat.le_refl _, Nat.le_refl _⟩) (fun r45 s45 H locs hp hw => ?_)
      subst hp
      refine z_top (y := 414068) (by rfl) ?_
      refine lv_iconst (v := 4) hx hb (dkP dF_7 DX12_count (i := 112) rfl rfl) (by decide) ?_
      refine lv_iadd hx hb (dkP dF_96 DX12_count (i := 113) rfl rfl) ?_
      refine z_top (y := 414072) (by decide) ?_
      refine z_ialdN (n := 414128) C0 hw 1 414072 rfl (by omega) (by decide) (dkP dF_46 DX12_count (i := 114) rfl rfl) ?_
      refine z_top (y := 0) (by rfl) ?_
      refine lv_iadd hx hb (dkP dF_96 DX12_count (i := 115) rfl rfl) ?_
      refine z_top (y := 0) (by decide) ?_
      refine lv_istore_n (lv' := [(2, .int 0), (3, .int 8), (0, .ref (ad 0)), (1, .int (nI 10))]) hx hb (dkP dF_61 DX12_count (i := 116) rfl rfl) rfl hl (by decide) rfl (fun ls hl => ?_)
      refine lv_iinc (v := 9) (lv' := [(3, .int 9), (2, .int 0), (0, .ref (ad 0)), (1, .int (nI 10))]) hx hb (dkI DX12_count (i := 117) rfl rfl rfl rfl) hl (k := 1) rfl (by decide) (by decide) rfl (fun ls hl => ?_)
      refine lv_goto (tgt := 214) hx hb (dkS dF_167 DX12_count (i := 118) rfl rfl rfl) (by decide) ?_
      refine lv_iload_n hx hb (dkP dF_29 DX12_count (i := 104) rfl rfl) rfl (lv_at hl 0 rfl) ?_
      refine lv_bipush (v := 20) hx hb (dks dF_16 DX12_count (i := 105) rfl rfl rfl) (by decide) ?_
      refine lv_icmp_ge (tgt := 240) hx hb (dkS dF_162 DX12_count (i := 106) rfl rfl rfl) (by decide) (fun h => absurd h (by decide)) (fun _ => ?_)
      refine lv_iload_n hx hb (dkP dF_28 DX12_count (i := 107) rfl rfl) rfl (lv_at hl 1 rfl) ?_
      refine lv_aload_n hx hb (dkP dF_42 DX12_count (i := 108) rfl rfl) rfl (lv_at hl 2 rfl) ?_
      refine z_gr C0 hw 0 1 1 rfl fl_X12_20 (dk2 dF_180 DX12_count (i := 109) rfl rfl rfl) ?_
      refine lv_iload_n hx hb (dkP dF_29 DX12_count (i := 110) rfl rfl) rfl (lv_at hl 0 rfl) ?_
      refine zn_I hw (zr_S (As := [.int 9]) (rest := [.ref (ad 1), .int 0]) C0 (c_X12_rowAt l G kc 9  _) cs_X12_rowAt lk_X12_489 (zp_P C0 a00 s00) rfl hl.1 rfl ⟨by decide, by decide⟩ (Nat.le_of_ble_eq_true rfl) (dk2 dF_184 DX12_count (i := 111) rfl rfl rfl) ⟨Nat.le_refl _, Nat.le_refl _⟩) (fun r46 s46 H locs hp hw => ?_)
      subst hp
      refine z_top (y := 414073) (by rfl) ?_
      refine lv_iconst (v := 4) hx hb (dkP dF_7 DX12_count (i := 112) rfl rfl) (by decide) ?_
      refine lv_iadd hx hb (dkP dF_96 DX12_count (i := 113) rfl rfl) ?_
      refine z_top (y := 414077) (by decide) ?_
      refine z_ialdN (n := 414128) C0 hw 1 414077 rfl (by omega) (by decide) (dkP dF_46 DX12_count (i := 114) rfl rfl) ?_
      refine z_top (y := 0) (by rfl) ?_
      refine lv_iadd hx hb (dkP dF_96 DX12_count (i := 115) rfl rfl) ?_
      refine z_top (y := 0) (by decide) ?_
      refine lv_istore_n (lv' := [(2, .int 0), (3, .int 9), (0, .ref (ad 0)), (1, .int (nI 10))]) hx hb (dkP dF_61 DX12_count (i := 116) rfl rfl) rfl hl (by decide) rfl (fun ls hl => ?_)
      refine lv_iinc (v := 10) (lv' := [(3, .int 10), (2, .int 0), (0, .ref (ad 0)), (1, .int (nI 10))]) hx hb (dkI DX12_count (i := 117) rfl rfl rfl rfl) hl (k := 1) rfl (by decide) (by decide) rfl (fun ls hl => ?_)
      refine lv_goto (tgt := 214) hx hb (dkS dF_167 DX12_count (i := 118) rfl rfl rfl) (by decide) ?_
      refine lv_iload_n hx hb (dkP dF_29 DX12_count (i := 104) rfl rfl) rfl (lv_at hl 0 rfl) ?_
      refine lv_bipush (v := 20) hx hb (dks dF_16 DX12_count (i := 105) rfl rfl rfl) (by decide) ?_
      refine lv_icmp_ge (tgt := 240) hx hb (dkS dF_162 DX12_count (i := 106) rfl rfl rfl) (by decide) (fun h => absurd h (by decide)) (fun _ => ?_)
      refine lv_iload_n hx hb (dkP dF_28 DX12_count (i := 107) rfl rfl) rfl (lv_at hl 1 rfl) ?_
      refine lv_aload_n hx hb (dkP dF_42 DX12_count (i := 108) rfl rfl) rfl (lv_at hl 2 rfl) ?_
      refine z_gr C0 hw 0 1 1 rfl fl_X12_20 (dk2 dF_180 DX12_count (i := 109) rfl rfl rfl) ?_
      refine lv_iload_n hx hb (dkP dF_29 DX12_count (i := 110) rfl rfl) rfl (lv_at hl 0 rfl) ?_
      refine zn_I hw (zr_S (As := [.int 10]) (rest := [.ref (ad 1), .int 0]) C0 (c_X12_rowAt l G kc 10  _) cs_X12_rowAt lk_X12_489 (zp_P C0 a00 s00) rfl hl.1 rfl ⟨by decide, by decide⟩ (Nat.le_of_ble_eq_true rfl) (dk2 dF_184 DX12_count (i := 111) rfl rfl rfl) ⟨Nat.le_refl _, Nat.le_refl _⟩) (fun r47 s47 H locs hp hw => ?_)
      subst hp
      refine z_top (y := 414078) (by rfl) ?_
      refine lv_iconst (v := 4) hx hb (dkP dF_7 DX12_count (i := 112) rfl rfl) (by decide) ?_
      refine lv_iadd hx hb (dkP dF_96 DX12_count (i := 113) rfl rfl) ?_
      refine z_top (y := 414082) (by decide) ?_
      refine z_ialdN (n := 414128) C0 hw 1 414082 rfl (by omega) (by decide) (dkP dF_46 DX12_count (i := 114) rfl rfl) ?_
      refine z_top (y := 0) (by rfl) ?_
      refine lv_iadd hx hb (dkP dF_96 DX12_count (i := 115) rfl rfl) ?_
      refine z_top (y := 0) (by decide) ?_
      refine lv_istore_n (lv' := [(2, .int 0), (3, .int 10), (0, .ref (ad 0)), (1, .int (nI 10))]) hx hb (dkP dF_61 DX12_count (i := 116) rfl rfl) rfl hl (by decide) rfl (fun ls hl => ?_)
      refine lv_iinc (v := 11) (lv' := [(3, .int 11), (2, .int 0), (0, .ref (ad 0)), (1, .int (nI 10))]) hx hb (dkI DX12_count (i := 117) rfl rfl rfl rfl) hl (k := 1) rfl (by decide) (by decide) rfl (fun ls hl => ?_)
      refine lv_goto (tgt := 214) hx hb (dkS dF_167 DX12_count (i := 118) rfl rfl rfl) (by decide) ?_
      refine lv_iload_n hx hb (dkP dF_29 DX12_count (i := 104) rfl rfl) rfl (lv_at hl 0 rfl) ?_
      refine lv_bipush (v := 20) hx hb (dks dF_16 DX12_count (i := 105) rfl rfl rfl) (by decide) ?_
      refine lv_icmp_ge (tgt := 240) hx hb (dkS dF_162 DX12_count (i := 106) rfl rfl rfl) (by decide) (fun h => absurd h (by decide)) (fun _ => ?_)
      refine lv_iload_n hx hb (dkP dF_28 DX12_count (i := 107) rfl rfl) rfl (lv_at hl 1 rfl) ?_
      refine lv_aload_n hx hb (dkP dF_42 DX12_count (i := 108) rfl rfl) rfl (lv_at hl 2 rfl) ?_
      refine z_gr C0 hw 0 1 1 rfl fl_X12_20 (dk2 dF_180 DX12_count (i := 109) rfl rfl rfl) ?_
      refine lv_iload_n hx hb (dkP dF_29 DX12_count (i := 110) rfl rfl) rfl (lv_at hl 0 rfl) ?_
      refine zn_I hw (zr_S (As := [.int 11]) (rest := [.ref (ad 1), .int 0]) C0 (c_X12_rowAt l G kc 11  _) cs_X12_rowAt lk_X12_489 (zp_P C0 a00 s00) rfl hl.1 rfl ⟨by decide, by decide⟩ (Nat.le_of_ble_eq_true rfl) (dk2 dF_184 DX12_count (i := 111) rfl rfl rfl) ⟨Nat.le_refl _, Nat.le_refl _⟩) (fun r48 s48 H locs hp hw => ?_)
      subst hp
      refine z_top (y := 414083) (by rfl) ?_
      refine lv_iconst (v := 4) hx hb (dkP dF_7 DX12_count (i := 112) rfl rfl) (by decide) ?_
      refine lv_iadd hx hb (dkP dF_96 DX12_count (i := 113) rfl rfl) ?_
      refine z_top (y := 414087) (by decide) ?_
      refine z_ialdN (n := 414128) C0 hw 1 414087 rfl (by omega) (by decide) (dkP dF_46 DX12_count (i := 114) rfl rfl) ?_
      refine z_top (y := 0) (by rfl) ?_
      refine lv_iadd hx hb (dkP dF_96 DX12_count (i := 115) rfl rfl) ?_
      refine z_top (y := 0) (by decide) ?_
      refine lv_istore_n (lv' := [(2, .int 0), (3, .int 11), (0, .ref (ad 0)), (1, .int (nI 10))]) hx hb (dkP dF_61 DX12_count (i := 116) rfl rfl) rfl hl (by decide) rfl (fun ls hl => ?_)
      refine lv_iinc (v := 12) (lv' := [(3, .int 12), (2, .int 0), (0, .ref (ad 0)), (1, .int (nI 10))]) hx hb (dkI DX12_count (i := 117) rfl rfl rfl rfl) hl (k := 1) rfl (by decide) (by decide) rfl (fun ls hl => ?_)
      refine lv_goto (tgt := 214) hx hb (dkS dF_167 DX12_count (i := 118) rfl rfl rfl) (by decide) ?_
      refine lv_iload_n hx hb (dkP dF_29 DX12_count (i := 104) rfl rfl) rfl (lv_at hl 0 rfl) ?_
      refine lv_bipush (v := 20) hx hb (dks dF_16 DX12_count (i := 105) rfl rfl rfl) (by decide) ?_
      refine lv_icmp_ge (tgt := 240) hx hb (dkS dF_162 DX12_count (i := 106) rfl rfl rfl) (by decide) (fun h => absurd h (by decide)) (fun _ => ?_)
      refine lv_iload_n hx hb (dkP dF_28 DX12_count (i := 107) rfl rfl) rfl (lv_at hl 1 rfl) ?_
      refine lv_aload_n hx hb (dkP dF_42 DX12_count (i := 108) rfl rfl) rfl (lv_at hl 2 rfl) ?_
      refine z_gr C0 hw 0 1 1 rfl fl_X12_20 (dk2 dF_180 DX12_count (i := 109) rfl rfl rfl) ?_
      refine lv_iload_n hx hb (dkP dF_29 DX12_count (i := 110) rfl rfl) rfl (lv_at hl 0 rfl) ?_
      refine zn_I hw (zr_S (As := [.int 12]) (rest := [.ref (ad 1), .int 0]) C0 (c_X12_rowAt l G kc 12  _) cs_X12_rowAt lk_X12_489 (zp_P C0 a00 s00) rfl hl.1 rfl ⟨by decide, by decide⟩ (Nat.le_of_ble_eq_true rfl) (dk2 dF_184 DX12_count (i := 111) rfl rfl rfl) ⟨Nat.le_refl _, Nat.le_refl _⟩) (fun r49 s49 H locs hp hw => ?_)
      subst hp
      refine z_top (y := 414088) (by rfl) ?_
      refine lv_iconst (v := 4) hx hb (dkP dF_7 DX12_count (i := 112) rfl rfl) (by decide) ?_
      refine lv_iadd hx hb (dkP dF_96 DX12_count (i := 113) rfl rfl) ?_
      refine z_top (y := 414092) (by decide) ?_
      refine z_ialdN (n := 414128) C0 hw 1 414092 rfl (by omega) (by decide) (dkP dF_46 DX12_count (i := 114) rfl rfl) ?_
      refine z_top (y := 0) (by rfl) ?_
      refine lv_iadd hx hb (dkP dF_96 DX12_count (i := 115) rfl rfl) ?_
      refine z_top (y := 0) (by decide) ?_
      refine lv_istore_n (lv' := [(2, .int 0), (3, .int 12), (0, .ref (ad 0)), (1, .int (nI 10))]) hx hb (dkP dF_61 DX12_count (i := 116) rfl rfl) rfl hl (by decide) rfl (fun ls hl => ?_)
      refine lv_iinc (v := 13) (lv' := [(3, .int 13), (2, .int 0), (0, .ref (ad 0)), (1, .int (nI 10))]) hx hb (dkI DX12_count (i := 117) rfl rfl rfl rfl) hl (k := 1) rfl (by decide) (by decide) rfl (fun ls hl => ?_)
      refine lv_goto (tgt := 214) hx hb (dkS dF_167 DX12_count (i := 118) rfl rfl rfl) (by decide) ?_
      refine lv_iload_n hx hb (dkP dF_29 DX12_count (i := 104) rfl rfl) rfl (lv_at hl 0 rfl) ?_
      refine lv_bipush (v := 20) hx hb (dks dF_16 DX12_count (i := 105) rfl rfl rfl) (by decide) ?_
      refine lv_icmp_ge (tgt := 240) hx hb (dkS dF_162 DX12_count (i := 106) rfl rfl rfl) (by decide) (fun h => absurd h (by decide)) (fun _ => ?_)
      refine lv_iload_n hx hb (dkP dF_28 DX12_count (i := 107) rfl rfl) rfl (lv_at hl 1 rfl) ?_
      refine lv_aload_n hx hb (dkP dF_42 DX12_count (i := 108) rfl rfl) rfl (lv_at hl 2 rfl) ?_
      refine z_gr C0 hw 0 1 1 rfl fl_X12_20 (dk2 dF_180 DX12_count (i := 109) rfl rfl rfl) ?_
      refine lv_iload_n hx hb (dkP dF_29 DX12_count (i := 110) rfl rfl) rfl (lv_at hl 0 rfl) ?_
      refine zn_I hw (zr_S (As := [.int 13]) (rest := [.ref (ad 1), .int 0]) C0 (c_X12_rowAt l G kc 13  _) cs_X12_rowAt lk_X12_489 (zp_P C0 a00 s00) rfl hl.1 rfl ⟨by decide, by decide⟩ (Nat.le_of_ble_eq_true rfl) (dk2 dF_184 DX12_count (i := 111) rfl rfl rfl) ⟨Nat.le_refl _, Nat.le_refl _⟩) (fun r50 s50 H locs hp hw => ?_)
      subst hp
      refine z_top (y := 414093) (by rfl) ?_
      refine lv_iconst (v := 4) hx hb (dkP dF_7 DX12_count (i := 112) rfl rfl) (by decide) ?_
      refine lv_iadd hx hb (dkP dF_96 DX12_count (i := 113) rfl rfl) ?_
      refine z_top (y := 414097) (by decide) ?_
      refine z_ialdN (n := 414128) C0 hw 1 414097 rfl (by omega) (by decide) (dkP dF_46 DX12_count (i := 114) rfl rfl) ?_
      refine z_top (y := 0) (by rfl) ?_
      refine lv_iadd hx hb (dkP dF_96 DX12_count (i := 115) rfl rfl) ?_
      refine z_top (y := 0) (by decide) ?_
      refine lv_istore_n (lv' := [(2, .int 0), (3, .int 13), (0, .ref (ad 0)), (1, .int (nI 10))]) hx hb (dkP dF_61 DX12_count (i := 116) rfl rfl) rfl hl (by decide) rfl (fun ls hl => ?_)
      refine lv_iinc (v := 14) (lv' := [(3, .int 14), (2, .int 0), (0, .ref (ad 0)), (1, .int (nI 10))]) hx hb (dkI DX12_count (i := 117) rfl rfl rfl rfl) hl (k := 1) rfl (by decide) (by decide) rfl (fun ls hl => ?_)
      refine lv_goto (tgt := 214) hx hb (dkS dF_167 DX12_count (i := 118) rfl rfl rfl) (by decide) ?_
      refine lv_iload_n hx hb (dkP dF_29 DX12_count (i := 104) rfl rfl) rfl (lv_at hl 0 rfl) ?_
      refine lv_bipush (v := 20) hx hb (dks dF_16 DX12_count (i := 105) rfl rfl rfl) (by decide) ?_
      refine lv_icmp_ge (tgt := 240) hx hb (dkS dF_162 DX12_count (i := 106) rfl rfl rfl) (by decide) (fun h => absurd h (by decide)) (fun _ => ?_)
      refine lv_iload_n hx hb (dkP dF_28 DX12_count (i := 107) rfl rfl) rfl (lv_at hl 1 rfl) ?_
      refine lv_aload_n hx hb (dkP dF_42 DX12_count (i := 108) rfl rfl) rfl (lv_at hl 2 rfl) ?_
      refine z_gr C0 hw 0 1 1 rfl fl_X12_20 (dk2 dF_180 DX12_count (i := 109) rfl rfl rfl) ?_
      refine lv_iload_n hx hb (dkP dF_29 DX12_count (i := 110) rfl rfl) rfl (lv_at hl 0 rfl) ?_
      refine zn_I hw (zr_S (As := [.int 14]) (rest := [.ref (ad 1), .int 0]) C0 (c_X12_rowAt l G kc 14  _) cs_X12_rowAt lk_X12_489 (zp_P C0 a00 s00) rfl hl.1 rfl ⟨by decide, by decide⟩ (Nat.le_of_ble_eq_true rfl) (dk2 dF_184 DX12_count (i := 111) rfl rfl rfl) ⟨Nat.le_refl _, Nat.le_refl _⟩) (fun r51 s51 H locs hp hw => ?_)
      subst hp
      refine z_top (y := 414098) (by rfl) ?_
      refine lv_iconst (v := 4) hx hb (dkP dF_7 DX12_count (i := 112) rfl rfl) (by decide) ?_
      refine lv_iadd hx hb (dkP dF_96 DX12_count (i := 113) rfl rfl) ?_
      refine z_top (y := 414102) (by decide) ?_
      refine z_ialdN (n := 414128) C0 hw 1 414102 rfl (by omega) (by decide) (dkP dF_46 DX12_count (i := 114) rfl rfl) ?_
      refine z_top (y := 0) (by rfl) ?_
      refine lv_iadd hx hb (dkP dF_96 DX12_count (i := 115) rfl rfl) ?_
      refine z_top (y := 0) (by decide) ?_
      refine lv_istore_n (lv' := [(2, .int 0), (3, .int 14), (0, .ref (ad 0)), (1, .int (nI 10))]) hx hb (dkP dF_61 DX12_count (i := 116) rfl rfl) rfl hl (by decide) rfl (fun ls hl => ?_)
      refine lv_iinc (v := 15) (lv' := [(3, .int 15), (2, .int 0), (0, .ref (ad 0)), (1, .int (nI 10))]) hx hb (dkI DX12_count (i := 117) rfl rfl rfl rfl) hl (k := 1) rfl (by decide) (by decide) rfl (fun ls hl => ?_)
      refine lv_goto (tgt := 214) hx hb (dkS dF_167 DX12_count (i := 118) rfl rfl rfl) (by decide) ?_
      refine lv_iload_n hx hb (dkP dF_29 DX12_count (i := 104) rfl rfl) rfl (lv_at hl 0 rfl) ?_
      refine lv_bipush (v := 20) hx hb (dks dF_16 DX12_count (i := 105) rfl rfl rfl) (by decide) ?_
      refine lv_icmp_ge (tgt := 240) hx hb (dkS dF_162 DX12_count (i := 106) rfl rfl rfl) (by decide) (fun h => absurd h (by decide)) (fun _ => ?_)
      refine lv_iload_n hx hb (dkP dF_28 DX12_count (i := 107) rfl rfl) rfl (lv_at hl 1 rfl) ?_
      refine lv_aload_n hx hb (dkP dF_42 DX12_count (i := 108) rfl rfl) rfl (lv_at hl 2 rfl) ?_
      refine z_gr C0 hw 0 1 1 rfl fl_X12_20 (dk2 dF_180 DX12_count (i := 109) rfl rfl rfl) ?_
      refine lv_iload_n hx hb (dkP dF_29 DX12_count (i := 110) rfl rfl) rfl (lv_at hl 0 rfl) ?_
      refine zn_I hw (zr_S (As := [.int 15]) (rest := [.ref (ad 1), .int 0]) C0 (c_X12_rowAt l G kc 15  _) cs_X12_rowAt lk_X12_489 (zp_P C0 a00 s00) rfl hl.1 rfl ⟨by decide, by decide⟩ (Nat.le_of_ble_eq_true rfl) (dk2 dF_184 DX12_count (i := 111) rfl rfl rfl) ⟨Nat.le_refl _, Nat.le_refl _⟩) (fun r52 s52 H locs hp hw => ?_)
      subst hp
      refine z_top (y := 414103) (by rfl) ?_
      refine lv_iconst (v := 4) hx hb (dkP dF_7 DX12_count (i := 112) rfl rfl) (by decide) ?_
      refine lv_iadd hx hb (dkP dF_96 DX12_count (i := 113) rfl rfl) ?_
      refine z_top (y := 414107) (by decide) ?_
      refine z_ialdN (n := 414128) C0 hw 1 414107 rfl (by omega) (by decide) (dkP dF_46 DX12_count (i := 114) rfl rfl) ?_
      refine z_top (y := 0) (by rfl) ?_
      refine lv_iadd hx hb (dkP dF_96 DX12_count (i := 115) rfl rfl) ?_
      refine z_top (y := 0) (by decide) ?_
      refine lv_istore_n (lv' := [(2, .int 0), (3, .int 15), (0, .ref (ad 0)), (1, .int (nI 10))]) hx hb (dkP dF_61 DX12_count (i := 116) rfl rfl) rfl hl (by decide) rfl (fun ls hl => ?_)
      refine lv_iinc (v := 16) (lv' := [(3, .int 16), (2, .int 0), (0, .ref (ad 0)), (1, .int (nI 10))]) hx hb (dkI DX12_count (i := 117) rfl rfl rfl rfl) hl (k := 1) rfl (by decide) (by decide) rfl (fun ls hl => ?_)
      refine lv_goto (tgt := 214) hx hb (dkS dF_167 DX12_count (i := 118) rfl rfl rfl) (by decide) ?_
      refine lv_iload_n hx hb (dkP dF_29 DX12_count (i := 104) rfl rfl) rfl (lv_at hl 0 rfl) ?_
      refine lv_bipush (v := 20) hx hb (dks dF_16 DX12_count (i := 105) rfl rfl rfl) (by decide) ?_
      refine lv_icmp_ge (tgt := 240) hx hb (dkS dF_162 DX12_count (i := 106) rfl rfl rfl) (by decide) (fun h => absurd h (by decide)) (fun _ => ?_)
      refine lv_iload_n hx hb (dkP dF_28 DX12_count (i := 107) rfl rfl) rfl (lv_at hl 1 rfl) ?_
      refine lv_aload_n hx hb (dkP dF_42 DX12_count (i := 108) rfl rfl) rfl (lv_at hl 2 rfl) ?_
      refine z_gr C0 hw 0 1 1 rfl fl_X12_20 (dk2 dF_180 DX12_count (i := 109) rfl rfl rfl) ?_
      refine lv_iload_n hx hb (dkP dF_29 DX12_count (i := 110) rfl rfl) rfl (lv_at hl 0 rfl) ?_
      refine zn_I hw (zr_S (As := [.int 16]) (rest := [.ref (ad 1), .int 0]) C0 (c_X12_rowAt l G kc 16  _) cs_X12_rowAt lk_X12_489 (zp_P C0 a00 s00) rfl hl.1 rfl ⟨by decide, by decide⟩ (Nat.le_of_ble_eq_true rfl) (dk2 dF_184 DX12_count (i := 111) rfl rfl rfl) ⟨Nat.le_refl _, Nat.le_refl _⟩) (fun r53 s53 H locs hp hw => ?_)
      subst hp
      refine z_top (y := 414108) (by rfl) ?_
      refine lv_iconst (v := 4) hx hb (dkP dF_7 DX12_count (i := 112) rfl rfl) (by decide) ?_
      refine lv_iadd hx hb (dkP dF_96 DX12_count (i := 113) rfl rfl) ?_
      refine z_top (y := 414112) (by decide) ?_
      refine z_ialdN (n := 414128) C0 hw 1 414112 rfl (by omega) (by decide) (dkP dF_46 DX12_count (i := 114) rfl rfl) ?_
      refine z_top (y := 0) (by rfl) ?_
      refine lv_iadd hx hb (dkP dF_96 DX12_count (i := 115) rfl rfl) ?_
      refine z_top (y := 0) (by decide) ?_
      refine lv_istore_n (lv' := [(2, .int 0), (3, .int 16), (0, .ref (ad 0)), (1, .int (nI 10))]) hx hb (dkP dF_61 DX12_count (i := 116) rfl rfl) rfl hl (by decide) rfl (fun ls hl => ?_)
      refine lv_iinc (v := 17) (lv' := [(3, .int 17), (2, .int 0), (0, .ref (ad 0)), (1, .int (nI 10))]) hx hb (dkI DX12_count (i := 117) rfl rfl rfl rfl) hl (k := 1) rfl (by decide) (by decide) rfl (fun ls hl => ?_)
      refine lv_goto (tgt := 214) hx hb (dkS dF_167 DX12_count (i := 118) rfl rfl rfl) (by decide) ?_
      refine lv_iload_n hx hb (dkP dF_29 DX12_count (i := 104) rfl rfl) rfl (lv_at hl 0 rfl) ?_
      refine lv_bipush (v := 20) hx hb (dks dF_16 DX12_count (i := 105) rfl rfl rfl) (by decide) ?_
      refine lv_icmp_ge (tgt := 240) hx hb (dkS dF_162 DX12_count (i := 106) rfl rfl rfl) (by decide) (fun h => absurd h (by decide)) (fun _ => ?_)
      refine lv_iload_n hx hb (dkP dF_28 DX12_count (i := 107) rfl rfl) rfl (lv_at hl 1 rfl) ?_
      refine lv_aload_n hx hb (dkP dF_42 DX12_count (i := 108) rfl rfl) rfl (lv_at hl 2 rfl) ?_
      refine z_gr C0 hw 0 1 1 rfl fl_X12_20 (dk2 dF_180 DX12_count (i := 109) rfl rfl rfl) ?_
      refine lv_iload_n hx hb (dkP dF_29 DX12_count (i := 110) rfl rfl) rfl (lv_at hl 0 rfl) ?_
      refine zn_I hw (zr_S (As := [.int 17]) (rest := [.ref (ad 1), .int 0]) C0 (c_X12_rowAt l G kc 17  _) cs_X12_rowAt lk_X12_489 (zp_P C0 a00 s00) rfl hl.1 rfl ⟨by decide, by decide⟩ (Nat.le_of_ble_eq_true rfl) (dk2 dF_184 DX12_count (i := 111) rfl rfl rfl) ⟨Nat.le_refl _, Nat.le_refl _⟩) (fun r54 s54 H locs hp hw => ?_)
      subst hp
      refine z_top (y := 414113) (by rfl) ?_
      refine lv_iconst (v := 4) hx hb (dkP dF_7 DX12_count (i := 112) rfl rfl) (by decide) ?_
      refine lv_iadd hx hb (dkP dF_96 DX12_count (i := 113) rfl rfl) ?_
      refine z_top (y := 414117) (by decide) ?_
      refine z_ialdN (n := 414128) C0 hw 1 414117 rfl (by omega) (by decide) (dkP dF_46 DX12_count (i := 114) rfl rfl) ?_
      refine z_top (y := 0) (by rfl) ?_
      refine lv_iadd hx hb (dkP dF_96 DX12_count (i := 115) rfl rfl) ?_
      refine z_top (y := 0) (by decide) ?_
      refine lv_istore_n (lv' := [(2, .int 0), (3, .int 17), (0, .ref (ad 0)), (1, .int (nI 10))]) hx hb (dkP dF_61 DX12_count (i := 116) rfl rfl) rfl hl (by decide) rfl (fun ls hl => ?_)
      refine lv_iinc (v := 18) (lv' := [(3, .int 18), (2, .int 0), (0, .ref (ad 0)), (1, .int (nI 10))]) hx hb (dkI DX12_count (i := 117) rfl rfl rfl rfl) hl (k := 1) rfl (by decide) (by decide) rfl (fun ls hl => ?_)
      refine lv_goto (tgt := 214) hx hb (dkS dF_167 DX12_count (i := 118) rfl rfl rfl) (by decide) ?_
      refine lv_iload_n hx hb (dkP dF_29 DX12_count (i := 104) rfl rfl) rfl (lv_at hl 0 rfl) ?_
      refine lv_bipush (v := 20) hx hb (dks dF_16 DX12_count (i := 105) rfl rfl rfl) (by decide) ?_
      refine lv_icmp_ge (tgt := 240) hx hb (dkS dF_162 DX12_count (i := 106) rfl rfl rfl) (by decide) (fun h => absurd h (by decide)) (fun _ => ?_)
      refine lv_iload_n hx hb (dkP dF_28 DX12_count (i := 107) rfl rfl) rfl (lv_at hl 1 rfl) ?_
      refine lv_aload_n hx hb (dkP dF_42 DX12_count (i := 108) rfl rfl) rfl (lv_at hl 2 rfl) ?_
      refine z_gr C0 hw 0 1 1 rfl fl_X12_20 (dk2 dF_180 DX12_count (i := 109) rfl rfl rfl) ?_
      refine lv_iload_n hx hb (dkP dF_29 DX12_count (i := 110) rfl rfl) rfl (lv_at hl 0 rfl) ?_
      refine zn_I hw (zr_S (As := [.int 18]) (rest := [.ref (ad 1), .int 0]) C0 (c_X12_rowAt l G kc 18  _) cs_X12_rowAt lk_X12_489 (zp_P C0 a00 s00) rfl hl.1 rfl ⟨by decide, by decide⟩ (Nat.le_of_ble_eq_true rfl) (dk2 dF_184 DX12_count (i := 111) rfl rfl rfl) ⟨Nat.le_refl _, Nat.le_refl _⟩) (fun r55 s55 H locs hp hw => ?_)
      subst hp
      refine z_top (y := 414118) (by rfl) ?_
      refine lv_iconst (v := 4) hx hb (dkP dF_7 DX12_count (i := 112) rfl rfl) (by decide) ?_
      refine lv_iadd hx hb (dkP dF_96 DX12_count (i := 113) rfl rfl) ?_
      refine z_top (y := 414122) (by decide) ?_
      refine z_ialdN (n := 414128) C0 hw 1 414122 rfl (by omega) (by decide) (dkP dF_46 DX12_count (i := 114) rfl rfl) ?_
      refine z_top (y := 0) (by rfl) ?_
      refine lv_iadd hx hb (dkP dF_96 DX12_count (i := 115) rfl rfl) ?_
      refine z_top (y := 0) (by decide) ?_
      refine lv_istore_n (lv' := [(2, .int 0), (3, .int 18), (0, .ref (ad 0)), (1, .int (nI 10))]) hx hb (dkP dF_61 DX12_count (i := 116) rfl rfl) rfl hl (by decide) rfl (fun ls hl => ?_)
      refine lv_iinc (v := 19) (lv' := [(3, .int 19), (2, .int 0), (0, .ref (ad 0)), (1, .int (nI 10))]) hx hb (dkI DX12_count (i := 117) rfl rfl rfl rfl) hl (k := 1) rfl (by decide) (by decide) rfl (fun ls hl => ?_)
      refine lv_goto (tgt := 214) hx hb (dkS dF_167 DX12_count (i := 118) rfl rfl rfl) (by decide) ?_
      refine lv_iload_n hx hb (dkP dF_29 DX12_count (i := 104) rfl rfl) rfl (lv_at hl 0 rfl) ?_
      refine lv_bipush (v := 20) hx hb (dks dF_16 DX12_count (i := 105) rfl rfl rfl) (by decide) ?_
      refine lv_icmp_ge (tgt := 240) hx hb (dkS dF_162 DX12_count (i := 106) rfl rfl rfl) (by decide) (fun h => absurd h (by decide)) (fun _ => ?_)
      refine lv_iload_n hx hb (dkP dF_28 DX12_count (i := 107) rfl rfl) rfl (lv_at hl 1 rfl) ?_
      refine lv_aload_n hx hb (dkP dF_42 DX12_count (i := 108) rfl rfl) rfl (lv_at hl 2 rfl) ?_
      refine z_gr C0 hw 0 1 1 rfl fl_X12_20 (dk2 dF_180 DX12_count (i := 109) rfl rfl rfl) ?_
      refine lv_iload_n hx hb (dkP dF_29 DX12_count (i := 110) rfl rfl) rfl (lv_at hl 0 rfl) ?_
      refine zn_I hw (zr_S (As := [.int 19]) (rest := [.ref (ad 1), .int 0]) C0 (c_X12_rowAt l G kc 19  _) cs_X12_rowAt lk_X12_489 (zp_P C0 a00 s00) rfl hl.1 rfl ⟨by decide, by decide⟩ (Nat.le_of_ble_eq_true rfl) (dk2 dF_184 DX12_count (i := 111) rfl rfl rfl) ⟨Nat.le_refl _, Nat.le_refl _⟩) (fun r56 s56 H locs hp hw => ?_)
      subst hp
      refine z_top (y := 414123) (by rfl) ?_
      refine lv_iconst (v := 4) hx hb (dkP dF_7 DX12_count (i := 112) rfl rfl) (by decide) ?_
      refine lv_iadd hx hb (dkP dF_96 DX12_count (i := 113) rfl rfl) ?_
      refine z_top (y := 414127) (by decide) ?_
      refine z_ialdN (n := 414128) C0 hw 1 414127 rfl (by omega) (by decide) (dkP dF_46 DX12_count (i := 114) rfl rfl) ?_
      refine z_top (y := 0) (by rfl) ?_
      refine lv_iadd hx hb (dkP dF_96 DX12_count (i := 115) rfl rfl) ?_
      refine z_top (y := 0) (by decide) ?_
      refine lv_istore_n (lv' := [(2, .int 0), (3, .int 19), (0, .ref (ad 0)), (1, .int (nI 10))]) hx hb (dkP dF_61 DX12_count (i := 116) rfl rfl) rfl hl (by decide) rfl (fun ls hl => ?_)
      refine lv_iinc (v := 20) (lv' := [(3, .int 20), (2, .int 0), (0, .ref (ad 0)), (1, .int (nI 10))]) hx hb (dkI DX12_count (i := 117) rfl rfl rfl rfl) hl (k := 1) rfl (by decide) (by decide) rfl (fun ls hl => ?_)
      refine lv_goto (tgt := 214) hx hb (dkS dF_167 DX12_count (i := 118) rfl rfl rfl) (by decide) ?_
      refine lv_iload_n hx hb (dkP dF_29 DX12_count (i := 104) rfl rfl) rfl (lv_at hl 0 rfl) ?_
      refine lv_bipush (v := 20) hx hb (dks dF_16 DX12_count (i := 105) rfl rfl rfl) (by decide) ?_
      refine lv_icmp_ge (tgt := 240) hx hb (dkS dF_162 DX12_count (i := 106) rfl rfl rfl) (by decide) (fun _ => ?_) (fun h => absurd h (by decide))
      refine lv_iload_n hx hb (dkP dF_28 DX12_count (i := 119) rfl rfl) rfl (lv_at hl 1 rfl) ?_
      exact z_iret C0 hr hlk hw (by first | rfl | ((try simp (disch := omega) only [tnI, tn32 1 (by decide), tnj 1 (by decide), tl32 0 (by decide), tl64 0 (by decide), tl32 1 (by decide), tl64 1 (by decide), tl32 2 (by decide), tl64 2 (by decide), tl32 4 (by decide), tl64 4 (by decide), tl32 8 (by decide), tl64 8 (by decide), tl32 9 (by decide), tl64 9 (by decide), tl32 10 (by decide), tl64 10 (by decide), tl32 20 (by decide), tl64 20 (by decide), tl32 29 (by decide), tl64 29 (by decide), tl32 30 (by decide), tl64 30 (by decide), tl32 49 (by decide), tl64 49 (by decide), tl32 50 (by decide), tl64 50 (by decide), tl32 69 (by decide), tl64 69 (by decide), tl32 70 (by decide), tl64 70 (by decide), tl32 89 (by decide), tl64 89 (by decide), tl32 90 (by decide), tl64 90 (by decide), tl32 109 (by decide), tl64 109 (by decide), tl32 110 (by decide), tl64 110 (by decide), tl32 129 (by decide), tl64 129 (by decide), tl32 130 (by decide), tl64 130 (by decide), tl32 149 (by decide), tl64 149 (by decide), tl32 150 (by decide), tl64 150 (by decide), tl32 414032 (by decide), tl64 414032 (by decide), tl32 414037 (by decide), tl64 414037 (by decide), tl32 414042 (by decide), tl64 414042 (by decide), tl32 414047 (by decide), tl64 414047 (by decide), tl32 414052 (by decide), tl64 414052 (by decide), tl32 414057 (by decide), tl64 414057 (by decide), tl32 414062 (by decide), tl64 414062 (by decide), tl32 414067 (by decide), tl64 414067 (by decide), tl32 414072 (by decide), tl64 414072 (by decide), tl32 414077 (by decide), tl64 414077 (by decide), tl32 414082 (by decide), tl64 414082 (by decide), tl32 414087 (by decide), tl64 414087 (by decide), tl32 414092 (by decide), tl64 414092 (by decide), tl32 414097 (by decide), tl64 414097 (by decide), tl32 414102 (by decide), tl64 414102 (by decide), tl32 414107 (by decide), tl64 414107 (by decide), tl32 414112 (by decide), tl64 414112 (by decide), tl32 414117 (by decide), tl64 414117 (by decide), tl32 414122 (by decide), tl64 414122 (by decide), tl32 414127 (by decide), tl64 414127 (by decide)]); (repeat' split) <;> first | rfl | omega | (apply Int32.toInt_inj.mp; simp (disch := omega) only [tnI, tn32 1 (by decide), tnj 1 (by decide), tl32 0 (by decide), tl64 0 (by decide), tl32 1 (by decide), tl64 1 (by decide), tl32 2 (by decide), tl64 2 (by decide), tl32 4 (by decide), tl64 4 (by decide), tl32 8 (by decide), tl64 8 (by decide), tl32 9 (by decide), tl64 9 (by decide), tl32 10 (by decide), tl64 10 (by decide), tl32 20 (by decide), tl64 20 (by decide), tl32 29 (by decide), tl64 29 (by decide), tl32 30 (by decide), tl64 30 (by decide), tl32 49 (by decide), tl64 49 (by decide), tl32 50 (by decide), tl64 50 (by decide), tl32 69 (by decide), tl64 69 (by decide), tl32 70 (by decide), tl64 70 (by decide), tl32 89 (by decide), tl64 89 (by decide), tl32 90 (by decide), tl64 90 (by decide), tl32 109 (by decide), tl64 109 (by decide), tl32 110 (by decide), tl64 110 (by decide), tl32 129 (by decide), tl64 129 (by decide), tl32 130 (by decide), tl64 130 (by decide), tl32 149 (by decide), tl64 149 (by decide), tl32 150 (by decide), tl64 150 (by decide), tl32 414032 (by decide), tl64 414032 (by decide), tl32 414037 (by decide), tl64 414037 (by decide), tl32 414042 (by decide), tl64 414042 (by decide), tl32 414047 (by decide), tl64 414047 (by decide), tl32 414052 (by decide), tl64 414052 (by decide), tl32 414057 (by decide), tl64 414057 (by decide), tl32 414062 (by decide), tl64 414062 (by decide), tl32 414067 (by decide), tl64 414067 (by decide), tl32 414072 (by decide), tl64 414072 (by decide), tl32 414077 (by decide), tl64 414077 (by decide), tl32 414082 (by decide), tl64 414082 (by decide), tl32 414087 (by decide), tl64 414087 (by decide), tl32 414092 (by decide), tl64 414092 (by decide), tl32 414097 (by decide), tl64 414097 (by decide), tl32 414102 (by decide), tl64 414102 (by decide), tl32 414107 (by decide), tl64 414107 (by decide), tl32 414112 (by decide), tl64 414112 (by decide), tl32 414117 (by decide), tl64 414117 (by decide), tl32 414122 (by decide), tl64 414122 (by decide), tl32 414127 (by decide), tl64 414127 (by decide)]; omega))) (dkP dF_172 DX12_count (i := 120) rfl rfl)
    | j + 11, hj => exact absurd hj (by omega)
  · refine lv_tableOut (tgt := 242) hx hb (dX12_count_3) (by omega) (by decide) ?_
    refine lv_iconst (v := (-1)) hx hb (dkP dF_2 DX12_count (i := 121) rfl rfl) (by decide) ?_
    exact z_iret C0 hr hlk hw (by first | rfl | ((try simp only [lg_cmp_lt, lg_cmp_le, lg_cmp_gt, lg_cmp_ge, lg_cmp_eq] at hsw1); (try simp (disch := omega) only [ta_lt, ta_le, ta_eq, tb_lt, tb_le, tb_eq, tw, tnI, tn32 1 (by decide), tnj 1 (by decide), tl32 0 (by decide), tl64 0 (by decide), tl32 1 (by decide), tl64 1 (by decide), tl32 2 (by decide), tl64 2 (by decide), tl32 4 (by decide), tl64 4 (by decide), tl32 8 (by decide), tl64 8 (by decide), tl32 9 (by decide), tl64 9 (by decide), tl32 10 (by decide), tl64 10 (by decide), tl32 20 (by decide), tl64 20 (by decide), tl32 29 (by decide), tl64 29 (by decide), tl32 30 (by decide), tl64 30 (by decide), tl32 49 (by decide), tl64 49 (by decide), tl32 50 (by decide), tl64 50 (by decide), tl32 69 (by decide), tl64 69 (by decide), tl32 70 (by decide), tl64 70 (by decide), tl32 89 (by decide), tl64 89 (by decide), tl32 90 (by decide), tl64 90 (by decide), tl32 109 (by decide), tl64 109 (by decide), tl32 110 (by decide), tl64 110 (by decide), tl32 129 (by decide), tl64 129 (by decide), tl32 130 (by decide), tl64 130 (by decide), tl32 149 (by decide), tl64 149 (by decide), tl32 150 (by decide), tl64 150 (by decide), tl32 414032 (by decide), tl64 414032 (by decide), tl32 414037 (by decide), tl64 414037 (by decide), tl32 414042 (by decide), tl64 414042 (by decide), tl32 414047 (by decide), tl64 414047 (by decide), tl32 414052 (by decide), tl64 414052 (by decide), tl32 414057 (by decide), tl64 414057 (by decide), tl32 414062 (by decide), tl64 414062 (by decide), tl32 414067 (by decide), tl64 414067 (by decide), tl32 414072 (by decide), tl64 414072 (by decide), tl32 414077 (by decide), tl64 414077 (by decide), tl32 414082 (by decide), tl64 414082 (by decide), tl32 414087 (by decide), tl64 414087 (by decide), tl32 414092 (by decide), tl64 414092 (by decide), tl32 414097 (by decide), tl64 414097 (by decide), tl32 414102 (by decide), tl64 414102 (by decide), tl32 414107 (by decide), tl64 414107 (by decide), tl32 414112 (by decide), tl64 414112 (by decide), tl32 414117 (by decide), tl64 414117 (by decide), tl32 414122 (by decide), tl64 414122 (by decide), tl32 414127 (by decide), tl64 414127 (by decide)] at hsw1); (try simp (disch := omega) only [tnI, tn32 1 (by decide), tnj 1 (by decide), tl32 0 (by decide), tl64 0 (by decide), tl32 1 (by decide), tl64 1 (by decide), tl32 2 (by decide), tl64 2 (by decide), tl32 4 (by decide), tl64 4 (by decide), tl32 8 (by decide), tl64 8 (by decide), tl32 9 (by decide), tl64 9 (by decide), tl32 10 (by decide), tl64 10 (by decide), tl32 20 (by decide), tl64 20 (by decide), tl32 29 (by decide), tl64 29 (by decide), tl32 30 (by decide), tl64 30 (by decide), tl32 49 (by decide), tl64 49 (by decide), tl32 50 (by decide), tl64 50 (by decide), tl32 69 (by decide), tl64 69 (by decide), tl32 70 (by decide), tl64 70 (by decide), tl32 89 (by decide), tl64 89 (by decide), tl32 90 (by decide), tl64 90 (by decide), tl32 109 (by decide), tl64 109 (by decide), tl32 110 (by decide), tl64 110 (by decide), tl32 129 (by decide), tl64 129 (by decide), tl32 130 (by decide), tl64 130 (by decide), tl32 149 (by decide), tl64 149 (by decide), tl32 150 (by decide), tl64 150 (by decide), tl32 414032 (by decide), tl64 414032 (by decide), tl32 414037 (by decide), tl64 414037 (by decide), tl32 414042 (by decide), tl64 414042 (by decide), tl32 414047 (by decide), tl64 414047 (by decide), tl32 414052 (by decide), tl64 414052 (by decide), tl32 414057 (by decide), tl64 414057 (by decide), tl32 414062 (by decide), tl64 414062 (by decide), tl32 414067 (by decide), tl64 414067 (by decide), tl32 414072 (by decide), tl64 414072 (by decide), tl32 414077 (by decide), tl64 414077 (by decide), tl32 414082 (by decide), tl64 414082 (by decide), tl32 414087 (by decide), tl64 414087 (by decide), tl32 414092 (by decide), tl64 414092 (by decide), tl32 414097 (by decide), tl64 414097 (by decide), tl32 414102 (by decide), tl64 414102 (by decide), tl32 414107 (by decide), tl64 414107 (by decide), tl32 414112 (by decide), tl64 414112 (by decide), tl32 414117 (by decide), tl64 414117 (by decide), tl32 414122 (by decide), tl64 414122 (by decide), tl32 414127 (by decide), tl64 414127 (by decide)]); (repeat' split) <;> first | rfl | omega | (apply Int32.toInt_inj.mp; simp (disch := omega) only [tnI, tn32 1 (by decide), tnj 1 (by decide), tl32 0 (by decide), tl64 0 (by decide), tl32 1 (by decide), tl64 1 (by decide), tl32 2 (by decide), tl64 2 (by decide), tl32 4 (by decide), tl64 4 (by decide), tl32 8 (by decide), tl64 8 (by decide), tl32 9 (by decide), tl64 9 (by decide), tl32 10 (by decide), tl64 10 (by decide), tl32 20 (by decide), tl64 20 (by decide), tl32 29 (by decide), tl64 29 (by decide), tl32 30 (by decide), tl64 30 (by decide), tl32 49 (by decide), tl64 49 (by decide), tl32 50 (by decide), tl64 50 (by decide), tl32 69 (by decide), tl64 69 (by decide), tl32 70 (by decide), tl64 70 (by decide), tl32 89 (by decide), tl64 89 (by decide), tl32 90 (by decide), tl64 90 (by decide), tl32 109 (by decide), tl64 109 (by decide), tl32 110 (by decide), tl64 110 (by decide), tl32 129 (by decide), tl64 129 (by decide), tl32 130 (by decide), tl64 130 (by decide), tl32 149 (by decide), tl64 149 (by decide), tl32 150 (by decide), tl64 150 (by decide), tl32 414032 (by decide), tl64 414032 (by decide), tl32 414037 (by decide), tl64 414037 (by decide), tl32 414042 (by decide), tl64 414042 (by decide), tl32 414047 (by decide), tl64 414047 (by decide), tl32 414052 (by decide), tl64 414052 (by decide), tl32 414057 (by decide), tl64 414057 (by decide), tl32 414062 (by decide), tl64 414062 (by decide), tl32 414067 (by decide), tl64 414067 (by decide), tl32 414072 (by decide), tl64 414072 (by decide), tl32 414077 (by decide), tl64 414077 (by decide), tl32 414082 (by decide), tl64 414082 (by decide), tl32 414087 (by decide), tl64 414087 (by decide), tl32 414092 (by decide), tl64 414092 (by decide), tl32 414097 (by decide), tl64 414097 (by decide), tl32 414102 (by decide), tl64 414102 (by decide), tl32 414107 (by decide), tl64 414107 (by decide), tl32 414112 (by decide), tl64 414112 (by decide), tl32 414117 (by decide), tl64 414117 (by decide), tl32 414122 (by decide), tl64 414122 (by decide), tl32 414127 (by decide), tl64 414127 (by decide)]; omega))) (dkP dF_172 DX12_count (i := 122) rfl rfl)
