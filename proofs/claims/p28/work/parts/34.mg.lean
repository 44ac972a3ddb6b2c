theorem rngP {x : Int32} {l h : Nat} (hh : h < 2147483648) (hx : (l : Int) ≤ x.toInt ∧ x.toInt ≤ (h : Int)) : ∃ n, l ≤ n ∧ n ≤ h ∧ x = nI n := by
  obtain ⟨n, h1, h2⟩ := to_nat (x := x) (n := h + 1) ⟨by omega, by omega⟩
  refine ⟨n, ?_, by omega, h2⟩
  have h5 := hx.1
  rw [h2, tnI n (by omega)] at h5
  omega
theorem nI_ne {n : Nat} (h1 : 1 ≤ n) (h2 : n < 2147483648) : ¬ nI n = 0 := by
  intro e
  have h := congrArg Int32.toInt e
  rw [tnI n h2, tl32 0 (by decide)] at h
  omega
theorem nI_div4 : ∀ {q : Nat}, q < 20 → nI q / 4 = nI (q / 4) := by decide +kernel
theorem tadd64 (x y : Int32) : (x.toInt64 + y.toInt64).toInt = x.toInt + y.toInt := by
  have h1 := i32b x
  have h2 := i32b y
  rw [Int64.toInt_add, tw, tw, Int.bmod_eq_of_le] <;> omega

set_option maxRecDepth 100000 in
set_option maxHeartbeats 4000000 in
theorem c_J9_floorDiv_7cf53 (l : Launch) (G : va_G) (kc : KC)  (x : Int32) (y : Int32) (hy : ¬ y = 0) : MI l G kc yJ9_floorDiv_7cf53 cJ9_floorDiv_7cf53 3 (some .int) 0 0 [.int x, .int y] [] a00 s00 (fun r _ => True) := by
  intro sz
  refine z_body (y := yJ9_floorDiv_7cf53) (n := 3) (av := [.int x, .int y]) (Qc := fun A => va_Qi (fun r _ => True) (PoC G kc [] a00 A) A) (by decide +kernel) (Nat.le_of_ble_eq_true rfl) (fun pr e s m below meth c A C0 hr hlk hnm hw hRo ls hl => ?_) sz
  have hx := C0.1
  have hb := C0.2.1
  have hown := C0.2.2.2.1
  have hts := C0.2.2.2.2.1
  have hl : lv_has ls 3 [(0, .int x), (1, .int y)] := hl
  refine lv_iload_n hx hb (dkP dF_26 DJ9_floorDiv_7cf53 (i := 0) rfl rfl) rfl (lv_at hl 0 rfl) ?_
  refine lv_iload_n hx hb (dkP dF_27 DJ9_floorDiv_7cf53 (i := 1) rfl rfl) rfl (lv_at hl 1 rfl) ?_
  refine lv_idiv hx hb (dkP dF_108 DJ9_floorDiv_7cf53 (i := 2) rfl rfl) hy ?_
  refine lv_topi (fun v1 ev1 => ?_)
  refine lv_istore_n (lv' := [(2, .int v1), (0, .int x), (1, .int y)]) hx hb (dkP dF_61 DJ9_floorDiv_7cf53 (i := 3) rfl rfl) rfl hl (by decide) rfl (fun ls hl => ?_)
  refine lv_iload_n hx hb (dkP dF_26 DJ9_floorDiv_7cf53 (i := 4) rfl rfl) rfl (lv_at hl 1 rfl) ?_
  refine lv_iload_n hx hb (dkP dF_27 DJ9_floorDiv_7cf53 (i := 5) rfl rfl) rfl (lv_at hl 2 rfl) ?_
  refine lv_ixor hx hb (dkP dF_130 DJ9_floorDiv_7cf53 (i := 6) rfl rfl) ?_
  refine lv_if_ge (tgt := 21) hx hb (dkS dF_156 DJ9_floorDiv_7cf53 (i := 7) rfl rfl rfl) (by decide) (fun c2 => ?_) (fun c2 => ?_)
  · skip
    refine lv_iload_n hx hb (dkP dF_28 DJ9_floorDiv_7cf53 (i := 17) rfl rfl) rfl (lv_at hl 0 rfl) ?_
    exact z_iret C0 hr hlk hw trivial (dkP dF_172 DJ9_floorDiv_7cf53 (i := 18) rfl rfl)
  · skip
    refine lv_iload_n hx hb (dkP dF_28 DJ9_floorDiv_7cf53 (i := 8) rfl rfl) rfl (lv_at hl 0 rfl) ?_
    refine lv_iload_n hx hb (dkP dF_27 DJ9_floorDiv_7cf53 (i := 9) rfl rfl) rfl (lv_at hl 2 rfl) ?_
    refine lv_imul hx hb (dkP dF_104 DJ9_floorDiv_7cf53 (i := 10) rfl rfl) ?_
    refine lv_iload_n hx hb (dkP dF_26 DJ9_floorDiv_7cf53 (i := 11) rfl rfl) rfl (lv_at hl 1 rfl) ?_
    refine lv_icmp_eq (tgt := 21) hx hb (dkS dF_159 DJ9_floorDiv_7cf53 (i := 12) rfl rfl rfl) (by decide) (fun c3 => ?_) (fun c3 => ?_)
    · skip
      refine lv_iload_n hx hb (dkP dF_28 DJ9_floorDiv_7cf53 (i := 17) rfl rfl) rfl (lv_at hl 0 rfl) ?_
      exact z_iret C0 hr hlk hw trivial (dkP dF_172 DJ9_floorDiv_7cf53 (i := 18) rfl rfl)
    · skip
      refine lv_iload_n hx hb (dkP dF_28 DJ9_floorDiv_7cf53 (i := 13) rfl rfl) rfl (lv_at hl 0 rfl) ?_
      refine lv_iconst (v := 1) hx hb (dkP dF_4 DJ9_floorDiv_7cf53 (i := 14) rfl rfl) (by decide) ?_
      refine lv_isub hx hb (dkP dF_100 DJ9_floorDiv_7cf53 (i := 15) rfl rfl) ?_
      exact z_iret C0 hr hlk hw trivial (dkP dF_172 DJ9_floorDiv_7cf53 (i := 16) rfl rfl)
set_option maxRecDepth 100000 in
set_option maxHeartbeats 4000000 in
theorem c_J9_floorMod_7cf53 (l : Launch) (G : va_G) (kc : KC)  (x : Int32) (y : Int32) (hy : ¬ y = 0) : MI l G kc yJ9_floorMod_7cf53 cJ9_floorMod_7cf53 3 (some .int) 0 0 [.int x, .int y] [] a00 s00 (fun r _ => True) := by
  intro sz
  refine z_body (y := yJ9_floorMod_7cf53) (n := 3) (av := [.int x, .int y]) (Qc := fun A => va_Qi (fun r _ => True) (PoC G kc [] a00 A) A) (by decide +kernel) (Nat.le_of_ble_eq_true rfl) (fun pr e s m below meth c A C0 hr hlk hnm hw hRo ls hl => ?_) sz
  have hx := C0.1
  have hb := C0.2.1
  have hown := C0.2.2.2.1
  have hts := C0.2.2.2.2.1
  have hl : lv_has ls 3 [(0, .int x), (1, .int y)] := hl
  refine lv_iload_n hx hb (dkP dF_26 DJ9_floorMod_7cf53 (i := 0) rfl rfl) rfl (lv_at hl 0 rfl) ?_
  refine lv_iload_n hx hb (dkP dF_27 DJ9_floorMod_7cf53 (i := 1) rfl rfl) rfl (lv_at hl 1 rfl) ?_
  refine lv_irem hx hb (dkP dF_112 DJ9_floorMod_7cf53 (i := 2) rfl rfl) hy ?_
  refine lv_topi (fun v1 ev1 => ?_)
  refine lv_istore_n (lv' := [(2, .int v1), (0, .int x), (1, .int y)]) hx hb (dkP dF_61 DJ9_floorMod_7cf53 (i := 3) rfl rfl) rfl hl (by decide) rfl (fun ls hl => ?_)
  refine lv_iload_n hx hb (dkP dF_26 DJ9_floorMod_7cf53 (i := 4) rfl rfl) rfl (lv_at hl 1 rfl) ?_
  refine lv_iload_n hx hb (dkP dF_27 DJ9_floorMod_7cf53 (i := 5) rfl rfl) rfl (lv_at hl 2 rfl) ?_
  refine lv_ixor hx hb (dkP dF_130 DJ9_floorMod_7cf53 (i := 6) rfl rfl) ?_
  refine lv_if_ge (tgt := 18) hx hb (dkS dF_156 DJ9_floorMod_7cf53 (i := 7) rfl rfl rfl) (by decide) (fun c2 => ?_) (fun c2 => ?_)
  · skip
    refine lv_iload_n hx hb (dkP dF_28 DJ9_floorMod_7cf53 (i := 14) rfl rfl) rfl (lv_at hl 0 rfl) ?_
    exact z_iret C0 hr hlk hw trivial (dkP dF_172 DJ9_floorMod_7cf53 (i := 15) rfl rfl)
  · skip
    refine lv_iload_n hx hb (dkP dF_28 DJ9_floorMod_7cf53 (i := 8) rfl rfl) rfl (lv_at hl 0 rfl) ?_
    refine lv_if_eq (tgt := 18) hx hb (dkS dF_153 DJ9_floorMod_7cf53 (i := 9) rfl rfl rfl) (by decide) (fun c3 => ?_) (fun c3 => ?_)
    · skip
      refine lv_iload_n hx hb (dkP dF_28 DJ9_floorMod_7cf53 (i := 14) rfl rfl) rfl (lv_at hl 0 rfl) ?_
      exact z_iret C0 hr hlk hw trivial (dkP dF_172 DJ9_floorMod_7cf53 (i := 15) rfl rfl)
    · skip
      refine lv_iload_n hx hb (dkP dF_28 DJ9_floorMod_7cf53 (i := 10) rfl rfl) rfl (lv_at hl 0 rfl) ?_
      refine lv_iload_n hx hb (dkP dF_27 DJ9_floorMod_7cf53 (i := 11) rfl rfl) rfl (lv_at hl 2 rfl) ?_
      refine lv_iadd hx hb (dkP dF_96 DJ9_floorMod_7cf53 (i := 12) rfl rfl) ?_
      exact z_iret C0 hr hlk hw trivial (dkP dF_172 DJ9_floorMod_7cf53 (i := 13) rfl rfl)
set_option maxRecDepth 100000 in
set_option maxHeartbeats 8000000 in
theorem c_X12_isNeed (l : Launch) (G : va_G) (kc : KC) (ad : Nat → Nat) (σ : Sg) (pg : Nat) (ot : Nat) (hp8 : pg < 8) (ho8 : ot < 8) (hT : TM σ) : MI l G kc yX12_isNeed cX12_isNeed 3 (some .boolean) 0 0 [.ref (ad 0), .int (nI pg), .int (nI ot)] shM ad σ (fun r σ1 => ((r = 1 ∧ (σ.1 1 (413544 + 8 * pg + ot) = 1)) ∨ (r = 0 ∧ (¬ σ.1 1 (413544 + 8 * pg + ot) = 1))) ∧ σ1 = σ) := by
  intro sz
  refine z_body (y := yX12_isNeed) (n := 3) (av := [.ref (ad 0), .int (nI pg), .int (nI ot)]) (Qc := fun A => va_Qi (fun r σ1 => ((r = 1 ∧ (σ.1 1 (413544 + 8 * pg + ot) = 1)) ∨ (r = 0 ∧ (¬ σ.1 1 (413544 + 8 * pg + ot) = 1))) ∧ σ1 = σ) (PoC G kc shM ad A) A) (plainFor_of_name (by decide)) (Nat.le_of_ble_eq_true rfl) (fun pr e s m below meth c A C0 hr hlk hnm hw hRo ls hl => ?_) sz
  have hx := C0.1
  have hb := C0.2.1
  have hown := C0.2.2.2.1
  have hts := C0.2.2.2.2.1
  have hl : lv_has ls 3 [(0, .ref (ad 0)), (1, .int (nI pg)), (2, .int (nI ot))] := hl
  refine lv_aload_n hx hb (dkP dF_42 DX12_isNeed (i := 0) rfl rfl) rfl (lv_at hl 0 rfl) ?_
  refine z_gr C0 hw 0 1 1 rfl fl_X12_20 (dk2 dF_180 DX12_isNeed (i := 1) rfl rfl rfl) ?_
  refine lv_ldcw hx hb hown (hts _ kn_X12_454) (dk2 dF_19 DX12_isNeed (i := 2) rfl rfl rfl) ?_
  refine lv_bipush (v := 8) hx hb (dks dF_16 DX12_isNeed (i := 3) rfl rfl rfl) (by decide) ?_
  refine lv_iload_n hx hb (dkP dF_27 DX12_isNeed (i := 4) rfl rfl) rfl (lv_at hl 1 rfl) ?_
  refine lv_imul hx hb (dkP dF_104 DX12_isNeed (i := 5) rfl rfl) ?_
  refine z_top (y := nI (8 * pg)) (by simp only [fa_lit, nI_add, pk_mul]) ?_
  refine lv_iadd hx hb (dkP dF_96 DX12_isNeed (i := 6) rfl rfl) ?_
  refine z_top (y := nI (413544 + (8 * pg))) (by simp only [fa_lit, nI_add, pk_mul]) ?_
  refine lv_iload_n hx hb (dkP dF_28 DX12_isNeed (i := 7) rfl rfl) rfl (lv_at hl 2 rfl) ?_
  refine lv_iadd hx hb (dkP dF_96 DX12_isNeed (i := 8) rfl rfl) ?_
  refine z_top (y := nI ((413544 + (8 * pg)) + ot)) (by simp only [fa_lit, nI_add, pk_mul]) ?_
  refine z_ialdN (n := 414128) C0 hw 1 ((413544 + (8 * pg)) + ot) rfl (by omega) (by decide) (dkP dF_46 DX12_isNeed (i := 9) rfl rfl) ?_
  obtain ⟨v1, ev1⟩ : ∃ y : Int32, σ.1 1 ((413544 + (8 * pg)) + ot) = y := ⟨_, rfl⟩
  refine z_top (y := v1) ev1 ?_
  refine lv_iconst (v := 1) hx hb (dkP dF_4 DX12_isNeed (i := 10) rfl rfl) (by decide) ?_
  refine lv_icmp_ne (tgt := 23) hx hb (dkS dF_160 DX12_isNeed (i := 11) rfl rfl rfl) (by decide) (fun c2 => ?_) (fun c2 => ?_)
  · skip
    refine lv_iconst (v := 0) hx hb (dkP dF_3 DX12_isNeed (i := 14) rfl rfl) (by decide) ?_
    exact z_zret C0 hr hlk (by decide) hw (⟨(Or.inr ⟨rfl, (fun z => c2 (ev1.symm.trans z))⟩), rfl⟩) (dkP dF_172 DX12_isNeed (i := 15) rfl rfl)
  · skip
    refine lv_iconst (v := 1) hx hb (dkP dF_4 DX12_isNeed (i := 12) rfl rfl) (by decide) ?_
    refine lv_goto (tgt := 24) hx hb (dkS dF_167 DX12_isNeed (i := 13) rfl rfl rfl) (by decide) ?_
    exact z_zret C0 hr hlk (by decide) hw (⟨(Or.inl ⟨rfl, (ev1.trans (by first | exact c2 | exact Decidable.not_not.mp c2))⟩), rfl⟩) (dkP dF_172 DX12_isNeed (i := 15) rfl rfl)
set_option maxRecDepth 100000 in
set_option maxHeartbeats 8000000 in
theorem c_X12_isOver (l : Launch) (G : va_G) (kc : KC) (ad : Nat → Nat) (σ : Sg) (pg : Nat) (hp8 : pg < 8) (hT : TM σ) : MI l G kc yX12_isOver cX12_isOver 2 (some .boolean) 2 41 [.ref (ad 0), .int (nI pg)] shM ad σ (fun r σ1 => ((r = 1 ∧ (True)) ∨ (r = 0 ∧ (True))) ∧ σ1 = σ) := by
  intro sz
  refine z_body (y := yX12_isOver) (n := 2) (av := [.ref (ad 0), .int (nI pg)]) (Qc := fun A => va_Qi (fun r σ1 => ((r = 1 ∧ (True)) ∨ (r = 0 ∧ (True))) ∧ σ1 = σ) (PoC G kc shM ad A) A) (plainFor_of_name (by decide)) (Nat.le_of_ble_eq_true rfl) (fun pr e s m below meth c A C0 hr hlk hnm hw hRo ls hl => ?_) sz
  have hx := C0.1
  have hb := C0.2.1
  have hown := C0.2.2.2.1
  have hts := C0.2.2.2.2.1
  have hl : lv_has ls 2 [(0, .ref (ad 0)), (1, .int (nI pg))] := hl
  refine lv_aload_n hx hb (dkP dF_42 DX12_isOver (i := 0) rfl rfl) rfl (lv_at hl 0 rfl) ?_
  refine lv_iload_n hx hb (dkP dF_27 DX12_isOver (i := 1) rfl rfl) rfl (lv_at hl 1 rfl) ?_
  refine zk_I hw (zr_V (As := [.int (nI pg)]) (rest := []) C0 (c_X12_stateOf l G kc ad σ pg (by first | omega | assumption | decide | rfl) _) cv_X12_stateOf lk_X12_275 (zp_V C0 hRo hw 0 rfl rfl rfl) rfl hl.1 rfl ⟨by decide, by decide⟩ (Nat.le_of_ble_eq_true rfl) (dk2 dF_182 DX12_isOver (i := 2) rfl rfl rfl) ⟨Nat.le_refl _, Nat.le_refl _⟩) (fun r1 s1 H locs hp hw => ?_)
  obtain ⟨rfl, hs1⟩ := hp
  (rw [hs1] at hw; clear hs1)
  obtain ⟨v2, ev2⟩ : ∃ y : Int32, σ.1 1 (8 + 20 * pg) = y := ⟨_, rfl⟩
  refine z_top (y := v2) ev2 ?_
  refine lv_iconst (v := 2) hx hb (dkP dF_5 DX12_isOver (i := 3) rfl rfl) (by decide) ?_
  refine lv_icmp_eq (tgt := 18) hx hb (dkS dF_159 DX12_isOver (i := 4) rfl rfl rfl) (by decide) (fun c3 => ?_) (fun c3 => ?_)
  · (try simp (disch := omega) only [ta_lt, ta_le, ta_eq, tnI, tl32 2 (by decide)] at c3)
    refine lv_iconst (v := 1) hx hb (dkP dF_4 DX12_isOver (i := 10) rfl rfl) (by decide) ?_
    refine lv_goto (tgt := 23) hx hb (dkS dF_167 DX12_isOver (i := 11) rfl rfl rfl) (by decide) ?_
    exact z_zret C0 hr hlk (by decide) hw (⟨(Or.inl ⟨rfl, trivial⟩), rfl⟩) (dkP dF_172 DX12_isOver (i := 13) rfl rfl)
  · (try simp (disch := omega) only [ta_lt, ta_le, ta_eq, tnI, tl32 2 (by decide)] at c3)
    refine lv_aload_n hx hb (dkP dF_42 DX12_isOver (i := 5) rfl rfl) rfl (lv_at hl 0 rfl) ?_
    refine lv_iload_n hx hb (dkP dF_27 DX12_isOver (i := 6) rfl rfl) rfl (lv_at hl 1 rfl) ?_
    refine zk_I hw (zr_V (As := [.int (nI pg)]) (rest := []) C0 (c_X12_stateOf l G kc ad σ pg (by first | omega | assumption | decide | rfl) _) cv_X12_stateOf lk_X12_275 (zp_V C0 hRo hw 0 rfl rfl rfl) rfl hl.1 rfl ⟨by decide, by decide⟩ (Nat.le_of_ble_eq_true rfl) (dk2 dF_182 DX12_isOver (i := 7) rfl rfl rfl) ⟨Nat.le_refl _, Nat.le_refl _⟩) (fun r4 s4 H locs hp hw => ?_)
    obtain ⟨rfl, hs4⟩ := hp
    (rw [hs4] at hw; clear hs4)
    refine z_top (y := v2) ev2 ?_
    refine lv_iconst (v := 4) hx hb (dkP dF_7 DX12_isOver (i := 8) rfl rfl) (by decide) ?_
    refine lv_icmp_ne (tgt := 22) hx hb (dkS dF_160 DX12_isOver (i := 9) rfl rfl rfl) (by decide) (fun c5 => ?_) (fun c5 => ?_)
    · (try simp (disch := omega) only [ta_lt, ta_le, ta_eq, tnI, tl32 4 (by decide)] at c5)
      refine lv_iconst (v := 0) hx hb (dkP dF_3 DX12_isOver (i := 12) rfl rfl) (by decide) ?_
      exact z_zret C0 hr hlk (by decide) hw (⟨(Or.inr ⟨rfl, trivial⟩), rfl⟩) (dkP dF_172 DX12_isOver (i := 13) rfl rfl)
    · (try simp (disch := omega) only [ta_lt, ta_le, ta_eq, tnI, tl32 4 (by decide)] at c5)
      refine lv_iconst (v := 1) hx hb (dkP dF_4 DX12_isOver (i := 10) rfl rfl) (by decide) ?_
      refine lv_goto (tgt := 23) hx hb (dkS dF_167 DX12_isOver (i := 11) rfl rfl rfl) (by decide) ?_
      exact z_zret C0 hr hlk (by decide) hw (⟨(Or.inl ⟨rfl, trivial⟩), rfl⟩) (dkP dF_172 DX12_isOver (i := 13) rfl rfl)
set_option maxRecDepth 100000 in
set_option maxHeartbeats 8000000 in
theorem c_X12_live (l : Launch) (G : va_G) (kc : KC) (ad : Nat → Nat) (σ : Sg) (program : Int32) (hT : TM σ) : MI l G kc yX12_live cX12_live 3 (some .int) 3 62 [.ref (ad 0), .int program] shM ad σ (fun r σ1 => TM σ1 ∧ fr true [1] [] σ σ1) := by
  intro sz
  refine z_body (y := yX12_live) (n := 3) (av := [.ref (ad 0), .int program]) (Qc := fun A => va_Qi (fun r σ1 => TM σ1 ∧ fr true [1] [] σ σ1) (PoC G kc shM ad A) A) (plainFor_of_name (by decide)) (Nat.le_of_ble_eq_true rfl) (fun pr e s m below meth c A C0 hr hlk hnm hw hRo ls hl => ?_) sz
  have hx := C0.1
  have hb := C0.2.1
  have hown := C0.2.2.2.1
  have hts := C0.2.2.2.2.1
  have hl : lv_has ls 3 [(0, .ref (ad 0)), (1, .int program)] := hl
  refine lv_iload_n hx hb (dkP dF_27 DX12_live (i := 0) rfl rfl) rfl (lv_at hl 1 rfl) ?_
  refine zn_I hw (zr_S (As := [.int program]) (rest := []) C0 (c_X12_isProgram l G kc program  _) cs_X12_isProgram lk_X12_272 (zp_P C0 hRo hw a00 s00) rfl hl.1 rfl ⟨by decide, by decide⟩ (Nat.le_of_ble_eq_true rfl) (dk2 dF_184 DX12_live (i := 1) rfl rfl rfl) ⟨Nat.le_refl _, Nat.le_refl _⟩) (fun r1 s1 H locs hp hw => ?_)
  rcases hp with ⟨rfl, hc1⟩ | ⟨rfl, hc1⟩
  · skip
    (try simp (disch := omega) only [ta_lt, ta_le, ta_eq, tb_lt, tb_le, tb_eq, tw, tnI, tn32 1 (by decide), tnj 1 (by decide), tl32 0 (by decide), tl64 0 (by decide)] at hc1)
    obtain ⟨k_program, hk_program, rfl⟩ := to_nat (x := program) (n := 8) (by (try simp only [lg_cmp_lt, lg_cmp_le, lg_cmp_gt, lg_cmp_ge, lg_cmp_eq] at hc1); (try simp (disch := omega) only [ta_lt, ta_le, ta_eq, tb_lt, tb_le, tb_eq, tw, tnI, tn32 1 (by decide), tnj 1 (by decide), tl32 0 (by decide), tl64 0 (by decide)] at hc1); (try simp (disch := omega) only [ta_lt, ta_le, ta_eq, tb_lt, tb_le, tb_eq, tw, tnI, tn32 1 (by decide), tnj 1 (by decide), tl32 0 (by decide), tl64 0 (by decide)]); omega)
    refine lv_if_eq (tgt := 25) hx hb (dkS dF_153 DX12_live (i := 2) rfl rfl rfl) (by decide) (fun h => absurd h (by decide)) (fun _ => ?_)
    refine lv_aload_n hx hb (dkP dF_42 DX12_live (i := 3) rfl rfl) rfl (lv_at hl 0 rfl) ?_
    refine lv_iload_n hx hb (dkP dF_27 DX12_live (i := 4) rfl rfl) rfl (lv_at hl 1 rfl) ?_
    refine zk_I hw (zr_V (As := [.int (nI k_program)]) (rest := []) C0 (c_X12_stateOf l G kc ad σ k_program (by first | omega | assumption | decide | rfl) _) cv_X12_stateOf lk_X12_275 (zp_V C0 hRo hw 0 rfl rfl rfl) rfl hl.1 rfl ⟨by decide, by decide⟩ (Nat.le_of_ble_eq_true rfl) (dk2 dF_182 DX12_live (i := 5) rfl rfl rfl) ⟨Nat.le_refl _, Nat.le_refl _⟩) (fun r2 s2 H locs hp hw => ?_)
    obtain ⟨rfl, hs2⟩ := hp
    (rw [hs2] at hw; clear hs2)
    obtain ⟨v3, ev3⟩ : ∃ y : Int32, σ.1 1 (8 + 20 * k_program) = y := ⟨_, rfl⟩
    refine z_top (y := v3) ev3 ?_
    refine lv_iconst (v := 1) hx hb (dkP dF_4 DX12_live (i := 6) rfl rfl) (by decide) ?_
    refine lv_icmp_eq (tgt := 28) hx hb (dkS dF_159 DX12_live (i := 7) rfl rfl rfl) (by decide) (fun c4 => ?_) (fun c4 => ?_)
    · (try simp (disch := omega) only [ta_lt, ta_le, ta_eq, tnI, tl32 1 (by decide)] at c4)
      refine lv_aload_n hx hb (dkP dF_42 DX12_live (i := 15) rfl rfl) rfl (lv_at hl 0 rfl) ?_
      refine z_gr C0 hw 0 1 1 rfl fl_X12_20 (dk2 dF_180 DX12_live (i := 16) rfl rfl rfl) ?_
      refine lv_iload_n hx hb (dkP dF_27 DX12_live (i := 17) rfl rfl) rfl (lv_at hl 1 rfl) ?_
      refine zn_I hw (zr_S (As := [.int (nI k_program)]) (rest := [.ref (ad 1)]) C0 (c_X12_of l G kc k_program  _) cs_X12_of lk_X12_139 (zp_P C0 hRo hw a00 s00) rfl hl.1 rfl ⟨by decide, by decide⟩ (Nat.le_of_ble_eq_true rfl) (dk2 dF_184 DX12_live (i := 18) rfl rfl rfl) ⟨Nat.le_refl _, Nat.le_refl _⟩) (fun r5 s5 H locs hp hw => ?_)
      subst hp
      refine lv_iconst (v := 3) hx hb (dkP dF_6 DX12_live (i := 19) rfl rfl) (by decide) ?_
      refine lv_iadd hx hb (dkP dF_96 DX12_live (i := 20) rfl rfl) ?_
      refine z_top (y := nI ((8 + 20 * k_program) + 3)) (by simp only [fa_lit, nI_add, pk_mul]) ?_
      refine z_ialdN (n := 414128) C0 hw 1 ((8 + 20 * k_program) + 3) rfl (by omega) (by decide) (dkP dF_46 DX12_live (i := 21) rfl rfl) ?_
      obtain ⟨v6, ev6⟩ : ∃ y : Int32, σ.1 1 ((8 + 20 * k_program) + 3) = y := ⟨_, rfl⟩
      refine z_top (y := v6) ev6 ?_
      refine lv_if_eq (tgt := 45) hx hb (dkS dF_153 DX12_live (i := 22) rfl rfl rfl) (by decide) (fun c7 => ?_) (fun c7 => ?_)
      · (try simp (disch := omega) only [ta_lt, ta_le, ta_eq, tnI, tl32 0 (by decide)] at c7)
        refine lv_iconst (v := 0) hx hb (dkP dF_3 DX12_live (i := 25) rfl rfl) (by decide) ?_
        refine lv_istore_n (lv' := [(2, .int 0), (0, .ref (ad 0)), (1, .int (nI k_program))]) hx hb (dkP dF_61 DX12_live (i := 26) rfl rfl) rfl hl (by decide) rfl (fun ls hl => ?_)
        have lp8 : ∀ (nq : Nat) (q2_47 : Nat) (H : Heap) (locs : List Loc) (ls : Array Slot), 8 - q2_47 < nq → (q2_47 ≤ 8) → St G kc A s.heap shM ad σ H locs → lv_has ls 3 [(2, .int (nI q2_47)), (0, .ref (ad 0)), (1, .int (nI k_program))] → W pr l e { frames := 3, cells := 0, slots := 0, locals := 62 } s m ([.ref (ad 0), .int (nI k_program)] : List Value).toArray below meth c H locs 0 0 (MQ below (va_Qi (fun r σ1 => TM σ1 ∧ fr true [1] [] σ σ1) (PoC G kc shM ad A) A) ([.ref (ad 0), .int (nI k_program)] : List Value).toArray s 0 0 A) (F0 m 47 ls []) := by
          intro nq
          induction nq with
          | zero => intro q2_47 H locs ls hmu; exact absurd hmu (Nat.not_lt_zero _)
          | succ nq ih8 =>
            intro q2_47 H locs ls hmu hq2_47 hw hl
            refine lv_iload_n hx hb (dkP dF_28 DX12_live (i := 27) rfl rfl) rfl (lv_at hl 0 rfl) ?_
            refine lv_bipush (v := 8) hx hb (dks dF_16 DX12_live (i := 28) rfl rfl rfl) (by decide) ?_
            refine lv_icmp_ge (tgt := 79) hx hb (dkS dF_162 DX12_live (i := 29) rfl rfl rfl) (by decide) (fun c9 => ?_) (fun c9 => ?_)
            · simp (disch := omega) only [ta_lt, ta_le, ta_eq, tnI, tl32 8 (by decide)] at c9
              refine lv_aload_n hx hb (dkP dF_42 DX12_live (i := 43) rfl rfl) rfl (lv_at hl 1 rfl) ?_
              refine z_gr C0 hw 0 1 1 rfl fl_X12_20 (dk2 dF_180 DX12_live (i := 44) rfl rfl rfl) ?_
              refine lv_iload_n hx hb (dkP dF_27 DX12_live (i := 45) rfl rfl) rfl (lv_at hl 2 rfl) ?_
              refine zn_I hw (zr_S (As := [.int (nI k_program)]) (rest := [.ref (ad 1)]) C0 (c_X12_of l G kc k_program  _) cs_X12_of lk_X12_139 (zp_P C0 hRo hw a00 s00) rfl hl.1 rfl ⟨by decide, by decide⟩ (Nat.le_of_ble_eq_true rfl) (dk2 dF_184 DX12_live (i := 46) rfl rfl rfl) ⟨Nat.le_refl _, Nat.le_refl _⟩) (fun r10 s10 H locs hp hw => ?_)
              subst hp
              refine lv_iconst (v := 2) hx hb (dkP dF_5 DX12_live (i := 47) rfl rfl) (by decide) ?_
              refine z_iastN (n := 414128) C0 hw 1 (8 + 20 * k_program) rfl (by omega) (by decide) (dkP dF_79 DX12_live (i := 48) rfl rfl) (fun H locs hw => ?_)
              have hT11 : TM (sI σ 1 (8 + 20 * k_program) 2) := TM.w hT (ty_w0 (by omega))
              have hF11 : fr true [1] [] σ (sI σ 1 (8 + 20 * k_program) 2) := fr.w fr.refl (Or.inl ⟨by decide, by decide⟩) (fun _ _ => by unfold KR; omega)
              refine lv_iconst (v := 0) hx hb (dkP dF_3 DX12_live (i := 49) rfl rfl) (by decide) ?_
              exact z_iret C0 hr hlk hw (⟨hT11, hF11⟩) (dkP dF_172 DX12_live (i := 50) rfl rfl)
            · simp (disch := omega) only [ta_lt, ta_le, ta_eq, tnI, tl32 8 (by decide)] at c9
              refine lv_aload_n hx hb (dkP dF_42 DX12_live (i := 30) rfl rfl) rfl (lv_at hl 1 rfl) ?_
              refine lv_iload_n hx hb (dkP dF_27 DX12_live (i := 31) rfl rfl) rfl (lv_at hl 2 rfl) ?_
              refine lv_iload_n hx hb (dkP dF_28 DX12_live (i := 32) rfl rfl) rfl (lv_at hl 0 rfl) ?_
              refine zk_I hw (zr_V (As := [.int (nI k_program), .int (nI q2_47)]) (rest := []) C0 (c_X12_isNeed l G kc ad σ k_program q2_47 (by first | omega | assumption | decide | rfl) (by first | omega | assumption | decide | rfl) hT _) cv_X12_isNeed lk_X12_455 (zp_V C0 hRo hw 0 rfl rfl rfl) rfl hl.1 rfl ⟨by decide, by decide⟩ (Nat.le_of_ble_eq_true rfl) (dk2 dF_182 DX12_live (i := 33) rfl rfl rfl) ⟨Nat.le_refl _, Nat.le_refl _⟩) (fun r12 s12 H locs hp hw => ?_)
              obtain ⟨f12_0, hs12⟩ := hp
              (rw [hs12] at hw)
              rcases f12_0 with ⟨rfl, hc12⟩ | ⟨rfl, hc12⟩
              · skip
                refine lv_if_eq (tgt := 73) hx hb (dkS dF_153 DX12_live (i := 34) rfl rfl rfl) (by decide) (fun h => absurd h (by decide)) (fun _ => ?_)
                refine lv_aload_n hx hb (dkP dF_42 DX12_live (i := 35) rfl rfl) rfl (lv_at hl 1 rfl) ?_
                refine lv_iload_n hx hb (dkP dF_28 DX12_live (i := 36) rfl rfl) rfl (lv_at hl 0 rfl) ?_
                refine zk_I hw (zr_V (As := [.int (nI q2_47)]) (rest := []) C0 (c_X12_isOver l G kc ad σ q2_47 (by first | omega | assumption | decide | rfl) hT _) cv_X12_isOver lk_X12_461 (zp_V C0 hRo hw 0 rfl rfl rfl) rfl hl.1 rfl ⟨by decide, by decide⟩ (Nat.le_of_ble_eq_true rfl) (dk2 dF_182 DX12_live (i := 37) rfl rfl rfl) ⟨Nat.le_refl _, Nat.le_refl _⟩) (fun r13 s13 H locs hp hw => ?_)
                obtain ⟨f13_0, hs13⟩ := hp
                (rw [hs13] at hw)
                rcases f13_0 with ⟨rfl, hc13⟩ | ⟨rfl, hc13⟩
                · skip
                  refine lv_if_ne (tgt := 73) hx hb (dkS dF_154 DX12_live (i := 38) rfl rfl rfl) (by decide) (fun _ => ?_) (fun h => absurd h (by decide))
                  refine lv_iinc (v := nI (q2_47 + 1)) (lv' := [(2, .int (nI (q2_47 + 1))), (0, .ref (ad 0)), (1, .int (nI k_program))]) hx hb (dkI DX12_live (i := 41) rfl rfl rfl rfl) hl (k := 0) rfl (nI_1 _) (by decide) rfl (fun ls hl => ?_)
                  refine lv_goto (tgt := 47) hx hb (dkS dF_167 DX12_live (i := 42) rfl rfl rfl) (by decide) ?_
                  exact ih8 (q2_47 + 1) _ _ _ (by omega) (by (try simp only [lg_cmp_lt, lg_cmp_le, lg_cmp_gt, lg_cmp_ge, lg_cmp_eq] at hc1); (try simp (disch := omega) only [ta_lt, ta_le, ta_eq, tb_lt, tb_le, tb_eq, tw, tnI, tsub1, tsv, tn32 1 (by decide), tnj 1 (by decide), tl32 0 (by decide), tl64 0 (by decide), tl32 1 (by decide), tl64 1 (by decide), tl32 2 (by decide), tl64 2 (by decide), tl32 3 (by decide), tl64 3 (by decide), tl32 8 (by decide), tl64 8 (by decide)] at hc1); (try simp only [lg_cmp_lt, lg_cmp_le, lg_cmp_gt, lg_cmp_ge, lg_cmp_eq] at c4); (try simp (disch := omega) only [ta_lt, ta_le, ta_eq, tb_lt, tb_le, tb_eq, tw, tnI, tsub1, tsv, tn32 1 (by decide), tnj 1 (by decide), tl32 0 (by decide), tl64 0 (by decide), tl32 1 (by decide), tl64 1 (by decide), tl32 2 (by decide), tl64 2 (by decide), tl32 3 (by decide), tl64 3 (by decide), tl32 8 (by decide), tl64 8 (by decide)] at c4); (try simp only [lg_cmp_lt, lg_cmp_le, lg_cmp_gt, lg_cmp_ge, lg_cmp_eq] at c7); (try simp (disch := omega) only [ta_lt, ta_le, ta_eq, tb_lt, tb_le, tb_eq, tw, tnI, tsub1, tsv, tn32 1 (by decide), tnj 1 (by decide), tl32 0 (by decide), tl64 0 (by decide), tl32 1 (by decide), tl64 1 (by decide), tl32 2 (by decide), tl64 2 (by decide), tl32 3 (by decide), tl64 3 (by decide), tl32 8 (by decide), tl64 8 (by decide)] at c7); (try simp only [lg_cmp_lt, lg_cmp_le, lg_cmp_gt, lg_cmp_ge, lg_cmp_eq] at c9); (try simp (disch := omega) only [ta_lt, ta_le, ta_eq, tb_lt, tb_le, tb_eq, tw, tnI, tsub1, tsv, tn32 1 (by decide), tnj 1 (by decide), tl32 0 (by decide), tl64 0 (by decide), tl32 1 (by decide), tl64 1 (by decide), tl32 2 (by decide), tl64 2 (by decide), tl32 3 (by decide), tl64 3 (by decide), tl32 8 (by decide), tl64 8 (by decide)] at c9); (try simp only [lg_cmp_lt, lg_cmp_le, lg_cmp_gt, lg_cmp_ge, lg_cmp_eq] at f12_0); (try simp (disch := omega) only [ta_lt, ta_le, ta_eq, tb_lt, tb_le, tb_eq, tw, tnI, tsub1, tsv, tn32 1 (by decide), tnj 1 (by decide), tl32 0 (by decide), tl64 0 (by decide), tl32 1 (by decide), tl64 1 (by decide), tl32 2 (by decide), tl64 2 (by decide), tl32 3 (by decide), tl64 3 (by decide), tl32 8 (by decide), tl64 8 (by decide)] at f12_0); (try simp only [lg_cmp_lt, lg_cmp_le, lg_cmp_gt, lg_cmp_ge, lg_cmp_eq] at hc12); (try simp (disch := omega) only [ta_lt, ta_le, ta_eq, tb_lt, tb_le, tb_eq, tw, tnI, tsub1, tsv, tn32 1 (by decide), tnj 1 (by decide), tl32 0 (by decide), tl64 0 (by decide), tl32 1 (by decide), tl64 1 (by decide), tl32 2 (by decide), tl64 2 (by decide), tl32 3 (by decide), tl64 3 (by decide), tl32 8 (by decide), tl64 8 (by decide)] at hc12); (try simp only [lg_cmp_lt, lg_cmp_le, lg_cmp_gt, lg_cmp_ge, lg_cmp_eq] at f13_0); (try simp (disch := omega) only [ta_lt, ta_le, ta_eq, tb_lt, tb_le, tb_eq, tw, tnI, tsub1, tsv, tn32 1 (by decide), tnj 1 (by decide), tl32 0 (by decide), tl64 0 (by decide), tl32 1 (by decide), tl64 1 (by decide), tl32 2 (by decide), tl64 2 (by decide), tl32 3 (by decide), tl64 3 (by decide), tl32 8 (by decide), tl64 8 (by decide)] at f13_0); (try simp only [lg_cmp_lt, lg_cmp_le, lg_cmp_gt, lg_cmp_ge, lg_cmp_eq] at hc13); (try simp (disch := omega) only [ta_lt, ta_le, ta_eq, tb_lt, tb_le, tb_eq, tw, tnI, tsub1, tsv, tn32 1 (by decide), tnj 1 (by decide), tl32 0 (by decide), tl64 0 (by decide), tl32 1 (by decide), tl64 1 (by decide), tl32 2 (by decide), tl64 2 (by decide), tl32 3 (by decide), tl64 3 (by decide), tl32 8 (by decide), tl64 8 (by decide)] at hc13); (try simp (disch := omega) only [ta_lt, ta_le, ta_eq, tb_lt, tb_le, tb_eq, tw, tnI, tsub1, tsv, tn32 1 (by decide), tnj 1 (by decide), tl32 0 (by decide), tl64 0 (by decide), tl32 1 (by decide), tl64 1 (by decide), tl32 2 (by decide), tl64 2 (by decide), tl32 3 (by decide), tl64 3 (by decide), tl32 8 (by decide), tl64 8 (by decide)]); omega) hw (lv_sub hl [0, 1, 2] rfl)
                · skip
                  refine lv_if_ne (tgt := 73) hx hb (dkS dF_154 DX12_live (i := 38) rfl rfl rfl) (by decide) (fun h => absurd h (by decide)) (fun _ => ?_)
                  refine lv_bipush (v := (-6)) hx hb (dks dF_16 DX12_live (i := 39) rfl rfl rfl) (by decide) ?_
                  exact z_iret C0 hr hlk hw (⟨hT, fr.refl⟩) (dkP dF_172 DX12_live (i := 40) rfl rfl)
              · skip
                refine lv_if_eq (tgt := 73) hx hb (dkS dF_153 DX12_live (i := 34) rfl rfl rfl) (by decide) (fun _ => ?_) (fun h => absurd h (by decide))
                refine lv_iinc (v := nI (q2_47 + 1)) (lv' := [(2, .int (nI (q2_47 + 1))), (0, .ref (ad 0)), (1, .int (nI k_program))]) hx hb (dkI DX12_live (i := 41) rfl rfl rfl rfl) hl (k := 0) rfl (nI_1 _) (by decide) rfl (fun ls hl => ?_)
                refine lv_goto (tgt := 47) hx hb (dkS dF_167 DX12_live (i := 42) rfl rfl rfl) (by decide) ?_
                exact ih8 (q2_47 + 1) _ _ _ (by omega) (by (try simp only [lg_cmp_lt, lg_cmp_le, lg_cmp_gt, lg_cmp_ge, lg_cmp_eq] at hc1); (try simp (disch := omega) only [ta_lt, ta_le, ta_eq, tb_lt, tb_le, tb_eq, tw, tnI, tsub1, tsv, tn32 6 (by decide), tnj 6 (by decide), tn32 1 (by decide), tnj 1 (by decide), tl32 0 (by decide), tl64 0 (by decide), tl32 1 (by decide), tl64 1 (by decide), tl32 2 (by decide), tl64 2 (by decide), tl32 3 (by decide), tl64 3 (by decide), tl32 8 (by decide), tl64 8 (by decide)] at hc1); (try simp only [lg_cmp_lt, lg_cmp_le, lg_cmp_gt, lg_cmp_ge, lg_cmp_eq] at c4); (try simp (disch := omega) only [ta_lt, ta_le, ta_eq, tb_lt, tb_le, tb_eq, tw, tnI, tsub1, tsv, tn32 6 (by decide), tnj 6 (by decide), tn32 1 (by decide), tnj 1 (by decide), tl32 0 (by decide), tl64 0 (by decide), tl32 1 (by decide), tl64 1 (by decide), tl32 2 (by decide), tl64 2 (by decide), tl32 3 (by decide), tl64 3 (by decide), tl32 8 (by decide), tl64 8 (by decide)] at c4); (try simp only [lg_cmp_lt, lg_cmp_le, lg_cmp_gt, lg_cmp_ge, lg_cmp_eq] at c7); (try simp (disch := omega) only [ta_lt, ta_le, ta_eq, tb_lt, tb_le, tb_eq, tw, tnI, tsub1, tsv, tn32 6 (by decide), tnj 6 (by decide), tn32 1 (by decide), tnj 1 (by decide), tl32 0 (by decide), tl64 0 (by decide), tl32 1 (by decide), tl64 1 (by decide), tl32 2 (by decide), tl64 2 (by decide), tl32 3 (by decide), tl64 3 (by decide), tl32 8 (by decide), tl64 8 (by decide)] at c7); (try simp only [lg_cmp_lt, lg_cmp_le, lg_cmp_gt, lg_cmp_ge, lg_cmp_eq] at c9); (try simp (disch := omega) only [ta_lt, ta_le, ta_eq, tb_lt, tb_le, tb_eq, tw, tnI, tsub1, tsv, tn32 6 (by decide), tnj 6 (by decide), tn32 1 (by decide), tnj 1 (by decide), tl32 0 (by decide), tl64 0 (by decide), tl32 1 (by decide), tl64 1 (by decide), tl32 2 (by decide), tl64 2 (by decide), tl32 3 (by decide), tl64 3 (by decide), tl32 8 (by decide), tl64 8 (by decide)] at c9); (try simp only [lg_cmp_lt, lg_cmp_le, lg_cmp_gt, lg_cmp_ge, lg_cmp_eq] at f12_0); (try simp (disch := omega) only [ta_lt, ta_le, ta_eq, tb_lt, tb_le, tb_eq, tw, tnI, tsub1, tsv, tn32 6 (by decide), tnj 6 (by decide), tn32 1 (by decide), tnj 1 (by decide), tl32 0 (by decide), tl64 0 (by decide), tl32 1 (by decide), tl64 1 (by decide), tl32 2 (by decide), tl64 2 (by decide), tl32 3 (by decide), tl64 3 (by decide), tl32 8 (by decide), tl64 8 (by decide)] at f12_0); (try simp only [lg_cmp_lt, lg_cmp_le, lg_cmp_gt, lg_cmp_ge, lg_cmp_eq] at hc12); (try simp (disch := omega) only [ta_lt, ta_le, ta_eq, tb_lt, tb_le, tb_eq, tw, tnI, tsub1, tsv, tn32 6 (by decide), tnj 6 (by decide), tn32 1 (by decide), tnj 1 (by decide), tl32 0 (by decide), tl64 0 (by decide), tl32 1 (by decide), tl64 1 (by decide), tl32 2 (by decide), tl64 2 (by decide), tl32 3 (by decide), tl64 3 (by decide), tl32 8 (by decide), tl64 8 (by decide)] at hc12); (try simp (disch := omega) only [ta_lt, ta_le, ta_eq, tb_lt, tb_le, tb_eq, tw, tnI, tsub1, tsv, tn32 6 (by decide), tnj 6 (by decide), tn32 1 (by decide), tnj 1 (by decide), tl32 0 (by decide), tl64 0 (by decide), tl32 1 (by decide), tl64 1 (by decide), tl32 2 (by decide), tl64 2 (by decide), tl32 3 (by decide), tl64 3 (by decide), tl32 8 (by decide), tl64 8 (by decide)]); omega) hw (lv_sub hl [0, 1, 2] rfl)
        exact lp8 _ 0 _ _ _ (Nat.lt_succ_self _) (by (try simp only [lg_cmp_lt, lg_cmp_le, lg_cmp_gt, lg_cmp_ge, lg_cmp_eq] at hc1); (try simp (disch := omega) only [ta_lt, ta_le, ta_eq, tb_lt, tb_le, tb_eq, tw, tnI, tsub1, tsv, tn32 6 (by decide), tnj 6 (by decide), tn32 1 (by decide), tnj 1 (by decide), tl32 0 (by decide), tl64 0 (by decide), tl32 1 (by decide), tl64 1 (by decide), tl32 2 (by decide), tl64 2 (by decide), tl32 3 (by decide), tl64 3 (by decide), tl32 8 (by decide), tl64 8 (by decide)] at hc1); (try simp only [lg_cmp_lt, lg_cmp_le, lg_cmp_gt, lg_cmp_ge, lg_cmp_eq] at c4); (try simp (disch := omega) only [ta_lt, ta_le, ta_eq, tb_lt, tb_le, tb_eq, tw, tnI, tsub1, tsv, tn32 6 (by decide), tnj 6 (by decide), tn32 1 (by decide), tnj 1 (by decide), tl32 0 (by decide), tl64 0 (by decide), tl32 1 (by decide), tl64 1 (by decide), tl32 2 (by decide), tl64 2 (by decide), tl32 3 (by decide), tl64 3 (by decide), tl32 8 (by decide), tl64 8 (by decide)] at c4); (try simp only [lg_cmp_lt, lg_cmp_le, lg_cmp_gt, lg_cmp_ge, lg_cmp_eq] at c7); (try simp (disch := omega) only [ta_lt, ta_le, ta_eq, tb_lt, tb_le, tb_eq, tw, tnI, tsub1, tsv, tn32 6 (by decide), tnj 6 (by decide), tn32 1 (by decide), tnj 1 (by decide), tl32 0 (by decide), tl64 0 (by decide), tl32 1 (by decide), tl64 1 (by decide), tl32 2 (by decide), tl64 2 (by decide), tl32 3 (by decide), tl64 3 (by decide), tl32 8 (by decide), tl64 8 (by decide)] at c7); (try simp (disch := omega) only [ta_lt, ta_le, ta_eq, tb_lt, tb_le, tb_eq, tw, tnI, tsub1, tsv, tn32 6 (by decide), tnj 6 (by decide), tn32 1 (by decide), tnj 1 (by decide), tl32 0 (by decide), tl64 0 (by decide), tl32 1 (by decide), tl64 1 (by decide), tl32 2 (by decide), tl64 2 (by decide), tl32 3 (by decide), tl64 3 (by decide), tl32 8 (by decide), tl64 8 (by decide)]); omega) hw (lv_sub hl [0, 1, 2] rfl)
      · (try simp (disch := omega) only [ta_lt, ta_le, ta_eq, tnI, tl32 0 (by decide)] at c7)
        refine lv_bipush (v := (-5)) hx hb (dks dF_16 DX12_live (i := 23) rfl rfl rfl) (by decide) ?_
        exact z_iret C0 hr hlk hw (⟨hT, fr.refl⟩) (dkP dF_172 DX12_live (i := 24) rfl rfl)
    · (try simp (disch := omega) only [ta_lt, ta_le, ta_eq, tnI, tl32 1 (by decide)] at c4)
      refine lv_aload_n hx hb (dkP dF_42 DX12_live (i := 8) rfl rfl) rfl (lv_at hl 0 rfl) ?_
      refine lv_iload_n hx hb (dkP dF_27 DX12_live (i := 9) rfl rfl) rfl (lv_at hl 1 rfl) ?_
      refine zk_I hw (zr_V (As := [.int (nI k_program)]) (rest := []) C0 (c_X12_stateOf l G kc ad σ k_program (by first | omega | assumption | decide | rfl) _) cv_X12_stateOf lk_X12_275 (zp_V C0 hRo hw 0 rfl rfl rfl) rfl hl.1 rfl ⟨by decide, by decide⟩ (Nat.le_of_ble_eq_true rfl) (dk2 dF_182 DX12_live (i := 10) rfl rfl rfl) ⟨Nat.le_refl _, Nat.le_refl _⟩) (fun r14 s14 H locs hp hw => ?_)
      obtain ⟨rfl, hs14⟩ := hp
      (rw [hs14] at hw; clear hs14)
      refine z_top (y := v3) ev3 ?_
      refine lv_iconst (v := 3) hx hb (dkP dF_6 DX12_live (i := 11) rfl rfl) (by decide) ?_
      refine lv_icmp_eq (tgt := 28) hx hb (dkS dF_159 DX12_live (i := 12) rfl rfl rfl) (by decide) (fun c15 => ?_) (fun c15 => ?_)
      · (try simp (disch := omega) only [ta_lt, ta_le, ta_eq, tnI, tl32 3 (by decide)] at c15)
        refine lv_aload_n hx hb (dkP dF_42 DX12_live (i := 15) rfl rfl) rfl (lv_at hl 0 rfl) ?_
        refine z_gr C0 hw 0 1 1 rfl fl_X12_20 (dk2 dF_180 DX12_live (i := 16) rfl rfl rfl) ?_
        refine lv_iload_n hx hb (dkP dF_27 DX12_live (i := 17) rfl rfl) rfl (lv_at hl 1 rfl) ?_
        refine zn_I hw (zr_S (As := [.int (nI k_program)]) (rest := [.ref (ad 1)]) C0 (c_X12_of l G kc k_program  _) cs_X12_of lk_X12_139 (zp_P C0 hRo hw a00 s00) rfl hl.1 rfl ⟨by decide, by decide⟩ (Nat.le_of_ble_eq_true rfl) (dk2 dF_184 DX12_live (i := 18) rfl rfl rfl) ⟨Nat.le_refl _, Nat.le_refl _⟩) (fun r16 s16 H locs hp hw => ?_)
        subst hp
        refine lv_iconst (v := 3) hx hb (dkP dF_6 DX12_live (i := 19) rfl rfl) (by decide) ?_
        refine lv_iadd hx hb (dkP dF_96 DX12_live (i := 20) rfl rfl) ?_
        refine z_top (y := nI ((8 + 20 * k_program) + 3)) (by simp only [fa_lit, nI_add, pk_mul]) ?_
        refine z_ialdN (n := 414128) C0 hw 1 ((8 + 20 * k_program) + 3) rfl (by omega) (by decide) (dkP dF_46 DX12_live (i := 21) rfl rfl) ?_
        obtain ⟨v17, ev17⟩ : ∃ y : Int32, σ.1 1 ((8 + 20 * k_program) + 3) = y := ⟨_, rfl⟩
        refine z_top (y := v17) ev17 ?_
        refine lv_if_eq (tgt := 45) hx hb (dkS dF_153 DX12_live (i := 22) rfl rfl rfl) (by decide) (fun c18 => ?_) (fun c18 => ?_)
        · (try simp (disch := omega) only [ta_lt, ta_le, ta_eq, tnI, tl32 0 (by decide)] at c18)
          refine lv_iconst (v := 0) hx hb (dkP dF_3 DX12_live (i := 25) rfl rfl) (by decide) ?_
          refine lv_istore_n (lv' := [(2, .int 0), (0, .ref (ad 0)), (1, .int (nI k_program))]) hx hb (dkP dF_61 DX12_live (i := 26) rfl rfl) rfl hl (by decide) rfl (fun ls hl => ?_)
          have lp19 : ∀ (nq : Nat) (q2_47 : Nat) (H : Heap) (locs : List Loc) (ls : Array Slot), 8 - q2_47 < nq → (q2_47 ≤ 8) → St G kc A s.heap shM ad σ H locs → lv_has ls 3 [(2, .int (nI q2_47)), (0, .ref (ad 0)), (1, .int (nI k_program))] → W pr l e { frames := 3, cells := 0, slots := 0, locals := 62 } s m ([.ref (ad 0), .int (nI k_program)] : List Value).toArray below meth c H locs 0 0 (MQ below (va_Qi (fun r σ1 => TM σ1 ∧ fr true [1] [] σ σ1) (PoC G kc shM ad A) A) ([.ref (ad 0), .int (nI k_program)] : List Value).toArray s 0 0 A) (F0 m 47 ls []) := by
            intro nq
            induction nq with
            | zero => intro q2_47 H locs ls hmu; exact absurd hmu (Nat.not_lt_zero _)
            | succ nq ih19 =>
              intro q2_47 H locs ls hmu hq2_47 hw hl
              refine lv_iload_n hx hb (dkP dF_28 DX12_live (i := 27) rfl rfl) rfl (lv_at hl 0 rfl) ?_
              refine lv_bipush (v := 8) hx hb (dks dF_16 DX12_live (i := 28) rfl rfl rfl) (by decide) ?_
              refine lv_icmp_ge (tgt := 79) hx hb (dkS dF_162 DX12_live (i := 29) rfl rfl rfl) (by decide) (fun c20 => ?_) (fun c20 => ?_)
              · simp (disch := omega) only [ta_lt, ta_le, ta_eq, tnI, tl32 8 (by decide)] at c20
                refine lv_aload_n hx hb (dkP dF_42 DX12_live (i := 43) rfl rfl) rfl (lv_at hl 1 rfl) ?_
                refine z_gr C0 hw 0 1 1 rfl fl_X12_20 (dk2 dF_180 DX12_live (i := 44) rfl rfl rfl) ?_
                refine lv_iload_n hx hb (dkP dF_27 DX12_live (i := 45) rfl rfl) rfl (lv_at hl 2 rfl) ?_
                refine zn_I hw (zr_S (As := [.int (nI k_program)]) (rest := [.ref (ad 1)]) C0 (c_X12_of l G kc k_program  _) cs_X12_of lk_X12_139 (zp_P C0 hRo hw a00 s00) rfl hl.1 rfl ⟨by decide, by decide⟩ (Nat.le_of_ble_eq_true rfl) (dk2 dF_184 DX12_live (i := 46) rfl rfl rfl) ⟨Nat.le_refl _, Nat.le_refl _⟩) (fun r21 s21 H locs hp hw => ?_)
                subst hp
                refine lv_iconst (v := 2) hx hb (dkP dF_5 DX12_live (i := 47) rfl rfl) (by decide) ?_
                refine z_iastN (n := 414128) C0 hw 1 (8 + 20 * k_program) rfl (by omega) (by decide) (dkP dF_79 DX12_live (i := 48) rfl rfl) (fun H locs hw => ?_)
                have hT22 : TM (sI σ 1 (8 + 20 * k_program) 2) := TM.w hT (ty_w0 (by omega))
                have hF22 : fr true [1] [] σ (sI σ 1 (8 + 20 * k_program) 2) := fr.w fr.refl (Or.inl ⟨by decide, by decide⟩) (fun _ _ => by unfold KR; omega)
                refine lv_iconst (v := 0) hx hb (dkP dF_3 DX12_live (i := 49) rfl rfl) (by decide) ?_
                exact z_iret C0 hr hlk hw (⟨hT22, hF22⟩) (dkP dF_172 DX12_live (i := 50) rfl rfl)
              · simp (disch := omega) only [ta_lt, ta_le, ta_eq, tnI, tl32 8 (by decide)] at c20
                refine lv_aload_n hx hb (dkP dF_42 DX12_live (i := 30) rfl rfl) rfl (lv_at hl 1 rfl) ?_
                refine lv_iload_n hx hb (dkP dF_27 DX12_live (i := 31) rfl rfl) rfl (lv_at hl 2 rfl) ?_
                refine lv_iload_n hx hb (dkP dF_28 DX12_live (i := 32) rfl rfl) rfl (lv_at hl 0 rfl) ?_
                refine zk_I hw (zr_V (As := [.int (nI k_program), .int (nI q2_47)]) (rest := []) C0 (c_X12_isNeed l G kc ad σ k_program q2_47 (by first | omega | assumption | decide | rfl) (by first | omega | assumption | decide | rfl) hT _) cv_X12_isNeed lk_X12_455 (zp_V C0 hRo hw 0 rfl rfl rfl) rfl hl.1 rfl ⟨by decide, by decide⟩ (Nat.le_of_ble_eq_true rfl) (dk2 dF_182 DX12_live (i := 33) rfl rfl rfl) ⟨Nat.le_refl _, Nat.le_refl _⟩) (fun r23 s23 H locs hp hw => ?_)
                obtain ⟨f23_0, hs23⟩ := hp
                (rw [hs23] at hw)
                rcases f23_0 with ⟨rfl, hc23⟩ | ⟨rfl, hc23⟩
                · skip
                  refine lv_if_eq (tgt := 73) hx hb (dkS dF_153 DX12_live (i := 34) rfl rfl rfl) (by decide) (fun h => absurd h (by decide)) (fun _ => ?_)
                  refine lv_aload_n hx hb (dkP dF_42 DX12_live (i := 35) rfl rfl) rfl (lv_at hl 1 rfl) ?_
                  refine lv_iload_n hx hb (dkP dF_28 DX12_live (i := 36) rfl rfl) rfl (lv_at hl 0 rfl) ?_
                  refine zk_I hw (zr_V (As := [.int (nI q2_47)]) (rest := []) C0 (c_X12_isOver l G kc ad σ q2_47 (by first | omega | assumption | decide | rfl) hT _) cv_X12_isOver lk_X12_461 (zp_V C0 hRo hw 0 rfl rfl rfl) rfl hl.1 rfl ⟨by decide, by decide⟩ (Nat.le_of_ble_eq_true rfl) (dk2 dF_182 DX12_live (i := 37) rfl rfl rfl) ⟨Nat.le_refl _, Nat.le_refl _⟩) (fun r24 s24 H locs hp hw => ?_)
                  obtain ⟨f24_0, hs24⟩ := hp
                  (rw [hs24] at hw)
                  rcases f24_0 with ⟨rfl, hc24⟩ | ⟨rfl, hc24⟩
                  · skip
                    refine lv_if_ne (tgt := 73) hx hb (dkS dF_154 DX12_live (i := 38) rfl rfl rfl) (by decide) (fun _ => ?_) (fun h => absurd h (by decide))
                    refine lv_iinc (v := nI (q2_47 + 1)) (lv' := [(2, .int (nI (q2_47 + 1))), (0, .ref (ad 0)), (1, .int (nI k_program))]) hx hb (dkI DX12_live (i := 41) rfl rfl rfl rfl) hl (k := 0) rfl (nI_1 _) (by decide) rfl (fun ls hl => ?_)
                    refine lv_goto (tgt := 47) hx hb (dkS dF_167 DX12_live (i := 42) rfl rfl rfl) (by decide) ?_
                    exact ih19 (q2_47 + 1) _ _ _ (by omega) (by (try simp only [lg_cmp_lt, lg_cmp_le, lg_cmp_gt, lg_cmp_ge, lg_cmp_eq] at hc1); (try simp (disch := omega) only [ta_lt, ta_le, ta_eq, tb_lt, tb_le, tb_eq, tw, tnI, tsub1, tsv, tn32 6 (by decide), tnj 6 (by decide), tn32 5 (by decide), tnj 5 (by decide), tn32 1 (by decide), tnj 1 (by decide), tl32 0 (by decide), tl64 0 (by decide), tl32 1 (by decide), tl64 1 (by decide), tl32 2 (by decide), tl64 2 (by decide), tl32 3 (by decide), tl64 3 (by decide), tl32 8 (by decide), tl64 8 (by decide)] at hc1); (try simp only [lg_cmp_lt, lg_cmp_le, lg_cmp_gt, lg_cmp_ge, lg_cmp_eq] at c4); (try simp (disch := omega) only [ta_lt, ta_le, ta_eq, tb_lt, tb_le, tb_eq, tw, tnI, tsub1, tsv, tn32 6 (by decide), tnj 6 (by decide), tn32 5 (by decide), tnj 5 (by decide), tn32 1 (by decide), tnj 1 (by decide), tl32 0 (by decide), tl64 0 (by decide), tl32 1 (by decide), tl64 1 (by decide), tl32 2 (by decide), tl64 2 (by decide), tl32 3 (by decide), tl64 3 (by decide), tl32 8 (by decide), tl64 8 (by decide)] at c4); (try simp only [lg_cmp_lt, lg_cmp_le, lg_cmp_gt, lg_cmp_ge, lg_cmp_eq] at c15); (try simp (disch := omega) only [ta_lt, ta_le, ta_eq, tb_lt, tb_le, tb_eq, tw, tnI, tsub1, tsv, tn32 6 (by decide), tnj 6 (by decide), tn32 5 (by decide), tnj 5 (by decide), tn32 1 (by decide), tnj 1 (by decide), tl32 0 (by decide), tl64 0 (by decide), tl32 1 (by decide), tl64 1 (by decide), tl32 2 (by decide), tl64 2 (by decide), tl32 3 (by decide), tl64 3 (by decide), tl32 8 (by decide), tl64 8 (by decide)] at c15); (try simp only [lg_cmp_lt, lg_cmp_le, lg_cmp_gt, lg_cmp_ge, lg_cmp_eq] at c18); (try simp (disch := omega) only [ta_lt, ta_le, ta_eq, tb_lt, tb_le, tb_eq, tw, tnI, tsub1, tsv, tn32 6 (by decide), tnj 6 (by decide), tn32 5 (by decide), tnj 5 (by decide), tn32 1 (by decide), tnj 1 (by decide), tl32 0 (by decide), tl64 0 (by decide), tl32 1 (by decide), tl64 1 (by decide), tl32 2 (by decide), tl64 2 (by decide), tl32 3 (by decide), tl64 3 (by decide), tl32 8 (by decide), tl64 8 (by decide)] at c18); (try simp only [lg_cmp_lt, lg_cmp_le, lg_cmp_gt, lg_cmp_ge, lg_cmp_eq] at c20); (try simp (disch := omega) only [ta_lt, ta_le, ta_eq, tb_lt, tb_le, tb_eq, tw, tnI, tsub1, tsv, tn32 6 (by decide), tnj 6 (by decide), tn32 5 (by decide), tnj 5 (by decide), tn32 1 (by decide), tnj 1 (by decide), tl32 0 (by decide), tl64 0 (by decide), tl32 1 (by decide), tl64 1 (by decide), tl32 2 (by decide), tl64 2 (by decide), tl32 3 (by decide), tl64 3 (by decide), tl32 8 (by decide), tl64 8 (by decide)] at c20); (try simp only [lg_cmp_lt, lg_cmp_le, lg_cmp_gt, lg_cmp_ge, lg_cmp_eq] at f23_0); (try simp (disch := omega) only [ta_lt, ta_le, ta_eq, tb_lt, tb_le, tb_eq, tw, tnI, tsub1, tsv, tn32 6 (by decide), tnj 6 (by decide), tn32 5 (by decide), tnj 5 (by decide), tn32 1 (by decide), tnj 1 (by decide), tl32 0 (by decide), tl64 0 (by decide), tl32 1 (by decide), tl64 1 (by decide), tl32 2 (by decide), tl64 2 (by decide), tl32 3 (by decide), tl64 3 (by decide), tl32 8 (by decide), tl64 8 (by decide)] at f23_0); (try simp only [lg_cmp_lt, lg_cmp_le, lg_cmp_gt, lg_cmp_ge, lg_cmp_eq] at hc23); (try simp (disch := omega) only [ta_lt, ta_le, ta_eq, tb_lt, tb_le, tb_eq, tw, tnI, tsub1, tsv, tn32 6 (by decide), tnj 6 (by decide), tn32 5 (by decide), tnj 5 (by decide), tn32 1 (by decide), tnj 1 (by decide), tl32 0 (by decide), tl64 0 (by decide), tl32 1 (by decide), tl64 1 (by decide), tl32 2 (by decide), tl64 2 (by decide), tl32 3 (by decide), tl64 3 (by decide), tl32 8 (by decide), tl64 8 (by decide)] at hc23); (try simp only [lg_cmp_lt, lg_cmp_le, lg_cmp_gt, lg_cmp_ge, lg_cmp_eq] at f24_0); (try simp (disch := omega) only [ta_lt, ta_le, ta_eq, tb_lt, tb_le, tb_eq, tw, tnI, tsub1, tsv, tn32 6 (by decide), tnj 6 (by decide), tn32 5 (by decide), tnj 5 (by decide), tn32 1 (by decide), tnj 1 (by decide), tl32 0 (by decide), tl64 0 (by decide), tl32 1 (by decide), tl64 1 (by decide), tl32 2 (by decide), tl64 2 (by decide), tl32 3 (by decide), tl64 3 (by decide), tl32 8 (by decide), tl64 8 (by decide)] at f24_0); (try simp only [lg_cmp_lt, lg_cmp_le, lg_cmp_gt, lg_cmp_ge, lg_cmp_eq] at hc24); (try simp (disch := omega) only [ta_lt, ta_le, ta_eq, tb_lt, tb_le, tb_eq, tw, tnI, tsub1, tsv, tn32 6 (by decide), tnj 6 (by decide), tn32 5 (by decide), tnj 5 (by decide), tn32 1 (by decide), tnj 1 (by decide), tl32 0 (by decide), tl64 0 (by decide), tl32 1 (by decide), tl64 1 (by decide), tl32 2 (by decide), tl64 2 (by decide), tl32 3 (by decide), tl64 3 (by decide), tl32 8 (by decide), tl64 8 (by decide)] at hc24); (try simp (disch := omega) only [ta_lt, ta_le, ta_eq, tb_lt, tb_le, tb_eq, tw, tnI, tsub1, tsv, tn32 6 (by decide), tnj 6 (by decide), tn32 5 (by decide), tnj 5 (by decide), tn32 1 (by decide), tnj 1 (by decide), tl32 0 (by decide), tl64 0 (by decide), tl32 1 (by decide), tl64 1 (by decide), tl32 2 (by decide), tl64 2 (by decide), tl32 3 (by decide), tl64 3 (by decide), tl32 8 (by decide), tl64 8 (by decide)]); omega) hw (lv_sub hl [0, 1, 2] rfl)
                  · skip
                    refine lv_if_ne (tgt := 73) hx hb (dkS dF_154 DX12_live (i := 38) rfl rfl rfl) (by decide) (fun h => absurd h (by decide)) (fun _ => ?_)
                    refine lv_bipush (v := (-6)) hx hb (dks dF_16 DX12_live (i := 39) rfl rfl rfl) (by decide) ?_
                    exact z_iret C0 hr hlk hw (⟨hT, fr.refl⟩) (dkP dF_172 DX12_live (i := 40) rfl rfl)
                · skip
                  refine lv_if_eq (tgt := 73) hx hb (dkS dF_153 DX12_live (i := 34) rfl rfl rfl) (by decide) (fun _ => ?_) (fun h => absurd h (by decide))
                  refine lv_iinc (v := nI (q2_47 + 1)) (lv' := [(2, .int (nI (q2_47 + 1))), (0, .ref (ad 0)), (1, .int (nI k_program))]) hx hb (dkI DX12_live (i := 41) rfl rfl rfl rfl) hl (k := 0) rfl (nI_1 _) (by decide) rfl (fun ls hl => ?_)
                  refine lv_goto (tgt := 47) hx hb (dkS dF_167 DX12_live (i := 42) rfl rfl rfl) (by decide) ?_
                  exact ih19 (q2_47 + 1) _ _ _ (by omega) (by (try simp only [lg_cmp_lt, lg_cmp_le, lg_cmp_gt, lg_cmp_ge, lg_cmp_eq] at hc1); (try simp (disch := omega) only [ta_lt, ta_le, ta_eq, tb_lt, tb_le, tb_eq, tw, tnI, tsub1, tsv, tn32 6 (by decide), tnj 6 (by decide), tn32 5 (by decide), tnj 5 (by decide), tn32 1 (by decide), tnj 1 (by decide), tl32 0 (by decide), tl64 0 (by decide), tl32 1 (by decide), tl64 1 (by decide), tl32 2 (by decide), tl64 2 (by decide), tl32 3 (by decide), tl64 3 (by decide), tl32 8 (by decide), tl64 8 (by decide)] at hc1); (try simp only [lg_cmp_lt, lg_cmp_le, lg_cmp_gt, lg_cmp_ge, lg_cmp_eq] at c4); (try simp (disch := omega) only [ta_lt, ta_le, ta_eq, tb_lt, tb_le, tb_eq, tw, tnI, tsub1, tsv, tn32 6 (by decide), tnj 6 (by decide), tn32 5 (by decide), tnj 5 (by decide), tn32 1 (by decide), tnj 1 (by decide), tl32 0 (by decide), tl64 0 (by decide), tl32 1 (by decide), tl64 1 (by decide), tl32 2 (by decide), tl64 2 (by decide), tl32 3 (by decide), tl64 3 (by decide), tl32 8 (by decide), tl64 8 (by decide)] at c4); (try simp only [lg_cmp_lt, lg_cmp_le, lg_cmp_gt, lg_cmp_ge, lg_cmp_eq] at c15); (try simp (disch := omega) only [ta_lt, ta_le, ta_eq, tb_lt, tb_le, tb_eq, tw, tnI, tsub1, tsv, tn32 6 (by decide), tnj 6 (by decide), tn32 5 (by decide), tnj 5 (by decide), tn32 1 (by decide), tnj 1 (by decide), tl32 0 (by decide), tl64 0 (by decide), tl32 1 (by decide), tl64 1 (by decide), tl32 2 (by decide), tl64 2 (by decide), tl32 3 (by decide), tl64 3 (by decide), tl32 8 (by decide), tl64 8 (by decide)] at c15); (try simp only [lg_cmp_lt, lg_cmp_le, lg_cmp_gt, lg_cmp_ge, lg_cmp_eq] at c18); (try simp (disch := omega) only [ta_lt, ta_le, ta_eq, tb_lt, tb_le, tb_eq, tw, tnI, tsub1, tsv, tn32 6 (by decide), tnj 6 (by decide), tn32 5 (by decide), tnj 5 (by decide), tn32 1 (by decide), tnj 1 (by decide), tl32 0 (by decide), tl64 0 (by decide), tl32 1 (by decide), tl64 1 (by decide), tl32 2 (by decide), tl64 2 (by decide), tl32 3 (by decide), tl64 3 (by decide), tl32 8 (by decide), tl64 8 (by decide)] at c18); (try simp only [lg_cmp_lt, lg_cmp_le, lg_cmp_gt, lg_cmp_ge, lg_cmp_eq] at c20); (try simp (disch := omega) only [ta_lt, ta_le, ta_eq, tb_lt, tb_le, tb_eq, tw, tnI, tsub1, tsv, tn32 6 (by decide), tnj 6 (by decide), tn32 5 (by decide), tnj 5 (by decide), tn32 1 (by decide), tnj 1 (by decide), tl32 0 (by decide), tl64 0 (by decide), tl32 1 (by decide), tl64 1 (by decide), tl32 2 (by decide), tl64 2 (by decide), tl32 3 (by decide), tl64 3 (by decide), tl32 8 (by decide), tl64 8 (by decide)] at c20); (try simp only [lg_cmp_lt, lg_cmp_le, lg_cmp_gt, lg_cmp_ge, lg_cmp_eq] at f23_0); (try simp (disch := omega) only [ta_lt, ta_le, ta_eq, tb_lt, tb_le, tb_eq, tw, tnI, tsub1, tsv, tn32 6 (by decide), tnj 6 (by decide), tn32 5 (by decide), tnj 5 (by decide), tn32 1 (by decide), tnj 1 (by decide), tl32 0 (by decide), tl64 0 (by decide), tl32 1 (by decide), tl64 1 (by decide), tl32 2 (by decide), tl64 2 (by decide), tl32 3 (by decide), tl64 3 (by decide), tl32 8 (by decide), tl64 8 (by decide)] at f23_0); (try simp only [lg_cmp_lt, lg_cmp_le, lg_cmp_gt, lg_cmp_ge, lg_cmp_eq] at hc23); (try simp (disch := omega) only [ta_lt, ta_le, ta_eq, tb_lt, tb_le, tb_eq, tw, tnI, tsub1, tsv, tn32 6 (by decide), tnj 6 (by decide), tn32 5 (by decide), tnj 5 (by decide), tn32 1 (by decide), tnj 1 (by decide), tl32 0 (by decide), tl64 0 (by decide), tl32 1 (by decide), tl64 1 (by decide), tl32 2 (by decide), tl64 2 (by decide), tl32 3 (by decide), tl64 3 (by decide), tl32 8 (by decide), tl64 8 (by decide)] at hc23); (try simp (disch := omega) only [ta_lt, ta_le, ta_eq, tb_lt, tb_le, tb_eq, tw, tnI, tsub1, tsv, tn32 6 (by decide), tnj 6 (by decide), tn32 5 (by decide), tnj 5 (by decide), tn32 1 (by decide), tnj 1 (by decide), tl32 0 (by decide), tl64 0 (by decide), tl32 1 (by decide), tl64 1 (by decide), tl32 2 (by decide), tl64 2 (by decide), tl32 3 (by decide), tl64 3 (by decide), tl32 8 (by decide), tl64 8 (by decide)]); omega) hw (lv_sub hl [0, 1, 2] rfl)
          exact lp19 _ 0 _ _ _ (Nat.lt_succ_self _) (by (try simp only [lg_cmp_lt, lg_cmp_le, lg_cmp_gt, lg_cmp_ge, lg_cmp_eq] at hc1); (try simp (disch := omega) only [ta_lt, ta_le, ta_eq, tb_lt, tb_le, tb_eq, tw, tnI, tsub1, tsv, tn32 6 (by decide), tnj 6 (by decide), tn32 5 (by decide), tnj 5 (by decide), tn32 1 (by decide), tnj 1 (by decide), tl32 0 (by decide), tl64 0 (by decide), tl32 1 (by decide), tl64 1 (by decide), tl32 2 (by decide), tl64 2 (by decide), tl32 3 (by decide), tl64 3 (by decide), tl32 8 (by decide), tl64 8 (by decide)] at hc1); (try simp only [lg_cmp_lt, lg_cmp_le, lg_cmp_gt, lg_cmp_ge, lg_cmp_eq] at c4); (try simp (disch := omega) only [ta_lt, ta_le, ta_eq, tb_lt, tb_le, tb_eq, tw, tnI, tsub1, tsv, tn32 6 (by decide), tnj 6 (by decide), tn32 5 (by decide), tnj 5 (by decide), tn32 1 (by decide), tnj 1 (by decide), tl32 0 (by decide), tl64 0 (by decide), tl32 1 (by decide), tl64 1 (by decide), tl32 2 (by decide), tl64 2 (by decide), tl32 3 (by decide), tl64 3 (by decide), tl32 8 (by decide), tl64 8 (by decide)] at c4); (try simp only [lg_cmp_lt, lg_cmp_le, lg_cmp_gt, lg_cmp_ge, lg_cmp_eq] at c15); (try simp (disch := omega) only [ta_lt, ta_le, ta_eq, tb_lt, tb_le, tb_eq, tw, tnI, tsub1, tsv, tn32 6 (by decide), tnj 6 (by decide), tn32 5 (by decide), tnj 5 (by decide), tn32 1 (by decide), tnj 1 (by decide), tl32 0 (by decide), tl64 0 (by decide), tl32 1 (by decide), tl64 1 (by decide), tl32 2 (by decide), tl64 2 (by decide), tl32 3 (by decide), tl64 3 (by decide), tl32 8 (by decide), tl64 8 (by decide)] at c15); (try simp only [lg_cmp_lt, lg_cmp_le, lg_cmp_gt, lg_cmp_ge, lg_cmp_eq] at c18); (try simp (disch := omega) only [ta_lt, ta_le, ta_eq, tb_lt, tb_le, tb_eq, tw, tnI, tsub1, tsv, tn32 6 (by decide), tnj 6 (by decide), tn32 5 (by decide), tnj 5 (by decide), tn32 1 (by decide), tnj 1 (by decide), tl32 0 (by decide), tl64 0 (by decide), tl32 1 (by decide), tl64 1 (by decide), tl32 2 (by decide), tl64 2 (by decide), tl32 3 (by decide), tl64 3 (by decide), tl32 8 (by decide), tl64 8 (by decide)] at c18); (try simp (disch := omega) only [ta_lt, ta_le, ta_eq, tb_lt, tb_le, tb_eq, tw, tnI, tsub1, tsv, tn32 6 (by decide), tnj 6 (by decide), tn32 5 (by decide), tnj 5 (by decide), tn32 1 (by decide), tnj 1 (by decide), tl32 0 (by decide), tl64 0 (by decide), tl32 1 (by decide), tl64 1 (by decide), tl32 2 (by decide), tl64 2 (by decide), tl32 3 (by decide), tl64 3 (by decide), tl32 8 (by decide), tl64 8 (by decide)]); omega) hw (lv_sub hl [0, 1, 2] rfl)
        · (try simp (disch := omega) only [ta_lt, ta_le, ta_eq, tnI, tl32 0 (by decide)] at c18)
          refine lv_bipush (v := (-5)) hx hb (dks dF_16 DX12_live (i := 23) rfl rfl rfl) (by decide) ?_
          exact z_iret C0 hr hlk hw (⟨hT, fr.refl⟩) (dkP dF_172 DX12_live (i := 24) rfl rfl)
      · (try simp (disch := omega) only [ta_lt, ta_le, ta_eq, tnI, tl32 3 (by decide)] at c15)
        refine lv_bipush (v := (-2)) hx hb (dks dF_16 DX12_live (i := 13) rfl rfl rfl) (by decide) ?_
        exact z_iret C0 hr hlk hw (⟨hT, fr.refl⟩) (dkP dF_172 DX12_live (i := 14) rfl rfl)
  · skip
    (try simp (disch := omega) only [ta_lt, ta_le, ta_eq, tb_lt, tb_le, tb_eq, tw, tnI, tn32 6 (by decide), tnj 6 (by decide), tn32 5 (by decide), tnj 5 (by decide), tn32 2 (by decide), tnj 2 (by decide), tn32 1 (by decide), tnj 1 (by decide), tl32 0 (by decide), tl64 0 (by decide), tl32 1 (by decide), tl64 1 (by decide), tl32 2 (by decide), tl64 2 (by decide), tl32 3 (by decide), tl64 3 (by decide), tl32 8 (by decide), tl64 8 (by decide)] at hc1)
    refine lv_if_eq (tgt := 25) hx hb (dkS dF_153 DX12_live (i := 2) rfl rfl rfl) (by decide) (fun _ => ?_) (fun h => absurd h (by decide))
    refine lv_bipush (v := (-2)) hx hb (dks dF_16 DX12_live (i := 13) rfl rfl rfl) (by decide) ?_
    exact z_iret C0 hr hlk hw (⟨hT, fr.refl⟩) (dkP dF_172 DX12_live (i := 14) rfl rfl)
set_option maxRecDepth 100000 in
set_option maxHeartbeats 8000000 in
theorem c_X12_retire (l : Launch) (G : va_G) (kc : KC) (ad : Nat → Nat) (σ : Sg) (program : Int32) (hT : TM σ) : MI l G kc yX12_retire cX12_retire 3 (some .int) 3 62 [.ref (ad 0), .int program] shM ad σ (fun r σ1 => TM σ1 ∧ fr true [1] [] σ σ1) := by
  intro sz
  refine z_body (y := yX12_retire) (n := 3) (av := [.ref (ad 0), .int program]) (Qc := fun A => va_Qi (fun r σ1 => TM σ1 ∧ fr true [1] [] σ σ1) (PoC G kc shM ad A) A) (plainFor_of_name (by decide)) (Nat.le_of_ble_eq_true rfl) (fun pr e s m below meth c A C0 hr hlk hnm hw hRo ls hl => ?_) sz
  have hx := C0.1
  have hb := C0.2.1
  have hown := C0.2.2.2.1
  have hts := C0.2.2.2.2.1
  have hl : lv_has ls 3 [(0, .ref (ad 0)), (1, .int program)] := hl
  refine lv_iload_n hx hb (dkP dF_27 DX12_retire (i := 0) rfl rfl) rfl (lv_at hl 1 rfl) ?_
  refine zn_I hw (zr_S (As := [.int program]) (rest := []) C0 (c_X12_isProgram l G kc program  _) cs_X12_isProgram lk_X12_272 (zp_P C0 hRo hw a00 s00) rfl hl.1 rfl ⟨by decide, by decide⟩ (Nat.le_of_ble_eq_true rfl) (dk2 dF_184 DX12_retire (i := 1) rfl rfl rfl) ⟨Nat.le_refl _, Nat.le_refl _⟩) (fun r1 s1 H locs hp hw => ?_)
  rcases hp with ⟨rfl, hc1⟩ | ⟨rfl, hc1⟩
  · skip
    (try simp (disch := omega) only [ta_lt, ta_le, ta_eq, tb_lt, tb_le, tb_eq, tw, tnI, tn32 1 (by decide), tnj 1 (by decide), tl32 0 (by decide), tl64 0 (by decide)] at hc1)
    obtain ⟨k_program, hk_program, rfl⟩ := to_nat (x := program) (n := 8) (by (try simp only [lg_cmp_lt, lg_cmp_le, lg_cmp_gt, lg_cmp_ge, lg_cmp_eq] at hc1); (try simp (disch := omega) only [ta_lt, ta_le, ta_eq, tb_lt, tb_le, tb_eq, tw, tnI, tn32 1 (by decide), tnj 1 (by decide), tl32 0 (by decide), tl64 0 (by decide)] at hc1); (try simp (disch := omega) only [ta_lt, ta_le, ta_eq, tb_lt, tb_le, tb_eq, tw, tnI, tn32 1 (by decide), tnj 1 (by decide), tl32 0 (by decide), tl64 0 (by decide)]); omega)
    refine lv_if_eq (tgt := 16) hx hb (dkS dF_153 DX12_retire (i := 2) rfl rfl rfl) (by decide) (fun h => absurd h (by decide)) (fun _ => ?_)
    refine lv_aload_n hx hb (dkP dF_42 DX12_retire (i := 3) rfl rfl) rfl (lv_at hl 0 rfl) ?_
    refine lv_iload_n hx hb (dkP dF_27 DX12_retire (i := 4) rfl rfl) rfl (lv_at hl 1 rfl) ?_
    refine zk_I hw (zr_V (As := [.int (nI k_program)]) (rest := []) C0 (c_X12_stateOf l G kc ad σ k_program (by first | omega | assumption | decide | rfl) _) cv_X12_stateOf lk_X12_275 (zp_V C0 hRo hw 0 rfl rfl rfl) rfl hl.1 rfl ⟨by decide, by decide⟩ (Nat.le_of_ble_eq_true rfl) (dk2 dF_182 DX12_retire (i := 5) rfl rfl rfl) ⟨Nat.le_refl _, Nat.le_refl _⟩) (fun r2 s2 H locs hp hw => ?_)
    obtain ⟨rfl, hs2⟩ := hp
    (rw [hs2] at hw; clear hs2)
    obtain ⟨v3, ev3⟩ : ∃ y : Int32, σ.1 1 (8 + 20 * k_program) = y := ⟨_, rfl⟩
    refine z_top (y := v3) ev3 ?_
    refine lv_iconst (v := 2) hx hb (dkP dF_5 DX12_retire (i := 6) rfl rfl) (by decide) ?_
    refine lv_icmp_eq (tgt := 19) hx hb (dkS dF_159 DX12_retire (i := 7) rfl rfl rfl) (by decide) (fun c4 => ?_) (fun c4 => ?_)
    · (try simp (disch := omega) only [ta_lt, ta_le, ta_eq, tnI, tl32 2 (by decide)] at c4)
      refine lv_iconst (v := 0) hx hb (dkP dF_3 DX12_retire (i := 10) rfl rfl) (by decide) ?_
      refine lv_istore_n (lv' := [(2, .int 0), (0, .ref (ad 0)), (1, .int (nI k_program))]) hx hb (dkP dF_61 DX12_retire (i := 11) rfl rfl) rfl hl (by decide) rfl (fun ls hl => ?_)
      have lp5 : ∀ (nq : Nat) (q2_21 : Nat) (H : Heap) (locs : List Loc) (ls : Array Slot), 8 - q2_21 < nq → (q2_21 ≤ 8) → St G kc A s.heap shM ad σ H locs → lv_has ls 3 [(2, .int (nI q2_21)), (0, .ref (ad 0)), (1, .int (nI k_program))] → W pr l e { frames := 3, cells := 0, slots := 0, locals := 62 } s m ([.ref (ad 0), .int (nI k_program)] : List Value).toArray below meth c H locs 0 0 (MQ below (va_Qi (fun r σ1 => TM σ1 ∧ fr true [1] [] σ σ1) (PoC G kc shM ad A) A) ([.ref (ad 0), .int (nI k_program)] : List Value).toArray s 0 0 A) (F0 m 21 ls []) := by
        intro nq
        induction nq with
        | zero => intro q2_21 H locs ls hmu; exact absurd hmu (Nat.not_lt_zero _)
        | succ nq ih5 =>
          intro q2_21 H locs ls hmu hq2_21 hw hl
          refine lv_iload_n hx hb (dkP dF_28 DX12_retire (i := 12) rfl rfl) rfl (lv_at hl 0 rfl) ?_
          refine lv_bipush (v := 8) hx hb (dks dF_16 DX12_retire (i := 13) rfl rfl rfl) (by decide) ?_
          refine lv_icmp_ge (tgt := 62) hx hb (dkS dF_162 DX12_retire (i := 14) rfl rfl rfl) (by decide) (fun c6 => ?_) (fun c6 => ?_)
          · simp (disch := omega) only [ta_lt, ta_le, ta_eq, tnI, tl32 8 (by decide)] at c6
            refine lv_aload_n hx hb (dkP dF_42 DX12_retire (i := 35) rfl rfl) rfl (lv_at hl 1 rfl) ?_
            refine z_gr C0 hw 0 1 1 rfl fl_X12_20 (dk2 dF_180 DX12_retire (i := 36) rfl rfl rfl) ?_
            refine lv_iload_n hx hb (dkP dF_27 DX12_retire (i := 37) rfl rfl) rfl (lv_at hl 2 rfl) ?_
            refine zn_I hw (zr_S (As := [.int (nI k_program)]) (rest := [.ref (ad 1)]) C0 (c_X12_of l G kc k_program  _) cs_X12_of lk_X12_139 (zp_P C0 hRo hw a00 s00) rfl hl.1 rfl ⟨by decide, by decide⟩ (Nat.le_of_ble_eq_true rfl) (dk2 dF_184 DX12_retire (i := 38) rfl rfl rfl) ⟨Nat.le_refl _, Nat.le_refl _⟩) (fun r7 s7 H locs hp hw => ?_)
            subst hp
            refine lv_iconst (v := 4) hx hb (dkP dF_7 DX12_retire (i := 39) rfl rfl) (by decide) ?_
            refine z_iastN (n := 414128) C0 hw 1 (8 + 20 * k_program) rfl (by omega) (by decide) (dkP dF_79 DX12_retire (i := 40) rfl rfl) (fun H locs hw => ?_)
            have hT8 : TM (sI σ 1 (8 + 20 * k_program) 4) := TM.w hT (ty_w0 (by omega))
            have hF8 : fr true [1] [] σ (sI σ 1 (8 + 20 * k_program) 4) := fr.w fr.refl (Or.inl ⟨by decide, by decide⟩) (fun _ _ => by unfold KR; omega)
            refine lv_iconst (v := 0) hx hb (dkP dF_3 DX12_retire (i := 41) rfl rfl) (by decide) ?_
            exact z_iret C0 hr hlk hw (⟨hT8, hF8⟩) (dkP dF_172 DX12_retire (i := 42) rfl rfl)
          · simp (disch := omega) only [ta_lt, ta_le, ta_eq, tnI, tl32 8 (by decide)] at c6
            refine lv_aload_n hx hb (dkP dF_42 DX12_retire (i := 15) rfl rfl) rfl (lv_at hl 1 rfl) ?_
            refine z_gr C0 hw 0 1 1 rfl fl_X12_20 (dk2 dF_180 DX12_retire (i := 16) rfl rfl rfl) ?_
            refine lv_ldc hx hb hown (hts _ kn_X12_143) (dk1 dF_18 DX12_retire (i := 17) rfl rfl rfl) ?_
            refine lv_bipush (v := 8) hx hb (dks dF_16 DX12_retire (i := 18) rfl rfl rfl) (by decide) ?_
            refine lv_iload_n hx hb (dkP dF_28 DX12_retire (i := 19) rfl rfl) rfl (lv_at hl 0 rfl) ?_
            refine lv_imul hx hb (dkP dF_104 DX12_retire (i := 20) rfl rfl) ?_
            refine z_top (y := nI (8 * q2_21)) (by simp only [fa_lit, nI_add, pk_mul]) ?_
            refine lv_iadd hx hb (dkP dF_96 DX12_retire (i := 21) rfl rfl) ?_
            refine z_top (y := nI (413480 + (8 * q2_21))) (by simp only [fa_lit, nI_add, pk_mul]) ?_
            refine lv_iload_n hx hb (dkP dF_27 DX12_retire (i := 22) rfl rfl) rfl (lv_at hl 2 rfl) ?_
            refine lv_iadd hx hb (dkP dF_96 DX12_retire (i := 23) rfl rfl) ?_
            refine z_top (y := nI ((413480 + (8 * q2_21)) + k_program)) (by simp only [fa_lit, nI_add, pk_mul]) ?_
            refine z_ialdN (n := 414128) C0 hw 1 ((413480 + (8 * q2_21)) + k_program) rfl (by omega) (by decide) (dkP dF_46 DX12_retire (i := 24) rfl rfl) ?_
            obtain ⟨v9, ev9⟩ : ∃ y : Int32, σ.1 1 ((413480 + (8 * q2_21)) + k_program) = y := ⟨_, rfl⟩
            have hv9 : -1 ≤ v9.toInt ∧ v9.toInt ≤ 999 := by rw [← ev9]; exact (wTy_k (by omega) (by omega) (hT 1 _))
            refine z_top (y := v9) ev9 ?_
            refine lv_iconst (v := (-1)) hx hb (dkP dF_2 DX12_retire (i := 25) rfl rfl) (by decide) ?_
            refine lv_icmp_eq (tgt := 56) hx hb (dkS dF_159 DX12_retire (i := 26) rfl rfl rfl) (by decide) (fun c10 => ?_) (fun c10 => ?_)
            · (try simp (disch := omega) only [ta_lt, ta_le, ta_eq, tnI, tn32 1 (by decide)] at c10)
              refine lv_iinc (v := nI (q2_21 + 1)) (lv' := [(2, .int (nI (q2_21 + 1))), (0, .ref (ad 0)), (1, .int (nI k_program))]) hx hb (dkI DX12_retire (i := 33) rfl rfl rfl rfl) hl (k := 0) rfl (nI_1 _) (by decide) rfl (fun ls hl => ?_)
              refine lv_goto (tgt := 21) hx hb (dkS dF_167 DX12_retire (i := 34) rfl rfl rfl) (by decide) ?_
              exact ih5 (q2_21 + 1) _ _ _ (by omega) (by (try simp only [lg_cmp_lt, lg_cmp_le, lg_cmp_gt, lg_cmp_ge, lg_cmp_eq] at hc1); (try simp (disch := omega) only [ta_lt, ta_le, ta_eq, tb_lt, tb_le, tb_eq, tw, tnI, tsub1, tsv, tn32 1 (by decide), tnj 1 (by decide), tl32 0 (by decide), tl64 0 (by decide), tl32 2 (by decide), tl64 2 (by decide), tl32 4 (by decide), tl64 4 (by decide), tl32 8 (by decide), tl64 8 (by decide), tl32 413480 (by decide), tl64 413480 (by decide)] at hc1); (try simp only [lg_cmp_lt, lg_cmp_le, lg_cmp_gt, lg_cmp_ge, lg_cmp_eq] at c4); (try simp (disch := omega) only [ta_lt, ta_le, ta_eq, tb_lt, tb_le, tb_eq, tw, tnI, tsub1, tsv, tn32 1 (by decide), tnj 1 (by decide), tl32 0 (by decide), tl64 0 (by decide), tl32 2 (by decide), tl64 2 (by decide), tl32 4 (by decide), tl64 4 (by decide), tl32 8 (by decide), tl64 8 (by decide), tl32 413480 (by decide), tl64 413480 (by decide)] at c4); (try simp only [lg_cmp_lt, lg_cmp_le, lg_cmp_gt, lg_cmp_ge, lg_cmp_eq] at c6); (try simp (disch := omega) only [ta_lt, ta_le, ta_eq, tb_lt, tb_le, tb_eq, tw, tnI, tsub1, tsv, tn32 1 (by decide), tnj 1 (by decide), tl32 0 (by decide), tl64 0 (by decide), tl32 2 (by decide), tl64 2 (by decide), tl32 4 (by decide), tl64 4 (by decide), tl32 8 (by decide), tl64 8 (by decide), tl32 413480 (by decide), tl64 413480 (by decide)] at c6); (try simp only [lg_cmp_lt, lg_cmp_le, lg_cmp_gt, lg_cmp_ge, lg_cmp_eq] at c10); (try simp (disch := omega) only [ta_lt, ta_le, ta_eq, tb_lt, tb_le, tb_eq, tw, tnI, tsub1, tsv, tn32 1 (by decide), tnj 1 (by decide), tl32 0 (by decide), tl64 0 (by decide), tl32 2 (by decide), tl64 2 (by decide), tl32 4 (by decide), tl64 4 (by decide), tl32 8 (by decide), tl64 8 (by decide), tl32 413480 (by decide), tl64 413480 (by decide)] at c10); (try simp (disch := omega) only [ta_lt, ta_le, ta_eq, tb_lt, tb_le, tb_eq, tw, tnI, tsub1, tsv, tn32 1 (by decide), tnj 1 (by decide), tl32 0 (by decide), tl64 0 (by decide), tl32 2 (by decide), tl64 2 (by decide), tl32 4 (by decide), tl64 4 (by decide), tl32 8 (by decide), tl64 8 (by decide), tl32 413480 (by decide), tl64 413480 (by decide)]); omega) hw (lv_sub hl [0, 1, 2] rfl)
            · (try simp (disch := omega) only [ta_lt, ta_le, ta_eq, tnI, tn32 1 (by decide)] at c10)
              refine lv_aload_n hx hb (dkP dF_42 DX12_retire (i := 27) rfl rfl) rfl (lv_at hl 1 rfl) ?_
              refine lv_iload_n hx hb (dkP dF_28 DX12_retire (i := 28) rfl rfl) rfl (lv_at hl 0 rfl) ?_
              refine zk_I hw (zr_V (As := [.int (nI q2_21)]) (rest := []) C0 (c_X12_isOver l G kc ad σ q2_21 (by first | omega | assumption | decide | rfl) hT _) cv_X12_isOver lk_X12_461 (zp_V C0 hRo hw 0 rfl rfl rfl) rfl hl.1 rfl ⟨by decide, by decide⟩ (Nat.le_of_ble_eq_true rfl) (dk2 dF_182 DX12_retire (i := 29) rfl rfl rfl) ⟨Nat.le_refl _, Nat.le_refl _⟩) (fun r11 s11 H locs hp hw => ?_)
              obtain ⟨f11_0, hs11⟩ := hp
              (rw [hs11] at hw)
              rcases f11_0 with ⟨rfl, hc11⟩ | ⟨rfl, hc11⟩
              · skip
                refine lv_if_ne (tgt := 56) hx hb (dkS dF_154 DX12_retire (i := 30) rfl rfl rfl) (by decide) (fun _ => ?_) (fun h => absurd h (by decide))
                refine lv_iinc (v := nI (q2_21 + 1)) (lv' := [(2, .int (nI (q2_21 + 1))), (0, .ref (ad 0)), (1, .int (nI k_program))]) hx hb (dkI DX12_retire (i := 33) rfl rfl rfl rfl) hl (k := 0) rfl (nI_1 _) (by decide) rfl (fun ls hl => ?_)
                refine lv_goto (tgt := 21) hx hb (dkS dF_167 DX12_retire (i := 34) rfl rfl rfl) (by decide) ?_
                exact ih5 (q2_21 + 1) _ _ _ (by omega) (by (try simp only [lg_cmp_lt, lg_cmp_le, lg_cmp_gt, lg_cmp_ge, lg_cmp_eq] at hc1); (try simp (disch := omega) only [ta_lt, ta_le, ta_eq, tb_lt, tb_le, tb_eq, tw, tnI, tsub1, tsv, tn32 1 (by decide), tnj 1 (by decide), tl32 0 (by decide), tl64 0 (by decide), tl32 2 (by decide), tl64 2 (by decide), tl32 4 (by decide), tl64 4 (by decide), tl32 8 (by decide), tl64 8 (by decide), tl32 413480 (by decide), tl64 413480 (by decide)] at hc1); (try simp only [lg_cmp_lt, lg_cmp_le, lg_cmp_gt, lg_cmp_ge, lg_cmp_eq] at c4); (try simp (disch := omega) only [ta_lt, ta_le, ta_eq, tb_lt, tb_le, tb_eq, tw, tnI, tsub1, tsv, tn32 1 (by decide), tnj 1 (by decide), tl32 0 (by decide), tl64 0 (by decide), tl32 2 (by decide), tl64 2 (by decide), tl32 4 (by decide), tl64 4 (by decide), tl32 8 (by decide), tl64 8 (by decide), tl32 413480 (by decide), tl64 413480 (by decide)] at c4); (try simp only [lg_cmp_lt, lg_cmp_le, lg_cmp_gt, lg_cmp_ge, lg_cmp_eq] at c6); (try simp (disch := omega) only [ta_lt, ta_le, ta_eq, tb_lt, tb_le, tb_eq, tw, tnI, tsub1, tsv, tn32 1 (by decide), tnj 1 (by decide), tl32 0 (by decide), tl64 0 (by decide), tl32 2 (by decide), tl64 2 (by decide), tl32 4 (by decide), tl64 4 (by decide), tl32 8 (by decide), tl64 8 (by decide), tl32 413480 (by decide), tl64 413480 (by decide)] at c6); (try simp only [lg_cmp_lt, lg_cmp_le, lg_cmp_gt, lg_cmp_ge, lg_cmp_eq] at c10); (try simp (disch := omega) only [ta_lt, ta_le, ta_eq, tb_lt, tb_le, tb_eq, tw, tnI, tsub1, tsv, tn32 1 (by decide), tnj 1 (by decide), tl32 0 (by decide), tl64 0 (by decide), tl32 2 (by decide), tl64 2 (by decide), tl32 4 (by decide), tl64 4 (by decide), tl32 8 (by decide), tl64 8 (by decide), tl32 413480 (by decide), tl64 413480 (by decide)] at c10); (try simp only [lg_cmp_lt, lg_cmp_le, lg_cmp_gt, lg_cmp_ge, lg_cmp_eq] at f11_0); (try simp (disch := omega) only [ta_lt, ta_le, ta_eq, tb_lt, tb_le, tb_eq, tw, tnI, tsub1, tsv, tn32 1 (by decide), tnj 1 (by decide), tl32 0 (by decide), tl64 0 (by decide), tl32 2 (by decide), tl64 2 (by decide), tl32 4 (by decide), tl64 4 (by decide), tl32 8 (by decide), tl64 8 (by decide), tl32 413480 (by decide), tl64 413480 (by decide)] at f11_0); (try simp only [lg_cmp_lt, lg_cmp_le, lg_cmp_gt, lg_cmp_ge, lg_cmp_eq] at hc11); (try simp (disch := omega) only [ta_lt, ta_le, ta_eq, tb_lt, tb_le, tb_eq, tw, tnI, tsub1, tsv, tn32 1 (by decide), tnj 1 (by decide), tl32 0 (by decide), tl64 0 (by decide), tl32 2 (by decide), tl64 2 (by decide), tl32 4 (by decide), tl64 4 (by decide), tl32 8 (by decide), tl64 8 (by decide), tl32 413480 (by decide), tl64 413480 (by decide)] at hc11); (try simp (disch := omega) only [ta_lt, ta_le, ta_eq, tb_lt, tb_le, tb_eq, tw, tnI, tsub1, tsv, tn32 1 (by decide), tnj 1 (by decide), tl32 0 (by decide), tl64 0 (by decide), tl32 2 (by decide), tl64 2 (by decide), tl32 4 (by decide), tl64 4 (by decide), tl32 8 (by decide), tl64 8 (by decide), tl32 413480 (by decide), tl64 413480 (by decide)]); omega) hw (lv_sub hl [0, 1, 2] rfl)
              · skip
                refine lv_if_ne (tgt := 56) hx hb (dkS dF_154 DX12_retire (i := 30) rfl rfl rfl) (by decide) (fun h => absurd h (by decide)) (fun _ => ?_)
                refine lv_bipush (v := (-5)) hx hb (dks dF_16 DX12_retire (i := 31) rfl rfl rfl) (by decide) ?_
                exact z_iret C0 hr hlk hw (⟨hT, fr.refl⟩) (dkP dF_172 DX12_retire (i := 32) rfl rfl)
      exact lp5 _ 0 _ _ _ (Nat.lt_succ_self _) (by (try simp only [lg_cmp_lt, lg_cmp_le, lg_cmp_gt, lg_cmp_ge, lg_cmp_eq] at hc1); (try simp (disch := omega) only [ta_lt, ta_le, ta_eq, tb_lt, tb_le, tb_eq, tw, tnI, tsub1, tsv, tn32 5 (by decide), tnj 5 (by decide), tn32 1 (by decide), tnj 1 (by decide), tl32 0 (by decide), tl64 0 (by decide), tl32 2 (by decide), tl64 2 (by decide), tl32 4 (by decide), tl64 4 (by decide), tl32 8 (by decide), tl64 8 (by decide), tl32 413480 (by decide), tl64 413480 (by decide)] at hc1); (try simp only [lg_cmp_lt, lg_cmp_le, lg_cmp_gt, lg_cmp_ge, lg_cmp_eq] at c4); (try simp (disch := omega) only [ta_lt, ta_le, ta_eq, tb_lt, tb_le, tb_eq, tw, tnI, tsub1, tsv, tn32 5 (by decide), tnj 5 (by decide), tn32 1 (by decide), tnj 1 (by decide), tl32 0 (by decide), tl64 0 (by decide), tl32 2 (by decide), tl64 2 (by decide), tl32 4 (by decide), tl64 4 (by decide), tl32 8 (by decide), tl64 8 (by decide), tl32 413480 (by decide), tl64 413480 (by decide)] at c4); (try simp (disch := omega) only [ta_lt, ta_le, ta_eq, tb_lt, tb_le, tb_eq, tw, tnI, tsub1, tsv, tn32 5 (by decide), tnj 5 (by decide), tn32 1 (by decide), tnj 1 (by decide), tl32 0 (by decide), tl64 0 (by decide), tl32 2 (by decide), tl64 2 (by decide), tl32 4 (by decide), tl64 4 (by decide), tl32 8 (by decide), tl64 8 (by decide), tl32 413480 (by decide), tl64 413480 (by decide)]); omega) hw (lv_sub hl [0, 1, 2] rfl)
    · (try simp (disch := omega) only [ta_lt, ta_le, ta_eq, tnI, tl32 2 (by decide)] at c4)
      refine lv_bipush (v := (-2)) hx hb (dks dF_16 DX12_retire (i := 8) rfl rfl rfl) (by decide) ?_
      exact z_iret C0 hr hlk hw (⟨hT, fr.refl⟩) (dkP dF_172 DX12_retire (i := 9) rfl rfl)
  · skip
    (try simp (disch := omega) only [ta_lt, ta_le, ta_eq, tb_lt, tb_le, tb_eq, tw, tnI, tn32 5 (by decide), tnj 5 (by decide), tn32 2 (by decide), tnj 2 (by decide), tn32 1 (by decide), tnj 1 (by decide), tl32 0 (by decide), tl64 0 (by decide), tl32 2 (by decide), tl64 2 (by decide), tl32 4 (by decide), tl64 4 (by decide), tl32 8 (by decide), tl64 8 (by decide), tl32 413480 (by decide), tl64 413480 (by decide)] at hc1)
    refine lv_if_eq (tgt := 16) hx hb (dkS dF_153 DX12_retire (i := 2) rfl rfl rfl) (by decide) (fun _ => ?_) (fun h => absurd h (by decide))
    refine lv_bipush (v := (-2)) hx hb (dks dF_16 DX12_retire (i := 8) rfl rfl rfl) (by decide) ?_
    exact z_iret C0 hr hlk hw (⟨hT, fr.refl⟩) (dkP dF_172 DX12_retire (i := 9) rfl rfl)
set_option maxRecDepth 100000 in
set_option maxHeartbeats 8000000 in
theorem c_X12_state (l : Launch) (G : va_G) (kc : KC) (ad : Nat → Nat) (σ : Sg) (program : Int32) (hT : TM σ) : MI l G kc yX12_state cX12_state 2 (some .int) 2 45 [.ref (ad 0), .int program] shM ad σ (fun r σ1 => σ1 = σ) := by
  intro sz
  refine z_body (y := yX12_state) (n := 2) (av := [.ref (ad 0), .int program]) (Qc := fun A => va_Qi (fun r σ1 => σ1 = σ) (PoC G kc shM ad A) A) (plainFor_of_name (by decide)) (Nat.le_of_ble_eq_true rfl) (fun pr e s m below meth c A C0 hr hlk hnm hw hRo ls hl => ?_) sz
  have hx := C0.1
  have hb := C0.2.1
  have hown := C0.2.2.2.1
  have hts := C0.2.2.2.2.1
  have hl : lv_has ls 2 [(0, .ref (ad 0)), (1, .int program)] := hl
  refine lv_iload_n hx hb (dkP dF_27 DX12_state (i := 0) rfl rfl) rfl (lv_at hl 1 rfl) ?_
  refine zn_I hw (zr_S (As := [.int program]) (rest := []) C0 (c_X12_isProgram l G kc program  _) cs_X12_isProgram lk_X12_272 (zp_P C0 hRo hw a00 s00) rfl hl.1 rfl ⟨by decide, by decide⟩ (Nat.le_of_ble_eq_true rfl) (dk2 dF_184 DX12_state (i := 1) rfl rfl rfl) ⟨Nat.le_refl _, Nat.le_refl _⟩) (fun r1 s1 H locs hp hw => ?_)
  rcases hp with ⟨rfl, hc1⟩ | ⟨rfl, hc1⟩
  · skip
    (try simp (disch := omega) only [ta_lt, ta_le, ta_eq, tb_lt, tb_le, tb_eq, tw, tnI, tn32 1 (by decide), tnj 1 (by decide), tl32 0 (by decide), tl64 0 (by decide)] at hc1)
    obtain ⟨k_program, hk_program, rfl⟩ := to_nat (x := program) (n := 8) (by (try simp only [lg_cmp_lt, lg_cmp_le, lg_cmp_gt, lg_cmp_ge, lg_cmp_eq] at hc1); (try simp (disch := omega) only [ta_lt, ta_le, ta_eq, tb_lt, tb_le, tb_eq, tw, tnI, tn32 1 (by decide), tnj 1 (by decide), tl32 0 (by decide), tl64 0 (by decide)] at hc1); (try simp (disch := omega) only [ta_lt, ta_le, ta_eq, tb_lt, tb_le, tb_eq, tw, tnI, tn32 1 (by decide), tnj 1 (by decide), tl32 0 (by decide), tl64 0 (by decide)]); omega)
    refine lv_if_eq (tgt := 15) hx hb (dkS dF_153 DX12_state (i := 2) rfl rfl rfl) (by decide) (fun h => absurd h (by decide)) (fun _ => ?_)
    refine lv_aload_n hx hb (dkP dF_42 DX12_state (i := 3) rfl rfl) rfl (lv_at hl 0 rfl) ?_
    refine lv_iload_n hx hb (dkP dF_27 DX12_state (i := 4) rfl rfl) rfl (lv_at hl 1 rfl) ?_
    refine zk_I hw (zr_V (As := [.int (nI k_program)]) (rest := []) C0 (c_X12_stateOf l G kc ad σ k_program (by first | omega | assumption | decide | rfl) _) cv_X12_stateOf lk_X12_275 (zp_V C0 hRo hw 0 rfl rfl rfl) rfl hl.1 rfl ⟨by decide, by decide⟩ (Nat.le_of_ble_eq_true rfl) (dk2 dF_182 DX12_state (i := 5) rfl rfl rfl) ⟨Nat.le_refl _, Nat.le_refl _⟩) (fun r2 s2 H locs hp hw => ?_)
    obtain ⟨rfl, hs2⟩ := hp
    (rw [hs2] at hw; clear hs2)
    obtain ⟨v3, ev3⟩ : ∃ y : Int32, σ.1 1 (8 + 20 * k_program) = y := ⟨_, rfl⟩
    refine z_top (y := v3) ev3 ?_
    refine lv_goto (tgt := 17) hx hb (dkS dF_167 DX12_state (i := 6) rfl rfl rfl) (by decide) ?_
    exact z_iret C0 hr hlk hw rfl (dkP dF_172 DX12_state (i := 8) rfl rfl)
  · skip
    (try simp (disch := omega) only [ta_lt, ta_le, ta_eq, tb_lt, tb_le, tb_eq, tw, tnI, tn32 1 (by decide), tnj 1 (by decide), tl32 0 (by decide), tl64 0 (by decide)] at hc1)
    refine lv_if_eq (tgt := 15) hx hb (dkS dF_153 DX12_state (i := 2) rfl rfl rfl) (by decide) (fun _ => ?_) (fun h => absurd h (by decide))
    refine lv_bipush (v := (-2)) hx hb (dks dF_16 DX12_state (i := 7) rfl rfl rfl) (by decide) ?_
    exact z_iret C0 hr hlk hw rfl (dkP dF_172 DX12_state (i := 8) rfl rfl)
set_option maxRecDepth 100000 in
set_option maxHeartbeats 8000000 in
theorem c_X12_mayBeNext_0 (l : Launch) (G : va_G) (kc : KC) (ad : Nat → Nat) (σ : Sg) (pg : Nat) (ovr : Int32) (hp8 : pg < 8) (hT : TM σ) : MI l G kc yX12_mayBeNext cX12_mayBeNext 4 (some .boolean) 1 22 [.ref (ad 0), .int (nI pg), .int ovr] shM ad σ (fun r σ1 => ((r = 1 ∧ (True)) ∨ (r = 0 ∧ (True))) ∧ σ1 = σ) := by
  intro sz
  refine z_body (y := yX12_mayBeNext) (n := 4) (av := [.ref (ad 0), .int (nI pg), .int ovr]) (Qc := fun A => va_Qi (fun r σ1 => ((r = 1 ∧ (True)) ∨ (r = 0 ∧ (True))) ∧ σ1 = σ) (PoC G kc shM ad A) A) (plainFor_of_name (by decide)) (Nat.le_of_ble_eq_true rfl) (fun pr e s m below meth c A C0 hr hlk hnm hw hRo ls hl => ?_) sz
  have hx := C0.1
  have hb := C0.2.1
  have hown := C0.2.2.2.1
  have hts := C0.2.2.2.2.1
  have hl : lv_has ls 4 [(0, .ref (ad 0)), (1, .int (nI pg)), (2, .int ovr)] := hl
  refine lv_iconst (v := 0) hx hb (dkP dF_3 DX12_mayBeNext (i := 0) rfl rfl) (by decide) ?_
  refine lv_istore_n (lv' := [(3, .int 0), (0, .ref (ad 0)), (1, .int (nI pg)), (2, .int ovr)]) hx hb (dkP dF_62 DX12_mayBeNext (i := 1) rfl rfl) rfl hl (by decide) rfl (fun ls hl => ?_)
  have lp1 : ∀ (nq : Nat) (q3_2 : Nat) (H : Heap) (locs : List Loc) (ls : Array Slot), 8 - q3_2 < nq → (q3_2 ≤ 8) → St G kc A s.heap shM ad σ H locs → lv_has ls 4 [(3, .int (nI q3_2)), (0, .ref (ad 0)), (1, .int (nI pg)), (2, .int ovr)] → W pr l e { frames := 1, cells := 0, slots := 0, locals := 22 } s m ([.ref (ad 0), .int (nI pg), .int ovr] : List Value).toArray below meth c H locs 0 0 (MQ below (va_Qi (fun r σ1 => ((r = 1 ∧ (True)) ∨ (r = 0 ∧ (True))) ∧ σ1 = σ) (PoC G kc shM ad A) A) ([.ref (ad 0), .int (nI pg), .int ovr] : List Value).toArray s 0 0 A) (F0 m 2 ls []) := by
    intro nq
    induction nq with
    | zero => intro q3_2 H locs ls hmu; exact absurd hmu (Nat.not_lt_zero _)
    | succ nq ih1 =>
      intro q3_2 H locs ls hmu hq3_2 hw hl
      refine lv_iload_n hx hb (dkP dF_29 DX12_mayBeNext (i := 2) rfl rfl) rfl (lv_at hl 0 rfl) ?_
      refine lv_bipush (v := 8) hx hb (dks dF_16 DX12_mayBeNext (i := 3) rfl rfl rfl) (by decide) ?_
      refine lv_icmp_ge (tgt := 33) hx hb (dkS dF_162 DX12_mayBeNext (i := 4) rfl rfl rfl) (by decide) (fun c2 => ?_) (fun c2 => ?_)
      · simp (disch := omega) only [ta_lt, ta_le, ta_eq, tnI, tl32 8 (by decide)] at c2
        refine lv_iload_n hx hb (dkP dF_28 DX12_mayBeNext (i := 20) rfl rfl) rfl (lv_at hl 3 rfl) ?_
        refine lv_iload_n hx hb (dkP dF_27 DX12_mayBeNext (i := 21) rfl rfl) rfl (lv_at hl 2 rfl) ?_
        refine lv_ishr hx hb (dkP dF_122 DX12_mayBeNext (i := 22) rfl rfl) ?_
        refine lv_iconst (v := 1) hx hb (dkP dF_4 DX12_mayBeNext (i := 23) rfl rfl) (by decide) ?_
        refine lv_iand hx hb (dkP dF_126 DX12_mayBeNext (i := 24) rfl rfl) ?_
        refine lv_if_ne (tgt := 45) hx hb (dkS dF_154 DX12_mayBeNext (i := 25) rfl rfl rfl) (by decide) (fun c3 => ?_) (fun c3 => ?_)
        · (try simp (disch := omega) only [ta_lt, ta_le, ta_eq, tnI, tl32 0 (by decide)] at c3)
          refine lv_iconst (v := 0) hx hb (dkP dF_3 DX12_mayBeNext (i := 28) rfl rfl) (by decide) ?_
          exact z_zret C0 hr hlk (by decide) hw (⟨(Or.inr ⟨rfl, trivial⟩), rfl⟩) (dkP dF_172 DX12_mayBeNext (i := 29) rfl rfl)
        · (try simp (disch := omega) only [ta_lt, ta_le, ta_eq, tnI, tl32 0 (by decide)] at c3)
          refine lv_iconst (v := 1) hx hb (dkP dF_4 DX12_mayBeNext (i := 26) rfl rfl) (by decide) ?_
          refine lv_goto (tgt := 46) hx hb (dkS dF_167 DX12_mayBeNext (i := 27) rfl rfl rfl) (by decide) ?_
          exact z_zret C0 hr hlk (by decide) hw (⟨(Or.inl ⟨rfl, trivial⟩), rfl⟩) (dkP dF_172 DX12_mayBeNext (i := 29) rfl rfl)
      · simp (disch := omega) only [ta_lt, ta_le, ta_eq, tnI, tl32 8 (by decide)] at c2
        refine lv_aload_n hx hb (dkP dF_42 DX12_mayBeNext (i := 5) rfl rfl) rfl (lv_at hl 1 rfl) ?_
        refine lv_iload_n hx hb (dkP dF_27 DX12_mayBeNext (i := 6) rfl rfl) rfl (lv_at hl 2 rfl) ?_
        refine lv_iload_n hx hb (dkP dF_29 DX12_mayBeNext (i := 7) rfl rfl) rfl (lv_at hl 0 rfl) ?_
        refine zk_I hw (zr_V (As := [.int (nI pg), .int (nI q3_2)]) (rest := []) C0 (c_X12_isNeed l G kc ad σ pg q3_2 (by first | omega | assumption | decide | rfl) (by first | omega | assumption | decide | rfl) hT _) cv_X12_isNeed lk_X12_455 (zp_V C0 hRo hw 0 rfl rfl rfl) rfl hl.1 rfl ⟨by decide, by decide⟩ (Nat.le_of_ble_eq_true rfl) (dk2 dF_182 DX12_mayBeNext (i := 8) rfl rfl rfl) ⟨Nat.le_refl _, Nat.le_refl _⟩) (fun r4 s4 H locs hp hw => ?_)
        obtain ⟨f4_0, hs4⟩ := hp
        (rw [hs4] at hw)
        rcases f4_0 with ⟨rfl, hc4⟩ | ⟨rfl, hc4⟩
        · skip
          refine lv_if_eq (tgt := 27) hx hb (dkS dF_153 DX12_mayBeNext (i := 9) rfl rfl rfl) (by decide) (fun h => absurd h (by decide)) (fun _ => ?_)
          refine lv_iload_n hx hb (dkP dF_28 DX12_mayBeNext (i := 10) rfl rfl) rfl (lv_at hl 3 rfl) ?_
          refine lv_iload_n hx hb (dkP dF_29 DX12_mayBeNext (i := 11) rfl rfl) rfl (lv_at hl 0 rfl) ?_
          refine lv_ishr hx hb (dkP dF_122 DX12_mayBeNext (i := 12) rfl rfl) ?_
          refine lv_iconst (v := 1) hx hb (dkP dF_4 DX12_mayBeNext (i := 13) rfl rfl) (by decide) ?_
          refine lv_iand hx hb (dkP dF_126 DX12_mayBeNext (i := 14) rfl rfl) ?_
          refine lv_if_ne (tgt := 27) hx hb (dkS dF_154 DX12_mayBeNext (i := 15) rfl rfl rfl) (by decide) (fun c5 => ?_) (fun c5 => ?_)
          · (try simp (disch := omega) only [ta_lt, ta_le, ta_eq, tnI, tl32 0 (by decide)] at c5)
            refine lv_iinc (v := nI (q3_2 + 1)) (lv' := [(3, .int (nI (q3_2 + 1))), (0, .ref (ad 0)), (1, .int (nI pg)), (2, .int ovr)]) hx hb (dkI DX12_mayBeNext (i := 18) rfl rfl rfl rfl) hl (k := 0) rfl (nI_1 _) (by decide) rfl (fun ls hl => ?_)
            refine lv_goto (tgt := 2) hx hb (dkS dF_167 DX12_mayBeNext (i := 19) rfl rfl rfl) (by decide) ?_
            exact ih1 (q3_2 + 1) _ _ _ (by omega) (by (try simp only [lg_cmp_lt, lg_cmp_le, lg_cmp_gt, lg_cmp_ge, lg_cmp_eq] at c2); (try simp (disch := omega) only [ta_lt, ta_le, ta_eq, tb_lt, tb_le, tb_eq, tw, tnI, tsub1, tsv, tn32 1 (by decide), tnj 1 (by decide), tl32 0 (by decide), tl64 0 (by decide), tl32 1 (by decide), tl64 1 (by decide), tl32 8 (by decide), tl64 8 (by decide)] at c2); (try simp only [lg_cmp_lt, lg_cmp_le, lg_cmp_gt, lg_cmp_ge, lg_cmp_eq] at f4_0); (try simp (disch := omega) only [ta_lt, ta_le, ta_eq, tb_lt, tb_le, tb_eq, tw, tnI, tsub1, tsv, tn32 1 (by decide), tnj 1 (by decide), tl32 0 (by decide), tl64 0 (by decide), tl32 1 (by decide), tl64 1 (by decide), tl32 8 (by decide), tl64 8 (by decide)] at f4_0); (try simp only [lg_cmp_lt, lg_cmp_le, lg_cmp_gt, lg_cmp_ge, lg_cmp_eq] at hc4); (try simp (disch := omega) only [ta_lt, ta_le, ta_eq, tb_lt, tb_le, tb_eq, tw, tnI, tsub1, tsv, tn32 1 (by decide), tnj 1 (by decide), tl32 0 (by decide), tl64 0 (by decide), tl32 1 (by decide), tl64 1 (by decide), tl32 8 (by decide), tl64 8 (by decide)] at hc4); (try simp only [lg_cmp_lt, lg_cmp_le, lg_cmp_gt, lg_cmp_ge, lg_cmp_eq] at c5); (try simp (disch := omega) only [ta_lt, ta_le, ta_eq, tb_lt, tb_le, tb_eq, tw, tnI, tsub1, tsv, tn32 1 (by decide), tnj 1 (by decide), tl32 0 (by decide), tl64 0 (by decide), tl32 1 (by decide), tl64 1 (by decide), tl32 8 (by decide), tl64 8 (by decide)] at c5); (try simp (disch := omega) only [ta_lt, ta_le, ta_eq, tb_lt, tb_le, tb_eq, tw, tnI, tsub1, tsv, tn32 1 (by decide), tnj 1 (by decide), tl32 0 (by decide), tl64 0 (by decide), tl32 1 (by decide), tl64 1 (by decide), tl32 8 (by decide), tl64 8 (by decide)]); omega) hw (lv_sub hl [0, 1, 2, 3] rfl)
          · (try simp (disch := omega) only [ta_lt, ta_le, ta_eq, tnI, tl32 0 (by decide)] at c5)
            refine lv_iconst (v := 0) hx hb (dkP dF_3 DX12_mayBeNext (i := 16) rfl rfl) (by decide) ?_
            exact z_zret C0 hr hlk (by decide) hw (⟨(Or.inr ⟨rfl, trivial⟩), rfl⟩) (dkP dF_172 DX12_mayBeNext (i := 17) rfl rfl)
        · skip
          refine lv_if_eq (tgt := 27) hx hb (dkS dF_153 DX12_mayBeNext (i := 9) rfl rfl rfl) (by decide) (fun _ => ?_) (fun h => absurd h (by decide))
          refine lv_iinc (v := nI (q3_2 + 1)) (lv' := [(3, .int (nI (q3_2 + 1))), (0, .ref (ad 0)), (1, .int (nI pg)), (2, .int ovr)]) hx hb (dkI DX12_mayBeNext (i := 18) rfl rfl rfl rfl) hl (k := 0) rfl (nI_1 _) (by decide) rfl (fun ls hl => ?_)
          refine lv_goto (tgt := 2) hx hb (dkS dF_167 DX12_mayBeNext (i := 19) rfl rfl rfl) (by decide) ?_
          exact ih1 (q3_2 + 1) _ _ _ (by omega) (by (try simp only [lg_cmp_lt, lg_cmp_le, lg_cmp_gt, lg_cmp_ge, lg_cmp_eq] at c2); (try simp (disch := omega) only [ta_lt, ta_le, ta_eq, tb_lt, tb_le, tb_eq, tw, tnI, tsub1, tsv, tn32 1 (by decide), tnj 1 (by decide), tl32 0 (by decide), tl64 0 (by decide), tl32 1 (by decide), tl64 1 (by decide), tl32 8 (by decide), tl64 8 (by decide)] at c2); (try simp only [lg_cmp_lt, lg_cmp_le, lg_cmp_gt, lg_cmp_ge, lg_cmp_eq] at f4_0); (try simp (disch := omega) only [ta_lt, ta_le, ta_eq, tb_lt, tb_le, tb_eq, tw, tnI, tsub1, tsv, tn32 1 (by decide), tnj 1 (by decide), tl32 0 (by decide), tl64 0 (by decide), tl32 1 (by decide), tl64 1 (by decide), tl32 8 (by decide), tl64 8 (by decide)] at f4_0); (try simp only [lg_cmp_lt, lg_cmp_le, lg_cmp_gt, lg_cmp_ge, lg_cmp_eq] at hc4); (try simp (disch := omega) only [ta_lt, ta_le, ta_eq, tb_lt, tb_le, tb_eq, tw, tnI, tsub1, tsv, tn32 1 (by decide), tnj 1 (by decide), tl32 0 (by decide), tl64 0 (by decide), tl32 1 (by decide), tl64 1 (by decide), tl32 8 (by decide), tl64 8 (by decide)] at hc4); (try simp (disch := omega) only [ta_lt, ta_le, ta_eq, tb_lt, tb_le, tb_eq, tw, tnI, tsub1, tsv, tn32 1 (by decide), tnj 1 (by decide), tl32 0 (by decide), tl64 0 (by decide), tl32 1 (by decide), tl64 1 (by decide), tl32 8 (by decide), tl64 8 (by decide)]); omega) hw (lv_sub hl [0, 1, 2, 3] rfl)
  exact lp1 _ 0 _ _ _ (Nat.lt_succ_self _) (by (try simp (disch := omega) only [ta_lt, ta_le, ta_eq, tb_lt, tb_le, tb_eq, tw, tnI, tsub1, tsv, tn32 1 (by decide), tnj 1 (by decide), tl32 0 (by decide), tl64 0 (by decide), tl32 1 (by decide), tl64 1 (by decide), tl32 8 (by decide), tl64 8 (by decide)]); omega) hw (lv_sub hl [0, 1, 2, 3] rfl)
set_option maxRecDepth 100000 in
set_option maxHeartbeats 8000000 in
theorem c_X12_planned (l : Launch) (G : va_G) (kc : KC) (ad : Nat → Nat) (σ : Sg) (ix : Int32) (hT : TM σ) : MI l G kc yX12_planned cX12_planned 2 (some .int) 1 25 [.ref (ad 0), .int ix] shM ad σ (fun r σ1 => σ1 = σ) := by
  intro sz
  refine z_body (y := yX12_planned) (n := 2) (av := [.ref (ad 0), .int ix]) (Qc := fun A => va_Qi (fun r σ1 => σ1 = σ) (PoC G kc shM ad A) A) (plainFor_of_name (by decide)) (Nat.le_of_ble_eq_true rfl) (fun pr e s m below meth c A C0 hr hlk hnm hw hRo ls hl => ?_) sz
  have hx := C0.1
  have hb := C0.2.1
  have hown := C0.2.2.2.1
  have hts := C0.2.2.2.2.1
  have hl : lv_has ls 2 [(0, .ref (ad 0)), (1, .int ix)] := hl
  refine lv_iload_n hx hb (dkP dF_27 DX12_planned (i := 0) rfl rfl) rfl (lv_at hl 1 rfl) ?_
  refine lv_i2l hx hb (dkP dF_133 DX12_planned (i := 1) rfl rfl) rfl ?_
  refine lv_lconst (v := 0) hx hb (dkP dF_9 DX12_planned (i := 2) rfl rfl) (by decide) ?_
  refine lv_aload_n hx hb (dkP dF_42 DX12_planned (i := 3) rfl rfl) rfl (lv_at hl 0 rfl) ?_
  refine z_gi C0 hw 0 49 rfl fl_X12_475 (dk2 dF_180 DX12_planned (i := 4) rfl rfl rfl) ?_
  obtain ⟨n1, hn1, en1⟩ := rngN (x := σ.1 0 49) (h := 8) (show 0 ≤ _ ∧ _ ≤ 8 from hT 0 49)
  refine z_top (y := nI n1) en1 ?_
  refine lv_iconst (v := 1) hx hb (dkP dF_4 DX12_planned (i := 5) rfl rfl) (by decide) ?_
  refine lv_isub hx hb (dkP dF_100 DX12_planned (i := 6) rfl rfl) ?_
  refine lv_i2l hx hb (dkP dF_133 DX12_planned (i := 7) rfl rfl) rfl ?_
  refine zn_I hw (zr_S (As := [.long ix.toInt64, .long 0, .long (((nI n1) - 1).toInt64)]) (rest := []) C0 (c_X12_in l G kc ix.toInt64 0 (((nI n1) - 1).toInt64)  _) cs_X12_in lk_X12_9 (zp_P C0 hRo hw a00 s00) rfl hl.1 rfl ⟨by decide, by decide⟩ (Nat.le_of_ble_eq_true rfl) (dk2 dF_184 DX12_planned (i := 8) rfl rfl rfl) ⟨Nat.le_refl _, Nat.le_refl _⟩) (fun r2 s2 H locs hp hw => ?_)
  rcases hp with ⟨rfl, hc2⟩ | ⟨rfl, hc2⟩
  · skip
    (try simp (disch := omega) only [ta_lt, ta_le, ta_eq, tb_lt, tb_le, tb_eq, tw, tnI, tn32 1 (by decide), tnj 1 (by decide), tl32 0 (by decide), tl64 0 (by decide), tl32 1 (by decide), tl64 1 (by decide)] at hc2)
    refine lv_if_eq (tgt := 25) hx hb (dkS dF_153 DX12_planned (i := 9) rfl rfl rfl) (by decide) (fun h => absurd h (by decide)) (fun _ => ?_)
    obtain ⟨xn, hxn, rfl⟩ := to_nat (x := ix) (n := 8) (by (try simp only [lg_cmp_lt, lg_cmp_le, lg_cmp_gt, lg_cmp_ge, lg_cmp_eq] at hc2); (try simp (disch := omega) only [ta_lt, ta_le, ta_eq, tb_lt, tb_le, tb_eq, tw, tnI, tsub1, tsv, tn32 1 (by decide), tnj 1 (by decide), tl32 0 (by decide), tl64 0 (by decide), tl32 1 (by decide), tl64 1 (by decide)] at hc2); (try simp (disch := omega) only [ta_lt, ta_le, ta_eq, tb_lt, tb_le, tb_eq, tw, tnI, tsub1, tsv, tn32 1 (by decide), tnj 1 (by decide), tl32 0 (by decide), tl64 0 (by decide), tl32 1 (by decide), tl64 1 (by decide)]); omega)
    refine lv_aload_n hx hb (dkP dF_42 DX12_planned (i := 10) rfl rfl) rfl (lv_at hl 0 rfl) ?_
    refine z_gr C0 hw 0 48 32 rfl fl_X12_123 (dk2 dF_180 DX12_planned (i := 11) rfl rfl rfl) ?_
    refine lv_iload_n hx hb (dkP dF_27 DX12_planned (i := 12) rfl rfl) rfl (lv_at hl 1 rfl) ?_
    refine z_ialdN (n := 8) C0 hw 32 xn rfl (by omega) (by decide) (dkP dF_46 DX12_planned (i := 13) rfl rfl) ?_
    obtain ⟨v3, ev3⟩ : ∃ y : Int32, σ.1 32 xn = y := ⟨_, rfl⟩
    refine z_top (y := v3) ev3 ?_
    refine lv_goto (tgt := 26) hx hb (dkS dF_167 DX12_planned (i := 14) rfl rfl rfl) (by decide) ?_
    exact z_iret C0 hr hlk hw rfl (dkP dF_172 DX12_planned (i := 16) rfl rfl)
  · skip
    (try simp (disch := omega) only [ta_lt, ta_le, ta_eq, tb_lt, tb_le, tb_eq, tw, tnI, tn32 1 (by decide), tnj 1 (by decide), tl32 0 (by decide), tl64 0 (by decide), tl32 1 (by decide), tl64 1 (by decide)] at hc2)
    refine lv_if_eq (tgt := 25) hx hb (dkS dF_153 DX12_planned (i := 9) rfl rfl rfl) (by decide) (fun _ => ?_) (fun h => absurd h (by decide))
    refine lv_iconst (v := (-1)) hx hb (dkP dF_2 DX12_planned (i := 15) rfl rfl) (by decide) ?_
    exact z_iret C0 hr hlk hw rfl (dkP dF_172 DX12_planned (i := 16) rfl rfl)
