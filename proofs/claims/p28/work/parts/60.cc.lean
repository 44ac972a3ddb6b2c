def otL : List Nat := [9, 31, 53, 75, 97, 119, 141, 163, 192, 258, 280, 302, 324, 346, 368, 390, 412, 441, 463, 485, 507, 529, 551, 573, 595, 624, 646, 668, 690, 712, 734, 756, 778]
set_option maxRecDepth 20000 in
theorem shl_ot_0 : ∀ d, d ∈ otL → shC[d + 0]? = some (0, 2, [(0, 0), (0, 0), (1, d + 1), (1, d + 2), (1, d + 3), (1, d + 4), (1, d + 5), (1, d + 6), (1, d + 7), (1, d + 8)]) := by decide +kernel
theorem tck_ot_0 : ∀ d, d ∈ otL → tcL.getD (d + 0) 0 = 1 := by decide +kernel
def ntL : List Nat := [19, 41, 63, 85, 107, 129, 151, 173, 202, 268, 290, 312, 334, 356, 378, 400, 422, 451, 473, 495, 517, 539, 561, 583, 605, 634, 656, 678, 700, 722, 744, 766, 788]
set_option maxRecDepth 20000 in
theorem shl_nt_0 : ∀ d, d ∈ ntL → shC[d + 0]? = some (0, 1, [(0, 0), (0, 0), (0, 0), (0, 0), (1, d + 1), (1, d + 2), (1, d + 3), (1, d + 4), (1, d + 5), (1, d + 6)]) := by decide +kernel
theorem tck_nt_0 : ∀ d, d ∈ ntL → tcL.getD (d + 0) 0 = 2 := by decide +kernel
set_option maxRecDepth 100000 in
set_option maxHeartbeats 8000000 in
theorem c_X4_hasBoth (l : Launch) (G : va_G) (kc : KC) (ad : Nat → Nat) (σ : Sg) (pg : Nat)  {t u : Nat} (hpg : pg ∈ pgL) (hto : σ.2.2 pg 2 = some t) (ht : t ∈ otL) (hun : σ.2.2 pg 3 = some u) (hu : u ∈ ntL) (hT : TC σ) : MI l G kc yX4_hasBoth cX4_hasBoth 1 (some .boolean) 0 0 [.ref (ad pg)] shC ad σ (fun r σ1 => ((r = 1 ∧ (True)) ∨ (r = 0 ∧ (True))) ∧ σ1 = σ) := by
  intro sz
  refine z_body (y := yX4_hasBoth) (n := 1) (av := [.ref (ad pg)]) (Qc := fun A => va_Qi (fun r σ1 => ((r = 1 ∧ (True)) ∨ (r = 0 ∧ (True))) ∧ σ1 = σ) (PoC G kc shC ad A) A) (plainFor_of_name (by decide)) (Nat.le_of_ble_eq_true rfl) (fun pr e s m below meth c A C0 hr hlk hnm hw hRo ls hl => ?_) sz
  have hx := C0.1
  have hb := C0.2.1
  have hown := C0.2.2.2.1
  have hts := C0.2.2.2.2.1
  have hl : lv_has ls 1 [(0, .ref (ad pg))] := hl
  refine lv_aload_n hx hb (dkP dF_42 DX4_hasBoth (i := 0) rfl rfl) rfl (lv_at hl 0 rfl) ?_
  refine z_gms C0 hw pg 2 t hto (fk_of (shl_pg_0 pg hpg) rfl) fl_X4_21 (dk2 dF_180 DX4_hasBoth (i := 1) rfl rfl rfl) ?_
  refine z_gi C0 hw t 0 (fk_of (shl_ot_0 t ht) rfl) fl_X4_64 (dk2 dF_180 DX4_hasBoth (i := 2) rfl rfl rfl) ?_
  obtain ⟨n1, hn1, en1⟩ := rngN (x := σ.1 t 0) (h := 1) (tcr_1_0 hT (tck_ot_0 t ht))
  refine z_top (y := nI n1) en1 ?_
  refine lv_if_eq (tgt := 24) hx hb (dkS dF_153 DX4_hasBoth (i := 3) rfl rfl rfl) (by decide) (fun c2 => ?_) (fun c2 => ?_)
  · simp (disch := omega) only [ta_lt, ta_le, ta_eq, tnI, tl32 0 (by decide)] at c2
    refine lv_iconst (v := 0) hx hb (dkP dF_3 DX4_hasBoth (i := 10) rfl rfl) (by decide) ?_
    exact z_zret C0 hr hlk (by decide) hw (⟨(Or.inr ⟨rfl, trivial⟩), rfl⟩) (dkP dF_172 DX4_hasBoth (i := 11) rfl rfl)
  · simp (disch := omega) only [ta_lt, ta_le, ta_eq, tnI, tl32 0 (by decide)] at c2
    refine lv_aload_n hx hb (dkP dF_42 DX4_hasBoth (i := 4) rfl rfl) rfl (lv_at hl 0 rfl) ?_
    refine z_gms C0 hw pg 3 u hun (fk_of (shl_pg_0 pg hpg) rfl) fl_X4_28 (dk2 dF_180 DX4_hasBoth (i := 5) rfl rfl rfl) ?_
    refine z_gi C0 hw u 0 (fk_of (shl_nt_0 u hu) rfl) fl_X4_68 (dk2 dF_180 DX4_hasBoth (i := 6) rfl rfl rfl) ?_
    obtain ⟨n3, hn3, en3⟩ := rngN (x := σ.1 u 0) (h := 1) (tcr_2_0 hT (tck_nt_0 u hu))
    refine z_top (y := nI n3) en3 ?_
    refine lv_if_eq (tgt := 24) hx hb (dkS dF_153 DX4_hasBoth (i := 7) rfl rfl rfl) (by decide) (fun c4 => ?_) (fun c4 => ?_)
    · simp (disch := omega) only [ta_lt, ta_le, ta_eq, tnI, tl32 0 (by decide)] at c4
      refine lv_iconst (v := 0) hx hb (dkP dF_3 DX4_hasBoth (i := 10) rfl rfl) (by decide) ?_
      exact z_zret C0 hr hlk (by decide) hw (⟨(Or.inr ⟨rfl, trivial⟩), rfl⟩) (dkP dF_172 DX4_hasBoth (i := 11) rfl rfl)
    · simp (disch := omega) only [ta_lt, ta_le, ta_eq, tnI, tl32 0 (by decide)] at c4
      refine lv_iconst (v := 1) hx hb (dkP dF_4 DX4_hasBoth (i := 8) rfl rfl) (by decide) ?_
      refine lv_goto (tgt := 25) hx hb (dkS dF_167 DX4_hasBoth (i := 9) rfl rfl rfl) (by decide) ?_
      exact z_zret C0 hr hlk (by decide) hw (⟨(Or.inl ⟨rfl, trivial⟩), rfl⟩) (dkP dF_172 DX4_hasBoth (i := 11) rfl rfl)
set_option maxRecDepth 100000 in
set_option maxHeartbeats 8000000 in
theorem c_X4_mayGoLive (l : Launch) (G : va_G) (kc : KC) (ad : Nat → Nat) (σ : Sg) (pg : Nat)  {t u : Nat} (hpg : pg ∈ pgL) (hto : σ.2.2 pg 2 = some t) (ht : t ∈ otL) (hun : σ.2.2 pg 3 = some u) (hu : u ∈ ntL) (hT : TC σ) : MI l G kc yX4_mayGoLive cX4_mayGoLive 1 (some .boolean) 0 0 [.ref (ad pg)] shC ad σ (fun r σ1 => ((r = 1 ∧ (True)) ∨ (r = 0 ∧ (True))) ∧ σ1 = σ) := by
  intro sz
  refine z_body (y := yX4_mayGoLive) (n := 1) (av := [.ref (ad pg)]) (Qc := fun A => va_Qi (fun r σ1 => ((r = 1 ∧ (True)) ∨ (r = 0 ∧ (True))) ∧ σ1 = σ) (PoC G kc shC ad A) A) (plainFor_of_name (by decide)) (Nat.le_of_ble_eq_true rfl) (fun pr e s m below meth c A C0 hr hlk hnm hw hRo ls hl => ?_) sz
  have hx := C0.1
  have hb := C0.2.1
  have hown := C0.2.2.2.1
  have hts := C0.2.2.2.2.1
  have hl : lv_has ls 1 [(0, .ref (ad pg))] := hl
  refine lv_aload_n hx hb (dkP dF_42 DX4_mayGoLive (i := 0) rfl rfl) rfl (lv_at hl 0 rfl) ?_
  refine z_gi C0 hw pg 0 (fk_of (shl_pg_0 pg hpg) rfl) fl_X4_9 (dk2 dF_180 DX4_mayGoLive (i := 1) rfl rfl rfl) ?_
  obtain ⟨v1, ev1⟩ : ∃ y : Int32, σ.1 pg 0 = y := ⟨_, rfl⟩
  refine z_top (y := v1) ev1 ?_
  refine lv_iconst (v := 1) hx hb (dkP dF_4 DX4_mayGoLive (i := 2) rfl rfl) (by decide) ?_
  refine lv_icmp_eq (tgt := 26) hx hb (dkS dF_159 DX4_mayGoLive (i := 3) rfl rfl rfl) (by decide) (fun c2 => ?_) (fun c2 => ?_)
  · (try simp (disch := omega) only [ta_lt, ta_le, ta_eq, tnI, tl32 1 (by decide)] at c2)
    refine lv_iconst (v := 1) hx hb (dkP dF_4 DX4_mayGoLive (i := 12) rfl rfl) (by decide) ?_
    refine lv_goto (tgt := 31) hx hb (dkS dF_167 DX4_mayGoLive (i := 13) rfl rfl rfl) (by decide) ?_
    exact z_zret C0 hr hlk (by decide) hw (⟨(Or.inl ⟨rfl, trivial⟩), rfl⟩) (dkP dF_172 DX4_mayGoLive (i := 15) rfl rfl)
  · (try simp (disch := omega) only [ta_lt, ta_le, ta_eq, tnI, tl32 1 (by decide)] at c2)
    refine lv_aload_n hx hb (dkP dF_42 DX4_mayGoLive (i := 4) rfl rfl) rfl (lv_at hl 0 rfl) ?_
    refine z_gi C0 hw pg 0 (fk_of (shl_pg_0 pg hpg) rfl) fl_X4_9 (dk2 dF_180 DX4_mayGoLive (i := 5) rfl rfl rfl) ?_
    refine z_top (y := v1) ev1 ?_
    refine lv_iconst (v := 3) hx hb (dkP dF_6 DX4_mayGoLive (i := 6) rfl rfl) (by decide) ?_
    refine lv_icmp_ne (tgt := 30) hx hb (dkS dF_160 DX4_mayGoLive (i := 7) rfl rfl rfl) (by decide) (fun c3 => ?_) (fun c3 => ?_)
    · (try simp (disch := omega) only [ta_lt, ta_le, ta_eq, tnI, tl32 3 (by decide)] at c3)
      refine lv_iconst (v := 0) hx hb (dkP dF_3 DX4_mayGoLive (i := 14) rfl rfl) (by decide) ?_
      exact z_zret C0 hr hlk (by decide) hw (⟨(Or.inr ⟨rfl, trivial⟩), rfl⟩) (dkP dF_172 DX4_mayGoLive (i := 15) rfl rfl)
    · (try simp (disch := omega) only [ta_lt, ta_le, ta_eq, tnI, tl32 3 (by decide)] at c3)
      refine lv_aload_n hx hb (dkP dF_42 DX4_mayGoLive (i := 8) rfl rfl) rfl (lv_at hl 0 rfl) ?_
      refine z_gms C0 hw pg 3 u hun (fk_of (shl_pg_0 pg hpg) rfl) fl_X4_28 (dk2 dF_180 DX4_mayGoLive (i := 9) rfl rfl rfl) ?_
      refine z_gi C0 hw u 3 (fk_of (shl_nt_0 u hu) rfl) fl_X4_61 (dk2 dF_180 DX4_mayGoLive (i := 10) rfl rfl rfl) ?_
      obtain ⟨n4, hn4, en4⟩ := rngN (x := σ.1 u 3) (h := 40) (tcr_2_3 hT (tck_nt_0 u hu))
      refine z_top (y := nI n4) en4 ?_
      refine lv_if_le (tgt := 30) hx hb (dkS dF_158 DX4_mayGoLive (i := 11) rfl rfl rfl) (by decide) (fun c5 => ?_) (fun c5 => ?_)
      · simp (disch := omega) only [ta_lt, ta_le, ta_eq, tnI, tl32 0 (by decide)] at c5
        refine lv_iconst (v := 0) hx hb (dkP dF_3 DX4_mayGoLive (i := 14) rfl rfl) (by decide) ?_
        exact z_zret C0 hr hlk (by decide) hw (⟨(Or.inr ⟨rfl, trivial⟩), rfl⟩) (dkP dF_172 DX4_mayGoLive (i := 15) rfl rfl)
      · simp (disch := omega) only [ta_lt, ta_le, ta_eq, tnI, tl32 0 (by decide)] at c5
        refine lv_iconst (v := 1) hx hb (dkP dF_4 DX4_mayGoLive (i := 12) rfl rfl) (by decide) ?_
        refine lv_goto (tgt := 31) hx hb (dkS dF_167 DX4_mayGoLive (i := 13) rfl rfl rfl) (by decide) ?_
        exact z_zret C0 hr hlk (by decide) hw (⟨(Or.inl ⟨rfl, trivial⟩), rfl⟩) (dkP dF_172 DX4_mayGoLive (i := 15) rfl rfl)
theorem otso : ∀ d, d ∈ otL → d + 8 ∈ soL := by decide +kernel
theorem ntsn : ∀ d, d ∈ ntL → d + 6 ∈ snL := by decide +kernel
theorem otN : ∀ d, d ∈ otL → 9 ≤ d ∧ (d + 10 ≤ 184 ∨ d = 192 ∨ 257 ≤ d) := by decide +kernel
theorem ntN : ∀ d, d ∈ ntL → 19 ≤ d ∧ (d + 8 ≤ 184 ∨ d = 202 ∨ 257 ≤ d) := by decide +kernel
set_option maxRecDepth 20000 in
theorem shl_ot_8 : ∀ d, d ∈ otL → shC[d + 8]? = some (0, 8, [(1, d + 9), (0, 0)]) := by decide +kernel
set_option maxRecDepth 100000 in
set_option maxHeartbeats 8000000 in
theorem c_X2_clear (l : Launch) (G : va_G) (kc : KC) (ad : Nat → Nat) (σ : Sg) (t : Nat)  (ht : t ∈ otL) (hT : TC σ) : MV l G kc yX2_clear cX2_clear 1 1 20 [.ref (ad t)] shC ad σ (fun σ1 => TC σ1 ∧ frC (fun x y => (x = t + 8 ∧ y = 1) ∨ (x = t ∧ y = 1)) σ σ1) := by
  intro sz
  refine z_body (y := yX2_clear) (n := 1) (av := [.ref (ad t)]) (Qc := fun A => va_Qv (fun σ1 => TC σ1 ∧ frC (fun x y => (x = t + 8 ∧ y = 1) ∨ (x = t ∧ y = 1)) σ σ1) (PoC G kc shC ad A) A) (plainFor_of_name (by decide)) (Nat.le_of_ble_eq_true rfl) (fun pr e s m below meth c A C0 hr hlk hnm hw hRo ls hl => ?_) sz
  have hx := C0.1
  have hb := C0.2.1
  have hown := C0.2.2.2.1
  have hts := C0.2.2.2.2.1
  have hl : lv_has ls 1 [(0, .ref (ad t))] := hl
  have htn := otN t ht
  refine lv_aload_n hx hb (dkP dF_42 DX2_clear (i := 0) rfl rfl) rfl (lv_at hl 0 rfl) ?_
  refine lv_iconst (v := 0) hx hb (dkP dF_3 DX2_clear (i := 1) rfl rfl) (by decide) ?_
  refine z_pi C0 hw t 1 (fk_of (shl_ot_0 t ht) rfl) fp_X2_42 (dk2 dF_181 DX2_clear (i := 2) rfl rfl rfl) (fun H locs hw => ?_)
  have hT1 : TC (sI σ t 1 0) := TC.w hT (tcw_1_1 (tck_ot_0 t ht) (by (try simp (disch := omega) only [ta_lt, ta_le, ta_eq, tb_lt, tb_le, tb_eq, tw, tnI, tsub1, tsv, tsb32, tn32 1 (by decide), tnj 1 (by decide), tl32 0 (by decide), tl64 0 (by decide)]); omega))
  have hF1 : frC (fun x y => (x = t + 8 ∧ y = 1) ∨ (x = t ∧ y = 1)) σ (sI σ t 1 0) := frC.w frC.refl (by show (t = t + 8 ∧ 1 = 1) ∨ (t = t ∧ 1 = 1); exact Or.inr (⟨rfl, rfl⟩))
  refine lv_aload_n hx hb (dkP dF_42 DX2_clear (i := 3) rfl rfl) rfl (lv_at hl 0 rfl) ?_
  refine z_gr C0 hw t 9 (t + 8) (fk_of (shl_ot_0 t ht) rfl) fl_X2_38 (dk2 dF_180 DX2_clear (i := 4) rfl rfl rfl) ?_
  refine zk_V hw (zr_V (As := []) (rest := []) C0 (c_X8_clear_o l G kc ad (sI σ t 1 0) (t + 8) (otso t ht) hT1 _) cv_X8_clear lk_X2_46 (zp_V C0 hRo hw (t + 8) (shl_ot_8 t ht) rfl rfl) rfl hl.1 rfl ⟨by decide, by decide⟩ (Nat.le_of_ble_eq_true rfl) (dk2 dF_182 DX2_clear (i := 5) rfl rfl rfl) ⟨Nat.le_refl _, Nat.le_refl _⟩) (fun s2 H locs hp hw => ?_)
  obtain ⟨hT2, hG2⟩ := hp
  have hF2 : frC (fun x y => (x = t + 8 ∧ y = 1) ∨ (x = t ∧ y = 1)) σ s2 := frC.t hF1 hG2 (fun x y h => by have h : (x = t + 8 ∧ y = 1) := h; show (x = t + 8 ∧ y = 1) ∨ (x = t ∧ y = 1); exact Or.inl h)
  exact z_vret C0 hr hlk hw (⟨hT2, hF2⟩) (dkP dF_177 DX2_clear (i := 6) rfl rfl)
set_option maxRecDepth 20000 in
theorem shl_ot_1 : ∀ d, d ∈ otL → shC[d + 1]? = some (1, 24, []) := by decide +kernel
theorem tck_ot_1 : ∀ d, d ∈ otL → tcL.getD (d + 1) 0 = 0 := by decide +kernel
set_option maxRecDepth 100000 in
set_option maxHeartbeats 8000000 in
theorem c_X2_lineWith (l : Launch) (G : va_G) (kc : KC) (ad : Nat → Nat) (σ : Sg) (t : Nat) (num : Int32) (ht : t ∈ otL) (hT : TC σ) : MI l G kc yX2_lineWith cX2_lineWith 3 (some .int) 0 0 [.ref (ad t), .int num] shC ad σ (fun r σ1 => (-1 ≤ r.toInt ∧ r.toInt ≤ 23) ∧ σ1 = σ) := by
  intro sz
  refine z_body (y := yX2_lineWith) (n := 3) (av := [.ref (ad t), .int num]) (Qc := fun A => va_Qi (fun r σ1 => (-1 ≤ r.toInt ∧ r.toInt ≤ 23) ∧ σ1 = σ) (PoC G kc shC ad A) A) (plainFor_of_name (by decide)) (Nat.le_of_ble_eq_true rfl) (fun pr e s m below meth c A C0 hr hlk hnm hw hRo ls hl => ?_) sz
  have hx := C0.1
  have hb := C0.2.1
  have hown := C0.2.2.2.1
  have hts := C0.2.2.2.2.1
  have hl : lv_has ls 3 [(0, .ref (ad t)), (1, .int num)] := hl
  have htn := otN t ht
  refine lv_iconst (v := 0) hx hb (dkP dF_3 DX2_lineWith (i := 0) rfl rfl) (by decide) ?_
  refine lv_istore_n (lv' := [(2, .int 0), (0, .ref (ad t)), (1, .int num)]) hx hb (dkP dF_61 DX2_lineWith (i := 1) rfl rfl) rfl hl (by decide) rfl (fun ls hl => ?_)
  have lp1 : ∀ (nq : Nat) (q2_2 : Nat) (H : Heap) (locs : List Loc) (ls : Array Slot), 24 - q2_2 < nq → (q2_2 ≤ 24) → St G kc A s.heap shC ad σ H locs → lv_has ls 3 [(2, .int (nI q2_2)), (0, .ref (ad t)), (1, .int num)] → W pr l e { frames := 0, cells := 0, slots := 0, locals := 0 } s m ([.ref (ad t), .int num] : List Value).toArray below meth c H locs 0 0 (MQ below (va_Qi (fun r σ1 => (-1 ≤ r.toInt ∧ r.toInt ≤ 23) ∧ σ1 = σ) (PoC G kc shC ad A) A) ([.ref (ad t), .int num] : List Value).toArray s 0 0 A) (F0 m 2 ls []) := by
    intro nq
    induction nq with
    | zero => intro q2_2 H locs ls hmu; exact absurd hmu (Nat.not_lt_zero _)
    | succ nq ih1 =>
      intro q2_2 H locs ls hmu hq2_2 hw hl
      refine lv_iload_n hx hb (dkP dF_28 DX2_lineWith (i := 2) rfl rfl) rfl (lv_at hl 0 rfl) ?_
      refine lv_aload_n hx hb (dkP dF_42 DX2_lineWith (i := 3) rfl rfl) rfl (lv_at hl 1 rfl) ?_
      refine z_gi C0 hw t 1 (fk_of (shl_ot_0 t ht) rfl) fl_X2_42 (dk2 dF_180 DX2_lineWith (i := 4) rfl rfl rfl) ?_
      obtain ⟨n2, hn2, en2⟩ := rngN (x := σ.1 t 1) (h := 24) (tcr_1_1 hT (tck_ot_0 t ht))
      refine z_top (y := nI n2) en2 ?_
      refine lv_icmp_ge (tgt := 28) hx hb (dkS dF_162 DX2_lineWith (i := 5) rfl rfl rfl) (by decide) (fun c3 => ?_) (fun c3 => ?_)
      · simp (disch := omega) only [ta_lt, ta_le, ta_eq, tnI] at c3
        refine lv_iconst (v := (-1)) hx hb (dkP dF_2 DX2_lineWith (i := 16) rfl rfl) (by decide) ?_
        exact z_iret C0 hr hlk hw (⟨(show -1 ≤ _ ∧ _ ≤ 23 from by (try simp (disch := omega) only [tnI, tn32 1 (by decide), tl32 0 (by decide)]); omega), rfl⟩) (dkP dF_172 DX2_lineWith (i := 17) rfl rfl)
      · simp (disch := omega) only [ta_lt, ta_le, ta_eq, tnI] at c3
        refine lv_aload_n hx hb (dkP dF_42 DX2_lineWith (i := 6) rfl rfl) rfl (lv_at hl 1 rfl) ?_
        refine z_gr C0 hw t 2 (t + 1) (fk_of (shl_ot_0 t ht) rfl) fl_X2_11 (dk2 dF_180 DX2_lineWith (i := 7) rfl rfl rfl) ?_
        refine lv_iload_n hx hb (dkP dF_28 DX2_lineWith (i := 8) rfl rfl) rfl (lv_at hl 0 rfl) ?_
        refine z_ialdN (n := 24) C0 hw (t + 1) q2_2 (ak_of (shl_ot_1 t ht)) (by omega) (by decide) (dkP dF_46 DX2_lineWith (i := 9) rfl rfl) ?_
        obtain ⟨v4, ev4⟩ : ∃ y : Int32, σ.1 (t + 1) q2_2 = y := ⟨_, rfl⟩
        refine z_top (y := v4) ev4 ?_
        refine lv_iload_n hx hb (dkP dF_27 DX2_lineWith (i := 10) rfl rfl) rfl (lv_at hl 2 rfl) ?_
        refine lv_icmp_ne (tgt := 22) hx hb (dkS dF_160 DX2_lineWith (i := 11) rfl rfl rfl) (by decide) (fun c5 => ?_) (fun c5 => ?_)
        · (try simp (disch := omega) only [ta_lt, ta_le, ta_eq, tnI] at c5)
          refine lv_iinc (v := nI (q2_2 + 1)) (lv' := [(2, .int (nI (q2_2 + 1))), (0, .ref (ad t)), (1, .int num)]) hx hb (dkI DX2_lineWith (i := 14) rfl rfl rfl rfl) hl (k := 0) rfl (nI_1 _) (by decide) rfl (fun ls hl => ?_)
          refine lv_goto (tgt := 2) hx hb (dkS dF_167 DX2_lineWith (i := 15) rfl rfl rfl) (by decide) ?_
          exact ih1 (q2_2 + 1) _ _ _ (by omega) (by (try simp only [lg_cmp_lt, lg_cmp_le, lg_cmp_gt, lg_cmp_ge, lg_cmp_eq] at c3); (try simp (disch := omega) only [ta_lt, ta_le, ta_eq, tb_lt, tb_le, tb_eq, tw, tnI, tsub1, tsv, tsb32, tn32 1 (by decide), tnj 1 (by decide), tl32 0 (by decide), tl64 0 (by decide)] at c3); (try simp only [lg_cmp_lt, lg_cmp_le, lg_cmp_gt, lg_cmp_ge, lg_cmp_eq] at c5); (try simp (disch := omega) only [ta_lt, ta_le, ta_eq, tb_lt, tb_le, tb_eq, tw, tnI, tsub1, tsv, tsb32, tn32 1 (by decide), tnj 1 (by decide), tl32 0 (by decide), tl64 0 (by decide)] at c5); (try simp (disch := omega) only [ta_lt, ta_le, ta_eq, tb_lt, tb_le, tb_eq, tw, tnI, tsub1, tsv, tsb32, tn32 1 (by decide), tnj 1 (by decide), tl32 0 (by decide), tl64 0 (by decide)]); omega) hw (lv_sub hl [0, 1, 2] rfl)
        · (try simp (disch := omega) only [ta_lt, ta_le, ta_eq, tnI] at c5)
          refine lv_iload_n hx hb (dkP dF_28 DX2_lineWith (i := 12) rfl rfl) rfl (lv_at hl 0 rfl) ?_
          exact z_iret C0 hr hlk hw (⟨(show -1 ≤ _ ∧ _ ≤ 23 from by (try simp (disch := omega) only [tnI, tn32 1 (by decide), tl32 0 (by decide)]); omega), rfl⟩) (dkP dF_172 DX2_lineWith (i := 13) rfl rfl)
  exact lp1 _ 0 _ _ _ (Nat.lt_succ_self _) (by (try simp (disch := omega) only [ta_lt, ta_le, ta_eq, tb_lt, tb_le, tb_eq, tw, tnI, tsub1, tsv, tsb32, tn32 1 (by decide), tnj 1 (by decide), tl32 0 (by decide), tl64 0 (by decide)]); omega) hw (lv_sub hl [0, 1, 2] rfl)
set_option maxRecDepth 20000 in
theorem shl_nt_6 : ∀ d, d ∈ ntL → shC[d + 6]? = some (0, 8, [(1, d + 7), (0, 0)]) := by decide +kernel
set_option maxRecDepth 100000 in
set_option maxHeartbeats 8000000 in
theorem c_X1_clear (l : Launch) (G : va_G) (kc : KC) (ad : Nat → Nat) (σ : Sg) (u : Nat)  (hu : u ∈ ntL) (hT : TC σ) : MV l G kc yX1_clear cX1_clear 1 1 20 [.ref (ad u)] shC ad σ (fun σ1 => TC σ1 ∧ frC (fun x y => (x = u + 6 ∧ y = 1) ∨ (x = u ∧ y = 1) ∨ (x = u ∧ y = 3)) σ σ1) := by
  intro sz
  refine z_body (y := yX1_clear) (n := 1) (av := [.ref (ad u)]) (Qc := fun A => va_Qv (fun σ1 => TC σ1 ∧ frC (fun x y => (x = u + 6 ∧ y = 1) ∨ (x = u ∧ y = 1) ∨ (x = u ∧ y = 3)) σ σ1) (PoC G kc shC ad A) A) (plainFor_of_name (by decide)) (Nat.le_of_ble_eq_true rfl) (fun pr e s m below meth c A C0 hr hlk hnm hw hRo ls hl => ?_) sz
  have hx := C0.1
  have hb := C0.2.1
  have hown := C0.2.2.2.1
  have hts := C0.2.2.2.2.1
  have hl : lv_has ls 1 [(0, .ref (ad u))] := hl
  have hun_ := ntN u hu
  refine lv_aload_n hx hb (dkP dF_42 DX1_clear (i := 0) rfl rfl) rfl (lv_at hl 0 rfl) ?_
  refine lv_iconst (v := 0) hx hb (dkP dF_3 DX1_clear (i := 1) rfl rfl) (by decide) ?_
  refine z_pz C0 hw u 1 (by decide) (fk_of (shl_nt_0 u hu) rfl) fp_X1_36 (dk2 dF_181 DX1_clear (i := 2) rfl rfl rfl) (fun H locs hw => ?_)
  have hT1 : TC (sI σ u 1 0) := TC.w hT (tcw_2_1 (tck_nt_0 u hu) (by (try simp (disch := omega) only [ta_lt, ta_le, ta_eq, tb_lt, tb_le, tb_eq, tw, tnI, tsub1, tsv, tsb32, tn32 1 (by decide), tnj 1 (by decide), tl32 0 (by decide), tl64 0 (by decide)]); omega))
  have hF1 : frC (fun x y => (x = u + 6 ∧ y = 1) ∨ (x = u ∧ y = 1) ∨ (x = u ∧ y = 3)) σ (sI σ u 1 0) := frC.w frC.refl (by show (u = u + 6 ∧ 1 = 1) ∨ (u = u ∧ 1 = 1) ∨ (u = u ∧ 1 = 3); exact Or.inr (Or.inl (⟨rfl, rfl⟩)))
  refine lv_aload_n hx hb (dkP dF_42 DX1_clear (i := 3) rfl rfl) rfl (lv_at hl 0 rfl) ?_
  refine lv_iconst (v := 0) hx hb (dkP dF_3 DX1_clear (i := 4) rfl rfl) (by decide) ?_
  refine z_pi C0 hw u 3 (fk_of (shl_nt_0 u hu) rfl) fp_X1_40 (dk2 dF_181 DX1_clear (i := 5) rfl rfl rfl) (fun H locs hw => ?_)
  have hT2 : TC (sI (sI σ u 1 0) u 3 0) := TC.w hT1 (tcw_2_3 (tck_nt_0 u hu) (by (try simp (disch := omega) only [ta_lt, ta_le, ta_eq, tb_lt, tb_le, tb_eq, tw, tnI, tsub1, tsv, tsb32, tn32 1 (by decide), tnj 1 (by decide), tl32 0 (by decide), tl64 0 (by decide)]); omega))
  have hF2 : frC (fun x y => (x = u + 6 ∧ y = 1) ∨ (x = u ∧ y = 1) ∨ (x = u ∧ y = 3)) σ (sI (sI σ u 1 0) u 3 0) := frC.w hF1 (by show (u = u + 6 ∧ 3 = 1) ∨ (u = u ∧ 3 = 1) ∨ (u = u ∧ 3 = 3); exact Or.inr (Or.inr (⟨rfl, rfl⟩)))
  refine lv_aload_n hx hb (dkP dF_42 DX1_clear (i := 6) rfl rfl) rfl (lv_at hl 0 rfl) ?_
  refine z_gr C0 hw u 9 (u + 6) (fk_of (shl_nt_0 u hu) rfl) fl_X1_32 (dk2 dF_180 DX1_clear (i := 7) rfl rfl rfl) ?_
  refine zk_V hw (zr_V (As := []) (rest := []) C0 (c_X8_clear_n l G kc ad (sI (sI σ u 1 0) u 3 0) (u + 6) (ntsn u hu) hT2 _) cv_X8_clear lk_X1_44 (zp_V C0 hRo hw (u + 6) (shl_nt_6 u hu) rfl rfl) rfl hl.1 rfl ⟨by decide, by decide⟩ (Nat.le_of_ble_eq_true rfl) (dk2 dF_182 DX1_clear (i := 8) rfl rfl rfl) ⟨Nat.le_refl _, Nat.le_refl _⟩) (fun s3 H locs hp hw => ?_)
  obtain ⟨hT3, hG3⟩ := hp
  have hF3 : frC (fun x y => (x = u + 6 ∧ y = 1) ∨ (x = u ∧ y = 1) ∨ (x = u ∧ y = 3)) σ s3 := frC.t hF2 hG3 (fun x y h => by have h : (x = u + 6 ∧ y = 1) := h; show (x = u + 6 ∧ y = 1) ∨ (x = u ∧ y = 1) ∨ (x = u ∧ y = 3); exact Or.inl h)
  exact z_vret C0 hr hlk hw (⟨hT3, hF3⟩) (dkP dF_177 DX1_clear (i := 9) rfl rfl)
set_option maxRecDepth 100000 in
set_option maxHeartbeats 8000000 in
theorem c_X1_beginMade (l : Launch) (G : va_G) (kc : KC) (ad : Nat → Nat) (σ : Sg) (u : Nat) (bts : Int32) (hu : u ∈ ntL) (hT : TC σ) : MV l G kc yX1_beginMade cX1_beginMade 2 2 40 [.ref (ad u), .int bts] shC ad σ (fun σ1 => TC σ1 ∧ frC (fun x y => (x = u + 6 ∧ y = 1) ∨ (x = u ∧ y = 1) ∨ (x = u ∧ y = 2) ∨ (x = u ∧ y = 3)) σ σ1) := by
  intro sz
  refine z_body (y := yX1_beginMade) (n := 2) (av := [.ref (ad u), .int bts]) (Qc := fun A => va_Qv (fun σ1 => TC σ1 ∧ frC (fun x y => (x = u + 6 ∧ y = 1) ∨ (x = u ∧ y = 1) ∨ (x = u ∧ y = 2) ∨ (x = u ∧ y = 3)) σ σ1) (PoC G kc shC ad A) A) (plainFor_of_name (by decide)) (Nat.le_of_ble_eq_true rfl) (fun pr e s m below meth c A C0 hr hlk hnm hw hRo ls hl => ?_) sz
  have hx := C0.1
  have hb := C0.2.1
  have hown := C0.2.2.2.1
  have hts := C0.2.2.2.2.1
  have hl : lv_has ls 2 [(0, .ref (ad u)), (1, .int bts)] := hl
  have hun_ := ntN u hu
  refine lv_aload_n hx hb (dkP dF_42 DX1_beginMade (i := 0) rfl rfl) rfl (lv_at hl 0 rfl) ?_
  refine zk_V hw (zr_V (As := []) (rest := []) C0 (c_X1_clear l G kc ad σ u hu hT _) cv_X1_clear lk_X1_47 (zp_V C0 hRo hw u (shl_nt_0 u hu) rfl rfl) rfl hl.1 rfl ⟨by decide, by decide⟩ (Nat.le_of_ble_eq_true rfl) (dk2 dF_182 DX1_beginMade (i := 1) rfl rfl rfl) ⟨Nat.le_refl _, Nat.le_refl _⟩) (fun s1 H locs hp hw => ?_)
  obtain ⟨hT1, hG1⟩ := hp
  have hF1 : frC (fun x y => (x = u + 6 ∧ y = 1) ∨ (x = u ∧ y = 1) ∨ (x = u ∧ y = 2) ∨ (x = u ∧ y = 3)) σ s1 := frC.t frC.refl hG1 (fun x y h => by have h : (x = u + 6 ∧ y = 1) ∨ (x = u ∧ y = 1) ∨ (x = u ∧ y = 3) := h; show (x = u + 6 ∧ y = 1) ∨ (x = u ∧ y = 1) ∨ (x = u ∧ y = 2) ∨ (x = u ∧ y = 3); rcases h with h | h | h; (· exact Or.inl h); (· exact Or.inr (Or.inl h)); (· exact Or.inr (Or.inr (Or.inr (h)))))
  refine lv_aload_n hx hb (dkP dF_42 DX1_beginMade (i := 2) rfl rfl) rfl (lv_at hl 0 rfl) ?_
  refine lv_iconst (v := 1) hx hb (dkP dF_4 DX1_beginMade (i := 3) rfl rfl) (by decide) ?_
  refine z_pz C0 hw u 1 (by decide) (fk_of (shl_nt_0 u hu) rfl) fp_X1_36 (dk2 dF_181 DX1_beginMade (i := 4) rfl rfl rfl) (fun H locs hw => ?_)
  have hT2 : TC (sI s1 u 1 1) := TC.w hT1 (tcw_2_1 (tck_nt_0 u hu) (by (try simp (disch := omega) only [ta_lt, ta_le, ta_eq, tb_lt, tb_le, tb_eq, tw, tnI, tsub1, tsv, tsb32, tn32 1 (by decide), tnj 1 (by decide), tl32 0 (by decide), tl64 0 (by decide), tl32 1 (by decide), tl64 1 (by decide)]); omega))
  have hF2 : frC (fun x y => (x = u + 6 ∧ y = 1) ∨ (x = u ∧ y = 1) ∨ (x = u ∧ y = 2) ∨ (x = u ∧ y = 3)) σ (sI s1 u 1 1) := frC.w hF1 (by show (u = u + 6 ∧ 1 = 1) ∨ (u = u ∧ 1 = 1) ∨ (u = u ∧ 1 = 2) ∨ (u = u ∧ 1 = 3); exact Or.inr (Or.inl (⟨rfl, rfl⟩)))
  refine lv_aload_n hx hb (dkP dF_42 DX1_beginMade (i := 5) rfl rfl) rfl (lv_at hl 0 rfl) ?_
  refine lv_iload_n hx hb (dkP dF_27 DX1_beginMade (i := 6) rfl rfl) rfl (lv_at hl 1 rfl) ?_
  refine z_pi C0 hw u 2 (fk_of (shl_nt_0 u hu) rfl) fp_X1_48 (dk2 dF_181 DX1_beginMade (i := 7) rfl rfl rfl) (fun H locs hw => ?_)
  have hT3 : TC (sI (sI s1 u 1 1) u 2 bts) := TC.w hT2 (tcw_2_2 (tck_nt_0 u hu))
  have hF3 : frC (fun x y => (x = u + 6 ∧ y = 1) ∨ (x = u ∧ y = 1) ∨ (x = u ∧ y = 2) ∨ (x = u ∧ y = 3)) σ (sI (sI s1 u 1 1) u 2 bts) := frC.w hF2 (by show (u = u + 6 ∧ 2 = 1) ∨ (u = u ∧ 2 = 1) ∨ (u = u ∧ 2 = 2) ∨ (u = u ∧ 2 = 3); exact Or.inr (Or.inr (Or.inl (⟨rfl, rfl⟩))))
  exact z_vret C0 hr hlk hw (⟨hT3, hF3⟩) (dkP dF_177 DX1_beginMade (i := 8) rfl rfl)
set_option maxRecDepth 100000 in
set_option maxHeartbeats 8000000 in
theorem c_X1_isFull (l : Launch) (G : va_G) (kc : KC) (ad : Nat → Nat) (σ : Sg) (u : Nat)  (hu : u ∈ ntL) (hT : TC σ) : MI l G kc yX1_isFull cX1_isFull 1 (some .boolean) 0 0 [.ref (ad u)] shC ad σ (fun r σ1 => ((r = 1 ∧ (True)) ∨ (r = 0 ∧ (True))) ∧ σ1 = σ) := by
  intro sz
  refine z_body (y := yX1_isFull) (n := 1) (av := [.ref (ad u)]) (Qc := fun A => va_Qi (fun r σ1 => ((r = 1 ∧ (True)) ∨ (r = 0 ∧ (True))) ∧ σ1 = σ) (PoC G kc shC ad A) A) (plainFor_of_name (by decide)) (Nat.le_of_ble_eq_true rfl) (fun pr e s m below meth c A C0 hr hlk hnm hw hRo ls hl => ?_) sz
  have hx := C0.1
  have hb := C0.2.1
  have hown := C0.2.2.2.1
  have hts := C0.2.2.2.2.1
  have hl : lv_has ls 1 [(0, .ref (ad u))] := hl
  have hun_ := ntN u hu
  refine lv_aload_n hx hb (dkP dF_42 DX1_isFull (i := 0) rfl rfl) rfl (lv_at hl 0 rfl) ?_
  refine z_gi C0 hw u 3 (fk_of (shl_nt_0 u hu) rfl) fl_X1_40 (dk2 dF_180 DX1_isFull (i := 1) rfl rfl rfl) ?_
  obtain ⟨n1, hn1, en1⟩ := rngN (x := σ.1 u 3) (h := 40) (tcr_2_3 hT (tck_nt_0 u hu))
  refine z_top (y := nI n1) en1 ?_
  refine lv_bipush (v := 40) hx hb (dks dF_16 DX1_isFull (i := 2) rfl rfl rfl) (by decide) ?_
  refine lv_icmp_lt (tgt := 13) hx hb (dkS dF_161 DX1_isFull (i := 3) rfl rfl rfl) (by decide) (fun c2 => ?_) (fun c2 => ?_)
  · simp (disch := omega) only [ta_lt, ta_le, ta_eq, tnI, tl32 40 (by decide)] at c2
    refine lv_iconst (v := 0) hx hb (dkP dF_3 DX1_isFull (i := 6) rfl rfl) (by decide) ?_
    exact z_zret C0 hr hlk (by decide) hw (⟨(Or.inr ⟨rfl, trivial⟩), rfl⟩) (dkP dF_172 DX1_isFull (i := 7) rfl rfl)
  · simp (disch := omega) only [ta_lt, ta_le, ta_eq, tnI, tl32 40 (by decide)] at c2
    refine lv_iconst (v := 1) hx hb (dkP dF_4 DX1_isFull (i := 4) rfl rfl) (by decide) ?_
    refine lv_goto (tgt := 14) hx hb (dkS dF_167 DX1_isFull (i := 5) rfl rfl rfl) (by decide) ?_
    exact z_zret C0 hr hlk (by decide) hw (⟨(Or.inl ⟨rfl, trivial⟩), rfl⟩) (dkP dF_172 DX1_isFull (i := 7) rfl rfl)
set_option maxRecDepth 100000 in
set_option maxHeartbeats 8000000 in
theorem c_X1_leaveOthersOut (l : Launch) (G : va_G) (kc : KC) (ad : Nat → Nat) (σ : Sg) (u : Nat) (mc : Nat) (hu : u ∈ ntL) (hmc : mc ∈ mcL) (hT : TC σ) : MV l G kc yX1_leaveOthersOut cX1_leaveOthersOut 3 0 0 [.ref (ad u), .ref (ad (mc + 1))] shC ad σ (fun σ1 => TC σ1 ∧ frC (fun x y => (x = mc + 1)) σ σ1) := by
  intro sz
  refine z_body (y := yX1_leaveOthersOut) (n := 3) (av := [.ref (ad u), .ref (ad (mc + 1))]) (Qc := fun A => va_Qv (fun σ1 => TC σ1 ∧ frC (fun x y => (x = mc + 1)) σ σ1) (PoC G kc shC ad A) A) (plainFor_of_name (by decide)) (Nat.le_of_ble_eq_true rfl) (fun pr e s m below meth c A C0 hr hlk hnm hw hRo ls hl => ?_) sz
  have hx := C0.1
  have hb := C0.2.1
  have hown := C0.2.2.2.1
  have hts := C0.2.2.2.2.1
  have hl : lv_has ls 3 [(0, .ref (ad u)), (1, .ref (ad (mc + 1)))] := hl
  have hun_ := ntN u hu
  have hmcn := mcN mc hmc
  refine lv_iconst (v := 0) hx hb (dkP dF_3 DX1_leaveOthersOut (i := 0) rfl rfl) (by decide) ?_
  refine lv_istore_n (lv' := [(2, .int 0), (0, .ref (ad u)), (1, .ref (ad (mc + 1)))]) hx hb (dkP dF_61 DX1_leaveOthersOut (i := 1) rfl rfl) rfl hl (by decide) rfl (fun ls hl => ?_)
  have lp2 : ∀ (nq : Nat) (q2_2 : Nat) (τ1 : Sg) (H : Heap) (locs : List Loc) (ls : Array Slot), 8 - q2_2 < nq → (q2_2 ≤ 8) → (TC τ1) → (frC (fun x y => (x = mc + 1)) σ τ1) → St G kc A s.heap shC ad τ1 H locs → lv_has ls 3 [(2, .int (nI q2_2)), (0, .ref (ad u)), (1, .ref (ad (mc + 1)))] → W pr l e { frames := 0, cells := 0, slots := 0, locals := 0 } s m ([.ref (ad u), .ref (ad (mc + 1))] : List Value).toArray below meth c H locs 0 0 (MQ below (va_Qv (fun σ1 => TC σ1 ∧ frC (fun x y => (x = mc + 1)) σ σ1) (PoC G kc shC ad A) A) ([.ref (ad u), .ref (ad (mc + 1))] : List Value).toArray s 0 0 A) (F0 m 2 ls []) := by
    intro nq
    induction nq with
    | zero => intro q2_2 τ1 H locs ls hmu; exact absurd hmu (Nat.not_lt_zero _)
    | succ nq ih2 =>
      intro q2_2 τ1 H locs ls hmu hq2_2 hT_τ1 hF_τ1 hw hl
      refine lv_iload_n hx hb (dkP dF_28 DX1_leaveOthersOut (i := 2) rfl rfl) rfl (lv_at hl 0 rfl) ?_
      refine lv_bipush (v := 8) hx hb (dks dF_16 DX1_leaveOthersOut (i := 3) rfl rfl rfl) (by decide) ?_
      refine lv_icmp_ge (tgt := 29) hx hb (dkS dF_162 DX1_leaveOthersOut (i := 4) rfl rfl rfl) (by decide) (fun c3 => ?_) (fun c3 => ?_)
      · simp (disch := omega) only [ta_lt, ta_le, ta_eq, tnI, tl32 8 (by decide)] at c3
        exact z_vret C0 hr hlk hw (⟨hT_τ1, hF_τ1⟩) (dkP dF_177 DX1_leaveOthersOut (i := 18) rfl rfl)
      · simp (disch := omega) only [ta_lt, ta_le, ta_eq, tnI, tl32 8 (by decide)] at c3
        refine lv_aload_n hx hb (dkP dF_42 DX1_leaveOthersOut (i := 5) rfl rfl) rfl (lv_at hl 1 rfl) ?_
        refine z_gi C0 hw u 2 (fk_of (shl_nt_0 u hu) rfl) fl_X1_48 (dk2 dF_180 DX1_leaveOthersOut (i := 6) rfl rfl rfl) ?_
        obtain ⟨v4, ev4⟩ : ∃ y : Int32, τ1.1 u 2 = y := ⟨_, rfl⟩
        refine z_top (y := v4) ev4 ?_
        refine lv_iload_n hx hb (dkP dF_28 DX1_leaveOthersOut (i := 7) rfl rfl) rfl (lv_at hl 0 rfl) ?_
        refine lv_ishr hx hb (dkP dF_122 DX1_leaveOthersOut (i := 8) rfl rfl) ?_
        refine lv_iconst (v := 1) hx hb (dkP dF_4 DX1_leaveOthersOut (i := 9) rfl rfl) (by decide) ?_
        refine lv_iand hx hb (dkP dF_126 DX1_leaveOthersOut (i := 10) rfl rfl) ?_
        refine lv_if_ne (tgt := 23) hx hb (dkS dF_154 DX1_leaveOthersOut (i := 11) rfl rfl rfl) (by decide) (fun c5 => ?_) (fun c5 => ?_)
        · (try simp (disch := omega) only [ta_lt, ta_le, ta_eq, tnI, tl32 0 (by decide)] at c5)
          refine lv_iinc (v := nI (q2_2 + 1)) (lv' := [(2, .int (nI (q2_2 + 1))), (0, .ref (ad u)), (1, .ref (ad (mc + 1)))]) hx hb (dkI DX1_leaveOthersOut (i := 16) rfl rfl rfl rfl) hl (k := 0) rfl (nI_1 _) (by decide) rfl (fun ls hl => ?_)
          refine lv_goto (tgt := 2) hx hb (dkS dF_167 DX1_leaveOthersOut (i := 17) rfl rfl rfl) (by decide) ?_
          exact ih2 (q2_2 + 1) τ1 _ _ _ (by omega) (by (try simp only [lg_cmp_lt, lg_cmp_le, lg_cmp_gt, lg_cmp_ge, lg_cmp_eq] at c3); (try simp (disch := omega) only [ta_lt, ta_le, ta_eq, tb_lt, tb_le, tb_eq, tw, tnI, tsub1, tsv, tsb32, tn32 1 (by decide), tnj 1 (by decide), tl32 0 (by decide), tl64 0 (by decide), tl32 1 (by decide), tl64 1 (by decide), tl32 8 (by decide), tl64 8 (by decide)] at c3); (try simp only [lg_cmp_lt, lg_cmp_le, lg_cmp_gt, lg_cmp_ge, lg_cmp_eq] at c5); (try simp (disch := omega) only [ta_lt, ta_le, ta_eq, tb_lt, tb_le, tb_eq, tw, tnI, tsub1, tsv, tsb32, tn32 1 (by decide), tnj 1 (by decide), tl32 0 (by decide), tl64 0 (by decide), tl32 1 (by decide), tl64 1 (by decide), tl32 8 (by decide), tl64 8 (by decide)] at c5); (try simp (disch := omega) only [ta_lt, ta_le, ta_eq, tb_lt, tb_le, tb_eq, tw, tnI, tsub1, tsv, tsb32, tn32 1 (by decide), tnj 1 (by decide), tl32 0 (by decide), tl64 0 (by decide), tl32 1 (by decide), tl64 1 (by decide), tl32 8 (by decide), tl64 8 (by decide)]); omega) hT_τ1 hF_τ1 hw (lv_sub hl [0, 1, 2] rfl)
        · (try simp (disch := omega) only [ta_lt, ta_le, ta_eq, tnI, tl32 0 (by decide)] at c5)
          refine lv_aload_n hx hb (dkP dF_43 DX1_leaveOthersOut (i := 12) rfl rfl) rfl (lv_at hl 2 rfl) ?_
          refine lv_iload_n hx hb (dkP dF_28 DX1_leaveOthersOut (i := 13) rfl rfl) rfl (lv_at hl 0 rfl) ?_
          refine lv_iconst (v := 0) hx hb (dkP dF_3 DX1_leaveOthersOut (i := 14) rfl rfl) (by decide) ?_
          refine z_iastN (n := 8) C0 hw (mc + 1) q2_2 (ak_of (shl_mc_1 mc hmc)) (by omega) (by decide) (dkP dF_79 DX1_leaveOthersOut (i := 15) rfl rfl) (fun H locs hw => ?_)
          have hT6 : TC (sI τ1 (mc + 1) q2_2 0) := TC.w hT_τ1 (tc0 (tck_mc_1 mc hmc))
          have hF6 : frC (fun x y => (x = mc + 1)) σ (sI τ1 (mc + 1) q2_2 0) := frC.w hF_τ1 (by show ((mc + 1) = mc + 1); exact rfl)
          refine lv_iinc (v := nI (q2_2 + 1)) (lv' := [(2, .int (nI (q2_2 + 1))), (0, .ref (ad u)), (1, .ref (ad (mc + 1)))]) hx hb (dkI DX1_leaveOthersOut (i := 16) rfl rfl rfl rfl) hl (k := 0) rfl (nI_1 _) (by decide) rfl (fun ls hl => ?_)
          refine lv_goto (tgt := 2) hx hb (dkS dF_167 DX1_leaveOthersOut (i := 17) rfl rfl rfl) (by decide) ?_
          exact ih2 (q2_2 + 1) (sI τ1 (mc + 1) q2_2 0) _ _ _ (by omega) (by (try simp only [lg_cmp_lt, lg_cmp_le, lg_cmp_gt, lg_cmp_ge, lg_cmp_eq] at c3); (try simp (disch := omega) only [ta_lt, ta_le, ta_eq, tb_lt, tb_le, tb_eq, tw, tnI, tsub1, tsv, tsb32, tn32 1 (by decide), tnj 1 (by decide), tl32 0 (by decide), tl64 0 (by decide), tl32 1 (by decide), tl64 1 (by decide), tl32 8 (by decide), tl64 8 (by decide)] at c3); (try simp only [lg_cmp_lt, lg_cmp_le, lg_cmp_gt, lg_cmp_ge, lg_cmp_eq] at c5); (try simp (disch := omega) only [ta_lt, ta_le, ta_eq, tb_lt, tb_le, tb_eq, tw, tnI, tsub1, tsv, tsb32, tn32 1 (by decide), tnj 1 (by decide), tl32 0 (by decide), tl64 0 (by decide), tl32 1 (by decide), tl64 1 (by decide), tl32 8 (by decide), tl64 8 (by decide)] at c5); (try simp (disch := omega) only [ta_lt, ta_le, ta_eq, tb_lt, tb_le, tb_eq, tw, tnI, tsub1, tsv, tsb32, tn32 1 (by decide), tnj 1 (by decide), tl32 0 (by decide), tl64 0 (by decide), tl32 1 (by decide), tl64 1 (by decide), tl32 8 (by decide), tl64 8 (by decide)]); omega) hT6 hF6 hw (lv_sub hl [0, 1, 2] rfl)
  exact lp2 _ 0 σ _ _ _ (Nat.lt_succ_self _) (by (try simp (disch := omega) only [ta_lt, ta_le, ta_eq, tb_lt, tb_le, tb_eq, tw, tnI, tsub1, tsv, tsb32, tn32 1 (by decide), tnj 1 (by decide), tl32 0 (by decide), tl64 0 (by decide), tl32 1 (by decide), tl64 1 (by decide), tl32 8 (by decide), tl64 8 (by decide)]); omega) hT frC.refl hw (lv_sub hl [0, 1, 2] rfl)
set_option maxRecDepth 20000 in
theorem shl_nt_5 : ∀ d, d ∈ ntL → shC[d + 5]? = some (1, 160, []) := by decide +kernel
theorem tck_nt_5 : ∀ d, d ∈ ntL → tcL.getD (d + 5) 0 = 0 := by decide +kernel
set_option maxRecDepth 100000 in
set_option maxHeartbeats 8000000 in
theorem c_X1_turnsSo (l : Launch) (G : va_G) (kc : KC) (ad : Nat → Nat) (σ : Sg) (u : Nat) (cs : Nat) (mc : Nat) (hu : u ∈ ntL) (hmc : mc ∈ mcL) (hcs : cs < 40) (hT : TC σ) : MI l G kc yX1_turnsSo cX1_turnsSo 4 (some .boolean) 0 0 [.ref (ad u), .int (nI cs), .ref (ad (mc + 4))] shC ad σ (fun r σ1 => ((r = 1 ∧ (True)) ∨ (r = 0 ∧ (True))) ∧ σ1 = σ) := by
  intro sz
  refine z_body (y := yX1_turnsSo) (n := 4) (av := [.ref (ad u), .int (nI cs), .ref (ad (mc + 4))]) (Qc := fun A => va_Qi (fun r σ1 => ((r = 1 ∧ (True)) ∨ (r = 0 ∧ (True))) ∧ σ1 = σ) (PoC G kc shC ad A) A) (plainFor_of_name (by decide)) (Nat.le_of_ble_eq_true rfl) (fun pr e s m below meth c A C0 hr hlk hnm hw hRo ls hl => ?_) sz
  have hx := C0.1
  have hb := C0.2.1
  have hown := C0.2.2.2.1
  have hts := C0.2.2.2.2.1
  have hl : lv_has ls 4 [(0, .ref (ad u)), (1, .int (nI cs)), (2, .ref (ad (mc + 4)))] := hl
  have hun_ := ntN u hu
  have hmcn := mcN mc hmc
  refine lv_iconst (v := 0) hx hb (dkP dF_3 DX1_turnsSo (i := 0) rfl rfl) (by decide) ?_
  refine lv_istore_n (lv' := [(3, .int 0), (0, .ref (ad u)), (1, .int (nI cs)), (2, .ref (ad (mc + 4)))]) hx hb (dkP dF_62 DX1_turnsSo (i := 1) rfl rfl) rfl hl (by decide) rfl (fun ls hl => ?_)
  have lp1 : ∀ (nq : Nat) (q3_2 : Nat) (H : Heap) (locs : List Loc) (ls : Array Slot), 4 - q3_2 < nq → (q3_2 ≤ 4) → St G kc A s.heap shC ad σ H locs → lv_has ls 4 [(3, .int (nI q3_2)), (0, .ref (ad u)), (1, .int (nI cs)), (2, .ref (ad (mc + 4)))] → W pr l e { frames := 0, cells := 0, slots := 0, locals := 0 } s m ([.ref (ad u), .int (nI cs), .ref (ad (mc + 4))] : List Value).toArray below meth c H locs 0 0 (MQ below (va_Qi (fun r σ1 => ((r = 1 ∧ (True)) ∨ (r = 0 ∧ (True))) ∧ σ1 = σ) (PoC G kc shC ad A) A) ([.ref (ad u), .int (nI cs), .ref (ad (mc + 4))] : List Value).toArray s 0 0 A) (F0 m 2 ls []) := by
    intro nq
    induction nq with
    | zero => intro q3_2 H locs ls hmu; exact absurd hmu (Nat.not_lt_zero _)
    | succ nq ih1 =>
      intro q3_2 H locs ls hmu hq3_2 hw hl
      refine lv_iload_n hx hb (dkP dF_29 DX1_turnsSo (i := 2) rfl rfl) rfl (lv_at hl 0 rfl) ?_
      refine lv_iconst (v := 4) hx hb (dkP dF_7 DX1_turnsSo (i := 3) rfl rfl) (by decide) ?_
      refine lv_icmp_ge (tgt := 31) hx hb (dkS dF_162 DX1_turnsSo (i := 4) rfl rfl rfl) (by decide) (fun c2 => ?_) (fun c2 => ?_)
      · simp (disch := omega) only [ta_lt, ta_le, ta_eq, tnI, tl32 4 (by decide)] at c2
        refine lv_iconst (v := 1) hx hb (dkP dF_4 DX1_turnsSo (i := 21) rfl rfl) (by decide) ?_
        exact z_zret C0 hr hlk (by decide) hw (⟨(Or.inl ⟨rfl, trivial⟩), rfl⟩) (dkP dF_172 DX1_turnsSo (i := 22) rfl rfl)
      · simp (disch := omega) only [ta_lt, ta_le, ta_eq, tnI, tl32 4 (by decide)] at c2
        refine lv_aload_n hx hb (dkP dF_42 DX1_turnsSo (i := 5) rfl rfl) rfl (lv_at hl 1 rfl) ?_
        refine z_gr C0 hw u 8 (u + 5) (fk_of (shl_nt_0 u hu) rfl) fl_X1_26 (dk2 dF_180 DX1_turnsSo (i := 6) rfl rfl rfl) ?_
        refine lv_iload_n hx hb (dkP dF_27 DX1_turnsSo (i := 7) rfl rfl) rfl (lv_at hl 2 rfl) ?_
        refine lv_iconst (v := 4) hx hb (dkP dF_7 DX1_turnsSo (i := 8) rfl rfl) (by decide) ?_
        refine lv_imul hx hb (dkP dF_104 DX1_turnsSo (i := 9) rfl rfl) ?_
        refine z_top (y := nI (cs * 4)) (by simp only [fa_lit, nI_add, pk_mul]) ?_
        refine lv_iload_n hx hb (dkP dF_29 DX1_turnsSo (i := 10) rfl rfl) rfl (lv_at hl 0 rfl) ?_
        refine lv_iadd hx hb (dkP dF_96 DX1_turnsSo (i := 11) rfl rfl) ?_
        refine z_top (y := nI ((cs * 4) + q3_2)) (by simp only [fa_lit, nI_add, pk_mul]) ?_
        refine z_ialdN (n := 160) C0 hw (u + 5) ((cs * 4) + q3_2) (ak_of (shl_nt_5 u hu)) (by omega) (by decide) (dkP dF_46 DX1_turnsSo (i := 12) rfl rfl) ?_
        obtain ⟨v3, ev3⟩ : ∃ y : Int32, σ.1 (u + 5) ((cs * 4) + q3_2) = y := ⟨_, rfl⟩
        refine z_top (y := v3) ev3 ?_
        refine lv_aload_n hx hb (dkP dF_44 DX1_turnsSo (i := 13) rfl rfl) rfl (lv_at hl 3 rfl) ?_
        refine lv_iload_n hx hb (dkP dF_29 DX1_turnsSo (i := 14) rfl rfl) rfl (lv_at hl 0 rfl) ?_
        refine z_ialdN (n := 4) C0 hw (mc + 4) q3_2 (ak_of (shl_mc_4 mc hmc)) (by omega) (by decide) (dkP dF_46 DX1_turnsSo (i := 15) rfl rfl) ?_
        obtain ⟨v4, ev4⟩ : ∃ y : Int32, σ.1 (mc + 4) q3_2 = y := ⟨_, rfl⟩
        refine z_top (y := v4) ev4 ?_
        refine lv_icmp_eq (tgt := 25) hx hb (dkS dF_159 DX1_turnsSo (i := 16) rfl rfl rfl) (by decide) (fun c5 => ?_) (fun c5 => ?_)
        · (try simp (disch := omega) only [ta_lt, ta_le, ta_eq, tnI] at c5)
          refine lv_iinc (v := nI (q3_2 + 1)) (lv' := [(3, .int (nI (q3_2 + 1))), (0, .ref (ad u)), (1, .int (nI cs)), (2, .ref (ad (mc + 4)))]) hx hb (dkI DX1_turnsSo (i := 19) rfl rfl rfl rfl) hl (k := 0) rfl (nI_1 _) (by decide) rfl (fun ls hl => ?_)
          refine lv_goto (tgt := 2) hx hb (dkS dF_167 DX1_turnsSo (i := 20) rfl rfl rfl) (by decide) ?_
          exact ih1 (q3_2 + 1) _ _ _ (by omega) (by (try simp only [lg_cmp_lt, lg_cmp_le, lg_cmp_gt, lg_cmp_ge, lg_cmp_eq] at c2); (try simp (disch := omega) only [ta_lt, ta_le, ta_eq, tb_lt, tb_le, tb_eq, tw, tnI, tsub1, tsv, tsb32, tn32 1 (by decide), tnj 1 (by decide), tl32 0 (by decide), tl64 0 (by decide), tl32 1 (by decide), tl64 1 (by decide), tl32 4 (by decide), tl64 4 (by decide)] at c2); (try simp only [lg_cmp_lt, lg_cmp_le, lg_cmp_gt, lg_cmp_ge, lg_cmp_eq] at c5); (try simp (disch := omega) only [ta_lt, ta_le, ta_eq, tb_lt, tb_le, tb_eq, tw, tnI, tsub1, tsv, tsb32, tn32 1 (by decide), tnj 1 (by decide), tl32 0 (by decide), tl64 0 (by decide), tl32 1 (by decide), tl64 1 (by decide), tl32 4 (by decide), tl64 4 (by decide)] at c5); (try simp (disch := omega) only [ta_lt, ta_le, ta_eq, tb_lt, tb_le, tb_eq, tw, tnI, tsub1, tsv, tsb32, tn32 1 (by decide), tnj 1 (by decide), tl32 0 (by decide), tl64 0 (by decide), tl32 1 (by decide), tl64 1 (by decide), tl32 4 (by decide), tl64 4 (by decide)]); omega) hw (lv_sub hl [0, 1, 2, 3] rfl)
        · (try simp (disch := omega) only [ta_lt, ta_le, ta_eq, tnI] at c5)
          refine lv_iconst (v := 0) hx hb (dkP dF_3 DX1_turnsSo (i := 17) rfl rfl) (by decide) ?_
          exact z_zret C0 hr hlk (by decide) hw (⟨(Or.inr ⟨rfl, trivial⟩), rfl⟩) (dkP dF_172 DX1_turnsSo (i := 18) rfl rfl)
  exact lp1 _ 0 _ _ _ (Nat.lt_succ_self _) (by (try simp (disch := omega) only [ta_lt, ta_le, ta_eq, tb_lt, tb_le, tb_eq, tw, tnI, tsub1, tsv, tsb32, tn32 1 (by decide), tnj 1 (by decide), tl32 0 (by decide), tl64 0 (by decide), tl32 1 (by decide), tl64 1 (by decide), tl32 4 (by decide), tl64 4 (by decide)]); omega) hw (lv_sub hl [0, 1, 2, 3] rfl)
set_option maxRecDepth 100000 in
set_option maxHeartbeats 8000000 in
theorem c_X1_caseWith (l : Launch) (G : va_G) (kc : KC) (ad : Nat → Nat) (σ : Sg) (u : Nat) (mc : Nat) (hu : u ∈ ntL) (hmc : mc ∈ mcL) (hT : TC σ) : MI l G kc yX1_caseWith cX1_caseWith 3 (some .int) 1 23 [.ref (ad u), .ref (ad (mc + 4))] shC ad σ (fun r σ1 => (-1 ≤ r.toInt ∧ r.toInt ≤ 39) ∧ σ1 = σ) := by
  intro sz
  refine z_body (y := yX1_caseWith) (n := 3) (av := [.ref (ad u), .ref (ad (mc + 4))]) (Qc := fun A => va_Qi (fun r σ1 => (-1 ≤ r.toInt ∧ r.toInt ≤ 39) ∧ σ1 = σ) (PoC G kc shC ad A) A) (plainFor_of_name (by decide)) (Nat.le_of_ble_eq_true rfl) (fun pr e s m below meth c A C0 hr hlk hnm hw hRo ls hl => ?_) sz
  have hx := C0.1
  have hb := C0.2.1
  have hown := C0.2.2.2.1
  have hts := C0.2.2.2.2.1
  have hl : lv_has ls 3 [(0, .ref (ad u)), (1, .ref (ad (mc + 4)))] := hl
  have hun_ := ntN u hu
  have hmcn := mcN mc hmc
  refine lv_iconst (v := 0) hx hb (dkP dF_3 DX1_caseWith (i := 0) rfl rfl) (by decide) ?_
  refine lv_istore_n (lv' := [(2, .int 0), (0, .ref (ad u)), (1, .ref (ad (mc + 4)))]) hx hb (dkP dF_61 DX1_caseWith (i := 1) rfl rfl) rfl hl (by decide) rfl (fun ls hl => ?_)
  have lp1 : ∀ (nq : Nat) (q2_2 : Nat) (H : Heap) (locs : List Loc) (ls : Array Slot), 40 - q2_2 < nq → (q2_2 ≤ 40) → St G kc A s.heap shC ad σ H locs → lv_has ls 3 [(2, .int (nI q2_2)), (0, .ref (ad u)), (1, .ref (ad (mc + 4)))] → W pr l e { frames := 1, cells := 0, slots := 0, locals := 23 } s m ([.ref (ad u), .ref (ad (mc + 4))] : List Value).toArray below meth c H locs 0 0 (MQ below (va_Qi (fun r σ1 => (-1 ≤ r.toInt ∧ r.toInt ≤ 39) ∧ σ1 = σ) (PoC G kc shC ad A) A) ([.ref (ad u), .ref (ad (mc + 4))] : List Value).toArray s 0 0 A) (F0 m 2 ls []) := by
    intro nq
    induction nq with
    | zero => intro q2_2 H locs ls hmu; exact absurd hmu (Nat.not_lt_zero _)
    | succ nq ih1 =>
      intro q2_2 H locs ls hmu hq2_2 hw hl
      refine lv_iload_n hx hb (dkP dF_28 DX1_caseWith (i := 2) rfl rfl) rfl (lv_at hl 0 rfl) ?_
      refine lv_aload_n hx hb (dkP dF_42 DX1_caseWith (i := 3) rfl rfl) rfl (lv_at hl 1 rfl) ?_
      refine z_gi C0 hw u 3 (fk_of (shl_nt_0 u hu) rfl) fl_X1_40 (dk2 dF_180 DX1_caseWith (i := 4) rfl rfl rfl) ?_
      obtain ⟨n2, hn2, en2⟩ := rngN (x := σ.1 u 3) (h := 40) (tcr_2_3 hT (tck_nt_0 u hu))
      refine z_top (y := nI n2) en2 ?_
      refine lv_icmp_ge (tgt := 27) hx hb (dkS dF_162 DX1_caseWith (i := 5) rfl rfl rfl) (by decide) (fun c3 => ?_) (fun c3 => ?_)
      · simp (disch := omega) only [ta_lt, ta_le, ta_eq, tnI] at c3
        refine lv_iconst (v := (-1)) hx hb (dkP dF_2 DX1_caseWith (i := 15) rfl rfl) (by decide) ?_
        exact z_iret C0 hr hlk hw (⟨(show -1 ≤ _ ∧ _ ≤ 39 from by (try simp (disch := omega) only [tnI, tn32 1 (by decide), tl32 0 (by decide)]); omega), rfl⟩) (dkP dF_172 DX1_caseWith (i := 16) rfl rfl)
      · simp (disch := omega) only [ta_lt, ta_le, ta_eq, tnI] at c3
        refine lv_aload_n hx hb (dkP dF_42 DX1_caseWith (i := 6) rfl rfl) rfl (lv_at hl 1 rfl) ?_
        refine lv_iload_n hx hb (dkP dF_28 DX1_caseWith (i := 7) rfl rfl) rfl (lv_at hl 0 rfl) ?_
        refine lv_aload_n hx hb (dkP dF_43 DX1_caseWith (i := 8) rfl rfl) rfl (lv_at hl 2 rfl) ?_
        refine zk_I hw (zr_V (As := [.int (nI q2_2), .ref (ad (mc + 4))]) (rest := []) C0 (c_X1_turnsSo l G kc ad σ u q2_2 mc hu hmc (by first | omega | assumption | decide | rfl) hT _) cv_X1_turnsSo lk_X1_89 (zp_V C0 hRo hw u (shl_nt_0 u hu) rfl rfl) rfl hl.1 rfl ⟨by decide, by decide⟩ (Nat.le_of_ble_eq_true rfl) (dk2 dF_182 DX1_caseWith (i := 9) rfl rfl rfl) ⟨Nat.le_refl _, Nat.le_refl _⟩) (fun r4 s4 H locs hp hw => ?_)
        obtain ⟨f4_0, hs4⟩ := hp
        (rw [hs4] at hw)
        rcases f4_0 with ⟨rfl, hc4⟩ | ⟨rfl, hc4⟩
        · skip
          refine lv_if_eq (tgt := 21) hx hb (dkS dF_153 DX1_caseWith (i := 10) rfl rfl rfl) (by decide) (fun h => absurd h (by decide)) (fun _ => ?_)
          refine lv_iload_n hx hb (dkP dF_28 DX1_caseWith (i := 11) rfl rfl) rfl (lv_at hl 0 rfl) ?_
          exact z_iret C0 hr hlk hw (⟨(show -1 ≤ _ ∧ _ ≤ 39 from by (try simp (disch := omega) only [tnI, tn32 1 (by decide), tl32 0 (by decide)]); omega), rfl⟩) (dkP dF_172 DX1_caseWith (i := 12) rfl rfl)
        · skip
          refine lv_if_eq (tgt := 21) hx hb (dkS dF_153 DX1_caseWith (i := 10) rfl rfl rfl) (by decide) (fun _ => ?_) (fun h => absurd h (by decide))
          refine lv_iinc (v := nI (q2_2 + 1)) (lv' := [(2, .int (nI (q2_2 + 1))), (0, .ref (ad u)), (1, .ref (ad (mc + 4)))]) hx hb (dkI DX1_caseWith (i := 13) rfl rfl rfl rfl) hl (k := 0) rfl (nI_1 _) (by decide) rfl (fun ls hl => ?_)
          refine lv_goto (tgt := 2) hx hb (dkS dF_167 DX1_caseWith (i := 14) rfl rfl rfl) (by decide) ?_
          exact ih1 (q2_2 + 1) _ _ _ (by omega) (by (try simp only [lg_cmp_lt, lg_cmp_le, lg_cmp_gt, lg_cmp_ge, lg_cmp_eq] at c3); (try simp (disch := omega) only [ta_lt, ta_le, ta_eq, tb_lt, tb_le, tb_eq, tw, tnI, tsub1, tsv, tsb32, tn32 1 (by decide), tnj 1 (by decide), tl32 0 (by decide), tl64 0 (by decide)] at c3); (try simp only [lg_cmp_lt, lg_cmp_le, lg_cmp_gt, lg_cmp_ge, lg_cmp_eq] at f4_0); (try simp (disch := omega) only [ta_lt, ta_le, ta_eq, tb_lt, tb_le, tb_eq, tw, tnI, tsub1, tsv, tsb32, tn32 1 (by decide), tnj 1 (by decide), tl32 0 (by decide), tl64 0 (by decide)] at f4_0); (try simp only [lg_cmp_lt, lg_cmp_le, lg_cmp_gt, lg_cmp_ge, lg_cmp_eq] at hc4); (try simp (disch := omega) only [ta_lt, ta_le, ta_eq, tb_lt, tb_le, tb_eq, tw, tnI, tsub1, tsv, tsb32, tn32 1 (by decide), tnj 1 (by decide), tl32 0 (by decide), tl64 0 (by decide)] at hc4); (try simp (disch := omega) only [ta_lt, ta_le, ta_eq, tb_lt, tb_le, tb_eq, tw, tnI, tsub1, tsv, tsb32, tn32 1 (by decide), tnj 1 (by decide), tl32 0 (by decide), tl64 0 (by decide)]); omega) hw (lv_sub hl [0, 1, 2] rfl)
  exact lp1 _ 0 _ _ _ (Nat.lt_succ_self _) (by (try simp (disch := omega) only [ta_lt, ta_le, ta_eq, tb_lt, tb_le, tb_eq, tw, tnI, tsub1, tsv, tsb32, tn32 1 (by decide), tnj 1 (by decide), tl32 0 (by decide), tl64 0 (by decide)]); omega) hw (lv_sub hl [0, 1, 2] rfl)
