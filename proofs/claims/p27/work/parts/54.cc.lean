/-- a SUM that is whole among the first u cells -/
def sok (f : Nat → Int32) (u a : Nat) : Prop := ∃ j, j < 16 ∧ f a &&& 15 = nI j ∧ a + 2 + j ≤ u
def soL : List Nat := [17, 39, 61, 83, 105, 127, 149, 171, 200, 266, 288, 310, 332, 354, 376, 398, 420, 449, 471, 493, 515, 537, 559, 581, 603, 632, 654, 676, 698, 720, 742, 764, 786]
set_option maxRecDepth 20000 in
theorem shl_so_0 : ∀ d, d ∈ soL → shC[d + 0]? = some (0, 8, [(1, d + 1), (0, 0)]) := by decide +kernel
theorem tck_so_0 : ∀ d, d ∈ soL → tcL.getD (d + 0) 0 = 3 := by decide +kernel
set_option maxRecDepth 100000 in
set_option maxHeartbeats 8000000 in
theorem c_X8_clear_o (l : Launch) (G : va_G) (kc : KC) (ad : Nat → Nat) (σ : Sg) (su : Nat)  (hsu : su ∈ soL) (hT : TC σ) : MV l G kc yX8_clear cX8_clear 1 0 0 [.ref (ad su)] shC ad σ (fun σ1 => TC σ1 ∧ frC (fun x y => (x = su ∧ y = 1)) σ σ1) := by
  intro sz
  refine z_body (y := yX8_clear) (n := 1) (av := [.ref (ad su)]) (Qc := fun A => va_Qv (fun σ1 => TC σ1 ∧ frC (fun x y => (x = su ∧ y = 1)) σ σ1) (PoC G kc shC ad A) A) (plainFor_of_name (by decide)) (Nat.le_of_ble_eq_true rfl) (fun pr e s m below meth c A C0 hr hlk hnm hw hRo ls hl => ?_) sz
  have hx := C0.1
  have hb := C0.2.1
  have hown := C0.2.2.2.1
  have hts := C0.2.2.2.2.1
  have hl : lv_has ls 1 [(0, .ref (ad su))] := hl
  refine lv_aload_n hx hb (dkP dF_42 DX8_clear (i := 0) rfl rfl) rfl (lv_at hl 0 rfl) ?_
  refine lv_iconst (v := 0) hx hb (dkP dF_3 DX8_clear (i := 1) rfl rfl) (by decide) ?_
  refine z_pi C0 hw su 1 (fk_of (shl_so_0 su hsu) rfl) fp_X8_15 (dk2 dF_181 DX8_clear (i := 2) rfl rfl rfl) (fun H locs hw => ?_)
  have hT1 : TC (sI σ su 1 0) := TC.w hT (tcw_3_1 (tck_so_0 su hsu) (by (try simp (disch := omega) only [ta_lt, ta_le, ta_eq, tb_lt, tb_le, tb_eq, tw, tnI, tsub1, tsv, tsb32, tn32 1 (by decide), tnj 1 (by decide), tl32 0 (by decide), tl64 0 (by decide)]); omega))
  have hF1 : frC (fun x y => (x = su ∧ y = 1)) σ (sI σ su 1 0) := frC.w frC.refl (by show (su = su ∧ 1 = 1); exact ⟨rfl, rfl⟩)
  exact z_vret C0 hr hlk hw (⟨hT1, hF1⟩) (dkP dF_177 DX8_clear (i := 3) rfl rfl)
set_option maxRecDepth 20000 in
theorem shl_so_1 : ∀ d, d ∈ soL → shC[d + 1]? = some (1, 192, []) := by decide +kernel
theorem tck_so_1 : ∀ d, d ∈ soL → tcL.getD (d + 1) 0 = 0 := by decide +kernel
set_option maxRecDepth 100000 in
set_option maxHeartbeats 8000000 in
theorem c_X8_behind_o (l : Launch) (G : va_G) (kc : KC) (ad : Nat → Nat) (σ : Sg) (su : Nat) (ap : Nat) {j : Nat} (hsu : su ∈ soL) (hj : σ.1 (su + 1) ap &&& 15 = nI j) (hab : ap + 2 + j ≤ 192) (hT : TC σ) : MI l G kc yX8_behind cX8_behind 2 (some .int) 0 0 [.ref (ad su), .int (nI ap)] shC ad σ (fun r σ1 => (r = nI (ap + 2 + j)) ∧ σ1 = σ) := by
  intro sz
  refine z_body (y := yX8_behind) (n := 2) (av := [.ref (ad su), .int (nI ap)]) (Qc := fun A => va_Qi (fun r σ1 => (r = nI (ap + 2 + j)) ∧ σ1 = σ) (PoC G kc shC ad A) A) (plainFor_of_name (by decide)) (Nat.le_of_ble_eq_true rfl) (fun pr e s m below meth c A C0 hr hlk hnm hw hRo ls hl => ?_) sz
  have hx := C0.1
  have hb := C0.2.1
  have hown := C0.2.2.2.1
  have hts := C0.2.2.2.2.1
  have hl : lv_has ls 2 [(0, .ref (ad su)), (1, .int (nI ap))] := hl
  refine lv_iload_n hx hb (dkP dF_27 DX8_behind (i := 0) rfl rfl) rfl (lv_at hl 1 rfl) ?_
  refine lv_iconst (v := 2) hx hb (dkP dF_5 DX8_behind (i := 1) rfl rfl) (by decide) ?_
  refine lv_iadd hx hb (dkP dF_96 DX8_behind (i := 2) rfl rfl) ?_
  refine z_top (y := nI (ap + 2)) (by simp only [fa_lit, nI_add, pk_mul]) ?_
  refine lv_aload_n hx hb (dkP dF_42 DX8_behind (i := 3) rfl rfl) rfl (lv_at hl 0 rfl) ?_
  refine z_gr C0 hw su 0 (su + 1) (fk_of (shl_so_0 su hsu) rfl) fl_X8_9 (dk2 dF_180 DX8_behind (i := 4) rfl rfl rfl) ?_
  refine lv_iload_n hx hb (dkP dF_27 DX8_behind (i := 5) rfl rfl) rfl (lv_at hl 1 rfl) ?_
  refine z_ialdN (n := 192) C0 hw (su + 1) ap (ak_of (shl_so_1 su hsu)) (by omega) (by decide) (dkP dF_46 DX8_behind (i := 6) rfl rfl) ?_
  obtain ⟨v1, ev1⟩ : ∃ y : Int32, σ.1 (su + 1) ap = y := ⟨_, rfl⟩
  refine z_top (y := v1) ev1 ?_
  refine lv_bipush (v := 15) hx hb (dks dF_16 DX8_behind (i := 7) rfl rfl rfl) (by decide) ?_
  refine lv_iand hx hb (dkP dF_126 DX8_behind (i := 8) rfl rfl) ?_
  refine z_top (y := nI j) (by rw [← ev1]; exact hj) ?_
  refine lv_iadd hx hb (dkP dF_96 DX8_behind (i := 9) rfl rfl) ?_
  refine z_top (y := nI ((ap + 2) + j)) (by simp only [fa_lit, nI_add, pk_mul]) ?_
  exact z_iret C0 hr hlk hw (⟨rfl, rfl⟩) (dkP dF_172 DX8_behind (i := 10) rfl rfl)
def mcL : List Nat := [210, 215]
set_option maxRecDepth 20000 in
theorem shl_mc_1 : ∀ d, d ∈ mcL → shC[d + 1]? = some (1, 8, []) := by decide +kernel
set_option maxRecDepth 100000 in
set_option maxHeartbeats 8000000 in
theorem c_X8_valueAt_o (l : Launch) (G : va_G) (kc : KC) (ad : Nat → Nat) (σ : Sg) (su : Nat) (ap : Nat) (mc : Nat) {j : Nat} (hsu : su ∈ soL) (hmc : mc ∈ mcL) (hj : σ.1 (su + 1) ap &&& 15 = nI j) (hab : ap + 2 + j ≤ 192) (hT : TC σ) : MI l G kc yX8_valueAt cX8_valueAt 7 (some .int) 0 0 [.ref (ad su), .int (nI ap), .ref (ad (mc + 1))] shC ad σ (fun r σ1 => σ1 = σ) := by
  intro sz
  refine z_body (y := yX8_valueAt) (n := 7) (av := [.ref (ad su), .int (nI ap), .ref (ad (mc + 1))]) (Qc := fun A => va_Qi (fun r σ1 => σ1 = σ) (PoC G kc shC ad A) A) (plainFor_of_name (by decide)) (Nat.le_of_ble_eq_true rfl) (fun pr e s m below meth c A C0 hr hlk hnm hw hRo ls hl => ?_) sz
  have hx := C0.1
  have hb := C0.2.1
  have hown := C0.2.2.2.1
  have hts := C0.2.2.2.2.1
  have hl : lv_has ls 7 [(0, .ref (ad su)), (1, .int (nI ap)), (2, .ref (ad (mc + 1)))] := hl
  refine lv_aload_n hx hb (dkP dF_42 DX8_valueAt (i := 0) rfl rfl) rfl (lv_at hl 0 rfl) ?_
  refine z_gr C0 hw su 0 (su + 1) (fk_of (shl_so_0 su hsu) rfl) fl_X8_9 (dk2 dF_180 DX8_valueAt (i := 1) rfl rfl rfl) ?_
  refine lv_iload_n hx hb (dkP dF_27 DX8_valueAt (i := 2) rfl rfl) rfl (lv_at hl 1 rfl) ?_
  refine z_ialdN (n := 192) C0 hw (su + 1) ap (ak_of (shl_so_1 su hsu)) (by omega) (by decide) (dkP dF_46 DX8_valueAt (i := 3) rfl rfl) ?_
  obtain ⟨v1, ev1⟩ : ∃ y : Int32, σ.1 (su + 1) ap = y := ⟨_, rfl⟩
  refine z_top (y := v1) ev1 ?_
  refine lv_bipush (v := 15) hx hb (dks dF_16 DX8_valueAt (i := 4) rfl rfl rfl) (by decide) ?_
  refine lv_iand hx hb (dkP dF_126 DX8_valueAt (i := 5) rfl rfl) ?_
  refine z_top (y := nI j) (by rw [← ev1]; exact hj) ?_
  refine lv_istore_n (lv' := [(3, .int (nI j)), (0, .ref (ad su)), (1, .int (nI ap)), (2, .ref (ad (mc + 1)))]) hx hb (dkP dF_62 DX8_valueAt (i := 6) rfl rfl) rfl hl (by decide) rfl (fun ls hl => ?_)
  refine lv_aload_n hx hb (dkP dF_42 DX8_valueAt (i := 7) rfl rfl) rfl (lv_at hl 1 rfl) ?_
  refine z_gr C0 hw su 0 (su + 1) (fk_of (shl_so_0 su hsu) rfl) fl_X8_9 (dk2 dF_180 DX8_valueAt (i := 8) rfl rfl rfl) ?_
  refine lv_iload_n hx hb (dkP dF_27 DX8_valueAt (i := 9) rfl rfl) rfl (lv_at hl 2 rfl) ?_
  refine z_ialdN (n := 192) C0 hw (su + 1) ap (ak_of (shl_so_1 su hsu)) (by omega) (by decide) (dkP dF_46 DX8_valueAt (i := 10) rfl rfl) ?_
  refine z_top (y := v1) ev1 ?_
  refine lv_iconst (v := 4) hx hb (dkP dF_7 DX8_valueAt (i := 11) rfl rfl) (by decide) ?_
  refine lv_ishr hx hb (dkP dF_122 DX8_valueAt (i := 12) rfl rfl) ?_
  refine lv_topi (fun v2 ev2 => ?_)
  refine lv_istore (lv' := [(4, .int v2), (3, .int (nI j)), (0, .ref (ad su)), (1, .int (nI ap)), (2, .ref (ad (mc + 1)))]) hx hb (dk1 dF_54 DX8_valueAt (i := 13) rfl rfl rfl) hl (by decide) rfl (fun ls hl => ?_)
  refine lv_aload_n hx hb (dkP dF_42 DX8_valueAt (i := 14) rfl rfl) rfl (lv_at hl 2 rfl) ?_
  refine z_gr C0 hw su 0 (su + 1) (fk_of (shl_so_0 su hsu) rfl) fl_X8_9 (dk2 dF_180 DX8_valueAt (i := 15) rfl rfl rfl) ?_
  refine lv_iload_n hx hb (dkP dF_27 DX8_valueAt (i := 16) rfl rfl) rfl (lv_at hl 3 rfl) ?_
  refine lv_iconst (v := 1) hx hb (dkP dF_4 DX8_valueAt (i := 17) rfl rfl) (by decide) ?_
  refine lv_iadd hx hb (dkP dF_96 DX8_valueAt (i := 18) rfl rfl) ?_
  refine z_top (y := nI (ap + 1)) (by simp only [fa_lit, nI_add, pk_mul]) ?_
  refine z_ialdN (n := 192) C0 hw (su + 1) (ap + 1) (ak_of (shl_so_1 su hsu)) (by omega) (by decide) (dkP dF_46 DX8_valueAt (i := 19) rfl rfl) ?_
  obtain ⟨v3, ev3⟩ : ∃ y : Int32, σ.1 (su + 1) (ap + 1) = y := ⟨_, rfl⟩
  refine z_top (y := v3) ev3 ?_
  refine lv_istore (lv' := [(5, .int v3), (4, .int v2), (3, .int (nI j)), (0, .ref (ad su)), (1, .int (nI ap)), (2, .ref (ad (mc + 1)))]) hx hb (dk1 dF_54 DX8_valueAt (i := 20) rfl rfl rfl) hl (by decide) rfl (fun ls hl => ?_)
  refine lv_iconst (v := 0) hx hb (dkP dF_3 DX8_valueAt (i := 21) rfl rfl) (by decide) ?_
  refine lv_istore (lv' := [(6, .int 0), (5, .int v3), (4, .int v2), (3, .int (nI j)), (0, .ref (ad su)), (1, .int (nI ap)), (2, .ref (ad (mc + 1)))]) hx hb (dk1 dF_54 DX8_valueAt (i := 22) rfl rfl rfl) hl (by decide) rfl (fun ls hl => ?_)
  have lp4 : ∀ (nq : Nat) (q6_33 : Nat) (q5_33 : Int32) (q4_33 : Int32) (H : Heap) (locs : List Loc) (ls : Array Slot), 2147483647 - q6_33 < nq → (q6_33 ≤ 2147483647) → St G kc A s.heap shC ad σ H locs → lv_has ls 7 [(6, .int (nI q6_33)), (5, .int q5_33), (4, .int q4_33), (3, .int (nI j)), (0, .ref (ad su)), (1, .int (nI ap)), (2, .ref (ad (mc + 1)))] → W pr l e { frames := 0, cells := 0, slots := 0, locals := 0 } s m ([.ref (ad su), .int (nI ap), .ref (ad (mc + 1))] : List Value).toArray below meth c H locs 0 0 (MQ below (va_Qi (fun r σ1 => σ1 = σ) (PoC G kc shC ad A) A) ([.ref (ad su), .int (nI ap), .ref (ad (mc + 1))] : List Value).toArray s 0 0 A) (F0 m 33 ls []) := by
    intro nq
    induction nq with
    | zero => intro q6_33 q5_33 q4_33 H locs ls hmu; exact absurd hmu (Nat.not_lt_zero _)
    | succ nq ih4 =>
      intro q6_33 q5_33 q4_33 H locs ls hmu hq6_33 hw hl
      refine lv_iload hx hb (dk1 dF_21 DX8_valueAt (i := 23) rfl rfl rfl) (lv_at hl 0 rfl) ?_
      refine lv_iload_n hx hb (dkP dF_29 DX8_valueAt (i := 24) rfl rfl) rfl (lv_at hl 3 rfl) ?_
      refine lv_icmp_ge (tgt := 75) hx hb (dkS dF_162 DX8_valueAt (i := 25) rfl rfl rfl) (by decide) (fun c5 => ?_) (fun c5 => ?_)
      · simp (disch := omega) only [ta_lt, ta_le, ta_eq, tnI] at c5
        refine lv_iload hx hb (dk1 dF_21 DX8_valueAt (i := 49) rfl rfl rfl) (lv_at hl 1 rfl) ?_
        exact z_iret C0 hr hlk hw rfl (dkP dF_172 DX8_valueAt (i := 50) rfl rfl)
      · simp (disch := omega) only [ta_lt, ta_le, ta_eq, tnI] at c5
        refine lv_iload hx hb (dk1 dF_21 DX8_valueAt (i := 26) rfl rfl rfl) (lv_at hl 1 rfl) ?_
        refine lv_aload_n hx hb (dkP dF_42 DX8_valueAt (i := 27) rfl rfl) rfl (lv_at hl 4 rfl) ?_
        refine z_gr C0 hw su 0 (su + 1) (fk_of (shl_so_0 su hsu) rfl) fl_X8_9 (dk2 dF_180 DX8_valueAt (i := 28) rfl rfl rfl) ?_
        refine lv_iload_n hx hb (dkP dF_27 DX8_valueAt (i := 29) rfl rfl) rfl (lv_at hl 5 rfl) ?_
        refine lv_iconst (v := 2) hx hb (dkP dF_5 DX8_valueAt (i := 30) rfl rfl) (by decide) ?_
        refine lv_iadd hx hb (dkP dF_96 DX8_valueAt (i := 31) rfl rfl) ?_
        refine z_top (y := nI (ap + 2)) (by simp only [fa_lit, nI_add, pk_mul]) ?_
        refine lv_iload hx hb (dk1 dF_21 DX8_valueAt (i := 32) rfl rfl rfl) (lv_at hl 0 rfl) ?_
        refine lv_iadd hx hb (dkP dF_96 DX8_valueAt (i := 33) rfl rfl) ?_
        refine z_top (y := nI ((ap + 2) + q6_33)) (by simp only [fa_lit, nI_add, pk_mul]) ?_
        refine z_ialdN (n := 192) C0 hw (su + 1) ((ap + 2) + q6_33) (ak_of (shl_so_1 su hsu)) (by omega) (by decide) (dkP dF_46 DX8_valueAt (i := 34) rfl rfl) ?_
        obtain ⟨v6, ev6⟩ : ∃ y : Int32, σ.1 (su + 1) ((ap + 2) + q6_33) = y := ⟨_, rfl⟩
        refine z_top (y := v6) ev6 ?_
        refine lv_aload_n hx hb (dkP dF_44 DX8_valueAt (i := 35) rfl rfl) rfl (lv_at hl 6 rfl) ?_
        refine lv_iload hx hb (dk1 dF_21 DX8_valueAt (i := 36) rfl rfl rfl) (lv_at hl 2 rfl) ?_
        refine lv_bipush (v := 7) hx hb (dks dF_16 DX8_valueAt (i := 37) rfl rfl rfl) (by decide) ?_
        refine lv_iand hx hb (dkP dF_126 DX8_valueAt (i := 38) rfl rfl) ?_
        refine z_iald C0 hw (mc + 1) (ak_of (shl_mc_1 mc hmc)) (pk_andIn _ 3 (by decide) (by decide)) (dkP dF_46 DX8_valueAt (i := 39) rfl rfl) ?_
        refine lv_imul hx hb (dkP dF_104 DX8_valueAt (i := 40) rfl rfl) ?_
        refine lv_iadd hx hb (dkP dF_96 DX8_valueAt (i := 41) rfl rfl) ?_
        refine lv_topi (fun v7 ev7 => ?_)
        refine lv_istore (lv' := [(5, .int v7), (6, .int (nI q6_33)), (4, .int q4_33), (3, .int (nI j)), (0, .ref (ad su)), (1, .int (nI ap)), (2, .ref (ad (mc + 1)))]) hx hb (dk1 dF_54 DX8_valueAt (i := 42) rfl rfl rfl) hl (by decide) rfl (fun ls hl => ?_)
        refine lv_iload hx hb (dk1 dF_21 DX8_valueAt (i := 43) rfl rfl rfl) (lv_at hl 2 rfl) ?_
        refine lv_iconst (v := 3) hx hb (dkP dF_6 DX8_valueAt (i := 44) rfl rfl) (by decide) ?_
        refine lv_ishr hx hb (dkP dF_122 DX8_valueAt (i := 45) rfl rfl) ?_
        refine lv_topi (fun v8 ev8 => ?_)
        refine lv_istore (lv' := [(4, .int v8), (5, .int v7), (6, .int (nI q6_33)), (3, .int (nI j)), (0, .ref (ad su)), (1, .int (nI ap)), (2, .ref (ad (mc + 1)))]) hx hb (dk1 dF_54 DX8_valueAt (i := 46) rfl rfl rfl) hl (by decide) rfl (fun ls hl => ?_)
        refine lv_iinc (v := nI (q6_33 + 1)) (lv' := [(6, .int (nI (q6_33 + 1))), (4, .int v8), (5, .int v7), (3, .int (nI j)), (0, .ref (ad su)), (1, .int (nI ap)), (2, .ref (ad (mc + 1)))]) hx hb (dkI DX8_valueAt (i := 47) rfl rfl rfl rfl) hl (k := 2) rfl (nI_1 _) (by decide) rfl (fun ls hl => ?_)
        refine lv_goto (tgt := 33) hx hb (dkS dF_167 DX8_valueAt (i := 48) rfl rfl rfl) (by decide) ?_
        exact ih4 (q6_33 + 1) v7 v8 _ _ _ (by omega) (by (try simp only [lg_cmp_lt, lg_cmp_le, lg_cmp_gt, lg_cmp_ge, lg_cmp_eq] at c5); (try simp (disch := omega) only [ta_lt, ta_le, ta_eq, tb_lt, tb_le, tb_eq, tw, tnI, tsub1, tsv, tsb32, tn32 1 (by decide), tnj 1 (by decide), tl32 0 (by decide), tl64 0 (by decide), tl32 1 (by decide), tl64 1 (by decide), tl32 2 (by decide), tl64 2 (by decide), tl32 3 (by decide), tl64 3 (by decide), tl32 4 (by decide), tl64 4 (by decide), tl32 7 (by decide), tl64 7 (by decide), tl32 15 (by decide), tl64 15 (by decide)] at c5); (try simp (disch := omega) only [ta_lt, ta_le, ta_eq, tb_lt, tb_le, tb_eq, tw, tnI, tsub1, tsv, tsb32, tn32 1 (by decide), tnj 1 (by decide), tl32 0 (by decide), tl64 0 (by decide), tl32 1 (by decide), tl64 1 (by decide), tl32 2 (by decide), tl64 2 (by decide), tl32 3 (by decide), tl64 3 (by decide), tl32 4 (by decide), tl64 4 (by decide), tl32 7 (by decide), tl64 7 (by decide), tl32 15 (by decide), tl64 15 (by decide)]); omega) hw (lv_sub hl [0, 2, 1, 3, 4, 5, 6] rfl)
  exact lp4 _ 0 v3 v2 _ _ _ (Nat.lt_succ_self _) (by (try simp (disch := omega) only [ta_lt, ta_le, ta_eq, tb_lt, tb_le, tb_eq, tw, tnI, tsub1, tsv, tsb32, tn32 1 (by decide), tnj 1 (by decide), tl32 0 (by decide), tl64 0 (by decide), tl32 1 (by decide), tl64 1 (by decide), tl32 2 (by decide), tl64 2 (by decide), tl32 3 (by decide), tl64 3 (by decide), tl32 4 (by decide), tl64 4 (by decide), tl32 7 (by decide), tl64 7 (by decide), tl32 15 (by decide), tl64 15 (by decide)]); omega) hw (lv_sub hl [0, 1, 2, 3, 4, 5, 6] rfl)
set_option maxRecDepth 100000 in
set_option maxHeartbeats 8000000 in
theorem c_X8_addCell_o (l : Launch) (G : va_G) (kc : KC) (ad : Nat → Nat) (σ : Sg) (su : Nat) (cv : Int32) {u : Nat} (hsu : su ∈ soL) (hu : σ.1 su 1 = nI u) (huc : u < 192) (hT : TC σ) : MV l G kc yX8_addCell cX8_addCell 2 0 0 [.ref (ad su), .int cv] shC ad σ (fun σ1 => (σ1.1 su 1 = nI (u + 1)) ∧ (σ1.1 (su + 1) u = cv) ∧ (∀ x, x ≠ u → σ1.1 (su + 1) x = σ.1 (su + 1) x) ∧ TC σ1 ∧ frC (fun x y => (x = su + 1) ∨ (x = su ∧ y = 1)) σ σ1) := by
  intro sz
  refine z_body (y := yX8_addCell) (n := 2) (av := [.ref (ad su), .int cv]) (Qc := fun A => va_Qv (fun σ1 => (σ1.1 su 1 = nI (u + 1)) ∧ (σ1.1 (su + 1) u = cv) ∧ (∀ x, x ≠ u → σ1.1 (su + 1) x = σ.1 (su + 1) x) ∧ TC σ1 ∧ frC (fun x y => (x = su + 1) ∨ (x = su ∧ y = 1)) σ σ1) (PoC G kc shC ad A) A) (plainFor_of_name (by decide)) (Nat.le_of_ble_eq_true rfl) (fun pr e s m below meth c A C0 hr hlk hnm hw hRo ls hl => ?_) sz
  have hx := C0.1
  have hb := C0.2.1
  have hown := C0.2.2.2.1
  have hts := C0.2.2.2.2.1
  have hl : lv_has ls 2 [(0, .ref (ad su)), (1, .int cv)] := hl
  refine lv_aload_n hx hb (dkP dF_42 DX8_addCell (i := 0) rfl rfl) rfl (lv_at hl 0 rfl) ?_
  refine z_gi C0 hw su 1 (fk_of (shl_so_0 su hsu) rfl) fl_X8_15 (dk2 dF_180 DX8_addCell (i := 1) rfl rfl rfl) ?_
  refine z_top (y := (nI u)) hu ?_
  refine lv_aload_n hx hb (dkP dF_42 DX8_addCell (i := 2) rfl rfl) rfl (lv_at hl 0 rfl) ?_
  refine z_gr C0 hw su 0 (su + 1) (fk_of (shl_so_0 su hsu) rfl) fl_X8_9 (dk2 dF_180 DX8_addCell (i := 3) rfl rfl rfl) ?_
  refine z_alen (t := 0) (n := 192) C0 hw (su + 1) (ak_of (shl_so_1 su hsu)) (by decide) (dkP dF_190 DX8_addCell (i := 4) rfl rfl) ?_
  refine z_top (y := 192) rfl ?_
  refine lv_icmp_ge (tgt := 32) hx hb (dkS dF_162 DX8_addCell (i := 5) rfl rfl rfl) (by decide) (fun c1 => absurd c1 (by simp (disch := omega) only [ta_lt, ta_le, ta_eq, tnI, tl32 192 (by decide)]; omega)) (fun c1 => ?_)
  refine lv_aload_n hx hb (dkP dF_42 DX8_addCell (i := 6) rfl rfl) rfl (lv_at hl 0 rfl) ?_
  refine z_gr C0 hw su 0 (su + 1) (fk_of (shl_so_0 su hsu) rfl) fl_X8_9 (dk2 dF_180 DX8_addCell (i := 7) rfl rfl rfl) ?_
  refine lv_aload_n hx hb (dkP dF_42 DX8_addCell (i := 8) rfl rfl) rfl (lv_at hl 0 rfl) ?_
  refine z_gi C0 hw su 1 (fk_of (shl_so_0 su hsu) rfl) fl_X8_15 (dk2 dF_180 DX8_addCell (i := 9) rfl rfl rfl) ?_
  refine z_top (y := (nI u)) hu ?_
  refine lv_iload_n hx hb (dkP dF_27 DX8_addCell (i := 10) rfl rfl) rfl (lv_at hl 1 rfl) ?_
  refine z_iastN (n := 192) C0 hw (su + 1) u (ak_of (shl_so_1 su hsu)) (by omega) (by decide) (dkP dF_79 DX8_addCell (i := 11) rfl rfl) (fun H locs hw => ?_)
  have hT2 : TC (sI σ (su + 1) u cv) := TC.w hT (tc0 (tck_so_1 su hsu))
  have hF2 : frC (fun x y => (x = su + 1) ∨ (x = su ∧ y = 1)) σ (sI σ (su + 1) u cv) := frC.w frC.refl (by show ((su + 1) = su + 1) ∨ ((su + 1) = su ∧ u = 1); exact Or.inl rfl)
  refine lv_aload_n hx hb (dkP dF_42 DX8_addCell (i := 12) rfl rfl) rfl (lv_at hl 0 rfl) ?_
  refine lv_dup hx hb (dkP dF_89 DX8_addCell (i := 13) rfl rfl) rfl ?_
  refine z_gi C0 hw su 1 (fk_of (shl_so_0 su hsu) rfl) fl_X8_15 (dk2 dF_180 DX8_addCell (i := 14) rfl rfl rfl) ?_
  refine z_top (y := (nI u)) ((rd_n (by omega)).trans hu) ?_
  refine lv_iconst (v := 1) hx hb (dkP dF_4 DX8_addCell (i := 15) rfl rfl) (by decide) ?_
  refine lv_iadd hx hb (dkP dF_96 DX8_addCell (i := 16) rfl rfl) ?_
  refine z_top (y := nI (u + 1)) (by simp only [fa_lit, nI_add, pk_mul]) ?_
  refine z_pi C0 hw su 1 (fk_of (shl_so_0 su hsu) rfl) fp_X8_15 (dk2 dF_181 DX8_addCell (i := 17) rfl rfl rfl) (fun H locs hw => ?_)
  have hT3 : TC (sI (sI σ (su + 1) u cv) su 1 (nI (u + 1))) := TC.w hT2 (tcw_3_1 (tck_so_0 su hsu) (by (try simp only [lg_cmp_lt, lg_cmp_le, lg_cmp_gt, lg_cmp_ge, lg_cmp_eq] at c1); (try simp (disch := omega) only [ta_lt, ta_le, ta_eq, tb_lt, tb_le, tb_eq, tw, tnI, tsub1, tsv, tsb32, tn32 1 (by decide), tnj 1 (by decide), tl32 0 (by decide), tl64 0 (by decide), tl32 1 (by decide), tl64 1 (by decide)] at c1); (try simp (disch := omega) only [ta_lt, ta_le, ta_eq, tb_lt, tb_le, tb_eq, tw, tnI, tsub1, tsv, tsb32, tn32 1 (by decide), tnj 1 (by decide), tl32 0 (by decide), tl64 0 (by decide), tl32 1 (by decide), tl64 1 (by decide)]); omega))
  have hF3 : frC (fun x y => (x = su + 1) ∨ (x = su ∧ y = 1)) σ (sI (sI σ (su + 1) u cv) su 1 (nI (u + 1))) := frC.w hF2 (by show (su = su + 1) ∨ (su = su ∧ 1 = 1); exact Or.inr (⟨rfl, rfl⟩))
  exact z_vret C0 hr hlk hw (⟨rd_s, ((rd_n (by omega)).trans rd_s), (fun x hx1 => (rd_n (by omega)).trans (rd_n (by omega))), hT3, hF3⟩) (dkP dF_177 DX8_addCell (i := 18) rfl rfl)
def snL : List Nat := [25, 47, 69, 91, 113, 135, 157, 179, 208, 274, 296, 318, 340, 362, 384, 406, 428, 457, 479, 501, 523, 545, 567, 589, 611, 640, 662, 684, 706, 728, 750, 772, 794]
set_option maxRecDepth 20000 in
theorem shl_sn_0 : ∀ d, d ∈ snL → shC[d + 0]? = some (0, 8, [(1, d + 1), (0, 0)]) := by decide +kernel
theorem tck_sn_0 : ∀ d, d ∈ snL → tcL.getD (d + 0) 0 = 4 := by decide +kernel
set_option maxRecDepth 100000 in
set_option maxHeartbeats 8000000 in
theorem c_X8_clear_n (l : Launch) (G : va_G) (kc : KC) (ad : Nat → Nat) (σ : Sg) (su : Nat)  (hsu : su ∈ snL) (hT : TC σ) : MV l G kc yX8_clear cX8_clear 1 0 0 [.ref (ad su)] shC ad σ (fun σ1 => TC σ1 ∧ frC (fun x y => (x = su ∧ y = 1)) σ σ1) := by
  intro sz
  refine z_body (y := yX8_clear) (n := 1) (av := [.ref (ad su)]) (Qc := fun A => va_Qv (fun σ1 => TC σ1 ∧ frC (fun x y => (x = su ∧ y = 1)) σ σ1) (PoC G kc shC ad A) A) (plainFor_of_name (by decide)) (Nat.le_of_ble_eq_true rfl) (fun pr e s m below meth c A C0 hr hlk hnm hw hRo ls hl => ?_) sz
  have hx := C0.1
  have hb := C0.2.1
  have hown := C0.2.2.2.1
  have hts := C0.2.2.2.2.1
  have hl : lv_has ls 1 [(0, .ref (ad su))] := hl
  refine lv_aload_n hx hb (dkP dF_42 DX8_clear (i := 0) rfl rfl) rfl (lv_at hl 0 rfl) ?_
  refine lv_iconst (v := 0) hx hb (dkP dF_3 DX8_clear (i := 1) rfl rfl) (by decide) ?_
  refine z_pi C0 hw su 1 (fk_of (shl_sn_0 su hsu) rfl) fp_X8_15 (dk2 dF_181 DX8_clear (i := 2) rfl rfl rfl) (fun H locs hw => ?_)
  have hT1 : TC (sI σ su 1 0) := TC.w hT (tcw_4_1 (tck_sn_0 su hsu) (by (try simp (disch := omega) only [ta_lt, ta_le, ta_eq, tb_lt, tb_le, tb_eq, tw, tnI, tsub1, tsv, tsb32, tn32 1 (by decide), tnj 1 (by decide), tl32 0 (by decide), tl64 0 (by decide)]); omega))
  have hF1 : frC (fun x y => (x = su ∧ y = 1)) σ (sI σ su 1 0) := frC.w frC.refl (by show (su = su ∧ 1 = 1); exact ⟨rfl, rfl⟩)
  exact z_vret C0 hr hlk hw (⟨hT1, hF1⟩) (dkP dF_177 DX8_clear (i := 3) rfl rfl)
set_option maxRecDepth 20000 in
theorem shl_sn_1 : ∀ d, d ∈ snL → shC[d + 1]? = some (1, 1920, []) := by decide +kernel
theorem tck_sn_1 : ∀ d, d ∈ snL → tcL.getD (d + 1) 0 = 0 := by decide +kernel
set_option maxRecDepth 100000 in
set_option maxHeartbeats 8000000 in
theorem c_X8_behind_n (l : Launch) (G : va_G) (kc : KC) (ad : Nat → Nat) (σ : Sg) (su : Nat) (ap : Nat) {j : Nat} (hsu : su ∈ snL) (hj : σ.1 (su + 1) ap &&& 15 = nI j) (hab : ap + 2 + j ≤ 1920) (hT : TC σ) : MI l G kc yX8_behind cX8_behind 2 (some .int) 0 0 [.ref (ad su), .int (nI ap)] shC ad σ (fun r σ1 => (r = nI (ap + 2 + j)) ∧ σ1 = σ) := by
  intro sz
  refine z_body (y := yX8_behind) (n := 2) (av := [.ref (ad su), .int (nI ap)]) (Qc := fun A => va_Qi (fun r σ1 => (r = nI (ap + 2 + j)) ∧ σ1 = σ) (PoC G kc shC ad A) A) (plainFor_of_name (by decide)) (Nat.le_of_ble_eq_true rfl) (fun pr e s m below meth c A C0 hr hlk hnm hw hRo ls hl => ?_) sz
  have hx := C0.1
  have hb := C0.2.1
  have hown := C0.2.2.2.1
  have hts := C0.2.2.2.2.1
  have hl : lv_has ls 2 [(0, .ref (ad su)), (1, .int (nI ap))] := hl
  refine lv_iload_n hx hb (dkP dF_27 DX8_behind (i := 0) rfl rfl) rfl (lv_at hl 1 rfl) ?_
  refine lv_iconst (v := 2) hx hb (dkP dF_5 DX8_behind (i := 1) rfl rfl) (by decide) ?_
  refine lv_iadd hx hb (dkP dF_96 DX8_behind (i := 2) rfl rfl) ?_
  refine z_top (y := nI (ap + 2)) (by simp only [fa_lit, nI_add, pk_mul]) ?_
  refine lv_aload_n hx hb (dkP dF_42 DX8_behind (i := 3) rfl rfl) rfl (lv_at hl 0 rfl) ?_
  refine z_gr C0 hw su 0 (su + 1) (fk_of (shl_sn_0 su hsu) rfl) fl_X8_9 (dk2 dF_180 DX8_behind (i := 4) rfl rfl rfl) ?_
  refine lv_iload_n hx hb (dkP dF_27 DX8_behind (i := 5) rfl rfl) rfl (lv_at hl 1 rfl) ?_
  refine z_ialdN (n := 1920) C0 hw (su + 1) ap (ak_of (shl_sn_1 su hsu)) (by omega) (by decide) (dkP dF_46 DX8_behind (i := 6) rfl rfl) ?_
  obtain ⟨v1, ev1⟩ : ∃ y : Int32, σ.1 (su + 1) ap = y := ⟨_, rfl⟩
  refine z_top (y := v1) ev1 ?_
  refine lv_bipush (v := 15) hx hb (dks dF_16 DX8_behind (i := 7) rfl rfl rfl) (by decide) ?_
  refine lv_iand hx hb (dkP dF_126 DX8_behind (i := 8) rfl rfl) ?_
  refine z_top (y := nI j) (by rw [← ev1]; exact hj) ?_
  refine lv_iadd hx hb (dkP dF_96 DX8_behind (i := 9) rfl rfl) ?_
  refine z_top (y := nI ((ap + 2) + j)) (by simp only [fa_lit, nI_add, pk_mul]) ?_
  exact z_iret C0 hr hlk hw (⟨rfl, rfl⟩) (dkP dF_172 DX8_behind (i := 10) rfl rfl)
set_option maxRecDepth 100000 in
set_option maxHeartbeats 8000000 in
theorem c_X8_valueAt_n (l : Launch) (G : va_G) (kc : KC) (ad : Nat → Nat) (σ : Sg) (su : Nat) (ap : Nat) (mc : Nat) {j : Nat} (hsu : su ∈ snL) (hmc : mc ∈ mcL) (hj : σ.1 (su + 1) ap &&& 15 = nI j) (hab : ap + 2 + j ≤ 1920) (hT : TC σ) : MI l G kc yX8_valueAt cX8_valueAt 7 (some .int) 0 0 [.ref (ad su), .int (nI ap), .ref (ad (mc + 1))] shC ad σ (fun r σ1 => σ1 = σ) := by
  intro sz
  refine z_body (y := yX8_valueAt) (n := 7) (av := [.ref (ad su), .int (nI ap), .ref (ad (mc + 1))]) (Qc := fun A => va_Qi (fun r σ1 => σ1 = σ) (PoC G kc shC ad A) A) (plainFor_of_name (by decide)) (Nat.le_of_ble_eq_true rfl) (fun pr e s m below meth c A C0 hr hlk hnm hw hRo ls hl => ?_) sz
  have hx := C0.1
  have hb := C0.2.1
  have hown := C0.2.2.2.1
  have hts := C0.2.2.2.2.1
  have hl : lv_has ls 7 [(0, .ref (ad su)), (1, .int (nI ap)), (2, .ref (ad (mc + 1)))] := hl
  refine lv_aload_n hx hb (dkP dF_42 DX8_valueAt (i := 0) rfl rfl) rfl (lv_at hl 0 rfl) ?_
  refine z_gr C0 hw su 0 (su + 1) (fk_of (shl_sn_0 su hsu) rfl) fl_X8_9 (dk2 dF_180 DX8_valueAt (i := 1) rfl rfl rfl) ?_
  refine lv_iload_n hx hb (dkP dF_27 DX8_valueAt (i := 2) rfl rfl) rfl (lv_at hl 1 rfl) ?_
  refine z_ialdN (n := 1920) C0 hw (su + 1) ap (ak_of (shl_sn_1 su hsu)) (by omega) (by decide) (dkP dF_46 DX8_valueAt (i := 3) rfl rfl) ?_
  obtain ⟨v1, ev1⟩ : ∃ y : Int32, σ.1 (su + 1) ap = y := ⟨_, rfl⟩
  refine z_top (y := v1) ev1 ?_
  refine lv_bipush (v := 15) hx hb (dks dF_16 DX8_valueAt (i := 4) rfl rfl rfl) (by decide) ?_
  refine lv_iand hx hb (dkP dF_126 DX8_valueAt (i := 5) rfl rfl) ?_
  refine z_top (y := nI j) (by rw [← ev1]; exact hj) ?_
  refine lv_istore_n (lv' := [(3, .int (nI j)), (0, .ref (ad su)), (1, .int (nI ap)), (2, .ref (ad (mc + 1)))]) hx hb (dkP dF_62 DX8_valueAt (i := 6) rfl rfl) rfl hl (by decide) rfl (fun ls hl => ?_)
  refine lv_aload_n hx hb (dkP dF_42 DX8_valueAt (i := 7) rfl rfl) rfl (lv_at hl 1 rfl) ?_
  refine z_gr C0 hw su 0 (su + 1) (fk_of (shl_sn_0 su hsu) rfl) fl_X8_9 (dk2 dF_180 DX8_valueAt (i := 8) rfl rfl rfl) ?_
  refine lv_iload_n hx hb (dkP dF_27 DX8_valueAt (i := 9) rfl rfl) rfl (lv_at hl 2 rfl) ?_
  refine z_ialdN (n := 1920) C0 hw (su + 1) ap (ak_of (shl_sn_1 su hsu)) (by omega) (by decide) (dkP dF_46 DX8_valueAt (i := 10) rfl rfl) ?_
  refine z_top (y := v1) ev1 ?_
  refine lv_iconst (v := 4) hx hb (dkP dF_7 DX8_valueAt (i := 11) rfl rfl) (by decide) ?_
  refine lv_ishr hx hb (dkP dF_122 DX8_valueAt (i := 12) rfl rfl) ?_
  refine lv_topi (fun v2 ev2 => ?_)
  refine lv_istore (lv' := [(4, .int v2), (3, .int (nI j)), (0, .ref (ad su)), (1, .int (nI ap)), (2, .ref (ad (mc + 1)))]) hx hb (dk1 dF_54 DX8_valueAt (i := 13) rfl rfl rfl) hl (by decide) rfl (fun ls hl => ?_)
  refine lv_aload_n hx hb (dkP dF_42 DX8_valueAt (i := 14) rfl rfl) rfl (lv_at hl 2 rfl) ?_
  refine z_gr C0 hw su 0 (su + 1) (fk_of (shl_sn_0 su hsu) rfl) fl_X8_9 (dk2 dF_180 DX8_valueAt (i := 15) rfl rfl rfl) ?_
  refine lv_iload_n hx hb (dkP dF_27 DX8_valueAt (i := 16) rfl rfl) rfl (lv_at hl 3 rfl) ?_
  refine lv_iconst (v := 1) hx hb (dkP dF_4 DX8_valueAt (i := 17) rfl rfl) (by decide) ?_
  refine lv_iadd hx hb (dkP dF_96 DX8_valueAt (i := 18) rfl rfl) ?_
  refine z_top (y := nI (ap + 1)) (by simp only [fa_lit, nI_add, pk_mul]) ?_
  refine z_ialdN (n := 1920) C0 hw (su + 1) (ap + 1) (ak_of (shl_sn_1 su hsu)) (by omega) (by decide) (dkP dF_46 DX8_valueAt (i := 19) rfl rfl) ?_
  obtain ⟨v3, ev3⟩ : ∃ y : Int32, σ.1 (su + 1) (ap + 1) = y := ⟨_, rfl⟩
  refine z_top (y := v3) ev3 ?_
  refine lv_istore (lv' := [(5, .int v3), (4, .int v2), (3, .int (nI j)), (0, .ref (ad su)), (1, .int (nI ap)), (2, .ref (ad (mc + 1)))]) hx hb (dk1 dF_54 DX8_valueAt (i := 20) rfl rfl rfl) hl (by decide) rfl (fun ls hl => ?_)
  refine lv_iconst (v := 0) hx hb (dkP dF_3 DX8_valueAt (i := 21) rfl rfl) (by decide) ?_
  refine lv_istore (lv' := [(6, .int 0), (5, .int v3), (4, .int v2), (3, .int (nI j)), (0, .ref (ad su)), (1, .int (nI ap)), (2, .ref (ad (mc + 1)))]) hx hb (dk1 dF_54 DX8_valueAt (i := 22) rfl rfl rfl) hl (by decide) rfl (fun ls hl => ?_)
  have lp4 : ∀ (nq : Nat) (q6_33 : Nat) (q5_33 : Int32) (q4_33 : Int32) (H : Heap) (locs : List Loc) (ls : Array Slot), 2147483647 - q6_33 < nq → (q6_33 ≤ 2147483647) → St G kc A s.heap shC ad σ H locs → lv_has ls 7 [(6, .int (nI q6_33)), (5, .int q5_33), (4, .int q4_33), (3, .int (nI j)), (0, .ref (ad su)), (1, .int (nI ap)), (2, .ref (ad (mc + 1)))] → W pr l e { frames := 0, cells := 0, slots := 0, locals := 0 } s m ([.ref (ad su), .int (nI ap), .ref (ad (mc + 1))] : List Value).toArray below meth c H locs 0 0 (MQ below (va_Qi (fun r σ1 => σ1 = σ) (PoC G kc shC ad A) A) ([.ref (ad su), .int (nI ap), .ref (ad (mc + 1))] : List Value).toArray s 0 0 A) (F0 m 33 ls []) := by
    intro nq
    induction nq with
    | zero => intro q6_33 q5_33 q4_33 H locs ls hmu; exact absurd hmu (Nat.not_lt_zero _)
    | succ nq ih4 =>
      intro q6_33 q5_33 q4_33 H locs ls hmu hq6_33 hw hl
      refine lv_iload hx hb (dk1 dF_21 DX8_valueAt (i := 23) rfl rfl rfl) (lv_at hl 0 rfl) ?_
      refine lv_iload_n hx hb (dkP dF_29 DX8_valueAt (i := 24) rfl rfl) rfl (lv_at hl 3 rfl) ?_
      refine lv_icmp_ge (tgt := 75) hx hb (dkS dF_162 DX8_valueAt (i := 25) rfl rfl rfl) (by decide) (fun c5 => ?_) (fun c5 => ?_)
      · simp (disch := omega) only [ta_lt, ta_le, ta_eq, tnI] at c5
        refine lv_iload hx hb (dk1 dF_21 DX8_valueAt (i := 49) rfl rfl rfl) (lv_at hl 1 rfl) ?_
        exact z_iret C0 hr hlk hw rfl (dkP dF_172 DX8_valueAt (i := 50) rfl rfl)
      · simp (disch := omega) only [ta_lt, ta_le, ta_eq, tnI] at c5
        refine lv_iload hx hb (dk1 dF_21 DX8_valueAt (i := 26) rfl rfl rfl) (lv_at hl 1 rfl) ?_
        refine lv_aload_n hx hb (dkP dF_42 DX8_valueAt (i := 27) rfl rfl) rfl (lv_at hl 4 rfl) ?_
        refine z_gr C0 hw su 0 (su + 1) (fk_of (shl_sn_0 su hsu) rfl) fl_X8_9 (dk2 dF_180 DX8_valueAt (i := 28) rfl rfl rfl) ?_
        refine lv_iload_n hx hb (dkP dF_27 DX8_valueAt (i := 29) rfl rfl) rfl (lv_at hl 5 rfl) ?_
        refine lv_iconst (v := 2) hx hb (dkP dF_5 DX8_valueAt (i := 30) rfl rfl) (by decide) ?_
        refine lv_iadd hx hb (dkP dF_96 DX8_valueAt (i := 31) rfl rfl) ?_
        refine z_top (y := nI (ap + 2)) (by simp only [fa_lit, nI_add, pk_mul]) ?_
        refine lv_iload hx hb (dk1 dF_21 DX8_valueAt (i := 32) rfl rfl rfl) (lv_at hl 0 rfl) ?_
        refine lv_iadd hx hb (dkP dF_96 DX8_valueAt (i := 33) rfl rfl) ?_
        refine z_top (y := nI ((ap + 2) + q6_33)) (by simp only [fa_lit, nI_add, pk_mul]) ?_
        refine z_ialdN (n := 1920) C0 hw (su + 1) ((ap + 2) + q6_33) (ak_of (shl_sn_1 su hsu)) (by omega) (by decide) (dkP dF_46 DX8_valueAt (i := 34) rfl rfl) ?_
        obtain ⟨v6, ev6⟩ : ∃ y : Int32, σ.1 (su + 1) ((ap + 2) + q6_33) = y := ⟨_, rfl⟩
        refine z_top (y := v6) ev6 ?_
        refine lv_aload_n hx hb (dkP dF_44 DX8_valueAt (i := 35) rfl rfl) rfl (lv_at hl 6 rfl) ?_
        refine lv_iload hx hb (dk1 dF_21 DX8_valueAt (i := 36) rfl rfl rfl) (lv_at hl 2 rfl) ?_
        refine lv_bipush (v := 7) hx hb (dks dF_16 DX8_valueAt (i := 37) rfl rfl rfl) (by decide) ?_
        refine lv_iand hx hb (dkP dF_126 DX8_valueAt (i := 38) rfl rfl) ?_
        refine z_iald C0 hw (mc + 1) (ak_of (shl_mc_1 mc hmc)) (pk_andIn _ 3 (by decide) (by decide)) (dkP dF_46 DX8_valueAt (i := 39) rfl rfl) ?_
        refine lv_imul hx hb (dkP dF_104 DX8_valueAt (i := 40) rfl rfl) ?_
        refine lv_iadd hx hb (dkP dF_96 DX8_valueAt (i := 41) rfl rfl) ?_
        refine lv_topi (fun v7 ev7 => ?_)
        refine lv_istore (lv' := [(5, .int v7), (6, .int (nI q6_33)), (4, .int q4_33), (3, .int (nI j)), (0, .ref (ad su)), (1, .int (nI ap)), (2, .ref (ad (mc + 1)))]) hx hb (dk1 dF_54 DX8_valueAt (i := 42) rfl rfl rfl) hl (by decide) rfl (fun ls hl => ?_)
        refine lv_iload hx hb (dk1 dF_21 DX8_valueAt (i := 43) rfl rfl rfl) (lv_at hl 2 rfl) ?_
        refine lv_iconst (v := 3) hx hb (dkP dF_6 DX8_valueAt (i := 44) rfl rfl) (by decide) ?_
        refine lv_ishr hx hb (dkP dF_122 DX8_valueAt (i := 45) rfl rfl) ?_
        refine lv_topi (fun v8 ev8 => ?_)
        refine lv_istore (lv' := [(4, .int v8), (5, .int v7), (6, .int (nI q6_33)), (3, .int (nI j)), (0, .ref (ad su)), (1, .int (nI ap)), (2, .ref (ad (mc + 1)))]) hx hb (dk1 dF_54 DX8_valueAt (i := 46) rfl rfl rfl) hl (by decide) rfl (fun ls hl => ?_)
        refine lv_iinc (v := nI (q6_33 + 1)) (lv' := [(6, .int (nI (q6_33 + 1))), (4, .int v8), (5, .int v7), (3, .int (nI j)), (0, .ref (ad su)), (1, .int (nI ap)), (2, .ref (ad (mc + 1)))]) hx hb (dkI DX8_valueAt (i := 47) rfl rfl rfl rfl) hl (k := 2) rfl (nI_1 _) (by decide) rfl (fun ls hl => ?_)
        refine lv_goto (tgt := 33) hx hb (dkS dF_167 DX8_valueAt (i := 48) rfl rfl rfl) (by decide) ?_
        exact ih4 (q6_33 + 1) v7 v8 _ _ _ (by omega) (by (try simp only [lg_cmp_lt, lg_cmp_le, lg_cmp_gt, lg_cmp_ge, lg_cmp_eq] at c5); (try simp (disch := omega) only [ta_lt, ta_le, ta_eq, tb_lt, tb_le, tb_eq, tw, tnI, tsub1, tsv, tsb32, tn32 1 (by decide), tnj 1 (by decide), tl32 0 (by decide), tl64 0 (by decide), tl32 1 (by decide), tl64 1 (by decide), tl32 2 (by decide), tl64 2 (by decide), tl32 3 (by decide), tl64 3 (by decide), tl32 4 (by decide), tl64 4 (by decide), tl32 7 (by decide), tl64 7 (by decide), tl32 15 (by decide), tl64 15 (by decide)] at c5); (try simp (disch := omega) only [ta_lt, ta_le, ta_eq, tb_lt, tb_le, tb_eq, tw, tnI, tsub1, tsv, tsb32, tn32 1 (by decide), tnj 1 (by decide), tl32 0 (by decide), tl64 0 (by decide), tl32 1 (by decide), tl64 1 (by decide), tl32 2 (by decide), tl64 2 (by decide), tl32 3 (by decide), tl64 3 (by decide), tl32 4 (by decide), tl64 4 (by decide), tl32 7 (by decide), tl64 7 (by decide), tl32 15 (by decide), tl64 15 (by decide)]); omega) hw (lv_sub hl [0, 2, 1, 3, 4, 5, 6] rfl)
  exact lp4 _ 0 v3 v2 _ _ _ (Nat.lt_succ_self _) (by (try simp (disch := omega) only [ta_lt, ta_le, ta_eq, tb_lt, tb_le, tb_eq, tw, tnI, tsub1, tsv, tsb32, tn32 1 (by decide), tnj 1 (by decide), tl32 0 (by decide), tl64 0 (by decide), tl32 1 (by decide), tl64 1 (by decide), tl32 2 (by decide), tl64 2 (by decide), tl32 3 (by decide), tl64 3 (by decide), tl32 4 (by decide), tl64 4 (by decide), tl32 7 (by decide), tl64 7 (by decide), tl32 15 (by decide), tl64 15 (by decide)]); omega) hw (lv_sub hl [0, 1, 2, 3, 4, 5, 6] rfl)
set_option maxRecDepth 100000 in
set_option maxHeartbeats 8000000 in
theorem c_X8_timesOf_n (l : Launch) (G : va_G) (kc : KC) (ad : Nat → Nat) (σ : Sg) (su : Nat) (ap : Nat) (letter : Int32) {j : Nat} (hsu : su ∈ snL) (hj : σ.1 (su + 1) ap &&& 15 = nI j) (hab : ap + 2 + j ≤ 1920) (hT : TC σ) : MI l G kc yX8_timesOf cX8_timesOf 6 (some .int) 0 0 [.ref (ad su), .int (nI ap), .int letter] shC ad σ (fun r σ1 => σ1 = σ) := by
  intro sz
  refine z_body (y := yX8_timesOf) (n := 6) (av := [.ref (ad su), .int (nI ap), .int letter]) (Qc := fun A => va_Qi (fun r σ1 => σ1 = σ) (PoC G kc shC ad A) A) (plainFor_of_name (by decide)) (Nat.le_of_ble_eq_true rfl) (fun pr e s m below meth c A C0 hr hlk hnm hw hRo ls hl => ?_) sz
  have hx := C0.1
  have hb := C0.2.1
  have hown := C0.2.2.2.1
  have hts := C0.2.2.2.2.1
  have hl : lv_has ls 6 [(0, .ref (ad su)), (1, .int (nI ap)), (2, .int letter)] := hl
  refine lv_aload_n hx hb (dkP dF_42 DX8_timesOf (i := 0) rfl rfl) rfl (lv_at hl 0 rfl) ?_
  refine z_gr C0 hw su 0 (su + 1) (fk_of (shl_sn_0 su hsu) rfl) fl_X8_9 (dk2 dF_180 DX8_timesOf (i := 1) rfl rfl rfl) ?_
  refine lv_iload_n hx hb (dkP dF_27 DX8_timesOf (i := 2) rfl rfl) rfl (lv_at hl 1 rfl) ?_
  refine z_ialdN (n := 1920) C0 hw (su + 1) ap (ak_of (shl_sn_1 su hsu)) (by omega) (by decide) (dkP dF_46 DX8_timesOf (i := 3) rfl rfl) ?_
  obtain ⟨v1, ev1⟩ : ∃ y : Int32, σ.1 (su + 1) ap = y := ⟨_, rfl⟩
  refine z_top (y := v1) ev1 ?_
  refine lv_bipush (v := 15) hx hb (dks dF_16 DX8_timesOf (i := 4) rfl rfl rfl) (by decide) ?_
  refine lv_iand hx hb (dkP dF_126 DX8_timesOf (i := 5) rfl rfl) ?_
  refine z_top (y := nI j) (by rw [← ev1]; exact hj) ?_
  refine lv_istore_n (lv' := [(3, .int (nI j)), (0, .ref (ad su)), (1, .int (nI ap)), (2, .int letter)]) hx hb (dkP dF_62 DX8_timesOf (i := 6) rfl rfl) rfl hl (by decide) rfl (fun ls hl => ?_)
  refine lv_aload_n hx hb (dkP dF_42 DX8_timesOf (i := 7) rfl rfl) rfl (lv_at hl 1 rfl) ?_
  refine z_gr C0 hw su 0 (su + 1) (fk_of (shl_sn_0 su hsu) rfl) fl_X8_9 (dk2 dF_180 DX8_timesOf (i := 8) rfl rfl rfl) ?_
  refine lv_iload_n hx hb (dkP dF_27 DX8_timesOf (i := 9) rfl rfl) rfl (lv_at hl 2 rfl) ?_
  refine z_ialdN (n := 1920) C0 hw (su + 1) ap (ak_of (shl_sn_1 su hsu)) (by omega) (by decide) (dkP dF_46 DX8_timesOf (i := 10) rfl rfl) ?_
  refine z_top (y := v1) ev1 ?_
  refine lv_iconst (v := 4) hx hb (dkP dF_7 DX8_timesOf (i := 11) rfl rfl) (by decide) ?_
  refine lv_ishr hx hb (dkP dF_122 DX8_timesOf (i := 12) rfl rfl) ?_
  refine lv_topi (fun v2 ev2 => ?_)
  refine lv_istore (lv' := [(4, .int v2), (3, .int (nI j)), (0, .ref (ad su)), (1, .int (nI ap)), (2, .int letter)]) hx hb (dk1 dF_54 DX8_timesOf (i := 13) rfl rfl rfl) hl (by decide) rfl (fun ls hl => ?_)
  refine lv_iconst (v := 0) hx hb (dkP dF_3 DX8_timesOf (i := 14) rfl rfl) (by decide) ?_
  refine lv_istore (lv' := [(5, .int 0), (4, .int v2), (3, .int (nI j)), (0, .ref (ad su)), (1, .int (nI ap)), (2, .int letter)]) hx hb (dk1 dF_54 DX8_timesOf (i := 15) rfl rfl rfl) hl (by decide) rfl (fun ls hl => ?_)
  have lp3 : ∀ (nq : Nat) (q5_23 : Nat) (q4_23 : Int32) (H : Heap) (locs : List Loc) (ls : Array Slot), 2147483647 - q5_23 < nq → (q5_23 ≤ 2147483647) → St G kc A s.heap shC ad σ H locs → lv_has ls 6 [(5, .int (nI q5_23)), (4, .int q4_23), (3, .int (nI j)), (0, .ref (ad su)), (1, .int (nI ap)), (2, .int letter)] → W pr l e { frames := 0, cells := 0, slots := 0, locals := 0 } s m ([.ref (ad su), .int (nI ap), .int letter] : List Value).toArray below meth c H locs 0 0 (MQ below (va_Qi (fun r σ1 => σ1 = σ) (PoC G kc shC ad A) A) ([.ref (ad su), .int (nI ap), .int letter] : List Value).toArray s 0 0 A) (F0 m 23 ls []) := by
    intro nq
    induction nq with
    | zero => intro q5_23 q4_23 H locs ls hmu; exact absurd hmu (Nat.not_lt_zero _)
    | succ nq ih3 =>
      intro q5_23 q4_23 H locs ls hmu hq5_23 hw hl
      refine lv_iload hx hb (dk1 dF_21 DX8_timesOf (i := 16) rfl rfl rfl) (lv_at hl 0 rfl) ?_
      refine lv_iload_n hx hb (dkP dF_29 DX8_timesOf (i := 17) rfl rfl) rfl (lv_at hl 2 rfl) ?_
      refine lv_icmp_ge (tgt := 62) hx hb (dkS dF_162 DX8_timesOf (i := 18) rfl rfl rfl) (by decide) (fun c4 => ?_) (fun c4 => ?_)
      · simp (disch := omega) only [ta_lt, ta_le, ta_eq, tnI] at c4
        refine lv_iconst (v := 0) hx hb (dkP dF_3 DX8_timesOf (i := 39) rfl rfl) (by decide) ?_
        exact z_iret C0 hr hlk hw rfl (dkP dF_172 DX8_timesOf (i := 40) rfl rfl)
      · simp (disch := omega) only [ta_lt, ta_le, ta_eq, tnI] at c4
        refine lv_iload hx hb (dk1 dF_21 DX8_timesOf (i := 19) rfl rfl rfl) (lv_at hl 1 rfl) ?_
        refine lv_bipush (v := 7) hx hb (dks dF_16 DX8_timesOf (i := 20) rfl rfl rfl) (by decide) ?_
        refine lv_iand hx hb (dkP dF_126 DX8_timesOf (i := 21) rfl rfl) ?_
        refine lv_iload_n hx hb (dkP dF_28 DX8_timesOf (i := 22) rfl rfl) rfl (lv_at hl 5 rfl) ?_
        refine lv_icmp_ne (tgt := 50) hx hb (dkS dF_160 DX8_timesOf (i := 23) rfl rfl rfl) (by decide) (fun c5 => ?_) (fun c5 => ?_)
        · (try simp (disch := omega) only [ta_lt, ta_le, ta_eq, tnI] at c5)
          refine lv_iload hx hb (dk1 dF_21 DX8_timesOf (i := 33) rfl rfl rfl) (lv_at hl 1 rfl) ?_
          refine lv_iconst (v := 3) hx hb (dkP dF_6 DX8_timesOf (i := 34) rfl rfl) (by decide) ?_
          refine lv_ishr hx hb (dkP dF_122 DX8_timesOf (i := 35) rfl rfl) ?_
          refine lv_topi (fun v6 ev6 => ?_)
          refine lv_istore (lv' := [(4, .int v6), (5, .int (nI q5_23)), (3, .int (nI j)), (0, .ref (ad su)), (1, .int (nI ap)), (2, .int letter)]) hx hb (dk1 dF_54 DX8_timesOf (i := 36) rfl rfl rfl) hl (by decide) rfl (fun ls hl => ?_)
          refine lv_iinc (v := nI (q5_23 + 1)) (lv' := [(5, .int (nI (q5_23 + 1))), (4, .int v6), (3, .int (nI j)), (0, .ref (ad su)), (1, .int (nI ap)), (2, .int letter)]) hx hb (dkI DX8_timesOf (i := 37) rfl rfl rfl rfl) hl (k := 1) rfl (nI_1 _) (by decide) rfl (fun ls hl => ?_)
          refine lv_goto (tgt := 23) hx hb (dkS dF_167 DX8_timesOf (i := 38) rfl rfl rfl) (by decide) ?_
          exact ih3 (q5_23 + 1) v6 _ _ _ (by omega) (by (try simp only [lg_cmp_lt, lg_cmp_le, lg_cmp_gt, lg_cmp_ge, lg_cmp_eq] at c4); (try simp (disch := omega) only [ta_lt, ta_le, ta_eq, tb_lt, tb_le, tb_eq, tw, tnI, tsub1, tsv, tsb32, tn32 1 (by decide), tnj 1 (by decide), tl32 0 (by decide), tl64 0 (by decide), tl32 3 (by decide), tl64 3 (by decide), tl32 4 (by decide), tl64 4 (by decide), tl32 7 (by decide), tl64 7 (by decide), tl32 15 (by decide), tl64 15 (by decide)] at c4); (try simp only [lg_cmp_lt, lg_cmp_le, lg_cmp_gt, lg_cmp_ge, lg_cmp_eq] at c5); (try simp (disch := omega) only [ta_lt, ta_le, ta_eq, tb_lt, tb_le, tb_eq, tw, tnI, tsub1, tsv, tsb32, tn32 1 (by decide), tnj 1 (by decide), tl32 0 (by decide), tl64 0 (by decide), tl32 3 (by decide), tl64 3 (by decide), tl32 4 (by decide), tl64 4 (by decide), tl32 7 (by decide), tl64 7 (by decide), tl32 15 (by decide), tl64 15 (by decide)] at c5); (try simp (disch := omega) only [ta_lt, ta_le, ta_eq, tb_lt, tb_le, tb_eq, tw, tnI, tsub1, tsv, tsb32, tn32 1 (by decide), tnj 1 (by decide), tl32 0 (by decide), tl64 0 (by decide), tl32 3 (by decide), tl64 3 (by decide), tl32 4 (by decide), tl64 4 (by decide), tl32 7 (by decide), tl64 7 (by decide), tl32 15 (by decide), tl64 15 (by decide)]); omega) hw (lv_sub hl [0, 1, 2, 3, 4, 5] rfl)
        · (try simp (disch := omega) only [ta_lt, ta_le, ta_eq, tnI] at c5)
          refine lv_aload_n hx hb (dkP dF_42 DX8_timesOf (i := 24) rfl rfl) rfl (lv_at hl 3 rfl) ?_
          refine z_gr C0 hw su 0 (su + 1) (fk_of (shl_sn_0 su hsu) rfl) fl_X8_9 (dk2 dF_180 DX8_timesOf (i := 25) rfl rfl rfl) ?_
          refine lv_iload_n hx hb (dkP dF_27 DX8_timesOf (i := 26) rfl rfl) rfl (lv_at hl 4 rfl) ?_
          refine lv_iconst (v := 2) hx hb (dkP dF_5 DX8_timesOf (i := 27) rfl rfl) (by decide) ?_
          refine lv_iadd hx hb (dkP dF_96 DX8_timesOf (i := 28) rfl rfl) ?_
          refine z_top (y := nI (ap + 2)) (by simp only [fa_lit, nI_add, pk_mul]) ?_
          refine lv_iload hx hb (dk1 dF_21 DX8_timesOf (i := 29) rfl rfl rfl) (lv_at hl 0 rfl) ?_
          refine lv_iadd hx hb (dkP dF_96 DX8_timesOf (i := 30) rfl rfl) ?_
          refine z_top (y := nI ((ap + 2) + q5_23)) (by simp only [fa_lit, nI_add, pk_mul]) ?_
          refine z_ialdN (n := 1920) C0 hw (su + 1) ((ap + 2) + q5_23) (ak_of (shl_sn_1 su hsu)) (by omega) (by decide) (dkP dF_46 DX8_timesOf (i := 31) rfl rfl) ?_
          obtain ⟨v7, ev7⟩ : ∃ y : Int32, σ.1 (su + 1) ((ap + 2) + q5_23) = y := ⟨_, rfl⟩
          refine z_top (y := v7) ev7 ?_
          exact z_iret C0 hr hlk hw rfl (dkP dF_172 DX8_timesOf (i := 32) rfl rfl)
  exact lp3 _ 0 v2 _ _ _ (Nat.lt_succ_self _) (by (try simp (disch := omega) only [ta_lt, ta_le, ta_eq, tb_lt, tb_le, tb_eq, tw, tnI, tsub1, tsv, tsb32, tn32 1 (by decide), tnj 1 (by decide), tl32 0 (by decide), tl64 0 (by decide), tl32 2 (by decide), tl64 2 (by decide), tl32 3 (by decide), tl64 3 (by decide), tl32 4 (by decide), tl64 4 (by decide), tl32 7 (by decide), tl64 7 (by decide), tl32 15 (by decide), tl64 15 (by decide)]); omega) hw (lv_sub hl [0, 1, 2, 3, 4, 5] rfl)
set_option maxRecDepth 100000 in
set_option maxHeartbeats 8000000 in
theorem c_X8_addAlone_n (l : Launch) (G : va_G) (kc : KC) (ad : Nat → Nat) (σ : Sg) (su : Nat) (ap : Nat) (more : Int32) (hsu : su ∈ snL) (hab : ap + 1 < 1920) (hT : TC σ) : MV l G kc yX8_addAlone cX8_addAlone 3 0 0 [.ref (ad su), .int (nI ap), .int more] shC ad σ (fun σ1 => (∀ x, x ≠ ap + 1 → σ1.1 (su + 1) x = σ.1 (su + 1) x) ∧ TC σ1 ∧ frC (fun x y => (x = su + 1)) σ σ1) := by
  intro sz
  refine z_body (y := yX8_addAlone) (n := 3) (av := [.ref (ad su), .int (nI ap), .int more]) (Qc := fun A => va_Qv (fun σ1 => (∀ x, x ≠ ap + 1 → σ1.1 (su + 1) x = σ.1 (su + 1) x) ∧ TC σ1 ∧ frC (fun x y => (x = su + 1)) σ σ1) (PoC G kc shC ad A) A) (plainFor_of_name (by decide)) (Nat.le_of_ble_eq_true rfl) (fun pr e s m below meth c A C0 hr hlk hnm hw hRo ls hl => ?_) sz
  have hx := C0.1
  have hb := C0.2.1
  have hown := C0.2.2.2.1
  have hts := C0.2.2.2.2.1
  have hl : lv_has ls 3 [(0, .ref (ad su)), (1, .int (nI ap)), (2, .int more)] := hl
  refine lv_aload_n hx hb (dkP dF_42 DX8_addAlone (i := 0) rfl rfl) rfl (lv_at hl 0 rfl) ?_
  refine z_gr C0 hw su 0 (su + 1) (fk_of (shl_sn_0 su hsu) rfl) fl_X8_9 (dk2 dF_180 DX8_addAlone (i := 1) rfl rfl rfl) ?_
  refine lv_iload_n hx hb (dkP dF_27 DX8_addAlone (i := 2) rfl rfl) rfl (lv_at hl 1 rfl) ?_
  refine lv_iconst (v := 1) hx hb (dkP dF_4 DX8_addAlone (i := 3) rfl rfl) (by decide) ?_
  refine lv_iadd hx hb (dkP dF_96 DX8_addAlone (i := 4) rfl rfl) ?_
  refine z_top (y := nI (ap + 1)) (by simp only [fa_lit, nI_add, pk_mul]) ?_
  refine lv_dup2_11 hx hb (dkP dF_92 DX8_addAlone (i := 5) rfl rfl) rfl rfl ?_
  refine z_ialdN (n := 1920) C0 hw (su + 1) (ap + 1) (ak_of (shl_sn_1 su hsu)) (by omega) (by decide) (dkP dF_46 DX8_addAlone (i := 6) rfl rfl) ?_
  obtain ⟨v1, ev1⟩ : ∃ y : Int32, σ.1 (su + 1) (ap + 1) = y := ⟨_, rfl⟩
  refine z_top (y := v1) ev1 ?_
  refine lv_iload_n hx hb (dkP dF_28 DX8_addAlone (i := 7) rfl rfl) rfl (lv_at hl 2 rfl) ?_
  refine lv_iadd hx hb (dkP dF_96 DX8_addAlone (i := 8) rfl rfl) ?_
  refine z_iastN (n := 1920) C0 hw (su + 1) (ap + 1) (ak_of (shl_sn_1 su hsu)) (by omega) (by decide) (dkP dF_79 DX8_addAlone (i := 9) rfl rfl) (fun H locs hw => ?_)
  have hT2 : TC (sI σ (su + 1) (ap + 1) (v1 + more)) := TC.w hT (tc0 (tck_sn_1 su hsu))
  have hF2 : frC (fun x y => (x = su + 1)) σ (sI σ (su + 1) (ap + 1) (v1 + more)) := frC.w frC.refl (by show ((su + 1) = su + 1); exact rfl)
  exact z_vret C0 hr hlk hw (⟨(fun x hx1 => rd_n (by omega)), hT2, hF2⟩) (dkP dF_177 DX8_addAlone (i := 10) rfl rfl)
set_option maxRecDepth 100000 in
set_option maxHeartbeats 8000000 in
theorem c_X8_addCell_n (l : Launch) (G : va_G) (kc : KC) (ad : Nat → Nat) (σ : Sg) (su : Nat) (cv : Int32) {u : Nat} (hsu : su ∈ snL) (hu : σ.1 su 1 = nI u) (huc : u < 1920) (hT : TC σ) : MV l G kc yX8_addCell cX8_addCell 2 0 0 [.ref (ad su), .int cv] shC ad σ (fun σ1 => (σ1.1 su 1 = nI (u + 1)) ∧ (σ1.1 (su + 1) u = cv) ∧ (∀ x, x ≠ u → σ1.1 (su + 1) x = σ.1 (su + 1) x) ∧ TC σ1 ∧ frC (fun x y => (x = su + 1) ∨ (x = su ∧ y = 1)) σ σ1) := by
  intro sz
  refine z_body (y := yX8_addCell) (n := 2) (av := [.ref (ad su), .int cv]) (Qc := fun A => va_Qv (fun σ1 => (σ1.1 su 1 = nI (u + 1)) ∧ (σ1.1 (su + 1) u = cv) ∧ (∀ x, x ≠ u → σ1.1 (su + 1) x = σ.1 (su + 1) x) ∧ TC σ1 ∧ frC (fun x y => (x = su + 1) ∨ (x = su ∧ y = 1)) σ σ1) (PoC G kc shC ad A) A) (plainFor_of_name (by decide)) (Nat.le_of_ble_eq_true rfl) (fun pr e s m below meth c A C0 hr hlk hnm hw hRo ls hl => ?_) sz
  have hx := C0.1
  have hb := C0.2.1
  have hown := C0.2.2.2.1
  have hts := C0.2.2.2.2.1
  have hl : lv_has ls 2 [(0, .ref (ad su)), (1, .int cv)] := hl
  refine lv_aload_n hx hb (dkP dF_42 DX8_addCell (i := 0) rfl rfl) rfl (lv_at hl 0 rfl) ?_
  refine z_gi C0 hw su 1 (fk_of (shl_sn_0 su hsu) rfl) fl_X8_15 (dk2 dF_180 DX8_addCell (i := 1) rfl rfl rfl) ?_
  refine z_top (y := (nI u)) hu ?_
  refine lv_aload_n hx hb (dkP dF_42 DX8_addCell (i := 2) rfl rfl) rfl (lv_at hl 0 rfl) ?_
  refine z_gr C0 hw su 0 (su + 1) (fk_of (shl_sn_0 su hsu) rfl) fl_X8_9 (dk2 dF_180 DX8_addCell (i := 3) rfl rfl rfl) ?_
  refine z_alen (t := 0) (n := 1920) C0 hw (su + 1) (ak_of (shl_sn_1 su hsu)) (by decide) (dkP dF_190 DX8_addCell (i := 4) rfl rfl) ?_
  refine z_top (y := 1920) rfl ?_
  refine lv_icmp_ge (tgt := 32) hx hb (dkS dF_162 DX8_addCell (i := 5) rfl rfl rfl) (by decide) (fun c1 => absurd c1 (by simp (disch := omega) only [ta_lt, ta_le, ta_eq, tnI, tl32 1920 (by decide)]; omega)) (fun c1 => ?_)
  refine lv_aload_n hx hb (dkP dF_42 DX8_addCell (i := 6) rfl rfl) rfl (lv_at hl 0 rfl) ?_
  refine z_gr C0 hw su 0 (su + 1) (fk_of (shl_sn_0 su hsu) rfl) fl_X8_9 (dk2 dF_180 DX8_addCell (i := 7) rfl rfl rfl) ?_
  refine lv_aload_n hx hb (dkP dF_42 DX8_addCell (i := 8) rfl rfl) rfl (lv_at hl 0 rfl) ?_
  refine z_gi C0 hw su 1 (fk_of (shl_sn_0 su hsu) rfl) fl_X8_15 (dk2 dF_180 DX8_addCell (i := 9) rfl rfl rfl) ?_
  refine z_top (y := (nI u)) hu ?_
  refine lv_iload_n hx hb (dkP dF_27 DX8_addCell (i := 10) rfl rfl) rfl (lv_at hl 1 rfl) ?_
  refine z_iastN (n := 1920) C0 hw (su + 1) u (ak_of (shl_sn_1 su hsu)) (by omega) (by decide) (dkP dF_79 DX8_addCell (i := 11) rfl rfl) (fun H locs hw => ?_)
  have hT2 : TC (sI σ (su + 1) u cv) := TC.w hT (tc0 (tck_sn_1 su hsu))
  have hF2 : frC (fun x y => (x = su + 1) ∨ (x = su ∧ y = 1)) σ (sI σ (su + 1) u cv) := frC.w frC.refl (by show ((su + 1) = su + 1) ∨ ((su + 1) = su ∧ u = 1); exact Or.inl rfl)
  refine lv_aload_n hx hb (dkP dF_42 DX8_addCell (i := 12) rfl rfl) rfl (lv_at hl 0 rfl) ?_
  refine lv_dup hx hb (dkP dF_89 DX8_addCell (i := 13) rfl rfl) rfl ?_
  refine z_gi C0 hw su 1 (fk_of (shl_sn_0 su hsu) rfl) fl_X8_15 (dk2 dF_180 DX8_addCell (i := 14) rfl rfl rfl) ?_
  refine z_top (y := (nI u)) ((rd_n (by omega)).trans hu) ?_
  refine lv_iconst (v := 1) hx hb (dkP dF_4 DX8_addCell (i := 15) rfl rfl) (by decide) ?_
  refine lv_iadd hx hb (dkP dF_96 DX8_addCell (i := 16) rfl rfl) ?_
  refine z_top (y := nI (u + 1)) (by simp only [fa_lit, nI_add, pk_mul]) ?_
  refine z_pi C0 hw su 1 (fk_of (shl_sn_0 su hsu) rfl) fp_X8_15 (dk2 dF_181 DX8_addCell (i := 17) rfl rfl rfl) (fun H locs hw => ?_)
  have hT3 : TC (sI (sI σ (su + 1) u cv) su 1 (nI (u + 1))) := TC.w hT2 (tcw_4_1 (tck_sn_0 su hsu) (by (try simp only [lg_cmp_lt, lg_cmp_le, lg_cmp_gt, lg_cmp_ge, lg_cmp_eq] at c1); (try simp (disch := omega) only [ta_lt, ta_le, ta_eq, tb_lt, tb_le, tb_eq, tw, tnI, tsub1, tsv, tsb32, tn32 1 (by decide), tnj 1 (by decide), tl32 0 (by decide), tl64 0 (by decide), tl32 1 (by decide), tl64 1 (by decide)] at c1); (try simp (disch := omega) only [ta_lt, ta_le, ta_eq, tb_lt, tb_le, tb_eq, tw, tnI, tsub1, tsv, tsb32, tn32 1 (by decide), tnj 1 (by decide), tl32 0 (by decide), tl64 0 (by decide), tl32 1 (by decide), tl64 1 (by decide)]); omega))
  have hF3 : frC (fun x y => (x = su + 1) ∨ (x = su ∧ y = 1)) σ (sI (sI σ (su + 1) u cv) su 1 (nI (u + 1))) := frC.w hF2 (by show (su = su + 1) ∨ (su = su ∧ 1 = 1); exact Or.inr (⟨rfl, rfl⟩))
  exact z_vret C0 hr hlk hw (⟨rd_s, ((rd_n (by omega)).trans rd_s), (fun x hx1 => (rd_n (by omega)).trans (rd_n (by omega))), hT3, hF3⟩) (dkP dF_177 DX8_addCell (i := 18) rfl rfl)
