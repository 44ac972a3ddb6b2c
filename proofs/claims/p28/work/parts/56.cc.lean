theorem pgN : ∀ d, d ∈ pgL → 8 ≤ d ∧ (d + 22 ≤ 184 ∨ 257 ≤ d) := by decide +kernel
theorem mcN : ∀ d, d ∈ mcL → d = 210 ∨ d = 215 := by decide +kernel
theorem wtN : ∀ d, d ∈ wtL → d = 228 ∨ d = 239 := by decide +kernel
def LH (σ : Sg) (pg : Nat) : Prop := ∀ i, i < 3 → (σ.1 (pg + 20) i).toInt ≤ (σ.1 (pg + 21) i).toInt
theorem LH.set {τ ρ : Sg} {pg i : Nat} {a b : Int32} (h : LH τ pg) (h1 : ∀ k, k ≠ i → ρ.1 (pg + 20) k = τ.1 (pg + 20) k) (h2 : ∀ k, k ≠ i → ρ.1 (pg + 21) k = τ.1 (pg + 21) k) (h3 : ρ.1 (pg + 20) i = a) (h4 : ρ.1 (pg + 21) i = b) (hab : a.toInt ≤ b.toInt) : LH ρ pg := by
  intro k hk
  by_cases e : k = i
  · rw [e, h3, h4]; exact hab
  · rw [h1 k e, h2 k e]; exact h k hk
theorem wd_ne {w h l : Int32} (e : w = h - l + 1) (hle : l.toInt ≤ h.toInt) (h1 : -99 ≤ l.toInt ∧ l.toInt ≤ 99) (h2 : -99 ≤ h.toInt ∧ h.toInt ≤ 99) : ¬ w = 0 := by
  intro z
  have h3 : (h - l).toInt = h.toInt - l.toInt := tsb32 (by omega) (by omega)
  have h4 : (h - l + 1).toInt = (h - l).toInt + 1 := by rw [tadd32 (by rw [tl32 1 (by decide)]; omega) (by rw [tl32 1 (by decide)]; omega), tl32 1 (by decide)]; rfl
  rw [← e, z, tl32 0 (by decide)] at h4
  omega
theorem i32_sub1 (x : Int32) : x - 1 = x + (-1) := by
  apply Int32.toInt_inj.1
  rw [Int32.toInt_sub, Int32.toInt_add, tl32 1 (by decide), tn32 1 (by decide)]
  rfl
theorem nI_dec {j : Nat} (h : 1 ≤ j) : nI j + (-1) = nI (j - 1) := by
  obtain ⟨i, rfl⟩ : ∃ i, j = i + 1 := ⟨j - 1, by omega⟩
  rw [← nI_1, Int32.add_assoc, show (1 : Int32) + -1 = 0 from by decide, Int32.add_zero]
  rfl
theorem tck_mc_1 : ∀ d, d ∈ mcL → tcL.getD (d + 1) 0 = 0 := by decide +kernel
set_option maxRecDepth 100000 in
set_option maxHeartbeats 8000000 in
theorem c_J7_fill_53178_f (l : Launch) (G : va_G) (kc : KC) (ad : Nat → Nat) (σ : Sg) (mc : Nat) (fv : Int32) (hmc : mc ∈ mcL) (hT : TC σ) : MV l G kc yJ7_fill_53178 cJ7_fill_53178 4 0 0 [.ref (ad (mc + 1)), .int fv] shC ad σ (fun σ1 => (∀ x, x < 8 → σ1.1 (mc + 1) x = fv) ∧ TC σ1 ∧ frC (fun x y => (x = mc + 1)) σ σ1) := by
  intro sz
  refine z_body (y := yJ7_fill_53178) (n := 4) (av := [.ref (ad (mc + 1)), .int fv]) (Qc := fun A => va_Qv (fun σ1 => (∀ x, x < 8 → σ1.1 (mc + 1) x = fv) ∧ TC σ1 ∧ frC (fun x y => (x = mc + 1)) σ σ1) (PoC G kc shC ad A) A) (by decide +kernel) (Nat.le_of_ble_eq_true rfl) (fun pr e s m below meth c A C0 hr hlk hnm hw hRo ls hl => ?_) sz
  have hx := C0.1
  have hb := C0.2.1
  have hown := C0.2.2.2.1
  have hts := C0.2.2.2.2.1
  have hl : lv_has ls 4 [(0, .ref (ad (mc + 1))), (1, .int fv)] := hl
  refine lv_iconst (v := 0) hx hb (dkP dF_3 DJ7_fill_53178 (i := 0) rfl rfl) (by decide) ?_
  refine lv_istore_n (lv' := [(2, .int 0), (0, .ref (ad (mc + 1))), (1, .int fv)]) hx hb (dkP dF_61 DJ7_fill_53178 (i := 1) rfl rfl) rfl hl (by decide) rfl (fun ls hl => ?_)
  refine lv_aload_n hx hb (dkP dF_42 DJ7_fill_53178 (i := 2) rfl rfl) rfl (lv_at hl 1 rfl) ?_
  refine z_alen (t := 0) (n := 8) C0 hw (mc + 1) (ak_of (shl_mc_1 mc hmc)) (by decide) (dkP dF_190 DJ7_fill_53178 (i := 3) rfl rfl) ?_
  refine z_top (y := 8) rfl ?_
  refine lv_istore_n (lv' := [(3, .int 8), (2, .int 0), (0, .ref (ad (mc + 1))), (1, .int fv)]) hx hb (dkP dF_62 DJ7_fill_53178 (i := 4) rfl rfl) rfl hl (by decide) rfl (fun ls hl => ?_)
  have lp2 : ∀ (nq : Nat) (q2_5 : Nat) (τ1 : Sg) (H : Heap) (locs : List Loc) (ls : Array Slot), 8 - q2_5 < nq → (q2_5 ≤ 8) → (∀ x, x < q2_5 → τ1.1 (mc + 1) x = fv) → (TC τ1) → (frC (fun x y => (x = mc + 1)) σ τ1) → St G kc A s.heap shC ad τ1 H locs → lv_has ls 4 [(3, .int 8), (2, .int (nI q2_5)), (0, .ref (ad (mc + 1))), (1, .int fv)] → W pr l e { frames := 0, cells := 0, slots := 0, locals := 0 } s m ([.ref (ad (mc + 1)), .int fv] : List Value).toArray below meth c H locs 0 0 (MQ below (va_Qv (fun σ1 => (∀ x, x < 8 → σ1.1 (mc + 1) x = fv) ∧ TC σ1 ∧ frC (fun x y => (x = mc + 1)) σ σ1) (PoC G kc shC ad A) A) ([.ref (ad (mc + 1)), .int fv] : List Value).toArray s 0 0 A) (F0 m 5 ls []) := by
    intro nq
    induction nq with
    | zero => intro q2_5 τ1 H locs ls hmu; exact absurd hmu (Nat.not_lt_zero _)
    | succ nq ih2 =>
      intro q2_5 τ1 H locs ls hmu hq2_5 hfl hT_τ1 hF_τ1 hw hl
      refine lv_iload_n hx hb (dkP dF_28 DJ7_fill_53178 (i := 5) rfl rfl) rfl (lv_at hl 1 rfl) ?_
      refine lv_iload_n hx hb (dkP dF_29 DJ7_fill_53178 (i := 6) rfl rfl) rfl (lv_at hl 0 rfl) ?_
      refine lv_icmp_ge (tgt := 20) hx hb (dkS dF_162 DJ7_fill_53178 (i := 7) rfl rfl rfl) (by decide) (fun c3 => ?_) (fun c3 => ?_)
      · simp (disch := omega) only [ta_lt, ta_le, ta_eq, tnI, tl32 8 (by decide)] at c3
        exact z_vret C0 hr hlk hw (⟨(fun x hx1 => hfl x (by omega)), hT_τ1, hF_τ1⟩) (dkP dF_177 DJ7_fill_53178 (i := 14) rfl rfl)
      · simp (disch := omega) only [ta_lt, ta_le, ta_eq, tnI, tl32 8 (by decide)] at c3
        refine lv_aload_n hx hb (dkP dF_42 DJ7_fill_53178 (i := 8) rfl rfl) rfl (lv_at hl 2 rfl) ?_
        refine lv_iload_n hx hb (dkP dF_28 DJ7_fill_53178 (i := 9) rfl rfl) rfl (lv_at hl 1 rfl) ?_
        refine lv_iload_n hx hb (dkP dF_27 DJ7_fill_53178 (i := 10) rfl rfl) rfl (lv_at hl 3 rfl) ?_
        refine z_iastN (n := 8) C0 hw (mc + 1) q2_5 (ak_of (shl_mc_1 mc hmc)) (by omega) (by decide) (dkP dF_79 DJ7_fill_53178 (i := 11) rfl rfl) (fun H locs hw => ?_)
        have hT4 : TC (sI τ1 (mc + 1) q2_5 fv) := TC.w hT_τ1 (tc0 (tck_mc_1 mc hmc))
        have hF4 : frC (fun x y => (x = mc + 1)) σ (sI τ1 (mc + 1) q2_5 fv) := frC.w hF_τ1 (by show ((mc + 1) = mc + 1); exact rfl)
        refine lv_iinc (v := nI (q2_5 + 1)) (lv' := [(2, .int (nI (q2_5 + 1))), (3, .int 8), (0, .ref (ad (mc + 1))), (1, .int fv)]) hx hb (dkI DJ7_fill_53178 (i := 12) rfl rfl rfl rfl) hl (k := 1) rfl (nI_1 _) (by decide) rfl (fun ls hl => ?_)
        refine lv_goto (tgt := 5) hx hb (dkS dF_167 DJ7_fill_53178 (i := 13) rfl rfl rfl) (by decide) ?_
        exact ih2 (q2_5 + 1) (sI τ1 (mc + 1) q2_5 fv) _ _ _ (by omega) (by (try simp only [lg_cmp_lt, lg_cmp_le, lg_cmp_gt, lg_cmp_ge, lg_cmp_eq] at c3); (try simp (disch := omega) only [ta_lt, ta_le, ta_eq, tb_lt, tb_le, tb_eq, tw, tnI, tsub1, tsv, tsb32, tn32 1 (by decide), tnj 1 (by decide), tl32 0 (by decide), tl64 0 (by decide)] at c3); (try simp (disch := omega) only [ta_lt, ta_le, ta_eq, tb_lt, tb_le, tb_eq, tw, tnI, tsub1, tsv, tsb32, tn32 1 (by decide), tnj 1 (by decide), tl32 0 (by decide), tl64 0 (by decide)]); omega) (fun x hx1 => by by_cases e_ : x = q2_5; (· rw [e_]; exact rd_s); (· exact (rd_n (by omega)).trans (hfl x (by omega)))) hT4 hF4 hw (lv_sub hl [1, 0, 2, 3] rfl)
  exact lp2 _ 0 σ _ _ _ (Nat.lt_succ_self _) (by (try simp (disch := omega) only [ta_lt, ta_le, ta_eq, tb_lt, tb_le, tb_eq, tw, tnI, tsub1, tsv, tsb32, tn32 1 (by decide), tnj 1 (by decide), tl32 0 (by decide), tl64 0 (by decide)]); omega) (fun x hx1 => absurd hx1 (Nat.not_lt_zero x)) hT frC.refl hw (lv_sub hl [0, 1, 2, 3] rfl)
set_option maxRecDepth 100000 in
set_option maxHeartbeats 8000000 in
theorem c_J7_fill_53178_t (l : Launch) (G : va_G) (kc : KC) (ad : Nat → Nat) (σ : Sg) (mc : Nat) (fv : Int32) (hmc : mc ∈ mcL) (hT : TC σ) : MV l G kc yJ7_fill_53178 cJ7_fill_53178 4 0 0 [.ref (ad (mc + 4)), .int fv] shC ad σ (fun σ1 => (∀ x, x < 4 → σ1.1 (mc + 4) x = fv) ∧ TC σ1 ∧ frC (fun x y => (x = mc + 4)) σ σ1) := by
  intro sz
  refine z_body (y := yJ7_fill_53178) (n := 4) (av := [.ref (ad (mc + 4)), .int fv]) (Qc := fun A => va_Qv (fun σ1 => (∀ x, x < 4 → σ1.1 (mc + 4) x = fv) ∧ TC σ1 ∧ frC (fun x y => (x = mc + 4)) σ σ1) (PoC G kc shC ad A) A) (by decide +kernel) (Nat.le_of_ble_eq_true rfl) (fun pr e s m below meth c A C0 hr hlk hnm hw hRo ls hl => ?_) sz
  have hx := C0.1
  have hb := C0.2.1
  have hown := C0.2.2.2.1
  have hts := C0.2.2.2.2.1
  have hl : lv_has ls 4 [(0, .ref (ad (mc + 4))), (1, .int fv)] := hl
  refine lv_iconst (v := 0) hx hb (dkP dF_3 DJ7_fill_53178 (i := 0) rfl rfl) (by decide) ?_
  refine lv_istore_n (lv' := [(2, .int 0), (0, .ref (ad (mc + 4))), (1, .int fv)]) hx hb (dkP dF_61 DJ7_fill_53178 (i := 1) rfl rfl) rfl hl (by decide) rfl (fun ls hl => ?_)
  refine lv_aload_n hx hb (dkP dF_42 DJ7_fill_53178 (i := 2) rfl rfl) rfl (lv_at hl 1 rfl) ?_
  refine z_alen (t := 0) (n := 4) C0 hw (mc + 4) (ak_of (shl_mc_4 mc hmc)) (by decide) (dkP dF_190 DJ7_fill_53178 (i := 3) rfl rfl) ?_
  refine z_top (y := 4) rfl ?_
  refine lv_istore_n (lv' := [(3, .int 4), (2, .int 0), (0, .ref (ad (mc + 4))), (1, .int fv)]) hx hb (dkP dF_62 DJ7_fill_53178 (i := 4) rfl rfl) rfl hl (by decide) rfl (fun ls hl => ?_)
  have lp2 : ∀ (nq : Nat) (q2_5 : Nat) (τ1 : Sg) (H : Heap) (locs : List Loc) (ls : Array Slot), 4 - q2_5 < nq → (q2_5 ≤ 4) → (∀ x, x < q2_5 → τ1.1 (mc + 4) x = fv) → (TC τ1) → (frC (fun x y => (x = mc + 4)) σ τ1) → St G kc A s.heap shC ad τ1 H locs → lv_has ls 4 [(3, .int 4), (2, .int (nI q2_5)), (0, .ref (ad (mc + 4))), (1, .int fv)] → W pr l e { frames := 0, cells := 0, slots := 0, locals := 0 } s m ([.ref (ad (mc + 4)), .int fv] : List Value).toArray below meth c H locs 0 0 (MQ below (va_Qv (fun σ1 => (∀ x, x < 4 → σ1.1 (mc + 4) x = fv) ∧ TC σ1 ∧ frC (fun x y => (x = mc + 4)) σ σ1) (PoC G kc shC ad A) A) ([.ref (ad (mc + 4)), .int fv] : List Value).toArray s 0 0 A) (F0 m 5 ls []) := by
    intro nq
    induction nq with
    | zero => intro q2_5 τ1 H locs ls hmu; exact absurd hmu (Nat.not_lt_zero _)
    | succ nq ih2 =>
      intro q2_5 τ1 H locs ls hmu hq2_5 hfl hT_τ1 hF_τ1 hw hl
      refine lv_iload_n hx hb (dkP dF_28 DJ7_fill_53178 (i := 5) rfl rfl) rfl (lv_at hl 1 rfl) ?_
      refine lv_iload_n hx hb (dkP dF_29 DJ7_fill_53178 (i := 6) rfl rfl) rfl (lv_at hl 0 rfl) ?_
      refine lv_icmp_ge (tgt := 20) hx hb (dkS dF_162 DJ7_fill_53178 (i := 7) rfl rfl rfl) (by decide) (fun c3 => ?_) (fun c3 => ?_)
      · simp (disch := omega) only [ta_lt, ta_le, ta_eq, tnI, tl32 4 (by decide)] at c3
        exact z_vret C0 hr hlk hw (⟨(fun x hx1 => hfl x (by omega)), hT_τ1, hF_τ1⟩) (dkP dF_177 DJ7_fill_53178 (i := 14) rfl rfl)
      · simp (disch := omega) only [ta_lt, ta_le, ta_eq, tnI, tl32 4 (by decide)] at c3
        refine lv_aload_n hx hb (dkP dF_42 DJ7_fill_53178 (i := 8) rfl rfl) rfl (lv_at hl 2 rfl) ?_
        refine lv_iload_n hx hb (dkP dF_28 DJ7_fill_53178 (i := 9) rfl rfl) rfl (lv_at hl 1 rfl) ?_
        refine lv_iload_n hx hb (dkP dF_27 DJ7_fill_53178 (i := 10) rfl rfl) rfl (lv_at hl 3 rfl) ?_
        refine z_iastN (n := 4) C0 hw (mc + 4) q2_5 (ak_of (shl_mc_4 mc hmc)) (by omega) (by decide) (dkP dF_79 DJ7_fill_53178 (i := 11) rfl rfl) (fun H locs hw => ?_)
        have hT4 : TC (sI τ1 (mc + 4) q2_5 fv) := TC.w hT_τ1 (tc0 (tck_mc_4 mc hmc))
        have hF4 : frC (fun x y => (x = mc + 4)) σ (sI τ1 (mc + 4) q2_5 fv) := frC.w hF_τ1 (by show ((mc + 4) = mc + 4); exact rfl)
        refine lv_iinc (v := nI (q2_5 + 1)) (lv' := [(2, .int (nI (q2_5 + 1))), (3, .int 4), (0, .ref (ad (mc + 4))), (1, .int fv)]) hx hb (dkI DJ7_fill_53178 (i := 12) rfl rfl rfl rfl) hl (k := 1) rfl (nI_1 _) (by decide) rfl (fun ls hl => ?_)
        refine lv_goto (tgt := 5) hx hb (dkS dF_167 DJ7_fill_53178 (i := 13) rfl rfl rfl) (by decide) ?_
        exact ih2 (q2_5 + 1) (sI τ1 (mc + 4) q2_5 fv) _ _ _ (by omega) (by (try simp only [lg_cmp_lt, lg_cmp_le, lg_cmp_gt, lg_cmp_ge, lg_cmp_eq] at c3); (try simp (disch := omega) only [ta_lt, ta_le, ta_eq, tb_lt, tb_le, tb_eq, tw, tnI, tsub1, tsv, tsb32, tn32 1 (by decide), tnj 1 (by decide), tl32 0 (by decide), tl64 0 (by decide)] at c3); (try simp (disch := omega) only [ta_lt, ta_le, ta_eq, tb_lt, tb_le, tb_eq, tw, tnI, tsub1, tsv, tsb32, tn32 1 (by decide), tnj 1 (by decide), tl32 0 (by decide), tl64 0 (by decide)]); omega) (fun x hx1 => by by_cases e_ : x = q2_5; (· rw [e_]; exact rd_s); (· exact (rd_n (by omega)).trans (hfl x (by omega)))) hT4 hF4 hw (lv_sub hl [1, 0, 2, 3] rfl)
  exact lp2 _ 0 σ _ _ _ (Nat.lt_succ_self _) (by (try simp (disch := omega) only [ta_lt, ta_le, ta_eq, tb_lt, tb_le, tb_eq, tw, tnI, tsub1, tsv, tsb32, tn32 1 (by decide), tnj 1 (by decide), tl32 0 (by decide), tl64 0 (by decide)]); omega) (fun x hx1 => absurd hx1 (Nat.not_lt_zero x)) hT frC.refl hw (lv_sub hl [0, 1, 2, 3] rfl)
set_option maxRecDepth 20000 in
theorem shc_191 : shC[191]? = some (1, 9, []) := by rfl
theorem tcl_191 : tcL.getD 191 0 = 0 := by decide +kernel
set_option maxRecDepth 100000 in
set_option maxHeartbeats 8000000 in
theorem c_J7_fill_53178_s (l : Launch) (G : va_G) (kc : KC) (ad : Nat → Nat) (σ : Sg) (fv : Int32) (hT : TC σ) : MV l G kc yJ7_fill_53178 cJ7_fill_53178 4 0 0 [.ref (ad 191), .int fv] shC ad σ (fun σ1 => (∀ x, x < 9 → σ1.1 (191) x = fv) ∧ TC σ1 ∧ frC (fun x y => (x = 191)) σ σ1) := by
  intro sz
  refine z_body (y := yJ7_fill_53178) (n := 4) (av := [.ref (ad 191), .int fv]) (Qc := fun A => va_Qv (fun σ1 => (∀ x, x < 9 → σ1.1 (191) x = fv) ∧ TC σ1 ∧ frC (fun x y => (x = 191)) σ σ1) (PoC G kc shC ad A) A) (by decide +kernel) (Nat.le_of_ble_eq_true rfl) (fun pr e s m below meth c A C0 hr hlk hnm hw hRo ls hl => ?_) sz
  have hx := C0.1
  have hb := C0.2.1
  have hown := C0.2.2.2.1
  have hts := C0.2.2.2.2.1
  have hl : lv_has ls 4 [(0, .ref (ad 191)), (1, .int fv)] := hl
  refine lv_iconst (v := 0) hx hb (dkP dF_3 DJ7_fill_53178 (i := 0) rfl rfl) (by decide) ?_
  refine lv_istore_n (lv' := [(2, .int 0), (0, .ref (ad 191)), (1, .int fv)]) hx hb (dkP dF_61 DJ7_fill_53178 (i := 1) rfl rfl) rfl hl (by decide) rfl (fun ls hl => ?_)
  refine lv_aload_n hx hb (dkP dF_42 DJ7_fill_53178 (i := 2) rfl rfl) rfl (lv_at hl 1 rfl) ?_
  refine z_alen (t := 0) (n := 9) C0 hw 191 (ak_of shc_191) (by decide) (dkP dF_190 DJ7_fill_53178 (i := 3) rfl rfl) ?_
  refine z_top (y := 9) rfl ?_
  refine lv_istore_n (lv' := [(3, .int 9), (2, .int 0), (0, .ref (ad 191)), (1, .int fv)]) hx hb (dkP dF_62 DJ7_fill_53178 (i := 4) rfl rfl) rfl hl (by decide) rfl (fun ls hl => ?_)
  have lp2 : ∀ (nq : Nat) (q2_5 : Nat) (τ1 : Sg) (H : Heap) (locs : List Loc) (ls : Array Slot), 9 - q2_5 < nq → (q2_5 ≤ 9) → (∀ x, x < q2_5 → τ1.1 (191) x = fv) → (TC τ1) → (frC (fun x y => (x = 191)) σ τ1) → St G kc A s.heap shC ad τ1 H locs → lv_has ls 4 [(3, .int 9), (2, .int (nI q2_5)), (0, .ref (ad 191)), (1, .int fv)] → W pr l e { frames := 0, cells := 0, slots := 0, locals := 0 } s m ([.ref (ad 191), .int fv] : List Value).toArray below meth c H locs 0 0 (MQ below (va_Qv (fun σ1 => (∀ x, x < 9 → σ1.1 (191) x = fv) ∧ TC σ1 ∧ frC (fun x y => (x = 191)) σ σ1) (PoC G kc shC ad A) A) ([.ref (ad 191), .int fv] : List Value).toArray s 0 0 A) (F0 m 5 ls []) := by
    intro nq
    induction nq with
    | zero => intro q2_5 τ1 H locs ls hmu; exact absurd hmu (Nat.not_lt_zero _)
    | succ nq ih2 =>
      intro q2_5 τ1 H locs ls hmu hq2_5 hfl hT_τ1 hF_τ1 hw hl
      refine lv_iload_n hx hb (dkP dF_28 DJ7_fill_53178 (i := 5) rfl rfl) rfl (lv_at hl 1 rfl) ?_
      refine lv_iload_n hx hb (dkP dF_29 DJ7_fill_53178 (i := 6) rfl rfl) rfl (lv_at hl 0 rfl) ?_
      refine lv_icmp_ge (tgt := 20) hx hb (dkS dF_162 DJ7_fill_53178 (i := 7) rfl rfl rfl) (by decide) (fun c3 => ?_) (fun c3 => ?_)
      · simp (disch := omega) only [ta_lt, ta_le, ta_eq, tnI, tl32 9 (by decide)] at c3
        exact z_vret C0 hr hlk hw (⟨(fun x hx1 => hfl x (by omega)), hT_τ1, hF_τ1⟩) (dkP dF_177 DJ7_fill_53178 (i := 14) rfl rfl)
      · simp (disch := omega) only [ta_lt, ta_le, ta_eq, tnI, tl32 9 (by decide)] at c3
        refine lv_aload_n hx hb (dkP dF_42 DJ7_fill_53178 (i := 8) rfl rfl) rfl (lv_at hl 2 rfl) ?_
        refine lv_iload_n hx hb (dkP dF_28 DJ7_fill_53178 (i := 9) rfl rfl) rfl (lv_at hl 1 rfl) ?_
        refine lv_iload_n hx hb (dkP dF_27 DJ7_fill_53178 (i := 10) rfl rfl) rfl (lv_at hl 3 rfl) ?_
        refine z_iastN (n := 9) C0 hw 191 q2_5 (ak_of shc_191) (by omega) (by decide) (dkP dF_79 DJ7_fill_53178 (i := 11) rfl rfl) (fun H locs hw => ?_)
        have hT4 : TC (sI τ1 191 q2_5 fv) := TC.w hT_τ1 (tc0 tcl_191)
        have hF4 : frC (fun x y => (x = 191)) σ (sI τ1 191 q2_5 fv) := frC.w hF_τ1 (by show (191 = 191); exact rfl)
        refine lv_iinc (v := nI (q2_5 + 1)) (lv' := [(2, .int (nI (q2_5 + 1))), (3, .int 9), (0, .ref (ad 191)), (1, .int fv)]) hx hb (dkI DJ7_fill_53178 (i := 12) rfl rfl rfl rfl) hl (k := 1) rfl (nI_1 _) (by decide) rfl (fun ls hl => ?_)
        refine lv_goto (tgt := 5) hx hb (dkS dF_167 DJ7_fill_53178 (i := 13) rfl rfl rfl) (by decide) ?_
        exact ih2 (q2_5 + 1) (sI τ1 191 q2_5 fv) _ _ _ (by omega) (by (try simp only [lg_cmp_lt, lg_cmp_le, lg_cmp_gt, lg_cmp_ge, lg_cmp_eq] at c3); (try simp (disch := omega) only [ta_lt, ta_le, ta_eq, tb_lt, tb_le, tb_eq, tw, tnI, tsub1, tsv, tsb32, tn32 1 (by decide), tnj 1 (by decide), tl32 0 (by decide), tl64 0 (by decide)] at c3); (try simp (disch := omega) only [ta_lt, ta_le, ta_eq, tb_lt, tb_le, tb_eq, tw, tnI, tsub1, tsv, tsb32, tn32 1 (by decide), tnj 1 (by decide), tl32 0 (by decide), tl64 0 (by decide)]); omega) (fun x hx1 => by by_cases e_ : x = q2_5; (· rw [e_]; exact rd_s); (· exact (rd_n (by omega)).trans (hfl x (by omega)))) hT4 hF4 hw (lv_sub hl [1, 0, 2, 3] rfl)
  exact lp2 _ 0 σ _ _ _ (Nat.lt_succ_self _) (by (try simp (disch := omega) only [ta_lt, ta_le, ta_eq, tb_lt, tb_le, tb_eq, tw, tnI, tsub1, tsv, tsb32, tn32 1 (by decide), tnj 1 (by decide), tl32 0 (by decide), tl64 0 (by decide)]); omega) (fun x hx1 => absurd hx1 (Nat.not_lt_zero x)) hT frC.refl hw (lv_sub hl [0, 1, 2, 3] rfl)
set_option maxRecDepth 20000 in
theorem shl_wt_9 : ∀ d, d ∈ wtL → shC[d + 9]? = some (1, 32, []) := by decide +kernel
theorem tck_wt_9 : ∀ d, d ∈ wtL → tcL.getD (d + 9) 0 = 0 := by decide +kernel
set_option maxRecDepth 100000 in
set_option maxHeartbeats 8000000 in
theorem c_J7_fill_53178_m (l : Launch) (G : va_G) (kc : KC) (ad : Nat → Nat) (σ : Sg) (wt : Nat) (fv : Int32) (hwt : wt ∈ wtL) (hT : TC σ) : MV l G kc yJ7_fill_53178 cJ7_fill_53178 4 0 0 [.ref (ad (wt + 9)), .int fv] shC ad σ (fun σ1 => (∀ x, x < 32 → σ1.1 (wt + 9) x = fv) ∧ TC σ1 ∧ frC (fun x y => (x = wt + 9)) σ σ1) := by
  intro sz
  refine z_body (y := yJ7_fill_53178) (n := 4) (av := [.ref (ad (wt + 9)), .int fv]) (Qc := fun A => va_Qv (fun σ1 => (∀ x, x < 32 → σ1.1 (wt + 9) x = fv) ∧ TC σ1 ∧ frC (fun x y => (x = wt + 9)) σ σ1) (PoC G kc shC ad A) A) (by decide +kernel) (Nat.le_of_ble_eq_true rfl) (fun pr e s m below meth c A C0 hr hlk hnm hw hRo ls hl => ?_) sz
  have hx := C0.1
  have hb := C0.2.1
  have hown := C0.2.2.2.1
  have hts := C0.2.2.2.2.1
  have hl : lv_has ls 4 [(0, .ref (ad (wt + 9))), (1, .int fv)] := hl
  refine lv_iconst (v := 0) hx hb (dkP dF_3 DJ7_fill_53178 (i := 0) rfl rfl) (by decide) ?_
  refine lv_istore_n (lv' := [(2, .int 0), (0, .ref (ad (wt + 9))), (1, .int fv)]) hx hb (dkP dF_61 DJ7_fill_53178 (i := 1) rfl rfl) rfl hl (by decide) rfl (fun ls hl => ?_)
  refine lv_aload_n hx hb (dkP dF_42 DJ7_fill_53178 (i := 2) rfl rfl) rfl (lv_at hl 1 rfl) ?_
  refine z_alen (t := 0) (n := 32) C0 hw (wt + 9) (ak_of (shl_wt_9 wt hwt)) (by decide) (dkP dF_190 DJ7_fill_53178 (i := 3) rfl rfl) ?_
  refine z_top (y := 32) rfl ?_
  refine lv_istore_n (lv' := [(3, .int 32), (2, .int 0), (0, .ref (ad (wt + 9))), (1, .int fv)]) hx hb (dkP dF_62 DJ7_fill_53178 (i := 4) rfl rfl) rfl hl (by decide) rfl (fun ls hl => ?_)
  have lp2 : ∀ (nq : Nat) (q2_5 : Nat) (τ1 : Sg) (H : Heap) (locs : List Loc) (ls : Array Slot), 32 - q2_5 < nq → (q2_5 ≤ 32) → (∀ x, x < q2_5 → τ1.1 (wt + 9) x = fv) → (TC τ1) → (frC (fun x y => (x = wt + 9)) σ τ1) → St G kc A s.heap shC ad τ1 H locs → lv_has ls 4 [(3, .int 32), (2, .int (nI q2_5)), (0, .ref (ad (wt + 9))), (1, .int fv)] → W pr l e { frames := 0, cells := 0, slots := 0, locals := 0 } s m ([.ref (ad (wt + 9)), .int fv] : List Value).toArray below meth c H locs 0 0 (MQ below (va_Qv (fun σ1 => (∀ x, x < 32 → σ1.1 (wt + 9) x = fv) ∧ TC σ1 ∧ frC (fun x y => (x = wt + 9)) σ σ1) (PoC G kc shC ad A) A) ([.ref (ad (wt + 9)), .int fv] : List Value).toArray s 0 0 A) (F0 m 5 ls []) := by
    intro nq
    induction nq with
    | zero => intro q2_5 τ1 H locs ls hmu; exact absurd hmu (Nat.not_lt_zero _)
    | succ nq ih2 =>
      intro q2_5 τ1 H locs ls hmu hq2_5 hfl hT_τ1 hF_τ1 hw hl
      refine lv_iload_n hx hb (dkP dF_28 DJ7_fill_53178 (i := 5) rfl rfl) rfl (lv_at hl 1 rfl) ?_
      refine lv_iload_n hx hb (dkP dF_29 DJ7_fill_53178 (i := 6) rfl rfl) rfl (lv_at hl 0 rfl) ?_
      refine lv_icmp_ge (tgt := 20) hx hb (dkS dF_162 DJ7_fill_53178 (i := 7) rfl rfl rfl) (by decide) (fun c3 => ?_) (fun c3 => ?_)
      · simp (disch := omega) only [ta_lt, ta_le, ta_eq, tnI, tl32 32 (by decide)] at c3
        exact z_vret C0 hr hlk hw (⟨(fun x hx1 => hfl x (by omega)), hT_τ1, hF_τ1⟩) (dkP dF_177 DJ7_fill_53178 (i := 14) rfl rfl)
      · simp (disch := omega) only [ta_lt, ta_le, ta_eq, tnI, tl32 32 (by decide)] at c3
        refine lv_aload_n hx hb (dkP dF_42 DJ7_fill_53178 (i := 8) rfl rfl) rfl (lv_at hl 2 rfl) ?_
        refine lv_iload_n hx hb (dkP dF_28 DJ7_fill_53178 (i := 9) rfl rfl) rfl (lv_at hl 1 rfl) ?_
        refine lv_iload_n hx hb (dkP dF_27 DJ7_fill_53178 (i := 10) rfl rfl) rfl (lv_at hl 3 rfl) ?_
        refine z_iastN (n := 32) C0 hw (wt + 9) q2_5 (ak_of (shl_wt_9 wt hwt)) (by omega) (by decide) (dkP dF_79 DJ7_fill_53178 (i := 11) rfl rfl) (fun H locs hw => ?_)
        have hT4 : TC (sI τ1 (wt + 9) q2_5 fv) := TC.w hT_τ1 (tc0 (tck_wt_9 wt hwt))
        have hF4 : frC (fun x y => (x = wt + 9)) σ (sI τ1 (wt + 9) q2_5 fv) := frC.w hF_τ1 (by show ((wt + 9) = wt + 9); exact rfl)
        refine lv_iinc (v := nI (q2_5 + 1)) (lv' := [(2, .int (nI (q2_5 + 1))), (3, .int 32), (0, .ref (ad (wt + 9))), (1, .int fv)]) hx hb (dkI DJ7_fill_53178 (i := 12) rfl rfl rfl rfl) hl (k := 1) rfl (nI_1 _) (by decide) rfl (fun ls hl => ?_)
        refine lv_goto (tgt := 5) hx hb (dkS dF_167 DJ7_fill_53178 (i := 13) rfl rfl rfl) (by decide) ?_
        exact ih2 (q2_5 + 1) (sI τ1 (wt + 9) q2_5 fv) _ _ _ (by omega) (by (try simp only [lg_cmp_lt, lg_cmp_le, lg_cmp_gt, lg_cmp_ge, lg_cmp_eq] at c3); (try simp (disch := omega) only [ta_lt, ta_le, ta_eq, tb_lt, tb_le, tb_eq, tw, tnI, tsub1, tsv, tsb32, tn32 1 (by decide), tnj 1 (by decide), tl32 0 (by decide), tl64 0 (by decide)] at c3); (try simp (disch := omega) only [ta_lt, ta_le, ta_eq, tb_lt, tb_le, tb_eq, tw, tnI, tsub1, tsv, tsb32, tn32 1 (by decide), tnj 1 (by decide), tl32 0 (by decide), tl64 0 (by decide)]); omega) (fun x hx1 => by by_cases e_ : x = q2_5; (· rw [e_]; exact rd_s); (· exact (rd_n (by omega)).trans (hfl x (by omega)))) hT4 hF4 hw (lv_sub hl [1, 0, 2, 3] rfl)
  exact lp2 _ 0 σ _ _ _ (Nat.lt_succ_self _) (by (try simp (disch := omega) only [ta_lt, ta_le, ta_eq, tb_lt, tb_le, tb_eq, tw, tnI, tsub1, tsv, tsb32, tn32 1 (by decide), tnj 1 (by decide), tl32 0 (by decide), tl64 0 (by decide)]); omega) (fun x hx1 => absurd hx1 (Nat.not_lt_zero x)) hT frC.refl hw (lv_sub hl [0, 1, 2, 3] rfl)
set_option maxRecDepth 20000 in
theorem shl_wt_10 : ∀ d, d ∈ wtL → shC[d + 10]? = some (1, 4, []) := by decide +kernel
theorem tck_wt_10 : ∀ d, d ∈ wtL → tcL.getD (d + 10) 0 = 0 := by decide +kernel
set_option maxRecDepth 100000 in
set_option maxHeartbeats 8000000 in
theorem c_J7_fill_53178_v (l : Launch) (G : va_G) (kc : KC) (ad : Nat → Nat) (σ : Sg) (wt : Nat) (fv : Int32) (hwt : wt ∈ wtL) (hT : TC σ) : MV l G kc yJ7_fill_53178 cJ7_fill_53178 4 0 0 [.ref (ad (wt + 10)), .int fv] shC ad σ (fun σ1 => (∀ x, x < 4 → σ1.1 (wt + 10) x = fv) ∧ TC σ1 ∧ frC (fun x y => (x = wt + 10)) σ σ1) := by
  intro sz
  refine z_body (y := yJ7_fill_53178) (n := 4) (av := [.ref (ad (wt + 10)), .int fv]) (Qc := fun A => va_Qv (fun σ1 => (∀ x, x < 4 → σ1.1 (wt + 10) x = fv) ∧ TC σ1 ∧ frC (fun x y => (x = wt + 10)) σ σ1) (PoC G kc shC ad A) A) (by decide +kernel) (Nat.le_of_ble_eq_true rfl) (fun pr e s m below meth c A C0 hr hlk hnm hw hRo ls hl => ?_) sz
  have hx := C0.1
  have hb := C0.2.1
  have hown := C0.2.2.2.1
  have hts := C0.2.2.2.2.1
  have hl : lv_has ls 4 [(0, .ref (ad (wt + 10))), (1, .int fv)] := hl
  refine lv_iconst (v := 0) hx hb (dkP dF_3 DJ7_fill_53178 (i := 0) rfl rfl) (by decide) ?_
  refine lv_istore_n (lv' := [(2, .int 0), (0, .ref (ad (wt + 10))), (1, .int fv)]) hx hb (dkP dF_61 DJ7_fill_53178 (i := 1) rfl rfl) rfl hl (by decide) rfl (fun ls hl => ?_)
  refine lv_aload_n hx hb (dkP dF_42 DJ7_fill_53178 (i := 2) rfl rfl) rfl (lv_at hl 1 rfl) ?_
  refine z_alen (t := 0) (n := 4) C0 hw (wt + 10) (ak_of (shl_wt_10 wt hwt)) (by decide) (dkP dF_190 DJ7_fill_53178 (i := 3) rfl rfl) ?_
  refine z_top (y := 4) rfl ?_
  refine lv_istore_n (lv' := [(3, .int 4), (2, .int 0), (0, .ref (ad (wt + 10))), (1, .int fv)]) hx hb (dkP dF_62 DJ7_fill_53178 (i := 4) rfl rfl) rfl hl (by decide) rfl (fun ls hl => ?_)
  have lp2 : ∀ (nq : Nat) (q2_5 : Nat) (τ1 : Sg) (H : Heap) (locs : List Loc) (ls : Array Slot), 4 - q2_5 < nq → (q2_5 ≤ 4) → (∀ x, x < q2_5 → τ1.1 (wt + 10) x = fv) → (TC τ1) → (frC (fun x y => (x = wt + 10)) σ τ1) → St G kc A s.heap shC ad τ1 H locs → lv_has ls 4 [(3, .int 4), (2, .int (nI q2_5)), (0, .ref (ad (wt + 10))), (1, .int fv)] → W pr l e { frames := 0, cells := 0, slots := 0, locals := 0 } s m ([.ref (ad (wt + 10)), .int fv] : List Value).toArray below meth c H locs 0 0 (MQ below (va_Qv (fun σ1 => (∀ x, x < 4 → σ1.1 (wt + 10) x = fv) ∧ TC σ1 ∧ frC (fun x y => (x = wt + 10)) σ σ1) (PoC G kc shC ad A) A) ([.ref (ad (wt + 10)), .int fv] : List Value).toArray s 0 0 A) (F0 m 5 ls []) := by
    intro nq
    induction nq with
    | zero => intro q2_5 τ1 H locs ls hmu; exact absurd hmu (Nat.not_lt_zero _)
    | succ nq ih2 =>
      intro q2_5 τ1 H locs ls hmu hq2_5 hfl hT_τ1 hF_τ1 hw hl
      refine lv_iload_n hx hb (dkP dF_28 DJ7_fill_53178 (i := 5) rfl rfl) rfl (lv_at hl 1 rfl) ?_
      refine lv_iload_n hx hb (dkP dF_29 DJ7_fill_53178 (i := 6) rfl rfl) rfl (lv_at hl 0 rfl) ?_
      refine lv_icmp_ge (tgt := 20) hx hb (dkS dF_162 DJ7_fill_53178 (i := 7) rfl rfl rfl) (by decide) (fun c3 => ?_) (fun c3 => ?_)
      · simp (disch := omega) only [ta_lt, ta_le, ta_eq, tnI, tl32 4 (by decide)] at c3
        exact z_vret C0 hr hlk hw (⟨(fun x hx1 => hfl x (by omega)), hT_τ1, hF_τ1⟩) (dkP dF_177 DJ7_fill_53178 (i := 14) rfl rfl)
      · simp (disch := omega) only [ta_lt, ta_le, ta_eq, tnI, tl32 4 (by decide)] at c3
        refine lv_aload_n hx hb (dkP dF_42 DJ7_fill_53178 (i := 8) rfl rfl) rfl (lv_at hl 2 rfl) ?_
        refine lv_iload_n hx hb (dkP dF_28 DJ7_fill_53178 (i := 9) rfl rfl) rfl (lv_at hl 1 rfl) ?_
        refine lv_iload_n hx hb (dkP dF_27 DJ7_fill_53178 (i := 10) rfl rfl) rfl (lv_at hl 3 rfl) ?_
        refine z_iastN (n := 4) C0 hw (wt + 10) q2_5 (ak_of (shl_wt_10 wt hwt)) (by omega) (by decide) (dkP dF_79 DJ7_fill_53178 (i := 11) rfl rfl) (fun H locs hw => ?_)
        have hT4 : TC (sI τ1 (wt + 10) q2_5 fv) := TC.w hT_τ1 (tc0 (tck_wt_10 wt hwt))
        have hF4 : frC (fun x y => (x = wt + 10)) σ (sI τ1 (wt + 10) q2_5 fv) := frC.w hF_τ1 (by show ((wt + 10) = wt + 10); exact rfl)
        refine lv_iinc (v := nI (q2_5 + 1)) (lv' := [(2, .int (nI (q2_5 + 1))), (3, .int 4), (0, .ref (ad (wt + 10))), (1, .int fv)]) hx hb (dkI DJ7_fill_53178 (i := 12) rfl rfl rfl rfl) hl (k := 1) rfl (nI_1 _) (by decide) rfl (fun ls hl => ?_)
        refine lv_goto (tgt := 5) hx hb (dkS dF_167 DJ7_fill_53178 (i := 13) rfl rfl rfl) (by decide) ?_
        exact ih2 (q2_5 + 1) (sI τ1 (wt + 10) q2_5 fv) _ _ _ (by omega) (by (try simp only [lg_cmp_lt, lg_cmp_le, lg_cmp_gt, lg_cmp_ge, lg_cmp_eq] at c3); (try simp (disch := omega) only [ta_lt, ta_le, ta_eq, tb_lt, tb_le, tb_eq, tw, tnI, tsub1, tsv, tsb32, tn32 1 (by decide), tnj 1 (by decide), tl32 0 (by decide), tl64 0 (by decide)] at c3); (try simp (disch := omega) only [ta_lt, ta_le, ta_eq, tb_lt, tb_le, tb_eq, tw, tnI, tsub1, tsv, tsb32, tn32 1 (by decide), tnj 1 (by decide), tl32 0 (by decide), tl64 0 (by decide)]); omega) (fun x hx1 => by by_cases e_ : x = q2_5; (· rw [e_]; exact rd_s); (· exact (rd_n (by omega)).trans (hfl x (by omega)))) hT4 hF4 hw (lv_sub hl [1, 0, 2, 3] rfl)
  exact lp2 _ 0 σ _ _ _ (Nat.lt_succ_self _) (by (try simp (disch := omega) only [ta_lt, ta_le, ta_eq, tb_lt, tb_le, tb_eq, tw, tnI, tsub1, tsv, tsb32, tn32 1 (by decide), tnj 1 (by decide), tl32 0 (by decide), tl64 0 (by decide)]); omega) (fun x hx1 => absurd hx1 (Nat.not_lt_zero x)) hT frC.refl hw (lv_sub hl [0, 1, 2, 3] rfl)
