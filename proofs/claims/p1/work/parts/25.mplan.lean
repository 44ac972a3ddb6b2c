set_option maxRecDepth 100000 in
theorem shrb : ∀ s, s < 256 → ∀ p, p < 8 → (((nI s) >>> (nI p &&& 31)) &&& 1 = 0 ↔ s.testBit p = false) := by decide +kernel
set_option maxRecDepth 100000 in
theorem or_gt : ∀ d, d < 256 → ∀ p, p < 8 → d.testBit p = false → d + 1 ≤ d ||| 2 ^ p := by decide +kernel
set_option maxRecDepth 100000 in
theorem sub_self8 : ∀ a, a < 256 → a &&& (255 ^^^ a) = 0 := by decide +kernel
theorem sub_bit {s a : Nat} (h : s &&& (255 ^^^ a) = 0) {i : Nat} (hi : i < 8) (ha : a.testBit i = false) : s.testBit i = false := by
  have h1 : (s &&& (255 ^^^ a)).testBit i = false := by rw [h, Nat.zero_testBit]
  rw [Nat.testBit_and, Nat.testBit_xor, t255, ha] at h1
  simpa [hi] using h1
theorem big_bit {s i : Nat} (hs : s < 256) (hi : ¬ i < 8) : s.testBit i = false := Nat.testBit_lt_two_pow (Nat.lt_of_lt_of_le hs (Nat.pow_le_pow_right (n := 2) (by decide) (show 8 ≤ i by omega)))
theorem sub_or {s a p : Nat} (hs : s < 256) (hp : p < 8) (h : s &&& (255 ^^^ a) = 0) (hb : a.testBit p = true) : (s ||| 2 ^ p) &&& (255 ^^^ a) = 0 := by
  apply Nat.eq_of_testBit_eq
  intro i
  rw [Nat.zero_testBit, Nat.testBit_and, Nat.testBit_or, Nat.testBit_xor, t255]
  by_cases h8 : i < 8
  · by_cases hip : i = p
    · subst hip; simp [hb, h8]
    · have h2 : (2 ^ p).testBit i = false := by rw [Nat.testBit_two_pow]; simp [Ne.symm hip]
      cases ha : a.testBit i with
      | true => simp [h8]
      | false => simp [h2, sub_bit h h8 ha]
  · have h2 : (2 ^ p).testBit i = false := by rw [Nat.testBit_two_pow]; simp; omega
    simp [h2, big_bit hs h8]
theorem sub_ne {s a : Nat} (hs : s < 256) (ha : a < 256) (h : s &&& (255 ^^^ a) = 0) (hne : ¬ s = a) : ∃ b, b < 8 ∧ a.testBit b = true ∧ s.testBit b = false := by
  apply Classical.byContradiction
  intro hno
  apply hne
  apply Nat.eq_of_testBit_eq
  intro i
  by_cases h8 : i < 8
  · cases hai : a.testBit i with
    | true =>
      cases hsi : s.testBit i with
      | true => rfl
      | false => exact absurd ⟨i, h8, hai, hsi⟩ hno
    | false => exact sub_bit h h8 hai
  · rw [big_bit hs h8, big_bit ha h8]
theorem xbit {a s p : Nat} (hp : p < 8) (ha : a.testBit p = true) (hs : s.testBit p = false) : (a &&& (255 ^^^ s)).testBit p = true := by
  rw [Nat.testBit_and, Nat.testBit_xor, t255, ha, hs]
  simp [hp]
theorem or0 (x : Int32) : 0 ||| x = x := by apply Int32.toBitVec_inj.1; show (0#32) ||| x.toBitVec = x.toBitVec; simp
def LV (a s : Nat) : Int32 := if s &&& (255 ^^^ a) = 0 then 0 else -1
theorem LV0 {a s : Nat} (h : s &&& (255 ^^^ a) = 0) : LV a s = 0 := if_pos h
theorem LV1 {a s : Nat} (h : ¬ s &&& (255 ^^^ a) = 0) : LV a s = -1 := if_neg h
/-- the file as it is at first -/
def WZ (σ : Sg) : Prop := ∀ j, σ.1 1 j = w0 j
theorem WZ.w {σ : Sg} {c k : Nat} {v : Int32} (h : WZ σ) (hc : c ≠ 1) : WZ (sI σ c k v) := fun j => (rd_n (by omega)).trans (h j)
theorem WZ0 : WZ sM0 := fun _ => rfl
set_option maxRecDepth 100000 in
set_option maxHeartbeats 4000000 in
theorem c_X12_isNeed_g (l : Launch) (G : va_G) (kc : Nat → ClassId) (ad : Nat → Nat) (σ : Sg)  (a : Nat) (b : Nat) (ha : a < 8) (hb2 : b < 8) (hW : WZ σ) : MI l G kc yX12_isNeed cX12_isNeed 3 (some .boolean) 0 0 [.ref (ad 0), .int (nI a), .int (nI b)] shM ad σ (fun r σ1 => ((r = 1 ∧ (False)) ∨ (r = 0 ∧ ¬ (False))) ∧ σ1 = σ) := by
  intro sz
  refine z_body (y := yX12_isNeed) (n := 3) (av := [.ref (ad 0), .int (nI a), .int (nI b)]) (Qc := fun A => va_Qi (fun r σ1 => ((r = 1 ∧ (False)) ∨ (r = 0 ∧ ¬ (False))) ∧ σ1 = σ) (PoC G kc shM ad A) A) (plainFor_of_name (by decide)) (Nat.le_of_ble_eq_true rfl) (fun pr e s m below meth c A C0 hr hlk hnm hw ls hl => ?_) sz
  have hx := C0.1
  have hb := C0.2.1
  have hown := C0.2.2.2.1
  have hts := C0.2.2.2.2.1
  have hl : lv_has ls 3 [(0, .ref (ad 0)), (1, .int (nI a)), (2, .int (nI b))] := hl
  refine lv_aload_n hx hb (dkP dF_42 DX12_isNeed (i := 0) rfl rfl) rfl (lv_at hl 0 rfl) ?_
  refine z_gr C0 hw 0 1 1 rfl fl_X12_20 (dk2 dF_180 DX12_isNeed (i := 1) rfl rfl rfl) ?_
  refine lv_ldcw hx hb hown (hts _ kn_X12_454) (dk2 dF_19 DX12_isNeed (i := 2) rfl rfl rfl) ?_
  refine lv_bipush (v := 8) hx hb (dks dF_16 DX12_isNeed (i := 3) rfl rfl rfl) (by decide) ?_
  refine lv_iload_n hx hb (dkP dF_27 DX12_isNeed (i := 4) rfl rfl) rfl (lv_at hl 1 rfl) ?_
  refine lv_imul hx hb (dkP dF_104 DX12_isNeed (i := 5) rfl rfl) ?_
  refine z_top (y := nI (8 * a)) (by simp only [fa_lit, nI_add, pk_mul]) ?_
  refine lv_iadd hx hb (dkP dF_96 DX12_isNeed (i := 6) rfl rfl) ?_
  refine z_top (y := nI (413544 + (8 * a))) (by simp only [fa_lit, nI_add, pk_mul]) ?_
  refine lv_iload_n hx hb (dkP dF_28 DX12_isNeed (i := 7) rfl rfl) rfl (lv_at hl 2 rfl) ?_
  refine lv_iadd hx hb (dkP dF_96 DX12_isNeed (i := 8) rfl rfl) ?_
  refine z_top (y := nI ((413544 + (8 * a)) + b)) (by simp only [fa_lit, nI_add, pk_mul]) ?_
  refine z_ialdN (n := 414128) C0 hw 1 ((413544 + (8 * a)) + b) rfl (by omega) (by decide) (dkP dF_46 DX12_isNeed (i := 9) rfl rfl) ?_
  refine z_top (y := 0) ((hW _).trans (w0_z _ (by omega) (by omega))) ?_
  refine lv_iconst (v := 1) hx hb (dkP dF_4 DX12_isNeed (i := 10) rfl rfl) (by decide) ?_
  refine lv_icmp_ne (tgt := 23) hx hb (dkS dF_160 DX12_isNeed (i := 11) rfl rfl rfl) (by decide) (fun _ => ?_) (fun h => absurd h (by decide))
  refine lv_iconst (v := 0) hx hb (dkP dF_3 DX12_isNeed (i := 14) rfl rfl) (by decide) ?_
  exact z_zret C0 hr hlk (by decide) hw (⟨Or.inr ⟨rfl, fun z => z⟩, rfl⟩) (dkP dF_172 DX12_isNeed (i := 15) rfl rfl)
set_option maxRecDepth 100000 in
set_option maxHeartbeats 4000000 in
theorem c_X12_priceOf_g (l : Launch) (G : va_G) (kc : Nat → ClassId) (ad : Nat → Nat) (σ : Sg)  (ov : Int32) (hW : WZ σ) : MI l G kc yX12_priceOf cX12_priceOf 5 (some .int) 0 0 [.ref (ad 0), .int ov] shM ad σ (fun r σ1 => r = 0 ∧ σ1 = σ) := by
  intro sz
  refine z_body (y := yX12_priceOf) (n := 5) (av := [.ref (ad 0), .int ov]) (Qc := fun A => va_Qi (fun r σ1 => r = 0 ∧ σ1 = σ) (PoC G kc shM ad A) A) (plainFor_of_name (by decide)) (Nat.le_of_ble_eq_true rfl) (fun pr e s m below meth c A C0 hr hlk hnm hw ls hl => ?_) sz
  have hx := C0.1
  have hb := C0.2.1
  have hown := C0.2.2.2.1
  have hts := C0.2.2.2.2.1
  have hl : lv_has ls 5 [(0, .ref (ad 0)), (1, .int ov)] := hl
  refine lv_iconst (v := 0) hx hb (dkP dF_3 DX12_priceOf (i := 0) rfl rfl) (by decide) ?_
  refine lv_istore_n (lv' := [(2, .int 0), (0, .ref (ad 0)), (1, .int ov)]) hx hb (dkP dF_61 DX12_priceOf (i := 1) rfl rfl) rfl hl (by decide) rfl (fun ls hl => ?_)
  refine lv_iconst (v := 0) hx hb (dkP dF_3 DX12_priceOf (i := 2) rfl rfl) (by decide) ?_
  refine lv_istore_n (lv' := [(3, .int 0), (2, .int 0), (0, .ref (ad 0)), (1, .int ov)]) hx hb (dkP dF_62 DX12_priceOf (i := 3) rfl rfl) rfl hl (by decide) rfl (fun ls hl => ?_)
  have lp1 : ∀ (n : Nat) (ia : Nat) (H : Heap) (locs : List Loc) (ls : Array Slot), 8 - ia < n → (ia ≤ 8) → St G kc A s.heap shM ad σ H locs → lv_has ls 5 [(3, .int (nI ia)), (2, .int 0), (0, .ref (ad 0)), (1, .int ov)] → W pr l e { frames := 0, cells := 0, slots := 0, locals := 0 } s m ([.ref (ad 0), .int ov] : List Value).toArray below meth c H locs 0 0 (MQ below (va_Qi (fun r σ1 => r = 0 ∧ σ1 = σ) (PoC G kc shM ad A) A) ([.ref (ad 0), .int ov] : List Value).toArray s 0 0 A) (F0 m 4 ls []) := by
    intro n
    induction n with
    | zero => intro ia H locs ls hmu; exact absurd hmu (Nat.not_lt_zero _)
    | succ n ih1 =>
      intro ia H locs ls hmu hia hw hl
      refine lv_iload_n hx hb (dkP dF_29 DX12_priceOf (i := 4) rfl rfl) rfl (lv_at hl 0 rfl) ?_
      refine lv_bipush (v := 8) hx hb (dks dF_16 DX12_priceOf (i := 5) rfl rfl rfl) (by decide) ?_
      refine lv_icmp_ge (tgt := 83) hx hb (dkS dF_162 DX12_priceOf (i := 6) rfl rfl rfl) (by decide) (fun c2 => ?_) (fun c2 => ?_)
      · simp (disch := omega) only [ta_lt, ta_le, ta_eq, tnI, tl32 8 (by decide)] at c2
        refine lv_iload_n hx hb (dkP dF_28 DX12_priceOf (i := 52) rfl rfl) rfl (lv_at hl 1 rfl) ?_
        exact z_iret C0 hr hlk hw (⟨rfl, rfl⟩) (dkP dF_172 DX12_priceOf (i := 53) rfl rfl)
      · simp (disch := omega) only [ta_lt, ta_le, ta_eq, tnI, tl32 8 (by decide)] at c2
        refine lv_iconst (v := 0) hx hb (dkP dF_3 DX12_priceOf (i := 7) rfl rfl) (by decide) ?_
        refine lv_istore (lv' := [(4, .int 0), (3, .int (nI ia)), (2, .int 0), (0, .ref (ad 0)), (1, .int ov)]) hx hb (dk1 dF_54 DX12_priceOf (i := 8) rfl rfl rfl) hl (by decide) rfl (fun ls hl => ?_)
        have lp3 : ∀ (n : Nat) (ib : Nat) (H : Heap) (locs : List Loc) (ls : Array Slot), 8 - ib < n → (ib ≤ 8) → St G kc A s.heap shM ad σ H locs → lv_has ls 5 [(4, .int (nI ib)), (3, .int (nI ia)), (2, .int 0), (0, .ref (ad 0)), (1, .int ov)] → W pr l e { frames := 0, cells := 0, slots := 0, locals := 0 } s m ([.ref (ad 0), .int ov] : List Value).toArray below meth c H locs 0 0 (MQ below (va_Qi (fun r σ1 => r = 0 ∧ σ1 = σ) (PoC G kc shM ad A) A) ([.ref (ad 0), .int ov] : List Value).toArray s 0 0 A) (F0 m 13 ls []) := by
          intro n
          induction n with
          | zero => intro ib H locs ls hmu; exact absurd hmu (Nat.not_lt_zero _)
          | succ n ih3 =>
            intro ib H locs ls hmu hib hw hl
            refine lv_iload hx hb (dk1 dF_21 DX12_priceOf (i := 9) rfl rfl rfl) (lv_at hl 0 rfl) ?_
            refine lv_bipush (v := 8) hx hb (dks dF_16 DX12_priceOf (i := 10) rfl rfl rfl) (by decide) ?_
            refine lv_icmp_ge (tgt := 77) hx hb (dkS dF_162 DX12_priceOf (i := 11) rfl rfl rfl) (by decide) (fun c4 => ?_) (fun c4 => ?_)
            · simp (disch := omega) only [ta_lt, ta_le, ta_eq, tnI, tl32 8 (by decide)] at c4
              refine lv_iinc (v := nI (ia + 1)) (lv' := [(3, .int (nI (ia + 1))), (4, .int (nI ib)), (2, .int 0), (0, .ref (ad 0)), (1, .int ov)]) hx hb (dkI DX12_priceOf (i := 50) rfl rfl rfl rfl) hl (k := 1) rfl (nI_1 _) (by decide) rfl (fun ls hl => ?_)
              refine lv_goto (tgt := 4) hx hb (dkS dF_167 DX12_priceOf (i := 51) rfl rfl rfl) (by decide) ?_
              exact ih1 (ia + 1) _ _ _ (by omega) (by omega) hw (lv_sub hl [0, 2, 3, 4] rfl)
            · simp (disch := omega) only [ta_lt, ta_le, ta_eq, tnI, tl32 8 (by decide)] at c4
              refine lv_aload_n hx hb (dkP dF_42 DX12_priceOf (i := 12) rfl rfl) rfl (lv_at hl 3 rfl) ?_
              refine z_gr C0 hw 0 1 1 rfl fl_X12_20 (dk2 dF_180 DX12_priceOf (i := 13) rfl rfl rfl) ?_
              refine lv_ldc hx hb hown (hts _ kn_X12_143) (dk1 dF_18 DX12_priceOf (i := 14) rfl rfl rfl) ?_
              refine lv_bipush (v := 8) hx hb (dks dF_16 DX12_priceOf (i := 15) rfl rfl rfl) (by decide) ?_
              refine lv_iload_n hx hb (dkP dF_29 DX12_priceOf (i := 16) rfl rfl) rfl (lv_at hl 1 rfl) ?_
              refine lv_imul hx hb (dkP dF_104 DX12_priceOf (i := 17) rfl rfl) ?_
              refine z_top (y := nI (8 * ia)) (by simp only [fa_lit, nI_add, pk_mul]) ?_
              refine lv_iadd hx hb (dkP dF_96 DX12_priceOf (i := 18) rfl rfl) ?_
              refine z_top (y := nI (413480 + (8 * ia))) (by simp only [fa_lit, nI_add, pk_mul]) ?_
              refine lv_iload hx hb (dk1 dF_21 DX12_priceOf (i := 19) rfl rfl rfl) (lv_at hl 0 rfl) ?_
              refine lv_iadd hx hb (dkP dF_96 DX12_priceOf (i := 20) rfl rfl) ?_
              refine z_top (y := nI ((413480 + (8 * ia)) + ib)) (by simp only [fa_lit, nI_add, pk_mul]) ?_
              refine z_ialdN (n := 414128) C0 hw 1 ((413480 + (8 * ia)) + ib) rfl (by omega) (by decide) (dkP dF_46 DX12_priceOf (i := 21) rfl rfl) ?_
              refine z_top (y := (-1)) ((hW _).trans (w0_c _ (by omega) (by omega))) ?_
              refine lv_iconst (v := (-1)) hx hb (dkP dF_2 DX12_priceOf (i := 22) rfl rfl) (by decide) ?_
              refine lv_icmp_eq (tgt := 71) hx hb (dkS dF_159 DX12_priceOf (i := 23) rfl rfl rfl) (by decide) (fun _ => ?_) (fun h => absurd h (by decide))
              refine lv_iinc (v := nI (ib + 1)) (lv' := [(4, .int (nI (ib + 1))), (3, .int (nI ia)), (2, .int 0), (0, .ref (ad 0)), (1, .int ov)]) hx hb (dkI DX12_priceOf (i := 48) rfl rfl rfl rfl) hl (k := 0) rfl (nI_1 _) (by decide) rfl (fun ls hl => ?_)
              refine lv_goto (tgt := 13) hx hb (dkS dF_167 DX12_priceOf (i := 49) rfl rfl rfl) (by decide) ?_
              exact ih3 (ib + 1) _ _ _ (by omega) (by omega) hw (lv_sub hl [0, 1, 2, 3, 4] rfl)
        exact lp3 _ 0 _ _ _ (Nat.lt_succ_self _) (by omega) hw (lv_sub hl [0, 1, 2, 3, 4] rfl)
  exact lp1 _ 0 _ _ _ (Nat.lt_succ_self _) (by omega) hw (lv_sub hl [0, 1, 2, 3] rfl)
set_option maxRecDepth 100000 in
set_option maxHeartbeats 4000000 in
theorem c_X12_mayBeNext_g (l : Launch) (G : va_G) (kc : Nat → ClassId) (ad : Nat → Nat) (σ : Sg)  (p : Nat) (z : Nat) (hp2 : p < 8) (hz2 : z < 256) (hW : WZ σ) : MI l G kc yX12_mayBeNext cX12_mayBeNext 4 (some .boolean) 1 22 [.ref (ad 0), .int (nI p), .int (nI z)] shM ad σ (fun r σ1 => ((r = 1 ∧ (z.testBit p = false)) ∨ (r = 0 ∧ ¬ (z.testBit p = false))) ∧ σ1 = σ) := by
  intro sz
  refine z_body (y := yX12_mayBeNext) (n := 4) (av := [.ref (ad 0), .int (nI p), .int (nI z)]) (Qc := fun A => va_Qi (fun r σ1 => ((r = 1 ∧ (z.testBit p = false)) ∨ (r = 0 ∧ ¬ (z.testBit p = false))) ∧ σ1 = σ) (PoC G kc shM ad A) A) (plainFor_of_name (by decide)) (Nat.le_of_ble_eq_true rfl) (fun pr e s m below meth c A C0 hr hlk hnm hw ls hl => ?_) sz
  have hx := C0.1
  have hb := C0.2.1
  have hown := C0.2.2.2.1
  have hts := C0.2.2.2.2.1
  have hl : lv_has ls 4 [(0, .ref (ad 0)), (1, .int (nI p)), (2, .int (nI z))] := hl
  refine lv_iconst (v := 0) hx hb (dkP dF_3 DX12_mayBeNext (i := 0) rfl rfl) (by decide) ?_
  refine lv_istore_n (lv' := [(3, .int 0), (0, .ref (ad 0)), (1, .int (nI p)), (2, .int (nI z))]) hx hb (dkP dF_62 DX12_mayBeNext (i := 1) rfl rfl) rfl hl (by decide) rfl (fun ls hl => ?_)
  have lp1 : ∀ (n : Nat) (ia : Nat) (H : Heap) (locs : List Loc) (ls : Array Slot), 8 - ia < n → (ia ≤ 8) → St G kc A s.heap shM ad σ H locs → lv_has ls 4 [(3, .int (nI ia)), (0, .ref (ad 0)), (1, .int (nI p)), (2, .int (nI z))] → W pr l e { frames := 1, cells := 0, slots := 0, locals := 22 } s m ([.ref (ad 0), .int (nI p), .int (nI z)] : List Value).toArray below meth c H locs 0 0 (MQ below (va_Qi (fun r σ1 => ((r = 1 ∧ (z.testBit p = false)) ∨ (r = 0 ∧ ¬ (z.testBit p = false))) ∧ σ1 = σ) (PoC G kc shM ad A) A) ([.ref (ad 0), .int (nI p), .int (nI z)] : List Value).toArray s 0 0 A) (F0 m 2 ls []) := by
    intro n
    induction n with
    | zero => intro ia H locs ls hmu; exact absurd hmu (Nat.not_lt_zero _)
    | succ n ih1 =>
      intro ia H locs ls hmu hia hw hl
      refine lv_iload_n hx hb (dkP dF_29 DX12_mayBeNext (i := 2) rfl rfl) rfl (lv_at hl 0 rfl) ?_
      refine lv_bipush (v := 8) hx hb (dks dF_16 DX12_mayBeNext (i := 3) rfl rfl rfl) (by decide) ?_
      refine lv_icmp_ge (tgt := 33) hx hb (dkS dF_162 DX12_mayBeNext (i := 4) rfl rfl rfl) (by decide) (fun c2 => ?_) (fun c2 => ?_)
      · simp (disch := omega) only [ta_lt, ta_le, ta_eq, tnI, tl32 8 (by decide)] at c2
        refine lv_iload_n hx hb (dkP dF_28 DX12_mayBeNext (i := 20) rfl rfl) rfl (lv_at hl 3 rfl) ?_
        refine lv_iload_n hx hb (dkP dF_27 DX12_mayBeNext (i := 21) rfl rfl) rfl (lv_at hl 2 rfl) ?_
        refine lv_ishr hx hb (dkP dF_122 DX12_mayBeNext (i := 22) rfl rfl) ?_
        refine lv_iconst (v := 1) hx hb (dkP dF_4 DX12_mayBeNext (i := 23) rfl rfl) (by decide) ?_
        refine lv_iand hx hb (dkP dF_126 DX12_mayBeNext (i := 24) rfl rfl) ?_
        refine lv_if_ne (tgt := 45) hx hb (dkS dF_154 DX12_mayBeNext (i := 25) rfl rfl rfl) (by decide) (fun c3 => ?_) (fun c3 => ?_)
        · skip
          refine lv_iconst (v := 0) hx hb (dkP dF_3 DX12_mayBeNext (i := 28) rfl rfl) (by decide) ?_
          exact z_zret C0 hr hlk (by decide) hw (⟨Or.inr ⟨rfl, fun q => c3 ((shrb z hz2 p hp2).mpr q)⟩, rfl⟩) (dkP dF_172 DX12_mayBeNext (i := 29) rfl rfl)
        · skip
          refine lv_iconst (v := 1) hx hb (dkP dF_4 DX12_mayBeNext (i := 26) rfl rfl) (by decide) ?_
          refine lv_goto (tgt := 46) hx hb (dkS dF_167 DX12_mayBeNext (i := 27) rfl rfl rfl) (by decide) ?_
          exact z_zret C0 hr hlk (by decide) hw (⟨Or.inl ⟨rfl, (shrb z hz2 p hp2).mp c3⟩, rfl⟩) (dkP dF_172 DX12_mayBeNext (i := 29) rfl rfl)
      · simp (disch := omega) only [ta_lt, ta_le, ta_eq, tnI, tl32 8 (by decide)] at c2
        refine lv_aload_n hx hb (dkP dF_42 DX12_mayBeNext (i := 5) rfl rfl) rfl (lv_at hl 1 rfl) ?_
        refine lv_iload_n hx hb (dkP dF_27 DX12_mayBeNext (i := 6) rfl rfl) rfl (lv_at hl 2 rfl) ?_
        refine lv_iload_n hx hb (dkP dF_29 DX12_mayBeNext (i := 7) rfl rfl) rfl (lv_at hl 0 rfl) ?_
        refine zk_I hw (zr_V (As := [.int (nI p), .int (nI ia)]) (rest := []) C0 (c_X12_isNeed_g l G kc ad σ p ia hp2 (by omega) hW _) cv_X12_isNeed lk_X12_455 (zp_V C0 hw 0 rfl rfl rfl) rfl hl.1 rfl ⟨by decide, by decide⟩ (Nat.le_of_ble_eq_true rfl) (dk2 dF_182 DX12_mayBeNext (i := 8) rfl rfl rfl) ⟨Nat.le_refl _, Nat.le_refl _⟩) (fun r4 s4 H locs hp hw => ?_)
        obtain ⟨hq4, hs4⟩ := hp
        (rw [hs4] at hw; clear hs4)
        rcases hq4 with ⟨rfl, hc4⟩ | ⟨rfl, hc4⟩
        · exact False.elim hc4
        · skip
          refine lv_if_eq (tgt := 27) hx hb (dkS dF_153 DX12_mayBeNext (i := 9) rfl rfl rfl) (by decide) (fun _ => ?_) (fun h => absurd h (by decide))
          refine lv_iinc (v := nI (ia + 1)) (lv' := [(3, .int (nI (ia + 1))), (0, .ref (ad 0)), (1, .int (nI p)), (2, .int (nI z))]) hx hb (dkI DX12_mayBeNext (i := 18) rfl rfl rfl rfl) hl (k := 0) rfl (nI_1 _) (by decide) rfl (fun ls hl => ?_)
          refine lv_goto (tgt := 2) hx hb (dkS dF_167 DX12_mayBeNext (i := 19) rfl rfl rfl) (by decide) ?_
          exact ih1 (ia + 1) _ _ _ (by omega) (by omega) hw (lv_sub hl [0, 1, 2, 3] rfl)
  exact lp1 _ 0 _ _ _ (Nat.lt_succ_self _) (by omega) hw (lv_sub hl [0, 1, 2, 3] rfl)
set_option maxRecDepth 100000 in
set_option maxHeartbeats 4000000 in
theorem c_X12_isOver_f (l : Launch) (G : va_G) (kc : Nat → ClassId) (ad : Nat → Nat)  (k : Nat) (hk : k < 8) : MI l G kc yX12_isOver cX12_isOver 2 (some .boolean) 2 41 [.ref (ad 0), .int (nI k)] shM ad sM0 (fun r σ1 => ((r = 1 ∧ (False)) ∨ (r = 0 ∧ ¬ (False))) ∧ σ1 = sM0) := by
  intro sz
  refine z_body (y := yX12_isOver) (n := 2) (av := [.ref (ad 0), .int (nI k)]) (Qc := fun A => va_Qi (fun r σ1 => ((r = 1 ∧ (False)) ∨ (r = 0 ∧ ¬ (False))) ∧ σ1 = sM0) (PoC G kc shM ad A) A) (plainFor_of_name (by decide)) (Nat.le_of_ble_eq_true rfl) (fun pr e s m below meth c A C0 hr hlk hnm hw ls hl => ?_) sz
  have hx := C0.1
  have hb := C0.2.1
  have hown := C0.2.2.2.1
  have hts := C0.2.2.2.2.1
  have hl : lv_has ls 2 [(0, .ref (ad 0)), (1, .int (nI k))] := hl
  refine lv_aload_n hx hb (dkP dF_42 DX12_isOver (i := 0) rfl rfl) rfl (lv_at hl 0 rfl) ?_
  refine lv_iload_n hx hb (dkP dF_27 DX12_isOver (i := 1) rfl rfl) rfl (lv_at hl 1 rfl) ?_
  refine zk_I hw (zr_V (As := [.int (nI k)]) (rest := []) C0 (c_X12_stateOf l G kc ad sM0 k (by first | omega | assumption | decide | rfl) _) cv_X12_stateOf lk_X12_275 (zp_V C0 hw 0 rfl rfl rfl) rfl hl.1 rfl ⟨by decide, by decide⟩ (Nat.le_of_ble_eq_true rfl) (dk2 dF_182 DX12_isOver (i := 2) rfl rfl rfl) ⟨Nat.le_refl _, Nat.le_refl _⟩) (fun r1 s1 H locs hp hw => ?_)
  obtain ⟨rfl, hs1⟩ := hp
  subst hs1
  refine z_top (y := 0) (w0_p k 0 (by omega) (by decide)) ?_
  refine lv_iconst (v := 2) hx hb (dkP dF_5 DX12_isOver (i := 3) rfl rfl) (by decide) ?_
  refine lv_icmp_eq (tgt := 18) hx hb (dkS dF_159 DX12_isOver (i := 4) rfl rfl rfl) (by decide) (fun h => absurd h (by decide)) (fun _ => ?_)
  refine lv_aload_n hx hb (dkP dF_42 DX12_isOver (i := 5) rfl rfl) rfl (lv_at hl 0 rfl) ?_
  refine lv_iload_n hx hb (dkP dF_27 DX12_isOver (i := 6) rfl rfl) rfl (lv_at hl 1 rfl) ?_
  refine zk_I hw (zr_V (As := [.int (nI k)]) (rest := []) C0 (c_X12_stateOf l G kc ad sM0 k (by first | omega | assumption | decide | rfl) _) cv_X12_stateOf lk_X12_275 (zp_V C0 hw 0 rfl rfl rfl) rfl hl.1 rfl ⟨by decide, by decide⟩ (Nat.le_of_ble_eq_true rfl) (dk2 dF_182 DX12_isOver (i := 7) rfl rfl rfl) ⟨Nat.le_refl _, Nat.le_refl _⟩) (fun r2 s2 H locs hp hw => ?_)
  obtain ⟨rfl, hs2⟩ := hp
  subst hs2
  refine z_top (y := 0) (w0_p k 0 (by omega) (by decide)) ?_
  refine lv_iconst (v := 4) hx hb (dkP dF_7 DX12_isOver (i := 8) rfl rfl) (by decide) ?_
  refine lv_icmp_ne (tgt := 22) hx hb (dkS dF_160 DX12_isOver (i := 9) rfl rfl rfl) (by decide) (fun _ => ?_) (fun h => absurd h (by decide))
  refine lv_iconst (v := 0) hx hb (dkP dF_3 DX12_isOver (i := 12) rfl rfl) (by decide) ?_
  exact z_zret C0 hr hlk (by decide) hw (⟨Or.inr ⟨rfl, fun z => z⟩, rfl⟩) (dkP dF_172 DX12_isOver (i := 13) rfl rfl)
set_option maxRecDepth 100000 in
set_option maxHeartbeats 4000000 in
theorem c_X12_over (l : Launch) (G : va_G) (kc : Nat → ClassId) (ad : Nat → Nat)    : MI l G kc yX12_over cX12_over 3 (some .int) 3 62 [.ref (ad 0)] shM ad sM0 (fun r σ1 => r = 0 ∧ σ1 = sM0) := by
  intro sz
  refine z_body (y := yX12_over) (n := 3) (av := [.ref (ad 0)]) (Qc := fun A => va_Qi (fun r σ1 => r = 0 ∧ σ1 = sM0) (PoC G kc shM ad A) A) (plainFor_of_name (by decide)) (Nat.le_of_ble_eq_true rfl) (fun pr e s m below meth c A C0 hr hlk hnm hw ls hl => ?_) sz
  have hx := C0.1
  have hb := C0.2.1
  have hown := C0.2.2.2.1
  have hts := C0.2.2.2.2.1
  have hl : lv_has ls 3 [(0, .ref (ad 0))] := hl
  refine lv_iconst (v := 0) hx hb (dkP dF_3 DX12_over (i := 0) rfl rfl) (by decide) ?_
  refine lv_istore_n (lv' := [(1, .int 0), (0, .ref (ad 0))]) hx hb (dkP dF_60 DX12_over (i := 1) rfl rfl) rfl hl (by decide) rfl (fun ls hl => ?_)
  refine lv_iconst (v := 0) hx hb (dkP dF_3 DX12_over (i := 2) rfl rfl) (by decide) ?_
  refine lv_istore_n (lv' := [(2, .int 0), (1, .int 0), (0, .ref (ad 0))]) hx hb (dkP dF_61 DX12_over (i := 3) rfl rfl) rfl hl (by decide) rfl (fun ls hl => ?_)
  have lp1 : ∀ (n : Nat) (ia : Nat) (H : Heap) (locs : List Loc) (ls : Array Slot), 8 - ia < n → (ia ≤ 8) → St G kc A s.heap shM ad sM0 H locs → lv_has ls 3 [(2, .int (nI ia)), (1, .int 0), (0, .ref (ad 0))] → W pr l e { frames := 3, cells := 0, slots := 0, locals := 62 } s m ([.ref (ad 0)] : List Value).toArray below meth c H locs 0 0 (MQ below (va_Qi (fun r σ1 => r = 0 ∧ σ1 = sM0) (PoC G kc shM ad A) A) ([.ref (ad 0)] : List Value).toArray s 0 0 A) (F0 m 4 ls []) := by
    intro n
    induction n with
    | zero => intro ia H locs ls hmu; exact absurd hmu (Nat.not_lt_zero _)
    | succ n ih1 =>
      intro ia H locs ls hmu hia hw hl
      refine lv_iload_n hx hb (dkP dF_28 DX12_over (i := 4) rfl rfl) rfl (lv_at hl 0 rfl) ?_
      refine lv_bipush (v := 8) hx hb (dks dF_16 DX12_over (i := 5) rfl rfl rfl) (by decide) ?_
      refine lv_icmp_ge (tgt := 34) hx hb (dkS dF_162 DX12_over (i := 6) rfl rfl rfl) (by decide) (fun c2 => ?_) (fun c2 => ?_)
      · simp (disch := omega) only [ta_lt, ta_le, ta_eq, tnI, tl32 8 (by decide)] at c2
        refine lv_iload_n hx hb (dkP dF_27 DX12_over (i := 21) rfl rfl) rfl (lv_at hl 1 rfl) ?_
        exact z_iret C0 hr hlk hw (⟨rfl, rfl⟩) (dkP dF_172 DX12_over (i := 22) rfl rfl)
      · simp (disch := omega) only [ta_lt, ta_le, ta_eq, tnI, tl32 8 (by decide)] at c2
        refine lv_iload_n hx hb (dkP dF_27 DX12_over (i := 7) rfl rfl) rfl (lv_at hl 1 rfl) ?_
        refine lv_aload_n hx hb (dkP dF_42 DX12_over (i := 8) rfl rfl) rfl (lv_at hl 2 rfl) ?_
        refine lv_iload_n hx hb (dkP dF_28 DX12_over (i := 9) rfl rfl) rfl (lv_at hl 0 rfl) ?_
        refine zk_I hw (zr_V (As := [.int (nI ia)]) (rest := [.int 0]) C0 (c_X12_isOver_f l G kc ad ia (by first | omega | assumption | decide | rfl) _) cv_X12_isOver lk_X12_461 (zp_V C0 hw 0 rfl rfl rfl) rfl hl.1 rfl ⟨by decide, by decide⟩ (Nat.le_of_ble_eq_true rfl) (dk2 dF_182 DX12_over (i := 10) rfl rfl rfl) ⟨Nat.le_refl _, Nat.le_refl _⟩) (fun r3 s3 H locs hp hw => ?_)
        obtain ⟨hq3, hs3⟩ := hp
        subst hs3
        rcases hq3 with ⟨rfl, hc3⟩ | ⟨rfl, hc3⟩
        · exact False.elim hc3
        · skip
          refine lv_if_eq (tgt := 25) hx hb (dkS dF_153 DX12_over (i := 11) rfl rfl rfl) (by decide) (fun _ => ?_) (fun h => absurd h (by decide))
          refine lv_iconst (v := 0) hx hb (dkP dF_3 DX12_over (i := 16) rfl rfl) (by decide) ?_
          refine lv_ior hx hb (dkP dF_128 DX12_over (i := 17) rfl rfl) ?_
          refine z_top (y := 0) (by decide) ?_
          refine lv_istore_n (lv' := [(1, .int 0), (2, .int (nI ia)), (0, .ref (ad 0))]) hx hb (dkP dF_60 DX12_over (i := 18) rfl rfl) rfl hl (by decide) rfl (fun ls hl => ?_)
          refine lv_iinc (v := nI (ia + 1)) (lv' := [(2, .int (nI (ia + 1))), (1, .int 0), (0, .ref (ad 0))]) hx hb (dkI DX12_over (i := 19) rfl rfl rfl rfl) hl (k := 1) rfl (nI_1 _) (by decide) rfl (fun ls hl => ?_)
          refine lv_goto (tgt := 4) hx hb (dkS dF_167 DX12_over (i := 20) rfl rfl rfl) (by decide) ?_
          exact ih1 (ia + 1) _ _ _ (by omega) (by omega) hw (lv_sub hl [0, 1, 2] rfl)
  exact lp1 _ 0 _ _ _ (Nat.lt_succ_self _) (by omega) hw (lv_sub hl [0, 1, 2] rfl)
set_option maxRecDepth 100000 in
set_option maxHeartbeats 4000000 in
theorem c_X12_plan (l : Launch) (G : va_G) (kc : Nat → ClassId) (ad : Nat → Nat)  (bt : Int32)  : MI l G kc yX12_plan cX12_plan 8 (some .int) 4 84 [.ref (ad 0), .int bt] shM ad sM0 (fun r σ1 => r = if 0 ≤ bt.toInt ∧ bt.toInt ≤ 255 then 0 else -2) := by
  intro sz
  refine z_body (y := yX12_plan) (n := 8) (av := [.ref (ad 0), .int bt]) (Qc := fun A => va_Qi (fun r σ1 => r = if 0 ≤ bt.toInt ∧ bt.toInt ≤ 255 then 0 else -2) (PoC G kc shM ad A) A) (plainFor_of_name (by decide)) (Nat.le_of_ble_eq_true rfl) (fun pr e s m below meth c A C0 hr hlk hnm hw ls hl => ?_) sz
  have hx := C0.1
  have hb := C0.2.1
  have hown := C0.2.2.2.1
  have hts := C0.2.2.2.2.1
  have hl : lv_has ls 8 [(0, .ref (ad 0)), (1, .int bt)] := hl
  refine lv_iload_n hx hb (dkP dF_27 DX12_plan (i := 0) rfl rfl) rfl (lv_at hl 1 rfl) ?_
  refine lv_i2l hx hb (dkP dF_133 DX12_plan (i := 1) rfl rfl) rfl ?_
  refine lv_lconst (v := 0) hx hb (dkP dF_9 DX12_plan (i := 2) rfl rfl) (by decide) ?_
  refine lv_ldc2 hx hb hown (hts _ kn_X12_464) (dk2 dF_20 DX12_plan (i := 3) rfl rfl rfl) ?_
  refine zn_I hw (zr_S (As := [.long bt.toInt64, .long 0, .long 255]) (rest := []) C0 (c_X12_in l G kc bt.toInt64 0 255  _) cs_X12_in lk_X12_9 (zp_P C0 a00 s00) rfl hl.1 rfl ⟨by decide, by decide⟩ (Nat.le_of_ble_eq_true rfl) (dk2 dF_184 DX12_plan (i := 4) rfl rfl rfl) ⟨Nat.le_refl _, Nat.le_refl _⟩) (fun r1 s1 H locs hp hw => ?_)
  rcases hp with ⟨rfl, hc1⟩ | ⟨rfl, hc1⟩
  · skip
    obtain ⟨k_bt, hk_bt, rfl⟩ := to_nat (x := bt) (n := 256) (by (try simp only [lg_cmp_lt, lg_cmp_le, lg_cmp_gt, lg_cmp_ge, lg_cmp_eq] at hc1); (try simp (disch := omega) only [ta_lt, ta_le, ta_eq, tb_lt, tb_le, tb_eq, tw, tnI, tn32 1 (by decide), tnj 1 (by decide), tl32 0 (by decide), tl64 0 (by decide), tl32 255 (by decide), tl64 255 (by decide)] at hc1); (try simp (disch := omega) only [ta_lt, ta_le, ta_eq, tb_lt, tb_le, tb_eq, tw, tnI, tn32 1 (by decide), tnj 1 (by decide), tl32 0 (by decide), tl64 0 (by decide), tl32 255 (by decide), tl64 255 (by decide)]); omega)
    refine lv_if_ne (tgt := 15) hx hb (dkS dF_154 DX12_plan (i := 5) rfl rfl rfl) (by decide) (fun _ => ?_) (fun h => absurd h (by decide))
    refine lv_aload_n hx hb (dkP dF_42 DX12_plan (i := 8) rfl rfl) rfl (lv_at hl 0 rfl) ?_
    refine zk_I hw (zr_V (As := []) (rest := []) C0 (c_X12_over l G kc ad  _) cv_X12_over lk_X12_466 (zp_V C0 hw 0 rfl rfl rfl) rfl hl.1 rfl ⟨by decide, by decide⟩ (Nat.le_of_ble_eq_true rfl) (dk2 dF_182 DX12_plan (i := 9) rfl rfl rfl) ⟨Nat.le_refl _, Nat.le_refl _⟩) (fun r2 s2 H locs hp hw => ?_)
    obtain ⟨rfl, hs2⟩ := hp
    subst hs2
    refine lv_istore_n (lv' := [(2, .int 0), (0, .ref (ad 0)), (1, .int (nI k_bt))]) hx hb (dkP dF_61 DX12_plan (i := 10) rfl rfl) rfl hl (by decide) rfl (fun ls hl => ?_)
    refine lv_iload_n hx hb (dkP dF_28 DX12_plan (i := 11) rfl rfl) rfl (lv_at hl 0 rfl) ?_
    refine lv_iload_n hx hb (dkP dF_27 DX12_plan (i := 12) rfl rfl) rfl (lv_at hl 2 rfl) ?_
    refine lv_ior hx hb (dkP dF_128 DX12_plan (i := 13) rfl rfl) ?_
    have hp8 := pc8_le k_bt
    refine z_top (y := nI k_bt) (or0 _) ?_
    refine lv_istore_n (lv' := [(3, .int (nI k_bt)), (2, .int 0), (0, .ref (ad 0)), (1, .int (nI k_bt))]) hx hb (dkP dF_62 DX12_plan (i := 14) rfl rfl) rfl hl (by decide) rfl (fun ls hl => ?_)
    refine lv_iconst (v := 0) hx hb (dkP dF_3 DX12_plan (i := 15) rfl rfl) (by decide) ?_
    refine lv_istore (lv' := [(4, .int 0), (3, .int (nI k_bt)), (2, .int 0), (0, .ref (ad 0)), (1, .int (nI k_bt))]) hx hb (dk1 dF_54 DX12_plan (i := 16) rfl rfl rfl) hl (by decide) rfl (fun ls hl => ?_)
    have lp3 : ∀ (n : Nat) (ia : Nat) (H : Heap) (locs : List Loc) (ls : Array Slot), 8 - ia < n → (ia ≤ 8) → St G kc A s.heap shM ad sM0 H locs → lv_has ls 8 [(4, .int (nI ia)), (3, .int (nI k_bt)), (2, .int 0), (0, .ref (ad 0)), (1, .int (nI k_bt))] → W pr l e { frames := 4, cells := 0, slots := 0, locals := 84 } s m ([.ref (ad 0), .int (nI k_bt)] : List Value).toArray below meth c H locs 0 0 (MQ below (va_Qi (fun r σ1 => r = if 0 ≤ (nI k_bt).toInt ∧ (nI k_bt).toInt ≤ 255 then 0 else -2) (PoC G kc shM ad A) A) ([.ref (ad 0), .int (nI k_bt)] : List Value).toArray s 0 0 A) (F0 m 27 ls []) := by
      intro n
      induction n with
      | zero => intro ia H locs ls hmu; exact absurd hmu (Nat.not_lt_zero _)
      | succ n ih3 =>
        intro ia H locs ls hmu hia hw hl
        refine lv_iload hx hb (dk1 dF_21 DX12_plan (i := 17) rfl rfl rfl) (lv_at hl 0 rfl) ?_
        refine lv_bipush (v := 8) hx hb (dks dF_16 DX12_plan (i := 18) rfl rfl rfl) (by decide) ?_
        refine lv_icmp_ge (tgt := 91) hx hb (dkS dF_162 DX12_plan (i := 19) rfl rfl rfl) (by decide) (fun c4 => ?_) (fun c4 => ?_)
        · simp (disch := omega) only [ta_lt, ta_le, ta_eq, tnI, tl32 8 (by decide)] at c4
          refine lv_sipush (v := 255) hx hb (dkS dF_17 DX12_plan (i := 52) rfl rfl rfl) (by decide) ?_
          refine lv_istore (lv' := [(4, .int 255), (3, .int (nI k_bt)), (2, .int 0), (0, .ref (ad 0)), (1, .int (nI k_bt))]) hx hb (dk1 dF_54 DX12_plan (i := 53) rfl rfl rfl) hl (by decide) rfl (fun ls hl => ?_)
          have lp5 : ∀ (n : Nat) (n0 : Nat) (τ : Sg) (H : Heap) (locs : List Loc) (ls : Array Slot), n0 < n → (n0 ≤ 256) → (WZ τ) → (∀ t, n0 ≤ t → t < 256 → τ.1 31 t = LV k_bt t) → St G kc A s.heap shM ad τ H locs → lv_has ls 8 [(4, .int (nI n0 + (-1))), (3, .int (nI k_bt)), (2, .int 0), (0, .ref (ad 0)), (1, .int (nI k_bt))] → W pr l e { frames := 4, cells := 0, slots := 0, locals := 84 } s m ([.ref (ad 0), .int (nI k_bt)] : List Value).toArray below meth c H locs 0 0 (MQ below (va_Qi (fun r σ1 => r = if 0 ≤ (nI k_bt).toInt ∧ (nI k_bt).toInt ≤ 255 then 0 else -2) (PoC G kc shM ad A) A) ([.ref (ad 0), .int (nI k_bt)] : List Value).toArray s 0 0 A) (F0 m 96 ls []) := by
            intro n
            induction n with
            | zero => intro n0 τ H locs ls hmu; exact absurd hmu (Nat.not_lt_zero _)
            | succ n ih5 =>
              intro n0 τ H locs ls hmu hn hτ hL hw hl
              refine lv_iload hx hb (dk1 dF_21 DX12_plan (i := 54) rfl rfl rfl) (lv_at hl 0 rfl) ?_
              refine lv_if_lt (tgt := 253) hx hb (dkS dF_155 DX12_plan (i := 55) rfl rfl rfl) (by decide) (fun c6 => ?_) (fun c6 => ?_)
              · skip
                have e0 : n0 = 0 := by
                  cases n0 with
                  | zero => rfl
                  | succ d => exact absurd c6 (by rw [pk_m1]; exact nI_pos (by omega))
                refine lv_aload_n hx hb (dkP dF_42 DX12_plan (i := 138) rfl rfl) rfl (lv_at hl 3 rfl) ?_
                refine lv_iconst (v := 0) hx hb (dkP dF_3 DX12_plan (i := 139) rfl rfl) (by decide) ?_
                refine z_pi C0 hw 0 49 rfl fp_X12_475 (dk2 dF_181 DX12_plan (i := 140) rfl rfl rfl) (fun H locs hw => ?_)
                refine lv_iload_n hx hb (dkP dF_28 DX12_plan (i := 141) rfl rfl) rfl (lv_at hl 2 rfl) ?_
                refine lv_istore (lv' := [(4, .int 0), (3, .int (nI k_bt)), (2, .int 0), (0, .ref (ad 0)), (1, .int (nI k_bt))]) hx hb (dk1 dF_54 DX12_plan (i := 142) rfl rfl rfl) hl (by decide) rfl (fun ls hl => ?_)
                have lp7 : ∀ (n : Nat) (z : Nat) (k : Nat) (ρ : Sg) (H : Heap) (locs : List Loc) (ls : Array Slot), 9 - k < n → (z < 256) → (z &&& (255 ^^^ k_bt) = 0) → (pc8 (k_bt &&& (255 ^^^ z)) + k = pc8 k_bt) → (ρ.1 0 49 = nI k) → (WZ ρ) → (∀ t, t < 256 → ρ.1 31 t = LV k_bt t) → St G kc A s.heap shM ad ρ H locs → lv_has ls 8 [(4, .int (nI z)), (3, .int (nI k_bt)), (2, .int 0), (0, .ref (ad 0)), (1, .int (nI k_bt))] → W pr l e { frames := 4, cells := 0, slots := 0, locals := 84 } s m ([.ref (ad 0), .int (nI k_bt)] : List Value).toArray below meth c H locs 0 0 (MQ below (va_Qi (fun r σ1 => r = if 0 ≤ (nI k_bt).toInt ∧ (nI k_bt).toInt ≤ 255 then 0 else -2) (PoC G kc shM ad A) A) ([.ref (ad 0), .int (nI k_bt)] : List Value).toArray s 0 0 A) (F0 m 261 ls []) := by
                  intro n
                  induction n with
                  | zero => intro z k ρ H locs ls hmu; exact absurd hmu (Nat.not_lt_zero _)
                  | succ n ih7 =>
                    intro z k ρ H locs ls hmu hz2 hsb hk hM hρ hL hw hl
                    refine lv_iload hx hb (dk1 dF_21 DX12_plan (i := 143) rfl rfl rfl) (lv_at hl 0 rfl) ?_
                    refine lv_iload_n hx hb (dkP dF_29 DX12_plan (i := 144) rfl rfl) rfl (lv_at hl 1 rfl) ?_
                    refine lv_icmp_eq (tgt := 379) hx hb (dkS dF_159 DX12_plan (i := 145) rfl rfl rfl) (by decide) (fun c8 => ?_) (fun c8 => ?_)
                    · simp (disch := omega) only [ta_lt, ta_le, ta_eq, tnI] at c8
                      have h9 : ρ.1 31 0 = 0 := (hL 0 (by decide)).trans (LV0 (Nat.zero_and _))
                      refine lv_aload_n hx hb (dkP dF_42 DX12_plan (i := 211) rfl rfl) rfl (lv_at hl 3 rfl) ?_
                      refine z_gr C0 hw 0 47 31 rfl fl_X12_120 (dk2 dF_180 DX12_plan (i := 212) rfl rfl rfl) ?_
                      refine lv_iload_n hx hb (dkP dF_28 DX12_plan (i := 213) rfl rfl) rfl (lv_at hl 2 rfl) ?_
                      refine z_ialdN (n := 256) C0 hw 31 0 rfl (by omega) (by decide) (dkP dF_46 DX12_plan (i := 214) rfl rfl) ?_
                      refine z_top (y := 0) h9 ?_
                      exact z_iret C0 hr hlk hw (by first | rfl | ((try simp only [lg_cmp_lt, lg_cmp_le, lg_cmp_gt, lg_cmp_ge, lg_cmp_eq] at hc1); (try simp (disch := omega) only [ta_lt, ta_le, ta_eq, tb_lt, tb_le, tb_eq, tw, tnI, tn32 1 (by decide), tnj 1 (by decide), tl32 0 (by decide), tl64 0 (by decide), tl32 8 (by decide), tl64 8 (by decide), tl32 255 (by decide), tl64 255 (by decide)] at hc1); (try simp only [lg_cmp_lt, lg_cmp_le, lg_cmp_gt, lg_cmp_ge, lg_cmp_eq] at hk_bt); (try simp (disch := omega) only [ta_lt, ta_le, ta_eq, tb_lt, tb_le, tb_eq, tw, tnI, tn32 1 (by decide), tnj 1 (by decide), tl32 0 (by decide), tl64 0 (by decide), tl32 8 (by decide), tl64 8 (by decide), tl32 255 (by decide), tl64 255 (by decide)] at hk_bt); (try simp only [lg_cmp_lt, lg_cmp_le, lg_cmp_gt, lg_cmp_ge, lg_cmp_eq] at c4); (try simp (disch := omega) only [ta_lt, ta_le, ta_eq, tb_lt, tb_le, tb_eq, tw, tnI, tn32 1 (by decide), tnj 1 (by decide), tl32 0 (by decide), tl64 0 (by decide), tl32 8 (by decide), tl64 8 (by decide), tl32 255 (by decide), tl64 255 (by decide)] at c4); (try simp only [lg_cmp_lt, lg_cmp_le, lg_cmp_gt, lg_cmp_ge, lg_cmp_eq] at c6); (try simp (disch := omega) only [ta_lt, ta_le, ta_eq, tb_lt, tb_le, tb_eq, tw, tnI, tn32 1 (by decide), tnj 1 (by decide), tl32 0 (by decide), tl64 0 (by decide), tl32 8 (by decide), tl64 8 (by decide), tl32 255 (by decide), tl64 255 (by decide)] at c6); (try simp only [lg_cmp_lt, lg_cmp_le, lg_cmp_gt, lg_cmp_ge, lg_cmp_eq] at c8); (try simp (disch := omega) only [ta_lt, ta_le, ta_eq, tb_lt, tb_le, tb_eq, tw, tnI, tn32 1 (by decide), tnj 1 (by decide), tl32 0 (by decide), tl64 0 (by decide), tl32 8 (by decide), tl64 8 (by decide), tl32 255 (by decide), tl64 255 (by decide)] at c8); (try simp (disch := omega) only [tnI, tn32 1 (by decide), tnj 1 (by decide), tl32 0 (by decide), tl64 0 (by decide), tl32 8 (by decide), tl64 8 (by decide), tl32 255 (by decide), tl64 255 (by decide)]); (repeat' split) <;> first | rfl | omega | (apply Int32.toInt_inj.mp; simp (disch := omega) only [tnI, tn32 1 (by decide), tnj 1 (by decide), tl32 0 (by decide), tl64 0 (by decide), tl32 8 (by decide), tl64 8 (by decide), tl32 255 (by decide), tl64 255 (by decide)]; omega))) (dkP dF_172 DX12_plan (i := 215) rfl rfl)
                    · simp (disch := omega) only [ta_lt, ta_le, ta_eq, tnI] at c8
                      have hex0 := sub_ne hz2 (show k_bt < 256 by omega) hsb (by omega)
                      refine lv_iconst (v := 0) hx hb (dkP dF_3 DX12_plan (i := 146) rfl rfl) (by decide) ?_
                      refine lv_istore (lv' := [(5, .int 0), (4, .int (nI z)), (3, .int (nI k_bt)), (2, .int 0), (0, .ref (ad 0)), (1, .int (nI k_bt))]) hx hb (dk1 dF_54 DX12_plan (i := 147) rfl rfl rfl) hl (by decide) rfl (fun ls hl => ?_)
                      have lp9 : ∀ (n : Nat) (p : Nat) (H : Heap) (locs : List Loc) (ls : Array Slot), 8 - p < n → (∃ b, p ≤ b ∧ b < 8 ∧ k_bt.testBit b = true ∧ z.testBit b = false) → St G kc A s.heap shM ad ρ H locs → lv_has ls 8 [(5, .int (nI p)), (4, .int (nI z)), (3, .int (nI k_bt)), (2, .int 0), (0, .ref (ad 0)), (1, .int (nI k_bt))] → W pr l e { frames := 4, cells := 0, slots := 0, locals := 84 } s m ([.ref (ad 0), .int (nI k_bt)] : List Value).toArray below meth c H locs 0 0 (MQ below (va_Qi (fun r σ1 => r = if 0 ≤ (nI k_bt).toInt ∧ (nI k_bt).toInt ≤ 255 then 0 else -2) (PoC G kc shM ad A) A) ([.ref (ad 0), .int (nI k_bt)] : List Value).toArray s 0 0 A) (F0 m 270 ls []) := by
                        intro n
                        induction n with
                        | zero => intro p H locs ls hmu; exact absurd hmu (Nat.not_lt_zero _)
                        | succ n ih9 =>
                          intro p H locs ls hmu hex hw hl
                          refine lv_iload_n hx hb (dkP dF_29 DX12_plan (i := 148) rfl rfl) rfl (lv_at hl 2 rfl) ?_
                          refine lv_iload hx hb (dk1 dF_21 DX12_plan (i := 149) rfl rfl rfl) (lv_at hl 0 rfl) ?_
                          refine lv_ishr hx hb (dkP dF_122 DX12_plan (i := 150) rfl rfl) ?_
                          refine lv_iconst (v := 1) hx hb (dkP dF_4 DX12_plan (i := 151) rfl rfl) (by decide) ?_
                          refine lv_iand hx hb (dkP dF_126 DX12_plan (i := 152) rfl rfl) ?_
                          refine lv_if_eq (tgt := 340) hx hb (dkS dF_153 DX12_plan (i := 153) rfl rfl rfl) (by decide) (fun c10 => ?_) (fun c10 => ?_)
                          · skip
                            refine lv_iinc (v := nI (p + 1)) (lv' := [(5, .int (nI (p + 1))), (4, .int (nI z)), (3, .int (nI k_bt)), (2, .int 0), (0, .ref (ad 0)), (1, .int (nI k_bt))]) hx hb (dkI DX12_plan (i := 190) rfl rfl rfl rfl) hl (k := 0) rfl (nI_1 _) (by decide) rfl (fun ls hl => ?_)
                            refine lv_goto (tgt := 270) hx hb (dkS dF_167 DX12_plan (i := 191) rfl rfl rfl) (by decide) ?_
                            exact ih9 (p + 1) _ _ _ (by omega) (by obtain ⟨b, b1, b3, b2, b4⟩ := hex; refine ⟨b, ?_, b3, b2, b4⟩; rcases Nat.lt_or_ge p b with q | q; (· omega); (· exfalso; have e : b = p := (by omega); subst e; exact absurd b2 (by rw [(shrb k_bt (by omega) b (by omega)).mp c10]; decide))) hw (lv_sub hl [0, 1, 2, 3, 4, 5] rfl)
                          · skip
                            refine lv_aload_n hx hb (dkP dF_42 DX12_plan (i := 154) rfl rfl) rfl (lv_at hl 4 rfl) ?_
                            refine lv_iload hx hb (dk1 dF_21 DX12_plan (i := 155) rfl rfl rfl) (lv_at hl 0 rfl) ?_
                            refine lv_iload hx hb (dk1 dF_21 DX12_plan (i := 156) rfl rfl rfl) (lv_at hl 1 rfl) ?_
                            refine zk_I hw (zr_V (As := [.int (nI p), .int (nI z)]) (rest := []) C0 (c_X12_mayBeNext_g l G kc ad ρ p z (by omega) hz2 hρ _) cv_X12_mayBeNext lk_X12_469 (zp_V C0 hw 0 rfl rfl rfl) rfl hl.1 rfl ⟨by decide, by decide⟩ (Nat.le_of_ble_eq_true rfl) (dk2 dF_182 DX12_plan (i := 157) rfl rfl rfl) ⟨Nat.le_refl _, Nat.le_refl _⟩) (fun r11 s11 H locs hp hw => ?_)
                            obtain ⟨hq11, hs11⟩ := hp
                            (rw [hs11] at hw; clear hs11)
                            rcases hq11 with ⟨rfl, hc11⟩ | ⟨rfl, hc11⟩
                            · skip
                              refine lv_if_eq (tgt := 340) hx hb (dkS dF_153 DX12_plan (i := 158) rfl rfl rfl) (by decide) (fun h => absurd h (by decide)) (fun _ => ?_)
                              have hap : k_bt.testBit p = true := by
                                cases hq : k_bt.testBit p with
                                | true => rfl
                                | false => exact absurd ((shrb k_bt (by omega) p (by omega)).mpr hq) c10
                              have h6 : ρ.1 31 (z ||| 2 ^ p) = 0 := (hL _ (or8 hz2 (by omega))).trans (LV0 (sub_or hz2 (by omega) hsb hap))
                              have h7 : ρ.1 31 z = 0 := (hL _ hz2).trans (LV0 hsb)
                              have h8 := pc8_s _ (m8lt (d := z) (show k_bt < 256 by omega)) p (by omega) (xbit (by omega) hap hc11)
                              refine lv_aload_n hx hb (dkP dF_42 DX12_plan (i := 159) rfl rfl) rfl (lv_at hl 4 rfl) ?_
                              refine z_gr C0 hw 0 47 31 rfl fl_X12_120 (dk2 dF_180 DX12_plan (i := 160) rfl rfl rfl) ?_
                              refine lv_iload hx hb (dk1 dF_21 DX12_plan (i := 161) rfl rfl rfl) (lv_at hl 1 rfl) ?_
                              refine lv_iconst (v := 1) hx hb (dkP dF_4 DX12_plan (i := 162) rfl rfl) (by decide) ?_
                              refine lv_iload hx hb (dk1 dF_21 DX12_plan (i := 163) rfl rfl rfl) (lv_at hl 0 rfl) ?_
                              refine lv_ishl hx hb (dkP dF_120 DX12_plan (i := 164) rfl rfl) ?_
                              refine lv_ior hx hb (dkP dF_128 DX12_plan (i := 165) rfl rfl) ?_
                              refine z_top (y := nI (z ||| 2 ^ p)) (orb (by omega)) ?_
                              refine z_ialdN (n := 256) C0 hw 31 (z ||| 2 ^ p) rfl (or8 hz2 (by omega)) (by decide) (dkP dF_46 DX12_plan (i := 166) rfl rfl) ?_
                              refine z_top (y := 0) h6 ?_
                              refine lv_iconst (v := (-1)) hx hb (dkP dF_2 DX12_plan (i := 167) rfl rfl) (by decide) ?_
                              refine lv_icmp_eq (tgt := 340) hx hb (dkS dF_159 DX12_plan (i := 168) rfl rfl rfl) (by decide) (fun h => absurd h (by decide)) (fun _ => ?_)
                              refine lv_aload_n hx hb (dkP dF_42 DX12_plan (i := 169) rfl rfl) rfl (lv_at hl 4 rfl) ?_
                              refine lv_iload hx hb (dk1 dF_21 DX12_plan (i := 170) rfl rfl rfl) (lv_at hl 1 rfl) ?_
                              refine lv_iconst (v := 1) hx hb (dkP dF_4 DX12_plan (i := 171) rfl rfl) (by decide) ?_
                              refine lv_iload hx hb (dk1 dF_21 DX12_plan (i := 172) rfl rfl rfl) (lv_at hl 0 rfl) ?_
                              refine lv_ishl hx hb (dkP dF_120 DX12_plan (i := 173) rfl rfl) ?_
                              refine lv_ior hx hb (dkP dF_128 DX12_plan (i := 174) rfl rfl) ?_
                              refine z_top (y := nI (z ||| 2 ^ p)) (orb (by omega)) ?_
                              refine zk_I hw (zr_V (As := [.int (nI (z ||| 2 ^ p))]) (rest := []) C0 (c_X12_priceOf_g l G kc ad ρ (nI (z ||| 2 ^ p)) hρ _) cv_X12_priceOf lk_X12_472 (zp_V C0 hw 0 rfl rfl rfl) rfl hl.1 rfl ⟨by decide, by decide⟩ (Nat.le_of_ble_eq_true rfl) (dk2 dF_182 DX12_plan (i := 175) rfl rfl rfl) ⟨Nat.le_refl _, Nat.le_refl _⟩) (fun r12 s12 H locs hp hw => ?_)
                              obtain ⟨rfl, hs12⟩ := hp
                              (rw [hs12] at hw; clear hs12)
                              refine lv_aload_n hx hb (dkP dF_42 DX12_plan (i := 176) rfl rfl) rfl (lv_at hl 4 rfl) ?_
                              refine z_gr C0 hw 0 47 31 rfl fl_X12_120 (dk2 dF_180 DX12_plan (i := 177) rfl rfl rfl) ?_
                              refine lv_iload hx hb (dk1 dF_21 DX12_plan (i := 178) rfl rfl rfl) (lv_at hl 1 rfl) ?_
                              refine lv_iconst (v := 1) hx hb (dkP dF_4 DX12_plan (i := 179) rfl rfl) (by decide) ?_
                              refine lv_iload hx hb (dk1 dF_21 DX12_plan (i := 180) rfl rfl rfl) (lv_at hl 0 rfl) ?_
                              refine lv_ishl hx hb (dkP dF_120 DX12_plan (i := 181) rfl rfl) ?_
                              refine lv_ior hx hb (dkP dF_128 DX12_plan (i := 182) rfl rfl) ?_
                              refine z_top (y := nI (z ||| 2 ^ p)) (orb (by omega)) ?_
                              refine z_ialdN (n := 256) C0 hw 31 (z ||| 2 ^ p) rfl (or8 hz2 (by omega)) (by decide) (dkP dF_46 DX12_plan (i := 183) rfl rfl) ?_
                              refine z_top (y := 0) h6 ?_
                              refine lv_iadd hx hb (dkP dF_96 DX12_plan (i := 184) rfl rfl) ?_
                              refine z_top (y := 0) (by decide) ?_
                              refine lv_aload_n hx hb (dkP dF_42 DX12_plan (i := 185) rfl rfl) rfl (lv_at hl 4 rfl) ?_
                              refine z_gr C0 hw 0 47 31 rfl fl_X12_120 (dk2 dF_180 DX12_plan (i := 186) rfl rfl rfl) ?_
                              refine lv_iload hx hb (dk1 dF_21 DX12_plan (i := 187) rfl rfl rfl) (lv_at hl 1 rfl) ?_
                              refine z_ialdN (n := 256) C0 hw 31 z rfl (by omega) (by decide) (dkP dF_46 DX12_plan (i := 188) rfl rfl) ?_
                              refine z_top (y := 0) h7 ?_
                              refine lv_icmp_eq (tgt := 346) hx hb (dkS dF_159 DX12_plan (i := 189) rfl rfl rfl) (by decide) (fun _ => ?_) (fun h => absurd h (by decide))
                              refine lv_aload_n hx hb (dkP dF_42 DX12_plan (i := 192) rfl rfl) rfl (lv_at hl 4 rfl) ?_
                              refine z_gr C0 hw 0 48 32 rfl fl_X12_123 (dk2 dF_180 DX12_plan (i := 193) rfl rfl rfl) ?_
                              refine lv_aload_n hx hb (dkP dF_42 DX12_plan (i := 194) rfl rfl) rfl (lv_at hl 4 rfl) ?_
                              refine z_gi C0 hw 0 49 rfl fl_X12_475 (dk2 dF_180 DX12_plan (i := 195) rfl rfl rfl) ?_
                              refine z_top (y := (nI k)) hM ?_
                              refine lv_iload hx hb (dk1 dF_21 DX12_plan (i := 196) rfl rfl rfl) (lv_at hl 0 rfl) ?_
                              refine z_iastN (n := 8) C0 hw 32 k rfl (by omega) (by decide) (dkP dF_79 DX12_plan (i := 197) rfl rfl) (fun H locs hw => ?_)
                              refine lv_aload_n hx hb (dkP dF_42 DX12_plan (i := 198) rfl rfl) rfl (lv_at hl 4 rfl) ?_
                              refine lv_dup hx hb (dkP dF_89 DX12_plan (i := 199) rfl rfl) rfl ?_
                              refine z_gi C0 hw 0 49 rfl fl_X12_475 (dk2 dF_180 DX12_plan (i := 200) rfl rfl rfl) ?_
                              refine z_top (y := (nI k)) ((rd_n (by omega)).trans hM) ?_
                              refine lv_iconst (v := 1) hx hb (dkP dF_4 DX12_plan (i := 201) rfl rfl) (by decide) ?_
                              refine lv_iadd hx hb (dkP dF_96 DX12_plan (i := 202) rfl rfl) ?_
                              refine z_top (y := nI (k + 1)) (by simp only [fa_lit, nI_add, pk_mul]) ?_
                              refine z_pi C0 hw 0 49 rfl fp_X12_475 (dk2 dF_181 DX12_plan (i := 203) rfl rfl rfl) (fun H locs hw => ?_)
                              refine lv_iload hx hb (dk1 dF_21 DX12_plan (i := 204) rfl rfl rfl) (lv_at hl 1 rfl) ?_
                              refine lv_iconst (v := 1) hx hb (dkP dF_4 DX12_plan (i := 205) rfl rfl) (by decide) ?_
                              refine lv_iload hx hb (dk1 dF_21 DX12_plan (i := 206) rfl rfl rfl) (lv_at hl 0 rfl) ?_
                              refine lv_ishl hx hb (dkP dF_120 DX12_plan (i := 207) rfl rfl) ?_
                              refine lv_ior hx hb (dkP dF_128 DX12_plan (i := 208) rfl rfl) ?_
                              refine z_top (y := nI (z ||| 2 ^ p)) (orb (by omega)) ?_
                              refine lv_istore (lv' := [(4, .int (nI (z ||| 2 ^ p))), (5, .int (nI p)), (3, .int (nI k_bt)), (2, .int 0), (0, .ref (ad 0)), (1, .int (nI k_bt))]) hx hb (dk1 dF_54 DX12_plan (i := 209) rfl rfl rfl) hl (by decide) rfl (fun ls hl => ?_)
                              refine lv_goto (tgt := 261) hx hb (dkS dF_167 DX12_plan (i := 210) rfl rfl rfl) (by decide) ?_
                              exact ih7 (z ||| 2 ^ p) (k + 1) (sI (sI ρ 32 k (nI p)) 0 49 (nI (k + 1))) _ _ _ (by omega) (or8 hz2 (by omega)) (sub_or hz2 (by omega) hsb hap) (by rw [msk_or (by omega)]; omega) (by rw [rd_s]) (WZ.w (WZ.w hρ (by decide)) (by decide)) (fun t ht => (rd_n (by omega)).trans ((rd_n (by omega)).trans (hL t ht))) hw (lv_sub hl [0, 2, 3, 4, 5] rfl)
                            · skip
                              refine lv_if_eq (tgt := 340) hx hb (dkS dF_153 DX12_plan (i := 158) rfl rfl rfl) (by decide) (fun _ => ?_) (fun h => absurd h (by decide))
                              refine lv_iinc (v := nI (p + 1)) (lv' := [(5, .int (nI (p + 1))), (4, .int (nI z)), (3, .int (nI k_bt)), (2, .int 0), (0, .ref (ad 0)), (1, .int (nI k_bt))]) hx hb (dkI DX12_plan (i := 190) rfl rfl rfl rfl) hl (k := 0) rfl (nI_1 _) (by decide) rfl (fun ls hl => ?_)
                              refine lv_goto (tgt := 270) hx hb (dkS dF_167 DX12_plan (i := 191) rfl rfl rfl) (by decide) ?_
                              exact ih9 (p + 1) _ _ _ (by omega) (by obtain ⟨b, b1, b3, b2, b4⟩ := hex; refine ⟨b, ?_, b3, b2, b4⟩; rcases Nat.lt_or_ge p b with q | q; (· omega); (· exfalso; have e : b = p := (by omega); subst e; exact absurd b4 hc11)) hw (lv_sub hl [0, 1, 2, 3, 4, 5] rfl)
                      exact lp9 _ 0 _ _ _ (Nat.lt_succ_self _) (by obtain ⟨b, b1, b2, b3⟩ := hex0; exact ⟨b, by omega, b1, b2, b3⟩) hw (lv_sub hl [0, 1, 2, 3, 4, 5] rfl)
                exact lp7 _ 0 0 (sI τ 0 49 0) _ _ _ (Nat.lt_succ_self _) (by decide) (Nat.zero_and _) (by rw [m8_0 k_bt (by omega)]; rfl) rd_s (WZ.w hτ (by decide)) (fun t ht => (rd_n (by omega)).trans (hL t (by omega) ht)) hw (lv_sub hl [0, 1, 2, 3, 4] rfl)
              · skip
                obtain ⟨d, rfl⟩ : ∃ d, n0 = d + 1 := by
                  cases n0 with
                  | zero => exact absurd (by decide) c6
                  | succ d => exact ⟨d, rfl⟩
                rw [pk_m1] at hl
                refine lv_aload_n hx hb (dkP dF_42 DX12_plan (i := 56) rfl rfl) rfl (lv_at hl 3 rfl) ?_
                refine z_gr C0 hw 0 47 31 rfl fl_X12_120 (dk2 dF_180 DX12_plan (i := 57) rfl rfl rfl) ?_
                refine lv_iload hx hb (dk1 dF_21 DX12_plan (i := 58) rfl rfl rfl) (lv_at hl 0 rfl) ?_
                refine lv_iload hx hb (dk1 dF_21 DX12_plan (i := 59) rfl rfl rfl) (lv_at hl 0 rfl) ?_
                refine lv_iload_n hx hb (dkP dF_29 DX12_plan (i := 60) rfl rfl) rfl (lv_at hl 1 rfl) ?_
                refine lv_icmp_ne (tgt := 117) hx hb (dkS dF_160 DX12_plan (i := 61) rfl rfl rfl) (by decide) (fun c13 => ?_) (fun c13 => ?_)
                · simp (disch := omega) only [ta_lt, ta_le, ta_eq, tnI] at c13
                  refine lv_iconst (v := (-1)) hx hb (dkP dF_2 DX12_plan (i := 64) rfl rfl) (by decide) ?_
                  refine z_iastN (n := 256) C0 hw 31 d rfl (by omega) (by decide) (dkP dF_79 DX12_plan (i := 65) rfl rfl) (fun H locs hw => ?_)
                  refine lv_iload hx hb (dk1 dF_21 DX12_plan (i := 66) rfl rfl rfl) (lv_at hl 0 rfl) ?_
                  refine lv_iload_n hx hb (dkP dF_29 DX12_plan (i := 67) rfl rfl) rfl (lv_at hl 1 rfl) ?_
                  refine lv_iconst (v := (-1)) hx hb (dkP dF_2 DX12_plan (i := 68) rfl rfl) (by decide) ?_
                  refine lv_ixor hx hb (dkP dF_130 DX12_plan (i := 69) rfl rfl) ?_
                  refine lv_iand hx hb (dkP dF_126 DX12_plan (i := 70) rfl rfl) ?_
                  have hm8 := m8lt (d := k_bt) (show d < 256 by omega)
                  refine z_top (y := nI (d &&& (255 ^^^ k_bt))) (mask8 (by omega)) ?_
                  refine lv_if_ne (tgt := 247) hx hb (dkS dF_154 DX12_plan (i := 71) rfl rfl rfl) (by decide) (fun c14 => ?_) (fun c14 => ?_)
                  · simp (disch := omega) only [ta_lt, ta_le, ta_eq, tnI, tl32 0 (by decide)] at c14
                    refine lv_iinc (v := (nI d) + (-1)) (lv' := [(4, .int ((nI d) + (-1))), (3, .int (nI k_bt)), (2, .int 0), (0, .ref (ad 0)), (1, .int (nI k_bt))]) hx hb (dkI DX12_plan (i := 136) rfl rfl rfl rfl) hl (k := 0) rfl rfl (by decide) rfl (fun ls hl => ?_)
                    refine lv_goto (tgt := 96) hx hb (dkS dF_167 DX12_plan (i := 137) rfl rfl rfl) (by decide) ?_
                    exact ih5 d (sI τ 31 d (-1)) _ _ _ (by omega) (by omega) (WZ.w hτ (by decide)) (fun t h1 h2 => by rcases Nat.lt_or_ge d t with q | q; (· exact (rd_n (by omega)).trans (hL t (by omega) h2)); (· have e : t = d := (by omega); subst e; rw [LV1 (by omega)]; first | exact rd_s | (exfalso; have := sub_self8 t (by omega); have e2 : t = k_bt := (by omega); subst e2; omega))) hw (lv_sub hl [0, 1, 2, 3, 4] rfl)
                  · simp (disch := omega) only [ta_lt, ta_le, ta_eq, tnI, tl32 0 (by decide)] at c14
                    refine lv_iload_n hx hb (dkP dF_28 DX12_plan (i := 72) rfl rfl) rfl (lv_at hl 2 rfl) ?_
                    refine lv_iload hx hb (dk1 dF_21 DX12_plan (i := 73) rfl rfl rfl) (lv_at hl 0 rfl) ?_
                    refine lv_iconst (v := (-1)) hx hb (dkP dF_2 DX12_plan (i := 74) rfl rfl) (by decide) ?_
                    refine lv_ixor hx hb (dkP dF_130 DX12_plan (i := 75) rfl rfl) ?_
                    refine lv_iand hx hb (dkP dF_126 DX12_plan (i := 76) rfl rfl) ?_
                    refine z_top (y := 0) (z0a _) ?_
                    refine lv_if_eq (tgt := 140) hx hb (dkS dF_153 DX12_plan (i := 77) rfl rfl rfl) (by decide) (fun _ => ?_) (fun h => absurd h (by decide))
                    have hsb : d &&& (255 ^^^ k_bt) = 0 := by omega
                    refine lv_iconst (v := 0) hx hb (dkP dF_3 DX12_plan (i := 79) rfl rfl) (by decide) ?_
                    refine lv_istore (lv' := [(5, .int 0), (4, .int (nI d)), (3, .int (nI k_bt)), (2, .int 0), (0, .ref (ad 0)), (1, .int (nI k_bt))]) hx hb (dk1 dF_54 DX12_plan (i := 80) rfl rfl rfl) hl (by decide) rfl (fun ls hl => ?_)
                    have lp15 : ∀ (n : Nat) (p : Nat) (ρ : Sg) (H : Heap) (locs : List Loc) (ls : Array Slot), 8 - p < n → (p ≤ 8) → (WZ ρ) → (∀ t, d + 1 ≤ t → t < 256 → ρ.1 31 t = LV k_bt t) → ((ρ.1 31 d = 0 ∨ ρ.1 31 d = -1) ∧ (d = k_bt → ρ.1 31 d = 0) ∧ ∀ b, b < p → k_bt.testBit b = true → d.testBit b = false → ρ.1 31 d = 0) → St G kc A s.heap shM ad ρ H locs → lv_has ls 8 [(5, .int (nI p)), (4, .int (nI d)), (3, .int (nI k_bt)), (2, .int 0), (0, .ref (ad 0)), (1, .int (nI k_bt))] → W pr l e { frames := 4, cells := 0, slots := 0, locals := 84 } s m ([.ref (ad 0), .int (nI k_bt)] : List Value).toArray below meth c H locs 0 0 (MQ below (va_Qi (fun r σ1 => r = if 0 ≤ (nI k_bt).toInt ∧ (nI k_bt).toInt ≤ 255 then 0 else -2) (PoC G kc shM ad A) A) ([.ref (ad 0), .int (nI k_bt)] : List Value).toArray s 0 0 A) (F0 m 143 ls []) := by
                      intro n
                      induction n with
                      | zero => intro p ρ H locs ls hmu; exact absurd hmu (Nat.not_lt_zero _)
                      | succ n ih15 =>
                        intro p ρ H locs ls hmu hp hρ hLp hv hw hl
                        refine lv_iload hx hb (dk1 dF_21 DX12_plan (i := 81) rfl rfl rfl) (lv_at hl 0 rfl) ?_
                        refine lv_bipush (v := 8) hx hb (dks dF_16 DX12_plan (i := 82) rfl rfl rfl) (by decide) ?_
                        refine lv_icmp_ge (tgt := 247) hx hb (dkS dF_162 DX12_plan (i := 83) rfl rfl rfl) (by decide) (fun c16 => ?_) (fun c16 => ?_)
                        · simp (disch := omega) only [ta_lt, ta_le, ta_eq, tnI, tl32 8 (by decide)] at c16
                          refine lv_iinc (v := (nI d) + (-1)) (lv' := [(4, .int ((nI d) + (-1))), (5, .int (nI p)), (3, .int (nI k_bt)), (2, .int 0), (0, .ref (ad 0)), (1, .int (nI k_bt))]) hx hb (dkI DX12_plan (i := 136) rfl rfl rfl rfl) hl (k := 1) rfl rfl (by decide) rfl (fun ls hl => ?_)
                          refine lv_goto (tgt := 96) hx hb (dkS dF_167 DX12_plan (i := 137) rfl rfl rfl) (by decide) ?_
                          exact ih5 d ρ _ _ _ (by omega) (by omega) hρ (fun t h1 h2 => by rcases Nat.lt_or_ge d t with q | q; (· exact hLp t (by omega) h2); (· have e : t = d := (by omega); subst e; rw [LV0 hsb]; by_cases hda : t = k_bt; (· exact hv.2.1 hda); (· obtain ⟨b, b1, b2, b3⟩ := sub_ne (by omega) (by omega) hsb hda; exact hv.2.2 b (by omega) b2 b3))) hw (lv_sub hl [0, 2, 3, 4, 5] rfl)
                        · simp (disch := omega) only [ta_lt, ta_le, ta_eq, tnI, tl32 8 (by decide)] at c16
                          refine lv_iload hx hb (dk1 dF_21 DX12_plan (i := 84) rfl rfl rfl) (lv_at hl 1 rfl) ?_
                          refine lv_iconst (v := 1) hx hb (dkP dF_4 DX12_plan (i := 85) rfl rfl) (by decide) ?_
                          refine lv_iload hx hb (dk1 dF_21 DX12_plan (i := 86) rfl rfl rfl) (lv_at hl 0 rfl) ?_
                          refine lv_ishl hx hb (dkP dF_120 DX12_plan (i := 87) rfl rfl) ?_
                          refine lv_ior hx hb (dkP dF_128 DX12_plan (i := 88) rfl rfl) ?_
                          refine z_top (y := nI (d ||| 2 ^ p)) (orb (by omega)) ?_
                          refine lv_istore (lv' := [(6, .int (nI (d ||| 2 ^ p))), (5, .int (nI p)), (4, .int (nI d)), (3, .int (nI k_bt)), (2, .int 0), (0, .ref (ad 0)), (1, .int (nI k_bt))]) hx hb (dk1 dF_54 DX12_plan (i := 89) rfl rfl rfl) hl (by decide) rfl (fun ls hl => ?_)
                          refine lv_iload_n hx hb (dkP dF_29 DX12_plan (i := 90) rfl rfl) rfl (lv_at hl 3 rfl) ?_
                          refine lv_iload hx hb (dk1 dF_21 DX12_plan (i := 91) rfl rfl rfl) (lv_at hl 1 rfl) ?_
                          refine lv_ishr hx hb (dkP dF_122 DX12_plan (i := 92) rfl rfl) ?_
                          refine lv_iconst (v := 1) hx hb (dkP dF_4 DX12_plan (i := 93) rfl rfl) (by decide) ?_
                          refine lv_iand hx hb (dkP dF_126 DX12_plan (i := 94) rfl rfl) ?_
                          refine lv_if_eq (tgt := 241) hx hb (dkS dF_153 DX12_plan (i := 95) rfl rfl rfl) (by decide) (fun c17 => ?_) (fun c17 => ?_)
                          · skip
                            refine lv_iinc (v := nI (p + 1)) (lv' := [(5, .int (nI (p + 1))), (6, .int (nI (d ||| 2 ^ p))), (4, .int (nI d)), (3, .int (nI k_bt)), (2, .int 0), (0, .ref (ad 0)), (1, .int (nI k_bt))]) hx hb (dkI DX12_plan (i := 134) rfl rfl rfl rfl) hl (k := 1) rfl (nI_1 _) (by decide) rfl (fun ls hl => ?_)
                            refine lv_goto (tgt := 143) hx hb (dkS dF_167 DX12_plan (i := 135) rfl rfl rfl) (by decide) ?_
                            exact ih15 (p + 1) ρ _ _ _ (by omega) (by omega) hρ hLp (⟨hv.1, hv.2.1, fun b b1 b2 b3 => by rcases Nat.lt_or_ge b p with q | q; (· exact hv.2.2 b q b2 b3); (· have e : b = p := (by omega); subst e; exact absurd b2 (by rw [(shrb k_bt (by omega) b (by omega)).mp c17]; decide))⟩) hw (lv_sub hl [0, 2, 3, 4, 5, 6] rfl)
                          · skip
                            refine lv_aload_n hx hb (dkP dF_42 DX12_plan (i := 96) rfl rfl) rfl (lv_at hl 5 rfl) ?_
                            refine lv_iload hx hb (dk1 dF_21 DX12_plan (i := 97) rfl rfl rfl) (lv_at hl 1 rfl) ?_
                            refine lv_iload hx hb (dk1 dF_21 DX12_plan (i := 98) rfl rfl rfl) (lv_at hl 2 rfl) ?_
                            refine zk_I hw (zr_V (As := [.int (nI p), .int (nI d)]) (rest := []) C0 (c_X12_mayBeNext_g l G kc ad ρ p d (by omega) (by omega) hρ _) cv_X12_mayBeNext lk_X12_469 (zp_V C0 hw 0 rfl rfl rfl) rfl hl.1 rfl ⟨by decide, by decide⟩ (Nat.le_of_ble_eq_true rfl) (dk2 dF_182 DX12_plan (i := 99) rfl rfl rfl) ⟨Nat.le_refl _, Nat.le_refl _⟩) (fun r18 s18 H locs hp hw => ?_)
                            obtain ⟨hq18, hs18⟩ := hp
                            (rw [hs18] at hw; clear hs18)
                            rcases hq18 with ⟨rfl, hc18⟩ | ⟨rfl, hc18⟩
                            · skip
                              refine lv_if_eq (tgt := 241) hx hb (dkS dF_153 DX12_plan (i := 100) rfl rfl rfl) (by decide) (fun h => absurd h (by decide)) (fun _ => ?_)
                              have hap : k_bt.testBit p = true := by
                                cases hq : k_bt.testBit p with
                                | true => rfl
                                | false => exact absurd ((shrb k_bt (by omega) p (by omega)).mpr hq) c17
                              have h6 : ρ.1 31 (d ||| 2 ^ p) = 0 := (hLp _ (or_gt d (by omega) p (by omega) hc18) (or8 (by omega) (by omega))).trans (LV0 (sub_or (by omega) (by omega) hsb hap))
                              refine lv_aload_n hx hb (dkP dF_42 DX12_plan (i := 101) rfl rfl) rfl (lv_at hl 5 rfl) ?_
                              refine z_gr C0 hw 0 47 31 rfl fl_X12_120 (dk2 dF_180 DX12_plan (i := 102) rfl rfl rfl) ?_
                              refine lv_iload hx hb (dk1 dF_21 DX12_plan (i := 103) rfl rfl rfl) (lv_at hl 0 rfl) ?_
                              refine z_ialdN (n := 256) C0 hw 31 (d ||| 2 ^ p) rfl (or8 (by omega) (by omega)) (by decide) (dkP dF_46 DX12_plan (i := 104) rfl rfl) ?_
                              refine z_top (y := 0) h6 ?_
                              refine lv_iconst (v := (-1)) hx hb (dkP dF_2 DX12_plan (i := 105) rfl rfl) (by decide) ?_
                              refine lv_icmp_ne (tgt := 193) hx hb (dkS dF_160 DX12_plan (i := 106) rfl rfl rfl) (by decide) (fun _ => ?_) (fun h => absurd h (by decide))
                              refine lv_aload_n hx hb (dkP dF_42 DX12_plan (i := 108) rfl rfl) rfl (lv_at hl 5 rfl) ?_
                              refine lv_iload hx hb (dk1 dF_21 DX12_plan (i := 109) rfl rfl rfl) (lv_at hl 0 rfl) ?_
                              refine zk_I hw (zr_V (As := [.int (nI (d ||| 2 ^ p))]) (rest := []) C0 (c_X12_priceOf_g l G kc ad ρ (nI (d ||| 2 ^ p)) hρ _) cv_X12_priceOf lk_X12_472 (zp_V C0 hw 0 rfl rfl rfl) rfl hl.1 rfl ⟨by decide, by decide⟩ (Nat.le_of_ble_eq_true rfl) (dk2 dF_182 DX12_plan (i := 110) rfl rfl rfl) ⟨Nat.le_refl _, Nat.le_refl _⟩) (fun r19 s19 H locs hp hw => ?_)
                              obtain ⟨rfl, hs19⟩ := hp
                              (rw [hs19] at hw; clear hs19)
                              refine lv_aload_n hx hb (dkP dF_42 DX12_plan (i := 111) rfl rfl) rfl (lv_at hl 5 rfl) ?_
                              refine z_gr C0 hw 0 47 31 rfl fl_X12_120 (dk2 dF_180 DX12_plan (i := 112) rfl rfl rfl) ?_
                              refine lv_iload hx hb (dk1 dF_21 DX12_plan (i := 113) rfl rfl rfl) (lv_at hl 0 rfl) ?_
                              refine z_ialdN (n := 256) C0 hw 31 (d ||| 2 ^ p) rfl (or8 (by omega) (by omega)) (by decide) (dkP dF_46 DX12_plan (i := 114) rfl rfl) ?_
                              refine z_top (y := 0) h6 ?_
                              refine lv_iadd hx hb (dkP dF_96 DX12_plan (i := 115) rfl rfl) ?_
                              refine z_top (y := 0) (by decide) ?_
                              refine lv_istore (lv' := [(7, .int 0), (6, .int (nI (d ||| 2 ^ p))), (5, .int (nI p)), (4, .int (nI d)), (3, .int (nI k_bt)), (2, .int 0), (0, .ref (ad 0)), (1, .int (nI k_bt))]) hx hb (dk1 dF_54 DX12_plan (i := 116) rfl rfl rfl) hl (by decide) rfl (fun ls hl => ?_)
                              refine lv_aload_n hx hb (dkP dF_42 DX12_plan (i := 117) rfl rfl) rfl (lv_at hl 6 rfl) ?_
                              refine z_gr C0 hw 0 47 31 rfl fl_X12_120 (dk2 dF_180 DX12_plan (i := 118) rfl rfl rfl) ?_
                              refine lv_iload hx hb (dk1 dF_21 DX12_plan (i := 119) rfl rfl rfl) (lv_at hl 3 rfl) ?_
                              refine z_ialdN (n := 256) C0 hw 31 d rfl (by omega) (by decide) (dkP dF_46 DX12_plan (i := 120) rfl rfl) ?_
                              refine lv_iconst (v := (-1)) hx hb (dkP dF_2 DX12_plan (i := 121) rfl rfl) (by decide) ?_
                              refine lv_icmp_eq (tgt := 232) hx hb (dkS dF_159 DX12_plan (i := 122) rfl rfl rfl) (by decide) (fun c20 => ?_) (fun c20 => ?_)
                              · skip
                                refine lv_aload_n hx hb (dkP dF_42 DX12_plan (i := 129) rfl rfl) rfl (lv_at hl 6 rfl) ?_
                                refine z_gr C0 hw 0 47 31 rfl fl_X12_120 (dk2 dF_180 DX12_plan (i := 130) rfl rfl rfl) ?_
                                refine lv_iload hx hb (dk1 dF_21 DX12_plan (i := 131) rfl rfl rfl) (lv_at hl 3 rfl) ?_
                                refine lv_iload hx hb (dk1 dF_21 DX12_plan (i := 132) rfl rfl rfl) (lv_at hl 0 rfl) ?_
                                refine z_iastN (n := 256) C0 hw 31 d rfl (by omega) (by decide) (dkP dF_79 DX12_plan (i := 133) rfl rfl) (fun H locs hw => ?_)
                                refine lv_iinc (v := nI (p + 1)) (lv' := [(5, .int (nI (p + 1))), (7, .int 0), (6, .int (nI (d ||| 2 ^ p))), (4, .int (nI d)), (3, .int (nI k_bt)), (2, .int 0), (0, .ref (ad 0)), (1, .int (nI k_bt))]) hx hb (dkI DX12_plan (i := 134) rfl rfl rfl rfl) hl (k := 2) rfl (nI_1 _) (by decide) rfl (fun ls hl => ?_)
                                refine lv_goto (tgt := 143) hx hb (dkS dF_167 DX12_plan (i := 135) rfl rfl rfl) (by decide) ?_
                                exact ih15 (p + 1) (sI ρ 31 d 0) _ _ _ (by omega) (by omega) (WZ.w hρ (by decide)) (fun t h1 h2 => (rd_n (by omega)).trans (hLp t h1 h2)) (⟨Or.inl rd_s, fun _ => rd_s, fun _ _ _ _ => rd_s⟩) hw (lv_sub hl [0, 3, 4, 5, 6, 7] rfl)
                              · skip
                                refine lv_iload hx hb (dk1 dF_21 DX12_plan (i := 123) rfl rfl rfl) (lv_at hl 0 rfl) ?_
                                refine lv_aload_n hx hb (dkP dF_42 DX12_plan (i := 124) rfl rfl) rfl (lv_at hl 6 rfl) ?_
                                refine z_gr C0 hw 0 47 31 rfl fl_X12_120 (dk2 dF_180 DX12_plan (i := 125) rfl rfl rfl) ?_
                                refine lv_iload hx hb (dk1 dF_21 DX12_plan (i := 126) rfl rfl rfl) (lv_at hl 3 rfl) ?_
                                refine z_ialdN (n := 256) C0 hw 31 d rfl (by omega) (by decide) (dkP dF_46 DX12_plan (i := 127) rfl rfl) ?_
                                refine lv_icmp_ge (tgt := 241) hx hb (dkS dF_162 DX12_plan (i := 128) rfl rfl rfl) (by decide) (fun c21 => ?_) (fun c21 => ?_)
                                · skip
                                  refine lv_iinc (v := nI (p + 1)) (lv' := [(5, .int (nI (p + 1))), (7, .int 0), (6, .int (nI (d ||| 2 ^ p))), (4, .int (nI d)), (3, .int (nI k_bt)), (2, .int 0), (0, .ref (ad 0)), (1, .int (nI k_bt))]) hx hb (dkI DX12_plan (i := 134) rfl rfl rfl rfl) hl (k := 2) rfl (nI_1 _) (by decide) rfl (fun ls hl => ?_)
                                  refine lv_goto (tgt := 143) hx hb (dkS dF_167 DX12_plan (i := 135) rfl rfl rfl) (by decide) ?_
                                  exact ih15 (p + 1) ρ _ _ _ (by omega) (by omega) hρ hLp (⟨hv.1, hv.2.1, fun b b1 b2 b3 => by rcases Nat.lt_or_ge b p with q | q; (· exact hv.2.2 b q b2 b3); (· have e : b = p := (by omega); subst e; rcases hv.1 with q | q; (· exact q); (· exact absurd q c20))⟩) hw (lv_sub hl [0, 3, 4, 5, 6, 7] rfl)
                                · skip
                                  refine lv_aload_n hx hb (dkP dF_42 DX12_plan (i := 129) rfl rfl) rfl (lv_at hl 6 rfl) ?_
                                  refine z_gr C0 hw 0 47 31 rfl fl_X12_120 (dk2 dF_180 DX12_plan (i := 130) rfl rfl rfl) ?_
                                  refine lv_iload hx hb (dk1 dF_21 DX12_plan (i := 131) rfl rfl rfl) (lv_at hl 3 rfl) ?_
                                  refine lv_iload hx hb (dk1 dF_21 DX12_plan (i := 132) rfl rfl rfl) (lv_at hl 0 rfl) ?_
                                  refine z_iastN (n := 256) C0 hw 31 d rfl (by omega) (by decide) (dkP dF_79 DX12_plan (i := 133) rfl rfl) (fun H locs hw => ?_)
                                  refine lv_iinc (v := nI (p + 1)) (lv' := [(5, .int (nI (p + 1))), (7, .int 0), (6, .int (nI (d ||| 2 ^ p))), (4, .int (nI d)), (3, .int (nI k_bt)), (2, .int 0), (0, .ref (ad 0)), (1, .int (nI k_bt))]) hx hb (dkI DX12_plan (i := 134) rfl rfl rfl rfl) hl (k := 2) rfl (nI_1 _) (by decide) rfl (fun ls hl => ?_)
                                  refine lv_goto (tgt := 143) hx hb (dkS dF_167 DX12_plan (i := 135) rfl rfl rfl) (by decide) ?_
                                  exact ih15 (p + 1) (sI ρ 31 d 0) _ _ _ (by omega) (by omega) (WZ.w hρ (by decide)) (fun t h1 h2 => (rd_n (by omega)).trans (hLp t h1 h2)) (⟨Or.inl rd_s, fun _ => rd_s, fun _ _ _ _ => rd_s⟩) hw (lv_sub hl [0, 3, 4, 5, 6, 7] rfl)
                            · skip
                              refine lv_if_eq (tgt := 241) hx hb (dkS dF_153 DX12_plan (i := 100) rfl rfl rfl) (by decide) (fun _ => ?_) (fun h => absurd h (by decide))
                              refine lv_iinc (v := nI (p + 1)) (lv' := [(5, .int (nI (p + 1))), (6, .int (nI (d ||| 2 ^ p))), (4, .int (nI d)), (3, .int (nI k_bt)), (2, .int 0), (0, .ref (ad 0)), (1, .int (nI k_bt))]) hx hb (dkI DX12_plan (i := 134) rfl rfl rfl rfl) hl (k := 1) rfl (nI_1 _) (by decide) rfl (fun ls hl => ?_)
                              refine lv_goto (tgt := 143) hx hb (dkS dF_167 DX12_plan (i := 135) rfl rfl rfl) (by decide) ?_
                              exact ih15 (p + 1) ρ _ _ _ (by omega) (by omega) hρ hLp (⟨hv.1, hv.2.1, fun b b1 b2 b3 => by rcases Nat.lt_or_ge b p with q | q; (· exact hv.2.2 b q b2 b3); (· have e : b = p := (by omega); subst e; exact absurd b3 hc18)⟩) hw (lv_sub hl [0, 2, 3, 4, 5, 6] rfl)
                    exact lp15 _ 0 (sI τ 31 d (-1)) _ _ _ (Nat.lt_succ_self _) (by omega) (WZ.w hτ (by decide)) (fun t h1 h2 => (rd_n (by omega)).trans (hL t (by omega) h2)) (⟨Or.inr rd_s, fun h => absurd h (by omega), fun b hb => absurd hb (by omega)⟩) hw (lv_sub hl [0, 1, 2, 3, 4, 5] rfl)
                · simp (disch := omega) only [ta_lt, ta_le, ta_eq, tnI] at c13
                  refine lv_iconst (v := 0) hx hb (dkP dF_3 DX12_plan (i := 62) rfl rfl) (by decide) ?_
                  refine lv_goto (tgt := 118) hx hb (dkS dF_167 DX12_plan (i := 63) rfl rfl rfl) (by decide) ?_
                  refine z_iastN (n := 256) C0 hw 31 d rfl (by omega) (by decide) (dkP dF_79 DX12_plan (i := 65) rfl rfl) (fun H locs hw => ?_)
                  refine lv_iload hx hb (dk1 dF_21 DX12_plan (i := 66) rfl rfl rfl) (lv_at hl 0 rfl) ?_
                  refine lv_iload_n hx hb (dkP dF_29 DX12_plan (i := 67) rfl rfl) rfl (lv_at hl 1 rfl) ?_
                  refine lv_iconst (v := (-1)) hx hb (dkP dF_2 DX12_plan (i := 68) rfl rfl) (by decide) ?_
                  refine lv_ixor hx hb (dkP dF_130 DX12_plan (i := 69) rfl rfl) ?_
                  refine lv_iand hx hb (dkP dF_126 DX12_plan (i := 70) rfl rfl) ?_
                  have hm8 := m8lt (d := k_bt) (show d < 256 by omega)
                  refine z_top (y := nI (d &&& (255 ^^^ k_bt))) (mask8 (by omega)) ?_
                  refine lv_if_ne (tgt := 247) hx hb (dkS dF_154 DX12_plan (i := 71) rfl rfl rfl) (by decide) (fun c22 => ?_) (fun c22 => ?_)
                  · simp (disch := omega) only [ta_lt, ta_le, ta_eq, tnI, tl32 0 (by decide)] at c22
                    refine lv_iinc (v := (nI d) + (-1)) (lv' := [(4, .int ((nI d) + (-1))), (3, .int (nI k_bt)), (2, .int 0), (0, .ref (ad 0)), (1, .int (nI k_bt))]) hx hb (dkI DX12_plan (i := 136) rfl rfl rfl rfl) hl (k := 0) rfl rfl (by decide) rfl (fun ls hl => ?_)
                    refine lv_goto (tgt := 96) hx hb (dkS dF_167 DX12_plan (i := 137) rfl rfl rfl) (by decide) ?_
                    exact ih5 d (sI τ 31 d 0) _ _ _ (by omega) (by omega) (WZ.w hτ (by decide)) (fun t h1 h2 => by rcases Nat.lt_or_ge d t with q | q; (· exact (rd_n (by omega)).trans (hL t (by omega) h2)); (· have e : t = d := (by omega); subst e; rw [LV1 (by omega)]; first | exact rd_s | (exfalso; have := sub_self8 t (by omega); have e2 : t = k_bt := (by omega); subst e2; omega))) hw (lv_sub hl [0, 1, 2, 3, 4] rfl)
                  · simp (disch := omega) only [ta_lt, ta_le, ta_eq, tnI, tl32 0 (by decide)] at c22
                    refine lv_iload_n hx hb (dkP dF_28 DX12_plan (i := 72) rfl rfl) rfl (lv_at hl 2 rfl) ?_
                    refine lv_iload hx hb (dk1 dF_21 DX12_plan (i := 73) rfl rfl rfl) (lv_at hl 0 rfl) ?_
                    refine lv_iconst (v := (-1)) hx hb (dkP dF_2 DX12_plan (i := 74) rfl rfl) (by decide) ?_
                    refine lv_ixor hx hb (dkP dF_130 DX12_plan (i := 75) rfl rfl) ?_
                    refine lv_iand hx hb (dkP dF_126 DX12_plan (i := 76) rfl rfl) ?_
                    refine z_top (y := 0) (z0a _) ?_
                    refine lv_if_eq (tgt := 140) hx hb (dkS dF_153 DX12_plan (i := 77) rfl rfl rfl) (by decide) (fun _ => ?_) (fun h => absurd h (by decide))
                    have hsb : d &&& (255 ^^^ k_bt) = 0 := by omega
                    refine lv_iconst (v := 0) hx hb (dkP dF_3 DX12_plan (i := 79) rfl rfl) (by decide) ?_
                    refine lv_istore (lv' := [(5, .int 0), (4, .int (nI d)), (3, .int (nI k_bt)), (2, .int 0), (0, .ref (ad 0)), (1, .int (nI k_bt))]) hx hb (dk1 dF_54 DX12_plan (i := 80) rfl rfl rfl) hl (by decide) rfl (fun ls hl => ?_)
                    have lp23 : ∀ (n : Nat) (p : Nat) (ρ : Sg) (H : Heap) (locs : List Loc) (ls : Array Slot), 8 - p < n → (p ≤ 8) → (WZ ρ) → (∀ t, d + 1 ≤ t → t < 256 → ρ.1 31 t = LV k_bt t) → ((ρ.1 31 d = 0 ∨ ρ.1 31 d = -1) ∧ (d = k_bt → ρ.1 31 d = 0) ∧ ∀ b, b < p → k_bt.testBit b = true → d.testBit b = false → ρ.1 31 d = 0) → St G kc A s.heap shM ad ρ H locs → lv_has ls 8 [(5, .int (nI p)), (4, .int (nI d)), (3, .int (nI k_bt)), (2, .int 0), (0, .ref (ad 0)), (1, .int (nI k_bt))] → W pr l e { frames := 4, cells := 0, slots := 0, locals := 84 } s m ([.ref (ad 0), .int (nI k_bt)] : List Value).toArray below meth c H locs 0 0 (MQ below (va_Qi (fun r σ1 => r = if 0 ≤ (nI k_bt).toInt ∧ (nI k_bt).toInt ≤ 255 then 0 else -2) (PoC G kc shM ad A) A) ([.ref (ad 0), .int (nI k_bt)] : List Value).toArray s 0 0 A) (F0 m 143 ls []) := by
                      intro n
                      induction n with
                      | zero => intro p ρ H locs ls hmu; exact absurd hmu (Nat.not_lt_zero _)
                      | succ n ih23 =>
                        intro p ρ H locs ls hmu hp hρ hLp hv hw hl
                        refine lv_iload hx hb (dk1 dF_21 DX12_plan (i := 81) rfl rfl rfl) (lv_at hl 0 rfl) ?_
                        refine lv_bipush (v := 8) hx hb (dks dF_16 DX12_plan (i := 82) rfl rfl rfl) (by decide) ?_
                        refine lv_icmp_ge (tgt := 247) hx hb (dkS dF_162 DX12_plan (i := 83) rfl rfl rfl) (by decide) (fun c24 => ?_) (fun c24 => ?_)
                        · simp (disch := omega) only [ta_lt, ta_le, ta_eq, tnI, tl32 8 (by decide)] at c24
                          refine lv_iinc (v := (nI d) + (-1)) (lv' := [(4, .int ((nI d) + (-1))), (5, .int (nI p)), (3, .int (nI k_bt)), (2, .int 0), (0, .ref (ad 0)), (1, .int (nI k_bt))]) hx hb (dkI DX12_plan (i := 136) rfl rfl rfl rfl) hl (k := 1) rfl rfl (by decide) rfl (fun ls hl => ?_)
                          refine lv_goto (tgt := 96) hx hb (dkS dF_167 DX12_plan (i := 137) rfl rfl rfl) (by decide) ?_
                          exact ih5 d ρ _ _ _ (by omega) (by omega) hρ (fun t h1 h2 => by rcases Nat.lt_or_ge d t with q | q; (· exact hLp t (by omega) h2); (· have e : t = d := (by omega); subst e; rw [LV0 hsb]; by_cases hda : t = k_bt; (· exact hv.2.1 hda); (· obtain ⟨b, b1, b2, b3⟩ := sub_ne (by omega) (by omega) hsb hda; exact hv.2.2 b (by omega) b2 b3))) hw (lv_sub hl [0, 2, 3, 4, 5] rfl)
                        · simp (disch := omega) only [ta_lt, ta_le, ta_eq, tnI, tl32 8 (by decide)] at c24
                          refine lv_iload hx hb (dk1 dF_21 DX12_plan (i := 84) rfl rfl rfl) (lv_at hl 1 rfl) ?_
                          refine lv_iconst (v := 1) hx hb (dkP dF_4 DX12_plan (i := 85) rfl rfl) (by decide) ?_
                          refine lv_iload hx hb (dk1 dF_21 DX12_plan (i := 86) rfl rfl rfl) (lv_at hl 0 rfl) ?_
                          refine lv_ishl hx hb (dkP dF_120 DX12_plan (i := 87) rfl rfl) ?_
                          refine lv_ior hx hb (dkP dF_128 DX12_plan (i := 88) rfl rfl) ?_
                          refine z_top (y := nI (d ||| 2 ^ p)) (orb (by omega)) ?_
                          refine lv_istore (lv' := [(6, .int (nI (d ||| 2 ^ p))), (5, .int (nI p)), (4, .int (nI d)), (3, .int (nI k_bt)), (2, .int 0), (0, .ref (ad 0)), (1, .int (nI k_bt))]) hx hb (dk1 dF_54 DX12_plan (i := 89) rfl rfl rfl) hl (by decide) rfl (fun ls hl => ?_)
                          refine lv_iload_n hx hb (dkP dF_29 DX12_plan (i := 90) rfl rfl) rfl (lv_at hl 3 rfl) ?_
                          refine lv_iload hx hb (dk1 dF_21 DX12_plan (i := 91) rfl rfl rfl) (lv_at hl 1 rfl) ?_
                          refine lv_ishr hx hb (dkP dF_122 DX12_plan (i := 92) rfl rfl) ?_
                          refine lv_iconst (v := 1) hx hb (dkP dF_4 DX12_plan (i := 93) rfl rfl) (by decide) ?_
                          refine lv_iand hx hb (dkP dF_126 DX12_plan (i := 94) rfl rfl) ?_
                          refine lv_if_eq (tgt := 241) hx hb (dkS dF_153 DX12_plan (i := 95) rfl rfl rfl) (by decide) (fun c25 => ?_) (fun c25 => ?_)
                          · skip
                            refine lv_iinc (v := nI (p + 1)) (lv' := [(5, .int (nI (p + 1))), (6, .int (nI (d ||| 2 ^ p))), (4, .int (nI d)), (3, .int (nI k_bt)), (2, .int 0), (0, .ref (ad 0)), (1, .int (nI k_bt))]) hx hb (dkI DX12_plan (i := 134) rfl rfl rfl rfl) hl (k := 1) rfl (nI_1 _) (by decide) rfl (fun ls hl => ?_)
                            refine lv_goto (tgt := 143) hx hb (dkS dF_167 DX12_plan (i := 135) rfl rfl rfl) (by decide) ?_
                            exact ih23 (p + 1) ρ _ _ _ (by omega) (by omega) hρ hLp (⟨hv.1, hv.2.1, fun b b1 b2 b3 => by rcases Nat.lt_or_ge b p with q | q; (· exact hv.2.2 b q b2 b3); (· have e : b = p := (by omega); subst e; exact absurd b2 (by rw [(shrb k_bt (by omega) b (by omega)).mp c25]; decide))⟩) hw (lv_sub hl [0, 2, 3, 4, 5, 6] rfl)
                          · skip
                            refine lv_aload_n hx hb (dkP dF_42 DX12_plan (i := 96) rfl rfl) rfl (lv_at hl 5 rfl) ?_
                            refine lv_iload hx hb (dk1 dF_21 DX12_plan (i := 97) rfl rfl rfl) (lv_at hl 1 rfl) ?_
                            refine lv_iload hx hb (dk1 dF_21 DX12_plan (i := 98) rfl rfl rfl) (lv_at hl 2 rfl) ?_
                            refine zk_I hw (zr_V (As := [.int (nI p), .int (nI d)]) (rest := []) C0 (c_X12_mayBeNext_g l G kc ad ρ p d (by omega) (by omega) hρ _) cv_X12_mayBeNext lk_X12_469 (zp_V C0 hw 0 rfl rfl rfl) rfl hl.1 rfl ⟨by decide, by decide⟩ (Nat.le_of_ble_eq_true rfl) (dk2 dF_182 DX12_plan (i := 99) rfl rfl rfl) ⟨Nat.le_refl _, Nat.le_refl _⟩) (fun r26 s26 H locs hp hw => ?_)
                            obtain ⟨hq26, hs26⟩ := hp
                            (rw [hs26] at hw; clear hs26)
                            rcases hq26 with ⟨rfl, hc26⟩ | ⟨rfl, hc26⟩
                            · skip
                              refine lv_if_eq (tgt := 241) hx hb (dkS dF_153 DX12_plan (i := 100) rfl rfl rfl) (by decide) (fun h => absurd h (by decide)) (fun _ => ?_)
                              have hap : k_bt.testBit p = true := by
                                cases hq : k_bt.testBit p with
                                | true => rfl
                                | false => exact absurd ((shrb k_bt (by omega) p (by omega)).mpr hq) c25
                              have h6 : ρ.1 31 (d ||| 2 ^ p) = 0 := (hLp _ (or_gt d (by omega) p (by omega) hc26) (or8 (by omega) (by omega))).trans (LV0 (sub_or (by omega) (by omega) hsb hap))
                              refine lv_aload_n hx hb (dkP dF_42 DX12_plan (i := 101) rfl rfl) rfl (lv_at hl 5 rfl) ?_
                              refine z_gr C0 hw 0 47 31 rfl fl_X12_120 (dk2 dF_180 DX12_plan (i := 102) rfl rfl rfl) ?_
                              refine lv_iload hx hb (dk1 dF_21 DX12_plan (i := 103) rfl rfl rfl) (lv_at hl 0 rfl) ?_
                              refine z_ialdN (n := 256) C0 hw 31 (d ||| 2 ^ p) rfl (or8 (by omega) (by omega)) (by decide) (dkP dF_46 DX12_plan (i := 104) rfl rfl) ?_
                              refine z_top (y := 0) h6 ?_
                              refine lv_iconst (v := (-1)) hx hb (dkP dF_2 DX12_plan (i := 105) rfl rfl) (by decide) ?_
                              refine lv_icmp_ne (tgt := 193) hx hb (dkS dF_160 DX12_plan (i := 106) rfl rfl rfl) (by decide) (fun _ => ?_) (fun h => absurd h (by decide))
                              refine lv_aload_n hx hb (dkP dF_42 DX12_plan (i := 108) rfl rfl) rfl (lv_at hl 5 rfl) ?_
                              refine lv_iload hx hb (dk1 dF_21 DX12_plan (i := 109) rfl rfl rfl) (lv_at hl 0 rfl) ?_
                              refine zk_I hw (zr_V (As := [.int (nI (d ||| 2 ^ p))]) (rest := []) C0 (c_X12_priceOf_g l G kc ad ρ (nI (d ||| 2 ^ p)) hρ _) cv_X12_priceOf lk_X12_472 (zp_V C0 hw 0 rfl rfl rfl) rfl hl.1 rfl ⟨by decide, by decide⟩ (Nat.le_of_ble_eq_true rfl) (dk2 dF_182 DX12_plan (i := 110) rfl rfl rfl) ⟨Nat.le_refl _, Nat.le_refl _⟩) (fun r27 s27 H locs hp hw => ?_)
                              obtain ⟨rfl, hs27⟩ := hp
                              (rw [hs27] at hw; clear hs27)
                              refine lv_aload_n hx hb (dkP dF_42 DX12_plan (i := 111) rfl rfl) rfl (lv_at hl 5 rfl) ?_
                              refine z_gr C0 hw 0 47 31 rfl fl_X12_120 (dk2 dF_180 DX12_plan (i := 112) rfl rfl rfl) ?_
                              refine lv_iload hx hb (dk1 dF_21 DX12_plan (i := 113) rfl rfl rfl) (lv_at hl 0 rfl) ?_
                              refine z_ialdN (n := 256) C0 hw 31 (d ||| 2 ^ p) rfl (or8 (by omega) (by omega)) (by decide) (dkP dF_46 DX12_plan (i := 114) rfl rfl) ?_
                              refine z_top (y := 0) h6 ?_
                              refine lv_iadd hx hb (dkP dF_96 DX12_plan (i := 115) rfl rfl) ?_
                              refine z_top (y := 0) (by decide) ?_
                              refine lv_istore (lv' := [(7, .int 0), (6, .int (nI (d ||| 2 ^ p))), (5, .int (nI p)), (4, .int (nI d)), (3, .int (nI k_bt)), (2, .int 0), (0, .ref (ad 0)), (1, .int (nI k_bt))]) hx hb (dk1 dF_54 DX12_plan (i := 116) rfl rfl rfl) hl (by decide) rfl (fun ls hl => ?_)
                              refine lv_aload_n hx hb (dkP dF_42 DX12_plan (i := 117) rfl rfl) rfl (lv_at hl 6 rfl) ?_
                              refine z_gr C0 hw 0 47 31 rfl fl_X12_120 (dk2 dF_180 DX12_plan (i := 118) rfl rfl rfl) ?_
                              refine lv_iload hx hb (dk1 dF_21 DX12_plan (i := 119) rfl rfl rfl) (lv_at hl 3 rfl) ?_
                              refine z_ialdN (n := 256) C0 hw 31 d rfl (by omega) (by decide) (dkP dF_46 DX12_plan (i := 120) rfl rfl) ?_
                              refine lv_iconst (v := (-1)) hx hb (dkP dF_2 DX12_plan (i := 121) rfl rfl) (by decide) ?_
                              refine lv_icmp_eq (tgt := 232) hx hb (dkS dF_159 DX12_plan (i := 122) rfl rfl rfl) (by decide) (fun c28 => ?_) (fun c28 => ?_)
                              · skip
                                refine lv_aload_n hx hb (dkP dF_42 DX12_plan (i := 129) rfl rfl) rfl (lv_at hl 6 rfl) ?_
                                refine z_gr C0 hw 0 47 31 rfl fl_X12_120 (dk2 dF_180 DX12_plan (i := 130) rfl rfl rfl) ?_
                                refine lv_iload hx hb (dk1 dF_21 DX12_plan (i := 131) rfl rfl rfl) (lv_at hl 3 rfl) ?_
                                refine lv_iload hx hb (dk1 dF_21 DX12_plan (i := 132) rfl rfl rfl) (lv_at hl 0 rfl) ?_
                                refine z_iastN (n := 256) C0 hw 31 d rfl (by omega) (by decide) (dkP dF_79 DX12_plan (i := 133) rfl rfl) (fun H locs hw => ?_)
                                refine lv_iinc (v := nI (p + 1)) (lv' := [(5, .int (nI (p + 1))), (7, .int 0), (6, .int (nI (d ||| 2 ^ p))), (4, .int (nI d)), (3, .int (nI k_bt)), (2, .int 0), (0, .ref (ad 0)), (1, .int (nI k_bt))]) hx hb (dkI DX12_plan (i := 134) rfl rfl rfl rfl) hl (k := 2) rfl (nI_1 _) (by decide) rfl (fun ls hl => ?_)
                                refine lv_goto (tgt := 143) hx hb (dkS dF_167 DX12_plan (i := 135) rfl rfl rfl) (by decide) ?_
                                exact ih23 (p + 1) (sI ρ 31 d 0) _ _ _ (by omega) (by omega) (WZ.w hρ (by decide)) (fun t h1 h2 => (rd_n (by omega)).trans (hLp t h1 h2)) (⟨Or.inl rd_s, fun _ => rd_s, fun _ _ _ _ => rd_s⟩) hw (lv_sub hl [0, 3, 4, 5, 6, 7] rfl)
                              · skip
                                refine lv_iload hx hb (dk1 dF_21 DX12_plan (i := 123) rfl rfl rfl) (lv_at hl 0 rfl) ?_
                                refine lv_aload_n hx hb (dkP dF_42 DX12_plan (i := 124) rfl rfl) rfl (lv_at hl 6 rfl) ?_
                                refine z_gr C0 hw 0 47 31 rfl fl_X12_120 (dk2 dF_180 DX12_plan (i := 125) rfl rfl rfl) ?_
                                refine lv_iload hx hb (dk1 dF_21 DX12_plan (i := 126) rfl rfl rfl) (lv_at hl 3 rfl) ?_
                                refine z_ialdN (n := 256) C0 hw 31 d rfl (by omega) (by decide) (dkP dF_46 DX12_plan (i := 127) rfl rfl) ?_
                                refine lv_icmp_ge (tgt := 241) hx hb (dkS dF_162 DX12_plan (i := 128) rfl rfl rfl) (by decide) (fun c29 => ?_) (fun c29 => ?_)
                                · skip
                                  refine lv_iinc (v := nI (p + 1)) (lv' := [(5, .int (nI (p + 1))), (7, .int 0), (6, .int (nI (d ||| 2 ^ p))), (4, .int (nI d)), (3, .int (nI k_bt)), (2, .int 0), (0, .ref (ad 0)), (1, .int (nI k_bt))]) hx hb (dkI DX12_plan (i := 134) rfl rfl rfl rfl) hl (k := 2) rfl (nI_1 _) (by decide) rfl (fun ls hl => ?_)
                                  refine lv_goto (tgt := 143) hx hb (dkS dF_167 DX12_plan (i := 135) rfl rfl rfl) (by decide) ?_
                                  exact ih23 (p + 1) ρ _ _ _ (by omega) (by omega) hρ hLp (⟨hv.1, hv.2.1, fun b b1 b2 b3 => by rcases Nat.lt_or_ge b p with q | q; (· exact hv.2.2 b q b2 b3); (· have e : b = p := (by omega); subst e; rcases hv.1 with q | q; (· exact q); (· exact absurd q c28))⟩) hw (lv_sub hl [0, 3, 4, 5, 6, 7] rfl)
                                · skip
                                  refine lv_aload_n hx hb (dkP dF_42 DX12_plan (i := 129) rfl rfl) rfl (lv_at hl 6 rfl) ?_
                                  refine z_gr C0 hw 0 47 31 rfl fl_X12_120 (dk2 dF_180 DX12_plan (i := 130) rfl rfl rfl) ?_
                                  refine lv_iload hx hb (dk1 dF_21 DX12_plan (i := 131) rfl rfl rfl) (lv_at hl 3 rfl) ?_
                                  refine lv_iload hx hb (dk1 dF_21 DX12_plan (i := 132) rfl rfl rfl) (lv_at hl 0 rfl) ?_
                                  refine z_iastN (n := 256) C0 hw 31 d rfl (by omega) (by decide) (dkP dF_79 DX12_plan (i := 133) rfl rfl) (fun H locs hw => ?_)
                                  refine lv_iinc (v := nI (p + 1)) (lv' := [(5, .int (nI (p + 1))), (7, .int 0), (6, .int (nI (d ||| 2 ^ p))), (4, .int (nI d)), (3, .int (nI k_bt)), (2, .int 0), (0, .ref (ad 0)), (1, .int (nI k_bt))]) hx hb (dkI DX12_plan (i := 134) rfl rfl rfl rfl) hl (k := 2) rfl (nI_1 _) (by decide) rfl (fun ls hl => ?_)
                                  refine lv_goto (tgt := 143) hx hb (dkS dF_167 DX12_plan (i := 135) rfl rfl rfl) (by decide) ?_
                                  exact ih23 (p + 1) (sI ρ 31 d 0) _ _ _ (by omega) (by omega) (WZ.w hρ (by decide)) (fun t h1 h2 => (rd_n (by omega)).trans (hLp t h1 h2)) (⟨Or.inl rd_s, fun _ => rd_s, fun _ _ _ _ => rd_s⟩) hw (lv_sub hl [0, 3, 4, 5, 6, 7] rfl)
                            · skip
                              refine lv_if_eq (tgt := 241) hx hb (dkS dF_153 DX12_plan (i := 100) rfl rfl rfl) (by decide) (fun _ => ?_) (fun h => absurd h (by decide))
                              refine lv_iinc (v := nI (p + 1)) (lv' := [(5, .int (nI (p + 1))), (6, .int (nI (d ||| 2 ^ p))), (4, .int (nI d)), (3, .int (nI k_bt)), (2, .int 0), (0, .ref (ad 0)), (1, .int (nI k_bt))]) hx hb (dkI DX12_plan (i := 134) rfl rfl rfl rfl) hl (k := 1) rfl (nI_1 _) (by decide) rfl (fun ls hl => ?_)
                              refine lv_goto (tgt := 143) hx hb (dkS dF_167 DX12_plan (i := 135) rfl rfl rfl) (by decide) ?_
                              exact ih23 (p + 1) ρ _ _ _ (by omega) (by omega) hρ hLp (⟨hv.1, hv.2.1, fun b b1 b2 b3 => by rcases Nat.lt_or_ge b p with q | q; (· exact hv.2.2 b q b2 b3); (· have e : b = p := (by omega); subst e; exact absurd b3 hc26)⟩) hw (lv_sub hl [0, 2, 3, 4, 5, 6] rfl)
                    exact lp23 _ 0 (sI τ 31 d 0) _ _ _ (Nat.lt_succ_self _) (by omega) (WZ.w hτ (by decide)) (fun t h1 h2 => (rd_n (by omega)).trans (hL t (by omega) h2)) (⟨Or.inl rd_s, fun _ => rd_s, fun b hb => absurd hb (by omega)⟩) hw (lv_sub hl [0, 1, 2, 3, 4, 5] rfl)
          have hl : lv_has ls 8 [(4, .int (nI 256 + (-1))), (3, .int (nI k_bt)), (2, .int 0), (0, .ref (ad 0)), (1, .int (nI k_bt))] := by rw [show nI 256 + (-1) = (255 : Int32) from by decide]; exact hl
          exact lp5 _ 256 sM0 _ _ _ (Nat.lt_succ_self _) (by omega) WZ0 (fun t h1 h2 => absurd h1 (by omega)) hw (lv_sub hl [0, 1, 2, 3, 4] rfl)
        · simp (disch := omega) only [ta_lt, ta_le, ta_eq, tnI, tl32 8 (by decide)] at c4
          refine lv_iconst (v := 0) hx hb (dkP dF_3 DX12_plan (i := 20) rfl rfl) (by decide) ?_
          refine lv_istore (lv' := [(5, .int 0), (4, .int (nI ia)), (3, .int (nI k_bt)), (2, .int 0), (0, .ref (ad 0)), (1, .int (nI k_bt))]) hx hb (dk1 dF_54 DX12_plan (i := 21) rfl rfl rfl) hl (by decide) rfl (fun ls hl => ?_)
          have lp30 : ∀ (n : Nat) (ib : Nat) (H : Heap) (locs : List Loc) (ls : Array Slot), 8 - ib < n → (ib ≤ 8) → St G kc A s.heap shM ad sM0 H locs → lv_has ls 8 [(5, .int (nI ib)), (4, .int (nI ia)), (3, .int (nI k_bt)), (2, .int 0), (0, .ref (ad 0)), (1, .int (nI k_bt))] → W pr l e { frames := 4, cells := 0, slots := 0, locals := 84 } s m ([.ref (ad 0), .int (nI k_bt)] : List Value).toArray below meth c H locs 0 0 (MQ below (va_Qi (fun r σ1 => r = if 0 ≤ (nI k_bt).toInt ∧ (nI k_bt).toInt ≤ 255 then 0 else -2) (PoC G kc shM ad A) A) ([.ref (ad 0), .int (nI k_bt)] : List Value).toArray s 0 0 A) (F0 m 37 ls []) := by
            intro n
            induction n with
            | zero => intro ib H locs ls hmu; exact absurd hmu (Nat.not_lt_zero _)
            | succ n ih30 =>
              intro ib H locs ls hmu hib hw hl
              refine lv_iload hx hb (dk1 dF_21 DX12_plan (i := 22) rfl rfl rfl) (lv_at hl 0 rfl) ?_
              refine lv_bipush (v := 8) hx hb (dks dF_16 DX12_plan (i := 23) rfl rfl rfl) (by decide) ?_
              refine lv_icmp_ge (tgt := 85) hx hb (dkS dF_162 DX12_plan (i := 24) rfl rfl rfl) (by decide) (fun c31 => ?_) (fun c31 => ?_)
              · simp (disch := omega) only [ta_lt, ta_le, ta_eq, tnI, tl32 8 (by decide)] at c31
                refine lv_iinc (v := nI (ia + 1)) (lv' := [(4, .int (nI (ia + 1))), (5, .int (nI ib)), (3, .int (nI k_bt)), (2, .int 0), (0, .ref (ad 0)), (1, .int (nI k_bt))]) hx hb (dkI DX12_plan (i := 50) rfl rfl rfl rfl) hl (k := 1) rfl (nI_1 _) (by decide) rfl (fun ls hl => ?_)
                refine lv_goto (tgt := 27) hx hb (dkS dF_167 DX12_plan (i := 51) rfl rfl rfl) (by decide) ?_
                exact ih3 (ia + 1) _ _ _ (by omega) (by omega) hw (lv_sub hl [0, 2, 3, 4, 5] rfl)
              · simp (disch := omega) only [ta_lt, ta_le, ta_eq, tnI, tl32 8 (by decide)] at c31
                refine lv_iload_n hx hb (dkP dF_27 DX12_plan (i := 25) rfl rfl) rfl (lv_at hl 5 rfl) ?_
                refine lv_iload_n hx hb (dkP dF_28 DX12_plan (i := 26) rfl rfl) rfl (lv_at hl 3 rfl) ?_
                refine lv_iconst (v := (-1)) hx hb (dkP dF_2 DX12_plan (i := 27) rfl rfl) (by decide) ?_
                refine lv_ixor hx hb (dkP dF_130 DX12_plan (i := 28) rfl rfl) ?_
                refine z_top (y := (-1)) (by decide) ?_
                refine lv_iand hx hb (dkP dF_126 DX12_plan (i := 29) rfl rfl) ?_
                refine lv_iconst (v := 1) hx hb (dkP dF_4 DX12_plan (i := 30) rfl rfl) (by decide) ?_
                refine lv_iload hx hb (dk1 dF_21 DX12_plan (i := 31) rfl rfl rfl) (lv_at hl 1 rfl) ?_
                refine lv_ishl hx hb (dkP dF_120 DX12_plan (i := 32) rfl rfl) ?_
                refine lv_iand hx hb (dkP dF_126 DX12_plan (i := 33) rfl rfl) ?_
                refine lv_if_eq (tgt := 79) hx hb (dkS dF_153 DX12_plan (i := 34) rfl rfl rfl) (by decide) (fun c32 => ?_) (fun c32 => ?_)
                · skip
                  refine lv_iinc (v := nI (ib + 1)) (lv' := [(5, .int (nI (ib + 1))), (4, .int (nI ia)), (3, .int (nI k_bt)), (2, .int 0), (0, .ref (ad 0)), (1, .int (nI k_bt))]) hx hb (dkI DX12_plan (i := 48) rfl rfl rfl rfl) hl (k := 0) rfl (nI_1 _) (by decide) rfl (fun ls hl => ?_)
                  refine lv_goto (tgt := 37) hx hb (dkS dF_167 DX12_plan (i := 49) rfl rfl rfl) (by decide) ?_
                  exact ih30 (ib + 1) _ _ _ (by omega) (by omega) hw (lv_sub hl [0, 1, 2, 3, 4, 5] rfl)
                · skip
                  refine lv_aload_n hx hb (dkP dF_42 DX12_plan (i := 35) rfl rfl) rfl (lv_at hl 4 rfl) ?_
                  refine lv_iload hx hb (dk1 dF_21 DX12_plan (i := 36) rfl rfl rfl) (lv_at hl 1 rfl) ?_
                  refine lv_iload hx hb (dk1 dF_21 DX12_plan (i := 37) rfl rfl rfl) (lv_at hl 0 rfl) ?_
                  refine zk_I hw (zr_V (As := [.int (nI ia), .int (nI ib)]) (rest := []) C0 (c_X12_isNeed_g l G kc ad sM0 ia ib (by omega) (by omega) WZ0 _) cv_X12_isNeed lk_X12_455 (zp_V C0 hw 0 rfl rfl rfl) rfl hl.1 rfl ⟨by decide, by decide⟩ (Nat.le_of_ble_eq_true rfl) (dk2 dF_182 DX12_plan (i := 38) rfl rfl rfl) ⟨Nat.le_refl _, Nat.le_refl _⟩) (fun r33 s33 H locs hp hw => ?_)
                  obtain ⟨hq33, hs33⟩ := hp
                  subst hs33
                  rcases hq33 with ⟨rfl, hc33⟩ | ⟨rfl, hc33⟩
                  · exact False.elim hc33
                  · skip
                    refine lv_if_eq (tgt := 79) hx hb (dkS dF_153 DX12_plan (i := 39) rfl rfl rfl) (by decide) (fun _ => ?_) (fun h => absurd h (by decide))
                    refine lv_iinc (v := nI (ib + 1)) (lv' := [(5, .int (nI (ib + 1))), (4, .int (nI ia)), (3, .int (nI k_bt)), (2, .int 0), (0, .ref (ad 0)), (1, .int (nI k_bt))]) hx hb (dkI DX12_plan (i := 48) rfl rfl rfl rfl) hl (k := 0) rfl (nI_1 _) (by decide) rfl (fun ls hl => ?_)
                    refine lv_goto (tgt := 37) hx hb (dkS dF_167 DX12_plan (i := 49) rfl rfl rfl) (by decide) ?_
                    exact ih30 (ib + 1) _ _ _ (by omega) (by omega) hw (lv_sub hl [0, 1, 2, 3, 4, 5] rfl)
          exact lp30 _ 0 _ _ _ (Nat.lt_succ_self _) (by omega) hw (lv_sub hl [0, 1, 2, 3, 4, 5] rfl)
    exact lp3 _ 0 _ _ _ (Nat.lt_succ_self _) (by omega) hw (lv_sub hl [0, 1, 2, 3, 4] rfl)
  · skip
    refine lv_if_ne (tgt := 15) hx hb (dkS dF_154 DX12_plan (i := 5) rfl rfl rfl) (by decide) (fun h => absurd h (by decide)) (fun _ => ?_)
    refine lv_bipush (v := (-2)) hx hb (dks dF_16 DX12_plan (i := 6) rfl rfl rfl) (by decide) ?_
    exact z_iret C0 hr hlk hw (by first | rfl | ((try simp only [lg_cmp_lt, lg_cmp_le, lg_cmp_gt, lg_cmp_ge, lg_cmp_eq] at hc1); (try simp (disch := omega) only [ta_lt, ta_le, ta_eq, tb_lt, tb_le, tb_eq, tw, tnI, tn32 2 (by decide), tnj 2 (by decide), tn32 1 (by decide), tnj 1 (by decide), tl32 0 (by decide), tl64 0 (by decide), tl32 1 (by decide), tl64 1 (by decide), tl32 8 (by decide), tl64 8 (by decide), tl32 255 (by decide), tl64 255 (by decide)] at hc1); (try simp (disch := omega) only [tnI, tn32 2 (by decide), tnj 2 (by decide), tn32 1 (by decide), tnj 1 (by decide), tl32 0 (by decide), tl64 0 (by decide), tl32 1 (by decide), tl64 1 (by decide), tl32 8 (by decide), tl64 8 (by decide), tl32 255 (by decide), tl64 255 (by decide)]); (repeat' split) <;> first | rfl | omega | (apply Int32.toInt_inj.mp; simp (disch := omega) only [tnI, tn32 2 (by decide), tnj 2 (by decide), tn32 1 (by decide), tnj 1 (by decide), tl32 0 (by decide), tl64 0 (by decide), tl32 1 (by decide), tl64 1 (by decide), tl32 8 (by decide), tl64 8 (by decide), tl32 255 (by decide), tl64 255 (by decide)]; omega))) (dkP dF_172 DX12_plan (i := 7) rfl rfl)
