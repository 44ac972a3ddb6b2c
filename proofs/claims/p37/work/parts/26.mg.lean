theorem nI01 {n : Nat} (h : n ≤ 1) : nI n = 0 ∨ nI n = 1 := by
  rcases (by omega : n = 0 ∨ n = 1) with rfl | rfl
  · exact Or.inl rfl
  · exact Or.inr rfl
theorem nI01b {n : Nat} (h : n ≤ 1) : (nI n = 1 ∧ True) ∨ (nI n = 0 ∧ True) := by
  rcases nI01 h with e | e
  · exact Or.inr ⟨e, trivial⟩
  · exact Or.inl ⟨e, trivial⟩
theorem ty_pw0 {p c j : Nat} {x : Int} (hp : p < 8) (hc : c < 40) (hj : j < 8) (h : 0 ≤ x ∧ x ≤ 7) : tyM 1 (387880 + 10 * (8 * (40 * p + c) + j)) x := by
  show wTy _ x
  unfold wTy
  rw [if_neg (by omega), if_neg (by omega), if_neg (by omega), if_neg (by omega), if_neg (by omega), if_pos (by omega), if_pos (by omega)]
  exact h
theorem ty_pw1 {p c j i : Nat} {x : Int} (hp : p < 8) (hc : c < 40) (hj : j < 8) (hi : i < 9) : tyM 1 (387880 + 10 * (8 * (40 * p + c) + j) + 1 + i) x := by
  show wTy _ x
  unfold wTy
  rw [if_neg (by omega), if_neg (by omega), if_neg (by omega), if_neg (by omega), if_neg (by omega), if_pos (by omega), if_neg (by omega)]
  trivial
theorem ty_pw9 {p c j : Nat} {x : Int} (hp : p < 8) (hc : c < 40) (hj : j < 8) : tyM 1 (387880 + 10 * (8 * (40 * p + c) + j) + 9) x := by
  show wTy _ x
  unfold wTy
  rw [if_neg (by omega), if_neg (by omega), if_neg (by omega), if_neg (by omega), if_neg (by omega), if_pos (by omega), if_neg (by omega)]
  trivial
theorem ty_ct {p c : Nat} {x : Int} (hp : p < 8) (hc : c < 40) (h : 0 ≤ x ∧ x ≤ 100) : tyM 1 (3240 + 2 * (40 * p + c)) x := by
  show wTy _ x
  unfold wTy
  rw [if_neg (by omega), if_neg (by omega), if_neg (by omega), if_neg (by omega), if_pos (by omega), if_pos (by omega)]
  exact h
theorem ty_cp {p c : Nat} {x : Int} (hp : p < 8) (hc : c < 40) (h : 0 ≤ x ∧ x ≤ 8) : tyM 1 (3240 + 2 * (40 * p + c) + 1) x := by
  show wTy _ x
  unfold wTy
  rw [if_neg (by omega), if_neg (by omega), if_neg (by omega), if_neg (by omega), if_pos (by omega), if_neg (by omega)]
  exact h
theorem ty_w0 {p : Nat} {x : Int} (hp : p < 8) : tyM 1 (8 + 20 * p) x := by
  show wTy _ x
  unfold wTy
  rw [if_neg (by omega), if_neg (by omega), if_pos (by omega), if_neg (by omega), if_neg (by omega)]
  trivial
theorem ty_w3 {p : Nat} {x : Int} (hp : p < 8) : tyM 1 (8 + 20 * p + 3) x := by
  show wTy _ x
  unfold wTy
  rw [if_neg (by omega), if_neg (by omega), if_pos (by omega), if_neg (by omega), if_neg (by omega)]
  trivial
theorem ty_wr {j : Nat} {x : Int} (h1 : 8 ≤ j ∧ j < 168) (h2 : j % 20 ≠ 9) (h3 : j % 20 ≠ 10) : tyM 1 j x := by
  show wTy _ x
  unfold wTy
  rw [if_neg (by omega), if_neg (by omega), if_pos (by omega), if_neg (by omega), if_neg (by omega)]
  trivial
theorem ty_hi {j : Nat} {x : Int} (h : 413544 ≤ j) : tyM 1 j x := by
  show wTy _ x
  unfold wTy
  rw [if_neg (by omega), if_neg (by omega), if_neg (by omega), if_neg (by omega), if_neg (by omega), if_neg (by omega), if_neg (by omega)]
  trivial
theorem ty_ck {k : Nat} {x : Int} (h1 : 413480 ≤ k) (h2 : k < 413544) (h : -1 ≤ x ∧ x ≤ 999) : tyM 1 k x := by
  show wTy _ x
  unfold wTy
  rw [if_neg (by omega), if_neg (by omega), if_neg (by omega), if_neg (by omega), if_neg (by omega), if_neg (by omega), if_pos (by omega)]
  exact h
theorem ty_k {j : Nat} {x : Int} (h : j = 0 ∨ j = 1 ∨ j = 4) : tyM 1 j x := by
  rcases h with rfl | rfl | rfl <;> exact trivial
def cz (f : Nat → Int32) : Nat → Nat
  | 0 => 0
  | k + 1 => if f k = 0 then cz f k + 1 else cz f k
theorem cz_1 {f : Nat → Int32} {k : Nat} (h : f k = 0) : cz f (k + 1) = cz f k + 1 := by simp [cz, h]
theorem cz_0 {f : Nat → Int32} {k : Nat} (h : ¬ f k = 0) : cz f (k + 1) = cz f k := by simp [cz, h]
theorem cz_le {f : Nat → Int32} {a b : Nat} (h : a ≤ b) : cz f a ≤ cz f b := by
  induction b with
  | zero => rw [Nat.le_zero.mp h]; exact Nat.le_refl _
  | succ b ih =>
    by_cases e : a = b + 1
    · rw [e]; exact Nat.le_refl _
    · have h1 := ih (by omega)
      by_cases z : f b = 0
      · rw [cz_1 z]; omega
      · rw [cz_0 z]; exact h1

set_option maxRecDepth 100000 in
set_option maxHeartbeats 8000000 in
theorem c_X12_spanLow (l : Launch) (G : va_G) (kc : KC) (ad : Nat → Nat) (σ : Sg) (pg : Nat) (f : Nat) (hp8 : pg < 8) (hf8 : f < 8) (hT : TM σ) : MI l G kc yX12_spanLow cX12_spanLow 3 (some .int) 1 20 [.ref (ad 0), .int (nI pg), .int (nI f)] shM ad σ (fun r σ1 => σ1 = σ) := by
  intro sz
  refine z_body (y := yX12_spanLow) (n := 3) (av := [.ref (ad 0), .int (nI pg), .int (nI f)]) (Qc := fun A => va_Qi (fun r σ1 => σ1 = σ) (PoC G kc shM ad A) A) (plainFor_of_name (by decide)) (Nat.le_of_ble_eq_true rfl) (fun pr e s m below meth c A C0 hr hlk hnm hw hRo ls hl => ?_) sz
  have hx := C0.1
  have hb := C0.2.1
  have hown := C0.2.2.2.1
  have hts := C0.2.2.2.2.1
  have hl : lv_has ls 3 [(0, .ref (ad 0)), (1, .int (nI pg)), (2, .int (nI f))] := hl
  refine lv_aload_n hx hb (dkP dF_42 DX12_spanLow (i := 0) rfl rfl) rfl (lv_at hl 0 rfl) ?_
  refine z_gr C0 hw 0 1 1 rfl fl_X12_20 (dk2 dF_180 DX12_spanLow (i := 1) rfl rfl rfl) ?_
  refine lv_iload_n hx hb (dkP dF_27 DX12_spanLow (i := 2) rfl rfl) rfl (lv_at hl 1 rfl) ?_
  refine zn_I hw (zr_S (As := [.int (nI pg)]) (rest := [.ref (ad 1)]) C0 (c_X12_of l G kc pg  _) cs_X12_of lk_X12_139 (zp_P C0 hRo hw a00 s00) rfl hl.1 rfl ⟨by decide, by decide⟩ (Nat.le_of_ble_eq_true rfl) (dk2 dF_184 DX12_spanLow (i := 3) rfl rfl rfl) ⟨Nat.le_refl _, Nat.le_refl _⟩) (fun r1 s1 H locs hp hw => ?_)
  subst hp
  refine lv_iconst (v := 4) hx hb (dkP dF_7 DX12_spanLow (i := 4) rfl rfl) (by decide) ?_
  refine lv_iadd hx hb (dkP dF_96 DX12_spanLow (i := 5) rfl rfl) ?_
  refine z_top (y := nI ((8 + 20 * pg) + 4)) (by simp only [fa_lit, nI_add, pk_mul]) ?_
  refine lv_iconst (v := 2) hx hb (dkP dF_5 DX12_spanLow (i := 6) rfl rfl) (by decide) ?_
  refine lv_iload_n hx hb (dkP dF_28 DX12_spanLow (i := 7) rfl rfl) rfl (lv_at hl 2 rfl) ?_
  refine lv_imul hx hb (dkP dF_104 DX12_spanLow (i := 8) rfl rfl) ?_
  refine z_top (y := nI (2 * f)) (by simp only [fa_lit, nI_add, pk_mul]) ?_
  refine lv_iadd hx hb (dkP dF_96 DX12_spanLow (i := 9) rfl rfl) ?_
  refine z_top (y := nI (((8 + 20 * pg) + 4) + (2 * f))) (by simp only [fa_lit, nI_add, pk_mul]) ?_
  refine z_ialdN (n := 414128) C0 hw 1 (((8 + 20 * pg) + 4) + (2 * f)) rfl (by omega) (by decide) (dkP dF_46 DX12_spanLow (i := 10) rfl rfl) ?_
  obtain ⟨v2, ev2⟩ : ∃ y : Int32, σ.1 1 (((8 + 20 * pg) + 4) + (2 * f)) = y := ⟨_, rfl⟩
  refine z_top (y := v2) ev2 ?_
  exact z_iret C0 hr hlk hw rfl (dkP dF_172 DX12_spanLow (i := 11) rfl rfl)
set_option maxRecDepth 100000 in
set_option maxHeartbeats 8000000 in
theorem c_X12_spanMany (l : Launch) (G : va_G) (kc : KC) (ad : Nat → Nat) (σ : Sg) (pg : Nat) (f : Nat) (hp8 : pg < 8) (hf8 : f < 8) (hT : TM σ) : MI l G kc yX12_spanMany cX12_spanMany 3 (some .int) 2 42 [.ref (ad 0), .int (nI pg), .int (nI f)] shM ad σ (fun r σ1 => (0 ≤ r.toInt ∧ r.toInt ≤ 2147483647) ∧ σ1 = σ) := by
  intro sz
  refine z_body (y := yX12_spanMany) (n := 3) (av := [.ref (ad 0), .int (nI pg), .int (nI f)]) (Qc := fun A => va_Qi (fun r σ1 => (0 ≤ r.toInt ∧ r.toInt ≤ 2147483647) ∧ σ1 = σ) (PoC G kc shM ad A) A) (plainFor_of_name (by decide)) (Nat.le_of_ble_eq_true rfl) (fun pr e s m below meth c A C0 hr hlk hnm hw hRo ls hl => ?_) sz
  have hx := C0.1
  have hb := C0.2.1
  have hown := C0.2.2.2.1
  have hts := C0.2.2.2.2.1
  have hl : lv_has ls 3 [(0, .ref (ad 0)), (1, .int (nI pg)), (2, .int (nI f))] := hl
  refine lv_iconst (v := 0) hx hb (dkP dF_3 DX12_spanMany (i := 0) rfl rfl) (by decide) ?_
  refine lv_aload_n hx hb (dkP dF_42 DX12_spanMany (i := 1) rfl rfl) rfl (lv_at hl 0 rfl) ?_
  refine z_gr C0 hw 0 1 1 rfl fl_X12_20 (dk2 dF_180 DX12_spanMany (i := 2) rfl rfl rfl) ?_
  refine lv_iload_n hx hb (dkP dF_27 DX12_spanMany (i := 3) rfl rfl) rfl (lv_at hl 1 rfl) ?_
  refine zn_I hw (zr_S (As := [.int (nI pg)]) (rest := [.ref (ad 1), .int 0]) C0 (c_X12_of l G kc pg  _) cs_X12_of lk_X12_139 (zp_P C0 hRo hw a00 s00) rfl hl.1 rfl ⟨by decide, by decide⟩ (Nat.le_of_ble_eq_true rfl) (dk2 dF_184 DX12_spanMany (i := 4) rfl rfl rfl) ⟨Nat.le_refl _, Nat.le_refl _⟩) (fun r1 s1 H locs hp hw => ?_)
  subst hp
  refine lv_iconst (v := 4) hx hb (dkP dF_7 DX12_spanMany (i := 5) rfl rfl) (by decide) ?_
  refine lv_iadd hx hb (dkP dF_96 DX12_spanMany (i := 6) rfl rfl) ?_
  refine z_top (y := nI ((8 + 20 * pg) + 4)) (by simp only [fa_lit, nI_add, pk_mul]) ?_
  refine lv_iconst (v := 2) hx hb (dkP dF_5 DX12_spanMany (i := 7) rfl rfl) (by decide) ?_
  refine lv_iload_n hx hb (dkP dF_28 DX12_spanMany (i := 8) rfl rfl) rfl (lv_at hl 2 rfl) ?_
  refine lv_imul hx hb (dkP dF_104 DX12_spanMany (i := 9) rfl rfl) ?_
  refine z_top (y := nI (2 * f)) (by simp only [fa_lit, nI_add, pk_mul]) ?_
  refine lv_iadd hx hb (dkP dF_96 DX12_spanMany (i := 10) rfl rfl) ?_
  refine z_top (y := nI (((8 + 20 * pg) + 4) + (2 * f))) (by simp only [fa_lit, nI_add, pk_mul]) ?_
  refine lv_iconst (v := 1) hx hb (dkP dF_4 DX12_spanMany (i := 11) rfl rfl) (by decide) ?_
  refine lv_iadd hx hb (dkP dF_96 DX12_spanMany (i := 12) rfl rfl) ?_
  refine z_top (y := nI ((((8 + 20 * pg) + 4) + (2 * f)) + 1)) (by simp only [fa_lit, nI_add, pk_mul]) ?_
  refine z_ialdN (n := 414128) C0 hw 1 ((((8 + 20 * pg) + 4) + (2 * f)) + 1) rfl (by omega) (by decide) (dkP dF_46 DX12_spanMany (i := 13) rfl rfl) ?_
  obtain ⟨v2, ev2⟩ : ∃ y : Int32, σ.1 1 ((((8 + 20 * pg) + 4) + (2 * f)) + 1) = y := ⟨_, rfl⟩
  refine z_top (y := v2) ev2 ?_
  refine lv_aload_n hx hb (dkP dF_42 DX12_spanMany (i := 14) rfl rfl) rfl (lv_at hl 0 rfl) ?_
  refine lv_iload_n hx hb (dkP dF_27 DX12_spanMany (i := 15) rfl rfl) rfl (lv_at hl 1 rfl) ?_
  refine lv_iload_n hx hb (dkP dF_28 DX12_spanMany (i := 16) rfl rfl) rfl (lv_at hl 2 rfl) ?_
  refine zk_I hw (zr_V (As := [.int (nI pg), .int (nI f)]) (rest := [.int v2, .int 0]) C0 (c_X12_spanLow l G kc ad σ pg f (by first | omega | assumption | decide | rfl) (by first | omega | assumption | decide | rfl) hT _) cv_X12_spanLow lk_X12_323 (zp_V C0 hRo hw 0 rfl rfl rfl) rfl hl.1 rfl ⟨by decide, by decide⟩ (Nat.le_of_ble_eq_true rfl) (dk2 dF_182 DX12_spanMany (i := 17) rfl rfl rfl) ⟨Nat.le_refl _, Nat.le_refl _⟩) (fun r3 s3 H locs hp hw => ?_)
  have hs3 := hp
  (rw [hs3] at hw)
  refine lv_isub hx hb (dkP dF_100 DX12_spanMany (i := 18) rfl rfl) ?_
  refine lv_iconst (v := 1) hx hb (dkP dF_4 DX12_spanMany (i := 19) rfl rfl) (by decide) ?_
  refine lv_iadd hx hb (dkP dF_96 DX12_spanMany (i := 20) rfl rfl) ?_
  refine zn_I hw (zr_S (As := [.int 0, .int ((v2 - r3) + 1)]) (rest := []) C0 (c_J9_max_7cf53 l G kc 0 ((v2 - r3) + 1)  _) cs_J9_max_7cf53 lk_X12_326 (zp_P C0 hRo hw a00 s00) rfl hl.1 rfl ⟨by decide, by decide⟩ (Nat.le_of_ble_eq_true rfl) (dk2 dF_184 DX12_spanMany (i := 21) rfl rfl rfl) ⟨Nat.le_refl _, Nat.le_refl _⟩) (fun r4 s4 H locs hp hw => ?_)
  subst hp
  exact z_iret C0 hr hlk hw (⟨(mx0 _), rfl⟩) (dkP dF_172 DX12_spanMany (i := 22) rfl rfl)
set_option maxRecDepth 100000 in
set_option maxHeartbeats 8000000 in
theorem c_X12_inputsOf (l : Launch) (G : va_G) (kc : KC) (ad : Nat → Nat) (σ : Sg) (pg : Nat) (hp8 : pg < 8) (hT : TM σ) : MI l G kc yX12_inputsOf cX12_inputsOf 4 (some .int) 3 64 [.ref (ad 0), .int (nI pg)] shM ad σ (fun r σ1 => σ1 = σ) := by
  intro sz
  refine z_body (y := yX12_inputsOf) (n := 4) (av := [.ref (ad 0), .int (nI pg)]) (Qc := fun A => va_Qi (fun r σ1 => σ1 = σ) (PoC G kc shM ad A) A) (plainFor_of_name (by decide)) (Nat.le_of_ble_eq_true rfl) (fun pr e s m below meth c A C0 hr hlk hnm hw hRo ls hl => ?_) sz
  have hx := C0.1
  have hb := C0.2.1
  have hown := C0.2.2.2.1
  have hts := C0.2.2.2.2.1
  have hl : lv_has ls 4 [(0, .ref (ad 0)), (1, .int (nI pg))] := hl
  refine lv_iconst (v := 1) hx hb (dkP dF_4 DX12_inputsOf (i := 0) rfl rfl) (by decide) ?_
  refine lv_istore_n (lv' := [(2, .int 1), (0, .ref (ad 0)), (1, .int (nI pg))]) hx hb (dkP dF_61 DX12_inputsOf (i := 1) rfl rfl) rfl hl (by decide) rfl (fun ls hl => ?_)
  refine lv_iconst (v := 0) hx hb (dkP dF_3 DX12_inputsOf (i := 2) rfl rfl) (by decide) ?_
  refine lv_istore_n (lv' := [(3, .int 0), (2, .int 1), (0, .ref (ad 0)), (1, .int (nI pg))]) hx hb (dkP dF_62 DX12_inputsOf (i := 3) rfl rfl) rfl hl (by decide) rfl (fun ls hl => ?_)
  have lp1 : ∀ (nq : Nat) (q3_4 : Nat) (q2_4 : Int32) (H : Heap) (locs : List Loc) (ls : Array Slot), 8 - q3_4 < nq → (q3_4 ≤ 8) → St G kc A s.heap shM ad σ H locs → lv_has ls 4 [(3, .int (nI q3_4)), (2, .int q2_4), (0, .ref (ad 0)), (1, .int (nI pg))] → W pr l e { frames := 3, cells := 0, slots := 0, locals := 64 } s m ([.ref (ad 0), .int (nI pg)] : List Value).toArray below meth c H locs 0 0 (MQ below (va_Qi (fun r σ1 => σ1 = σ) (PoC G kc shM ad A) A) ([.ref (ad 0), .int (nI pg)] : List Value).toArray s 0 0 A) (F0 m 4 ls []) := by
    intro nq
    induction nq with
    | zero => intro q3_4 q2_4 H locs ls hmu; exact absurd hmu (Nat.not_lt_zero _)
    | succ nq ih1 =>
      intro q3_4 q2_4 H locs ls hmu hq3_4 hw hl
      refine lv_iload_n hx hb (dkP dF_29 DX12_inputsOf (i := 4) rfl rfl) rfl (lv_at hl 0 rfl) ?_
      refine lv_bipush (v := 8) hx hb (dks dF_16 DX12_inputsOf (i := 5) rfl rfl rfl) (by decide) ?_
      refine lv_icmp_ge (tgt := 29) hx hb (dkS dF_162 DX12_inputsOf (i := 6) rfl rfl rfl) (by decide) (fun c2 => ?_) (fun c2 => ?_)
      · simp (disch := omega) only [ta_lt, ta_le, ta_eq, tnI, tl32 8 (by decide)] at c2
        refine lv_iload_n hx hb (dkP dF_28 DX12_inputsOf (i := 18) rfl rfl) rfl (lv_at hl 1 rfl) ?_
        exact z_iret C0 hr hlk hw rfl (dkP dF_172 DX12_inputsOf (i := 19) rfl rfl)
      · simp (disch := omega) only [ta_lt, ta_le, ta_eq, tnI, tl32 8 (by decide)] at c2
        refine lv_iload_n hx hb (dkP dF_28 DX12_inputsOf (i := 7) rfl rfl) rfl (lv_at hl 1 rfl) ?_
        refine lv_iconst (v := 1) hx hb (dkP dF_4 DX12_inputsOf (i := 8) rfl rfl) (by decide) ?_
        refine lv_aload_n hx hb (dkP dF_42 DX12_inputsOf (i := 9) rfl rfl) rfl (lv_at hl 2 rfl) ?_
        refine lv_iload_n hx hb (dkP dF_27 DX12_inputsOf (i := 10) rfl rfl) rfl (lv_at hl 3 rfl) ?_
        refine lv_iload_n hx hb (dkP dF_29 DX12_inputsOf (i := 11) rfl rfl) rfl (lv_at hl 0 rfl) ?_
        refine zk_I hw (zr_V (As := [.int (nI pg), .int (nI q3_4)]) (rest := [.int 1, .int q2_4]) C0 (c_X12_spanMany l G kc ad σ pg q3_4 (by first | omega | assumption | decide | rfl) (by first | omega | assumption | decide | rfl) hT _) cv_X12_spanMany lk_X12_329 (zp_V C0 hRo hw 0 rfl rfl rfl) rfl hl.1 rfl ⟨by decide, by decide⟩ (Nat.le_of_ble_eq_true rfl) (dk2 dF_182 DX12_inputsOf (i := 12) rfl rfl rfl) ⟨Nat.le_refl _, Nat.le_refl _⟩) (fun r3 s3 H locs hp hw => ?_)
        obtain ⟨f3_0, hs3⟩ := hp
        (rw [hs3] at hw)
        obtain ⟨n3, hn3, rfl⟩ := rngN (h := 2147483647) f3_0
        refine zn_I hw (zr_S (As := [.int 1, .int (nI n3)]) (rest := [.int q2_4]) C0 (c_J9_max_7cf53 l G kc 1 (nI n3)  _) cs_J9_max_7cf53 lk_X12_326 (zp_P C0 hRo hw a00 s00) rfl hl.1 rfl ⟨by decide, by decide⟩ (Nat.le_of_ble_eq_true rfl) (dk2 dF_184 DX12_inputsOf (i := 13) rfl rfl rfl) ⟨Nat.le_refl _, Nat.le_refl _⟩) (fun r4 s4 H locs hp hw => ?_)
        subst hp
        refine lv_imul hx hb (dkP dF_104 DX12_inputsOf (i := 14) rfl rfl) ?_
        refine lv_topi (fun v5 ev5 => ?_)
        refine lv_istore_n (lv' := [(2, .int v5), (3, .int (nI q3_4)), (0, .ref (ad 0)), (1, .int (nI pg))]) hx hb (dkP dF_61 DX12_inputsOf (i := 15) rfl rfl) rfl hl (by decide) rfl (fun ls hl => ?_)
        refine lv_iinc (v := nI (q3_4 + 1)) (lv' := [(3, .int (nI (q3_4 + 1))), (2, .int v5), (0, .ref (ad 0)), (1, .int (nI pg))]) hx hb (dkI DX12_inputsOf (i := 16) rfl rfl rfl rfl) hl (k := 1) rfl (nI_1 _) (by decide) rfl (fun ls hl => ?_)
        refine lv_goto (tgt := 4) hx hb (dkS dF_167 DX12_inputsOf (i := 17) rfl rfl rfl) (by decide) ?_
        exact ih1 (q3_4 + 1) v5 _ _ _ (by omega) (by (try simp only [lg_cmp_lt, lg_cmp_le, lg_cmp_gt, lg_cmp_ge, lg_cmp_eq] at c2); (try simp (disch := omega) only [ta_lt, ta_le, ta_eq, tb_lt, tb_le, tb_eq, tw, tnI, tsub1, tsv, tn32 1 (by decide), tnj 1 (by decide), tl32 0 (by decide), tl64 0 (by decide), tl32 1 (by decide), tl64 1 (by decide), tl32 8 (by decide), tl64 8 (by decide)] at c2); (try simp only [lg_cmp_lt, lg_cmp_le, lg_cmp_gt, lg_cmp_ge, lg_cmp_eq] at f3_0); (try simp (disch := omega) only [ta_lt, ta_le, ta_eq, tb_lt, tb_le, tb_eq, tw, tnI, tsub1, tsv, tn32 1 (by decide), tnj 1 (by decide), tl32 0 (by decide), tl64 0 (by decide), tl32 1 (by decide), tl64 1 (by decide), tl32 8 (by decide), tl64 8 (by decide)] at f3_0); (try simp (disch := omega) only [ta_lt, ta_le, ta_eq, tb_lt, tb_le, tb_eq, tw, tnI, tsub1, tsv, tn32 1 (by decide), tnj 1 (by decide), tl32 0 (by decide), tl64 0 (by decide), tl32 1 (by decide), tl64 1 (by decide), tl32 8 (by decide), tl64 8 (by decide)]); omega) hw (lv_sub hl [0, 1, 2, 3] rfl)
  exact lp1 _ 0 1 _ _ _ (Nat.lt_succ_self _) (by (try simp (disch := omega) only [ta_lt, ta_le, ta_eq, tb_lt, tb_le, tb_eq, tw, tnI, tsub1, tsv, tn32 1 (by decide), tnj 1 (by decide), tl32 0 (by decide), tl64 0 (by decide), tl32 1 (by decide), tl64 1 (by decide), tl32 8 (by decide), tl64 8 (by decide)]); omega) hw (lv_sub hl [0, 1, 2, 3] rfl)
set_option maxRecDepth 100000 in
set_option maxHeartbeats 8000000 in
theorem c_X12_isInput (l : Launch) (G : va_G) (kc : KC) (ad : Nat → Nat) (σ : Sg) (pg : Nat) (input : Int32) (hp8 : pg < 8) (hT : TM σ) : MI l G kc yX12_isInput cX12_isInput 3 (some .boolean) 4 87 [.ref (ad 0), .int (nI pg), .int input] shM ad σ (fun r σ1 => ((r = 1 ∧ (0 ≤ input.toInt)) ∨ (r = 0 ∧ (True))) ∧ σ1 = σ) := by
  intro sz
  refine z_body (y := yX12_isInput) (n := 3) (av := [.ref (ad 0), .int (nI pg), .int input]) (Qc := fun A => va_Qi (fun r σ1 => ((r = 1 ∧ (0 ≤ input.toInt)) ∨ (r = 0 ∧ (True))) ∧ σ1 = σ) (PoC G kc shM ad A) A) (plainFor_of_name (by decide)) (Nat.le_of_ble_eq_true rfl) (fun pr e s m below meth c A C0 hr hlk hnm hw hRo ls hl => ?_) sz
  have hx := C0.1
  have hb := C0.2.1
  have hown := C0.2.2.2.1
  have hts := C0.2.2.2.2.1
  have hl : lv_has ls 3 [(0, .ref (ad 0)), (1, .int (nI pg)), (2, .int input)] := hl
  refine lv_iload_n hx hb (dkP dF_28 DX12_isInput (i := 0) rfl rfl) rfl (lv_at hl 2 rfl) ?_
  refine lv_i2l hx hb (dkP dF_133 DX12_isInput (i := 1) rfl rfl) rfl ?_
  refine lv_lconst (v := 0) hx hb (dkP dF_9 DX12_isInput (i := 2) rfl rfl) (by decide) ?_
  refine lv_aload_n hx hb (dkP dF_42 DX12_isInput (i := 3) rfl rfl) rfl (lv_at hl 0 rfl) ?_
  refine lv_iload_n hx hb (dkP dF_27 DX12_isInput (i := 4) rfl rfl) rfl (lv_at hl 1 rfl) ?_
  refine zk_I hw (zr_V (As := [.int (nI pg)]) (rest := [.long 0, .long input.toInt64]) C0 (c_X12_inputsOf l G kc ad σ pg (by first | omega | assumption | decide | rfl) hT _) cv_X12_inputsOf lk_X12_339 (zp_V C0 hRo hw 0 rfl rfl rfl) rfl hl.1 rfl ⟨by decide, by decide⟩ (Nat.le_of_ble_eq_true rfl) (dk2 dF_182 DX12_isInput (i := 5) rfl rfl rfl) ⟨Nat.le_refl _, Nat.le_refl _⟩) (fun r1 s1 H locs hp hw => ?_)
  have hs1 := hp
  (rw [hs1] at hw)
  refine lv_iconst (v := 1) hx hb (dkP dF_4 DX12_isInput (i := 6) rfl rfl) (by decide) ?_
  refine lv_isub hx hb (dkP dF_100 DX12_isInput (i := 7) rfl rfl) ?_
  refine lv_i2l hx hb (dkP dF_133 DX12_isInput (i := 8) rfl rfl) rfl ?_
  refine zn_I hw (zr_S (As := [.long input.toInt64, .long 0, .long ((r1 - 1).toInt64)]) (rest := []) C0 (c_X12_in l G kc input.toInt64 0 ((r1 - 1).toInt64)  _) cs_X12_in lk_X12_9 (zp_P C0 hRo hw a00 s00) rfl hl.1 rfl ⟨by decide, by decide⟩ (Nat.le_of_ble_eq_true rfl) (dk2 dF_184 DX12_isInput (i := 9) rfl rfl rfl) ⟨Nat.le_refl _, Nat.le_refl _⟩) (fun r2 s2 H locs hp hw => ?_)
  rcases hp with ⟨rfl, hc2⟩ | ⟨rfl, hc2⟩
  · skip
    (try simp (disch := omega) only [ta_lt, ta_le, ta_eq, tb_lt, tb_le, tb_eq, tw, tnI, tn32 1 (by decide), tnj 1 (by decide), tl32 0 (by decide), tl64 0 (by decide), tl32 1 (by decide), tl64 1 (by decide)] at hc2)
    exact z_zret C0 hr hlk (by decide) hw (⟨(Or.inl ⟨rfl, (by have h := hc2; omega)⟩), rfl⟩) (dkP dF_172 DX12_isInput (i := 10) rfl rfl)
  · skip
    (try simp (disch := omega) only [ta_lt, ta_le, ta_eq, tb_lt, tb_le, tb_eq, tw, tnI, tn32 1 (by decide), tnj 1 (by decide), tl32 0 (by decide), tl64 0 (by decide), tl32 1 (by decide), tl64 1 (by decide)] at hc2)
    exact z_zret C0 hr hlk (by decide) hw (⟨(Or.inr ⟨rfl, trivial⟩), rfl⟩) (dkP dF_172 DX12_isInput (i := 10) rfl rfl)
set_option maxRecDepth 100000 in
set_option maxHeartbeats 8000000 in
theorem c_X12_span (l : Launch) (G : va_G) (kc : KC) (ad : Nat → Nat) (σ : Sg) (program : Int32) (field : Int32) (low : Int32) (high : Int32) (hT : TM σ) : MI l G kc yX12_span cX12_span 9 (some .int) 3 64 [.ref (ad 0), .int program, .int field, .int low, .int high] shM ad σ (fun r σ1 => TM σ1 ∧ fr true [1] [] σ σ1) := by
  intro sz
  refine z_body (y := yX12_span) (n := 9) (av := [.ref (ad 0), .int program, .int field, .int low, .int high]) (Qc := fun A => va_Qi (fun r σ1 => TM σ1 ∧ fr true [1] [] σ σ1) (PoC G kc shM ad A) A) (plainFor_of_name (by decide)) (Nat.le_of_ble_eq_true rfl) (fun pr e s m below meth c A C0 hr hlk hnm hw hRo ls hl => ?_) sz
  have hx := C0.1
  have hb := C0.2.1
  have hown := C0.2.2.2.1
  have hts := C0.2.2.2.2.1
  have hl : lv_has ls 9 [(0, .ref (ad 0)), (1, .int program), (2, .int field), (3, .int low), (4, .int high)] := hl
  refine lv_iload_n hx hb (dkP dF_27 DX12_span (i := 0) rfl rfl) rfl (lv_at hl 1 rfl) ?_
  refine zn_I hw (zr_S (As := [.int program]) (rest := []) C0 (c_X12_isProgram l G kc program  _) cs_X12_isProgram lk_X12_272 (zp_P C0 hRo hw a00 s00) rfl hl.1 rfl ⟨by decide, by decide⟩ (Nat.le_of_ble_eq_true rfl) (dk2 dF_184 DX12_span (i := 1) rfl rfl rfl) ⟨Nat.le_refl _, Nat.le_refl _⟩) (fun r1 s1 H locs hp hw => ?_)
  rcases hp with ⟨rfl, hc1⟩ | ⟨rfl, hc1⟩
  · skip
    (try simp (disch := omega) only [ta_lt, ta_le, ta_eq, tb_lt, tb_le, tb_eq, tw, tnI, tn32 1 (by decide), tnj 1 (by decide), tl32 0 (by decide), tl64 0 (by decide)] at hc1)
    obtain ⟨k_program, hk_program, rfl⟩ := to_nat (x := program) (n := 8) (by (try simp only [lg_cmp_lt, lg_cmp_le, lg_cmp_gt, lg_cmp_ge, lg_cmp_eq] at hc1); (try simp (disch := omega) only [ta_lt, ta_le, ta_eq, tb_lt, tb_le, tb_eq, tw, tnI, tn32 1 (by decide), tnj 1 (by decide), tl32 0 (by decide), tl64 0 (by decide)] at hc1); (try simp (disch := omega) only [ta_lt, ta_le, ta_eq, tb_lt, tb_le, tb_eq, tw, tnI, tn32 1 (by decide), tnj 1 (by decide), tl32 0 (by decide), tl64 0 (by decide)]); omega)
    refine lv_if_eq (tgt := 52) hx hb (dkS dF_153 DX12_span (i := 2) rfl rfl rfl) (by decide) (fun h => absurd h (by decide)) (fun _ => ?_)
    refine lv_iload_n hx hb (dkP dF_28 DX12_span (i := 3) rfl rfl) rfl (lv_at hl 2 rfl) ?_
    refine zn_I hw (zr_S (As := [.int field]) (rest := []) C0 (c_X12_isField l G kc field  _) cs_X12_isField lk_X12_332 (zp_P C0 hRo hw a00 s00) rfl hl.1 rfl ⟨by decide, by decide⟩ (Nat.le_of_ble_eq_true rfl) (dk2 dF_184 DX12_span (i := 4) rfl rfl rfl) ⟨Nat.le_refl _, Nat.le_refl _⟩) (fun r2 s2 H locs hp hw => ?_)
    rcases hp with ⟨rfl, hc2⟩ | ⟨rfl, hc2⟩
    · skip
      (try simp (disch := omega) only [ta_lt, ta_le, ta_eq, tb_lt, tb_le, tb_eq, tw, tnI, tn32 1 (by decide), tnj 1 (by decide), tl32 0 (by decide), tl64 0 (by decide)] at hc2)
      obtain ⟨k_field, hk_field, rfl⟩ := to_nat (x := field) (n := 8) (by (try simp only [lg_cmp_lt, lg_cmp_le, lg_cmp_gt, lg_cmp_ge, lg_cmp_eq] at hc1); (try simp (disch := omega) only [ta_lt, ta_le, ta_eq, tb_lt, tb_le, tb_eq, tw, tnI, tn32 1 (by decide), tnj 1 (by decide), tl32 0 (by decide), tl64 0 (by decide)] at hc1); (try simp only [lg_cmp_lt, lg_cmp_le, lg_cmp_gt, lg_cmp_ge, lg_cmp_eq] at hk_program); (try simp (disch := omega) only [ta_lt, ta_le, ta_eq, tb_lt, tb_le, tb_eq, tw, tnI, tn32 1 (by decide), tnj 1 (by decide), tl32 0 (by decide), tl64 0 (by decide)] at hk_program); (try simp only [lg_cmp_lt, lg_cmp_le, lg_cmp_gt, lg_cmp_ge, lg_cmp_eq] at hc2); (try simp (disch := omega) only [ta_lt, ta_le, ta_eq, tb_lt, tb_le, tb_eq, tw, tnI, tn32 1 (by decide), tnj 1 (by decide), tl32 0 (by decide), tl64 0 (by decide)] at hc2); (try simp (disch := omega) only [ta_lt, ta_le, ta_eq, tb_lt, tb_le, tb_eq, tw, tnI, tn32 1 (by decide), tnj 1 (by decide), tl32 0 (by decide), tl64 0 (by decide)]); omega)
      refine lv_if_eq (tgt := 52) hx hb (dkS dF_153 DX12_span (i := 5) rfl rfl rfl) (by decide) (fun h => absurd h (by decide)) (fun _ => ?_)
      refine lv_iload_n hx hb (dkP dF_29 DX12_span (i := 6) rfl rfl) rfl (lv_at hl 3 rfl) ?_
      refine lv_i2l hx hb (dkP dF_133 DX12_span (i := 7) rfl rfl) rfl ?_
      refine lv_ldc2 hx hb hown (hts _ kn_X12_335) (dk2 dF_20 DX12_span (i := 8) rfl rfl rfl) ?_
      refine lv_ldc2 hx hb hown (hts _ kn_X12_337) (dk2 dF_20 DX12_span (i := 9) rfl rfl rfl) ?_
      refine zn_I hw (zr_S (As := [.long low.toInt64, .long (-99), .long 99]) (rest := []) C0 (c_X12_in l G kc low.toInt64 (-99) 99  _) cs_X12_in lk_X12_9 (zp_P C0 hRo hw a00 s00) rfl hl.1 rfl ⟨by decide, by decide⟩ (Nat.le_of_ble_eq_true rfl) (dk2 dF_184 DX12_span (i := 10) rfl rfl rfl) ⟨Nat.le_refl _, Nat.le_refl _⟩) (fun r3 s3 H locs hp hw => ?_)
      rcases hp with ⟨rfl, hc3⟩ | ⟨rfl, hc3⟩
      · skip
        (try simp (disch := omega) only [ta_lt, ta_le, ta_eq, tb_lt, tb_le, tb_eq, tw, tnI, tn32 99 (by decide), tnj 99 (by decide), tn32 1 (by decide), tnj 1 (by decide), tl32 0 (by decide), tl64 0 (by decide), tl32 99 (by decide), tl64 99 (by decide)] at hc3)
        refine lv_if_eq (tgt := 52) hx hb (dkS dF_153 DX12_span (i := 11) rfl rfl rfl) (by decide) (fun h => absurd h (by decide)) (fun _ => ?_)
        refine lv_iload hx hb (dk1 dF_21 DX12_span (i := 12) rfl rfl rfl) (lv_at hl 4 rfl) ?_
        refine lv_i2l hx hb (dkP dF_133 DX12_span (i := 13) rfl rfl) rfl ?_
        refine lv_ldc2 hx hb hown (hts _ kn_X12_335) (dk2 dF_20 DX12_span (i := 14) rfl rfl rfl) ?_
        refine lv_ldc2 hx hb hown (hts _ kn_X12_337) (dk2 dF_20 DX12_span (i := 15) rfl rfl rfl) ?_
        refine zn_I hw (zr_S (As := [.long high.toInt64, .long (-99), .long 99]) (rest := []) C0 (c_X12_in l G kc high.toInt64 (-99) 99  _) cs_X12_in lk_X12_9 (zp_P C0 hRo hw a00 s00) rfl hl.1 rfl ⟨by decide, by decide⟩ (Nat.le_of_ble_eq_true rfl) (dk2 dF_184 DX12_span (i := 16) rfl rfl rfl) ⟨Nat.le_refl _, Nat.le_refl _⟩) (fun r4 s4 H locs hp hw => ?_)
        rcases hp with ⟨rfl, hc4⟩ | ⟨rfl, hc4⟩
        · skip
          (try simp (disch := omega) only [ta_lt, ta_le, ta_eq, tb_lt, tb_le, tb_eq, tw, tnI, tn32 99 (by decide), tnj 99 (by decide), tn32 1 (by decide), tnj 1 (by decide), tl32 0 (by decide), tl64 0 (by decide), tl32 99 (by decide), tl64 99 (by decide)] at hc4)
          refine lv_if_eq (tgt := 52) hx hb (dkS dF_153 DX12_span (i := 17) rfl rfl rfl) (by decide) (fun h => absurd h (by decide)) (fun _ => ?_)
          refine lv_aload_n hx hb (dkP dF_42 DX12_span (i := 18) rfl rfl) rfl (lv_at hl 0 rfl) ?_
          refine lv_iload_n hx hb (dkP dF_27 DX12_span (i := 19) rfl rfl) rfl (lv_at hl 1 rfl) ?_
          refine zk_I hw (zr_V (As := [.int (nI k_program)]) (rest := []) C0 (c_X12_stateOf l G kc ad σ k_program (by first | omega | assumption | decide | rfl) _) cv_X12_stateOf lk_X12_275 (zp_V C0 hRo hw 0 rfl rfl rfl) rfl hl.1 rfl ⟨by decide, by decide⟩ (Nat.le_of_ble_eq_true rfl) (dk2 dF_182 DX12_span (i := 20) rfl rfl rfl) ⟨Nat.le_refl _, Nat.le_refl _⟩) (fun r5 s5 H locs hp hw => ?_)
          obtain ⟨rfl, hs5⟩ := hp
          (rw [hs5] at hw; clear hs5)
          obtain ⟨v6, ev6⟩ : ∃ y : Int32, σ.1 1 (8 + 20 * k_program) = y := ⟨_, rfl⟩
          refine z_top (y := v6) ev6 ?_
          refine lv_iconst (v := 1) hx hb (dkP dF_4 DX12_span (i := 21) rfl rfl) (by decide) ?_
          refine lv_icmp_le (tgt := 55) hx hb (dkS dF_164 DX12_span (i := 22) rfl rfl rfl) (by decide) (fun c7 => ?_) (fun c7 => ?_)
          · (try simp (disch := omega) only [ta_lt, ta_le, ta_eq, tnI, tl32 1 (by decide)] at c7)
            refine lv_iconst (v := 0) hx hb (dkP dF_3 DX12_span (i := 25) rfl rfl) (by decide) ?_
            refine lv_iload hx hb (dk1 dF_21 DX12_span (i := 26) rfl rfl rfl) (lv_at hl 4 rfl) ?_
            refine lv_iload_n hx hb (dkP dF_29 DX12_span (i := 27) rfl rfl) rfl (lv_at hl 3 rfl) ?_
            refine lv_isub hx hb (dkP dF_100 DX12_span (i := 28) rfl rfl) ?_
            refine lv_iconst (v := 1) hx hb (dkP dF_4 DX12_span (i := 29) rfl rfl) (by decide) ?_
            refine lv_iadd hx hb (dkP dF_96 DX12_span (i := 30) rfl rfl) ?_
            refine zn_I hw (zr_S (As := [.int 0, .int ((high - low) + 1)]) (rest := []) C0 (c_J9_max_7cf53 l G kc 0 ((high - low) + 1)  _) cs_J9_max_7cf53 lk_X12_326 (zp_P C0 hRo hw a00 s00) rfl hl.1 rfl ⟨by decide, by decide⟩ (Nat.le_of_ble_eq_true rfl) (dk2 dF_184 DX12_span (i := 31) rfl rfl rfl) ⟨Nat.le_refl _, Nat.le_refl _⟩) (fun r8 s8 H locs hp hw => ?_)
            subst hp
            refine lv_topi (fun v9 ev9 => ?_)
            refine lv_istore (lv' := [(5, .int v9), (0, .ref (ad 0)), (1, .int (nI k_program)), (2, .int (nI k_field)), (3, .int low), (4, .int high)]) hx hb (dk1 dF_54 DX12_span (i := 32) rfl rfl rfl) hl (by decide) rfl (fun ls hl => ?_)
            refine lv_iconst (v := 0) hx hb (dkP dF_3 DX12_span (i := 33) rfl rfl) (by decide) ?_
            refine lv_istore (lv' := [(6, .int 0), (5, .int v9), (0, .ref (ad 0)), (1, .int (nI k_program)), (2, .int (nI k_field)), (3, .int low), (4, .int high)]) hx hb (dk1 dF_54 DX12_span (i := 34) rfl rfl rfl) hl (by decide) rfl (fun ls hl => ?_)
            refine lv_iconst (v := 1) hx hb (dkP dF_4 DX12_span (i := 35) rfl rfl) (by decide) ?_
            refine lv_iload hx hb (dk1 dF_21 DX12_span (i := 36) rfl rfl rfl) (lv_at hl 1 rfl) ?_
            refine zn_I hw (zr_S (As := [.int 1, .int v9]) (rest := []) C0 (c_J9_max_7cf53 l G kc 1 v9  _) cs_J9_max_7cf53 lk_X12_326 (zp_P C0 hRo hw a00 s00) rfl hl.1 rfl ⟨by decide, by decide⟩ (Nat.le_of_ble_eq_true rfl) (dk2 dF_184 DX12_span (i := 37) rfl rfl rfl) ⟨Nat.le_refl _, Nat.le_refl _⟩) (fun r10 s10 H locs hp hw => ?_)
            subst hp
            refine lv_topi (fun v11 ev11 => ?_)
            refine lv_istore (lv' := [(7, .int v11), (6, .int 0), (5, .int v9), (0, .ref (ad 0)), (1, .int (nI k_program)), (2, .int (nI k_field)), (3, .int low), (4, .int high)]) hx hb (dk1 dF_54 DX12_span (i := 38) rfl rfl rfl) hl (by decide) rfl (fun ls hl => ?_)
            refine lv_iconst (v := 0) hx hb (dkP dF_3 DX12_span (i := 39) rfl rfl) (by decide) ?_
            refine lv_istore (lv' := [(8, .int 0), (7, .int v11), (6, .int 0), (5, .int v9), (0, .ref (ad 0)), (1, .int (nI k_program)), (2, .int (nI k_field)), (3, .int low), (4, .int high)]) hx hb (dk1 dF_54 DX12_span (i := 40) rfl rfl rfl) hl (by decide) rfl (fun ls hl => ?_)
            have lp12 : ∀ (nq : Nat) (q8_81 : Nat) (q7_81 : Int32) (q6_81 : Nat) (H : Heap) (locs : List Loc) (ls : Array Slot), 8 - q8_81 < nq → (q8_81 ≤ 8) → (q6_81 ≤ q8_81) → St G kc A s.heap shM ad σ H locs → lv_has ls 9 [(8, .int (nI q8_81)), (7, .int q7_81), (6, .int (nI q6_81)), (5, .int v9), (0, .ref (ad 0)), (1, .int (nI k_program)), (2, .int (nI k_field)), (3, .int low), (4, .int high)] → W pr l e { frames := 3, cells := 0, slots := 0, locals := 64 } s m ([.ref (ad 0), .int (nI k_program), .int (nI k_field), .int low, .int high] : List Value).toArray below meth c H locs 0 0 (MQ below (va_Qi (fun r σ1 => TM σ1 ∧ fr true [1] [] σ σ1) (PoC G kc shM ad A) A) ([.ref (ad 0), .int (nI k_program), .int (nI k_field), .int low, .int high] : List Value).toArray s 0 0 A) (F0 m 81 ls []) := by
              intro nq
              induction nq with
              | zero => intro q8_81 q7_81 q6_81 H locs ls hmu; exact absurd hmu (Nat.not_lt_zero _)
              | succ nq ih12 =>
                intro q8_81 q7_81 q6_81 H locs ls hmu hq8_81 hq6_81 hw hl
                refine lv_iload hx hb (dk1 dF_21 DX12_span (i := 41) rfl rfl rfl) (lv_at hl 0 rfl) ?_
                refine lv_bipush (v := 8) hx hb (dks dF_16 DX12_span (i := 42) rfl rfl rfl) (by decide) ?_
                refine lv_icmp_ge (tgt := 128) hx hb (dkS dF_162 DX12_span (i := 43) rfl rfl rfl) (by decide) (fun c13 => ?_) (fun c13 => ?_)
                · simp (disch := omega) only [ta_lt, ta_le, ta_eq, tnI, tl32 8 (by decide)] at c13
                  refine lv_iload hx hb (dk1 dF_21 DX12_span (i := 63) rfl rfl rfl) (lv_at hl 3 rfl) ?_
                  refine lv_if_le (tgt := 139) hx hb (dkS dF_158 DX12_span (i := 64) rfl rfl rfl) (by decide) (fun c14 => ?_) (fun c14 => ?_)
                  · (try simp (disch := omega) only [ta_lt, ta_le, ta_eq, tnI, tl32 0 (by decide)] at c14)
                    refine lv_iload hx hb (dk1 dF_21 DX12_span (i := 68) rfl rfl rfl) (lv_at hl 1 rfl) ?_
                    refine lv_sipush (v := 4096) hx hb (dkS dF_17 DX12_span (i := 69) rfl rfl rfl) (by decide) ?_
                    refine lv_icmp_le (tgt := 150) hx hb (dkS dF_164 DX12_span (i := 70) rfl rfl rfl) (by decide) (fun c15 => ?_) (fun c15 => ?_)
                    · (try simp (disch := omega) only [ta_lt, ta_le, ta_eq, tnI, tl32 4096 (by decide)] at c15)
                      refine lv_aload_n hx hb (dkP dF_42 DX12_span (i := 73) rfl rfl) rfl (lv_at hl 4 rfl) ?_
                      refine z_gr C0 hw 0 1 1 rfl fl_X12_20 (dk2 dF_180 DX12_span (i := 74) rfl rfl rfl) ?_
                      refine lv_iload_n hx hb (dkP dF_27 DX12_span (i := 75) rfl rfl) rfl (lv_at hl 5 rfl) ?_
                      refine zn_I hw (zr_S (As := [.int (nI k_program)]) (rest := [.ref (ad 1)]) C0 (c_X12_of l G kc k_program  _) cs_X12_of lk_X12_139 (zp_P C0 hRo hw a00 s00) rfl hl.1 rfl ⟨by decide, by decide⟩ (Nat.le_of_ble_eq_true rfl) (dk2 dF_184 DX12_span (i := 76) rfl rfl rfl) ⟨Nat.le_refl _, Nat.le_refl _⟩) (fun r16 s16 H locs hp hw => ?_)
                      subst hp
                      refine lv_iconst (v := 4) hx hb (dkP dF_7 DX12_span (i := 77) rfl rfl) (by decide) ?_
                      refine lv_iadd hx hb (dkP dF_96 DX12_span (i := 78) rfl rfl) ?_
                      refine z_top (y := nI ((8 + 20 * k_program) + 4)) (by simp only [fa_lit, nI_add, pk_mul]) ?_
                      refine lv_iconst (v := 2) hx hb (dkP dF_5 DX12_span (i := 79) rfl rfl) (by decide) ?_
                      refine lv_iload_n hx hb (dkP dF_28 DX12_span (i := 80) rfl rfl) rfl (lv_at hl 6 rfl) ?_
                      refine lv_imul hx hb (dkP dF_104 DX12_span (i := 81) rfl rfl) ?_
                      refine z_top (y := nI (2 * k_field)) (by simp only [fa_lit, nI_add, pk_mul]) ?_
                      refine lv_iadd hx hb (dkP dF_96 DX12_span (i := 82) rfl rfl) ?_
                      refine z_top (y := nI (((8 + 20 * k_program) + 4) + (2 * k_field))) (by simp only [fa_lit, nI_add, pk_mul]) ?_
                      refine lv_iload hx hb (dk1 dF_21 DX12_span (i := 83) rfl rfl rfl) (lv_at hl 3 rfl) ?_
                      refine lv_if_ne (tgt := 173) hx hb (dkS dF_154 DX12_span (i := 84) rfl rfl rfl) (by decide) (fun c17 => ?_) (fun c17 => ?_)
                      · (try simp (disch := omega) only [ta_lt, ta_le, ta_eq, tnI, tl32 0 (by decide)] at c17)
                        refine lv_iload_n hx hb (dkP dF_29 DX12_span (i := 87) rfl rfl) rfl (lv_at hl 7 rfl) ?_
                        refine z_iastN (n := 414128) C0 hw 1 (((8 + 20 * k_program) + 4) + (2 * k_field)) rfl (by omega) (by decide) (dkP dF_79 DX12_span (i := 88) rfl rfl) (fun H locs hw => ?_)
                        have hT18 : TM (sI σ 1 (((8 + 20 * k_program) + 4) + (2 * k_field)) low) := TM.w hT (ty_wr (by omega) (by omega) (by omega))
                        have hF18 : fr true [1] [] σ (sI σ 1 (((8 + 20 * k_program) + 4) + (2 * k_field)) low) := fr.w fr.refl (Or.inl ⟨by decide, by decide⟩) (fun _ _ => by unfold KR; omega)
                        refine lv_aload_n hx hb (dkP dF_42 DX12_span (i := 89) rfl rfl) rfl (lv_at hl 4 rfl) ?_
                        refine z_gr C0 hw 0 1 1 rfl fl_X12_20 (dk2 dF_180 DX12_span (i := 90) rfl rfl rfl) ?_
                        refine lv_iload_n hx hb (dkP dF_27 DX12_span (i := 91) rfl rfl) rfl (lv_at hl 5 rfl) ?_
                        refine zn_I hw (zr_S (As := [.int (nI k_program)]) (rest := [.ref (ad 1)]) C0 (c_X12_of l G kc k_program  _) cs_X12_of lk_X12_139 (zp_P C0 hRo hw a00 s00) rfl hl.1 rfl ⟨by decide, by decide⟩ (Nat.le_of_ble_eq_true rfl) (dk2 dF_184 DX12_span (i := 92) rfl rfl rfl) ⟨Nat.le_refl _, Nat.le_refl _⟩) (fun r19 s19 H locs hp hw => ?_)
                        subst hp
                        refine lv_iconst (v := 4) hx hb (dkP dF_7 DX12_span (i := 93) rfl rfl) (by decide) ?_
                        refine lv_iadd hx hb (dkP dF_96 DX12_span (i := 94) rfl rfl) ?_
                        refine z_top (y := nI ((8 + 20 * k_program) + 4)) (by simp only [fa_lit, nI_add, pk_mul]) ?_
                        refine lv_iconst (v := 2) hx hb (dkP dF_5 DX12_span (i := 95) rfl rfl) (by decide) ?_
                        refine lv_iload_n hx hb (dkP dF_28 DX12_span (i := 96) rfl rfl) rfl (lv_at hl 6 rfl) ?_
                        refine lv_imul hx hb (dkP dF_104 DX12_span (i := 97) rfl rfl) ?_
                        refine z_top (y := nI (2 * k_field)) (by simp only [fa_lit, nI_add, pk_mul]) ?_
                        refine lv_iadd hx hb (dkP dF_96 DX12_span (i := 98) rfl rfl) ?_
                        refine z_top (y := nI (((8 + 20 * k_program) + 4) + (2 * k_field))) (by simp only [fa_lit, nI_add, pk_mul]) ?_
                        refine lv_iconst (v := 1) hx hb (dkP dF_4 DX12_span (i := 99) rfl rfl) (by decide) ?_
                        refine lv_iadd hx hb (dkP dF_96 DX12_span (i := 100) rfl rfl) ?_
                        refine z_top (y := nI ((((8 + 20 * k_program) + 4) + (2 * k_field)) + 1)) (by simp only [fa_lit, nI_add, pk_mul]) ?_
                        refine lv_iload hx hb (dk1 dF_21 DX12_span (i := 101) rfl rfl rfl) (lv_at hl 3 rfl) ?_
                        refine lv_if_ne (tgt := 200) hx hb (dkS dF_154 DX12_span (i := 102) rfl rfl rfl) (by decide) (fun c20 => ?_) (fun c20 => ?_)
                        · (try simp (disch := omega) only [ta_lt, ta_le, ta_eq, tnI, tl32 0 (by decide)] at c20)
                          refine lv_iload hx hb (dk1 dF_21 DX12_span (i := 105) rfl rfl rfl) (lv_at hl 8 rfl) ?_
                          refine z_iastN (n := 414128) C0 hw 1 ((((8 + 20 * k_program) + 4) + (2 * k_field)) + 1) rfl (by omega) (by decide) (dkP dF_79 DX12_span (i := 106) rfl rfl) (fun H locs hw => ?_)
                          have hT21 : TM (sI (sI σ 1 (((8 + 20 * k_program) + 4) + (2 * k_field)) low) 1 ((((8 + 20 * k_program) + 4) + (2 * k_field)) + 1) high) := TM.w hT18 (ty_wr (by omega) (by omega) (by omega))
                          have hF21 : fr true [1] [] σ (sI (sI σ 1 (((8 + 20 * k_program) + 4) + (2 * k_field)) low) 1 ((((8 + 20 * k_program) + 4) + (2 * k_field)) + 1) high) := fr.w hF18 (Or.inl ⟨by decide, by decide⟩) (fun _ _ => by unfold KR; omega)
                          refine lv_aload_n hx hb (dkP dF_42 DX12_span (i := 107) rfl rfl) rfl (lv_at hl 4 rfl) ?_
                          refine z_gr C0 hw 0 1 1 rfl fl_X12_20 (dk2 dF_180 DX12_span (i := 108) rfl rfl rfl) ?_
                          refine lv_iload_n hx hb (dkP dF_27 DX12_span (i := 109) rfl rfl) rfl (lv_at hl 5 rfl) ?_
                          refine zn_I hw (zr_S (As := [.int (nI k_program)]) (rest := [.ref (ad 1)]) C0 (c_X12_of l G kc k_program  _) cs_X12_of lk_X12_139 (zp_P C0 hRo hw a00 s00) rfl hl.1 rfl ⟨by decide, by decide⟩ (Nat.le_of_ble_eq_true rfl) (dk2 dF_184 DX12_span (i := 110) rfl rfl rfl) ⟨Nat.le_refl _, Nat.le_refl _⟩) (fun r22 s22 H locs hp hw => ?_)
                          subst hp
                          refine lv_iconst (v := 3) hx hb (dkP dF_6 DX12_span (i := 111) rfl rfl) (by decide) ?_
                          refine lv_iadd hx hb (dkP dF_96 DX12_span (i := 112) rfl rfl) ?_
                          refine z_top (y := nI ((8 + 20 * k_program) + 3)) (by simp only [fa_lit, nI_add, pk_mul]) ?_
                          refine lv_iconst (v := (-1)) hx hb (dkP dF_2 DX12_span (i := 113) rfl rfl) (by decide) ?_
                          refine z_iastN (n := 414128) C0 hw 1 ((8 + 20 * k_program) + 3) rfl (by omega) (by decide) (dkP dF_79 DX12_span (i := 114) rfl rfl) (fun H locs hw => ?_)
                          have hT23 : TM (sI (sI (sI σ 1 (((8 + 20 * k_program) + 4) + (2 * k_field)) low) 1 ((((8 + 20 * k_program) + 4) + (2 * k_field)) + 1) high) 1 ((8 + 20 * k_program) + 3) (-1)) := TM.w hT21 (ty_w3 (by omega))
                          have hF23 : fr true [1] [] σ (sI (sI (sI σ 1 (((8 + 20 * k_program) + 4) + (2 * k_field)) low) 1 ((((8 + 20 * k_program) + 4) + (2 * k_field)) + 1) high) 1 ((8 + 20 * k_program) + 3) (-1)) := fr.w hF21 (Or.inl ⟨by decide, by decide⟩) (fun _ _ => by unfold KR; omega)
                          refine lv_iload hx hb (dk1 dF_21 DX12_span (i := 115) rfl rfl rfl) (lv_at hl 1 rfl) ?_
                          exact z_iret C0 hr hlk hw (⟨hT23, hF23⟩) (dkP dF_172 DX12_span (i := 116) rfl rfl)
                        · (try simp (disch := omega) only [ta_lt, ta_le, ta_eq, tnI, tl32 0 (by decide)] at c20)
                          refine lv_iconst (v := 0) hx hb (dkP dF_3 DX12_span (i := 103) rfl rfl) (by decide) ?_
                          refine lv_goto (tgt := 202) hx hb (dkS dF_167 DX12_span (i := 104) rfl rfl rfl) (by decide) ?_
                          refine z_iastN (n := 414128) C0 hw 1 ((((8 + 20 * k_program) + 4) + (2 * k_field)) + 1) rfl (by omega) (by decide) (dkP dF_79 DX12_span (i := 106) rfl rfl) (fun H locs hw => ?_)
                          have hT24 : TM (sI (sI σ 1 (((8 + 20 * k_program) + 4) + (2 * k_field)) low) 1 ((((8 + 20 * k_program) + 4) + (2 * k_field)) + 1) 0) := TM.w hT18 (ty_wr (by omega) (by omega) (by omega))
                          have hF24 : fr true [1] [] σ (sI (sI σ 1 (((8 + 20 * k_program) + 4) + (2 * k_field)) low) 1 ((((8 + 20 * k_program) + 4) + (2 * k_field)) + 1) 0) := fr.w hF18 (Or.inl ⟨by decide, by decide⟩) (fun _ _ => by unfold KR; omega)
                          refine lv_aload_n hx hb (dkP dF_42 DX12_span (i := 107) rfl rfl) rfl (lv_at hl 4 rfl) ?_
                          refine z_gr C0 hw 0 1 1 rfl fl_X12_20 (dk2 dF_180 DX12_span (i := 108) rfl rfl rfl) ?_
                          refine lv_iload_n hx hb (dkP dF_27 DX12_span (i := 109) rfl rfl) rfl (lv_at hl 5 rfl) ?_
                          refine zn_I hw (zr_S (As := [.int (nI k_program)]) (rest := [.ref (ad 1)]) C0 (c_X12_of l G kc k_program  _) cs_X12_of lk_X12_139 (zp_P C0 hRo hw a00 s00) rfl hl.1 rfl ⟨by decide, by decide⟩ (Nat.le_of_ble_eq_true rfl) (dk2 dF_184 DX12_span (i := 110) rfl rfl rfl) ⟨Nat.le_refl _, Nat.le_refl _⟩) (fun r25 s25 H locs hp hw => ?_)
                          subst hp
                          refine lv_iconst (v := 3) hx hb (dkP dF_6 DX12_span (i := 111) rfl rfl) (by decide) ?_
                          refine lv_iadd hx hb (dkP dF_96 DX12_span (i := 112) rfl rfl) ?_
                          refine z_top (y := nI ((8 + 20 * k_program) + 3)) (by simp only [fa_lit, nI_add, pk_mul]) ?_
                          refine lv_iconst (v := (-1)) hx hb (dkP dF_2 DX12_span (i := 113) rfl rfl) (by decide) ?_
                          refine z_iastN (n := 414128) C0 hw 1 ((8 + 20 * k_program) + 3) rfl (by omega) (by decide) (dkP dF_79 DX12_span (i := 114) rfl rfl) (fun H locs hw => ?_)
                          have hT26 : TM (sI (sI (sI σ 1 (((8 + 20 * k_program) + 4) + (2 * k_field)) low) 1 ((((8 + 20 * k_program) + 4) + (2 * k_field)) + 1) 0) 1 ((8 + 20 * k_program) + 3) (-1)) := TM.w hT24 (ty_w3 (by omega))
                          have hF26 : fr true [1] [] σ (sI (sI (sI σ 1 (((8 + 20 * k_program) + 4) + (2 * k_field)) low) 1 ((((8 + 20 * k_program) + 4) + (2 * k_field)) + 1) 0) 1 ((8 + 20 * k_program) + 3) (-1)) := fr.w hF24 (Or.inl ⟨by decide, by decide⟩) (fun _ _ => by unfold KR; omega)
                          refine lv_iload hx hb (dk1 dF_21 DX12_span (i := 115) rfl rfl rfl) (lv_at hl 1 rfl) ?_
                          exact z_iret C0 hr hlk hw (⟨hT26, hF26⟩) (dkP dF_172 DX12_span (i := 116) rfl rfl)
                      · (try simp (disch := omega) only [ta_lt, ta_le, ta_eq, tnI, tl32 0 (by decide)] at c17)
                        refine lv_iconst (v := 1) hx hb (dkP dF_4 DX12_span (i := 85) rfl rfl) (by decide) ?_
                        refine lv_goto (tgt := 174) hx hb (dkS dF_167 DX12_span (i := 86) rfl rfl rfl) (by decide) ?_
                        refine z_iastN (n := 414128) C0 hw 1 (((8 + 20 * k_program) + 4) + (2 * k_field)) rfl (by omega) (by decide) (dkP dF_79 DX12_span (i := 88) rfl rfl) (fun H locs hw => ?_)
                        have hT27 : TM (sI σ 1 (((8 + 20 * k_program) + 4) + (2 * k_field)) 1) := TM.w hT (ty_wr (by omega) (by omega) (by omega))
                        have hF27 : fr true [1] [] σ (sI σ 1 (((8 + 20 * k_program) + 4) + (2 * k_field)) 1) := fr.w fr.refl (Or.inl ⟨by decide, by decide⟩) (fun _ _ => by unfold KR; omega)
                        refine lv_aload_n hx hb (dkP dF_42 DX12_span (i := 89) rfl rfl) rfl (lv_at hl 4 rfl) ?_
                        refine z_gr C0 hw 0 1 1 rfl fl_X12_20 (dk2 dF_180 DX12_span (i := 90) rfl rfl rfl) ?_
                        refine lv_iload_n hx hb (dkP dF_27 DX12_span (i := 91) rfl rfl) rfl (lv_at hl 5 rfl) ?_
                        refine zn_I hw (zr_S (As := [.int (nI k_program)]) (rest := [.ref (ad 1)]) C0 (c_X12_of l G kc k_program  _) cs_X12_of lk_X12_139 (zp_P C0 hRo hw a00 s00) rfl hl.1 rfl ⟨by decide, by decide⟩ (Nat.le_of_ble_eq_true rfl) (dk2 dF_184 DX12_span (i := 92) rfl rfl rfl) ⟨Nat.le_refl _, Nat.le_refl _⟩) (fun r28 s28 H locs hp hw => ?_)
                        subst hp
                        refine lv_iconst (v := 4) hx hb (dkP dF_7 DX12_span (i := 93) rfl rfl) (by decide) ?_
                        refine lv_iadd hx hb (dkP dF_96 DX12_span (i := 94) rfl rfl) ?_
                        refine z_top (y := nI ((8 + 20 * k_program) + 4)) (by simp only [fa_lit, nI_add, pk_mul]) ?_
                        refine lv_iconst (v := 2) hx hb (dkP dF_5 DX12_span (i := 95) rfl rfl) (by decide) ?_
                        refine lv_iload_n hx hb (dkP dF_28 DX12_span (i := 96) rfl rfl) rfl (lv_at hl 6 rfl) ?_
                        refine lv_imul hx hb (dkP dF_104 DX12_span (i := 97) rfl rfl) ?_
                        refine z_top (y := nI (2 * k_field)) (by simp only [fa_lit, nI_add, pk_mul]) ?_
                        refine lv_iadd hx hb (dkP dF_96 DX12_span (i := 98) rfl rfl) ?_
                        refine z_top (y := nI (((8 + 20 * k_program) + 4) + (2 * k_field))) (by simp only [fa_lit, nI_add, pk_mul]) ?_
                        refine lv_iconst (v := 1) hx hb (dkP dF_4 DX12_span (i := 99) rfl rfl) (by decide) ?_
                        refine lv_iadd hx hb (dkP dF_96 DX12_span (i := 100) rfl rfl) ?_
                        refine z_top (y := nI ((((8 + 20 * k_program) + 4) + (2 * k_field)) + 1)) (by simp only [fa_lit, nI_add, pk_mul]) ?_
                        refine lv_iload hx hb (dk1 dF_21 DX12_span (i := 101) rfl rfl rfl) (lv_at hl 3 rfl) ?_
                        refine lv_if_ne (tgt := 200) hx hb (dkS dF_154 DX12_span (i := 102) rfl rfl rfl) (by decide) (fun c29 => ?_) (fun c29 => ?_)
                        · (try simp (disch := omega) only [ta_lt, ta_le, ta_eq, tnI, tl32 0 (by decide)] at c29)
                          refine lv_iload hx hb (dk1 dF_21 DX12_span (i := 105) rfl rfl rfl) (lv_at hl 8 rfl) ?_
                          refine z_iastN (n := 414128) C0 hw 1 ((((8 + 20 * k_program) + 4) + (2 * k_field)) + 1) rfl (by omega) (by decide) (dkP dF_79 DX12_span (i := 106) rfl rfl) (fun H locs hw => ?_)
                          have hT30 : TM (sI (sI σ 1 (((8 + 20 * k_program) + 4) + (2 * k_field)) 1) 1 ((((8 + 20 * k_program) + 4) + (2 * k_field)) + 1) high) := TM.w hT27 (ty_wr (by omega) (by omega) (by omega))
                          have hF30 : fr true [1] [] σ (sI (sI σ 1 (((8 + 20 * k_program) + 4) + (2 * k_field)) 1) 1 ((((8 + 20 * k_program) + 4) + (2 * k_field)) + 1) high) := fr.w hF27 (Or.inl ⟨by decide, by decide⟩) (fun _ _ => by unfold KR; omega)
                          refine lv_aload_n hx hb (dkP dF_42 DX12_span (i := 107) rfl rfl) rfl (lv_at hl 4 rfl) ?_
                          refine z_gr C0 hw 0 1 1 rfl fl_X12_20 (dk2 dF_180 DX12_span (i := 108) rfl rfl rfl) ?_
                          refine lv_iload_n hx hb (dkP dF_27 DX12_span (i := 109) rfl rfl) rfl (lv_at hl 5 rfl) ?_
                          refine zn_I hw (zr_S (As := [.int (nI k_program)]) (rest := [.ref (ad 1)]) C0 (c_X12_of l G kc k_program  _) cs_X12_of lk_X12_139 (zp_P C0 hRo hw a00 s00) rfl hl.1 rfl ⟨by decide, by decide⟩ (Nat.le_of_ble_eq_true rfl) (dk2 dF_184 DX12_span (i := 110) rfl rfl rfl) ⟨Nat.le_refl _, Nat.le_refl _⟩) (fun r31 s31 H locs hp hw => ?_)
                          subst hp
                          refine lv_iconst (v := 3) hx hb (dkP dF_6 DX12_span (i := 111) rfl rfl) (by decide) ?_
                          refine lv_iadd hx hb (dkP dF_96 DX12_span (i := 112) rfl rfl) ?_
                          refine z_top (y := nI ((8 + 20 * k_program) + 3)) (by simp only [fa_lit, nI_add, pk_mul]) ?_
                          refine lv_iconst (v := (-1)) hx hb (dkP dF_2 DX12_span (i := 113) rfl rfl) (by decide) ?_
                          refine z_iastN (n := 414128) C0 hw 1 ((8 + 20 * k_program) + 3) rfl (by omega) (by decide) (dkP dF_79 DX12_span (i := 114) rfl rfl) (fun H locs hw => ?_)
                          have hT32 : TM (sI (sI (sI σ 1 (((8 + 20 * k_program) + 4) + (2 * k_field)) 1) 1 ((((8 + 20 * k_program) + 4) + (2 * k_field)) + 1) high) 1 ((8 + 20 * k_program) + 3) (-1)) := TM.w hT30 (ty_w3 (by omega))
                          have hF32 : fr true [1] [] σ (sI (sI (sI σ 1 (((8 + 20 * k_program) + 4) + (2 * k_field)) 1) 1 ((((8 + 20 * k_program) + 4) + (2 * k_field)) + 1) high) 1 ((8 + 20 * k_program) + 3) (-1)) := fr.w hF30 (Or.inl ⟨by decide, by decide⟩) (fun _ _ => by unfold KR; omega)
                          refine lv_iload hx hb (dk1 dF_21 DX12_span (i := 115) rfl rfl rfl) (lv_at hl 1 rfl) ?_
                          exact z_iret C0 hr hlk hw (⟨hT32, hF32⟩) (dkP dF_172 DX12_span (i := 116) rfl rfl)
                        · (try simp (disch := omega) only [ta_lt, ta_le, ta_eq, tnI, tl32 0 (by decide)] at c29)
                          refine lv_iconst (v := 0) hx hb (dkP dF_3 DX12_span (i := 103) rfl rfl) (by decide) ?_
                          refine lv_goto (tgt := 202) hx hb (dkS dF_167 DX12_span (i := 104) rfl rfl rfl) (by decide) ?_
                          refine z_iastN (n := 414128) C0 hw 1 ((((8 + 20 * k_program) + 4) + (2 * k_field)) + 1) rfl (by omega) (by decide) (dkP dF_79 DX12_span (i := 106) rfl rfl) (fun H locs hw => ?_)
                          have hT33 : TM (sI (sI σ 1 (((8 + 20 * k_program) + 4) + (2 * k_field)) 1) 1 ((((8 + 20 * k_program) + 4) + (2 * k_field)) + 1) 0) := TM.w hT27 (ty_wr (by omega) (by omega) (by omega))
                          have hF33 : fr true [1] [] σ (sI (sI σ 1 (((8 + 20 * k_program) + 4) + (2 * k_field)) 1) 1 ((((8 + 20 * k_program) + 4) + (2 * k_field)) + 1) 0) := fr.w hF27 (Or.inl ⟨by decide, by decide⟩) (fun _ _ => by unfold KR; omega)
                          refine lv_aload_n hx hb (dkP dF_42 DX12_span (i := 107) rfl rfl) rfl (lv_at hl 4 rfl) ?_
                          refine z_gr C0 hw 0 1 1 rfl fl_X12_20 (dk2 dF_180 DX12_span (i := 108) rfl rfl rfl) ?_
                          refine lv_iload_n hx hb (dkP dF_27 DX12_span (i := 109) rfl rfl) rfl (lv_at hl 5 rfl) ?_
                          refine zn_I hw (zr_S (As := [.int (nI k_program)]) (rest := [.ref (ad 1)]) C0 (c_X12_of l G kc k_program  _) cs_X12_of lk_X12_139 (zp_P C0 hRo hw a00 s00) rfl hl.1 rfl ⟨by decide, by decide⟩ (Nat.le_of_ble_eq_true rfl) (dk2 dF_184 DX12_span (i := 110) rfl rfl rfl) ⟨Nat.le_refl _, Nat.le_refl _⟩) (fun r34 s34 H locs hp hw => ?_)
                          subst hp
                          refine lv_iconst (v := 3) hx hb (dkP dF_6 DX12_span (i := 111) rfl rfl) (by decide) ?_
                          refine lv_iadd hx hb (dkP dF_96 DX12_span (i := 112) rfl rfl) ?_
                          refine z_top (y := nI ((8 + 20 * k_program) + 3)) (by simp only [fa_lit, nI_add, pk_mul]) ?_
                          refine lv_iconst (v := (-1)) hx hb (dkP dF_2 DX12_span (i := 113) rfl rfl) (by decide) ?_
                          refine z_iastN (n := 414128) C0 hw 1 ((8 + 20 * k_program) + 3) rfl (by omega) (by decide) (dkP dF_79 DX12_span (i := 114) rfl rfl) (fun H locs hw => ?_)
                          have hT35 : TM (sI (sI (sI σ 1 (((8 + 20 * k_program) + 4) + (2 * k_field)) 1) 1 ((((8 + 20 * k_program) + 4) + (2 * k_field)) + 1) 0) 1 ((8 + 20 * k_program) + 3) (-1)) := TM.w hT33 (ty_w3 (by omega))
                          have hF35 : fr true [1] [] σ (sI (sI (sI σ 1 (((8 + 20 * k_program) + 4) + (2 * k_field)) 1) 1 ((((8 + 20 * k_program) + 4) + (2 * k_field)) + 1) 0) 1 ((8 + 20 * k_program) + 3) (-1)) := fr.w hF33 (Or.inl ⟨by decide, by decide⟩) (fun _ _ => by unfold KR; omega)
                          refine lv_iload hx hb (dk1 dF_21 DX12_span (i := 115) rfl rfl rfl) (lv_at hl 1 rfl) ?_
                          exact z_iret C0 hr hlk hw (⟨hT35, hF35⟩) (dkP dF_172 DX12_span (i := 116) rfl rfl)
                    · (try simp (disch := omega) only [ta_lt, ta_le, ta_eq, tnI, tl32 4096 (by decide)] at c15)
                      refine lv_bipush (v := (-3)) hx hb (dks dF_16 DX12_span (i := 71) rfl rfl rfl) (by decide) ?_
                      exact z_iret C0 hr hlk hw (⟨hT, fr.refl⟩) (dkP dF_172 DX12_span (i := 72) rfl rfl)
                  · (try simp (disch := omega) only [ta_lt, ta_le, ta_eq, tnI, tl32 0 (by decide)] at c14)
                    refine lv_iload hx hb (dk1 dF_21 DX12_span (i := 65) rfl rfl rfl) (lv_at hl 2 rfl) ?_
                    refine lv_iconst (v := 3) hx hb (dkP dF_6 DX12_span (i := 66) rfl rfl) (by decide) ?_
                    refine lv_icmp_eq (tgt := 147) hx hb (dkS dF_159 DX12_span (i := 67) rfl rfl rfl) (by decide) (fun c36 => ?_) (fun c36 => ?_)
                    · simp (disch := omega) only [ta_lt, ta_le, ta_eq, tnI, tl32 3 (by decide)] at c36
                      refine lv_bipush (v := (-3)) hx hb (dks dF_16 DX12_span (i := 71) rfl rfl rfl) (by decide) ?_
                      exact z_iret C0 hr hlk hw (⟨hT, fr.refl⟩) (dkP dF_172 DX12_span (i := 72) rfl rfl)
                    · simp (disch := omega) only [ta_lt, ta_le, ta_eq, tnI, tl32 3 (by decide)] at c36
                      refine lv_iload hx hb (dk1 dF_21 DX12_span (i := 68) rfl rfl rfl) (lv_at hl 1 rfl) ?_
                      refine lv_sipush (v := 4096) hx hb (dkS dF_17 DX12_span (i := 69) rfl rfl rfl) (by decide) ?_
                      refine lv_icmp_le (tgt := 150) hx hb (dkS dF_164 DX12_span (i := 70) rfl rfl rfl) (by decide) (fun c37 => ?_) (fun c37 => ?_)
                      · (try simp (disch := omega) only [ta_lt, ta_le, ta_eq, tnI, tl32 4096 (by decide)] at c37)
                        refine lv_aload_n hx hb (dkP dF_42 DX12_span (i := 73) rfl rfl) rfl (lv_at hl 4 rfl) ?_
                        refine z_gr C0 hw 0 1 1 rfl fl_X12_20 (dk2 dF_180 DX12_span (i := 74) rfl rfl rfl) ?_
                        refine lv_iload_n hx hb (dkP dF_27 DX12_span (i := 75) rfl rfl) rfl (lv_at hl 5 rfl) ?_
                        refine zn_I hw (zr_S (As := [.int (nI k_program)]) (rest := [.ref (ad 1)]) C0 (c_X12_of l G kc k_program  _) cs_X12_of lk_X12_139 (zp_P C0 hRo hw a00 s00) rfl hl.1 rfl ⟨by decide, by decide⟩ (Nat.le_of_ble_eq_true rfl) (dk2 dF_184 DX12_span (i := 76) rfl rfl rfl) ⟨Nat.le_refl _, Nat.le_refl _⟩) (fun r38 s38 H locs hp hw => ?_)
                        subst hp
                        refine lv_iconst (v := 4) hx hb (dkP dF_7 DX12_span (i := 77) rfl rfl) (by decide) ?_
                        refine lv_iadd hx hb (dkP dF_96 DX12_span (i := 78) rfl rfl) ?_
                        refine z_top (y := nI ((8 + 20 * k_program) + 4)) (by simp only [fa_lit, nI_add, pk_mul]) ?_
                        refine lv_iconst (v := 2) hx hb (dkP dF_5 DX12_span (i := 79) rfl rfl) (by decide) ?_
                        refine lv_iload_n hx hb (dkP dF_28 DX12_span (i := 80) rfl rfl) rfl (lv_at hl 6 rfl) ?_
                        refine lv_imul hx hb (dkP dF_104 DX12_span (i := 81) rfl rfl) ?_
                        refine z_top (y := nI (2 * k_field)) (by simp only [fa_lit, nI_add, pk_mul]) ?_
                        refine lv_iadd hx hb (dkP dF_96 DX12_span (i := 82) rfl rfl) ?_
                        refine z_top (y := nI (((8 + 20 * k_program) + 4) + (2 * k_field))) (by simp only [fa_lit, nI_add, pk_mul]) ?_
                        refine lv_iload hx hb (dk1 dF_21 DX12_span (i := 83) rfl rfl rfl) (lv_at hl 3 rfl) ?_
                        refine lv_if_ne (tgt := 173) hx hb (dkS dF_154 DX12_span (i := 84) rfl rfl rfl) (by decide) (fun c39 => ?_) (fun c39 => ?_)
                        · (try simp (disch := omega) only [ta_lt, ta_le, ta_eq, tnI, tl32 0 (by decide)] at c39)
                          refine lv_iload_n hx hb (dkP dF_29 DX12_span (i := 87) rfl rfl) rfl (lv_at hl 7 rfl) ?_
                          refine z_iastN (n := 414128) C0 hw 1 (((8 + 20 * k_program) + 4) + (2 * k_field)) rfl (by omega) (by decide) (dkP dF_79 DX12_span (i := 88) rfl rfl) (fun H locs hw => ?_)
                          have hT40 : TM (sI σ 1 (((8 + 20 * k_program) + 4) + (2 * k_field)) low) := TM.w hT (ty_wr (by omega) (by omega) (by omega))
                          have hF40 : fr true [1] [] σ (sI σ 1 (((8 + 20 * k_program) + 4) + (2 * k_field)) low) := fr.w fr.refl (Or.inl ⟨by decide, by decide⟩) (fun _ _ => by unfold KR; omega)
                          refine lv_aload_n hx hb (dkP dF_42 DX12_span (i := 89) rfl rfl) rfl (lv_at hl 4 rfl) ?_
                          refine z_gr C0 hw 0 1 1 rfl fl_X12_20 (dk2 dF_180 DX12_span (i := 90) rfl rfl rfl) ?_
                          refine lv_iload_n hx hb (dkP dF_27 DX12_span (i := 91) rfl rfl) rfl (lv_at hl 5 rfl) ?_
                          refine zn_I hw (zr_S (As := [.int (nI k_program)]) (rest := [.ref (ad 1)]) C0 (c_X12_of l G kc k_program  _) cs_X12_of lk_X12_139 (zp_P C0 hRo hw a00 s00) rfl hl.1 rfl ⟨by decide, by decide⟩ (Nat.le_of_ble_eq_true rfl) (dk2 dF_184 DX12_span (i := 92) rfl rfl rfl) ⟨Nat.le_refl _, Nat.le_refl _⟩) (fun r41 s41 H locs hp hw => ?_)
                          subst hp
                          refine lv_iconst (v := 4) hx hb (dkP dF_7 DX12_span (i := 93) rfl rfl) (by decide) ?_
                          refine lv_iadd hx hb (dkP dF_96 DX12_span (i := 94) rfl rfl) ?_
                          refine z_top (y := nI ((8 + 20 * k_program) + 4)) (by simp only [fa_lit, nI_add, pk_mul]) ?_
                          refine lv_iconst (v := 2) hx hb (dkP dF_5 DX12_span (i := 95) rfl rfl) (by decide) ?_
                          refine lv_iload_n hx hb (dkP dF_28 DX12_span (i := 96) rfl rfl) rfl (lv_at hl 6 rfl) ?_
                          refine lv_imul hx hb (dkP dF_104 DX12_span (i := 97) rfl rfl) ?_
                          refine z_top (y := nI (2 * k_field)) (by simp only [fa_lit, nI_add, pk_mul]) ?_
                          refine lv_iadd hx hb (dkP dF_96 DX12_span (i := 98) rfl rfl) ?_
                          refine z_top (y := nI (((8 + 20 * k_program) + 4) + (2 * k_field))) (by simp only [fa_lit, nI_add, pk_mul]) ?_
                          refine lv_iconst (v := 1) hx hb (dkP dF_4 DX12_span (i := 99) rfl rfl) (by decide) ?_
                          refine lv_iadd hx hb (dkP dF_96 DX12_span (i := 100) rfl rfl) ?_
                          refine z_top (y := nI ((((8 + 20 * k_program) + 4) + (2 * k_field)) + 1)) (by simp only [fa_lit, nI_add, pk_mul]) ?_
                          refine lv_iload hx hb (dk1 dF_21 DX12_span (i := 101) rfl rfl rfl) (lv_at hl 3 rfl) ?_
                          refine lv_if_ne (tgt := 200) hx hb (dkS dF_154 DX12_span (i := 102) rfl rfl rfl) (by decide) (fun c42 => ?_) (fun c42 => ?_)
                          · (try simp (disch := omega) only [ta_lt, ta_le, ta_eq, tnI, tl32 0 (by decide)] at c42)
                            refine lv_iload hx hb (dk1 dF_21 DX12_span (i := 105) rfl rfl rfl) (lv_at hl 8 rfl) ?_
                            refine z_iastN (n := 414128) C0 hw 1 ((((8 + 20 * k_program) + 4) + (2 * k_field)) + 1) rfl (by omega) (by decide) (dkP dF_79 DX12_span (i := 106) rfl rfl) (fun H locs hw => ?_)
                            have hT43 : TM (sI (sI σ 1 (((8 + 20 * k_program) + 4) + (2 * k_field)) low) 1 ((((8 + 20 * k_program) + 4) + (2 * k_field)) + 1) high) := TM.w hT40 (ty_wr (by omega) (by omega) (by omega))
                            have hF43 : fr true [1] [] σ (sI (sI σ 1 (((8 + 20 * k_program) + 4) + (2 * k_field)) low) 1 ((((8 + 20 * k_program) + 4) + (2 * k_field)) + 1) high) := fr.w hF40 (Or.inl ⟨by decide, by decide⟩) (fun _ _ => by unfold KR; omega)
                            refine lv_aload_n hx hb (dkP dF_42 DX12_span (i := 107) rfl rfl) rfl (lv_at hl 4 rfl) ?_
                            refine z_gr C0 hw 0 1 1 rfl fl_X12_20 (dk2 dF_180 DX12_span (i := 108) rfl rfl rfl) ?_
                            refine lv_iload_n hx hb (dkP dF_27 DX12_span (i := 109) rfl rfl) rfl (lv_at hl 5 rfl) ?_
                            refine zn_I hw (zr_S (As := [.int (nI k_program)]) (rest := [.ref (ad 1)]) C0 (c_X12_of l G kc k_program  _) cs_X12_of lk_X12_139 (zp_P C0 hRo hw a00 s00) rfl hl.1 rfl ⟨by decide, by decide⟩ (Nat.le_of_ble_eq_true rfl) (dk2 dF_184 DX12_span (i := 110) rfl rfl rfl) ⟨Nat.le_refl _, Nat.le_refl _⟩) (fun r44 s44 H locs hp hw => ?_)
                            subst hp
                            refine lv_iconst (v := 3) hx hb (dkP dF_6 DX12_span (i := 111) rfl rfl) (by decide) ?_
                            refine lv_iadd hx hb (dkP dF_96 DX12_span (i := 112) rfl rfl) ?_
                            refine z_top (y := nI ((8 + 20 * k_program) + 3)) (by simp only [fa_lit, nI_add, pk_mul]) ?_
                            refine lv_iconst (v := (-1)) hx hb (dkP dF_2 DX12_span (i := 113) rfl rfl) (by decide) ?_
                            refine z_iastN (n := 414128) C0 hw 1 ((8 + 20 * k_program) + 3) rfl (by omega) (by decide) (dkP dF_79 DX12_span (i := 114) rfl rfl) (fun H locs hw => ?_)
                            have hT45 : TM (sI (sI (sI σ 1 (((8 + 20 * k_program) + 4) + (2 * k_field)) low) 1 ((((8 + 20 * k_program) + 4) + (2 * k_field)) + 1) high) 1 ((8 + 20 * k_program) + 3) (-1)) := TM.w hT43 (ty_w3 (by omega))
                            have hF45 : fr true [1] [] σ (sI (sI (sI σ 1 (((8 + 20 * k_program) + 4) + (2 * k_field)) low) 1 ((((8 + 20 * k_program) + 4) + (2 * k_field)) + 1) high) 1 ((8 + 20 * k_program) + 3) (-1)) := fr.w hF43 (Or.inl ⟨by decide, by decide⟩) (fun _ _ => by unfold KR; omega)
                            refine lv_iload hx hb (dk1 dF_21 DX12_span (i := 115) rfl rfl rfl) (lv_at hl 1 rfl) ?_
                            exact z_iret C0 hr hlk hw (⟨hT45, hF45⟩) (dkP dF_172 DX12_span (i := 116) rfl rfl)
                          · (try simp (disch := omega) only [ta_lt, ta_le, ta_eq, tnI, tl32 0 (by decide)] at c42)
                            refine lv_iconst (v := 0) hx hb (dkP dF_3 DX12_span (i := 103) rfl rfl) (by decide) ?_
                            refine lv_goto (tgt := 202) hx hb (dkS dF_167 DX12_span (i := 104) rfl rfl rfl) (by decide) ?_
                            refine z_iastN (n := 414128) C0 hw 1 ((((8 + 20 * k_program) + 4) + (2 * k_field)) + 1) rfl (by omega) (by decide) (dkP dF_79 DX12_span (i := 106) rfl rfl) (fun H locs hw => ?_)
                            have hT46 : TM (sI (sI σ 1 (((8 + 20 * k_program) + 4) + (2 * k_field)) low) 1 ((((8 + 20 * k_program) + 4) + (2 * k_field)) + 1) 0) := TM.w hT40 (ty_wr (by omega) (by omega) (by omega))
                            have hF46 : fr true [1] [] σ (sI (sI σ 1 (((8 + 20 * k_program) + 4) + (2 * k_field)) low) 1 ((((8 + 20 * k_program) + 4) + (2 * k_field)) + 1) 0) := fr.w hF40 (Or.inl ⟨by decide, by decide⟩) (fun _ _ => by unfold KR; omega)
                            refine lv_aload_n hx hb (dkP dF_42 DX12_span (i := 107) rfl rfl) rfl (lv_at hl 4 rfl) ?_
                            refine z_gr C0 hw 0 1 1 rfl fl_X12_20 (dk2 dF_180 DX12_span (i := 108) rfl rfl rfl) ?_
                            refine lv_iload_n hx hb (dkP dF_27 DX12_span (i := 109) rfl rfl) rfl (lv_at hl 5 rfl) ?_
                            refine zn_I hw (zr_S (As := [.int (nI k_program)]) (rest := [.ref (ad 1)]) C0 (c_X12_of l G kc k_program  _) cs_X12_of lk_X12_139 (zp_P C0 hRo hw a00 s00) rfl hl.1 rfl ⟨by decide, by decide⟩ (Nat.le_of_ble_eq_true rfl) (dk2 dF_184 DX12_span (i := 110) rfl rfl rfl) ⟨Nat.le_refl _, Nat.le_refl _⟩) (fun r47 s47 H locs hp hw => ?_)
                            subst hp
                            refine lv_iconst (v := 3) hx hb (dkP dF_6 DX12_span (i := 111) rfl rfl) (by decide) ?_
                            refine lv_iadd hx hb (dkP dF_96 DX12_span (i := 112) rfl rfl) ?_
                            refine z_top (y := nI ((8 + 20 * k_program) + 3)) (by simp only [fa_lit, nI_add, pk_mul]) ?_
                            refine lv_iconst (v := (-1)) hx hb (dkP dF_2 DX12_span (i := 113) rfl rfl) (by decide) ?_
                            refine z_iastN (n := 414128) C0 hw 1 ((8 + 20 * k_program) + 3) rfl (by omega) (by decide) (dkP dF_79 DX12_span (i := 114) rfl rfl) (fun H locs hw => ?_)
                            have hT48 : TM (sI (sI (sI σ 1 (((8 + 20 * k_program) + 4) + (2 * k_field)) low) 1 ((((8 + 20 * k_program) + 4) + (2 * k_field)) + 1) 0) 1 ((8 + 20 * k_program) + 3) (-1)) := TM.w hT46 (ty_w3 (by omega))
                            have hF48 : fr true [1] [] σ (sI (sI (sI σ 1 (((8 + 20 * k_program) + 4) + (2 * k_field)) low) 1 ((((8 + 20 * k_program) + 4) + (2 * k_field)) + 1) 0) 1 ((8 + 20 * k_program) + 3) (-1)) := fr.w hF46 (Or.inl ⟨by decide, by decide⟩) (fun _ _ => by unfold KR; omega)
                            refine lv_iload hx hb (dk1 dF_21 DX12_span (i := 115) rfl rfl rfl) (lv_at hl 1 rfl) ?_
                            exact z_iret C0 hr hlk hw (⟨hT48, hF48⟩) (dkP dF_172 DX12_span (i := 116) rfl rfl)
                        · (try simp (disch := omega) only [ta_lt, ta_le, ta_eq, tnI, tl32 0 (by decide)] at c39)
                          refine lv_iconst (v := 1) hx hb (dkP dF_4 DX12_span (i := 85) rfl rfl) (by decide) ?_
                          refine lv_goto (tgt := 174) hx hb (dkS dF_167 DX12_span (i := 86) rfl rfl rfl) (by decide) ?_
                          refine z_iastN (n := 414128) C0 hw 1 (((8 + 20 * k_program) + 4) + (2 * k_field)) rfl (by omega) (by decide) (dkP dF_79 DX12_span (i := 88) rfl rfl) (fun H locs hw => ?_)
                          have hT49 : TM (sI σ 1 (((8 + 20 * k_program) + 4) + (2 * k_field)) 1) := TM.w hT (ty_wr (by omega) (by omega) (by omega))
                          have hF49 : fr true [1] [] σ (sI σ 1 (((8 + 20 * k_program) + 4) + (2 * k_field)) 1) := fr.w fr.refl (Or.inl ⟨by decide, by decide⟩) (fun _ _ => by unfold KR; omega)
                          refine lv_aload_n hx hb (dkP dF_42 DX12_span (i := 89) rfl rfl) rfl (lv_at hl 4 rfl) ?_
                          refine z_gr C0 hw 0 1 1 rfl fl_X12_20 (dk2 dF_180 DX12_span (i := 90) rfl rfl rfl) ?_
                          refine lv_iload_n hx hb (dkP dF_27 DX12_span (i := 91) rfl rfl) rfl (lv_at hl 5 rfl) ?_
                          refine zn_I hw (zr_S (As := [.int (nI k_program)]) (rest := [.ref (ad 1)]) C0 (c_X12_of l G kc k_program  _) cs_X12_of lk_X12_139 (zp_P C0 hRo hw a00 s00) rfl hl.1 rfl ⟨by decide, by decide⟩ (Nat.le_of_ble_eq_true rfl) (dk2 dF_184 DX12_span (i := 92) rfl rfl rfl) ⟨Nat.le_refl _, Nat.le_refl _⟩) (fun r50 s50 H locs hp hw => ?_)
                          subst hp
                          refine lv_iconst (v := 4) hx hb (dkP dF_7 DX12_span (i := 93) rfl rfl) (by decide) ?_
                          refine lv_iadd hx hb (dkP dF_96 DX12_span (i := 94) rfl rfl) ?_
                          refine z_top (y := nI ((8 + 20 * k_program) + 4)) (by simp only [fa_lit, nI_add, pk_mul]) ?_
                          refine lv_iconst (v := 2) hx hb (dkP dF_5 DX12_span (i := 95) rfl rfl) (by decide) ?_
                          refine lv_iload_n hx hb (dkP dF_28 DX12_span (i := 96) rfl rfl) rfl (lv_at hl 6 rfl) ?_
                          refine lv_imul hx hb (dkP dF_104 DX12_span (i := 97) rfl rfl) ?_
                          refine z_top (y := nI (2 * k_field)) (by simp only [fa_lit, nI_add, pk_mul]) ?_
                          refine lv_iadd hx hb (dkP dF_96 DX12_span (i := 98) rfl rfl) ?_
                          refine z_top (y := nI (((8 + 20 * k_program) + 4) + (2 * k_field))) (by simp only [fa_lit, nI_add, pk_mul]) ?_
                          refine lv_iconst (v := 1) hx hb (dkP dF_4 DX12_span (i := 99) rfl rfl) (by decide) ?_
                          refine lv_iadd hx hb (dkP dF_96 DX12_span (i := 100) rfl rfl) ?_
                          refine z_top (y := nI ((((8 + 20 * k_program) + 4) + (2 * k_field)) + 1)) (by simp only [fa_lit, nI_add, pk_mul]) ?_
                          refine lv_iload hx hb (dk1 dF_21 DX12_span (i := 101) rfl rfl rfl) (lv_at hl 3 rfl) ?_
                          refine lv_if_ne (tgt := 200) hx hb (dkS dF_154 DX12_span (i := 102) rfl rfl rfl) (by decide) (fun c51 => ?_) (fun c51 => ?_)
                          · (try simp (disch := omega) only [ta_lt, ta_le, ta_eq, tnI, tl32 0 (by decide)] at c51)
                            refine lv_iload hx hb (dk1 dF_21 DX12_span (i := 105) rfl rfl rfl) (lv_at hl 8 rfl) ?_
                            refine z_iastN (n := 414128) C0 hw 1 ((((8 + 20 * k_program) + 4) + (2 * k_field)) + 1) rfl (by omega) (by decide) (dkP dF_79 DX12_span (i := 106) rfl rfl) (fun H locs hw => ?_)
                            have hT52 : TM (sI (sI σ 1 (((8 + 20 * k_program) + 4) + (2 * k_field)) 1) 1 ((((8 + 20 * k_program) + 4) + (2 * k_field)) + 1) high) := TM.w hT49 (ty_wr (by omega) (by omega) (by omega))
                            have hF52 : fr true [1] [] σ (sI (sI σ 1 (((8 + 20 * k_program) + 4) + (2 * k_field)) 1) 1 ((((8 + 20 * k_program) + 4) + (2 * k_field)) + 1) high) := fr.w hF49 (Or.inl ⟨by decide, by decide⟩) (fun _ _ => by unfold KR; omega)
                            refine lv_aload_n hx hb (dkP dF_42 DX12_span (i := 107) rfl rfl) rfl (lv_at hl 4 rfl) ?_
                            refine z_gr C0 hw 0 1 1 rfl fl_X12_20 (dk2 dF_180 DX12_span (i := 108) rfl rfl rfl) ?_
                            refine lv_iload_n hx hb (dkP dF_27 DX12_span (i := 109) rfl rfl) rfl (lv_at hl 5 rfl) ?_
                            refine zn_I hw (zr_S (As := [.int (nI k_program)]) (rest := [.ref (ad 1)]) C0 (c_X12_of l G kc k_program  _) cs_X12_of lk_X12_139 (zp_P C0 hRo hw a00 s00) rfl hl.1 rfl ⟨by decide, by decide⟩ (Nat.le_of_ble_eq_true rfl) (dk2 dF_184 DX12_span (i := 110) rfl rfl rfl) ⟨Nat.le_refl _, Nat.le_refl _⟩) (fun r53 s53 H locs hp hw => ?_)
                            subst hp
                            refine lv_iconst (v := 3) hx hb (dkP dF_6 DX12_span (i := 111) rfl rfl) (by decide) ?_
                            refine lv_iadd hx hb (dkP dF_96 DX12_span (i := 112) rfl rfl) ?_
                            refine z_top (y := nI ((8 + 20 * k_program) + 3)) (by simp only [fa_lit, nI_add, pk_mul]) ?_
                            refine lv_iconst (v := (-1)) hx hb (dkP dF_2 DX12_span (i := 113) rfl rfl) (by decide) ?_
                            refine z_iastN (n := 414128) C0 hw 1 ((8 + 20 * k_program) + 3) rfl (by omega) (by decide) (dkP dF_79 DX12_span (i := 114) rfl rfl) (fun H locs hw => ?_)
                            have hT54 : TM (sI (sI (sI σ 1 (((8 + 20 * k_program) + 4) + (2 * k_field)) 1) 1 ((((8 + 20 * k_program) + 4) + (2 * k_field)) + 1) high) 1 ((8 + 20 * k_program) + 3) (-1)) := TM.w hT52 (ty_w3 (by omega))
                            have hF54 : fr true [1] [] σ (sI (sI (sI σ 1 (((8 + 20 * k_program) + 4) + (2 * k_field)) 1) 1 ((((8 + 20 * k_program) + 4) + (2 * k_field)) + 1) high) 1 ((8 + 20 * k_program) + 3) (-1)) := fr.w hF52 (Or.inl ⟨by decide, by decide⟩) (fun _ _ => by unfold KR; omega)
                            refine lv_iload hx hb (dk1 dF_21 DX12_span (i := 115) rfl rfl rfl) (lv_at hl 1 rfl) ?_
                            exact z_iret C0 hr hlk hw (⟨hT54, hF54⟩) (dkP dF_172 DX12_span (i := 116) rfl rfl)
                          · (try simp (disch := omega) only [ta_lt, ta_le, ta_eq, tnI, tl32 0 (by decide)] at c51)
                            refine lv_iconst (v := 0) hx hb (dkP dF_3 DX12_span (i := 103) rfl rfl) (by decide) ?_
                            refine lv_goto (tgt := 202) hx hb (dkS dF_167 DX12_span (i := 104) rfl rfl rfl) (by decide) ?_
                            refine z_iastN (n := 414128) C0 hw 1 ((((8 + 20 * k_program) + 4) + (2 * k_field)) + 1) rfl (by omega) (by decide) (dkP dF_79 DX12_span (i := 106) rfl rfl) (fun H locs hw => ?_)
                            have hT55 : TM (sI (sI σ 1 (((8 + 20 * k_program) + 4) + (2 * k_field)) 1) 1 ((((8 + 20 * k_program) + 4) + (2 * k_field)) + 1) 0) := TM.w hT49 (ty_wr (by omega) (by omega) (by omega))
                            have hF55 : fr true [1] [] σ (sI (sI σ 1 (((8 + 20 * k_program) + 4) + (2 * k_field)) 1) 1 ((((8 + 20 * k_program) + 4) + (2 * k_field)) + 1) 0) := fr.w hF49 (Or.inl ⟨by decide, by decide⟩) (fun _ _ => by unfold KR; omega)
                            refine lv_aload_n hx hb (dkP dF_42 DX12_span (i := 107) rfl rfl) rfl (lv_at hl 4 rfl) ?_
                            refine z_gr C0 hw 0 1 1 rfl fl_X12_20 (dk2 dF_180 DX12_span (i := 108) rfl rfl rfl) ?_
                            refine lv_iload_n hx hb (dkP dF_27 DX12_span (i := 109) rfl rfl) rfl (lv_at hl 5 rfl) ?_
                            refine zn_I hw (zr_S (As := [.int (nI k_program)]) (rest := [.ref (ad 1)]) C0 (c_X12_of l G kc k_program  _) cs_X12_of lk_X12_139 (zp_P C0 hRo hw a00 s00) rfl hl.1 rfl ⟨by decide, by decide⟩ (Nat.le_of_ble_eq_true rfl) (dk2 dF_184 DX12_span (i := 110) rfl rfl rfl) ⟨Nat.le_refl _, Nat.le_refl _⟩) (fun r56 s56 H locs hp hw => ?_)
                            subst hp
                            refine lv_iconst (v := 3) hx hb (dkP dF_6 DX12_span (i := 111) rfl rfl) (by decide) ?_
                            refine lv_iadd hx hb (dkP dF_96 DX12_span (i := 112) rfl rfl) ?_
                            refine z_top (y := nI ((8 + 20 * k_program) + 3)) (by simp only [fa_lit, nI_add, pk_mul]) ?_
                            refine lv_iconst (v := (-1)) hx hb (dkP dF_2 DX12_span (i := 113) rfl rfl) (by decide) ?_
                            refine z_iastN (n := 414128) C0 hw 1 ((8 + 20 * k_program) + 3) rfl (by omega) (by decide) (dkP dF_79 DX12_span (i := 114) rfl rfl) (fun H locs hw => ?_)
                            have hT57 : TM (sI (sI (sI σ 1 (((8 + 20 * k_program) + 4) + (2 * k_field)) 1) 1 ((((8 + 20 * k_program) + 4) + (2 * k_field)) + 1) 0) 1 ((8 + 20 * k_program) + 3) (-1)) := TM.w hT55 (ty_w3 (by omega))
                            have hF57 : fr true [1] [] σ (sI (sI (sI σ 1 (((8 + 20 * k_program) + 4) + (2 * k_field)) 1) 1 ((((8 + 20 * k_program) + 4) + (2 * k_field)) + 1) 0) 1 ((8 + 20 * k_program) + 3) (-1)) := fr.w hF55 (Or.inl ⟨by decide, by decide⟩) (fun _ _ => by unfold KR; omega)
                            refine lv_iload hx hb (dk1 dF_21 DX12_span (i := 115) rfl rfl rfl) (lv_at hl 1 rfl) ?_
                            exact z_iret C0 hr hlk hw (⟨hT57, hF57⟩) (dkP dF_172 DX12_span (i := 116) rfl rfl)
                      · (try simp (disch := omega) only [ta_lt, ta_le, ta_eq, tnI, tl32 4096 (by decide)] at c37)
                        refine lv_bipush (v := (-3)) hx hb (dks dF_16 DX12_span (i := 71) rfl rfl rfl) (by decide) ?_
                        exact z_iret C0 hr hlk hw (⟨hT, fr.refl⟩) (dkP dF_172 DX12_span (i := 72) rfl rfl)
                · simp (disch := omega) only [ta_lt, ta_le, ta_eq, tnI, tl32 8 (by decide)] at c13
                  refine lv_iload hx hb (dk1 dF_21 DX12_span (i := 44) rfl rfl rfl) (lv_at hl 0 rfl) ?_
                  refine lv_iload_n hx hb (dkP dF_28 DX12_span (i := 45) rfl rfl) rfl (lv_at hl 6 rfl) ?_
                  refine lv_icmp_eq (tgt := 122) hx hb (dkS dF_159 DX12_span (i := 46) rfl rfl rfl) (by decide) (fun c58 => ?_) (fun c58 => ?_)
                  · simp (disch := omega) only [ta_lt, ta_le, ta_eq, tnI] at c58
                    refine lv_iinc (v := nI (q8_81 + 1)) (lv' := [(8, .int (nI (q8_81 + 1))), (7, .int q7_81), (6, .int (nI q6_81)), (5, .int v9), (0, .ref (ad 0)), (1, .int (nI k_program)), (2, .int (nI k_field)), (3, .int low), (4, .int high)]) hx hb (dkI DX12_span (i := 61) rfl rfl rfl rfl) hl (k := 0) rfl (nI_1 _) (by decide) rfl (fun ls hl => ?_)
                    refine lv_goto (tgt := 81) hx hb (dkS dF_167 DX12_span (i := 62) rfl rfl rfl) (by decide) ?_
                    exact ih12 (q8_81 + 1) q7_81 q6_81 _ _ _ (by omega) (by (try simp only [lg_cmp_lt, lg_cmp_le, lg_cmp_gt, lg_cmp_ge, lg_cmp_eq] at hc1); (try simp (disch := omega) only [ta_lt, ta_le, ta_eq, tb_lt, tb_le, tb_eq, tw, tnI, tsub1, tsv, tn32 99 (by decide), tnj 99 (by decide), tn32 3 (by decide), tnj 3 (by decide), tn32 1 (by decide), tnj 1 (by decide), tl32 0 (by decide), tl64 0 (by decide), tl32 1 (by decide), tl64 1 (by decide), tl32 2 (by decide), tl64 2 (by decide), tl32 3 (by decide), tl64 3 (by decide), tl32 4 (by decide), tl64 4 (by decide), tl32 8 (by decide), tl64 8 (by decide), tl32 99 (by decide), tl64 99 (by decide), tl32 4096 (by decide), tl64 4096 (by decide)] at hc1); (try simp only [lg_cmp_lt, lg_cmp_le, lg_cmp_gt, lg_cmp_ge, lg_cmp_eq] at hc2); (try simp (disch := omega) only [ta_lt, ta_le, ta_eq, tb_lt, tb_le, tb_eq, tw, tnI, tsub1, tsv, tn32 99 (by decide), tnj 99 (by decide), tn32 3 (by decide), tnj 3 (by decide), tn32 1 (by decide), tnj 1 (by decide), tl32 0 (by decide), tl64 0 (by decide), tl32 1 (by decide), tl64 1 (by decide), tl32 2 (by decide), tl64 2 (by decide), tl32 3 (by decide), tl64 3 (by decide), tl32 4 (by decide), tl64 4 (by decide), tl32 8 (by decide), tl64 8 (by decide), tl32 99 (by decide), tl64 99 (by decide), tl32 4096 (by decide), tl64 4096 (by decide)] at hc2); (try simp only [lg_cmp_lt, lg_cmp_le, lg_cmp_gt, lg_cmp_ge, lg_cmp_eq] at hc3); (try simp (disch := omega) only [ta_lt, ta_le, ta_eq, tb_lt, tb_le, tb_eq, tw, tnI, tsub1, tsv, tn32 99 (by decide), tnj 99 (by decide), tn32 3 (by decide), tnj 3 (by decide), tn32 1 (by decide), tnj 1 (by decide), tl32 0 (by decide), tl64 0 (by decide), tl32 1 (by decide), tl64 1 (by decide), tl32 2 (by decide), tl64 2 (by decide), tl32 3 (by decide), tl64 3 (by decide), tl32 4 (by decide), tl64 4 (by decide), tl32 8 (by decide), tl64 8 (by decide), tl32 99 (by decide), tl64 99 (by decide), tl32 4096 (by decide), tl64 4096 (by decide)] at hc3); (try simp only [lg_cmp_lt, lg_cmp_le, lg_cmp_gt, lg_cmp_ge, lg_cmp_eq] at hc4); (try simp (disch := omega) only [ta_lt, ta_le, ta_eq, tb_lt, tb_le, tb_eq, tw, tnI, tsub1, tsv, tn32 99 (by decide), tnj 99 (by decide), tn32 3 (by decide), tnj 3 (by decide), tn32 1 (by decide), tnj 1 (by decide), tl32 0 (by decide), tl64 0 (by decide), tl32 1 (by decide), tl64 1 (by decide), tl32 2 (by decide), tl64 2 (by decide), tl32 3 (by decide), tl64 3 (by decide), tl32 4 (by decide), tl64 4 (by decide), tl32 8 (by decide), tl64 8 (by decide), tl32 99 (by decide), tl64 99 (by decide), tl32 4096 (by decide), tl64 4096 (by decide)] at hc4); (try simp only [lg_cmp_lt, lg_cmp_le, lg_cmp_gt, lg_cmp_ge, lg_cmp_eq] at c7); (try simp (disch := omega) only [ta_lt, ta_le, ta_eq, tb_lt, tb_le, tb_eq, tw, tnI, tsub1, tsv, tn32 99 (by decide), tnj 99 (by decide), tn32 3 (by decide), tnj 3 (by decide), tn32 1 (by decide), tnj 1 (by decide), tl32 0 (by decide), tl64 0 (by decide), tl32 1 (by decide), tl64 1 (by decide), tl32 2 (by decide), tl64 2 (by decide), tl32 3 (by decide), tl64 3 (by decide), tl32 4 (by decide), tl64 4 (by decide), tl32 8 (by decide), tl64 8 (by decide), tl32 99 (by decide), tl64 99 (by decide), tl32 4096 (by decide), tl64 4096 (by decide)] at c7); (try simp only [lg_cmp_lt, lg_cmp_le, lg_cmp_gt, lg_cmp_ge, lg_cmp_eq] at c13); (try simp (disch := omega) only [ta_lt, ta_le, ta_eq, tb_lt, tb_le, tb_eq, tw, tnI, tsub1, tsv, tn32 99 (by decide), tnj 99 (by decide), tn32 3 (by decide), tnj 3 (by decide), tn32 1 (by decide), tnj 1 (by decide), tl32 0 (by decide), tl64 0 (by decide), tl32 1 (by decide), tl64 1 (by decide), tl32 2 (by decide), tl64 2 (by decide), tl32 3 (by decide), tl64 3 (by decide), tl32 4 (by decide), tl64 4 (by decide), tl32 8 (by decide), tl64 8 (by decide), tl32 99 (by decide), tl64 99 (by decide), tl32 4096 (by decide), tl64 4096 (by decide)] at c13); (try simp only [lg_cmp_lt, lg_cmp_le, lg_cmp_gt, lg_cmp_ge, lg_cmp_eq] at c58); (try simp (disch := omega) only [ta_lt, ta_le, ta_eq, tb_lt, tb_le, tb_eq, tw, tnI, tsub1, tsv, tn32 99 (by decide), tnj 99 (by decide), tn32 3 (by decide), tnj 3 (by decide), tn32 1 (by decide), tnj 1 (by decide), tl32 0 (by decide), tl64 0 (by decide), tl32 1 (by decide), tl64 1 (by decide), tl32 2 (by decide), tl64 2 (by decide), tl32 3 (by decide), tl64 3 (by decide), tl32 4 (by decide), tl64 4 (by decide), tl32 8 (by decide), tl64 8 (by decide), tl32 99 (by decide), tl64 99 (by decide), tl32 4096 (by decide), tl64 4096 (by decide)] at c58); (try simp (disch := omega) only [ta_lt, ta_le, ta_eq, tb_lt, tb_le, tb_eq, tw, tnI, tsub1, tsv, tn32 99 (by decide), tnj 99 (by decide), tn32 3 (by decide), tnj 3 (by decide), tn32 1 (by decide), tnj 1 (by decide), tl32 0 (by decide), tl64 0 (by decide), tl32 1 (by decide), tl64 1 (by decide), tl32 2 (by decide), tl64 2 (by decide), tl32 3 (by decide), tl64 3 (by decide), tl32 4 (by decide), tl64 4 (by decide), tl32 8 (by decide), tl64 8 (by decide), tl32 99 (by decide), tl64 99 (by decide), tl32 4096 (by decide), tl64 4096 (by decide)]); omega) (by (try simp only [lg_cmp_lt, lg_cmp_le, lg_cmp_gt, lg_cmp_ge, lg_cmp_eq] at hc1); (try simp (disch := omega) only [ta_lt, ta_le, ta_eq, tb_lt, tb_le, tb_eq, tw, tnI, tsub1, tsv, tn32 99 (by decide), tnj 99 (by decide), tn32 3 (by decide), tnj 3 (by decide), tn32 1 (by decide), tnj 1 (by decide), tl32 0 (by decide), tl64 0 (by decide), tl32 1 (by decide), tl64 1 (by decide), tl32 2 (by decide), tl64 2 (by decide), tl32 3 (by decide), tl64 3 (by decide), tl32 4 (by decide), tl64 4 (by decide), tl32 8 (by decide), tl64 8 (by decide), tl32 99 (by decide), tl64 99 (by decide), tl32 4096 (by decide), tl64 4096 (by decide)] at hc1); (try simp only [lg_cmp_lt, lg_cmp_le, lg_cmp_gt, lg_cmp_ge, lg_cmp_eq] at hc2); (try simp (disch := omega) only [ta_lt, ta_le, ta_eq, tb_lt, tb_le, tb_eq, tw, tnI, tsub1, tsv, tn32 99 (by decide), tnj 99 (by decide), tn32 3 (by decide), tnj 3 (by decide), tn32 1 (by decide), tnj 1 (by decide), tl32 0 (by decide), tl64 0 (by decide), tl32 1 (by decide), tl64 1 (by decide), tl32 2 (by decide), tl64 2 (by decide), tl32 3 (by decide), tl64 3 (by decide), tl32 4 (by decide), tl64 4 (by decide), tl32 8 (by decide), tl64 8 (by decide), tl32 99 (by decide), tl64 99 (by decide), tl32 4096 (by decide), tl64 4096 (by decide)] at hc2); (try simp only [lg_cmp_lt, lg_cmp_le, lg_cmp_gt, lg_cmp_ge, lg_cmp_eq] at hc3); (try simp (disch := omega) only [ta_lt, ta_le, ta_eq, tb_lt, tb_le, tb_eq, tw, tnI, tsub1, tsv, tn32 99 (by decide), tnj 99 (by decide), tn32 3 (by decide), tnj 3 (by decide), tn32 1 (by decide), tnj 1 (by decide), tl32 0 (by decide), tl64 0 (by decide), tl32 1 (by decide), tl64 1 (by decide), tl32 2 (by decide), tl64 2 (by decide), tl32 3 (by decide), tl64 3 (by decide), tl32 4 (by decide), tl64 4 (by decide), tl32 8 (by decide), tl64 8 (by decide), tl32 99 (by decide), tl64 99 (by decide), tl32 4096 (by decide), tl64 4096 (by decide)] at hc3); (try simp only [lg_cmp_lt, lg_cmp_le, lg_cmp_gt, lg_cmp_ge, lg_cmp_eq] at hc4); (try simp (disch := omega) only [ta_lt, ta_le, ta_eq, tb_lt, tb_le, tb_eq, tw, tnI, tsub1, tsv, tn32 99 (by decide), tnj 99 (by decide), tn32 3 (by decide), tnj 3 (by decide), tn32 1 (by decide), tnj 1 (by decide), tl32 0 (by decide), tl64 0 (by decide), tl32 1 (by decide), tl64 1 (by decide), tl32 2 (by decide), tl64 2 (by decide), tl32 3 (by decide), tl64 3 (by decide), tl32 4 (by decide), tl64 4 (by decide), tl32 8 (by decide), tl64 8 (by decide), tl32 99 (by decide), tl64 99 (by decide), tl32 4096 (by decide), tl64 4096 (by decide)] at hc4); (try simp only [lg_cmp_lt, lg_cmp_le, lg_cmp_gt, lg_cmp_ge, lg_cmp_eq] at c7); (try simp (disch := omega) only [ta_lt, ta_le, ta_eq, tb_lt, tb_le, tb_eq, tw, tnI, tsub1, tsv, tn32 99 (by decide), tnj 99 (by decide), tn32 3 (by decide), tnj 3 (by decide), tn32 1 (by decide), tnj 1 (by decide), tl32 0 (by decide), tl64 0 (by decide), tl32 1 (by decide), tl64 1 (by decide), tl32 2 (by decide), tl64 2 (by decide), tl32 3 (by decide), tl64 3 (by decide), tl32 4 (by decide), tl64 4 (by decide), tl32 8 (by decide), tl64 8 (by decide), tl32 99 (by decide), tl64 99 (by decide), tl32 4096 (by decide), tl64 4096 (by decide)] at c7); (try simp only [lg_cmp_lt, lg_cmp_le, lg_cmp_gt, lg_cmp_ge, lg_cmp_eq] at c13); (try simp (disch := omega) only [ta_lt, ta_le, ta_eq, tb_lt, tb_le, tb_eq, tw, tnI, tsub1, tsv, tn32 99 (by decide), tnj 99 (by decide), tn32 3 (by decide), tnj 3 (by decide), tn32 1 (by decide), tnj 1 (by decide), tl32 0 (by decide), tl64 0 (by decide), tl32 1 (by decide), tl64 1 (by decide), tl32 2 (by decide), tl64 2 (by decide), tl32 3 (by decide), tl64 3 (by decide), tl32 4 (by decide), tl64 4 (by decide), tl32 8 (by decide), tl64 8 (by decide), tl32 99 (by decide), tl64 99 (by decide), tl32 4096 (by decide), tl64 4096 (by decide)] at c13); (try simp only [lg_cmp_lt, lg_cmp_le, lg_cmp_gt, lg_cmp_ge, lg_cmp_eq] at c58); (try simp (disch := omega) only [ta_lt, ta_le, ta_eq, tb_lt, tb_le, tb_eq, tw, tnI, tsub1, tsv, tn32 99 (by decide), tnj 99 (by decide), tn32 3 (by decide), tnj 3 (by decide), tn32 1 (by decide), tnj 1 (by decide), tl32 0 (by decide), tl64 0 (by decide), tl32 1 (by decide), tl64 1 (by decide), tl32 2 (by decide), tl64 2 (by decide), tl32 3 (by decide), tl64 3 (by decide), tl32 4 (by decide), tl64 4 (by decide), tl32 8 (by decide), tl64 8 (by decide), tl32 99 (by decide), tl64 99 (by decide), tl32 4096 (by decide), tl64 4096 (by decide)] at c58); (try simp (disch := omega) only [ta_lt, ta_le, ta_eq, tb_lt, tb_le, tb_eq, tw, tnI, tsub1, tsv, tn32 99 (by decide), tnj 99 (by decide), tn32 3 (by decide), tnj 3 (by decide), tn32 1 (by decide), tnj 1 (by decide), tl32 0 (by decide), tl64 0 (by decide), tl32 1 (by decide), tl64 1 (by decide), tl32 2 (by decide), tl64 2 (by decide), tl32 3 (by decide), tl64 3 (by decide), tl32 4 (by decide), tl64 4 (by decide), tl32 8 (by decide), tl64 8 (by decide), tl32 99 (by decide), tl64 99 (by decide), tl32 4096 (by decide), tl64 4096 (by decide)]); omega) hw (lv_sub hl [0, 1, 2, 3, 4, 5, 6, 7, 8] rfl)
                  · simp (disch := omega) only [ta_lt, ta_le, ta_eq, tnI] at c58
                    refine lv_aload_n hx hb (dkP dF_42 DX12_span (i := 47) rfl rfl) rfl (lv_at hl 4 rfl) ?_
                    refine lv_iload_n hx hb (dkP dF_27 DX12_span (i := 48) rfl rfl) rfl (lv_at hl 5 rfl) ?_
                    refine lv_iload hx hb (dk1 dF_21 DX12_span (i := 49) rfl rfl rfl) (lv_at hl 0 rfl) ?_
                    refine zk_I hw (zr_V (As := [.int (nI k_program), .int (nI q8_81)]) (rest := []) C0 (c_X12_spanMany l G kc ad σ k_program q8_81 (by first | omega | assumption | decide | rfl) (by first | omega | assumption | decide | rfl) hT _) cv_X12_spanMany lk_X12_329 (zp_V C0 hRo hw 0 rfl rfl rfl) rfl hl.1 rfl ⟨by decide, by decide⟩ (Nat.le_of_ble_eq_true rfl) (dk2 dF_182 DX12_span (i := 50) rfl rfl rfl) ⟨Nat.le_refl _, Nat.le_refl _⟩) (fun r59 s59 H locs hp hw => ?_)
                    obtain ⟨f59_0, hs59⟩ := hp
                    (rw [hs59] at hw)
                    obtain ⟨n59, hn59, rfl⟩ := rngN (h := 2147483647) f59_0
                    refine lv_if_ne (tgt := 107) hx hb (dkS dF_154 DX12_span (i := 51) rfl rfl rfl) (by decide) (fun c60 => ?_) (fun c60 => ?_)
                    · simp (disch := omega) only [ta_lt, ta_le, ta_eq, tnI, tl32 0 (by decide)] at c60
                      refine lv_iinc (v := nI (q6_81 + 1)) (lv' := [(6, .int (nI (q6_81 + 1))), (8, .int (nI q8_81)), (7, .int q7_81), (5, .int v9), (0, .ref (ad 0)), (1, .int (nI k_program)), (2, .int (nI k_field)), (3, .int low), (4, .int high)]) hx hb (dkI DX12_span (i := 53) rfl rfl rfl rfl) hl (k := 2) rfl (nI_1 _) (by decide) rfl (fun ls hl => ?_)
                      refine lv_iload hx hb (dk1 dF_21 DX12_span (i := 54) rfl rfl rfl) (lv_at hl 2 rfl) ?_
                      refine lv_aload_n hx hb (dkP dF_42 DX12_span (i := 55) rfl rfl) rfl (lv_at hl 4 rfl) ?_
                      refine lv_iload_n hx hb (dkP dF_27 DX12_span (i := 56) rfl rfl) rfl (lv_at hl 5 rfl) ?_
                      refine lv_iload hx hb (dk1 dF_21 DX12_span (i := 57) rfl rfl rfl) (lv_at hl 1 rfl) ?_
                      refine zk_I hw (zr_V (As := [.int (nI k_program), .int (nI q8_81)]) (rest := [.int q7_81]) C0 (c_X12_spanMany l G kc ad σ k_program q8_81 (by first | omega | assumption | decide | rfl) (by first | omega | assumption | decide | rfl) hT _) cv_X12_spanMany lk_X12_329 (zp_V C0 hRo hw 0 rfl rfl rfl) rfl hl.1 rfl ⟨by decide, by decide⟩ (Nat.le_of_ble_eq_true rfl) (dk2 dF_182 DX12_span (i := 58) rfl rfl rfl) ⟨Nat.le_refl _, Nat.le_refl _⟩) (fun r61 s61 H locs hp hw => ?_)
                      obtain ⟨f61_0, hs61⟩ := hp
                      (rw [hs61] at hw)
                      obtain ⟨n61, hn61, rfl⟩ := rngN (h := 2147483647) f61_0
                      refine lv_imul hx hb (dkP dF_104 DX12_span (i := 59) rfl rfl) ?_
                      refine lv_topi (fun v62 ev62 => ?_)
                      refine lv_istore (lv' := [(7, .int v62), (6, .int (nI (q6_81 + 1))), (8, .int (nI q8_81)), (5, .int v9), (0, .ref (ad 0)), (1, .int (nI k_program)), (2, .int (nI k_field)), (3, .int low), (4, .int high)]) hx hb (dk1 dF_54 DX12_span (i := 60) rfl rfl rfl) hl (by decide) rfl (fun ls hl => ?_)
                      refine lv_iinc (v := nI (q8_81 + 1)) (lv' := [(8, .int (nI (q8_81 + 1))), (7, .int v62), (6, .int (nI (q6_81 + 1))), (5, .int v9), (0, .ref (ad 0)), (1, .int (nI k_program)), (2, .int (nI k_field)), (3, .int low), (4, .int high)]) hx hb (dkI DX12_span (i := 61) rfl rfl rfl rfl) hl (k := 2) rfl (nI_1 _) (by decide) rfl (fun ls hl => ?_)
                      refine lv_goto (tgt := 81) hx hb (dkS dF_167 DX12_span (i := 62) rfl rfl rfl) (by decide) ?_
                      exact ih12 (q8_81 + 1) v62 (q6_81 + 1) _ _ _ (by omega) (by (try simp only [lg_cmp_lt, lg_cmp_le, lg_cmp_gt, lg_cmp_ge, lg_cmp_eq] at hc1); (try simp (disch := omega) only [ta_lt, ta_le, ta_eq, tb_lt, tb_le, tb_eq, tw, tnI, tsub1, tsv, tn32 99 (by decide), tnj 99 (by decide), tn32 3 (by decide), tnj 3 (by decide), tn32 1 (by decide), tnj 1 (by decide), tl32 0 (by decide), tl64 0 (by decide), tl32 1 (by decide), tl64 1 (by decide), tl32 2 (by decide), tl64 2 (by decide), tl32 3 (by decide), tl64 3 (by decide), tl32 4 (by decide), tl64 4 (by decide), tl32 8 (by decide), tl64 8 (by decide), tl32 99 (by decide), tl64 99 (by decide), tl32 4096 (by decide), tl64 4096 (by decide)] at hc1); (try simp only [lg_cmp_lt, lg_cmp_le, lg_cmp_gt, lg_cmp_ge, lg_cmp_eq] at hc2); (try simp (disch := omega) only [ta_lt, ta_le, ta_eq, tb_lt, tb_le, tb_eq, tw, tnI, tsub1, tsv, tn32 99 (by decide), tnj 99 (by decide), tn32 3 (by decide), tnj 3 (by decide), tn32 1 (by decide), tnj 1 (by decide), tl32 0 (by decide), tl64 0 (by decide), tl32 1 (by decide), tl64 1 (by decide), tl32 2 (by decide), tl64 2 (by decide), tl32 3 (by decide), tl64 3 (by decide), tl32 4 (by decide), tl64 4 (by decide), tl32 8 (by decide), tl64 8 (by decide), tl32 99 (by decide), tl64 99 (by decide), tl32 4096 (by decide), tl64 4096 (by decide)] at hc2); (try simp only [lg_cmp_lt, lg_cmp_le, lg_cmp_gt, lg_cmp_ge, lg_cmp_eq] at hc3); (try simp (disch := omega) only [ta_lt, ta_le, ta_eq, tb_lt, tb_le, tb_eq, tw, tnI, tsub1, tsv, tn32 99 (by decide), tnj 99 (by decide), tn32 3 (by decide), tnj 3 (by decide), tn32 1 (by decide), tnj 1 (by decide), tl32 0 (by decide), tl64 0 (by decide), tl32 1 (by decide), tl64 1 (by decide), tl32 2 (by decide), tl64 2 (by decide), tl32 3 (by decide), tl64 3 (by decide), tl32 4 (by decide), tl64 4 (by decide), tl32 8 (by decide), tl64 8 (by decide), tl32 99 (by decide), tl64 99 (by decide), tl32 4096 (by decide), tl64 4096 (by decide)] at hc3); (try simp only [lg_cmp_lt, lg_cmp_le, lg_cmp_gt, lg_cmp_ge, lg_cmp_eq] at hc4); (try simp (disch := omega) only [ta_lt, ta_le, ta_eq, tb_lt, tb_le, tb_eq, tw, tnI, tsub1, tsv, tn32 99 (by decide), tnj 99 (by decide), tn32 3 (by decide), tnj 3 (by decide), tn32 1 (by decide), tnj 1 (by decide), tl32 0 (by decide), tl64 0 (by decide), tl32 1 (by decide), tl64 1 (by decide), tl32 2 (by decide), tl64 2 (by decide), tl32 3 (by decide), tl64 3 (by decide), tl32 4 (by decide), tl64 4 (by decide), tl32 8 (by decide), tl64 8 (by decide), tl32 99 (by decide), tl64 99 (by decide), tl32 4096 (by decide), tl64 4096 (by decide)] at hc4); (try simp only [lg_cmp_lt, lg_cmp_le, lg_cmp_gt, lg_cmp_ge, lg_cmp_eq] at c7); (try simp (disch := omega) only [ta_lt, ta_le, ta_eq, tb_lt, tb_le, tb_eq, tw, tnI, tsub1, tsv, tn32 99 (by decide), tnj 99 (by decide), tn32 3 (by decide), tnj 3 (by decide), tn32 1 (by decide), tnj 1 (by decide), tl32 0 (by decide), tl64 0 (by decide), tl32 1 (by decide), tl64 1 (by decide), tl32 2 (by decide), tl64 2 (by decide), tl32 3 (by decide), tl64 3 (by decide), tl32 4 (by decide), tl64 4 (by decide), tl32 8 (by decide), tl64 8 (by decide), tl32 99 (by decide), tl64 99 (by decide), tl32 4096 (by decide), tl64 4096 (by decide)] at c7); (try simp only [lg_cmp_lt, lg_cmp_le, lg_cmp_gt, lg_cmp_ge, lg_cmp_eq] at c13); (try simp (disch := omega) only [ta_lt, ta_le, ta_eq, tb_lt, tb_le, tb_eq, tw, tnI, tsub1, tsv, tn32 99 (by decide), tnj 99 (by decide), tn32 3 (by decide), tnj 3 (by decide), tn32 1 (by decide), tnj 1 (by decide), tl32 0 (by decide), tl64 0 (by decide), tl32 1 (by decide), tl64 1 (by decide), tl32 2 (by decide), tl64 2 (by decide), tl32 3 (by decide), tl64 3 (by decide), tl32 4 (by decide), tl64 4 (by decide), tl32 8 (by decide), tl64 8 (by decide), tl32 99 (by decide), tl64 99 (by decide), tl32 4096 (by decide), tl64 4096 (by decide)] at c13); (try simp only [lg_cmp_lt, lg_cmp_le, lg_cmp_gt, lg_cmp_ge, lg_cmp_eq] at c58); (try simp (disch := omega) only [ta_lt, ta_le, ta_eq, tb_lt, tb_le, tb_eq, tw, tnI, tsub1, tsv, tn32 99 (by decide), tnj 99 (by decide), tn32 3 (by decide), tnj 3 (by decide), tn32 1 (by decide), tnj 1 (by decide), tl32 0 (by decide), tl64 0 (by decide), tl32 1 (by decide), tl64 1 (by decide), tl32 2 (by decide), tl64 2 (by decide), tl32 3 (by decide), tl64 3 (by decide), tl32 4 (by decide), tl64 4 (by decide), tl32 8 (by decide), tl64 8 (by decide), tl32 99 (by decide), tl64 99 (by decide), tl32 4096 (by decide), tl64 4096 (by decide)] at c58); (try simp only [lg_cmp_lt, lg_cmp_le, lg_cmp_gt, lg_cmp_ge, lg_cmp_eq] at f59_0); (try simp (disch := omega) only [ta_lt, ta_le, ta_eq, tb_lt, tb_le, tb_eq, tw, tnI, tsub1, tsv, tn32 99 (by decide), tnj 99 (by decide), tn32 3 (by decide), tnj 3 (by decide), tn32 1 (by decide), tnj 1 (by decide), tl32 0 (by decide), tl64 0 (by decide), tl32 1 (by decide), tl64 1 (by decide), tl32 2 (by decide), tl64 2 (by decide), tl32 3 (by decide), tl64 3 (by decide), tl32 4 (by decide), tl64 4 (by decide), tl32 8 (by decide), tl64 8 (by decide), tl32 99 (by decide), tl64 99 (by decide), tl32 4096 (by decide), tl64 4096 (by decide)] at f59_0); (try simp only [lg_cmp_lt, lg_cmp_le, lg_cmp_gt, lg_cmp_ge, lg_cmp_eq] at c60); (try simp (disch := omega) only [ta_lt, ta_le, ta_eq, tb_lt, tb_le, tb_eq, tw, tnI, tsub1, tsv, tn32 99 (by decide), tnj 99 (by decide), tn32 3 (by decide), tnj 3 (by decide), tn32 1 (by decide), tnj 1 (by decide), tl32 0 (by decide), tl64 0 (by decide), tl32 1 (by decide), tl64 1 (by decide), tl32 2 (by decide), tl64 2 (by decide), tl32 3 (by decide), tl64 3 (by decide), tl32 4 (by decide), tl64 4 (by decide), tl32 8 (by decide), tl64 8 (by decide), tl32 99 (by decide), tl64 99 (by decide), tl32 4096 (by decide), tl64 4096 (by decide)] at c60); (try simp only [lg_cmp_lt, lg_cmp_le, lg_cmp_gt, lg_cmp_ge, lg_cmp_eq] at f61_0); (try simp (disch := omega) only [ta_lt, ta_le, ta_eq, tb_lt, tb_le, tb_eq, tw, tnI, tsub1, tsv, tn32 99 (by decide), tnj 99 (by decide), tn32 3 (by decide), tnj 3 (by decide), tn32 1 (by decide), tnj 1 (by decide), tl32 0 (by decide), tl64 0 (by decide), tl32 1 (by decide), tl64 1 (by decide), tl32 2 (by decide), tl64 2 (by decide), tl32 3 (by decide), tl64 3 (by decide), tl32 4 (by decide), tl64 4 (by decide), tl32 8 (by decide), tl64 8 (by decide), tl32 99 (by decide), tl64 99 (by decide), tl32 4096 (by decide), tl64 4096 (by decide)] at f61_0); (try simp (disch := omega) only [ta_lt, ta_le, ta_eq, tb_lt, tb_le, tb_eq, tw, tnI, tsub1, tsv, tn32 99 (by decide), tnj 99 (by decide), tn32 3 (by decide), tnj 3 (by decide), tn32 1 (by decide), tnj 1 (by decide), tl32 0 (by decide), tl64 0 (by decide), tl32 1 (by decide), tl64 1 (by decide), tl32 2 (by decide), tl64 2 (by decide), tl32 3 (by decide), tl64 3 (by decide), tl32 4 (by decide), tl64 4 (by decide), tl32 8 (by decide), tl64 8 (by decide), tl32 99 (by decide), tl64 99 (by decide), tl32 4096 (by decide), tl64 4096 (by decide)]); omega) (by (try simp only [lg_cmp_lt, lg_cmp_le, lg_cmp_gt, lg_cmp_ge, lg_cmp_eq] at hc1); (try simp (disch := omega) only [ta_lt, ta_le, ta_eq, tb_lt, tb_le, tb_eq, tw, tnI, tsub1, tsv, tn32 99 (by decide), tnj 99 (by decide), tn32 3 (by decide), tnj 3 (by decide), tn32 1 (by decide), tnj 1 (by decide), tl32 0 (by decide), tl64 0 (by decide), tl32 1 (by decide), tl64 1 (by decide), tl32 2 (by decide), tl64 2 (by decide), tl32 3 (by decide), tl64 3 (by decide), tl32 4 (by decide), tl64 4 (by decide), tl32 8 (by decide), tl64 8 (by decide), tl32 99 (by decide), tl64 99 (by decide), tl32 4096 (by decide), tl64 4096 (by decide)] at hc1); (try simp only [lg_cmp_lt, lg_cmp_le, lg_cmp_gt, lg_cmp_ge, lg_cmp_eq] at hc2); (try simp (disch := omega) only [ta_lt, ta_le, ta_eq, tb_lt, tb_le, tb_eq, tw, tnI, tsub1, tsv, tn32 99 (by decide), tnj 99 (by decide), tn32 3 (by decide), tnj 3 (by decide), tn32 1 (by decide), tnj 1 (by decide), tl32 0 (by decide), tl64 0 (by decide), tl32 1 (by decide), tl64 1 (by decide), tl32 2 (by decide), tl64 2 (by decide), tl32 3 (by decide), tl64 3 (by decide), tl32 4 (by decide), tl64 4 (by decide), tl32 8 (by decide), tl64 8 (by decide), tl32 99 (by decide), tl64 99 (by decide), tl32 4096 (by decide), tl64 4096 (by decide)] at hc2); (try simp only [lg_cmp_lt, lg_cmp_le, lg_cmp_gt, lg_cmp_ge, lg_cmp_eq] at hc3); (try simp (disch := omega) only [ta_lt, ta_le, ta_eq, tb_lt, tb_le, tb_eq, tw, tnI, tsub1, tsv, tn32 99 (by decide), tnj 99 (by decide), tn32 3 (by decide), tnj 3 (by decide), tn32 1 (by decide), tnj 1 (by decide), tl32 0 (by decide), tl64 0 (by decide), tl32 1 (by decide), tl64 1 (by decide), tl32 2 (by decide), tl64 2 (by decide), tl32 3 (by decide), tl64 3 (by decide), tl32 4 (by decide), tl64 4 (by decide), tl32 8 (by decide), tl64 8 (by decide), tl32 99 (by decide), tl64 99 (by decide), tl32 4096 (by decide), tl64 4096 (by decide)] at hc3); (try simp only [lg_cmp_lt, lg_cmp_le, lg_cmp_gt, lg_cmp_ge, lg_cmp_eq] at hc4); (try simp (disch := omega) only [ta_lt, ta_le, ta_eq, tb_lt, tb_le, tb_eq, tw, tnI, tsub1, tsv, tn32 99 (by decide), tnj 99 (by decide), tn32 3 (by decide), tnj 3 (by decide), tn32 1 (by decide), tnj 1 (by decide), tl32 0 (by decide), tl64 0 (by decide), tl32 1 (by decide), tl64 1 (by decide), tl32 2 (by decide), tl64 2 (by decide), tl32 3 (by decide), tl64 3 (by decide), tl32 4 (by decide), tl64 4 (by decide), tl32 8 (by decide), tl64 8 (by decide), tl32 99 (by decide), tl64 99 (by decide), tl32 4096 (by decide), tl64 4096 (by decide)] at hc4); (try simp only [lg_cmp_lt, lg_cmp_le, lg_cmp_gt, lg_cmp_ge, lg_cmp_eq] at c7); (try simp (disch := omega) only [ta_lt, ta_le, ta_eq, tb_lt, tb_le, tb_eq, tw, tnI, tsub1, tsv, tn32 99 (by decide), tnj 99 (by decide), tn32 3 (by decide), tnj 3 (by decide), tn32 1 (by decide), tnj 1 (by decide), tl32 0 (by decide), tl64 0 (by decide), tl32 1 (by decide), tl64 1 (by decide), tl32 2 (by decide), tl64 2 (by decide), tl32 3 (by decide), tl64 3 (by decide), tl32 4 (by decide), tl64 4 (by decide), tl32 8 (by decide), tl64 8 (by decide), tl32 99 (by decide), tl64 99 (by decide), tl32 4096 (by decide), tl64 4096 (by decide)] at c7); (try simp only [lg_cmp_lt, lg_cmp_le, lg_cmp_gt, lg_cmp_ge, lg_cmp_eq] at c13); (try simp (disch := omega) only [ta_lt, ta_le, ta_eq, tb_lt, tb_le, tb_eq, tw, tnI, tsub1, tsv, tn32 99 (by decide), tnj 99 (by decide), tn32 3 (by decide), tnj 3 (by decide), tn32 1 (by decide), tnj 1 (by decide), tl32 0 (by decide), tl64 0 (by decide), tl32 1 (by decide), tl64 1 (by decide), tl32 2 (by decide), tl64 2 (by decide), tl32 3 (by decide), tl64 3 (by decide), tl32 4 (by decide), tl64 4 (by decide), tl32 8 (by decide), tl64 8 (by decide), tl32 99 (by decide), tl64 99 (by decide), tl32 4096 (by decide), tl64 4096 (by decide)] at c13); (try simp only [lg_cmp_lt, lg_cmp_le, lg_cmp_gt, lg_cmp_ge, lg_cmp_eq] at c58); (try simp (disch := omega) only [ta_lt, ta_le, ta_eq, tb_lt, tb_le, tb_eq, tw, tnI, tsub1, tsv, tn32 99 (by decide), tnj 99 (by decide), tn32 3 (by decide), tnj 3 (by decide), tn32 1 (by decide), tnj 1 (by decide), tl32 0 (by decide), tl64 0 (by decide), tl32 1 (by decide), tl64 1 (by decide), tl32 2 (by decide), tl64 2 (by decide), tl32 3 (by decide), tl64 3 (by decide), tl32 4 (by decide), tl64 4 (by decide), tl32 8 (by decide), tl64 8 (by decide), tl32 99 (by decide), tl64 99 (by decide), tl32 4096 (by decide), tl64 4096 (by decide)] at c58); (try simp only [lg_cmp_lt, lg_cmp_le, lg_cmp_gt, lg_cmp_ge, lg_cmp_eq] at f59_0); (try simp (disch := omega) only [ta_lt, ta_le, ta_eq, tb_lt, tb_le, tb_eq, tw, tnI, tsub1, tsv, tn32 99 (by decide), tnj 99 (by decide), tn32 3 (by decide), tnj 3 (by decide), tn32 1 (by decide), tnj 1 (by decide), tl32 0 (by decide), tl64 0 (by decide), tl32 1 (by decide), tl64 1 (by decide), tl32 2 (by decide), tl64 2 (by decide), tl32 3 (by decide), tl64 3 (by decide), tl32 4 (by decide), tl64 4 (by decide), tl32 8 (by decide), tl64 8 (by decide), tl32 99 (by decide), tl64 99 (by decide), tl32 4096 (by decide), tl64 4096 (by decide)] at f59_0); (try simp only [lg_cmp_lt, lg_cmp_le, lg_cmp_gt, lg_cmp_ge, lg_cmp_eq] at c60); (try simp (disch := omega) only [ta_lt, ta_le, ta_eq, tb_lt, tb_le, tb_eq, tw, tnI, tsub1, tsv, tn32 99 (by decide), tnj 99 (by decide), tn32 3 (by decide), tnj 3 (by decide), tn32 1 (by decide), tnj 1 (by decide), tl32 0 (by decide), tl64 0 (by decide), tl32 1 (by decide), tl64 1 (by decide), tl32 2 (by decide), tl64 2 (by decide), tl32 3 (by decide), tl64 3 (by decide), tl32 4 (by decide), tl64 4 (by decide), tl32 8 (by decide), tl64 8 (by decide), tl32 99 (by decide), tl64 99 (by decide), tl32 4096 (by decide), tl64 4096 (by decide)] at c60); (try simp only [lg_cmp_lt, lg_cmp_le, lg_cmp_gt, lg_cmp_ge, lg_cmp_eq] at f61_0); (try simp (disch := omega) only [ta_lt, ta_le, ta_eq, tb_lt, tb_le, tb_eq, tw, tnI, tsub1, tsv, tn32 99 (by decide), tnj 99 (by decide), tn32 3 (by decide), tnj 3 (by decide), tn32 1 (by decide), tnj 1 (by decide), tl32 0 (by decide), tl64 0 (by decide), tl32 1 (by decide), tl64 1 (by decide), tl32 2 (by decide), tl64 2 (by decide), tl32 3 (by decide), tl64 3 (by decide), tl32 4 (by decide), tl64 4 (by decide), tl32 8 (by decide), tl64 8 (by decide), tl32 99 (by decide), tl64 99 (by decide), tl32 4096 (by decide), tl64 4096 (by decide)] at f61_0); (try simp (disch := omega) only [ta_lt, ta_le, ta_eq, tb_lt, tb_le, tb_eq, tw, tnI, tsub1, tsv, tn32 99 (by decide), tnj 99 (by decide), tn32 3 (by decide), tnj 3 (by decide), tn32 1 (by decide), tnj 1 (by decide), tl32 0 (by decide), tl64 0 (by decide), tl32 1 (by decide), tl64 1 (by decide), tl32 2 (by decide), tl64 2 (by decide), tl32 3 (by decide), tl64 3 (by decide), tl32 4 (by decide), tl64 4 (by decide), tl32 8 (by decide), tl64 8 (by decide), tl32 99 (by decide), tl64 99 (by decide), tl32 4096 (by decide), tl64 4096 (by decide)]); omega) hw (lv_sub hl [0, 1, 2, 3, 4, 5, 6, 7, 8] rfl)
                    · simp (disch := omega) only [ta_lt, ta_le, ta_eq, tnI, tl32 0 (by decide)] at c60
                      refine lv_goto (tgt := 122) hx hb (dkS dF_167 DX12_span (i := 52) rfl rfl rfl) (by decide) ?_
                      refine lv_iinc (v := nI (q8_81 + 1)) (lv' := [(8, .int (nI (q8_81 + 1))), (7, .int q7_81), (6, .int (nI q6_81)), (5, .int v9), (0, .ref (ad 0)), (1, .int (nI k_program)), (2, .int (nI k_field)), (3, .int low), (4, .int high)]) hx hb (dkI DX12_span (i := 61) rfl rfl rfl rfl) hl (k := 0) rfl (nI_1 _) (by decide) rfl (fun ls hl => ?_)
                      refine lv_goto (tgt := 81) hx hb (dkS dF_167 DX12_span (i := 62) rfl rfl rfl) (by decide) ?_
                      exact ih12 (q8_81 + 1) q7_81 q6_81 _ _ _ (by omega) (by (try simp only [lg_cmp_lt, lg_cmp_le, lg_cmp_gt, lg_cmp_ge, lg_cmp_eq] at hc1); (try simp (disch := omega) only [ta_lt, ta_le, ta_eq, tb_lt, tb_le, tb_eq, tw, tnI, tsub1, tsv, tn32 99 (by decide), tnj 99 (by decide), tn32 3 (by decide), tnj 3 (by decide), tn32 1 (by decide), tnj 1 (by decide), tl32 0 (by decide), tl64 0 (by decide), tl32 1 (by decide), tl64 1 (by decide), tl32 2 (by decide), tl64 2 (by decide), tl32 3 (by decide), tl64 3 (by decide), tl32 4 (by decide), tl64 4 (by decide), tl32 8 (by decide), tl64 8 (by decide), tl32 99 (by decide), tl64 99 (by decide), tl32 4096 (by decide), tl64 4096 (by decide)] at hc1); (try simp only [lg_cmp_lt, lg_cmp_le, lg_cmp_gt, lg_cmp_ge, lg_cmp_eq] at hc2); (try simp (disch := omega) only [ta_lt, ta_le, ta_eq, tb_lt, tb_le, tb_eq, tw, tnI, tsub1, tsv, tn32 99 (by decide), tnj 99 (by decide), tn32 3 (by decide), tnj 3 (by decide), tn32 1 (by decide), tnj 1 (by decide), tl32 0 (by decide), tl64 0 (by decide), tl32 1 (by decide), tl64 1 (by decide), tl32 2 (by decide), tl64 2 (by decide), tl32 3 (by decide), tl64 3 (by decide), tl32 4 (by decide), tl64 4 (by decide), tl32 8 (by decide), tl64 8 (by decide), tl32 99 (by decide), tl64 99 (by decide), tl32 4096 (by decide), tl64 4096 (by decide)] at hc2); (try simp only [lg_cmp_lt, lg_cmp_le, lg_cmp_gt, lg_cmp_ge, lg_cmp_eq] at hc3); (try simp (disch := omega) only [ta_lt, ta_le, ta_eq, tb_lt, tb_le, tb_eq, tw, tnI, tsub1, tsv, tn32 99 (by decide), tnj 99 (by decide), tn32 3 (by decide), tnj 3 (by decide), tn32 1 (by decide), tnj 1 (by decide), tl32 0 (by decide), tl64 0 (by decide), tl32 1 (by decide), tl64 1 (by decide), tl32 2 (by decide), tl64 2 (by decide), tl32 3 (by decide), tl64 3 (by decide), tl32 4 (by decide), tl64 4 (by decide), tl32 8 (by decide), tl64 8 (by decide), tl32 99 (by decide), tl64 99 (by decide), tl32 4096 (by decide), tl64 4096 (by decide)] at hc3); (try simp only [lg_cmp_lt, lg_cmp_le, lg_cmp_gt, lg_cmp_ge, lg_cmp_eq] at hc4); (try simp (disch := omega) only [ta_lt, ta_le, ta_eq, tb_lt, tb_le, tb_eq, tw, tnI, tsub1, tsv, tn32 99 (by decide), tnj 99 (by decide), tn32 3 (by decide), tnj 3 (by decide), tn32 1 (by decide), tnj 1 (by decide), tl32 0 (by decide), tl64 0 (by decide), tl32 1 (by decide), tl64 1 (by decide), tl32 2 (by decide), tl64 2 (by decide), tl32 3 (by decide), tl64 3 (by decide), tl32 4 (by decide), tl64 4 (by decide), tl32 8 (by decide), tl64 8 (by decide), tl32 99 (by decide), tl64 99 (by decide), tl32 4096 (by decide), tl64 4096 (by decide)] at hc4); (try simp only [lg_cmp_lt, lg_cmp_le, lg_cmp_gt, lg_cmp_ge, lg_cmp_eq] at c7); (try simp (disch := omega) only [ta_lt, ta_le, ta_eq, tb_lt, tb_le, tb_eq, tw, tnI, tsub1, tsv, tn32 99 (by decide), tnj 99 (by decide), tn32 3 (by decide), tnj 3 (by decide), tn32 1 (by decide), tnj 1 (by decide), tl32 0 (by decide), tl64 0 (by decide), tl32 1 (by decide), tl64 1 (by decide), tl32 2 (by decide), tl64 2 (by decide), tl32 3 (by decide), tl64 3 (by decide), tl32 4 (by decide), tl64 4 (by decide), tl32 8 (by decide), tl64 8 (by decide), tl32 99 (by decide), tl64 99 (by decide), tl32 4096 (by decide), tl64 4096 (by decide)] at c7); (try simp only [lg_cmp_lt, lg_cmp_le, lg_cmp_gt, lg_cmp_ge, lg_cmp_eq] at c13); (try simp (disch := omega) only [ta_lt, ta_le, ta_eq, tb_lt, tb_le, tb_eq, tw, tnI, tsub1, tsv, tn32 99 (by decide), tnj 99 (by decide), tn32 3 (by decide), tnj 3 (by decide), tn32 1 (by decide), tnj 1 (by decide), tl32 0 (by decide), tl64 0 (by decide), tl32 1 (by decide), tl64 1 (by decide), tl32 2 (by decide), tl64 2 (by decide), tl32 3 (by decide), tl64 3 (by decide), tl32 4 (by decide), tl64 4 (by decide), tl32 8 (by decide), tl64 8 (by decide), tl32 99 (by decide), tl64 99 (by decide), tl32 4096 (by decide), tl64 4096 (by decide)] at c13); (try simp only [lg_cmp_lt, lg_cmp_le, lg_cmp_gt, lg_cmp_ge, lg_cmp_eq] at c58); (try simp (disch := omega) only [ta_lt, ta_le, ta_eq, tb_lt, tb_le, tb_eq, tw, tnI, tsub1, tsv, tn32 99 (by decide), tnj 99 (by decide), tn32 3 (by decide), tnj 3 (by decide), tn32 1 (by decide), tnj 1 (by decide), tl32 0 (by decide), tl64 0 (by decide), tl32 1 (by decide), tl64 1 (by decide), tl32 2 (by decide), tl64 2 (by decide), tl32 3 (by decide), tl64 3 (by decide), tl32 4 (by decide), tl64 4 (by decide), tl32 8 (by decide), tl64 8 (by decide), tl32 99 (by decide), tl64 99 (by decide), tl32 4096 (by decide), tl64 4096 (by decide)] at c58); (try simp only [lg_cmp_lt, lg_cmp_le, lg_cmp_gt, lg_cmp_ge, lg_cmp_eq] at f59_0); (try simp (disch := omega) only [ta_lt, ta_le, ta_eq, tb_lt, tb_le, tb_eq, tw, tnI, tsub1, tsv, tn32 99 (by decide), tnj 99 (by decide), tn32 3 (by decide), tnj 3 (by decide), tn32 1 (by decide), tnj 1 (by decide), tl32 0 (by decide), tl64 0 (by decide), tl32 1 (by decide), tl64 1 (by decide), tl32 2 (by decide), tl64 2 (by decide), tl32 3 (by decide), tl64 3 (by decide), tl32 4 (by decide), tl64 4 (by decide), tl32 8 (by decide), tl64 8 (by decide), tl32 99 (by decide), tl64 99 (by decide), tl32 4096 (by decide), tl64 4096 (by decide)] at f59_0); (try simp only [lg_cmp_lt, lg_cmp_le, lg_cmp_gt, lg_cmp_ge, lg_cmp_eq] at c60); (try simp (disch := omega) only [ta_lt, ta_le, ta_eq, tb_lt, tb_le, tb_eq, tw, tnI, tsub1, tsv, tn32 99 (by decide), tnj 99 (by decide), tn32 3 (by decide), tnj 3 (by decide), tn32 1 (by decide), tnj 1 (by decide), tl32 0 (by decide), tl64 0 (by decide), tl32 1 (by decide), tl64 1 (by decide), tl32 2 (by decide), tl64 2 (by decide), tl32 3 (by decide), tl64 3 (by decide), tl32 4 (by decide), tl64 4 (by decide), tl32 8 (by decide), tl64 8 (by decide), tl32 99 (by decide), tl64 99 (by decide), tl32 4096 (by decide), tl64 4096 (by decide)] at c60); (try simp (disch := omega) only [ta_lt, ta_le, ta_eq, tb_lt, tb_le, tb_eq, tw, tnI, tsub1, tsv, tn32 99 (by decide), tnj 99 (by decide), tn32 3 (by decide), tnj 3 (by decide), tn32 1 (by decide), tnj 1 (by decide), tl32 0 (by decide), tl64 0 (by decide), tl32 1 (by decide), tl64 1 (by decide), tl32 2 (by decide), tl64 2 (by decide), tl32 3 (by decide), tl64 3 (by decide), tl32 4 (by decide), tl64 4 (by decide), tl32 8 (by decide), tl64 8 (by decide), tl32 99 (by decide), tl64 99 (by decide), tl32 4096 (by decide), tl64 4096 (by decide)]); omega) (by (try simp only [lg_cmp_lt, lg_cmp_le, lg_cmp_gt, lg_cmp_ge, lg_cmp_eq] at hc1); (try simp (disch := omega) only [ta_lt, ta_le, ta_eq, tb_lt, tb_le, tb_eq, tw, tnI, tsub1, tsv, tn32 99 (by decide), tnj 99 (by decide), tn32 3 (by decide), tnj 3 (by decide), tn32 1 (by decide), tnj 1 (by decide), tl32 0 (by decide), tl64 0 (by decide), tl32 1 (by decide), tl64 1 (by decide), tl32 2 (by decide), tl64 2 (by decide), tl32 3 (by decide), tl64 3 (by decide), tl32 4 (by decide), tl64 4 (by decide), tl32 8 (by decide), tl64 8 (by decide), tl32 99 (by decide), tl64 99 (by decide), tl32 4096 (by decide), tl64 4096 (by decide)] at hc1); (try simp only [lg_cmp_lt, lg_cmp_le, lg_cmp_gt, lg_cmp_ge, lg_cmp_eq] at hc2); (try simp (disch := omega) only [ta_lt, ta_le, ta_eq, tb_lt, tb_le, tb_eq, tw, tnI, tsub1, tsv, tn32 99 (by decide), tnj 99 (by decide), tn32 3 (by decide), tnj 3 (by decide), tn32 1 (by decide), tnj 1 (by decide), tl32 0 (by decide), tl64 0 (by decide), tl32 1 (by decide), tl64 1 (by decide), tl32 2 (by decide), tl64 2 (by decide), tl32 3 (by decide), tl64 3 (by decide), tl32 4 (by decide), tl64 4 (by decide), tl32 8 (by decide), tl64 8 (by decide), tl32 99 (by decide), tl64 99 (by decide), tl32 4096 (by decide), tl64 4096 (by decide)] at hc2); (try simp only [lg_cmp_lt, lg_cmp_le, lg_cmp_gt, lg_cmp_ge, lg_cmp_eq] at hc3); (try simp (disch := omega) only [ta_lt, ta_le, ta_eq, tb_lt, tb_le, tb_eq, tw, tnI, tsub1, tsv, tn32 99 (by decide), tnj 99 (by decide), tn32 3 (by decide), tnj 3 (by decide), tn32 1 (by decide), tnj 1 (by decide), tl32 0 (by decide), tl64 0 (by decide), tl32 1 (by decide), tl64 1 (by decide), tl32 2 (by decide), tl64 2 (by decide), tl32 3 (by decide), tl64 3 (by decide), tl32 4 (by decide), tl64 4 (by decide), tl32 8 (by decide), tl64 8 (by decide), tl32 99 (by decide), tl64 99 (by decide), tl32 4096 (by decide), tl64 4096 (by decide)] at hc3); (try simp only [lg_cmp_lt, lg_cmp_le, lg_cmp_gt, lg_cmp_ge, lg_cmp_eq] at hc4); (try simp (disch := omega) only [ta_lt, ta_le, ta_eq, tb_lt, tb_le, tb_eq, tw, tnI, tsub1, tsv, tn32 99 (by decide), tnj 99 (by decide), tn32 3 (by decide), tnj 3 (by decide), tn32 1 (by decide), tnj 1 (by decide), tl32 0 (by decide), tl64 0 (by decide), tl32 1 (by decide), tl64 1 (by decide), tl32 2 (by decide), tl64 2 (by decide), tl32 3 (by decide), tl64 3 (by decide), tl32 4 (by decide), tl64 4 (by decide), tl32 8 (by decide), tl64 8 (by decide), tl32 99 (by decide), tl64 99 (by decide), tl32 4096 (by decide), tl64 4096 (by decide)] at hc4); (try simp only [lg_cmp_lt, lg_cmp_le, lg_cmp_gt, lg_cmp_ge, lg_cmp_eq] at c7); (try simp (disch := omega) only [ta_lt, ta_le, ta_eq, tb_lt, tb_le, tb_eq, tw, tnI, tsub1, tsv, tn32 99 (by decide), tnj 99 (by decide), tn32 3 (by decide), tnj 3 (by decide), tn32 1 (by decide), tnj 1 (by decide), tl32 0 (by decide), tl64 0 (by decide), tl32 1 (by decide), tl64 1 (by decide), tl32 2 (by decide), tl64 2 (by decide), tl32 3 (by decide), tl64 3 (by decide), tl32 4 (by decide), tl64 4 (by decide), tl32 8 (by decide), tl64 8 (by decide), tl32 99 (by decide), tl64 99 (by decide), tl32 4096 (by decide), tl64 4096 (by decide)] at c7); (try simp only [lg_cmp_lt, lg_cmp_le, lg_cmp_gt, lg_cmp_ge, lg_cmp_eq] at c13); (try simp (disch := omega) only [ta_lt, ta_le, ta_eq, tb_lt, tb_le, tb_eq, tw, tnI, tsub1, tsv, tn32 99 (by decide), tnj 99 (by decide), tn32 3 (by decide), tnj 3 (by decide), tn32 1 (by decide), tnj 1 (by decide), tl32 0 (by decide), tl64 0 (by decide), tl32 1 (by decide), tl64 1 (by decide), tl32 2 (by decide), tl64 2 (by decide), tl32 3 (by decide), tl64 3 (by decide), tl32 4 (by decide), tl64 4 (by decide), tl32 8 (by decide), tl64 8 (by decide), tl32 99 (by decide), tl64 99 (by decide), tl32 4096 (by decide), tl64 4096 (by decide)] at c13); (try simp only [lg_cmp_lt, lg_cmp_le, lg_cmp_gt, lg_cmp_ge, lg_cmp_eq] at c58); (try simp (disch := omega) only [ta_lt, ta_le, ta_eq, tb_lt, tb_le, tb_eq, tw, tnI, tsub1, tsv, tn32 99 (by decide), tnj 99 (by decide), tn32 3 (by decide), tnj 3 (by decide), tn32 1 (by decide), tnj 1 (by decide), tl32 0 (by decide), tl64 0 (by decide), tl32 1 (by decide), tl64 1 (by decide), tl32 2 (by decide), tl64 2 (by decide), tl32 3 (by decide), tl64 3 (by decide), tl32 4 (by decide), tl64 4 (by decide), tl32 8 (by decide), tl64 8 (by decide), tl32 99 (by decide), tl64 99 (by decide), tl32 4096 (by decide), tl64 4096 (by decide)] at c58); (try simp only [lg_cmp_lt, lg_cmp_le, lg_cmp_gt, lg_cmp_ge, lg_cmp_eq] at f59_0); (try simp (disch := omega) only [ta_lt, ta_le, ta_eq, tb_lt, tb_le, tb_eq, tw, tnI, tsub1, tsv, tn32 99 (by decide), tnj 99 (by decide), tn32 3 (by decide), tnj 3 (by decide), tn32 1 (by decide), tnj 1 (by decide), tl32 0 (by decide), tl64 0 (by decide), tl32 1 (by decide), tl64 1 (by decide), tl32 2 (by decide), tl64 2 (by decide), tl32 3 (by decide), tl64 3 (by decide), tl32 4 (by decide), tl64 4 (by decide), tl32 8 (by decide), tl64 8 (by decide), tl32 99 (by decide), tl64 99 (by decide), tl32 4096 (by decide), tl64 4096 (by decide)] at f59_0); (try simp only [lg_cmp_lt, lg_cmp_le, lg_cmp_gt, lg_cmp_ge, lg_cmp_eq] at c60); (try simp (disch := omega) only [ta_lt, ta_le, ta_eq, tb_lt, tb_le, tb_eq, tw, tnI, tsub1, tsv, tn32 99 (by decide), tnj 99 (by decide), tn32 3 (by decide), tnj 3 (by decide), tn32 1 (by decide), tnj 1 (by decide), tl32 0 (by decide), tl64 0 (by decide), tl32 1 (by decide), tl64 1 (by decide), tl32 2 (by decide), tl64 2 (by decide), tl32 3 (by decide), tl64 3 (by decide), tl32 4 (by decide), tl64 4 (by decide), tl32 8 (by decide), tl64 8 (by decide), tl32 99 (by decide), tl64 99 (by decide), tl32 4096 (by decide), tl64 4096 (by decide)] at c60); (try simp (disch := omega) only [ta_lt, ta_le, ta_eq, tb_lt, tb_le, tb_eq, tw, tnI, tsub1, tsv, tn32 99 (by decide), tnj 99 (by decide), tn32 3 (by decide), tnj 3 (by decide), tn32 1 (by decide), tnj 1 (by decide), tl32 0 (by decide), tl64 0 (by decide), tl32 1 (by decide), tl64 1 (by decide), tl32 2 (by decide), tl64 2 (by decide), tl32 3 (by decide), tl64 3 (by decide), tl32 4 (by decide), tl64 4 (by decide), tl32 8 (by decide), tl64 8 (by decide), tl32 99 (by decide), tl64 99 (by decide), tl32 4096 (by decide), tl64 4096 (by decide)]); omega) hw (lv_sub hl [0, 1, 2, 3, 4, 5, 6, 7, 8] rfl)
            exact lp12 _ 0 v11 0 _ _ _ (Nat.lt_succ_self _) (by (try simp only [lg_cmp_lt, lg_cmp_le, lg_cmp_gt, lg_cmp_ge, lg_cmp_eq] at hc1); (try simp (disch := omega) only [ta_lt, ta_le, ta_eq, tb_lt, tb_le, tb_eq, tw, tnI, tsub1, tsv, tn32 99 (by decide), tnj 99 (by decide), tn32 3 (by decide), tnj 3 (by decide), tn32 1 (by decide), tnj 1 (by decide), tl32 0 (by decide), tl64 0 (by decide), tl32 1 (by decide), tl64 1 (by decide), tl32 2 (by decide), tl64 2 (by decide), tl32 3 (by decide), tl64 3 (by decide), tl32 4 (by decide), tl64 4 (by decide), tl32 8 (by decide), tl64 8 (by decide), tl32 99 (by decide), tl64 99 (by decide), tl32 4096 (by decide), tl64 4096 (by decide)] at hc1); (try simp only [lg_cmp_lt, lg_cmp_le, lg_cmp_gt, lg_cmp_ge, lg_cmp_eq] at hc2); (try simp (disch := omega) only [ta_lt, ta_le, ta_eq, tb_lt, tb_le, tb_eq, tw, tnI, tsub1, tsv, tn32 99 (by decide), tnj 99 (by decide), tn32 3 (by decide), tnj 3 (by decide), tn32 1 (by decide), tnj 1 (by decide), tl32 0 (by decide), tl64 0 (by decide), tl32 1 (by decide), tl64 1 (by decide), tl32 2 (by decide), tl64 2 (by decide), tl32 3 (by decide), tl64 3 (by decide), tl32 4 (by decide), tl64 4 (by decide), tl32 8 (by decide), tl64 8 (by decide), tl32 99 (by decide), tl64 99 (by decide), tl32 4096 (by decide), tl64 4096 (by decide)] at hc2); (try simp only [lg_cmp_lt, lg_cmp_le, lg_cmp_gt, lg_cmp_ge, lg_cmp_eq] at hc3); (try simp (disch := omega) only [ta_lt, ta_le, ta_eq, tb_lt, tb_le, tb_eq, tw, tnI, tsub1, tsv, tn32 99 (by decide), tnj 99 (by decide), tn32 3 (by decide), tnj 3 (by decide), tn32 1 (by decide), tnj 1 (by decide), tl32 0 (by decide), tl64 0 (by decide), tl32 1 (by decide), tl64 1 (by decide), tl32 2 (by decide), tl64 2 (by decide), tl32 3 (by decide), tl64 3 (by decide), tl32 4 (by decide), tl64 4 (by decide), tl32 8 (by decide), tl64 8 (by decide), tl32 99 (by decide), tl64 99 (by decide), tl32 4096 (by decide), tl64 4096 (by decide)] at hc3); (try simp only [lg_cmp_lt, lg_cmp_le, lg_cmp_gt, lg_cmp_ge, lg_cmp_eq] at hc4); (try simp (disch := omega) only [ta_lt, ta_le, ta_eq, tb_lt, tb_le, tb_eq, tw, tnI, tsub1, tsv, tn32 99 (by decide), tnj 99 (by decide), tn32 3 (by decide), tnj 3 (by decide), tn32 1 (by decide), tnj 1 (by decide), tl32 0 (by decide), tl64 0 (by decide), tl32 1 (by decide), tl64 1 (by decide), tl32 2 (by decide), tl64 2 (by decide), tl32 3 (by decide), tl64 3 (by decide), tl32 4 (by decide), tl64 4 (by decide), tl32 8 (by decide), tl64 8 (by decide), tl32 99 (by decide), tl64 99 (by decide), tl32 4096 (by decide), tl64 4096 (by decide)] at hc4); (try simp only [lg_cmp_lt, lg_cmp_le, lg_cmp_gt, lg_cmp_ge, lg_cmp_eq] at c7); (try simp (disch := omega) only [ta_lt, ta_le, ta_eq, tb_lt, tb_le, tb_eq, tw, tnI, tsub1, tsv, tn32 99 (by decide), tnj 99 (by decide), tn32 3 (by decide), tnj 3 (by decide), tn32 1 (by decide), tnj 1 (by decide), tl32 0 (by decide), tl64 0 (by decide), tl32 1 (by decide), tl64 1 (by decide), tl32 2 (by decide), tl64 2 (by decide), tl32 3 (by decide), tl64 3 (by decide), tl32 4 (by decide), tl64 4 (by decide), tl32 8 (by decide), tl64 8 (by decide), tl32 99 (by decide), tl64 99 (by decide), tl32 4096 (by decide), tl64 4096 (by decide)] at c7); (try simp (disch := omega) only [ta_lt, ta_le, ta_eq, tb_lt, tb_le, tb_eq, tw, tnI, tsub1, tsv, tn32 99 (by decide), tnj 99 (by decide), tn32 3 (by decide), tnj 3 (by decide), tn32 1 (by decide), tnj 1 (by decide), tl32 0 (by decide), tl64 0 (by decide), tl32 1 (by decide), tl64 1 (by decide), tl32 2 (by decide), tl64 2 (by decide), tl32 3 (by decide), tl64 3 (by decide), tl32 4 (by decide), tl64 4 (by decide), tl32 8 (by decide), tl64 8 (by decide), tl32 99 (by decide), tl64 99 (by decide), tl32 4096 (by decide), tl64 4096 (by decide)]); omega) (by (try simp only [lg_cmp_lt, lg_cmp_le, lg_cmp_gt, lg_cmp_ge, lg_cmp_eq] at hc1); (try simp (disch := omega) only [ta_lt, ta_le, ta_eq, tb_lt, tb_le, tb_eq, tw, tnI, tsub1, tsv, tn32 99 (by decide), tnj 99 (by decide), tn32 3 (by decide), tnj 3 (by decide), tn32 1 (by decide), tnj 1 (by decide), tl32 0 (by decide), tl64 0 (by decide), tl32 1 (by decide), tl64 1 (by decide), tl32 2 (by decide), tl64 2 (by decide), tl32 3 (by decide), tl64 3 (by decide), tl32 4 (by decide), tl64 4 (by decide), tl32 8 (by decide), tl64 8 (by decide), tl32 99 (by decide), tl64 99 (by decide), tl32 4096 (by decide), tl64 4096 (by decide)] at hc1); (try simp only [lg_cmp_lt, lg_cmp_le, lg_cmp_gt, lg_cmp_ge, lg_cmp_eq] at hc2); (try simp (disch := omega) only [ta_lt, ta_le, ta_eq, tb_lt, tb_le, tb_eq, tw, tnI, tsub1, tsv, tn32 99 (by decide), tnj 99 (by decide), tn32 3 (by decide), tnj 3 (by decide), tn32 1 (by decide), tnj 1 (by decide), tl32 0 (by decide), tl64 0 (by decide), tl32 1 (by decide), tl64 1 (by decide), tl32 2 (by decide), tl64 2 (by decide), tl32 3 (by decide), tl64 3 (by decide), tl32 4 (by decide), tl64 4 (by decide), tl32 8 (by decide), tl64 8 (by decide), tl32 99 (by decide), tl64 99 (by decide), tl32 4096 (by decide), tl64 4096 (by decide)] at hc2); (try simp only [lg_cmp_lt, lg_cmp_le, lg_cmp_gt, lg_cmp_ge, lg_cmp_eq] at hc3); (try simp (disch := omega) only [ta_lt, ta_le, ta_eq, tb_lt, tb_le, tb_eq, tw, tnI, tsub1, tsv, tn32 99 (by decide), tnj 99 (by decide), tn32 3 (by decide), tnj 3 (by decide), tn32 1 (by decide), tnj 1 (by decide), tl32 0 (by decide), tl64 0 (by decide), tl32 1 (by decide), tl64 1 (by decide), tl32 2 (by decide), tl64 2 (by decide), tl32 3 (by decide), tl64 3 (by decide), tl32 4 (by decide), tl64 4 (by decide), tl32 8 (by decide), tl64 8 (by decide), tl32 99 (by decide), tl64 99 (by decide), tl32 4096 (by decide), tl64 4096 (by decide)] at hc3); (try simp only [lg_cmp_lt, lg_cmp_le, lg_cmp_gt, lg_cmp_ge, lg_cmp_eq] at hc4); (try simp (disch := omega) only [ta_lt, ta_le, ta_eq, tb_lt, tb_le, tb_eq, tw, tnI, tsub1, tsv, tn32 99 (by decide), tnj 99 (by decide), tn32 3 (by decide), tnj 3 (by decide), tn32 1 (by decide), tnj 1 (by decide), tl32 0 (by decide), tl64 0 (by decide), tl32 1 (by decide), tl64 1 (by decide), tl32 2 (by decide), tl64 2 (by decide), tl32 3 (by decide), tl64 3 (by decide), tl32 4 (by decide), tl64 4 (by decide), tl32 8 (by decide), tl64 8 (by decide), tl32 99 (by decide), tl64 99 (by decide), tl32 4096 (by decide), tl64 4096 (by decide)] at hc4); (try simp only [lg_cmp_lt, lg_cmp_le, lg_cmp_gt, lg_cmp_ge, lg_cmp_eq] at c7); (try simp (disch := omega) only [ta_lt, ta_le, ta_eq, tb_lt, tb_le, tb_eq, tw, tnI, tsub1, tsv, tn32 99 (by decide), tnj 99 (by decide), tn32 3 (by decide), tnj 3 (by decide), tn32 1 (by decide), tnj 1 (by decide), tl32 0 (by decide), tl64 0 (by decide), tl32 1 (by decide), tl64 1 (by decide), tl32 2 (by decide), tl64 2 (by decide), tl32 3 (by decide), tl64 3 (by decide), tl32 4 (by decide), tl64 4 (by decide), tl32 8 (by decide), tl64 8 (by decide), tl32 99 (by decide), tl64 99 (by decide), tl32 4096 (by decide), tl64 4096 (by decide)] at c7); (try simp (disch := omega) only [ta_lt, ta_le, ta_eq, tb_lt, tb_le, tb_eq, tw, tnI, tsub1, tsv, tn32 99 (by decide), tnj 99 (by decide), tn32 3 (by decide), tnj 3 (by decide), tn32 1 (by decide), tnj 1 (by decide), tl32 0 (by decide), tl64 0 (by decide), tl32 1 (by decide), tl64 1 (by decide), tl32 2 (by decide), tl64 2 (by decide), tl32 3 (by decide), tl64 3 (by decide), tl32 4 (by decide), tl64 4 (by decide), tl32 8 (by decide), tl64 8 (by decide), tl32 99 (by decide), tl64 99 (by decide), tl32 4096 (by decide), tl64 4096 (by decide)]); omega) hw (lv_sub hl [0, 1, 2, 3, 4, 5, 6, 7, 8] rfl)
          · (try simp (disch := omega) only [ta_lt, ta_le, ta_eq, tnI, tl32 1 (by decide)] at c7)
            refine lv_bipush (v := (-2)) hx hb (dks dF_16 DX12_span (i := 23) rfl rfl rfl) (by decide) ?_
            exact z_iret C0 hr hlk hw (⟨hT, fr.refl⟩) (dkP dF_172 DX12_span (i := 24) rfl rfl)
        · skip
          (try simp (disch := omega) only [ta_lt, ta_le, ta_eq, tb_lt, tb_le, tb_eq, tw, tnI, tn32 99 (by decide), tnj 99 (by decide), tn32 3 (by decide), tnj 3 (by decide), tn32 2 (by decide), tnj 2 (by decide), tn32 1 (by decide), tnj 1 (by decide), tl32 0 (by decide), tl64 0 (by decide), tl32 1 (by decide), tl64 1 (by decide), tl32 2 (by decide), tl64 2 (by decide), tl32 3 (by decide), tl64 3 (by decide), tl32 4 (by decide), tl64 4 (by decide), tl32 8 (by decide), tl64 8 (by decide), tl32 99 (by decide), tl64 99 (by decide), tl32 4096 (by decide), tl64 4096 (by decide)] at hc4)
          refine lv_if_eq (tgt := 52) hx hb (dkS dF_153 DX12_span (i := 17) rfl rfl rfl) (by decide) (fun _ => ?_) (fun h => absurd h (by decide))
          refine lv_bipush (v := (-2)) hx hb (dks dF_16 DX12_span (i := 23) rfl rfl rfl) (by decide) ?_
          exact z_iret C0 hr hlk hw (⟨hT, fr.refl⟩) (dkP dF_172 DX12_span (i := 24) rfl rfl)
      · skip
        (try simp (disch := omega) only [ta_lt, ta_le, ta_eq, tb_lt, tb_le, tb_eq, tw, tnI, tn32 99 (by decide), tnj 99 (by decide), tn32 3 (by decide), tnj 3 (by decide), tn32 2 (by decide), tnj 2 (by decide), tn32 1 (by decide), tnj 1 (by decide), tl32 0 (by decide), tl64 0 (by decide), tl32 1 (by decide), tl64 1 (by decide), tl32 2 (by decide), tl64 2 (by decide), tl32 3 (by decide), tl64 3 (by decide), tl32 4 (by decide), tl64 4 (by decide), tl32 8 (by decide), tl64 8 (by decide), tl32 99 (by decide), tl64 99 (by decide), tl32 4096 (by decide), tl64 4096 (by decide)] at hc3)
        refine lv_if_eq (tgt := 52) hx hb (dkS dF_153 DX12_span (i := 11) rfl rfl rfl) (by decide) (fun _ => ?_) (fun h => absurd h (by decide))
        refine lv_bipush (v := (-2)) hx hb (dks dF_16 DX12_span (i := 23) rfl rfl rfl) (by decide) ?_
        exact z_iret C0 hr hlk hw (⟨hT, fr.refl⟩) (dkP dF_172 DX12_span (i := 24) rfl rfl)
    · skip
      (try simp (disch := omega) only [ta_lt, ta_le, ta_eq, tb_lt, tb_le, tb_eq, tw, tnI, tn32 99 (by decide), tnj 99 (by decide), tn32 3 (by decide), tnj 3 (by decide), tn32 2 (by decide), tnj 2 (by decide), tn32 1 (by decide), tnj 1 (by decide), tl32 0 (by decide), tl64 0 (by decide), tl32 1 (by decide), tl64 1 (by decide), tl32 2 (by decide), tl64 2 (by decide), tl32 3 (by decide), tl64 3 (by decide), tl32 4 (by decide), tl64 4 (by decide), tl32 8 (by decide), tl64 8 (by decide), tl32 99 (by decide), tl64 99 (by decide), tl32 4096 (by decide), tl64 4096 (by decide)] at hc2)
      refine lv_if_eq (tgt := 52) hx hb (dkS dF_153 DX12_span (i := 5) rfl rfl rfl) (by decide) (fun _ => ?_) (fun h => absurd h (by decide))
      refine lv_bipush (v := (-2)) hx hb (dks dF_16 DX12_span (i := 23) rfl rfl rfl) (by decide) ?_
      exact z_iret C0 hr hlk hw (⟨hT, fr.refl⟩) (dkP dF_172 DX12_span (i := 24) rfl rfl)
  · skip
    (try simp (disch := omega) only [ta_lt, ta_le, ta_eq, tb_lt, tb_le, tb_eq, tw, tnI, tn32 99 (by decide), tnj 99 (by decide), tn32 3 (by decide), tnj 3 (by decide), tn32 2 (by decide), tnj 2 (by decide), tn32 1 (by decide), tnj 1 (by decide), tl32 0 (by decide), tl64 0 (by decide), tl32 1 (by decide), tl64 1 (by decide), tl32 2 (by decide), tl64 2 (by decide), tl32 3 (by decide), tl64 3 (by decide), tl32 4 (by decide), tl64 4 (by decide), tl32 8 (by decide), tl64 8 (by decide), tl32 99 (by decide), tl64 99 (by decide), tl32 4096 (by decide), tl64 4096 (by decide)] at hc1)
    refine lv_if_eq (tgt := 52) hx hb (dkS dF_153 DX12_span (i := 2) rfl rfl rfl) (by decide) (fun _ => ?_) (fun h => absurd h (by decide))
    refine lv_bipush (v := (-2)) hx hb (dks dF_16 DX12_span (i := 23) rfl rfl rfl) (by decide) ?_
    exact z_iret C0 hr hlk hw (⟨hT, fr.refl⟩) (dkP dF_172 DX12_span (i := 24) rfl rfl)
