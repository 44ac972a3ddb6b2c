theorem nI01 {n : Nat} (h : n ≤ 1) : nI n = 0 ∨ nI n = 1 := by
  rcases (by omega : n = 0 ∨ n = 1) with rfl | rfl
  · exact Or.inl rfl
  · exact Or.inr rfl
theorem nI01b {n : Nat} (h : n ≤ 1) : (nI n = 1 ∧ True) ∨ (nI n = 0 ∧ True) := by
  rcases nI01 h with e | e
  · exact Or.inr ⟨e, trivial⟩
  · exact Or.inl ⟨e, trivial⟩
theorem ty_pw0 {p c j : Nat} {x : Int} (hp : p < 8) (hc : c < 40) (hj : j < 8) (h : 0 ≤ x ∧ x ≤ 7) : tyM 1 (387880 + 10 * (8 * (40 * p + c) + j)) x := by
  show wTy _ x
  unfold wTy
  rw [if_neg (by omega), if_neg (by omega), if_neg (by omega), if_neg (by omega), if_neg (by omega), if_pos (by omega), if_pos (by omega)]
  exact h
theorem ty_pw1 {p c j i : Nat} {x : Int} (hp : p < 8) (hc : c < 40) (hj : j < 8) (hi : i < 9) : tyM 1 (387880 + 10 * (8 * (40 * p + c) + j) + 1 + i) x := by
  show wTy _ x
  unfold wTy
  rw [if_neg (by omega), if_neg (by omega), if_neg (by omega), if_neg (by omega), if_neg (by omega), if_pos (by omega), if_neg (by omega)]
  trivial
theorem ty_pw9 {p c j : Nat} {x : Int} (hp : p < 8) (hc : c < 40) (hj : j < 8) : tyM 1 (387880 + 10 * (8 * (40 * p + c) + j) + 9) x := by
  show wTy _ x
  unfold wTy
  rw [if_neg (by omega), if_neg (by omega), if_neg (by omega), if_neg (by omega), if_neg (by omega), if_pos (by omega), if_neg (by omega)]
  trivial
theorem ty_ct {p c : Nat} {x : Int} (hp : p < 8) (hc : c < 40) (h : 0 ≤ x ∧ x ≤ 100) : tyM 1 (3240 + 2 * (40 * p + c)) x := by
  show wTy _ x
  unfold wTy
  rw [if_neg (by omega), if_neg (by omega), if_neg (by omega), if_neg (by omega), if_pos (by omega), if_pos (by omega)]
  exact h
theorem ty_cp {p c : Nat} {x : Int} (hp : p < 8) (hc : c < 40) (h : 0 ≤ x ∧ x ≤ 8) : tyM 1 (3240 + 2 * (40 * p + c) + 1) x := by
  show wTy _ x
  unfold wTy
  rw [if_neg (by omega), if_neg (by omega), if_neg (by omega), if_neg (by omega), if_pos (by omega), if_neg (by omega)]
  exact h
theorem ty_w0 {p : Nat} {x : Int} (hp : p < 8) : tyM 1 (8 + 20 * p) x := by
  show wTy _ x
  unfold wTy
  rw [if_neg (by omega), if_neg (by omega), if_pos (by omega), if_neg (by omega), if_neg (by omega)]
  trivial
theorem ty_w3 {p : Nat} {x : Int} (hp : p < 8) : tyM 1 (8 + 20 * p + 3) x := by
  show wTy _ x
  unfold wTy
  rw [if_neg (by omega), if_neg (by omega), if_pos (by omega), if_neg (by omega), if_neg (by omega)]
  trivial
theorem ty_hi {j : Nat} {x : Int} (h : 413544 ≤ j) : tyM 1 j x := by
  show wTy _ x
  unfold wTy
  rw [if_neg (by omega), if_neg (by omega), if_neg (by omega), if_neg (by omega), if_neg (by omega), if_neg (by omega), if_neg (by omega)]
  trivial
theorem ty_ck {k : Nat} {x : Int} (h1 : 413480 ≤ k) (h2 : k < 413544) (h : -1 ≤ x ∧ x ≤ 999) : tyM 1 k x := by
  show wTy _ x
  unfold wTy
  rw [if_neg (by omega), if_neg (by omega), if_neg (by omega), if_neg (by omega), if_neg (by omega), if_neg (by omega), if_pos (by omega)]
  exact h
theorem ty_k {j : Nat} {x : Int} (h : j = 0 ∨ j = 1 ∨ j = 4) : tyM 1 j x := by
  rcases h with rfl | rfl | rfl <;> exact trivial
def cz (f : Nat → Int32) : Nat → Nat
  | 0 => 0
  | k + 1 => if f k = 0 then cz f k + 1 else cz f k
theorem cz_1 {f : Nat → Int32} {k : Nat} (h : f k = 0) : cz f (k + 1) = cz f k + 1 := by simp [cz, h]
theorem cz_0 {f : Nat → Int32} {k : Nat} (h : ¬ f k = 0) : cz f (k + 1) = cz f k := by simp [cz, h]
theorem cz_le {f : Nat → Int32} {a b : Nat} (h : a ≤ b) : cz f a ≤ cz f b := by
  induction b with
  | zero => rw [Nat.le_zero.mp h]; exact Nat.le_refl _
  | succ b ih =>
    by_cases e : a = b + 1
    · rw [e]; exact Nat.le_refl _
    · have h1 := ih (by omega)
      by_cases z : f b = 0
      · rw [cz_1 z]; omega
      · rw [cz_0 z]; exact h1

set_option maxRecDepth 100000 in
set_option maxHeartbeats 8000000 in
theorem c_X12_way (l : Launch) (G : va_G) (kc : KC) (ad : Nat → Nat) (σ : Sg) (wy : Int32) (what : Int32) (ix : Int32) (hT : TM σ) : MI l G kc yX12_way cX12_way 4 (some .int) 1 25 [.ref (ad 0), .int wy, .int what, .int ix] shM ad σ (fun r σ1 => σ1 = σ) := by
  intro sz
  refine z_body (y := yX12_way) (n := 4) (av := [.ref (ad 0), .int wy, .int what, .int ix]) (Qc := fun A => va_Qi (fun r σ1 => σ1 = σ) (PoC G kc shM ad A) A) (plainFor_of_name (by decide)) (Nat.le_of_ble_eq_true rfl) (fun pr e s m below meth c A C0 hr hlk hnm hw hRo ls hl => ?_) sz
  have hx := C0.1
  have hb := C0.2.1
  have hown := C0.2.2.2.1
  have hts := C0.2.2.2.2.1
  have hl : lv_has ls 4 [(0, .ref (ad 0)), (1, .int wy), (2, .int what), (3, .int ix)] := hl
  refine lv_iload_n hx hb (dkP dF_27 DX12_way (i := 0) rfl rfl) rfl (lv_at hl 1 rfl) ?_
  refine lv_i2l hx hb (dkP dF_133 DX12_way (i := 1) rfl rfl) rfl ?_
  refine lv_lconst (v := 0) hx hb (dkP dF_9 DX12_way (i := 2) rfl rfl) (by decide) ?_
  refine lv_aload_n hx hb (dkP dF_42 DX12_way (i := 3) rfl rfl) rfl (lv_at hl 0 rfl) ?_
  refine z_gi C0 hw 0 41 rfl fl_X12_399 (dk2 dF_180 DX12_way (i := 4) rfl rfl rfl) ?_
  obtain ⟨n1, hn1, en1⟩ := rngN (x := σ.1 0 41) (h := 200) (show 0 ≤ _ ∧ _ ≤ 200 from hT 0 41)
  refine z_top (y := nI n1) en1 ?_
  refine lv_iconst (v := 1) hx hb (dkP dF_4 DX12_way (i := 5) rfl rfl) (by decide) ?_
  refine lv_isub hx hb (dkP dF_100 DX12_way (i := 6) rfl rfl) ?_
  refine lv_i2l hx hb (dkP dF_133 DX12_way (i := 7) rfl rfl) rfl ?_
  refine zn_I hw (zr_S (As := [.long wy.toInt64, .long 0, .long (((nI n1) - 1).toInt64)]) (rest := []) C0 (c_X12_in l G kc wy.toInt64 0 (((nI n1) - 1).toInt64)  _) cs_X12_in lk_X12_9 (zp_P C0 hRo hw a00 s00) rfl hl.1 rfl ⟨by decide, by decide⟩ (Nat.le_of_ble_eq_true rfl) (dk2 dF_184 DX12_way (i := 8) rfl rfl rfl) ⟨Nat.le_refl _, Nat.le_refl _⟩) (fun r2 s2 H locs hp hw => ?_)
  rcases hp with ⟨rfl, hc2⟩ | ⟨rfl, hc2⟩
  · skip
    (try simp (disch := omega) only [ta_lt, ta_le, ta_eq, tb_lt, tb_le, tb_eq, tw, tnI, tn32 1 (by decide), tnj 1 (by decide), tl32 0 (by decide), tl64 0 (by decide), tl32 1 (by decide), tl64 1 (by decide)] at hc2)
    refine lv_if_ne (tgt := 18) hx hb (dkS dF_154 DX12_way (i := 9) rfl rfl rfl) (by decide) (fun _ => ?_) (fun h => absurd h (by decide))
    obtain ⟨wn, hwn, rfl⟩ := to_nat (x := wy) (n := 200) (by (try simp only [lg_cmp_lt, lg_cmp_le, lg_cmp_gt, lg_cmp_ge, lg_cmp_eq] at hc2); (try simp (disch := omega) only [ta_lt, ta_le, ta_eq, tb_lt, tb_le, tb_eq, tw, tnI, tsub1, tsv, tn32 1 (by decide), tnj 1 (by decide), tl32 0 (by decide), tl64 0 (by decide), tl32 1 (by decide), tl64 1 (by decide)] at hc2); (try simp (disch := omega) only [ta_lt, ta_le, ta_eq, tb_lt, tb_le, tb_eq, tw, tnI, tsub1, tsv, tn32 1 (by decide), tnj 1 (by decide), tl32 0 (by decide), tl64 0 (by decide), tl32 1 (by decide), tl64 1 (by decide)]); omega)
    refine lv_iload_n hx hb (dkP dF_28 DX12_way (i := 12) rfl rfl) rfl (lv_at hl 2 rfl) ?_
    by_cases hsw3 : 0 ≤ what.toInt ∧ what.toInt ≤ 4
    · obtain ⟨j3, hj3, rfl⟩ := to_nat (x := what) (n := 5) (by omega)
      match j3, hj3 with
      | 0, _ =>
        refine lv_tableIn (x := nI 0) (off := 33) (tgt := 52) hx hb (dX12_way_19) (by decide) (by decide) rfl (by decide) ?_
        refine lv_aload_n hx hb (dkP dF_42 DX12_way (i := 14) rfl rfl) rfl (lv_at hl 0 rfl) ?_
        refine z_gr C0 hw 0 37 24 rfl fl_X12_99 (dk2 dF_180 DX12_way (i := 15) rfl rfl rfl) ?_
        refine lv_iload_n hx hb (dkP dF_27 DX12_way (i := 16) rfl rfl) rfl (lv_at hl 1 rfl) ?_
        refine z_ialdN (n := 200) C0 hw 24 wn rfl (by omega) (by decide) (dkP dF_46 DX12_way (i := 17) rfl rfl) ?_
        obtain ⟨v4, ev4⟩ : ∃ y : Int32, σ.1 24 wn = y := ⟨_, rfl⟩
        refine z_top (y := v4) ev4 ?_
        exact z_iret C0 hr hlk hw (⟨rfl⟩) (dkP dF_172 DX12_way (i := 18) rfl rfl)
      | 1, _ =>
        refine lv_tableIn (x := nI 1) (off := 40) (tgt := 59) hx hb (dX12_way_19) (by decide) (by decide) rfl (by decide) ?_
        refine lv_aload_n hx hb (dkP dF_42 DX12_way (i := 19) rfl rfl) rfl (lv_at hl 0 rfl) ?_
        refine z_gr C0 hw 0 38 25 rfl fl_X12_102 (dk2 dF_180 DX12_way (i := 20) rfl rfl rfl) ?_
        refine lv_iload_n hx hb (dkP dF_27 DX12_way (i := 21) rfl rfl) rfl (lv_at hl 1 rfl) ?_
        refine z_ialdN (n := 200) C0 hw 25 wn rfl (by omega) (by decide) (dkP dF_46 DX12_way (i := 22) rfl rfl) ?_
        obtain ⟨v5, ev5⟩ : ∃ y : Int32, σ.1 25 wn = y := ⟨_, rfl⟩
        refine z_top (y := v5) ev5 ?_
        exact z_iret C0 hr hlk hw (⟨rfl⟩) (dkP dF_172 DX12_way (i := 23) rfl rfl)
      | 2, _ =>
        refine lv_tableIn (x := nI 2) (off := 47) (tgt := 66) hx hb (dX12_way_19) (by decide) (by decide) rfl (by decide) ?_
        refine lv_aload_n hx hb (dkP dF_42 DX12_way (i := 24) rfl rfl) rfl (lv_at hl 0 rfl) ?_
        refine z_gr C0 hw 0 34 21 rfl fl_X12_90 (dk2 dF_180 DX12_way (i := 25) rfl rfl rfl) ?_
        refine lv_iload_n hx hb (dkP dF_27 DX12_way (i := 26) rfl rfl) rfl (lv_at hl 1 rfl) ?_
        refine z_ialdN (n := 200) C0 hw 21 wn rfl (by omega) (by decide) (dkP dF_46 DX12_way (i := 27) rfl rfl) ?_
        obtain ⟨v6, ev6⟩ : ∃ y : Int32, σ.1 21 wn = y := ⟨_, rfl⟩
        refine z_top (y := v6) ev6 ?_
        exact z_iret C0 hr hlk hw (⟨rfl⟩) (dkP dF_172 DX12_way (i := 28) rfl rfl)
      | 3, _ =>
        refine lv_tableIn (x := nI 3) (off := 54) (tgt := 73) hx hb (dX12_way_19) (by decide) (by decide) rfl (by decide) ?_
        refine lv_aload_n hx hb (dkP dF_42 DX12_way (i := 29) rfl rfl) rfl (lv_at hl 0 rfl) ?_
        refine z_gr C0 hw 0 35 22 rfl fl_X12_93 (dk2 dF_180 DX12_way (i := 30) rfl rfl rfl) ?_
        refine lv_iload_n hx hb (dkP dF_27 DX12_way (i := 31) rfl rfl) rfl (lv_at hl 1 rfl) ?_
        refine z_ialdN (n := 200) C0 hw 22 wn rfl (by omega) (by decide) (dkP dF_46 DX12_way (i := 32) rfl rfl) ?_
        obtain ⟨n7, hn7, en7⟩ := rngN (x := σ.1 22 wn) (h := 100) (show 0 ≤ _ ∧ _ ≤ 100 from hT 22 _)
        refine z_top (y := nI n7) en7 ?_
        exact z_iret C0 hr hlk hw (⟨rfl⟩) (dkP dF_172 DX12_way (i := 33) rfl rfl)
      | 4, _ =>
        refine lv_tableIn (x := nI 4) (off := 61) (tgt := 80) hx hb (dX12_way_19) (by decide) (by decide) rfl (by decide) ?_
        refine lv_iload_n hx hb (dkP dF_29 DX12_way (i := 34) rfl rfl) rfl (lv_at hl 3 rfl) ?_
        refine lv_i2l hx hb (dkP dF_133 DX12_way (i := 35) rfl rfl) rfl ?_
        refine lv_lconst (v := 0) hx hb (dkP dF_9 DX12_way (i := 36) rfl rfl) (by decide) ?_
        refine lv_aload_n hx hb (dkP dF_42 DX12_way (i := 37) rfl rfl) rfl (lv_at hl 0 rfl) ?_
        refine z_gr C0 hw 0 35 22 rfl fl_X12_93 (dk2 dF_180 DX12_way (i := 38) rfl rfl rfl) ?_
        refine lv_iload_n hx hb (dkP dF_27 DX12_way (i := 39) rfl rfl) rfl (lv_at hl 1 rfl) ?_
        refine z_ialdN (n := 200) C0 hw 22 wn rfl (by omega) (by decide) (dkP dF_46 DX12_way (i := 40) rfl rfl) ?_
        obtain ⟨n8, hn8, en8⟩ := rngN (x := σ.1 22 wn) (h := 100) (show 0 ≤ _ ∧ _ ≤ 100 from hT 22 _)
        refine z_top (y := nI n8) en8 ?_
        refine lv_iconst (v := 1) hx hb (dkP dF_4 DX12_way (i := 41) rfl rfl) (by decide) ?_
        refine lv_isub hx hb (dkP dF_100 DX12_way (i := 42) rfl rfl) ?_
        refine lv_i2l hx hb (dkP dF_133 DX12_way (i := 43) rfl rfl) rfl ?_
        refine zn_I hw (zr_S (As := [.long ix.toInt64, .long 0, .long (((nI n8) - 1).toInt64)]) (rest := []) C0 (c_X12_in l G kc ix.toInt64 0 (((nI n8) - 1).toInt64)  _) cs_X12_in lk_X12_9 (zp_P C0 hRo hw a00 s00) rfl hl.1 rfl ⟨by decide, by decide⟩ (Nat.le_of_ble_eq_true rfl) (dk2 dF_184 DX12_way (i := 44) rfl rfl rfl) ⟨Nat.le_refl _, Nat.le_refl _⟩) (fun r9 s9 H locs hp hw => ?_)
        rcases hp with ⟨rfl, hc9⟩ | ⟨rfl, hc9⟩
        · skip
          (try simp (disch := omega) only [ta_lt, ta_le, ta_eq, tb_lt, tb_le, tb_eq, tw, tnI, tn32 1 (by decide), tnj 1 (by decide), tl32 0 (by decide), tl64 0 (by decide), tl32 1 (by decide), tl64 1 (by decide)] at hc9)
          refine lv_if_eq (tgt := 112) hx hb (dkS dF_153 DX12_way (i := 45) rfl rfl rfl) (by decide) (fun h => absurd h (by decide)) (fun _ => ?_)
          obtain ⟨xn, hxn, rfl⟩ := to_nat (x := ix) (n := 100) (by (try simp only [lg_cmp_lt, lg_cmp_le, lg_cmp_gt, lg_cmp_ge, lg_cmp_eq] at hc2); (try simp (disch := omega) only [ta_lt, ta_le, ta_eq, tb_lt, tb_le, tb_eq, tw, tnI, tsub1, tsv, tn32 1 (by decide), tnj 1 (by decide), tl32 0 (by decide), tl64 0 (by decide), tl32 1 (by decide), tl64 1 (by decide)] at hc2); (try simp only [lg_cmp_lt, lg_cmp_le, lg_cmp_gt, lg_cmp_ge, lg_cmp_eq] at hc9); (try simp (disch := omega) only [ta_lt, ta_le, ta_eq, tb_lt, tb_le, tb_eq, tw, tnI, tsub1, tsv, tn32 1 (by decide), tnj 1 (by decide), tl32 0 (by decide), tl64 0 (by decide), tl32 1 (by decide), tl64 1 (by decide)] at hc9); (try simp (disch := omega) only [ta_lt, ta_le, ta_eq, tb_lt, tb_le, tb_eq, tw, tnI, tsub1, tsv, tn32 1 (by decide), tnj 1 (by decide), tl32 0 (by decide), tl64 0 (by decide), tl32 1 (by decide), tl64 1 (by decide)]); omega)
          refine lv_aload_n hx hb (dkP dF_42 DX12_way (i := 46) rfl rfl) rfl (lv_at hl 0 rfl) ?_
          refine z_gr C0 hw 0 36 23 rfl fl_X12_96 (dk2 dF_180 DX12_way (i := 47) rfl rfl rfl) ?_
          refine lv_bipush (v := 100) hx hb (dks dF_16 DX12_way (i := 48) rfl rfl rfl) (by decide) ?_
          refine lv_iload_n hx hb (dkP dF_27 DX12_way (i := 49) rfl rfl) rfl (lv_at hl 1 rfl) ?_
          refine lv_imul hx hb (dkP dF_104 DX12_way (i := 50) rfl rfl) ?_
          refine z_top (y := nI (100 * wn)) (by simp only [fa_lit, nI_add, pk_mul]) ?_
          refine lv_iload_n hx hb (dkP dF_29 DX12_way (i := 51) rfl rfl) rfl (lv_at hl 3 rfl) ?_
          refine lv_iadd hx hb (dkP dF_96 DX12_way (i := 52) rfl rfl) ?_
          refine z_top (y := nI ((100 * wn) + xn)) (by simp only [fa_lit, nI_add, pk_mul]) ?_
          refine z_ialdN (n := 20000) C0 hw 23 ((100 * wn) + xn) rfl (by omega) (by decide) (dkP dF_46 DX12_way (i := 53) rfl rfl) ?_
          obtain ⟨v10, ev10⟩ : ∃ y : Int32, σ.1 23 ((100 * wn) + xn) = y := ⟨_, rfl⟩
          refine z_top (y := v10) ev10 ?_
          refine lv_goto (tgt := 113) hx hb (dkS dF_167 DX12_way (i := 54) rfl rfl rfl) (by decide) ?_
          exact z_iret C0 hr hlk hw (⟨rfl⟩) (dkP dF_172 DX12_way (i := 56) rfl rfl)
        · skip
          (try simp (disch := omega) only [ta_lt, ta_le, ta_eq, tb_lt, tb_le, tb_eq, tw, tnI, tn32 1 (by decide), tnj 1 (by decide), tl32 0 (by decide), tl64 0 (by decide), tl32 1 (by decide), tl64 1 (by decide), tl32 100 (by decide), tl64 100 (by decide)] at hc9)
          refine lv_if_eq (tgt := 112) hx hb (dkS dF_153 DX12_way (i := 45) rfl rfl rfl) (by decide) (fun _ => ?_) (fun h => absurd h (by decide))
          refine lv_iconst (v := (-1)) hx hb (dkP dF_2 DX12_way (i := 55) rfl rfl) (by decide) ?_
          exact z_iret C0 hr hlk hw (⟨rfl⟩) (dkP dF_172 DX12_way (i := 56) rfl rfl)
      | j + 5, hj => exact absurd hj (by omega)
    · refine lv_tableOut (tgt := 114) hx hb (dX12_way_19) (by omega) (by decide) ?_
      refine lv_iconst (v := (-1)) hx hb (dkP dF_2 DX12_way (i := 57) rfl rfl) (by decide) ?_
      exact z_iret C0 hr hlk hw (⟨rfl⟩) (dkP dF_172 DX12_way (i := 58) rfl rfl)
  · skip
    (try simp (disch := omega) only [ta_lt, ta_le, ta_eq, tb_lt, tb_le, tb_eq, tw, tnI, tn32 1 (by decide), tnj 1 (by decide), tl32 0 (by decide), tl64 0 (by decide), tl32 1 (by decide), tl64 1 (by decide), tl32 100 (by decide), tl64 100 (by decide)] at hc2)
    refine lv_if_ne (tgt := 18) hx hb (dkS dF_154 DX12_way (i := 9) rfl rfl rfl) (by decide) (fun h => absurd h (by decide)) (fun _ => ?_)
    refine lv_iconst (v := (-1)) hx hb (dkP dF_2 DX12_way (i := 10) rfl rfl) (by decide) ?_
    exact z_iret C0 hr hlk hw (⟨rfl⟩) (dkP dF_172 DX12_way (i := 11) rfl rfl)
set_option maxRecDepth 100000 in
set_option maxHeartbeats 8000000 in
theorem c_X12_rule (l : Launch) (G : va_G) (kc : KC) (ad : Nat → Nat) (σ : Sg) (wy : Int32) (field : Int32) (ix : Int32) (hT : TM σ) : MI l G kc yX12_rule cX12_rule 4 (some .int) 2 45 [.ref (ad 0), .int wy, .int field, .int ix] shM ad σ (fun r σ1 => σ1 = σ) := by
  intro sz
  refine z_body (y := yX12_rule) (n := 4) (av := [.ref (ad 0), .int wy, .int field, .int ix]) (Qc := fun A => va_Qi (fun r σ1 => σ1 = σ) (PoC G kc shM ad A) A) (plainFor_of_name (by decide)) (Nat.le_of_ble_eq_true rfl) (fun pr e s m below meth c A C0 hr hlk hnm hw hRo ls hl => ?_) sz
  have hx := C0.1
  have hb := C0.2.1
  have hown := C0.2.2.2.1
  have hts := C0.2.2.2.2.1
  have hl : lv_has ls 4 [(0, .ref (ad 0)), (1, .int wy), (2, .int field), (3, .int ix)] := hl
  refine lv_iload_n hx hb (dkP dF_27 DX12_rule (i := 0) rfl rfl) rfl (lv_at hl 1 rfl) ?_
  refine lv_i2l hx hb (dkP dF_133 DX12_rule (i := 1) rfl rfl) rfl ?_
  refine lv_lconst (v := 0) hx hb (dkP dF_9 DX12_rule (i := 2) rfl rfl) (by decide) ?_
  refine lv_aload_n hx hb (dkP dF_42 DX12_rule (i := 3) rfl rfl) rfl (lv_at hl 0 rfl) ?_
  refine z_gi C0 hw 0 41 rfl fl_X12_399 (dk2 dF_180 DX12_rule (i := 4) rfl rfl rfl) ?_
  obtain ⟨n1, hn1, en1⟩ := rngN (x := σ.1 0 41) (h := 200) (show 0 ≤ _ ∧ _ ≤ 200 from hT 0 41)
  refine z_top (y := nI n1) en1 ?_
  refine lv_iconst (v := 1) hx hb (dkP dF_4 DX12_rule (i := 5) rfl rfl) (by decide) ?_
  refine lv_isub hx hb (dkP dF_100 DX12_rule (i := 6) rfl rfl) ?_
  refine lv_i2l hx hb (dkP dF_133 DX12_rule (i := 7) rfl rfl) rfl ?_
  refine zn_I hw (zr_S (As := [.long wy.toInt64, .long 0, .long (((nI n1) - 1).toInt64)]) (rest := []) C0 (c_X12_in l G kc wy.toInt64 0 (((nI n1) - 1).toInt64)  _) cs_X12_in lk_X12_9 (zp_P C0 hRo hw a00 s00) rfl hl.1 rfl ⟨by decide, by decide⟩ (Nat.le_of_ble_eq_true rfl) (dk2 dF_184 DX12_rule (i := 8) rfl rfl rfl) ⟨Nat.le_refl _, Nat.le_refl _⟩) (fun r2 s2 H locs hp hw => ?_)
  rcases hp with ⟨rfl, hc2⟩ | ⟨rfl, hc2⟩
  · skip
    (try simp (disch := omega) only [ta_lt, ta_le, ta_eq, tb_lt, tb_le, tb_eq, tw, tnI, tn32 1 (by decide), tnj 1 (by decide), tl32 0 (by decide), tl64 0 (by decide), tl32 1 (by decide), tl64 1 (by decide)] at hc2)
    refine lv_if_eq (tgt := 41) hx hb (dkS dF_153 DX12_rule (i := 9) rfl rfl rfl) (by decide) (fun h => absurd h (by decide)) (fun _ => ?_)
    obtain ⟨wn, hwn, rfl⟩ := to_nat (x := wy) (n := 200) (by (try simp only [lg_cmp_lt, lg_cmp_le, lg_cmp_gt, lg_cmp_ge, lg_cmp_eq] at hc2); (try simp (disch := omega) only [ta_lt, ta_le, ta_eq, tb_lt, tb_le, tb_eq, tw, tnI, tsub1, tsv, tn32 1 (by decide), tnj 1 (by decide), tl32 0 (by decide), tl64 0 (by decide), tl32 1 (by decide), tl64 1 (by decide)] at hc2); (try simp (disch := omega) only [ta_lt, ta_le, ta_eq, tb_lt, tb_le, tb_eq, tw, tnI, tsub1, tsv, tn32 1 (by decide), tnj 1 (by decide), tl32 0 (by decide), tl64 0 (by decide), tl32 1 (by decide), tl64 1 (by decide)]); omega)
    refine lv_iload_n hx hb (dkP dF_28 DX12_rule (i := 10) rfl rfl) rfl (lv_at hl 2 rfl) ?_
    refine zn_I hw (zr_S (As := [.int field]) (rest := []) C0 (c_X12_isField l G kc field  _) cs_X12_isField lk_X12_332 (zp_P C0 hRo hw a00 s00) rfl hl.1 rfl ⟨by decide, by decide⟩ (Nat.le_of_ble_eq_true rfl) (dk2 dF_184 DX12_rule (i := 11) rfl rfl rfl) ⟨Nat.le_refl _, Nat.le_refl _⟩) (fun r3 s3 H locs hp hw => ?_)
    rcases hp with ⟨rfl, hc3⟩ | ⟨rfl, hc3⟩
    · skip
      (try simp (disch := omega) only [ta_lt, ta_le, ta_eq, tb_lt, tb_le, tb_eq, tw, tnI, tn32 1 (by decide), tnj 1 (by decide), tl32 0 (by decide), tl64 0 (by decide), tl32 1 (by decide), tl64 1 (by decide)] at hc3)
      obtain ⟨k_field, hk_field, rfl⟩ := to_nat (x := field) (n := 8) (by (try simp only [lg_cmp_lt, lg_cmp_le, lg_cmp_gt, lg_cmp_ge, lg_cmp_eq] at hc2); (try simp (disch := omega) only [ta_lt, ta_le, ta_eq, tb_lt, tb_le, tb_eq, tw, tnI, tn32 1 (by decide), tnj 1 (by decide), tl32 0 (by decide), tl64 0 (by decide), tl32 1 (by decide), tl64 1 (by decide)] at hc2); (try simp only [lg_cmp_lt, lg_cmp_le, lg_cmp_gt, lg_cmp_ge, lg_cmp_eq] at hc3); (try simp (disch := omega) only [ta_lt, ta_le, ta_eq, tb_lt, tb_le, tb_eq, tw, tnI, tn32 1 (by decide), tnj 1 (by decide), tl32 0 (by decide), tl64 0 (by decide), tl32 1 (by decide), tl64 1 (by decide)] at hc3); (try simp (disch := omega) only [ta_lt, ta_le, ta_eq, tb_lt, tb_le, tb_eq, tw, tnI, tn32 1 (by decide), tnj 1 (by decide), tl32 0 (by decide), tl64 0 (by decide), tl32 1 (by decide), tl64 1 (by decide)]); omega)
      refine lv_if_eq (tgt := 41) hx hb (dkS dF_153 DX12_rule (i := 12) rfl rfl rfl) (by decide) (fun h => absurd h (by decide)) (fun _ => ?_)
      refine lv_iload_n hx hb (dkP dF_29 DX12_rule (i := 13) rfl rfl) rfl (lv_at hl 3 rfl) ?_
      refine lv_i2l hx hb (dkP dF_133 DX12_rule (i := 14) rfl rfl) rfl ?_
      refine lv_ldc2 hx hb hown (hts _ kn_X12_411) (dk2 dF_20 DX12_rule (i := 15) rfl rfl rfl) ?_
      refine lv_aload_n hx hb (dkP dF_42 DX12_rule (i := 16) rfl rfl) rfl (lv_at hl 0 rfl) ?_
      refine z_gi C0 hw 0 42 rfl fl_X12_402 (dk2 dF_180 DX12_rule (i := 17) rfl rfl rfl) ?_
      obtain ⟨n4, hn4, en4⟩ := rngN (x := σ.1 0 42) (h := 8) (show 0 ≤ _ ∧ _ ≤ 8 from hT 0 42)
      refine z_top (y := nI n4) en4 ?_
      refine lv_iconst (v := 1) hx hb (dkP dF_4 DX12_rule (i := 18) rfl rfl) (by decide) ?_
      refine lv_isub hx hb (dkP dF_100 DX12_rule (i := 19) rfl rfl) ?_
      refine lv_i2l hx hb (dkP dF_133 DX12_rule (i := 20) rfl rfl) rfl ?_
      refine zn_I hw (zr_S (As := [.long ix.toInt64, .long (-1), .long (((nI n4) - 1).toInt64)]) (rest := []) C0 (c_X12_in l G kc ix.toInt64 (-1) (((nI n4) - 1).toInt64)  _) cs_X12_in lk_X12_9 (zp_P C0 hRo hw a00 s00) rfl hl.1 rfl ⟨by decide, by decide⟩ (Nat.le_of_ble_eq_true rfl) (dk2 dF_184 DX12_rule (i := 21) rfl rfl rfl) ⟨Nat.le_refl _, Nat.le_refl _⟩) (fun r5 s5 H locs hp hw => ?_)
      rcases hp with ⟨rfl, hc5⟩ | ⟨rfl, hc5⟩
      · skip
        (try simp (disch := omega) only [ta_lt, ta_le, ta_eq, tb_lt, tb_le, tb_eq, tw, tnI, tn32 1 (by decide), tnj 1 (by decide), tl32 0 (by decide), tl64 0 (by decide), tl32 1 (by decide), tl64 1 (by decide)] at hc5)
        refine lv_if_ne (tgt := 45) hx hb (dkS dF_154 DX12_rule (i := 22) rfl rfl rfl) (by decide) (fun _ => ?_) (fun h => absurd h (by decide))
        refine lv_aload_n hx hb (dkP dF_42 DX12_rule (i := 25) rfl rfl) rfl (lv_at hl 0 rfl) ?_
        refine z_gr C0 hw 0 39 26 rfl fl_X12_105 (dk2 dF_180 DX12_rule (i := 26) rfl rfl rfl) ?_
        refine lv_bipush (v := 72) hx hb (dks dF_16 DX12_rule (i := 27) rfl rfl rfl) (by decide) ?_
        refine lv_iload_n hx hb (dkP dF_27 DX12_rule (i := 28) rfl rfl) rfl (lv_at hl 1 rfl) ?_
        refine lv_imul hx hb (dkP dF_104 DX12_rule (i := 29) rfl rfl) ?_
        refine z_top (y := nI (72 * wn)) (by simp only [fa_lit, nI_add, pk_mul]) ?_
        refine lv_bipush (v := 9) hx hb (dks dF_16 DX12_rule (i := 30) rfl rfl rfl) (by decide) ?_
        refine lv_iload_n hx hb (dkP dF_28 DX12_rule (i := 31) rfl rfl) rfl (lv_at hl 2 rfl) ?_
        refine lv_imul hx hb (dkP dF_104 DX12_rule (i := 32) rfl rfl) ?_
        refine z_top (y := nI (9 * k_field)) (by simp only [fa_lit, nI_add, pk_mul]) ?_
        refine lv_iadd hx hb (dkP dF_96 DX12_rule (i := 33) rfl rfl) ?_
        refine z_top (y := nI ((72 * wn) + (9 * k_field))) (by simp only [fa_lit, nI_add, pk_mul]) ?_
        refine lv_iload_n hx hb (dkP dF_29 DX12_rule (i := 34) rfl rfl) rfl (lv_at hl 3 rfl) ?_
        refine lv_iconst (v := (-1)) hx hb (dkP dF_2 DX12_rule (i := 35) rfl rfl) (by decide) ?_
        refine lv_icmp_ne (tgt := 68) hx hb (dkS dF_160 DX12_rule (i := 36) rfl rfl rfl) (by decide) (fun c6 => ?_) (fun c6 => ?_)
        · (try simp (disch := omega) only [ta_lt, ta_le, ta_eq, tnI, tn32 1 (by decide)] at c6)
          obtain ⟨xn, hxn, rfl⟩ := to_nat (x := ix) (n := 8) (by (try simp only [lg_cmp_lt, lg_cmp_le, lg_cmp_gt, lg_cmp_ge, lg_cmp_eq] at hc2); (try simp (disch := omega) only [ta_lt, ta_le, ta_eq, tb_lt, tb_le, tb_eq, tw, tnI, tsub1, tsv, tn32 1 (by decide), tnj 1 (by decide), tl32 0 (by decide), tl64 0 (by decide), tl32 1 (by decide), tl64 1 (by decide), tl32 9 (by decide), tl64 9 (by decide), tl32 72 (by decide), tl64 72 (by decide)] at hc2); (try simp only [lg_cmp_lt, lg_cmp_le, lg_cmp_gt, lg_cmp_ge, lg_cmp_eq] at hc3); (try simp (disch := omega) only [ta_lt, ta_le, ta_eq, tb_lt, tb_le, tb_eq, tw, tnI, tsub1, tsv, tn32 1 (by decide), tnj 1 (by decide), tl32 0 (by decide), tl64 0 (by decide), tl32 1 (by decide), tl64 1 (by decide), tl32 9 (by decide), tl64 9 (by decide), tl32 72 (by decide), tl64 72 (by decide)] at hc3); (try simp only [lg_cmp_lt, lg_cmp_le, lg_cmp_gt, lg_cmp_ge, lg_cmp_eq] at hc5); (try simp (disch := omega) only [ta_lt, ta_le, ta_eq, tb_lt, tb_le, tb_eq, tw, tnI, tsub1, tsv, tn32 1 (by decide), tnj 1 (by decide), tl32 0 (by decide), tl64 0 (by decide), tl32 1 (by decide), tl64 1 (by decide), tl32 9 (by decide), tl64 9 (by decide), tl32 72 (by decide), tl64 72 (by decide)] at hc5); (try simp only [lg_cmp_lt, lg_cmp_le, lg_cmp_gt, lg_cmp_ge, lg_cmp_eq] at c6); (try simp (disch := omega) only [ta_lt, ta_le, ta_eq, tb_lt, tb_le, tb_eq, tw, tnI, tsub1, tsv, tn32 1 (by decide), tnj 1 (by decide), tl32 0 (by decide), tl64 0 (by decide), tl32 1 (by decide), tl64 1 (by decide), tl32 9 (by decide), tl64 9 (by decide), tl32 72 (by decide), tl64 72 (by decide)] at c6); (try simp (disch := omega) only [ta_lt, ta_le, ta_eq, tb_lt, tb_le, tb_eq, tw, tnI, tsub1, tsv, tn32 1 (by decide), tnj 1 (by decide), tl32 0 (by decide), tl64 0 (by decide), tl32 1 (by decide), tl64 1 (by decide), tl32 9 (by decide), tl64 9 (by decide), tl32 72 (by decide), tl64 72 (by decide)]); omega)
          refine lv_aload_n hx hb (dkP dF_42 DX12_rule (i := 39) rfl rfl) rfl (lv_at hl 0 rfl) ?_
          refine z_gr C0 hw 0 40 27 rfl fl_X12_108 (dk2 dF_180 DX12_rule (i := 40) rfl rfl rfl) ?_
          refine lv_iload_n hx hb (dkP dF_29 DX12_rule (i := 41) rfl rfl) rfl (lv_at hl 3 rfl) ?_
          refine z_ialdN (n := 8) C0 hw 27 xn rfl (by omega) (by decide) (dkP dF_46 DX12_rule (i := 42) rfl rfl) ?_
          obtain ⟨n7, hn7, en7⟩ := rngN (x := σ.1 27 xn) (h := 7) (show 0 ≤ _ ∧ _ ≤ 7 from hT 27 _)
          refine z_top (y := nI n7) en7 ?_
          refine lv_iadd hx hb (dkP dF_96 DX12_rule (i := 43) rfl rfl) ?_
          refine z_top (y := nI (((72 * wn) + (9 * k_field)) + n7)) (by simp only [fa_lit, nI_add, pk_mul]) ?_
          refine z_ialdN (n := 14400) C0 hw 26 (((72 * wn) + (9 * k_field)) + n7) rfl (by omega) (by decide) (dkP dF_46 DX12_rule (i := 44) rfl rfl) ?_
          obtain ⟨v8, ev8⟩ : ∃ y : Int32, σ.1 26 (((72 * wn) + (9 * k_field)) + n7) = y := ⟨_, rfl⟩
          refine z_top (y := v8) ev8 ?_
          exact z_iret C0 hr hlk hw (⟨rfl⟩) (dkP dF_172 DX12_rule (i := 45) rfl rfl)
        · (try simp (disch := omega) only [ta_lt, ta_le, ta_eq, tnI, tn32 1 (by decide)] at c6)
          refine lv_bipush (v := 8) hx hb (dks dF_16 DX12_rule (i := 37) rfl rfl rfl) (by decide) ?_
          refine lv_goto (tgt := 74) hx hb (dkS dF_167 DX12_rule (i := 38) rfl rfl rfl) (by decide) ?_
          refine lv_iadd hx hb (dkP dF_96 DX12_rule (i := 43) rfl rfl) ?_
          refine z_top (y := nI (((72 * wn) + (9 * k_field)) + 8)) (by simp only [fa_lit, nI_add, pk_mul]) ?_
          refine z_ialdN (n := 14400) C0 hw 26 (((72 * wn) + (9 * k_field)) + 8) rfl (by omega) (by decide) (dkP dF_46 DX12_rule (i := 44) rfl rfl) ?_
          obtain ⟨v9, ev9⟩ : ∃ y : Int32, σ.1 26 (((72 * wn) + (9 * k_field)) + 8) = y := ⟨_, rfl⟩
          refine z_top (y := v9) ev9 ?_
          exact z_iret C0 hr hlk hw (⟨rfl⟩) (dkP dF_172 DX12_rule (i := 45) rfl rfl)
      · skip
        (try simp (disch := omega) only [ta_lt, ta_le, ta_eq, tb_lt, tb_le, tb_eq, tw, tnI, tn32 1 (by decide), tnj 1 (by decide), tl32 0 (by decide), tl64 0 (by decide), tl32 1 (by decide), tl64 1 (by decide), tl32 8 (by decide), tl64 8 (by decide), tl32 9 (by decide), tl64 9 (by decide), tl32 72 (by decide), tl64 72 (by decide)] at hc5)
        refine lv_if_ne (tgt := 45) hx hb (dkS dF_154 DX12_rule (i := 22) rfl rfl rfl) (by decide) (fun h => absurd h (by decide)) (fun _ => ?_)
        refine lv_ldcw hx hb hown (hts _ kn_X12_413) (dk2 dF_19 DX12_rule (i := 23) rfl rfl rfl) ?_
        exact z_iret C0 hr hlk hw (⟨rfl⟩) (dkP dF_172 DX12_rule (i := 24) rfl rfl)
    · skip
      (try simp (disch := omega) only [ta_lt, ta_le, ta_eq, tb_lt, tb_le, tb_eq, tw, tnI, tn32 2000000000 (by decide), tnj 2000000000 (by decide), tn32 1 (by decide), tnj 1 (by decide), tl32 0 (by decide), tl64 0 (by decide), tl32 1 (by decide), tl64 1 (by decide), tl32 8 (by decide), tl64 8 (by decide), tl32 9 (by decide), tl64 9 (by decide), tl32 72 (by decide), tl64 72 (by decide)] at hc3)
      refine lv_if_eq (tgt := 41) hx hb (dkS dF_153 DX12_rule (i := 12) rfl rfl rfl) (by decide) (fun _ => ?_) (fun h => absurd h (by decide))
      refine lv_ldcw hx hb hown (hts _ kn_X12_413) (dk2 dF_19 DX12_rule (i := 23) rfl rfl rfl) ?_
      exact z_iret C0 hr hlk hw (⟨rfl⟩) (dkP dF_172 DX12_rule (i := 24) rfl rfl)
  · skip
    (try simp (disch := omega) only [ta_lt, ta_le, ta_eq, tb_lt, tb_le, tb_eq, tw, tnI, tn32 2000000000 (by decide), tnj 2000000000 (by decide), tn32 1 (by decide), tnj 1 (by decide), tl32 0 (by decide), tl64 0 (by decide), tl32 1 (by decide), tl64 1 (by decide), tl32 8 (by decide), tl64 8 (by decide), tl32 9 (by decide), tl64 9 (by decide), tl32 72 (by decide), tl64 72 (by decide)] at hc2)
    refine lv_if_eq (tgt := 41) hx hb (dkS dF_153 DX12_rule (i := 9) rfl rfl rfl) (by decide) (fun _ => ?_) (fun h => absurd h (by decide))
    refine lv_ldcw hx hb hown (hts _ kn_X12_413) (dk2 dF_19 DX12_rule (i := 23) rfl rfl rfl) ?_
    exact z_iret C0 hr hlk hw (⟨rfl⟩) (dkP dF_172 DX12_rule (i := 24) rfl rfl)
set_option maxRecDepth 100000 in
set_option maxHeartbeats 8000000 in
theorem c_X12_dead (l : Launch) (G : va_G) (kc : KC) (ad : Nat → Nat) (σ : Sg)  (hT : TM σ) : MI l G kc yX12_dead cX12_dead 1 (some .int) 0 0 [.ref (ad 0)] shM ad σ (fun r σ1 => σ1 = σ) := by
  intro sz
  refine z_body (y := yX12_dead) (n := 1) (av := [.ref (ad 0)]) (Qc := fun A => va_Qi (fun r σ1 => σ1 = σ) (PoC G kc shM ad A) A) (plainFor_of_name (by decide)) (Nat.le_of_ble_eq_true rfl) (fun pr e s m below meth c A C0 hr hlk hnm hw hRo ls hl => ?_) sz
  have hx := C0.1
  have hb := C0.2.1
  have hown := C0.2.2.2.1
  have hts := C0.2.2.2.2.1
  have hl : lv_has ls 1 [(0, .ref (ad 0))] := hl
  refine lv_aload_n hx hb (dkP dF_42 DX12_dead (i := 0) rfl rfl) rfl (lv_at hl 0 rfl) ?_
  refine z_gi C0 hw 0 43 rfl fl_X12_405 (dk2 dF_180 DX12_dead (i := 1) rfl rfl rfl) ?_
  obtain ⟨v1, ev1⟩ : ∃ y : Int32, σ.1 0 43 = y := ⟨_, rfl⟩
  refine z_top (y := v1) ev1 ?_
  exact z_iret C0 hr hlk hw (⟨rfl⟩) (dkP dF_172 DX12_dead (i := 2) rfl rfl)
set_option maxRecDepth 100000 in
set_option maxHeartbeats 8000000 in
theorem c_X12_areAlike (l : Launch) (G : va_G) (kc : KC) (ad : Nat → Nat) (σ : Sg) (va : Nat) (wa : Nat) (hva : va < 200) (hwa : wa < 200) (hT : TM σ) : MI l G kc yX12_areAlike cX12_areAlike 4 (some .boolean) 0 0 [.ref (ad 0), .int (nI va), .int (nI wa)] shM ad σ (fun r σ1 => ((r = 1 ∧ (True)) ∨ (r = 0 ∧ (True))) ∧ σ1 = σ) := by
  intro sz
  refine z_body (y := yX12_areAlike) (n := 4) (av := [.ref (ad 0), .int (nI va), .int (nI wa)]) (Qc := fun A => va_Qi (fun r σ1 => ((r = 1 ∧ (True)) ∨ (r = 0 ∧ (True))) ∧ σ1 = σ) (PoC G kc shM ad A) A) (plainFor_of_name (by decide)) (Nat.le_of_ble_eq_true rfl) (fun pr e s m below meth c A C0 hr hlk hnm hw hRo ls hl => ?_) sz
  have hx := C0.1
  have hb := C0.2.1
  have hown := C0.2.2.2.1
  have hts := C0.2.2.2.2.1
  have hl : lv_has ls 4 [(0, .ref (ad 0)), (1, .int (nI va)), (2, .int (nI wa))] := hl
  refine lv_aload_n hx hb (dkP dF_42 DX12_areAlike (i := 0) rfl rfl) rfl (lv_at hl 0 rfl) ?_
  refine z_gr C0 hw 0 34 21 rfl fl_X12_90 (dk2 dF_180 DX12_areAlike (i := 1) rfl rfl rfl) ?_
  refine lv_iload_n hx hb (dkP dF_27 DX12_areAlike (i := 2) rfl rfl) rfl (lv_at hl 1 rfl) ?_
  refine z_ialdN (n := 200) C0 hw 21 va rfl (by omega) (by decide) (dkP dF_46 DX12_areAlike (i := 3) rfl rfl) ?_
  obtain ⟨v1, ev1⟩ : ∃ y : Int32, σ.1 21 va = y := ⟨_, rfl⟩
  refine z_top (y := v1) ev1 ?_
  refine lv_aload_n hx hb (dkP dF_42 DX12_areAlike (i := 4) rfl rfl) rfl (lv_at hl 0 rfl) ?_
  refine z_gr C0 hw 0 34 21 rfl fl_X12_90 (dk2 dF_180 DX12_areAlike (i := 5) rfl rfl rfl) ?_
  refine lv_iload_n hx hb (dkP dF_28 DX12_areAlike (i := 6) rfl rfl) rfl (lv_at hl 2 rfl) ?_
  refine z_ialdN (n := 200) C0 hw 21 wa rfl (by omega) (by decide) (dkP dF_46 DX12_areAlike (i := 7) rfl rfl) ?_
  obtain ⟨v2, ev2⟩ : ∃ y : Int32, σ.1 21 wa = y := ⟨_, rfl⟩
  refine z_top (y := v2) ev2 ?_
  refine lv_icmp_eq (tgt := 17) hx hb (dkS dF_159 DX12_areAlike (i := 8) rfl rfl rfl) (by decide) (fun c3 => ?_) (fun c3 => ?_)
  · (try simp (disch := omega) only [ta_lt, ta_le, ta_eq, tnI] at c3)
    refine lv_iconst (v := 0) hx hb (dkP dF_3 DX12_areAlike (i := 11) rfl rfl) (by decide) ?_
    refine lv_istore_n (lv' := [(3, .int 0), (0, .ref (ad 0)), (1, .int (nI va)), (2, .int (nI wa))]) hx hb (dkP dF_62 DX12_areAlike (i := 12) rfl rfl) rfl hl (by decide) rfl (fun ls hl => ?_)
    have lp4 : ∀ (nq : Nat) (q3_19 : Nat) (H : Heap) (locs : List Loc) (ls : Array Slot), 72 - q3_19 < nq → (q3_19 ≤ 72) → St G kc A s.heap shM ad σ H locs → lv_has ls 4 [(3, .int (nI q3_19)), (0, .ref (ad 0)), (1, .int (nI va)), (2, .int (nI wa))] → W pr l e { frames := 0, cells := 0, slots := 0, locals := 0 } s m ([.ref (ad 0), .int (nI va), .int (nI wa)] : List Value).toArray below meth c H locs 0 0 (MQ below (va_Qi (fun r σ1 => ((r = 1 ∧ (True)) ∨ (r = 0 ∧ (True))) ∧ σ1 = σ) (PoC G kc shM ad A) A) ([.ref (ad 0), .int (nI va), .int (nI wa)] : List Value).toArray s 0 0 A) (F0 m 19 ls []) := by
      intro nq
      induction nq with
      | zero => intro q3_19 H locs ls hmu; exact absurd hmu (Nat.not_lt_zero _)
      | succ nq ih4 =>
        intro q3_19 H locs ls hmu hq3_19 hw hl
        refine lv_iload_n hx hb (dkP dF_29 DX12_areAlike (i := 13) rfl rfl) rfl (lv_at hl 0 rfl) ?_
        refine lv_bipush (v := 72) hx hb (dks dF_16 DX12_areAlike (i := 14) rfl rfl rfl) (by decide) ?_
        refine lv_icmp_ge (tgt := 58) hx hb (dkS dF_162 DX12_areAlike (i := 15) rfl rfl rfl) (by decide) (fun c5 => ?_) (fun c5 => ?_)
        · simp (disch := omega) only [ta_lt, ta_le, ta_eq, tnI, tl32 72 (by decide)] at c5
          refine lv_iconst (v := 1) hx hb (dkP dF_4 DX12_areAlike (i := 37) rfl rfl) (by decide) ?_
          exact z_zret C0 hr hlk (by decide) hw (⟨(Or.inl ⟨rfl, trivial⟩), rfl⟩) (dkP dF_172 DX12_areAlike (i := 38) rfl rfl)
        · simp (disch := omega) only [ta_lt, ta_le, ta_eq, tnI, tl32 72 (by decide)] at c5
          refine lv_aload_n hx hb (dkP dF_42 DX12_areAlike (i := 16) rfl rfl) rfl (lv_at hl 1 rfl) ?_
          refine z_gr C0 hw 0 39 26 rfl fl_X12_105 (dk2 dF_180 DX12_areAlike (i := 17) rfl rfl rfl) ?_
          refine lv_bipush (v := 72) hx hb (dks dF_16 DX12_areAlike (i := 18) rfl rfl rfl) (by decide) ?_
          refine lv_iload_n hx hb (dkP dF_27 DX12_areAlike (i := 19) rfl rfl) rfl (lv_at hl 2 rfl) ?_
          refine lv_imul hx hb (dkP dF_104 DX12_areAlike (i := 20) rfl rfl) ?_
          refine z_top (y := nI (72 * va)) (by simp only [fa_lit, nI_add, pk_mul]) ?_
          refine lv_iload_n hx hb (dkP dF_29 DX12_areAlike (i := 21) rfl rfl) rfl (lv_at hl 0 rfl) ?_
          refine lv_iadd hx hb (dkP dF_96 DX12_areAlike (i := 22) rfl rfl) ?_
          refine z_top (y := nI ((72 * va) + q3_19)) (by simp only [fa_lit, nI_add, pk_mul]) ?_
          refine z_ialdN (n := 14400) C0 hw 26 ((72 * va) + q3_19) rfl (by omega) (by decide) (dkP dF_46 DX12_areAlike (i := 23) rfl rfl) ?_
          obtain ⟨v6, ev6⟩ : ∃ y : Int32, σ.1 26 ((72 * va) + q3_19) = y := ⟨_, rfl⟩
          refine z_top (y := v6) ev6 ?_
          refine lv_aload_n hx hb (dkP dF_42 DX12_areAlike (i := 24) rfl rfl) rfl (lv_at hl 1 rfl) ?_
          refine z_gr C0 hw 0 39 26 rfl fl_X12_105 (dk2 dF_180 DX12_areAlike (i := 25) rfl rfl rfl) ?_
          refine lv_bipush (v := 72) hx hb (dks dF_16 DX12_areAlike (i := 26) rfl rfl rfl) (by decide) ?_
          refine lv_iload_n hx hb (dkP dF_28 DX12_areAlike (i := 27) rfl rfl) rfl (lv_at hl 3 rfl) ?_
          refine lv_imul hx hb (dkP dF_104 DX12_areAlike (i := 28) rfl rfl) ?_
          refine z_top (y := nI (72 * wa)) (by simp only [fa_lit, nI_add, pk_mul]) ?_
          refine lv_iload_n hx hb (dkP dF_29 DX12_areAlike (i := 29) rfl rfl) rfl (lv_at hl 0 rfl) ?_
          refine lv_iadd hx hb (dkP dF_96 DX12_areAlike (i := 30) rfl rfl) ?_
          refine z_top (y := nI ((72 * wa) + q3_19)) (by simp only [fa_lit, nI_add, pk_mul]) ?_
          refine z_ialdN (n := 14400) C0 hw 26 ((72 * wa) + q3_19) rfl (by omega) (by decide) (dkP dF_46 DX12_areAlike (i := 31) rfl rfl) ?_
          obtain ⟨v7, ev7⟩ : ∃ y : Int32, σ.1 26 ((72 * wa) + q3_19) = y := ⟨_, rfl⟩
          refine z_top (y := v7) ev7 ?_
          refine lv_icmp_eq (tgt := 52) hx hb (dkS dF_159 DX12_areAlike (i := 32) rfl rfl rfl) (by decide) (fun c8 => ?_) (fun c8 => ?_)
          · (try simp (disch := omega) only [ta_lt, ta_le, ta_eq, tnI] at c8)
            refine lv_iinc (v := nI (q3_19 + 1)) (lv' := [(3, .int (nI (q3_19 + 1))), (0, .ref (ad 0)), (1, .int (nI va)), (2, .int (nI wa))]) hx hb (dkI DX12_areAlike (i := 35) rfl rfl rfl rfl) hl (k := 0) rfl (nI_1 _) (by decide) rfl (fun ls hl => ?_)
            refine lv_goto (tgt := 19) hx hb (dkS dF_167 DX12_areAlike (i := 36) rfl rfl rfl) (by decide) ?_
            exact ih4 (q3_19 + 1) _ _ _ (by omega) (by (try simp only [lg_cmp_lt, lg_cmp_le, lg_cmp_gt, lg_cmp_ge, lg_cmp_eq] at c3); (try simp (disch := omega) only [ta_lt, ta_le, ta_eq, tb_lt, tb_le, tb_eq, tw, tnI, tsub1, tsv, tn32 1 (by decide), tnj 1 (by decide), tl32 0 (by decide), tl64 0 (by decide), tl32 1 (by decide), tl64 1 (by decide), tl32 72 (by decide), tl64 72 (by decide)] at c3); (try simp only [lg_cmp_lt, lg_cmp_le, lg_cmp_gt, lg_cmp_ge, lg_cmp_eq] at c5); (try simp (disch := omega) only [ta_lt, ta_le, ta_eq, tb_lt, tb_le, tb_eq, tw, tnI, tsub1, tsv, tn32 1 (by decide), tnj 1 (by decide), tl32 0 (by decide), tl64 0 (by decide), tl32 1 (by decide), tl64 1 (by decide), tl32 72 (by decide), tl64 72 (by decide)] at c5); (try simp only [lg_cmp_lt, lg_cmp_le, lg_cmp_gt, lg_cmp_ge, lg_cmp_eq] at c8); (try simp (disch := omega) only [ta_lt, ta_le, ta_eq, tb_lt, tb_le, tb_eq, tw, tnI, tsub1, tsv, tn32 1 (by decide), tnj 1 (by decide), tl32 0 (by decide), tl64 0 (by decide), tl32 1 (by decide), tl64 1 (by decide), tl32 72 (by decide), tl64 72 (by decide)] at c8); (try simp (disch := omega) only [ta_lt, ta_le, ta_eq, tb_lt, tb_le, tb_eq, tw, tnI, tsub1, tsv, tn32 1 (by decide), tnj 1 (by decide), tl32 0 (by decide), tl64 0 (by decide), tl32 1 (by decide), tl64 1 (by decide), tl32 72 (by decide), tl64 72 (by decide)]); omega) hw (lv_sub hl [0, 1, 2, 3] rfl)
          · (try simp (disch := omega) only [ta_lt, ta_le, ta_eq, tnI] at c8)
            refine lv_iconst (v := 0) hx hb (dkP dF_3 DX12_areAlike (i := 33) rfl rfl) (by decide) ?_
            exact z_zret C0 hr hlk (by decide) hw (⟨(Or.inr ⟨rfl, trivial⟩), rfl⟩) (dkP dF_172 DX12_areAlike (i := 34) rfl rfl)
    exact lp4 _ 0 _ _ _ (Nat.lt_succ_self _) (by (try simp only [lg_cmp_lt, lg_cmp_le, lg_cmp_gt, lg_cmp_ge, lg_cmp_eq] at c3); (try simp (disch := omega) only [ta_lt, ta_le, ta_eq, tb_lt, tb_le, tb_eq, tw, tnI, tsub1, tsv, tn32 1 (by decide), tnj 1 (by decide), tl32 0 (by decide), tl64 0 (by decide), tl32 1 (by decide), tl64 1 (by decide), tl32 72 (by decide), tl64 72 (by decide)] at c3); (try simp (disch := omega) only [ta_lt, ta_le, ta_eq, tb_lt, tb_le, tb_eq, tw, tnI, tsub1, tsv, tn32 1 (by decide), tnj 1 (by decide), tl32 0 (by decide), tl64 0 (by decide), tl32 1 (by decide), tl64 1 (by decide), tl32 72 (by decide), tl64 72 (by decide)]); omega) hw (lv_sub hl [0, 1, 2, 3] rfl)
  · (try simp (disch := omega) only [ta_lt, ta_le, ta_eq, tnI] at c3)
    refine lv_iconst (v := 0) hx hb (dkP dF_3 DX12_areAlike (i := 9) rfl rfl) (by decide) ?_
    exact z_zret C0 hr hlk (by decide) hw (⟨(Or.inr ⟨rfl, trivial⟩), rfl⟩) (dkP dF_172 DX12_areAlike (i := 10) rfl rfl)
set_option maxRecDepth 100000 in
set_option maxHeartbeats 8000000 in
theorem c_X12_kinds (l : Launch) (G : va_G) (kc : KC) (ad : Nat → Nat) (σ : Sg)  (hT : TM σ) : MI l G kc yX12_kinds cX12_kinds 5 (some .int) 1 23 [.ref (ad 0)] shM ad σ (fun r σ1 => σ1 = σ) := by
  intro sz
  refine z_body (y := yX12_kinds) (n := 5) (av := [.ref (ad 0)]) (Qc := fun A => va_Qi (fun r σ1 => σ1 = σ) (PoC G kc shM ad A) A) (plainFor_of_name (by decide)) (Nat.le_of_ble_eq_true rfl) (fun pr e s m below meth c A C0 hr hlk hnm hw hRo ls hl => ?_) sz
  have hx := C0.1
  have hb := C0.2.1
  have hown := C0.2.2.2.1
  have hts := C0.2.2.2.2.1
  have hl : lv_has ls 5 [(0, .ref (ad 0))] := hl
  refine lv_iconst (v := 0) hx hb (dkP dF_3 DX12_kinds (i := 0) rfl rfl) (by decide) ?_
  refine lv_istore_n (lv' := [(1, .int 0), (0, .ref (ad 0))]) hx hb (dkP dF_60 DX12_kinds (i := 1) rfl rfl) rfl hl (by decide) rfl (fun ls hl => ?_)
  refine lv_iconst (v := 0) hx hb (dkP dF_3 DX12_kinds (i := 2) rfl rfl) (by decide) ?_
  refine lv_istore_n (lv' := [(2, .int 0), (1, .int 0), (0, .ref (ad 0))]) hx hb (dkP dF_61 DX12_kinds (i := 3) rfl rfl) rfl hl (by decide) rfl (fun ls hl => ?_)
  have lp1 : ∀ (nq : Nat) (q2_4 : Nat) (q1_4 : Int32) (H : Heap) (locs : List Loc) (ls : Array Slot), 2147483647 - q2_4 < nq → (q2_4 ≤ 2147483647) → St G kc A s.heap shM ad σ H locs → lv_has ls 5 [(2, .int (nI q2_4)), (1, .int q1_4), (0, .ref (ad 0))] → W pr l e { frames := 1, cells := 0, slots := 0, locals := 23 } s m ([.ref (ad 0)] : List Value).toArray below meth c H locs 0 0 (MQ below (va_Qi (fun r σ1 => σ1 = σ) (PoC G kc shM ad A) A) ([.ref (ad 0)] : List Value).toArray s 0 0 A) (F0 m 4 ls []) := by
    intro nq
    induction nq with
    | zero => intro q2_4 q1_4 H locs ls hmu; exact absurd hmu (Nat.not_lt_zero _)
    | succ nq ih1 =>
      intro q2_4 q1_4 H locs ls hmu hq2_4 hw hl
      refine lv_iload_n hx hb (dkP dF_28 DX12_kinds (i := 4) rfl rfl) rfl (lv_at hl 0 rfl) ?_
      refine lv_aload_n hx hb (dkP dF_42 DX12_kinds (i := 5) rfl rfl) rfl (lv_at hl 2 rfl) ?_
      refine z_gi C0 hw 0 41 rfl fl_X12_399 (dk2 dF_180 DX12_kinds (i := 6) rfl rfl rfl) ?_
      obtain ⟨n2, hn2, en2⟩ := rngN (x := σ.1 0 41) (h := 200) (show 0 ≤ _ ∧ _ ≤ 200 from hT 0 41)
      refine z_top (y := nI n2) en2 ?_
      refine lv_icmp_ge (tgt := 67) hx hb (dkS dF_162 DX12_kinds (i := 7) rfl rfl rfl) (by decide) (fun c3 => ?_) (fun c3 => ?_)
      · simp (disch := omega) only [ta_lt, ta_le, ta_eq, tnI] at c3
        refine lv_iload_n hx hb (dkP dF_27 DX12_kinds (i := 38) rfl rfl) rfl (lv_at hl 1 rfl) ?_
        exact z_iret C0 hr hlk hw (⟨rfl⟩) (dkP dF_172 DX12_kinds (i := 39) rfl rfl)
      · simp (disch := omega) only [ta_lt, ta_le, ta_eq, tnI] at c3
        refine lv_iconst (v := 1) hx hb (dkP dF_4 DX12_kinds (i := 8) rfl rfl) (by decide) ?_
        refine lv_istore_n (lv' := [(3, .int 1), (2, .int (nI q2_4)), (1, .int q1_4), (0, .ref (ad 0))]) hx hb (dkP dF_62 DX12_kinds (i := 9) rfl rfl) rfl hl (by decide) rfl (fun ls hl => ?_)
        refine lv_iconst (v := 0) hx hb (dkP dF_3 DX12_kinds (i := 10) rfl rfl) (by decide) ?_
        refine lv_istore (lv' := [(4, .int 0), (3, .int 1), (2, .int (nI q2_4)), (1, .int q1_4), (0, .ref (ad 0))]) hx hb (dk1 dF_54 DX12_kinds (i := 11) rfl rfl rfl) hl (by decide) rfl (fun ls hl => ?_)
        have lp4 : ∀ (nq : Nat) (q4_17 : Nat) (q3_17 : Int32) (H : Heap) (locs : List Loc) (ls : Array Slot), 2147483647 - q4_17 < nq → (q4_17 ≤ 2147483647) → St G kc A s.heap shM ad σ H locs → lv_has ls 5 [(4, .int (nI q4_17)), (3, .int q3_17), (2, .int (nI q2_4)), (1, .int q1_4), (0, .ref (ad 0))] → W pr l e { frames := 1, cells := 0, slots := 0, locals := 23 } s m ([.ref (ad 0)] : List Value).toArray below meth c H locs 0 0 (MQ below (va_Qi (fun r σ1 => σ1 = σ) (PoC G kc shM ad A) A) ([.ref (ad 0)] : List Value).toArray s 0 0 A) (F0 m 17 ls []) := by
          intro nq
          induction nq with
          | zero => intro q4_17 q3_17 H locs ls hmu; exact absurd hmu (Nat.not_lt_zero _)
          | succ nq ih4 =>
            intro q4_17 q3_17 H locs ls hmu hq4_17 hw hl
            refine lv_iload hx hb (dk1 dF_21 DX12_kinds (i := 12) rfl rfl rfl) (lv_at hl 0 rfl) ?_
            refine lv_iload_n hx hb (dkP dF_28 DX12_kinds (i := 13) rfl rfl) rfl (lv_at hl 2 rfl) ?_
            refine lv_icmp_ge (tgt := 49) hx hb (dkS dF_162 DX12_kinds (i := 14) rfl rfl rfl) (by decide) (fun c5 => ?_) (fun c5 => ?_)
            · simp (disch := omega) only [ta_lt, ta_le, ta_eq, tnI] at c5
              refine lv_iload_n hx hb (dkP dF_27 DX12_kinds (i := 28) rfl rfl) rfl (lv_at hl 3 rfl) ?_
              refine lv_iload_n hx hb (dkP dF_29 DX12_kinds (i := 29) rfl rfl) rfl (lv_at hl 1 rfl) ?_
              refine lv_if_eq (tgt := 58) hx hb (dkS dF_153 DX12_kinds (i := 30) rfl rfl rfl) (by decide) (fun c6 => ?_) (fun c6 => ?_)
              · (try simp (disch := omega) only [ta_lt, ta_le, ta_eq, tnI, tl32 0 (by decide)] at c6)
                refine lv_iconst (v := 0) hx hb (dkP dF_3 DX12_kinds (i := 33) rfl rfl) (by decide) ?_
                refine lv_iadd hx hb (dkP dF_96 DX12_kinds (i := 34) rfl rfl) ?_
                refine lv_topi (fun v7 ev7 => ?_)
                refine lv_istore_n (lv' := [(1, .int v7), (4, .int (nI q4_17)), (3, .int q3_17), (2, .int (nI q2_4)), (0, .ref (ad 0))]) hx hb (dkP dF_60 DX12_kinds (i := 35) rfl rfl) rfl hl (by decide) rfl (fun ls hl => ?_)
                refine lv_iinc (v := nI (q2_4 + 1)) (lv' := [(2, .int (nI (q2_4 + 1))), (1, .int v7), (4, .int (nI q4_17)), (3, .int q3_17), (0, .ref (ad 0))]) hx hb (dkI DX12_kinds (i := 36) rfl rfl rfl rfl) hl (k := 3) rfl (nI_1 _) (by decide) rfl (fun ls hl => ?_)
                refine lv_goto (tgt := 4) hx hb (dkS dF_167 DX12_kinds (i := 37) rfl rfl rfl) (by decide) ?_
                exact ih1 (q2_4 + 1) v7 _ _ _ (by omega) (by (try simp only [lg_cmp_lt, lg_cmp_le, lg_cmp_gt, lg_cmp_ge, lg_cmp_eq] at c3); (try simp (disch := omega) only [ta_lt, ta_le, ta_eq, tb_lt, tb_le, tb_eq, tw, tnI, tsub1, tsv, tn32 1 (by decide), tnj 1 (by decide), tl32 0 (by decide), tl64 0 (by decide), tl32 1 (by decide), tl64 1 (by decide)] at c3); (try simp only [lg_cmp_lt, lg_cmp_le, lg_cmp_gt, lg_cmp_ge, lg_cmp_eq] at c5); (try simp (disch := omega) only [ta_lt, ta_le, ta_eq, tb_lt, tb_le, tb_eq, tw, tnI, tsub1, tsv, tn32 1 (by decide), tnj 1 (by decide), tl32 0 (by decide), tl64 0 (by decide), tl32 1 (by decide), tl64 1 (by decide)] at c5); (try simp only [lg_cmp_lt, lg_cmp_le, lg_cmp_gt, lg_cmp_ge, lg_cmp_eq] at c6); (try simp (disch := omega) only [ta_lt, ta_le, ta_eq, tb_lt, tb_le, tb_eq, tw, tnI, tsub1, tsv, tn32 1 (by decide), tnj 1 (by decide), tl32 0 (by decide), tl64 0 (by decide), tl32 1 (by decide), tl64 1 (by decide)] at c6); (try simp (disch := omega) only [ta_lt, ta_le, ta_eq, tb_lt, tb_le, tb_eq, tw, tnI, tsub1, tsv, tn32 1 (by decide), tnj 1 (by decide), tl32 0 (by decide), tl64 0 (by decide), tl32 1 (by decide), tl64 1 (by decide)]); omega) hw (lv_sub hl [0, 1, 4] rfl)
              · (try simp (disch := omega) only [ta_lt, ta_le, ta_eq, tnI, tl32 0 (by decide)] at c6)
                refine lv_iconst (v := 1) hx hb (dkP dF_4 DX12_kinds (i := 31) rfl rfl) (by decide) ?_
                refine lv_goto (tgt := 59) hx hb (dkS dF_167 DX12_kinds (i := 32) rfl rfl rfl) (by decide) ?_
                refine lv_iadd hx hb (dkP dF_96 DX12_kinds (i := 34) rfl rfl) ?_
                refine lv_topi (fun v8 ev8 => ?_)
                refine lv_istore_n (lv' := [(1, .int v8), (4, .int (nI q4_17)), (3, .int q3_17), (2, .int (nI q2_4)), (0, .ref (ad 0))]) hx hb (dkP dF_60 DX12_kinds (i := 35) rfl rfl) rfl hl (by decide) rfl (fun ls hl => ?_)
                refine lv_iinc (v := nI (q2_4 + 1)) (lv' := [(2, .int (nI (q2_4 + 1))), (1, .int v8), (4, .int (nI q4_17)), (3, .int q3_17), (0, .ref (ad 0))]) hx hb (dkI DX12_kinds (i := 36) rfl rfl rfl rfl) hl (k := 3) rfl (nI_1 _) (by decide) rfl (fun ls hl => ?_)
                refine lv_goto (tgt := 4) hx hb (dkS dF_167 DX12_kinds (i := 37) rfl rfl rfl) (by decide) ?_
                exact ih1 (q2_4 + 1) v8 _ _ _ (by omega) (by (try simp only [lg_cmp_lt, lg_cmp_le, lg_cmp_gt, lg_cmp_ge, lg_cmp_eq] at c3); (try simp (disch := omega) only [ta_lt, ta_le, ta_eq, tb_lt, tb_le, tb_eq, tw, tnI, tsub1, tsv, tn32 1 (by decide), tnj 1 (by decide), tl32 0 (by decide), tl64 0 (by decide), tl32 1 (by decide), tl64 1 (by decide)] at c3); (try simp only [lg_cmp_lt, lg_cmp_le, lg_cmp_gt, lg_cmp_ge, lg_cmp_eq] at c5); (try simp (disch := omega) only [ta_lt, ta_le, ta_eq, tb_lt, tb_le, tb_eq, tw, tnI, tsub1, tsv, tn32 1 (by decide), tnj 1 (by decide), tl32 0 (by decide), tl64 0 (by decide), tl32 1 (by decide), tl64 1 (by decide)] at c5); (try simp only [lg_cmp_lt, lg_cmp_le, lg_cmp_gt, lg_cmp_ge, lg_cmp_eq] at c6); (try simp (disch := omega) only [ta_lt, ta_le, ta_eq, tb_lt, tb_le, tb_eq, tw, tnI, tsub1, tsv, tn32 1 (by decide), tnj 1 (by decide), tl32 0 (by decide), tl64 0 (by decide), tl32 1 (by decide), tl64 1 (by decide)] at c6); (try simp (disch := omega) only [ta_lt, ta_le, ta_eq, tb_lt, tb_le, tb_eq, tw, tnI, tsub1, tsv, tn32 1 (by decide), tnj 1 (by decide), tl32 0 (by decide), tl64 0 (by decide), tl32 1 (by decide), tl64 1 (by decide)]); omega) hw (lv_sub hl [0, 1, 4] rfl)
            · simp (disch := omega) only [ta_lt, ta_le, ta_eq, tnI] at c5
              refine lv_iload_n hx hb (dkP dF_29 DX12_kinds (i := 15) rfl rfl) rfl (lv_at hl 1 rfl) ?_
              refine lv_if_eq (tgt := 49) hx hb (dkS dF_153 DX12_kinds (i := 16) rfl rfl rfl) (by decide) (fun c9 => ?_) (fun c9 => ?_)
              · (try simp (disch := omega) only [ta_lt, ta_le, ta_eq, tnI, tl32 0 (by decide)] at c9)
                refine lv_iload_n hx hb (dkP dF_27 DX12_kinds (i := 28) rfl rfl) rfl (lv_at hl 3 rfl) ?_
                refine lv_iload_n hx hb (dkP dF_29 DX12_kinds (i := 29) rfl rfl) rfl (lv_at hl 1 rfl) ?_
                refine lv_if_eq (tgt := 58) hx hb (dkS dF_153 DX12_kinds (i := 30) rfl rfl rfl) (by decide) (fun c10 => ?_) (fun c10 => ?_)
                · (try simp (disch := omega) only [ta_lt, ta_le, ta_eq, tnI, tl32 0 (by decide)] at c10)
                  refine lv_iconst (v := 0) hx hb (dkP dF_3 DX12_kinds (i := 33) rfl rfl) (by decide) ?_
                  refine lv_iadd hx hb (dkP dF_96 DX12_kinds (i := 34) rfl rfl) ?_
                  refine lv_topi (fun v11 ev11 => ?_)
                  refine lv_istore_n (lv' := [(1, .int v11), (4, .int (nI q4_17)), (3, .int q3_17), (2, .int (nI q2_4)), (0, .ref (ad 0))]) hx hb (dkP dF_60 DX12_kinds (i := 35) rfl rfl) rfl hl (by decide) rfl (fun ls hl => ?_)
                  refine lv_iinc (v := nI (q2_4 + 1)) (lv' := [(2, .int (nI (q2_4 + 1))), (1, .int v11), (4, .int (nI q4_17)), (3, .int q3_17), (0, .ref (ad 0))]) hx hb (dkI DX12_kinds (i := 36) rfl rfl rfl rfl) hl (k := 3) rfl (nI_1 _) (by decide) rfl (fun ls hl => ?_)
                  refine lv_goto (tgt := 4) hx hb (dkS dF_167 DX12_kinds (i := 37) rfl rfl rfl) (by decide) ?_
                  exact ih1 (q2_4 + 1) v11 _ _ _ (by omega) (by (try simp only [lg_cmp_lt, lg_cmp_le, lg_cmp_gt, lg_cmp_ge, lg_cmp_eq] at c3); (try simp (disch := omega) only [ta_lt, ta_le, ta_eq, tb_lt, tb_le, tb_eq, tw, tnI, tsub1, tsv, tn32 1 (by decide), tnj 1 (by decide), tl32 0 (by decide), tl64 0 (by decide), tl32 1 (by decide), tl64 1 (by decide)] at c3); (try simp only [lg_cmp_lt, lg_cmp_le, lg_cmp_gt, lg_cmp_ge, lg_cmp_eq] at c5); (try simp (disch := omega) only [ta_lt, ta_le, ta_eq, tb_lt, tb_le, tb_eq, tw, tnI, tsub1, tsv, tn32 1 (by decide), tnj 1 (by decide), tl32 0 (by decide), tl64 0 (by decide), tl32 1 (by decide), tl64 1 (by decide)] at c5); (try simp only [lg_cmp_lt, lg_cmp_le, lg_cmp_gt, lg_cmp_ge, lg_cmp_eq] at c9); (try simp (disch := omega) only [ta_lt, ta_le, ta_eq, tb_lt, tb_le, tb_eq, tw, tnI, tsub1, tsv, tn32 1 (by decide), tnj 1 (by decide), tl32 0 (by decide), tl64 0 (by decide), tl32 1 (by decide), tl64 1 (by decide)] at c9); (try simp only [lg_cmp_lt, lg_cmp_le, lg_cmp_gt, lg_cmp_ge, lg_cmp_eq] at c10); (try simp (disch := omega) only [ta_lt, ta_le, ta_eq, tb_lt, tb_le, tb_eq, tw, tnI, tsub1, tsv, tn32 1 (by decide), tnj 1 (by decide), tl32 0 (by decide), tl64 0 (by decide), tl32 1 (by decide), tl64 1 (by decide)] at c10); (try simp (disch := omega) only [ta_lt, ta_le, ta_eq, tb_lt, tb_le, tb_eq, tw, tnI, tsub1, tsv, tn32 1 (by decide), tnj 1 (by decide), tl32 0 (by decide), tl64 0 (by decide), tl32 1 (by decide), tl64 1 (by decide)]); omega) hw (lv_sub hl [0, 1, 4] rfl)
                · (try simp (disch := omega) only [ta_lt, ta_le, ta_eq, tnI, tl32 0 (by decide)] at c10)
                  refine lv_iconst (v := 1) hx hb (dkP dF_4 DX12_kinds (i := 31) rfl rfl) (by decide) ?_
                  refine lv_goto (tgt := 59) hx hb (dkS dF_167 DX12_kinds (i := 32) rfl rfl rfl) (by decide) ?_
                  refine lv_iadd hx hb (dkP dF_96 DX12_kinds (i := 34) rfl rfl) ?_
                  refine lv_topi (fun v12 ev12 => ?_)
                  refine lv_istore_n (lv' := [(1, .int v12), (4, .int (nI q4_17)), (3, .int q3_17), (2, .int (nI q2_4)), (0, .ref (ad 0))]) hx hb (dkP dF_60 DX12_kinds (i := 35) rfl rfl) rfl hl (by decide) rfl (fun ls hl => ?_)
                  refine lv_iinc (v := nI (q2_4 + 1)) (lv' := [(2, .int (nI (q2_4 + 1))), (1, .int v12), (4, .int (nI q4_17)), (3, .int q3_17), (0, .ref (ad 0))]) hx hb (dkI DX12_kinds (i := 36) rfl rfl rfl rfl) hl (k := 3) rfl (nI_1 _) (by decide) rfl (fun ls hl => ?_)
                  refine lv_goto (tgt := 4) hx hb (dkS dF_167 DX12_kinds (i := 37) rfl rfl rfl) (by decide) ?_
                  exact ih1 (q2_4 + 1) v12 _ _ _ (by omega) (by (try simp only [lg_cmp_lt, lg_cmp_le, lg_cmp_gt, lg_cmp_ge, lg_cmp_eq] at c3); (try simp (disch := omega) only [ta_lt, ta_le, ta_eq, tb_lt, tb_le, tb_eq, tw, tnI, tsub1, tsv, tn32 1 (by decide), tnj 1 (by decide), tl32 0 (by decide), tl64 0 (by decide), tl32 1 (by decide), tl64 1 (by decide)] at c3); (try simp only [lg_cmp_lt, lg_cmp_le, lg_cmp_gt, lg_cmp_ge, lg_cmp_eq] at c5); (try simp (disch := omega) only [ta_lt, ta_le, ta_eq, tb_lt, tb_le, tb_eq, tw, tnI, tsub1, tsv, tn32 1 (by decide), tnj 1 (by decide), tl32 0 (by decide), tl64 0 (by decide), tl32 1 (by decide), tl64 1 (by decide)] at c5); (try simp only [lg_cmp_lt, lg_cmp_le, lg_cmp_gt, lg_cmp_ge, lg_cmp_eq] at c9); (try simp (disch := omega) only [ta_lt, ta_le, ta_eq, tb_lt, tb_le, tb_eq, tw, tnI, tsub1, tsv, tn32 1 (by decide), tnj 1 (by decide), tl32 0 (by decide), tl64 0 (by decide), tl32 1 (by decide), tl64 1 (by decide)] at c9); (try simp only [lg_cmp_lt, lg_cmp_le, lg_cmp_gt, lg_cmp_ge, lg_cmp_eq] at c10); (try simp (disch := omega) only [ta_lt, ta_le, ta_eq, tb_lt, tb_le, tb_eq, tw, tnI, tsub1, tsv, tn32 1 (by decide), tnj 1 (by decide), tl32 0 (by decide), tl64 0 (by decide), tl32 1 (by decide), tl64 1 (by decide)] at c10); (try simp (disch := omega) only [ta_lt, ta_le, ta_eq, tb_lt, tb_le, tb_eq, tw, tnI, tsub1, tsv, tn32 1 (by decide), tnj 1 (by decide), tl32 0 (by decide), tl64 0 (by decide), tl32 1 (by decide), tl64 1 (by decide)]); omega) hw (lv_sub hl [0, 1, 4] rfl)
              · (try simp (disch := omega) only [ta_lt, ta_le, ta_eq, tnI, tl32 0 (by decide)] at c9)
                refine lv_aload_n hx hb (dkP dF_42 DX12_kinds (i := 17) rfl rfl) rfl (lv_at hl 4 rfl) ?_
                refine lv_iload hx hb (dk1 dF_21 DX12_kinds (i := 18) rfl rfl rfl) (lv_at hl 0 rfl) ?_
                refine lv_iload_n hx hb (dkP dF_28 DX12_kinds (i := 19) rfl rfl) rfl (lv_at hl 2 rfl) ?_
                refine zk_I hw (zr_V (As := [.int (nI q4_17), .int (nI q2_4)]) (rest := []) C0 (c_X12_areAlike l G kc ad σ q4_17 q2_4 (by first | omega | assumption | decide | rfl) (by first | omega | assumption | decide | rfl) hT _) cv_X12_areAlike lk_X12_414 (zp_V C0 hRo hw 0 rfl rfl rfl) rfl hl.1 rfl ⟨by decide, by decide⟩ (Nat.le_of_ble_eq_true rfl) (dk2 dF_182 DX12_kinds (i := 20) rfl rfl rfl) ⟨Nat.le_refl _, Nat.le_refl _⟩) (fun r13 s13 H locs hp hw => ?_)
                obtain ⟨f13_0, hs13⟩ := hp
                (rw [hs13] at hw)
                rcases f13_0 with ⟨rfl, hc13⟩ | ⟨rfl, hc13⟩
                · skip
                  refine lv_if_ne (tgt := 41) hx hb (dkS dF_154 DX12_kinds (i := 21) rfl rfl rfl) (by decide) (fun _ => ?_) (fun h => absurd h (by decide))
                  refine lv_iconst (v := 0) hx hb (dkP dF_3 DX12_kinds (i := 24) rfl rfl) (by decide) ?_
                  refine lv_istore_n (lv' := [(3, .int 0), (4, .int (nI q4_17)), (2, .int (nI q2_4)), (1, .int q1_4), (0, .ref (ad 0))]) hx hb (dkP dF_62 DX12_kinds (i := 25) rfl rfl) rfl hl (by decide) rfl (fun ls hl => ?_)
                  refine lv_iinc (v := nI (q4_17 + 1)) (lv' := [(4, .int (nI (q4_17 + 1))), (3, .int 0), (2, .int (nI q2_4)), (1, .int q1_4), (0, .ref (ad 0))]) hx hb (dkI DX12_kinds (i := 26) rfl rfl rfl rfl) hl (k := 1) rfl (nI_1 _) (by decide) rfl (fun ls hl => ?_)
                  refine lv_goto (tgt := 17) hx hb (dkS dF_167 DX12_kinds (i := 27) rfl rfl rfl) (by decide) ?_
                  exact ih4 (q4_17 + 1) 0 _ _ _ (by omega) (by (try simp only [lg_cmp_lt, lg_cmp_le, lg_cmp_gt, lg_cmp_ge, lg_cmp_eq] at c3); (try simp (disch := omega) only [ta_lt, ta_le, ta_eq, tb_lt, tb_le, tb_eq, tw, tnI, tsub1, tsv, tn32 1 (by decide), tnj 1 (by decide), tl32 0 (by decide), tl64 0 (by decide), tl32 1 (by decide), tl64 1 (by decide)] at c3); (try simp only [lg_cmp_lt, lg_cmp_le, lg_cmp_gt, lg_cmp_ge, lg_cmp_eq] at c5); (try simp (disch := omega) only [ta_lt, ta_le, ta_eq, tb_lt, tb_le, tb_eq, tw, tnI, tsub1, tsv, tn32 1 (by decide), tnj 1 (by decide), tl32 0 (by decide), tl64 0 (by decide), tl32 1 (by decide), tl64 1 (by decide)] at c5); (try simp only [lg_cmp_lt, lg_cmp_le, lg_cmp_gt, lg_cmp_ge, lg_cmp_eq] at c9); (try simp (disch := omega) only [ta_lt, ta_le, ta_eq, tb_lt, tb_le, tb_eq, tw, tnI, tsub1, tsv, tn32 1 (by decide), tnj 1 (by decide), tl32 0 (by decide), tl64 0 (by decide), tl32 1 (by decide), tl64 1 (by decide)] at c9); (try simp only [lg_cmp_lt, lg_cmp_le, lg_cmp_gt, lg_cmp_ge, lg_cmp_eq] at f13_0); (try simp (disch := omega) only [ta_lt, ta_le, ta_eq, tb_lt, tb_le, tb_eq, tw, tnI, tsub1, tsv, tn32 1 (by decide), tnj 1 (by decide), tl32 0 (by decide), tl64 0 (by decide), tl32 1 (by decide), tl64 1 (by decide)] at f13_0); (try simp only [lg_cmp_lt, lg_cmp_le, lg_cmp_gt, lg_cmp_ge, lg_cmp_eq] at hc13); (try simp (disch := omega) only [ta_lt, ta_le, ta_eq, tb_lt, tb_le, tb_eq, tw, tnI, tsub1, tsv, tn32 1 (by decide), tnj 1 (by decide), tl32 0 (by decide), tl64 0 (by decide), tl32 1 (by decide), tl64 1 (by decide)] at hc13); (try simp (disch := omega) only [ta_lt, ta_le, ta_eq, tb_lt, tb_le, tb_eq, tw, tnI, tsub1, tsv, tn32 1 (by decide), tnj 1 (by decide), tl32 0 (by decide), tl64 0 (by decide), tl32 1 (by decide), tl64 1 (by decide)]); omega) hw (lv_sub hl [0, 1, 2, 3, 4] rfl)
                · skip
                  refine lv_if_ne (tgt := 41) hx hb (dkS dF_154 DX12_kinds (i := 21) rfl rfl rfl) (by decide) (fun h => absurd h (by decide)) (fun _ => ?_)
                  refine lv_iconst (v := 1) hx hb (dkP dF_4 DX12_kinds (i := 22) rfl rfl) (by decide) ?_
                  refine lv_goto (tgt := 42) hx hb (dkS dF_167 DX12_kinds (i := 23) rfl rfl rfl) (by decide) ?_
                  refine lv_istore_n (lv' := [(3, .int 1), (4, .int (nI q4_17)), (2, .int (nI q2_4)), (1, .int q1_4), (0, .ref (ad 0))]) hx hb (dkP dF_62 DX12_kinds (i := 25) rfl rfl) rfl hl (by decide) rfl (fun ls hl => ?_)
                  refine lv_iinc (v := nI (q4_17 + 1)) (lv' := [(4, .int (nI (q4_17 + 1))), (3, .int 1), (2, .int (nI q2_4)), (1, .int q1_4), (0, .ref (ad 0))]) hx hb (dkI DX12_kinds (i := 26) rfl rfl rfl rfl) hl (k := 1) rfl (nI_1 _) (by decide) rfl (fun ls hl => ?_)
                  refine lv_goto (tgt := 17) hx hb (dkS dF_167 DX12_kinds (i := 27) rfl rfl rfl) (by decide) ?_
                  exact ih4 (q4_17 + 1) 1 _ _ _ (by omega) (by (try simp only [lg_cmp_lt, lg_cmp_le, lg_cmp_gt, lg_cmp_ge, lg_cmp_eq] at c3); (try simp (disch := omega) only [ta_lt, ta_le, ta_eq, tb_lt, tb_le, tb_eq, tw, tnI, tsub1, tsv, tn32 1 (by decide), tnj 1 (by decide), tl32 0 (by decide), tl64 0 (by decide), tl32 1 (by decide), tl64 1 (by decide)] at c3); (try simp only [lg_cmp_lt, lg_cmp_le, lg_cmp_gt, lg_cmp_ge, lg_cmp_eq] at c5); (try simp (disch := omega) only [ta_lt, ta_le, ta_eq, tb_lt, tb_le, tb_eq, tw, tnI, tsub1, tsv, tn32 1 (by decide), tnj 1 (by decide), tl32 0 (by decide), tl64 0 (by decide), tl32 1 (by decide), tl64 1 (by decide)] at c5); (try simp only [lg_cmp_lt, lg_cmp_le, lg_cmp_gt, lg_cmp_ge, lg_cmp_eq] at c9); (try simp (disch := omega) only [ta_lt, ta_le, ta_eq, tb_lt, tb_le, tb_eq, tw, tnI, tsub1, tsv, tn32 1 (by decide), tnj 1 (by decide), tl32 0 (by decide), tl64 0 (by decide), tl32 1 (by decide), tl64 1 (by decide)] at c9); (try simp only [lg_cmp_lt, lg_cmp_le, lg_cmp_gt, lg_cmp_ge, lg_cmp_eq] at f13_0); (try simp (disch := omega) only [ta_lt, ta_le, ta_eq, tb_lt, tb_le, tb_eq, tw, tnI, tsub1, tsv, tn32 1 (by decide), tnj 1 (by decide), tl32 0 (by decide), tl64 0 (by decide), tl32 1 (by decide), tl64 1 (by decide)] at f13_0); (try simp only [lg_cmp_lt, lg_cmp_le, lg_cmp_gt, lg_cmp_ge, lg_cmp_eq] at hc13); (try simp (disch := omega) only [ta_lt, ta_le, ta_eq, tb_lt, tb_le, tb_eq, tw, tnI, tsub1, tsv, tn32 1 (by decide), tnj 1 (by decide), tl32 0 (by decide), tl64 0 (by decide), tl32 1 (by decide), tl64 1 (by decide)] at hc13); (try simp (disch := omega) only [ta_lt, ta_le, ta_eq, tb_lt, tb_le, tb_eq, tw, tnI, tsub1, tsv, tn32 1 (by decide), tnj 1 (by decide), tl32 0 (by decide), tl64 0 (by decide), tl32 1 (by decide), tl64 1 (by decide)]); omega) hw (lv_sub hl [0, 1, 2, 3, 4] rfl)
        exact lp4 _ 0 1 _ _ _ (Nat.lt_succ_self _) (by (try simp only [lg_cmp_lt, lg_cmp_le, lg_cmp_gt, lg_cmp_ge, lg_cmp_eq] at c3); (try simp (disch := omega) only [ta_lt, ta_le, ta_eq, tb_lt, tb_le, tb_eq, tw, tnI, tsub1, tsv, tn32 1 (by decide), tnj 1 (by decide), tl32 0 (by decide), tl64 0 (by decide), tl32 1 (by decide), tl64 1 (by decide)] at c3); (try simp (disch := omega) only [ta_lt, ta_le, ta_eq, tb_lt, tb_le, tb_eq, tw, tnI, tsub1, tsv, tn32 1 (by decide), tnj 1 (by decide), tl32 0 (by decide), tl64 0 (by decide), tl32 1 (by decide), tl64 1 (by decide)]); omega) hw (lv_sub hl [0, 1, 2, 3, 4] rfl)
  exact lp1 _ 0 0 _ _ _ (Nat.lt_succ_self _) (by (try simp (disch := omega) only [ta_lt, ta_le, ta_eq, tb_lt, tb_le, tb_eq, tw, tnI, tsub1, tsv, tn32 1 (by decide), tnj 1 (by decide), tl32 0 (by decide), tl64 0 (by decide), tl32 1 (by decide), tl64 1 (by decide)]); omega) hw (lv_sub hl [0, 1, 2] rfl)
set_option maxRecDepth 100000 in
set_option maxHeartbeats 8000000 in
theorem c_X12_held (l : Launch) (G : va_G) (kc : KC) (ad : Nat → Nat) (σ : Sg) (pg : Nat) (wy : Nat) (ia : Nat) (hia : ia < 100) (hT : TM σ) : MI l G kc yX12_held cX12_held 4 (some .boolean) 0 0 [.ref (ad 0), .int (nI pg), .int (nI wy), .int (nI ia)] shM ad σ (fun r σ1 => ((r = 1 ∧ (True)) ∨ (r = 0 ∧ (True))) ∧ σ1 = σ) := by
  intro sz
  refine z_body (y := yX12_held) (n := 4) (av := [.ref (ad 0), .int (nI pg), .int (nI wy), .int (nI ia)]) (Qc := fun A => va_Qi (fun r σ1 => ((r = 1 ∧ (True)) ∨ (r = 0 ∧ (True))) ∧ σ1 = σ) (PoC G kc shM ad A) A) (plainFor_of_name (by decide)) (Nat.le_of_ble_eq_true rfl) (fun pr e s m below meth c A C0 hr hlk hnm hw hRo ls hl => ?_) sz
  have hx := C0.1
  have hb := C0.2.1
  have hown := C0.2.2.2.1
  have hts := C0.2.2.2.2.1
  have hl : lv_has ls 4 [(0, .ref (ad 0)), (1, .int (nI pg)), (2, .int (nI wy)), (3, .int (nI ia))] := hl
  refine lv_aload_n hx hb (dkP dF_42 DX12_held (i := 0) rfl rfl) rfl (lv_at hl 0 rfl) ?_
  refine z_gr C0 hw 0 46 30 rfl fl_X12_117 (dk2 dF_180 DX12_held (i := 1) rfl rfl rfl) ?_
  refine lv_iload_n hx hb (dkP dF_29 DX12_held (i := 2) rfl rfl) rfl (lv_at hl 3 rfl) ?_
  refine z_zaldN (n := 100) C0 hw 30 ia rfl (by omega) (by decide) (dkP dF_51 DX12_held (i := 3) rfl rfl) ?_
  obtain ⟨n1, hn1, en1⟩ := rngN (x := σ.1 30 ia) (h := 1) (show 0 ≤ _ ∧ _ ≤ 1 from hT 30 _)
  refine z_top (y := nI n1) en1 ?_
  exact z_zret C0 hr hlk (nI01 (by omega)) hw (⟨(nI01b (by omega)), rfl⟩) (dkP dF_172 DX12_held (i := 4) rfl rfl)
set_option maxRecDepth 100000 in
set_option maxHeartbeats 8000000 in
theorem c_X12_holdsAll (l : Launch) (G : va_G) (kc : KC) (ad : Nat → Nat) (σ : Sg) (pg : Nat) (wy : Nat) (hp8 : pg < 8) (hwy : wy < 200) (hT : TM σ) : MV l G kc yX12_holdsAll cX12_holdsAll 5 4 89 [.ref (ad 0), .int (nI pg), .int (nI wy)] shM ad σ (fun σ1 => TM σ1 ∧ fr [11, 12, 30] [] σ σ1) := by
  intro sz
  refine z_body (y := yX12_holdsAll) (n := 5) (av := [.ref (ad 0), .int (nI pg), .int (nI wy)]) (Qc := fun A => va_Qv (fun σ1 => TM σ1 ∧ fr [11, 12, 30] [] σ σ1) (PoC G kc shM ad A) A) (plainFor_of_name (by decide)) (Nat.le_of_ble_eq_true rfl) (fun pr e s m below meth c A C0 hr hlk hnm hw hRo ls hl => ?_) sz
  have hx := C0.1
  have hb := C0.2.1
  have hown := C0.2.2.2.1
  have hts := C0.2.2.2.2.1
  have hl : lv_has ls 5 [(0, .ref (ad 0)), (1, .int (nI pg)), (2, .int (nI wy))] := hl
  refine lv_aload_n hx hb (dkP dF_42 DX12_holdsAll (i := 0) rfl rfl) rfl (lv_at hl 0 rfl) ?_
  refine lv_iload_n hx hb (dkP dF_27 DX12_holdsAll (i := 1) rfl rfl) rfl (lv_at hl 1 rfl) ?_
  refine lv_aload_n hx hb (dkP dF_42 DX12_holdsAll (i := 2) rfl rfl) rfl (lv_at hl 0 rfl) ?_
  refine z_gr C0 hw 0 32 20 rfl fl_X12_87 (dk2 dF_180 DX12_holdsAll (i := 3) rfl rfl rfl) ?_
  refine lv_iload_n hx hb (dkP dF_28 DX12_holdsAll (i := 4) rfl rfl) rfl (lv_at hl 2 rfl) ?_
  refine z_ialdN (n := 201) C0 hw 20 wy rfl (by omega) (by decide) (dkP dF_46 DX12_holdsAll (i := 5) rfl rfl) ?_
  obtain ⟨v1, ev1⟩ : ∃ y : Int32, σ.1 20 wy = y := ⟨_, rfl⟩
  refine z_top (y := v1) ev1 ?_
  refine zk_V hw (zr_V (As := [.int (nI pg), .int v1]) (rest := []) C0 (c_X12_beginsWith l G kc ad σ pg v1 (by first | omega | assumption | decide | rfl) hT _) cv_X12_beginsWith lk_X12_372 (zp_V C0 hRo hw 0 rfl rfl rfl) rfl hl.1 rfl ⟨by decide, by decide⟩ (Nat.le_of_ble_eq_true rfl) (dk2 dF_182 DX12_holdsAll (i := 6) rfl rfl rfl) ⟨Nat.le_refl _, Nat.le_refl _⟩) (fun s2 H locs hp hw => ?_)
  obtain ⟨hT2, hG2⟩ := hp
  have hF2 : fr [11, 12, 30] [] σ s2 := fr.t fr.refl hG2 (by decide) (by decide)
  refine lv_iconst (v := 0) hx hb (dkP dF_3 DX12_holdsAll (i := 7) rfl rfl) (by decide) ?_
  refine lv_istore_n (lv' := [(3, .int 0), (0, .ref (ad 0)), (1, .int (nI pg)), (2, .int (nI wy))]) hx hb (dkP dF_62 DX12_holdsAll (i := 8) rfl rfl) rfl hl (by decide) rfl (fun ls hl => ?_)
  have lp4 : ∀ (nq : Nat) (q3_13 : Nat) (τ3 : Sg) (H : Heap) (locs : List Loc) (ls : Array Slot), 8 - q3_13 < nq → (q3_13 ≤ 8) → (TM τ3) → (fr [11, 12, 30] [] σ τ3) → St G kc A s.heap shM ad τ3 H locs → lv_has ls 5 [(3, .int (nI q3_13)), (0, .ref (ad 0)), (1, .int (nI pg)), (2, .int (nI wy))] → W pr l e { frames := 4, cells := 0, slots := 0, locals := 89 } s m ([.ref (ad 0), .int (nI pg), .int (nI wy)] : List Value).toArray below meth c H locs 0 0 (MQ below (va_Qv (fun σ1 => TM σ1 ∧ fr [11, 12, 30] [] σ σ1) (PoC G kc shM ad A) A) ([.ref (ad 0), .int (nI pg), .int (nI wy)] : List Value).toArray s 0 0 A) (F0 m 13 ls []) := by
    intro nq
    induction nq with
    | zero => intro q3_13 τ3 H locs ls hmu; exact absurd hmu (Nat.not_lt_zero _)
    | succ nq ih4 =>
      intro q3_13 τ3 H locs ls hmu hq3_13 hT_τ3 hF_τ3 hw hl
      refine lv_iload_n hx hb (dkP dF_29 DX12_holdsAll (i := 9) rfl rfl) rfl (lv_at hl 0 rfl) ?_
      refine lv_bipush (v := 8) hx hb (dks dF_16 DX12_holdsAll (i := 10) rfl rfl rfl) (by decide) ?_
      refine lv_icmp_ge (tgt := 37) hx hb (dkS dF_162 DX12_holdsAll (i := 11) rfl rfl rfl) (by decide) (fun c5 => ?_) (fun c5 => ?_)
      · simp (disch := omega) only [ta_lt, ta_le, ta_eq, tnI, tl32 8 (by decide)] at c5
        refine lv_iconst (v := 0) hx hb (dkP dF_3 DX12_holdsAll (i := 22) rfl rfl) (by decide) ?_
        refine lv_istore_n (lv' := [(3, .int 0), (0, .ref (ad 0)), (1, .int (nI pg)), (2, .int (nI wy))]) hx hb (dkP dF_62 DX12_holdsAll (i := 23) rfl rfl) rfl hl (by decide) rfl (fun ls hl => ?_)
        have lp7 : ∀ (nq : Nat) (q3_39 : Nat) (τ6 : Sg) (H : Heap) (locs : List Loc) (ls : Array Slot), 2147483647 - q3_39 < nq → (q3_39 ≤ 2147483647) → (TM τ6) → (fr [11, 12, 30] [] σ τ6) → St G kc A s.heap shM ad τ6 H locs → lv_has ls 5 [(3, .int (nI q3_39)), (0, .ref (ad 0)), (1, .int (nI pg)), (2, .int (nI wy))] → W pr l e { frames := 4, cells := 0, slots := 0, locals := 89 } s m ([.ref (ad 0), .int (nI pg), .int (nI wy)] : List Value).toArray below meth c H locs 0 0 (MQ below (va_Qv (fun σ1 => TM σ1 ∧ fr [11, 12, 30] [] σ σ1) (PoC G kc shM ad A) A) ([.ref (ad 0), .int (nI pg), .int (nI wy)] : List Value).toArray s 0 0 A) (F0 m 39 ls []) := by
          intro nq
          induction nq with
          | zero => intro q3_39 τ6 H locs ls hmu; exact absurd hmu (Nat.not_lt_zero _)
          | succ nq ih7 =>
            intro q3_39 τ6 H locs ls hmu hq3_39 hT_τ6 hF_τ6 hw hl
            refine lv_iload_n hx hb (dkP dF_29 DX12_holdsAll (i := 24) rfl rfl) rfl (lv_at hl 0 rfl) ?_
            refine lv_aload_n hx hb (dkP dF_42 DX12_holdsAll (i := 25) rfl rfl) rfl (lv_at hl 1 rfl) ?_
            refine z_gr C0 hw 0 29 17 rfl fl_X12_78 (dk2 dF_180 DX12_holdsAll (i := 26) rfl rfl rfl) ?_
            refine lv_iload_n hx hb (dkP dF_28 DX12_holdsAll (i := 27) rfl rfl) rfl (lv_at hl 3 rfl) ?_
            refine z_ialdN (n := 201) C0 hw 17 wy rfl (by omega) (by decide) (dkP dF_46 DX12_holdsAll (i := 28) rfl rfl) ?_
            obtain ⟨n8, hn8, en8⟩ := rngN (x := τ6.1 17 wy) (h := 100) (show 0 ≤ _ ∧ _ ≤ 100 from hT_τ6 17 _)
            refine z_top (y := nI n8) en8 ?_
            refine lv_icmp_ge (tgt := 177) hx hb (dkS dF_162 DX12_holdsAll (i := 29) rfl rfl rfl) (by decide) (fun c9 => ?_) (fun c9 => ?_)
            · simp (disch := omega) only [ta_lt, ta_le, ta_eq, tnI] at c9
              exact z_vret C0 hr hlk hw (⟨hT_τ6, hF_τ6⟩) (dkP dF_177 DX12_holdsAll (i := 106) rfl rfl)
            · simp (disch := omega) only [ta_lt, ta_le, ta_eq, tnI] at c9
              refine lv_iload_n hx hb (dkP dF_27 DX12_holdsAll (i := 30) rfl rfl) rfl (lv_at hl 2 rfl) ?_
              refine lv_aload_n hx hb (dkP dF_42 DX12_holdsAll (i := 31) rfl rfl) rfl (lv_at hl 1 rfl) ?_
              refine z_gr C0 hw 0 30 18 rfl fl_X12_81 (dk2 dF_180 DX12_holdsAll (i := 32) rfl rfl rfl) ?_
              refine lv_bipush (v := 100) hx hb (dks dF_16 DX12_holdsAll (i := 33) rfl rfl rfl) (by decide) ?_
              refine lv_iload_n hx hb (dkP dF_28 DX12_holdsAll (i := 34) rfl rfl) rfl (lv_at hl 3 rfl) ?_
              refine lv_imul hx hb (dkP dF_104 DX12_holdsAll (i := 35) rfl rfl) ?_
              refine z_top (y := nI (100 * wy)) (by simp only [fa_lit, nI_add, pk_mul]) ?_
              refine lv_iload_n hx hb (dkP dF_29 DX12_holdsAll (i := 36) rfl rfl) rfl (lv_at hl 0 rfl) ?_
              refine lv_iadd hx hb (dkP dF_96 DX12_holdsAll (i := 37) rfl rfl) ?_
              refine z_top (y := nI ((100 * wy) + q3_39)) (by simp only [fa_lit, nI_add, pk_mul]) ?_
              refine z_ialdN (n := 20100) C0 hw 18 ((100 * wy) + q3_39) rfl (by omega) (by decide) (dkP dF_46 DX12_holdsAll (i := 38) rfl rfl) ?_
              obtain ⟨n10, hn10, en10⟩ := rngN (x := τ6.1 18 ((100 * wy) + q3_39)) (h := 23) (show 0 ≤ _ ∧ _ ≤ 23 from hT_τ6 18 _)
              refine z_top (y := nI n10) en10 ?_
              refine zn_I hw (zr_S (As := [.int (nI pg), .int (nI n10)]) (rest := []) C0 (c_X12_lineAt l G kc pg n10  _) cs_X12_lineAt lk_X12_284 (zp_P C0 hRo hw a00 s00) rfl hl.1 rfl ⟨by decide, by decide⟩ (Nat.le_of_ble_eq_true rfl) (dk2 dF_184 DX12_holdsAll (i := 39) rfl rfl rfl) ⟨Nat.le_refl _, Nat.le_refl _⟩) (fun r11 s11 H locs hp hw => ?_)
              subst hp
              refine lv_istore (lv' := [(4, .int (nI (168 + 16 * (24 * pg + n10)))), (3, .int (nI q3_39)), (0, .ref (ad 0)), (1, .int (nI pg)), (2, .int (nI wy))]) hx hb (dk1 dF_54 DX12_holdsAll (i := 40) rfl rfl rfl) hl (by decide) rfl (fun ls hl => ?_)
              refine lv_aload_n hx hb (dkP dF_42 DX12_holdsAll (i := 41) rfl rfl) rfl (lv_at hl 2 rfl) ?_
              refine z_gr C0 hw 0 46 30 rfl fl_X12_117 (dk2 dF_180 DX12_holdsAll (i := 42) rfl rfl rfl) ?_
              refine lv_iload_n hx hb (dkP dF_29 DX12_holdsAll (i := 43) rfl rfl) rfl (lv_at hl 1 rfl) ?_
              refine lv_aload_n hx hb (dkP dF_42 DX12_holdsAll (i := 44) rfl rfl) rfl (lv_at hl 2 rfl) ?_
              refine z_gr C0 hw 0 1 1 rfl fl_X12_20 (dk2 dF_180 DX12_holdsAll (i := 45) rfl rfl rfl) ?_
              refine lv_iload hx hb (dk1 dF_21 DX12_holdsAll (i := 46) rfl rfl rfl) (lv_at hl 0 rfl) ?_
              refine lv_iconst (v := 1) hx hb (dkP dF_4 DX12_holdsAll (i := 47) rfl rfl) (by decide) ?_
              refine lv_iadd hx hb (dkP dF_96 DX12_holdsAll (i := 48) rfl rfl) ?_
              refine z_top (y := nI ((168 + 16 * (24 * pg + n10)) + 1)) (by simp only [fa_lit, nI_add, pk_mul]) ?_
              refine z_ialdN (n := 414128) C0 hw 1 ((168 + 16 * (24 * pg + n10)) + 1) rfl (by omega) (by decide) (dkP dF_46 DX12_holdsAll (i := 49) rfl rfl) ?_
              obtain ⟨v12, ev12⟩ : ∃ y : Int32, τ6.1 1 ((168 + 16 * (24 * pg + n10)) + 1) = y := ⟨_, rfl⟩
              refine z_top (y := v12) ev12 ?_
              refine lv_iconst (v := 1) hx hb (dkP dF_4 DX12_holdsAll (i := 50) rfl rfl) (by decide) ?_
              refine lv_icmp_ne (tgt := 126) hx hb (dkS dF_160 DX12_holdsAll (i := 51) rfl rfl rfl) (by decide) (fun c13 => ?_) (fun c13 => ?_)
              · (try simp (disch := omega) only [ta_lt, ta_le, ta_eq, tnI, tl32 1 (by decide)] at c13)
                refine lv_iconst (v := 0) hx hb (dkP dF_3 DX12_holdsAll (i := 77) rfl rfl) (by decide) ?_
                refine z_zastN (n := 100) C0 hw 30 q3_39 rfl (by decide) (by omega) (by decide) (dkP dF_84 DX12_holdsAll (i := 78) rfl rfl) (fun H locs hw => ?_)
                have hT14 : TM (sI τ6 30 q3_39 0) := TM.w hT_τ6 (show 0 ≤ _ ∧ _ ≤ 1 from by (try simp only [lg_cmp_lt, lg_cmp_le, lg_cmp_gt, lg_cmp_ge, lg_cmp_eq] at c5); (try simp (disch := omega) only [ta_lt, ta_le, ta_eq, tb_lt, tb_le, tb_eq, tw, tnI, tsub1, tsv, tn32 1 (by decide), tnj 1 (by decide), tl32 0 (by decide), tl64 0 (by decide), tl32 1 (by decide), tl64 1 (by decide), tl32 8 (by decide), tl64 8 (by decide), tl32 100 (by decide), tl64 100 (by decide)] at c5); (try simp only [lg_cmp_lt, lg_cmp_le, lg_cmp_gt, lg_cmp_ge, lg_cmp_eq] at c9); (try simp (disch := omega) only [ta_lt, ta_le, ta_eq, tb_lt, tb_le, tb_eq, tw, tnI, tsub1, tsv, tn32 1 (by decide), tnj 1 (by decide), tl32 0 (by decide), tl64 0 (by decide), tl32 1 (by decide), tl64 1 (by decide), tl32 8 (by decide), tl64 8 (by decide), tl32 100 (by decide), tl64 100 (by decide)] at c9); (try simp only [lg_cmp_lt, lg_cmp_le, lg_cmp_gt, lg_cmp_ge, lg_cmp_eq] at c13); (try simp (disch := omega) only [ta_lt, ta_le, ta_eq, tb_lt, tb_le, tb_eq, tw, tnI, tsub1, tsv, tn32 1 (by decide), tnj 1 (by decide), tl32 0 (by decide), tl64 0 (by decide), tl32 1 (by decide), tl64 1 (by decide), tl32 8 (by decide), tl64 8 (by decide), tl32 100 (by decide), tl64 100 (by decide)] at c13); (try simp (disch := omega) only [ta_lt, ta_le, ta_eq, tb_lt, tb_le, tb_eq, tw, tnI, tsub1, tsv, tn32 1 (by decide), tnj 1 (by decide), tl32 0 (by decide), tl64 0 (by decide), tl32 1 (by decide), tl64 1 (by decide), tl32 8 (by decide), tl64 8 (by decide), tl32 100 (by decide), tl64 100 (by decide)]); omega)
                have hF14 : fr [11, 12, 30] [] σ (sI τ6 30 q3_39 0) := fr.w hF_τ6 (Or.inl ⟨by decide, by decide⟩)
                refine lv_aload_n hx hb (dkP dF_42 DX12_holdsAll (i := 79) rfl rfl) rfl (lv_at hl 2 rfl) ?_
                refine z_gr C0 hw 0 1 1 rfl fl_X12_20 (dk2 dF_180 DX12_holdsAll (i := 80) rfl rfl rfl) ?_
                refine lv_iload hx hb (dk1 dF_21 DX12_holdsAll (i := 81) rfl rfl rfl) (lv_at hl 0 rfl) ?_
                refine lv_iconst (v := 1) hx hb (dkP dF_4 DX12_holdsAll (i := 82) rfl rfl) (by decide) ?_
                refine lv_iadd hx hb (dkP dF_96 DX12_holdsAll (i := 83) rfl rfl) ?_
                refine z_top (y := nI ((168 + 16 * (24 * pg + n10)) + 1)) (by simp only [fa_lit, nI_add, pk_mul]) ?_
                refine z_ialdN (n := 414128) C0 hw 1 ((168 + 16 * (24 * pg + n10)) + 1) rfl (by omega) (by decide) (dkP dF_46 DX12_holdsAll (i := 84) rfl rfl) ?_
                refine z_top (y := v12) ((rd_n (by omega)).trans ev12) ?_
                refine lv_if_ne (tgt := 171) hx hb (dkS dF_154 DX12_holdsAll (i := 85) rfl rfl rfl) (by decide) (fun c15 => ?_) (fun c15 => ?_)
                · (try simp (disch := omega) only [ta_lt, ta_le, ta_eq, tnI, tl32 0 (by decide)] at c15)
                  refine lv_iinc (v := nI (q3_39 + 1)) (lv' := [(3, .int (nI (q3_39 + 1))), (4, .int (nI (168 + 16 * (24 * pg + n10)))), (0, .ref (ad 0)), (1, .int (nI pg)), (2, .int (nI wy))]) hx hb (dkI DX12_holdsAll (i := 104) rfl rfl rfl rfl) hl (k := 1) rfl (nI_1 _) (by decide) rfl (fun ls hl => ?_)
                  refine lv_goto (tgt := 39) hx hb (dkS dF_167 DX12_holdsAll (i := 105) rfl rfl rfl) (by decide) ?_
                  exact ih7 (q3_39 + 1) (sI τ6 30 q3_39 0) _ _ _ (by omega) (by (try simp only [lg_cmp_lt, lg_cmp_le, lg_cmp_gt, lg_cmp_ge, lg_cmp_eq] at c5); (try simp (disch := omega) only [ta_lt, ta_le, ta_eq, tb_lt, tb_le, tb_eq, tw, tnI, tsub1, tsv, tn32 1 (by decide), tnj 1 (by decide), tl32 0 (by decide), tl64 0 (by decide), tl32 1 (by decide), tl64 1 (by decide), tl32 8 (by decide), tl64 8 (by decide), tl32 100 (by decide), tl64 100 (by decide)] at c5); (try simp only [lg_cmp_lt, lg_cmp_le, lg_cmp_gt, lg_cmp_ge, lg_cmp_eq] at c9); (try simp (disch := omega) only [ta_lt, ta_le, ta_eq, tb_lt, tb_le, tb_eq, tw, tnI, tsub1, tsv, tn32 1 (by decide), tnj 1 (by decide), tl32 0 (by decide), tl64 0 (by decide), tl32 1 (by decide), tl64 1 (by decide), tl32 8 (by decide), tl64 8 (by decide), tl32 100 (by decide), tl64 100 (by decide)] at c9); (try simp only [lg_cmp_lt, lg_cmp_le, lg_cmp_gt, lg_cmp_ge, lg_cmp_eq] at c13); (try simp (disch := omega) only [ta_lt, ta_le, ta_eq, tb_lt, tb_le, tb_eq, tw, tnI, tsub1, tsv, tn32 1 (by decide), tnj 1 (by decide), tl32 0 (by decide), tl64 0 (by decide), tl32 1 (by decide), tl64 1 (by decide), tl32 8 (by decide), tl64 8 (by decide), tl32 100 (by decide), tl64 100 (by decide)] at c13); (try simp only [lg_cmp_lt, lg_cmp_le, lg_cmp_gt, lg_cmp_ge, lg_cmp_eq] at c15); (try simp (disch := omega) only [ta_lt, ta_le, ta_eq, tb_lt, tb_le, tb_eq, tw, tnI, tsub1, tsv, tn32 1 (by decide), tnj 1 (by decide), tl32 0 (by decide), tl64 0 (by decide), tl32 1 (by decide), tl64 1 (by decide), tl32 8 (by decide), tl64 8 (by decide), tl32 100 (by decide), tl64 100 (by decide)] at c15); (try simp (disch := omega) only [ta_lt, ta_le, ta_eq, tb_lt, tb_le, tb_eq, tw, tnI, tsub1, tsv, tn32 1 (by decide), tnj 1 (by decide), tl32 0 (by decide), tl64 0 (by decide), tl32 1 (by decide), tl64 1 (by decide), tl32 8 (by decide), tl64 8 (by decide), tl32 100 (by decide), tl64 100 (by decide)]); omega) hT14 hF14 hw (lv_sub hl [0, 2, 3, 4] rfl)
                · (try simp (disch := omega) only [ta_lt, ta_le, ta_eq, tnI, tl32 0 (by decide)] at c15)
                  refine lv_aload_n hx hb (dkP dF_42 DX12_holdsAll (i := 86) rfl rfl) rfl (lv_at hl 2 rfl) ?_
                  refine z_gr C0 hw 0 21 12 rfl fl_X12_60 (dk2 dF_180 DX12_holdsAll (i := 87) rfl rfl rfl) ?_
                  refine lv_aload_n hx hb (dkP dF_42 DX12_holdsAll (i := 88) rfl rfl) rfl (lv_at hl 2 rfl) ?_
                  refine z_gr C0 hw 0 1 1 rfl fl_X12_20 (dk2 dF_180 DX12_holdsAll (i := 89) rfl rfl rfl) ?_
                  refine lv_iload hx hb (dk1 dF_21 DX12_holdsAll (i := 90) rfl rfl rfl) (lv_at hl 0 rfl) ?_
                  refine lv_iconst (v := 2) hx hb (dkP dF_5 DX12_holdsAll (i := 91) rfl rfl) (by decide) ?_
                  refine lv_iadd hx hb (dkP dF_96 DX12_holdsAll (i := 92) rfl rfl) ?_
                  refine z_top (y := nI ((168 + 16 * (24 * pg + n10)) + 2)) (by simp only [fa_lit, nI_add, pk_mul]) ?_
                  refine z_ialdN (n := 414128) C0 hw 1 ((168 + 16 * (24 * pg + n10)) + 2) rfl (by omega) (by decide) (dkP dF_46 DX12_holdsAll (i := 93) rfl rfl) ?_
                  obtain ⟨n16, hn16, en16⟩ := rngN (x := (sI τ6 30 q3_39 0).1 1 ((168 + 16 * (24 * pg + n10)) + 2)) (h := 7) (wTy_l (by omega) (by omega) (hT14 1 _))
                  refine z_top (y := nI n16) en16 ?_
                  refine lv_aload_n hx hb (dkP dF_42 DX12_holdsAll (i := 94) rfl rfl) rfl (lv_at hl 2 rfl) ?_
                  refine lv_aload_n hx hb (dkP dF_42 DX12_holdsAll (i := 95) rfl rfl) rfl (lv_at hl 2 rfl) ?_
                  refine z_gr C0 hw 0 1 1 rfl fl_X12_20 (dk2 dF_180 DX12_holdsAll (i := 96) rfl rfl rfl) ?_
                  refine lv_iload hx hb (dk1 dF_21 DX12_holdsAll (i := 97) rfl rfl rfl) (lv_at hl 0 rfl) ?_
                  refine lv_bipush (v := 6) hx hb (dks dF_16 DX12_holdsAll (i := 98) rfl rfl rfl) (by decide) ?_
                  refine lv_iadd hx hb (dkP dF_96 DX12_holdsAll (i := 99) rfl rfl) ?_
                  refine z_top (y := nI ((168 + 16 * (24 * pg + n10)) + 6)) (by simp only [fa_lit, nI_add, pk_mul]) ?_
                  refine lv_aload_n hx hb (dkP dF_42 DX12_holdsAll (i := 100) rfl rfl) rfl (lv_at hl 2 rfl) ?_
                  refine z_gr C0 hw 0 21 12 rfl fl_X12_60 (dk2 dF_180 DX12_holdsAll (i := 101) rfl rfl rfl) ?_
                  refine zk_I hw (zr_V (As := [.ref (ad 1), .int (nI ((168 + 16 * (24 * pg + n10)) + 6)), .ref (ad 12)]) (rest := [.int (nI n16), .ref (ad 12)]) C0 (c_X12_worked_12 l G kc ad (sI τ6 30 q3_39 0) ((168 + 16 * (24 * pg + n10)) + 6) (by first | omega | assumption | decide | rfl) hT14 _) cv_X12_worked lk_X12_345 (zp_V C0 hRo hw 0 rfl rfl rfl) rfl hl.1 rfl ⟨by decide, by decide⟩ (Nat.le_of_ble_eq_true rfl) (dk2 dF_182 DX12_holdsAll (i := 102) rfl rfl rfl) ⟨Nat.le_refl _, Nat.le_refl _⟩) (fun r17 s17 H locs hp hw => ?_)
                  obtain ⟨hs17⟩ := hp
                  (rw [hs17] at hw)
                  refine z_iastN (n := 8) C0 hw 12 n16 rfl (by omega) (by decide) (dkP dF_79 DX12_holdsAll (i := 103) rfl rfl) (fun H locs hw => ?_)
                  have hT18 : TM (sI (sI τ6 30 q3_39 0) 12 n16 r17) := TM.w hT14 (show True from trivial)
                  have hF18 : fr [11, 12, 30] [] σ (sI (sI τ6 30 q3_39 0) 12 n16 r17) := fr.w hF14 (Or.inl ⟨by decide, by decide⟩)
                  refine lv_iinc (v := nI (q3_39 + 1)) (lv' := [(3, .int (nI (q3_39 + 1))), (4, .int (nI (168 + 16 * (24 * pg + n10)))), (0, .ref (ad 0)), (1, .int (nI pg)), (2, .int (nI wy))]) hx hb (dkI DX12_holdsAll (i := 104) rfl rfl rfl rfl) hl (k := 1) rfl (nI_1 _) (by decide) rfl (fun ls hl => ?_)
                  refine lv_goto (tgt := 39) hx hb (dkS dF_167 DX12_holdsAll (i := 105) rfl rfl rfl) (by decide) ?_
                  exact ih7 (q3_39 + 1) (sI (sI τ6 30 q3_39 0) 12 n16 r17) _ _ _ (by omega) (by (try simp only [lg_cmp_lt, lg_cmp_le, lg_cmp_gt, lg_cmp_ge, lg_cmp_eq] at c5); (try simp (disch := omega) only [ta_lt, ta_le, ta_eq, tb_lt, tb_le, tb_eq, tw, tnI, tsub1, tsv, tn32 1 (by decide), tnj 1 (by decide), tl32 0 (by decide), tl64 0 (by decide), tl32 1 (by decide), tl64 1 (by decide), tl32 2 (by decide), tl64 2 (by decide), tl32 6 (by decide), tl64 6 (by decide), tl32 8 (by decide), tl64 8 (by decide), tl32 100 (by decide), tl64 100 (by decide)] at c5); (try simp only [lg_cmp_lt, lg_cmp_le, lg_cmp_gt, lg_cmp_ge, lg_cmp_eq] at c9); (try simp (disch := omega) only [ta_lt, ta_le, ta_eq, tb_lt, tb_le, tb_eq, tw, tnI, tsub1, tsv, tn32 1 (by decide), tnj 1 (by decide), tl32 0 (by decide), tl64 0 (by decide), tl32 1 (by decide), tl64 1 (by decide), tl32 2 (by decide), tl64 2 (by decide), tl32 6 (by decide), tl64 6 (by decide), tl32 8 (by decide), tl64 8 (by decide), tl32 100 (by decide), tl64 100 (by decide)] at c9); (try simp only [lg_cmp_lt, lg_cmp_le, lg_cmp_gt, lg_cmp_ge, lg_cmp_eq] at c13); (try simp (disch := omega) only [ta_lt, ta_le, ta_eq, tb_lt, tb_le, tb_eq, tw, tnI, tsub1, tsv, tn32 1 (by decide), tnj 1 (by decide), tl32 0 (by decide), tl64 0 (by decide), tl32 1 (by decide), tl64 1 (by decide), tl32 2 (by decide), tl64 2 (by decide), tl32 6 (by decide), tl64 6 (by decide), tl32 8 (by decide), tl64 8 (by decide), tl32 100 (by decide), tl64 100 (by decide)] at c13); (try simp only [lg_cmp_lt, lg_cmp_le, lg_cmp_gt, lg_cmp_ge, lg_cmp_eq] at c15); (try simp (disch := omega) only [ta_lt, ta_le, ta_eq, tb_lt, tb_le, tb_eq, tw, tnI, tsub1, tsv, tn32 1 (by decide), tnj 1 (by decide), tl32 0 (by decide), tl64 0 (by decide), tl32 1 (by decide), tl64 1 (by decide), tl32 2 (by decide), tl64 2 (by decide), tl32 6 (by decide), tl64 6 (by decide), tl32 8 (by decide), tl64 8 (by decide), tl32 100 (by decide), tl64 100 (by decide)] at c15); (try simp (disch := omega) only [ta_lt, ta_le, ta_eq, tb_lt, tb_le, tb_eq, tw, tnI, tsub1, tsv, tn32 1 (by decide), tnj 1 (by decide), tl32 0 (by decide), tl64 0 (by decide), tl32 1 (by decide), tl64 1 (by decide), tl32 2 (by decide), tl64 2 (by decide), tl32 6 (by decide), tl64 6 (by decide), tl32 8 (by decide), tl64 8 (by decide), tl32 100 (by decide), tl64 100 (by decide)]); omega) hT18 hF18 hw (lv_sub hl [0, 2, 3, 4] rfl)
              · (try simp (disch := omega) only [ta_lt, ta_le, ta_eq, tnI, tl32 1 (by decide)] at c13)
                refine lv_aload_n hx hb (dkP dF_42 DX12_holdsAll (i := 52) rfl rfl) rfl (lv_at hl 2 rfl) ?_
                refine z_gr C0 hw 0 21 12 rfl fl_X12_60 (dk2 dF_180 DX12_holdsAll (i := 53) rfl rfl rfl) ?_
                refine lv_aload_n hx hb (dkP dF_42 DX12_holdsAll (i := 54) rfl rfl) rfl (lv_at hl 2 rfl) ?_
                refine z_gr C0 hw 0 1 1 rfl fl_X12_20 (dk2 dF_180 DX12_holdsAll (i := 55) rfl rfl rfl) ?_
                refine lv_iload hx hb (dk1 dF_21 DX12_holdsAll (i := 56) rfl rfl rfl) (lv_at hl 0 rfl) ?_
                refine lv_iconst (v := 2) hx hb (dkP dF_5 DX12_holdsAll (i := 57) rfl rfl) (by decide) ?_
                refine lv_iadd hx hb (dkP dF_96 DX12_holdsAll (i := 58) rfl rfl) ?_
                refine z_top (y := nI ((168 + 16 * (24 * pg + n10)) + 2)) (by simp only [fa_lit, nI_add, pk_mul]) ?_
                refine z_ialdN (n := 414128) C0 hw 1 ((168 + 16 * (24 * pg + n10)) + 2) rfl (by omega) (by decide) (dkP dF_46 DX12_holdsAll (i := 59) rfl rfl) ?_
                obtain ⟨n19, hn19, en19⟩ := rngN (x := τ6.1 1 ((168 + 16 * (24 * pg + n10)) + 2)) (h := 7) (wTy_l (by omega) (by omega) (hT_τ6 1 _))
                refine z_top (y := nI n19) en19 ?_
                refine z_ialdN (n := 8) C0 hw 12 n19 rfl (by omega) (by decide) (dkP dF_46 DX12_holdsAll (i := 60) rfl rfl) ?_
                obtain ⟨v20, ev20⟩ : ∃ y : Int32, τ6.1 12 n19 = y := ⟨_, rfl⟩
                refine z_top (y := v20) ev20 ?_
                refine lv_aload_n hx hb (dkP dF_42 DX12_holdsAll (i := 61) rfl rfl) rfl (lv_at hl 2 rfl) ?_
                refine z_gr C0 hw 0 1 1 rfl fl_X12_20 (dk2 dF_180 DX12_holdsAll (i := 62) rfl rfl rfl) ?_
                refine lv_iload hx hb (dk1 dF_21 DX12_holdsAll (i := 63) rfl rfl rfl) (lv_at hl 0 rfl) ?_
                refine lv_iconst (v := 3) hx hb (dkP dF_6 DX12_holdsAll (i := 64) rfl rfl) (by decide) ?_
                refine lv_iadd hx hb (dkP dF_96 DX12_holdsAll (i := 65) rfl rfl) ?_
                refine z_top (y := nI ((168 + 16 * (24 * pg + n10)) + 3)) (by simp only [fa_lit, nI_add, pk_mul]) ?_
                refine z_ialdN (n := 414128) C0 hw 1 ((168 + 16 * (24 * pg + n10)) + 3) rfl (by omega) (by decide) (dkP dF_46 DX12_holdsAll (i := 66) rfl rfl) ?_
                obtain ⟨v21, ev21⟩ : ∃ y : Int32, τ6.1 1 ((168 + 16 * (24 * pg + n10)) + 3) = y := ⟨_, rfl⟩
                refine z_top (y := v21) ev21 ?_
                refine lv_aload_n hx hb (dkP dF_42 DX12_holdsAll (i := 67) rfl rfl) rfl (lv_at hl 2 rfl) ?_
                refine z_gr C0 hw 0 1 1 rfl fl_X12_20 (dk2 dF_180 DX12_holdsAll (i := 68) rfl rfl rfl) ?_
                refine lv_iload hx hb (dk1 dF_21 DX12_holdsAll (i := 69) rfl rfl rfl) (lv_at hl 0 rfl) ?_
                refine lv_iconst (v := 4) hx hb (dkP dF_7 DX12_holdsAll (i := 70) rfl rfl) (by decide) ?_
                refine lv_iadd hx hb (dkP dF_96 DX12_holdsAll (i := 71) rfl rfl) ?_
                refine z_top (y := nI ((168 + 16 * (24 * pg + n10)) + 4)) (by simp only [fa_lit, nI_add, pk_mul]) ?_
                refine z_ialdN (n := 414128) C0 hw 1 ((168 + 16 * (24 * pg + n10)) + 4) rfl (by omega) (by decide) (dkP dF_46 DX12_holdsAll (i := 72) rfl rfl) ?_
                obtain ⟨v22, ev22⟩ : ∃ y : Int32, τ6.1 1 ((168 + 16 * (24 * pg + n10)) + 4) = y := ⟨_, rfl⟩
                refine z_top (y := v22) ev22 ?_
                refine zn_I hw (zr_S (As := [.int v20, .int v21, .int v22]) (rest := [.int (nI q3_39), .ref (ad 30)]) C0 (c_X12_holds l G kc v20 v21 v22  _) cs_X12_holds lk_X12_353 (zp_P C0 hRo hw a00 s00) rfl hl.1 rfl ⟨by decide, by decide⟩ (Nat.le_of_ble_eq_true rfl) (dk2 dF_184 DX12_holdsAll (i := 73) rfl rfl rfl) ⟨Nat.le_refl _, Nat.le_refl _⟩) (fun r23 s23 H locs hp hw => ?_)
                rcases hp with rfl | rfl
                · skip
                  refine lv_if_eq (tgt := 126) hx hb (dkS dF_153 DX12_holdsAll (i := 74) rfl rfl rfl) (by decide) (fun _ => ?_) (fun h => absurd h (by decide))
                  refine lv_iconst (v := 0) hx hb (dkP dF_3 DX12_holdsAll (i := 77) rfl rfl) (by decide) ?_
                  refine z_zastN (n := 100) C0 hw 30 q3_39 rfl (by decide) (by omega) (by decide) (dkP dF_84 DX12_holdsAll (i := 78) rfl rfl) (fun H locs hw => ?_)
                  have hT24 : TM (sI τ6 30 q3_39 0) := TM.w hT_τ6 (show 0 ≤ _ ∧ _ ≤ 1 from by (try simp only [lg_cmp_lt, lg_cmp_le, lg_cmp_gt, lg_cmp_ge, lg_cmp_eq] at c5); (try simp (disch := omega) only [ta_lt, ta_le, ta_eq, tb_lt, tb_le, tb_eq, tw, tnI, tsub1, tsv, tn32 1 (by decide), tnj 1 (by decide), tl32 0 (by decide), tl64 0 (by decide), tl32 1 (by decide), tl64 1 (by decide), tl32 2 (by decide), tl64 2 (by decide), tl32 3 (by decide), tl64 3 (by decide), tl32 4 (by decide), tl64 4 (by decide), tl32 6 (by decide), tl64 6 (by decide), tl32 8 (by decide), tl64 8 (by decide), tl32 100 (by decide), tl64 100 (by decide)] at c5); (try simp only [lg_cmp_lt, lg_cmp_le, lg_cmp_gt, lg_cmp_ge, lg_cmp_eq] at c9); (try simp (disch := omega) only [ta_lt, ta_le, ta_eq, tb_lt, tb_le, tb_eq, tw, tnI, tsub1, tsv, tn32 1 (by decide), tnj 1 (by decide), tl32 0 (by decide), tl64 0 (by decide), tl32 1 (by decide), tl64 1 (by decide), tl32 2 (by decide), tl64 2 (by decide), tl32 3 (by decide), tl64 3 (by decide), tl32 4 (by decide), tl64 4 (by decide), tl32 6 (by decide), tl64 6 (by decide), tl32 8 (by decide), tl64 8 (by decide), tl32 100 (by decide), tl64 100 (by decide)] at c9); (try simp only [lg_cmp_lt, lg_cmp_le, lg_cmp_gt, lg_cmp_ge, lg_cmp_eq] at c13); (try simp (disch := omega) only [ta_lt, ta_le, ta_eq, tb_lt, tb_le, tb_eq, tw, tnI, tsub1, tsv, tn32 1 (by decide), tnj 1 (by decide), tl32 0 (by decide), tl64 0 (by decide), tl32 1 (by decide), tl64 1 (by decide), tl32 2 (by decide), tl64 2 (by decide), tl32 3 (by decide), tl64 3 (by decide), tl32 4 (by decide), tl64 4 (by decide), tl32 6 (by decide), tl64 6 (by decide), tl32 8 (by decide), tl64 8 (by decide), tl32 100 (by decide), tl64 100 (by decide)] at c13); (try simp (disch := omega) only [ta_lt, ta_le, ta_eq, tb_lt, tb_le, tb_eq, tw, tnI, tsub1, tsv, tn32 1 (by decide), tnj 1 (by decide), tl32 0 (by decide), tl64 0 (by decide), tl32 1 (by decide), tl64 1 (by decide), tl32 2 (by decide), tl64 2 (by decide), tl32 3 (by decide), tl64 3 (by decide), tl32 4 (by decide), tl64 4 (by decide), tl32 6 (by decide), tl64 6 (by decide), tl32 8 (by decide), tl64 8 (by decide), tl32 100 (by decide), tl64 100 (by decide)]); omega)
                  have hF24 : fr [11, 12, 30] [] σ (sI τ6 30 q3_39 0) := fr.w hF_τ6 (Or.inl ⟨by decide, by decide⟩)
                  refine lv_aload_n hx hb (dkP dF_42 DX12_holdsAll (i := 79) rfl rfl) rfl (lv_at hl 2 rfl) ?_
                  refine z_gr C0 hw 0 1 1 rfl fl_X12_20 (dk2 dF_180 DX12_holdsAll (i := 80) rfl rfl rfl) ?_
                  refine lv_iload hx hb (dk1 dF_21 DX12_holdsAll (i := 81) rfl rfl rfl) (lv_at hl 0 rfl) ?_
                  refine lv_iconst (v := 1) hx hb (dkP dF_4 DX12_holdsAll (i := 82) rfl rfl) (by decide) ?_
                  refine lv_iadd hx hb (dkP dF_96 DX12_holdsAll (i := 83) rfl rfl) ?_
                  refine z_top (y := nI ((168 + 16 * (24 * pg + n10)) + 1)) (by simp only [fa_lit, nI_add, pk_mul]) ?_
                  refine z_ialdN (n := 414128) C0 hw 1 ((168 + 16 * (24 * pg + n10)) + 1) rfl (by omega) (by decide) (dkP dF_46 DX12_holdsAll (i := 84) rfl rfl) ?_
                  refine z_top (y := v12) ((rd_n (by omega)).trans ev12) ?_
                  refine lv_if_ne (tgt := 171) hx hb (dkS dF_154 DX12_holdsAll (i := 85) rfl rfl rfl) (by decide) (fun c25 => ?_) (fun c25 => ?_)
                  · (try simp (disch := omega) only [ta_lt, ta_le, ta_eq, tnI, tl32 0 (by decide)] at c25)
                    refine lv_iinc (v := nI (q3_39 + 1)) (lv' := [(3, .int (nI (q3_39 + 1))), (4, .int (nI (168 + 16 * (24 * pg + n10)))), (0, .ref (ad 0)), (1, .int (nI pg)), (2, .int (nI wy))]) hx hb (dkI DX12_holdsAll (i := 104) rfl rfl rfl rfl) hl (k := 1) rfl (nI_1 _) (by decide) rfl (fun ls hl => ?_)
                    refine lv_goto (tgt := 39) hx hb (dkS dF_167 DX12_holdsAll (i := 105) rfl rfl rfl) (by decide) ?_
                    exact ih7 (q3_39 + 1) (sI τ6 30 q3_39 0) _ _ _ (by omega) (by (try simp only [lg_cmp_lt, lg_cmp_le, lg_cmp_gt, lg_cmp_ge, lg_cmp_eq] at c5); (try simp (disch := omega) only [ta_lt, ta_le, ta_eq, tb_lt, tb_le, tb_eq, tw, tnI, tsub1, tsv, tn32 1 (by decide), tnj 1 (by decide), tl32 0 (by decide), tl64 0 (by decide), tl32 1 (by decide), tl64 1 (by decide), tl32 2 (by decide), tl64 2 (by decide), tl32 3 (by decide), tl64 3 (by decide), tl32 4 (by decide), tl64 4 (by decide), tl32 6 (by decide), tl64 6 (by decide), tl32 8 (by decide), tl64 8 (by decide), tl32 100 (by decide), tl64 100 (by decide)] at c5); (try simp only [lg_cmp_lt, lg_cmp_le, lg_cmp_gt, lg_cmp_ge, lg_cmp_eq] at c9); (try simp (disch := omega) only [ta_lt, ta_le, ta_eq, tb_lt, tb_le, tb_eq, tw, tnI, tsub1, tsv, tn32 1 (by decide), tnj 1 (by decide), tl32 0 (by decide), tl64 0 (by decide), tl32 1 (by decide), tl64 1 (by decide), tl32 2 (by decide), tl64 2 (by decide), tl32 3 (by decide), tl64 3 (by decide), tl32 4 (by decide), tl64 4 (by decide), tl32 6 (by decide), tl64 6 (by decide), tl32 8 (by decide), tl64 8 (by decide), tl32 100 (by decide), tl64 100 (by decide)] at c9); (try simp only [lg_cmp_lt, lg_cmp_le, lg_cmp_gt, lg_cmp_ge, lg_cmp_eq] at c13); (try simp (disch := omega) only [ta_lt, ta_le, ta_eq, tb_lt, tb_le, tb_eq, tw, tnI, tsub1, tsv, tn32 1 (by decide), tnj 1 (by decide), tl32 0 (by decide), tl64 0 (by decide), tl32 1 (by decide), tl64 1 (by decide), tl32 2 (by decide), tl64 2 (by decide), tl32 3 (by decide), tl64 3 (by decide), tl32 4 (by decide), tl64 4 (by decide), tl32 6 (by decide), tl64 6 (by decide), tl32 8 (by decide), tl64 8 (by decide), tl32 100 (by decide), tl64 100 (by decide)] at c13); (try simp only [lg_cmp_lt, lg_cmp_le, lg_cmp_gt, lg_cmp_ge, lg_cmp_eq] at c25); (try simp (disch := omega) only [ta_lt, ta_le, ta_eq, tb_lt, tb_le, tb_eq, tw, tnI, tsub1, tsv, tn32 1 (by decide), tnj 1 (by decide), tl32 0 (by decide), tl64 0 (by decide), tl32 1 (by decide), tl64 1 (by decide), tl32 2 (by decide), tl64 2 (by decide), tl32 3 (by decide), tl64 3 (by decide), tl32 4 (by decide), tl64 4 (by decide), tl32 6 (by decide), tl64 6 (by decide), tl32 8 (by decide), tl64 8 (by decide), tl32 100 (by decide), tl64 100 (by decide)] at c25); (try simp (disch := omega) only [ta_lt, ta_le, ta_eq, tb_lt, tb_le, tb_eq, tw, tnI, tsub1, tsv, tn32 1 (by decide), tnj 1 (by decide), tl32 0 (by decide), tl64 0 (by decide), tl32 1 (by decide), tl64 1 (by decide), tl32 2 (by decide), tl64 2 (by decide), tl32 3 (by decide), tl64 3 (by decide), tl32 4 (by decide), tl64 4 (by decide), tl32 6 (by decide), tl64 6 (by decide), tl32 8 (by decide), tl64 8 (by decide), tl32 100 (by decide), tl64 100 (by decide)]); omega) hT24 hF24 hw (lv_sub hl [0, 2, 3, 4] rfl)
                  · (try simp (disch := omega) only [ta_lt, ta_le, ta_eq, tnI, tl32 0 (by decide)] at c25)
                    refine lv_aload_n hx hb (dkP dF_42 DX12_holdsAll (i := 86) rfl rfl) rfl (lv_at hl 2 rfl) ?_
                    refine z_gr C0 hw 0 21 12 rfl fl_X12_60 (dk2 dF_180 DX12_holdsAll (i := 87) rfl rfl rfl) ?_
                    refine lv_aload_n hx hb (dkP dF_42 DX12_holdsAll (i := 88) rfl rfl) rfl (lv_at hl 2 rfl) ?_
                    refine z_gr C0 hw 0 1 1 rfl fl_X12_20 (dk2 dF_180 DX12_holdsAll (i := 89) rfl rfl rfl) ?_
                    refine lv_iload hx hb (dk1 dF_21 DX12_holdsAll (i := 90) rfl rfl rfl) (lv_at hl 0 rfl) ?_
                    refine lv_iconst (v := 2) hx hb (dkP dF_5 DX12_holdsAll (i := 91) rfl rfl) (by decide) ?_
                    refine lv_iadd hx hb (dkP dF_96 DX12_holdsAll (i := 92) rfl rfl) ?_
                    refine z_top (y := nI ((168 + 16 * (24 * pg + n10)) + 2)) (by simp only [fa_lit, nI_add, pk_mul]) ?_
                    refine z_ialdN (n := 414128) C0 hw 1 ((168 + 16 * (24 * pg + n10)) + 2) rfl (by omega) (by decide) (dkP dF_46 DX12_holdsAll (i := 93) rfl rfl) ?_
                    refine z_top (y := (nI n19)) ((rd_n (by omega)).trans en19) ?_
                    refine lv_aload_n hx hb (dkP dF_42 DX12_holdsAll (i := 94) rfl rfl) rfl (lv_at hl 2 rfl) ?_
                    refine lv_aload_n hx hb (dkP dF_42 DX12_holdsAll (i := 95) rfl rfl) rfl (lv_at hl 2 rfl) ?_
                    refine z_gr C0 hw 0 1 1 rfl fl_X12_20 (dk2 dF_180 DX12_holdsAll (i := 96) rfl rfl rfl) ?_
                    refine lv_iload hx hb (dk1 dF_21 DX12_holdsAll (i := 97) rfl rfl rfl) (lv_at hl 0 rfl) ?_
                    refine lv_bipush (v := 6) hx hb (dks dF_16 DX12_holdsAll (i := 98) rfl rfl rfl) (by decide) ?_
                    refine lv_iadd hx hb (dkP dF_96 DX12_holdsAll (i := 99) rfl rfl) ?_
                    refine z_top (y := nI ((168 + 16 * (24 * pg + n10)) + 6)) (by simp only [fa_lit, nI_add, pk_mul]) ?_
                    refine lv_aload_n hx hb (dkP dF_42 DX12_holdsAll (i := 100) rfl rfl) rfl (lv_at hl 2 rfl) ?_
                    refine z_gr C0 hw 0 21 12 rfl fl_X12_60 (dk2 dF_180 DX12_holdsAll (i := 101) rfl rfl rfl) ?_
                    refine zk_I hw (zr_V (As := [.ref (ad 1), .int (nI ((168 + 16 * (24 * pg + n10)) + 6)), .ref (ad 12)]) (rest := [.int (nI n19), .ref (ad 12)]) C0 (c_X12_worked_12 l G kc ad (sI τ6 30 q3_39 0) ((168 + 16 * (24 * pg + n10)) + 6) (by first | omega | assumption | decide | rfl) hT24 _) cv_X12_worked lk_X12_345 (zp_V C0 hRo hw 0 rfl rfl rfl) rfl hl.1 rfl ⟨by decide, by decide⟩ (Nat.le_of_ble_eq_true rfl) (dk2 dF_182 DX12_holdsAll (i := 102) rfl rfl rfl) ⟨Nat.le_refl _, Nat.le_refl _⟩) (fun r26 s26 H locs hp hw => ?_)
                    obtain ⟨hs26⟩ := hp
                    (rw [hs26] at hw)
                    refine z_iastN (n := 8) C0 hw 12 n19 rfl (by omega) (by decide) (dkP dF_79 DX12_holdsAll (i := 103) rfl rfl) (fun H locs hw => ?_)
                    have hT27 : TM (sI (sI τ6 30 q3_39 0) 12 n19 r26) := TM.w hT24 (show True from trivial)
                    have hF27 : fr [11, 12, 30] [] σ (sI (sI τ6 30 q3_39 0) 12 n19 r26) := fr.w hF24 (Or.inl ⟨by decide, by decide⟩)
                    refine lv_iinc (v := nI (q3_39 + 1)) (lv' := [(3, .int (nI (q3_39 + 1))), (4, .int (nI (168 + 16 * (24 * pg + n10)))), (0, .ref (ad 0)), (1, .int (nI pg)), (2, .int (nI wy))]) hx hb (dkI DX12_holdsAll (i := 104) rfl rfl rfl rfl) hl (k := 1) rfl (nI_1 _) (by decide) rfl (fun ls hl => ?_)
                    refine lv_goto (tgt := 39) hx hb (dkS dF_167 DX12_holdsAll (i := 105) rfl rfl rfl) (by decide) ?_
                    exact ih7 (q3_39 + 1) (sI (sI τ6 30 q3_39 0) 12 n19 r26) _ _ _ (by omega) (by (try simp only [lg_cmp_lt, lg_cmp_le, lg_cmp_gt, lg_cmp_ge, lg_cmp_eq] at c5); (try simp (disch := omega) only [ta_lt, ta_le, ta_eq, tb_lt, tb_le, tb_eq, tw, tnI, tsub1, tsv, tn32 1 (by decide), tnj 1 (by decide), tl32 0 (by decide), tl64 0 (by decide), tl32 1 (by decide), tl64 1 (by decide), tl32 2 (by decide), tl64 2 (by decide), tl32 3 (by decide), tl64 3 (by decide), tl32 4 (by decide), tl64 4 (by decide), tl32 6 (by decide), tl64 6 (by decide), tl32 8 (by decide), tl64 8 (by decide), tl32 100 (by decide), tl64 100 (by decide)] at c5); (try simp only [lg_cmp_lt, lg_cmp_le, lg_cmp_gt, lg_cmp_ge, lg_cmp_eq] at c9); (try simp (disch := omega) only [ta_lt, ta_le, ta_eq, tb_lt, tb_le, tb_eq, tw, tnI, tsub1, tsv, tn32 1 (by decide), tnj 1 (by decide), tl32 0 (by decide), tl64 0 (by decide), tl32 1 (by decide), tl64 1 (by decide), tl32 2 (by decide), tl64 2 (by decide), tl32 3 (by decide), tl64 3 (by decide), tl32 4 (by decide), tl64 4 (by decide), tl32 6 (by decide), tl64 6 (by decide), tl32 8 (by decide), tl64 8 (by decide), tl32 100 (by decide), tl64 100 (by decide)] at c9); (try simp only [lg_cmp_lt, lg_cmp_le, lg_cmp_gt, lg_cmp_ge, lg_cmp_eq] at c13); (try simp (disch := omega) only [ta_lt, ta_le, ta_eq, tb_lt, tb_le, tb_eq, tw, tnI, tsub1, tsv, tn32 1 (by decide), tnj 1 (by decide), tl32 0 (by decide), tl64 0 (by decide), tl32 1 (by decide), tl64 1 (by decide), tl32 2 (by decide), tl64 2 (by decide), tl32 3 (by decide), tl64 3 (by decide), tl32 4 (by decide), tl64 4 (by decide), tl32 6 (by decide), tl64 6 (by decide), tl32 8 (by decide), tl64 8 (by decide), tl32 100 (by decide), tl64 100 (by decide)] at c13); (try simp only [lg_cmp_lt, lg_cmp_le, lg_cmp_gt, lg_cmp_ge, lg_cmp_eq] at c25); (try simp (disch := omega) only [ta_lt, ta_le, ta_eq, tb_lt, tb_le, tb_eq, tw, tnI, tsub1, tsv, tn32 1 (by decide), tnj 1 (by decide), tl32 0 (by decide), tl64 0 (by decide), tl32 1 (by decide), tl64 1 (by decide), tl32 2 (by decide), tl64 2 (by decide), tl32 3 (by decide), tl64 3 (by decide), tl32 4 (by decide), tl64 4 (by decide), tl32 6 (by decide), tl64 6 (by decide), tl32 8 (by decide), tl64 8 (by decide), tl32 100 (by decide), tl64 100 (by decide)] at c25); (try simp (disch := omega) only [ta_lt, ta_le, ta_eq, tb_lt, tb_le, tb_eq, tw, tnI, tsub1, tsv, tn32 1 (by decide), tnj 1 (by decide), tl32 0 (by decide), tl64 0 (by decide), tl32 1 (by decide), tl64 1 (by decide), tl32 2 (by decide), tl64 2 (by decide), tl32 3 (by decide), tl64 3 (by decide), tl32 4 (by decide), tl64 4 (by decide), tl32 6 (by decide), tl64 6 (by decide), tl32 8 (by decide), tl64 8 (by decide), tl32 100 (by decide), tl64 100 (by decide)]); omega) hT27 hF27 hw (lv_sub hl [0, 2, 3, 4] rfl)
                · skip
                  refine lv_if_eq (tgt := 126) hx hb (dkS dF_153 DX12_holdsAll (i := 74) rfl rfl rfl) (by decide) (fun h => absurd h (by decide)) (fun _ => ?_)
                  refine lv_iconst (v := 1) hx hb (dkP dF_4 DX12_holdsAll (i := 75) rfl rfl) (by decide) ?_
                  refine lv_goto (tgt := 127) hx hb (dkS dF_167 DX12_holdsAll (i := 76) rfl rfl rfl) (by decide) ?_
                  refine z_zastN (n := 100) C0 hw 30 q3_39 rfl (by decide) (by omega) (by decide) (dkP dF_84 DX12_holdsAll (i := 78) rfl rfl) (fun H locs hw => ?_)
                  have hT28 : TM (sI τ6 30 q3_39 1) := TM.w hT_τ6 (show 0 ≤ _ ∧ _ ≤ 1 from by (try simp only [lg_cmp_lt, lg_cmp_le, lg_cmp_gt, lg_cmp_ge, lg_cmp_eq] at c5); (try simp (disch := omega) only [ta_lt, ta_le, ta_eq, tb_lt, tb_le, tb_eq, tw, tnI, tsub1, tsv, tn32 1 (by decide), tnj 1 (by decide), tl32 0 (by decide), tl64 0 (by decide), tl32 1 (by decide), tl64 1 (by decide), tl32 2 (by decide), tl64 2 (by decide), tl32 3 (by decide), tl64 3 (by decide), tl32 4 (by decide), tl64 4 (by decide), tl32 6 (by decide), tl64 6 (by decide), tl32 8 (by decide), tl64 8 (by decide), tl32 100 (by decide), tl64 100 (by decide)] at c5); (try simp only [lg_cmp_lt, lg_cmp_le, lg_cmp_gt, lg_cmp_ge, lg_cmp_eq] at c9); (try simp (disch := omega) only [ta_lt, ta_le, ta_eq, tb_lt, tb_le, tb_eq, tw, tnI, tsub1, tsv, tn32 1 (by decide), tnj 1 (by decide), tl32 0 (by decide), tl64 0 (by decide), tl32 1 (by decide), tl64 1 (by decide), tl32 2 (by decide), tl64 2 (by decide), tl32 3 (by decide), tl64 3 (by decide), tl32 4 (by decide), tl64 4 (by decide), tl32 6 (by decide), tl64 6 (by decide), tl32 8 (by decide), tl64 8 (by decide), tl32 100 (by decide), tl64 100 (by decide)] at c9); (try simp only [lg_cmp_lt, lg_cmp_le, lg_cmp_gt, lg_cmp_ge, lg_cmp_eq] at c13); (try simp (disch := omega) only [ta_lt, ta_le, ta_eq, tb_lt, tb_le, tb_eq, tw, tnI, tsub1, tsv, tn32 1 (by decide), tnj 1 (by decide), tl32 0 (by decide), tl64 0 (by decide), tl32 1 (by decide), tl64 1 (by decide), tl32 2 (by decide), tl64 2 (by decide), tl32 3 (by decide), tl64 3 (by decide), tl32 4 (by decide), tl64 4 (by decide), tl32 6 (by decide), tl64 6 (by decide), tl32 8 (by decide), tl64 8 (by decide), tl32 100 (by decide), tl64 100 (by decide)] at c13); (try simp (disch := omega) only [ta_lt, ta_le, ta_eq, tb_lt, tb_le, tb_eq, tw, tnI, tsub1, tsv, tn32 1 (by decide), tnj 1 (by decide), tl32 0 (by decide), tl64 0 (by decide), tl32 1 (by decide), tl64 1 (by decide), tl32 2 (by decide), tl64 2 (by decide), tl32 3 (by decide), tl64 3 (by decide), tl32 4 (by decide), tl64 4 (by decide), tl32 6 (by decide), tl64 6 (by decide), tl32 8 (by decide), tl64 8 (by decide), tl32 100 (by decide), tl64 100 (by decide)]); omega)
                  have hF28 : fr [11, 12, 30] [] σ (sI τ6 30 q3_39 1) := fr.w hF_τ6 (Or.inl ⟨by decide, by decide⟩)
                  refine lv_aload_n hx hb (dkP dF_42 DX12_holdsAll (i := 79) rfl rfl) rfl (lv_at hl 2 rfl) ?_
                  refine z_gr C0 hw 0 1 1 rfl fl_X12_20 (dk2 dF_180 DX12_holdsAll (i := 80) rfl rfl rfl) ?_
                  refine lv_iload hx hb (dk1 dF_21 DX12_holdsAll (i := 81) rfl rfl rfl) (lv_at hl 0 rfl) ?_
                  refine lv_iconst (v := 1) hx hb (dkP dF_4 DX12_holdsAll (i := 82) rfl rfl) (by decide) ?_
                  refine lv_iadd hx hb (dkP dF_96 DX12_holdsAll (i := 83) rfl rfl) ?_
                  refine z_top (y := nI ((168 + 16 * (24 * pg + n10)) + 1)) (by simp only [fa_lit, nI_add, pk_mul]) ?_
                  refine z_ialdN (n := 414128) C0 hw 1 ((168 + 16 * (24 * pg + n10)) + 1) rfl (by omega) (by decide) (dkP dF_46 DX12_holdsAll (i := 84) rfl rfl) ?_
                  refine z_top (y := v12) ((rd_n (by omega)).trans ev12) ?_
                  refine lv_if_ne (tgt := 171) hx hb (dkS dF_154 DX12_holdsAll (i := 85) rfl rfl rfl) (by decide) (fun c29 => ?_) (fun c29 => ?_)
                  · (try simp (disch := omega) only [ta_lt, ta_le, ta_eq, tnI, tl32 0 (by decide)] at c29)
                    refine lv_iinc (v := nI (q3_39 + 1)) (lv' := [(3, .int (nI (q3_39 + 1))), (4, .int (nI (168 + 16 * (24 * pg + n10)))), (0, .ref (ad 0)), (1, .int (nI pg)), (2, .int (nI wy))]) hx hb (dkI DX12_holdsAll (i := 104) rfl rfl rfl rfl) hl (k := 1) rfl (nI_1 _) (by decide) rfl (fun ls hl => ?_)
                    refine lv_goto (tgt := 39) hx hb (dkS dF_167 DX12_holdsAll (i := 105) rfl rfl rfl) (by decide) ?_
                    exact ih7 (q3_39 + 1) (sI τ6 30 q3_39 1) _ _ _ (by omega) (by (try simp only [lg_cmp_lt, lg_cmp_le, lg_cmp_gt, lg_cmp_ge, lg_cmp_eq] at c5); (try simp (disch := omega) only [ta_lt, ta_le, ta_eq, tb_lt, tb_le, tb_eq, tw, tnI, tsub1, tsv, tn32 1 (by decide), tnj 1 (by decide), tl32 0 (by decide), tl64 0 (by decide), tl32 1 (by decide), tl64 1 (by decide), tl32 2 (by decide), tl64 2 (by decide), tl32 3 (by decide), tl64 3 (by decide), tl32 4 (by decide), tl64 4 (by decide), tl32 6 (by decide), tl64 6 (by decide), tl32 8 (by decide), tl64 8 (by decide), tl32 100 (by decide), tl64 100 (by decide)] at c5); (try simp only [lg_cmp_lt, lg_cmp_le, lg_cmp_gt, lg_cmp_ge, lg_cmp_eq] at c9); (try simp (disch := omega) only [ta_lt, ta_le, ta_eq, tb_lt, tb_le, tb_eq, tw, tnI, tsub1, tsv, tn32 1 (by decide), tnj 1 (by decide), tl32 0 (by decide), tl64 0 (by decide), tl32 1 (by decide), tl64 1 (by decide), tl32 2 (by decide), tl64 2 (by decide), tl32 3 (by decide), tl64 3 (by decide), tl32 4 (by decide), tl64 4 (by decide), tl32 6 (by decide), tl64 6 (by decide), tl32 8 (by decide), tl64 8 (by decide), tl32 100 (by decide), tl64 100 (by decide)] at c9); (try simp only [lg_cmp_lt, lg_cmp_le, lg_cmp_gt, lg_cmp_ge, lg_cmp_eq] at c13); (try simp (disch := omega) only [ta_lt, ta_le, ta_eq, tb_lt, tb_le, tb_eq, tw, tnI, tsub1, tsv, tn32 1 (by decide), tnj 1 (by decide), tl32 0 (by decide), tl64 0 (by decide), tl32 1 (by decide), tl64 1 (by decide), tl32 2 (by decide), tl64 2 (by decide), tl32 3 (by decide), tl64 3 (by decide), tl32 4 (by decide), tl64 4 (by decide), tl32 6 (by decide), tl64 6 (by decide), tl32 8 (by decide), tl64 8 (by decide), tl32 100 (by decide), tl64 100 (by decide)] at c13); (try simp only [lg_cmp_lt, lg_cmp_le, lg_cmp_gt, lg_cmp_ge, lg_cmp_eq] at c29); (try simp (disch := omega) only [ta_lt, ta_le, ta_eq, tb_lt, tb_le, tb_eq, tw, tnI, tsub1, tsv, tn32 1 (by decide), tnj 1 (by decide), tl32 0 (by decide), tl64 0 (by decide), tl32 1 (by decide), tl64 1 (by decide), tl32 2 (by decide), tl64 2 (by decide), tl32 3 (by decide), tl64 3 (by decide), tl32 4 (by decide), tl64 4 (by decide), tl32 6 (by decide), tl64 6 (by decide), tl32 8 (by decide), tl64 8 (by decide), tl32 100 (by decide), tl64 100 (by decide)] at c29); (try simp (disch := omega) only [ta_lt, ta_le, ta_eq, tb_lt, tb_le, tb_eq, tw, tnI, tsub1, tsv, tn32 1 (by decide), tnj 1 (by decide), tl32 0 (by decide), tl64 0 (by decide), tl32 1 (by decide), tl64 1 (by decide), tl32 2 (by decide), tl64 2 (by decide), tl32 3 (by decide), tl64 3 (by decide), tl32 4 (by decide), tl64 4 (by decide), tl32 6 (by decide), tl64 6 (by decide), tl32 8 (by decide), tl64 8 (by decide), tl32 100 (by decide), tl64 100 (by decide)]); omega) hT28 hF28 hw (lv_sub hl [0, 2, 3, 4] rfl)
                  · (try simp (disch := omega) only [ta_lt, ta_le, ta_eq, tnI, tl32 0 (by decide)] at c29)
                    refine lv_aload_n hx hb (dkP dF_42 DX12_holdsAll (i := 86) rfl rfl) rfl (lv_at hl 2 rfl) ?_
                    refine z_gr C0 hw 0 21 12 rfl fl_X12_60 (dk2 dF_180 DX12_holdsAll (i := 87) rfl rfl rfl) ?_
                    refine lv_aload_n hx hb (dkP dF_42 DX12_holdsAll (i := 88) rfl rfl) rfl (lv_at hl 2 rfl) ?_
                    refine z_gr C0 hw 0 1 1 rfl fl_X12_20 (dk2 dF_180 DX12_holdsAll (i := 89) rfl rfl rfl) ?_
                    refine lv_iload hx hb (dk1 dF_21 DX12_holdsAll (i := 90) rfl rfl rfl) (lv_at hl 0 rfl) ?_
                    refine lv_iconst (v := 2) hx hb (dkP dF_5 DX12_holdsAll (i := 91) rfl rfl) (by decide) ?_
                    refine lv_iadd hx hb (dkP dF_96 DX12_holdsAll (i := 92) rfl rfl) ?_
                    refine z_top (y := nI ((168 + 16 * (24 * pg + n10)) + 2)) (by simp only [fa_lit, nI_add, pk_mul]) ?_
                    refine z_ialdN (n := 414128) C0 hw 1 ((168 + 16 * (24 * pg + n10)) + 2) rfl (by omega) (by decide) (dkP dF_46 DX12_holdsAll (i := 93) rfl rfl) ?_
                    refine z_top (y := (nI n19)) ((rd_n (by omega)).trans en19) ?_
                    refine lv_aload_n hx hb (dkP dF_42 DX12_holdsAll (i := 94) rfl rfl) rfl (lv_at hl 2 rfl) ?_
                    refine lv_aload_n hx hb (dkP dF_42 DX12_holdsAll (i := 95) rfl rfl) rfl (lv_at hl 2 rfl) ?_
                    refine z_gr C0 hw 0 1 1 rfl fl_X12_20 (dk2 dF_180 DX12_holdsAll (i := 96) rfl rfl rfl) ?_
                    refine lv_iload hx hb (dk1 dF_21 DX12_holdsAll (i := 97) rfl rfl rfl) (lv_at hl 0 rfl) ?_
                    refine lv_bipush (v := 6) hx hb (dks dF_16 DX12_holdsAll (i := 98) rfl rfl rfl) (by decide) ?_
                    refine lv_iadd hx hb (dkP dF_96 DX12_holdsAll (i := 99) rfl rfl) ?_
                    refine z_top (y := nI ((168 + 16 * (24 * pg + n10)) + 6)) (by simp only [fa_lit, nI_add, pk_mul]) ?_
                    refine lv_aload_n hx hb (dkP dF_42 DX12_holdsAll (i := 100) rfl rfl) rfl (lv_at hl 2 rfl) ?_
                    refine z_gr C0 hw 0 21 12 rfl fl_X12_60 (dk2 dF_180 DX12_holdsAll (i := 101) rfl rfl rfl) ?_
                    refine zk_I hw (zr_V (As := [.ref (ad 1), .int (nI ((168 + 16 * (24 * pg + n10)) + 6)), .ref (ad 12)]) (rest := [.int (nI n19), .ref (ad 12)]) C0 (c_X12_worked_12 l G kc ad (sI τ6 30 q3_39 1) ((168 + 16 * (24 * pg + n10)) + 6) (by first | omega | assumption | decide | rfl) hT28 _) cv_X12_worked lk_X12_345 (zp_V C0 hRo hw 0 rfl rfl rfl) rfl hl.1 rfl ⟨by decide, by decide⟩ (Nat.le_of_ble_eq_true rfl) (dk2 dF_182 DX12_holdsAll (i := 102) rfl rfl rfl) ⟨Nat.le_refl _, Nat.le_refl _⟩) (fun r30 s30 H locs hp hw => ?_)
                    obtain ⟨hs30⟩ := hp
                    (rw [hs30] at hw)
                    refine z_iastN (n := 8) C0 hw 12 n19 rfl (by omega) (by decide) (dkP dF_79 DX12_holdsAll (i := 103) rfl rfl) (fun H locs hw => ?_)
                    have hT31 : TM (sI (sI τ6 30 q3_39 1) 12 n19 r30) := TM.w hT28 (show True from trivial)
                    have hF31 : fr [11, 12, 30] [] σ (sI (sI τ6 30 q3_39 1) 12 n19 r30) := fr.w hF28 (Or.inl ⟨by decide, by decide⟩)
                    refine lv_iinc (v := nI (q3_39 + 1)) (lv' := [(3, .int (nI (q3_39 + 1))), (4, .int (nI (168 + 16 * (24 * pg + n10)))), (0, .ref (ad 0)), (1, .int (nI pg)), (2, .int (nI wy))]) hx hb (dkI DX12_holdsAll (i := 104) rfl rfl rfl rfl) hl (k := 1) rfl (nI_1 _) (by decide) rfl (fun ls hl => ?_)
                    refine lv_goto (tgt := 39) hx hb (dkS dF_167 DX12_holdsAll (i := 105) rfl rfl rfl) (by decide) ?_
                    exact ih7 (q3_39 + 1) (sI (sI τ6 30 q3_39 1) 12 n19 r30) _ _ _ (by omega) (by (try simp only [lg_cmp_lt, lg_cmp_le, lg_cmp_gt, lg_cmp_ge, lg_cmp_eq] at c5); (try simp (disch := omega) only [ta_lt, ta_le, ta_eq, tb_lt, tb_le, tb_eq, tw, tnI, tsub1, tsv, tn32 1 (by decide), tnj 1 (by decide), tl32 0 (by decide), tl64 0 (by decide), tl32 1 (by decide), tl64 1 (by decide), tl32 2 (by decide), tl64 2 (by decide), tl32 3 (by decide), tl64 3 (by decide), tl32 4 (by decide), tl64 4 (by decide), tl32 6 (by decide), tl64 6 (by decide), tl32 8 (by decide), tl64 8 (by decide), tl32 100 (by decide), tl64 100 (by decide)] at c5); (try simp only [lg_cmp_lt, lg_cmp_le, lg_cmp_gt, lg_cmp_ge, lg_cmp_eq] at c9); (try simp (disch := omega) only [ta_lt, ta_le, ta_eq, tb_lt, tb_le, tb_eq, tw, tnI, tsub1, tsv, tn32 1 (by decide), tnj 1 (by decide), tl32 0 (by decide), tl64 0 (by decide), tl32 1 (by decide), tl64 1 (by decide), tl32 2 (by decide), tl64 2 (by decide), tl32 3 (by decide), tl64 3 (by decide), tl32 4 (by decide), tl64 4 (by decide), tl32 6 (by decide), tl64 6 (by decide), tl32 8 (by decide), tl64 8 (by decide), tl32 100 (by decide), tl64 100 (by decide)] at c9); (try simp only [lg_cmp_lt, lg_cmp_le, lg_cmp_gt, lg_cmp_ge, lg_cmp_eq] at c13); (try simp (disch := omega) only [ta_lt, ta_le, ta_eq, tb_lt, tb_le, tb_eq, tw, tnI, tsub1, tsv, tn32 1 (by decide), tnj 1 (by decide), tl32 0 (by decide), tl64 0 (by decide), tl32 1 (by decide), tl64 1 (by decide), tl32 2 (by decide), tl64 2 (by decide), tl32 3 (by decide), tl64 3 (by decide), tl32 4 (by decide), tl64 4 (by decide), tl32 6 (by decide), tl64 6 (by decide), tl32 8 (by decide), tl64 8 (by decide), tl32 100 (by decide), tl64 100 (by decide)] at c13); (try simp only [lg_cmp_lt, lg_cmp_le, lg_cmp_gt, lg_cmp_ge, lg_cmp_eq] at c29); (try simp (disch := omega) only [ta_lt, ta_le, ta_eq, tb_lt, tb_le, tb_eq, tw, tnI, tsub1, tsv, tn32 1 (by decide), tnj 1 (by decide), tl32 0 (by decide), tl64 0 (by decide), tl32 1 (by decide), tl64 1 (by decide), tl32 2 (by decide), tl64 2 (by decide), tl32 3 (by decide), tl64 3 (by decide), tl32 4 (by decide), tl64 4 (by decide), tl32 6 (by decide), tl64 6 (by decide), tl32 8 (by decide), tl64 8 (by decide), tl32 100 (by decide), tl64 100 (by decide)] at c29); (try simp (disch := omega) only [ta_lt, ta_le, ta_eq, tb_lt, tb_le, tb_eq, tw, tnI, tsub1, tsv, tn32 1 (by decide), tnj 1 (by decide), tl32 0 (by decide), tl64 0 (by decide), tl32 1 (by decide), tl64 1 (by decide), tl32 2 (by decide), tl64 2 (by decide), tl32 3 (by decide), tl64 3 (by decide), tl32 4 (by decide), tl64 4 (by decide), tl32 6 (by decide), tl64 6 (by decide), tl32 8 (by decide), tl64 8 (by decide), tl32 100 (by decide), tl64 100 (by decide)]); omega) hT31 hF31 hw (lv_sub hl [0, 2, 3, 4] rfl)
        exact lp7 _ 0 τ3 _ _ _ (Nat.lt_succ_self _) (by (try simp only [lg_cmp_lt, lg_cmp_le, lg_cmp_gt, lg_cmp_ge, lg_cmp_eq] at c5); (try simp (disch := omega) only [ta_lt, ta_le, ta_eq, tb_lt, tb_le, tb_eq, tw, tnI, tsub1, tsv, tn32 1 (by decide), tnj 1 (by decide), tl32 0 (by decide), tl64 0 (by decide), tl32 1 (by decide), tl64 1 (by decide), tl32 2 (by decide), tl64 2 (by decide), tl32 3 (by decide), tl64 3 (by decide), tl32 4 (by decide), tl64 4 (by decide), tl32 6 (by decide), tl64 6 (by decide), tl32 8 (by decide), tl64 8 (by decide), tl32 100 (by decide), tl64 100 (by decide)] at c5); (try simp (disch := omega) only [ta_lt, ta_le, ta_eq, tb_lt, tb_le, tb_eq, tw, tnI, tsub1, tsv, tn32 1 (by decide), tnj 1 (by decide), tl32 0 (by decide), tl64 0 (by decide), tl32 1 (by decide), tl64 1 (by decide), tl32 2 (by decide), tl64 2 (by decide), tl32 3 (by decide), tl64 3 (by decide), tl32 4 (by decide), tl64 4 (by decide), tl32 6 (by decide), tl64 6 (by decide), tl32 8 (by decide), tl64 8 (by decide), tl32 100 (by decide), tl64 100 (by decide)]); omega) hT_τ3 hF_τ3 hw (lv_sub hl [0, 1, 2, 3] rfl)
      · simp (disch := omega) only [ta_lt, ta_le, ta_eq, tnI, tl32 8 (by decide)] at c5
        refine lv_aload_n hx hb (dkP dF_42 DX12_holdsAll (i := 12) rfl rfl) rfl (lv_at hl 1 rfl) ?_
        refine z_gr C0 hw 0 21 12 rfl fl_X12_60 (dk2 dF_180 DX12_holdsAll (i := 13) rfl rfl rfl) ?_
        refine lv_iload_n hx hb (dkP dF_29 DX12_holdsAll (i := 14) rfl rfl) rfl (lv_at hl 0 rfl) ?_
        refine lv_aload_n hx hb (dkP dF_42 DX12_holdsAll (i := 15) rfl rfl) rfl (lv_at hl 1 rfl) ?_
        refine z_gr C0 hw 0 20 11 rfl fl_X12_57 (dk2 dF_180 DX12_holdsAll (i := 16) rfl rfl rfl) ?_
        refine lv_iload_n hx hb (dkP dF_29 DX12_holdsAll (i := 17) rfl rfl) rfl (lv_at hl 0 rfl) ?_
        refine z_ialdN (n := 8) C0 hw 11 q3_13 rfl (by omega) (by decide) (dkP dF_46 DX12_holdsAll (i := 18) rfl rfl) ?_
        obtain ⟨v32, ev32⟩ : ∃ y : Int32, τ3.1 11 q3_13 = y := ⟨_, rfl⟩
        refine z_top (y := v32) ev32 ?_
        refine z_iastN (n := 8) C0 hw 12 q3_13 rfl (by omega) (by decide) (dkP dF_79 DX12_holdsAll (i := 19) rfl rfl) (fun H locs hw => ?_)
        have hT33 : TM (sI τ3 12 q3_13 v32) := TM.w hT_τ3 (show True from trivial)
        have hF33 : fr [11, 12, 30] [] σ (sI τ3 12 q3_13 v32) := fr.w hF_τ3 (Or.inl ⟨by decide, by decide⟩)
        refine lv_iinc (v := nI (q3_13 + 1)) (lv' := [(3, .int (nI (q3_13 + 1))), (0, .ref (ad 0)), (1, .int (nI pg)), (2, .int (nI wy))]) hx hb (dkI DX12_holdsAll (i := 20) rfl rfl rfl rfl) hl (k := 0) rfl (nI_1 _) (by decide) rfl (fun ls hl => ?_)
        refine lv_goto (tgt := 13) hx hb (dkS dF_167 DX12_holdsAll (i := 21) rfl rfl rfl) (by decide) ?_
        exact ih4 (q3_13 + 1) (sI τ3 12 q3_13 v32) _ _ _ (by omega) (by (try simp only [lg_cmp_lt, lg_cmp_le, lg_cmp_gt, lg_cmp_ge, lg_cmp_eq] at c5); (try simp (disch := omega) only [ta_lt, ta_le, ta_eq, tb_lt, tb_le, tb_eq, tw, tnI, tsub1, tsv, tn32 1 (by decide), tnj 1 (by decide), tl32 0 (by decide), tl64 0 (by decide), tl32 1 (by decide), tl64 1 (by decide), tl32 2 (by decide), tl64 2 (by decide), tl32 3 (by decide), tl64 3 (by decide), tl32 4 (by decide), tl64 4 (by decide), tl32 6 (by decide), tl64 6 (by decide), tl32 8 (by decide), tl64 8 (by decide), tl32 100 (by decide), tl64 100 (by decide)] at c5); (try simp (disch := omega) only [ta_lt, ta_le, ta_eq, tb_lt, tb_le, tb_eq, tw, tnI, tsub1, tsv, tn32 1 (by decide), tnj 1 (by decide), tl32 0 (by decide), tl64 0 (by decide), tl32 1 (by decide), tl64 1 (by decide), tl32 2 (by decide), tl64 2 (by decide), tl32 3 (by decide), tl64 3 (by decide), tl32 4 (by decide), tl64 4 (by decide), tl32 6 (by decide), tl64 6 (by decide), tl32 8 (by decide), tl64 8 (by decide), tl32 100 (by decide), tl64 100 (by decide)]); omega) hT33 hF33 hw (lv_sub hl [0, 1, 2, 3] rfl)
  exact lp4 _ 0 s2 _ _ _ (Nat.lt_succ_self _) (by (try simp (disch := omega) only [ta_lt, ta_le, ta_eq, tb_lt, tb_le, tb_eq, tw, tnI, tsub1, tsv, tn32 1 (by decide), tnj 1 (by decide), tl32 0 (by decide), tl64 0 (by decide), tl32 1 (by decide), tl64 1 (by decide), tl32 2 (by decide), tl64 2 (by decide), tl32 3 (by decide), tl64 3 (by decide), tl32 4 (by decide), tl64 4 (by decide), tl32 6 (by decide), tl64 6 (by decide), tl32 8 (by decide), tl64 8 (by decide), tl32 100 (by decide), tl64 100 (by decide)]); omega) hT2 hF2 hw (lv_sub hl [0, 1, 2, 3] rfl)
set_option maxRecDepth 100000 in
set_option maxHeartbeats 8000000 in
theorem c_X12_madeCase (l : Launch) (G : va_G) (kc : KC) (ad : Nat → Nat) (σ : Sg) (pg : Nat) (wy : Nat) (cs : Nat) (hp8 : pg < 8) (hwy : wy < 200) (hcs : cs < 40) (hT : TM σ) : MV l G kc yX12_madeCase cX12_madeCase 9 4 86 [.ref (ad 0), .int (nI pg), .int (nI wy), .int (nI cs)] shM ad σ (fun σ1 => TM σ1 ∧ fr [1, 28, 29] [] σ σ1) := by
  intro sz
  refine z_body (y := yX12_madeCase) (n := 9) (av := [.ref (ad 0), .int (nI pg), .int (nI wy), .int (nI cs)]) (Qc := fun A => va_Qv (fun σ1 => TM σ1 ∧ fr [1, 28, 29] [] σ σ1) (PoC G kc shM ad A) A) (plainFor_of_name (by decide)) (Nat.le_of_ble_eq_true rfl) (fun pr e s m below meth c A C0 hr hlk hnm hw hRo ls hl => ?_) sz
  have hx := C0.1
  have hb := C0.2.1
  have hown := C0.2.2.2.1
  have hts := C0.2.2.2.2.1
  have hl : lv_has ls 9 [(0, .ref (ad 0)), (1, .int (nI pg)), (2, .int (nI wy)), (3, .int (nI cs))] := hl
  refine lv_aload_n hx hb (dkP dF_42 DX12_madeCase (i := 0) rfl rfl) rfl (lv_at hl 0 rfl) ?_
  refine lv_iload_n hx hb (dkP dF_27 DX12_madeCase (i := 1) rfl rfl) rfl (lv_at hl 1 rfl) ?_
  refine zk_V hw (zr_V (As := [.int (nI pg)]) (rest := []) C0 (c_X12_madeAtFirst l G kc ad σ pg (by first | omega | assumption | decide | rfl) hT _) cv_X12_madeAtFirst lk_X12_390 (zp_V C0 hRo hw 0 rfl rfl rfl) rfl hl.1 rfl ⟨by decide, by decide⟩ (Nat.le_of_ble_eq_true rfl) (dk2 dF_182 DX12_madeCase (i := 2) rfl rfl rfl) ⟨Nat.le_refl _, Nat.le_refl _⟩) (fun s1 H locs hp hw => ?_)
  obtain ⟨hT1, hG1⟩ := hp
  have hF1 : fr [1, 28, 29] [] σ s1 := fr.t fr.refl hG1 (by decide) (by decide)
  refine lv_iconst (v := 0) hx hb (dkP dF_3 DX12_madeCase (i := 3) rfl rfl) (by decide) ?_
  refine lv_istore (lv' := [(4, .int 0), (0, .ref (ad 0)), (1, .int (nI pg)), (2, .int (nI wy)), (3, .int (nI cs))]) hx hb (dk1 dF_54 DX12_madeCase (i := 4) rfl rfl rfl) hl (by decide) rfl (fun ls hl => ?_)
  refine lv_iconst (v := 0) hx hb (dkP dF_3 DX12_madeCase (i := 5) rfl rfl) (by decide) ?_
  refine lv_istore (lv' := [(5, .int 0), (4, .int 0), (0, .ref (ad 0)), (1, .int (nI pg)), (2, .int (nI wy)), (3, .int (nI cs))]) hx hb (dk1 dF_54 DX12_madeCase (i := 6) rfl rfl rfl) hl (by decide) rfl (fun ls hl => ?_)
  have lp3 : ∀ (nq : Nat) (q5_11 : Nat) (q4_11 : Nat) (τ2 : Sg) (H : Heap) (locs : List Loc) (ls : Array Slot), 100 - q5_11 < nq → (q5_11 ≤ 100) → (q4_11 ≤ q5_11) → (TM τ2) → (fr [1, 28, 29] [] σ τ2) → St G kc A s.heap shM ad τ2 H locs → lv_has ls 9 [(5, .int (nI q5_11)), (4, .int (nI q4_11)), (0, .ref (ad 0)), (1, .int (nI pg)), (2, .int (nI wy)), (3, .int (nI cs))] → W pr l e { frames := 4, cells := 0, slots := 0, locals := 86 } s m ([.ref (ad 0), .int (nI pg), .int (nI wy), .int (nI cs)] : List Value).toArray below meth c H locs 0 0 (MQ below (va_Qv (fun σ1 => TM σ1 ∧ fr [1, 28, 29] [] σ σ1) (PoC G kc shM ad A) A) ([.ref (ad 0), .int (nI pg), .int (nI wy), .int (nI cs)] : List Value).toArray s 0 0 A) (F0 m 11 ls []) := by
    intro nq
    induction nq with
    | zero => intro q5_11 q4_11 τ2 H locs ls hmu; exact absurd hmu (Nat.not_lt_zero _)
    | succ nq ih3 =>
      intro q5_11 q4_11 τ2 H locs ls hmu hq5_11 hq4_11 hT_τ2 hF_τ2 hw hl
      refine lv_iload hx hb (dk1 dF_21 DX12_madeCase (i := 7) rfl rfl rfl) (lv_at hl 0 rfl) ?_
      refine lv_aload_n hx hb (dkP dF_42 DX12_madeCase (i := 8) rfl rfl) rfl (lv_at hl 2 rfl) ?_
      refine z_gr C0 hw 0 29 17 rfl fl_X12_78 (dk2 dF_180 DX12_madeCase (i := 9) rfl rfl rfl) ?_
      refine lv_iload_n hx hb (dkP dF_28 DX12_madeCase (i := 10) rfl rfl) rfl (lv_at hl 4 rfl) ?_
      refine z_ialdN (n := 201) C0 hw 17 wy rfl (by omega) (by decide) (dkP dF_46 DX12_madeCase (i := 11) rfl rfl) ?_
      obtain ⟨n4, hn4, en4⟩ := rngN (x := τ2.1 17 wy) (h := 100) (show 0 ≤ _ ∧ _ ≤ 100 from hT_τ2 17 _)
      refine z_top (y := nI n4) en4 ?_
      refine lv_icmp_ge (tgt := 187) hx hb (dkS dF_162 DX12_madeCase (i := 12) rfl rfl rfl) (by decide) (fun c5 => ?_) (fun c5 => ?_)
      · simp (disch := omega) only [ta_lt, ta_le, ta_eq, tnI] at c5
        refine lv_iconst (v := 0) hx hb (dkP dF_3 DX12_madeCase (i := 107) rfl rfl) (by decide) ?_
        refine lv_istore (lv' := [(5, .int 0), (4, .int (nI q4_11)), (0, .ref (ad 0)), (1, .int (nI pg)), (2, .int (nI wy)), (3, .int (nI cs))]) hx hb (dk1 dF_54 DX12_madeCase (i := 108) rfl rfl rfl) hl (by decide) rfl (fun ls hl => ?_)
        have lp7 : ∀ (nq : Nat) (q5_190 : Nat) (τ6 : Sg) (H : Heap) (locs : List Loc) (ls : Array Slot), 8 - q5_190 < nq → (q5_190 ≤ 8) → (TM τ6) → (fr [1, 28, 29] [] σ τ6) → St G kc A s.heap shM ad τ6 H locs → lv_has ls 9 [(5, .int (nI q5_190)), (4, .int (nI q4_11)), (0, .ref (ad 0)), (1, .int (nI pg)), (2, .int (nI wy)), (3, .int (nI cs))] → W pr l e { frames := 4, cells := 0, slots := 0, locals := 86 } s m ([.ref (ad 0), .int (nI pg), .int (nI wy), .int (nI cs)] : List Value).toArray below meth c H locs 0 0 (MQ below (va_Qv (fun σ1 => TM σ1 ∧ fr [1, 28, 29] [] σ σ1) (PoC G kc shM ad A) A) ([.ref (ad 0), .int (nI pg), .int (nI wy), .int (nI cs)] : List Value).toArray s 0 0 A) (F0 m 190 ls []) := by
          intro nq
          induction nq with
          | zero => intro q5_190 τ6 H locs ls hmu; exact absurd hmu (Nat.not_lt_zero _)
          | succ nq ih7 =>
            intro q5_190 τ6 H locs ls hmu hq5_190 hT_τ6 hF_τ6 hw hl
            refine lv_iload hx hb (dk1 dF_21 DX12_madeCase (i := 109) rfl rfl rfl) (lv_at hl 0 rfl) ?_
            refine lv_bipush (v := 8) hx hb (dks dF_16 DX12_madeCase (i := 110) rfl rfl rfl) (by decide) ?_
            refine lv_icmp_ge (tgt := 244) hx hb (dkS dF_162 DX12_madeCase (i := 111) rfl rfl rfl) (by decide) (fun c8 => ?_) (fun c8 => ?_)
            · simp (disch := omega) only [ta_lt, ta_le, ta_eq, tnI, tl32 8 (by decide)] at c8
              refine lv_aload_n hx hb (dkP dF_42 DX12_madeCase (i := 137) rfl rfl) rfl (lv_at hl 2 rfl) ?_
              refine z_gr C0 hw 0 1 1 rfl fl_X12_20 (dk2 dF_180 DX12_madeCase (i := 138) rfl rfl rfl) ?_
              refine lv_iload_n hx hb (dkP dF_27 DX12_madeCase (i := 139) rfl rfl) rfl (lv_at hl 3 rfl) ?_
              refine lv_iload_n hx hb (dkP dF_29 DX12_madeCase (i := 140) rfl rfl) rfl (lv_at hl 5 rfl) ?_
              refine zn_I hw (zr_S (As := [.int (nI pg), .int (nI cs)]) (rest := [.ref (ad 1)]) C0 (c_X12_caseAt l G kc pg cs  _) cs_X12_caseAt lk_X12_310 (zp_P C0 hRo hw a00 s00) rfl hl.1 rfl ⟨by decide, by decide⟩ (Nat.le_of_ble_eq_true rfl) (dk2 dF_184 DX12_madeCase (i := 141) rfl rfl rfl) ⟨Nat.le_refl _, Nat.le_refl _⟩) (fun r9 s9 H locs hp hw => ?_)
              subst hp
              refine lv_iload hx hb (dk1 dF_21 DX12_madeCase (i := 142) rfl rfl rfl) (lv_at hl 1 rfl) ?_
              refine z_iastN (n := 414128) C0 hw 1 (3240 + 2 * (40 * pg + cs)) rfl (by omega) (by decide) (dkP dF_79 DX12_madeCase (i := 143) rfl rfl) (fun H locs hw => ?_)
              have hT10 : TM (sI τ6 1 (3240 + 2 * (40 * pg + cs)) (nI q4_11)) := TM.w hT_τ6 (ty_ct (by omega) (by omega) (by (try simp only [lg_cmp_lt, lg_cmp_le, lg_cmp_gt, lg_cmp_ge, lg_cmp_eq] at c5); (try simp (disch := omega) only [ta_lt, ta_le, ta_eq, tb_lt, tb_le, tb_eq, tw, tnI, tsub1, tsv, tn32 1 (by decide), tnj 1 (by decide), tl32 0 (by decide), tl64 0 (by decide), tl32 8 (by decide), tl64 8 (by decide)] at c5); (try simp only [lg_cmp_lt, lg_cmp_le, lg_cmp_gt, lg_cmp_ge, lg_cmp_eq] at c8); (try simp (disch := omega) only [ta_lt, ta_le, ta_eq, tb_lt, tb_le, tb_eq, tw, tnI, tsub1, tsv, tn32 1 (by decide), tnj 1 (by decide), tl32 0 (by decide), tl64 0 (by decide), tl32 8 (by decide), tl64 8 (by decide)] at c8); (try simp (disch := omega) only [ta_lt, ta_le, ta_eq, tb_lt, tb_le, tb_eq, tw, tnI, tsub1, tsv, tn32 1 (by decide), tnj 1 (by decide), tl32 0 (by decide), tl64 0 (by decide), tl32 8 (by decide), tl64 8 (by decide)]); omega))
              have hF10 : fr [1, 28, 29] [] σ (sI τ6 1 (3240 + 2 * (40 * pg + cs)) (nI q4_11)) := fr.w hF_τ6 (Or.inl ⟨by decide, by decide⟩)
              refine lv_aload_n hx hb (dkP dF_42 DX12_madeCase (i := 144) rfl rfl) rfl (lv_at hl 2 rfl) ?_
              refine z_gr C0 hw 0 1 1 rfl fl_X12_20 (dk2 dF_180 DX12_madeCase (i := 145) rfl rfl rfl) ?_
              refine lv_iload_n hx hb (dkP dF_27 DX12_madeCase (i := 146) rfl rfl) rfl (lv_at hl 3 rfl) ?_
              refine lv_iload_n hx hb (dkP dF_29 DX12_madeCase (i := 147) rfl rfl) rfl (lv_at hl 5 rfl) ?_
              refine zn_I hw (zr_S (As := [.int (nI pg), .int (nI cs)]) (rest := [.ref (ad 1)]) C0 (c_X12_caseAt l G kc pg cs  _) cs_X12_caseAt lk_X12_310 (zp_P C0 hRo hw a00 s00) rfl hl.1 rfl ⟨by decide, by decide⟩ (Nat.le_of_ble_eq_true rfl) (dk2 dF_184 DX12_madeCase (i := 148) rfl rfl rfl) ⟨Nat.le_refl _, Nat.le_refl _⟩) (fun r11 s11 H locs hp hw => ?_)
              subst hp
              refine lv_iconst (v := 1) hx hb (dkP dF_4 DX12_madeCase (i := 149) rfl rfl) (by decide) ?_
              refine lv_iadd hx hb (dkP dF_96 DX12_madeCase (i := 150) rfl rfl) ?_
              refine z_top (y := nI ((3240 + 2 * (40 * pg + cs)) + 1)) (by simp only [fa_lit, nI_add, pk_mul]) ?_
              refine lv_bipush (v := 8) hx hb (dks dF_16 DX12_madeCase (i := 151) rfl rfl rfl) (by decide) ?_
              refine z_iastN (n := 414128) C0 hw 1 ((3240 + 2 * (40 * pg + cs)) + 1) rfl (by omega) (by decide) (dkP dF_79 DX12_madeCase (i := 152) rfl rfl) (fun H locs hw => ?_)
              have hT12 : TM (sI (sI τ6 1 (3240 + 2 * (40 * pg + cs)) (nI q4_11)) 1 ((3240 + 2 * (40 * pg + cs)) + 1) 8) := TM.w hT10 (ty_cp (by omega) (by omega) (by (try simp only [lg_cmp_lt, lg_cmp_le, lg_cmp_gt, lg_cmp_ge, lg_cmp_eq] at c5); (try simp (disch := omega) only [ta_lt, ta_le, ta_eq, tb_lt, tb_le, tb_eq, tw, tnI, tsub1, tsv, tn32 1 (by decide), tnj 1 (by decide), tl32 0 (by decide), tl64 0 (by decide), tl32 1 (by decide), tl64 1 (by decide), tl32 8 (by decide), tl64 8 (by decide)] at c5); (try simp only [lg_cmp_lt, lg_cmp_le, lg_cmp_gt, lg_cmp_ge, lg_cmp_eq] at c8); (try simp (disch := omega) only [ta_lt, ta_le, ta_eq, tb_lt, tb_le, tb_eq, tw, tnI, tsub1, tsv, tn32 1 (by decide), tnj 1 (by decide), tl32 0 (by decide), tl64 0 (by decide), tl32 1 (by decide), tl64 1 (by decide), tl32 8 (by decide), tl64 8 (by decide)] at c8); (try simp (disch := omega) only [ta_lt, ta_le, ta_eq, tb_lt, tb_le, tb_eq, tw, tnI, tsub1, tsv, tn32 1 (by decide), tnj 1 (by decide), tl32 0 (by decide), tl64 0 (by decide), tl32 1 (by decide), tl64 1 (by decide), tl32 8 (by decide), tl64 8 (by decide)]); omega))
              have hF12 : fr [1, 28, 29] [] σ (sI (sI τ6 1 (3240 + 2 * (40 * pg + cs)) (nI q4_11)) 1 ((3240 + 2 * (40 * pg + cs)) + 1) 8) := fr.w hF10 (Or.inl ⟨by decide, by decide⟩)
              exact z_vret C0 hr hlk hw (⟨hT12, hF12⟩) (dkP dF_177 DX12_madeCase (i := 153) rfl rfl)
            · simp (disch := omega) only [ta_lt, ta_le, ta_eq, tnI, tl32 8 (by decide)] at c8
              refine lv_aload_n hx hb (dkP dF_42 DX12_madeCase (i := 112) rfl rfl) rfl (lv_at hl 2 rfl) ?_
              refine z_gr C0 hw 0 1 1 rfl fl_X12_20 (dk2 dF_180 DX12_madeCase (i := 113) rfl rfl rfl) ?_
              refine lv_iload_n hx hb (dkP dF_27 DX12_madeCase (i := 114) rfl rfl) rfl (lv_at hl 3 rfl) ?_
              refine lv_iload_n hx hb (dkP dF_29 DX12_madeCase (i := 115) rfl rfl) rfl (lv_at hl 5 rfl) ?_
              refine lv_iload hx hb (dk1 dF_21 DX12_madeCase (i := 116) rfl rfl rfl) (lv_at hl 0 rfl) ?_
              refine zn_I hw (zr_S (As := [.int (nI pg), .int (nI cs), .int (nI q5_190)]) (rest := [.ref (ad 1)]) C0 (c_X12_putAt l G kc pg cs q5_190  _) cs_X12_putAt lk_X12_317 (zp_P C0 hRo hw a00 s00) rfl hl.1 rfl ⟨by decide, by decide⟩ (Nat.le_of_ble_eq_true rfl) (dk2 dF_184 DX12_madeCase (i := 117) rfl rfl rfl) ⟨Nat.le_refl _, Nat.le_refl _⟩) (fun r13 s13 H locs hp hw => ?_)
              subst hp
              refine lv_iload hx hb (dk1 dF_21 DX12_madeCase (i := 118) rfl rfl rfl) (lv_at hl 0 rfl) ?_
              refine z_iastN (n := 414128) C0 hw 1 (387880 + 10 * (8 * (40 * pg + cs) + q5_190)) rfl (by omega) (by decide) (dkP dF_79 DX12_madeCase (i := 119) rfl rfl) (fun H locs hw => ?_)
              have hT14 : TM (sI τ6 1 (387880 + 10 * (8 * (40 * pg + cs) + q5_190)) (nI q5_190)) := TM.w hT_τ6 (ty_pw0 (by omega) (by omega) (by omega) (by (try simp only [lg_cmp_lt, lg_cmp_le, lg_cmp_gt, lg_cmp_ge, lg_cmp_eq] at c5); (try simp (disch := omega) only [ta_lt, ta_le, ta_eq, tb_lt, tb_le, tb_eq, tw, tnI, tsub1, tsv, tn32 1 (by decide), tnj 1 (by decide), tl32 0 (by decide), tl64 0 (by decide), tl32 1 (by decide), tl64 1 (by decide), tl32 8 (by decide), tl64 8 (by decide)] at c5); (try simp only [lg_cmp_lt, lg_cmp_le, lg_cmp_gt, lg_cmp_ge, lg_cmp_eq] at c8); (try simp (disch := omega) only [ta_lt, ta_le, ta_eq, tb_lt, tb_le, tb_eq, tw, tnI, tsub1, tsv, tn32 1 (by decide), tnj 1 (by decide), tl32 0 (by decide), tl64 0 (by decide), tl32 1 (by decide), tl64 1 (by decide), tl32 8 (by decide), tl64 8 (by decide)] at c8); (try simp (disch := omega) only [ta_lt, ta_le, ta_eq, tb_lt, tb_le, tb_eq, tw, tnI, tsub1, tsv, tn32 1 (by decide), tnj 1 (by decide), tl32 0 (by decide), tl64 0 (by decide), tl32 1 (by decide), tl64 1 (by decide), tl32 8 (by decide), tl64 8 (by decide)]); omega))
              have hF14 : fr [1, 28, 29] [] σ (sI τ6 1 (387880 + 10 * (8 * (40 * pg + cs) + q5_190)) (nI q5_190)) := fr.w hF_τ6 (Or.inl ⟨by decide, by decide⟩)
              refine lv_aload_n hx hb (dkP dF_42 DX12_madeCase (i := 120) rfl rfl) rfl (lv_at hl 2 rfl) ?_
              refine z_gr C0 hw 0 44 28 rfl fl_X12_111 (dk2 dF_180 DX12_madeCase (i := 121) rfl rfl rfl) ?_
              refine lv_bipush (v := 9) hx hb (dks dF_16 DX12_madeCase (i := 122) rfl rfl rfl) (by decide) ?_
              refine lv_iload hx hb (dk1 dF_21 DX12_madeCase (i := 123) rfl rfl rfl) (lv_at hl 0 rfl) ?_
              refine lv_imul hx hb (dkP dF_104 DX12_madeCase (i := 124) rfl rfl) ?_
              refine z_top (y := nI (9 * q5_190)) (by simp only [fa_lit, nI_add, pk_mul]) ?_
              refine lv_aload_n hx hb (dkP dF_42 DX12_madeCase (i := 125) rfl rfl) rfl (lv_at hl 2 rfl) ?_
              refine z_gr C0 hw 0 1 1 rfl fl_X12_20 (dk2 dF_180 DX12_madeCase (i := 126) rfl rfl rfl) ?_
              refine lv_iload_n hx hb (dkP dF_27 DX12_madeCase (i := 127) rfl rfl) rfl (lv_at hl 3 rfl) ?_
              refine lv_iload_n hx hb (dkP dF_29 DX12_madeCase (i := 128) rfl rfl) rfl (lv_at hl 5 rfl) ?_
              refine lv_iload hx hb (dk1 dF_21 DX12_madeCase (i := 129) rfl rfl rfl) (lv_at hl 0 rfl) ?_
              refine zn_I hw (zr_S (As := [.int (nI pg), .int (nI cs), .int (nI q5_190)]) (rest := [.ref (ad 1), .int (nI (9 * q5_190)), .ref (ad 28)]) C0 (c_X12_putAt l G kc pg cs q5_190  _) cs_X12_putAt lk_X12_317 (zp_P C0 hRo hw a00 s00) rfl hl.1 rfl ⟨by decide, by decide⟩ (Nat.le_of_ble_eq_true rfl) (dk2 dF_184 DX12_madeCase (i := 130) rfl rfl rfl) ⟨Nat.le_refl _, Nat.le_refl _⟩) (fun r15 s15 H locs hp hw => ?_)
              subst hp
              refine lv_iconst (v := 1) hx hb (dkP dF_4 DX12_madeCase (i := 131) rfl rfl) (by decide) ?_
              refine lv_iadd hx hb (dkP dF_96 DX12_madeCase (i := 132) rfl rfl) ?_
              refine z_top (y := nI ((387880 + 10 * (8 * (40 * pg + cs) + q5_190)) + 1)) (by simp only [fa_lit, nI_add, pk_mul]) ?_
              refine lv_bipush (v := 9) hx hb (dks dF_16 DX12_madeCase (i := 133) rfl rfl rfl) (by decide) ?_
              refine zk_V hw (zr_S (As := [.ref (ad 28), .int (nI (9 * q5_190)), .ref (ad 1), .int (nI ((387880 + 10 * (8 * (40 * pg + cs) + q5_190)) + 1)), .int 9]) (rest := []) C0 (c_X12_lays_28_1 l G kc ad (sI τ6 1 (387880 + 10 * (8 * (40 * pg + cs) + q5_190)) (nI q5_190)) (9 * q5_190) ((387880 + 10 * (8 * (40 * pg + cs) + q5_190)) + 1) 9 (by omega) (by omega) (fun i hi v h => ty_pw1 (by omega) (by omega) (by omega) hi) hT14 _) cs_X12_lays lk_X12_255 (zp_S C0 hRo hw) rfl hl.1 rfl ⟨by decide, by decide⟩ (Nat.le_of_ble_eq_true rfl) (dk2 dF_184 DX12_madeCase (i := 134) rfl rfl rfl) ⟨Nat.le_refl _, Nat.le_refl _⟩) (fun s16 H locs hp hw => ?_)
              obtain ⟨f16_0, hT16, hG16⟩ := hp
              have hF16 : fr [1, 28, 29] [] σ s16 := fr.t hF14 hG16 (by decide) (by decide)
              refine lv_iinc (v := nI (q5_190 + 1)) (lv' := [(5, .int (nI (q5_190 + 1))), (4, .int (nI q4_11)), (0, .ref (ad 0)), (1, .int (nI pg)), (2, .int (nI wy)), (3, .int (nI cs))]) hx hb (dkI DX12_madeCase (i := 135) rfl rfl rfl rfl) hl (k := 0) rfl (nI_1 _) (by decide) rfl (fun ls hl => ?_)
              refine lv_goto (tgt := 190) hx hb (dkS dF_167 DX12_madeCase (i := 136) rfl rfl rfl) (by decide) ?_
              exact ih7 (q5_190 + 1) s16 _ _ _ (by omega) (by (try simp only [lg_cmp_lt, lg_cmp_le, lg_cmp_gt, lg_cmp_ge, lg_cmp_eq] at c5); (try simp (disch := omega) only [ta_lt, ta_le, ta_eq, tb_lt, tb_le, tb_eq, tw, tnI, tsub1, tsv, tn32 1 (by decide), tnj 1 (by decide), tl32 0 (by decide), tl64 0 (by decide), tl32 1 (by decide), tl64 1 (by decide), tl32 8 (by decide), tl64 8 (by decide), tl32 9 (by decide), tl64 9 (by decide)] at c5); (try simp only [lg_cmp_lt, lg_cmp_le, lg_cmp_gt, lg_cmp_ge, lg_cmp_eq] at c8); (try simp (disch := omega) only [ta_lt, ta_le, ta_eq, tb_lt, tb_le, tb_eq, tw, tnI, tsub1, tsv, tn32 1 (by decide), tnj 1 (by decide), tl32 0 (by decide), tl64 0 (by decide), tl32 1 (by decide), tl64 1 (by decide), tl32 8 (by decide), tl64 8 (by decide), tl32 9 (by decide), tl64 9 (by decide)] at c8); (try simp only [lg_cmp_lt, lg_cmp_le, lg_cmp_gt, lg_cmp_ge, lg_cmp_eq] at f16_0); (try simp (disch := omega) only [ta_lt, ta_le, ta_eq, tb_lt, tb_le, tb_eq, tw, tnI, tsub1, tsv, tn32 1 (by decide), tnj 1 (by decide), tl32 0 (by decide), tl64 0 (by decide), tl32 1 (by decide), tl64 1 (by decide), tl32 8 (by decide), tl64 8 (by decide), tl32 9 (by decide), tl64 9 (by decide)] at f16_0); (try simp (disch := omega) only [ta_lt, ta_le, ta_eq, tb_lt, tb_le, tb_eq, tw, tnI, tsub1, tsv, tn32 1 (by decide), tnj 1 (by decide), tl32 0 (by decide), tl64 0 (by decide), tl32 1 (by decide), tl64 1 (by decide), tl32 8 (by decide), tl64 8 (by decide), tl32 9 (by decide), tl64 9 (by decide)]); omega) hT16 hF16 hw (lv_sub hl [0, 1, 2, 3, 4, 5] rfl)
        exact lp7 _ 0 τ2 _ _ _ (Nat.lt_succ_self _) (by (try simp only [lg_cmp_lt, lg_cmp_le, lg_cmp_gt, lg_cmp_ge, lg_cmp_eq] at c5); (try simp (disch := omega) only [ta_lt, ta_le, ta_eq, tb_lt, tb_le, tb_eq, tw, tnI, tsub1, tsv, tn32 1 (by decide), tnj 1 (by decide), tl32 0 (by decide), tl64 0 (by decide), tl32 1 (by decide), tl64 1 (by decide), tl32 8 (by decide), tl64 8 (by decide), tl32 9 (by decide), tl64 9 (by decide)] at c5); (try simp (disch := omega) only [ta_lt, ta_le, ta_eq, tb_lt, tb_le, tb_eq, tw, tnI, tsub1, tsv, tn32 1 (by decide), tnj 1 (by decide), tl32 0 (by decide), tl64 0 (by decide), tl32 1 (by decide), tl64 1 (by decide), tl32 8 (by decide), tl64 8 (by decide), tl32 9 (by decide), tl64 9 (by decide)]); omega) hT_τ2 hF_τ2 hw (lv_sub hl [0, 1, 2, 3, 4, 5] rfl)
      · simp (disch := omega) only [ta_lt, ta_le, ta_eq, tnI] at c5
        refine lv_aload_n hx hb (dkP dF_42 DX12_madeCase (i := 13) rfl rfl) rfl (lv_at hl 2 rfl) ?_
        refine z_gr C0 hw 0 30 18 rfl fl_X12_81 (dk2 dF_180 DX12_madeCase (i := 14) rfl rfl rfl) ?_
        refine lv_bipush (v := 100) hx hb (dks dF_16 DX12_madeCase (i := 15) rfl rfl rfl) (by decide) ?_
        refine lv_iload_n hx hb (dkP dF_28 DX12_madeCase (i := 16) rfl rfl) rfl (lv_at hl 4 rfl) ?_
        refine lv_imul hx hb (dkP dF_104 DX12_madeCase (i := 17) rfl rfl) ?_
        refine z_top (y := nI (100 * wy)) (by simp only [fa_lit, nI_add, pk_mul]) ?_
        refine lv_iload hx hb (dk1 dF_21 DX12_madeCase (i := 18) rfl rfl rfl) (lv_at hl 0 rfl) ?_
        refine lv_iadd hx hb (dkP dF_96 DX12_madeCase (i := 19) rfl rfl) ?_
        refine z_top (y := nI ((100 * wy) + q5_11)) (by simp only [fa_lit, nI_add, pk_mul]) ?_
        refine z_ialdN (n := 20100) C0 hw 18 ((100 * wy) + q5_11) rfl (by omega) (by decide) (dkP dF_46 DX12_madeCase (i := 20) rfl rfl) ?_
        obtain ⟨n17, hn17, en17⟩ := rngN (x := τ2.1 18 ((100 * wy) + q5_11)) (h := 23) (show 0 ≤ _ ∧ _ ≤ 23 from hT_τ2 18 _)
        refine z_top (y := nI n17) en17 ?_
        refine lv_istore (lv' := [(6, .int (nI n17)), (5, .int (nI q5_11)), (4, .int (nI q4_11)), (0, .ref (ad 0)), (1, .int (nI pg)), (2, .int (nI wy)), (3, .int (nI cs))]) hx hb (dk1 dF_54 DX12_madeCase (i := 21) rfl rfl rfl) hl (by decide) rfl (fun ls hl => ?_)
        refine lv_iload_n hx hb (dkP dF_27 DX12_madeCase (i := 22) rfl rfl) rfl (lv_at hl 4 rfl) ?_
        refine lv_iload hx hb (dk1 dF_21 DX12_madeCase (i := 23) rfl rfl rfl) (lv_at hl 0 rfl) ?_
        refine zn_I hw (zr_S (As := [.int (nI pg), .int (nI n17)]) (rest := []) C0 (c_X12_lineAt l G kc pg n17  _) cs_X12_lineAt lk_X12_284 (zp_P C0 hRo hw a00 s00) rfl hl.1 rfl ⟨by decide, by decide⟩ (Nat.le_of_ble_eq_true rfl) (dk2 dF_184 DX12_madeCase (i := 24) rfl rfl rfl) ⟨Nat.le_refl _, Nat.le_refl _⟩) (fun r18 s18 H locs hp hw => ?_)
        subst hp
        refine lv_istore (lv' := [(7, .int (nI (168 + 16 * (24 * pg + n17)))), (6, .int (nI n17)), (5, .int (nI q5_11)), (4, .int (nI q4_11)), (0, .ref (ad 0)), (1, .int (nI pg)), (2, .int (nI wy)), (3, .int (nI cs))]) hx hb (dk1 dF_54 DX12_madeCase (i := 25) rfl rfl rfl) hl (by decide) rfl (fun ls hl => ?_)
        refine lv_aload_n hx hb (dkP dF_42 DX12_madeCase (i := 26) rfl rfl) rfl (lv_at hl 4 rfl) ?_
        refine z_gr C0 hw 0 1 1 rfl fl_X12_20 (dk2 dF_180 DX12_madeCase (i := 27) rfl rfl rfl) ?_
        refine lv_iload hx hb (dk1 dF_21 DX12_madeCase (i := 28) rfl rfl rfl) (lv_at hl 0 rfl) ?_
        refine lv_iconst (v := 1) hx hb (dkP dF_4 DX12_madeCase (i := 29) rfl rfl) (by decide) ?_
        refine lv_iadd hx hb (dkP dF_96 DX12_madeCase (i := 30) rfl rfl) ?_
        refine z_top (y := nI ((168 + 16 * (24 * pg + n17)) + 1)) (by simp only [fa_lit, nI_add, pk_mul]) ?_
        refine z_ialdN (n := 414128) C0 hw 1 ((168 + 16 * (24 * pg + n17)) + 1) rfl (by omega) (by decide) (dkP dF_46 DX12_madeCase (i := 31) rfl rfl) ?_
        obtain ⟨v19, ev19⟩ : ∃ y : Int32, τ2.1 1 ((168 + 16 * (24 * pg + n17)) + 1) = y := ⟨_, rfl⟩
        refine z_top (y := v19) ev19 ?_
        refine lv_if_ne (tgt := 62) hx hb (dkS dF_154 DX12_madeCase (i := 32) rfl rfl rfl) (by decide) (fun c20 => ?_) (fun c20 => ?_)
        · (try simp (disch := omega) only [ta_lt, ta_le, ta_eq, tnI, tl32 0 (by decide)] at c20)
          refine lv_aload_n hx hb (dkP dF_42 DX12_madeCase (i := 36) rfl rfl) rfl (lv_at hl 4 rfl) ?_
          refine z_gr C0 hw 0 1 1 rfl fl_X12_20 (dk2 dF_180 DX12_madeCase (i := 37) rfl rfl rfl) ?_
          refine lv_iload hx hb (dk1 dF_21 DX12_madeCase (i := 38) rfl rfl rfl) (lv_at hl 0 rfl) ?_
          refine lv_iconst (v := 1) hx hb (dkP dF_4 DX12_madeCase (i := 39) rfl rfl) (by decide) ?_
          refine lv_iadd hx hb (dkP dF_96 DX12_madeCase (i := 40) rfl rfl) ?_
          refine z_top (y := nI ((168 + 16 * (24 * pg + n17)) + 1)) (by simp only [fa_lit, nI_add, pk_mul]) ?_
          refine z_ialdN (n := 414128) C0 hw 1 ((168 + 16 * (24 * pg + n17)) + 1) rfl (by omega) (by decide) (dkP dF_46 DX12_madeCase (i := 41) rfl rfl) ?_
          refine z_top (y := v19) ev19 ?_
          refine lv_iconst (v := 1) hx hb (dkP dF_4 DX12_madeCase (i := 42) rfl rfl) (by decide) ?_
          refine lv_icmp_eq (tgt := 78) hx hb (dkS dF_159 DX12_madeCase (i := 43) rfl rfl rfl) (by decide) (fun c21 => ?_) (fun c21 => ?_)
          · (try simp (disch := omega) only [ta_lt, ta_le, ta_eq, tnI, tl32 1 (by decide)] at c21)
            refine lv_iload_n hx hb (dkP dF_27 DX12_madeCase (i := 45) rfl rfl) rfl (lv_at hl 5 rfl) ?_
            refine lv_iload_n hx hb (dkP dF_29 DX12_madeCase (i := 46) rfl rfl) rfl (lv_at hl 7 rfl) ?_
            refine lv_iload hx hb (dk1 dF_21 DX12_madeCase (i := 47) rfl rfl rfl) (lv_at hl 3 rfl) ?_
            refine zn_I hw (zr_S (As := [.int (nI pg), .int (nI cs), .int (nI q4_11)]) (rest := []) C0 (c_X12_testAt l G kc pg cs q4_11  _) cs_X12_testAt lk_X12_313 (zp_P C0 hRo hw a00 s00) rfl hl.1 rfl ⟨by decide, by decide⟩ (Nat.le_of_ble_eq_true rfl) (dk2 dF_184 DX12_madeCase (i := 48) rfl rfl rfl) ⟨Nat.le_refl _, Nat.le_refl _⟩) (fun r22 s22 H locs hp hw => ?_)
            subst hp
            refine lv_istore (lv' := [(8, .int (nI (3880 + 12 * (100 * (40 * pg + cs) + q4_11)))), (7, .int (nI (168 + 16 * (24 * pg + n17)))), (6, .int (nI n17)), (5, .int (nI q5_11)), (4, .int (nI q4_11)), (0, .ref (ad 0)), (1, .int (nI pg)), (2, .int (nI wy)), (3, .int (nI cs))]) hx hb (dk1 dF_54 DX12_madeCase (i := 49) rfl rfl rfl) hl (by decide) rfl (fun ls hl => ?_)
            refine lv_aload_n hx hb (dkP dF_42 DX12_madeCase (i := 50) rfl rfl) rfl (lv_at hl 5 rfl) ?_
            refine z_gr C0 hw 0 44 28 rfl fl_X12_111 (dk2 dF_180 DX12_madeCase (i := 51) rfl rfl rfl) ?_
            refine lv_bipush (v := 9) hx hb (dks dF_16 DX12_madeCase (i := 52) rfl rfl rfl) (by decide) ?_
            refine lv_aload_n hx hb (dkP dF_42 DX12_madeCase (i := 53) rfl rfl) rfl (lv_at hl 5 rfl) ?_
            refine z_gr C0 hw 0 1 1 rfl fl_X12_20 (dk2 dF_180 DX12_madeCase (i := 54) rfl rfl rfl) ?_
            refine lv_iload hx hb (dk1 dF_21 DX12_madeCase (i := 55) rfl rfl rfl) (lv_at hl 1 rfl) ?_
            refine lv_iconst (v := 2) hx hb (dkP dF_5 DX12_madeCase (i := 56) rfl rfl) (by decide) ?_
            refine lv_iadd hx hb (dkP dF_96 DX12_madeCase (i := 57) rfl rfl) ?_
            refine z_top (y := nI ((168 + 16 * (24 * pg + n17)) + 2)) (by simp only [fa_lit, nI_add, pk_mul]) ?_
            refine z_ialdN (n := 414128) C0 hw 1 ((168 + 16 * (24 * pg + n17)) + 2) rfl (by omega) (by decide) (dkP dF_46 DX12_madeCase (i := 58) rfl rfl) ?_
            obtain ⟨n23, hn23, en23⟩ := rngN (x := τ2.1 1 ((168 + 16 * (24 * pg + n17)) + 2)) (h := 7) (wTy_l (by omega) (by omega) (hT_τ2 1 _))
            refine z_top (y := nI n23) en23 ?_
            refine lv_imul hx hb (dkP dF_104 DX12_madeCase (i := 59) rfl rfl) ?_
            refine z_top (y := nI (9 * n23)) (by simp only [fa_lit, nI_add, pk_mul]) ?_
            refine lv_aload_n hx hb (dkP dF_42 DX12_madeCase (i := 60) rfl rfl) rfl (lv_at hl 5 rfl) ?_
            refine z_gr C0 hw 0 1 1 rfl fl_X12_20 (dk2 dF_180 DX12_madeCase (i := 61) rfl rfl rfl) ?_
            refine lv_iload hx hb (dk1 dF_21 DX12_madeCase (i := 62) rfl rfl rfl) (lv_at hl 0 rfl) ?_
            refine lv_bipush (v := 9) hx hb (dks dF_16 DX12_madeCase (i := 63) rfl rfl rfl) (by decide) ?_
            refine zk_V hw (zr_S (As := [.ref (ad 28), .int (nI (9 * n23)), .ref (ad 1), .int (nI (3880 + 12 * (100 * (40 * pg + cs) + q4_11))), .int 9]) (rest := []) C0 (c_X12_lays_28_1 l G kc ad τ2 (9 * n23) (3880 + 12 * (100 * (40 * pg + cs) + q4_11)) 9 (by omega) (by omega) (fun i hi v h => ty_tw (by omega) (by omega)) hT_τ2 _) cs_X12_lays lk_X12_255 (zp_S C0 hRo hw) rfl hl.1 rfl ⟨by decide, by decide⟩ (Nat.le_of_ble_eq_true rfl) (dk2 dF_184 DX12_madeCase (i := 64) rfl rfl rfl) ⟨Nat.le_refl _, Nat.le_refl _⟩) (fun s24 H locs hp hw => ?_)
            obtain ⟨f24_0, hT24, hG24⟩ := hp
            have hF24 : fr [1, 28, 29] [] σ s24 := fr.t hF_τ2 hG24 (by decide) (by decide)
            refine lv_aload_n hx hb (dkP dF_42 DX12_madeCase (i := 65) rfl rfl) rfl (lv_at hl 5 rfl) ?_
            refine z_gr C0 hw 0 1 1 rfl fl_X12_20 (dk2 dF_180 DX12_madeCase (i := 66) rfl rfl rfl) ?_
            refine lv_iload hx hb (dk1 dF_21 DX12_madeCase (i := 67) rfl rfl rfl) (lv_at hl 0 rfl) ?_
            refine lv_bipush (v := 9) hx hb (dks dF_16 DX12_madeCase (i := 68) rfl rfl rfl) (by decide) ?_
            refine lv_iadd hx hb (dkP dF_96 DX12_madeCase (i := 69) rfl rfl) ?_
            refine z_top (y := nI ((3880 + 12 * (100 * (40 * pg + cs) + q4_11)) + 9)) (by simp only [fa_lit, nI_add, pk_mul]) ?_
            refine lv_aload_n hx hb (dkP dF_42 DX12_madeCase (i := 70) rfl rfl) rfl (lv_at hl 5 rfl) ?_
            refine z_gr C0 hw 0 1 1 rfl fl_X12_20 (dk2 dF_180 DX12_madeCase (i := 71) rfl rfl rfl) ?_
            refine lv_iload hx hb (dk1 dF_21 DX12_madeCase (i := 72) rfl rfl rfl) (lv_at hl 1 rfl) ?_
            refine lv_iconst (v := 3) hx hb (dkP dF_6 DX12_madeCase (i := 73) rfl rfl) (by decide) ?_
            refine lv_iadd hx hb (dkP dF_96 DX12_madeCase (i := 74) rfl rfl) ?_
            refine z_top (y := nI ((168 + 16 * (24 * pg + n17)) + 3)) (by simp only [fa_lit, nI_add, pk_mul]) ?_
            refine z_ialdN (n := 414128) C0 hw 1 ((168 + 16 * (24 * pg + n17)) + 3) rfl (by omega) (by decide) (dkP dF_46 DX12_madeCase (i := 75) rfl rfl) ?_
            obtain ⟨v25, ev25⟩ : ∃ y : Int32, s24.1 1 ((168 + 16 * (24 * pg + n17)) + 3) = y := ⟨_, rfl⟩
            refine z_top (y := v25) ev25 ?_
            refine z_iastN (n := 414128) C0 hw 1 ((3880 + 12 * (100 * (40 * pg + cs) + q4_11)) + 9) rfl (by omega) (by decide) (dkP dF_79 DX12_madeCase (i := 76) rfl rfl) (fun H locs hw => ?_)
            have hT26 : TM (sI s24 1 ((3880 + 12 * (100 * (40 * pg + cs) + q4_11)) + 9) v25) := TM.w hT24 (ty_tw (by omega) (by omega))
            have hF26 : fr [1, 28, 29] [] σ (sI s24 1 ((3880 + 12 * (100 * (40 * pg + cs) + q4_11)) + 9) v25) := fr.w hF24 (Or.inl ⟨by decide, by decide⟩)
            refine lv_aload_n hx hb (dkP dF_42 DX12_madeCase (i := 77) rfl rfl) rfl (lv_at hl 5 rfl) ?_
            refine z_gr C0 hw 0 1 1 rfl fl_X12_20 (dk2 dF_180 DX12_madeCase (i := 78) rfl rfl rfl) ?_
            refine lv_iload hx hb (dk1 dF_21 DX12_madeCase (i := 79) rfl rfl rfl) (lv_at hl 0 rfl) ?_
            refine lv_bipush (v := 10) hx hb (dks dF_16 DX12_madeCase (i := 80) rfl rfl rfl) (by decide) ?_
            refine lv_iadd hx hb (dkP dF_96 DX12_madeCase (i := 81) rfl rfl) ?_
            refine z_top (y := nI ((3880 + 12 * (100 * (40 * pg + cs) + q4_11)) + 10)) (by simp only [fa_lit, nI_add, pk_mul]) ?_
            refine lv_aload_n hx hb (dkP dF_42 DX12_madeCase (i := 82) rfl rfl) rfl (lv_at hl 5 rfl) ?_
            refine z_gr C0 hw 0 1 1 rfl fl_X12_20 (dk2 dF_180 DX12_madeCase (i := 83) rfl rfl rfl) ?_
            refine lv_iload hx hb (dk1 dF_21 DX12_madeCase (i := 84) rfl rfl rfl) (lv_at hl 1 rfl) ?_
            refine lv_iconst (v := 4) hx hb (dkP dF_7 DX12_madeCase (i := 85) rfl rfl) (by decide) ?_
            refine lv_iadd hx hb (dkP dF_96 DX12_madeCase (i := 86) rfl rfl) ?_
            refine z_top (y := nI ((168 + 16 * (24 * pg + n17)) + 4)) (by simp only [fa_lit, nI_add, pk_mul]) ?_
            refine z_ialdN (n := 414128) C0 hw 1 ((168 + 16 * (24 * pg + n17)) + 4) rfl (by omega) (by decide) (dkP dF_46 DX12_madeCase (i := 87) rfl rfl) ?_
            obtain ⟨v27, ev27⟩ : ∃ y : Int32, (sI s24 1 ((3880 + 12 * (100 * (40 * pg + cs) + q4_11)) + 9) v25).1 1 ((168 + 16 * (24 * pg + n17)) + 4) = y := ⟨_, rfl⟩
            refine z_top (y := v27) ev27 ?_
            refine z_iastN (n := 414128) C0 hw 1 ((3880 + 12 * (100 * (40 * pg + cs) + q4_11)) + 10) rfl (by omega) (by decide) (dkP dF_79 DX12_madeCase (i := 88) rfl rfl) (fun H locs hw => ?_)
            have hT28 : TM (sI (sI s24 1 ((3880 + 12 * (100 * (40 * pg + cs) + q4_11)) + 9) v25) 1 ((3880 + 12 * (100 * (40 * pg + cs) + q4_11)) + 10) v27) := TM.w hT26 (ty_tw (by omega) (by omega))
            have hF28 : fr [1, 28, 29] [] σ (sI (sI s24 1 ((3880 + 12 * (100 * (40 * pg + cs) + q4_11)) + 9) v25) 1 ((3880 + 12 * (100 * (40 * pg + cs) + q4_11)) + 10) v27) := fr.w hF26 (Or.inl ⟨by decide, by decide⟩)
            refine lv_aload_n hx hb (dkP dF_42 DX12_madeCase (i := 89) rfl rfl) rfl (lv_at hl 5 rfl) ?_
            refine z_gr C0 hw 0 1 1 rfl fl_X12_20 (dk2 dF_180 DX12_madeCase (i := 90) rfl rfl rfl) ?_
            refine lv_iload hx hb (dk1 dF_21 DX12_madeCase (i := 91) rfl rfl rfl) (lv_at hl 0 rfl) ?_
            refine lv_bipush (v := 11) hx hb (dks dF_16 DX12_madeCase (i := 92) rfl rfl rfl) (by decide) ?_
            refine lv_iadd hx hb (dkP dF_96 DX12_madeCase (i := 93) rfl rfl) ?_
            refine z_top (y := nI ((3880 + 12 * (100 * (40 * pg + cs) + q4_11)) + 11)) (by simp only [fa_lit, nI_add, pk_mul]) ?_
            refine lv_aload_n hx hb (dkP dF_42 DX12_madeCase (i := 94) rfl rfl) rfl (lv_at hl 5 rfl) ?_
            refine lv_iload_n hx hb (dkP dF_27 DX12_madeCase (i := 95) rfl rfl) rfl (lv_at hl 6 rfl) ?_
            refine lv_iload_n hx hb (dkP dF_28 DX12_madeCase (i := 96) rfl rfl) rfl (lv_at hl 7 rfl) ?_
            refine lv_iload hx hb (dk1 dF_21 DX12_madeCase (i := 97) rfl rfl rfl) (lv_at hl 3 rfl) ?_
            refine zk_I hw (zr_V (As := [.int (nI pg), .int (nI wy), .int (nI q5_11)]) (rest := [.int (nI ((3880 + 12 * (100 * (40 * pg + cs) + q4_11)) + 11)), .ref (ad 1)]) C0 (c_X12_held l G kc ad (sI (sI s24 1 ((3880 + 12 * (100 * (40 * pg + cs) + q4_11)) + 9) v25) 1 ((3880 + 12 * (100 * (40 * pg + cs) + q4_11)) + 10) v27) pg wy q5_11 (by first | omega | assumption | decide | rfl) hT28 _) cv_X12_held lk_X12_417 (zp_V C0 hRo hw 0 rfl rfl rfl) rfl hl.1 rfl ⟨by decide, by decide⟩ (Nat.le_of_ble_eq_true rfl) (dk2 dF_182 DX12_madeCase (i := 98) rfl rfl rfl) ⟨Nat.le_refl _, Nat.le_refl _⟩) (fun r29 s29 H locs hp hw => ?_)
            obtain ⟨f29_0, hs29⟩ := hp
            (rw [hs29] at hw)
            rcases f29_0 with ⟨rfl, hc29⟩ | ⟨rfl, hc29⟩
            · skip
              refine lv_if_eq (tgt := 176) hx hb (dkS dF_153 DX12_madeCase (i := 99) rfl rfl rfl) (by decide) (fun h => absurd h (by decide)) (fun _ => ?_)
              refine lv_iconst (v := 0) hx hb (dkP dF_3 DX12_madeCase (i := 100) rfl rfl) (by decide) ?_
              refine lv_goto (tgt := 177) hx hb (dkS dF_167 DX12_madeCase (i := 101) rfl rfl rfl) (by decide) ?_
              refine z_iastN (n := 414128) C0 hw 1 ((3880 + 12 * (100 * (40 * pg + cs) + q4_11)) + 11) rfl (by omega) (by decide) (dkP dF_79 DX12_madeCase (i := 103) rfl rfl) (fun H locs hw => ?_)
              have hT30 : TM (sI (sI (sI s24 1 ((3880 + 12 * (100 * (40 * pg + cs) + q4_11)) + 9) v25) 1 ((3880 + 12 * (100 * (40 * pg + cs) + q4_11)) + 10) v27) 1 ((3880 + 12 * (100 * (40 * pg + cs) + q4_11)) + 11) 0) := TM.w hT28 (ty_tw (by omega) (by omega))
              have hF30 : fr [1, 28, 29] [] σ (sI (sI (sI s24 1 ((3880 + 12 * (100 * (40 * pg + cs) + q4_11)) + 9) v25) 1 ((3880 + 12 * (100 * (40 * pg + cs) + q4_11)) + 10) v27) 1 ((3880 + 12 * (100 * (40 * pg + cs) + q4_11)) + 11) 0) := fr.w hF28 (Or.inl ⟨by decide, by decide⟩)
              refine lv_iinc (v := nI (q4_11 + 1)) (lv' := [(4, .int (nI (q4_11 + 1))), (8, .int (nI (3880 + 12 * (100 * (40 * pg + cs) + q4_11)))), (7, .int (nI (168 + 16 * (24 * pg + n17)))), (6, .int (nI n17)), (5, .int (nI q5_11)), (0, .ref (ad 0)), (1, .int (nI pg)), (2, .int (nI wy)), (3, .int (nI cs))]) hx hb (dkI DX12_madeCase (i := 104) rfl rfl rfl rfl) hl (k := 4) rfl (nI_1 _) (by decide) rfl (fun ls hl => ?_)
              refine lv_iinc (v := nI (q5_11 + 1)) (lv' := [(5, .int (nI (q5_11 + 1))), (4, .int (nI (q4_11 + 1))), (8, .int (nI (3880 + 12 * (100 * (40 * pg + cs) + q4_11)))), (7, .int (nI (168 + 16 * (24 * pg + n17)))), (6, .int (nI n17)), (0, .ref (ad 0)), (1, .int (nI pg)), (2, .int (nI wy)), (3, .int (nI cs))]) hx hb (dkI DX12_madeCase (i := 105) rfl rfl rfl rfl) hl (k := 4) rfl (nI_1 _) (by decide) rfl (fun ls hl => ?_)
              refine lv_goto (tgt := 11) hx hb (dkS dF_167 DX12_madeCase (i := 106) rfl rfl rfl) (by decide) ?_
              exact ih3 (q5_11 + 1) (q4_11 + 1) (sI (sI (sI s24 1 ((3880 + 12 * (100 * (40 * pg + cs) + q4_11)) + 9) v25) 1 ((3880 + 12 * (100 * (40 * pg + cs) + q4_11)) + 10) v27) 1 ((3880 + 12 * (100 * (40 * pg + cs) + q4_11)) + 11) 0) _ _ _ (by omega) (by (try simp only [lg_cmp_lt, lg_cmp_le, lg_cmp_gt, lg_cmp_ge, lg_cmp_eq] at c5); (try simp (disch := omega) only [ta_lt, ta_le, ta_eq, tb_lt, tb_le, tb_eq, tw, tnI, tsub1, tsv, tn32 1 (by decide), tnj 1 (by decide), tl32 0 (by decide), tl64 0 (by decide), tl32 1 (by decide), tl64 1 (by decide), tl32 2 (by decide), tl64 2 (by decide), tl32 3 (by decide), tl64 3 (by decide), tl32 4 (by decide), tl64 4 (by decide), tl32 8 (by decide), tl64 8 (by decide), tl32 9 (by decide), tl64 9 (by decide), tl32 10 (by decide), tl64 10 (by decide), tl32 11 (by decide), tl64 11 (by decide), tl32 100 (by decide), tl64 100 (by decide)] at c5); (try simp only [lg_cmp_lt, lg_cmp_le, lg_cmp_gt, lg_cmp_ge, lg_cmp_eq] at c20); (try simp (disch := omega) only [ta_lt, ta_le, ta_eq, tb_lt, tb_le, tb_eq, tw, tnI, tsub1, tsv, tn32 1 (by decide), tnj 1 (by decide), tl32 0 (by decide), tl64 0 (by decide), tl32 1 (by decide), tl64 1 (by decide), tl32 2 (by decide), tl64 2 (by decide), tl32 3 (by decide), tl64 3 (by decide), tl32 4 (by decide), tl64 4 (by decide), tl32 8 (by decide), tl64 8 (by decide), tl32 9 (by decide), tl64 9 (by decide), tl32 10 (by decide), tl64 10 (by decide), tl32 11 (by decide), tl64 11 (by decide), tl32 100 (by decide), tl64 100 (by decide)] at c20); (try simp only [lg_cmp_lt, lg_cmp_le, lg_cmp_gt, lg_cmp_ge, lg_cmp_eq] at c21); (try simp (disch := omega) only [ta_lt, ta_le, ta_eq, tb_lt, tb_le, tb_eq, tw, tnI, tsub1, tsv, tn32 1 (by decide), tnj 1 (by decide), tl32 0 (by decide), tl64 0 (by decide), tl32 1 (by decide), tl64 1 (by decide), tl32 2 (by decide), tl64 2 (by decide), tl32 3 (by decide), tl64 3 (by decide), tl32 4 (by decide), tl64 4 (by decide), tl32 8 (by decide), tl64 8 (by decide), tl32 9 (by decide), tl64 9 (by decide), tl32 10 (by decide), tl64 10 (by decide), tl32 11 (by decide), tl64 11 (by decide), tl32 100 (by decide), tl64 100 (by decide)] at c21); (try simp only [lg_cmp_lt, lg_cmp_le, lg_cmp_gt, lg_cmp_ge, lg_cmp_eq] at f24_0); (try simp (disch := omega) only [ta_lt, ta_le, ta_eq, tb_lt, tb_le, tb_eq, tw, tnI, tsub1, tsv, tn32 1 (by decide), tnj 1 (by decide), tl32 0 (by decide), tl64 0 (by decide), tl32 1 (by decide), tl64 1 (by decide), tl32 2 (by decide), tl64 2 (by decide), tl32 3 (by decide), tl64 3 (by decide), tl32 4 (by decide), tl64 4 (by decide), tl32 8 (by decide), tl64 8 (by decide), tl32 9 (by decide), tl64 9 (by decide), tl32 10 (by decide), tl64 10 (by decide), tl32 11 (by decide), tl64 11 (by decide), tl32 100 (by decide), tl64 100 (by decide)] at f24_0); (try simp only [lg_cmp_lt, lg_cmp_le, lg_cmp_gt, lg_cmp_ge, lg_cmp_eq] at f29_0); (try simp (disch := omega) only [ta_lt, ta_le, ta_eq, tb_lt, tb_le, tb_eq, tw, tnI, tsub1, tsv, tn32 1 (by decide), tnj 1 (by decide), tl32 0 (by decide), tl64 0 (by decide), tl32 1 (by decide), tl64 1 (by decide), tl32 2 (by decide), tl64 2 (by decide), tl32 3 (by decide), tl64 3 (by decide), tl32 4 (by decide), tl64 4 (by decide), tl32 8 (by decide), tl64 8 (by decide), tl32 9 (by decide), tl64 9 (by decide), tl32 10 (by decide), tl64 10 (by decide), tl32 11 (by decide), tl64 11 (by decide), tl32 100 (by decide), tl64 100 (by decide)] at f29_0); (try simp only [lg_cmp_lt, lg_cmp_le, lg_cmp_gt, lg_cmp_ge, lg_cmp_eq] at hc29); (try simp (disch := omega) only [ta_lt, ta_le, ta_eq, tb_lt, tb_le, tb_eq, tw, tnI, tsub1, tsv, tn32 1 (by decide), tnj 1 (by decide), tl32 0 (by decide), tl64 0 (by decide), tl32 1 (by decide), tl64 1 (by decide), tl32 2 (by decide), tl64 2 (by decide), tl32 3 (by decide), tl64 3 (by decide), tl32 4 (by decide), tl64 4 (by decide), tl32 8 (by decide), tl64 8 (by decide), tl32 9 (by decide), tl64 9 (by decide), tl32 10 (by decide), tl64 10 (by decide), tl32 11 (by decide), tl64 11 (by decide), tl32 100 (by decide), tl64 100 (by decide)] at hc29); (try simp (disch := omega) only [ta_lt, ta_le, ta_eq, tb_lt, tb_le, tb_eq, tw, tnI, tsub1, tsv, tn32 1 (by decide), tnj 1 (by decide), tl32 0 (by decide), tl64 0 (by decide), tl32 1 (by decide), tl64 1 (by decide), tl32 2 (by decide), tl64 2 (by decide), tl32 3 (by decide), tl64 3 (by decide), tl32 4 (by decide), tl64 4 (by decide), tl32 8 (by decide), tl64 8 (by decide), tl32 9 (by decide), tl64 9 (by decide), tl32 10 (by decide), tl64 10 (by decide), tl32 11 (by decide), tl64 11 (by decide), tl32 100 (by decide), tl64 100 (by decide)]); omega) (by (try simp only [lg_cmp_lt, lg_cmp_le, lg_cmp_gt, lg_cmp_ge, lg_cmp_eq] at c5); (try simp (disch := omega) only [ta_lt, ta_le, ta_eq, tb_lt, tb_le, tb_eq, tw, tnI, tsub1, tsv, tn32 1 (by decide), tnj 1 (by decide), tl32 0 (by decide), tl64 0 (by decide), tl32 1 (by decide), tl64 1 (by decide), tl32 2 (by decide), tl64 2 (by decide), tl32 3 (by decide), tl64 3 (by decide), tl32 4 (by decide), tl64 4 (by decide), tl32 8 (by decide), tl64 8 (by decide), tl32 9 (by decide), tl64 9 (by decide), tl32 10 (by decide), tl64 10 (by decide), tl32 11 (by decide), tl64 11 (by decide), tl32 100 (by decide), tl64 100 (by decide)] at c5); (try simp only [lg_cmp_lt, lg_cmp_le, lg_cmp_gt, lg_cmp_ge, lg_cmp_eq] at c20); (try simp (disch := omega) only [ta_lt, ta_le, ta_eq, tb_lt, tb_le, tb_eq, tw, tnI, tsub1, tsv, tn32 1 (by decide), tnj 1 (by decide), tl32 0 (by decide), tl64 0 (by decide), tl32 1 (by decide), tl64 1 (by decide), tl32 2 (by decide), tl64 2 (by decide), tl32 3 (by decide), tl64 3 (by decide), tl32 4 (by decide), tl64 4 (by decide), tl32 8 (by decide), tl64 8 (by decide), tl32 9 (by decide), tl64 9 (by decide), tl32 10 (by decide), tl64 10 (by decide), tl32 11 (by decide), tl64 11 (by decide), tl32 100 (by decide), tl64 100 (by decide)] at c20); (try simp only [lg_cmp_lt, lg_cmp_le, lg_cmp_gt, lg_cmp_ge, lg_cmp_eq] at c21); (try simp (disch := omega) only [ta_lt, ta_le, ta_eq, tb_lt, tb_le, tb_eq, tw, tnI, tsub1, tsv, tn32 1 (by decide), tnj 1 (by decide), tl32 0 (by decide), tl64 0 (by decide), tl32 1 (by decide), tl64 1 (by decide), tl32 2 (by decide), tl64 2 (by decide), tl32 3 (by decide), tl64 3 (by decide), tl32 4 (by decide), tl64 4 (by decide), tl32 8 (by decide), tl64 8 (by decide), tl32 9 (by decide), tl64 9 (by decide), tl32 10 (by decide), tl64 10 (by decide), tl32 11 (by decide), tl64 11 (by decide), tl32 100 (by decide), tl64 100 (by decide)] at c21); (try simp only [lg_cmp_lt, lg_cmp_le, lg_cmp_gt, lg_cmp_ge, lg_cmp_eq] at f24_0); (try simp (disch := omega) only [ta_lt, ta_le, ta_eq, tb_lt, tb_le, tb_eq, tw, tnI, tsub1, tsv, tn32 1 (by decide), tnj 1 (by decide), tl32 0 (by decide), tl64 0 (by decide), tl32 1 (by decide), tl64 1 (by decide), tl32 2 (by decide), tl64 2 (by decide), tl32 3 (by decide), tl64 3 (by decide), tl32 4 (by decide), tl64 4 (by decide), tl32 8 (by decide), tl64 8 (by decide), tl32 9 (by decide), tl64 9 (by decide), tl32 10 (by decide), tl64 10 (by decide), tl32 11 (by decide), tl64 11 (by decide), tl32 100 (by decide), tl64 100 (by decide)] at f24_0); (try simp only [lg_cmp_lt, lg_cmp_le, lg_cmp_gt, lg_cmp_ge, lg_cmp_eq] at f29_0); (try simp (disch := omega) only [ta_lt, ta_le, ta_eq, tb_lt, tb_le, tb_eq, tw, tnI, tsub1, tsv, tn32 1 (by decide), tnj 1 (by decide), tl32 0 (by decide), tl64 0 (by decide), tl32 1 (by decide), tl64 1 (by decide), tl32 2 (by decide), tl64 2 (by decide), tl32 3 (by decide), tl64 3 (by decide), tl32 4 (by decide), tl64 4 (by decide), tl32 8 (by decide), tl64 8 (by decide), tl32 9 (by decide), tl64 9 (by decide), tl32 10 (by decide), tl64 10 (by decide), tl32 11 (by decide), tl64 11 (by decide), tl32 100 (by decide), tl64 100 (by decide)] at f29_0); (try simp only [lg_cmp_lt, lg_cmp_le, lg_cmp_gt, lg_cmp_ge, lg_cmp_eq] at hc29); (try simp (disch := omega) only [ta_lt, ta_le, ta_eq, tb_lt, tb_le, tb_eq, tw, tnI, tsub1, tsv, tn32 1 (by decide), tnj 1 (by decide), tl32 0 (by decide), tl64 0 (by decide), tl32 1 (by decide), tl64 1 (by decide), tl32 2 (by decide), tl64 2 (by decide), tl32 3 (by decide), tl64 3 (by decide), tl32 4 (by decide), tl64 4 (by decide), tl32 8 (by decide), tl64 8 (by decide), tl32 9 (by decide), tl64 9 (by decide), tl32 10 (by decide), tl64 10 (by decide), tl32 11 (by decide), tl64 11 (by decide), tl32 100 (by decide), tl64 100 (by decide)] at hc29); (try simp (disch := omega) only [ta_lt, ta_le, ta_eq, tb_lt, tb_le, tb_eq, tw, tnI, tsub1, tsv, tn32 1 (by decide), tnj 1 (by decide), tl32 0 (by decide), tl64 0 (by decide), tl32 1 (by decide), tl64 1 (by decide), tl32 2 (by decide), tl64 2 (by decide), tl32 3 (by decide), tl64 3 (by decide), tl32 4 (by decide), tl64 4 (by decide), tl32 8 (by decide), tl64 8 (by decide), tl32 9 (by decide), tl64 9 (by decide), tl32 10 (by decide), tl64 10 (by decide), tl32 11 (by decide), tl64 11 (by decide), tl32 100 (by decide), tl64 100 (by decide)]); omega) hT30 hF30 hw (lv_sub hl [0, 1, 5, 6, 7, 8] rfl)
            · skip
              refine lv_if_eq (tgt := 176) hx hb (dkS dF_153 DX12_madeCase (i := 99) rfl rfl rfl) (by decide) (fun _ => ?_) (fun h => absurd h (by decide))
              refine lv_iconst (v := 1) hx hb (dkP dF_4 DX12_madeCase (i := 102) rfl rfl) (by decide) ?_
              refine z_iastN (n := 414128) C0 hw 1 ((3880 + 12 * (100 * (40 * pg + cs) + q4_11)) + 11) rfl (by omega) (by decide) (dkP dF_79 DX12_madeCase (i := 103) rfl rfl) (fun H locs hw => ?_)
              have hT31 : TM (sI (sI (sI s24 1 ((3880 + 12 * (100 * (40 * pg + cs) + q4_11)) + 9) v25) 1 ((3880 + 12 * (100 * (40 * pg + cs) + q4_11)) + 10) v27) 1 ((3880 + 12 * (100 * (40 * pg + cs) + q4_11)) + 11) 1) := TM.w hT28 (ty_tw (by omega) (by omega))
              have hF31 : fr [1, 28, 29] [] σ (sI (sI (sI s24 1 ((3880 + 12 * (100 * (40 * pg + cs) + q4_11)) + 9) v25) 1 ((3880 + 12 * (100 * (40 * pg + cs) + q4_11)) + 10) v27) 1 ((3880 + 12 * (100 * (40 * pg + cs) + q4_11)) + 11) 1) := fr.w hF28 (Or.inl ⟨by decide, by decide⟩)
              refine lv_iinc (v := nI (q4_11 + 1)) (lv' := [(4, .int (nI (q4_11 + 1))), (8, .int (nI (3880 + 12 * (100 * (40 * pg + cs) + q4_11)))), (7, .int (nI (168 + 16 * (24 * pg + n17)))), (6, .int (nI n17)), (5, .int (nI q5_11)), (0, .ref (ad 0)), (1, .int (nI pg)), (2, .int (nI wy)), (3, .int (nI cs))]) hx hb (dkI DX12_madeCase (i := 104) rfl rfl rfl rfl) hl (k := 4) rfl (nI_1 _) (by decide) rfl (fun ls hl => ?_)
              refine lv_iinc (v := nI (q5_11 + 1)) (lv' := [(5, .int (nI (q5_11 + 1))), (4, .int (nI (q4_11 + 1))), (8, .int (nI (3880 + 12 * (100 * (40 * pg + cs) + q4_11)))), (7, .int (nI (168 + 16 * (24 * pg + n17)))), (6, .int (nI n17)), (0, .ref (ad 0)), (1, .int (nI pg)), (2, .int (nI wy)), (3, .int (nI cs))]) hx hb (dkI DX12_madeCase (i := 105) rfl rfl rfl rfl) hl (k := 4) rfl (nI_1 _) (by decide) rfl (fun ls hl => ?_)
              refine lv_goto (tgt := 11) hx hb (dkS dF_167 DX12_madeCase (i := 106) rfl rfl rfl) (by decide) ?_
              exact ih3 (q5_11 + 1) (q4_11 + 1) (sI (sI (sI s24 1 ((3880 + 12 * (100 * (40 * pg + cs) + q4_11)) + 9) v25) 1 ((3880 + 12 * (100 * (40 * pg + cs) + q4_11)) + 10) v27) 1 ((3880 + 12 * (100 * (40 * pg + cs) + q4_11)) + 11) 1) _ _ _ (by omega) (by (try simp only [lg_cmp_lt, lg_cmp_le, lg_cmp_gt, lg_cmp_ge, lg_cmp_eq] at c5); (try simp (disch := omega) only [ta_lt, ta_le, ta_eq, tb_lt, tb_le, tb_eq, tw, tnI, tsub1, tsv, tn32 1 (by decide), tnj 1 (by decide), tl32 0 (by decide), tl64 0 (by decide), tl32 1 (by decide), tl64 1 (by decide), tl32 2 (by decide), tl64 2 (by decide), tl32 3 (by decide), tl64 3 (by decide), tl32 4 (by decide), tl64 4 (by decide), tl32 8 (by decide), tl64 8 (by decide), tl32 9 (by decide), tl64 9 (by decide), tl32 10 (by decide), tl64 10 (by decide), tl32 11 (by decide), tl64 11 (by decide), tl32 100 (by decide), tl64 100 (by decide)] at c5); (try simp only [lg_cmp_lt, lg_cmp_le, lg_cmp_gt, lg_cmp_ge, lg_cmp_eq] at c20); (try simp (disch := omega) only [ta_lt, ta_le, ta_eq, tb_lt, tb_le, tb_eq, tw, tnI, tsub1, tsv, tn32 1 (by decide), tnj 1 (by decide), tl32 0 (by decide), tl64 0 (by decide), tl32 1 (by decide), tl64 1 (by decide), tl32 2 (by decide), tl64 2 (by decide), tl32 3 (by decide), tl64 3 (by decide), tl32 4 (by decide), tl64 4 (by decide), tl32 8 (by decide), tl64 8 (by decide), tl32 9 (by decide), tl64 9 (by decide), tl32 10 (by decide), tl64 10 (by decide), tl32 11 (by decide), tl64 11 (by decide), tl32 100 (by decide), tl64 100 (by decide)] at c20); (try simp only [lg_cmp_lt, lg_cmp_le, lg_cmp_gt, lg_cmp_ge, lg_cmp_eq] at c21); (try simp (disch := omega) only [ta_lt, ta_le, ta_eq, tb_lt, tb_le, tb_eq, tw, tnI, tsub1, tsv, tn32 1 (by decide), tnj 1 (by decide), tl32 0 (by decide), tl64 0 (by decide), tl32 1 (by decide), tl64 1 (by decide), tl32 2 (by decide), tl64 2 (by decide), tl32 3 (by decide), tl64 3 (by decide), tl32 4 (by decide), tl64 4 (by decide), tl32 8 (by decide), tl64 8 (by decide), tl32 9 (by decide), tl64 9 (by decide), tl32 10 (by decide), tl64 10 (by decide), tl32 11 (by decide), tl64 11 (by decide), tl32 100 (by decide), tl64 100 (by decide)] at c21); (try simp only [lg_cmp_lt, lg_cmp_le, lg_cmp_gt, lg_cmp_ge, lg_cmp_eq] at f24_0); (try simp (disch := omega) only [ta_lt, ta_le, ta_eq, tb_lt, tb_le, tb_eq, tw, tnI, tsub1, tsv, tn32 1 (by decide), tnj 1 (by decide), tl32 0 (by decide), tl64 0 (by decide), tl32 1 (by decide), tl64 1 (by decide), tl32 2 (by decide), tl64 2 (by decide), tl32 3 (by decide), tl64 3 (by decide), tl32 4 (by decide), tl64 4 (by decide), tl32 8 (by decide), tl64 8 (by decide), tl32 9 (by decide), tl64 9 (by decide), tl32 10 (by decide), tl64 10 (by decide), tl32 11 (by decide), tl64 11 (by decide), tl32 100 (by decide), tl64 100 (by decide)] at f24_0); (try simp only [lg_cmp_lt, lg_cmp_le, lg_cmp_gt, lg_cmp_ge, lg_cmp_eq] at f29_0); (try simp (disch := omega) only [ta_lt, ta_le, ta_eq, tb_lt, tb_le, tb_eq, tw, tnI, tsub1, tsv, tn32 1 (by decide), tnj 1 (by decide), tl32 0 (by decide), tl64 0 (by decide), tl32 1 (by decide), tl64 1 (by decide), tl32 2 (by decide), tl64 2 (by decide), tl32 3 (by decide), tl64 3 (by decide), tl32 4 (by decide), tl64 4 (by decide), tl32 8 (by decide), tl64 8 (by decide), tl32 9 (by decide), tl64 9 (by decide), tl32 10 (by decide), tl64 10 (by decide), tl32 11 (by decide), tl64 11 (by decide), tl32 100 (by decide), tl64 100 (by decide)] at f29_0); (try simp only [lg_cmp_lt, lg_cmp_le, lg_cmp_gt, lg_cmp_ge, lg_cmp_eq] at hc29); (try simp (disch := omega) only [ta_lt, ta_le, ta_eq, tb_lt, tb_le, tb_eq, tw, tnI, tsub1, tsv, tn32 1 (by decide), tnj 1 (by decide), tl32 0 (by decide), tl64 0 (by decide), tl32 1 (by decide), tl64 1 (by decide), tl32 2 (by decide), tl64 2 (by decide), tl32 3 (by decide), tl64 3 (by decide), tl32 4 (by decide), tl64 4 (by decide), tl32 8 (by decide), tl64 8 (by decide), tl32 9 (by decide), tl64 9 (by decide), tl32 10 (by decide), tl64 10 (by decide), tl32 11 (by decide), tl64 11 (by decide), tl32 100 (by decide), tl64 100 (by decide)] at hc29); (try simp (disch := omega) only [ta_lt, ta_le, ta_eq, tb_lt, tb_le, tb_eq, tw, tnI, tsub1, tsv, tn32 1 (by decide), tnj 1 (by decide), tl32 0 (by decide), tl64 0 (by decide), tl32 1 (by decide), tl64 1 (by decide), tl32 2 (by decide), tl64 2 (by decide), tl32 3 (by decide), tl64 3 (by decide), tl32 4 (by decide), tl64 4 (by decide), tl32 8 (by decide), tl64 8 (by decide), tl32 9 (by decide), tl64 9 (by decide), tl32 10 (by decide), tl64 10 (by decide), tl32 11 (by decide), tl64 11 (by decide), tl32 100 (by decide), tl64 100 (by decide)]); omega) (by (try simp only [lg_cmp_lt, lg_cmp_le, lg_cmp_gt, lg_cmp_ge, lg_cmp_eq] at c5); (try simp (disch := omega) only [ta_lt, ta_le, ta_eq, tb_lt, tb_le, tb_eq, tw, tnI, tsub1, tsv, tn32 1 (by decide), tnj 1 (by decide), tl32 0 (by decide), tl64 0 (by decide), tl32 1 (by decide), tl64 1 (by decide), tl32 2 (by decide), tl64 2 (by decide), tl32 3 (by decide), tl64 3 (by decide), tl32 4 (by decide), tl64 4 (by decide), tl32 8 (by decide), tl64 8 (by decide), tl32 9 (by decide), tl64 9 (by decide), tl32 10 (by decide), tl64 10 (by decide), tl32 11 (by decide), tl64 11 (by decide), tl32 100 (by decide), tl64 100 (by decide)] at c5); (try simp only [lg_cmp_lt, lg_cmp_le, lg_cmp_gt, lg_cmp_ge, lg_cmp_eq] at c20); (try simp (disch := omega) only [ta_lt, ta_le, ta_eq, tb_lt, tb_le, tb_eq, tw, tnI, tsub1, tsv, tn32 1 (by decide), tnj 1 (by decide), tl32 0 (by decide), tl64 0 (by decide), tl32 1 (by decide), tl64 1 (by decide), tl32 2 (by decide), tl64 2 (by decide), tl32 3 (by decide), tl64 3 (by decide), tl32 4 (by decide), tl64 4 (by decide), tl32 8 (by decide), tl64 8 (by decide), tl32 9 (by decide), tl64 9 (by decide), tl32 10 (by decide), tl64 10 (by decide), tl32 11 (by decide), tl64 11 (by decide), tl32 100 (by decide), tl64 100 (by decide)] at c20); (try simp only [lg_cmp_lt, lg_cmp_le, lg_cmp_gt, lg_cmp_ge, lg_cmp_eq] at c21); (try simp (disch := omega) only [ta_lt, ta_le, ta_eq, tb_lt, tb_le, tb_eq, tw, tnI, tsub1, tsv, tn32 1 (by decide), tnj 1 (by decide), tl32 0 (by decide), tl64 0 (by decide), tl32 1 (by decide), tl64 1 (by decide), tl32 2 (by decide), tl64 2 (by decide), tl32 3 (by decide), tl64 3 (by decide), tl32 4 (by decide), tl64 4 (by decide), tl32 8 (by decide), tl64 8 (by decide), tl32 9 (by decide), tl64 9 (by decide), tl32 10 (by decide), tl64 10 (by decide), tl32 11 (by decide), tl64 11 (by decide), tl32 100 (by decide), tl64 100 (by decide)] at c21); (try simp only [lg_cmp_lt, lg_cmp_le, lg_cmp_gt, lg_cmp_ge, lg_cmp_eq] at f24_0); (try simp (disch := omega) only [ta_lt, ta_le, ta_eq, tb_lt, tb_le, tb_eq, tw, tnI, tsub1, tsv, tn32 1 (by decide), tnj 1 (by decide), tl32 0 (by decide), tl64 0 (by decide), tl32 1 (by decide), tl64 1 (by decide), tl32 2 (by decide), tl64 2 (by decide), tl32 3 (by decide), tl64 3 (by decide), tl32 4 (by decide), tl64 4 (by decide), tl32 8 (by decide), tl64 8 (by decide), tl32 9 (by decide), tl64 9 (by decide), tl32 10 (by decide), tl64 10 (by decide), tl32 11 (by decide), tl64 11 (by decide), tl32 100 (by decide), tl64 100 (by decide)] at f24_0); (try simp only [lg_cmp_lt, lg_cmp_le, lg_cmp_gt, lg_cmp_ge, lg_cmp_eq] at f29_0); (try simp (disch := omega) only [ta_lt, ta_le, ta_eq, tb_lt, tb_le, tb_eq, tw, tnI, tsub1, tsv, tn32 1 (by decide), tnj 1 (by decide), tl32 0 (by decide), tl64 0 (by decide), tl32 1 (by decide), tl64 1 (by decide), tl32 2 (by decide), tl64 2 (by decide), tl32 3 (by decide), tl64 3 (by decide), tl32 4 (by decide), tl64 4 (by decide), tl32 8 (by decide), tl64 8 (by decide), tl32 9 (by decide), tl64 9 (by decide), tl32 10 (by decide), tl64 10 (by decide), tl32 11 (by decide), tl64 11 (by decide), tl32 100 (by decide), tl64 100 (by decide)] at f29_0); (try simp only [lg_cmp_lt, lg_cmp_le, lg_cmp_gt, lg_cmp_ge, lg_cmp_eq] at hc29); (try simp (disch := omega) only [ta_lt, ta_le, ta_eq, tb_lt, tb_le, tb_eq, tw, tnI, tsub1, tsv, tn32 1 (by decide), tnj 1 (by decide), tl32 0 (by decide), tl64 0 (by decide), tl32 1 (by decide), tl64 1 (by decide), tl32 2 (by decide), tl64 2 (by decide), tl32 3 (by decide), tl64 3 (by decide), tl32 4 (by decide), tl64 4 (by decide), tl32 8 (by decide), tl64 8 (by decide), tl32 9 (by decide), tl64 9 (by decide), tl32 10 (by decide), tl64 10 (by decide), tl32 11 (by decide), tl64 11 (by decide), tl32 100 (by decide), tl64 100 (by decide)] at hc29); (try simp (disch := omega) only [ta_lt, ta_le, ta_eq, tb_lt, tb_le, tb_eq, tw, tnI, tsub1, tsv, tn32 1 (by decide), tnj 1 (by decide), tl32 0 (by decide), tl64 0 (by decide), tl32 1 (by decide), tl64 1 (by decide), tl32 2 (by decide), tl64 2 (by decide), tl32 3 (by decide), tl64 3 (by decide), tl32 4 (by decide), tl64 4 (by decide), tl32 8 (by decide), tl64 8 (by decide), tl32 9 (by decide), tl64 9 (by decide), tl32 10 (by decide), tl64 10 (by decide), tl32 11 (by decide), tl64 11 (by decide), tl32 100 (by decide), tl64 100 (by decide)]); omega) hT31 hF31 hw (lv_sub hl [0, 1, 5, 6, 7, 8] rfl)
          · (try simp (disch := omega) only [ta_lt, ta_le, ta_eq, tnI, tl32 1 (by decide)] at c21)
            refine lv_goto (tgt := 181) hx hb (dkS dF_167 DX12_madeCase (i := 44) rfl rfl rfl) (by decide) ?_
            refine lv_iinc (v := nI (q5_11 + 1)) (lv' := [(5, .int (nI (q5_11 + 1))), (7, .int (nI (168 + 16 * (24 * pg + n17)))), (6, .int (nI n17)), (4, .int (nI q4_11)), (0, .ref (ad 0)), (1, .int (nI pg)), (2, .int (nI wy)), (3, .int (nI cs))]) hx hb (dkI DX12_madeCase (i := 105) rfl rfl rfl rfl) hl (k := 2) rfl (nI_1 _) (by decide) rfl (fun ls hl => ?_)
            refine lv_goto (tgt := 11) hx hb (dkS dF_167 DX12_madeCase (i := 106) rfl rfl rfl) (by decide) ?_
            exact ih3 (q5_11 + 1) q4_11 τ2 _ _ _ (by omega) (by (try simp only [lg_cmp_lt, lg_cmp_le, lg_cmp_gt, lg_cmp_ge, lg_cmp_eq] at c5); (try simp (disch := omega) only [ta_lt, ta_le, ta_eq, tb_lt, tb_le, tb_eq, tw, tnI, tsub1, tsv, tn32 1 (by decide), tnj 1 (by decide), tl32 0 (by decide), tl64 0 (by decide), tl32 1 (by decide), tl64 1 (by decide), tl32 2 (by decide), tl64 2 (by decide), tl32 3 (by decide), tl64 3 (by decide), tl32 4 (by decide), tl64 4 (by decide), tl32 8 (by decide), tl64 8 (by decide), tl32 9 (by decide), tl64 9 (by decide), tl32 10 (by decide), tl64 10 (by decide), tl32 11 (by decide), tl64 11 (by decide), tl32 100 (by decide), tl64 100 (by decide)] at c5); (try simp only [lg_cmp_lt, lg_cmp_le, lg_cmp_gt, lg_cmp_ge, lg_cmp_eq] at c20); (try simp (disch := omega) only [ta_lt, ta_le, ta_eq, tb_lt, tb_le, tb_eq, tw, tnI, tsub1, tsv, tn32 1 (by decide), tnj 1 (by decide), tl32 0 (by decide), tl64 0 (by decide), tl32 1 (by decide), tl64 1 (by decide), tl32 2 (by decide), tl64 2 (by decide), tl32 3 (by decide), tl64 3 (by decide), tl32 4 (by decide), tl64 4 (by decide), tl32 8 (by decide), tl64 8 (by decide), tl32 9 (by decide), tl64 9 (by decide), tl32 10 (by decide), tl64 10 (by decide), tl32 11 (by decide), tl64 11 (by decide), tl32 100 (by decide), tl64 100 (by decide)] at c20); (try simp only [lg_cmp_lt, lg_cmp_le, lg_cmp_gt, lg_cmp_ge, lg_cmp_eq] at c21); (try simp (disch := omega) only [ta_lt, ta_le, ta_eq, tb_lt, tb_le, tb_eq, tw, tnI, tsub1, tsv, tn32 1 (by decide), tnj 1 (by decide), tl32 0 (by decide), tl64 0 (by decide), tl32 1 (by decide), tl64 1 (by decide), tl32 2 (by decide), tl64 2 (by decide), tl32 3 (by decide), tl64 3 (by decide), tl32 4 (by decide), tl64 4 (by decide), tl32 8 (by decide), tl64 8 (by decide), tl32 9 (by decide), tl64 9 (by decide), tl32 10 (by decide), tl64 10 (by decide), tl32 11 (by decide), tl64 11 (by decide), tl32 100 (by decide), tl64 100 (by decide)] at c21); (try simp (disch := omega) only [ta_lt, ta_le, ta_eq, tb_lt, tb_le, tb_eq, tw, tnI, tsub1, tsv, tn32 1 (by decide), tnj 1 (by decide), tl32 0 (by decide), tl64 0 (by decide), tl32 1 (by decide), tl64 1 (by decide), tl32 2 (by decide), tl64 2 (by decide), tl32 3 (by decide), tl64 3 (by decide), tl32 4 (by decide), tl64 4 (by decide), tl32 8 (by decide), tl64 8 (by decide), tl32 9 (by decide), tl64 9 (by decide), tl32 10 (by decide), tl64 10 (by decide), tl32 11 (by decide), tl64 11 (by decide), tl32 100 (by decide), tl64 100 (by decide)]); omega) (by (try simp only [lg_cmp_lt, lg_cmp_le, lg_cmp_gt, lg_cmp_ge, lg_cmp_eq] at c5); (try simp (disch := omega) only [ta_lt, ta_le, ta_eq, tb_lt, tb_le, tb_eq, tw, tnI, tsub1, tsv, tn32 1 (by decide), tnj 1 (by decide), tl32 0 (by decide), tl64 0 (by decide), tl32 1 (by decide), tl64 1 (by decide), tl32 2 (by decide), tl64 2 (by decide), tl32 3 (by decide), tl64 3 (by decide), tl32 4 (by decide), tl64 4 (by decide), tl32 8 (by decide), tl64 8 (by decide), tl32 9 (by decide), tl64 9 (by decide), tl32 10 (by decide), tl64 10 (by decide), tl32 11 (by decide), tl64 11 (by decide), tl32 100 (by decide), tl64 100 (by decide)] at c5); (try simp only [lg_cmp_lt, lg_cmp_le, lg_cmp_gt, lg_cmp_ge, lg_cmp_eq] at c20); (try simp (disch := omega) only [ta_lt, ta_le, ta_eq, tb_lt, tb_le, tb_eq, tw, tnI, tsub1, tsv, tn32 1 (by decide), tnj 1 (by decide), tl32 0 (by decide), tl64 0 (by decide), tl32 1 (by decide), tl64 1 (by decide), tl32 2 (by decide), tl64 2 (by decide), tl32 3 (by decide), tl64 3 (by decide), tl32 4 (by decide), tl64 4 (by decide), tl32 8 (by decide), tl64 8 (by decide), tl32 9 (by decide), tl64 9 (by decide), tl32 10 (by decide), tl64 10 (by decide), tl32 11 (by decide), tl64 11 (by decide), tl32 100 (by decide), tl64 100 (by decide)] at c20); (try simp only [lg_cmp_lt, lg_cmp_le, lg_cmp_gt, lg_cmp_ge, lg_cmp_eq] at c21); (try simp (disch := omega) only [ta_lt, ta_le, ta_eq, tb_lt, tb_le, tb_eq, tw, tnI, tsub1, tsv, tn32 1 (by decide), tnj 1 (by decide), tl32 0 (by decide), tl64 0 (by decide), tl32 1 (by decide), tl64 1 (by decide), tl32 2 (by decide), tl64 2 (by decide), tl32 3 (by decide), tl64 3 (by decide), tl32 4 (by decide), tl64 4 (by decide), tl32 8 (by decide), tl64 8 (by decide), tl32 9 (by decide), tl64 9 (by decide), tl32 10 (by decide), tl64 10 (by decide), tl32 11 (by decide), tl64 11 (by decide), tl32 100 (by decide), tl64 100 (by decide)] at c21); (try simp (disch := omega) only [ta_lt, ta_le, ta_eq, tb_lt, tb_le, tb_eq, tw, tnI, tsub1, tsv, tn32 1 (by decide), tnj 1 (by decide), tl32 0 (by decide), tl64 0 (by decide), tl32 1 (by decide), tl64 1 (by decide), tl32 2 (by decide), tl64 2 (by decide), tl32 3 (by decide), tl64 3 (by decide), tl32 4 (by decide), tl64 4 (by decide), tl32 8 (by decide), tl64 8 (by decide), tl32 9 (by decide), tl64 9 (by decide), tl32 10 (by decide), tl64 10 (by decide), tl32 11 (by decide), tl64 11 (by decide), tl32 100 (by decide), tl64 100 (by decide)]); omega) hT_τ2 hF_τ2 hw (lv_sub hl [0, 3, 4, 5, 6, 7] rfl)
        · (try simp (disch := omega) only [ta_lt, ta_le, ta_eq, tnI, tl32 0 (by decide)] at c20)
          refine lv_aload_n hx hb (dkP dF_42 DX12_madeCase (i := 33) rfl rfl) rfl (lv_at hl 4 rfl) ?_
          refine lv_iload hx hb (dk1 dF_21 DX12_madeCase (i := 34) rfl rfl rfl) (lv_at hl 0 rfl) ?_
          obtain ⟨n32, hn32, en32⟩ := rngN (x := τ2.1 1 (168 + 16 * (24 * pg + n17) + 2)) (h := 7) (wTy_l (by omega) (by omega) (hT_τ2 1 _))
          refine zk_V hw (zr_V (As := [.int (nI (168 + 16 * (24 * pg + n17)))]) (rest := []) C0 (c_X12_makes l G kc ad τ2 (168 + 16 * (24 * pg + n17)) (by omega) (by omega) en32 hT_τ2 _) cv_X12_makes lk_X12_393 (zp_V C0 hRo hw 0 rfl rfl rfl) rfl hl.1 rfl ⟨by decide, by decide⟩ (Nat.le_of_ble_eq_true rfl) (dk2 dF_182 DX12_madeCase (i := 35) rfl rfl rfl) ⟨Nat.le_refl _, Nat.le_refl _⟩) (fun s33 H locs hp hw => ?_)
          obtain ⟨hT33, hG33⟩ := hp
          have hF33 : fr [1, 28, 29] [] σ s33 := fr.t hF_τ2 hG33 (by decide) (by decide)
          refine lv_aload_n hx hb (dkP dF_42 DX12_madeCase (i := 36) rfl rfl) rfl (lv_at hl 4 rfl) ?_
          refine z_gr C0 hw 0 1 1 rfl fl_X12_20 (dk2 dF_180 DX12_madeCase (i := 37) rfl rfl rfl) ?_
          refine lv_iload hx hb (dk1 dF_21 DX12_madeCase (i := 38) rfl rfl rfl) (lv_at hl 0 rfl) ?_
          refine lv_iconst (v := 1) hx hb (dkP dF_4 DX12_madeCase (i := 39) rfl rfl) (by decide) ?_
          refine lv_iadd hx hb (dkP dF_96 DX12_madeCase (i := 40) rfl rfl) ?_
          refine z_top (y := nI ((168 + 16 * (24 * pg + n17)) + 1)) (by simp only [fa_lit, nI_add, pk_mul]) ?_
          refine z_ialdN (n := 414128) C0 hw 1 ((168 + 16 * (24 * pg + n17)) + 1) rfl (by omega) (by decide) (dkP dF_46 DX12_madeCase (i := 41) rfl rfl) ?_
          refine z_top (y := v19) ((congrFun (hG33.1 1 (by decide) (by decide)) _).trans ev19) ?_
          refine lv_iconst (v := 1) hx hb (dkP dF_4 DX12_madeCase (i := 42) rfl rfl) (by decide) ?_
          refine lv_icmp_eq (tgt := 78) hx hb (dkS dF_159 DX12_madeCase (i := 43) rfl rfl rfl) (by decide) (fun c34 => ?_) (fun c34 => ?_)
          · (try simp (disch := omega) only [ta_lt, ta_le, ta_eq, tnI, tl32 1 (by decide)] at c34)
            refine lv_iload_n hx hb (dkP dF_27 DX12_madeCase (i := 45) rfl rfl) rfl (lv_at hl 5 rfl) ?_
            refine lv_iload_n hx hb (dkP dF_29 DX12_madeCase (i := 46) rfl rfl) rfl (lv_at hl 7 rfl) ?_
            refine lv_iload hx hb (dk1 dF_21 DX12_madeCase (i := 47) rfl rfl rfl) (lv_at hl 3 rfl) ?_
            refine zn_I hw (zr_S (As := [.int (nI pg), .int (nI cs), .int (nI q4_11)]) (rest := []) C0 (c_X12_testAt l G kc pg cs q4_11  _) cs_X12_testAt lk_X12_313 (zp_P C0 hRo hw a00 s00) rfl hl.1 rfl ⟨by decide, by decide⟩ (Nat.le_of_ble_eq_true rfl) (dk2 dF_184 DX12_madeCase (i := 48) rfl rfl rfl) ⟨Nat.le_refl _, Nat.le_refl _⟩) (fun r35 s35 H locs hp hw => ?_)
            subst hp
            refine lv_istore (lv' := [(8, .int (nI (3880 + 12 * (100 * (40 * pg + cs) + q4_11)))), (7, .int (nI (168 + 16 * (24 * pg + n17)))), (6, .int (nI n17)), (5, .int (nI q5_11)), (4, .int (nI q4_11)), (0, .ref (ad 0)), (1, .int (nI pg)), (2, .int (nI wy)), (3, .int (nI cs))]) hx hb (dk1 dF_54 DX12_madeCase (i := 49) rfl rfl rfl) hl (by decide) rfl (fun ls hl => ?_)
            refine lv_aload_n hx hb (dkP dF_42 DX12_madeCase (i := 50) rfl rfl) rfl (lv_at hl 5 rfl) ?_
            refine z_gr C0 hw 0 44 28 rfl fl_X12_111 (dk2 dF_180 DX12_madeCase (i := 51) rfl rfl rfl) ?_
            refine lv_bipush (v := 9) hx hb (dks dF_16 DX12_madeCase (i := 52) rfl rfl rfl) (by decide) ?_
            refine lv_aload_n hx hb (dkP dF_42 DX12_madeCase (i := 53) rfl rfl) rfl (lv_at hl 5 rfl) ?_
            refine z_gr C0 hw 0 1 1 rfl fl_X12_20 (dk2 dF_180 DX12_madeCase (i := 54) rfl rfl rfl) ?_
            refine lv_iload hx hb (dk1 dF_21 DX12_madeCase (i := 55) rfl rfl rfl) (lv_at hl 1 rfl) ?_
            refine lv_iconst (v := 2) hx hb (dkP dF_5 DX12_madeCase (i := 56) rfl rfl) (by decide) ?_
            refine lv_iadd hx hb (dkP dF_96 DX12_madeCase (i := 57) rfl rfl) ?_
            refine z_top (y := nI ((168 + 16 * (24 * pg + n17)) + 2)) (by simp only [fa_lit, nI_add, pk_mul]) ?_
            refine z_ialdN (n := 414128) C0 hw 1 ((168 + 16 * (24 * pg + n17)) + 2) rfl (by omega) (by decide) (dkP dF_46 DX12_madeCase (i := 58) rfl rfl) ?_
            refine z_top (y := (nI n32)) ((congrFun (hG33.1 1 (by decide) (by decide)) _).trans en32) ?_
            refine lv_imul hx hb (dkP dF_104 DX12_madeCase (i := 59) rfl rfl) ?_
            refine z_top (y := nI (9 * n32)) (by simp only [fa_lit, nI_add, pk_mul]) ?_
            refine lv_aload_n hx hb (dkP dF_42 DX12_madeCase (i := 60) rfl rfl) rfl (lv_at hl 5 rfl) ?_
            refine z_gr C0 hw 0 1 1 rfl fl_X12_20 (dk2 dF_180 DX12_madeCase (i := 61) rfl rfl rfl) ?_
            refine lv_iload hx hb (dk1 dF_21 DX12_madeCase (i := 62) rfl rfl rfl) (lv_at hl 0 rfl) ?_
            refine lv_bipush (v := 9) hx hb (dks dF_16 DX12_madeCase (i := 63) rfl rfl rfl) (by decide) ?_
            refine zk_V hw (zr_S (As := [.ref (ad 28), .int (nI (9 * n32)), .ref (ad 1), .int (nI (3880 + 12 * (100 * (40 * pg + cs) + q4_11))), .int 9]) (rest := []) C0 (c_X12_lays_28_1 l G kc ad s33 (9 * n32) (3880 + 12 * (100 * (40 * pg + cs) + q4_11)) 9 (by omega) (by omega) (fun i hi v h => ty_tw (by omega) (by omega)) hT33 _) cs_X12_lays lk_X12_255 (zp_S C0 hRo hw) rfl hl.1 rfl ⟨by decide, by decide⟩ (Nat.le_of_ble_eq_true rfl) (dk2 dF_184 DX12_madeCase (i := 64) rfl rfl rfl) ⟨Nat.le_refl _, Nat.le_refl _⟩) (fun s36 H locs hp hw => ?_)
            obtain ⟨f36_0, hT36, hG36⟩ := hp
            have hF36 : fr [1, 28, 29] [] σ s36 := fr.t hF33 hG36 (by decide) (by decide)
            refine lv_aload_n hx hb (dkP dF_42 DX12_madeCase (i := 65) rfl rfl) rfl (lv_at hl 5 rfl) ?_
            refine z_gr C0 hw 0 1 1 rfl fl_X12_20 (dk2 dF_180 DX12_madeCase (i := 66) rfl rfl rfl) ?_
            refine lv_iload hx hb (dk1 dF_21 DX12_madeCase (i := 67) rfl rfl rfl) (lv_at hl 0 rfl) ?_
            refine lv_bipush (v := 9) hx hb (dks dF_16 DX12_madeCase (i := 68) rfl rfl rfl) (by decide) ?_
            refine lv_iadd hx hb (dkP dF_96 DX12_madeCase (i := 69) rfl rfl) ?_
            refine z_top (y := nI ((3880 + 12 * (100 * (40 * pg + cs) + q4_11)) + 9)) (by simp only [fa_lit, nI_add, pk_mul]) ?_
            refine lv_aload_n hx hb (dkP dF_42 DX12_madeCase (i := 70) rfl rfl) rfl (lv_at hl 5 rfl) ?_
            refine z_gr C0 hw 0 1 1 rfl fl_X12_20 (dk2 dF_180 DX12_madeCase (i := 71) rfl rfl rfl) ?_
            refine lv_iload hx hb (dk1 dF_21 DX12_madeCase (i := 72) rfl rfl rfl) (lv_at hl 1 rfl) ?_
            refine lv_iconst (v := 3) hx hb (dkP dF_6 DX12_madeCase (i := 73) rfl rfl) (by decide) ?_
            refine lv_iadd hx hb (dkP dF_96 DX12_madeCase (i := 74) rfl rfl) ?_
            refine z_top (y := nI ((168 + 16 * (24 * pg + n17)) + 3)) (by simp only [fa_lit, nI_add, pk_mul]) ?_
            refine z_ialdN (n := 414128) C0 hw 1 ((168 + 16 * (24 * pg + n17)) + 3) rfl (by omega) (by decide) (dkP dF_46 DX12_madeCase (i := 75) rfl rfl) ?_
            obtain ⟨v37, ev37⟩ : ∃ y : Int32, s36.1 1 ((168 + 16 * (24 * pg + n17)) + 3) = y := ⟨_, rfl⟩
            refine z_top (y := v37) ev37 ?_
            refine z_iastN (n := 414128) C0 hw 1 ((3880 + 12 * (100 * (40 * pg + cs) + q4_11)) + 9) rfl (by omega) (by decide) (dkP dF_79 DX12_madeCase (i := 76) rfl rfl) (fun H locs hw => ?_)
            have hT38 : TM (sI s36 1 ((3880 + 12 * (100 * (40 * pg + cs) + q4_11)) + 9) v37) := TM.w hT36 (ty_tw (by omega) (by omega))
            have hF38 : fr [1, 28, 29] [] σ (sI s36 1 ((3880 + 12 * (100 * (40 * pg + cs) + q4_11)) + 9) v37) := fr.w hF36 (Or.inl ⟨by decide, by decide⟩)
            refine lv_aload_n hx hb (dkP dF_42 DX12_madeCase (i := 77) rfl rfl) rfl (lv_at hl 5 rfl) ?_
            refine z_gr C0 hw 0 1 1 rfl fl_X12_20 (dk2 dF_180 DX12_madeCase (i := 78) rfl rfl rfl) ?_
            refine lv_iload hx hb (dk1 dF_21 DX12_madeCase (i := 79) rfl rfl rfl) (lv_at hl 0 rfl) ?_
            refine lv_bipush (v := 10) hx hb (dks dF_16 DX12_madeCase (i := 80) rfl rfl rfl) (by decide) ?_
            refine lv_iadd hx hb (dkP dF_96 DX12_madeCase (i := 81) rfl rfl) ?_
            refine z_top (y := nI ((3880 + 12 * (100 * (40 * pg + cs) + q4_11)) + 10)) (by simp only [fa_lit, nI_add, pk_mul]) ?_
            refine lv_aload_n hx hb (dkP dF_42 DX12_madeCase (i := 82) rfl rfl) rfl (lv_at hl 5 rfl) ?_
            refine z_gr C0 hw 0 1 1 rfl fl_X12_20 (dk2 dF_180 DX12_madeCase (i := 83) rfl rfl rfl) ?_
            refine lv_iload hx hb (dk1 dF_21 DX12_madeCase (i := 84) rfl rfl rfl) (lv_at hl 1 rfl) ?_
            refine lv_iconst (v := 4) hx hb (dkP dF_7 DX12_madeCase (i := 85) rfl rfl) (by decide) ?_
            refine lv_iadd hx hb (dkP dF_96 DX12_madeCase (i := 86) rfl rfl) ?_
            refine z_top (y := nI ((168 + 16 * (24 * pg + n17)) + 4)) (by simp only [fa_lit, nI_add, pk_mul]) ?_
            refine z_ialdN (n := 414128) C0 hw 1 ((168 + 16 * (24 * pg + n17)) + 4) rfl (by omega) (by decide) (dkP dF_46 DX12_madeCase (i := 87) rfl rfl) ?_
            obtain ⟨v39, ev39⟩ : ∃ y : Int32, (sI s36 1 ((3880 + 12 * (100 * (40 * pg + cs) + q4_11)) + 9) v37).1 1 ((168 + 16 * (24 * pg + n17)) + 4) = y := ⟨_, rfl⟩
            refine z_top (y := v39) ev39 ?_
            refine z_iastN (n := 414128) C0 hw 1 ((3880 + 12 * (100 * (40 * pg + cs) + q4_11)) + 10) rfl (by omega) (by decide) (dkP dF_79 DX12_madeCase (i := 88) rfl rfl) (fun H locs hw => ?_)
            have hT40 : TM (sI (sI s36 1 ((3880 + 12 * (100 * (40 * pg + cs) + q4_11)) + 9) v37) 1 ((3880 + 12 * (100 * (40 * pg + cs) + q4_11)) + 10) v39) := TM.w hT38 (ty_tw (by omega) (by omega))
            have hF40 : fr [1, 28, 29] [] σ (sI (sI s36 1 ((3880 + 12 * (100 * (40 * pg + cs) + q4_11)) + 9) v37) 1 ((3880 + 12 * (100 * (40 * pg + cs) + q4_11)) + 10) v39) := fr.w hF38 (Or.inl ⟨by decide, by decide⟩)
            refine lv_aload_n hx hb (dkP dF_42 DX12_madeCase (i := 89) rfl rfl) rfl (lv_at hl 5 rfl) ?_
            refine z_gr C0 hw 0 1 1 rfl fl_X12_20 (dk2 dF_180 DX12_madeCase (i := 90) rfl rfl rfl) ?_
            refine lv_iload hx hb (dk1 dF_21 DX12_madeCase (i := 91) rfl rfl rfl) (lv_at hl 0 rfl) ?_
            refine lv_bipush (v := 11) hx hb (dks dF_16 DX12_madeCase (i := 92) rfl rfl rfl) (by decide) ?_
            refine lv_iadd hx hb (dkP dF_96 DX12_madeCase (i := 93) rfl rfl) ?_
            refine z_top (y := nI ((3880 + 12 * (100 * (40 * pg + cs) + q4_11)) + 11)) (by simp only [fa_lit, nI_add, pk_mul]) ?_
            refine lv_aload_n hx hb (dkP dF_42 DX12_madeCase (i := 94) rfl rfl) rfl (lv_at hl 5 rfl) ?_
            refine lv_iload_n hx hb (dkP dF_27 DX12_madeCase (i := 95) rfl rfl) rfl (lv_at hl 6 rfl) ?_
            refine lv_iload_n hx hb (dkP dF_28 DX12_madeCase (i := 96) rfl rfl) rfl (lv_at hl 7 rfl) ?_
            refine lv_iload hx hb (dk1 dF_21 DX12_madeCase (i := 97) rfl rfl rfl) (lv_at hl 3 rfl) ?_
            refine zk_I hw (zr_V (As := [.int (nI pg), .int (nI wy), .int (nI q5_11)]) (rest := [.int (nI ((3880 + 12 * (100 * (40 * pg + cs) + q4_11)) + 11)), .ref (ad 1)]) C0 (c_X12_held l G kc ad (sI (sI s36 1 ((3880 + 12 * (100 * (40 * pg + cs) + q4_11)) + 9) v37) 1 ((3880 + 12 * (100 * (40 * pg + cs) + q4_11)) + 10) v39) pg wy q5_11 (by first | omega | assumption | decide | rfl) hT40 _) cv_X12_held lk_X12_417 (zp_V C0 hRo hw 0 rfl rfl rfl) rfl hl.1 rfl ⟨by decide, by decide⟩ (Nat.le_of_ble_eq_true rfl) (dk2 dF_182 DX12_madeCase (i := 98) rfl rfl rfl) ⟨Nat.le_refl _, Nat.le_refl _⟩) (fun r41 s41 H locs hp hw => ?_)
            obtain ⟨f41_0, hs41⟩ := hp
            (rw [hs41] at hw)
            rcases f41_0 with ⟨rfl, hc41⟩ | ⟨rfl, hc41⟩
            · skip
              refine lv_if_eq (tgt := 176) hx hb (dkS dF_153 DX12_madeCase (i := 99) rfl rfl rfl) (by decide) (fun h => absurd h (by decide)) (fun _ => ?_)
              refine lv_iconst (v := 0) hx hb (dkP dF_3 DX12_madeCase (i := 100) rfl rfl) (by decide) ?_
              refine lv_goto (tgt := 177) hx hb (dkS dF_167 DX12_madeCase (i := 101) rfl rfl rfl) (by decide) ?_
              refine z_iastN (n := 414128) C0 hw 1 ((3880 + 12 * (100 * (40 * pg + cs) + q4_11)) + 11) rfl (by omega) (by decide) (dkP dF_79 DX12_madeCase (i := 103) rfl rfl) (fun H locs hw => ?_)
              have hT42 : TM (sI (sI (sI s36 1 ((3880 + 12 * (100 * (40 * pg + cs) + q4_11)) + 9) v37) 1 ((3880 + 12 * (100 * (40 * pg + cs) + q4_11)) + 10) v39) 1 ((3880 + 12 * (100 * (40 * pg + cs) + q4_11)) + 11) 0) := TM.w hT40 (ty_tw (by omega) (by omega))
              have hF42 : fr [1, 28, 29] [] σ (sI (sI (sI s36 1 ((3880 + 12 * (100 * (40 * pg + cs) + q4_11)) + 9) v37) 1 ((3880 + 12 * (100 * (40 * pg + cs) + q4_11)) + 10) v39) 1 ((3880 + 12 * (100 * (40 * pg + cs) + q4_11)) + 11) 0) := fr.w hF40 (Or.inl ⟨by decide, by decide⟩)
              refine lv_iinc (v := nI (q4_11 + 1)) (lv' := [(4, .int (nI (q4_11 + 1))), (8, .int (nI (3880 + 12 * (100 * (40 * pg + cs) + q4_11)))), (7, .int (nI (168 + 16 * (24 * pg + n17)))), (6, .int (nI n17)), (5, .int (nI q5_11)), (0, .ref (ad 0)), (1, .int (nI pg)), (2, .int (nI wy)), (3, .int (nI cs))]) hx hb (dkI DX12_madeCase (i := 104) rfl rfl rfl rfl) hl (k := 4) rfl (nI_1 _) (by decide) rfl (fun ls hl => ?_)
              refine lv_iinc (v := nI (q5_11 + 1)) (lv' := [(5, .int (nI (q5_11 + 1))), (4, .int (nI (q4_11 + 1))), (8, .int (nI (3880 + 12 * (100 * (40 * pg + cs) + q4_11)))), (7, .int (nI (168 + 16 * (24 * pg + n17)))), (6, .int (nI n17)), (0, .ref (ad 0)), (1, .int (nI pg)), (2, .int (nI wy)), (3, .int (nI cs))]) hx hb (dkI DX12_madeCase (i := 105) rfl rfl rfl rfl) hl (k := 4) rfl (nI_1 _) (by decide) rfl (fun ls hl => ?_)
              refine lv_goto (tgt := 11) hx hb (dkS dF_167 DX12_madeCase (i := 106) rfl rfl rfl) (by decide) ?_
              exact ih3 (q5_11 + 1) (q4_11 + 1) (sI (sI (sI s36 1 ((3880 + 12 * (100 * (40 * pg + cs) + q4_11)) + 9) v37) 1 ((3880 + 12 * (100 * (40 * pg + cs) + q4_11)) + 10) v39) 1 ((3880 + 12 * (100 * (40 * pg + cs) + q4_11)) + 11) 0) _ _ _ (by omega) (by (try simp only [lg_cmp_lt, lg_cmp_le, lg_cmp_gt, lg_cmp_ge, lg_cmp_eq] at c5); (try simp (disch := omega) only [ta_lt, ta_le, ta_eq, tb_lt, tb_le, tb_eq, tw, tnI, tsub1, tsv, tn32 1 (by decide), tnj 1 (by decide), tl32 0 (by decide), tl64 0 (by decide), tl32 1 (by decide), tl64 1 (by decide), tl32 2 (by decide), tl64 2 (by decide), tl32 3 (by decide), tl64 3 (by decide), tl32 4 (by decide), tl64 4 (by decide), tl32 8 (by decide), tl64 8 (by decide), tl32 9 (by decide), tl64 9 (by decide), tl32 10 (by decide), tl64 10 (by decide), tl32 11 (by decide), tl64 11 (by decide), tl32 100 (by decide), tl64 100 (by decide)] at c5); (try simp only [lg_cmp_lt, lg_cmp_le, lg_cmp_gt, lg_cmp_ge, lg_cmp_eq] at c20); (try simp (disch := omega) only [ta_lt, ta_le, ta_eq, tb_lt, tb_le, tb_eq, tw, tnI, tsub1, tsv, tn32 1 (by decide), tnj 1 (by decide), tl32 0 (by decide), tl64 0 (by decide), tl32 1 (by decide), tl64 1 (by decide), tl32 2 (by decide), tl64 2 (by decide), tl32 3 (by decide), tl64 3 (by decide), tl32 4 (by decide), tl64 4 (by decide), tl32 8 (by decide), tl64 8 (by decide), tl32 9 (by decide), tl64 9 (by decide), tl32 10 (by decide), tl64 10 (by decide), tl32 11 (by decide), tl64 11 (by decide), tl32 100 (by decide), tl64 100 (by decide)] at c20); (try simp only [lg_cmp_lt, lg_cmp_le, lg_cmp_gt, lg_cmp_ge, lg_cmp_eq] at c34); (try simp (disch := omega) only [ta_lt, ta_le, ta_eq, tb_lt, tb_le, tb_eq, tw, tnI, tsub1, tsv, tn32 1 (by decide), tnj 1 (by decide), tl32 0 (by decide), tl64 0 (by decide), tl32 1 (by decide), tl64 1 (by decide), tl32 2 (by decide), tl64 2 (by decide), tl32 3 (by decide), tl64 3 (by decide), tl32 4 (by decide), tl64 4 (by decide), tl32 8 (by decide), tl64 8 (by decide), tl32 9 (by decide), tl64 9 (by decide), tl32 10 (by decide), tl64 10 (by decide), tl32 11 (by decide), tl64 11 (by decide), tl32 100 (by decide), tl64 100 (by decide)] at c34); (try simp only [lg_cmp_lt, lg_cmp_le, lg_cmp_gt, lg_cmp_ge, lg_cmp_eq] at f36_0); (try simp (disch := omega) only [ta_lt, ta_le, ta_eq, tb_lt, tb_le, tb_eq, tw, tnI, tsub1, tsv, tn32 1 (by decide), tnj 1 (by decide), tl32 0 (by decide), tl64 0 (by decide), tl32 1 (by decide), tl64 1 (by decide), tl32 2 (by decide), tl64 2 (by decide), tl32 3 (by decide), tl64 3 (by decide), tl32 4 (by decide), tl64 4 (by decide), tl32 8 (by decide), tl64 8 (by decide), tl32 9 (by decide), tl64 9 (by decide), tl32 10 (by decide), tl64 10 (by decide), tl32 11 (by decide), tl64 11 (by decide), tl32 100 (by decide), tl64 100 (by decide)] at f36_0); (try simp only [lg_cmp_lt, lg_cmp_le, lg_cmp_gt, lg_cmp_ge, lg_cmp_eq] at f41_0); (try simp (disch := omega) only [ta_lt, ta_le, ta_eq, tb_lt, tb_le, tb_eq, tw, tnI, tsub1, tsv, tn32 1 (by decide), tnj 1 (by decide), tl32 0 (by decide), tl64 0 (by decide), tl32 1 (by decide), tl64 1 (by decide), tl32 2 (by decide), tl64 2 (by decide), tl32 3 (by decide), tl64 3 (by decide), tl32 4 (by decide), tl64 4 (by decide), tl32 8 (by decide), tl64 8 (by decide), tl32 9 (by decide), tl64 9 (by decide), tl32 10 (by decide), tl64 10 (by decide), tl32 11 (by decide), tl64 11 (by decide), tl32 100 (by decide), tl64 100 (by decide)] at f41_0); (try simp only [lg_cmp_lt, lg_cmp_le, lg_cmp_gt, lg_cmp_ge, lg_cmp_eq] at hc41); (try simp (disch := omega) only [ta_lt, ta_le, ta_eq, tb_lt, tb_le, tb_eq, tw, tnI, tsub1, tsv, tn32 1 (by decide), tnj 1 (by decide), tl32 0 (by decide), tl64 0 (by decide), tl32 1 (by decide), tl64 1 (by decide), tl32 2 (by decide), tl64 2 (by decide), tl32 3 (by decide), tl64 3 (by decide), tl32 4 (by decide), tl64 4 (by decide), tl32 8 (by decide), tl64 8 (by decide), tl32 9 (by decide), tl64 9 (by decide), tl32 10 (by decide), tl64 10 (by decide), tl32 11 (by decide), tl64 11 (by decide), tl32 100 (by decide), tl64 100 (by decide)] at hc41); (try simp (disch := omega) only [ta_lt, ta_le, ta_eq, tb_lt, tb_le, tb_eq, tw, tnI, tsub1, tsv, tn32 1 (by decide), tnj 1 (by decide), tl32 0 (by decide), tl64 0 (by decide), tl32 1 (by decide), tl64 1 (by decide), tl32 2 (by decide), tl64 2 (by decide), tl32 3 (by decide), tl64 3 (by decide), tl32 4 (by decide), tl64 4 (by decide), tl32 8 (by decide), tl64 8 (by decide), tl32 9 (by decide), tl64 9 (by decide), tl32 10 (by decide), tl64 10 (by decide), tl32 11 (by decide), tl64 11 (by decide), tl32 100 (by decide), tl64 100 (by decide)]); omega) (by (try simp only [lg_cmp_lt, lg_cmp_le, lg_cmp_gt, lg_cmp_ge, lg_cmp_eq] at c5); (try simp (disch := omega) only [ta_lt, ta_le, ta_eq, tb_lt, tb_le, tb_eq, tw, tnI, tsub1, tsv, tn32 1 (by decide), tnj 1 (by decide), tl32 0 (by decide), tl64 0 (by decide), tl32 1 (by decide), tl64 1 (by decide), tl32 2 (by decide), tl64 2 (by decide), tl32 3 (by decide), tl64 3 (by decide), tl32 4 (by decide), tl64 4 (by decide), tl32 8 (by decide), tl64 8 (by decide), tl32 9 (by decide), tl64 9 (by decide), tl32 10 (by decide), tl64 10 (by decide), tl32 11 (by decide), tl64 11 (by decide), tl32 100 (by decide), tl64 100 (by decide)] at c5); (try simp only [lg_cmp_lt, lg_cmp_le, lg_cmp_gt, lg_cmp_ge, lg_cmp_eq] at c20); (try simp (disch := omega) only [ta_lt, ta_le, ta_eq, tb_lt, tb_le, tb_eq, tw, tnI, tsub1, tsv, tn32 1 (by decide), tnj 1 (by decide), tl32 0 (by decide), tl64 0 (by decide), tl32 1 (by decide), tl64 1 (by decide), tl32 2 (by decide), tl64 2 (by decide), tl32 3 (by decide), tl64 3 (by decide), tl32 4 (by decide), tl64 4 (by decide), tl32 8 (by decide), tl64 8 (by decide), tl32 9 (by decide), tl64 9 (by decide), tl32 10 (by decide), tl64 10 (by decide), tl32 11 (by decide), tl64 11 (by decide), tl32 100 (by decide), tl64 100 (by decide)] at c20); (try simp only [lg_cmp_lt, lg_cmp_le, lg_cmp_gt, lg_cmp_ge, lg_cmp_eq] at c34); (try simp (disch := omega) only [ta_lt, ta_le, ta_eq, tb_lt, tb_le, tb_eq, tw, tnI, tsub1, tsv, tn32 1 (by decide), tnj 1 (by decide), tl32 0 (by decide), tl64 0 (by decide), tl32 1 (by decide), tl64 1 (by decide), tl32 2 (by decide), tl64 2 (by decide), tl32 3 (by decide), tl64 3 (by decide), tl32 4 (by decide), tl64 4 (by decide), tl32 8 (by decide), tl64 8 (by decide), tl32 9 (by decide), tl64 9 (by decide), tl32 10 (by decide), tl64 10 (by decide), tl32 11 (by decide), tl64 11 (by decide), tl32 100 (by decide), tl64 100 (by decide)] at c34); (try simp only [lg_cmp_lt, lg_cmp_le, lg_cmp_gt, lg_cmp_ge, lg_cmp_eq] at f36_0); (try simp (disch := omega) only [ta_lt, ta_le, ta_eq, tb_lt, tb_le, tb_eq, tw, tnI, tsub1, tsv, tn32 1 (by decide), tnj 1 (by decide), tl32 0 (by decide), tl64 0 (by decide), tl32 1 (by decide), tl64 1 (by decide), tl32 2 (by decide), tl64 2 (by decide), tl32 3 (by decide), tl64 3 (by decide), tl32 4 (by decide), tl64 4 (by decide), tl32 8 (by decide), tl64 8 (by decide), tl32 9 (by decide), tl64 9 (by decide), tl32 10 (by decide), tl64 10 (by decide), tl32 11 (by decide), tl64 11 (by decide), tl32 100 (by decide), tl64 100 (by decide)] at f36_0); (try simp only [lg_cmp_lt, lg_cmp_le, lg_cmp_gt, lg_cmp_ge, lg_cmp_eq] at f41_0); (try simp (disch := omega) only [ta_lt, ta_le, ta_eq, tb_lt, tb_le, tb_eq, tw, tnI, tsub1, tsv, tn32 1 (by decide), tnj 1 (by decide), tl32 0 (by decide), tl64 0 (by decide), tl32 1 (by decide), tl64 1 (by decide), tl32 2 (by decide), tl64 2 (by decide), tl32 3 (by decide), tl64 3 (by decide), tl32 4 (by decide), tl64 4 (by decide), tl32 8 (by decide), tl64 8 (by decide), tl32 9 (by decide), tl64 9 (by decide), tl32 10 (by decide), tl64 10 (by decide), tl32 11 (by decide), tl64 11 (by decide), tl32 100 (by decide), tl64 100 (by decide)] at f41_0); (try simp only [lg_cmp_lt, lg_cmp_le, lg_cmp_gt, lg_cmp_ge, lg_cmp_eq] at hc41); (try simp (disch := omega) only [ta_lt, ta_le, ta_eq, tb_lt, tb_le, tb_eq, tw, tnI, tsub1, tsv, tn32 1 (by decide), tnj 1 (by decide), tl32 0 (by decide), tl64 0 (by decide), tl32 1 (by decide), tl64 1 (by decide), tl32 2 (by decide), tl64 2 (by decide), tl32 3 (by decide), tl64 3 (by decide), tl32 4 (by decide), tl64 4 (by decide), tl32 8 (by decide), tl64 8 (by decide), tl32 9 (by decide), tl64 9 (by decide), tl32 10 (by decide), tl64 10 (by decide), tl32 11 (by decide), tl64 11 (by decide), tl32 100 (by decide), tl64 100 (by decide)] at hc41); (try simp (disch := omega) only [ta_lt, ta_le, ta_eq, tb_lt, tb_le, tb_eq, tw, tnI, tsub1, tsv, tn32 1 (by decide), tnj 1 (by decide), tl32 0 (by decide), tl64 0 (by decide), tl32 1 (by decide), tl64 1 (by decide), tl32 2 (by decide), tl64 2 (by decide), tl32 3 (by decide), tl64 3 (by decide), tl32 4 (by decide), tl64 4 (by decide), tl32 8 (by decide), tl64 8 (by decide), tl32 9 (by decide), tl64 9 (by decide), tl32 10 (by decide), tl64 10 (by decide), tl32 11 (by decide), tl64 11 (by decide), tl32 100 (by decide), tl64 100 (by decide)]); omega) hT42 hF42 hw (lv_sub hl [0, 1, 5, 6, 7, 8] rfl)
            · skip
              refine lv_if_eq (tgt := 176) hx hb (dkS dF_153 DX12_madeCase (i := 99) rfl rfl rfl) (by decide) (fun _ => ?_) (fun h => absurd h (by decide))
              refine lv_iconst (v := 1) hx hb (dkP dF_4 DX12_madeCase (i := 102) rfl rfl) (by decide) ?_
              refine z_iastN (n := 414128) C0 hw 1 ((3880 + 12 * (100 * (40 * pg + cs) + q4_11)) + 11) rfl (by omega) (by decide) (dkP dF_79 DX12_madeCase (i := 103) rfl rfl) (fun H locs hw => ?_)
              have hT43 : TM (sI (sI (sI s36 1 ((3880 + 12 * (100 * (40 * pg + cs) + q4_11)) + 9) v37) 1 ((3880 + 12 * (100 * (40 * pg + cs) + q4_11)) + 10) v39) 1 ((3880 + 12 * (100 * (40 * pg + cs) + q4_11)) + 11) 1) := TM.w hT40 (ty_tw (by omega) (by omega))
              have hF43 : fr [1, 28, 29] [] σ (sI (sI (sI s36 1 ((3880 + 12 * (100 * (40 * pg + cs) + q4_11)) + 9) v37) 1 ((3880 + 12 * (100 * (40 * pg + cs) + q4_11)) + 10) v39) 1 ((3880 + 12 * (100 * (40 * pg + cs) + q4_11)) + 11) 1) := fr.w hF40 (Or.inl ⟨by decide, by decide⟩)
              refine lv_iinc (v := nI (q4_11 + 1)) (lv' := [(4, .int (nI (q4_11 + 1))), (8, .int (nI (3880 + 12 * (100 * (40 * pg + cs) + q4_11)))), (7, .int (nI (168 + 16 * (24 * pg + n17)))), (6, .int (nI n17)), (5, .int (nI q5_11)), (0, .ref (ad 0)), (1, .int (nI pg)), (2, .int (nI wy)), (3, .int (nI cs))]) hx hb (dkI DX12_madeCase (i := 104) rfl rfl rfl rfl) hl (k := 4) rfl (nI_1 _) (by decide) rfl (fun ls hl => ?_)
              refine lv_iinc (v := nI (q5_11 + 1)) (lv' := [(5, .int (nI (q5_11 + 1))), (4, .int (nI (q4_11 + 1))), (8, .int (nI (3880 + 12 * (100 * (40 * pg + cs) + q4_11)))), (7, .int (nI (168 + 16 * (24 * pg + n17)))), (6, .int (nI n17)), (0, .ref (ad 0)), (1, .int (nI pg)), (2, .int (nI wy)), (3, .int (nI cs))]) hx hb (dkI DX12_madeCase (i := 105) rfl rfl rfl rfl) hl (k := 4) rfl (nI_1 _) (by decide) rfl (fun ls hl => ?_)
              refine lv_goto (tgt := 11) hx hb (dkS dF_167 DX12_madeCase (i := 106) rfl rfl rfl) (by decide) ?_
              exact ih3 (q5_11 + 1) (q4_11 + 1) (sI (sI (sI s36 1 ((3880 + 12 * (100 * (40 * pg + cs) + q4_11)) + 9) v37) 1 ((3880 + 12 * (100 * (40 * pg + cs) + q4_11)) + 10) v39) 1 ((3880 + 12 * (100 * (40 * pg + cs) + q4_11)) + 11) 1) _ _ _ (by omega) (by (try simp only [lg_cmp_lt, lg_cmp_le, lg_cmp_gt, lg_cmp_ge, lg_cmp_eq] at c5); (try simp (disch := omega) only [ta_lt, ta_le, ta_eq, tb_lt, tb_le, tb_eq, tw, tnI, tsub1, tsv, tn32 1 (by decide), tnj 1 (by decide), tl32 0 (by decide), tl64 0 (by decide), tl32 1 (by decide), tl64 1 (by decide), tl32 2 (by decide), tl64 2 (by decide), tl32 3 (by decide), tl64 3 (by decide), tl32 4 (by decide), tl64 4 (by decide), tl32 8 (by decide), tl64 8 (by decide), tl32 9 (by decide), tl64 9 (by decide), tl32 10 (by decide), tl64 10 (by decide), tl32 11 (by decide), tl64 11 (by decide), tl32 100 (by decide), tl64 100 (by decide)] at c5); (try simp only [lg_cmp_lt, lg_cmp_le, lg_cmp_gt, lg_cmp_ge, lg_cmp_eq] at c20); (try simp (disch := omega) only [ta_lt, ta_le, ta_eq, tb_lt, tb_le, tb_eq, tw, tnI, tsub1, tsv, tn32 1 (by decide), tnj 1 (by decide), tl32 0 (by decide), tl64 0 (by decide), tl32 1 (by decide), tl64 1 (by decide), tl32 2 (by decide), tl64 2 (by decide), tl32 3 (by decide), tl64 3 (by decide), tl32 4 (by decide), tl64 4 (by decide), tl32 8 (by decide), tl64 8 (by decide), tl32 9 (by decide), tl64 9 (by decide), tl32 10 (by decide), tl64 10 (by decide), tl32 11 (by decide), tl64 11 (by decide), tl32 100 (by decide), tl64 100 (by decide)] at c20); (try simp only [lg_cmp_lt, lg_cmp_le, lg_cmp_gt, lg_cmp_ge, lg_cmp_eq] at c34); (try simp (disch := omega) only [ta_lt, ta_le, ta_eq, tb_lt, tb_le, tb_eq, tw, tnI, tsub1, tsv, tn32 1 (by decide), tnj 1 (by decide), tl32 0 (by decide), tl64 0 (by decide), tl32 1 (by decide), tl64 1 (by decide), tl32 2 (by decide), tl64 2 (by decide), tl32 3 (by decide), tl64 3 (by decide), tl32 4 (by decide), tl64 4 (by decide), tl32 8 (by decide), tl64 8 (by decide), tl32 9 (by decide), tl64 9 (by decide), tl32 10 (by decide), tl64 10 (by decide), tl32 11 (by decide), tl64 11 (by decide), tl32 100 (by decide), tl64 100 (by decide)] at c34); (try simp only [lg_cmp_lt, lg_cmp_le, lg_cmp_gt, lg_cmp_ge, lg_cmp_eq] at f36_0); (try simp (disch := omega) only [ta_lt, ta_le, ta_eq, tb_lt, tb_le, tb_eq, tw, tnI, tsub1, tsv, tn32 1 (by decide), tnj 1 (by decide), tl32 0 (by decide), tl64 0 (by decide), tl32 1 (by decide), tl64 1 (by decide), tl32 2 (by decide), tl64 2 (by decide), tl32 3 (by decide), tl64 3 (by decide), tl32 4 (by decide), tl64 4 (by decide), tl32 8 (by decide), tl64 8 (by decide), tl32 9 (by decide), tl64 9 (by decide), tl32 10 (by decide), tl64 10 (by decide), tl32 11 (by decide), tl64 11 (by decide), tl32 100 (by decide), tl64 100 (by decide)] at f36_0); (try simp only [lg_cmp_lt, lg_cmp_le, lg_cmp_gt, lg_cmp_ge, lg_cmp_eq] at f41_0); (try simp (disch := omega) only [ta_lt, ta_le, ta_eq, tb_lt, tb_le, tb_eq, tw, tnI, tsub1, tsv, tn32 1 (by decide), tnj 1 (by decide), tl32 0 (by decide), tl64 0 (by decide), tl32 1 (by decide), tl64 1 (by decide), tl32 2 (by decide), tl64 2 (by decide), tl32 3 (by decide), tl64 3 (by decide), tl32 4 (by decide), tl64 4 (by decide), tl32 8 (by decide), tl64 8 (by decide), tl32 9 (by decide), tl64 9 (by decide), tl32 10 (by decide), tl64 10 (by decide), tl32 11 (by decide), tl64 11 (by decide), tl32 100 (by decide), tl64 100 (by decide)] at f41_0); (try simp only [lg_cmp_lt, lg_cmp_le, lg_cmp_gt, lg_cmp_ge, lg_cmp_eq] at hc41); (try simp (disch := omega) only [ta_lt, ta_le, ta_eq, tb_lt, tb_le, tb_eq, tw, tnI, tsub1, tsv, tn32 1 (by decide), tnj 1 (by decide), tl32 0 (by decide), tl64 0 (by decide), tl32 1 (by decide), tl64 1 (by decide), tl32 2 (by decide), tl64 2 (by decide), tl32 3 (by decide), tl64 3 (by decide), tl32 4 (by decide), tl64 4 (by decide), tl32 8 (by decide), tl64 8 (by decide), tl32 9 (by decide), tl64 9 (by decide), tl32 10 (by decide), tl64 10 (by decide), tl32 11 (by decide), tl64 11 (by decide), tl32 100 (by decide), tl64 100 (by decide)] at hc41); (try simp (disch := omega) only [ta_lt, ta_le, ta_eq, tb_lt, tb_le, tb_eq, tw, tnI, tsub1, tsv, tn32 1 (by decide), tnj 1 (by decide), tl32 0 (by decide), tl64 0 (by decide), tl32 1 (by decide), tl64 1 (by decide), tl32 2 (by decide), tl64 2 (by decide), tl32 3 (by decide), tl64 3 (by decide), tl32 4 (by decide), tl64 4 (by decide), tl32 8 (by decide), tl64 8 (by decide), tl32 9 (by decide), tl64 9 (by decide), tl32 10 (by decide), tl64 10 (by decide), tl32 11 (by decide), tl64 11 (by decide), tl32 100 (by decide), tl64 100 (by decide)]); omega) (by (try simp only [lg_cmp_lt, lg_cmp_le, lg_cmp_gt, lg_cmp_ge, lg_cmp_eq] at c5); (try simp (disch := omega) only [ta_lt, ta_le, ta_eq, tb_lt, tb_le, tb_eq, tw, tnI, tsub1, tsv, tn32 1 (by decide), tnj 1 (by decide), tl32 0 (by decide), tl64 0 (by decide), tl32 1 (by decide), tl64 1 (by decide), tl32 2 (by decide), tl64 2 (by decide), tl32 3 (by decide), tl64 3 (by decide), tl32 4 (by decide), tl64 4 (by decide), tl32 8 (by decide), tl64 8 (by decide), tl32 9 (by decide), tl64 9 (by decide), tl32 10 (by decide), tl64 10 (by decide), tl32 11 (by decide), tl64 11 (by decide), tl32 100 (by decide), tl64 100 (by decide)] at c5); (try simp only [lg_cmp_lt, lg_cmp_le, lg_cmp_gt, lg_cmp_ge, lg_cmp_eq] at c20); (try simp (disch := omega) only [ta_lt, ta_le, ta_eq, tb_lt, tb_le, tb_eq, tw, tnI, tsub1, tsv, tn32 1 (by decide), tnj 1 (by decide), tl32 0 (by decide), tl64 0 (by decide), tl32 1 (by decide), tl64 1 (by decide), tl32 2 (by decide), tl64 2 (by decide), tl32 3 (by decide), tl64 3 (by decide), tl32 4 (by decide), tl64 4 (by decide), tl32 8 (by decide), tl64 8 (by decide), tl32 9 (by decide), tl64 9 (by decide), tl32 10 (by decide), tl64 10 (by decide), tl32 11 (by decide), tl64 11 (by decide), tl32 100 (by decide), tl64 100 (by decide)] at c20); (try simp only [lg_cmp_lt, lg_cmp_le, lg_cmp_gt, lg_cmp_ge, lg_cmp_eq] at c34); (try simp (disch := omega) only [ta_lt, ta_le, ta_eq, tb_lt, tb_le, tb_eq, tw, tnI, tsub1, tsv, tn32 1 (by decide), tnj 1 (by decide), tl32 0 (by decide), tl64 0 (by decide), tl32 1 (by decide), tl64 1 (by decide), tl32 2 (by decide), tl64 2 (by decide), tl32 3 (by decide), tl64 3 (by decide), tl32 4 (by decide), tl64 4 (by decide), tl32 8 (by decide), tl64 8 (by decide), tl32 9 (by decide), tl64 9 (by decide), tl32 10 (by decide), tl64 10 (by decide), tl32 11 (by decide), tl64 11 (by decide), tl32 100 (by decide), tl64 100 (by decide)] at c34); (try simp only [lg_cmp_lt, lg_cmp_le, lg_cmp_gt, lg_cmp_ge, lg_cmp_eq] at f36_0); (try simp (disch := omega) only [ta_lt, ta_le, ta_eq, tb_lt, tb_le, tb_eq, tw, tnI, tsub1, tsv, tn32 1 (by decide), tnj 1 (by decide), tl32 0 (by decide), tl64 0 (by decide), tl32 1 (by decide), tl64 1 (by decide), tl32 2 (by decide), tl64 2 (by decide), tl32 3 (by decide), tl64 3 (by decide), tl32 4 (by decide), tl64 4 (by decide), tl32 8 (by decide), tl64 8 (by decide), tl32 9 (by decide), tl64 9 (by decide), tl32 10 (by decide), tl64 10 (by decide), tl32 11 (by decide), tl64 11 (by decide), tl32 100 (by decide), tl64 100 (by decide)] at f36_0); (try simp only [lg_cmp_lt, lg_cmp_le, lg_cmp_gt, lg_cmp_ge, lg_cmp_eq] at f41_0); (try simp (disch := omega) only [ta_lt, ta_le, ta_eq, tb_lt, tb_le, tb_eq, tw, tnI, tsub1, tsv, tn32 1 (by decide), tnj 1 (by decide), tl32 0 (by decide), tl64 0 (by decide), tl32 1 (by decide), tl64 1 (by decide), tl32 2 (by decide), tl64 2 (by decide), tl32 3 (by decide), tl64 3 (by decide), tl32 4 (by decide), tl64 4 (by decide), tl32 8 (by decide), tl64 8 (by decide), tl32 9 (by decide), tl64 9 (by decide), tl32 10 (by decide), tl64 10 (by decide), tl32 11 (by decide), tl64 11 (by decide), tl32 100 (by decide), tl64 100 (by decide)] at f41_0); (try simp only [lg_cmp_lt, lg_cmp_le, lg_cmp_gt, lg_cmp_ge, lg_cmp_eq] at hc41); (try simp (disch := omega) only [ta_lt, ta_le, ta_eq, tb_lt, tb_le, tb_eq, tw, tnI, tsub1, tsv, tn32 1 (by decide), tnj 1 (by decide), tl32 0 (by decide), tl64 0 (by decide), tl32 1 (by decide), tl64 1 (by decide), tl32 2 (by decide), tl64 2 (by decide), tl32 3 (by decide), tl64 3 (by decide), tl32 4 (by decide), tl64 4 (by decide), tl32 8 (by decide), tl64 8 (by decide), tl32 9 (by decide), tl64 9 (by decide), tl32 10 (by decide), tl64 10 (by decide), tl32 11 (by decide), tl64 11 (by decide), tl32 100 (by decide), tl64 100 (by decide)] at hc41); (try simp (disch := omega) only [ta_lt, ta_le, ta_eq, tb_lt, tb_le, tb_eq, tw, tnI, tsub1, tsv, tn32 1 (by decide), tnj 1 (by decide), tl32 0 (by decide), tl64 0 (by decide), tl32 1 (by decide), tl64 1 (by decide), tl32 2 (by decide), tl64 2 (by decide), tl32 3 (by decide), tl64 3 (by decide), tl32 4 (by decide), tl64 4 (by decide), tl32 8 (by decide), tl64 8 (by decide), tl32 9 (by decide), tl64 9 (by decide), tl32 10 (by decide), tl64 10 (by decide), tl32 11 (by decide), tl64 11 (by decide), tl32 100 (by decide), tl64 100 (by decide)]); omega) hT43 hF43 hw (lv_sub hl [0, 1, 5, 6, 7, 8] rfl)
          · (try simp (disch := omega) only [ta_lt, ta_le, ta_eq, tnI, tl32 1 (by decide)] at c34)
            refine lv_goto (tgt := 181) hx hb (dkS dF_167 DX12_madeCase (i := 44) rfl rfl rfl) (by decide) ?_
            refine lv_iinc (v := nI (q5_11 + 1)) (lv' := [(5, .int (nI (q5_11 + 1))), (7, .int (nI (168 + 16 * (24 * pg + n17)))), (6, .int (nI n17)), (4, .int (nI q4_11)), (0, .ref (ad 0)), (1, .int (nI pg)), (2, .int (nI wy)), (3, .int (nI cs))]) hx hb (dkI DX12_madeCase (i := 105) rfl rfl rfl rfl) hl (k := 2) rfl (nI_1 _) (by decide) rfl (fun ls hl => ?_)
            refine lv_goto (tgt := 11) hx hb (dkS dF_167 DX12_madeCase (i := 106) rfl rfl rfl) (by decide) ?_
            exact ih3 (q5_11 + 1) q4_11 s33 _ _ _ (by omega) (by (try simp only [lg_cmp_lt, lg_cmp_le, lg_cmp_gt, lg_cmp_ge, lg_cmp_eq] at c5); (try simp (disch := omega) only [ta_lt, ta_le, ta_eq, tb_lt, tb_le, tb_eq, tw, tnI, tsub1, tsv, tn32 1 (by decide), tnj 1 (by decide), tl32 0 (by decide), tl64 0 (by decide), tl32 1 (by decide), tl64 1 (by decide), tl32 2 (by decide), tl64 2 (by decide), tl32 3 (by decide), tl64 3 (by decide), tl32 4 (by decide), tl64 4 (by decide), tl32 8 (by decide), tl64 8 (by decide), tl32 9 (by decide), tl64 9 (by decide), tl32 10 (by decide), tl64 10 (by decide), tl32 11 (by decide), tl64 11 (by decide), tl32 100 (by decide), tl64 100 (by decide)] at c5); (try simp only [lg_cmp_lt, lg_cmp_le, lg_cmp_gt, lg_cmp_ge, lg_cmp_eq] at c20); (try simp (disch := omega) only [ta_lt, ta_le, ta_eq, tb_lt, tb_le, tb_eq, tw, tnI, tsub1, tsv, tn32 1 (by decide), tnj 1 (by decide), tl32 0 (by decide), tl64 0 (by decide), tl32 1 (by decide), tl64 1 (by decide), tl32 2 (by decide), tl64 2 (by decide), tl32 3 (by decide), tl64 3 (by decide), tl32 4 (by decide), tl64 4 (by decide), tl32 8 (by decide), tl64 8 (by decide), tl32 9 (by decide), tl64 9 (by decide), tl32 10 (by decide), tl64 10 (by decide), tl32 11 (by decide), tl64 11 (by decide), tl32 100 (by decide), tl64 100 (by decide)] at c20); (try simp only [lg_cmp_lt, lg_cmp_le, lg_cmp_gt, lg_cmp_ge, lg_cmp_eq] at c34); (try simp (disch := omega) only [ta_lt, ta_le, ta_eq, tb_lt, tb_le, tb_eq, tw, tnI, tsub1, tsv, tn32 1 (by decide), tnj 1 (by decide), tl32 0 (by decide), tl64 0 (by decide), tl32 1 (by decide), tl64 1 (by decide), tl32 2 (by decide), tl64 2 (by decide), tl32 3 (by decide), tl64 3 (by decide), tl32 4 (by decide), tl64 4 (by decide), tl32 8 (by decide), tl64 8 (by decide), tl32 9 (by decide), tl64 9 (by decide), tl32 10 (by decide), tl64 10 (by decide), tl32 11 (by decide), tl64 11 (by decide), tl32 100 (by decide), tl64 100 (by decide)] at c34); (try simp (disch := omega) only [ta_lt, ta_le, ta_eq, tb_lt, tb_le, tb_eq, tw, tnI, tsub1, tsv, tn32 1 (by decide), tnj 1 (by decide), tl32 0 (by decide), tl64 0 (by decide), tl32 1 (by decide), tl64 1 (by decide), tl32 2 (by decide), tl64 2 (by decide), tl32 3 (by decide), tl64 3 (by decide), tl32 4 (by decide), tl64 4 (by decide), tl32 8 (by decide), tl64 8 (by decide), tl32 9 (by decide), tl64 9 (by decide), tl32 10 (by decide), tl64 10 (by decide), tl32 11 (by decide), tl64 11 (by decide), tl32 100 (by decide), tl64 100 (by decide)]); omega) (by (try simp only [lg_cmp_lt, lg_cmp_le, lg_cmp_gt, lg_cmp_ge, lg_cmp_eq] at c5); (try simp (disch := omega) only [ta_lt, ta_le, ta_eq, tb_lt, tb_le, tb_eq, tw, tnI, tsub1, tsv, tn32 1 (by decide), tnj 1 (by decide), tl32 0 (by decide), tl64 0 (by decide), tl32 1 (by decide), tl64 1 (by decide), tl32 2 (by decide), tl64 2 (by decide), tl32 3 (by decide), tl64 3 (by decide), tl32 4 (by decide), tl64 4 (by decide), tl32 8 (by decide), tl64 8 (by decide), tl32 9 (by decide), tl64 9 (by decide), tl32 10 (by decide), tl64 10 (by decide), tl32 11 (by decide), tl64 11 (by decide), tl32 100 (by decide), tl64 100 (by decide)] at c5); (try simp only [lg_cmp_lt, lg_cmp_le, lg_cmp_gt, lg_cmp_ge, lg_cmp_eq] at c20); (try simp (disch := omega) only [ta_lt, ta_le, ta_eq, tb_lt, tb_le, tb_eq, tw, tnI, tsub1, tsv, tn32 1 (by decide), tnj 1 (by decide), tl32 0 (by decide), tl64 0 (by decide), tl32 1 (by decide), tl64 1 (by decide), tl32 2 (by decide), tl64 2 (by decide), tl32 3 (by decide), tl64 3 (by decide), tl32 4 (by decide), tl64 4 (by decide), tl32 8 (by decide), tl64 8 (by decide), tl32 9 (by decide), tl64 9 (by decide), tl32 10 (by decide), tl64 10 (by decide), tl32 11 (by decide), tl64 11 (by decide), tl32 100 (by decide), tl64 100 (by decide)] at c20); (try simp only [lg_cmp_lt, lg_cmp_le, lg_cmp_gt, lg_cmp_ge, lg_cmp_eq] at c34); (try simp (disch := omega) only [ta_lt, ta_le, ta_eq, tb_lt, tb_le, tb_eq, tw, tnI, tsub1, tsv, tn32 1 (by decide), tnj 1 (by decide), tl32 0 (by decide), tl64 0 (by decide), tl32 1 (by decide), tl64 1 (by decide), tl32 2 (by decide), tl64 2 (by decide), tl32 3 (by decide), tl64 3 (by decide), tl32 4 (by decide), tl64 4 (by decide), tl32 8 (by decide), tl64 8 (by decide), tl32 9 (by decide), tl64 9 (by decide), tl32 10 (by decide), tl64 10 (by decide), tl32 11 (by decide), tl64 11 (by decide), tl32 100 (by decide), tl64 100 (by decide)] at c34); (try simp (disch := omega) only [ta_lt, ta_le, ta_eq, tb_lt, tb_le, tb_eq, tw, tnI, tsub1, tsv, tn32 1 (by decide), tnj 1 (by decide), tl32 0 (by decide), tl64 0 (by decide), tl32 1 (by decide), tl64 1 (by decide), tl32 2 (by decide), tl64 2 (by decide), tl32 3 (by decide), tl64 3 (by decide), tl32 4 (by decide), tl64 4 (by decide), tl32 8 (by decide), tl64 8 (by decide), tl32 9 (by decide), tl64 9 (by decide), tl32 10 (by decide), tl64 10 (by decide), tl32 11 (by decide), tl64 11 (by decide), tl32 100 (by decide), tl64 100 (by decide)]); omega) hT33 hF33 hw (lv_sub hl [0, 3, 4, 5, 6, 7] rfl)
  exact lp3 _ 0 0 s1 _ _ _ (Nat.lt_succ_self _) (by (try simp (disch := omega) only [ta_lt, ta_le, ta_eq, tb_lt, tb_le, tb_eq, tw, tnI, tsub1, tsv, tn32 1 (by decide), tnj 1 (by decide), tl32 0 (by decide), tl64 0 (by decide), tl32 1 (by decide), tl64 1 (by decide), tl32 2 (by decide), tl64 2 (by decide), tl32 3 (by decide), tl64 3 (by decide), tl32 4 (by decide), tl64 4 (by decide), tl32 8 (by decide), tl64 8 (by decide), tl32 9 (by decide), tl64 9 (by decide), tl32 10 (by decide), tl64 10 (by decide), tl32 11 (by decide), tl64 11 (by decide), tl32 100 (by decide), tl64 100 (by decide)]); omega) (by (try simp (disch := omega) only [ta_lt, ta_le, ta_eq, tb_lt, tb_le, tb_eq, tw, tnI, tsub1, tsv, tn32 1 (by decide), tnj 1 (by decide), tl32 0 (by decide), tl64 0 (by decide), tl32 1 (by decide), tl64 1 (by decide), tl32 2 (by decide), tl64 2 (by decide), tl32 3 (by decide), tl64 3 (by decide), tl32 4 (by decide), tl64 4 (by decide), tl32 8 (by decide), tl64 8 (by decide), tl32 9 (by decide), tl64 9 (by decide), tl32 10 (by decide), tl64 10 (by decide), tl32 11 (by decide), tl64 11 (by decide), tl32 100 (by decide), tl64 100 (by decide)]); omega) hT1 hF1 hw (lv_sub hl [0, 1, 2, 3, 4, 5] rfl)
