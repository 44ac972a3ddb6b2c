/-- TOKENS: the end as the last one; FIELDS are letters -/
def TK (σ : Sg) (tk : Nat) : Prop := tk ≤ 600 ∧ σ.1 188 tk = 0 ∧ ∀ i, i < tk → σ.1 188 i = 3 → fok (σ.1 189 i)
theorem TK.c {σ τ : Sg} {tk : Nat} (h : TK σ tk) (h1 : ∀ x, τ.1 188 x = σ.1 188 x) (h2 : ∀ x, τ.1 189 x = σ.1 189 x) : TK τ tk := ⟨h.1, (h1 _).trans h.2.1, fun i hi h3 => by rw [h2]; exact h.2.2 i hi (by rw [← h1]; exact h3)⟩
theorem TK.lt {σ : Sg} {tk n : Nat} {v : Int32} (h : TK σ tk) (hn : n ≤ tk) (e : σ.1 188 n = v) (h0 : ¬ v = 0) : n < tk := by
  apply Nat.lt_of_le_of_ne hn
  intro e2
  subst e2
  exact h0 (e.symm.trans h.2.1)
theorem TK.f {σ : Sg} {tk n : Nat} (h : TK σ tk) (hn : n ≤ tk) (e : σ.1 188 n = 3) : fok (σ.1 189 n) := h.2.2 n (h.lt hn e (by decide)) e
theorem shl8 {a : Nat} : nI a <<< ((8 : Int32) &&& 31) = nI (a * 256) := by
  apply Int32.toBitVec_inj.1
  rw [Int32.toBitVec_shiftLeft, show ((8 : Int32) &&& 31).toBitVec.smod 32 = 8#32 from by decide]
  show BitVec.ofNat 32 a <<< 8#32 = BitVec.ofNat 32 (a * 256)
  apply BitVec.eq_of_toNat_eq
  rw [BitVec.shiftLeft_eq', BitVec.toNat_shiftLeft, BitVec.toNat_ofNat, BitVec.toNat_ofNat, BitVec.toNat_ofNat, show 8 % 2 ^ 32 = 8 from by decide, Nat.shiftLeft_eq]
  omega
theorem shor {a c : Nat} (hc : c < 256) : (nI a <<< ((8 : Int32) &&& 31)) ||| nI c = nI (a * 256 + c) := by
  rw [shl8, nI_or]
  have h := Nat.shiftLeft_add_eq_or_of_lt (i := 8) (b := c) (by omega) a
  rw [Nat.shiftLeft_eq] at h
  rw [show a * 256 + c = a * 2 ^ 8 + c from rfl, h]
theorem i3 {v : Int32} (h : v.toInt = 3) : v = 3 := Int32.toInt_inj.1 (h.trans (by decide))
theorem s97 {x : Int32} (h : 97 ≤ x.toInt) (h2 : x.toInt ≤ 104) : fok (x - 97) := by
  unfold fok
  rw [tsb32 (by rw [tl32 97 (by decide)]; omega) (by rw [tl32 97 (by decide)]; omega), tl32 97 (by decide)]
  omega
theorem nz_c {f g : Nat → Int32} : ∀ n, (∀ x, x < n → g x = f x) → nz g 0 n = nz f 0 n := by
  intro n
  induction n with
  | zero => intro _; rfl
  | succ n ih =>
    intro h
    show nz g 0 n + (if g (0 + n) = 0 then 0 else 1) = nz f 0 n + (if f (0 + n) = 0 then 0 else 1)
    rw [ih (fun x hx => h x (by omega)), h (0 + n) (by omega)]
theorem nz_u {f g : Nat → Int32} {i : Nat} (h : ∀ x, x ≠ i → g x = f x) : ∀ n, nz g 0 n ≤ nz f 0 n + (if i < n then 1 else 0) := by
  intro n
  induction n with
  | zero => exact Nat.le_refl _
  | succ n ih =>
    show nz g 0 n + (if g (0 + n) = 0 then 0 else 1) ≤ nz f 0 n + (if f (0 + n) = 0 then 0 else 1) + (if i < n + 1 then 1 else 0)
    by_cases e : n = i
    · subst e
      rw [if_neg (Nat.lt_irrefl n)] at ih
      rw [if_pos (Nat.lt_succ_self n)]
      split <;> split <;> omega
    · rw [h (0 + n) (by omega)]
      by_cases h2 : i < n
      · rw [if_pos h2] at ih
        rw [if_pos (show i < n + 1 by omega)]
        omega
      · rw [if_neg h2] at ih
        rw [if_neg (show ¬ i < n + 1 by omega)]
        omega
theorem nz_z {f : Nat → Int32} : ∀ n, (∀ x, x < n → f x = 0) → nz f 0 n = 0 := by
  intro n
  induction n with
  | zero => intro _; rfl
  | succ n ih =>
    intro h
    show nz f 0 n + (if f (0 + n) = 0 then 0 else 1) = 0
    rw [ih (fun x hx => h x (by omega)), if_pos (h _ (by omega))]
set_option maxRecDepth 100000 in
set_option maxHeartbeats 4000000 in
theorem c_X5_isSmall (l : Launch) (G : va_G) (kc : KC)  (p : Int32)  : MI l G kc yX5_isSmall cX5_isSmall 1 (some .boolean) 0 0 [.int p] [] a00 s00 (fun r _ => ((r = 1 ∧ (97 ≤ p.toInt ∧ p.toInt ≤ 122)) ∨ (r = 0 ∧ ¬ (97 ≤ p.toInt ∧ p.toInt ≤ 122)))) := by
  intro sz
  refine z_body (y := yX5_isSmall) (n := 1) (av := [.int p]) (Qc := fun A => va_Qi (fun r _ => ((r = 1 ∧ (97 ≤ p.toInt ∧ p.toInt ≤ 122)) ∨ (r = 0 ∧ ¬ (97 ≤ p.toInt ∧ p.toInt ≤ 122)))) (PoC G kc [] a00 A) A) (plainFor_of_name (by decide)) (Nat.le_of_ble_eq_true rfl) (fun pr e s m below meth c A C0 hr hlk hnm hw hRo ls hl => ?_) sz
  have hx := C0.1
  have hb := C0.2.1
  have hown := C0.2.2.2.1
  have hts := C0.2.2.2.2.1
  have hl : lv_has ls 1 [(0, .int p)] := hl
  refine lv_iload_n hx hb (dkP dF_26 DX5_isSmall (i := 0) rfl rfl) rfl (lv_at hl 0 rfl) ?_
  refine lv_bipush (v := 97) hx hb (dks dF_16 DX5_isSmall (i := 1) rfl rfl rfl) (by decide) ?_
  refine lv_icmp_lt (tgt := 16) hx hb (dkS dF_161 DX5_isSmall (i := 2) rfl rfl rfl) (by decide) (fun c1 => ?_) (fun c1 => ?_)
  · skip
    refine lv_iconst (v := 0) hx hb (dkP dF_3 DX5_isSmall (i := 8) rfl rfl) (by decide) ?_
    exact z_zret C0 hr hlk (by decide) hw (Or.inr ⟨rfl, (by (try simp only [lg_cmp_lt, lg_cmp_le, lg_cmp_gt, lg_cmp_ge, lg_cmp_eq] at c1); (try simp (disch := omega) only [ta_lt, ta_le, ta_eq, tb_lt, tb_le, tb_eq, tw, tnI, tn32 1 (by decide), tnj 1 (by decide), tl32 0 (by decide), tl64 0 (by decide), tl32 97 (by decide), tl64 97 (by decide)] at c1); (try simp (disch := omega) only [ta_lt, ta_le, ta_eq, tb_lt, tb_le, tb_eq, tw, tnI, tn32 1 (by decide), tnj 1 (by decide), tl32 0 (by decide), tl64 0 (by decide), tl32 97 (by decide), tl64 97 (by decide)]); omega)⟩) (dkP dF_172 DX5_isSmall (i := 9) rfl rfl)
  · skip
    refine lv_iload_n hx hb (dkP dF_26 DX5_isSmall (i := 3) rfl rfl) rfl (lv_at hl 0 rfl) ?_
    refine lv_bipush (v := 122) hx hb (dks dF_16 DX5_isSmall (i := 4) rfl rfl rfl) (by decide) ?_
    refine lv_icmp_gt (tgt := 16) hx hb (dkS dF_163 DX5_isSmall (i := 5) rfl rfl rfl) (by decide) (fun c2 => ?_) (fun c2 => ?_)
    · skip
      refine lv_iconst (v := 0) hx hb (dkP dF_3 DX5_isSmall (i := 8) rfl rfl) (by decide) ?_
      exact z_zret C0 hr hlk (by decide) hw (Or.inr ⟨rfl, (by (try simp only [lg_cmp_lt, lg_cmp_le, lg_cmp_gt, lg_cmp_ge, lg_cmp_eq] at c1); (try simp (disch := omega) only [ta_lt, ta_le, ta_eq, tb_lt, tb_le, tb_eq, tw, tnI, tn32 1 (by decide), tnj 1 (by decide), tl32 0 (by decide), tl64 0 (by decide), tl32 97 (by decide), tl64 97 (by decide), tl32 122 (by decide), tl64 122 (by decide)] at c1); (try simp only [lg_cmp_lt, lg_cmp_le, lg_cmp_gt, lg_cmp_ge, lg_cmp_eq] at c2); (try simp (disch := omega) only [ta_lt, ta_le, ta_eq, tb_lt, tb_le, tb_eq, tw, tnI, tn32 1 (by decide), tnj 1 (by decide), tl32 0 (by decide), tl64 0 (by decide), tl32 97 (by decide), tl64 97 (by decide), tl32 122 (by decide), tl64 122 (by decide)] at c2); (try simp (disch := omega) only [ta_lt, ta_le, ta_eq, tb_lt, tb_le, tb_eq, tw, tnI, tn32 1 (by decide), tnj 1 (by decide), tl32 0 (by decide), tl64 0 (by decide), tl32 97 (by decide), tl64 97 (by decide), tl32 122 (by decide), tl64 122 (by decide)]); omega)⟩) (dkP dF_172 DX5_isSmall (i := 9) rfl rfl)
    · skip
      refine lv_iconst (v := 1) hx hb (dkP dF_4 DX5_isSmall (i := 6) rfl rfl) (by decide) ?_
      refine lv_goto (tgt := 17) hx hb (dkS dF_167 DX5_isSmall (i := 7) rfl rfl rfl) (by decide) ?_
      exact z_zret C0 hr hlk (by decide) hw (Or.inl ⟨rfl, (by (try simp only [lg_cmp_lt, lg_cmp_le, lg_cmp_gt, lg_cmp_ge, lg_cmp_eq] at c1); (try simp (disch := omega) only [ta_lt, ta_le, ta_eq, tb_lt, tb_le, tb_eq, tw, tnI, tn32 1 (by decide), tnj 1 (by decide), tl32 0 (by decide), tl64 0 (by decide), tl32 1 (by decide), tl64 1 (by decide), tl32 97 (by decide), tl64 97 (by decide), tl32 122 (by decide), tl64 122 (by decide)] at c1); (try simp only [lg_cmp_lt, lg_cmp_le, lg_cmp_gt, lg_cmp_ge, lg_cmp_eq] at c2); (try simp (disch := omega) only [ta_lt, ta_le, ta_eq, tb_lt, tb_le, tb_eq, tw, tnI, tn32 1 (by decide), tnj 1 (by decide), tl32 0 (by decide), tl64 0 (by decide), tl32 1 (by decide), tl64 1 (by decide), tl32 97 (by decide), tl64 97 (by decide), tl32 122 (by decide), tl64 122 (by decide)] at c2); (try simp (disch := omega) only [ta_lt, ta_le, ta_eq, tb_lt, tb_le, tb_eq, tw, tnI, tn32 1 (by decide), tnj 1 (by decide), tl32 0 (by decide), tl64 0 (by decide), tl32 1 (by decide), tl64 1 (by decide), tl32 97 (by decide), tl64 97 (by decide), tl32 122 (by decide), tl64 122 (by decide)]); omega)⟩) (dkP dF_172 DX5_isSmall (i := 9) rfl rfl)
set_option maxRecDepth 100000 in
set_option maxHeartbeats 4000000 in
theorem c_X5_isDigit (l : Launch) (G : va_G) (kc : KC)  (p : Int32)  : MI l G kc yX5_isDigit cX5_isDigit 1 (some .boolean) 0 0 [.int p] [] a00 s00 (fun r _ => ((r = 1 ∧ (48 ≤ p.toInt ∧ p.toInt ≤ 57)) ∨ (r = 0 ∧ ¬ (48 ≤ p.toInt ∧ p.toInt ≤ 57)))) := by
  intro sz
  refine z_body (y := yX5_isDigit) (n := 1) (av := [.int p]) (Qc := fun A => va_Qi (fun r _ => ((r = 1 ∧ (48 ≤ p.toInt ∧ p.toInt ≤ 57)) ∨ (r = 0 ∧ ¬ (48 ≤ p.toInt ∧ p.toInt ≤ 57)))) (PoC G kc [] a00 A) A) (plainFor_of_name (by decide)) (Nat.le_of_ble_eq_true rfl) (fun pr e s m below meth c A C0 hr hlk hnm hw hRo ls hl => ?_) sz
  have hx := C0.1
  have hb := C0.2.1
  have hown := C0.2.2.2.1
  have hts := C0.2.2.2.2.1
  have hl : lv_has ls 1 [(0, .int p)] := hl
  refine lv_iload_n hx hb (dkP dF_26 DX5_isDigit (i := 0) rfl rfl) rfl (lv_at hl 0 rfl) ?_
  refine lv_bipush (v := 48) hx hb (dks dF_16 DX5_isDigit (i := 1) rfl rfl rfl) (by decide) ?_
  refine lv_icmp_lt (tgt := 16) hx hb (dkS dF_161 DX5_isDigit (i := 2) rfl rfl rfl) (by decide) (fun c1 => ?_) (fun c1 => ?_)
  · skip
    refine lv_iconst (v := 0) hx hb (dkP dF_3 DX5_isDigit (i := 8) rfl rfl) (by decide) ?_
    exact z_zret C0 hr hlk (by decide) hw (Or.inr ⟨rfl, (by (try simp only [lg_cmp_lt, lg_cmp_le, lg_cmp_gt, lg_cmp_ge, lg_cmp_eq] at c1); (try simp (disch := omega) only [ta_lt, ta_le, ta_eq, tb_lt, tb_le, tb_eq, tw, tnI, tn32 1 (by decide), tnj 1 (by decide), tl32 0 (by decide), tl64 0 (by decide), tl32 48 (by decide), tl64 48 (by decide)] at c1); (try simp (disch := omega) only [ta_lt, ta_le, ta_eq, tb_lt, tb_le, tb_eq, tw, tnI, tn32 1 (by decide), tnj 1 (by decide), tl32 0 (by decide), tl64 0 (by decide), tl32 48 (by decide), tl64 48 (by decide)]); omega)⟩) (dkP dF_172 DX5_isDigit (i := 9) rfl rfl)
  · skip
    refine lv_iload_n hx hb (dkP dF_26 DX5_isDigit (i := 3) rfl rfl) rfl (lv_at hl 0 rfl) ?_
    refine lv_bipush (v := 57) hx hb (dks dF_16 DX5_isDigit (i := 4) rfl rfl rfl) (by decide) ?_
    refine lv_icmp_gt (tgt := 16) hx hb (dkS dF_163 DX5_isDigit (i := 5) rfl rfl rfl) (by decide) (fun c2 => ?_) (fun c2 => ?_)
    · skip
      refine lv_iconst (v := 0) hx hb (dkP dF_3 DX5_isDigit (i := 8) rfl rfl) (by decide) ?_
      exact z_zret C0 hr hlk (by decide) hw (Or.inr ⟨rfl, (by (try simp only [lg_cmp_lt, lg_cmp_le, lg_cmp_gt, lg_cmp_ge, lg_cmp_eq] at c1); (try simp (disch := omega) only [ta_lt, ta_le, ta_eq, tb_lt, tb_le, tb_eq, tw, tnI, tn32 1 (by decide), tnj 1 (by decide), tl32 0 (by decide), tl64 0 (by decide), tl32 48 (by decide), tl64 48 (by decide), tl32 57 (by decide), tl64 57 (by decide)] at c1); (try simp only [lg_cmp_lt, lg_cmp_le, lg_cmp_gt, lg_cmp_ge, lg_cmp_eq] at c2); (try simp (disch := omega) only [ta_lt, ta_le, ta_eq, tb_lt, tb_le, tb_eq, tw, tnI, tn32 1 (by decide), tnj 1 (by decide), tl32 0 (by decide), tl64 0 (by decide), tl32 48 (by decide), tl64 48 (by decide), tl32 57 (by decide), tl64 57 (by decide)] at c2); (try simp (disch := omega) only [ta_lt, ta_le, ta_eq, tb_lt, tb_le, tb_eq, tw, tnI, tn32 1 (by decide), tnj 1 (by decide), tl32 0 (by decide), tl64 0 (by decide), tl32 48 (by decide), tl64 48 (by decide), tl32 57 (by decide), tl64 57 (by decide)]); omega)⟩) (dkP dF_172 DX5_isDigit (i := 9) rfl rfl)
    · skip
      refine lv_iconst (v := 1) hx hb (dkP dF_4 DX5_isDigit (i := 6) rfl rfl) (by decide) ?_
      refine lv_goto (tgt := 17) hx hb (dkS dF_167 DX5_isDigit (i := 7) rfl rfl rfl) (by decide) ?_
      exact z_zret C0 hr hlk (by decide) hw (Or.inl ⟨rfl, (by (try simp only [lg_cmp_lt, lg_cmp_le, lg_cmp_gt, lg_cmp_ge, lg_cmp_eq] at c1); (try simp (disch := omega) only [ta_lt, ta_le, ta_eq, tb_lt, tb_le, tb_eq, tw, tnI, tn32 1 (by decide), tnj 1 (by decide), tl32 0 (by decide), tl64 0 (by decide), tl32 1 (by decide), tl64 1 (by decide), tl32 48 (by decide), tl64 48 (by decide), tl32 57 (by decide), tl64 57 (by decide)] at c1); (try simp only [lg_cmp_lt, lg_cmp_le, lg_cmp_gt, lg_cmp_ge, lg_cmp_eq] at c2); (try simp (disch := omega) only [ta_lt, ta_le, ta_eq, tb_lt, tb_le, tb_eq, tw, tnI, tn32 1 (by decide), tnj 1 (by decide), tl32 0 (by decide), tl64 0 (by decide), tl32 1 (by decide), tl64 1 (by decide), tl32 48 (by decide), tl64 48 (by decide), tl32 57 (by decide), tl64 57 (by decide)] at c2); (try simp (disch := omega) only [ta_lt, ta_le, ta_eq, tb_lt, tb_le, tb_eq, tw, tnI, tn32 1 (by decide), tnj 1 (by decide), tl32 0 (by decide), tl64 0 (by decide), tl32 1 (by decide), tl64 1 (by decide), tl32 48 (by decide), tl64 48 (by decide), tl32 57 (by decide), tl64 57 (by decide)]); omega)⟩) (dkP dF_172 DX5_isDigit (i := 9) rfl rfl)
set_option maxRecDepth 100000 in
set_option maxHeartbeats 4000000 in
theorem c_X5_isSign (l : Launch) (G : va_G) (kc : KC)  (p : Int32)  : MI l G kc yX5_isSign cX5_isSign 1 (some .boolean) 0 0 [.int p] [] a00 s00 (fun r _ => r = 0 ∨ (r = 1 ∧ 42 ≤ p.toInt)) := by
  intro sz
  refine z_body (y := yX5_isSign) (n := 1) (av := [.int p]) (Qc := fun A => va_Qi (fun r _ => r = 0 ∨ (r = 1 ∧ 42 ≤ p.toInt)) (PoC G kc [] a00 A) A) (plainFor_of_name (by decide)) (Nat.le_of_ble_eq_true rfl) (fun pr e s m below meth c A C0 hr hlk hnm hw hRo ls hl => ?_) sz
  have hx := C0.1
  have hb := C0.2.1
  have hown := C0.2.2.2.1
  have hts := C0.2.2.2.2.1
  have hl : lv_has ls 1 [(0, .int p)] := hl
  refine lv_iload_n hx hb (dkP dF_26 DX5_isSign (i := 0) rfl rfl) rfl (lv_at hl 0 rfl) ?_
  by_cases hsk1_0 : (42 : Int) = p.toInt
  · refine lv_lookup (off := 91) (tgt := 92) hx hb (dX5_isSign_1) (by decide) (by rw [← hsk1_0]; decide) (by decide) ?_
    refine lv_iconst (v := 1) hx hb (dkP dF_4 DX5_isSign (i := 2) rfl rfl) (by decide) ?_
    exact z_zret C0 hr hlk (by decide) hw (Or.inr ⟨rfl, by omega⟩) (dkP dF_172 DX5_isSign (i := 3) rfl rfl)
  by_cases hsk1_1 : (43 : Int) = p.toInt
  · refine lv_lookup (off := 91) (tgt := 92) hx hb (dX5_isSign_1) (by decide) (by rw [← hsk1_1]; decide) (by decide) ?_
    refine lv_iconst (v := 1) hx hb (dkP dF_4 DX5_isSign (i := 2) rfl rfl) (by decide) ?_
    exact z_zret C0 hr hlk (by decide) hw (Or.inr ⟨rfl, by omega⟩) (dkP dF_172 DX5_isSign (i := 3) rfl rfl)
  by_cases hsk1_2 : (45 : Int) = p.toInt
  · refine lv_lookup (off := 91) (tgt := 92) hx hb (dX5_isSign_1) (by decide) (by rw [← hsk1_2]; decide) (by decide) ?_
    refine lv_iconst (v := 1) hx hb (dkP dF_4 DX5_isSign (i := 2) rfl rfl) (by decide) ?_
    exact z_zret C0 hr hlk (by decide) hw (Or.inr ⟨rfl, by omega⟩) (dkP dF_172 DX5_isSign (i := 3) rfl rfl)
  by_cases hsk1_3 : (58 : Int) = p.toInt
  · refine lv_lookup (off := 91) (tgt := 92) hx hb (dX5_isSign_1) (by decide) (by rw [← hsk1_3]; decide) (by decide) ?_
    refine lv_iconst (v := 1) hx hb (dkP dF_4 DX5_isSign (i := 2) rfl rfl) (by decide) ?_
    exact z_zret C0 hr hlk (by decide) hw (Or.inr ⟨rfl, by omega⟩) (dkP dF_172 DX5_isSign (i := 3) rfl rfl)
  by_cases hsk1_4 : (59 : Int) = p.toInt
  · refine lv_lookup (off := 91) (tgt := 92) hx hb (dX5_isSign_1) (by decide) (by rw [← hsk1_4]; decide) (by decide) ?_
    refine lv_iconst (v := 1) hx hb (dkP dF_4 DX5_isSign (i := 2) rfl rfl) (by decide) ?_
    exact z_zret C0 hr hlk (by decide) hw (Or.inr ⟨rfl, by omega⟩) (dkP dF_172 DX5_isSign (i := 3) rfl rfl)
  by_cases hsk1_5 : (60 : Int) = p.toInt
  · refine lv_lookup (off := 91) (tgt := 92) hx hb (dX5_isSign_1) (by decide) (by rw [← hsk1_5]; decide) (by decide) ?_
    refine lv_iconst (v := 1) hx hb (dkP dF_4 DX5_isSign (i := 2) rfl rfl) (by decide) ?_
    exact z_zret C0 hr hlk (by decide) hw (Or.inr ⟨rfl, by omega⟩) (dkP dF_172 DX5_isSign (i := 3) rfl rfl)
  by_cases hsk1_6 : (61 : Int) = p.toInt
  · refine lv_lookup (off := 91) (tgt := 92) hx hb (dX5_isSign_1) (by decide) (by rw [← hsk1_6]; decide) (by decide) ?_
    refine lv_iconst (v := 1) hx hb (dkP dF_4 DX5_isSign (i := 2) rfl rfl) (by decide) ?_
    exact z_zret C0 hr hlk (by decide) hw (Or.inr ⟨rfl, by omega⟩) (dkP dF_172 DX5_isSign (i := 3) rfl rfl)
  by_cases hsk1_7 : (62 : Int) = p.toInt
  · refine lv_lookup (off := 91) (tgt := 92) hx hb (dX5_isSign_1) (by decide) (by rw [← hsk1_7]; decide) (by decide) ?_
    refine lv_iconst (v := 1) hx hb (dkP dF_4 DX5_isSign (i := 2) rfl rfl) (by decide) ?_
    exact z_zret C0 hr hlk (by decide) hw (Or.inr ⟨rfl, by omega⟩) (dkP dF_172 DX5_isSign (i := 3) rfl rfl)
  by_cases hsk1_8 : (123 : Int) = p.toInt
  · refine lv_lookup (off := 91) (tgt := 92) hx hb (dX5_isSign_1) (by decide) (by rw [← hsk1_8]; decide) (by decide) ?_
    refine lv_iconst (v := 1) hx hb (dkP dF_4 DX5_isSign (i := 2) rfl rfl) (by decide) ?_
    exact z_zret C0 hr hlk (by decide) hw (Or.inr ⟨rfl, by omega⟩) (dkP dF_172 DX5_isSign (i := 3) rfl rfl)
  by_cases hsk1_9 : (125 : Int) = p.toInt
  · refine lv_lookup (off := 91) (tgt := 92) hx hb (dX5_isSign_1) (by decide) (by rw [← hsk1_9]; decide) (by decide) ?_
    refine lv_iconst (v := 1) hx hb (dkP dF_4 DX5_isSign (i := 2) rfl rfl) (by decide) ?_
    exact z_zret C0 hr hlk (by decide) hw (Or.inr ⟨rfl, by omega⟩) (dkP dF_172 DX5_isSign (i := 3) rfl rfl)
  refine lv_lookup (off := 93) (tgt := 94) hx hb (dX5_isSign_1) (by decide) (by simp only [Op.lookupswitch.offset, hsk1_0, hsk1_1, hsk1_2, hsk1_3, hsk1_4, hsk1_5, hsk1_6, hsk1_7, hsk1_8, hsk1_9, if_false]) (by decide) ?_
  refine lv_iconst (v := 0) hx hb (dkP dF_3 DX5_isSign (i := 4) rfl rfl) (by decide) ?_
  exact z_zret C0 hr hlk (by decide) hw (Or.inl rfl) (dkP dF_172 DX5_isSign (i := 5) rfl rfl)
