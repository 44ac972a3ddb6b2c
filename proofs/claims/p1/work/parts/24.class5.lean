def pc8 (x : Nat) : Nat := x % 2 + x / 2 % 2 + x / 4 % 2 + x / 8 % 2 + x / 16 % 2 + x / 32 % 2 + x / 64 % 2 + x / 128 % 2
theorem pc8_le (x : Nat) : pc8 x ≤ 8 := by unfold pc8; omega
set_option maxRecDepth 100000 in
theorem bct_pc : ∀ g, g < 256 → bct (nI g) = nI (pc8 g) := by decide +kernel
theorem shl1 : ∀ i, i < 8 → (1 : Int32) <<< (nI i &&& 31) = nI (2 ^ i) := by decide +kernel
theorem fb_and (a b : Nat) : nI a &&& nI b = nI (a &&& b) := by
  apply Int32.toBitVec_inj.1
  show BitVec.ofNat 32 a &&& BitVec.ofNat 32 b = BitVec.ofNat 32 (a &&& b)
  apply BitVec.eq_of_getLsbD_eq
  intro i hi
  simp [hi]
theorem fb_or (a b : Nat) : nI a ||| nI b = nI (a ||| b) := by
  apply Int32.toBitVec_inj.1
  show BitVec.ofNat 32 a ||| BitVec.ofNat 32 b = BitVec.ofNat 32 (a ||| b)
  apply BitVec.eq_of_getLsbD_eq
  intro i hi
  simp [hi]
theorem or8 {d i : Nat} (hd : d < 256) (hi : i < 8) : d ||| 2 ^ i < 256 := Nat.or_lt_two_pow (n := 8) hd (Nat.pow_lt_pow_right (by decide) hi)
theorem orb {d i : Nat} (hi : i < 8) : nI d ||| ((1 : Int32) <<< (nI i &&& 31)) = nI (d ||| 2 ^ i) := by rw [shl1 i hi, fb_or]
theorem t255 (i : Nat) : (255 : Nat).testBit i = decide (i < 8) := Nat.testBit_two_pow_sub_one 8 i
theorem mask8 {g d : Nat} (hg : g < 256) : nI g &&& (nI d ^^^ (-1)) = nI (g &&& (255 ^^^ d)) := by
  apply Int32.toBitVec_inj.1
  show BitVec.ofNat 32 g &&& (BitVec.ofNat 32 d ^^^ BitVec.allOnes 32) = BitVec.ofNat 32 (g &&& (255 ^^^ d))
  apply BitVec.eq_of_getLsbD_eq
  intro i hi
  simp only [BitVec.getLsbD_and, BitVec.getLsbD_xor, BitVec.getLsbD_ofNat, BitVec.getLsbD_allOnes, Nat.testBit_and, Nat.testBit_xor, t255]
  by_cases h8 : i < 8
  · simp [hi, h8]
  · have h : g.testBit i = false := Nat.testBit_lt_two_pow (Nat.lt_of_lt_of_le hg (Nat.pow_le_pow_right (n := 2) (by decide) (show 8 ≤ i by omega)))
    simp [h]
theorem m8lt {g d : Nat} (hg : g < 256) : g &&& (255 ^^^ d) < 256 := Nat.lt_of_le_of_lt Nat.and_le_left hg
theorem bitz {x b : Nat} (hb : b < 8) : nI x &&& ((1 : Int32) <<< (nI b &&& 31)) = 0 ↔ x.testBit b = false := by
  rw [shl1 b hb, fb_and]
  have h2 : (2 : Nat) ^ b < 2 ^ 31 := Nat.pow_lt_pow_right (by decide) (by omega)
  have hle : x &&& 2 ^ b ≤ 2 ^ b := Nat.and_le_right
  have e : x &&& 2 ^ b = 0 ↔ x.testBit b = false := by
    constructor
    · intro h
      have h1 : (x &&& 2 ^ b).testBit b = false := by rw [h]; simp
      rw [Nat.testBit_and] at h1
      simpa [Nat.testBit_two_pow_self] using h1
    · intro h
      apply Nat.eq_of_testBit_eq
      intro i
      rw [Nat.testBit_and, Nat.zero_testBit]
      by_cases hi : i = b
      · subst hi; simp [h]
      · simp [Nat.testBit_two_pow, Ne.symm hi]
  rw [← e]
  constructor
  · intro h
    have h3 : (nI (x &&& 2 ^ b)).toInt = 0 := by rw [h]; rfl
    rw [nI_toInt (by omega)] at h3
    omega
  · intro h
    rw [h]
    rfl
set_option maxRecDepth 100000 in
theorem pc8_0 : ∀ x, x < 256 → (∀ b, b < 8 → x.testBit b = false) → pc8 x = 0 := by decide +kernel
set_option maxRecDepth 100000 in
theorem pc8_s : ∀ x, x < 256 → ∀ b, b < 8 → x.testBit b = true → pc8 (x &&& (255 ^^^ 2 ^ b)) + 1 = pc8 x := by decide +kernel
theorem msk_or {g d b : Nat} (hg : g < 256) : g &&& (255 ^^^ (d ||| 2 ^ b)) = (g &&& (255 ^^^ d)) &&& (255 ^^^ 2 ^ b) := by
  apply Nat.eq_of_testBit_eq
  intro i
  simp only [Nat.testBit_and, Nat.testBit_xor, Nat.testBit_or, t255]
  by_cases h8 : i < 8
  · simp only [h8, decide_true]
    cases g.testBit i <;> cases d.testBit i <;> cases (2 ^ b).testBit i <;> rfl
  · have h : g.testBit i = false := Nat.testBit_lt_two_pow (Nat.lt_of_lt_of_le hg (Nat.pow_le_pow_right (n := 2) (by decide) (show 8 ≤ i by omega)))
    simp [h]
set_option maxRecDepth 100000 in
theorem m8_0 : ∀ g, g < 256 → g &&& (255 ^^^ 0) = g := by decide +kernel
theorem and_m1 (x : Int32) : x &&& (-1) = x := by apply Int32.toBitVec_inj.1; show x.toBitVec &&& BitVec.allOnes 32 = x.toBitVec; exact BitVec.and_allOnes
/-- nobody needs anything, no calls, all costs 0 -/
def PZ (σ : Sg) : Prop := (∀ j, j < 256 → σ.1 221 j = 0) ∧ (∀ j, j < 8 → σ.1 4 j = 0) ∧ ∀ j, j < 64 → σ.1 3 j = -1
theorem PZ.cost {σ : Sg} (h : PZ σ) (j : Nat) : PZ (sI σ 221 j 0) := ⟨fun k hk => by
    by_cases e : k = j
    · subst e; exact rd_s
    · exact (rd_n (by omega)).trans (h.1 k hk), fun k hk => (rd_n (by omega)).trans (h.2.1 k hk), fun k hk => (rd_n (by omega)).trans (h.2.2 k hk)⟩
theorem PZ.oth {σ : Sg} (h : PZ σ) {c j : Nat} {v : Int32} (hc : c ≠ 221 ∧ c ≠ 4 ∧ c ≠ 3) : PZ (sI σ c j v) := ⟨fun k hk => (rd_n (by omega)).trans (h.1 k hk), fun k hk => (rd_n (by omega)).trans (h.2.1 k hk), fun k hk => (rd_n (by omega)).trans (h.2.2 k hk)⟩
set_option maxRecDepth 20000 in
theorem s0a_221 : ∀ j, sC0.1 221 j = 0 := fun _ => rfl
theorem PZ0 : PZ sC0 := ⟨fun j _ => s0a_221 j, fun j _ => s0a_4 j, fun j _ => s0a_3 j⟩
set_option maxRecDepth 100000 in
set_option maxHeartbeats 4000000 in
theorem c_X10_priceWith (l : Launch) (G : va_G) (kc : Nat → ClassId) (ad : Nat → Nat) (σ : Sg)  (ov : Int32) (hz : PZ σ) : MI l G kc yX10_priceWith cX10_priceWith 5 (some .int) 0 0 [.ref (ad 1), .int ov] shC ad σ (fun r σ1 => r = 0 ∧ σ1 = σ) := by
  intro sz
  refine z_body (y := yX10_priceWith) (n := 5) (av := [.ref (ad 1), .int ov]) (Qc := fun A => va_Qi (fun r σ1 => r = 0 ∧ σ1 = σ) (PoC G kc shC ad A) A) (plainFor_of_name (by decide)) (Nat.le_of_ble_eq_true rfl) (fun pr e s m below meth c A C0 hr hlk hnm hw ls hl => ?_) sz
  have hx := C0.1
  have hb := C0.2.1
  have hown := C0.2.2.2.1
  have hts := C0.2.2.2.2.1
  have hl : lv_has ls 5 [(0, .ref (ad 1)), (1, .int ov)] := hl
  refine lv_iconst (v := 0) hx hb (dkP dF_3 DX10_priceWith (i := 0) rfl rfl) (by decide) ?_
  refine lv_istore_n (lv' := [(2, .int 0), (0, .ref (ad 1)), (1, .int ov)]) hx hb (dkP dF_61 DX10_priceWith (i := 1) rfl rfl) rfl hl (by decide) rfl (fun ls hl => ?_)
  refine lv_iconst (v := 0) hx hb (dkP dF_3 DX10_priceWith (i := 2) rfl rfl) (by decide) ?_
  refine lv_istore_n (lv' := [(3, .int 0), (2, .int 0), (0, .ref (ad 1)), (1, .int ov)]) hx hb (dkP dF_62 DX10_priceWith (i := 3) rfl rfl) rfl hl (by decide) rfl (fun ls hl => ?_)
  have lp1 : ∀ (n : Nat) (i : Nat) (H : Heap) (locs : List Loc) (ls : Array Slot), 64 - i < n → (i ≤ 64) → St G kc A s.heap shC ad σ H locs → lv_has ls 5 [(3, .int (nI i)), (2, .int 0), (0, .ref (ad 1)), (1, .int ov)] → W pr l e { frames := 0, cells := 0, slots := 0, locals := 0 } s m ([.ref (ad 1), .int ov] : List Value).toArray below meth c H locs 0 0 (MQ below (va_Qi (fun r σ1 => r = 0 ∧ σ1 = σ) (PoC G kc shC ad A) A) ([.ref (ad 1), .int ov] : List Value).toArray s 0 0 A) (F0 m 4 ls []) := by
    intro n
    induction n with
    | zero => intro i H locs ls hmu; exact absurd hmu (Nat.not_lt_zero _)
    | succ n ih1 =>
      intro i H locs ls hmu hi hw hl
      refine lv_iload_n hx hb (dkP dF_29 DX10_priceWith (i := 4) rfl rfl) rfl (lv_at hl 0 rfl) ?_
      refine lv_aload_n hx hb (dkP dF_42 DX10_priceWith (i := 5) rfl rfl) rfl (lv_at hl 2 rfl) ?_
      refine z_gr C0 hw 1 1 3 (fk_of shc_1 rfl) fl_X10_17 (dk2 dF_180 DX10_priceWith (i := 6) rfl rfl rfl) ?_
      refine z_alen (t := 0) (n := 64) C0 hw 3 (ak_of shc_3) (by decide) (dkP dF_190 DX10_priceWith (i := 7) rfl rfl) ?_
      refine z_top (y := 64) rfl ?_
      refine lv_icmp_ge (tgt := 60) hx hb (dkS dF_162 DX10_priceWith (i := 8) rfl rfl rfl) (by decide) (fun c2 => ?_) (fun c2 => ?_)
      · simp (disch := omega) only [ta_lt, ta_le, ta_eq, tnI, tl32 64 (by decide)] at c2
        refine lv_iload_n hx hb (dkP dF_28 DX10_priceWith (i := 40) rfl rfl) rfl (lv_at hl 1 rfl) ?_
        exact z_iret C0 hr hlk hw (⟨rfl, rfl⟩) (dkP dF_172 DX10_priceWith (i := 41) rfl rfl)
      · simp (disch := omega) only [ta_lt, ta_le, ta_eq, tnI, tl32 64 (by decide)] at c2
        refine lv_iload_n hx hb (dkP dF_27 DX10_priceWith (i := 9) rfl rfl) rfl (lv_at hl 3 rfl) ?_
        refine lv_iload_n hx hb (dkP dF_29 DX10_priceWith (i := 10) rfl rfl) rfl (lv_at hl 0 rfl) ?_
        refine lv_bipush (v := 8) hx hb (dks dF_16 DX10_priceWith (i := 11) rfl rfl rfl) (by decide) ?_
        refine lv_idiv hx hb (dkP dF_108 DX10_priceWith (i := 12) rfl rfl) (by decide) ?_
        refine lv_ishr hx hb (dkP dF_122 DX10_priceWith (i := 13) rfl rfl) ?_
        refine lv_iload_n hx hb (dkP dF_27 DX10_priceWith (i := 14) rfl rfl) rfl (lv_at hl 3 rfl) ?_
        refine lv_iload_n hx hb (dkP dF_29 DX10_priceWith (i := 15) rfl rfl) rfl (lv_at hl 0 rfl) ?_
        refine lv_bipush (v := 8) hx hb (dks dF_16 DX10_priceWith (i := 16) rfl rfl rfl) (by decide) ?_
        refine lv_irem hx hb (dkP dF_112 DX10_priceWith (i := 17) rfl rfl) (by decide) ?_
        refine lv_ishr hx hb (dkP dF_122 DX10_priceWith (i := 18) rfl rfl) ?_
        refine lv_ixor hx hb (dkP dF_130 DX10_priceWith (i := 19) rfl rfl) ?_
        refine lv_istore (lv' := [(4, .int ((ov >>> ((nI i) / 8 &&& 31)) ^^^ (ov >>> ((nI i) - (nI i) / 8 * 8 &&& 31)))), (3, .int (nI i)), (2, .int 0), (0, .ref (ad 1)), (1, .int ov)]) hx hb (dk1 dF_54 DX10_priceWith (i := 20) rfl rfl rfl) hl (by decide) rfl (fun ls hl => ?_)
        refine lv_aload_n hx hb (dkP dF_42 DX10_priceWith (i := 21) rfl rfl) rfl (lv_at hl 3 rfl) ?_
        refine z_gr C0 hw 1 1 3 (fk_of shc_1 rfl) fl_X10_17 (dk2 dF_180 DX10_priceWith (i := 22) rfl rfl rfl) ?_
        refine lv_iload_n hx hb (dkP dF_29 DX10_priceWith (i := 23) rfl rfl) rfl (lv_at hl 1 rfl) ?_
        refine z_ialdN (n := 64) C0 hw 3 i (ak_of shc_3) (by omega) (by decide) (dkP dF_46 DX10_priceWith (i := 24) rfl rfl) ?_
        refine z_top (y := (-1)) (hz.2.2 _ (by omega)) ?_
        refine lv_iconst (v := (-1)) hx hb (dkP dF_2 DX10_priceWith (i := 25) rfl rfl) (by decide) ?_
        refine lv_icmp_eq (tgt := 54) hx hb (dkS dF_159 DX10_priceWith (i := 26) rfl rfl rfl) (by decide) (fun _ => ?_) (fun h => absurd h (by decide))
        refine lv_iinc (v := nI (i + 1)) (lv' := [(3, .int (nI (i + 1))), (4, .int ((ov >>> ((nI i) / 8 &&& 31)) ^^^ (ov >>> ((nI i) - (nI i) / 8 * 8 &&& 31)))), (2, .int 0), (0, .ref (ad 1)), (1, .int ov)]) hx hb (dkI DX10_priceWith (i := 38) rfl rfl rfl rfl) hl (k := 1) rfl (nI_1 _) (by decide) rfl (fun ls hl => ?_)
        refine lv_goto (tgt := 4) hx hb (dkS dF_167 DX10_priceWith (i := 39) rfl rfl rfl) (by decide) ?_
        exact ih1 (i + 1) _ _ _ (by omega) (by omega) hw (lv_sub hl [0, 2, 3, 4] rfl)
  exact lp1 _ 0 _ _ _ (Nat.lt_succ_self _) (by omega) hw (lv_sub hl [0, 1, 2, 3] rfl)
set_option maxRecDepth 20000 in
theorem shc_221 : shC[221]? = some (1, 256, []) := by rfl
set_option maxRecDepth 100000 in
set_option maxHeartbeats 4000000 in
theorem c_X3_nextBehind (l : Launch) (G : va_G) (kc : Nat → ClassId) (ad : Nat → Nat) (σ : Sg)  (d : Nat) (g : Nat) (hd : d < 256) (hg : g < 256) (hz : PZ σ) : MI l G kc yX3_nextBehind cX3_nextBehind 10 (some .int) 0 0 [.ref (ad 220), .ref (ad 1), .int (nI d), .int (nI g), .int 0] shC ad σ (fun r σ1 => ((r = -1 ∧ ∀ b, b < 8 → (nI g &&& (nI d ^^^ (-1))) &&& ((1 : Int32) <<< (nI b &&& 31)) = 0) ∨ (∃ b, b < 8 ∧ r = nI b ∧ ¬ (nI g &&& (nI d ^^^ (-1))) &&& ((1 : Int32) <<< (nI b &&& 31)) = 0)) ∧ σ1 = σ) := by
  intro sz
  refine z_body (y := yX3_nextBehind) (n := 10) (av := [.ref (ad 220), .ref (ad 1), .int (nI d), .int (nI g), .int 0]) (Qc := fun A => va_Qi (fun r σ1 => ((r = -1 ∧ ∀ b, b < 8 → (nI g &&& (nI d ^^^ (-1))) &&& ((1 : Int32) <<< (nI b &&& 31)) = 0) ∨ (∃ b, b < 8 ∧ r = nI b ∧ ¬ (nI g &&& (nI d ^^^ (-1))) &&& ((1 : Int32) <<< (nI b &&& 31)) = 0)) ∧ σ1 = σ) (PoC G kc shC ad A) A) (plainFor_of_name (by decide)) (Nat.le_of_ble_eq_true rfl) (fun pr e s m below meth c A C0 hr hlk hnm hw ls hl => ?_) sz
  have hx := C0.1
  have hb := C0.2.1
  have hown := C0.2.2.2.1
  have hts := C0.2.2.2.2.1
  have hl : lv_has ls 10 [(0, .ref (ad 220)), (1, .ref (ad 1)), (2, .int (nI d)), (3, .int (nI g)), (4, .int 0)] := hl
  refine lv_iconst (v := (-1)) hx hb (dkP dF_2 DX3_nextBehind (i := 0) rfl rfl) (by decide) ?_
  refine lv_istore (lv' := [(5, .int (-1)), (0, .ref (ad 220)), (1, .ref (ad 1)), (2, .int (nI d)), (3, .int (nI g)), (4, .int 0)]) hx hb (dk1 dF_54 DX3_nextBehind (i := 1) rfl rfl rfl) hl (by decide) rfl (fun ls hl => ?_)
  refine lv_ldc hx hb hown (hts _ kn_X3_37) (dk1 dF_18 DX3_nextBehind (i := 2) rfl rfl rfl) ?_
  refine lv_istore (lv' := [(6, .int 536870912), (5, .int (-1)), (0, .ref (ad 220)), (1, .ref (ad 1)), (2, .int (nI d)), (3, .int (nI g)), (4, .int 0)]) hx hb (dk1 dF_54 DX3_nextBehind (i := 3) rfl rfl rfl) hl (by decide) rfl (fun ls hl => ?_)
  refine lv_iconst (v := 0) hx hb (dkP dF_3 DX3_nextBehind (i := 4) rfl rfl) (by decide) ?_
  refine lv_istore (lv' := [(7, .int 0), (6, .int 536870912), (5, .int (-1)), (0, .ref (ad 220)), (1, .ref (ad 1)), (2, .int (nI d)), (3, .int (nI g)), (4, .int 0)]) hx hb (dk1 dF_54 DX3_nextBehind (i := 5) rfl rfl rfl) hl (by decide) rfl (fun ls hl => ?_)
  have lp1 : ∀ (n : Nat) (i : Nat) (bs : Int32) (le : Int32) (H : Heap) (locs : List Loc) (ls : Array Slot), 8 - i < n → (i ≤ 8) → ((bs = -1 ∧ le = 536870912 ∧ ∀ b, b < i → (nI g &&& (nI d ^^^ (-1))) &&& ((1 : Int32) <<< (nI b &&& 31)) = 0) ∨ (∃ b, b < 8 ∧ bs = nI b ∧ le = 0 ∧ ¬ (nI g &&& (nI d ^^^ (-1))) &&& ((1 : Int32) <<< (nI b &&& 31)) = 0)) → St G kc A s.heap shC ad σ H locs → lv_has ls 10 [(7, .int (nI i)), (6, .int le), (5, .int bs), (0, .ref (ad 220)), (1, .ref (ad 1)), (2, .int (nI d)), (3, .int (nI g)), (4, .int 0)] → W pr l e { frames := 0, cells := 0, slots := 0, locals := 0 } s m ([.ref (ad 220), .ref (ad 1), .int (nI d), .int (nI g), .int 0] : List Value).toArray below meth c H locs 0 0 (MQ below (va_Qi (fun r σ1 => ((r = -1 ∧ ∀ b, b < 8 → (nI g &&& (nI d ^^^ (-1))) &&& ((1 : Int32) <<< (nI b &&& 31)) = 0) ∨ (∃ b, b < 8 ∧ r = nI b ∧ ¬ (nI g &&& (nI d ^^^ (-1))) &&& ((1 : Int32) <<< (nI b &&& 31)) = 0)) ∧ σ1 = σ) (PoC G kc shC ad A) A) ([.ref (ad 220), .ref (ad 1), .int (nI d), .int (nI g), .int 0] : List Value).toArray s 0 0 A) (F0 m 10 ls []) := by
    intro n
    induction n with
    | zero => intro i bs le H locs ls hmu; exact absurd hmu (Nat.not_lt_zero _)
    | succ n ih1 =>
      intro i bs le H locs ls hmu hi hin hw hl
      refine lv_iload hx hb (dk1 dF_21 DX3_nextBehind (i := 6) rfl rfl rfl) (lv_at hl 0 rfl) ?_
      refine lv_bipush (v := 8) hx hb (dks dF_16 DX3_nextBehind (i := 7) rfl rfl rfl) (by decide) ?_
      refine lv_icmp_ge (tgt := 110) hx hb (dkS dF_162 DX3_nextBehind (i := 8) rfl rfl rfl) (by decide) (fun c2 => ?_) (fun c2 => ?_)
      · simp (disch := omega) only [ta_lt, ta_le, ta_eq, tnI, tl32 8 (by decide)] at c2
        refine lv_iload hx hb (dk1 dF_21 DX3_nextBehind (i := 65) rfl rfl rfl) (lv_at hl 2 rfl) ?_
        exact z_iret C0 hr hlk hw (⟨(by rcases hin with ⟨h1, h2, h3⟩ | ⟨b, h1, h2, h3, h4⟩; (· exact Or.inl ⟨h1, fun b hb => h3 b (by omega)⟩); (· exact Or.inr ⟨b, h1, h2, h4⟩)), rfl⟩) (dkP dF_172 DX3_nextBehind (i := 66) rfl rfl)
      · simp (disch := omega) only [ta_lt, ta_le, ta_eq, tnI, tl32 8 (by decide)] at c2
        refine lv_iload_n hx hb (dkP dF_29 DX3_nextBehind (i := 9) rfl rfl) rfl (lv_at hl 6 rfl) ?_
        refine lv_iload_n hx hb (dkP dF_28 DX3_nextBehind (i := 10) rfl rfl) rfl (lv_at hl 5 rfl) ?_
        refine lv_iconst (v := (-1)) hx hb (dkP dF_2 DX3_nextBehind (i := 11) rfl rfl) (by decide) ?_
        refine lv_ixor hx hb (dkP dF_130 DX3_nextBehind (i := 12) rfl rfl) ?_
        refine lv_iand hx hb (dkP dF_126 DX3_nextBehind (i := 13) rfl rfl) ?_
        refine lv_iconst (v := 1) hx hb (dkP dF_4 DX3_nextBehind (i := 14) rfl rfl) (by decide) ?_
        refine lv_iload hx hb (dk1 dF_21 DX3_nextBehind (i := 15) rfl rfl rfl) (lv_at hl 0 rfl) ?_
        refine lv_ishl hx hb (dkP dF_120 DX3_nextBehind (i := 16) rfl rfl) ?_
        refine lv_iand hx hb (dkP dF_126 DX3_nextBehind (i := 17) rfl rfl) ?_
        refine lv_if_eq (tgt := 34) hx hb (dkS dF_153 DX3_nextBehind (i := 18) rfl rfl rfl) (by decide) (fun c3 => ?_) (fun c3 => ?_)
        · have hbz := c3
          refine lv_iconst (v := 0) hx hb (dkP dF_3 DX3_nextBehind (i := 21) rfl rfl) (by decide) ?_
          refine lv_istore (lv' := [(8, .int 0), (7, .int (nI i)), (6, .int le), (5, .int bs), (0, .ref (ad 220)), (1, .ref (ad 1)), (2, .int (nI d)), (3, .int (nI g)), (4, .int 0)]) hx hb (dk1 dF_54 DX3_nextBehind (i := 22) rfl rfl rfl) hl (by decide) rfl (fun ls hl => ?_)
          refine lv_iload hx hb (dk1 dF_21 DX3_nextBehind (i := 23) rfl rfl rfl) (lv_at hl 0 rfl) ?_
          refine lv_if_eq (tgt := 63) hx hb (dkS dF_153 DX3_nextBehind (i := 24) rfl rfl rfl) (by decide) (fun _ => ?_) (fun h => absurd h (by decide))
          refine lv_iconst (v := 0) hx hb (dkP dF_3 DX3_nextBehind (i := 38) rfl rfl) (by decide) ?_
          refine lv_istore (lv' := [(9, .int 0), (8, .int 0), (7, .int (nI i)), (6, .int le), (5, .int bs), (0, .ref (ad 220)), (1, .ref (ad 1)), (2, .int (nI d)), (3, .int (nI g)), (4, .int 0)]) hx hb (dk1 dF_54 DX3_nextBehind (i := 39) rfl rfl rfl) hl (by decide) rfl (fun ls hl => ?_)
          refine lv_iload hx hb (dk1 dF_21 DX3_nextBehind (i := 40) rfl rfl rfl) (lv_at hl 0 rfl) ?_
          refine lv_if_eq (tgt := 104) hx hb (dkS dF_153 DX3_nextBehind (i := 41) rfl rfl rfl) (by decide) (fun _ => ?_) (fun h => absurd h (by decide))
          refine lv_iinc (v := nI (i + 1)) (lv' := [(7, .int (nI (i + 1))), (9, .int 0), (8, .int 0), (6, .int le), (5, .int bs), (0, .ref (ad 220)), (1, .ref (ad 1)), (2, .int (nI d)), (3, .int (nI g)), (4, .int 0)]) hx hb (dkI DX3_nextBehind (i := 63) rfl rfl rfl rfl) hl (k := 2) rfl (nI_1 _) (by decide) rfl (fun ls hl => ?_)
          refine lv_goto (tgt := 10) hx hb (dkS dF_167 DX3_nextBehind (i := 64) rfl rfl rfl) (by decide) ?_
          exact ih1 (i + 1) bs le _ _ _ (by omega) (by omega) (by rcases hin with ⟨h1, h2, h3⟩ | h4; (· refine Or.inl ⟨h1, h2, fun b hb => ?_⟩; rcases Nat.lt_or_ge b i with q | q; (· exact h3 b q); (· have e : b = i := (by omega); subst e; first | exact hbz | (exfalso; rw [h2] at hle; revert hle; decide))); (· exact Or.inr h4)) hw (lv_sub hl [0, 3, 4, 5, 6, 7, 8, 9] rfl)
        · have hbs := c3
          refine lv_iconst (v := 1) hx hb (dkP dF_4 DX3_nextBehind (i := 19) rfl rfl) (by decide) ?_
          refine lv_goto (tgt := 35) hx hb (dkS dF_167 DX3_nextBehind (i := 20) rfl rfl rfl) (by decide) ?_
          refine lv_istore (lv' := [(8, .int 1), (7, .int (nI i)), (6, .int le), (5, .int bs), (0, .ref (ad 220)), (1, .ref (ad 1)), (2, .int (nI d)), (3, .int (nI g)), (4, .int 0)]) hx hb (dk1 dF_54 DX3_nextBehind (i := 22) rfl rfl rfl) hl (by decide) rfl (fun ls hl => ?_)
          refine lv_iload hx hb (dk1 dF_21 DX3_nextBehind (i := 23) rfl rfl rfl) (lv_at hl 0 rfl) ?_
          refine lv_if_eq (tgt := 63) hx hb (dkS dF_153 DX3_nextBehind (i := 24) rfl rfl rfl) (by decide) (fun h => absurd h (by decide)) (fun _ => ?_)
          refine lv_aload_n hx hb (dkP dF_43 DX3_nextBehind (i := 25) rfl rfl) rfl (lv_at hl 5 rfl) ?_
          refine z_gr C0 hw 1 2 4 (fk_of shc_1 rfl) fl_X3_38 (dk2 dF_180 DX3_nextBehind (i := 26) rfl rfl rfl) ?_
          refine lv_iload hx hb (dk1 dF_21 DX3_nextBehind (i := 27) rfl rfl rfl) (lv_at hl 1 rfl) ?_
          refine z_ialdN (n := 8) C0 hw 4 i (ak_of shc_4) (by omega) (by decide) (dkP dF_46 DX3_nextBehind (i := 28) rfl rfl) ?_
          refine z_top (y := 0) (hz.2.1 _ (by omega)) ?_
          refine lv_iload_n hx hb (dkP dF_28 DX3_nextBehind (i := 29) rfl rfl) rfl (lv_at hl 6 rfl) ?_
          refine lv_iload hx hb (dk1 dF_21 DX3_nextBehind (i := 30) rfl rfl rfl) (lv_at hl 8 rfl) ?_
          refine lv_ior hx hb (dkP dF_128 DX3_nextBehind (i := 31) rfl rfl) ?_
          refine lv_iconst (v := (-1)) hx hb (dkP dF_2 DX3_nextBehind (i := 32) rfl rfl) (by decide) ?_
          refine lv_ixor hx hb (dkP dF_130 DX3_nextBehind (i := 33) rfl rfl) ?_
          refine lv_iand hx hb (dkP dF_126 DX3_nextBehind (i := 34) rfl rfl) ?_
          refine z_top (y := 0) (z0a _) ?_
          refine lv_if_ne (tgt := 63) hx hb (dkS dF_154 DX3_nextBehind (i := 35) rfl rfl rfl) (by decide) (fun h => absurd h (by decide)) (fun _ => ?_)
          refine lv_iconst (v := 1) hx hb (dkP dF_4 DX3_nextBehind (i := 36) rfl rfl) (by decide) ?_
          refine lv_goto (tgt := 64) hx hb (dkS dF_167 DX3_nextBehind (i := 37) rfl rfl rfl) (by decide) ?_
          refine lv_istore (lv' := [(9, .int 1), (8, .int 1), (7, .int (nI i)), (6, .int le), (5, .int bs), (0, .ref (ad 220)), (1, .ref (ad 1)), (2, .int (nI d)), (3, .int (nI g)), (4, .int 0)]) hx hb (dk1 dF_54 DX3_nextBehind (i := 39) rfl rfl rfl) hl (by decide) rfl (fun ls hl => ?_)
          refine lv_iload hx hb (dk1 dF_21 DX3_nextBehind (i := 40) rfl rfl rfl) (lv_at hl 0 rfl) ?_
          refine lv_if_eq (tgt := 104) hx hb (dkS dF_153 DX3_nextBehind (i := 41) rfl rfl rfl) (by decide) (fun h => absurd h (by decide)) (fun _ => ?_)
          refine lv_aload_n hx hb (dkP dF_42 DX3_nextBehind (i := 42) rfl rfl) rfl (lv_at hl 5 rfl) ?_
          refine z_gr C0 hw 220 0 221 (fk_of shc_220 rfl) fl_X3_9 (dk2 dF_180 DX3_nextBehind (i := 43) rfl rfl rfl) ?_
          refine lv_iload_n hx hb (dkP dF_28 DX3_nextBehind (i := 44) rfl rfl) rfl (lv_at hl 7 rfl) ?_
          refine lv_iconst (v := 1) hx hb (dkP dF_4 DX3_nextBehind (i := 45) rfl rfl) (by decide) ?_
          refine lv_iload hx hb (dk1 dF_21 DX3_nextBehind (i := 46) rfl rfl rfl) (lv_at hl 2 rfl) ?_
          refine lv_ishl hx hb (dkP dF_120 DX3_nextBehind (i := 47) rfl rfl) ?_
          refine lv_ior hx hb (dkP dF_128 DX3_nextBehind (i := 48) rfl rfl) ?_
          refine z_top (y := nI (d ||| 2 ^ i)) (orb (by omega)) ?_
          refine z_ialdN (n := 256) C0 hw 221 (d ||| 2 ^ i) (ak_of shc_221) (or8 hd (by omega)) (by decide) (dkP dF_46 DX3_nextBehind (i := 49) rfl rfl) ?_
          refine z_top (y := 0) (hz.1 _ (or8 hd (by omega))) ?_
          refine lv_iload hx hb (dk1 dF_21 DX3_nextBehind (i := 50) rfl rfl rfl) (lv_at hl 3 rfl) ?_
          refine lv_icmp_ge (tgt := 104) hx hb (dkS dF_162 DX3_nextBehind (i := 51) rfl rfl rfl) (by decide) (fun c4 => ?_) (fun c4 => ?_)
          · have hle := c4
            refine lv_iinc (v := nI (i + 1)) (lv' := [(7, .int (nI (i + 1))), (9, .int 1), (8, .int 1), (6, .int le), (5, .int bs), (0, .ref (ad 220)), (1, .ref (ad 1)), (2, .int (nI d)), (3, .int (nI g)), (4, .int 0)]) hx hb (dkI DX3_nextBehind (i := 63) rfl rfl rfl rfl) hl (k := 2) rfl (nI_1 _) (by decide) rfl (fun ls hl => ?_)
            refine lv_goto (tgt := 10) hx hb (dkS dF_167 DX3_nextBehind (i := 64) rfl rfl rfl) (by decide) ?_
            exact ih1 (i + 1) bs le _ _ _ (by omega) (by omega) (by rcases hin with ⟨h1, h2, h3⟩ | h4; (· refine Or.inl ⟨h1, h2, fun b hb => ?_⟩; rcases Nat.lt_or_ge b i with q | q; (· exact h3 b q); (· have e : b = i := (by omega); subst e; first | exact hbz | (exfalso; rw [h2] at hle; revert hle; decide))); (· exact Or.inr h4)) hw (lv_sub hl [0, 3, 4, 5, 6, 7, 8, 9] rfl)
          · skip
            refine lv_iload hx hb (dk1 dF_21 DX3_nextBehind (i := 52) rfl rfl rfl) (lv_at hl 2 rfl) ?_
            refine lv_istore (lv' := [(5, .int (nI i)), (9, .int 1), (8, .int 1), (7, .int (nI i)), (6, .int le), (0, .ref (ad 220)), (1, .ref (ad 1)), (2, .int (nI d)), (3, .int (nI g)), (4, .int 0)]) hx hb (dk1 dF_54 DX3_nextBehind (i := 53) rfl rfl rfl) hl (by decide) rfl (fun ls hl => ?_)
            refine lv_aload_n hx hb (dkP dF_42 DX3_nextBehind (i := 54) rfl rfl) rfl (lv_at hl 5 rfl) ?_
            refine z_gr C0 hw 220 0 221 (fk_of shc_220 rfl) fl_X3_9 (dk2 dF_180 DX3_nextBehind (i := 55) rfl rfl rfl) ?_
            refine lv_iload_n hx hb (dkP dF_28 DX3_nextBehind (i := 56) rfl rfl) rfl (lv_at hl 7 rfl) ?_
            refine lv_iconst (v := 1) hx hb (dkP dF_4 DX3_nextBehind (i := 57) rfl rfl) (by decide) ?_
            refine lv_iload hx hb (dk1 dF_21 DX3_nextBehind (i := 58) rfl rfl rfl) (lv_at hl 3 rfl) ?_
            refine lv_ishl hx hb (dkP dF_120 DX3_nextBehind (i := 59) rfl rfl) ?_
            refine lv_ior hx hb (dkP dF_128 DX3_nextBehind (i := 60) rfl rfl) ?_
            refine z_top (y := nI (d ||| 2 ^ i)) (orb (by omega)) ?_
            refine z_ialdN (n := 256) C0 hw 221 (d ||| 2 ^ i) (ak_of shc_221) (or8 hd (by omega)) (by decide) (dkP dF_46 DX3_nextBehind (i := 61) rfl rfl) ?_
            refine z_top (y := 0) (hz.1 _ (or8 hd (by omega))) ?_
            refine lv_istore (lv' := [(6, .int 0), (5, .int (nI i)), (9, .int 1), (8, .int 1), (7, .int (nI i)), (0, .ref (ad 220)), (1, .ref (ad 1)), (2, .int (nI d)), (3, .int (nI g)), (4, .int 0)]) hx hb (dk1 dF_54 DX3_nextBehind (i := 62) rfl rfl rfl) hl (by decide) rfl (fun ls hl => ?_)
            refine lv_iinc (v := nI (i + 1)) (lv' := [(7, .int (nI (i + 1))), (6, .int 0), (5, .int (nI i)), (9, .int 1), (8, .int 1), (0, .ref (ad 220)), (1, .ref (ad 1)), (2, .int (nI d)), (3, .int (nI g)), (4, .int 0)]) hx hb (dkI DX3_nextBehind (i := 63) rfl rfl rfl rfl) hl (k := 4) rfl (nI_1 _) (by decide) rfl (fun ls hl => ?_)
            refine lv_goto (tgt := 10) hx hb (dkS dF_167 DX3_nextBehind (i := 64) rfl rfl rfl) (by decide) ?_
            exact ih1 (i + 1) (nI i) 0 _ _ _ (by omega) (by omega) (Or.inr ⟨i, by omega, rfl, rfl, hbs⟩) hw (lv_sub hl [0, 1, 2, 5, 6, 7, 8, 9] rfl)
  exact lp1 _ 0 (-1) 536870912 _ _ _ (Nat.lt_succ_self _) (by omega) (Or.inl ⟨rfl, rfl, fun b hb => absurd hb (by omega)⟩) hw (lv_sub hl [0, 1, 2, 3, 4, 5, 6, 7] rfl)
set_option maxRecDepth 20000 in
theorem shc_222 : shC[222]? = some (1, 8, []) := by rfl
set_option maxRecDepth 100000 in
set_option maxHeartbeats 4000000 in
theorem c_X3_settle (l : Launch) (G : va_G) (kc : Nat → ClassId) (ad : Nat → Nat) (σ : Sg)  (g : Nat) (hg : g < 256) (hz : PZ σ) : MI l G kc yX3_settle cX3_settle 7 (some .int) 1 29 [.ref (ad 220), .ref (ad 1), .int (nI g), .int 0] shC ad σ (fun r σ1 => r = 0 ∧ True) := by
  intro sz
  refine z_body (y := yX3_settle) (n := 7) (av := [.ref (ad 220), .ref (ad 1), .int (nI g), .int 0]) (Qc := fun A => va_Qi (fun r σ1 => r = 0 ∧ True) (PoC G kc shC ad A) A) (plainFor_of_name (by decide)) (Nat.le_of_ble_eq_true rfl) (fun pr e s m below meth c A C0 hr hlk hnm hw ls hl => ?_) sz
  have hx := C0.1
  have hb := C0.2.1
  have hown := C0.2.2.2.1
  have hts := C0.2.2.2.2.1
  have hl : lv_has ls 7 [(0, .ref (ad 220)), (1, .ref (ad 1)), (2, .int (nI g)), (3, .int 0)] := hl
  have hp8 := pc8_le g
  refine lv_iconst (v := 0) hx hb (dkP dF_3 DX3_settle (i := 0) rfl rfl) (by decide) ?_
  refine lv_istore (lv' := [(4, .int 0), (0, .ref (ad 220)), (1, .ref (ad 1)), (2, .int (nI g)), (3, .int 0)]) hx hb (dk1 dF_54 DX3_settle (i := 1) rfl rfl rfl) hl (by decide) rfl (fun ls hl => ?_)
  refine lv_iload_n hx hb (dkP dF_28 DX3_settle (i := 2) rfl rfl) rfl (lv_at hl 3 rfl) ?_
  refine lv_istore (lv' := [(5, .int (nI g)), (4, .int 0), (0, .ref (ad 220)), (1, .ref (ad 1)), (2, .int (nI g)), (3, .int 0)]) hx hb (dk1 dF_54 DX3_settle (i := 3) rfl rfl rfl) hl (by decide) rfl (fun ls hl => ?_)
  have lp1 : ∀ (n : Nat) (n0 : Nat) (τ : Sg) (H : Heap) (locs : List Loc) (ls : Array Slot), n0 < n → (n0 ≤ 256) → (PZ τ) → St G kc A s.heap shC ad τ H locs → lv_has ls 7 [(5, .int (nI n0 + (-1))), (4, .int 0), (0, .ref (ad 220)), (1, .ref (ad 1)), (2, .int (nI g)), (3, .int 0)] → W pr l e { frames := 1, cells := 0, slots := 0, locals := 29 } s m ([.ref (ad 220), .ref (ad 1), .int (nI g), .int 0] : List Value).toArray below meth c H locs 0 0 (MQ below (va_Qi (fun r σ1 => r = 0 ∧ True) (PoC G kc shC ad A) A) ([.ref (ad 220), .ref (ad 1), .int (nI g), .int 0] : List Value).toArray s 0 0 A) (F0 m 6 ls []) := by
    intro n
    induction n with
    | zero => intro n0 τ H locs ls hmu; exact absurd hmu (Nat.not_lt_zero _)
    | succ n ih1 =>
      intro n0 τ H locs ls hmu hn hτ hw hl
      refine lv_iload hx hb (dk1 dF_21 DX3_settle (i := 4) rfl rfl rfl) (lv_at hl 0 rfl) ?_
      refine lv_if_lt (tgt := 79) hx hb (dkS dF_155 DX3_settle (i := 5) rfl rfl rfl) (by decide) (fun c2 => ?_) (fun c2 => ?_)
      · skip
        refine lv_aload_n hx hb (dkP dF_42 DX3_settle (i := 46) rfl rfl) rfl (lv_at hl 2 rfl) ?_
        refine lv_iload_n hx hb (dkP dF_28 DX3_settle (i := 47) rfl rfl) rfl (lv_at hl 4 rfl) ?_
        refine zn_I hw (zr_S (As := [.int (nI g)]) (rest := [.ref (ad 220)]) C0 (c_J6_bitCount_0f7a4 l G kc (nI g)  _) cs_J6_bitCount_0f7a4 lk_X3_28 (zp_P C0 a00 s00) rfl hl.1 rfl ⟨by decide, by decide⟩ (Nat.le_of_ble_eq_true rfl) (dk2 dF_184 DX3_settle (i := 48) rfl rfl rfl) ⟨Nat.le_refl _, Nat.le_refl _⟩) (fun r3 s3 H locs hp hw => ?_)
        subst hp
        refine z_top (y := (nI (pc8 g))) (bct_pc g hg) ?_
        refine z_pi C0 hw 220 2 (fk_of shc_220 rfl) fp_X3_33 (dk2 dF_181 DX3_settle (i := 49) rfl rfl rfl) (fun H locs hw => ?_)
        refine lv_iconst (v := 0) hx hb (dkP dF_3 DX3_settle (i := 50) rfl rfl) (by decide) ?_
        refine lv_istore (lv' := [(5, .int 0), (4, .int 0), (0, .ref (ad 220)), (1, .ref (ad 1)), (2, .int (nI g)), (3, .int 0)]) hx hb (dk1 dF_54 DX3_settle (i := 51) rfl rfl rfl) hl (by decide) rfl (fun ls hl => ?_)
        refine lv_iconst (v := 0) hx hb (dkP dF_3 DX3_settle (i := 52) rfl rfl) (by decide) ?_
        refine lv_istore (lv' := [(6, .int 0), (5, .int 0), (4, .int 0), (0, .ref (ad 220)), (1, .ref (ad 1)), (2, .int (nI g)), (3, .int 0)]) hx hb (dk1 dF_54 DX3_settle (i := 53) rfl rfl rfl) hl (by decide) rfl (fun ls hl => ?_)
        have lp4 : ∀ (n : Nat) (d2 : Nat) (i : Nat) (ρ : Sg) (H : Heap) (locs : List Loc) (ls : Array Slot), 8 - i < n → (d2 < 256) → (pc8 (g &&& (255 ^^^ d2)) + i = pc8 g) → (ρ.1 220 2 = nI (pc8 g)) → (PZ ρ) → St G kc A s.heap shC ad ρ H locs → lv_has ls 7 [(6, .int (nI i)), (5, .int (nI d2)), (4, .int 0), (0, .ref (ad 220)), (1, .ref (ad 1)), (2, .int (nI g)), (3, .int 0)] → W pr l e { frames := 1, cells := 0, slots := 0, locals := 29 } s m ([.ref (ad 220), .ref (ad 1), .int (nI g), .int 0] : List Value).toArray below meth c H locs 0 0 (MQ below (va_Qi (fun r σ1 => r = 0 ∧ True) (PoC G kc shC ad A) A) ([.ref (ad 220), .ref (ad 1), .int (nI g), .int 0] : List Value).toArray s 0 0 A) (F0 m 93 ls []) := by
          intro n
          induction n with
          | zero => intro d2 i ρ H locs ls hmu; exact absurd hmu (Nat.not_lt_zero _)
          | succ n ih4 =>
            intro d2 i ρ H locs ls hmu hd2 hpc hs hρ hw hl
            refine lv_iload hx hb (dk1 dF_21 DX3_settle (i := 54) rfl rfl rfl) (lv_at hl 0 rfl) ?_
            refine lv_aload_n hx hb (dkP dF_42 DX3_settle (i := 55) rfl rfl) rfl (lv_at hl 3 rfl) ?_
            refine z_gi C0 hw 220 2 (fk_of shc_220 rfl) fl_X3_33 (dk2 dF_180 DX3_settle (i := 56) rfl rfl rfl) ?_
            refine z_top (y := (nI (pc8 g))) hs ?_
            refine lv_icmp_ge (tgt := 138) hx hb (dkS dF_162 DX3_settle (i := 57) rfl rfl rfl) (by decide) (fun c5 => ?_) (fun c5 => ?_)
            · simp (disch := omega) only [ta_lt, ta_le, ta_eq, tnI] at c5
              refine lv_iload hx hb (dk1 dF_21 DX3_settle (i := 79) rfl rfl rfl) (lv_at hl 2 rfl) ?_
              exact z_iret C0 hr hlk hw (⟨rfl, trivial⟩) (dkP dF_172 DX3_settle (i := 80) rfl rfl)
            · simp (disch := omega) only [ta_lt, ta_le, ta_eq, tnI] at c5
              refine lv_aload_n hx hb (dkP dF_42 DX3_settle (i := 58) rfl rfl) rfl (lv_at hl 3 rfl) ?_
              refine z_gr C0 hw 220 1 222 (fk_of shc_220 rfl) fl_X3_15 (dk2 dF_180 DX3_settle (i := 59) rfl rfl rfl) ?_
              refine lv_iload hx hb (dk1 dF_21 DX3_settle (i := 60) rfl rfl rfl) (lv_at hl 0 rfl) ?_
              refine lv_aload_n hx hb (dkP dF_42 DX3_settle (i := 61) rfl rfl) rfl (lv_at hl 3 rfl) ?_
              refine lv_aload_n hx hb (dkP dF_43 DX3_settle (i := 62) rfl rfl) rfl (lv_at hl 4 rfl) ?_
              refine lv_iload hx hb (dk1 dF_21 DX3_settle (i := 63) rfl rfl rfl) (lv_at hl 1 rfl) ?_
              refine lv_iload_n hx hb (dkP dF_28 DX3_settle (i := 64) rfl rfl) rfl (lv_at hl 5 rfl) ?_
              refine lv_iload_n hx hb (dkP dF_29 DX3_settle (i := 65) rfl rfl) rfl (lv_at hl 6 rfl) ?_
              refine zk_I hw (zr_V (As := [.ref (ad 1), .int (nI d2), .int (nI g), .int 0]) (rest := [.int (nI i), .ref (ad 222)]) C0 (c_X3_nextBehind l G kc ad ρ d2 g hd2 hg hρ _) cv_X3_nextBehind lk_X3_18 (zp_V C0 hw 220 shc_220 rfl rfl) rfl hl.1 rfl ⟨by decide, by decide⟩ (Nat.le_of_ble_eq_true rfl) (dk2 dF_182 DX3_settle (i := 66) rfl rfl rfl) ⟨Nat.le_refl _, Nat.le_refl _⟩) (fun r6 s6 H locs hp hw => ?_)
              obtain ⟨hq6, hs6⟩ := hp
              (rw [hs6] at hw; clear hs6)
              rcases hq6 with ⟨rfl, hall⟩ | ⟨b, hb8, rfl, hbit⟩
              · exact absurd (pc8_0 _ (m8lt (d := d2) hg) (fun b hb => (bitz hb).mp (by rw [← mask8 hg]; exact hall b hb))) (by omega)
              · skip
                rw [mask8 hg] at hbit
                have hbt : (g &&& (255 ^^^ d2)).testBit b = true := by
                  cases hq : (g &&& (255 ^^^ d2)).testBit b with
                  | true => rfl
                  | false => exact absurd ((bitz hb8).mpr hq) hbit
                refine z_iastN (n := 8) C0 hw 222 i (ak_of shc_222) (by omega) (by decide) (dkP dF_79 DX3_settle (i := 67) rfl rfl) (fun H locs hw => ?_)
                refine lv_iload hx hb (dk1 dF_21 DX3_settle (i := 68) rfl rfl rfl) (lv_at hl 1 rfl) ?_
                refine lv_iconst (v := 1) hx hb (dkP dF_4 DX3_settle (i := 69) rfl rfl) (by decide) ?_
                refine lv_aload_n hx hb (dkP dF_42 DX3_settle (i := 70) rfl rfl) rfl (lv_at hl 3 rfl) ?_
                refine z_gr C0 hw 220 1 222 (fk_of shc_220 rfl) fl_X3_15 (dk2 dF_180 DX3_settle (i := 71) rfl rfl rfl) ?_
                refine lv_iload hx hb (dk1 dF_21 DX3_settle (i := 72) rfl rfl rfl) (lv_at hl 0 rfl) ?_
                refine z_ialdN (n := 8) C0 hw 222 i (ak_of shc_222) (by omega) (by decide) (dkP dF_46 DX3_settle (i := 73) rfl rfl) ?_
                refine z_top (y := (nI b)) rd_s ?_
                refine lv_ishl hx hb (dkP dF_120 DX3_settle (i := 74) rfl rfl) ?_
                refine lv_ior hx hb (dkP dF_128 DX3_settle (i := 75) rfl rfl) ?_
                refine z_top (y := nI (d2 ||| 2 ^ b)) (orb (by omega)) ?_
                refine lv_istore (lv' := [(5, .int (nI (d2 ||| 2 ^ b))), (6, .int (nI i)), (4, .int 0), (0, .ref (ad 220)), (1, .ref (ad 1)), (2, .int (nI g)), (3, .int 0)]) hx hb (dk1 dF_54 DX3_settle (i := 76) rfl rfl rfl) hl (by decide) rfl (fun ls hl => ?_)
                refine lv_iinc (v := nI (i + 1)) (lv' := [(6, .int (nI (i + 1))), (5, .int (nI (d2 ||| 2 ^ b))), (4, .int 0), (0, .ref (ad 220)), (1, .ref (ad 1)), (2, .int (nI g)), (3, .int 0)]) hx hb (dkI DX3_settle (i := 77) rfl rfl rfl rfl) hl (k := 1) rfl (nI_1 _) (by decide) rfl (fun ls hl => ?_)
                refine lv_goto (tgt := 93) hx hb (dkS dF_167 DX3_settle (i := 78) rfl rfl rfl) (by decide) ?_
                exact ih4 (d2 ||| 2 ^ b) (i + 1) (sI ρ 222 i (nI b)) _ _ _ (by omega) (or8 hd2 hb8) (by rw [msk_or hg]; have := pc8_s _ (m8lt (d := d2) hg) b hb8 hbt; omega) ((rd_n (by omega)).trans hs) (PZ.oth hρ (by decide)) hw (lv_sub hl [0, 1, 2, 3, 4, 5, 6] rfl)
        exact lp4 _ 0 0 (sI τ 220 2 (nI (pc8 g))) _ _ _ (Nat.lt_succ_self _) (by decide) (by rw [m8_0 g hg]; rfl) rd_s (PZ.oth hτ (by decide)) hw (lv_sub hl [0, 1, 2, 3, 4, 5, 6] rfl)
      · skip
        obtain ⟨d, rfl⟩ : ∃ d, n0 = d + 1 := by
          cases n0 with
          | zero => exact absurd (by decide) c2
          | succ d => exact ⟨d, rfl⟩
        rw [pk_m1] at hl
        refine lv_iload hx hb (dk1 dF_21 DX3_settle (i := 6) rfl rfl rfl) (lv_at hl 0 rfl) ?_
        refine lv_iload_n hx hb (dkP dF_28 DX3_settle (i := 7) rfl rfl) rfl (lv_at hl 4 rfl) ?_
        refine lv_iconst (v := (-1)) hx hb (dkP dF_2 DX3_settle (i := 8) rfl rfl) (by decide) ?_
        refine lv_ixor hx hb (dkP dF_130 DX3_settle (i := 9) rfl rfl) ?_
        refine lv_iand hx hb (dkP dF_126 DX3_settle (i := 10) rfl rfl) ?_
        refine lv_if_ne (tgt := 73) hx hb (dkS dF_154 DX3_settle (i := 11) rfl rfl rfl) (by decide) (fun c7 => ?_) (fun c7 => ?_)
        · skip
          refine lv_iinc (v := (nI d) + (-1)) (lv' := [(5, .int ((nI d) + (-1))), (4, .int 0), (0, .ref (ad 220)), (1, .ref (ad 1)), (2, .int (nI g)), (3, .int 0)]) hx hb (dkI DX3_settle (i := 44) rfl rfl rfl rfl) hl (k := 0) rfl rfl (by decide) rfl (fun ls hl => ?_)
          refine lv_goto (tgt := 6) hx hb (dkS dF_167 DX3_settle (i := 45) rfl rfl rfl) (by decide) ?_
          exact ih1 d τ _ _ _ (by omega) (by omega) hτ hw (lv_sub hl [0, 1, 2, 3, 4, 5] rfl)
        · skip
          refine lv_aload_n hx hb (dkP dF_42 DX3_settle (i := 12) rfl rfl) rfl (lv_at hl 2 rfl) ?_
          refine lv_aload_n hx hb (dkP dF_43 DX3_settle (i := 13) rfl rfl) rfl (lv_at hl 3 rfl) ?_
          refine lv_iload hx hb (dk1 dF_21 DX3_settle (i := 14) rfl rfl rfl) (lv_at hl 0 rfl) ?_
          refine lv_iload_n hx hb (dkP dF_28 DX3_settle (i := 15) rfl rfl) rfl (lv_at hl 4 rfl) ?_
          refine lv_iload_n hx hb (dkP dF_29 DX3_settle (i := 16) rfl rfl) rfl (lv_at hl 5 rfl) ?_
          refine zk_I hw (zr_V (As := [.ref (ad 1), .int (nI d), .int (nI g), .int 0]) (rest := []) C0 (c_X3_nextBehind l G kc ad τ d g (by omega) hg hτ _) cv_X3_nextBehind lk_X3_18 (zp_V C0 hw 220 shc_220 rfl rfl) rfl hl.1 rfl ⟨by decide, by decide⟩ (Nat.le_of_ble_eq_true rfl) (dk2 dF_182 DX3_settle (i := 17) rfl rfl rfl) ⟨Nat.le_refl _, Nat.le_refl _⟩) (fun r8 s8 H locs hp hw => ?_)
          obtain ⟨hq8, hs8⟩ := hp
          (rw [hs8] at hw; clear hs8)
          rcases hq8 with ⟨rfl, hall⟩ | ⟨b, hb8, rfl, hbit⟩
          · skip
            refine lv_istore (lv' := [(6, .int (-1)), (5, .int (nI d)), (4, .int 0), (0, .ref (ad 220)), (1, .ref (ad 1)), (2, .int (nI g)), (3, .int 0)]) hx hb (dk1 dF_54 DX3_settle (i := 18) rfl rfl rfl) hl (by decide) rfl (fun ls hl => ?_)
            refine lv_iload hx hb (dk1 dF_21 DX3_settle (i := 19) rfl rfl rfl) (lv_at hl 0 rfl) ?_
            refine lv_iconst (v := (-1)) hx hb (dkP dF_2 DX3_settle (i := 20) rfl rfl) (by decide) ?_
            refine lv_icmp_ne (tgt := 41) hx hb (dkS dF_160 DX3_settle (i := 21) rfl rfl rfl) (by decide) (fun h => absurd h (by decide)) (fun _ => ?_)
            refine lv_iconst (v := 0) hx hb (dkP dF_3 DX3_settle (i := 22) rfl rfl) (by decide) ?_
            refine lv_goto (tgt := 53) hx hb (dkS dF_167 DX3_settle (i := 23) rfl rfl rfl) (by decide) ?_
            refine lv_istore (lv' := [(4, .int 0), (6, .int (-1)), (5, .int (nI d)), (0, .ref (ad 220)), (1, .ref (ad 1)), (2, .int (nI g)), (3, .int 0)]) hx hb (dk1 dF_54 DX3_settle (i := 32) rfl rfl rfl) hl (by decide) rfl (fun ls hl => ?_)
            refine lv_aload_n hx hb (dkP dF_42 DX3_settle (i := 33) rfl rfl) rfl (lv_at hl 3 rfl) ?_
            refine z_gr C0 hw 220 0 221 (fk_of shc_220 rfl) fl_X3_9 (dk2 dF_180 DX3_settle (i := 34) rfl rfl rfl) ?_
            refine lv_iload hx hb (dk1 dF_21 DX3_settle (i := 35) rfl rfl rfl) (lv_at hl 2 rfl) ?_
            refine lv_iload hx hb (dk1 dF_21 DX3_settle (i := 36) rfl rfl rfl) (lv_at hl 0 rfl) ?_
            refine lv_aload_n hx hb (dkP dF_43 DX3_settle (i := 37) rfl rfl) rfl (lv_at hl 4 rfl) ?_
            refine lv_iload_n hx hb (dkP dF_29 DX3_settle (i := 38) rfl rfl) rfl (lv_at hl 6 rfl) ?_
            refine lv_iload hx hb (dk1 dF_21 DX3_settle (i := 39) rfl rfl rfl) (lv_at hl 2 rfl) ?_
            refine lv_ior hx hb (dkP dF_128 DX3_settle (i := 40) rfl rfl) ?_
            refine zk_I hw (zr_V (As := [.int (0 ||| (nI d))]) (rest := [.int 0, .int (nI d), .ref (ad 221)]) C0 (c_X10_priceWith l G kc ad τ (0 ||| (nI d)) hτ _) cv_X10_priceWith lk_X3_22 (zp_V C0 hw 1 shc_1 rfl rfl) rfl hl.1 rfl ⟨by decide, by decide⟩ (Nat.le_of_ble_eq_true rfl) (dk2 dF_182 DX3_settle (i := 41) rfl rfl rfl) ⟨Nat.le_refl _, Nat.le_refl _⟩) (fun r9 s9 H locs hp hw => ?_)
            obtain ⟨rfl, hs9⟩ := hp
            (rw [hs9] at hw; clear hs9)
            refine lv_iadd hx hb (dkP dF_96 DX3_settle (i := 42) rfl rfl) ?_
            refine z_top (y := 0) (by decide) ?_
            refine z_iastN (n := 256) C0 hw 221 d (ak_of shc_221) (by omega) (by decide) (dkP dF_79 DX3_settle (i := 43) rfl rfl) (fun H locs hw => ?_)
            refine lv_iinc (v := (nI d) + (-1)) (lv' := [(5, .int ((nI d) + (-1))), (4, .int 0), (6, .int (-1)), (0, .ref (ad 220)), (1, .ref (ad 1)), (2, .int (nI g)), (3, .int 0)]) hx hb (dkI DX3_settle (i := 44) rfl rfl rfl rfl) hl (k := 2) rfl rfl (by decide) rfl (fun ls hl => ?_)
            refine lv_goto (tgt := 6) hx hb (dkS dF_167 DX3_settle (i := 45) rfl rfl rfl) (by decide) ?_
            exact ih1 d (sI τ 221 d 0) _ _ _ (by omega) (by omega) (PZ.cost hτ d) hw (lv_sub hl [0, 1, 3, 4, 5, 6] rfl)
          · skip
            refine lv_istore (lv' := [(6, .int (nI b)), (5, .int (nI d)), (4, .int 0), (0, .ref (ad 220)), (1, .ref (ad 1)), (2, .int (nI g)), (3, .int 0)]) hx hb (dk1 dF_54 DX3_settle (i := 18) rfl rfl rfl) hl (by decide) rfl (fun ls hl => ?_)
            refine lv_iload hx hb (dk1 dF_21 DX3_settle (i := 19) rfl rfl rfl) (lv_at hl 0 rfl) ?_
            refine lv_iconst (v := (-1)) hx hb (dkP dF_2 DX3_settle (i := 20) rfl rfl) (by decide) ?_
            refine lv_icmp_ne (tgt := 41) hx hb (dkS dF_160 DX3_settle (i := 21) rfl rfl rfl) (by decide) (fun c10 => ?_) (fun c10 => ?_)
            · skip
              refine lv_aload_n hx hb (dkP dF_42 DX3_settle (i := 24) rfl rfl) rfl (lv_at hl 3 rfl) ?_
              refine z_gr C0 hw 220 0 221 (fk_of shc_220 rfl) fl_X3_9 (dk2 dF_180 DX3_settle (i := 25) rfl rfl rfl) ?_
              refine lv_iload hx hb (dk1 dF_21 DX3_settle (i := 26) rfl rfl rfl) (lv_at hl 1 rfl) ?_
              refine lv_iconst (v := 1) hx hb (dkP dF_4 DX3_settle (i := 27) rfl rfl) (by decide) ?_
              refine lv_iload hx hb (dk1 dF_21 DX3_settle (i := 28) rfl rfl rfl) (lv_at hl 0 rfl) ?_
              refine lv_ishl hx hb (dkP dF_120 DX3_settle (i := 29) rfl rfl) ?_
              refine lv_ior hx hb (dkP dF_128 DX3_settle (i := 30) rfl rfl) ?_
              refine z_top (y := nI (d ||| 2 ^ b)) (orb (by omega)) ?_
              refine z_ialdN (n := 256) C0 hw 221 (d ||| 2 ^ b) (ak_of shc_221) (or8 (by omega) (by omega)) (by decide) (dkP dF_46 DX3_settle (i := 31) rfl rfl) ?_
              refine z_top (y := 0) (hτ.1 _ (or8 (by omega) (by omega))) ?_
              refine lv_istore (lv' := [(4, .int 0), (6, .int (nI b)), (5, .int (nI d)), (0, .ref (ad 220)), (1, .ref (ad 1)), (2, .int (nI g)), (3, .int 0)]) hx hb (dk1 dF_54 DX3_settle (i := 32) rfl rfl rfl) hl (by decide) rfl (fun ls hl => ?_)
              refine lv_aload_n hx hb (dkP dF_42 DX3_settle (i := 33) rfl rfl) rfl (lv_at hl 3 rfl) ?_
              refine z_gr C0 hw 220 0 221 (fk_of shc_220 rfl) fl_X3_9 (dk2 dF_180 DX3_settle (i := 34) rfl rfl rfl) ?_
              refine lv_iload hx hb (dk1 dF_21 DX3_settle (i := 35) rfl rfl rfl) (lv_at hl 2 rfl) ?_
              refine lv_iload hx hb (dk1 dF_21 DX3_settle (i := 36) rfl rfl rfl) (lv_at hl 0 rfl) ?_
              refine lv_aload_n hx hb (dkP dF_43 DX3_settle (i := 37) rfl rfl) rfl (lv_at hl 4 rfl) ?_
              refine lv_iload_n hx hb (dkP dF_29 DX3_settle (i := 38) rfl rfl) rfl (lv_at hl 6 rfl) ?_
              refine lv_iload hx hb (dk1 dF_21 DX3_settle (i := 39) rfl rfl rfl) (lv_at hl 2 rfl) ?_
              refine lv_ior hx hb (dkP dF_128 DX3_settle (i := 40) rfl rfl) ?_
              refine zk_I hw (zr_V (As := [.int (0 ||| (nI d))]) (rest := [.int 0, .int (nI d), .ref (ad 221)]) C0 (c_X10_priceWith l G kc ad τ (0 ||| (nI d)) hτ _) cv_X10_priceWith lk_X3_22 (zp_V C0 hw 1 shc_1 rfl rfl) rfl hl.1 rfl ⟨by decide, by decide⟩ (Nat.le_of_ble_eq_true rfl) (dk2 dF_182 DX3_settle (i := 41) rfl rfl rfl) ⟨Nat.le_refl _, Nat.le_refl _⟩) (fun r11 s11 H locs hp hw => ?_)
              obtain ⟨rfl, hs11⟩ := hp
              (rw [hs11] at hw; clear hs11)
              refine lv_iadd hx hb (dkP dF_96 DX3_settle (i := 42) rfl rfl) ?_
              refine z_top (y := 0) (by decide) ?_
              refine z_iastN (n := 256) C0 hw 221 d (ak_of shc_221) (by omega) (by decide) (dkP dF_79 DX3_settle (i := 43) rfl rfl) (fun H locs hw => ?_)
              refine lv_iinc (v := (nI d) + (-1)) (lv' := [(5, .int ((nI d) + (-1))), (4, .int 0), (6, .int (nI b)), (0, .ref (ad 220)), (1, .ref (ad 1)), (2, .int (nI g)), (3, .int 0)]) hx hb (dkI DX3_settle (i := 44) rfl rfl rfl rfl) hl (k := 2) rfl rfl (by decide) rfl (fun ls hl => ?_)
              refine lv_goto (tgt := 6) hx hb (dkS dF_167 DX3_settle (i := 45) rfl rfl rfl) (by decide) ?_
              exact ih1 d (sI τ 221 d 0) _ _ _ (by omega) (by omega) (PZ.cost hτ d) hw (lv_sub hl [0, 1, 3, 4, 5, 6] rfl)
            · skip
              refine lv_iconst (v := 0) hx hb (dkP dF_3 DX3_settle (i := 22) rfl rfl) (by decide) ?_
              refine lv_goto (tgt := 53) hx hb (dkS dF_167 DX3_settle (i := 23) rfl rfl rfl) (by decide) ?_
              refine lv_istore (lv' := [(4, .int 0), (6, .int (nI b)), (5, .int (nI d)), (0, .ref (ad 220)), (1, .ref (ad 1)), (2, .int (nI g)), (3, .int 0)]) hx hb (dk1 dF_54 DX3_settle (i := 32) rfl rfl rfl) hl (by decide) rfl (fun ls hl => ?_)
              refine lv_aload_n hx hb (dkP dF_42 DX3_settle (i := 33) rfl rfl) rfl (lv_at hl 3 rfl) ?_
              refine z_gr C0 hw 220 0 221 (fk_of shc_220 rfl) fl_X3_9 (dk2 dF_180 DX3_settle (i := 34) rfl rfl rfl) ?_
              refine lv_iload hx hb (dk1 dF_21 DX3_settle (i := 35) rfl rfl rfl) (lv_at hl 2 rfl) ?_
              refine lv_iload hx hb (dk1 dF_21 DX3_settle (i := 36) rfl rfl rfl) (lv_at hl 0 rfl) ?_
              refine lv_aload_n hx hb (dkP dF_43 DX3_settle (i := 37) rfl rfl) rfl (lv_at hl 4 rfl) ?_
              refine lv_iload_n hx hb (dkP dF_29 DX3_settle (i := 38) rfl rfl) rfl (lv_at hl 6 rfl) ?_
              refine lv_iload hx hb (dk1 dF_21 DX3_settle (i := 39) rfl rfl rfl) (lv_at hl 2 rfl) ?_
              refine lv_ior hx hb (dkP dF_128 DX3_settle (i := 40) rfl rfl) ?_
              refine zk_I hw (zr_V (As := [.int (0 ||| (nI d))]) (rest := [.int 0, .int (nI d), .ref (ad 221)]) C0 (c_X10_priceWith l G kc ad τ (0 ||| (nI d)) hτ _) cv_X10_priceWith lk_X3_22 (zp_V C0 hw 1 shc_1 rfl rfl) rfl hl.1 rfl ⟨by decide, by decide⟩ (Nat.le_of_ble_eq_true rfl) (dk2 dF_182 DX3_settle (i := 41) rfl rfl rfl) ⟨Nat.le_refl _, Nat.le_refl _⟩) (fun r12 s12 H locs hp hw => ?_)
              obtain ⟨rfl, hs12⟩ := hp
              (rw [hs12] at hw; clear hs12)
              refine lv_iadd hx hb (dkP dF_96 DX3_settle (i := 42) rfl rfl) ?_
              refine z_top (y := 0) (by decide) ?_
              refine z_iastN (n := 256) C0 hw 221 d (ak_of shc_221) (by omega) (by decide) (dkP dF_79 DX3_settle (i := 43) rfl rfl) (fun H locs hw => ?_)
              refine lv_iinc (v := (nI d) + (-1)) (lv' := [(5, .int ((nI d) + (-1))), (4, .int 0), (6, .int (nI b)), (0, .ref (ad 220)), (1, .ref (ad 1)), (2, .int (nI g)), (3, .int 0)]) hx hb (dkI DX3_settle (i := 44) rfl rfl rfl rfl) hl (k := 2) rfl rfl (by decide) rfl (fun ls hl => ?_)
              refine lv_goto (tgt := 6) hx hb (dkS dF_167 DX3_settle (i := 45) rfl rfl rfl) (by decide) ?_
              exact ih1 d (sI τ 221 d 0) _ _ _ (by omega) (by omega) (PZ.cost hτ d) hw (lv_sub hl [0, 1, 3, 4, 5, 6] rfl)
  have hl : lv_has ls 7 [(5, .int (nI (g + 1) + (-1))), (4, .int 0), (0, .ref (ad 220)), (1, .ref (ad 1)), (2, .int (nI g)), (3, .int 0)] := by rw [pk_m1]; exact hl
  exact lp1 _ (g + 1) σ _ _ _ (Nat.lt_succ_self _) (by omega) hz hw (lv_sub hl [0, 1, 2, 3, 4, 5] rfl)
set_option maxRecDepth 100000 in
set_option maxHeartbeats 4000000 in
theorem c_X11_plan (l : Launch) (G : va_G) (kc : Nat → ClassId) (ad : Nat → Nat)  (bt : Int32)  : MI l G kc yX11_plan cX11_plan 4 (some .int) 2 55 [.ref (ad 0), .int bt] shC ad sC0 (fun r σ1 => r = if 0 ≤ bt.toInt ∧ bt.toInt ≤ 255 then 0 else -2) := by
  intro sz
  refine z_body (y := yX11_plan) (n := 4) (av := [.ref (ad 0), .int bt]) (Qc := fun A => va_Qi (fun r σ1 => r = if 0 ≤ bt.toInt ∧ bt.toInt ≤ 255 then 0 else -2) (PoC G kc shC ad A) A) (plainFor_of_name (by decide)) (Nat.le_of_ble_eq_true rfl) (fun pr e s m below meth c A C0 hr hlk hnm hw ls hl => ?_) sz
  have hx := C0.1
  have hb := C0.2.1
  have hown := C0.2.2.2.1
  have hts := C0.2.2.2.2.1
  have hl : lv_has ls 4 [(0, .ref (ad 0)), (1, .int bt)] := hl
  refine lv_iload_n hx hb (dkP dF_27 DX11_plan (i := 0) rfl rfl) rfl (lv_at hl 1 rfl) ?_
  refine lv_if_lt (tgt := 11) hx hb (dkS dF_155 DX11_plan (i := 1) rfl rfl rfl) (by decide) (fun c1 => ?_) (fun c1 => ?_)
  · skip
    refine lv_bipush (v := (-2)) hx hb (dks dF_16 DX11_plan (i := 5) rfl rfl rfl) (by decide) ?_
    exact z_iret C0 hr hlk hw (by first | rfl | ((try simp only [lg_cmp_lt, lg_cmp_le, lg_cmp_gt, lg_cmp_ge, lg_cmp_eq] at c1); (try simp (disch := omega) only [ta_lt, ta_le, ta_eq, tb_lt, tb_le, tb_eq, tw, tnI, tn32 2 (by decide), tnj 2 (by decide), tn32 1 (by decide), tnj 1 (by decide), tl32 0 (by decide), tl64 0 (by decide)] at c1); (try simp (disch := omega) only [tnI, tn32 2 (by decide), tnj 2 (by decide), tn32 1 (by decide), tnj 1 (by decide), tl32 0 (by decide), tl64 0 (by decide)]); (repeat' split) <;> first | rfl | omega | (apply Int32.toInt_inj.mp; simp (disch := omega) only [tnI, tn32 2 (by decide), tnj 2 (by decide), tn32 1 (by decide), tnj 1 (by decide), tl32 0 (by decide), tl64 0 (by decide)]; omega))) (dkP dF_172 DX11_plan (i := 6) rfl rfl)
  · skip
    refine lv_iload_n hx hb (dkP dF_27 DX11_plan (i := 2) rfl rfl) rfl (lv_at hl 1 rfl) ?_
    refine lv_sipush (v := 256) hx hb (dkS dF_17 DX11_plan (i := 3) rfl rfl rfl) (by decide) ?_
    refine lv_icmp_lt (tgt := 14) hx hb (dkS dF_161 DX11_plan (i := 4) rfl rfl rfl) (by decide) (fun c2 => ?_) (fun c2 => ?_)
    · skip
      obtain ⟨k_bt, hk_bt, rfl⟩ := to_nat (x := bt) (n := 256) (by (try simp only [lg_cmp_lt, lg_cmp_le, lg_cmp_gt, lg_cmp_ge, lg_cmp_eq] at c1); (try simp (disch := omega) only [ta_lt, ta_le, ta_eq, tb_lt, tb_le, tb_eq, tw, tnI, tn32 2 (by decide), tnj 2 (by decide), tn32 1 (by decide), tnj 1 (by decide), tl32 0 (by decide), tl64 0 (by decide), tl32 256 (by decide), tl64 256 (by decide)] at c1); (try simp only [lg_cmp_lt, lg_cmp_le, lg_cmp_gt, lg_cmp_ge, lg_cmp_eq] at c2); (try simp (disch := omega) only [ta_lt, ta_le, ta_eq, tb_lt, tb_le, tb_eq, tw, tnI, tn32 2 (by decide), tnj 2 (by decide), tn32 1 (by decide), tnj 1 (by decide), tl32 0 (by decide), tl64 0 (by decide), tl32 256 (by decide), tl64 256 (by decide)] at c2); (try simp (disch := omega) only [ta_lt, ta_le, ta_eq, tb_lt, tb_le, tb_eq, tw, tnI, tn32 2 (by decide), tnj 2 (by decide), tn32 1 (by decide), tnj 1 (by decide), tl32 0 (by decide), tl64 0 (by decide), tl32 256 (by decide), tl64 256 (by decide)]); omega)
      refine lv_aload_n hx hb (dkP dF_42 DX11_plan (i := 7) rfl rfl) rfl (lv_at hl 0 rfl) ?_
      refine z_gr C0 hw 0 0 1 (fk_of shc_0 rfl) fl_X11_10 (dk2 dF_180 DX11_plan (i := 8) rfl rfl rfl) ?_
      refine zk_I hw (zr_V (As := []) (rest := []) C0 (c_X10_overBits l G kc ad  _) cv_X10_overBits lk_X11_273 (zp_V C0 hw 1 shc_1 rfl rfl) rfl hl.1 rfl ⟨by decide, by decide⟩ (Nat.le_of_ble_eq_true rfl) (dk2 dF_182 DX11_plan (i := 9) rfl rfl rfl) ⟨Nat.le_refl _, Nat.le_refl _⟩) (fun r3 s3 H locs hp hw => ?_)
      obtain ⟨rfl, hs3⟩ := hp
      (rw [hs3] at hw; clear hs3)
      refine lv_istore_n (lv' := [(2, .int 0), (0, .ref (ad 0)), (1, .int (nI k_bt))]) hx hb (dkP dF_61 DX11_plan (i := 10) rfl rfl) rfl hl (by decide) rfl (fun ls hl => ?_)
      refine lv_iload_n hx hb (dkP dF_27 DX11_plan (i := 11) rfl rfl) rfl (lv_at hl 2 rfl) ?_
      refine lv_iload_n hx hb (dkP dF_28 DX11_plan (i := 12) rfl rfl) rfl (lv_at hl 0 rfl) ?_
      refine lv_iconst (v := (-1)) hx hb (dkP dF_2 DX11_plan (i := 13) rfl rfl) (by decide) ?_
      refine lv_ixor hx hb (dkP dF_130 DX11_plan (i := 14) rfl rfl) ?_
      refine z_top (y := (-1)) (by decide) ?_
      refine lv_iand hx hb (dkP dF_126 DX11_plan (i := 15) rfl rfl) ?_
      refine z_top (y := nI k_bt) (and_m1 _) ?_
      refine lv_istore_n (lv' := [(3, .int (nI k_bt)), (2, .int 0), (0, .ref (ad 0)), (1, .int (nI k_bt))]) hx hb (dkP dF_62 DX11_plan (i := 16) rfl rfl) rfl hl (by decide) rfl (fun ls hl => ?_)
      refine lv_aload_n hx hb (dkP dF_42 DX11_plan (i := 17) rfl rfl) rfl (lv_at hl 2 rfl) ?_
      refine z_gr C0 hw 0 0 1 (fk_of shc_0 rfl) fl_X11_10 (dk2 dF_180 DX11_plan (i := 18) rfl rfl rfl) ?_
      refine lv_iload_n hx hb (dkP dF_29 DX11_plan (i := 19) rfl rfl) rfl (lv_at hl 0 rfl) ?_
      refine zk_I hw (zr_V (As := [.int (nI k_bt)]) (rest := []) C0 (c_X10_neededBy l G kc ad (nI k_bt)  _) cv_X10_neededBy lk_X11_290 (zp_V C0 hw 1 shc_1 rfl rfl) rfl hl.1 rfl ⟨by decide, by decide⟩ (Nat.le_of_ble_eq_true rfl) (dk2 dF_182 DX11_plan (i := 20) rfl rfl rfl) ⟨Nat.le_refl _, Nat.le_refl _⟩) (fun r4 s4 H locs hp hw => ?_)
      obtain ⟨rfl, hs4⟩ := hp
      (rw [hs4] at hw; clear hs4)
      refine lv_iload_n hx hb (dkP dF_29 DX11_plan (i := 21) rfl rfl) rfl (lv_at hl 0 rfl) ?_
      refine lv_iload_n hx hb (dkP dF_28 DX11_plan (i := 22) rfl rfl) rfl (lv_at hl 1 rfl) ?_
      refine lv_ior hx hb (dkP dF_128 DX11_plan (i := 23) rfl rfl) ?_
      refine lv_iconst (v := (-1)) hx hb (dkP dF_2 DX11_plan (i := 24) rfl rfl) (by decide) ?_
      refine lv_ixor hx hb (dkP dF_130 DX11_plan (i := 25) rfl rfl) ?_
      refine lv_iand hx hb (dkP dF_126 DX11_plan (i := 26) rfl rfl) ?_
      refine z_top (y := 0) (z0a _) ?_
      refine lv_if_eq (tgt := 47) hx hb (dkS dF_153 DX11_plan (i := 27) rfl rfl rfl) (by decide) (fun _ => ?_) (fun h => absurd h (by decide))
      refine lv_aload_n hx hb (dkP dF_42 DX11_plan (i := 30) rfl rfl) rfl (lv_at hl 2 rfl) ?_
      refine z_gr C0 hw 0 6 220 (fk_of shc_0 rfl) fl_X11_44 (dk2 dF_180 DX11_plan (i := 31) rfl rfl rfl) ?_
      refine lv_aload_n hx hb (dkP dF_42 DX11_plan (i := 32) rfl rfl) rfl (lv_at hl 2 rfl) ?_
      refine z_gr C0 hw 0 0 1 (fk_of shc_0 rfl) fl_X11_10 (dk2 dF_180 DX11_plan (i := 33) rfl rfl rfl) ?_
      refine lv_iload_n hx hb (dkP dF_29 DX11_plan (i := 34) rfl rfl) rfl (lv_at hl 0 rfl) ?_
      refine lv_iload_n hx hb (dkP dF_28 DX11_plan (i := 35) rfl rfl) rfl (lv_at hl 1 rfl) ?_
      refine zk_I hw (zr_V (As := [.ref (ad 1), .int (nI k_bt), .int 0]) (rest := []) C0 (c_X3_settle l G kc ad sC0 k_bt (by omega) PZ0 _) cv_X3_settle lk_X11_293 (zp_V C0 hw 220 shc_220 rfl rfl) rfl hl.1 rfl ⟨by decide, by decide⟩ (Nat.le_of_ble_eq_true rfl) (dk2 dF_182 DX11_plan (i := 36) rfl rfl rfl) ⟨Nat.le_refl _, Nat.le_refl _⟩) (fun r5 s5 H locs hp hw => ?_)
      obtain ⟨rfl, hs5⟩ := hp
      exact z_iret C0 hr hlk hw (by first | rfl | ((try simp only [lg_cmp_lt, lg_cmp_le, lg_cmp_gt, lg_cmp_ge, lg_cmp_eq] at c1); (try simp (disch := omega) only [ta_lt, ta_le, ta_eq, tb_lt, tb_le, tb_eq, tw, tnI, tn32 2 (by decide), tnj 2 (by decide), tn32 1 (by decide), tnj 1 (by decide), tl32 0 (by decide), tl64 0 (by decide), tl32 256 (by decide), tl64 256 (by decide)] at c1); (try simp only [lg_cmp_lt, lg_cmp_le, lg_cmp_gt, lg_cmp_ge, lg_cmp_eq] at c2); (try simp (disch := omega) only [ta_lt, ta_le, ta_eq, tb_lt, tb_le, tb_eq, tw, tnI, tn32 2 (by decide), tnj 2 (by decide), tn32 1 (by decide), tnj 1 (by decide), tl32 0 (by decide), tl64 0 (by decide), tl32 256 (by decide), tl64 256 (by decide)] at c2); (try simp (disch := omega) only [tnI, tn32 2 (by decide), tnj 2 (by decide), tn32 1 (by decide), tnj 1 (by decide), tl32 0 (by decide), tl64 0 (by decide), tl32 256 (by decide), tl64 256 (by decide)]); (repeat' split) <;> first | rfl | omega | (apply Int32.toInt_inj.mp; simp (disch := omega) only [tnI, tn32 2 (by decide), tnj 2 (by decide), tn32 1 (by decide), tnj 1 (by decide), tl32 0 (by decide), tl64 0 (by decide), tl32 256 (by decide), tl64 256 (by decide)]; omega))) (dkP dF_172 DX11_plan (i := 37) rfl rfl)
    · skip
      refine lv_bipush (v := (-2)) hx hb (dks dF_16 DX11_plan (i := 5) rfl rfl rfl) (by decide) ?_
      exact z_iret C0 hr hlk hw (by first | rfl | ((try simp only [lg_cmp_lt, lg_cmp_le, lg_cmp_gt, lg_cmp_ge, lg_cmp_eq] at c1); (try simp (disch := omega) only [ta_lt, ta_le, ta_eq, tb_lt, tb_le, tb_eq, tw, tnI, tn32 2 (by decide), tnj 2 (by decide), tn32 1 (by decide), tnj 1 (by decide), tl32 0 (by decide), tl64 0 (by decide), tl32 256 (by decide), tl64 256 (by decide)] at c1); (try simp only [lg_cmp_lt, lg_cmp_le, lg_cmp_gt, lg_cmp_ge, lg_cmp_eq] at c2); (try simp (disch := omega) only [ta_lt, ta_le, ta_eq, tb_lt, tb_le, tb_eq, tw, tnI, tn32 2 (by decide), tnj 2 (by decide), tn32 1 (by decide), tnj 1 (by decide), tl32 0 (by decide), tl64 0 (by decide), tl32 256 (by decide), tl64 256 (by decide)] at c2); (try simp (disch := omega) only [tnI, tn32 2 (by decide), tnj 2 (by decide), tn32 1 (by decide), tnj 1 (by decide), tl32 0 (by decide), tl64 0 (by decide), tl32 256 (by decide), tl64 256 (by decide)]); (repeat' split) <;> first | rfl | omega | (apply Int32.toInt_inj.mp; simp (disch := omega) only [tnI, tn32 2 (by decide), tnj 2 (by decide), tn32 1 (by decide), tnj 1 (by decide), tl32 0 (by decide), tl64 0 (by decide), tl32 256 (by decide), tl64 256 (by decide)]; omega))) (dkP dF_172 DX11_plan (i := 6) rfl rfl)
