/-! sets of PROGRAMS as bits -/
theorem nI_or (a b : Nat) : nI a ||| nI b = nI (a ||| b) := by
  apply Int32.toBitVec_inj.1
  show BitVec.ofNat 32 a ||| BitVec.ofNat 32 b = BitVec.ofNat 32 (a ||| b)
  apply BitVec.eq_of_getLsbD_eq
  intro i hi
  simp [BitVec.getLsbD_or, BitVec.getLsbD_ofNat, Nat.testBit_or, hi]
theorem nI_and (a b : Nat) : nI a &&& nI b = nI (a &&& b) := by
  apply Int32.toBitVec_inj.1
  show BitVec.ofNat 32 a &&& BitVec.ofNat 32 b = BitVec.ofNat 32 (a &&& b)
  apply BitVec.eq_of_getLsbD_eq
  intro i hi
  simp [BitVec.getLsbD_and, BitVec.getLsbD_ofNat, Nat.testBit_and, hi]
def bt (a q : Nat) : Nat := a / 2 ^ q % 2
theorem bt_tb (a q : Nat) : bt a q = 1 ↔ a.testBit q = true := by
  unfold bt
  rw [Nat.testBit_eq_decide_div_mod_eq]
  simp
theorem bt_01 (a q : Nat) : bt a q = 0 ∨ bt a q = 1 := by unfold bt; omega
theorem bs_1 : ∀ a, a < 256 → ∀ q, q < 8 → (nI a >>> (nI q &&& nI 31)) &&& nI 1 = nI (bt a q) := by decide +kernel
def p2 (q : Nat) : Nat := 2 ^ q
theorem bs_p : ∀ q, q < 8 → nI 1 <<< (nI q &&& nI 31) = nI (p2 q) := by decide +kernel
theorem p2_lt : ∀ {q}, q < 8 → p2 q < 256 := by decide
theorem bs_x : ∀ b, b < 256 → nI b ^^^ (-1) = nI (255 ^^^ b) ||| (-256) := by decide +kernel
theorem bs_h : ∀ a, a < 256 → nI a &&& (-256) = 0 := by decide +kernel
theorem i32_aod (x y z : Int32) : x &&& (y ||| z) = (x &&& y) ||| (x &&& z) := by
  apply Int32.toBitVec_inj.1
  show x.toBitVec &&& (y.toBitVec ||| z.toBitVec) = (x.toBitVec &&& y.toBitVec) ||| (x.toBitVec &&& z.toBitVec)
  apply BitVec.eq_of_getLsbD_eq
  intro i hi
  simp [Bool.and_or_distrib_left]
theorem i32_o0 (x : Int32) : x ||| 0 = x := by
  apply Int32.toBitVec_inj.1
  show x.toBitVec ||| 0#32 = x.toBitVec
  apply BitVec.eq_of_getLsbD_eq
  intro i hi
  simp
theorem bs_n {a b : Nat} (ha : a < 256) (hb : b < 256) : nI a &&& (nI b ^^^ (-1)) = nI (a &&& (255 ^^^ b)) := by
  rw [bs_x b hb, i32_aod, bs_h a ha, nI_and, i32_o0]
theorem or_lt {a b : Nat} (ha : a < 256) (hb : b < 256) : a ||| b < 256 := Nat.or_lt_two_pow (n := 8) ha hb
theorem and_lt {a b : Nat} (ha : a < 256) : a &&& b < 256 := Nat.lt_of_le_of_lt Nat.and_le_left ha
theorem bt_or (a b q : Nat) : bt (a ||| b) q = 1 ↔ bt a q = 1 ∨ bt b q = 1 := by
  rw [bt_tb, bt_tb, bt_tb, Nat.testBit_or]
  simp
theorem bt_and (a b q : Nat) : bt (a &&& b) q = 1 ↔ bt a q = 1 ∧ bt b q = 1 := by
  rw [bt_tb, bt_tb, bt_tb, Nat.testBit_and]
  simp
theorem bt_p : ∀ p, p < 8 → ∀ q, q < 8 → (bt (p2 p) q = 1 ↔ p = q) := by decide +kernel
theorem bt_x : ∀ b, b < 256 → ∀ q, q < 8 → (bt (255 ^^^ b) q = 1 ↔ bt b q = 0) := by decide +kernel
theorem bt_ext : ∀ a, a < 256 → (∀ q, q < 8 → bt a q = 0) → a = 0 := by decide +kernel
theorem bt_eq {a b : Nat} (ha : a < 256) (hb : b < 256) (h : ∀ q, q < 8 → (bt a q = 1 ↔ bt b q = 1)) : a = b := by
  apply Nat.eq_of_testBit_eq
  intro i
  by_cases hi : i < 8
  · have := h i hi
    rw [bt_tb, bt_tb] at this
    cases h1 : a.testBit i <;> cases h2 : b.testBit i <;> simp_all
  · rw [Nat.testBit_lt_two_pow (Nat.lt_of_lt_of_le ha (Nat.pow_le_pow_right (by decide : 0 < 2) (by omega : 8 ≤ i))), Nat.testBit_lt_two_pow (Nat.lt_of_lt_of_le hb (Nat.pow_le_pow_right (by decide : 0 < 2) (by omega : 8 ≤ i)))]
/-- a within b -/
def sb (a b : Nat) : Prop := ∀ q, q < 8 → bt a q = 1 → bt b q = 1
theorem sb_and {a b : Nat} (ha : a < 256) (hb : b < 256) : a &&& (255 ^^^ b) = 0 ↔ sb a b := by
  constructor
  · intro h q hq h1
    have h2 : ¬ bt (a &&& (255 ^^^ b)) q = 1 := by rw [h]; unfold bt; simp
    rw [bt_and, bt_x b hb q hq] at h2
    rcases bt_01 b q with h3 | h3
    · exact absurd ⟨h1, h3⟩ h2
    · exact h3
  · intro h
    refine bt_ext _ (and_lt ha) (fun q hq => ?_)
    rcases bt_01 (a &&& (255 ^^^ b)) q with h1 | h1
    · exact h1
    · rw [bt_and, bt_x b hb q hq] at h1
      have := h q hq h1.1
      omega
/-- one more -/
theorem up_lt : ∀ a, a < 256 → ∀ p, p < 8 → bt a p = 0 → a < a ||| p2 p := by decide +kernel
theorem bt_up {a p q : Nat} (hp : p < 8) (hq : q < 8) : bt (a ||| p2 p) q = 1 ↔ bt a q = 1 ∨ p = q := by
  rw [bt_or, bt_p p hp q hq]
def pcn (a : Nat) : Nat := bt a 0 + bt a 1 + bt a 2 + bt a 3 + bt a 4 + bt a 5 + bt a 6 + bt a 7
theorem pcn_up : ∀ a, a < 256 → ∀ p, p < 8 → bt a p = 0 → pcn (a ||| p2 p) = pcn a + 1 := by decide +kernel
theorem pcn_8 (a : Nat) : pcn a ≤ 8 := by unfold pcn bt; omega
def NDr (f : Nat → Int32) (p q : Nat) : Prop := f (413544 + 8 * p + q) = 1
def CL (f : Nat → Int32) (p a : Nat) : Prop := ∀ q, q < 8 → (NDr f q p ∨ ∃ r, r < 8 ∧ bt a r = 1 ∧ NDr f q r) → bt a q = 1
def ND (f : Nat → Int32) (o : Nat) : Prop := ∃ rk : Nat → Nat, ∀ p, p < 8 → ∀ q, q < 8 → f (o + (413544 + 8 * p + q)) = 1 → rk q < rk p
def JM (σ : Sg) : Prop := ND (σ.1 1) 0 ∧ ∀ k, k < 3 → ND (σ.1 2) (414128 * k) ∧ (σ.1 3 k = 1 → 1 ≤ (σ.1 2 (414128 * k + 3)).toInt)
theorem JM_need {σ : Sg} {p o a : Nat} (hp : p < 8) (ho : o < 8) (h : JM σ) (hne : p ≠ o) (hcl : CL (σ.1 1) p a) (hno : ¬ bt a o = 1) : JM (sI σ 1 (413544 + 8 * p + o) 1) := by
  obtain ⟨⟨rk, hrk⟩, h2⟩ := h
  refine ⟨⟨fun x => if bt a x = 1 ∨ x = p then rk x + (rk o + 1) else rk x, fun x hx y hy he => ?_⟩, fun k hk => ?_⟩
  · show (if bt a y = 1 ∨ y = p then rk y + (rk o + 1) else rk y) < (if bt a x = 1 ∨ x = p then rk x + (rk o + 1) else rk x)
    by_cases e : x = p ∧ y = o
    · obtain ⟨rfl, rfl⟩ := e
      rw [if_pos (Or.inr rfl), if_neg (by rintro (h | h); exact hno h; exact hne h.symm)]
      omega
    · have he : σ.1 1 (0 + (413544 + 8 * x + y)) = 1 := by rw [← he]; exact (rd_n (Or.inr (by omega))).symm
      have h3 := hrk x hx y hy he
      rw [Nat.zero_add] at he
      by_cases e2 : bt a y = 1 ∨ y = p
      · have e3 : bt a x = 1 := by
          refine hcl x hx ?_
          rcases e2 with e2 | e2
          · exact Or.inr ⟨y, hy, e2, he⟩
          · exact Or.inl (e2 ▸ he)
        rw [if_pos e2, if_pos (Or.inl e3)]
        omega
      · rw [if_neg e2]
        split <;> omega
  · have e1 : (sI σ 1 (413544 + 8 * p + o) 1).1 2 = σ.1 2 := sI_o (by decide)
    have e2 : (sI σ 1 (413544 + 8 * p + o) 1).1 3 = σ.1 3 := sI_o (by decide)
    rw [e1, e2]
    exact h2 k hk

