def prc (f : Nat → Int32) (a : Nat) : Nat → Int32
  | 0 => 0
  | k + 1 => if f (413480 + k) = -1 ∨ bt a (k / 8) = bt a (k % 8) then prc f a k else prc f a k + f (413480 + k)
theorem prc_0 {f : Nat → Int32} {a p q : Nat} (hq : q < 8) (h : f (413480 + 8 * p + q) = -1 ∨ bt a p = bt a q) : prc f a (8 * p + q + 1) = prc f a (8 * p + q) := by
  have e1 : (8 * p + q) / 8 = p := by omega
  have e2 : (8 * p + q) % 8 = q := by omega
  show (if f (413480 + (8 * p + q)) = -1 ∨ bt a ((8 * p + q) / 8) = bt a ((8 * p + q) % 8) then _ else _) = _
  rw [e1, e2, ← Nat.add_assoc, if_pos h]
theorem prc_1 {f : Nat → Int32} {a p q : Nat} {v : Int32} (hq : q < 8) (hv : f (413480 + 8 * p + q) = v) (h1 : ¬ v = -1) (h2 : ¬ bt a p = bt a q) : prc f a (8 * p + q + 1) = prc f a (8 * p + q) + v := by
  have e1 : (8 * p + q) / 8 = p := by omega
  have e2 : (8 * p + q) % 8 = q := by omega
  show (if f (413480 + (8 * p + q)) = -1 ∨ bt a ((8 * p + q) / 8) = bt a ((8 * p + q) % 8) then _ else _) = _
  rw [e1, e2, ← Nat.add_assoc, hv, if_neg (fun h => h.elim h1 h2)]
theorem tadd32 {x y : Int32} (h1 : -2147483648 ≤ x.toInt + y.toInt) (h2 : x.toInt + y.toInt < 2147483648) : (x + y).toInt = x.toInt + y.toInt := by
  rw [Int32.toInt_add, Int.bmod_eq_of_le] <;> omega
theorem prc_b {f : Nat → Int32} {a : Nat} (h : ∀ k, k < 64 → -1 ≤ (f (413480 + k)).toInt ∧ (f (413480 + k)).toInt ≤ 999) : ∀ k, k ≤ 64 → 0 ≤ (prc f a k).toInt ∧ (prc f a k).toInt ≤ 999 * (k : Int) := by
  intro k
  induction k with
  | zero => intro _; exact ⟨(by show (0 : Int) ≤ (0 : Int32).toInt; decide), (by show (0 : Int32).toInt ≤ 999 * ((0 : Nat) : Int); decide)⟩
  | succ k ih =>
    intro hk
    have h1 := ih (by omega)
    have h2 := h k (by omega)
    show 0 ≤ (if f (413480 + k) = -1 ∨ bt a (k / 8) = bt a (k % 8) then prc f a k else prc f a k + f (413480 + k)).toInt ∧ (if f (413480 + k) = -1 ∨ bt a (k / 8) = bt a (k % 8) then prc f a k else prc f a k + f (413480 + k)).toInt ≤ 999 * ((k + 1 : Nat) : Int)
    split
    · omega
    · rename_i hc
      have h3 : (f (413480 + k)).toInt ≠ -1 := fun e => hc (Or.inl (Int32.toInt_inj.1 (e.trans (by decide))))
      rw [tadd32 (by omega) (by omega)]
      omega
theorem prc_r {σ : Sg} {a : Nat} (hT : TM σ) : 0 ≤ (prc (σ.1 1) a 64).toInt ∧ (prc (σ.1 1) a 64).toInt ≤ 63936 := by
  have h := prc_b (f := σ.1 1) (a := a) (fun k hk => wTy_k (by omega) (by omega) (hT 1 _)) 64 (by omega)
  omega
def MB (f : Nat → Int32) (p t : Nat) : Prop := (∀ q, q < 8 → NDr f p q → bt t q = 1) ∧ bt t p = 0
theorem nextp {f : Nat → Int32} {fi al s : Nat} (hN : ND f 0) (h1 : sb fi s) (h2 : sb s al) (hne : s ≠ al) (hs : s < 256) (ha : al < 256) (hck : ∀ p, p < 8 → bt al p = 1 → bt fi p = 0 → ∀ q, q < 8 → NDr f p q → bt al q = 1) : ∃ p, p < 8 ∧ bt al p = 1 ∧ MB f p s := by
  obtain ⟨rk, hrk⟩ := hN
  have key : ∀ n p, rk p = n → p < 8 → bt al p = 1 → bt s p = 0 → ∃ p, p < 8 ∧ bt al p = 1 ∧ MB f p s := by
    intro n
    induction n using Nat.strongRecOn with
    | ind n ih =>
      intro p hp hp8 ha1 hs0
      by_cases hc : ∀ q, q < 8 → NDr f p q → bt s q = 1
      · exact ⟨p, hp8, ha1, hc, hs0⟩
      · have hc : ∃ q, q < 8 ∧ NDr f p q ∧ bt s q = 0 := by
          apply Classical.byContradiction
          intro hcc
          exact hc (fun q hq hn => by
            rcases bt_01 s q with h | h
            · exact absurd ⟨q, hq, hn, h⟩ hcc
            · exact h)
        obtain ⟨q, hq, hn, hz⟩ := hc
        have hf : bt fi p = 0 := by
          rcases bt_01 fi p with h | h
          · exact h
          · have := h1 p hp8 h; omega
        have hlt := hrk p hp8 q hq (by rw [Nat.zero_add]; exact hn)
        exact ih (rk q) (by omega) q rfl hq (hck p hp8 ha1 hf q hq hn) hz
  have hex : ∃ p, p < 8 ∧ bt al p = 1 ∧ bt s p = 0 := by
    apply Classical.byContradiction
    intro hcc
    refine hne (bt_eq hs ha (fun q hq => ⟨h2 q hq, fun h => ?_⟩))
    rcases bt_01 s q with h3 | h3
    · exact absurd ⟨q, hq, h, h3⟩ hcc
    · exact h3
  obtain ⟨p, hp, ha1, hs0⟩ := hex
  exact key _ p rfl hp ha1 hs0
/-- what stands in the row of least prices for a set -/
def OKL (f L : Nat → Int32) (al t : Nat) : Prop := 0 ≤ (L t).toInt ∧ (L t).toInt ≤ 63936 * (256 - (t : Int)) ∧ (t ≠ al → ∃ p, p < 8 ∧ bt al p = 1 ∧ MB f p t ∧ ¬ L (t ||| p2 p) = -1 ∧ prc f (t ||| p2 p) 64 + L (t ||| p2 p) = L t)
theorem OKL.cong {f L L' : Nat → Int32} {al i t : Nat} (h : OKL f L al t) (ht : i < t) (ht2 : t < 256) (he : ∀ x, i < x → L' x = L x) : OKL f L' al t := by
  refine ⟨by rw [he t ht]; exact h.1, by rw [he t ht]; exact h.2.1, fun hne => ?_⟩
  obtain ⟨p, h1, h2, h3, h4, h5⟩ := h.2.2 hne
  have h6 := up_lt t ht2 p h1 h3.2
  refine ⟨p, h1, h2, h3, ?_, ?_⟩
  · rw [he _ (by omega)]; exact h4
  · rw [he _ (by omega), he t ht]; exact h5
theorem sb_up {f s p : Nat} (h : sb f s) (hp : p < 8) : sb f (s ||| p2 p) := fun q hq h1 => (bt_up hp hq).2 (Or.inl (h q hq h1))
theorem sb_up2 {s al p : Nat} (h : sb s al) (hp : p < 8) (ha : bt al p = 1) : sb (s ||| p2 p) al := fun q hq h1 => by
  rcases (bt_up hp hq).1 h1 with h2 | h2
  · exact h q hq h2
  · exact h2 ▸ ha
/-- while the PROGRAMS are gone through for the set i -/
def LSP (f L : Nat → Int32) (al i n : Nat) : Prop := (L i = -1 ∧ i ≠ al ∧ ∀ p, p < n → bt al p = 1 → MB f p i → L (i ||| p2 p) = -1) ∨ OKL f L al i
theorem LSP.next {f L : Nat → Int32} {al i n : Nat} (h : LSP f L al i n) (hn : bt al n = 1 → MB f n i → ¬ L i = -1 ∨ L (i ||| p2 n) = -1) : LSP f L al i (n + 1) := by
  rcases h with ⟨h1, h2, h3⟩ | h
  · refine Or.inl ⟨h1, h2, fun p hp ha hm => ?_⟩
    by_cases e : p = n
    · subst e
      exact (hn ha hm).resolve_left (fun z => z h1)
    · exact h3 p (by omega) ha hm
  · exact Or.inr h
theorem LSP.put {f L L' : Nat → Int32} {al i p : Nat} {v : Int32} (hp : p < 8) (hi : i < 256) (ha : bt al p = 1) (hm : MB f p i) (hv : L' i = v) (he : L' (i ||| p2 p) = L (i ||| p2 p)) (hL : ¬ L (i ||| p2 p) = -1) (hO : OKL f L al (i ||| p2 p)) (hP : 0 ≤ (prc f (i ||| p2 p) 64).toInt ∧ (prc f (i ||| p2 p) 64).toInt ≤ 63936) (hs : v = prc f (i ||| p2 p) 64 + L (i ||| p2 p)) (n : Nat) : LSP f L' al i n := by
  have h1 := up_lt i hi p hp hm.2
  have h2 := or_lt hi (p2_lt hp)
  have h3 := hO.1
  have h4 := hO.2.1
  have h5 : v.toInt = (prc f (i ||| p2 p) 64).toInt + (L (i ||| p2 p)).toInt := by rw [hs]; exact tadd32 (by omega) (by omega)
  refine Or.inr ⟨by rw [hv]; omega, by rw [hv]; omega, fun _ => ⟨p, hp, ha, hm, by rw [he]; exact hL, by rw [he, hv]; exact hs.symm⟩⟩
theorem LSP.done {f L : Nat → Int32} {fi al i : Nat} (h : LSP f L al i 8) (hN : ND f 0) (h1 : sb fi i) (h2 : sb i al) (hi : i < 256) (ha : al < 256) (hck : ∀ p, p < 8 → bt al p = 1 → bt fi p = 0 → ∀ q, q < 8 → NDr f p q → bt al q = 1) (hO : ∀ t, i < t → t < 256 → sb fi t → sb t al → OKL f L al t) : OKL f L al i := by
  rcases h with ⟨h3, h4, h5⟩ | h
  · obtain ⟨p, hp, ha1, hm⟩ := nextp hN h1 h2 h4 hi ha hck
    have h6 := hO (i ||| p2 p) (up_lt i hi p hp hm.2) (or_lt hi (p2_lt hp)) (sb_up h1 hp) (sb_up2 h2 hp ha1)
    have h7 := h5 p hp ha1 hm
    have h8 := h6.1
    rw [h7] at h8
    exact absurd h8 (by decide)
  · exact h
theorem bq0 {x p : Nat} (hp : p < 8) (h : x &&& p2 p = 0) : ¬ bt x p = 1 := by
  intro h1
  have h2 : bt (x &&& p2 p) p = 1 := (bt_and _ _ _).2 ⟨h1, (bt_p p hp p hp).2 rfl⟩
  rw [h] at h2
  exact absurd h2 (by unfold bt; simp)
theorem ndown2 {q : Int32} {j : Nat} (h : q = nI j + (-1)) (hj : j ≤ 256) (hc : ¬ q < 0) : ∃ i, j = i + 1 ∧ q = nI i := by
  cases j with
  | zero =>
    subst h
    exact absurd (by decide : nI 0 + (-1) < (0 : Int32)) hc
  | succ i =>
    refine ⟨i, rfl, h.trans ?_⟩
    have e : nI (i + 1) = nI i + 1 := (nI_1 i).symm
    rw [e, Int32.add_assoc, show (1 : Int32) + -1 = 0 from by decide, Int32.add_zero]
theorem nj0 {q : Int32} {j : Nat} (h : q = nI j + (-1)) (hj : j ≤ 256) (hc : q < 0) : j = 0 := by
  cases j with
  | zero => rfl
  | succ i =>
    have e : nI (i + 1) = nI i + 1 := (nI_1 i).symm
    rw [e, Int32.add_assoc, show (1 : Int32) + -1 = 0 from by decide, Int32.add_zero] at h
    rw [h, ta_lt, tnI i (by omega), tl32 0 (by decide)] at hc
    omega

