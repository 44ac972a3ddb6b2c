/-! both sides: prices, ROWS, needs, and their IMAGES -/
def SMc (σ : Sg) (wk : Nat) (W : Nat → Int32) : Prop := (∀ k, k < 64 → σ.1 (wk + 2) k = W (413480 + k)) ∧ (∀ k, k < 100 → σ.1 (wk + 6) k = W (414028 + k)) ∧ σ.1 (wk + 5) 1 = W 3 ∧ σ.1 (wk + 5) 2 = W 4 ∧ NDQ (σ.1 (wk + 3)) W
def RLb (σ1 σ2 : Sg) : Prop := (∀ k, k < 3 → σ1.1 185 k = σ2.1 3 k) ∧ SMc σ1 1 (σ2.1 1) ∧ ∀ w, w < 3 → σ2.1 3 w = 1 → SMc σ1 (250 + 183 * w) (fun i => σ2.1 2 (414128 * w + i))
def KA2 (σ τ : Sg) : Prop := ∀ x k, (x = 3 ∨ x = 4 ∨ x = 6 ∨ x = 7 ∨ x = 185 ∨ 250 ≤ x) → τ.1 x k = σ.1 x k
def KB2 (σ τ : Sg) : Prop := (∀ k, τ.1 2 k = σ.1 2 k) ∧ (∀ k, τ.1 3 k = σ.1 3 k) ∧ ∀ k, KR k → τ.1 1 k = σ.1 1 k
theorem NDQ.f {n n' W V : Nat → Int32} (h : NDQ n W) (h1 : ∀ k, k < 8 → n' k = n k) (h2 : ∀ k, 413544 ≤ k → k < 413608 → V k = W k) : NDQ n' V := by
  intro p hp q hq
  rw [show nd n' p = nd n p from by unfold nd; rw [h1 p hp], h2 _ (by omega) (by omega)]
  exact h p hp q hq
theorem SMc.f {σ τ : Sg} {wk : Nat} {W V : Nat → Int32} (h : SMc σ wk W) (h1 : ∀ t k, (t = 2 ∨ t = 3 ∨ t = 5 ∨ t = 6) → τ.1 (wk + t) k = σ.1 (wk + t) k) (h2 : ∀ k, k < 414128 → KR k → V k = W k) : SMc τ wk V := by
  obtain ⟨a1, a2, a3, a4, a5⟩ := h
  refine ⟨fun k hk => ?_, fun k hk => ?_, ?_, ?_, a5.f (fun k hk => h1 3 k (by decide)) (fun k h3 h4 => h2 k (by omega) (by unfold KR; omega))⟩
  · rw [h1 2 k (by decide), h2 _ (by omega) (by unfold KR; omega)]; exact a1 k hk
  · rw [h1 6 k (by decide), h2 _ (by omega) (by unfold KR; omega)]; exact a2 k hk
  · rw [h1 5 1 (by decide), h2 _ (by omega) (by unfold KR; omega)]; exact a3
  · rw [h1 5 2 (by decide), h2 _ (by omega) (by unfold KR; omega)]; exact a4
theorem SMc.cp {σ τ : Sg} {wk xk : Nat} {W V : Nat → Int32} (c : CPY τ wk σ xk) (h : SMc σ xk W) (h2 : ∀ k, k < 414128 → V k = W k) : SMc τ wk V := by
  obtain ⟨a1, a2, a3, a4, a5⟩ := h
  obtain ⟨c1, c2, c3, c4, c5⟩ := c
  refine ⟨fun k hk => ?_, fun k hk => ?_, ?_, ?_, a5.f c2 (fun k h3 h4 => h2 k (by omega))⟩
  · rw [c1 k hk, h2 _ (by omega)]; exact a1 k hk
  · rw [c3 k hk, h2 _ (by omega)]; exact a2 k hk
  · rw [c4, h2 _ (by omega)]; exact a3
  · rw [c5, h2 _ (by omega)]; exact a4
theorem RLb.f {σ1 σ2 τ1 τ2 : Sg} (h : RLb σ1 σ2) (a : KA2 σ1 τ1) (b : KB2 σ2 τ2) : RLb τ1 τ2 := by
  refine ⟨fun k hk => ?_, h.2.1.f (fun t k ht => a (1 + t) k (by omega)) (fun k _ hk => b.2.2 k hk), fun w hw h9 => (h.2.2 w hw (by rw [← b.2.1 w]; exact h9)).f (fun t k ht => a _ k (by omega)) (fun k _ _ => b.1 _)⟩
  rw [a 185 k (by omega), b.2.1 k]
  exact h.1 k hk
theorem RLb.m {σ1 σ2 τ1 τ2 : Sg} (h : RLb σ1 σ2) (a : ∀ x k, (x = 185 ∨ 250 ≤ x) → τ1.1 x k = σ1.1 x k) (b : (∀ k, τ2.1 2 k = σ2.1 2 k) ∧ ∀ k, τ2.1 3 k = σ2.1 3 k) (s : SMc τ1 1 (τ2.1 1)) : RLb τ1 τ2 := by
  refine ⟨fun k hk => ?_, s, fun w hw h9 => (h.2.2 w hw (by rw [← b.2 w]; exact h9)).f (fun t k ht => a _ k (by omega)) (fun k _ _ => b.1 _)⟩
  rw [a 185 k (by omega), b.2 k]
  exact h.1 k hk
theorem SMc.calls {σ τ : Sg} {W V : Nat → Int32} {p o v r q : Int32} (h : SMc σ 1 W) (c1 : CLQ (σ.1 3) (τ.1 3) p o v r) (c2 : CLQ (fun k => W (413480 + k)) (fun k => V (413480 + k)) p o v q) (a : ∀ x k, (x = 4 ∨ x = 6 ∨ x = 7) → τ.1 x k = σ.1 x k) (b : ∀ x, x < 413480 ∨ 413544 ≤ x → V x = W x) : SMc τ 1 V := by
  obtain ⟨a1, a2, a3, a4, a5⟩ := h
  refine ⟨(CLQ.both c1 c2 a1).2, fun k hk => ?_, ?_, ?_, a5.f (fun k _ => a 4 k (by decide)) (fun k h3 h4 => b k (by omega))⟩
  · show τ.1 7 k = _
    rw [a 7 k (by decide), b _ (by omega)]; exact a2 k hk
  · show τ.1 6 1 = _
    rw [a 6 1 (by decide), b _ (by omega)]; exact a3
  · show τ.1 6 2 = _
    rw [a 6 2 (by decide), b _ (by omega)]; exact a4
theorem SMc.rows {σ τ : Sg} {W V : Nat → Int32} (h : SMc σ 1 W) (hr : ∀ k, k < 100 → τ.1 7 k = V (414028 + k)) (hm : τ.1 6 1 = V 3) (hc : τ.1 6 2 = V 4) (a : ∀ x k, (x = 3 ∨ x = 4) → τ.1 x k = σ.1 x k) (b : ∀ x, 413480 ≤ x → x < 413608 → V x = W x) : SMc τ 1 V := by
  obtain ⟨a1, a2, a3, a4, a5⟩ := h
  refine ⟨fun k hk => ?_, hr, hm, hc, a5.f (fun k _ => a 4 k (by decide)) (fun k h3 h4 => b k (by omega) (by omega))⟩
  show τ.1 3 k = _
  rw [a 3 k (by decide), b _ (by omega) (by omega)]; exact a1 k hk
theorem NEm.o {W V : Nat → Int32} {p o r : Int32} (h : NEm W V p o r) : ∀ x, x < 413544 ∨ 413608 ≤ x → V x = W x := by
  intro x hx1
  rcases h with ⟨_, _, h⟩ | ⟨a, b, ha, hb, _, _, h⟩
  · exact h x
  · rcases h with ⟨_, _, h⟩ | ⟨_, s, _, _, h⟩
    · exact h x
    · rcases h with ⟨_, _, h⟩ | ⟨_, _, _, h⟩
      · exact h x
      · exact h x (by omega)
theorem SMc.needs {σ τ : Sg} {W V : Nat → Int32} {p o r q : Int32} (h : SMc σ 1 W) (c1 : NEc (σ.1 4) (τ.1 4) p o r) (c2 : NEm W V p o q) (a : ∀ x k, (x = 3 ∨ x = 6 ∨ x = 7) → τ.1 x k = σ.1 x k) : SMc τ 1 V := by
  obtain ⟨a1, a2, a3, a4, a5⟩ := h
  have b := c2.o
  refine ⟨fun k hk => ?_, fun k hk => ?_, ?_, ?_, (NEc.both c1 c2 a5).2⟩
  · show τ.1 3 k = _
    rw [a 3 k (by decide), b _ (by omega)]; exact a1 k hk
  · show τ.1 7 k = _
    rw [a 7 k (by decide), b _ (by omega)]; exact a2 k hk
  · show τ.1 6 1 = _
    rw [a 6 1 (by decide), b _ (by omega)]; exact a3
  · show τ.1 6 2 = _
    rw [a 6 2 (by decide), b _ (by omega)]; exact a4
theorem RLb.kp {σ1 σ2 τ1 τ2 : Sg} {i r q : Int32} (h : RLb σ1 σ2) (k1 : KPC σ1 τ1 i r) (u1 : UPD (σ1.1 185) (τ1.1 185) i 1 r) (a : ∀ x k, (x = 3 ∨ x = 4 ∨ x = 6 ∨ x = 7) → τ1.1 x k = σ1.1 x k) (k2 : (q = -2 ∧ τ2 = σ2) ∨ ∃ k, k < 3 ∧ i = nI k ∧ q = 0 ∧ KPT σ2 τ2 k) (hq : r = q) : RLb τ1 τ2 := by
  rcases k1 with ⟨a1, a2⟩ | ⟨w, a1, a2, a3, a4, a5⟩ <;> rcases k2 with ⟨b1, b2⟩ | ⟨k, b1, b2, b3, b4⟩
  · rw [a2, b2]; exact h
  · exact absurd (hq.trans b3) a1
  · exact absurd (a3.symm.trans (hq.trans b1)) (by decide)
  · have e : w = k := nI_inj (by omega) (by omega) (a2.symm.trans b2)
    subst e
    obtain ⟨c1, c2, c3, c4, c5, _⟩ := b4
    refine ⟨UPD.two u1 (Or.inl ⟨b3, w, by omega, b2, c3, c4⟩) hq h.1, h.2.1.f (fun t k ht => a (1 + t) k (by omega)) (fun k _ _ => congrFun c5 k), fun v hv h9 => ?_⟩
    by_cases e : v = w
    · subst e
      exact SMc.cp a4 h.2.1 c1
    · refine (h.2.2 v hv (by rw [← c4 v e]; exact h9)).f (fun t k ht => a5 v hv e t k (by omega)) (fun k hk _ => ?_)
      refine c2 (414128 * v + k) ?_
      rcases Nat.lt_or_gt_of_ne e with h3 | h3
      · left
        have : v + 1 ≤ w := h3
        omega
      · right
        have : w + 1 ≤ v := h3
        omega
theorem RLb.rs {σ1 σ2 τ1 τ2 : Sg} {i r q : Int32} (h : RLb σ1 σ2) (k1 : RSC σ1 τ1 i r) (a : ∀ x k, (x = 185 ∨ 250 ≤ x) → τ1.1 x k = σ1.1 x k) (b : (∀ k, τ2.1 2 k = σ2.1 2 k) ∧ ∀ k, τ2.1 3 k = σ2.1 3 k) (k2 : (q ≠ 0 ∧ ∀ x, τ2.1 1 x = σ2.1 1 x) ∨ ∃ k, k < 3 ∧ i = nI k ∧ q = 0 ∧ σ2.1 3 k = 1 ∧ ∀ j, j < 414128 → τ2.1 1 j = σ2.1 2 (414128 * k + j)) (hq : r = q) : RLb τ1 τ2 := by
  refine h.m a b ?_
  rcases k1 with ⟨a1, a2⟩ | ⟨w, a1, a2, a3, a4⟩ <;> rcases k2 with ⟨b1, b2⟩ | ⟨k, b1, b2, b3, b4, b5⟩
  · rw [a2]; exact h.2.1.f (fun t k ht => rfl) (fun k _ _ => b2 k)
  · exact absurd (hq.trans b3) a1
  · exact absurd (hq.symm.trans a3) b1
  · have e : w = k := nI_inj (by omega) (by omega) (a2.symm.trans b2)
    subst e
    exact SMc.cp a4 (h.2.2 w a1 b4) b5
