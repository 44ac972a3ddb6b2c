/-! needs of the class: bits of a PROGRAM's row -/
def nd (f : Nat → Int32) (q : Nat) : Nat := (f q).toNatClampNeg
theorem nd_e {f : Nat → Int32} {q n : Nat} (h : f q = nI n) (hn : n ≤ 255) : nd f q = n := by
  unfold nd
  rw [h]
  exact nI_clamp (by omega)
def CLc (f : Nat → Int32) (p a : Nat) : Prop := ∀ q, q < 8 → (bt (nd f q) p = 1 ∨ ∃ r, r < 8 ∧ bt a r = 1 ∧ bt (nd f q) r = 1) → bt a q = 1
def NDc (f : Nat → Int32) : Prop := ∃ rk : Nat → Nat, ∀ p, p < 8 → ∀ q, q < 8 → bt (nd f p) q = 1 → rk q < rk p
/-- the least set that is closed -/
def LCL (f : Nat → Int32) (p a : Nat) : Prop := CLc f p a ∧ ∀ b, b < 256 → CLc f p b → sb a b
theorem and_nz {n a : Nat} (hn : n < 256) (h : ¬ n &&& a = 0) : ∃ r, r < 8 ∧ bt n r = 1 ∧ bt a r = 1 := by
  apply Classical.byContradiction
  intro hc
  refine h (bt_ext _ (and_lt hn) (fun q hq => ?_))
  rcases bt_01 (n &&& a) q with h1 | h1
  · exact h1
  · exact absurd ⟨q, hq, (bt_and _ _ _).1 h1⟩ hc
theorem and_z {n a r : Nat} (h : n &&& a = 0) : ¬ (bt n r = 1 ∧ bt a r = 1) := by
  intro h1
  have h2 := (bt_and n a r).2 h1
  rw [h] at h2
  exact absurd h2 (by unfold bt; simp)
/-- the test of needersOf -/
theorem nt_1 {n a p : Nat} (hp : p < 8) (hn : n < 256) (h : ¬ n &&& (a ||| p2 p) = 0) : bt n p = 1 ∨ ∃ r, r < 8 ∧ bt a r = 1 ∧ bt n r = 1 := by
  obtain ⟨r, hr, h1, h2⟩ := and_nz hn h
  rcases (bt_up hp hr).1 h2 with h3 | h3
  · exact Or.inr ⟨r, hr, h3, h1⟩
  · exact Or.inl (h3 ▸ h1)
theorem nt_0 {n a p : Nat} (hp : p < 8) (h : n &&& (a ||| p2 p) = 0) : ¬ (bt n p = 1 ∨ ∃ r, r < 8 ∧ bt a r = 1 ∧ bt n r = 1) := by
  rintro (h1 | ⟨r, hr, h1, h2⟩)
  · exact and_z h ⟨h1, (bt_up hp hp).2 (Or.inr rfl)⟩
  · exact and_z h ⟨h2, (bt_up hp hr).2 (Or.inl h1)⟩
theorem up_same {a i : Nat} (ha : a < 256) (hi : i < 8) (h : bt a i = 1) : a ||| p2 i = a := by
  refine bt_eq (or_lt ha (p2_lt hi)) ha (fun q hq => ?_)
  rw [bt_up hi hq]
  exact ⟨fun h1 => h1.elim id (fun e => e ▸ h), Or.inl⟩
theorem pcn_le : ∀ a, a < 256 → ∀ p, p < 8 → pcn a ≤ pcn (a ||| p2 p) := by decide +kernel
theorem pcn_all {a q : Nat} (hq : q < 8) (h : 8 ≤ pcn a) : bt a q = 1 := by
  have h0 := bt_01 a 0
  have h1 := bt_01 a 1
  have h2 := bt_01 a 2
  have h3 := bt_01 a 3
  have h4 := bt_01 a 4
  have h5 := bt_01 a 5
  have h6 := bt_01 a 6
  have h7 := bt_01 a 7
  unfold pcn at h
  rcases (by omega : q = 0 ∨ q = 1 ∨ q = 2 ∨ q = 3 ∨ q = 4 ∨ q = 5 ∨ q = 6 ∨ q = 7) with rfl | rfl | rfl | rfl | rfl | rfl | rfl | rfl <;> omega
/-- one round of needersOf: from a0, with the PROGRAMS below i gone through -/
def NRD (f : Nat → Int32) (p a0 a i : Nat) : Prop := (∀ b, b < 256 → CLc f p b → sb a b) ∧ (CLc f p a0 → a = a0) ∧ ((a = a0 ∧ ∀ q, q < i → (bt (nd f q) p = 1 ∨ ∃ r, r < 8 ∧ bt a r = 1 ∧ bt (nd f q) r = 1) → bt a q = 1) ∨ pcn a0 < pcn a)
theorem NRD.skip {f : Nat → Int32} {p a0 a i n : Nat} (h : NRD f p a0 a i) (hp : p < 8) (hf : f i = nI n) (hn : n ≤ 255) (h0 : n &&& (a ||| p2 p) = 0) : NRD f p a0 a (i + 1) := by
  refine ⟨h.1, h.2.1, ?_⟩
  rcases h.2.2 with ⟨e, h3⟩ | h3
  · refine Or.inl ⟨e, fun q hq hx => ?_⟩
    by_cases eq : q = i
    · subst eq
      rw [nd_e hf hn] at hx
      exact absurd hx (nt_0 hp h0)
    · exact h3 q (by omega) hx
  · exact Or.inr h3
theorem NRD.add {f : Nat → Int32} {p a0 a i n : Nat} (h : NRD f p a0 a i) (hp : p < 8) (hi : i < 8) (ha : a < 256) (hf : f i = nI n) (hn : n ≤ 255) (h0 : ¬ n &&& (a ||| p2 p) = 0) : NRD f p a0 (a ||| p2 i) (i + 1) := by
  have hx := nt_1 hp (by omega) h0
  rw [← nd_e hf hn] at hx
  have hmin : ∀ b, b < 256 → CLc f p b → sb (a ||| p2 i) b := by
    intro b hb hc q hq h1
    rcases (bt_up hi hq).1 h1 with h2 | h2
    · exact h.1 b hb hc q hq h2
    · subst h2
      refine hc i hi ?_
      rcases hx with h3 | ⟨r, hr, h3, h4⟩
      · exact Or.inl h3
      · exact Or.inr ⟨r, hr, h.1 b hb hc r hr h3, h4⟩
  by_cases hb : bt a i = 1
  · have e := up_same ha hi hb
    refine ⟨hmin, fun hc => by rw [e]; exact h.2.1 hc, ?_⟩
    rw [e]
    rcases h.2.2 with ⟨e2, h3⟩ | h3
    · refine Or.inl ⟨e2, fun q hq hy => ?_⟩
      by_cases eq : q = i
      · rw [eq]; exact hb
      · exact h3 q (by omega) hy
    · exact Or.inr h3
  · have hb0 : bt a i = 0 := by rcases bt_01 a i with h1 | h1; exact h1; exact absurd h1 hb
    have hup := pcn_up a ha i hi hb0
    refine ⟨hmin, fun hc => ?_, ?_⟩
    · exfalso
      have e := h.2.1 hc
      subst e
      exact hb (hc i hi hx)
    · rcases h.2.2 with ⟨e2, h3⟩ | h3
      · subst e2; exact Or.inr (by omega)
      · exact Or.inr (by omega)
theorem NRD.round {f : Nat → Int32} {p a0 a k : Nat} (h : NRD f p a0 a 8) (hk : CLc f p a0 ∨ k ≤ pcn a0) : CLc f p a ∨ k + 1 ≤ pcn a := by
  rcases h.2.2 with ⟨e, h3⟩ | h3
  · exact Or.inl (fun q hq hx => h3 q hq hx)
  · rcases hk with hk | hk
    · exact Or.inl (by rw [h.2.1 hk]; exact hk)
    · exact Or.inr (by omega)
theorem CLc.fin {f : Nat → Int32} {p a : Nat} (h : CLc f p a ∨ 8 ≤ pcn a) : CLc f p a := by
  rcases h with h | h
  · exact h
  · exact fun q hq _ => pcn_all hq h
/-- one need more -/
theorem NDc.need {f g : Nat → Int32} {p o a n : Nat} (hp : p < 8) (ho : o < 8) (h : NDc f) (hne : p ≠ o) (hcl : CLc f p a) (hno : ¬ bt a o = 1) (hf : f p = nI n) (hn : n ≤ 255) (hg : g p = nI (n ||| p2 o)) (hgo : ∀ q, q ≠ p → g q = f q) : NDc g := by
  obtain ⟨rk, hrk⟩ := h
  have hn2 : n ||| p2 o ≤ 255 := by have := or_lt (a := n) (by omega) (p2_lt ho); omega
  refine ⟨fun x => if bt a x = 1 ∨ x = p then rk x + (rk o + 1) else rk x, fun x hx y hy he => ?_⟩
  show (if bt a y = 1 ∨ y = p then rk y + (rk o + 1) else rk y) < (if bt a x = 1 ∨ x = p then rk x + (rk o + 1) else rk x)
  have key : bt (nd f x) y = 1 → (if bt a y = 1 ∨ y = p then rk y + (rk o + 1) else rk y) < (if bt a x = 1 ∨ x = p then rk x + (rk o + 1) else rk x) := by
    intro he
    have h3 := hrk x hx y hy he
    by_cases e2 : bt a y = 1 ∨ y = p
    · have e3 : bt a x = 1 := by
        refine hcl x hx ?_
        rcases e2 with e2 | e2
        · exact Or.inr ⟨y, hy, e2, he⟩
        · exact Or.inl (e2 ▸ he)
      rw [if_pos e2, if_pos (Or.inl e3)]
      omega
    · rw [if_neg e2]
      split <;> omega
  by_cases e : x = p
  · subst e
    rw [nd_e hg hn2, bt_up ho hy] at he
    rcases he with he | he
    · exact key (by rw [nd_e hf hn]; exact he)
    · subst he
      rw [if_pos (Or.inr rfl), if_neg (by rintro (h | h); exact hno h; exact hne h.symm)]
      omega
  · have e2 : nd g x = nd f x := by unfold nd; rw [hgo x e]
    rw [e2] at he
    exact key he
theorem NDc.c {f g : Nat → Int32} (h : NDc f) (e : ∀ q, q < 8 → g q = f q) : NDc g := by
  obtain ⟨rk, hrk⟩ := h
  exact ⟨rk, fun p hp q hq hb => hrk p hp q hq (by unfold nd at *; rw [← e p hp]; exact hb)⟩
/-! the planner -/
def MYc (f : Nat → Int32) (d g o i : Nat) : Prop := bt g i = 1 ∧ bt d i = 0 ∧ sb (nd f i) (d ||| o)
theorem wt_1 {g d i : Nat} (hg : g < 256) (hd : d < 256) (hi : i < 8) (h : ¬ g &&& (255 ^^^ d) &&& p2 i = 0) : bt g i = 1 ∧ bt d i = 0 := by
  obtain ⟨r, hr, h1, h2⟩ := and_nz (and_lt hg) h
  have e := (bt_p i hi r hr).1 h2
  subst e
  have h3 := (bt_and _ _ _).1 h1
  exact ⟨h3.1, (bt_x d hd i hi).1 h3.2⟩
theorem wt_0 {g d i : Nat} (hd : d < 256) (hi : i < 8) (h : g &&& (255 ^^^ d) &&& p2 i = 0) : ¬ (bt g i = 1 ∧ bt d i = 0) := by
  rintro ⟨h1, h2⟩
  exact and_z h ⟨(bt_and _ _ _).2 ⟨h1, (bt_x d hd i hi).2 h2⟩, (bt_p i hi i hi).2 rfl⟩
theorem sb_le {a b : Nat} (ha : a < 256) (hb : b < 256) (h : sb a b) : a ≤ b := by
  have e : a &&& b = a := bt_eq (and_lt ha) ha (fun q hq => by rw [bt_and]; exact ⟨fun h1 => h1.1, fun h1 => ⟨h1, h q hq h1⟩⟩)
  rw [← e]
  exact Nat.and_le_right
theorem pcn_eq : ∀ a, a < 256 → ∀ b, b < 256 → a &&& b = a → pcn a = pcn b → a = b := by decide +kernel
theorem MYc.ex {f : Nat → Int32} {d g o : Nat} (hN : NDc f) (hd : d < 256) (hg : g < 256) (hs : sb d g) (hne : d ≠ g) (hcl : ∀ i, i < 8 → bt g i = 1 → sb (nd f i) (g ||| o)) : ∃ i, i < 8 ∧ MYc f d g o i := by
  obtain ⟨rk, hrk⟩ := hN
  have key : ∀ n p, rk p = n → p < 8 → bt g p = 1 → bt d p = 0 → ∃ i, i < 8 ∧ MYc f d g o i := by
    intro n
    induction n using Nat.strongRecOn with
    | ind n ih =>
      intro p hp hp8 hg1 hd0
      by_cases hc : sb (nd f p) (d ||| o)
      · exact ⟨p, hp8, hg1, hd0, hc⟩
      · have hc : ∃ q, q < 8 ∧ bt (nd f p) q = 1 ∧ ¬ bt (d ||| o) q = 1 := by
          apply Classical.byContradiction
          intro hcc
          exact hc (fun q hq h1 => by
            rcases bt_01 (d ||| o) q with h | h
            · exact absurd ⟨q, hq, h1, by omega⟩ hcc
            · exact h)
        obtain ⟨q, hq, h1, h2⟩ := hc
        rw [bt_or] at h2
        have h3 := hcl p hp8 hg1 q hq h1
        rw [bt_or] at h3
        have h4 : bt g q = 1 := h3.resolve_right (fun z => h2 (Or.inr z))
        have h5 : bt d q = 0 := by rcases bt_01 d q with h | h; exact h; exact absurd (Or.inl h) h2
        exact ih (rk q) (by have := hrk p hp8 q hq h1; omega) q rfl hq h4 h5
  have hex : ∃ p, p < 8 ∧ bt g p = 1 ∧ bt d p = 0 := by
    apply Classical.byContradiction
    intro hcc
    refine hne (bt_eq hd hg (fun q hq => ⟨hs q hq, fun h => ?_⟩))
    rcases bt_01 d q with h3 | h3
    · exact absurd ⟨q, hq, h, h3⟩ hcc
    · exact h3
  obtain ⟨p, hp, h1, h2⟩ := hex
  exact key _ p rfl hp h1 h2

