/-! ROWS, prices, needs: what both sides do, said once -/
def flD (x y : Int32) : Int32 := if 0 ≤ x ^^^ y then x / y else if x / y * y = x then x / y else x / y - 1
def flM (x y : Int32) : Int32 := if 0 ≤ x ^^^ y then x - x / y * y else if x - x / y * y = 0 then x - x / y * y else x - x / y * y + y
def LDF (m c : Int32) (f : Nat → Int32) (b j : Nat) : Int32 :=
  if j = b + 3 then 0
  else if f (b + 2) = 0 then (if j = b + 4 then 0 else if j = b + 1 then m * f b + c else f j)
  else (if j = b + 4 then flM (f (b + 1) - c) m else if j = b then flD (f (b + 1) - c) m else f j)
def LDR (f g : Nat → Int32) (b : Nat) : Int32 := if f (b + 2) = 0 then g (b + 1) else g b
theorem LDF_a {m c : Int32} {f g : Nat → Int32} {b : Nat} (h0 : f (b + 2) = 0) (h1 : g (b + 1) = m * f b + c) (h3 : g (b + 3) = 0) (h4 : g (b + 4) = 0) (ho : ∀ j, j ≠ b + 1 → j ≠ b + 3 → j ≠ b + 4 → g j = f j) : ∀ j, g j = LDF m c f b j := by
  intro j
  unfold LDF
  by_cases e3 : j = b + 3
  · rw [if_pos e3, e3]; exact h3
  rw [if_neg e3, if_pos h0]
  by_cases e4 : j = b + 4
  · rw [if_pos e4, e4]; exact h4
  rw [if_neg e4]
  by_cases e1 : j = b + 1
  · rw [if_pos e1, e1]; exact h1
  rw [if_neg e1]
  exact ho j e1 e3 e4
theorem LDF_b {m c : Int32} {f g : Nat → Int32} {b : Nat} (h0 : ¬ f (b + 2) = 0) (h1 : g b = flD (f (b + 1) - c) m) (h3 : g (b + 3) = 0) (h4 : g (b + 4) = flM (f (b + 1) - c) m) (ho : ∀ j, j ≠ b → j ≠ b + 3 → j ≠ b + 4 → g j = f j) : ∀ j, g j = LDF m c f b j := by
  intro j
  unfold LDF
  by_cases e3 : j = b + 3
  · rw [if_pos e3, e3]; exact h3
  rw [if_neg e3, if_neg h0]
  by_cases e4 : j = b + 4
  · rw [if_pos e4, e4]; exact h4
  rw [if_neg e4]
  by_cases e1 : j = b
  · rw [if_pos e1, e1]; exact h1
  rw [if_neg e1]
  exact ho j e1 e3 e4
theorem LDR_a {f g : Nat → Int32} {b : Nat} {r : Int32} (h0 : f (b + 2) = 0) (h : g (b + 1) = r) : r = LDR f g b := by unfold LDR; rw [if_pos h0]; exact h.symm
theorem LDR_b {f g : Nat → Int32} {b : Nat} {r : Int32} (h0 : ¬ f (b + 2) = 0) (h : g b = r) : r = LDR f g b := by unfold LDR; rw [if_neg h0]; exact h.symm
theorem LDF_c {m c : Int32} {f f' : Nat → Int32} {a j : Nat} (h : ∀ k, k < 100 → f k = f' k) (ha : a < 20) (hj : j < 100) : LDF m c f (5 * a) j = LDF m c f' (5 * a) j := by
  unfold LDF
  rw [h (5 * a + 2) (by omega), h (5 * a) (by omega), h (5 * a + 1) (by omega), h j hj]
theorem LDR_c {f f' g g' : Nat → Int32} {a : Nat} (h : ∀ k, k < 100 → f k = f' k) (h' : ∀ k, k < 100 → g k = g' k) (ha : a < 20) : LDR f g (5 * a) = LDR f' g' (5 * a) := by
  unfold LDR
  rw [h (5 * a + 2) (by omega), h' (5 * a) (by omega), h' (5 * a + 1) (by omega)]
theorem LDF_t {m c : Int32} {f : Nat → Int32} {b t : Nat} : LDF m c (fun j => f (b + j)) 0 t = LDF m c f b (b + t) := by
  show (if t = 0 + 3 then 0
    else if f (b + (0 + 2)) = 0 then (if t = 0 + 4 then 0 else if t = 0 + 1 then m * f (b + 0) + c else f (b + t))
    else (if t = 0 + 4 then flM (f (b + (0 + 1)) - c) m else if t = 0 then flD (f (b + (0 + 1)) - c) m else f (b + t))) = (if b + t = b + 3 then 0
    else if f (b + 2) = 0 then (if b + t = b + 4 then 0 else if b + t = b + 1 then m * f b + c else f (b + t))
    else (if b + t = b + 4 then flM (f (b + 1) - c) m else if b + t = b then flD (f (b + 1) - c) m else f (b + t)))
  rw [Nat.zero_add 3, Nat.zero_add 2, Nat.zero_add 4, Nat.zero_add 1, Nat.add_zero b]
  by_cases e3 : t = 3
  · rw [if_pos e3, if_pos (show b + t = b + 3 by omega)]
  rw [if_neg e3, if_neg (show ¬ b + t = b + 3 by omega)]
  by_cases e0 : f (b + 2) = 0
  · rw [if_pos e0, if_pos e0]
    by_cases e4 : t = 4
    · rw [if_pos e4, if_pos (show b + t = b + 4 by omega)]
    rw [if_neg e4, if_neg (show ¬ b + t = b + 4 by omega)]
    by_cases e1 : t = 1
    · rw [if_pos e1, if_pos (show b + t = b + 1 by omega)]
    rw [if_neg e1, if_neg (show ¬ b + t = b + 1 by omega)]
  · rw [if_neg e0, if_neg e0]
    by_cases e4 : t = 4
    · rw [if_pos e4, if_pos (show b + t = b + 4 by omega)]
    rw [if_neg e4, if_neg (show ¬ b + t = b + 4 by omega)]
    by_cases e1 : t = 0
    · rw [if_pos e1, if_pos (show b + t = b by omega)]
    rw [if_neg e1, if_neg (show ¬ b + t = b by omega)]
theorem LDF_o {m c : Int32} {f : Nat → Int32} {b j : Nat} (h : j < b ∨ b + 5 ≤ j) : LDF m c f b j = f j := by
  unfold LDF
  rw [if_neg (by omega)]
  by_cases e0 : f (b + 2) = 0
  · rw [if_pos e0, if_neg (by omega), if_neg (by omega)]
  · rw [if_neg e0, if_neg (by omega), if_neg (by omega)]
/-- a ROW of the reference, told by its place -/
theorem LDS {W V : Nat → Int32} {m c : Int32} {q : Nat} (h : ∀ j, V (414028 + 5 * q + j) = LDF m c (fun j => W (414028 + 5 * q + j)) 0 j) (ho : ∀ x, x < 414028 + 5 * q ∨ 414028 + 5 * q + 5 ≤ x → V x = W x) : ∀ j, V (414028 + j) = LDF m c (fun j => W (414028 + j)) (5 * q) j := by
  intro j
  by_cases hj : j < 5 * q
  · rw [ho (414028 + j) (by omega), LDF_o (Or.inl hj)]
  · obtain ⟨t, rfl⟩ : ∃ t, j = 5 * q + t := ⟨j - 5 * q, by omega⟩
    have h1 := h t
    rw [show (fun j => W (414028 + 5 * q + j)) = (fun j => (fun j => W (414028 + j)) (5 * q + j)) from funext (fun j => congrArg W (by omega))] at h1
    exact (congrArg V (by omega : 414028 + (5 * q + t) = 414028 + 5 * q + t)).trans (h1.trans (LDF_t (f := fun j => W (414028 + j))))
theorem LDSr {W V : Nat → Int32} {q : Nat} : LDR (fun j => W (414028 + 5 * q + j)) (fun j => V (414028 + 5 * q + j)) 0 = LDR (fun j => W (414028 + j)) (fun j => V (414028 + j)) (5 * q) := by
  show (if W (414028 + 5 * q + (0 + 2)) = 0 then V (414028 + 5 * q + (0 + 1)) else V (414028 + 5 * q + 0)) = (if W (414028 + (5 * q + 2)) = 0 then V (414028 + (5 * q + 1)) else V (414028 + 5 * q))
  rw [Nat.zero_add 2, Nat.zero_add 1, Nat.add_zero (414028 + 5 * q), Nat.add_assoc 414028 (5 * q) 2, Nat.add_assoc 414028 (5 * q) 1]
def LDN (m c : Int32) (f : Nat → Int32) : Nat → Nat → Int32
  | 0 => f
  | n + 1 => LDF m c (LDN m c f n) (5 * n)
theorem LDN_c {m c : Int32} {f f' : Nat → Int32} (h : ∀ k, k < 100 → f k = f' k) : ∀ n, n ≤ 20 → ∀ j, j < 100 → LDN m c f n j = LDN m c f' n j := by
  intro n
  induction n with
  | zero => intro _ j hj; exact h j hj
  | succ n ih =>
    intro hn j hj
    show LDF m c (LDN m c f n) (5 * n) j = LDF m c (LDN m c f' n) (5 * n) j
    exact LDF_c (ih (by omega)) (by omega) hj
theorem LDN_s {m c : Int32} {f g h : Nat → Int32} {m' c' : Int32} {n : Nat} (hg : ∀ j, g j = LDN m c f n j) (hm : m' = m) (hc : c' = c) (hh : ∀ j, h j = LDF m' c' g (5 * n) j) : ∀ j, h j = LDN m c f (n + 1) j := by
  intro j
  rw [hh j, hm, hc, show g = LDN m c f n from funext hg]
  rfl
/-- form -/
def FMU (m c : Int32) (f g : Nat → Int32) (m0 c0 m1 c1 r : Int32) : Prop := (r ≠ 0 ∧ (∀ j, g j = f j) ∧ m1 = m0 ∧ c1 = c0) ∨ (r = 0 ∧ m1 = m ∧ c1 = c ∧ ∀ j, g j = LDN m c f 20 j)
theorem FMU.two {m c : Int32} {f g f' g' : Nat → Int32} {m0 c0 m1 c1 r m0' c0' m1' c1' r' : Int32} (h1 : FMU m c f g m0 c0 m1 c1 r) (h2 : FMU m c f' g' m0' c0' m1' c1' r') (hr : r = r') (h : ∀ k, k < 100 → f k = f' k) (hm : m0 = m0') (hc : c0 = c0') : (∀ k, k < 100 → g k = g' k) ∧ m1 = m1' ∧ c1 = c1' := by
  rcases h1 with ⟨a1, a2, a3, a4⟩ | ⟨a1, a2, a3, a4⟩ <;> rcases h2 with ⟨b1, b2, b3, b4⟩ | ⟨b1, b2, b3, b4⟩
  · exact ⟨fun k hk => by rw [a2, b2]; exact h k hk, by rw [a3, b3, hm], by rw [a4, b4, hc]⟩
  · exact absurd (hr.trans b1) a1
  · exact absurd (hr.symm.trans a1) b1
  · exact ⟨fun k hk => by rw [a4, b4]; exact LDN_c h 20 (Nat.le_refl _) k hk, a2.trans b2.symm, a3.trans b3.symm⟩
/-- lead -/
def LEU (m c : Int32) (f g : Nat → Int32) (i r : Int32) : Prop := ((i.toInt < 0 ∨ 19 < i.toInt) ∧ r = -2000000000 ∧ ∀ j, g j = f j) ∨ ∃ a, a < 20 ∧ i = nI a ∧ (∀ j, g j = LDF m c f (5 * a) j) ∧ r = LDR f g (5 * a)
theorem LEU.both {m c m' c' : Int32} {f g f' g' : Nat → Int32} {i r q : Int32} (h1 : LEU m c f g i r) (h2 : LEU m' c' f' g' i q) (h : ∀ k, k < 100 → f k = f' k) (hm : m = m') (hc : c = c') : r = q ∧ ∀ k, k < 100 → g k = g' k := by
  subst hm
  subst hc
  rcases h1 with ⟨a1, a2, a3⟩ | ⟨a, a1, a2, a3, a4⟩ <;> rcases h2 with ⟨b1, b2, b3⟩ | ⟨b, b1, b2, b3, b4⟩
  · exact ⟨a2.trans b2.symm, fun k hk => by rw [a3, b3]; exact h k hk⟩
  · exfalso
    have e : i.toInt = (b : Int) := by rw [b2]; exact tnI b (by omega)
    omega
  · exfalso
    have e : i.toInt = (a : Int) := by rw [a2]; exact tnI a (by omega)
    omega
  · have e : a = b := nI_inj (by omega) (by omega) (a2.symm.trans b2)
    subst e
    have hg : ∀ k, k < 100 → g k = g' k := fun k hk => by rw [a3, b3]; exact LDF_c h a1 hk
    exact ⟨by rw [a4, b4]; exact LDR_c h hg a1, hg⟩
/-- put -/
def PTF (f : Nat → Int32) (b d : Nat) (v : Int32) (j : Nat) : Int32 := if j = b + 3 then (if f (b + 2) = nI d then f (b + 3) + 1 else 1) else if j = b + 2 then nI d else if j = b + d then v else f j
theorem PTF_a {f g : Nat → Int32} {b d : Nat} {v : Int32} (h3 : (f (b + 2) = nI d ∧ g (b + 3) = f (b + 3) + 1) ∨ (¬ f (b + 2) = nI d ∧ g (b + 3) = 1)) (h2 : g (b + 2) = nI d) (hd : g (b + d) = v) (ho : ∀ j, j ≠ b + 3 → j ≠ b + 2 → j ≠ b + d → g j = f j) : ∀ j, g j = PTF f b d v j := by
  intro j
  unfold PTF
  by_cases e3 : j = b + 3
  · rw [if_pos e3, e3]
    rcases h3 with ⟨a1, a2⟩ | ⟨a1, a2⟩
    · rw [if_pos a1]; exact a2
    · rw [if_neg a1]; exact a2
  rw [if_neg e3]
  by_cases e2 : j = b + 2
  · rw [if_pos e2, e2]; exact h2
  rw [if_neg e2]
  by_cases e1 : j = b + d
  · rw [if_pos e1, e1]; exact hd
  rw [if_neg e1]
  exact ho j e3 e2 e1
/-- a ROW of the reference that is put, told by its place -/
theorem PTZ {W V : Nat → Int32} {q d : Nat} {v : Int32} (h3 : (W (414028 + 5 * q + 2) = nI d ∧ V (414028 + 5 * q + 3) = W (414028 + 5 * q + 3) + 1) ∨ (¬ W (414028 + 5 * q + 2) = nI d ∧ V (414028 + 5 * q + 3) = 1)) (h2 : V (414028 + 5 * q + 2) = nI d) (hd : V (414028 + 5 * q + d) = v) (ho : ∀ x, x ≠ 414028 + 5 * q + 3 → x ≠ 414028 + 5 * q + 2 → x ≠ 414028 + 5 * q + d → V x = W x) : ∀ j, V (414028 + j) = PTF (fun j => W (414028 + j)) (5 * q) d v j := by
  refine PTF_a (f := fun j => W (414028 + j)) (g := fun j => V (414028 + j)) (b := 5 * q) (d := d) (v := v) ?_ ?_ ?_ ?_
  · show (W (414028 + (5 * q + 2)) = nI d ∧ V (414028 + (5 * q + 3)) = W (414028 + (5 * q + 3)) + 1) ∨ (¬ W (414028 + (5 * q + 2)) = nI d ∧ V (414028 + (5 * q + 3)) = 1)
    rw [← Nat.add_assoc, ← Nat.add_assoc]
    exact h3
  · show V (414028 + (5 * q + 2)) = nI d
    rw [← Nat.add_assoc]
    exact h2
  · show V (414028 + (5 * q + d)) = v
    rw [← Nat.add_assoc]
    exact hd
  · intro j j1 j2 j3
    exact ho (414028 + j) (by omega) (by omega) (by omega)
def PTU (f g : Nat → Int32) (i s v r : Int32) : Prop := ((i.toInt < 0 ∨ 19 < i.toInt ∨ s.toInt < 0 ∨ 1 < s.toInt ∨ v.toInt < -9999 ∨ 9999 < v.toInt) ∧ r = -2 ∧ ∀ j, g j = f j) ∨ ∃ a d, a < 20 ∧ d < 2 ∧ i = nI a ∧ s = nI d ∧ -9999 ≤ v.toInt ∧ v.toInt ≤ 9999 ∧ (∀ j, g j = PTF f (5 * a) d v j) ∧ r = g (5 * a + 3)
theorem PTU.both {f g f' g' : Nat → Int32} {i s v r q : Int32} (h1 : PTU f g i s v r) (h2 : PTU f' g' i s v q) (h : ∀ k, k < 100 → f k = f' k) : r = q ∧ ∀ k, k < 100 → g k = g' k := by
  rcases h1 with ⟨a1, a2, a3⟩ | ⟨a, d, a1, a2, a3, a4, a5, a6, a7, a8⟩ <;> rcases h2 with ⟨b1, b2, b3⟩ | ⟨b, e, b1, b2, b3, b4, b5, b6, b7, b8⟩
  · exact ⟨a2.trans b2.symm, fun k hk => by rw [a3, b3]; exact h k hk⟩
  · exfalso
    have e1 : i.toInt = (b : Int) := by rw [b3]; exact tnI b (by omega)
    have e2 : s.toInt = (e : Int) := by rw [b4]; exact tnI e (by omega)
    omega
  · exfalso
    have e1 : i.toInt = (a : Int) := by rw [a3]; exact tnI a (by omega)
    have e2 : s.toInt = (d : Int) := by rw [a4]; exact tnI d (by omega)
    omega
  · have ea : a = b := nI_inj (by omega) (by omega) (a3.symm.trans b3)
    have ed : d = e := nI_inj (by omega) (by omega) (a4.symm.trans b4)
    subst ea
    subst ed
    have hg : ∀ k, k < 100 → g k = g' k := fun k hk => by
      rw [a7, b7]
      unfold PTF
      rw [h (5 * a + 2) (by omega), h (5 * a + 3) (by omega), h k hk]
    exact ⟨by rw [a8, b8]; exact hg _ (by omega), hg⟩
/-- row -/
def ROQ (f : Nat → Int32) (i w r : Int32) : Prop := ((i.toInt < 0 ∨ 19 < i.toInt ∨ w.toInt < 0 ∨ 4 < w.toInt) ∧ r = -2000000000) ∨ ∃ a b, a < 20 ∧ b < 5 ∧ i = nI a ∧ w = nI b ∧ r = f (5 * a + b)
theorem ROQ.one {f f' : Nat → Int32} {i w r q : Int32} (h1 : ROQ f i w r) (h2 : ROQ f' i w q) (h : ∀ k, k < 100 → f k = f' k) : r = q := by
  rcases h1 with ⟨a1, a2⟩ | ⟨a, d, a1, a2, a3, a4, a5⟩ <;> rcases h2 with ⟨b1, b2⟩ | ⟨b, e, b1, b2, b3, b4, b5⟩
  · exact a2.trans b2.symm
  · exfalso
    have e1 : i.toInt = (b : Int) := by rw [b3]; exact tnI b (by omega)
    have e2 : w.toInt = (e : Int) := by rw [b4]; exact tnI e (by omega)
    omega
  · exfalso
    have e1 : i.toInt = (a : Int) := by rw [a3]; exact tnI a (by omega)
    have e2 : w.toInt = (d : Int) := by rw [a4]; exact tnI d (by omega)
    omega
  · have ea : a = b := nI_inj (by omega) (by omega) (a3.symm.trans b3)
    have ed : d = e := nI_inj (by omega) (by omega) (a4.symm.trans b4)
    subst ea
    subst ed
    rw [a5, b5]
    exact h _ (by omega)
/-- check -/
def NBH (f : Nat → Int32) : Nat → Nat
  | 0 => 0
  | n + 1 => NBH f n + (if 0 < (f (5 * n + 3)).toInt then 1 else 0)
def AGR (m c : Int32) (f : Nat → Int32) (n : Nat) : Prop := ∀ i, i < n → f (5 * i + 1) = m * f (5 * i) + c
def CKQ (m c : Int32) (f : Nat → Int32) (r : Int32) : Prop := (0 < NBH f 20 ∧ r = nI (NBH f 20)) ∨ (NBH f 20 = 0 ∧ AGR m c f 20 ∧ r = -1) ∨ (NBH f 20 = 0 ∧ ¬ AGR m c f 20 ∧ r = -3)
theorem NBH_c {f f' : Nat → Int32} (h : ∀ k, k < 100 → f k = f' k) : ∀ n, n ≤ 20 → NBH f n = NBH f' n := by
  intro n
  induction n with
  | zero => intro _; rfl
  | succ n ih =>
    intro hn
    show NBH f n + (if 0 < (f (5 * n + 3)).toInt then 1 else 0) = NBH f' n + (if 0 < (f' (5 * n + 3)).toInt then 1 else 0)
    rw [ih (by omega), h (5 * n + 3) (by omega)]
theorem AGR_c {m c : Int32} {f f' : Nat → Int32} (h : ∀ k, k < 100 → f k = f' k) : AGR m c f 20 ↔ AGR m c f' 20 := by
  unfold AGR
  constructor
  · intro h1 i hi
    rw [← h (5 * i + 1) (by omega), ← h (5 * i) (by omega)]
    exact h1 i hi
  · intro h1 i hi
    rw [h (5 * i + 1) (by omega), h (5 * i) (by omega)]
    exact h1 i hi
theorem CKQ.one {m c m' c' : Int32} {f f' : Nat → Int32} {r q : Int32} (h1 : CKQ m c f r) (h2 : CKQ m' c' f' q) (h : ∀ k, k < 100 → f k = f' k) (hm : m = m') (hc : c = c') : r = q := by
  subst hm
  subst hc
  have e1 := NBH_c h 20 (Nat.le_refl _)
  have e2 := AGR_c (m := m) (c := c) h
  unfold CKQ at h1 h2
  rw [e1, e2] at h1
  rcases h1 with ⟨a1, a2⟩ | ⟨a1, a2, a3⟩ | ⟨a1, a2, a3⟩ <;> rcases h2 with ⟨b1, b2⟩ | ⟨b1, b2, b3⟩ | ⟨b1, b2, b3⟩
  · rw [a2, b2]
  · omega
  · omega
  · omega
  · rw [a3, b3]
  · exact absurd a2 b2
  · omega
  · exact absurd b2 a2
  · rw [a3, b3]
def CHI (m c : Int32) (f : Nat → Int32) (n nb ag : Nat) : Prop := nb = NBH f n ∧ ((ag = 1 ∧ AGR m c f n) ∨ (ag = 0 ∧ ¬ AGR m c f n))
theorem CHI_0 {m c : Int32} {f : Nat → Int32} : CHI m c f 0 0 1 := ⟨rfl, Or.inl ⟨rfl, fun i hi => absurd hi (Nat.not_lt_zero i)⟩⟩
theorem CHI.s {m c : Int32} {f : Nat → Int32} {n nb ag nb' ag' : Nat} (h : CHI m c f n nb ag) (h1 : (0 < (f (5 * n + 3)).toInt ∧ nb' = nb + 1) ∨ (¬ 0 < (f (5 * n + 3)).toInt ∧ nb' = nb)) (h2 : (ag = 1 ∧ f (5 * n + 1) = m * f (5 * n) + c ∧ ag' = 1) ∨ ((ag = 0 ∨ ¬ f (5 * n + 1) = m * f (5 * n) + c) ∧ ag' = 0)) : CHI m c f (n + 1) nb' ag' := by
  obtain ⟨a1, a2⟩ := h
  refine ⟨?_, ?_⟩
  · show nb' = NBH f n + (if 0 < (f (5 * n + 3)).toInt then 1 else 0)
    rcases h1 with ⟨b1, b2⟩ | ⟨b1, b2⟩
    · rw [if_pos b1, b2, a1]
    · rw [if_neg b1, b2, a1]; rfl
  · rcases h2 with ⟨b1, b2, b3⟩ | ⟨b1, b3⟩
    · refine Or.inl ⟨b3, fun i hi => ?_⟩
      rcases a2 with ⟨_, a2⟩ | ⟨a2, _⟩
      · by_cases e : i = n
        · rw [e]; exact b2
        · exact a2 i (by omega)
      · omega
    · refine Or.inr ⟨b3, fun hA => ?_⟩
      rcases b1 with b1 | b1
      · rcases a2 with ⟨a2, _⟩ | ⟨_, a2⟩
        · omega
        · exact a2 (fun i hi => hA i (by omega))
      · exact b1 (hA n (by omega))
theorem CHI.fin {m c : Int32} {f : Nat → Int32} {n nb ag : Nat} {r : Int32} (h : CHI m c f n nb ag) (hn : n = 20) (h1 : (0 < nb ∧ r = nI nb) ∨ (nb = 0 ∧ ag = 1 ∧ r = -1) ∨ (nb = 0 ∧ ag = 0 ∧ r = -3)) : CKQ m c f r := by
  subst hn
  obtain ⟨a1, a2⟩ := h
  unfold CKQ
  rw [← a1]
  rcases h1 with ⟨b1, b2⟩ | ⟨b1, b2, b3⟩ | ⟨b1, b2, b3⟩
  · exact Or.inl ⟨b1, b2⟩
  · rcases a2 with ⟨_, a2⟩ | ⟨a2, _⟩
    · exact Or.inr (Or.inl ⟨b1, a2, b3⟩)
    · omega
  · rcases a2 with ⟨a2, _⟩ | ⟨_, a2⟩
    · omega
    · exact Or.inr (Or.inr ⟨b1, a2, b3⟩)
theorem an1 {a : Nat} (h : a ≤ 1) : nI a &&& 1 = nI a := by
  have h2 : a = 0 ∨ a = 1 := by omega
  rcases h2 with rfl | rfl <;> decide
theorem an0 {a : Nat} (h : a ≤ 1) : nI a &&& 0 = 0 := by
  have h2 : a = 0 ∨ a = 1 := by omega
  rcases h2 with rfl | rfl <;> decide
/-- calls -/
def CLQ (f g : Nat → Int32) (p o v r : Int32) : Prop := ((p.toInt < 0 ∨ 7 < p.toInt ∨ o.toInt < 0 ∨ 7 < o.toInt ∨ p.toInt = o.toInt ∨ v.toInt < -1 ∨ 999 < v.toInt) ∧ r = -2 ∧ ∀ k, g k = f k) ∨ ∃ a b, a < 8 ∧ b < 8 ∧ p = nI a ∧ o = nI b ∧ a ≠ b ∧ -1 ≤ v.toInt ∧ v.toInt ≤ 999 ∧ r = f (8 * a + b) ∧ g (8 * a + b) = v ∧ ∀ k, k ≠ 8 * a + b → g k = f k
theorem CLQ.both {f g f' g' : Nat → Int32} {p o v r q : Int32} (h1 : CLQ f g p o v r) (h2 : CLQ f' g' p o v q) (h : ∀ k, k < 64 → f k = f' k) : r = q ∧ ∀ k, k < 64 → g k = g' k := by
  rcases h1 with ⟨a1, a2, a3⟩ | ⟨a, d, a1, a2, a3, a4, a5, a6, a7, a8, a9, a10⟩ <;> rcases h2 with ⟨b1, b2, b3⟩ | ⟨b, e, b1, b2, b3, b4, b5, b6, b7, b8, b9, b10⟩
  · exact ⟨a2.trans b2.symm, fun k hk => by rw [a3, b3]; exact h k hk⟩
  · exfalso
    have e1 : p.toInt = (b : Int) := by rw [b3]; exact tnI b (by omega)
    have e2 : o.toInt = (e : Int) := by rw [b4]; exact tnI e (by omega)
    omega
  · exfalso
    have e1 : p.toInt = (a : Int) := by rw [a3]; exact tnI a (by omega)
    have e2 : o.toInt = (d : Int) := by rw [a4]; exact tnI d (by omega)
    omega
  · have ea : a = b := nI_inj (by omega) (by omega) (a3.symm.trans b3)
    have ed : d = e := nI_inj (by omega) (by omega) (a4.symm.trans b4)
    subst ea
    subst ed
    refine ⟨by rw [a8, b8]; exact h _ (by omega), fun k hk => ?_⟩
    by_cases ek : k = 8 * a + d
    · rw [ek, a9, b9]
    · rw [a10 k ek, b10 k ek]; exact h k hk
/-- needs -/
def NDQ (n W : Nat → Int32) : Prop := ∀ p, p < 8 → ∀ q, q < 8 → (bt (nd n p) q = 1 ↔ W (413544 + 8 * p + q) = 1)
def LCM (W : Nat → Int32) (p a : Nat) : Prop := CL W p a ∧ ∀ b, b < 256 → CL W p b → sb a b
theorem NDQ.cl {n W : Nat → Int32} (h : NDQ n W) {p a : Nat} (hp : p < 8) : CLc n p a ↔ CL W p a := by
  constructor
  · intro h1 q hq h2
    refine h1 q hq ?_
    rcases h2 with h2 | ⟨r, hr, h3, h4⟩
    · exact Or.inl ((h q hq p hp).2 h2)
    · exact Or.inr ⟨r, hr, h3, (h q hq r hr).2 h4⟩
  · intro h1 q hq h2
    refine h1 q hq ?_
    rcases h2 with h2 | ⟨r, hr, h3, h4⟩
    · exact Or.inl ((h q hq p hp).1 h2)
    · exact Or.inr ⟨r, hr, h3, (h q hq r hr).1 h4⟩
theorem NDQ.least {n W : Nat → Int32} (h : NDQ n W) {p a b : Nat} (hp : p < 8) (ha : a < 256) (hb : b < 256) (h1 : LCL n p a) (h2 : LCM W p b) : a = b := by
  have h3 : sb a b := h1.2 b hb ((h.cl hp).2 h2.1)
  have h4 : sb b a := h2.2 a ha ((h.cl hp).1 h1.1)
  exact bt_eq ha hb (fun q hq => ⟨h3 q hq, h4 q hq⟩)
def NEc (n n' : Nat → Int32) (p o r : Int32) : Prop := ((p.toInt < 0 ∨ 7 < p.toInt ∨ o.toInt < 0 ∨ 7 < o.toInt) ∧ r = -2 ∧ ∀ q, n' q = n q) ∨ ∃ a b, a < 8 ∧ b < 8 ∧ p = nI a ∧ o = nI b ∧ ((a = b ∧ r = -5 ∧ ∀ q, n' q = n q) ∨ (a ≠ b ∧ ∃ s, s < 256 ∧ LCL n a s ∧ ((bt s b = 1 ∧ r = -5 ∧ ∀ q, n' q = n q) ∨ (¬ bt s b = 1 ∧ r = 0 ∧ (∃ z, z < 256 ∧ n a = nI z ∧ n' a = nI (z ||| p2 b)) ∧ ∀ q, q ≠ a → n' q = n q))))
def NEm (W W' : Nat → Int32) (p o r : Int32) : Prop := ((p.toInt < 0 ∨ 7 < p.toInt ∨ o.toInt < 0 ∨ 7 < o.toInt) ∧ r = -2 ∧ ∀ x, W' x = W x) ∨ ∃ a b, a < 8 ∧ b < 8 ∧ p = nI a ∧ o = nI b ∧ ((a = b ∧ r = -5 ∧ ∀ x, W' x = W x) ∨ (a ≠ b ∧ ∃ s, s < 256 ∧ LCM W a s ∧ ((bt s b = 1 ∧ r = -5 ∧ ∀ x, W' x = W x) ∨ (¬ bt s b = 1 ∧ r = 0 ∧ W' (413544 + 8 * a + b) = 1 ∧ ∀ x, x ≠ 413544 + 8 * a + b → W' x = W x))))
theorem NDQ.s {n n' W W' : Nat → Int32} (h : NDQ n W) (h1 : ∀ q, n' q = n q) (h2 : ∀ x, W' x = W x) : NDQ n' W' := by
  rw [show n' = n from funext h1, show W' = W from funext h2]
  exact h
theorem NEc.both {n n' W W' : Nat → Int32} {p o r q : Int32} (h1 : NEc n n' p o r) (h2 : NEm W W' p o q) (h : NDQ n W) : r = q ∧ NDQ n' W' := by
  rcases h1 with ⟨a1, a2, a3⟩ | ⟨a, d, a1, a2, a3, a4, a5⟩ <;> rcases h2 with ⟨b1, b2, b3⟩ | ⟨b, e, b1, b2, b3, b4, b5⟩
  · exact ⟨a2.trans b2.symm, h.s a3 b3⟩
  · exfalso
    have e1 : p.toInt = (b : Int) := by rw [b3]; exact tnI b (by omega)
    have e2 : o.toInt = (e : Int) := by rw [b4]; exact tnI e (by omega)
    omega
  · exfalso
    have e1 : p.toInt = (a : Int) := by rw [a3]; exact tnI a (by omega)
    have e2 : o.toInt = (d : Int) := by rw [a4]; exact tnI d (by omega)
    omega
  · have ea : a = b := nI_inj (by omega) (by omega) (a3.symm.trans b3)
    have ed : d = e := nI_inj (by omega) (by omega) (a4.symm.trans b4)
    subst ea
    subst ed
    rcases a5 with ⟨x1, x2, x3⟩ | ⟨x1, s, x2, x3, x4⟩ <;> rcases b5 with ⟨y1, y2, y3⟩ | ⟨y1, t, y2, y3, y4⟩
    · exact ⟨x2.trans y2.symm, h.s x3 y3⟩
    · exact absurd x1 y1
    · exact absurd y1 x1
    · have es : s = t := h.least a1 x2 y2 x3 y3
      subst es
      rcases x4 with ⟨u1, u2, u3⟩ | ⟨u1, u2, ⟨z, z1, z2, z3⟩, u4⟩ <;> rcases y4 with ⟨w1, w2, w3⟩ | ⟨w1, w2, w3, w4⟩
      · exact ⟨u2.trans w2.symm, h.s u3 w3⟩
      · exact absurd u1 w1
      · exact absurd w1 u1
      · refine ⟨u2.trans w2.symm, fun x hx y hy => ?_⟩
        by_cases ex : x = a
        · subst ex
          rw [show nd n' x = z ||| p2 d from nd_e z3 (by have := or_lt z1 (p2_lt a2); omega), bt_or, bt_p d a2 y hy]
          have h5 := h x hx y hy
          rw [show nd n x = z from nd_e z2 (by omega)] at h5
          by_cases ey : d = y
          · subst ey
            exact ⟨fun _ => w3, fun _ => Or.inr rfl⟩
          · rw [w4 _ (by omega), ← h5]
            exact ⟨fun h6 => h6.resolve_right ey, Or.inl⟩
        · rw [show nd n' x = nd n x from by unfold nd; rw [u4 x ex], w4 _ (by omega)]
          exact h x hx y hy
