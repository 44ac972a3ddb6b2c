set_option maxRecDepth 100000
def tF (k : Nat) (x : Int) : Prop := if k = 5 then 0 ≤ x ∧ x ≤ 600 else if k = 7 then 0 ≤ x ∧ x ≤ 600 else if k = 8 then 0 ≤ x ∧ x ≤ 600 else if k = 9 then 0 ≤ x ∧ x ≤ 600 else if k = 19 then 0 ≤ x ∧ x ≤ 1 else if k = 23 then 0 ≤ x ∧ x ≤ 100 else if k = 25 then -1 ≤ x ∧ x ≤ 39 else if k = 33 then 0 ≤ x ∧ x ≤ 200 else if k = 41 then 0 ≤ x ∧ x ≤ 200 else if k = 42 then 0 ≤ x ∧ x ≤ 8 else if k = 49 then 0 ≤ x ∧ x ≤ 8 else True
def wTy (j : Nat) (x : Int) : Prop := if j = 2 then 0 ≤ x ∧ x ≤ 60 else if j = 3 then 1 ≤ x ∧ x ≤ 9 else if 8 ≤ j ∧ j < 168 then (if j % 20 = 9 then -1 ≤ x ∧ x ≤ 24 else if j % 20 = 10 then -1 ≤ x ∧ x ≤ 40 else True)
  else if 168 ≤ j ∧ j < 3240 then (if j % 16 = 10 then 0 ≤ x ∧ x ≤ 7 else True)
  else if 3240 ≤ j ∧ j < 3880 then (if j % 2 = 0 then 0 ≤ x ∧ x ≤ 100 else 0 ≤ x ∧ x ≤ 8)
  else if 387880 ≤ j ∧ j < 413480 then (if j % 10 = 0 then 0 ≤ x ∧ x ≤ 7 else True) else if 413480 ≤ j ∧ j < 413544 then -1 ≤ x ∧ x ≤ 999 else True
def tyM (c k : Nat) (x : Int) : Prop := match c with
  | 0 => tF k x
  | 1 => wTy k x
  | 2 => if k % 414128 = 3 then 0 ≤ x ∧ x ≤ 9 else wTy (k % 414128) x
  | 3 => 0 ≤ x ∧ x ≤ 1
  | 13 => 0 ≤ x ∧ x ≤ 23
  | 17 => 0 ≤ x ∧ x ≤ 100
  | 18 => 0 ≤ x ∧ x ≤ 23
  | 22 => 0 ≤ x ∧ x ≤ 100
  | 27 => 0 ≤ x ∧ x ≤ 7
  | 30 => 0 ≤ x ∧ x ≤ 1
  | 33 => -1 ≤ x ∧ x ≤ 60
  | 7 => if k % 16 = 2 then 0 ≤ x ∧ x ≤ 7 else True
  | 8 => if k % 2 = 0 then 0 ≤ x ∧ x ≤ 4 else 0 ≤ x ∧ x ≤ 8
  | 10 => if k % 10 = 0 then 0 ≤ x ∧ x ≤ 7 else True
  | _ => True
def TM (σ : Sg) : Prop := ∀ c k, tyM c k (σ.1 c k).toInt
theorem TM.w {σ : Sg} {c k : Nat} {v : Int32} (h : TM σ) (ht : tyM c k v.toInt) : TM (sI σ c k v) := by
  intro a b
  by_cases e : a = c ∧ b = k
  · obtain ⟨rfl, rfl⟩ := e
    rw [rd_s]
    exact ht
  · rw [rd_n (by omega)]
    exact h a b
def KR (k : Nat) : Prop := k = 3 ∨ k = 4 ∨ (413480 ≤ k ∧ k < 413608) ∨ 414028 ≤ k
def fr (b : Bool) (S F : List Nat) (σ τ : Sg) : Prop := (∀ c, c ≠ 0 → c ∉ S → τ.1 c = σ.1 c) ∧ (∀ k, k ∉ F → τ.1 0 k = σ.1 0 k) ∧ τ.2.2 = σ.2.2 ∧ (b = true → ∀ k, KR k → τ.1 1 k = σ.1 1 k)
theorem fr.refl {b : Bool} {S F : List Nat} {σ : Sg} : fr b S F σ σ := ⟨fun _ _ _ => rfl, fun _ _ => rfl, rfl, fun _ _ _ => rfl⟩
theorem fr.w {b : Bool} {S F : List Nat} {σ τ : Sg} {c k : Nat} {v : Int32} (h : fr b S F σ τ) (hc : (c ≠ 0 ∧ c ∈ S) ∨ (c = 0 ∧ k ∈ F)) (hk : b = true → c = 1 → ¬ KR k) : fr b S F σ (sI τ c k v) := by
  refine ⟨fun a ha hs => ?_, fun b hb => ?_, h.2.2.1, fun hb j hj => ?_⟩
  · have hne : a ≠ c := by
      rintro rfl
      rcases hc with ⟨-, h2⟩ | ⟨h2, -⟩
      · exact hs h2
      · exact ha h2
    rw [sI_o hne]
    exact h.1 a ha hs
  · have hne : 0 ≠ c ∨ b ≠ k := by
      rcases hc with ⟨h2, -⟩ | ⟨-, h2⟩
      · exact Or.inl (Ne.symm h2)
      · exact Or.inr (fun e => hb (e ▸ h2))
    rw [rd_n hne]
    exact h.2.1 b hb
  · have hne : 1 ≠ c ∨ j ≠ k := by
      by_cases e : 1 = c
      · exact Or.inr (fun e2 => hk hb e.symm (e2 ▸ hj))
      · exact Or.inl e
    rw [rd_n hne]
    exact h.2.2.2 hb j hj
theorem fr.l {b : Bool} {S F : List Nat} {σ τ : Sg} {c k : Nat} {v : Int64} (h : fr b S F σ τ) : fr b S F σ (sL τ c k v) := h
theorem fr.t {b b' : Bool} {S F S' F' : List Nat} {σ τ ρ : Sg} (h : fr b S F σ τ) (h2 : fr b' S' F' τ ρ) (hs : ∀ c ∈ S', c ∈ S) (hf : ∀ k ∈ F', k ∈ F) (hbb : b = true → b' = true) : fr b S F σ ρ :=
  ⟨fun c h0 hc => (h2.1 c h0 (fun q => hc (hs c q))).trans (h.1 c h0 hc), fun k hk => (h2.2.1 k (fun q => hk (hf k q))).trans (h.2.1 k hk), h2.2.2.1.trans h.2.2.1, fun hb k hk => (h2.2.2.2 (hbb hb) k hk).trans (h.2.2.2 hb k hk)⟩
theorem rngN {x : Int32} {h : Nat} (hx : 0 ≤ x.toInt ∧ x.toInt ≤ (h : Int)) : ∃ n, n ≤ h ∧ x = nI n := by
  obtain ⟨n, h1, h2⟩ := to_nat (x := x) (n := h + 1) ⟨hx.1, by omega⟩
  exact ⟨n, by omega, h2⟩
theorem wTy_n {p : Nat} (hp : p < 8) {x : Int} (h : wTy (8 + 20 * p + 1) x) : -1 ≤ x ∧ x ≤ 24 := by
  unfold wTy at h
  rw [if_neg (by omega), if_neg (by omega), if_pos (by omega), if_pos (by omega)] at h
  exact h
theorem wTy_c {p : Nat} (hp : p < 8) {x : Int} (h : wTy (8 + 20 * p + 2) x) : -1 ≤ x ∧ x ≤ 40 := by
  unfold wTy at h
  rw [if_neg (by omega), if_neg (by omega), if_pos (by omega), if_neg (by omega), if_pos (by omega)] at h
  exact h
theorem stl4 : ∀ w, w < 7 → stL.getD w 0 ≤ 4 := by decide
theorem sub97 {x : Int32} (h : 97 ≤ x.toInt) (h2 : x.toInt ≤ 104) : (x - 97).toInt = x.toInt - 97 := by
  rw [Int32.toInt_sub, tl32 97 (by decide), Int.bmod_eq_of_le] <;> omega
theorem seeR (x : Int32) : -1 ≤ (x &&& 255).toInt ∧ (x &&& 255).toInt ≤ 255 := by
  obtain ⟨j, hj, e⟩ := pk_andE x (m := 255) 8 (by decide)
  rw [e, tnI j (by omega)]
  omega
theorem i32b (x : Int32) : -2147483648 ≤ x.toInt ∧ x.toInt ≤ 2147483647 := ⟨Int32.le_toInt x, by have := Int32.toInt_lt x; omega⟩
theorem nI_sub {a b : Nat} (h : b ≤ a) : nI a - nI b = nI (a - b) := by
  have e := nI_add (a - b) b
  rw [Nat.sub_add_cancel h] at e
  rw [← e, Int32.add_sub_cancel]
theorem ty_fl {j : Nat} {v : Int} (h : j % 16 ≠ 2) : tyM 7 j v := by
  show (if j % 16 = 2 then 0 ≤ v ∧ v ≤ 7 else True)
  rw [if_neg h]
  trivial
theorem ty_lw {p i : Nat} {v : Int} (hp : p < 8) (hi : i < 384) (h : tyM 7 (0 + i) v) : tyM 1 (168 + 16 * (24 * p + 0) + i) v := by
  have h : (if (0 + i) % 16 = 2 then 0 ≤ v ∧ v ≤ 7 else True) := h
  show wTy (168 + 16 * (24 * p + 0) + i) v
  unfold wTy
  rw [if_neg (by omega), if_neg (by omega), if_neg (by omega), if_pos (by omega)]
  by_cases e : i % 16 = 2
  · rw [if_pos (by omega)] at h ⊢
    exact h
  · rw [if_neg (by omega)]
    trivial
theorem ty_fc0 {j : Nat} {v : Int} (hj : j % 2 = 0) (h : tyM 8 j v) : 0 ≤ v ∧ v ≤ 4 := by
  have h : (if j % 2 = 0 then 0 ≤ v ∧ v ≤ 4 else 0 ≤ v ∧ v ≤ 8) := h
  rw [if_pos hj] at h
  exact h
theorem ty_fc1 {j : Nat} {v : Int} (hj : j % 2 = 1) (h : tyM 8 j v) : 0 ≤ v ∧ v ≤ 8 := by
  have h : (if j % 2 = 0 then 0 ≤ v ∧ v ≤ 4 else 0 ≤ v ∧ v ≤ 8) := h
  rw [if_neg (by omega)] at h
  exact h
theorem ty_fp {j : Nat} {v : Int} (hj : j % 10 = 0) (h : tyM 10 j v) : 0 ≤ v ∧ v ≤ 7 := by
  have h : (if j % 10 = 0 then 0 ≤ v ∧ v ≤ 7 else True) := h
  rw [if_pos hj] at h
  exact h
theorem ty_fpn {j : Nat} {v : Int} (hj : j % 10 ≠ 0) : tyM 10 j v := by
  show (if j % 10 = 0 then 0 ≤ v ∧ v ≤ 7 else True)
  rw [if_neg hj]
  trivial
theorem ty_cw {p cs i : Nat} {v : Int} (hp : p < 8) (hc : cs < 40) (hi : i < 2) (h : tyM 8 (2 * cs + i) v) : tyM 1 (3240 + 2 * (40 * p + cs) + i) v := by
  have h : (if (2 * cs + i) % 2 = 0 then 0 ≤ v ∧ v ≤ 4 else 0 ≤ v ∧ v ≤ 8) := h
  show wTy (3240 + 2 * (40 * p + cs) + i) v
  unfold wTy
  rw [if_neg (by omega), if_neg (by omega), if_neg (by omega), if_neg (by omega), if_pos (by omega)]
  by_cases e : i = 0
  · rw [if_pos (by omega)] at h ⊢
    omega
  · rw [if_neg (by omega)] at h ⊢
    exact h
theorem ty_tw {j : Nat} {v : Int} (h1 : 3880 ≤ j) (h2 : j < 387880) : tyM 1 j v := by
  show wTy j v
  unfold wTy
  rw [if_neg (by omega), if_neg (by omega), if_neg (by omega), if_neg (by omega), if_neg (by omega), if_neg (by omega), if_neg (by omega)]
  trivial
theorem ty_pw {p cs i : Nat} {v : Int} (hp : p < 8) (hc : cs < 40) (hi : i < 80) (h : tyM 10 (80 * cs + i) v) : tyM 1 (387880 + 10 * (8 * (40 * p + cs) + 0) + i) v := by
  have h : (if (80 * cs + i) % 10 = 0 then 0 ≤ v ∧ v ≤ 7 else True) := h
  show wTy (387880 + 10 * (8 * (40 * p + cs) + 0) + i) v
  unfold wTy
  rw [if_neg (by omega), if_neg (by omega), if_neg (by omega), if_neg (by omega), if_neg (by omega), if_pos (by omega)]
  by_cases e : i % 10 = 0
  · rw [if_pos (by omega)] at h ⊢
    exact h
  · rw [if_neg (by omega)]
    trivial
theorem wTy_l {p l : Nat} (hp : p < 8) (hl : l < 24) {x : Int} (h : wTy (168 + 16 * (24 * p + l) + 2) x) : 0 ≤ x ∧ x ≤ 7 := by
  unfold wTy at h
  rw [if_neg (by omega), if_neg (by omega), if_neg (by omega), if_pos (by omega), if_pos (by omega)] at h
  exact h
theorem wTy_t {p c : Nat} (hp : p < 8) (hc : c < 40) {x : Int} (h : wTy (3240 + 2 * (40 * p + c)) x) : 0 ≤ x ∧ x ≤ 100 := by
  unfold wTy at h
  rw [if_neg (by omega), if_neg (by omega), if_neg (by omega), if_neg (by omega), if_pos (by omega), if_pos (by omega)] at h
  exact h
theorem wTy_p {p c : Nat} (hp : p < 8) (hc : c < 40) {x : Int} (h : wTy (3240 + 2 * (40 * p + c) + 1) x) : 0 ≤ x ∧ x ≤ 8 := by
  unfold wTy at h
  rw [if_neg (by omega), if_neg (by omega), if_neg (by omega), if_neg (by omega), if_pos (by omega), if_neg (by omega)] at h
  exact h
theorem wTy_f {p c j : Nat} (hp : p < 8) (hc : c < 40) (hj : j < 8) {x : Int} (h : wTy (387880 + 10 * (8 * (40 * p + c) + j)) x) : 0 ≤ x ∧ x ≤ 7 := by
  unfold wTy at h
  rw [if_neg (by omega), if_neg (by omega), if_neg (by omega), if_neg (by omega), if_neg (by omega), if_pos (by omega), if_pos (by omega)] at h
  exact h
theorem wTy_k {k : Nat} (h1 : 413480 ≤ k) (h2 : k < 413544) {x : Int} (h : wTy k x) : -1 ≤ x ∧ x ≤ 999 := by
  unfold wTy at h
  rw [if_neg (by omega), if_neg (by omega), if_neg (by omega), if_neg (by omega), if_neg (by omega), if_neg (by omega), if_pos (by omega)] at h
  exact h
theorem pigeon : ∀ (n : Nat) (f : Nat → Nat), (∀ i, i ≤ n → f i < n) → ∃ i j, i < j ∧ j ≤ n ∧ f i = f j := by
  intro n
  induction n with
  | zero => intro f h; exact absurd (h 0 (Nat.le_refl 0)) (Nat.not_lt_zero _)
  | succ n ih =>
    intro f h
    by_cases e : ∃ i, i ≤ n ∧ f i = f (n + 1)
    · obtain ⟨i, h1, h2⟩ := e
      exact ⟨i, n + 1, by omega, Nat.le_refl _, h2⟩
    · have e' : ∀ i, i ≤ n → f i ≠ f (n + 1) := fun i hi q => e ⟨i, hi, q⟩
      have hv := h (n + 1) (Nat.le_refl _)
      obtain ⟨i, j, h1, h2, h3⟩ := ih (fun i => if f i = n then f (n + 1) else f i) (fun i hi => by
        have a := h i (by omega)
        have b := e' i hi
        show (if f i = n then f (n + 1) else f i) < n
        split <;> omega)
      have a := e' i (by omega)
      have b := e' j h2
      have h3 : (if f i = n then f (n + 1) else f i) = (if f j = n then f (n + 1) else f j) := h3
      refine ⟨i, j, h1, by omega, ?_⟩
      split at h3 <;> split at h3 <;> omega
def PD (σ : Sg) (cs n : Nat) : Prop := n ≤ 8 ∧ σ.1 8 (2 * cs + 1) = nI n ∧ ∀ i j, i < j → j < n → ¬ σ.1 10 (10 * (8 * cs + i)) = σ.1 10 (10 * (8 * cs + j))
theorem PD_0 {σ : Sg} {cs : Nat} (h : σ.1 8 (2 * cs + 1) = nI 0) : PD σ cs 0 := ⟨by omega, h, fun _ j _ hj => absurd hj (Nat.not_lt_zero j)⟩
theorem PD_lt {σ : Sg} {cs n f : Nat} (hT : TM σ) (hcs : cs ≤ 11) (h : PD σ cs n) (hf : f < 8) (hn : ∀ j, j < n → ¬ σ.1 10 (10 * (8 * cs + j)) = nI f) : n < 8 := by
  refine Nat.lt_of_le_of_ne h.1 (fun e => ?_)
  subst e
  have hr : ∀ j, ∃ m, m ≤ 7 ∧ σ.1 10 (10 * (8 * cs + j)) = nI m := fun j => rngN (h := 7) (ty_fp (by omega) (hT 10 _))
  let g : Nat → Nat := fun j => (σ.1 10 (10 * (8 * cs + j))).toInt.toNat
  have hg : ∀ j, g j < 8 ∧ σ.1 10 (10 * (8 * cs + j)) = nI (g j) := by
    intro j
    obtain ⟨m, h1, h2⟩ := hr j
    have e : g j = m := by
      show (σ.1 10 (10 * (8 * cs + j))).toInt.toNat = m
      rw [h2, tnI m (by omega)]
      exact Int.toNat_natCast m
    rw [e]
    exact ⟨by omega, h2⟩
  obtain ⟨i, j, h1, h2, h3⟩ := pigeon 8 (fun j => if j < 8 then g j else f) (fun i _ => by
    show (if i < 8 then g i else f) < 8
    split
    · exact (hg i).1
    · exact hf)
  have h3 : (if i < 8 then g i else f) = (if j < 8 then g j else f) := h3
  rw [if_pos (by omega)] at h3
  by_cases e : j < 8
  · rw [if_pos e] at h3
    exact h.2.2 i j h1 e ((hg i).2.trans (by rw [h3]; exact (hg j).2.symm))
  · rw [if_neg e] at h3
    exact hn i (by omega) (h3 ▸ (hg i).2)
theorem PD_add {σ τ : Sg} {cs n f : Nat} (h : PD σ cs n) (hn : n < 8) (h1 : ∀ x, x < n → τ.1 10 (10 * (8 * cs + x)) = σ.1 10 (10 * (8 * cs + x))) (h2 : τ.1 10 (10 * (8 * cs + n)) = nI f) (h3 : τ.1 8 (2 * cs + 1) = nI (n + 1)) (hne : ∀ j, j < n → ¬ σ.1 10 (10 * (8 * cs + j)) = nI f) : PD τ cs (n + 1) := by
  refine ⟨by omega, h3, fun i j hij hj => ?_⟩
  by_cases e : j = n
  · subst e
    rw [h1 i hij, h2]
    exact hne i hij
  · rw [h1 i (by omega), h1 j (by omega)]
    exact h.2.2 i j hij (by omega)
theorem mx0 (y : Int32) : 0 ≤ (if (0 : Int32).toInt < y.toInt then y else 0).toInt ∧ (if (0 : Int32).toInt < y.toInt then y else 0).toInt ≤ ((2147483647 : Nat) : Int) := by
  have h0 : (0 : Int32).toInt = 0 := by decide
  have := i32b y
  rw [h0]
  split
  · omega
  · rw [h0]; omega
theorem ndown {q : Int32} {j : Nat} (h : q = nI j + (-1)) (hj : j ≤ 8) (hc : ¬ q < 0) : ∃ i, j = i + 1 ∧ q = nI i := by
  cases j with
  | zero =>
    subst h
    exact absurd (by decide : nI 0 + (-1) < (0 : Int32)) hc
  | succ i =>
    refine ⟨i, rfl, h.trans ?_⟩
    have e : nI (i + 1) = nI i + 1 := (nI_1 i).symm
    rw [e, Int32.add_assoc, show (1 : Int32) + -1 = 0 from by decide, Int32.add_zero]
theorem tsub1 (n : Nat) (h : n < 2147483648) : (nI n - 1).toInt = (n : Int) - 1 := by
  rw [Int32.toInt_sub, tnI n h, tl32 1 (by decide), Int.bmod_eq_of_le] <;> omega
theorem tsv (v : Int32) (h : -2147483648 < v.toInt) : (v - 1).toInt = v.toInt - 1 := by
  have := Int32.toInt_lt v
  rw [Int32.toInt_sub, tl32 1 (by decide), Int.bmod_eq_of_le] <;> omega
