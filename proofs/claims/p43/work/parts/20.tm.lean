def tF (k : Nat) (x : Int) : Prop := if k = 5 then 0 ≤ x ∧ x ≤ 600 else if k = 7 then 0 ≤ x ∧ x ≤ 600 else if k = 8 then 0 ≤ x ∧ x ≤ 600 else if k = 9 then 0 ≤ x ∧ x ≤ 600 else if k = 19 then 0 ≤ x ∧ x ≤ 1 else if k = 23 then 0 ≤ x ∧ x ≤ 100 else if k = 25 then -1 ≤ x ∧ x ≤ 39 else if k = 33 then 0 ≤ x ∧ x ≤ 200 else if k = 41 then 0 ≤ x ∧ x ≤ 200 else if k = 42 then 0 ≤ x ∧ x ≤ 8 else if k = 49 then 0 ≤ x ∧ x ≤ 8 else True
def wTy (j : Nat) (x : Int) : Prop := if j = 2 then 0 ≤ x ∧ x ≤ 60 else if j = 3 then 1 ≤ x ∧ x ≤ 9 else if 8 ≤ j ∧ j < 168 then (if (j - 8) % 20 = 1 then -1 ≤ x ∧ x ≤ 24 else if (j - 8) % 20 = 2 then -1 ≤ x ∧ x ≤ 40 else True)
  else if 168 ≤ j ∧ j < 3240 then (if (j - 168) % 16 = 2 then 0 ≤ x ∧ x ≤ 7 else True)
  else if 3240 ≤ j ∧ j < 3880 then (if j % 2 = 0 then 0 ≤ x ∧ x ≤ 100 else 0 ≤ x ∧ x ≤ 8)
  else if 387880 ≤ j ∧ j < 413480 then (if (j - 387880) % 10 = 0 then 0 ≤ x ∧ x ≤ 7 else True) else True
def tyM (c k : Nat) (x : Int) : Prop := match c with
  | 0 => tF k x
  | 1 => wTy k x
  | 2 => wTy (k % 414128) x
  | 3 => 0 ≤ x ∧ x ≤ 1
  | 13 => 0 ≤ x ∧ x ≤ 23
  | 17 => 0 ≤ x ∧ x ≤ 100
  | 18 => 0 ≤ x ∧ x ≤ 23
  | 22 => 0 ≤ x ∧ x ≤ 100
  | 27 => 0 ≤ x ∧ x ≤ 7
  | 30 => 0 ≤ x ∧ x ≤ 1
  | 33 => -1 ≤ x ∧ x ≤ 60
  | 7 => if k % 16 = 2 then 0 ≤ x ∧ x ≤ 7 else True
  | 8 => if k % 2 = 0 then 0 ≤ x ∧ x ≤ 4 else 0 ≤ x ∧ x ≤ 8
  | 10 => if k % 10 = 0 then 0 ≤ x ∧ x ≤ 7 else True
  | _ => True
def TM (σ : Sg) : Prop := ∀ c k, tyM c k (σ.1 c k).toInt
theorem TM.w {σ : Sg} {c k : Nat} {v : Int32} (h : TM σ) (ht : tyM c k v.toInt) : TM (sI σ c k v) := by
  intro a b
  by_cases e : a = c ∧ b = k
  · obtain ⟨rfl, rfl⟩ := e
    rw [rd_s]
    exact ht
  · rw [rd_n (by omega)]
    exact h a b
def fr (S F : List Nat) (σ τ : Sg) : Prop := (∀ c, c ≠ 0 → c ∉ S → τ.1 c = σ.1 c) ∧ (∀ k, k ∉ F → τ.1 0 k = σ.1 0 k) ∧ τ.2.2 = σ.2.2
theorem fr.refl {S F : List Nat} {σ : Sg} : fr S F σ σ := ⟨fun _ _ _ => rfl, fun _ _ => rfl, rfl⟩
theorem fr.w {S F : List Nat} {σ τ : Sg} {c k : Nat} {v : Int32} (h : fr S F σ τ) (hc : (c ≠ 0 ∧ c ∈ S) ∨ (c = 0 ∧ k ∈ F)) : fr S F σ (sI τ c k v) := by
  refine ⟨fun a ha hs => ?_, fun b hb => ?_, h.2.2⟩
  · have hne : a ≠ c := by
      rintro rfl
      rcases hc with ⟨-, h2⟩ | ⟨h2, -⟩
      · exact hs h2
      · exact ha h2
    rw [sI_o hne]
    exact h.1 a ha hs
  · have hne : 0 ≠ c ∨ b ≠ k := by
      rcases hc with ⟨h2, -⟩ | ⟨-, h2⟩
      · exact Or.inl (Ne.symm h2)
      · exact Or.inr (fun e => hb (e ▸ h2))
    rw [rd_n hne]
    exact h.2.1 b hb
theorem fr.l {S F : List Nat} {σ τ : Sg} {c k : Nat} {v : Int64} (h : fr S F σ τ) : fr S F σ (sL τ c k v) := h
theorem fr.t {S F S' F' : List Nat} {σ τ ρ : Sg} (h : fr S F σ τ) (h2 : fr S' F' τ ρ) (hs : ∀ c ∈ S', c ∈ S) (hf : ∀ k ∈ F', k ∈ F) : fr S F σ ρ :=
  ⟨fun c h0 hc => (h2.1 c h0 (fun q => hc (hs c q))).trans (h.1 c h0 hc), fun k hk => (h2.2.1 k (fun q => hk (hf k q))).trans (h.2.1 k hk), h2.2.2.trans h.2.2⟩
theorem rngN {x : Int32} {h : Nat} (hx : 0 ≤ x.toInt ∧ x.toInt ≤ (h : Int)) : ∃ n, n ≤ h ∧ x = nI n := by
  obtain ⟨n, h1, h2⟩ := to_nat (x := x) (n := h + 1) ⟨hx.1, by omega⟩
  exact ⟨n, by omega, h2⟩
theorem wTy_n {p : Nat} (hp : p < 8) {x : Int} (h : wTy (8 + 20 * p + 1) x) : -1 ≤ x ∧ x ≤ 24 := by
  unfold wTy at h
  rw [if_neg (by omega), if_neg (by omega), if_pos (by omega), if_pos (by omega)] at h
  exact h
theorem wTy_c {p : Nat} (hp : p < 8) {x : Int} (h : wTy (8 + 20 * p + 2) x) : -1 ≤ x ∧ x ≤ 40 := by
  unfold wTy at h
  rw [if_neg (by omega), if_neg (by omega), if_pos (by omega), if_neg (by omega), if_pos (by omega)] at h
  exact h
theorem stl4 : ∀ w, w < 7 → stL.getD w 0 ≤ 4 := by decide
theorem sub97 {x : Int32} (h : 97 ≤ x.toInt) (h2 : x.toInt ≤ 104) : (x - 97).toInt = x.toInt - 97 := by
  rw [Int32.toInt_sub, tl32 97 (by decide), Int.bmod_eq_of_le] <;> omega
theorem seeR (x : Int32) : -1 ≤ (x &&& 255).toInt ∧ (x &&& 255).toInt ≤ 255 := by
  obtain ⟨j, hj, e⟩ := pk_andE x (m := 255) 8 (by decide)
  rw [e, tnI j (by omega)]
  omega
