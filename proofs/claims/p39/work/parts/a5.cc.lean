theorem ARE_dis {pg t u qg v w x : Nat} (hp : pg ∈ pgL) (hq : qg ∈ pgL) (ht : t ∈ otL) (hu : u ∈ ntL) (hv : v ∈ otL) (hw : w ∈ ntL) (h1 : pg ≠ qg) (h2 : t ≠ v) (h3 : u ≠ w) (ha : ARE pg t u x) : ¬ ARE qg v w x := by
  intro hb
  unfold ARE at ha hb
  rcases ha with ha | ha | ha | ha
  · rcases hb with hb | hb | hb | hb
    · omega
    · have := pgD pg hp qg hq; omega
    · have := pgot pg hp v hv; omega
    · have := pgnt pg hp w hw; omega
  · rcases hb with hb | hb | hb | hb
    · have := pgD pg hp qg hq; omega
    · have := pgD pg hp qg hq; omega
    · have := pgot pg hp v hv; omega
    · have := pgnt pg hp w hw; omega
  · rcases hb with hb | hb | hb | hb
    · have := pgot qg hq t ht; omega
    · have := pgot qg hq t ht; omega
    · have := otD t ht v hv; omega
    · have := otnt t ht w hw; omega
  · rcases hb with hb | hb | hb | hb
    · have := pgnt qg hq u hu; omega
    · have := pgnt qg hq u hu; omega
    · have := otnt v hv u hu; omega
    · have := ntD u hu w hw; omega
theorem ARV_A {pg t u x : Nat} (h : ARV pg t u x) : ARE pg t u x := by unfold ARV at h; unfold ARE; omega
/-- what Works.copyFrom wants: an IMAGE is made -/
theorem JC.kp {σ : Sg} {w : Nat} (h : JC σ) (hw : w < 3) : ∃ o n p m : Nat → Nat,
    (∀ i, i < 8 → σ.2.2 (250 + 183 * w + 7 + 22 * i) 2 = some (o i) ∧ o i ∈ otL ∧ σ.2.2 (250 + 183 * w + 7 + 22 * i) 3 = some (n i) ∧ n i ∈ ntL) ∧
    (∀ i, i < 8 → σ.2.2 (1 + 7 + 22 * i) 2 = some (p i) ∧ p i ∈ otL ∧ σ.2.2 (1 + 7 + 22 * i) 3 = some (m i) ∧ m i ∈ ntL) ∧
    (∀ i, i < 8 → o i ≠ p i ∧ n i ≠ m i) ∧ (∀ i, i < 8 → VP σ (1 + 7 + 22 * i) (p i) (m i)) ∧
    (∀ i, i < 8 → ∀ x, ARE (1 + 7 + 22 * i) (p i) (m i) x → ¬ DRG (250 + 183 * w) x) ∧
    (∀ i, i < 8 → ∀ x, ARE (250 + 183 * w + 7 + 22 * i) (o i) (n i) x → DRG (250 + 183 * w) x) ∧
    (∀ i, i < 8 → ∀ j, j < 8 → ¬ i = j → ∀ x, ARE (250 + 183 * w + 7 + 22 * i) (o i) (n i) x → ¬ ARE (250 + 183 * w + 7 + 22 * j) (o j) (n j) x) ∧
    (∀ i, i < 8 → ∀ x, ARE (250 + 183 * w + 7 + 22 * i) (o i) (n i) x → ¬ (250 + 183 * w ≤ x ∧ x ≤ 250 + 183 * w + 6)) ∧
    (∀ τ : Sg, τ.2.2 = σ.2.2 → (∀ i, i < 8 → VP τ (250 + 183 * w + 7 + 22 * i) (o i) (n i)) → (∀ k, k < 8 → τ.1 (250 + 183 * w + 3) k = σ.1 (1 + 3) k) → (∀ x y, jcq x → ¬ DRG (250 + 183 * w) x → τ.1 x y = σ.1 x y) → JC τ) := by
  obtain ⟨o, n, h1, h2, h3, h4, h5, h6⟩ := h
  have ee : ∀ i, 250 + 183 * w + 7 + 22 * i = 257 + 183 * w + 22 * i := fun i => by omega
  refine ⟨fun i => 258 + 183 * w + 22 * i, fun i => 268 + 183 * w + 22 * i, o, n, fun i hi => ?_, fun i hi => ?_, fun i hi => ?_, fun i hi => h2 i hi, fun i hi x hx => ?_, fun i hi x hx => ?_, fun i hi j hj hij x hx => ?_, fun i hi x hx => ?_, fun τ hp hV hn he => ?_⟩
  · rw [ee i]
    exact ⟨(h1.2.2.2.2.2 w hw i hi).1, otw w hw i hi, (h1.2.2.2.2.2 w hw i hi).2, ntw w hw i hi⟩
  · exact ⟨(h1.1 i hi).1, moI _ (h1.2.2.2.1 i (by omega)).1, (h1.1 i hi).2, mnI _ (h1.2.2.2.1 i (by omega)).2⟩
  · have b1 := mo250 _ (h1.2.2.2.1 i (by omega)).1
    have b2 := mn250 _ (h1.2.2.2.1 i (by omega)).2
    exact ⟨(show 258 + 183 * w + 22 * i ≠ o i by omega), (show 268 + 183 * w + 22 * i ≠ n i by omega)⟩
  · have b1 := mo250 _ (h1.2.2.2.1 i (by omega)).1
    have b2 := mn250 _ (h1.2.2.2.1 i (by omega)).2
    unfold ARE at hx
    unfold DRG
    omega
  · unfold ARE at hx
    dsimp only at hx
    unfold DRG
    omega
  · unfold ARE at hx ⊢
    dsimp only at hx ⊢
    omega
  · unfold ARE at hx
    dsimp only at hx
    omega
  · refine ⟨o, n, by unfold PTo; rw [hp]; exact h1, fun k hk => (h2 k hk).v (fun x y hx => he x y (jcM hk (h1.2.2.2.1 k (by omega)).1 (h1.2.2.2.1 k (by omega)).2 hx) ?_), fun w2 hw2 k hk => ?_, h4.c (fun q hq => he 4 q (Or.inl rfl) (by unfold DRG; omega)), fun w2 hw2 => ?_, by unfold PTw; rw [hp]; exact h6⟩
    · have b1 := mo250 _ (h1.2.2.2.1 k (by omega)).1
      have b2 := mn250 _ (h1.2.2.2.1 k (by omega)).2
      unfold ARV at hx
      unfold DRG
      omega
    · by_cases e : w2 = w
      · subst e
        have := hV k hk
        rw [ee k] at this
        exact this
      · refine (h3 w2 hw2 k hk).v (fun x y hx => he x y (jcW hx) ?_)
        unfold ARV at hx
        unfold DRG
        omega
    · by_cases e : w2 = w
      · subst e
        refine h4.c (fun q hq => ?_)
        rw [← hn q hq]
        exact congrFun (congrArg τ.1 (by omega)) q
      · exact (h5 w2 hw2).c (fun q hq => he _ q (by unfold jcq; omega) (by unfold DRG; omega))
/-- an IMAGE is gone back to -/
theorem JC.rs {σ : Sg} {w : Nat} (h : JC σ) (hw : w < 3) : ∃ o n p m : Nat → Nat,
    (∀ i, i < 8 → σ.2.2 (1 + 7 + 22 * i) 2 = some (o i) ∧ o i ∈ otL ∧ σ.2.2 (1 + 7 + 22 * i) 3 = some (n i) ∧ n i ∈ ntL) ∧
    (∀ i, i < 8 → σ.2.2 (250 + 183 * w + 7 + 22 * i) 2 = some (p i) ∧ p i ∈ otL ∧ σ.2.2 (250 + 183 * w + 7 + 22 * i) 3 = some (m i) ∧ m i ∈ ntL) ∧
    (∀ i, i < 8 → o i ≠ p i ∧ n i ≠ m i) ∧ (∀ i, i < 8 → VP σ (250 + 183 * w + 7 + 22 * i) (p i) (m i)) ∧
    (∀ i, i < 8 → ∀ x, ARE (250 + 183 * w + 7 + 22 * i) (p i) (m i) x → ¬ DRG 1 x) ∧
    (∀ i, i < 8 → ∀ x, ARE (1 + 7 + 22 * i) (o i) (n i) x → DRG 1 x) ∧
    (∀ i, i < 8 → ∀ j, j < 8 → ¬ i = j → ∀ x, ARE (1 + 7 + 22 * i) (o i) (n i) x → ¬ ARE (1 + 7 + 22 * j) (o j) (n j) x) ∧
    (∀ i, i < 8 → ∀ x, ARE (1 + 7 + 22 * i) (o i) (n i) x → ¬ (1 ≤ x ∧ x ≤ 1 + 6)) ∧
    (∀ τ : Sg, τ.2.2 = σ.2.2 → (∀ i, i < 8 → VP τ (1 + 7 + 22 * i) (o i) (n i)) → (∀ k, k < 8 → τ.1 (1 + 3) k = σ.1 (250 + 183 * w + 3) k) → (∀ x y, jcq x → ¬ DRG 1 x → τ.1 x y = σ.1 x y) → JC τ) := by
  obtain ⟨o, n, h1, h2, h3, h4, h5, h6⟩ := h
  have ee : ∀ i, 250 + 183 * w + 7 + 22 * i = 257 + 183 * w + 22 * i := fun i => by omega
  refine ⟨o, n, fun i => 258 + 183 * w + 22 * i, fun i => 268 + 183 * w + 22 * i, fun i hi => ?_, fun i hi => ?_, fun i hi => ?_, fun i hi => ?_, fun i hi x hx => ?_, fun i hi x hx => ?_, fun i hi j hj hij x hx => ?_, fun i hi x hx => ?_, fun τ hp hV hn he => ?_⟩
  · exact ⟨(h1.1 i hi).1, moI _ (h1.2.2.2.1 i (by omega)).1, (h1.1 i hi).2, mnI _ (h1.2.2.2.1 i (by omega)).2⟩
  · rw [ee i]
    exact ⟨(h1.2.2.2.2.2 w hw i hi).1, otw w hw i hi, (h1.2.2.2.2.2 w hw i hi).2, ntw w hw i hi⟩
  · have b1 := mo250 _ (h1.2.2.2.1 i (by omega)).1
    have b2 := mn250 _ (h1.2.2.2.1 i (by omega)).2
    exact ⟨(show o i ≠ 258 + 183 * w + 22 * i by omega), (show n i ≠ 268 + 183 * w + 22 * i by omega)⟩
  · rw [ee i]
    exact h3 w hw i hi
  · unfold ARE at hx
    dsimp only at hx
    unfold DRG
    omega
  · have b1 := moR _ (h1.2.2.2.1 i (by omega)).1
    have b2 := mnR _ (h1.2.2.2.1 i (by omega)).2
    unfold ARE at hx
    unfold DRG
    rcases hx with hx | hx | hx | hx
    · omega
    · omega
    · rcases b1 with b1 | b1 <;> omega
    · rcases b2 with b2 | b2 <;> omega
  · have m1 := h1.2.2.2.1 i (by omega)
    have m2 := h1.2.2.2.1 j (by omega)
    have d := h1.2.2.2.2.1 i (by omega) j (by omega) hij
    exact ARE_dis (pgm i hi) (pgm j hj) (moI _ m1.1) (mnI _ m1.2) (moI _ m2.1) (mnI _ m2.2) (by omega) d.1 d.2 hx
  · have b1 := moR _ (h1.2.2.2.1 i (by omega)).1
    have b2 := mnR _ (h1.2.2.2.1 i (by omega)).2
    unfold ARE at hx
    rcases hx with hx | hx | hx | hx
    · omega
    · omega
    · rcases b1 with b1 | b1 <;> omega
    · rcases b2 with b2 | b2 <;> omega
  · refine ⟨o, n, by unfold PTo; rw [hp]; exact h1, fun k hk => hV k hk, fun w2 hw2 k hk => (h3 w2 hw2 k hk).v (fun x y hx => he x y (jcW hx) ?_), ?_, fun w2 hw2 => (h5 w2 hw2).c (fun q hq => he _ q (by unfold jcq; omega) (by unfold DRG; omega)), by unfold PTw; rw [hp]; exact h6⟩
    · unfold ARV at hx
      unfold DRG
      omega
    · refine (h5 w hw).c (fun q hq => ?_)
      rw [show τ.1 4 q = τ.1 (1 + 3) q from rfl, hn q hq]
      exact congrFun (congrArg σ.1 (by omega)) q

