/-! what holds of the class between calls -/
def moL : List Nat := [9, 31, 53, 75, 97, 119, 141, 163, 192]
def mnL : List Nat := [19, 41, 63, 85, 107, 129, 151, 173, 202]
theorem moI : ∀ d, d ∈ moL → d ∈ otL := by decide +kernel
theorem mnI : ∀ d, d ∈ mnL → d ∈ ntL := by decide +kernel
theorem moR : ∀ d, d ∈ moL → (9 ≤ d ∧ d + 10 ≤ 184 ∧ (d - 8) % 22 = 1) ∨ d = 192 := by decide +kernel
theorem mnR : ∀ d, d ∈ mnL → (19 ≤ d ∧ d + 8 ≤ 184 ∧ (d - 8) % 22 = 11) ∨ d = 202 := by decide +kernel
/-- the cells of which something must hold -/
def jcq (c : Nat) : Prop := c = 4 ∨ (8 ≤ c ∧ c < 184 ∧ (c - 8) % 22 ≠ 0 ∧ (c - 8) % 22 ≠ 19) ∨ (192 ≤ c ∧ c < 210) ∨ 250 ≤ c
def ARV (pg t u x : Nat) : Prop := (pg + 20 ≤ x ∧ x ≤ pg + 21) ∨ (t ≤ x ∧ x ≤ t + 9) ∨ (u ≤ x ∧ x ≤ u + 7)
theorem VP.v {σ τ : Sg} {pg t u : Nat} (h : VP σ pg t u) (he : ∀ x y, ARV pg t u x → τ.1 x y = σ.1 x y) : VP τ pg t u := by
  obtain ⟨h1, ⟨zs, us, h2, h3, h4⟩, zn, un, K, h5, h6, h7⟩ := h
  refine ⟨h1.c (funext (fun y => he _ y (by unfold ARV; omega))) (funext (fun y => he _ y (by unfold ARV; omega))), ⟨zs, us, (he _ _ (by unfold ARV; omega)).trans h2, h3, h4.c (fun x y hxy => he x y (by unfold ARV; omega))⟩, zn, un, K, (he _ _ (by unfold ARV; omega)).trans h5, h6, h7.c (fun x y hxy => he x y (by unfold ARV; omega))⟩
def PTo (σ : Sg) (o n : Nat → Nat) : Prop := (∀ k, k < 8 → σ.2.2 (8 + 22 * k) 2 = some (o k) ∧ σ.2.2 (8 + 22 * k) 3 = some (n k)) ∧ σ.2.2 186 10 = some (o 8) ∧ σ.2.2 186 11 = some (n 8) ∧ (∀ k, k < 9 → o k ∈ moL ∧ n k ∈ mnL) ∧ (∀ i, i < 9 → ∀ j, j < 9 → i ≠ j → o i ≠ o j ∧ n i ≠ n j) ∧ ∀ w, w < 3 → ∀ k, k < 8 → σ.2.2 (257 + 183 * w + 22 * k) 2 = some (258 + 183 * w + 22 * k) ∧ σ.2.2 (257 + 183 * w + 22 * k) 3 = some (268 + 183 * w + 22 * k)
def PTw (σ : Sg) : Prop := (σ.2.2 0 10 = some 228 ∧ σ.2.2 0 11 = some 239) ∨ (σ.2.2 0 10 = some 239 ∧ σ.2.2 0 11 = some 228)
def JC (σ : Sg) : Prop := ∃ o n : Nat → Nat, PTo σ o n ∧ (∀ k, k < 8 → VP σ (8 + 22 * k) (o k) (n k)) ∧ (∀ w, w < 3 → ∀ k, k < 8 → VP σ (257 + 183 * w + 22 * k) (258 + 183 * w + 22 * k) (268 + 183 * w + 22 * k)) ∧ NDc (σ.1 4) ∧ (∀ w, w < 3 → NDc (σ.1 (253 + 183 * w))) ∧ PTw σ
theorem mo_ot {o : Nat → Nat} {k : Nat} (h : o k ∈ moL) : o k ∈ otL := moI _ h
theorem JC.prog {σ : Sg} {k : Nat} (h : JC σ) (hk : k < 8) : ∃ t u, σ.2.2 (8 + 22 * k) 2 = some t ∧ t ∈ otL ∧ σ.2.2 (8 + 22 * k) 3 = some u ∧ u ∈ ntL ∧ VP σ (8 + 22 * k) t u := by
  obtain ⟨o, n, h1, h2, -⟩ := h
  exact ⟨o k, n k, (h1.1 k hk).1, moI _ (h1.2.2.2.1 k (by omega)).1, (h1.1 k hk).2, mnI _ (h1.2.2.2.1 k (by omega)).2, h2 k hk⟩
theorem JC.rdr {σ : Sg} (h : JC σ) : ∃ t u, σ.2.2 186 10 = some t ∧ t ∈ otL ∧ σ.2.2 186 11 = some u ∧ u ∈ ntL := by
  obtain ⟨o, n, h1, -⟩ := h
  exact ⟨o 8, n 8, h1.2.1, moI _ (h1.2.2.2.1 8 (by omega)).1, h1.2.2.1, mnI _ (h1.2.2.2.1 8 (by omega)).2⟩
theorem JC.wts {σ : Sg} (h : JC σ) : ∃ a b, σ.2.2 0 10 = some a ∧ a ∈ wtL ∧ σ.2.2 0 11 = some b ∧ b ∈ wtL ∧ a ≠ b := by
  obtain ⟨o, n, -, -, -, -, -, h6⟩ := h
  rcases h6 with ⟨h1, h2⟩ | ⟨h1, h2⟩
  · exact ⟨228, 239, h1, by decide, h2, by decide, by decide⟩
  · exact ⟨239, 228, h1, by decide, h2, by decide, by decide⟩
theorem JC.nd {σ : Sg} (h : JC σ) : NDc (σ.1 4) := by
  obtain ⟨o, n, -, -, -, h4, -⟩ := h
  exact h4
theorem jcM {k t u x : Nat} (hk : k < 8) (ht : t ∈ moL) (hu : u ∈ mnL) (h : ARV (8 + 22 * k) t u x) : jcq x := by
  have h1 := moR t ht
  have h2 := mnR u hu
  unfold ARV at h
  unfold jcq
  rcases h with h | h | h
  · omega
  · rcases h1 with h1 | h1 <;> omega
  · rcases h2 with h2 | h2 <;> omega
theorem jcW {w k x : Nat} (h : ARV (257 + 183 * w + 22 * k) (258 + 183 * w + 22 * k) (268 + 183 * w + 22 * k) x) : jcq x := by
  unfold ARV at h
  unfold jcq
  omega
theorem JC.fr {σ τ : Sg} (h : JC σ) (hp : τ.2.2 = σ.2.2) (he : ∀ x y, jcq x → τ.1 x y = σ.1 x y) : JC τ := by
  obtain ⟨o, n, h1, h2, h3, h4, h5, h6⟩ := h
  refine ⟨o, n, by unfold PTo; rw [hp]; exact h1, fun k hk => (h2 k hk).v (fun x y hx => he x y (jcM hk (h1.2.2.2.1 k (by omega)).1 (h1.2.2.2.1 k (by omega)).2 hx)), fun w hw k hk => (h3 w hw k hk).v (fun x y hx => he x y (jcW hx)), h4.c (fun q hq => he 4 q (Or.inl rfl)), fun w hw => (h5 w hw).c (fun q hq => he _ q (by unfold jcq; omega)), by unfold PTw; rw [hp]; exact h6⟩
/-- cells of two PROGRAMS -/
theorem ARV_dis {pg t u qg v w x : Nat} (hp : pg ∈ pgL) (hq : qg ∈ pgL) (ht : t ∈ otL) (hu : u ∈ ntL) (hv : v ∈ otL) (hw : w ∈ ntL) (h1 : pg ≠ qg) (h2 : t ≠ v) (h3 : u ≠ w) (ha : ARV pg t u x) : ¬ ARV qg v w x := by
  intro hb
  unfold ARV at ha hb
  rcases ha with ha | ha | ha
  · rcases hb with hb | hb | hb
    · have := pgD pg hp qg hq; omega
    · have := pgot pg hp v hv; omega
    · have := pgnt pg hp w hw; omega
  · rcases hb with hb | hb | hb
    · have := pgot qg hq t ht; omega
    · have := otD t ht v hv; omega
    · have := otnt t ht w hw; omega
  · rcases hb with hb | hb | hb
    · have := pgnt qg hq u hu; omega
    · have := otnt v hv u hu; omega
    · have := ntD u hu w hw; omega
theorem pgw : ∀ w, w < 3 → ∀ k, k < 8 → 257 + 183 * w + 22 * k ∈ pgL := by decide +kernel
theorem otw : ∀ w, w < 3 → ∀ k, k < 8 → 258 + 183 * w + 22 * k ∈ otL := by decide +kernel
theorem ntw : ∀ w, w < 3 → ∀ k, k < 8 → 268 + 183 * w + 22 * k ∈ ntL := by decide +kernel
theorem mo250 : ∀ d, d ∈ moL → d + 10 ≤ 210 := by decide +kernel
theorem mn250 : ∀ d, d ∈ mnL → d + 8 ≤ 210 := by decide +kernel
/-- one PROGRAM's cells have changed, pointers may be others: the general law -/
theorem JC.gen {σ τ : Sg} {o n o' n' : Nat → Nat} {k : Nat} (hP : PTo σ o n) (h2 : ∀ k, k < 8 → VP σ (8 + 22 * k) (o k) (n k)) (h3 : ∀ w, w < 3 → ∀ k, k < 8 → VP σ (257 + 183 * w + 22 * k) (258 + 183 * w + 22 * k) (268 + 183 * w + 22 * k)) (h4 : NDc (σ.1 4)) (h5 : ∀ w, w < 3 → NDc (σ.1 (253 + 183 * w))) (hP' : PTo τ o' n') (hw : PTw τ) (hoo : ∀ i, i < 8 → i ≠ k → o' i = o i ∧ n' i = n i) (hV : k < 8 → VP τ (8 + 22 * k) (o' k) (n' k)) (he : ∀ x y, jcq x → τ.1 x y = σ.1 x y ∨ ARV (8 + 22 * k) (o' k) (n' k) x) (hk : k < 8) : JC τ := by
  have key : ∀ {pg t u x : Nat}, pg ∈ pgL → t ∈ otL → u ∈ ntL → pg ≠ 8 + 22 * k → t ≠ o' k → u ≠ n' k → ARV pg t u x → ∀ y, jcq x → τ.1 x y = σ.1 x y := by
    intro pg t u x hp ht hu e1 e2 e3 ha y hj
    rcases he x y hj with h | h
    · exact h
    · exact absurd h (ARV_dis hp (pgm k hk) ht hu (moI _ (hP'.2.2.2.1 k (by omega)).1) (mnI _ (hP'.2.2.2.1 k (by omega)).2) e1 e2 e3 ha)
  have b1 := mo250 _ (hP'.2.2.2.1 k (by omega)).1
  have b2 := mn250 _ (hP'.2.2.2.1 k (by omega)).2
  have r1 := moR _ (hP'.2.2.2.1 k (by omega)).1
  have r2 := mnR _ (hP'.2.2.2.1 k (by omega)).2
  refine ⟨o', n', hP', fun i hi => ?_, fun w hw k2 hk2 => (h3 w hw k2 hk2).v (fun x y hx => key (pgw w hw k2 hk2) (otw w hw k2 hk2) (ntw w hw k2 hk2) (by omega) (by omega) (by omega) hx y (jcW hx)), h4.c (fun q hq => ?_), fun w hw => (h5 w hw).c (fun q hq => ?_), hw⟩
  · by_cases e : i = k
    · subst e; exact hV hi
    · obtain ⟨e1, e2⟩ := hoo i hi e
      rw [e1, e2]
      have d := hP'.2.2.2.2.1 i (by omega) k (by omega) e
      rw [e1, e2] at d
      exact (h2 i hi).v (fun x y hx => key (pgm i hi) (moI _ (hP.2.2.2.1 i (by omega)).1) (mnI _ (hP.2.2.2.1 i (by omega)).2) (by omega) d.1 d.2 hx y (jcM hi (hP.2.2.2.1 i (by omega)).1 (hP.2.2.2.1 i (by omega)).2 hx))
  · rcases he 4 q (Or.inl rfl) with h | h
    · exact h
    · exfalso; unfold ARV at h; omega
  · rcases he (253 + 183 * w) q (by unfold jcq; omega) with h | h
    · exact h
    · exfalso; unfold ARV at h; omega
theorem JC.upd {σ τ : Sg} {k t u : Nat} (h : JC σ) (hk : k < 8) (ht : σ.2.2 (8 + 22 * k) 2 = some t) (hu : σ.2.2 (8 + 22 * k) 3 = some u) (hp : τ.2.2 = σ.2.2) (hV : VP τ (8 + 22 * k) t u) (he : ∀ x y, jcq x → τ.1 x y = σ.1 x y ∨ ARV (8 + 22 * k) t u x) : JC τ := by
  obtain ⟨o, n, h1, h2, h3, h4, h5, h6⟩ := h
  have e1 : o k = t := Option.some.inj ((h1.1 k hk).1.symm.trans ht)
  have e2 : n k = u := Option.some.inj ((h1.1 k hk).2.symm.trans hu)
  subst e1
  subst e2
  exact JC.gen (o' := o) (n' := n) (k := k) h1 h2 h3 h4 h5 (by unfold PTo; rw [hp]; exact h1) (by unfold PTw; rw [hp]; exact h6) (fun _ _ _ => ⟨rfl, rfl⟩) (fun _ => hV) he hk
def swp (f : Nat → Nat) (k x : Nat) : Nat := if x = k then f 8 else if x = 8 then f k else f x
theorem swp_k {f : Nat → Nat} {k : Nat} : swp f k k = f 8 := by unfold swp; rw [if_pos rfl]
theorem swp_8 {f : Nat → Nat} {k : Nat} (hk : k < 8) : swp f k 8 = f k := by unfold swp; rw [if_neg (by omega), if_pos rfl]
theorem swp_o {f : Nat → Nat} {k x : Nat} (h1 : x ≠ k) (h2 : x ≠ 8) : swp f k x = f x := by unfold swp; rw [if_neg h1, if_neg h2]
theorem swp_in {f : Nat → Nat} {L : List Nat} {k : Nat} (hk : k < 8) (h : ∀ x, x < 9 → f x ∈ L) : ∀ x, x < 9 → swp f k x ∈ L := by
  intro x hx
  unfold swp
  split
  · exact h 8 (by omega)
  · split
    · exact h k (by omega)
    · exact h x hx
theorem swp_inj {f : Nat → Nat} {k : Nat} (hk : k < 8) (h : ∀ i, i < 9 → ∀ j, j < 9 → i ≠ j → f i ≠ f j) : ∀ i, i < 9 → ∀ j, j < 9 → i ≠ j → swp f k i ≠ swp f k j := by
  intro i hi j hj hij
  unfold swp
  by_cases e1 : i = k
  · rw [if_pos e1]
    by_cases e2 : j = k
    · omega
    · rw [if_neg e2]
      by_cases e3 : j = 8
      · rw [if_pos e3]; exact h 8 (by omega) k (by omega) (by omega)
      · rw [if_neg e3]; exact h 8 (by omega) j hj (by omega)
  · rw [if_neg e1]
    by_cases e4 : i = 8
    · rw [if_pos e4]
      by_cases e2 : j = k
      · rw [if_pos e2]; exact h k (by omega) 8 (by omega) (by omega)
      · rw [if_neg e2]
        by_cases e3 : j = 8
        · omega
        · rw [if_neg e3]; exact h k (by omega) j hj (by omega)
    · rw [if_neg e4]
      by_cases e2 : j = k
      · rw [if_pos e2]; exact h i hi 8 (by omega) e4
      · rw [if_neg e2]
        by_cases e3 : j = 8
        · rw [if_pos e3]; exact h i hi k (by omega) e1
        · rw [if_neg e3]; exact h i hi j hj hij
/-- the OLD text of a PROGRAM and the READER's change places -/
theorem JC.swO {σ τ : Sg} {k t1 t8 u1 : Nat} (h : JC σ) (hk : k < 8) (ht : σ.2.2 (8 + 22 * k) 2 = some t1) (hu : σ.2.2 (8 + 22 * k) 3 = some u1) (h8 : σ.2.2 186 10 = some t8) (hV : VO τ t8) (he : ∀ x y, jcq x → τ.1 x y = σ.1 x y ∨ (t8 ≤ x ∧ x ≤ t8 + 9)) (p1 : τ.2.2 (8 + 22 * k) 2 = some t8) (p2 : τ.2.2 186 10 = some t1) (p3 : ∀ a b, ¬ (a = 8 + 22 * k ∧ b = 2) → ¬ (a = 186 ∧ b = 10) → τ.2.2 a b = σ.2.2 a b) : JC τ := by
  obtain ⟨o, n, h1, h2, h3, h4, h5, h6⟩ := h
  have e1 : o k = t1 := Option.some.inj ((h1.1 k hk).1.symm.trans ht)
  have e2 : n k = u1 := Option.some.inj ((h1.1 k hk).2.symm.trans hu)
  have e3 : o 8 = t8 := Option.some.inj (h1.2.1.symm.trans h8)
  have hP' : PTo τ (swp o k) n := by
    refine ⟨fun i hi => ?_, by rw [swp_8 hk, e1]; exact p2, by rw [p3 _ _ (by omega) (by omega)]; exact h1.2.2.1, fun i hi => ⟨swp_in hk (fun x hx => (h1.2.2.2.1 x hx).1) i hi, (h1.2.2.2.1 i hi).2⟩, fun i hi j hj hij => ⟨swp_inj hk (fun a ha b hb hab => (h1.2.2.2.2.1 a ha b hb hab).1) i hi j hj hij, (h1.2.2.2.2.1 i hi j hj hij).2⟩, fun w hw i hi => ?_⟩
    · by_cases e : i = k
      · subst e; rw [swp_k, e3, p3 _ 3 (by omega) (by omega)]; exact ⟨p1, (h1.1 i hi).2⟩
      · rw [swp_o e (by omega), p3 _ 2 (by omega) (by omega), p3 _ 3 (by omega) (by omega)]; exact h1.1 i hi
    · rw [p3 _ 2 (by omega) (by omega), p3 _ 3 (by omega) (by omega)]; exact h1.2.2.2.2.2 w hw i hi
  have q1 := moR _ (h1.2.2.2.1 k (by omega)).1
  have d8 := (h1.2.2.2.2.1 k (by omega) 8 (by omega) (by omega)).1
  refine JC.gen (k := k) h1 h2 h3 h4 h5 hP' (by unfold PTw; rw [p3 _ 10 (by omega) (by omega), p3 _ 11 (by omega) (by omega)]; exact h6) (fun i hi e => ⟨swp_o e (by omega), rfl⟩) (fun _ => ?_) (fun x y hx => ?_) hk
  · rw [swp_k, e3]
    obtain ⟨g1, -, g3⟩ := h2 k hk
    have hm := (h1.2.2.2.1 8 (by omega)).1
    rw [e3] at hm
    have rr : ∀ x y, jcq x → ¬ (t8 ≤ x ∧ x ≤ t8 + 9) → τ.1 x y = σ.1 x y := fun x y hx hn => (he x y hx).resolve_right hn
    have hpo := pgot _ (pgm k hk) _ (moI _ hm)
    have hmr := moR _ hm
    have hno := otnt _ (moI _ hm) _ (mnI _ (h1.2.2.2.1 k (by omega)).2)
    have hnr := mnR _ (h1.2.2.2.1 k (by omega)).2
    have j20 : jcq (8 + 22 * k + 20) := by unfold jcq; omega
    have j21 : jcq (8 + 22 * k + 21) := by unfold jcq; omega
    refine ⟨g1.c (funext (fun y => rr _ y j20 (by omega))) (funext (fun y => rr _ y j21 (by omega))), hV, ?_⟩
    obtain ⟨zn, un, K, g4, g5, g6⟩ := g3
    have jn : ∀ x, n k ≤ x ∧ x ≤ n k + 7 → jcq x := fun x hx => by unfold jcq; rcases hnr with hnr | hnr <;> omega
    exact ⟨zn, un, K, (rr _ _ (jn _ (by omega)) (by omega)).trans g4, g5, g6.c (fun x y hxy => rr _ _ (jn _ hxy) (by omega))⟩
  · rw [swp_k, e3]
    rcases he x y hx with h | h
    · exact Or.inl h
    · exact Or.inr (by unfold ARV; omega)
/-- the NEW text of a PROGRAM and the READER's change places -/
theorem JC.swN {σ τ : Sg} {k t1 u1 u8 : Nat} (h : JC σ) (hk : k < 8) (ht : σ.2.2 (8 + 22 * k) 2 = some t1) (hu : σ.2.2 (8 + 22 * k) 3 = some u1) (h8 : σ.2.2 186 11 = some u8) (hV : VN τ u8) (he : ∀ x y, jcq x → τ.1 x y = σ.1 x y ∨ (u8 ≤ x ∧ x ≤ u8 + 7)) (p1 : τ.2.2 (8 + 22 * k) 3 = some u8) (p2 : τ.2.2 186 11 = some u1) (p3 : ∀ a b, ¬ (a = 8 + 22 * k ∧ b = 3) → ¬ (a = 186 ∧ b = 11) → τ.2.2 a b = σ.2.2 a b) : JC τ := by
  obtain ⟨o, n, h1, h2, h3, h4, h5, h6⟩ := h
  have e1 : o k = t1 := Option.some.inj ((h1.1 k hk).1.symm.trans ht)
  have e2 : n k = u1 := Option.some.inj ((h1.1 k hk).2.symm.trans hu)
  have e3 : n 8 = u8 := Option.some.inj (h1.2.2.1.symm.trans h8)
  have hP' : PTo τ o (swp n k) := by
    refine ⟨fun i hi => ?_, by rw [p3 _ _ (by omega) (by omega)]; exact h1.2.1, by rw [swp_8 hk, e2]; exact p2, fun i hi => ⟨(h1.2.2.2.1 i hi).1, swp_in hk (fun x hx => (h1.2.2.2.1 x hx).2) i hi⟩, fun i hi j hj hij => ⟨(h1.2.2.2.2.1 i hi j hj hij).1, swp_inj hk (fun a ha b hb hab => (h1.2.2.2.2.1 a ha b hb hab).2) i hi j hj hij⟩, fun w hw i hi => ?_⟩
    · by_cases e : i = k
      · subst e; rw [swp_k, e3, p3 _ 2 (by omega) (by omega)]; exact ⟨(h1.1 i hi).1, p1⟩
      · rw [swp_o e (by omega), p3 _ 2 (by omega) (by omega), p3 _ 3 (by omega) (by omega)]; exact h1.1 i hi
    · rw [p3 _ 2 (by omega) (by omega), p3 _ 3 (by omega) (by omega)]; exact h1.2.2.2.2.2 w hw i hi
  refine JC.gen (k := k) h1 h2 h3 h4 h5 hP' (by unfold PTw; rw [p3 _ 10 (by omega) (by omega), p3 _ 11 (by omega) (by omega)]; exact h6) (fun i hi e => ⟨rfl, swp_o e (by omega)⟩) (fun _ => ?_) (fun x y hx => ?_) hk
  · rw [swp_k, e3]
    obtain ⟨g1, g2, -⟩ := h2 k hk
    have hm := (h1.2.2.2.1 8 (by omega)).2
    rw [e3] at hm
    have rr : ∀ x y, jcq x → ¬ (u8 ≤ x ∧ x ≤ u8 + 7) → τ.1 x y = σ.1 x y := fun x y hx hn => (he x y hx).resolve_right hn
    have hpn := pgnt _ (pgm k hk) _ (mnI _ hm)
    have hmr := mnR _ hm
    have hon := otnt _ (moI _ (h1.2.2.2.1 k (by omega)).1) _ (mnI _ hm)
    have hor := moR _ (h1.2.2.2.1 k (by omega)).1
    have j20 : jcq (8 + 22 * k + 20) := by unfold jcq; omega
    have j21 : jcq (8 + 22 * k + 21) := by unfold jcq; omega
    obtain ⟨zs, us, g4, g5, g6⟩ := g2
    have jo : ∀ x, o k ≤ x ∧ x ≤ o k + 9 → jcq x := fun x hx => by unfold jcq; rcases hor with hor | hor <;> omega
    exact ⟨g1.c (funext (fun y => rr _ y j20 (by omega))) (funext (fun y => rr _ y j21 (by omega))), ⟨zs, us, (rr _ _ (jo _ (by omega)) (by omega)).trans g4, g5, g6.c (fun x y hxy => rr _ _ (jo _ hxy) (by omega))⟩, hV⟩
  · rw [swp_k, e3]
    rcases he x y hx with h | h
    · exact Or.inl h
    · exact Or.inr (by unfold ARV; omega)
theorem JC.swW {σ τ : Sg} {a b : Nat} (h : JC σ) (h1 : σ.2.2 0 10 = some a) (h2 : σ.2.2 0 11 = some b) (he : ∀ x y, jcq x → τ.1 x y = σ.1 x y) (p1 : τ.2.2 0 10 = some b) (p2 : τ.2.2 0 11 = some a) (p3 : ∀ x y, ¬ (x = 0 ∧ (y = 10 ∨ y = 11)) → τ.2.2 x y = σ.2.2 x y) : JC τ := by
  have h0 : JC (τ.1, τ.2.1, σ.2.2) := h.fr rfl he
  obtain ⟨o, n, g1, g2, g3, g4, g5, g6⟩ := h0
  refine ⟨o, n, ?_, fun k hk => (g2 k hk).v (fun _ _ _ => rfl), fun w hw k hk => (g3 w hw k hk).v (fun _ _ _ => rfl), g4, g5, ?_⟩
  · refine ⟨fun k hk => ?_, by rw [p3 _ _ (by omega)]; exact g1.2.1, by rw [p3 _ _ (by omega)]; exact g1.2.2.1, g1.2.2.2.1, g1.2.2.2.2.1, fun w hw k hk => ?_⟩
    · rw [p3 _ _ (by omega), p3 _ _ (by omega)]; exact g1.1 k hk
    · rw [p3 _ _ (by omega), p3 _ _ (by omega)]; exact g1.2.2.2.2.2 w hw k hk
  · unfold PTw
    rw [p1, p2]
    rcases g6 with ⟨q1, q2⟩ | ⟨q1, q2⟩
    · right; exact ⟨by rw [← h2]; exact q2, by rw [← h1]; exact q1⟩
    · left; exact ⟨by rw [← h2]; exact q2, by rw [← h1]; exact q1⟩
theorem JC.need {σ τ : Sg} {p o a m : Nat} (h : JC σ) (hp : p < 8) (ho : o < 8) (hne : p ≠ o) (hcl : CLc (σ.1 4) p a) (hno : ¬ bt a o = 1) (hf : σ.1 4 p = nI m) (hm : m ≤ 255) (hg : τ.1 4 p = nI (m ||| p2 o)) (hgo : ∀ q, q ≠ p → τ.1 4 q = σ.1 4 q) (hpp : τ.2.2 = σ.2.2) (he : ∀ x y, x ≠ 4 → τ.1 x y = σ.1 x y) : JC τ := by
  obtain ⟨o_, n_, h1, h2, h3, h4, h5, h6⟩ := h
  refine ⟨o_, n_, by unfold PTo; rw [hpp]; exact h1, fun k hk => (h2 k hk).v (fun x y hx => he x y (fun e => ?_)), fun w hw k hk => (h3 w hw k hk).v (fun x y hx => he x y (fun e => ?_)), h4.need hp ho hne hcl hno hf hm hg hgo, fun w hw => (h5 w hw).c (fun q hq => he _ q (by omega)), by unfold PTw; rw [hpp]; exact h6⟩
  · have a1 := moR _ (h1.2.2.2.1 k (by omega)).1
    have a2 := mnR _ (h1.2.2.2.1 k (by omega)).2
    unfold ARV at hx
    omega
  · unfold ARV at hx
    omega

