/-! chains of SUMS, laid one behind the other -/
def cx (f : Nat → Int32) (P : Nat → Prop) : Nat → Nat → Nat → Prop
  | 0, a, e => a = e
  | n + 1, a, e => P a ∧ ∃ j, j < 16 ∧ f (a + 1) &&& 15 = nI j ∧ cx f P n (a + 3 + j) e
theorem cx_le {f : Nat → Int32} {P : Nat → Prop} : ∀ {n a e : Nat}, cx f P n a e → a ≤ e := by
  intro n
  induction n with
  | zero => intro a e h; exact Nat.le_of_eq h
  | succ n ih =>
    intro a e h
    obtain ⟨-, j, -, -, h2⟩ := h
    have := ih h2
    omega
theorem cx_snoc {f g : Nat → Int32} {P Q : Nat → Prop} {j : Nat} : ∀ {n a e : Nat}, cx f P n a e → (∀ x, x < e → g x = f x) → (∀ x, x < e → P x → Q x) → Q e → j < 16 → g (e + 1) &&& 15 = nI j → cx g Q (n + 1) a (e + 3 + j) := by
  intro n
  induction n with
  | zero =>
    intro a e h hg hP hQ hj h1
    have h : a = e := h
    subst h
    exact ⟨hQ, j, hj, h1, rfl⟩
  | succ n ih =>
    intro a e h hg hP hQ hj h1
    obtain ⟨h2, i, hi, h3, h4⟩ := h
    have h5 := cx_le h4
    exact ⟨hP a (by omega) h2, i, hi, by rw [hg _ (by omega)]; exact h3, ih h4 hg hP hQ hj h1⟩
theorem cx_ch {f : Nat → Int32} {P : Nat → Prop} {us : Nat} : ∀ {n a e : Nat}, cx f P n a e → e ≤ us → ch f us P n a := by
  intro n
  induction n with
  | zero => intro a e _ _; exact trivial
  | succ n ih =>
    intro a e h he
    obtain ⟨h2, i, hi, h3, h4⟩ := h
    have h5 := cx_le h4
    exact ⟨h2, i, hi, h3, by omega, ih h4 he⟩
theorem cx_c {f g : Nat → Int32} {P Q : Nat → Prop} : ∀ {n a e : Nat}, cx f P n a e → (∀ x, x < e → g x = f x) → (∀ x, x < e → P x → Q x) → cx g Q n a e := by
  intro n
  induction n with
  | zero => intro a e h _ _; exact h
  | succ n ih =>
    intro a e h hg hP
    obtain ⟨h2, i, hi, h3, h4⟩ := h
    have h5 := cx_le h4
    exact ⟨hP a (by omega) h2, i, hi, by rw [hg _ (by omega)]; exact h3, ih h4 hg hP⟩
theorem ch_c {f g : Nat → Int32} {P Q : Nat → Prop} {us vs : Nat} (hv : us ≤ vs) (hg : ∀ x, x < us → g x = f x) (hP : ∀ x, x < us → P x → Q x) : ∀ {n a : Nat}, ch f us P n a → ch g vs Q n a := by
  intro n
  induction n with
  | zero => intro a _; exact trivial
  | succ n ih =>
    intro a h
    obtain ⟨h2, i, hi, h3, h4, h5⟩ := h
    exact ⟨hP a (by omega) h2, i, hi, by rw [hg _ (by omega)]; exact h3, by omega, ih h5⟩
theorem PF_c {H K : Nat → Prop} {f g : Nat → Int32} {us : Nat} (hg : ∀ x, x < us → g x = f x) (hH : ∀ x, H x → K x) : ∀ x, x < us → PF H f x → PF K g x := fun x hx h => ⟨hH x h.1, by rw [hg x hx]; exact h.2⟩
/-- the rows of the NEW text u are in τ for its first zs CASES as in σ for those of v -/
def RwN (σ τ : Sg) (v u zs : Nat) : Prop := τ.1 u 1 = σ.1 v 1 ∧ ∀ n, n < zs → τ.1 (u + 1) n = σ.1 (v + 1) n ∧ τ.1 (u + 2) n = σ.1 (v + 2) n ∧ τ.1 (u + 3) n = σ.1 (v + 3) n ∧ τ.1 (u + 4) n = σ.1 (v + 4) n
theorem VNb.m {σ τ : Sg} {v u zs us vs : Nat} {H K : Nat → Prop} (h : VNb σ v zs us H) (hr : RwN σ τ v u zs) (hf : ∀ x, x < us → τ.1 (u + 7) x = σ.1 (v + 7) x) (hu : τ.1 (u + 6) 1 = nI vs) (hv : us ≤ vs) (hv2 : vs ≤ 1920) (hH : ∀ x, H x → K x) (hK : HS K vs) : VNb τ u zs vs K := by
  refine ⟨hv2, hu, fun n hn => ?_, hK⟩
  obtain ⟨h1, h2⟩ := h.2.2.1 n hn
  obtain ⟨r1, r2, r3, r4⟩ := hr.2 n hn
  rw [hr.1, r1, r2, r3, r4]
  refine ⟨fun hm => ?_, ?_⟩
  · obtain ⟨a, k, q1, q2, q3, q4, q5⟩ := h1 hm
    exact ⟨a, k, q1, q2, q3, q4, ch_c hv hf (fun x _ h => hH x h) q5⟩
  · obtain ⟨a, k, q1, q2, q3, q4, q5⟩ := h2
    exact ⟨a, k, q1, q2, q3, q4, ch_c hv hf (PF_c hf hH) q5⟩
/-- one link more behind the cell us -/
def LNK (σ τ : Sg) (u us j : Nat) : Prop := τ.1 (u + 6) 1 = nI (us + 3 + j) ∧ τ.1 (u + 7) (us + 1) &&& 15 = nI j ∧ ∀ x, x < us → τ.1 (u + 7) x = σ.1 (u + 7) x
def Hp (H : Nat → Prop) (us x : Nat) : Prop := H x ∨ x = us
theorem HS.p {H : Nat → Prop} {us j : Nat} (h : HS H us) : HS (Hp H us) (us + 3 + j) := by
  intro a ha
  rcases ha with ha | rfl
  · have h1 := h a ha
    refine ⟨by omega, fun b hb hab => ?_⟩
    rcases hb with hb | rfl
    · exact h1.2 b hb hab
    · exact h1.1
  · refine ⟨by omega, fun b hb hab => ?_⟩
    rcases hb with hb | rfl
    · have := (h b hb).1; omega
    · omega
theorem VNb.link {σ τ : Sg} {u zs us j : Nat} {H : Nat → Prop} (h : VNb σ u zs us H) (hr : RwN σ τ u u zs) (hl : LNK σ τ u us j) (hv2 : us + 3 + j ≤ 1920) : VNb τ u zs (us + 3 + j) (Hp H us) :=
  h.m hr hl.2.2 hl.1 (by omega) hv2 (fun _ h => Or.inl h) h.2.2.2.p
/-- TESTS of the CASE zs -/
def TP (σ : Sg) (u zs us : Nat) (H : Nat → Prop) : Prop := σ.1 u 1 = 0 → ∃ a k, σ.1 (u + 2) zs = nI a ∧ a ≤ 1920 ∧ σ.1 (u + 1) zs = nI k ∧ k ≤ 100 ∧ ch (σ.1 (u + 7)) us H k a
/-- while the TESTS of the CASE zs are laid: k of them -/
def BT (σ : Sg) (u zs us : Nat) (H : Nat → Prop) (k : Nat) : Prop := VNb σ u zs us H ∧ ∃ a, σ.1 (u + 2) zs = nI a ∧ σ.1 (u + 1) zs = nI k ∧ cx (σ.1 (u + 7)) H k a us
/-- while the PUTS of the CASE zs are laid: k of them -/
def BP (σ : Sg) (u zs us : Nat) (H : Nat → Prop) (k : Nat) : Prop := VNb σ u zs us H ∧ TP σ u zs us H ∧ ∃ a, σ.1 (u + 4) zs = nI a ∧ σ.1 (u + 3) zs = nI k ∧ cx (σ.1 (u + 7)) (PF H (σ.1 (u + 7))) k a us
theorem BT.link {σ τ : Sg} {u zs us j k : Nat} {H : Nat → Prop} (h : BT σ u zs us H k) (hr : RwN σ τ u u zs) (h2 : τ.1 (u + 2) zs = σ.1 (u + 2) zs) (h1 : τ.1 (u + 1) zs = nI (k + 1)) (hl : LNK σ τ u us j) (hj : j < 16) (hv2 : us + 3 + j ≤ 1920) : BT τ u zs (us + 3 + j) (Hp H us) (k + 1) := by
  obtain ⟨hV, a, q1, q2, q3⟩ := h
  exact ⟨hV.link hr hl hv2, a, h2.trans q1, h1, cx_snoc q3 hl.2.2 (fun _ _ h => Or.inl h) (Or.inr rfl) hj hl.2.1⟩
theorem BT.done {σ : Sg} {u zs us k : Nat} {H : Nat → Prop} (h : BT σ u zs us H k) (hk : k ≤ 100) : TP σ u zs us H := by
  obtain ⟨hV, a, q1, q2, q3⟩ := h
  have h1 := hV.1
  have h2 := cx_le q3
  exact fun _ => ⟨a, k, q1, by omega, q2, hk, cx_ch q3 (Nat.le_refl _)⟩
theorem TP.m {σ τ : Sg} {u zs us vs : Nat} {H K : Nat → Prop} (h : TP σ u zs us H) (h0 : τ.1 u 1 = σ.1 u 1) (h1 : τ.1 (u + 1) zs = σ.1 (u + 1) zs) (h2 : τ.1 (u + 2) zs = σ.1 (u + 2) zs) (hf : ∀ x, x < us → τ.1 (u + 7) x = σ.1 (u + 7) x) (hv : us ≤ vs) (hH : ∀ x, H x → K x) : TP τ u zs vs K := by
  intro hm
  rw [h0] at hm
  obtain ⟨a, k, q1, q2, q3, q4, q5⟩ := h hm
  rw [h1, h2]
  exact ⟨a, k, q1, q2, q3, q4, ch_c hv hf (fun x _ h => hH x h) q5⟩
theorem BP.link {σ τ : Sg} {u zs us j k : Nat} {H : Nat → Prop} (h : BP σ u zs us H k) (hr : RwN σ τ u u zs) (h1 : τ.1 (u + 1) zs = σ.1 (u + 1) zs) (h2 : τ.1 (u + 2) zs = σ.1 (u + 2) zs) (h4 : τ.1 (u + 4) zs = σ.1 (u + 4) zs) (h3 : τ.1 (u + 3) zs = nI (k + 1)) (hv : fok (τ.1 (u + 7) us)) (hl : LNK σ τ u us j) (hj : j < 16) (hv2 : us + 3 + j ≤ 1920) : BP τ u zs (us + 3 + j) (Hp H us) (k + 1) := by
  obtain ⟨hV, hT, a, q1, q2, q3⟩ := h
  exact ⟨hV.link hr hl hv2, hT.m hr.1 h1 h2 hl.2.2 (by omega) (fun _ h => Or.inl h), a, h4.trans q1, h3, cx_snoc q3 hl.2.2 (PF_c hl.2.2 (fun _ h => Or.inl h)) ⟨Or.inr rfl, hv⟩ hj hl.2.1⟩
theorem BP.done {σ : Sg} {u zs us k : Nat} {H : Nat → Prop} (h : BP σ u zs us H k) (hk : k ≤ 9) : VNb σ u (zs + 1) us H := by
  obtain ⟨hV, hT, a, q1, q2, q3⟩ := h
  have h1 := hV.1
  have h2 := cx_le q3
  refine ⟨hV.1, hV.2.1, fun n hn => ?_, hV.2.2.2⟩
  by_cases e : n = zs
  · subst e
    exact ⟨hT, a, k, q1, by omega, q2, hk, cx_ch q3 (Nat.le_refl _)⟩
  · exact hV.2.2.1 n (by omega)
theorem BT.c {σ τ : Sg} {u zs us k : Nat} {H : Nat → Prop} (h : BT σ u zs us H k) (he : ∀ x y, u ≤ x ∧ x ≤ u + 7 → τ.1 x y = σ.1 x y) : BT τ u zs us H k := by
  obtain ⟨hV, a, q1, q2, q3⟩ := h
  refine ⟨hV.c he, a, by rw [he _ _ (by omega)]; exact q1, by rw [he _ _ (by omega)]; exact q2, ?_⟩
  rw [show τ.1 (u + 7) = σ.1 (u + 7) from funext (fun y => he _ y (by omega))]
  exact q3
theorem BP.c {σ τ : Sg} {u zs us k : Nat} {H : Nat → Prop} (h : BP σ u zs us H k) (he : ∀ x y, u ≤ x ∧ x ≤ u + 7 → τ.1 x y = σ.1 x y) : BP τ u zs us H k := by
  obtain ⟨hV, hT, a, q1, q2, q3⟩ := h
  have e7 : τ.1 (u + 7) = σ.1 (u + 7) := funext (fun y => he _ y (by omega))
  refine ⟨hV.c he, hT.m (he _ _ (by omega)) (he _ _ (by omega)) (he _ _ (by omega)) (fun x _ => he _ x (by omega)) (Nat.le_refl _) (fun _ h => h), a, by rw [he _ _ (by omega)]; exact q1, by rw [he _ _ (by omega)]; exact q2, ?_⟩
  rw [e7]
  exact q3
/-- a new CASE: nothing of it yet -/
theorem VNb.new {σ τ : Sg} {u zs us : Nat} {H : Nat → Prop} (h : VNb σ u zs us H) (hr : RwN σ τ u u zs) (hf : ∀ x, x < us → τ.1 (u + 7) x = σ.1 (u + 7) x) (hu : τ.1 (u + 6) 1 = nI us) : VNb τ u zs us H :=
  h.m hr hf hu (Nat.le_refl _) h.1 (fun _ h => h) h.2.2.2
theorem VNb.z {σ : Sg} {u us : Nat} (hu : σ.1 (u + 6) 1 = nI us) (h : us ≤ 1920) : VNb σ u 0 us (fun _ => False) :=
  ⟨h, hu, fun _ hn => absurd hn (Nat.not_lt_zero _), fun _ h => absurd h (fun z => z)⟩
/-- a WISH: what stands alone in a PUT -/
theorem VNb.alone {σ τ : Sg} {u zs us b m : Nat} {H : Nat → Prop} (h : VNb σ u zs us H) (hb : ch (σ.1 (u + 7)) us (PF H (σ.1 (u + 7))) m b) (hm : 1 ≤ m) (h1 : ∀ x, x ≠ b + 2 → τ.1 (u + 7) x = σ.1 (u + 7) x) (h2 : ∀ x y, u ≤ x ∧ x ≤ u + 6 → τ.1 x y = σ.1 x y) : VNb τ u zs us H := by
  have hH := (ch_s hb hm).1.1
  have hS := h.2.2.2
  have g1 : ∀ x, H x → τ.1 (u + 7) x = σ.1 (u + 7) x := fun x hx => h1 x (fun e => by
    have := (hS b hH).2 x hx (by omega)
    omega)
  have g2 : ∀ x, H x → τ.1 (u + 7) (x + 1) = σ.1 (u + 7) (x + 1) := fun x hx => h1 (x + 1) (fun e => by
    have := (hS b hH).2 x hx (by omega)
    omega)
  have key : ∀ (P Q : Nat → Prop), (∀ x, P x → H x ∧ Q x) → ∀ n a, ch (σ.1 (u + 7)) us P n a → ch (τ.1 (u + 7)) us Q n a := by
    intro P Q hPQ n
    induction n with
    | zero => intro a _; exact trivial
    | succ n ih =>
      intro a hc
      obtain ⟨q1, i, hi, q2, q3, q4⟩ := hc
      exact ⟨(hPQ a q1).2, i, hi, by rw [g2 a (hPQ a q1).1]; exact q2, q3, ih _ q4⟩
  refine ⟨h.1, by rw [h2 _ _ (by omega)]; exact h.2.1, fun n hn => ?_, hS⟩
  rw [h2 u 1 (by omega), h2 (u + 1) n (by omega), h2 (u + 2) n (by omega), h2 (u + 3) n (by omega), h2 (u + 4) n (by omega)]
  obtain ⟨k1, k2⟩ := h.2.2.1 n hn
  refine ⟨fun hm => ?_, ?_⟩
  · obtain ⟨a, k, q1, q2, q3, q4, q5⟩ := k1 hm
    exact ⟨a, k, q1, q2, q3, q4, key H H (fun x hx => ⟨hx, hx⟩) k a q5⟩
  · obtain ⟨a, k, q1, q2, q3, q4, q5⟩ := k2
    exact ⟨a, k, q1, q2, q3, q4, key _ _ (fun x hx => ⟨hx.1, hx.1, by rw [g1 x hx.1]; exact hx.2⟩) k a q5⟩
/-! an OLD text while it is read -/
def VOr (σ : Sg) (t sz us : Nat) : Prop := us ≤ 192 ∧ σ.1 (t + 8) 1 = nI us ∧ ∀ n, n < sz → (σ.1 (t + 2) n = 1 → fok (σ.1 (t + 3) n) ∧ ∃ a, σ.1 (t + 7) n = nI a ∧ sok (σ.1 (t + 9)) us a) ∧ (σ.1 (t + 2) n = 2 → fok (σ.1 (t + 3) n))
theorem sok_c {f g : Nat → Int32} {us vs a : Nat} (h : sok f us a) (hv : us ≤ vs) (hf : ∀ x, x < us → g x = f x) : sok g vs a := by
  obtain ⟨j, h1, h2, h3⟩ := h
  exact ⟨j, h1, by rw [hf a (by omega)]; exact h2, by omega⟩
theorem VOr.c {σ τ : Sg} {t sz us : Nat} (h : VOr σ t sz us) (he : ∀ x y, t ≤ x ∧ x ≤ t + 9 → τ.1 x y = σ.1 x y) : VOr τ t sz us := by
  refine ⟨h.1, by rw [he _ _ (by omega)]; exact h.2.1, fun n hn => ?_⟩
  have e9 : τ.1 (t + 9) = σ.1 (t + 9) := funext (fun y => he _ y (by omega))
  rw [he (t + 2) n (by omega), he (t + 3) n (by omega), he (t + 7) n (by omega), e9]
  exact h.2.2 n hn
/-- one LINE more -/
theorem VOr.line {σ τ : Sg} {t sz us vs : Nat} (h : VOr σ t sz us) (hr : ∀ n, n < sz → τ.1 (t + 2) n = σ.1 (t + 2) n ∧ τ.1 (t + 3) n = σ.1 (t + 3) n ∧ τ.1 (t + 7) n = σ.1 (t + 7) n) (hf : ∀ x, x < us → τ.1 (t + 9) x = σ.1 (t + 9) x) (hu : τ.1 (t + 8) 1 = nI vs) (hv : us ≤ vs) (hv2 : vs ≤ 192) (hl : (τ.1 (t + 2) sz = 1 → fok (τ.1 (t + 3) sz) ∧ ∃ a, τ.1 (t + 7) sz = nI a ∧ sok (τ.1 (t + 9)) vs a) ∧ (τ.1 (t + 2) sz = 2 → fok (τ.1 (t + 3) sz))) : VOr τ t (sz + 1) vs := by
  refine ⟨hv2, hu, fun n hn => ?_⟩
  by_cases e : n = sz
  · subst e; exact hl
  · obtain ⟨r1, r2, r3⟩ := hr n (by omega)
    rw [r1, r2, r3]
    obtain ⟨k1, k2⟩ := h.2.2 n (by omega)
    refine ⟨fun h1 => ?_, k2⟩
    obtain ⟨q1, a, q2, q3⟩ := k1 h1
    exact ⟨q1, a, q2, sok_c q3 hv hf⟩
theorem VOr.z {σ : Sg} {t us : Nat} (hu : σ.1 (t + 8) 1 = nI us) (h : us ≤ 192) : VOr σ t 0 us := ⟨h, hu, fun _ hn => absurd hn (Nat.not_lt_zero _)⟩
/-- a copy of an OLD text -/
theorem VOb.cp {σ τ : Sg} {v t sz us : Nat} (h : VOb σ v sz us) (hr : ∀ n, n < sz → τ.1 (t + 2) n = σ.1 (v + 2) n ∧ τ.1 (t + 3) n = σ.1 (v + 3) n ∧ τ.1 (t + 6) n = σ.1 (v + 6) n ∧ τ.1 (t + 7) n = σ.1 (v + 7) n) (hf : ∀ x, x < us → τ.1 (t + 9) x = σ.1 (v + 9) x) (hu : τ.1 (t + 8) 1 = nI us) : VOb τ t sz us := by
  refine ⟨h.1, hu, fun n hn => ?_⟩
  obtain ⟨r1, r2, r3, r4⟩ := hr n hn
  rw [r1, r2, r3, r4]
  obtain ⟨k1, k2, k3⟩ := h.2.2 n hn
  refine ⟨fun h1 => ?_, k2, k3⟩
  obtain ⟨q1, a, q2, q3⟩ := k1 h1
  exact ⟨q1, a, q2, sok_c q3 (Nat.le_refl _) hf⟩
theorem va_cpy_in {f g : Nat → Int32} {sp dp n k : Nat} (h : k < n) : va_cpy f g sp dp n (dp + k) = f (sp + k) := by
  unfold va_cpy
  rw [if_pos (by omega)]
  congr 1
  omega
theorem cp_in {σ : Sg} {i j n k : Nat} (h : k < n) : (sCp σ i j 0 0 n).1 j k = σ.1 i k := by
  show (if j = j then va_cpy (σ.1 i) (σ.1 j) 0 0 n else σ.1 j) k = _
  rw [if_pos rfl]
  have := va_cpy_in (f := σ.1 i) (g := σ.1 j) (sp := 0) (dp := 0) h
  rw [Nat.zero_add] at this
  exact this

