def sC0 : Sg := sgF LX11
def rgB (fs : List FV) (k : Nat) (lo hi : Int) : Bool := match fs[k]? with
  | some f => decide (lo ≤ f.2.1.toInt) && decide (f.2.1.toInt ≤ hi)
  | none => decide (lo ≤ 0) && decide (0 ≤ hi)
def fvI (fs : List FV) (k : Nat) : Int32 := match fs[k]? with
  | some f => f.2.1
  | none => 0
theorem rg_ok {fs : List FV} {k : Nat} {lo hi : Int} (h : rgB fs k lo hi = true) : lo ≤ (fvI fs k).toInt ∧ (fvI fs k).toInt ≤ hi := by
  unfold rgB at h
  unfold fvI
  cases hf : fs[k]? with
  | none =>
    rw [hf] at h
    simp only [Bool.and_eq_true, decide_eq_true_eq] at h
    exact ⟨by show lo ≤ (0 : Int32).toInt; rw [tl32 0 (by decide)]; exact h.1, by show (0 : Int32).toInt ≤ hi; rw [tl32 0 (by decide)]; exact h.2⟩
  | some f =>
    rw [hf] at h
    simp only [Bool.and_eq_true, decide_eq_true_eq] at h
    exact h
theorem ob_v {L : List FE} {i k ci : Nat} {v : Int32} {fs : List FV} (h : L[i]? = some (0, ci, v, fs)) : (sgF L).1 i k = fvI fs k := by
  show (match L[i]? with
    | some (0, _, _, fs) => (match fs[k]? with | some f => f.2.1 | none => 0)
    | some (_, _, v, es) => exl v es k
    | none => 0) = fvI fs k
  rw [h]
  rfl
theorem ar_v {L : List FE} {i k t n : Nat} {v : Int32} (h : L[i]? = some (t + 1, n, v, [])) : (sgF L).1 i k = v := by
  show (match L[i]? with
    | some (0, _, _, fs) => (match fs[k]? with | some f => f.2.1 | none => 0)
    | some (_, _, v, es) => exl v es k
    | none => 0) = v
  rw [h]
  rfl
def arB (e : FE) (lo hi : Int) : Bool := match e with
  | (_ + 1, _, v, []) => decide (lo ≤ v.toInt) && decide (v.toInt ≤ hi)
  | _ => false
def obB (e : FE) (t : List (Nat × Int × Int)) : Bool := match e with
  | (0, _, _, fs) => t.all (fun q => rgB fs q.1 q.2.1 q.2.2)
  | _ => false
theorem ar_ok {L : List FE} {i k : Nat} {e : FE} {lo hi : Int} (he : L[i]? = some e) (h : arB e lo hi = true) : lo ≤ ((sgF L).1 i k).toInt ∧ ((sgF L).1 i k).toInt ≤ hi := by
  obtain ⟨t, n, v, es⟩ := e
  match t, es, he, h with
  | 0, _, _, h => simp [arB] at h
  | t + 1, f :: r, _, h => simp [arB] at h
  | t + 1, [], he, h =>
    simp only [arB, Bool.and_eq_true, decide_eq_true_eq] at h
    rw [ar_v he]
    exact h
theorem ob_ok {L : List FE} {i : Nat} {e : FE} {t : List (Nat × Int × Int)} (he : L[i]? = some e) (h : obB e t = true) : ∀ q, q ∈ t → q.2.1 ≤ ((sgF L).1 i q.1).toInt ∧ ((sgF L).1 i q.1).toInt ≤ q.2.2 := by
  obtain ⟨ta, n, v, fs⟩ := e
  match ta, he, h with
  | 0, he, h =>
    intro q hq
    have h2 := List.all_eq_true.mp (show t.all (fun q => rgB fs q.1 q.2.1 q.2.2) = true from h) q hq
    rw [ob_v he]
    exact rg_ok h2
  | ta + 1, _, h => simp [obB] at h
def ckE (q : Nat) (e : FE) : Bool := match q with
  | 1 => obB e [(0, (0), (1)), (1, (0), (24))]
  | 2 => obB e [(0, (0), (1)), (1, (0), (1)), (3, (0), (40))]
  | 3 => obB e [(1, (0), (192))]
  | 4 => obB e [(1, (0), (1920))]
  | 5 => obB e [(5, (0), (3))]
  | 6 => arB e (0) (7)
  | 7 => arB e (-99) (99)
  | 8 => obB e [(4, (0), (100)), (5, (0), (100)), (7, (-1), (39))]
  | 9 => arB e (0) (23)
  | 10 => obB e [(1, (0), (600)), (5, (0), (600)), (6, (0), (600))]
  | 11 => obB e [(0, (0), (200)), (1, (0), (3))]
  | 12 => arB e (0) (100)
  | 13 => obB e [(4, (0), (60))]
  | 14 => arB e (0) (255)
  | 15 => arB e (-1) (999)
  | 16 => obB e [(1, (1), (9))]
  | 17 => obB e [(2, (0), (8))]
  | 18 => arB e (-1) (60)
  | 19 => arB e (0) (1)
  | _ => true
def ckL : List FE → List Nat → Bool
  | [], _ => true
  | e :: r, [] => ckE 0 e && ckL r []
  | e :: r, q :: s => ckE q e && ckL r s
theorem ckL_get : ∀ {L : List FE} {T : List Nat} {i : Nat} {e : FE}, ckL L T = true → L[i]? = some e → ckE (T.getD i 0) e = true := by
  intro L
  induction L with
  | nil => intro T i e _ h; simp at h
  | cons x r ih =>
    intro T i e h he
    cases T with
    | nil =>
      have h : (ckE 0 x && ckL r []) = true := h
      rw [Bool.and_eq_true] at h
      cases i with
      | zero => simp at he; subst he; exact h.1
      | succ i => simp at he; exact ih (T := []) (i := i) h.2 he
    | cons q s =>
      have h : (ckE q x && ckL r s) = true := h
      rw [Bool.and_eq_true] at h
      cases i with
      | zero => simp at he; subst he; exact h.1
      | succ i => simp at he; exact (show ckE (s.getD i 0) e = true from ih (T := s) (i := i) h.2 he)
set_option maxRecDepth 100000 in
theorem ck0 : ckL LX11 tcL = true := by decide +kernel
set_option maxRecDepth 100000 in
theorem tcl0 : ∀ i, LX11[i]? = none → tcL.getD i 0 = 0 := by
  intro i h
  have h1 : LX11.length = tcL.length := by decide +kernel
  have h2 := List.getElem?_eq_none_iff.mp h
  rw [List.getD_eq_getElem?_getD, List.getElem?_eq_none (by omega)]
  rfl
theorem TC0 : TC sC0 := by
  intro i k
  cases he : LX11[i]? with
  | none => rw [tcl0 i he]; exact trivial
  | some e =>
    have hck := ckL_get ck0 he
    revert hck
    generalize tcL.getD i 0 = q
    intro hck
    match q, hck with
    | 1, hck =>
      have z := ob_ok he hck
      show if k = 0 then _ else if k = 1 then _ else True
      by_cases e0 : k = 0
      · rw [if_pos e0, e0]; exact z (0, (0), (1)) (by simp)
      rw [if_neg e0]
      by_cases e1 : k = 1
      · rw [if_pos e1, e1]; exact z (1, (0), (24)) (by simp)
      rw [if_neg e1]
      exact trivial
    | 2, hck =>
      have z := ob_ok he hck
      show if k = 0 then _ else if k = 1 then _ else if k = 3 then _ else True
      by_cases e0 : k = 0
      · rw [if_pos e0, e0]; exact z (0, (0), (1)) (by simp)
      rw [if_neg e0]
      by_cases e1 : k = 1
      · rw [if_pos e1, e1]; exact z (1, (0), (1)) (by simp)
      rw [if_neg e1]
      by_cases e3 : k = 3
      · rw [if_pos e3, e3]; exact z (3, (0), (40)) (by simp)
      rw [if_neg e3]
      exact trivial
    | 3, hck =>
      have z := ob_ok he hck
      show if k = 1 then _ else True
      by_cases e1 : k = 1
      · rw [if_pos e1, e1]; exact z (1, (0), (192)) (by simp)
      rw [if_neg e1]
      exact trivial
    | 4, hck =>
      have z := ob_ok he hck
      show if k = 1 then _ else True
      by_cases e1 : k = 1
      · rw [if_pos e1, e1]; exact z (1, (0), (1920)) (by simp)
      rw [if_neg e1]
      exact trivial
    | 5, hck =>
      have z := ob_ok he hck
      show if k = 5 then _ else True
      by_cases e5 : k = 5
      · rw [if_pos e5, e5]; exact z (5, (0), (3)) (by simp)
      rw [if_neg e5]
      exact trivial
    | 6, hck => exact ar_ok he hck
    | 7, hck => exact ar_ok he hck
    | 8, hck =>
      have z := ob_ok he hck
      show if k = 4 then _ else if k = 5 then _ else if k = 7 then _ else True
      by_cases e4 : k = 4
      · rw [if_pos e4, e4]; exact z (4, (0), (100)) (by simp)
      rw [if_neg e4]
      by_cases e5 : k = 5
      · rw [if_pos e5, e5]; exact z (5, (0), (100)) (by simp)
      rw [if_neg e5]
      by_cases e7 : k = 7
      · rw [if_pos e7, e7]; exact z (7, (-1), (39)) (by simp)
      rw [if_neg e7]
      exact trivial
    | 9, hck => exact ar_ok he hck
    | 10, hck =>
      have z := ob_ok he hck
      show if k = 1 then _ else if k = 5 then _ else if k = 6 then _ else True
      by_cases e1 : k = 1
      · rw [if_pos e1, e1]; exact z (1, (0), (600)) (by simp)
      rw [if_neg e1]
      by_cases e5 : k = 5
      · rw [if_pos e5, e5]; exact z (5, (0), (600)) (by simp)
      rw [if_neg e5]
      by_cases e6 : k = 6
      · rw [if_pos e6, e6]; exact z (6, (0), (600)) (by simp)
      rw [if_neg e6]
      exact trivial
    | 11, hck =>
      have z := ob_ok he hck
      show if k = 0 then _ else if k = 1 then _ else True
      by_cases e0 : k = 0
      · rw [if_pos e0, e0]; exact z (0, (0), (200)) (by simp)
      rw [if_neg e0]
      by_cases e1 : k = 1
      · rw [if_pos e1, e1]; exact z (1, (0), (3)) (by simp)
      rw [if_neg e1]
      exact trivial
    | 12, hck => exact ar_ok he hck
    | 13, hck =>
      have z := ob_ok he hck
      show if k = 4 then _ else True
      by_cases e4 : k = 4
      · rw [if_pos e4, e4]; exact z (4, (0), (60)) (by simp)
      rw [if_neg e4]
      exact trivial
    | 14, hck => exact ar_ok he hck
    | 15, hck => exact ar_ok he hck
    | 16, hck =>
      have z := ob_ok he hck
      show if k = 1 then _ else True
      by_cases e1 : k = 1
      · rw [if_pos e1, e1]; exact z (1, (1), (9)) (by simp)
      rw [if_neg e1]
      exact trivial
    | 17, hck =>
      have z := ob_ok he hck
      show if k = 2 then _ else True
      by_cases e2 : k = 2
      · rw [if_pos e2, e2]; exact z (2, (0), (8)) (by simp)
      rw [if_neg e2]
      exact trivial
    | 18, hck => exact ar_ok he hck
    | 19, hck => exact ar_ok he hck
    | 0, _ => exact trivial
    | q + 20, _ => exact trivial
def oo (k : Nat) : Nat := if k = 8 then 192 else 9 + 22 * k
def nn_ (k : Nat) : Nat := if k = 8 then 202 else 19 + 22 * k
theorem VP0 {pg t u : Nat} (h1 : ∀ i, i < 3 → sC0.1 (pg + 20) i = 0 ∧ sC0.1 (pg + 21) i = 0) (h2 : sC0.1 t 1 = 0 ∧ sC0.1 (t + 8) 1 = 0 ∧ sC0.1 u 3 = 0 ∧ sC0.1 (u + 6) 1 = 0) : VP sC0 pg t u := by
  refine ⟨fun i hi => by rw [(h1 i hi).1, (h1 i hi).2]; exact Int.le_refl _, ⟨0, 0, h2.1, by omega, by omega, h2.2.1, fun n hn => absurd hn (Nat.not_lt_zero n)⟩, 0, 0, (fun _ => False), h2.2.2.1, by omega, VNb.z h2.2.2.2 (by omega)⟩
set_option maxRecDepth 100000 in
theorem vp0a : ∀ k, k < 8 → ∀ i, i < 3 → sC0.1 (8 + 22 * k + 20) i = 0 ∧ sC0.1 (8 + 22 * k + 21) i = 0 := by decide +kernel
set_option maxRecDepth 100000 in
theorem vp0b : ∀ k, k < 8 → sC0.1 (oo k) 1 = 0 ∧ sC0.1 (oo k + 8) 1 = 0 ∧ sC0.1 (nn_ k) 3 = 0 ∧ sC0.1 (nn_ k + 6) 1 = 0 := by decide +kernel
set_option maxRecDepth 100000 in
theorem vp0c : ∀ w, w < 3 → ∀ k, k < 8 → ∀ i, i < 3 → sC0.1 (257 + 183 * w + 22 * k + 20) i = 0 ∧ sC0.1 (257 + 183 * w + 22 * k + 21) i = 0 := by decide +kernel
set_option maxRecDepth 100000 in
theorem vp0d : ∀ w, w < 3 → ∀ k, k < 8 → sC0.1 (258 + 183 * w + 22 * k) 1 = 0 ∧ sC0.1 (258 + 183 * w + 22 * k + 8) 1 = 0 ∧ sC0.1 (268 + 183 * w + 22 * k) 3 = 0 ∧ sC0.1 (268 + 183 * w + 22 * k + 6) 1 = 0 := by decide +kernel
set_option maxRecDepth 100000 in
theorem pt0a : ∀ k, k < 8 → sC0.2.2 (8 + 22 * k) 2 = some (oo k) ∧ sC0.2.2 (8 + 22 * k) 3 = some (nn_ k) := by decide +kernel
set_option maxRecDepth 100000 in
theorem pt0b : sC0.2.2 186 10 = some (oo 8) ∧ sC0.2.2 186 11 = some (nn_ 8) ∧ sC0.2.2 0 10 = some 228 ∧ sC0.2.2 0 11 = some 239 := by decide +kernel
theorem pt0c : ∀ k, k < 9 → oo k ∈ moL ∧ nn_ k ∈ mnL := by decide +kernel
theorem pt0d : ∀ i, i < 9 → ∀ j, j < 9 → i ≠ j → oo i ≠ oo j ∧ nn_ i ≠ nn_ j := by decide +kernel
set_option maxRecDepth 100000 in
theorem pt0e : ∀ w, w < 3 → ∀ k, k < 8 → sC0.2.2 (257 + 183 * w + 22 * k) 2 = some (258 + 183 * w + 22 * k) ∧ sC0.2.2 (257 + 183 * w + 22 * k) 3 = some (268 + 183 * w + 22 * k) := by decide +kernel
theorem nd0 {f : Nat → Int32} (h : ∀ q, q < 8 → f q = 0) : NDc f := by
  refine ⟨fun _ => 0, fun p hp q hq hb => ?_⟩
  rw [show nd f p = 0 from nd_e (h p hp) (by omega)] at hb
  exact absurd hb (by unfold bt; simp)
set_option maxRecDepth 100000 in
theorem nd0a : ∀ q, q < 8 → sC0.1 4 q = 0 := by decide +kernel
set_option maxRecDepth 100000 in
theorem nd0b : ∀ w, w < 3 → ∀ q, q < 8 → sC0.1 (253 + 183 * w) q = 0 := by decide +kernel
theorem JC0 : JC sC0 := ⟨oo, nn_, ⟨pt0a, pt0b.1, pt0b.2.1, pt0c, pt0d, pt0e⟩, fun k hk => VP0 (vp0a k hk) (vp0b k hk), fun w hw k hk => VP0 (vp0c w hw k hk) (vp0d w hw k hk), nd0 nd0a, fun w hw => nd0 (nd0b w hw), Or.inl ⟨pt0b.2.2.1, pt0b.2.2.2⟩⟩
theorem tz32 : (0 : Int32).toInt = 0 := by decide
theorem tm132 : (-1 : Int32).toInt = -1 := by decide
theorem t132 : (1 : Int32).toInt = 1 := by decide
theorem w0T (k : Nat) : wTy k (w0 k).toInt := by
  by_cases h3 : k = 3
  · subst h3
    show (1 : Int) ≤ (w0 3).toInt ∧ (w0 3).toInt ≤ 9
    decide
  by_cases h8 : 8 ≤ k ∧ k < 168
  · have e : w0 k = w0r ((k - 8) % 20) := by unfold w0; rw [if_neg h3, if_pos h8]
    rw [e]
    unfold wTy
    rw [if_neg (by omega), if_neg h3, if_pos h8]
    by_cases h9 : k % 20 = 9
    · rw [if_pos h9, show (k - 8) % 20 = 1 by omega]; decide
    · rw [if_neg h9]
      by_cases h10 : k % 20 = 10
      · rw [if_pos h10, show (k - 8) % 20 = 2 by omega]; decide
      · rw [if_neg h10]; exact trivial
  by_cases hp : 413480 ≤ k ∧ k < 413544
  · have e : w0 k = -1 := by unfold w0; rw [if_neg h3, if_neg h8, if_pos hp]
    rw [e, tm132]
    unfold wTy
    rw [if_neg (by omega), if_neg h3, if_neg h8, if_neg (by omega), if_neg (by omega), if_neg (by omega), if_pos hp]
    omega
  · have e : w0 k = 0 := by unfold w0; rw [if_neg h3, if_neg h8, if_neg hp]
    rw [e, tz32]
    unfold wTy
    rw [if_neg h3, if_neg h8, if_neg hp]
    (repeat' split) <;> first | trivial | omega
theorem wT0 (k : Nat) (h : k ≠ 3) : wTy k 0 := by
  unfold wTy
  rw [if_neg h]
  (repeat' split) <;> first | trivial | omega
theorem TM0 : TM sM0 := by
  intro i k
  by_cases h0 : i = 0
  · subst h0
    show tF k (if k = 13 ∨ k = 27 then (-1 : Int32) else 0).toInt
    by_cases h : k = 13 ∨ k = 27
    · rw [if_pos h, tm132]
      unfold tF
      rcases h with rfl | rfl <;> ((repeat' split) <;> first | trivial | omega)
    · rw [if_neg h, tz32]
      unfold tF
      (repeat' split) <;> first | trivial | omega
  by_cases h1 : i = 1
  · subst h1
    exact w0T k
  by_cases h2 : i = 33
  · subst h2
    show -1 ≤ (if k < 4 then (-1 : Int32) else 0).toInt ∧ (if k < 4 then (-1 : Int32) else 0).toInt ≤ 60
    split
    · rw [tm132]; omega
    · rw [tz32]; omega
  have e : sM0.1 i k = 0 := by
    show (if i = 0 then (if k = 13 ∨ k = 27 then (-1 : Int32) else 0) else if i = 1 then w0 k else if i = 33 then (if k < 4 then -1 else 0) else 0) = 0
    rw [if_neg h0, if_neg h1, if_neg h2]
  rw [e, tz32]
  unfold tyM
  split
  · exact absurd rfl h0
  · exact absurd rfl h1
  all_goals first | trivial | omega | (split <;> first | trivial | omega | (exact wT0 _ (by omega)))
theorem JM0 : JM sM0 := by
  have hz : ∀ j, 413544 ≤ j → sM0.1 1 j = 0 := fun j h => w0_z j (by omega) (Or.inr h)
  refine ⟨⟨fun _ => 0, fun p hp q hq he => ?_⟩, fun k hk => ⟨⟨fun _ => 0, fun p hp q hq he => ?_⟩, fun h => ?_⟩⟩
  · rw [hz _ (by omega)] at he
    exact absurd he (by decide)
  · exact absurd he (by show ¬ (0 : Int32) = 1; decide)
  · exact absurd h (by show ¬ (0 : Int32) = 1; decide)
