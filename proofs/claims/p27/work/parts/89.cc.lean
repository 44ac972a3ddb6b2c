def SETQ (σ τ : Sg) (t ln us : Nat) : Prop := ∃ vs, τ.1 (t + 8) 1 = nI vs ∧ us ≤ vs ∧ vs ≤ us + 8 ∧ (∀ x, x < us → τ.1 (t + 9) x = σ.1 (t + 9) x) ∧ fok (τ.1 (t + 3) ln) ∧ (∃ a, τ.1 (t + 7) ln = nI a ∧ sok (τ.1 (t + 9)) vs a) ∧ ∀ n, n ≠ ln → τ.1 (t + 3) n = σ.1 (t + 3) n ∧ τ.1 (t + 7) n = σ.1 (t + 7) n
def IFQ (σ τ : Sg) (t ln : Nat) : Prop := fok (τ.1 (t + 3) ln) ∧ ∀ n, n ≠ ln → τ.1 (t + 3) n = σ.1 (t + 3) n
def ACTQ (τ : Sg) (t ln us : Nat) : Prop := ∃ vs, VOr τ t (ln + 1) vs ∧ vs ≤ us + 8
def LINQ (τ : Sg) (t ln : Nat) : Prop := ln < 24 ∧ τ.1 t 1 = nI (ln + 1) ∧ ∃ vs, VOr τ t (ln + 1) vs ∧ vs ≤ 8 * (ln + 1)
def OLQ (τ : Sg) (t ln : Nat) : Prop := ln ≤ 24 ∧ τ.1 t 1 = nI ln ∧ ∃ vs, VOr τ t ln vs ∧ vs ≤ 8 * ln
theorem VOr.c2 {σ τ : Sg} {t sz us : Nat} (h : VOr σ t sz us) (he : ∀ x y, t + 2 ≤ x ∧ x ≤ t + 9 → τ.1 x y = σ.1 x y) : VOr τ t sz us := by
  refine ⟨h.1, by rw [he _ _ (by omega)]; exact h.2.1, fun n hn => ?_⟩
  have e9 : τ.1 (t + 9) = σ.1 (t + 9) := funext (fun y => he _ y (by omega))
  rw [he (t + 2) n (by omega), he (t + 3) n (by omega), he (t + 7) n (by omega), e9]
  exact h.2.2 n hn
theorem OLQ.c {σ τ : Sg} {t ln : Nat} (h : OLQ σ t ln) (he : ∀ x y, t ≤ x ∧ x ≤ t + 9 → τ.1 x y = σ.1 x y) : OLQ τ t ln := by
  obtain ⟨h1, h2, vs, h3, h4⟩ := h
  exact ⟨h1, (he _ _ (by omega)).trans h2, vs, h3.c he, h4⟩
theorem nI_inj {a b : Nat} (ha : a < 2147483648) (hb : b < 2147483648) (h : nI a = nI b) : a = b := by
  have h1 := congrArg Int32.toInt h
  rw [tnI a ha, tnI b hb] at h1
  omega
theorem TK.g {σ τ : Sg} {tk n : Nat} {v : Int32} (hK : TK σ tk) (hq : ∃ m, m ≤ tk ∧ τ.1 186 6 = nI m ∧ τ.1 188 m = 3) (h6 : τ.1 186 6 = nI n) (hn : n ≤ 600) (h8 : ∀ x, τ.1 188 x = σ.1 188 x) (e : σ.1 189 n = v) : fok v := by
  obtain ⟨m, hm, h1, h2⟩ := hq
  have h3 := hK.1
  have e2 : m = n := nI_inj (by omega) (by omega) (h1.symm.trans h6)
  subst e2
  rw [← e]
  exact hK.f hm (by rw [← h8]; exact h2)
set_option maxRecDepth 100000 in
set_option maxHeartbeats 8000000 in
theorem c_X5_readSet (l : Launch) (G : va_G) (kc : KC) (ad : Nat → Nat) (σ : Sg) (ln : Nat) {tk t us : Nat} (hK : TK σ tk) (hA : (σ.1 186 6).toInt ≤ (tk : Int)) (hto : σ.2.2 186 10 = some t) (ht : t ∈ otL) (hln : ln < 24) (hus : σ.1 (t + 8) 1 = nI us) (hu8 : us + 8 ≤ 192) (hT : TC σ) : MI l G kc yX5_readSet cX5_readSet 2 (some .boolean) 3 66 [.ref (ad 186), .int (nI ln)] shC ad σ (fun r σ1 => ((r = 1 ∧ (SETQ σ σ1 t ln us)) ∨ (r = 0 ∧ (True))) ∧ ((σ1.1 186 6).toInt ≤ (tk : Int)) ∧ TC σ1 ∧ frC (fun x y => (x = 186 ∧ y = 6) ∨ (x = 186 ∧ y = 7) ∨ (x = 186 ∧ y = 8) ∨ (x = 191) ∨ (x = t + 3) ∨ (x = t + 7) ∨ (x = t + 8 ∧ y = 1) ∨ (x = t + 9)) σ σ1) := by
  intro sz
  refine z_body (y := yX5_readSet) (n := 2) (av := [.ref (ad 186), .int (nI ln)]) (Qc := fun A => va_Qi (fun r σ1 => ((r = 1 ∧ (SETQ σ σ1 t ln us)) ∨ (r = 0 ∧ (True))) ∧ ((σ1.1 186 6).toInt ≤ (tk : Int)) ∧ TC σ1 ∧ frC (fun x y => (x = 186 ∧ y = 6) ∨ (x = 186 ∧ y = 7) ∨ (x = 186 ∧ y = 8) ∨ (x = 191) ∨ (x = t + 3) ∨ (x = t + 7) ∨ (x = t + 8 ∧ y = 1) ∨ (x = t + 9)) σ σ1) (PoC G kc shC ad A) A) (plainFor_of_name (by decide)) (Nat.le_of_ble_eq_true rfl) (fun pr e s m below meth c A C0 hr hlk hnm hw hRo ls hl => ?_) sz
  have hx := C0.1
  have hb := C0.2.1
  have hown := C0.2.2.2.1
  have hts := C0.2.2.2.2.1
  have hl : lv_has ls 2 [(0, .ref (ad 186)), (1, .int (nI ln))] := hl
  have htk6 := hK.1
  refine lv_aload_n hx hb (dkP dF_42 DX5_readSet (i := 0) rfl rfl) rfl (lv_at hl 0 rfl) ?_
  refine z_gms C0 hw 186 10 t hto (fk_of shc_186 rfl) fl_X5_35 (dk2 dF_180 DX5_readSet (i := 1) rfl rfl rfl) ?_
  refine z_gr C0 hw t 4 (t + 3) (fk_of (shl_ot_0 t ht) rfl) fl_X5_133 (dk2 dF_180 DX5_readSet (i := 2) rfl rfl rfl) ?_
  refine lv_iload_n hx hb (dkP dF_27 DX5_readSet (i := 3) rfl rfl) rfl (lv_at hl 1 rfl) ?_
  refine lv_aload_n hx hb (dkP dF_42 DX5_readSet (i := 4) rfl rfl) rfl (lv_at hl 0 rfl) ?_
  refine z_gr C0 hw 186 3 189 (fk_of shc_186 rfl) fl_X5_19 (dk2 dF_180 DX5_readSet (i := 5) rfl rfl rfl) ?_
  refine lv_aload_n hx hb (dkP dF_42 DX5_readSet (i := 6) rfl rfl) rfl (lv_at hl 0 rfl) ?_
  refine z_gi C0 hw 186 6 (fk_of shc_186 rfl) fl_X5_55 (dk2 dF_180 DX5_readSet (i := 7) rfl rfl rfl) ?_
  obtain ⟨n1, hn1, en1⟩ := rngN (x := σ.1 186 6) (h := 600) (tcr_10_6 hT tcl_186)
  refine z_top (y := nI n1) en1 ?_
  have hat2 : n1 ≤ tk := by have h9 : (σ.1 186 6).toInt ≤ (tk : Int) := hA; rw [en1, tnI _ (by omega)] at h9; omega
  refine z_ialdN (n := 601) C0 hw 189 n1 (ak_of shc_189) (by omega) (by decide) (dkP dF_46 DX5_readSet (i := 8) rfl rfl) ?_
  obtain ⟨v3, ev3⟩ : ∃ y : Int32, σ.1 189 n1 = y := ⟨_, rfl⟩
  refine z_top (y := v3) ev3 ?_
  refine z_iastN (n := 24) C0 hw (t + 3) ln (ak_of (shl_ot_3 t ht)) (by omega) (by decide) (dkP dF_79 DX5_readSet (i := 9) rfl rfl) (fun H locs hw => ?_)
  have hT4 : TC (sI σ (t + 3) ln v3) := TC.w hT (tc0 (tck_ot_3 t ht))
  have hF4 : frC (fun x y => (x = 186 ∧ y = 6) ∨ (x = 186 ∧ y = 7) ∨ (x = 186 ∧ y = 8) ∨ (x = 191) ∨ (x = t + 3) ∨ (x = t + 7) ∨ (x = t + 8 ∧ y = 1) ∨ (x = t + 9)) σ (sI σ (t + 3) ln v3) := frC.w frC.refl (by show ((t + 3) = 186 ∧ ln = 6) ∨ ((t + 3) = 186 ∧ ln = 7) ∨ ((t + 3) = 186 ∧ ln = 8) ∨ ((t + 3) = 191) ∨ ((t + 3) = t + 3) ∨ ((t + 3) = t + 7) ∨ ((t + 3) = t + 8 ∧ ln = 1) ∨ ((t + 3) = t + 9); exact Or.inr (Or.inr (Or.inr (Or.inr (Or.inl rfl)))))
  refine lv_aload_n hx hb (dkP dF_42 DX5_readSet (i := 10) rfl rfl) rfl (lv_at hl 0 rfl) ?_
  refine lv_iconst (v := 3) hx hb (dkP dF_6 DX5_readSet (i := 11) rfl rfl) (by decide) ?_
  refine zk_I hw (zr_V (As := [.int 3]) (rest := []) C0 (c_X5_take l G kc ad (sI σ (t + 3) ln v3) 3 (hK.c (fun x => ((rd_n (by have hd1_ := otN t ht; omega)).trans rfl)) (fun x => ((rd_n (by have hd1_ := otN t ht; omega)).trans rfl))) (by rw [((rd_n (by have hd1_ := otN t ht; omega)).trans en1), tnI _ (by omega)]; omega) (by decide) hT4 _) cv_X5_take lk_X5_115 (zp_V C0 hRo hw 186 shc_186 rfl rfl) rfl hl.1 rfl ⟨by decide, by decide⟩ (Nat.le_of_ble_eq_true rfl) (dk2 dF_182 DX5_readSet (i := 12) rfl rfl rfl) ⟨Nat.le_refl _, Nat.le_refl _⟩) (fun r5 s5 H locs hp hw => ?_)
  obtain ⟨f5_0, f5_1, hT5, hG5⟩ := hp
  have hF5 : frC (fun x y => (x = 186 ∧ y = 6) ∨ (x = 186 ∧ y = 7) ∨ (x = 186 ∧ y = 8) ∨ (x = 191) ∨ (x = t + 3) ∨ (x = t + 7) ∨ (x = t + 8 ∧ y = 1) ∨ (x = t + 9)) σ s5 := frC.t hF4 hG5 (fun x y h => by have h : (x = 186 ∧ y = 6) ∨ (x = 186 ∧ y = 7) ∨ (x = 186 ∧ y = 8) := h; show (x = 186 ∧ y = 6) ∨ (x = 186 ∧ y = 7) ∨ (x = 186 ∧ y = 8) ∨ (x = 191) ∨ (x = t + 3) ∨ (x = t + 7) ∨ (x = t + 8 ∧ y = 1) ∨ (x = t + 9); rcases h with h | h | h; (· exact Or.inl h); (· exact Or.inr (Or.inl h)); (· exact Or.inr (Or.inr (Or.inl h))))
  rcases f5_0 with ⟨rfl, hc5⟩ | ⟨rfl, hc5⟩
  · skip
    refine lv_if_eq (tgt := 42) hx hb (dkS dF_153 DX5_readSet (i := 13) rfl rfl rfl) (by decide) (fun h => absurd h (by decide)) (fun _ => ?_)
    refine lv_aload_n hx hb (dkP dF_42 DX5_readSet (i := 14) rfl rfl) rfl (lv_at hl 0 rfl) ?_
    refine lv_bipush (v := 61) hx hb (dks dF_16 DX5_readSet (i := 15) rfl rfl rfl) (by decide) ?_
    refine zk_I hw (zr_V (As := [.int 61]) (rest := []) C0 (c_X5_take l G kc ad s5 61 (hK.c (fun x => ((hG5.1 188 x (by show ¬ ((188 = 186 ∧ x = 6) ∨ (188 = 186 ∧ x = 7) ∨ (188 = 186 ∧ x = 8)); intro h_; rcases h_ with h_ | h_ | h_; (· omega); (· omega); (· omega))).trans ((rd_n (by have hd1_ := otN t ht; omega)).trans rfl))) (fun x => ((hG5.1 189 x (by show ¬ ((189 = 186 ∧ x = 6) ∨ (189 = 186 ∧ x = 7) ∨ (189 = 186 ∧ x = 8)); intro h_; rcases h_ with h_ | h_ | h_; (· omega); (· omega); (· omega))).trans ((rd_n (by have hd1_ := otN t ht; omega)).trans rfl)))) f5_1 (by decide) hT5 _) cv_X5_take lk_X5_115 (zp_V C0 hRo hw 186 shc_186 rfl rfl) rfl hl.1 rfl ⟨by decide, by decide⟩ (Nat.le_of_ble_eq_true rfl) (dk2 dF_182 DX5_readSet (i := 16) rfl rfl rfl) ⟨Nat.le_refl _, Nat.le_refl _⟩) (fun r6 s6 H locs hp hw => ?_)
    obtain ⟨f6_0, f6_1, hT6, hG6⟩ := hp
    have hF6 : frC (fun x y => (x = 186 ∧ y = 6) ∨ (x = 186 ∧ y = 7) ∨ (x = 186 ∧ y = 8) ∨ (x = 191) ∨ (x = t + 3) ∨ (x = t + 7) ∨ (x = t + 8 ∧ y = 1) ∨ (x = t + 9)) σ s6 := frC.t hF5 hG6 (fun x y h => by have h : (x = 186 ∧ y = 6) ∨ (x = 186 ∧ y = 7) ∨ (x = 186 ∧ y = 8) := h; show (x = 186 ∧ y = 6) ∨ (x = 186 ∧ y = 7) ∨ (x = 186 ∧ y = 8) ∨ (x = 191) ∨ (x = t + 3) ∨ (x = t + 7) ∨ (x = t + 8 ∧ y = 1) ∨ (x = t + 9); rcases h with h | h | h; (· exact Or.inl h); (· exact Or.inr (Or.inl h)); (· exact Or.inr (Or.inr (Or.inl h))))
    rcases f6_0 with ⟨rfl, hc6⟩ | ⟨rfl, hc6⟩
    · skip
      refine lv_if_eq (tgt := 42) hx hb (dkS dF_153 DX5_readSet (i := 17) rfl rfl rfl) (by decide) (fun h => absurd h (by decide)) (fun _ => ?_)
      refine lv_aload_n hx hb (dkP dF_42 DX5_readSet (i := 18) rfl rfl) rfl (lv_at hl 0 rfl) ?_
      refine zk_I hw (zr_V (As := []) (rest := []) C0 (c_X5_readSum l G kc ad s6 (hK.c (fun x => ((hG6.1 188 x (by show ¬ ((188 = 186 ∧ x = 6) ∨ (188 = 186 ∧ x = 7) ∨ (188 = 186 ∧ x = 8)); intro h_; rcases h_ with h_ | h_ | h_; (· omega); (· omega); (· omega))).trans ((hG5.1 188 x (by show ¬ ((188 = 186 ∧ x = 6) ∨ (188 = 186 ∧ x = 7) ∨ (188 = 186 ∧ x = 8)); intro h_; rcases h_ with h_ | h_ | h_; (· omega); (· omega); (· omega))).trans ((rd_n (by have hd1_ := otN t ht; omega)).trans rfl)))) (fun x => ((hG6.1 189 x (by show ¬ ((189 = 186 ∧ x = 6) ∨ (189 = 186 ∧ x = 7) ∨ (189 = 186 ∧ x = 8)); intro h_; rcases h_ with h_ | h_ | h_; (· omega); (· omega); (· omega))).trans ((hG5.1 189 x (by show ¬ ((189 = 186 ∧ x = 6) ∨ (189 = 186 ∧ x = 7) ∨ (189 = 186 ∧ x = 8)); intro h_; rcases h_ with h_ | h_ | h_; (· omega); (· omega); (· omega))).trans ((rd_n (by have hd1_ := otN t ht; omega)).trans rfl))))) f6_1 hT6 _) cv_X5_readSum lk_X5_136 (zp_V C0 hRo hw 186 shc_186 rfl rfl) rfl hl.1 rfl ⟨by decide, by decide⟩ (Nat.le_of_ble_eq_true rfl) (dk2 dF_182 DX5_readSet (i := 19) rfl rfl rfl) ⟨Nat.le_refl _, Nat.le_refl _⟩) (fun r7 s7 H locs hp hw => ?_)
      obtain ⟨f7_0, f7_1, hT7, hG7⟩ := hp
      have hF7 : frC (fun x y => (x = 186 ∧ y = 6) ∨ (x = 186 ∧ y = 7) ∨ (x = 186 ∧ y = 8) ∨ (x = 191) ∨ (x = t + 3) ∨ (x = t + 7) ∨ (x = t + 8 ∧ y = 1) ∨ (x = t + 9)) σ s7 := frC.t hF6 hG7 (fun x y h => by have h : (x = 186 ∧ y = 6) ∨ (x = 186 ∧ y = 7) ∨ (x = 186 ∧ y = 8) ∨ (x = 191) := h; show (x = 186 ∧ y = 6) ∨ (x = 186 ∧ y = 7) ∨ (x = 186 ∧ y = 8) ∨ (x = 191) ∨ (x = t + 3) ∨ (x = t + 7) ∨ (x = t + 8 ∧ y = 1) ∨ (x = t + 9); rcases h with h | h | h | h; (· exact Or.inl h); (· exact Or.inr (Or.inl h)); (· exact Or.inr (Or.inr (Or.inl h))); (· exact Or.inr (Or.inr (Or.inr (Or.inl h)))))
      rcases f7_0 with ⟨rfl, hc7⟩ | ⟨rfl, hc7⟩
      · skip
        refine lv_if_ne (tgt := 44) hx hb (dkS dF_154 DX5_readSet (i := 20) rfl rfl rfl) (by decide) (fun _ => ?_) (fun h => absurd h (by decide))
        refine lv_aload_n hx hb (dkP dF_42 DX5_readSet (i := 23) rfl rfl) rfl (lv_at hl 0 rfl) ?_
        refine z_gms C0 hw 186 10 t ((congrFun (congrFun (hG7.2.trans (hG6.2.trans hG5.2)) _) _).trans hto) (fk_of shc_186 rfl) fl_X5_35 (dk2 dF_180 DX5_readSet (i := 24) rfl rfl rfl) ?_
        refine z_gr C0 hw t 8 (t + 7) (fk_of (shl_ot_0 t ht) rfl) fl_X5_140 (dk2 dF_180 DX5_readSet (i := 25) rfl rfl rfl) ?_
        refine lv_iload_n hx hb (dkP dF_27 DX5_readSet (i := 26) rfl rfl) rfl (lv_at hl 1 rfl) ?_
        refine lv_aload_n hx hb (dkP dF_42 DX5_readSet (i := 27) rfl rfl) rfl (lv_at hl 0 rfl) ?_
        refine z_gms C0 hw 186 10 t ((congrFun (congrFun (hG7.2.trans (hG6.2.trans hG5.2)) _) _).trans hto) (fk_of shc_186 rfl) fl_X5_35 (dk2 dF_180 DX5_readSet (i := 28) rfl rfl rfl) ?_
        refine z_gr C0 hw t 9 (t + 8) (fk_of (shl_ot_0 t ht) rfl) fl_X5_143 (dk2 dF_180 DX5_readSet (i := 29) rfl rfl rfl) ?_
        refine z_gi C0 hw (t + 8) 1 (fk_of (shl_ot_8 t ht) rfl) fl_X5_147 (dk2 dF_180 DX5_readSet (i := 30) rfl rfl rfl) ?_
        refine z_top (y := (nI us)) ((hG7.1 (t + 8) 1 (by show ¬ (((t + 8) = 186 ∧ 1 = 6) ∨ ((t + 8) = 186 ∧ 1 = 7) ∨ ((t + 8) = 186 ∧ 1 = 8) ∨ ((t + 8) = 191)); intro h_; rcases h_ with h_ | h_ | h_ | h_; (· have hd0_ := otN t ht; omega); (· have hd0_ := otN t ht; omega); (· have hd0_ := otN t ht; omega); (· have hd0_ := otN t ht; omega))).trans ((hG6.1 (t + 8) 1 (by show ¬ (((t + 8) = 186 ∧ 1 = 6) ∨ ((t + 8) = 186 ∧ 1 = 7) ∨ ((t + 8) = 186 ∧ 1 = 8)); intro h_; rcases h_ with h_ | h_ | h_; (· have hd0_ := otN t ht; omega); (· have hd0_ := otN t ht; omega); (· have hd0_ := otN t ht; omega))).trans ((hG5.1 (t + 8) 1 (by show ¬ (((t + 8) = 186 ∧ 1 = 6) ∨ ((t + 8) = 186 ∧ 1 = 7) ∨ ((t + 8) = 186 ∧ 1 = 8)); intro h_; rcases h_ with h_ | h_ | h_; (· have hd0_ := otN t ht; omega); (· have hd0_ := otN t ht; omega); (· have hd0_ := otN t ht; omega))).trans ((rd_n (by omega)).trans hus)))) ?_
        refine z_iastN (n := 24) C0 hw (t + 7) ln (ak_of (shl_ot_7 t ht)) (by omega) (by decide) (dkP dF_79 DX5_readSet (i := 31) rfl rfl) (fun H locs hw => ?_)
        have hT8 : TC (sI s7 (t + 7) ln (nI us)) := TC.w hT7 (tc0 (tck_ot_7 t ht))
        have hF8 : frC (fun x y => (x = 186 ∧ y = 6) ∨ (x = 186 ∧ y = 7) ∨ (x = 186 ∧ y = 8) ∨ (x = 191) ∨ (x = t + 3) ∨ (x = t + 7) ∨ (x = t + 8 ∧ y = 1) ∨ (x = t + 9)) σ (sI s7 (t + 7) ln (nI us)) := frC.w hF7 (by show ((t + 7) = 186 ∧ ln = 6) ∨ ((t + 7) = 186 ∧ ln = 7) ∨ ((t + 7) = 186 ∧ ln = 8) ∨ ((t + 7) = 191) ∨ ((t + 7) = t + 3) ∨ ((t + 7) = t + 7) ∨ ((t + 7) = t + 8 ∧ ln = 1) ∨ ((t + 7) = t + 9); exact Or.inr (Or.inr (Or.inr (Or.inr (Or.inr (Or.inl rfl))))))
        refine lv_aload_n hx hb (dkP dF_42 DX5_readSet (i := 32) rfl rfl) rfl (lv_at hl 0 rfl) ?_
        refine z_gms C0 hw 186 10 t ((congrFun (congrFun (hG7.2.trans (hG6.2.trans hG5.2)) _) _).trans hto) (fk_of shc_186 rfl) fl_X5_35 (dk2 dF_180 DX5_readSet (i := 33) rfl rfl rfl) ?_
        refine z_gr C0 hw t 9 (t + 8) (fk_of (shl_ot_0 t ht) rfl) fl_X5_143 (dk2 dF_180 DX5_readSet (i := 34) rfl rfl rfl) ?_
        refine lv_aload_n hx hb (dkP dF_42 DX5_readSet (i := 35) rfl rfl) rfl (lv_at hl 0 rfl) ?_
        refine z_gr C0 hw 186 9 191 (fk_of shc_186 rfl) fl_X5_29 (dk2 dF_180 DX5_readSet (i := 36) rfl rfl rfl) ?_
        refine lv_iconst (v := 0) hx hb (dkP dF_3 DX5_readSet (i := 37) rfl rfl) (by decide) ?_
        refine lv_bipush (v := 8) hx hb (dks dF_16 DX5_readSet (i := 38) rfl rfl rfl) (by decide) ?_
        refine va_gets hx hb hRo.2.2.1 hw.2.2.1 hown (hts _ gs_af) (fun _ h => h) (dk2 dF_178 DX5_readSet (i := 39) rfl rfl rfl) ?_
        refine lv_aload_n hx hb (dkP dF_42 DX5_readSet (i := 40) rfl rfl) rfl (lv_at hl 0 rfl) ?_
        refine z_gr C0 hw 186 9 191 (fk_of shc_186 rfl) fl_X5_29 (dk2 dF_180 DX5_readSet (i := 41) rfl rfl rfl) ?_
        refine lv_bipush (v := 8) hx hb (dks dF_16 DX5_readSet (i := 42) rfl rfl rfl) (by decide) ?_
        refine z_ialdN (n := 9) C0 hw 191 8 (ak_of shc_191) (by omega) (by decide) (dkP dF_46 DX5_readSet (i := 43) rfl rfl) ?_
        obtain ⟨v9, ev9⟩ : ∃ y : Int32, (sI s7 (t + 7) ln (nI us)).1 191 8 = y := ⟨_, rfl⟩
        refine z_top (y := v9) ev9 ?_
        refine zk_V hw (zr_V (As := [.ref (ad 191), .int 0, .int 8, .ref kc.2.2.2, .int v9]) (rest := []) C0 (c_X8_add_o l G kc ad (sI s7 (t + 7) ln (nI us)) (t + 8) v9 (otso t ht) ((rd_n (by omega)).trans ((hG7.1 (t + 8) 1 (by show ¬ (((t + 8) = 186 ∧ 1 = 6) ∨ ((t + 8) = 186 ∧ 1 = 7) ∨ ((t + 8) = 186 ∧ 1 = 8) ∨ ((t + 8) = 191)); intro h_; rcases h_ with h_ | h_ | h_ | h_; (· have hd0_ := otN t ht; omega); (· have hd0_ := otN t ht; omega); (· have hd0_ := otN t ht; omega); (· have hd0_ := otN t ht; omega))).trans ((hG6.1 (t + 8) 1 (by show ¬ (((t + 8) = 186 ∧ 1 = 6) ∨ ((t + 8) = 186 ∧ 1 = 7) ∨ ((t + 8) = 186 ∧ 1 = 8)); intro h_; rcases h_ with h_ | h_ | h_; (· have hd0_ := otN t ht; omega); (· have hd0_ := otN t ht; omega); (· have hd0_ := otN t ht; omega))).trans ((hG5.1 (t + 8) 1 (by show ¬ (((t + 8) = 186 ∧ 1 = 6) ∨ ((t + 8) = 186 ∧ 1 = 7) ∨ ((t + 8) = 186 ∧ 1 = 8)); intro h_; rcases h_ with h_ | h_ | h_; (· have hd0_ := otN t ht; omega); (· have hd0_ := otN t ht; omega); (· have hd0_ := otN t ht; omega))).trans ((rd_n (by omega)).trans hus))))) (by have h7 : NZk _ 6 := hc7; unfold NZk at h7; have h6 : nz ((sI s7 (t + 7) ln (nI us)).1 191) 0 8 = nz (s7.1 191) 0 8 := nz_c 8 (fun x hx1 => ((rd_n (by have hd1_ := otN t ht; omega)).trans rfl)); omega) hT8 _) cv_X8_add lk_X5_155 (zp_V C0 hRo hw (t + 8) (shl_ot_8 t ht) rfl rfl) rfl hl.1 rfl ⟨by decide, by decide⟩ (Nat.le_of_ble_eq_true rfl) (dk2 dF_182 DX5_readSet (i := 44) rfl rfl rfl) ⟨Nat.le_refl _, Nat.le_refl _⟩) (fun s10 H locs hp hw => ?_)
        obtain ⟨f10_0, f10_1, f10_2, hT10, hG10⟩ := hp
        have hF10 : frC (fun x y => (x = 186 ∧ y = 6) ∨ (x = 186 ∧ y = 7) ∨ (x = 186 ∧ y = 8) ∨ (x = 191) ∨ (x = t + 3) ∨ (x = t + 7) ∨ (x = t + 8 ∧ y = 1) ∨ (x = t + 9)) σ s10 := frC.t hF8 hG10 (fun x y h => by have h : (x = t + 9) ∨ (x = t + 8 ∧ y = 1) := h; show (x = 186 ∧ y = 6) ∨ (x = 186 ∧ y = 7) ∨ (x = 186 ∧ y = 8) ∨ (x = 191) ∨ (x = t + 3) ∨ (x = t + 7) ∨ (x = t + 8 ∧ y = 1) ∨ (x = t + 9); rcases h with h | h; (· exact Or.inr (Or.inr (Or.inr (Or.inr (Or.inr (Or.inr (Or.inr (h)))))))); (· exact Or.inr (Or.inr (Or.inr (Or.inr (Or.inr (Or.inr (Or.inl h))))))))
        refine lv_iconst (v := 1) hx hb (dkP dF_4 DX5_readSet (i := 45) rfl rfl) (by decide) ?_
        exact z_zret C0 hr hlk (by decide) hw (⟨(Or.inl ⟨rfl, (by have h7 : NZk _ 6 := hc7; unfold NZk at h7; have h6 : (nz ((sI s7 (t + 7) ln (nI us)).1 191) 0 8) = nz (s7.1 191) 0 8 := nz_c 8 (fun x hx1 => ((rd_n (by have hd1_ := otN t ht; omega)).trans rfl)); exact ⟨us + 2 + (nz ((sI s7 (t + 7) ln (nI us)).1 191) 0 8), f10_0, by omega, by omega, fun x hx1 => (f10_2 x hx1).trans ((rd_n (by omega)).trans ((hG7.1 (t + 9) x (by show ¬ (((t + 9) = 186 ∧ x = 6) ∨ ((t + 9) = 186 ∧ x = 7) ∨ ((t + 9) = 186 ∧ x = 8) ∨ ((t + 9) = 191)); intro h_; rcases h_ with h_ | h_ | h_ | h_; (· have hd0_ := otN t ht; omega); (· have hd0_ := otN t ht; omega); (· have hd0_ := otN t ht; omega); (· have hd0_ := otN t ht; omega))).trans ((hG6.1 (t + 9) x (by show ¬ (((t + 9) = 186 ∧ x = 6) ∨ ((t + 9) = 186 ∧ x = 7) ∨ ((t + 9) = 186 ∧ x = 8)); intro h_; rcases h_ with h_ | h_ | h_; (· have hd0_ := otN t ht; omega); (· have hd0_ := otN t ht; omega); (· have hd0_ := otN t ht; omega))).trans ((hG5.1 (t + 9) x (by show ¬ (((t + 9) = 186 ∧ x = 6) ∨ ((t + 9) = 186 ∧ x = 7) ∨ ((t + 9) = 186 ∧ x = 8)); intro h_; rcases h_ with h_ | h_ | h_; (· have hd0_ := otN t ht; omega); (· have hd0_ := otN t ht; omega); (· have hd0_ := otN t ht; omega))).trans ((rd_n (by omega)).trans rfl))))), by rw [((hG10.1 (t + 3) ln (by show ¬ (((t + 3) = t + 9) ∨ ((t + 3) = t + 8 ∧ ln = 1)); intro h_; rcases h_ with h_ | h_; (· omega); (· omega))).trans ((rd_n (by omega)).trans ((hG7.1 (t + 3) ln (by show ¬ (((t + 3) = 186 ∧ ln = 6) ∨ ((t + 3) = 186 ∧ ln = 7) ∨ ((t + 3) = 186 ∧ ln = 8) ∨ ((t + 3) = 191)); intro h_; rcases h_ with h_ | h_ | h_ | h_; (· have hd0_ := otN t ht; omega); (· have hd0_ := otN t ht; omega); (· have hd0_ := otN t ht; omega); (· have hd0_ := otN t ht; omega))).trans ((hG6.1 (t + 3) ln (by show ¬ (((t + 3) = 186 ∧ ln = 6) ∨ ((t + 3) = 186 ∧ ln = 7) ∨ ((t + 3) = 186 ∧ ln = 8)); intro h_; rcases h_ with h_ | h_ | h_; (· have hd0_ := otN t ht; omega); (· have hd0_ := otN t ht; omega); (· have hd0_ := otN t ht; omega))).trans ((hG5.1 (t + 3) ln (by show ¬ (((t + 3) = 186 ∧ ln = 6) ∨ ((t + 3) = 186 ∧ ln = 7) ∨ ((t + 3) = 186 ∧ ln = 8)); intro h_; rcases h_ with h_ | h_ | h_; (· have hd0_ := otN t ht; omega); (· have hd0_ := otN t ht; omega); (· have hd0_ := otN t ht; omega))).trans rfl))))), rd_s]; exact (TK.g hK hc5 ((rd_n (by have hd1_ := otN t ht; omega)).trans en1) (by omega) (fun x => ((rd_n (by have hd1_ := otN t ht; omega)).trans rfl)) ev3), ⟨us, ((hG10.1 (t + 7) ln (by show ¬ (((t + 7) = t + 9) ∨ ((t + 7) = t + 8 ∧ ln = 1)); intro h_; rcases h_ with h_ | h_; (· omega); (· omega))).trans rfl).trans rd_s, (nz ((sI s7 (t + 7) ln (nI us)).1 191) 0 8), by omega, f10_1, by omega⟩, fun n hn => ⟨((hG10.1 (t + 3) n (by show ¬ (((t + 3) = t + 9) ∨ ((t + 3) = t + 8 ∧ n = 1)); intro h_; rcases h_ with h_ | h_; (· omega); (· omega))).trans ((rd_n (by omega)).trans ((hG7.1 (t + 3) n (by show ¬ (((t + 3) = 186 ∧ n = 6) ∨ ((t + 3) = 186 ∧ n = 7) ∨ ((t + 3) = 186 ∧ n = 8) ∨ ((t + 3) = 191)); intro h_; rcases h_ with h_ | h_ | h_ | h_; (· have hd0_ := otN t ht; omega); (· have hd0_ := otN t ht; omega); (· have hd0_ := otN t ht; omega); (· have hd0_ := otN t ht; omega))).trans ((hG6.1 (t + 3) n (by show ¬ (((t + 3) = 186 ∧ n = 6) ∨ ((t + 3) = 186 ∧ n = 7) ∨ ((t + 3) = 186 ∧ n = 8)); intro h_; rcases h_ with h_ | h_ | h_; (· have hd0_ := otN t ht; omega); (· have hd0_ := otN t ht; omega); (· have hd0_ := otN t ht; omega))).trans ((hG5.1 (t + 3) n (by show ¬ (((t + 3) = 186 ∧ n = 6) ∨ ((t + 3) = 186 ∧ n = 7) ∨ ((t + 3) = 186 ∧ n = 8)); intro h_; rcases h_ with h_ | h_ | h_; (· have hd0_ := otN t ht; omega); (· have hd0_ := otN t ht; omega); (· have hd0_ := otN t ht; omega))).trans ((rd_n (by omega)).trans rfl)))))), ((hG10.1 (t + 7) n (by show ¬ (((t + 7) = t + 9) ∨ ((t + 7) = t + 8 ∧ n = 1)); intro h_; rcases h_ with h_ | h_; (· omega); (· omega))).trans ((rd_n (by omega)).trans ((hG7.1 (t + 7) n (by show ¬ (((t + 7) = 186 ∧ n = 6) ∨ ((t + 7) = 186 ∧ n = 7) ∨ ((t + 7) = 186 ∧ n = 8) ∨ ((t + 7) = 191)); intro h_; rcases h_ with h_ | h_ | h_ | h_; (· have hd0_ := otN t ht; omega); (· have hd0_ := otN t ht; omega); (· have hd0_ := otN t ht; omega); (· have hd0_ := otN t ht; omega))).trans ((hG6.1 (t + 7) n (by show ¬ (((t + 7) = 186 ∧ n = 6) ∨ ((t + 7) = 186 ∧ n = 7) ∨ ((t + 7) = 186 ∧ n = 8)); intro h_; rcases h_ with h_ | h_ | h_; (· have hd0_ := otN t ht; omega); (· have hd0_ := otN t ht; omega); (· have hd0_ := otN t ht; omega))).trans ((hG5.1 (t + 7) n (by show ¬ (((t + 7) = 186 ∧ n = 6) ∨ ((t + 7) = 186 ∧ n = 7) ∨ ((t + 7) = 186 ∧ n = 8)); intro h_; rcases h_ with h_ | h_ | h_; (· have hd0_ := otN t ht; omega); (· have hd0_ := otN t ht; omega); (· have hd0_ := otN t ht; omega))).trans ((rd_n (by omega)).trans rfl))))))⟩⟩)⟩), (by rw [((hG10.1 186 6 (by show ¬ ((186 = t + 9) ∨ (186 = t + 8 ∧ 6 = 1)); intro h_; rcases h_ with h_ | h_; (· have hd1_ := otN t ht; omega); (· have hd1_ := otN t ht; omega))).trans rfl)]; exact (by rw [((rd_n (by have hd1_ := otN t ht; omega)).trans rfl)]; exact f7_1)), hT10, hF10⟩) (dkP dF_172 DX5_readSet (i := 46) rfl rfl)
      · skip
        refine lv_if_ne (tgt := 44) hx hb (dkS dF_154 DX5_readSet (i := 20) rfl rfl rfl) (by decide) (fun h => absurd h (by decide)) (fun _ => ?_)
        refine lv_iconst (v := 0) hx hb (dkP dF_3 DX5_readSet (i := 21) rfl rfl) (by decide) ?_
        exact z_zret C0 hr hlk (by decide) hw (⟨(Or.inr ⟨rfl, trivial⟩), f7_1, hT7, hF7⟩) (dkP dF_172 DX5_readSet (i := 22) rfl rfl)
    · skip
      refine lv_if_eq (tgt := 42) hx hb (dkS dF_153 DX5_readSet (i := 17) rfl rfl rfl) (by decide) (fun _ => ?_) (fun h => absurd h (by decide))
      refine lv_iconst (v := 0) hx hb (dkP dF_3 DX5_readSet (i := 21) rfl rfl) (by decide) ?_
      exact z_zret C0 hr hlk (by decide) hw (⟨(Or.inr ⟨rfl, trivial⟩), f6_1, hT6, hF6⟩) (dkP dF_172 DX5_readSet (i := 22) rfl rfl)
  · skip
    refine lv_if_eq (tgt := 42) hx hb (dkS dF_153 DX5_readSet (i := 13) rfl rfl rfl) (by decide) (fun _ => ?_) (fun h => absurd h (by decide))
    refine lv_iconst (v := 0) hx hb (dkP dF_3 DX5_readSet (i := 21) rfl rfl) (by decide) ?_
    exact z_zret C0 hr hlk (by decide) hw (⟨(Or.inr ⟨rfl, trivial⟩), f5_1, hT5, hF5⟩) (dkP dF_172 DX5_readSet (i := 22) rfl rfl)
set_option maxRecDepth 100000 in
set_option maxHeartbeats 8000000 in
theorem c_X5_readGo (l : Launch) (G : va_G) (kc : KC) (ad : Nat → Nat) (σ : Sg) (ln : Nat) {tk t : Nat} (hK : TK σ tk) (hA : (σ.1 186 6).toInt ≤ (tk : Int)) (hto : σ.2.2 186 10 = some t) (ht : t ∈ otL) (hln : ln < 24) (hT : TC σ) : MI l G kc yX5_readGo cX5_readGo 3 (some .boolean) 2 42 [.ref (ad 186), .int (nI ln)] shC ad σ (fun r σ1 => ((r = 1 ∧ (True)) ∨ (r = 0 ∧ (True))) ∧ ((σ1.1 186 6).toInt ≤ (tk : Int)) ∧ TC σ1 ∧ frC (fun x y => (x = 186 ∧ y = 6) ∨ (x = 186 ∧ y = 7) ∨ (x = 186 ∧ y = 8) ∨ (x = t + 6)) σ σ1) := by
  intro sz
  refine z_body (y := yX5_readGo) (n := 3) (av := [.ref (ad 186), .int (nI ln)]) (Qc := fun A => va_Qi (fun r σ1 => ((r = 1 ∧ (True)) ∨ (r = 0 ∧ (True))) ∧ ((σ1.1 186 6).toInt ≤ (tk : Int)) ∧ TC σ1 ∧ frC (fun x y => (x = 186 ∧ y = 6) ∨ (x = 186 ∧ y = 7) ∨ (x = 186 ∧ y = 8) ∨ (x = t + 6)) σ σ1) (PoC G kc shC ad A) A) (plainFor_of_name (by decide)) (Nat.le_of_ble_eq_true rfl) (fun pr e s m below meth c A C0 hr hlk hnm hw hRo ls hl => ?_) sz
  have hx := C0.1
  have hb := C0.2.1
  have hown := C0.2.2.2.1
  have hts := C0.2.2.2.2.1
  have hl : lv_has ls 3 [(0, .ref (ad 186)), (1, .int (nI ln))] := hl
  have htk6 := hK.1
  refine lv_aload_n hx hb (dkP dF_42 DX5_readGo (i := 0) rfl rfl) rfl (lv_at hl 0 rfl) ?_
  refine lv_bipush (v := 7) hx hb (dks dF_16 DX5_readGo (i := 1) rfl rfl rfl) (by decide) ?_
  refine zk_I hw (zr_V (As := [.int 7]) (rest := []) C0 (c_X5_take l G kc ad σ 7 hK hA (by decide) hT _) cv_X5_take lk_X5_115 (zp_V C0 hRo hw 186 shc_186 rfl rfl) rfl hl.1 rfl ⟨by decide, by decide⟩ (Nat.le_of_ble_eq_true rfl) (dk2 dF_182 DX5_readGo (i := 2) rfl rfl rfl) ⟨Nat.le_refl _, Nat.le_refl _⟩) (fun r1 s1 H locs hp hw => ?_)
  obtain ⟨f1_0, f1_1, hT1, hG1⟩ := hp
  have hF1 : frC (fun x y => (x = 186 ∧ y = 6) ∨ (x = 186 ∧ y = 7) ∨ (x = 186 ∧ y = 8) ∨ (x = t + 6)) σ s1 := frC.t frC.refl hG1 (fun x y h => by have h : (x = 186 ∧ y = 6) ∨ (x = 186 ∧ y = 7) ∨ (x = 186 ∧ y = 8) := h; show (x = 186 ∧ y = 6) ∨ (x = 186 ∧ y = 7) ∨ (x = 186 ∧ y = 8) ∨ (x = t + 6); rcases h with h | h | h; (· exact Or.inl h); (· exact Or.inr (Or.inl h)); (· exact Or.inr (Or.inr (Or.inl h))))
  rcases f1_0 with ⟨rfl, hc1⟩ | ⟨rfl, hc1⟩
  · skip
    refine lv_if_eq (tgt := 16) hx hb (dkS dF_153 DX5_readGo (i := 3) rfl rfl rfl) (by decide) (fun h => absurd h (by decide)) (fun _ => ?_)
    refine lv_aload_n hx hb (dkP dF_42 DX5_readGo (i := 4) rfl rfl) rfl (lv_at hl 0 rfl) ?_
    refine zk_I hw (zr_V (As := []) (rest := []) C0 (c_X5_takeNumber l G kc ad s1 (hK.c (fun x => ((hG1.1 188 x (by show ¬ ((188 = 186 ∧ x = 6) ∨ (188 = 186 ∧ x = 7) ∨ (188 = 186 ∧ x = 8)); intro h_; rcases h_ with h_ | h_ | h_; (· omega); (· omega); (· omega))).trans rfl)) (fun x => ((hG1.1 189 x (by show ¬ ((189 = 186 ∧ x = 6) ∨ (189 = 186 ∧ x = 7) ∨ (189 = 186 ∧ x = 8)); intro h_; rcases h_ with h_ | h_ | h_; (· omega); (· omega); (· omega))).trans rfl))) f1_1 hT1 _) cv_X5_takeNumber lk_X5_163 (zp_V C0 hRo hw 186 shc_186 rfl rfl) rfl hl.1 rfl ⟨by decide, by decide⟩ (Nat.le_of_ble_eq_true rfl) (dk2 dF_182 DX5_readGo (i := 5) rfl rfl rfl) ⟨Nat.le_refl _, Nat.le_refl _⟩) (fun r2 s2 H locs hp hw => ?_)
    obtain ⟨f2_0, hT2, hG2⟩ := hp
    have hF2 : frC (fun x y => (x = 186 ∧ y = 6) ∨ (x = 186 ∧ y = 7) ∨ (x = 186 ∧ y = 8) ∨ (x = t + 6)) σ s2 := frC.t hF1 hG2 (fun x y h => by have h : (x = 186 ∧ y = 6) ∨ (x = 186 ∧ y = 7) ∨ (x = 186 ∧ y = 8) := h; show (x = 186 ∧ y = 6) ∨ (x = 186 ∧ y = 7) ∨ (x = 186 ∧ y = 8) ∨ (x = t + 6); rcases h with h | h | h; (· exact Or.inl h); (· exact Or.inr (Or.inl h)); (· exact Or.inr (Or.inr (Or.inl h))))
    refine lv_goto (tgt := 17) hx hb (dkS dF_167 DX5_readGo (i := 6) rfl rfl rfl) (by decide) ?_
    refine lv_istore_n (lv' := [(2, .int r2), (0, .ref (ad 186)), (1, .int (nI ln))]) hx hb (dkP dF_61 DX5_readGo (i := 8) rfl rfl) rfl hl (by decide) rfl (fun ls hl => ?_)
    refine lv_aload_n hx hb (dkP dF_42 DX5_readGo (i := 9) rfl rfl) rfl (lv_at hl 1 rfl) ?_
    refine z_gms C0 hw 186 10 t ((congrFun (congrFun (hG2.2.trans hG1.2) _) _).trans hto) (fk_of shc_186 rfl) fl_X5_35 (dk2 dF_180 DX5_readGo (i := 10) rfl rfl rfl) ?_
    refine z_gr C0 hw t 7 (t + 6) (fk_of (shl_ot_0 t ht) rfl) fl_X5_172 (dk2 dF_180 DX5_readGo (i := 11) rfl rfl rfl) ?_
    refine lv_iload_n hx hb (dkP dF_27 DX5_readGo (i := 12) rfl rfl) rfl (lv_at hl 2 rfl) ?_
    refine lv_iload_n hx hb (dkP dF_28 DX5_readGo (i := 13) rfl rfl) rfl (lv_at hl 0 rfl) ?_
    refine z_iastN (n := 24) C0 hw (t + 6) ln (ak_of (shl_ot_6 t ht)) (by omega) (by decide) (dkP dF_79 DX5_readGo (i := 14) rfl rfl) (fun H locs hw => ?_)
    have hT3 : TC (sI s2 (t + 6) ln r2) := TC.w hT2 (tc0 (tck_ot_6 t ht))
    have hF3 : frC (fun x y => (x = 186 ∧ y = 6) ∨ (x = 186 ∧ y = 7) ∨ (x = 186 ∧ y = 8) ∨ (x = t + 6)) σ (sI s2 (t + 6) ln r2) := frC.w hF2 (by show ((t + 6) = 186 ∧ ln = 6) ∨ ((t + 6) = 186 ∧ ln = 7) ∨ ((t + 6) = 186 ∧ ln = 8) ∨ ((t + 6) = t + 6); exact Or.inr (Or.inr (Or.inr (rfl))))
    refine lv_iload_n hx hb (dkP dF_28 DX5_readGo (i := 15) rfl rfl) rfl (lv_at hl 0 rfl) ?_
    refine lv_iconst (v := (-1)) hx hb (dkP dF_2 DX5_readGo (i := 16) rfl rfl) (by decide) ?_
    refine lv_icmp_eq (tgt := 37) hx hb (dkS dF_159 DX5_readGo (i := 17) rfl rfl rfl) (by decide) (fun c4 => ?_) (fun c4 => ?_)
    · (try simp (disch := omega) only [ta_lt, ta_le, ta_eq, tnI, tn32 1 (by decide)] at c4)
      refine lv_iconst (v := 0) hx hb (dkP dF_3 DX5_readGo (i := 20) rfl rfl) (by decide) ?_
      exact z_zret C0 hr hlk (by decide) hw (⟨(Or.inr ⟨rfl, trivial⟩), (by rw [((rd_n (by have hd1_ := otN t ht; omega)).trans rfl)]; exact f2_0), hT3, hF3⟩) (dkP dF_172 DX5_readGo (i := 21) rfl rfl)
    · (try simp (disch := omega) only [ta_lt, ta_le, ta_eq, tnI, tn32 1 (by decide)] at c4)
      refine lv_iconst (v := 1) hx hb (dkP dF_4 DX5_readGo (i := 18) rfl rfl) (by decide) ?_
      refine lv_goto (tgt := 38) hx hb (dkS dF_167 DX5_readGo (i := 19) rfl rfl rfl) (by decide) ?_
      exact z_zret C0 hr hlk (by decide) hw (⟨(Or.inl ⟨rfl, trivial⟩), (by rw [((rd_n (by have hd1_ := otN t ht; omega)).trans rfl)]; exact f2_0), hT3, hF3⟩) (dkP dF_172 DX5_readGo (i := 21) rfl rfl)
  · skip
    refine lv_if_eq (tgt := 16) hx hb (dkS dF_153 DX5_readGo (i := 3) rfl rfl rfl) (by decide) (fun _ => ?_) (fun h => absurd h (by decide))
    refine lv_iconst (v := (-1)) hx hb (dkP dF_2 DX5_readGo (i := 7) rfl rfl) (by decide) ?_
    refine lv_istore_n (lv' := [(2, .int (-1)), (0, .ref (ad 186)), (1, .int (nI ln))]) hx hb (dkP dF_61 DX5_readGo (i := 8) rfl rfl) rfl hl (by decide) rfl (fun ls hl => ?_)
    refine lv_aload_n hx hb (dkP dF_42 DX5_readGo (i := 9) rfl rfl) rfl (lv_at hl 1 rfl) ?_
    refine z_gms C0 hw 186 10 t ((congrFun (congrFun hG1.2 _) _).trans hto) (fk_of shc_186 rfl) fl_X5_35 (dk2 dF_180 DX5_readGo (i := 10) rfl rfl rfl) ?_
    refine z_gr C0 hw t 7 (t + 6) (fk_of (shl_ot_0 t ht) rfl) fl_X5_172 (dk2 dF_180 DX5_readGo (i := 11) rfl rfl rfl) ?_
    refine lv_iload_n hx hb (dkP dF_27 DX5_readGo (i := 12) rfl rfl) rfl (lv_at hl 2 rfl) ?_
    refine lv_iload_n hx hb (dkP dF_28 DX5_readGo (i := 13) rfl rfl) rfl (lv_at hl 0 rfl) ?_
    refine z_iastN (n := 24) C0 hw (t + 6) ln (ak_of (shl_ot_6 t ht)) (by omega) (by decide) (dkP dF_79 DX5_readGo (i := 14) rfl rfl) (fun H locs hw => ?_)
    have hT5 : TC (sI s1 (t + 6) ln (-1)) := TC.w hT1 (tc0 (tck_ot_6 t ht))
    have hF5 : frC (fun x y => (x = 186 ∧ y = 6) ∨ (x = 186 ∧ y = 7) ∨ (x = 186 ∧ y = 8) ∨ (x = t + 6)) σ (sI s1 (t + 6) ln (-1)) := frC.w hF1 (by show ((t + 6) = 186 ∧ ln = 6) ∨ ((t + 6) = 186 ∧ ln = 7) ∨ ((t + 6) = 186 ∧ ln = 8) ∨ ((t + 6) = t + 6); exact Or.inr (Or.inr (Or.inr (rfl))))
    refine lv_iload_n hx hb (dkP dF_28 DX5_readGo (i := 15) rfl rfl) rfl (lv_at hl 0 rfl) ?_
    refine lv_iconst (v := (-1)) hx hb (dkP dF_2 DX5_readGo (i := 16) rfl rfl) (by decide) ?_
    refine lv_icmp_eq (tgt := 37) hx hb (dkS dF_159 DX5_readGo (i := 17) rfl rfl rfl) (by decide) (fun _ => ?_) (fun h => absurd h (by decide))
    refine lv_iconst (v := 0) hx hb (dkP dF_3 DX5_readGo (i := 20) rfl rfl) (by decide) ?_
    exact z_zret C0 hr hlk (by decide) hw (⟨(Or.inr ⟨rfl, trivial⟩), (by rw [((rd_n (by have hd1_ := otN t ht; omega)).trans rfl)]; exact f1_1), hT5, hF5⟩) (dkP dF_172 DX5_readGo (i := 21) rfl rfl)
set_option maxRecDepth 100000 in
set_option maxHeartbeats 8000000 in
theorem c_X5_readIf (l : Launch) (G : va_G) (kc : KC) (ad : Nat → Nat) (σ : Sg) (ln : Nat) {tk t : Nat} (hK : TK σ tk) (hA : (σ.1 186 6).toInt ≤ (tk : Int)) (hto : σ.2.2 186 10 = some t) (ht : t ∈ otL) (hln : ln < 24) (hT : TC σ) : MI l G kc yX5_readIf cX5_readIf 4 (some .boolean) 3 64 [.ref (ad 186), .int (nI ln)] shC ad σ (fun r σ1 => ((r = 1 ∧ (IFQ σ σ1 t ln)) ∨ (r = 0 ∧ (True))) ∧ ((σ1.1 186 6).toInt ≤ (tk : Int)) ∧ TC σ1 ∧ frC (fun x y => (x = 186 ∧ y = 6) ∨ (x = 186 ∧ y = 7) ∨ (x = 186 ∧ y = 8) ∨ (x = t + 3) ∨ (x = t + 4) ∨ (x = t + 5) ∨ (x = t + 6)) σ σ1) := by
  intro sz
  refine z_body (y := yX5_readIf) (n := 4) (av := [.ref (ad 186), .int (nI ln)]) (Qc := fun A => va_Qi (fun r σ1 => ((r = 1 ∧ (IFQ σ σ1 t ln)) ∨ (r = 0 ∧ (True))) ∧ ((σ1.1 186 6).toInt ≤ (tk : Int)) ∧ TC σ1 ∧ frC (fun x y => (x = 186 ∧ y = 6) ∨ (x = 186 ∧ y = 7) ∨ (x = 186 ∧ y = 8) ∨ (x = t + 3) ∨ (x = t + 4) ∨ (x = t + 5) ∨ (x = t + 6)) σ σ1) (PoC G kc shC ad A) A) (plainFor_of_name (by decide)) (Nat.le_of_ble_eq_true rfl) (fun pr e s m below meth c A C0 hr hlk hnm hw hRo ls hl => ?_) sz
  have hx := C0.1
  have hb := C0.2.1
  have hown := C0.2.2.2.1
  have hts := C0.2.2.2.2.1
  have hl : lv_has ls 4 [(0, .ref (ad 186)), (1, .int (nI ln))] := hl
  have htk6 := hK.1
  refine lv_aload_n hx hb (dkP dF_42 DX5_readIf (i := 0) rfl rfl) rfl (lv_at hl 0 rfl) ?_
  refine z_gms C0 hw 186 10 t hto (fk_of shc_186 rfl) fl_X5_35 (dk2 dF_180 DX5_readIf (i := 1) rfl rfl rfl) ?_
  refine z_gr C0 hw t 4 (t + 3) (fk_of (shl_ot_0 t ht) rfl) fl_X5_133 (dk2 dF_180 DX5_readIf (i := 2) rfl rfl rfl) ?_
  refine lv_iload_n hx hb (dkP dF_27 DX5_readIf (i := 3) rfl rfl) rfl (lv_at hl 1 rfl) ?_
  refine lv_aload_n hx hb (dkP dF_42 DX5_readIf (i := 4) rfl rfl) rfl (lv_at hl 0 rfl) ?_
  refine z_gr C0 hw 186 3 189 (fk_of shc_186 rfl) fl_X5_19 (dk2 dF_180 DX5_readIf (i := 5) rfl rfl rfl) ?_
  refine lv_aload_n hx hb (dkP dF_42 DX5_readIf (i := 6) rfl rfl) rfl (lv_at hl 0 rfl) ?_
  refine z_gi C0 hw 186 6 (fk_of shc_186 rfl) fl_X5_55 (dk2 dF_180 DX5_readIf (i := 7) rfl rfl rfl) ?_
  obtain ⟨n1, hn1, en1⟩ := rngN (x := σ.1 186 6) (h := 600) (tcr_10_6 hT tcl_186)
  refine z_top (y := nI n1) en1 ?_
  have hat2 : n1 ≤ tk := by have h9 : (σ.1 186 6).toInt ≤ (tk : Int) := hA; rw [en1, tnI _ (by omega)] at h9; omega
  refine z_ialdN (n := 601) C0 hw 189 n1 (ak_of shc_189) (by omega) (by decide) (dkP dF_46 DX5_readIf (i := 8) rfl rfl) ?_
  obtain ⟨v3, ev3⟩ : ∃ y : Int32, σ.1 189 n1 = y := ⟨_, rfl⟩
  refine z_top (y := v3) ev3 ?_
  refine z_iastN (n := 24) C0 hw (t + 3) ln (ak_of (shl_ot_3 t ht)) (by omega) (by decide) (dkP dF_79 DX5_readIf (i := 9) rfl rfl) (fun H locs hw => ?_)
  have hT4 : TC (sI σ (t + 3) ln v3) := TC.w hT (tc0 (tck_ot_3 t ht))
  have hF4 : frC (fun x y => (x = 186 ∧ y = 6) ∨ (x = 186 ∧ y = 7) ∨ (x = 186 ∧ y = 8) ∨ (x = t + 3) ∨ (x = t + 4) ∨ (x = t + 5) ∨ (x = t + 6)) σ (sI σ (t + 3) ln v3) := frC.w frC.refl (by show ((t + 3) = 186 ∧ ln = 6) ∨ ((t + 3) = 186 ∧ ln = 7) ∨ ((t + 3) = 186 ∧ ln = 8) ∨ ((t + 3) = t + 3) ∨ ((t + 3) = t + 4) ∨ ((t + 3) = t + 5) ∨ ((t + 3) = t + 6); exact Or.inr (Or.inr (Or.inr (Or.inl rfl))))
  refine lv_aload_n hx hb (dkP dF_42 DX5_readIf (i := 10) rfl rfl) rfl (lv_at hl 0 rfl) ?_
  refine lv_iconst (v := 3) hx hb (dkP dF_6 DX5_readIf (i := 11) rfl rfl) (by decide) ?_
  refine zk_I hw (zr_V (As := [.int 3]) (rest := []) C0 (c_X5_take l G kc ad (sI σ (t + 3) ln v3) 3 (hK.c (fun x => ((rd_n (by have hd1_ := otN t ht; omega)).trans rfl)) (fun x => ((rd_n (by have hd1_ := otN t ht; omega)).trans rfl))) (by rw [((rd_n (by have hd1_ := otN t ht; omega)).trans en1), tnI _ (by omega)]; omega) (by decide) hT4 _) cv_X5_take lk_X5_115 (zp_V C0 hRo hw 186 shc_186 rfl rfl) rfl hl.1 rfl ⟨by decide, by decide⟩ (Nat.le_of_ble_eq_true rfl) (dk2 dF_182 DX5_readIf (i := 12) rfl rfl rfl) ⟨Nat.le_refl _, Nat.le_refl _⟩) (fun r5 s5 H locs hp hw => ?_)
  obtain ⟨f5_0, f5_1, hT5, hG5⟩ := hp
  have hF5 : frC (fun x y => (x = 186 ∧ y = 6) ∨ (x = 186 ∧ y = 7) ∨ (x = 186 ∧ y = 8) ∨ (x = t + 3) ∨ (x = t + 4) ∨ (x = t + 5) ∨ (x = t + 6)) σ s5 := frC.t hF4 hG5 (fun x y h => by have h : (x = 186 ∧ y = 6) ∨ (x = 186 ∧ y = 7) ∨ (x = 186 ∧ y = 8) := h; show (x = 186 ∧ y = 6) ∨ (x = 186 ∧ y = 7) ∨ (x = 186 ∧ y = 8) ∨ (x = t + 3) ∨ (x = t + 4) ∨ (x = t + 5) ∨ (x = t + 6); rcases h with h | h | h; (· exact Or.inl h); (· exact Or.inr (Or.inl h)); (· exact Or.inr (Or.inr (Or.inl h))))
  rcases f5_0 with ⟨rfl, hc5⟩ | ⟨rfl, hc5⟩
  · skip
    refine lv_if_eq (tgt := 33) hx hb (dkS dF_153 DX5_readIf (i := 13) rfl rfl rfl) (by decide) (fun h => absurd h (by decide)) (fun _ => ?_)
    refine lv_aload_n hx hb (dkP dF_42 DX5_readIf (i := 14) rfl rfl) rfl (lv_at hl 0 rfl) ?_
    refine zk_I hw (zr_V (As := []) (rest := []) C0 (c_X5_takeOp l G kc ad s5 (hK.c (fun x => ((hG5.1 188 x (by show ¬ ((188 = 186 ∧ x = 6) ∨ (188 = 186 ∧ x = 7) ∨ (188 = 186 ∧ x = 8)); intro h_; rcases h_ with h_ | h_ | h_; (· omega); (· omega); (· omega))).trans ((rd_n (by have hd1_ := otN t ht; omega)).trans rfl))) (fun x => ((hG5.1 189 x (by show ¬ ((189 = 186 ∧ x = 6) ∨ (189 = 186 ∧ x = 7) ∨ (189 = 186 ∧ x = 8)); intro h_; rcases h_ with h_ | h_ | h_; (· omega); (· omega); (· omega))).trans ((rd_n (by have hd1_ := otN t ht; omega)).trans rfl)))) f5_1 hT5 _) cv_X5_takeOp lk_X5_159 (zp_V C0 hRo hw 186 shc_186 rfl rfl) rfl hl.1 rfl ⟨by decide, by decide⟩ (Nat.le_of_ble_eq_true rfl) (dk2 dF_182 DX5_readIf (i := 15) rfl rfl rfl) ⟨Nat.le_refl _, Nat.le_refl _⟩) (fun r6 s6 H locs hp hw => ?_)
    obtain ⟨f6_0, hT6, hG6⟩ := hp
    have hF6 : frC (fun x y => (x = 186 ∧ y = 6) ∨ (x = 186 ∧ y = 7) ∨ (x = 186 ∧ y = 8) ∨ (x = t + 3) ∨ (x = t + 4) ∨ (x = t + 5) ∨ (x = t + 6)) σ s6 := frC.t hF5 hG6 (fun x y h => by have h : (x = 186 ∧ y = 6) ∨ (x = 186 ∧ y = 7) ∨ (x = 186 ∧ y = 8) := h; show (x = 186 ∧ y = 6) ∨ (x = 186 ∧ y = 7) ∨ (x = 186 ∧ y = 8) ∨ (x = t + 3) ∨ (x = t + 4) ∨ (x = t + 5) ∨ (x = t + 6); rcases h with h | h | h; (· exact Or.inl h); (· exact Or.inr (Or.inl h)); (· exact Or.inr (Or.inr (Or.inl h))))
    refine lv_goto (tgt := 34) hx hb (dkS dF_167 DX5_readIf (i := 16) rfl rfl rfl) (by decide) ?_
    refine lv_istore_n (lv' := [(2, .int r6), (0, .ref (ad 186)), (1, .int (nI ln))]) hx hb (dkP dF_61 DX5_readIf (i := 18) rfl rfl) rfl hl (by decide) rfl (fun ls hl => ?_)
    refine lv_iload_n hx hb (dkP dF_28 DX5_readIf (i := 19) rfl rfl) rfl (lv_at hl 0 rfl) ?_
    refine lv_iconst (v := (-1)) hx hb (dkP dF_2 DX5_readIf (i := 20) rfl rfl) (by decide) ?_
    refine lv_icmp_ne (tgt := 44) hx hb (dkS dF_160 DX5_readIf (i := 21) rfl rfl rfl) (by decide) (fun c7 => ?_) (fun c7 => ?_)
    · (try simp (disch := omega) only [ta_lt, ta_le, ta_eq, tnI, tn32 1 (by decide)] at c7)
      refine lv_aload_n hx hb (dkP dF_42 DX5_readIf (i := 24) rfl rfl) rfl (lv_at hl 1 rfl) ?_
      refine zk_I hw (zr_V (As := []) (rest := []) C0 (c_X5_takeNumber l G kc ad s6 (hK.c (fun x => ((hG6.1 188 x (by show ¬ ((188 = 186 ∧ x = 6) ∨ (188 = 186 ∧ x = 7) ∨ (188 = 186 ∧ x = 8)); intro h_; rcases h_ with h_ | h_ | h_; (· omega); (· omega); (· omega))).trans ((hG5.1 188 x (by show ¬ ((188 = 186 ∧ x = 6) ∨ (188 = 186 ∧ x = 7) ∨ (188 = 186 ∧ x = 8)); intro h_; rcases h_ with h_ | h_ | h_; (· omega); (· omega); (· omega))).trans ((rd_n (by have hd1_ := otN t ht; omega)).trans rfl)))) (fun x => ((hG6.1 189 x (by show ¬ ((189 = 186 ∧ x = 6) ∨ (189 = 186 ∧ x = 7) ∨ (189 = 186 ∧ x = 8)); intro h_; rcases h_ with h_ | h_ | h_; (· omega); (· omega); (· omega))).trans ((hG5.1 189 x (by show ¬ ((189 = 186 ∧ x = 6) ∨ (189 = 186 ∧ x = 7) ∨ (189 = 186 ∧ x = 8)); intro h_; rcases h_ with h_ | h_ | h_; (· omega); (· omega); (· omega))).trans ((rd_n (by have hd1_ := otN t ht; omega)).trans rfl))))) f6_0 hT6 _) cv_X5_takeNumber lk_X5_163 (zp_V C0 hRo hw 186 shc_186 rfl rfl) rfl hl.1 rfl ⟨by decide, by decide⟩ (Nat.le_of_ble_eq_true rfl) (dk2 dF_182 DX5_readIf (i := 25) rfl rfl rfl) ⟨Nat.le_refl _, Nat.le_refl _⟩) (fun r8 s8 H locs hp hw => ?_)
      obtain ⟨f8_0, hT8, hG8⟩ := hp
      have hF8 : frC (fun x y => (x = 186 ∧ y = 6) ∨ (x = 186 ∧ y = 7) ∨ (x = 186 ∧ y = 8) ∨ (x = t + 3) ∨ (x = t + 4) ∨ (x = t + 5) ∨ (x = t + 6)) σ s8 := frC.t hF6 hG8 (fun x y h => by have h : (x = 186 ∧ y = 6) ∨ (x = 186 ∧ y = 7) ∨ (x = 186 ∧ y = 8) := h; show (x = 186 ∧ y = 6) ∨ (x = 186 ∧ y = 7) ∨ (x = 186 ∧ y = 8) ∨ (x = t + 3) ∨ (x = t + 4) ∨ (x = t + 5) ∨ (x = t + 6); rcases h with h | h | h; (· exact Or.inl h); (· exact Or.inr (Or.inl h)); (· exact Or.inr (Or.inr (Or.inl h))))
      refine lv_istore_n (lv' := [(3, .int r8), (2, .int r6), (0, .ref (ad 186)), (1, .int (nI ln))]) hx hb (dkP dF_62 DX5_readIf (i := 26) rfl rfl) rfl hl (by decide) rfl (fun ls hl => ?_)
      refine lv_aload_n hx hb (dkP dF_42 DX5_readIf (i := 27) rfl rfl) rfl (lv_at hl 2 rfl) ?_
      refine z_gms C0 hw 186 10 t ((congrFun (congrFun (hG8.2.trans (hG6.2.trans hG5.2)) _) _).trans hto) (fk_of shc_186 rfl) fl_X5_35 (dk2 dF_180 DX5_readIf (i := 28) rfl rfl rfl) ?_
      refine z_gr C0 hw t 5 (t + 4) (fk_of (shl_ot_0 t ht) rfl) fl_X5_166 (dk2 dF_180 DX5_readIf (i := 29) rfl rfl rfl) ?_
      refine lv_iload_n hx hb (dkP dF_27 DX5_readIf (i := 30) rfl rfl) rfl (lv_at hl 3 rfl) ?_
      refine lv_iload_n hx hb (dkP dF_28 DX5_readIf (i := 31) rfl rfl) rfl (lv_at hl 1 rfl) ?_
      refine z_iastN (n := 24) C0 hw (t + 4) ln (ak_of (shl_ot_4 t ht)) (by omega) (by decide) (dkP dF_79 DX5_readIf (i := 32) rfl rfl) (fun H locs hw => ?_)
      have hT9 : TC (sI s8 (t + 4) ln r6) := TC.w hT8 (tc0 (tck_ot_4 t ht))
      have hF9 : frC (fun x y => (x = 186 ∧ y = 6) ∨ (x = 186 ∧ y = 7) ∨ (x = 186 ∧ y = 8) ∨ (x = t + 3) ∨ (x = t + 4) ∨ (x = t + 5) ∨ (x = t + 6)) σ (sI s8 (t + 4) ln r6) := frC.w hF8 (by show ((t + 4) = 186 ∧ ln = 6) ∨ ((t + 4) = 186 ∧ ln = 7) ∨ ((t + 4) = 186 ∧ ln = 8) ∨ ((t + 4) = t + 3) ∨ ((t + 4) = t + 4) ∨ ((t + 4) = t + 5) ∨ ((t + 4) = t + 6); exact Or.inr (Or.inr (Or.inr (Or.inr (Or.inl rfl)))))
      refine lv_aload_n hx hb (dkP dF_42 DX5_readIf (i := 33) rfl rfl) rfl (lv_at hl 2 rfl) ?_
      refine z_gms C0 hw 186 10 t ((congrFun (congrFun (hG8.2.trans (hG6.2.trans hG5.2)) _) _).trans hto) (fk_of shc_186 rfl) fl_X5_35 (dk2 dF_180 DX5_readIf (i := 34) rfl rfl rfl) ?_
      refine z_gr C0 hw t 6 (t + 5) (fk_of (shl_ot_0 t ht) rfl) fl_X5_169 (dk2 dF_180 DX5_readIf (i := 35) rfl rfl rfl) ?_
      refine lv_iload_n hx hb (dkP dF_27 DX5_readIf (i := 36) rfl rfl) rfl (lv_at hl 3 rfl) ?_
      refine lv_iload_n hx hb (dkP dF_29 DX5_readIf (i := 37) rfl rfl) rfl (lv_at hl 0 rfl) ?_
      refine z_iastN (n := 24) C0 hw (t + 5) ln (ak_of (shl_ot_5 t ht)) (by omega) (by decide) (dkP dF_79 DX5_readIf (i := 38) rfl rfl) (fun H locs hw => ?_)
      have hT10 : TC (sI (sI s8 (t + 4) ln r6) (t + 5) ln r8) := TC.w hT9 (tc0 (tck_ot_5 t ht))
      have hF10 : frC (fun x y => (x = 186 ∧ y = 6) ∨ (x = 186 ∧ y = 7) ∨ (x = 186 ∧ y = 8) ∨ (x = t + 3) ∨ (x = t + 4) ∨ (x = t + 5) ∨ (x = t + 6)) σ (sI (sI s8 (t + 4) ln r6) (t + 5) ln r8) := frC.w hF9 (by show ((t + 5) = 186 ∧ ln = 6) ∨ ((t + 5) = 186 ∧ ln = 7) ∨ ((t + 5) = 186 ∧ ln = 8) ∨ ((t + 5) = t + 3) ∨ ((t + 5) = t + 4) ∨ ((t + 5) = t + 5) ∨ ((t + 5) = t + 6); exact Or.inr (Or.inr (Or.inr (Or.inr (Or.inr (Or.inl rfl))))))
      refine lv_iload_n hx hb (dkP dF_29 DX5_readIf (i := 39) rfl rfl) rfl (lv_at hl 0 rfl) ?_
      refine lv_iconst (v := (-1)) hx hb (dkP dF_2 DX5_readIf (i := 40) rfl rfl) (by decide) ?_
      refine lv_icmp_eq (tgt := 86) hx hb (dkS dF_159 DX5_readIf (i := 41) rfl rfl rfl) (by decide) (fun c11 => ?_) (fun c11 => ?_)
      · (try simp (disch := omega) only [ta_lt, ta_le, ta_eq, tnI, tn32 1 (by decide)] at c11)
        refine lv_iconst (v := 0) hx hb (dkP dF_3 DX5_readIf (i := 48) rfl rfl) (by decide) ?_
        exact z_zret C0 hr hlk (by decide) hw (⟨(Or.inr ⟨rfl, trivial⟩), (by rw [((rd_n (by have hd1_ := otN t ht; omega)).trans rfl)]; exact (by rw [((rd_n (by have hd1_ := otN t ht; omega)).trans rfl)]; exact f8_0)), hT10, hF10⟩) (dkP dF_172 DX5_readIf (i := 49) rfl rfl)
      · (try simp (disch := omega) only [ta_lt, ta_le, ta_eq, tnI, tn32 1 (by decide)] at c11)
        refine lv_aload_n hx hb (dkP dF_42 DX5_readIf (i := 42) rfl rfl) rfl (lv_at hl 2 rfl) ?_
        refine lv_iload_n hx hb (dkP dF_27 DX5_readIf (i := 43) rfl rfl) rfl (lv_at hl 3 rfl) ?_
        refine zk_I hw (zr_V (As := [.int (nI ln)]) (rest := []) C0 (c_X5_readGo l G kc ad (sI (sI s8 (t + 4) ln r6) (t + 5) ln r8) ln (hK.c (fun x => ((rd_n (by have hd1_ := otN t ht; omega)).trans ((rd_n (by have hd1_ := otN t ht; omega)).trans ((hG8.1 188 x (by show ¬ ((188 = 186 ∧ x = 6) ∨ (188 = 186 ∧ x = 7) ∨ (188 = 186 ∧ x = 8)); intro h_; rcases h_ with h_ | h_ | h_; (· omega); (· omega); (· omega))).trans ((hG6.1 188 x (by show ¬ ((188 = 186 ∧ x = 6) ∨ (188 = 186 ∧ x = 7) ∨ (188 = 186 ∧ x = 8)); intro h_; rcases h_ with h_ | h_ | h_; (· omega); (· omega); (· omega))).trans ((hG5.1 188 x (by show ¬ ((188 = 186 ∧ x = 6) ∨ (188 = 186 ∧ x = 7) ∨ (188 = 186 ∧ x = 8)); intro h_; rcases h_ with h_ | h_ | h_; (· omega); (· omega); (· omega))).trans ((rd_n (by have hd1_ := otN t ht; omega)).trans rfl))))))) (fun x => ((rd_n (by have hd1_ := otN t ht; omega)).trans ((rd_n (by have hd1_ := otN t ht; omega)).trans ((hG8.1 189 x (by show ¬ ((189 = 186 ∧ x = 6) ∨ (189 = 186 ∧ x = 7) ∨ (189 = 186 ∧ x = 8)); intro h_; rcases h_ with h_ | h_ | h_; (· omega); (· omega); (· omega))).trans ((hG6.1 189 x (by show ¬ ((189 = 186 ∧ x = 6) ∨ (189 = 186 ∧ x = 7) ∨ (189 = 186 ∧ x = 8)); intro h_; rcases h_ with h_ | h_ | h_; (· omega); (· omega); (· omega))).trans ((hG5.1 189 x (by show ¬ ((189 = 186 ∧ x = 6) ∨ (189 = 186 ∧ x = 7) ∨ (189 = 186 ∧ x = 8)); intro h_; rcases h_ with h_ | h_ | h_; (· omega); (· omega); (· omega))).trans ((rd_n (by have hd1_ := otN t ht; omega)).trans rfl)))))))) (by rw [((rd_n (by have hd1_ := otN t ht; omega)).trans rfl)]; exact (by rw [((rd_n (by have hd1_ := otN t ht; omega)).trans rfl)]; exact f8_0)) ((congrFun (congrFun (hG8.2.trans (hG6.2.trans hG5.2)) _) _).trans hto) ht hln hT10 _) cv_X5_readGo lk_X5_130 (zp_V C0 hRo hw 186 shc_186 rfl rfl) rfl hl.1 rfl ⟨by decide, by decide⟩ (Nat.le_of_ble_eq_true rfl) (dk2 dF_182 DX5_readIf (i := 44) rfl rfl rfl) ⟨Nat.le_refl _, Nat.le_refl _⟩) (fun r12 s12 H locs hp hw => ?_)
        obtain ⟨f12_0, f12_1, hT12, hG12⟩ := hp
        have hF12 : frC (fun x y => (x = 186 ∧ y = 6) ∨ (x = 186 ∧ y = 7) ∨ (x = 186 ∧ y = 8) ∨ (x = t + 3) ∨ (x = t + 4) ∨ (x = t + 5) ∨ (x = t + 6)) σ s12 := frC.t hF10 hG12 (fun x y h => by have h : (x = 186 ∧ y = 6) ∨ (x = 186 ∧ y = 7) ∨ (x = 186 ∧ y = 8) ∨ (x = t + 6) := h; show (x = 186 ∧ y = 6) ∨ (x = 186 ∧ y = 7) ∨ (x = 186 ∧ y = 8) ∨ (x = t + 3) ∨ (x = t + 4) ∨ (x = t + 5) ∨ (x = t + 6); rcases h with h | h | h | h; (· exact Or.inl h); (· exact Or.inr (Or.inl h)); (· exact Or.inr (Or.inr (Or.inl h))); (· exact Or.inr (Or.inr (Or.inr (Or.inr (Or.inr (Or.inr (h))))))))
        rcases f12_0 with ⟨rfl, hc12⟩ | ⟨rfl, hc12⟩
        · skip
          refine lv_if_eq (tgt := 86) hx hb (dkS dF_153 DX5_readIf (i := 45) rfl rfl rfl) (by decide) (fun h => absurd h (by decide)) (fun _ => ?_)
          refine lv_iconst (v := 1) hx hb (dkP dF_4 DX5_readIf (i := 46) rfl rfl) (by decide) ?_
          refine lv_goto (tgt := 87) hx hb (dkS dF_167 DX5_readIf (i := 47) rfl rfl rfl) (by decide) ?_
          exact z_zret C0 hr hlk (by decide) hw (⟨(Or.inl ⟨rfl, ⟨by rw [((hG12.1 (t + 3) ln (by show ¬ (((t + 3) = 186 ∧ ln = 6) ∨ ((t + 3) = 186 ∧ ln = 7) ∨ ((t + 3) = 186 ∧ ln = 8) ∨ ((t + 3) = t + 6)); intro h_; rcases h_ with h_ | h_ | h_ | h_; (· have hd0_ := otN t ht; omega); (· have hd0_ := otN t ht; omega); (· have hd0_ := otN t ht; omega); (· omega))).trans ((rd_n (by omega)).trans ((rd_n (by omega)).trans ((hG8.1 (t + 3) ln (by show ¬ (((t + 3) = 186 ∧ ln = 6) ∨ ((t + 3) = 186 ∧ ln = 7) ∨ ((t + 3) = 186 ∧ ln = 8)); intro h_; rcases h_ with h_ | h_ | h_; (· have hd0_ := otN t ht; omega); (· have hd0_ := otN t ht; omega); (· have hd0_ := otN t ht; omega))).trans ((hG6.1 (t + 3) ln (by show ¬ (((t + 3) = 186 ∧ ln = 6) ∨ ((t + 3) = 186 ∧ ln = 7) ∨ ((t + 3) = 186 ∧ ln = 8)); intro h_; rcases h_ with h_ | h_ | h_; (· have hd0_ := otN t ht; omega); (· have hd0_ := otN t ht; omega); (· have hd0_ := otN t ht; omega))).trans ((hG5.1 (t + 3) ln (by show ¬ (((t + 3) = 186 ∧ ln = 6) ∨ ((t + 3) = 186 ∧ ln = 7) ∨ ((t + 3) = 186 ∧ ln = 8)); intro h_; rcases h_ with h_ | h_ | h_; (· have hd0_ := otN t ht; omega); (· have hd0_ := otN t ht; omega); (· have hd0_ := otN t ht; omega))).trans rfl)))))), rd_s]; exact (TK.g hK hc5 ((rd_n (by have hd1_ := otN t ht; omega)).trans en1) (by omega) (fun x => ((rd_n (by have hd1_ := otN t ht; omega)).trans rfl)) ev3), fun n hn => ((hG12.1 (t + 3) n (by show ¬ (((t + 3) = 186 ∧ n = 6) ∨ ((t + 3) = 186 ∧ n = 7) ∨ ((t + 3) = 186 ∧ n = 8) ∨ ((t + 3) = t + 6)); intro h_; rcases h_ with h_ | h_ | h_ | h_; (· have hd0_ := otN t ht; omega); (· have hd0_ := otN t ht; omega); (· have hd0_ := otN t ht; omega); (· omega))).trans ((rd_n (by omega)).trans ((rd_n (by omega)).trans ((hG8.1 (t + 3) n (by show ¬ (((t + 3) = 186 ∧ n = 6) ∨ ((t + 3) = 186 ∧ n = 7) ∨ ((t + 3) = 186 ∧ n = 8)); intro h_; rcases h_ with h_ | h_ | h_; (· have hd0_ := otN t ht; omega); (· have hd0_ := otN t ht; omega); (· have hd0_ := otN t ht; omega))).trans ((hG6.1 (t + 3) n (by show ¬ (((t + 3) = 186 ∧ n = 6) ∨ ((t + 3) = 186 ∧ n = 7) ∨ ((t + 3) = 186 ∧ n = 8)); intro h_; rcases h_ with h_ | h_ | h_; (· have hd0_ := otN t ht; omega); (· have hd0_ := otN t ht; omega); (· have hd0_ := otN t ht; omega))).trans ((hG5.1 (t + 3) n (by show ¬ (((t + 3) = 186 ∧ n = 6) ∨ ((t + 3) = 186 ∧ n = 7) ∨ ((t + 3) = 186 ∧ n = 8)); intro h_; rcases h_ with h_ | h_ | h_; (· have hd0_ := otN t ht; omega); (· have hd0_ := otN t ht; omega); (· have hd0_ := otN t ht; omega))).trans ((rd_n (by omega)).trans rfl)))))))⟩⟩), f12_1, hT12, hF12⟩) (dkP dF_172 DX5_readIf (i := 49) rfl rfl)
        · skip
          refine lv_if_eq (tgt := 86) hx hb (dkS dF_153 DX5_readIf (i := 45) rfl rfl rfl) (by decide) (fun _ => ?_) (fun h => absurd h (by decide))
          refine lv_iconst (v := 0) hx hb (dkP dF_3 DX5_readIf (i := 48) rfl rfl) (by decide) ?_
          exact z_zret C0 hr hlk (by decide) hw (⟨(Or.inr ⟨rfl, trivial⟩), f12_1, hT12, hF12⟩) (dkP dF_172 DX5_readIf (i := 49) rfl rfl)
    · (try simp (disch := omega) only [ta_lt, ta_le, ta_eq, tnI, tn32 1 (by decide)] at c7)
      refine lv_iconst (v := (-1)) hx hb (dkP dF_2 DX5_readIf (i := 22) rfl rfl) (by decide) ?_
      refine lv_goto (tgt := 48) hx hb (dkS dF_167 DX5_readIf (i := 23) rfl rfl rfl) (by decide) ?_
      refine lv_istore_n (lv' := [(3, .int (-1)), (2, .int r6), (0, .ref (ad 186)), (1, .int (nI ln))]) hx hb (dkP dF_62 DX5_readIf (i := 26) rfl rfl) rfl hl (by decide) rfl (fun ls hl => ?_)
      refine lv_aload_n hx hb (dkP dF_42 DX5_readIf (i := 27) rfl rfl) rfl (lv_at hl 2 rfl) ?_
      refine z_gms C0 hw 186 10 t ((congrFun (congrFun (hG6.2.trans hG5.2) _) _).trans hto) (fk_of shc_186 rfl) fl_X5_35 (dk2 dF_180 DX5_readIf (i := 28) rfl rfl rfl) ?_
      refine z_gr C0 hw t 5 (t + 4) (fk_of (shl_ot_0 t ht) rfl) fl_X5_166 (dk2 dF_180 DX5_readIf (i := 29) rfl rfl rfl) ?_
      refine lv_iload_n hx hb (dkP dF_27 DX5_readIf (i := 30) rfl rfl) rfl (lv_at hl 3 rfl) ?_
      refine lv_iload_n hx hb (dkP dF_28 DX5_readIf (i := 31) rfl rfl) rfl (lv_at hl 1 rfl) ?_
      refine z_iastN (n := 24) C0 hw (t + 4) ln (ak_of (shl_ot_4 t ht)) (by omega) (by decide) (dkP dF_79 DX5_readIf (i := 32) rfl rfl) (fun H locs hw => ?_)
      have hT13 : TC (sI s6 (t + 4) ln r6) := TC.w hT6 (tc0 (tck_ot_4 t ht))
      have hF13 : frC (fun x y => (x = 186 ∧ y = 6) ∨ (x = 186 ∧ y = 7) ∨ (x = 186 ∧ y = 8) ∨ (x = t + 3) ∨ (x = t + 4) ∨ (x = t + 5) ∨ (x = t + 6)) σ (sI s6 (t + 4) ln r6) := frC.w hF6 (by show ((t + 4) = 186 ∧ ln = 6) ∨ ((t + 4) = 186 ∧ ln = 7) ∨ ((t + 4) = 186 ∧ ln = 8) ∨ ((t + 4) = t + 3) ∨ ((t + 4) = t + 4) ∨ ((t + 4) = t + 5) ∨ ((t + 4) = t + 6); exact Or.inr (Or.inr (Or.inr (Or.inr (Or.inl rfl)))))
      refine lv_aload_n hx hb (dkP dF_42 DX5_readIf (i := 33) rfl rfl) rfl (lv_at hl 2 rfl) ?_
      refine z_gms C0 hw 186 10 t ((congrFun (congrFun (hG6.2.trans hG5.2) _) _).trans hto) (fk_of shc_186 rfl) fl_X5_35 (dk2 dF_180 DX5_readIf (i := 34) rfl rfl rfl) ?_
      refine z_gr C0 hw t 6 (t + 5) (fk_of (shl_ot_0 t ht) rfl) fl_X5_169 (dk2 dF_180 DX5_readIf (i := 35) rfl rfl rfl) ?_
      refine lv_iload_n hx hb (dkP dF_27 DX5_readIf (i := 36) rfl rfl) rfl (lv_at hl 3 rfl) ?_
      refine lv_iload_n hx hb (dkP dF_29 DX5_readIf (i := 37) rfl rfl) rfl (lv_at hl 0 rfl) ?_
      refine z_iastN (n := 24) C0 hw (t + 5) ln (ak_of (shl_ot_5 t ht)) (by omega) (by decide) (dkP dF_79 DX5_readIf (i := 38) rfl rfl) (fun H locs hw => ?_)
      have hT14 : TC (sI (sI s6 (t + 4) ln r6) (t + 5) ln (-1)) := TC.w hT13 (tc0 (tck_ot_5 t ht))
      have hF14 : frC (fun x y => (x = 186 ∧ y = 6) ∨ (x = 186 ∧ y = 7) ∨ (x = 186 ∧ y = 8) ∨ (x = t + 3) ∨ (x = t + 4) ∨ (x = t + 5) ∨ (x = t + 6)) σ (sI (sI s6 (t + 4) ln r6) (t + 5) ln (-1)) := frC.w hF13 (by show ((t + 5) = 186 ∧ ln = 6) ∨ ((t + 5) = 186 ∧ ln = 7) ∨ ((t + 5) = 186 ∧ ln = 8) ∨ ((t + 5) = t + 3) ∨ ((t + 5) = t + 4) ∨ ((t + 5) = t + 5) ∨ ((t + 5) = t + 6); exact Or.inr (Or.inr (Or.inr (Or.inr (Or.inr (Or.inl rfl))))))
      refine lv_iload_n hx hb (dkP dF_29 DX5_readIf (i := 39) rfl rfl) rfl (lv_at hl 0 rfl) ?_
      refine lv_iconst (v := (-1)) hx hb (dkP dF_2 DX5_readIf (i := 40) rfl rfl) (by decide) ?_
      refine lv_icmp_eq (tgt := 86) hx hb (dkS dF_159 DX5_readIf (i := 41) rfl rfl rfl) (by decide) (fun _ => ?_) (fun h => absurd h (by decide))
      refine lv_iconst (v := 0) hx hb (dkP dF_3 DX5_readIf (i := 48) rfl rfl) (by decide) ?_
      exact z_zret C0 hr hlk (by decide) hw (⟨(Or.inr ⟨rfl, trivial⟩), (by rw [((rd_n (by have hd1_ := otN t ht; omega)).trans rfl)]; exact (by rw [((rd_n (by have hd1_ := otN t ht; omega)).trans rfl)]; exact f6_0)), hT14, hF14⟩) (dkP dF_172 DX5_readIf (i := 49) rfl rfl)
  · skip
    refine lv_if_eq (tgt := 33) hx hb (dkS dF_153 DX5_readIf (i := 13) rfl rfl rfl) (by decide) (fun _ => ?_) (fun h => absurd h (by decide))
    refine lv_iconst (v := (-1)) hx hb (dkP dF_2 DX5_readIf (i := 17) rfl rfl) (by decide) ?_
    refine lv_istore_n (lv' := [(2, .int (-1)), (0, .ref (ad 186)), (1, .int (nI ln))]) hx hb (dkP dF_61 DX5_readIf (i := 18) rfl rfl) rfl hl (by decide) rfl (fun ls hl => ?_)
    refine lv_iload_n hx hb (dkP dF_28 DX5_readIf (i := 19) rfl rfl) rfl (lv_at hl 0 rfl) ?_
    refine lv_iconst (v := (-1)) hx hb (dkP dF_2 DX5_readIf (i := 20) rfl rfl) (by decide) ?_
    refine lv_icmp_ne (tgt := 44) hx hb (dkS dF_160 DX5_readIf (i := 21) rfl rfl rfl) (by decide) (fun h => absurd h (by decide)) (fun _ => ?_)
    refine lv_iconst (v := (-1)) hx hb (dkP dF_2 DX5_readIf (i := 22) rfl rfl) (by decide) ?_
    refine lv_goto (tgt := 48) hx hb (dkS dF_167 DX5_readIf (i := 23) rfl rfl rfl) (by decide) ?_
    refine lv_istore_n (lv' := [(3, .int (-1)), (2, .int (-1)), (0, .ref (ad 186)), (1, .int (nI ln))]) hx hb (dkP dF_62 DX5_readIf (i := 26) rfl rfl) rfl hl (by decide) rfl (fun ls hl => ?_)
    refine lv_aload_n hx hb (dkP dF_42 DX5_readIf (i := 27) rfl rfl) rfl (lv_at hl 2 rfl) ?_
    refine z_gms C0 hw 186 10 t ((congrFun (congrFun hG5.2 _) _).trans hto) (fk_of shc_186 rfl) fl_X5_35 (dk2 dF_180 DX5_readIf (i := 28) rfl rfl rfl) ?_
    refine z_gr C0 hw t 5 (t + 4) (fk_of (shl_ot_0 t ht) rfl) fl_X5_166 (dk2 dF_180 DX5_readIf (i := 29) rfl rfl rfl) ?_
    refine lv_iload_n hx hb (dkP dF_27 DX5_readIf (i := 30) rfl rfl) rfl (lv_at hl 3 rfl) ?_
    refine lv_iload_n hx hb (dkP dF_28 DX5_readIf (i := 31) rfl rfl) rfl (lv_at hl 1 rfl) ?_
    refine z_iastN (n := 24) C0 hw (t + 4) ln (ak_of (shl_ot_4 t ht)) (by omega) (by decide) (dkP dF_79 DX5_readIf (i := 32) rfl rfl) (fun H locs hw => ?_)
    have hT15 : TC (sI s5 (t + 4) ln (-1)) := TC.w hT5 (tc0 (tck_ot_4 t ht))
    have hF15 : frC (fun x y => (x = 186 ∧ y = 6) ∨ (x = 186 ∧ y = 7) ∨ (x = 186 ∧ y = 8) ∨ (x = t + 3) ∨ (x = t + 4) ∨ (x = t + 5) ∨ (x = t + 6)) σ (sI s5 (t + 4) ln (-1)) := frC.w hF5 (by show ((t + 4) = 186 ∧ ln = 6) ∨ ((t + 4) = 186 ∧ ln = 7) ∨ ((t + 4) = 186 ∧ ln = 8) ∨ ((t + 4) = t + 3) ∨ ((t + 4) = t + 4) ∨ ((t + 4) = t + 5) ∨ ((t + 4) = t + 6); exact Or.inr (Or.inr (Or.inr (Or.inr (Or.inl rfl)))))
    refine lv_aload_n hx hb (dkP dF_42 DX5_readIf (i := 33) rfl rfl) rfl (lv_at hl 2 rfl) ?_
    refine z_gms C0 hw 186 10 t ((congrFun (congrFun hG5.2 _) _).trans hto) (fk_of shc_186 rfl) fl_X5_35 (dk2 dF_180 DX5_readIf (i := 34) rfl rfl rfl) ?_
    refine z_gr C0 hw t 6 (t + 5) (fk_of (shl_ot_0 t ht) rfl) fl_X5_169 (dk2 dF_180 DX5_readIf (i := 35) rfl rfl rfl) ?_
    refine lv_iload_n hx hb (dkP dF_27 DX5_readIf (i := 36) rfl rfl) rfl (lv_at hl 3 rfl) ?_
    refine lv_iload_n hx hb (dkP dF_29 DX5_readIf (i := 37) rfl rfl) rfl (lv_at hl 0 rfl) ?_
    refine z_iastN (n := 24) C0 hw (t + 5) ln (ak_of (shl_ot_5 t ht)) (by omega) (by decide) (dkP dF_79 DX5_readIf (i := 38) rfl rfl) (fun H locs hw => ?_)
    have hT16 : TC (sI (sI s5 (t + 4) ln (-1)) (t + 5) ln (-1)) := TC.w hT15 (tc0 (tck_ot_5 t ht))
    have hF16 : frC (fun x y => (x = 186 ∧ y = 6) ∨ (x = 186 ∧ y = 7) ∨ (x = 186 ∧ y = 8) ∨ (x = t + 3) ∨ (x = t + 4) ∨ (x = t + 5) ∨ (x = t + 6)) σ (sI (sI s5 (t + 4) ln (-1)) (t + 5) ln (-1)) := frC.w hF15 (by show ((t + 5) = 186 ∧ ln = 6) ∨ ((t + 5) = 186 ∧ ln = 7) ∨ ((t + 5) = 186 ∧ ln = 8) ∨ ((t + 5) = t + 3) ∨ ((t + 5) = t + 4) ∨ ((t + 5) = t + 5) ∨ ((t + 5) = t + 6); exact Or.inr (Or.inr (Or.inr (Or.inr (Or.inr (Or.inl rfl))))))
    refine lv_iload_n hx hb (dkP dF_29 DX5_readIf (i := 39) rfl rfl) rfl (lv_at hl 0 rfl) ?_
    refine lv_iconst (v := (-1)) hx hb (dkP dF_2 DX5_readIf (i := 40) rfl rfl) (by decide) ?_
    refine lv_icmp_eq (tgt := 86) hx hb (dkS dF_159 DX5_readIf (i := 41) rfl rfl rfl) (by decide) (fun _ => ?_) (fun h => absurd h (by decide))
    refine lv_iconst (v := 0) hx hb (dkP dF_3 DX5_readIf (i := 48) rfl rfl) (by decide) ?_
    exact z_zret C0 hr hlk (by decide) hw (⟨(Or.inr ⟨rfl, trivial⟩), (by rw [((rd_n (by have hd1_ := otN t ht; omega)).trans rfl)]; exact (by rw [((rd_n (by have hd1_ := otN t ht; omega)).trans rfl)]; exact f5_1)), hT16, hF16⟩) (dkP dF_172 DX5_readIf (i := 49) rfl rfl)
