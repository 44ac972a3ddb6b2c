set_option maxRecDepth 100000 in
set_option maxHeartbeats 8000000 in
theorem c_X0_goOld (l : Launch) (G : va_G) (kc : KC) (ad : Nat → Nat) (σ : Sg) (mc : Nat) (pg : Nat) (inp : Int32) {t zs us : Nat} (hmc : mc ∈ mcL) (hpg : pg ∈ pgL) (ht : t ∈ otL) (hto : σ.2.2 pg 2 = some t) (hLH : LH σ pg) (hsz : σ.1 t 1 = nI zs) (hsz24 : zs ≤ 24) (hV : VOb σ t zs us) (hT : TC σ) : MV l G kc yX0_goOld cX0_goOld 3 3 75 [.ref (ad mc), .ref (ad pg), .int inp] shC ad σ (fun σ1 => (∃ a, σ1.1 mc 5 = nI a ∧ a ≤ 100 ∧ ∀ i, i < a → (σ1.1 (mc + 3) i).toInt < (zs : Int)) ∧ TC σ1 ∧ frC (fun x y => (x = mc + 1) ∨ (x = mc + 3) ∨ (x = mc + 4) ∨ (x = mc ∧ y = 4) ∨ (x = mc ∧ y = 5) ∨ (x = mc ∧ y = 6) ∨ (x = mc ∧ y = 8)) σ σ1) := by
  intro sz
  refine z_body (y := yX0_goOld) (n := 3) (av := [.ref (ad mc), .ref (ad pg), .int inp]) (Qc := fun A => va_Qv (fun σ1 => (∃ a, σ1.1 mc 5 = nI a ∧ a ≤ 100 ∧ ∀ i, i < a → (σ1.1 (mc + 3) i).toInt < (zs : Int)) ∧ TC σ1 ∧ frC (fun x y => (x = mc + 1) ∨ (x = mc + 3) ∨ (x = mc + 4) ∨ (x = mc ∧ y = 4) ∨ (x = mc ∧ y = 5) ∨ (x = mc ∧ y = 6) ∨ (x = mc ∧ y = 8)) σ σ1) (PoC G kc shC ad A) A) (plainFor_of_name (by decide)) (Nat.le_of_ble_eq_true rfl) (fun pr e s m below meth c A C0 hr hlk hnm hw hRo ls hl => ?_) sz
  have hx := C0.1
  have hb := C0.2.1
  have hown := C0.2.2.2.1
  have hts := C0.2.2.2.2.1
  have hl : lv_has ls 3 [(0, .ref (ad mc)), (1, .ref (ad pg)), (2, .int inp)] := hl
  have htn := otN t ht
  have hmcn := mcN mc hmc
  have hpgn := pgN pg hpg
  refine lv_aload_n hx hb (dkP dF_43 DX0_goOld (i := 0) rfl rfl) rfl (lv_at hl 1 rfl) ?_
  refine lv_iload_n hx hb (dkP dF_28 DX0_goOld (i := 1) rfl rfl) rfl (lv_at hl 2 rfl) ?_
  refine lv_aload_n hx hb (dkP dF_42 DX0_goOld (i := 2) rfl rfl) rfl (lv_at hl 0 rfl) ?_
  refine z_gr C0 hw mc 0 (mc + 1) (fk_of (shl_mc_0 mc hmc) rfl) fl_X0_9 (dk2 dF_180 DX0_goOld (i := 3) rfl rfl rfl) ?_
  refine zk_V hw (zr_V (As := [.int inp, .ref (ad (mc + 1))]) (rest := []) C0 (c_X4_beginFields l G kc ad σ pg inp mc hpg hmc hLH hT _) cv_X4_beginFields lk_X0_27 (zp_V C0 hRo hw pg (shl_pg_0 pg hpg) rfl rfl) rfl hl.1 rfl ⟨by decide, by decide⟩ (Nat.le_of_ble_eq_true rfl) (dk2 dF_182 DX0_goOld (i := 4) rfl rfl rfl) ⟨Nat.le_refl _, Nat.le_refl _⟩) (fun s1 H locs hp hw => ?_)
  obtain ⟨hT1, hG1⟩ := hp
  have hF1 : frC (fun x y => (x = mc + 1) ∨ (x = mc + 3) ∨ (x = mc + 4) ∨ (x = mc ∧ y = 4) ∨ (x = mc ∧ y = 5) ∨ (x = mc ∧ y = 6) ∨ (x = mc ∧ y = 8)) σ s1 := frC.t frC.refl hG1 (fun x y h => by have h : (x = mc + 1) := h; show (x = mc + 1) ∨ (x = mc + 3) ∨ (x = mc + 4) ∨ (x = mc ∧ y = 4) ∨ (x = mc ∧ y = 5) ∨ (x = mc ∧ y = 6) ∨ (x = mc ∧ y = 8); exact Or.inl h)
  refine lv_aload_n hx hb (dkP dF_42 DX0_goOld (i := 5) rfl rfl) rfl (lv_at hl 0 rfl) ?_
  refine lv_aload_n hx hb (dkP dF_43 DX0_goOld (i := 6) rfl rfl) rfl (lv_at hl 1 rfl) ?_
  refine z_gms C0 hw pg 2 t ((congrFun (congrFun hG1.2 _) _).trans hto) (fk_of (shl_pg_0 pg hpg) rfl) fl_X0_33 (dk2 dF_180 DX0_goOld (i := 7) rfl rfl rfl) ?_
  refine lv_iconst (v := 1) hx hb (dkP dF_4 DX0_goOld (i := 8) rfl rfl) (by decide) ?_
  refine zk_V hw (zr_V (As := [.ref (ad t), .int 1]) (rest := []) C0 (c_X0_goThrough l G kc ad s1 mc t 1 hmc ht ((hG1.1 t 1 (by show ¬ ((t = mc + 1)); omega)).trans hsz) hsz24 (hV.c (fun x y hxy => ((hG1.1 x y (by show ¬ ((x = mc + 1)); omega)).trans rfl))) hT1 _) cv_X0_goThrough lk_X0_37 (zp_V C0 hRo hw mc (shl_mc_0 mc hmc) rfl rfl) rfl hl.1 rfl ⟨by decide, by decide⟩ (Nat.le_of_ble_eq_true rfl) (dk2 dF_182 DX0_goOld (i := 9) rfl rfl rfl) ⟨Nat.le_refl _, Nat.le_refl _⟩) (fun s2 H locs hp hw => ?_)
  obtain ⟨f2_0, hT2, hG2⟩ := hp
  have hF2 : frC (fun x y => (x = mc + 1) ∨ (x = mc + 3) ∨ (x = mc + 4) ∨ (x = mc ∧ y = 4) ∨ (x = mc ∧ y = 5) ∨ (x = mc ∧ y = 6) ∨ (x = mc ∧ y = 8)) σ s2 := frC.t hF1 hG2 (fun x y h => by have h : (x = mc + 1) ∨ (x = mc + 3) ∨ (x = mc + 4) ∨ (x = mc ∧ y = 4) ∨ (x = mc ∧ y = 5) ∨ (x = mc ∧ y = 6) ∨ (x = mc ∧ y = 8) := h; show (x = mc + 1) ∨ (x = mc + 3) ∨ (x = mc + 4) ∨ (x = mc ∧ y = 4) ∨ (x = mc ∧ y = 5) ∨ (x = mc ∧ y = 6) ∨ (x = mc ∧ y = 8); rcases h with h | h | h | h | h | h | h; (· exact Or.inl h); (· exact Or.inr (Or.inl h)); (· exact Or.inr (Or.inr (Or.inl h))); (· exact Or.inr (Or.inr (Or.inr (Or.inl h)))); (· exact Or.inr (Or.inr (Or.inr (Or.inr (Or.inl h))))); (· exact Or.inr (Or.inr (Or.inr (Or.inr (Or.inr (Or.inl h)))))); (· exact Or.inr (Or.inr (Or.inr (Or.inr (Or.inr (Or.inr (h))))))))
  exact z_vret C0 hr hlk hw (⟨f2_0, hT2, hF2⟩) (dkP dF_177 DX0_goOld (i := 10) rfl rfl)
