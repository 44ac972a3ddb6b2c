set_option maxRecDepth 100000 in
set_option maxHeartbeats 8000000 in
theorem c_X11_takeNewText (l : Launch) (G : va_G) (kc : KC) (ad : Nat → Nat) (σ : Sg) (pg : Nat) {u u1 : Nat} (hpg : pg ∈ pgL) (hun1 : σ.2.2 pg 3 = some u1) (hun : σ.2.2 186 11 = some u) (hu : u ∈ ntL) (hpn : pg ≠ 186) (hT : TC σ) : MV l G kc yX11_takeNewText cX11_takeNewText 3 0 0 [.ref (ad 0), .ref (ad pg)] shC ad σ (fun σ1 => (σ1.2.2 pg 3 = some u) ∧ (σ1.2.2 186 11 = some u1) ∧ (∀ a b, ¬ (a = pg ∧ b = 3) → ¬ (a = 186 ∧ b = 11) → σ1.2.2 a b = σ.2.2 a b) ∧ TC σ1 ∧ frI (fun x y => (x = pg ∧ y = 0) ∨ (x = pg ∧ y = 1) ∨ (x = u ∧ y = 0)) σ σ1) := by
  intro sz
  refine z_body (y := yX11_takeNewText) (n := 3) (av := [.ref (ad 0), .ref (ad pg)]) (Qc := fun A => va_Qv (fun σ1 => (σ1.2.2 pg 3 = some u) ∧ (σ1.2.2 186 11 = some u1) ∧ (∀ a b, ¬ (a = pg ∧ b = 3) → ¬ (a = 186 ∧ b = 11) → σ1.2.2 a b = σ.2.2 a b) ∧ TC σ1 ∧ frI (fun x y => (x = pg ∧ y = 0) ∨ (x = pg ∧ y = 1) ∨ (x = u ∧ y = 0)) σ σ1) (PoC G kc shC ad A) A) (plainFor_of_name (by decide)) (Nat.le_of_ble_eq_true rfl) (fun pr e s m below meth c A C0 hr hlk hnm hw hRo ls hl => ?_) sz
  have hx := C0.1
  have hb := C0.2.1
  have hown := C0.2.2.2.1
  have hts := C0.2.2.2.2.1
  have hl : lv_has ls 3 [(0, .ref (ad 0)), (1, .ref (ad pg))] := hl
  refine lv_aload_n hx hb (dkP dF_43 DX11_takeNewText (i := 0) rfl rfl) rfl (lv_at hl 1 rfl) ?_
  refine z_gms C0 hw pg 3 u1 hun1 (fk_of (shl_pg_0 pg hpg) rfl) fl_X11_117 (dk2 dF_180 DX11_takeNewText (i := 1) rfl rfl rfl) ?_
  refine lv_astore_n (lv' := [(2, .ref (ad u1)), (0, .ref (ad 0)), (1, .ref (ad pg))]) hx hb (dkP dF_77 DX11_takeNewText (i := 2) rfl rfl) rfl hl (by decide) rfl (fun ls hl => ?_)
  refine lv_aload_n hx hb (dkP dF_43 DX11_takeNewText (i := 3) rfl rfl) rfl (lv_at hl 2 rfl) ?_
  refine lv_aload_n hx hb (dkP dF_42 DX11_takeNewText (i := 4) rfl rfl) rfl (lv_at hl 1 rfl) ?_
  refine z_gr C0 hw 0 3 186 (fk_of shc_0 rfl) fl_X11_27 (dk2 dF_180 DX11_takeNewText (i := 5) rfl rfl rfl) ?_
  refine z_gms C0 hw 186 11 u hun (fk_of shc_186 rfl) fl_X11_193 (dk2 dF_180 DX11_takeNewText (i := 6) rfl rfl rfl) ?_
  refine z_pm C0 hw pg 3 u (fk_of (shl_pg_0 pg hpg) rfl) fp_X11_117 (dk2 dF_181 DX11_takeNewText (i := 7) rfl rfl rfl) (fun H locs hw => ?_)
  have hF1 : frI (fun x y => (x = pg ∧ y = 0) ∨ (x = pg ∧ y = 1) ∨ (x = u ∧ y = 0)) σ (sP σ pg 3 (some u)) := frI.p frI.refl
  refine lv_aload_n hx hb (dkP dF_42 DX11_takeNewText (i := 8) rfl rfl) rfl (lv_at hl 1 rfl) ?_
  refine z_gr C0 hw 0 3 186 (fk_of shc_0 rfl) fl_X11_27 (dk2 dF_180 DX11_takeNewText (i := 9) rfl rfl rfl) ?_
  refine lv_aload_n hx hb (dkP dF_44 DX11_takeNewText (i := 10) rfl rfl) rfl (lv_at hl 0 rfl) ?_
  refine z_pm C0 hw 186 11 u1 (fk_of shc_186 rfl) fp_X11_193 (dk2 dF_181 DX11_takeNewText (i := 11) rfl rfl rfl) (fun H locs hw => ?_)
  have hF2 : frI (fun x y => (x = pg ∧ y = 0) ∨ (x = pg ∧ y = 1) ∨ (x = u ∧ y = 0)) σ (sP (sP σ pg 3 (some u)) 186 11 (some u1)) := frI.p hF1
  refine lv_aload_n hx hb (dkP dF_43 DX11_takeNewText (i := 12) rfl rfl) rfl (lv_at hl 2 rfl) ?_
  refine z_gms C0 hw pg 3 u ((rp_n (by omega)).trans rp_s) (fk_of (shl_pg_0 pg hpg) rfl) fl_X11_117 (dk2 dF_180 DX11_takeNewText (i := 13) rfl rfl rfl) ?_
  refine lv_iconst (v := 1) hx hb (dkP dF_4 DX11_takeNewText (i := 14) rfl rfl) (by decide) ?_
  refine z_pz C0 hw u 0 (by decide) (fk_of (shl_nt_0 u hu) rfl) fp_X11_167 (dk2 dF_181 DX11_takeNewText (i := 15) rfl rfl rfl) (fun H locs hw => ?_)
  have hT3 : TC (sI (sP (sP σ pg 3 (some u)) 186 11 (some u1)) u 0 1) := TC.w hT (tcw_2_0 (tck_nt_0 u hu) (by (try simp (disch := omega) only [ta_lt, ta_le, ta_eq, tb_lt, tb_le, tb_eq, tw, tnI, tsub1, tsv, tsb32, tn32 1 (by decide), tnj 1 (by decide), tl32 0 (by decide), tl64 0 (by decide), tl32 1 (by decide), tl64 1 (by decide)]); omega))
  have hF3 : frI (fun x y => (x = pg ∧ y = 0) ∨ (x = pg ∧ y = 1) ∨ (x = u ∧ y = 0)) σ (sI (sP (sP σ pg 3 (some u)) 186 11 (some u1)) u 0 1) := frI.w hF2 (by show (u = pg ∧ 0 = 0) ∨ (u = pg ∧ 0 = 1) ∨ (u = u ∧ 0 = 0); exact Or.inr (Or.inr (⟨rfl, rfl⟩)))
  refine lv_aload_n hx hb (dkP dF_43 DX11_takeNewText (i := 16) rfl rfl) rfl (lv_at hl 2 rfl) ?_
  refine lv_iconst (v := 1) hx hb (dkP dF_4 DX11_takeNewText (i := 17) rfl rfl) (by decide) ?_
  refine z_pi C0 hw pg 0 (fk_of (shl_pg_0 pg hpg) rfl) fp_X11_88 (dk2 dF_181 DX11_takeNewText (i := 18) rfl rfl rfl) (fun H locs hw => ?_)
  have hT4 : TC (sI (sI (sP (sP σ pg 3 (some u)) 186 11 (some u1)) u 0 1) pg 0 1) := TC.w hT3 (tcw_5_0 (tck_pg_0 pg hpg))
  have hF4 : frI (fun x y => (x = pg ∧ y = 0) ∨ (x = pg ∧ y = 1) ∨ (x = u ∧ y = 0)) σ (sI (sI (sP (sP σ pg 3 (some u)) 186 11 (some u1)) u 0 1) pg 0 1) := frI.w hF3 (by show (pg = pg ∧ 0 = 0) ∨ (pg = pg ∧ 0 = 1) ∨ (pg = u ∧ 0 = 0); exact Or.inl (⟨rfl, rfl⟩))
  refine lv_aload_n hx hb (dkP dF_43 DX11_takeNewText (i := 19) rfl rfl) rfl (lv_at hl 2 rfl) ?_
  refine lv_iconst (v := (-1)) hx hb (dkP dF_2 DX11_takeNewText (i := 20) rfl rfl) (by decide) ?_
  refine z_pi C0 hw pg 1 (fk_of (shl_pg_0 pg hpg) rfl) fp_X11_140 (dk2 dF_181 DX11_takeNewText (i := 21) rfl rfl rfl) (fun H locs hw => ?_)
  have hT5 : TC (sI (sI (sI (sP (sP σ pg 3 (some u)) 186 11 (some u1)) u 0 1) pg 0 1) pg 1 (-1)) := TC.w hT4 (tcw_5_1 (tck_pg_0 pg hpg))
  have hF5 : frI (fun x y => (x = pg ∧ y = 0) ∨ (x = pg ∧ y = 1) ∨ (x = u ∧ y = 0)) σ (sI (sI (sI (sP (sP σ pg 3 (some u)) 186 11 (some u1)) u 0 1) pg 0 1) pg 1 (-1)) := frI.w hF4 (by show (pg = pg ∧ 1 = 0) ∨ (pg = pg ∧ 1 = 1) ∨ (pg = u ∧ 1 = 0); exact Or.inr (Or.inl (⟨rfl, rfl⟩)))
  exact z_vret C0 hr hlk hw (⟨(show (sI (sI (sP (sP σ pg 3 (some u)) 186 11 (some u1)) u 0 1) pg 0 1).2.2 pg 3 = some u from (show (sI (sP (sP σ pg 3 (some u)) 186 11 (some u1)) u 0 1).2.2 pg 3 = some u from (show (sP (sP σ pg 3 (some u)) 186 11 (some u1)).2.2 pg 3 = some u from ((rp_n (by omega)).trans rp_s)))), (show (sI (sI (sP (sP σ pg 3 (some u)) 186 11 (some u1)) u 0 1) pg 0 1).2.2 186 11 = some u1 from (show (sI (sP (sP σ pg 3 (some u)) 186 11 (some u1)) u 0 1).2.2 186 11 = some u1 from (show (sP (sP σ pg 3 (some u)) 186 11 (some u1)).2.2 186 11 = some u1 from rp_s))), (fun a b h1 h2 => ((rp_n (by omega)).trans ((rp_n (by omega)).trans rfl))), hT5, hF5⟩) (dkP dF_177 DX11_takeNewText (i := 22) rfl rfl)
set_option maxRecDepth 100000 in
set_option maxHeartbeats 8000000 in
theorem c_X11_old (l : Launch) (G : va_G) (kc : KC) (ad : Nat → Nat) (σ : Sg) (program : Int32) (hJ : JC σ) (hT : TC σ) : MI l G kc yX11_old cX11_old 4 (some .int) 7 152 [.ref (ad 0), .int program] shC ad σ (fun r σ1 => (JC σ1) ∧ TC σ1 ∧ frI (fun x y => ((8 ≤ x ∧ x ≤ 183) ∨ (186 ≤ x ∧ x ≤ 209)) ∨ (x = 186 ∧ y = 1) ∨ (x = 186 ∧ y = 5) ∨ (x = 186 ∧ y = 6) ∨ (x = 186 ∧ y = 7) ∨ (x = 186 ∧ y = 8) ∨ (x = 188) ∨ (x = 189) ∨ (x = 190) ∨ (x = 191)) σ σ1) := by
  intro sz
  refine z_body (y := yX11_old) (n := 4) (av := [.ref (ad 0), .int program]) (Qc := fun A => va_Qi (fun r σ1 => (JC σ1) ∧ TC σ1 ∧ frI (fun x y => ((8 ≤ x ∧ x ≤ 183) ∨ (186 ≤ x ∧ x ≤ 209)) ∨ (x = 186 ∧ y = 1) ∨ (x = 186 ∧ y = 5) ∨ (x = 186 ∧ y = 6) ∨ (x = 186 ∧ y = 7) ∨ (x = 186 ∧ y = 8) ∨ (x = 188) ∨ (x = 189) ∨ (x = 190) ∨ (x = 191)) σ σ1) (PoC G kc shC ad A) A) (plainFor_of_name (by decide)) (Nat.le_of_ble_eq_true rfl) (fun pr e s m below meth c A C0 hr hlk hnm hw hRo ls hl => ?_) sz
  have hx := C0.1
  have hb := C0.2.1
  have hown := C0.2.2.2.1
  have hts := C0.2.2.2.2.1
  have hl : lv_has ls 4 [(0, .ref (ad 0)), (1, .int program)] := hl
  obtain ⟨t, u, hto, ht, hun, hu⟩ := hJ.rdr
  obtain ⟨wa, wb, hwa_, hwa, hwb_, hwb, hwab⟩ := hJ.wts
  have hm8 := hJ.rg8 hto hun
  refine lv_aload_n hx hb (dkP dF_42 DX11_old (i := 0) rfl rfl) rfl (lv_at hl 0 rfl) ?_
  refine lv_iload_n hx hb (dkP dF_27 DX11_old (i := 1) rfl rfl) rfl (lv_at hl 1 rfl) ?_
  refine zk_R hw (zr_V (As := [.int program]) (rest := []) C0 (c_X11_programAt l G kc ad σ program  _) cv_X11_programAt lk_X11_84 (zp_V C0 hRo hw 0 shc_0 rfl rfl) rfl hl.1 rfl ⟨by decide, by decide⟩ (Nat.le_of_ble_eq_true rfl) (dk2 dF_182 DX11_old (i := 2) rfl rfl rfl) ⟨Nat.le_refl _, Nat.le_refl _⟩) (fun r1 s1 H locs hp hw => ?_)
  obtain ⟨hq1, hs1⟩ := hp
  (rw [hs1] at hw)
  rcases hq1 with ⟨hc1, rfl⟩ | ⟨k_program, hk_program, rfl, rfl⟩
  · skip
    refine lv_astore_nN (lv' := [(2, .null), (0, .ref (ad 0)), (1, .int program)]) hx hb (dkP dF_77 DX11_old (i := 3) rfl rfl) rfl hl (by decide) rfl (fun ls hl => ?_)
    refine lv_aload_nN hx hb (dkP dF_44 DX11_old (i := 4) rfl rfl) rfl (lv_at hl 0 rfl) ?_
    refine lv_ifnullN (tgt := 17) hx hb (dkS dF_198 DX11_old (i := 5) rfl rfl rfl) (by decide) ?_
    refine lv_bipush (v := (-2)) hx hb (dks dF_16 DX11_old (i := 9) rfl rfl rfl) (by decide) ?_
    exact z_iret C0 hr hlk hw (⟨hJ, hT, frI.refl⟩) (dkP dF_172 DX11_old (i := 10) rfl rfl)
  · skip
    obtain ⟨t1, u1, hto1, ht1, hun1, hu1, hVP⟩ := hJ.prog hk_program
    obtain ⟨hLH, ⟨zo, uo, hzo, hzo24, hVo⟩, zn, un, K_, hzn, hzn40, hVn⟩ := id hVP
    refine lv_astore_n (lv' := [(2, .ref (ad (8 + 22 * k_program))), (0, .ref (ad 0)), (1, .int (nI k_program))]) hx hb (dkP dF_77 DX11_old (i := 3) rfl rfl) rfl hl (by decide) rfl (fun ls hl => ?_)
    refine lv_aload_n hx hb (dkP dF_44 DX11_old (i := 4) rfl rfl) rfl (lv_at hl 0 rfl) ?_
    refine lv_ifnull hx hb (dkS dF_198 DX11_old (i := 5) rfl rfl rfl) ?_
    refine lv_aload_n hx hb (dkP dF_44 DX11_old (i := 6) rfl rfl) rfl (lv_at hl 0 rfl) ?_
    refine z_gi C0 hw (8 + 22 * k_program) 0 (fk_of (shp_8 k_program (by omega)) rfl) fl_X11_88 (dk2 dF_180 DX11_old (i := 7) rfl rfl rfl) ?_
    obtain ⟨v2, ev2⟩ : ∃ y : Int32, σ.1 (8 + 22 * k_program) 0 = y := ⟨_, rfl⟩
    refine z_top (y := v2) ev2 ?_
    refine lv_if_eq (tgt := 20) hx hb (dkS dF_153 DX11_old (i := 8) rfl rfl rfl) (by decide) (fun c3 => ?_) (fun c3 => ?_)
    · (try simp (disch := omega) only [ta_lt, ta_le, ta_eq, tnI, tl32 0 (by decide)] at c3)
      refine lv_aload_n hx hb (dkP dF_42 DX11_old (i := 11) rfl rfl) rfl (lv_at hl 1 rfl) ?_
      refine z_gr C0 hw 0 3 186 (fk_of shc_0 rfl) fl_X11_27 (dk2 dF_180 DX11_old (i := 12) rfl rfl rfl) ?_
      refine zk_I hw (zr_V (As := []) (rest := []) C0 (c_X5_readsOld l G kc ad σ hto ht hT _) cv_X5_readsOld lk_X11_93 (zp_V C0 hRo hw 186 shc_186 rfl rfl) rfl hl.1 rfl ⟨by decide, by decide⟩ (Nat.le_of_ble_eq_true rfl) (dk2 dF_182 DX11_old (i := 13) rfl rfl rfl) ⟨Nat.le_refl _, Nat.le_refl _⟩) (fun r4 s4 H locs hp hw => ?_)
      obtain ⟨f4_0, hT4, hG4⟩ := hp
      have hF4 : frI (fun x y => ((8 ≤ x ∧ x ≤ 183) ∨ (186 ≤ x ∧ x ≤ 209)) ∨ (x = 186 ∧ y = 1) ∨ (x = 186 ∧ y = 5) ∨ (x = 186 ∧ y = 6) ∨ (x = 186 ∧ y = 7) ∨ (x = 186 ∧ y = 8) ∨ (x = 188) ∨ (x = 189) ∨ (x = 190) ∨ (x = 191)) σ s4 := frI.t frI.refl hG4 (fun x y h => by have h : (x = 186 ∧ y = 1) ∨ (x = 186 ∧ y = 5) ∨ (x = 186 ∧ y = 6) ∨ (x = 186 ∧ y = 7) ∨ (x = 186 ∧ y = 8) ∨ (x = 188) ∨ (x = 189) ∨ (x = 190) ∨ (x = 191) ∨ (x = t + 1) ∨ (x = t + 2) ∨ (x = t + 3) ∨ (x = t + 4) ∨ (x = t + 5) ∨ (x = t + 6) ∨ (x = t + 7) ∨ (x = t + 8 ∧ y = 1) ∨ (x = t + 9) ∨ (x = t ∧ y = 0) ∨ (x = t ∧ y = 1) := h; show ((8 ≤ x ∧ x ≤ 183) ∨ (186 ≤ x ∧ x ≤ 209)) ∨ (x = 186 ∧ y = 1) ∨ (x = 186 ∧ y = 5) ∨ (x = 186 ∧ y = 6) ∨ (x = 186 ∧ y = 7) ∨ (x = 186 ∧ y = 8) ∨ (x = 188) ∨ (x = 189) ∨ (x = 190) ∨ (x = 191); rcases h with h | h | h | h | h | h | h | h | h | h | h | h | h | h | h | h | h | h | h | h; (· exact Or.inr (Or.inl h)); (· exact Or.inr (Or.inr (Or.inl h))); (· exact Or.inr (Or.inr (Or.inr (Or.inl h)))); (· exact Or.inr (Or.inr (Or.inr (Or.inr (Or.inl h))))); (· exact Or.inr (Or.inr (Or.inr (Or.inr (Or.inr (Or.inl h)))))); (· exact Or.inr (Or.inr (Or.inr (Or.inr (Or.inr (Or.inr (Or.inl h))))))); (· exact Or.inr (Or.inr (Or.inr (Or.inr (Or.inr (Or.inr (Or.inr (Or.inl h)))))))); (· exact Or.inr (Or.inr (Or.inr (Or.inr (Or.inr (Or.inr (Or.inr (Or.inr (Or.inl h))))))))); (· exact Or.inr (Or.inr (Or.inr (Or.inr (Or.inr (Or.inr (Or.inr (Or.inr (Or.inr (h)))))))))); (· exact Or.inl (by show (8 ≤ x ∧ x ≤ 183) ∨ (186 ≤ x ∧ x ≤ 209); have hq_ := hm8.1; unfold RGT at hq_; omega)); (· exact Or.inl (by show (8 ≤ x ∧ x ≤ 183) ∨ (186 ≤ x ∧ x ≤ 209); have hq_ := hm8.1; unfold RGT at hq_; omega)); (· exact Or.inl (by show (8 ≤ x ∧ x ≤ 183) ∨ (186 ≤ x ∧ x ≤ 209); have hq_ := hm8.1; unfold RGT at hq_; omega)); (· exact Or.inl (by show (8 ≤ x ∧ x ≤ 183) ∨ (186 ≤ x ∧ x ≤ 209); have hq_ := hm8.1; unfold RGT at hq_; omega)); (· exact Or.inl (by show (8 ≤ x ∧ x ≤ 183) ∨ (186 ≤ x ∧ x ≤ 209); have hq_ := hm8.1; unfold RGT at hq_; omega)); (· exact Or.inl (by show (8 ≤ x ∧ x ≤ 183) ∨ (186 ≤ x ∧ x ≤ 209); have hq_ := hm8.1; unfold RGT at hq_; omega)); (· exact Or.inl (by show (8 ≤ x ∧ x ≤ 183) ∨ (186 ≤ x ∧ x ≤ 209); have hq_ := hm8.1; unfold RGT at hq_; omega)); (· exact Or.inl (by show (8 ≤ x ∧ x ≤ 183) ∨ (186 ≤ x ∧ x ≤ 209); have hq_ := hm8.1; unfold RGT at hq_; omega)); (· exact Or.inl (by show (8 ≤ x ∧ x ≤ 183) ∨ (186 ≤ x ∧ x ≤ 209); have hq_ := hm8.1; unfold RGT at hq_; omega)); (· exact Or.inl (by show (8 ≤ x ∧ x ≤ 183) ∨ (186 ≤ x ∧ x ≤ 209); have hq_ := hm8.1; unfold RGT at hq_; omega)); (· exact Or.inl (by show (8 ≤ x ∧ x ≤ 183) ∨ (186 ≤ x ∧ x ≤ 209); have hq_ := hm8.1; unfold RGT at hq_; omega)))
      rcases f4_0 with ⟨rfl, hc4⟩ | ⟨rfl, hc4⟩
      · skip
        refine lv_if_ne (tgt := 33) hx hb (dkS dF_154 DX11_old (i := 14) rfl rfl rfl) (by decide) (fun _ => ?_) (fun h => absurd h (by decide))
        have hm1 := hJ.rg (k := k_program) (by omega) hto1 hun1
        refine lv_aload_n hx hb (dkP dF_44 DX11_old (i := 17) rfl rfl) rfl (lv_at hl 0 rfl) ?_
        refine z_gms C0 hw (8 + 22 * k_program) 2 t1 ((congrFun (congrFun hG4.2 _) _).trans hto1) (fk_of (shp_8 k_program (by omega)) rfl) fl_X11_97 (dk2 dF_180 DX11_old (i := 18) rfl rfl rfl) ?_
        refine lv_astore_n (lv' := [(3, .ref (ad t1)), (2, .ref (ad (8 + 22 * k_program))), (0, .ref (ad 0)), (1, .int (nI k_program))]) hx hb (dkP dF_78 DX11_old (i := 19) rfl rfl) rfl hl (by decide) rfl (fun ls hl => ?_)
        refine lv_aload_n hx hb (dkP dF_44 DX11_old (i := 20) rfl rfl) rfl (lv_at hl 1 rfl) ?_
        refine lv_aload_n hx hb (dkP dF_42 DX11_old (i := 21) rfl rfl) rfl (lv_at hl 2 rfl) ?_
        refine z_gr C0 hw 0 3 186 (fk_of shc_0 rfl) fl_X11_27 (dk2 dF_180 DX11_old (i := 22) rfl rfl rfl) ?_
        refine z_gms C0 hw 186 10 t ((congrFun (congrFun hG4.2 _) _).trans hto) (fk_of shc_186 rfl) fl_X11_101 (dk2 dF_180 DX11_old (i := 23) rfl rfl rfl) ?_
        refine z_pm C0 hw (8 + 22 * k_program) 2 t (fk_of (shp_8 k_program (by omega)) rfl) fp_X11_97 (dk2 dF_181 DX11_old (i := 24) rfl rfl rfl) (fun H locs hw => ?_)
        have hF5 : frI (fun x y => ((8 ≤ x ∧ x ≤ 183) ∨ (186 ≤ x ∧ x ≤ 209)) ∨ (x = 186 ∧ y = 1) ∨ (x = 186 ∧ y = 5) ∨ (x = 186 ∧ y = 6) ∨ (x = 186 ∧ y = 7) ∨ (x = 186 ∧ y = 8) ∨ (x = 188) ∨ (x = 189) ∨ (x = 190) ∨ (x = 191)) σ (sP s4 (8 + 22 * k_program) 2 (some t)) := frI.p hF4
        refine lv_aload_n hx hb (dkP dF_42 DX11_old (i := 25) rfl rfl) rfl (lv_at hl 2 rfl) ?_
        refine z_gr C0 hw 0 3 186 (fk_of shc_0 rfl) fl_X11_27 (dk2 dF_180 DX11_old (i := 26) rfl rfl rfl) ?_
        refine lv_aload_n hx hb (dkP dF_45 DX11_old (i := 27) rfl rfl) rfl (lv_at hl 0 rfl) ?_
        refine z_pm C0 hw 186 10 t1 (fk_of shc_186 rfl) fp_X11_101 (dk2 dF_181 DX11_old (i := 28) rfl rfl rfl) (fun H locs hw => ?_)
        have hF6 : frI (fun x y => ((8 ≤ x ∧ x ≤ 183) ∨ (186 ≤ x ∧ x ≤ 209)) ∨ (x = 186 ∧ y = 1) ∨ (x = 186 ∧ y = 5) ∨ (x = 186 ∧ y = 6) ∨ (x = 186 ∧ y = 7) ∨ (x = 186 ∧ y = 8) ∨ (x = 188) ∨ (x = 189) ∨ (x = 190) ∨ (x = 191)) σ (sP (sP s4 (8 + 22 * k_program) 2 (some t)) 186 10 (some t1)) := frI.p hF5
        refine lv_aload_n hx hb (dkP dF_44 DX11_old (i := 29) rfl rfl) rfl (lv_at hl 1 rfl) ?_
        refine z_gms C0 hw (8 + 22 * k_program) 2 t ((rp_n (by omega)).trans rp_s) (fk_of (shp_8 k_program (by omega)) rfl) fl_X11_97 (dk2 dF_180 DX11_old (i := 30) rfl rfl rfl) ?_
        refine z_gi C0 hw t 1 (fk_of (shl_ot_0 t ht) rfl) fl_X11_102 (dk2 dF_180 DX11_old (i := 31) rfl rfl rfl) ?_
        obtain ⟨n7, hn7, en7⟩ := rngN (x := (sP (sP s4 (8 + 22 * k_program) 2 (some t)) 186 10 (some t1)).1 t 1) (h := 24) (tcr_1_1 hT4 (tck_ot_0 t ht))
        refine z_top (y := nI n7) en7 ?_
        exact z_iret C0 hr hlk hw (⟨(hJ.swO (k := k_program) (by omega) hto1 hun1 hto (VO.c hc4 (fun x y hxy => rfl)) (fun x y hj => by by_cases hx_ : t ≤ x ∧ x ≤ t + 9; (· exact Or.inr hx_); (· have hj2 := hj; unfold jcq at hj2; exact Or.inl ((hG4.1 x y (by show ¬ ((x = 186 ∧ y = 1) ∨ (x = 186 ∧ y = 5) ∨ (x = 186 ∧ y = 6) ∨ (x = 186 ∧ y = 7) ∨ (x = 186 ∧ y = 8) ∨ (x = 188) ∨ (x = 189) ∨ (x = 190) ∨ (x = 191) ∨ (x = t + 1) ∨ (x = t + 2) ∨ (x = t + 3) ∨ (x = t + 4) ∨ (x = t + 5) ∨ (x = t + 6) ∨ (x = t + 7) ∨ (x = t + 8 ∧ y = 1) ∨ (x = t + 9) ∨ (x = t ∧ y = 0) ∨ (x = t ∧ y = 1)); intro h_; rcases h_ with h_ | h_ | h_ | h_ | h_ | h_ | h_ | h_ | h_ | h_ | h_ | h_ | h_ | h_ | h_ | h_ | h_ | h_ | h_ | h_; (· have hd_ := wtN2 wb hwb; omega); (· have hd_ := wtN2 wb hwb; omega); (· have hd_ := wtN2 wb hwb; omega); (· have hd_ := wtN2 wb hwb; omega); (· have hd_ := wtN2 wb hwb; omega); (· have hd_ := wtN2 wb hwb; omega); (· have hd_ := wtN2 wb hwb; omega); (· have hd_ := wtN2 wb hwb; omega); (· have hd_ := wtN2 wb hwb; omega); (· have hd_ := wtN2 wb hwb; omega); (· have hd_ := wtN2 wb hwb; omega); (· have hd_ := wtN2 wb hwb; omega); (· have hd_ := wtN2 wb hwb; omega); (· have hd_ := wtN2 wb hwb; omega); (· have hd_ := wtN2 wb hwb; omega); (· have hd_ := wtN2 wb hwb; omega); (· have hd_ := wtN2 wb hwb; omega); (· have hd_ := wtN2 wb hwb; omega); (· have hd_ := wtN2 wb hwb; omega); (· have hd_ := wtN2 wb hwb; omega))).trans rfl))) ((rp_n (by omega)).trans rp_s) rp_s (fun a b h1 h2 => ((rp_n (by omega)).trans ((rp_n (by omega)).trans ((congrFun (congrFun hG4.2 a) b).trans rfl))))), hT4, hF6⟩) (dkP dF_172 DX11_old (i := 32) rfl rfl)
      · skip
        refine lv_if_ne (tgt := 33) hx hb (dkS dF_154 DX11_old (i := 14) rfl rfl rfl) (by decide) (fun h => absurd h (by decide)) (fun _ => ?_)
        refine lv_bipush (v := (-4)) hx hb (dks dF_16 DX11_old (i := 15) rfl rfl rfl) (by decide) ?_
        exact z_iret C0 hr hlk hw (⟨(hJ.scr hto hun hG4.2 (fun x y hj => by by_cases hx_ : t ≤ x ∧ x ≤ t + 9; (· exact Or.inr (Or.inl hx_)); (· by_cases hy_ : u ≤ x ∧ x ≤ u + 7; (· exact Or.inr (Or.inr hy_)); (· have hj2 := hj; unfold jcq at hj2; exact Or.inl ((hG4.1 x y (by show ¬ ((x = 186 ∧ y = 1) ∨ (x = 186 ∧ y = 5) ∨ (x = 186 ∧ y = 6) ∨ (x = 186 ∧ y = 7) ∨ (x = 186 ∧ y = 8) ∨ (x = 188) ∨ (x = 189) ∨ (x = 190) ∨ (x = 191) ∨ (x = t + 1) ∨ (x = t + 2) ∨ (x = t + 3) ∨ (x = t + 4) ∨ (x = t + 5) ∨ (x = t + 6) ∨ (x = t + 7) ∨ (x = t + 8 ∧ y = 1) ∨ (x = t + 9) ∨ (x = t ∧ y = 0) ∨ (x = t ∧ y = 1)); intro h_; rcases h_ with h_ | h_ | h_ | h_ | h_ | h_ | h_ | h_ | h_ | h_ | h_ | h_ | h_ | h_ | h_ | h_ | h_ | h_ | h_ | h_; (· have hd_ := wtN2 wb hwb; omega); (· have hd_ := wtN2 wb hwb; omega); (· have hd_ := wtN2 wb hwb; omega); (· have hd_ := wtN2 wb hwb; omega); (· have hd_ := wtN2 wb hwb; omega); (· have hd_ := wtN2 wb hwb; omega); (· have hd_ := wtN2 wb hwb; omega); (· have hd_ := wtN2 wb hwb; omega); (· have hd_ := wtN2 wb hwb; omega); (· have hd_ := wtN2 wb hwb; omega); (· have hd_ := wtN2 wb hwb; omega); (· have hd_ := wtN2 wb hwb; omega); (· have hd_ := wtN2 wb hwb; omega); (· have hd_ := wtN2 wb hwb; omega); (· have hd_ := wtN2 wb hwb; omega); (· have hd_ := wtN2 wb hwb; omega); (· have hd_ := wtN2 wb hwb; omega); (· have hd_ := wtN2 wb hwb; omega); (· have hd_ := wtN2 wb hwb; omega); (· have hd_ := wtN2 wb hwb; omega))).trans rfl))))), hT4, hF4⟩) (dkP dF_172 DX11_old (i := 16) rfl rfl)
    · (try simp (disch := omega) only [ta_lt, ta_le, ta_eq, tnI, tl32 0 (by decide)] at c3)
      refine lv_bipush (v := (-2)) hx hb (dks dF_16 DX11_old (i := 9) rfl rfl rfl) (by decide) ?_
      exact z_iret C0 hr hlk hw (⟨hJ, hT, frI.refl⟩) (dkP dF_172 DX11_old (i := 10) rfl rfl)
set_option maxRecDepth 100000 in
set_option maxHeartbeats 8000000 in
theorem c_X11_renew (l : Launch) (G : va_G) (kc : KC) (ad : Nat → Nat) (σ : Sg) (program : Int32) (hJ : JC σ) (hT : TC σ) : MI l G kc yX11_renew cX11_renew 3 (some .int) 7 155 [.ref (ad 0), .int program] shC ad σ (fun r σ1 => (JC σ1) ∧ TC σ1 ∧ frI (fun x y => ((8 ≤ x ∧ x ≤ 183) ∨ (186 ≤ x ∧ x ≤ 209)) ∨ (x % 22 = 8 ∧ 8 ≤ x ∧ x ≤ 162 ∧ y = 0) ∨ (x % 22 = 8 ∧ 8 ≤ x ∧ x ≤ 162 ∧ y = 1) ∨ (x = 186 ∧ y = 1) ∨ (x = 186 ∧ y = 5) ∨ (x = 186 ∧ y = 6) ∨ (x = 186 ∧ y = 7) ∨ (x = 186 ∧ y = 8) ∨ (x = 188) ∨ (x = 189) ∨ (x = 190) ∨ (x = 191)) σ σ1) := by
  intro sz
  refine z_body (y := yX11_renew) (n := 3) (av := [.ref (ad 0), .int program]) (Qc := fun A => va_Qi (fun r σ1 => (JC σ1) ∧ TC σ1 ∧ frI (fun x y => ((8 ≤ x ∧ x ≤ 183) ∨ (186 ≤ x ∧ x ≤ 209)) ∨ (x % 22 = 8 ∧ 8 ≤ x ∧ x ≤ 162 ∧ y = 0) ∨ (x % 22 = 8 ∧ 8 ≤ x ∧ x ≤ 162 ∧ y = 1) ∨ (x = 186 ∧ y = 1) ∨ (x = 186 ∧ y = 5) ∨ (x = 186 ∧ y = 6) ∨ (x = 186 ∧ y = 7) ∨ (x = 186 ∧ y = 8) ∨ (x = 188) ∨ (x = 189) ∨ (x = 190) ∨ (x = 191)) σ σ1) (PoC G kc shC ad A) A) (plainFor_of_name (by decide)) (Nat.le_of_ble_eq_true rfl) (fun pr e s m below meth c A C0 hr hlk hnm hw hRo ls hl => ?_) sz
  have hx := C0.1
  have hb := C0.2.1
  have hown := C0.2.2.2.1
  have hts := C0.2.2.2.2.1
  have hl : lv_has ls 3 [(0, .ref (ad 0)), (1, .int program)] := hl
  obtain ⟨t, u, hto, ht, hun, hu⟩ := hJ.rdr
  obtain ⟨wa, wb, hwa_, hwa, hwb_, hwb, hwab⟩ := hJ.wts
  have hm8 := hJ.rg8 hto hun
  refine lv_aload_n hx hb (dkP dF_42 DX11_renew (i := 0) rfl rfl) rfl (lv_at hl 0 rfl) ?_
  refine lv_iload_n hx hb (dkP dF_27 DX11_renew (i := 1) rfl rfl) rfl (lv_at hl 1 rfl) ?_
  refine zk_R hw (zr_V (As := [.int program]) (rest := []) C0 (c_X11_programAt l G kc ad σ program  _) cv_X11_programAt lk_X11_84 (zp_V C0 hRo hw 0 shc_0 rfl rfl) rfl hl.1 rfl ⟨by decide, by decide⟩ (Nat.le_of_ble_eq_true rfl) (dk2 dF_182 DX11_renew (i := 2) rfl rfl rfl) ⟨Nat.le_refl _, Nat.le_refl _⟩) (fun r1 s1 H locs hp hw => ?_)
  obtain ⟨hq1, hs1⟩ := hp
  (rw [hs1] at hw)
  rcases hq1 with ⟨hc1, rfl⟩ | ⟨k_program, hk_program, rfl, rfl⟩
  · skip
    refine lv_astore_nN (lv' := [(2, .null), (0, .ref (ad 0)), (1, .int program)]) hx hb (dkP dF_77 DX11_renew (i := 3) rfl rfl) rfl hl (by decide) rfl (fun ls hl => ?_)
    refine lv_aload_nN hx hb (dkP dF_44 DX11_renew (i := 4) rfl rfl) rfl (lv_at hl 0 rfl) ?_
    refine lv_ifnullN (tgt := 17) hx hb (dkS dF_198 DX11_renew (i := 5) rfl rfl rfl) (by decide) ?_
    refine lv_bipush (v := (-2)) hx hb (dks dF_16 DX11_renew (i := 9) rfl rfl rfl) (by decide) ?_
    exact z_iret C0 hr hlk hw (⟨hJ, hT, frI.refl⟩) (dkP dF_172 DX11_renew (i := 10) rfl rfl)
  · skip
    obtain ⟨t1, u1, hto1, ht1, hun1, hu1, hVP⟩ := hJ.prog hk_program
    obtain ⟨hLH, ⟨zo, uo, hzo, hzo24, hVo⟩, zn, un, K_, hzn, hzn40, hVn⟩ := id hVP
    refine lv_astore_n (lv' := [(2, .ref (ad (8 + 22 * k_program))), (0, .ref (ad 0)), (1, .int (nI k_program))]) hx hb (dkP dF_77 DX11_renew (i := 3) rfl rfl) rfl hl (by decide) rfl (fun ls hl => ?_)
    refine lv_aload_n hx hb (dkP dF_44 DX11_renew (i := 4) rfl rfl) rfl (lv_at hl 0 rfl) ?_
    refine lv_ifnull hx hb (dkS dF_198 DX11_renew (i := 5) rfl rfl rfl) ?_
    refine lv_aload_n hx hb (dkP dF_44 DX11_renew (i := 6) rfl rfl) rfl (lv_at hl 0 rfl) ?_
    refine zk_I hw (zr_V (As := []) (rest := []) C0 (c_X4_mayChange l G kc ad σ (8 + 22 * k_program) (pgm k_program (by omega)) hT _) cv_X4_mayChange lk_X11_107 (zp_V C0 hRo hw (8 + 22 * k_program) (shp_8 k_program (by omega)) rfl rfl) rfl hl.1 rfl ⟨by decide, by decide⟩ (Nat.le_of_ble_eq_true rfl) (dk2 dF_182 DX11_renew (i := 7) rfl rfl rfl) ⟨Nat.le_refl _, Nat.le_refl _⟩) (fun r2 s2 H locs hp hw => ?_)
    obtain ⟨f2_0, hs2⟩ := hp
    (rw [hs2] at hw)
    rcases f2_0 with ⟨rfl, hc2⟩ | ⟨rfl, hc2⟩
    · skip
      refine lv_if_ne (tgt := 20) hx hb (dkS dF_154 DX11_renew (i := 8) rfl rfl rfl) (by decide) (fun _ => ?_) (fun h => absurd h (by decide))
      refine lv_aload_n hx hb (dkP dF_42 DX11_renew (i := 11) rfl rfl) rfl (lv_at hl 1 rfl) ?_
      refine z_gr C0 hw 0 3 186 (fk_of shc_0 rfl) fl_X11_27 (dk2 dF_180 DX11_renew (i := 12) rfl rfl rfl) ?_
      refine zk_I hw (zr_V (As := []) (rest := []) C0 (c_X5_readsNew l G kc ad σ hun hu hT _) cv_X5_readsNew lk_X11_110 (zp_V C0 hRo hw 186 shc_186 rfl rfl) rfl hl.1 rfl ⟨by decide, by decide⟩ (Nat.le_of_ble_eq_true rfl) (dk2 dF_182 DX11_renew (i := 13) rfl rfl rfl) ⟨Nat.le_refl _, Nat.le_refl _⟩) (fun r3 s3 H locs hp hw => ?_)
      obtain ⟨f3_0, hT3, hG3⟩ := hp
      have hF3 : frI (fun x y => ((8 ≤ x ∧ x ≤ 183) ∨ (186 ≤ x ∧ x ≤ 209)) ∨ (x % 22 = 8 ∧ 8 ≤ x ∧ x ≤ 162 ∧ y = 0) ∨ (x % 22 = 8 ∧ 8 ≤ x ∧ x ≤ 162 ∧ y = 1) ∨ (x = 186 ∧ y = 1) ∨ (x = 186 ∧ y = 5) ∨ (x = 186 ∧ y = 6) ∨ (x = 186 ∧ y = 7) ∨ (x = 186 ∧ y = 8) ∨ (x = 188) ∨ (x = 189) ∨ (x = 190) ∨ (x = 191)) σ s3 := frI.t frI.refl hG3 (fun x y h => by have h : (x = 186 ∧ y = 1) ∨ (x = 186 ∧ y = 5) ∨ (x = 186 ∧ y = 6) ∨ (x = 186 ∧ y = 7) ∨ (x = 186 ∧ y = 8) ∨ (x = 188) ∨ (x = 189) ∨ (x = 190) ∨ (x = 191) ∨ (x = u + 1) ∨ (x = u + 2) ∨ (x = u + 3) ∨ (x = u + 4) ∨ (x = u + 6 ∧ y = 1) ∨ (x = u + 7) ∨ (x = u ∧ y = 1) ∨ (x = u ∧ y = 3) := h; show ((8 ≤ x ∧ x ≤ 183) ∨ (186 ≤ x ∧ x ≤ 209)) ∨ (x % 22 = 8 ∧ 8 ≤ x ∧ x ≤ 162 ∧ y = 0) ∨ (x % 22 = 8 ∧ 8 ≤ x ∧ x ≤ 162 ∧ y = 1) ∨ (x = 186 ∧ y = 1) ∨ (x = 186 ∧ y = 5) ∨ (x = 186 ∧ y = 6) ∨ (x = 186 ∧ y = 7) ∨ (x = 186 ∧ y = 8) ∨ (x = 188) ∨ (x = 189) ∨ (x = 190) ∨ (x = 191); rcases h with h | h | h | h | h | h | h | h | h | h | h | h | h | h | h | h | h; (· exact Or.inr (Or.inr (Or.inr (Or.inl h)))); (· exact Or.inr (Or.inr (Or.inr (Or.inr (Or.inl h))))); (· exact Or.inr (Or.inr (Or.inr (Or.inr (Or.inr (Or.inl h)))))); (· exact Or.inr (Or.inr (Or.inr (Or.inr (Or.inr (Or.inr (Or.inl h))))))); (· exact Or.inr (Or.inr (Or.inr (Or.inr (Or.inr (Or.inr (Or.inr (Or.inl h)))))))); (· exact Or.inr (Or.inr (Or.inr (Or.inr (Or.inr (Or.inr (Or.inr (Or.inr (Or.inl h))))))))); (· exact Or.inr (Or.inr (Or.inr (Or.inr (Or.inr (Or.inr (Or.inr (Or.inr (Or.inr (Or.inl h)))))))))); (· exact Or.inr (Or.inr (Or.inr (Or.inr (Or.inr (Or.inr (Or.inr (Or.inr (Or.inr (Or.inr (Or.inl h))))))))))); (· exact Or.inr (Or.inr (Or.inr (Or.inr (Or.inr (Or.inr (Or.inr (Or.inr (Or.inr (Or.inr (Or.inr (h)))))))))))); (· exact Or.inl (by show (8 ≤ x ∧ x ≤ 183) ∨ (186 ≤ x ∧ x ≤ 209); have hq_ := hm8.2; unfold RGN at hq_; omega)); (· exact Or.inl (by show (8 ≤ x ∧ x ≤ 183) ∨ (186 ≤ x ∧ x ≤ 209); have hq_ := hm8.2; unfold RGN at hq_; omega)); (· exact Or.inl (by show (8 ≤ x ∧ x ≤ 183) ∨ (186 ≤ x ∧ x ≤ 209); have hq_ := hm8.2; unfold RGN at hq_; omega)); (· exact Or.inl (by show (8 ≤ x ∧ x ≤ 183) ∨ (186 ≤ x ∧ x ≤ 209); have hq_ := hm8.2; unfold RGN at hq_; omega)); (· exact Or.inl (by show (8 ≤ x ∧ x ≤ 183) ∨ (186 ≤ x ∧ x ≤ 209); have hq_ := hm8.2; unfold RGN at hq_; omega)); (· exact Or.inl (by show (8 ≤ x ∧ x ≤ 183) ∨ (186 ≤ x ∧ x ≤ 209); have hq_ := hm8.2; unfold RGN at hq_; omega)); (· exact Or.inl (by show (8 ≤ x ∧ x ≤ 183) ∨ (186 ≤ x ∧ x ≤ 209); have hq_ := hm8.2; unfold RGN at hq_; omega)); (· exact Or.inl (by show (8 ≤ x ∧ x ≤ 183) ∨ (186 ≤ x ∧ x ≤ 209); have hq_ := hm8.2; unfold RGN at hq_; omega)))
      rcases f3_0 with ⟨rfl, hc3⟩ | ⟨rfl, hc3⟩
      · skip
        refine lv_if_ne (tgt := 33) hx hb (dkS dF_154 DX11_renew (i := 14) rfl rfl rfl) (by decide) (fun _ => ?_) (fun h => absurd h (by decide))
        have hm1 := hJ.rg (k := k_program) (by omega) hto1 hun1
        refine lv_aload_n hx hb (dkP dF_42 DX11_renew (i := 17) rfl rfl) rfl (lv_at hl 1 rfl) ?_
        refine lv_aload_n hx hb (dkP dF_44 DX11_renew (i := 18) rfl rfl) rfl (lv_at hl 0 rfl) ?_
        refine zk_V hw (zr_V (As := [.ref (ad (8 + 22 * k_program))]) (rest := []) C0 (c_X11_takeNewText l G kc ad s3 (8 + 22 * k_program) (pgm k_program (by omega)) ((congrFun (congrFun hG3.2 _) _).trans hun1) ((congrFun (congrFun hG3.2 _) _).trans hun) hu (by omega) hT3 _) cv_X11_takeNewText lk_X11_113 (zp_V C0 hRo hw 0 shc_0 rfl rfl) rfl hl.1 rfl ⟨by decide, by decide⟩ (Nat.le_of_ble_eq_true rfl) (dk2 dF_182 DX11_renew (i := 19) rfl rfl rfl) ⟨Nat.le_refl _, Nat.le_refl _⟩) (fun s4 H locs hp hw => ?_)
        obtain ⟨f4_0, f4_1, f4_2, hT4, hG4⟩ := hp
        have hF4 : frI (fun x y => ((8 ≤ x ∧ x ≤ 183) ∨ (186 ≤ x ∧ x ≤ 209)) ∨ (x % 22 = 8 ∧ 8 ≤ x ∧ x ≤ 162 ∧ y = 0) ∨ (x % 22 = 8 ∧ 8 ≤ x ∧ x ≤ 162 ∧ y = 1) ∨ (x = 186 ∧ y = 1) ∨ (x = 186 ∧ y = 5) ∨ (x = 186 ∧ y = 6) ∨ (x = 186 ∧ y = 7) ∨ (x = 186 ∧ y = 8) ∨ (x = 188) ∨ (x = 189) ∨ (x = 190) ∨ (x = 191)) σ s4 := frI.u hF3 hG4 (fun x y h => by have h : (x = 8 + 22 * k_program ∧ y = 0) ∨ (x = 8 + 22 * k_program ∧ y = 1) ∨ (x = u ∧ y = 0) := h; show ((8 ≤ x ∧ x ≤ 183) ∨ (186 ≤ x ∧ x ≤ 209)) ∨ (x % 22 = 8 ∧ 8 ≤ x ∧ x ≤ 162 ∧ y = 0) ∨ (x % 22 = 8 ∧ 8 ≤ x ∧ x ≤ 162 ∧ y = 1) ∨ (x = 186 ∧ y = 1) ∨ (x = 186 ∧ y = 5) ∨ (x = 186 ∧ y = 6) ∨ (x = 186 ∧ y = 7) ∨ (x = 186 ∧ y = 8) ∨ (x = 188) ∨ (x = 189) ∨ (x = 190) ∨ (x = 191); rcases h with h | h | h; (· exact Or.inr (Or.inl (by show x % 22 = 8 ∧ 8 ≤ x ∧ x ≤ 162 ∧ y = 0; omega))); (· exact Or.inr (Or.inr (Or.inl (by show x % 22 = 8 ∧ 8 ≤ x ∧ x ≤ 162 ∧ y = 1; omega)))); (· exact Or.inl (by show (8 ≤ x ∧ x ≤ 183) ∨ (186 ≤ x ∧ x ≤ 209); have hq_ := hm8.2; unfold RGN at hq_; omega)))
        refine lv_aload_n hx hb (dkP dF_44 DX11_renew (i := 20) rfl rfl) rfl (lv_at hl 0 rfl) ?_
        refine z_gms C0 hw (8 + 22 * k_program) 3 u f4_0 (fk_of (shp_8 k_program (by omega)) rfl) fl_X11_117 (dk2 dF_180 DX11_renew (i := 21) rfl rfl rfl) ?_
        refine z_gi C0 hw u 3 (fk_of (shl_nt_0 u hu) rfl) fl_X11_121 (dk2 dF_180 DX11_renew (i := 22) rfl rfl rfl) ?_
        obtain ⟨n5, hn5, en5⟩ := rngN (x := s4.1 u 3) (h := 40) (tcr_2_3 hT4 (tck_nt_0 u hu))
        refine z_top (y := nI n5) en5 ?_
        exact z_iret C0 hr hlk hw (⟨(hJ.swN (k := k_program) (by omega) hto1 hun1 hun (VN.c4 hc3 ((hG4.1 u 1 (by show ¬ ((u = 8 + 22 * k_program ∧ 1 = 0) ∨ (u = 8 + 22 * k_program ∧ 1 = 1) ∨ (u = u ∧ 1 = 0)); intro h_; rcases h_ with h_ | h_ | h_; (· have hd_ := pgnt (8 + 22 * k_program) (pgm k_program (by omega)) u hu; omega); (· have hd_ := pgnt (8 + 22 * k_program) (pgm k_program (by omega)) u hu; omega); (· omega))).trans rfl) ((hG4.1 u 3 (by show ¬ ((u = 8 + 22 * k_program ∧ 3 = 0) ∨ (u = 8 + 22 * k_program ∧ 3 = 1) ∨ (u = u ∧ 3 = 0)); intro h_; rcases h_ with h_ | h_ | h_; (· have hd_ := pgnt (8 + 22 * k_program) (pgm k_program (by omega)) u hu; omega); (· have hd_ := pgnt (8 + 22 * k_program) (pgm k_program (by omega)) u hu; omega); (· omega))).trans rfl) (fun x y hxy => ((hG4.1 x y (by show ¬ ((x = 8 + 22 * k_program ∧ y = 0) ∨ (x = 8 + 22 * k_program ∧ y = 1) ∨ (x = u ∧ y = 0)); intro h_; rcases h_ with h_ | h_ | h_; (· have hd_ := pgnt (8 + 22 * k_program) (pgm k_program (by omega)) u hu; omega); (· have hd_ := pgnt (8 + 22 * k_program) (pgm k_program (by omega)) u hu; omega); (· omega))).trans rfl))) (fun x y hj => by by_cases hx_ : u ≤ x ∧ x ≤ u + 7; (· exact Or.inr hx_); (· have hj2 := hj; unfold jcq at hj2; exact Or.inl ((hG4.1 x y (by show ¬ ((x = 8 + 22 * k_program ∧ y = 0) ∨ (x = 8 + 22 * k_program ∧ y = 1) ∨ (x = u ∧ y = 0)); intro h_; rcases h_ with h_ | h_ | h_; (· have hd_ := wtN2 wb hwb; omega); (· have hd_ := wtN2 wb hwb; omega); (· have hd_ := wtN2 wb hwb; omega))).trans ((hG3.1 x y (by show ¬ ((x = 186 ∧ y = 1) ∨ (x = 186 ∧ y = 5) ∨ (x = 186 ∧ y = 6) ∨ (x = 186 ∧ y = 7) ∨ (x = 186 ∧ y = 8) ∨ (x = 188) ∨ (x = 189) ∨ (x = 190) ∨ (x = 191) ∨ (x = u + 1) ∨ (x = u + 2) ∨ (x = u + 3) ∨ (x = u + 4) ∨ (x = u + 6 ∧ y = 1) ∨ (x = u + 7) ∨ (x = u ∧ y = 1) ∨ (x = u ∧ y = 3)); intro h_; rcases h_ with h_ | h_ | h_ | h_ | h_ | h_ | h_ | h_ | h_ | h_ | h_ | h_ | h_ | h_ | h_ | h_ | h_; (· have hd_ := wtN2 wb hwb; omega); (· have hd_ := wtN2 wb hwb; omega); (· have hd_ := wtN2 wb hwb; omega); (· have hd_ := wtN2 wb hwb; omega); (· have hd_ := wtN2 wb hwb; omega); (· have hd_ := wtN2 wb hwb; omega); (· have hd_ := wtN2 wb hwb; omega); (· have hd_ := wtN2 wb hwb; omega); (· have hd_ := wtN2 wb hwb; omega); (· have hd_ := wtN2 wb hwb; omega); (· have hd_ := wtN2 wb hwb; omega); (· have hd_ := wtN2 wb hwb; omega); (· have hd_ := wtN2 wb hwb; omega); (· have hd_ := wtN2 wb hwb; omega); (· have hd_ := wtN2 wb hwb; omega); (· have hd_ := wtN2 wb hwb; omega); (· have hd_ := wtN2 wb hwb; omega))).trans rfl)))) f4_0 f4_1 (fun a b h1 h2 => (f4_2 a b h1 h2).trans (congrFun (congrFun hG3.2 a) b))), hT4, hF4⟩) (dkP dF_172 DX11_renew (i := 23) rfl rfl)
      · skip
        refine lv_if_ne (tgt := 33) hx hb (dkS dF_154 DX11_renew (i := 14) rfl rfl rfl) (by decide) (fun h => absurd h (by decide)) (fun _ => ?_)
        refine lv_bipush (v := (-4)) hx hb (dks dF_16 DX11_renew (i := 15) rfl rfl rfl) (by decide) ?_
        exact z_iret C0 hr hlk hw (⟨(hJ.scr hto hun hG3.2 (fun x y hj => by by_cases hx_ : t ≤ x ∧ x ≤ t + 9; (· exact Or.inr (Or.inl hx_)); (· by_cases hy_ : u ≤ x ∧ x ≤ u + 7; (· exact Or.inr (Or.inr hy_)); (· have hj2 := hj; unfold jcq at hj2; exact Or.inl ((hG3.1 x y (by show ¬ ((x = 186 ∧ y = 1) ∨ (x = 186 ∧ y = 5) ∨ (x = 186 ∧ y = 6) ∨ (x = 186 ∧ y = 7) ∨ (x = 186 ∧ y = 8) ∨ (x = 188) ∨ (x = 189) ∨ (x = 190) ∨ (x = 191) ∨ (x = u + 1) ∨ (x = u + 2) ∨ (x = u + 3) ∨ (x = u + 4) ∨ (x = u + 6 ∧ y = 1) ∨ (x = u + 7) ∨ (x = u ∧ y = 1) ∨ (x = u ∧ y = 3)); intro h_; rcases h_ with h_ | h_ | h_ | h_ | h_ | h_ | h_ | h_ | h_ | h_ | h_ | h_ | h_ | h_ | h_ | h_ | h_; (· have hd_ := wtN2 wb hwb; omega); (· have hd_ := wtN2 wb hwb; omega); (· have hd_ := wtN2 wb hwb; omega); (· have hd_ := wtN2 wb hwb; omega); (· have hd_ := wtN2 wb hwb; omega); (· have hd_ := wtN2 wb hwb; omega); (· have hd_ := wtN2 wb hwb; omega); (· have hd_ := wtN2 wb hwb; omega); (· have hd_ := wtN2 wb hwb; omega); (· have hd_ := wtN2 wb hwb; omega); (· have hd_ := wtN2 wb hwb; omega); (· have hd_ := wtN2 wb hwb; omega); (· have hd_ := wtN2 wb hwb; omega); (· have hd_ := wtN2 wb hwb; omega); (· have hd_ := wtN2 wb hwb; omega); (· have hd_ := wtN2 wb hwb; omega); (· have hd_ := wtN2 wb hwb; omega))).trans rfl))))), hT3, hF3⟩) (dkP dF_172 DX11_renew (i := 16) rfl rfl)
    · skip
      refine lv_if_ne (tgt := 20) hx hb (dkS dF_154 DX11_renew (i := 8) rfl rfl rfl) (by decide) (fun h => absurd h (by decide)) (fun _ => ?_)
      refine lv_bipush (v := (-2)) hx hb (dks dF_16 DX11_renew (i := 9) rfl rfl rfl) (by decide) ?_
      exact z_iret C0 hr hlk hw (⟨hJ, hT, frI.refl⟩) (dkP dF_172 DX11_renew (i := 10) rfl rfl)
