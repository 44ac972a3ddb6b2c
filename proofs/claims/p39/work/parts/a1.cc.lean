def RGT (d : Nat) : Prop := (9 ≤ d ∧ d + 10 ≤ 184) ∨ d = 192
def RGN (d : Nat) : Prop := (9 ≤ d ∧ d + 8 ≤ 184) ∨ d = 202
theorem moG {d : Nat} (h : d ∈ moL) : RGT d := by have := moR d h; unfold RGT; omega
theorem mnG {d : Nat} (h : d ∈ mnL) : RGN d := by have := mnR d h; unfold RGN; omega
theorem JC.rg {σ : Sg} {k t u : Nat} (h : JC σ) (hk : k < 8) (ht : σ.2.2 (8 + 22 * k) 2 = some t) (hu : σ.2.2 (8 + 22 * k) 3 = some u) : RGT t ∧ RGN u := by
  obtain ⟨o, n, h1, -⟩ := h
  have e1 : o k = t := Option.some.inj ((h1.1 k hk).1.symm.trans ht)
  have e2 : n k = u := Option.some.inj ((h1.1 k hk).2.symm.trans hu)
  subst e1
  subst e2
  exact ⟨moG (h1.2.2.2.1 k (by omega)).1, mnG (h1.2.2.2.1 k (by omega)).2⟩
theorem JC.rg8 {σ : Sg} {t u : Nat} (h : JC σ) (ht : σ.2.2 186 10 = some t) (hu : σ.2.2 186 11 = some u) : RGT t ∧ RGN u := by
  obtain ⟨o, n, h1, -⟩ := h
  have e1 : o 8 = t := Option.some.inj (h1.2.1.symm.trans ht)
  have e2 : n 8 = u := Option.some.inj (h1.2.2.1.symm.trans hu)
  subst e1
  subst e2
  exact ⟨moG (h1.2.2.2.1 8 (by omega)).1, mnG (h1.2.2.2.1 8 (by omega)).2⟩
/-- the READER's own texts may be anything -/
theorem JC.scr {σ τ : Sg} {t u : Nat} (h : JC σ) (ht : σ.2.2 186 10 = some t) (hu : σ.2.2 186 11 = some u) (hp : τ.2.2 = σ.2.2) (he : ∀ x y, jcq x → τ.1 x y = σ.1 x y ∨ (t ≤ x ∧ x ≤ t + 9) ∨ (u ≤ x ∧ x ≤ u + 7)) : JC τ := by
  obtain ⟨o, n, h1, h2, h3, h4, h5, h6⟩ := h
  have e1 : o 8 = t := Option.some.inj (h1.2.1.symm.trans ht)
  have e2 : n 8 = u := Option.some.inj (h1.2.2.1.symm.trans hu)
  subst e1
  subst e2
  have m8 := h1.2.2.2.1 8 (by omega)
  have b1 := mo250 _ m8.1
  have b2 := mn250 _ m8.2
  have g1 := moR _ m8.1
  have g2 := mnR _ m8.2
  refine ⟨o, n, by unfold PTo; rw [hp]; exact h1, fun k hk => (h2 k hk).v (fun x y hx => ?_), fun w hw k hk => (h3 w hw k hk).v (fun x y hx => ?_), h4.c (fun q hq => ?_), fun w hw => (h5 w hw).c (fun q hq => ?_), by unfold PTw; rw [hp]; exact h6⟩
  · have mk := h1.2.2.2.1 k (by omega)
    have d := h1.2.2.2.2.1 k (by omega) 8 (by omega) (by omega)
    rcases he x y (jcM hk mk.1 mk.2 hx) with h | h | h
    · exact h
    · exfalso
      unfold ARV at hx
      rcases hx with hx | hx | hx
      · have := pgot _ (pgm k hk) _ (moI _ m8.1); omega
      · have := otD _ (moI _ mk.1) _ (moI _ m8.1); omega
      · have := otnt _ (moI _ m8.1) _ (mnI _ mk.2); omega
    · exfalso
      unfold ARV at hx
      rcases hx with hx | hx | hx
      · have := pgnt _ (pgm k hk) _ (mnI _ m8.2); omega
      · have := otnt _ (moI _ mk.1) _ (mnI _ m8.2); omega
      · have := ntD _ (mnI _ mk.2) _ (mnI _ m8.2); omega
  · rcases he x y (jcW hx) with h | h | h
    · exact h
    · exfalso; unfold ARV at hx; omega
    · exfalso; unfold ARV at hx; omega
  · rcases he 4 q (Or.inl rfl) with h | h | h
    · exact h
    · exfalso; omega
    · exfalso; omega
  · rcases he (253 + 183 * w) q (by unfold jcq; omega) with h | h | h
    · exact h
    · exfalso; omega
    · exfalso; omega
theorem VNb.c4 {σ τ : Sg} {u zs us : Nat} {K : Nat → Prop} (h : VNb σ u zs us K) (h1 : τ.1 u 1 = σ.1 u 1) (he : ∀ x y, u + 1 ≤ x ∧ x ≤ u + 7 → τ.1 x y = σ.1 x y) : VNb τ u zs us K := by
  refine ⟨h.1, by rw [he _ _ (by omega)]; exact h.2.1, fun n hn => ?_, h.2.2.2⟩
  have e9 : τ.1 (u + 7) = σ.1 (u + 7) := funext (fun y => he _ y (by omega))
  rw [h1, he (u + 1) n (by omega), he (u + 2) n (by omega), he (u + 3) n (by omega), he (u + 4) n (by omega), e9]
  exact h.2.2.1 n hn
theorem VN.c4 {σ τ : Sg} {u : Nat} (h : VN σ u) (h1 : τ.1 u 1 = σ.1 u 1) (h3 : τ.1 u 3 = σ.1 u 3) (he : ∀ x y, u + 1 ≤ x ∧ x ≤ u + 7 → τ.1 x y = σ.1 x y) : VN τ u := by
  obtain ⟨zs, us, K, q1, q2, q3⟩ := h
  exact ⟨zs, us, K, h3.trans q1, q2, q3.c4 h1 he⟩
theorem MD.vn {σ : Sg} {u : Nat} (h : MD σ u) : VN σ u := by
  obtain ⟨-, zs, us, K, q1, q2, q3, -⟩ := h
  exact ⟨zs, us, K, q1, q2, q3⟩

set_option maxRecDepth 100000 in
set_option maxHeartbeats 8000000 in
theorem c_X11_wish (l : Launch) (G : va_G) (kc : KC) (ad : Nat → Nat) (σ : Sg) (program : Int32) (casing : Int32) (field : Int32) (more : Int32) (hJ : JC σ) (hT : TC σ) : MI l G kc yX11_wish cX11_wish 7 (some .int) 2 45 [.ref (ad 0), .int program, .int casing, .int field, .int more] shC ad σ (fun r σ1 => (JC σ1) ∧ TC σ1 ∧ frC (fun x y => ((8 ≤ x ∧ x ≤ 183) ∨ (186 ≤ x ∧ x ≤ 209)) ∨ (x % 22 = 8 ∧ 8 ≤ x ∧ x ≤ 162 ∧ y = 1) ∨ (x = 1 ∧ y = 6)) σ σ1) := by
  intro sz
  refine z_body (y := yX11_wish) (n := 7) (av := [.ref (ad 0), .int program, .int casing, .int field, .int more]) (Qc := fun A => va_Qi (fun r σ1 => (JC σ1) ∧ TC σ1 ∧ frC (fun x y => ((8 ≤ x ∧ x ≤ 183) ∨ (186 ≤ x ∧ x ≤ 209)) ∨ (x % 22 = 8 ∧ 8 ≤ x ∧ x ≤ 162 ∧ y = 1) ∨ (x = 1 ∧ y = 6)) σ σ1) (PoC G kc shC ad A) A) (plainFor_of_name (by decide)) (Nat.le_of_ble_eq_true rfl) (fun pr e s m below meth c A C0 hr hlk hnm hw hRo ls hl => ?_) sz
  have hx := C0.1
  have hb := C0.2.1
  have hown := C0.2.2.2.1
  have hts := C0.2.2.2.2.1
  have hl : lv_has ls 7 [(0, .ref (ad 0)), (1, .int program), (2, .int casing), (3, .int field), (4, .int more)] := hl
  obtain ⟨t, u, hto, ht, hun, hu⟩ := hJ.rdr
  obtain ⟨wa, wb, hwa_, hwa, hwb_, hwb, hwab⟩ := hJ.wts
  have hm8 := hJ.rg8 hto hun
  refine lv_aload_n hx hb (dkP dF_42 DX11_wish (i := 0) rfl rfl) rfl (lv_at hl 0 rfl) ?_
  refine lv_iload_n hx hb (dkP dF_27 DX11_wish (i := 1) rfl rfl) rfl (lv_at hl 1 rfl) ?_
  refine zk_R hw (zr_V (As := [.int program]) (rest := []) C0 (c_X11_programAt l G kc ad σ program  _) cv_X11_programAt lk_X11_84 (zp_V C0 hRo hw 0 shc_0 rfl rfl) rfl hl.1 rfl ⟨by decide, by decide⟩ (Nat.le_of_ble_eq_true rfl) (dk2 dF_182 DX11_wish (i := 2) rfl rfl rfl) ⟨Nat.le_refl _, Nat.le_refl _⟩) (fun r1 s1 H locs hp hw => ?_)
  obtain ⟨hq1, hs1⟩ := hp
  (rw [hs1] at hw)
  rcases hq1 with ⟨hc1, rfl⟩ | ⟨k_program, hk_program, rfl, rfl⟩
  · skip
    refine lv_astoreN (lv' := [(5, .null), (0, .ref (ad 0)), (1, .int program), (2, .int casing), (3, .int field), (4, .int more)]) hx hb (dk1 dF_58 DX11_wish (i := 3) rfl rfl rfl) hl (by decide) rfl (fun ls hl => ?_)
    refine lv_aloadN hx hb (dk1 dF_25 DX11_wish (i := 4) rfl rfl rfl) (lv_at hl 0 rfl) ?_
    refine lv_ifnullN (tgt := 36) hx hb (dkS dF_198 DX11_wish (i := 5) rfl rfl rfl) (by decide) ?_
    refine lv_bipush (v := (-2)) hx hb (dks dF_16 DX11_wish (i := 16) rfl rfl rfl) (by decide) ?_
    exact z_iret C0 hr hlk hw (⟨hJ, hT, frC.refl⟩) (dkP dF_172 DX11_wish (i := 17) rfl rfl)
  · skip
    obtain ⟨t1, u1, hto1, ht1, hun1, hu1, hVP⟩ := hJ.prog hk_program
    obtain ⟨hLH, ⟨zo, uo, hzo, hzo24, hVo⟩, zn, un, K_, hzn, hzn40, hVn⟩ := id hVP
    refine lv_astore (lv' := [(5, .ref (ad (8 + 22 * k_program))), (0, .ref (ad 0)), (1, .int (nI k_program)), (2, .int casing), (3, .int field), (4, .int more)]) hx hb (dk1 dF_58 DX11_wish (i := 3) rfl rfl rfl) hl (by decide) rfl (fun ls hl => ?_)
    refine lv_aload hx hb (dk1 dF_25 DX11_wish (i := 4) rfl rfl rfl) (lv_at hl 0 rfl) ?_
    refine lv_ifnull hx hb (dkS dF_198 DX11_wish (i := 5) rfl rfl rfl) ?_
    refine lv_aload hx hb (dk1 dF_25 DX11_wish (i := 6) rfl rfl rfl) (lv_at hl 0 rfl) ?_
    refine z_gi C0 hw (8 + 22 * k_program) 0 (fk_of (shp_8 k_program (by omega)) rfl) fl_X11_88 (dk2 dF_180 DX11_wish (i := 7) rfl rfl rfl) ?_
    obtain ⟨v2, ev2⟩ : ∃ y : Int32, σ.1 (8 + 22 * k_program) 0 = y := ⟨_, rfl⟩
    refine z_top (y := v2) ev2 ?_
    refine lv_iconst (v := 1) hx hb (dkP dF_4 DX11_wish (i := 8) rfl rfl) (by decide) ?_
    refine lv_icmp_ne (tgt := 36) hx hb (dkS dF_160 DX11_wish (i := 9) rfl rfl rfl) (by decide) (fun c3 => ?_) (fun c3 => ?_)
    · (try simp (disch := omega) only [ta_lt, ta_le, ta_eq, tnI, tl32 1 (by decide)] at c3)
      refine lv_bipush (v := (-2)) hx hb (dks dF_16 DX11_wish (i := 16) rfl rfl rfl) (by decide) ?_
      exact z_iret C0 hr hlk hw (⟨hJ, hT, frC.refl⟩) (dkP dF_172 DX11_wish (i := 17) rfl rfl)
    · (try simp (disch := omega) only [ta_lt, ta_le, ta_eq, tnI, tl32 1 (by decide)] at c3)
      refine lv_iload_n hx hb (dkP dF_29 DX11_wish (i := 10) rfl rfl) rfl (lv_at hl 4 rfl) ?_
      refine zn_I hw (zr_S (As := [.int field]) (rest := []) C0 (c_X11_isField l G kc field  _) cs_X11_isField lk_X11_130 (zp_P C0 hRo hw a00 s00) rfl hl.1 rfl ⟨by decide, by decide⟩ (Nat.le_of_ble_eq_true rfl) (dk2 dF_184 DX11_wish (i := 11) rfl rfl rfl) ⟨Nat.le_refl _, Nat.le_refl _⟩) (fun r4 s4 H locs hp hw => ?_)
      rcases hp with ⟨rfl, hc4⟩ | ⟨rfl, hc4⟩
      · skip
        (try simp (disch := omega) only [ta_lt, ta_le, ta_eq, tb_lt, tb_le, tb_eq, tw, tnI, tn32 2 (by decide), tnj 2 (by decide), tn32 1 (by decide), tnj 1 (by decide), tl32 0 (by decide), tl64 0 (by decide), tl32 1 (by decide), tl64 1 (by decide)] at hc4)
        obtain ⟨k_field, hk_field, rfl⟩ := to_nat (x := field) (n := 8) (by (try simp only [lg_cmp_lt, lg_cmp_le, lg_cmp_gt, lg_cmp_ge, lg_cmp_eq] at hk_program); (try simp (disch := omega) only [ta_lt, ta_le, ta_eq, tb_lt, tb_le, tb_eq, tw, tnI, tn32 2 (by decide), tnj 2 (by decide), tn32 1 (by decide), tnj 1 (by decide), tl32 0 (by decide), tl64 0 (by decide), tl32 1 (by decide), tl64 1 (by decide)] at hk_program); (try simp only [lg_cmp_lt, lg_cmp_le, lg_cmp_gt, lg_cmp_ge, lg_cmp_eq] at c3); (try simp (disch := omega) only [ta_lt, ta_le, ta_eq, tb_lt, tb_le, tb_eq, tw, tnI, tn32 2 (by decide), tnj 2 (by decide), tn32 1 (by decide), tnj 1 (by decide), tl32 0 (by decide), tl64 0 (by decide), tl32 1 (by decide), tl64 1 (by decide)] at c3); (try simp only [lg_cmp_lt, lg_cmp_le, lg_cmp_gt, lg_cmp_ge, lg_cmp_eq] at hc4); (try simp (disch := omega) only [ta_lt, ta_le, ta_eq, tb_lt, tb_le, tb_eq, tw, tnI, tn32 2 (by decide), tnj 2 (by decide), tn32 1 (by decide), tnj 1 (by decide), tl32 0 (by decide), tl64 0 (by decide), tl32 1 (by decide), tl64 1 (by decide)] at hc4); (try simp (disch := omega) only [ta_lt, ta_le, ta_eq, tb_lt, tb_le, tb_eq, tw, tnI, tn32 2 (by decide), tnj 2 (by decide), tn32 1 (by decide), tnj 1 (by decide), tl32 0 (by decide), tl64 0 (by decide), tl32 1 (by decide), tl64 1 (by decide)]); omega)
        refine lv_if_eq (tgt := 36) hx hb (dkS dF_153 DX11_wish (i := 12) rfl rfl rfl) (by decide) (fun h => absurd h (by decide)) (fun _ => ?_)
        refine lv_iload hx hb (dk1 dF_21 DX11_wish (i := 13) rfl rfl rfl) (lv_at hl 5 rfl) ?_
        refine zn_I hw (zr_S (As := [.int more]) (rest := []) C0 (c_X11_isEdge l G kc more  _) cs_X11_isEdge lk_X11_133 (zp_P C0 hRo hw a00 s00) rfl hl.1 rfl ⟨by decide, by decide⟩ (Nat.le_of_ble_eq_true rfl) (dk2 dF_184 DX11_wish (i := 14) rfl rfl rfl) ⟨Nat.le_refl _, Nat.le_refl _⟩) (fun r5 s5 H locs hp hw => ?_)
        rcases hp with ⟨rfl, hc5⟩ | ⟨rfl, hc5⟩
        · skip
          (try simp (disch := omega) only [ta_lt, ta_le, ta_eq, tb_lt, tb_le, tb_eq, tw, tnI, tn32 2 (by decide), tnj 2 (by decide), tn32 1 (by decide), tnj 1 (by decide), tl32 0 (by decide), tl64 0 (by decide), tl32 1 (by decide), tl64 1 (by decide)] at hc5)
          refine lv_if_ne (tgt := 39) hx hb (dkS dF_154 DX11_wish (i := 15) rfl rfl rfl) (by decide) (fun _ => ?_) (fun h => absurd h (by decide))
          refine lv_aload hx hb (dk1 dF_25 DX11_wish (i := 18) rfl rfl rfl) (lv_at hl 0 rfl) ?_
          refine z_gms C0 hw (8 + 22 * k_program) 3 u1 hun1 (fk_of (shp_8 k_program (by omega)) rfl) fl_X11_117 (dk2 dF_180 DX11_wish (i := 19) rfl rfl rfl) ?_
          refine lv_iload_n hx hb (dkP dF_28 DX11_wish (i := 20) rfl rfl) rfl (lv_at hl 3 rfl) ?_
          refine lv_iload_n hx hb (dkP dF_29 DX11_wish (i := 21) rfl rfl) rfl (lv_at hl 4 rfl) ?_
          refine zk_I hw (zr_V (As := [.int casing, .int (nI k_field)]) (rest := []) C0 (c_X1_putOf l G kc ad σ u1 casing (nI k_field) hu1 hzn hzn40 hVn hT _) cv_X1_putOf lk_X11_200 (zp_V C0 hRo hw u1 (shl_nt_0 u1 hu1) rfl rfl) rfl hl.1 rfl ⟨by decide, by decide⟩ (Nat.le_of_ble_eq_true rfl) (dk2 dF_182 DX11_wish (i := 22) rfl rfl rfl) ⟨Nat.le_refl _, Nat.le_refl _⟩) (fun r6 s6 H locs hp hw => ?_)
          obtain ⟨f6_0, hs6⟩ := hp
          (rw [hs6] at hw)
          refine lv_istore (lv' := [(6, .int r6), (5, .ref (ad (8 + 22 * k_program))), (0, .ref (ad 0)), (1, .int (nI k_program)), (2, .int casing), (3, .int (nI k_field)), (4, .int more)]) hx hb (dk1 dF_54 DX11_wish (i := 23) rfl rfl rfl) hl (by decide) rfl (fun ls hl => ?_)
          refine lv_iload hx hb (dk1 dF_21 DX11_wish (i := 24) rfl rfl rfl) (lv_at hl 0 rfl) ?_
          refine lv_iconst (v := (-1)) hx hb (dkP dF_2 DX11_wish (i := 25) rfl rfl) (by decide) ?_
          refine lv_icmp_ne (tgt := 60) hx hb (dkS dF_160 DX11_wish (i := 26) rfl rfl rfl) (by decide) (fun c7 => ?_) (fun c7 => ?_)
          · skip
            obtain ⟨bp, m_, rb, hmb, hcb⟩ := f6_0.resolve_left c7
            subst rb
            obtain ⟨hfk0, cj, hcj16, hcj, hcjb, hcn⟩ := ch_s hcb hmb
            have hun19 := hVn.1
            have hm1 := hJ.rg (k := k_program) (by omega) hto1 hun1
            refine lv_aload hx hb (dk1 dF_25 DX11_wish (i := 29) rfl rfl rfl) (lv_at hl 1 rfl) ?_
            refine z_gms C0 hw (8 + 22 * k_program) 3 u1 hun1 (fk_of (shp_8 k_program (by omega)) rfl) fl_X11_117 (dk2 dF_180 DX11_wish (i := 30) rfl rfl rfl) ?_
            refine z_gr C0 hw u1 9 (u1 + 6) (fk_of (shl_nt_0 u1 hu1) rfl) fl_X11_204 (dk2 dF_180 DX11_wish (i := 31) rfl rfl rfl) ?_
            refine lv_iload hx hb (dk1 dF_21 DX11_wish (i := 32) rfl rfl rfl) (lv_at hl 0 rfl) ?_
            refine lv_iconst (v := 1) hx hb (dkP dF_4 DX11_wish (i := 33) rfl rfl) (by decide) ?_
            refine lv_iadd hx hb (dkP dF_96 DX11_wish (i := 34) rfl rfl) ?_
            refine z_top (y := nI (bp + 1)) (by simp only [fa_lit, nI_add, pk_mul]) ?_
            refine lv_iload hx hb (dk1 dF_21 DX11_wish (i := 35) rfl rfl rfl) (lv_at hl 6 rfl) ?_
            refine zk_V hw (zr_V (As := [.int (nI (bp + 1)), .int more]) (rest := []) C0 (c_X8_addAlone_n l G kc ad σ (u1 + 6) (bp + 1) more (ntsn u1 hu1) (by omega) hT _) cv_X8_addAlone lk_X11_208 (zp_V C0 hRo hw (u1 + 6) (shl_nt_6 u1 hu1) rfl rfl) rfl hl.1 rfl ⟨by decide, by decide⟩ (Nat.le_of_ble_eq_true rfl) (dk2 dF_182 DX11_wish (i := 36) rfl rfl rfl) ⟨Nat.le_refl _, Nat.le_refl _⟩) (fun s8 H locs hp hw => ?_)
            obtain ⟨f8_0, hT8, hG8⟩ := hp
            have hF8 : frC (fun x y => ((8 ≤ x ∧ x ≤ 183) ∨ (186 ≤ x ∧ x ≤ 209)) ∨ (x % 22 = 8 ∧ 8 ≤ x ∧ x ≤ 162 ∧ y = 1) ∨ (x = 1 ∧ y = 6)) σ s8 := frC.t frC.refl hG8 (fun x y h => by have h : (x = (u1 + 6) + 1) := h; show ((8 ≤ x ∧ x ≤ 183) ∨ (186 ≤ x ∧ x ≤ 209)) ∨ (x % 22 = 8 ∧ 8 ≤ x ∧ x ≤ 162 ∧ y = 1) ∨ (x = 1 ∧ y = 6); exact Or.inl (by show (8 ≤ x ∧ x ≤ 183) ∨ (186 ≤ x ∧ x ≤ 209); have hq_ := hm1.2; unfold RGN at hq_; omega))
            refine lv_aload hx hb (dk1 dF_25 DX11_wish (i := 37) rfl rfl rfl) (lv_at hl 1 rfl) ?_
            refine lv_iconst (v := (-1)) hx hb (dkP dF_2 DX11_wish (i := 38) rfl rfl) (by decide) ?_
            refine z_pi C0 hw (8 + 22 * k_program) 1 (fk_of (shp_8 k_program (by omega)) rfl) fp_X11_140 (dk2 dF_181 DX11_wish (i := 39) rfl rfl rfl) (fun H locs hw => ?_)
            have hT9 : TC (sI s8 (8 + 22 * k_program) 1 (-1)) := TC.w hT8 (tcw_5_1 (tcp_8 k_program (by omega)))
            have hF9 : frC (fun x y => ((8 ≤ x ∧ x ≤ 183) ∨ (186 ≤ x ∧ x ≤ 209)) ∨ (x % 22 = 8 ∧ 8 ≤ x ∧ x ≤ 162 ∧ y = 1) ∨ (x = 1 ∧ y = 6)) σ (sI s8 (8 + 22 * k_program) 1 (-1)) := frC.w hF8 (by show ((8 ≤ (8 + 22 * k_program) ∧ (8 + 22 * k_program) ≤ 183) ∨ (186 ≤ (8 + 22 * k_program) ∧ (8 + 22 * k_program) ≤ 209)) ∨ ((8 + 22 * k_program) % 22 = 8 ∧ 8 ≤ (8 + 22 * k_program) ∧ (8 + 22 * k_program) ≤ 162 ∧ 1 = 1) ∨ ((8 + 22 * k_program) = 1 ∧ 1 = 6); exact Or.inr (Or.inl (by show (8 + 22 * k_program) % 22 = 8 ∧ 8 ≤ (8 + 22 * k_program) ∧ (8 + 22 * k_program) ≤ 162 ∧ 1 = 1; omega)))
            refine lv_aload_n hx hb (dkP dF_42 DX11_wish (i := 40) rfl rfl) rfl (lv_at hl 2 rfl) ?_
            refine z_gr C0 hw 0 0 1 (fk_of shc_0 rfl) fl_X11_10 (dk2 dF_180 DX11_wish (i := 41) rfl rfl rfl) ?_
            refine lv_dup hx hb (dkP dF_89 DX11_wish (i := 42) rfl rfl) rfl ?_
            refine z_gi C0 hw 1 6 (fk_of shc_1 rfl) fl_X11_214 (dk2 dF_180 DX11_wish (i := 43) rfl rfl rfl) ?_
            obtain ⟨v10, ev10⟩ : ∃ y : Int32, (sI s8 (8 + 22 * k_program) 1 (-1)).1 1 6 = y := ⟨_, rfl⟩
            refine z_top (y := v10) ev10 ?_
            refine lv_iconst (v := 1) hx hb (dkP dF_4 DX11_wish (i := 44) rfl rfl) (by decide) ?_
            refine lv_iadd hx hb (dkP dF_96 DX11_wish (i := 45) rfl rfl) ?_
            refine z_pi C0 hw 1 6 (fk_of shc_1 rfl) fp_X11_214 (dk2 dF_181 DX11_wish (i := 46) rfl rfl rfl) (fun H locs hw => ?_)
            have hT11 : TC (sI (sI s8 (8 + 22 * k_program) 1 (-1)) 1 6 (v10 + 1)) := TC.w hT9 (tcw_13_6 tcl_1)
            have hF11 : frC (fun x y => ((8 ≤ x ∧ x ≤ 183) ∨ (186 ≤ x ∧ x ≤ 209)) ∨ (x % 22 = 8 ∧ 8 ≤ x ∧ x ≤ 162 ∧ y = 1) ∨ (x = 1 ∧ y = 6)) σ (sI (sI s8 (8 + 22 * k_program) 1 (-1)) 1 6 (v10 + 1)) := frC.w hF9 (by show ((8 ≤ 1 ∧ 1 ≤ 183) ∨ (186 ≤ 1 ∧ 1 ≤ 209)) ∨ (1 % 22 = 8 ∧ 8 ≤ 1 ∧ 1 ≤ 162 ∧ 6 = 1) ∨ (1 = 1 ∧ 6 = 6); exact Or.inr (Or.inr (⟨rfl, rfl⟩)))
            refine lv_aload_n hx hb (dkP dF_42 DX11_wish (i := 47) rfl rfl) rfl (lv_at hl 2 rfl) ?_
            refine z_gr C0 hw 0 0 1 (fk_of shc_0 rfl) fl_X11_10 (dk2 dF_180 DX11_wish (i := 48) rfl rfl rfl) ?_
            refine z_gi C0 hw 1 6 (fk_of shc_1 rfl) fl_X11_214 (dk2 dF_180 DX11_wish (i := 49) rfl rfl rfl) ?_
            obtain ⟨v12, ev12⟩ : ∃ y : Int32, (sI (sI s8 (8 + 22 * k_program) 1 (-1)) 1 6 (v10 + 1)).1 1 6 = y := ⟨_, rfl⟩
            refine z_top (y := v12) ev12 ?_
            exact z_iret C0 hr hlk hw (⟨(hJ.upd (k := k_program) (by omega) hto1 hun1 hF11.2 ⟨hLH.c (funext (fun y => ((rd_n (by have hd0_ := pgN (8 + 22 * k_program) (pgm k_program (by omega)); omega)).trans ((rd_n (by omega)).trans ((hG8.1 (8 + 22 * k_program + 20) y (by show ¬ (((8 + 22 * k_program + 20) = (u1 + 6) + 1)); intro h_; (· have hd_ := pgnt (8 + 22 * k_program) (pgm k_program (by omega)) u1 hu1; omega))).trans rfl))))) (funext (fun y => ((rd_n (by have hd0_ := pgN (8 + 22 * k_program) (pgm k_program (by omega)); omega)).trans ((rd_n (by omega)).trans ((hG8.1 (8 + 22 * k_program + 21) y (by show ¬ (((8 + 22 * k_program + 21) = (u1 + 6) + 1)); intro h_; (· have hd_ := pgnt (8 + 22 * k_program) (pgm k_program (by omega)) u1 hu1; omega))).trans rfl))))), ⟨zo, uo, ((rd_n (by have hd0_ := otN3 t1 ht1; omega)).trans ((rd_n (by have hd_ := pgot (8 + 22 * k_program) (pgm k_program (by omega)) t1 ht1; omega)).trans ((hG8.1 t1 1 (by show ¬ ((t1 = (u1 + 6) + 1)); intro h_; (· have hd_ := otnt t1 ht1 u1 hu1; omega))).trans rfl))).trans hzo, hzo24, hVo.c (fun x y hxy => ((rd_n (by have hd0_ := otN3 t1 ht1; omega)).trans ((rd_n (by have hd_ := pgot (8 + 22 * k_program) (pgm k_program (by omega)) t1 ht1; omega)).trans ((hG8.1 x y (by show ¬ ((x = (u1 + 6) + 1)); intro h_; (· have hd_ := otnt t1 ht1 u1 hu1; omega))).trans rfl))))⟩, zn, un, K_, ((rd_n (by have hd0_ := ntN3 u1 hu1; omega)).trans ((rd_n (by have hd_ := pgnt (8 + 22 * k_program) (pgm k_program (by omega)) u1 hu1; omega)).trans ((hG8.1 u1 3 (by show ¬ ((u1 = (u1 + 6) + 1)); intro h_; (· omega))).trans rfl))).trans hzn, hzn40, hVn.alone hcb hmb (fun x hx1 => ((rd_n (by have hd0_ := ntN3 u1 hu1; omega)).trans ((rd_n (by have hd_ := pgnt (8 + 22 * k_program) (pgm k_program (by omega)) u1 hu1; omega)).trans rfl)).trans (f8_0 x (by omega))) (fun x y hxy => ((rd_n (by have hd0_ := ntN3 u1 hu1; omega)).trans ((rd_n (by have hd_ := pgnt (8 + 22 * k_program) (pgm k_program (by omega)) u1 hu1; omega)).trans ((hG8.1 x y (by show ¬ ((x = (u1 + 6) + 1)); intro h_; (· omega))).trans rfl))))⟩ (fun x y hj => by by_cases hx_ : u1 ≤ x ∧ x ≤ u1 + 7; (· exact Or.inr (Or.inr (Or.inr hx_))); (· have hj2 := hj; unfold jcq at hj2; exact Or.inl ((rd_n (by have hd_ := hj2; omega)).trans ((rd_n (by have hd_ := hj2; omega)).trans ((hG8.1 x y (by show ¬ ((x = (u1 + 6) + 1)); intro h_; (· have hd_ := hj2; omega))).trans rfl)))))), hT11, hF11⟩) (dkP dF_172 DX11_wish (i := 50) rfl rfl)
          · skip
            refine lv_bipush (v := (-2)) hx hb (dks dF_16 DX11_wish (i := 27) rfl rfl rfl) (by decide) ?_
            exact z_iret C0 hr hlk hw (⟨hJ, hT, frC.refl⟩) (dkP dF_172 DX11_wish (i := 28) rfl rfl)
        · skip
          (try simp (disch := omega) only [ta_lt, ta_le, ta_eq, tb_lt, tb_le, tb_eq, tw, tnI, tn32 2 (by decide), tnj 2 (by decide), tn32 1 (by decide), tnj 1 (by decide), tl32 0 (by decide), tl64 0 (by decide), tl32 1 (by decide), tl64 1 (by decide)] at hc5)
          refine lv_if_ne (tgt := 39) hx hb (dkS dF_154 DX11_wish (i := 15) rfl rfl rfl) (by decide) (fun h => absurd h (by decide)) (fun _ => ?_)
          refine lv_bipush (v := (-2)) hx hb (dks dF_16 DX11_wish (i := 16) rfl rfl rfl) (by decide) ?_
          exact z_iret C0 hr hlk hw (⟨hJ, hT, frC.refl⟩) (dkP dF_172 DX11_wish (i := 17) rfl rfl)
      · skip
        (try simp (disch := omega) only [ta_lt, ta_le, ta_eq, tb_lt, tb_le, tb_eq, tw, tnI, tn32 2 (by decide), tnj 2 (by decide), tn32 1 (by decide), tnj 1 (by decide), tl32 0 (by decide), tl64 0 (by decide), tl32 1 (by decide), tl64 1 (by decide)] at hc4)
        refine lv_if_eq (tgt := 36) hx hb (dkS dF_153 DX11_wish (i := 12) rfl rfl rfl) (by decide) (fun _ => ?_) (fun h => absurd h (by decide))
        refine lv_bipush (v := (-2)) hx hb (dks dF_16 DX11_wish (i := 16) rfl rfl rfl) (by decide) ?_
        exact z_iret C0 hr hlk hw (⟨hJ, hT, frC.refl⟩) (dkP dF_172 DX11_wish (i := 17) rfl rfl)
set_option maxRecDepth 100000 in
set_option maxHeartbeats 8000000 in
theorem c_X11_ways (l : Launch) (G : va_G) (kc : KC) (ad : Nat → Nat) (σ : Sg) (program : Int32) (hJ : JC σ) (hT : TC σ) : MI l G kc yX11_ways cX11_ways 4 (some .int) 5 127 [.ref (ad 0), .int program] shC ad σ (fun r σ1 => (JC σ1) ∧ TC σ1 ∧ frI (fun x y => (228 ≤ x ∧ x ≤ 249) ∨ (x = 210 ∧ y = 4) ∨ (x = 210 ∧ y = 5) ∨ (x = 210 ∧ y = 6) ∨ (x = 210 ∧ y = 8) ∨ (x = 211) ∨ (x = 213) ∨ (x = 214)) σ σ1) := by
  intro sz
  refine z_body (y := yX11_ways) (n := 4) (av := [.ref (ad 0), .int program]) (Qc := fun A => va_Qi (fun r σ1 => (JC σ1) ∧ TC σ1 ∧ frI (fun x y => (228 ≤ x ∧ x ≤ 249) ∨ (x = 210 ∧ y = 4) ∨ (x = 210 ∧ y = 5) ∨ (x = 210 ∧ y = 6) ∨ (x = 210 ∧ y = 8) ∨ (x = 211) ∨ (x = 213) ∨ (x = 214)) σ σ1) (PoC G kc shC ad A) A) (plainFor_of_name (by decide)) (Nat.le_of_ble_eq_true rfl) (fun pr e s m below meth c A C0 hr hlk hnm hw hRo ls hl => ?_) sz
  have hx := C0.1
  have hb := C0.2.1
  have hown := C0.2.2.2.1
  have hts := C0.2.2.2.2.1
  have hl : lv_has ls 4 [(0, .ref (ad 0)), (1, .int program)] := hl
  obtain ⟨t, u, hto, ht, hun, hu⟩ := hJ.rdr
  obtain ⟨wa, wb, hwa_, hwa, hwb_, hwb, hwab⟩ := hJ.wts
  have hm8 := hJ.rg8 hto hun
  refine lv_aload_n hx hb (dkP dF_42 DX11_ways (i := 0) rfl rfl) rfl (lv_at hl 0 rfl) ?_
  refine lv_iload_n hx hb (dkP dF_27 DX11_ways (i := 1) rfl rfl) rfl (lv_at hl 1 rfl) ?_
  refine zk_R hw (zr_V (As := [.int program]) (rest := []) C0 (c_X11_programAt l G kc ad σ program  _) cv_X11_programAt lk_X11_84 (zp_V C0 hRo hw 0 shc_0 rfl rfl) rfl hl.1 rfl ⟨by decide, by decide⟩ (Nat.le_of_ble_eq_true rfl) (dk2 dF_182 DX11_ways (i := 2) rfl rfl rfl) ⟨Nat.le_refl _, Nat.le_refl _⟩) (fun r1 s1 H locs hp hw => ?_)
  obtain ⟨hq1, hs1⟩ := hp
  (rw [hs1] at hw)
  rcases hq1 with ⟨hc1, rfl⟩ | ⟨k_program, hk_program, rfl, rfl⟩
  · skip
    refine lv_astore_nN (lv' := [(2, .null), (0, .ref (ad 0)), (1, .int program)]) hx hb (dkP dF_77 DX11_ways (i := 3) rfl rfl) rfl hl (by decide) rfl (fun ls hl => ?_)
    refine lv_aload_nN hx hb (dkP dF_44 DX11_ways (i := 4) rfl rfl) rfl (lv_at hl 0 rfl) ?_
    refine lv_ifnullN (tgt := 20) hx hb (dkS dF_198 DX11_ways (i := 5) rfl rfl rfl) (by decide) ?_
    refine lv_bipush (v := (-2)) hx hb (dks dF_16 DX11_ways (i := 10) rfl rfl rfl) (by decide) ?_
    exact z_iret C0 hr hlk hw (⟨hJ, hT, frI.refl⟩) (dkP dF_172 DX11_ways (i := 11) rfl rfl)
  · skip
    obtain ⟨t1, u1, hto1, ht1, hun1, hu1, hVP⟩ := hJ.prog hk_program
    obtain ⟨hLH, ⟨zo, uo, hzo, hzo24, hVo⟩, zn, un, K_, hzn, hzn40, hVn⟩ := id hVP
    refine lv_astore_n (lv' := [(2, .ref (ad (8 + 22 * k_program))), (0, .ref (ad 0)), (1, .int (nI k_program))]) hx hb (dkP dF_77 DX11_ways (i := 3) rfl rfl) rfl hl (by decide) rfl (fun ls hl => ?_)
    refine lv_aload_n hx hb (dkP dF_44 DX11_ways (i := 4) rfl rfl) rfl (lv_at hl 0 rfl) ?_
    refine lv_ifnull hx hb (dkS dF_198 DX11_ways (i := 5) rfl rfl rfl) ?_
    refine lv_aload_n hx hb (dkP dF_44 DX11_ways (i := 6) rfl rfl) rfl (lv_at hl 0 rfl) ?_
    refine z_gms C0 hw (8 + 22 * k_program) 2 t1 hto1 (fk_of (shp_8 k_program (by omega)) rfl) fl_X11_97 (dk2 dF_180 DX11_ways (i := 7) rfl rfl rfl) ?_
    refine z_gi C0 hw t1 0 (fk_of (shl_ot_0 t1 ht1) rfl) fl_X11_146 (dk2 dF_180 DX11_ways (i := 8) rfl rfl rfl) ?_
    obtain ⟨n2, hn2, en2⟩ := rngN (x := σ.1 t1 0) (h := 1) (tcr_1_0 hT (tck_ot_0 t1 ht1))
    refine z_top (y := nI n2) en2 ?_
    refine lv_if_ne (tgt := 23) hx hb (dkS dF_154 DX11_ways (i := 9) rfl rfl rfl) (by decide) (fun c3 => ?_) (fun c3 => ?_)
    · simp (disch := omega) only [ta_lt, ta_le, ta_eq, tnI, tl32 0 (by decide)] at c3
      refine lv_aload_n hx hb (dkP dF_42 DX11_ways (i := 12) rfl rfl) rfl (lv_at hl 1 rfl) ?_
      refine z_gms C0 hw 0 11 wb hwb_ (fk_of shc_0 rfl) fl_X11_70 (dk2 dF_180 DX11_ways (i := 13) rfl rfl rfl) ?_
      refine lv_aload_n hx hb (dkP dF_44 DX11_ways (i := 14) rfl rfl) rfl (lv_at hl 0 rfl) ?_
      refine lv_aload_n hx hb (dkP dF_42 DX11_ways (i := 15) rfl rfl) rfl (lv_at hl 1 rfl) ?_
      refine z_gr C0 hw 0 4 210 (fk_of shc_0 rfl) fl_X11_34 (dk2 dF_180 DX11_ways (i := 16) rfl rfl rfl) ?_
      refine lv_null hx hb (dkP dF_1 DX11_ways (i := 17) rfl rfl) ?_
      refine zk_I hw (zr_V (As := [.ref (ad (8 + 22 * k_program)), .ref (ad 210), .null]) (rest := []) C0 (c_X9_collect_0 l G kc ad σ wb (8 + 22 * k_program) 210 hwb (pgm k_program (by omega)) (by decide) ht1 hto1 hLH hzo hzo24 hVo hT _) cv_X9_collect lk_X11_174 (zp_V C0 hRo hw wb (shl_wt_0 wb hwb) rfl rfl) rfl hl.1 rfl ⟨by decide, by decide⟩ (Nat.le_of_ble_eq_true rfl) (dk2 dF_182 DX11_ways (i := 18) rfl rfl rfl) ⟨Nat.le_refl _, Nat.le_refl _⟩) (fun r4 s4 H locs hp hw => ?_)
      obtain ⟨f4_0, hT4, hG4⟩ := hp
      have hF4 : frI (fun x y => (228 ≤ x ∧ x ≤ 249) ∨ (x = 210 ∧ y = 4) ∨ (x = 210 ∧ y = 5) ∨ (x = 210 ∧ y = 6) ∨ (x = 210 ∧ y = 8) ∨ (x = 211) ∨ (x = 213) ∨ (x = 214)) σ s4 := frI.t frI.refl hG4 (fun x y h => by have h : (x = 210 + 1) ∨ (x = 210 + 3) ∨ (x = 210 + 4) ∨ (x = 210 ∧ y = 4) ∨ (x = 210 ∧ y = 5) ∨ (x = 210 ∧ y = 6) ∨ (x = 210 ∧ y = 8) ∨ (x = wb + 1) ∨ (x = wb + 10) ∨ (x = wb + 2) ∨ (x = wb + 3) ∨ (x = wb + 4) ∨ (x = wb + 5) ∨ (x = wb + 6) ∨ (x = wb + 7) ∨ (x = wb + 8) ∨ (x = wb + 9) ∨ (x = wb ∧ y = 0) ∨ (x = wb ∧ y = 1) ∨ (x = wb ∧ y = 2) := h; show (228 ≤ x ∧ x ≤ 249) ∨ (x = 210 ∧ y = 4) ∨ (x = 210 ∧ y = 5) ∨ (x = 210 ∧ y = 6) ∨ (x = 210 ∧ y = 8) ∨ (x = 211) ∨ (x = 213) ∨ (x = 214); rcases h with h | h | h | h | h | h | h | h | h | h | h | h | h | h | h | h | h | h | h | h; (· omega); (· omega); (· omega); (· exact Or.inr (Or.inl h)); (· exact Or.inr (Or.inr (Or.inl h))); (· exact Or.inr (Or.inr (Or.inr (Or.inl h)))); (· exact Or.inr (Or.inr (Or.inr (Or.inr (Or.inl h))))); (· exact Or.inl (by show 228 ≤ x ∧ x ≤ 249; have hq_ := wtN2 wb hwb; omega)); (· exact Or.inl (by show 228 ≤ x ∧ x ≤ 249; have hq_ := wtN2 wb hwb; omega)); (· exact Or.inl (by show 228 ≤ x ∧ x ≤ 249; have hq_ := wtN2 wb hwb; omega)); (· exact Or.inl (by show 228 ≤ x ∧ x ≤ 249; have hq_ := wtN2 wb hwb; omega)); (· exact Or.inl (by show 228 ≤ x ∧ x ≤ 249; have hq_ := wtN2 wb hwb; omega)); (· exact Or.inl (by show 228 ≤ x ∧ x ≤ 249; have hq_ := wtN2 wb hwb; omega)); (· exact Or.inl (by show 228 ≤ x ∧ x ≤ 249; have hq_ := wtN2 wb hwb; omega)); (· exact Or.inl (by show 228 ≤ x ∧ x ≤ 249; have hq_ := wtN2 wb hwb; omega)); (· exact Or.inl (by show 228 ≤ x ∧ x ≤ 249; have hq_ := wtN2 wb hwb; omega)); (· exact Or.inl (by show 228 ≤ x ∧ x ≤ 249; have hq_ := wtN2 wb hwb; omega)); (· exact Or.inl (by show 228 ≤ x ∧ x ≤ 249; have hq_ := wtN2 wb hwb; omega)); (· exact Or.inl (by show 228 ≤ x ∧ x ≤ 249; have hq_ := wtN2 wb hwb; omega)); (· exact Or.inl (by show 228 ≤ x ∧ x ≤ 249; have hq_ := wtN2 wb hwb; omega)))
      rcases f4_0 with ⟨rfl, hc4⟩ | ⟨rfl, hc4⟩
      · skip
        refine lv_if_ne (tgt := 42) hx hb (dkS dF_154 DX11_ways (i := 19) rfl rfl rfl) (by decide) (fun _ => ?_) (fun h => absurd h (by decide))
        refine lv_aload_n hx hb (dkP dF_42 DX11_ways (i := 22) rfl rfl) rfl (lv_at hl 1 rfl) ?_
        refine z_gms C0 hw 0 10 wa ((congrFun (congrFun hG4.2 _) _).trans hwa_) (fk_of shc_0 rfl) fl_X11_66 (dk2 dF_180 DX11_ways (i := 23) rfl rfl rfl) ?_
        refine lv_astore_n (lv' := [(3, .ref (ad wa)), (2, .ref (ad (8 + 22 * k_program))), (0, .ref (ad 0)), (1, .int (nI k_program))]) hx hb (dkP dF_78 DX11_ways (i := 24) rfl rfl) rfl hl (by decide) rfl (fun ls hl => ?_)
        refine lv_aload_n hx hb (dkP dF_42 DX11_ways (i := 25) rfl rfl) rfl (lv_at hl 2 rfl) ?_
        refine lv_aload_n hx hb (dkP dF_42 DX11_ways (i := 26) rfl rfl) rfl (lv_at hl 2 rfl) ?_
        refine z_gms C0 hw 0 11 wb ((congrFun (congrFun hG4.2 _) _).trans hwb_) (fk_of shc_0 rfl) fl_X11_70 (dk2 dF_180 DX11_ways (i := 27) rfl rfl rfl) ?_
        refine z_pm C0 hw 0 10 wb (fk_of shc_0 rfl) fp_X11_66 (dk2 dF_181 DX11_ways (i := 28) rfl rfl rfl) (fun H locs hw => ?_)
        have hF5 : frI (fun x y => (228 ≤ x ∧ x ≤ 249) ∨ (x = 210 ∧ y = 4) ∨ (x = 210 ∧ y = 5) ∨ (x = 210 ∧ y = 6) ∨ (x = 210 ∧ y = 8) ∨ (x = 211) ∨ (x = 213) ∨ (x = 214)) σ (sP s4 0 10 (some wb)) := frI.p hF4
        refine lv_aload_n hx hb (dkP dF_42 DX11_ways (i := 29) rfl rfl) rfl (lv_at hl 2 rfl) ?_
        refine lv_aload_n hx hb (dkP dF_45 DX11_ways (i := 30) rfl rfl) rfl (lv_at hl 0 rfl) ?_
        refine z_pm C0 hw 0 11 wa (fk_of shc_0 rfl) fp_X11_70 (dk2 dF_181 DX11_ways (i := 31) rfl rfl rfl) (fun H locs hw => ?_)
        have hF6 : frI (fun x y => (228 ≤ x ∧ x ≤ 249) ∨ (x = 210 ∧ y = 4) ∨ (x = 210 ∧ y = 5) ∨ (x = 210 ∧ y = 6) ∨ (x = 210 ∧ y = 8) ∨ (x = 211) ∨ (x = 213) ∨ (x = 214)) σ (sP (sP s4 0 10 (some wb)) 0 11 (some wa)) := frI.p hF5
        refine lv_aload_n hx hb (dkP dF_42 DX11_ways (i := 32) rfl rfl) rfl (lv_at hl 2 rfl) ?_
        refine z_gms C0 hw 0 10 wb ((rp_n (by omega)).trans rp_s) (fk_of shc_0 rfl) fl_X11_66 (dk2 dF_180 DX11_ways (i := 33) rfl rfl rfl) ?_
        refine z_gi C0 hw wb 0 (fk_of (shl_wt_0 wb hwb) rfl) fl_X11_178 (dk2 dF_180 DX11_ways (i := 34) rfl rfl rfl) ?_
        obtain ⟨n7, hn7, en7⟩ := rngN (x := (sP (sP s4 0 10 (some wb)) 0 11 (some wa)).1 wb 0) (h := 200) (tcr_11_0 hT4 (tck_wt_0 wb hwb))
        refine z_top (y := nI n7) en7 ?_
        exact z_iret C0 hr hlk hw (⟨(hJ.swW hwa_ hwb_ (fun x y hj => by have hj2 := hj; unfold jcq at hj2; exact ((hG4.1 x y (by show ¬ ((x = 210 + 1) ∨ (x = 210 + 3) ∨ (x = 210 + 4) ∨ (x = 210 ∧ y = 4) ∨ (x = 210 ∧ y = 5) ∨ (x = 210 ∧ y = 6) ∨ (x = 210 ∧ y = 8) ∨ (x = wb + 1) ∨ (x = wb + 10) ∨ (x = wb + 2) ∨ (x = wb + 3) ∨ (x = wb + 4) ∨ (x = wb + 5) ∨ (x = wb + 6) ∨ (x = wb + 7) ∨ (x = wb + 8) ∨ (x = wb + 9) ∨ (x = wb ∧ y = 0) ∨ (x = wb ∧ y = 1) ∨ (x = wb ∧ y = 2)); intro h_; rcases h_ with h_ | h_ | h_ | h_ | h_ | h_ | h_ | h_ | h_ | h_ | h_ | h_ | h_ | h_ | h_ | h_ | h_ | h_ | h_ | h_; (· have hd_ := (show _ ∧ _ from ⟨hj2, wtN2 wb hwb⟩); omega); (· have hd_ := (show _ ∧ _ from ⟨hj2, wtN2 wb hwb⟩); omega); (· have hd_ := (show _ ∧ _ from ⟨hj2, wtN2 wb hwb⟩); omega); (· have hd_ := (show _ ∧ _ from ⟨hj2, wtN2 wb hwb⟩); omega); (· have hd_ := (show _ ∧ _ from ⟨hj2, wtN2 wb hwb⟩); omega); (· have hd_ := (show _ ∧ _ from ⟨hj2, wtN2 wb hwb⟩); omega); (· have hd_ := (show _ ∧ _ from ⟨hj2, wtN2 wb hwb⟩); omega); (· have hd_ := (show _ ∧ _ from ⟨hj2, wtN2 wb hwb⟩); omega); (· have hd_ := (show _ ∧ _ from ⟨hj2, wtN2 wb hwb⟩); omega); (· have hd_ := (show _ ∧ _ from ⟨hj2, wtN2 wb hwb⟩); omega); (· have hd_ := (show _ ∧ _ from ⟨hj2, wtN2 wb hwb⟩); omega); (· have hd_ := (show _ ∧ _ from ⟨hj2, wtN2 wb hwb⟩); omega); (· have hd_ := (show _ ∧ _ from ⟨hj2, wtN2 wb hwb⟩); omega); (· have hd_ := (show _ ∧ _ from ⟨hj2, wtN2 wb hwb⟩); omega); (· have hd_ := (show _ ∧ _ from ⟨hj2, wtN2 wb hwb⟩); omega); (· have hd_ := (show _ ∧ _ from ⟨hj2, wtN2 wb hwb⟩); omega); (· have hd_ := (show _ ∧ _ from ⟨hj2, wtN2 wb hwb⟩); omega); (· have hd_ := (show _ ∧ _ from ⟨hj2, wtN2 wb hwb⟩); omega); (· have hd_ := (show _ ∧ _ from ⟨hj2, wtN2 wb hwb⟩); omega); (· have hd_ := (show _ ∧ _ from ⟨hj2, wtN2 wb hwb⟩); omega))).trans rfl)) ((rp_n (by omega)).trans rp_s) rp_s (fun a b h1 => ((rp_n (by omega)).trans ((rp_n (by omega)).trans ((congrFun (congrFun hG4.2 a) b).trans rfl))))), hT4, hF6⟩) (dkP dF_172 DX11_ways (i := 35) rfl rfl)
      · skip
        refine lv_if_ne (tgt := 42) hx hb (dkS dF_154 DX11_ways (i := 19) rfl rfl rfl) (by decide) (fun h => absurd h (by decide)) (fun _ => ?_)
        refine lv_bipush (v := (-3)) hx hb (dks dF_16 DX11_ways (i := 20) rfl rfl rfl) (by decide) ?_
        exact z_iret C0 hr hlk hw (⟨(hJ.fr hG4.2 (fun x y hj => by have hj2 := hj; unfold jcq at hj2; exact ((hG4.1 x y (by show ¬ ((x = 210 + 1) ∨ (x = 210 + 3) ∨ (x = 210 + 4) ∨ (x = 210 ∧ y = 4) ∨ (x = 210 ∧ y = 5) ∨ (x = 210 ∧ y = 6) ∨ (x = 210 ∧ y = 8) ∨ (x = wb + 1) ∨ (x = wb + 10) ∨ (x = wb + 2) ∨ (x = wb + 3) ∨ (x = wb + 4) ∨ (x = wb + 5) ∨ (x = wb + 6) ∨ (x = wb + 7) ∨ (x = wb + 8) ∨ (x = wb + 9) ∨ (x = wb ∧ y = 0) ∨ (x = wb ∧ y = 1) ∨ (x = wb ∧ y = 2)); intro h_; rcases h_ with h_ | h_ | h_ | h_ | h_ | h_ | h_ | h_ | h_ | h_ | h_ | h_ | h_ | h_ | h_ | h_ | h_ | h_ | h_ | h_; (· have hd_ := (show _ ∧ _ from ⟨hj2, wtN2 wb hwb⟩); omega); (· have hd_ := (show _ ∧ _ from ⟨hj2, wtN2 wb hwb⟩); omega); (· have hd_ := (show _ ∧ _ from ⟨hj2, wtN2 wb hwb⟩); omega); (· have hd_ := (show _ ∧ _ from ⟨hj2, wtN2 wb hwb⟩); omega); (· have hd_ := (show _ ∧ _ from ⟨hj2, wtN2 wb hwb⟩); omega); (· have hd_ := (show _ ∧ _ from ⟨hj2, wtN2 wb hwb⟩); omega); (· have hd_ := (show _ ∧ _ from ⟨hj2, wtN2 wb hwb⟩); omega); (· have hd_ := (show _ ∧ _ from ⟨hj2, wtN2 wb hwb⟩); omega); (· have hd_ := (show _ ∧ _ from ⟨hj2, wtN2 wb hwb⟩); omega); (· have hd_ := (show _ ∧ _ from ⟨hj2, wtN2 wb hwb⟩); omega); (· have hd_ := (show _ ∧ _ from ⟨hj2, wtN2 wb hwb⟩); omega); (· have hd_ := (show _ ∧ _ from ⟨hj2, wtN2 wb hwb⟩); omega); (· have hd_ := (show _ ∧ _ from ⟨hj2, wtN2 wb hwb⟩); omega); (· have hd_ := (show _ ∧ _ from ⟨hj2, wtN2 wb hwb⟩); omega); (· have hd_ := (show _ ∧ _ from ⟨hj2, wtN2 wb hwb⟩); omega); (· have hd_ := (show _ ∧ _ from ⟨hj2, wtN2 wb hwb⟩); omega); (· have hd_ := (show _ ∧ _ from ⟨hj2, wtN2 wb hwb⟩); omega); (· have hd_ := (show _ ∧ _ from ⟨hj2, wtN2 wb hwb⟩); omega); (· have hd_ := (show _ ∧ _ from ⟨hj2, wtN2 wb hwb⟩); omega); (· have hd_ := (show _ ∧ _ from ⟨hj2, wtN2 wb hwb⟩); omega))).trans rfl))), hT4, hF4⟩) (dkP dF_172 DX11_ways (i := 21) rfl rfl)
    · simp (disch := omega) only [ta_lt, ta_le, ta_eq, tnI, tl32 0 (by decide)] at c3
      refine lv_bipush (v := (-2)) hx hb (dks dF_16 DX11_ways (i := 10) rfl rfl rfl) (by decide) ?_
      exact z_iret C0 hr hlk hw (⟨hJ, hT, frI.refl⟩) (dkP dF_172 DX11_ways (i := 11) rfl rfl)
