set_option maxRecDepth 100000 in
set_option maxHeartbeats 8000000 in
theorem c_X11_span (l : Launch) (G : va_G) (kc : KC) (ad : Nat → Nat) (σ : Sg) (program : Int32) (field : Int32) (low : Int32) (high : Int32) (hJ : JC σ) (hT : TC σ) : MI l G kc yX11_span cX11_span 6 (some .int) 2 49 [.ref (ad 0), .int program, .int field, .int low, .int high] shC ad σ (fun r σ1 => (JC σ1) ∧ TC σ1 ∧ frC (fun x y => (8 ≤ x ∧ x ≤ 183 ∧ (x - 8) % 22 = 19) ∨ (8 ≤ x ∧ x ≤ 183 ∧ (x - 8) % 22 = 20) ∨ (8 ≤ x ∧ x ≤ 183 ∧ (x - 8) % 22 = 21) ∨ (x % 22 = 8 ∧ 8 ≤ x ∧ x ≤ 162 ∧ y = 1) ∨ (x % 22 = 8 ∧ 8 ≤ x ∧ x ≤ 162 ∧ y = 4) ∨ (x % 22 = 8 ∧ 8 ≤ x ∧ x ≤ 162 ∧ y = 5)) σ σ1) := by
  intro sz
  refine z_body (y := yX11_span) (n := 6) (av := [.ref (ad 0), .int program, .int field, .int low, .int high]) (Qc := fun A => va_Qi (fun r σ1 => (JC σ1) ∧ TC σ1 ∧ frC (fun x y => (8 ≤ x ∧ x ≤ 183 ∧ (x - 8) % 22 = 19) ∨ (8 ≤ x ∧ x ≤ 183 ∧ (x - 8) % 22 = 20) ∨ (8 ≤ x ∧ x ≤ 183 ∧ (x - 8) % 22 = 21) ∨ (x % 22 = 8 ∧ 8 ≤ x ∧ x ≤ 162 ∧ y = 1) ∨ (x % 22 = 8 ∧ 8 ≤ x ∧ x ≤ 162 ∧ y = 4) ∨ (x % 22 = 8 ∧ 8 ≤ x ∧ x ≤ 162 ∧ y = 5)) σ σ1) (PoC G kc shC ad A) A) (plainFor_of_name (by decide)) (Nat.le_of_ble_eq_true rfl) (fun pr e s m below meth c A C0 hr hlk hnm hw hRo ls hl => ?_) sz
  have hx := C0.1
  have hb := C0.2.1
  have hown := C0.2.2.2.1
  have hts := C0.2.2.2.2.1
  have hl : lv_has ls 6 [(0, .ref (ad 0)), (1, .int program), (2, .int field), (3, .int low), (4, .int high)] := hl
  obtain ⟨t, u, hto, ht, hun, hu⟩ := hJ.rdr
  obtain ⟨wa, wb, hwa_, hwa, hwb_, hwb, hwab⟩ := hJ.wts
  refine lv_aload_n hx hb (dkP dF_42 DX11_span (i := 0) rfl rfl) rfl (lv_at hl 0 rfl) ?_
  refine lv_iload_n hx hb (dkP dF_27 DX11_span (i := 1) rfl rfl) rfl (lv_at hl 1 rfl) ?_
  refine zk_R hw (zr_V (As := [.int program]) (rest := []) C0 (c_X11_programAt l G kc ad σ program  _) cv_X11_programAt lk_X11_84 (zp_V C0 hRo hw 0 shc_0 rfl rfl) rfl hl.1 rfl ⟨by decide, by decide⟩ (Nat.le_of_ble_eq_true rfl) (dk2 dF_182 DX11_span (i := 2) rfl rfl rfl) ⟨Nat.le_refl _, Nat.le_refl _⟩) (fun r1 s1 H locs hp hw => ?_)
  obtain ⟨hq1, hs1⟩ := hp
  (rw [hs1] at hw)
  rcases hq1 with ⟨hc1, rfl⟩ | ⟨k_program, hk_program, rfl, rfl⟩
  · skip
    refine lv_astoreN (lv' := [(5, .null), (0, .ref (ad 0)), (1, .int program), (2, .int field), (3, .int low), (4, .int high)]) hx hb (dk1 dF_58 DX11_span (i := 3) rfl rfl rfl) hl (by decide) rfl (fun ls hl => ?_)
    refine lv_aloadN hx hb (dk1 dF_25 DX11_span (i := 4) rfl rfl rfl) (lv_at hl 0 rfl) ?_
    refine lv_ifnullN (tgt := 42) hx hb (dkS dF_198 DX11_span (i := 5) rfl rfl rfl) (by decide) ?_
    refine lv_bipush (v := (-2)) hx hb (dks dF_16 DX11_span (i := 18) rfl rfl rfl) (by decide) ?_
    exact z_iret C0 hr hlk hw (⟨hJ, hT, frC.refl⟩) (dkP dF_172 DX11_span (i := 19) rfl rfl)
  · skip
    obtain ⟨t1, u1, hto1, ht1, hun1, hu1, hVP⟩ := hJ.prog hk_program
    obtain ⟨hLH, ⟨zo, uo, hzo, hzo24, hVo⟩, zn, un, K_, hzn, hzn40, hVn⟩ := id hVP
    refine lv_astore (lv' := [(5, .ref (ad (8 + 22 * k_program))), (0, .ref (ad 0)), (1, .int (nI k_program)), (2, .int field), (3, .int low), (4, .int high)]) hx hb (dk1 dF_58 DX11_span (i := 3) rfl rfl rfl) hl (by decide) rfl (fun ls hl => ?_)
    refine lv_aload hx hb (dk1 dF_25 DX11_span (i := 4) rfl rfl rfl) (lv_at hl 0 rfl) ?_
    refine lv_ifnull hx hb (dkS dF_198 DX11_span (i := 5) rfl rfl rfl) ?_
    refine lv_aload hx hb (dk1 dF_25 DX11_span (i := 6) rfl rfl rfl) (lv_at hl 0 rfl) ?_
    refine zk_I hw (zr_V (As := []) (rest := []) C0 (c_X4_mayChange l G kc ad σ (8 + 22 * k_program) (pgm k_program (by omega)) hT _) cv_X4_mayChange lk_X11_107 (zp_V C0 hRo hw (8 + 22 * k_program) (shp_8 k_program (by omega)) rfl rfl) rfl hl.1 rfl ⟨by decide, by decide⟩ (Nat.le_of_ble_eq_true rfl) (dk2 dF_182 DX11_span (i := 7) rfl rfl rfl) ⟨Nat.le_refl _, Nat.le_refl _⟩) (fun r2 s2 H locs hp hw => ?_)
    obtain ⟨f2_0, hs2⟩ := hp
    (rw [hs2] at hw)
    rcases f2_0 with ⟨rfl, hc2⟩ | ⟨rfl, hc2⟩
    · skip
      refine lv_if_eq (tgt := 42) hx hb (dkS dF_153 DX11_span (i := 8) rfl rfl rfl) (by decide) (fun h => absurd h (by decide)) (fun _ => ?_)
      refine lv_iload_n hx hb (dkP dF_28 DX11_span (i := 9) rfl rfl) rfl (lv_at hl 3 rfl) ?_
      refine zn_I hw (zr_S (As := [.int field]) (rest := []) C0 (c_X11_isField l G kc field  _) cs_X11_isField lk_X11_130 (zp_P C0 hRo hw a00 s00) rfl hl.1 rfl ⟨by decide, by decide⟩ (Nat.le_of_ble_eq_true rfl) (dk2 dF_184 DX11_span (i := 10) rfl rfl rfl) ⟨Nat.le_refl _, Nat.le_refl _⟩) (fun r3 s3 H locs hp hw => ?_)
      rcases hp with ⟨rfl, hc3⟩ | ⟨rfl, hc3⟩
      · skip
        (try simp (disch := omega) only [ta_lt, ta_le, ta_eq, tb_lt, tb_le, tb_eq, tw, tnI, tn32 2 (by decide), tnj 2 (by decide), tn32 1 (by decide), tnj 1 (by decide), tl32 0 (by decide), tl64 0 (by decide)] at hc3)
        obtain ⟨k_field, hk_field, rfl⟩ := to_nat (x := field) (n := 8) (by (try simp only [lg_cmp_lt, lg_cmp_le, lg_cmp_gt, lg_cmp_ge, lg_cmp_eq] at hk_program); (try simp (disch := omega) only [ta_lt, ta_le, ta_eq, tb_lt, tb_le, tb_eq, tw, tnI, tn32 2 (by decide), tnj 2 (by decide), tn32 1 (by decide), tnj 1 (by decide), tl32 0 (by decide), tl64 0 (by decide)] at hk_program); (try simp only [lg_cmp_lt, lg_cmp_le, lg_cmp_gt, lg_cmp_ge, lg_cmp_eq] at f2_0); (try simp (disch := omega) only [ta_lt, ta_le, ta_eq, tb_lt, tb_le, tb_eq, tw, tnI, tn32 2 (by decide), tnj 2 (by decide), tn32 1 (by decide), tnj 1 (by decide), tl32 0 (by decide), tl64 0 (by decide)] at f2_0); (try simp only [lg_cmp_lt, lg_cmp_le, lg_cmp_gt, lg_cmp_ge, lg_cmp_eq] at hc2); (try simp (disch := omega) only [ta_lt, ta_le, ta_eq, tb_lt, tb_le, tb_eq, tw, tnI, tn32 2 (by decide), tnj 2 (by decide), tn32 1 (by decide), tnj 1 (by decide), tl32 0 (by decide), tl64 0 (by decide)] at hc2); (try simp only [lg_cmp_lt, lg_cmp_le, lg_cmp_gt, lg_cmp_ge, lg_cmp_eq] at hc3); (try simp (disch := omega) only [ta_lt, ta_le, ta_eq, tb_lt, tb_le, tb_eq, tw, tnI, tn32 2 (by decide), tnj 2 (by decide), tn32 1 (by decide), tnj 1 (by decide), tl32 0 (by decide), tl64 0 (by decide)] at hc3); (try simp (disch := omega) only [ta_lt, ta_le, ta_eq, tb_lt, tb_le, tb_eq, tw, tnI, tn32 2 (by decide), tnj 2 (by decide), tn32 1 (by decide), tnj 1 (by decide), tl32 0 (by decide), tl64 0 (by decide)]); omega)
        refine lv_if_eq (tgt := 42) hx hb (dkS dF_153 DX11_span (i := 11) rfl rfl rfl) (by decide) (fun h => absurd h (by decide)) (fun _ => ?_)
        refine lv_iload_n hx hb (dkP dF_29 DX11_span (i := 12) rfl rfl) rfl (lv_at hl 4 rfl) ?_
        refine zn_I hw (zr_S (As := [.int low]) (rest := []) C0 (c_X11_isEdge l G kc low  _) cs_X11_isEdge lk_X11_133 (zp_P C0 hRo hw a00 s00) rfl hl.1 rfl ⟨by decide, by decide⟩ (Nat.le_of_ble_eq_true rfl) (dk2 dF_184 DX11_span (i := 13) rfl rfl rfl) ⟨Nat.le_refl _, Nat.le_refl _⟩) (fun r4 s4 H locs hp hw => ?_)
        rcases hp with ⟨rfl, hc4⟩ | ⟨rfl, hc4⟩
        · skip
          (try simp (disch := omega) only [ta_lt, ta_le, ta_eq, tb_lt, tb_le, tb_eq, tw, tnI, tn32 2 (by decide), tnj 2 (by decide), tn32 1 (by decide), tnj 1 (by decide), tl32 0 (by decide), tl64 0 (by decide)] at hc4)
          refine lv_if_eq (tgt := 42) hx hb (dkS dF_153 DX11_span (i := 14) rfl rfl rfl) (by decide) (fun h => absurd h (by decide)) (fun _ => ?_)
          refine lv_iload hx hb (dk1 dF_21 DX11_span (i := 15) rfl rfl rfl) (lv_at hl 5 rfl) ?_
          refine zn_I hw (zr_S (As := [.int high]) (rest := []) C0 (c_X11_isEdge l G kc high  _) cs_X11_isEdge lk_X11_133 (zp_P C0 hRo hw a00 s00) rfl hl.1 rfl ⟨by decide, by decide⟩ (Nat.le_of_ble_eq_true rfl) (dk2 dF_184 DX11_span (i := 16) rfl rfl rfl) ⟨Nat.le_refl _, Nat.le_refl _⟩) (fun r5 s5 H locs hp hw => ?_)
          rcases hp with ⟨rfl, hc5⟩ | ⟨rfl, hc5⟩
          · skip
            (try simp (disch := omega) only [ta_lt, ta_le, ta_eq, tb_lt, tb_le, tb_eq, tw, tnI, tn32 2 (by decide), tnj 2 (by decide), tn32 1 (by decide), tnj 1 (by decide), tl32 0 (by decide), tl64 0 (by decide)] at hc5)
            refine lv_if_ne (tgt := 45) hx hb (dkS dF_154 DX11_span (i := 17) rfl rfl rfl) (by decide) (fun _ => ?_) (fun h => absurd h (by decide))
            refine lv_aload hx hb (dk1 dF_25 DX11_span (i := 20) rfl rfl rfl) (lv_at hl 0 rfl) ?_
            refine lv_iload_n hx hb (dkP dF_28 DX11_span (i := 21) rfl rfl) rfl (lv_at hl 3 rfl) ?_
            refine lv_iload_n hx hb (dkP dF_29 DX11_span (i := 22) rfl rfl) rfl (lv_at hl 4 rfl) ?_
            refine lv_iload hx hb (dk1 dF_21 DX11_span (i := 23) rfl rfl rfl) (lv_at hl 5 rfl) ?_
            refine zk_I hw (zr_V (As := [.int (nI k_field), .int low, .int high]) (rest := []) C0 (c_X4_spans l G kc ad σ (8 + 22 * k_program) k_field low high (pgm k_program (by omega)) hLH (by first | omega | assumption | decide | rfl) (by first | omega | assumption | decide | rfl) (by first | omega | assumption | decide | rfl) hT _) cv_X4_spans lk_X11_136 (zp_V C0 hRo hw (8 + 22 * k_program) (shp_8 k_program (by omega)) rfl rfl) rfl hl.1 rfl ⟨by decide, by decide⟩ (Nat.le_of_ble_eq_true rfl) (dk2 dF_182 DX11_span (i := 24) rfl rfl rfl) ⟨Nat.le_refl _, Nat.le_refl _⟩) (fun r6 s6 H locs hp hw => ?_)
            obtain ⟨f6_0, f6_1, hT6, hG6⟩ := hp
            have hF6 : frC (fun x y => (8 ≤ x ∧ x ≤ 183 ∧ (x - 8) % 22 = 19) ∨ (8 ≤ x ∧ x ≤ 183 ∧ (x - 8) % 22 = 20) ∨ (8 ≤ x ∧ x ≤ 183 ∧ (x - 8) % 22 = 21) ∨ (x % 22 = 8 ∧ 8 ≤ x ∧ x ≤ 162 ∧ y = 1) ∨ (x % 22 = 8 ∧ 8 ≤ x ∧ x ≤ 162 ∧ y = 4) ∨ (x % 22 = 8 ∧ 8 ≤ x ∧ x ≤ 162 ∧ y = 5)) σ s6 := frC.t frC.refl hG6 (fun x y h => by have h : (x = (8 + 22 * k_program) + 19) ∨ (x = (8 + 22 * k_program) + 20) ∨ (x = (8 + 22 * k_program) + 21) ∨ (x = 8 + 22 * k_program ∧ y = 4) ∨ (x = 8 + 22 * k_program ∧ y = 5) := h; show (8 ≤ x ∧ x ≤ 183 ∧ (x - 8) % 22 = 19) ∨ (8 ≤ x ∧ x ≤ 183 ∧ (x - 8) % 22 = 20) ∨ (8 ≤ x ∧ x ≤ 183 ∧ (x - 8) % 22 = 21) ∨ (x % 22 = 8 ∧ 8 ≤ x ∧ x ≤ 162 ∧ y = 1) ∨ (x % 22 = 8 ∧ 8 ≤ x ∧ x ≤ 162 ∧ y = 4) ∨ (x % 22 = 8 ∧ 8 ≤ x ∧ x ≤ 162 ∧ y = 5); rcases h with h | h | h | h | h; (· exact Or.inl (by show 8 ≤ x ∧ x ≤ 183 ∧ (x - 8) % 22 = 19; omega)); (· exact Or.inr (Or.inl (by show 8 ≤ x ∧ x ≤ 183 ∧ (x - 8) % 22 = 20; omega))); (· exact Or.inr (Or.inr (Or.inl (by show 8 ≤ x ∧ x ≤ 183 ∧ (x - 8) % 22 = 21; omega)))); (· exact Or.inr (Or.inr (Or.inr (Or.inr (Or.inl (by show x % 22 = 8 ∧ 8 ≤ x ∧ x ≤ 162 ∧ y = 4; omega)))))); (· exact Or.inr (Or.inr (Or.inr (Or.inr (Or.inr ((by show x % 22 = 8 ∧ 8 ≤ x ∧ x ≤ 162 ∧ y = 5; omega))))))))
            rcases f6_0 with ⟨rfl, hc6⟩ | ⟨rfl, hc6⟩
            · skip
              refine lv_if_ne (tgt := 60) hx hb (dkS dF_154 DX11_span (i := 25) rfl rfl rfl) (by decide) (fun _ => ?_) (fun h => absurd h (by decide))
              refine lv_aload hx hb (dk1 dF_25 DX11_span (i := 28) rfl rfl rfl) (lv_at hl 0 rfl) ?_
              refine lv_iconst (v := (-1)) hx hb (dkP dF_2 DX11_span (i := 29) rfl rfl) (by decide) ?_
              refine z_pi C0 hw (8 + 22 * k_program) 1 (fk_of (shp_8 k_program (by omega)) rfl) fp_X11_140 (dk2 dF_181 DX11_span (i := 30) rfl rfl rfl) (fun H locs hw => ?_)
              have hT7 : TC (sI s6 (8 + 22 * k_program) 1 (-1)) := TC.w hT6 (tcw_5_1 (tcp_8 k_program (by omega)))
              have hF7 : frC (fun x y => (8 ≤ x ∧ x ≤ 183 ∧ (x - 8) % 22 = 19) ∨ (8 ≤ x ∧ x ≤ 183 ∧ (x - 8) % 22 = 20) ∨ (8 ≤ x ∧ x ≤ 183 ∧ (x - 8) % 22 = 21) ∨ (x % 22 = 8 ∧ 8 ≤ x ∧ x ≤ 162 ∧ y = 1) ∨ (x % 22 = 8 ∧ 8 ≤ x ∧ x ≤ 162 ∧ y = 4) ∨ (x % 22 = 8 ∧ 8 ≤ x ∧ x ≤ 162 ∧ y = 5)) σ (sI s6 (8 + 22 * k_program) 1 (-1)) := frC.w hF6 (by show (8 ≤ (8 + 22 * k_program) ∧ (8 + 22 * k_program) ≤ 183 ∧ ((8 + 22 * k_program) - 8) % 22 = 19) ∨ (8 ≤ (8 + 22 * k_program) ∧ (8 + 22 * k_program) ≤ 183 ∧ ((8 + 22 * k_program) - 8) % 22 = 20) ∨ (8 ≤ (8 + 22 * k_program) ∧ (8 + 22 * k_program) ≤ 183 ∧ ((8 + 22 * k_program) - 8) % 22 = 21) ∨ ((8 + 22 * k_program) % 22 = 8 ∧ 8 ≤ (8 + 22 * k_program) ∧ (8 + 22 * k_program) ≤ 162 ∧ 1 = 1) ∨ ((8 + 22 * k_program) % 22 = 8 ∧ 8 ≤ (8 + 22 * k_program) ∧ (8 + 22 * k_program) ≤ 162 ∧ 1 = 4) ∨ ((8 + 22 * k_program) % 22 = 8 ∧ 8 ≤ (8 + 22 * k_program) ∧ (8 + 22 * k_program) ≤ 162 ∧ 1 = 5); exact Or.inr (Or.inr (Or.inr (Or.inl (by show (8 + 22 * k_program) % 22 = 8 ∧ 8 ≤ (8 + 22 * k_program) ∧ (8 + 22 * k_program) ≤ 162 ∧ 1 = 1; omega)))))
              refine lv_aload hx hb (dk1 dF_25 DX11_span (i := 31) rfl rfl rfl) (lv_at hl 0 rfl) ?_
              refine z_gi C0 hw (8 + 22 * k_program) 4 (fk_of (shp_8 k_program (by omega)) rfl) fl_X11_143 (dk2 dF_180 DX11_span (i := 32) rfl rfl rfl) ?_
              obtain ⟨v8, ev8⟩ : ∃ y : Int32, (sI s6 (8 + 22 * k_program) 1 (-1)).1 (8 + 22 * k_program) 4 = y := ⟨_, rfl⟩
              refine z_top (y := v8) ev8 ?_
              exact z_iret C0 hr hlk hw (⟨(hJ.upd (k := k_program) (by omega) hto1 hun1 hF7.2 ⟨f6_1.c (funext (fun y => ((rd_n (by omega)).trans rfl))) (funext (fun y => ((rd_n (by omega)).trans rfl))), ⟨zo, uo, ((rd_n (by have hd_ := pgot (8 + 22 * k_program) (pgm k_program (by omega)) t1 ht1; omega)).trans ((hG6.1 t1 1 (by show ¬ ((t1 = (8 + 22 * k_program) + 19) ∨ (t1 = (8 + 22 * k_program) + 20) ∨ (t1 = (8 + 22 * k_program) + 21) ∨ (t1 = 8 + 22 * k_program ∧ 1 = 4) ∨ (t1 = 8 + 22 * k_program ∧ 1 = 5)); intro h_; rcases h_ with h_ | h_ | h_ | h_ | h_; (· have hd_ := pgot (8 + 22 * k_program) (pgm k_program (by omega)) t1 ht1; omega); (· have hd_ := pgot (8 + 22 * k_program) (pgm k_program (by omega)) t1 ht1; omega); (· have hd_ := pgot (8 + 22 * k_program) (pgm k_program (by omega)) t1 ht1; omega); (· have hd_ := pgot (8 + 22 * k_program) (pgm k_program (by omega)) t1 ht1; omega); (· have hd_ := pgot (8 + 22 * k_program) (pgm k_program (by omega)) t1 ht1; omega))).trans rfl)).trans hzo, hzo24, hVo.c (fun x y hxy => ((rd_n (by have hd_ := pgot (8 + 22 * k_program) (pgm k_program (by omega)) t1 ht1; omega)).trans ((hG6.1 x y (by show ¬ ((x = (8 + 22 * k_program) + 19) ∨ (x = (8 + 22 * k_program) + 20) ∨ (x = (8 + 22 * k_program) + 21) ∨ (x = 8 + 22 * k_program ∧ y = 4) ∨ (x = 8 + 22 * k_program ∧ y = 5)); intro h_; rcases h_ with h_ | h_ | h_ | h_ | h_; (· have hd_ := pgot (8 + 22 * k_program) (pgm k_program (by omega)) t1 ht1; omega); (· have hd_ := pgot (8 + 22 * k_program) (pgm k_program (by omega)) t1 ht1; omega); (· have hd_ := pgot (8 + 22 * k_program) (pgm k_program (by omega)) t1 ht1; omega); (· have hd_ := pgot (8 + 22 * k_program) (pgm k_program (by omega)) t1 ht1; omega); (· have hd_ := pgot (8 + 22 * k_program) (pgm k_program (by omega)) t1 ht1; omega))).trans rfl)))⟩, zn, un, K_, ((rd_n (by have hd_ := pgnt (8 + 22 * k_program) (pgm k_program (by omega)) u1 hu1; omega)).trans ((hG6.1 u1 3 (by show ¬ ((u1 = (8 + 22 * k_program) + 19) ∨ (u1 = (8 + 22 * k_program) + 20) ∨ (u1 = (8 + 22 * k_program) + 21) ∨ (u1 = 8 + 22 * k_program ∧ 3 = 4) ∨ (u1 = 8 + 22 * k_program ∧ 3 = 5)); intro h_; rcases h_ with h_ | h_ | h_ | h_ | h_; (· have hd_ := pgnt (8 + 22 * k_program) (pgm k_program (by omega)) u1 hu1; omega); (· have hd_ := pgnt (8 + 22 * k_program) (pgm k_program (by omega)) u1 hu1; omega); (· have hd_ := pgnt (8 + 22 * k_program) (pgm k_program (by omega)) u1 hu1; omega); (· have hd_ := pgnt (8 + 22 * k_program) (pgm k_program (by omega)) u1 hu1; omega); (· have hd_ := pgnt (8 + 22 * k_program) (pgm k_program (by omega)) u1 hu1; omega))).trans rfl)).trans hzn, hzn40, hVn.c (fun x y hxy => ((rd_n (by have hd_ := pgnt (8 + 22 * k_program) (pgm k_program (by omega)) u1 hu1; omega)).trans ((hG6.1 x y (by show ¬ ((x = (8 + 22 * k_program) + 19) ∨ (x = (8 + 22 * k_program) + 20) ∨ (x = (8 + 22 * k_program) + 21) ∨ (x = 8 + 22 * k_program ∧ y = 4) ∨ (x = 8 + 22 * k_program ∧ y = 5)); intro h_; rcases h_ with h_ | h_ | h_ | h_ | h_; (· have hd_ := pgnt (8 + 22 * k_program) (pgm k_program (by omega)) u1 hu1; omega); (· have hd_ := pgnt (8 + 22 * k_program) (pgm k_program (by omega)) u1 hu1; omega); (· have hd_ := pgnt (8 + 22 * k_program) (pgm k_program (by omega)) u1 hu1; omega); (· have hd_ := pgnt (8 + 22 * k_program) (pgm k_program (by omega)) u1 hu1; omega); (· have hd_ := pgnt (8 + 22 * k_program) (pgm k_program (by omega)) u1 hu1; omega))).trans rfl)))⟩ (fun x y hj => by by_cases hx_ : 8 + 22 * k_program + 20 ≤ x ∧ x ≤ 8 + 22 * k_program + 21; (· exact Or.inr (Or.inl hx_)); (· have hj2 := hj; unfold jcq at hj2; exact Or.inl ((rd_n (by have hd_ := hj2; omega)).trans ((hG6.1 x y (by show ¬ ((x = (8 + 22 * k_program) + 19) ∨ (x = (8 + 22 * k_program) + 20) ∨ (x = (8 + 22 * k_program) + 21) ∨ (x = 8 + 22 * k_program ∧ y = 4) ∨ (x = 8 + 22 * k_program ∧ y = 5)); intro h_; rcases h_ with h_ | h_ | h_ | h_ | h_; (· have hd_ := hj2; omega); (· have hd_ := hj2; omega); (· have hd_ := hj2; omega); (· have hd_ := hj2; omega); (· have hd_ := hj2; omega))).trans rfl))))), hT7, hF7⟩) (dkP dF_172 DX11_span (i := 33) rfl rfl)
            · skip
              refine lv_if_ne (tgt := 60) hx hb (dkS dF_154 DX11_span (i := 25) rfl rfl rfl) (by decide) (fun h => absurd h (by decide)) (fun _ => ?_)
              refine lv_bipush (v := (-3)) hx hb (dks dF_16 DX11_span (i := 26) rfl rfl rfl) (by decide) ?_
              exact z_iret C0 hr hlk hw (⟨(hJ.upd (k := k_program) (by omega) hto1 hun1 hF6.2 ⟨f6_1, ⟨zo, uo, ((hG6.1 t1 1 (by show ¬ ((t1 = (8 + 22 * k_program) + 19) ∨ (t1 = (8 + 22 * k_program) + 20) ∨ (t1 = (8 + 22 * k_program) + 21) ∨ (t1 = 8 + 22 * k_program ∧ 1 = 4) ∨ (t1 = 8 + 22 * k_program ∧ 1 = 5)); intro h_; rcases h_ with h_ | h_ | h_ | h_ | h_; (· have hd_ := pgot (8 + 22 * k_program) (pgm k_program (by omega)) t1 ht1; omega); (· have hd_ := pgot (8 + 22 * k_program) (pgm k_program (by omega)) t1 ht1; omega); (· have hd_ := pgot (8 + 22 * k_program) (pgm k_program (by omega)) t1 ht1; omega); (· have hd_ := pgot (8 + 22 * k_program) (pgm k_program (by omega)) t1 ht1; omega); (· have hd_ := pgot (8 + 22 * k_program) (pgm k_program (by omega)) t1 ht1; omega))).trans rfl).trans hzo, hzo24, hVo.c (fun x y hxy => ((hG6.1 x y (by show ¬ ((x = (8 + 22 * k_program) + 19) ∨ (x = (8 + 22 * k_program) + 20) ∨ (x = (8 + 22 * k_program) + 21) ∨ (x = 8 + 22 * k_program ∧ y = 4) ∨ (x = 8 + 22 * k_program ∧ y = 5)); intro h_; rcases h_ with h_ | h_ | h_ | h_ | h_; (· have hd_ := pgot (8 + 22 * k_program) (pgm k_program (by omega)) t1 ht1; omega); (· have hd_ := pgot (8 + 22 * k_program) (pgm k_program (by omega)) t1 ht1; omega); (· have hd_ := pgot (8 + 22 * k_program) (pgm k_program (by omega)) t1 ht1; omega); (· have hd_ := pgot (8 + 22 * k_program) (pgm k_program (by omega)) t1 ht1; omega); (· have hd_ := pgot (8 + 22 * k_program) (pgm k_program (by omega)) t1 ht1; omega))).trans rfl))⟩, zn, un, K_, ((hG6.1 u1 3 (by show ¬ ((u1 = (8 + 22 * k_program) + 19) ∨ (u1 = (8 + 22 * k_program) + 20) ∨ (u1 = (8 + 22 * k_program) + 21) ∨ (u1 = 8 + 22 * k_program ∧ 3 = 4) ∨ (u1 = 8 + 22 * k_program ∧ 3 = 5)); intro h_; rcases h_ with h_ | h_ | h_ | h_ | h_; (· have hd_ := pgnt (8 + 22 * k_program) (pgm k_program (by omega)) u1 hu1; omega); (· have hd_ := pgnt (8 + 22 * k_program) (pgm k_program (by omega)) u1 hu1; omega); (· have hd_ := pgnt (8 + 22 * k_program) (pgm k_program (by omega)) u1 hu1; omega); (· have hd_ := pgnt (8 + 22 * k_program) (pgm k_program (by omega)) u1 hu1; omega); (· have hd_ := pgnt (8 + 22 * k_program) (pgm k_program (by omega)) u1 hu1; omega))).trans rfl).trans hzn, hzn40, hVn.c (fun x y hxy => ((hG6.1 x y (by show ¬ ((x = (8 + 22 * k_program) + 19) ∨ (x = (8 + 22 * k_program) + 20) ∨ (x = (8 + 22 * k_program) + 21) ∨ (x = 8 + 22 * k_program ∧ y = 4) ∨ (x = 8 + 22 * k_program ∧ y = 5)); intro h_; rcases h_ with h_ | h_ | h_ | h_ | h_; (· have hd_ := pgnt (8 + 22 * k_program) (pgm k_program (by omega)) u1 hu1; omega); (· have hd_ := pgnt (8 + 22 * k_program) (pgm k_program (by omega)) u1 hu1; omega); (· have hd_ := pgnt (8 + 22 * k_program) (pgm k_program (by omega)) u1 hu1; omega); (· have hd_ := pgnt (8 + 22 * k_program) (pgm k_program (by omega)) u1 hu1; omega); (· have hd_ := pgnt (8 + 22 * k_program) (pgm k_program (by omega)) u1 hu1; omega))).trans rfl))⟩ (fun x y hj => by by_cases hx_ : 8 + 22 * k_program + 20 ≤ x ∧ x ≤ 8 + 22 * k_program + 21; (· exact Or.inr (Or.inl hx_)); (· have hj2 := hj; unfold jcq at hj2; exact Or.inl ((hG6.1 x y (by show ¬ ((x = (8 + 22 * k_program) + 19) ∨ (x = (8 + 22 * k_program) + 20) ∨ (x = (8 + 22 * k_program) + 21) ∨ (x = 8 + 22 * k_program ∧ y = 4) ∨ (x = 8 + 22 * k_program ∧ y = 5)); intro h_; rcases h_ with h_ | h_ | h_ | h_ | h_; (· have hd_ := hj2; omega); (· have hd_ := hj2; omega); (· have hd_ := hj2; omega); (· have hd_ := hj2; omega); (· have hd_ := hj2; omega))).trans rfl)))), hT6, hF6⟩) (dkP dF_172 DX11_span (i := 27) rfl rfl)
          · skip
            (try simp (disch := omega) only [ta_lt, ta_le, ta_eq, tb_lt, tb_le, tb_eq, tw, tnI, tn32 3 (by decide), tnj 3 (by decide), tn32 2 (by decide), tnj 2 (by decide), tn32 1 (by decide), tnj 1 (by decide), tl32 0 (by decide), tl64 0 (by decide)] at hc5)
            refine lv_if_ne (tgt := 45) hx hb (dkS dF_154 DX11_span (i := 17) rfl rfl rfl) (by decide) (fun h => absurd h (by decide)) (fun _ => ?_)
            refine lv_bipush (v := (-2)) hx hb (dks dF_16 DX11_span (i := 18) rfl rfl rfl) (by decide) ?_
            exact z_iret C0 hr hlk hw (⟨hJ, hT, frC.refl⟩) (dkP dF_172 DX11_span (i := 19) rfl rfl)
        · skip
          (try simp (disch := omega) only [ta_lt, ta_le, ta_eq, tb_lt, tb_le, tb_eq, tw, tnI, tn32 3 (by decide), tnj 3 (by decide), tn32 2 (by decide), tnj 2 (by decide), tn32 1 (by decide), tnj 1 (by decide), tl32 0 (by decide), tl64 0 (by decide)] at hc4)
          refine lv_if_eq (tgt := 42) hx hb (dkS dF_153 DX11_span (i := 14) rfl rfl rfl) (by decide) (fun _ => ?_) (fun h => absurd h (by decide))
          refine lv_bipush (v := (-2)) hx hb (dks dF_16 DX11_span (i := 18) rfl rfl rfl) (by decide) ?_
          exact z_iret C0 hr hlk hw (⟨hJ, hT, frC.refl⟩) (dkP dF_172 DX11_span (i := 19) rfl rfl)
      · skip
        (try simp (disch := omega) only [ta_lt, ta_le, ta_eq, tb_lt, tb_le, tb_eq, tw, tnI, tn32 3 (by decide), tnj 3 (by decide), tn32 2 (by decide), tnj 2 (by decide), tn32 1 (by decide), tnj 1 (by decide), tl32 0 (by decide), tl64 0 (by decide)] at hc3)
        refine lv_if_eq (tgt := 42) hx hb (dkS dF_153 DX11_span (i := 11) rfl rfl rfl) (by decide) (fun _ => ?_) (fun h => absurd h (by decide))
        refine lv_bipush (v := (-2)) hx hb (dks dF_16 DX11_span (i := 18) rfl rfl rfl) (by decide) ?_
        exact z_iret C0 hr hlk hw (⟨hJ, hT, frC.refl⟩) (dkP dF_172 DX11_span (i := 19) rfl rfl)
    · skip
      refine lv_if_eq (tgt := 42) hx hb (dkS dF_153 DX11_span (i := 8) rfl rfl rfl) (by decide) (fun _ => ?_) (fun h => absurd h (by decide))
      refine lv_bipush (v := (-2)) hx hb (dks dF_16 DX11_span (i := 18) rfl rfl rfl) (by decide) ?_
      exact z_iret C0 hr hlk hw (⟨hJ, hT, frC.refl⟩) (dkP dF_172 DX11_span (i := 19) rfl rfl)
set_option maxRecDepth 100000 in
set_option maxHeartbeats 8000000 in
theorem c_X11_run (l : Launch) (G : va_G) (kc : KC) (ad : Nat → Nat) (σ : Sg) (program : Int32) (inp : Int32) (hJ : JC σ) (hT : TC σ) : MI l G kc yX11_run cX11_run 4 (some .int) 4 97 [.ref (ad 0), .int program, .int inp] shC ad σ (fun r σ1 => (JC σ1) ∧ TC σ1 ∧ frC (fun x y => (x = 0 ∧ y = 9) ∨ (x = 210 ∧ y = 4) ∨ (x = 210 ∧ y = 5) ∨ (x = 210 ∧ y = 6) ∨ (x = 210 ∧ y = 8) ∨ (x = 211) ∨ (x = 213) ∨ (x = 214) ∨ (x = 227)) σ σ1) := by
  intro sz
  refine z_body (y := yX11_run) (n := 4) (av := [.ref (ad 0), .int program, .int inp]) (Qc := fun A => va_Qi (fun r σ1 => (JC σ1) ∧ TC σ1 ∧ frC (fun x y => (x = 0 ∧ y = 9) ∨ (x = 210 ∧ y = 4) ∨ (x = 210 ∧ y = 5) ∨ (x = 210 ∧ y = 6) ∨ (x = 210 ∧ y = 8) ∨ (x = 211) ∨ (x = 213) ∨ (x = 214) ∨ (x = 227)) σ σ1) (PoC G kc shC ad A) A) (plainFor_of_name (by decide)) (Nat.le_of_ble_eq_true rfl) (fun pr e s m below meth c A C0 hr hlk hnm hw hRo ls hl => ?_) sz
  have hx := C0.1
  have hb := C0.2.1
  have hown := C0.2.2.2.1
  have hts := C0.2.2.2.2.1
  have hl : lv_has ls 4 [(0, .ref (ad 0)), (1, .int program), (2, .int inp)] := hl
  obtain ⟨t, u, hto, ht, hun, hu⟩ := hJ.rdr
  obtain ⟨wa, wb, hwa_, hwa, hwb_, hwb, hwab⟩ := hJ.wts
  refine lv_aload_n hx hb (dkP dF_42 DX11_run (i := 0) rfl rfl) rfl (lv_at hl 0 rfl) ?_
  refine lv_iload_n hx hb (dkP dF_27 DX11_run (i := 1) rfl rfl) rfl (lv_at hl 1 rfl) ?_
  refine zk_R hw (zr_V (As := [.int program]) (rest := []) C0 (c_X11_programAt l G kc ad σ program  _) cv_X11_programAt lk_X11_84 (zp_V C0 hRo hw 0 shc_0 rfl rfl) rfl hl.1 rfl ⟨by decide, by decide⟩ (Nat.le_of_ble_eq_true rfl) (dk2 dF_182 DX11_run (i := 2) rfl rfl rfl) ⟨Nat.le_refl _, Nat.le_refl _⟩) (fun r1 s1 H locs hp hw => ?_)
  obtain ⟨hq1, hs1⟩ := hp
  (rw [hs1] at hw)
  rcases hq1 with ⟨hc1, rfl⟩ | ⟨k_program, hk_program, rfl, rfl⟩
  · skip
    refine lv_astore_nN (lv' := [(3, .null), (0, .ref (ad 0)), (1, .int program), (2, .int inp)]) hx hb (dkP dF_78 DX11_run (i := 3) rfl rfl) rfl hl (by decide) rfl (fun ls hl => ?_)
    refine lv_aload_nN hx hb (dkP dF_45 DX11_run (i := 4) rfl rfl) rfl (lv_at hl 0 rfl) ?_
    refine lv_ifnullN (tgt := 28) hx hb (dkS dF_198 DX11_run (i := 5) rfl rfl rfl) (by decide) ?_
    refine lv_bipush (v := (-2)) hx hb (dks dF_16 DX11_run (i := 14) rfl rfl rfl) (by decide) ?_
    exact z_iret C0 hr hlk hw (⟨hJ, hT, frC.refl⟩) (dkP dF_172 DX11_run (i := 15) rfl rfl)
  · skip
    obtain ⟨t1, u1, hto1, ht1, hun1, hu1, hVP⟩ := hJ.prog hk_program
    obtain ⟨hLH, ⟨zo, uo, hzo, hzo24, hVo⟩, zn, un, K_, hzn, hzn40, hVn⟩ := id hVP
    refine lv_astore_n (lv' := [(3, .ref (ad (8 + 22 * k_program))), (0, .ref (ad 0)), (1, .int (nI k_program)), (2, .int inp)]) hx hb (dkP dF_78 DX11_run (i := 3) rfl rfl) rfl hl (by decide) rfl (fun ls hl => ?_)
    refine lv_aload_n hx hb (dkP dF_45 DX11_run (i := 4) rfl rfl) rfl (lv_at hl 0 rfl) ?_
    refine lv_ifnull hx hb (dkS dF_198 DX11_run (i := 5) rfl rfl rfl) ?_
    refine lv_aload_n hx hb (dkP dF_45 DX11_run (i := 6) rfl rfl) rfl (lv_at hl 0 rfl) ?_
    refine z_gms C0 hw (8 + 22 * k_program) 2 t1 hto1 (fk_of (shp_8 k_program (by omega)) rfl) fl_X11_97 (dk2 dF_180 DX11_run (i := 7) rfl rfl rfl) ?_
    refine z_gi C0 hw t1 0 (fk_of (shl_ot_0 t1 ht1) rfl) fl_X11_146 (dk2 dF_180 DX11_run (i := 8) rfl rfl rfl) ?_
    obtain ⟨n2, hn2, en2⟩ := rngN (x := σ.1 t1 0) (h := 1) (tcr_1_0 hT (tck_ot_0 t1 ht1))
    refine z_top (y := nI n2) en2 ?_
    refine lv_if_eq (tgt := 28) hx hb (dkS dF_153 DX11_run (i := 9) rfl rfl rfl) (by decide) (fun c3 => ?_) (fun c3 => ?_)
    · simp (disch := omega) only [ta_lt, ta_le, ta_eq, tnI, tl32 0 (by decide)] at c3
      refine lv_bipush (v := (-2)) hx hb (dks dF_16 DX11_run (i := 14) rfl rfl rfl) (by decide) ?_
      exact z_iret C0 hr hlk hw (⟨hJ, hT, frC.refl⟩) (dkP dF_172 DX11_run (i := 15) rfl rfl)
    · simp (disch := omega) only [ta_lt, ta_le, ta_eq, tnI, tl32 0 (by decide)] at c3
      refine lv_aload_n hx hb (dkP dF_45 DX11_run (i := 10) rfl rfl) rfl (lv_at hl 0 rfl) ?_
      refine lv_iload_n hx hb (dkP dF_28 DX11_run (i := 11) rfl rfl) rfl (lv_at hl 3 rfl) ?_
      refine zk_I hw (zr_V (As := [.int inp]) (rest := []) C0 (c_X4_hasInput l G kc ad σ (8 + 22 * k_program) inp (pgm k_program (by omega)) hT _) cv_X4_hasInput lk_X11_150 (zp_V C0 hRo hw (8 + 22 * k_program) (shp_8 k_program (by omega)) rfl rfl) rfl hl.1 rfl ⟨by decide, by decide⟩ (Nat.le_of_ble_eq_true rfl) (dk2 dF_182 DX11_run (i := 12) rfl rfl rfl) ⟨Nat.le_refl _, Nat.le_refl _⟩) (fun r4 s4 H locs hp hw => ?_)
      obtain ⟨f4_0, hs4⟩ := hp
      (rw [hs4] at hw)
      rcases f4_0 with ⟨rfl, hc4⟩ | ⟨rfl, hc4⟩
      · skip
        refine lv_if_ne (tgt := 31) hx hb (dkS dF_154 DX11_run (i := 13) rfl rfl rfl) (by decide) (fun _ => ?_) (fun h => absurd h (by decide))
        refine lv_aload_n hx hb (dkP dF_42 DX11_run (i := 16) rfl rfl) rfl (lv_at hl 1 rfl) ?_
        refine z_gr C0 hw 0 4 210 (fk_of shc_0 rfl) fl_X11_34 (dk2 dF_180 DX11_run (i := 17) rfl rfl rfl) ?_
        refine lv_aload_n hx hb (dkP dF_45 DX11_run (i := 18) rfl rfl) rfl (lv_at hl 0 rfl) ?_
        refine lv_iload_n hx hb (dkP dF_28 DX11_run (i := 19) rfl rfl) rfl (lv_at hl 3 rfl) ?_
        refine zk_V hw (zr_V (As := [.ref (ad (8 + 22 * k_program)), .int inp]) (rest := []) C0 (c_X0_goOld l G kc ad σ 210 (8 + 22 * k_program) inp (by decide) (pgm k_program (by omega)) ht1 hto1 hLH hzo hzo24 hVo hT _) cv_X0_goOld lk_X11_153 (zp_V C0 hRo hw 210 shc_210 rfl rfl) rfl hl.1 rfl ⟨by decide, by decide⟩ (Nat.le_of_ble_eq_true rfl) (dk2 dF_182 DX11_run (i := 20) rfl rfl rfl) ⟨Nat.le_refl _, Nat.le_refl _⟩) (fun s5 H locs hp hw => ?_)
        obtain ⟨f5_0, hT5, hG5⟩ := hp
        have hF5 : frC (fun x y => (x = 0 ∧ y = 9) ∨ (x = 210 ∧ y = 4) ∨ (x = 210 ∧ y = 5) ∨ (x = 210 ∧ y = 6) ∨ (x = 210 ∧ y = 8) ∨ (x = 211) ∨ (x = 213) ∨ (x = 214) ∨ (x = 227)) σ s5 := frC.t frC.refl hG5 (fun x y h => by have h : (x = 210 + 1) ∨ (x = 210 + 3) ∨ (x = 210 + 4) ∨ (x = 210 ∧ y = 4) ∨ (x = 210 ∧ y = 5) ∨ (x = 210 ∧ y = 6) ∨ (x = 210 ∧ y = 8) := h; show (x = 0 ∧ y = 9) ∨ (x = 210 ∧ y = 4) ∨ (x = 210 ∧ y = 5) ∨ (x = 210 ∧ y = 6) ∨ (x = 210 ∧ y = 8) ∨ (x = 211) ∨ (x = 213) ∨ (x = 214) ∨ (x = 227); rcases h with h | h | h | h | h | h | h; (· omega); (· omega); (· omega); (· exact Or.inr (Or.inl h)); (· exact Or.inr (Or.inr (Or.inl h))); (· exact Or.inr (Or.inr (Or.inr (Or.inl h)))); (· exact Or.inr (Or.inr (Or.inr (Or.inr (Or.inl h))))))
        refine lv_aload_n hx hb (dkP dF_42 DX11_run (i := 21) rfl rfl) rfl (lv_at hl 1 rfl) ?_
        refine lv_aload_n hx hb (dkP dF_42 DX11_run (i := 22) rfl rfl) rfl (lv_at hl 1 rfl) ?_
        refine z_gr C0 hw 0 4 210 (fk_of shc_0 rfl) fl_X11_34 (dk2 dF_180 DX11_run (i := 23) rfl rfl rfl) ?_
        refine lv_aload_n hx hb (dkP dF_42 DX11_run (i := 24) rfl rfl) rfl (lv_at hl 1 rfl) ?_
        refine z_gr C0 hw 0 4 210 (fk_of shc_0 rfl) fl_X11_34 (dk2 dF_180 DX11_run (i := 25) rfl rfl rfl) ?_
        refine z_gi C0 hw 210 5 (fk_of shc_210 rfl) fl_X11_157 (dk2 dF_180 DX11_run (i := 26) rfl rfl rfl) ?_
        obtain ⟨n6, hn6, en6⟩ := rngN (x := s5.1 210 5) (h := 100) (tcr_8_5 hT5 tcl_210)
        refine z_top (y := nI n6) en6 ?_
        refine zk_V hw (zr_V (As := [.ref (ad 210), .int (nI n6)]) (rest := []) C0 (c_X11_remember l G kc ad s5 210 (nI n6) (by decide) hT5 _) cv_X11_remember lk_X11_160 (zp_V C0 hRo hw 0 shc_0 rfl rfl) rfl hl.1 rfl ⟨by decide, by decide⟩ (Nat.le_of_ble_eq_true rfl) (dk2 dF_182 DX11_run (i := 27) rfl rfl rfl) ⟨Nat.le_refl _, Nat.le_refl _⟩) (fun s7 H locs hp hw => ?_)
        obtain ⟨hT7, hG7⟩ := hp
        have hF7 : frC (fun x y => (x = 0 ∧ y = 9) ∨ (x = 210 ∧ y = 4) ∨ (x = 210 ∧ y = 5) ∨ (x = 210 ∧ y = 6) ∨ (x = 210 ∧ y = 8) ∨ (x = 211) ∨ (x = 213) ∨ (x = 214) ∨ (x = 227)) σ s7 := frC.t hF5 hG7 (fun x y h => by have h : (x = 0 ∧ y = 9) ∨ (x = 227) := h; show (x = 0 ∧ y = 9) ∨ (x = 210 ∧ y = 4) ∨ (x = 210 ∧ y = 5) ∨ (x = 210 ∧ y = 6) ∨ (x = 210 ∧ y = 8) ∨ (x = 211) ∨ (x = 213) ∨ (x = 214) ∨ (x = 227); rcases h with h | h; (· exact Or.inl h); (· exact Or.inr (Or.inr (Or.inr (Or.inr (Or.inr (Or.inr (Or.inr (Or.inr (h))))))))))
        refine lv_aload_n hx hb (dkP dF_42 DX11_run (i := 28) rfl rfl) rfl (lv_at hl 1 rfl) ?_
        refine z_gr C0 hw 0 4 210 (fk_of shc_0 rfl) fl_X11_34 (dk2 dF_180 DX11_run (i := 29) rfl rfl rfl) ?_
        refine z_gi C0 hw 210 6 (fk_of shc_210 rfl) fl_X11_164 (dk2 dF_180 DX11_run (i := 30) rfl rfl rfl) ?_
        obtain ⟨v8, ev8⟩ : ∃ y : Int32, s7.1 210 6 = y := ⟨_, rfl⟩
        refine z_top (y := v8) ev8 ?_
        exact z_iret C0 hr hlk hw (⟨(hJ.fr hF7.2 (fun x y hj => hF7.1 x y (fun h_ => by have h_ : (x = 0 ∧ y = 9) ∨ (x = 210 ∧ y = 4) ∨ (x = 210 ∧ y = 5) ∨ (x = 210 ∧ y = 6) ∨ (x = 210 ∧ y = 8) ∨ (x = 211) ∨ (x = 213) ∨ (x = 214) ∨ (x = 227) := h_; unfold jcq at hj; rcases h_ with h_ | h_ | h_ | h_ | h_ | h_ | h_ | h_ | h_; (· omega); (· omega); (· omega); (· omega); (· omega); (· omega); (· omega); (· omega); (· omega)))), hT7, hF7⟩) (dkP dF_172 DX11_run (i := 31) rfl rfl)
      · skip
        refine lv_if_ne (tgt := 31) hx hb (dkS dF_154 DX11_run (i := 13) rfl rfl rfl) (by decide) (fun h => absurd h (by decide)) (fun _ => ?_)
        refine lv_bipush (v := (-2)) hx hb (dks dF_16 DX11_run (i := 14) rfl rfl rfl) (by decide) ?_
        exact z_iret C0 hr hlk hw (⟨hJ, hT, frC.refl⟩) (dkP dF_172 DX11_run (i := 15) rfl rfl)
set_option maxRecDepth 100000 in
set_option maxHeartbeats 8000000 in
theorem c_X11_runNew (l : Launch) (G : va_G) (kc : KC) (ad : Nat → Nat) (σ : Sg) (program : Int32) (inp : Int32) (hJ : JC σ) (hT : TC σ) : MI l G kc yX11_runNew cX11_runNew 4 (some .int) 4 98 [.ref (ad 0), .int program, .int inp] shC ad σ (fun r σ1 => (JC σ1) ∧ TC σ1 ∧ frC (fun x y => (x = 0 ∧ y = 9) ∨ (x = 215 ∧ y = 4) ∨ (x = 215 ∧ y = 5) ∨ (x = 215 ∧ y = 6) ∨ (x = 215 ∧ y = 7) ∨ (x = 215 ∧ y = 8) ∨ (x = 216) ∨ (x = 217) ∨ (x = 218) ∨ (x = 219) ∨ (x = 227)) σ σ1) := by
  intro sz
  refine z_body (y := yX11_runNew) (n := 4) (av := [.ref (ad 0), .int program, .int inp]) (Qc := fun A => va_Qi (fun r σ1 => (JC σ1) ∧ TC σ1 ∧ frC (fun x y => (x = 0 ∧ y = 9) ∨ (x = 215 ∧ y = 4) ∨ (x = 215 ∧ y = 5) ∨ (x = 215 ∧ y = 6) ∨ (x = 215 ∧ y = 7) ∨ (x = 215 ∧ y = 8) ∨ (x = 216) ∨ (x = 217) ∨ (x = 218) ∨ (x = 219) ∨ (x = 227)) σ σ1) (PoC G kc shC ad A) A) (plainFor_of_name (by decide)) (Nat.le_of_ble_eq_true rfl) (fun pr e s m below meth c A C0 hr hlk hnm hw hRo ls hl => ?_) sz
  have hx := C0.1
  have hb := C0.2.1
  have hown := C0.2.2.2.1
  have hts := C0.2.2.2.2.1
  have hl : lv_has ls 4 [(0, .ref (ad 0)), (1, .int program), (2, .int inp)] := hl
  obtain ⟨t, u, hto, ht, hun, hu⟩ := hJ.rdr
  obtain ⟨wa, wb, hwa_, hwa, hwb_, hwb, hwab⟩ := hJ.wts
  refine lv_aload_n hx hb (dkP dF_42 DX11_runNew (i := 0) rfl rfl) rfl (lv_at hl 0 rfl) ?_
  refine lv_iload_n hx hb (dkP dF_27 DX11_runNew (i := 1) rfl rfl) rfl (lv_at hl 1 rfl) ?_
  refine zk_R hw (zr_V (As := [.int program]) (rest := []) C0 (c_X11_programAt l G kc ad σ program  _) cv_X11_programAt lk_X11_84 (zp_V C0 hRo hw 0 shc_0 rfl rfl) rfl hl.1 rfl ⟨by decide, by decide⟩ (Nat.le_of_ble_eq_true rfl) (dk2 dF_182 DX11_runNew (i := 2) rfl rfl rfl) ⟨Nat.le_refl _, Nat.le_refl _⟩) (fun r1 s1 H locs hp hw => ?_)
  obtain ⟨hq1, hs1⟩ := hp
  (rw [hs1] at hw)
  rcases hq1 with ⟨hc1, rfl⟩ | ⟨k_program, hk_program, rfl, rfl⟩
  · skip
    refine lv_astore_nN (lv' := [(3, .null), (0, .ref (ad 0)), (1, .int program), (2, .int inp)]) hx hb (dkP dF_78 DX11_runNew (i := 3) rfl rfl) rfl hl (by decide) rfl (fun ls hl => ?_)
    refine lv_aload_nN hx hb (dkP dF_45 DX11_runNew (i := 4) rfl rfl) rfl (lv_at hl 0 rfl) ?_
    refine lv_ifnullN (tgt := 28) hx hb (dkS dF_198 DX11_runNew (i := 5) rfl rfl rfl) (by decide) ?_
    refine lv_bipush (v := (-2)) hx hb (dks dF_16 DX11_runNew (i := 14) rfl rfl rfl) (by decide) ?_
    exact z_iret C0 hr hlk hw (⟨hJ, hT, frC.refl⟩) (dkP dF_172 DX11_runNew (i := 15) rfl rfl)
  · skip
    obtain ⟨t1, u1, hto1, ht1, hun1, hu1, hVP⟩ := hJ.prog hk_program
    obtain ⟨hLH, ⟨zo, uo, hzo, hzo24, hVo⟩, zn, un, K_, hzn, hzn40, hVn⟩ := id hVP
    refine lv_astore_n (lv' := [(3, .ref (ad (8 + 22 * k_program))), (0, .ref (ad 0)), (1, .int (nI k_program)), (2, .int inp)]) hx hb (dkP dF_78 DX11_runNew (i := 3) rfl rfl) rfl hl (by decide) rfl (fun ls hl => ?_)
    refine lv_aload_n hx hb (dkP dF_45 DX11_runNew (i := 4) rfl rfl) rfl (lv_at hl 0 rfl) ?_
    refine lv_ifnull hx hb (dkS dF_198 DX11_runNew (i := 5) rfl rfl rfl) ?_
    refine lv_aload_n hx hb (dkP dF_45 DX11_runNew (i := 6) rfl rfl) rfl (lv_at hl 0 rfl) ?_
    refine z_gms C0 hw (8 + 22 * k_program) 3 u1 hun1 (fk_of (shp_8 k_program (by omega)) rfl) fl_X11_117 (dk2 dF_180 DX11_runNew (i := 7) rfl rfl rfl) ?_
    refine z_gi C0 hw u1 0 (fk_of (shl_nt_0 u1 hu1) rfl) fl_X11_167 (dk2 dF_180 DX11_runNew (i := 8) rfl rfl rfl) ?_
    obtain ⟨n2, hn2, en2⟩ := rngN (x := σ.1 u1 0) (h := 1) (tcr_2_0 hT (tck_nt_0 u1 hu1))
    refine z_top (y := nI n2) en2 ?_
    refine lv_if_eq (tgt := 28) hx hb (dkS dF_153 DX11_runNew (i := 9) rfl rfl rfl) (by decide) (fun c3 => ?_) (fun c3 => ?_)
    · simp (disch := omega) only [ta_lt, ta_le, ta_eq, tnI, tl32 0 (by decide)] at c3
      refine lv_bipush (v := (-2)) hx hb (dks dF_16 DX11_runNew (i := 14) rfl rfl rfl) (by decide) ?_
      exact z_iret C0 hr hlk hw (⟨hJ, hT, frC.refl⟩) (dkP dF_172 DX11_runNew (i := 15) rfl rfl)
    · simp (disch := omega) only [ta_lt, ta_le, ta_eq, tnI, tl32 0 (by decide)] at c3
      refine lv_aload_n hx hb (dkP dF_45 DX11_runNew (i := 10) rfl rfl) rfl (lv_at hl 0 rfl) ?_
      refine lv_iload_n hx hb (dkP dF_28 DX11_runNew (i := 11) rfl rfl) rfl (lv_at hl 3 rfl) ?_
      refine zk_I hw (zr_V (As := [.int inp]) (rest := []) C0 (c_X4_hasInput l G kc ad σ (8 + 22 * k_program) inp (pgm k_program (by omega)) hT _) cv_X4_hasInput lk_X11_150 (zp_V C0 hRo hw (8 + 22 * k_program) (shp_8 k_program (by omega)) rfl rfl) rfl hl.1 rfl ⟨by decide, by decide⟩ (Nat.le_of_ble_eq_true rfl) (dk2 dF_182 DX11_runNew (i := 12) rfl rfl rfl) ⟨Nat.le_refl _, Nat.le_refl _⟩) (fun r4 s4 H locs hp hw => ?_)
      obtain ⟨f4_0, hs4⟩ := hp
      (rw [hs4] at hw)
      rcases f4_0 with ⟨rfl, hc4⟩ | ⟨rfl, hc4⟩
      · skip
        refine lv_if_ne (tgt := 31) hx hb (dkS dF_154 DX11_runNew (i := 13) rfl rfl rfl) (by decide) (fun _ => ?_) (fun h => absurd h (by decide))
        refine lv_aload_n hx hb (dkP dF_42 DX11_runNew (i := 16) rfl rfl) rfl (lv_at hl 1 rfl) ?_
        refine z_gr C0 hw 0 5 215 (fk_of shc_0 rfl) fl_X11_38 (dk2 dF_180 DX11_runNew (i := 17) rfl rfl rfl) ?_
        refine lv_aload_n hx hb (dkP dF_45 DX11_runNew (i := 18) rfl rfl) rfl (lv_at hl 0 rfl) ?_
        refine lv_iload_n hx hb (dkP dF_28 DX11_runNew (i := 19) rfl rfl) rfl (lv_at hl 3 rfl) ?_
        refine zk_V hw (zr_V (As := [.ref (ad (8 + 22 * k_program)), .int inp]) (rest := []) C0 (c_X0_goNew l G kc ad σ 215 (8 + 22 * k_program) inp (by decide) (pgm k_program (by omega)) ht1 hu1 hto1 hun1 hLH hzo hzo24 hVo hzn hzn40 hVn hT _) cv_X0_goNew lk_X11_168 (zp_V C0 hRo hw 215 shc_215 rfl rfl) rfl hl.1 rfl ⟨by decide, by decide⟩ (Nat.le_of_ble_eq_true rfl) (dk2 dF_182 DX11_runNew (i := 20) rfl rfl rfl) ⟨Nat.le_refl _, Nat.le_refl _⟩) (fun s5 H locs hp hw => ?_)
        obtain ⟨hT5, hG5⟩ := hp
        have hF5 : frC (fun x y => (x = 0 ∧ y = 9) ∨ (x = 215 ∧ y = 4) ∨ (x = 215 ∧ y = 5) ∨ (x = 215 ∧ y = 6) ∨ (x = 215 ∧ y = 7) ∨ (x = 215 ∧ y = 8) ∨ (x = 216) ∨ (x = 217) ∨ (x = 218) ∨ (x = 219) ∨ (x = 227)) σ s5 := frC.t frC.refl hG5 (fun x y h => by have h : (x = 215 + 1) ∨ (x = 215 + 2) ∨ (x = 215 + 3) ∨ (x = 215 + 4) ∨ (x = 215 ∧ y = 4) ∨ (x = 215 ∧ y = 5) ∨ (x = 215 ∧ y = 6) ∨ (x = 215 ∧ y = 7) ∨ (x = 215 ∧ y = 8) := h; show (x = 0 ∧ y = 9) ∨ (x = 215 ∧ y = 4) ∨ (x = 215 ∧ y = 5) ∨ (x = 215 ∧ y = 6) ∨ (x = 215 ∧ y = 7) ∨ (x = 215 ∧ y = 8) ∨ (x = 216) ∨ (x = 217) ∨ (x = 218) ∨ (x = 219) ∨ (x = 227); rcases h with h | h | h | h | h | h | h | h | h; (· omega); (· omega); (· omega); (· omega); (· exact Or.inr (Or.inl h)); (· exact Or.inr (Or.inr (Or.inl h))); (· exact Or.inr (Or.inr (Or.inr (Or.inl h)))); (· exact Or.inr (Or.inr (Or.inr (Or.inr (Or.inl h))))); (· exact Or.inr (Or.inr (Or.inr (Or.inr (Or.inr (Or.inl h)))))))
        refine lv_aload_n hx hb (dkP dF_42 DX11_runNew (i := 21) rfl rfl) rfl (lv_at hl 1 rfl) ?_
        refine lv_aload_n hx hb (dkP dF_42 DX11_runNew (i := 22) rfl rfl) rfl (lv_at hl 1 rfl) ?_
        refine z_gr C0 hw 0 5 215 (fk_of shc_0 rfl) fl_X11_38 (dk2 dF_180 DX11_runNew (i := 23) rfl rfl rfl) ?_
        refine lv_aload_n hx hb (dkP dF_42 DX11_runNew (i := 24) rfl rfl) rfl (lv_at hl 1 rfl) ?_
        refine z_gr C0 hw 0 5 215 (fk_of shc_0 rfl) fl_X11_38 (dk2 dF_180 DX11_runNew (i := 25) rfl rfl rfl) ?_
        refine z_gi C0 hw 215 7 (fk_of shc_215 rfl) fl_X11_171 (dk2 dF_180 DX11_runNew (i := 26) rfl rfl rfl) ?_
        obtain ⟨v6, ev6⟩ : ∃ y : Int32, s5.1 215 7 = y := ⟨_, rfl⟩
        have hv6 : -1 ≤ v6.toInt ∧ v6.toInt ≤ 39 := by rw [← ev6]; exact (tcr_8_7 hT5 tcl_215)
        refine z_top (y := v6) ev6 ?_
        refine zk_V hw (zr_V (As := [.ref (ad 215), .int v6]) (rest := []) C0 (c_X11_remember l G kc ad s5 215 v6 (by decide) hT5 _) cv_X11_remember lk_X11_160 (zp_V C0 hRo hw 0 shc_0 rfl rfl) rfl hl.1 rfl ⟨by decide, by decide⟩ (Nat.le_of_ble_eq_true rfl) (dk2 dF_182 DX11_runNew (i := 27) rfl rfl rfl) ⟨Nat.le_refl _, Nat.le_refl _⟩) (fun s7 H locs hp hw => ?_)
        obtain ⟨hT7, hG7⟩ := hp
        have hF7 : frC (fun x y => (x = 0 ∧ y = 9) ∨ (x = 215 ∧ y = 4) ∨ (x = 215 ∧ y = 5) ∨ (x = 215 ∧ y = 6) ∨ (x = 215 ∧ y = 7) ∨ (x = 215 ∧ y = 8) ∨ (x = 216) ∨ (x = 217) ∨ (x = 218) ∨ (x = 219) ∨ (x = 227)) σ s7 := frC.t hF5 hG7 (fun x y h => by have h : (x = 0 ∧ y = 9) ∨ (x = 227) := h; show (x = 0 ∧ y = 9) ∨ (x = 215 ∧ y = 4) ∨ (x = 215 ∧ y = 5) ∨ (x = 215 ∧ y = 6) ∨ (x = 215 ∧ y = 7) ∨ (x = 215 ∧ y = 8) ∨ (x = 216) ∨ (x = 217) ∨ (x = 218) ∨ (x = 219) ∨ (x = 227); rcases h with h | h; (· exact Or.inl h); (· exact Or.inr (Or.inr (Or.inr (Or.inr (Or.inr (Or.inr (Or.inr (Or.inr (Or.inr (Or.inr (h))))))))))))
        refine lv_aload_n hx hb (dkP dF_42 DX11_runNew (i := 28) rfl rfl) rfl (lv_at hl 1 rfl) ?_
        refine z_gr C0 hw 0 5 215 (fk_of shc_0 rfl) fl_X11_38 (dk2 dF_180 DX11_runNew (i := 29) rfl rfl rfl) ?_
        refine z_gi C0 hw 215 6 (fk_of shc_215 rfl) fl_X11_164 (dk2 dF_180 DX11_runNew (i := 30) rfl rfl rfl) ?_
        obtain ⟨v8, ev8⟩ : ∃ y : Int32, s7.1 215 6 = y := ⟨_, rfl⟩
        refine z_top (y := v8) ev8 ?_
        exact z_iret C0 hr hlk hw (⟨(hJ.fr hF7.2 (fun x y hj => hF7.1 x y (fun h_ => by have h_ : (x = 0 ∧ y = 9) ∨ (x = 215 ∧ y = 4) ∨ (x = 215 ∧ y = 5) ∨ (x = 215 ∧ y = 6) ∨ (x = 215 ∧ y = 7) ∨ (x = 215 ∧ y = 8) ∨ (x = 216) ∨ (x = 217) ∨ (x = 218) ∨ (x = 219) ∨ (x = 227) := h_; unfold jcq at hj; rcases h_ with h_ | h_ | h_ | h_ | h_ | h_ | h_ | h_ | h_ | h_ | h_; (· omega); (· omega); (· omega); (· omega); (· omega); (· omega); (· omega); (· omega); (· omega); (· omega); (· omega)))), hT7, hF7⟩) (dkP dF_172 DX11_runNew (i := 31) rfl rfl)
      · skip
        refine lv_if_ne (tgt := 31) hx hb (dkS dF_154 DX11_runNew (i := 13) rfl rfl rfl) (by decide) (fun h => absurd h (by decide)) (fun _ => ?_)
        refine lv_bipush (v := (-2)) hx hb (dks dF_16 DX11_runNew (i := 14) rfl rfl rfl) (by decide) ?_
        exact z_iret C0 hr hlk hw (⟨hJ, hT, frC.refl⟩) (dkP dF_172 DX11_runNew (i := 15) rfl rfl)
set_option maxRecDepth 100000 in
set_option maxHeartbeats 8000000 in
theorem c_X11_casing (l : Launch) (G : va_G) (kc : KC) (ad : Nat → Nat) (σ : Sg) (program : Int32) (casing : Int32) (what : Int32) (ja : Int32) (ia : Int32) (hJ : JC σ) (hT : TC σ) : MI l G kc yX11_casing cX11_casing 7 (some .int) 3 70 [.ref (ad 0), .int program, .int casing, .int what, .int ja, .int ia] shC ad σ (fun r σ1 => (JC σ1) ∧ σ1 = σ) := by
  intro sz
  refine z_body (y := yX11_casing) (n := 7) (av := [.ref (ad 0), .int program, .int casing, .int what, .int ja, .int ia]) (Qc := fun A => va_Qi (fun r σ1 => (JC σ1) ∧ σ1 = σ) (PoC G kc shC ad A) A) (plainFor_of_name (by decide)) (Nat.le_of_ble_eq_true rfl) (fun pr e s m below meth c A C0 hr hlk hnm hw hRo ls hl => ?_) sz
  have hx := C0.1
  have hb := C0.2.1
  have hown := C0.2.2.2.1
  have hts := C0.2.2.2.2.1
  have hl : lv_has ls 7 [(0, .ref (ad 0)), (1, .int program), (2, .int casing), (3, .int what), (4, .int ja), (5, .int ia)] := hl
  obtain ⟨t, u, hto, ht, hun, hu⟩ := hJ.rdr
  obtain ⟨wa, wb, hwa_, hwa, hwb_, hwb, hwab⟩ := hJ.wts
  refine lv_aload_n hx hb (dkP dF_42 DX11_casing (i := 0) rfl rfl) rfl (lv_at hl 0 rfl) ?_
  refine lv_iload_n hx hb (dkP dF_27 DX11_casing (i := 1) rfl rfl) rfl (lv_at hl 1 rfl) ?_
  refine zk_R hw (zr_V (As := [.int program]) (rest := []) C0 (c_X11_programAt l G kc ad σ program  _) cv_X11_programAt lk_X11_84 (zp_V C0 hRo hw 0 shc_0 rfl rfl) rfl hl.1 rfl ⟨by decide, by decide⟩ (Nat.le_of_ble_eq_true rfl) (dk2 dF_182 DX11_casing (i := 2) rfl rfl rfl) ⟨Nat.le_refl _, Nat.le_refl _⟩) (fun r1 s1 H locs hp hw => ?_)
  obtain ⟨hq1, hs1⟩ := hp
  (rw [hs1] at hw)
  rcases hq1 with ⟨hc1, rfl⟩ | ⟨k_program, hk_program, rfl, rfl⟩
  · skip
    refine lv_astoreN (lv' := [(6, .null), (0, .ref (ad 0)), (1, .int program), (2, .int casing), (3, .int what), (4, .int ja), (5, .int ia)]) hx hb (dk1 dF_58 DX11_casing (i := 3) rfl rfl rfl) hl (by decide) rfl (fun ls hl => ?_)
    refine lv_aloadN hx hb (dk1 dF_25 DX11_casing (i := 4) rfl rfl rfl) (lv_at hl 0 rfl) ?_
    refine lv_ifnonnullN hx hb (dkS dF_199 DX11_casing (i := 5) rfl rfl rfl) ?_
    refine lv_ldc hx hb hown (hts _ kn_X11_217) (dk1 dF_18 DX11_casing (i := 6) rfl rfl rfl) ?_
    refine lv_goto (tgt := 31) hx hb (dkS dF_167 DX11_casing (i := 7) rfl rfl rfl) (by decide) ?_
    exact z_iret C0 hr hlk hw (⟨hJ, rfl⟩) (dkP dF_172 DX11_casing (i := 15) rfl rfl)
  · skip
    obtain ⟨t1, u1, hto1, ht1, hun1, hu1, hVP⟩ := hJ.prog hk_program
    obtain ⟨hLH, ⟨zo, uo, hzo, hzo24, hVo⟩, zn, un, K_, hzn, hzn40, hVn⟩ := id hVP
    refine lv_astore (lv' := [(6, .ref (ad (8 + 22 * k_program))), (0, .ref (ad 0)), (1, .int (nI k_program)), (2, .int casing), (3, .int what), (4, .int ja), (5, .int ia)]) hx hb (dk1 dF_58 DX11_casing (i := 3) rfl rfl rfl) hl (by decide) rfl (fun ls hl => ?_)
    refine lv_aload hx hb (dk1 dF_25 DX11_casing (i := 4) rfl rfl rfl) (lv_at hl 0 rfl) ?_
    refine lv_ifnonnull (tgt := 17) hx hb (dkS dF_199 DX11_casing (i := 5) rfl rfl rfl) (by decide) ?_
    refine lv_aload hx hb (dk1 dF_25 DX11_casing (i := 8) rfl rfl rfl) (lv_at hl 0 rfl) ?_
    refine z_gms C0 hw (8 + 22 * k_program) 3 u1 hun1 (fk_of (shp_8 k_program (by omega)) rfl) fl_X11_117 (dk2 dF_180 DX11_casing (i := 9) rfl rfl rfl) ?_
    refine lv_iload_n hx hb (dkP dF_28 DX11_casing (i := 10) rfl rfl) rfl (lv_at hl 3 rfl) ?_
    refine lv_iload_n hx hb (dkP dF_29 DX11_casing (i := 11) rfl rfl) rfl (lv_at hl 4 rfl) ?_
    refine lv_iload hx hb (dk1 dF_21 DX11_casing (i := 12) rfl rfl rfl) (lv_at hl 5 rfl) ?_
    refine lv_iload hx hb (dk1 dF_21 DX11_casing (i := 13) rfl rfl rfl) (lv_at hl 6 rfl) ?_
    refine zk_I hw (zr_V (As := [.int casing, .int what, .int ja, .int ia]) (rest := []) C0 (c_X1_tell l G kc ad σ u1 casing what ja ia hu1 hzn hzn40 hVn hT _) cv_X1_tell lk_X11_218 (zp_V C0 hRo hw u1 (shl_nt_0 u1 hu1) rfl rfl) rfl hl.1 rfl ⟨by decide, by decide⟩ (Nat.le_of_ble_eq_true rfl) (dk2 dF_182 DX11_casing (i := 14) rfl rfl rfl) ⟨Nat.le_refl _, Nat.le_refl _⟩) (fun r2 s2 H locs hp hw => ?_)
    have hs2 := hp
    (rw [hs2] at hw)
    exact z_iret C0 hr hlk hw (⟨hJ, rfl⟩) (dkP dF_172 DX11_casing (i := 15) rfl rfl)
set_option maxRecDepth 100000 in
set_option maxHeartbeats 8000000 in
theorem c_X11_unlike (l : Launch) (G : va_G) (kc : KC) (ad : Nat → Nat) (σ : Sg) (program : Int32) (hJ : JC σ) (hT : TC σ) : MI l G kc yX11_unlike cX11_unlike 5 (some .int) 5 122 [.ref (ad 0), .int program] shC ad σ (fun r σ1 => (JC σ1) ∧ TC σ1 ∧ frC (fun x y => (x = 210 ∧ y = 4) ∨ (x = 210 ∧ y = 5) ∨ (x = 210 ∧ y = 6) ∨ (x = 210 ∧ y = 8) ∨ (x = 211) ∨ (x = 213) ∨ (x = 214) ∨ (x = 215 ∧ y = 4) ∨ (x = 215 ∧ y = 5) ∨ (x = 215 ∧ y = 6) ∨ (x = 215 ∧ y = 7) ∨ (x = 215 ∧ y = 8) ∨ (x = 216) ∨ (x = 217) ∨ (x = 218) ∨ (x = 219)) σ σ1) := by
  intro sz
  refine z_body (y := yX11_unlike) (n := 5) (av := [.ref (ad 0), .int program]) (Qc := fun A => va_Qi (fun r σ1 => (JC σ1) ∧ TC σ1 ∧ frC (fun x y => (x = 210 ∧ y = 4) ∨ (x = 210 ∧ y = 5) ∨ (x = 210 ∧ y = 6) ∨ (x = 210 ∧ y = 8) ∨ (x = 211) ∨ (x = 213) ∨ (x = 214) ∨ (x = 215 ∧ y = 4) ∨ (x = 215 ∧ y = 5) ∨ (x = 215 ∧ y = 6) ∨ (x = 215 ∧ y = 7) ∨ (x = 215 ∧ y = 8) ∨ (x = 216) ∨ (x = 217) ∨ (x = 218) ∨ (x = 219)) σ σ1) (PoC G kc shC ad A) A) (plainFor_of_name (by decide)) (Nat.le_of_ble_eq_true rfl) (fun pr e s m below meth c A C0 hr hlk hnm hw hRo ls hl => ?_) sz
  have hx := C0.1
  have hb := C0.2.1
  have hown := C0.2.2.2.1
  have hts := C0.2.2.2.2.1
  have hl : lv_has ls 5 [(0, .ref (ad 0)), (1, .int program)] := hl
  obtain ⟨t, u, hto, ht, hun, hu⟩ := hJ.rdr
  obtain ⟨wa, wb, hwa_, hwa, hwb_, hwb, hwab⟩ := hJ.wts
  refine lv_aload_n hx hb (dkP dF_42 DX11_unlike (i := 0) rfl rfl) rfl (lv_at hl 0 rfl) ?_
  refine lv_iload_n hx hb (dkP dF_27 DX11_unlike (i := 1) rfl rfl) rfl (lv_at hl 1 rfl) ?_
  refine zk_R hw (zr_V (As := [.int program]) (rest := []) C0 (c_X11_programAt l G kc ad σ program  _) cv_X11_programAt lk_X11_84 (zp_V C0 hRo hw 0 shc_0 rfl rfl) rfl hl.1 rfl ⟨by decide, by decide⟩ (Nat.le_of_ble_eq_true rfl) (dk2 dF_182 DX11_unlike (i := 2) rfl rfl rfl) ⟨Nat.le_refl _, Nat.le_refl _⟩) (fun r1 s1 H locs hp hw => ?_)
  obtain ⟨hq1, hs1⟩ := hp
  (rw [hs1] at hw)
  rcases hq1 with ⟨hc1, rfl⟩ | ⟨k_program, hk_program, rfl, rfl⟩
  · skip
    refine lv_astore_nN (lv' := [(2, .null), (0, .ref (ad 0)), (1, .int program)]) hx hb (dkP dF_77 DX11_unlike (i := 3) rfl rfl) rfl hl (by decide) rfl (fun ls hl => ?_)
    refine lv_aload_nN hx hb (dkP dF_44 DX11_unlike (i := 4) rfl rfl) rfl (lv_at hl 0 rfl) ?_
    refine lv_ifnullN (tgt := 17) hx hb (dkS dF_198 DX11_unlike (i := 5) rfl rfl rfl) (by decide) ?_
    refine lv_bipush (v := (-2)) hx hb (dks dF_16 DX11_unlike (i := 9) rfl rfl rfl) (by decide) ?_
    exact z_iret C0 hr hlk hw (⟨hJ, hT, frC.refl⟩) (dkP dF_172 DX11_unlike (i := 10) rfl rfl)
  · skip
    obtain ⟨t1, u1, hto1, ht1, hun1, hu1, hVP⟩ := hJ.prog hk_program
    obtain ⟨hLH, ⟨zo, uo, hzo, hzo24, hVo⟩, zn, un, K_, hzn, hzn40, hVn⟩ := id hVP
    refine lv_astore_n (lv' := [(2, .ref (ad (8 + 22 * k_program))), (0, .ref (ad 0)), (1, .int (nI k_program))]) hx hb (dkP dF_77 DX11_unlike (i := 3) rfl rfl) rfl hl (by decide) rfl (fun ls hl => ?_)
    refine lv_aload_n hx hb (dkP dF_44 DX11_unlike (i := 4) rfl rfl) rfl (lv_at hl 0 rfl) ?_
    refine lv_ifnull hx hb (dkS dF_198 DX11_unlike (i := 5) rfl rfl rfl) ?_
    refine lv_aload_n hx hb (dkP dF_44 DX11_unlike (i := 6) rfl rfl) rfl (lv_at hl 0 rfl) ?_
    refine zk_I hw (zr_V (As := []) (rest := []) C0 (c_X4_hasBoth l G kc ad σ (8 + 22 * k_program) (pgm k_program (by omega)) hto1 ht1 hun1 hu1 hT _) cv_X4_hasBoth lk_X11_221 (zp_V C0 hRo hw (8 + 22 * k_program) (shp_8 k_program (by omega)) rfl rfl) rfl hl.1 rfl ⟨by decide, by decide⟩ (Nat.le_of_ble_eq_true rfl) (dk2 dF_182 DX11_unlike (i := 7) rfl rfl rfl) ⟨Nat.le_refl _, Nat.le_refl _⟩) (fun r2 s2 H locs hp hw => ?_)
    obtain ⟨f2_0, hs2⟩ := hp
    (rw [hs2] at hw)
    rcases f2_0 with ⟨rfl, hc2⟩ | ⟨rfl, hc2⟩
    · skip
      refine lv_if_ne (tgt := 20) hx hb (dkS dF_154 DX11_unlike (i := 8) rfl rfl rfl) (by decide) (fun _ => ?_) (fun h => absurd h (by decide))
      refine lv_iconst (v := 0) hx hb (dkP dF_3 DX11_unlike (i := 11) rfl rfl) (by decide) ?_
      refine lv_istore_n (lv' := [(3, .int 0), (2, .ref (ad (8 + 22 * k_program))), (0, .ref (ad 0)), (1, .int (nI k_program))]) hx hb (dkP dF_62 DX11_unlike (i := 12) rfl rfl) rfl hl (by decide) rfl (fun ls hl => ?_)
      refine lv_iconst (v := 0) hx hb (dkP dF_3 DX11_unlike (i := 13) rfl rfl) (by decide) ?_
      refine lv_istore (lv' := [(4, .int 0), (3, .int 0), (2, .ref (ad (8 + 22 * k_program))), (0, .ref (ad 0)), (1, .int (nI k_program))]) hx hb (dk1 dF_54 DX11_unlike (i := 14) rfl rfl rfl) hl (by decide) rfl (fun ls hl => ?_)
      have lp4 : ∀ (nq : Nat) (q4_25 : Nat) (q3_25 : Nat) (τ3 : Sg) (H : Heap) (locs : List Loc) (ls : Array Slot), 2147483647 - q4_25 < nq → (q4_25 ≤ 2147483647) → (q3_25 ≤ q4_25) → (TC τ3) → (frC (fun x y => (x = 210 ∧ y = 4) ∨ (x = 210 ∧ y = 5) ∨ (x = 210 ∧ y = 6) ∨ (x = 210 ∧ y = 8) ∨ (x = 211) ∨ (x = 213) ∨ (x = 214) ∨ (x = 215 ∧ y = 4) ∨ (x = 215 ∧ y = 5) ∨ (x = 215 ∧ y = 6) ∨ (x = 215 ∧ y = 7) ∨ (x = 215 ∧ y = 8) ∨ (x = 216) ∨ (x = 217) ∨ (x = 218) ∨ (x = 219)) σ τ3) → St G kc A s.heap shC ad τ3 H locs → lv_has ls 5 [(4, .int (nI q4_25)), (3, .int (nI q3_25)), (2, .ref (ad (8 + 22 * k_program))), (0, .ref (ad 0)), (1, .int (nI k_program))] → W pr l e { frames := 5, cells := 0, slots := 0, locals := 122 } s m ([.ref (ad 0), .int (nI k_program)] : List Value).toArray below meth c H locs 0 0 (MQ below (va_Qi (fun r σ1 => (JC σ1) ∧ TC σ1 ∧ frC (fun x y => (x = 210 ∧ y = 4) ∨ (x = 210 ∧ y = 5) ∨ (x = 210 ∧ y = 6) ∨ (x = 210 ∧ y = 8) ∨ (x = 211) ∨ (x = 213) ∨ (x = 214) ∨ (x = 215 ∧ y = 4) ∨ (x = 215 ∧ y = 5) ∨ (x = 215 ∧ y = 6) ∨ (x = 215 ∧ y = 7) ∨ (x = 215 ∧ y = 8) ∨ (x = 216) ∨ (x = 217) ∨ (x = 218) ∨ (x = 219)) σ σ1) (PoC G kc shC ad A) A) ([.ref (ad 0), .int (nI k_program)] : List Value).toArray s 0 0 A) (F0 m 25 ls []) := by
        intro nq
        induction nq with
        | zero => intro q4_25 q3_25 τ3 H locs ls hmu; exact absurd hmu (Nat.not_lt_zero _)
        | succ nq ih4 =>
          intro q4_25 q3_25 τ3 H locs ls hmu hq4_25 hq3_25 hT_τ3 hF_τ3 hw hl
          refine lv_iload hx hb (dk1 dF_21 DX11_unlike (i := 15) rfl rfl rfl) (lv_at hl 0 rfl) ?_
          refine lv_aload_n hx hb (dkP dF_44 DX11_unlike (i := 16) rfl rfl) rfl (lv_at hl 2 rfl) ?_
          refine z_gi C0 hw (8 + 22 * k_program) 4 (fk_of (shp_8 k_program (by omega)) rfl) fl_X11_143 (dk2 dF_180 DX11_unlike (i := 17) rfl rfl rfl) ?_
          obtain ⟨v5, ev5⟩ : ∃ y : Int32, τ3.1 (8 + 22 * k_program) 4 = y := ⟨_, rfl⟩
          refine z_top (y := v5) ev5 ?_
          refine lv_icmp_ge (tgt := 53) hx hb (dkS dF_162 DX11_unlike (i := 18) rfl rfl rfl) (by decide) (fun c6 => ?_) (fun c6 => ?_)
          · (try simp (disch := omega) only [ta_lt, ta_le, ta_eq, tnI] at c6); have hz6 := i32b v5
            refine lv_iload_n hx hb (dkP dF_29 DX11_unlike (i := 27) rfl rfl) rfl (lv_at hl 1 rfl) ?_
            exact z_iret C0 hr hlk hw (⟨(hJ.fr hF_τ3.2 (fun x y hj => hF_τ3.1 x y (fun h_ => by have h_ : (x = 210 ∧ y = 4) ∨ (x = 210 ∧ y = 5) ∨ (x = 210 ∧ y = 6) ∨ (x = 210 ∧ y = 8) ∨ (x = 211) ∨ (x = 213) ∨ (x = 214) ∨ (x = 215 ∧ y = 4) ∨ (x = 215 ∧ y = 5) ∨ (x = 215 ∧ y = 6) ∨ (x = 215 ∧ y = 7) ∨ (x = 215 ∧ y = 8) ∨ (x = 216) ∨ (x = 217) ∨ (x = 218) ∨ (x = 219) := h_; unfold jcq at hj; rcases h_ with h_ | h_ | h_ | h_ | h_ | h_ | h_ | h_ | h_ | h_ | h_ | h_ | h_ | h_ | h_ | h_; (· omega); (· omega); (· omega); (· omega); (· omega); (· omega); (· omega); (· omega); (· omega); (· omega); (· omega); (· omega); (· omega); (· omega); (· omega); (· omega)))), hT_τ3, hF_τ3⟩) (dkP dF_172 DX11_unlike (i := 28) rfl rfl)
          · (try simp (disch := omega) only [ta_lt, ta_le, ta_eq, tnI] at c6); have hz6 := i32b v5
            refine lv_aload_n hx hb (dkP dF_42 DX11_unlike (i := 19) rfl rfl) rfl (lv_at hl 3 rfl) ?_
            refine lv_aload_n hx hb (dkP dF_44 DX11_unlike (i := 20) rfl rfl) rfl (lv_at hl 2 rfl) ?_
            refine lv_iload hx hb (dk1 dF_21 DX11_unlike (i := 21) rfl rfl rfl) (lv_at hl 0 rfl) ?_
            refine zk_I hw (zr_V (As := [.ref (ad (8 + 22 * k_program)), .int (nI q4_25)]) (rest := []) C0 (c_X11_unlikeBits l G kc ad τ3 (8 + 22 * k_program) (nI q4_25) (pgm k_program (by omega)) ((congrFun (congrFun hF_τ3.2 _) _).trans hto1) ht1 ((congrFun (congrFun hF_τ3.2 _) _).trans hun1) hu1 (hVP.v (fun x y hx => hF_τ3.1 x y (fun h_ => by have hj := hJ.arv (k := k_program) (by omega) hto1 hun1 hx; have h_ : (x = 210 ∧ y = 4) ∨ (x = 210 ∧ y = 5) ∨ (x = 210 ∧ y = 6) ∨ (x = 210 ∧ y = 8) ∨ (x = 211) ∨ (x = 213) ∨ (x = 214) ∨ (x = 215 ∧ y = 4) ∨ (x = 215 ∧ y = 5) ∨ (x = 215 ∧ y = 6) ∨ (x = 215 ∧ y = 7) ∨ (x = 215 ∧ y = 8) ∨ (x = 216) ∨ (x = 217) ∨ (x = 218) ∨ (x = 219) := h_; unfold jcq at hj; rcases h_ with h_ | h_ | h_ | h_ | h_ | h_ | h_ | h_ | h_ | h_ | h_ | h_ | h_ | h_ | h_ | h_; (· omega); (· omega); (· omega); (· omega); (· omega); (· omega); (· omega); (· omega); (· omega); (· omega); (· omega); (· omega); (· omega); (· omega); (· omega); (· omega)))) hT_τ3 _) cv_X11_unlikeBits lk_X11_224 (zp_V C0 hRo hw 0 shc_0 rfl rfl) rfl hl.1 rfl ⟨by decide, by decide⟩ (Nat.le_of_ble_eq_true rfl) (dk2 dF_182 DX11_unlike (i := 22) rfl rfl rfl) ⟨Nat.le_refl _, Nat.le_refl _⟩) (fun r7 s7 H locs hp hw => ?_)
            obtain ⟨hT7, hG7⟩ := hp
            have hF7 : frC (fun x y => (x = 210 ∧ y = 4) ∨ (x = 210 ∧ y = 5) ∨ (x = 210 ∧ y = 6) ∨ (x = 210 ∧ y = 8) ∨ (x = 211) ∨ (x = 213) ∨ (x = 214) ∨ (x = 215 ∧ y = 4) ∨ (x = 215 ∧ y = 5) ∨ (x = 215 ∧ y = 6) ∨ (x = 215 ∧ y = 7) ∨ (x = 215 ∧ y = 8) ∨ (x = 216) ∨ (x = 217) ∨ (x = 218) ∨ (x = 219)) σ s7 := frC.t hF_τ3 hG7 (fun x y h => by have h : (x = 210 ∧ y = 4) ∨ (x = 210 ∧ y = 5) ∨ (x = 210 ∧ y = 6) ∨ (x = 210 ∧ y = 8) ∨ (x = 211) ∨ (x = 213) ∨ (x = 214) ∨ (x = 215 ∧ y = 4) ∨ (x = 215 ∧ y = 5) ∨ (x = 215 ∧ y = 6) ∨ (x = 215 ∧ y = 7) ∨ (x = 215 ∧ y = 8) ∨ (x = 216) ∨ (x = 217) ∨ (x = 218) ∨ (x = 219) := h; show (x = 210 ∧ y = 4) ∨ (x = 210 ∧ y = 5) ∨ (x = 210 ∧ y = 6) ∨ (x = 210 ∧ y = 8) ∨ (x = 211) ∨ (x = 213) ∨ (x = 214) ∨ (x = 215 ∧ y = 4) ∨ (x = 215 ∧ y = 5) ∨ (x = 215 ∧ y = 6) ∨ (x = 215 ∧ y = 7) ∨ (x = 215 ∧ y = 8) ∨ (x = 216) ∨ (x = 217) ∨ (x = 218) ∨ (x = 219); rcases h with h | h | h | h | h | h | h | h | h | h | h | h | h | h | h | h; (· exact Or.inl h); (· exact Or.inr (Or.inl h)); (· exact Or.inr (Or.inr (Or.inl h))); (· exact Or.inr (Or.inr (Or.inr (Or.inl h)))); (· exact Or.inr (Or.inr (Or.inr (Or.inr (Or.inl h))))); (· exact Or.inr (Or.inr (Or.inr (Or.inr (Or.inr (Or.inl h)))))); (· exact Or.inr (Or.inr (Or.inr (Or.inr (Or.inr (Or.inr (Or.inl h))))))); (· exact Or.inr (Or.inr (Or.inr (Or.inr (Or.inr (Or.inr (Or.inr (Or.inl h)))))))); (· exact Or.inr (Or.inr (Or.inr (Or.inr (Or.inr (Or.inr (Or.inr (Or.inr (Or.inl h))))))))); (· exact Or.inr (Or.inr (Or.inr (Or.inr (Or.inr (Or.inr (Or.inr (Or.inr (Or.inr (Or.inl h)))))))))); (· exact Or.inr (Or.inr (Or.inr (Or.inr (Or.inr (Or.inr (Or.inr (Or.inr (Or.inr (Or.inr (Or.inl h))))))))))); (· exact Or.inr (Or.inr (Or.inr (Or.inr (Or.inr (Or.inr (Or.inr (Or.inr (Or.inr (Or.inr (Or.inr (Or.inl h)))))))))))); (· exact Or.inr (Or.inr (Or.inr (Or.inr (Or.inr (Or.inr (Or.inr (Or.inr (Or.inr (Or.inr (Or.inr (Or.inr (Or.inl h))))))))))))); (· exact Or.inr (Or.inr (Or.inr (Or.inr (Or.inr (Or.inr (Or.inr (Or.inr (Or.inr (Or.inr (Or.inr (Or.inr (Or.inr (Or.inl h)))))))))))))); (· exact Or.inr (Or.inr (Or.inr (Or.inr (Or.inr (Or.inr (Or.inr (Or.inr (Or.inr (Or.inr (Or.inr (Or.inr (Or.inr (Or.inr (Or.inl h))))))))))))))); (· exact Or.inr (Or.inr (Or.inr (Or.inr (Or.inr (Or.inr (Or.inr (Or.inr (Or.inr (Or.inr (Or.inr (Or.inr (Or.inr (Or.inr (Or.inr (h)))))))))))))))))
            refine lv_if_eq (tgt := 47) hx hb (dkS dF_153 DX11_unlike (i := 23) rfl rfl rfl) (by decide) (fun c8 => ?_) (fun c8 => ?_)
            · (try simp (disch := omega) only [ta_lt, ta_le, ta_eq, tnI, tl32 0 (by decide)] at c8)
              refine lv_iinc (v := nI (q4_25 + 1)) (lv' := [(4, .int (nI (q4_25 + 1))), (3, .int (nI q3_25)), (2, .ref (ad (8 + 22 * k_program))), (0, .ref (ad 0)), (1, .int (nI k_program))]) hx hb (dkI DX11_unlike (i := 25) rfl rfl rfl rfl) hl (k := 0) rfl (nI_1 _) (by decide) rfl (fun ls hl => ?_)
              refine lv_goto (tgt := 25) hx hb (dkS dF_167 DX11_unlike (i := 26) rfl rfl rfl) (by decide) ?_
              exact ih4 (q4_25 + 1) q3_25 s7 _ _ _ (by omega) (by (try simp only [lg_cmp_lt, lg_cmp_le, lg_cmp_gt, lg_cmp_ge, lg_cmp_eq] at f2_0); (try simp (disch := omega) only [ta_lt, ta_le, ta_eq, tb_lt, tb_le, tb_eq, tw, tnI, tsub1, tsv, tsb32, tn32 2 (by decide), tnj 2 (by decide), tn32 1 (by decide), tnj 1 (by decide), tl32 0 (by decide), tl64 0 (by decide)] at f2_0); (try simp only [lg_cmp_lt, lg_cmp_le, lg_cmp_gt, lg_cmp_ge, lg_cmp_eq] at hc2); (try simp (disch := omega) only [ta_lt, ta_le, ta_eq, tb_lt, tb_le, tb_eq, tw, tnI, tsub1, tsv, tsb32, tn32 2 (by decide), tnj 2 (by decide), tn32 1 (by decide), tnj 1 (by decide), tl32 0 (by decide), tl64 0 (by decide)] at hc2); (try simp only [lg_cmp_lt, lg_cmp_le, lg_cmp_gt, lg_cmp_ge, lg_cmp_eq] at c6); (try simp (disch := omega) only [ta_lt, ta_le, ta_eq, tb_lt, tb_le, tb_eq, tw, tnI, tsub1, tsv, tsb32, tn32 2 (by decide), tnj 2 (by decide), tn32 1 (by decide), tnj 1 (by decide), tl32 0 (by decide), tl64 0 (by decide)] at c6); (try simp only [lg_cmp_lt, lg_cmp_le, lg_cmp_gt, lg_cmp_ge, lg_cmp_eq] at c8); (try simp (disch := omega) only [ta_lt, ta_le, ta_eq, tb_lt, tb_le, tb_eq, tw, tnI, tsub1, tsv, tsb32, tn32 2 (by decide), tnj 2 (by decide), tn32 1 (by decide), tnj 1 (by decide), tl32 0 (by decide), tl64 0 (by decide)] at c8); (try simp (disch := omega) only [ta_lt, ta_le, ta_eq, tb_lt, tb_le, tb_eq, tw, tnI, tsub1, tsv, tsb32, tn32 2 (by decide), tnj 2 (by decide), tn32 1 (by decide), tnj 1 (by decide), tl32 0 (by decide), tl64 0 (by decide)]); omega) (by (try simp only [lg_cmp_lt, lg_cmp_le, lg_cmp_gt, lg_cmp_ge, lg_cmp_eq] at f2_0); (try simp (disch := omega) only [ta_lt, ta_le, ta_eq, tb_lt, tb_le, tb_eq, tw, tnI, tsub1, tsv, tsb32, tn32 2 (by decide), tnj 2 (by decide), tn32 1 (by decide), tnj 1 (by decide), tl32 0 (by decide), tl64 0 (by decide)] at f2_0); (try simp only [lg_cmp_lt, lg_cmp_le, lg_cmp_gt, lg_cmp_ge, lg_cmp_eq] at hc2); (try simp (disch := omega) only [ta_lt, ta_le, ta_eq, tb_lt, tb_le, tb_eq, tw, tnI, tsub1, tsv, tsb32, tn32 2 (by decide), tnj 2 (by decide), tn32 1 (by decide), tnj 1 (by decide), tl32 0 (by decide), tl64 0 (by decide)] at hc2); (try simp only [lg_cmp_lt, lg_cmp_le, lg_cmp_gt, lg_cmp_ge, lg_cmp_eq] at c6); (try simp (disch := omega) only [ta_lt, ta_le, ta_eq, tb_lt, tb_le, tb_eq, tw, tnI, tsub1, tsv, tsb32, tn32 2 (by decide), tnj 2 (by decide), tn32 1 (by decide), tnj 1 (by decide), tl32 0 (by decide), tl64 0 (by decide)] at c6); (try simp only [lg_cmp_lt, lg_cmp_le, lg_cmp_gt, lg_cmp_ge, lg_cmp_eq] at c8); (try simp (disch := omega) only [ta_lt, ta_le, ta_eq, tb_lt, tb_le, tb_eq, tw, tnI, tsub1, tsv, tsb32, tn32 2 (by decide), tnj 2 (by decide), tn32 1 (by decide), tnj 1 (by decide), tl32 0 (by decide), tl64 0 (by decide)] at c8); (try simp (disch := omega) only [ta_lt, ta_le, ta_eq, tb_lt, tb_le, tb_eq, tw, tnI, tsub1, tsv, tsb32, tn32 2 (by decide), tnj 2 (by decide), tn32 1 (by decide), tnj 1 (by decide), tl32 0 (by decide), tl64 0 (by decide)]); omega) hT7 hF7 hw (lv_sub hl [0, 1, 2, 3, 4] rfl)
            · (try simp (disch := omega) only [ta_lt, ta_le, ta_eq, tnI, tl32 0 (by decide)] at c8)
              refine lv_iinc (v := nI (q3_25 + 1)) (lv' := [(3, .int (nI (q3_25 + 1))), (4, .int (nI q4_25)), (2, .ref (ad (8 + 22 * k_program))), (0, .ref (ad 0)), (1, .int (nI k_program))]) hx hb (dkI DX11_unlike (i := 24) rfl rfl rfl rfl) hl (k := 1) rfl (nI_1 _) (by decide) rfl (fun ls hl => ?_)
              refine lv_iinc (v := nI (q4_25 + 1)) (lv' := [(4, .int (nI (q4_25 + 1))), (3, .int (nI (q3_25 + 1))), (2, .ref (ad (8 + 22 * k_program))), (0, .ref (ad 0)), (1, .int (nI k_program))]) hx hb (dkI DX11_unlike (i := 25) rfl rfl rfl rfl) hl (k := 1) rfl (nI_1 _) (by decide) rfl (fun ls hl => ?_)
              refine lv_goto (tgt := 25) hx hb (dkS dF_167 DX11_unlike (i := 26) rfl rfl rfl) (by decide) ?_
              exact ih4 (q4_25 + 1) (q3_25 + 1) s7 _ _ _ (by omega) (by (try simp only [lg_cmp_lt, lg_cmp_le, lg_cmp_gt, lg_cmp_ge, lg_cmp_eq] at f2_0); (try simp (disch := omega) only [ta_lt, ta_le, ta_eq, tb_lt, tb_le, tb_eq, tw, tnI, tsub1, tsv, tsb32, tn32 2 (by decide), tnj 2 (by decide), tn32 1 (by decide), tnj 1 (by decide), tl32 0 (by decide), tl64 0 (by decide)] at f2_0); (try simp only [lg_cmp_lt, lg_cmp_le, lg_cmp_gt, lg_cmp_ge, lg_cmp_eq] at hc2); (try simp (disch := omega) only [ta_lt, ta_le, ta_eq, tb_lt, tb_le, tb_eq, tw, tnI, tsub1, tsv, tsb32, tn32 2 (by decide), tnj 2 (by decide), tn32 1 (by decide), tnj 1 (by decide), tl32 0 (by decide), tl64 0 (by decide)] at hc2); (try simp only [lg_cmp_lt, lg_cmp_le, lg_cmp_gt, lg_cmp_ge, lg_cmp_eq] at c6); (try simp (disch := omega) only [ta_lt, ta_le, ta_eq, tb_lt, tb_le, tb_eq, tw, tnI, tsub1, tsv, tsb32, tn32 2 (by decide), tnj 2 (by decide), tn32 1 (by decide), tnj 1 (by decide), tl32 0 (by decide), tl64 0 (by decide)] at c6); (try simp only [lg_cmp_lt, lg_cmp_le, lg_cmp_gt, lg_cmp_ge, lg_cmp_eq] at c8); (try simp (disch := omega) only [ta_lt, ta_le, ta_eq, tb_lt, tb_le, tb_eq, tw, tnI, tsub1, tsv, tsb32, tn32 2 (by decide), tnj 2 (by decide), tn32 1 (by decide), tnj 1 (by decide), tl32 0 (by decide), tl64 0 (by decide)] at c8); (try simp (disch := omega) only [ta_lt, ta_le, ta_eq, tb_lt, tb_le, tb_eq, tw, tnI, tsub1, tsv, tsb32, tn32 2 (by decide), tnj 2 (by decide), tn32 1 (by decide), tnj 1 (by decide), tl32 0 (by decide), tl64 0 (by decide)]); omega) (by (try simp only [lg_cmp_lt, lg_cmp_le, lg_cmp_gt, lg_cmp_ge, lg_cmp_eq] at f2_0); (try simp (disch := omega) only [ta_lt, ta_le, ta_eq, tb_lt, tb_le, tb_eq, tw, tnI, tsub1, tsv, tsb32, tn32 2 (by decide), tnj 2 (by decide), tn32 1 (by decide), tnj 1 (by decide), tl32 0 (by decide), tl64 0 (by decide)] at f2_0); (try simp only [lg_cmp_lt, lg_cmp_le, lg_cmp_gt, lg_cmp_ge, lg_cmp_eq] at hc2); (try simp (disch := omega) only [ta_lt, ta_le, ta_eq, tb_lt, tb_le, tb_eq, tw, tnI, tsub1, tsv, tsb32, tn32 2 (by decide), tnj 2 (by decide), tn32 1 (by decide), tnj 1 (by decide), tl32 0 (by decide), tl64 0 (by decide)] at hc2); (try simp only [lg_cmp_lt, lg_cmp_le, lg_cmp_gt, lg_cmp_ge, lg_cmp_eq] at c6); (try simp (disch := omega) only [ta_lt, ta_le, ta_eq, tb_lt, tb_le, tb_eq, tw, tnI, tsub1, tsv, tsb32, tn32 2 (by decide), tnj 2 (by decide), tn32 1 (by decide), tnj 1 (by decide), tl32 0 (by decide), tl64 0 (by decide)] at c6); (try simp only [lg_cmp_lt, lg_cmp_le, lg_cmp_gt, lg_cmp_ge, lg_cmp_eq] at c8); (try simp (disch := omega) only [ta_lt, ta_le, ta_eq, tb_lt, tb_le, tb_eq, tw, tnI, tsub1, tsv, tsb32, tn32 2 (by decide), tnj 2 (by decide), tn32 1 (by decide), tnj 1 (by decide), tl32 0 (by decide), tl64 0 (by decide)] at c8); (try simp (disch := omega) only [ta_lt, ta_le, ta_eq, tb_lt, tb_le, tb_eq, tw, tnI, tsub1, tsv, tsb32, tn32 2 (by decide), tnj 2 (by decide), tn32 1 (by decide), tnj 1 (by decide), tl32 0 (by decide), tl64 0 (by decide)]); omega) hT7 hF7 hw (lv_sub hl [0, 1, 2, 3, 4] rfl)
      exact lp4 _ 0 0 σ _ _ _ (Nat.lt_succ_self _) (by (try simp only [lg_cmp_lt, lg_cmp_le, lg_cmp_gt, lg_cmp_ge, lg_cmp_eq] at f2_0); (try simp (disch := omega) only [ta_lt, ta_le, ta_eq, tb_lt, tb_le, tb_eq, tw, tnI, tsub1, tsv, tsb32, tn32 2 (by decide), tnj 2 (by decide), tn32 1 (by decide), tnj 1 (by decide), tl32 0 (by decide), tl64 0 (by decide)] at f2_0); (try simp only [lg_cmp_lt, lg_cmp_le, lg_cmp_gt, lg_cmp_ge, lg_cmp_eq] at hc2); (try simp (disch := omega) only [ta_lt, ta_le, ta_eq, tb_lt, tb_le, tb_eq, tw, tnI, tsub1, tsv, tsb32, tn32 2 (by decide), tnj 2 (by decide), tn32 1 (by decide), tnj 1 (by decide), tl32 0 (by decide), tl64 0 (by decide)] at hc2); (try simp (disch := omega) only [ta_lt, ta_le, ta_eq, tb_lt, tb_le, tb_eq, tw, tnI, tsub1, tsv, tsb32, tn32 2 (by decide), tnj 2 (by decide), tn32 1 (by decide), tnj 1 (by decide), tl32 0 (by decide), tl64 0 (by decide)]); omega) (by (try simp only [lg_cmp_lt, lg_cmp_le, lg_cmp_gt, lg_cmp_ge, lg_cmp_eq] at f2_0); (try simp (disch := omega) only [ta_lt, ta_le, ta_eq, tb_lt, tb_le, tb_eq, tw, tnI, tsub1, tsv, tsb32, tn32 2 (by decide), tnj 2 (by decide), tn32 1 (by decide), tnj 1 (by decide), tl32 0 (by decide), tl64 0 (by decide)] at f2_0); (try simp only [lg_cmp_lt, lg_cmp_le, lg_cmp_gt, lg_cmp_ge, lg_cmp_eq] at hc2); (try simp (disch := omega) only [ta_lt, ta_le, ta_eq, tb_lt, tb_le, tb_eq, tw, tnI, tsub1, tsv, tsb32, tn32 2 (by decide), tnj 2 (by decide), tn32 1 (by decide), tnj 1 (by decide), tl32 0 (by decide), tl64 0 (by decide)] at hc2); (try simp (disch := omega) only [ta_lt, ta_le, ta_eq, tb_lt, tb_le, tb_eq, tw, tnI, tsub1, tsv, tsb32, tn32 2 (by decide), tnj 2 (by decide), tn32 1 (by decide), tnj 1 (by decide), tl32 0 (by decide), tl64 0 (by decide)]); omega) hT frC.refl hw (lv_sub hl [0, 1, 2, 3, 4] rfl)
    · skip
      refine lv_if_ne (tgt := 20) hx hb (dkS dF_154 DX11_unlike (i := 8) rfl rfl rfl) (by decide) (fun h => absurd h (by decide)) (fun _ => ?_)
      refine lv_bipush (v := (-2)) hx hb (dks dF_16 DX11_unlike (i := 9) rfl rfl rfl) (by decide) ?_
      exact z_iret C0 hr hlk hw (⟨hJ, hT, frC.refl⟩) (dkP dF_172 DX11_unlike (i := 10) rfl rfl)
set_option maxRecDepth 100000 in
set_option maxHeartbeats 8000000 in
theorem c_X11_parts (l : Launch) (G : va_G) (kc : KC) (ad : Nat → Nat) (σ : Sg) (program : Int32) (from0 : Int32) (hJ : JC σ) (hT : TC σ) : MI l G kc yX11_parts cX11_parts 5 (some .int) 5 122 [.ref (ad 0), .int program, .int from0] shC ad σ (fun r σ1 => (JC σ1) ∧ TC σ1 ∧ frC (fun x y => (x = 210 ∧ y = 4) ∨ (x = 210 ∧ y = 5) ∨ (x = 210 ∧ y = 6) ∨ (x = 210 ∧ y = 8) ∨ (x = 211) ∨ (x = 213) ∨ (x = 214) ∨ (x = 215 ∧ y = 4) ∨ (x = 215 ∧ y = 5) ∨ (x = 215 ∧ y = 6) ∨ (x = 215 ∧ y = 7) ∨ (x = 215 ∧ y = 8) ∨ (x = 216) ∨ (x = 217) ∨ (x = 218) ∨ (x = 219)) σ σ1) := by
  intro sz
  refine z_body (y := yX11_parts) (n := 5) (av := [.ref (ad 0), .int program, .int from0]) (Qc := fun A => va_Qi (fun r σ1 => (JC σ1) ∧ TC σ1 ∧ frC (fun x y => (x = 210 ∧ y = 4) ∨ (x = 210 ∧ y = 5) ∨ (x = 210 ∧ y = 6) ∨ (x = 210 ∧ y = 8) ∨ (x = 211) ∨ (x = 213) ∨ (x = 214) ∨ (x = 215 ∧ y = 4) ∨ (x = 215 ∧ y = 5) ∨ (x = 215 ∧ y = 6) ∨ (x = 215 ∧ y = 7) ∨ (x = 215 ∧ y = 8) ∨ (x = 216) ∨ (x = 217) ∨ (x = 218) ∨ (x = 219)) σ σ1) (PoC G kc shC ad A) A) (plainFor_of_name (by decide)) (Nat.le_of_ble_eq_true rfl) (fun pr e s m below meth c A C0 hr hlk hnm hw hRo ls hl => ?_) sz
  have hx := C0.1
  have hb := C0.2.1
  have hown := C0.2.2.2.1
  have hts := C0.2.2.2.2.1
  have hl : lv_has ls 5 [(0, .ref (ad 0)), (1, .int program), (2, .int from0)] := hl
  obtain ⟨t, u, hto, ht, hun, hu⟩ := hJ.rdr
  obtain ⟨wa, wb, hwa_, hwa, hwb_, hwb, hwab⟩ := hJ.wts
  refine lv_aload_n hx hb (dkP dF_42 DX11_parts (i := 0) rfl rfl) rfl (lv_at hl 0 rfl) ?_
  refine lv_iload_n hx hb (dkP dF_27 DX11_parts (i := 1) rfl rfl) rfl (lv_at hl 1 rfl) ?_
  refine zk_R hw (zr_V (As := [.int program]) (rest := []) C0 (c_X11_programAt l G kc ad σ program  _) cv_X11_programAt lk_X11_84 (zp_V C0 hRo hw 0 shc_0 rfl rfl) rfl hl.1 rfl ⟨by decide, by decide⟩ (Nat.le_of_ble_eq_true rfl) (dk2 dF_182 DX11_parts (i := 2) rfl rfl rfl) ⟨Nat.le_refl _, Nat.le_refl _⟩) (fun r1 s1 H locs hp hw => ?_)
  obtain ⟨hq1, hs1⟩ := hp
  (rw [hs1] at hw)
  rcases hq1 with ⟨hc1, rfl⟩ | ⟨k_program, hk_program, rfl, rfl⟩
  · skip
    refine lv_astore_nN (lv' := [(3, .null), (0, .ref (ad 0)), (1, .int program), (2, .int from0)]) hx hb (dkP dF_78 DX11_parts (i := 3) rfl rfl) rfl hl (by decide) rfl (fun ls hl => ?_)
    refine lv_aload_nN hx hb (dkP dF_45 DX11_parts (i := 4) rfl rfl) rfl (lv_at hl 0 rfl) ?_
    refine lv_ifnullN (tgt := 25) hx hb (dkS dF_198 DX11_parts (i := 5) rfl rfl rfl) (by decide) ?_
    refine lv_bipush (v := (-2)) hx hb (dks dF_16 DX11_parts (i := 13) rfl rfl rfl) (by decide) ?_
    exact z_iret C0 hr hlk hw (⟨hJ, hT, frC.refl⟩) (dkP dF_172 DX11_parts (i := 14) rfl rfl)
  · skip
    obtain ⟨t1, u1, hto1, ht1, hun1, hu1, hVP⟩ := hJ.prog hk_program
    obtain ⟨hLH, ⟨zo, uo, hzo, hzo24, hVo⟩, zn, un, K_, hzn, hzn40, hVn⟩ := id hVP
    refine lv_astore_n (lv' := [(3, .ref (ad (8 + 22 * k_program))), (0, .ref (ad 0)), (1, .int (nI k_program)), (2, .int from0)]) hx hb (dkP dF_78 DX11_parts (i := 3) rfl rfl) rfl hl (by decide) rfl (fun ls hl => ?_)
    refine lv_aload_n hx hb (dkP dF_45 DX11_parts (i := 4) rfl rfl) rfl (lv_at hl 0 rfl) ?_
    refine lv_ifnull hx hb (dkS dF_198 DX11_parts (i := 5) rfl rfl rfl) ?_
    refine lv_aload_n hx hb (dkP dF_45 DX11_parts (i := 6) rfl rfl) rfl (lv_at hl 0 rfl) ?_
    refine zk_I hw (zr_V (As := []) (rest := []) C0 (c_X4_hasBoth l G kc ad σ (8 + 22 * k_program) (pgm k_program (by omega)) hto1 ht1 hun1 hu1 hT _) cv_X4_hasBoth lk_X11_221 (zp_V C0 hRo hw (8 + 22 * k_program) (shp_8 k_program (by omega)) rfl rfl) rfl hl.1 rfl ⟨by decide, by decide⟩ (Nat.le_of_ble_eq_true rfl) (dk2 dF_182 DX11_parts (i := 7) rfl rfl rfl) ⟨Nat.le_refl _, Nat.le_refl _⟩) (fun r2 s2 H locs hp hw => ?_)
    obtain ⟨f2_0, hs2⟩ := hp
    (rw [hs2] at hw)
    rcases f2_0 with ⟨rfl, hc2⟩ | ⟨rfl, hc2⟩
    · skip
      refine lv_if_eq (tgt := 25) hx hb (dkS dF_153 DX11_parts (i := 8) rfl rfl rfl) (by decide) (fun h => absurd h (by decide)) (fun _ => ?_)
      refine lv_aload_n hx hb (dkP dF_45 DX11_parts (i := 9) rfl rfl) rfl (lv_at hl 0 rfl) ?_
      refine lv_iload_n hx hb (dkP dF_28 DX11_parts (i := 10) rfl rfl) rfl (lv_at hl 3 rfl) ?_
      refine zk_I hw (zr_V (As := [.int from0]) (rest := []) C0 (c_X4_hasInput l G kc ad σ (8 + 22 * k_program) from0 (pgm k_program (by omega)) hT _) cv_X4_hasInput lk_X11_150 (zp_V C0 hRo hw (8 + 22 * k_program) (shp_8 k_program (by omega)) rfl rfl) rfl hl.1 rfl ⟨by decide, by decide⟩ (Nat.le_of_ble_eq_true rfl) (dk2 dF_182 DX11_parts (i := 11) rfl rfl rfl) ⟨Nat.le_refl _, Nat.le_refl _⟩) (fun r3 s3 H locs hp hw => ?_)
      obtain ⟨f3_0, hs3⟩ := hp
      (rw [hs3] at hw)
      rcases f3_0 with ⟨rfl, hc3⟩ | ⟨rfl, hc3⟩
      · skip
        refine lv_if_ne (tgt := 28) hx hb (dkS dF_154 DX11_parts (i := 12) rfl rfl rfl) (by decide) (fun _ => ?_) (fun h => absurd h (by decide))
        obtain ⟨fn, hfn, rfl⟩ := to_nat (x := from0) (n := 2147483648) (by have hz0 := i32b from0; (try simp only [lg_cmp_lt, lg_cmp_le, lg_cmp_gt, lg_cmp_ge, lg_cmp_eq] at f2_0); (try simp (disch := omega) only [ta_lt, ta_le, ta_eq, tb_lt, tb_le, tb_eq, tw, tnI, tsub1, tsv, tsb32, tn32 2 (by decide), tnj 2 (by decide), tn32 1 (by decide), tnj 1 (by decide), tl32 0 (by decide), tl64 0 (by decide)] at f2_0); (try simp only [lg_cmp_lt, lg_cmp_le, lg_cmp_gt, lg_cmp_ge, lg_cmp_eq] at hc2); (try simp (disch := omega) only [ta_lt, ta_le, ta_eq, tb_lt, tb_le, tb_eq, tw, tnI, tsub1, tsv, tsb32, tn32 2 (by decide), tnj 2 (by decide), tn32 1 (by decide), tnj 1 (by decide), tl32 0 (by decide), tl64 0 (by decide)] at hc2); (try simp only [lg_cmp_lt, lg_cmp_le, lg_cmp_gt, lg_cmp_ge, lg_cmp_eq] at f3_0); (try simp (disch := omega) only [ta_lt, ta_le, ta_eq, tb_lt, tb_le, tb_eq, tw, tnI, tsub1, tsv, tsb32, tn32 2 (by decide), tnj 2 (by decide), tn32 1 (by decide), tnj 1 (by decide), tl32 0 (by decide), tl64 0 (by decide)] at f3_0); (try simp only [lg_cmp_lt, lg_cmp_le, lg_cmp_gt, lg_cmp_ge, lg_cmp_eq] at hc3); (try simp (disch := omega) only [ta_lt, ta_le, ta_eq, tb_lt, tb_le, tb_eq, tw, tnI, tsub1, tsv, tsb32, tn32 2 (by decide), tnj 2 (by decide), tn32 1 (by decide), tnj 1 (by decide), tl32 0 (by decide), tl64 0 (by decide)] at hc3); (try simp (disch := omega) only [ta_lt, ta_le, ta_eq, tb_lt, tb_le, tb_eq, tw, tnI, tsub1, tsv, tsb32, tn32 2 (by decide), tnj 2 (by decide), tn32 1 (by decide), tnj 1 (by decide), tl32 0 (by decide), tl64 0 (by decide)]); omega)
        refine lv_iload_n hx hb (dkP dF_28 DX11_parts (i := 15) rfl rfl) rfl (lv_at hl 3 rfl) ?_
        refine lv_istore (lv' := [(4, .int (nI fn)), (3, .ref (ad (8 + 22 * k_program))), (0, .ref (ad 0)), (1, .int (nI k_program)), (2, .int (nI fn))]) hx hb (dk1 dF_54 DX11_parts (i := 16) rfl rfl rfl) hl (by decide) rfl (fun ls hl => ?_)
        have lp5 : ∀ (nq : Nat) (q4_31 : Nat) (τ4 : Sg) (H : Heap) (locs : List Loc) (ls : Array Slot), 2147483647 - q4_31 < nq → (q4_31 ≤ 2147483647) → (TC τ4) → (frC (fun x y => (x = 210 ∧ y = 4) ∨ (x = 210 ∧ y = 5) ∨ (x = 210 ∧ y = 6) ∨ (x = 210 ∧ y = 8) ∨ (x = 211) ∨ (x = 213) ∨ (x = 214) ∨ (x = 215 ∧ y = 4) ∨ (x = 215 ∧ y = 5) ∨ (x = 215 ∧ y = 6) ∨ (x = 215 ∧ y = 7) ∨ (x = 215 ∧ y = 8) ∨ (x = 216) ∨ (x = 217) ∨ (x = 218) ∨ (x = 219)) σ τ4) → St G kc A s.heap shC ad τ4 H locs → lv_has ls 5 [(4, .int (nI q4_31)), (3, .ref (ad (8 + 22 * k_program))), (0, .ref (ad 0)), (1, .int (nI k_program)), (2, .int (nI fn))] → W pr l e { frames := 5, cells := 0, slots := 0, locals := 122 } s m ([.ref (ad 0), .int (nI k_program), .int (nI fn)] : List Value).toArray below meth c H locs 0 0 (MQ below (va_Qi (fun r σ1 => (JC σ1) ∧ TC σ1 ∧ frC (fun x y => (x = 210 ∧ y = 4) ∨ (x = 210 ∧ y = 5) ∨ (x = 210 ∧ y = 6) ∨ (x = 210 ∧ y = 8) ∨ (x = 211) ∨ (x = 213) ∨ (x = 214) ∨ (x = 215 ∧ y = 4) ∨ (x = 215 ∧ y = 5) ∨ (x = 215 ∧ y = 6) ∨ (x = 215 ∧ y = 7) ∨ (x = 215 ∧ y = 8) ∨ (x = 216) ∨ (x = 217) ∨ (x = 218) ∨ (x = 219)) σ σ1) (PoC G kc shC ad A) A) ([.ref (ad 0), .int (nI k_program), .int (nI fn)] : List Value).toArray s 0 0 A) (F0 m 31 ls []) := by
          intro nq
          induction nq with
          | zero => intro q4_31 τ4 H locs ls hmu; exact absurd hmu (Nat.not_lt_zero _)
          | succ nq ih5 =>
            intro q4_31 τ4 H locs ls hmu hq4_31 hT_τ4 hF_τ4 hw hl
            refine lv_iload hx hb (dk1 dF_21 DX11_parts (i := 17) rfl rfl rfl) (lv_at hl 0 rfl) ?_
            refine lv_aload_n hx hb (dkP dF_45 DX11_parts (i := 18) rfl rfl) rfl (lv_at hl 1 rfl) ?_
            refine z_gi C0 hw (8 + 22 * k_program) 4 (fk_of (shp_8 k_program (by omega)) rfl) fl_X11_143 (dk2 dF_180 DX11_parts (i := 19) rfl rfl rfl) ?_
            obtain ⟨v6, ev6⟩ : ∃ y : Int32, τ4.1 (8 + 22 * k_program) 4 = y := ⟨_, rfl⟩
            refine z_top (y := v6) ev6 ?_
            refine lv_icmp_ge (tgt := 59) hx hb (dkS dF_162 DX11_parts (i := 20) rfl rfl rfl) (by decide) (fun c7 => ?_) (fun c7 => ?_)
            · (try simp (disch := omega) only [ta_lt, ta_le, ta_eq, tnI] at c7); have hz7 := i32b v6
              refine lv_iconst (v := (-1)) hx hb (dkP dF_2 DX11_parts (i := 30) rfl rfl) (by decide) ?_
              exact z_iret C0 hr hlk hw (⟨(hJ.fr hF_τ4.2 (fun x y hj => hF_τ4.1 x y (fun h_ => by have h_ : (x = 210 ∧ y = 4) ∨ (x = 210 ∧ y = 5) ∨ (x = 210 ∧ y = 6) ∨ (x = 210 ∧ y = 8) ∨ (x = 211) ∨ (x = 213) ∨ (x = 214) ∨ (x = 215 ∧ y = 4) ∨ (x = 215 ∧ y = 5) ∨ (x = 215 ∧ y = 6) ∨ (x = 215 ∧ y = 7) ∨ (x = 215 ∧ y = 8) ∨ (x = 216) ∨ (x = 217) ∨ (x = 218) ∨ (x = 219) := h_; unfold jcq at hj; rcases h_ with h_ | h_ | h_ | h_ | h_ | h_ | h_ | h_ | h_ | h_ | h_ | h_ | h_ | h_ | h_ | h_; (· omega); (· omega); (· omega); (· omega); (· omega); (· omega); (· omega); (· omega); (· omega); (· omega); (· omega); (· omega); (· omega); (· omega); (· omega); (· omega)))), hT_τ4, hF_τ4⟩) (dkP dF_172 DX11_parts (i := 31) rfl rfl)
            · (try simp (disch := omega) only [ta_lt, ta_le, ta_eq, tnI] at c7); have hz7 := i32b v6
              refine lv_aload_n hx hb (dkP dF_42 DX11_parts (i := 21) rfl rfl) rfl (lv_at hl 2 rfl) ?_
              refine lv_aload_n hx hb (dkP dF_45 DX11_parts (i := 22) rfl rfl) rfl (lv_at hl 1 rfl) ?_
              refine lv_iload hx hb (dk1 dF_21 DX11_parts (i := 23) rfl rfl rfl) (lv_at hl 0 rfl) ?_
              refine zk_I hw (zr_V (As := [.ref (ad (8 + 22 * k_program)), .int (nI q4_31)]) (rest := []) C0 (c_X11_unlikeBits l G kc ad τ4 (8 + 22 * k_program) (nI q4_31) (pgm k_program (by omega)) ((congrFun (congrFun hF_τ4.2 _) _).trans hto1) ht1 ((congrFun (congrFun hF_τ4.2 _) _).trans hun1) hu1 (hVP.v (fun x y hx => hF_τ4.1 x y (fun h_ => by have hj := hJ.arv (k := k_program) (by omega) hto1 hun1 hx; have h_ : (x = 210 ∧ y = 4) ∨ (x = 210 ∧ y = 5) ∨ (x = 210 ∧ y = 6) ∨ (x = 210 ∧ y = 8) ∨ (x = 211) ∨ (x = 213) ∨ (x = 214) ∨ (x = 215 ∧ y = 4) ∨ (x = 215 ∧ y = 5) ∨ (x = 215 ∧ y = 6) ∨ (x = 215 ∧ y = 7) ∨ (x = 215 ∧ y = 8) ∨ (x = 216) ∨ (x = 217) ∨ (x = 218) ∨ (x = 219) := h_; unfold jcq at hj; rcases h_ with h_ | h_ | h_ | h_ | h_ | h_ | h_ | h_ | h_ | h_ | h_ | h_ | h_ | h_ | h_ | h_; (· omega); (· omega); (· omega); (· omega); (· omega); (· omega); (· omega); (· omega); (· omega); (· omega); (· omega); (· omega); (· omega); (· omega); (· omega); (· omega)))) hT_τ4 _) cv_X11_unlikeBits lk_X11_224 (zp_V C0 hRo hw 0 shc_0 rfl rfl) rfl hl.1 rfl ⟨by decide, by decide⟩ (Nat.le_of_ble_eq_true rfl) (dk2 dF_182 DX11_parts (i := 24) rfl rfl rfl) ⟨Nat.le_refl _, Nat.le_refl _⟩) (fun r8 s8 H locs hp hw => ?_)
              obtain ⟨hT8, hG8⟩ := hp
              have hF8 : frC (fun x y => (x = 210 ∧ y = 4) ∨ (x = 210 ∧ y = 5) ∨ (x = 210 ∧ y = 6) ∨ (x = 210 ∧ y = 8) ∨ (x = 211) ∨ (x = 213) ∨ (x = 214) ∨ (x = 215 ∧ y = 4) ∨ (x = 215 ∧ y = 5) ∨ (x = 215 ∧ y = 6) ∨ (x = 215 ∧ y = 7) ∨ (x = 215 ∧ y = 8) ∨ (x = 216) ∨ (x = 217) ∨ (x = 218) ∨ (x = 219)) σ s8 := frC.t hF_τ4 hG8 (fun x y h => by have h : (x = 210 ∧ y = 4) ∨ (x = 210 ∧ y = 5) ∨ (x = 210 ∧ y = 6) ∨ (x = 210 ∧ y = 8) ∨ (x = 211) ∨ (x = 213) ∨ (x = 214) ∨ (x = 215 ∧ y = 4) ∨ (x = 215 ∧ y = 5) ∨ (x = 215 ∧ y = 6) ∨ (x = 215 ∧ y = 7) ∨ (x = 215 ∧ y = 8) ∨ (x = 216) ∨ (x = 217) ∨ (x = 218) ∨ (x = 219) := h; show (x = 210 ∧ y = 4) ∨ (x = 210 ∧ y = 5) ∨ (x = 210 ∧ y = 6) ∨ (x = 210 ∧ y = 8) ∨ (x = 211) ∨ (x = 213) ∨ (x = 214) ∨ (x = 215 ∧ y = 4) ∨ (x = 215 ∧ y = 5) ∨ (x = 215 ∧ y = 6) ∨ (x = 215 ∧ y = 7) ∨ (x = 215 ∧ y = 8) ∨ (x = 216) ∨ (x = 217) ∨ (x = 218) ∨ (x = 219); rcases h with h | h | h | h | h | h | h | h | h | h | h | h | h | h | h | h; (· exact Or.inl h); (· exact Or.inr (Or.inl h)); (· exact Or.inr (Or.inr (Or.inl h))); (· exact Or.inr (Or.inr (Or.inr (Or.inl h)))); (· exact Or.inr (Or.inr (Or.inr (Or.inr (Or.inl h))))); (· exact Or.inr (Or.inr (Or.inr (Or.inr (Or.inr (Or.inl h)))))); (· exact Or.inr (Or.inr (Or.inr (Or.inr (Or.inr (Or.inr (Or.inl h))))))); (· exact Or.inr (Or.inr (Or.inr (Or.inr (Or.inr (Or.inr (Or.inr (Or.inl h)))))))); (· exact Or.inr (Or.inr (Or.inr (Or.inr (Or.inr (Or.inr (Or.inr (Or.inr (Or.inl h))))))))); (· exact Or.inr (Or.inr (Or.inr (Or.inr (Or.inr (Or.inr (Or.inr (Or.inr (Or.inr (Or.inl h)))))))))); (· exact Or.inr (Or.inr (Or.inr (Or.inr (Or.inr (Or.inr (Or.inr (Or.inr (Or.inr (Or.inr (Or.inl h))))))))))); (· exact Or.inr (Or.inr (Or.inr (Or.inr (Or.inr (Or.inr (Or.inr (Or.inr (Or.inr (Or.inr (Or.inr (Or.inl h)))))))))))); (· exact Or.inr (Or.inr (Or.inr (Or.inr (Or.inr (Or.inr (Or.inr (Or.inr (Or.inr (Or.inr (Or.inr (Or.inr (Or.inl h))))))))))))); (· exact Or.inr (Or.inr (Or.inr (Or.inr (Or.inr (Or.inr (Or.inr (Or.inr (Or.inr (Or.inr (Or.inr (Or.inr (Or.inr (Or.inl h)))))))))))))); (· exact Or.inr (Or.inr (Or.inr (Or.inr (Or.inr (Or.inr (Or.inr (Or.inr (Or.inr (Or.inr (Or.inr (Or.inr (Or.inr (Or.inr (Or.inl h))))))))))))))); (· exact Or.inr (Or.inr (Or.inr (Or.inr (Or.inr (Or.inr (Or.inr (Or.inr (Or.inr (Or.inr (Or.inr (Or.inr (Or.inr (Or.inr (Or.inr (h)))))))))))))))))
              refine lv_if_eq (tgt := 53) hx hb (dkS dF_153 DX11_parts (i := 25) rfl rfl rfl) (by decide) (fun c9 => ?_) (fun c9 => ?_)
              · (try simp (disch := omega) only [ta_lt, ta_le, ta_eq, tnI, tl32 0 (by decide)] at c9)
                refine lv_iinc (v := nI (q4_31 + 1)) (lv' := [(4, .int (nI (q4_31 + 1))), (3, .ref (ad (8 + 22 * k_program))), (0, .ref (ad 0)), (1, .int (nI k_program)), (2, .int (nI fn))]) hx hb (dkI DX11_parts (i := 28) rfl rfl rfl rfl) hl (k := 0) rfl (nI_1 _) (by decide) rfl (fun ls hl => ?_)
                refine lv_goto (tgt := 31) hx hb (dkS dF_167 DX11_parts (i := 29) rfl rfl rfl) (by decide) ?_
                exact ih5 (q4_31 + 1) s8 _ _ _ (by omega) (by (try simp only [lg_cmp_lt, lg_cmp_le, lg_cmp_gt, lg_cmp_ge, lg_cmp_eq] at f2_0); (try simp (disch := omega) only [ta_lt, ta_le, ta_eq, tb_lt, tb_le, tb_eq, tw, tnI, tsub1, tsv, tsb32, tn32 2 (by decide), tnj 2 (by decide), tn32 1 (by decide), tnj 1 (by decide), tl32 0 (by decide), tl64 0 (by decide)] at f2_0); (try simp only [lg_cmp_lt, lg_cmp_le, lg_cmp_gt, lg_cmp_ge, lg_cmp_eq] at hc2); (try simp (disch := omega) only [ta_lt, ta_le, ta_eq, tb_lt, tb_le, tb_eq, tw, tnI, tsub1, tsv, tsb32, tn32 2 (by decide), tnj 2 (by decide), tn32 1 (by decide), tnj 1 (by decide), tl32 0 (by decide), tl64 0 (by decide)] at hc2); (try simp only [lg_cmp_lt, lg_cmp_le, lg_cmp_gt, lg_cmp_ge, lg_cmp_eq] at f3_0); (try simp (disch := omega) only [ta_lt, ta_le, ta_eq, tb_lt, tb_le, tb_eq, tw, tnI, tsub1, tsv, tsb32, tn32 2 (by decide), tnj 2 (by decide), tn32 1 (by decide), tnj 1 (by decide), tl32 0 (by decide), tl64 0 (by decide)] at f3_0); (try simp only [lg_cmp_lt, lg_cmp_le, lg_cmp_gt, lg_cmp_ge, lg_cmp_eq] at hc3); (try simp (disch := omega) only [ta_lt, ta_le, ta_eq, tb_lt, tb_le, tb_eq, tw, tnI, tsub1, tsv, tsb32, tn32 2 (by decide), tnj 2 (by decide), tn32 1 (by decide), tnj 1 (by decide), tl32 0 (by decide), tl64 0 (by decide)] at hc3); (try simp only [lg_cmp_lt, lg_cmp_le, lg_cmp_gt, lg_cmp_ge, lg_cmp_eq] at c7); (try simp (disch := omega) only [ta_lt, ta_le, ta_eq, tb_lt, tb_le, tb_eq, tw, tnI, tsub1, tsv, tsb32, tn32 2 (by decide), tnj 2 (by decide), tn32 1 (by decide), tnj 1 (by decide), tl32 0 (by decide), tl64 0 (by decide)] at c7); (try simp only [lg_cmp_lt, lg_cmp_le, lg_cmp_gt, lg_cmp_ge, lg_cmp_eq] at c9); (try simp (disch := omega) only [ta_lt, ta_le, ta_eq, tb_lt, tb_le, tb_eq, tw, tnI, tsub1, tsv, tsb32, tn32 2 (by decide), tnj 2 (by decide), tn32 1 (by decide), tnj 1 (by decide), tl32 0 (by decide), tl64 0 (by decide)] at c9); (try simp (disch := omega) only [ta_lt, ta_le, ta_eq, tb_lt, tb_le, tb_eq, tw, tnI, tsub1, tsv, tsb32, tn32 2 (by decide), tnj 2 (by decide), tn32 1 (by decide), tnj 1 (by decide), tl32 0 (by decide), tl64 0 (by decide)]); omega) hT8 hF8 hw (lv_sub hl [0, 1, 2, 3, 4] rfl)
              · (try simp (disch := omega) only [ta_lt, ta_le, ta_eq, tnI, tl32 0 (by decide)] at c9)
                refine lv_iload hx hb (dk1 dF_21 DX11_parts (i := 26) rfl rfl rfl) (lv_at hl 0 rfl) ?_
                exact z_iret C0 hr hlk hw (⟨(hJ.fr hF8.2 (fun x y hj => hF8.1 x y (fun h_ => by have h_ : (x = 210 ∧ y = 4) ∨ (x = 210 ∧ y = 5) ∨ (x = 210 ∧ y = 6) ∨ (x = 210 ∧ y = 8) ∨ (x = 211) ∨ (x = 213) ∨ (x = 214) ∨ (x = 215 ∧ y = 4) ∨ (x = 215 ∧ y = 5) ∨ (x = 215 ∧ y = 6) ∨ (x = 215 ∧ y = 7) ∨ (x = 215 ∧ y = 8) ∨ (x = 216) ∨ (x = 217) ∨ (x = 218) ∨ (x = 219) := h_; unfold jcq at hj; rcases h_ with h_ | h_ | h_ | h_ | h_ | h_ | h_ | h_ | h_ | h_ | h_ | h_ | h_ | h_ | h_ | h_; (· omega); (· omega); (· omega); (· omega); (· omega); (· omega); (· omega); (· omega); (· omega); (· omega); (· omega); (· omega); (· omega); (· omega); (· omega); (· omega)))), hT8, hF8⟩) (dkP dF_172 DX11_parts (i := 27) rfl rfl)
        exact lp5 _ fn σ _ _ _ (Nat.lt_succ_self _) (by (try simp only [lg_cmp_lt, lg_cmp_le, lg_cmp_gt, lg_cmp_ge, lg_cmp_eq] at f2_0); (try simp (disch := omega) only [ta_lt, ta_le, ta_eq, tb_lt, tb_le, tb_eq, tw, tnI, tsub1, tsv, tsb32, tn32 2 (by decide), tnj 2 (by decide), tn32 1 (by decide), tnj 1 (by decide), tl32 0 (by decide), tl64 0 (by decide)] at f2_0); (try simp only [lg_cmp_lt, lg_cmp_le, lg_cmp_gt, lg_cmp_ge, lg_cmp_eq] at hc2); (try simp (disch := omega) only [ta_lt, ta_le, ta_eq, tb_lt, tb_le, tb_eq, tw, tnI, tsub1, tsv, tsb32, tn32 2 (by decide), tnj 2 (by decide), tn32 1 (by decide), tnj 1 (by decide), tl32 0 (by decide), tl64 0 (by decide)] at hc2); (try simp only [lg_cmp_lt, lg_cmp_le, lg_cmp_gt, lg_cmp_ge, lg_cmp_eq] at f3_0); (try simp (disch := omega) only [ta_lt, ta_le, ta_eq, tb_lt, tb_le, tb_eq, tw, tnI, tsub1, tsv, tsb32, tn32 2 (by decide), tnj 2 (by decide), tn32 1 (by decide), tnj 1 (by decide), tl32 0 (by decide), tl64 0 (by decide)] at f3_0); (try simp only [lg_cmp_lt, lg_cmp_le, lg_cmp_gt, lg_cmp_ge, lg_cmp_eq] at hc3); (try simp (disch := omega) only [ta_lt, ta_le, ta_eq, tb_lt, tb_le, tb_eq, tw, tnI, tsub1, tsv, tsb32, tn32 2 (by decide), tnj 2 (by decide), tn32 1 (by decide), tnj 1 (by decide), tl32 0 (by decide), tl64 0 (by decide)] at hc3); (try simp (disch := omega) only [ta_lt, ta_le, ta_eq, tb_lt, tb_le, tb_eq, tw, tnI, tsub1, tsv, tsb32, tn32 2 (by decide), tnj 2 (by decide), tn32 1 (by decide), tnj 1 (by decide), tl32 0 (by decide), tl64 0 (by decide)]); omega) hT frC.refl hw (lv_sub hl [0, 1, 2, 3, 4] rfl)
      · skip
        refine lv_if_ne (tgt := 28) hx hb (dkS dF_154 DX11_parts (i := 12) rfl rfl rfl) (by decide) (fun h => absurd h (by decide)) (fun _ => ?_)
        refine lv_bipush (v := (-2)) hx hb (dks dF_16 DX11_parts (i := 13) rfl rfl rfl) (by decide) ?_
        exact z_iret C0 hr hlk hw (⟨hJ, hT, frC.refl⟩) (dkP dF_172 DX11_parts (i := 14) rfl rfl)
    · skip
      refine lv_if_eq (tgt := 25) hx hb (dkS dF_153 DX11_parts (i := 8) rfl rfl rfl) (by decide) (fun _ => ?_) (fun h => absurd h (by decide))
      refine lv_bipush (v := (-2)) hx hb (dks dF_16 DX11_parts (i := 13) rfl rfl rfl) (by decide) ?_
      exact z_iret C0 hr hlk hw (⟨hJ, hT, frC.refl⟩) (dkP dF_172 DX11_parts (i := 14) rfl rfl)
set_option maxRecDepth 100000 in
set_option maxHeartbeats 8000000 in
theorem c_X11_where (l : Launch) (G : va_G) (kc : KC) (ad : Nat → Nat) (σ : Sg) (program : Int32) (inp : Int32) (hJ : JC σ) (hT : TC σ) : MI l G kc yX11_where cX11_where 4 (some .int) 5 122 [.ref (ad 0), .int program, .int inp] shC ad σ (fun r σ1 => (JC σ1) ∧ TC σ1 ∧ frC (fun x y => (x = 210 ∧ y = 4) ∨ (x = 210 ∧ y = 5) ∨ (x = 210 ∧ y = 6) ∨ (x = 210 ∧ y = 8) ∨ (x = 211) ∨ (x = 213) ∨ (x = 214) ∨ (x = 215 ∧ y = 4) ∨ (x = 215 ∧ y = 5) ∨ (x = 215 ∧ y = 6) ∨ (x = 215 ∧ y = 7) ∨ (x = 215 ∧ y = 8) ∨ (x = 216) ∨ (x = 217) ∨ (x = 218) ∨ (x = 219)) σ σ1) := by
  intro sz
  refine z_body (y := yX11_where) (n := 4) (av := [.ref (ad 0), .int program, .int inp]) (Qc := fun A => va_Qi (fun r σ1 => (JC σ1) ∧ TC σ1 ∧ frC (fun x y => (x = 210 ∧ y = 4) ∨ (x = 210 ∧ y = 5) ∨ (x = 210 ∧ y = 6) ∨ (x = 210 ∧ y = 8) ∨ (x = 211) ∨ (x = 213) ∨ (x = 214) ∨ (x = 215 ∧ y = 4) ∨ (x = 215 ∧ y = 5) ∨ (x = 215 ∧ y = 6) ∨ (x = 215 ∧ y = 7) ∨ (x = 215 ∧ y = 8) ∨ (x = 216) ∨ (x = 217) ∨ (x = 218) ∨ (x = 219)) σ σ1) (PoC G kc shC ad A) A) (plainFor_of_name (by decide)) (Nat.le_of_ble_eq_true rfl) (fun pr e s m below meth c A C0 hr hlk hnm hw hRo ls hl => ?_) sz
  have hx := C0.1
  have hb := C0.2.1
  have hown := C0.2.2.2.1
  have hts := C0.2.2.2.2.1
  have hl : lv_has ls 4 [(0, .ref (ad 0)), (1, .int program), (2, .int inp)] := hl
  obtain ⟨t, u, hto, ht, hun, hu⟩ := hJ.rdr
  obtain ⟨wa, wb, hwa_, hwa, hwb_, hwb, hwab⟩ := hJ.wts
  refine lv_aload_n hx hb (dkP dF_42 DX11_where (i := 0) rfl rfl) rfl (lv_at hl 0 rfl) ?_
  refine lv_iload_n hx hb (dkP dF_27 DX11_where (i := 1) rfl rfl) rfl (lv_at hl 1 rfl) ?_
  refine zk_R hw (zr_V (As := [.int program]) (rest := []) C0 (c_X11_programAt l G kc ad σ program  _) cv_X11_programAt lk_X11_84 (zp_V C0 hRo hw 0 shc_0 rfl rfl) rfl hl.1 rfl ⟨by decide, by decide⟩ (Nat.le_of_ble_eq_true rfl) (dk2 dF_182 DX11_where (i := 2) rfl rfl rfl) ⟨Nat.le_refl _, Nat.le_refl _⟩) (fun r1 s1 H locs hp hw => ?_)
  obtain ⟨hq1, hs1⟩ := hp
  (rw [hs1] at hw)
  rcases hq1 with ⟨hc1, rfl⟩ | ⟨k_program, hk_program, rfl, rfl⟩
  · skip
    refine lv_astore_nN (lv' := [(3, .null), (0, .ref (ad 0)), (1, .int program), (2, .int inp)]) hx hb (dkP dF_78 DX11_where (i := 3) rfl rfl) rfl hl (by decide) rfl (fun ls hl => ?_)
    refine lv_aload_nN hx hb (dkP dF_45 DX11_where (i := 4) rfl rfl) rfl (lv_at hl 0 rfl) ?_
    refine lv_ifnullN (tgt := 25) hx hb (dkS dF_198 DX11_where (i := 5) rfl rfl rfl) (by decide) ?_
    refine lv_bipush (v := (-2)) hx hb (dks dF_16 DX11_where (i := 13) rfl rfl rfl) (by decide) ?_
    exact z_iret C0 hr hlk hw (⟨hJ, hT, frC.refl⟩) (dkP dF_172 DX11_where (i := 14) rfl rfl)
  · skip
    obtain ⟨t1, u1, hto1, ht1, hun1, hu1, hVP⟩ := hJ.prog hk_program
    obtain ⟨hLH, ⟨zo, uo, hzo, hzo24, hVo⟩, zn, un, K_, hzn, hzn40, hVn⟩ := id hVP
    refine lv_astore_n (lv' := [(3, .ref (ad (8 + 22 * k_program))), (0, .ref (ad 0)), (1, .int (nI k_program)), (2, .int inp)]) hx hb (dkP dF_78 DX11_where (i := 3) rfl rfl) rfl hl (by decide) rfl (fun ls hl => ?_)
    refine lv_aload_n hx hb (dkP dF_45 DX11_where (i := 4) rfl rfl) rfl (lv_at hl 0 rfl) ?_
    refine lv_ifnull hx hb (dkS dF_198 DX11_where (i := 5) rfl rfl rfl) ?_
    refine lv_aload_n hx hb (dkP dF_45 DX11_where (i := 6) rfl rfl) rfl (lv_at hl 0 rfl) ?_
    refine zk_I hw (zr_V (As := []) (rest := []) C0 (c_X4_hasBoth l G kc ad σ (8 + 22 * k_program) (pgm k_program (by omega)) hto1 ht1 hun1 hu1 hT _) cv_X4_hasBoth lk_X11_221 (zp_V C0 hRo hw (8 + 22 * k_program) (shp_8 k_program (by omega)) rfl rfl) rfl hl.1 rfl ⟨by decide, by decide⟩ (Nat.le_of_ble_eq_true rfl) (dk2 dF_182 DX11_where (i := 7) rfl rfl rfl) ⟨Nat.le_refl _, Nat.le_refl _⟩) (fun r2 s2 H locs hp hw => ?_)
    obtain ⟨f2_0, hs2⟩ := hp
    (rw [hs2] at hw)
    rcases f2_0 with ⟨rfl, hc2⟩ | ⟨rfl, hc2⟩
    · skip
      refine lv_if_eq (tgt := 25) hx hb (dkS dF_153 DX11_where (i := 8) rfl rfl rfl) (by decide) (fun h => absurd h (by decide)) (fun _ => ?_)
      refine lv_aload_n hx hb (dkP dF_45 DX11_where (i := 9) rfl rfl) rfl (lv_at hl 0 rfl) ?_
      refine lv_iload_n hx hb (dkP dF_28 DX11_where (i := 10) rfl rfl) rfl (lv_at hl 3 rfl) ?_
      refine zk_I hw (zr_V (As := [.int inp]) (rest := []) C0 (c_X4_hasInput l G kc ad σ (8 + 22 * k_program) inp (pgm k_program (by omega)) hT _) cv_X4_hasInput lk_X11_150 (zp_V C0 hRo hw (8 + 22 * k_program) (shp_8 k_program (by omega)) rfl rfl) rfl hl.1 rfl ⟨by decide, by decide⟩ (Nat.le_of_ble_eq_true rfl) (dk2 dF_182 DX11_where (i := 11) rfl rfl rfl) ⟨Nat.le_refl _, Nat.le_refl _⟩) (fun r3 s3 H locs hp hw => ?_)
      obtain ⟨f3_0, hs3⟩ := hp
      (rw [hs3] at hw)
      rcases f3_0 with ⟨rfl, hc3⟩ | ⟨rfl, hc3⟩
      · skip
        refine lv_if_ne (tgt := 28) hx hb (dkS dF_154 DX11_where (i := 12) rfl rfl rfl) (by decide) (fun _ => ?_) (fun h => absurd h (by decide))
        refine lv_aload_n hx hb (dkP dF_42 DX11_where (i := 15) rfl rfl) rfl (lv_at hl 1 rfl) ?_
        refine lv_aload_n hx hb (dkP dF_45 DX11_where (i := 16) rfl rfl) rfl (lv_at hl 0 rfl) ?_
        refine lv_iload_n hx hb (dkP dF_28 DX11_where (i := 17) rfl rfl) rfl (lv_at hl 3 rfl) ?_
        refine zk_I hw (zr_V (As := [.ref (ad (8 + 22 * k_program)), .int inp]) (rest := []) C0 (c_X11_unlikeBits l G kc ad σ (8 + 22 * k_program) inp (pgm k_program (by omega)) hto1 ht1 hun1 hu1 hVP hT _) cv_X11_unlikeBits lk_X11_224 (zp_V C0 hRo hw 0 shc_0 rfl rfl) rfl hl.1 rfl ⟨by decide, by decide⟩ (Nat.le_of_ble_eq_true rfl) (dk2 dF_182 DX11_where (i := 18) rfl rfl rfl) ⟨Nat.le_refl _, Nat.le_refl _⟩) (fun r4 s4 H locs hp hw => ?_)
        obtain ⟨hT4, hG4⟩ := hp
        have hF4 : frC (fun x y => (x = 210 ∧ y = 4) ∨ (x = 210 ∧ y = 5) ∨ (x = 210 ∧ y = 6) ∨ (x = 210 ∧ y = 8) ∨ (x = 211) ∨ (x = 213) ∨ (x = 214) ∨ (x = 215 ∧ y = 4) ∨ (x = 215 ∧ y = 5) ∨ (x = 215 ∧ y = 6) ∨ (x = 215 ∧ y = 7) ∨ (x = 215 ∧ y = 8) ∨ (x = 216) ∨ (x = 217) ∨ (x = 218) ∨ (x = 219)) σ s4 := frC.t frC.refl hG4 (fun x y h => by have h : (x = 210 ∧ y = 4) ∨ (x = 210 ∧ y = 5) ∨ (x = 210 ∧ y = 6) ∨ (x = 210 ∧ y = 8) ∨ (x = 211) ∨ (x = 213) ∨ (x = 214) ∨ (x = 215 ∧ y = 4) ∨ (x = 215 ∧ y = 5) ∨ (x = 215 ∧ y = 6) ∨ (x = 215 ∧ y = 7) ∨ (x = 215 ∧ y = 8) ∨ (x = 216) ∨ (x = 217) ∨ (x = 218) ∨ (x = 219) := h; show (x = 210 ∧ y = 4) ∨ (x = 210 ∧ y = 5) ∨ (x = 210 ∧ y = 6) ∨ (x = 210 ∧ y = 8) ∨ (x = 211) ∨ (x = 213) ∨ (x = 214) ∨ (x = 215 ∧ y = 4) ∨ (x = 215 ∧ y = 5) ∨ (x = 215 ∧ y = 6) ∨ (x = 215 ∧ y = 7) ∨ (x = 215 ∧ y = 8) ∨ (x = 216) ∨ (x = 217) ∨ (x = 218) ∨ (x = 219); rcases h with h | h | h | h | h | h | h | h | h | h | h | h | h | h | h | h; (· exact Or.inl h); (· exact Or.inr (Or.inl h)); (· exact Or.inr (Or.inr (Or.inl h))); (· exact Or.inr (Or.inr (Or.inr (Or.inl h)))); (· exact Or.inr (Or.inr (Or.inr (Or.inr (Or.inl h))))); (· exact Or.inr (Or.inr (Or.inr (Or.inr (Or.inr (Or.inl h)))))); (· exact Or.inr (Or.inr (Or.inr (Or.inr (Or.inr (Or.inr (Or.inl h))))))); (· exact Or.inr (Or.inr (Or.inr (Or.inr (Or.inr (Or.inr (Or.inr (Or.inl h)))))))); (· exact Or.inr (Or.inr (Or.inr (Or.inr (Or.inr (Or.inr (Or.inr (Or.inr (Or.inl h))))))))); (· exact Or.inr (Or.inr (Or.inr (Or.inr (Or.inr (Or.inr (Or.inr (Or.inr (Or.inr (Or.inl h)))))))))); (· exact Or.inr (Or.inr (Or.inr (Or.inr (Or.inr (Or.inr (Or.inr (Or.inr (Or.inr (Or.inr (Or.inl h))))))))))); (· exact Or.inr (Or.inr (Or.inr (Or.inr (Or.inr (Or.inr (Or.inr (Or.inr (Or.inr (Or.inr (Or.inr (Or.inl h)))))))))))); (· exact Or.inr (Or.inr (Or.inr (Or.inr (Or.inr (Or.inr (Or.inr (Or.inr (Or.inr (Or.inr (Or.inr (Or.inr (Or.inl h))))))))))))); (· exact Or.inr (Or.inr (Or.inr (Or.inr (Or.inr (Or.inr (Or.inr (Or.inr (Or.inr (Or.inr (Or.inr (Or.inr (Or.inr (Or.inl h)))))))))))))); (· exact Or.inr (Or.inr (Or.inr (Or.inr (Or.inr (Or.inr (Or.inr (Or.inr (Or.inr (Or.inr (Or.inr (Or.inr (Or.inr (Or.inr (Or.inl h))))))))))))))); (· exact Or.inr (Or.inr (Or.inr (Or.inr (Or.inr (Or.inr (Or.inr (Or.inr (Or.inr (Or.inr (Or.inr (Or.inr (Or.inr (Or.inr (Or.inr (h)))))))))))))))))
        exact z_iret C0 hr hlk hw (⟨(hJ.fr hF4.2 (fun x y hj => hF4.1 x y (fun h_ => by have h_ : (x = 210 ∧ y = 4) ∨ (x = 210 ∧ y = 5) ∨ (x = 210 ∧ y = 6) ∨ (x = 210 ∧ y = 8) ∨ (x = 211) ∨ (x = 213) ∨ (x = 214) ∨ (x = 215 ∧ y = 4) ∨ (x = 215 ∧ y = 5) ∨ (x = 215 ∧ y = 6) ∨ (x = 215 ∧ y = 7) ∨ (x = 215 ∧ y = 8) ∨ (x = 216) ∨ (x = 217) ∨ (x = 218) ∨ (x = 219) := h_; unfold jcq at hj; rcases h_ with h_ | h_ | h_ | h_ | h_ | h_ | h_ | h_ | h_ | h_ | h_ | h_ | h_ | h_ | h_ | h_; (· omega); (· omega); (· omega); (· omega); (· omega); (· omega); (· omega); (· omega); (· omega); (· omega); (· omega); (· omega); (· omega); (· omega); (· omega); (· omega)))), hT4, hF4⟩) (dkP dF_172 DX11_where (i := 19) rfl rfl)
      · skip
        refine lv_if_ne (tgt := 28) hx hb (dkS dF_154 DX11_where (i := 12) rfl rfl rfl) (by decide) (fun h => absurd h (by decide)) (fun _ => ?_)
        refine lv_bipush (v := (-2)) hx hb (dks dF_16 DX11_where (i := 13) rfl rfl rfl) (by decide) ?_
        exact z_iret C0 hr hlk hw (⟨hJ, hT, frC.refl⟩) (dkP dF_172 DX11_where (i := 14) rfl rfl)
    · skip
      refine lv_if_eq (tgt := 25) hx hb (dkS dF_153 DX11_where (i := 8) rfl rfl rfl) (by decide) (fun _ => ?_) (fun h => absurd h (by decide))
      refine lv_bipush (v := (-2)) hx hb (dks dF_16 DX11_where (i := 13) rfl rfl rfl) (by decide) ?_
      exact z_iret C0 hr hlk hw (⟨hJ, hT, frC.refl⟩) (dkP dF_172 DX11_where (i := 14) rfl rfl)
