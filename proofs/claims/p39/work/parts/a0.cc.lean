set_option maxRecDepth 100000 in
set_option maxHeartbeats 8000000 in
theorem c_X11_night (l : Launch) (G : va_G) (kc : KC) (ad : Nat → Nat) (σ : Sg) (program : Int32) (slot : Int32) (hJ : JC σ) (hT : TC σ) : MI l G kc yX11_night cX11_night 8 (some .int) 6 148 [.ref (ad 0), .int program, .int slot] shC ad σ (fun r σ1 => (JC σ1) ∧ TC σ1 ∧ frC (fun x y => (x % 22 = 8 ∧ 8 ≤ x ∧ x ≤ 162 ∧ y = 1) ∨ (x = 1 ∧ y = 4) ∨ (x = 1 ∧ y = 5) ∨ (x = 210 ∧ y = 4) ∨ (x = 210 ∧ y = 5) ∨ (x = 210 ∧ y = 6) ∨ (x = 210 ∧ y = 8) ∨ (x = 211) ∨ (x = 213) ∨ (x = 214) ∨ (x = 215 ∧ y = 4) ∨ (x = 215 ∧ y = 5) ∨ (x = 215 ∧ y = 6) ∨ (x = 215 ∧ y = 7) ∨ (x = 215 ∧ y = 8) ∨ (x = 216) ∨ (x = 217) ∨ (x = 218) ∨ (x = 219) ∨ (x = 5)) σ σ1) := by
  intro sz
  refine z_body (y := yX11_night) (n := 8) (av := [.ref (ad 0), .int program, .int slot]) (Qc := fun A => va_Qi (fun r σ1 => (JC σ1) ∧ TC σ1 ∧ frC (fun x y => (x % 22 = 8 ∧ 8 ≤ x ∧ x ≤ 162 ∧ y = 1) ∨ (x = 1 ∧ y = 4) ∨ (x = 1 ∧ y = 5) ∨ (x = 210 ∧ y = 4) ∨ (x = 210 ∧ y = 5) ∨ (x = 210 ∧ y = 6) ∨ (x = 210 ∧ y = 8) ∨ (x = 211) ∨ (x = 213) ∨ (x = 214) ∨ (x = 215 ∧ y = 4) ∨ (x = 215 ∧ y = 5) ∨ (x = 215 ∧ y = 6) ∨ (x = 215 ∧ y = 7) ∨ (x = 215 ∧ y = 8) ∨ (x = 216) ∨ (x = 217) ∨ (x = 218) ∨ (x = 219) ∨ (x = 5)) σ σ1) (PoC G kc shC ad A) A) (plainFor_of_name (by decide)) (Nat.le_of_ble_eq_true rfl) (fun pr e s m below meth c A C0 hr hlk hnm hw hRo ls hl => ?_) sz
  have hx := C0.1
  have hb := C0.2.1
  have hown := C0.2.2.2.1
  have hts := C0.2.2.2.2.1
  have hl : lv_has ls 8 [(0, .ref (ad 0)), (1, .int program), (2, .int slot)] := hl
  obtain ⟨t, u, hto, ht, hun, hu⟩ := hJ.rdr
  obtain ⟨wa, wb, hwa_, hwa, hwb_, hwb, hwab⟩ := hJ.wts
  refine lv_aload_n hx hb (dkP dF_42 DX11_night (i := 0) rfl rfl) rfl (lv_at hl 0 rfl) ?_
  refine lv_iload_n hx hb (dkP dF_27 DX11_night (i := 1) rfl rfl) rfl (lv_at hl 1 rfl) ?_
  refine zk_R hw (zr_V (As := [.int program]) (rest := []) C0 (c_X11_programAt l G kc ad σ program  _) cv_X11_programAt lk_X11_84 (zp_V C0 hRo hw 0 shc_0 rfl rfl) rfl hl.1 rfl ⟨by decide, by decide⟩ (Nat.le_of_ble_eq_true rfl) (dk2 dF_182 DX11_night (i := 2) rfl rfl rfl) ⟨Nat.le_refl _, Nat.le_refl _⟩) (fun r1 s1 H locs hp hw => ?_)
  obtain ⟨hq1, hs1⟩ := hp
  (rw [hs1] at hw)
  rcases hq1 with ⟨hc1, rfl⟩ | ⟨k_program, hk_program, rfl, rfl⟩
  · skip
    refine lv_astore_nN (lv' := [(3, .null), (0, .ref (ad 0)), (1, .int program), (2, .int slot)]) hx hb (dkP dF_78 DX11_night (i := 3) rfl rfl) rfl hl (by decide) rfl (fun ls hl => ?_)
    refine lv_aload_nN hx hb (dkP dF_45 DX11_night (i := 4) rfl rfl) rfl (lv_at hl 0 rfl) ?_
    refine lv_ifnullN (tgt := 36) hx hb (dkS dF_198 DX11_night (i := 5) rfl rfl rfl) (by decide) ?_
    refine lv_bipush (v := (-2)) hx hb (dks dF_16 DX11_night (i := 18) rfl rfl rfl) (by decide) ?_
    exact z_iret C0 hr hlk hw (⟨hJ, hT, frC.refl⟩) (dkP dF_172 DX11_night (i := 19) rfl rfl)
  · skip
    obtain ⟨t1, u1, hto1, ht1, hun1, hu1, hVP⟩ := hJ.prog hk_program
    obtain ⟨hLH, ⟨zo, uo, hzo, hzo24, hVo⟩, zn, un, K_, hzn, hzn40, hVn⟩ := id hVP
    refine lv_astore_n (lv' := [(3, .ref (ad (8 + 22 * k_program))), (0, .ref (ad 0)), (1, .int (nI k_program)), (2, .int slot)]) hx hb (dkP dF_78 DX11_night (i := 3) rfl rfl) rfl hl (by decide) rfl (fun ls hl => ?_)
    refine lv_aload_n hx hb (dkP dF_45 DX11_night (i := 4) rfl rfl) rfl (lv_at hl 0 rfl) ?_
    refine lv_ifnull hx hb (dkS dF_198 DX11_night (i := 5) rfl rfl rfl) ?_
    refine lv_aload_n hx hb (dkP dF_45 DX11_night (i := 6) rfl rfl) rfl (lv_at hl 0 rfl) ?_
    refine z_gi C0 hw (8 + 22 * k_program) 0 (fk_of (shp_8 k_program (by omega)) rfl) fl_X11_88 (dk2 dF_180 DX11_night (i := 7) rfl rfl rfl) ?_
    obtain ⟨v2, ev2⟩ : ∃ y : Int32, σ.1 (8 + 22 * k_program) 0 = y := ⟨_, rfl⟩
    refine z_top (y := v2) ev2 ?_
    refine lv_iconst (v := 1) hx hb (dkP dF_4 DX11_night (i := 8) rfl rfl) (by decide) ?_
    refine lv_icmp_ne (tgt := 36) hx hb (dkS dF_160 DX11_night (i := 9) rfl rfl rfl) (by decide) (fun c3 => ?_) (fun c3 => ?_)
    · (try simp (disch := omega) only [ta_lt, ta_le, ta_eq, tnI, tl32 1 (by decide)] at c3)
      refine lv_bipush (v := (-2)) hx hb (dks dF_16 DX11_night (i := 18) rfl rfl rfl) (by decide) ?_
      exact z_iret C0 hr hlk hw (⟨hJ, hT, frC.refl⟩) (dkP dF_172 DX11_night (i := 19) rfl rfl)
    · (try simp (disch := omega) only [ta_lt, ta_le, ta_eq, tnI, tl32 1 (by decide)] at c3)
      refine lv_aload_n hx hb (dkP dF_45 DX11_night (i := 10) rfl rfl) rfl (lv_at hl 0 rfl) ?_
      refine zk_I hw (zr_V (As := []) (rest := []) C0 (c_X4_hasBoth l G kc ad σ (8 + 22 * k_program) (pgm k_program (by omega)) hto1 ht1 hun1 hu1 hT _) cv_X4_hasBoth lk_X11_221 (zp_V C0 hRo hw (8 + 22 * k_program) (shp_8 k_program (by omega)) rfl rfl) rfl hl.1 rfl ⟨by decide, by decide⟩ (Nat.le_of_ble_eq_true rfl) (dk2 dF_182 DX11_night (i := 11) rfl rfl rfl) ⟨Nat.le_refl _, Nat.le_refl _⟩) (fun r4 s4 H locs hp hw => ?_)
      obtain ⟨f4_0, hs4⟩ := hp
      (rw [hs4] at hw)
      rcases f4_0 with ⟨rfl, hc4⟩ | ⟨rfl, hc4⟩
      · skip
        refine lv_if_eq (tgt := 36) hx hb (dkS dF_153 DX11_night (i := 12) rfl rfl rfl) (by decide) (fun h => absurd h (by decide)) (fun _ => ?_)
        refine lv_aload_n hx hb (dkP dF_42 DX11_night (i := 13) rfl rfl) rfl (lv_at hl 1 rfl) ?_
        refine z_gr C0 hw 0 7 223 (fk_of shc_0 rfl) fl_X11_51 (dk2 dF_180 DX11_night (i := 14) rfl rfl rfl) ?_
        refine lv_iload_n hx hb (dkP dF_28 DX11_night (i := 15) rfl rfl) rfl (lv_at hl 3 rfl) ?_
        refine zk_I hw (zr_V (As := [.int slot]) (rest := []) C0 (c_X7_isSlot l G kc ad σ slot hT _) cv_X7_isSlot lk_X11_228 (zp_V C0 hRo hw 223 shc_223 rfl rfl) rfl hl.1 rfl ⟨by decide, by decide⟩ (Nat.le_of_ble_eq_true rfl) (dk2 dF_182 DX11_night (i := 16) rfl rfl rfl) ⟨Nat.le_refl _, Nat.le_refl _⟩) (fun r5 s5 H locs hp hw => ?_)
        obtain ⟨f5_0, hs5⟩ := hp
        (rw [hs5] at hw)
        rcases f5_0 with ⟨rfl, hc5⟩ | ⟨rfl, hc5⟩
        · skip
          refine lv_if_ne (tgt := 39) hx hb (dkS dF_154 DX11_night (i := 17) rfl rfl rfl) (by decide) (fun _ => ?_) (fun h => absurd h (by decide))
          obtain ⟨sn_, hsn_, rfl⟩ := to_nat (x := slot) (n := 4) (by (try simp only [lg_cmp_lt, lg_cmp_le, lg_cmp_gt, lg_cmp_ge, lg_cmp_eq] at c3); (try simp (disch := omega) only [ta_lt, ta_le, ta_eq, tb_lt, tb_le, tb_eq, tw, tnI, tsub1, tsv, tsb32, tn32 2 (by decide), tnj 2 (by decide), tn32 1 (by decide), tnj 1 (by decide), tl32 0 (by decide), tl64 0 (by decide), tl32 1 (by decide), tl64 1 (by decide)] at c3); (try simp only [lg_cmp_lt, lg_cmp_le, lg_cmp_gt, lg_cmp_ge, lg_cmp_eq] at f4_0); (try simp (disch := omega) only [ta_lt, ta_le, ta_eq, tb_lt, tb_le, tb_eq, tw, tnI, tsub1, tsv, tsb32, tn32 2 (by decide), tnj 2 (by decide), tn32 1 (by decide), tnj 1 (by decide), tl32 0 (by decide), tl64 0 (by decide), tl32 1 (by decide), tl64 1 (by decide)] at f4_0); (try simp only [lg_cmp_lt, lg_cmp_le, lg_cmp_gt, lg_cmp_ge, lg_cmp_eq] at hc4); (try simp (disch := omega) only [ta_lt, ta_le, ta_eq, tb_lt, tb_le, tb_eq, tw, tnI, tsub1, tsv, tsb32, tn32 2 (by decide), tnj 2 (by decide), tn32 1 (by decide), tnj 1 (by decide), tl32 0 (by decide), tl64 0 (by decide), tl32 1 (by decide), tl64 1 (by decide)] at hc4); (try simp only [lg_cmp_lt, lg_cmp_le, lg_cmp_gt, lg_cmp_ge, lg_cmp_eq] at f5_0); (try simp (disch := omega) only [ta_lt, ta_le, ta_eq, tb_lt, tb_le, tb_eq, tw, tnI, tsub1, tsv, tsb32, tn32 2 (by decide), tnj 2 (by decide), tn32 1 (by decide), tnj 1 (by decide), tl32 0 (by decide), tl64 0 (by decide), tl32 1 (by decide), tl64 1 (by decide)] at f5_0); (try simp only [lg_cmp_lt, lg_cmp_le, lg_cmp_gt, lg_cmp_ge, lg_cmp_eq] at hc5); (try simp (disch := omega) only [ta_lt, ta_le, ta_eq, tb_lt, tb_le, tb_eq, tw, tnI, tsub1, tsv, tsb32, tn32 2 (by decide), tnj 2 (by decide), tn32 1 (by decide), tnj 1 (by decide), tl32 0 (by decide), tl64 0 (by decide), tl32 1 (by decide), tl64 1 (by decide)] at hc5); (try simp (disch := omega) only [ta_lt, ta_le, ta_eq, tb_lt, tb_le, tb_eq, tw, tnI, tsub1, tsv, tsb32, tn32 2 (by decide), tnj 2 (by decide), tn32 1 (by decide), tnj 1 (by decide), tl32 0 (by decide), tl64 0 (by decide), tl32 1 (by decide), tl64 1 (by decide)]); omega)
          refine lv_aload_n hx hb (dkP dF_42 DX11_night (i := 20) rfl rfl) rfl (lv_at hl 1 rfl) ?_
          refine z_gr C0 hw 0 7 223 (fk_of shc_0 rfl) fl_X11_51 (dk2 dF_180 DX11_night (i := 21) rfl rfl rfl) ?_
          refine lv_iload_n hx hb (dkP dF_28 DX11_night (i := 22) rfl rfl) rfl (lv_at hl 3 rfl) ?_
          refine zk_I hw (zr_V (As := [.int (nI sn_)]) (rest := []) C0 (c_X7_hasNumbers l G kc ad σ sn_ (by omega) hT _) cv_X7_hasNumbers lk_X11_231 (zp_V C0 hRo hw 223 shc_223 rfl rfl) rfl hl.1 rfl ⟨by decide, by decide⟩ (Nat.le_of_ble_eq_true rfl) (dk2 dF_182 DX11_night (i := 23) rfl rfl rfl) ⟨Nat.le_refl _, Nat.le_refl _⟩) (fun r6 s6 H locs hp hw => ?_)
          obtain ⟨f6_0, hs6⟩ := hp
          (rw [hs6] at hw)
          rcases f6_0 with ⟨rfl, hc6⟩ | ⟨rfl, hc6⟩
          · skip
            refine lv_if_ne (tgt := 53) hx hb (dkS dF_154 DX11_night (i := 24) rfl rfl rfl) (by decide) (fun _ => ?_) (fun h => absurd h (by decide))
            refine lv_aload_n hx hb (dkP dF_42 DX11_night (i := 27) rfl rfl) rfl (lv_at hl 1 rfl) ?_
            refine z_gr C0 hw 0 7 223 (fk_of shc_0 rfl) fl_X11_51 (dk2 dF_180 DX11_night (i := 28) rfl rfl rfl) ?_
            refine z_gr C0 hw 223 1 225 (fk_of shc_223 rfl) fl_X11_234 (dk2 dF_180 DX11_night (i := 29) rfl rfl rfl) ?_
            refine lv_iload_n hx hb (dkP dF_28 DX11_night (i := 30) rfl rfl) rfl (lv_at hl 3 rfl) ?_
            refine z_ialdN (n := 4) C0 hw 225 sn_ (ak_of shc_225) (by omega) (by decide) (dkP dF_46 DX11_night (i := 31) rfl rfl) ?_
            obtain ⟨v7, ev7⟩ : ∃ y : Int32, σ.1 225 sn_ = y := ⟨_, rfl⟩
            have hv7 : -1 ≤ v7.toInt ∧ v7.toInt ≤ 60 := by rw [← ev7]; exact (tcr_18 hT tcl_225)
            refine z_top (y := v7) ev7 ?_
            refine lv_istore (lv' := [(4, .int v7), (3, .ref (ad (8 + 22 * k_program))), (0, .ref (ad 0)), (1, .int (nI k_program)), (2, .int (nI sn_))]) hx hb (dk1 dF_54 DX11_night (i := 32) rfl rfl rfl) hl (by decide) rfl (fun ls hl => ?_)
            refine lv_iconst (v := 0) hx hb (dkP dF_3 DX11_night (i := 33) rfl rfl) (by decide) ?_
            refine lv_istore (lv' := [(5, .int 0), (4, .int v7), (3, .ref (ad (8 + 22 * k_program))), (0, .ref (ad 0)), (1, .int (nI k_program)), (2, .int (nI sn_))]) hx hb (dk1 dF_54 DX11_night (i := 34) rfl rfl rfl) hl (by decide) rfl (fun ls hl => ?_)
            have lp8 : ∀ (nq : Nat) (q5_67 : Nat) (H : Heap) (locs : List Loc) (ls : Array Slot), 60 - q5_67 < nq → (q5_67 ≤ 60) → St G kc A s.heap shC ad σ H locs → lv_has ls 8 [(5, .int (nI q5_67)), (4, .int v7), (3, .ref (ad (8 + 22 * k_program))), (0, .ref (ad 0)), (1, .int (nI k_program)), (2, .int (nI sn_))] → W pr l e { frames := 6, cells := 0, slots := 0, locals := 148 } s m ([.ref (ad 0), .int (nI k_program), .int (nI sn_)] : List Value).toArray below meth c H locs 0 0 (MQ below (va_Qi (fun r σ1 => (JC σ1) ∧ TC σ1 ∧ frC (fun x y => (x % 22 = 8 ∧ 8 ≤ x ∧ x ≤ 162 ∧ y = 1) ∨ (x = 1 ∧ y = 4) ∨ (x = 1 ∧ y = 5) ∨ (x = 210 ∧ y = 4) ∨ (x = 210 ∧ y = 5) ∨ (x = 210 ∧ y = 6) ∨ (x = 210 ∧ y = 8) ∨ (x = 211) ∨ (x = 213) ∨ (x = 214) ∨ (x = 215 ∧ y = 4) ∨ (x = 215 ∧ y = 5) ∨ (x = 215 ∧ y = 6) ∨ (x = 215 ∧ y = 7) ∨ (x = 215 ∧ y = 8) ∨ (x = 216) ∨ (x = 217) ∨ (x = 218) ∨ (x = 219) ∨ (x = 5)) σ σ1) (PoC G kc shC ad A) A) ([.ref (ad 0), .int (nI k_program), .int (nI sn_)] : List Value).toArray s 0 0 A) (F0 m 67 ls []) := by
              intro nq
              induction nq with
              | zero => intro q5_67 H locs ls hmu; exact absurd hmu (Nat.not_lt_zero _)
              | succ nq ih8 =>
                intro q5_67 H locs ls hmu hq5_67 hw hl
                refine lv_iload hx hb (dk1 dF_21 DX11_night (i := 35) rfl rfl rfl) (lv_at hl 0 rfl) ?_
                refine lv_iload hx hb (dk1 dF_21 DX11_night (i := 36) rfl rfl rfl) (lv_at hl 1 rfl) ?_
                refine lv_icmp_ge (tgt := 113) hx hb (dkS dF_162 DX11_night (i := 37) rfl rfl rfl) (by decide) (fun c9 => ?_) (fun c9 => ?_)
                · (try simp (disch := omega) only [ta_lt, ta_le, ta_eq, tnI] at c9); have hz9 := i32b v7
                  refine lv_iconst (v := 0) hx hb (dkP dF_3 DX11_night (i := 58) rfl rfl) (by decide) ?_
                  refine lv_istore (lv' := [(5, .int 0), (4, .int v7), (3, .ref (ad (8 + 22 * k_program))), (0, .ref (ad 0)), (1, .int (nI k_program)), (2, .int (nI sn_))]) hx hb (dk1 dF_54 DX11_night (i := 59) rfl rfl rfl) hl (by decide) rfl (fun ls hl => ?_)
                  refine lv_iconst (v := 0) hx hb (dkP dF_3 DX11_night (i := 60) rfl rfl) (by decide) ?_
                  refine lv_istore (lv' := [(6, .int 0), (5, .int 0), (4, .int v7), (3, .ref (ad (8 + 22 * k_program))), (0, .ref (ad 0)), (1, .int (nI k_program)), (2, .int (nI sn_))]) hx hb (dk1 dF_54 DX11_night (i := 61) rfl rfl rfl) hl (by decide) rfl (fun ls hl => ?_)
                  have lp11 : ∀ (nq : Nat) (q6_119 : Nat) (q5_119 : Nat) (τ10 : Sg) (H : Heap) (locs : List Loc) (ls : Array Slot), 60 - q6_119 < nq → (q6_119 ≤ 60) → (q5_119 ≤ q6_119) → (TC τ10) → (frC (fun x y => (x % 22 = 8 ∧ 8 ≤ x ∧ x ≤ 162 ∧ y = 1) ∨ (x = 1 ∧ y = 4) ∨ (x = 1 ∧ y = 5) ∨ (x = 210 ∧ y = 4) ∨ (x = 210 ∧ y = 5) ∨ (x = 210 ∧ y = 6) ∨ (x = 210 ∧ y = 8) ∨ (x = 211) ∨ (x = 213) ∨ (x = 214) ∨ (x = 215 ∧ y = 4) ∨ (x = 215 ∧ y = 5) ∨ (x = 215 ∧ y = 6) ∨ (x = 215 ∧ y = 7) ∨ (x = 215 ∧ y = 8) ∨ (x = 216) ∨ (x = 217) ∨ (x = 218) ∨ (x = 219) ∨ (x = 5)) σ τ10) → St G kc A s.heap shC ad τ10 H locs → lv_has ls 8 [(6, .int (nI q6_119)), (5, .int (nI q5_119)), (4, .int v7), (3, .ref (ad (8 + 22 * k_program))), (0, .ref (ad 0)), (1, .int (nI k_program)), (2, .int (nI sn_))] → W pr l e { frames := 6, cells := 0, slots := 0, locals := 148 } s m ([.ref (ad 0), .int (nI k_program), .int (nI sn_)] : List Value).toArray below meth c H locs 0 0 (MQ below (va_Qi (fun r σ1 => (JC σ1) ∧ TC σ1 ∧ frC (fun x y => (x % 22 = 8 ∧ 8 ≤ x ∧ x ≤ 162 ∧ y = 1) ∨ (x = 1 ∧ y = 4) ∨ (x = 1 ∧ y = 5) ∨ (x = 210 ∧ y = 4) ∨ (x = 210 ∧ y = 5) ∨ (x = 210 ∧ y = 6) ∨ (x = 210 ∧ y = 8) ∨ (x = 211) ∨ (x = 213) ∨ (x = 214) ∨ (x = 215 ∧ y = 4) ∨ (x = 215 ∧ y = 5) ∨ (x = 215 ∧ y = 6) ∨ (x = 215 ∧ y = 7) ∨ (x = 215 ∧ y = 8) ∨ (x = 216) ∨ (x = 217) ∨ (x = 218) ∨ (x = 219) ∨ (x = 5)) σ σ1) (PoC G kc shC ad A) A) ([.ref (ad 0), .int (nI k_program), .int (nI sn_)] : List Value).toArray s 0 0 A) (F0 m 119 ls []) := by
                    intro nq
                    induction nq with
                    | zero => intro q6_119 q5_119 τ10 H locs ls hmu; exact absurd hmu (Nat.not_lt_zero _)
                    | succ nq ih11 =>
                      intro q6_119 q5_119 τ10 H locs ls hmu hq6_119 hq5_119 hT_τ10 hF_τ10 hw hl
                      refine lv_iload hx hb (dk1 dF_21 DX11_night (i := 62) rfl rfl rfl) (lv_at hl 0 rfl) ?_
                      refine lv_iload hx hb (dk1 dF_21 DX11_night (i := 63) rfl rfl rfl) (lv_at hl 2 rfl) ?_
                      refine lv_icmp_ge (tgt := 155) hx hb (dkS dF_162 DX11_night (i := 64) rfl rfl rfl) (by decide) (fun c12 => ?_) (fun c12 => ?_)
                      · (try simp (disch := omega) only [ta_lt, ta_le, ta_eq, tnI] at c12); have hz12 := i32b v7
                        refine lv_aload_n hx hb (dkP dF_45 DX11_night (i := 79) rfl rfl) rfl (lv_at hl 3 rfl) ?_
                        refine lv_iload hx hb (dk1 dF_21 DX11_night (i := 80) rfl rfl rfl) (lv_at hl 1 rfl) ?_
                        refine z_pi C0 hw (8 + 22 * k_program) 1 (fk_of (shp_8 k_program (by omega)) rfl) fp_X11_140 (dk2 dF_181 DX11_night (i := 81) rfl rfl rfl) (fun H locs hw => ?_)
                        have hT13 : TC (sI τ10 (8 + 22 * k_program) 1 (nI q5_119)) := TC.w hT_τ10 (tcw_5_1 (tcp_8 k_program (by omega)))
                        have hF13 : frC (fun x y => (x % 22 = 8 ∧ 8 ≤ x ∧ x ≤ 162 ∧ y = 1) ∨ (x = 1 ∧ y = 4) ∨ (x = 1 ∧ y = 5) ∨ (x = 210 ∧ y = 4) ∨ (x = 210 ∧ y = 5) ∨ (x = 210 ∧ y = 6) ∨ (x = 210 ∧ y = 8) ∨ (x = 211) ∨ (x = 213) ∨ (x = 214) ∨ (x = 215 ∧ y = 4) ∨ (x = 215 ∧ y = 5) ∨ (x = 215 ∧ y = 6) ∨ (x = 215 ∧ y = 7) ∨ (x = 215 ∧ y = 8) ∨ (x = 216) ∨ (x = 217) ∨ (x = 218) ∨ (x = 219) ∨ (x = 5)) σ (sI τ10 (8 + 22 * k_program) 1 (nI q5_119)) := frC.w hF_τ10 (by show ((8 + 22 * k_program) % 22 = 8 ∧ 8 ≤ (8 + 22 * k_program) ∧ (8 + 22 * k_program) ≤ 162 ∧ 1 = 1) ∨ ((8 + 22 * k_program) = 1 ∧ 1 = 4) ∨ ((8 + 22 * k_program) = 1 ∧ 1 = 5) ∨ ((8 + 22 * k_program) = 210 ∧ 1 = 4) ∨ ((8 + 22 * k_program) = 210 ∧ 1 = 5) ∨ ((8 + 22 * k_program) = 210 ∧ 1 = 6) ∨ ((8 + 22 * k_program) = 210 ∧ 1 = 8) ∨ ((8 + 22 * k_program) = 211) ∨ ((8 + 22 * k_program) = 213) ∨ ((8 + 22 * k_program) = 214) ∨ ((8 + 22 * k_program) = 215 ∧ 1 = 4) ∨ ((8 + 22 * k_program) = 215 ∧ 1 = 5) ∨ ((8 + 22 * k_program) = 215 ∧ 1 = 6) ∨ ((8 + 22 * k_program) = 215 ∧ 1 = 7) ∨ ((8 + 22 * k_program) = 215 ∧ 1 = 8) ∨ ((8 + 22 * k_program) = 216) ∨ ((8 + 22 * k_program) = 217) ∨ ((8 + 22 * k_program) = 218) ∨ ((8 + 22 * k_program) = 219) ∨ ((8 + 22 * k_program) = 5); exact Or.inl (by show (8 + 22 * k_program) % 22 = 8 ∧ 8 ≤ (8 + 22 * k_program) ∧ (8 + 22 * k_program) ≤ 162 ∧ 1 = 1; omega))
                        refine lv_aload_n hx hb (dkP dF_42 DX11_night (i := 82) rfl rfl) rfl (lv_at hl 4 rfl) ?_
                        refine z_gr C0 hw 0 0 1 (fk_of shc_0 rfl) fl_X11_10 (dk2 dF_180 DX11_night (i := 83) rfl rfl rfl) ?_
                        refine lv_dup hx hb (dkP dF_89 DX11_night (i := 84) rfl rfl) rfl ?_
                        refine z_gi C0 hw 1 5 (fk_of shc_1 rfl) fl_X11_245 (dk2 dF_180 DX11_night (i := 85) rfl rfl rfl) ?_
                        obtain ⟨v14, ev14⟩ : ∃ y : Int32, (sI τ10 (8 + 22 * k_program) 1 (nI q5_119)).1 1 5 = y := ⟨_, rfl⟩
                        refine z_top (y := v14) ev14 ?_
                        refine lv_iconst (v := 1) hx hb (dkP dF_4 DX11_night (i := 86) rfl rfl) (by decide) ?_
                        refine lv_iadd hx hb (dkP dF_96 DX11_night (i := 87) rfl rfl) ?_
                        refine z_pi C0 hw 1 5 (fk_of shc_1 rfl) fp_X11_245 (dk2 dF_181 DX11_night (i := 88) rfl rfl rfl) (fun H locs hw => ?_)
                        have hT15 : TC (sI (sI τ10 (8 + 22 * k_program) 1 (nI q5_119)) 1 5 (v14 + 1)) := TC.w hT13 (tcw_13_5 tcl_1)
                        have hF15 : frC (fun x y => (x % 22 = 8 ∧ 8 ≤ x ∧ x ≤ 162 ∧ y = 1) ∨ (x = 1 ∧ y = 4) ∨ (x = 1 ∧ y = 5) ∨ (x = 210 ∧ y = 4) ∨ (x = 210 ∧ y = 5) ∨ (x = 210 ∧ y = 6) ∨ (x = 210 ∧ y = 8) ∨ (x = 211) ∨ (x = 213) ∨ (x = 214) ∨ (x = 215 ∧ y = 4) ∨ (x = 215 ∧ y = 5) ∨ (x = 215 ∧ y = 6) ∨ (x = 215 ∧ y = 7) ∨ (x = 215 ∧ y = 8) ∨ (x = 216) ∨ (x = 217) ∨ (x = 218) ∨ (x = 219) ∨ (x = 5)) σ (sI (sI τ10 (8 + 22 * k_program) 1 (nI q5_119)) 1 5 (v14 + 1)) := frC.w hF13 (by show (1 % 22 = 8 ∧ 8 ≤ 1 ∧ 1 ≤ 162 ∧ 5 = 1) ∨ (1 = 1 ∧ 5 = 4) ∨ (1 = 1 ∧ 5 = 5) ∨ (1 = 210 ∧ 5 = 4) ∨ (1 = 210 ∧ 5 = 5) ∨ (1 = 210 ∧ 5 = 6) ∨ (1 = 210 ∧ 5 = 8) ∨ (1 = 211) ∨ (1 = 213) ∨ (1 = 214) ∨ (1 = 215 ∧ 5 = 4) ∨ (1 = 215 ∧ 5 = 5) ∨ (1 = 215 ∧ 5 = 6) ∨ (1 = 215 ∧ 5 = 7) ∨ (1 = 215 ∧ 5 = 8) ∨ (1 = 216) ∨ (1 = 217) ∨ (1 = 218) ∨ (1 = 219) ∨ (1 = 5); exact Or.inr (Or.inr (Or.inl (⟨rfl, rfl⟩))))
                        refine lv_iload hx hb (dk1 dF_21 DX11_night (i := 89) rfl rfl rfl) (lv_at hl 1 rfl) ?_
                        exact z_iret C0 hr hlk hw (⟨(hJ.fr hF15.2 (fun x y hj => hF15.1 x y (fun h_ => by have h_ : (x % 22 = 8 ∧ 8 ≤ x ∧ x ≤ 162 ∧ y = 1) ∨ (x = 1 ∧ y = 4) ∨ (x = 1 ∧ y = 5) ∨ (x = 210 ∧ y = 4) ∨ (x = 210 ∧ y = 5) ∨ (x = 210 ∧ y = 6) ∨ (x = 210 ∧ y = 8) ∨ (x = 211) ∨ (x = 213) ∨ (x = 214) ∨ (x = 215 ∧ y = 4) ∨ (x = 215 ∧ y = 5) ∨ (x = 215 ∧ y = 6) ∨ (x = 215 ∧ y = 7) ∨ (x = 215 ∧ y = 8) ∨ (x = 216) ∨ (x = 217) ∨ (x = 218) ∨ (x = 219) ∨ (x = 5) := h_; unfold jcq at hj; rcases h_ with h_ | h_ | h_ | h_ | h_ | h_ | h_ | h_ | h_ | h_ | h_ | h_ | h_ | h_ | h_ | h_ | h_ | h_ | h_ | h_; (· omega); (· omega); (· omega); (· omega); (· omega); (· omega); (· omega); (· omega); (· omega); (· omega); (· omega); (· omega); (· omega); (· omega); (· omega); (· omega); (· omega); (· omega); (· omega); (· omega)))), hT15, hF15⟩) (dkP dF_172 DX11_night (i := 90) rfl rfl)
                      · (try simp (disch := omega) only [ta_lt, ta_le, ta_eq, tnI] at c12); have hz12 := i32b v7
                        refine lv_aload_n hx hb (dkP dF_42 DX11_night (i := 65) rfl rfl) rfl (lv_at hl 4 rfl) ?_
                        refine lv_iload_n hx hb (dkP dF_27 DX11_night (i := 66) rfl rfl) rfl (lv_at hl 5 rfl) ?_
                        refine lv_aload_n hx hb (dkP dF_45 DX11_night (i := 67) rfl rfl) rfl (lv_at hl 3 rfl) ?_
                        refine lv_aload_n hx hb (dkP dF_42 DX11_night (i := 68) rfl rfl) rfl (lv_at hl 4 rfl) ?_
                        refine z_gr C0 hw 0 7 223 (fk_of shc_0 rfl) fl_X11_51 (dk2 dF_180 DX11_night (i := 69) rfl rfl rfl) ?_
                        refine lv_iload_n hx hb (dkP dF_28 DX11_night (i := 70) rfl rfl) rfl (lv_at hl 6 rfl) ?_
                        refine lv_iload hx hb (dk1 dF_21 DX11_night (i := 71) rfl rfl rfl) (lv_at hl 0 rfl) ?_
                        refine zk_L hw (zr_V (As := [.int (nI sn_), .int (nI q6_119)]) (rest := [.ref (ad (8 + 22 * k_program)), .int (nI k_program), .ref (ad 0)]) C0 (c_X7_number l G kc ad τ10 sn_ q6_119 (by omega) (by omega) hT_τ10 _) cv_X7_number lk_X11_237 (zp_V C0 hRo hw 223 shc_223 rfl rfl) rfl hl.1 rfl ⟨by decide, by decide⟩ (Nat.le_of_ble_eq_true rfl) (dk2 dF_182 DX11_night (i := 72) rfl rfl rfl) ⟨Nat.le_refl _, Nat.le_refl _⟩) (fun r16 s16 H locs hp hw => ?_)
                        have hs16 := hp
                        (rw [hs16] at hw)
                        refine lv_l2i hx hb (dkP dF_136 DX11_night (i := 73) rfl rfl) rfl ?_
                        refine zk_I hw (zr_V (As := [.int (nI k_program), .ref (ad (8 + 22 * k_program)), .int r16.toInt32]) (rest := []) C0 (c_X11_heapsInput l G kc ad τ10 (nI k_program) (8 + 22 * k_program) r16.toInt32 (pgm k_program (by omega)) ((congrFun (congrFun hF_τ10.2 _) _).trans hto1) ht1 ((congrFun (congrFun hF_τ10.2 _) _).trans hun1) hu1 (hVP.v (fun x y hx => hF_τ10.1 x y (fun h_ => by have hj := hJ.arv (k := k_program) (by omega) hto1 hun1 hx; have h_ : (x % 22 = 8 ∧ 8 ≤ x ∧ x ≤ 162 ∧ y = 1) ∨ (x = 1 ∧ y = 4) ∨ (x = 1 ∧ y = 5) ∨ (x = 210 ∧ y = 4) ∨ (x = 210 ∧ y = 5) ∨ (x = 210 ∧ y = 6) ∨ (x = 210 ∧ y = 8) ∨ (x = 211) ∨ (x = 213) ∨ (x = 214) ∨ (x = 215 ∧ y = 4) ∨ (x = 215 ∧ y = 5) ∨ (x = 215 ∧ y = 6) ∨ (x = 215 ∧ y = 7) ∨ (x = 215 ∧ y = 8) ∨ (x = 216) ∨ (x = 217) ∨ (x = 218) ∨ (x = 219) ∨ (x = 5) := h_; unfold jcq at hj; rcases h_ with h_ | h_ | h_ | h_ | h_ | h_ | h_ | h_ | h_ | h_ | h_ | h_ | h_ | h_ | h_ | h_ | h_ | h_ | h_ | h_; (· omega); (· omega); (· omega); (· omega); (· omega); (· omega); (· omega); (· omega); (· omega); (· omega); (· omega); (· omega); (· omega); (· omega); (· omega); (· omega); (· omega); (· omega); (· omega); (· omega)))) hT_τ10 _) cv_X11_heapsInput lk_X11_241 (zp_V C0 hRo hw 0 shc_0 rfl rfl) rfl hl.1 rfl ⟨by decide, by decide⟩ (Nat.le_of_ble_eq_true rfl) (dk2 dF_182 DX11_night (i := 74) rfl rfl rfl) ⟨Nat.le_refl _, Nat.le_refl _⟩) (fun r17 s17 H locs hp hw => ?_)
                        obtain ⟨f17_0, hT17, hG17⟩ := hp
                        have hF17 : frC (fun x y => (x % 22 = 8 ∧ 8 ≤ x ∧ x ≤ 162 ∧ y = 1) ∨ (x = 1 ∧ y = 4) ∨ (x = 1 ∧ y = 5) ∨ (x = 210 ∧ y = 4) ∨ (x = 210 ∧ y = 5) ∨ (x = 210 ∧ y = 6) ∨ (x = 210 ∧ y = 8) ∨ (x = 211) ∨ (x = 213) ∨ (x = 214) ∨ (x = 215 ∧ y = 4) ∨ (x = 215 ∧ y = 5) ∨ (x = 215 ∧ y = 6) ∨ (x = 215 ∧ y = 7) ∨ (x = 215 ∧ y = 8) ∨ (x = 216) ∨ (x = 217) ∨ (x = 218) ∨ (x = 219) ∨ (x = 5)) σ s17 := frC.t hF_τ10 hG17 (fun x y h => by have h : (x = 1 ∧ y = 4) ∨ (x = 210 ∧ y = 4) ∨ (x = 210 ∧ y = 5) ∨ (x = 210 ∧ y = 6) ∨ (x = 210 ∧ y = 8) ∨ (x = 211) ∨ (x = 213) ∨ (x = 214) ∨ (x = 215 ∧ y = 4) ∨ (x = 215 ∧ y = 5) ∨ (x = 215 ∧ y = 6) ∨ (x = 215 ∧ y = 7) ∨ (x = 215 ∧ y = 8) ∨ (x = 216) ∨ (x = 217) ∨ (x = 218) ∨ (x = 219) ∨ (x = 5) := h; show (x % 22 = 8 ∧ 8 ≤ x ∧ x ≤ 162 ∧ y = 1) ∨ (x = 1 ∧ y = 4) ∨ (x = 1 ∧ y = 5) ∨ (x = 210 ∧ y = 4) ∨ (x = 210 ∧ y = 5) ∨ (x = 210 ∧ y = 6) ∨ (x = 210 ∧ y = 8) ∨ (x = 211) ∨ (x = 213) ∨ (x = 214) ∨ (x = 215 ∧ y = 4) ∨ (x = 215 ∧ y = 5) ∨ (x = 215 ∧ y = 6) ∨ (x = 215 ∧ y = 7) ∨ (x = 215 ∧ y = 8) ∨ (x = 216) ∨ (x = 217) ∨ (x = 218) ∨ (x = 219) ∨ (x = 5); rcases h with h | h | h | h | h | h | h | h | h | h | h | h | h | h | h | h | h | h; (· exact Or.inr (Or.inl h)); (· exact Or.inr (Or.inr (Or.inr (Or.inl h)))); (· exact Or.inr (Or.inr (Or.inr (Or.inr (Or.inl h))))); (· exact Or.inr (Or.inr (Or.inr (Or.inr (Or.inr (Or.inl h)))))); (· exact Or.inr (Or.inr (Or.inr (Or.inr (Or.inr (Or.inr (Or.inl h))))))); (· exact Or.inr (Or.inr (Or.inr (Or.inr (Or.inr (Or.inr (Or.inr (Or.inl h)))))))); (· exact Or.inr (Or.inr (Or.inr (Or.inr (Or.inr (Or.inr (Or.inr (Or.inr (Or.inl h))))))))); (· exact Or.inr (Or.inr (Or.inr (Or.inr (Or.inr (Or.inr (Or.inr (Or.inr (Or.inr (Or.inl h)))))))))); (· exact Or.inr (Or.inr (Or.inr (Or.inr (Or.inr (Or.inr (Or.inr (Or.inr (Or.inr (Or.inr (Or.inl h))))))))))); (· exact Or.inr (Or.inr (Or.inr (Or.inr (Or.inr (Or.inr (Or.inr (Or.inr (Or.inr (Or.inr (Or.inr (Or.inl h)))))))))))); (· exact Or.inr (Or.inr (Or.inr (Or.inr (Or.inr (Or.inr (Or.inr (Or.inr (Or.inr (Or.inr (Or.inr (Or.inr (Or.inl h))))))))))))); (· exact Or.inr (Or.inr (Or.inr (Or.inr (Or.inr (Or.inr (Or.inr (Or.inr (Or.inr (Or.inr (Or.inr (Or.inr (Or.inr (Or.inl h)))))))))))))); (· exact Or.inr (Or.inr (Or.inr (Or.inr (Or.inr (Or.inr (Or.inr (Or.inr (Or.inr (Or.inr (Or.inr (Or.inr (Or.inr (Or.inr (Or.inl h))))))))))))))); (· exact Or.inr (Or.inr (Or.inr (Or.inr (Or.inr (Or.inr (Or.inr (Or.inr (Or.inr (Or.inr (Or.inr (Or.inr (Or.inr (Or.inr (Or.inr (Or.inl h)))))))))))))))); (· exact Or.inr (Or.inr (Or.inr (Or.inr (Or.inr (Or.inr (Or.inr (Or.inr (Or.inr (Or.inr (Or.inr (Or.inr (Or.inr (Or.inr (Or.inr (Or.inr (Or.inl h))))))))))))))))); (· exact Or.inr (Or.inr (Or.inr (Or.inr (Or.inr (Or.inr (Or.inr (Or.inr (Or.inr (Or.inr (Or.inr (Or.inr (Or.inr (Or.inr (Or.inr (Or.inr (Or.inr (Or.inl h)))))))))))))))))); (· exact Or.inr (Or.inr (Or.inr (Or.inr (Or.inr (Or.inr (Or.inr (Or.inr (Or.inr (Or.inr (Or.inr (Or.inr (Or.inr (Or.inr (Or.inr (Or.inr (Or.inr (Or.inr (Or.inl h))))))))))))))))))); (· exact Or.inr (Or.inr (Or.inr (Or.inr (Or.inr (Or.inr (Or.inr (Or.inr (Or.inr (Or.inr (Or.inr (Or.inr (Or.inr (Or.inr (Or.inr (Or.inr (Or.inr (Or.inr (Or.inr (h)))))))))))))))))))))
                        rcases f17_0 with ⟨rfl, hc17⟩ | ⟨rfl, hc17⟩
                        · skip
                          refine lv_if_eq (tgt := 149) hx hb (dkS dF_153 DX11_night (i := 75) rfl rfl rfl) (by decide) (fun h => absurd h (by decide)) (fun _ => ?_)
                          refine lv_iinc (v := nI (q5_119 + 1)) (lv' := [(5, .int (nI (q5_119 + 1))), (6, .int (nI q6_119)), (4, .int v7), (3, .ref (ad (8 + 22 * k_program))), (0, .ref (ad 0)), (1, .int (nI k_program)), (2, .int (nI sn_))]) hx hb (dkI DX11_night (i := 76) rfl rfl rfl rfl) hl (k := 1) rfl (nI_1 _) (by decide) rfl (fun ls hl => ?_)
                          refine lv_iinc (v := nI (q6_119 + 1)) (lv' := [(6, .int (nI (q6_119 + 1))), (5, .int (nI (q5_119 + 1))), (4, .int v7), (3, .ref (ad (8 + 22 * k_program))), (0, .ref (ad 0)), (1, .int (nI k_program)), (2, .int (nI sn_))]) hx hb (dkI DX11_night (i := 77) rfl rfl rfl rfl) hl (k := 1) rfl (nI_1 _) (by decide) rfl (fun ls hl => ?_)
                          refine lv_goto (tgt := 119) hx hb (dkS dF_167 DX11_night (i := 78) rfl rfl rfl) (by decide) ?_
                          exact ih11 (q6_119 + 1) (q5_119 + 1) s17 _ _ _ (by omega) (by (try simp only [lg_cmp_lt, lg_cmp_le, lg_cmp_gt, lg_cmp_ge, lg_cmp_eq] at c3); (try simp (disch := omega) only [ta_lt, ta_le, ta_eq, tb_lt, tb_le, tb_eq, tw, tnI, tsub1, tsv, tsb32, tn32 2 (by decide), tnj 2 (by decide), tn32 1 (by decide), tnj 1 (by decide), tl32 0 (by decide), tl64 0 (by decide), tl32 1 (by decide), tl64 1 (by decide)] at c3); (try simp only [lg_cmp_lt, lg_cmp_le, lg_cmp_gt, lg_cmp_ge, lg_cmp_eq] at f4_0); (try simp (disch := omega) only [ta_lt, ta_le, ta_eq, tb_lt, tb_le, tb_eq, tw, tnI, tsub1, tsv, tsb32, tn32 2 (by decide), tnj 2 (by decide), tn32 1 (by decide), tnj 1 (by decide), tl32 0 (by decide), tl64 0 (by decide), tl32 1 (by decide), tl64 1 (by decide)] at f4_0); (try simp only [lg_cmp_lt, lg_cmp_le, lg_cmp_gt, lg_cmp_ge, lg_cmp_eq] at hc4); (try simp (disch := omega) only [ta_lt, ta_le, ta_eq, tb_lt, tb_le, tb_eq, tw, tnI, tsub1, tsv, tsb32, tn32 2 (by decide), tnj 2 (by decide), tn32 1 (by decide), tnj 1 (by decide), tl32 0 (by decide), tl64 0 (by decide), tl32 1 (by decide), tl64 1 (by decide)] at hc4); (try simp only [lg_cmp_lt, lg_cmp_le, lg_cmp_gt, lg_cmp_ge, lg_cmp_eq] at f5_0); (try simp (disch := omega) only [ta_lt, ta_le, ta_eq, tb_lt, tb_le, tb_eq, tw, tnI, tsub1, tsv, tsb32, tn32 2 (by decide), tnj 2 (by decide), tn32 1 (by decide), tnj 1 (by decide), tl32 0 (by decide), tl64 0 (by decide), tl32 1 (by decide), tl64 1 (by decide)] at f5_0); (try simp only [lg_cmp_lt, lg_cmp_le, lg_cmp_gt, lg_cmp_ge, lg_cmp_eq] at hc5); (try simp (disch := omega) only [ta_lt, ta_le, ta_eq, tb_lt, tb_le, tb_eq, tw, tnI, tsub1, tsv, tsb32, tn32 2 (by decide), tnj 2 (by decide), tn32 1 (by decide), tnj 1 (by decide), tl32 0 (by decide), tl64 0 (by decide), tl32 1 (by decide), tl64 1 (by decide)] at hc5); (try simp only [lg_cmp_lt, lg_cmp_le, lg_cmp_gt, lg_cmp_ge, lg_cmp_eq] at f6_0); (try simp (disch := omega) only [ta_lt, ta_le, ta_eq, tb_lt, tb_le, tb_eq, tw, tnI, tsub1, tsv, tsb32, tn32 2 (by decide), tnj 2 (by decide), tn32 1 (by decide), tnj 1 (by decide), tl32 0 (by decide), tl64 0 (by decide), tl32 1 (by decide), tl64 1 (by decide)] at f6_0); (try simp only [lg_cmp_lt, lg_cmp_le, lg_cmp_gt, lg_cmp_ge, lg_cmp_eq] at hc6); (try simp (disch := omega) only [ta_lt, ta_le, ta_eq, tb_lt, tb_le, tb_eq, tw, tnI, tsub1, tsv, tsb32, tn32 2 (by decide), tnj 2 (by decide), tn32 1 (by decide), tnj 1 (by decide), tl32 0 (by decide), tl64 0 (by decide), tl32 1 (by decide), tl64 1 (by decide)] at hc6); (try simp only [lg_cmp_lt, lg_cmp_le, lg_cmp_gt, lg_cmp_ge, lg_cmp_eq] at c9); (try simp (disch := omega) only [ta_lt, ta_le, ta_eq, tb_lt, tb_le, tb_eq, tw, tnI, tsub1, tsv, tsb32, tn32 2 (by decide), tnj 2 (by decide), tn32 1 (by decide), tnj 1 (by decide), tl32 0 (by decide), tl64 0 (by decide), tl32 1 (by decide), tl64 1 (by decide)] at c9); (try simp only [lg_cmp_lt, lg_cmp_le, lg_cmp_gt, lg_cmp_ge, lg_cmp_eq] at c12); (try simp (disch := omega) only [ta_lt, ta_le, ta_eq, tb_lt, tb_le, tb_eq, tw, tnI, tsub1, tsv, tsb32, tn32 2 (by decide), tnj 2 (by decide), tn32 1 (by decide), tnj 1 (by decide), tl32 0 (by decide), tl64 0 (by decide), tl32 1 (by decide), tl64 1 (by decide)] at c12); (try simp only [lg_cmp_lt, lg_cmp_le, lg_cmp_gt, lg_cmp_ge, lg_cmp_eq] at f17_0); (try simp (disch := omega) only [ta_lt, ta_le, ta_eq, tb_lt, tb_le, tb_eq, tw, tnI, tsub1, tsv, tsb32, tn32 2 (by decide), tnj 2 (by decide), tn32 1 (by decide), tnj 1 (by decide), tl32 0 (by decide), tl64 0 (by decide), tl32 1 (by decide), tl64 1 (by decide)] at f17_0); (try simp only [lg_cmp_lt, lg_cmp_le, lg_cmp_gt, lg_cmp_ge, lg_cmp_eq] at hc17); (try simp (disch := omega) only [ta_lt, ta_le, ta_eq, tb_lt, tb_le, tb_eq, tw, tnI, tsub1, tsv, tsb32, tn32 2 (by decide), tnj 2 (by decide), tn32 1 (by decide), tnj 1 (by decide), tl32 0 (by decide), tl64 0 (by decide), tl32 1 (by decide), tl64 1 (by decide)] at hc17); (try simp (disch := omega) only [ta_lt, ta_le, ta_eq, tb_lt, tb_le, tb_eq, tw, tnI, tsub1, tsv, tsb32, tn32 2 (by decide), tnj 2 (by decide), tn32 1 (by decide), tnj 1 (by decide), tl32 0 (by decide), tl64 0 (by decide), tl32 1 (by decide), tl64 1 (by decide)]); omega) (by (try simp only [lg_cmp_lt, lg_cmp_le, lg_cmp_gt, lg_cmp_ge, lg_cmp_eq] at c3); (try simp (disch := omega) only [ta_lt, ta_le, ta_eq, tb_lt, tb_le, tb_eq, tw, tnI, tsub1, tsv, tsb32, tn32 2 (by decide), tnj 2 (by decide), tn32 1 (by decide), tnj 1 (by decide), tl32 0 (by decide), tl64 0 (by decide), tl32 1 (by decide), tl64 1 (by decide)] at c3); (try simp only [lg_cmp_lt, lg_cmp_le, lg_cmp_gt, lg_cmp_ge, lg_cmp_eq] at f4_0); (try simp (disch := omega) only [ta_lt, ta_le, ta_eq, tb_lt, tb_le, tb_eq, tw, tnI, tsub1, tsv, tsb32, tn32 2 (by decide), tnj 2 (by decide), tn32 1 (by decide), tnj 1 (by decide), tl32 0 (by decide), tl64 0 (by decide), tl32 1 (by decide), tl64 1 (by decide)] at f4_0); (try simp only [lg_cmp_lt, lg_cmp_le, lg_cmp_gt, lg_cmp_ge, lg_cmp_eq] at hc4); (try simp (disch := omega) only [ta_lt, ta_le, ta_eq, tb_lt, tb_le, tb_eq, tw, tnI, tsub1, tsv, tsb32, tn32 2 (by decide), tnj 2 (by decide), tn32 1 (by decide), tnj 1 (by decide), tl32 0 (by decide), tl64 0 (by decide), tl32 1 (by decide), tl64 1 (by decide)] at hc4); (try simp only [lg_cmp_lt, lg_cmp_le, lg_cmp_gt, lg_cmp_ge, lg_cmp_eq] at f5_0); (try simp (disch := omega) only [ta_lt, ta_le, ta_eq, tb_lt, tb_le, tb_eq, tw, tnI, tsub1, tsv, tsb32, tn32 2 (by decide), tnj 2 (by decide), tn32 1 (by decide), tnj 1 (by decide), tl32 0 (by decide), tl64 0 (by decide), tl32 1 (by decide), tl64 1 (by decide)] at f5_0); (try simp only [lg_cmp_lt, lg_cmp_le, lg_cmp_gt, lg_cmp_ge, lg_cmp_eq] at hc5); (try simp (disch := omega) only [ta_lt, ta_le, ta_eq, tb_lt, tb_le, tb_eq, tw, tnI, tsub1, tsv, tsb32, tn32 2 (by decide), tnj 2 (by decide), tn32 1 (by decide), tnj 1 (by decide), tl32 0 (by decide), tl64 0 (by decide), tl32 1 (by decide), tl64 1 (by decide)] at hc5); (try simp only [lg_cmp_lt, lg_cmp_le, lg_cmp_gt, lg_cmp_ge, lg_cmp_eq] at f6_0); (try simp (disch := omega) only [ta_lt, ta_le, ta_eq, tb_lt, tb_le, tb_eq, tw, tnI, tsub1, tsv, tsb32, tn32 2 (by decide), tnj 2 (by decide), tn32 1 (by decide), tnj 1 (by decide), tl32 0 (by decide), tl64 0 (by decide), tl32 1 (by decide), tl64 1 (by decide)] at f6_0); (try simp only [lg_cmp_lt, lg_cmp_le, lg_cmp_gt, lg_cmp_ge, lg_cmp_eq] at hc6); (try simp (disch := omega) only [ta_lt, ta_le, ta_eq, tb_lt, tb_le, tb_eq, tw, tnI, tsub1, tsv, tsb32, tn32 2 (by decide), tnj 2 (by decide), tn32 1 (by decide), tnj 1 (by decide), tl32 0 (by decide), tl64 0 (by decide), tl32 1 (by decide), tl64 1 (by decide)] at hc6); (try simp only [lg_cmp_lt, lg_cmp_le, lg_cmp_gt, lg_cmp_ge, lg_cmp_eq] at c9); (try simp (disch := omega) only [ta_lt, ta_le, ta_eq, tb_lt, tb_le, tb_eq, tw, tnI, tsub1, tsv, tsb32, tn32 2 (by decide), tnj 2 (by decide), tn32 1 (by decide), tnj 1 (by decide), tl32 0 (by decide), tl64 0 (by decide), tl32 1 (by decide), tl64 1 (by decide)] at c9); (try simp only [lg_cmp_lt, lg_cmp_le, lg_cmp_gt, lg_cmp_ge, lg_cmp_eq] at c12); (try simp (disch := omega) only [ta_lt, ta_le, ta_eq, tb_lt, tb_le, tb_eq, tw, tnI, tsub1, tsv, tsb32, tn32 2 (by decide), tnj 2 (by decide), tn32 1 (by decide), tnj 1 (by decide), tl32 0 (by decide), tl64 0 (by decide), tl32 1 (by decide), tl64 1 (by decide)] at c12); (try simp only [lg_cmp_lt, lg_cmp_le, lg_cmp_gt, lg_cmp_ge, lg_cmp_eq] at f17_0); (try simp (disch := omega) only [ta_lt, ta_le, ta_eq, tb_lt, tb_le, tb_eq, tw, tnI, tsub1, tsv, tsb32, tn32 2 (by decide), tnj 2 (by decide), tn32 1 (by decide), tnj 1 (by decide), tl32 0 (by decide), tl64 0 (by decide), tl32 1 (by decide), tl64 1 (by decide)] at f17_0); (try simp only [lg_cmp_lt, lg_cmp_le, lg_cmp_gt, lg_cmp_ge, lg_cmp_eq] at hc17); (try simp (disch := omega) only [ta_lt, ta_le, ta_eq, tb_lt, tb_le, tb_eq, tw, tnI, tsub1, tsv, tsb32, tn32 2 (by decide), tnj 2 (by decide), tn32 1 (by decide), tnj 1 (by decide), tl32 0 (by decide), tl64 0 (by decide), tl32 1 (by decide), tl64 1 (by decide)] at hc17); (try simp (disch := omega) only [ta_lt, ta_le, ta_eq, tb_lt, tb_le, tb_eq, tw, tnI, tsub1, tsv, tsb32, tn32 2 (by decide), tnj 2 (by decide), tn32 1 (by decide), tnj 1 (by decide), tl32 0 (by decide), tl64 0 (by decide), tl32 1 (by decide), tl64 1 (by decide)]); omega) hT17 hF17 hw (lv_sub hl [0, 1, 2, 3, 4, 5, 6] rfl)
                        · skip
                          refine lv_if_eq (tgt := 149) hx hb (dkS dF_153 DX11_night (i := 75) rfl rfl rfl) (by decide) (fun _ => ?_) (fun h => absurd h (by decide))
                          refine lv_iinc (v := nI (q6_119 + 1)) (lv' := [(6, .int (nI (q6_119 + 1))), (5, .int (nI q5_119)), (4, .int v7), (3, .ref (ad (8 + 22 * k_program))), (0, .ref (ad 0)), (1, .int (nI k_program)), (2, .int (nI sn_))]) hx hb (dkI DX11_night (i := 77) rfl rfl rfl rfl) hl (k := 0) rfl (nI_1 _) (by decide) rfl (fun ls hl => ?_)
                          refine lv_goto (tgt := 119) hx hb (dkS dF_167 DX11_night (i := 78) rfl rfl rfl) (by decide) ?_
                          exact ih11 (q6_119 + 1) q5_119 s17 _ _ _ (by omega) (by (try simp only [lg_cmp_lt, lg_cmp_le, lg_cmp_gt, lg_cmp_ge, lg_cmp_eq] at c3); (try simp (disch := omega) only [ta_lt, ta_le, ta_eq, tb_lt, tb_le, tb_eq, tw, tnI, tsub1, tsv, tsb32, tn32 2 (by decide), tnj 2 (by decide), tn32 1 (by decide), tnj 1 (by decide), tl32 0 (by decide), tl64 0 (by decide), tl32 1 (by decide), tl64 1 (by decide)] at c3); (try simp only [lg_cmp_lt, lg_cmp_le, lg_cmp_gt, lg_cmp_ge, lg_cmp_eq] at f4_0); (try simp (disch := omega) only [ta_lt, ta_le, ta_eq, tb_lt, tb_le, tb_eq, tw, tnI, tsub1, tsv, tsb32, tn32 2 (by decide), tnj 2 (by decide), tn32 1 (by decide), tnj 1 (by decide), tl32 0 (by decide), tl64 0 (by decide), tl32 1 (by decide), tl64 1 (by decide)] at f4_0); (try simp only [lg_cmp_lt, lg_cmp_le, lg_cmp_gt, lg_cmp_ge, lg_cmp_eq] at hc4); (try simp (disch := omega) only [ta_lt, ta_le, ta_eq, tb_lt, tb_le, tb_eq, tw, tnI, tsub1, tsv, tsb32, tn32 2 (by decide), tnj 2 (by decide), tn32 1 (by decide), tnj 1 (by decide), tl32 0 (by decide), tl64 0 (by decide), tl32 1 (by decide), tl64 1 (by decide)] at hc4); (try simp only [lg_cmp_lt, lg_cmp_le, lg_cmp_gt, lg_cmp_ge, lg_cmp_eq] at f5_0); (try simp (disch := omega) only [ta_lt, ta_le, ta_eq, tb_lt, tb_le, tb_eq, tw, tnI, tsub1, tsv, tsb32, tn32 2 (by decide), tnj 2 (by decide), tn32 1 (by decide), tnj 1 (by decide), tl32 0 (by decide), tl64 0 (by decide), tl32 1 (by decide), tl64 1 (by decide)] at f5_0); (try simp only [lg_cmp_lt, lg_cmp_le, lg_cmp_gt, lg_cmp_ge, lg_cmp_eq] at hc5); (try simp (disch := omega) only [ta_lt, ta_le, ta_eq, tb_lt, tb_le, tb_eq, tw, tnI, tsub1, tsv, tsb32, tn32 2 (by decide), tnj 2 (by decide), tn32 1 (by decide), tnj 1 (by decide), tl32 0 (by decide), tl64 0 (by decide), tl32 1 (by decide), tl64 1 (by decide)] at hc5); (try simp only [lg_cmp_lt, lg_cmp_le, lg_cmp_gt, lg_cmp_ge, lg_cmp_eq] at f6_0); (try simp (disch := omega) only [ta_lt, ta_le, ta_eq, tb_lt, tb_le, tb_eq, tw, tnI, tsub1, tsv, tsb32, tn32 2 (by decide), tnj 2 (by decide), tn32 1 (by decide), tnj 1 (by decide), tl32 0 (by decide), tl64 0 (by decide), tl32 1 (by decide), tl64 1 (by decide)] at f6_0); (try simp only [lg_cmp_lt, lg_cmp_le, lg_cmp_gt, lg_cmp_ge, lg_cmp_eq] at hc6); (try simp (disch := omega) only [ta_lt, ta_le, ta_eq, tb_lt, tb_le, tb_eq, tw, tnI, tsub1, tsv, tsb32, tn32 2 (by decide), tnj 2 (by decide), tn32 1 (by decide), tnj 1 (by decide), tl32 0 (by decide), tl64 0 (by decide), tl32 1 (by decide), tl64 1 (by decide)] at hc6); (try simp only [lg_cmp_lt, lg_cmp_le, lg_cmp_gt, lg_cmp_ge, lg_cmp_eq] at c9); (try simp (disch := omega) only [ta_lt, ta_le, ta_eq, tb_lt, tb_le, tb_eq, tw, tnI, tsub1, tsv, tsb32, tn32 2 (by decide), tnj 2 (by decide), tn32 1 (by decide), tnj 1 (by decide), tl32 0 (by decide), tl64 0 (by decide), tl32 1 (by decide), tl64 1 (by decide)] at c9); (try simp only [lg_cmp_lt, lg_cmp_le, lg_cmp_gt, lg_cmp_ge, lg_cmp_eq] at c12); (try simp (disch := omega) only [ta_lt, ta_le, ta_eq, tb_lt, tb_le, tb_eq, tw, tnI, tsub1, tsv, tsb32, tn32 2 (by decide), tnj 2 (by decide), tn32 1 (by decide), tnj 1 (by decide), tl32 0 (by decide), tl64 0 (by decide), tl32 1 (by decide), tl64 1 (by decide)] at c12); (try simp only [lg_cmp_lt, lg_cmp_le, lg_cmp_gt, lg_cmp_ge, lg_cmp_eq] at f17_0); (try simp (disch := omega) only [ta_lt, ta_le, ta_eq, tb_lt, tb_le, tb_eq, tw, tnI, tsub1, tsv, tsb32, tn32 2 (by decide), tnj 2 (by decide), tn32 1 (by decide), tnj 1 (by decide), tl32 0 (by decide), tl64 0 (by decide), tl32 1 (by decide), tl64 1 (by decide)] at f17_0); (try simp only [lg_cmp_lt, lg_cmp_le, lg_cmp_gt, lg_cmp_ge, lg_cmp_eq] at hc17); (try simp (disch := omega) only [ta_lt, ta_le, ta_eq, tb_lt, tb_le, tb_eq, tw, tnI, tsub1, tsv, tsb32, tn32 2 (by decide), tnj 2 (by decide), tn32 1 (by decide), tnj 1 (by decide), tl32 0 (by decide), tl64 0 (by decide), tl32 1 (by decide), tl64 1 (by decide)] at hc17); (try simp (disch := omega) only [ta_lt, ta_le, ta_eq, tb_lt, tb_le, tb_eq, tw, tnI, tsub1, tsv, tsb32, tn32 2 (by decide), tnj 2 (by decide), tn32 1 (by decide), tnj 1 (by decide), tl32 0 (by decide), tl64 0 (by decide), tl32 1 (by decide), tl64 1 (by decide)]); omega) (by (try simp only [lg_cmp_lt, lg_cmp_le, lg_cmp_gt, lg_cmp_ge, lg_cmp_eq] at c3); (try simp (disch := omega) only [ta_lt, ta_le, ta_eq, tb_lt, tb_le, tb_eq, tw, tnI, tsub1, tsv, tsb32, tn32 2 (by decide), tnj 2 (by decide), tn32 1 (by decide), tnj 1 (by decide), tl32 0 (by decide), tl64 0 (by decide), tl32 1 (by decide), tl64 1 (by decide)] at c3); (try simp only [lg_cmp_lt, lg_cmp_le, lg_cmp_gt, lg_cmp_ge, lg_cmp_eq] at f4_0); (try simp (disch := omega) only [ta_lt, ta_le, ta_eq, tb_lt, tb_le, tb_eq, tw, tnI, tsub1, tsv, tsb32, tn32 2 (by decide), tnj 2 (by decide), tn32 1 (by decide), tnj 1 (by decide), tl32 0 (by decide), tl64 0 (by decide), tl32 1 (by decide), tl64 1 (by decide)] at f4_0); (try simp only [lg_cmp_lt, lg_cmp_le, lg_cmp_gt, lg_cmp_ge, lg_cmp_eq] at hc4); (try simp (disch := omega) only [ta_lt, ta_le, ta_eq, tb_lt, tb_le, tb_eq, tw, tnI, tsub1, tsv, tsb32, tn32 2 (by decide), tnj 2 (by decide), tn32 1 (by decide), tnj 1 (by decide), tl32 0 (by decide), tl64 0 (by decide), tl32 1 (by decide), tl64 1 (by decide)] at hc4); (try simp only [lg_cmp_lt, lg_cmp_le, lg_cmp_gt, lg_cmp_ge, lg_cmp_eq] at f5_0); (try simp (disch := omega) only [ta_lt, ta_le, ta_eq, tb_lt, tb_le, tb_eq, tw, tnI, tsub1, tsv, tsb32, tn32 2 (by decide), tnj 2 (by decide), tn32 1 (by decide), tnj 1 (by decide), tl32 0 (by decide), tl64 0 (by decide), tl32 1 (by decide), tl64 1 (by decide)] at f5_0); (try simp only [lg_cmp_lt, lg_cmp_le, lg_cmp_gt, lg_cmp_ge, lg_cmp_eq] at hc5); (try simp (disch := omega) only [ta_lt, ta_le, ta_eq, tb_lt, tb_le, tb_eq, tw, tnI, tsub1, tsv, tsb32, tn32 2 (by decide), tnj 2 (by decide), tn32 1 (by decide), tnj 1 (by decide), tl32 0 (by decide), tl64 0 (by decide), tl32 1 (by decide), tl64 1 (by decide)] at hc5); (try simp only [lg_cmp_lt, lg_cmp_le, lg_cmp_gt, lg_cmp_ge, lg_cmp_eq] at f6_0); (try simp (disch := omega) only [ta_lt, ta_le, ta_eq, tb_lt, tb_le, tb_eq, tw, tnI, tsub1, tsv, tsb32, tn32 2 (by decide), tnj 2 (by decide), tn32 1 (by decide), tnj 1 (by decide), tl32 0 (by decide), tl64 0 (by decide), tl32 1 (by decide), tl64 1 (by decide)] at f6_0); (try simp only [lg_cmp_lt, lg_cmp_le, lg_cmp_gt, lg_cmp_ge, lg_cmp_eq] at hc6); (try simp (disch := omega) only [ta_lt, ta_le, ta_eq, tb_lt, tb_le, tb_eq, tw, tnI, tsub1, tsv, tsb32, tn32 2 (by decide), tnj 2 (by decide), tn32 1 (by decide), tnj 1 (by decide), tl32 0 (by decide), tl64 0 (by decide), tl32 1 (by decide), tl64 1 (by decide)] at hc6); (try simp only [lg_cmp_lt, lg_cmp_le, lg_cmp_gt, lg_cmp_ge, lg_cmp_eq] at c9); (try simp (disch := omega) only [ta_lt, ta_le, ta_eq, tb_lt, tb_le, tb_eq, tw, tnI, tsub1, tsv, tsb32, tn32 2 (by decide), tnj 2 (by decide), tn32 1 (by decide), tnj 1 (by decide), tl32 0 (by decide), tl64 0 (by decide), tl32 1 (by decide), tl64 1 (by decide)] at c9); (try simp only [lg_cmp_lt, lg_cmp_le, lg_cmp_gt, lg_cmp_ge, lg_cmp_eq] at c12); (try simp (disch := omega) only [ta_lt, ta_le, ta_eq, tb_lt, tb_le, tb_eq, tw, tnI, tsub1, tsv, tsb32, tn32 2 (by decide), tnj 2 (by decide), tn32 1 (by decide), tnj 1 (by decide), tl32 0 (by decide), tl64 0 (by decide), tl32 1 (by decide), tl64 1 (by decide)] at c12); (try simp only [lg_cmp_lt, lg_cmp_le, lg_cmp_gt, lg_cmp_ge, lg_cmp_eq] at f17_0); (try simp (disch := omega) only [ta_lt, ta_le, ta_eq, tb_lt, tb_le, tb_eq, tw, tnI, tsub1, tsv, tsb32, tn32 2 (by decide), tnj 2 (by decide), tn32 1 (by decide), tnj 1 (by decide), tl32 0 (by decide), tl64 0 (by decide), tl32 1 (by decide), tl64 1 (by decide)] at f17_0); (try simp only [lg_cmp_lt, lg_cmp_le, lg_cmp_gt, lg_cmp_ge, lg_cmp_eq] at hc17); (try simp (disch := omega) only [ta_lt, ta_le, ta_eq, tb_lt, tb_le, tb_eq, tw, tnI, tsub1, tsv, tsb32, tn32 2 (by decide), tnj 2 (by decide), tn32 1 (by decide), tnj 1 (by decide), tl32 0 (by decide), tl64 0 (by decide), tl32 1 (by decide), tl64 1 (by decide)] at hc17); (try simp (disch := omega) only [ta_lt, ta_le, ta_eq, tb_lt, tb_le, tb_eq, tw, tnI, tsub1, tsv, tsb32, tn32 2 (by decide), tnj 2 (by decide), tn32 1 (by decide), tnj 1 (by decide), tl32 0 (by decide), tl64 0 (by decide), tl32 1 (by decide), tl64 1 (by decide)]); omega) hT17 hF17 hw (lv_sub hl [0, 1, 2, 3, 4, 5, 6] rfl)
                  exact lp11 _ 0 0 σ _ _ _ (Nat.lt_succ_self _) (by (try simp only [lg_cmp_lt, lg_cmp_le, lg_cmp_gt, lg_cmp_ge, lg_cmp_eq] at c3); (try simp (disch := omega) only [ta_lt, ta_le, ta_eq, tb_lt, tb_le, tb_eq, tw, tnI, tsub1, tsv, tsb32, tn32 2 (by decide), tnj 2 (by decide), tn32 1 (by decide), tnj 1 (by decide), tl32 0 (by decide), tl64 0 (by decide), tl32 1 (by decide), tl64 1 (by decide)] at c3); (try simp only [lg_cmp_lt, lg_cmp_le, lg_cmp_gt, lg_cmp_ge, lg_cmp_eq] at f4_0); (try simp (disch := omega) only [ta_lt, ta_le, ta_eq, tb_lt, tb_le, tb_eq, tw, tnI, tsub1, tsv, tsb32, tn32 2 (by decide), tnj 2 (by decide), tn32 1 (by decide), tnj 1 (by decide), tl32 0 (by decide), tl64 0 (by decide), tl32 1 (by decide), tl64 1 (by decide)] at f4_0); (try simp only [lg_cmp_lt, lg_cmp_le, lg_cmp_gt, lg_cmp_ge, lg_cmp_eq] at hc4); (try simp (disch := omega) only [ta_lt, ta_le, ta_eq, tb_lt, tb_le, tb_eq, tw, tnI, tsub1, tsv, tsb32, tn32 2 (by decide), tnj 2 (by decide), tn32 1 (by decide), tnj 1 (by decide), tl32 0 (by decide), tl64 0 (by decide), tl32 1 (by decide), tl64 1 (by decide)] at hc4); (try simp only [lg_cmp_lt, lg_cmp_le, lg_cmp_gt, lg_cmp_ge, lg_cmp_eq] at f5_0); (try simp (disch := omega) only [ta_lt, ta_le, ta_eq, tb_lt, tb_le, tb_eq, tw, tnI, tsub1, tsv, tsb32, tn32 2 (by decide), tnj 2 (by decide), tn32 1 (by decide), tnj 1 (by decide), tl32 0 (by decide), tl64 0 (by decide), tl32 1 (by decide), tl64 1 (by decide)] at f5_0); (try simp only [lg_cmp_lt, lg_cmp_le, lg_cmp_gt, lg_cmp_ge, lg_cmp_eq] at hc5); (try simp (disch := omega) only [ta_lt, ta_le, ta_eq, tb_lt, tb_le, tb_eq, tw, tnI, tsub1, tsv, tsb32, tn32 2 (by decide), tnj 2 (by decide), tn32 1 (by decide), tnj 1 (by decide), tl32 0 (by decide), tl64 0 (by decide), tl32 1 (by decide), tl64 1 (by decide)] at hc5); (try simp only [lg_cmp_lt, lg_cmp_le, lg_cmp_gt, lg_cmp_ge, lg_cmp_eq] at f6_0); (try simp (disch := omega) only [ta_lt, ta_le, ta_eq, tb_lt, tb_le, tb_eq, tw, tnI, tsub1, tsv, tsb32, tn32 2 (by decide), tnj 2 (by decide), tn32 1 (by decide), tnj 1 (by decide), tl32 0 (by decide), tl64 0 (by decide), tl32 1 (by decide), tl64 1 (by decide)] at f6_0); (try simp only [lg_cmp_lt, lg_cmp_le, lg_cmp_gt, lg_cmp_ge, lg_cmp_eq] at hc6); (try simp (disch := omega) only [ta_lt, ta_le, ta_eq, tb_lt, tb_le, tb_eq, tw, tnI, tsub1, tsv, tsb32, tn32 2 (by decide), tnj 2 (by decide), tn32 1 (by decide), tnj 1 (by decide), tl32 0 (by decide), tl64 0 (by decide), tl32 1 (by decide), tl64 1 (by decide)] at hc6); (try simp only [lg_cmp_lt, lg_cmp_le, lg_cmp_gt, lg_cmp_ge, lg_cmp_eq] at c9); (try simp (disch := omega) only [ta_lt, ta_le, ta_eq, tb_lt, tb_le, tb_eq, tw, tnI, tsub1, tsv, tsb32, tn32 2 (by decide), tnj 2 (by decide), tn32 1 (by decide), tnj 1 (by decide), tl32 0 (by decide), tl64 0 (by decide), tl32 1 (by decide), tl64 1 (by decide)] at c9); (try simp (disch := omega) only [ta_lt, ta_le, ta_eq, tb_lt, tb_le, tb_eq, tw, tnI, tsub1, tsv, tsb32, tn32 2 (by decide), tnj 2 (by decide), tn32 1 (by decide), tnj 1 (by decide), tl32 0 (by decide), tl64 0 (by decide), tl32 1 (by decide), tl64 1 (by decide)]); omega) (by (try simp only [lg_cmp_lt, lg_cmp_le, lg_cmp_gt, lg_cmp_ge, lg_cmp_eq] at c3); (try simp (disch := omega) only [ta_lt, ta_le, ta_eq, tb_lt, tb_le, tb_eq, tw, tnI, tsub1, tsv, tsb32, tn32 2 (by decide), tnj 2 (by decide), tn32 1 (by decide), tnj 1 (by decide), tl32 0 (by decide), tl64 0 (by decide), tl32 1 (by decide), tl64 1 (by decide)] at c3); (try simp only [lg_cmp_lt, lg_cmp_le, lg_cmp_gt, lg_cmp_ge, lg_cmp_eq] at f4_0); (try simp (disch := omega) only [ta_lt, ta_le, ta_eq, tb_lt, tb_le, tb_eq, tw, tnI, tsub1, tsv, tsb32, tn32 2 (by decide), tnj 2 (by decide), tn32 1 (by decide), tnj 1 (by decide), tl32 0 (by decide), tl64 0 (by decide), tl32 1 (by decide), tl64 1 (by decide)] at f4_0); (try simp only [lg_cmp_lt, lg_cmp_le, lg_cmp_gt, lg_cmp_ge, lg_cmp_eq] at hc4); (try simp (disch := omega) only [ta_lt, ta_le, ta_eq, tb_lt, tb_le, tb_eq, tw, tnI, tsub1, tsv, tsb32, tn32 2 (by decide), tnj 2 (by decide), tn32 1 (by decide), tnj 1 (by decide), tl32 0 (by decide), tl64 0 (by decide), tl32 1 (by decide), tl64 1 (by decide)] at hc4); (try simp only [lg_cmp_lt, lg_cmp_le, lg_cmp_gt, lg_cmp_ge, lg_cmp_eq] at f5_0); (try simp (disch := omega) only [ta_lt, ta_le, ta_eq, tb_lt, tb_le, tb_eq, tw, tnI, tsub1, tsv, tsb32, tn32 2 (by decide), tnj 2 (by decide), tn32 1 (by decide), tnj 1 (by decide), tl32 0 (by decide), tl64 0 (by decide), tl32 1 (by decide), tl64 1 (by decide)] at f5_0); (try simp only [lg_cmp_lt, lg_cmp_le, lg_cmp_gt, lg_cmp_ge, lg_cmp_eq] at hc5); (try simp (disch := omega) only [ta_lt, ta_le, ta_eq, tb_lt, tb_le, tb_eq, tw, tnI, tsub1, tsv, tsb32, tn32 2 (by decide), tnj 2 (by decide), tn32 1 (by decide), tnj 1 (by decide), tl32 0 (by decide), tl64 0 (by decide), tl32 1 (by decide), tl64 1 (by decide)] at hc5); (try simp only [lg_cmp_lt, lg_cmp_le, lg_cmp_gt, lg_cmp_ge, lg_cmp_eq] at f6_0); (try simp (disch := omega) only [ta_lt, ta_le, ta_eq, tb_lt, tb_le, tb_eq, tw, tnI, tsub1, tsv, tsb32, tn32 2 (by decide), tnj 2 (by decide), tn32 1 (by decide), tnj 1 (by decide), tl32 0 (by decide), tl64 0 (by decide), tl32 1 (by decide), tl64 1 (by decide)] at f6_0); (try simp only [lg_cmp_lt, lg_cmp_le, lg_cmp_gt, lg_cmp_ge, lg_cmp_eq] at hc6); (try simp (disch := omega) only [ta_lt, ta_le, ta_eq, tb_lt, tb_le, tb_eq, tw, tnI, tsub1, tsv, tsb32, tn32 2 (by decide), tnj 2 (by decide), tn32 1 (by decide), tnj 1 (by decide), tl32 0 (by decide), tl64 0 (by decide), tl32 1 (by decide), tl64 1 (by decide)] at hc6); (try simp only [lg_cmp_lt, lg_cmp_le, lg_cmp_gt, lg_cmp_ge, lg_cmp_eq] at c9); (try simp (disch := omega) only [ta_lt, ta_le, ta_eq, tb_lt, tb_le, tb_eq, tw, tnI, tsub1, tsv, tsb32, tn32 2 (by decide), tnj 2 (by decide), tn32 1 (by decide), tnj 1 (by decide), tl32 0 (by decide), tl64 0 (by decide), tl32 1 (by decide), tl64 1 (by decide)] at c9); (try simp (disch := omega) only [ta_lt, ta_le, ta_eq, tb_lt, tb_le, tb_eq, tw, tnI, tsub1, tsv, tsb32, tn32 2 (by decide), tnj 2 (by decide), tn32 1 (by decide), tnj 1 (by decide), tl32 0 (by decide), tl64 0 (by decide), tl32 1 (by decide), tl64 1 (by decide)]); omega) hT frC.refl hw (lv_sub hl [0, 1, 2, 3, 4, 5, 6] rfl)
                · (try simp (disch := omega) only [ta_lt, ta_le, ta_eq, tnI] at c9); have hz9 := i32b v7
                  refine lv_aload_n hx hb (dkP dF_42 DX11_night (i := 38) rfl rfl) rfl (lv_at hl 3 rfl) ?_
                  refine z_gr C0 hw 0 7 223 (fk_of shc_0 rfl) fl_X11_51 (dk2 dF_180 DX11_night (i := 39) rfl rfl rfl) ?_
                  refine lv_iload_n hx hb (dkP dF_28 DX11_night (i := 40) rfl rfl) rfl (lv_at hl 5 rfl) ?_
                  refine lv_iload hx hb (dk1 dF_21 DX11_night (i := 41) rfl rfl rfl) (lv_at hl 0 rfl) ?_
                  refine zk_L hw (zr_V (As := [.int (nI sn_), .int (nI q5_67)]) (rest := []) C0 (c_X7_number l G kc ad σ sn_ q5_67 (by omega) (by omega) hT _) cv_X7_number lk_X11_237 (zp_V C0 hRo hw 223 shc_223 rfl rfl) rfl hl.1 rfl ⟨by decide, by decide⟩ (Nat.le_of_ble_eq_true rfl) (dk2 dF_182 DX11_night (i := 42) rfl rfl rfl) ⟨Nat.le_refl _, Nat.le_refl _⟩) (fun r18 s18 H locs hp hw => ?_)
                  have hs18 := hp
                  (rw [hs18] at hw)
                  refine lv_lstore (lv' := [(6, .long r18), (5, .int (nI q5_67)), (4, .int v7), (3, .ref (ad (8 + 22 * k_program))), (0, .ref (ad 0)), (1, .int (nI k_program)), (2, .int (nI sn_))]) hx hb (dk1 dF_55 DX11_night (i := 43) rfl rfl rfl) hl (by decide) rfl (fun ls hl => ?_)
                  refine lv_lload hx hb (dk1 dF_22 DX11_night (i := 44) rfl rfl rfl) (lv_at hl 0 rfl) ?_
                  refine lv_lconst (v := 0) hx hb (dkP dF_9 DX11_night (i := 45) rfl rfl) (by decide) ?_
                  refine W.lcmp hx hb (dkP dF_148 DX11_night (i := 46) rfl rfl) ?_
                  refine lv_if_lt (tgt := 104) hx hb (dkS dF_155 DX11_night (i := 47) rfl rfl rfl) (by decide) (fun c19 => ?_) (fun c19 => ?_)
                  · (try simp (disch := omega) only [ta_lt, ta_le, ta_eq, tnI, tl32 0 (by decide)] at c19)
                    refine lv_bipush (v := (-7)) hx hb (dks dF_16 DX11_night (i := 54) rfl rfl rfl) (by decide) ?_
                    exact z_iret C0 hr hlk hw (⟨hJ, hT, frC.refl⟩) (dkP dF_172 DX11_night (i := 55) rfl rfl)
                  · (try simp (disch := omega) only [ta_lt, ta_le, ta_eq, tnI, tl32 0 (by decide)] at c19)
                    refine lv_lload hx hb (dk1 dF_22 DX11_night (i := 48) rfl rfl rfl) (lv_at hl 0 rfl) ?_
                    refine lv_aload_n hx hb (dkP dF_45 DX11_night (i := 49) rfl rfl) rfl (lv_at hl 3 rfl) ?_
                    refine z_gi C0 hw (8 + 22 * k_program) 4 (fk_of (shp_8 k_program (by omega)) rfl) fl_X11_143 (dk2 dF_180 DX11_night (i := 50) rfl rfl rfl) ?_
                    obtain ⟨v20, ev20⟩ : ∃ y : Int32, σ.1 (8 + 22 * k_program) 4 = y := ⟨_, rfl⟩
                    refine z_top (y := v20) ev20 ?_
                    refine lv_i2l hx hb (dkP dF_133 DX11_night (i := 51) rfl rfl) rfl ?_
                    refine W.lcmp hx hb (dkP dF_148 DX11_night (i := 52) rfl rfl) ?_
                    refine lv_if_lt (tgt := 107) hx hb (dkS dF_155 DX11_night (i := 53) rfl rfl rfl) (by decide) (fun c21 => ?_) (fun c21 => ?_)
                    · (try simp (disch := omega) only [ta_lt, ta_le, ta_eq, tnI, tl32 0 (by decide)] at c21)
                      refine lv_iinc (v := nI (q5_67 + 1)) (lv' := [(5, .int (nI (q5_67 + 1))), (6, .long r18), (4, .int v7), (3, .ref (ad (8 + 22 * k_program))), (0, .ref (ad 0)), (1, .int (nI k_program)), (2, .int (nI sn_))]) hx hb (dkI DX11_night (i := 56) rfl rfl rfl rfl) hl (k := 1) rfl (nI_1 _) (by decide) rfl (fun ls hl => ?_)
                      refine lv_goto (tgt := 67) hx hb (dkS dF_167 DX11_night (i := 57) rfl rfl rfl) (by decide) ?_
                      exact ih8 (q5_67 + 1) _ _ _ (by omega) (by (try simp only [lg_cmp_lt, lg_cmp_le, lg_cmp_gt, lg_cmp_ge, lg_cmp_eq] at c3); (try simp (disch := omega) only [ta_lt, ta_le, ta_eq, tb_lt, tb_le, tb_eq, tw, tnI, tsub1, tsv, tsb32, tn32 7 (by decide), tnj 7 (by decide), tn32 2 (by decide), tnj 2 (by decide), tn32 1 (by decide), tnj 1 (by decide), tl32 0 (by decide), tl64 0 (by decide), tl32 1 (by decide), tl64 1 (by decide)] at c3); (try simp only [lg_cmp_lt, lg_cmp_le, lg_cmp_gt, lg_cmp_ge, lg_cmp_eq] at f4_0); (try simp (disch := omega) only [ta_lt, ta_le, ta_eq, tb_lt, tb_le, tb_eq, tw, tnI, tsub1, tsv, tsb32, tn32 7 (by decide), tnj 7 (by decide), tn32 2 (by decide), tnj 2 (by decide), tn32 1 (by decide), tnj 1 (by decide), tl32 0 (by decide), tl64 0 (by decide), tl32 1 (by decide), tl64 1 (by decide)] at f4_0); (try simp only [lg_cmp_lt, lg_cmp_le, lg_cmp_gt, lg_cmp_ge, lg_cmp_eq] at hc4); (try simp (disch := omega) only [ta_lt, ta_le, ta_eq, tb_lt, tb_le, tb_eq, tw, tnI, tsub1, tsv, tsb32, tn32 7 (by decide), tnj 7 (by decide), tn32 2 (by decide), tnj 2 (by decide), tn32 1 (by decide), tnj 1 (by decide), tl32 0 (by decide), tl64 0 (by decide), tl32 1 (by decide), tl64 1 (by decide)] at hc4); (try simp only [lg_cmp_lt, lg_cmp_le, lg_cmp_gt, lg_cmp_ge, lg_cmp_eq] at f5_0); (try simp (disch := omega) only [ta_lt, ta_le, ta_eq, tb_lt, tb_le, tb_eq, tw, tnI, tsub1, tsv, tsb32, tn32 7 (by decide), tnj 7 (by decide), tn32 2 (by decide), tnj 2 (by decide), tn32 1 (by decide), tnj 1 (by decide), tl32 0 (by decide), tl64 0 (by decide), tl32 1 (by decide), tl64 1 (by decide)] at f5_0); (try simp only [lg_cmp_lt, lg_cmp_le, lg_cmp_gt, lg_cmp_ge, lg_cmp_eq] at hc5); (try simp (disch := omega) only [ta_lt, ta_le, ta_eq, tb_lt, tb_le, tb_eq, tw, tnI, tsub1, tsv, tsb32, tn32 7 (by decide), tnj 7 (by decide), tn32 2 (by decide), tnj 2 (by decide), tn32 1 (by decide), tnj 1 (by decide), tl32 0 (by decide), tl64 0 (by decide), tl32 1 (by decide), tl64 1 (by decide)] at hc5); (try simp only [lg_cmp_lt, lg_cmp_le, lg_cmp_gt, lg_cmp_ge, lg_cmp_eq] at f6_0); (try simp (disch := omega) only [ta_lt, ta_le, ta_eq, tb_lt, tb_le, tb_eq, tw, tnI, tsub1, tsv, tsb32, tn32 7 (by decide), tnj 7 (by decide), tn32 2 (by decide), tnj 2 (by decide), tn32 1 (by decide), tnj 1 (by decide), tl32 0 (by decide), tl64 0 (by decide), tl32 1 (by decide), tl64 1 (by decide)] at f6_0); (try simp only [lg_cmp_lt, lg_cmp_le, lg_cmp_gt, lg_cmp_ge, lg_cmp_eq] at hc6); (try simp (disch := omega) only [ta_lt, ta_le, ta_eq, tb_lt, tb_le, tb_eq, tw, tnI, tsub1, tsv, tsb32, tn32 7 (by decide), tnj 7 (by decide), tn32 2 (by decide), tnj 2 (by decide), tn32 1 (by decide), tnj 1 (by decide), tl32 0 (by decide), tl64 0 (by decide), tl32 1 (by decide), tl64 1 (by decide)] at hc6); (try simp only [lg_cmp_lt, lg_cmp_le, lg_cmp_gt, lg_cmp_ge, lg_cmp_eq] at c9); (try simp (disch := omega) only [ta_lt, ta_le, ta_eq, tb_lt, tb_le, tb_eq, tw, tnI, tsub1, tsv, tsb32, tn32 7 (by decide), tnj 7 (by decide), tn32 2 (by decide), tnj 2 (by decide), tn32 1 (by decide), tnj 1 (by decide), tl32 0 (by decide), tl64 0 (by decide), tl32 1 (by decide), tl64 1 (by decide)] at c9); (try simp only [lg_cmp_lt, lg_cmp_le, lg_cmp_gt, lg_cmp_ge, lg_cmp_eq] at c19); (try simp (disch := omega) only [ta_lt, ta_le, ta_eq, tb_lt, tb_le, tb_eq, tw, tnI, tsub1, tsv, tsb32, tn32 7 (by decide), tnj 7 (by decide), tn32 2 (by decide), tnj 2 (by decide), tn32 1 (by decide), tnj 1 (by decide), tl32 0 (by decide), tl64 0 (by decide), tl32 1 (by decide), tl64 1 (by decide)] at c19); (try simp only [lg_cmp_lt, lg_cmp_le, lg_cmp_gt, lg_cmp_ge, lg_cmp_eq] at c21); (try simp (disch := omega) only [ta_lt, ta_le, ta_eq, tb_lt, tb_le, tb_eq, tw, tnI, tsub1, tsv, tsb32, tn32 7 (by decide), tnj 7 (by decide), tn32 2 (by decide), tnj 2 (by decide), tn32 1 (by decide), tnj 1 (by decide), tl32 0 (by decide), tl64 0 (by decide), tl32 1 (by decide), tl64 1 (by decide)] at c21); (try simp (disch := omega) only [ta_lt, ta_le, ta_eq, tb_lt, tb_le, tb_eq, tw, tnI, tsub1, tsv, tsb32, tn32 7 (by decide), tnj 7 (by decide), tn32 2 (by decide), tnj 2 (by decide), tn32 1 (by decide), tnj 1 (by decide), tl32 0 (by decide), tl64 0 (by decide), tl32 1 (by decide), tl64 1 (by decide)]); omega) hw (lv_sub hl [0, 2, 3, 4, 5, 6] rfl)
                    · (try simp (disch := omega) only [ta_lt, ta_le, ta_eq, tnI, tl32 0 (by decide)] at c21)
                      refine lv_bipush (v := (-7)) hx hb (dks dF_16 DX11_night (i := 54) rfl rfl rfl) (by decide) ?_
                      exact z_iret C0 hr hlk hw (⟨hJ, hT, frC.refl⟩) (dkP dF_172 DX11_night (i := 55) rfl rfl)
            exact lp8 _ 0 _ _ _ (Nat.lt_succ_self _) (by (try simp only [lg_cmp_lt, lg_cmp_le, lg_cmp_gt, lg_cmp_ge, lg_cmp_eq] at c3); (try simp (disch := omega) only [ta_lt, ta_le, ta_eq, tb_lt, tb_le, tb_eq, tw, tnI, tsub1, tsv, tsb32, tn32 7 (by decide), tnj 7 (by decide), tn32 2 (by decide), tnj 2 (by decide), tn32 1 (by decide), tnj 1 (by decide), tl32 0 (by decide), tl64 0 (by decide), tl32 1 (by decide), tl64 1 (by decide)] at c3); (try simp only [lg_cmp_lt, lg_cmp_le, lg_cmp_gt, lg_cmp_ge, lg_cmp_eq] at f4_0); (try simp (disch := omega) only [ta_lt, ta_le, ta_eq, tb_lt, tb_le, tb_eq, tw, tnI, tsub1, tsv, tsb32, tn32 7 (by decide), tnj 7 (by decide), tn32 2 (by decide), tnj 2 (by decide), tn32 1 (by decide), tnj 1 (by decide), tl32 0 (by decide), tl64 0 (by decide), tl32 1 (by decide), tl64 1 (by decide)] at f4_0); (try simp only [lg_cmp_lt, lg_cmp_le, lg_cmp_gt, lg_cmp_ge, lg_cmp_eq] at hc4); (try simp (disch := omega) only [ta_lt, ta_le, ta_eq, tb_lt, tb_le, tb_eq, tw, tnI, tsub1, tsv, tsb32, tn32 7 (by decide), tnj 7 (by decide), tn32 2 (by decide), tnj 2 (by decide), tn32 1 (by decide), tnj 1 (by decide), tl32 0 (by decide), tl64 0 (by decide), tl32 1 (by decide), tl64 1 (by decide)] at hc4); (try simp only [lg_cmp_lt, lg_cmp_le, lg_cmp_gt, lg_cmp_ge, lg_cmp_eq] at f5_0); (try simp (disch := omega) only [ta_lt, ta_le, ta_eq, tb_lt, tb_le, tb_eq, tw, tnI, tsub1, tsv, tsb32, tn32 7 (by decide), tnj 7 (by decide), tn32 2 (by decide), tnj 2 (by decide), tn32 1 (by decide), tnj 1 (by decide), tl32 0 (by decide), tl64 0 (by decide), tl32 1 (by decide), tl64 1 (by decide)] at f5_0); (try simp only [lg_cmp_lt, lg_cmp_le, lg_cmp_gt, lg_cmp_ge, lg_cmp_eq] at hc5); (try simp (disch := omega) only [ta_lt, ta_le, ta_eq, tb_lt, tb_le, tb_eq, tw, tnI, tsub1, tsv, tsb32, tn32 7 (by decide), tnj 7 (by decide), tn32 2 (by decide), tnj 2 (by decide), tn32 1 (by decide), tnj 1 (by decide), tl32 0 (by decide), tl64 0 (by decide), tl32 1 (by decide), tl64 1 (by decide)] at hc5); (try simp only [lg_cmp_lt, lg_cmp_le, lg_cmp_gt, lg_cmp_ge, lg_cmp_eq] at f6_0); (try simp (disch := omega) only [ta_lt, ta_le, ta_eq, tb_lt, tb_le, tb_eq, tw, tnI, tsub1, tsv, tsb32, tn32 7 (by decide), tnj 7 (by decide), tn32 2 (by decide), tnj 2 (by decide), tn32 1 (by decide), tnj 1 (by decide), tl32 0 (by decide), tl64 0 (by decide), tl32 1 (by decide), tl64 1 (by decide)] at f6_0); (try simp only [lg_cmp_lt, lg_cmp_le, lg_cmp_gt, lg_cmp_ge, lg_cmp_eq] at hc6); (try simp (disch := omega) only [ta_lt, ta_le, ta_eq, tb_lt, tb_le, tb_eq, tw, tnI, tsub1, tsv, tsb32, tn32 7 (by decide), tnj 7 (by decide), tn32 2 (by decide), tnj 2 (by decide), tn32 1 (by decide), tnj 1 (by decide), tl32 0 (by decide), tl64 0 (by decide), tl32 1 (by decide), tl64 1 (by decide)] at hc6); (try simp (disch := omega) only [ta_lt, ta_le, ta_eq, tb_lt, tb_le, tb_eq, tw, tnI, tsub1, tsv, tsb32, tn32 7 (by decide), tnj 7 (by decide), tn32 2 (by decide), tnj 2 (by decide), tn32 1 (by decide), tnj 1 (by decide), tl32 0 (by decide), tl64 0 (by decide), tl32 1 (by decide), tl64 1 (by decide)]); omega) hw (lv_sub hl [0, 1, 2, 3, 4, 5] rfl)
          · skip
            refine lv_if_ne (tgt := 53) hx hb (dkS dF_154 DX11_night (i := 24) rfl rfl rfl) (by decide) (fun h => absurd h (by decide)) (fun _ => ?_)
            refine lv_bipush (v := (-6)) hx hb (dks dF_16 DX11_night (i := 25) rfl rfl rfl) (by decide) ?_
            exact z_iret C0 hr hlk hw (⟨hJ, hT, frC.refl⟩) (dkP dF_172 DX11_night (i := 26) rfl rfl)
        · skip
          refine lv_if_ne (tgt := 39) hx hb (dkS dF_154 DX11_night (i := 17) rfl rfl rfl) (by decide) (fun h => absurd h (by decide)) (fun _ => ?_)
          refine lv_bipush (v := (-2)) hx hb (dks dF_16 DX11_night (i := 18) rfl rfl rfl) (by decide) ?_
          exact z_iret C0 hr hlk hw (⟨hJ, hT, frC.refl⟩) (dkP dF_172 DX11_night (i := 19) rfl rfl)
      · skip
        refine lv_if_eq (tgt := 36) hx hb (dkS dF_153 DX11_night (i := 12) rfl rfl rfl) (by decide) (fun _ => ?_) (fun h => absurd h (by decide))
        refine lv_bipush (v := (-2)) hx hb (dks dF_16 DX11_night (i := 18) rfl rfl rfl) (by decide) ?_
        exact z_iret C0 hr hlk hw (⟨hJ, hT, frC.refl⟩) (dkP dF_172 DX11_night (i := 19) rfl rfl)
set_option maxRecDepth 100000 in
set_option maxHeartbeats 8000000 in
theorem c_X11_live (l : Launch) (G : va_G) (kc : KC) (ad : Nat → Nat) (σ : Sg) (program : Int32) (hJ : JC σ) (hT : TC σ) : MI l G kc yX11_live cX11_live 3 (some .int) 2 43 [.ref (ad 0), .int program] shC ad σ (fun r σ1 => (JC σ1) ∧ TC σ1 ∧ frC (fun x y => (x % 22 = 8 ∧ 8 ≤ x ∧ x ≤ 162 ∧ y = 0)) σ σ1) := by
  intro sz
  refine z_body (y := yX11_live) (n := 3) (av := [.ref (ad 0), .int program]) (Qc := fun A => va_Qi (fun r σ1 => (JC σ1) ∧ TC σ1 ∧ frC (fun x y => (x % 22 = 8 ∧ 8 ≤ x ∧ x ≤ 162 ∧ y = 0)) σ σ1) (PoC G kc shC ad A) A) (plainFor_of_name (by decide)) (Nat.le_of_ble_eq_true rfl) (fun pr e s m below meth c A C0 hr hlk hnm hw hRo ls hl => ?_) sz
  have hx := C0.1
  have hb := C0.2.1
  have hown := C0.2.2.2.1
  have hts := C0.2.2.2.2.1
  have hl : lv_has ls 3 [(0, .ref (ad 0)), (1, .int program)] := hl
  obtain ⟨t, u, hto, ht, hun, hu⟩ := hJ.rdr
  obtain ⟨wa, wb, hwa_, hwa, hwb_, hwb, hwab⟩ := hJ.wts
  refine lv_aload_n hx hb (dkP dF_42 DX11_live (i := 0) rfl rfl) rfl (lv_at hl 0 rfl) ?_
  refine lv_iload_n hx hb (dkP dF_27 DX11_live (i := 1) rfl rfl) rfl (lv_at hl 1 rfl) ?_
  refine zk_R hw (zr_V (As := [.int program]) (rest := []) C0 (c_X11_programAt l G kc ad σ program  _) cv_X11_programAt lk_X11_84 (zp_V C0 hRo hw 0 shc_0 rfl rfl) rfl hl.1 rfl ⟨by decide, by decide⟩ (Nat.le_of_ble_eq_true rfl) (dk2 dF_182 DX11_live (i := 2) rfl rfl rfl) ⟨Nat.le_refl _, Nat.le_refl _⟩) (fun r1 s1 H locs hp hw => ?_)
  obtain ⟨hq1, hs1⟩ := hp
  (rw [hs1] at hw)
  rcases hq1 with ⟨hc1, rfl⟩ | ⟨k_program, hk_program, rfl, rfl⟩
  · skip
    refine lv_astore_nN (lv' := [(2, .null), (0, .ref (ad 0)), (1, .int program)]) hx hb (dkP dF_77 DX11_live (i := 3) rfl rfl) rfl hl (by decide) rfl (fun ls hl => ?_)
    refine lv_aload_nN hx hb (dkP dF_44 DX11_live (i := 4) rfl rfl) rfl (lv_at hl 0 rfl) ?_
    refine lv_ifnullN (tgt := 17) hx hb (dkS dF_198 DX11_live (i := 5) rfl rfl rfl) (by decide) ?_
    refine lv_bipush (v := (-2)) hx hb (dks dF_16 DX11_live (i := 9) rfl rfl rfl) (by decide) ?_
    exact z_iret C0 hr hlk hw (⟨hJ, hT, frC.refl⟩) (dkP dF_172 DX11_live (i := 10) rfl rfl)
  · skip
    obtain ⟨t1, u1, hto1, ht1, hun1, hu1, hVP⟩ := hJ.prog hk_program
    obtain ⟨hLH, ⟨zo, uo, hzo, hzo24, hVo⟩, zn, un, K_, hzn, hzn40, hVn⟩ := id hVP
    refine lv_astore_n (lv' := [(2, .ref (ad (8 + 22 * k_program))), (0, .ref (ad 0)), (1, .int (nI k_program))]) hx hb (dkP dF_77 DX11_live (i := 3) rfl rfl) rfl hl (by decide) rfl (fun ls hl => ?_)
    refine lv_aload_n hx hb (dkP dF_44 DX11_live (i := 4) rfl rfl) rfl (lv_at hl 0 rfl) ?_
    refine lv_ifnull hx hb (dkS dF_198 DX11_live (i := 5) rfl rfl rfl) ?_
    refine lv_aload_n hx hb (dkP dF_44 DX11_live (i := 6) rfl rfl) rfl (lv_at hl 0 rfl) ?_
    refine zk_I hw (zr_V (As := []) (rest := []) C0 (c_X4_mayGoLive l G kc ad σ (8 + 22 * k_program) (pgm k_program (by omega)) hto1 ht1 hun1 hu1 hT _) cv_X4_mayGoLive lk_X11_270 (zp_V C0 hRo hw (8 + 22 * k_program) (shp_8 k_program (by omega)) rfl rfl) rfl hl.1 rfl ⟨by decide, by decide⟩ (Nat.le_of_ble_eq_true rfl) (dk2 dF_182 DX11_live (i := 7) rfl rfl rfl) ⟨Nat.le_refl _, Nat.le_refl _⟩) (fun r2 s2 H locs hp hw => ?_)
    obtain ⟨f2_0, hs2⟩ := hp
    (rw [hs2] at hw)
    rcases f2_0 with ⟨rfl, hc2⟩ | ⟨rfl, hc2⟩
    · skip
      refine lv_if_ne (tgt := 20) hx hb (dkS dF_154 DX11_live (i := 8) rfl rfl rfl) (by decide) (fun _ => ?_) (fun h => absurd h (by decide))
      refine lv_aload_n hx hb (dkP dF_44 DX11_live (i := 11) rfl rfl) rfl (lv_at hl 0 rfl) ?_
      refine z_gi C0 hw (8 + 22 * k_program) 1 (fk_of (shp_8 k_program (by omega)) rfl) fl_X11_140 (dk2 dF_180 DX11_live (i := 12) rfl rfl rfl) ?_
      obtain ⟨v3, ev3⟩ : ∃ y : Int32, σ.1 (8 + 22 * k_program) 1 = y := ⟨_, rfl⟩
      refine z_top (y := v3) ev3 ?_
      refine lv_if_eq (tgt := 30) hx hb (dkS dF_153 DX11_live (i := 13) rfl rfl rfl) (by decide) (fun c4 => ?_) (fun c4 => ?_)
      · (try simp (disch := omega) only [ta_lt, ta_le, ta_eq, tnI, tl32 0 (by decide)] at c4)
        refine lv_aload_n hx hb (dkP dF_42 DX11_live (i := 16) rfl rfl) rfl (lv_at hl 1 rfl) ?_
        refine z_gr C0 hw 0 0 1 (fk_of shc_0 rfl) fl_X11_10 (dk2 dF_180 DX11_live (i := 17) rfl rfl rfl) ?_
        refine z_gr C0 hw 1 2 4 (fk_of shc_1 rfl) fl_X11_267 (dk2 dF_180 DX11_live (i := 18) rfl rfl rfl) ?_
        refine lv_iload_n hx hb (dkP dF_27 DX11_live (i := 19) rfl rfl) rfl (lv_at hl 2 rfl) ?_
        refine z_ialdN (n := 8) C0 hw 4 k_program (ak_of shc_4) (by omega) (by decide) (dkP dF_46 DX11_live (i := 20) rfl rfl) ?_
        obtain ⟨n5, hn5, en5⟩ := rngN (x := σ.1 4 k_program) (h := 255) (tcr_14 hT tcl_4)
        refine z_top (y := nI n5) en5 ?_
        refine lv_aload_n hx hb (dkP dF_42 DX11_live (i := 21) rfl rfl) rfl (lv_at hl 1 rfl) ?_
        refine z_gr C0 hw 0 0 1 (fk_of shc_0 rfl) fl_X11_10 (dk2 dF_180 DX11_live (i := 22) rfl rfl rfl) ?_
        refine zk_I hw (zr_V (As := []) (rest := [.int (nI n5)]) C0 (c_X10_overBits l G kc ad σ hT _) cv_X10_overBits lk_X11_273 (zp_V C0 hRo hw 1 shc_1 rfl rfl) rfl hl.1 rfl ⟨by decide, by decide⟩ (Nat.le_of_ble_eq_true rfl) (dk2 dF_182 DX11_live (i := 23) rfl rfl rfl) ⟨Nat.le_refl _, Nat.le_refl _⟩) (fun r6 s6 H locs hp hw => ?_)
        obtain ⟨f6_0, hs6⟩ := hp
        (rw [hs6] at hw)
        refine lv_iconst (v := (-1)) hx hb (dkP dF_2 DX11_live (i := 24) rfl rfl) (by decide) ?_
        refine lv_ixor hx hb (dkP dF_130 DX11_live (i := 25) rfl rfl) ?_
        refine lv_iand hx hb (dkP dF_126 DX11_live (i := 26) rfl rfl) ?_
        refine lv_if_eq (tgt := 55) hx hb (dkS dF_153 DX11_live (i := 27) rfl rfl rfl) (by decide) (fun c7 => ?_) (fun c7 => ?_)
        · (try simp (disch := omega) only [ta_lt, ta_le, ta_eq, tnI, tl32 0 (by decide)] at c7)
          refine lv_aload_n hx hb (dkP dF_44 DX11_live (i := 30) rfl rfl) rfl (lv_at hl 0 rfl) ?_
          refine lv_iconst (v := 2) hx hb (dkP dF_5 DX11_live (i := 31) rfl rfl) (by decide) ?_
          refine z_pi C0 hw (8 + 22 * k_program) 0 (fk_of (shp_8 k_program (by omega)) rfl) fp_X11_88 (dk2 dF_181 DX11_live (i := 32) rfl rfl rfl) (fun H locs hw => ?_)
          have hT8 : TC (sI σ (8 + 22 * k_program) 0 2) := TC.w hT (tcw_5_0 (tcp_8 k_program (by omega)))
          have hF8 : frC (fun x y => (x % 22 = 8 ∧ 8 ≤ x ∧ x ≤ 162 ∧ y = 0)) σ (sI σ (8 + 22 * k_program) 0 2) := frC.w frC.refl (by show ((8 + 22 * k_program) % 22 = 8 ∧ 8 ≤ (8 + 22 * k_program) ∧ (8 + 22 * k_program) ≤ 162 ∧ 0 = 0); exact (by show (8 + 22 * k_program) % 22 = 8 ∧ 8 ≤ (8 + 22 * k_program) ∧ (8 + 22 * k_program) ≤ 162 ∧ 0 = 0; omega))
          refine lv_iconst (v := 0) hx hb (dkP dF_3 DX11_live (i := 33) rfl rfl) (by decide) ?_
          exact z_iret C0 hr hlk hw (⟨(hJ.fr hF8.2 (fun x y hj => hF8.1 x y (fun h_ => by have h_ : (x % 22 = 8 ∧ 8 ≤ x ∧ x ≤ 162 ∧ y = 0) := h_; unfold jcq at hj; (· omega)))), hT8, hF8⟩) (dkP dF_172 DX11_live (i := 34) rfl rfl)
        · (try simp (disch := omega) only [ta_lt, ta_le, ta_eq, tnI, tl32 0 (by decide)] at c7)
          refine lv_bipush (v := (-6)) hx hb (dks dF_16 DX11_live (i := 28) rfl rfl rfl) (by decide) ?_
          exact z_iret C0 hr hlk hw (⟨hJ, hT, frC.refl⟩) (dkP dF_172 DX11_live (i := 29) rfl rfl)
      · (try simp (disch := omega) only [ta_lt, ta_le, ta_eq, tnI, tl32 0 (by decide)] at c4)
        refine lv_bipush (v := (-5)) hx hb (dks dF_16 DX11_live (i := 14) rfl rfl rfl) (by decide) ?_
        exact z_iret C0 hr hlk hw (⟨hJ, hT, frC.refl⟩) (dkP dF_172 DX11_live (i := 15) rfl rfl)
    · skip
      refine lv_if_ne (tgt := 20) hx hb (dkS dF_154 DX11_live (i := 8) rfl rfl rfl) (by decide) (fun h => absurd h (by decide)) (fun _ => ?_)
      refine lv_bipush (v := (-2)) hx hb (dks dF_16 DX11_live (i := 9) rfl rfl rfl) (by decide) ?_
      exact z_iret C0 hr hlk hw (⟨hJ, hT, frC.refl⟩) (dkP dF_172 DX11_live (i := 10) rfl rfl)
set_option maxRecDepth 100000 in
set_option maxHeartbeats 8000000 in
theorem c_X11_retire (l : Launch) (G : va_G) (kc : KC) (ad : Nat → Nat) (σ : Sg) (program : Int32) (hJ : JC σ) (hT : TC σ) : MI l G kc yX11_retire cX11_retire 3 (some .int) 2 43 [.ref (ad 0), .int program] shC ad σ (fun r σ1 => (JC σ1) ∧ TC σ1 ∧ frC (fun x y => (x % 22 = 8 ∧ 8 ≤ x ∧ x ≤ 162 ∧ y = 0)) σ σ1) := by
  intro sz
  refine z_body (y := yX11_retire) (n := 3) (av := [.ref (ad 0), .int program]) (Qc := fun A => va_Qi (fun r σ1 => (JC σ1) ∧ TC σ1 ∧ frC (fun x y => (x % 22 = 8 ∧ 8 ≤ x ∧ x ≤ 162 ∧ y = 0)) σ σ1) (PoC G kc shC ad A) A) (plainFor_of_name (by decide)) (Nat.le_of_ble_eq_true rfl) (fun pr e s m below meth c A C0 hr hlk hnm hw hRo ls hl => ?_) sz
  have hx := C0.1
  have hb := C0.2.1
  have hown := C0.2.2.2.1
  have hts := C0.2.2.2.2.1
  have hl : lv_has ls 3 [(0, .ref (ad 0)), (1, .int program)] := hl
  obtain ⟨t, u, hto, ht, hun, hu⟩ := hJ.rdr
  obtain ⟨wa, wb, hwa_, hwa, hwb_, hwb, hwab⟩ := hJ.wts
  refine lv_aload_n hx hb (dkP dF_42 DX11_retire (i := 0) rfl rfl) rfl (lv_at hl 0 rfl) ?_
  refine lv_iload_n hx hb (dkP dF_27 DX11_retire (i := 1) rfl rfl) rfl (lv_at hl 1 rfl) ?_
  refine zk_R hw (zr_V (As := [.int program]) (rest := []) C0 (c_X11_programAt l G kc ad σ program  _) cv_X11_programAt lk_X11_84 (zp_V C0 hRo hw 0 shc_0 rfl rfl) rfl hl.1 rfl ⟨by decide, by decide⟩ (Nat.le_of_ble_eq_true rfl) (dk2 dF_182 DX11_retire (i := 2) rfl rfl rfl) ⟨Nat.le_refl _, Nat.le_refl _⟩) (fun r1 s1 H locs hp hw => ?_)
  obtain ⟨hq1, hs1⟩ := hp
  (rw [hs1] at hw)
  rcases hq1 with ⟨hc1, rfl⟩ | ⟨k_program, hk_program, rfl, rfl⟩
  · skip
    refine lv_astore_nN (lv' := [(2, .null), (0, .ref (ad 0)), (1, .int program)]) hx hb (dkP dF_77 DX11_retire (i := 3) rfl rfl) rfl hl (by decide) rfl (fun ls hl => ?_)
    refine lv_aload_nN hx hb (dkP dF_44 DX11_retire (i := 4) rfl rfl) rfl (lv_at hl 0 rfl) ?_
    refine lv_ifnullN (tgt := 18) hx hb (dkS dF_198 DX11_retire (i := 5) rfl rfl rfl) (by decide) ?_
    refine lv_bipush (v := (-2)) hx hb (dks dF_16 DX11_retire (i := 10) rfl rfl rfl) (by decide) ?_
    exact z_iret C0 hr hlk hw (⟨hJ, hT, frC.refl⟩) (dkP dF_172 DX11_retire (i := 11) rfl rfl)
  · skip
    obtain ⟨t1, u1, hto1, ht1, hun1, hu1, hVP⟩ := hJ.prog hk_program
    obtain ⟨hLH, ⟨zo, uo, hzo, hzo24, hVo⟩, zn, un, K_, hzn, hzn40, hVn⟩ := id hVP
    refine lv_astore_n (lv' := [(2, .ref (ad (8 + 22 * k_program))), (0, .ref (ad 0)), (1, .int (nI k_program))]) hx hb (dkP dF_77 DX11_retire (i := 3) rfl rfl) rfl hl (by decide) rfl (fun ls hl => ?_)
    refine lv_aload_n hx hb (dkP dF_44 DX11_retire (i := 4) rfl rfl) rfl (lv_at hl 0 rfl) ?_
    refine lv_ifnull hx hb (dkS dF_198 DX11_retire (i := 5) rfl rfl rfl) ?_
    refine lv_aload_n hx hb (dkP dF_44 DX11_retire (i := 6) rfl rfl) rfl (lv_at hl 0 rfl) ?_
    refine z_gi C0 hw (8 + 22 * k_program) 0 (fk_of (shp_8 k_program (by omega)) rfl) fl_X11_88 (dk2 dF_180 DX11_retire (i := 7) rfl rfl rfl) ?_
    obtain ⟨v2, ev2⟩ : ∃ y : Int32, σ.1 (8 + 22 * k_program) 0 = y := ⟨_, rfl⟩
    refine z_top (y := v2) ev2 ?_
    refine lv_iconst (v := 2) hx hb (dkP dF_5 DX11_retire (i := 8) rfl rfl) (by decide) ?_
    refine lv_icmp_eq (tgt := 21) hx hb (dkS dF_159 DX11_retire (i := 9) rfl rfl rfl) (by decide) (fun c3 => ?_) (fun c3 => ?_)
    · (try simp (disch := omega) only [ta_lt, ta_le, ta_eq, tnI, tl32 2 (by decide)] at c3)
      refine lv_aload_n hx hb (dkP dF_42 DX11_retire (i := 12) rfl rfl) rfl (lv_at hl 1 rfl) ?_
      refine z_gr C0 hw 0 0 1 (fk_of shc_0 rfl) fl_X11_10 (dk2 dF_180 DX11_retire (i := 13) rfl rfl rfl) ?_
      refine lv_iload_n hx hb (dkP dF_27 DX11_retire (i := 14) rfl rfl) rfl (lv_at hl 2 rfl) ?_
      refine zk_I hw (zr_V (As := [.int (nI k_program)]) (rest := []) C0 (c_X10_callersOf l G kc ad σ k_program (by omega) hT _) cv_X10_callersOf lk_X11_287 (zp_V C0 hRo hw 1 shc_1 rfl rfl) rfl hl.1 rfl ⟨by decide, by decide⟩ (Nat.le_of_ble_eq_true rfl) (dk2 dF_182 DX11_retire (i := 15) rfl rfl rfl) ⟨Nat.le_refl _, Nat.le_refl _⟩) (fun r4 s4 H locs hp hw => ?_)
      obtain ⟨f4_0, hs4⟩ := hp
      (rw [hs4] at hw)
      refine lv_aload_n hx hb (dkP dF_42 DX11_retire (i := 16) rfl rfl) rfl (lv_at hl 1 rfl) ?_
      refine z_gr C0 hw 0 0 1 (fk_of shc_0 rfl) fl_X11_10 (dk2 dF_180 DX11_retire (i := 17) rfl rfl rfl) ?_
      refine zk_I hw (zr_V (As := []) (rest := [.int r4]) C0 (c_X10_overBits l G kc ad σ hT _) cv_X10_overBits lk_X11_273 (zp_V C0 hRo hw 1 shc_1 rfl rfl) rfl hl.1 rfl ⟨by decide, by decide⟩ (Nat.le_of_ble_eq_true rfl) (dk2 dF_182 DX11_retire (i := 18) rfl rfl rfl) ⟨Nat.le_refl _, Nat.le_refl _⟩) (fun r5 s5 H locs hp hw => ?_)
      obtain ⟨f5_0, hs5⟩ := hp
      (rw [hs5] at hw)
      refine lv_iconst (v := (-1)) hx hb (dkP dF_2 DX11_retire (i := 19) rfl rfl) (by decide) ?_
      refine lv_ixor hx hb (dkP dF_130 DX11_retire (i := 20) rfl rfl) ?_
      refine lv_iand hx hb (dkP dF_126 DX11_retire (i := 21) rfl rfl) ?_
      refine lv_if_eq (tgt := 45) hx hb (dkS dF_153 DX11_retire (i := 22) rfl rfl rfl) (by decide) (fun c6 => ?_) (fun c6 => ?_)
      · (try simp (disch := omega) only [ta_lt, ta_le, ta_eq, tnI, tl32 0 (by decide)] at c6)
        refine lv_aload_n hx hb (dkP dF_44 DX11_retire (i := 25) rfl rfl) rfl (lv_at hl 0 rfl) ?_
        refine lv_iconst (v := 4) hx hb (dkP dF_7 DX11_retire (i := 26) rfl rfl) (by decide) ?_
        refine z_pi C0 hw (8 + 22 * k_program) 0 (fk_of (shp_8 k_program (by omega)) rfl) fp_X11_88 (dk2 dF_181 DX11_retire (i := 27) rfl rfl rfl) (fun H locs hw => ?_)
        have hT7 : TC (sI σ (8 + 22 * k_program) 0 4) := TC.w hT (tcw_5_0 (tcp_8 k_program (by omega)))
        have hF7 : frC (fun x y => (x % 22 = 8 ∧ 8 ≤ x ∧ x ≤ 162 ∧ y = 0)) σ (sI σ (8 + 22 * k_program) 0 4) := frC.w frC.refl (by show ((8 + 22 * k_program) % 22 = 8 ∧ 8 ≤ (8 + 22 * k_program) ∧ (8 + 22 * k_program) ≤ 162 ∧ 0 = 0); exact (by show (8 + 22 * k_program) % 22 = 8 ∧ 8 ≤ (8 + 22 * k_program) ∧ (8 + 22 * k_program) ≤ 162 ∧ 0 = 0; omega))
        refine lv_iconst (v := 0) hx hb (dkP dF_3 DX11_retire (i := 28) rfl rfl) (by decide) ?_
        exact z_iret C0 hr hlk hw (⟨(hJ.fr hF7.2 (fun x y hj => hF7.1 x y (fun h_ => by have h_ : (x % 22 = 8 ∧ 8 ≤ x ∧ x ≤ 162 ∧ y = 0) := h_; unfold jcq at hj; (· omega)))), hT7, hF7⟩) (dkP dF_172 DX11_retire (i := 29) rfl rfl)
      · (try simp (disch := omega) only [ta_lt, ta_le, ta_eq, tnI, tl32 0 (by decide)] at c6)
        refine lv_bipush (v := (-5)) hx hb (dks dF_16 DX11_retire (i := 23) rfl rfl rfl) (by decide) ?_
        exact z_iret C0 hr hlk hw (⟨hJ, hT, frC.refl⟩) (dkP dF_172 DX11_retire (i := 24) rfl rfl)
    · (try simp (disch := omega) only [ta_lt, ta_le, ta_eq, tnI, tl32 2 (by decide)] at c3)
      refine lv_bipush (v := (-2)) hx hb (dks dF_16 DX11_retire (i := 10) rfl rfl rfl) (by decide) ?_
      exact z_iret C0 hr hlk hw (⟨hJ, hT, frC.refl⟩) (dkP dF_172 DX11_retire (i := 11) rfl rfl)
set_option maxRecDepth 100000 in
set_option maxHeartbeats 8000000 in
theorem c_X11_back (l : Launch) (G : va_G) (kc : KC) (ad : Nat → Nat) (σ : Sg) (program : Int32) (hJ : JC σ) (hT : TC σ) : MI l G kc yX11_back cX11_back 5 (some .int) 2 41 [.ref (ad 0), .int program] shC ad σ (fun r σ1 => (JC σ1) ∧ TC σ1 ∧ frC (fun x y => (x % 22 = 8 ∧ 8 ≤ x ∧ x ≤ 162 ∧ y = 0)) σ σ1) := by
  intro sz
  refine z_body (y := yX11_back) (n := 5) (av := [.ref (ad 0), .int program]) (Qc := fun A => va_Qi (fun r σ1 => (JC σ1) ∧ TC σ1 ∧ frC (fun x y => (x % 22 = 8 ∧ 8 ≤ x ∧ x ≤ 162 ∧ y = 0)) σ σ1) (PoC G kc shC ad A) A) (plainFor_of_name (by decide)) (Nat.le_of_ble_eq_true rfl) (fun pr e s m below meth c A C0 hr hlk hnm hw hRo ls hl => ?_) sz
  have hx := C0.1
  have hb := C0.2.1
  have hown := C0.2.2.2.1
  have hts := C0.2.2.2.2.1
  have hl : lv_has ls 5 [(0, .ref (ad 0)), (1, .int program)] := hl
  obtain ⟨t, u, hto, ht, hun, hu⟩ := hJ.rdr
  obtain ⟨wa, wb, hwa_, hwa, hwb_, hwb, hwab⟩ := hJ.wts
  refine lv_aload_n hx hb (dkP dF_42 DX11_back (i := 0) rfl rfl) rfl (lv_at hl 0 rfl) ?_
  refine lv_iload_n hx hb (dkP dF_27 DX11_back (i := 1) rfl rfl) rfl (lv_at hl 1 rfl) ?_
  refine zk_R hw (zr_V (As := [.int program]) (rest := []) C0 (c_X11_programAt l G kc ad σ program  _) cv_X11_programAt lk_X11_84 (zp_V C0 hRo hw 0 shc_0 rfl rfl) rfl hl.1 rfl ⟨by decide, by decide⟩ (Nat.le_of_ble_eq_true rfl) (dk2 dF_182 DX11_back (i := 2) rfl rfl rfl) ⟨Nat.le_refl _, Nat.le_refl _⟩) (fun r1 s1 H locs hp hw => ?_)
  obtain ⟨hq1, hs1⟩ := hp
  (rw [hs1] at hw)
  rcases hq1 with ⟨hc1, rfl⟩ | ⟨k_program, hk_program, rfl, rfl⟩
  · skip
    refine lv_astore_nN (lv' := [(2, .null), (0, .ref (ad 0)), (1, .int program)]) hx hb (dkP dF_77 DX11_back (i := 3) rfl rfl) rfl hl (by decide) rfl (fun ls hl => ?_)
    refine lv_aload_nN hx hb (dkP dF_44 DX11_back (i := 4) rfl rfl) rfl (lv_at hl 0 rfl) ?_
    refine lv_ifnullN (tgt := 18) hx hb (dkS dF_198 DX11_back (i := 5) rfl rfl rfl) (by decide) ?_
    refine lv_bipush (v := (-2)) hx hb (dks dF_16 DX11_back (i := 10) rfl rfl rfl) (by decide) ?_
    exact z_iret C0 hr hlk hw (⟨hJ, hT, frC.refl⟩) (dkP dF_172 DX11_back (i := 11) rfl rfl)
  · skip
    obtain ⟨t1, u1, hto1, ht1, hun1, hu1, hVP⟩ := hJ.prog hk_program
    obtain ⟨hLH, ⟨zo, uo, hzo, hzo24, hVo⟩, zn, un, K_, hzn, hzn40, hVn⟩ := id hVP
    refine lv_astore_n (lv' := [(2, .ref (ad (8 + 22 * k_program))), (0, .ref (ad 0)), (1, .int (nI k_program))]) hx hb (dkP dF_77 DX11_back (i := 3) rfl rfl) rfl hl (by decide) rfl (fun ls hl => ?_)
    refine lv_aload_n hx hb (dkP dF_44 DX11_back (i := 4) rfl rfl) rfl (lv_at hl 0 rfl) ?_
    refine lv_ifnull hx hb (dkS dF_198 DX11_back (i := 5) rfl rfl rfl) ?_
    refine lv_aload_n hx hb (dkP dF_44 DX11_back (i := 6) rfl rfl) rfl (lv_at hl 0 rfl) ?_
    refine z_gi C0 hw (8 + 22 * k_program) 0 (fk_of (shp_8 k_program (by omega)) rfl) fl_X11_88 (dk2 dF_180 DX11_back (i := 7) rfl rfl rfl) ?_
    obtain ⟨v2, ev2⟩ : ∃ y : Int32, σ.1 (8 + 22 * k_program) 0 = y := ⟨_, rfl⟩
    refine z_top (y := v2) ev2 ?_
    refine lv_iconst (v := 2) hx hb (dkP dF_5 DX11_back (i := 8) rfl rfl) (by decide) ?_
    refine lv_icmp_eq (tgt := 21) hx hb (dkS dF_159 DX11_back (i := 9) rfl rfl rfl) (by decide) (fun c3 => ?_) (fun c3 => ?_)
    · (try simp (disch := omega) only [ta_lt, ta_le, ta_eq, tnI, tl32 2 (by decide)] at c3)
      refine lv_aload_n hx hb (dkP dF_42 DX11_back (i := 12) rfl rfl) rfl (lv_at hl 1 rfl) ?_
      refine z_gr C0 hw 0 0 1 (fk_of shc_0 rfl) fl_X11_10 (dk2 dF_180 DX11_back (i := 13) rfl rfl rfl) ?_
      refine lv_iload_n hx hb (dkP dF_27 DX11_back (i := 14) rfl rfl) rfl (lv_at hl 2 rfl) ?_
      refine zk_I hw (zr_V (As := [.int (nI k_program)]) (rest := []) C0 (c_X10_needersOf l G kc ad σ k_program (by omega) hT _) cv_X10_needersOf lk_X11_263 (zp_V C0 hRo hw 1 shc_1 rfl rfl) rfl hl.1 rfl ⟨by decide, by decide⟩ (Nat.le_of_ble_eq_true rfl) (dk2 dF_182 DX11_back (i := 15) rfl rfl rfl) ⟨Nat.le_refl _, Nat.le_refl _⟩) (fun r4 s4 H locs hp hw => ?_)
      obtain ⟨f4_0, hs4⟩ := hp
      (rw [hs4] at hw)
      obtain ⟨bn, hbn, ebn, hbl⟩ := f4_0
      subst ebn
      refine lv_istore_n (lv' := [(3, .int (nI bn)), (2, .ref (ad (8 + 22 * k_program))), (0, .ref (ad 0)), (1, .int (nI k_program))]) hx hb (dkP dF_62 DX11_back (i := 16) rfl rfl) rfl hl (by decide) rfl (fun ls hl => ?_)
      refine lv_iload_n hx hb (dkP dF_29 DX11_back (i := 17) rfl rfl) rfl (lv_at hl 0 rfl) ?_
      refine lv_aload_n hx hb (dkP dF_42 DX11_back (i := 18) rfl rfl) rfl (lv_at hl 2 rfl) ?_
      refine z_gr C0 hw 0 0 1 (fk_of shc_0 rfl) fl_X11_10 (dk2 dF_180 DX11_back (i := 19) rfl rfl rfl) ?_
      refine lv_iconst (v := 4) hx hb (dkP dF_7 DX11_back (i := 20) rfl rfl) (by decide) ?_
      refine zk_I hw (zr_V (As := [.int 4]) (rest := [.int (nI bn)]) C0 (c_X10_bitsOf l G kc ad σ 4 hT _) cv_X10_bitsOf lk_X11_276 (zp_V C0 hRo hw 1 shc_1 rfl rfl) rfl hl.1 rfl ⟨by decide, by decide⟩ (Nat.le_of_ble_eq_true rfl) (dk2 dF_182 DX11_back (i := 21) rfl rfl rfl) ⟨Nat.le_refl _, Nat.le_refl _⟩) (fun r5 s5 H locs hp hw => ?_)
      obtain ⟨f5_0, hs5⟩ := hp
      (rw [hs5] at hw)
      obtain ⟨b4, hb4, eb4⟩ := f5_0
      refine z_top (y := nI b4) eb4 ?_
      refine lv_iand hx hb (dkP dF_126 DX11_back (i := 22) rfl rfl) ?_
      refine z_top (y := nI (bn &&& b4)) (by (try simp only [fa_lit]); exact nI_and _ _) ?_
      have hbt6 := and_lt (a := bn) (b := b4) (by omega)
      refine lv_if_eq (tgt := 46) hx hb (dkS dF_153 DX11_back (i := 23) rfl rfl rfl) (by decide) (fun c7 => ?_) (fun c7 => ?_)
      · simp (disch := omega) only [ta_lt, ta_le, ta_eq, tnI, tl32 0 (by decide)] at c7
        refine lv_iload_n hx hb (dkP dF_29 DX11_back (i := 26) rfl rfl) rfl (lv_at hl 0 rfl) ?_
        refine lv_aload_n hx hb (dkP dF_42 DX11_back (i := 27) rfl rfl) rfl (lv_at hl 2 rfl) ?_
        refine z_gr C0 hw 0 0 1 (fk_of shc_0 rfl) fl_X11_10 (dk2 dF_180 DX11_back (i := 28) rfl rfl rfl) ?_
        refine lv_iconst (v := 2) hx hb (dkP dF_5 DX11_back (i := 29) rfl rfl) (by decide) ?_
        refine zk_I hw (zr_V (As := [.int 2]) (rest := [.int (nI bn)]) C0 (c_X10_bitsOf l G kc ad σ 2 hT _) cv_X10_bitsOf lk_X11_276 (zp_V C0 hRo hw 1 shc_1 rfl rfl) rfl hl.1 rfl ⟨by decide, by decide⟩ (Nat.le_of_ble_eq_true rfl) (dk2 dF_182 DX11_back (i := 30) rfl rfl rfl) ⟨Nat.le_refl _, Nat.le_refl _⟩) (fun r8 s8 H locs hp hw => ?_)
        obtain ⟨f8_0, hs8⟩ := hp
        (rw [hs8] at hw)
        obtain ⟨b2, hb2, eb2⟩ := f8_0
        refine z_top (y := nI b2) eb2 ?_
        refine lv_iand hx hb (dkP dF_126 DX11_back (i := 31) rfl rfl) ?_
        refine z_top (y := nI (bn &&& b2)) (by (try simp only [fa_lit]); exact nI_and _ _) ?_
        have hbt9 := and_lt (a := bn) (b := b2) (by omega)
        refine lv_iconst (v := 1) hx hb (dkP dF_4 DX11_back (i := 32) rfl rfl) (by decide) ?_
        refine lv_iload_n hx hb (dkP dF_27 DX11_back (i := 33) rfl rfl) rfl (lv_at hl 3 rfl) ?_
        refine lv_ishl hx hb (dkP dF_120 DX11_back (i := 34) rfl rfl) ?_
        refine z_top (y := nI (p2 k_program)) (by (try simp only [fa_lit]); exact bs_p _ (by omega)) ?_
        have hbt10 := p2_lt (q := k_program) (by omega)
        refine lv_ior hx hb (dkP dF_128 DX11_back (i := 35) rfl rfl) ?_
        refine z_top (y := nI ((bn &&& b2) ||| (p2 k_program))) (by (try simp only [fa_lit]); exact nI_or _ _) ?_
        have hbt11 := or_lt (a := bn &&& b2) (b := p2 k_program) (by omega) (by omega)
        refine lv_istore (lv' := [(4, .int (nI ((bn &&& b2) ||| (p2 k_program)))), (3, .int (nI bn)), (2, .ref (ad (8 + 22 * k_program))), (0, .ref (ad 0)), (1, .int (nI k_program))]) hx hb (dk1 dF_54 DX11_back (i := 36) rfl rfl rfl) hl (by decide) rfl (fun ls hl => ?_)
        refine lv_aload_n hx hb (dkP dF_42 DX11_back (i := 37) rfl rfl) rfl (lv_at hl 3 rfl) ?_
        refine z_gr C0 hw 0 0 1 (fk_of shc_0 rfl) fl_X11_10 (dk2 dF_180 DX11_back (i := 38) rfl rfl rfl) ?_
        refine lv_iload hx hb (dk1 dF_21 DX11_back (i := 39) rfl rfl rfl) (lv_at hl 0 rfl) ?_
        refine lv_iconst (v := 3) hx hb (dkP dF_6 DX11_back (i := 40) rfl rfl) (by decide) ?_
        refine zk_V hw (zr_V (As := [.int (nI ((bn &&& b2) ||| (p2 k_program))), .int 3]) (rest := []) C0 (c_X10_setStage l G kc ad σ (nI ((bn &&& b2) ||| (p2 k_program))) 3 hT _) cv_X10_setStage lk_X11_279 (zp_V C0 hRo hw 1 shc_1 rfl rfl) rfl hl.1 rfl ⟨by decide, by decide⟩ (Nat.le_of_ble_eq_true rfl) (dk2 dF_182 DX11_back (i := 41) rfl rfl rfl) ⟨Nat.le_refl _, Nat.le_refl _⟩) (fun s12 H locs hp hw => ?_)
        obtain ⟨hT12, hG12⟩ := hp
        have hF12 : frC (fun x y => (x % 22 = 8 ∧ 8 ≤ x ∧ x ≤ 162 ∧ y = 0)) σ s12 := frC.t frC.refl hG12 (fun x y h => by have h : (x % 22 = 8 ∧ 8 ≤ x ∧ x ≤ 162 ∧ y = 0) := h; show (x % 22 = 8 ∧ 8 ≤ x ∧ x ≤ 162 ∧ y = 0); exact h)
        refine lv_iload hx hb (dk1 dF_21 DX11_back (i := 42) rfl rfl rfl) (lv_at hl 0 rfl) ?_
        refine zn_I hw (zr_S (As := [.int (nI ((bn &&& b2) ||| (p2 k_program)))]) (rest := []) C0 (c_J6_bitCount_0f7a4 l G kc ((bn &&& b2) ||| (p2 k_program)) (by omega) _) cs_J6_bitCount_0f7a4 lk_X11_282 (zp_P C0 hRo hw a00 s00) rfl hl.1 rfl ⟨by decide, by decide⟩ (Nat.le_of_ble_eq_true rfl) (dk2 dF_184 DX11_back (i := 43) rfl rfl rfl) ⟨Nat.le_refl _, Nat.le_refl _⟩) (fun r13 s13 H locs hp hw => ?_)
        subst hp
        exact z_iret C0 hr hlk hw (⟨(hJ.fr hF12.2 (fun x y hj => hF12.1 x y (fun h_ => by have h_ : (x % 22 = 8 ∧ 8 ≤ x ∧ x ≤ 162 ∧ y = 0) := h_; unfold jcq at hj; (· omega)))), hT12, hF12⟩) (dkP dF_172 DX11_back (i := 44) rfl rfl)
      · simp (disch := omega) only [ta_lt, ta_le, ta_eq, tnI, tl32 0 (by decide)] at c7
        refine lv_bipush (v := (-5)) hx hb (dks dF_16 DX11_back (i := 24) rfl rfl rfl) (by decide) ?_
        exact z_iret C0 hr hlk hw (⟨hJ, hT, frC.refl⟩) (dkP dF_172 DX11_back (i := 25) rfl rfl)
    · (try simp (disch := omega) only [ta_lt, ta_le, ta_eq, tnI, tl32 2 (by decide)] at c3)
      refine lv_bipush (v := (-2)) hx hb (dks dF_16 DX11_back (i := 10) rfl rfl rfl) (by decide) ?_
      exact z_iret C0 hr hlk hw (⟨hJ, hT, frC.refl⟩) (dkP dF_172 DX11_back (i := 11) rfl rfl)
set_option maxRecDepth 100000 in
set_option maxHeartbeats 8000000 in
theorem c_X11_plan (l : Launch) (G : va_G) (kc : KC) (ad : Nat → Nat) (σ : Sg) (bits : Int32) (hJ : JC σ) (hT : TC σ) : MI l G kc yX11_plan cX11_plan 4 (some .int) 2 55 [.ref (ad 0), .int bits] shC ad σ (fun r σ1 => (JC σ1) ∧ TC σ1 ∧ frC (fun x y => (x = 220 ∧ y = 2) ∨ (x = 221) ∨ (x = 222)) σ σ1) := by
  intro sz
  refine z_body (y := yX11_plan) (n := 4) (av := [.ref (ad 0), .int bits]) (Qc := fun A => va_Qi (fun r σ1 => (JC σ1) ∧ TC σ1 ∧ frC (fun x y => (x = 220 ∧ y = 2) ∨ (x = 221) ∨ (x = 222)) σ σ1) (PoC G kc shC ad A) A) (plainFor_of_name (by decide)) (Nat.le_of_ble_eq_true rfl) (fun pr e s m below meth c A C0 hr hlk hnm hw hRo ls hl => ?_) sz
  have hx := C0.1
  have hb := C0.2.1
  have hown := C0.2.2.2.1
  have hts := C0.2.2.2.2.1
  have hl : lv_has ls 4 [(0, .ref (ad 0)), (1, .int bits)] := hl
  obtain ⟨t, u, hto, ht, hun, hu⟩ := hJ.rdr
  obtain ⟨wa, wb, hwa_, hwa, hwb_, hwb, hwab⟩ := hJ.wts
  refine lv_iload_n hx hb (dkP dF_27 DX11_plan (i := 0) rfl rfl) rfl (lv_at hl 1 rfl) ?_
  refine lv_if_lt (tgt := 11) hx hb (dkS dF_155 DX11_plan (i := 1) rfl rfl rfl) (by decide) (fun c1 => ?_) (fun c1 => ?_)
  · (try simp (disch := omega) only [ta_lt, ta_le, ta_eq, tnI, tl32 0 (by decide)] at c1)
    refine lv_bipush (v := (-2)) hx hb (dks dF_16 DX11_plan (i := 5) rfl rfl rfl) (by decide) ?_
    exact z_iret C0 hr hlk hw (⟨hJ, hT, frC.refl⟩) (dkP dF_172 DX11_plan (i := 6) rfl rfl)
  · (try simp (disch := omega) only [ta_lt, ta_le, ta_eq, tnI, tl32 0 (by decide)] at c1)
    refine lv_iload_n hx hb (dkP dF_27 DX11_plan (i := 2) rfl rfl) rfl (lv_at hl 1 rfl) ?_
    refine lv_sipush (v := 256) hx hb (dkS dF_17 DX11_plan (i := 3) rfl rfl rfl) (by decide) ?_
    refine lv_icmp_lt (tgt := 14) hx hb (dkS dF_161 DX11_plan (i := 4) rfl rfl rfl) (by decide) (fun c2 => ?_) (fun c2 => ?_)
    · (try simp (disch := omega) only [ta_lt, ta_le, ta_eq, tnI, tl32 256 (by decide)] at c2)
      obtain ⟨bi, hbi, rfl⟩ := to_nat (x := bits) (n := 256) (by (try simp only [lg_cmp_lt, lg_cmp_le, lg_cmp_gt, lg_cmp_ge, lg_cmp_eq] at c1); (try simp (disch := omega) only [ta_lt, ta_le, ta_eq, tb_lt, tb_le, tb_eq, tw, tnI, tsub1, tsv, tsb32, tn32 2 (by decide), tnj 2 (by decide), tn32 1 (by decide), tnj 1 (by decide), tl32 0 (by decide), tl64 0 (by decide), tl32 256 (by decide), tl64 256 (by decide)] at c1); (try simp only [lg_cmp_lt, lg_cmp_le, lg_cmp_gt, lg_cmp_ge, lg_cmp_eq] at c2); (try simp (disch := omega) only [ta_lt, ta_le, ta_eq, tb_lt, tb_le, tb_eq, tw, tnI, tsub1, tsv, tsb32, tn32 2 (by decide), tnj 2 (by decide), tn32 1 (by decide), tnj 1 (by decide), tl32 0 (by decide), tl64 0 (by decide), tl32 256 (by decide), tl64 256 (by decide)] at c2); (try simp (disch := omega) only [ta_lt, ta_le, ta_eq, tb_lt, tb_le, tb_eq, tw, tnI, tsub1, tsv, tsb32, tn32 2 (by decide), tnj 2 (by decide), tn32 1 (by decide), tnj 1 (by decide), tl32 0 (by decide), tl64 0 (by decide), tl32 256 (by decide), tl64 256 (by decide)]); omega)
      refine lv_aload_n hx hb (dkP dF_42 DX11_plan (i := 7) rfl rfl) rfl (lv_at hl 0 rfl) ?_
      refine z_gr C0 hw 0 0 1 (fk_of shc_0 rfl) fl_X11_10 (dk2 dF_180 DX11_plan (i := 8) rfl rfl rfl) ?_
      refine zk_I hw (zr_V (As := []) (rest := []) C0 (c_X10_overBits l G kc ad σ hT _) cv_X10_overBits lk_X11_273 (zp_V C0 hRo hw 1 shc_1 rfl rfl) rfl hl.1 rfl ⟨by decide, by decide⟩ (Nat.le_of_ble_eq_true rfl) (dk2 dF_182 DX11_plan (i := 9) rfl rfl rfl) ⟨Nat.le_refl _, Nat.le_refl _⟩) (fun r3 s3 H locs hp hw => ?_)
      obtain ⟨f3_0, hs3⟩ := hp
      (rw [hs3] at hw)
      obtain ⟨ov, hov, eov⟩ := f3_0
      subst eov
      refine lv_istore_n (lv' := [(2, .int (nI ov)), (0, .ref (ad 0)), (1, .int (nI bi))]) hx hb (dkP dF_61 DX11_plan (i := 10) rfl rfl) rfl hl (by decide) rfl (fun ls hl => ?_)
      refine lv_iload_n hx hb (dkP dF_27 DX11_plan (i := 11) rfl rfl) rfl (lv_at hl 2 rfl) ?_
      refine lv_iload_n hx hb (dkP dF_28 DX11_plan (i := 12) rfl rfl) rfl (lv_at hl 0 rfl) ?_
      refine lv_iconst (v := (-1)) hx hb (dkP dF_2 DX11_plan (i := 13) rfl rfl) (by decide) ?_
      refine lv_ixor hx hb (dkP dF_130 DX11_plan (i := 14) rfl rfl) ?_
      refine lv_iand hx hb (dkP dF_126 DX11_plan (i := 15) rfl rfl) ?_
      refine z_top (y := nI (bi &&& (255 ^^^ ov))) (bs_n (by omega) (by omega)) ?_
      have hbt4 := and_lt (a := bi) (b := 255 ^^^ ov) (by omega)
      refine lv_istore_n (lv' := [(3, .int (nI (bi &&& (255 ^^^ ov)))), (2, .int (nI ov)), (0, .ref (ad 0)), (1, .int (nI bi))]) hx hb (dkP dF_62 DX11_plan (i := 16) rfl rfl) rfl hl (by decide) rfl (fun ls hl => ?_)
      refine lv_aload_n hx hb (dkP dF_42 DX11_plan (i := 17) rfl rfl) rfl (lv_at hl 2 rfl) ?_
      refine z_gr C0 hw 0 0 1 (fk_of shc_0 rfl) fl_X11_10 (dk2 dF_180 DX11_plan (i := 18) rfl rfl rfl) ?_
      refine lv_iload_n hx hb (dkP dF_29 DX11_plan (i := 19) rfl rfl) rfl (lv_at hl 0 rfl) ?_
      refine zk_I hw (zr_V (As := [.int (nI (bi &&& (255 ^^^ ov)))]) (rest := []) C0 (c_X10_neededBy l G kc ad σ (bi &&& (255 ^^^ ov)) (by omega) hT _) cv_X10_neededBy lk_X11_290 (zp_V C0 hRo hw 1 shc_1 rfl rfl) rfl hl.1 rfl ⟨by decide, by decide⟩ (Nat.le_of_ble_eq_true rfl) (dk2 dF_182 DX11_plan (i := 20) rfl rfl rfl) ⟨Nat.le_refl _, Nat.le_refl _⟩) (fun r5 s5 H locs hp hw => ?_)
      obtain ⟨f5_0, hs5⟩ := hp
      (rw [hs5] at hw)
      obtain ⟨na, hna, ena, hnall⟩ := f5_0
      refine z_top (y := nI na) ena ?_
      refine lv_iload_n hx hb (dkP dF_29 DX11_plan (i := 21) rfl rfl) rfl (lv_at hl 0 rfl) ?_
      refine lv_iload_n hx hb (dkP dF_28 DX11_plan (i := 22) rfl rfl) rfl (lv_at hl 1 rfl) ?_
      refine lv_ior hx hb (dkP dF_128 DX11_plan (i := 23) rfl rfl) ?_
      refine z_top (y := nI ((bi &&& (255 ^^^ ov)) ||| ov)) (by (try simp only [fa_lit]); exact nI_or _ _) ?_
      have hbt6 := or_lt (a := bi &&& (255 ^^^ ov)) (b := ov) (by omega) (by omega)
      refine lv_iconst (v := (-1)) hx hb (dkP dF_2 DX11_plan (i := 24) rfl rfl) (by decide) ?_
      refine lv_ixor hx hb (dkP dF_130 DX11_plan (i := 25) rfl rfl) ?_
      refine lv_iand hx hb (dkP dF_126 DX11_plan (i := 26) rfl rfl) ?_
      refine z_top (y := nI (na &&& (255 ^^^ ((bi &&& (255 ^^^ ov)) ||| ov)))) (bs_n (by omega) (by omega)) ?_
      have hbt7 := and_lt (a := na) (b := 255 ^^^ ((bi &&& (255 ^^^ ov)) ||| ov)) (by omega)
      refine lv_if_eq (tgt := 47) hx hb (dkS dF_153 DX11_plan (i := 27) rfl rfl rfl) (by decide) (fun c8 => ?_) (fun c8 => ?_)
      · simp (disch := omega) only [ta_lt, ta_le, ta_eq, tnI, tl32 0 (by decide)] at c8
        refine lv_aload_n hx hb (dkP dF_42 DX11_plan (i := 30) rfl rfl) rfl (lv_at hl 2 rfl) ?_
        refine z_gr C0 hw 0 6 220 (fk_of shc_0 rfl) fl_X11_44 (dk2 dF_180 DX11_plan (i := 31) rfl rfl rfl) ?_
        refine lv_aload_n hx hb (dkP dF_42 DX11_plan (i := 32) rfl rfl) rfl (lv_at hl 2 rfl) ?_
        refine z_gr C0 hw 0 0 1 (fk_of shc_0 rfl) fl_X11_10 (dk2 dF_180 DX11_plan (i := 33) rfl rfl rfl) ?_
        refine lv_iload_n hx hb (dkP dF_29 DX11_plan (i := 34) rfl rfl) rfl (lv_at hl 0 rfl) ?_
        refine lv_iload_n hx hb (dkP dF_28 DX11_plan (i := 35) rfl rfl) rfl (lv_at hl 1 rfl) ?_
        refine zk_I hw (zr_V (As := [.ref (ad 1), .int (nI (bi &&& (255 ^^^ ov))), .int (nI ov)]) (rest := []) C0 (c_X3_settle l G kc ad σ (bi &&& (255 ^^^ ov)) ov (by omega) (by omega) hJ.nd (fun i hi h1 q hq h2 => (sb_and (a := na) (b := (bi &&& (255 ^^^ ov)) ||| ov) (by omega) (by omega)).1 (by omega) q hq (hnall i hi h1 q hq h2)) hT _) cv_X3_settle lk_X11_293 (zp_V C0 hRo hw 220 shc_220 rfl rfl) rfl hl.1 rfl ⟨by decide, by decide⟩ (Nat.le_of_ble_eq_true rfl) (dk2 dF_182 DX11_plan (i := 36) rfl rfl rfl) ⟨Nat.le_refl _, Nat.le_refl _⟩) (fun r9 s9 H locs hp hw => ?_)
        obtain ⟨hT9, hG9⟩ := hp
        have hF9 : frC (fun x y => (x = 220 ∧ y = 2) ∨ (x = 221) ∨ (x = 222)) σ s9 := frC.t frC.refl hG9 (fun x y h => by have h : (x = 220 ∧ y = 2) ∨ (x = 221) ∨ (x = 222) := h; show (x = 220 ∧ y = 2) ∨ (x = 221) ∨ (x = 222); rcases h with h | h | h; (· exact Or.inl h); (· exact Or.inr (Or.inl h)); (· exact Or.inr (Or.inr (h))))
        exact z_iret C0 hr hlk hw (⟨(hJ.fr hF9.2 (fun x y hj => hF9.1 x y (fun h_ => by have h_ : (x = 220 ∧ y = 2) ∨ (x = 221) ∨ (x = 222) := h_; unfold jcq at hj; rcases h_ with h_ | h_ | h_; (· omega); (· omega); (· omega)))), hT9, hF9⟩) (dkP dF_172 DX11_plan (i := 37) rfl rfl)
      · simp (disch := omega) only [ta_lt, ta_le, ta_eq, tnI, tl32 0 (by decide)] at c8
        refine lv_iconst (v := (-1)) hx hb (dkP dF_2 DX11_plan (i := 28) rfl rfl) (by decide) ?_
        exact z_iret C0 hr hlk hw (⟨hJ, hT, frC.refl⟩) (dkP dF_172 DX11_plan (i := 29) rfl rfl)
    · (try simp (disch := omega) only [ta_lt, ta_le, ta_eq, tnI, tl32 256 (by decide)] at c2)
      refine lv_bipush (v := (-2)) hx hb (dks dF_16 DX11_plan (i := 5) rfl rfl rfl) (by decide) ?_
      exact z_iret C0 hr hlk hw (⟨hJ, hT, frC.refl⟩) (dkP dF_172 DX11_plan (i := 6) rfl rfl)
set_option maxRecDepth 100000 in
set_option maxHeartbeats 8000000 in
theorem c_X11_needs (l : Launch) (G : va_G) (kc : KC) (ad : Nat → Nat) (σ : Sg) (program : Int32) (other : Int32) (hJ : JC σ) (hT : TC σ) : MI l G kc yX11_needs cX11_needs 3 (some .int) 1 24 [.ref (ad 0), .int program, .int other] shC ad σ (fun r σ1 => (JC σ1) ∧ TC σ1 ∧ frC (fun x y => (x = 4)) σ σ1) := by
  intro sz
  refine z_body (y := yX11_needs) (n := 3) (av := [.ref (ad 0), .int program, .int other]) (Qc := fun A => va_Qi (fun r σ1 => (JC σ1) ∧ TC σ1 ∧ frC (fun x y => (x = 4)) σ σ1) (PoC G kc shC ad A) A) (plainFor_of_name (by decide)) (Nat.le_of_ble_eq_true rfl) (fun pr e s m below meth c A C0 hr hlk hnm hw hRo ls hl => ?_) sz
  have hx := C0.1
  have hb := C0.2.1
  have hown := C0.2.2.2.1
  have hts := C0.2.2.2.2.1
  have hl : lv_has ls 3 [(0, .ref (ad 0)), (1, .int program), (2, .int other)] := hl
  obtain ⟨t, u, hto, ht, hun, hu⟩ := hJ.rdr
  obtain ⟨wa, wb, hwa_, hwa, hwb_, hwb, hwab⟩ := hJ.wts
  refine lv_iload_n hx hb (dkP dF_27 DX11_needs (i := 0) rfl rfl) rfl (lv_at hl 1 rfl) ?_
  refine zn_I hw (zr_S (As := [.int program]) (rest := []) C0 (c_X11_isProgram l G kc program  _) cs_X11_isProgram lk_X11_257 (zp_P C0 hRo hw a00 s00) rfl hl.1 rfl ⟨by decide, by decide⟩ (Nat.le_of_ble_eq_true rfl) (dk2 dF_184 DX11_needs (i := 1) rfl rfl rfl) ⟨Nat.le_refl _, Nat.le_refl _⟩) (fun r1 s1 H locs hp hw => ?_)
  rcases hp with ⟨rfl, hc1⟩ | ⟨rfl, hc1⟩
  · skip
    (try simp (disch := omega) only [ta_lt, ta_le, ta_eq, tb_lt, tb_le, tb_eq, tw, tnI, tn32 1 (by decide), tnj 1 (by decide), tl32 0 (by decide), tl64 0 (by decide)] at hc1)
    obtain ⟨k_program, hk_program, rfl⟩ := to_nat (x := program) (n := 8) (by (try simp only [lg_cmp_lt, lg_cmp_le, lg_cmp_gt, lg_cmp_ge, lg_cmp_eq] at hc1); (try simp (disch := omega) only [ta_lt, ta_le, ta_eq, tb_lt, tb_le, tb_eq, tw, tnI, tn32 1 (by decide), tnj 1 (by decide), tl32 0 (by decide), tl64 0 (by decide)] at hc1); (try simp (disch := omega) only [ta_lt, ta_le, ta_eq, tb_lt, tb_le, tb_eq, tw, tnI, tn32 1 (by decide), tnj 1 (by decide), tl32 0 (by decide), tl64 0 (by decide)]); omega)
    refine lv_if_eq (tgt := 14) hx hb (dkS dF_153 DX11_needs (i := 2) rfl rfl rfl) (by decide) (fun h => absurd h (by decide)) (fun _ => ?_)
    refine lv_iload_n hx hb (dkP dF_28 DX11_needs (i := 3) rfl rfl) rfl (lv_at hl 2 rfl) ?_
    refine zn_I hw (zr_S (As := [.int other]) (rest := []) C0 (c_X11_isProgram l G kc other  _) cs_X11_isProgram lk_X11_257 (zp_P C0 hRo hw a00 s00) rfl hl.1 rfl ⟨by decide, by decide⟩ (Nat.le_of_ble_eq_true rfl) (dk2 dF_184 DX11_needs (i := 4) rfl rfl rfl) ⟨Nat.le_refl _, Nat.le_refl _⟩) (fun r2 s2 H locs hp hw => ?_)
    rcases hp with ⟨rfl, hc2⟩ | ⟨rfl, hc2⟩
    · skip
      (try simp (disch := omega) only [ta_lt, ta_le, ta_eq, tb_lt, tb_le, tb_eq, tw, tnI, tn32 1 (by decide), tnj 1 (by decide), tl32 0 (by decide), tl64 0 (by decide)] at hc2)
      obtain ⟨k_other, hk_other, rfl⟩ := to_nat (x := other) (n := 8) (by (try simp only [lg_cmp_lt, lg_cmp_le, lg_cmp_gt, lg_cmp_ge, lg_cmp_eq] at hc1); (try simp (disch := omega) only [ta_lt, ta_le, ta_eq, tb_lt, tb_le, tb_eq, tw, tnI, tn32 1 (by decide), tnj 1 (by decide), tl32 0 (by decide), tl64 0 (by decide)] at hc1); (try simp only [lg_cmp_lt, lg_cmp_le, lg_cmp_gt, lg_cmp_ge, lg_cmp_eq] at hk_program); (try simp (disch := omega) only [ta_lt, ta_le, ta_eq, tb_lt, tb_le, tb_eq, tw, tnI, tn32 1 (by decide), tnj 1 (by decide), tl32 0 (by decide), tl64 0 (by decide)] at hk_program); (try simp only [lg_cmp_lt, lg_cmp_le, lg_cmp_gt, lg_cmp_ge, lg_cmp_eq] at hc2); (try simp (disch := omega) only [ta_lt, ta_le, ta_eq, tb_lt, tb_le, tb_eq, tw, tnI, tn32 1 (by decide), tnj 1 (by decide), tl32 0 (by decide), tl64 0 (by decide)] at hc2); (try simp (disch := omega) only [ta_lt, ta_le, ta_eq, tb_lt, tb_le, tb_eq, tw, tnI, tn32 1 (by decide), tnj 1 (by decide), tl32 0 (by decide), tl64 0 (by decide)]); omega)
      refine lv_if_ne (tgt := 17) hx hb (dkS dF_154 DX11_needs (i := 5) rfl rfl rfl) (by decide) (fun _ => ?_) (fun h => absurd h (by decide))
      refine lv_iload_n hx hb (dkP dF_27 DX11_needs (i := 8) rfl rfl) rfl (lv_at hl 1 rfl) ?_
      refine lv_iload_n hx hb (dkP dF_28 DX11_needs (i := 9) rfl rfl) rfl (lv_at hl 2 rfl) ?_
      refine lv_icmp_eq (tgt := 37) hx hb (dkS dF_159 DX11_needs (i := 10) rfl rfl rfl) (by decide) (fun c3 => ?_) (fun c3 => ?_)
      · simp (disch := omega) only [ta_lt, ta_le, ta_eq, tnI] at c3
        refine lv_bipush (v := (-5)) hx hb (dks dF_16 DX11_needs (i := 20) rfl rfl rfl) (by decide) ?_
        exact z_iret C0 hr hlk hw (⟨hJ, hT, frC.refl⟩) (dkP dF_172 DX11_needs (i := 21) rfl rfl)
      · simp (disch := omega) only [ta_lt, ta_le, ta_eq, tnI] at c3
        refine lv_aload_n hx hb (dkP dF_42 DX11_needs (i := 11) rfl rfl) rfl (lv_at hl 0 rfl) ?_
        refine z_gr C0 hw 0 0 1 (fk_of shc_0 rfl) fl_X11_10 (dk2 dF_180 DX11_needs (i := 12) rfl rfl rfl) ?_
        refine lv_iload_n hx hb (dkP dF_27 DX11_needs (i := 13) rfl rfl) rfl (lv_at hl 1 rfl) ?_
        refine zk_I hw (zr_V (As := [.int (nI k_program)]) (rest := []) C0 (c_X10_needersOf l G kc ad σ k_program (by omega) hT _) cv_X10_needersOf lk_X11_263 (zp_V C0 hRo hw 1 shc_1 rfl rfl) rfl hl.1 rfl ⟨by decide, by decide⟩ (Nat.le_of_ble_eq_true rfl) (dk2 dF_182 DX11_needs (i := 14) rfl rfl rfl) ⟨Nat.le_refl _, Nat.le_refl _⟩) (fun r4 s4 H locs hp hw => ?_)
        obtain ⟨f4_0, hs4⟩ := hp
        (rw [hs4] at hw)
        obtain ⟨na, hna, ena, hnl⟩ := f4_0
        refine z_top (y := nI na) ena ?_
        refine lv_iconst (v := 1) hx hb (dkP dF_4 DX11_needs (i := 15) rfl rfl) (by decide) ?_
        refine lv_iload_n hx hb (dkP dF_28 DX11_needs (i := 16) rfl rfl) rfl (lv_at hl 2 rfl) ?_
        refine lv_ishl hx hb (dkP dF_120 DX11_needs (i := 17) rfl rfl) ?_
        refine z_top (y := nI (p2 k_other)) (by (try simp only [fa_lit]); exact bs_p _ (by omega)) ?_
        have hbt5 := p2_lt (q := k_other) (by omega)
        refine lv_iand hx hb (dkP dF_126 DX11_needs (i := 18) rfl rfl) ?_
        refine z_top (y := nI (na &&& (p2 k_other))) (by (try simp only [fa_lit]); exact nI_and _ _) ?_
        have hbt6 := and_lt (a := na) (b := p2 k_other) (by omega)
        refine lv_if_eq (tgt := 40) hx hb (dkS dF_153 DX11_needs (i := 19) rfl rfl rfl) (by decide) (fun c7 => ?_) (fun c7 => ?_)
        · simp (disch := omega) only [ta_lt, ta_le, ta_eq, tnI, tl32 0 (by decide)] at c7
          refine lv_aload_n hx hb (dkP dF_42 DX11_needs (i := 22) rfl rfl) rfl (lv_at hl 0 rfl) ?_
          refine z_gr C0 hw 0 0 1 (fk_of shc_0 rfl) fl_X11_10 (dk2 dF_180 DX11_needs (i := 23) rfl rfl rfl) ?_
          refine z_gr C0 hw 1 2 4 (fk_of shc_1 rfl) fl_X11_267 (dk2 dF_180 DX11_needs (i := 24) rfl rfl rfl) ?_
          refine lv_iload_n hx hb (dkP dF_27 DX11_needs (i := 25) rfl rfl) rfl (lv_at hl 1 rfl) ?_
          refine lv_dup2_11 hx hb (dkP dF_92 DX11_needs (i := 26) rfl rfl) rfl rfl ?_
          refine z_ialdN (n := 8) C0 hw 4 k_program (ak_of shc_4) (by omega) (by decide) (dkP dF_46 DX11_needs (i := 27) rfl rfl) ?_
          obtain ⟨n8, hn8, en8⟩ := rngN (x := σ.1 4 k_program) (h := 255) (tcr_14 hT tcl_4)
          refine z_top (y := nI n8) en8 ?_
          refine lv_iconst (v := 1) hx hb (dkP dF_4 DX11_needs (i := 28) rfl rfl) (by decide) ?_
          refine lv_iload_n hx hb (dkP dF_28 DX11_needs (i := 29) rfl rfl) rfl (lv_at hl 2 rfl) ?_
          refine lv_ishl hx hb (dkP dF_120 DX11_needs (i := 30) rfl rfl) ?_
          refine z_top (y := nI (p2 k_other)) (by (try simp only [fa_lit]); exact bs_p _ (by omega)) ?_
          have hbt9 := p2_lt (q := k_other) (by omega)
          refine lv_ior hx hb (dkP dF_128 DX11_needs (i := 31) rfl rfl) ?_
          refine z_top (y := nI (n8 ||| (p2 k_other))) (by (try simp only [fa_lit]); exact nI_or _ _) ?_
          have hbt10 := or_lt (a := n8) (b := p2 k_other) (by omega) (by omega)
          refine z_iastN (n := 8) C0 hw 4 k_program (ak_of shc_4) (by omega) (by decide) (dkP dF_79 DX11_needs (i := 32) rfl rfl) (fun H locs hw => ?_)
          have hT11 : TC (sI σ 4 k_program (nI (n8 ||| (p2 k_other)))) := TC.w hT (tcw_14 tcl_4 (by (try simp only [lg_cmp_lt, lg_cmp_le, lg_cmp_gt, lg_cmp_ge, lg_cmp_eq] at hc1); (try simp (disch := omega) only [ta_lt, ta_le, ta_eq, tb_lt, tb_le, tb_eq, tw, tnI, tsub1, tsv, tsb32, tn32 5 (by decide), tnj 5 (by decide), tn32 1 (by decide), tnj 1 (by decide), tl32 0 (by decide), tl64 0 (by decide), tl32 1 (by decide), tl64 1 (by decide)] at hc1); (try simp only [lg_cmp_lt, lg_cmp_le, lg_cmp_gt, lg_cmp_ge, lg_cmp_eq] at hc2); (try simp (disch := omega) only [ta_lt, ta_le, ta_eq, tb_lt, tb_le, tb_eq, tw, tnI, tsub1, tsv, tsb32, tn32 5 (by decide), tnj 5 (by decide), tn32 1 (by decide), tnj 1 (by decide), tl32 0 (by decide), tl64 0 (by decide), tl32 1 (by decide), tl64 1 (by decide)] at hc2); (try simp only [lg_cmp_lt, lg_cmp_le, lg_cmp_gt, lg_cmp_ge, lg_cmp_eq] at c3); (try simp (disch := omega) only [ta_lt, ta_le, ta_eq, tb_lt, tb_le, tb_eq, tw, tnI, tsub1, tsv, tsb32, tn32 5 (by decide), tnj 5 (by decide), tn32 1 (by decide), tnj 1 (by decide), tl32 0 (by decide), tl64 0 (by decide), tl32 1 (by decide), tl64 1 (by decide)] at c3); (try simp only [lg_cmp_lt, lg_cmp_le, lg_cmp_gt, lg_cmp_ge, lg_cmp_eq] at f4_0); (try simp (disch := omega) only [ta_lt, ta_le, ta_eq, tb_lt, tb_le, tb_eq, tw, tnI, tsub1, tsv, tsb32, tn32 5 (by decide), tnj 5 (by decide), tn32 1 (by decide), tnj 1 (by decide), tl32 0 (by decide), tl64 0 (by decide), tl32 1 (by decide), tl64 1 (by decide)] at f4_0); (try simp only [lg_cmp_lt, lg_cmp_le, lg_cmp_gt, lg_cmp_ge, lg_cmp_eq] at c7); (try simp (disch := omega) only [ta_lt, ta_le, ta_eq, tb_lt, tb_le, tb_eq, tw, tnI, tsub1, tsv, tsb32, tn32 5 (by decide), tnj 5 (by decide), tn32 1 (by decide), tnj 1 (by decide), tl32 0 (by decide), tl64 0 (by decide), tl32 1 (by decide), tl64 1 (by decide)] at c7); (try simp (disch := omega) only [ta_lt, ta_le, ta_eq, tb_lt, tb_le, tb_eq, tw, tnI, tsub1, tsv, tsb32, tn32 5 (by decide), tnj 5 (by decide), tn32 1 (by decide), tnj 1 (by decide), tl32 0 (by decide), tl64 0 (by decide), tl32 1 (by decide), tl64 1 (by decide)]); omega))
          have hF11 : frC (fun x y => (x = 4)) σ (sI σ 4 k_program (nI (n8 ||| (p2 k_other)))) := frC.w frC.refl (by show (4 = 4); exact rfl)
          refine lv_iconst (v := 0) hx hb (dkP dF_3 DX11_needs (i := 33) rfl rfl) (by decide) ?_
          exact z_iret C0 hr hlk hw (⟨(hJ.need (p := k_program) (o := k_other) (a := na) (m := n8) (by omega) (by omega) (by omega) hnl.1 (bq0 (by omega) (by omega)) en8 (by omega) rd_s (fun q hq => rd_n (by omega)) rfl (fun x y hx1 => rd_n (by omega))), hT11, hF11⟩) (dkP dF_172 DX11_needs (i := 34) rfl rfl)
        · simp (disch := omega) only [ta_lt, ta_le, ta_eq, tnI, tl32 0 (by decide)] at c7
          refine lv_bipush (v := (-5)) hx hb (dks dF_16 DX11_needs (i := 20) rfl rfl rfl) (by decide) ?_
          exact z_iret C0 hr hlk hw (⟨hJ, hT, frC.refl⟩) (dkP dF_172 DX11_needs (i := 21) rfl rfl)
    · skip
      (try simp (disch := omega) only [ta_lt, ta_le, ta_eq, tb_lt, tb_le, tb_eq, tw, tnI, tn32 5 (by decide), tnj 5 (by decide), tn32 1 (by decide), tnj 1 (by decide), tl32 0 (by decide), tl64 0 (by decide), tl32 1 (by decide), tl64 1 (by decide)] at hc2)
      refine lv_if_ne (tgt := 17) hx hb (dkS dF_154 DX11_needs (i := 5) rfl rfl rfl) (by decide) (fun h => absurd h (by decide)) (fun _ => ?_)
      refine lv_bipush (v := (-2)) hx hb (dks dF_16 DX11_needs (i := 6) rfl rfl rfl) (by decide) ?_
      exact z_iret C0 hr hlk hw (⟨hJ, hT, frC.refl⟩) (dkP dF_172 DX11_needs (i := 7) rfl rfl)
  · skip
    (try simp (disch := omega) only [ta_lt, ta_le, ta_eq, tb_lt, tb_le, tb_eq, tw, tnI, tn32 5 (by decide), tnj 5 (by decide), tn32 2 (by decide), tnj 2 (by decide), tn32 1 (by decide), tnj 1 (by decide), tl32 0 (by decide), tl64 0 (by decide), tl32 1 (by decide), tl64 1 (by decide)] at hc1)
    refine lv_if_eq (tgt := 14) hx hb (dkS dF_153 DX11_needs (i := 2) rfl rfl rfl) (by decide) (fun _ => ?_) (fun h => absurd h (by decide))
    refine lv_bipush (v := (-2)) hx hb (dks dF_16 DX11_needs (i := 6) rfl rfl rfl) (by decide) ?_
    exact z_iret C0 hr hlk hw (⟨hJ, hT, frC.refl⟩) (dkP dF_172 DX11_needs (i := 7) rfl rfl)
