set_option maxRecDepth 100000 in
set_option maxHeartbeats 8000000 in
theorem c_X11_feed (l : Launch) (G : va_G) (kc : KC) (ad : Nat → Nat) (σ : Sg) (fa : Int32) (fb : Int32) (fd : Int32) (fe : Int32) (fg : Int32) (hJ : JC σ) (hT : TC σ) : MI l G kc yX11_feed cX11_feed 6 (some .int) 1 22 [.ref (ad 0), .int fa, .int fb, .int fd, .int fe, .int fg] shC ad σ (fun r σ1 => (JC σ1) ∧ TC σ1 ∧ frC (fun x y => (x = 186 ∧ y = 1) ∨ (x = 187)) σ σ1) := by
  intro sz
  refine z_body (y := yX11_feed) (n := 6) (av := [.ref (ad 0), .int fa, .int fb, .int fd, .int fe, .int fg]) (Qc := fun A => va_Qi (fun r σ1 => (JC σ1) ∧ TC σ1 ∧ frC (fun x y => (x = 186 ∧ y = 1) ∨ (x = 187)) σ σ1) (PoC G kc shC ad A) A) (plainFor_of_name (by decide)) (Nat.le_of_ble_eq_true rfl) (fun pr e s m below meth c A C0 hr hlk hnm hw hRo ls hl => ?_) sz
  have hx := C0.1
  have hb := C0.2.1
  have hown := C0.2.2.2.1
  have hts := C0.2.2.2.2.1
  have hl : lv_has ls 6 [(0, .ref (ad 0)), (1, .int fa), (2, .int fb), (3, .int fd), (4, .int fe), (5, .int fg)] := hl
  obtain ⟨t, u, hto, ht, hun, hu⟩ := hJ.rdr
  obtain ⟨wa, wb, hwa_, hwa, hwb_, hwb, hwab⟩ := hJ.wts
  refine lv_aload_n hx hb (dkP dF_42 DX11_feed (i := 0) rfl rfl) rfl (lv_at hl 0 rfl) ?_
  refine z_gr C0 hw 0 3 186 (fk_of shc_0 rfl) fl_X11_27 (dk2 dF_180 DX11_feed (i := 1) rfl rfl rfl) ?_
  refine lv_bipush (v := 20) hx hb (dks dF_16 DX11_feed (i := 2) rfl rfl rfl) (by decide) ?_
  refine zk_I hw (zr_V (As := [.int 20]) (rest := []) C0 (c_X5_hasRoom l G kc ad σ hT _) cv_X5_hasRoom lk_X11_73 (zp_V C0 hRo hw 186 shc_186 rfl rfl) rfl hl.1 rfl ⟨by decide, by decide⟩ (Nat.le_of_ble_eq_true rfl) (dk2 dF_182 DX11_feed (i := 3) rfl rfl rfl) ⟨Nat.le_refl _, Nat.le_refl _⟩) (fun r1 s1 H locs hp hw => ?_)
  obtain ⟨f1_0, hs1⟩ := hp
  (rw [hs1] at hw)
  rcases f1_0 with ⟨rfl, hc1⟩ | ⟨rfl, hc1⟩
  · skip
    refine lv_if_ne (tgt := 14) hx hb (dkS dF_154 DX11_feed (i := 4) rfl rfl rfl) (by decide) (fun _ => ?_) (fun h => absurd h (by decide))
    obtain ⟨n2, hn2, en2⟩ := rngN (x := σ.1 186 1) (h := 600) (tcr_10_1 hT tcl_186)
    have hfe : n2 ≤ 580 := by have h9 := hc1; rw [en2, tnI _ (by omega)] at h9; omega
    refine lv_aload_n hx hb (dkP dF_42 DX11_feed (i := 7) rfl rfl) rfl (lv_at hl 0 rfl) ?_
    refine z_gr C0 hw 0 3 186 (fk_of shc_0 rfl) fl_X11_27 (dk2 dF_180 DX11_feed (i := 8) rfl rfl rfl) ?_
    refine lv_iload_n hx hb (dkP dF_27 DX11_feed (i := 9) rfl rfl) rfl (lv_at hl 1 rfl) ?_
    refine zk_V hw (zr_V (As := [.int fa]) (rest := []) C0 (c_X5_add l G kc ad σ fa en2 (by omega) hT _) cv_X5_add lk_X11_77 (zp_V C0 hRo hw 186 shc_186 rfl rfl) rfl hl.1 rfl ⟨by decide, by decide⟩ (Nat.le_of_ble_eq_true rfl) (dk2 dF_182 DX11_feed (i := 10) rfl rfl rfl) ⟨Nat.le_refl _, Nat.le_refl _⟩) (fun s3 H locs hp hw => ?_)
    obtain ⟨f3_0, hT3, hG3⟩ := hp
    have hF3 : frC (fun x y => (x = 186 ∧ y = 1) ∨ (x = 187)) σ s3 := frC.t frC.refl hG3 (fun x y h => by have h : (x = 186 ∧ y = 1) ∨ (x = 187) := h; show (x = 186 ∧ y = 1) ∨ (x = 187); rcases h with h | h; (· exact Or.inl h); (· exact Or.inr (h)))
    refine lv_aload_n hx hb (dkP dF_42 DX11_feed (i := 11) rfl rfl) rfl (lv_at hl 0 rfl) ?_
    refine z_gr C0 hw 0 3 186 (fk_of shc_0 rfl) fl_X11_27 (dk2 dF_180 DX11_feed (i := 12) rfl rfl rfl) ?_
    refine lv_iload_n hx hb (dkP dF_28 DX11_feed (i := 13) rfl rfl) rfl (lv_at hl 2 rfl) ?_
    refine zk_V hw (zr_V (As := [.int fb]) (rest := []) C0 (c_X5_add l G kc ad s3 fb f3_0 (by omega) hT3 _) cv_X5_add lk_X11_77 (zp_V C0 hRo hw 186 shc_186 rfl rfl) rfl hl.1 rfl ⟨by decide, by decide⟩ (Nat.le_of_ble_eq_true rfl) (dk2 dF_182 DX11_feed (i := 14) rfl rfl rfl) ⟨Nat.le_refl _, Nat.le_refl _⟩) (fun s4 H locs hp hw => ?_)
    obtain ⟨f4_0, hT4, hG4⟩ := hp
    have hF4 : frC (fun x y => (x = 186 ∧ y = 1) ∨ (x = 187)) σ s4 := frC.t hF3 hG4 (fun x y h => by have h : (x = 186 ∧ y = 1) ∨ (x = 187) := h; show (x = 186 ∧ y = 1) ∨ (x = 187); rcases h with h | h; (· exact Or.inl h); (· exact Or.inr (h)))
    refine lv_aload_n hx hb (dkP dF_42 DX11_feed (i := 15) rfl rfl) rfl (lv_at hl 0 rfl) ?_
    refine z_gr C0 hw 0 3 186 (fk_of shc_0 rfl) fl_X11_27 (dk2 dF_180 DX11_feed (i := 16) rfl rfl rfl) ?_
    refine lv_iload_n hx hb (dkP dF_29 DX11_feed (i := 17) rfl rfl) rfl (lv_at hl 3 rfl) ?_
    refine zk_V hw (zr_V (As := [.int fd]) (rest := []) C0 (c_X5_add l G kc ad s4 fd f4_0 (by omega) hT4 _) cv_X5_add lk_X11_77 (zp_V C0 hRo hw 186 shc_186 rfl rfl) rfl hl.1 rfl ⟨by decide, by decide⟩ (Nat.le_of_ble_eq_true rfl) (dk2 dF_182 DX11_feed (i := 18) rfl rfl rfl) ⟨Nat.le_refl _, Nat.le_refl _⟩) (fun s5 H locs hp hw => ?_)
    obtain ⟨f5_0, hT5, hG5⟩ := hp
    have hF5 : frC (fun x y => (x = 186 ∧ y = 1) ∨ (x = 187)) σ s5 := frC.t hF4 hG5 (fun x y h => by have h : (x = 186 ∧ y = 1) ∨ (x = 187) := h; show (x = 186 ∧ y = 1) ∨ (x = 187); rcases h with h | h; (· exact Or.inl h); (· exact Or.inr (h)))
    refine lv_aload_n hx hb (dkP dF_42 DX11_feed (i := 19) rfl rfl) rfl (lv_at hl 0 rfl) ?_
    refine z_gr C0 hw 0 3 186 (fk_of shc_0 rfl) fl_X11_27 (dk2 dF_180 DX11_feed (i := 20) rfl rfl rfl) ?_
    refine lv_iload hx hb (dk1 dF_21 DX11_feed (i := 21) rfl rfl rfl) (lv_at hl 4 rfl) ?_
    refine zk_V hw (zr_V (As := [.int fe]) (rest := []) C0 (c_X5_add l G kc ad s5 fe f5_0 (by omega) hT5 _) cv_X5_add lk_X11_77 (zp_V C0 hRo hw 186 shc_186 rfl rfl) rfl hl.1 rfl ⟨by decide, by decide⟩ (Nat.le_of_ble_eq_true rfl) (dk2 dF_182 DX11_feed (i := 22) rfl rfl rfl) ⟨Nat.le_refl _, Nat.le_refl _⟩) (fun s6 H locs hp hw => ?_)
    obtain ⟨f6_0, hT6, hG6⟩ := hp
    have hF6 : frC (fun x y => (x = 186 ∧ y = 1) ∨ (x = 187)) σ s6 := frC.t hF5 hG6 (fun x y h => by have h : (x = 186 ∧ y = 1) ∨ (x = 187) := h; show (x = 186 ∧ y = 1) ∨ (x = 187); rcases h with h | h; (· exact Or.inl h); (· exact Or.inr (h)))
    refine lv_aload_n hx hb (dkP dF_42 DX11_feed (i := 23) rfl rfl) rfl (lv_at hl 0 rfl) ?_
    refine z_gr C0 hw 0 3 186 (fk_of shc_0 rfl) fl_X11_27 (dk2 dF_180 DX11_feed (i := 24) rfl rfl rfl) ?_
    refine lv_iload hx hb (dk1 dF_21 DX11_feed (i := 25) rfl rfl rfl) (lv_at hl 5 rfl) ?_
    refine zk_V hw (zr_V (As := [.int fg]) (rest := []) C0 (c_X5_add l G kc ad s6 fg f6_0 (by omega) hT6 _) cv_X5_add lk_X11_77 (zp_V C0 hRo hw 186 shc_186 rfl rfl) rfl hl.1 rfl ⟨by decide, by decide⟩ (Nat.le_of_ble_eq_true rfl) (dk2 dF_182 DX11_feed (i := 26) rfl rfl rfl) ⟨Nat.le_refl _, Nat.le_refl _⟩) (fun s7 H locs hp hw => ?_)
    obtain ⟨f7_0, hT7, hG7⟩ := hp
    have hF7 : frC (fun x y => (x = 186 ∧ y = 1) ∨ (x = 187)) σ s7 := frC.t hF6 hG7 (fun x y h => by have h : (x = 186 ∧ y = 1) ∨ (x = 187) := h; show (x = 186 ∧ y = 1) ∨ (x = 187); rcases h with h | h; (· exact Or.inl h); (· exact Or.inr (h)))
    refine lv_aload_n hx hb (dkP dF_42 DX11_feed (i := 27) rfl rfl) rfl (lv_at hl 0 rfl) ?_
    refine z_gr C0 hw 0 3 186 (fk_of shc_0 rfl) fl_X11_27 (dk2 dF_180 DX11_feed (i := 28) rfl rfl rfl) ?_
    refine z_gi C0 hw 186 1 (fk_of shc_186 rfl) fl_X11_81 (dk2 dF_180 DX11_feed (i := 29) rfl rfl rfl) ?_
    obtain ⟨n8, hn8, en8⟩ := rngN (x := s7.1 186 1) (h := 600) (tcr_10_1 hT7 tcl_186)
    refine z_top (y := nI n8) en8 ?_
    exact z_iret C0 hr hlk hw (⟨(hJ.fr hF7.2 (fun x y hj => hF7.1 x y (fun h_ => by have h_ : (x = 186 ∧ y = 1) ∨ (x = 187) := h_; unfold jcq at hj; rcases h_ with h_ | h_; (· omega); (· omega)))), hT7, hF7⟩) (dkP dF_172 DX11_feed (i := 30) rfl rfl)
  · skip
    refine lv_if_ne (tgt := 14) hx hb (dkS dF_154 DX11_feed (i := 4) rfl rfl rfl) (by decide) (fun h => absurd h (by decide)) (fun _ => ?_)
    refine lv_iconst (v := (-1)) hx hb (dkP dF_2 DX11_feed (i := 5) rfl rfl) (by decide) ?_
    exact z_iret C0 hr hlk hw (⟨hJ, hT, frC.refl⟩) (dkP dF_172 DX11_feed (i := 6) rfl rfl)
set_option maxRecDepth 100000 in
set_option maxHeartbeats 8000000 in
theorem c_X11_remember (l : Launch) (G : va_G) (kc : KC) (ad : Nat → Nat) (σ : Sg) (mc : Nat) (dd : Int32) (hmc : mc ∈ mcL) (hT : TC σ) : MV l G kc yX11_remember cX11_remember 3 1 26 [.ref (ad 0), .ref (ad mc), .int dd] shC ad σ (fun σ1 => TC σ1 ∧ frC (fun x y => (x = 0 ∧ y = 9) ∨ (x = 227)) σ σ1) := by
  intro sz
  refine z_body (y := yX11_remember) (n := 3) (av := [.ref (ad 0), .ref (ad mc), .int dd]) (Qc := fun A => va_Qv (fun σ1 => TC σ1 ∧ frC (fun x y => (x = 0 ∧ y = 9) ∨ (x = 227)) σ σ1) (PoC G kc shC ad A) A) (plainFor_of_name (by decide)) (Nat.le_of_ble_eq_true rfl) (fun pr e s m below meth c A C0 hr hlk hnm hw hRo ls hl => ?_) sz
  have hx := C0.1
  have hb := C0.2.1
  have hown := C0.2.2.2.1
  have hts := C0.2.2.2.2.1
  have hl : lv_has ls 3 [(0, .ref (ad 0)), (1, .ref (ad mc)), (2, .int dd)] := hl
  refine lv_aload_n hx hb (dkP dF_43 DX11_remember (i := 0) rfl rfl) rfl (lv_at hl 1 rfl) ?_
  refine z_gr C0 hw mc 0 (mc + 1) (fk_of (shl_mc_0 mc hmc) rfl) fl_X11_364 (dk2 dF_180 DX11_remember (i := 1) rfl rfl rfl) ?_
  refine lv_iconst (v := 0) hx hb (dkP dF_3 DX11_remember (i := 2) rfl rfl) (by decide) ?_
  refine lv_aload_n hx hb (dkP dF_42 DX11_remember (i := 3) rfl rfl) rfl (lv_at hl 0 rfl) ?_
  refine z_gr C0 hw 0 8 227 (fk_of shc_0 rfl) fl_X11_55 (dk2 dF_180 DX11_remember (i := 4) rfl rfl rfl) ?_
  refine lv_iconst (v := 0) hx hb (dkP dF_3 DX11_remember (i := 5) rfl rfl) (by decide) ?_
  refine lv_bipush (v := 8) hx hb (dks dF_16 DX11_remember (i := 6) rfl rfl rfl) (by decide) ?_
  refine z_cpi (n0 := 8) (n1 := 8) C0 hw (mc + 1) 227 0 0 8 (ak_of (shl_mc_1 mc hmc)) (ak_of shc_227) ac_X11_367 hl.1 (by omega) (by omega) (by decide) (by decide) (by decide) (by decide) (Nat.le_of_ble_eq_true rfl) (dk2 dF_184 DX11_remember (i := 7) rfl rfl rfl) (fun H locs hw => ?_)
  have hT1 : TC (sCp σ (mc + 1) 227 0 0 8) := TC.cp hT (fun k k2 x_ h => tc0 tcl_227)
  have hF1 : frC (fun x y => (x = 0 ∧ y = 9) ∨ (x = 227)) σ (sCp σ (mc + 1) 227 0 0 8) := frC.cp frC.refl (fun k => (by show (227 = 0 ∧ k = 9) ∨ (227 = 227); exact Or.inr (rfl)))
  refine lv_aload_n hx hb (dkP dF_42 DX11_remember (i := 8) rfl rfl) rfl (lv_at hl 0 rfl) ?_
  refine lv_iload_n hx hb (dkP dF_28 DX11_remember (i := 9) rfl rfl) rfl (lv_at hl 2 rfl) ?_
  refine z_pi C0 hw 0 9 (fk_of shc_0 rfl) fp_X11_59 (dk2 dF_181 DX11_remember (i := 10) rfl rfl rfl) (fun H locs hw => ?_)
  have hT2 : TC (sI (sCp σ (mc + 1) 227 0 0 8) 0 9 dd) := TC.w hT1 (tc0 tcl_0)
  have hF2 : frC (fun x y => (x = 0 ∧ y = 9) ∨ (x = 227)) σ (sI (sCp σ (mc + 1) 227 0 0 8) 0 9 dd) := frC.w hF1 (by show (0 = 0 ∧ 9 = 9) ∨ (0 = 227); exact Or.inl (⟨rfl, rfl⟩))
  exact z_vret C0 hr hlk hw (⟨hT2, hF2⟩) (dkP dF_177 DX11_remember (i := 11) rfl rfl)
set_option maxRecDepth 20000 in
theorem shc_210 : shC[210]? = some (0, 0, [(1, 211), (1, 212), (1, 213), (1, 214), (0, 0), (0, 0), (0, 0), (0, 0), (0, 0)]) := by rfl
set_option maxRecDepth 20000 in
theorem shc_215 : shC[215]? = some (0, 0, [(1, 216), (1, 217), (1, 218), (1, 219), (0, 0), (0, 0), (0, 0), (0, 0), (0, 0)]) := by rfl
theorem tcl_210 : tcL.getD 210 0 = 8 := by decide +kernel
theorem tcl_215 : tcL.getD 215 0 = 8 := by decide +kernel
set_option maxRecDepth 20000 in
theorem shc_211 : shC[211]? = some (1, 8, []) := by rfl
theorem tcl_211 : tcL.getD 211 0 = 0 := by decide +kernel
set_option maxRecDepth 20000 in
theorem shc_216 : shC[216]? = some (1, 8, []) := by rfl
theorem tcl_216 : tcL.getD 216 0 = 0 := by decide +kernel
set_option maxRecDepth 100000 in
set_option maxHeartbeats 8000000 in
theorem c_X11_unlikeBits (l : Launch) (G : va_G) (kc : KC) (ad : Nat → Nat) (σ : Sg) (pg : Nat) (inp : Int32) {t1 u1 : Nat} (hpg : pg ∈ pgL) (hto1 : σ.2.2 pg 2 = some t1) (ht1 : t1 ∈ otL) (hun1 : σ.2.2 pg 3 = some u1) (hu1 : u1 ∈ ntL) (hVP : VP σ pg t1 u1) (hT : TC σ) : MI l G kc yX11_unlikeBits cX11_unlikeBits 5 (some .int) 4 98 [.ref (ad 0), .ref (ad pg), .int inp] shC ad σ (fun r σ1 => TC σ1 ∧ frC (fun x y => (x = 210 ∧ y = 4) ∨ (x = 210 ∧ y = 5) ∨ (x = 210 ∧ y = 6) ∨ (x = 210 ∧ y = 8) ∨ (x = 211) ∨ (x = 213) ∨ (x = 214) ∨ (x = 215 ∧ y = 4) ∨ (x = 215 ∧ y = 5) ∨ (x = 215 ∧ y = 6) ∨ (x = 215 ∧ y = 7) ∨ (x = 215 ∧ y = 8) ∨ (x = 216) ∨ (x = 217) ∨ (x = 218) ∨ (x = 219)) σ σ1) := by
  intro sz
  refine z_body (y := yX11_unlikeBits) (n := 5) (av := [.ref (ad 0), .ref (ad pg), .int inp]) (Qc := fun A => va_Qi (fun r σ1 => TC σ1 ∧ frC (fun x y => (x = 210 ∧ y = 4) ∨ (x = 210 ∧ y = 5) ∨ (x = 210 ∧ y = 6) ∨ (x = 210 ∧ y = 8) ∨ (x = 211) ∨ (x = 213) ∨ (x = 214) ∨ (x = 215 ∧ y = 4) ∨ (x = 215 ∧ y = 5) ∨ (x = 215 ∧ y = 6) ∨ (x = 215 ∧ y = 7) ∨ (x = 215 ∧ y = 8) ∨ (x = 216) ∨ (x = 217) ∨ (x = 218) ∨ (x = 219)) σ σ1) (PoC G kc shC ad A) A) (plainFor_of_name (by decide)) (Nat.le_of_ble_eq_true rfl) (fun pr e s m below meth c A C0 hr hlk hnm hw hRo ls hl => ?_) sz
  have hx := C0.1
  have hb := C0.2.1
  have hown := C0.2.2.2.1
  have hts := C0.2.2.2.2.1
  have hl : lv_has ls 5 [(0, .ref (ad 0)), (1, .ref (ad pg)), (2, .int inp)] := hl
  obtain ⟨hLH, ⟨zo, uo, hzo, hzo24, hVo⟩, zn, un, K_, hzn, hzn40, hVn⟩ := id hVP
  refine lv_aload_n hx hb (dkP dF_42 DX11_unlikeBits (i := 0) rfl rfl) rfl (lv_at hl 0 rfl) ?_
  refine z_gr C0 hw 0 4 210 (fk_of shc_0 rfl) fl_X11_34 (dk2 dF_180 DX11_unlikeBits (i := 1) rfl rfl rfl) ?_
  refine lv_aload_n hx hb (dkP dF_43 DX11_unlikeBits (i := 2) rfl rfl) rfl (lv_at hl 1 rfl) ?_
  refine lv_iload_n hx hb (dkP dF_28 DX11_unlikeBits (i := 3) rfl rfl) rfl (lv_at hl 2 rfl) ?_
  refine zk_V hw (zr_V (As := [.ref (ad pg), .int inp]) (rest := []) C0 (c_X0_goOld l G kc ad σ 210 pg inp (by decide) hpg ht1 hto1 hLH hzo hzo24 hVo hT _) cv_X0_goOld lk_X11_153 (zp_V C0 hRo hw 210 shc_210 rfl rfl) rfl hl.1 rfl ⟨by decide, by decide⟩ (Nat.le_of_ble_eq_true rfl) (dk2 dF_182 DX11_unlikeBits (i := 4) rfl rfl rfl) ⟨Nat.le_refl _, Nat.le_refl _⟩) (fun s1 H locs hp hw => ?_)
  obtain ⟨f1_0, hT1, hG1⟩ := hp
  have hF1 : frC (fun x y => (x = 210 ∧ y = 4) ∨ (x = 210 ∧ y = 5) ∨ (x = 210 ∧ y = 6) ∨ (x = 210 ∧ y = 8) ∨ (x = 211) ∨ (x = 213) ∨ (x = 214) ∨ (x = 215 ∧ y = 4) ∨ (x = 215 ∧ y = 5) ∨ (x = 215 ∧ y = 6) ∨ (x = 215 ∧ y = 7) ∨ (x = 215 ∧ y = 8) ∨ (x = 216) ∨ (x = 217) ∨ (x = 218) ∨ (x = 219)) σ s1 := frC.t frC.refl hG1 (fun x y h => by have h : (x = 210 + 1) ∨ (x = 210 + 3) ∨ (x = 210 + 4) ∨ (x = 210 ∧ y = 4) ∨ (x = 210 ∧ y = 5) ∨ (x = 210 ∧ y = 6) ∨ (x = 210 ∧ y = 8) := h; show (x = 210 ∧ y = 4) ∨ (x = 210 ∧ y = 5) ∨ (x = 210 ∧ y = 6) ∨ (x = 210 ∧ y = 8) ∨ (x = 211) ∨ (x = 213) ∨ (x = 214) ∨ (x = 215 ∧ y = 4) ∨ (x = 215 ∧ y = 5) ∨ (x = 215 ∧ y = 6) ∨ (x = 215 ∧ y = 7) ∨ (x = 215 ∧ y = 8) ∨ (x = 216) ∨ (x = 217) ∨ (x = 218) ∨ (x = 219); rcases h with h | h | h | h | h | h | h; (· omega); (· omega); (· omega); (· exact Or.inl h); (· exact Or.inr (Or.inl h)); (· exact Or.inr (Or.inr (Or.inl h))); (· exact Or.inr (Or.inr (Or.inr (Or.inl h)))))
  refine lv_aload_n hx hb (dkP dF_42 DX11_unlikeBits (i := 5) rfl rfl) rfl (lv_at hl 0 rfl) ?_
  refine z_gr C0 hw 0 5 215 (fk_of shc_0 rfl) fl_X11_38 (dk2 dF_180 DX11_unlikeBits (i := 6) rfl rfl rfl) ?_
  refine lv_aload_n hx hb (dkP dF_43 DX11_unlikeBits (i := 7) rfl rfl) rfl (lv_at hl 1 rfl) ?_
  refine lv_iload_n hx hb (dkP dF_28 DX11_unlikeBits (i := 8) rfl rfl) rfl (lv_at hl 2 rfl) ?_
  refine zk_V hw (zr_V (As := [.ref (ad pg), .int inp]) (rest := []) C0 (c_X0_goNew l G kc ad s1 215 pg inp (by decide) hpg ht1 hu1 ((congrFun (congrFun hG1.2 _) _).trans hto1) ((congrFun (congrFun hG1.2 _) _).trans hun1) (hLH.c (funext (fun y => ((hG1.1 (pg + 20) y (by show ¬ (((pg + 20) = 210 + 1) ∨ ((pg + 20) = 210 + 3) ∨ ((pg + 20) = 210 + 4) ∨ ((pg + 20) = 210 ∧ y = 4) ∨ ((pg + 20) = 210 ∧ y = 5) ∨ ((pg + 20) = 210 ∧ y = 6) ∨ ((pg + 20) = 210 ∧ y = 8)); intro h_; rcases h_ with h_ | h_ | h_ | h_ | h_ | h_ | h_; (· have hd0_ := pgN pg hpg; omega); (· have hd0_ := pgN pg hpg; omega); (· have hd0_ := pgN pg hpg; omega); (· have hd0_ := pgN pg hpg; omega); (· have hd0_ := pgN pg hpg; omega); (· have hd0_ := pgN pg hpg; omega); (· have hd0_ := pgN pg hpg; omega))).trans rfl))) (funext (fun y => ((hG1.1 (pg + 21) y (by show ¬ (((pg + 21) = 210 + 1) ∨ ((pg + 21) = 210 + 3) ∨ ((pg + 21) = 210 + 4) ∨ ((pg + 21) = 210 ∧ y = 4) ∨ ((pg + 21) = 210 ∧ y = 5) ∨ ((pg + 21) = 210 ∧ y = 6) ∨ ((pg + 21) = 210 ∧ y = 8)); intro h_; rcases h_ with h_ | h_ | h_ | h_ | h_ | h_ | h_; (· have hd0_ := pgN pg hpg; omega); (· have hd0_ := pgN pg hpg; omega); (· have hd0_ := pgN pg hpg; omega); (· have hd0_ := pgN pg hpg; omega); (· have hd0_ := pgN pg hpg; omega); (· have hd0_ := pgN pg hpg; omega); (· have hd0_ := pgN pg hpg; omega))).trans rfl)))) ((hG1.1 t1 1 (by show ¬ ((t1 = 210 + 1) ∨ (t1 = 210 + 3) ∨ (t1 = 210 + 4) ∨ (t1 = 210 ∧ 1 = 4) ∨ (t1 = 210 ∧ 1 = 5) ∨ (t1 = 210 ∧ 1 = 6) ∨ (t1 = 210 ∧ 1 = 8)); intro h_; rcases h_ with h_ | h_ | h_ | h_ | h_ | h_ | h_; (· have hd0_ := otN3 t1 ht1; omega); (· have hd0_ := otN3 t1 ht1; omega); (· have hd0_ := otN3 t1 ht1; omega); (· have hd0_ := otN3 t1 ht1; omega); (· have hd0_ := otN3 t1 ht1; omega); (· have hd0_ := otN3 t1 ht1; omega); (· have hd0_ := otN3 t1 ht1; omega))).trans hzo) hzo24 (hVo.c (fun x y hxy => ((hG1.1 x y (by show ¬ ((x = 210 + 1) ∨ (x = 210 + 3) ∨ (x = 210 + 4) ∨ (x = 210 ∧ y = 4) ∨ (x = 210 ∧ y = 5) ∨ (x = 210 ∧ y = 6) ∨ (x = 210 ∧ y = 8)); intro h_; rcases h_ with h_ | h_ | h_ | h_ | h_ | h_ | h_; (· have hd0_ := otN3 t1 ht1; omega); (· have hd0_ := otN3 t1 ht1; omega); (· have hd0_ := otN3 t1 ht1; omega); (· have hd0_ := otN3 t1 ht1; omega); (· have hd0_ := otN3 t1 ht1; omega); (· have hd0_ := otN3 t1 ht1; omega); (· have hd0_ := otN3 t1 ht1; omega))).trans rfl))) ((hG1.1 u1 3 (by show ¬ ((u1 = 210 + 1) ∨ (u1 = 210 + 3) ∨ (u1 = 210 + 4) ∨ (u1 = 210 ∧ 3 = 4) ∨ (u1 = 210 ∧ 3 = 5) ∨ (u1 = 210 ∧ 3 = 6) ∨ (u1 = 210 ∧ 3 = 8)); intro h_; rcases h_ with h_ | h_ | h_ | h_ | h_ | h_ | h_; (· have hd0_ := ntN3 u1 hu1; omega); (· have hd0_ := ntN3 u1 hu1; omega); (· have hd0_ := ntN3 u1 hu1; omega); (· have hd0_ := ntN3 u1 hu1; omega); (· have hd0_ := ntN3 u1 hu1; omega); (· have hd0_ := ntN3 u1 hu1; omega); (· have hd0_ := ntN3 u1 hu1; omega))).trans hzn) hzn40 (hVn.c (fun x y hxy => ((hG1.1 x y (by show ¬ ((x = 210 + 1) ∨ (x = 210 + 3) ∨ (x = 210 + 4) ∨ (x = 210 ∧ y = 4) ∨ (x = 210 ∧ y = 5) ∨ (x = 210 ∧ y = 6) ∨ (x = 210 ∧ y = 8)); intro h_; rcases h_ with h_ | h_ | h_ | h_ | h_ | h_ | h_; (· have hd0_ := ntN3 u1 hu1; omega); (· have hd0_ := ntN3 u1 hu1; omega); (· have hd0_ := ntN3 u1 hu1; omega); (· have hd0_ := ntN3 u1 hu1; omega); (· have hd0_ := ntN3 u1 hu1; omega); (· have hd0_ := ntN3 u1 hu1; omega); (· have hd0_ := ntN3 u1 hu1; omega))).trans rfl))) hT1 _) cv_X0_goNew lk_X11_168 (zp_V C0 hRo hw 215 shc_215 rfl rfl) rfl hl.1 rfl ⟨by decide, by decide⟩ (Nat.le_of_ble_eq_true rfl) (dk2 dF_182 DX11_unlikeBits (i := 9) rfl rfl rfl) ⟨Nat.le_refl _, Nat.le_refl _⟩) (fun s2 H locs hp hw => ?_)
  obtain ⟨hT2, hG2⟩ := hp
  have hF2 : frC (fun x y => (x = 210 ∧ y = 4) ∨ (x = 210 ∧ y = 5) ∨ (x = 210 ∧ y = 6) ∨ (x = 210 ∧ y = 8) ∨ (x = 211) ∨ (x = 213) ∨ (x = 214) ∨ (x = 215 ∧ y = 4) ∨ (x = 215 ∧ y = 5) ∨ (x = 215 ∧ y = 6) ∨ (x = 215 ∧ y = 7) ∨ (x = 215 ∧ y = 8) ∨ (x = 216) ∨ (x = 217) ∨ (x = 218) ∨ (x = 219)) σ s2 := frC.t hF1 hG2 (fun x y h => by have h : (x = 215 + 1) ∨ (x = 215 + 2) ∨ (x = 215 + 3) ∨ (x = 215 + 4) ∨ (x = 215 ∧ y = 4) ∨ (x = 215 ∧ y = 5) ∨ (x = 215 ∧ y = 6) ∨ (x = 215 ∧ y = 7) ∨ (x = 215 ∧ y = 8) := h; show (x = 210 ∧ y = 4) ∨ (x = 210 ∧ y = 5) ∨ (x = 210 ∧ y = 6) ∨ (x = 210 ∧ y = 8) ∨ (x = 211) ∨ (x = 213) ∨ (x = 214) ∨ (x = 215 ∧ y = 4) ∨ (x = 215 ∧ y = 5) ∨ (x = 215 ∧ y = 6) ∨ (x = 215 ∧ y = 7) ∨ (x = 215 ∧ y = 8) ∨ (x = 216) ∨ (x = 217) ∨ (x = 218) ∨ (x = 219); rcases h with h | h | h | h | h | h | h | h | h; (· omega); (· omega); (· omega); (· omega); (· exact Or.inr (Or.inr (Or.inr (Or.inr (Or.inr (Or.inr (Or.inr (Or.inl h)))))))); (· exact Or.inr (Or.inr (Or.inr (Or.inr (Or.inr (Or.inr (Or.inr (Or.inr (Or.inl h))))))))); (· exact Or.inr (Or.inr (Or.inr (Or.inr (Or.inr (Or.inr (Or.inr (Or.inr (Or.inr (Or.inl h)))))))))); (· exact Or.inr (Or.inr (Or.inr (Or.inr (Or.inr (Or.inr (Or.inr (Or.inr (Or.inr (Or.inr (Or.inl h))))))))))); (· exact Or.inr (Or.inr (Or.inr (Or.inr (Or.inr (Or.inr (Or.inr (Or.inr (Or.inr (Or.inr (Or.inr (Or.inl h)))))))))))))
  refine lv_aload_n hx hb (dkP dF_42 DX11_unlikeBits (i := 10) rfl rfl) rfl (lv_at hl 0 rfl) ?_
  refine z_gr C0 hw 0 4 210 (fk_of shc_0 rfl) fl_X11_34 (dk2 dF_180 DX11_unlikeBits (i := 11) rfl rfl rfl) ?_
  refine z_gi C0 hw 210 6 (fk_of shc_210 rfl) fl_X11_164 (dk2 dF_180 DX11_unlikeBits (i := 12) rfl rfl rfl) ?_
  obtain ⟨v3, ev3⟩ : ∃ y : Int32, s2.1 210 6 = y := ⟨_, rfl⟩
  refine z_top (y := v3) ev3 ?_
  refine lv_aload_n hx hb (dkP dF_42 DX11_unlikeBits (i := 13) rfl rfl) rfl (lv_at hl 0 rfl) ?_
  refine z_gr C0 hw 0 5 215 (fk_of shc_0 rfl) fl_X11_38 (dk2 dF_180 DX11_unlikeBits (i := 14) rfl rfl rfl) ?_
  refine z_gi C0 hw 215 6 (fk_of shc_215 rfl) fl_X11_164 (dk2 dF_180 DX11_unlikeBits (i := 15) rfl rfl rfl) ?_
  obtain ⟨v4, ev4⟩ : ∃ y : Int32, s2.1 215 6 = y := ⟨_, rfl⟩
  refine z_top (y := v4) ev4 ?_
  refine lv_icmp_ne (tgt := 39) hx hb (dkS dF_160 DX11_unlikeBits (i := 16) rfl rfl rfl) (by decide) (fun c5 => ?_) (fun c5 => ?_)
  · (try simp (disch := omega) only [ta_lt, ta_le, ta_eq, tnI] at c5)
    refine lv_sipush (v := 256) hx hb (dkS dF_17 DX11_unlikeBits (i := 19) rfl rfl rfl) (by decide) ?_
    refine lv_istore_n (lv' := [(3, .int 256), (0, .ref (ad 0)), (1, .ref (ad pg)), (2, .int inp)]) hx hb (dkP dF_62 DX11_unlikeBits (i := 20) rfl rfl) rfl hl (by decide) rfl (fun ls hl => ?_)
    refine lv_iconst (v := 0) hx hb (dkP dF_3 DX11_unlikeBits (i := 21) rfl rfl) (by decide) ?_
    refine lv_istore (lv' := [(4, .int 0), (3, .int 256), (0, .ref (ad 0)), (1, .ref (ad pg)), (2, .int inp)]) hx hb (dk1 dF_54 DX11_unlikeBits (i := 22) rfl rfl rfl) hl (by decide) rfl (fun ls hl => ?_)
    have lp6 : ∀ (nq : Nat) (q4_46 : Nat) (q3_46 : Int32) (H : Heap) (locs : List Loc) (ls : Array Slot), 8 - q4_46 < nq → (q4_46 ≤ 8) → St G kc A s.heap shC ad s2 H locs → lv_has ls 5 [(4, .int (nI q4_46)), (3, .int q3_46), (0, .ref (ad 0)), (1, .ref (ad pg)), (2, .int inp)] → W pr l e { frames := 4, cells := 0, slots := 0, locals := 98 } s m ([.ref (ad 0), .ref (ad pg), .int inp] : List Value).toArray below meth c H locs 0 0 (MQ below (va_Qi (fun r σ1 => TC σ1 ∧ frC (fun x y => (x = 210 ∧ y = 4) ∨ (x = 210 ∧ y = 5) ∨ (x = 210 ∧ y = 6) ∨ (x = 210 ∧ y = 8) ∨ (x = 211) ∨ (x = 213) ∨ (x = 214) ∨ (x = 215 ∧ y = 4) ∨ (x = 215 ∧ y = 5) ∨ (x = 215 ∧ y = 6) ∨ (x = 215 ∧ y = 7) ∨ (x = 215 ∧ y = 8) ∨ (x = 216) ∨ (x = 217) ∨ (x = 218) ∨ (x = 219)) σ σ1) (PoC G kc shC ad A) A) ([.ref (ad 0), .ref (ad pg), .int inp] : List Value).toArray s 0 0 A) (F0 m 46 ls []) := by
      intro nq
      induction nq with
      | zero => intro q4_46 q3_46 H locs ls hmu; exact absurd hmu (Nat.not_lt_zero _)
      | succ nq ih6 =>
        intro q4_46 q3_46 H locs ls hmu hq4_46 hw hl
        refine lv_iload hx hb (dk1 dF_21 DX11_unlikeBits (i := 23) rfl rfl rfl) (lv_at hl 0 rfl) ?_
        refine lv_bipush (v := 8) hx hb (dks dF_16 DX11_unlikeBits (i := 24) rfl rfl rfl) (by decide) ?_
        refine lv_icmp_ge (tgt := 89) hx hb (dkS dF_162 DX11_unlikeBits (i := 25) rfl rfl rfl) (by decide) (fun c7 => ?_) (fun c7 => ?_)
        · simp (disch := omega) only [ta_lt, ta_le, ta_eq, tnI, tl32 8 (by decide)] at c7
          refine lv_iload_n hx hb (dkP dF_29 DX11_unlikeBits (i := 45) rfl rfl) rfl (lv_at hl 1 rfl) ?_
          exact z_iret C0 hr hlk hw (⟨hT2, hF2⟩) (dkP dF_172 DX11_unlikeBits (i := 46) rfl rfl)
        · simp (disch := omega) only [ta_lt, ta_le, ta_eq, tnI, tl32 8 (by decide)] at c7
          refine lv_aload_n hx hb (dkP dF_42 DX11_unlikeBits (i := 26) rfl rfl) rfl (lv_at hl 2 rfl) ?_
          refine z_gr C0 hw 0 4 210 (fk_of shc_0 rfl) fl_X11_34 (dk2 dF_180 DX11_unlikeBits (i := 27) rfl rfl rfl) ?_
          refine z_gr C0 hw 210 0 211 (fk_of shc_210 rfl) fl_X11_364 (dk2 dF_180 DX11_unlikeBits (i := 28) rfl rfl rfl) ?_
          refine lv_iload hx hb (dk1 dF_21 DX11_unlikeBits (i := 29) rfl rfl rfl) (lv_at hl 0 rfl) ?_
          refine z_ialdN (n := 8) C0 hw 211 q4_46 (ak_of shc_211) (by omega) (by decide) (dkP dF_46 DX11_unlikeBits (i := 30) rfl rfl) ?_
          obtain ⟨v8, ev8⟩ : ∃ y : Int32, s2.1 211 q4_46 = y := ⟨_, rfl⟩
          refine z_top (y := v8) ev8 ?_
          refine lv_aload_n hx hb (dkP dF_42 DX11_unlikeBits (i := 31) rfl rfl) rfl (lv_at hl 2 rfl) ?_
          refine z_gr C0 hw 0 5 215 (fk_of shc_0 rfl) fl_X11_38 (dk2 dF_180 DX11_unlikeBits (i := 32) rfl rfl rfl) ?_
          refine z_gr C0 hw 215 0 216 (fk_of shc_215 rfl) fl_X11_364 (dk2 dF_180 DX11_unlikeBits (i := 33) rfl rfl rfl) ?_
          refine lv_iload hx hb (dk1 dF_21 DX11_unlikeBits (i := 34) rfl rfl rfl) (lv_at hl 0 rfl) ?_
          refine z_ialdN (n := 8) C0 hw 216 q4_46 (ak_of shc_216) (by omega) (by decide) (dkP dF_46 DX11_unlikeBits (i := 35) rfl rfl) ?_
          obtain ⟨v9, ev9⟩ : ∃ y : Int32, s2.1 216 q4_46 = y := ⟨_, rfl⟩
          refine z_top (y := v9) ev9 ?_
          refine lv_icmp_eq (tgt := 83) hx hb (dkS dF_159 DX11_unlikeBits (i := 36) rfl rfl rfl) (by decide) (fun c10 => ?_) (fun c10 => ?_)
          · (try simp (disch := omega) only [ta_lt, ta_le, ta_eq, tnI] at c10)
            refine lv_iinc (v := nI (q4_46 + 1)) (lv' := [(4, .int (nI (q4_46 + 1))), (3, .int q3_46), (0, .ref (ad 0)), (1, .ref (ad pg)), (2, .int inp)]) hx hb (dkI DX11_unlikeBits (i := 43) rfl rfl rfl rfl) hl (k := 0) rfl (nI_1 _) (by decide) rfl (fun ls hl => ?_)
            refine lv_goto (tgt := 46) hx hb (dkS dF_167 DX11_unlikeBits (i := 44) rfl rfl rfl) (by decide) ?_
            exact ih6 (q4_46 + 1) q3_46 _ _ _ (by omega) (by (try simp only [lg_cmp_lt, lg_cmp_le, lg_cmp_gt, lg_cmp_ge, lg_cmp_eq] at f1_0); (try simp (disch := omega) only [ta_lt, ta_le, ta_eq, tb_lt, tb_le, tb_eq, tw, tnI, tsub1, tsv, tsb32, tn32 1 (by decide), tnj 1 (by decide), tl32 0 (by decide), tl64 0 (by decide), tl32 8 (by decide), tl64 8 (by decide), tl32 256 (by decide), tl64 256 (by decide)] at f1_0); (try simp only [lg_cmp_lt, lg_cmp_le, lg_cmp_gt, lg_cmp_ge, lg_cmp_eq] at c5); (try simp (disch := omega) only [ta_lt, ta_le, ta_eq, tb_lt, tb_le, tb_eq, tw, tnI, tsub1, tsv, tsb32, tn32 1 (by decide), tnj 1 (by decide), tl32 0 (by decide), tl64 0 (by decide), tl32 8 (by decide), tl64 8 (by decide), tl32 256 (by decide), tl64 256 (by decide)] at c5); (try simp only [lg_cmp_lt, lg_cmp_le, lg_cmp_gt, lg_cmp_ge, lg_cmp_eq] at c7); (try simp (disch := omega) only [ta_lt, ta_le, ta_eq, tb_lt, tb_le, tb_eq, tw, tnI, tsub1, tsv, tsb32, tn32 1 (by decide), tnj 1 (by decide), tl32 0 (by decide), tl64 0 (by decide), tl32 8 (by decide), tl64 8 (by decide), tl32 256 (by decide), tl64 256 (by decide)] at c7); (try simp only [lg_cmp_lt, lg_cmp_le, lg_cmp_gt, lg_cmp_ge, lg_cmp_eq] at c10); (try simp (disch := omega) only [ta_lt, ta_le, ta_eq, tb_lt, tb_le, tb_eq, tw, tnI, tsub1, tsv, tsb32, tn32 1 (by decide), tnj 1 (by decide), tl32 0 (by decide), tl64 0 (by decide), tl32 8 (by decide), tl64 8 (by decide), tl32 256 (by decide), tl64 256 (by decide)] at c10); (try simp (disch := omega) only [ta_lt, ta_le, ta_eq, tb_lt, tb_le, tb_eq, tw, tnI, tsub1, tsv, tsb32, tn32 1 (by decide), tnj 1 (by decide), tl32 0 (by decide), tl64 0 (by decide), tl32 8 (by decide), tl64 8 (by decide), tl32 256 (by decide), tl64 256 (by decide)]); omega) hw (lv_sub hl [0, 1, 2, 3, 4] rfl)
          · (try simp (disch := omega) only [ta_lt, ta_le, ta_eq, tnI] at c10)
            refine lv_iload_n hx hb (dkP dF_29 DX11_unlikeBits (i := 37) rfl rfl) rfl (lv_at hl 1 rfl) ?_
            refine lv_iconst (v := 1) hx hb (dkP dF_4 DX11_unlikeBits (i := 38) rfl rfl) (by decide) ?_
            refine lv_iload hx hb (dk1 dF_21 DX11_unlikeBits (i := 39) rfl rfl rfl) (lv_at hl 0 rfl) ?_
            refine lv_ishl hx hb (dkP dF_120 DX11_unlikeBits (i := 40) rfl rfl) ?_
            refine lv_ior hx hb (dkP dF_128 DX11_unlikeBits (i := 41) rfl rfl) ?_
            refine lv_topi (fun v11 ev11 => ?_)
            refine lv_istore_n (lv' := [(3, .int v11), (4, .int (nI q4_46)), (0, .ref (ad 0)), (1, .ref (ad pg)), (2, .int inp)]) hx hb (dkP dF_62 DX11_unlikeBits (i := 42) rfl rfl) rfl hl (by decide) rfl (fun ls hl => ?_)
            refine lv_iinc (v := nI (q4_46 + 1)) (lv' := [(4, .int (nI (q4_46 + 1))), (3, .int v11), (0, .ref (ad 0)), (1, .ref (ad pg)), (2, .int inp)]) hx hb (dkI DX11_unlikeBits (i := 43) rfl rfl rfl rfl) hl (k := 1) rfl (nI_1 _) (by decide) rfl (fun ls hl => ?_)
            refine lv_goto (tgt := 46) hx hb (dkS dF_167 DX11_unlikeBits (i := 44) rfl rfl rfl) (by decide) ?_
            exact ih6 (q4_46 + 1) v11 _ _ _ (by omega) (by (try simp only [lg_cmp_lt, lg_cmp_le, lg_cmp_gt, lg_cmp_ge, lg_cmp_eq] at f1_0); (try simp (disch := omega) only [ta_lt, ta_le, ta_eq, tb_lt, tb_le, tb_eq, tw, tnI, tsub1, tsv, tsb32, tn32 1 (by decide), tnj 1 (by decide), tl32 0 (by decide), tl64 0 (by decide), tl32 1 (by decide), tl64 1 (by decide), tl32 8 (by decide), tl64 8 (by decide), tl32 256 (by decide), tl64 256 (by decide)] at f1_0); (try simp only [lg_cmp_lt, lg_cmp_le, lg_cmp_gt, lg_cmp_ge, lg_cmp_eq] at c5); (try simp (disch := omega) only [ta_lt, ta_le, ta_eq, tb_lt, tb_le, tb_eq, tw, tnI, tsub1, tsv, tsb32, tn32 1 (by decide), tnj 1 (by decide), tl32 0 (by decide), tl64 0 (by decide), tl32 1 (by decide), tl64 1 (by decide), tl32 8 (by decide), tl64 8 (by decide), tl32 256 (by decide), tl64 256 (by decide)] at c5); (try simp only [lg_cmp_lt, lg_cmp_le, lg_cmp_gt, lg_cmp_ge, lg_cmp_eq] at c7); (try simp (disch := omega) only [ta_lt, ta_le, ta_eq, tb_lt, tb_le, tb_eq, tw, tnI, tsub1, tsv, tsb32, tn32 1 (by decide), tnj 1 (by decide), tl32 0 (by decide), tl64 0 (by decide), tl32 1 (by decide), tl64 1 (by decide), tl32 8 (by decide), tl64 8 (by decide), tl32 256 (by decide), tl64 256 (by decide)] at c7); (try simp only [lg_cmp_lt, lg_cmp_le, lg_cmp_gt, lg_cmp_ge, lg_cmp_eq] at c10); (try simp (disch := omega) only [ta_lt, ta_le, ta_eq, tb_lt, tb_le, tb_eq, tw, tnI, tsub1, tsv, tsb32, tn32 1 (by decide), tnj 1 (by decide), tl32 0 (by decide), tl64 0 (by decide), tl32 1 (by decide), tl64 1 (by decide), tl32 8 (by decide), tl64 8 (by decide), tl32 256 (by decide), tl64 256 (by decide)] at c10); (try simp (disch := omega) only [ta_lt, ta_le, ta_eq, tb_lt, tb_le, tb_eq, tw, tnI, tsub1, tsv, tsb32, tn32 1 (by decide), tnj 1 (by decide), tl32 0 (by decide), tl64 0 (by decide), tl32 1 (by decide), tl64 1 (by decide), tl32 8 (by decide), tl64 8 (by decide), tl32 256 (by decide), tl64 256 (by decide)]); omega) hw (lv_sub hl [0, 1, 2, 3, 4] rfl)
    exact lp6 _ 0 256 _ _ _ (Nat.lt_succ_self _) (by (try simp only [lg_cmp_lt, lg_cmp_le, lg_cmp_gt, lg_cmp_ge, lg_cmp_eq] at f1_0); (try simp (disch := omega) only [ta_lt, ta_le, ta_eq, tb_lt, tb_le, tb_eq, tw, tnI, tsub1, tsv, tsb32, tn32 1 (by decide), tnj 1 (by decide), tl32 0 (by decide), tl64 0 (by decide), tl32 1 (by decide), tl64 1 (by decide), tl32 8 (by decide), tl64 8 (by decide), tl32 256 (by decide), tl64 256 (by decide)] at f1_0); (try simp only [lg_cmp_lt, lg_cmp_le, lg_cmp_gt, lg_cmp_ge, lg_cmp_eq] at c5); (try simp (disch := omega) only [ta_lt, ta_le, ta_eq, tb_lt, tb_le, tb_eq, tw, tnI, tsub1, tsv, tsb32, tn32 1 (by decide), tnj 1 (by decide), tl32 0 (by decide), tl64 0 (by decide), tl32 1 (by decide), tl64 1 (by decide), tl32 8 (by decide), tl64 8 (by decide), tl32 256 (by decide), tl64 256 (by decide)] at c5); (try simp (disch := omega) only [ta_lt, ta_le, ta_eq, tb_lt, tb_le, tb_eq, tw, tnI, tsub1, tsv, tsb32, tn32 1 (by decide), tnj 1 (by decide), tl32 0 (by decide), tl64 0 (by decide), tl32 1 (by decide), tl64 1 (by decide), tl32 8 (by decide), tl64 8 (by decide), tl32 256 (by decide), tl64 256 (by decide)]); omega) hw (lv_sub hl [0, 1, 2, 3, 4] rfl)
  · (try simp (disch := omega) only [ta_lt, ta_le, ta_eq, tnI] at c5)
    refine lv_iconst (v := 0) hx hb (dkP dF_3 DX11_unlikeBits (i := 17) rfl rfl) (by decide) ?_
    refine lv_goto (tgt := 42) hx hb (dkS dF_167 DX11_unlikeBits (i := 18) rfl rfl rfl) (by decide) ?_
    refine lv_istore_n (lv' := [(3, .int 0), (0, .ref (ad 0)), (1, .ref (ad pg)), (2, .int inp)]) hx hb (dkP dF_62 DX11_unlikeBits (i := 20) rfl rfl) rfl hl (by decide) rfl (fun ls hl => ?_)
    refine lv_iconst (v := 0) hx hb (dkP dF_3 DX11_unlikeBits (i := 21) rfl rfl) (by decide) ?_
    refine lv_istore (lv' := [(4, .int 0), (3, .int 0), (0, .ref (ad 0)), (1, .ref (ad pg)), (2, .int inp)]) hx hb (dk1 dF_54 DX11_unlikeBits (i := 22) rfl rfl rfl) hl (by decide) rfl (fun ls hl => ?_)
    have lp12 : ∀ (nq : Nat) (q4_46 : Nat) (q3_46 : Int32) (H : Heap) (locs : List Loc) (ls : Array Slot), 8 - q4_46 < nq → (q4_46 ≤ 8) → St G kc A s.heap shC ad s2 H locs → lv_has ls 5 [(4, .int (nI q4_46)), (3, .int q3_46), (0, .ref (ad 0)), (1, .ref (ad pg)), (2, .int inp)] → W pr l e { frames := 4, cells := 0, slots := 0, locals := 98 } s m ([.ref (ad 0), .ref (ad pg), .int inp] : List Value).toArray below meth c H locs 0 0 (MQ below (va_Qi (fun r σ1 => TC σ1 ∧ frC (fun x y => (x = 210 ∧ y = 4) ∨ (x = 210 ∧ y = 5) ∨ (x = 210 ∧ y = 6) ∨ (x = 210 ∧ y = 8) ∨ (x = 211) ∨ (x = 213) ∨ (x = 214) ∨ (x = 215 ∧ y = 4) ∨ (x = 215 ∧ y = 5) ∨ (x = 215 ∧ y = 6) ∨ (x = 215 ∧ y = 7) ∨ (x = 215 ∧ y = 8) ∨ (x = 216) ∨ (x = 217) ∨ (x = 218) ∨ (x = 219)) σ σ1) (PoC G kc shC ad A) A) ([.ref (ad 0), .ref (ad pg), .int inp] : List Value).toArray s 0 0 A) (F0 m 46 ls []) := by
      intro nq
      induction nq with
      | zero => intro q4_46 q3_46 H locs ls hmu; exact absurd hmu (Nat.not_lt_zero _)
      | succ nq ih12 =>
        intro q4_46 q3_46 H locs ls hmu hq4_46 hw hl
        refine lv_iload hx hb (dk1 dF_21 DX11_unlikeBits (i := 23) rfl rfl rfl) (lv_at hl 0 rfl) ?_
        refine lv_bipush (v := 8) hx hb (dks dF_16 DX11_unlikeBits (i := 24) rfl rfl rfl) (by decide) ?_
        refine lv_icmp_ge (tgt := 89) hx hb (dkS dF_162 DX11_unlikeBits (i := 25) rfl rfl rfl) (by decide) (fun c13 => ?_) (fun c13 => ?_)
        · simp (disch := omega) only [ta_lt, ta_le, ta_eq, tnI, tl32 8 (by decide)] at c13
          refine lv_iload_n hx hb (dkP dF_29 DX11_unlikeBits (i := 45) rfl rfl) rfl (lv_at hl 1 rfl) ?_
          exact z_iret C0 hr hlk hw (⟨hT2, hF2⟩) (dkP dF_172 DX11_unlikeBits (i := 46) rfl rfl)
        · simp (disch := omega) only [ta_lt, ta_le, ta_eq, tnI, tl32 8 (by decide)] at c13
          refine lv_aload_n hx hb (dkP dF_42 DX11_unlikeBits (i := 26) rfl rfl) rfl (lv_at hl 2 rfl) ?_
          refine z_gr C0 hw 0 4 210 (fk_of shc_0 rfl) fl_X11_34 (dk2 dF_180 DX11_unlikeBits (i := 27) rfl rfl rfl) ?_
          refine z_gr C0 hw 210 0 211 (fk_of shc_210 rfl) fl_X11_364 (dk2 dF_180 DX11_unlikeBits (i := 28) rfl rfl rfl) ?_
          refine lv_iload hx hb (dk1 dF_21 DX11_unlikeBits (i := 29) rfl rfl rfl) (lv_at hl 0 rfl) ?_
          refine z_ialdN (n := 8) C0 hw 211 q4_46 (ak_of shc_211) (by omega) (by decide) (dkP dF_46 DX11_unlikeBits (i := 30) rfl rfl) ?_
          obtain ⟨v14, ev14⟩ : ∃ y : Int32, s2.1 211 q4_46 = y := ⟨_, rfl⟩
          refine z_top (y := v14) ev14 ?_
          refine lv_aload_n hx hb (dkP dF_42 DX11_unlikeBits (i := 31) rfl rfl) rfl (lv_at hl 2 rfl) ?_
          refine z_gr C0 hw 0 5 215 (fk_of shc_0 rfl) fl_X11_38 (dk2 dF_180 DX11_unlikeBits (i := 32) rfl rfl rfl) ?_
          refine z_gr C0 hw 215 0 216 (fk_of shc_215 rfl) fl_X11_364 (dk2 dF_180 DX11_unlikeBits (i := 33) rfl rfl rfl) ?_
          refine lv_iload hx hb (dk1 dF_21 DX11_unlikeBits (i := 34) rfl rfl rfl) (lv_at hl 0 rfl) ?_
          refine z_ialdN (n := 8) C0 hw 216 q4_46 (ak_of shc_216) (by omega) (by decide) (dkP dF_46 DX11_unlikeBits (i := 35) rfl rfl) ?_
          obtain ⟨v15, ev15⟩ : ∃ y : Int32, s2.1 216 q4_46 = y := ⟨_, rfl⟩
          refine z_top (y := v15) ev15 ?_
          refine lv_icmp_eq (tgt := 83) hx hb (dkS dF_159 DX11_unlikeBits (i := 36) rfl rfl rfl) (by decide) (fun c16 => ?_) (fun c16 => ?_)
          · (try simp (disch := omega) only [ta_lt, ta_le, ta_eq, tnI] at c16)
            refine lv_iinc (v := nI (q4_46 + 1)) (lv' := [(4, .int (nI (q4_46 + 1))), (3, .int q3_46), (0, .ref (ad 0)), (1, .ref (ad pg)), (2, .int inp)]) hx hb (dkI DX11_unlikeBits (i := 43) rfl rfl rfl rfl) hl (k := 0) rfl (nI_1 _) (by decide) rfl (fun ls hl => ?_)
            refine lv_goto (tgt := 46) hx hb (dkS dF_167 DX11_unlikeBits (i := 44) rfl rfl rfl) (by decide) ?_
            exact ih12 (q4_46 + 1) q3_46 _ _ _ (by omega) (by (try simp only [lg_cmp_lt, lg_cmp_le, lg_cmp_gt, lg_cmp_ge, lg_cmp_eq] at f1_0); (try simp (disch := omega) only [ta_lt, ta_le, ta_eq, tb_lt, tb_le, tb_eq, tw, tnI, tsub1, tsv, tsb32, tn32 1 (by decide), tnj 1 (by decide), tl32 0 (by decide), tl64 0 (by decide), tl32 1 (by decide), tl64 1 (by decide), tl32 8 (by decide), tl64 8 (by decide), tl32 256 (by decide), tl64 256 (by decide)] at f1_0); (try simp only [lg_cmp_lt, lg_cmp_le, lg_cmp_gt, lg_cmp_ge, lg_cmp_eq] at c5); (try simp (disch := omega) only [ta_lt, ta_le, ta_eq, tb_lt, tb_le, tb_eq, tw, tnI, tsub1, tsv, tsb32, tn32 1 (by decide), tnj 1 (by decide), tl32 0 (by decide), tl64 0 (by decide), tl32 1 (by decide), tl64 1 (by decide), tl32 8 (by decide), tl64 8 (by decide), tl32 256 (by decide), tl64 256 (by decide)] at c5); (try simp only [lg_cmp_lt, lg_cmp_le, lg_cmp_gt, lg_cmp_ge, lg_cmp_eq] at c13); (try simp (disch := omega) only [ta_lt, ta_le, ta_eq, tb_lt, tb_le, tb_eq, tw, tnI, tsub1, tsv, tsb32, tn32 1 (by decide), tnj 1 (by decide), tl32 0 (by decide), tl64 0 (by decide), tl32 1 (by decide), tl64 1 (by decide), tl32 8 (by decide), tl64 8 (by decide), tl32 256 (by decide), tl64 256 (by decide)] at c13); (try simp only [lg_cmp_lt, lg_cmp_le, lg_cmp_gt, lg_cmp_ge, lg_cmp_eq] at c16); (try simp (disch := omega) only [ta_lt, ta_le, ta_eq, tb_lt, tb_le, tb_eq, tw, tnI, tsub1, tsv, tsb32, tn32 1 (by decide), tnj 1 (by decide), tl32 0 (by decide), tl64 0 (by decide), tl32 1 (by decide), tl64 1 (by decide), tl32 8 (by decide), tl64 8 (by decide), tl32 256 (by decide), tl64 256 (by decide)] at c16); (try simp (disch := omega) only [ta_lt, ta_le, ta_eq, tb_lt, tb_le, tb_eq, tw, tnI, tsub1, tsv, tsb32, tn32 1 (by decide), tnj 1 (by decide), tl32 0 (by decide), tl64 0 (by decide), tl32 1 (by decide), tl64 1 (by decide), tl32 8 (by decide), tl64 8 (by decide), tl32 256 (by decide), tl64 256 (by decide)]); omega) hw (lv_sub hl [0, 1, 2, 3, 4] rfl)
          · (try simp (disch := omega) only [ta_lt, ta_le, ta_eq, tnI] at c16)
            refine lv_iload_n hx hb (dkP dF_29 DX11_unlikeBits (i := 37) rfl rfl) rfl (lv_at hl 1 rfl) ?_
            refine lv_iconst (v := 1) hx hb (dkP dF_4 DX11_unlikeBits (i := 38) rfl rfl) (by decide) ?_
            refine lv_iload hx hb (dk1 dF_21 DX11_unlikeBits (i := 39) rfl rfl rfl) (lv_at hl 0 rfl) ?_
            refine lv_ishl hx hb (dkP dF_120 DX11_unlikeBits (i := 40) rfl rfl) ?_
            refine lv_ior hx hb (dkP dF_128 DX11_unlikeBits (i := 41) rfl rfl) ?_
            refine lv_topi (fun v17 ev17 => ?_)
            refine lv_istore_n (lv' := [(3, .int v17), (4, .int (nI q4_46)), (0, .ref (ad 0)), (1, .ref (ad pg)), (2, .int inp)]) hx hb (dkP dF_62 DX11_unlikeBits (i := 42) rfl rfl) rfl hl (by decide) rfl (fun ls hl => ?_)
            refine lv_iinc (v := nI (q4_46 + 1)) (lv' := [(4, .int (nI (q4_46 + 1))), (3, .int v17), (0, .ref (ad 0)), (1, .ref (ad pg)), (2, .int inp)]) hx hb (dkI DX11_unlikeBits (i := 43) rfl rfl rfl rfl) hl (k := 1) rfl (nI_1 _) (by decide) rfl (fun ls hl => ?_)
            refine lv_goto (tgt := 46) hx hb (dkS dF_167 DX11_unlikeBits (i := 44) rfl rfl rfl) (by decide) ?_
            exact ih12 (q4_46 + 1) v17 _ _ _ (by omega) (by (try simp only [lg_cmp_lt, lg_cmp_le, lg_cmp_gt, lg_cmp_ge, lg_cmp_eq] at f1_0); (try simp (disch := omega) only [ta_lt, ta_le, ta_eq, tb_lt, tb_le, tb_eq, tw, tnI, tsub1, tsv, tsb32, tn32 1 (by decide), tnj 1 (by decide), tl32 0 (by decide), tl64 0 (by decide), tl32 1 (by decide), tl64 1 (by decide), tl32 8 (by decide), tl64 8 (by decide), tl32 256 (by decide), tl64 256 (by decide)] at f1_0); (try simp only [lg_cmp_lt, lg_cmp_le, lg_cmp_gt, lg_cmp_ge, lg_cmp_eq] at c5); (try simp (disch := omega) only [ta_lt, ta_le, ta_eq, tb_lt, tb_le, tb_eq, tw, tnI, tsub1, tsv, tsb32, tn32 1 (by decide), tnj 1 (by decide), tl32 0 (by decide), tl64 0 (by decide), tl32 1 (by decide), tl64 1 (by decide), tl32 8 (by decide), tl64 8 (by decide), tl32 256 (by decide), tl64 256 (by decide)] at c5); (try simp only [lg_cmp_lt, lg_cmp_le, lg_cmp_gt, lg_cmp_ge, lg_cmp_eq] at c13); (try simp (disch := omega) only [ta_lt, ta_le, ta_eq, tb_lt, tb_le, tb_eq, tw, tnI, tsub1, tsv, tsb32, tn32 1 (by decide), tnj 1 (by decide), tl32 0 (by decide), tl64 0 (by decide), tl32 1 (by decide), tl64 1 (by decide), tl32 8 (by decide), tl64 8 (by decide), tl32 256 (by decide), tl64 256 (by decide)] at c13); (try simp only [lg_cmp_lt, lg_cmp_le, lg_cmp_gt, lg_cmp_ge, lg_cmp_eq] at c16); (try simp (disch := omega) only [ta_lt, ta_le, ta_eq, tb_lt, tb_le, tb_eq, tw, tnI, tsub1, tsv, tsb32, tn32 1 (by decide), tnj 1 (by decide), tl32 0 (by decide), tl64 0 (by decide), tl32 1 (by decide), tl64 1 (by decide), tl32 8 (by decide), tl64 8 (by decide), tl32 256 (by decide), tl64 256 (by decide)] at c16); (try simp (disch := omega) only [ta_lt, ta_le, ta_eq, tb_lt, tb_le, tb_eq, tw, tnI, tsub1, tsv, tsb32, tn32 1 (by decide), tnj 1 (by decide), tl32 0 (by decide), tl64 0 (by decide), tl32 1 (by decide), tl64 1 (by decide), tl32 8 (by decide), tl64 8 (by decide), tl32 256 (by decide), tl64 256 (by decide)]); omega) hw (lv_sub hl [0, 1, 2, 3, 4] rfl)
    exact lp12 _ 0 0 _ _ _ (Nat.lt_succ_self _) (by (try simp only [lg_cmp_lt, lg_cmp_le, lg_cmp_gt, lg_cmp_ge, lg_cmp_eq] at f1_0); (try simp (disch := omega) only [ta_lt, ta_le, ta_eq, tb_lt, tb_le, tb_eq, tw, tnI, tsub1, tsv, tsb32, tn32 1 (by decide), tnj 1 (by decide), tl32 0 (by decide), tl64 0 (by decide), tl32 1 (by decide), tl64 1 (by decide), tl32 8 (by decide), tl64 8 (by decide), tl32 256 (by decide), tl64 256 (by decide)] at f1_0); (try simp only [lg_cmp_lt, lg_cmp_le, lg_cmp_gt, lg_cmp_ge, lg_cmp_eq] at c5); (try simp (disch := omega) only [ta_lt, ta_le, ta_eq, tb_lt, tb_le, tb_eq, tw, tnI, tsub1, tsv, tsb32, tn32 1 (by decide), tnj 1 (by decide), tl32 0 (by decide), tl64 0 (by decide), tl32 1 (by decide), tl64 1 (by decide), tl32 8 (by decide), tl64 8 (by decide), tl32 256 (by decide), tl64 256 (by decide)] at c5); (try simp (disch := omega) only [ta_lt, ta_le, ta_eq, tb_lt, tb_le, tb_eq, tw, tnI, tsub1, tsv, tsb32, tn32 1 (by decide), tnj 1 (by decide), tl32 0 (by decide), tl64 0 (by decide), tl32 1 (by decide), tl64 1 (by decide), tl32 8 (by decide), tl64 8 (by decide), tl32 256 (by decide), tl64 256 (by decide)]); omega) hw (lv_sub hl [0, 1, 2, 3, 4] rfl)
set_option maxRecDepth 20000 in
theorem shc_213 : shC[213]? = some (2, 100, []) := by rfl
theorem tcl_213 : tcL.getD 213 0 = 9 := by decide +kernel
set_option maxRecDepth 100000 in
set_option maxHeartbeats 8000000 in
theorem c_X11_heapsInput (l : Launch) (G : va_G) (kc : KC) (ad : Nat → Nat) (σ : Sg) (program : Int32) (pg : Nat) (inp : Int32) {t1 u1 : Nat} (hpg : pg ∈ pgL) (hto1 : σ.2.2 pg 2 = some t1) (ht1 : t1 ∈ otL) (hun1 : σ.2.2 pg 3 = some u1) (hu1 : u1 ∈ ntL) (hVP : VP σ pg t1 u1) (hT : TC σ) : MI l G kc yX11_heapsInput cX11_heapsInput 7 (some .boolean) 5 122 [.ref (ad 0), .int program, .ref (ad pg), .int inp] shC ad σ (fun r σ1 => ((r = 1 ∧ (True)) ∨ (r = 0 ∧ (True))) ∧ TC σ1 ∧ frC (fun x y => (x = 1 ∧ y = 4) ∨ (x = 210 ∧ y = 4) ∨ (x = 210 ∧ y = 5) ∨ (x = 210 ∧ y = 6) ∨ (x = 210 ∧ y = 8) ∨ (x = 211) ∨ (x = 213) ∨ (x = 214) ∨ (x = 215 ∧ y = 4) ∨ (x = 215 ∧ y = 5) ∨ (x = 215 ∧ y = 6) ∨ (x = 215 ∧ y = 7) ∨ (x = 215 ∧ y = 8) ∨ (x = 216) ∨ (x = 217) ∨ (x = 218) ∨ (x = 219) ∨ (x = 5)) σ σ1) := by
  intro sz
  refine z_body (y := yX11_heapsInput) (n := 7) (av := [.ref (ad 0), .int program, .ref (ad pg), .int inp]) (Qc := fun A => va_Qi (fun r σ1 => ((r = 1 ∧ (True)) ∨ (r = 0 ∧ (True))) ∧ TC σ1 ∧ frC (fun x y => (x = 1 ∧ y = 4) ∨ (x = 210 ∧ y = 4) ∨ (x = 210 ∧ y = 5) ∨ (x = 210 ∧ y = 6) ∨ (x = 210 ∧ y = 8) ∨ (x = 211) ∨ (x = 213) ∨ (x = 214) ∨ (x = 215 ∧ y = 4) ∨ (x = 215 ∧ y = 5) ∨ (x = 215 ∧ y = 6) ∨ (x = 215 ∧ y = 7) ∨ (x = 215 ∧ y = 8) ∨ (x = 216) ∨ (x = 217) ∨ (x = 218) ∨ (x = 219) ∨ (x = 5)) σ σ1) (PoC G kc shC ad A) A) (plainFor_of_name (by decide)) (Nat.le_of_ble_eq_true rfl) (fun pr e s m below meth c A C0 hr hlk hnm hw hRo ls hl => ?_) sz
  have hx := C0.1
  have hb := C0.2.1
  have hown := C0.2.2.2.1
  have hts := C0.2.2.2.2.1
  have hl : lv_has ls 7 [(0, .ref (ad 0)), (1, .int program), (2, .ref (ad pg)), (3, .int inp)] := hl
  obtain ⟨hLH, ⟨zo, uo, hzo, hzo24, hVo⟩, zn, un, K_, hzn, hzn40, hVn⟩ := id hVP
  refine lv_aload_n hx hb (dkP dF_42 DX11_heapsInput (i := 0) rfl rfl) rfl (lv_at hl 0 rfl) ?_
  refine lv_aload_n hx hb (dkP dF_44 DX11_heapsInput (i := 1) rfl rfl) rfl (lv_at hl 2 rfl) ?_
  refine lv_iload_n hx hb (dkP dF_29 DX11_heapsInput (i := 2) rfl rfl) rfl (lv_at hl 3 rfl) ?_
  refine zk_I hw (zr_V (As := [.ref (ad pg), .int inp]) (rest := []) C0 (c_X11_unlikeBits l G kc ad σ pg inp hpg hto1 ht1 hun1 hu1 hVP hT _) cv_X11_unlikeBits lk_X11_224 (zp_V C0 hRo hw 0 shc_0 rfl rfl) rfl hl.1 rfl ⟨by decide, by decide⟩ (Nat.le_of_ble_eq_true rfl) (dk2 dF_182 DX11_heapsInput (i := 3) rfl rfl rfl) ⟨Nat.le_refl _, Nat.le_refl _⟩) (fun r1 s1 H locs hp hw => ?_)
  obtain ⟨hT1, hG1⟩ := hp
  have hF1 : frC (fun x y => (x = 1 ∧ y = 4) ∨ (x = 210 ∧ y = 4) ∨ (x = 210 ∧ y = 5) ∨ (x = 210 ∧ y = 6) ∨ (x = 210 ∧ y = 8) ∨ (x = 211) ∨ (x = 213) ∨ (x = 214) ∨ (x = 215 ∧ y = 4) ∨ (x = 215 ∧ y = 5) ∨ (x = 215 ∧ y = 6) ∨ (x = 215 ∧ y = 7) ∨ (x = 215 ∧ y = 8) ∨ (x = 216) ∨ (x = 217) ∨ (x = 218) ∨ (x = 219) ∨ (x = 5)) σ s1 := frC.t frC.refl hG1 (fun x y h => by have h : (x = 210 ∧ y = 4) ∨ (x = 210 ∧ y = 5) ∨ (x = 210 ∧ y = 6) ∨ (x = 210 ∧ y = 8) ∨ (x = 211) ∨ (x = 213) ∨ (x = 214) ∨ (x = 215 ∧ y = 4) ∨ (x = 215 ∧ y = 5) ∨ (x = 215 ∧ y = 6) ∨ (x = 215 ∧ y = 7) ∨ (x = 215 ∧ y = 8) ∨ (x = 216) ∨ (x = 217) ∨ (x = 218) ∨ (x = 219) := h; show (x = 1 ∧ y = 4) ∨ (x = 210 ∧ y = 4) ∨ (x = 210 ∧ y = 5) ∨ (x = 210 ∧ y = 6) ∨ (x = 210 ∧ y = 8) ∨ (x = 211) ∨ (x = 213) ∨ (x = 214) ∨ (x = 215 ∧ y = 4) ∨ (x = 215 ∧ y = 5) ∨ (x = 215 ∧ y = 6) ∨ (x = 215 ∧ y = 7) ∨ (x = 215 ∧ y = 8) ∨ (x = 216) ∨ (x = 217) ∨ (x = 218) ∨ (x = 219) ∨ (x = 5); rcases h with h | h | h | h | h | h | h | h | h | h | h | h | h | h | h | h; (· exact Or.inr (Or.inl h)); (· exact Or.inr (Or.inr (Or.inl h))); (· exact Or.inr (Or.inr (Or.inr (Or.inl h)))); (· exact Or.inr (Or.inr (Or.inr (Or.inr (Or.inl h))))); (· exact Or.inr (Or.inr (Or.inr (Or.inr (Or.inr (Or.inl h)))))); (· exact Or.inr (Or.inr (Or.inr (Or.inr (Or.inr (Or.inr (Or.inl h))))))); (· exact Or.inr (Or.inr (Or.inr (Or.inr (Or.inr (Or.inr (Or.inr (Or.inl h)))))))); (· exact Or.inr (Or.inr (Or.inr (Or.inr (Or.inr (Or.inr (Or.inr (Or.inr (Or.inl h))))))))); (· exact Or.inr (Or.inr (Or.inr (Or.inr (Or.inr (Or.inr (Or.inr (Or.inr (Or.inr (Or.inl h)))))))))); (· exact Or.inr (Or.inr (Or.inr (Or.inr (Or.inr (Or.inr (Or.inr (Or.inr (Or.inr (Or.inr (Or.inl h))))))))))); (· exact Or.inr (Or.inr (Or.inr (Or.inr (Or.inr (Or.inr (Or.inr (Or.inr (Or.inr (Or.inr (Or.inr (Or.inl h)))))))))))); (· exact Or.inr (Or.inr (Or.inr (Or.inr (Or.inr (Or.inr (Or.inr (Or.inr (Or.inr (Or.inr (Or.inr (Or.inr (Or.inl h))))))))))))); (· exact Or.inr (Or.inr (Or.inr (Or.inr (Or.inr (Or.inr (Or.inr (Or.inr (Or.inr (Or.inr (Or.inr (Or.inr (Or.inr (Or.inl h)))))))))))))); (· exact Or.inr (Or.inr (Or.inr (Or.inr (Or.inr (Or.inr (Or.inr (Or.inr (Or.inr (Or.inr (Or.inr (Or.inr (Or.inr (Or.inr (Or.inl h))))))))))))))); (· exact Or.inr (Or.inr (Or.inr (Or.inr (Or.inr (Or.inr (Or.inr (Or.inr (Or.inr (Or.inr (Or.inr (Or.inr (Or.inr (Or.inr (Or.inr (Or.inl h)))))))))))))))); (· exact Or.inr (Or.inr (Or.inr (Or.inr (Or.inr (Or.inr (Or.inr (Or.inr (Or.inr (Or.inr (Or.inr (Or.inr (Or.inr (Or.inr (Or.inr (Or.inr (Or.inl h))))))))))))))))))
  refine lv_istore (lv' := [(4, .int r1), (0, .ref (ad 0)), (1, .int program), (2, .ref (ad pg)), (3, .int inp)]) hx hb (dk1 dF_54 DX11_heapsInput (i := 4) rfl rfl rfl) hl (by decide) rfl (fun ls hl => ?_)
  refine lv_iload hx hb (dk1 dF_21 DX11_heapsInput (i := 5) rfl rfl rfl) (lv_at hl 0 rfl) ?_
  refine lv_if_ne (tgt := 15) hx hb (dkS dF_154 DX11_heapsInput (i := 6) rfl rfl rfl) (by decide) (fun c2 => ?_) (fun c2 => ?_)
  · (try simp (disch := omega) only [ta_lt, ta_le, ta_eq, tnI, tl32 0 (by decide)] at c2)
    refine lv_aload_n hx hb (dkP dF_42 DX11_heapsInput (i := 9) rfl rfl) rfl (lv_at hl 1 rfl) ?_
    refine z_gr C0 hw 0 4 210 (fk_of shc_0 rfl) fl_X11_34 (dk2 dF_180 DX11_heapsInput (i := 10) rfl rfl rfl) ?_
    refine z_gi C0 hw 210 5 (fk_of shc_210 rfl) fl_X11_157 (dk2 dF_180 DX11_heapsInput (i := 11) rfl rfl rfl) ?_
    obtain ⟨n3, hn3, en3⟩ := rngN (x := s1.1 210 5) (h := 100) (tcr_8_5 hT1 tcl_210)
    refine z_top (y := nI n3) en3 ?_
    refine lv_if_ne (tgt := 29) hx hb (dkS dF_154 DX11_heapsInput (i := 12) rfl rfl rfl) (by decide) (fun c4 => ?_) (fun c4 => ?_)
    · simp (disch := omega) only [ta_lt, ta_le, ta_eq, tnI, tl32 0 (by decide)] at c4
      refine lv_aload_n hx hb (dkP dF_44 DX11_heapsInput (i := 15) rfl rfl) rfl (lv_at hl 3 rfl) ?_
      refine z_gms C0 hw pg 2 t1 ((congrFun (congrFun hG1.2 _) _).trans hto1) (fk_of (shl_pg_0 pg hpg) rfl) fl_X11_97 (dk2 dF_180 DX11_heapsInput (i := 16) rfl rfl rfl) ?_
      refine z_gr C0 hw t1 2 (t1 + 1) (fk_of (shl_ot_0 t1 ht1) rfl) fl_X11_373 (dk2 dF_180 DX11_heapsInput (i := 17) rfl rfl rfl) ?_
      refine lv_aload_n hx hb (dkP dF_42 DX11_heapsInput (i := 18) rfl rfl) rfl (lv_at hl 1 rfl) ?_
      refine z_gr C0 hw 0 4 210 (fk_of shc_0 rfl) fl_X11_34 (dk2 dF_180 DX11_heapsInput (i := 19) rfl rfl rfl) ?_
      refine z_gr C0 hw 210 2 213 (fk_of shc_210 rfl) fl_X11_376 (dk2 dF_180 DX11_heapsInput (i := 20) rfl rfl rfl) ?_
      refine lv_aload_n hx hb (dkP dF_42 DX11_heapsInput (i := 21) rfl rfl) rfl (lv_at hl 1 rfl) ?_
      refine z_gr C0 hw 0 4 210 (fk_of shc_0 rfl) fl_X11_34 (dk2 dF_180 DX11_heapsInput (i := 22) rfl rfl rfl) ?_
      refine z_gi C0 hw 210 5 (fk_of shc_210 rfl) fl_X11_157 (dk2 dF_180 DX11_heapsInput (i := 23) rfl rfl rfl) ?_
      refine z_top (y := (nI n3)) en3 ?_
      refine lv_iconst (v := 1) hx hb (dkP dF_4 DX11_heapsInput (i := 24) rfl rfl) (by decide) ?_
      refine lv_isub hx hb (dkP dF_100 DX11_heapsInput (i := 25) rfl rfl) ?_
      refine z_top (y := nI (n3 - 1)) (by simp only [fa_lit]; exact nI_sub (by omega)) ?_
      refine z_baldN (n := 100) C0 hw 213 (n3 - 1) (ak_of shc_213) (by omega) (by decide) (dkP dF_51 DX11_heapsInput (i := 26) rfl rfl) ?_
      obtain ⟨n5, hn5, en5⟩ := rngN (x := s1.1 213 (n3 - 1)) (h := 23) (tcr_9 hT1 tcl_213)
      refine z_top (y := nI n5) en5 ?_
      refine z_ialdN (n := 24) C0 hw (t1 + 1) n5 (ak_of (shl_ot_1 t1 ht1)) (by omega) (by decide) (dkP dF_46 DX11_heapsInput (i := 27) rfl rfl) ?_
      obtain ⟨v6, ev6⟩ : ∃ y : Int32, s1.1 (t1 + 1) n5 = y := ⟨_, rfl⟩
      refine z_top (y := v6) ev6 ?_
      refine lv_istore (lv' := [(5, .int v6), (4, .int r1), (0, .ref (ad 0)), (1, .int program), (2, .ref (ad pg)), (3, .int inp)]) hx hb (dk1 dF_54 DX11_heapsInput (i := 28) rfl rfl rfl) hl (by decide) rfl (fun ls hl => ?_)
      refine lv_aload_n hx hb (dkP dF_42 DX11_heapsInput (i := 29) rfl rfl) rfl (lv_at hl 2 rfl) ?_
      refine z_gr C0 hw 0 0 1 (fk_of shc_0 rfl) fl_X11_10 (dk2 dF_180 DX11_heapsInput (i := 30) rfl rfl rfl) ?_
      refine lv_iload_n hx hb (dkP dF_27 DX11_heapsInput (i := 31) rfl rfl) rfl (lv_at hl 3 rfl) ?_
      refine lv_iload hx hb (dk1 dF_21 DX11_heapsInput (i := 32) rfl rfl rfl) (lv_at hl 0 rfl) ?_
      refine lv_aload_n hx hb (dkP dF_42 DX11_heapsInput (i := 33) rfl rfl) rfl (lv_at hl 2 rfl) ?_
      refine z_gr C0 hw 0 5 215 (fk_of shc_0 rfl) fl_X11_38 (dk2 dF_180 DX11_heapsInput (i := 34) rfl rfl rfl) ?_
      refine z_gi C0 hw 215 7 (fk_of shc_215 rfl) fl_X11_171 (dk2 dF_180 DX11_heapsInput (i := 35) rfl rfl rfl) ?_
      obtain ⟨v7, ev7⟩ : ∃ y : Int32, s1.1 215 7 = y := ⟨_, rfl⟩
      have hv7 : -1 ≤ v7.toInt ∧ v7.toInt ≤ 39 := by rw [← ev7]; exact (tcr_8_7 hT1 tcl_215)
      refine z_top (y := v7) ev7 ?_
      refine lv_iload hx hb (dk1 dF_21 DX11_heapsInput (i := 36) rfl rfl rfl) (lv_at hl 1 rfl) ?_
      refine zk_I hw (zr_V (As := [.int program, .int v6, .int v7, .int r1]) (rest := []) C0 (c_X10_heapFor l G kc ad s1 program v6 v7 r1 hT1 _) cv_X10_heapFor lk_X11_380 (zp_V C0 hRo hw 1 shc_1 rfl rfl) rfl hl.1 rfl ⟨by decide, by decide⟩ (Nat.le_of_ble_eq_true rfl) (dk2 dF_182 DX11_heapsInput (i := 37) rfl rfl rfl) ⟨Nat.le_refl _, Nat.le_refl _⟩) (fun r8 s8 H locs hp hw => ?_)
      obtain ⟨f8_0, hT8, hG8⟩ := hp
      have hF8 : frC (fun x y => (x = 1 ∧ y = 4) ∨ (x = 210 ∧ y = 4) ∨ (x = 210 ∧ y = 5) ∨ (x = 210 ∧ y = 6) ∨ (x = 210 ∧ y = 8) ∨ (x = 211) ∨ (x = 213) ∨ (x = 214) ∨ (x = 215 ∧ y = 4) ∨ (x = 215 ∧ y = 5) ∨ (x = 215 ∧ y = 6) ∨ (x = 215 ∧ y = 7) ∨ (x = 215 ∧ y = 8) ∨ (x = 216) ∨ (x = 217) ∨ (x = 218) ∨ (x = 219) ∨ (x = 5)) σ s8 := frC.t hF1 hG8 (fun x y h => by have h : (x = 1 ∧ y = 4) ∨ (x = 5) := h; show (x = 1 ∧ y = 4) ∨ (x = 210 ∧ y = 4) ∨ (x = 210 ∧ y = 5) ∨ (x = 210 ∧ y = 6) ∨ (x = 210 ∧ y = 8) ∨ (x = 211) ∨ (x = 213) ∨ (x = 214) ∨ (x = 215 ∧ y = 4) ∨ (x = 215 ∧ y = 5) ∨ (x = 215 ∧ y = 6) ∨ (x = 215 ∧ y = 7) ∨ (x = 215 ∧ y = 8) ∨ (x = 216) ∨ (x = 217) ∨ (x = 218) ∨ (x = 219) ∨ (x = 5); rcases h with h | h; (· exact Or.inl h); (· exact Or.inr (Or.inr (Or.inr (Or.inr (Or.inr (Or.inr (Or.inr (Or.inr (Or.inr (Or.inr (Or.inr (Or.inr (Or.inr (Or.inr (Or.inr (Or.inr (Or.inr (h)))))))))))))))))))
      refine lv_istore (lv' := [(6, .int r8), (5, .int v6), (4, .int r1), (0, .ref (ad 0)), (1, .int program), (2, .ref (ad pg)), (3, .int inp)]) hx hb (dk1 dF_54 DX11_heapsInput (i := 38) rfl rfl rfl) hl (by decide) rfl (fun ls hl => ?_)
      refine lv_iload hx hb (dk1 dF_21 DX11_heapsInput (i := 39) rfl rfl rfl) (lv_at hl 0 rfl) ?_
      refine lv_iconst (v := (-1)) hx hb (dkP dF_2 DX11_heapsInput (i := 40) rfl rfl) (by decide) ?_
      refine lv_icmp_ne (tgt := 85) hx hb (dkS dF_160 DX11_heapsInput (i := 41) rfl rfl rfl) (by decide) (fun c9 => ?_) (fun c9 => ?_)
      · (try simp (disch := omega) only [ta_lt, ta_le, ta_eq, tnI, tn32 1 (by decide)] at c9)
        obtain ⟨hn, hhn, ehn⟩ := rngN (x := r8) (h := 59) (show 0 ≤ _ ∧ _ ≤ 59 from by (try simp only [lg_cmp_lt, lg_cmp_le, lg_cmp_gt, lg_cmp_ge, lg_cmp_eq] at c2); (try simp (disch := omega) only [ta_lt, ta_le, ta_eq, tb_lt, tb_le, tb_eq, tw, tnI, tsub1, tsv, tsb32, tn32 1 (by decide), tnj 1 (by decide), tl32 0 (by decide), tl64 0 (by decide), tl32 1 (by decide), tl64 1 (by decide)] at c2); (try simp only [lg_cmp_lt, lg_cmp_le, lg_cmp_gt, lg_cmp_ge, lg_cmp_eq] at c4); (try simp (disch := omega) only [ta_lt, ta_le, ta_eq, tb_lt, tb_le, tb_eq, tw, tnI, tsub1, tsv, tsb32, tn32 1 (by decide), tnj 1 (by decide), tl32 0 (by decide), tl64 0 (by decide), tl32 1 (by decide), tl64 1 (by decide)] at c4); (try simp only [lg_cmp_lt, lg_cmp_le, lg_cmp_gt, lg_cmp_ge, lg_cmp_eq] at f8_0); (try simp (disch := omega) only [ta_lt, ta_le, ta_eq, tb_lt, tb_le, tb_eq, tw, tnI, tsub1, tsv, tsb32, tn32 1 (by decide), tnj 1 (by decide), tl32 0 (by decide), tl64 0 (by decide), tl32 1 (by decide), tl64 1 (by decide)] at f8_0); (try simp only [lg_cmp_lt, lg_cmp_le, lg_cmp_gt, lg_cmp_ge, lg_cmp_eq] at c9); (try simp (disch := omega) only [ta_lt, ta_le, ta_eq, tb_lt, tb_le, tb_eq, tw, tnI, tsub1, tsv, tsb32, tn32 1 (by decide), tnj 1 (by decide), tl32 0 (by decide), tl64 0 (by decide), tl32 1 (by decide), tl64 1 (by decide)] at c9); (try simp (disch := omega) only [ta_lt, ta_le, ta_eq, tb_lt, tb_le, tb_eq, tw, tnI, tsub1, tsv, tsb32, tn32 1 (by decide), tnj 1 (by decide), tl32 0 (by decide), tl64 0 (by decide), tl32 1 (by decide), tl64 1 (by decide)]); omega)
        subst ehn
        refine lv_aload_n hx hb (dkP dF_42 DX11_heapsInput (i := 44) rfl rfl) rfl (lv_at hl 3 rfl) ?_
        refine z_gr C0 hw 0 0 1 (fk_of shc_0 rfl) fl_X11_10 (dk2 dF_180 DX11_heapsInput (i := 45) rfl rfl rfl) ?_
        refine lv_iload hx hb (dk1 dF_21 DX11_heapsInput (i := 46) rfl rfl rfl) (lv_at hl 0 rfl) ?_
        refine lv_iload_n hx hb (dkP dF_29 DX11_heapsInput (i := 47) rfl rfl) rfl (lv_at hl 6 rfl) ?_
        refine zk_I hw (zr_V (As := [.int (nI hn), .int inp]) (rest := []) C0 (c_X10_heapUp l G kc ad s8 hn inp (by omega) hT8 _) cv_X10_heapUp lk_X11_383 (zp_V C0 hRo hw 1 shc_1 rfl rfl) rfl hl.1 rfl ⟨by decide, by decide⟩ (Nat.le_of_ble_eq_true rfl) (dk2 dF_182 DX11_heapsInput (i := 48) rfl rfl rfl) ⟨Nat.le_refl _, Nat.le_refl _⟩) (fun r10 s10 H locs hp hw => ?_)
        obtain ⟨hT10, hG10⟩ := hp
        have hF10 : frC (fun x y => (x = 1 ∧ y = 4) ∨ (x = 210 ∧ y = 4) ∨ (x = 210 ∧ y = 5) ∨ (x = 210 ∧ y = 6) ∨ (x = 210 ∧ y = 8) ∨ (x = 211) ∨ (x = 213) ∨ (x = 214) ∨ (x = 215 ∧ y = 4) ∨ (x = 215 ∧ y = 5) ∨ (x = 215 ∧ y = 6) ∨ (x = 215 ∧ y = 7) ∨ (x = 215 ∧ y = 8) ∨ (x = 216) ∨ (x = 217) ∨ (x = 218) ∨ (x = 219) ∨ (x = 5)) σ s10 := frC.t hF8 hG10 (fun x y h => by have h : (x = 5) := h; show (x = 1 ∧ y = 4) ∨ (x = 210 ∧ y = 4) ∨ (x = 210 ∧ y = 5) ∨ (x = 210 ∧ y = 6) ∨ (x = 210 ∧ y = 8) ∨ (x = 211) ∨ (x = 213) ∨ (x = 214) ∨ (x = 215 ∧ y = 4) ∨ (x = 215 ∧ y = 5) ∨ (x = 215 ∧ y = 6) ∨ (x = 215 ∧ y = 7) ∨ (x = 215 ∧ y = 8) ∨ (x = 216) ∨ (x = 217) ∨ (x = 218) ∨ (x = 219) ∨ (x = 5); exact Or.inr (Or.inr (Or.inr (Or.inr (Or.inr (Or.inr (Or.inr (Or.inr (Or.inr (Or.inr (Or.inr (Or.inr (Or.inr (Or.inr (Or.inr (Or.inr (Or.inr (h))))))))))))))))))
        refine lv_iconst (v := 2) hx hb (dkP dF_5 DX11_heapsInput (i := 49) rfl rfl) (by decide) ?_
        refine lv_icmp_eq (tgt := 103) hx hb (dkS dF_159 DX11_heapsInput (i := 50) rfl rfl rfl) (by decide) (fun c11 => ?_) (fun c11 => ?_)
        · (try simp (disch := omega) only [ta_lt, ta_le, ta_eq, tnI, tl32 2 (by decide)] at c11)
          refine lv_iconst (v := 0) hx hb (dkP dF_3 DX11_heapsInput (i := 53) rfl rfl) (by decide) ?_
          exact z_zret C0 hr hlk (by decide) hw (⟨(Or.inr ⟨rfl, trivial⟩), hT10, hF10⟩) (dkP dF_172 DX11_heapsInput (i := 54) rfl rfl)
        · (try simp (disch := omega) only [ta_lt, ta_le, ta_eq, tnI, tl32 2 (by decide)] at c11)
          refine lv_iconst (v := 1) hx hb (dkP dF_4 DX11_heapsInput (i := 51) rfl rfl) (by decide) ?_
          refine lv_goto (tgt := 104) hx hb (dkS dF_167 DX11_heapsInput (i := 52) rfl rfl rfl) (by decide) ?_
          exact z_zret C0 hr hlk (by decide) hw (⟨(Or.inl ⟨rfl, trivial⟩), hT10, hF10⟩) (dkP dF_172 DX11_heapsInput (i := 54) rfl rfl)
      · (try simp (disch := omega) only [ta_lt, ta_le, ta_eq, tnI, tn32 1 (by decide)] at c9)
        refine lv_iconst (v := 1) hx hb (dkP dF_4 DX11_heapsInput (i := 42) rfl rfl) (by decide) ?_
        exact z_zret C0 hr hlk (by decide) hw (⟨(Or.inl ⟨rfl, trivial⟩), hT8, hF8⟩) (dkP dF_172 DX11_heapsInput (i := 43) rfl rfl)
    · simp (disch := omega) only [ta_lt, ta_le, ta_eq, tnI, tl32 0 (by decide)] at c4
      refine lv_iconst (v := (-1)) hx hb (dkP dF_2 DX11_heapsInput (i := 13) rfl rfl) (by decide) ?_
      refine lv_goto (tgt := 54) hx hb (dkS dF_167 DX11_heapsInput (i := 14) rfl rfl rfl) (by decide) ?_
      refine lv_istore (lv' := [(5, .int (-1)), (4, .int r1), (0, .ref (ad 0)), (1, .int program), (2, .ref (ad pg)), (3, .int inp)]) hx hb (dk1 dF_54 DX11_heapsInput (i := 28) rfl rfl rfl) hl (by decide) rfl (fun ls hl => ?_)
      refine lv_aload_n hx hb (dkP dF_42 DX11_heapsInput (i := 29) rfl rfl) rfl (lv_at hl 2 rfl) ?_
      refine z_gr C0 hw 0 0 1 (fk_of shc_0 rfl) fl_X11_10 (dk2 dF_180 DX11_heapsInput (i := 30) rfl rfl rfl) ?_
      refine lv_iload_n hx hb (dkP dF_27 DX11_heapsInput (i := 31) rfl rfl) rfl (lv_at hl 3 rfl) ?_
      refine lv_iload hx hb (dk1 dF_21 DX11_heapsInput (i := 32) rfl rfl rfl) (lv_at hl 0 rfl) ?_
      refine lv_aload_n hx hb (dkP dF_42 DX11_heapsInput (i := 33) rfl rfl) rfl (lv_at hl 2 rfl) ?_
      refine z_gr C0 hw 0 5 215 (fk_of shc_0 rfl) fl_X11_38 (dk2 dF_180 DX11_heapsInput (i := 34) rfl rfl rfl) ?_
      refine z_gi C0 hw 215 7 (fk_of shc_215 rfl) fl_X11_171 (dk2 dF_180 DX11_heapsInput (i := 35) rfl rfl rfl) ?_
      obtain ⟨v12, ev12⟩ : ∃ y : Int32, s1.1 215 7 = y := ⟨_, rfl⟩
      have hv12 : -1 ≤ v12.toInt ∧ v12.toInt ≤ 39 := by rw [← ev12]; exact (tcr_8_7 hT1 tcl_215)
      refine z_top (y := v12) ev12 ?_
      refine lv_iload hx hb (dk1 dF_21 DX11_heapsInput (i := 36) rfl rfl rfl) (lv_at hl 1 rfl) ?_
      refine zk_I hw (zr_V (As := [.int program, .int (-1), .int v12, .int r1]) (rest := []) C0 (c_X10_heapFor l G kc ad s1 program (-1) v12 r1 hT1 _) cv_X10_heapFor lk_X11_380 (zp_V C0 hRo hw 1 shc_1 rfl rfl) rfl hl.1 rfl ⟨by decide, by decide⟩ (Nat.le_of_ble_eq_true rfl) (dk2 dF_182 DX11_heapsInput (i := 37) rfl rfl rfl) ⟨Nat.le_refl _, Nat.le_refl _⟩) (fun r13 s13 H locs hp hw => ?_)
      obtain ⟨f13_0, hT13, hG13⟩ := hp
      have hF13 : frC (fun x y => (x = 1 ∧ y = 4) ∨ (x = 210 ∧ y = 4) ∨ (x = 210 ∧ y = 5) ∨ (x = 210 ∧ y = 6) ∨ (x = 210 ∧ y = 8) ∨ (x = 211) ∨ (x = 213) ∨ (x = 214) ∨ (x = 215 ∧ y = 4) ∨ (x = 215 ∧ y = 5) ∨ (x = 215 ∧ y = 6) ∨ (x = 215 ∧ y = 7) ∨ (x = 215 ∧ y = 8) ∨ (x = 216) ∨ (x = 217) ∨ (x = 218) ∨ (x = 219) ∨ (x = 5)) σ s13 := frC.t hF1 hG13 (fun x y h => by have h : (x = 1 ∧ y = 4) ∨ (x = 5) := h; show (x = 1 ∧ y = 4) ∨ (x = 210 ∧ y = 4) ∨ (x = 210 ∧ y = 5) ∨ (x = 210 ∧ y = 6) ∨ (x = 210 ∧ y = 8) ∨ (x = 211) ∨ (x = 213) ∨ (x = 214) ∨ (x = 215 ∧ y = 4) ∨ (x = 215 ∧ y = 5) ∨ (x = 215 ∧ y = 6) ∨ (x = 215 ∧ y = 7) ∨ (x = 215 ∧ y = 8) ∨ (x = 216) ∨ (x = 217) ∨ (x = 218) ∨ (x = 219) ∨ (x = 5); rcases h with h | h; (· exact Or.inl h); (· exact Or.inr (Or.inr (Or.inr (Or.inr (Or.inr (Or.inr (Or.inr (Or.inr (Or.inr (Or.inr (Or.inr (Or.inr (Or.inr (Or.inr (Or.inr (Or.inr (Or.inr (h)))))))))))))))))))
      refine lv_istore (lv' := [(6, .int r13), (5, .int (-1)), (4, .int r1), (0, .ref (ad 0)), (1, .int program), (2, .ref (ad pg)), (3, .int inp)]) hx hb (dk1 dF_54 DX11_heapsInput (i := 38) rfl rfl rfl) hl (by decide) rfl (fun ls hl => ?_)
      refine lv_iload hx hb (dk1 dF_21 DX11_heapsInput (i := 39) rfl rfl rfl) (lv_at hl 0 rfl) ?_
      refine lv_iconst (v := (-1)) hx hb (dkP dF_2 DX11_heapsInput (i := 40) rfl rfl) (by decide) ?_
      refine lv_icmp_ne (tgt := 85) hx hb (dkS dF_160 DX11_heapsInput (i := 41) rfl rfl rfl) (by decide) (fun c14 => ?_) (fun c14 => ?_)
      · (try simp (disch := omega) only [ta_lt, ta_le, ta_eq, tnI, tn32 1 (by decide)] at c14)
        obtain ⟨hn, hhn, ehn⟩ := rngN (x := r13) (h := 59) (show 0 ≤ _ ∧ _ ≤ 59 from by (try simp only [lg_cmp_lt, lg_cmp_le, lg_cmp_gt, lg_cmp_ge, lg_cmp_eq] at c2); (try simp (disch := omega) only [ta_lt, ta_le, ta_eq, tb_lt, tb_le, tb_eq, tw, tnI, tsub1, tsv, tsb32, tn32 1 (by decide), tnj 1 (by decide), tl32 0 (by decide), tl64 0 (by decide), tl32 1 (by decide), tl64 1 (by decide), tl32 2 (by decide), tl64 2 (by decide)] at c2); (try simp only [lg_cmp_lt, lg_cmp_le, lg_cmp_gt, lg_cmp_ge, lg_cmp_eq] at c4); (try simp (disch := omega) only [ta_lt, ta_le, ta_eq, tb_lt, tb_le, tb_eq, tw, tnI, tsub1, tsv, tsb32, tn32 1 (by decide), tnj 1 (by decide), tl32 0 (by decide), tl64 0 (by decide), tl32 1 (by decide), tl64 1 (by decide), tl32 2 (by decide), tl64 2 (by decide)] at c4); (try simp only [lg_cmp_lt, lg_cmp_le, lg_cmp_gt, lg_cmp_ge, lg_cmp_eq] at f13_0); (try simp (disch := omega) only [ta_lt, ta_le, ta_eq, tb_lt, tb_le, tb_eq, tw, tnI, tsub1, tsv, tsb32, tn32 1 (by decide), tnj 1 (by decide), tl32 0 (by decide), tl64 0 (by decide), tl32 1 (by decide), tl64 1 (by decide), tl32 2 (by decide), tl64 2 (by decide)] at f13_0); (try simp only [lg_cmp_lt, lg_cmp_le, lg_cmp_gt, lg_cmp_ge, lg_cmp_eq] at c14); (try simp (disch := omega) only [ta_lt, ta_le, ta_eq, tb_lt, tb_le, tb_eq, tw, tnI, tsub1, tsv, tsb32, tn32 1 (by decide), tnj 1 (by decide), tl32 0 (by decide), tl64 0 (by decide), tl32 1 (by decide), tl64 1 (by decide), tl32 2 (by decide), tl64 2 (by decide)] at c14); (try simp (disch := omega) only [ta_lt, ta_le, ta_eq, tb_lt, tb_le, tb_eq, tw, tnI, tsub1, tsv, tsb32, tn32 1 (by decide), tnj 1 (by decide), tl32 0 (by decide), tl64 0 (by decide), tl32 1 (by decide), tl64 1 (by decide), tl32 2 (by decide), tl64 2 (by decide)]); omega)
        subst ehn
        refine lv_aload_n hx hb (dkP dF_42 DX11_heapsInput (i := 44) rfl rfl) rfl (lv_at hl 3 rfl) ?_
        refine z_gr C0 hw 0 0 1 (fk_of shc_0 rfl) fl_X11_10 (dk2 dF_180 DX11_heapsInput (i := 45) rfl rfl rfl) ?_
        refine lv_iload hx hb (dk1 dF_21 DX11_heapsInput (i := 46) rfl rfl rfl) (lv_at hl 0 rfl) ?_
        refine lv_iload_n hx hb (dkP dF_29 DX11_heapsInput (i := 47) rfl rfl) rfl (lv_at hl 6 rfl) ?_
        refine zk_I hw (zr_V (As := [.int (nI hn), .int inp]) (rest := []) C0 (c_X10_heapUp l G kc ad s13 hn inp (by omega) hT13 _) cv_X10_heapUp lk_X11_383 (zp_V C0 hRo hw 1 shc_1 rfl rfl) rfl hl.1 rfl ⟨by decide, by decide⟩ (Nat.le_of_ble_eq_true rfl) (dk2 dF_182 DX11_heapsInput (i := 48) rfl rfl rfl) ⟨Nat.le_refl _, Nat.le_refl _⟩) (fun r15 s15 H locs hp hw => ?_)
        obtain ⟨hT15, hG15⟩ := hp
        have hF15 : frC (fun x y => (x = 1 ∧ y = 4) ∨ (x = 210 ∧ y = 4) ∨ (x = 210 ∧ y = 5) ∨ (x = 210 ∧ y = 6) ∨ (x = 210 ∧ y = 8) ∨ (x = 211) ∨ (x = 213) ∨ (x = 214) ∨ (x = 215 ∧ y = 4) ∨ (x = 215 ∧ y = 5) ∨ (x = 215 ∧ y = 6) ∨ (x = 215 ∧ y = 7) ∨ (x = 215 ∧ y = 8) ∨ (x = 216) ∨ (x = 217) ∨ (x = 218) ∨ (x = 219) ∨ (x = 5)) σ s15 := frC.t hF13 hG15 (fun x y h => by have h : (x = 5) := h; show (x = 1 ∧ y = 4) ∨ (x = 210 ∧ y = 4) ∨ (x = 210 ∧ y = 5) ∨ (x = 210 ∧ y = 6) ∨ (x = 210 ∧ y = 8) ∨ (x = 211) ∨ (x = 213) ∨ (x = 214) ∨ (x = 215 ∧ y = 4) ∨ (x = 215 ∧ y = 5) ∨ (x = 215 ∧ y = 6) ∨ (x = 215 ∧ y = 7) ∨ (x = 215 ∧ y = 8) ∨ (x = 216) ∨ (x = 217) ∨ (x = 218) ∨ (x = 219) ∨ (x = 5); exact Or.inr (Or.inr (Or.inr (Or.inr (Or.inr (Or.inr (Or.inr (Or.inr (Or.inr (Or.inr (Or.inr (Or.inr (Or.inr (Or.inr (Or.inr (Or.inr (Or.inr (h))))))))))))))))))
        refine lv_iconst (v := 2) hx hb (dkP dF_5 DX11_heapsInput (i := 49) rfl rfl) (by decide) ?_
        refine lv_icmp_eq (tgt := 103) hx hb (dkS dF_159 DX11_heapsInput (i := 50) rfl rfl rfl) (by decide) (fun c16 => ?_) (fun c16 => ?_)
        · (try simp (disch := omega) only [ta_lt, ta_le, ta_eq, tnI, tl32 2 (by decide)] at c16)
          refine lv_iconst (v := 0) hx hb (dkP dF_3 DX11_heapsInput (i := 53) rfl rfl) (by decide) ?_
          exact z_zret C0 hr hlk (by decide) hw (⟨(Or.inr ⟨rfl, trivial⟩), hT15, hF15⟩) (dkP dF_172 DX11_heapsInput (i := 54) rfl rfl)
        · (try simp (disch := omega) only [ta_lt, ta_le, ta_eq, tnI, tl32 2 (by decide)] at c16)
          refine lv_iconst (v := 1) hx hb (dkP dF_4 DX11_heapsInput (i := 51) rfl rfl) (by decide) ?_
          refine lv_goto (tgt := 104) hx hb (dkS dF_167 DX11_heapsInput (i := 52) rfl rfl rfl) (by decide) ?_
          exact z_zret C0 hr hlk (by decide) hw (⟨(Or.inl ⟨rfl, trivial⟩), hT15, hF15⟩) (dkP dF_172 DX11_heapsInput (i := 54) rfl rfl)
      · (try simp (disch := omega) only [ta_lt, ta_le, ta_eq, tnI, tn32 1 (by decide)] at c14)
        refine lv_iconst (v := 1) hx hb (dkP dF_4 DX11_heapsInput (i := 42) rfl rfl) (by decide) ?_
        exact z_zret C0 hr hlk (by decide) hw (⟨(Or.inl ⟨rfl, trivial⟩), hT13, hF13⟩) (dkP dF_172 DX11_heapsInput (i := 43) rfl rfl)
  · (try simp (disch := omega) only [ta_lt, ta_le, ta_eq, tnI, tl32 0 (by decide)] at c2)
    refine lv_iconst (v := 0) hx hb (dkP dF_3 DX11_heapsInput (i := 7) rfl rfl) (by decide) ?_
    exact z_zret C0 hr hlk (by decide) hw (⟨(Or.inr ⟨rfl, trivial⟩), hT1, hF1⟩) (dkP dF_172 DX11_heapsInput (i := 8) rfl rfl)
