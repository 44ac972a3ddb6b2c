set_option maxRecDepth 100000 in
set_option maxHeartbeats 4000000 in
theorem c_X5_hasRoom (l : Launch) (G : va_G) (kc : Nat → ClassId) (ad : Nat → Nat)  (m2 : Int32) (hm : m2 = 20) : MI l G kc yX5_hasRoom cX5_hasRoom 2 (some .boolean) 0 0 [.ref (ad 186), .int m2] shC ad sC0 (fun r σ1 => ((r = 1 ∧ (True)) ∨ (r = 0 ∧ ¬ (True))) ∧ σ1 = sC0) := by
  intro sz
  refine z_body (y := yX5_hasRoom) (n := 2) (av := [.ref (ad 186), .int m2]) (Qc := fun A => va_Qi (fun r σ1 => ((r = 1 ∧ (True)) ∨ (r = 0 ∧ ¬ (True))) ∧ σ1 = sC0) (PoC G kc shC ad A) A) (plainFor_of_name (by decide)) (Nat.le_of_ble_eq_true rfl) (fun pr e s m below meth c A C0 hr hlk hnm hw ls hl => ?_) sz
  have hx := C0.1
  have hb := C0.2.1
  have hown := C0.2.2.2.1
  have hts := C0.2.2.2.2.1
  have hl : lv_has ls 2 [(0, .ref (ad 186)), (1, .int m2)] := hl
  refine lv_aload_n hx hb (dkP dF_42 DX5_hasRoom (i := 0) rfl rfl) rfl (lv_at hl 0 rfl) ?_
  refine z_gi C0 hw 186 1 (fk_of shc_186 rfl) fl_X5_46 (dk2 dF_180 DX5_hasRoom (i := 1) rfl rfl rfl) ?_
  refine z_top (y := 0) s0_186_1 ?_
  subst hm
  refine lv_iload_n hx hb (dkP dF_27 DX5_hasRoom (i := 2) rfl rfl) rfl (lv_at hl 1 rfl) ?_
  refine lv_iadd hx hb (dkP dF_96 DX5_hasRoom (i := 3) rfl rfl) ?_
  refine z_top (y := 20) (by decide) ?_
  refine lv_sipush (v := 600) hx hb (dkS dF_17 DX5_hasRoom (i := 4) rfl rfl rfl) (by decide) ?_
  refine lv_icmp_gt (tgt := 16) hx hb (dkS dF_163 DX5_hasRoom (i := 5) rfl rfl rfl) (by decide) (fun h => absurd h (by decide)) (fun _ => ?_)
  refine lv_iconst (v := 1) hx hb (dkP dF_4 DX5_hasRoom (i := 6) rfl rfl) (by decide) ?_
  refine lv_goto (tgt := 17) hx hb (dkS dF_167 DX5_hasRoom (i := 7) rfl rfl rfl) (by decide) ?_
  exact z_zret C0 hr hlk (by decide) hw (⟨Or.inl ⟨rfl, trivial⟩, rfl⟩) (dkP dF_172 DX5_hasRoom (i := 9) rfl rfl)
set_option maxRecDepth 20000 in
theorem shc_187 : shC[187]? = some (2, 600, []) := by rfl
set_option maxRecDepth 100000 in
set_option maxHeartbeats 4000000 in
theorem c_X5_add (l : Launch) (G : va_G) (kc : Nat → ClassId) (ad : Nat → Nat) (σ : Sg)  (f : Int32) (n : Nat) (hn : σ.1 186 1 = nI n) (hb2 : n + 4 ≤ 600) : MV l G kc yX5_add cX5_add 3 0 0 [.ref (ad 186), .int f] shC ad σ (fun σ1 => σ1.1 186 1 = nI (n + 4)) := by
  intro sz
  refine z_body (y := yX5_add) (n := 3) (av := [.ref (ad 186), .int f]) (Qc := fun A => va_Qv (fun σ1 => σ1.1 186 1 = nI (n + 4)) (PoC G kc shC ad A) A) (plainFor_of_name (by decide)) (Nat.le_of_ble_eq_true rfl) (fun pr e s m below meth c A C0 hr hlk hnm hw ls hl => ?_) sz
  have hx := C0.1
  have hb := C0.2.1
  have hown := C0.2.2.2.1
  have hts := C0.2.2.2.2.1
  have hl : lv_has ls 3 [(0, .ref (ad 186)), (1, .int f)] := hl
  refine lv_bipush (v := 24) hx hb (dks dF_16 DX5_add (i := 0) rfl rfl rfl) (by decide) ?_
  refine lv_istore_n (lv' := [(2, .int 24), (0, .ref (ad 186)), (1, .int f)]) hx hb (dkP dF_61 DX5_add (i := 1) rfl rfl) rfl hl (by decide) rfl (fun ls hl => ?_)
  refine lv_iload_n hx hb (dkP dF_28 DX5_add (i := 2) rfl rfl) rfl (lv_at hl 0 rfl) ?_
  refine lv_if_lt (tgt := 36) hx hb (dkS dF_155 DX5_add (i := 3) rfl rfl rfl) (by decide) (fun h => absurd h (by decide)) (fun _ => ?_)
  refine lv_aload_n hx hb (dkP dF_42 DX5_add (i := 4) rfl rfl) rfl (lv_at hl 1 rfl) ?_
  refine z_gr C0 hw 186 0 187 (fk_of shc_186 rfl) fl_X5_11 (dk2 dF_180 DX5_add (i := 5) rfl rfl rfl) ?_
  refine lv_aload_n hx hb (dkP dF_42 DX5_add (i := 6) rfl rfl) rfl (lv_at hl 1 rfl) ?_
  refine z_gi C0 hw 186 1 (fk_of shc_186 rfl) fl_X5_46 (dk2 dF_180 DX5_add (i := 7) rfl rfl rfl) ?_
  refine z_top (y := (nI n)) hn ?_
  refine lv_iload_n hx hb (dkP dF_27 DX5_add (i := 8) rfl rfl) rfl (lv_at hl 2 rfl) ?_
  refine lv_iload_n hx hb (dkP dF_28 DX5_add (i := 9) rfl rfl) rfl (lv_at hl 0 rfl) ?_
  refine lv_ishr hx hb (dkP dF_122 DX5_add (i := 10) rfl rfl) ?_
  refine lv_i2b hx hb (dkP dF_145 DX5_add (i := 11) rfl rfl) rfl ?_
  refine z_bastN (n := 600) C0 hw 187 n (ak_of shc_187) (by omega) (by decide) (dkP dF_84 DX5_add (i := 12) rfl rfl) (fun H locs hw => ?_)
  refine lv_aload_n hx hb (dkP dF_42 DX5_add (i := 13) rfl rfl) rfl (lv_at hl 1 rfl) ?_
  refine lv_dup hx hb (dkP dF_89 DX5_add (i := 14) rfl rfl) rfl ?_
  refine z_gi C0 hw 186 1 (fk_of shc_186 rfl) fl_X5_46 (dk2 dF_180 DX5_add (i := 15) rfl rfl rfl) ?_
  refine z_top (y := (nI n)) ((rd_n (by omega)).trans hn) ?_
  refine lv_iconst (v := 1) hx hb (dkP dF_4 DX5_add (i := 16) rfl rfl) (by decide) ?_
  refine lv_iadd hx hb (dkP dF_96 DX5_add (i := 17) rfl rfl) ?_
  refine z_top (y := nI (n + 1)) (by simp only [fa_lit, nI_add, pk_mul]) ?_
  refine z_pi C0 hw 186 1 (fk_of shc_186 rfl) fp_X5_46 (dk2 dF_181 DX5_add (i := 18) rfl rfl rfl) (fun H locs hw => ?_)
  refine lv_iinc (v := 16) (lv' := [(2, .int 16), (0, .ref (ad 186)), (1, .int f)]) hx hb (dkI DX5_add (i := 19) rfl rfl rfl rfl) hl (k := 0) rfl (by decide) (by decide) rfl (fun ls hl => ?_)
  refine lv_goto (tgt := 3) hx hb (dkS dF_167 DX5_add (i := 20) rfl rfl rfl) (by decide) ?_
  refine lv_iload_n hx hb (dkP dF_28 DX5_add (i := 2) rfl rfl) rfl (lv_at hl 0 rfl) ?_
  refine lv_if_lt (tgt := 36) hx hb (dkS dF_155 DX5_add (i := 3) rfl rfl rfl) (by decide) (fun h => absurd h (by decide)) (fun _ => ?_)
  refine lv_aload_n hx hb (dkP dF_42 DX5_add (i := 4) rfl rfl) rfl (lv_at hl 1 rfl) ?_
  refine z_gr C0 hw 186 0 187 (fk_of shc_186 rfl) fl_X5_11 (dk2 dF_180 DX5_add (i := 5) rfl rfl rfl) ?_
  refine lv_aload_n hx hb (dkP dF_42 DX5_add (i := 6) rfl rfl) rfl (lv_at hl 1 rfl) ?_
  refine z_gi C0 hw 186 1 (fk_of shc_186 rfl) fl_X5_46 (dk2 dF_180 DX5_add (i := 7) rfl rfl rfl) ?_
  refine z_top (y := (nI (n + 1))) rd_s ?_
  refine lv_iload_n hx hb (dkP dF_27 DX5_add (i := 8) rfl rfl) rfl (lv_at hl 2 rfl) ?_
  refine lv_iload_n hx hb (dkP dF_28 DX5_add (i := 9) rfl rfl) rfl (lv_at hl 0 rfl) ?_
  refine lv_ishr hx hb (dkP dF_122 DX5_add (i := 10) rfl rfl) ?_
  refine lv_i2b hx hb (dkP dF_145 DX5_add (i := 11) rfl rfl) rfl ?_
  refine z_bastN (n := 600) C0 hw 187 (n + 1) (ak_of shc_187) (by omega) (by decide) (dkP dF_84 DX5_add (i := 12) rfl rfl) (fun H locs hw => ?_)
  refine lv_aload_n hx hb (dkP dF_42 DX5_add (i := 13) rfl rfl) rfl (lv_at hl 1 rfl) ?_
  refine lv_dup hx hb (dkP dF_89 DX5_add (i := 14) rfl rfl) rfl ?_
  refine z_gi C0 hw 186 1 (fk_of shc_186 rfl) fl_X5_46 (dk2 dF_180 DX5_add (i := 15) rfl rfl rfl) ?_
  refine z_top (y := (nI (n + 1))) ((rd_n (by omega)).trans rd_s) ?_
  refine lv_iconst (v := 1) hx hb (dkP dF_4 DX5_add (i := 16) rfl rfl) (by decide) ?_
  refine lv_iadd hx hb (dkP dF_96 DX5_add (i := 17) rfl rfl) ?_
  refine z_top (y := nI ((n + 1) + 1)) (by simp only [fa_lit, nI_add, pk_mul]) ?_
  refine z_pi C0 hw 186 1 (fk_of shc_186 rfl) fp_X5_46 (dk2 dF_181 DX5_add (i := 18) rfl rfl rfl) (fun H locs hw => ?_)
  refine lv_iinc (v := 8) (lv' := [(2, .int 8), (0, .ref (ad 186)), (1, .int f)]) hx hb (dkI DX5_add (i := 19) rfl rfl rfl rfl) hl (k := 0) rfl (by decide) (by decide) rfl (fun ls hl => ?_)
  refine lv_goto (tgt := 3) hx hb (dkS dF_167 DX5_add (i := 20) rfl rfl rfl) (by decide) ?_
  refine lv_iload_n hx hb (dkP dF_28 DX5_add (i := 2) rfl rfl) rfl (lv_at hl 0 rfl) ?_
  refine lv_if_lt (tgt := 36) hx hb (dkS dF_155 DX5_add (i := 3) rfl rfl rfl) (by decide) (fun h => absurd h (by decide)) (fun _ => ?_)
  refine lv_aload_n hx hb (dkP dF_42 DX5_add (i := 4) rfl rfl) rfl (lv_at hl 1 rfl) ?_
  refine z_gr C0 hw 186 0 187 (fk_of shc_186 rfl) fl_X5_11 (dk2 dF_180 DX5_add (i := 5) rfl rfl rfl) ?_
  refine lv_aload_n hx hb (dkP dF_42 DX5_add (i := 6) rfl rfl) rfl (lv_at hl 1 rfl) ?_
  refine z_gi C0 hw 186 1 (fk_of shc_186 rfl) fl_X5_46 (dk2 dF_180 DX5_add (i := 7) rfl rfl rfl) ?_
  refine z_top (y := (nI ((n + 1) + 1))) rd_s ?_
  refine lv_iload_n hx hb (dkP dF_27 DX5_add (i := 8) rfl rfl) rfl (lv_at hl 2 rfl) ?_
  refine lv_iload_n hx hb (dkP dF_28 DX5_add (i := 9) rfl rfl) rfl (lv_at hl 0 rfl) ?_
  refine lv_ishr hx hb (dkP dF_122 DX5_add (i := 10) rfl rfl) ?_
  refine lv_i2b hx hb (dkP dF_145 DX5_add (i := 11) rfl rfl) rfl ?_
  refine z_bastN (n := 600) C0 hw 187 ((n + 1) + 1) (ak_of shc_187) (by omega) (by decide) (dkP dF_84 DX5_add (i := 12) rfl rfl) (fun H locs hw => ?_)
  refine lv_aload_n hx hb (dkP dF_42 DX5_add (i := 13) rfl rfl) rfl (lv_at hl 1 rfl) ?_
  refine lv_dup hx hb (dkP dF_89 DX5_add (i := 14) rfl rfl) rfl ?_
  refine z_gi C0 hw 186 1 (fk_of shc_186 rfl) fl_X5_46 (dk2 dF_180 DX5_add (i := 15) rfl rfl rfl) ?_
  refine z_top (y := (nI ((n + 1) + 1))) ((rd_n (by omega)).trans rd_s) ?_
  refine lv_iconst (v := 1) hx hb (dkP dF_4 DX5_add (i := 16) rfl rfl) (by decide) ?_
  refine lv_iadd hx hb (dkP dF_96 DX5_add (i := 17) rfl rfl) ?_
  refine z_top (y := nI (((n + 1) + 1) + 1)) (by simp only [fa_lit, nI_add, pk_mul]) ?_
  refine z_pi C0 hw 186 1 (fk_of shc_186 rfl) fp_X5_46 (dk2 dF_181 DX5_add (i := 18) rfl rfl rfl) (fun H locs hw => ?_)
  refine lv_iinc (v := 0) (lv' := [(2, .int 0), (0, .ref (ad 186)), (1, .int f)]) hx hb (dkI DX5_add (i := 19) rfl rfl rfl rfl) hl (k := 0) rfl (by decide) (by decide) rfl (fun ls hl => ?_)
  refine lv_goto (tgt := 3) hx hb (dkS dF_167 DX5_add (i := 20) rfl rfl rfl) (by decide) ?_
  refine lv_iload_n hx hb (dkP dF_28 DX5_add (i := 2) rfl rfl) rfl (lv_at hl 0 rfl) ?_
  refine lv_if_lt (tgt := 36) hx hb (dkS dF_155 DX5_add (i := 3) rfl rfl rfl) (by decide) (fun h => absurd h (by decide)) (fun _ => ?_)
  refine lv_aload_n hx hb (dkP dF_42 DX5_add (i := 4) rfl rfl) rfl (lv_at hl 1 rfl) ?_
  refine z_gr C0 hw 186 0 187 (fk_of shc_186 rfl) fl_X5_11 (dk2 dF_180 DX5_add (i := 5) rfl rfl rfl) ?_
  refine lv_aload_n hx hb (dkP dF_42 DX5_add (i := 6) rfl rfl) rfl (lv_at hl 1 rfl) ?_
  refine z_gi C0 hw 186 1 (fk_of shc_186 rfl) fl_X5_46 (dk2 dF_180 DX5_add (i := 7) rfl rfl rfl) ?_
  refine z_top (y := (nI (((n + 1) + 1) + 1))) rd_s ?_
  refine lv_iload_n hx hb (dkP dF_27 DX5_add (i := 8) rfl rfl) rfl (lv_at hl 2 rfl) ?_
  refine lv_iload_n hx hb (dkP dF_28 DX5_add (i := 9) rfl rfl) rfl (lv_at hl 0 rfl) ?_
  refine lv_ishr hx hb (dkP dF_122 DX5_add (i := 10) rfl rfl) ?_
  refine lv_i2b hx hb (dkP dF_145 DX5_add (i := 11) rfl rfl) rfl ?_
  refine z_bastN (n := 600) C0 hw 187 (((n + 1) + 1) + 1) (ak_of shc_187) (by omega) (by decide) (dkP dF_84 DX5_add (i := 12) rfl rfl) (fun H locs hw => ?_)
  refine lv_aload_n hx hb (dkP dF_42 DX5_add (i := 13) rfl rfl) rfl (lv_at hl 1 rfl) ?_
  refine lv_dup hx hb (dkP dF_89 DX5_add (i := 14) rfl rfl) rfl ?_
  refine z_gi C0 hw 186 1 (fk_of shc_186 rfl) fl_X5_46 (dk2 dF_180 DX5_add (i := 15) rfl rfl rfl) ?_
  refine z_top (y := (nI (((n + 1) + 1) + 1))) ((rd_n (by omega)).trans rd_s) ?_
  refine lv_iconst (v := 1) hx hb (dkP dF_4 DX5_add (i := 16) rfl rfl) (by decide) ?_
  refine lv_iadd hx hb (dkP dF_96 DX5_add (i := 17) rfl rfl) ?_
  refine z_top (y := nI ((((n + 1) + 1) + 1) + 1)) (by simp only [fa_lit, nI_add, pk_mul]) ?_
  refine z_pi C0 hw 186 1 (fk_of shc_186 rfl) fp_X5_46 (dk2 dF_181 DX5_add (i := 18) rfl rfl rfl) (fun H locs hw => ?_)
  refine lv_iinc (v := (-8)) (lv' := [(2, .int (-8)), (0, .ref (ad 186)), (1, .int f)]) hx hb (dkI DX5_add (i := 19) rfl rfl rfl rfl) hl (k := 0) rfl (by decide) (by decide) rfl (fun ls hl => ?_)
  refine lv_goto (tgt := 3) hx hb (dkS dF_167 DX5_add (i := 20) rfl rfl rfl) (by decide) ?_
  refine lv_iload_n hx hb (dkP dF_28 DX5_add (i := 2) rfl rfl) rfl (lv_at hl 0 rfl) ?_
  refine lv_if_lt (tgt := 36) hx hb (dkS dF_155 DX5_add (i := 3) rfl rfl rfl) (by decide) (fun _ => ?_) (fun h => absurd h (by decide))
  exact z_vret C0 hr hlk hw rd_s (dkP dF_177 DX5_add (i := 21) rfl rfl)
set_option maxRecDepth 100000 in
set_option maxHeartbeats 4000000 in
theorem c_X11_feed (l : Launch) (G : va_G) (kc : Nat → ClassId) (ad : Nat → Nat)  (a : Int32) (b : Int32) (d : Int32) (f : Int32) (h : Int32)  : MI l G kc yX11_feed cX11_feed 6 (some .int) 1 22 [.ref (ad 0), .int a, .int b, .int d, .int f, .int h] shC ad sC0 (fun r σ1 => r = 20) := by
  intro sz
  refine z_body (y := yX11_feed) (n := 6) (av := [.ref (ad 0), .int a, .int b, .int d, .int f, .int h]) (Qc := fun A => va_Qi (fun r σ1 => r = 20) (PoC G kc shC ad A) A) (plainFor_of_name (by decide)) (Nat.le_of_ble_eq_true rfl) (fun pr e s m below meth c A C0 hr hlk hnm hw ls hl => ?_) sz
  have hx := C0.1
  have hb := C0.2.1
  have hown := C0.2.2.2.1
  have hts := C0.2.2.2.2.1
  have hl : lv_has ls 6 [(0, .ref (ad 0)), (1, .int a), (2, .int b), (3, .int d), (4, .int f), (5, .int h)] := hl
  refine lv_aload_n hx hb (dkP dF_42 DX11_feed (i := 0) rfl rfl) rfl (lv_at hl 0 rfl) ?_
  refine z_gr C0 hw 0 3 186 (fk_of shc_0 rfl) fl_X11_27 (dk2 dF_180 DX11_feed (i := 1) rfl rfl rfl) ?_
  refine lv_bipush (v := 20) hx hb (dks dF_16 DX11_feed (i := 2) rfl rfl rfl) (by decide) ?_
  refine zk_I hw (zr_V (As := [.int 20]) (rest := []) C0 (c_X5_hasRoom l G kc ad 20 (by first | omega | assumption | decide | rfl) _) cv_X5_hasRoom lk_X11_73 (zp_V C0 hw 186 shc_186 rfl rfl) rfl hl.1 rfl ⟨by decide, by decide⟩ (Nat.le_of_ble_eq_true rfl) (dk2 dF_182 DX11_feed (i := 3) rfl rfl rfl) ⟨Nat.le_refl _, Nat.le_refl _⟩) (fun r1 s1 H locs hp hw => ?_)
  obtain ⟨hq1, hs1⟩ := hp
  (rw [hs1] at hw; clear hs1)
  rcases hq1 with ⟨rfl, hc1⟩ | ⟨rfl, hc1⟩
  · skip
    refine lv_if_ne (tgt := 14) hx hb (dkS dF_154 DX11_feed (i := 4) rfl rfl rfl) (by decide) (fun _ => ?_) (fun h => absurd h (by decide))
    refine lv_aload_n hx hb (dkP dF_42 DX11_feed (i := 7) rfl rfl) rfl (lv_at hl 0 rfl) ?_
    refine z_gr C0 hw 0 3 186 (fk_of shc_0 rfl) fl_X11_27 (dk2 dF_180 DX11_feed (i := 8) rfl rfl rfl) ?_
    refine lv_iload_n hx hb (dkP dF_27 DX11_feed (i := 9) rfl rfl) rfl (lv_at hl 1 rfl) ?_
    refine zk_V hw (zr_V (As := [.int a]) (rest := []) C0 (c_X5_add l G kc ad sC0 a 0 s0_186_1 (by decide) _) cv_X5_add lk_X11_77 (zp_V C0 hw 186 shc_186 rfl rfl) rfl hl.1 rfl ⟨by decide, by decide⟩ (Nat.le_of_ble_eq_true rfl) (dk2 dF_182 DX11_feed (i := 10) rfl rfl rfl) ⟨Nat.le_refl _, Nat.le_refl _⟩) (fun s2 H locs hp hw => ?_)
    have hp2 := hp
    refine lv_aload_n hx hb (dkP dF_42 DX11_feed (i := 11) rfl rfl) rfl (lv_at hl 0 rfl) ?_
    refine z_gr C0 hw 0 3 186 (fk_of shc_0 rfl) fl_X11_27 (dk2 dF_180 DX11_feed (i := 12) rfl rfl rfl) ?_
    refine lv_iload_n hx hb (dkP dF_28 DX11_feed (i := 13) rfl rfl) rfl (lv_at hl 2 rfl) ?_
    refine zk_V hw (zr_V (As := [.int b]) (rest := []) C0 (c_X5_add l G kc ad s2 b 4 hp2 (by decide) _) cv_X5_add lk_X11_77 (zp_V C0 hw 186 shc_186 rfl rfl) rfl hl.1 rfl ⟨by decide, by decide⟩ (Nat.le_of_ble_eq_true rfl) (dk2 dF_182 DX11_feed (i := 14) rfl rfl rfl) ⟨Nat.le_refl _, Nat.le_refl _⟩) (fun s3 H locs hp hw => ?_)
    have hp3 := hp
    refine lv_aload_n hx hb (dkP dF_42 DX11_feed (i := 15) rfl rfl) rfl (lv_at hl 0 rfl) ?_
    refine z_gr C0 hw 0 3 186 (fk_of shc_0 rfl) fl_X11_27 (dk2 dF_180 DX11_feed (i := 16) rfl rfl rfl) ?_
    refine lv_iload_n hx hb (dkP dF_29 DX11_feed (i := 17) rfl rfl) rfl (lv_at hl 3 rfl) ?_
    refine zk_V hw (zr_V (As := [.int d]) (rest := []) C0 (c_X5_add l G kc ad s3 d 8 hp3 (by decide) _) cv_X5_add lk_X11_77 (zp_V C0 hw 186 shc_186 rfl rfl) rfl hl.1 rfl ⟨by decide, by decide⟩ (Nat.le_of_ble_eq_true rfl) (dk2 dF_182 DX11_feed (i := 18) rfl rfl rfl) ⟨Nat.le_refl _, Nat.le_refl _⟩) (fun s4 H locs hp hw => ?_)
    have hp4 := hp
    refine lv_aload_n hx hb (dkP dF_42 DX11_feed (i := 19) rfl rfl) rfl (lv_at hl 0 rfl) ?_
    refine z_gr C0 hw 0 3 186 (fk_of shc_0 rfl) fl_X11_27 (dk2 dF_180 DX11_feed (i := 20) rfl rfl rfl) ?_
    refine lv_iload hx hb (dk1 dF_21 DX11_feed (i := 21) rfl rfl rfl) (lv_at hl 4 rfl) ?_
    refine zk_V hw (zr_V (As := [.int f]) (rest := []) C0 (c_X5_add l G kc ad s4 f 12 hp4 (by decide) _) cv_X5_add lk_X11_77 (zp_V C0 hw 186 shc_186 rfl rfl) rfl hl.1 rfl ⟨by decide, by decide⟩ (Nat.le_of_ble_eq_true rfl) (dk2 dF_182 DX11_feed (i := 22) rfl rfl rfl) ⟨Nat.le_refl _, Nat.le_refl _⟩) (fun s5 H locs hp hw => ?_)
    have hp5 := hp
    refine lv_aload_n hx hb (dkP dF_42 DX11_feed (i := 23) rfl rfl) rfl (lv_at hl 0 rfl) ?_
    refine z_gr C0 hw 0 3 186 (fk_of shc_0 rfl) fl_X11_27 (dk2 dF_180 DX11_feed (i := 24) rfl rfl rfl) ?_
    refine lv_iload hx hb (dk1 dF_21 DX11_feed (i := 25) rfl rfl rfl) (lv_at hl 5 rfl) ?_
    refine zk_V hw (zr_V (As := [.int h]) (rest := []) C0 (c_X5_add l G kc ad s5 h 16 hp5 (by decide) _) cv_X5_add lk_X11_77 (zp_V C0 hw 186 shc_186 rfl rfl) rfl hl.1 rfl ⟨by decide, by decide⟩ (Nat.le_of_ble_eq_true rfl) (dk2 dF_182 DX11_feed (i := 26) rfl rfl rfl) ⟨Nat.le_refl _, Nat.le_refl _⟩) (fun s6 H locs hp hw => ?_)
    have hp6 := hp
    refine lv_aload_n hx hb (dkP dF_42 DX11_feed (i := 27) rfl rfl) rfl (lv_at hl 0 rfl) ?_
    refine z_gr C0 hw 0 3 186 (fk_of shc_0 rfl) fl_X11_27 (dk2 dF_180 DX11_feed (i := 28) rfl rfl rfl) ?_
    refine z_gi C0 hw 186 1 (fk_of shc_186 rfl) fl_X11_81 (dk2 dF_180 DX11_feed (i := 29) rfl rfl rfl) ?_
    exact z_iret C0 hr hlk hw hp6 (dkP dF_172 DX11_feed (i := 30) rfl rfl)
  · exact absurd trivial hc1
set_option maxRecDepth 20000 in
theorem shc_188 : shC[188]? = some (1, 601, []) := by rfl
set_option maxRecDepth 20000 in
theorem shc_190 : shC[190]? = some (1, 601, []) := by rfl
set_option maxRecDepth 100000 in
set_option maxHeartbeats 4000000 in
theorem c_X5_split_0 (l : Launch) (G : va_G) (kc : Nat → ClassId) (ad : Nat → Nat)    : MV l G kc yX5_split cX5_split 3 0 0 [.ref (ad 186)] shC ad sC0 (fun σ1 => σ1 = sI (sI (sI sC0 186 5 0) 188 0 0) 190 0 0) := by
  intro sz
  refine z_body (y := yX5_split) (n := 3) (av := [.ref (ad 186)]) (Qc := fun A => va_Qv (fun σ1 => σ1 = sI (sI (sI sC0 186 5 0) 188 0 0) 190 0 0) (PoC G kc shC ad A) A) (plainFor_of_name (by decide)) (Nat.le_of_ble_eq_true rfl) (fun pr e s m below meth c A C0 hr hlk hnm hw ls hl => ?_) sz
  have hx := C0.1
  have hb := C0.2.1
  have hown := C0.2.2.2.1
  have hts := C0.2.2.2.2.1
  have hl : lv_has ls 3 [(0, .ref (ad 186))] := hl
  refine lv_aload_n hx hb (dkP dF_42 DX5_split (i := 0) rfl rfl) rfl (lv_at hl 0 rfl) ?_
  refine lv_iconst (v := 0) hx hb (dkP dF_3 DX5_split (i := 1) rfl rfl) (by decide) ?_
  refine z_pi C0 hw 186 5 (fk_of shc_186 rfl) fp_X5_82 (dk2 dF_181 DX5_split (i := 2) rfl rfl rfl) (fun H locs hw => ?_)
  refine lv_iconst (v := 0) hx hb (dkP dF_3 DX5_split (i := 3) rfl rfl) (by decide) ?_
  refine lv_istore_n (lv' := [(1, .int 0), (0, .ref (ad 186))]) hx hb (dkP dF_60 DX5_split (i := 4) rfl rfl) rfl hl (by decide) rfl (fun ls hl => ?_)
  refine lv_iload_n hx hb (dkP dF_27 DX5_split (i := 5) rfl rfl) rfl (lv_at hl 0 rfl) ?_
  refine lv_aload_n hx hb (dkP dF_42 DX5_split (i := 6) rfl rfl) rfl (lv_at hl 1 rfl) ?_
  refine z_gi C0 hw 186 1 (fk_of shc_186 rfl) fl_X5_46 (dk2 dF_180 DX5_split (i := 7) rfl rfl rfl) ?_
  refine z_top (y := 0) ((rd_n (by omega)).trans s0_186_1) ?_
  refine lv_icmp_ge (tgt := 59) hx hb (dkS dF_162 DX5_split (i := 8) rfl rfl rfl) (by decide) (fun _ => ?_) (fun h => absurd h (by decide))
  refine lv_aload_n hx hb (dkP dF_42 DX5_split (i := 35) rfl rfl) rfl (lv_at hl 1 rfl) ?_
  refine z_gr C0 hw 186 2 188 (fk_of shc_186 rfl) fl_X5_15 (dk2 dF_180 DX5_split (i := 36) rfl rfl rfl) ?_
  refine lv_aload_n hx hb (dkP dF_42 DX5_split (i := 37) rfl rfl) rfl (lv_at hl 1 rfl) ?_
  refine z_gi C0 hw 186 5 (fk_of shc_186 rfl) fl_X5_82 (dk2 dF_180 DX5_split (i := 38) rfl rfl rfl) ?_
  refine z_top (y := 0) rd_s ?_
  refine lv_iconst (v := 0) hx hb (dkP dF_3 DX5_split (i := 39) rfl rfl) (by decide) ?_
  refine z_iastN (n := 601) C0 hw 188 0 (ak_of shc_188) (by omega) (by decide) (dkP dF_79 DX5_split (i := 40) rfl rfl) (fun H locs hw => ?_)
  refine lv_aload_n hx hb (dkP dF_42 DX5_split (i := 41) rfl rfl) rfl (lv_at hl 1 rfl) ?_
  refine z_gr C0 hw 186 4 190 (fk_of shc_186 rfl) fl_X5_22 (dk2 dF_180 DX5_split (i := 42) rfl rfl rfl) ?_
  refine lv_aload_n hx hb (dkP dF_42 DX5_split (i := 43) rfl rfl) rfl (lv_at hl 1 rfl) ?_
  refine z_gi C0 hw 186 5 (fk_of shc_186 rfl) fl_X5_82 (dk2 dF_180 DX5_split (i := 44) rfl rfl rfl) ?_
  refine z_top (y := 0) ((rd_n (by omega)).trans rd_s) ?_
  refine lv_aload_n hx hb (dkP dF_42 DX5_split (i := 45) rfl rfl) rfl (lv_at hl 1 rfl) ?_
  refine z_gi C0 hw 186 1 (fk_of shc_186 rfl) fl_X5_46 (dk2 dF_180 DX5_split (i := 46) rfl rfl rfl) ?_
  refine z_top (y := 0) ((rd_n (by omega)).trans ((rd_n (by omega)).trans s0_186_1)) ?_
  refine z_iastN (n := 601) C0 hw 190 0 (ak_of shc_190) (by omega) (by decide) (dkP dF_79 DX5_split (i := 47) rfl rfl) (fun H locs hw => ?_)
  exact z_vret C0 hr hlk hw rfl (dkP dF_177 DX5_split (i := 48) rfl rfl)
set_option maxRecDepth 100000 in
set_option maxHeartbeats 4000000 in
theorem c_X5_begin_0 (l : Launch) (G : va_G) (kc : Nat → ClassId) (ad : Nat → Nat)    : MV l G kc yX5_begin cX5_begin 1 1 22 [.ref (ad 186)] shC ad sC0 (fun σ1 => σ1 = sI (sI (sI (sI (sI (sI (sI sC0 186 5 0) 188 0 0) 190 0 0) 186 6 0) 186 7 0) 186 8 (-1)) 186 1 0) := by
  intro sz
  refine z_body (y := yX5_begin) (n := 1) (av := [.ref (ad 186)]) (Qc := fun A => va_Qv (fun σ1 => σ1 = sI (sI (sI (sI (sI (sI (sI sC0 186 5 0) 188 0 0) 190 0 0) 186 6 0) 186 7 0) 186 8 (-1)) 186 1 0) (PoC G kc shC ad A) A) (plainFor_of_name (by decide)) (Nat.le_of_ble_eq_true rfl) (fun pr e s m below meth c A C0 hr hlk hnm hw ls hl => ?_) sz
  have hx := C0.1
  have hb := C0.2.1
  have hown := C0.2.2.2.1
  have hts := C0.2.2.2.2.1
  have hl : lv_has ls 1 [(0, .ref (ad 186))] := hl
  refine lv_aload_n hx hb (dkP dF_42 DX5_begin (i := 0) rfl rfl) rfl (lv_at hl 0 rfl) ?_
  refine zk_V hw (zr_V (As := []) (rest := []) C0 (c_X5_split_0 l G kc ad  _) cv_X5_split lk_X5_76 (zp_V C0 hw 186 shc_186 rfl rfl) rfl hl.1 rfl ⟨by decide, by decide⟩ (Nat.le_of_ble_eq_true rfl) (dk2 dF_182 DX5_begin (i := 1) rfl rfl rfl) ⟨Nat.le_refl _, Nat.le_refl _⟩) (fun s1 H locs hp hw => ?_)
  (rw [hp] at hw; clear hp)
  refine lv_aload_n hx hb (dkP dF_42 DX5_begin (i := 2) rfl rfl) rfl (lv_at hl 0 rfl) ?_
  refine lv_iconst (v := 0) hx hb (dkP dF_3 DX5_begin (i := 3) rfl rfl) (by decide) ?_
  refine z_pi C0 hw 186 6 (fk_of shc_186 rfl) fp_X5_55 (dk2 dF_181 DX5_begin (i := 4) rfl rfl rfl) (fun H locs hw => ?_)
  refine lv_aload_n hx hb (dkP dF_42 DX5_begin (i := 5) rfl rfl) rfl (lv_at hl 0 rfl) ?_
  refine lv_iconst (v := 0) hx hb (dkP dF_3 DX5_begin (i := 6) rfl rfl) (by decide) ?_
  refine z_pi C0 hw 186 7 (fk_of shc_186 rfl) fp_X5_79 (dk2 dF_181 DX5_begin (i := 7) rfl rfl rfl) (fun H locs hw => ?_)
  refine lv_aload_n hx hb (dkP dF_42 DX5_begin (i := 8) rfl rfl) rfl (lv_at hl 0 rfl) ?_
  refine lv_iconst (v := (-1)) hx hb (dkP dF_2 DX5_begin (i := 9) rfl rfl) (by decide) ?_
  refine z_pi C0 hw 186 8 (fk_of shc_186 rfl) fp_X5_25 (dk2 dF_181 DX5_begin (i := 10) rfl rfl rfl) (fun H locs hw => ?_)
  refine lv_aload_n hx hb (dkP dF_42 DX5_begin (i := 11) rfl rfl) rfl (lv_at hl 0 rfl) ?_
  refine lv_iconst (v := 0) hx hb (dkP dF_3 DX5_begin (i := 12) rfl rfl) (by decide) ?_
  refine z_pi C0 hw 186 1 (fk_of shc_186 rfl) fp_X5_46 (dk2 dF_181 DX5_begin (i := 13) rfl rfl rfl) (fun H locs hw => ?_)
  exact z_vret C0 hr hlk hw rfl (dkP dF_177 DX5_begin (i := 14) rfl rfl)
set_option maxRecDepth 20000 in
theorem shc_200 : shC[200]? = some (0, 8, [(1, 201), (0, 0)]) := by rfl
set_option maxRecDepth 100000 in
set_option maxHeartbeats 4000000 in
theorem c_X8_clear_o (l : Launch) (G : va_G) (kc : Nat → ClassId) (ad : Nat → Nat)    : MV l G kc yX8_clear cX8_clear 1 0 0 [.ref (ad 200)] shC ad (sI (sI (sI (sI (sI (sI (sI (sI sC0 186 5 0) 188 0 0) 190 0 0) 186 6 0) 186 7 0) 186 8 (-1)) 186 1 0) 192 1 0) (fun σ1 => σ1 = sI (sI (sI (sI (sI (sI (sI (sI (sI sC0 186 5 0) 188 0 0) 190 0 0) 186 6 0) 186 7 0) 186 8 (-1)) 186 1 0) 192 1 0) 200 1 0) := by
  intro sz
  refine z_body (y := yX8_clear) (n := 1) (av := [.ref (ad 200)]) (Qc := fun A => va_Qv (fun σ1 => σ1 = sI (sI (sI (sI (sI (sI (sI (sI (sI sC0 186 5 0) 188 0 0) 190 0 0) 186 6 0) 186 7 0) 186 8 (-1)) 186 1 0) 192 1 0) 200 1 0) (PoC G kc shC ad A) A) (plainFor_of_name (by decide)) (Nat.le_of_ble_eq_true rfl) (fun pr e s m below meth c A C0 hr hlk hnm hw ls hl => ?_) sz
  have hx := C0.1
  have hb := C0.2.1
  have hown := C0.2.2.2.1
  have hts := C0.2.2.2.2.1
  have hl : lv_has ls 1 [(0, .ref (ad 200))] := hl
  refine lv_aload_n hx hb (dkP dF_42 DX8_clear (i := 0) rfl rfl) rfl (lv_at hl 0 rfl) ?_
  refine lv_iconst (v := 0) hx hb (dkP dF_3 DX8_clear (i := 1) rfl rfl) (by decide) ?_
  refine z_pi C0 hw 200 1 (fk_of shc_200 rfl) fp_X8_15 (dk2 dF_181 DX8_clear (i := 2) rfl rfl rfl) (fun H locs hw => ?_)
  exact z_vret C0 hr hlk hw rfl (dkP dF_177 DX8_clear (i := 3) rfl rfl)
set_option maxRecDepth 20000 in
theorem shc_192 : shC[192]? = some (0, 2, [(0, 0), (0, 0), (1, 193), (1, 194), (1, 195), (1, 196), (1, 197), (1, 198), (1, 199), (1, 200)]) := by rfl
set_option maxRecDepth 100000 in
set_option maxHeartbeats 4000000 in
theorem c_X2_clear_o (l : Launch) (G : va_G) (kc : Nat → ClassId) (ad : Nat → Nat)    : MV l G kc yX2_clear cX2_clear 1 1 20 [.ref (ad 192)] shC ad (sI (sI (sI (sI (sI (sI (sI sC0 186 5 0) 188 0 0) 190 0 0) 186 6 0) 186 7 0) 186 8 (-1)) 186 1 0) (fun σ1 => σ1 = sI (sI (sI (sI (sI (sI (sI (sI (sI sC0 186 5 0) 188 0 0) 190 0 0) 186 6 0) 186 7 0) 186 8 (-1)) 186 1 0) 192 1 0) 200 1 0) := by
  intro sz
  refine z_body (y := yX2_clear) (n := 1) (av := [.ref (ad 192)]) (Qc := fun A => va_Qv (fun σ1 => σ1 = sI (sI (sI (sI (sI (sI (sI (sI (sI sC0 186 5 0) 188 0 0) 190 0 0) 186 6 0) 186 7 0) 186 8 (-1)) 186 1 0) 192 1 0) 200 1 0) (PoC G kc shC ad A) A) (plainFor_of_name (by decide)) (Nat.le_of_ble_eq_true rfl) (fun pr e s m below meth c A C0 hr hlk hnm hw ls hl => ?_) sz
  have hx := C0.1
  have hb := C0.2.1
  have hown := C0.2.2.2.1
  have hts := C0.2.2.2.2.1
  have hl : lv_has ls 1 [(0, .ref (ad 192))] := hl
  refine lv_aload_n hx hb (dkP dF_42 DX2_clear (i := 0) rfl rfl) rfl (lv_at hl 0 rfl) ?_
  refine lv_iconst (v := 0) hx hb (dkP dF_3 DX2_clear (i := 1) rfl rfl) (by decide) ?_
  refine z_pi C0 hw 192 1 (fk_of shc_192 rfl) fp_X2_42 (dk2 dF_181 DX2_clear (i := 2) rfl rfl rfl) (fun H locs hw => ?_)
  refine lv_aload_n hx hb (dkP dF_42 DX2_clear (i := 3) rfl rfl) rfl (lv_at hl 0 rfl) ?_
  refine z_gr C0 hw 192 9 200 (fk_of shc_192 rfl) fl_X2_38 (dk2 dF_180 DX2_clear (i := 4) rfl rfl rfl) ?_
  refine zk_V hw (zr_V (As := []) (rest := []) C0 (c_X8_clear_o l G kc ad  _) cv_X8_clear lk_X2_46 (zp_V C0 hw 200 shc_200 rfl rfl) rfl hl.1 rfl ⟨by decide, by decide⟩ (Nat.le_of_ble_eq_true rfl) (dk2 dF_182 DX2_clear (i := 5) rfl rfl rfl) ⟨Nat.le_refl _, Nat.le_refl _⟩) (fun s1 H locs hp hw => ?_)
  subst hp
  exact z_vret C0 hr hlk hw rfl (dkP dF_177 DX2_clear (i := 6) rfl rfl)
set_option maxRecDepth 100000 in
set_option maxHeartbeats 4000000 in
theorem c_X2_findTargets_o (l : Launch) (G : va_G) (kc : Nat → ClassId) (ad : Nat → Nat)    : MV l G kc yX2_findTargets cX2_findTargets 2 0 0 [.ref (ad 192)] shC ad (sI (sI (sI (sI (sI (sI (sI (sI (sI sC0 186 5 0) 188 0 0) 190 0 0) 186 6 0) 186 7 0) 186 8 (-1)) 186 1 0) 192 1 0) 200 1 0) (fun σ1 => σ1 = sI (sI (sI (sI (sI (sI (sI (sI (sI sC0 186 5 0) 188 0 0) 190 0 0) 186 6 0) 186 7 0) 186 8 (-1)) 186 1 0) 192 1 0) 200 1 0) := by
  intro sz
  refine z_body (y := yX2_findTargets) (n := 2) (av := [.ref (ad 192)]) (Qc := fun A => va_Qv (fun σ1 => σ1 = sI (sI (sI (sI (sI (sI (sI (sI (sI sC0 186 5 0) 188 0 0) 190 0 0) 186 6 0) 186 7 0) 186 8 (-1)) 186 1 0) 192 1 0) 200 1 0) (PoC G kc shC ad A) A) (plainFor_of_name (by decide)) (Nat.le_of_ble_eq_true rfl) (fun pr e s m below meth c A C0 hr hlk hnm hw ls hl => ?_) sz
  have hx := C0.1
  have hb := C0.2.1
  have hown := C0.2.2.2.1
  have hts := C0.2.2.2.2.1
  have hl : lv_has ls 2 [(0, .ref (ad 192))] := hl
  refine lv_iconst (v := 0) hx hb (dkP dF_3 DX2_findTargets (i := 0) rfl rfl) (by decide) ?_
  refine lv_istore_n (lv' := [(1, .int 0), (0, .ref (ad 192))]) hx hb (dkP dF_60 DX2_findTargets (i := 1) rfl rfl) rfl hl (by decide) rfl (fun ls hl => ?_)
  refine lv_iload_n hx hb (dkP dF_27 DX2_findTargets (i := 2) rfl rfl) rfl (lv_at hl 0 rfl) ?_
  refine lv_aload_n hx hb (dkP dF_42 DX2_findTargets (i := 3) rfl rfl) rfl (lv_at hl 1 rfl) ?_
  refine z_gi C0 hw 192 1 (fk_of shc_192 rfl) fl_X2_42 (dk2 dF_180 DX2_findTargets (i := 4) rfl rfl rfl) ?_
  refine z_top (y := 0) ((rd_n (by omega)).trans rd_s) ?_
  refine lv_icmp_ge (tgt := 52) hx hb (dkS dF_162 DX2_findTargets (i := 5) rfl rfl rfl) (by decide) (fun _ => ?_) (fun h => absurd h (by decide))
  exact z_vret C0 hr hlk hw rfl (dkP dF_177 DX2_findTargets (i := 30) rfl rfl)
set_option maxRecDepth 20000 in
theorem s0r_186_10 : sC0.2.2 186 10 = some 192 := by rfl
set_option maxRecDepth 100000 in
set_option maxHeartbeats 4000000 in
theorem c_X5_readsOld_o (l : Launch) (G : va_G) (kc : Nat → ClassId) (ad : Nat → Nat)    : MI l G kc yX5_readsOld cX5_readsOld 3 (some .boolean) 2 42 [.ref (ad 186)] shC ad sC0 (fun r σ1 => r = 1 ∧ σ1 = sI (sI (sI (sI (sI (sI (sI (sI (sI (sI sC0 186 5 0) 188 0 0) 190 0 0) 186 6 0) 186 7 0) 186 8 (-1)) 186 1 0) 192 1 0) 200 1 0) 192 0 1) := by
  intro sz
  refine z_body (y := yX5_readsOld) (n := 3) (av := [.ref (ad 186)]) (Qc := fun A => va_Qi (fun r σ1 => r = 1 ∧ σ1 = sI (sI (sI (sI (sI (sI (sI (sI (sI (sI sC0 186 5 0) 188 0 0) 190 0 0) 186 6 0) 186 7 0) 186 8 (-1)) 186 1 0) 192 1 0) 200 1 0) 192 0 1) (PoC G kc shC ad A) A) (plainFor_of_name (by decide)) (Nat.le_of_ble_eq_true rfl) (fun pr e s m below meth c A C0 hr hlk hnm hw ls hl => ?_) sz
  have hx := C0.1
  have hb := C0.2.1
  have hown := C0.2.2.2.1
  have hts := C0.2.2.2.2.1
  have hl : lv_has ls 3 [(0, .ref (ad 186))] := hl
  refine lv_aload_n hx hb (dkP dF_42 DX5_readsOld (i := 0) rfl rfl) rfl (lv_at hl 0 rfl) ?_
  refine zk_V hw (zr_V (As := []) (rest := []) C0 (c_X5_begin_0 l G kc ad  _) cv_X5_begin lk_X5_49 (zp_V C0 hw 186 shc_186 rfl rfl) rfl hl.1 rfl ⟨by decide, by decide⟩ (Nat.le_of_ble_eq_true rfl) (dk2 dF_182 DX5_readsOld (i := 1) rfl rfl rfl) ⟨Nat.le_refl _, Nat.le_refl _⟩) (fun s1 H locs hp hw => ?_)
  (rw [hp] at hw; clear hp)
  refine lv_aload_n hx hb (dkP dF_42 DX5_readsOld (i := 2) rfl rfl) rfl (lv_at hl 0 rfl) ?_
  refine z_gms C0 hw 186 10 192 ((rp_I).trans ((rp_I).trans ((rp_I).trans ((rp_I).trans ((rp_I).trans ((rp_I).trans ((rp_I).trans s0r_186_10))))))) (fk_of shc_186 rfl) fl_X5_35 (dk2 dF_180 DX5_readsOld (i := 3) rfl rfl rfl) ?_
  refine zk_V hw (zr_V (As := []) (rest := []) C0 (c_X2_clear_o l G kc ad  _) cv_X2_clear lk_X5_52 (zp_V C0 hw 192 shc_192 rfl rfl) rfl hl.1 rfl ⟨by decide, by decide⟩ (Nat.le_of_ble_eq_true rfl) (dk2 dF_182 DX5_readsOld (i := 4) rfl rfl rfl) ⟨Nat.le_refl _, Nat.le_refl _⟩) (fun s2 H locs hp hw => ?_)
  subst hp
  refine lv_iconst (v := 1) hx hb (dkP dF_4 DX5_readsOld (i := 5) rfl rfl) (by decide) ?_
  refine lv_istore_n (lv' := [(1, .int 1), (0, .ref (ad 186))]) hx hb (dkP dF_60 DX5_readsOld (i := 6) rfl rfl) rfl hl (by decide) rfl (fun ls hl => ?_)
  refine lv_iconst (v := 0) hx hb (dkP dF_3 DX5_readsOld (i := 7) rfl rfl) (by decide) ?_
  refine lv_istore_n (lv' := [(2, .int 0), (1, .int 1), (0, .ref (ad 186))]) hx hb (dkP dF_61 DX5_readsOld (i := 8) rfl rfl) rfl hl (by decide) rfl (fun ls hl => ?_)
  refine lv_iload_n hx hb (dkP dF_27 DX5_readsOld (i := 9) rfl rfl) rfl (lv_at hl 1 rfl) ?_
  refine lv_if_eq (tgt := 49) hx hb (dkS dF_153 DX5_readsOld (i := 10) rfl rfl rfl) (by decide) (fun h => absurd h (by decide)) (fun _ => ?_)
  refine lv_aload_n hx hb (dkP dF_42 DX5_readsOld (i := 11) rfl rfl) rfl (lv_at hl 2 rfl) ?_
  refine z_gr C0 hw 186 2 188 (fk_of shc_186 rfl) fl_X5_15 (dk2 dF_180 DX5_readsOld (i := 12) rfl rfl rfl) ?_
  refine lv_aload_n hx hb (dkP dF_42 DX5_readsOld (i := 13) rfl rfl) rfl (lv_at hl 2 rfl) ?_
  refine z_gi C0 hw 186 6 (fk_of shc_186 rfl) fl_X5_55 (dk2 dF_180 DX5_readsOld (i := 14) rfl rfl rfl) ?_
  refine z_top (y := 0) ((rd_n (by omega)).trans ((rd_n (by omega)).trans ((rd_n (by omega)).trans ((rd_n (by omega)).trans ((rd_n (by omega)).trans rd_s))))) ?_
  refine z_ialdN (n := 601) C0 hw 188 0 (ak_of shc_188) (by omega) (by decide) (dkP dF_46 DX5_readsOld (i := 15) rfl rfl) ?_
  refine z_top (y := 0) ((rd_n (by omega)).trans ((rd_n (by omega)).trans ((rd_n (by omega)).trans ((rd_n (by omega)).trans ((rd_n (by omega)).trans ((rd_n (by omega)).trans ((rd_n (by omega)).trans rd_s))))))) ?_
  refine lv_if_eq (tgt := 49) hx hb (dkS dF_153 DX5_readsOld (i := 16) rfl rfl rfl) (by decide) (fun _ => ?_) (fun h => absurd h (by decide))
  refine lv_iload_n hx hb (dkP dF_27 DX5_readsOld (i := 26) rfl rfl) rfl (lv_at hl 1 rfl) ?_
  refine lv_if_eq (tgt := 68) hx hb (dkS dF_153 DX5_readsOld (i := 27) rfl rfl rfl) (by decide) (fun h => absurd h (by decide)) (fun _ => ?_)
  refine lv_aload_n hx hb (dkP dF_42 DX5_readsOld (i := 28) rfl rfl) rfl (lv_at hl 2 rfl) ?_
  refine z_gms C0 hw 186 10 192 ((rp_I).trans ((rp_I).trans ((rp_I).trans ((rp_I).trans ((rp_I).trans ((rp_I).trans ((rp_I).trans ((rp_I).trans ((rp_I).trans s0r_186_10))))))))) (fk_of shc_186 rfl) fl_X5_35 (dk2 dF_180 DX5_readsOld (i := 29) rfl rfl rfl) ?_
  refine zk_V hw (zr_V (As := []) (rest := []) C0 (c_X2_findTargets_o l G kc ad  _) cv_X2_findTargets lk_X5_62 (zp_V C0 hw 192 shc_192 rfl rfl) rfl hl.1 rfl ⟨by decide, by decide⟩ (Nat.le_of_ble_eq_true rfl) (dk2 dF_182 DX5_readsOld (i := 30) rfl rfl rfl) ⟨Nat.le_refl _, Nat.le_refl _⟩) (fun s3 H locs hp hw => ?_)
  subst hp
  refine lv_aload_n hx hb (dkP dF_42 DX5_readsOld (i := 31) rfl rfl) rfl (lv_at hl 2 rfl) ?_
  refine z_gms C0 hw 186 10 192 ((rp_I).trans ((rp_I).trans ((rp_I).trans ((rp_I).trans ((rp_I).trans ((rp_I).trans ((rp_I).trans ((rp_I).trans ((rp_I).trans s0r_186_10))))))))) (fk_of shc_186 rfl) fl_X5_35 (dk2 dF_180 DX5_readsOld (i := 32) rfl rfl rfl) ?_
  refine lv_iconst (v := 1) hx hb (dkP dF_4 DX5_readsOld (i := 33) rfl rfl) (by decide) ?_
  refine z_pz C0 hw 192 0 (by decide) (fk_of shc_192 rfl) fp_X5_65 (dk2 dF_181 DX5_readsOld (i := 34) rfl rfl rfl) (fun H locs hw => ?_)
  refine lv_iload_n hx hb (dkP dF_27 DX5_readsOld (i := 35) rfl rfl) rfl (lv_at hl 1 rfl) ?_
  exact z_zret C0 hr hlk (by decide) hw (⟨rfl, rfl⟩) (dkP dF_172 DX5_readsOld (i := 36) rfl rfl)
set_option maxRecDepth 100000 in
set_option maxHeartbeats 4000000 in
theorem c_X11_old (l : Launch) (G : va_G) (kc : Nat → ClassId) (ad : Nat → Nat)  (p : Int32)  : MI l G kc yX11_old cX11_old 4 (some .int) 3 64 [.ref (ad 0), .int p] shC ad sC0 (fun r σ1 => r = if 0 ≤ p.toInt ∧ p.toInt ≤ 7 then 0 else -2) := by
  intro sz
  refine z_body (y := yX11_old) (n := 4) (av := [.ref (ad 0), .int p]) (Qc := fun A => va_Qi (fun r σ1 => r = if 0 ≤ p.toInt ∧ p.toInt ≤ 7 then 0 else -2) (PoC G kc shC ad A) A) (plainFor_of_name (by decide)) (Nat.le_of_ble_eq_true rfl) (fun pr e s m below meth c A C0 hr hlk hnm hw ls hl => ?_) sz
  have hx := C0.1
  have hb := C0.2.1
  have hown := C0.2.2.2.1
  have hts := C0.2.2.2.2.1
  have hl : lv_has ls 4 [(0, .ref (ad 0)), (1, .int p)] := hl
  refine lv_aload_n hx hb (dkP dF_42 DX11_old (i := 0) rfl rfl) rfl (lv_at hl 0 rfl) ?_
  refine lv_iload_n hx hb (dkP dF_27 DX11_old (i := 1) rfl rfl) rfl (lv_at hl 1 rfl) ?_
  refine zk_R hw (zr_V (As := [.int p]) (rest := []) C0 (c_X11_programAt l G kc ad sC0 p  _) cv_X11_programAt lk_X11_84 (zp_V C0 hw 0 shc_0 rfl rfl) rfl hl.1 rfl ⟨by decide, by decide⟩ (Nat.le_of_ble_eq_true rfl) (dk2 dF_182 DX11_old (i := 2) rfl rfl rfl) ⟨Nat.le_refl _, Nat.le_refl _⟩) (fun r1 s1 H locs hp hw => ?_)
  obtain ⟨hq1, hs1⟩ := hp
  (rw [hs1] at hw; clear hs1)
  rcases hq1 with ⟨hc1, rfl⟩ | ⟨k_p, hk_p, rfl, rfl⟩
  · skip
    refine lv_astore_nN (lv' := [(2, .null), (0, .ref (ad 0)), (1, .int p)]) hx hb (dkP dF_77 DX11_old (i := 3) rfl rfl) rfl hl (by decide) rfl (fun ls hl => ?_)
    refine lv_aload_nN hx hb (dkP dF_44 DX11_old (i := 4) rfl rfl) rfl (lv_at hl 0 rfl) ?_
    refine lv_ifnullN (tgt := 17) hx hb (dkS dF_198 DX11_old (i := 5) rfl rfl rfl) (by decide) ?_
    refine lv_bipush (v := (-2)) hx hb (dks dF_16 DX11_old (i := 9) rfl rfl rfl) (by decide) ?_
    exact z_iret C0 hr hlk hw (by first | rfl | ((try simp only [lg_cmp_lt, lg_cmp_le, lg_cmp_gt, lg_cmp_ge, lg_cmp_eq] at hc1); (try simp (disch := omega) only [ta_lt, ta_le, ta_eq, tb_lt, tb_le, tb_eq, tw, tnI, tn32 2 (by decide), tnj 2 (by decide), tn32 1 (by decide), tnj 1 (by decide), tl32 0 (by decide), tl64 0 (by decide)] at hc1); (try simp (disch := omega) only [tnI, tn32 2 (by decide), tnj 2 (by decide), tn32 1 (by decide), tnj 1 (by decide), tl32 0 (by decide), tl64 0 (by decide)]); (repeat' split) <;> first | rfl | omega | (apply Int32.toInt_inj.mp; simp (disch := omega) only [tnI, tn32 2 (by decide), tnj 2 (by decide), tn32 1 (by decide), tnj 1 (by decide), tl32 0 (by decide), tl64 0 (by decide)]; omega))) (dkP dF_172 DX11_old (i := 10) rfl rfl)
  · skip
    refine lv_astore_n (lv' := [(2, .ref (ad (8 + 22 * k_p))), (0, .ref (ad 0)), (1, .int (nI k_p))]) hx hb (dkP dF_77 DX11_old (i := 3) rfl rfl) rfl hl (by decide) rfl (fun ls hl => ?_)
    refine lv_aload_n hx hb (dkP dF_44 DX11_old (i := 4) rfl rfl) rfl (lv_at hl 0 rfl) ?_
    refine lv_ifnull hx hb (dkS dF_198 DX11_old (i := 5) rfl rfl rfl) ?_
    refine lv_aload_n hx hb (dkP dF_44 DX11_old (i := 6) rfl rfl) rfl (lv_at hl 0 rfl) ?_
    refine z_gi C0 hw (8 + 22 * k_p) 0 (fk_of (shp_8 k_p (by omega)) rfl) fl_X11_88 (dk2 dF_180 DX11_old (i := 7) rfl rfl rfl) ?_
    refine z_top (y := 0) (s0p_8_0 k_p (by omega)) ?_
    refine lv_if_eq (tgt := 20) hx hb (dkS dF_153 DX11_old (i := 8) rfl rfl rfl) (by decide) (fun _ => ?_) (fun h => absurd h (by decide))
    refine lv_aload_n hx hb (dkP dF_42 DX11_old (i := 11) rfl rfl) rfl (lv_at hl 1 rfl) ?_
    refine z_gr C0 hw 0 3 186 (fk_of shc_0 rfl) fl_X11_27 (dk2 dF_180 DX11_old (i := 12) rfl rfl rfl) ?_
    refine zk_I hw (zr_V (As := []) (rest := []) C0 (c_X5_readsOld_o l G kc ad  _) cv_X5_readsOld lk_X11_93 (zp_V C0 hw 186 shc_186 rfl rfl) rfl hl.1 rfl ⟨by decide, by decide⟩ (Nat.le_of_ble_eq_true rfl) (dk2 dF_182 DX11_old (i := 13) rfl rfl rfl) ⟨Nat.le_refl _, Nat.le_refl _⟩) (fun r2 s2 H locs hp hw => ?_)
    obtain ⟨rfl, hs2⟩ := hp
    (rw [hs2] at hw; clear hs2)
    refine lv_if_ne (tgt := 33) hx hb (dkS dF_154 DX11_old (i := 14) rfl rfl rfl) (by decide) (fun _ => ?_) (fun h => absurd h (by decide))
    refine lv_aload_n hx hb (dkP dF_44 DX11_old (i := 17) rfl rfl) rfl (lv_at hl 0 rfl) ?_
    refine z_gms C0 hw (8 + 22 * k_p) 2 (9 + 22 * k_p) ((rp_I).trans ((rp_I).trans ((rp_I).trans ((rp_I).trans ((rp_I).trans ((rp_I).trans ((rp_I).trans ((rp_I).trans ((rp_I).trans ((rp_I).trans (s0rp_8_2 k_p (by omega)))))))))))) (fk_of (shp_8 k_p (by omega)) rfl) fl_X11_97 (dk2 dF_180 DX11_old (i := 18) rfl rfl rfl) ?_
    refine lv_astore_n (lv' := [(3, .ref (ad (9 + 22 * k_p))), (2, .ref (ad (8 + 22 * k_p))), (0, .ref (ad 0)), (1, .int (nI k_p))]) hx hb (dkP dF_78 DX11_old (i := 19) rfl rfl) rfl hl (by decide) rfl (fun ls hl => ?_)
    refine lv_aload_n hx hb (dkP dF_44 DX11_old (i := 20) rfl rfl) rfl (lv_at hl 1 rfl) ?_
    refine lv_aload_n hx hb (dkP dF_42 DX11_old (i := 21) rfl rfl) rfl (lv_at hl 2 rfl) ?_
    refine z_gr C0 hw 0 3 186 (fk_of shc_0 rfl) fl_X11_27 (dk2 dF_180 DX11_old (i := 22) rfl rfl rfl) ?_
    refine z_gms C0 hw 186 10 192 ((rp_I).trans ((rp_I).trans ((rp_I).trans ((rp_I).trans ((rp_I).trans ((rp_I).trans ((rp_I).trans ((rp_I).trans ((rp_I).trans ((rp_I).trans s0r_186_10)))))))))) (fk_of shc_186 rfl) fl_X11_101 (dk2 dF_180 DX11_old (i := 23) rfl rfl rfl) ?_
    refine z_pm C0 hw (8 + 22 * k_p) 2 192 (fk_of (shp_8 k_p (by omega)) rfl) fp_X11_97 (dk2 dF_181 DX11_old (i := 24) rfl rfl rfl) (fun H locs hw => ?_)
    refine lv_aload_n hx hb (dkP dF_42 DX11_old (i := 25) rfl rfl) rfl (lv_at hl 2 rfl) ?_
    refine z_gr C0 hw 0 3 186 (fk_of shc_0 rfl) fl_X11_27 (dk2 dF_180 DX11_old (i := 26) rfl rfl rfl) ?_
    refine lv_aload_n hx hb (dkP dF_45 DX11_old (i := 27) rfl rfl) rfl (lv_at hl 0 rfl) ?_
    refine z_pm C0 hw 186 10 (9 + 22 * k_p) (fk_of shc_186 rfl) fp_X11_101 (dk2 dF_181 DX11_old (i := 28) rfl rfl rfl) (fun H locs hw => ?_)
    refine lv_aload_n hx hb (dkP dF_44 DX11_old (i := 29) rfl rfl) rfl (lv_at hl 1 rfl) ?_
    refine z_gms C0 hw (8 + 22 * k_p) 2 192 ((rp_n (by omega)).trans rp_s) (fk_of (shp_8 k_p (by omega)) rfl) fl_X11_97 (dk2 dF_180 DX11_old (i := 30) rfl rfl rfl) ?_
    refine z_gi C0 hw 192 1 (fk_of shc_192 rfl) fl_X11_102 (dk2 dF_180 DX11_old (i := 31) rfl rfl rfl) ?_
    refine z_top (y := 0) ((rd_P).trans ((rd_P).trans ((rd_n (by omega)).trans ((rd_n (by omega)).trans rd_s)))) ?_
    exact z_iret C0 hr hlk hw (by first | rfl | ((try simp only [lg_cmp_lt, lg_cmp_le, lg_cmp_gt, lg_cmp_ge, lg_cmp_eq] at hk_p); (try simp (disch := omega) only [ta_lt, ta_le, ta_eq, tb_lt, tb_le, tb_eq, tw, tnI, tn32 2 (by decide), tnj 2 (by decide), tn32 1 (by decide), tnj 1 (by decide), tl32 0 (by decide), tl64 0 (by decide)] at hk_p); (try simp (disch := omega) only [tnI, tn32 2 (by decide), tnj 2 (by decide), tn32 1 (by decide), tnj 1 (by decide), tl32 0 (by decide), tl64 0 (by decide)]); (repeat' split) <;> first | rfl | omega | (apply Int32.toInt_inj.mp; simp (disch := omega) only [tnI, tn32 2 (by decide), tnj 2 (by decide), tn32 1 (by decide), tnj 1 (by decide), tl32 0 (by decide), tl64 0 (by decide)]; omega))) (dkP dF_172 DX11_old (i := 32) rfl rfl)
set_option maxRecDepth 20000 in
theorem shc_208 : shC[208]? = some (0, 8, [(1, 209), (0, 0)]) := by rfl
set_option maxRecDepth 100000 in
set_option maxHeartbeats 4000000 in
theorem c_X8_clear_n (l : Launch) (G : va_G) (kc : Nat → ClassId) (ad : Nat → Nat)    : MV l G kc yX8_clear cX8_clear 1 0 0 [.ref (ad 208)] shC ad (sI (sI (sI (sI (sI (sI (sI (sI (sI sC0 186 5 0) 188 0 0) 190 0 0) 186 6 0) 186 7 0) 186 8 (-1)) 186 1 0) 202 1 0) 202 3 0) (fun σ1 => σ1 = sI (sI (sI (sI (sI (sI (sI (sI (sI (sI sC0 186 5 0) 188 0 0) 190 0 0) 186 6 0) 186 7 0) 186 8 (-1)) 186 1 0) 202 1 0) 202 3 0) 208 1 0) := by
  intro sz
  refine z_body (y := yX8_clear) (n := 1) (av := [.ref (ad 208)]) (Qc := fun A => va_Qv (fun σ1 => σ1 = sI (sI (sI (sI (sI (sI (sI (sI (sI (sI sC0 186 5 0) 188 0 0) 190 0 0) 186 6 0) 186 7 0) 186 8 (-1)) 186 1 0) 202 1 0) 202 3 0) 208 1 0) (PoC G kc shC ad A) A) (plainFor_of_name (by decide)) (Nat.le_of_ble_eq_true rfl) (fun pr e s m below meth c A C0 hr hlk hnm hw ls hl => ?_) sz
  have hx := C0.1
  have hb := C0.2.1
  have hown := C0.2.2.2.1
  have hts := C0.2.2.2.2.1
  have hl : lv_has ls 1 [(0, .ref (ad 208))] := hl
  refine lv_aload_n hx hb (dkP dF_42 DX8_clear (i := 0) rfl rfl) rfl (lv_at hl 0 rfl) ?_
  refine lv_iconst (v := 0) hx hb (dkP dF_3 DX8_clear (i := 1) rfl rfl) (by decide) ?_
  refine z_pi C0 hw 208 1 (fk_of shc_208 rfl) fp_X8_15 (dk2 dF_181 DX8_clear (i := 2) rfl rfl rfl) (fun H locs hw => ?_)
  exact z_vret C0 hr hlk hw rfl (dkP dF_177 DX8_clear (i := 3) rfl rfl)
set_option maxRecDepth 20000 in
theorem shc_202 : shC[202]? = some (0, 1, [(0, 0), (0, 0), (0, 0), (0, 0), (1, 203), (1, 204), (1, 205), (1, 206), (1, 207), (1, 208)]) := by rfl
set_option maxRecDepth 100000 in
set_option maxHeartbeats 4000000 in
theorem c_X1_clear_n (l : Launch) (G : va_G) (kc : Nat → ClassId) (ad : Nat → Nat)    : MV l G kc yX1_clear cX1_clear 1 1 20 [.ref (ad 202)] shC ad (sI (sI (sI (sI (sI (sI (sI sC0 186 5 0) 188 0 0) 190 0 0) 186 6 0) 186 7 0) 186 8 (-1)) 186 1 0) (fun σ1 => σ1 = sI (sI (sI (sI (sI (sI (sI (sI (sI (sI sC0 186 5 0) 188 0 0) 190 0 0) 186 6 0) 186 7 0) 186 8 (-1)) 186 1 0) 202 1 0) 202 3 0) 208 1 0) := by
  intro sz
  refine z_body (y := yX1_clear) (n := 1) (av := [.ref (ad 202)]) (Qc := fun A => va_Qv (fun σ1 => σ1 = sI (sI (sI (sI (sI (sI (sI (sI (sI (sI sC0 186 5 0) 188 0 0) 190 0 0) 186 6 0) 186 7 0) 186 8 (-1)) 186 1 0) 202 1 0) 202 3 0) 208 1 0) (PoC G kc shC ad A) A) (plainFor_of_name (by decide)) (Nat.le_of_ble_eq_true rfl) (fun pr e s m below meth c A C0 hr hlk hnm hw ls hl => ?_) sz
  have hx := C0.1
  have hb := C0.2.1
  have hown := C0.2.2.2.1
  have hts := C0.2.2.2.2.1
  have hl : lv_has ls 1 [(0, .ref (ad 202))] := hl
  refine lv_aload_n hx hb (dkP dF_42 DX1_clear (i := 0) rfl rfl) rfl (lv_at hl 0 rfl) ?_
  refine lv_iconst (v := 0) hx hb (dkP dF_3 DX1_clear (i := 1) rfl rfl) (by decide) ?_
  refine z_pz C0 hw 202 1 (by decide) (fk_of shc_202 rfl) fp_X1_36 (dk2 dF_181 DX1_clear (i := 2) rfl rfl rfl) (fun H locs hw => ?_)
  refine lv_aload_n hx hb (dkP dF_42 DX1_clear (i := 3) rfl rfl) rfl (lv_at hl 0 rfl) ?_
  refine lv_iconst (v := 0) hx hb (dkP dF_3 DX1_clear (i := 4) rfl rfl) (by decide) ?_
  refine z_pi C0 hw 202 3 (fk_of shc_202 rfl) fp_X1_40 (dk2 dF_181 DX1_clear (i := 5) rfl rfl rfl) (fun H locs hw => ?_)
  refine lv_aload_n hx hb (dkP dF_42 DX1_clear (i := 6) rfl rfl) rfl (lv_at hl 0 rfl) ?_
  refine z_gr C0 hw 202 9 208 (fk_of shc_202 rfl) fl_X1_32 (dk2 dF_180 DX1_clear (i := 7) rfl rfl rfl) ?_
  refine zk_V hw (zr_V (As := []) (rest := []) C0 (c_X8_clear_n l G kc ad  _) cv_X8_clear lk_X1_44 (zp_V C0 hw 208 shc_208 rfl rfl) rfl hl.1 rfl ⟨by decide, by decide⟩ (Nat.le_of_ble_eq_true rfl) (dk2 dF_182 DX1_clear (i := 8) rfl rfl rfl) ⟨Nat.le_refl _, Nat.le_refl _⟩) (fun s1 H locs hp hw => ?_)
  subst hp
  exact z_vret C0 hr hlk hw rfl (dkP dF_177 DX1_clear (i := 9) rfl rfl)
set_option maxRecDepth 20000 in
theorem s0r_186_11 : sC0.2.2 186 11 = some 202 := by rfl
set_option maxRecDepth 100000 in
set_option maxHeartbeats 4000000 in
theorem c_X5_readsNew_n (l : Launch) (G : va_G) (kc : Nat → ClassId) (ad : Nat → Nat)    : MI l G kc yX5_readsNew cX5_readsNew 5 (some .boolean) 2 42 [.ref (ad 186)] shC ad sC0 (fun r σ1 => r = 1 ∧ σ1 = sI (sI (sI (sI (sI (sI (sI (sI (sI (sI sC0 186 5 0) 188 0 0) 190 0 0) 186 6 0) 186 7 0) 186 8 (-1)) 186 1 0) 202 1 0) 202 3 0) 208 1 0) := by
  intro sz
  refine z_body (y := yX5_readsNew) (n := 5) (av := [.ref (ad 186)]) (Qc := fun A => va_Qi (fun r σ1 => r = 1 ∧ σ1 = sI (sI (sI (sI (sI (sI (sI (sI (sI (sI sC0 186 5 0) 188 0 0) 190 0 0) 186 6 0) 186 7 0) 186 8 (-1)) 186 1 0) 202 1 0) 202 3 0) 208 1 0) (PoC G kc shC ad A) A) (plainFor_of_name (by decide)) (Nat.le_of_ble_eq_true rfl) (fun pr e s m below meth c A C0 hr hlk hnm hw ls hl => ?_) sz
  have hx := C0.1
  have hb := C0.2.1
  have hown := C0.2.2.2.1
  have hts := C0.2.2.2.2.1
  have hl : lv_has ls 5 [(0, .ref (ad 186))] := hl
  refine lv_aload_n hx hb (dkP dF_42 DX5_readsNew (i := 0) rfl rfl) rfl (lv_at hl 0 rfl) ?_
  refine zk_V hw (zr_V (As := []) (rest := []) C0 (c_X5_begin_0 l G kc ad  _) cv_X5_begin lk_X5_49 (zp_V C0 hw 186 shc_186 rfl rfl) rfl hl.1 rfl ⟨by decide, by decide⟩ (Nat.le_of_ble_eq_true rfl) (dk2 dF_182 DX5_readsNew (i := 1) rfl rfl rfl) ⟨Nat.le_refl _, Nat.le_refl _⟩) (fun s1 H locs hp hw => ?_)
  (rw [hp] at hw; clear hp)
  refine lv_aload_n hx hb (dkP dF_42 DX5_readsNew (i := 2) rfl rfl) rfl (lv_at hl 0 rfl) ?_
  refine z_gms C0 hw 186 11 202 ((rp_I).trans ((rp_I).trans ((rp_I).trans ((rp_I).trans ((rp_I).trans ((rp_I).trans ((rp_I).trans s0r_186_11))))))) (fk_of shc_186 rfl) fl_X5_42 (dk2 dF_180 DX5_readsNew (i := 3) rfl rfl rfl) ?_
  refine zk_V hw (zr_V (As := []) (rest := []) C0 (c_X1_clear_n l G kc ad  _) cv_X1_clear lk_X5_69 (zp_V C0 hw 202 shc_202 rfl rfl) rfl hl.1 rfl ⟨by decide, by decide⟩ (Nat.le_of_ble_eq_true rfl) (dk2 dF_182 DX5_readsNew (i := 4) rfl rfl rfl) ⟨Nat.le_refl _, Nat.le_refl _⟩) (fun s2 H locs hp hw => ?_)
  subst hp
  refine lv_iconst (v := 1) hx hb (dkP dF_4 DX5_readsNew (i := 5) rfl rfl) (by decide) ?_
  refine lv_istore_n (lv' := [(1, .int 1), (0, .ref (ad 186))]) hx hb (dkP dF_60 DX5_readsNew (i := 6) rfl rfl) rfl hl (by decide) rfl (fun ls hl => ?_)
  refine lv_iconst (v := 0) hx hb (dkP dF_3 DX5_readsNew (i := 7) rfl rfl) (by decide) ?_
  refine lv_istore_n (lv' := [(2, .int 0), (1, .int 1), (0, .ref (ad 186))]) hx hb (dkP dF_61 DX5_readsNew (i := 8) rfl rfl) rfl hl (by decide) rfl (fun ls hl => ?_)
  refine lv_iconst (v := 0) hx hb (dkP dF_3 DX5_readsNew (i := 9) rfl rfl) (by decide) ?_
  refine lv_istore_n (lv' := [(3, .int 0), (2, .int 0), (1, .int 1), (0, .ref (ad 186))]) hx hb (dkP dF_62 DX5_readsNew (i := 10) rfl rfl) rfl hl (by decide) rfl (fun ls hl => ?_)
  refine lv_iload_n hx hb (dkP dF_27 DX5_readsNew (i := 11) rfl rfl) rfl (lv_at hl 2 rfl) ?_
  refine lv_if_eq (tgt := 87) hx hb (dkS dF_153 DX5_readsNew (i := 12) rfl rfl rfl) (by decide) (fun h => absurd h (by decide)) (fun _ => ?_)
  refine lv_aload_n hx hb (dkP dF_42 DX5_readsNew (i := 13) rfl rfl) rfl (lv_at hl 3 rfl) ?_
  refine z_gr C0 hw 186 2 188 (fk_of shc_186 rfl) fl_X5_15 (dk2 dF_180 DX5_readsNew (i := 14) rfl rfl rfl) ?_
  refine lv_aload_n hx hb (dkP dF_42 DX5_readsNew (i := 15) rfl rfl) rfl (lv_at hl 3 rfl) ?_
  refine z_gi C0 hw 186 6 (fk_of shc_186 rfl) fl_X5_55 (dk2 dF_180 DX5_readsNew (i := 16) rfl rfl rfl) ?_
  refine z_top (y := 0) ((rd_n (by omega)).trans ((rd_n (by omega)).trans ((rd_n (by omega)).trans ((rd_n (by omega)).trans ((rd_n (by omega)).trans ((rd_n (by omega)).trans rd_s)))))) ?_
  refine z_ialdN (n := 601) C0 hw 188 0 (ak_of shc_188) (by omega) (by decide) (dkP dF_46 DX5_readsNew (i := 17) rfl rfl) ?_
  refine z_top (y := 0) ((rd_n (by omega)).trans ((rd_n (by omega)).trans ((rd_n (by omega)).trans ((rd_n (by omega)).trans ((rd_n (by omega)).trans ((rd_n (by omega)).trans ((rd_n (by omega)).trans ((rd_n (by omega)).trans rd_s)))))))) ?_
  refine lv_if_eq (tgt := 87) hx hb (dkS dF_153 DX5_readsNew (i := 18) rfl rfl rfl) (by decide) (fun _ => ?_) (fun h => absurd h (by decide))
  refine lv_iload_n hx hb (dkP dF_27 DX5_readsNew (i := 47) rfl rfl) rfl (lv_at hl 2 rfl) ?_
  exact z_zret C0 hr hlk (by decide) hw (⟨rfl, rfl⟩) (dkP dF_172 DX5_readsNew (i := 48) rfl rfl)
set_option maxRecDepth 100000 in
set_option maxHeartbeats 4000000 in
theorem c_X11_takeNewText_n (l : Launch) (G : va_G) (kc : Nat → ClassId) (ad : Nat → Nat) (k_p : Nat)  (hk_p : k_p < 8) : MV l G kc yX11_takeNewText cX11_takeNewText 3 0 0 [.ref (ad 0), .ref (ad (8 + 22 * k_p))] shC ad (sI (sI (sI (sI (sI (sI (sI (sI (sI (sI sC0 186 5 0) 188 0 0) 190 0 0) 186 6 0) 186 7 0) 186 8 (-1)) 186 1 0) 202 1 0) 202 3 0) 208 1 0) (fun σ1 => σ1 = sI (sI (sI (sP (sP (sI (sI (sI (sI (sI (sI (sI (sI (sI (sI sC0 186 5 0) 188 0 0) 190 0 0) 186 6 0) 186 7 0) 186 8 (-1)) 186 1 0) 202 1 0) 202 3 0) 208 1 0) (8 + 22 * k_p) 3 (some 202)) 186 11 (some (19 + 22 * k_p))) 202 0 1) (8 + 22 * k_p) 0 1) (8 + 22 * k_p) 1 (-1)) := by
  intro sz
  refine z_body (y := yX11_takeNewText) (n := 3) (av := [.ref (ad 0), .ref (ad (8 + 22 * k_p))]) (Qc := fun A => va_Qv (fun σ1 => σ1 = sI (sI (sI (sP (sP (sI (sI (sI (sI (sI (sI (sI (sI (sI (sI sC0 186 5 0) 188 0 0) 190 0 0) 186 6 0) 186 7 0) 186 8 (-1)) 186 1 0) 202 1 0) 202 3 0) 208 1 0) (8 + 22 * k_p) 3 (some 202)) 186 11 (some (19 + 22 * k_p))) 202 0 1) (8 + 22 * k_p) 0 1) (8 + 22 * k_p) 1 (-1)) (PoC G kc shC ad A) A) (plainFor_of_name (by decide)) (Nat.le_of_ble_eq_true rfl) (fun pr e s m below meth c A C0 hr hlk hnm hw ls hl => ?_) sz
  have hx := C0.1
  have hb := C0.2.1
  have hown := C0.2.2.2.1
  have hts := C0.2.2.2.2.1
  have hl : lv_has ls 3 [(0, .ref (ad 0)), (1, .ref (ad (8 + 22 * k_p)))] := hl
  refine lv_aload_n hx hb (dkP dF_43 DX11_takeNewText (i := 0) rfl rfl) rfl (lv_at hl 1 rfl) ?_
  refine z_gms C0 hw (8 + 22 * k_p) 3 (19 + 22 * k_p) ((rp_I).trans ((rp_I).trans ((rp_I).trans ((rp_I).trans ((rp_I).trans ((rp_I).trans ((rp_I).trans ((rp_I).trans ((rp_I).trans ((rp_I).trans (s0rp_8_3 k_p (by omega)))))))))))) (fk_of (shp_8 k_p (by omega)) rfl) fl_X11_117 (dk2 dF_180 DX11_takeNewText (i := 1) rfl rfl rfl) ?_
  refine lv_astore_n (lv' := [(2, .ref (ad (19 + 22 * k_p))), (0, .ref (ad 0)), (1, .ref (ad (8 + 22 * k_p)))]) hx hb (dkP dF_77 DX11_takeNewText (i := 2) rfl rfl) rfl hl (by decide) rfl (fun ls hl => ?_)
  refine lv_aload_n hx hb (dkP dF_43 DX11_takeNewText (i := 3) rfl rfl) rfl (lv_at hl 2 rfl) ?_
  refine lv_aload_n hx hb (dkP dF_42 DX11_takeNewText (i := 4) rfl rfl) rfl (lv_at hl 1 rfl) ?_
  refine z_gr C0 hw 0 3 186 (fk_of shc_0 rfl) fl_X11_27 (dk2 dF_180 DX11_takeNewText (i := 5) rfl rfl rfl) ?_
  refine z_gms C0 hw 186 11 202 ((rp_I).trans ((rp_I).trans ((rp_I).trans ((rp_I).trans ((rp_I).trans ((rp_I).trans ((rp_I).trans ((rp_I).trans ((rp_I).trans ((rp_I).trans s0r_186_11)))))))))) (fk_of shc_186 rfl) fl_X11_193 (dk2 dF_180 DX11_takeNewText (i := 6) rfl rfl rfl) ?_
  refine z_pm C0 hw (8 + 22 * k_p) 3 202 (fk_of (shp_8 k_p (by omega)) rfl) fp_X11_117 (dk2 dF_181 DX11_takeNewText (i := 7) rfl rfl rfl) (fun H locs hw => ?_)
  refine lv_aload_n hx hb (dkP dF_42 DX11_takeNewText (i := 8) rfl rfl) rfl (lv_at hl 1 rfl) ?_
  refine z_gr C0 hw 0 3 186 (fk_of shc_0 rfl) fl_X11_27 (dk2 dF_180 DX11_takeNewText (i := 9) rfl rfl rfl) ?_
  refine lv_aload_n hx hb (dkP dF_44 DX11_takeNewText (i := 10) rfl rfl) rfl (lv_at hl 0 rfl) ?_
  refine z_pm C0 hw 186 11 (19 + 22 * k_p) (fk_of shc_186 rfl) fp_X11_193 (dk2 dF_181 DX11_takeNewText (i := 11) rfl rfl rfl) (fun H locs hw => ?_)
  refine lv_aload_n hx hb (dkP dF_43 DX11_takeNewText (i := 12) rfl rfl) rfl (lv_at hl 2 rfl) ?_
  refine z_gms C0 hw (8 + 22 * k_p) 3 202 ((rp_n (by omega)).trans rp_s) (fk_of (shp_8 k_p (by omega)) rfl) fl_X11_117 (dk2 dF_180 DX11_takeNewText (i := 13) rfl rfl rfl) ?_
  refine lv_iconst (v := 1) hx hb (dkP dF_4 DX11_takeNewText (i := 14) rfl rfl) (by decide) ?_
  refine z_pz C0 hw 202 0 (by decide) (fk_of shc_202 rfl) fp_X11_167 (dk2 dF_181 DX11_takeNewText (i := 15) rfl rfl rfl) (fun H locs hw => ?_)
  refine lv_aload_n hx hb (dkP dF_43 DX11_takeNewText (i := 16) rfl rfl) rfl (lv_at hl 2 rfl) ?_
  refine lv_iconst (v := 1) hx hb (dkP dF_4 DX11_takeNewText (i := 17) rfl rfl) (by decide) ?_
  refine z_pi C0 hw (8 + 22 * k_p) 0 (fk_of (shp_8 k_p (by omega)) rfl) fp_X11_88 (dk2 dF_181 DX11_takeNewText (i := 18) rfl rfl rfl) (fun H locs hw => ?_)
  refine lv_aload_n hx hb (dkP dF_43 DX11_takeNewText (i := 19) rfl rfl) rfl (lv_at hl 2 rfl) ?_
  refine lv_iconst (v := (-1)) hx hb (dkP dF_2 DX11_takeNewText (i := 20) rfl rfl) (by decide) ?_
  refine z_pi C0 hw (8 + 22 * k_p) 1 (fk_of (shp_8 k_p (by omega)) rfl) fp_X11_140 (dk2 dF_181 DX11_takeNewText (i := 21) rfl rfl rfl) (fun H locs hw => ?_)
  exact z_vret C0 hr hlk hw rfl (dkP dF_177 DX11_takeNewText (i := 22) rfl rfl)
set_option maxRecDepth 100000 in
set_option maxHeartbeats 4000000 in
theorem c_X11_renew (l : Launch) (G : va_G) (kc : Nat → ClassId) (ad : Nat → Nat)  (p : Int32)  : MI l G kc yX11_renew cX11_renew 3 (some .int) 3 66 [.ref (ad 0), .int p] shC ad sC0 (fun r σ1 => r = if 0 ≤ p.toInt ∧ p.toInt ≤ 7 then 0 else -2) := by
  intro sz
  refine z_body (y := yX11_renew) (n := 3) (av := [.ref (ad 0), .int p]) (Qc := fun A => va_Qi (fun r σ1 => r = if 0 ≤ p.toInt ∧ p.toInt ≤ 7 then 0 else -2) (PoC G kc shC ad A) A) (plainFor_of_name (by decide)) (Nat.le_of_ble_eq_true rfl) (fun pr e s m below meth c A C0 hr hlk hnm hw ls hl => ?_) sz
  have hx := C0.1
  have hb := C0.2.1
  have hown := C0.2.2.2.1
  have hts := C0.2.2.2.2.1
  have hl : lv_has ls 3 [(0, .ref (ad 0)), (1, .int p)] := hl
  refine lv_aload_n hx hb (dkP dF_42 DX11_renew (i := 0) rfl rfl) rfl (lv_at hl 0 rfl) ?_
  refine lv_iload_n hx hb (dkP dF_27 DX11_renew (i := 1) rfl rfl) rfl (lv_at hl 1 rfl) ?_
  refine zk_R hw (zr_V (As := [.int p]) (rest := []) C0 (c_X11_programAt l G kc ad sC0 p  _) cv_X11_programAt lk_X11_84 (zp_V C0 hw 0 shc_0 rfl rfl) rfl hl.1 rfl ⟨by decide, by decide⟩ (Nat.le_of_ble_eq_true rfl) (dk2 dF_182 DX11_renew (i := 2) rfl rfl rfl) ⟨Nat.le_refl _, Nat.le_refl _⟩) (fun r1 s1 H locs hp hw => ?_)
  obtain ⟨hq1, hs1⟩ := hp
  (rw [hs1] at hw; clear hs1)
  rcases hq1 with ⟨hc1, rfl⟩ | ⟨k_p, hk_p, rfl, rfl⟩
  · skip
    refine lv_astore_nN (lv' := [(2, .null), (0, .ref (ad 0)), (1, .int p)]) hx hb (dkP dF_77 DX11_renew (i := 3) rfl rfl) rfl hl (by decide) rfl (fun ls hl => ?_)
    refine lv_aload_nN hx hb (dkP dF_44 DX11_renew (i := 4) rfl rfl) rfl (lv_at hl 0 rfl) ?_
    refine lv_ifnullN (tgt := 17) hx hb (dkS dF_198 DX11_renew (i := 5) rfl rfl rfl) (by decide) ?_
    refine lv_bipush (v := (-2)) hx hb (dks dF_16 DX11_renew (i := 9) rfl rfl rfl) (by decide) ?_
    exact z_iret C0 hr hlk hw (by first | rfl | ((try simp only [lg_cmp_lt, lg_cmp_le, lg_cmp_gt, lg_cmp_ge, lg_cmp_eq] at hc1); (try simp (disch := omega) only [ta_lt, ta_le, ta_eq, tb_lt, tb_le, tb_eq, tw, tnI, tn32 2 (by decide), tnj 2 (by decide), tn32 1 (by decide), tnj 1 (by decide), tl32 0 (by decide), tl64 0 (by decide)] at hc1); (try simp (disch := omega) only [tnI, tn32 2 (by decide), tnj 2 (by decide), tn32 1 (by decide), tnj 1 (by decide), tl32 0 (by decide), tl64 0 (by decide)]); (repeat' split) <;> first | rfl | omega | (apply Int32.toInt_inj.mp; simp (disch := omega) only [tnI, tn32 2 (by decide), tnj 2 (by decide), tn32 1 (by decide), tnj 1 (by decide), tl32 0 (by decide), tl64 0 (by decide)]; omega))) (dkP dF_172 DX11_renew (i := 10) rfl rfl)
  · skip
    refine lv_astore_n (lv' := [(2, .ref (ad (8 + 22 * k_p))), (0, .ref (ad 0)), (1, .int (nI k_p))]) hx hb (dkP dF_77 DX11_renew (i := 3) rfl rfl) rfl hl (by decide) rfl (fun ls hl => ?_)
    refine lv_aload_n hx hb (dkP dF_44 DX11_renew (i := 4) rfl rfl) rfl (lv_at hl 0 rfl) ?_
    refine lv_ifnull hx hb (dkS dF_198 DX11_renew (i := 5) rfl rfl rfl) ?_
    refine lv_aload_n hx hb (dkP dF_44 DX11_renew (i := 6) rfl rfl) rfl (lv_at hl 0 rfl) ?_
    refine zk_I hw (zr_V (As := []) (rest := []) C0 (c_X4_mayChange l G kc ad k_p (by first | omega | assumption | decide | rfl) _) cv_X4_mayChange lk_X11_107 (zp_V C0 hw (8 + 22 * k_p) (shp_8 k_p (by omega)) rfl rfl) rfl hl.1 rfl ⟨by decide, by decide⟩ (Nat.le_of_ble_eq_true rfl) (dk2 dF_182 DX11_renew (i := 7) rfl rfl rfl) ⟨Nat.le_refl _, Nat.le_refl _⟩) (fun r2 s2 H locs hp hw => ?_)
    obtain ⟨hq2, hs2⟩ := hp
    (rw [hs2] at hw; clear hs2)
    rcases hq2 with ⟨rfl, hc2⟩ | ⟨rfl, hc2⟩
    · skip
      refine lv_if_ne (tgt := 20) hx hb (dkS dF_154 DX11_renew (i := 8) rfl rfl rfl) (by decide) (fun _ => ?_) (fun h => absurd h (by decide))
      refine lv_aload_n hx hb (dkP dF_42 DX11_renew (i := 11) rfl rfl) rfl (lv_at hl 1 rfl) ?_
      refine z_gr C0 hw 0 3 186 (fk_of shc_0 rfl) fl_X11_27 (dk2 dF_180 DX11_renew (i := 12) rfl rfl rfl) ?_
      refine zk_I hw (zr_V (As := []) (rest := []) C0 (c_X5_readsNew_n l G kc ad  _) cv_X5_readsNew lk_X11_110 (zp_V C0 hw 186 shc_186 rfl rfl) rfl hl.1 rfl ⟨by decide, by decide⟩ (Nat.le_of_ble_eq_true rfl) (dk2 dF_182 DX11_renew (i := 13) rfl rfl rfl) ⟨Nat.le_refl _, Nat.le_refl _⟩) (fun r3 s3 H locs hp hw => ?_)
      obtain ⟨rfl, hs3⟩ := hp
      (rw [hs3] at hw; clear hs3)
      refine lv_if_ne (tgt := 33) hx hb (dkS dF_154 DX11_renew (i := 14) rfl rfl rfl) (by decide) (fun _ => ?_) (fun h => absurd h (by decide))
      refine lv_aload_n hx hb (dkP dF_42 DX11_renew (i := 17) rfl rfl) rfl (lv_at hl 1 rfl) ?_
      refine lv_aload_n hx hb (dkP dF_44 DX11_renew (i := 18) rfl rfl) rfl (lv_at hl 0 rfl) ?_
      refine zk_V hw (zr_V (As := [.ref (ad (8 + 22 * k_p))]) (rest := []) C0 (c_X11_takeNewText_n l G kc ad k_p (by first | omega | assumption | decide | rfl) _) cv_X11_takeNewText lk_X11_113 (zp_V C0 hw 0 shc_0 rfl rfl) rfl hl.1 rfl ⟨by decide, by decide⟩ (Nat.le_of_ble_eq_true rfl) (dk2 dF_182 DX11_renew (i := 19) rfl rfl rfl) ⟨Nat.le_refl _, Nat.le_refl _⟩) (fun s4 H locs hp hw => ?_)
      subst hp
      refine lv_aload_n hx hb (dkP dF_44 DX11_renew (i := 20) rfl rfl) rfl (lv_at hl 0 rfl) ?_
      refine z_gms C0 hw (8 + 22 * k_p) 3 202 ((rp_I).trans ((rp_I).trans ((rp_I).trans ((rp_n (by omega)).trans rp_s)))) (fk_of (shp_8 k_p (by omega)) rfl) fl_X11_117 (dk2 dF_180 DX11_renew (i := 21) rfl rfl rfl) ?_
      refine z_gi C0 hw 202 3 (fk_of shc_202 rfl) fl_X11_121 (dk2 dF_180 DX11_renew (i := 22) rfl rfl rfl) ?_
      refine z_top (y := 0) ((rd_n (by omega)).trans ((rd_n (by omega)).trans ((rd_n (by omega)).trans ((rd_P).trans ((rd_P).trans ((rd_n (by omega)).trans rd_s)))))) ?_
      exact z_iret C0 hr hlk hw (by first | rfl | ((try simp only [lg_cmp_lt, lg_cmp_le, lg_cmp_gt, lg_cmp_ge, lg_cmp_eq] at hk_p); (try simp (disch := omega) only [ta_lt, ta_le, ta_eq, tb_lt, tb_le, tb_eq, tw, tnI, tn32 2 (by decide), tnj 2 (by decide), tn32 1 (by decide), tnj 1 (by decide), tl32 0 (by decide), tl64 0 (by decide)] at hk_p); (try simp only [lg_cmp_lt, lg_cmp_le, lg_cmp_gt, lg_cmp_ge, lg_cmp_eq] at hc2); (try simp (disch := omega) only [ta_lt, ta_le, ta_eq, tb_lt, tb_le, tb_eq, tw, tnI, tn32 2 (by decide), tnj 2 (by decide), tn32 1 (by decide), tnj 1 (by decide), tl32 0 (by decide), tl64 0 (by decide)] at hc2); (try simp (disch := omega) only [tnI, tn32 2 (by decide), tnj 2 (by decide), tn32 1 (by decide), tnj 1 (by decide), tl32 0 (by decide), tl64 0 (by decide)]); (repeat' split) <;> first | rfl | omega | (apply Int32.toInt_inj.mp; simp (disch := omega) only [tnI, tn32 2 (by decide), tnj 2 (by decide), tn32 1 (by decide), tnj 1 (by decide), tl32 0 (by decide), tl64 0 (by decide)]; omega))) (dkP dF_172 DX11_renew (i := 23) rfl rfl)
    · exact absurd trivial hc2
set_option maxRecDepth 20000 in
theorem s0p_8_5 : ∀ k, k < 8 → sC0.1 (8 + 22 * k) 5 = 0 := by
  intro k hk
  match k, hk with
  | 0, _ => rfl
  | 1, _ => rfl
  | 2, _ => rfl
  | 3, _ => rfl
  | 4, _ => rfl
  | 5, _ => rfl
  | 6, _ => rfl
  | 7, _ => rfl
  | k + 8, hk => exact absurd hk (by omega)
set_option maxRecDepth 100000 in
set_option maxHeartbeats 4000000 in
theorem c_X4_openSpan_s (l : Launch) (G : va_G) (kc : Nat → ClassId) (ad : Nat → Nat) (k_p : Nat)   (hk_p : k_p < 8) : MV l G kc yX4_openSpan cX4_openSpan 3 0 0 [.ref (ad (8 + 22 * k_p)), .int 0] shC ad sC0 (fun σ1 => σ1 = sI sC0 (8 + 22 * k_p) 5 1) := by
  intro sz
  refine z_body (y := yX4_openSpan) (n := 3) (av := [.ref (ad (8 + 22 * k_p)), .int 0]) (Qc := fun A => va_Qv (fun σ1 => σ1 = sI sC0 (8 + 22 * k_p) 5 1) (PoC G kc shC ad A) A) (plainFor_of_name (by decide)) (Nat.le_of_ble_eq_true rfl) (fun pr e s m below meth c A C0 hr hlk hnm hw ls hl => ?_) sz
  have hx := C0.1
  have hb := C0.2.1
  have hown := C0.2.2.2.1
  have hts := C0.2.2.2.2.1
  have hl : lv_has ls 3 [(0, .ref (ad (8 + 22 * k_p))), (1, .int 0)] := hl
  refine lv_aload_n hx hb (dkP dF_42 DX4_openSpan (i := 0) rfl rfl) rfl (lv_at hl 0 rfl) ?_
  refine z_gi C0 hw (8 + 22 * k_p) 5 (fk_of (shp_8 k_p (by omega)) rfl) fl_X4_52 (dk2 dF_180 DX4_openSpan (i := 1) rfl rfl rfl) ?_
  refine z_top (y := 0) (s0p_8_5 k_p (by omega)) ?_
  refine lv_istore_n (lv' := [(2, .int 0), (0, .ref (ad (8 + 22 * k_p))), (1, .int 0)]) hx hb (dkP dF_61 DX4_openSpan (i := 2) rfl rfl) rfl hl (by decide) rfl (fun ls hl => ?_)
  refine lv_iload_n hx hb (dkP dF_28 DX4_openSpan (i := 3) rfl rfl) rfl (lv_at hl 0 rfl) ?_
  refine lv_iload_n hx hb (dkP dF_27 DX4_openSpan (i := 4) rfl rfl) rfl (lv_at hl 2 rfl) ?_
  refine lv_icmp_le (tgt := 58) hx hb (dkS dF_164 DX4_openSpan (i := 5) rfl rfl rfl) (by decide) (fun _ => ?_) (fun h => absurd h (by decide))
  refine lv_aload_n hx hb (dkP dF_42 DX4_openSpan (i := 38) rfl rfl) rfl (lv_at hl 1 rfl) ?_
  refine lv_dup hx hb (dkP dF_89 DX4_openSpan (i := 39) rfl rfl) rfl ?_
  refine z_gi C0 hw (8 + 22 * k_p) 5 (fk_of (shp_8 k_p (by omega)) rfl) fl_X4_52 (dk2 dF_180 DX4_openSpan (i := 40) rfl rfl rfl) ?_
  refine z_top (y := 0) (s0p_8_5 k_p (by omega)) ?_
  refine lv_iconst (v := 1) hx hb (dkP dF_4 DX4_openSpan (i := 41) rfl rfl) (by decide) ?_
  refine lv_iadd hx hb (dkP dF_96 DX4_openSpan (i := 42) rfl rfl) ?_
  refine z_top (y := 1) (by decide) ?_
  refine z_pi C0 hw (8 + 22 * k_p) 5 (fk_of (shp_8 k_p (by omega)) rfl) fp_X4_52 (dk2 dF_181 DX4_openSpan (i := 43) rfl rfl rfl) (fun H locs hw => ?_)
  exact z_vret C0 hr hlk hw rfl (dkP dF_177 DX4_openSpan (i := 44) rfl rfl)
set_option maxRecDepth 20000 in
theorem s0p_8_4 : ∀ k, k < 8 → sC0.1 (8 + 22 * k) 4 = 1 := by
  intro k hk
  match k, hk with
  | 0, _ => rfl
  | 1, _ => rfl
  | 2, _ => rfl
  | 3, _ => rfl
  | 4, _ => rfl
  | 5, _ => rfl
  | 6, _ => rfl
  | 7, _ => rfl
  | k + 8, hk => exact absurd hk (by omega)
set_option maxRecDepth 20000 in
theorem shp_27 : ∀ k, k < 8 → shC[27 + 22 * k]? = some (1, 3, []) := by
  intro k hk
  match k, hk with
  | 0, _ => rfl
  | 1, _ => rfl
  | 2, _ => rfl
  | 3, _ => rfl
  | 4, _ => rfl
  | 5, _ => rfl
  | 6, _ => rfl
  | 7, _ => rfl
  | k + 8, hk => exact absurd hk (by omega)
set_option maxRecDepth 20000 in
theorem shp_28 : ∀ k, k < 8 → shC[28 + 22 * k]? = some (1, 3, []) := by
  intro k hk
  match k, hk with
  | 0, _ => rfl
  | 1, _ => rfl
  | 2, _ => rfl
  | 3, _ => rfl
  | 4, _ => rfl
  | 5, _ => rfl
  | 6, _ => rfl
  | 7, _ => rfl
  | k + 8, hk => exact absurd hk (by omega)
set_option maxRecDepth 20000 in
theorem shp_29 : ∀ k, k < 8 → shC[29 + 22 * k]? = some (1, 3, []) := by
  intro k hk
  match k, hk with
  | 0, _ => rfl
  | 1, _ => rfl
  | 2, _ => rfl
  | 3, _ => rfl
  | 4, _ => rfl
  | 5, _ => rfl
  | 6, _ => rfl
  | 7, _ => rfl
  | k + 8, hk => exact absurd hk (by omega)
set_option maxRecDepth 100000 in
set_option maxHeartbeats 4000000 in
theorem c_X4_spans (l : Launch) (G : va_G) (kc : Nat → ClassId) (ad : Nat → Nat) (k_p : Nat)  (f : Nat) (lo : Int32) (hi2 : Int32) (hk_p : k_p < 8) (h1 : -99 ≤ lo.toInt) (h2 : lo.toInt ≤ 99) (h3 : -99 ≤ hi2.toInt) (h4 : hi2.toInt ≤ 99) : MI l G kc yX4_spans cX4_spans 8 (some .boolean) 1 22 [.ref (ad (8 + 22 * k_p)), .int (nI f), .int lo, .int hi2] shC ad sC0 (fun r σ1 => r = 1 ∧ σ1.1 (8 + 22 * k_p) 4 = (if hi2.toInt < lo.toInt then 1 else hi2 - lo + 1)) := by
  intro sz
  refine z_body (y := yX4_spans) (n := 8) (av := [.ref (ad (8 + 22 * k_p)), .int (nI f), .int lo, .int hi2]) (Qc := fun A => va_Qi (fun r σ1 => r = 1 ∧ σ1.1 (8 + 22 * k_p) 4 = (if hi2.toInt < lo.toInt then 1 else hi2 - lo + 1)) (PoC G kc shC ad A) A) (plainFor_of_name (by decide)) (Nat.le_of_ble_eq_true rfl) (fun pr e s m below meth c A C0 hr hlk hnm hw ls hl => ?_) sz
  have hx := C0.1
  have hb := C0.2.1
  have hown := C0.2.2.2.1
  have hts := C0.2.2.2.2.1
  have hl : lv_has ls 8 [(0, .ref (ad (8 + 22 * k_p))), (1, .int (nI f)), (2, .int lo), (3, .int hi2)] := hl
  refine lv_iconst (v := 0) hx hb (dkP dF_3 DX4_spans (i := 0) rfl rfl) (by decide) ?_
  refine lv_istore (lv' := [(4, .int 0), (0, .ref (ad (8 + 22 * k_p))), (1, .int (nI f)), (2, .int lo), (3, .int hi2)]) hx hb (dk1 dF_54 DX4_spans (i := 1) rfl rfl rfl) hl (by decide) rfl (fun ls hl => ?_)
  refine lv_iload hx hb (dk1 dF_21 DX4_spans (i := 2) rfl rfl rfl) (lv_at hl 0 rfl) ?_
  refine lv_aload_n hx hb (dkP dF_42 DX4_spans (i := 3) rfl rfl) rfl (lv_at hl 1 rfl) ?_
  refine z_gi C0 hw (8 + 22 * k_p) 5 (fk_of (shp_8 k_p (by omega)) rfl) fl_X4_52 (dk2 dF_180 DX4_spans (i := 4) rfl rfl rfl) ?_
  refine z_top (y := 0) (s0p_8_5 k_p (by omega)) ?_
  refine lv_icmp_ge (tgt := 29) hx hb (dkS dF_162 DX4_spans (i := 5) rfl rfl rfl) (by decide) (fun _ => ?_) (fun h => absurd h (by decide))
  refine lv_iload hx hb (dk1 dF_21 DX4_spans (i := 14) rfl rfl rfl) (lv_at hl 0 rfl) ?_
  refine lv_aload_n hx hb (dkP dF_42 DX4_spans (i := 15) rfl rfl) rfl (lv_at hl 1 rfl) ?_
  refine z_gi C0 hw (8 + 22 * k_p) 5 (fk_of (shp_8 k_p (by omega)) rfl) fl_X4_52 (dk2 dF_180 DX4_spans (i := 16) rfl rfl rfl) ?_
  refine z_top (y := 0) (s0p_8_5 k_p (by omega)) ?_
  refine lv_icmp_ge (tgt := 53) hx hb (dkS dF_162 DX4_spans (i := 17) rfl rfl rfl) (by decide) (fun _ => ?_) (fun h => absurd h (by decide))
  refine lv_iconst (v := 0) hx hb (dkP dF_3 DX4_spans (i := 26) rfl rfl) (by decide) ?_
  refine lv_istore (lv' := [(5, .int 0), (4, .int 0), (0, .ref (ad (8 + 22 * k_p))), (1, .int (nI f)), (2, .int lo), (3, .int hi2)]) hx hb (dk1 dF_54 DX4_spans (i := 27) rfl rfl rfl) hl (by decide) rfl (fun ls hl => ?_)
  refine lv_iload hx hb (dk1 dF_21 DX4_spans (i := 28) rfl rfl rfl) (lv_at hl 0 rfl) ?_
  refine lv_if_eq (tgt := 86) hx hb (dkS dF_153 DX4_spans (i := 29) rfl rfl rfl) (by decide) (fun _ => ?_) (fun h => absurd h (by decide))
  refine lv_aload_n hx hb (dkP dF_42 DX4_spans (i := 45) rfl rfl) rfl (lv_at hl 2 rfl) ?_
  refine z_gi C0 hw (8 + 22 * k_p) 4 (fk_of (shp_8 k_p (by omega)) rfl) fl_X4_32 (dk2 dF_180 DX4_spans (i := 46) rfl rfl rfl) ?_
  refine z_top (y := 1) (s0p_8_4 k_p (by omega)) ?_
  refine lv_istore (lv' := [(6, .int 1), (5, .int 0), (4, .int 0), (0, .ref (ad (8 + 22 * k_p))), (1, .int (nI f)), (2, .int lo), (3, .int hi2)]) hx hb (dk1 dF_54 DX4_spans (i := 47) rfl rfl rfl) hl (by decide) rfl (fun ls hl => ?_)
  refine lv_iload_n hx hb (dkP dF_28 DX4_spans (i := 48) rfl rfl) rfl (lv_at hl 5 rfl) ?_
  refine lv_iload_n hx hb (dkP dF_29 DX4_spans (i := 49) rfl rfl) rfl (lv_at hl 6 rfl) ?_
  refine lv_icmp_le (tgt := 116) hx hb (dkS dF_164 DX4_spans (i := 50) rfl rfl rfl) (by decide) (fun c1 => ?_) (fun c1 => ?_)
  · skip
    refine lv_iload hx hb (dk1 dF_21 DX4_spans (i := 61) rfl rfl rfl) (lv_at hl 0 rfl) ?_
    refine lv_iload_n hx hb (dkP dF_29 DX4_spans (i := 62) rfl rfl) rfl (lv_at hl 6 rfl) ?_
    refine lv_iload_n hx hb (dkP dF_28 DX4_spans (i := 63) rfl rfl) rfl (lv_at hl 5 rfl) ?_
    refine lv_isub hx hb (dkP dF_100 DX4_spans (i := 64) rfl rfl) ?_
    refine lv_iconst (v := 1) hx hb (dkP dF_4 DX4_spans (i := 65) rfl rfl) (by decide) ?_
    refine lv_iadd hx hb (dkP dF_96 DX4_spans (i := 66) rfl rfl) ?_
    refine lv_imul hx hb (dkP dF_104 DX4_spans (i := 67) rfl rfl) ?_
    refine lv_topi (fun v2 ev2 => ?_)
    refine lv_istore (lv' := [(7, .int v2), (6, .int 1), (5, .int 0), (4, .int 0), (0, .ref (ad (8 + 22 * k_p))), (1, .int (nI f)), (2, .int lo), (3, .int hi2)]) hx hb (dk1 dF_54 DX4_spans (i := 68) rfl rfl rfl) hl (by decide) rfl (fun ls hl => ?_)
    refine lv_iload hx hb (dk1 dF_21 DX4_spans (i := 69) rfl rfl rfl) (lv_at hl 0 rfl) ?_
    refine lv_sipush (v := 4096) hx hb (dkS dF_17 DX4_spans (i := 70) rfl rfl rfl) (by decide) ?_
    refine lv_icmp_gt (tgt := 147) hx hb (dkS dF_163 DX4_spans (i := 71) rfl rfl rfl) (by decide) (fun c3 => absurd c3 (by rw [ta_lt, tl32 4096 (by decide), ev2]; exact spn2 h1 h2 h3 h4)) (fun c3 => ?_)
    refine lv_iload hx hb (dk1 dF_21 DX4_spans (i := 72) rfl rfl rfl) (lv_at hl 2 rfl) ?_
    refine lv_if_ne (tgt := 149) hx hb (dkS dF_154 DX4_spans (i := 73) rfl rfl rfl) (by decide) (fun h => absurd h (by decide)) (fun _ => ?_)
    refine lv_aload_n hx hb (dkP dF_42 DX4_spans (i := 74) rfl rfl) rfl (lv_at hl 4 rfl) ?_
    refine z_gi C0 hw (8 + 22 * k_p) 5 (fk_of (shp_8 k_p (by omega)) rfl) fl_X4_52 (dk2 dF_180 DX4_spans (i := 75) rfl rfl rfl) ?_
    refine z_top (y := 0) (s0p_8_5 k_p (by omega)) ?_
    refine lv_iconst (v := 3) hx hb (dkP dF_6 DX4_spans (i := 76) rfl rfl) (by decide) ?_
    refine lv_icmp_lt (tgt := 149) hx hb (dkS dF_161 DX4_spans (i := 77) rfl rfl rfl) (by decide) (fun _ => ?_) (fun h => absurd h (by decide))
    refine lv_iload hx hb (dk1 dF_21 DX4_spans (i := 80) rfl rfl rfl) (lv_at hl 2 rfl) ?_
    refine lv_if_ne (tgt := 160) hx hb (dkS dF_154 DX4_spans (i := 81) rfl rfl rfl) (by decide) (fun h => absurd h (by decide)) (fun _ => ?_)
    refine lv_aload_n hx hb (dkP dF_42 DX4_spans (i := 82) rfl rfl) rfl (lv_at hl 4 rfl) ?_
    refine lv_iload hx hb (dk1 dF_21 DX4_spans (i := 83) rfl rfl rfl) (lv_at hl 3 rfl) ?_
    refine zk_V hw (zr_V (As := [.int 0]) (rest := []) C0 (c_X4_openSpan_s l G kc ad k_p (by first | omega | assumption | decide | rfl) _) cv_X4_openSpan lk_X4_73 (zp_V C0 hw (8 + 22 * k_p) (shp_8 k_p (by omega)) rfl rfl) rfl hl.1 rfl ⟨by decide, by decide⟩ (Nat.le_of_ble_eq_true rfl) (dk2 dF_182 DX4_spans (i := 84) rfl rfl rfl) ⟨Nat.le_refl _, Nat.le_refl _⟩) (fun s4 H locs hp hw => ?_)
    (rw [hp] at hw; clear hp)
    refine lv_aload_n hx hb (dkP dF_42 DX4_spans (i := 85) rfl rfl) rfl (lv_at hl 4 rfl) ?_
    refine z_gr C0 hw (8 + 22 * k_p) 6 (27 + 22 * k_p) (fk_of (shp_8 k_p (by omega)) rfl) fl_X4_35 (dk2 dF_180 DX4_spans (i := 86) rfl rfl rfl) ?_
    refine lv_iload hx hb (dk1 dF_21 DX4_spans (i := 87) rfl rfl rfl) (lv_at hl 3 rfl) ?_
    refine lv_iload_n hx hb (dkP dF_27 DX4_spans (i := 88) rfl rfl) rfl (lv_at hl 5 rfl) ?_
    refine z_iastN (n := 3) C0 hw (27 + 22 * k_p) 0 (ak_of (shp_27 k_p (by omega))) (by omega) (by decide) (dkP dF_79 DX4_spans (i := 89) rfl rfl) (fun H locs hw => ?_)
    refine lv_aload_n hx hb (dkP dF_42 DX4_spans (i := 90) rfl rfl) rfl (lv_at hl 4 rfl) ?_
    refine z_gr C0 hw (8 + 22 * k_p) 7 (28 + 22 * k_p) (fk_of (shp_8 k_p (by omega)) rfl) fl_X4_39 (dk2 dF_180 DX4_spans (i := 91) rfl rfl rfl) ?_
    refine lv_iload hx hb (dk1 dF_21 DX4_spans (i := 92) rfl rfl rfl) (lv_at hl 3 rfl) ?_
    refine lv_iload_n hx hb (dkP dF_28 DX4_spans (i := 93) rfl rfl) rfl (lv_at hl 6 rfl) ?_
    refine z_iastN (n := 3) C0 hw (28 + 22 * k_p) 0 (ak_of (shp_28 k_p (by omega))) (by omega) (by decide) (dkP dF_79 DX4_spans (i := 94) rfl rfl) (fun H locs hw => ?_)
    refine lv_aload_n hx hb (dkP dF_42 DX4_spans (i := 95) rfl rfl) rfl (lv_at hl 4 rfl) ?_
    refine z_gr C0 hw (8 + 22 * k_p) 8 (29 + 22 * k_p) (fk_of (shp_8 k_p (by omega)) rfl) fl_X4_42 (dk2 dF_180 DX4_spans (i := 96) rfl rfl rfl) ?_
    refine lv_iload hx hb (dk1 dF_21 DX4_spans (i := 97) rfl rfl rfl) (lv_at hl 3 rfl) ?_
    refine lv_iload_n hx hb (dkP dF_29 DX4_spans (i := 98) rfl rfl) rfl (lv_at hl 7 rfl) ?_
    refine z_iastN (n := 3) C0 hw (29 + 22 * k_p) 0 (ak_of (shp_29 k_p (by omega))) (by omega) (by decide) (dkP dF_79 DX4_spans (i := 99) rfl rfl) (fun H locs hw => ?_)
    refine lv_aload_n hx hb (dkP dF_42 DX4_spans (i := 100) rfl rfl) rfl (lv_at hl 4 rfl) ?_
    refine lv_iload hx hb (dk1 dF_21 DX4_spans (i := 101) rfl rfl rfl) (lv_at hl 0 rfl) ?_
    refine z_pi C0 hw (8 + 22 * k_p) 4 (fk_of (shp_8 k_p (by omega)) rfl) fp_X4_32 (dk2 dF_181 DX4_spans (i := 102) rfl rfl rfl) (fun H locs hw => ?_)
    refine lv_iconst (v := 1) hx hb (dkP dF_4 DX4_spans (i := 103) rfl rfl) (by decide) ?_
    exact z_zret C0 hr hlk (by decide) hw (⟨rfl, (rd_s.trans (by simp (disch := omega) only [ta_lt, ta_le] at c1; rw [if_neg (by omega), ev2]; exact spn1 _))⟩) (dkP dF_172 DX4_spans (i := 104) rfl rfl)
  · skip
    refine lv_iload hx hb (dk1 dF_21 DX4_spans (i := 51) rfl rfl rfl) (lv_at hl 1 rfl) ?_
    refine lv_if_eq (tgt := 108) hx hb (dkS dF_153 DX4_spans (i := 52) rfl rfl rfl) (by decide) (fun _ => ?_) (fun h => absurd h (by decide))
    refine lv_aload_n hx hb (dkP dF_42 DX4_spans (i := 56) rfl rfl) rfl (lv_at hl 3 rfl) ?_
    refine lv_iload hx hb (dk1 dF_21 DX4_spans (i := 57) rfl rfl rfl) (lv_at hl 0 rfl) ?_
    refine z_pi C0 hw (8 + 22 * k_p) 4 (fk_of (shp_8 k_p (by omega)) rfl) fp_X4_32 (dk2 dF_181 DX4_spans (i := 58) rfl rfl rfl) (fun H locs hw => ?_)
    refine lv_iconst (v := 1) hx hb (dkP dF_4 DX4_spans (i := 59) rfl rfl) (by decide) ?_
    exact z_zret C0 hr hlk (by decide) hw (⟨rfl, (rd_s.trans (by simp (disch := omega) only [ta_lt, ta_le] at c1; rw [if_pos (by omega)]))⟩) (dkP dF_172 DX4_spans (i := 60) rfl rfl)
set_option maxRecDepth 100000 in
set_option maxHeartbeats 4000000 in
theorem c_X11_span (l : Launch) (G : va_G) (kc : Nat → ClassId) (ad : Nat → Nat)  (p : Int32) (f : Int32) (lo : Int32) (hi2 : Int32)  : MI l G kc yX11_span cX11_span 6 (some .int) 2 49 [.ref (ad 0), .int p, .int f, .int lo, .int hi2] shC ad sC0 (fun r σ1 => r = if 0 ≤ p.toInt ∧ p.toInt ≤ 7 ∧ 0 ≤ f.toInt ∧ f.toInt ≤ 7 ∧ -99 ≤ lo.toInt ∧ lo.toInt ≤ 99 ∧ -99 ≤ hi2.toInt ∧ hi2.toInt ≤ 99 then (if hi2.toInt < lo.toInt then 1 else hi2 - lo + 1) else -2) := by
  intro sz
  refine z_body (y := yX11_span) (n := 6) (av := [.ref (ad 0), .int p, .int f, .int lo, .int hi2]) (Qc := fun A => va_Qi (fun r σ1 => r = if 0 ≤ p.toInt ∧ p.toInt ≤ 7 ∧ 0 ≤ f.toInt ∧ f.toInt ≤ 7 ∧ -99 ≤ lo.toInt ∧ lo.toInt ≤ 99 ∧ -99 ≤ hi2.toInt ∧ hi2.toInt ≤ 99 then (if hi2.toInt < lo.toInt then 1 else hi2 - lo + 1) else -2) (PoC G kc shC ad A) A) (plainFor_of_name (by decide)) (Nat.le_of_ble_eq_true rfl) (fun pr e s m below meth c A C0 hr hlk hnm hw ls hl => ?_) sz
  have hx := C0.1
  have hb := C0.2.1
  have hown := C0.2.2.2.1
  have hts := C0.2.2.2.2.1
  have hl : lv_has ls 6 [(0, .ref (ad 0)), (1, .int p), (2, .int f), (3, .int lo), (4, .int hi2)] := hl
  refine lv_aload_n hx hb (dkP dF_42 DX11_span (i := 0) rfl rfl) rfl (lv_at hl 0 rfl) ?_
  refine lv_iload_n hx hb (dkP dF_27 DX11_span (i := 1) rfl rfl) rfl (lv_at hl 1 rfl) ?_
  refine zk_R hw (zr_V (As := [.int p]) (rest := []) C0 (c_X11_programAt l G kc ad sC0 p  _) cv_X11_programAt lk_X11_84 (zp_V C0 hw 0 shc_0 rfl rfl) rfl hl.1 rfl ⟨by decide, by decide⟩ (Nat.le_of_ble_eq_true rfl) (dk2 dF_182 DX11_span (i := 2) rfl rfl rfl) ⟨Nat.le_refl _, Nat.le_refl _⟩) (fun r1 s1 H locs hp hw => ?_)
  obtain ⟨hq1, hs1⟩ := hp
  (rw [hs1] at hw; clear hs1)
  rcases hq1 with ⟨hc1, rfl⟩ | ⟨k_p, hk_p, rfl, rfl⟩
  · skip
    refine lv_astoreN (lv' := [(5, .null), (0, .ref (ad 0)), (1, .int p), (2, .int f), (3, .int lo), (4, .int hi2)]) hx hb (dk1 dF_58 DX11_span (i := 3) rfl rfl rfl) hl (by decide) rfl (fun ls hl => ?_)
    refine lv_aloadN hx hb (dk1 dF_25 DX11_span (i := 4) rfl rfl rfl) (lv_at hl 0 rfl) ?_
    refine lv_ifnullN (tgt := 42) hx hb (dkS dF_198 DX11_span (i := 5) rfl rfl rfl) (by decide) ?_
    refine lv_bipush (v := (-2)) hx hb (dks dF_16 DX11_span (i := 18) rfl rfl rfl) (by decide) ?_
    exact z_iret C0 hr hlk hw (by first | rfl | ((try simp only [lg_cmp_lt, lg_cmp_le, lg_cmp_gt, lg_cmp_ge, lg_cmp_eq] at hc1); (try simp (disch := omega) only [ta_lt, ta_le, ta_eq, tb_lt, tb_le, tb_eq, tw, tnI, tn32 2 (by decide), tnj 2 (by decide), tn32 1 (by decide), tnj 1 (by decide), tl32 0 (by decide), tl64 0 (by decide)] at hc1); (try simp (disch := omega) only [tnI, tn32 2 (by decide), tnj 2 (by decide), tn32 1 (by decide), tnj 1 (by decide), tl32 0 (by decide), tl64 0 (by decide)]); (repeat' split) <;> first | rfl | omega | (apply Int32.toInt_inj.mp; simp (disch := omega) only [tnI, tn32 2 (by decide), tnj 2 (by decide), tn32 1 (by decide), tnj 1 (by decide), tl32 0 (by decide), tl64 0 (by decide)]; omega))) (dkP dF_172 DX11_span (i := 19) rfl rfl)
  · skip
    refine lv_astore (lv' := [(5, .ref (ad (8 + 22 * k_p))), (0, .ref (ad 0)), (1, .int (nI k_p)), (2, .int f), (3, .int lo), (4, .int hi2)]) hx hb (dk1 dF_58 DX11_span (i := 3) rfl rfl rfl) hl (by decide) rfl (fun ls hl => ?_)
    refine lv_aload hx hb (dk1 dF_25 DX11_span (i := 4) rfl rfl rfl) (lv_at hl 0 rfl) ?_
    refine lv_ifnull hx hb (dkS dF_198 DX11_span (i := 5) rfl rfl rfl) ?_
    refine lv_aload hx hb (dk1 dF_25 DX11_span (i := 6) rfl rfl rfl) (lv_at hl 0 rfl) ?_
    refine zk_I hw (zr_V (As := []) (rest := []) C0 (c_X4_mayChange l G kc ad k_p (by first | omega | assumption | decide | rfl) _) cv_X4_mayChange lk_X11_107 (zp_V C0 hw (8 + 22 * k_p) (shp_8 k_p (by omega)) rfl rfl) rfl hl.1 rfl ⟨by decide, by decide⟩ (Nat.le_of_ble_eq_true rfl) (dk2 dF_182 DX11_span (i := 7) rfl rfl rfl) ⟨Nat.le_refl _, Nat.le_refl _⟩) (fun r2 s2 H locs hp hw => ?_)
    obtain ⟨hq2, hs2⟩ := hp
    (rw [hs2] at hw; clear hs2)
    rcases hq2 with ⟨rfl, hc2⟩ | ⟨rfl, hc2⟩
    · skip
      refine lv_if_eq (tgt := 42) hx hb (dkS dF_153 DX11_span (i := 8) rfl rfl rfl) (by decide) (fun h => absurd h (by decide)) (fun _ => ?_)
      refine lv_iload_n hx hb (dkP dF_28 DX11_span (i := 9) rfl rfl) rfl (lv_at hl 3 rfl) ?_
      refine zn_I hw (zr_S (As := [.int f]) (rest := []) C0 (c_X11_isField l G kc f  _) cs_X11_isField lk_X11_130 (zp_P C0 a00 s00) rfl hl.1 rfl ⟨by decide, by decide⟩ (Nat.le_of_ble_eq_true rfl) (dk2 dF_184 DX11_span (i := 10) rfl rfl rfl) ⟨Nat.le_refl _, Nat.le_refl _⟩) (fun r3 s3 H locs hp hw => ?_)
      rcases hp with ⟨rfl, hc3⟩ | ⟨rfl, hc3⟩
      · skip
        obtain ⟨k_f, hk_f, rfl⟩ := to_nat (x := f) (n := 8) (by (try simp only [lg_cmp_lt, lg_cmp_le, lg_cmp_gt, lg_cmp_ge, lg_cmp_eq] at hk_p); (try simp (disch := omega) only [ta_lt, ta_le, ta_eq, tb_lt, tb_le, tb_eq, tw, tnI, tn32 2 (by decide), tnj 2 (by decide), tn32 1 (by decide), tnj 1 (by decide), tl32 0 (by decide), tl64 0 (by decide)] at hk_p); (try simp only [lg_cmp_lt, lg_cmp_le, lg_cmp_gt, lg_cmp_ge, lg_cmp_eq] at hc2); (try simp (disch := omega) only [ta_lt, ta_le, ta_eq, tb_lt, tb_le, tb_eq, tw, tnI, tn32 2 (by decide), tnj 2 (by decide), tn32 1 (by decide), tnj 1 (by decide), tl32 0 (by decide), tl64 0 (by decide)] at hc2); (try simp only [lg_cmp_lt, lg_cmp_le, lg_cmp_gt, lg_cmp_ge, lg_cmp_eq] at hc3); (try simp (disch := omega) only [ta_lt, ta_le, ta_eq, tb_lt, tb_le, tb_eq, tw, tnI, tn32 2 (by decide), tnj 2 (by decide), tn32 1 (by decide), tnj 1 (by decide), tl32 0 (by decide), tl64 0 (by decide)] at hc3); (try simp (disch := omega) only [ta_lt, ta_le, ta_eq, tb_lt, tb_le, tb_eq, tw, tnI, tn32 2 (by decide), tnj 2 (by decide), tn32 1 (by decide), tnj 1 (by decide), tl32 0 (by decide), tl64 0 (by decide)]); omega)
        refine lv_if_eq (tgt := 42) hx hb (dkS dF_153 DX11_span (i := 11) rfl rfl rfl) (by decide) (fun h => absurd h (by decide)) (fun _ => ?_)
        refine lv_iload_n hx hb (dkP dF_29 DX11_span (i := 12) rfl rfl) rfl (lv_at hl 4 rfl) ?_
        refine zn_I hw (zr_S (As := [.int lo]) (rest := []) C0 (c_X11_isEdge l G kc lo  _) cs_X11_isEdge lk_X11_133 (zp_P C0 a00 s00) rfl hl.1 rfl ⟨by decide, by decide⟩ (Nat.le_of_ble_eq_true rfl) (dk2 dF_184 DX11_span (i := 13) rfl rfl rfl) ⟨Nat.le_refl _, Nat.le_refl _⟩) (fun r4 s4 H locs hp hw => ?_)
        rcases hp with ⟨rfl, hc4⟩ | ⟨rfl, hc4⟩
        · skip
          refine lv_if_eq (tgt := 42) hx hb (dkS dF_153 DX11_span (i := 14) rfl rfl rfl) (by decide) (fun h => absurd h (by decide)) (fun _ => ?_)
          refine lv_iload hx hb (dk1 dF_21 DX11_span (i := 15) rfl rfl rfl) (lv_at hl 5 rfl) ?_
          refine zn_I hw (zr_S (As := [.int hi2]) (rest := []) C0 (c_X11_isEdge l G kc hi2  _) cs_X11_isEdge lk_X11_133 (zp_P C0 a00 s00) rfl hl.1 rfl ⟨by decide, by decide⟩ (Nat.le_of_ble_eq_true rfl) (dk2 dF_184 DX11_span (i := 16) rfl rfl rfl) ⟨Nat.le_refl _, Nat.le_refl _⟩) (fun r5 s5 H locs hp hw => ?_)
          rcases hp with ⟨rfl, hc5⟩ | ⟨rfl, hc5⟩
          · skip
            refine lv_if_ne (tgt := 45) hx hb (dkS dF_154 DX11_span (i := 17) rfl rfl rfl) (by decide) (fun _ => ?_) (fun h => absurd h (by decide))
            refine lv_aload hx hb (dk1 dF_25 DX11_span (i := 20) rfl rfl rfl) (lv_at hl 0 rfl) ?_
            refine lv_iload_n hx hb (dkP dF_28 DX11_span (i := 21) rfl rfl) rfl (lv_at hl 3 rfl) ?_
            refine lv_iload_n hx hb (dkP dF_29 DX11_span (i := 22) rfl rfl) rfl (lv_at hl 4 rfl) ?_
            refine lv_iload hx hb (dk1 dF_21 DX11_span (i := 23) rfl rfl rfl) (lv_at hl 5 rfl) ?_
            refine zk_I hw (zr_V (As := [.int (nI k_f), .int lo, .int hi2]) (rest := []) C0 (c_X4_spans l G kc ad k_p k_f lo hi2 (by first | omega | assumption | decide | rfl) (by first | omega | assumption | decide | rfl) (by first | omega | assumption | decide | rfl) (by first | omega | assumption | decide | rfl) (by first | omega | assumption | decide | rfl) _) cv_X4_spans lk_X11_136 (zp_V C0 hw (8 + 22 * k_p) (shp_8 k_p (by omega)) rfl rfl) rfl hl.1 rfl ⟨by decide, by decide⟩ (Nat.le_of_ble_eq_true rfl) (dk2 dF_182 DX11_span (i := 24) rfl rfl rfl) ⟨Nat.le_refl _, Nat.le_refl _⟩) (fun r6 s6 H locs hp hw => ?_)
            obtain ⟨rfl, hs6⟩ := hp
            refine lv_if_ne (tgt := 60) hx hb (dkS dF_154 DX11_span (i := 25) rfl rfl rfl) (by decide) (fun _ => ?_) (fun h => absurd h (by decide))
            refine lv_aload hx hb (dk1 dF_25 DX11_span (i := 28) rfl rfl rfl) (lv_at hl 0 rfl) ?_
            refine lv_iconst (v := (-1)) hx hb (dkP dF_2 DX11_span (i := 29) rfl rfl) (by decide) ?_
            refine z_pi C0 hw (8 + 22 * k_p) 1 (fk_of (shp_8 k_p (by omega)) rfl) fp_X11_140 (dk2 dF_181 DX11_span (i := 30) rfl rfl rfl) (fun H locs hw => ?_)
            refine lv_aload hx hb (dk1 dF_25 DX11_span (i := 31) rfl rfl rfl) (lv_at hl 0 rfl) ?_
            refine z_gi C0 hw (8 + 22 * k_p) 4 (fk_of (shp_8 k_p (by omega)) rfl) fl_X11_143 (dk2 dF_180 DX11_span (i := 32) rfl rfl rfl) ?_
            exact z_iret C0 hr hlk hw (by (try simp (disch := omega) only [ta_lt, ta_le, ta_eq, tb_lt, tb_le, tb_eq, tw, tnI, tn32 2 (by decide), tnj 2 (by decide), tn32 1 (by decide), tnj 1 (by decide), tl32 0 (by decide), tl64 0 (by decide)] at hk_p); (try simp (disch := omega) only [ta_lt, ta_le, ta_eq, tb_lt, tb_le, tb_eq, tw, tnI, tn32 2 (by decide), tnj 2 (by decide), tn32 1 (by decide), tnj 1 (by decide), tl32 0 (by decide), tl64 0 (by decide)] at hc2); (try simp (disch := omega) only [ta_lt, ta_le, ta_eq, tb_lt, tb_le, tb_eq, tw, tnI, tn32 2 (by decide), tnj 2 (by decide), tn32 1 (by decide), tnj 1 (by decide), tl32 0 (by decide), tl64 0 (by decide)] at hc3); (try simp (disch := omega) only [ta_lt, ta_le, ta_eq, tb_lt, tb_le, tb_eq, tw, tnI, tn32 2 (by decide), tnj 2 (by decide), tn32 1 (by decide), tnj 1 (by decide), tl32 0 (by decide), tl64 0 (by decide)] at hk_f); (try simp (disch := omega) only [ta_lt, ta_le, ta_eq, tb_lt, tb_le, tb_eq, tw, tnI, tn32 2 (by decide), tnj 2 (by decide), tn32 1 (by decide), tnj 1 (by decide), tl32 0 (by decide), tl64 0 (by decide)] at hc4); (try simp (disch := omega) only [ta_lt, ta_le, ta_eq, tb_lt, tb_le, tb_eq, tw, tnI, tn32 2 (by decide), tnj 2 (by decide), tn32 1 (by decide), tnj 1 (by decide), tl32 0 (by decide), tl64 0 (by decide)] at hc5); (try simp (disch := omega) only [tnI]); rw [if_pos (by omega)]; exact (rd_n (by omega)).trans hs6) (dkP dF_172 DX11_span (i := 33) rfl rfl)
          · skip
            refine lv_if_ne (tgt := 45) hx hb (dkS dF_154 DX11_span (i := 17) rfl rfl rfl) (by decide) (fun h => absurd h (by decide)) (fun _ => ?_)
            refine lv_bipush (v := (-2)) hx hb (dks dF_16 DX11_span (i := 18) rfl rfl rfl) (by decide) ?_
            exact z_iret C0 hr hlk hw (by first | rfl | ((try simp only [lg_cmp_lt, lg_cmp_le, lg_cmp_gt, lg_cmp_ge, lg_cmp_eq] at hk_p); (try simp (disch := omega) only [ta_lt, ta_le, ta_eq, tb_lt, tb_le, tb_eq, tw, tnI, tn32 2 (by decide), tnj 2 (by decide), tn32 1 (by decide), tnj 1 (by decide), tl32 0 (by decide), tl64 0 (by decide)] at hk_p); (try simp only [lg_cmp_lt, lg_cmp_le, lg_cmp_gt, lg_cmp_ge, lg_cmp_eq] at hc2); (try simp (disch := omega) only [ta_lt, ta_le, ta_eq, tb_lt, tb_le, tb_eq, tw, tnI, tn32 2 (by decide), tnj 2 (by decide), tn32 1 (by decide), tnj 1 (by decide), tl32 0 (by decide), tl64 0 (by decide)] at hc2); (try simp only [lg_cmp_lt, lg_cmp_le, lg_cmp_gt, lg_cmp_ge, lg_cmp_eq] at hc3); (try simp (disch := omega) only [ta_lt, ta_le, ta_eq, tb_lt, tb_le, tb_eq, tw, tnI, tn32 2 (by decide), tnj 2 (by decide), tn32 1 (by decide), tnj 1 (by decide), tl32 0 (by decide), tl64 0 (by decide)] at hc3); (try simp only [lg_cmp_lt, lg_cmp_le, lg_cmp_gt, lg_cmp_ge, lg_cmp_eq] at hk_f); (try simp (disch := omega) only [ta_lt, ta_le, ta_eq, tb_lt, tb_le, tb_eq, tw, tnI, tn32 2 (by decide), tnj 2 (by decide), tn32 1 (by decide), tnj 1 (by decide), tl32 0 (by decide), tl64 0 (by decide)] at hk_f); (try simp only [lg_cmp_lt, lg_cmp_le, lg_cmp_gt, lg_cmp_ge, lg_cmp_eq] at hc4); (try simp (disch := omega) only [ta_lt, ta_le, ta_eq, tb_lt, tb_le, tb_eq, tw, tnI, tn32 2 (by decide), tnj 2 (by decide), tn32 1 (by decide), tnj 1 (by decide), tl32 0 (by decide), tl64 0 (by decide)] at hc4); (try simp only [lg_cmp_lt, lg_cmp_le, lg_cmp_gt, lg_cmp_ge, lg_cmp_eq] at hc5); (try simp (disch := omega) only [ta_lt, ta_le, ta_eq, tb_lt, tb_le, tb_eq, tw, tnI, tn32 2 (by decide), tnj 2 (by decide), tn32 1 (by decide), tnj 1 (by decide), tl32 0 (by decide), tl64 0 (by decide)] at hc5); (try simp (disch := omega) only [tnI, tn32 2 (by decide), tnj 2 (by decide), tn32 1 (by decide), tnj 1 (by decide), tl32 0 (by decide), tl64 0 (by decide)]); (repeat' split) <;> first | rfl | omega | (apply Int32.toInt_inj.mp; simp (disch := omega) only [tnI, tn32 2 (by decide), tnj 2 (by decide), tn32 1 (by decide), tnj 1 (by decide), tl32 0 (by decide), tl64 0 (by decide)]; omega))) (dkP dF_172 DX11_span (i := 19) rfl rfl)
        · skip
          refine lv_if_eq (tgt := 42) hx hb (dkS dF_153 DX11_span (i := 14) rfl rfl rfl) (by decide) (fun _ => ?_) (fun h => absurd h (by decide))
          refine lv_bipush (v := (-2)) hx hb (dks dF_16 DX11_span (i := 18) rfl rfl rfl) (by decide) ?_
          exact z_iret C0 hr hlk hw (by first | rfl | ((try simp only [lg_cmp_lt, lg_cmp_le, lg_cmp_gt, lg_cmp_ge, lg_cmp_eq] at hk_p); (try simp (disch := omega) only [ta_lt, ta_le, ta_eq, tb_lt, tb_le, tb_eq, tw, tnI, tn32 2 (by decide), tnj 2 (by decide), tn32 1 (by decide), tnj 1 (by decide), tl32 0 (by decide), tl64 0 (by decide)] at hk_p); (try simp only [lg_cmp_lt, lg_cmp_le, lg_cmp_gt, lg_cmp_ge, lg_cmp_eq] at hc2); (try simp (disch := omega) only [ta_lt, ta_le, ta_eq, tb_lt, tb_le, tb_eq, tw, tnI, tn32 2 (by decide), tnj 2 (by decide), tn32 1 (by decide), tnj 1 (by decide), tl32 0 (by decide), tl64 0 (by decide)] at hc2); (try simp only [lg_cmp_lt, lg_cmp_le, lg_cmp_gt, lg_cmp_ge, lg_cmp_eq] at hc3); (try simp (disch := omega) only [ta_lt, ta_le, ta_eq, tb_lt, tb_le, tb_eq, tw, tnI, tn32 2 (by decide), tnj 2 (by decide), tn32 1 (by decide), tnj 1 (by decide), tl32 0 (by decide), tl64 0 (by decide)] at hc3); (try simp only [lg_cmp_lt, lg_cmp_le, lg_cmp_gt, lg_cmp_ge, lg_cmp_eq] at hk_f); (try simp (disch := omega) only [ta_lt, ta_le, ta_eq, tb_lt, tb_le, tb_eq, tw, tnI, tn32 2 (by decide), tnj 2 (by decide), tn32 1 (by decide), tnj 1 (by decide), tl32 0 (by decide), tl64 0 (by decide)] at hk_f); (try simp only [lg_cmp_lt, lg_cmp_le, lg_cmp_gt, lg_cmp_ge, lg_cmp_eq] at hc4); (try simp (disch := omega) only [ta_lt, ta_le, ta_eq, tb_lt, tb_le, tb_eq, tw, tnI, tn32 2 (by decide), tnj 2 (by decide), tn32 1 (by decide), tnj 1 (by decide), tl32 0 (by decide), tl64 0 (by decide)] at hc4); (try simp (disch := omega) only [tnI, tn32 2 (by decide), tnj 2 (by decide), tn32 1 (by decide), tnj 1 (by decide), tl32 0 (by decide), tl64 0 (by decide)]); (repeat' split) <;> first | rfl | omega | (apply Int32.toInt_inj.mp; simp (disch := omega) only [tnI, tn32 2 (by decide), tnj 2 (by decide), tn32 1 (by decide), tnj 1 (by decide), tl32 0 (by decide), tl64 0 (by decide)]; omega))) (dkP dF_172 DX11_span (i := 19) rfl rfl)
      · skip
        refine lv_if_eq (tgt := 42) hx hb (dkS dF_153 DX11_span (i := 11) rfl rfl rfl) (by decide) (fun _ => ?_) (fun h => absurd h (by decide))
        refine lv_bipush (v := (-2)) hx hb (dks dF_16 DX11_span (i := 18) rfl rfl rfl) (by decide) ?_
        exact z_iret C0 hr hlk hw (by first | rfl | ((try simp only [lg_cmp_lt, lg_cmp_le, lg_cmp_gt, lg_cmp_ge, lg_cmp_eq] at hk_p); (try simp (disch := omega) only [ta_lt, ta_le, ta_eq, tb_lt, tb_le, tb_eq, tw, tnI, tn32 2 (by decide), tnj 2 (by decide), tn32 1 (by decide), tnj 1 (by decide), tl32 0 (by decide), tl64 0 (by decide)] at hk_p); (try simp only [lg_cmp_lt, lg_cmp_le, lg_cmp_gt, lg_cmp_ge, lg_cmp_eq] at hc2); (try simp (disch := omega) only [ta_lt, ta_le, ta_eq, tb_lt, tb_le, tb_eq, tw, tnI, tn32 2 (by decide), tnj 2 (by decide), tn32 1 (by decide), tnj 1 (by decide), tl32 0 (by decide), tl64 0 (by decide)] at hc2); (try simp only [lg_cmp_lt, lg_cmp_le, lg_cmp_gt, lg_cmp_ge, lg_cmp_eq] at hc3); (try simp (disch := omega) only [ta_lt, ta_le, ta_eq, tb_lt, tb_le, tb_eq, tw, tnI, tn32 2 (by decide), tnj 2 (by decide), tn32 1 (by decide), tnj 1 (by decide), tl32 0 (by decide), tl64 0 (by decide)] at hc3); (try simp (disch := omega) only [tnI, tn32 2 (by decide), tnj 2 (by decide), tn32 1 (by decide), tnj 1 (by decide), tl32 0 (by decide), tl64 0 (by decide)]); (repeat' split) <;> first | rfl | omega | (apply Int32.toInt_inj.mp; simp (disch := omega) only [tnI, tn32 2 (by decide), tnj 2 (by decide), tn32 1 (by decide), tnj 1 (by decide), tl32 0 (by decide), tl64 0 (by decide)]; omega))) (dkP dF_172 DX11_span (i := 19) rfl rfl)
    · exact absurd trivial hc2
