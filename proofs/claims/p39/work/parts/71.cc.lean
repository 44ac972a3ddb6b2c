set_option maxRecDepth 100000 in
set_option maxHeartbeats 4000000 in
theorem c_J9_min_7cf53_k (l : Launch) (G : va_G) (kc : KC)  (x : Nat) (y : Nat) (hxy : x ≤ y) (hy : y < 2147483648) : MI l G kc yJ9_min_7cf53 cJ9_min_7cf53 2 (some .int) 0 0 [.int (nI x), .int (nI y)] [] a00 s00 (fun r _ => r = nI x) := by
  intro sz
  refine z_body (y := yJ9_min_7cf53) (n := 2) (av := [.int (nI x), .int (nI y)]) (Qc := fun A => va_Qi (fun r _ => r = nI x) (PoC G kc [] a00 A) A) (by decide +kernel) (Nat.le_of_ble_eq_true rfl) (fun pr e s m below meth c A C0 hr hlk hnm hw hRo ls hl => ?_) sz
  have hx := C0.1
  have hb := C0.2.1
  have hown := C0.2.2.2.1
  have hts := C0.2.2.2.2.1
  have hl : lv_has ls 2 [(0, .int (nI x)), (1, .int (nI y))] := hl
  refine lv_iload_n hx hb (dkP dF_26 DJ9_min_7cf53 (i := 0) rfl rfl) rfl (lv_at hl 0 rfl) ?_
  refine lv_iload_n hx hb (dkP dF_27 DJ9_min_7cf53 (i := 1) rfl rfl) rfl (lv_at hl 1 rfl) ?_
  refine lv_icmp_gt (tgt := 9) hx hb (dkS dF_163 DJ9_min_7cf53 (i := 2) rfl rfl rfl) (by decide) (fun c1 => ?_) (fun c1 => ?_)
  · simp (disch := omega) only [ta_lt, ta_le, ta_eq, tnI] at c1
    refine lv_iload_n hx hb (dkP dF_27 DJ9_min_7cf53 (i := 5) rfl rfl) rfl (lv_at hl 1 rfl) ?_
    exact z_iret C0 hr hlk hw (False.elim (by omega)) (dkP dF_172 DJ9_min_7cf53 (i := 6) rfl rfl)
  · simp (disch := omega) only [ta_lt, ta_le, ta_eq, tnI] at c1
    refine lv_iload_n hx hb (dkP dF_26 DJ9_min_7cf53 (i := 3) rfl rfl) rfl (lv_at hl 0 rfl) ?_
    refine lv_goto (tgt := 10) hx hb (dkS dF_167 DJ9_min_7cf53 (i := 4) rfl rfl rfl) (by decide) ?_
    exact z_iret C0 hr hlk hw rfl (dkP dF_172 DJ9_min_7cf53 (i := 6) rfl rfl)
theorem soD : ∀ d, d ∈ soL → ∀ e, e ∈ soL → d = e ∨ d + 2 ≤ e ∨ e + 2 ≤ d := by decide +kernel
theorem snD : ∀ d, d ∈ snL → ∀ e, e ∈ snL → d = e ∨ d + 2 ≤ e ∨ e + 2 ≤ d := by decide +kernel
theorem otD : ∀ d, d ∈ otL → ∀ e, e ∈ otL → d = e ∨ d + 10 ≤ e ∨ e + 10 ≤ d := by decide +kernel
theorem ntD : ∀ d, d ∈ ntL → ∀ e, e ∈ ntL → d = e ∨ d + 8 ≤ e ∨ e + 8 ≤ d := by decide +kernel
theorem pgD : ∀ d, d ∈ pgL → ∀ e, e ∈ pgL → d = e ∨ d + 22 ≤ e ∨ e + 22 ≤ d := by decide +kernel
theorem pgot : ∀ d, d ∈ pgL → ∀ e, e ∈ otL → e + 10 ≤ d ∨ d + 22 ≤ e ∨ e = d + 1 := by decide +kernel
theorem pgnt : ∀ d, d ∈ pgL → ∀ e, e ∈ ntL → e + 8 ≤ d ∨ d + 22 ≤ e ∨ e = d + 11 := by decide +kernel
theorem tck_nt_3 : ∀ d, d ∈ ntL → tcL.getD (d + 3) 0 = 0 := by decide +kernel
theorem tck_nt_2 : ∀ d, d ∈ ntL → tcL.getD (d + 2) 0 = 0 := by decide +kernel
set_option maxRecDepth 100000 in
set_option maxHeartbeats 8000000 in
theorem c_X1_beginCase (l : Launch) (G : va_G) (kc : KC) (ad : Nat → Nat) (σ : Sg) (u : Nat)  {zs us : Nat} {K_ : Nat → Prop} (hu : u ∈ ntL) (hz : σ.1 u 3 = nI zs) (hz40 : zs < 40) (hN : VNb σ u zs us K_) (hT : TC σ) : MV l G kc yX1_beginCase cX1_beginCase 1 0 0 [.ref (ad u)] shC ad σ (fun σ1 => (BT σ1 u zs us K_ 0) ∧ (σ1.1 u 3 = nI (zs + 1)) ∧ (σ1.1 (u + 3) zs = nI 0) ∧ TC σ1 ∧ frC (fun x y => (x = u + 1) ∨ (x = u + 2) ∨ (x = u + 3) ∨ (x = u ∧ y = 3)) σ σ1) := by
  intro sz
  refine z_body (y := yX1_beginCase) (n := 1) (av := [.ref (ad u)]) (Qc := fun A => va_Qv (fun σ1 => (BT σ1 u zs us K_ 0) ∧ (σ1.1 u 3 = nI (zs + 1)) ∧ (σ1.1 (u + 3) zs = nI 0) ∧ TC σ1 ∧ frC (fun x y => (x = u + 1) ∨ (x = u + 2) ∨ (x = u + 3) ∨ (x = u ∧ y = 3)) σ σ1) (PoC G kc shC ad A) A) (plainFor_of_name (by decide)) (Nat.le_of_ble_eq_true rfl) (fun pr e s m below meth c A C0 hr hlk hnm hw hRo ls hl => ?_) sz
  have hx := C0.1
  have hb := C0.2.1
  have hown := C0.2.2.2.1
  have hts := C0.2.2.2.2.1
  have hl : lv_has ls 1 [(0, .ref (ad u))] := hl
  have hun_ := ntN u hu
  refine lv_aload_n hx hb (dkP dF_42 DX1_beginCase (i := 0) rfl rfl) rfl (lv_at hl 0 rfl) ?_
  refine z_gr C0 hw u 4 (u + 1) (fk_of (shl_nt_0 u hu) rfl) fl_X1_13 (dk2 dF_180 DX1_beginCase (i := 1) rfl rfl rfl) ?_
  refine lv_aload_n hx hb (dkP dF_42 DX1_beginCase (i := 2) rfl rfl) rfl (lv_at hl 0 rfl) ?_
  refine z_gi C0 hw u 3 (fk_of (shl_nt_0 u hu) rfl) fl_X1_40 (dk2 dF_180 DX1_beginCase (i := 3) rfl rfl rfl) ?_
  refine z_top (y := (nI zs)) hz ?_
  refine lv_iconst (v := 0) hx hb (dkP dF_3 DX1_beginCase (i := 4) rfl rfl) (by decide) ?_
  refine z_iastN (n := 40) C0 hw (u + 1) zs (ak_of (shl_nt_1 u hu)) (by omega) (by decide) (dkP dF_79 DX1_beginCase (i := 5) rfl rfl) (fun H locs hw => ?_)
  have hT1 : TC (sI σ (u + 1) zs 0) := TC.w hT (tc0 (tck_nt_1 u hu))
  have hF1 : frC (fun x y => (x = u + 1) ∨ (x = u + 2) ∨ (x = u + 3) ∨ (x = u ∧ y = 3)) σ (sI σ (u + 1) zs 0) := frC.w frC.refl (by show ((u + 1) = u + 1) ∨ ((u + 1) = u + 2) ∨ ((u + 1) = u + 3) ∨ ((u + 1) = u ∧ zs = 3); exact Or.inl rfl)
  refine lv_aload_n hx hb (dkP dF_42 DX1_beginCase (i := 6) rfl rfl) rfl (lv_at hl 0 rfl) ?_
  refine z_gr C0 hw u 6 (u + 3) (fk_of (shl_nt_0 u hu) rfl) fl_X1_20 (dk2 dF_180 DX1_beginCase (i := 7) rfl rfl rfl) ?_
  refine lv_aload_n hx hb (dkP dF_42 DX1_beginCase (i := 8) rfl rfl) rfl (lv_at hl 0 rfl) ?_
  refine z_gi C0 hw u 3 (fk_of (shl_nt_0 u hu) rfl) fl_X1_40 (dk2 dF_180 DX1_beginCase (i := 9) rfl rfl rfl) ?_
  refine z_top (y := (nI zs)) ((rd_n (by omega)).trans hz) ?_
  refine lv_iconst (v := 0) hx hb (dkP dF_3 DX1_beginCase (i := 10) rfl rfl) (by decide) ?_
  refine z_iastN (n := 40) C0 hw (u + 3) zs (ak_of (shl_nt_3 u hu)) (by omega) (by decide) (dkP dF_79 DX1_beginCase (i := 11) rfl rfl) (fun H locs hw => ?_)
  have hT2 : TC (sI (sI σ (u + 1) zs 0) (u + 3) zs 0) := TC.w hT1 (tc0 (tck_nt_3 u hu))
  have hF2 : frC (fun x y => (x = u + 1) ∨ (x = u + 2) ∨ (x = u + 3) ∨ (x = u ∧ y = 3)) σ (sI (sI σ (u + 1) zs 0) (u + 3) zs 0) := frC.w hF1 (by show ((u + 3) = u + 1) ∨ ((u + 3) = u + 2) ∨ ((u + 3) = u + 3) ∨ ((u + 3) = u ∧ zs = 3); exact Or.inr (Or.inr (Or.inl rfl)))
  refine lv_aload_n hx hb (dkP dF_42 DX1_beginCase (i := 12) rfl rfl) rfl (lv_at hl 0 rfl) ?_
  refine z_gr C0 hw u 5 (u + 2) (fk_of (shl_nt_0 u hu) rfl) fl_X1_17 (dk2 dF_180 DX1_beginCase (i := 13) rfl rfl rfl) ?_
  refine lv_aload_n hx hb (dkP dF_42 DX1_beginCase (i := 14) rfl rfl) rfl (lv_at hl 0 rfl) ?_
  refine z_gi C0 hw u 3 (fk_of (shl_nt_0 u hu) rfl) fl_X1_40 (dk2 dF_180 DX1_beginCase (i := 15) rfl rfl rfl) ?_
  refine z_top (y := (nI zs)) ((rd_n (by omega)).trans ((rd_n (by omega)).trans hz)) ?_
  refine lv_aload_n hx hb (dkP dF_42 DX1_beginCase (i := 16) rfl rfl) rfl (lv_at hl 0 rfl) ?_
  refine z_gr C0 hw u 9 (u + 6) (fk_of (shl_nt_0 u hu) rfl) fl_X1_32 (dk2 dF_180 DX1_beginCase (i := 17) rfl rfl rfl) ?_
  refine z_gi C0 hw (u + 6) 1 (fk_of (shl_nt_6 u hu) rfl) fl_X1_64 (dk2 dF_180 DX1_beginCase (i := 18) rfl rfl rfl) ?_
  refine z_top (y := (nI us)) ((rd_n (by omega)).trans ((rd_n (by omega)).trans hN.2.1)) ?_
  refine z_iastN (n := 40) C0 hw (u + 2) zs (ak_of (shl_nt_2 u hu)) (by omega) (by decide) (dkP dF_79 DX1_beginCase (i := 19) rfl rfl) (fun H locs hw => ?_)
  have hT3 : TC (sI (sI (sI σ (u + 1) zs 0) (u + 3) zs 0) (u + 2) zs (nI us)) := TC.w hT2 (tc0 (tck_nt_2 u hu))
  have hF3 : frC (fun x y => (x = u + 1) ∨ (x = u + 2) ∨ (x = u + 3) ∨ (x = u ∧ y = 3)) σ (sI (sI (sI σ (u + 1) zs 0) (u + 3) zs 0) (u + 2) zs (nI us)) := frC.w hF2 (by show ((u + 2) = u + 1) ∨ ((u + 2) = u + 2) ∨ ((u + 2) = u + 3) ∨ ((u + 2) = u ∧ zs = 3); exact Or.inr (Or.inl rfl))
  refine lv_aload_n hx hb (dkP dF_42 DX1_beginCase (i := 20) rfl rfl) rfl (lv_at hl 0 rfl) ?_
  refine lv_dup hx hb (dkP dF_89 DX1_beginCase (i := 21) rfl rfl) rfl ?_
  refine z_gi C0 hw u 3 (fk_of (shl_nt_0 u hu) rfl) fl_X1_40 (dk2 dF_180 DX1_beginCase (i := 22) rfl rfl rfl) ?_
  refine z_top (y := (nI zs)) ((rd_n (by omega)).trans ((rd_n (by omega)).trans ((rd_n (by omega)).trans hz))) ?_
  refine lv_iconst (v := 1) hx hb (dkP dF_4 DX1_beginCase (i := 23) rfl rfl) (by decide) ?_
  refine lv_iadd hx hb (dkP dF_96 DX1_beginCase (i := 24) rfl rfl) ?_
  refine z_top (y := nI (zs + 1)) (by simp only [fa_lit, nI_add, pk_mul]) ?_
  refine z_pi C0 hw u 3 (fk_of (shl_nt_0 u hu) rfl) fp_X1_40 (dk2 dF_181 DX1_beginCase (i := 25) rfl rfl rfl) (fun H locs hw => ?_)
  have hT4 : TC (sI (sI (sI (sI σ (u + 1) zs 0) (u + 3) zs 0) (u + 2) zs (nI us)) u 3 (nI (zs + 1))) := TC.w hT3 (tcw_2_3 (tck_nt_0 u hu) (by (try simp (disch := omega) only [ta_lt, ta_le, ta_eq, tb_lt, tb_le, tb_eq, tw, tnI, tsub1, tsv, tsb32, tn32 1 (by decide), tnj 1 (by decide), tl32 0 (by decide), tl64 0 (by decide), tl32 1 (by decide), tl64 1 (by decide)]); omega))
  have hF4 : frC (fun x y => (x = u + 1) ∨ (x = u + 2) ∨ (x = u + 3) ∨ (x = u ∧ y = 3)) σ (sI (sI (sI (sI σ (u + 1) zs 0) (u + 3) zs 0) (u + 2) zs (nI us)) u 3 (nI (zs + 1))) := frC.w hF3 (by show (u = u + 1) ∨ (u = u + 2) ∨ (u = u + 3) ∨ (u = u ∧ 3 = 3); exact Or.inr (Or.inr (Or.inr (⟨rfl, rfl⟩))))
  exact z_vret C0 hr hlk hw (⟨⟨hN.new ⟨((rd_n (by omega)).trans ((rd_n (by omega)).trans ((rd_n (by omega)).trans ((rd_n (by omega)).trans rfl)))), fun n hn => ⟨((rd_n (by omega)).trans ((rd_n (by omega)).trans ((rd_n (by omega)).trans ((rd_n (by omega)).trans rfl)))), ((rd_n (by omega)).trans ((rd_n (by omega)).trans ((rd_n (by omega)).trans ((rd_n (by omega)).trans rfl)))), ((rd_n (by omega)).trans ((rd_n (by omega)).trans ((rd_n (by omega)).trans ((rd_n (by omega)).trans rfl)))), ((rd_n (by omega)).trans ((rd_n (by omega)).trans ((rd_n (by omega)).trans ((rd_n (by omega)).trans rfl))))⟩⟩ (fun x _ => ((rd_n (by omega)).trans ((rd_n (by omega)).trans ((rd_n (by omega)).trans ((rd_n (by omega)).trans rfl))))) (((rd_n (by omega)).trans ((rd_n (by omega)).trans ((rd_n (by omega)).trans ((rd_n (by omega)).trans rfl)))).trans hN.2.1), us, ((rd_n (by omega)).trans rd_s), ((rd_n (by omega)).trans ((rd_n (by omega)).trans ((rd_n (by omega)).trans rd_s))), rfl⟩, rd_s, ((rd_n (by omega)).trans ((rd_n (by omega)).trans rd_s)), hT4, hF4⟩) (dkP dF_177 DX1_beginCase (i := 26) rfl rfl)
theorem tck_nt_4 : ∀ d, d ∈ ntL → tcL.getD (d + 4) 0 = 0 := by decide +kernel
set_option maxRecDepth 100000 in
set_option maxHeartbeats 8000000 in
theorem c_X1_beginPuts (l : Launch) (G : va_G) (kc : KC) (ad : Nat → Nat) (σ : Sg) (u : Nat)  {zs us : Nat} {K_ : Nat → Prop} (hu : u ∈ ntL) (hz : σ.1 u 3 = nI (zs + 1)) (hz40 : zs < 40) (hN : VNb σ u zs us K_) (hTP : TP σ u zs us K_) (h30 : σ.1 (u + 3) zs = nI 0) (hT : TC σ) : MV l G kc yX1_beginPuts cX1_beginPuts 1 0 0 [.ref (ad u)] shC ad σ (fun σ1 => (BP σ1 u zs us K_ 0) ∧ TC σ1 ∧ frC (fun x y => (x = u + 4)) σ σ1) := by
  intro sz
  refine z_body (y := yX1_beginPuts) (n := 1) (av := [.ref (ad u)]) (Qc := fun A => va_Qv (fun σ1 => (BP σ1 u zs us K_ 0) ∧ TC σ1 ∧ frC (fun x y => (x = u + 4)) σ σ1) (PoC G kc shC ad A) A) (plainFor_of_name (by decide)) (Nat.le_of_ble_eq_true rfl) (fun pr e s m below meth c A C0 hr hlk hnm hw hRo ls hl => ?_) sz
  have hx := C0.1
  have hb := C0.2.1
  have hown := C0.2.2.2.1
  have hts := C0.2.2.2.2.1
  have hl : lv_has ls 1 [(0, .ref (ad u))] := hl
  have hun_ := ntN u hu
  refine lv_aload_n hx hb (dkP dF_42 DX1_beginPuts (i := 0) rfl rfl) rfl (lv_at hl 0 rfl) ?_
  refine z_gr C0 hw u 7 (u + 4) (fk_of (shl_nt_0 u hu) rfl) fl_X1_23 (dk2 dF_180 DX1_beginPuts (i := 1) rfl rfl rfl) ?_
  refine lv_aload_n hx hb (dkP dF_42 DX1_beginPuts (i := 2) rfl rfl) rfl (lv_at hl 0 rfl) ?_
  refine z_gi C0 hw u 3 (fk_of (shl_nt_0 u hu) rfl) fl_X1_40 (dk2 dF_180 DX1_beginPuts (i := 3) rfl rfl rfl) ?_
  refine z_top (y := (nI (zs + 1))) hz ?_
  refine lv_iconst (v := 1) hx hb (dkP dF_4 DX1_beginPuts (i := 4) rfl rfl) (by decide) ?_
  refine lv_isub hx hb (dkP dF_100 DX1_beginPuts (i := 5) rfl rfl) ?_
  refine z_top (y := nI ((zs + 1) - 1)) (by simp only [fa_lit]; exact nI_sub (by omega)) ?_
  refine z_top (y := nI zs) rfl ?_
  refine lv_aload_n hx hb (dkP dF_42 DX1_beginPuts (i := 6) rfl rfl) rfl (lv_at hl 0 rfl) ?_
  refine z_gr C0 hw u 9 (u + 6) (fk_of (shl_nt_0 u hu) rfl) fl_X1_32 (dk2 dF_180 DX1_beginPuts (i := 7) rfl rfl rfl) ?_
  refine z_gi C0 hw (u + 6) 1 (fk_of (shl_nt_6 u hu) rfl) fl_X1_64 (dk2 dF_180 DX1_beginPuts (i := 8) rfl rfl rfl) ?_
  refine z_top (y := (nI us)) hN.2.1 ?_
  refine z_iastN (n := 40) C0 hw (u + 4) zs (ak_of (shl_nt_4 u hu)) (by omega) (by decide) (dkP dF_79 DX1_beginPuts (i := 9) rfl rfl) (fun H locs hw => ?_)
  have hT1 : TC (sI σ (u + 4) zs (nI us)) := TC.w hT (tc0 (tck_nt_4 u hu))
  have hF1 : frC (fun x y => (x = u + 4)) σ (sI σ (u + 4) zs (nI us)) := frC.w frC.refl (by show ((u + 4) = u + 4); exact rfl)
  exact z_vret C0 hr hlk hw (⟨⟨hN.new ⟨((rd_n (by omega)).trans rfl), fun n hn => ⟨((rd_n (by omega)).trans rfl), ((rd_n (by omega)).trans rfl), ((rd_n (by omega)).trans rfl), ((rd_n (by omega)).trans rfl)⟩⟩ (fun x _ => ((rd_n (by omega)).trans rfl)) (((rd_n (by omega)).trans rfl).trans hN.2.1), hTP.m ((rd_n (by omega)).trans rfl) ((rd_n (by omega)).trans rfl) ((rd_n (by omega)).trans rfl) (fun x _ => ((rd_n (by omega)).trans rfl)) (Nat.le_refl _) (fun _ h => h), us, rd_s, ((rd_n (by omega)).trans rfl).trans h30, rfl⟩, hT1, hF1⟩) (dkP dF_177 DX1_beginPuts (i := 10) rfl rfl)
set_option maxRecDepth 100000 in
set_option maxHeartbeats 8000000 in
theorem c_X1_beginTest (l : Launch) (G : va_G) (kc : KC) (ad : Nat → Nat) (σ : Sg) (u : Nat) (op : Int32) (lim : Int32) {zs us k : Nat} (hu : u ∈ ntL) (hz : σ.1 u 3 = nI (zs + 1)) (hz40 : zs < 40) (hus : σ.1 (u + 6) 1 = nI us) (hu19 : us < 1920) (hk : σ.1 (u + 1) zs = nI k) (hT : TC σ) : MV l G kc yX1_beginTest cX1_beginTest 3 1 21 [.ref (ad u), .int op, .int lim] shC ad σ (fun σ1 => (σ1.1 (u + 6) 1 = nI (us + 1)) ∧ (σ1.1 (u + 1) zs = nI (k + 1)) ∧ (∀ n, n ≠ zs → σ1.1 (u + 1) n = σ.1 (u + 1) n) ∧ (∀ x, x < us → σ1.1 (u + 7) x = σ.1 (u + 7) x) ∧ TC σ1 ∧ frC (fun x y => (x = u + 1) ∨ (x = u + 6 ∧ y = 1) ∨ (x = u + 7)) σ σ1) := by
  intro sz
  refine z_body (y := yX1_beginTest) (n := 3) (av := [.ref (ad u), .int op, .int lim]) (Qc := fun A => va_Qv (fun σ1 => (σ1.1 (u + 6) 1 = nI (us + 1)) ∧ (σ1.1 (u + 1) zs = nI (k + 1)) ∧ (∀ n, n ≠ zs → σ1.1 (u + 1) n = σ.1 (u + 1) n) ∧ (∀ x, x < us → σ1.1 (u + 7) x = σ.1 (u + 7) x) ∧ TC σ1 ∧ frC (fun x y => (x = u + 1) ∨ (x = u + 6 ∧ y = 1) ∨ (x = u + 7)) σ σ1) (PoC G kc shC ad A) A) (plainFor_of_name (by decide)) (Nat.le_of_ble_eq_true rfl) (fun pr e s m below meth c A C0 hr hlk hnm hw hRo ls hl => ?_) sz
  have hx := C0.1
  have hb := C0.2.1
  have hown := C0.2.2.2.1
  have hts := C0.2.2.2.2.1
  have hl : lv_has ls 3 [(0, .ref (ad u)), (1, .int op), (2, .int lim)] := hl
  have hun_ := ntN u hu
  refine lv_aload_n hx hb (dkP dF_42 DX1_beginTest (i := 0) rfl rfl) rfl (lv_at hl 0 rfl) ?_
  refine z_gr C0 hw u 4 (u + 1) (fk_of (shl_nt_0 u hu) rfl) fl_X1_13 (dk2 dF_180 DX1_beginTest (i := 1) rfl rfl rfl) ?_
  refine lv_aload_n hx hb (dkP dF_42 DX1_beginTest (i := 2) rfl rfl) rfl (lv_at hl 0 rfl) ?_
  refine z_gi C0 hw u 3 (fk_of (shl_nt_0 u hu) rfl) fl_X1_40 (dk2 dF_180 DX1_beginTest (i := 3) rfl rfl rfl) ?_
  refine z_top (y := (nI (zs + 1))) hz ?_
  refine lv_iconst (v := 1) hx hb (dkP dF_4 DX1_beginTest (i := 4) rfl rfl) (by decide) ?_
  refine lv_isub hx hb (dkP dF_100 DX1_beginTest (i := 5) rfl rfl) ?_
  refine z_top (y := nI ((zs + 1) - 1)) (by simp only [fa_lit]; exact nI_sub (by omega)) ?_
  refine z_top (y := nI zs) rfl ?_
  refine lv_dup2_11 hx hb (dkP dF_92 DX1_beginTest (i := 6) rfl rfl) rfl rfl ?_
  refine z_ialdN (n := 40) C0 hw (u + 1) zs (ak_of (shl_nt_1 u hu)) (by omega) (by decide) (dkP dF_46 DX1_beginTest (i := 7) rfl rfl) ?_
  refine z_top (y := (nI k)) hk ?_
  refine lv_iconst (v := 1) hx hb (dkP dF_4 DX1_beginTest (i := 8) rfl rfl) (by decide) ?_
  refine lv_iadd hx hb (dkP dF_96 DX1_beginTest (i := 9) rfl rfl) ?_
  refine z_top (y := nI (k + 1)) (by simp only [fa_lit, nI_add, pk_mul]) ?_
  refine z_iastN (n := 40) C0 hw (u + 1) zs (ak_of (shl_nt_1 u hu)) (by omega) (by decide) (dkP dF_79 DX1_beginTest (i := 10) rfl rfl) (fun H locs hw => ?_)
  have hT1 : TC (sI σ (u + 1) zs (nI (k + 1))) := TC.w hT (tc0 (tck_nt_1 u hu))
  have hF1 : frC (fun x y => (x = u + 1) ∨ (x = u + 6 ∧ y = 1) ∨ (x = u + 7)) σ (sI σ (u + 1) zs (nI (k + 1))) := frC.w frC.refl (by show ((u + 1) = u + 1) ∨ ((u + 1) = u + 6 ∧ zs = 1) ∨ ((u + 1) = u + 7); exact Or.inl rfl)
  refine lv_aload_n hx hb (dkP dF_42 DX1_beginTest (i := 11) rfl rfl) rfl (lv_at hl 0 rfl) ?_
  refine z_gr C0 hw u 9 (u + 6) (fk_of (shl_nt_0 u hu) rfl) fl_X1_32 (dk2 dF_180 DX1_beginTest (i := 12) rfl rfl rfl) ?_
  refine lv_iload_n hx hb (dkP dF_28 DX1_beginTest (i := 13) rfl rfl) rfl (lv_at hl 2 rfl) ?_
  refine lv_iload_n hx hb (dkP dF_27 DX1_beginTest (i := 14) rfl rfl) rfl (lv_at hl 1 rfl) ?_
  refine lv_bipush (v := 14) hx hb (dks dF_16 DX1_beginTest (i := 15) rfl rfl rfl) (by decide) ?_
  refine lv_ishl hx hb (dkP dF_120 DX1_beginTest (i := 16) rfl rfl) ?_
  refine lv_ior hx hb (dkP dF_128 DX1_beginTest (i := 17) rfl rfl) ?_
  refine zk_V hw (zr_V (As := [.int (lim ||| (op <<< (14 &&& 31)))]) (rest := []) C0 (c_X8_addCell_n l G kc ad (sI σ (u + 1) zs (nI (k + 1))) (u + 6) (lim ||| (op <<< (14 &&& 31))) (ntsn u hu) ((rd_n (by omega)).trans hus) hu19 hT1 _) cv_X8_addCell lk_X1_67 (zp_V C0 hRo hw (u + 6) (shl_nt_6 u hu) rfl rfl) rfl hl.1 rfl ⟨by decide, by decide⟩ (Nat.le_of_ble_eq_true rfl) (dk2 dF_182 DX1_beginTest (i := 18) rfl rfl rfl) ⟨Nat.le_refl _, Nat.le_refl _⟩) (fun s2 H locs hp hw => ?_)
  obtain ⟨f2_0, f2_1, f2_2, hT2, hG2⟩ := hp
  have hF2 : frC (fun x y => (x = u + 1) ∨ (x = u + 6 ∧ y = 1) ∨ (x = u + 7)) σ s2 := frC.t hF1 hG2 (fun x y h => by have h : (x = u + 7) ∨ (x = u + 6 ∧ y = 1) := h; show (x = u + 1) ∨ (x = u + 6 ∧ y = 1) ∨ (x = u + 7); rcases h with h | h; (· exact Or.inr (Or.inr (h))); (· exact Or.inr (Or.inl h)))
  exact z_vret C0 hr hlk hw (⟨f2_0, (((hG2.1 (u + 1) zs (by show ¬ (((u + 1) = u + 7) ∨ ((u + 1) = u + 6 ∧ zs = 1)); omega)).trans rfl).trans rd_s), (fun n hn => ((hG2.1 (u + 1) n (by show ¬ (((u + 1) = u + 7) ∨ ((u + 1) = u + 6 ∧ n = 1)); omega)).trans ((rd_n (by omega)).trans rfl))), (fun x hx1 => (f2_2 x (by omega)).trans ((rd_n (by omega)).trans rfl)), hT2, hF2⟩) (dkP dF_177 DX1_beginTest (i := 19) rfl rfl)
set_option maxRecDepth 100000 in
set_option maxHeartbeats 8000000 in
theorem c_X1_beginPut (l : Launch) (G : va_G) (kc : KC) (ad : Nat → Nat) (σ : Sg) (u : Nat) (lett : Int32) {zs us k : Nat} (hu : u ∈ ntL) (hz : σ.1 u 3 = nI (zs + 1)) (hz40 : zs < 40) (hus : σ.1 (u + 6) 1 = nI us) (hu19 : us < 1920) (hk : σ.1 (u + 3) zs = nI k) (hT : TC σ) : MV l G kc yX1_beginPut cX1_beginPut 2 1 21 [.ref (ad u), .int lett] shC ad σ (fun σ1 => (σ1.1 (u + 6) 1 = nI (us + 1)) ∧ (σ1.1 (u + 3) zs = nI (k + 1)) ∧ (∀ n, n ≠ zs → σ1.1 (u + 3) n = σ.1 (u + 3) n) ∧ (∀ x, x < us → σ1.1 (u + 7) x = σ.1 (u + 7) x) ∧ (σ1.1 (u + 7) us = lett) ∧ TC σ1 ∧ frC (fun x y => (x = u + 3) ∨ (x = u + 6 ∧ y = 1) ∨ (x = u + 7)) σ σ1) := by
  intro sz
  refine z_body (y := yX1_beginPut) (n := 2) (av := [.ref (ad u), .int lett]) (Qc := fun A => va_Qv (fun σ1 => (σ1.1 (u + 6) 1 = nI (us + 1)) ∧ (σ1.1 (u + 3) zs = nI (k + 1)) ∧ (∀ n, n ≠ zs → σ1.1 (u + 3) n = σ.1 (u + 3) n) ∧ (∀ x, x < us → σ1.1 (u + 7) x = σ.1 (u + 7) x) ∧ (σ1.1 (u + 7) us = lett) ∧ TC σ1 ∧ frC (fun x y => (x = u + 3) ∨ (x = u + 6 ∧ y = 1) ∨ (x = u + 7)) σ σ1) (PoC G kc shC ad A) A) (plainFor_of_name (by decide)) (Nat.le_of_ble_eq_true rfl) (fun pr e s m below meth c A C0 hr hlk hnm hw hRo ls hl => ?_) sz
  have hx := C0.1
  have hb := C0.2.1
  have hown := C0.2.2.2.1
  have hts := C0.2.2.2.2.1
  have hl : lv_has ls 2 [(0, .ref (ad u)), (1, .int lett)] := hl
  have hun_ := ntN u hu
  refine lv_aload_n hx hb (dkP dF_42 DX1_beginPut (i := 0) rfl rfl) rfl (lv_at hl 0 rfl) ?_
  refine z_gr C0 hw u 6 (u + 3) (fk_of (shl_nt_0 u hu) rfl) fl_X1_20 (dk2 dF_180 DX1_beginPut (i := 1) rfl rfl rfl) ?_
  refine lv_aload_n hx hb (dkP dF_42 DX1_beginPut (i := 2) rfl rfl) rfl (lv_at hl 0 rfl) ?_
  refine z_gi C0 hw u 3 (fk_of (shl_nt_0 u hu) rfl) fl_X1_40 (dk2 dF_180 DX1_beginPut (i := 3) rfl rfl rfl) ?_
  refine z_top (y := (nI (zs + 1))) hz ?_
  refine lv_iconst (v := 1) hx hb (dkP dF_4 DX1_beginPut (i := 4) rfl rfl) (by decide) ?_
  refine lv_isub hx hb (dkP dF_100 DX1_beginPut (i := 5) rfl rfl) ?_
  refine z_top (y := nI ((zs + 1) - 1)) (by simp only [fa_lit]; exact nI_sub (by omega)) ?_
  refine z_top (y := nI zs) rfl ?_
  refine lv_dup2_11 hx hb (dkP dF_92 DX1_beginPut (i := 6) rfl rfl) rfl rfl ?_
  refine z_ialdN (n := 40) C0 hw (u + 3) zs (ak_of (shl_nt_3 u hu)) (by omega) (by decide) (dkP dF_46 DX1_beginPut (i := 7) rfl rfl) ?_
  refine z_top (y := (nI k)) hk ?_
  refine lv_iconst (v := 1) hx hb (dkP dF_4 DX1_beginPut (i := 8) rfl rfl) (by decide) ?_
  refine lv_iadd hx hb (dkP dF_96 DX1_beginPut (i := 9) rfl rfl) ?_
  refine z_top (y := nI (k + 1)) (by simp only [fa_lit, nI_add, pk_mul]) ?_
  refine z_iastN (n := 40) C0 hw (u + 3) zs (ak_of (shl_nt_3 u hu)) (by omega) (by decide) (dkP dF_79 DX1_beginPut (i := 10) rfl rfl) (fun H locs hw => ?_)
  have hT1 : TC (sI σ (u + 3) zs (nI (k + 1))) := TC.w hT (tc0 (tck_nt_3 u hu))
  have hF1 : frC (fun x y => (x = u + 3) ∨ (x = u + 6 ∧ y = 1) ∨ (x = u + 7)) σ (sI σ (u + 3) zs (nI (k + 1))) := frC.w frC.refl (by show ((u + 3) = u + 3) ∨ ((u + 3) = u + 6 ∧ zs = 1) ∨ ((u + 3) = u + 7); exact Or.inl rfl)
  refine lv_aload_n hx hb (dkP dF_42 DX1_beginPut (i := 11) rfl rfl) rfl (lv_at hl 0 rfl) ?_
  refine z_gr C0 hw u 9 (u + 6) (fk_of (shl_nt_0 u hu) rfl) fl_X1_32 (dk2 dF_180 DX1_beginPut (i := 12) rfl rfl rfl) ?_
  refine lv_iload_n hx hb (dkP dF_27 DX1_beginPut (i := 13) rfl rfl) rfl (lv_at hl 1 rfl) ?_
  refine zk_V hw (zr_V (As := [.int lett]) (rest := []) C0 (c_X8_addCell_n l G kc ad (sI σ (u + 3) zs (nI (k + 1))) (u + 6) lett (ntsn u hu) ((rd_n (by omega)).trans hus) hu19 hT1 _) cv_X8_addCell lk_X1_67 (zp_V C0 hRo hw (u + 6) (shl_nt_6 u hu) rfl rfl) rfl hl.1 rfl ⟨by decide, by decide⟩ (Nat.le_of_ble_eq_true rfl) (dk2 dF_182 DX1_beginPut (i := 14) rfl rfl rfl) ⟨Nat.le_refl _, Nat.le_refl _⟩) (fun s2 H locs hp hw => ?_)
  obtain ⟨f2_0, f2_1, f2_2, hT2, hG2⟩ := hp
  have hF2 : frC (fun x y => (x = u + 3) ∨ (x = u + 6 ∧ y = 1) ∨ (x = u + 7)) σ s2 := frC.t hF1 hG2 (fun x y h => by have h : (x = u + 7) ∨ (x = u + 6 ∧ y = 1) := h; show (x = u + 3) ∨ (x = u + 6 ∧ y = 1) ∨ (x = u + 7); rcases h with h | h; (· exact Or.inr (Or.inr (h))); (· exact Or.inr (Or.inl h)))
  exact z_vret C0 hr hlk hw (⟨f2_0, (((hG2.1 (u + 3) zs (by show ¬ (((u + 3) = u + 7) ∨ ((u + 3) = u + 6 ∧ zs = 1)); omega)).trans rfl).trans rd_s), (fun n hn => ((hG2.1 (u + 3) n (by show ¬ (((u + 3) = u + 7) ∨ ((u + 3) = u + 6 ∧ n = 1)); omega)).trans ((rd_n (by omega)).trans rfl))), (fun x hx1 => (f2_2 x (by omega)).trans ((rd_n (by omega)).trans rfl)), f2_1, hT2, hF2⟩) (dkP dF_177 DX1_beginPut (i := 15) rfl rfl)
set_option maxRecDepth 100000 in
set_option maxHeartbeats 8000000 in
theorem c_X1_addTurns (l : Launch) (G : va_G) (kc : KC) (ad : Nat → Nat) (σ : Sg) (u : Nat) (mc : Nat) (ifs : Int32) {zs : Nat} (hu : u ∈ ntL) (hmc : mc ∈ mcL) (hz : σ.1 u 3 = nI (zs + 1)) (hz40 : zs < 40) (hT : TC σ) : MV l G kc yX1_addTurns cX1_addTurns 3 1 26 [.ref (ad u), .ref (ad (mc + 4)), .int ifs] shC ad σ (fun σ1 => (∀ n, n ≠ zs → σ1.1 (u + 1) n = σ.1 (u + 1) n) ∧ TC σ1 ∧ frC (fun x y => (x = u + 1) ∨ (x = u + 5)) σ σ1) := by
  intro sz
  refine z_body (y := yX1_addTurns) (n := 3) (av := [.ref (ad u), .ref (ad (mc + 4)), .int ifs]) (Qc := fun A => va_Qv (fun σ1 => (∀ n, n ≠ zs → σ1.1 (u + 1) n = σ.1 (u + 1) n) ∧ TC σ1 ∧ frC (fun x y => (x = u + 1) ∨ (x = u + 5)) σ σ1) (PoC G kc shC ad A) A) (plainFor_of_name (by decide)) (Nat.le_of_ble_eq_true rfl) (fun pr e s m below meth c A C0 hr hlk hnm hw hRo ls hl => ?_) sz
  have hx := C0.1
  have hb := C0.2.1
  have hown := C0.2.2.2.1
  have hts := C0.2.2.2.2.1
  have hl : lv_has ls 3 [(0, .ref (ad u)), (1, .ref (ad (mc + 4))), (2, .int ifs)] := hl
  have hun_ := ntN u hu
  have hmcn := mcN mc hmc
  refine lv_aload_n hx hb (dkP dF_42 DX1_addTurns (i := 0) rfl rfl) rfl (lv_at hl 0 rfl) ?_
  refine z_gr C0 hw u 4 (u + 1) (fk_of (shl_nt_0 u hu) rfl) fl_X1_13 (dk2 dF_180 DX1_addTurns (i := 1) rfl rfl rfl) ?_
  refine lv_aload_n hx hb (dkP dF_42 DX1_addTurns (i := 2) rfl rfl) rfl (lv_at hl 0 rfl) ?_
  refine z_gi C0 hw u 3 (fk_of (shl_nt_0 u hu) rfl) fl_X1_40 (dk2 dF_180 DX1_addTurns (i := 3) rfl rfl rfl) ?_
  refine z_top (y := (nI (zs + 1))) hz ?_
  refine lv_iconst (v := 1) hx hb (dkP dF_4 DX1_addTurns (i := 4) rfl rfl) (by decide) ?_
  refine lv_isub hx hb (dkP dF_100 DX1_addTurns (i := 5) rfl rfl) ?_
  refine z_top (y := nI ((zs + 1) - 1)) (by simp only [fa_lit]; exact nI_sub (by omega)) ?_
  refine z_top (y := nI zs) rfl ?_
  refine lv_iload_n hx hb (dkP dF_28 DX1_addTurns (i := 6) rfl rfl) rfl (lv_at hl 2 rfl) ?_
  refine z_iastN (n := 40) C0 hw (u + 1) zs (ak_of (shl_nt_1 u hu)) (by omega) (by decide) (dkP dF_79 DX1_addTurns (i := 7) rfl rfl) (fun H locs hw => ?_)
  have hT1 : TC (sI σ (u + 1) zs ifs) := TC.w hT (tc0 (tck_nt_1 u hu))
  have hF1 : frC (fun x y => (x = u + 1) ∨ (x = u + 5)) σ (sI σ (u + 1) zs ifs) := frC.w frC.refl (by show ((u + 1) = u + 1) ∨ ((u + 1) = u + 5); exact Or.inl rfl)
  refine lv_aload_n hx hb (dkP dF_43 DX1_addTurns (i := 8) rfl rfl) rfl (lv_at hl 1 rfl) ?_
  refine lv_iconst (v := 0) hx hb (dkP dF_3 DX1_addTurns (i := 9) rfl rfl) (by decide) ?_
  refine lv_aload_n hx hb (dkP dF_42 DX1_addTurns (i := 10) rfl rfl) rfl (lv_at hl 0 rfl) ?_
  refine z_gr C0 hw u 8 (u + 5) (fk_of (shl_nt_0 u hu) rfl) fl_X1_26 (dk2 dF_180 DX1_addTurns (i := 11) rfl rfl rfl) ?_
  refine lv_aload_n hx hb (dkP dF_42 DX1_addTurns (i := 12) rfl rfl) rfl (lv_at hl 0 rfl) ?_
  refine z_gi C0 hw u 3 (fk_of (shl_nt_0 u hu) rfl) fl_X1_40 (dk2 dF_180 DX1_addTurns (i := 13) rfl rfl rfl) ?_
  refine z_top (y := (nI (zs + 1))) ((rd_n (by omega)).trans hz) ?_
  refine lv_iconst (v := 1) hx hb (dkP dF_4 DX1_addTurns (i := 14) rfl rfl) (by decide) ?_
  refine lv_isub hx hb (dkP dF_100 DX1_addTurns (i := 15) rfl rfl) ?_
  refine z_top (y := nI ((zs + 1) - 1)) (by simp only [fa_lit]; exact nI_sub (by omega)) ?_
  refine z_top (y := nI zs) rfl ?_
  refine lv_iconst (v := 4) hx hb (dkP dF_7 DX1_addTurns (i := 16) rfl rfl) (by decide) ?_
  refine lv_imul hx hb (dkP dF_104 DX1_addTurns (i := 17) rfl rfl) ?_
  refine z_top (y := nI (zs * 4)) (by simp only [fa_lit, nI_add, pk_mul]) ?_
  refine lv_iconst (v := 4) hx hb (dkP dF_7 DX1_addTurns (i := 18) rfl rfl) (by decide) ?_
  refine z_cpi (n0 := 4) (n1 := 160) C0 hw (mc + 4) (u + 5) 0 (zs * 4) 4 (ak_of (shl_mc_4 mc hmc)) (ak_of (shl_nt_5 u hu)) ac_X1_54 hl.1 (by omega) (by omega) (by decide) (by decide) (by decide) (by decide) (Nat.le_of_ble_eq_true rfl) (dk2 dF_184 DX1_addTurns (i := 19) rfl rfl rfl) (fun H locs hw => ?_)
  have hT2 : TC (sCp (sI σ (u + 1) zs ifs) (mc + 4) (u + 5) 0 (zs * 4) 4) := TC.cp hT1 (fun k k2 x_ h => tc0 (tck_nt_5 u hu))
  have hF2 : frC (fun x y => (x = u + 1) ∨ (x = u + 5)) σ (sCp (sI σ (u + 1) zs ifs) (mc + 4) (u + 5) 0 (zs * 4) 4) := frC.cp hF1 (fun k => (by show ((u + 5) = u + 1) ∨ ((u + 5) = u + 5); exact Or.inr (rfl)))
  exact z_vret C0 hr hlk hw (⟨(fun n hn => ((congrFun (sCp_o (by omega)) _).trans ((rd_n (by omega)).trans rfl))), hT2, hF2⟩) (dkP dF_177 DX1_addTurns (i := 20) rfl rfl)
