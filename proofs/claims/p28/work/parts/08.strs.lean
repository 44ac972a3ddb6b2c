set_option maxRecDepth 20000 in
theorem gs_cs : Cond.fieldLink RJ0 38 "java/lang/String" "COMPACT_STRINGS" "Z" ∈ lw_gd := (gd_t7 70 rfl rfl)
set_option maxRecDepth 20000 in
theorem gs_fm : Cond.fieldLink RJ0 1053 "jdk/internal/util/Preconditions" "SIOOBE_FORMATTER" "Ljava/util/function/BiFunction;" ∈ lw_gd := (gd_t7 86 rfl rfl)
set_option maxRecDepth 20000 in
theorem gf_va : Cond.fieldLink RJ0 9 "java/lang/String" "value" "[B" ∈ lw_gd := (gd_t9 40 rfl rfl)
set_option maxRecDepth 20000 in
theorem gf_co : Cond.fieldLink RJ0 15 "java/lang/String" "coder" "B" ∈ lw_gd := (gd_t9 41 rfl rfl)
theorem z_nret {p : Program} {l : Launch} {e : Env} {R : Room} {s : State} {m : MethodId} {args : Array Value} {below : List Frame} {meth : Method} {c : Code} {H : Heap} {locs : List Loc} {cells slots : Nat} {cc : ByteArray} {nL : Nat} {own : String} {pc : Nat} {ls : Array Slot} {G : va_G} {kc : KC} {A : Nat → Prop} {sh : List ShE} {ad : Nat → Nat} {σ : Sg} {post : Int32 → Sg → Prop} {v : Int32} {ty : FieldType} (C0 : Cx G kc p s m c args cc nL own) (hr : meth.sig.returnType = some ty) (hlk : meth.locks = false) (hn : narrow ty (.int v) = .int v) (hw : St G kc A s.heap sh ad σ H locs) (hp : post v σ) (hdg : decode cc pc = .ok (.ireturn, 1)) :
    W p l e R s m args below meth c H locs cells slots (MQ below (va_Qi post (PoC G kc sh ad A) A) args s cells slots A) (F0 m pc ls [.int v]) :=
  W.zret C0.1 C0.2.1 hr hn (fun t ht hW => ⟨⟨v, σ, rfl, hp, by rw [ht]; exact hw.1, hw.2.1⟩, hw.2.2.1.F ht⟩) hw.2.2.1.2.2 hdg hlk
theorem zp_K {p : Program} {s : State} {m : MethodId} {args : Array Value} {c : Code} {H : Heap} {locs : List Loc} {cc : ByteArray} {nL : Nat} {own : String} {As : List Value} {G : va_G} {kc : KC} {A : Nat → Prop} {sh : List ShE} {ad : Nat → Nat} {σ : Sg} (C0 : Cx G kc p s m c args cc nL own) (hRo : RO0 kc A s s.heap) (hw : St G kc A s.heap sh ad σ H locs) (i : Nat) (hi : i < 7) : PreV s H "java/lang/String" (kc.2.1 i) (PreC G kc (.ref (kc.2.1 i) :: As) [] a00 s00 H.size) As :=
  ⟨PreC.blind, vk_recv hRo.1 hi hw.2.2.1, (zp_P C0 hRo hw a00 s00).2⟩
set_option maxRecDepth 100000 in
set_option maxHeartbeats 4000000 in
theorem c_J0_coder_7d493 (l : Launch) (G : va_G) (kc : KC) (i : Nat) (hi : i < 7) : MI l G kc yJ0_coder_7d493 cJ0_coder_7d493 1 (some .byte) 0 0 [.ref (kc.2.1 i)] [] a00 s00 (fun r _ => r = 0) := by
  intro sz
  refine z_body (y := yJ0_coder_7d493) (n := 1) (av := [.ref (kc.2.1 i)]) (Qc := fun A => va_Qi (fun r _ => r = 0) (PoC G kc [] a00 A) A) (by decide +kernel) (Nat.le_of_ble_eq_true rfl) (fun pr e s m below meth c A C0 hr hlk hnm hw hRo ls hl => ?_) sz
  have hx := C0.1
  have hb := C0.2.1
  have hown := C0.2.2.2.1
  have hts := C0.2.2.2.2.1
  have hl : lv_has ls 1 [(0, .ref (kc.2.1 i))] := hl
  refine va_gets hx hb hRo.2.1 hw.2.2.1 hown (hts _ gs_cs) (fun _ h => h) (dk2 dF_178 DJ0_coder_7d493 (i := 0) rfl rfl rfl) ?_
  refine lv_if_eq (tgt := 13) hx hb (dkS dF_153 DJ0_coder_7d493 (i := 1) rfl rfl rfl) (by decide) (fun h => absurd h (by decide)) (fun _ => ?_)
  refine lv_aload_n hx hb (dkP dF_42 DJ0_coder_7d493 (i := 2) rfl rfl) rfl (lv_at hl 0 rfl) ?_
  refine vk_getf hx hb (hRo.1.1 i hi).2.1 hw.2.2.1 hown (hts _ gf_co) (fun _ h => h) (dk2 dF_180 DJ0_coder_7d493 (i := 3) rfl rfl rfl) ?_
  refine lv_goto (tgt := 14) hx hb (dkS dF_167 DJ0_coder_7d493 (i := 4) rfl rfl rfl) (by decide) ?_
  exact z_nret C0 hr hlk rfl hw rfl (dkP dF_172 DJ0_coder_7d493 (i := 6) rfl rfl)
set_option maxRecDepth 100000 in
set_option maxHeartbeats 4000000 in
theorem c_J0_isLatin1_aae02 (l : Launch) (G : va_G) (kc : KC) (i : Nat) (hi : i < 7) : MI l G kc yJ0_isLatin1_aae02 cJ0_isLatin1_aae02 1 (some .boolean) 0 0 [.ref (kc.2.1 i)] [] a00 s00 (fun r _ => r = 1) := by
  intro sz
  refine z_body (y := yJ0_isLatin1_aae02) (n := 1) (av := [.ref (kc.2.1 i)]) (Qc := fun A => va_Qi (fun r _ => r = 1) (PoC G kc [] a00 A) A) (by decide +kernel) (Nat.le_of_ble_eq_true rfl) (fun pr e s m below meth c A C0 hr hlk hnm hw hRo ls hl => ?_) sz
  have hx := C0.1
  have hb := C0.2.1
  have hown := C0.2.2.2.1
  have hts := C0.2.2.2.2.1
  have hl : lv_has ls 1 [(0, .ref (kc.2.1 i))] := hl
  refine va_gets hx hb hRo.2.1 hw.2.2.1 hown (hts _ gs_cs) (fun _ h => h) (dk2 dF_178 DJ0_isLatin1_aae02 (i := 0) rfl rfl rfl) ?_
  refine lv_if_eq (tgt := 17) hx hb (dkS dF_153 DJ0_isLatin1_aae02 (i := 1) rfl rfl rfl) (by decide) (fun h => absurd h (by decide)) (fun _ => ?_)
  refine lv_aload_n hx hb (dkP dF_42 DJ0_isLatin1_aae02 (i := 2) rfl rfl) rfl (lv_at hl 0 rfl) ?_
  refine vk_getf hx hb (hRo.1.1 i hi).2.1 hw.2.2.1 hown (hts _ gf_co) (fun _ h => h) (dk2 dF_180 DJ0_isLatin1_aae02 (i := 3) rfl rfl rfl) ?_
  refine lv_if_ne (tgt := 17) hx hb (dkS dF_154 DJ0_isLatin1_aae02 (i := 4) rfl rfl rfl) (by decide) (fun h => absurd rfl h) (fun _ => ?_)
  refine lv_iconst (v := 1) hx hb (dkP dF_4 DJ0_isLatin1_aae02 (i := 5) rfl rfl) (by decide) ?_
  refine lv_goto (tgt := 18) hx hb (dkS dF_167 DJ0_isLatin1_aae02 (i := 6) rfl rfl rfl) (by decide) ?_
  exact z_nret C0 hr hlk rfl hw rfl (dkP dF_172 DJ0_isLatin1_aae02 (i := 8) rfl rfl)
set_option maxRecDepth 100000 in
set_option maxHeartbeats 4000000 in
theorem c_J0_length_8abf5 (l : Launch) (G : va_G) (kc : KC) (i : Nat) (hi : i < 7) : MI l G kc yJ0_length_8abf5 cJ0_length_8abf5 1 (some .int) 1 20 [.ref (kc.2.1 i)] [] a00 s00 (fun r _ => r = nI (stL.getD i 0)) := by
  intro sz
  refine z_body (y := yJ0_length_8abf5) (n := 1) (av := [.ref (kc.2.1 i)]) (Qc := fun A => va_Qi (fun r _ => r = nI (stL.getD i 0)) (PoC G kc [] a00 A) A) (by decide +kernel) (Nat.le_of_ble_eq_true rfl) (fun pr e s m below meth c A C0 hr hlk hnm hw hRo ls hl => ?_) sz
  have hx := C0.1
  have hb := C0.2.1
  have hown := C0.2.2.2.1
  have hts := C0.2.2.2.2.1
  have hl : lv_has ls 1 [(0, .ref (kc.2.1 i))] := hl
  refine lv_aload_n hx hb (dkP dF_42 DJ0_length_8abf5 (i := 0) rfl rfl) rfl (lv_at hl 0 rfl) ?_
  refine vk_getf hx hb (hRo.1.1 i hi).2.2.1 hw.2.2.1 hown (hts _ gf_va) (fun _ h => h) (dk2 dF_180 DJ0_length_8abf5 (i := 1) rfl rfl rfl) ?_
  refine va_tlen (v := nI (stL.getD i 0)) hx hb (hRo.1.1 i hi).2.2.2 hw.2.2.1 rfl (dkP dF_190 DJ0_length_8abf5 (i := 2) rfl rfl) ?_
  refine lv_aload_n hx hb (dkP dF_42 DJ0_length_8abf5 (i := 3) rfl rfl) rfl (lv_at hl 0 rfl) ?_
  refine zn_I hw (zr_V (As := []) (rest := [.int (nI (stL.getD i 0))]) C0 (c_J0_coder_7d493 l G kc i hi _) cv_J0_coder_7d493 lk_J0_335 (zp_K C0 hRo hw i hi) rfl hl.1 rfl ⟨by decide, by decide⟩ (Nat.le_of_ble_eq_true rfl) (dk2 dF_182 DJ0_length_8abf5 (i := 4) rfl rfl rfl) ⟨Nat.le_refl _, Nat.le_refl _⟩) (fun r s1 H locs hp hw => ?_)
  subst hp
  refine lv_ishr hx hb (dkP dF_122 DJ0_length_8abf5 (i := 5) rfl rfl) ?_
  exact z_iret C0 hr hlk hw (sb_shr0 _) (dkP dF_172 DJ0_length_8abf5 (i := 6) rfl rfl)
set_option maxRecDepth 100000 in
set_option maxHeartbeats 4000000 in
theorem c_J3_checkIndex_8e157N (l : Launch) (G : va_G) (kc : KC) (k n : Nat) (hk : k < n) (hn : n < 1000) : MI l G kc yJ3_checkIndex_8e157 cJ3_checkIndex_8e157 3 (some .int) 0 0 [.int (nI k), .int (nI n), .null] [] a00 s00 (fun r _ => r = nI k) := by
  intro sz
  refine z_body (y := yJ3_checkIndex_8e157) (n := 3) (av := [.int (nI k), .int (nI n), .null]) (Qc := fun A => va_Qi (fun r _ => r = nI k) (PoC G kc [] a00 A) A) (by decide +kernel) (Nat.le_of_ble_eq_true rfl) (fun pr e s m below meth c A C0 hr hlk hnm hw hRo ls hl => ?_) sz
  have hx := C0.1
  have hb := C0.2.1
  have hown := C0.2.2.2.1
  have hts := C0.2.2.2.2.1
  have hl : lv_has ls 3 [(0, .int (nI k)), (1, .int (nI n)), (2, .null)] := hl
  refine lv_iload_n hx hb (dkP dF_26 DJ3_checkIndex_8e157 (i := 0) rfl rfl) rfl (lv_at hl 0 rfl) ?_
  refine lv_if_lt (tgt := 9) hx hb (dkS dF_155 DJ3_checkIndex_8e157 (i := 1) rfl rfl rfl) (by decide) (fun h => absurd h (nI_pos (by omega))) (fun _ => ?_)
  refine lv_iload_n hx hb (dkP dF_26 DJ3_checkIndex_8e157 (i := 2) rfl rfl) rfl (lv_at hl 0 rfl) ?_
  refine lv_iload_n hx hb (dkP dF_27 DJ3_checkIndex_8e157 (i := 3) rfl rfl) rfl (lv_at hl 1 rfl) ?_
  refine lv_icmp_lt (tgt := 16) hx hb (dkS dF_161 DJ3_checkIndex_8e157 (i := 4) rfl rfl rfl) (by decide) (fun _ => ?_) (fun h => absurd (nI_lt hk (by omega)) h)
  refine lv_iload_n hx hb (dkP dF_26 DJ3_checkIndex_8e157 (i := 10) rfl rfl) rfl (lv_at hl 0 rfl) ?_
  exact z_iret C0 hr hlk hw rfl (dkP dF_172 DJ3_checkIndex_8e157 (i := 11) rfl rfl)
set_option maxRecDepth 100000 in
set_option maxHeartbeats 4000000 in
theorem c_J3_checkIndex_8e157R (l : Launch) (G : va_G) (kc : KC) (k n : Nat) (t : Nat) (hk : k < n) (hn : n < 1000) : MI l G kc yJ3_checkIndex_8e157 cJ3_checkIndex_8e157 3 (some .int) 0 0 [.int (nI k), .int (nI n), .ref t] [] a00 s00 (fun r _ => r = nI k) := by
  intro sz
  refine z_body (y := yJ3_checkIndex_8e157) (n := 3) (av := [.int (nI k), .int (nI n), .ref t]) (Qc := fun A => va_Qi (fun r _ => r = nI k) (PoC G kc [] a00 A) A) (by decide +kernel) (Nat.le_of_ble_eq_true rfl) (fun pr e s m below meth c A C0 hr hlk hnm hw hRo ls hl => ?_) sz
  have hx := C0.1
  have hb := C0.2.1
  have hown := C0.2.2.2.1
  have hts := C0.2.2.2.2.1
  have hl : lv_has ls 3 [(0, .int (nI k)), (1, .int (nI n)), (2, .ref t)] := hl
  refine lv_iload_n hx hb (dkP dF_26 DJ3_checkIndex_8e157 (i := 0) rfl rfl) rfl (lv_at hl 0 rfl) ?_
  refine lv_if_lt (tgt := 9) hx hb (dkS dF_155 DJ3_checkIndex_8e157 (i := 1) rfl rfl rfl) (by decide) (fun h => absurd h (nI_pos (by omega))) (fun _ => ?_)
  refine lv_iload_n hx hb (dkP dF_26 DJ3_checkIndex_8e157 (i := 2) rfl rfl) rfl (lv_at hl 0 rfl) ?_
  refine lv_iload_n hx hb (dkP dF_27 DJ3_checkIndex_8e157 (i := 3) rfl rfl) rfl (lv_at hl 1 rfl) ?_
  refine lv_icmp_lt (tgt := 16) hx hb (dkS dF_161 DJ3_checkIndex_8e157 (i := 4) rfl rfl rfl) (by decide) (fun _ => ?_) (fun h => absurd (nI_lt hk (by omega)) h)
  refine lv_iload_n hx hb (dkP dF_26 DJ3_checkIndex_8e157 (i := 10) rfl rfl) rfl (lv_at hl 0 rfl) ?_
  exact z_iret C0 hr hlk hw rfl (dkP dF_172 DJ3_checkIndex_8e157 (i := 11) rfl rfl)
set_option maxRecDepth 100000 in
set_option maxHeartbeats 4000000 in
theorem c_J0_checkIndex_df160 (l : Launch) (G : va_G) (kc : KC) (k n : Nat) (hk : k < n) (hn : n < 1000) : MV l G kc yJ0_checkIndex_df160 cJ0_checkIndex_df160 2 1 22 [.int (nI k), .int (nI n)] [] a00 s00 (fun _ => True) := by
  intro sz
  refine z_body (y := yJ0_checkIndex_df160) (n := 2) (av := [.int (nI k), .int (nI n)]) (Qc := fun A => va_Qv (fun _ => True) (PoC G kc [] a00 A) A) (by decide +kernel) (Nat.le_of_ble_eq_true rfl) (fun pr e s m below meth c A C0 hr hlk hnm hw hRo ls hl => ?_) sz
  have hx := C0.1
  have hb := C0.2.1
  have hown := C0.2.2.2.1
  have hts := C0.2.2.2.2.1
  have hl : lv_has ls 2 [(0, .int (nI k)), (1, .int (nI n))] := hl
  refine lv_iload_n hx hb (dkP dF_26 DJ0_checkIndex_df160 (i := 0) rfl rfl) rfl (lv_at hl 0 rfl) ?_
  refine lv_iload_n hx hb (dkP dF_27 DJ0_checkIndex_df160 (i := 1) rfl rfl) rfl (lv_at hl 1 rfl) ?_
  rcases hRo.2.2.2.2 with hZ | ⟨t, hZ⟩
  · refine va_gets hx hb hZ hw.2.2.1 hown (hts _ gs_fm) (fun _ h => h) (dk2 dF_178 DJ0_checkIndex_df160 (i := 2) rfl rfl rfl) ?_
    refine zn_I hw (zr_S (As := [.int (nI k), .int (nI n), .null]) (rest := []) C0 (c_J3_checkIndex_8e157N l G kc k n hk hn _) cs_J3_checkIndex_8e157 lk_J0_1059 (zp_P C0 hRo hw a00 s00) rfl hl.1 rfl ⟨by decide, by decide⟩ (Nat.le_of_ble_eq_true rfl) (dk2 dF_184 DJ0_checkIndex_df160 (i := 3) rfl rfl rfl) ⟨Nat.le_refl _, Nat.le_refl _⟩) (fun r s1 H locs hp hw => ?_)
    refine lv_pop hx hb (dkP dF_87 DJ0_checkIndex_df160 (i := 4) rfl rfl) rfl ?_
    exact z_vret C0 hr hlk hw trivial (dkP dF_177 DJ0_checkIndex_df160 (i := 5) rfl rfl)
  · refine va_gets hx hb hZ hw.2.2.1 hown (hts _ gs_fm) (fun _ h => h) (dk2 dF_178 DJ0_checkIndex_df160 (i := 2) rfl rfl rfl) ?_
    refine zn_I hw (zr_S (As := [.int (nI k), .int (nI n), .ref t]) (rest := []) C0 (c_J3_checkIndex_8e157R l G kc k n t hk hn _) cs_J3_checkIndex_8e157 lk_J0_1059 (zp_P C0 hRo hw a00 s00) rfl hl.1 rfl ⟨by decide, by decide⟩ (Nat.le_of_ble_eq_true rfl) (dk2 dF_184 DJ0_checkIndex_df160 (i := 3) rfl rfl rfl) ⟨Nat.le_refl _, Nat.le_refl _⟩) (fun r s1 H locs hp hw => ?_)
    refine lv_pop hx hb (dkP dF_87 DJ0_checkIndex_df160 (i := 4) rfl rfl) rfl ?_
    exact z_vret C0 hr hlk hw trivial (dkP dF_177 DJ0_checkIndex_df160 (i := 5) rfl rfl)
theorem zn_V {p : Program} {l : Launch} {e : Env} {R : Room} {s : State} {m : MethodId} {args : Array Value} {below : List Frame} {meth : Method} {c : Code} {H : Heap} {locs : List Loc} {cells slots : Nat} {Q : State → Prop} {pc : Nat} {ls : Array Slot} {rest st0 : List Value} {G : va_G} {kc : KC} {A : Nat → Prop} {H0 : Heap} {sh : List ShE} {ad : Nat → Nat} {σ : Sg} {post : Sg → Prop} {a : Array Value} {ad' : Nat → Nat} {σ0 : Sg} (hw : St G kc A H0 sh ad σ H locs) (hr : va_Run p l e R s m args below meth c H locs cells slots 0 0 (F0 m pc ls st0) rest (va_Qv post (PoC G kc [] ad' (va_A (WW kc [] ad' σ0) H.size)) (va_A (WW kc [] ad' σ0) H.size) a) (va_A (WW kc [] ad' σ0) H.size))
    (kk : ∀ (H1 : Heap) (locs1 : List Loc), St G kc A H0 sh ad σ H1 locs1 → W p l e R s m args below meth c H1 locs1 cells slots Q (F0 m (pc + 3) ls rest)) : W p l e R s m args below meth c H locs cells slots Q (F0 m pc ls st0) := by
  have hF : ∀ q, va_A (WW kc [] ad' σ0) H.size q → A q := fun q h => hw.2.2.2 q (Nat.le_trans hw.2.2.1.1 (nilA.mp h))
  refine va_callv hr hw.2.2.1 (fun q _ h => hF q h) hF (fun σ' t H1 locs1 ht hvm hp hB hz1 hk1 hS => ?_)
  exact kk H1 locs1 (hw.keep (fun q h1 h2 => hk1 q h1 (fun z => h2 (nilA.mp z))) hS)
theorem va_ldcSW {p : Program} {l : Launch} {e : Env} {R : Room} {s : State} {m : MethodId} {args : Array Value} {below : List Frame} {meth : Method} {c : Code} {H : Heap} {locs : List Loc} {cells slots : Nat} {Q : State → Prop} {cc : ByteArray} {pc : Nat} {ls : Array Slot} {rest : List Value} (hexec : p.tables.exec = Jvm.exec) (hb : c.code = cc) {own tx : String} {index q : Nat} (hown : s.vm.findClass own = some m.cls) (hZ : vk_R own index tx q s) (hdg : decode cc pc = .ok (.ldc_w index, 3))
    (k : W p l e R s m args below meth c H locs cells slots Q (F0 m (pc + 3) ls (.ref q :: rest))) : W p l e R s m args below meth c H locs cells slots Q (F0 m pc ls rest) := by
  intro T hT X
  obtain ⟨t, a1, b1⟩ := k T hT X
  exact ⟨t, X.ldcStringW hexec hown (text := tx) (a := q) hZ.1 hZ.2 (g := F0 m pc ls rest) rfl (by rw [hb]; exact hdg) t a1, b1⟩
def chr (i k : Nat) : Int32 := (((stB.getD i []).getD k 0 &&& 255).toUInt32 % 65536).toInt32
set_option maxRecDepth 100000 in
set_option maxHeartbeats 4000000 in
theorem c_J1_charAt_3b067 (l : Launch) (G : va_G) (kc : KC) (i k : Nat) (hi : i < 7) (hk : k < stL.getD i 0) : MI l G kc yJ1_charAt_3b067 cJ1_charAt_3b067 2 (some .char) 2 43 [.ref (kc.2.2.1 i), .int (nI k)] [] a00 s00 (fun r _ => r = chr i k) := by
  intro sz
  refine z_body (y := yJ1_charAt_3b067) (n := 2) (av := [.ref (kc.2.2.1 i), .int (nI k)]) (Qc := fun A => va_Qi (fun r _ => r = chr i k) (PoC G kc [] a00 A) A) (by decide +kernel) (Nat.le_of_ble_eq_true rfl) (fun pr e s m below meth c A C0 hr hlk hnm hw hRo ls hl => ?_) sz
  have hx := C0.1
  have hb := C0.2.1
  have hown := C0.2.2.2.1
  have hts := C0.2.2.2.2.1
  have hl : lv_has ls 2 [(0, .ref (kc.2.2.1 i)), (1, .int (nI k))] := hl
  have hlen : stL.getD i 0 < 1000 := by rcases (show i = 0 ∨ i = 1 ∨ i = 2 ∨ i = 3 ∨ i = 4 ∨ i = 5 ∨ i = 6 by omega) with rfl | rfl | rfl | rfl | rfl | rfl | rfl <;> decide
  refine lv_iload_n hx hb (dkP dF_27 DJ1_charAt_3b067 (i := 0) rfl rfl) rfl (lv_at hl 1 rfl) ?_
  refine lv_aload_n hx hb (dkP dF_42 DJ1_charAt_3b067 (i := 1) rfl rfl) rfl (lv_at hl 0 rfl) ?_
  refine va_tlen (v := nI (stL.getD i 0)) hx hb (hRo.1.1 i hi).2.2.2 hw.2.2.1 rfl (dkP dF_190 DJ1_charAt_3b067 (i := 2) rfl rfl) ?_
  refine zn_V hw (zr_S (As := [.int (nI k), .int (nI (stL.getD i 0))]) (rest := []) C0 (c_J0_checkIndex_df160 l G kc k (stL.getD i 0) hk hlen _) cs_J0_checkIndex_df160 lk_J1_9 (zp_P C0 hRo hw a00 s00) rfl hl.1 rfl ⟨by decide, by decide⟩ (Nat.le_of_ble_eq_true rfl) (dk2 dF_184 DJ1_charAt_3b067 (i := 3) rfl rfl rfl) ⟨Nat.le_refl _, Nat.le_refl _⟩) (fun H locs hw => ?_)
  refine lv_aload_n hx hb (dkP dF_42 DJ1_charAt_3b067 (i := 4) rfl rfl) rfl (lv_at hl 0 rfl) ?_
  refine lv_iload_n hx hb (dkP dF_27 DJ1_charAt_3b067 (i := 5) rfl rfl) rfl (lv_at hl 1 rfl) ?_
  refine va_tb (v := .int ((stB.getD i []).getD k 0)) hx hb (hRo.1.1 i hi).2.2.2 hw.2.2.1 (vp_in_nI hk (by omega)) (by rw [nI_clamp (by omega)]) (dkP dF_51 DJ1_charAt_3b067 (i := 6) rfl rfl) ?_
  refine lv_sipush (v := 255) hx hb (dkS dF_17 DJ1_charAt_3b067 (i := 7) rfl rfl rfl) (by decide) ?_
  refine lv_iand hx hb (dkP dF_126 DJ1_charAt_3b067 (i := 8) rfl rfl) ?_
  refine lv_i2c hx hb (dkP dF_146 DJ1_charAt_3b067 (i := 9) rfl rfl) rfl ?_
  exact z_nret C0 hr hlk (pk_nc _) hw rfl (dkP dF_172 DJ1_charAt_3b067 (i := 10) rfl rfl)
set_option maxRecDepth 100000 in
set_option maxHeartbeats 4000000 in
theorem c_J0_charAt_5068e (l : Launch) (G : va_G) (kc : KC) (i k : Nat) (hi : i < 7) (hk : k < stL.getD i 0) : MI l G kc yJ0_charAt_5068e cJ0_charAt_5068e 2 (some .char) 3 64 [.ref (kc.2.1 i), .int (nI k)] [] a00 s00 (fun r _ => r = chr i k) := by
  intro sz
  refine z_body (y := yJ0_charAt_5068e) (n := 2) (av := [.ref (kc.2.1 i), .int (nI k)]) (Qc := fun A => va_Qi (fun r _ => r = chr i k) (PoC G kc [] a00 A) A) (by decide +kernel) (Nat.le_of_ble_eq_true rfl) (fun pr e s m below meth c A C0 hr hlk hnm hw hRo ls hl => ?_) sz
  have hx := C0.1
  have hb := C0.2.1
  have hown := C0.2.2.2.1
  have hts := C0.2.2.2.2.1
  have hl : lv_has ls 2 [(0, .ref (kc.2.1 i)), (1, .int (nI k))] := hl
  refine lv_aload_n hx hb (dkP dF_42 DJ0_charAt_5068e (i := 0) rfl rfl) rfl (lv_at hl 0 rfl) ?_
  refine zn_I hw (zr_V (As := []) (rest := []) C0 (c_J0_isLatin1_aae02 l G kc i hi _) cv_J0_isLatin1_aae02 lk_J0_492 (zp_K C0 hRo hw i hi) rfl hl.1 rfl ⟨by decide, by decide⟩ (Nat.le_of_ble_eq_true rfl) (dk2 dF_182 DJ0_charAt_5068e (i := 1) rfl rfl rfl) ⟨Nat.le_refl _, Nat.le_refl _⟩) (fun r s1 H locs hp hw => ?_)
  subst hp
  refine lv_if_eq (tgt := 16) hx hb (dkS dF_153 DJ0_charAt_5068e (i := 2) rfl rfl rfl) (by decide) (fun h => absurd h (by decide)) (fun _ => ?_)
  refine lv_aload_n hx hb (dkP dF_42 DJ0_charAt_5068e (i := 3) rfl rfl) rfl (lv_at hl 0 rfl) ?_
  refine vk_getf hx hb (hRo.1.1 i hi).2.2.1 hw.2.2.1 hown (hts _ gf_va) (fun _ h => h) (dk2 dF_180 DJ0_charAt_5068e (i := 4) rfl rfl rfl) ?_
  refine lv_iload_n hx hb (dkP dF_27 DJ0_charAt_5068e (i := 5) rfl rfl) rfl (lv_at hl 1 rfl) ?_
  refine zn_I hw (zr_S (As := [.ref (kc.2.2.1 i), .int (nI k)]) (rest := []) C0 (c_J1_charAt_3b067 l G kc i k hi hk _) cs_J1_charAt_3b067 lk_J0_495 (zp_P C0 hRo hw a00 s00) rfl hl.1 rfl ⟨by decide, by decide⟩ (Nat.le_of_ble_eq_true rfl) (dk2 dF_184 DJ0_charAt_5068e (i := 6) rfl rfl rfl) ⟨Nat.le_refl _, Nat.le_refl _⟩) (fun r s1 H locs hp hw => ?_)
  subst hp
  exact z_nret C0 hr hlk (pk_nc _) hw rfl (dkP dF_172 DJ0_charAt_5068e (i := 7) rfl rfl)
