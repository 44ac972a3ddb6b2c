set_option maxRecDepth 100000 in
set_option maxHeartbeats 8000000 in
theorem whole_start {p : Program} {e : Env} {s : State} {m : MethodId} {below : List Frame} {meth : Method} {c : Code} (l : Launch) {b L : Nat} {xs : Nat → Int32} (hL : L ≤ 6) (C0 : lw_At p s m meth c b L xs) : W p l e room_1 s m #[Value.ref b] below meth c s.heap [] 0 0 (lw_Z below #[Value.ref b] s) (entryFrame m ([Value.ref b] : List Value).toArray 4) := by
  obtain ⟨hx, hb, hr, hml, hown, hts, hX, hbl, hlocks, hgv⟩ := id C0
  obtain ⟨G, kc, hKx⟩ := ground hts
  have hg : ∀ w ∈ lw_gd, w.before #[Value.ref b] s = true := fun w h => hts w (gd_tbl h)
  have C1 : Cx G kc p s m c #[Value.ref b] cL_law 4 RL := ⟨hx, hb, hml, hown, hg, hKx⟩
  have hbA : ¬ (fun q : Nat => s.heap.size ≤ q) b := Nat.not_le.mpr hbl
  have hw : SF G kc (fun q : Nat => s.heap.size ≤ q) s.heap [] a00 s.heap [] := ⟨fun k q h => by simp [WF] at h, ⟨fun i j p q h => by simp [WF] at h, fun k q h => by simp [WF] at h⟩, va_S.rf, fun _ h => h⟩
  generalize hlocs : ([] : List Loc) = locs at hw ⊢
  clear hlocs
  have hl := lv_entry ([.ref b]) (n := 4) (Nat.le_of_ble_eq_true rfl)
  rw [lg_entry_eq]
  generalize (lg_sl ([.ref b]) ++ List.replicate (4 - (lg_sl ([.ref b])).length) Slot.unset).toArray = ls at hl ⊢
  have hl : lv_has ls 4 [(0, .ref b)] := hl
  refine kz_new C1 hw 0 rfl rfl nw_L_7 (by decide) (by decide) (dk2 dF_187 DL_law (i := 0) rfl rfl rfl) (fun q1 ad H h_q1 had hw => ?_)
  clear had
  refine W.widen (k := 1) (n := 12) (by decide) (by decide) ?_
  refine lv_dup hx hb (dkP dF_89 DL_law (i := 1) rfl rfl) rfl ?_
  refine kz_call (vs := []) (rest := [.ref q1]) C1 (c_X11_init l G kc) 0 hw rfl rfl (fun _ _ => rfl) h_q1 ci_X11_init lk_L_9 rfl hl.1 rfl ⟨by decide, by decide⟩ (Nat.le_of_ble_eq_true rfl) (dk2 dF_183 DL_law (i := 2) rfl rfl rfl) ⟨by decide, by decide⟩ (fun ad H locs h_q1 had hw => ?_)
  clear had
  rw [shF0] at hw
  refine W.widen (k := 799) (n := 147784) (by decide) (by decide) ?_
  refine lv_astore_n (lv' := [(1, .ref q1), (0, .ref b)]) hx hb (dkP dF_76 DL_law (i := 3) rfl rfl) rfl hl (by decide) rfl (fun ls hl => ?_)
  refine kz_new C1 hw 799 (by decide +kernel) (by decide +kernel) nw_L_10 (by decide) (by decide) (dk2 dF_187 DL_law (i := 4) rfl rfl rfl) (fun q2 ad3 H h_q2 had hw => ?_)
  have h_q1 : ad3 0 = q1 := (had 0 (by decide)).trans h_q1
  clear had
  refine W.widen (k := 800) (n := 147838) (by decide) (by decide) ?_
  refine lv_dup hx hb (dkP dF_89 DL_law (i := 5) rfl rfl) rfl ?_
  refine kz_callM (w3 := fun ad => WW kc shM ad sM0) (rest := [.ref q2]) C1 (fun a sz => c_X12_init l G kc a sz) 799 hw (by decide +kernel) (fun _ _ => rfl) h_q2 ci_X12_init lk_L_12 hl.1 rfl ⟨by decide, by decide⟩ (Nat.le_of_ble_eq_true rfl) (dk2 dF_183 DL_law (i := 6) rfl rfl rfl) ⟨by decide, by decide⟩ (fun ad2 H locs h_q2 hP hD hS => ?_)
  rw [WF_WW okC, shC_eq] at hP hD
  have hw : TW G kc (fun q : Nat => s.heap.size ≤ q) s.heap ad3 sC0 ad2 sM0 H locs := ⟨hP, hD, hS, fun _ h => h⟩
  subst h_q1
  subst h_q2
  refine W.widen (k := 836) (n := 1863908) (by decide) (by decide) ?_
  refine lv_astore_n (lv' := [(2, .ref (ad2 0)), (1, .ref (ad3 0)), (0, .ref b)]) hx hb (dkP dF_77 DL_law (i := 7) rfl rfl) rfl hl (by decide) rfl (fun ls hl => ?_)
  refine lv_iconst (v := 0) hx hb (dkP dF_3 DL_law (i := 8) rfl rfl) (by decide) ?_
  refine lv_istore_n (lv' := [(3, .int 0), (2, .ref (ad2 0)), (1, .ref (ad3 0)), (0, .ref b)]) hx hb (dkP dF_62 DL_law (i := 9) rfl rfl) rfl hl (by decide) rfl (fun ls hl => ?_)
  refine lv_iload_n hx hb (dkP dF_29 DL_law (i := 10) rfl rfl) rfl (lv_at hl 0 rfl) ?_
  refine lv_aload_n hx hb (dkP dF_42 DL_law (i := 11) rfl rfl) rfl (lv_at hl 3 rfl) ?_
  refine va_slen hx hb hX hbl hbA hw.2.2.1 (dkP dF_190 DL_law (i := 12) rfl rfl) ?_
  refine lv_bipush (v := 6) hx hb (dks dF_16 DL_law (i := 13) rfl rfl rfl) (by decide) ?_
  refine lv_isub hx hb (dkP dF_100 DL_law (i := 14) rfl rfl) ?_
  refine lv_icmp_gt (tgt := 1622) hx hb (dkS dF_163 DL_law (i := 15) rfl rfl rfl) (by decide) (fun _ => law_exit l G kc hr hlocks C1 hw.2.2.1) (fun hc => ?_)
  have h6 : L = 6 := by
    rcases (show L = 0 ∨ L = 1 ∨ L = 2 ∨ L = 3 ∨ L = 4 ∨ L = 5 ∨ L = 6 by omega) with h | h | h | h | h | h | h
    all_goals first | exact h | (subst h; exact absurd (by decide) hc)
  subst h6
  refine lv_aload_n hx hb (dkP dF_42 DL_law (i := 16) rfl rfl) rfl (lv_at hl 3 rfl) ?_
  refine lv_iload_n hx hb (dkP dF_29 DL_law (i := 17) rfl rfl) rfl (lv_at hl 0 rfl) ?_
  refine va_sld hx hb hX hbl hbA hw.2.2.1 (i := 0) (by unfold vp_in; decide) (dkP dF_46 DL_law (i := 18) rfl rfl) ?_
  refine lv_bipush (v := 63) hx hb (dks dF_16 DL_law (i := 19) rfl rfl rfl) (by decide) ?_
  refine lv_iand hx hb (dkP dF_126 DL_law (i := 20) rfl rfl) ?_
  obtain ⟨j, hj, ej⟩ := pk_andE (xs (0 : Int32).toNatClampNeg) (m := 63) 6 (by decide)
  rw [ej]
  by_cases h44 : j < 44
  · match j, h44 with
    | 0, _ =>
      refine lv_tableIn (x := nI 0) (off := 191) (tgt := 224) hx hb dL_law_33 (by decide) (by decide) rfl (by decide) ?_
      exact law_0 l G kc hr hlocks C1 hX hbl hw hl
    | 1, _ =>
      refine lv_tableIn (x := nI 1) (off := 254) (tgt := 287) hx hb dL_law_33 (by decide) (by decide) rfl (by decide) ?_
      exact law_1 l G kc hr hlocks C1 hX hbl hw hl
    | 2, _ =>
      refine lv_tableIn (x := nI 2) (off := 277) (tgt := 310) hx hb dL_law_33 (by decide) (by decide) rfl (by decide) ?_
      exact law_2 l G kc hr hlocks C1 hX hbl hw hl
    | 3, _ =>
      refine lv_tableIn (x := nI 3) (off := 300) (tgt := 333) hx hb dL_law_33 (by decide) (by decide) rfl (by decide) ?_
      exact law_3 l G kc hr hlocks C1 hX hbl hw hl
    | 4, _ =>
      refine lv_tableIn (x := nI 4) (off := 323) (tgt := 356) hx hb dL_law_33 (by decide) (by decide) rfl (by decide) ?_
      exact law_4 l G kc hr hlocks C1 hX hbl hw hl
    | 5, _ =>
      refine lv_tableIn (x := nI 5) (off := 346) (tgt := 379) hx hb dL_law_33 (by decide) (by decide) rfl (by decide) ?_
      exact law_5 l G kc hr hlocks C1 hX hbl hw hl
    | 6, _ =>
      refine lv_tableIn (x := nI 6) (off := 399) (tgt := 432) hx hb dL_law_33 (by decide) (by decide) rfl (by decide) ?_
      exact law_6 l G kc hr hlocks C1 hX hbl hw hl
    | 7, _ =>
      refine lv_tableIn (x := nI 7) (off := 432) (tgt := 465) hx hb dL_law_33 (by decide) (by decide) rfl (by decide) ?_
      exact law_7 l G kc hr hlocks C1 hX hbl hw hl
    | 8, _ =>
      refine lv_tableIn (x := nI 8) (off := 465) (tgt := 498) hx hb dL_law_33 (by decide) (by decide) rfl (by decide) ?_
      exact law_8 l G kc hr hlocks C1 hX hbl hw hl
    | 9, _ =>
      refine lv_tableIn (x := nI 9) (off := 488) (tgt := 521) hx hb dL_law_33 (by decide) (by decide) rfl (by decide) ?_
      exact law_9 l G kc hr hlocks C1 hX hbl hw hl
    | 10, _ =>
      refine lv_tableIn (x := nI 10) (off := 501) (tgt := 534) hx hb dL_law_33 (by decide) (by decide) rfl (by decide) ?_
      exact law_10 l G kc hr hlocks C1 hX hbl hw hl
    | 11, _ =>
      refine lv_tableIn (x := nI 11) (off := 524) (tgt := 557) hx hb dL_law_33 (by decide) (by decide) rfl (by decide) ?_
      exact law_11 l G kc hr hlocks C1 hX hbl hw hl
    | 12, _ =>
      refine lv_tableIn (x := nI 12) (off := 567) (tgt := 600) hx hb dL_law_33 (by decide) (by decide) rfl (by decide) ?_
      exact law_12 l G kc hr hlocks C1 hX hbl hw hl
    | 13, _ =>
      refine lv_tableIn (x := nI 13) (off := 610) (tgt := 643) hx hb dL_law_33 (by decide) (by decide) rfl (by decide) ?_
      exact law_13 l G kc hr hlocks C1 hX hbl hw hl
    | 14, _ =>
      refine lv_tableIn (x := nI 14) (off := 623) (tgt := 656) hx hb dL_law_33 (by decide) (by decide) rfl (by decide) ?_
      exact law_14 l G kc hr hlocks C1 hX hbl hw hl
    | 15, _ =>
      refine lv_tableIn (x := nI 15) (off := 636) (tgt := 669) hx hb dL_law_33 (by decide) (by decide) rfl (by decide) ?_
      exact law_15 l G kc hr hlocks C1 hX hbl hw hl
    | 16, _ =>
      refine lv_tableIn (x := nI 16) (off := 659) (tgt := 692) hx hb dL_law_33 (by decide) (by decide) rfl (by decide) ?_
      exact law_16 l G kc hr hlocks C1 hX hbl hw hl
    | 17, _ =>
      refine lv_tableIn (x := nI 17) (off := 712) (tgt := 745) hx hb dL_law_33 (by decide) (by decide) rfl (by decide) ?_
      exact law_17 l G kc hr hlocks C1 hX hbl hw hl
    | 18, _ =>
      refine lv_tableIn (x := nI 18) (off := 775) (tgt := 808) hx hb dL_law_33 (by decide) (by decide) rfl (by decide) ?_
      exact law_18 l G kc hr hlocks C1 hX hbl hw hl
    | 19, _ =>
      refine lv_tableIn (x := nI 19) (off := 798) (tgt := 831) hx hb dL_law_33 (by decide) (by decide) rfl (by decide) ?_
      exact law_19 l G kc hr hlocks C1 hX hbl hw hl
    | 20, _ =>
      refine lv_tableIn (x := nI 20) (off := 831) (tgt := 864) hx hb dL_law_33 (by decide) (by decide) rfl (by decide) ?_
      exact law_20 l G kc hr hlocks C1 hX hbl hw hl
    | 21, _ =>
      refine lv_tableIn (x := nI 21) (off := 864) (tgt := 897) hx hb dL_law_33 (by decide) (by decide) rfl (by decide) ?_
      exact law_21 l G kc hr hlocks C1 hX hbl hw hl
    | 22, _ =>
      refine lv_tableIn (x := nI 22) (off := 897) (tgt := 930) hx hb dL_law_33 (by decide) (by decide) rfl (by decide) ?_
      exact law_22 l G kc hr hlocks C1 hX hbl hw hl
    | 23, _ =>
      refine lv_tableIn (x := nI 23) (off := 910) (tgt := 943) hx hb dL_law_33 (by decide) (by decide) rfl (by decide) ?_
      exact law_23 l G kc hr hlocks C1 hX hbl hw hl
    | 24, _ =>
      refine lv_tableIn (x := nI 24) (off := 943) (tgt := 976) hx hb dL_law_33 (by decide) (by decide) rfl (by decide) ?_
      exact law_24 l G kc hr hlocks C1 hX hbl hw hl
    | 25, _ =>
      refine lv_tableIn (x := nI 25) (off := 976) (tgt := 1009) hx hb dL_law_33 (by decide) (by decide) rfl (by decide) ?_
      exact law_25 l G kc hr hlocks C1 hX hbl hw hl
    | 26, _ =>
      refine lv_tableIn (x := nI 26) (off := 1019) (tgt := 1052) hx hb dL_law_33 (by decide) (by decide) rfl (by decide) ?_
      exact law_26 l G kc hr hlocks C1 hX hbl hw hl
    | 27, _ =>
      refine lv_tableIn (x := nI 27) (off := 1052) (tgt := 1085) hx hb dL_law_33 (by decide) (by decide) rfl (by decide) ?_
      exact law_27 l G kc hr hlocks C1 hX hbl hw hl
    | 28, _ =>
      refine lv_tableIn (x := nI 28) (off := 1075) (tgt := 1108) hx hb dL_law_33 (by decide) (by decide) rfl (by decide) ?_
      exact law_28 l G kc hr hlocks C1 hX hbl hw hl
    | 29, _ =>
      refine lv_tableIn (x := nI 29) (off := 1098) (tgt := 1131) hx hb dL_law_33 (by decide) (by decide) rfl (by decide) ?_
      exact law_29 l G kc hr hlocks C1 hX hbl hw hl
    | 30, _ =>
      refine lv_tableIn (x := nI 30) (off := 1121) (tgt := 1154) hx hb dL_law_33 (by decide) (by decide) rfl (by decide) ?_
      exact law_30 l G kc hr hlocks C1 hX hbl hw hl
    | 31, _ =>
      refine lv_tableIn (x := nI 31) (off := 1144) (tgt := 1177) hx hb dL_law_33 (by decide) (by decide) rfl (by decide) ?_
      exact law_31 l G kc hr hlocks C1 hX hbl hw hl
    | 32, _ =>
      refine lv_tableIn (x := nI 32) (off := 1167) (tgt := 1200) hx hb dL_law_33 (by decide) (by decide) rfl (by decide) ?_
      exact law_32 l G kc hr hlocks C1 hX hbl hw hl
    | 33, _ =>
      refine lv_tableIn (x := nI 33) (off := 1190) (tgt := 1223) hx hb dL_law_33 (by decide) (by decide) rfl (by decide) ?_
      exact law_33 l G kc hr hlocks C1 hX hbl hw hl
    | 34, _ =>
      refine lv_tableIn (x := nI 34) (off := 1223) (tgt := 1256) hx hb dL_law_33 (by decide) (by decide) rfl (by decide) ?_
      exact law_34 l G kc hr hlocks C1 hX hbl hw hl
    | 35, _ =>
      refine lv_tableIn (x := nI 35) (off := 1266) (tgt := 1299) hx hb dL_law_33 (by decide) (by decide) rfl (by decide) ?_
      exact law_35 l G kc hr hlocks C1 hX hbl hw hl
    | 36, _ =>
      refine lv_tableIn (x := nI 36) (off := 1289) (tgt := 1322) hx hb dL_law_33 (by decide) (by decide) rfl (by decide) ?_
      exact law_36 l G kc hr hlocks C1 hX hbl hw hl
    | 37, _ =>
      refine lv_tableIn (x := nI 37) (off := 1322) (tgt := 1355) hx hb dL_law_33 (by decide) (by decide) rfl (by decide) ?_
      exact law_37 l G kc hr hlocks C1 hX hbl hw hl
    | 38, _ =>
      refine lv_tableIn (x := nI 38) (off := 1335) (tgt := 1368) hx hb dL_law_33 (by decide) (by decide) rfl (by decide) ?_
      exact law_38 l G kc hr hlocks C1 hX hbl hw hl
    | 39, _ =>
      refine lv_tableIn (x := nI 39) (off := 1358) (tgt := 1391) hx hb dL_law_33 (by decide) (by decide) rfl (by decide) ?_
      exact law_39 l G kc hr hlocks C1 hX hbl hw hl
    | 40, _ =>
      refine lv_tableIn (x := nI 40) (off := 1381) (tgt := 1414) hx hb dL_law_33 (by decide) (by decide) rfl (by decide) ?_
      exact law_40 l G kc hr hlocks C1 hX hbl hw hl
    | 41, _ =>
      refine lv_tableIn (x := nI 41) (off := 1404) (tgt := 1437) hx hb dL_law_33 (by decide) (by decide) rfl (by decide) ?_
      exact law_41 l G kc hr hlocks C1 hX hbl hw hl
    | 42, _ =>
      refine lv_tableIn (x := nI 42) (off := 1447) (tgt := 1480) hx hb dL_law_33 (by decide) (by decide) rfl (by decide) ?_
      exact law_42 l G kc hr hlocks C1 hX hbl hw hl
    | 43, _ =>
      refine lv_tableIn (x := nI 43) (off := 1520) (tgt := 1553) hx hb dL_law_33 (by decide) (by decide) rfl (by decide) ?_
      exact law_43 l G kc hr hlocks C1 hX hbl hw hl
    | j + 44, h => exact absurd h (by omega)
  · refine lv_tableOut (tgt := 1616) hx hb dL_law_33 (by rw [tnI j (by omega)]; omega) (by decide) ?_
    exact law_next l G kc hr hlocks C1 hX hbl (ad1 := ad3) (ad2 := ad2) hw.2.2.1 (lv_sub hl [0, 3] rfl)
-- ===== YOUR PART ENDS =====
set_option maxHeartbeats 4000000 in
theorem lw_walk (l : Launch) (b : Addr) (xs : List Int32) : MetFree l x (headSpec (Jvm.Cond.code x code maxLocals ret :: tables_1) room_1) (lw_P b xs) (fun _ _ _ _ _ => True) lw_Q := by
  refine MetFree.of_bodyS (code := code) (maxLocals := maxLocals) (ret := ret) (by decide) ?_ ?_
  · intro args s m h hn
    obtain ⟨meth, c, h1, h2, h3, h4, h5, h6, -, -⟩ := Cond.code_spec hn (atoms_spec (ws := Jvm.Cond.code x code maxLocals ret :: tables_1) h _ List.mem_cons_self)
    exact ⟨meth, c, h1, h2, h3, h4, h5, h6⟩
  · intro p e s m args below meth c s₁ B hml0 hP _
    obtain ⟨rfl, hx, hbd, hgv⟩ := hP
    obtain ⟨scr, harrAt, hlist, hof, hsmall⟩ := hx
    obtain ⟨hcb, hkn, -, -⟩ := State.arrayAt?_spec harrAt
    have hown : s.vm.findClass R_law = some m.cls := findClass_of_methodNamed B.named
    have hts0 : ∀ c ∈ (Jvm.Cond.code x code maxLocals ret :: tables_1), c.before #[Value.ref b] s = true := atoms_spec (ws := Jvm.Cond.code x code maxLocals ret :: tables_1) B.pre
    have hts : ∀ w ∈ lw_tbl, w.before #[Value.ref b] s = true := k2_hts_sels lw_privs (fun w hw => hts0 w (List.mem_cons_of_mem _ hw)) lw_privs_ok
    have hml : c.maxLocals = 4 := B.maxLocals_eq (hts0 _ List.mem_cons_self)
    have X₀ : Stand p l e room_1 s m #[Value.ref b] below meth c s₁ [] 0 0 := Stand.of_body B
    have hh0 : s₁.heap = s.heap := by rw [B.state]; rfl
    have hsz : scr.slots.size = xs.length := by rw [← Array.length_toList, hlist, List.length_map]
    have hval : ∀ j : Nat, j < xs.length → scr.slots[j]? = some (.int (xs.getD j 0)) := fun j hj => by
      rw [← Array.getElem?_toList, hlist]
      simp [hj]
    have hbl : b < s.heap.size := (Array.getElem?_eq_some_iff.mp hcb).1
    have hX : va_X b xs.length (fun j => xs.getD j 0) s s.heap := ⟨scr, hcb, hof, hkn, hsz, hval⟩
    have K : W p l e room_1 s m #[Value.ref b] below meth c s₁.heap [] 0 0 (lw_Z below #[Value.ref b] s) (entryFrame m ([Value.ref b] : List Value).toArray 4) := by
      rw [hh0]
      exact whole_start l hbd ⟨B.exec, B.bytes, B.returns, hml, hown, hts, hX, hbl, B.notSynchronized, hgv⟩
    obtain ⟨t, a1, o, b1, b2, b3⟩ := K s₁ rfl X₀
    exact ⟨t, o, a1, b1, b2, b3⟩
theorem lw_pre_spec {args : Array Value} {s : State} (h : (Jvm.Cond.and given_1 narrow_1).before args s = true) (hr : rest_1_c.before args s = true) : ∃ (b : Addr) (xs : List Int32), lw_P b xs args s := by
  have hs := flat_of_before _ h
  have hq := flat_of_before _ hr
  have hc : (Cond.count 1).before args s = true := hs _ (by decide +kernel)
  have harr : (Cond.arrayOf (.arg 0) .int).before args s = true := hs _ (by decide +kernel)
  have hle : (Cond.le (.length (.arg 0)) (.int 6)).before args s = true := hs _ (by decide +kernel)
  have hlen : (Cond.isInt (.length (.arg 0))).before args s = true := hq _ (by decide +kernel)
  have hall : (Cond.all (.arg 0) (.isInt (.elem (.arg 0) (.index 0)))).before args s = true := hq _ (by decide +kernel)
  obtain ⟨b, xs, hb, hx⟩ := State.ints_of_pre rfl harr hlen hall
  have hsm : xs.length < 2 ^ 31 := hx.choose_spec.2.2.2
  have hev : (Term.length (.arg 0)).eval args s none [] s = some (.int xs.length.toInt32) := hx.length_eval hb
  have hv := Cond.le_ints hev (show (Term.int 6).eval args s none [] s = some (.int 6) from rfl)
  have hd : xs.length.toInt32 ≤ 6 := by
    simpa [Cond.before, Cond.holds, hv] using hle
  have hN : xs.length ≤ 6 := (Int32.ofNat_le_ofNat hsm (by decide)).mp (show Int32.ofNat xs.length ≤ Int32.ofNat 6 from hd)
  exact ⟨b, xs, Cond.one_arg hc (show args[0]? = some (.ref b) from hb), hx, hN, h⟩
theorem lw_comes (l : Launch) : Comes l x (Jvm.Cond.code x code maxLocals ret :: tables_1) room_1 (fun tb e args s => Calls_1 tb e args s ∧ rest_1 tb e args s ∧ Pre_1 tb e args s)
    (fun _ _ args s o t => lw_Q args s o t) := by
  intro p e ha hc hk s m args below hf hfit hheap happ hpre
  obtain ⟨b, xs, hP⟩ := lw_pre_spec hpre.2.2 hpre.2.1
  obtain ⟨k, o, h1, h2, h3, hQ⟩ := lw_walk l b xs p e ha hc hk s m args below hf ((Spec.applies_iff_loose hf).mp happ).1 hP trivial
  exact ⟨k, o, h1, h2, h3, hQ⟩
theorem lw_frame {s t : State} {o : Outcome} {args : Array Value} (h : Framed s o t [] 600000 7302250) :
    Framed s o t (fieldLocs frame_1_writes args s ++ arrayLocs frame_1_arrays args s ++ staticLocs frame_1_statics s) 600000 7302250 := h
theorem lw_limb (L : Cond) (hL : ∀ (args : Array Value) (s t : State), L.after args s (.returned (some (.int 1))) t = true) :
    ArmFor flags0 classFile x code maxLocals ret World_1 tables_1 room_1 Calls_1 rest_1 Pre_1
      (fun tb e a s o t => postC L tb e a s o t ∧ Framed s o t (fieldLocs frame_1_writes a s ++ arrayLocs frame_1_arrays a s ++ staticLocs frame_1_statics s) 600000 7302250) := by
  intro l _ _ _ p e ha hc hk s m args below hf hfit hheap happ hpre
  obtain ⟨k, o, h1, h2, h3, rfl, hF⟩ := lw_comes l p e ha hc hk s m args below hf hfit hheap happ hpre
  exact ⟨k, _, h1, h2, h3, hL args s _, lw_frame hF⟩
theorem i_vc : Claimed_1_1 ∧ Claimed_1_2 := ⟨lw_limb limb_1_1 (fun args s t => by simp [limb_1_1, Cond.after, Cond.holds, Cond.value]), lw_limb limb_1_2 (fun args s t => Cond.after_iff.mpr (by
  first | (rw [show limb_1_2 = Cond.eq .result (.int 1) from rfl, Cond.eq_ints (x := 1) (y := 1) rfl rfl]; simp; done) | (simp [limb_1_2, Cond.value, Term.eval]; done)))⟩
