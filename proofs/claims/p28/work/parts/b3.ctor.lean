def LX8 (N : Nat) : List FE := [(0, 8, 0, [(1, 0, 1), (0, 0, 0)]), (1, N, 0, [])]
set_option maxRecDepth 100000 in
set_option maxHeartbeats 4000000 in
theorem c_X8_init (l : Launch) (G : va_G) (kc : KC) (N : Nat) (hN : N < 100000) : MK l G kc yX8_init cX8_init 2 1 20 1 N [.int (nI N)] (0, 8, 0, [(3, 0, 0), (0, 0, 0)]) (LX8 N) := by
  intro a sz
  refine k_body (y := yX8_init) (n := 2) (av := [.ref a, .int (nI N)]) (rm := { frames := 1, cells := 1, slots := N, locals := 20 }) (Qc := fun A => QK G kc (LX8 N) a A) (plainFor_of_name (by decide)) (Nat.le_of_ble_eq_true rfl) (fun pr e s m below meth c A C0 hr hlk hnm hw hRo ls hl => ?_) sz
  have hx := C0.1
  have hb := C0.2.1
  have h_a : (fun _ : Nat => a) 0 = a := rfl
  generalize (fun _ : Nat => a) = ad at hw h_a
  have hl : lv_has ls 2 [(0, .ref a), (1, .int (nI N))] := hl
  refine lv_aload_n hx hb (dkP dF_42 DX8_init (i := 0) rfl rfl) rfl (lv_at hl 0 rfl) ?_
  refine kz_obj C0 hl.1 ol_X8_3 ob_im ob_co (Nat.le_refl 1) (Nat.le_refl 20) (Nat.le_of_ble_eq_true rfl) (dk2 dF_183 DX8_init (i := 1) rfl rfl rfl) ?_
  refine lv_aload_n hx hb (dkP dF_42 DX8_init (i := 2) rfl rfl) rfl (lv_at hl 0 rfl) ?_
  refine lv_iload_n hx hb (dkP dF_27 DX8_init (i := 3) rfl rfl) rfl (lv_at hl 1 rfl) ?_
  refine kz_newai C0 hw 1 N rfl rfl ar_int (nI_pos (by omega)) (nI_clamp (by omega)) (by show N * 4 ≤ _; omega) (Nat.le_refl 1) (by show 0 + N ≤ N; omega) (dkN DX8_init (i := 4) rfl rfl rfl (by decide)) (fun q1 ad H h_q1 had hw => ?_)
  have h_a : ad 0 = a := (had 0 (by decide)).trans h_a
  refine W.widen (k := 1) (n := N) (by decide) (by omega) ?_
  refine kz_pF C0 hnm hw 0 0 (1, 0, 1) rfl (by decide) h_a (congrArg Value.ref h_q1) ff_X8_9 rfl rfl (dk2 dF_181 DX8_init (i := 5) rfl rfl rfl) (fun H locs hw => ?_)
  exact kz_vret C0 hr hlk hw h_a rfl (dkP dF_177 DX8_init (i := 6) rfl rfl)
def LX2 : List FE := [(0, 2, 0, [(0, 0, 0), (0, 0, 0), (1, 0, 1), (1, 0, 2), (1, 0, 3), (1, 0, 4), (1, 0, 5), (1, 0, 6), (1, 0, 7), (1, 0, 8)]), (1, 24, 0, []), (1, 24, 0, []), (1, 24, 0, []), (1, 24, 0, []), (1, 24, 0, []), (1, 24, 0, []), (1, 24, 0, []), (0, 8, 0, [(1, 0, 9), (0, 0, 0)]), (1, 192, 0, [])]
def LDX2_1 : List FE := [(0, 2, 0, [(0, 0, 0), (0, 0, 0), (3, 0, 0), (3, 0, 0), (3, 0, 0), (3, 0, 0), (3, 0, 0), (3, 0, 0), (3, 0, 0), (3, 0, 0)])]
def LDX2_2 : List FE := LDX2_1 ++ [(1, 24, 0, [])]
def LDX2_3 : List FE := LDX2_2.set 0 (0, 2, 0, [(0, 0, 0), (0, 0, 0), (1, 0, 1), (3, 0, 0), (3, 0, 0), (3, 0, 0), (3, 0, 0), (3, 0, 0), (3, 0, 0), (3, 0, 0)])
def LDX2_4 : List FE := LDX2_3 ++ [(1, 24, 0, [])]
def LDX2_5 : List FE := LDX2_4.set 0 (0, 2, 0, [(0, 0, 0), (0, 0, 0), (1, 0, 1), (1, 0, 2), (3, 0, 0), (3, 0, 0), (3, 0, 0), (3, 0, 0), (3, 0, 0), (3, 0, 0)])
def LDX2_6 : List FE := LDX2_5 ++ [(1, 24, 0, [])]
def LDX2_7 : List FE := LDX2_6.set 0 (0, 2, 0, [(0, 0, 0), (0, 0, 0), (1, 0, 1), (1, 0, 2), (1, 0, 3), (3, 0, 0), (3, 0, 0), (3, 0, 0), (3, 0, 0), (3, 0, 0)])
def LDX2_8 : List FE := LDX2_7 ++ [(1, 24, 0, [])]
def LDX2_9 : List FE := LDX2_8.set 0 (0, 2, 0, [(0, 0, 0), (0, 0, 0), (1, 0, 1), (1, 0, 2), (1, 0, 3), (1, 0, 4), (3, 0, 0), (3, 0, 0), (3, 0, 0), (3, 0, 0)])
def LDX2_10 : List FE := LDX2_9 ++ [(1, 24, 0, [])]
def LDX2_11 : List FE := LDX2_10.set 0 (0, 2, 0, [(0, 0, 0), (0, 0, 0), (1, 0, 1), (1, 0, 2), (1, 0, 3), (1, 0, 4), (1, 0, 5), (3, 0, 0), (3, 0, 0), (3, 0, 0)])
def LDX2_12 : List FE := LDX2_11 ++ [(1, 24, 0, [])]
def LDX2_13 : List FE := LDX2_12.set 0 (0, 2, 0, [(0, 0, 0), (0, 0, 0), (1, 0, 1), (1, 0, 2), (1, 0, 3), (1, 0, 4), (1, 0, 5), (1, 0, 6), (3, 0, 0), (3, 0, 0)])
def LDX2_14 : List FE := LDX2_13 ++ [(1, 24, 0, [])]
def LDX2_15 : List FE := LDX2_14.set 0 (0, 2, 0, [(0, 0, 0), (0, 0, 0), (1, 0, 1), (1, 0, 2), (1, 0, 3), (1, 0, 4), (1, 0, 5), (1, 0, 6), (1, 0, 7), (3, 0, 0)])
def LDX2_16 : List FE := LDX2_15 ++ [(0, 8, 0, [(3, 0, 0), (0, 0, 0)])]
def LDX2_17 : List FE := LDX2_15 ++ shF 8 (LX8 192)
def LDX2_18 : List FE := LDX2_17.set 0 (0, 2, 0, [(0, 0, 0), (0, 0, 0), (1, 0, 1), (1, 0, 2), (1, 0, 3), (1, 0, 4), (1, 0, 5), (1, 0, 6), (1, 0, 7), (1, 0, 8)])
set_option maxRecDepth 100000 in
set_option maxHeartbeats 4000000 in
theorem c_X2_init (l : Launch) (G : va_G) (kc : KC) : MK l G kc yX2_init cX2_init 1 2 41 9 362 [] (0, 2, 0, [(0, 0, 0), (0, 0, 0), (3, 0, 0), (3, 0, 0), (3, 0, 0), (3, 0, 0), (3, 0, 0), (3, 0, 0), (3, 0, 0), (3, 0, 0)]) LX2 := by
  intro a sz
  refine k_body (y := yX2_init) (n := 1) (av := .ref a :: []) (rm := { frames := 2, cells := 9, slots := 362, locals := 41 }) (Qc := fun A => QK G kc LX2 a A) (plainFor_of_name (by decide)) (Nat.le_of_ble_eq_true rfl) (fun pr e s m below meth c A C0 hr hlk hnm hw hRo ls hl => ?_) sz
  have hx := C0.1
  have hb := C0.2.1
  have hown := C0.2.2.2.1
  have hts := C0.2.2.2.2.1
  have h_a : (fun _ : Nat => a) 0 = a := rfl
  generalize (fun _ : Nat => a) = ad at hw h_a
  generalize hlocs : ([] : List Loc) = locs at hw ⊢
  clear hlocs
  have hl : lv_has ls 1 [(0, .ref a)] := hl
  refine lv_aload_n hx hb (dkP dF_42 DX2_init (i := 0) rfl rfl) rfl (lv_at hl 0 rfl) ?_
  refine kz_obj C0 hl.1 ol_X2_5 ob_im ob_co (by decide) (by decide) (Nat.le_of_ble_eq_true rfl) (dk2 dF_183 DX2_init (i := 1) rfl rfl rfl) ?_
  refine lv_aload_n hx hb (dkP dF_42 DX2_init (i := 2) rfl rfl) rfl (lv_at hl 0 rfl) ?_
  refine lv_bipush (v := 24) hx hb (dks dF_16 DX2_init (i := 3) rfl rfl rfl) (by decide) ?_
  refine kz_newai C0 hw 1 24 (by decide) (by decide +kernel) ar_int (by decide) (by decide) (by decide) (by decide) (by decide) (dkN DX2_init (i := 4) rfl rfl rfl (by decide)) (fun q1 ad H h_q1 had hw => ?_)
  have hw : SF G kc A s.heap LDX2_2 ad H locs := hw
  have h_a : ad 0 = a := (had 0 (by decide)).trans h_a
  clear had
  refine W.widen (k := 1) (n := 24) (by decide) (by decide) ?_
  refine kz_pF C0 hnm hw 0 2 (1, 0, 1) (hi := (rfl : LDX2_2[0]? = some ((0, 2, 0, [(0, 0, 0), (0, 0, 0), (3, 0, 0), (3, 0, 0), (3, 0, 0), (3, 0, 0), (3, 0, 0), (3, 0, 0), (3, 0, 0), (3, 0, 0)]) : FE))) (by decide) h_a (show fvV ad (1, 0, 1) = .ref q1 from congrArg Value.ref h_q1) ff_X2_11 rfl rfl (dk2 dF_181 DX2_init (i := 5) rfl rfl rfl) (fun H locs hw => ?_)
  have hw : SF G kc A s.heap LDX2_3 ad H locs := hw
  refine lv_aload_n hx hb (dkP dF_42 DX2_init (i := 6) rfl rfl) rfl (lv_at hl 0 rfl) ?_
  refine lv_bipush (v := 24) hx hb (dks dF_16 DX2_init (i := 7) rfl rfl rfl) (by decide) ?_
  refine kz_newai C0 hw 2 24 (by decide) (by decide +kernel) ar_int (by decide) (by decide) (by decide) (by decide) (by decide) (dkN DX2_init (i := 8) rfl rfl rfl (by decide)) (fun q2 ad H h_q2 had hw => ?_)
  have hw : SF G kc A s.heap LDX2_4 ad H locs := hw
  have h_a : ad 0 = a := (had 0 (by decide)).trans h_a
  have h_q1 : ad 1 = q1 := (had 1 (by decide)).trans h_q1
  clear had
  refine W.widen (k := 2) (n := 48) (by decide) (by decide) ?_
  refine kz_pF C0 hnm hw 0 3 (1, 0, 2) (hi := (rfl : LDX2_4[0]? = some ((0, 2, 0, [(0, 0, 0), (0, 0, 0), (1, 0, 1), (3, 0, 0), (3, 0, 0), (3, 0, 0), (3, 0, 0), (3, 0, 0), (3, 0, 0), (3, 0, 0)]) : FE))) (by decide) h_a (show fvV ad (1, 0, 2) = .ref q2 from congrArg Value.ref h_q2) ff_X2_17 rfl rfl (dk2 dF_181 DX2_init (i := 9) rfl rfl rfl) (fun H locs hw => ?_)
  have hw : SF G kc A s.heap LDX2_5 ad H locs := hw
  refine lv_aload_n hx hb (dkP dF_42 DX2_init (i := 10) rfl rfl) rfl (lv_at hl 0 rfl) ?_
  refine lv_bipush (v := 24) hx hb (dks dF_16 DX2_init (i := 11) rfl rfl rfl) (by decide) ?_
  refine kz_newai C0 hw 3 24 (by decide) (by decide +kernel) ar_int (by decide) (by decide) (by decide) (by decide) (by decide) (dkN DX2_init (i := 12) rfl rfl rfl (by decide)) (fun q3 ad H h_q3 had hw => ?_)
  have hw : SF G kc A s.heap LDX2_6 ad H locs := hw
  have h_a : ad 0 = a := (had 0 (by decide)).trans h_a
  have h_q1 : ad 1 = q1 := (had 1 (by decide)).trans h_q1
  have h_q2 : ad 2 = q2 := (had 2 (by decide)).trans h_q2
  clear had
  refine W.widen (k := 3) (n := 72) (by decide) (by decide) ?_
  refine kz_pF C0 hnm hw 0 4 (1, 0, 3) (hi := (rfl : LDX2_6[0]? = some ((0, 2, 0, [(0, 0, 0), (0, 0, 0), (1, 0, 1), (1, 0, 2), (3, 0, 0), (3, 0, 0), (3, 0, 0), (3, 0, 0), (3, 0, 0), (3, 0, 0)]) : FE))) (by decide) h_a (show fvV ad (1, 0, 3) = .ref q3 from congrArg Value.ref h_q3) ff_X2_20 rfl rfl (dk2 dF_181 DX2_init (i := 13) rfl rfl rfl) (fun H locs hw => ?_)
  have hw : SF G kc A s.heap LDX2_7 ad H locs := hw
  refine lv_aload_n hx hb (dkP dF_42 DX2_init (i := 14) rfl rfl) rfl (lv_at hl 0 rfl) ?_
  refine lv_bipush (v := 24) hx hb (dks dF_16 DX2_init (i := 15) rfl rfl rfl) (by decide) ?_
  refine kz_newai C0 hw 4 24 (by decide) (by decide +kernel) ar_int (by decide) (by decide) (by decide) (by decide) (by decide) (dkN DX2_init (i := 16) rfl rfl rfl (by decide)) (fun q4 ad H h_q4 had hw => ?_)
  have hw : SF G kc A s.heap LDX2_8 ad H locs := hw
  have h_a : ad 0 = a := (had 0 (by decide)).trans h_a
  have h_q1 : ad 1 = q1 := (had 1 (by decide)).trans h_q1
  have h_q2 : ad 2 = q2 := (had 2 (by decide)).trans h_q2
  have h_q3 : ad 3 = q3 := (had 3 (by decide)).trans h_q3
  clear had
  refine W.widen (k := 4) (n := 96) (by decide) (by decide) ?_
  refine kz_pF C0 hnm hw 0 5 (1, 0, 4) (hi := (rfl : LDX2_8[0]? = some ((0, 2, 0, [(0, 0, 0), (0, 0, 0), (1, 0, 1), (1, 0, 2), (1, 0, 3), (3, 0, 0), (3, 0, 0), (3, 0, 0), (3, 0, 0), (3, 0, 0)]) : FE))) (by decide) h_a (show fvV ad (1, 0, 4) = .ref q4 from congrArg Value.ref h_q4) ff_X2_23 rfl rfl (dk2 dF_181 DX2_init (i := 17) rfl rfl rfl) (fun H locs hw => ?_)
  have hw : SF G kc A s.heap LDX2_9 ad H locs := hw
  refine lv_aload_n hx hb (dkP dF_42 DX2_init (i := 18) rfl rfl) rfl (lv_at hl 0 rfl) ?_
  refine lv_bipush (v := 24) hx hb (dks dF_16 DX2_init (i := 19) rfl rfl rfl) (by decide) ?_
  refine kz_newai C0 hw 5 24 (by decide) (by decide +kernel) ar_int (by decide) (by decide) (by decide) (by decide) (by decide) (dkN DX2_init (i := 20) rfl rfl rfl (by decide)) (fun q5 ad H h_q5 had hw => ?_)
  have hw : SF G kc A s.heap LDX2_10 ad H locs := hw
  have h_a : ad 0 = a := (had 0 (by decide)).trans h_a
  have h_q1 : ad 1 = q1 := (had 1 (by decide)).trans h_q1
  have h_q2 : ad 2 = q2 := (had 2 (by decide)).trans h_q2
  have h_q3 : ad 3 = q3 := (had 3 (by decide)).trans h_q3
  have h_q4 : ad 4 = q4 := (had 4 (by decide)).trans h_q4
  clear had
  refine W.widen (k := 5) (n := 120) (by decide) (by decide) ?_
  refine kz_pF C0 hnm hw 0 6 (1, 0, 5) (hi := (rfl : LDX2_10[0]? = some ((0, 2, 0, [(0, 0, 0), (0, 0, 0), (1, 0, 1), (1, 0, 2), (1, 0, 3), (1, 0, 4), (3, 0, 0), (3, 0, 0), (3, 0, 0), (3, 0, 0)]) : FE))) (by decide) h_a (show fvV ad (1, 0, 5) = .ref q5 from congrArg Value.ref h_q5) ff_X2_26 rfl rfl (dk2 dF_181 DX2_init (i := 21) rfl rfl rfl) (fun H locs hw => ?_)
  have hw : SF G kc A s.heap LDX2_11 ad H locs := hw
  refine lv_aload_n hx hb (dkP dF_42 DX2_init (i := 22) rfl rfl) rfl (lv_at hl 0 rfl) ?_
  refine lv_bipush (v := 24) hx hb (dks dF_16 DX2_init (i := 23) rfl rfl rfl) (by decide) ?_
  refine kz_newai C0 hw 6 24 (by decide) (by decide +kernel) ar_int (by decide) (by decide) (by decide) (by decide) (by decide) (dkN DX2_init (i := 24) rfl rfl rfl (by decide)) (fun q6 ad H h_q6 had hw => ?_)
  have hw : SF G kc A s.heap LDX2_12 ad H locs := hw
  have h_a : ad 0 = a := (had 0 (by decide)).trans h_a
  have h_q1 : ad 1 = q1 := (had 1 (by decide)).trans h_q1
  have h_q2 : ad 2 = q2 := (had 2 (by decide)).trans h_q2
  have h_q3 : ad 3 = q3 := (had 3 (by decide)).trans h_q3
  have h_q4 : ad 4 = q4 := (had 4 (by decide)).trans h_q4
  have h_q5 : ad 5 = q5 := (had 5 (by decide)).trans h_q5
  clear had
  refine W.widen (k := 6) (n := 144) (by decide) (by decide) ?_
  refine kz_pF C0 hnm hw 0 7 (1, 0, 6) (hi := (rfl : LDX2_12[0]? = some ((0, 2, 0, [(0, 0, 0), (0, 0, 0), (1, 0, 1), (1, 0, 2), (1, 0, 3), (1, 0, 4), (1, 0, 5), (3, 0, 0), (3, 0, 0), (3, 0, 0)]) : FE))) (by decide) h_a (show fvV ad (1, 0, 6) = .ref q6 from congrArg Value.ref h_q6) ff_X2_29 rfl rfl (dk2 dF_181 DX2_init (i := 25) rfl rfl rfl) (fun H locs hw => ?_)
  have hw : SF G kc A s.heap LDX2_13 ad H locs := hw
  refine lv_aload_n hx hb (dkP dF_42 DX2_init (i := 26) rfl rfl) rfl (lv_at hl 0 rfl) ?_
  refine lv_bipush (v := 24) hx hb (dks dF_16 DX2_init (i := 27) rfl rfl rfl) (by decide) ?_
  refine kz_newai C0 hw 7 24 (by decide) (by decide +kernel) ar_int (by decide) (by decide) (by decide) (by decide) (by decide) (dkN DX2_init (i := 28) rfl rfl rfl (by decide)) (fun q7 ad H h_q7 had hw => ?_)
  have hw : SF G kc A s.heap LDX2_14 ad H locs := hw
  have h_a : ad 0 = a := (had 0 (by decide)).trans h_a
  have h_q1 : ad 1 = q1 := (had 1 (by decide)).trans h_q1
  have h_q2 : ad 2 = q2 := (had 2 (by decide)).trans h_q2
  have h_q3 : ad 3 = q3 := (had 3 (by decide)).trans h_q3
  have h_q4 : ad 4 = q4 := (had 4 (by decide)).trans h_q4
  have h_q5 : ad 5 = q5 := (had 5 (by decide)).trans h_q5
  have h_q6 : ad 6 = q6 := (had 6 (by decide)).trans h_q6
  clear had
  refine W.widen (k := 7) (n := 168) (by decide) (by decide) ?_
  refine kz_pF C0 hnm hw 0 8 (1, 0, 7) (hi := (rfl : LDX2_14[0]? = some ((0, 2, 0, [(0, 0, 0), (0, 0, 0), (1, 0, 1), (1, 0, 2), (1, 0, 3), (1, 0, 4), (1, 0, 5), (1, 0, 6), (3, 0, 0), (3, 0, 0)]) : FE))) (by decide) h_a (show fvV ad (1, 0, 7) = .ref q7 from congrArg Value.ref h_q7) ff_X2_32 rfl rfl (dk2 dF_181 DX2_init (i := 29) rfl rfl rfl) (fun H locs hw => ?_)
  have hw : SF G kc A s.heap LDX2_15 ad H locs := hw
  refine lv_aload_n hx hb (dkP dF_42 DX2_init (i := 30) rfl rfl) rfl (lv_at hl 0 rfl) ?_
  refine kz_new C0 hw 8 (by decide) (by decide +kernel) nw_X2_1 (by decide) (by decide) (dk2 dF_187 DX2_init (i := 31) rfl rfl rfl) (fun q8 ad H h_q8 had hw => ?_)
  have hw : SF G kc A s.heap (LDX2_15 ++ [(0, 8, 0, [(3, 0, 0), (0, 0, 0)])]) ad H locs := hw
  have h_a : ad 0 = a := (had 0 (by decide)).trans h_a
  have h_q1 : ad 1 = q1 := (had 1 (by decide)).trans h_q1
  have h_q2 : ad 2 = q2 := (had 2 (by decide)).trans h_q2
  have h_q3 : ad 3 = q3 := (had 3 (by decide)).trans h_q3
  have h_q4 : ad 4 = q4 := (had 4 (by decide)).trans h_q4
  have h_q5 : ad 5 = q5 := (had 5 (by decide)).trans h_q5
  have h_q6 : ad 6 = q6 := (had 6 (by decide)).trans h_q6
  have h_q7 : ad 7 = q7 := (had 7 (by decide)).trans h_q7
  clear had
  refine W.widen (k := 8) (n := 170) (by decide) (by decide) ?_
  refine lv_dup hx hb (dkP dF_89 DX2_init (i := 32) rfl rfl) rfl ?_
  refine lv_sipush (v := 192) hx hb (dkS dF_17 DX2_init (i := 33) rfl rfl rfl) (by decide) ?_
  refine kz_call (vs := [.int 192]) (rest := [.ref q8, .ref a]) C0 hRo (c_X8_init l G kc 192 (by decide)) 8 hw (by decide) (by decide +kernel) (fun _ _ => rfl) h_q8 ci_X8_init lk_X2_35 rfl hl.1 rfl ⟨by decide, by decide⟩ (Nat.le_of_ble_eq_true rfl) (dk2 dF_183 DX2_init (i := 34) rfl rfl rfl) ⟨by decide, by decide⟩ (fun ad H locs h_q8 had hw => ?_)
  have hw : SF G kc A s.heap LDX2_17 ad H locs := hw
  have h_a : ad 0 = a := (had 0 (by decide)).trans h_a
  have h_q1 : ad 1 = q1 := (had 1 (by decide)).trans h_q1
  have h_q2 : ad 2 = q2 := (had 2 (by decide)).trans h_q2
  have h_q3 : ad 3 = q3 := (had 3 (by decide)).trans h_q3
  have h_q4 : ad 4 = q4 := (had 4 (by decide)).trans h_q4
  have h_q5 : ad 5 = q5 := (had 5 (by decide)).trans h_q5
  have h_q6 : ad 6 = q6 := (had 6 (by decide)).trans h_q6
  have h_q7 : ad 7 = q7 := (had 7 (by decide)).trans h_q7
  clear had
  refine W.widen (k := 9) (n := 362) (by decide) (by decide) ?_
  refine kz_pF C0 hnm hw 0 9 (1, 0, 8) (hi := (rfl : LDX2_17[0]? = some ((0, 2, 0, [(0, 0, 0), (0, 0, 0), (1, 0, 1), (1, 0, 2), (1, 0, 3), (1, 0, 4), (1, 0, 5), (1, 0, 6), (1, 0, 7), (3, 0, 0)]) : FE))) (by decide) h_a (show fvV ad (1, 0, 8) = .ref q8 from congrArg Value.ref h_q8) ff_X2_38 rfl rfl (dk2 dF_181 DX2_init (i := 35) rfl rfl rfl) (fun H locs hw => ?_)
  have hw : SF G kc A s.heap LDX2_18 ad H locs := hw
  exact kz_vret C0 hr hlk hw h_a (eqF (by decide +kernel)) (dkP dF_177 DX2_init (i := 36) rfl rfl)
def LX1 : List FE := [(0, 1, 0, [(0, 0, 0), (0, 0, 0), (0, 0, 0), (0, 0, 0), (1, 0, 1), (1, 0, 2), (1, 0, 3), (1, 0, 4), (1, 0, 5), (1, 0, 6)]), (1, 40, 0, []), (1, 40, 0, []), (1, 40, 0, []), (1, 40, 0, []), (1, 160, 0, []), (0, 8, 0, [(1, 0, 7), (0, 0, 0)]), (1, 1920, 0, [])]
def LDX1_1 : List FE := [(0, 1, 0, [(0, 0, 0), (0, 0, 0), (0, 0, 0), (0, 0, 0), (3, 0, 0), (3, 0, 0), (3, 0, 0), (3, 0, 0), (3, 0, 0), (3, 0, 0)])]
def LDX1_2 : List FE := LDX1_1 ++ [(1, 40, 0, [])]
def LDX1_3 : List FE := LDX1_2.set 0 (0, 1, 0, [(0, 0, 0), (0, 0, 0), (0, 0, 0), (0, 0, 0), (1, 0, 1), (3, 0, 0), (3, 0, 0), (3, 0, 0), (3, 0, 0), (3, 0, 0)])
def LDX1_4 : List FE := LDX1_3 ++ [(1, 40, 0, [])]
def LDX1_5 : List FE := LDX1_4.set 0 (0, 1, 0, [(0, 0, 0), (0, 0, 0), (0, 0, 0), (0, 0, 0), (1, 0, 1), (1, 0, 2), (3, 0, 0), (3, 0, 0), (3, 0, 0), (3, 0, 0)])
def LDX1_6 : List FE := LDX1_5 ++ [(1, 40, 0, [])]
def LDX1_7 : List FE := LDX1_6.set 0 (0, 1, 0, [(0, 0, 0), (0, 0, 0), (0, 0, 0), (0, 0, 0), (1, 0, 1), (1, 0, 2), (1, 0, 3), (3, 0, 0), (3, 0, 0), (3, 0, 0)])
def LDX1_8 : List FE := LDX1_7 ++ [(1, 40, 0, [])]
def LDX1_9 : List FE := LDX1_8.set 0 (0, 1, 0, [(0, 0, 0), (0, 0, 0), (0, 0, 0), (0, 0, 0), (1, 0, 1), (1, 0, 2), (1, 0, 3), (1, 0, 4), (3, 0, 0), (3, 0, 0)])
def LDX1_10 : List FE := LDX1_9 ++ [(1, 160, 0, [])]
def LDX1_11 : List FE := LDX1_10.set 0 (0, 1, 0, [(0, 0, 0), (0, 0, 0), (0, 0, 0), (0, 0, 0), (1, 0, 1), (1, 0, 2), (1, 0, 3), (1, 0, 4), (1, 0, 5), (3, 0, 0)])
def LDX1_12 : List FE := LDX1_11 ++ [(0, 8, 0, [(3, 0, 0), (0, 0, 0)])]
def LDX1_13 : List FE := LDX1_11 ++ shF 6 (LX8 1920)
def LDX1_14 : List FE := LDX1_13.set 0 (0, 1, 0, [(0, 0, 0), (0, 0, 0), (0, 0, 0), (0, 0, 0), (1, 0, 1), (1, 0, 2), (1, 0, 3), (1, 0, 4), (1, 0, 5), (1, 0, 6)])
set_option maxRecDepth 100000 in
set_option maxHeartbeats 4000000 in
theorem c_X1_init (l : Launch) (G : va_G) (kc : KC) : MK l G kc yX1_init cX1_init 1 2 41 7 2242 [] (0, 1, 0, [(0, 0, 0), (0, 0, 0), (0, 0, 0), (0, 0, 0), (3, 0, 0), (3, 0, 0), (3, 0, 0), (3, 0, 0), (3, 0, 0), (3, 0, 0)]) LX1 := by
  intro a sz
  refine k_body (y := yX1_init) (n := 1) (av := .ref a :: []) (rm := { frames := 2, cells := 7, slots := 2242, locals := 41 }) (Qc := fun A => QK G kc LX1 a A) (plainFor_of_name (by decide)) (Nat.le_of_ble_eq_true rfl) (fun pr e s m below meth c A C0 hr hlk hnm hw hRo ls hl => ?_) sz
  have hx := C0.1
  have hb := C0.2.1
  have hown := C0.2.2.2.1
  have hts := C0.2.2.2.2.1
  have h_a : (fun _ : Nat => a) 0 = a := rfl
  generalize (fun _ : Nat => a) = ad at hw h_a
  generalize hlocs : ([] : List Loc) = locs at hw ⊢
  clear hlocs
  have hl : lv_has ls 1 [(0, .ref a)] := hl
  refine lv_aload_n hx hb (dkP dF_42 DX1_init (i := 0) rfl rfl) rfl (lv_at hl 0 rfl) ?_
  refine kz_obj C0 hl.1 ol_X1_7 ob_im ob_co (by decide) (by decide) (Nat.le_of_ble_eq_true rfl) (dk2 dF_183 DX1_init (i := 1) rfl rfl rfl) ?_
  refine lv_aload_n hx hb (dkP dF_42 DX1_init (i := 2) rfl rfl) rfl (lv_at hl 0 rfl) ?_
  refine lv_bipush (v := 40) hx hb (dks dF_16 DX1_init (i := 3) rfl rfl rfl) (by decide) ?_
  refine kz_newai C0 hw 1 40 (by decide) (by decide +kernel) ar_int (by decide) (by decide) (by decide) (by decide) (by decide) (dkN DX1_init (i := 4) rfl rfl rfl (by decide)) (fun q1 ad H h_q1 had hw => ?_)
  have hw : SF G kc A s.heap LDX1_2 ad H locs := hw
  have h_a : ad 0 = a := (had 0 (by decide)).trans h_a
  clear had
  refine W.widen (k := 1) (n := 40) (by decide) (by decide) ?_
  refine kz_pF C0 hnm hw 0 4 (1, 0, 1) (hi := (rfl : LDX1_2[0]? = some ((0, 1, 0, [(0, 0, 0), (0, 0, 0), (0, 0, 0), (0, 0, 0), (3, 0, 0), (3, 0, 0), (3, 0, 0), (3, 0, 0), (3, 0, 0), (3, 0, 0)]) : FE))) (by decide) h_a (show fvV ad (1, 0, 1) = .ref q1 from congrArg Value.ref h_q1) ff_X1_13 rfl rfl (dk2 dF_181 DX1_init (i := 5) rfl rfl rfl) (fun H locs hw => ?_)
  have hw : SF G kc A s.heap LDX1_3 ad H locs := hw
  refine lv_aload_n hx hb (dkP dF_42 DX1_init (i := 6) rfl rfl) rfl (lv_at hl 0 rfl) ?_
  refine lv_bipush (v := 40) hx hb (dks dF_16 DX1_init (i := 7) rfl rfl rfl) (by decide) ?_
  refine kz_newai C0 hw 2 40 (by decide) (by decide +kernel) ar_int (by decide) (by decide) (by decide) (by decide) (by decide) (dkN DX1_init (i := 8) rfl rfl rfl (by decide)) (fun q2 ad H h_q2 had hw => ?_)
  have hw : SF G kc A s.heap LDX1_4 ad H locs := hw
  have h_a : ad 0 = a := (had 0 (by decide)).trans h_a
  have h_q1 : ad 1 = q1 := (had 1 (by decide)).trans h_q1
  clear had
  refine W.widen (k := 2) (n := 80) (by decide) (by decide) ?_
  refine kz_pF C0 hnm hw 0 5 (1, 0, 2) (hi := (rfl : LDX1_4[0]? = some ((0, 1, 0, [(0, 0, 0), (0, 0, 0), (0, 0, 0), (0, 0, 0), (1, 0, 1), (3, 0, 0), (3, 0, 0), (3, 0, 0), (3, 0, 0), (3, 0, 0)]) : FE))) (by decide) h_a (show fvV ad (1, 0, 2) = .ref q2 from congrArg Value.ref h_q2) ff_X1_17 rfl rfl (dk2 dF_181 DX1_init (i := 9) rfl rfl rfl) (fun H locs hw => ?_)
  have hw : SF G kc A s.heap LDX1_5 ad H locs := hw
  refine lv_aload_n hx hb (dkP dF_42 DX1_init (i := 10) rfl rfl) rfl (lv_at hl 0 rfl) ?_
  refine lv_bipush (v := 40) hx hb (dks dF_16 DX1_init (i := 11) rfl rfl rfl) (by decide) ?_
  refine kz_newai C0 hw 3 40 (by decide) (by decide +kernel) ar_int (by decide) (by decide) (by decide) (by decide) (by decide) (dkN DX1_init (i := 12) rfl rfl rfl (by decide)) (fun q3 ad H h_q3 had hw => ?_)
  have hw : SF G kc A s.heap LDX1_6 ad H locs := hw
  have h_a : ad 0 = a := (had 0 (by decide)).trans h_a
  have h_q1 : ad 1 = q1 := (had 1 (by decide)).trans h_q1
  have h_q2 : ad 2 = q2 := (had 2 (by decide)).trans h_q2
  clear had
  refine W.widen (k := 3) (n := 120) (by decide) (by decide) ?_
  refine kz_pF C0 hnm hw 0 6 (1, 0, 3) (hi := (rfl : LDX1_6[0]? = some ((0, 1, 0, [(0, 0, 0), (0, 0, 0), (0, 0, 0), (0, 0, 0), (1, 0, 1), (1, 0, 2), (3, 0, 0), (3, 0, 0), (3, 0, 0), (3, 0, 0)]) : FE))) (by decide) h_a (show fvV ad (1, 0, 3) = .ref q3 from congrArg Value.ref h_q3) ff_X1_20 rfl rfl (dk2 dF_181 DX1_init (i := 13) rfl rfl rfl) (fun H locs hw => ?_)
  have hw : SF G kc A s.heap LDX1_7 ad H locs := hw
  refine lv_aload_n hx hb (dkP dF_42 DX1_init (i := 14) rfl rfl) rfl (lv_at hl 0 rfl) ?_
  refine lv_bipush (v := 40) hx hb (dks dF_16 DX1_init (i := 15) rfl rfl rfl) (by decide) ?_
  refine kz_newai C0 hw 4 40 (by decide) (by decide +kernel) ar_int (by decide) (by decide) (by decide) (by decide) (by decide) (dkN DX1_init (i := 16) rfl rfl rfl (by decide)) (fun q4 ad H h_q4 had hw => ?_)
  have hw : SF G kc A s.heap LDX1_8 ad H locs := hw
  have h_a : ad 0 = a := (had 0 (by decide)).trans h_a
  have h_q1 : ad 1 = q1 := (had 1 (by decide)).trans h_q1
  have h_q2 : ad 2 = q2 := (had 2 (by decide)).trans h_q2
  have h_q3 : ad 3 = q3 := (had 3 (by decide)).trans h_q3
  clear had
  refine W.widen (k := 4) (n := 160) (by decide) (by decide) ?_
  refine kz_pF C0 hnm hw 0 7 (1, 0, 4) (hi := (rfl : LDX1_8[0]? = some ((0, 1, 0, [(0, 0, 0), (0, 0, 0), (0, 0, 0), (0, 0, 0), (1, 0, 1), (1, 0, 2), (1, 0, 3), (3, 0, 0), (3, 0, 0), (3, 0, 0)]) : FE))) (by decide) h_a (show fvV ad (1, 0, 4) = .ref q4 from congrArg Value.ref h_q4) ff_X1_23 rfl rfl (dk2 dF_181 DX1_init (i := 17) rfl rfl rfl) (fun H locs hw => ?_)
  have hw : SF G kc A s.heap LDX1_9 ad H locs := hw
  refine lv_aload_n hx hb (dkP dF_42 DX1_init (i := 18) rfl rfl) rfl (lv_at hl 0 rfl) ?_
  refine lv_sipush (v := 160) hx hb (dkS dF_17 DX1_init (i := 19) rfl rfl rfl) (by decide) ?_
  refine kz_newai C0 hw 5 160 (by decide) (by decide +kernel) ar_int (by decide) (by decide) (by decide) (by decide) (by decide) (dkN DX1_init (i := 20) rfl rfl rfl (by decide)) (fun q5 ad H h_q5 had hw => ?_)
  have hw : SF G kc A s.heap LDX1_10 ad H locs := hw
  have h_a : ad 0 = a := (had 0 (by decide)).trans h_a
  have h_q1 : ad 1 = q1 := (had 1 (by decide)).trans h_q1
  have h_q2 : ad 2 = q2 := (had 2 (by decide)).trans h_q2
  have h_q3 : ad 3 = q3 := (had 3 (by decide)).trans h_q3
  have h_q4 : ad 4 = q4 := (had 4 (by decide)).trans h_q4
  clear had
  refine W.widen (k := 5) (n := 320) (by decide) (by decide) ?_
  refine kz_pF C0 hnm hw 0 8 (1, 0, 5) (hi := (rfl : LDX1_10[0]? = some ((0, 1, 0, [(0, 0, 0), (0, 0, 0), (0, 0, 0), (0, 0, 0), (1, 0, 1), (1, 0, 2), (1, 0, 3), (1, 0, 4), (3, 0, 0), (3, 0, 0)]) : FE))) (by decide) h_a (show fvV ad (1, 0, 5) = .ref q5 from congrArg Value.ref h_q5) ff_X1_26 rfl rfl (dk2 dF_181 DX1_init (i := 21) rfl rfl rfl) (fun H locs hw => ?_)
  have hw : SF G kc A s.heap LDX1_11 ad H locs := hw
  refine lv_aload_n hx hb (dkP dF_42 DX1_init (i := 22) rfl rfl) rfl (lv_at hl 0 rfl) ?_
  refine kz_new C0 hw 6 (by decide) (by decide +kernel) nw_X1_1 (by decide) (by decide) (dk2 dF_187 DX1_init (i := 23) rfl rfl rfl) (fun q6 ad H h_q6 had hw => ?_)
  have hw : SF G kc A s.heap (LDX1_11 ++ [(0, 8, 0, [(3, 0, 0), (0, 0, 0)])]) ad H locs := hw
  have h_a : ad 0 = a := (had 0 (by decide)).trans h_a
  have h_q1 : ad 1 = q1 := (had 1 (by decide)).trans h_q1
  have h_q2 : ad 2 = q2 := (had 2 (by decide)).trans h_q2
  have h_q3 : ad 3 = q3 := (had 3 (by decide)).trans h_q3
  have h_q4 : ad 4 = q4 := (had 4 (by decide)).trans h_q4
  have h_q5 : ad 5 = q5 := (had 5 (by decide)).trans h_q5
  clear had
  refine W.widen (k := 6) (n := 322) (by decide) (by decide) ?_
  refine lv_dup hx hb (dkP dF_89 DX1_init (i := 24) rfl rfl) rfl ?_
  refine lv_sipush (v := 1920) hx hb (dkS dF_17 DX1_init (i := 25) rfl rfl rfl) (by decide) ?_
  refine kz_call (vs := [.int 1920]) (rest := [.ref q6, .ref a]) C0 hRo (c_X8_init l G kc 1920 (by decide)) 6 hw (by decide) (by decide +kernel) (fun _ _ => rfl) h_q6 ci_X8_init lk_X1_29 rfl hl.1 rfl ⟨by decide, by decide⟩ (Nat.le_of_ble_eq_true rfl) (dk2 dF_183 DX1_init (i := 26) rfl rfl rfl) ⟨by decide, by decide⟩ (fun ad H locs h_q6 had hw => ?_)
  have hw : SF G kc A s.heap LDX1_13 ad H locs := hw
  have h_a : ad 0 = a := (had 0 (by decide)).trans h_a
  have h_q1 : ad 1 = q1 := (had 1 (by decide)).trans h_q1
  have h_q2 : ad 2 = q2 := (had 2 (by decide)).trans h_q2
  have h_q3 : ad 3 = q3 := (had 3 (by decide)).trans h_q3
  have h_q4 : ad 4 = q4 := (had 4 (by decide)).trans h_q4
  have h_q5 : ad 5 = q5 := (had 5 (by decide)).trans h_q5
  clear had
  refine W.widen (k := 7) (n := 2242) (by decide) (by decide) ?_
  refine kz_pF C0 hnm hw 0 9 (1, 0, 6) (hi := (rfl : LDX1_13[0]? = some ((0, 1, 0, [(0, 0, 0), (0, 0, 0), (0, 0, 0), (0, 0, 0), (1, 0, 1), (1, 0, 2), (1, 0, 3), (1, 0, 4), (1, 0, 5), (3, 0, 0)]) : FE))) (by decide) h_a (show fvV ad (1, 0, 6) = .ref q6 from congrArg Value.ref h_q6) ff_X1_32 rfl rfl (dk2 dF_181 DX1_init (i := 27) rfl rfl rfl) (fun H locs hw => ?_)
  have hw : SF G kc A s.heap LDX1_14 ad H locs := hw
  exact kz_vret C0 hr hlk hw h_a (eqF (by decide +kernel)) (dkP dF_177 DX1_init (i := 28) rfl rfl)
def LX4 : List FE := [(0, 4, 0, [(0, 0, 0), (0, -1, 0), (2, 0, 1), (2, 0, 11), (0, 1, 0), (0, 0, 0), (1, 0, 19), (1, 0, 20), (1, 0, 21)]), (0, 2, 0, [(0, 0, 0), (0, 0, 0), (1, 0, 2), (1, 0, 3), (1, 0, 4), (1, 0, 5), (1, 0, 6), (1, 0, 7), (1, 0, 8), (1, 0, 9)]), (1, 24, 0, []), (1, 24, 0, []), (1, 24, 0, []), (1, 24, 0, []), (1, 24, 0, []), (1, 24, 0, []), (1, 24, 0, []), (0, 8, 0, [(1, 0, 10), (0, 0, 0)]), (1, 192, 0, []), (0, 1, 0, [(0, 0, 0), (0, 0, 0), (0, 0, 0), (0, 0, 0), (1, 0, 12), (1, 0, 13), (1, 0, 14), (1, 0, 15), (1, 0, 16), (1, 0, 17)]), (1, 40, 0, []), (1, 40, 0, []), (1, 40, 0, []), (1, 40, 0, []), (1, 160, 0, []), (0, 8, 0, [(1, 0, 18), (0, 0, 0)]), (1, 1920, 0, []), (1, 3, 0, []), (1, 3, 0, []), (1, 3, 0, [])]
def LDX4_1 : List FE := [(0, 4, 0, [(0, 0, 0), (0, 0, 0), (4, 0, 0), (4, 0, 0), (0, 0, 0), (0, 0, 0), (3, 0, 0), (3, 0, 0), (3, 0, 0)])]
def LDX4_2 : List FE := LDX4_1.set 0 (0, 4, 0, [(0, 0, 0), (0, 0, 0), (4, 0, 0), (4, 0, 0), (0, 0, 0), (0, 0, 0), (3, 0, 0), (3, 0, 0), (3, 0, 0)])
def LDX4_3 : List FE := LDX4_2.set 0 (0, 4, 0, [(0, 0, 0), (0, -1, 0), (4, 0, 0), (4, 0, 0), (0, 0, 0), (0, 0, 0), (3, 0, 0), (3, 0, 0), (3, 0, 0)])
def LDX4_4 : List FE := LDX4_3 ++ [(0, 2, 0, [(0, 0, 0), (0, 0, 0), (3, 0, 0), (3, 0, 0), (3, 0, 0), (3, 0, 0), (3, 0, 0), (3, 0, 0), (3, 0, 0), (3, 0, 0)])]
def LDX4_5 : List FE := LDX4_3 ++ shF 1 LX2
def LDX4_6 : List FE := LDX4_5.set 0 (0, 4, 0, [(0, 0, 0), (0, -1, 0), (2, 0, 1), (4, 0, 0), (0, 0, 0), (0, 0, 0), (3, 0, 0), (3, 0, 0), (3, 0, 0)])
def LDX4_7 : List FE := LDX4_6 ++ [(0, 1, 0, [(0, 0, 0), (0, 0, 0), (0, 0, 0), (0, 0, 0), (3, 0, 0), (3, 0, 0), (3, 0, 0), (3, 0, 0), (3, 0, 0), (3, 0, 0)])]
def LDX4_8 : List FE := LDX4_6 ++ shF 11 LX1
def LDX4_9 : List FE := LDX4_8.set 0 (0, 4, 0, [(0, 0, 0), (0, -1, 0), (2, 0, 1), (2, 0, 11), (0, 0, 0), (0, 0, 0), (3, 0, 0), (3, 0, 0), (3, 0, 0)])
def LDX4_10 : List FE := LDX4_9.set 0 (0, 4, 0, [(0, 0, 0), (0, -1, 0), (2, 0, 1), (2, 0, 11), (0, 1, 0), (0, 0, 0), (3, 0, 0), (3, 0, 0), (3, 0, 0)])
def LDX4_11 : List FE := LDX4_10 ++ [(1, 3, 0, [])]
def LDX4_12 : List FE := LDX4_11.set 0 (0, 4, 0, [(0, 0, 0), (0, -1, 0), (2, 0, 1), (2, 0, 11), (0, 1, 0), (0, 0, 0), (1, 0, 19), (3, 0, 0), (3, 0, 0)])
def LDX4_13 : List FE := LDX4_12 ++ [(1, 3, 0, [])]
def LDX4_14 : List FE := LDX4_13.set 0 (0, 4, 0, [(0, 0, 0), (0, -1, 0), (2, 0, 1), (2, 0, 11), (0, 1, 0), (0, 0, 0), (1, 0, 19), (1, 0, 20), (3, 0, 0)])
def LDX4_15 : List FE := LDX4_14 ++ [(1, 3, 0, [])]
def LDX4_16 : List FE := LDX4_15.set 0 (0, 4, 0, [(0, 0, 0), (0, -1, 0), (2, 0, 1), (2, 0, 11), (0, 1, 0), (0, 0, 0), (1, 0, 19), (1, 0, 20), (1, 0, 21)])
set_option maxRecDepth 100000 in
set_option maxHeartbeats 4000000 in
theorem c_X4_init (l : Launch) (G : va_G) (kc : KC) : MK l G kc yX4_init cX4_init 1 3 61 21 2633 [] (0, 4, 0, [(0, 0, 0), (0, 0, 0), (4, 0, 0), (4, 0, 0), (0, 0, 0), (0, 0, 0), (3, 0, 0), (3, 0, 0), (3, 0, 0)]) LX4 := by
  intro a sz
  refine k_body (y := yX4_init) (n := 1) (av := .ref a :: []) (rm := { frames := 3, cells := 21, slots := 2633, locals := 61 }) (Qc := fun A => QK G kc LX4 a A) (plainFor_of_name (by decide)) (Nat.le_of_ble_eq_true rfl) (fun pr e s m below meth c A C0 hr hlk hnm hw hRo ls hl => ?_) sz
  have hx := C0.1
  have hb := C0.2.1
  have hown := C0.2.2.2.1
  have hts := C0.2.2.2.2.1
  have h_a : (fun _ : Nat => a) 0 = a := rfl
  generalize (fun _ : Nat => a) = ad at hw h_a
  generalize hlocs : ([] : List Loc) = locs at hw ⊢
  clear hlocs
  have hl : lv_has ls 1 [(0, .ref a)] := hl
  refine lv_aload_n hx hb (dkP dF_42 DX4_init (i := 0) rfl rfl) rfl (lv_at hl 0 rfl) ?_
  refine kz_obj C0 hl.1 ol_X4_3 ob_im ob_co (by decide) (by decide) (Nat.le_of_ble_eq_true rfl) (dk2 dF_183 DX4_init (i := 1) rfl rfl rfl) ?_
  refine lv_aload_n hx hb (dkP dF_42 DX4_init (i := 2) rfl rfl) rfl (lv_at hl 0 rfl) ?_
  refine lv_iconst (v := 0) hx hb (dkP dF_3 DX4_init (i := 3) rfl rfl) (by decide) ?_
  refine kz_p C0 hw 0 0 (0, 0, 0) (hi := (rfl : LDX4_1[0]? = some ((0, 4, 0, [(0, 0, 0), (0, 0, 0), (4, 0, 0), (4, 0, 0), (0, 0, 0), (0, 0, 0), (3, 0, 0), (3, 0, 0), (3, 0, 0)]) : FE))) (by decide) h_a rfl fp_X4_9 rfl rfl (dk2 dF_181 DX4_init (i := 4) rfl rfl rfl) (fun H locs hw => ?_)
  have hw : SF G kc A s.heap LDX4_2 ad H locs := hw
  refine lv_aload_n hx hb (dkP dF_42 DX4_init (i := 5) rfl rfl) rfl (lv_at hl 0 rfl) ?_
  refine lv_iconst (v := (-1)) hx hb (dkP dF_2 DX4_init (i := 6) rfl rfl) (by decide) ?_
  refine kz_p C0 hw 0 1 (0, -1, 0) (hi := (rfl : LDX4_2[0]? = some ((0, 4, 0, [(0, 0, 0), (0, 0, 0), (4, 0, 0), (4, 0, 0), (0, 0, 0), (0, 0, 0), (3, 0, 0), (3, 0, 0), (3, 0, 0)]) : FE))) (by decide) h_a rfl fp_X4_15 rfl rfl (dk2 dF_181 DX4_init (i := 7) rfl rfl rfl) (fun H locs hw => ?_)
  have hw : SF G kc A s.heap LDX4_3 ad H locs := hw
  refine lv_aload_n hx hb (dkP dF_42 DX4_init (i := 8) rfl rfl) rfl (lv_at hl 0 rfl) ?_
  refine kz_new C0 hw 1 (by decide) (by decide +kernel) nw_X4_18 (by decide) (by decide) (dk2 dF_187 DX4_init (i := 9) rfl rfl rfl) (fun q1 ad H h_q1 had hw => ?_)
  have hw : SF G kc A s.heap (LDX4_3 ++ [(0, 2, 0, [(0, 0, 0), (0, 0, 0), (3, 0, 0), (3, 0, 0), (3, 0, 0), (3, 0, 0), (3, 0, 0), (3, 0, 0), (3, 0, 0), (3, 0, 0)])]) ad H locs := hw
  have h_a : ad 0 = a := (had 0 (by decide)).trans h_a
  clear had
  refine W.widen (k := 1) (n := 10) (by decide) (by decide) ?_
  refine lv_dup hx hb (dkP dF_89 DX4_init (i := 10) rfl rfl) rfl ?_
  refine kz_call (vs := []) (rest := [.ref q1, .ref a]) C0 hRo (c_X2_init l G kc) 1 hw (by decide) (by decide +kernel) (fun _ _ => rfl) h_q1 ci_X2_init lk_X4_20 rfl hl.1 rfl ⟨by decide, by decide⟩ (Nat.le_of_ble_eq_true rfl) (dk2 dF_183 DX4_init (i := 11) rfl rfl rfl) ⟨by decide, by decide⟩ (fun ad H locs h_q1 had hw => ?_)
  have hw : SF G kc A s.heap LDX4_5 ad H locs := hw
  have h_a : ad 0 = a := (had 0 (by decide)).trans h_a
  clear had
  refine W.widen (k := 10) (n := 372) (by decide) (by decide) ?_
  refine kz_p C0 hw 0 2 (2, 0, 1) (hi := (rfl : LDX4_5[0]? = some ((0, 4, 0, [(0, 0, 0), (0, -1, 0), (4, 0, 0), (4, 0, 0), (0, 0, 0), (0, 0, 0), (3, 0, 0), (3, 0, 0), (3, 0, 0)]) : FE))) (by decide) h_a (show fvV ad (2, 0, 1) = .ref q1 from congrArg Value.ref h_q1) fp_X4_21 rfl rfl (dk2 dF_181 DX4_init (i := 12) rfl rfl rfl) (fun H locs hw => ?_)
  have hw : SF G kc A s.heap LDX4_6 ad H locs := hw
  refine lv_aload_n hx hb (dkP dF_42 DX4_init (i := 13) rfl rfl) rfl (lv_at hl 0 rfl) ?_
  refine kz_new C0 hw 11 (by decide) (by decide +kernel) nw_X4_25 (by decide) (by decide) (dk2 dF_187 DX4_init (i := 14) rfl rfl rfl) (fun q2 ad H h_q2 had hw => ?_)
  have hw : SF G kc A s.heap (LDX4_6 ++ [(0, 1, 0, [(0, 0, 0), (0, 0, 0), (0, 0, 0), (0, 0, 0), (3, 0, 0), (3, 0, 0), (3, 0, 0), (3, 0, 0), (3, 0, 0), (3, 0, 0)])]) ad H locs := hw
  have h_a : ad 0 = a := (had 0 (by decide)).trans h_a
  have h_q1 : ad 1 = q1 := (had 1 (by decide)).trans h_q1
  clear had
  refine W.widen (k := 11) (n := 382) (by decide) (by decide) ?_
  refine lv_dup hx hb (dkP dF_89 DX4_init (i := 15) rfl rfl) rfl ?_
  refine kz_call (vs := []) (rest := [.ref q2, .ref a]) C0 hRo (c_X1_init l G kc) 11 hw (by decide) (by decide +kernel) (fun _ _ => rfl) h_q2 ci_X1_init lk_X4_27 rfl hl.1 rfl ⟨by decide, by decide⟩ (Nat.le_of_ble_eq_true rfl) (dk2 dF_183 DX4_init (i := 16) rfl rfl rfl) ⟨by decide, by decide⟩ (fun ad H locs h_q2 had hw => ?_)
  have hw : SF G kc A s.heap LDX4_8 ad H locs := hw
  have h_a : ad 0 = a := (had 0 (by decide)).trans h_a
  have h_q1 : ad 1 = q1 := (had 1 (by decide)).trans h_q1
  clear had
  refine W.widen (k := 18) (n := 2624) (by decide) (by decide) ?_
  refine kz_p C0 hw 0 3 (2, 0, 11) (hi := (rfl : LDX4_8[0]? = some ((0, 4, 0, [(0, 0, 0), (0, -1, 0), (2, 0, 1), (4, 0, 0), (0, 0, 0), (0, 0, 0), (3, 0, 0), (3, 0, 0), (3, 0, 0)]) : FE))) (by decide) h_a (show fvV ad (2, 0, 11) = .ref q2 from congrArg Value.ref h_q2) fp_X4_28 rfl rfl (dk2 dF_181 DX4_init (i := 17) rfl rfl rfl) (fun H locs hw => ?_)
  have hw : SF G kc A s.heap LDX4_9 ad H locs := hw
  refine lv_aload_n hx hb (dkP dF_42 DX4_init (i := 18) rfl rfl) rfl (lv_at hl 0 rfl) ?_
  refine lv_iconst (v := 1) hx hb (dkP dF_4 DX4_init (i := 19) rfl rfl) (by decide) ?_
  refine kz_p C0 hw 0 4 (0, 1, 0) (hi := (rfl : LDX4_9[0]? = some ((0, 4, 0, [(0, 0, 0), (0, -1, 0), (2, 0, 1), (2, 0, 11), (0, 0, 0), (0, 0, 0), (3, 0, 0), (3, 0, 0), (3, 0, 0)]) : FE))) (by decide) h_a rfl fp_X4_32 rfl rfl (dk2 dF_181 DX4_init (i := 20) rfl rfl rfl) (fun H locs hw => ?_)
  have hw : SF G kc A s.heap LDX4_10 ad H locs := hw
  refine lv_aload_n hx hb (dkP dF_42 DX4_init (i := 21) rfl rfl) rfl (lv_at hl 0 rfl) ?_
  refine lv_iconst (v := 3) hx hb (dkP dF_6 DX4_init (i := 22) rfl rfl) (by decide) ?_
  refine kz_newai C0 hw 19 3 (by decide) (by decide +kernel) ar_int (by decide) (by decide) (by decide) (by decide) (by decide) (dkN DX4_init (i := 23) rfl rfl rfl (by decide)) (fun q3 ad H h_q3 had hw => ?_)
  have hw : SF G kc A s.heap LDX4_11 ad H locs := hw
  have h_a : ad 0 = a := (had 0 (by decide)).trans h_a
  have h_q1 : ad 1 = q1 := (had 1 (by decide)).trans h_q1
  have h_q2 : ad 11 = q2 := (had 11 (by decide)).trans h_q2
  clear had
  refine W.widen (k := 19) (n := 2627) (by decide) (by decide) ?_
  refine kz_pF C0 hnm hw 0 6 (1, 0, 19) (hi := (rfl : LDX4_11[0]? = some ((0, 4, 0, [(0, 0, 0), (0, -1, 0), (2, 0, 1), (2, 0, 11), (0, 1, 0), (0, 0, 0), (3, 0, 0), (3, 0, 0), (3, 0, 0)]) : FE))) (by decide) h_a (show fvV ad (1, 0, 19) = .ref q3 from congrArg Value.ref h_q3) ff_X4_35 rfl rfl (dk2 dF_181 DX4_init (i := 24) rfl rfl rfl) (fun H locs hw => ?_)
  have hw : SF G kc A s.heap LDX4_12 ad H locs := hw
  refine lv_aload_n hx hb (dkP dF_42 DX4_init (i := 25) rfl rfl) rfl (lv_at hl 0 rfl) ?_
  refine lv_iconst (v := 3) hx hb (dkP dF_6 DX4_init (i := 26) rfl rfl) (by decide) ?_
  refine kz_newai C0 hw 20 3 (by decide) (by decide +kernel) ar_int (by decide) (by decide) (by decide) (by decide) (by decide) (dkN DX4_init (i := 27) rfl rfl rfl (by decide)) (fun q4 ad H h_q4 had hw => ?_)
  have hw : SF G kc A s.heap LDX4_13 ad H locs := hw
  have h_a : ad 0 = a := (had 0 (by decide)).trans h_a
  have h_q1 : ad 1 = q1 := (had 1 (by decide)).trans h_q1
  have h_q2 : ad 11 = q2 := (had 11 (by decide)).trans h_q2
  have h_q3 : ad 19 = q3 := (had 19 (by decide)).trans h_q3
  clear had
  refine W.widen (k := 20) (n := 2630) (by decide) (by decide) ?_
  refine kz_pF C0 hnm hw 0 7 (1, 0, 20) (hi := (rfl : LDX4_13[0]? = some ((0, 4, 0, [(0, 0, 0), (0, -1, 0), (2, 0, 1), (2, 0, 11), (0, 1, 0), (0, 0, 0), (1, 0, 19), (3, 0, 0), (3, 0, 0)]) : FE))) (by decide) h_a (show fvV ad (1, 0, 20) = .ref q4 from congrArg Value.ref h_q4) ff_X4_39 rfl rfl (dk2 dF_181 DX4_init (i := 28) rfl rfl rfl) (fun H locs hw => ?_)
  have hw : SF G kc A s.heap LDX4_14 ad H locs := hw
  refine lv_aload_n hx hb (dkP dF_42 DX4_init (i := 29) rfl rfl) rfl (lv_at hl 0 rfl) ?_
  refine lv_iconst (v := 3) hx hb (dkP dF_6 DX4_init (i := 30) rfl rfl) (by decide) ?_
  refine kz_newai C0 hw 21 3 (by decide) (by decide +kernel) ar_int (by decide) (by decide) (by decide) (by decide) (by decide) (dkN DX4_init (i := 31) rfl rfl rfl (by decide)) (fun q5 ad H h_q5 had hw => ?_)
  have hw : SF G kc A s.heap LDX4_15 ad H locs := hw
  have h_a : ad 0 = a := (had 0 (by decide)).trans h_a
  have h_q1 : ad 1 = q1 := (had 1 (by decide)).trans h_q1
  have h_q2 : ad 11 = q2 := (had 11 (by decide)).trans h_q2
  have h_q3 : ad 19 = q3 := (had 19 (by decide)).trans h_q3
  have h_q4 : ad 20 = q4 := (had 20 (by decide)).trans h_q4
  clear had
  refine W.widen (k := 21) (n := 2633) (by decide) (by decide) ?_
  refine kz_pF C0 hnm hw 0 8 (1, 0, 21) (hi := (rfl : LDX4_15[0]? = some ((0, 4, 0, [(0, 0, 0), (0, -1, 0), (2, 0, 1), (2, 0, 11), (0, 1, 0), (0, 0, 0), (1, 0, 19), (1, 0, 20), (3, 0, 0)]) : FE))) (by decide) h_a (show fvV ad (1, 0, 21) = .ref q5 from congrArg Value.ref h_q5) ff_X4_42 rfl rfl (dk2 dF_181 DX4_init (i := 32) rfl rfl rfl) (fun H locs hw => ?_)
  have hw : SF G kc A s.heap LDX4_16 ad H locs := hw
  exact kz_vret C0 hr hlk hw h_a (eqF (by decide +kernel)) (dkP dF_177 DX4_init (i := 33) rfl rfl)
def LX6 : List FE := [(0, 6, 0, [(1, 0, 1), (0, 1, 0), (0, 0, 0)]), (1, 100, 0, [])]
def LDX6_1 : List FE := [(0, 6, 0, [(3, 0, 0), (0, 0, 0), (0, 0, 0)])]
def LDX6_2 : List FE := LDX6_1 ++ [(1, 100, 0, [])]
def LDX6_3 : List FE := LDX6_2.set 0 (0, 6, 0, [(1, 0, 1), (0, 0, 0), (0, 0, 0)])
def LDX6_4 : List FE := LDX6_3.set 0 (0, 6, 0, [(1, 0, 1), (0, 1, 0), (0, 0, 0)])
set_option maxRecDepth 100000 in
set_option maxHeartbeats 4000000 in
theorem c_X6_init (l : Launch) (G : va_G) (kc : KC) : MK l G kc yX6_init cX6_init 1 1 20 1 100 [] (0, 6, 0, [(3, 0, 0), (0, 0, 0), (0, 0, 0)]) LX6 := by
  intro a sz
  refine k_body (y := yX6_init) (n := 1) (av := .ref a :: []) (rm := { frames := 1, cells := 1, slots := 100, locals := 20 }) (Qc := fun A => QK G kc LX6 a A) (plainFor_of_name (by decide)) (Nat.le_of_ble_eq_true rfl) (fun pr e s m below meth c A C0 hr hlk hnm hw hRo ls hl => ?_) sz
  have hx := C0.1
  have hb := C0.2.1
  have hown := C0.2.2.2.1
  have hts := C0.2.2.2.2.1
  have h_a : (fun _ : Nat => a) 0 = a := rfl
  generalize (fun _ : Nat => a) = ad at hw h_a
  generalize hlocs : ([] : List Loc) = locs at hw ⊢
  clear hlocs
  have hl : lv_has ls 1 [(0, .ref a)] := hl
  refine lv_aload_n hx hb (dkP dF_42 DX6_init (i := 0) rfl rfl) rfl (lv_at hl 0 rfl) ?_
  refine kz_obj C0 hl.1 ol_X6_3 ob_im ob_co (by decide) (by decide) (Nat.le_of_ble_eq_true rfl) (dk2 dF_183 DX6_init (i := 1) rfl rfl rfl) ?_
  refine lv_aload_n hx hb (dkP dF_42 DX6_init (i := 2) rfl rfl) rfl (lv_at hl 0 rfl) ?_
  refine lv_bipush (v := 100) hx hb (dks dF_16 DX6_init (i := 3) rfl rfl rfl) (by decide) ?_
  refine kz_newai C0 hw 1 100 (by decide) (by decide +kernel) ar_int (by decide) (by decide) (by decide) (by decide) (by decide) (dkN DX6_init (i := 4) rfl rfl rfl (by decide)) (fun q1 ad H h_q1 had hw => ?_)
  have hw : SF G kc A s.heap LDX6_2 ad H locs := hw
  have h_a : ad 0 = a := (had 0 (by decide)).trans h_a
  clear had
  refine W.widen (k := 1) (n := 100) (by decide) (by decide) ?_
  refine kz_pF C0 hnm hw 0 0 (1, 0, 1) (hi := (rfl : LDX6_2[0]? = some ((0, 6, 0, [(3, 0, 0), (0, 0, 0), (0, 0, 0)]) : FE))) (by decide) h_a (show fvV ad (1, 0, 1) = .ref q1 from congrArg Value.ref h_q1) ff_X6_11 rfl rfl (dk2 dF_181 DX6_init (i := 5) rfl rfl rfl) (fun H locs hw => ?_)
  have hw : SF G kc A s.heap LDX6_3 ad H locs := hw
  refine lv_aload_n hx hb (dkP dF_42 DX6_init (i := 6) rfl rfl) rfl (lv_at hl 0 rfl) ?_
  refine lv_iconst (v := 1) hx hb (dkP dF_4 DX6_init (i := 7) rfl rfl) (by decide) ?_
  refine kz_p C0 hw 0 1 (0, 1, 0) (hi := (rfl : LDX6_3[0]? = some ((0, 6, 0, [(1, 0, 1), (0, 0, 0), (0, 0, 0)]) : FE))) (by decide) h_a rfl fp_X6_15 rfl rfl (dk2 dF_181 DX6_init (i := 8) rfl rfl rfl) (fun H locs hw => ?_)
  have hw : SF G kc A s.heap LDX6_4 ad H locs := hw
  exact kz_vret C0 hr hlk hw h_a (eqF (by decide +kernel)) (dkP dF_177 DX6_init (i := 9) rfl rfl)
def LX10 : List FE := [(0, 10, 0, [(1, 0, 1), (1, 0, 2), (1, 0, 3), (1, 0, 4), (0, 0, 0), (0, 0, 0), (0, 0, 0), (1, 0, 5)]), (6, 8, 0, [(2, 0, 7), (2, 0, 29), (2, 0, 51), (2, 0, 73), (2, 0, 95), (2, 0, 117), (2, 0, 139), (2, 0, 161)]), (1, 64, -1, []), (1, 8, 0, []), (1, 420, 0, []), (0, 6, 0, [(1, 0, 6), (0, 1, 0), (0, 0, 0)]), (1, 100, 0, []), (0, 4, 0, [(0, 0, 0), (0, -1, 0), (2, 0, 8), (2, 0, 18), (0, 1, 0), (0, 0, 0), (1, 0, 26), (1, 0, 27), (1, 0, 28)]), (0, 2, 0, [(0, 0, 0), (0, 0, 0), (1, 0, 9), (1, 0, 10), (1, 0, 11), (1, 0, 12), (1, 0, 13), (1, 0, 14), (1, 0, 15), (1, 0, 16)]), (1, 24, 0, []), (1, 24, 0, []), (1, 24, 0, []), (1, 24, 0, []), (1, 24, 0, []), (1, 24, 0, []), (1, 24, 0, []), (0, 8, 0, [(1, 0, 17), (0, 0, 0)]), (1, 192, 0, []), (0, 1, 0, [(0, 0, 0), (0, 0, 0), (0, 0, 0), (0, 0, 0), (1, 0, 19), (1, 0, 20), (1, 0, 21), (1, 0, 22), (1, 0, 23), (1, 0, 24)]), (1, 40, 0, []), (1, 40, 0, []), (1, 40, 0, []), (1, 40, 0, []), (1, 160, 0, []), (0, 8, 0, [(1, 0, 25), (0, 0, 0)]), (1, 1920, 0, []), (1, 3, 0, []), (1, 3, 0, []), (1, 3, 0, []), (0, 4, 0, [(0, 0, 0), (0, -1, 0), (2, 0, 30), (2, 0, 40), (0, 1, 0), (0, 0, 0), (1, 0, 48), (1, 0, 49), (1, 0, 50)]), (0, 2, 0, [(0, 0, 0), (0, 0, 0), (1, 0, 31), (1, 0, 32), (1, 0, 33), (1, 0, 34), (1, 0, 35), (1, 0, 36), (1, 0, 37), (1, 0, 38)]), (1, 24, 0, []), (1, 24, 0, []), (1, 24, 0, []), (1, 24, 0, []), (1, 24, 0, []), (1, 24, 0, []), (1, 24, 0, []), (0, 8, 0, [(1, 0, 39), (0, 0, 0)]), (1, 192, 0, []), (0, 1, 0, [(0, 0, 0), (0, 0, 0), (0, 0, 0), (0, 0, 0), (1, 0, 41), (1, 0, 42), (1, 0, 43), (1, 0, 44), (1, 0, 45), (1, 0, 46)]), (1, 40, 0, []), (1, 40, 0, []), (1, 40, 0, []), (1, 40, 0, []), (1, 160, 0, []), (0, 8, 0, [(1, 0, 47), (0, 0, 0)]), (1, 1920, 0, []), (1, 3, 0, []), (1, 3, 0, []), (1, 3, 0, []), (0, 4, 0, [(0, 0, 0), (0, -1, 0), (2, 0, 52), (2, 0, 62), (0, 1, 0), (0, 0, 0), (1, 0, 70), (1, 0, 71), (1, 0, 72)]), (0, 2, 0, [(0, 0, 0), (0, 0, 0), (1, 0, 53), (1, 0, 54), (1, 0, 55), (1, 0, 56), (1, 0, 57), (1, 0, 58), (1, 0, 59), (1, 0, 60)]), (1, 24, 0, []), (1, 24, 0, []), (1, 24, 0, []), (1, 24, 0, []), (1, 24, 0, []), (1, 24, 0, []), (1, 24, 0, []), (0, 8, 0, [(1, 0, 61), (0, 0, 0)]), (1, 192, 0, []), (0, 1, 0, [(0, 0, 0), (0, 0, 0), (0, 0, 0), (0, 0, 0), (1, 0, 63), (1, 0, 64), (1, 0, 65), (1, 0, 66), (1, 0, 67), (1, 0, 68)]), (1, 40, 0, []), (1, 40, 0, []), (1, 40, 0, []), (1, 40, 0, []), (1, 160, 0, []), (0, 8, 0, [(1, 0, 69), (0, 0, 0)]), (1, 1920, 0, []), (1, 3, 0, []), (1, 3, 0, []), (1, 3, 0, []), (0, 4, 0, [(0, 0, 0), (0, -1, 0), (2, 0, 74), (2, 0, 84), (0, 1, 0), (0, 0, 0), (1, 0, 92), (1, 0, 93), (1, 0, 94)]), (0, 2, 0, [(0, 0, 0), (0, 0, 0), (1, 0, 75), (1, 0, 76), (1, 0, 77), (1, 0, 78), (1, 0, 79), (1, 0, 80), (1, 0, 81), (1, 0, 82)]), (1, 24, 0, []), (1, 24, 0, []), (1, 24, 0, []), (1, 24, 0, []), (1, 24, 0, []), (1, 24, 0, []), (1, 24, 0, []), (0, 8, 0, [(1, 0, 83), (0, 0, 0)]), (1, 192, 0, []), (0, 1, 0, [(0, 0, 0), (0, 0, 0), (0, 0, 0), (0, 0, 0), (1, 0, 85), (1, 0, 86), (1, 0, 87), (1, 0, 88), (1, 0, 89), (1, 0, 90)]), (1, 40, 0, []), (1, 40, 0, []), (1, 40, 0, []), (1, 40, 0, []), (1, 160, 0, []), (0, 8, 0, [(1, 0, 91), (0, 0, 0)]), (1, 1920, 0, []), (1, 3, 0, []), (1, 3, 0, []), (1, 3, 0, []), (0, 4, 0, [(0, 0, 0), (0, -1, 0), (2, 0, 96), (2, 0, 106), (0, 1, 0), (0, 0, 0), (1, 0, 114), (1, 0, 115), (1, 0, 116)]), (0, 2, 0, [(0, 0, 0), (0, 0, 0), (1, 0, 97), (1, 0, 98), (1, 0, 99), (1, 0, 100), (1, 0, 101), (1, 0, 102), (1, 0, 103), (1, 0, 104)]), (1, 24, 0, []), (1, 24, 0, []), (1, 24, 0, []), (1, 24, 0, []), (1, 24, 0, []), (1, 24, 0, []), (1, 24, 0, []), (0, 8, 0, [(1, 0, 105), (0, 0, 0)]), (1, 192, 0, []), (0, 1, 0, [(0, 0, 0), (0, 0, 0), (0, 0, 0), (0, 0, 0), (1, 0, 107), (1, 0, 108), (1, 0, 109), (1, 0, 110), (1, 0, 111), (1, 0, 112)]), (1, 40, 0, []), (1, 40, 0, []), (1, 40, 0, []), (1, 40, 0, []), (1, 160, 0, []), (0, 8, 0, [(1, 0, 113), (0, 0, 0)]), (1, 1920, 0, []), (1, 3, 0, []), (1, 3, 0, []), (1, 3, 0, []), (0, 4, 0, [(0, 0, 0), (0, -1, 0), (2, 0, 118), (2, 0, 128), (0, 1, 0), (0, 0, 0), (1, 0, 136), (1, 0, 137), (1, 0, 138)]), (0, 2, 0, [(0, 0, 0), (0, 0, 0), (1, 0, 119), (1, 0, 120), (1, 0, 121), (1, 0, 122), (1, 0, 123), (1, 0, 124), (1, 0, 125), (1, 0, 126)]), (1, 24, 0, []), (1, 24, 0, []), (1, 24, 0, []), (1, 24, 0, []), (1, 24, 0, []), (1, 24, 0, []), (1, 24, 0, []), (0, 8, 0, [(1, 0, 127), (0, 0, 0)]), (1, 192, 0, []), (0, 1, 0, [(0, 0, 0), (0, 0, 0), (0, 0, 0), (0, 0, 0), (1, 0, 129), (1, 0, 130), (1, 0, 131), (1, 0, 132), (1, 0, 133), (1, 0, 134)]), (1, 40, 0, []), (1, 40, 0, []), (1, 40, 0, []), (1, 40, 0, []), (1, 160, 0, []), (0, 8, 0, [(1, 0, 135), (0, 0, 0)]), (1, 1920, 0, []), (1, 3, 0, []), (1, 3, 0, []), (1, 3, 0, []), (0, 4, 0, [(0, 0, 0), (0, -1, 0), (2, 0, 140), (2, 0, 150), (0, 1, 0), (0, 0, 0), (1, 0, 158), (1, 0, 159), (1, 0, 160)]), (0, 2, 0, [(0, 0, 0), (0, 0, 0), (1, 0, 141), (1, 0, 142), (1, 0, 143), (1, 0, 144), (1, 0, 145), (1, 0, 146), (1, 0, 147), (1, 0, 148)]), (1, 24, 0, []), (1, 24, 0, []), (1, 24, 0, []), (1, 24, 0, []), (1, 24, 0, []), (1, 24, 0, []), (1, 24, 0, []), (0, 8, 0, [(1, 0, 149), (0, 0, 0)]), (1, 192, 0, []), (0, 1, 0, [(0, 0, 0), (0, 0, 0), (0, 0, 0), (0, 0, 0), (1, 0, 151), (1, 0, 152), (1, 0, 153), (1, 0, 154), (1, 0, 155), (1, 0, 156)]), (1, 40, 0, []), (1, 40, 0, []), (1, 40, 0, []), (1, 40, 0, []), (1, 160, 0, []), (0, 8, 0, [(1, 0, 157), (0, 0, 0)]), (1, 1920, 0, []), (1, 3, 0, []), (1, 3, 0, []), (1, 3, 0, []), (0, 4, 0, [(0, 0, 0), (0, -1, 0), (2, 0, 162), (2, 0, 172), (0, 1, 0), (0, 0, 0), (1, 0, 180), (1, 0, 181), (1, 0, 182)]), (0, 2, 0, [(0, 0, 0), (0, 0, 0), (1, 0, 163), (1, 0, 164), (1, 0, 165), (1, 0, 166), (1, 0, 167), (1, 0, 168), (1, 0, 169), (1, 0, 170)]), (1, 24, 0, []), (1, 24, 0, []), (1, 24, 0, []), (1, 24, 0, []), (1, 24, 0, []), (1, 24, 0, []), (1, 24, 0, []), (0, 8, 0, [(1, 0, 171), (0, 0, 0)]), (1, 192, 0, []), (0, 1, 0, [(0, 0, 0), (0, 0, 0), (0, 0, 0), (0, 0, 0), (1, 0, 173), (1, 0, 174), (1, 0, 175), (1, 0, 176), (1, 0, 177), (1, 0, 178)]), (1, 40, 0, []), (1, 40, 0, []), (1, 40, 0, []), (1, 40, 0, []), (1, 160, 0, []), (0, 8, 0, [(1, 0, 179), (0, 0, 0)]), (1, 1920, 0, []), (1, 3, 0, []), (1, 3, 0, []), (1, 3, 0, [])]
def LDX10_1 : List FE := [(0, 10, 0, [(3, 0, 0), (3, 0, 0), (3, 0, 0), (3, 0, 0), (0, 0, 0), (0, 0, 0), (0, 0, 0), (3, 0, 0)])]
def LDX10_2 : List FE := LDX10_1 ++ [(6, 8, 0, [])]
def LDX10_3 : List FE := LDX10_2.set 0 (0, 10, 0, [(1, 0, 1), (3, 0, 0), (3, 0, 0), (3, 0, 0), (0, 0, 0), (0, 0, 0), (0, 0, 0), (3, 0, 0)])
def LDX10_4 : List FE := LDX10_3 ++ [(1, 64, 0, [])]
def LDX10_5 : List FE := LDX10_4.set 0 (0, 10, 0, [(1, 0, 1), (1, 0, 2), (3, 0, 0), (3, 0, 0), (0, 0, 0), (0, 0, 0), (0, 0, 0), (3, 0, 0)])
def LDX10_6 : List FE := LDX10_5 ++ [(1, 8, 0, [])]
def LDX10_7 : List FE := LDX10_6.set 0 (0, 10, 0, [(1, 0, 1), (1, 0, 2), (1, 0, 3), (3, 0, 0), (0, 0, 0), (0, 0, 0), (0, 0, 0), (3, 0, 0)])
def LDX10_8 : List FE := LDX10_7 ++ [(1, 420, 0, [])]
def LDX10_9 : List FE := LDX10_8.set 0 (0, 10, 0, [(1, 0, 1), (1, 0, 2), (1, 0, 3), (1, 0, 4), (0, 0, 0), (0, 0, 0), (0, 0, 0), (3, 0, 0)])
def LDX10_10 : List FE := LDX10_9 ++ [(0, 6, 0, [(3, 0, 0), (0, 0, 0), (0, 0, 0)])]
def LDX10_11 : List FE := LDX10_9 ++ shF 5 LX6
def LDX10_12 : List FE := LDX10_11.set 0 (0, 10, 0, [(1, 0, 1), (1, 0, 2), (1, 0, 3), (1, 0, 4), (0, 0, 0), (0, 0, 0), (0, 0, 0), (1, 0, 5)])
def LDX10_13 : List FE := LDX10_12 ++ [(0, 4, 0, [(0, 0, 0), (0, 0, 0), (4, 0, 0), (4, 0, 0), (0, 0, 0), (0, 0, 0), (3, 0, 0), (3, 0, 0), (3, 0, 0)])]
def LDX10_14 : List FE := LDX10_12 ++ shF 7 LX4
def LDX10_15 : List FE := LDX10_14.set 1 (6, 8, 0, [(2, 0, 7)])
def LDX10_16 : List FE := LDX10_15 ++ [(0, 4, 0, [(0, 0, 0), (0, 0, 0), (4, 0, 0), (4, 0, 0), (0, 0, 0), (0, 0, 0), (3, 0, 0), (3, 0, 0), (3, 0, 0)])]
def LDX10_17 : List FE := LDX10_15 ++ shF 29 LX4
def LDX10_18 : List FE := LDX10_17.set 1 (6, 8, 0, [(2, 0, 7), (2, 0, 29)])
def LDX10_19 : List FE := LDX10_18 ++ [(0, 4, 0, [(0, 0, 0), (0, 0, 0), (4, 0, 0), (4, 0, 0), (0, 0, 0), (0, 0, 0), (3, 0, 0), (3, 0, 0), (3, 0, 0)])]
def LDX10_20 : List FE := LDX10_18 ++ shF 51 LX4
def LDX10_21 : List FE := LDX10_20.set 1 (6, 8, 0, [(2, 0, 7), (2, 0, 29), (2, 0, 51)])
def LDX10_22 : List FE := LDX10_21 ++ [(0, 4, 0, [(0, 0, 0), (0, 0, 0), (4, 0, 0), (4, 0, 0), (0, 0, 0), (0, 0, 0), (3, 0, 0), (3, 0, 0), (3, 0, 0)])]
def LDX10_23 : List FE := LDX10_21 ++ shF 73 LX4
def LDX10_24 : List FE := LDX10_23.set 1 (6, 8, 0, [(2, 0, 7), (2, 0, 29), (2, 0, 51), (2, 0, 73)])
def LDX10_25 : List FE := LDX10_24 ++ [(0, 4, 0, [(0, 0, 0), (0, 0, 0), (4, 0, 0), (4, 0, 0), (0, 0, 0), (0, 0, 0), (3, 0, 0), (3, 0, 0), (3, 0, 0)])]
def LDX10_26 : List FE := LDX10_24 ++ shF 95 LX4
def LDX10_27 : List FE := LDX10_26.set 1 (6, 8, 0, [(2, 0, 7), (2, 0, 29), (2, 0, 51), (2, 0, 73), (2, 0, 95)])
def LDX10_28 : List FE := LDX10_27 ++ [(0, 4, 0, [(0, 0, 0), (0, 0, 0), (4, 0, 0), (4, 0, 0), (0, 0, 0), (0, 0, 0), (3, 0, 0), (3, 0, 0), (3, 0, 0)])]
def LDX10_29 : List FE := LDX10_27 ++ shF 117 LX4
def LDX10_30 : List FE := LDX10_29.set 1 (6, 8, 0, [(2, 0, 7), (2, 0, 29), (2, 0, 51), (2, 0, 73), (2, 0, 95), (2, 0, 117)])
def LDX10_31 : List FE := LDX10_30 ++ [(0, 4, 0, [(0, 0, 0), (0, 0, 0), (4, 0, 0), (4, 0, 0), (0, 0, 0), (0, 0, 0), (3, 0, 0), (3, 0, 0), (3, 0, 0)])]
def LDX10_32 : List FE := LDX10_30 ++ shF 139 LX4
def LDX10_33 : List FE := LDX10_32.set 1 (6, 8, 0, [(2, 0, 7), (2, 0, 29), (2, 0, 51), (2, 0, 73), (2, 0, 95), (2, 0, 117), (2, 0, 139)])
def LDX10_34 : List FE := LDX10_33 ++ [(0, 4, 0, [(0, 0, 0), (0, 0, 0), (4, 0, 0), (4, 0, 0), (0, 0, 0), (0, 0, 0), (3, 0, 0), (3, 0, 0), (3, 0, 0)])]
def LDX10_35 : List FE := LDX10_33 ++ shF 161 LX4
def LDX10_36 : List FE := LDX10_35.set 1 (6, 8, 0, [(2, 0, 7), (2, 0, 29), (2, 0, 51), (2, 0, 73), (2, 0, 95), (2, 0, 117), (2, 0, 139), (2, 0, 161)])
def LDX10_37 : List FE := LDX10_36.set 2 (1, 64, -1, [])
set_option maxRecDepth 100000 in
set_option maxHeartbeats 4000000 in
theorem c_X10_init (l : Launch) (G : va_G) (kc : KC) : MK l G kc yX10_init cX10_init 2 4 81 182 21739 [] (0, 10, 0, [(3, 0, 0), (3, 0, 0), (3, 0, 0), (3, 0, 0), (0, 0, 0), (0, 0, 0), (0, 0, 0), (3, 0, 0)]) LX10 := by
  intro a sz
  refine k_body (y := yX10_init) (n := 2) (av := .ref a :: []) (rm := { frames := 4, cells := 182, slots := 21739, locals := 81 }) (Qc := fun A => QK G kc LX10 a A) (plainFor_of_name (by decide)) (Nat.le_of_ble_eq_true rfl) (fun pr e s m below meth c A C0 hr hlk hnm hw hRo ls hl => ?_) sz
  have hx := C0.1
  have hb := C0.2.1
  have hown := C0.2.2.2.1
  have hts := C0.2.2.2.2.1
  have h_a : (fun _ : Nat => a) 0 = a := rfl
  generalize (fun _ : Nat => a) = ad at hw h_a
  generalize hlocs : ([] : List Loc) = locs at hw ⊢
  clear hlocs
  have hl : lv_has ls 2 [(0, .ref a)] := hl
  refine lv_aload_n hx hb (dkP dF_42 DX10_init (i := 0) rfl rfl) rfl (lv_at hl 0 rfl) ?_
  refine kz_obj C0 hl.1 ol_X10_3 ob_im ob_co (by decide) (by decide) (Nat.le_of_ble_eq_true rfl) (dk2 dF_183 DX10_init (i := 1) rfl rfl rfl) ?_
  refine lv_aload_n hx hb (dkP dF_42 DX10_init (i := 2) rfl rfl) rfl (lv_at hl 0 rfl) ?_
  refine lv_bipush (v := 8) hx hb (dks dF_16 DX10_init (i := 3) rfl rfl rfl) (by decide) ?_
  refine kz_newqp C0 hw 1 8 (by decide) (by decide +kernel) cl_X10_9 (by decide) (by decide) (by decide) (by decide) (by decide) (dk2 dF_189 DX10_init (i := 4) rfl rfl rfl) (fun q1 ad H h_q1 had hw => ?_)
  have hw : SF G kc A s.heap LDX10_2 ad H locs := hw
  have h_a : ad 0 = a := (had 0 (by decide)).trans h_a
  clear had
  refine W.widen (k := 1) (n := 8) (by decide) (by decide) ?_
  refine kz_pF C0 hnm hw 0 0 (1, 0, 1) (hi := (rfl : LDX10_2[0]? = some ((0, 10, 0, [(3, 0, 0), (3, 0, 0), (3, 0, 0), (3, 0, 0), (0, 0, 0), (0, 0, 0), (0, 0, 0), (3, 0, 0)]) : FE))) (by decide) h_a (show fvV ad (1, 0, 1) = .ref q1 from congrArg Value.ref h_q1) ff_X10_11 rfl rfl (dk2 dF_181 DX10_init (i := 5) rfl rfl rfl) (fun H locs hw => ?_)
  have hw : SF G kc A s.heap LDX10_3 ad H locs := hw
  refine lv_aload_n hx hb (dkP dF_42 DX10_init (i := 6) rfl rfl) rfl (lv_at hl 0 rfl) ?_
  refine lv_bipush (v := 64) hx hb (dks dF_16 DX10_init (i := 7) rfl rfl rfl) (by decide) ?_
  refine kz_newai C0 hw 2 64 (by decide) (by decide +kernel) ar_int (by decide) (by decide) (by decide) (by decide) (by decide) (dkN DX10_init (i := 8) rfl rfl rfl (by decide)) (fun q2 ad H h_q2 had hw => ?_)
  have hw : SF G kc A s.heap LDX10_4 ad H locs := hw
  have h_a : ad 0 = a := (had 0 (by decide)).trans h_a
  have h_q1 : ad 1 = q1 := (had 1 (by decide)).trans h_q1
  clear had
  refine W.widen (k := 2) (n := 72) (by decide) (by decide) ?_
  refine kz_pF C0 hnm hw 0 1 (1, 0, 2) (hi := (rfl : LDX10_4[0]? = some ((0, 10, 0, [(1, 0, 1), (3, 0, 0), (3, 0, 0), (3, 0, 0), (0, 0, 0), (0, 0, 0), (0, 0, 0), (3, 0, 0)]) : FE))) (by decide) h_a (show fvV ad (1, 0, 2) = .ref q2 from congrArg Value.ref h_q2) ff_X10_17 rfl rfl (dk2 dF_181 DX10_init (i := 9) rfl rfl rfl) (fun H locs hw => ?_)
  have hw : SF G kc A s.heap LDX10_5 ad H locs := hw
  refine lv_aload_n hx hb (dkP dF_42 DX10_init (i := 10) rfl rfl) rfl (lv_at hl 0 rfl) ?_
  refine lv_bipush (v := 8) hx hb (dks dF_16 DX10_init (i := 11) rfl rfl rfl) (by decide) ?_
  refine kz_newai C0 hw 3 8 (by decide) (by decide +kernel) ar_int (by decide) (by decide) (by decide) (by decide) (by decide) (dkN DX10_init (i := 12) rfl rfl rfl (by decide)) (fun q3 ad H h_q3 had hw => ?_)
  have hw : SF G kc A s.heap LDX10_6 ad H locs := hw
  have h_a : ad 0 = a := (had 0 (by decide)).trans h_a
  have h_q1 : ad 1 = q1 := (had 1 (by decide)).trans h_q1
  have h_q2 : ad 2 = q2 := (had 2 (by decide)).trans h_q2
  clear had
  refine W.widen (k := 3) (n := 80) (by decide) (by decide) ?_
  refine kz_pF C0 hnm hw 0 2 (1, 0, 3) (hi := (rfl : LDX10_6[0]? = some ((0, 10, 0, [(1, 0, 1), (1, 0, 2), (3, 0, 0), (3, 0, 0), (0, 0, 0), (0, 0, 0), (0, 0, 0), (3, 0, 0)]) : FE))) (by decide) h_a (show fvV ad (1, 0, 3) = .ref q3 from congrArg Value.ref h_q3) ff_X10_21 rfl rfl (dk2 dF_181 DX10_init (i := 13) rfl rfl rfl) (fun H locs hw => ?_)
  have hw : SF G kc A s.heap LDX10_7 ad H locs := hw
  refine lv_aload_n hx hb (dkP dF_42 DX10_init (i := 14) rfl rfl) rfl (lv_at hl 0 rfl) ?_
  refine lv_sipush (v := 420) hx hb (dkS dF_17 DX10_init (i := 15) rfl rfl rfl) (by decide) ?_
  refine kz_newai C0 hw 4 420 (by decide) (by decide +kernel) ar_int (by decide) (by decide) (by decide) (by decide) (by decide) (dkN DX10_init (i := 16) rfl rfl rfl (by decide)) (fun q4 ad H h_q4 had hw => ?_)
  have hw : SF G kc A s.heap LDX10_8 ad H locs := hw
  have h_a : ad 0 = a := (had 0 (by decide)).trans h_a
  have h_q1 : ad 1 = q1 := (had 1 (by decide)).trans h_q1
  have h_q2 : ad 2 = q2 := (had 2 (by decide)).trans h_q2
  have h_q3 : ad 3 = q3 := (had 3 (by decide)).trans h_q3
  clear had
  refine W.widen (k := 4) (n := 500) (by decide) (by decide) ?_
  refine kz_pF C0 hnm hw 0 3 (1, 0, 4) (hi := (rfl : LDX10_8[0]? = some ((0, 10, 0, [(1, 0, 1), (1, 0, 2), (1, 0, 3), (3, 0, 0), (0, 0, 0), (0, 0, 0), (0, 0, 0), (3, 0, 0)]) : FE))) (by decide) h_a (show fvV ad (1, 0, 4) = .ref q4 from congrArg Value.ref h_q4) ff_X10_24 rfl rfl (dk2 dF_181 DX10_init (i := 17) rfl rfl rfl) (fun H locs hw => ?_)
  have hw : SF G kc A s.heap LDX10_9 ad H locs := hw
  refine lv_aload_n hx hb (dkP dF_42 DX10_init (i := 18) rfl rfl) rfl (lv_at hl 0 rfl) ?_
  refine kz_new C0 hw 5 (by decide) (by decide +kernel) nw_X10_27 (by decide) (by decide) (dk2 dF_187 DX10_init (i := 19) rfl rfl rfl) (fun q5 ad H h_q5 had hw => ?_)
  have hw : SF G kc A s.heap (LDX10_9 ++ [(0, 6, 0, [(3, 0, 0), (0, 0, 0), (0, 0, 0)])]) ad H locs := hw
  have h_a : ad 0 = a := (had 0 (by decide)).trans h_a
  have h_q1 : ad 1 = q1 := (had 1 (by decide)).trans h_q1
  have h_q2 : ad 2 = q2 := (had 2 (by decide)).trans h_q2
  have h_q3 : ad 3 = q3 := (had 3 (by decide)).trans h_q3
  have h_q4 : ad 4 = q4 := (had 4 (by decide)).trans h_q4
  clear had
  refine W.widen (k := 5) (n := 503) (by decide) (by decide) ?_
  refine lv_dup hx hb (dkP dF_89 DX10_init (i := 20) rfl rfl) rfl ?_
  refine kz_call (vs := []) (rest := [.ref q5, .ref a]) C0 hRo (c_X6_init l G kc) 5 hw (by decide) (by decide +kernel) (fun _ _ => rfl) h_q5 ci_X6_init lk_X10_29 rfl hl.1 rfl ⟨by decide, by decide⟩ (Nat.le_of_ble_eq_true rfl) (dk2 dF_183 DX10_init (i := 21) rfl rfl rfl) ⟨by decide, by decide⟩ (fun ad H locs h_q5 had hw => ?_)
  have hw : SF G kc A s.heap LDX10_11 ad H locs := hw
  have h_a : ad 0 = a := (had 0 (by decide)).trans h_a
  have h_q1 : ad 1 = q1 := (had 1 (by decide)).trans h_q1
  have h_q2 : ad 2 = q2 := (had 2 (by decide)).trans h_q2
  have h_q3 : ad 3 = q3 := (had 3 (by decide)).trans h_q3
  have h_q4 : ad 4 = q4 := (had 4 (by decide)).trans h_q4
  clear had
  refine W.widen (k := 6) (n := 603) (by decide) (by decide) ?_
  refine kz_pF C0 hnm hw 0 7 (1, 0, 5) (hi := (rfl : LDX10_11[0]? = some ((0, 10, 0, [(1, 0, 1), (1, 0, 2), (1, 0, 3), (1, 0, 4), (0, 0, 0), (0, 0, 0), (0, 0, 0), (3, 0, 0)]) : FE))) (by decide) h_a (show fvV ad (1, 0, 5) = .ref q5 from congrArg Value.ref h_q5) ff_X10_30 rfl rfl (dk2 dF_181 DX10_init (i := 22) rfl rfl rfl) (fun H locs hw => ?_)
  have hw : SF G kc A s.heap LDX10_12 ad H locs := hw
  refine lv_iconst (v := 0) hx hb (dkP dF_3 DX10_init (i := 23) rfl rfl) (by decide) ?_
  refine lv_istore_n (lv' := [(1, .int 0), (0, .ref a)]) hx hb (dkP dF_60 DX10_init (i := 24) rfl rfl) rfl hl (by decide) rfl (fun ls hl => ?_)
  refine lv_iload_n hx hb (dkP dF_27 DX10_init (i := 25) rfl rfl) rfl (lv_at hl 0 rfl) ?_
  refine lv_bipush (v := 8) hx hb (dks dF_16 DX10_init (i := 26) rfl rfl rfl) (by decide) ?_
  refine lv_icmp_ge (tgt := 76) hx hb (dkS dF_162 DX10_init (i := 27) rfl rfl rfl) (by decide) (fun h => absurd h (by decide)) (fun _ => ?_)
  refine lv_aload_n hx hb (dkP dF_42 DX10_init (i := 28) rfl rfl) rfl (lv_at hl 1 rfl) ?_
  refine kz_g C0 hw 0 0 (1, 0, 1) (rfl : LDX10_12[0]? = some ((0, 10, 0, [(1, 0, 1), (1, 0, 2), (1, 0, 3), (1, 0, 4), (0, 0, 0), (0, 0, 0), (0, 0, 0), (1, 0, 5)]) : FE)) rfl h_a (congrArg Value.ref h_q1) fl_X10_11 (dk2 dF_180 DX10_init (i := 29) rfl rfl rfl) ?_
  refine lv_iload_n hx hb (dkP dF_27 DX10_init (i := 30) rfl rfl) rfl (lv_at hl 0 rfl) ?_
  refine kz_new C0 hw 7 (by decide) (by decide +kernel) nw_X10_9 (by decide) (by decide) (dk2 dF_187 DX10_init (i := 31) rfl rfl rfl) (fun q6 ad H h_q6 had hw => ?_)
  have hw : SF G kc A s.heap (LDX10_12 ++ [(0, 4, 0, [(0, 0, 0), (0, 0, 0), (4, 0, 0), (4, 0, 0), (0, 0, 0), (0, 0, 0), (3, 0, 0), (3, 0, 0), (3, 0, 0)])]) ad H locs := hw
  have h_a : ad 0 = a := (had 0 (by decide)).trans h_a
  have h_q1 : ad 1 = q1 := (had 1 (by decide)).trans h_q1
  have h_q2 : ad 2 = q2 := (had 2 (by decide)).trans h_q2
  have h_q3 : ad 3 = q3 := (had 3 (by decide)).trans h_q3
  have h_q4 : ad 4 = q4 := (had 4 (by decide)).trans h_q4
  have h_q5 : ad 5 = q5 := (had 5 (by decide)).trans h_q5
  clear had
  refine W.widen (k := 7) (n := 612) (by decide) (by decide) ?_
  refine lv_dup hx hb (dkP dF_89 DX10_init (i := 32) rfl rfl) rfl ?_
  refine kz_call (vs := []) (rest := [.ref q6, .int 0, .ref q1]) C0 hRo (c_X4_init l G kc) 7 hw (by decide) (by decide +kernel) (fun _ _ => rfl) h_q6 ci_X4_init lk_X10_34 rfl hl.1 rfl ⟨by decide, by decide⟩ (Nat.le_of_ble_eq_true rfl) (dk2 dF_183 DX10_init (i := 33) rfl rfl rfl) ⟨by decide, by decide⟩ (fun ad H locs h_q6 had hw => ?_)
  have hw : SF G kc A s.heap LDX10_14 ad H locs := hw
  have h_a : ad 0 = a := (had 0 (by decide)).trans h_a
  have h_q1 : ad 1 = q1 := (had 1 (by decide)).trans h_q1
  have h_q2 : ad 2 = q2 := (had 2 (by decide)).trans h_q2
  have h_q3 : ad 3 = q3 := (had 3 (by decide)).trans h_q3
  have h_q4 : ad 4 = q4 := (had 4 (by decide)).trans h_q4
  have h_q5 : ad 5 = q5 := (had 5 (by decide)).trans h_q5
  clear had
  refine W.widen (k := 28) (n := 3245) (by decide) (by decide) ?_
  refine kz_aastp C0 hw 1 7 (rfl : LDX10_14[1]? = some ((6, 8, 0, []) : FE)) (rfl : LDX10_14[7]? = some ((0, 4, 0, [(0, 0, 0), (0, -1, 0), (2, 0, 8), (2, 0, 18), (0, 1, 0), (0, 0, 0), (1, 0, 26), (1, 0, 27), (1, 0, 28)]) : FE)) rfl rfl h_q1 h_q6 (by unfold vp_in; decide) (by decide) (dkP dF_83 DX10_init (i := 34) rfl rfl) (fun H locs hw => ?_)
  have hw : SF G kc A s.heap LDX10_15 ad H locs := hw
  refine lv_iinc (v := 1) (lv' := [(1, .int 1), (0, .ref a)]) hx hb (dkI DX10_init (i := 35) rfl rfl rfl rfl) hl (k := 0) rfl (by decide) (by decide) rfl (fun ls hl => ?_)
  refine lv_goto (tgt := 51) hx hb (dkS dF_167 DX10_init (i := 36) rfl rfl rfl) (by decide) ?_
  refine lv_iload_n hx hb (dkP dF_27 DX10_init (i := 25) rfl rfl) rfl (lv_at hl 0 rfl) ?_
  refine lv_bipush (v := 8) hx hb (dks dF_16 DX10_init (i := 26) rfl rfl rfl) (by decide) ?_
  refine lv_icmp_ge (tgt := 76) hx hb (dkS dF_162 DX10_init (i := 27) rfl rfl rfl) (by decide) (fun h => absurd h (by decide)) (fun _ => ?_)
  refine lv_aload_n hx hb (dkP dF_42 DX10_init (i := 28) rfl rfl) rfl (lv_at hl 1 rfl) ?_
  refine kz_g C0 hw 0 0 (1, 0, 1) (rfl : LDX10_15[0]? = some ((0, 10, 0, [(1, 0, 1), (1, 0, 2), (1, 0, 3), (1, 0, 4), (0, 0, 0), (0, 0, 0), (0, 0, 0), (1, 0, 5)]) : FE)) rfl h_a (congrArg Value.ref h_q1) fl_X10_11 (dk2 dF_180 DX10_init (i := 29) rfl rfl rfl) ?_
  refine lv_iload_n hx hb (dkP dF_27 DX10_init (i := 30) rfl rfl) rfl (lv_at hl 0 rfl) ?_
  refine kz_new C0 hw 29 (by decide) (by decide +kernel) nw_X10_9 (by decide) (by decide) (dk2 dF_187 DX10_init (i := 31) rfl rfl rfl) (fun q7 ad H h_q7 had hw => ?_)
  have hw : SF G kc A s.heap (LDX10_15 ++ [(0, 4, 0, [(0, 0, 0), (0, 0, 0), (4, 0, 0), (4, 0, 0), (0, 0, 0), (0, 0, 0), (3, 0, 0), (3, 0, 0), (3, 0, 0)])]) ad H locs := hw
  have h_a : ad 0 = a := (had 0 (by decide)).trans h_a
  have h_q1 : ad 1 = q1 := (had 1 (by decide)).trans h_q1
  have h_q2 : ad 2 = q2 := (had 2 (by decide)).trans h_q2
  have h_q3 : ad 3 = q3 := (had 3 (by decide)).trans h_q3
  have h_q4 : ad 4 = q4 := (had 4 (by decide)).trans h_q4
  have h_q5 : ad 5 = q5 := (had 5 (by decide)).trans h_q5
  clear had
  refine W.widen (k := 29) (n := 3254) (by decide) (by decide) ?_
  refine lv_dup hx hb (dkP dF_89 DX10_init (i := 32) rfl rfl) rfl ?_
  refine kz_call (vs := []) (rest := [.ref q7, .int 1, .ref q1]) C0 hRo (c_X4_init l G kc) 29 hw (by decide) (by decide +kernel) (fun _ _ => rfl) h_q7 ci_X4_init lk_X10_34 rfl hl.1 rfl ⟨by decide, by decide⟩ (Nat.le_of_ble_eq_true rfl) (dk2 dF_183 DX10_init (i := 33) rfl rfl rfl) ⟨by decide, by decide⟩ (fun ad H locs h_q7 had hw => ?_)
  have hw : SF G kc A s.heap LDX10_17 ad H locs := hw
  have h_a : ad 0 = a := (had 0 (by decide)).trans h_a
  have h_q1 : ad 1 = q1 := (had 1 (by decide)).trans h_q1
  have h_q2 : ad 2 = q2 := (had 2 (by decide)).trans h_q2
  have h_q3 : ad 3 = q3 := (had 3 (by decide)).trans h_q3
  have h_q4 : ad 4 = q4 := (had 4 (by decide)).trans h_q4
  have h_q5 : ad 5 = q5 := (had 5 (by decide)).trans h_q5
  clear had
  refine W.widen (k := 50) (n := 5887) (by decide) (by decide) ?_
  refine kz_aastp C0 hw 1 29 (rfl : LDX10_17[1]? = some ((6, 8, 0, [(2, 0, 7)]) : FE)) (rfl : LDX10_17[29]? = some ((0, 4, 0, [(0, 0, 0), (0, -1, 0), (2, 0, 30), (2, 0, 40), (0, 1, 0), (0, 0, 0), (1, 0, 48), (1, 0, 49), (1, 0, 50)]) : FE)) rfl rfl h_q1 h_q7 (by unfold vp_in; decide) (by decide) (dkP dF_83 DX10_init (i := 34) rfl rfl) (fun H locs hw => ?_)
  have hw : SF G kc A s.heap LDX10_18 ad H locs := hw
  refine lv_iinc (v := 2) (lv' := [(1, .int 2), (0, .ref a)]) hx hb (dkI DX10_init (i := 35) rfl rfl rfl rfl) hl (k := 0) rfl (by decide) (by decide) rfl (fun ls hl => ?_)
  refine lv_goto (tgt := 51) hx hb (dkS dF_167 DX10_init (i := 36) rfl rfl rfl) (by decide) ?_
  refine lv_iload_n hx hb (dkP dF_27 DX10_init (i := 25) rfl rfl) rfl (lv_at hl 0 rfl) ?_
  refine lv_bipush (v := 8) hx hb (dks dF_16 DX10_init (i := 26) rfl rfl rfl) (by decide) ?_
  refine lv_icmp_ge (tgt := 76) hx hb (dkS dF_162 DX10_init (i := 27) rfl rfl rfl) (by decide) (fun h => absurd h (by decide)) (fun _ => ?_)
  refine lv_aload_n hx hb (dkP dF_42 DX10_init (i := 28) rfl rfl) rfl (lv_at hl 1 rfl) ?_
  refine kz_g C0 hw 0 0 (1, 0, 1) (rfl : LDX10_18[0]? = some ((0, 10, 0, [(1, 0, 1), (1, 0, 2), (1, 0, 3), (1, 0, 4), (0, 0, 0), (0, 0, 0), (0, 0, 0), (1, 0, 5)]) : FE)) rfl h_a (congrArg Value.ref h_q1) fl_X10_11 (dk2 dF_180 DX10_init (i := 29) rfl rfl rfl) ?_
  refine lv_iload_n hx hb (dkP dF_27 DX10_init (i := 30) rfl rfl) rfl (lv_at hl 0 rfl) ?_
  refine kz_new C0 hw 51 (by decide) (by decide +kernel) nw_X10_9 (by decide) (by decide) (dk2 dF_187 DX10_init (i := 31) rfl rfl rfl) (fun q8 ad H h_q8 had hw => ?_)
  have hw : SF G kc A s.heap (LDX10_18 ++ [(0, 4, 0, [(0, 0, 0), (0, 0, 0), (4, 0, 0), (4, 0, 0), (0, 0, 0), (0, 0, 0), (3, 0, 0), (3, 0, 0), (3, 0, 0)])]) ad H locs := hw
  have h_a : ad 0 = a := (had 0 (by decide)).trans h_a
  have h_q1 : ad 1 = q1 := (had 1 (by decide)).trans h_q1
  have h_q2 : ad 2 = q2 := (had 2 (by decide)).trans h_q2
  have h_q3 : ad 3 = q3 := (had 3 (by decide)).trans h_q3
  have h_q4 : ad 4 = q4 := (had 4 (by decide)).trans h_q4
  have h_q5 : ad 5 = q5 := (had 5 (by decide)).trans h_q5
  clear had
  refine W.widen (k := 51) (n := 5896) (by decide) (by decide) ?_
  refine lv_dup hx hb (dkP dF_89 DX10_init (i := 32) rfl rfl) rfl ?_
  refine kz_call (vs := []) (rest := [.ref q8, .int 2, .ref q1]) C0 hRo (c_X4_init l G kc) 51 hw (by decide) (by decide +kernel) (fun _ _ => rfl) h_q8 ci_X4_init lk_X10_34 rfl hl.1 rfl ⟨by decide, by decide⟩ (Nat.le_of_ble_eq_true rfl) (dk2 dF_183 DX10_init (i := 33) rfl rfl rfl) ⟨by decide, by decide⟩ (fun ad H locs h_q8 had hw => ?_)
  have hw : SF G kc A s.heap LDX10_20 ad H locs := hw
  have h_a : ad 0 = a := (had 0 (by decide)).trans h_a
  have h_q1 : ad 1 = q1 := (had 1 (by decide)).trans h_q1
  have h_q2 : ad 2 = q2 := (had 2 (by decide)).trans h_q2
  have h_q3 : ad 3 = q3 := (had 3 (by decide)).trans h_q3
  have h_q4 : ad 4 = q4 := (had 4 (by decide)).trans h_q4
  have h_q5 : ad 5 = q5 := (had 5 (by decide)).trans h_q5
  clear had
  refine W.widen (k := 72) (n := 8529) (by decide) (by decide) ?_
  refine kz_aastp C0 hw 1 51 (rfl : LDX10_20[1]? = some ((6, 8, 0, [(2, 0, 7), (2, 0, 29)]) : FE)) (rfl : LDX10_20[51]? = some ((0, 4, 0, [(0, 0, 0), (0, -1, 0), (2, 0, 52), (2, 0, 62), (0, 1, 0), (0, 0, 0), (1, 0, 70), (1, 0, 71), (1, 0, 72)]) : FE)) rfl rfl h_q1 h_q8 (by unfold vp_in; decide) (by decide) (dkP dF_83 DX10_init (i := 34) rfl rfl) (fun H locs hw => ?_)
  have hw : SF G kc A s.heap LDX10_21 ad H locs := hw
  refine lv_iinc (v := 3) (lv' := [(1, .int 3), (0, .ref a)]) hx hb (dkI DX10_init (i := 35) rfl rfl rfl rfl) hl (k := 0) rfl (by decide) (by decide) rfl (fun ls hl => ?_)
  refine lv_goto (tgt := 51) hx hb (dkS dF_167 DX10_init (i := 36) rfl rfl rfl) (by decide) ?_
  refine lv_iload_n hx hb (dkP dF_27 DX10_init (i := 25) rfl rfl) rfl (lv_at hl 0 rfl) ?_
  refine lv_bipush (v := 8) hx hb (dks dF_16 DX10_init (i := 26) rfl rfl rfl) (by decide) ?_
  refine lv_icmp_ge (tgt := 76) hx hb (dkS dF_162 DX10_init (i := 27) rfl rfl rfl) (by decide) (fun h => absurd h (by decide)) (fun _ => ?_)
  refine lv_aload_n hx hb (dkP dF_42 DX10_init (i := 28) rfl rfl) rfl (lv_at hl 1 rfl) ?_
  refine kz_g C0 hw 0 0 (1, 0, 1) (rfl : LDX10_21[0]? = some ((0, 10, 0, [(1, 0, 1), (1, 0, 2), (1, 0, 3), (1, 0, 4), (0, 0, 0), (0, 0, 0), (0, 0, 0), (1, 0, 5)]) : FE)) rfl h_a (congrArg Value.ref h_q1) fl_X10_11 (dk2 dF_180 DX10_init (i := 29) rfl rfl rfl) ?_
  refine lv_iload_n hx hb (dkP dF_27 DX10_init (i := 30) rfl rfl) rfl (lv_at hl 0 rfl) ?_
  refine kz_new C0 hw 73 (by decide) (by decide +kernel) nw_X10_9 (by decide) (by decide) (dk2 dF_187 DX10_init (i := 31) rfl rfl rfl) (fun q9 ad H h_q9 had hw => ?_)
  have hw : SF G kc A s.heap (LDX10_21 ++ [(0, 4, 0, [(0, 0, 0), (0, 0, 0), (4, 0, 0), (4, 0, 0), (0, 0, 0), (0, 0, 0), (3, 0, 0), (3, 0, 0), (3, 0, 0)])]) ad H locs := hw
  have h_a : ad 0 = a := (had 0 (by decide)).trans h_a
  have h_q1 : ad 1 = q1 := (had 1 (by decide)).trans h_q1
  have h_q2 : ad 2 = q2 := (had 2 (by decide)).trans h_q2
  have h_q3 : ad 3 = q3 := (had 3 (by decide)).trans h_q3
  have h_q4 : ad 4 = q4 := (had 4 (by decide)).trans h_q4
  have h_q5 : ad 5 = q5 := (had 5 (by decide)).trans h_q5
  clear had
  refine W.widen (k := 73) (n := 8538) (by decide) (by decide) ?_
  refine lv_dup hx hb (dkP dF_89 DX10_init (i := 32) rfl rfl) rfl ?_
  refine kz_call (vs := []) (rest := [.ref q9, .int 3, .ref q1]) C0 hRo (c_X4_init l G kc) 73 hw (by decide) (by decide +kernel) (fun _ _ => rfl) h_q9 ci_X4_init lk_X10_34 rfl hl.1 rfl ⟨by decide, by decide⟩ (Nat.le_of_ble_eq_true rfl) (dk2 dF_183 DX10_init (i := 33) rfl rfl rfl) ⟨by decide, by decide⟩ (fun ad H locs h_q9 had hw => ?_)
  have hw : SF G kc A s.heap LDX10_23 ad H locs := hw
  have h_a : ad 0 = a := (had 0 (by decide)).trans h_a
  have h_q1 : ad 1 = q1 := (had 1 (by decide)).trans h_q1
  have h_q2 : ad 2 = q2 := (had 2 (by decide)).trans h_q2
  have h_q3 : ad 3 = q3 := (had 3 (by decide)).trans h_q3
  have h_q4 : ad 4 = q4 := (had 4 (by decide)).trans h_q4
  have h_q5 : ad 5 = q5 := (had 5 (by decide)).trans h_q5
  clear had
  refine W.widen (k := 94) (n := 11171) (by decide) (by decide) ?_
  refine kz_aastp C0 hw 1 73 (rfl : LDX10_23[1]? = some ((6, 8, 0, [(2, 0, 7), (2, 0, 29), (2, 0, 51)]) : FE)) (rfl : LDX10_23[73]? = some ((0, 4, 0, [(0, 0, 0), (0, -1, 0), (2, 0, 74), (2, 0, 84), (0, 1, 0), (0, 0, 0), (1, 0, 92), (1, 0, 93), (1, 0, 94)]) : FE)) rfl rfl h_q1 h_q9 (by unfold vp_in; decide) (by decide) (dkP dF_83 DX10_init (i := 34) rfl rfl) (fun H locs hw => ?_)
  have hw : SF G kc A s.heap LDX10_24 ad H locs := hw
  refine lv_iinc (v := 4) (lv' := [(1, .int 4), (0, .ref a)]) hx hb (dkI DX10_init (i := 35) rfl rfl rfl rfl) hl (k := 0) rfl (by decide) (by decide) rfl (fun ls hl => ?_)
  refine lv_goto (tgt := 51) hx hb (dkS dF_167 DX10_init (i := 36) rfl rfl rfl) (by decide) ?_
  refine lv_iload_n hx hb (dkP dF_27 DX10_init (i := 25) rfl rfl) rfl (lv_at hl 0 rfl) ?_
  refine lv_bipush (v := 8) hx hb (dks dF_16 DX10_init (i := 26) rfl rfl rfl) (by decide) ?_
  refine lv_icmp_ge (tgt := 76) hx hb (dkS dF_162 DX10_init (i := 27) rfl rfl rfl) (by decide) (fun h => absurd h (by decide)) (fun _ => ?_)
  refine lv_aload_n hx hb (dkP dF_42 DX10_init (i := 28) rfl rfl) rfl (lv_at hl 1 rfl) ?_
  refine kz_g C0 hw 0 0 (1, 0, 1) (rfl : LDX10_24[0]? = some ((0, 10, 0, [(1, 0, 1), (1, 0, 2), (1, 0, 3), (1, 0, 4), (0, 0, 0), (0, 0, 0), (0, 0, 0), (1, 0, 5)]) : FE)) rfl h_a (congrArg Value.ref h_q1) fl_X10_11 (dk2 dF_180 DX10_init (i := 29) rfl rfl rfl) ?_
  refine lv_iload_n hx hb (dkP dF_27 DX10_init (i := 30) rfl rfl) rfl (lv_at hl 0 rfl) ?_
  refine kz_new C0 hw 95 (by decide) (by decide +kernel) nw_X10_9 (by decide) (by decide) (dk2 dF_187 DX10_init (i := 31) rfl rfl rfl) (fun q10 ad H h_q10 had hw => ?_)
  have hw : SF G kc A s.heap (LDX10_24 ++ [(0, 4, 0, [(0, 0, 0), (0, 0, 0), (4, 0, 0), (4, 0, 0), (0, 0, 0), (0, 0, 0), (3, 0, 0), (3, 0, 0), (3, 0, 0)])]) ad H locs := hw
  have h_a : ad 0 = a := (had 0 (by decide)).trans h_a
  have h_q1 : ad 1 = q1 := (had 1 (by decide)).trans h_q1
  have h_q2 : ad 2 = q2 := (had 2 (by decide)).trans h_q2
  have h_q3 : ad 3 = q3 := (had 3 (by decide)).trans h_q3
  have h_q4 : ad 4 = q4 := (had 4 (by decide)).trans h_q4
  have h_q5 : ad 5 = q5 := (had 5 (by decide)).trans h_q5
  clear had
  refine W.widen (k := 95) (n := 11180) (by decide) (by decide) ?_
  refine lv_dup hx hb (dkP dF_89 DX10_init (i := 32) rfl rfl) rfl ?_
  refine kz_call (vs := []) (rest := [.ref q10, .int 4, .ref q1]) C0 hRo (c_X4_init l G kc) 95 hw (by decide) (by decide +kernel) (fun _ _ => rfl) h_q10 ci_X4_init lk_X10_34 rfl hl.1 rfl ⟨by decide, by decide⟩ (Nat.le_of_ble_eq_true rfl) (dk2 dF_183 DX10_init (i := 33) rfl rfl rfl) ⟨by decide, by decide⟩ (fun ad H locs h_q10 had hw => ?_)
  have hw : SF G kc A s.heap LDX10_26 ad H locs := hw
  have h_a : ad 0 = a := (had 0 (by decide)).trans h_a
  have h_q1 : ad 1 = q1 := (had 1 (by decide)).trans h_q1
  have h_q2 : ad 2 = q2 := (had 2 (by decide)).trans h_q2
  have h_q3 : ad 3 = q3 := (had 3 (by decide)).trans h_q3
  have h_q4 : ad 4 = q4 := (had 4 (by decide)).trans h_q4
  have h_q5 : ad 5 = q5 := (had 5 (by decide)).trans h_q5
  clear had
  refine W.widen (k := 116) (n := 13813) (by decide) (by decide) ?_
  refine kz_aastp C0 hw 1 95 (rfl : LDX10_26[1]? = some ((6, 8, 0, [(2, 0, 7), (2, 0, 29), (2, 0, 51), (2, 0, 73)]) : FE)) (rfl : LDX10_26[95]? = some ((0, 4, 0, [(0, 0, 0), (0, -1, 0), (2, 0, 96), (2, 0, 106), (0, 1, 0), (0, 0, 0), (1, 0, 114), (1, 0, 115), (1, 0, 116)]) : FE)) rfl rfl h_q1 h_q10 (by unfold vp_in; decide) (by decide) (dkP dF_83 DX10_init (i := 34) rfl rfl) (fun H locs hw => ?_)
  have hw : SF G kc A s.heap LDX10_27 ad H locs := hw
  refine lv_iinc (v := 5) (lv' := [(1, .int 5), (0, .ref a)]) hx hb (dkI DX10_init (i := 35) rfl rfl rfl rfl) hl (k := 0) rfl (by decide) (by decide) rfl (fun ls hl => ?_)
  refine lv_goto (tgt := 51) hx hb (dkS dF_167 DX10_init (i := 36) rfl rfl rfl) (by decide) ?_
  refine lv_iload_n hx hb (dkP dF_27 DX10_init (i := 25) rfl rfl) rfl (lv_at hl 0 rfl) ?_
  refine lv_bipush (v := 8) hx hb (dks dF_16 DX10_init (i := 26) rfl rfl rfl) (by decide) ?_
  refine lv_icmp_ge (tgt := 76) hx hb (dkS dF_162 DX10_init (i := 27) rfl rfl rfl) (by decide) (fun h => absurd h (by decide)) (fun _ => ?_)
  refine lv_aload_n hx hb (dkP dF_42 DX10_init (i := 28) rfl rfl) rfl (lv_at hl 1 rfl) ?_
  refine kz_g C0 hw 0 0 (1, 0, 1) (rfl : LDX10_27[0]? = some ((0, 10, 0, [(1, 0, 1), (1, 0, 2), (1, 0, 3), (1, 0, 4), (0, 0, 0), (0, 0, 0), (0, 0, 0), (1, 0, 5)]) : FE)) rfl h_a (congrArg Value.ref h_q1) fl_X10_11 (dk2 dF_180 DX10_init (i := 29) rfl rfl rfl) ?_
  refine lv_iload_n hx hb (dkP dF_27 DX10_init (i := 30) rfl rfl) rfl (lv_at hl 0 rfl) ?_
  refine kz_new C0 hw 117 (by decide) (by decide +kernel) nw_X10_9 (by decide) (by decide) (dk2 dF_187 DX10_init (i := 31) rfl rfl rfl) (fun q11 ad H h_q11 had hw => ?_)
  have hw : SF G kc A s.heap (LDX10_27 ++ [(0, 4, 0, [(0, 0, 0), (0, 0, 0), (4, 0, 0), (4, 0, 0), (0, 0, 0), (0, 0, 0), (3, 0, 0), (3, 0, 0), (3, 0, 0)])]) ad H locs := hw
  have h_a : ad 0 = a := (had 0 (by decide)).trans h_a
  have h_q1 : ad 1 = q1 := (had 1 (by decide)).trans h_q1
  have h_q2 : ad 2 = q2 := (had 2 (by decide)).trans h_q2
  have h_q3 : ad 3 = q3 := (had 3 (by decide)).trans h_q3
  have h_q4 : ad 4 = q4 := (had 4 (by decide)).trans h_q4
  have h_q5 : ad 5 = q5 := (had 5 (by decide)).trans h_q5
  clear had
  refine W.widen (k := 117) (n := 13822) (by decide) (by decide) ?_
  refine lv_dup hx hb (dkP dF_89 DX10_init (i := 32) rfl rfl) rfl ?_
  refine kz_call (vs := []) (rest := [.ref q11, .int 5, .ref q1]) C0 hRo (c_X4_init l G kc) 117 hw (by decide) (by decide +kernel) (fun _ _ => rfl) h_q11 ci_X4_init lk_X10_34 rfl hl.1 rfl ⟨by decide, by decide⟩ (Nat.le_of_ble_eq_true rfl) (dk2 dF_183 DX10_init (i := 33) rfl rfl rfl) ⟨by decide, by decide⟩ (fun ad H locs h_q11 had hw => ?_)
  have hw : SF G kc A s.heap LDX10_29 ad H locs := hw
  have h_a : ad 0 = a := (had 0 (by decide)).trans h_a
  have h_q1 : ad 1 = q1 := (had 1 (by decide)).trans h_q1
  have h_q2 : ad 2 = q2 := (had 2 (by decide)).trans h_q2
  have h_q3 : ad 3 = q3 := (had 3 (by decide)).trans h_q3
  have h_q4 : ad 4 = q4 := (had 4 (by decide)).trans h_q4
  have h_q5 : ad 5 = q5 := (had 5 (by decide)).trans h_q5
  clear had
  refine W.widen (k := 138) (n := 16455) (by decide) (by decide) ?_
  refine kz_aastp C0 hw 1 117 (rfl : LDX10_29[1]? = some ((6, 8, 0, [(2, 0, 7), (2, 0, 29), (2, 0, 51), (2, 0, 73), (2, 0, 95)]) : FE)) (rfl : LDX10_29[117]? = some ((0, 4, 0, [(0, 0, 0), (0, -1, 0), (2, 0, 118), (2, 0, 128), (0, 1, 0), (0, 0, 0), (1, 0, 136), (1, 0, 137), (1, 0, 138)]) : FE)) rfl rfl h_q1 h_q11 (by unfold vp_in; decide) (by decide) (dkP dF_83 DX10_init (i := 34) rfl rfl) (fun H locs hw => ?_)
  have hw : SF G kc A s.heap LDX10_30 ad H locs := hw
  refine lv_iinc (v := 6) (lv' := [(1, .int 6), (0, .ref a)]) hx hb (dkI DX10_init (i := 35) rfl rfl rfl rfl) hl (k := 0) rfl (by decide) (by decide) rfl (fun ls hl => ?_)
  refine lv_goto (tgt := 51) hx hb (dkS dF_167 DX10_init (i := 36) rfl rfl rfl) (by decide) ?_
  refine lv_iload_n hx hb (dkP dF_27 DX10_init (i := 25) rfl rfl) rfl (lv_at hl 0 rfl) ?_
  refine lv_bipush (v := 8) hx hb (dks dF_16 DX10_init (i := 26) rfl rfl rfl) (by decide) ?_
  refine lv_icmp_ge (tgt := 76) hx hb (dkS dF_162 DX10_init (i := 27) rfl rfl rfl) (by decide) (fun h => absurd h (by decide)) (fun _ => ?_)
  refine lv_aload_n hx hb (dkP dF_42 DX10_init (i := 28) rfl rfl) rfl (lv_at hl 1 rfl) ?_
  refine kz_g C0 hw 0 0 (1, 0, 1) (rfl : LDX10_30[0]? = some ((0, 10, 0, [(1, 0, 1), (1, 0, 2), (1, 0, 3), (1, 0, 4), (0, 0, 0), (0, 0, 0), (0, 0, 0), (1, 0, 5)]) : FE)) rfl h_a (congrArg Value.ref h_q1) fl_X10_11 (dk2 dF_180 DX10_init (i := 29) rfl rfl rfl) ?_
  refine lv_iload_n hx hb (dkP dF_27 DX10_init (i := 30) rfl rfl) rfl (lv_at hl 0 rfl) ?_
  refine kz_new C0 hw 139 (by decide) (by decide +kernel) nw_X10_9 (by decide) (by decide) (dk2 dF_187 DX10_init (i := 31) rfl rfl rfl) (fun q12 ad H h_q12 had hw => ?_)
  have hw : SF G kc A s.heap (LDX10_30 ++ [(0, 4, 0, [(0, 0, 0), (0, 0, 0), (4, 0, 0), (4, 0, 0), (0, 0, 0), (0, 0, 0), (3, 0, 0), (3, 0, 0), (3, 0, 0)])]) ad H locs := hw
  have h_a : ad 0 = a := (had 0 (by decide)).trans h_a
  have h_q1 : ad 1 = q1 := (had 1 (by decide)).trans h_q1
  have h_q2 : ad 2 = q2 := (had 2 (by decide)).trans h_q2
  have h_q3 : ad 3 = q3 := (had 3 (by decide)).trans h_q3
  have h_q4 : ad 4 = q4 := (had 4 (by decide)).trans h_q4
  have h_q5 : ad 5 = q5 := (had 5 (by decide)).trans h_q5
  clear had
  refine W.widen (k := 139) (n := 16464) (by decide) (by decide) ?_
  refine lv_dup hx hb (dkP dF_89 DX10_init (i := 32) rfl rfl) rfl ?_
  refine kz_call (vs := []) (rest := [.ref q12, .int 6, .ref q1]) C0 hRo (c_X4_init l G kc) 139 hw (by decide) (by decide +kernel) (fun _ _ => rfl) h_q12 ci_X4_init lk_X10_34 rfl hl.1 rfl ⟨by decide, by decide⟩ (Nat.le_of_ble_eq_true rfl) (dk2 dF_183 DX10_init (i := 33) rfl rfl rfl) ⟨by decide, by decide⟩ (fun ad H locs h_q12 had hw => ?_)
  have hw : SF G kc A s.heap LDX10_32 ad H locs := hw
  have h_a : ad 0 = a := (had 0 (by decide)).trans h_a
  have h_q1 : ad 1 = q1 := (had 1 (by decide)).trans h_q1
  have h_q2 : ad 2 = q2 := (had 2 (by decide)).trans h_q2
  have h_q3 : ad 3 = q3 := (had 3 (by decide)).trans h_q3
  have h_q4 : ad 4 = q4 := (had 4 (by decide)).trans h_q4
  have h_q5 : ad 5 = q5 := (had 5 (by decide)).trans h_q5
  clear had
  refine W.widen (k := 160) (n := 19097) (by decide) (by decide) ?_
  refine kz_aastp C0 hw 1 139 (rfl : LDX10_32[1]? = some ((6, 8, 0, [(2, 0, 7), (2, 0, 29), (2, 0, 51), (2, 0, 73), (2, 0, 95), (2, 0, 117)]) : FE)) (rfl : LDX10_32[139]? = some ((0, 4, 0, [(0, 0, 0), (0, -1, 0), (2, 0, 140), (2, 0, 150), (0, 1, 0), (0, 0, 0), (1, 0, 158), (1, 0, 159), (1, 0, 160)]) : FE)) rfl rfl h_q1 h_q12 (by unfold vp_in; decide) (by decide) (dkP dF_83 DX10_init (i := 34) rfl rfl) (fun H locs hw => ?_)
  have hw : SF G kc A s.heap LDX10_33 ad H locs := hw
  refine lv_iinc (v := 7) (lv' := [(1, .int 7), (0, .ref a)]) hx hb (dkI DX10_init (i := 35) rfl rfl rfl rfl) hl (k := 0) rfl (by decide) (by decide) rfl (fun ls hl => ?_)
  refine lv_goto (tgt := 51) hx hb (dkS dF_167 DX10_init (i := 36) rfl rfl rfl) (by decide) ?_
  refine lv_iload_n hx hb (dkP dF_27 DX10_init (i := 25) rfl rfl) rfl (lv_at hl 0 rfl) ?_
  refine lv_bipush (v := 8) hx hb (dks dF_16 DX10_init (i := 26) rfl rfl rfl) (by decide) ?_
  refine lv_icmp_ge (tgt := 76) hx hb (dkS dF_162 DX10_init (i := 27) rfl rfl rfl) (by decide) (fun h => absurd h (by decide)) (fun _ => ?_)
  refine lv_aload_n hx hb (dkP dF_42 DX10_init (i := 28) rfl rfl) rfl (lv_at hl 1 rfl) ?_
  refine kz_g C0 hw 0 0 (1, 0, 1) (rfl : LDX10_33[0]? = some ((0, 10, 0, [(1, 0, 1), (1, 0, 2), (1, 0, 3), (1, 0, 4), (0, 0, 0), (0, 0, 0), (0, 0, 0), (1, 0, 5)]) : FE)) rfl h_a (congrArg Value.ref h_q1) fl_X10_11 (dk2 dF_180 DX10_init (i := 29) rfl rfl rfl) ?_
  refine lv_iload_n hx hb (dkP dF_27 DX10_init (i := 30) rfl rfl) rfl (lv_at hl 0 rfl) ?_
  refine kz_new C0 hw 161 (by decide) (by decide +kernel) nw_X10_9 (by decide) (by decide) (dk2 dF_187 DX10_init (i := 31) rfl rfl rfl) (fun q13 ad H h_q13 had hw => ?_)
  have hw : SF G kc A s.heap (LDX10_33 ++ [(0, 4, 0, [(0, 0, 0), (0, 0, 0), (4, 0, 0), (4, 0, 0), (0, 0, 0), (0, 0, 0), (3, 0, 0), (3, 0, 0), (3, 0, 0)])]) ad H locs := hw
  have h_a : ad 0 = a := (had 0 (by decide)).trans h_a
  have h_q1 : ad 1 = q1 := (had 1 (by decide)).trans h_q1
  have h_q2 : ad 2 = q2 := (had 2 (by decide)).trans h_q2
  have h_q3 : ad 3 = q3 := (had 3 (by decide)).trans h_q3
  have h_q4 : ad 4 = q4 := (had 4 (by decide)).trans h_q4
  have h_q5 : ad 5 = q5 := (had 5 (by decide)).trans h_q5
  clear had
  refine W.widen (k := 161) (n := 19106) (by decide) (by decide) ?_
  refine lv_dup hx hb (dkP dF_89 DX10_init (i := 32) rfl rfl) rfl ?_
  refine kz_call (vs := []) (rest := [.ref q13, .int 7, .ref q1]) C0 hRo (c_X4_init l G kc) 161 hw (by decide) (by decide +kernel) (fun _ _ => rfl) h_q13 ci_X4_init lk_X10_34 rfl hl.1 rfl ⟨by decide, by decide⟩ (Nat.le_of_ble_eq_true rfl) (dk2 dF_183 DX10_init (i := 33) rfl rfl rfl) ⟨by decide, by decide⟩ (fun ad H locs h_q13 had hw => ?_)
  have hw : SF G kc A s.heap LDX10_35 ad H locs := hw
  have h_a : ad 0 = a := (had 0 (by decide)).trans h_a
  have h_q1 : ad 1 = q1 := (had 1 (by decide)).trans h_q1
  have h_q2 : ad 2 = q2 := (had 2 (by decide)).trans h_q2
  have h_q3 : ad 3 = q3 := (had 3 (by decide)).trans h_q3
  have h_q4 : ad 4 = q4 := (had 4 (by decide)).trans h_q4
  have h_q5 : ad 5 = q5 := (had 5 (by decide)).trans h_q5
  clear had
  refine W.widen (k := 182) (n := 21739) (by decide) (by decide) ?_
  refine kz_aastp C0 hw 1 161 (rfl : LDX10_35[1]? = some ((6, 8, 0, [(2, 0, 7), (2, 0, 29), (2, 0, 51), (2, 0, 73), (2, 0, 95), (2, 0, 117), (2, 0, 139)]) : FE)) (rfl : LDX10_35[161]? = some ((0, 4, 0, [(0, 0, 0), (0, -1, 0), (2, 0, 162), (2, 0, 172), (0, 1, 0), (0, 0, 0), (1, 0, 180), (1, 0, 181), (1, 0, 182)]) : FE)) rfl rfl h_q1 h_q13 (by unfold vp_in; decide) (by decide) (dkP dF_83 DX10_init (i := 34) rfl rfl) (fun H locs hw => ?_)
  have hw : SF G kc A s.heap LDX10_36 ad H locs := hw
  refine lv_iinc (v := 8) (lv' := [(1, .int 8), (0, .ref a)]) hx hb (dkI DX10_init (i := 35) rfl rfl rfl rfl) hl (k := 0) rfl (by decide) (by decide) rfl (fun ls hl => ?_)
  refine lv_goto (tgt := 51) hx hb (dkS dF_167 DX10_init (i := 36) rfl rfl rfl) (by decide) ?_
  refine lv_iload_n hx hb (dkP dF_27 DX10_init (i := 25) rfl rfl) rfl (lv_at hl 0 rfl) ?_
  refine lv_bipush (v := 8) hx hb (dks dF_16 DX10_init (i := 26) rfl rfl rfl) (by decide) ?_
  refine lv_icmp_ge (tgt := 76) hx hb (dkS dF_162 DX10_init (i := 27) rfl rfl rfl) (by decide) (fun _ => ?_) (fun h => absurd h (by decide))
  refine lv_aload_n hx hb (dkP dF_42 DX10_init (i := 37) rfl rfl) rfl (lv_at hl 1 rfl) ?_
  refine kz_g C0 hw 0 1 (1, 0, 2) (rfl : LDX10_36[0]? = some ((0, 10, 0, [(1, 0, 1), (1, 0, 2), (1, 0, 3), (1, 0, 4), (0, 0, 0), (0, 0, 0), (0, 0, 0), (1, 0, 5)]) : FE)) rfl h_a (congrArg Value.ref h_q2) fl_X10_17 (dk2 dF_180 DX10_init (i := 38) rfl rfl rfl) ?_
  refine lv_iconst (v := (-1)) hx hb (dkP dF_2 DX10_init (i := 39) rfl rfl) (by decide) ?_
  refine kz_fill (rest := []) C0 hRo 2 (rfl : LDX10_36[2]? = some ((1, 64, 0, []) : FE)) h_q2 hw (by decide) lk_X10_35 hl.1 ⟨by decide, by decide⟩ (dk2 dF_184 DX10_init (i := 40) rfl rfl rfl) ⟨by decide, by decide⟩ (Nat.le_of_ble_eq_true rfl) (fun H locs hw => ?_)
  have hw : SF G kc A s.heap LDX10_37 ad H locs := hw
  exact kz_vret C0 hr hlk hw h_a (eqF (by decide +kernel)) (dkP dF_177 DX10_init (i := 41) rfl rfl)
def LX5 : List FE := [(0, 5, 0, [(1, 0, 1), (0, 0, 0), (1, 0, 2), (1, 0, 3), (1, 0, 4), (0, 0, 0), (0, 0, 0), (0, 0, 0), (0, -1, 0), (1, 0, 5), (2, 0, 6), (2, 0, 16)]), (2, 600, 0, []), (1, 601, 0, []), (1, 601, 0, []), (1, 601, 0, []), (1, 9, 0, []), (0, 2, 0, [(0, 0, 0), (0, 0, 0), (1, 0, 7), (1, 0, 8), (1, 0, 9), (1, 0, 10), (1, 0, 11), (1, 0, 12), (1, 0, 13), (1, 0, 14)]), (1, 24, 0, []), (1, 24, 0, []), (1, 24, 0, []), (1, 24, 0, []), (1, 24, 0, []), (1, 24, 0, []), (1, 24, 0, []), (0, 8, 0, [(1, 0, 15), (0, 0, 0)]), (1, 192, 0, []), (0, 1, 0, [(0, 0, 0), (0, 0, 0), (0, 0, 0), (0, 0, 0), (1, 0, 17), (1, 0, 18), (1, 0, 19), (1, 0, 20), (1, 0, 21), (1, 0, 22)]), (1, 40, 0, []), (1, 40, 0, []), (1, 40, 0, []), (1, 40, 0, []), (1, 160, 0, []), (0, 8, 0, [(1, 0, 23), (0, 0, 0)]), (1, 1920, 0, [])]
def LDX5_1 : List FE := [(0, 5, 0, [(3, 0, 0), (0, 0, 0), (3, 0, 0), (3, 0, 0), (3, 0, 0), (0, 0, 0), (0, 0, 0), (0, 0, 0), (0, 0, 0), (3, 0, 0), (4, 0, 0), (4, 0, 0)])]
def LDX5_2 : List FE := LDX5_1 ++ [(2, 600, 0, [])]
def LDX5_3 : List FE := LDX5_2.set 0 (0, 5, 0, [(1, 0, 1), (0, 0, 0), (3, 0, 0), (3, 0, 0), (3, 0, 0), (0, 0, 0), (0, 0, 0), (0, 0, 0), (0, 0, 0), (3, 0, 0), (4, 0, 0), (4, 0, 0)])
def LDX5_4 : List FE := LDX5_3 ++ [(1, 601, 0, [])]
def LDX5_5 : List FE := LDX5_4.set 0 (0, 5, 0, [(1, 0, 1), (0, 0, 0), (1, 0, 2), (3, 0, 0), (3, 0, 0), (0, 0, 0), (0, 0, 0), (0, 0, 0), (0, 0, 0), (3, 0, 0), (4, 0, 0), (4, 0, 0)])
def LDX5_6 : List FE := LDX5_5 ++ [(1, 601, 0, [])]
def LDX5_7 : List FE := LDX5_6.set 0 (0, 5, 0, [(1, 0, 1), (0, 0, 0), (1, 0, 2), (1, 0, 3), (3, 0, 0), (0, 0, 0), (0, 0, 0), (0, 0, 0), (0, 0, 0), (3, 0, 0), (4, 0, 0), (4, 0, 0)])
def LDX5_8 : List FE := LDX5_7 ++ [(1, 601, 0, [])]
def LDX5_9 : List FE := LDX5_8.set 0 (0, 5, 0, [(1, 0, 1), (0, 0, 0), (1, 0, 2), (1, 0, 3), (1, 0, 4), (0, 0, 0), (0, 0, 0), (0, 0, 0), (0, 0, 0), (3, 0, 0), (4, 0, 0), (4, 0, 0)])
def LDX5_10 : List FE := LDX5_9.set 0 (0, 5, 0, [(1, 0, 1), (0, 0, 0), (1, 0, 2), (1, 0, 3), (1, 0, 4), (0, 0, 0), (0, 0, 0), (0, 0, 0), (0, -1, 0), (3, 0, 0), (4, 0, 0), (4, 0, 0)])
def LDX5_11 : List FE := LDX5_10 ++ [(1, 9, 0, [])]
def LDX5_12 : List FE := LDX5_11.set 0 (0, 5, 0, [(1, 0, 1), (0, 0, 0), (1, 0, 2), (1, 0, 3), (1, 0, 4), (0, 0, 0), (0, 0, 0), (0, 0, 0), (0, -1, 0), (1, 0, 5), (4, 0, 0), (4, 0, 0)])
def LDX5_13 : List FE := LDX5_12 ++ [(0, 2, 0, [(0, 0, 0), (0, 0, 0), (3, 0, 0), (3, 0, 0), (3, 0, 0), (3, 0, 0), (3, 0, 0), (3, 0, 0), (3, 0, 0), (3, 0, 0)])]
def LDX5_14 : List FE := LDX5_12 ++ shF 6 LX2
def LDX5_15 : List FE := LDX5_14.set 0 (0, 5, 0, [(1, 0, 1), (0, 0, 0), (1, 0, 2), (1, 0, 3), (1, 0, 4), (0, 0, 0), (0, 0, 0), (0, 0, 0), (0, -1, 0), (1, 0, 5), (2, 0, 6), (4, 0, 0)])
def LDX5_16 : List FE := LDX5_15 ++ [(0, 1, 0, [(0, 0, 0), (0, 0, 0), (0, 0, 0), (0, 0, 0), (3, 0, 0), (3, 0, 0), (3, 0, 0), (3, 0, 0), (3, 0, 0), (3, 0, 0)])]
def LDX5_17 : List FE := LDX5_15 ++ shF 16 LX1
def LDX5_18 : List FE := LDX5_17.set 0 (0, 5, 0, [(1, 0, 1), (0, 0, 0), (1, 0, 2), (1, 0, 3), (1, 0, 4), (0, 0, 0), (0, 0, 0), (0, 0, 0), (0, -1, 0), (1, 0, 5), (2, 0, 6), (2, 0, 16)])
set_option maxRecDepth 100000 in
set_option maxHeartbeats 4000000 in
theorem c_X5_init (l : Launch) (G : va_G) (kc : KC) : MK l G kc yX5_init cX5_init 1 3 61 23 5036 [] (0, 5, 0, [(3, 0, 0), (0, 0, 0), (3, 0, 0), (3, 0, 0), (3, 0, 0), (0, 0, 0), (0, 0, 0), (0, 0, 0), (0, 0, 0), (3, 0, 0), (4, 0, 0), (4, 0, 0)]) LX5 := by
  intro a sz
  refine k_body (y := yX5_init) (n := 1) (av := .ref a :: []) (rm := { frames := 3, cells := 23, slots := 5036, locals := 61 }) (Qc := fun A => QK G kc LX5 a A) (plainFor_of_name (by decide)) (Nat.le_of_ble_eq_true rfl) (fun pr e s m below meth c A C0 hr hlk hnm hw hRo ls hl => ?_) sz
  have hx := C0.1
  have hb := C0.2.1
  have hown := C0.2.2.2.1
  have hts := C0.2.2.2.2.1
  have h_a : (fun _ : Nat => a) 0 = a := rfl
  generalize (fun _ : Nat => a) = ad at hw h_a
  generalize hlocs : ([] : List Loc) = locs at hw ⊢
  clear hlocs
  have hl : lv_has ls 1 [(0, .ref a)] := hl
  refine lv_aload_n hx hb (dkP dF_42 DX5_init (i := 0) rfl rfl) rfl (lv_at hl 0 rfl) ?_
  refine kz_obj C0 hl.1 ol_X5_3 ob_im ob_co (by decide) (by decide) (Nat.le_of_ble_eq_true rfl) (dk2 dF_183 DX5_init (i := 1) rfl rfl rfl) ?_
  refine lv_aload_n hx hb (dkP dF_42 DX5_init (i := 2) rfl rfl) rfl (lv_at hl 0 rfl) ?_
  refine lv_sipush (v := 600) hx hb (dkS dF_17 DX5_init (i := 3) rfl rfl rfl) (by decide) ?_
  refine kz_newab C0 hw 1 600 (by decide) (by decide +kernel) ar_byte (by decide) (by decide) (by decide) (by decide) (by decide) (dkN DX5_init (i := 4) rfl rfl rfl (by decide)) (fun q1 ad H h_q1 had hw => ?_)
  have hw : SF G kc A s.heap LDX5_2 ad H locs := hw
  have h_a : ad 0 = a := (had 0 (by decide)).trans h_a
  clear had
  refine W.widen (k := 1) (n := 600) (by decide) (by decide) ?_
  refine kz_pF C0 hnm hw 0 0 (1, 0, 1) (hi := (rfl : LDX5_2[0]? = some ((0, 5, 0, [(3, 0, 0), (0, 0, 0), (3, 0, 0), (3, 0, 0), (3, 0, 0), (0, 0, 0), (0, 0, 0), (0, 0, 0), (0, 0, 0), (3, 0, 0), (4, 0, 0), (4, 0, 0)]) : FE))) (by decide) h_a (show fvV ad (1, 0, 1) = .ref q1 from congrArg Value.ref h_q1) ff_X5_11 rfl rfl (dk2 dF_181 DX5_init (i := 5) rfl rfl rfl) (fun H locs hw => ?_)
  have hw : SF G kc A s.heap LDX5_3 ad H locs := hw
  refine lv_aload_n hx hb (dkP dF_42 DX5_init (i := 6) rfl rfl) rfl (lv_at hl 0 rfl) ?_
  refine lv_sipush (v := 601) hx hb (dkS dF_17 DX5_init (i := 7) rfl rfl rfl) (by decide) ?_
  refine kz_newai C0 hw 2 601 (by decide) (by decide +kernel) ar_int (by decide) (by decide) (by decide) (by decide) (by decide) (dkN DX5_init (i := 8) rfl rfl rfl (by decide)) (fun q2 ad H h_q2 had hw => ?_)
  have hw : SF G kc A s.heap LDX5_4 ad H locs := hw
  have h_a : ad 0 = a := (had 0 (by decide)).trans h_a
  have h_q1 : ad 1 = q1 := (had 1 (by decide)).trans h_q1
  clear had
  refine W.widen (k := 2) (n := 1201) (by decide) (by decide) ?_
  refine kz_pF C0 hnm hw 0 2 (1, 0, 2) (hi := (rfl : LDX5_4[0]? = some ((0, 5, 0, [(1, 0, 1), (0, 0, 0), (3, 0, 0), (3, 0, 0), (3, 0, 0), (0, 0, 0), (0, 0, 0), (0, 0, 0), (0, 0, 0), (3, 0, 0), (4, 0, 0), (4, 0, 0)]) : FE))) (by decide) h_a (show fvV ad (1, 0, 2) = .ref q2 from congrArg Value.ref h_q2) ff_X5_15 rfl rfl (dk2 dF_181 DX5_init (i := 9) rfl rfl rfl) (fun H locs hw => ?_)
  have hw : SF G kc A s.heap LDX5_5 ad H locs := hw
  refine lv_aload_n hx hb (dkP dF_42 DX5_init (i := 10) rfl rfl) rfl (lv_at hl 0 rfl) ?_
  refine lv_sipush (v := 601) hx hb (dkS dF_17 DX5_init (i := 11) rfl rfl rfl) (by decide) ?_
  refine kz_newai C0 hw 3 601 (by decide) (by decide +kernel) ar_int (by decide) (by decide) (by decide) (by decide) (by decide) (dkN DX5_init (i := 12) rfl rfl rfl (by decide)) (fun q3 ad H h_q3 had hw => ?_)
  have hw : SF G kc A s.heap LDX5_6 ad H locs := hw
  have h_a : ad 0 = a := (had 0 (by decide)).trans h_a
  have h_q1 : ad 1 = q1 := (had 1 (by decide)).trans h_q1
  have h_q2 : ad 2 = q2 := (had 2 (by decide)).trans h_q2
  clear had
  refine W.widen (k := 3) (n := 1802) (by decide) (by decide) ?_
  refine kz_pF C0 hnm hw 0 3 (1, 0, 3) (hi := (rfl : LDX5_6[0]? = some ((0, 5, 0, [(1, 0, 1), (0, 0, 0), (1, 0, 2), (3, 0, 0), (3, 0, 0), (0, 0, 0), (0, 0, 0), (0, 0, 0), (0, 0, 0), (3, 0, 0), (4, 0, 0), (4, 0, 0)]) : FE))) (by decide) h_a (show fvV ad (1, 0, 3) = .ref q3 from congrArg Value.ref h_q3) ff_X5_19 rfl rfl (dk2 dF_181 DX5_init (i := 13) rfl rfl rfl) (fun H locs hw => ?_)
  have hw : SF G kc A s.heap LDX5_7 ad H locs := hw
  refine lv_aload_n hx hb (dkP dF_42 DX5_init (i := 14) rfl rfl) rfl (lv_at hl 0 rfl) ?_
  refine lv_sipush (v := 601) hx hb (dkS dF_17 DX5_init (i := 15) rfl rfl rfl) (by decide) ?_
  refine kz_newai C0 hw 4 601 (by decide) (by decide +kernel) ar_int (by decide) (by decide) (by decide) (by decide) (by decide) (dkN DX5_init (i := 16) rfl rfl rfl (by decide)) (fun q4 ad H h_q4 had hw => ?_)
  have hw : SF G kc A s.heap LDX5_8 ad H locs := hw
  have h_a : ad 0 = a := (had 0 (by decide)).trans h_a
  have h_q1 : ad 1 = q1 := (had 1 (by decide)).trans h_q1
  have h_q2 : ad 2 = q2 := (had 2 (by decide)).trans h_q2
  have h_q3 : ad 3 = q3 := (had 3 (by decide)).trans h_q3
  clear had
  refine W.widen (k := 4) (n := 2403) (by decide) (by decide) ?_
  refine kz_pF C0 hnm hw 0 4 (1, 0, 4) (hi := (rfl : LDX5_8[0]? = some ((0, 5, 0, [(1, 0, 1), (0, 0, 0), (1, 0, 2), (1, 0, 3), (3, 0, 0), (0, 0, 0), (0, 0, 0), (0, 0, 0), (0, 0, 0), (3, 0, 0), (4, 0, 0), (4, 0, 0)]) : FE))) (by decide) h_a (show fvV ad (1, 0, 4) = .ref q4 from congrArg Value.ref h_q4) ff_X5_22 rfl rfl (dk2 dF_181 DX5_init (i := 17) rfl rfl rfl) (fun H locs hw => ?_)
  have hw : SF G kc A s.heap LDX5_9 ad H locs := hw
  refine lv_aload_n hx hb (dkP dF_42 DX5_init (i := 18) rfl rfl) rfl (lv_at hl 0 rfl) ?_
  refine lv_iconst (v := (-1)) hx hb (dkP dF_2 DX5_init (i := 19) rfl rfl) (by decide) ?_
  refine kz_p C0 hw 0 8 (0, -1, 0) (hi := (rfl : LDX5_9[0]? = some ((0, 5, 0, [(1, 0, 1), (0, 0, 0), (1, 0, 2), (1, 0, 3), (1, 0, 4), (0, 0, 0), (0, 0, 0), (0, 0, 0), (0, 0, 0), (3, 0, 0), (4, 0, 0), (4, 0, 0)]) : FE))) (by decide) h_a rfl fp_X5_25 rfl rfl (dk2 dF_181 DX5_init (i := 20) rfl rfl rfl) (fun H locs hw => ?_)
  have hw : SF G kc A s.heap LDX5_10 ad H locs := hw
  refine lv_aload_n hx hb (dkP dF_42 DX5_init (i := 21) rfl rfl) rfl (lv_at hl 0 rfl) ?_
  refine lv_bipush (v := 9) hx hb (dks dF_16 DX5_init (i := 22) rfl rfl rfl) (by decide) ?_
  refine kz_newai C0 hw 5 9 (by decide) (by decide +kernel) ar_int (by decide) (by decide) (by decide) (by decide) (by decide) (dkN DX5_init (i := 23) rfl rfl rfl (by decide)) (fun q5 ad H h_q5 had hw => ?_)
  have hw : SF G kc A s.heap LDX5_11 ad H locs := hw
  have h_a : ad 0 = a := (had 0 (by decide)).trans h_a
  have h_q1 : ad 1 = q1 := (had 1 (by decide)).trans h_q1
  have h_q2 : ad 2 = q2 := (had 2 (by decide)).trans h_q2
  have h_q3 : ad 3 = q3 := (had 3 (by decide)).trans h_q3
  have h_q4 : ad 4 = q4 := (had 4 (by decide)).trans h_q4
  clear had
  refine W.widen (k := 5) (n := 2412) (by decide) (by decide) ?_
  refine kz_pF C0 hnm hw 0 9 (1, 0, 5) (hi := (rfl : LDX5_11[0]? = some ((0, 5, 0, [(1, 0, 1), (0, 0, 0), (1, 0, 2), (1, 0, 3), (1, 0, 4), (0, 0, 0), (0, 0, 0), (0, 0, 0), (0, -1, 0), (3, 0, 0), (4, 0, 0), (4, 0, 0)]) : FE))) (by decide) h_a (show fvV ad (1, 0, 5) = .ref q5 from congrArg Value.ref h_q5) ff_X5_29 rfl rfl (dk2 dF_181 DX5_init (i := 24) rfl rfl rfl) (fun H locs hw => ?_)
  have hw : SF G kc A s.heap LDX5_12 ad H locs := hw
  refine lv_aload_n hx hb (dkP dF_42 DX5_init (i := 25) rfl rfl) rfl (lv_at hl 0 rfl) ?_
  refine kz_new C0 hw 6 (by decide) (by decide +kernel) nw_X5_32 (by decide) (by decide) (dk2 dF_187 DX5_init (i := 26) rfl rfl rfl) (fun q6 ad H h_q6 had hw => ?_)
  have hw : SF G kc A s.heap (LDX5_12 ++ [(0, 2, 0, [(0, 0, 0), (0, 0, 0), (3, 0, 0), (3, 0, 0), (3, 0, 0), (3, 0, 0), (3, 0, 0), (3, 0, 0), (3, 0, 0), (3, 0, 0)])]) ad H locs := hw
  have h_a : ad 0 = a := (had 0 (by decide)).trans h_a
  have h_q1 : ad 1 = q1 := (had 1 (by decide)).trans h_q1
  have h_q2 : ad 2 = q2 := (had 2 (by decide)).trans h_q2
  have h_q3 : ad 3 = q3 := (had 3 (by decide)).trans h_q3
  have h_q4 : ad 4 = q4 := (had 4 (by decide)).trans h_q4
  have h_q5 : ad 5 = q5 := (had 5 (by decide)).trans h_q5
  clear had
  refine W.widen (k := 6) (n := 2422) (by decide) (by decide) ?_
  refine lv_dup hx hb (dkP dF_89 DX5_init (i := 27) rfl rfl) rfl ?_
  refine kz_call (vs := []) (rest := [.ref q6, .ref a]) C0 hRo (c_X2_init l G kc) 6 hw (by decide) (by decide +kernel) (fun _ _ => rfl) h_q6 ci_X2_init lk_X5_34 rfl hl.1 rfl ⟨by decide, by decide⟩ (Nat.le_of_ble_eq_true rfl) (dk2 dF_183 DX5_init (i := 28) rfl rfl rfl) ⟨by decide, by decide⟩ (fun ad H locs h_q6 had hw => ?_)
  have hw : SF G kc A s.heap LDX5_14 ad H locs := hw
  have h_a : ad 0 = a := (had 0 (by decide)).trans h_a
  have h_q1 : ad 1 = q1 := (had 1 (by decide)).trans h_q1
  have h_q2 : ad 2 = q2 := (had 2 (by decide)).trans h_q2
  have h_q3 : ad 3 = q3 := (had 3 (by decide)).trans h_q3
  have h_q4 : ad 4 = q4 := (had 4 (by decide)).trans h_q4
  have h_q5 : ad 5 = q5 := (had 5 (by decide)).trans h_q5
  clear had
  refine W.widen (k := 15) (n := 2784) (by decide) (by decide) ?_
  refine kz_p C0 hw 0 10 (2, 0, 6) (hi := (rfl : LDX5_14[0]? = some ((0, 5, 0, [(1, 0, 1), (0, 0, 0), (1, 0, 2), (1, 0, 3), (1, 0, 4), (0, 0, 0), (0, 0, 0), (0, 0, 0), (0, -1, 0), (1, 0, 5), (4, 0, 0), (4, 0, 0)]) : FE))) (by decide) h_a (show fvV ad (2, 0, 6) = .ref q6 from congrArg Value.ref h_q6) fp_X5_35 rfl rfl (dk2 dF_181 DX5_init (i := 29) rfl rfl rfl) (fun H locs hw => ?_)
  have hw : SF G kc A s.heap LDX5_15 ad H locs := hw
  refine lv_aload_n hx hb (dkP dF_42 DX5_init (i := 30) rfl rfl) rfl (lv_at hl 0 rfl) ?_
  refine kz_new C0 hw 16 (by decide) (by decide +kernel) nw_X5_39 (by decide) (by decide) (dk2 dF_187 DX5_init (i := 31) rfl rfl rfl) (fun q7 ad H h_q7 had hw => ?_)
  have hw : SF G kc A s.heap (LDX5_15 ++ [(0, 1, 0, [(0, 0, 0), (0, 0, 0), (0, 0, 0), (0, 0, 0), (3, 0, 0), (3, 0, 0), (3, 0, 0), (3, 0, 0), (3, 0, 0), (3, 0, 0)])]) ad H locs := hw
  have h_a : ad 0 = a := (had 0 (by decide)).trans h_a
  have h_q1 : ad 1 = q1 := (had 1 (by decide)).trans h_q1
  have h_q2 : ad 2 = q2 := (had 2 (by decide)).trans h_q2
  have h_q3 : ad 3 = q3 := (had 3 (by decide)).trans h_q3
  have h_q4 : ad 4 = q4 := (had 4 (by decide)).trans h_q4
  have h_q5 : ad 5 = q5 := (had 5 (by decide)).trans h_q5
  have h_q6 : ad 6 = q6 := (had 6 (by decide)).trans h_q6
  clear had
  refine W.widen (k := 16) (n := 2794) (by decide) (by decide) ?_
  refine lv_dup hx hb (dkP dF_89 DX5_init (i := 32) rfl rfl) rfl ?_
  refine kz_call (vs := []) (rest := [.ref q7, .ref a]) C0 hRo (c_X1_init l G kc) 16 hw (by decide) (by decide +kernel) (fun _ _ => rfl) h_q7 ci_X1_init lk_X5_41 rfl hl.1 rfl ⟨by decide, by decide⟩ (Nat.le_of_ble_eq_true rfl) (dk2 dF_183 DX5_init (i := 33) rfl rfl rfl) ⟨by decide, by decide⟩ (fun ad H locs h_q7 had hw => ?_)
  have hw : SF G kc A s.heap LDX5_17 ad H locs := hw
  have h_a : ad 0 = a := (had 0 (by decide)).trans h_a
  have h_q1 : ad 1 = q1 := (had 1 (by decide)).trans h_q1
  have h_q2 : ad 2 = q2 := (had 2 (by decide)).trans h_q2
  have h_q3 : ad 3 = q3 := (had 3 (by decide)).trans h_q3
  have h_q4 : ad 4 = q4 := (had 4 (by decide)).trans h_q4
  have h_q5 : ad 5 = q5 := (had 5 (by decide)).trans h_q5
  have h_q6 : ad 6 = q6 := (had 6 (by decide)).trans h_q6
  clear had
  refine W.widen (k := 23) (n := 5036) (by decide) (by decide) ?_
  refine kz_p C0 hw 0 11 (2, 0, 16) (hi := (rfl : LDX5_17[0]? = some ((0, 5, 0, [(1, 0, 1), (0, 0, 0), (1, 0, 2), (1, 0, 3), (1, 0, 4), (0, 0, 0), (0, 0, 0), (0, 0, 0), (0, -1, 0), (1, 0, 5), (2, 0, 6), (4, 0, 0)]) : FE))) (by decide) h_a (show fvV ad (2, 0, 16) = .ref q7 from congrArg Value.ref h_q7) fp_X5_42 rfl rfl (dk2 dF_181 DX5_init (i := 34) rfl rfl rfl) (fun H locs hw => ?_)
  have hw : SF G kc A s.heap LDX5_18 ad H locs := hw
  exact kz_vret C0 hr hlk hw h_a (eqF (by decide +kernel)) (dkP dF_177 DX5_init (i := 35) rfl rfl)
def LX0 : List FE := [(0, 0, 0, [(1, 0, 1), (1, 0, 2), (1, 0, 3), (1, 0, 4), (0, 0, 0), (0, 0, 0), (0, 0, 0), (0, 0, 0), (0, 0, 0)]), (1, 8, 0, []), (1, 8, 0, []), (2, 100, 0, []), (1, 4, 0, [])]
def LDX0_1 : List FE := [(0, 0, 0, [(3, 0, 0), (3, 0, 0), (3, 0, 0), (3, 0, 0), (0, 0, 0), (0, 0, 0), (0, 0, 0), (0, 0, 0), (0, 0, 0)])]
def LDX0_2 : List FE := LDX0_1 ++ [(1, 8, 0, [])]
def LDX0_3 : List FE := LDX0_2.set 0 (0, 0, 0, [(1, 0, 1), (3, 0, 0), (3, 0, 0), (3, 0, 0), (0, 0, 0), (0, 0, 0), (0, 0, 0), (0, 0, 0), (0, 0, 0)])
def LDX0_4 : List FE := LDX0_3 ++ [(1, 8, 0, [])]
def LDX0_5 : List FE := LDX0_4.set 0 (0, 0, 0, [(1, 0, 1), (1, 0, 2), (3, 0, 0), (3, 0, 0), (0, 0, 0), (0, 0, 0), (0, 0, 0), (0, 0, 0), (0, 0, 0)])
def LDX0_6 : List FE := LDX0_5 ++ [(2, 100, 0, [])]
def LDX0_7 : List FE := LDX0_6.set 0 (0, 0, 0, [(1, 0, 1), (1, 0, 2), (1, 0, 3), (3, 0, 0), (0, 0, 0), (0, 0, 0), (0, 0, 0), (0, 0, 0), (0, 0, 0)])
def LDX0_8 : List FE := LDX0_7 ++ [(1, 4, 0, [])]
def LDX0_9 : List FE := LDX0_8.set 0 (0, 0, 0, [(1, 0, 1), (1, 0, 2), (1, 0, 3), (1, 0, 4), (0, 0, 0), (0, 0, 0), (0, 0, 0), (0, 0, 0), (0, 0, 0)])
set_option maxRecDepth 100000 in
set_option maxHeartbeats 4000000 in
theorem c_X0_init (l : Launch) (G : va_G) (kc : KC) : MK l G kc yX0_init cX0_init 1 1 20 4 120 [] (0, 0, 0, [(3, 0, 0), (3, 0, 0), (3, 0, 0), (3, 0, 0), (0, 0, 0), (0, 0, 0), (0, 0, 0), (0, 0, 0), (0, 0, 0)]) LX0 := by
  intro a sz
  refine k_body (y := yX0_init) (n := 1) (av := .ref a :: []) (rm := { frames := 1, cells := 4, slots := 120, locals := 20 }) (Qc := fun A => QK G kc LX0 a A) (plainFor_of_name (by decide)) (Nat.le_of_ble_eq_true rfl) (fun pr e s m below meth c A C0 hr hlk hnm hw hRo ls hl => ?_) sz
  have hx := C0.1
  have hb := C0.2.1
  have hown := C0.2.2.2.1
  have hts := C0.2.2.2.2.1
  have h_a : (fun _ : Nat => a) 0 = a := rfl
  generalize (fun _ : Nat => a) = ad at hw h_a
  generalize hlocs : ([] : List Loc) = locs at hw ⊢
  clear hlocs
  have hl : lv_has ls 1 [(0, .ref a)] := hl
  refine lv_aload_n hx hb (dkP dF_42 DX0_init (i := 0) rfl rfl) rfl (lv_at hl 0 rfl) ?_
  refine kz_obj C0 hl.1 ol_X0_3 ob_im ob_co (by decide) (by decide) (Nat.le_of_ble_eq_true rfl) (dk2 dF_183 DX0_init (i := 1) rfl rfl rfl) ?_
  refine lv_aload_n hx hb (dkP dF_42 DX0_init (i := 2) rfl rfl) rfl (lv_at hl 0 rfl) ?_
  refine lv_bipush (v := 8) hx hb (dks dF_16 DX0_init (i := 3) rfl rfl rfl) (by decide) ?_
  refine kz_newai C0 hw 1 8 (by decide) (by decide +kernel) ar_int (by decide) (by decide) (by decide) (by decide) (by decide) (dkN DX0_init (i := 4) rfl rfl rfl (by decide)) (fun q1 ad H h_q1 had hw => ?_)
  have hw : SF G kc A s.heap LDX0_2 ad H locs := hw
  have h_a : ad 0 = a := (had 0 (by decide)).trans h_a
  clear had
  refine W.widen (k := 1) (n := 8) (by decide) (by decide) ?_
  refine kz_pF C0 hnm hw 0 0 (1, 0, 1) (hi := (rfl : LDX0_2[0]? = some ((0, 0, 0, [(3, 0, 0), (3, 0, 0), (3, 0, 0), (3, 0, 0), (0, 0, 0), (0, 0, 0), (0, 0, 0), (0, 0, 0), (0, 0, 0)]) : FE))) (by decide) h_a (show fvV ad (1, 0, 1) = .ref q1 from congrArg Value.ref h_q1) ff_X0_9 rfl rfl (dk2 dF_181 DX0_init (i := 5) rfl rfl rfl) (fun H locs hw => ?_)
  have hw : SF G kc A s.heap LDX0_3 ad H locs := hw
  refine lv_aload_n hx hb (dkP dF_42 DX0_init (i := 6) rfl rfl) rfl (lv_at hl 0 rfl) ?_
  refine lv_bipush (v := 8) hx hb (dks dF_16 DX0_init (i := 7) rfl rfl rfl) (by decide) ?_
  refine kz_newai C0 hw 2 8 (by decide) (by decide +kernel) ar_int (by decide) (by decide) (by decide) (by decide) (by decide) (dkN DX0_init (i := 8) rfl rfl rfl (by decide)) (fun q2 ad H h_q2 had hw => ?_)
  have hw : SF G kc A s.heap LDX0_4 ad H locs := hw
  have h_a : ad 0 = a := (had 0 (by decide)).trans h_a
  have h_q1 : ad 1 = q1 := (had 1 (by decide)).trans h_q1
  clear had
  refine W.widen (k := 2) (n := 16) (by decide) (by decide) ?_
  refine kz_pF C0 hnm hw 0 1 (1, 0, 2) (hi := (rfl : LDX0_4[0]? = some ((0, 0, 0, [(1, 0, 1), (3, 0, 0), (3, 0, 0), (3, 0, 0), (0, 0, 0), (0, 0, 0), (0, 0, 0), (0, 0, 0), (0, 0, 0)]) : FE))) (by decide) h_a (show fvV ad (1, 0, 2) = .ref q2 from congrArg Value.ref h_q2) ff_X0_15 rfl rfl (dk2 dF_181 DX0_init (i := 9) rfl rfl rfl) (fun H locs hw => ?_)
  have hw : SF G kc A s.heap LDX0_5 ad H locs := hw
  refine lv_aload_n hx hb (dkP dF_42 DX0_init (i := 10) rfl rfl) rfl (lv_at hl 0 rfl) ?_
  refine lv_bipush (v := 100) hx hb (dks dF_16 DX0_init (i := 11) rfl rfl rfl) (by decide) ?_
  refine kz_newab C0 hw 3 100 (by decide) (by decide +kernel) ar_byte (by decide) (by decide) (by decide) (by decide) (by decide) (dkN DX0_init (i := 12) rfl rfl rfl (by decide)) (fun q3 ad H h_q3 had hw => ?_)
  have hw : SF G kc A s.heap LDX0_6 ad H locs := hw
  have h_a : ad 0 = a := (had 0 (by decide)).trans h_a
  have h_q1 : ad 1 = q1 := (had 1 (by decide)).trans h_q1
  have h_q2 : ad 2 = q2 := (had 2 (by decide)).trans h_q2
  clear had
  refine W.widen (k := 3) (n := 116) (by decide) (by decide) ?_
  refine kz_pF C0 hnm hw 0 2 (1, 0, 3) (hi := (rfl : LDX0_6[0]? = some ((0, 0, 0, [(1, 0, 1), (1, 0, 2), (3, 0, 0), (3, 0, 0), (0, 0, 0), (0, 0, 0), (0, 0, 0), (0, 0, 0), (0, 0, 0)]) : FE))) (by decide) h_a (show fvV ad (1, 0, 3) = .ref q3 from congrArg Value.ref h_q3) ff_X0_18 rfl rfl (dk2 dF_181 DX0_init (i := 13) rfl rfl rfl) (fun H locs hw => ?_)
  have hw : SF G kc A s.heap LDX0_7 ad H locs := hw
  refine lv_aload_n hx hb (dkP dF_42 DX0_init (i := 14) rfl rfl) rfl (lv_at hl 0 rfl) ?_
  refine lv_iconst (v := 4) hx hb (dkP dF_7 DX0_init (i := 15) rfl rfl) (by decide) ?_
  refine kz_newai C0 hw 4 4 (by decide) (by decide +kernel) ar_int (by decide) (by decide) (by decide) (by decide) (by decide) (dkN DX0_init (i := 16) rfl rfl rfl (by decide)) (fun q4 ad H h_q4 had hw => ?_)
  have hw : SF G kc A s.heap LDX0_8 ad H locs := hw
  have h_a : ad 0 = a := (had 0 (by decide)).trans h_a
  have h_q1 : ad 1 = q1 := (had 1 (by decide)).trans h_q1
  have h_q2 : ad 2 = q2 := (had 2 (by decide)).trans h_q2
  have h_q3 : ad 3 = q3 := (had 3 (by decide)).trans h_q3
  clear had
  refine W.widen (k := 4) (n := 120) (by decide) (by decide) ?_
  refine kz_pF C0 hnm hw 0 3 (1, 0, 4) (hi := (rfl : LDX0_8[0]? = some ((0, 0, 0, [(1, 0, 1), (1, 0, 2), (1, 0, 3), (3, 0, 0), (0, 0, 0), (0, 0, 0), (0, 0, 0), (0, 0, 0), (0, 0, 0)]) : FE))) (by decide) h_a (show fvV ad (1, 0, 4) = .ref q4 from congrArg Value.ref h_q4) ff_X0_24 rfl rfl (dk2 dF_181 DX0_init (i := 17) rfl rfl rfl) (fun H locs hw => ?_)
  have hw : SF G kc A s.heap LDX0_9 ad H locs := hw
  exact kz_vret C0 hr hlk hw h_a (eqF (by decide +kernel)) (dkP dF_177 DX0_init (i := 18) rfl rfl)
def LX3 : List FE := [(0, 3, 0, [(1, 0, 1), (1, 0, 2), (0, 0, 0)]), (1, 256, 0, []), (1, 8, 0, [])]
def LDX3_1 : List FE := [(0, 3, 0, [(3, 0, 0), (3, 0, 0), (0, 0, 0)])]
def LDX3_2 : List FE := LDX3_1 ++ [(1, 256, 0, [])]
def LDX3_3 : List FE := LDX3_2.set 0 (0, 3, 0, [(1, 0, 1), (3, 0, 0), (0, 0, 0)])
def LDX3_4 : List FE := LDX3_3 ++ [(1, 8, 0, [])]
def LDX3_5 : List FE := LDX3_4.set 0 (0, 3, 0, [(1, 0, 1), (1, 0, 2), (0, 0, 0)])
set_option maxRecDepth 100000 in
set_option maxHeartbeats 4000000 in
theorem c_X3_init (l : Launch) (G : va_G) (kc : KC) : MK l G kc yX3_init cX3_init 1 1 20 2 264 [] (0, 3, 0, [(3, 0, 0), (3, 0, 0), (0, 0, 0)]) LX3 := by
  intro a sz
  refine k_body (y := yX3_init) (n := 1) (av := .ref a :: []) (rm := { frames := 1, cells := 2, slots := 264, locals := 20 }) (Qc := fun A => QK G kc LX3 a A) (plainFor_of_name (by decide)) (Nat.le_of_ble_eq_true rfl) (fun pr e s m below meth c A C0 hr hlk hnm hw hRo ls hl => ?_) sz
  have hx := C0.1
  have hb := C0.2.1
  have hown := C0.2.2.2.1
  have hts := C0.2.2.2.2.1
  have h_a : (fun _ : Nat => a) 0 = a := rfl
  generalize (fun _ : Nat => a) = ad at hw h_a
  generalize hlocs : ([] : List Loc) = locs at hw ⊢
  clear hlocs
  have hl : lv_has ls 1 [(0, .ref a)] := hl
  refine lv_aload_n hx hb (dkP dF_42 DX3_init (i := 0) rfl rfl) rfl (lv_at hl 0 rfl) ?_
  refine kz_obj C0 hl.1 ol_X3_3 ob_im ob_co (by decide) (by decide) (Nat.le_of_ble_eq_true rfl) (dk2 dF_183 DX3_init (i := 1) rfl rfl rfl) ?_
  refine lv_aload_n hx hb (dkP dF_42 DX3_init (i := 2) rfl rfl) rfl (lv_at hl 0 rfl) ?_
  refine lv_sipush (v := 256) hx hb (dkS dF_17 DX3_init (i := 3) rfl rfl rfl) (by decide) ?_
  refine kz_newai C0 hw 1 256 (by decide) (by decide +kernel) ar_int (by decide) (by decide) (by decide) (by decide) (by decide) (dkN DX3_init (i := 4) rfl rfl rfl (by decide)) (fun q1 ad H h_q1 had hw => ?_)
  have hw : SF G kc A s.heap LDX3_2 ad H locs := hw
  have h_a : ad 0 = a := (had 0 (by decide)).trans h_a
  clear had
  refine W.widen (k := 1) (n := 256) (by decide) (by decide) ?_
  refine kz_pF C0 hnm hw 0 0 (1, 0, 1) (hi := (rfl : LDX3_2[0]? = some ((0, 3, 0, [(3, 0, 0), (3, 0, 0), (0, 0, 0)]) : FE))) (by decide) h_a (show fvV ad (1, 0, 1) = .ref q1 from congrArg Value.ref h_q1) ff_X3_9 rfl rfl (dk2 dF_181 DX3_init (i := 5) rfl rfl rfl) (fun H locs hw => ?_)
  have hw : SF G kc A s.heap LDX3_3 ad H locs := hw
  refine lv_aload_n hx hb (dkP dF_42 DX3_init (i := 6) rfl rfl) rfl (lv_at hl 0 rfl) ?_
  refine lv_bipush (v := 8) hx hb (dks dF_16 DX3_init (i := 7) rfl rfl rfl) (by decide) ?_
  refine kz_newai C0 hw 2 8 (by decide) (by decide +kernel) ar_int (by decide) (by decide) (by decide) (by decide) (by decide) (dkN DX3_init (i := 8) rfl rfl rfl (by decide)) (fun q2 ad H h_q2 had hw => ?_)
  have hw : SF G kc A s.heap LDX3_4 ad H locs := hw
  have h_a : ad 0 = a := (had 0 (by decide)).trans h_a
  have h_q1 : ad 1 = q1 := (had 1 (by decide)).trans h_q1
  clear had
  refine W.widen (k := 2) (n := 264) (by decide) (by decide) ?_
  refine kz_pF C0 hnm hw 0 1 (1, 0, 2) (hi := (rfl : LDX3_4[0]? = some ((0, 3, 0, [(1, 0, 1), (3, 0, 0), (0, 0, 0)]) : FE))) (by decide) h_a (show fvV ad (1, 0, 2) = .ref q2 from congrArg Value.ref h_q2) ff_X3_15 rfl rfl (dk2 dF_181 DX3_init (i := 9) rfl rfl rfl) (fun H locs hw => ?_)
  have hw : SF G kc A s.heap LDX3_5 ad H locs := hw
  exact kz_vret C0 hr hlk hw h_a (eqF (by decide +kernel)) (dkP dF_177 DX3_init (i := 10) rfl rfl)
def LX7 : List FE := [(0, 7, 0, [(1, 0, 1), (1, 0, 2), (1, 0, 3)]), (4, 240, 0, []), (1, 4, -1, []), (1, 4, 0, [])]
def LDX7_1 : List FE := [(0, 7, 0, [(3, 0, 0), (3, 0, 0), (3, 0, 0)])]
def LDX7_2 : List FE := LDX7_1 ++ [(4, 240, 0, [])]
def LDX7_3 : List FE := LDX7_2.set 0 (0, 7, 0, [(1, 0, 1), (3, 0, 0), (3, 0, 0)])
def LDX7_4 : List FE := LDX7_3 ++ [(1, 4, 0, [])]
def LDX7_5 : List FE := LDX7_4.set 0 (0, 7, 0, [(1, 0, 1), (1, 0, 2), (3, 0, 0)])
def LDX7_6 : List FE := LDX7_5 ++ [(1, 4, 0, [])]
def LDX7_7 : List FE := LDX7_6.set 0 (0, 7, 0, [(1, 0, 1), (1, 0, 2), (1, 0, 3)])
def LDX7_8 : List FE := LDX7_7.set 2 (1, 4, -1, [])
set_option maxRecDepth 100000 in
set_option maxHeartbeats 4000000 in
theorem c_X7_init (l : Launch) (G : va_G) (kc : KC) : MK l G kc yX7_init cX7_init 1 1 23 3 248 [] (0, 7, 0, [(3, 0, 0), (3, 0, 0), (3, 0, 0)]) LX7 := by
  intro a sz
  refine k_body (y := yX7_init) (n := 1) (av := .ref a :: []) (rm := { frames := 1, cells := 3, slots := 248, locals := 23 }) (Qc := fun A => QK G kc LX7 a A) (plainFor_of_name (by decide)) (Nat.le_of_ble_eq_true rfl) (fun pr e s m below meth c A C0 hr hlk hnm hw hRo ls hl => ?_) sz
  have hx := C0.1
  have hb := C0.2.1
  have hown := C0.2.2.2.1
  have hts := C0.2.2.2.2.1
  have h_a : (fun _ : Nat => a) 0 = a := rfl
  generalize (fun _ : Nat => a) = ad at hw h_a
  generalize hlocs : ([] : List Loc) = locs at hw ⊢
  clear hlocs
  have hl : lv_has ls 1 [(0, .ref a)] := hl
  refine lv_aload_n hx hb (dkP dF_42 DX7_init (i := 0) rfl rfl) rfl (lv_at hl 0 rfl) ?_
  refine kz_obj C0 hl.1 ol_X7_3 ob_im ob_co (by decide) (by decide) (Nat.le_of_ble_eq_true rfl) (dk2 dF_183 DX7_init (i := 1) rfl rfl rfl) ?_
  refine lv_aload_n hx hb (dkP dF_42 DX7_init (i := 2) rfl rfl) rfl (lv_at hl 0 rfl) ?_
  refine lv_sipush (v := 240) hx hb (dkS dF_17 DX7_init (i := 3) rfl rfl rfl) (by decide) ?_
  refine kz_newal C0 hw 1 240 (by decide) (by decide +kernel) ar_long (by decide) (by decide) (by decide) (by decide) (by decide) (dkN DX7_init (i := 4) rfl rfl rfl (by decide)) (fun q1 ad H h_q1 had hw => ?_)
  have hw : SF G kc A s.heap LDX7_2 ad H locs := hw
  have h_a : ad 0 = a := (had 0 (by decide)).trans h_a
  clear had
  refine W.widen (k := 1) (n := 240) (by decide) (by decide) ?_
  refine kz_pF C0 hnm hw 0 0 (1, 0, 1) (hi := (rfl : LDX7_2[0]? = some ((0, 7, 0, [(3, 0, 0), (3, 0, 0), (3, 0, 0)]) : FE))) (by decide) h_a (show fvV ad (1, 0, 1) = .ref q1 from congrArg Value.ref h_q1) ff_X7_11 rfl rfl (dk2 dF_181 DX7_init (i := 5) rfl rfl rfl) (fun H locs hw => ?_)
  have hw : SF G kc A s.heap LDX7_3 ad H locs := hw
  refine lv_aload_n hx hb (dkP dF_42 DX7_init (i := 6) rfl rfl) rfl (lv_at hl 0 rfl) ?_
  refine lv_iconst (v := 4) hx hb (dkP dF_7 DX7_init (i := 7) rfl rfl) (by decide) ?_
  refine kz_newai C0 hw 2 4 (by decide) (by decide +kernel) ar_int (by decide) (by decide) (by decide) (by decide) (by decide) (dkN DX7_init (i := 8) rfl rfl rfl (by decide)) (fun q2 ad H h_q2 had hw => ?_)
  have hw : SF G kc A s.heap LDX7_4 ad H locs := hw
  have h_a : ad 0 = a := (had 0 (by decide)).trans h_a
  have h_q1 : ad 1 = q1 := (had 1 (by decide)).trans h_q1
  clear had
  refine W.widen (k := 2) (n := 244) (by decide) (by decide) ?_
  refine kz_pF C0 hnm hw 0 1 (1, 0, 2) (hi := (rfl : LDX7_4[0]? = some ((0, 7, 0, [(1, 0, 1), (3, 0, 0), (3, 0, 0)]) : FE))) (by decide) h_a (show fvV ad (1, 0, 2) = .ref q2 from congrArg Value.ref h_q2) ff_X7_15 rfl rfl (dk2 dF_181 DX7_init (i := 9) rfl rfl rfl) (fun H locs hw => ?_)
  have hw : SF G kc A s.heap LDX7_5 ad H locs := hw
  refine lv_aload_n hx hb (dkP dF_42 DX7_init (i := 10) rfl rfl) rfl (lv_at hl 0 rfl) ?_
  refine lv_iconst (v := 4) hx hb (dkP dF_7 DX7_init (i := 11) rfl rfl) (by decide) ?_
  refine kz_newai C0 hw 3 4 (by decide) (by decide +kernel) ar_int (by decide) (by decide) (by decide) (by decide) (by decide) (dkN DX7_init (i := 12) rfl rfl rfl (by decide)) (fun q3 ad H h_q3 had hw => ?_)
  have hw : SF G kc A s.heap LDX7_6 ad H locs := hw
  have h_a : ad 0 = a := (had 0 (by decide)).trans h_a
  have h_q1 : ad 1 = q1 := (had 1 (by decide)).trans h_q1
  have h_q2 : ad 2 = q2 := (had 2 (by decide)).trans h_q2
  clear had
  refine W.widen (k := 3) (n := 248) (by decide) (by decide) ?_
  refine kz_pF C0 hnm hw 0 2 (1, 0, 3) (hi := (rfl : LDX7_6[0]? = some ((0, 7, 0, [(1, 0, 1), (1, 0, 2), (3, 0, 0)]) : FE))) (by decide) h_a (show fvV ad (1, 0, 3) = .ref q3 from congrArg Value.ref h_q3) ff_X7_19 rfl rfl (dk2 dF_181 DX7_init (i := 13) rfl rfl rfl) (fun H locs hw => ?_)
  have hw : SF G kc A s.heap LDX7_7 ad H locs := hw
  refine lv_aload_n hx hb (dkP dF_42 DX7_init (i := 14) rfl rfl) rfl (lv_at hl 0 rfl) ?_
  refine kz_g C0 hw 0 1 (1, 0, 2) (rfl : LDX7_7[0]? = some ((0, 7, 0, [(1, 0, 1), (1, 0, 2), (1, 0, 3)]) : FE)) rfl h_a (congrArg Value.ref h_q2) fl_X7_15 (dk2 dF_180 DX7_init (i := 15) rfl rfl rfl) ?_
  refine lv_iconst (v := (-1)) hx hb (dkP dF_2 DX7_init (i := 16) rfl rfl) (by decide) ?_
  refine kz_fill (rest := []) C0 hRo 2 (rfl : LDX7_7[2]? = some ((1, 4, 0, []) : FE)) h_q2 hw (by decide) lk_X7_22 hl.1 ⟨by decide, by decide⟩ (dk2 dF_184 DX7_init (i := 17) rfl rfl rfl) ⟨by decide, by decide⟩ (Nat.le_of_ble_eq_true rfl) (fun H locs hw => ?_)
  have hw : SF G kc A s.heap LDX7_8 ad H locs := hw
  exact kz_vret C0 hr hlk hw h_a (eqF (by decide +kernel)) (dkP dF_177 DX7_init (i := 18) rfl rfl)
def LX9 : List FE := [(0, 9, 0, [(0, 0, 0), (0, 0, 0), (0, 0, 0), (1, 0, 1), (1, 0, 2), (1, 0, 3), (1, 0, 4), (1, 0, 5), (1, 0, 6), (1, 0, 7), (1, 0, 8), (1, 0, 9), (1, 0, 10)]), (1, 200, 0, []), (1, 200, 0, []), (1, 200, 0, []), (1, 200, 0, []), (1, 200, 0, []), (2, 20000, 0, []), (1, 24, 0, []), (1, 6400, 0, []), (1, 32, 0, []), (1, 4, 0, [])]
def LDX9_1 : List FE := [(0, 9, 0, [(0, 0, 0), (0, 0, 0), (0, 0, 0), (3, 0, 0), (3, 0, 0), (3, 0, 0), (3, 0, 0), (3, 0, 0), (3, 0, 0), (3, 0, 0), (3, 0, 0), (3, 0, 0), (3, 0, 0)])]
def LDX9_2 : List FE := LDX9_1 ++ [(1, 200, 0, [])]
def LDX9_3 : List FE := LDX9_2.set 0 (0, 9, 0, [(0, 0, 0), (0, 0, 0), (0, 0, 0), (1, 0, 1), (3, 0, 0), (3, 0, 0), (3, 0, 0), (3, 0, 0), (3, 0, 0), (3, 0, 0), (3, 0, 0), (3, 0, 0), (3, 0, 0)])
def LDX9_4 : List FE := LDX9_3 ++ [(1, 200, 0, [])]
def LDX9_5 : List FE := LDX9_4.set 0 (0, 9, 0, [(0, 0, 0), (0, 0, 0), (0, 0, 0), (1, 0, 1), (1, 0, 2), (3, 0, 0), (3, 0, 0), (3, 0, 0), (3, 0, 0), (3, 0, 0), (3, 0, 0), (3, 0, 0), (3, 0, 0)])
def LDX9_6 : List FE := LDX9_5 ++ [(1, 200, 0, [])]
def LDX9_7 : List FE := LDX9_6.set 0 (0, 9, 0, [(0, 0, 0), (0, 0, 0), (0, 0, 0), (1, 0, 1), (1, 0, 2), (1, 0, 3), (3, 0, 0), (3, 0, 0), (3, 0, 0), (3, 0, 0), (3, 0, 0), (3, 0, 0), (3, 0, 0)])
def LDX9_8 : List FE := LDX9_7 ++ [(1, 200, 0, [])]
def LDX9_9 : List FE := LDX9_8.set 0 (0, 9, 0, [(0, 0, 0), (0, 0, 0), (0, 0, 0), (1, 0, 1), (1, 0, 2), (1, 0, 3), (1, 0, 4), (3, 0, 0), (3, 0, 0), (3, 0, 0), (3, 0, 0), (3, 0, 0), (3, 0, 0)])
def LDX9_10 : List FE := LDX9_9 ++ [(1, 200, 0, [])]
def LDX9_11 : List FE := LDX9_10.set 0 (0, 9, 0, [(0, 0, 0), (0, 0, 0), (0, 0, 0), (1, 0, 1), (1, 0, 2), (1, 0, 3), (1, 0, 4), (1, 0, 5), (3, 0, 0), (3, 0, 0), (3, 0, 0), (3, 0, 0), (3, 0, 0)])
def LDX9_12 : List FE := LDX9_11 ++ [(2, 20000, 0, [])]
def LDX9_13 : List FE := LDX9_12.set 0 (0, 9, 0, [(0, 0, 0), (0, 0, 0), (0, 0, 0), (1, 0, 1), (1, 0, 2), (1, 0, 3), (1, 0, 4), (1, 0, 5), (1, 0, 6), (3, 0, 0), (3, 0, 0), (3, 0, 0), (3, 0, 0)])
def LDX9_14 : List FE := LDX9_13 ++ [(1, 24, 0, [])]
def LDX9_15 : List FE := LDX9_14.set 0 (0, 9, 0, [(0, 0, 0), (0, 0, 0), (0, 0, 0), (1, 0, 1), (1, 0, 2), (1, 0, 3), (1, 0, 4), (1, 0, 5), (1, 0, 6), (1, 0, 7), (3, 0, 0), (3, 0, 0), (3, 0, 0)])
def LDX9_16 : List FE := LDX9_15 ++ [(1, 6400, 0, [])]
def LDX9_17 : List FE := LDX9_16.set 0 (0, 9, 0, [(0, 0, 0), (0, 0, 0), (0, 0, 0), (1, 0, 1), (1, 0, 2), (1, 0, 3), (1, 0, 4), (1, 0, 5), (1, 0, 6), (1, 0, 7), (1, 0, 8), (3, 0, 0), (3, 0, 0)])
def LDX9_18 : List FE := LDX9_17 ++ [(1, 32, 0, [])]
def LDX9_19 : List FE := LDX9_18.set 0 (0, 9, 0, [(0, 0, 0), (0, 0, 0), (0, 0, 0), (1, 0, 1), (1, 0, 2), (1, 0, 3), (1, 0, 4), (1, 0, 5), (1, 0, 6), (1, 0, 7), (1, 0, 8), (1, 0, 9), (3, 0, 0)])
def LDX9_20 : List FE := LDX9_19 ++ [(1, 4, 0, [])]
def LDX9_21 : List FE := LDX9_20.set 0 (0, 9, 0, [(0, 0, 0), (0, 0, 0), (0, 0, 0), (1, 0, 1), (1, 0, 2), (1, 0, 3), (1, 0, 4), (1, 0, 5), (1, 0, 6), (1, 0, 7), (1, 0, 8), (1, 0, 9), (1, 0, 10)])
set_option maxRecDepth 100000 in
set_option maxHeartbeats 4000000 in
theorem c_X9_init (l : Launch) (G : va_G) (kc : KC) : MK l G kc yX9_init cX9_init 1 1 20 10 27460 [] (0, 9, 0, [(0, 0, 0), (0, 0, 0), (0, 0, 0), (3, 0, 0), (3, 0, 0), (3, 0, 0), (3, 0, 0), (3, 0, 0), (3, 0, 0), (3, 0, 0), (3, 0, 0), (3, 0, 0), (3, 0, 0)]) LX9 := by
  intro a sz
  refine k_body (y := yX9_init) (n := 1) (av := .ref a :: []) (rm := { frames := 1, cells := 10, slots := 27460, locals := 20 }) (Qc := fun A => QK G kc LX9 a A) (plainFor_of_name (by decide)) (Nat.le_of_ble_eq_true rfl) (fun pr e s m below meth c A C0 hr hlk hnm hw hRo ls hl => ?_) sz
  have hx := C0.1
  have hb := C0.2.1
  have hown := C0.2.2.2.1
  have hts := C0.2.2.2.2.1
  have h_a : (fun _ : Nat => a) 0 = a := rfl
  generalize (fun _ : Nat => a) = ad at hw h_a
  generalize hlocs : ([] : List Loc) = locs at hw ⊢
  clear hlocs
  have hl : lv_has ls 1 [(0, .ref a)] := hl
  refine lv_aload_n hx hb (dkP dF_42 DX9_init (i := 0) rfl rfl) rfl (lv_at hl 0 rfl) ?_
  refine kz_obj C0 hl.1 ol_X9_5 ob_im ob_co (by decide) (by decide) (Nat.le_of_ble_eq_true rfl) (dk2 dF_183 DX9_init (i := 1) rfl rfl rfl) ?_
  refine lv_aload_n hx hb (dkP dF_42 DX9_init (i := 2) rfl rfl) rfl (lv_at hl 0 rfl) ?_
  refine lv_sipush (v := 200) hx hb (dkS dF_17 DX9_init (i := 3) rfl rfl rfl) (by decide) ?_
  refine kz_newai C0 hw 1 200 (by decide) (by decide +kernel) ar_int (by decide) (by decide) (by decide) (by decide) (by decide) (dkN DX9_init (i := 4) rfl rfl rfl (by decide)) (fun q1 ad H h_q1 had hw => ?_)
  have hw : SF G kc A s.heap LDX9_2 ad H locs := hw
  have h_a : ad 0 = a := (had 0 (by decide)).trans h_a
  clear had
  refine W.widen (k := 1) (n := 200) (by decide) (by decide) ?_
  refine kz_pF C0 hnm hw 0 3 (1, 0, 1) (hi := (rfl : LDX9_2[0]? = some ((0, 9, 0, [(0, 0, 0), (0, 0, 0), (0, 0, 0), (3, 0, 0), (3, 0, 0), (3, 0, 0), (3, 0, 0), (3, 0, 0), (3, 0, 0), (3, 0, 0), (3, 0, 0), (3, 0, 0), (3, 0, 0)]) : FE))) (by decide) h_a (show fvV ad (1, 0, 1) = .ref q1 from congrArg Value.ref h_q1) ff_X9_11 rfl rfl (dk2 dF_181 DX9_init (i := 5) rfl rfl rfl) (fun H locs hw => ?_)
  have hw : SF G kc A s.heap LDX9_3 ad H locs := hw
  refine lv_aload_n hx hb (dkP dF_42 DX9_init (i := 6) rfl rfl) rfl (lv_at hl 0 rfl) ?_
  refine lv_sipush (v := 200) hx hb (dkS dF_17 DX9_init (i := 7) rfl rfl rfl) (by decide) ?_
  refine kz_newai C0 hw 2 200 (by decide) (by decide +kernel) ar_int (by decide) (by decide) (by decide) (by decide) (by decide) (dkN DX9_init (i := 8) rfl rfl rfl (by decide)) (fun q2 ad H h_q2 had hw => ?_)
  have hw : SF G kc A s.heap LDX9_4 ad H locs := hw
  have h_a : ad 0 = a := (had 0 (by decide)).trans h_a
  have h_q1 : ad 1 = q1 := (had 1 (by decide)).trans h_q1
  clear had
  refine W.widen (k := 2) (n := 400) (by decide) (by decide) ?_
  refine kz_pF C0 hnm hw 0 4 (1, 0, 2) (hi := (rfl : LDX9_4[0]? = some ((0, 9, 0, [(0, 0, 0), (0, 0, 0), (0, 0, 0), (1, 0, 1), (3, 0, 0), (3, 0, 0), (3, 0, 0), (3, 0, 0), (3, 0, 0), (3, 0, 0), (3, 0, 0), (3, 0, 0), (3, 0, 0)]) : FE))) (by decide) h_a (show fvV ad (1, 0, 2) = .ref q2 from congrArg Value.ref h_q2) ff_X9_15 rfl rfl (dk2 dF_181 DX9_init (i := 9) rfl rfl rfl) (fun H locs hw => ?_)
  have hw : SF G kc A s.heap LDX9_5 ad H locs := hw
  refine lv_aload_n hx hb (dkP dF_42 DX9_init (i := 10) rfl rfl) rfl (lv_at hl 0 rfl) ?_
  refine lv_sipush (v := 200) hx hb (dkS dF_17 DX9_init (i := 11) rfl rfl rfl) (by decide) ?_
  refine kz_newai C0 hw 3 200 (by decide) (by decide +kernel) ar_int (by decide) (by decide) (by decide) (by decide) (by decide) (dkN DX9_init (i := 12) rfl rfl rfl (by decide)) (fun q3 ad H h_q3 had hw => ?_)
  have hw : SF G kc A s.heap LDX9_6 ad H locs := hw
  have h_a : ad 0 = a := (had 0 (by decide)).trans h_a
  have h_q1 : ad 1 = q1 := (had 1 (by decide)).trans h_q1
  have h_q2 : ad 2 = q2 := (had 2 (by decide)).trans h_q2
  clear had
  refine W.widen (k := 3) (n := 600) (by decide) (by decide) ?_
  refine kz_pF C0 hnm hw 0 5 (1, 0, 3) (hi := (rfl : LDX9_6[0]? = some ((0, 9, 0, [(0, 0, 0), (0, 0, 0), (0, 0, 0), (1, 0, 1), (1, 0, 2), (3, 0, 0), (3, 0, 0), (3, 0, 0), (3, 0, 0), (3, 0, 0), (3, 0, 0), (3, 0, 0), (3, 0, 0)]) : FE))) (by decide) h_a (show fvV ad (1, 0, 3) = .ref q3 from congrArg Value.ref h_q3) ff_X9_18 rfl rfl (dk2 dF_181 DX9_init (i := 13) rfl rfl rfl) (fun H locs hw => ?_)
  have hw : SF G kc A s.heap LDX9_7 ad H locs := hw
  refine lv_aload_n hx hb (dkP dF_42 DX9_init (i := 14) rfl rfl) rfl (lv_at hl 0 rfl) ?_
  refine lv_sipush (v := 200) hx hb (dkS dF_17 DX9_init (i := 15) rfl rfl rfl) (by decide) ?_
  refine kz_newai C0 hw 4 200 (by decide) (by decide +kernel) ar_int (by decide) (by decide) (by decide) (by decide) (by decide) (dkN DX9_init (i := 16) rfl rfl rfl (by decide)) (fun q4 ad H h_q4 had hw => ?_)
  have hw : SF G kc A s.heap LDX9_8 ad H locs := hw
  have h_a : ad 0 = a := (had 0 (by decide)).trans h_a
  have h_q1 : ad 1 = q1 := (had 1 (by decide)).trans h_q1
  have h_q2 : ad 2 = q2 := (had 2 (by decide)).trans h_q2
  have h_q3 : ad 3 = q3 := (had 3 (by decide)).trans h_q3
  clear had
  refine W.widen (k := 4) (n := 800) (by decide) (by decide) ?_
  refine kz_pF C0 hnm hw 0 6 (1, 0, 4) (hi := (rfl : LDX9_8[0]? = some ((0, 9, 0, [(0, 0, 0), (0, 0, 0), (0, 0, 0), (1, 0, 1), (1, 0, 2), (1, 0, 3), (3, 0, 0), (3, 0, 0), (3, 0, 0), (3, 0, 0), (3, 0, 0), (3, 0, 0), (3, 0, 0)]) : FE))) (by decide) h_a (show fvV ad (1, 0, 4) = .ref q4 from congrArg Value.ref h_q4) ff_X9_21 rfl rfl (dk2 dF_181 DX9_init (i := 17) rfl rfl rfl) (fun H locs hw => ?_)
  have hw : SF G kc A s.heap LDX9_9 ad H locs := hw
  refine lv_aload_n hx hb (dkP dF_42 DX9_init (i := 18) rfl rfl) rfl (lv_at hl 0 rfl) ?_
  refine lv_sipush (v := 200) hx hb (dkS dF_17 DX9_init (i := 19) rfl rfl rfl) (by decide) ?_
  refine kz_newai C0 hw 5 200 (by decide) (by decide +kernel) ar_int (by decide) (by decide) (by decide) (by decide) (by decide) (dkN DX9_init (i := 20) rfl rfl rfl (by decide)) (fun q5 ad H h_q5 had hw => ?_)
  have hw : SF G kc A s.heap LDX9_10 ad H locs := hw
  have h_a : ad 0 = a := (had 0 (by decide)).trans h_a
  have h_q1 : ad 1 = q1 := (had 1 (by decide)).trans h_q1
  have h_q2 : ad 2 = q2 := (had 2 (by decide)).trans h_q2
  have h_q3 : ad 3 = q3 := (had 3 (by decide)).trans h_q3
  have h_q4 : ad 4 = q4 := (had 4 (by decide)).trans h_q4
  clear had
  refine W.widen (k := 5) (n := 1000) (by decide) (by decide) ?_
  refine kz_pF C0 hnm hw 0 7 (1, 0, 5) (hi := (rfl : LDX9_10[0]? = some ((0, 9, 0, [(0, 0, 0), (0, 0, 0), (0, 0, 0), (1, 0, 1), (1, 0, 2), (1, 0, 3), (1, 0, 4), (3, 0, 0), (3, 0, 0), (3, 0, 0), (3, 0, 0), (3, 0, 0), (3, 0, 0)]) : FE))) (by decide) h_a (show fvV ad (1, 0, 5) = .ref q5 from congrArg Value.ref h_q5) ff_X9_24 rfl rfl (dk2 dF_181 DX9_init (i := 21) rfl rfl rfl) (fun H locs hw => ?_)
  have hw : SF G kc A s.heap LDX9_11 ad H locs := hw
  refine lv_aload_n hx hb (dkP dF_42 DX9_init (i := 22) rfl rfl) rfl (lv_at hl 0 rfl) ?_
  refine lv_sipush (v := 20000) hx hb (dkS dF_17 DX9_init (i := 23) rfl rfl rfl) (by decide) ?_
  refine kz_newab C0 hw 6 20000 (by decide) (by decide +kernel) ar_byte (by decide) (by decide) (by decide) (by decide) (by decide) (dkN DX9_init (i := 24) rfl rfl rfl (by decide)) (fun q6 ad H h_q6 had hw => ?_)
  have hw : SF G kc A s.heap LDX9_12 ad H locs := hw
  have h_a : ad 0 = a := (had 0 (by decide)).trans h_a
  have h_q1 : ad 1 = q1 := (had 1 (by decide)).trans h_q1
  have h_q2 : ad 2 = q2 := (had 2 (by decide)).trans h_q2
  have h_q3 : ad 3 = q3 := (had 3 (by decide)).trans h_q3
  have h_q4 : ad 4 = q4 := (had 4 (by decide)).trans h_q4
  have h_q5 : ad 5 = q5 := (had 5 (by decide)).trans h_q5
  clear had
  refine W.widen (k := 6) (n := 21000) (by decide) (by decide) ?_
  refine kz_pF C0 hnm hw 0 8 (1, 0, 6) (hi := (rfl : LDX9_12[0]? = some ((0, 9, 0, [(0, 0, 0), (0, 0, 0), (0, 0, 0), (1, 0, 1), (1, 0, 2), (1, 0, 3), (1, 0, 4), (1, 0, 5), (3, 0, 0), (3, 0, 0), (3, 0, 0), (3, 0, 0), (3, 0, 0)]) : FE))) (by decide) h_a (show fvV ad (1, 0, 6) = .ref q6 from congrArg Value.ref h_q6) ff_X9_27 rfl rfl (dk2 dF_181 DX9_init (i := 25) rfl rfl rfl) (fun H locs hw => ?_)
  have hw : SF G kc A s.heap LDX9_13 ad H locs := hw
  refine lv_aload_n hx hb (dkP dF_42 DX9_init (i := 26) rfl rfl) rfl (lv_at hl 0 rfl) ?_
  refine lv_bipush (v := 24) hx hb (dks dF_16 DX9_init (i := 27) rfl rfl rfl) (by decide) ?_
  refine kz_newai C0 hw 7 24 (by decide) (by decide +kernel) ar_int (by decide) (by decide) (by decide) (by decide) (by decide) (dkN DX9_init (i := 28) rfl rfl rfl (by decide)) (fun q7 ad H h_q7 had hw => ?_)
  have hw : SF G kc A s.heap LDX9_14 ad H locs := hw
  have h_a : ad 0 = a := (had 0 (by decide)).trans h_a
  have h_q1 : ad 1 = q1 := (had 1 (by decide)).trans h_q1
  have h_q2 : ad 2 = q2 := (had 2 (by decide)).trans h_q2
  have h_q3 : ad 3 = q3 := (had 3 (by decide)).trans h_q3
  have h_q4 : ad 4 = q4 := (had 4 (by decide)).trans h_q4
  have h_q5 : ad 5 = q5 := (had 5 (by decide)).trans h_q5
  have h_q6 : ad 6 = q6 := (had 6 (by decide)).trans h_q6
  clear had
  refine W.widen (k := 7) (n := 21024) (by decide) (by decide) ?_
  refine kz_pF C0 hnm hw 0 9 (1, 0, 7) (hi := (rfl : LDX9_14[0]? = some ((0, 9, 0, [(0, 0, 0), (0, 0, 0), (0, 0, 0), (1, 0, 1), (1, 0, 2), (1, 0, 3), (1, 0, 4), (1, 0, 5), (1, 0, 6), (3, 0, 0), (3, 0, 0), (3, 0, 0), (3, 0, 0)]) : FE))) (by decide) h_a (show fvV ad (1, 0, 7) = .ref q7 from congrArg Value.ref h_q7) ff_X9_31 rfl rfl (dk2 dF_181 DX9_init (i := 29) rfl rfl rfl) (fun H locs hw => ?_)
  have hw : SF G kc A s.heap LDX9_15 ad H locs := hw
  refine lv_aload_n hx hb (dkP dF_42 DX9_init (i := 30) rfl rfl) rfl (lv_at hl 0 rfl) ?_
  refine lv_sipush (v := 6400) hx hb (dkS dF_17 DX9_init (i := 31) rfl rfl rfl) (by decide) ?_
  refine kz_newai C0 hw 8 6400 (by decide) (by decide +kernel) ar_int (by decide) (by decide) (by decide) (by decide) (by decide) (dkN DX9_init (i := 32) rfl rfl rfl (by decide)) (fun q8 ad H h_q8 had hw => ?_)
  have hw : SF G kc A s.heap LDX9_16 ad H locs := hw
  have h_a : ad 0 = a := (had 0 (by decide)).trans h_a
  have h_q1 : ad 1 = q1 := (had 1 (by decide)).trans h_q1
  have h_q2 : ad 2 = q2 := (had 2 (by decide)).trans h_q2
  have h_q3 : ad 3 = q3 := (had 3 (by decide)).trans h_q3
  have h_q4 : ad 4 = q4 := (had 4 (by decide)).trans h_q4
  have h_q5 : ad 5 = q5 := (had 5 (by decide)).trans h_q5
  have h_q6 : ad 6 = q6 := (had 6 (by decide)).trans h_q6
  have h_q7 : ad 7 = q7 := (had 7 (by decide)).trans h_q7
  clear had
  refine W.widen (k := 8) (n := 27424) (by decide) (by decide) ?_
  refine kz_pF C0 hnm hw 0 10 (1, 0, 8) (hi := (rfl : LDX9_16[0]? = some ((0, 9, 0, [(0, 0, 0), (0, 0, 0), (0, 0, 0), (1, 0, 1), (1, 0, 2), (1, 0, 3), (1, 0, 4), (1, 0, 5), (1, 0, 6), (1, 0, 7), (3, 0, 0), (3, 0, 0), (3, 0, 0)]) : FE))) (by decide) h_a (show fvV ad (1, 0, 8) = .ref q8 from congrArg Value.ref h_q8) ff_X9_34 rfl rfl (dk2 dF_181 DX9_init (i := 33) rfl rfl rfl) (fun H locs hw => ?_)
  have hw : SF G kc A s.heap LDX9_17 ad H locs := hw
  refine lv_aload_n hx hb (dkP dF_42 DX9_init (i := 34) rfl rfl) rfl (lv_at hl 0 rfl) ?_
  refine lv_bipush (v := 32) hx hb (dks dF_16 DX9_init (i := 35) rfl rfl rfl) (by decide) ?_
  refine kz_newai C0 hw 9 32 (by decide) (by decide +kernel) ar_int (by decide) (by decide) (by decide) (by decide) (by decide) (dkN DX9_init (i := 36) rfl rfl rfl (by decide)) (fun q9 ad H h_q9 had hw => ?_)
  have hw : SF G kc A s.heap LDX9_18 ad H locs := hw
  have h_a : ad 0 = a := (had 0 (by decide)).trans h_a
  have h_q1 : ad 1 = q1 := (had 1 (by decide)).trans h_q1
  have h_q2 : ad 2 = q2 := (had 2 (by decide)).trans h_q2
  have h_q3 : ad 3 = q3 := (had 3 (by decide)).trans h_q3
  have h_q4 : ad 4 = q4 := (had 4 (by decide)).trans h_q4
  have h_q5 : ad 5 = q5 := (had 5 (by decide)).trans h_q5
  have h_q6 : ad 6 = q6 := (had 6 (by decide)).trans h_q6
  have h_q7 : ad 7 = q7 := (had 7 (by decide)).trans h_q7
  have h_q8 : ad 8 = q8 := (had 8 (by decide)).trans h_q8
  clear had
  refine W.widen (k := 9) (n := 27456) (by decide) (by decide) ?_
  refine kz_pF C0 hnm hw 0 11 (1, 0, 9) (hi := (rfl : LDX9_18[0]? = some ((0, 9, 0, [(0, 0, 0), (0, 0, 0), (0, 0, 0), (1, 0, 1), (1, 0, 2), (1, 0, 3), (1, 0, 4), (1, 0, 5), (1, 0, 6), (1, 0, 7), (1, 0, 8), (3, 0, 0), (3, 0, 0)]) : FE))) (by decide) h_a (show fvV ad (1, 0, 9) = .ref q9 from congrArg Value.ref h_q9) ff_X9_37 rfl rfl (dk2 dF_181 DX9_init (i := 37) rfl rfl rfl) (fun H locs hw => ?_)
  have hw : SF G kc A s.heap LDX9_19 ad H locs := hw
  refine lv_aload_n hx hb (dkP dF_42 DX9_init (i := 38) rfl rfl) rfl (lv_at hl 0 rfl) ?_
  refine lv_iconst (v := 4) hx hb (dkP dF_7 DX9_init (i := 39) rfl rfl) (by decide) ?_
  refine kz_newai C0 hw 10 4 (by decide) (by decide +kernel) ar_int (by decide) (by decide) (by decide) (by decide) (by decide) (dkN DX9_init (i := 40) rfl rfl rfl (by decide)) (fun q10 ad H h_q10 had hw => ?_)
  have hw : SF G kc A s.heap LDX9_20 ad H locs := hw
  have h_a : ad 0 = a := (had 0 (by decide)).trans h_a
  have h_q1 : ad 1 = q1 := (had 1 (by decide)).trans h_q1
  have h_q2 : ad 2 = q2 := (had 2 (by decide)).trans h_q2
  have h_q3 : ad 3 = q3 := (had 3 (by decide)).trans h_q3
  have h_q4 : ad 4 = q4 := (had 4 (by decide)).trans h_q4
  have h_q5 : ad 5 = q5 := (had 5 (by decide)).trans h_q5
  have h_q6 : ad 6 = q6 := (had 6 (by decide)).trans h_q6
  have h_q7 : ad 7 = q7 := (had 7 (by decide)).trans h_q7
  have h_q8 : ad 8 = q8 := (had 8 (by decide)).trans h_q8
  have h_q9 : ad 9 = q9 := (had 9 (by decide)).trans h_q9
  clear had
  refine W.widen (k := 10) (n := 27460) (by decide) (by decide) ?_
  refine kz_pF C0 hnm hw 0 12 (1, 0, 10) (hi := (rfl : LDX9_20[0]? = some ((0, 9, 0, [(0, 0, 0), (0, 0, 0), (0, 0, 0), (1, 0, 1), (1, 0, 2), (1, 0, 3), (1, 0, 4), (1, 0, 5), (1, 0, 6), (1, 0, 7), (1, 0, 8), (1, 0, 9), (3, 0, 0)]) : FE))) (by decide) h_a (show fvV ad (1, 0, 10) = .ref q10 from congrArg Value.ref h_q10) ff_X9_40 rfl rfl (dk2 dF_181 DX9_init (i := 41) rfl rfl rfl) (fun H locs hw => ?_)
  have hw : SF G kc A s.heap LDX9_21 ad H locs := hw
  exact kz_vret C0 hr hlk hw h_a (eqF (by decide +kernel)) (dkP dF_177 DX9_init (i := 42) rfl rfl)
def LX11 : List FE := [(0, 11, 0, [(1, 0, 1), (1, 0, 184), (1, 0, 185), (1, 0, 186), (1, 0, 210), (1, 0, 215), (1, 0, 220), (1, 0, 223), (1, 0, 227), (0, -1, 0), (2, 0, 228), (2, 0, 239)]), (0, 10, 0, [(1, 0, 2), (1, 0, 3), (1, 0, 4), (1, 0, 5), (0, 0, 0), (0, 0, 0), (0, 0, 0), (1, 0, 6)]), (6, 8, 0, [(2, 0, 8), (2, 0, 30), (2, 0, 52), (2, 0, 74), (2, 0, 96), (2, 0, 118), (2, 0, 140), (2, 0, 162)]), (1, 64, -1, []), (1, 8, 0, []), (1, 420, 0, []), (0, 6, 0, [(1, 0, 7), (0, 1, 0), (0, 0, 0)]), (1, 100, 0, []), (0, 4, 0, [(0, 0, 0), (0, -1, 0), (2, 0, 9), (2, 0, 19), (0, 1, 0), (0, 0, 0), (1, 0, 27), (1, 0, 28), (1, 0, 29)]), (0, 2, 0, [(0, 0, 0), (0, 0, 0), (1, 0, 10), (1, 0, 11), (1, 0, 12), (1, 0, 13), (1, 0, 14), (1, 0, 15), (1, 0, 16), (1, 0, 17)]), (1, 24, 0, []), (1, 24, 0, []), (1, 24, 0, []), (1, 24, 0, []), (1, 24, 0, []), (1, 24, 0, []), (1, 24, 0, []), (0, 8, 0, [(1, 0, 18), (0, 0, 0)]), (1, 192, 0, []), (0, 1, 0, [(0, 0, 0), (0, 0, 0), (0, 0, 0), (0, 0, 0), (1, 0, 20), (1, 0, 21), (1, 0, 22), (1, 0, 23), (1, 0, 24), (1, 0, 25)]), (1, 40, 0, []), (1, 40, 0, []), (1, 40, 0, []), (1, 40, 0, []), (1, 160, 0, []), (0, 8, 0, [(1, 0, 26), (0, 0, 0)]), (1, 1920, 0, []), (1, 3, 0, []), (1, 3, 0, []), (1, 3, 0, []), (0, 4, 0, [(0, 0, 0), (0, -1, 0), (2, 0, 31), (2, 0, 41), (0, 1, 0), (0, 0, 0), (1, 0, 49), (1, 0, 50), (1, 0, 51)]), (0, 2, 0, [(0, 0, 0), (0, 0, 0), (1, 0, 32), (1, 0, 33), (1, 0, 34), (1, 0, 35), (1, 0, 36), (1, 0, 37), (1, 0, 38), (1, 0, 39)]), (1, 24, 0, []), (1, 24, 0, []), (1, 24, 0, []), (1, 24, 0, []), (1, 24, 0, []), (1, 24, 0, []), (1, 24, 0, []), (0, 8, 0, [(1, 0, 40), (0, 0, 0)]), (1, 192, 0, []), (0, 1, 0, [(0, 0, 0), (0, 0, 0), (0, 0, 0), (0, 0, 0), (1, 0, 42), (1, 0, 43), (1, 0, 44), (1, 0, 45), (1, 0, 46), (1, 0, 47)]), (1, 40, 0, []), (1, 40, 0, []), (1, 40, 0, []), (1, 40, 0, []), (1, 160, 0, []), (0, 8, 0, [(1, 0, 48), (0, 0, 0)]), (1, 1920, 0, []), (1, 3, 0, []), (1, 3, 0, []), (1, 3, 0, []), (0, 4, 0, [(0, 0, 0), (0, -1, 0), (2, 0, 53), (2, 0, 63), (0, 1, 0), (0, 0, 0), (1, 0, 71), (1, 0, 72), (1, 0, 73)]), (0, 2, 0, [(0, 0, 0), (0, 0, 0), (1, 0, 54), (1, 0, 55), (1, 0, 56), (1, 0, 57), (1, 0, 58), (1, 0, 59), (1, 0, 60), (1, 0, 61)]), (1, 24, 0, []), (1, 24, 0, []), (1, 24, 0, []), (1, 24, 0, []), (1, 24, 0, []), (1, 24, 0, []), (1, 24, 0, []), (0, 8, 0, [(1, 0, 62), (0, 0, 0)]), (1, 192, 0, []), (0, 1, 0, [(0, 0, 0), (0, 0, 0), (0, 0, 0), (0, 0, 0), (1, 0, 64), (1, 0, 65), (1, 0, 66), (1, 0, 67), (1, 0, 68), (1, 0, 69)]), (1, 40, 0, []), (1, 40, 0, []), (1, 40, 0, []), (1, 40, 0, []), (1, 160, 0, []), (0, 8, 0, [(1, 0, 70), (0, 0, 0)]), (1, 1920, 0, []), (1, 3, 0, []), (1, 3, 0, []), (1, 3, 0, []), (0, 4, 0, [(0, 0, 0), (0, -1, 0), (2, 0, 75), (2, 0, 85), (0, 1, 0), (0, 0, 0), (1, 0, 93), (1, 0, 94), (1, 0, 95)]), (0, 2, 0, [(0, 0, 0), (0, 0, 0), (1, 0, 76), (1, 0, 77), (1, 0, 78), (1, 0, 79), (1, 0, 80), (1, 0, 81), (1, 0, 82), (1, 0, 83)]), (1, 24, 0, []), (1, 24, 0, []), (1, 24, 0, []), (1, 24, 0, []), (1, 24, 0, []), (1, 24, 0, []), (1, 24, 0, []), (0, 8, 0, [(1, 0, 84), (0, 0, 0)]), (1, 192, 0, []), (0, 1, 0, [(0, 0, 0), (0, 0, 0), (0, 0, 0), (0, 0, 0), (1, 0, 86), (1, 0, 87), (1, 0, 88), (1, 0, 89), (1, 0, 90), (1, 0, 91)]), (1, 40, 0, []), (1, 40, 0, []), (1, 40, 0, []), (1, 40, 0, []), (1, 160, 0, []), (0, 8, 0, [(1, 0, 92), (0, 0, 0)]), (1, 1920, 0, []), (1, 3, 0, []), (1, 3, 0, []), (1, 3, 0, []), (0, 4, 0, [(0, 0, 0), (0, -1, 0), (2, 0, 97), (2, 0, 107), (0, 1, 0), (0, 0, 0), (1, 0, 115), (1, 0, 116), (1, 0, 117)]), (0, 2, 0, [(0, 0, 0), (0, 0, 0), (1, 0, 98), (1, 0, 99), (1, 0, 100), (1, 0, 101), (1, 0, 102), (1, 0, 103), (1, 0, 104), (1, 0, 105)]), (1, 24, 0, []), (1, 24, 0, []), (1, 24, 0, []), (1, 24, 0, []), (1, 24, 0, []), (1, 24, 0, []), (1, 24, 0, []), (0, 8, 0, [(1, 0, 106), (0, 0, 0)]), (1, 192, 0, []), (0, 1, 0, [(0, 0, 0), (0, 0, 0), (0, 0, 0), (0, 0, 0), (1, 0, 108), (1, 0, 109), (1, 0, 110), (1, 0, 111), (1, 0, 112), (1, 0, 113)]), (1, 40, 0, []), (1, 40, 0, []), (1, 40, 0, []), (1, 40, 0, []), (1, 160, 0, []), (0, 8, 0, [(1, 0, 114), (0, 0, 0)]), (1, 1920, 0, []), (1, 3, 0, []), (1, 3, 0, []), (1, 3, 0, []), (0, 4, 0, [(0, 0, 0), (0, -1, 0), (2, 0, 119), (2, 0, 129), (0, 1, 0), (0, 0, 0), (1, 0, 137), (1, 0, 138), (1, 0, 139)]), (0, 2, 0, [(0, 0, 0), (0, 0, 0), (1, 0, 120), (1, 0, 121), (1, 0, 122), (1, 0, 123), (1, 0, 124), (1, 0, 125), (1, 0, 126), (1, 0, 127)]), (1, 24, 0, []), (1, 24, 0, []), (1, 24, 0, []), (1, 24, 0, []), (1, 24, 0, []), (1, 24, 0, []), (1, 24, 0, []), (0, 8, 0, [(1, 0, 128), (0, 0, 0)]), (1, 192, 0, []), (0, 1, 0, [(0, 0, 0), (0, 0, 0), (0, 0, 0), (0, 0, 0), (1, 0, 130), (1, 0, 131), (1, 0, 132), (1, 0, 133), (1, 0, 134), (1, 0, 135)]), (1, 40, 0, []), (1, 40, 0, []), (1, 40, 0, []), (1, 40, 0, []), (1, 160, 0, []), (0, 8, 0, [(1, 0, 136), (0, 0, 0)]), (1, 1920, 0, []), (1, 3, 0, []), (1, 3, 0, []), (1, 3, 0, []), (0, 4, 0, [(0, 0, 0), (0, -1, 0), (2, 0, 141), (2, 0, 151), (0, 1, 0), (0, 0, 0), (1, 0, 159), (1, 0, 160), (1, 0, 161)]), (0, 2, 0, [(0, 0, 0), (0, 0, 0), (1, 0, 142), (1, 0, 143), (1, 0, 144), (1, 0, 145), (1, 0, 146), (1, 0, 147), (1, 0, 148), (1, 0, 149)]), (1, 24, 0, []), (1, 24, 0, []), (1, 24, 0, []), (1, 24, 0, []), (1, 24, 0, []), (1, 24, 0, []), (1, 24, 0, []), (0, 8, 0, [(1, 0, 150), (0, 0, 0)]), (1, 192, 0, []), (0, 1, 0, [(0, 0, 0), (0, 0, 0), (0, 0, 0), (0, 0, 0), (1, 0, 152), (1, 0, 153), (1, 0, 154), (1, 0, 155), (1, 0, 156), (1, 0, 157)]), (1, 40, 0, []), (1, 40, 0, []), (1, 40, 0, []), (1, 40, 0, []), (1, 160, 0, []), (0, 8, 0, [(1, 0, 158), (0, 0, 0)]), (1, 1920, 0, []), (1, 3, 0, []), (1, 3, 0, []), (1, 3, 0, []), (0, 4, 0, [(0, 0, 0), (0, -1, 0), (2, 0, 163), (2, 0, 173), (0, 1, 0), (0, 0, 0), (1, 0, 181), (1, 0, 182), (1, 0, 183)]), (0, 2, 0, [(0, 0, 0), (0, 0, 0), (1, 0, 164), (1, 0, 165), (1, 0, 166), (1, 0, 167), (1, 0, 168), (1, 0, 169), (1, 0, 170), (1, 0, 171)]), (1, 24, 0, []), (1, 24, 0, []), (1, 24, 0, []), (1, 24, 0, []), (1, 24, 0, []), (1, 24, 0, []), (1, 24, 0, []), (0, 8, 0, [(1, 0, 172), (0, 0, 0)]), (1, 192, 0, []), (0, 1, 0, [(0, 0, 0), (0, 0, 0), (0, 0, 0), (0, 0, 0), (1, 0, 174), (1, 0, 175), (1, 0, 176), (1, 0, 177), (1, 0, 178), (1, 0, 179)]), (1, 40, 0, []), (1, 40, 0, []), (1, 40, 0, []), (1, 40, 0, []), (1, 160, 0, []), (0, 8, 0, [(1, 0, 180), (0, 0, 0)]), (1, 1920, 0, []), (1, 3, 0, []), (1, 3, 0, []), (1, 3, 0, []), (5, 3, 0, [(2, 0, 250), (2, 0, 433), (2, 0, 616)]), (3, 3, 0, []), (0, 5, 0, [(1, 0, 187), (0, 0, 0), (1, 0, 188), (1, 0, 189), (1, 0, 190), (0, 0, 0), (0, 0, 0), (0, 0, 0), (0, -1, 0), (1, 0, 191), (2, 0, 192), (2, 0, 202)]), (2, 600, 0, []), (1, 601, 0, []), (1, 601, 0, []), (1, 601, 0, []), (1, 9, 0, []), (0, 2, 0, [(0, 0, 0), (0, 0, 0), (1, 0, 193), (1, 0, 194), (1, 0, 195), (1, 0, 196), (1, 0, 197), (1, 0, 198), (1, 0, 199), (1, 0, 200)]), (1, 24, 0, []), (1, 24, 0, []), (1, 24, 0, []), (1, 24, 0, []), (1, 24, 0, []), (1, 24, 0, []), (1, 24, 0, []), (0, 8, 0, [(1, 0, 201), (0, 0, 0)]), (1, 192, 0, []), (0, 1, 0, [(0, 0, 0), (0, 0, 0), (0, 0, 0), (0, 0, 0), (1, 0, 203), (1, 0, 204), (1, 0, 205), (1, 0, 206), (1, 0, 207), (1, 0, 208)]), (1, 40, 0, []), (1, 40, 0, []), (1, 40, 0, []), (1, 40, 0, []), (1, 160, 0, []), (0, 8, 0, [(1, 0, 209), (0, 0, 0)]), (1, 1920, 0, []), (0, 0, 0, [(1, 0, 211), (1, 0, 212), (1, 0, 213), (1, 0, 214), (0, 0, 0), (0, 0, 0), (0, 0, 0), (0, 0, 0), (0, 0, 0)]), (1, 8, 0, []), (1, 8, 0, []), (2, 100, 0, []), (1, 4, 0, []), (0, 0, 0, [(1, 0, 216), (1, 0, 217), (1, 0, 218), (1, 0, 219), (0, 0, 0), (0, 0, 0), (0, 0, 0), (0, 0, 0), (0, 0, 0)]), (1, 8, 0, []), (1, 8, 0, []), (2, 100, 0, []), (1, 4, 0, []), (0, 3, 0, [(1, 0, 221), (1, 0, 222), (0, 0, 0)]), (1, 256, 0, []), (1, 8, 0, []), (0, 7, 0, [(1, 0, 224), (1, 0, 225), (1, 0, 226)]), (4, 240, 0, []), (1, 4, -1, []), (1, 4, 0, []), (1, 8, 0, []), (0, 9, 0, [(0, 0, 0), (0, 0, 0), (0, 0, 0), (1, 0, 229), (1, 0, 230), (1, 0, 231), (1, 0, 232), (1, 0, 233), (1, 0, 234), (1, 0, 235), (1, 0, 236), (1, 0, 237), (1, 0, 238)]), (1, 200, 0, []), (1, 200, 0, []), (1, 200, 0, []), (1, 200, 0, []), (1, 200, 0, []), (2, 20000, 0, []), (1, 24, 0, []), (1, 6400, 0, []), (1, 32, 0, []), (1, 4, 0, []), (0, 9, 0, [(0, 0, 0), (0, 0, 0), (0, 0, 0), (1, 0, 240), (1, 0, 241), (1, 0, 242), (1, 0, 243), (1, 0, 244), (1, 0, 245), (1, 0, 246), (1, 0, 247), (1, 0, 248), (1, 0, 249)]), (1, 200, 0, []), (1, 200, 0, []), (1, 200, 0, []), (1, 200, 0, []), (1, 200, 0, []), (2, 20000, 0, []), (1, 24, 0, []), (1, 6400, 0, []), (1, 32, 0, []), (1, 4, 0, []), (0, 10, 0, [(1, 0, 251), (1, 0, 252), (1, 0, 253), (1, 0, 254), (0, 0, 0), (0, 0, 0), (0, 0, 0), (1, 0, 255)]), (6, 8, 0, [(2, 0, 257), (2, 0, 279), (2, 0, 301), (2, 0, 323), (2, 0, 345), (2, 0, 367), (2, 0, 389), (2, 0, 411)]), (1, 64, -1, []), (1, 8, 0, []), (1, 420, 0, []), (0, 6, 0, [(1, 0, 256), (0, 1, 0), (0, 0, 0)]), (1, 100, 0, []), (0, 4, 0, [(0, 0, 0), (0, -1, 0), (2, 0, 258), (2, 0, 268), (0, 1, 0), (0, 0, 0), (1, 0, 276), (1, 0, 277), (1, 0, 278)]), (0, 2, 0, [(0, 0, 0), (0, 0, 0), (1, 0, 259), (1, 0, 260), (1, 0, 261), (1, 0, 262), (1, 0, 263), (1, 0, 264), (1, 0, 265), (1, 0, 266)]), (1, 24, 0, []), (1, 24, 0, []), (1, 24, 0, []), (1, 24, 0, []), (1, 24, 0, []), (1, 24, 0, []), (1, 24, 0, []), (0, 8, 0, [(1, 0, 267), (0, 0, 0)]), (1, 192, 0, []), (0, 1, 0, [(0, 0, 0), (0, 0, 0), (0, 0, 0), (0, 0, 0), (1, 0, 269), (1, 0, 270), (1, 0, 271), (1, 0, 272), (1, 0, 273), (1, 0, 274)]), (1, 40, 0, []), (1, 40, 0, []), (1, 40, 0, []), (1, 40, 0, []), (1, 160, 0, []), (0, 8, 0, [(1, 0, 275), (0, 0, 0)]), (1, 1920, 0, []), (1, 3, 0, []), (1, 3, 0, []), (1, 3, 0, []), (0, 4, 0, [(0, 0, 0), (0, -1, 0), (2, 0, 280), (2, 0, 290), (0, 1, 0), (0, 0, 0), (1, 0, 298), (1, 0, 299), (1, 0, 300)]), (0, 2, 0, [(0, 0, 0), (0, 0, 0), (1, 0, 281), (1, 0, 282), (1, 0, 283), (1, 0, 284), (1, 0, 285), (1, 0, 286), (1, 0, 287), (1, 0, 288)]), (1, 24, 0, []), (1, 24, 0, []), (1, 24, 0, []), (1, 24, 0, []), (1, 24, 0, []), (1, 24, 0, []), (1, 24, 0, []), (0, 8, 0, [(1, 0, 289), (0, 0, 0)]), (1, 192, 0, []), (0, 1, 0, [(0, 0, 0), (0, 0, 0), (0, 0, 0), (0, 0, 0), (1, 0, 291), (1, 0, 292), (1, 0, 293), (1, 0, 294), (1, 0, 295), (1, 0, 296)]), (1, 40, 0, []), (1, 40, 0, []), (1, 40, 0, []), (1, 40, 0, []), (1, 160, 0, []), (0, 8, 0, [(1, 0, 297), (0, 0, 0)]), (1, 1920, 0, []), (1, 3, 0, []), (1, 3, 0, []), (1, 3, 0, []), (0, 4, 0, [(0, 0, 0), (0, -1, 0), (2, 0, 302), (2, 0, 312), (0, 1, 0), (0, 0, 0), (1, 0, 320), (1, 0, 321), (1, 0, 322)]), (0, 2, 0, [(0, 0, 0), (0, 0, 0), (1, 0, 303), (1, 0, 304), (1, 0, 305), (1, 0, 306), (1, 0, 307), (1, 0, 308), (1, 0, 309), (1, 0, 310)]), (1, 24, 0, []), (1, 24, 0, []), (1, 24, 0, []), (1, 24, 0, []), (1, 24, 0, []), (1, 24, 0, []), (1, 24, 0, []), (0, 8, 0, [(1, 0, 311), (0, 0, 0)]), (1, 192, 0, []), (0, 1, 0, [(0, 0, 0), (0, 0, 0), (0, 0, 0), (0, 0, 0), (1, 0, 313), (1, 0, 314), (1, 0, 315), (1, 0, 316), (1, 0, 317), (1, 0, 318)]), (1, 40, 0, []), (1, 40, 0, []), (1, 40, 0, []), (1, 40, 0, []), (1, 160, 0, []), (0, 8, 0, [(1, 0, 319), (0, 0, 0)]), (1, 1920, 0, []), (1, 3, 0, []), (1, 3, 0, []), (1, 3, 0, []), (0, 4, 0, [(0, 0, 0), (0, -1, 0), (2, 0, 324), (2, 0, 334), (0, 1, 0), (0, 0, 0), (1, 0, 342), (1, 0, 343), (1, 0, 344)]), (0, 2, 0, [(0, 0, 0), (0, 0, 0), (1, 0, 325), (1, 0, 326), (1, 0, 327), (1, 0, 328), (1, 0, 329), (1, 0, 330), (1, 0, 331), (1, 0, 332)]), (1, 24, 0, []), (1, 24, 0, []), (1, 24, 0, []), (1, 24, 0, []), (1, 24, 0, []), (1, 24, 0, []), (1, 24, 0, []), (0, 8, 0, [(1, 0, 333), (0, 0, 0)]), (1, 192, 0, []), (0, 1, 0, [(0, 0, 0), (0, 0, 0), (0, 0, 0), (0, 0, 0), (1, 0, 335), (1, 0, 336), (1, 0, 337), (1, 0, 338), (1, 0, 339), (1, 0, 340)]), (1, 40, 0, []), (1, 40, 0, []), (1, 40, 0, []), (1, 40, 0, []), (1, 160, 0, []), (0, 8, 0, [(1, 0, 341), (0, 0, 0)]), (1, 1920, 0, []), (1, 3, 0, []), (1, 3, 0, []), (1, 3, 0, []), (0, 4, 0, [(0, 0, 0), (0, -1, 0), (2, 0, 346), (2, 0, 356), (0, 1, 0), (0, 0, 0), (1, 0, 364), (1, 0, 365), (1, 0, 366)]), (0, 2, 0, [(0, 0, 0), (0, 0, 0), (1, 0, 347), (1, 0, 348), (1, 0, 349), (1, 0, 350), (1, 0, 351), (1, 0, 352), (1, 0, 353), (1, 0, 354)]), (1, 24, 0, []), (1, 24, 0, []), (1, 24, 0, []), (1, 24, 0, []), (1, 24, 0, []), (1, 24, 0, []), (1, 24, 0, []), (0, 8, 0, [(1, 0, 355), (0, 0, 0)]), (1, 192, 0, []), (0, 1, 0, [(0, 0, 0), (0, 0, 0), (0, 0, 0), (0, 0, 0), (1, 0, 357), (1, 0, 358), (1, 0, 359), (1, 0, 360), (1, 0, 361), (1, 0, 362)]), (1, 40, 0, []), (1, 40, 0, []), (1, 40, 0, []), (1, 40, 0, []), (1, 160, 0, []), (0, 8, 0, [(1, 0, 363), (0, 0, 0)]), (1, 1920, 0, []), (1, 3, 0, []), (1, 3, 0, []), (1, 3, 0, []), (0, 4, 0, [(0, 0, 0), (0, -1, 0), (2, 0, 368), (2, 0, 378), (0, 1, 0), (0, 0, 0), (1, 0, 386), (1, 0, 387), (1, 0, 388)]), (0, 2, 0, [(0, 0, 0), (0, 0, 0), (1, 0, 369), (1, 0, 370), (1, 0, 371), (1, 0, 372), (1, 0, 373), (1, 0, 374), (1, 0, 375), (1, 0, 376)]), (1, 24, 0, []), (1, 24, 0, []), (1, 24, 0, []), (1, 24, 0, []), (1, 24, 0, []), (1, 24, 0, []), (1, 24, 0, []), (0, 8, 0, [(1, 0, 377), (0, 0, 0)]), (1, 192, 0, []), (0, 1, 0, [(0, 0, 0), (0, 0, 0), (0, 0, 0), (0, 0, 0), (1, 0, 379), (1, 0, 380), (1, 0, 381), (1, 0, 382), (1, 0, 383), (1, 0, 384)]), (1, 40, 0, []), (1, 40, 0, []), (1, 40, 0, []), (1, 40, 0, []), (1, 160, 0, []), (0, 8, 0, [(1, 0, 385), (0, 0, 0)]), (1, 1920, 0, []), (1, 3, 0, []), (1, 3, 0, []), (1, 3, 0, []), (0, 4, 0, [(0, 0, 0), (0, -1, 0), (2, 0, 390), (2, 0, 400), (0, 1, 0), (0, 0, 0), (1, 0, 408), (1, 0, 409), (1, 0, 410)]), (0, 2, 0, [(0, 0, 0), (0, 0, 0), (1, 0, 391), (1, 0, 392), (1, 0, 393), (1, 0, 394), (1, 0, 395), (1, 0, 396), (1, 0, 397), (1, 0, 398)]), (1, 24, 0, []), (1, 24, 0, []), (1, 24, 0, []), (1, 24, 0, []), (1, 24, 0, []), (1, 24, 0, []), (1, 24, 0, []), (0, 8, 0, [(1, 0, 399), (0, 0, 0)]), (1, 192, 0, []), (0, 1, 0, [(0, 0, 0), (0, 0, 0), (0, 0, 0), (0, 0, 0), (1, 0, 401), (1, 0, 402), (1, 0, 403), (1, 0, 404), (1, 0, 405), (1, 0, 406)]), (1, 40, 0, []), (1, 40, 0, []), (1, 40, 0, []), (1, 40, 0, []), (1, 160, 0, []), (0, 8, 0, [(1, 0, 407), (0, 0, 0)]), (1, 1920, 0, []), (1, 3, 0, []), (1, 3, 0, []), (1, 3, 0, []), (0, 4, 0, [(0, 0, 0), (0, -1, 0), (2, 0, 412), (2, 0, 422), (0, 1, 0), (0, 0, 0), (1, 0, 430), (1, 0, 431), (1, 0, 432)]), (0, 2, 0, [(0, 0, 0), (0, 0, 0), (1, 0, 413), (1, 0, 414), (1, 0, 415), (1, 0, 416), (1, 0, 417), (1, 0, 418), (1, 0, 419), (1, 0, 420)]), (1, 24, 0, []), (1, 24, 0, []), (1, 24, 0, []), (1, 24, 0, []), (1, 24, 0, []), (1, 24, 0, []), (1, 24, 0, []), (0, 8, 0, [(1, 0, 421), (0, 0, 0)]), (1, 192, 0, []), (0, 1, 0, [(0, 0, 0), (0, 0, 0), (0, 0, 0), (0, 0, 0), (1, 0, 423), (1, 0, 424), (1, 0, 425), (1, 0, 426), (1, 0, 427), (1, 0, 428)]), (1, 40, 0, []), (1, 40, 0, []), (1, 40, 0, []), (1, 40, 0, []), (1, 160, 0, []), (0, 8, 0, [(1, 0, 429), (0, 0, 0)]), (1, 1920, 0, []), (1, 3, 0, []), (1, 3, 0, []), (1, 3, 0, []), (0, 10, 0, [(1, 0, 434), (1, 0, 435), (1, 0, 436), (1, 0, 437), (0, 0, 0), (0, 0, 0), (0, 0, 0), (1, 0, 438)]), (6, 8, 0, [(2, 0, 440), (2, 0, 462), (2, 0, 484), (2, 0, 506), (2, 0, 528), (2, 0, 550), (2, 0, 572), (2, 0, 594)]), (1, 64, -1, []), (1, 8, 0, []), (1, 420, 0, []), (0, 6, 0, [(1, 0, 439), (0, 1, 0), (0, 0, 0)]), (1, 100, 0, []), (0, 4, 0, [(0, 0, 0), (0, -1, 0), (2, 0, 441), (2, 0, 451), (0, 1, 0), (0, 0, 0), (1, 0, 459), (1, 0, 460), (1, 0, 461)]), (0, 2, 0, [(0, 0, 0), (0, 0, 0), (1, 0, 442), (1, 0, 443), (1, 0, 444), (1, 0, 445), (1, 0, 446), (1, 0, 447), (1, 0, 448), (1, 0, 449)]), (1, 24, 0, []), (1, 24, 0, []), (1, 24, 0, []), (1, 24, 0, []), (1, 24, 0, []), (1, 24, 0, []), (1, 24, 0, []), (0, 8, 0, [(1, 0, 450), (0, 0, 0)]), (1, 192, 0, []), (0, 1, 0, [(0, 0, 0), (0, 0, 0), (0, 0, 0), (0, 0, 0), (1, 0, 452), (1, 0, 453), (1, 0, 454), (1, 0, 455), (1, 0, 456), (1, 0, 457)]), (1, 40, 0, []), (1, 40, 0, []), (1, 40, 0, []), (1, 40, 0, []), (1, 160, 0, []), (0, 8, 0, [(1, 0, 458), (0, 0, 0)]), (1, 1920, 0, []), (1, 3, 0, []), (1, 3, 0, []), (1, 3, 0, []), (0, 4, 0, [(0, 0, 0), (0, -1, 0), (2, 0, 463), (2, 0, 473), (0, 1, 0), (0, 0, 0), (1, 0, 481), (1, 0, 482), (1, 0, 483)]), (0, 2, 0, [(0, 0, 0), (0, 0, 0), (1, 0, 464), (1, 0, 465), (1, 0, 466), (1, 0, 467), (1, 0, 468), (1, 0, 469), (1, 0, 470), (1, 0, 471)]), (1, 24, 0, []), (1, 24, 0, []), (1, 24, 0, []), (1, 24, 0, []), (1, 24, 0, []), (1, 24, 0, []), (1, 24, 0, []), (0, 8, 0, [(1, 0, 472), (0, 0, 0)]), (1, 192, 0, []), (0, 1, 0, [(0, 0, 0), (0, 0, 0), (0, 0, 0), (0, 0, 0), (1, 0, 474), (1, 0, 475), (1, 0, 476), (1, 0, 477), (1, 0, 478), (1, 0, 479)]), (1, 40, 0, []), (1, 40, 0, []), (1, 40, 0, []), (1, 40, 0, []), (1, 160, 0, []), (0, 8, 0, [(1, 0, 480), (0, 0, 0)]), (1, 1920, 0, []), (1, 3, 0, []), (1, 3, 0, []), (1, 3, 0, []), (0, 4, 0, [(0, 0, 0), (0, -1, 0), (2, 0, 485), (2, 0, 495), (0, 1, 0), (0, 0, 0), (1, 0, 503), (1, 0, 504), (1, 0, 505)]), (0, 2, 0, [(0, 0, 0), (0, 0, 0), (1, 0, 486), (1, 0, 487), (1, 0, 488), (1, 0, 489), (1, 0, 490), (1, 0, 491), (1, 0, 492), (1, 0, 493)]), (1, 24, 0, []), (1, 24, 0, []), (1, 24, 0, []), (1, 24, 0, []), (1, 24, 0, []), (1, 24, 0, []), (1, 24, 0, []), (0, 8, 0, [(1, 0, 494), (0, 0, 0)]), (1, 192, 0, []), (0, 1, 0, [(0, 0, 0), (0, 0, 0), (0, 0, 0), (0, 0, 0), (1, 0, 496), (1, 0, 497), (1, 0, 498), (1, 0, 499), (1, 0, 500), (1, 0, 501)]), (1, 40, 0, []), (1, 40, 0, []), (1, 40, 0, []), (1, 40, 0, []), (1, 160, 0, []), (0, 8, 0, [(1, 0, 502), (0, 0, 0)]), (1, 1920, 0, []), (1, 3, 0, []), (1, 3, 0, []), (1, 3, 0, []), (0, 4, 0, [(0, 0, 0), (0, -1, 0), (2, 0, 507), (2, 0, 517), (0, 1, 0), (0, 0, 0), (1, 0, 525), (1, 0, 526), (1, 0, 527)]), (0, 2, 0, [(0, 0, 0), (0, 0, 0), (1, 0, 508), (1, 0, 509), (1, 0, 510), (1, 0, 511), (1, 0, 512), (1, 0, 513), (1, 0, 514), (1, 0, 515)]), (1, 24, 0, []), (1, 24, 0, []), (1, 24, 0, []), (1, 24, 0, []), (1, 24, 0, []), (1, 24, 0, []), (1, 24, 0, []), (0, 8, 0, [(1, 0, 516), (0, 0, 0)]), (1, 192, 0, []), (0, 1, 0, [(0, 0, 0), (0, 0, 0), (0, 0, 0), (0, 0, 0), (1, 0, 518), (1, 0, 519), (1, 0, 520), (1, 0, 521), (1, 0, 522), (1, 0, 523)]), (1, 40, 0, []), (1, 40, 0, []), (1, 40, 0, []), (1, 40, 0, []), (1, 160, 0, []), (0, 8, 0, [(1, 0, 524), (0, 0, 0)]), (1, 1920, 0, []), (1, 3, 0, []), (1, 3, 0, []), (1, 3, 0, []), (0, 4, 0, [(0, 0, 0), (0, -1, 0), (2, 0, 529), (2, 0, 539), (0, 1, 0), (0, 0, 0), (1, 0, 547), (1, 0, 548), (1, 0, 549)]), (0, 2, 0, [(0, 0, 0), (0, 0, 0), (1, 0, 530), (1, 0, 531), (1, 0, 532), (1, 0, 533), (1, 0, 534), (1, 0, 535), (1, 0, 536), (1, 0, 537)]), (1, 24, 0, []), (1, 24, 0, []), (1, 24, 0, []), (1, 24, 0, []), (1, 24, 0, []), (1, 24, 0, []), (1, 24, 0, []), (0, 8, 0, [(1, 0, 538), (0, 0, 0)]), (1, 192, 0, []), (0, 1, 0, [(0, 0, 0), (0, 0, 0), (0, 0, 0), (0, 0, 0), (1, 0, 540), (1, 0, 541), (1, 0, 542), (1, 0, 543), (1, 0, 544), (1, 0, 545)]), (1, 40, 0, []), (1, 40, 0, []), (1, 40, 0, []), (1, 40, 0, []), (1, 160, 0, []), (0, 8, 0, [(1, 0, 546), (0, 0, 0)]), (1, 1920, 0, []), (1, 3, 0, []), (1, 3, 0, []), (1, 3, 0, []), (0, 4, 0, [(0, 0, 0), (0, -1, 0), (2, 0, 551), (2, 0, 561), (0, 1, 0), (0, 0, 0), (1, 0, 569), (1, 0, 570), (1, 0, 571)]), (0, 2, 0, [(0, 0, 0), (0, 0, 0), (1, 0, 552), (1, 0, 553), (1, 0, 554), (1, 0, 555), (1, 0, 556), (1, 0, 557), (1, 0, 558), (1, 0, 559)]), (1, 24, 0, []), (1, 24, 0, []), (1, 24, 0, []), (1, 24, 0, []), (1, 24, 0, []), (1, 24, 0, []), (1, 24, 0, []), (0, 8, 0, [(1, 0, 560), (0, 0, 0)]), (1, 192, 0, []), (0, 1, 0, [(0, 0, 0), (0, 0, 0), (0, 0, 0), (0, 0, 0), (1, 0, 562), (1, 0, 563), (1, 0, 564), (1, 0, 565), (1, 0, 566), (1, 0, 567)]), (1, 40, 0, []), (1, 40, 0, []), (1, 40, 0, []), (1, 40, 0, []), (1, 160, 0, []), (0, 8, 0, [(1, 0, 568), (0, 0, 0)]), (1, 1920, 0, []), (1, 3, 0, []), (1, 3, 0, []), (1, 3, 0, []), (0, 4, 0, [(0, 0, 0), (0, -1, 0), (2, 0, 573), (2, 0, 583), (0, 1, 0), (0, 0, 0), (1, 0, 591), (1, 0, 592), (1, 0, 593)]), (0, 2, 0, [(0, 0, 0), (0, 0, 0), (1, 0, 574), (1, 0, 575), (1, 0, 576), (1, 0, 577), (1, 0, 578), (1, 0, 579), (1, 0, 580), (1, 0, 581)]), (1, 24, 0, []), (1, 24, 0, []), (1, 24, 0, []), (1, 24, 0, []), (1, 24, 0, []), (1, 24, 0, []), (1, 24, 0, []), (0, 8, 0, [(1, 0, 582), (0, 0, 0)]), (1, 192, 0, []), (0, 1, 0, [(0, 0, 0), (0, 0, 0), (0, 0, 0), (0, 0, 0), (1, 0, 584), (1, 0, 585), (1, 0, 586), (1, 0, 587), (1, 0, 588), (1, 0, 589)]), (1, 40, 0, []), (1, 40, 0, []), (1, 40, 0, []), (1, 40, 0, []), (1, 160, 0, []), (0, 8, 0, [(1, 0, 590), (0, 0, 0)]), (1, 1920, 0, []), (1, 3, 0, []), (1, 3, 0, []), (1, 3, 0, []), (0, 4, 0, [(0, 0, 0), (0, -1, 0), (2, 0, 595), (2, 0, 605), (0, 1, 0), (0, 0, 0), (1, 0, 613), (1, 0, 614), (1, 0, 615)]), (0, 2, 0, [(0, 0, 0), (0, 0, 0), (1, 0, 596), (1, 0, 597), (1, 0, 598), (1, 0, 599), (1, 0, 600), (1, 0, 601), (1, 0, 602), (1, 0, 603)]), (1, 24, 0, []), (1, 24, 0, []), (1, 24, 0, []), (1, 24, 0, []), (1, 24, 0, []), (1, 24, 0, []), (1, 24, 0, []), (0, 8, 0, [(1, 0, 604), (0, 0, 0)]), (1, 192, 0, []), (0, 1, 0, [(0, 0, 0), (0, 0, 0), (0, 0, 0), (0, 0, 0), (1, 0, 606), (1, 0, 607), (1, 0, 608), (1, 0, 609), (1, 0, 610), (1, 0, 611)]), (1, 40, 0, []), (1, 40, 0, []), (1, 40, 0, []), (1, 40, 0, []), (1, 160, 0, []), (0, 8, 0, [(1, 0, 612), (0, 0, 0)]), (1, 1920, 0, []), (1, 3, 0, []), (1, 3, 0, []), (1, 3, 0, []), (0, 10, 0, [(1, 0, 617), (1, 0, 618), (1, 0, 619), (1, 0, 620), (0, 0, 0), (0, 0, 0), (0, 0, 0), (1, 0, 621)]), (6, 8, 0, [(2, 0, 623), (2, 0, 645), (2, 0, 667), (2, 0, 689), (2, 0, 711), (2, 0, 733), (2, 0, 755), (2, 0, 777)]), (1, 64, -1, []), (1, 8, 0, []), (1, 420, 0, []), (0, 6, 0, [(1, 0, 622), (0, 1, 0), (0, 0, 0)]), (1, 100, 0, []), (0, 4, 0, [(0, 0, 0), (0, -1, 0), (2, 0, 624), (2, 0, 634), (0, 1, 0), (0, 0, 0), (1, 0, 642), (1, 0, 643), (1, 0, 644)]), (0, 2, 0, [(0, 0, 0), (0, 0, 0), (1, 0, 625), (1, 0, 626), (1, 0, 627), (1, 0, 628), (1, 0, 629), (1, 0, 630), (1, 0, 631), (1, 0, 632)]), (1, 24, 0, []), (1, 24, 0, []), (1, 24, 0, []), (1, 24, 0, []), (1, 24, 0, []), (1, 24, 0, []), (1, 24, 0, []), (0, 8, 0, [(1, 0, 633), (0, 0, 0)]), (1, 192, 0, []), (0, 1, 0, [(0, 0, 0), (0, 0, 0), (0, 0, 0), (0, 0, 0), (1, 0, 635), (1, 0, 636), (1, 0, 637), (1, 0, 638), (1, 0, 639), (1, 0, 640)]), (1, 40, 0, []), (1, 40, 0, []), (1, 40, 0, []), (1, 40, 0, []), (1, 160, 0, []), (0, 8, 0, [(1, 0, 641), (0, 0, 0)]), (1, 1920, 0, []), (1, 3, 0, []), (1, 3, 0, []), (1, 3, 0, []), (0, 4, 0, [(0, 0, 0), (0, -1, 0), (2, 0, 646), (2, 0, 656), (0, 1, 0), (0, 0, 0), (1, 0, 664), (1, 0, 665), (1, 0, 666)]), (0, 2, 0, [(0, 0, 0), (0, 0, 0), (1, 0, 647), (1, 0, 648), (1, 0, 649), (1, 0, 650), (1, 0, 651), (1, 0, 652), (1, 0, 653), (1, 0, 654)]), (1, 24, 0, []), (1, 24, 0, []), (1, 24, 0, []), (1, 24, 0, []), (1, 24, 0, []), (1, 24, 0, []), (1, 24, 0, []), (0, 8, 0, [(1, 0, 655), (0, 0, 0)]), (1, 192, 0, []), (0, 1, 0, [(0, 0, 0), (0, 0, 0), (0, 0, 0), (0, 0, 0), (1, 0, 657), (1, 0, 658), (1, 0, 659), (1, 0, 660), (1, 0, 661), (1, 0, 662)]), (1, 40, 0, []), (1, 40, 0, []), (1, 40, 0, []), (1, 40, 0, []), (1, 160, 0, []), (0, 8, 0, [(1, 0, 663), (0, 0, 0)]), (1, 1920, 0, []), (1, 3, 0, []), (1, 3, 0, []), (1, 3, 0, []), (0, 4, 0, [(0, 0, 0), (0, -1, 0), (2, 0, 668), (2, 0, 678), (0, 1, 0), (0, 0, 0), (1, 0, 686), (1, 0, 687), (1, 0, 688)]), (0, 2, 0, [(0, 0, 0), (0, 0, 0), (1, 0, 669), (1, 0, 670), (1, 0, 671), (1, 0, 672), (1, 0, 673), (1, 0, 674), (1, 0, 675), (1, 0, 676)]), (1, 24, 0, []), (1, 24, 0, []), (1, 24, 0, []), (1, 24, 0, []), (1, 24, 0, []), (1, 24, 0, []), (1, 24, 0, []), (0, 8, 0, [(1, 0, 677), (0, 0, 0)]), (1, 192, 0, []), (0, 1, 0, [(0, 0, 0), (0, 0, 0), (0, 0, 0), (0, 0, 0), (1, 0, 679), (1, 0, 680), (1, 0, 681), (1, 0, 682), (1, 0, 683), (1, 0, 684)]), (1, 40, 0, []), (1, 40, 0, []), (1, 40, 0, []), (1, 40, 0, []), (1, 160, 0, []), (0, 8, 0, [(1, 0, 685), (0, 0, 0)]), (1, 1920, 0, []), (1, 3, 0, []), (1, 3, 0, []), (1, 3, 0, []), (0, 4, 0, [(0, 0, 0), (0, -1, 0), (2, 0, 690), (2, 0, 700), (0, 1, 0), (0, 0, 0), (1, 0, 708), (1, 0, 709), (1, 0, 710)]), (0, 2, 0, [(0, 0, 0), (0, 0, 0), (1, 0, 691), (1, 0, 692), (1, 0, 693), (1, 0, 694), (1, 0, 695), (1, 0, 696), (1, 0, 697), (1, 0, 698)]), (1, 24, 0, []), (1, 24, 0, []), (1, 24, 0, []), (1, 24, 0, []), (1, 24, 0, []), (1, 24, 0, []), (1, 24, 0, []), (0, 8, 0, [(1, 0, 699), (0, 0, 0)]), (1, 192, 0, []), (0, 1, 0, [(0, 0, 0), (0, 0, 0), (0, 0, 0), (0, 0, 0), (1, 0, 701), (1, 0, 702), (1, 0, 703), (1, 0, 704), (1, 0, 705), (1, 0, 706)]), (1, 40, 0, []), (1, 40, 0, []), (1, 40, 0, []), (1, 40, 0, []), (1, 160, 0, []), (0, 8, 0, [(1, 0, 707), (0, 0, 0)]), (1, 1920, 0, []), (1, 3, 0, []), (1, 3, 0, []), (1, 3, 0, []), (0, 4, 0, [(0, 0, 0), (0, -1, 0), (2, 0, 712), (2, 0, 722), (0, 1, 0), (0, 0, 0), (1, 0, 730), (1, 0, 731), (1, 0, 732)]), (0, 2, 0, [(0, 0, 0), (0, 0, 0), (1, 0, 713), (1, 0, 714), (1, 0, 715), (1, 0, 716), (1, 0, 717), (1, 0, 718), (1, 0, 719), (1, 0, 720)]), (1, 24, 0, []), (1, 24, 0, []), (1, 24, 0, []), (1, 24, 0, []), (1, 24, 0, []), (1, 24, 0, []), (1, 24, 0, []), (0, 8, 0, [(1, 0, 721), (0, 0, 0)]), (1, 192, 0, []), (0, 1, 0, [(0, 0, 0), (0, 0, 0), (0, 0, 0), (0, 0, 0), (1, 0, 723), (1, 0, 724), (1, 0, 725), (1, 0, 726), (1, 0, 727), (1, 0, 728)]), (1, 40, 0, []), (1, 40, 0, []), (1, 40, 0, []), (1, 40, 0, []), (1, 160, 0, []), (0, 8, 0, [(1, 0, 729), (0, 0, 0)]), (1, 1920, 0, []), (1, 3, 0, []), (1, 3, 0, []), (1, 3, 0, []), (0, 4, 0, [(0, 0, 0), (0, -1, 0), (2, 0, 734), (2, 0, 744), (0, 1, 0), (0, 0, 0), (1, 0, 752), (1, 0, 753), (1, 0, 754)]), (0, 2, 0, [(0, 0, 0), (0, 0, 0), (1, 0, 735), (1, 0, 736), (1, 0, 737), (1, 0, 738), (1, 0, 739), (1, 0, 740), (1, 0, 741), (1, 0, 742)]), (1, 24, 0, []), (1, 24, 0, []), (1, 24, 0, []), (1, 24, 0, []), (1, 24, 0, []), (1, 24, 0, []), (1, 24, 0, []), (0, 8, 0, [(1, 0, 743), (0, 0, 0)]), (1, 192, 0, []), (0, 1, 0, [(0, 0, 0), (0, 0, 0), (0, 0, 0), (0, 0, 0), (1, 0, 745), (1, 0, 746), (1, 0, 747), (1, 0, 748), (1, 0, 749), (1, 0, 750)]), (1, 40, 0, []), (1, 40, 0, []), (1, 40, 0, []), (1, 40, 0, []), (1, 160, 0, []), (0, 8, 0, [(1, 0, 751), (0, 0, 0)]), (1, 1920, 0, []), (1, 3, 0, []), (1, 3, 0, []), (1, 3, 0, []), (0, 4, 0, [(0, 0, 0), (0, -1, 0), (2, 0, 756), (2, 0, 766), (0, 1, 0), (0, 0, 0), (1, 0, 774), (1, 0, 775), (1, 0, 776)]), (0, 2, 0, [(0, 0, 0), (0, 0, 0), (1, 0, 757), (1, 0, 758), (1, 0, 759), (1, 0, 760), (1, 0, 761), (1, 0, 762), (1, 0, 763), (1, 0, 764)]), (1, 24, 0, []), (1, 24, 0, []), (1, 24, 0, []), (1, 24, 0, []), (1, 24, 0, []), (1, 24, 0, []), (1, 24, 0, []), (0, 8, 0, [(1, 0, 765), (0, 0, 0)]), (1, 192, 0, []), (0, 1, 0, [(0, 0, 0), (0, 0, 0), (0, 0, 0), (0, 0, 0), (1, 0, 767), (1, 0, 768), (1, 0, 769), (1, 0, 770), (1, 0, 771), (1, 0, 772)]), (1, 40, 0, []), (1, 40, 0, []), (1, 40, 0, []), (1, 40, 0, []), (1, 160, 0, []), (0, 8, 0, [(1, 0, 773), (0, 0, 0)]), (1, 1920, 0, []), (1, 3, 0, []), (1, 3, 0, []), (1, 3, 0, []), (0, 4, 0, [(0, 0, 0), (0, -1, 0), (2, 0, 778), (2, 0, 788), (0, 1, 0), (0, 0, 0), (1, 0, 796), (1, 0, 797), (1, 0, 798)]), (0, 2, 0, [(0, 0, 0), (0, 0, 0), (1, 0, 779), (1, 0, 780), (1, 0, 781), (1, 0, 782), (1, 0, 783), (1, 0, 784), (1, 0, 785), (1, 0, 786)]), (1, 24, 0, []), (1, 24, 0, []), (1, 24, 0, []), (1, 24, 0, []), (1, 24, 0, []), (1, 24, 0, []), (1, 24, 0, []), (0, 8, 0, [(1, 0, 787), (0, 0, 0)]), (1, 192, 0, []), (0, 1, 0, [(0, 0, 0), (0, 0, 0), (0, 0, 0), (0, 0, 0), (1, 0, 789), (1, 0, 790), (1, 0, 791), (1, 0, 792), (1, 0, 793), (1, 0, 794)]), (1, 40, 0, []), (1, 40, 0, []), (1, 40, 0, []), (1, 40, 0, []), (1, 160, 0, []), (0, 8, 0, [(1, 0, 795), (0, 0, 0)]), (1, 1920, 0, []), (1, 3, 0, []), (1, 3, 0, []), (1, 3, 0, [])]
def LDX11_1 : List FE := [(0, 11, 0, [(3, 0, 0), (3, 0, 0), (3, 0, 0), (3, 0, 0), (3, 0, 0), (3, 0, 0), (3, 0, 0), (3, 0, 0), (3, 0, 0), (0, 0, 0), (4, 0, 0), (4, 0, 0)])]
def LDX11_2 : List FE := LDX11_1 ++ [(0, 10, 0, [(3, 0, 0), (3, 0, 0), (3, 0, 0), (3, 0, 0), (0, 0, 0), (0, 0, 0), (0, 0, 0), (3, 0, 0)])]
def LDX11_3 : List FE := LDX11_1 ++ shF 1 LX10
def LDX11_4 : List FE := LDX11_3.set 0 (0, 11, 0, [(1, 0, 1), (3, 0, 0), (3, 0, 0), (3, 0, 0), (3, 0, 0), (3, 0, 0), (3, 0, 0), (3, 0, 0), (3, 0, 0), (0, 0, 0), (4, 0, 0), (4, 0, 0)])
def LDX11_5 : List FE := LDX11_4 ++ [(5, 3, 0, [])]
def LDX11_6 : List FE := LDX11_5.set 0 (0, 11, 0, [(1, 0, 1), (1, 0, 184), (3, 0, 0), (3, 0, 0), (3, 0, 0), (3, 0, 0), (3, 0, 0), (3, 0, 0), (3, 0, 0), (0, 0, 0), (4, 0, 0), (4, 0, 0)])
def LDX11_7 : List FE := LDX11_6 ++ [(3, 3, 0, [])]
def LDX11_8 : List FE := LDX11_7.set 0 (0, 11, 0, [(1, 0, 1), (1, 0, 184), (1, 0, 185), (3, 0, 0), (3, 0, 0), (3, 0, 0), (3, 0, 0), (3, 0, 0), (3, 0, 0), (0, 0, 0), (4, 0, 0), (4, 0, 0)])
def LDX11_9 : List FE := LDX11_8 ++ [(0, 5, 0, [(3, 0, 0), (0, 0, 0), (3, 0, 0), (3, 0, 0), (3, 0, 0), (0, 0, 0), (0, 0, 0), (0, 0, 0), (0, 0, 0), (3, 0, 0), (4, 0, 0), (4, 0, 0)])]
def LDX11_10 : List FE := LDX11_8 ++ shF 186 LX5
def LDX11_11 : List FE := LDX11_10.set 0 (0, 11, 0, [(1, 0, 1), (1, 0, 184), (1, 0, 185), (1, 0, 186), (3, 0, 0), (3, 0, 0), (3, 0, 0), (3, 0, 0), (3, 0, 0), (0, 0, 0), (4, 0, 0), (4, 0, 0)])
def LDX11_12 : List FE := LDX11_11 ++ [(0, 0, 0, [(3, 0, 0), (3, 0, 0), (3, 0, 0), (3, 0, 0), (0, 0, 0), (0, 0, 0), (0, 0, 0), (0, 0, 0), (0, 0, 0)])]
def LDX11_13 : List FE := LDX11_11 ++ shF 210 LX0
def LDX11_14 : List FE := LDX11_13.set 0 (0, 11, 0, [(1, 0, 1), (1, 0, 184), (1, 0, 185), (1, 0, 186), (1, 0, 210), (3, 0, 0), (3, 0, 0), (3, 0, 0), (3, 0, 0), (0, 0, 0), (4, 0, 0), (4, 0, 0)])
def LDX11_15 : List FE := LDX11_14 ++ [(0, 0, 0, [(3, 0, 0), (3, 0, 0), (3, 0, 0), (3, 0, 0), (0, 0, 0), (0, 0, 0), (0, 0, 0), (0, 0, 0), (0, 0, 0)])]
def LDX11_16 : List FE := LDX11_14 ++ shF 215 LX0
def LDX11_17 : List FE := LDX11_16.set 0 (0, 11, 0, [(1, 0, 1), (1, 0, 184), (1, 0, 185), (1, 0, 186), (1, 0, 210), (1, 0, 215), (3, 0, 0), (3, 0, 0), (3, 0, 0), (0, 0, 0), (4, 0, 0), (4, 0, 0)])
def LDX11_18 : List FE := LDX11_17 ++ [(0, 3, 0, [(3, 0, 0), (3, 0, 0), (0, 0, 0)])]
def LDX11_19 : List FE := LDX11_17 ++ shF 220 LX3
def LDX11_20 : List FE := LDX11_19.set 0 (0, 11, 0, [(1, 0, 1), (1, 0, 184), (1, 0, 185), (1, 0, 186), (1, 0, 210), (1, 0, 215), (1, 0, 220), (3, 0, 0), (3, 0, 0), (0, 0, 0), (4, 0, 0), (4, 0, 0)])
def LDX11_21 : List FE := LDX11_20 ++ [(0, 7, 0, [(3, 0, 0), (3, 0, 0), (3, 0, 0)])]
def LDX11_22 : List FE := LDX11_20 ++ shF 223 LX7
def LDX11_23 : List FE := LDX11_22.set 0 (0, 11, 0, [(1, 0, 1), (1, 0, 184), (1, 0, 185), (1, 0, 186), (1, 0, 210), (1, 0, 215), (1, 0, 220), (1, 0, 223), (3, 0, 0), (0, 0, 0), (4, 0, 0), (4, 0, 0)])
def LDX11_24 : List FE := LDX11_23 ++ [(1, 8, 0, [])]
def LDX11_25 : List FE := LDX11_24.set 0 (0, 11, 0, [(1, 0, 1), (1, 0, 184), (1, 0, 185), (1, 0, 186), (1, 0, 210), (1, 0, 215), (1, 0, 220), (1, 0, 223), (1, 0, 227), (0, 0, 0), (4, 0, 0), (4, 0, 0)])
def LDX11_26 : List FE := LDX11_25.set 0 (0, 11, 0, [(1, 0, 1), (1, 0, 184), (1, 0, 185), (1, 0, 186), (1, 0, 210), (1, 0, 215), (1, 0, 220), (1, 0, 223), (1, 0, 227), (0, -1, 0), (4, 0, 0), (4, 0, 0)])
def LDX11_27 : List FE := LDX11_26 ++ [(0, 9, 0, [(0, 0, 0), (0, 0, 0), (0, 0, 0), (3, 0, 0), (3, 0, 0), (3, 0, 0), (3, 0, 0), (3, 0, 0), (3, 0, 0), (3, 0, 0), (3, 0, 0), (3, 0, 0), (3, 0, 0)])]
def LDX11_28 : List FE := LDX11_26 ++ shF 228 LX9
def LDX11_29 : List FE := LDX11_28.set 0 (0, 11, 0, [(1, 0, 1), (1, 0, 184), (1, 0, 185), (1, 0, 186), (1, 0, 210), (1, 0, 215), (1, 0, 220), (1, 0, 223), (1, 0, 227), (0, -1, 0), (2, 0, 228), (4, 0, 0)])
def LDX11_30 : List FE := LDX11_29 ++ [(0, 9, 0, [(0, 0, 0), (0, 0, 0), (0, 0, 0), (3, 0, 0), (3, 0, 0), (3, 0, 0), (3, 0, 0), (3, 0, 0), (3, 0, 0), (3, 0, 0), (3, 0, 0), (3, 0, 0), (3, 0, 0)])]
def LDX11_31 : List FE := LDX11_29 ++ shF 239 LX9
def LDX11_32 : List FE := LDX11_31.set 0 (0, 11, 0, [(1, 0, 1), (1, 0, 184), (1, 0, 185), (1, 0, 186), (1, 0, 210), (1, 0, 215), (1, 0, 220), (1, 0, 223), (1, 0, 227), (0, -1, 0), (2, 0, 228), (2, 0, 239)])
def LDX11_33 : List FE := LDX11_32 ++ [(0, 10, 0, [(3, 0, 0), (3, 0, 0), (3, 0, 0), (3, 0, 0), (0, 0, 0), (0, 0, 0), (0, 0, 0), (3, 0, 0)])]
def LDX11_34 : List FE := LDX11_32 ++ shF 250 LX10
def LDX11_35 : List FE := LDX11_34.set 184 (5, 3, 0, [(2, 0, 250)])
def LDX11_36 : List FE := LDX11_35 ++ [(0, 10, 0, [(3, 0, 0), (3, 0, 0), (3, 0, 0), (3, 0, 0), (0, 0, 0), (0, 0, 0), (0, 0, 0), (3, 0, 0)])]
def LDX11_37 : List FE := LDX11_35 ++ shF 433 LX10
def LDX11_38 : List FE := LDX11_37.set 184 (5, 3, 0, [(2, 0, 250), (2, 0, 433)])
def LDX11_39 : List FE := LDX11_38 ++ [(0, 10, 0, [(3, 0, 0), (3, 0, 0), (3, 0, 0), (3, 0, 0), (0, 0, 0), (0, 0, 0), (0, 0, 0), (3, 0, 0)])]
def LDX11_40 : List FE := LDX11_38 ++ shF 616 LX10
def LDX11_41 : List FE := LDX11_40.set 184 (5, 3, 0, [(2, 0, 250), (2, 0, 433), (2, 0, 616)])
set_option maxRecDepth 100000 in
set_option maxHeartbeats 4000000 in
theorem c_X11_init (l : Launch) (G : va_G) (kc : KC) : MK l G kc yX11_init cX11_init 2 5 102 798 147772 [] (0, 11, 0, [(3, 0, 0), (3, 0, 0), (3, 0, 0), (3, 0, 0), (3, 0, 0), (3, 0, 0), (3, 0, 0), (3, 0, 0), (3, 0, 0), (0, 0, 0), (4, 0, 0), (4, 0, 0)]) LX11 := by
  intro a sz
  refine k_body (y := yX11_init) (n := 2) (av := .ref a :: []) (rm := { frames := 5, cells := 798, slots := 147772, locals := 102 }) (Qc := fun A => QK G kc LX11 a A) (plainFor_of_name (by decide)) (Nat.le_of_ble_eq_true rfl) (fun pr e s m below meth c A C0 hr hlk hnm hw hRo ls hl => ?_) sz
  have hx := C0.1
  have hb := C0.2.1
  have hown := C0.2.2.2.1
  have hts := C0.2.2.2.2.1
  have h_a : (fun _ : Nat => a) 0 = a := rfl
  generalize (fun _ : Nat => a) = ad at hw h_a
  generalize hlocs : ([] : List Loc) = locs at hw ⊢
  clear hlocs
  have hl : lv_has ls 2 [(0, .ref a)] := hl
  refine lv_aload_n hx hb (dkP dF_42 DX11_init (i := 0) rfl rfl) rfl (lv_at hl 0 rfl) ?_
  refine kz_obj C0 hl.1 ol_X11_1 ob_im ob_co (by decide) (by decide) (Nat.le_of_ble_eq_true rfl) (dk2 dF_183 DX11_init (i := 1) rfl rfl rfl) ?_
  refine lv_aload_n hx hb (dkP dF_42 DX11_init (i := 2) rfl rfl) rfl (lv_at hl 0 rfl) ?_
  refine kz_new C0 hw 1 (by decide) (by decide +kernel) nw_X11_7 (by decide) (by decide) (dk2 dF_187 DX11_init (i := 3) rfl rfl rfl) (fun q1 ad H h_q1 had hw => ?_)
  have hw : SF G kc A s.heap (LDX11_1 ++ [(0, 10, 0, [(3, 0, 0), (3, 0, 0), (3, 0, 0), (3, 0, 0), (0, 0, 0), (0, 0, 0), (0, 0, 0), (3, 0, 0)])]) ad H locs := hw
  have h_a : ad 0 = a := (had 0 (by decide)).trans h_a
  clear had
  refine W.widen (k := 1) (n := 8) (by decide) (by decide) ?_
  refine lv_dup hx hb (dkP dF_89 DX11_init (i := 4) rfl rfl) rfl ?_
  refine kz_call (vs := []) (rest := [.ref q1, .ref a]) C0 hRo (c_X10_init l G kc) 1 hw (by decide) (by decide +kernel) (fun _ _ => rfl) h_q1 ci_X10_init lk_X11_9 rfl hl.1 rfl ⟨by decide, by decide⟩ (Nat.le_of_ble_eq_true rfl) (dk2 dF_183 DX11_init (i := 5) rfl rfl rfl) ⟨by decide, by decide⟩ (fun ad H locs h_q1 had hw => ?_)
  have hw : SF G kc A s.heap LDX11_3 ad H locs := hw
  have h_a : ad 0 = a := (had 0 (by decide)).trans h_a
  clear had
  refine W.widen (k := 183) (n := 21747) (by decide) (by decide) ?_
  refine kz_pF C0 hnm hw 0 0 (1, 0, 1) (hi := (rfl : LDX11_3[0]? = some ((0, 11, 0, [(3, 0, 0), (3, 0, 0), (3, 0, 0), (3, 0, 0), (3, 0, 0), (3, 0, 0), (3, 0, 0), (3, 0, 0), (3, 0, 0), (0, 0, 0), (4, 0, 0), (4, 0, 0)]) : FE))) (by decide) h_a (show fvV ad (1, 0, 1) = .ref q1 from congrArg Value.ref h_q1) ff_X11_10 rfl rfl (dk2 dF_181 DX11_init (i := 6) rfl rfl rfl) (fun H locs hw => ?_)
  have hw : SF G kc A s.heap LDX11_4 ad H locs := hw
  refine lv_aload_n hx hb (dkP dF_42 DX11_init (i := 7) rfl rfl) rfl (lv_at hl 0 rfl) ?_
  refine lv_iconst (v := 3) hx hb (dkP dF_6 DX11_init (i := 8) rfl rfl) (by decide) ?_
  refine kz_newqw C0 hw 184 3 (by decide) (by decide +kernel) cl_X11_7 (by decide) (by decide) (by decide) (by decide) (by decide) (dk2 dF_189 DX11_init (i := 9) rfl rfl rfl) (fun q2 ad H h_q2 had hw => ?_)
  have hw : SF G kc A s.heap LDX11_5 ad H locs := hw
  have h_a : ad 0 = a := (had 0 (by decide)).trans h_a
  have h_q1 : ad 1 = q1 := (had 1 (by decide)).trans h_q1
  clear had
  refine W.widen (k := 184) (n := 21750) (by decide) (by decide) ?_
  refine kz_pF C0 hnm hw 0 1 (1, 0, 184) (hi := (rfl : LDX11_5[0]? = some ((0, 11, 0, [(1, 0, 1), (3, 0, 0), (3, 0, 0), (3, 0, 0), (3, 0, 0), (3, 0, 0), (3, 0, 0), (3, 0, 0), (3, 0, 0), (0, 0, 0), (4, 0, 0), (4, 0, 0)]) : FE))) (by decide) h_a (show fvV ad (1, 0, 184) = .ref q2 from congrArg Value.ref h_q2) ff_X11_16 rfl rfl (dk2 dF_181 DX11_init (i := 10) rfl rfl rfl) (fun H locs hw => ?_)
  have hw : SF G kc A s.heap LDX11_6 ad H locs := hw
  refine lv_aload_n hx hb (dkP dF_42 DX11_init (i := 11) rfl rfl) rfl (lv_at hl 0 rfl) ?_
  refine lv_iconst (v := 3) hx hb (dkP dF_6 DX11_init (i := 12) rfl rfl) (by decide) ?_
  refine kz_newaz C0 hw 185 3 (by decide) (by decide +kernel) ar_boolean (by decide) (by decide) (by decide) (by decide) (by decide) (dkN DX11_init (i := 13) rfl rfl rfl (by decide)) (fun q3 ad H h_q3 had hw => ?_)
  have hw : SF G kc A s.heap LDX11_7 ad H locs := hw
  have h_a : ad 0 = a := (had 0 (by decide)).trans h_a
  have h_q1 : ad 1 = q1 := (had 1 (by decide)).trans h_q1
  have h_q2 : ad 184 = q2 := (had 184 (by decide)).trans h_q2
  clear had
  refine W.widen (k := 185) (n := 21753) (by decide) (by decide) ?_
  refine kz_pF C0 hnm hw 0 2 (1, 0, 185) (hi := (rfl : LDX11_7[0]? = some ((0, 11, 0, [(1, 0, 1), (1, 0, 184), (3, 0, 0), (3, 0, 0), (3, 0, 0), (3, 0, 0), (3, 0, 0), (3, 0, 0), (3, 0, 0), (0, 0, 0), (4, 0, 0), (4, 0, 0)]) : FE))) (by decide) h_a (show fvV ad (1, 0, 185) = .ref q3 from congrArg Value.ref h_q3) ff_X11_20 rfl rfl (dk2 dF_181 DX11_init (i := 14) rfl rfl rfl) (fun H locs hw => ?_)
  have hw : SF G kc A s.heap LDX11_8 ad H locs := hw
  refine lv_aload_n hx hb (dkP dF_42 DX11_init (i := 15) rfl rfl) rfl (lv_at hl 0 rfl) ?_
  refine kz_new C0 hw 186 (by decide) (by decide +kernel) nw_X11_24 (by decide) (by decide) (dk2 dF_187 DX11_init (i := 16) rfl rfl rfl) (fun q4 ad H h_q4 had hw => ?_)
  have hw : SF G kc A s.heap (LDX11_8 ++ [(0, 5, 0, [(3, 0, 0), (0, 0, 0), (3, 0, 0), (3, 0, 0), (3, 0, 0), (0, 0, 0), (0, 0, 0), (0, 0, 0), (0, 0, 0), (3, 0, 0), (4, 0, 0), (4, 0, 0)])]) ad H locs := hw
  have h_a : ad 0 = a := (had 0 (by decide)).trans h_a
  have h_q1 : ad 1 = q1 := (had 1 (by decide)).trans h_q1
  have h_q2 : ad 184 = q2 := (had 184 (by decide)).trans h_q2
  have h_q3 : ad 185 = q3 := (had 185 (by decide)).trans h_q3
  clear had
  refine W.widen (k := 186) (n := 21765) (by decide) (by decide) ?_
  refine lv_dup hx hb (dkP dF_89 DX11_init (i := 17) rfl rfl) rfl ?_
  refine kz_call (vs := []) (rest := [.ref q4, .ref a]) C0 hRo (c_X5_init l G kc) 186 hw (by decide) (by decide +kernel) (fun _ _ => rfl) h_q4 ci_X5_init lk_X11_26 rfl hl.1 rfl ⟨by decide, by decide⟩ (Nat.le_of_ble_eq_true rfl) (dk2 dF_183 DX11_init (i := 18) rfl rfl rfl) ⟨by decide, by decide⟩ (fun ad H locs h_q4 had hw => ?_)
  have hw : SF G kc A s.heap LDX11_10 ad H locs := hw
  have h_a : ad 0 = a := (had 0 (by decide)).trans h_a
  have h_q1 : ad 1 = q1 := (had 1 (by decide)).trans h_q1
  have h_q2 : ad 184 = q2 := (had 184 (by decide)).trans h_q2
  have h_q3 : ad 185 = q3 := (had 185 (by decide)).trans h_q3
  clear had
  refine W.widen (k := 209) (n := 26801) (by decide) (by decide) ?_
  refine kz_pF C0 hnm hw 0 3 (1, 0, 186) (hi := (rfl : LDX11_10[0]? = some ((0, 11, 0, [(1, 0, 1), (1, 0, 184), (1, 0, 185), (3, 0, 0), (3, 0, 0), (3, 0, 0), (3, 0, 0), (3, 0, 0), (3, 0, 0), (0, 0, 0), (4, 0, 0), (4, 0, 0)]) : FE))) (by decide) h_a (show fvV ad (1, 0, 186) = .ref q4 from congrArg Value.ref h_q4) ff_X11_27 rfl rfl (dk2 dF_181 DX11_init (i := 19) rfl rfl rfl) (fun H locs hw => ?_)
  have hw : SF G kc A s.heap LDX11_11 ad H locs := hw
  refine lv_aload_n hx hb (dkP dF_42 DX11_init (i := 20) rfl rfl) rfl (lv_at hl 0 rfl) ?_
  refine kz_new C0 hw 210 (by decide) (by decide +kernel) nw_X11_31 (by decide) (by decide) (dk2 dF_187 DX11_init (i := 21) rfl rfl rfl) (fun q5 ad H h_q5 had hw => ?_)
  have hw : SF G kc A s.heap (LDX11_11 ++ [(0, 0, 0, [(3, 0, 0), (3, 0, 0), (3, 0, 0), (3, 0, 0), (0, 0, 0), (0, 0, 0), (0, 0, 0), (0, 0, 0), (0, 0, 0)])]) ad H locs := hw
  have h_a : ad 0 = a := (had 0 (by decide)).trans h_a
  have h_q1 : ad 1 = q1 := (had 1 (by decide)).trans h_q1
  have h_q2 : ad 184 = q2 := (had 184 (by decide)).trans h_q2
  have h_q3 : ad 185 = q3 := (had 185 (by decide)).trans h_q3
  have h_q4 : ad 186 = q4 := (had 186 (by decide)).trans h_q4
  clear had
  refine W.widen (k := 210) (n := 26810) (by decide) (by decide) ?_
  refine lv_dup hx hb (dkP dF_89 DX11_init (i := 22) rfl rfl) rfl ?_
  refine kz_call (vs := []) (rest := [.ref q5, .ref a]) C0 hRo (c_X0_init l G kc) 210 hw (by decide) (by decide +kernel) (fun _ _ => rfl) h_q5 ci_X0_init lk_X11_33 rfl hl.1 rfl ⟨by decide, by decide⟩ (Nat.le_of_ble_eq_true rfl) (dk2 dF_183 DX11_init (i := 23) rfl rfl rfl) ⟨by decide, by decide⟩ (fun ad H locs h_q5 had hw => ?_)
  have hw : SF G kc A s.heap LDX11_13 ad H locs := hw
  have h_a : ad 0 = a := (had 0 (by decide)).trans h_a
  have h_q1 : ad 1 = q1 := (had 1 (by decide)).trans h_q1
  have h_q2 : ad 184 = q2 := (had 184 (by decide)).trans h_q2
  have h_q3 : ad 185 = q3 := (had 185 (by decide)).trans h_q3
  have h_q4 : ad 186 = q4 := (had 186 (by decide)).trans h_q4
  clear had
  refine W.widen (k := 214) (n := 26930) (by decide) (by decide) ?_
  refine kz_pF C0 hnm hw 0 4 (1, 0, 210) (hi := (rfl : LDX11_13[0]? = some ((0, 11, 0, [(1, 0, 1), (1, 0, 184), (1, 0, 185), (1, 0, 186), (3, 0, 0), (3, 0, 0), (3, 0, 0), (3, 0, 0), (3, 0, 0), (0, 0, 0), (4, 0, 0), (4, 0, 0)]) : FE))) (by decide) h_a (show fvV ad (1, 0, 210) = .ref q5 from congrArg Value.ref h_q5) ff_X11_34 rfl rfl (dk2 dF_181 DX11_init (i := 24) rfl rfl rfl) (fun H locs hw => ?_)
  have hw : SF G kc A s.heap LDX11_14 ad H locs := hw
  refine lv_aload_n hx hb (dkP dF_42 DX11_init (i := 25) rfl rfl) rfl (lv_at hl 0 rfl) ?_
  refine kz_new C0 hw 215 (by decide) (by decide +kernel) nw_X11_31 (by decide) (by decide) (dk2 dF_187 DX11_init (i := 26) rfl rfl rfl) (fun q6 ad H h_q6 had hw => ?_)
  have hw : SF G kc A s.heap (LDX11_14 ++ [(0, 0, 0, [(3, 0, 0), (3, 0, 0), (3, 0, 0), (3, 0, 0), (0, 0, 0), (0, 0, 0), (0, 0, 0), (0, 0, 0), (0, 0, 0)])]) ad H locs := hw
  have h_a : ad 0 = a := (had 0 (by decide)).trans h_a
  have h_q1 : ad 1 = q1 := (had 1 (by decide)).trans h_q1
  have h_q2 : ad 184 = q2 := (had 184 (by decide)).trans h_q2
  have h_q3 : ad 185 = q3 := (had 185 (by decide)).trans h_q3
  have h_q4 : ad 186 = q4 := (had 186 (by decide)).trans h_q4
  have h_q5 : ad 210 = q5 := (had 210 (by decide)).trans h_q5
  clear had
  refine W.widen (k := 215) (n := 26939) (by decide) (by decide) ?_
  refine lv_dup hx hb (dkP dF_89 DX11_init (i := 27) rfl rfl) rfl ?_
  refine kz_call (vs := []) (rest := [.ref q6, .ref a]) C0 hRo (c_X0_init l G kc) 215 hw (by decide) (by decide +kernel) (fun _ _ => rfl) h_q6 ci_X0_init lk_X11_33 rfl hl.1 rfl ⟨by decide, by decide⟩ (Nat.le_of_ble_eq_true rfl) (dk2 dF_183 DX11_init (i := 28) rfl rfl rfl) ⟨by decide, by decide⟩ (fun ad H locs h_q6 had hw => ?_)
  have hw : SF G kc A s.heap LDX11_16 ad H locs := hw
  have h_a : ad 0 = a := (had 0 (by decide)).trans h_a
  have h_q1 : ad 1 = q1 := (had 1 (by decide)).trans h_q1
  have h_q2 : ad 184 = q2 := (had 184 (by decide)).trans h_q2
  have h_q3 : ad 185 = q3 := (had 185 (by decide)).trans h_q3
  have h_q4 : ad 186 = q4 := (had 186 (by decide)).trans h_q4
  have h_q5 : ad 210 = q5 := (had 210 (by decide)).trans h_q5
  clear had
  refine W.widen (k := 219) (n := 27059) (by decide) (by decide) ?_
  refine kz_pF C0 hnm hw 0 5 (1, 0, 215) (hi := (rfl : LDX11_16[0]? = some ((0, 11, 0, [(1, 0, 1), (1, 0, 184), (1, 0, 185), (1, 0, 186), (1, 0, 210), (3, 0, 0), (3, 0, 0), (3, 0, 0), (3, 0, 0), (0, 0, 0), (4, 0, 0), (4, 0, 0)]) : FE))) (by decide) h_a (show fvV ad (1, 0, 215) = .ref q6 from congrArg Value.ref h_q6) ff_X11_38 rfl rfl (dk2 dF_181 DX11_init (i := 29) rfl rfl rfl) (fun H locs hw => ?_)
  have hw : SF G kc A s.heap LDX11_17 ad H locs := hw
  refine lv_aload_n hx hb (dkP dF_42 DX11_init (i := 30) rfl rfl) rfl (lv_at hl 0 rfl) ?_
  refine kz_new C0 hw 220 (by decide) (by decide +kernel) nw_X11_41 (by decide) (by decide) (dk2 dF_187 DX11_init (i := 31) rfl rfl rfl) (fun q7 ad H h_q7 had hw => ?_)
  have hw : SF G kc A s.heap (LDX11_17 ++ [(0, 3, 0, [(3, 0, 0), (3, 0, 0), (0, 0, 0)])]) ad H locs := hw
  have h_a : ad 0 = a := (had 0 (by decide)).trans h_a
  have h_q1 : ad 1 = q1 := (had 1 (by decide)).trans h_q1
  have h_q2 : ad 184 = q2 := (had 184 (by decide)).trans h_q2
  have h_q3 : ad 185 = q3 := (had 185 (by decide)).trans h_q3
  have h_q4 : ad 186 = q4 := (had 186 (by decide)).trans h_q4
  have h_q5 : ad 210 = q5 := (had 210 (by decide)).trans h_q5
  have h_q6 : ad 215 = q6 := (had 215 (by decide)).trans h_q6
  clear had
  refine W.widen (k := 220) (n := 27062) (by decide) (by decide) ?_
  refine lv_dup hx hb (dkP dF_89 DX11_init (i := 32) rfl rfl) rfl ?_
  refine kz_call (vs := []) (rest := [.ref q7, .ref a]) C0 hRo (c_X3_init l G kc) 220 hw (by decide) (by decide +kernel) (fun _ _ => rfl) h_q7 ci_X3_init lk_X11_43 rfl hl.1 rfl ⟨by decide, by decide⟩ (Nat.le_of_ble_eq_true rfl) (dk2 dF_183 DX11_init (i := 33) rfl rfl rfl) ⟨by decide, by decide⟩ (fun ad H locs h_q7 had hw => ?_)
  have hw : SF G kc A s.heap LDX11_19 ad H locs := hw
  have h_a : ad 0 = a := (had 0 (by decide)).trans h_a
  have h_q1 : ad 1 = q1 := (had 1 (by decide)).trans h_q1
  have h_q2 : ad 184 = q2 := (had 184 (by decide)).trans h_q2
  have h_q3 : ad 185 = q3 := (had 185 (by decide)).trans h_q3
  have h_q4 : ad 186 = q4 := (had 186 (by decide)).trans h_q4
  have h_q5 : ad 210 = q5 := (had 210 (by decide)).trans h_q5
  have h_q6 : ad 215 = q6 := (had 215 (by decide)).trans h_q6
  clear had
  refine W.widen (k := 222) (n := 27326) (by decide) (by decide) ?_
  refine kz_pF C0 hnm hw 0 6 (1, 0, 220) (hi := (rfl : LDX11_19[0]? = some ((0, 11, 0, [(1, 0, 1), (1, 0, 184), (1, 0, 185), (1, 0, 186), (1, 0, 210), (1, 0, 215), (3, 0, 0), (3, 0, 0), (3, 0, 0), (0, 0, 0), (4, 0, 0), (4, 0, 0)]) : FE))) (by decide) h_a (show fvV ad (1, 0, 220) = .ref q7 from congrArg Value.ref h_q7) ff_X11_44 rfl rfl (dk2 dF_181 DX11_init (i := 34) rfl rfl rfl) (fun H locs hw => ?_)
  have hw : SF G kc A s.heap LDX11_20 ad H locs := hw
  refine lv_aload_n hx hb (dkP dF_42 DX11_init (i := 35) rfl rfl) rfl (lv_at hl 0 rfl) ?_
  refine kz_new C0 hw 223 (by decide) (by decide +kernel) nw_X11_48 (by decide) (by decide) (dk2 dF_187 DX11_init (i := 36) rfl rfl rfl) (fun q8 ad H h_q8 had hw => ?_)
  have hw : SF G kc A s.heap (LDX11_20 ++ [(0, 7, 0, [(3, 0, 0), (3, 0, 0), (3, 0, 0)])]) ad H locs := hw
  have h_a : ad 0 = a := (had 0 (by decide)).trans h_a
  have h_q1 : ad 1 = q1 := (had 1 (by decide)).trans h_q1
  have h_q2 : ad 184 = q2 := (had 184 (by decide)).trans h_q2
  have h_q3 : ad 185 = q3 := (had 185 (by decide)).trans h_q3
  have h_q4 : ad 186 = q4 := (had 186 (by decide)).trans h_q4
  have h_q5 : ad 210 = q5 := (had 210 (by decide)).trans h_q5
  have h_q6 : ad 215 = q6 := (had 215 (by decide)).trans h_q6
  have h_q7 : ad 220 = q7 := (had 220 (by decide)).trans h_q7
  clear had
  refine W.widen (k := 223) (n := 27329) (by decide) (by decide) ?_
  refine lv_dup hx hb (dkP dF_89 DX11_init (i := 37) rfl rfl) rfl ?_
  refine kz_call (vs := []) (rest := [.ref q8, .ref a]) C0 hRo (c_X7_init l G kc) 223 hw (by decide) (by decide +kernel) (fun _ _ => rfl) h_q8 ci_X7_init lk_X11_50 rfl hl.1 rfl ⟨by decide, by decide⟩ (Nat.le_of_ble_eq_true rfl) (dk2 dF_183 DX11_init (i := 38) rfl rfl rfl) ⟨by decide, by decide⟩ (fun ad H locs h_q8 had hw => ?_)
  have hw : SF G kc A s.heap LDX11_22 ad H locs := hw
  have h_a : ad 0 = a := (had 0 (by decide)).trans h_a
  have h_q1 : ad 1 = q1 := (had 1 (by decide)).trans h_q1
  have h_q2 : ad 184 = q2 := (had 184 (by decide)).trans h_q2
  have h_q3 : ad 185 = q3 := (had 185 (by decide)).trans h_q3
  have h_q4 : ad 186 = q4 := (had 186 (by decide)).trans h_q4
  have h_q5 : ad 210 = q5 := (had 210 (by decide)).trans h_q5
  have h_q6 : ad 215 = q6 := (had 215 (by decide)).trans h_q6
  have h_q7 : ad 220 = q7 := (had 220 (by decide)).trans h_q7
  clear had
  refine W.widen (k := 226) (n := 27577) (by decide) (by decide) ?_
  refine kz_pF C0 hnm hw 0 7 (1, 0, 223) (hi := (rfl : LDX11_22[0]? = some ((0, 11, 0, [(1, 0, 1), (1, 0, 184), (1, 0, 185), (1, 0, 186), (1, 0, 210), (1, 0, 215), (1, 0, 220), (3, 0, 0), (3, 0, 0), (0, 0, 0), (4, 0, 0), (4, 0, 0)]) : FE))) (by decide) h_a (show fvV ad (1, 0, 223) = .ref q8 from congrArg Value.ref h_q8) ff_X11_51 rfl rfl (dk2 dF_181 DX11_init (i := 39) rfl rfl rfl) (fun H locs hw => ?_)
  have hw : SF G kc A s.heap LDX11_23 ad H locs := hw
  refine lv_aload_n hx hb (dkP dF_42 DX11_init (i := 40) rfl rfl) rfl (lv_at hl 0 rfl) ?_
  refine lv_bipush (v := 8) hx hb (dks dF_16 DX11_init (i := 41) rfl rfl rfl) (by decide) ?_
  refine kz_newai C0 hw 227 8 (by decide) (by decide +kernel) ar_int (by decide) (by decide) (by decide) (by decide) (by decide) (dkN DX11_init (i := 42) rfl rfl rfl (by decide)) (fun q9 ad H h_q9 had hw => ?_)
  have hw : SF G kc A s.heap LDX11_24 ad H locs := hw
  have h_a : ad 0 = a := (had 0 (by decide)).trans h_a
  have h_q1 : ad 1 = q1 := (had 1 (by decide)).trans h_q1
  have h_q2 : ad 184 = q2 := (had 184 (by decide)).trans h_q2
  have h_q3 : ad 185 = q3 := (had 185 (by decide)).trans h_q3
  have h_q4 : ad 186 = q4 := (had 186 (by decide)).trans h_q4
  have h_q5 : ad 210 = q5 := (had 210 (by decide)).trans h_q5
  have h_q6 : ad 215 = q6 := (had 215 (by decide)).trans h_q6
  have h_q7 : ad 220 = q7 := (had 220 (by decide)).trans h_q7
  have h_q8 : ad 223 = q8 := (had 223 (by decide)).trans h_q8
  clear had
  refine W.widen (k := 227) (n := 27585) (by decide) (by decide) ?_
  refine kz_pF C0 hnm hw 0 8 (1, 0, 227) (hi := (rfl : LDX11_24[0]? = some ((0, 11, 0, [(1, 0, 1), (1, 0, 184), (1, 0, 185), (1, 0, 186), (1, 0, 210), (1, 0, 215), (1, 0, 220), (1, 0, 223), (3, 0, 0), (0, 0, 0), (4, 0, 0), (4, 0, 0)]) : FE))) (by decide) h_a (show fvV ad (1, 0, 227) = .ref q9 from congrArg Value.ref h_q9) ff_X11_55 rfl rfl (dk2 dF_181 DX11_init (i := 43) rfl rfl rfl) (fun H locs hw => ?_)
  have hw : SF G kc A s.heap LDX11_25 ad H locs := hw
  refine lv_aload_n hx hb (dkP dF_42 DX11_init (i := 44) rfl rfl) rfl (lv_at hl 0 rfl) ?_
  refine lv_iconst (v := (-1)) hx hb (dkP dF_2 DX11_init (i := 45) rfl rfl) (by decide) ?_
  refine kz_p C0 hw 0 9 (0, -1, 0) (hi := (rfl : LDX11_25[0]? = some ((0, 11, 0, [(1, 0, 1), (1, 0, 184), (1, 0, 185), (1, 0, 186), (1, 0, 210), (1, 0, 215), (1, 0, 220), (1, 0, 223), (1, 0, 227), (0, 0, 0), (4, 0, 0), (4, 0, 0)]) : FE))) (by decide) h_a rfl fp_X11_59 rfl rfl (dk2 dF_181 DX11_init (i := 46) rfl rfl rfl) (fun H locs hw => ?_)
  have hw : SF G kc A s.heap LDX11_26 ad H locs := hw
  refine lv_aload_n hx hb (dkP dF_42 DX11_init (i := 47) rfl rfl) rfl (lv_at hl 0 rfl) ?_
  refine kz_new C0 hw 228 (by decide) (by decide +kernel) nw_X11_63 (by decide) (by decide) (dk2 dF_187 DX11_init (i := 48) rfl rfl rfl) (fun q10 ad H h_q10 had hw => ?_)
  have hw : SF G kc A s.heap (LDX11_26 ++ [(0, 9, 0, [(0, 0, 0), (0, 0, 0), (0, 0, 0), (3, 0, 0), (3, 0, 0), (3, 0, 0), (3, 0, 0), (3, 0, 0), (3, 0, 0), (3, 0, 0), (3, 0, 0), (3, 0, 0), (3, 0, 0)])]) ad H locs := hw
  have h_a : ad 0 = a := (had 0 (by decide)).trans h_a
  have h_q1 : ad 1 = q1 := (had 1 (by decide)).trans h_q1
  have h_q2 : ad 184 = q2 := (had 184 (by decide)).trans h_q2
  have h_q3 : ad 185 = q3 := (had 185 (by decide)).trans h_q3
  have h_q4 : ad 186 = q4 := (had 186 (by decide)).trans h_q4
  have h_q5 : ad 210 = q5 := (had 210 (by decide)).trans h_q5
  have h_q6 : ad 215 = q6 := (had 215 (by decide)).trans h_q6
  have h_q7 : ad 220 = q7 := (had 220 (by decide)).trans h_q7
  have h_q8 : ad 223 = q8 := (had 223 (by decide)).trans h_q8
  have h_q9 : ad 227 = q9 := (had 227 (by decide)).trans h_q9
  clear had
  refine W.widen (k := 228) (n := 27598) (by decide) (by decide) ?_
  refine lv_dup hx hb (dkP dF_89 DX11_init (i := 49) rfl rfl) rfl ?_
  refine kz_call (vs := []) (rest := [.ref q10, .ref a]) C0 hRo (c_X9_init l G kc) 228 hw (by decide) (by decide +kernel) (fun _ _ => rfl) h_q10 ci_X9_init lk_X11_65 rfl hl.1 rfl ⟨by decide, by decide⟩ (Nat.le_of_ble_eq_true rfl) (dk2 dF_183 DX11_init (i := 50) rfl rfl rfl) ⟨by decide, by decide⟩ (fun ad H locs h_q10 had hw => ?_)
  have hw : SF G kc A s.heap LDX11_28 ad H locs := hw
  have h_a : ad 0 = a := (had 0 (by decide)).trans h_a
  have h_q1 : ad 1 = q1 := (had 1 (by decide)).trans h_q1
  have h_q2 : ad 184 = q2 := (had 184 (by decide)).trans h_q2
  have h_q3 : ad 185 = q3 := (had 185 (by decide)).trans h_q3
  have h_q4 : ad 186 = q4 := (had 186 (by decide)).trans h_q4
  have h_q5 : ad 210 = q5 := (had 210 (by decide)).trans h_q5
  have h_q6 : ad 215 = q6 := (had 215 (by decide)).trans h_q6
  have h_q7 : ad 220 = q7 := (had 220 (by decide)).trans h_q7
  have h_q8 : ad 223 = q8 := (had 223 (by decide)).trans h_q8
  have h_q9 : ad 227 = q9 := (had 227 (by decide)).trans h_q9
  clear had
  refine W.widen (k := 238) (n := 55058) (by decide) (by decide) ?_
  refine kz_p C0 hw 0 10 (2, 0, 228) (hi := (rfl : LDX11_28[0]? = some ((0, 11, 0, [(1, 0, 1), (1, 0, 184), (1, 0, 185), (1, 0, 186), (1, 0, 210), (1, 0, 215), (1, 0, 220), (1, 0, 223), (1, 0, 227), (0, -1, 0), (4, 0, 0), (4, 0, 0)]) : FE))) (by decide) h_a (show fvV ad (2, 0, 228) = .ref q10 from congrArg Value.ref h_q10) fp_X11_66 rfl rfl (dk2 dF_181 DX11_init (i := 51) rfl rfl rfl) (fun H locs hw => ?_)
  have hw : SF G kc A s.heap LDX11_29 ad H locs := hw
  refine lv_aload_n hx hb (dkP dF_42 DX11_init (i := 52) rfl rfl) rfl (lv_at hl 0 rfl) ?_
  refine kz_new C0 hw 239 (by decide) (by decide +kernel) nw_X11_63 (by decide) (by decide) (dk2 dF_187 DX11_init (i := 53) rfl rfl rfl) (fun q11 ad H h_q11 had hw => ?_)
  have hw : SF G kc A s.heap (LDX11_29 ++ [(0, 9, 0, [(0, 0, 0), (0, 0, 0), (0, 0, 0), (3, 0, 0), (3, 0, 0), (3, 0, 0), (3, 0, 0), (3, 0, 0), (3, 0, 0), (3, 0, 0), (3, 0, 0), (3, 0, 0), (3, 0, 0)])]) ad H locs := hw
  have h_a : ad 0 = a := (had 0 (by decide)).trans h_a
  have h_q1 : ad 1 = q1 := (had 1 (by decide)).trans h_q1
  have h_q2 : ad 184 = q2 := (had 184 (by decide)).trans h_q2
  have h_q3 : ad 185 = q3 := (had 185 (by decide)).trans h_q3
  have h_q4 : ad 186 = q4 := (had 186 (by decide)).trans h_q4
  have h_q5 : ad 210 = q5 := (had 210 (by decide)).trans h_q5
  have h_q6 : ad 215 = q6 := (had 215 (by decide)).trans h_q6
  have h_q7 : ad 220 = q7 := (had 220 (by decide)).trans h_q7
  have h_q8 : ad 223 = q8 := (had 223 (by decide)).trans h_q8
  have h_q9 : ad 227 = q9 := (had 227 (by decide)).trans h_q9
  have h_q10 : ad 228 = q10 := (had 228 (by decide)).trans h_q10
  clear had
  refine W.widen (k := 239) (n := 55071) (by decide) (by decide) ?_
  refine lv_dup hx hb (dkP dF_89 DX11_init (i := 54) rfl rfl) rfl ?_
  refine kz_call (vs := []) (rest := [.ref q11, .ref a]) C0 hRo (c_X9_init l G kc) 239 hw (by decide) (by decide +kernel) (fun _ _ => rfl) h_q11 ci_X9_init lk_X11_65 rfl hl.1 rfl ⟨by decide, by decide⟩ (Nat.le_of_ble_eq_true rfl) (dk2 dF_183 DX11_init (i := 55) rfl rfl rfl) ⟨by decide, by decide⟩ (fun ad H locs h_q11 had hw => ?_)
  have hw : SF G kc A s.heap LDX11_31 ad H locs := hw
  have h_a : ad 0 = a := (had 0 (by decide)).trans h_a
  have h_q1 : ad 1 = q1 := (had 1 (by decide)).trans h_q1
  have h_q2 : ad 184 = q2 := (had 184 (by decide)).trans h_q2
  have h_q3 : ad 185 = q3 := (had 185 (by decide)).trans h_q3
  have h_q4 : ad 186 = q4 := (had 186 (by decide)).trans h_q4
  have h_q5 : ad 210 = q5 := (had 210 (by decide)).trans h_q5
  have h_q6 : ad 215 = q6 := (had 215 (by decide)).trans h_q6
  have h_q7 : ad 220 = q7 := (had 220 (by decide)).trans h_q7
  have h_q8 : ad 223 = q8 := (had 223 (by decide)).trans h_q8
  have h_q9 : ad 227 = q9 := (had 227 (by decide)).trans h_q9
  have h_q10 : ad 228 = q10 := (had 228 (by decide)).trans h_q10
  clear had
  refine W.widen (k := 249) (n := 82531) (by decide) (by decide) ?_
  refine kz_p C0 hw 0 11 (2, 0, 239) (hi := (rfl : LDX11_31[0]? = some ((0, 11, 0, [(1, 0, 1), (1, 0, 184), (1, 0, 185), (1, 0, 186), (1, 0, 210), (1, 0, 215), (1, 0, 220), (1, 0, 223), (1, 0, 227), (0, -1, 0), (2, 0, 228), (4, 0, 0)]) : FE))) (by decide) h_a (show fvV ad (2, 0, 239) = .ref q11 from congrArg Value.ref h_q11) fp_X11_70 rfl rfl (dk2 dF_181 DX11_init (i := 56) rfl rfl rfl) (fun H locs hw => ?_)
  have hw : SF G kc A s.heap LDX11_32 ad H locs := hw
  refine lv_iconst (v := 0) hx hb (dkP dF_3 DX11_init (i := 57) rfl rfl) (by decide) ?_
  refine lv_istore_n (lv' := [(1, .int 0), (0, .ref a)]) hx hb (dkP dF_60 DX11_init (i := 58) rfl rfl) rfl hl (by decide) rfl (fun ls hl => ?_)
  refine lv_iload_n hx hb (dkP dF_27 DX11_init (i := 59) rfl rfl) rfl (lv_at hl 0 rfl) ?_
  refine lv_iconst (v := 3) hx hb (dkP dF_6 DX11_init (i := 60) rfl rfl) (by decide) ?_
  refine lv_icmp_ge (tgt := 146) hx hb (dkS dF_162 DX11_init (i := 61) rfl rfl rfl) (by decide) (fun h => absurd h (by decide)) (fun _ => ?_)
  refine lv_aload_n hx hb (dkP dF_42 DX11_init (i := 62) rfl rfl) rfl (lv_at hl 1 rfl) ?_
  refine kz_g C0 hw 0 1 (1, 0, 184) (rfl : LDX11_32[0]? = some ((0, 11, 0, [(1, 0, 1), (1, 0, 184), (1, 0, 185), (1, 0, 186), (1, 0, 210), (1, 0, 215), (1, 0, 220), (1, 0, 223), (1, 0, 227), (0, -1, 0), (2, 0, 228), (2, 0, 239)]) : FE)) rfl h_a (congrArg Value.ref h_q2) fl_X11_16 (dk2 dF_180 DX11_init (i := 63) rfl rfl rfl) ?_
  refine lv_iload_n hx hb (dkP dF_27 DX11_init (i := 64) rfl rfl) rfl (lv_at hl 0 rfl) ?_
  refine kz_new C0 hw 250 (by decide) (by decide +kernel) nw_X11_7 (by decide) (by decide) (dk2 dF_187 DX11_init (i := 65) rfl rfl rfl) (fun q12 ad H h_q12 had hw => ?_)
  have hw : SF G kc A s.heap (LDX11_32 ++ [(0, 10, 0, [(3, 0, 0), (3, 0, 0), (3, 0, 0), (3, 0, 0), (0, 0, 0), (0, 0, 0), (0, 0, 0), (3, 0, 0)])]) ad H locs := hw
  have h_a : ad 0 = a := (had 0 (by decide)).trans h_a
  have h_q1 : ad 1 = q1 := (had 1 (by decide)).trans h_q1
  have h_q2 : ad 184 = q2 := (had 184 (by decide)).trans h_q2
  have h_q3 : ad 185 = q3 := (had 185 (by decide)).trans h_q3
  have h_q4 : ad 186 = q4 := (had 186 (by decide)).trans h_q4
  have h_q5 : ad 210 = q5 := (had 210 (by decide)).trans h_q5
  have h_q6 : ad 215 = q6 := (had 215 (by decide)).trans h_q6
  have h_q7 : ad 220 = q7 := (had 220 (by decide)).trans h_q7
  have h_q8 : ad 223 = q8 := (had 223 (by decide)).trans h_q8
  have h_q9 : ad 227 = q9 := (had 227 (by decide)).trans h_q9
  have h_q10 : ad 228 = q10 := (had 228 (by decide)).trans h_q10
  have h_q11 : ad 239 = q11 := (had 239 (by decide)).trans h_q11
  clear had
  refine W.widen (k := 250) (n := 82539) (by decide) (by decide) ?_
  refine lv_dup hx hb (dkP dF_89 DX11_init (i := 66) rfl rfl) rfl ?_
  refine kz_call (vs := []) (rest := [.ref q12, .int 0, .ref q2]) C0 hRo (c_X10_init l G kc) 250 hw (by decide) (by decide +kernel) (fun _ _ => rfl) h_q12 ci_X10_init lk_X11_9 rfl hl.1 rfl ⟨by decide, by decide⟩ (Nat.le_of_ble_eq_true rfl) (dk2 dF_183 DX11_init (i := 67) rfl rfl rfl) ⟨by decide, by decide⟩ (fun ad H locs h_q12 had hw => ?_)
  have hw : SF G kc A s.heap LDX11_34 ad H locs := hw
  have h_a : ad 0 = a := (had 0 (by decide)).trans h_a
  have h_q1 : ad 1 = q1 := (had 1 (by decide)).trans h_q1
  have h_q2 : ad 184 = q2 := (had 184 (by decide)).trans h_q2
  have h_q3 : ad 185 = q3 := (had 185 (by decide)).trans h_q3
  have h_q4 : ad 186 = q4 := (had 186 (by decide)).trans h_q4
  have h_q5 : ad 210 = q5 := (had 210 (by decide)).trans h_q5
  have h_q6 : ad 215 = q6 := (had 215 (by decide)).trans h_q6
  have h_q7 : ad 220 = q7 := (had 220 (by decide)).trans h_q7
  have h_q8 : ad 223 = q8 := (had 223 (by decide)).trans h_q8
  have h_q9 : ad 227 = q9 := (had 227 (by decide)).trans h_q9
  have h_q10 : ad 228 = q10 := (had 228 (by decide)).trans h_q10
  have h_q11 : ad 239 = q11 := (had 239 (by decide)).trans h_q11
  clear had
  refine W.widen (k := 432) (n := 104278) (by decide) (by decide) ?_
  refine kz_aastw C0 hw 184 250 (rfl : LDX11_34[184]? = some ((5, 3, 0, []) : FE)) (rfl : LDX11_34[250]? = some ((0, 10, 0, [(1, 0, 251), (1, 0, 252), (1, 0, 253), (1, 0, 254), (0, 0, 0), (0, 0, 0), (0, 0, 0), (1, 0, 255)]) : FE)) rfl rfl h_q2 h_q12 (by unfold vp_in; decide) (by decide) (dkP dF_83 DX11_init (i := 68) rfl rfl) (fun H locs hw => ?_)
  have hw : SF G kc A s.heap LDX11_35 ad H locs := hw
  refine lv_iinc (v := 1) (lv' := [(1, .int 1), (0, .ref a)]) hx hb (dkI DX11_init (i := 69) rfl rfl rfl rfl) hl (k := 0) rfl (by decide) (by decide) rfl (fun ls hl => ?_)
  refine lv_goto (tgt := 122) hx hb (dkS dF_167 DX11_init (i := 70) rfl rfl rfl) (by decide) ?_
  refine lv_iload_n hx hb (dkP dF_27 DX11_init (i := 59) rfl rfl) rfl (lv_at hl 0 rfl) ?_
  refine lv_iconst (v := 3) hx hb (dkP dF_6 DX11_init (i := 60) rfl rfl) (by decide) ?_
  refine lv_icmp_ge (tgt := 146) hx hb (dkS dF_162 DX11_init (i := 61) rfl rfl rfl) (by decide) (fun h => absurd h (by decide)) (fun _ => ?_)
  refine lv_aload_n hx hb (dkP dF_42 DX11_init (i := 62) rfl rfl) rfl (lv_at hl 1 rfl) ?_
  refine kz_g C0 hw 0 1 (1, 0, 184) (rfl : LDX11_35[0]? = some ((0, 11, 0, [(1, 0, 1), (1, 0, 184), (1, 0, 185), (1, 0, 186), (1, 0, 210), (1, 0, 215), (1, 0, 220), (1, 0, 223), (1, 0, 227), (0, -1, 0), (2, 0, 228), (2, 0, 239)]) : FE)) rfl h_a (congrArg Value.ref h_q2) fl_X11_16 (dk2 dF_180 DX11_init (i := 63) rfl rfl rfl) ?_
  refine lv_iload_n hx hb (dkP dF_27 DX11_init (i := 64) rfl rfl) rfl (lv_at hl 0 rfl) ?_
  refine kz_new C0 hw 433 (by decide) (by decide +kernel) nw_X11_7 (by decide) (by decide) (dk2 dF_187 DX11_init (i := 65) rfl rfl rfl) (fun q13 ad H h_q13 had hw => ?_)
  have hw : SF G kc A s.heap (LDX11_35 ++ [(0, 10, 0, [(3, 0, 0), (3, 0, 0), (3, 0, 0), (3, 0, 0), (0, 0, 0), (0, 0, 0), (0, 0, 0), (3, 0, 0)])]) ad H locs := hw
  have h_a : ad 0 = a := (had 0 (by decide)).trans h_a
  have h_q1 : ad 1 = q1 := (had 1 (by decide)).trans h_q1
  have h_q2 : ad 184 = q2 := (had 184 (by decide)).trans h_q2
  have h_q3 : ad 185 = q3 := (had 185 (by decide)).trans h_q3
  have h_q4 : ad 186 = q4 := (had 186 (by decide)).trans h_q4
  have h_q5 : ad 210 = q5 := (had 210 (by decide)).trans h_q5
  have h_q6 : ad 215 = q6 := (had 215 (by decide)).trans h_q6
  have h_q7 : ad 220 = q7 := (had 220 (by decide)).trans h_q7
  have h_q8 : ad 223 = q8 := (had 223 (by decide)).trans h_q8
  have h_q9 : ad 227 = q9 := (had 227 (by decide)).trans h_q9
  have h_q10 : ad 228 = q10 := (had 228 (by decide)).trans h_q10
  have h_q11 : ad 239 = q11 := (had 239 (by decide)).trans h_q11
  clear had
  refine W.widen (k := 433) (n := 104286) (by decide) (by decide) ?_
  refine lv_dup hx hb (dkP dF_89 DX11_init (i := 66) rfl rfl) rfl ?_
  refine kz_call (vs := []) (rest := [.ref q13, .int 1, .ref q2]) C0 hRo (c_X10_init l G kc) 433 hw (by decide) (by decide +kernel) (fun _ _ => rfl) h_q13 ci_X10_init lk_X11_9 rfl hl.1 rfl ⟨by decide, by decide⟩ (Nat.le_of_ble_eq_true rfl) (dk2 dF_183 DX11_init (i := 67) rfl rfl rfl) ⟨by decide, by decide⟩ (fun ad H locs h_q13 had hw => ?_)
  have hw : SF G kc A s.heap LDX11_37 ad H locs := hw
  have h_a : ad 0 = a := (had 0 (by decide)).trans h_a
  have h_q1 : ad 1 = q1 := (had 1 (by decide)).trans h_q1
  have h_q2 : ad 184 = q2 := (had 184 (by decide)).trans h_q2
  have h_q3 : ad 185 = q3 := (had 185 (by decide)).trans h_q3
  have h_q4 : ad 186 = q4 := (had 186 (by decide)).trans h_q4
  have h_q5 : ad 210 = q5 := (had 210 (by decide)).trans h_q5
  have h_q6 : ad 215 = q6 := (had 215 (by decide)).trans h_q6
  have h_q7 : ad 220 = q7 := (had 220 (by decide)).trans h_q7
  have h_q8 : ad 223 = q8 := (had 223 (by decide)).trans h_q8
  have h_q9 : ad 227 = q9 := (had 227 (by decide)).trans h_q9
  have h_q10 : ad 228 = q10 := (had 228 (by decide)).trans h_q10
  have h_q11 : ad 239 = q11 := (had 239 (by decide)).trans h_q11
  clear had
  refine W.widen (k := 615) (n := 126025) (by decide) (by decide) ?_
  refine kz_aastw C0 hw 184 433 (rfl : LDX11_37[184]? = some ((5, 3, 0, [(2, 0, 250)]) : FE)) (rfl : LDX11_37[433]? = some ((0, 10, 0, [(1, 0, 434), (1, 0, 435), (1, 0, 436), (1, 0, 437), (0, 0, 0), (0, 0, 0), (0, 0, 0), (1, 0, 438)]) : FE)) rfl rfl h_q2 h_q13 (by unfold vp_in; decide) (by decide) (dkP dF_83 DX11_init (i := 68) rfl rfl) (fun H locs hw => ?_)
  have hw : SF G kc A s.heap LDX11_38 ad H locs := hw
  refine lv_iinc (v := 2) (lv' := [(1, .int 2), (0, .ref a)]) hx hb (dkI DX11_init (i := 69) rfl rfl rfl rfl) hl (k := 0) rfl (by decide) (by decide) rfl (fun ls hl => ?_)
  refine lv_goto (tgt := 122) hx hb (dkS dF_167 DX11_init (i := 70) rfl rfl rfl) (by decide) ?_
  refine lv_iload_n hx hb (dkP dF_27 DX11_init (i := 59) rfl rfl) rfl (lv_at hl 0 rfl) ?_
  refine lv_iconst (v := 3) hx hb (dkP dF_6 DX11_init (i := 60) rfl rfl) (by decide) ?_
  refine lv_icmp_ge (tgt := 146) hx hb (dkS dF_162 DX11_init (i := 61) rfl rfl rfl) (by decide) (fun h => absurd h (by decide)) (fun _ => ?_)
  refine lv_aload_n hx hb (dkP dF_42 DX11_init (i := 62) rfl rfl) rfl (lv_at hl 1 rfl) ?_
  refine kz_g C0 hw 0 1 (1, 0, 184) (rfl : LDX11_38[0]? = some ((0, 11, 0, [(1, 0, 1), (1, 0, 184), (1, 0, 185), (1, 0, 186), (1, 0, 210), (1, 0, 215), (1, 0, 220), (1, 0, 223), (1, 0, 227), (0, -1, 0), (2, 0, 228), (2, 0, 239)]) : FE)) rfl h_a (congrArg Value.ref h_q2) fl_X11_16 (dk2 dF_180 DX11_init (i := 63) rfl rfl rfl) ?_
  refine lv_iload_n hx hb (dkP dF_27 DX11_init (i := 64) rfl rfl) rfl (lv_at hl 0 rfl) ?_
  refine kz_new C0 hw 616 (by decide) (by decide +kernel) nw_X11_7 (by decide) (by decide) (dk2 dF_187 DX11_init (i := 65) rfl rfl rfl) (fun q14 ad H h_q14 had hw => ?_)
  have hw : SF G kc A s.heap (LDX11_38 ++ [(0, 10, 0, [(3, 0, 0), (3, 0, 0), (3, 0, 0), (3, 0, 0), (0, 0, 0), (0, 0, 0), (0, 0, 0), (3, 0, 0)])]) ad H locs := hw
  have h_a : ad 0 = a := (had 0 (by decide)).trans h_a
  have h_q1 : ad 1 = q1 := (had 1 (by decide)).trans h_q1
  have h_q2 : ad 184 = q2 := (had 184 (by decide)).trans h_q2
  have h_q3 : ad 185 = q3 := (had 185 (by decide)).trans h_q3
  have h_q4 : ad 186 = q4 := (had 186 (by decide)).trans h_q4
  have h_q5 : ad 210 = q5 := (had 210 (by decide)).trans h_q5
  have h_q6 : ad 215 = q6 := (had 215 (by decide)).trans h_q6
  have h_q7 : ad 220 = q7 := (had 220 (by decide)).trans h_q7
  have h_q8 : ad 223 = q8 := (had 223 (by decide)).trans h_q8
  have h_q9 : ad 227 = q9 := (had 227 (by decide)).trans h_q9
  have h_q10 : ad 228 = q10 := (had 228 (by decide)).trans h_q10
  have h_q11 : ad 239 = q11 := (had 239 (by decide)).trans h_q11
  clear had
  refine W.widen (k := 616) (n := 126033) (by decide) (by decide) ?_
  refine lv_dup hx hb (dkP dF_89 DX11_init (i := 66) rfl rfl) rfl ?_
  refine kz_call (vs := []) (rest := [.ref q14, .int 2, .ref q2]) C0 hRo (c_X10_init l G kc) 616 hw (by decide) (by decide +kernel) (fun _ _ => rfl) h_q14 ci_X10_init lk_X11_9 rfl hl.1 rfl ⟨by decide, by decide⟩ (Nat.le_of_ble_eq_true rfl) (dk2 dF_183 DX11_init (i := 67) rfl rfl rfl) ⟨by decide, by decide⟩ (fun ad H locs h_q14 had hw => ?_)
  have hw : SF G kc A s.heap LDX11_40 ad H locs := hw
  have h_a : ad 0 = a := (had 0 (by decide)).trans h_a
  have h_q1 : ad 1 = q1 := (had 1 (by decide)).trans h_q1
  have h_q2 : ad 184 = q2 := (had 184 (by decide)).trans h_q2
  have h_q3 : ad 185 = q3 := (had 185 (by decide)).trans h_q3
  have h_q4 : ad 186 = q4 := (had 186 (by decide)).trans h_q4
  have h_q5 : ad 210 = q5 := (had 210 (by decide)).trans h_q5
  have h_q6 : ad 215 = q6 := (had 215 (by decide)).trans h_q6
  have h_q7 : ad 220 = q7 := (had 220 (by decide)).trans h_q7
  have h_q8 : ad 223 = q8 := (had 223 (by decide)).trans h_q8
  have h_q9 : ad 227 = q9 := (had 227 (by decide)).trans h_q9
  have h_q10 : ad 228 = q10 := (had 228 (by decide)).trans h_q10
  have h_q11 : ad 239 = q11 := (had 239 (by decide)).trans h_q11
  clear had
  refine W.widen (k := 798) (n := 147772) (by decide) (by decide) ?_
  refine kz_aastw C0 hw 184 616 (rfl : LDX11_40[184]? = some ((5, 3, 0, [(2, 0, 250), (2, 0, 433)]) : FE)) (rfl : LDX11_40[616]? = some ((0, 10, 0, [(1, 0, 617), (1, 0, 618), (1, 0, 619), (1, 0, 620), (0, 0, 0), (0, 0, 0), (0, 0, 0), (1, 0, 621)]) : FE)) rfl rfl h_q2 h_q14 (by unfold vp_in; decide) (by decide) (dkP dF_83 DX11_init (i := 68) rfl rfl) (fun H locs hw => ?_)
  have hw : SF G kc A s.heap LDX11_41 ad H locs := hw
  refine lv_iinc (v := 3) (lv' := [(1, .int 3), (0, .ref a)]) hx hb (dkI DX11_init (i := 69) rfl rfl rfl rfl) hl (k := 0) rfl (by decide) (by decide) rfl (fun ls hl => ?_)
  refine lv_goto (tgt := 122) hx hb (dkS dF_167 DX11_init (i := 70) rfl rfl rfl) (by decide) ?_
  refine lv_iload_n hx hb (dkP dF_27 DX11_init (i := 59) rfl rfl) rfl (lv_at hl 0 rfl) ?_
  refine lv_iconst (v := 3) hx hb (dkP dF_6 DX11_init (i := 60) rfl rfl) (by decide) ?_
  refine lv_icmp_ge (tgt := 146) hx hb (dkS dF_162 DX11_init (i := 61) rfl rfl rfl) (by decide) (fun _ => ?_) (fun h => absurd h (by decide))
  exact kz_vret C0 hr hlk hw h_a (eqF (by decide +kernel)) (dkP dF_177 DX11_init (i := 71) rfl rfl)
