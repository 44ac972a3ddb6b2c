theorem tb_t1 {w : Cond} (i : Nat) (h : tables_1_1[i]? = some w) : w ∈ lw_tbl := (List.mem_append_right _ (List.mem_append_left _ (List.mem_of_getElem? h)))
theorem tb_t2 {w : Cond} (i : Nat) (h : tables_1_2[i]? = some w) : w ∈ lw_tbl := (List.mem_append_right _ (List.mem_append_right _ (List.mem_append_left _ (List.mem_of_getElem? h))))
theorem tb_t3 {w : Cond} (i : Nat) (h : tables_1_3[i]? = some w) : w ∈ lw_tbl := (List.mem_append_right _ (List.mem_append_right _ (List.mem_append_right _ (List.mem_append_left _ (List.mem_of_getElem? h)))))
theorem tb_t4 {w : Cond} (i : Nat) (h : tables_1_4[i]? = some w) : w ∈ lw_tbl := (List.mem_append_right _ (List.mem_append_right _ (List.mem_append_right _ (List.mem_append_right _ (List.mem_append_left _ (List.mem_of_getElem? h))))))
theorem tb_t5 {w : Cond} (i : Nat) (h : tables_1_5[i]? = some w) : w ∈ lw_tbl := (List.mem_append_right _ (List.mem_append_right _ (List.mem_append_right _ (List.mem_append_right _ (List.mem_append_right _ (List.mem_append_left _ (List.mem_of_getElem? h)))))))
theorem tb_t6 {w : Cond} (i : Nat) (h : tables_1_6[i]? = some w) : w ∈ lw_tbl := (List.mem_append_right _ (List.mem_append_right _ (List.mem_append_right _ (List.mem_append_right _ (List.mem_append_right _ (List.mem_append_right _ (List.mem_append_left _ (List.mem_of_getElem? h))))))))
theorem tb_t7 {w : Cond} (i : Nat) (h : tables_1_7[i]? = some w) : w ∈ lw_tbl := (List.mem_append_right _ (List.mem_append_right _ (List.mem_append_right _ (List.mem_append_right _ (List.mem_append_right _ (List.mem_append_right _ (List.mem_append_right _ (List.mem_append_left _ (List.mem_of_getElem? h)))))))))
theorem tb_t8 {w : Cond} (i : Nat) (h : tables_1_8[i]? = some w) : w ∈ lw_tbl := (List.mem_append_right _ (List.mem_append_right _ (List.mem_append_right _ (List.mem_append_right _ (List.mem_append_right _ (List.mem_append_right _ (List.mem_append_right _ (List.mem_append_right _ (List.mem_append_left _ (List.mem_of_getElem? h))))))))))
theorem tb_t9 {w : Cond} (i : Nat) (h : tables_1_9[i]? = some w) : w ∈ lw_tbl := (List.mem_append_right _ (List.mem_append_right _ (List.mem_append_right _ (List.mem_append_right _ (List.mem_append_right _ (List.mem_append_right _ (List.mem_append_right _ (List.mem_append_right _ (List.mem_append_right _ (List.mem_of_getElem? h))))))))))
set_option maxRecDepth 20000 in
theorem ao_w : Cond.arrayOver (.object "CarriedWorks$Works") ∈ lw_tbl := (tb_t2 34 rfl)
set_option maxRecDepth 20000 in
theorem ao_p : Cond.arrayOver (.object "CarriedWorks$Program") ∈ lw_tbl := (tb_t1 37 rfl)
set_option maxRecDepth 20000 in
theorem it_X0 : Cond.instantiable RX0 9 ∈ lw_gd := (gd_t2 90 rfl rfl)
set_option maxRecDepth 20000 in
theorem it_X1 : Cond.instantiable RX1 10 ∈ lw_gd := (gd_t1 144 rfl rfl)
set_option maxRecDepth 20000 in
theorem it_X2 : Cond.instantiable RX2 10 ∈ lw_gd := (gd_t1 61 rfl rfl)
set_option maxRecDepth 20000 in
theorem it_X3 : Cond.instantiable RX3 3 ∈ lw_gd := (gd_t2 135 rfl rfl)
set_option maxRecDepth 20000 in
theorem it_X4 : Cond.instantiable RX4 9 ∈ lw_gd := (gd_t1 55 rfl rfl)
set_option maxRecDepth 20000 in
theorem it_X5 : Cond.instantiable RX5 12 ∈ lw_gd := (gd_t2 36 rfl rfl)
set_option maxRecDepth 20000 in
theorem it_X6 : Cond.instantiable RX6 3 ∈ lw_gd := (gd_t1 39 rfl rfl)
set_option maxRecDepth 20000 in
theorem it_X7 : Cond.instantiable RX7 3 ∈ lw_gd := (gd_t2 153 rfl rfl)
set_option maxRecDepth 20000 in
theorem it_X8 : Cond.instantiable RX8 2 ∈ lw_gd := (gd_t1 67 rfl rfl)
set_option maxRecDepth 20000 in
theorem it_X9 : Cond.instantiable RX9 13 ∈ lw_gd := (gd_t2 173 rfl rfl)
set_option maxRecDepth 20000 in
theorem it_X10 : Cond.instantiable RX10 8 ∈ lw_gd := (gd_t1 31 rfl rfl)
set_option maxRecDepth 20000 in
theorem it_X11 : Cond.instantiable RX11 12 ∈ lw_gd := (gd_t1 23 rfl rfl)
set_option maxRecDepth 20000 in
theorem it_X12 : Cond.instantiable RX12 54 ∈ lw_gd := (gd_t6 38 rfl rfl)
set_option maxRecDepth 20000 in
theorem nw_L_7 : NW RL 7 11 12 [(3, 0, 0), (3, 0, 0), (3, 0, 0), (3, 0, 0), (3, 0, 0), (3, 0, 0), (3, 0, 0), (3, 0, 0), (3, 0, 0), (0, 0, 0), (4, 0, 0), (4, 0, 0)] := ⟨RX11, TX11, tyX11, rfl, hinX11, tyX11_ok, (gd_t1 22 rfl rfl), (gd_t1 23 rfl rfl), (gd_t1 1 rfl rfl), (fun j hj => by
  match j, hj with
  | 0, _ => rfl
  | 1, _ => rfl
  | 2, _ => rfl
  | 3, _ => rfl
  | 4, _ => rfl
  | 5, _ => rfl
  | 6, _ => rfl
  | 7, _ => rfl
  | 8, _ => rfl
  | 9, _ => rfl
  | 10, _ => rfl
  | 11, _ => rfl
  | j + 12, hj => exact absurd hj (by omega)), fun _ => rfl⟩
set_option maxRecDepth 20000 in
theorem nw_L_10 : NW RL 10 12 54 [(0, 0, 0), (3, 0, 0), (3, 0, 0), (3, 0, 0), (3, 0, 0), (0, 0, 0), (3, 0, 0), (0, 0, 0), (0, 0, 0), (0, 0, 0), (0, 0, 0), (0, 0, 0), (0, 0, 0), (0, 0, 0), (3, 0, 0), (3, 0, 0), (3, 0, 0), (3, 0, 0), (3, 0, 0), (0, 0, 0), (3, 0, 0), (3, 0, 0), (3, 0, 0), (0, 0, 0), (3, 0, 0), (0, 0, 0), (3, 0, 0), (0, 0, 0), (3, 0, 0), (3, 0, 0), (3, 0, 0), (3, 0, 0), (3, 0, 0), (0, 0, 0), (3, 0, 0), (3, 0, 0), (3, 0, 0), (3, 0, 0), (3, 0, 0), (3, 0, 0), (3, 0, 0), (0, 0, 0), (0, 0, 0), (0, 0, 0), (3, 0, 0), (3, 0, 0), (3, 0, 0), (3, 0, 0), (3, 0, 0), (0, 0, 0), (3, 0, 0), (3, 0, 0), (3, 0, 0), (3, 0, 0)] := ⟨RX12, TX12, tyX12, rfl, hinX12, tyX12_ok, (gd_t6 37 rfl rfl), (gd_t6 38 rfl rfl), (gd_t1 14 rfl rfl), (fun j hj => by
  match j, hj with
  | 0, _ => rfl
  | 1, _ => rfl
  | 2, _ => rfl
  | 3, _ => rfl
  | 4, _ => rfl
  | 5, _ => rfl
  | 6, _ => rfl
  | 7, _ => rfl
  | 8, _ => rfl
  | 9, _ => rfl
  | 10, _ => rfl
  | 11, _ => rfl
  | 12, _ => rfl
  | 13, _ => rfl
  | 14, _ => rfl
  | 15, _ => rfl
  | 16, _ => rfl
  | 17, _ => rfl
  | 18, _ => rfl
  | 19, _ => rfl
  | 20, _ => rfl
  | 21, _ => rfl
  | 22, _ => rfl
  | 23, _ => rfl
  | 24, _ => rfl
  | 25, _ => rfl
  | 26, _ => rfl
  | 27, _ => rfl
  | 28, _ => rfl
  | 29, _ => rfl
  | 30, _ => rfl
  | 31, _ => rfl
  | 32, _ => rfl
  | 33, _ => rfl
  | 34, _ => rfl
  | 35, _ => rfl
  | 36, _ => rfl
  | 37, _ => rfl
  | 38, _ => rfl
  | 39, _ => rfl
  | 40, _ => rfl
  | 41, _ => rfl
  | 42, _ => rfl
  | 43, _ => rfl
  | 44, _ => rfl
  | 45, _ => rfl
  | 46, _ => rfl
  | 47, _ => rfl
  | 48, _ => rfl
  | 49, _ => rfl
  | 50, _ => rfl
  | 51, _ => rfl
  | 52, _ => rfl
  | 53, _ => rfl
  | j + 54, hj => exact absurd hj (by omega)), fun _ => rfl⟩
theorem ka_int {s : State} {A : Array Value} (h : (Cond.arrayClass .int).before A s = true) : ∃ cA : ClassId, ArrOfT s cA .int ∧ va_RA s cA .int := by
  obtain ⟨cA, k, comp, h1, h2, h3⟩ := Cond.arrayClass_spec h
  exact ⟨cA, fun n z => ⟨fun k h => (by cases h), k, h2, comp, h3⟩, h1⟩
theorem ka_byte {s : State} {A : Array Value} (h : (Cond.arrayClass .byte).before A s = true) : ∃ cA : ClassId, ArrOfT s cA .byte ∧ va_RA s cA .byte := by
  obtain ⟨cA, k, comp, h1, h2, h3⟩ := Cond.arrayClass_spec h
  exact ⟨cA, fun n z => ⟨fun k h => (by cases h), k, h2, comp, h3⟩, h1⟩
theorem ka_boolean {s : State} {A : Array Value} (h : (Cond.arrayClass .boolean).before A s = true) : ∃ cA : ClassId, ArrOfT s cA .boolean ∧ va_RA s cA .boolean := by
  obtain ⟨cA, k, comp, h1, h2, h3⟩ := Cond.arrayClass_spec h
  exact ⟨cA, fun n z => ⟨fun k h => (by cases h), k, h2, comp, h3⟩, h1⟩
theorem ka_long {s : State} {A : Array Value} (h : (Cond.arrayClass .long).before A s = true) : ∃ cA : ClassId, ArrOfT s cA .long ∧ va_RA s cA .long := by
  obtain ⟨cA, k, comp, h1, h2, h3⟩ := Cond.arrayClass_spec h
  exact ⟨cA, fun n z => ⟨fun k h => (by cases h), k, h2, comp, h3⟩, h1⟩
theorem ka_obj {s : State} {A : Array Value} {C : String} (h : (Cond.arrayOver (.object C)).before A s = true) : ∃ cA : ClassId, ArrOfT s cA (.object C) ∧ va_RA s cA (.object C) := by
  obtain ⟨comp, cA, k, h1, h2, h3, h4, h5⟩ := Cond.arrayOver_spec h
  exact ⟨cA, fun n z => ⟨fun k h => (by cases h), k, h3, comp, h4⟩, k, comp, h3, h4, h1, h5⟩

def tmS (i : Nat) : Term := .string "CarriedWorksModel" ((stX.getD i (0, "")).1)
set_option maxRecDepth 100000 in
set_option maxHeartbeats 4000000 in
/-- the ground that all walks stand on, out of what the tables and the start say -/
theorem ground {s : State} {b : Nat} (hts : ∀ w ∈ lw_tbl, w.before #[Value.ref b] s = true) (hgv0 : (Jvm.Cond.and given_1 narrow_1).before #[Value.ref b] s = true) : ∃ (G : va_G) (kc : KC), Kx G kc s ∧ RO0 kc (fun q => s.heap.size ≤ q) s s.heap := by
  have hg : ∀ w ∈ lw_gd, w.before #[Value.ref b] s = true := fun w h => hts w (gd_tbl h)
  have hgv := flat_of_before _ hgv0
  have hA : ∀ a : Nat, a < s.heap.size → ¬ (fun q : Nat => s.heap.size ≤ q) a := fun a h h2 => by have h2 : s.heap.size ≤ a := h2; omega
  have hex : ∀ i : Nat, i < 7 → (Cond.exactly (tmS i) "java/lang/String").before #[Value.ref b] s = true := by
    intro i hi
    match i, hi with
    | 0, _ => exact (hgv _ (List.mem_of_getElem? (i := 20) rfl))
    | 1, _ => exact (hgv _ (List.mem_of_getElem? (i := 27) rfl))
    | 2, _ => exact (hgv _ (List.mem_of_getElem? (i := 34) rfl))
    | 3, _ => exact (hgv _ (List.mem_of_getElem? (i := 42) rfl))
    | 4, _ => exact (hgv _ (List.mem_of_getElem? (i := 53) rfl))
    | 5, _ => exact (hgv _ (List.mem_of_getElem? (i := 65) rfl))
    | 6, _ => exact (hgv _ (List.mem_of_getElem? (i := 78) rfl))
    | i + 7, h => exact absurd h (by omega)
  have hco : ∀ i : Nat, i < 7 → (Cond.eq (.field (tmS i) "java/lang/String" "coder" "B") (.int 0)).before #[Value.ref b] s = true := by
    intro i hi
    match i, hi with
    | 0, _ => exact (hgv _ (List.mem_of_getElem? (i := 21) rfl))
    | 1, _ => exact (hgv _ (List.mem_of_getElem? (i := 28) rfl))
    | 2, _ => exact (hgv _ (List.mem_of_getElem? (i := 35) rfl))
    | 3, _ => exact (hgv _ (List.mem_of_getElem? (i := 43) rfl))
    | 4, _ => exact (hgv _ (List.mem_of_getElem? (i := 54) rfl))
    | 5, _ => exact (hgv _ (List.mem_of_getElem? (i := 66) rfl))
    | 6, _ => exact (hgv _ (List.mem_of_getElem? (i := 79) rfl))
    | i + 7, h => exact absurd h (by omega)
  have har : ∀ i : Nat, i < 7 → (Cond.arrayOf (.field (tmS i) "java/lang/String" "value" "[B") .byte).before #[Value.ref b] s = true := by
    intro i hi
    match i, hi with
    | 0, _ => exact (hgv _ (List.mem_of_getElem? (i := 22) rfl))
    | 1, _ => exact (hgv _ (List.mem_of_getElem? (i := 29) rfl))
    | 2, _ => exact (hgv _ (List.mem_of_getElem? (i := 36) rfl))
    | 3, _ => exact (hgv _ (List.mem_of_getElem? (i := 44) rfl))
    | 4, _ => exact (hgv _ (List.mem_of_getElem? (i := 55) rfl))
    | 5, _ => exact (hgv _ (List.mem_of_getElem? (i := 67) rfl))
    | 6, _ => exact (hgv _ (List.mem_of_getElem? (i := 80) rfl))
    | i + 7, h => exact absurd h (by omega)
  have hle : ∀ i : Nat, i < 7 → (Cond.eq (.length (.field (tmS i) "java/lang/String" "value" "[B")) (.int (Int32.ofNat (stL.getD i 0)))).before #[Value.ref b] s = true := by
    intro i hi
    match i, hi with
    | 0, _ => exact (hgv _ (List.mem_of_getElem? (i := 23) rfl))
    | 1, _ => exact (hgv _ (List.mem_of_getElem? (i := 30) rfl))
    | 2, _ => exact (hgv _ (List.mem_of_getElem? (i := 37) rfl))
    | 3, _ => exact (hgv _ (List.mem_of_getElem? (i := 45) rfl))
    | 4, _ => exact (hgv _ (List.mem_of_getElem? (i := 56) rfl))
    | 5, _ => exact (hgv _ (List.mem_of_getElem? (i := 68) rfl))
    | 6, _ => exact (hgv _ (List.mem_of_getElem? (i := 81) rfl))
    | i + 7, h => exact absurd h (by omega)
  have hel : ∀ i : Nat, i < 7 → ∀ j : Nat, j < stL.getD i 0 → (Cond.eq (.elem (.field (tmS i) "java/lang/String" "value" "[B") (.int (Int32.ofNat j))) (.int ((stB.getD i []).getD j 0))).before #[Value.ref b] s = true := by
    intro i hi j hj
    match i, hi, j, hj with
    | 0, _, 0, _ => exact (hgv _ (List.mem_of_getElem? (i := 24) rfl))
    | 0, _, 1, _ => exact (hgv _ (List.mem_of_getElem? (i := 25) rfl))
    | 0, _, 2, _ => exact (hgv _ (List.mem_of_getElem? (i := 26) rfl))
    | 0, _, j + 3, h => exact absurd (show j + 3 < 3 from h) (by omega)
    | 1, _, 0, _ => exact (hgv _ (List.mem_of_getElem? (i := 31) rfl))
    | 1, _, 1, _ => exact (hgv _ (List.mem_of_getElem? (i := 32) rfl))
    | 1, _, j + 2, h => exact absurd (show j + 2 < 2 from h) (by omega)
    | 2, _, 0, _ => exact (hgv _ (List.mem_of_getElem? (i := 38) rfl))
    | 2, _, 1, _ => exact (hgv _ (List.mem_of_getElem? (i := 39) rfl))
    | 2, _, j + 2, h => exact absurd (show j + 2 < 2 from h) (by omega)
    | 3, _, 0, _ => exact (hgv _ (List.mem_of_getElem? (i := 46) rfl))
    | 3, _, 1, _ => exact (hgv _ (List.mem_of_getElem? (i := 47) rfl))
    | 3, _, 2, _ => exact (hgv _ (List.mem_of_getElem? (i := 48) rfl))
    | 3, _, 3, _ => exact (hgv _ (List.mem_of_getElem? (i := 49) rfl))
    | 3, _, j + 4, h => exact absurd (show j + 4 < 4 from h) (by omega)
    | 4, _, 0, _ => exact (hgv _ (List.mem_of_getElem? (i := 57) rfl))
    | 4, _, 1, _ => exact (hgv _ (List.mem_of_getElem? (i := 58) rfl))
    | 4, _, 2, _ => exact (hgv _ (List.mem_of_getElem? (i := 59) rfl))
    | 4, _, 3, _ => exact (hgv _ (List.mem_of_getElem? (i := 60) rfl))
    | 4, _, j + 4, h => exact absurd (show j + 4 < 4 from h) (by omega)
    | 5, _, 0, _ => exact (hgv _ (List.mem_of_getElem? (i := 69) rfl))
    | 5, _, 1, _ => exact (hgv _ (List.mem_of_getElem? (i := 70) rfl))
    | 5, _, 2, _ => exact (hgv _ (List.mem_of_getElem? (i := 71) rfl))
    | 5, _, 3, _ => exact (hgv _ (List.mem_of_getElem? (i := 72) rfl))
    | 5, _, j + 4, h => exact absurd (show j + 4 < 4 from h) (by omega)
    | 6, _, 0, _ => exact (hgv _ (List.mem_of_getElem? (i := 82) rfl))
    | 6, _, 1, _ => exact (hgv _ (List.mem_of_getElem? (i := 83) rfl))
    | 6, _, 2, _ => exact (hgv _ (List.mem_of_getElem? (i := 84) rfl))
    | 6, _, j + 3, h => exact absurd (show j + 3 < 3 from h) (by omega)
    | i + 7, h, _, _ => exact absurd h (by omega)
  have hne : ∀ i j : Nat, i < 7 → j < 7 → i ≠ j → (Cond.not (Cond.eq (tmS i) (tmS j))).before #[Value.ref b] s = true ∨ (Cond.not (Cond.eq (tmS j) (tmS i))).before #[Value.ref b] s = true := by
    intro i j hi hj hij
    match i, hi, j, hj, hij with
    | 0, _, 0, _, h => exact absurd rfl h
    | 0, _, 1, _, _ => exact Or.inl (hgv _ (List.mem_of_getElem? (i := 33) rfl))
    | 0, _, 2, _, _ => exact Or.inl (hgv _ (List.mem_of_getElem? (i := 40) rfl))
    | 0, _, 3, _, _ => exact Or.inl (hgv _ (List.mem_of_getElem? (i := 50) rfl))
    | 0, _, 4, _, _ => exact Or.inl (hgv _ (List.mem_of_getElem? (i := 61) rfl))
    | 0, _, 5, _, _ => exact Or.inl (hgv _ (List.mem_of_getElem? (i := 73) rfl))
    | 0, _, 6, _, _ => exact Or.inl (hgv _ (List.mem_of_getElem? (i := 85) rfl))
    | 0, _, j + 7, h, _ => exact absurd h (by omega)
    | 1, _, 0, _, _ => exact Or.inr (hgv _ (List.mem_of_getElem? (i := 33) rfl))
    | 1, _, 1, _, h => exact absurd rfl h
    | 1, _, 2, _, _ => exact Or.inl (hgv _ (List.mem_of_getElem? (i := 41) rfl))
    | 1, _, 3, _, _ => exact Or.inl (hgv _ (List.mem_of_getElem? (i := 51) rfl))
    | 1, _, 4, _, _ => exact Or.inl (hgv _ (List.mem_of_getElem? (i := 62) rfl))
    | 1, _, 5, _, _ => exact Or.inl (hgv _ (List.mem_of_getElem? (i := 74) rfl))
    | 1, _, 6, _, _ => exact Or.inl (hgv _ (List.mem_of_getElem? (i := 86) rfl))
    | 1, _, j + 7, h, _ => exact absurd h (by omega)
    | 2, _, 0, _, _ => exact Or.inr (hgv _ (List.mem_of_getElem? (i := 40) rfl))
    | 2, _, 1, _, _ => exact Or.inr (hgv _ (List.mem_of_getElem? (i := 41) rfl))
    | 2, _, 2, _, h => exact absurd rfl h
    | 2, _, 3, _, _ => exact Or.inl (hgv _ (List.mem_of_getElem? (i := 52) rfl))
    | 2, _, 4, _, _ => exact Or.inl (hgv _ (List.mem_of_getElem? (i := 63) rfl))
    | 2, _, 5, _, _ => exact Or.inl (hgv _ (List.mem_of_getElem? (i := 75) rfl))
    | 2, _, 6, _, _ => exact Or.inl (hgv _ (List.mem_of_getElem? (i := 87) rfl))
    | 2, _, j + 7, h, _ => exact absurd h (by omega)
    | 3, _, 0, _, _ => exact Or.inr (hgv _ (List.mem_of_getElem? (i := 50) rfl))
    | 3, _, 1, _, _ => exact Or.inr (hgv _ (List.mem_of_getElem? (i := 51) rfl))
    | 3, _, 2, _, _ => exact Or.inr (hgv _ (List.mem_of_getElem? (i := 52) rfl))
    | 3, _, 3, _, h => exact absurd rfl h
    | 3, _, 4, _, _ => exact Or.inl (hgv _ (List.mem_of_getElem? (i := 64) rfl))
    | 3, _, 5, _, _ => exact Or.inl (hgv _ (List.mem_of_getElem? (i := 76) rfl))
    | 3, _, 6, _, _ => exact Or.inl (hgv _ (List.mem_of_getElem? (i := 88) rfl))
    | 3, _, j + 7, h, _ => exact absurd h (by omega)
    | 4, _, 0, _, _ => exact Or.inr (hgv _ (List.mem_of_getElem? (i := 61) rfl))
    | 4, _, 1, _, _ => exact Or.inr (hgv _ (List.mem_of_getElem? (i := 62) rfl))
    | 4, _, 2, _, _ => exact Or.inr (hgv _ (List.mem_of_getElem? (i := 63) rfl))
    | 4, _, 3, _, _ => exact Or.inr (hgv _ (List.mem_of_getElem? (i := 64) rfl))
    | 4, _, 4, _, h => exact absurd rfl h
    | 4, _, 5, _, _ => exact Or.inl (hgv _ (List.mem_of_getElem? (i := 77) rfl))
    | 4, _, 6, _, _ => exact Or.inl (hgv _ (List.mem_of_getElem? (i := 89) rfl))
    | 4, _, j + 7, h, _ => exact absurd h (by omega)
    | 5, _, 0, _, _ => exact Or.inr (hgv _ (List.mem_of_getElem? (i := 73) rfl))
    | 5, _, 1, _, _ => exact Or.inr (hgv _ (List.mem_of_getElem? (i := 74) rfl))
    | 5, _, 2, _, _ => exact Or.inr (hgv _ (List.mem_of_getElem? (i := 75) rfl))
    | 5, _, 3, _, _ => exact Or.inr (hgv _ (List.mem_of_getElem? (i := 76) rfl))
    | 5, _, 4, _, _ => exact Or.inr (hgv _ (List.mem_of_getElem? (i := 77) rfl))
    | 5, _, 5, _, h => exact absurd rfl h
    | 5, _, 6, _, _ => exact Or.inl (hgv _ (List.mem_of_getElem? (i := 90) rfl))
    | 5, _, j + 7, h, _ => exact absurd h (by omega)
    | 6, _, 0, _, _ => exact Or.inr (hgv _ (List.mem_of_getElem? (i := 85) rfl))
    | 6, _, 1, _, _ => exact Or.inr (hgv _ (List.mem_of_getElem? (i := 86) rfl))
    | 6, _, 2, _, _ => exact Or.inr (hgv _ (List.mem_of_getElem? (i := 87) rfl))
    | 6, _, 3, _, _ => exact Or.inr (hgv _ (List.mem_of_getElem? (i := 88) rfl))
    | 6, _, 4, _, _ => exact Or.inr (hgv _ (List.mem_of_getElem? (i := 89) rfl))
    | 6, _, 5, _, _ => exact Or.inr (hgv _ (List.mem_of_getElem? (i := 90) rfl))
    | 6, _, 6, _, h => exact absurd rfl h
    | 6, _, j + 7, h, _ => exact absurd h (by omega)
    | i + 7, h, _, _, _ => exact absurd h (by omega)
  obtain ⟨adK, adV, hVS, hev⟩ := vk_Sof (N := 7) (tm := tmS) (len := stL) (byt := stB) (A := fun q => s.heap.size ≤ q) (by decide) hex hco har hle hel hne hA
  obtain ⟨tA, htA, hTA⟩ := va_Tof (tm := .static "CarriedWorks$Reader" "ALL_FIELDS" "[I") (ty := .int) (N := 8) (f := fun j => .int (nI j)) (A := fun q => s.heap.size ≤ q) (by decide) (hgv _ (List.mem_of_getElem? (i := 5) rfl)) (Cond.eq_int (hgv _ (List.mem_of_getElem? (i := 6) rfl)) rfl) (by
    intro j hj
    match j, hj with
    | 0, _ => exact Cond.eq_int (hgv _ (List.mem_of_getElem? (i := 7) rfl)) rfl
    | 1, _ => exact Cond.eq_int (hgv _ (List.mem_of_getElem? (i := 8) rfl)) rfl
    | 2, _ => exact Cond.eq_int (hgv _ (List.mem_of_getElem? (i := 9) rfl)) rfl
    | 3, _ => exact Cond.eq_int (hgv _ (List.mem_of_getElem? (i := 10) rfl)) rfl
    | 4, _ => exact Cond.eq_int (hgv _ (List.mem_of_getElem? (i := 11) rfl)) rfl
    | 5, _ => exact Cond.eq_int (hgv _ (List.mem_of_getElem? (i := 12) rfl)) rfl
    | 6, _ => exact Cond.eq_int (hgv _ (List.mem_of_getElem? (i := 13) rfl)) rfl
    | 7, _ => exact Cond.eq_int (hgv _ (List.mem_of_getElem? (i := 14) rfl)) rfl
    | j + 8, h => exact absurd h (by omega)) hA
  have hz1 : va_Z "java/lang/String" "COMPACT_STRINGS" "Z" (.int 1) (fun q => s.heap.size ≤ q) s s.heap := va_Zof (hts _ (tb_t7 71 rfl)) (hts _ (tb_t1 16 rfl)) (Cond.eq_int (hgv _ (List.mem_of_getElem? (i := 15) rfl)) rfl) hA
  have hz2 : va_Z "CarriedWorks$Reader" "ALL_FIELDS" "[I" (.ref tA) (fun q => s.heap.size ≤ q) s s.heap := va_Zof (hts _ (tb_t3 118 rfl)) (hts _ (tb_t1 9 rfl)) htA hA
  have hz3 : va_Zq "jdk/internal/util/Preconditions" "SIOOBE_FORMATTER" "Ljava/util/function/BiFunction;" (fun q => s.heap.size ≤ q) s s.heap := va_Zqof (hts _ (tb_t7 87 rfl)) (hts _ (tb_t1 18 rfl)) (hgv _ (List.mem_of_getElem? (i := 16) rfl)) hA
  obtain ⟨cX0, iX0, hKnX0⟩ := u_known (C := RX0) (T := TX0) (N := 9) (n := 9) hg hinX0 (hg _ it_X0)
  obtain ⟨cX1, iX1, hKnX1⟩ := u_known (C := RX1) (T := TX1) (N := 10) (n := 10) hg hinX1 (hg _ it_X1)
  obtain ⟨cX2, iX2, hKnX2⟩ := u_known (C := RX2) (T := TX2) (N := 10) (n := 10) hg hinX2 (hg _ it_X2)
  obtain ⟨cX3, iX3, hKnX3⟩ := u_known (C := RX3) (T := TX3) (N := 3) (n := 3) hg hinX3 (hg _ it_X3)
  obtain ⟨cX4, iX4, hKnX4⟩ := u_known (C := RX4) (T := TX4) (N := 9) (n := 9) hg hinX4 (hg _ it_X4)
  obtain ⟨cX5, iX5, hKnX5⟩ := u_known (C := RX5) (T := TX5) (N := 12) (n := 12) hg hinX5 (hg _ it_X5)
  obtain ⟨cX6, iX6, hKnX6⟩ := u_known (C := RX6) (T := TX6) (N := 3) (n := 3) hg hinX6 (hg _ it_X6)
  obtain ⟨cX7, iX7, hKnX7⟩ := u_known (C := RX7) (T := TX7) (N := 3) (n := 3) hg hinX7 (hg _ it_X7)
  obtain ⟨cX8, iX8, hKnX8⟩ := u_known (C := RX8) (T := TX8) (N := 2) (n := 2) hg hinX8 (hg _ it_X8)
  obtain ⟨cX9, iX9, hKnX9⟩ := u_known (C := RX9) (T := TX9) (N := 13) (n := 13) hg hinX9 (hg _ it_X9)
  obtain ⟨cX10, iX10, hKnX10⟩ := u_known (C := RX10) (T := TX10) (N := 8) (n := 8) hg hinX10 (hg _ it_X10)
  obtain ⟨cX11, iX11, hKnX11⟩ := u_known (C := RX11) (T := TX11) (N := 12) (n := 12) hg hinX11 (hg _ it_X11)
  obtain ⟨cX12, iX12, hKnX12⟩ := u_known (C := RX12) (T := TX12) (N := 54) (n := 54) hg hinX12 (hg _ it_X12)
  obtain ⟨a0, p0, r0⟩ := ka_int (hg _ ar_int)
  obtain ⟨a1, p1, r1⟩ := ka_byte (hg _ ar_byte)
  obtain ⟨a2, p2, r2⟩ := ka_boolean (hg _ ar_boolean)
  obtain ⟨a3, p3, r3⟩ := ka_long (hg _ ar_long)
  obtain ⟨a4, p4, r4⟩ := ka_obj (hts _ ao_w)
  obtain ⟨a5, p5, r5⟩ := ka_obj (hts _ ao_p)
  refine ⟨(fun k => match k with | 0 => cX0 | 1 => cX1 | 2 => cX2 | 3 => cX3 | 4 => cX4 | 5 => cX5 | 6 => cX6 | 7 => cX7 | 8 => cX8 | 9 => cX9 | 10 => cX10 | 11 => cX11 | _ => cX12, fun k => match k with | 0 => iX0 | 1 => iX1 | 2 => iX2 | 3 => iX3 | 4 => iX4 | 5 => iX5 | 6 => iX6 | 7 => iX7 | 8 => iX8 | 9 => iX9 | 10 => iX10 | 11 => iX11 | _ => iX12), ((fun k => match k with | 0 => a0 | 1 => a1 | 2 => a2 | 3 => a3 | 4 => a4 | _ => a5), adK, adV, tA), ⟨⟨fun k q hq => ?_, fun k q hq => ?_⟩, fun w hw => va_Nw.of (ne_on hw) (hts w (List.mem_filter.mp hw).1), va_AO.of (hts _ ao_w), va_AO.of (hts _ ao_p), fun i x hx => ?_⟩, hVS, hz1, hz2, hTA, hz3⟩
  · match k, hq with
    | 0, hq => cases hq; exact hKnX0
    | 1, hq => cases hq; exact hKnX1
    | 2, hq => cases hq; exact hKnX2
    | 3, hq => cases hq; exact hKnX3
    | 4, hq => cases hq; exact hKnX4
    | 5, hq => cases hq; exact hKnX5
    | 6, hq => cases hq; exact hKnX6
    | 7, hq => cases hq; exact hKnX7
    | 8, hq => cases hq; exact hKnX8
    | 9, hq => cases hq; exact hKnX9
    | 10, hq => cases hq; exact hKnX10
    | 11, hq => cases hq; exact hKnX11
    | 12, hq => cases hq; exact hKnX12
    | k + 13, hq => simp [vwCl] at hq
  · match k, hq with
    | 0, hq => cases hq; exact ⟨p0, r0⟩
    | 1, hq => cases hq; exact ⟨p1, r1⟩
    | 2, hq => cases hq; exact ⟨p2, r2⟩
    | 3, hq => cases hq; exact ⟨p3, r3⟩
    | 4, hq => cases hq; exact ⟨p4, r4⟩
    | 5, hq => cases hq; exact ⟨p5, r5⟩
    | k + 6, hq => simp [Kt] at hq
  · match i, hx with
    | 0, hx => cases hx; exact vk_R.of (A := #[Value.ref b]) (hts _ (tb_t7 53 rfl)) (hev 0 (by decide))
    | 1, hx => cases hx; exact vk_R.of (A := #[Value.ref b]) (hts _ (tb_t7 138 rfl)) (hev 1 (by decide))
    | 2, hx => cases hx; exact vk_R.of (A := #[Value.ref b]) (hts _ (tb_t7 143 rfl)) (hev 2 (by decide))
    | 3, hx => cases hx; exact vk_R.of (A := #[Value.ref b]) (hts _ (tb_t7 148 rfl)) (hev 3 (by decide))
    | 4, hx => cases hx; exact vk_R.of (A := #[Value.ref b]) (hts _ (tb_t7 164 rfl)) (hev 4 (by decide))
    | 5, hx => cases hx; exact vk_R.of (A := #[Value.ref b]) (hts _ (tb_t7 165 rfl)) (hev 5 (by decide))
    | 6, hx => cases hx; exact vk_R.of (A := #[Value.ref b]) (hts _ (tb_t7 170 rfl)) (hev 6 (by decide))
    | i + 7, hx => simp [stX] at hx
set_option maxRecDepth 20000 in
theorem shC_eq : LX11.map shE = shC := by decide +kernel
set_option maxRecDepth 20000 in
theorem okC : LX11.all okA = true := by decide +kernel
set_option maxRecDepth 20000 in
theorem shF0 : [] ++ shF 0 LX11 = LX11 := eqF (by decide +kernel)
/-- the reference's constructor, called on the cell that was made last, beside the class's cells -/
theorem kz_callM {p : Program} {l : Launch} {e : Env} {R : Room} {s : State} {m : MethodId} {args : Array Value} {below : List Frame} {meth : Method} {c : Code} {H : Heap} {locs : List Loc} {cells slots mc ms : Nat} {Q : State → Prop}
    {cc cc' : ByteArray} {nL n' fr lo : Nat} {own : String} {pc : Nat} {ls : Array Slot} {rest st0 : List Value} {G : va_G} {kc : KC} {A : Nat → Prop} {L : List FE} {ad : Nat → Nat} {index : Nat} {y : MethodName}
    (C0 : Cx G kc p s m c args cc nL own) (hRo : RO0 kc A s s.heap) {x0 : FE} {w3 : (Nat → Nat) → va_W} (hM : ∀ a sz : Nat, Met l y (wU y cc' n' none) { frames := fr, cells := mc, slots := ms, locals := lo } (PreK G kc [.ref a] [x0] (fun _ => a) sz) (va_Qv (fun ad => ad 0 = a) (fun (ad : Nat → Nat) t => va_P G vwCl (w3 ad) t.heap ∧ va_D (va_A (WF kc [x0] (fun _ => a)) sz) (w3 ad)) (va_A (WF kc [x0] (fun _ => a)) sz)) mc ms (va_A (WF kc [x0] (fun _ => a)) sz)) (n : Nat) {a : Nat} (hw : SF G kc A s.heap (L ++ [x0]) ad H locs) (hn : L.length = n) (hx0 : ∀ a b, ceF kc a x0 = ceF kc b x0) (ha : ad n = a) (hv : CI y cc' n' 0) (hlk : LKm own index y) (hsz : ls.size = nL) (hst : st0 = .ref a :: rest) (hroom : fr + 1 ≤ R.frames ∧ 8 + (n' + 11) + lo ≤ R.locals) (hW : (rest.map fun v => v.category).sum ≤ 8) (hdg : decode cc pc = .ok (.invokespecial index, 3)) (hf : cells + mc ≤ R.cells ∧ slots + ms ≤ R.slots)
    (kk : ∀ (ad2 : Nat → Nat) (H1 : Heap) (locs1 : List Loc), ad2 0 = a → va_P G vwCl (WF kc L ad ++ w3 ad2) H1 → va_D A (WF kc L ad ++ w3 ad2) → va_S A s.heap H1 locs1 → W p l e R s m args below meth c H1 locs1 (cells + mc) (slots + ms) Q (F0 m (pc + 3) ls rest)) : W p l e R s m args below meth c H locs cells slots Q (F0 m pc ls st0) := by
  obtain ⟨hP, hD, hS, hA⟩ := hw
  have e0 : WF kc (L ++ [x0]) ad = WF kc L ad ++ WF kc [x0] (fun _ => a) := by
    apply List.ext_getElem?
    intro j
    subst hn
    simp only [WF, List.getElem?_mapIdx]
    by_cases hj : j < L.length
    · rw [List.getElem?_append_left hj, List.getElem?_append_left (by simpa using hj), List.getElem?_mapIdx]
    · rw [List.getElem?_append_right (by omega), List.getElem?_append_right (by simpa using hj), List.length_mapIdx, List.getElem?_mapIdx]
      cases h2 : [x0][j - L.length]? with
      | none => rfl
      | some y =>
        have h3 : j - L.length < 1 := (List.getElem?_eq_some_iff.mp h2).1
        have h4 : j = L.length := by omega
        have h5 : j - L.length = 0 := by omega
        rw [h5] at h2
        cases h2
        subst h4
        simp only [Option.map_some, ha, hx0 ad (fun _ => a)]
  rw [e0] at hP hD
  have hPt : va_P G vwCl (WF kc [x0] (fun _ => a)) H := fun k q hq => hP ((WF kc L ad).length + k) q (by rw [List.getElem?_append_right (by omega), Nat.add_sub_cancel_left]; exact hq)
  have hDt : va_D (fun _ => True) (WF kc [x0] (fun _ => a)) := ⟨fun i j x y hi hj hxy => by
      have h1 := hD.1 ((WF kc L ad).length + i) ((WF kc L ad).length + j) x y (by rw [List.getElem?_append_right (by omega), Nat.add_sub_cancel_left]; exact hi) (by rw [List.getElem?_append_right (by omega), Nat.add_sub_cancel_left]; exact hj) hxy
      omega, fun _ _ _ => trivial⟩
  have hFc : ∀ q, va_A (WF kc [x0] (fun _ => a)) H.size q → A q := by
    intro q h
    rcases h with ⟨k, e, h⟩ | h
    · exact hD.2 ((WF kc L ad).length + k) (q, e) (by rw [List.getElem?_append_right (by omega), Nat.add_sub_cancel_left]; exact h)
    · exact hA q (Nat.le_trans hS.1 h)
  have hKm := C0.2.2.2.2.2
  have hr := zr_I (As := []) (rest := rest) (locs := locs) (st0 := st0) (e := e) (below := below) (meth := meth) (cells := cells) (slots := slots) C0 (hM a H.size) hv hlk ⟨PreK.blind, fun U hU hW => ⟨rfl, by rw [hU], by rw [hU]; exact hPt, hKm.moved hW, hDt, by rw [hU]; exact hRo.on hS hW hFc⟩⟩ rfl hsz hst hroom hW hdg hf
  refine va_callv hr hS (fun q _ h => hFc q h) hFc (fun ad2 t H1 locs1 ht hvm hp hB hz1 hk1 hS1 => ?_)
  obtain ⟨hP1, hD1⟩ := hB
  rw [ht] at hP1
  obtain ⟨hP2, hD2⟩ := va_tail hP hD hk1 hFc hP1 hD1
  exact kk ad2 H1 locs1 hp hP2 hD2 hS1
