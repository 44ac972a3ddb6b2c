set_option maxRecDepth 100000 in
set_option maxHeartbeats 8000000 in
theorem c_X1_caseFor (l : Launch) (G : va_G) (kc : KC) (ad : Nat → Nat) (σ : Sg) (u : Nat) (mc : Nat) {zs us : Nat} {K_ : Nat → Prop} (hu : u ∈ ntL) (hmc : mc ∈ mcL) (hzs : σ.1 u 3 = nI zs) (hzs40 : zs ≤ 40) (hN : VNb σ u zs us K_) (hmd : σ.1 u 1 = 0) (hT : TC σ) : MI l G kc yX1_caseFor cX1_caseFor 3 (some .int) 2 52 [.ref (ad u), .ref (ad (mc + 1))] shC ad σ (fun r σ1 => (-1 ≤ r.toInt ∧ r.toInt ≤ 39) ∧ (r.toInt < (zs : Int)) ∧ σ1 = σ) := by
  intro sz
  refine z_body (y := yX1_caseFor) (n := 3) (av := [.ref (ad u), .ref (ad (mc + 1))]) (Qc := fun A => va_Qi (fun r σ1 => (-1 ≤ r.toInt ∧ r.toInt ≤ 39) ∧ (r.toInt < (zs : Int)) ∧ σ1 = σ) (PoC G kc shC ad A) A) (plainFor_of_name (by decide)) (Nat.le_of_ble_eq_true rfl) (fun pr e s m below meth c A C0 hr hlk hnm hw hRo ls hl => ?_) sz
  have hx := C0.1
  have hb := C0.2.1
  have hown := C0.2.2.2.1
  have hts := C0.2.2.2.2.1
  have hl : lv_has ls 3 [(0, .ref (ad u)), (1, .ref (ad (mc + 1)))] := hl
  have hun_ := ntN u hu
  have hmcn := mcN mc hmc
  refine lv_iconst (v := 0) hx hb (dkP dF_3 DX1_caseFor (i := 0) rfl rfl) (by decide) ?_
  refine lv_istore_n (lv' := [(2, .int 0), (0, .ref (ad u)), (1, .ref (ad (mc + 1)))]) hx hb (dkP dF_61 DX1_caseFor (i := 1) rfl rfl) rfl hl (by decide) rfl (fun ls hl => ?_)
  have lp1 : ∀ (nq : Nat) (q2_2 : Nat) (H : Heap) (locs : List Loc) (ls : Array Slot), 40 - q2_2 < nq → (q2_2 ≤ 40) → St G kc A s.heap shC ad σ H locs → lv_has ls 3 [(2, .int (nI q2_2)), (0, .ref (ad u)), (1, .ref (ad (mc + 1)))] → W pr l e { frames := 2, cells := 0, slots := 0, locals := 52 } s m ([.ref (ad u), .ref (ad (mc + 1))] : List Value).toArray below meth c H locs 0 0 (MQ below (va_Qi (fun r σ1 => (-1 ≤ r.toInt ∧ r.toInt ≤ 39) ∧ (r.toInt < (zs : Int)) ∧ σ1 = σ) (PoC G kc shC ad A) A) ([.ref (ad u), .ref (ad (mc + 1))] : List Value).toArray s 0 0 A) (F0 m 2 ls []) := by
    intro nq
    induction nq with
    | zero => intro q2_2 H locs ls hmu; exact absurd hmu (Nat.not_lt_zero _)
    | succ nq ih1 =>
      intro q2_2 H locs ls hmu hq2_2 hw hl
      refine lv_iload_n hx hb (dkP dF_28 DX1_caseFor (i := 2) rfl rfl) rfl (lv_at hl 0 rfl) ?_
      refine lv_aload_n hx hb (dkP dF_42 DX1_caseFor (i := 3) rfl rfl) rfl (lv_at hl 1 rfl) ?_
      refine z_gi C0 hw u 3 (fk_of (shl_nt_0 u hu) rfl) fl_X1_40 (dk2 dF_180 DX1_caseFor (i := 4) rfl rfl rfl) ?_
      refine z_top (y := (nI zs)) hzs ?_
      refine lv_icmp_ge (tgt := 27) hx hb (dkS dF_162 DX1_caseFor (i := 5) rfl rfl rfl) (by decide) (fun c2 => ?_) (fun c2 => ?_)
      · simp (disch := omega) only [ta_lt, ta_le, ta_eq, tnI] at c2
        refine lv_iconst (v := (-1)) hx hb (dkP dF_2 DX1_caseFor (i := 15) rfl rfl) (by decide) ?_
        exact z_iret C0 hr hlk hw (⟨(show -1 ≤ _ ∧ _ ≤ 39 from by (try simp (disch := omega) only [tnI, tn32 1 (by decide), tl32 0 (by decide)]); omega), (by (try simp (disch := omega) only [tnI, tn32 1 (by decide), tl32 0 (by decide)]); omega), rfl⟩) (dkP dF_172 DX1_caseFor (i := 16) rfl rfl)
      · simp (disch := omega) only [ta_lt, ta_le, ta_eq, tnI] at c2
        obtain ⟨ta, tk, hta, hta2, htk, htk1, htch⟩ := (hN.2.2.1 q2_2 (by omega)).1 hmd
        refine lv_aload_n hx hb (dkP dF_42 DX1_caseFor (i := 6) rfl rfl) rfl (lv_at hl 1 rfl) ?_
        refine lv_iload_n hx hb (dkP dF_28 DX1_caseFor (i := 7) rfl rfl) rfl (lv_at hl 0 rfl) ?_
        refine lv_aload_n hx hb (dkP dF_43 DX1_caseFor (i := 8) rfl rfl) rfl (lv_at hl 2 rfl) ?_
        refine zk_I hw (zr_V (As := [.int (nI q2_2), .ref (ad (mc + 1))]) (rest := []) C0 (c_X1_countsFor l G kc ad σ u q2_2 mc hu hmc (by omega) hta (by omega) htk htk1 htch hN.1 hT _) cv_X1_countsFor lk_X1_70 (zp_V C0 hRo hw u (shl_nt_0 u hu) rfl rfl) rfl hl.1 rfl ⟨by decide, by decide⟩ (Nat.le_of_ble_eq_true rfl) (dk2 dF_182 DX1_caseFor (i := 9) rfl rfl rfl) ⟨Nat.le_refl _, Nat.le_refl _⟩) (fun r3 s3 H locs hp hw => ?_)
        obtain ⟨f3_0, hs3⟩ := hp
        (rw [hs3] at hw)
        rcases f3_0 with ⟨rfl, hc3⟩ | ⟨rfl, hc3⟩
        · skip
          refine lv_if_eq (tgt := 21) hx hb (dkS dF_153 DX1_caseFor (i := 10) rfl rfl rfl) (by decide) (fun h => absurd h (by decide)) (fun _ => ?_)
          refine lv_iload_n hx hb (dkP dF_28 DX1_caseFor (i := 11) rfl rfl) rfl (lv_at hl 0 rfl) ?_
          exact z_iret C0 hr hlk hw (⟨(show -1 ≤ _ ∧ _ ≤ 39 from by (try simp (disch := omega) only [tnI, tn32 1 (by decide), tl32 0 (by decide)]); omega), (by (try simp (disch := omega) only [tnI, tn32 1 (by decide), tl32 0 (by decide)]); omega), rfl⟩) (dkP dF_172 DX1_caseFor (i := 12) rfl rfl)
        · skip
          refine lv_if_eq (tgt := 21) hx hb (dkS dF_153 DX1_caseFor (i := 10) rfl rfl rfl) (by decide) (fun _ => ?_) (fun h => absurd h (by decide))
          refine lv_iinc (v := nI (q2_2 + 1)) (lv' := [(2, .int (nI (q2_2 + 1))), (0, .ref (ad u)), (1, .ref (ad (mc + 1)))]) hx hb (dkI DX1_caseFor (i := 13) rfl rfl rfl rfl) hl (k := 0) rfl (nI_1 _) (by decide) rfl (fun ls hl => ?_)
          refine lv_goto (tgt := 2) hx hb (dkS dF_167 DX1_caseFor (i := 14) rfl rfl rfl) (by decide) ?_
          exact ih1 (q2_2 + 1) _ _ _ (by omega) (by (try simp only [lg_cmp_lt, lg_cmp_le, lg_cmp_gt, lg_cmp_ge, lg_cmp_eq] at c2); (try simp (disch := omega) only [ta_lt, ta_le, ta_eq, tb_lt, tb_le, tb_eq, tw, tnI, tsub1, tsv, tsb32, tn32 1 (by decide), tnj 1 (by decide), tl32 0 (by decide), tl64 0 (by decide)] at c2); (try simp only [lg_cmp_lt, lg_cmp_le, lg_cmp_gt, lg_cmp_ge, lg_cmp_eq] at f3_0); (try simp (disch := omega) only [ta_lt, ta_le, ta_eq, tb_lt, tb_le, tb_eq, tw, tnI, tsub1, tsv, tsb32, tn32 1 (by decide), tnj 1 (by decide), tl32 0 (by decide), tl64 0 (by decide)] at f3_0); (try simp only [lg_cmp_lt, lg_cmp_le, lg_cmp_gt, lg_cmp_ge, lg_cmp_eq] at hc3); (try simp (disch := omega) only [ta_lt, ta_le, ta_eq, tb_lt, tb_le, tb_eq, tw, tnI, tsub1, tsv, tsb32, tn32 1 (by decide), tnj 1 (by decide), tl32 0 (by decide), tl64 0 (by decide)] at hc3); (try simp (disch := omega) only [ta_lt, ta_le, ta_eq, tb_lt, tb_le, tb_eq, tw, tnI, tsub1, tsv, tsb32, tn32 1 (by decide), tnj 1 (by decide), tl32 0 (by decide), tl64 0 (by decide)]); omega) hw (lv_sub hl [0, 1, 2] rfl)
  exact lp1 _ 0 _ _ _ (Nat.lt_succ_self _) (by (try simp (disch := omega) only [ta_lt, ta_le, ta_eq, tb_lt, tb_le, tb_eq, tw, tnI, tsub1, tsv, tsb32, tn32 1 (by decide), tnj 1 (by decide), tl32 0 (by decide), tl64 0 (by decide)]); omega) hw (lv_sub hl [0, 1, 2] rfl)
set_option maxRecDepth 100000 in
set_option maxHeartbeats 8000000 in
theorem c_X1_caseWith_b (l : Launch) (G : va_G) (kc : KC) (ad : Nat → Nat) (σ : Sg) (u : Nat) (mc : Nat) {zs : Nat} (hu : u ∈ ntL) (hmc : mc ∈ mcL) (hzs : σ.1 u 3 = nI zs) (hzs40 : zs ≤ 40) (hT : TC σ) : MI l G kc yX1_caseWith cX1_caseWith 3 (some .int) 1 23 [.ref (ad u), .ref (ad (mc + 4))] shC ad σ (fun r σ1 => (-1 ≤ r.toInt ∧ r.toInt ≤ 39) ∧ (r.toInt < (zs : Int)) ∧ σ1 = σ) := by
  intro sz
  refine z_body (y := yX1_caseWith) (n := 3) (av := [.ref (ad u), .ref (ad (mc + 4))]) (Qc := fun A => va_Qi (fun r σ1 => (-1 ≤ r.toInt ∧ r.toInt ≤ 39) ∧ (r.toInt < (zs : Int)) ∧ σ1 = σ) (PoC G kc shC ad A) A) (plainFor_of_name (by decide)) (Nat.le_of_ble_eq_true rfl) (fun pr e s m below meth c A C0 hr hlk hnm hw hRo ls hl => ?_) sz
  have hx := C0.1
  have hb := C0.2.1
  have hown := C0.2.2.2.1
  have hts := C0.2.2.2.2.1
  have hl : lv_has ls 3 [(0, .ref (ad u)), (1, .ref (ad (mc + 4)))] := hl
  have hun_ := ntN u hu
  have hmcn := mcN mc hmc
  refine lv_iconst (v := 0) hx hb (dkP dF_3 DX1_caseWith (i := 0) rfl rfl) (by decide) ?_
  refine lv_istore_n (lv' := [(2, .int 0), (0, .ref (ad u)), (1, .ref (ad (mc + 4)))]) hx hb (dkP dF_61 DX1_caseWith (i := 1) rfl rfl) rfl hl (by decide) rfl (fun ls hl => ?_)
  have lp1 : ∀ (nq : Nat) (q2_2 : Nat) (H : Heap) (locs : List Loc) (ls : Array Slot), 40 - q2_2 < nq → (q2_2 ≤ 40) → St G kc A s.heap shC ad σ H locs → lv_has ls 3 [(2, .int (nI q2_2)), (0, .ref (ad u)), (1, .ref (ad (mc + 4)))] → W pr l e { frames := 1, cells := 0, slots := 0, locals := 23 } s m ([.ref (ad u), .ref (ad (mc + 4))] : List Value).toArray below meth c H locs 0 0 (MQ below (va_Qi (fun r σ1 => (-1 ≤ r.toInt ∧ r.toInt ≤ 39) ∧ (r.toInt < (zs : Int)) ∧ σ1 = σ) (PoC G kc shC ad A) A) ([.ref (ad u), .ref (ad (mc + 4))] : List Value).toArray s 0 0 A) (F0 m 2 ls []) := by
    intro nq
    induction nq with
    | zero => intro q2_2 H locs ls hmu; exact absurd hmu (Nat.not_lt_zero _)
    | succ nq ih1 =>
      intro q2_2 H locs ls hmu hq2_2 hw hl
      refine lv_iload_n hx hb (dkP dF_28 DX1_caseWith (i := 2) rfl rfl) rfl (lv_at hl 0 rfl) ?_
      refine lv_aload_n hx hb (dkP dF_42 DX1_caseWith (i := 3) rfl rfl) rfl (lv_at hl 1 rfl) ?_
      refine z_gi C0 hw u 3 (fk_of (shl_nt_0 u hu) rfl) fl_X1_40 (dk2 dF_180 DX1_caseWith (i := 4) rfl rfl rfl) ?_
      refine z_top (y := (nI zs)) hzs ?_
      refine lv_icmp_ge (tgt := 27) hx hb (dkS dF_162 DX1_caseWith (i := 5) rfl rfl rfl) (by decide) (fun c2 => ?_) (fun c2 => ?_)
      · simp (disch := omega) only [ta_lt, ta_le, ta_eq, tnI] at c2
        refine lv_iconst (v := (-1)) hx hb (dkP dF_2 DX1_caseWith (i := 15) rfl rfl) (by decide) ?_
        exact z_iret C0 hr hlk hw (⟨(show -1 ≤ _ ∧ _ ≤ 39 from by (try simp (disch := omega) only [tnI, tn32 1 (by decide), tl32 0 (by decide)]); omega), (by (try simp (disch := omega) only [tnI, tn32 1 (by decide), tl32 0 (by decide)]); omega), rfl⟩) (dkP dF_172 DX1_caseWith (i := 16) rfl rfl)
      · simp (disch := omega) only [ta_lt, ta_le, ta_eq, tnI] at c2
        refine lv_aload_n hx hb (dkP dF_42 DX1_caseWith (i := 6) rfl rfl) rfl (lv_at hl 1 rfl) ?_
        refine lv_iload_n hx hb (dkP dF_28 DX1_caseWith (i := 7) rfl rfl) rfl (lv_at hl 0 rfl) ?_
        refine lv_aload_n hx hb (dkP dF_43 DX1_caseWith (i := 8) rfl rfl) rfl (lv_at hl 2 rfl) ?_
        refine zk_I hw (zr_V (As := [.int (nI q2_2), .ref (ad (mc + 4))]) (rest := []) C0 (c_X1_turnsSo l G kc ad σ u q2_2 mc hu hmc (by first | omega | assumption | decide | rfl) hT _) cv_X1_turnsSo lk_X1_89 (zp_V C0 hRo hw u (shl_nt_0 u hu) rfl rfl) rfl hl.1 rfl ⟨by decide, by decide⟩ (Nat.le_of_ble_eq_true rfl) (dk2 dF_182 DX1_caseWith (i := 9) rfl rfl rfl) ⟨Nat.le_refl _, Nat.le_refl _⟩) (fun r3 s3 H locs hp hw => ?_)
        obtain ⟨f3_0, hs3⟩ := hp
        (rw [hs3] at hw)
        rcases f3_0 with ⟨rfl, hc3⟩ | ⟨rfl, hc3⟩
        · skip
          refine lv_if_eq (tgt := 21) hx hb (dkS dF_153 DX1_caseWith (i := 10) rfl rfl rfl) (by decide) (fun h => absurd h (by decide)) (fun _ => ?_)
          refine lv_iload_n hx hb (dkP dF_28 DX1_caseWith (i := 11) rfl rfl) rfl (lv_at hl 0 rfl) ?_
          exact z_iret C0 hr hlk hw (⟨(show -1 ≤ _ ∧ _ ≤ 39 from by (try simp (disch := omega) only [tnI, tn32 1 (by decide), tl32 0 (by decide)]); omega), (by (try simp (disch := omega) only [tnI, tn32 1 (by decide), tl32 0 (by decide)]); omega), rfl⟩) (dkP dF_172 DX1_caseWith (i := 12) rfl rfl)
        · skip
          refine lv_if_eq (tgt := 21) hx hb (dkS dF_153 DX1_caseWith (i := 10) rfl rfl rfl) (by decide) (fun _ => ?_) (fun h => absurd h (by decide))
          refine lv_iinc (v := nI (q2_2 + 1)) (lv' := [(2, .int (nI (q2_2 + 1))), (0, .ref (ad u)), (1, .ref (ad (mc + 4)))]) hx hb (dkI DX1_caseWith (i := 13) rfl rfl rfl rfl) hl (k := 0) rfl (nI_1 _) (by decide) rfl (fun ls hl => ?_)
          refine lv_goto (tgt := 2) hx hb (dkS dF_167 DX1_caseWith (i := 14) rfl rfl rfl) (by decide) ?_
          exact ih1 (q2_2 + 1) _ _ _ (by omega) (by (try simp only [lg_cmp_lt, lg_cmp_le, lg_cmp_gt, lg_cmp_ge, lg_cmp_eq] at c2); (try simp (disch := omega) only [ta_lt, ta_le, ta_eq, tb_lt, tb_le, tb_eq, tw, tnI, tsub1, tsv, tsb32, tn32 1 (by decide), tnj 1 (by decide), tl32 0 (by decide), tl64 0 (by decide)] at c2); (try simp only [lg_cmp_lt, lg_cmp_le, lg_cmp_gt, lg_cmp_ge, lg_cmp_eq] at f3_0); (try simp (disch := omega) only [ta_lt, ta_le, ta_eq, tb_lt, tb_le, tb_eq, tw, tnI, tsub1, tsv, tsb32, tn32 1 (by decide), tnj 1 (by decide), tl32 0 (by decide), tl64 0 (by decide)] at f3_0); (try simp only [lg_cmp_lt, lg_cmp_le, lg_cmp_gt, lg_cmp_ge, lg_cmp_eq] at hc3); (try simp (disch := omega) only [ta_lt, ta_le, ta_eq, tb_lt, tb_le, tb_eq, tw, tnI, tsub1, tsv, tsb32, tn32 1 (by decide), tnj 1 (by decide), tl32 0 (by decide), tl64 0 (by decide)] at hc3); (try simp (disch := omega) only [ta_lt, ta_le, ta_eq, tb_lt, tb_le, tb_eq, tw, tnI, tsub1, tsv, tsb32, tn32 1 (by decide), tnj 1 (by decide), tl32 0 (by decide), tl64 0 (by decide)]); omega) hw (lv_sub hl [0, 1, 2] rfl)
  exact lp1 _ 0 _ _ _ (Nat.lt_succ_self _) (by (try simp (disch := omega) only [ta_lt, ta_le, ta_eq, tb_lt, tb_le, tb_eq, tw, tnI, tsub1, tsv, tsb32, tn32 1 (by decide), tnj 1 (by decide), tl32 0 (by decide), tl64 0 (by decide)]); omega) hw (lv_sub hl [0, 1, 2] rfl)
set_option maxRecDepth 20000 in
theorem shl_nt_3 : ∀ d, d ∈ ntL → shC[d + 3]? = some (1, 40, []) := by decide +kernel
set_option maxRecDepth 20000 in
theorem shl_nt_4 : ∀ d, d ∈ ntL → shC[d + 4]? = some (1, 40, []) := by decide +kernel
set_option maxRecDepth 100000 in
set_option maxHeartbeats 8000000 in
theorem c_X1_putAt (l : Launch) (G : va_G) (kc : KC) (ad : Nat → Nat) (σ : Sg) (u : Nat) (cs : Nat) (ja : Int32) {a k us : Nat} {P : Nat → Prop} (hu : u ∈ ntL) (hcs : cs < 40) (hfa : σ.1 (u + 4) cs = nI a) (ha2 : a ≤ 2000) (hfk : σ.1 (u + 3) cs = nI k) (hk1 : k ≤ 9) (hca : ch (σ.1 (u + 7)) us P k a) (hus : us ≤ 1920) (hT : TC σ) : MI l G kc yX1_putAt cX1_putAt 5 (some .int) 1 21 [.ref (ad u), .int (nI cs), .int ja] shC ad σ (fun r σ1 => (r = -1 ∨ ∃ b m, r = nI b ∧ 1 ≤ m ∧ ch (σ.1 (u + 7)) us P m b) ∧ σ1 = σ) := by
  intro sz
  refine z_body (y := yX1_putAt) (n := 5) (av := [.ref (ad u), .int (nI cs), .int ja]) (Qc := fun A => va_Qi (fun r σ1 => (r = -1 ∨ ∃ b m, r = nI b ∧ 1 ≤ m ∧ ch (σ.1 (u + 7)) us P m b) ∧ σ1 = σ) (PoC G kc shC ad A) A) (plainFor_of_name (by decide)) (Nat.le_of_ble_eq_true rfl) (fun pr e s m below meth c A C0 hr hlk hnm hw hRo ls hl => ?_) sz
  have hx := C0.1
  have hb := C0.2.1
  have hown := C0.2.2.2.1
  have hts := C0.2.2.2.2.1
  have hl : lv_has ls 5 [(0, .ref (ad u)), (1, .int (nI cs)), (2, .int ja)] := hl
  have hun_ := ntN u hu
  refine lv_iload_n hx hb (dkP dF_28 DX1_putAt (i := 0) rfl rfl) rfl (lv_at hl 2 rfl) ?_
  refine lv_if_lt (tgt := 14) hx hb (dkS dF_155 DX1_putAt (i := 1) rfl rfl rfl) (by decide) (fun c1 => ?_) (fun c1 => ?_)
  · (try simp (disch := omega) only [ta_lt, ta_le, ta_eq, tnI, tl32 0 (by decide)] at c1)
    refine lv_iconst (v := (-1)) hx hb (dkP dF_2 DX1_putAt (i := 8) rfl rfl) (by decide) ?_
    exact z_iret C0 hr hlk hw (⟨(Or.inl rfl), rfl⟩) (dkP dF_172 DX1_putAt (i := 9) rfl rfl)
  · (try simp (disch := omega) only [ta_lt, ta_le, ta_eq, tnI, tl32 0 (by decide)] at c1)
    refine lv_iload_n hx hb (dkP dF_28 DX1_putAt (i := 2) rfl rfl) rfl (lv_at hl 2 rfl) ?_
    refine lv_aload_n hx hb (dkP dF_42 DX1_putAt (i := 3) rfl rfl) rfl (lv_at hl 0 rfl) ?_
    refine z_gr C0 hw u 6 (u + 3) (fk_of (shl_nt_0 u hu) rfl) fl_X1_20 (dk2 dF_180 DX1_putAt (i := 4) rfl rfl rfl) ?_
    refine lv_iload_n hx hb (dkP dF_27 DX1_putAt (i := 5) rfl rfl) rfl (lv_at hl 1 rfl) ?_
    refine z_ialdN (n := 40) C0 hw (u + 3) cs (ak_of (shl_nt_3 u hu)) (by omega) (by decide) (dkP dF_46 DX1_putAt (i := 6) rfl rfl) ?_
    refine z_top (y := (nI k)) hfk ?_
    refine lv_icmp_lt (tgt := 16) hx hb (dkS dF_161 DX1_putAt (i := 7) rfl rfl rfl) (by decide) (fun c2 => ?_) (fun c2 => ?_)
    · (try simp (disch := omega) only [ta_lt, ta_le, ta_eq, tnI] at c2); have hz2 := i32b ja
      obtain ⟨jn, hjn, rfl⟩ := to_nat (x := ja) (n := 9) (by (try simp only [lg_cmp_lt, lg_cmp_le, lg_cmp_gt, lg_cmp_ge, lg_cmp_eq] at c1); (try simp (disch := omega) only [ta_lt, ta_le, ta_eq, tb_lt, tb_le, tb_eq, tw, tnI, tsub1, tsv, tsb32, tn32 1 (by decide), tnj 1 (by decide), tl32 0 (by decide), tl64 0 (by decide)] at c1); (try simp only [lg_cmp_lt, lg_cmp_le, lg_cmp_gt, lg_cmp_ge, lg_cmp_eq] at c2); (try simp (disch := omega) only [ta_lt, ta_le, ta_eq, tb_lt, tb_le, tb_eq, tw, tnI, tsub1, tsv, tsb32, tn32 1 (by decide), tnj 1 (by decide), tl32 0 (by decide), tl64 0 (by decide)] at c2); (try simp (disch := omega) only [ta_lt, ta_le, ta_eq, tb_lt, tb_le, tb_eq, tw, tnI, tsub1, tsv, tsb32, tn32 1 (by decide), tnj 1 (by decide), tl32 0 (by decide), tl64 0 (by decide)]); omega)
      have hB_jn : jn < k := by (try simp only [lg_cmp_lt, lg_cmp_le, lg_cmp_gt, lg_cmp_ge, lg_cmp_eq] at c1); (try simp (disch := omega) only [ta_lt, ta_le, ta_eq, tb_lt, tb_le, tb_eq, tw, tnI, tsub1, tsv, tsb32, tn32 1 (by decide), tnj 1 (by decide), tl32 0 (by decide), tl64 0 (by decide)] at c1); (try simp only [lg_cmp_lt, lg_cmp_le, lg_cmp_gt, lg_cmp_ge, lg_cmp_eq] at c2); (try simp (disch := omega) only [ta_lt, ta_le, ta_eq, tb_lt, tb_le, tb_eq, tw, tnI, tsub1, tsv, tsb32, tn32 1 (by decide), tnj 1 (by decide), tl32 0 (by decide), tl64 0 (by decide)] at c2); (try simp (disch := omega) only [ta_lt, ta_le, ta_eq, tb_lt, tb_le, tb_eq, tw, tnI, tsub1, tsv, tsb32, tn32 1 (by decide), tnj 1 (by decide), tl32 0 (by decide), tl64 0 (by decide)]); omega
      refine lv_aload_n hx hb (dkP dF_42 DX1_putAt (i := 10) rfl rfl) rfl (lv_at hl 0 rfl) ?_
      refine z_gr C0 hw u 7 (u + 4) (fk_of (shl_nt_0 u hu) rfl) fl_X1_23 (dk2 dF_180 DX1_putAt (i := 11) rfl rfl rfl) ?_
      refine lv_iload_n hx hb (dkP dF_27 DX1_putAt (i := 12) rfl rfl) rfl (lv_at hl 1 rfl) ?_
      refine z_ialdN (n := 40) C0 hw (u + 4) cs (ak_of (shl_nt_4 u hu)) (by omega) (by decide) (dkP dF_46 DX1_putAt (i := 13) rfl rfl) ?_
      refine z_top (y := (nI a)) hfa ?_
      refine lv_istore_n (lv' := [(3, .int (nI a)), (0, .ref (ad u)), (1, .int (nI cs)), (2, .int (nI jn))]) hx hb (dkP dF_62 DX1_putAt (i := 14) rfl rfl) rfl hl (by decide) rfl (fun ls hl => ?_)
      refine lv_iconst (v := 0) hx hb (dkP dF_3 DX1_putAt (i := 15) rfl rfl) (by decide) ?_
      refine lv_istore (lv' := [(4, .int 0), (3, .int (nI a)), (0, .ref (ad u)), (1, .int (nI cs)), (2, .int (nI jn))]) hx hb (dk1 dF_54 DX1_putAt (i := 16) rfl rfl rfl) hl (by decide) rfl (fun ls hl => ?_)
      have lp3 : ∀ (nq : Nat) (q4_26 : Nat) (q3_26 : Nat) (H : Heap) (locs : List Loc) (ls : Array Slot), k - q4_26 < nq → (q4_26 ≤ jn) → (q3_26 ≤ 2000) → (ch (σ.1 (u + 7)) us P (k - q4_26) q3_26) → St G kc A s.heap shC ad σ H locs → lv_has ls 5 [(4, .int (nI q4_26)), (3, .int (nI q3_26)), (0, .ref (ad u)), (1, .int (nI cs)), (2, .int (nI jn))] → W pr l e { frames := 1, cells := 0, slots := 0, locals := 21 } s m ([.ref (ad u), .int (nI cs), .int (nI jn)] : List Value).toArray below meth c H locs 0 0 (MQ below (va_Qi (fun r σ1 => (r = -1 ∨ ∃ b m, r = nI b ∧ 1 ≤ m ∧ ch (σ.1 (u + 7)) us P m b) ∧ σ1 = σ) (PoC G kc shC ad A) A) ([.ref (ad u), .int (nI cs), .int (nI jn)] : List Value).toArray s 0 0 A) (F0 m 26 ls []) := by
        intro nq
        induction nq with
        | zero => intro q4_26 q3_26 H locs ls hmu; exact absurd hmu (Nat.not_lt_zero _)
        | succ nq ih3 =>
          intro q4_26 q3_26 H locs ls hmu hq4_26 hq3_26 hcc hw hl
          refine lv_iload hx hb (dk1 dF_21 DX1_putAt (i := 17) rfl rfl rfl) (lv_at hl 0 rfl) ?_
          refine lv_iload_n hx hb (dkP dF_28 DX1_putAt (i := 18) rfl rfl) rfl (lv_at hl 4 rfl) ?_
          refine lv_icmp_ge (tgt := 49) hx hb (dkS dF_162 DX1_putAt (i := 19) rfl rfl rfl) (by decide) (fun c4 => ?_) (fun c4 => ?_)
          · simp (disch := omega) only [ta_lt, ta_le, ta_eq, tnI] at c4
            refine lv_iload_n hx hb (dkP dF_29 DX1_putAt (i := 29) rfl rfl) rfl (lv_at hl 1 rfl) ?_
            exact z_iret C0 hr hlk hw (⟨(Or.inr ⟨q3_26, k - q4_26, rfl, by omega, hcc⟩), rfl⟩) (dkP dF_172 DX1_putAt (i := 30) rfl rfl)
          · simp (disch := omega) only [ta_lt, ta_le, ta_eq, tnI] at c4
            obtain ⟨hfk0, cj, hcj16, hcj, hcjb, hcn⟩ := ch_s hcc (by omega)
            refine lv_aload_n hx hb (dkP dF_42 DX1_putAt (i := 20) rfl rfl) rfl (lv_at hl 2 rfl) ?_
            refine z_gr C0 hw u 9 (u + 6) (fk_of (shl_nt_0 u hu) rfl) fl_X1_32 (dk2 dF_180 DX1_putAt (i := 21) rfl rfl rfl) ?_
            refine lv_iload_n hx hb (dkP dF_29 DX1_putAt (i := 22) rfl rfl) rfl (lv_at hl 1 rfl) ?_
            refine lv_iconst (v := 1) hx hb (dkP dF_4 DX1_putAt (i := 23) rfl rfl) (by decide) ?_
            refine lv_iadd hx hb (dkP dF_96 DX1_putAt (i := 24) rfl rfl) ?_
            refine z_top (y := nI (q3_26 + 1)) (by simp only [fa_lit, nI_add, pk_mul]) ?_
            refine zk_I hw (zr_V (As := [.int (nI (q3_26 + 1))]) (rest := []) C0 (c_X8_behind_n l G kc ad σ (u + 6) (q3_26 + 1) (ntsn u hu) hcj (by omega) hT _) cv_X8_behind lk_X1_85 (zp_V C0 hRo hw (u + 6) (shl_nt_6 u hu) rfl rfl) rfl hl.1 rfl ⟨by decide, by decide⟩ (Nat.le_of_ble_eq_true rfl) (dk2 dF_182 DX1_putAt (i := 25) rfl rfl rfl) ⟨Nat.le_refl _, Nat.le_refl _⟩) (fun r5 s5 H locs hp hw => ?_)
            obtain ⟨f5_0, hs5⟩ := hp
            (rw [hs5] at hw)
            subst f5_0
            refine lv_istore_n (lv' := [(3, .int (nI (q3_26 + 1 + 2 + cj))), (4, .int (nI q4_26)), (0, .ref (ad u)), (1, .int (nI cs)), (2, .int (nI jn))]) hx hb (dkP dF_62 DX1_putAt (i := 26) rfl rfl) rfl hl (by decide) rfl (fun ls hl => ?_)
            refine lv_iinc (v := nI (q4_26 + 1)) (lv' := [(4, .int (nI (q4_26 + 1))), (3, .int (nI (q3_26 + 1 + 2 + cj))), (0, .ref (ad u)), (1, .int (nI cs)), (2, .int (nI jn))]) hx hb (dkI DX1_putAt (i := 27) rfl rfl rfl rfl) hl (k := 1) rfl (nI_1 _) (by decide) rfl (fun ls hl => ?_)
            refine lv_goto (tgt := 26) hx hb (dkS dF_167 DX1_putAt (i := 28) rfl rfl rfl) (by decide) ?_
            exact ih3 (q4_26 + 1) (q3_26 + 1 + 2 + cj) _ _ _ (by omega) (by (try simp only [lg_cmp_lt, lg_cmp_le, lg_cmp_gt, lg_cmp_ge, lg_cmp_eq] at c1); (try simp (disch := omega) only [ta_lt, ta_le, ta_eq, tb_lt, tb_le, tb_eq, tw, tnI, tsub1, tsv, tsb32, tn32 1 (by decide), tnj 1 (by decide), tl32 0 (by decide), tl64 0 (by decide), tl32 1 (by decide), tl64 1 (by decide)] at c1); (try simp only [lg_cmp_lt, lg_cmp_le, lg_cmp_gt, lg_cmp_ge, lg_cmp_eq] at c2); (try simp (disch := omega) only [ta_lt, ta_le, ta_eq, tb_lt, tb_le, tb_eq, tw, tnI, tsub1, tsv, tsb32, tn32 1 (by decide), tnj 1 (by decide), tl32 0 (by decide), tl64 0 (by decide), tl32 1 (by decide), tl64 1 (by decide)] at c2); (try simp only [lg_cmp_lt, lg_cmp_le, lg_cmp_gt, lg_cmp_ge, lg_cmp_eq] at c4); (try simp (disch := omega) only [ta_lt, ta_le, ta_eq, tb_lt, tb_le, tb_eq, tw, tnI, tsub1, tsv, tsb32, tn32 1 (by decide), tnj 1 (by decide), tl32 0 (by decide), tl64 0 (by decide), tl32 1 (by decide), tl64 1 (by decide)] at c4); (try simp only [lg_cmp_lt, lg_cmp_le, lg_cmp_gt, lg_cmp_ge, lg_cmp_eq] at f5_0); (try simp (disch := omega) only [ta_lt, ta_le, ta_eq, tb_lt, tb_le, tb_eq, tw, tnI, tsub1, tsv, tsb32, tn32 1 (by decide), tnj 1 (by decide), tl32 0 (by decide), tl64 0 (by decide), tl32 1 (by decide), tl64 1 (by decide)] at f5_0); (try simp (disch := omega) only [ta_lt, ta_le, ta_eq, tb_lt, tb_le, tb_eq, tw, tnI, tsub1, tsv, tsb32, tn32 1 (by decide), tnj 1 (by decide), tl32 0 (by decide), tl64 0 (by decide), tl32 1 (by decide), tl64 1 (by decide)]); omega) (by (try simp only [lg_cmp_lt, lg_cmp_le, lg_cmp_gt, lg_cmp_ge, lg_cmp_eq] at c1); (try simp (disch := omega) only [ta_lt, ta_le, ta_eq, tb_lt, tb_le, tb_eq, tw, tnI, tsub1, tsv, tsb32, tn32 1 (by decide), tnj 1 (by decide), tl32 0 (by decide), tl64 0 (by decide), tl32 1 (by decide), tl64 1 (by decide)] at c1); (try simp only [lg_cmp_lt, lg_cmp_le, lg_cmp_gt, lg_cmp_ge, lg_cmp_eq] at c2); (try simp (disch := omega) only [ta_lt, ta_le, ta_eq, tb_lt, tb_le, tb_eq, tw, tnI, tsub1, tsv, tsb32, tn32 1 (by decide), tnj 1 (by decide), tl32 0 (by decide), tl64 0 (by decide), tl32 1 (by decide), tl64 1 (by decide)] at c2); (try simp only [lg_cmp_lt, lg_cmp_le, lg_cmp_gt, lg_cmp_ge, lg_cmp_eq] at c4); (try simp (disch := omega) only [ta_lt, ta_le, ta_eq, tb_lt, tb_le, tb_eq, tw, tnI, tsub1, tsv, tsb32, tn32 1 (by decide), tnj 1 (by decide), tl32 0 (by decide), tl64 0 (by decide), tl32 1 (by decide), tl64 1 (by decide)] at c4); (try simp only [lg_cmp_lt, lg_cmp_le, lg_cmp_gt, lg_cmp_ge, lg_cmp_eq] at f5_0); (try simp (disch := omega) only [ta_lt, ta_le, ta_eq, tb_lt, tb_le, tb_eq, tw, tnI, tsub1, tsv, tsb32, tn32 1 (by decide), tnj 1 (by decide), tl32 0 (by decide), tl64 0 (by decide), tl32 1 (by decide), tl64 1 (by decide)] at f5_0); (try simp (disch := omega) only [ta_lt, ta_le, ta_eq, tb_lt, tb_le, tb_eq, tw, tnI, tsub1, tsv, tsb32, tn32 1 (by decide), tnj 1 (by decide), tl32 0 (by decide), tl64 0 (by decide), tl32 1 (by decide), tl64 1 (by decide)]); omega) (by have e1 : k - (q4_26 + 1) = k - q4_26 - 1 := (by omega); have e2 : q3_26 + 1 + 2 + cj = q3_26 + 3 + cj := (by omega); rw [e1, e2]; exact hcn) hw (lv_sub hl [0, 1, 2, 3, 4] rfl)
      exact lp3 _ 0 a _ _ _ (Nat.lt_succ_self _) (by (try simp only [lg_cmp_lt, lg_cmp_le, lg_cmp_gt, lg_cmp_ge, lg_cmp_eq] at c1); (try simp (disch := omega) only [ta_lt, ta_le, ta_eq, tb_lt, tb_le, tb_eq, tw, tnI, tsub1, tsv, tsb32, tn32 1 (by decide), tnj 1 (by decide), tl32 0 (by decide), tl64 0 (by decide), tl32 1 (by decide), tl64 1 (by decide)] at c1); (try simp only [lg_cmp_lt, lg_cmp_le, lg_cmp_gt, lg_cmp_ge, lg_cmp_eq] at c2); (try simp (disch := omega) only [ta_lt, ta_le, ta_eq, tb_lt, tb_le, tb_eq, tw, tnI, tsub1, tsv, tsb32, tn32 1 (by decide), tnj 1 (by decide), tl32 0 (by decide), tl64 0 (by decide), tl32 1 (by decide), tl64 1 (by decide)] at c2); (try simp (disch := omega) only [ta_lt, ta_le, ta_eq, tb_lt, tb_le, tb_eq, tw, tnI, tsub1, tsv, tsb32, tn32 1 (by decide), tnj 1 (by decide), tl32 0 (by decide), tl64 0 (by decide), tl32 1 (by decide), tl64 1 (by decide)]); omega) (by (try simp only [lg_cmp_lt, lg_cmp_le, lg_cmp_gt, lg_cmp_ge, lg_cmp_eq] at c1); (try simp (disch := omega) only [ta_lt, ta_le, ta_eq, tb_lt, tb_le, tb_eq, tw, tnI, tsub1, tsv, tsb32, tn32 1 (by decide), tnj 1 (by decide), tl32 0 (by decide), tl64 0 (by decide), tl32 1 (by decide), tl64 1 (by decide)] at c1); (try simp only [lg_cmp_lt, lg_cmp_le, lg_cmp_gt, lg_cmp_ge, lg_cmp_eq] at c2); (try simp (disch := omega) only [ta_lt, ta_le, ta_eq, tb_lt, tb_le, tb_eq, tw, tnI, tsub1, tsv, tsb32, tn32 1 (by decide), tnj 1 (by decide), tl32 0 (by decide), tl64 0 (by decide), tl32 1 (by decide), tl64 1 (by decide)] at c2); (try simp (disch := omega) only [ta_lt, ta_le, ta_eq, tb_lt, tb_le, tb_eq, tw, tnI, tsub1, tsv, tsb32, tn32 1 (by decide), tnj 1 (by decide), tl32 0 (by decide), tl64 0 (by decide), tl32 1 (by decide), tl64 1 (by decide)]); omega) hca hw (lv_sub hl [0, 1, 2, 3, 4] rfl)
    · (try simp (disch := omega) only [ta_lt, ta_le, ta_eq, tnI] at c2); have hz2 := i32b ja
      refine lv_iconst (v := (-1)) hx hb (dkP dF_2 DX1_putAt (i := 8) rfl rfl) (by decide) ?_
      exact z_iret C0 hr hlk hw (⟨(Or.inl rfl), rfl⟩) (dkP dF_172 DX1_putAt (i := 9) rfl rfl)
set_option maxRecDepth 100000 in
set_option maxHeartbeats 8000000 in
theorem c_X1_putOf (l : Launch) (G : va_G) (kc : KC) (ad : Nat → Nat) (σ : Sg) (u : Nat) (cs : Int32) (letter : Int32) {zs us : Nat} {K_ : Nat → Prop} (hu : u ∈ ntL) (hzs : σ.1 u 3 = nI zs) (hzs40 : zs ≤ 40) (hN : VNb σ u zs us K_) (hT : TC σ) : MI l G kc yX1_putOf cX1_putOf 5 (some .int) 1 21 [.ref (ad u), .int cs, .int letter] shC ad σ (fun r σ1 => (r = -1 ∨ ∃ b m, r = nI b ∧ 1 ≤ m ∧ ch (σ.1 (u + 7)) us (PF K_ (σ.1 (u + 7))) m b) ∧ σ1 = σ) := by
  intro sz
  refine z_body (y := yX1_putOf) (n := 5) (av := [.ref (ad u), .int cs, .int letter]) (Qc := fun A => va_Qi (fun r σ1 => (r = -1 ∨ ∃ b m, r = nI b ∧ 1 ≤ m ∧ ch (σ.1 (u + 7)) us (PF K_ (σ.1 (u + 7))) m b) ∧ σ1 = σ) (PoC G kc shC ad A) A) (plainFor_of_name (by decide)) (Nat.le_of_ble_eq_true rfl) (fun pr e s m below meth c A C0 hr hlk hnm hw hRo ls hl => ?_) sz
  have hx := C0.1
  have hb := C0.2.1
  have hown := C0.2.2.2.1
  have hts := C0.2.2.2.2.1
  have hl : lv_has ls 5 [(0, .ref (ad u)), (1, .int cs), (2, .int letter)] := hl
  have hun_ := ntN u hu
  refine lv_iload_n hx hb (dkP dF_27 DX1_putOf (i := 0) rfl rfl) rfl (lv_at hl 1 rfl) ?_
  refine lv_if_lt (tgt := 12) hx hb (dkS dF_155 DX1_putOf (i := 1) rfl rfl rfl) (by decide) (fun c1 => ?_) (fun c1 => ?_)
  · (try simp (disch := omega) only [ta_lt, ta_le, ta_eq, tnI, tl32 0 (by decide)] at c1)
    refine lv_iconst (v := (-1)) hx hb (dkP dF_2 DX1_putOf (i := 6) rfl rfl) (by decide) ?_
    exact z_iret C0 hr hlk hw (⟨(Or.inl rfl), rfl⟩) (dkP dF_172 DX1_putOf (i := 7) rfl rfl)
  · (try simp (disch := omega) only [ta_lt, ta_le, ta_eq, tnI, tl32 0 (by decide)] at c1)
    refine lv_iload_n hx hb (dkP dF_27 DX1_putOf (i := 2) rfl rfl) rfl (lv_at hl 1 rfl) ?_
    refine lv_aload_n hx hb (dkP dF_42 DX1_putOf (i := 3) rfl rfl) rfl (lv_at hl 0 rfl) ?_
    refine z_gi C0 hw u 3 (fk_of (shl_nt_0 u hu) rfl) fl_X1_40 (dk2 dF_180 DX1_putOf (i := 4) rfl rfl rfl) ?_
    refine z_top (y := (nI zs)) hzs ?_
    refine lv_icmp_lt (tgt := 14) hx hb (dkS dF_161 DX1_putOf (i := 5) rfl rfl rfl) (by decide) (fun c2 => ?_) (fun c2 => ?_)
    · (try simp (disch := omega) only [ta_lt, ta_le, ta_eq, tnI] at c2); have hz2 := i32b cs
      obtain ⟨cn, hcn, rfl⟩ := to_nat (x := cs) (n := 40) (by (try simp only [lg_cmp_lt, lg_cmp_le, lg_cmp_gt, lg_cmp_ge, lg_cmp_eq] at c1); (try simp (disch := omega) only [ta_lt, ta_le, ta_eq, tb_lt, tb_le, tb_eq, tw, tnI, tsub1, tsv, tsb32, tn32 1 (by decide), tnj 1 (by decide), tl32 0 (by decide), tl64 0 (by decide)] at c1); (try simp only [lg_cmp_lt, lg_cmp_le, lg_cmp_gt, lg_cmp_ge, lg_cmp_eq] at c2); (try simp (disch := omega) only [ta_lt, ta_le, ta_eq, tb_lt, tb_le, tb_eq, tw, tnI, tsub1, tsv, tsb32, tn32 1 (by decide), tnj 1 (by decide), tl32 0 (by decide), tl64 0 (by decide)] at c2); (try simp (disch := omega) only [ta_lt, ta_le, ta_eq, tb_lt, tb_le, tb_eq, tw, tnI, tsub1, tsv, tsb32, tn32 1 (by decide), tnj 1 (by decide), tl32 0 (by decide), tl64 0 (by decide)]); omega)
      have hB_cn : cn < zs := by (try simp only [lg_cmp_lt, lg_cmp_le, lg_cmp_gt, lg_cmp_ge, lg_cmp_eq] at c1); (try simp (disch := omega) only [ta_lt, ta_le, ta_eq, tb_lt, tb_le, tb_eq, tw, tnI, tsub1, tsv, tsb32, tn32 1 (by decide), tnj 1 (by decide), tl32 0 (by decide), tl64 0 (by decide)] at c1); (try simp only [lg_cmp_lt, lg_cmp_le, lg_cmp_gt, lg_cmp_ge, lg_cmp_eq] at c2); (try simp (disch := omega) only [ta_lt, ta_le, ta_eq, tb_lt, tb_le, tb_eq, tw, tnI, tsub1, tsv, tsb32, tn32 1 (by decide), tnj 1 (by decide), tl32 0 (by decide), tl64 0 (by decide)] at c2); (try simp (disch := omega) only [ta_lt, ta_le, ta_eq, tb_lt, tb_le, tb_eq, tw, tnI, tsub1, tsv, tsb32, tn32 1 (by decide), tnj 1 (by decide), tl32 0 (by decide), tl64 0 (by decide)]); omega
      obtain ⟨a, k, hfa, ha2, hfk, hk1, hca⟩ := (hN.2.2.1 cn (by omega)).2
      have hus := hN.1
      refine lv_aload_n hx hb (dkP dF_42 DX1_putOf (i := 8) rfl rfl) rfl (lv_at hl 0 rfl) ?_
      refine z_gr C0 hw u 7 (u + 4) (fk_of (shl_nt_0 u hu) rfl) fl_X1_23 (dk2 dF_180 DX1_putOf (i := 9) rfl rfl rfl) ?_
      refine lv_iload_n hx hb (dkP dF_27 DX1_putOf (i := 10) rfl rfl) rfl (lv_at hl 1 rfl) ?_
      refine z_ialdN (n := 40) C0 hw (u + 4) cn (ak_of (shl_nt_4 u hu)) (by omega) (by decide) (dkP dF_46 DX1_putOf (i := 11) rfl rfl) ?_
      refine z_top (y := (nI a)) hfa ?_
      refine lv_istore_n (lv' := [(3, .int (nI a)), (0, .ref (ad u)), (1, .int (nI cn)), (2, .int letter)]) hx hb (dkP dF_62 DX1_putOf (i := 12) rfl rfl) rfl hl (by decide) rfl (fun ls hl => ?_)
      refine lv_iconst (v := 0) hx hb (dkP dF_3 DX1_putOf (i := 13) rfl rfl) (by decide) ?_
      refine lv_istore (lv' := [(4, .int 0), (3, .int (nI a)), (0, .ref (ad u)), (1, .int (nI cn)), (2, .int letter)]) hx hb (dk1 dF_54 DX1_putOf (i := 14) rfl rfl rfl) hl (by decide) rfl (fun ls hl => ?_)
      have lp3 : ∀ (nq : Nat) (q4_24 : Nat) (q3_24 : Nat) (H : Heap) (locs : List Loc) (ls : Array Slot), k - q4_24 < nq → (q4_24 ≤ k) → (q3_24 ≤ 2000) → (ch (σ.1 (u + 7)) us (PF K_ (σ.1 (u + 7))) (k - q4_24) q3_24) → St G kc A s.heap shC ad σ H locs → lv_has ls 5 [(4, .int (nI q4_24)), (3, .int (nI q3_24)), (0, .ref (ad u)), (1, .int (nI cn)), (2, .int letter)] → W pr l e { frames := 1, cells := 0, slots := 0, locals := 21 } s m ([.ref (ad u), .int (nI cn), .int letter] : List Value).toArray below meth c H locs 0 0 (MQ below (va_Qi (fun r σ1 => (r = -1 ∨ ∃ b m, r = nI b ∧ 1 ≤ m ∧ ch (σ.1 (u + 7)) us (PF K_ (σ.1 (u + 7))) m b) ∧ σ1 = σ) (PoC G kc shC ad A) A) ([.ref (ad u), .int (nI cn), .int letter] : List Value).toArray s 0 0 A) (F0 m 24 ls []) := by
        intro nq
        induction nq with
        | zero => intro q4_24 q3_24 H locs ls hmu; exact absurd hmu (Nat.not_lt_zero _)
        | succ nq ih3 =>
          intro q4_24 q3_24 H locs ls hmu hq4_24 hq3_24 hcc hw hl
          refine lv_iload hx hb (dk1 dF_21 DX1_putOf (i := 15) rfl rfl rfl) (lv_at hl 0 rfl) ?_
          refine lv_aload_n hx hb (dkP dF_42 DX1_putOf (i := 16) rfl rfl) rfl (lv_at hl 2 rfl) ?_
          refine z_gr C0 hw u 6 (u + 3) (fk_of (shl_nt_0 u hu) rfl) fl_X1_20 (dk2 dF_180 DX1_putOf (i := 17) rfl rfl rfl) ?_
          refine lv_iload_n hx hb (dkP dF_27 DX1_putOf (i := 18) rfl rfl) rfl (lv_at hl 3 rfl) ?_
          refine z_ialdN (n := 40) C0 hw (u + 3) cn (ak_of (shl_nt_3 u hu)) (by omega) (by decide) (dkP dF_46 DX1_putOf (i := 19) rfl rfl) ?_
          refine z_top (y := (nI k)) hfk ?_
          refine lv_icmp_ge (tgt := 67) hx hb (dkS dF_162 DX1_putOf (i := 20) rfl rfl rfl) (by decide) (fun c4 => ?_) (fun c4 => ?_)
          · simp (disch := omega) only [ta_lt, ta_le, ta_eq, tnI] at c4
            refine lv_iconst (v := (-1)) hx hb (dkP dF_2 DX1_putOf (i := 39) rfl rfl) (by decide) ?_
            exact z_iret C0 hr hlk hw (⟨(Or.inl rfl), rfl⟩) (dkP dF_172 DX1_putOf (i := 40) rfl rfl)
          · simp (disch := omega) only [ta_lt, ta_le, ta_eq, tnI] at c4
            obtain ⟨hfk0, cj, hcj16, hcj, hcjb, hcn⟩ := ch_s hcc (by omega)
            refine lv_aload_n hx hb (dkP dF_42 DX1_putOf (i := 21) rfl rfl) rfl (lv_at hl 2 rfl) ?_
            refine z_gr C0 hw u 9 (u + 6) (fk_of (shl_nt_0 u hu) rfl) fl_X1_32 (dk2 dF_180 DX1_putOf (i := 22) rfl rfl rfl) ?_
            refine z_gr C0 hw (u + 6) 0 (u + 7) (fk_of (shl_nt_6 u hu) rfl) fl_X1_74 (dk2 dF_180 DX1_putOf (i := 23) rfl rfl rfl) ?_
            refine lv_iload_n hx hb (dkP dF_29 DX1_putOf (i := 24) rfl rfl) rfl (lv_at hl 1 rfl) ?_
            refine z_ialdN (n := 1920) C0 hw (u + 7) q3_24 (ak_of (shl_nt_7 u hu)) (by omega) (by decide) (dkP dF_46 DX1_putOf (i := 25) rfl rfl) ?_
            obtain ⟨v5, ev5⟩ : ∃ y : Int32, σ.1 (u + 7) q3_24 = y := ⟨_, rfl⟩
            refine z_top (y := v5) ev5 ?_
            refine lv_iload_n hx hb (dkP dF_28 DX1_putOf (i := 26) rfl rfl) rfl (lv_at hl 4 rfl) ?_
            refine lv_icmp_ne (tgt := 50) hx hb (dkS dF_160 DX1_putOf (i := 27) rfl rfl rfl) (by decide) (fun c6 => ?_) (fun c6 => ?_)
            · (try simp (disch := omega) only [ta_lt, ta_le, ta_eq, tnI] at c6)
              refine lv_aload_n hx hb (dkP dF_42 DX1_putOf (i := 30) rfl rfl) rfl (lv_at hl 2 rfl) ?_
              refine z_gr C0 hw u 9 (u + 6) (fk_of (shl_nt_0 u hu) rfl) fl_X1_32 (dk2 dF_180 DX1_putOf (i := 31) rfl rfl rfl) ?_
              refine lv_iload_n hx hb (dkP dF_29 DX1_putOf (i := 32) rfl rfl) rfl (lv_at hl 1 rfl) ?_
              refine lv_iconst (v := 1) hx hb (dkP dF_4 DX1_putOf (i := 33) rfl rfl) (by decide) ?_
              refine lv_iadd hx hb (dkP dF_96 DX1_putOf (i := 34) rfl rfl) ?_
              refine z_top (y := nI (q3_24 + 1)) (by simp only [fa_lit, nI_add, pk_mul]) ?_
              refine zk_I hw (zr_V (As := [.int (nI (q3_24 + 1))]) (rest := []) C0 (c_X8_behind_n l G kc ad σ (u + 6) (q3_24 + 1) (ntsn u hu) hcj (by omega) hT _) cv_X8_behind lk_X1_85 (zp_V C0 hRo hw (u + 6) (shl_nt_6 u hu) rfl rfl) rfl hl.1 rfl ⟨by decide, by decide⟩ (Nat.le_of_ble_eq_true rfl) (dk2 dF_182 DX1_putOf (i := 35) rfl rfl rfl) ⟨Nat.le_refl _, Nat.le_refl _⟩) (fun r7 s7 H locs hp hw => ?_)
              obtain ⟨f7_0, hs7⟩ := hp
              (rw [hs7] at hw)
              subst f7_0
              refine lv_istore_n (lv' := [(3, .int (nI (q3_24 + 1 + 2 + cj))), (4, .int (nI q4_24)), (0, .ref (ad u)), (1, .int (nI cn)), (2, .int letter)]) hx hb (dkP dF_62 DX1_putOf (i := 36) rfl rfl) rfl hl (by decide) rfl (fun ls hl => ?_)
              refine lv_iinc (v := nI (q4_24 + 1)) (lv' := [(4, .int (nI (q4_24 + 1))), (3, .int (nI (q3_24 + 1 + 2 + cj))), (0, .ref (ad u)), (1, .int (nI cn)), (2, .int letter)]) hx hb (dkI DX1_putOf (i := 37) rfl rfl rfl rfl) hl (k := 1) rfl (nI_1 _) (by decide) rfl (fun ls hl => ?_)
              refine lv_goto (tgt := 24) hx hb (dkS dF_167 DX1_putOf (i := 38) rfl rfl rfl) (by decide) ?_
              exact ih3 (q4_24 + 1) (q3_24 + 1 + 2 + cj) _ _ _ (by omega) (by (try simp only [lg_cmp_lt, lg_cmp_le, lg_cmp_gt, lg_cmp_ge, lg_cmp_eq] at c1); (try simp (disch := omega) only [ta_lt, ta_le, ta_eq, tb_lt, tb_le, tb_eq, tw, tnI, tsub1, tsv, tsb32, tn32 1 (by decide), tnj 1 (by decide), tl32 0 (by decide), tl64 0 (by decide), tl32 1 (by decide), tl64 1 (by decide)] at c1); (try simp only [lg_cmp_lt, lg_cmp_le, lg_cmp_gt, lg_cmp_ge, lg_cmp_eq] at c2); (try simp (disch := omega) only [ta_lt, ta_le, ta_eq, tb_lt, tb_le, tb_eq, tw, tnI, tsub1, tsv, tsb32, tn32 1 (by decide), tnj 1 (by decide), tl32 0 (by decide), tl64 0 (by decide), tl32 1 (by decide), tl64 1 (by decide)] at c2); (try simp only [lg_cmp_lt, lg_cmp_le, lg_cmp_gt, lg_cmp_ge, lg_cmp_eq] at c4); (try simp (disch := omega) only [ta_lt, ta_le, ta_eq, tb_lt, tb_le, tb_eq, tw, tnI, tsub1, tsv, tsb32, tn32 1 (by decide), tnj 1 (by decide), tl32 0 (by decide), tl64 0 (by decide), tl32 1 (by decide), tl64 1 (by decide)] at c4); (try simp only [lg_cmp_lt, lg_cmp_le, lg_cmp_gt, lg_cmp_ge, lg_cmp_eq] at c6); (try simp (disch := omega) only [ta_lt, ta_le, ta_eq, tb_lt, tb_le, tb_eq, tw, tnI, tsub1, tsv, tsb32, tn32 1 (by decide), tnj 1 (by decide), tl32 0 (by decide), tl64 0 (by decide), tl32 1 (by decide), tl64 1 (by decide)] at c6); (try simp only [lg_cmp_lt, lg_cmp_le, lg_cmp_gt, lg_cmp_ge, lg_cmp_eq] at f7_0); (try simp (disch := omega) only [ta_lt, ta_le, ta_eq, tb_lt, tb_le, tb_eq, tw, tnI, tsub1, tsv, tsb32, tn32 1 (by decide), tnj 1 (by decide), tl32 0 (by decide), tl64 0 (by decide), tl32 1 (by decide), tl64 1 (by decide)] at f7_0); (try simp (disch := omega) only [ta_lt, ta_le, ta_eq, tb_lt, tb_le, tb_eq, tw, tnI, tsub1, tsv, tsb32, tn32 1 (by decide), tnj 1 (by decide), tl32 0 (by decide), tl64 0 (by decide), tl32 1 (by decide), tl64 1 (by decide)]); omega) (by (try simp only [lg_cmp_lt, lg_cmp_le, lg_cmp_gt, lg_cmp_ge, lg_cmp_eq] at c1); (try simp (disch := omega) only [ta_lt, ta_le, ta_eq, tb_lt, tb_le, tb_eq, tw, tnI, tsub1, tsv, tsb32, tn32 1 (by decide), tnj 1 (by decide), tl32 0 (by decide), tl64 0 (by decide), tl32 1 (by decide), tl64 1 (by decide)] at c1); (try simp only [lg_cmp_lt, lg_cmp_le, lg_cmp_gt, lg_cmp_ge, lg_cmp_eq] at c2); (try simp (disch := omega) only [ta_lt, ta_le, ta_eq, tb_lt, tb_le, tb_eq, tw, tnI, tsub1, tsv, tsb32, tn32 1 (by decide), tnj 1 (by decide), tl32 0 (by decide), tl64 0 (by decide), tl32 1 (by decide), tl64 1 (by decide)] at c2); (try simp only [lg_cmp_lt, lg_cmp_le, lg_cmp_gt, lg_cmp_ge, lg_cmp_eq] at c4); (try simp (disch := omega) only [ta_lt, ta_le, ta_eq, tb_lt, tb_le, tb_eq, tw, tnI, tsub1, tsv, tsb32, tn32 1 (by decide), tnj 1 (by decide), tl32 0 (by decide), tl64 0 (by decide), tl32 1 (by decide), tl64 1 (by decide)] at c4); (try simp only [lg_cmp_lt, lg_cmp_le, lg_cmp_gt, lg_cmp_ge, lg_cmp_eq] at c6); (try simp (disch := omega) only [ta_lt, ta_le, ta_eq, tb_lt, tb_le, tb_eq, tw, tnI, tsub1, tsv, tsb32, tn32 1 (by decide), tnj 1 (by decide), tl32 0 (by decide), tl64 0 (by decide), tl32 1 (by decide), tl64 1 (by decide)] at c6); (try simp only [lg_cmp_lt, lg_cmp_le, lg_cmp_gt, lg_cmp_ge, lg_cmp_eq] at f7_0); (try simp (disch := omega) only [ta_lt, ta_le, ta_eq, tb_lt, tb_le, tb_eq, tw, tnI, tsub1, tsv, tsb32, tn32 1 (by decide), tnj 1 (by decide), tl32 0 (by decide), tl64 0 (by decide), tl32 1 (by decide), tl64 1 (by decide)] at f7_0); (try simp (disch := omega) only [ta_lt, ta_le, ta_eq, tb_lt, tb_le, tb_eq, tw, tnI, tsub1, tsv, tsb32, tn32 1 (by decide), tnj 1 (by decide), tl32 0 (by decide), tl64 0 (by decide), tl32 1 (by decide), tl64 1 (by decide)]); omega) (by have e1 : k - (q4_24 + 1) = k - q4_24 - 1 := (by omega); have e2 : q3_24 + 1 + 2 + cj = q3_24 + 3 + cj := (by omega); rw [e1, e2]; exact hcn) hw (lv_sub hl [0, 1, 2, 3, 4] rfl)
            · (try simp (disch := omega) only [ta_lt, ta_le, ta_eq, tnI] at c6)
              refine lv_iload_n hx hb (dkP dF_29 DX1_putOf (i := 28) rfl rfl) rfl (lv_at hl 1 rfl) ?_
              exact z_iret C0 hr hlk hw (⟨(Or.inr ⟨q3_24, k - q4_24, rfl, by omega, hcc⟩), rfl⟩) (dkP dF_172 DX1_putOf (i := 29) rfl rfl)
      exact lp3 _ 0 a _ _ _ (Nat.lt_succ_self _) (by (try simp only [lg_cmp_lt, lg_cmp_le, lg_cmp_gt, lg_cmp_ge, lg_cmp_eq] at c1); (try simp (disch := omega) only [ta_lt, ta_le, ta_eq, tb_lt, tb_le, tb_eq, tw, tnI, tsub1, tsv, tsb32, tn32 1 (by decide), tnj 1 (by decide), tl32 0 (by decide), tl64 0 (by decide), tl32 1 (by decide), tl64 1 (by decide)] at c1); (try simp only [lg_cmp_lt, lg_cmp_le, lg_cmp_gt, lg_cmp_ge, lg_cmp_eq] at c2); (try simp (disch := omega) only [ta_lt, ta_le, ta_eq, tb_lt, tb_le, tb_eq, tw, tnI, tsub1, tsv, tsb32, tn32 1 (by decide), tnj 1 (by decide), tl32 0 (by decide), tl64 0 (by decide), tl32 1 (by decide), tl64 1 (by decide)] at c2); (try simp (disch := omega) only [ta_lt, ta_le, ta_eq, tb_lt, tb_le, tb_eq, tw, tnI, tsub1, tsv, tsb32, tn32 1 (by decide), tnj 1 (by decide), tl32 0 (by decide), tl64 0 (by decide), tl32 1 (by decide), tl64 1 (by decide)]); omega) (by (try simp only [lg_cmp_lt, lg_cmp_le, lg_cmp_gt, lg_cmp_ge, lg_cmp_eq] at c1); (try simp (disch := omega) only [ta_lt, ta_le, ta_eq, tb_lt, tb_le, tb_eq, tw, tnI, tsub1, tsv, tsb32, tn32 1 (by decide), tnj 1 (by decide), tl32 0 (by decide), tl64 0 (by decide), tl32 1 (by decide), tl64 1 (by decide)] at c1); (try simp only [lg_cmp_lt, lg_cmp_le, lg_cmp_gt, lg_cmp_ge, lg_cmp_eq] at c2); (try simp (disch := omega) only [ta_lt, ta_le, ta_eq, tb_lt, tb_le, tb_eq, tw, tnI, tsub1, tsv, tsb32, tn32 1 (by decide), tnj 1 (by decide), tl32 0 (by decide), tl64 0 (by decide), tl32 1 (by decide), tl64 1 (by decide)] at c2); (try simp (disch := omega) only [ta_lt, ta_le, ta_eq, tb_lt, tb_le, tb_eq, tw, tnI, tsub1, tsv, tsb32, tn32 1 (by decide), tnj 1 (by decide), tl32 0 (by decide), tl64 0 (by decide), tl32 1 (by decide), tl64 1 (by decide)]); omega) hca hw (lv_sub hl [0, 1, 2, 3, 4] rfl)
    · (try simp (disch := omega) only [ta_lt, ta_le, ta_eq, tnI] at c2); have hz2 := i32b cs
      refine lv_iconst (v := (-1)) hx hb (dkP dF_2 DX1_putOf (i := 6) rfl rfl) (by decide) ?_
      exact z_iret C0 hr hlk hw (⟨(Or.inl rfl), rfl⟩) (dkP dF_172 DX1_putOf (i := 7) rfl rfl)
theorem tck_nt_1 : ∀ d, d ∈ ntL → tcL.getD (d + 1) 0 = 0 := by decide +kernel
set_option maxRecDepth 100000 in
set_option maxHeartbeats 8000000 in
theorem c_X1_tell (l : Launch) (G : va_G) (kc : KC) (ad : Nat → Nat) (σ : Sg) (u : Nat) (cs : Int32) (what : Int32) (ja : Int32) (ia : Int32) {zs us : Nat} {K_ : Nat → Prop} (hu : u ∈ ntL) (hzs : σ.1 u 3 = nI zs) (hzs40 : zs ≤ 40) (hN : VNb σ u zs us K_) (hT : TC σ) : MI l G kc yX1_tell cX1_tell 6 (some .int) 2 45 [.ref (ad u), .int cs, .int what, .int ja, .int ia] shC ad σ (fun r σ1 => σ1 = σ) := by
  intro sz
  refine z_body (y := yX1_tell) (n := 6) (av := [.ref (ad u), .int cs, .int what, .int ja, .int ia]) (Qc := fun A => va_Qi (fun r σ1 => σ1 = σ) (PoC G kc shC ad A) A) (plainFor_of_name (by decide)) (Nat.le_of_ble_eq_true rfl) (fun pr e s m below meth c A C0 hr hlk hnm hw hRo ls hl => ?_) sz
  have hx := C0.1
  have hb := C0.2.1
  have hown := C0.2.2.2.1
  have hts := C0.2.2.2.2.1
  have hl : lv_has ls 6 [(0, .ref (ad u)), (1, .int cs), (2, .int what), (3, .int ja), (4, .int ia)] := hl
  have hun_ := ntN u hu
  refine lv_iload_n hx hb (dkP dF_27 DX1_tell (i := 0) rfl rfl) rfl (lv_at hl 1 rfl) ?_
  refine lv_if_lt (tgt := 21) hx hb (dkS dF_155 DX1_tell (i := 1) rfl rfl rfl) (by decide) (fun c1 => ?_) (fun c1 => ?_)
  · (try simp (disch := omega) only [ta_lt, ta_le, ta_eq, tnI, tl32 0 (by decide)] at c1)
    refine lv_ldc hx hb hown (hts _ kn_X1_92) (dk1 dF_18 DX1_tell (i := 11) rfl rfl rfl) ?_
    exact z_iret C0 hr hlk hw rfl (dkP dF_172 DX1_tell (i := 12) rfl rfl)
  · (try simp (disch := omega) only [ta_lt, ta_le, ta_eq, tnI, tl32 0 (by decide)] at c1)
    refine lv_iload_n hx hb (dkP dF_27 DX1_tell (i := 2) rfl rfl) rfl (lv_at hl 1 rfl) ?_
    refine lv_aload_n hx hb (dkP dF_42 DX1_tell (i := 3) rfl rfl) rfl (lv_at hl 0 rfl) ?_
    refine z_gi C0 hw u 3 (fk_of (shl_nt_0 u hu) rfl) fl_X1_40 (dk2 dF_180 DX1_tell (i := 4) rfl rfl rfl) ?_
    refine z_top (y := (nI zs)) hzs ?_
    refine lv_icmp_ge (tgt := 21) hx hb (dkS dF_162 DX1_tell (i := 5) rfl rfl rfl) (by decide) (fun c2 => ?_) (fun c2 => ?_)
    · (try simp (disch := omega) only [ta_lt, ta_le, ta_eq, tnI] at c2); have hz2 := i32b cs
      refine lv_ldc hx hb hown (hts _ kn_X1_92) (dk1 dF_18 DX1_tell (i := 11) rfl rfl rfl) ?_
      exact z_iret C0 hr hlk hw rfl (dkP dF_172 DX1_tell (i := 12) rfl rfl)
    · (try simp (disch := omega) only [ta_lt, ta_le, ta_eq, tnI] at c2); have hz2 := i32b cs
      refine lv_iload_n hx hb (dkP dF_28 DX1_tell (i := 6) rfl rfl) rfl (lv_at hl 2 rfl) ?_
      refine lv_if_lt (tgt := 21) hx hb (dkS dF_155 DX1_tell (i := 7) rfl rfl rfl) (by decide) (fun c3 => ?_) (fun c3 => ?_)
      · (try simp (disch := omega) only [ta_lt, ta_le, ta_eq, tnI, tl32 0 (by decide)] at c3)
        refine lv_ldc hx hb hown (hts _ kn_X1_92) (dk1 dF_18 DX1_tell (i := 11) rfl rfl rfl) ?_
        exact z_iret C0 hr hlk hw rfl (dkP dF_172 DX1_tell (i := 12) rfl rfl)
      · (try simp (disch := omega) only [ta_lt, ta_le, ta_eq, tnI, tl32 0 (by decide)] at c3)
        refine lv_iload_n hx hb (dkP dF_28 DX1_tell (i := 8) rfl rfl) rfl (lv_at hl 2 rfl) ?_
        refine lv_iconst (v := 4) hx hb (dkP dF_7 DX1_tell (i := 9) rfl rfl) (by decide) ?_
        refine lv_icmp_le (tgt := 24) hx hb (dkS dF_164 DX1_tell (i := 10) rfl rfl rfl) (by decide) (fun c4 => ?_) (fun c4 => ?_)
        · (try simp (disch := omega) only [ta_lt, ta_le, ta_eq, tnI, tl32 4 (by decide)] at c4)
          obtain ⟨cn, hcn, rfl⟩ := to_nat (x := cs) (n := 40) (by (try simp only [lg_cmp_lt, lg_cmp_le, lg_cmp_gt, lg_cmp_ge, lg_cmp_eq] at c1); (try simp (disch := omega) only [ta_lt, ta_le, ta_eq, tb_lt, tb_le, tb_eq, tw, tnI, tsub1, tsv, tsb32, tn32 2000000000 (by decide), tnj 2000000000 (by decide), tn32 1 (by decide), tnj 1 (by decide), tl32 0 (by decide), tl64 0 (by decide), tl32 4 (by decide), tl64 4 (by decide)] at c1); (try simp only [lg_cmp_lt, lg_cmp_le, lg_cmp_gt, lg_cmp_ge, lg_cmp_eq] at c2); (try simp (disch := omega) only [ta_lt, ta_le, ta_eq, tb_lt, tb_le, tb_eq, tw, tnI, tsub1, tsv, tsb32, tn32 2000000000 (by decide), tnj 2000000000 (by decide), tn32 1 (by decide), tnj 1 (by decide), tl32 0 (by decide), tl64 0 (by decide), tl32 4 (by decide), tl64 4 (by decide)] at c2); (try simp only [lg_cmp_lt, lg_cmp_le, lg_cmp_gt, lg_cmp_ge, lg_cmp_eq] at c3); (try simp (disch := omega) only [ta_lt, ta_le, ta_eq, tb_lt, tb_le, tb_eq, tw, tnI, tsub1, tsv, tsb32, tn32 2000000000 (by decide), tnj 2000000000 (by decide), tn32 1 (by decide), tnj 1 (by decide), tl32 0 (by decide), tl64 0 (by decide), tl32 4 (by decide), tl64 4 (by decide)] at c3); (try simp only [lg_cmp_lt, lg_cmp_le, lg_cmp_gt, lg_cmp_ge, lg_cmp_eq] at c4); (try simp (disch := omega) only [ta_lt, ta_le, ta_eq, tb_lt, tb_le, tb_eq, tw, tnI, tsub1, tsv, tsb32, tn32 2000000000 (by decide), tnj 2000000000 (by decide), tn32 1 (by decide), tnj 1 (by decide), tl32 0 (by decide), tl64 0 (by decide), tl32 4 (by decide), tl64 4 (by decide)] at c4); (try simp (disch := omega) only [ta_lt, ta_le, ta_eq, tb_lt, tb_le, tb_eq, tw, tnI, tsub1, tsv, tsb32, tn32 2000000000 (by decide), tnj 2000000000 (by decide), tn32 1 (by decide), tnj 1 (by decide), tl32 0 (by decide), tl64 0 (by decide), tl32 4 (by decide), tl64 4 (by decide)]); omega)
          have hB_cn : cn < zs := by (try simp only [lg_cmp_lt, lg_cmp_le, lg_cmp_gt, lg_cmp_ge, lg_cmp_eq] at c1); (try simp (disch := omega) only [ta_lt, ta_le, ta_eq, tb_lt, tb_le, tb_eq, tw, tnI, tsub1, tsv, tsb32, tn32 2000000000 (by decide), tnj 2000000000 (by decide), tn32 1 (by decide), tnj 1 (by decide), tl32 0 (by decide), tl64 0 (by decide), tl32 4 (by decide), tl64 4 (by decide)] at c1); (try simp only [lg_cmp_lt, lg_cmp_le, lg_cmp_gt, lg_cmp_ge, lg_cmp_eq] at c2); (try simp (disch := omega) only [ta_lt, ta_le, ta_eq, tb_lt, tb_le, tb_eq, tw, tnI, tsub1, tsv, tsb32, tn32 2000000000 (by decide), tnj 2000000000 (by decide), tn32 1 (by decide), tnj 1 (by decide), tl32 0 (by decide), tl64 0 (by decide), tl32 4 (by decide), tl64 4 (by decide)] at c2); (try simp only [lg_cmp_lt, lg_cmp_le, lg_cmp_gt, lg_cmp_ge, lg_cmp_eq] at c3); (try simp (disch := omega) only [ta_lt, ta_le, ta_eq, tb_lt, tb_le, tb_eq, tw, tnI, tsub1, tsv, tsb32, tn32 2000000000 (by decide), tnj 2000000000 (by decide), tn32 1 (by decide), tnj 1 (by decide), tl32 0 (by decide), tl64 0 (by decide), tl32 4 (by decide), tl64 4 (by decide)] at c3); (try simp only [lg_cmp_lt, lg_cmp_le, lg_cmp_gt, lg_cmp_ge, lg_cmp_eq] at c4); (try simp (disch := omega) only [ta_lt, ta_le, ta_eq, tb_lt, tb_le, tb_eq, tw, tnI, tsub1, tsv, tsb32, tn32 2000000000 (by decide), tnj 2000000000 (by decide), tn32 1 (by decide), tnj 1 (by decide), tl32 0 (by decide), tl64 0 (by decide), tl32 4 (by decide), tl64 4 (by decide)] at c4); (try simp (disch := omega) only [ta_lt, ta_le, ta_eq, tb_lt, tb_le, tb_eq, tw, tnI, tsub1, tsv, tsb32, tn32 2000000000 (by decide), tnj 2000000000 (by decide), tn32 1 (by decide), tnj 1 (by decide), tl32 0 (by decide), tl64 0 (by decide), tl32 4 (by decide), tl64 4 (by decide)]); omega
          obtain ⟨a, k, hfa, ha2, hfk, hk1, hca⟩ := (hN.2.2.1 cn (by omega)).2
          have hus := hN.1
          refine lv_iload_n hx hb (dkP dF_28 DX1_tell (i := 13) rfl rfl) rfl (lv_at hl 2 rfl) ?_
          refine lv_iconst (v := 2) hx hb (dkP dF_5 DX1_tell (i := 14) rfl rfl) (by decide) ?_
          refine lv_icmp_ge (tgt := 49) hx hb (dkS dF_162 DX1_tell (i := 15) rfl rfl rfl) (by decide) (fun c5 => ?_) (fun c5 => ?_)
          · (try simp (disch := omega) only [ta_lt, ta_le, ta_eq, tnI, tl32 2 (by decide)] at c5)
            refine lv_aload_n hx hb (dkP dF_42 DX1_tell (i := 28) rfl rfl) rfl (lv_at hl 0 rfl) ?_
            refine lv_iload_n hx hb (dkP dF_27 DX1_tell (i := 29) rfl rfl) rfl (lv_at hl 1 rfl) ?_
            refine lv_iload_n hx hb (dkP dF_29 DX1_tell (i := 30) rfl rfl) rfl (lv_at hl 3 rfl) ?_
            refine zk_I hw (zr_V (As := [.int (nI cn), .int ja]) (rest := []) C0 (c_X1_putAt l G kc ad σ u cn ja hu (by omega) hfa (by omega) hfk hk1 hca hus hT _) cv_X1_putAt lk_X1_93 (zp_V C0 hRo hw u (shl_nt_0 u hu) rfl rfl) rfl hl.1 rfl ⟨by decide, by decide⟩ (Nat.le_of_ble_eq_true rfl) (dk2 dF_182 DX1_tell (i := 31) rfl rfl rfl) ⟨Nat.le_refl _, Nat.le_refl _⟩) (fun r6 s6 H locs hp hw => ?_)
            obtain ⟨f6_0, hs6⟩ := hp
            (rw [hs6] at hw)
            refine lv_istore (lv' := [(5, .int r6), (0, .ref (ad u)), (1, .int (nI cn)), (2, .int what), (3, .int ja), (4, .int ia)]) hx hb (dk1 dF_54 DX1_tell (i := 32) rfl rfl rfl) hl (by decide) rfl (fun ls hl => ?_)
            refine lv_iload hx hb (dk1 dF_21 DX1_tell (i := 33) rfl rfl rfl) (lv_at hl 0 rfl) ?_
            refine lv_iconst (v := (-1)) hx hb (dkP dF_2 DX1_tell (i := 34) rfl rfl) (by decide) ?_
            refine lv_icmp_ne (tgt := 66) hx hb (dkS dF_160 DX1_tell (i := 35) rfl rfl rfl) (by decide) (fun c7 => ?_) (fun c7 => ?_)
            · skip
              obtain ⟨b, m_, rb, hm1, hcb⟩ := f6_0.resolve_left c7
              subst rb
              obtain ⟨hfk0, cj, hcj16, hcj, hcjb, hcn⟩ := ch_s hcb hm1
              refine lv_iload_n hx hb (dkP dF_28 DX1_tell (i := 38) rfl rfl) rfl (lv_at hl 3 rfl) ?_
              refine lv_iconst (v := 2) hx hb (dkP dF_5 DX1_tell (i := 39) rfl rfl) (by decide) ?_
              refine lv_icmp_ne (tgt := 98) hx hb (dkS dF_160 DX1_tell (i := 40) rfl rfl rfl) (by decide) (fun c8 => ?_) (fun c8 => ?_)
              · (try simp (disch := omega) only [ta_lt, ta_le, ta_eq, tnI, tl32 2 (by decide)] at c8)
                refine lv_iload_n hx hb (dkP dF_28 DX1_tell (i := 54) rfl rfl) rfl (lv_at hl 3 rfl) ?_
                refine lv_iconst (v := 3) hx hb (dkP dF_6 DX1_tell (i := 55) rfl rfl) (by decide) ?_
                refine lv_icmp_ne (tgt := 118) hx hb (dkS dF_160 DX1_tell (i := 56) rfl rfl rfl) (by decide) (fun c9 => ?_) (fun c9 => ?_)
                · (try simp (disch := omega) only [ta_lt, ta_le, ta_eq, tnI, tl32 3 (by decide)] at c9)
                  refine lv_aload_n hx hb (dkP dF_42 DX1_tell (i := 65) rfl rfl) rfl (lv_at hl 1 rfl) ?_
                  refine z_gr C0 hw u 9 (u + 6) (fk_of (shl_nt_0 u hu) rfl) fl_X1_32 (dk2 dF_180 DX1_tell (i := 66) rfl rfl rfl) ?_
                  refine z_gr C0 hw (u + 6) 0 (u + 7) (fk_of (shl_nt_6 u hu) rfl) fl_X1_74 (dk2 dF_180 DX1_tell (i := 67) rfl rfl rfl) ?_
                  refine lv_iload hx hb (dk1 dF_21 DX1_tell (i := 68) rfl rfl rfl) (lv_at hl 0 rfl) ?_
                  refine z_ialdN (n := 1920) C0 hw (u + 7) b (ak_of (shl_nt_7 u hu)) (by omega) (by decide) (dkP dF_46 DX1_tell (i := 69) rfl rfl) ?_
                  obtain ⟨v10, ev10⟩ : ∃ y : Int32, σ.1 (u + 7) b = y := ⟨_, rfl⟩
                  refine z_top (y := v10) ev10 ?_
                  exact z_iret C0 hr hlk hw rfl (dkP dF_172 DX1_tell (i := 70) rfl rfl)
                · (try simp (disch := omega) only [ta_lt, ta_le, ta_eq, tnI, tl32 3 (by decide)] at c9)
                  refine lv_aload_n hx hb (dkP dF_42 DX1_tell (i := 57) rfl rfl) rfl (lv_at hl 1 rfl) ?_
                  refine z_gr C0 hw u 9 (u + 6) (fk_of (shl_nt_0 u hu) rfl) fl_X1_32 (dk2 dF_180 DX1_tell (i := 58) rfl rfl rfl) ?_
                  refine z_gr C0 hw (u + 6) 0 (u + 7) (fk_of (shl_nt_6 u hu) rfl) fl_X1_74 (dk2 dF_180 DX1_tell (i := 59) rfl rfl rfl) ?_
                  refine lv_iload hx hb (dk1 dF_21 DX1_tell (i := 60) rfl rfl rfl) (lv_at hl 0 rfl) ?_
                  refine lv_iconst (v := 2) hx hb (dkP dF_5 DX1_tell (i := 61) rfl rfl) (by decide) ?_
                  refine lv_iadd hx hb (dkP dF_96 DX1_tell (i := 62) rfl rfl) ?_
                  refine z_top (y := nI (b + 2)) (by simp only [fa_lit, nI_add, pk_mul]) ?_
                  refine z_ialdN (n := 1920) C0 hw (u + 7) (b + 2) (ak_of (shl_nt_7 u hu)) (by omega) (by decide) (dkP dF_46 DX1_tell (i := 63) rfl rfl) ?_
                  obtain ⟨v11, ev11⟩ : ∃ y : Int32, σ.1 (u + 7) (b + 2) = y := ⟨_, rfl⟩
                  refine z_top (y := v11) ev11 ?_
                  refine lv_goto (tgt := 128) hx hb (dkS dF_167 DX1_tell (i := 64) rfl rfl rfl) (by decide) ?_
                  exact z_iret C0 hr hlk hw rfl (dkP dF_172 DX1_tell (i := 70) rfl rfl)
              · (try simp (disch := omega) only [ta_lt, ta_le, ta_eq, tnI, tl32 2 (by decide)] at c8)
                refine lv_iload hx hb (dk1 dF_21 DX1_tell (i := 41) rfl rfl rfl) (lv_at hl 5 rfl) ?_
                refine zn_I hw (zr_S (As := [.int ia]) (rest := []) C0 (c_X11_isField l G kc ia  _) cs_X11_isField lk_X1_97 (zp_P C0 hRo hw a00 s00) rfl hl.1 rfl ⟨by decide, by decide⟩ (Nat.le_of_ble_eq_true rfl) (dk2 dF_184 DX1_tell (i := 42) rfl rfl rfl) ⟨Nat.le_refl _, Nat.le_refl _⟩) (fun r12 s12 H locs hp hw => ?_)
                rcases hp with ⟨rfl, hc12⟩ | ⟨rfl, hc12⟩
                · skip
                  (try simp (disch := omega) only [ta_lt, ta_le, ta_eq, tb_lt, tb_le, tb_eq, tw, tnI, tn32 2000000000 (by decide), tnj 2000000000 (by decide), tn32 1 (by decide), tnj 1 (by decide), tl32 0 (by decide), tl64 0 (by decide), tl32 2 (by decide), tl64 2 (by decide), tl32 3 (by decide), tl64 3 (by decide), tl32 4 (by decide), tl64 4 (by decide)] at hc12)
                  obtain ⟨k_ia, hk_ia, rfl⟩ := to_nat (x := ia) (n := 8) (by (try simp only [lg_cmp_lt, lg_cmp_le, lg_cmp_gt, lg_cmp_ge, lg_cmp_eq] at c1); (try simp (disch := omega) only [ta_lt, ta_le, ta_eq, tb_lt, tb_le, tb_eq, tw, tnI, tn32 2000000000 (by decide), tnj 2000000000 (by decide), tn32 1 (by decide), tnj 1 (by decide), tl32 0 (by decide), tl64 0 (by decide), tl32 2 (by decide), tl64 2 (by decide), tl32 3 (by decide), tl64 3 (by decide), tl32 4 (by decide), tl64 4 (by decide)] at c1); (try simp only [lg_cmp_lt, lg_cmp_le, lg_cmp_gt, lg_cmp_ge, lg_cmp_eq] at c2); (try simp (disch := omega) only [ta_lt, ta_le, ta_eq, tb_lt, tb_le, tb_eq, tw, tnI, tn32 2000000000 (by decide), tnj 2000000000 (by decide), tn32 1 (by decide), tnj 1 (by decide), tl32 0 (by decide), tl64 0 (by decide), tl32 2 (by decide), tl64 2 (by decide), tl32 3 (by decide), tl64 3 (by decide), tl32 4 (by decide), tl64 4 (by decide)] at c2); (try simp only [lg_cmp_lt, lg_cmp_le, lg_cmp_gt, lg_cmp_ge, lg_cmp_eq] at c3); (try simp (disch := omega) only [ta_lt, ta_le, ta_eq, tb_lt, tb_le, tb_eq, tw, tnI, tn32 2000000000 (by decide), tnj 2000000000 (by decide), tn32 1 (by decide), tnj 1 (by decide), tl32 0 (by decide), tl64 0 (by decide), tl32 2 (by decide), tl64 2 (by decide), tl32 3 (by decide), tl64 3 (by decide), tl32 4 (by decide), tl64 4 (by decide)] at c3); (try simp only [lg_cmp_lt, lg_cmp_le, lg_cmp_gt, lg_cmp_ge, lg_cmp_eq] at c4); (try simp (disch := omega) only [ta_lt, ta_le, ta_eq, tb_lt, tb_le, tb_eq, tw, tnI, tn32 2000000000 (by decide), tnj 2000000000 (by decide), tn32 1 (by decide), tnj 1 (by decide), tl32 0 (by decide), tl64 0 (by decide), tl32 2 (by decide), tl64 2 (by decide), tl32 3 (by decide), tl64 3 (by decide), tl32 4 (by decide), tl64 4 (by decide)] at c4); (try simp only [lg_cmp_lt, lg_cmp_le, lg_cmp_gt, lg_cmp_ge, lg_cmp_eq] at c5); (try simp (disch := omega) only [ta_lt, ta_le, ta_eq, tb_lt, tb_le, tb_eq, tw, tnI, tn32 2000000000 (by decide), tnj 2000000000 (by decide), tn32 1 (by decide), tnj 1 (by decide), tl32 0 (by decide), tl64 0 (by decide), tl32 2 (by decide), tl64 2 (by decide), tl32 3 (by decide), tl64 3 (by decide), tl32 4 (by decide), tl64 4 (by decide)] at c5); (try simp only [lg_cmp_lt, lg_cmp_le, lg_cmp_gt, lg_cmp_ge, lg_cmp_eq] at f6_0); (try simp (disch := omega) only [ta_lt, ta_le, ta_eq, tb_lt, tb_le, tb_eq, tw, tnI, tn32 2000000000 (by decide), tnj 2000000000 (by decide), tn32 1 (by decide), tnj 1 (by decide), tl32 0 (by decide), tl64 0 (by decide), tl32 2 (by decide), tl64 2 (by decide), tl32 3 (by decide), tl64 3 (by decide), tl32 4 (by decide), tl64 4 (by decide)] at f6_0); (try simp only [lg_cmp_lt, lg_cmp_le, lg_cmp_gt, lg_cmp_ge, lg_cmp_eq] at c7); (try simp (disch := omega) only [ta_lt, ta_le, ta_eq, tb_lt, tb_le, tb_eq, tw, tnI, tn32 2000000000 (by decide), tnj 2000000000 (by decide), tn32 1 (by decide), tnj 1 (by decide), tl32 0 (by decide), tl64 0 (by decide), tl32 2 (by decide), tl64 2 (by decide), tl32 3 (by decide), tl64 3 (by decide), tl32 4 (by decide), tl64 4 (by decide)] at c7); (try simp only [lg_cmp_lt, lg_cmp_le, lg_cmp_gt, lg_cmp_ge, lg_cmp_eq] at c8); (try simp (disch := omega) only [ta_lt, ta_le, ta_eq, tb_lt, tb_le, tb_eq, tw, tnI, tn32 2000000000 (by decide), tnj 2000000000 (by decide), tn32 1 (by decide), tnj 1 (by decide), tl32 0 (by decide), tl64 0 (by decide), tl32 2 (by decide), tl64 2 (by decide), tl32 3 (by decide), tl64 3 (by decide), tl32 4 (by decide), tl64 4 (by decide)] at c8); (try simp only [lg_cmp_lt, lg_cmp_le, lg_cmp_gt, lg_cmp_ge, lg_cmp_eq] at hc12); (try simp (disch := omega) only [ta_lt, ta_le, ta_eq, tb_lt, tb_le, tb_eq, tw, tnI, tn32 2000000000 (by decide), tnj 2000000000 (by decide), tn32 1 (by decide), tnj 1 (by decide), tl32 0 (by decide), tl64 0 (by decide), tl32 2 (by decide), tl64 2 (by decide), tl32 3 (by decide), tl64 3 (by decide), tl32 4 (by decide), tl64 4 (by decide)] at hc12); (try simp (disch := omega) only [ta_lt, ta_le, ta_eq, tb_lt, tb_le, tb_eq, tw, tnI, tn32 2000000000 (by decide), tnj 2000000000 (by decide), tn32 1 (by decide), tnj 1 (by decide), tl32 0 (by decide), tl64 0 (by decide), tl32 2 (by decide), tl64 2 (by decide), tl32 3 (by decide), tl64 3 (by decide), tl32 4 (by decide), tl64 4 (by decide)]); omega)
                  refine lv_if_eq (tgt := 95) hx hb (dkS dF_153 DX1_tell (i := 43) rfl rfl rfl) (by decide) (fun h => absurd h (by decide)) (fun _ => ?_)
                  refine lv_aload_n hx hb (dkP dF_42 DX1_tell (i := 44) rfl rfl) rfl (lv_at hl 1 rfl) ?_
                  refine z_gr C0 hw u 9 (u + 6) (fk_of (shl_nt_0 u hu) rfl) fl_X1_32 (dk2 dF_180 DX1_tell (i := 45) rfl rfl rfl) ?_
                  refine lv_iload hx hb (dk1 dF_21 DX1_tell (i := 46) rfl rfl rfl) (lv_at hl 0 rfl) ?_
                  refine lv_iconst (v := 1) hx hb (dkP dF_4 DX1_tell (i := 47) rfl rfl) (by decide) ?_
                  refine lv_iadd hx hb (dkP dF_96 DX1_tell (i := 48) rfl rfl) ?_
                  refine z_top (y := nI (b + 1)) (by simp only [fa_lit, nI_add, pk_mul]) ?_
                  refine lv_iload hx hb (dk1 dF_21 DX1_tell (i := 49) rfl rfl rfl) (lv_at hl 5 rfl) ?_
                  refine zk_I hw (zr_V (As := [.int (nI (b + 1)), .int (nI k_ia)]) (rest := []) C0 (c_X8_timesOf_n l G kc ad σ (u + 6) (b + 1) (nI k_ia) (ntsn u hu) hcj (by omega) hT _) cv_X8_timesOf lk_X1_101 (zp_V C0 hRo hw (u + 6) (shl_nt_6 u hu) rfl rfl) rfl hl.1 rfl ⟨by decide, by decide⟩ (Nat.le_of_ble_eq_true rfl) (dk2 dF_182 DX1_tell (i := 50) rfl rfl rfl) ⟨Nat.le_refl _, Nat.le_refl _⟩) (fun r13 s13 H locs hp hw => ?_)
                  have hs13 := hp
                  (rw [hs13] at hw)
                  refine lv_goto (tgt := 97) hx hb (dkS dF_167 DX1_tell (i := 51) rfl rfl rfl) (by decide) ?_
                  exact z_iret C0 hr hlk hw rfl (dkP dF_172 DX1_tell (i := 53) rfl rfl)
                · skip
                  (try simp (disch := omega) only [ta_lt, ta_le, ta_eq, tb_lt, tb_le, tb_eq, tw, tnI, tn32 2000000000 (by decide), tnj 2000000000 (by decide), tn32 1 (by decide), tnj 1 (by decide), tl32 0 (by decide), tl64 0 (by decide), tl32 1 (by decide), tl64 1 (by decide), tl32 2 (by decide), tl64 2 (by decide), tl32 3 (by decide), tl64 3 (by decide), tl32 4 (by decide), tl64 4 (by decide)] at hc12)
                  refine lv_if_eq (tgt := 95) hx hb (dkS dF_153 DX1_tell (i := 43) rfl rfl rfl) (by decide) (fun _ => ?_) (fun h => absurd h (by decide))
                  refine lv_ldc hx hb hown (hts _ kn_X1_92) (dk1 dF_18 DX1_tell (i := 52) rfl rfl rfl) ?_
                  exact z_iret C0 hr hlk hw rfl (dkP dF_172 DX1_tell (i := 53) rfl rfl)
            · skip
              refine lv_ldc hx hb hown (hts _ kn_X1_92) (dk1 dF_18 DX1_tell (i := 36) rfl rfl rfl) ?_
              exact z_iret C0 hr hlk hw rfl (dkP dF_172 DX1_tell (i := 37) rfl rfl)
          · (try simp (disch := omega) only [ta_lt, ta_le, ta_eq, tnI, tl32 2 (by decide)] at c5)
            refine lv_iload_n hx hb (dkP dF_28 DX1_tell (i := 16) rfl rfl) rfl (lv_at hl 2 rfl) ?_
            refine lv_if_ne (tgt := 42) hx hb (dkS dF_154 DX1_tell (i := 17) rfl rfl rfl) (by decide) (fun c14 => ?_) (fun c14 => ?_)
            · (try simp (disch := omega) only [ta_lt, ta_le, ta_eq, tnI, tl32 0 (by decide)] at c14)
              refine lv_aload_n hx hb (dkP dF_42 DX1_tell (i := 23) rfl rfl) rfl (lv_at hl 0 rfl) ?_
              refine z_gr C0 hw u 6 (u + 3) (fk_of (shl_nt_0 u hu) rfl) fl_X1_20 (dk2 dF_180 DX1_tell (i := 24) rfl rfl rfl) ?_
              refine lv_iload_n hx hb (dkP dF_27 DX1_tell (i := 25) rfl rfl) rfl (lv_at hl 1 rfl) ?_
              refine z_ialdN (n := 40) C0 hw (u + 3) cn (ak_of (shl_nt_3 u hu)) (by omega) (by decide) (dkP dF_46 DX1_tell (i := 26) rfl rfl) ?_
              refine z_top (y := (nI k)) hfk ?_
              exact z_iret C0 hr hlk hw rfl (dkP dF_172 DX1_tell (i := 27) rfl rfl)
            · (try simp (disch := omega) only [ta_lt, ta_le, ta_eq, tnI, tl32 0 (by decide)] at c14)
              refine lv_aload_n hx hb (dkP dF_42 DX1_tell (i := 18) rfl rfl) rfl (lv_at hl 0 rfl) ?_
              refine z_gr C0 hw u 4 (u + 1) (fk_of (shl_nt_0 u hu) rfl) fl_X1_13 (dk2 dF_180 DX1_tell (i := 19) rfl rfl rfl) ?_
              refine lv_iload_n hx hb (dkP dF_27 DX1_tell (i := 20) rfl rfl) rfl (lv_at hl 1 rfl) ?_
              refine z_ialdN (n := 40) C0 hw (u + 1) cn (ak_of (shl_nt_1 u hu)) (by omega) (by decide) (dkP dF_46 DX1_tell (i := 21) rfl rfl) ?_
              obtain ⟨v15, ev15⟩ : ∃ y : Int32, σ.1 (u + 1) cn = y := ⟨_, rfl⟩
              refine z_top (y := v15) ev15 ?_
              refine lv_goto (tgt := 48) hx hb (dkS dF_167 DX1_tell (i := 22) rfl rfl rfl) (by decide) ?_
              exact z_iret C0 hr hlk hw rfl (dkP dF_172 DX1_tell (i := 27) rfl rfl)
        · (try simp (disch := omega) only [ta_lt, ta_le, ta_eq, tnI, tl32 4 (by decide)] at c4)
          refine lv_ldc hx hb hown (hts _ kn_X1_92) (dk1 dF_18 DX1_tell (i := 11) rfl rfl rfl) ?_
          exact z_iret C0 hr hlk hw rfl (dkP dF_172 DX1_tell (i := 12) rfl rfl)
