set_option maxRecDepth 100000 in
set_option maxHeartbeats 4000000 in
theorem c_X12_keep (l : Launch) (G : va_G) (kc : Nat → ClassId) (ad : Nat → Nat)  (k : Int32)  : MI l G kc yX12_keep cX12_keep 3 (some .int) 1 25 [.ref (ad 0), .int k] shM ad sM0 (fun r σ1 => r = if 0 ≤ k.toInt ∧ k.toInt ≤ 2 then 0 else -2) := by
  intro sz
  refine z_body (y := yX12_keep) (n := 3) (av := [.ref (ad 0), .int k]) (Qc := fun A => va_Qi (fun r σ1 => r = if 0 ≤ k.toInt ∧ k.toInt ≤ 2 then 0 else -2) (PoC G kc shM ad A) A) (plainFor_of_name (by decide)) (Nat.le_of_ble_eq_true rfl) (fun pr e s m below meth c A C0 hr hlk hnm hw ls hl => ?_) sz
  have hx := C0.1
  have hb := C0.2.1
  have hown := C0.2.2.2.1
  have hts := C0.2.2.2.2.1
  have hl : lv_has ls 3 [(0, .ref (ad 0)), (1, .int k)] := hl
  refine lv_iload_n hx hb (dkP dF_27 DX12_keep (i := 0) rfl rfl) rfl (lv_at hl 1 rfl) ?_
  refine lv_i2l hx hb (dkP dF_133 DX12_keep (i := 1) rfl rfl) rfl ?_
  refine lv_lconst (v := 0) hx hb (dkP dF_9 DX12_keep (i := 2) rfl rfl) (by decide) ?_
  refine lv_ldc2 hx hb hown (hts _ kn_X12_145) (dk2 dF_20 DX12_keep (i := 3) rfl rfl rfl) ?_
  refine zn_I hw (zr_S (As := [.long k.toInt64, .long 0, .long 2]) (rest := []) C0 (c_X12_in l G kc k.toInt64 0 2  _) cs_X12_in lk_X12_9 (zp_P C0 a00 s00) rfl hl.1 rfl ⟨by decide, by decide⟩ (Nat.le_of_ble_eq_true rfl) (dk2 dF_184 DX12_keep (i := 4) rfl rfl rfl) ⟨Nat.le_refl _, Nat.le_refl _⟩) (fun r1 s1 H locs hp hw => ?_)
  rcases hp with ⟨rfl, hc1⟩ | ⟨rfl, hc1⟩
  · skip
    obtain ⟨k_k, hk_k, rfl⟩ := to_nat (x := k) (n := 3) (by (try simp only [lg_cmp_lt, lg_cmp_le, lg_cmp_gt, lg_cmp_ge, lg_cmp_eq] at hc1); (try simp (disch := omega) only [ta_lt, ta_le, ta_eq, tb_lt, tb_le, tb_eq, tw, tnI, tn32 1 (by decide), tnj 1 (by decide), tl32 0 (by decide), tl64 0 (by decide), tl32 2 (by decide), tl64 2 (by decide)] at hc1); (try simp (disch := omega) only [ta_lt, ta_le, ta_eq, tb_lt, tb_le, tb_eq, tw, tnI, tn32 1 (by decide), tnj 1 (by decide), tl32 0 (by decide), tl64 0 (by decide), tl32 2 (by decide), tl64 2 (by decide)]); omega)
    refine lv_if_ne (tgt := 15) hx hb (dkS dF_154 DX12_keep (i := 5) rfl rfl rfl) (by decide) (fun _ => ?_) (fun h => absurd h (by decide))
    refine lv_iconst (v := 0) hx hb (dkP dF_3 DX12_keep (i := 8) rfl rfl) (by decide) ?_
    refine lv_istore_n (lv' := [(2, .int 0), (0, .ref (ad 0)), (1, .int (nI k_k))]) hx hb (dkP dF_61 DX12_keep (i := 9) rfl rfl) rfl hl (by decide) rfl (fun ls hl => ?_)
    have lp2 : ∀ (n : Nat) (i : Nat) (τ : Sg) (H : Heap) (locs : List Loc) (ls : Array Slot), 414128 - i < n → (i ≤ 414128) → St G kc A s.heap shM ad τ H locs → lv_has ls 3 [(2, .int (nI i)), (0, .ref (ad 0)), (1, .int (nI k_k))] → W pr l e { frames := 1, cells := 0, slots := 0, locals := 25 } s m ([.ref (ad 0), .int (nI k_k)] : List Value).toArray below meth c H locs 0 0 (MQ below (va_Qi (fun r σ1 => r = if 0 ≤ (nI k_k).toInt ∧ (nI k_k).toInt ≤ 2 then 0 else -2) (PoC G kc shM ad A) A) ([.ref (ad 0), .int (nI k_k)] : List Value).toArray s 0 0 A) (F0 m 17 ls []) := by
      intro n
      induction n with
      | zero => intro i τ H locs ls hmu; exact absurd hmu (Nat.not_lt_zero _)
      | succ n ih2 =>
        intro i τ H locs ls hmu hi hw hl
        refine lv_iload_n hx hb (dkP dF_28 DX12_keep (i := 10) rfl rfl) rfl (lv_at hl 0 rfl) ?_
        refine lv_ldc hx hb hown (hts _ kn_X12_19) (dk1 dF_18 DX12_keep (i := 11) rfl rfl rfl) ?_
        refine lv_icmp_ge (tgt := 46) hx hb (dkS dF_162 DX12_keep (i := 12) rfl rfl rfl) (by decide) (fun c3 => ?_) (fun c3 => ?_)
        · simp (disch := omega) only [ta_lt, ta_le, ta_eq, tnI, tl32 414128 (by decide)] at c3
          refine lv_aload_n hx hb (dkP dF_42 DX12_keep (i := 27) rfl rfl) rfl (lv_at hl 1 rfl) ?_
          refine z_gr C0 hw 0 3 3 rfl fl_X12_28 (dk2 dF_180 DX12_keep (i := 28) rfl rfl rfl) ?_
          refine lv_iload_n hx hb (dkP dF_27 DX12_keep (i := 29) rfl rfl) rfl (lv_at hl 2 rfl) ?_
          refine lv_iconst (v := 1) hx hb (dkP dF_4 DX12_keep (i := 30) rfl rfl) (by decide) ?_
          refine z_zastN (n := 3) C0 hw 3 k_k rfl (by decide) (by omega) (by decide) (dkP dF_84 DX12_keep (i := 31) rfl rfl) (fun H locs hw => ?_)
          refine lv_iconst (v := 0) hx hb (dkP dF_3 DX12_keep (i := 32) rfl rfl) (by decide) ?_
          exact z_iret C0 hr hlk hw (by first | rfl | ((try simp only [lg_cmp_lt, lg_cmp_le, lg_cmp_gt, lg_cmp_ge, lg_cmp_eq] at hc1); (try simp (disch := omega) only [ta_lt, ta_le, ta_eq, tb_lt, tb_le, tb_eq, tw, tnI, tn32 1 (by decide), tnj 1 (by decide), tl32 0 (by decide), tl64 0 (by decide), tl32 1 (by decide), tl64 1 (by decide), tl32 2 (by decide), tl64 2 (by decide), tl32 414128 (by decide), tl64 414128 (by decide)] at hc1); (try simp only [lg_cmp_lt, lg_cmp_le, lg_cmp_gt, lg_cmp_ge, lg_cmp_eq] at hk_k); (try simp (disch := omega) only [ta_lt, ta_le, ta_eq, tb_lt, tb_le, tb_eq, tw, tnI, tn32 1 (by decide), tnj 1 (by decide), tl32 0 (by decide), tl64 0 (by decide), tl32 1 (by decide), tl64 1 (by decide), tl32 2 (by decide), tl64 2 (by decide), tl32 414128 (by decide), tl64 414128 (by decide)] at hk_k); (try simp only [lg_cmp_lt, lg_cmp_le, lg_cmp_gt, lg_cmp_ge, lg_cmp_eq] at c3); (try simp (disch := omega) only [ta_lt, ta_le, ta_eq, tb_lt, tb_le, tb_eq, tw, tnI, tn32 1 (by decide), tnj 1 (by decide), tl32 0 (by decide), tl64 0 (by decide), tl32 1 (by decide), tl64 1 (by decide), tl32 2 (by decide), tl64 2 (by decide), tl32 414128 (by decide), tl64 414128 (by decide)] at c3); (try simp (disch := omega) only [tnI, tn32 1 (by decide), tnj 1 (by decide), tl32 0 (by decide), tl64 0 (by decide), tl32 1 (by decide), tl64 1 (by decide), tl32 2 (by decide), tl64 2 (by decide), tl32 414128 (by decide), tl64 414128 (by decide)]); (repeat' split) <;> first | rfl | omega | (apply Int32.toInt_inj.mp; simp (disch := omega) only [tnI, tn32 1 (by decide), tnj 1 (by decide), tl32 0 (by decide), tl64 0 (by decide), tl32 1 (by decide), tl64 1 (by decide), tl32 2 (by decide), tl64 2 (by decide), tl32 414128 (by decide), tl64 414128 (by decide)]; omega))) (dkP dF_172 DX12_keep (i := 33) rfl rfl)
        · simp (disch := omega) only [ta_lt, ta_le, ta_eq, tnI, tl32 414128 (by decide)] at c3
          refine lv_aload_n hx hb (dkP dF_42 DX12_keep (i := 13) rfl rfl) rfl (lv_at hl 1 rfl) ?_
          refine z_gr C0 hw 0 2 2 rfl fl_X12_25 (dk2 dF_180 DX12_keep (i := 14) rfl rfl rfl) ?_
          refine lv_ldc hx hb hown (hts _ kn_X12_19) (dk1 dF_18 DX12_keep (i := 15) rfl rfl rfl) ?_
          refine lv_iload_n hx hb (dkP dF_27 DX12_keep (i := 16) rfl rfl) rfl (lv_at hl 2 rfl) ?_
          refine lv_imul hx hb (dkP dF_104 DX12_keep (i := 17) rfl rfl) ?_
          refine z_top (y := nI (414128 * k_k)) (by simp only [fa_lit, nI_add, pk_mul]) ?_
          refine lv_iload_n hx hb (dkP dF_28 DX12_keep (i := 18) rfl rfl) rfl (lv_at hl 0 rfl) ?_
          refine lv_iadd hx hb (dkP dF_96 DX12_keep (i := 19) rfl rfl) ?_
          refine z_top (y := nI ((414128 * k_k) + i)) (by simp only [fa_lit, nI_add, pk_mul]) ?_
          refine lv_aload_n hx hb (dkP dF_42 DX12_keep (i := 20) rfl rfl) rfl (lv_at hl 1 rfl) ?_
          refine z_gr C0 hw 0 1 1 rfl fl_X12_20 (dk2 dF_180 DX12_keep (i := 21) rfl rfl rfl) ?_
          refine lv_iload_n hx hb (dkP dF_28 DX12_keep (i := 22) rfl rfl) rfl (lv_at hl 0 rfl) ?_
          refine z_ialdN (n := 414128) C0 hw 1 i rfl (by omega) (by decide) (dkP dF_46 DX12_keep (i := 23) rfl rfl) ?_
          refine z_iastN (n := 1242384) C0 hw 2 ((414128 * k_k) + i) rfl (by omega) (by decide) (dkP dF_79 DX12_keep (i := 24) rfl rfl) (fun H locs hw => ?_)
          refine lv_iinc (v := nI (i + 1)) (lv' := [(2, .int (nI (i + 1))), (0, .ref (ad 0)), (1, .int (nI k_k))]) hx hb (dkI DX12_keep (i := 25) rfl rfl rfl rfl) hl (k := 0) rfl (nI_1 _) (by decide) rfl (fun ls hl => ?_)
          refine lv_goto (tgt := 17) hx hb (dkS dF_167 DX12_keep (i := 26) rfl rfl rfl) (by decide) ?_
          exact ih2 (i + 1) (sI τ 2 ((414128 * k_k) + i) (τ.1 1 i)) _ _ _ (by omega) (by omega) hw (lv_sub hl [0, 1, 2] rfl)
    exact lp2 _ 0 sM0 _ _ _ (Nat.lt_succ_self _) (by omega) hw (lv_sub hl [0, 1, 2] rfl)
  · skip
    refine lv_if_ne (tgt := 15) hx hb (dkS dF_154 DX12_keep (i := 5) rfl rfl rfl) (by decide) (fun h => absurd h (by decide)) (fun _ => ?_)
    refine lv_bipush (v := (-2)) hx hb (dks dF_16 DX12_keep (i := 6) rfl rfl rfl) (by decide) ?_
    exact z_iret C0 hr hlk hw (by first | rfl | ((try simp only [lg_cmp_lt, lg_cmp_le, lg_cmp_gt, lg_cmp_ge, lg_cmp_eq] at hc1); (try simp (disch := omega) only [ta_lt, ta_le, ta_eq, tb_lt, tb_le, tb_eq, tw, tnI, tn32 2 (by decide), tnj 2 (by decide), tn32 1 (by decide), tnj 1 (by decide), tl32 0 (by decide), tl64 0 (by decide), tl32 1 (by decide), tl64 1 (by decide), tl32 2 (by decide), tl64 2 (by decide), tl32 414128 (by decide), tl64 414128 (by decide)] at hc1); (try simp (disch := omega) only [tnI, tn32 2 (by decide), tnj 2 (by decide), tn32 1 (by decide), tnj 1 (by decide), tl32 0 (by decide), tl64 0 (by decide), tl32 1 (by decide), tl64 1 (by decide), tl32 2 (by decide), tl64 2 (by decide), tl32 414128 (by decide), tl64 414128 (by decide)]); (repeat' split) <;> first | rfl | omega | (apply Int32.toInt_inj.mp; simp (disch := omega) only [tnI, tn32 2 (by decide), tnj 2 (by decide), tn32 1 (by decide), tnj 1 (by decide), tl32 0 (by decide), tl64 0 (by decide), tl32 1 (by decide), tl64 1 (by decide), tl32 2 (by decide), tl64 2 (by decide), tl32 414128 (by decide), tl64 414128 (by decide)]; omega))) (dkP dF_172 DX12_keep (i := 7) rfl rfl)
theorem span_ans {lo hi v1 v2 : Int32} (h1 : -99 ≤ lo.toInt) (h2 : lo.toInt ≤ 99) (h3 : -99 ≤ hi.toInt) (h4 : hi.toInt ≤ 99) (e1 : v1 = if (0 : Int32).toInt < (hi - lo + 1).toInt then hi - lo + 1 else 0) (e2 : v2 = if (1 : Int32).toInt < v1.toInt then v1 else 1) : v2 = (if hi.toInt < lo.toInt then 1 else hi - lo + 1) ∧ v2.toInt ≤ 4096 := by
  have q0 : (hi - lo).toInt = hi.toInt - lo.toInt := by
    rw [Int32.toInt_sub, Int.bmod_eq_of_le] <;> omega
  have q : (hi - lo + 1).toInt = hi.toInt - lo.toInt + 1 := by
    rw [Int32.toInt_add, q0, tl32 1 (by decide), Int.bmod_eq_of_le] <;> omega
  rw [tl32 0 (by decide), q] at e1
  rw [tl32 1 (by decide)] at e2
  by_cases c : hi.toInt < lo.toInt
  · rw [if_neg (by omega)] at e1
    subst e1
    rw [tl32 0 (by decide), if_neg (by omega)] at e2
    subst e2
    exact ⟨by rw [if_pos c], by rw [tl32 1 (by decide)]; omega⟩
  · rw [if_pos (by omega)] at e1
    subst e1
    rw [q] at e2
    rw [if_neg c]
    by_cases c2 : hi.toInt = lo.toInt
    · rw [if_neg (by omega)] at e2
      subst e2
      refine ⟨?_, by rw [tl32 1 (by decide)]; omega⟩
      apply Int32.toInt_inj.mp
      rw [q, tl32 1 (by decide)]
      omega
    · rw [if_pos (by omega)] at e2
      subst e2
      exact ⟨rfl, by rw [q]; omega⟩
set_option maxRecDepth 100000 in
set_option maxHeartbeats 4000000 in
theorem c_X12_span (l : Launch) (G : va_G) (kc : Nat → ClassId) (ad : Nat → Nat)  (p : Int32) (f : Int32) (lo : Int32) (hi2 : Int32)  : MI l G kc yX12_span cX12_span 9 (some .int) 3 64 [.ref (ad 0), .int p, .int f, .int lo, .int hi2] shM ad sM0 (fun r σ1 => r = if 0 ≤ p.toInt ∧ p.toInt ≤ 7 ∧ 0 ≤ f.toInt ∧ f.toInt ≤ 7 ∧ -99 ≤ lo.toInt ∧ lo.toInt ≤ 99 ∧ -99 ≤ hi2.toInt ∧ hi2.toInt ≤ 99 then (if hi2.toInt < lo.toInt then 1 else hi2 - lo + 1) else -2) := by
  intro sz
  refine z_body (y := yX12_span) (n := 9) (av := [.ref (ad 0), .int p, .int f, .int lo, .int hi2]) (Qc := fun A => va_Qi (fun r σ1 => r = if 0 ≤ p.toInt ∧ p.toInt ≤ 7 ∧ 0 ≤ f.toInt ∧ f.toInt ≤ 7 ∧ -99 ≤ lo.toInt ∧ lo.toInt ≤ 99 ∧ -99 ≤ hi2.toInt ∧ hi2.toInt ≤ 99 then (if hi2.toInt < lo.toInt then 1 else hi2 - lo + 1) else -2) (PoC G kc shM ad A) A) (plainFor_of_name (by decide)) (Nat.le_of_ble_eq_true rfl) (fun pr e s m below meth c A C0 hr hlk hnm hw ls hl => ?_) sz
  have hx := C0.1
  have hb := C0.2.1
  have hown := C0.2.2.2.1
  have hts := C0.2.2.2.2.1
  have hl : lv_has ls 9 [(0, .ref (ad 0)), (1, .int p), (2, .int f), (3, .int lo), (4, .int hi2)] := hl
  refine lv_iload_n hx hb (dkP dF_27 DX12_span (i := 0) rfl rfl) rfl (lv_at hl 1 rfl) ?_
  refine zn_I hw (zr_S (As := [.int p]) (rest := []) C0 (c_X12_isProgram l G kc p  _) cs_X12_isProgram lk_X12_272 (zp_P C0 a00 s00) rfl hl.1 rfl ⟨by decide, by decide⟩ (Nat.le_of_ble_eq_true rfl) (dk2 dF_184 DX12_span (i := 1) rfl rfl rfl) ⟨Nat.le_refl _, Nat.le_refl _⟩) (fun r1 s1 H locs hp hw => ?_)
  rcases hp with ⟨rfl, hc1⟩ | ⟨rfl, hc1⟩
  · skip
    obtain ⟨k_p, hk_p, rfl⟩ := to_nat (x := p) (n := 8) (by (try simp only [lg_cmp_lt, lg_cmp_le, lg_cmp_gt, lg_cmp_ge, lg_cmp_eq] at hc1); (try simp (disch := omega) only [ta_lt, ta_le, ta_eq, tb_lt, tb_le, tb_eq, tw, tnI, tn32 1 (by decide), tnj 1 (by decide), tl32 0 (by decide), tl64 0 (by decide)] at hc1); (try simp (disch := omega) only [ta_lt, ta_le, ta_eq, tb_lt, tb_le, tb_eq, tw, tnI, tn32 1 (by decide), tnj 1 (by decide), tl32 0 (by decide), tl64 0 (by decide)]); omega)
    refine lv_if_eq (tgt := 52) hx hb (dkS dF_153 DX12_span (i := 2) rfl rfl rfl) (by decide) (fun h => absurd h (by decide)) (fun _ => ?_)
    refine lv_iload_n hx hb (dkP dF_28 DX12_span (i := 3) rfl rfl) rfl (lv_at hl 2 rfl) ?_
    refine zn_I hw (zr_S (As := [.int f]) (rest := []) C0 (c_X12_isField l G kc f  _) cs_X12_isField lk_X12_332 (zp_P C0 a00 s00) rfl hl.1 rfl ⟨by decide, by decide⟩ (Nat.le_of_ble_eq_true rfl) (dk2 dF_184 DX12_span (i := 4) rfl rfl rfl) ⟨Nat.le_refl _, Nat.le_refl _⟩) (fun r2 s2 H locs hp hw => ?_)
    rcases hp with ⟨rfl, hc2⟩ | ⟨rfl, hc2⟩
    · skip
      obtain ⟨k_f, hk_f, rfl⟩ := to_nat (x := f) (n := 8) (by (try simp only [lg_cmp_lt, lg_cmp_le, lg_cmp_gt, lg_cmp_ge, lg_cmp_eq] at hc1); (try simp (disch := omega) only [ta_lt, ta_le, ta_eq, tb_lt, tb_le, tb_eq, tw, tnI, tn32 1 (by decide), tnj 1 (by decide), tl32 0 (by decide), tl64 0 (by decide)] at hc1); (try simp only [lg_cmp_lt, lg_cmp_le, lg_cmp_gt, lg_cmp_ge, lg_cmp_eq] at hk_p); (try simp (disch := omega) only [ta_lt, ta_le, ta_eq, tb_lt, tb_le, tb_eq, tw, tnI, tn32 1 (by decide), tnj 1 (by decide), tl32 0 (by decide), tl64 0 (by decide)] at hk_p); (try simp only [lg_cmp_lt, lg_cmp_le, lg_cmp_gt, lg_cmp_ge, lg_cmp_eq] at hc2); (try simp (disch := omega) only [ta_lt, ta_le, ta_eq, tb_lt, tb_le, tb_eq, tw, tnI, tn32 1 (by decide), tnj 1 (by decide), tl32 0 (by decide), tl64 0 (by decide)] at hc2); (try simp (disch := omega) only [ta_lt, ta_le, ta_eq, tb_lt, tb_le, tb_eq, tw, tnI, tn32 1 (by decide), tnj 1 (by decide), tl32 0 (by decide), tl64 0 (by decide)]); omega)
      refine lv_if_eq (tgt := 52) hx hb (dkS dF_153 DX12_span (i := 5) rfl rfl rfl) (by decide) (fun h => absurd h (by decide)) (fun _ => ?_)
      refine lv_iload_n hx hb (dkP dF_29 DX12_span (i := 6) rfl rfl) rfl (lv_at hl 3 rfl) ?_
      refine lv_i2l hx hb (dkP dF_133 DX12_span (i := 7) rfl rfl) rfl ?_
      refine lv_ldc2 hx hb hown (hts _ kn_X12_335) (dk2 dF_20 DX12_span (i := 8) rfl rfl rfl) ?_
      refine lv_ldc2 hx hb hown (hts _ kn_X12_337) (dk2 dF_20 DX12_span (i := 9) rfl rfl rfl) ?_
      refine zn_I hw (zr_S (As := [.long lo.toInt64, .long (-99), .long 99]) (rest := []) C0 (c_X12_in l G kc lo.toInt64 (-99) 99  _) cs_X12_in lk_X12_9 (zp_P C0 a00 s00) rfl hl.1 rfl ⟨by decide, by decide⟩ (Nat.le_of_ble_eq_true rfl) (dk2 dF_184 DX12_span (i := 10) rfl rfl rfl) ⟨Nat.le_refl _, Nat.le_refl _⟩) (fun r3 s3 H locs hp hw => ?_)
      rcases hp with ⟨rfl, hc3⟩ | ⟨rfl, hc3⟩
      · skip
        refine lv_if_eq (tgt := 52) hx hb (dkS dF_153 DX12_span (i := 11) rfl rfl rfl) (by decide) (fun h => absurd h (by decide)) (fun _ => ?_)
        refine lv_iload hx hb (dk1 dF_21 DX12_span (i := 12) rfl rfl rfl) (lv_at hl 4 rfl) ?_
        refine lv_i2l hx hb (dkP dF_133 DX12_span (i := 13) rfl rfl) rfl ?_
        refine lv_ldc2 hx hb hown (hts _ kn_X12_335) (dk2 dF_20 DX12_span (i := 14) rfl rfl rfl) ?_
        refine lv_ldc2 hx hb hown (hts _ kn_X12_337) (dk2 dF_20 DX12_span (i := 15) rfl rfl rfl) ?_
        refine zn_I hw (zr_S (As := [.long hi2.toInt64, .long (-99), .long 99]) (rest := []) C0 (c_X12_in l G kc hi2.toInt64 (-99) 99  _) cs_X12_in lk_X12_9 (zp_P C0 a00 s00) rfl hl.1 rfl ⟨by decide, by decide⟩ (Nat.le_of_ble_eq_true rfl) (dk2 dF_184 DX12_span (i := 16) rfl rfl rfl) ⟨Nat.le_refl _, Nat.le_refl _⟩) (fun r4 s4 H locs hp hw => ?_)
        rcases hp with ⟨rfl, hc4⟩ | ⟨rfl, hc4⟩
        · skip
          refine lv_if_eq (tgt := 52) hx hb (dkS dF_153 DX12_span (i := 17) rfl rfl rfl) (by decide) (fun h => absurd h (by decide)) (fun _ => ?_)
          refine lv_aload_n hx hb (dkP dF_42 DX12_span (i := 18) rfl rfl) rfl (lv_at hl 0 rfl) ?_
          refine lv_iload_n hx hb (dkP dF_27 DX12_span (i := 19) rfl rfl) rfl (lv_at hl 1 rfl) ?_
          refine zk_I hw (zr_V (As := [.int (nI k_p)]) (rest := []) C0 (c_X12_stateOf l G kc ad sM0 k_p (by first | omega | assumption | decide | rfl) _) cv_X12_stateOf lk_X12_275 (zp_V C0 hw 0 rfl rfl rfl) rfl hl.1 rfl ⟨by decide, by decide⟩ (Nat.le_of_ble_eq_true rfl) (dk2 dF_182 DX12_span (i := 20) rfl rfl rfl) ⟨Nat.le_refl _, Nat.le_refl _⟩) (fun r5 s5 H locs hp hw => ?_)
          obtain ⟨rfl, hs5⟩ := hp
          subst hs5
          refine z_top (y := 0) (w0_p k_p 0 (by omega) (by decide)) ?_
          refine lv_iconst (v := 1) hx hb (dkP dF_4 DX12_span (i := 21) rfl rfl) (by decide) ?_
          refine lv_icmp_le (tgt := 55) hx hb (dkS dF_164 DX12_span (i := 22) rfl rfl rfl) (by decide) (fun _ => ?_) (fun h => absurd h (by decide))
          refine lv_iconst (v := 0) hx hb (dkP dF_3 DX12_span (i := 25) rfl rfl) (by decide) ?_
          refine lv_iload hx hb (dk1 dF_21 DX12_span (i := 26) rfl rfl rfl) (lv_at hl 4 rfl) ?_
          refine lv_iload_n hx hb (dkP dF_29 DX12_span (i := 27) rfl rfl) rfl (lv_at hl 3 rfl) ?_
          refine lv_isub hx hb (dkP dF_100 DX12_span (i := 28) rfl rfl) ?_
          refine lv_iconst (v := 1) hx hb (dkP dF_4 DX12_span (i := 29) rfl rfl) (by decide) ?_
          refine lv_iadd hx hb (dkP dF_96 DX12_span (i := 30) rfl rfl) ?_
          refine zn_I hw (zr_S (As := [.int 0, .int ((hi2 - lo) + 1)]) (rest := []) C0 (c_J9_max_7cf53 l G kc 0 ((hi2 - lo) + 1)  _) cs_J9_max_7cf53 lk_X12_326 (zp_P C0 a00 s00) rfl hl.1 rfl ⟨by decide, by decide⟩ (Nat.le_of_ble_eq_true rfl) (dk2 dF_184 DX12_span (i := 31) rfl rfl rfl) ⟨Nat.le_refl _, Nat.le_refl _⟩) (fun r6 s6 H locs hp hw => ?_)
          subst hp
          refine lv_topi (fun v7 ev7 => ?_)
          refine lv_istore (lv' := [(5, .int v7), (0, .ref (ad 0)), (1, .int (nI k_p)), (2, .int (nI k_f)), (3, .int lo), (4, .int hi2)]) hx hb (dk1 dF_54 DX12_span (i := 32) rfl rfl rfl) hl (by decide) rfl (fun ls hl => ?_)
          refine lv_iconst (v := 0) hx hb (dkP dF_3 DX12_span (i := 33) rfl rfl) (by decide) ?_
          refine lv_istore (lv' := [(6, .int 0), (5, .int v7), (0, .ref (ad 0)), (1, .int (nI k_p)), (2, .int (nI k_f)), (3, .int lo), (4, .int hi2)]) hx hb (dk1 dF_54 DX12_span (i := 34) rfl rfl rfl) hl (by decide) rfl (fun ls hl => ?_)
          refine lv_iconst (v := 1) hx hb (dkP dF_4 DX12_span (i := 35) rfl rfl) (by decide) ?_
          refine lv_iload hx hb (dk1 dF_21 DX12_span (i := 36) rfl rfl rfl) (lv_at hl 1 rfl) ?_
          refine zn_I hw (zr_S (As := [.int 1, .int v7]) (rest := []) C0 (c_J9_max_7cf53 l G kc 1 v7  _) cs_J9_max_7cf53 lk_X12_326 (zp_P C0 a00 s00) rfl hl.1 rfl ⟨by decide, by decide⟩ (Nat.le_of_ble_eq_true rfl) (dk2 dF_184 DX12_span (i := 37) rfl rfl rfl) ⟨Nat.le_refl _, Nat.le_refl _⟩) (fun r8 s8 H locs hp hw => ?_)
          subst hp
          refine lv_topi (fun v9 ev9 => ?_)
          refine lv_istore (lv' := [(7, .int v9), (6, .int 0), (5, .int v7), (0, .ref (ad 0)), (1, .int (nI k_p)), (2, .int (nI k_f)), (3, .int lo), (4, .int hi2)]) hx hb (dk1 dF_54 DX12_span (i := 38) rfl rfl rfl) hl (by decide) rfl (fun ls hl => ?_)
          (try simp (disch := omega) only [ta_lt, ta_le, ta_eq, tb_lt, tb_le, tb_eq, tw, tnI, tn32 99 (by decide), tnj 99 (by decide), tn32 1 (by decide), tnj 1 (by decide), tl32 0 (by decide), tl64 0 (by decide), tl32 1 (by decide), tl64 1 (by decide), tl32 99 (by decide), tl64 99 (by decide)] at hc1)
          (try simp (disch := omega) only [ta_lt, ta_le, ta_eq, tb_lt, tb_le, tb_eq, tw, tnI, tn32 99 (by decide), tnj 99 (by decide), tn32 1 (by decide), tnj 1 (by decide), tl32 0 (by decide), tl64 0 (by decide), tl32 1 (by decide), tl64 1 (by decide), tl32 99 (by decide), tl64 99 (by decide)] at hk_p)
          (try simp (disch := omega) only [ta_lt, ta_le, ta_eq, tb_lt, tb_le, tb_eq, tw, tnI, tn32 99 (by decide), tnj 99 (by decide), tn32 1 (by decide), tnj 1 (by decide), tl32 0 (by decide), tl64 0 (by decide), tl32 1 (by decide), tl64 1 (by decide), tl32 99 (by decide), tl64 99 (by decide)] at hc2)
          (try simp (disch := omega) only [ta_lt, ta_le, ta_eq, tb_lt, tb_le, tb_eq, tw, tnI, tn32 99 (by decide), tnj 99 (by decide), tn32 1 (by decide), tnj 1 (by decide), tl32 0 (by decide), tl64 0 (by decide), tl32 1 (by decide), tl64 1 (by decide), tl32 99 (by decide), tl64 99 (by decide)] at hk_f)
          (try simp (disch := omega) only [ta_lt, ta_le, ta_eq, tb_lt, tb_le, tb_eq, tw, tnI, tn32 99 (by decide), tnj 99 (by decide), tn32 1 (by decide), tnj 1 (by decide), tl32 0 (by decide), tl64 0 (by decide), tl32 1 (by decide), tl64 1 (by decide), tl32 99 (by decide), tl64 99 (by decide)] at hc3)
          (try simp (disch := omega) only [ta_lt, ta_le, ta_eq, tb_lt, tb_le, tb_eq, tw, tnI, tn32 99 (by decide), tnj 99 (by decide), tn32 1 (by decide), tnj 1 (by decide), tl32 0 (by decide), tl64 0 (by decide), tl32 1 (by decide), tl64 1 (by decide), tl32 99 (by decide), tl64 99 (by decide)] at hc4)
          have hq := span_ans (lo := lo) (hi := hi2) (by omega) (by omega) (by omega) (by omega) ev7 ev9
          refine lv_iconst (v := 0) hx hb (dkP dF_3 DX12_span (i := 39) rfl rfl) (by decide) ?_
          refine lv_istore (lv' := [(8, .int 0), (7, .int v9), (6, .int 0), (5, .int v7), (0, .ref (ad 0)), (1, .int (nI k_p)), (2, .int (nI k_f)), (3, .int lo), (4, .int hi2)]) hx hb (dk1 dF_54 DX12_span (i := 40) rfl rfl rfl) hl (by decide) rfl (fun ls hl => ?_)
          have lp10 : ∀ (n : Nat) (i : Nat) (H : Heap) (locs : List Loc) (ls : Array Slot), 8 - i < n → (i ≤ 8) → St G kc A s.heap shM ad sM0 H locs → lv_has ls 9 [(8, .int (nI i)), (7, .int v9), (6, .int 0), (5, .int v7), (0, .ref (ad 0)), (1, .int (nI k_p)), (2, .int (nI k_f)), (3, .int lo), (4, .int hi2)] → W pr l e { frames := 3, cells := 0, slots := 0, locals := 64 } s m ([.ref (ad 0), .int (nI k_p), .int (nI k_f), .int lo, .int hi2] : List Value).toArray below meth c H locs 0 0 (MQ below (va_Qi (fun r σ1 => r = if 0 ≤ (nI k_p).toInt ∧ (nI k_p).toInt ≤ 7 ∧ 0 ≤ (nI k_f).toInt ∧ (nI k_f).toInt ≤ 7 ∧ -99 ≤ lo.toInt ∧ lo.toInt ≤ 99 ∧ -99 ≤ hi2.toInt ∧ hi2.toInt ≤ 99 then (if hi2.toInt < lo.toInt then 1 else hi2 - lo + 1) else -2) (PoC G kc shM ad A) A) ([.ref (ad 0), .int (nI k_p), .int (nI k_f), .int lo, .int hi2] : List Value).toArray s 0 0 A) (F0 m 81 ls []) := by
            intro n
            induction n with
            | zero => intro i H locs ls hmu; exact absurd hmu (Nat.not_lt_zero _)
            | succ n ih10 =>
              intro i H locs ls hmu hi hw hl
              refine lv_iload hx hb (dk1 dF_21 DX12_span (i := 41) rfl rfl rfl) (lv_at hl 0 rfl) ?_
              refine lv_bipush (v := 8) hx hb (dks dF_16 DX12_span (i := 42) rfl rfl rfl) (by decide) ?_
              refine lv_icmp_ge (tgt := 128) hx hb (dkS dF_162 DX12_span (i := 43) rfl rfl rfl) (by decide) (fun c11 => ?_) (fun c11 => ?_)
              · simp (disch := omega) only [ta_lt, ta_le, ta_eq, tnI, tl32 8 (by decide)] at c11
                refine lv_iload hx hb (dk1 dF_21 DX12_span (i := 63) rfl rfl rfl) (lv_at hl 3 rfl) ?_
                refine lv_if_le (tgt := 139) hx hb (dkS dF_158 DX12_span (i := 64) rfl rfl rfl) (by decide) (fun c12 => ?_) (fun c12 => ?_)
                · skip
                  refine lv_iload hx hb (dk1 dF_21 DX12_span (i := 68) rfl rfl rfl) (lv_at hl 1 rfl) ?_
                  refine lv_sipush (v := 4096) hx hb (dkS dF_17 DX12_span (i := 69) rfl rfl rfl) (by decide) ?_
                  refine lv_icmp_le (tgt := 150) hx hb (dkS dF_164 DX12_span (i := 70) rfl rfl rfl) (by decide) (fun c13 => ?_) (fun c13 => absurd (by rw [ta_le, tl32 4096 (by decide)]; have := hq.2; omega) c13)
                  refine lv_aload_n hx hb (dkP dF_42 DX12_span (i := 73) rfl rfl) rfl (lv_at hl 4 rfl) ?_
                  refine z_gr C0 hw 0 1 1 rfl fl_X12_20 (dk2 dF_180 DX12_span (i := 74) rfl rfl rfl) ?_
                  refine lv_iload_n hx hb (dkP dF_27 DX12_span (i := 75) rfl rfl) rfl (lv_at hl 5 rfl) ?_
                  refine zn_I hw (zr_S (As := [.int (nI k_p)]) (rest := [.ref (ad 1)]) C0 (c_X12_of l G kc k_p  _) cs_X12_of lk_X12_139 (zp_P C0 a00 s00) rfl hl.1 rfl ⟨by decide, by decide⟩ (Nat.le_of_ble_eq_true rfl) (dk2 dF_184 DX12_span (i := 76) rfl rfl rfl) ⟨Nat.le_refl _, Nat.le_refl _⟩) (fun r14 s14 H locs hp hw => ?_)
                  subst hp
                  refine lv_iconst (v := 4) hx hb (dkP dF_7 DX12_span (i := 77) rfl rfl) (by decide) ?_
                  refine lv_iadd hx hb (dkP dF_96 DX12_span (i := 78) rfl rfl) ?_
                  refine z_top (y := nI ((8 + 20 * k_p) + 4)) (by simp only [fa_lit, nI_add, pk_mul]) ?_
                  refine lv_iconst (v := 2) hx hb (dkP dF_5 DX12_span (i := 79) rfl rfl) (by decide) ?_
                  refine lv_iload_n hx hb (dkP dF_28 DX12_span (i := 80) rfl rfl) rfl (lv_at hl 6 rfl) ?_
                  refine lv_imul hx hb (dkP dF_104 DX12_span (i := 81) rfl rfl) ?_
                  refine z_top (y := nI (2 * k_f)) (by simp only [fa_lit, nI_add, pk_mul]) ?_
                  refine lv_iadd hx hb (dkP dF_96 DX12_span (i := 82) rfl rfl) ?_
                  refine z_top (y := nI (((8 + 20 * k_p) + 4) + (2 * k_f))) (by simp only [fa_lit, nI_add, pk_mul]) ?_
                  refine lv_iload hx hb (dk1 dF_21 DX12_span (i := 83) rfl rfl rfl) (lv_at hl 3 rfl) ?_
                  refine lv_if_ne (tgt := 173) hx hb (dkS dF_154 DX12_span (i := 84) rfl rfl rfl) (by decide) (fun c15 => ?_) (fun c15 => ?_)
                  · skip
                    refine lv_iload_n hx hb (dkP dF_29 DX12_span (i := 87) rfl rfl) rfl (lv_at hl 7 rfl) ?_
                    refine z_iastN (n := 414128) C0 hw 1 (((8 + 20 * k_p) + 4) + (2 * k_f)) rfl (by omega) (by decide) (dkP dF_79 DX12_span (i := 88) rfl rfl) (fun H locs hw => ?_)
                    refine lv_aload_n hx hb (dkP dF_42 DX12_span (i := 89) rfl rfl) rfl (lv_at hl 4 rfl) ?_
                    refine z_gr C0 hw 0 1 1 rfl fl_X12_20 (dk2 dF_180 DX12_span (i := 90) rfl rfl rfl) ?_
                    refine lv_iload_n hx hb (dkP dF_27 DX12_span (i := 91) rfl rfl) rfl (lv_at hl 5 rfl) ?_
                    refine zn_I hw (zr_S (As := [.int (nI k_p)]) (rest := [.ref (ad 1)]) C0 (c_X12_of l G kc k_p  _) cs_X12_of lk_X12_139 (zp_P C0 a00 s00) rfl hl.1 rfl ⟨by decide, by decide⟩ (Nat.le_of_ble_eq_true rfl) (dk2 dF_184 DX12_span (i := 92) rfl rfl rfl) ⟨Nat.le_refl _, Nat.le_refl _⟩) (fun r16 s16 H locs hp hw => ?_)
                    subst hp
                    refine lv_iconst (v := 4) hx hb (dkP dF_7 DX12_span (i := 93) rfl rfl) (by decide) ?_
                    refine lv_iadd hx hb (dkP dF_96 DX12_span (i := 94) rfl rfl) ?_
                    refine z_top (y := nI ((8 + 20 * k_p) + 4)) (by simp only [fa_lit, nI_add, pk_mul]) ?_
                    refine lv_iconst (v := 2) hx hb (dkP dF_5 DX12_span (i := 95) rfl rfl) (by decide) ?_
                    refine lv_iload_n hx hb (dkP dF_28 DX12_span (i := 96) rfl rfl) rfl (lv_at hl 6 rfl) ?_
                    refine lv_imul hx hb (dkP dF_104 DX12_span (i := 97) rfl rfl) ?_
                    refine z_top (y := nI (2 * k_f)) (by simp only [fa_lit, nI_add, pk_mul]) ?_
                    refine lv_iadd hx hb (dkP dF_96 DX12_span (i := 98) rfl rfl) ?_
                    refine z_top (y := nI (((8 + 20 * k_p) + 4) + (2 * k_f))) (by simp only [fa_lit, nI_add, pk_mul]) ?_
                    refine lv_iconst (v := 1) hx hb (dkP dF_4 DX12_span (i := 99) rfl rfl) (by decide) ?_
                    refine lv_iadd hx hb (dkP dF_96 DX12_span (i := 100) rfl rfl) ?_
                    refine z_top (y := nI ((((8 + 20 * k_p) + 4) + (2 * k_f)) + 1)) (by simp only [fa_lit, nI_add, pk_mul]) ?_
                    refine lv_iload hx hb (dk1 dF_21 DX12_span (i := 101) rfl rfl rfl) (lv_at hl 3 rfl) ?_
                    refine lv_if_ne (tgt := 200) hx hb (dkS dF_154 DX12_span (i := 102) rfl rfl rfl) (by decide) (fun c17 => ?_) (fun c17 => ?_)
                    · skip
                      refine lv_iload hx hb (dk1 dF_21 DX12_span (i := 105) rfl rfl rfl) (lv_at hl 8 rfl) ?_
                      refine z_iastN (n := 414128) C0 hw 1 ((((8 + 20 * k_p) + 4) + (2 * k_f)) + 1) rfl (by omega) (by decide) (dkP dF_79 DX12_span (i := 106) rfl rfl) (fun H locs hw => ?_)
                      refine lv_aload_n hx hb (dkP dF_42 DX12_span (i := 107) rfl rfl) rfl (lv_at hl 4 rfl) ?_
                      refine z_gr C0 hw 0 1 1 rfl fl_X12_20 (dk2 dF_180 DX12_span (i := 108) rfl rfl rfl) ?_
                      refine lv_iload_n hx hb (dkP dF_27 DX12_span (i := 109) rfl rfl) rfl (lv_at hl 5 rfl) ?_
                      refine zn_I hw (zr_S (As := [.int (nI k_p)]) (rest := [.ref (ad 1)]) C0 (c_X12_of l G kc k_p  _) cs_X12_of lk_X12_139 (zp_P C0 a00 s00) rfl hl.1 rfl ⟨by decide, by decide⟩ (Nat.le_of_ble_eq_true rfl) (dk2 dF_184 DX12_span (i := 110) rfl rfl rfl) ⟨Nat.le_refl _, Nat.le_refl _⟩) (fun r18 s18 H locs hp hw => ?_)
                      subst hp
                      refine lv_iconst (v := 3) hx hb (dkP dF_6 DX12_span (i := 111) rfl rfl) (by decide) ?_
                      refine lv_iadd hx hb (dkP dF_96 DX12_span (i := 112) rfl rfl) ?_
                      refine z_top (y := nI ((8 + 20 * k_p) + 3)) (by simp only [fa_lit, nI_add, pk_mul]) ?_
                      refine lv_iconst (v := (-1)) hx hb (dkP dF_2 DX12_span (i := 113) rfl rfl) (by decide) ?_
                      refine z_iastN (n := 414128) C0 hw 1 ((8 + 20 * k_p) + 3) rfl (by omega) (by decide) (dkP dF_79 DX12_span (i := 114) rfl rfl) (fun H locs hw => ?_)
                      refine lv_iload hx hb (dk1 dF_21 DX12_span (i := 115) rfl rfl rfl) (lv_at hl 1 rfl) ?_
                      exact z_iret C0 hr hlk hw (by (try simp (disch := omega) only [tnI]); rw [if_pos (by omega)]; exact hq.1) (dkP dF_172 DX12_span (i := 116) rfl rfl)
                    · skip
                      refine lv_iconst (v := 0) hx hb (dkP dF_3 DX12_span (i := 103) rfl rfl) (by decide) ?_
                      refine lv_goto (tgt := 202) hx hb (dkS dF_167 DX12_span (i := 104) rfl rfl rfl) (by decide) ?_
                      refine z_iastN (n := 414128) C0 hw 1 ((((8 + 20 * k_p) + 4) + (2 * k_f)) + 1) rfl (by omega) (by decide) (dkP dF_79 DX12_span (i := 106) rfl rfl) (fun H locs hw => ?_)
                      refine lv_aload_n hx hb (dkP dF_42 DX12_span (i := 107) rfl rfl) rfl (lv_at hl 4 rfl) ?_
                      refine z_gr C0 hw 0 1 1 rfl fl_X12_20 (dk2 dF_180 DX12_span (i := 108) rfl rfl rfl) ?_
                      refine lv_iload_n hx hb (dkP dF_27 DX12_span (i := 109) rfl rfl) rfl (lv_at hl 5 rfl) ?_
                      refine zn_I hw (zr_S (As := [.int (nI k_p)]) (rest := [.ref (ad 1)]) C0 (c_X12_of l G kc k_p  _) cs_X12_of lk_X12_139 (zp_P C0 a00 s00) rfl hl.1 rfl ⟨by decide, by decide⟩ (Nat.le_of_ble_eq_true rfl) (dk2 dF_184 DX12_span (i := 110) rfl rfl rfl) ⟨Nat.le_refl _, Nat.le_refl _⟩) (fun r19 s19 H locs hp hw => ?_)
                      subst hp
                      refine lv_iconst (v := 3) hx hb (dkP dF_6 DX12_span (i := 111) rfl rfl) (by decide) ?_
                      refine lv_iadd hx hb (dkP dF_96 DX12_span (i := 112) rfl rfl) ?_
                      refine z_top (y := nI ((8 + 20 * k_p) + 3)) (by simp only [fa_lit, nI_add, pk_mul]) ?_
                      refine lv_iconst (v := (-1)) hx hb (dkP dF_2 DX12_span (i := 113) rfl rfl) (by decide) ?_
                      refine z_iastN (n := 414128) C0 hw 1 ((8 + 20 * k_p) + 3) rfl (by omega) (by decide) (dkP dF_79 DX12_span (i := 114) rfl rfl) (fun H locs hw => ?_)
                      refine lv_iload hx hb (dk1 dF_21 DX12_span (i := 115) rfl rfl rfl) (lv_at hl 1 rfl) ?_
                      exact z_iret C0 hr hlk hw (by (try simp (disch := omega) only [tnI]); rw [if_pos (by omega)]; exact hq.1) (dkP dF_172 DX12_span (i := 116) rfl rfl)
                  · skip
                    refine lv_iconst (v := 1) hx hb (dkP dF_4 DX12_span (i := 85) rfl rfl) (by decide) ?_
                    refine lv_goto (tgt := 174) hx hb (dkS dF_167 DX12_span (i := 86) rfl rfl rfl) (by decide) ?_
                    refine z_iastN (n := 414128) C0 hw 1 (((8 + 20 * k_p) + 4) + (2 * k_f)) rfl (by omega) (by decide) (dkP dF_79 DX12_span (i := 88) rfl rfl) (fun H locs hw => ?_)
                    refine lv_aload_n hx hb (dkP dF_42 DX12_span (i := 89) rfl rfl) rfl (lv_at hl 4 rfl) ?_
                    refine z_gr C0 hw 0 1 1 rfl fl_X12_20 (dk2 dF_180 DX12_span (i := 90) rfl rfl rfl) ?_
                    refine lv_iload_n hx hb (dkP dF_27 DX12_span (i := 91) rfl rfl) rfl (lv_at hl 5 rfl) ?_
                    refine zn_I hw (zr_S (As := [.int (nI k_p)]) (rest := [.ref (ad 1)]) C0 (c_X12_of l G kc k_p  _) cs_X12_of lk_X12_139 (zp_P C0 a00 s00) rfl hl.1 rfl ⟨by decide, by decide⟩ (Nat.le_of_ble_eq_true rfl) (dk2 dF_184 DX12_span (i := 92) rfl rfl rfl) ⟨Nat.le_refl _, Nat.le_refl _⟩) (fun r20 s20 H locs hp hw => ?_)
                    subst hp
                    refine lv_iconst (v := 4) hx hb (dkP dF_7 DX12_span (i := 93) rfl rfl) (by decide) ?_
                    refine lv_iadd hx hb (dkP dF_96 DX12_span (i := 94) rfl rfl) ?_
                    refine z_top (y := nI ((8 + 20 * k_p) + 4)) (by simp only [fa_lit, nI_add, pk_mul]) ?_
                    refine lv_iconst (v := 2) hx hb (dkP dF_5 DX12_span (i := 95) rfl rfl) (by decide) ?_
                    refine lv_iload_n hx hb (dkP dF_28 DX12_span (i := 96) rfl rfl) rfl (lv_at hl 6 rfl) ?_
                    refine lv_imul hx hb (dkP dF_104 DX12_span (i := 97) rfl rfl) ?_
                    refine z_top (y := nI (2 * k_f)) (by simp only [fa_lit, nI_add, pk_mul]) ?_
                    refine lv_iadd hx hb (dkP dF_96 DX12_span (i := 98) rfl rfl) ?_
                    refine z_top (y := nI (((8 + 20 * k_p) + 4) + (2 * k_f))) (by simp only [fa_lit, nI_add, pk_mul]) ?_
                    refine lv_iconst (v := 1) hx hb (dkP dF_4 DX12_span (i := 99) rfl rfl) (by decide) ?_
                    refine lv_iadd hx hb (dkP dF_96 DX12_span (i := 100) rfl rfl) ?_
                    refine z_top (y := nI ((((8 + 20 * k_p) + 4) + (2 * k_f)) + 1)) (by simp only [fa_lit, nI_add, pk_mul]) ?_
                    refine lv_iload hx hb (dk1 dF_21 DX12_span (i := 101) rfl rfl rfl) (lv_at hl 3 rfl) ?_
                    refine lv_if_ne (tgt := 200) hx hb (dkS dF_154 DX12_span (i := 102) rfl rfl rfl) (by decide) (fun c21 => ?_) (fun c21 => ?_)
                    · skip
                      refine lv_iload hx hb (dk1 dF_21 DX12_span (i := 105) rfl rfl rfl) (lv_at hl 8 rfl) ?_
                      refine z_iastN (n := 414128) C0 hw 1 ((((8 + 20 * k_p) + 4) + (2 * k_f)) + 1) rfl (by omega) (by decide) (dkP dF_79 DX12_span (i := 106) rfl rfl) (fun H locs hw => ?_)
                      refine lv_aload_n hx hb (dkP dF_42 DX12_span (i := 107) rfl rfl) rfl (lv_at hl 4 rfl) ?_
                      refine z_gr C0 hw 0 1 1 rfl fl_X12_20 (dk2 dF_180 DX12_span (i := 108) rfl rfl rfl) ?_
                      refine lv_iload_n hx hb (dkP dF_27 DX12_span (i := 109) rfl rfl) rfl (lv_at hl 5 rfl) ?_
                      refine zn_I hw (zr_S (As := [.int (nI k_p)]) (rest := [.ref (ad 1)]) C0 (c_X12_of l G kc k_p  _) cs_X12_of lk_X12_139 (zp_P C0 a00 s00) rfl hl.1 rfl ⟨by decide, by decide⟩ (Nat.le_of_ble_eq_true rfl) (dk2 dF_184 DX12_span (i := 110) rfl rfl rfl) ⟨Nat.le_refl _, Nat.le_refl _⟩) (fun r22 s22 H locs hp hw => ?_)
                      subst hp
                      refine lv_iconst (v := 3) hx hb (dkP dF_6 DX12_span (i := 111) rfl rfl) (by decide) ?_
                      refine lv_iadd hx hb (dkP dF_96 DX12_span (i := 112) rfl rfl) ?_
                      refine z_top (y := nI ((8 + 20 * k_p) + 3)) (by simp only [fa_lit, nI_add, pk_mul]) ?_
                      refine lv_iconst (v := (-1)) hx hb (dkP dF_2 DX12_span (i := 113) rfl rfl) (by decide) ?_
                      refine z_iastN (n := 414128) C0 hw 1 ((8 + 20 * k_p) + 3) rfl (by omega) (by decide) (dkP dF_79 DX12_span (i := 114) rfl rfl) (fun H locs hw => ?_)
                      refine lv_iload hx hb (dk1 dF_21 DX12_span (i := 115) rfl rfl rfl) (lv_at hl 1 rfl) ?_
                      exact z_iret C0 hr hlk hw (by (try simp (disch := omega) only [tnI]); rw [if_pos (by omega)]; exact hq.1) (dkP dF_172 DX12_span (i := 116) rfl rfl)
                    · skip
                      refine lv_iconst (v := 0) hx hb (dkP dF_3 DX12_span (i := 103) rfl rfl) (by decide) ?_
                      refine lv_goto (tgt := 202) hx hb (dkS dF_167 DX12_span (i := 104) rfl rfl rfl) (by decide) ?_
                      refine z_iastN (n := 414128) C0 hw 1 ((((8 + 20 * k_p) + 4) + (2 * k_f)) + 1) rfl (by omega) (by decide) (dkP dF_79 DX12_span (i := 106) rfl rfl) (fun H locs hw => ?_)
                      refine lv_aload_n hx hb (dkP dF_42 DX12_span (i := 107) rfl rfl) rfl (lv_at hl 4 rfl) ?_
                      refine z_gr C0 hw 0 1 1 rfl fl_X12_20 (dk2 dF_180 DX12_span (i := 108) rfl rfl rfl) ?_
                      refine lv_iload_n hx hb (dkP dF_27 DX12_span (i := 109) rfl rfl) rfl (lv_at hl 5 rfl) ?_
                      refine zn_I hw (zr_S (As := [.int (nI k_p)]) (rest := [.ref (ad 1)]) C0 (c_X12_of l G kc k_p  _) cs_X12_of lk_X12_139 (zp_P C0 a00 s00) rfl hl.1 rfl ⟨by decide, by decide⟩ (Nat.le_of_ble_eq_true rfl) (dk2 dF_184 DX12_span (i := 110) rfl rfl rfl) ⟨Nat.le_refl _, Nat.le_refl _⟩) (fun r23 s23 H locs hp hw => ?_)
                      subst hp
                      refine lv_iconst (v := 3) hx hb (dkP dF_6 DX12_span (i := 111) rfl rfl) (by decide) ?_
                      refine lv_iadd hx hb (dkP dF_96 DX12_span (i := 112) rfl rfl) ?_
                      refine z_top (y := nI ((8 + 20 * k_p) + 3)) (by simp only [fa_lit, nI_add, pk_mul]) ?_
                      refine lv_iconst (v := (-1)) hx hb (dkP dF_2 DX12_span (i := 113) rfl rfl) (by decide) ?_
                      refine z_iastN (n := 414128) C0 hw 1 ((8 + 20 * k_p) + 3) rfl (by omega) (by decide) (dkP dF_79 DX12_span (i := 114) rfl rfl) (fun H locs hw => ?_)
                      refine lv_iload hx hb (dk1 dF_21 DX12_span (i := 115) rfl rfl rfl) (lv_at hl 1 rfl) ?_
                      exact z_iret C0 hr hlk hw (by (try simp (disch := omega) only [tnI]); rw [if_pos (by omega)]; exact hq.1) (dkP dF_172 DX12_span (i := 116) rfl rfl)
                · skip
                  refine lv_iload hx hb (dk1 dF_21 DX12_span (i := 65) rfl rfl rfl) (lv_at hl 2 rfl) ?_
                  refine lv_iconst (v := 3) hx hb (dkP dF_6 DX12_span (i := 66) rfl rfl) (by decide) ?_
                  refine lv_icmp_eq (tgt := 147) hx hb (dkS dF_159 DX12_span (i := 67) rfl rfl rfl) (by decide) (fun h => absurd h (by decide)) (fun _ => ?_)
                  refine lv_iload hx hb (dk1 dF_21 DX12_span (i := 68) rfl rfl rfl) (lv_at hl 1 rfl) ?_
                  refine lv_sipush (v := 4096) hx hb (dkS dF_17 DX12_span (i := 69) rfl rfl rfl) (by decide) ?_
                  refine lv_icmp_le (tgt := 150) hx hb (dkS dF_164 DX12_span (i := 70) rfl rfl rfl) (by decide) (fun c24 => ?_) (fun c24 => absurd (by rw [ta_le, tl32 4096 (by decide)]; have := hq.2; omega) c24)
                  refine lv_aload_n hx hb (dkP dF_42 DX12_span (i := 73) rfl rfl) rfl (lv_at hl 4 rfl) ?_
                  refine z_gr C0 hw 0 1 1 rfl fl_X12_20 (dk2 dF_180 DX12_span (i := 74) rfl rfl rfl) ?_
                  refine lv_iload_n hx hb (dkP dF_27 DX12_span (i := 75) rfl rfl) rfl (lv_at hl 5 rfl) ?_
                  refine zn_I hw (zr_S (As := [.int (nI k_p)]) (rest := [.ref (ad 1)]) C0 (c_X12_of l G kc k_p  _) cs_X12_of lk_X12_139 (zp_P C0 a00 s00) rfl hl.1 rfl ⟨by decide, by decide⟩ (Nat.le_of_ble_eq_true rfl) (dk2 dF_184 DX12_span (i := 76) rfl rfl rfl) ⟨Nat.le_refl _, Nat.le_refl _⟩) (fun r25 s25 H locs hp hw => ?_)
                  subst hp
                  refine lv_iconst (v := 4) hx hb (dkP dF_7 DX12_span (i := 77) rfl rfl) (by decide) ?_
                  refine lv_iadd hx hb (dkP dF_96 DX12_span (i := 78) rfl rfl) ?_
                  refine z_top (y := nI ((8 + 20 * k_p) + 4)) (by simp only [fa_lit, nI_add, pk_mul]) ?_
                  refine lv_iconst (v := 2) hx hb (dkP dF_5 DX12_span (i := 79) rfl rfl) (by decide) ?_
                  refine lv_iload_n hx hb (dkP dF_28 DX12_span (i := 80) rfl rfl) rfl (lv_at hl 6 rfl) ?_
                  refine lv_imul hx hb (dkP dF_104 DX12_span (i := 81) rfl rfl) ?_
                  refine z_top (y := nI (2 * k_f)) (by simp only [fa_lit, nI_add, pk_mul]) ?_
                  refine lv_iadd hx hb (dkP dF_96 DX12_span (i := 82) rfl rfl) ?_
                  refine z_top (y := nI (((8 + 20 * k_p) + 4) + (2 * k_f))) (by simp only [fa_lit, nI_add, pk_mul]) ?_
                  refine lv_iload hx hb (dk1 dF_21 DX12_span (i := 83) rfl rfl rfl) (lv_at hl 3 rfl) ?_
                  refine lv_if_ne (tgt := 173) hx hb (dkS dF_154 DX12_span (i := 84) rfl rfl rfl) (by decide) (fun c26 => ?_) (fun c26 => ?_)
                  · skip
                    refine lv_iload_n hx hb (dkP dF_29 DX12_span (i := 87) rfl rfl) rfl (lv_at hl 7 rfl) ?_
                    refine z_iastN (n := 414128) C0 hw 1 (((8 + 20 * k_p) + 4) + (2 * k_f)) rfl (by omega) (by decide) (dkP dF_79 DX12_span (i := 88) rfl rfl) (fun H locs hw => ?_)
                    refine lv_aload_n hx hb (dkP dF_42 DX12_span (i := 89) rfl rfl) rfl (lv_at hl 4 rfl) ?_
                    refine z_gr C0 hw 0 1 1 rfl fl_X12_20 (dk2 dF_180 DX12_span (i := 90) rfl rfl rfl) ?_
                    refine lv_iload_n hx hb (dkP dF_27 DX12_span (i := 91) rfl rfl) rfl (lv_at hl 5 rfl) ?_
                    refine zn_I hw (zr_S (As := [.int (nI k_p)]) (rest := [.ref (ad 1)]) C0 (c_X12_of l G kc k_p  _) cs_X12_of lk_X12_139 (zp_P C0 a00 s00) rfl hl.1 rfl ⟨by decide, by decide⟩ (Nat.le_of_ble_eq_true rfl) (dk2 dF_184 DX12_span (i := 92) rfl rfl rfl) ⟨Nat.le_refl _, Nat.le_refl _⟩) (fun r27 s27 H locs hp hw => ?_)
                    subst hp
                    refine lv_iconst (v := 4) hx hb (dkP dF_7 DX12_span (i := 93) rfl rfl) (by decide) ?_
                    refine lv_iadd hx hb (dkP dF_96 DX12_span (i := 94) rfl rfl) ?_
                    refine z_top (y := nI ((8 + 20 * k_p) + 4)) (by simp only [fa_lit, nI_add, pk_mul]) ?_
                    refine lv_iconst (v := 2) hx hb (dkP dF_5 DX12_span (i := 95) rfl rfl) (by decide) ?_
                    refine lv_iload_n hx hb (dkP dF_28 DX12_span (i := 96) rfl rfl) rfl (lv_at hl 6 rfl) ?_
                    refine lv_imul hx hb (dkP dF_104 DX12_span (i := 97) rfl rfl) ?_
                    refine z_top (y := nI (2 * k_f)) (by simp only [fa_lit, nI_add, pk_mul]) ?_
                    refine lv_iadd hx hb (dkP dF_96 DX12_span (i := 98) rfl rfl) ?_
                    refine z_top (y := nI (((8 + 20 * k_p) + 4) + (2 * k_f))) (by simp only [fa_lit, nI_add, pk_mul]) ?_
                    refine lv_iconst (v := 1) hx hb (dkP dF_4 DX12_span (i := 99) rfl rfl) (by decide) ?_
                    refine lv_iadd hx hb (dkP dF_96 DX12_span (i := 100) rfl rfl) ?_
                    refine z_top (y := nI ((((8 + 20 * k_p) + 4) + (2 * k_f)) + 1)) (by simp only [fa_lit, nI_add, pk_mul]) ?_
                    refine lv_iload hx hb (dk1 dF_21 DX12_span (i := 101) rfl rfl rfl) (lv_at hl 3 rfl) ?_
                    refine lv_if_ne (tgt := 200) hx hb (dkS dF_154 DX12_span (i := 102) rfl rfl rfl) (by decide) (fun c28 => ?_) (fun c28 => ?_)
                    · skip
                      refine lv_iload hx hb (dk1 dF_21 DX12_span (i := 105) rfl rfl rfl) (lv_at hl 8 rfl) ?_
                      refine z_iastN (n := 414128) C0 hw 1 ((((8 + 20 * k_p) + 4) + (2 * k_f)) + 1) rfl (by omega) (by decide) (dkP dF_79 DX12_span (i := 106) rfl rfl) (fun H locs hw => ?_)
                      refine lv_aload_n hx hb (dkP dF_42 DX12_span (i := 107) rfl rfl) rfl (lv_at hl 4 rfl) ?_
                      refine z_gr C0 hw 0 1 1 rfl fl_X12_20 (dk2 dF_180 DX12_span (i := 108) rfl rfl rfl) ?_
                      refine lv_iload_n hx hb (dkP dF_27 DX12_span (i := 109) rfl rfl) rfl (lv_at hl 5 rfl) ?_
                      refine zn_I hw (zr_S (As := [.int (nI k_p)]) (rest := [.ref (ad 1)]) C0 (c_X12_of l G kc k_p  _) cs_X12_of lk_X12_139 (zp_P C0 a00 s00) rfl hl.1 rfl ⟨by decide, by decide⟩ (Nat.le_of_ble_eq_true rfl) (dk2 dF_184 DX12_span (i := 110) rfl rfl rfl) ⟨Nat.le_refl _, Nat.le_refl _⟩) (fun r29 s29 H locs hp hw => ?_)
                      subst hp
                      refine lv_iconst (v := 3) hx hb (dkP dF_6 DX12_span (i := 111) rfl rfl) (by decide) ?_
                      refine lv_iadd hx hb (dkP dF_96 DX12_span (i := 112) rfl rfl) ?_
                      refine z_top (y := nI ((8 + 20 * k_p) + 3)) (by simp only [fa_lit, nI_add, pk_mul]) ?_
                      refine lv_iconst (v := (-1)) hx hb (dkP dF_2 DX12_span (i := 113) rfl rfl) (by decide) ?_
                      refine z_iastN (n := 414128) C0 hw 1 ((8 + 20 * k_p) + 3) rfl (by omega) (by decide) (dkP dF_79 DX12_span (i := 114) rfl rfl) (fun H locs hw => ?_)
                      refine lv_iload hx hb (dk1 dF_21 DX12_span (i := 115) rfl rfl rfl) (lv_at hl 1 rfl) ?_
                      exact z_iret C0 hr hlk hw (by (try simp (disch := omega) only [tnI]); rw [if_pos (by omega)]; exact hq.1) (dkP dF_172 DX12_span (i := 116) rfl rfl)
                    · skip
                      refine lv_iconst (v := 0) hx hb (dkP dF_3 DX12_span (i := 103) rfl rfl) (by decide) ?_
                      refine lv_goto (tgt := 202) hx hb (dkS dF_167 DX12_span (i := 104) rfl rfl rfl) (by decide) ?_
                      refine z_iastN (n := 414128) C0 hw 1 ((((8 + 20 * k_p) + 4) + (2 * k_f)) + 1) rfl (by omega) (by decide) (dkP dF_79 DX12_span (i := 106) rfl rfl) (fun H locs hw => ?_)
                      refine lv_aload_n hx hb (dkP dF_42 DX12_span (i := 107) rfl rfl) rfl (lv_at hl 4 rfl) ?_
                      refine z_gr C0 hw 0 1 1 rfl fl_X12_20 (dk2 dF_180 DX12_span (i := 108) rfl rfl rfl) ?_
                      refine lv_iload_n hx hb (dkP dF_27 DX12_span (i := 109) rfl rfl) rfl (lv_at hl 5 rfl) ?_
                      refine zn_I hw (zr_S (As := [.int (nI k_p)]) (rest := [.ref (ad 1)]) C0 (c_X12_of l G kc k_p  _) cs_X12_of lk_X12_139 (zp_P C0 a00 s00) rfl hl.1 rfl ⟨by decide, by decide⟩ (Nat.le_of_ble_eq_true rfl) (dk2 dF_184 DX12_span (i := 110) rfl rfl rfl) ⟨Nat.le_refl _, Nat.le_refl _⟩) (fun r30 s30 H locs hp hw => ?_)
                      subst hp
                      refine lv_iconst (v := 3) hx hb (dkP dF_6 DX12_span (i := 111) rfl rfl) (by decide) ?_
                      refine lv_iadd hx hb (dkP dF_96 DX12_span (i := 112) rfl rfl) ?_
                      refine z_top (y := nI ((8 + 20 * k_p) + 3)) (by simp only [fa_lit, nI_add, pk_mul]) ?_
                      refine lv_iconst (v := (-1)) hx hb (dkP dF_2 DX12_span (i := 113) rfl rfl) (by decide) ?_
                      refine z_iastN (n := 414128) C0 hw 1 ((8 + 20 * k_p) + 3) rfl (by omega) (by decide) (dkP dF_79 DX12_span (i := 114) rfl rfl) (fun H locs hw => ?_)
                      refine lv_iload hx hb (dk1 dF_21 DX12_span (i := 115) rfl rfl rfl) (lv_at hl 1 rfl) ?_
                      exact z_iret C0 hr hlk hw (by (try simp (disch := omega) only [tnI]); rw [if_pos (by omega)]; exact hq.1) (dkP dF_172 DX12_span (i := 116) rfl rfl)
                  · skip
                    refine lv_iconst (v := 1) hx hb (dkP dF_4 DX12_span (i := 85) rfl rfl) (by decide) ?_
                    refine lv_goto (tgt := 174) hx hb (dkS dF_167 DX12_span (i := 86) rfl rfl rfl) (by decide) ?_
                    refine z_iastN (n := 414128) C0 hw 1 (((8 + 20 * k_p) + 4) + (2 * k_f)) rfl (by omega) (by decide) (dkP dF_79 DX12_span (i := 88) rfl rfl) (fun H locs hw => ?_)
                    refine lv_aload_n hx hb (dkP dF_42 DX12_span (i := 89) rfl rfl) rfl (lv_at hl 4 rfl) ?_
                    refine z_gr C0 hw 0 1 1 rfl fl_X12_20 (dk2 dF_180 DX12_span (i := 90) rfl rfl rfl) ?_
                    refine lv_iload_n hx hb (dkP dF_27 DX12_span (i := 91) rfl rfl) rfl (lv_at hl 5 rfl) ?_
                    refine zn_I hw (zr_S (As := [.int (nI k_p)]) (rest := [.ref (ad 1)]) C0 (c_X12_of l G kc k_p  _) cs_X12_of lk_X12_139 (zp_P C0 a00 s00) rfl hl.1 rfl ⟨by decide, by decide⟩ (Nat.le_of_ble_eq_true rfl) (dk2 dF_184 DX12_span (i := 92) rfl rfl rfl) ⟨Nat.le_refl _, Nat.le_refl _⟩) (fun r31 s31 H locs hp hw => ?_)
                    subst hp
                    refine lv_iconst (v := 4) hx hb (dkP dF_7 DX12_span (i := 93) rfl rfl) (by decide) ?_
                    refine lv_iadd hx hb (dkP dF_96 DX12_span (i := 94) rfl rfl) ?_
                    refine z_top (y := nI ((8 + 20 * k_p) + 4)) (by simp only [fa_lit, nI_add, pk_mul]) ?_
                    refine lv_iconst (v := 2) hx hb (dkP dF_5 DX12_span (i := 95) rfl rfl) (by decide) ?_
                    refine lv_iload_n hx hb (dkP dF_28 DX12_span (i := 96) rfl rfl) rfl (lv_at hl 6 rfl) ?_
                    refine lv_imul hx hb (dkP dF_104 DX12_span (i := 97) rfl rfl) ?_
                    refine z_top (y := nI (2 * k_f)) (by simp only [fa_lit, nI_add, pk_mul]) ?_
                    refine lv_iadd hx hb (dkP dF_96 DX12_span (i := 98) rfl rfl) ?_
                    refine z_top (y := nI (((8 + 20 * k_p) + 4) + (2 * k_f))) (by simp only [fa_lit, nI_add, pk_mul]) ?_
                    refine lv_iconst (v := 1) hx hb (dkP dF_4 DX12_span (i := 99) rfl rfl) (by decide) ?_
                    refine lv_iadd hx hb (dkP dF_96 DX12_span (i := 100) rfl rfl) ?_
                    refine z_top (y := nI ((((8 + 20 * k_p) + 4) + (2 * k_f)) + 1)) (by simp only [fa_lit, nI_add, pk_mul]) ?_
                    refine lv_iload hx hb (dk1 dF_21 DX12_span (i := 101) rfl rfl rfl) (lv_at hl 3 rfl) ?_
                    refine lv_if_ne (tgt := 200) hx hb (dkS dF_154 DX12_span (i := 102) rfl rfl rfl) (by decide) (fun c32 => ?_) (fun c32 => ?_)
                    · skip
                      refine lv_iload hx hb (dk1 dF_21 DX12_span (i := 105) rfl rfl rfl) (lv_at hl 8 rfl) ?_
                      refine z_iastN (n := 414128) C0 hw 1 ((((8 + 20 * k_p) + 4) + (2 * k_f)) + 1) rfl (by omega) (by decide) (dkP dF_79 DX12_span (i := 106) rfl rfl) (fun H locs hw => ?_)
                      refine lv_aload_n hx hb (dkP dF_42 DX12_span (i := 107) rfl rfl) rfl (lv_at hl 4 rfl) ?_
                      refine z_gr C0 hw 0 1 1 rfl fl_X12_20 (dk2 dF_180 DX12_span (i := 108) rfl rfl rfl) ?_
                      refine lv_iload_n hx hb (dkP dF_27 DX12_span (i := 109) rfl rfl) rfl (lv_at hl 5 rfl) ?_
                      refine zn_I hw (zr_S (As := [.int (nI k_p)]) (rest := [.ref (ad 1)]) C0 (c_X12_of l G kc k_p  _) cs_X12_of lk_X12_139 (zp_P C0 a00 s00) rfl hl.1 rfl ⟨by decide, by decide⟩ (Nat.le_of_ble_eq_true rfl) (dk2 dF_184 DX12_span (i := 110) rfl rfl rfl) ⟨Nat.le_refl _, Nat.le_refl _⟩) (fun r33 s33 H locs hp hw => ?_)
                      subst hp
                      refine lv_iconst (v := 3) hx hb (dkP dF_6 DX12_span (i := 111) rfl rfl) (by decide) ?_
                      refine lv_iadd hx hb (dkP dF_96 DX12_span (i := 112) rfl rfl) ?_
                      refine z_top (y := nI ((8 + 20 * k_p) + 3)) (by simp only [fa_lit, nI_add, pk_mul]) ?_
                      refine lv_iconst (v := (-1)) hx hb (dkP dF_2 DX12_span (i := 113) rfl rfl) (by decide) ?_
                      refine z_iastN (n := 414128) C0 hw 1 ((8 + 20 * k_p) + 3) rfl (by omega) (by decide) (dkP dF_79 DX12_span (i := 114) rfl rfl) (fun H locs hw => ?_)
                      refine lv_iload hx hb (dk1 dF_21 DX12_span (i := 115) rfl rfl rfl) (lv_at hl 1 rfl) ?_
                      exact z_iret C0 hr hlk hw (by (try simp (disch := omega) only [tnI]); rw [if_pos (by omega)]; exact hq.1) (dkP dF_172 DX12_span (i := 116) rfl rfl)
                    · skip
                      refine lv_iconst (v := 0) hx hb (dkP dF_3 DX12_span (i := 103) rfl rfl) (by decide) ?_
                      refine lv_goto (tgt := 202) hx hb (dkS dF_167 DX12_span (i := 104) rfl rfl rfl) (by decide) ?_
                      refine z_iastN (n := 414128) C0 hw 1 ((((8 + 20 * k_p) + 4) + (2 * k_f)) + 1) rfl (by omega) (by decide) (dkP dF_79 DX12_span (i := 106) rfl rfl) (fun H locs hw => ?_)
                      refine lv_aload_n hx hb (dkP dF_42 DX12_span (i := 107) rfl rfl) rfl (lv_at hl 4 rfl) ?_
                      refine z_gr C0 hw 0 1 1 rfl fl_X12_20 (dk2 dF_180 DX12_span (i := 108) rfl rfl rfl) ?_
                      refine lv_iload_n hx hb (dkP dF_27 DX12_span (i := 109) rfl rfl) rfl (lv_at hl 5 rfl) ?_
                      refine zn_I hw (zr_S (As := [.int (nI k_p)]) (rest := [.ref (ad 1)]) C0 (c_X12_of l G kc k_p  _) cs_X12_of lk_X12_139 (zp_P C0 a00 s00) rfl hl.1 rfl ⟨by decide, by decide⟩ (Nat.le_of_ble_eq_true rfl) (dk2 dF_184 DX12_span (i := 110) rfl rfl rfl) ⟨Nat.le_refl _, Nat.le_refl _⟩) (fun r34 s34 H locs hp hw => ?_)
                      subst hp
                      refine lv_iconst (v := 3) hx hb (dkP dF_6 DX12_span (i := 111) rfl rfl) (by decide) ?_
                      refine lv_iadd hx hb (dkP dF_96 DX12_span (i := 112) rfl rfl) ?_
                      refine z_top (y := nI ((8 + 20 * k_p) + 3)) (by simp only [fa_lit, nI_add, pk_mul]) ?_
                      refine lv_iconst (v := (-1)) hx hb (dkP dF_2 DX12_span (i := 113) rfl rfl) (by decide) ?_
                      refine z_iastN (n := 414128) C0 hw 1 ((8 + 20 * k_p) + 3) rfl (by omega) (by decide) (dkP dF_79 DX12_span (i := 114) rfl rfl) (fun H locs hw => ?_)
                      refine lv_iload hx hb (dk1 dF_21 DX12_span (i := 115) rfl rfl rfl) (lv_at hl 1 rfl) ?_
                      exact z_iret C0 hr hlk hw (by (try simp (disch := omega) only [tnI]); rw [if_pos (by omega)]; exact hq.1) (dkP dF_172 DX12_span (i := 116) rfl rfl)
              · simp (disch := omega) only [ta_lt, ta_le, ta_eq, tnI, tl32 8 (by decide)] at c11
                refine lv_iload hx hb (dk1 dF_21 DX12_span (i := 44) rfl rfl rfl) (lv_at hl 0 rfl) ?_
                refine lv_iload_n hx hb (dkP dF_28 DX12_span (i := 45) rfl rfl) rfl (lv_at hl 6 rfl) ?_
                refine lv_icmp_eq (tgt := 122) hx hb (dkS dF_159 DX12_span (i := 46) rfl rfl rfl) (by decide) (fun c35 => ?_) (fun c35 => ?_)
                · simp (disch := omega) only [ta_lt, ta_le, ta_eq, tnI] at c35
                  refine lv_iinc (v := nI (i + 1)) (lv' := [(8, .int (nI (i + 1))), (7, .int v9), (6, .int 0), (5, .int v7), (0, .ref (ad 0)), (1, .int (nI k_p)), (2, .int (nI k_f)), (3, .int lo), (4, .int hi2)]) hx hb (dkI DX12_span (i := 61) rfl rfl rfl rfl) hl (k := 0) rfl (nI_1 _) (by decide) rfl (fun ls hl => ?_)
                  refine lv_goto (tgt := 81) hx hb (dkS dF_167 DX12_span (i := 62) rfl rfl rfl) (by decide) ?_
                  exact ih10 (i + 1) _ _ _ (by omega) (by omega) hw (lv_sub hl [0, 1, 2, 3, 4, 5, 6, 7, 8] rfl)
                · simp (disch := omega) only [ta_lt, ta_le, ta_eq, tnI] at c35
                  refine lv_aload_n hx hb (dkP dF_42 DX12_span (i := 47) rfl rfl) rfl (lv_at hl 4 rfl) ?_
                  refine lv_iload_n hx hb (dkP dF_27 DX12_span (i := 48) rfl rfl) rfl (lv_at hl 5 rfl) ?_
                  refine lv_iload hx hb (dk1 dF_21 DX12_span (i := 49) rfl rfl rfl) (lv_at hl 0 rfl) ?_
                  refine zk_I hw (zr_V (As := [.int (nI k_p), .int (nI i)]) (rest := []) C0 (c_X12_spanMany l G kc ad k_p i (by first | omega | assumption | decide | rfl) (by first | omega | assumption | decide | rfl) _) cv_X12_spanMany lk_X12_329 (zp_V C0 hw 0 rfl rfl rfl) rfl hl.1 rfl ⟨by decide, by decide⟩ (Nat.le_of_ble_eq_true rfl) (dk2 dF_182 DX12_span (i := 50) rfl rfl rfl) ⟨Nat.le_refl _, Nat.le_refl _⟩) (fun r36 s36 H locs hp hw => ?_)
                  obtain ⟨rfl, hs36⟩ := hp
                  subst hs36
                  refine lv_if_ne (tgt := 107) hx hb (dkS dF_154 DX12_span (i := 51) rfl rfl rfl) (by decide) (fun h => absurd h (by decide)) (fun _ => ?_)
                  refine lv_goto (tgt := 122) hx hb (dkS dF_167 DX12_span (i := 52) rfl rfl rfl) (by decide) ?_
                  refine lv_iinc (v := nI (i + 1)) (lv' := [(8, .int (nI (i + 1))), (7, .int v9), (6, .int 0), (5, .int v7), (0, .ref (ad 0)), (1, .int (nI k_p)), (2, .int (nI k_f)), (3, .int lo), (4, .int hi2)]) hx hb (dkI DX12_span (i := 61) rfl rfl rfl rfl) hl (k := 0) rfl (nI_1 _) (by decide) rfl (fun ls hl => ?_)
                  refine lv_goto (tgt := 81) hx hb (dkS dF_167 DX12_span (i := 62) rfl rfl rfl) (by decide) ?_
                  exact ih10 (i + 1) _ _ _ (by omega) (by omega) hw (lv_sub hl [0, 1, 2, 3, 4, 5, 6, 7, 8] rfl)
          exact lp10 _ 0 _ _ _ (Nat.lt_succ_self _) (by omega) hw (lv_sub hl [0, 1, 2, 3, 4, 5, 6, 7, 8] rfl)
        · skip
          refine lv_if_eq (tgt := 52) hx hb (dkS dF_153 DX12_span (i := 17) rfl rfl rfl) (by decide) (fun _ => ?_) (fun h => absurd h (by decide))
          refine lv_bipush (v := (-2)) hx hb (dks dF_16 DX12_span (i := 23) rfl rfl rfl) (by decide) ?_
          exact z_iret C0 hr hlk hw (by first | rfl | ((try simp only [lg_cmp_lt, lg_cmp_le, lg_cmp_gt, lg_cmp_ge, lg_cmp_eq] at hc1); (try simp (disch := omega) only [ta_lt, ta_le, ta_eq, tb_lt, tb_le, tb_eq, tw, tnI, tn32 99 (by decide), tnj 99 (by decide), tn32 2 (by decide), tnj 2 (by decide), tn32 1 (by decide), tnj 1 (by decide), tl32 0 (by decide), tl64 0 (by decide), tl32 1 (by decide), tl64 1 (by decide), tl32 2 (by decide), tl64 2 (by decide), tl32 3 (by decide), tl64 3 (by decide), tl32 4 (by decide), tl64 4 (by decide), tl32 8 (by decide), tl64 8 (by decide), tl32 99 (by decide), tl64 99 (by decide), tl32 4096 (by decide), tl64 4096 (by decide)] at hc1); (try simp only [lg_cmp_lt, lg_cmp_le, lg_cmp_gt, lg_cmp_ge, lg_cmp_eq] at hk_p); (try simp (disch := omega) only [ta_lt, ta_le, ta_eq, tb_lt, tb_le, tb_eq, tw, tnI, tn32 99 (by decide), tnj 99 (by decide), tn32 2 (by decide), tnj 2 (by decide), tn32 1 (by decide), tnj 1 (by decide), tl32 0 (by decide), tl64 0 (by decide), tl32 1 (by decide), tl64 1 (by decide), tl32 2 (by decide), tl64 2 (by decide), tl32 3 (by decide), tl64 3 (by decide), tl32 4 (by decide), tl64 4 (by decide), tl32 8 (by decide), tl64 8 (by decide), tl32 99 (by decide), tl64 99 (by decide), tl32 4096 (by decide), tl64 4096 (by decide)] at hk_p); (try simp only [lg_cmp_lt, lg_cmp_le, lg_cmp_gt, lg_cmp_ge, lg_cmp_eq] at hc2); (try simp (disch := omega) only [ta_lt, ta_le, ta_eq, tb_lt, tb_le, tb_eq, tw, tnI, tn32 99 (by decide), tnj 99 (by decide), tn32 2 (by decide), tnj 2 (by decide), tn32 1 (by decide), tnj 1 (by decide), tl32 0 (by decide), tl64 0 (by decide), tl32 1 (by decide), tl64 1 (by decide), tl32 2 (by decide), tl64 2 (by decide), tl32 3 (by decide), tl64 3 (by decide), tl32 4 (by decide), tl64 4 (by decide), tl32 8 (by decide), tl64 8 (by decide), tl32 99 (by decide), tl64 99 (by decide), tl32 4096 (by decide), tl64 4096 (by decide)] at hc2); (try simp only [lg_cmp_lt, lg_cmp_le, lg_cmp_gt, lg_cmp_ge, lg_cmp_eq] at hk_f); (try simp (disch := omega) only [ta_lt, ta_le, ta_eq, tb_lt, tb_le, tb_eq, tw, tnI, tn32 99 (by decide), tnj 99 (by decide), tn32 2 (by decide), tnj 2 (by decide), tn32 1 (by decide), tnj 1 (by decide), tl32 0 (by decide), tl64 0 (by decide), tl32 1 (by decide), tl64 1 (by decide), tl32 2 (by decide), tl64 2 (by decide), tl32 3 (by decide), tl64 3 (by decide), tl32 4 (by decide), tl64 4 (by decide), tl32 8 (by decide), tl64 8 (by decide), tl32 99 (by decide), tl64 99 (by decide), tl32 4096 (by decide), tl64 4096 (by decide)] at hk_f); (try simp only [lg_cmp_lt, lg_cmp_le, lg_cmp_gt, lg_cmp_ge, lg_cmp_eq] at hc3); (try simp (disch := omega) only [ta_lt, ta_le, ta_eq, tb_lt, tb_le, tb_eq, tw, tnI, tn32 99 (by decide), tnj 99 (by decide), tn32 2 (by decide), tnj 2 (by decide), tn32 1 (by decide), tnj 1 (by decide), tl32 0 (by decide), tl64 0 (by decide), tl32 1 (by decide), tl64 1 (by decide), tl32 2 (by decide), tl64 2 (by decide), tl32 3 (by decide), tl64 3 (by decide), tl32 4 (by decide), tl64 4 (by decide), tl32 8 (by decide), tl64 8 (by decide), tl32 99 (by decide), tl64 99 (by decide), tl32 4096 (by decide), tl64 4096 (by decide)] at hc3); (try simp only [lg_cmp_lt, lg_cmp_le, lg_cmp_gt, lg_cmp_ge, lg_cmp_eq] at hc4); (try simp (disch := omega) only [ta_lt, ta_le, ta_eq, tb_lt, tb_le, tb_eq, tw, tnI, tn32 99 (by decide), tnj 99 (by decide), tn32 2 (by decide), tnj 2 (by decide), tn32 1 (by decide), tnj 1 (by decide), tl32 0 (by decide), tl64 0 (by decide), tl32 1 (by decide), tl64 1 (by decide), tl32 2 (by decide), tl64 2 (by decide), tl32 3 (by decide), tl64 3 (by decide), tl32 4 (by decide), tl64 4 (by decide), tl32 8 (by decide), tl64 8 (by decide), tl32 99 (by decide), tl64 99 (by decide), tl32 4096 (by decide), tl64 4096 (by decide)] at hc4); (try simp (disch := omega) only [tnI, tn32 99 (by decide), tnj 99 (by decide), tn32 2 (by decide), tnj 2 (by decide), tn32 1 (by decide), tnj 1 (by decide), tl32 0 (by decide), tl64 0 (by decide), tl32 1 (by decide), tl64 1 (by decide), tl32 2 (by decide), tl64 2 (by decide), tl32 3 (by decide), tl64 3 (by decide), tl32 4 (by decide), tl64 4 (by decide), tl32 8 (by decide), tl64 8 (by decide), tl32 99 (by decide), tl64 99 (by decide), tl32 4096 (by decide), tl64 4096 (by decide)]); (repeat' split) <;> first | rfl | omega | (apply Int32.toInt_inj.mp; simp (disch := omega) only [tnI, tn32 99 (by decide), tnj 99 (by decide), tn32 2 (by decide), tnj 2 (by decide), tn32 1 (by decide), tnj 1 (by decide), tl32 0 (by decide), tl64 0 (by decide), tl32 1 (by decide), tl64 1 (by decide), tl32 2 (by decide), tl64 2 (by decide), tl32 3 (by decide), tl64 3 (by decide), tl32 4 (by decide), tl64 4 (by decide), tl32 8 (by decide), tl64 8 (by decide), tl32 99 (by decide), tl64 99 (by decide), tl32 4096 (by decide), tl64 4096 (by decide)]; omega))) (dkP dF_172 DX12_span (i := 24) rfl rfl)
      · skip
        refine lv_if_eq (tgt := 52) hx hb (dkS dF_153 DX12_span (i := 11) rfl rfl rfl) (by decide) (fun _ => ?_) (fun h => absurd h (by decide))
        refine lv_bipush (v := (-2)) hx hb (dks dF_16 DX12_span (i := 23) rfl rfl rfl) (by decide) ?_
        exact z_iret C0 hr hlk hw (by first | rfl | ((try simp only [lg_cmp_lt, lg_cmp_le, lg_cmp_gt, lg_cmp_ge, lg_cmp_eq] at hc1); (try simp (disch := omega) only [ta_lt, ta_le, ta_eq, tb_lt, tb_le, tb_eq, tw, tnI, tn32 99 (by decide), tnj 99 (by decide), tn32 2 (by decide), tnj 2 (by decide), tn32 1 (by decide), tnj 1 (by decide), tl32 0 (by decide), tl64 0 (by decide), tl32 1 (by decide), tl64 1 (by decide), tl32 2 (by decide), tl64 2 (by decide), tl32 3 (by decide), tl64 3 (by decide), tl32 4 (by decide), tl64 4 (by decide), tl32 8 (by decide), tl64 8 (by decide), tl32 99 (by decide), tl64 99 (by decide), tl32 4096 (by decide), tl64 4096 (by decide)] at hc1); (try simp only [lg_cmp_lt, lg_cmp_le, lg_cmp_gt, lg_cmp_ge, lg_cmp_eq] at hk_p); (try simp (disch := omega) only [ta_lt, ta_le, ta_eq, tb_lt, tb_le, tb_eq, tw, tnI, tn32 99 (by decide), tnj 99 (by decide), tn32 2 (by decide), tnj 2 (by decide), tn32 1 (by decide), tnj 1 (by decide), tl32 0 (by decide), tl64 0 (by decide), tl32 1 (by decide), tl64 1 (by decide), tl32 2 (by decide), tl64 2 (by decide), tl32 3 (by decide), tl64 3 (by decide), tl32 4 (by decide), tl64 4 (by decide), tl32 8 (by decide), tl64 8 (by decide), tl32 99 (by decide), tl64 99 (by decide), tl32 4096 (by decide), tl64 4096 (by decide)] at hk_p); (try simp only [lg_cmp_lt, lg_cmp_le, lg_cmp_gt, lg_cmp_ge, lg_cmp_eq] at hc2); (try simp (disch := omega) only [ta_lt, ta_le, ta_eq, tb_lt, tb_le, tb_eq, tw, tnI, tn32 99 (by decide), tnj 99 (by decide), tn32 2 (by decide), tnj 2 (by decide), tn32 1 (by decide), tnj 1 (by decide), tl32 0 (by decide), tl64 0 (by decide), tl32 1 (by decide), tl64 1 (by decide), tl32 2 (by decide), tl64 2 (by decide), tl32 3 (by decide), tl64 3 (by decide), tl32 4 (by decide), tl64 4 (by decide), tl32 8 (by decide), tl64 8 (by decide), tl32 99 (by decide), tl64 99 (by decide), tl32 4096 (by decide), tl64 4096 (by decide)] at hc2); (try simp only [lg_cmp_lt, lg_cmp_le, lg_cmp_gt, lg_cmp_ge, lg_cmp_eq] at hk_f); (try simp (disch := omega) only [ta_lt, ta_le, ta_eq, tb_lt, tb_le, tb_eq, tw, tnI, tn32 99 (by decide), tnj 99 (by decide), tn32 2 (by decide), tnj 2 (by decide), tn32 1 (by decide), tnj 1 (by decide), tl32 0 (by decide), tl64 0 (by decide), tl32 1 (by decide), tl64 1 (by decide), tl32 2 (by decide), tl64 2 (by decide), tl32 3 (by decide), tl64 3 (by decide), tl32 4 (by decide), tl64 4 (by decide), tl32 8 (by decide), tl64 8 (by decide), tl32 99 (by decide), tl64 99 (by decide), tl32 4096 (by decide), tl64 4096 (by decide)] at hk_f); (try simp only [lg_cmp_lt, lg_cmp_le, lg_cmp_gt, lg_cmp_ge, lg_cmp_eq] at hc3); (try simp (disch := omega) only [ta_lt, ta_le, ta_eq, tb_lt, tb_le, tb_eq, tw, tnI, tn32 99 (by decide), tnj 99 (by decide), tn32 2 (by decide), tnj 2 (by decide), tn32 1 (by decide), tnj 1 (by decide), tl32 0 (by decide), tl64 0 (by decide), tl32 1 (by decide), tl64 1 (by decide), tl32 2 (by decide), tl64 2 (by decide), tl32 3 (by decide), tl64 3 (by decide), tl32 4 (by decide), tl64 4 (by decide), tl32 8 (by decide), tl64 8 (by decide), tl32 99 (by decide), tl64 99 (by decide), tl32 4096 (by decide), tl64 4096 (by decide)] at hc3); (try simp (disch := omega) only [tnI, tn32 99 (by decide), tnj 99 (by decide), tn32 2 (by decide), tnj 2 (by decide), tn32 1 (by decide), tnj 1 (by decide), tl32 0 (by decide), tl64 0 (by decide), tl32 1 (by decide), tl64 1 (by decide), tl32 2 (by decide), tl64 2 (by decide), tl32 3 (by decide), tl64 3 (by decide), tl32 4 (by decide), tl64 4 (by decide), tl32 8 (by decide), tl64 8 (by decide), tl32 99 (by decide), tl64 99 (by decide), tl32 4096 (by decide), tl64 4096 (by decide)]); (repeat' split) <;> first | rfl | omega | (apply Int32.toInt_inj.mp; simp (disch := omega) only [tnI, tn32 99 (by decide), tnj 99 (by decide), tn32 2 (by decide), tnj 2 (by decide), tn32 1 (by decide), tnj 1 (by decide), tl32 0 (by decide), tl64 0 (by decide), tl32 1 (by decide), tl64 1 (by decide), tl32 2 (by decide), tl64 2 (by decide), tl32 3 (by decide), tl64 3 (by decide), tl32 4 (by decide), tl64 4 (by decide), tl32 8 (by decide), tl64 8 (by decide), tl32 99 (by decide), tl64 99 (by decide), tl32 4096 (by decide), tl64 4096 (by decide)]; omega))) (dkP dF_172 DX12_span (i := 24) rfl rfl)
    · skip
      refine lv_if_eq (tgt := 52) hx hb (dkS dF_153 DX12_span (i := 5) rfl rfl rfl) (by decide) (fun _ => ?_) (fun h => absurd h (by decide))
      refine lv_bipush (v := (-2)) hx hb (dks dF_16 DX12_span (i := 23) rfl rfl rfl) (by decide) ?_
      exact z_iret C0 hr hlk hw (by first | rfl | ((try simp only [lg_cmp_lt, lg_cmp_le, lg_cmp_gt, lg_cmp_ge, lg_cmp_eq] at hc1); (try simp (disch := omega) only [ta_lt, ta_le, ta_eq, tb_lt, tb_le, tb_eq, tw, tnI, tn32 99 (by decide), tnj 99 (by decide), tn32 2 (by decide), tnj 2 (by decide), tn32 1 (by decide), tnj 1 (by decide), tl32 0 (by decide), tl64 0 (by decide), tl32 1 (by decide), tl64 1 (by decide), tl32 2 (by decide), tl64 2 (by decide), tl32 3 (by decide), tl64 3 (by decide), tl32 4 (by decide), tl64 4 (by decide), tl32 8 (by decide), tl64 8 (by decide), tl32 99 (by decide), tl64 99 (by decide), tl32 4096 (by decide), tl64 4096 (by decide)] at hc1); (try simp only [lg_cmp_lt, lg_cmp_le, lg_cmp_gt, lg_cmp_ge, lg_cmp_eq] at hk_p); (try simp (disch := omega) only [ta_lt, ta_le, ta_eq, tb_lt, tb_le, tb_eq, tw, tnI, tn32 99 (by decide), tnj 99 (by decide), tn32 2 (by decide), tnj 2 (by decide), tn32 1 (by decide), tnj 1 (by decide), tl32 0 (by decide), tl64 0 (by decide), tl32 1 (by decide), tl64 1 (by decide), tl32 2 (by decide), tl64 2 (by decide), tl32 3 (by decide), tl64 3 (by decide), tl32 4 (by decide), tl64 4 (by decide), tl32 8 (by decide), tl64 8 (by decide), tl32 99 (by decide), tl64 99 (by decide), tl32 4096 (by decide), tl64 4096 (by decide)] at hk_p); (try simp only [lg_cmp_lt, lg_cmp_le, lg_cmp_gt, lg_cmp_ge, lg_cmp_eq] at hc2); (try simp (disch := omega) only [ta_lt, ta_le, ta_eq, tb_lt, tb_le, tb_eq, tw, tnI, tn32 99 (by decide), tnj 99 (by decide), tn32 2 (by decide), tnj 2 (by decide), tn32 1 (by decide), tnj 1 (by decide), tl32 0 (by decide), tl64 0 (by decide), tl32 1 (by decide), tl64 1 (by decide), tl32 2 (by decide), tl64 2 (by decide), tl32 3 (by decide), tl64 3 (by decide), tl32 4 (by decide), tl64 4 (by decide), tl32 8 (by decide), tl64 8 (by decide), tl32 99 (by decide), tl64 99 (by decide), tl32 4096 (by decide), tl64 4096 (by decide)] at hc2); (try simp (disch := omega) only [tnI, tn32 99 (by decide), tnj 99 (by decide), tn32 2 (by decide), tnj 2 (by decide), tn32 1 (by decide), tnj 1 (by decide), tl32 0 (by decide), tl64 0 (by decide), tl32 1 (by decide), tl64 1 (by decide), tl32 2 (by decide), tl64 2 (by decide), tl32 3 (by decide), tl64 3 (by decide), tl32 4 (by decide), tl64 4 (by decide), tl32 8 (by decide), tl64 8 (by decide), tl32 99 (by decide), tl64 99 (by decide), tl32 4096 (by decide), tl64 4096 (by decide)]); (repeat' split) <;> first | rfl | omega | (apply Int32.toInt_inj.mp; simp (disch := omega) only [tnI, tn32 99 (by decide), tnj 99 (by decide), tn32 2 (by decide), tnj 2 (by decide), tn32 1 (by decide), tnj 1 (by decide), tl32 0 (by decide), tl64 0 (by decide), tl32 1 (by decide), tl64 1 (by decide), tl32 2 (by decide), tl64 2 (by decide), tl32 3 (by decide), tl64 3 (by decide), tl32 4 (by decide), tl64 4 (by decide), tl32 8 (by decide), tl64 8 (by decide), tl32 99 (by decide), tl64 99 (by decide), tl32 4096 (by decide), tl64 4096 (by decide)]; omega))) (dkP dF_172 DX12_span (i := 24) rfl rfl)
  · skip
    refine lv_if_eq (tgt := 52) hx hb (dkS dF_153 DX12_span (i := 2) rfl rfl rfl) (by decide) (fun _ => ?_) (fun h => absurd h (by decide))
    refine lv_bipush (v := (-2)) hx hb (dks dF_16 DX12_span (i := 23) rfl rfl rfl) (by decide) ?_
    exact z_iret C0 hr hlk hw (by first | rfl | ((try simp only [lg_cmp_lt, lg_cmp_le, lg_cmp_gt, lg_cmp_ge, lg_cmp_eq] at hc1); (try simp (disch := omega) only [ta_lt, ta_le, ta_eq, tb_lt, tb_le, tb_eq, tw, tnI, tn32 99 (by decide), tnj 99 (by decide), tn32 2 (by decide), tnj 2 (by decide), tn32 1 (by decide), tnj 1 (by decide), tl32 0 (by decide), tl64 0 (by decide), tl32 1 (by decide), tl64 1 (by decide), tl32 2 (by decide), tl64 2 (by decide), tl32 3 (by decide), tl64 3 (by decide), tl32 4 (by decide), tl64 4 (by decide), tl32 8 (by decide), tl64 8 (by decide), tl32 99 (by decide), tl64 99 (by decide), tl32 4096 (by decide), tl64 4096 (by decide)] at hc1); (try simp (disch := omega) only [tnI, tn32 99 (by decide), tnj 99 (by decide), tn32 2 (by decide), tnj 2 (by decide), tn32 1 (by decide), tnj 1 (by decide), tl32 0 (by decide), tl64 0 (by decide), tl32 1 (by decide), tl64 1 (by decide), tl32 2 (by decide), tl64 2 (by decide), tl32 3 (by decide), tl64 3 (by decide), tl32 4 (by decide), tl64 4 (by decide), tl32 8 (by decide), tl64 8 (by decide), tl32 99 (by decide), tl64 99 (by decide), tl32 4096 (by decide), tl64 4096 (by decide)]); (repeat' split) <;> first | rfl | omega | (apply Int32.toInt_inj.mp; simp (disch := omega) only [tnI, tn32 99 (by decide), tnj 99 (by decide), tn32 2 (by decide), tnj 2 (by decide), tn32 1 (by decide), tnj 1 (by decide), tl32 0 (by decide), tl64 0 (by decide), tl32 1 (by decide), tl64 1 (by decide), tl32 2 (by decide), tl64 2 (by decide), tl32 3 (by decide), tl64 3 (by decide), tl32 4 (by decide), tl64 4 (by decide), tl32 8 (by decide), tl64 8 (by decide), tl32 99 (by decide), tl64 99 (by decide), tl32 4096 (by decide), tl64 4096 (by decide)]; omega))) (dkP dF_172 DX12_span (i := 24) rfl rfl)
theorem rd3 {σ : Sg} {c a b d : Nat} {x y z : Int32} (h1 : d ≠ a) (h2 : d ≠ b) : (sI (sI (sI σ c d x) c a y) c b z).1 c d = x := by simp [sI, u2, h1, h2]
def fdv (x y : Int32) : Int32 := if 0 ≤ x ^^^ y then x / y else if x / y * y = x then x / y else x / y - 1
def fmd (x y : Int32) : Int32 := if 0 ≤ x ^^^ y then x - x / y * y else if x - x / y * y = 0 then x - x / y * y else x - x / y * y + y
set_option maxRecDepth 100000 in
set_option maxHeartbeats 4000000 in
theorem c_J9_floorDiv_7cf53 (l : Launch) (G : va_G) (kc : Nat → ClassId)  (x : Int32) (y : Int32) (hy : ¬ y = 0) : MI l G kc yJ9_floorDiv_7cf53 cJ9_floorDiv_7cf53 3 (some .int) 0 0 [.int x, .int y] [] a00 s00 (fun r _ => r = fdv x y) := by
  intro sz
  refine z_body (y := yJ9_floorDiv_7cf53) (n := 3) (av := [.int x, .int y]) (Qc := fun A => va_Qi (fun r _ => r = fdv x y) (PoC G kc [] a00 A) A) (by decide +kernel) (Nat.le_of_ble_eq_true rfl) (fun pr e s m below meth c A C0 hr hlk hnm hw ls hl => ?_) sz
  have hx := C0.1
  have hb := C0.2.1
  have hown := C0.2.2.2.1
  have hts := C0.2.2.2.2.1
  have hl : lv_has ls 3 [(0, .int x), (1, .int y)] := hl
  refine lv_iload_n hx hb (dkP dF_26 DJ9_floorDiv_7cf53 (i := 0) rfl rfl) rfl (lv_at hl 0 rfl) ?_
  refine lv_iload_n hx hb (dkP dF_27 DJ9_floorDiv_7cf53 (i := 1) rfl rfl) rfl (lv_at hl 1 rfl) ?_
  refine lv_idiv hx hb (dkP dF_108 DJ9_floorDiv_7cf53 (i := 2) rfl rfl) hy ?_
  refine lv_istore_n (lv' := [(2, .int (x / y)), (0, .int x), (1, .int y)]) hx hb (dkP dF_61 DJ9_floorDiv_7cf53 (i := 3) rfl rfl) rfl hl (by decide) rfl (fun ls hl => ?_)
  refine lv_iload_n hx hb (dkP dF_26 DJ9_floorDiv_7cf53 (i := 4) rfl rfl) rfl (lv_at hl 1 rfl) ?_
  refine lv_iload_n hx hb (dkP dF_27 DJ9_floorDiv_7cf53 (i := 5) rfl rfl) rfl (lv_at hl 2 rfl) ?_
  refine lv_ixor hx hb (dkP dF_130 DJ9_floorDiv_7cf53 (i := 6) rfl rfl) ?_
  refine lv_if_ge (tgt := 21) hx hb (dkS dF_156 DJ9_floorDiv_7cf53 (i := 7) rfl rfl rfl) (by decide) (fun c1 => ?_) (fun c1 => ?_)
  · skip
    refine lv_iload_n hx hb (dkP dF_28 DJ9_floorDiv_7cf53 (i := 17) rfl rfl) rfl (lv_at hl 0 rfl) ?_
    exact z_iret C0 hr hlk hw (by unfold fdv; first | rw [if_pos c1]) (dkP dF_172 DJ9_floorDiv_7cf53 (i := 18) rfl rfl)
  · skip
    refine lv_iload_n hx hb (dkP dF_28 DJ9_floorDiv_7cf53 (i := 8) rfl rfl) rfl (lv_at hl 0 rfl) ?_
    refine lv_iload_n hx hb (dkP dF_27 DJ9_floorDiv_7cf53 (i := 9) rfl rfl) rfl (lv_at hl 2 rfl) ?_
    refine lv_imul hx hb (dkP dF_104 DJ9_floorDiv_7cf53 (i := 10) rfl rfl) ?_
    refine lv_iload_n hx hb (dkP dF_26 DJ9_floorDiv_7cf53 (i := 11) rfl rfl) rfl (lv_at hl 1 rfl) ?_
    refine lv_icmp_eq (tgt := 21) hx hb (dkS dF_159 DJ9_floorDiv_7cf53 (i := 12) rfl rfl rfl) (by decide) (fun c2 => ?_) (fun c2 => ?_)
    · skip
      refine lv_iload_n hx hb (dkP dF_28 DJ9_floorDiv_7cf53 (i := 17) rfl rfl) rfl (lv_at hl 0 rfl) ?_
      exact z_iret C0 hr hlk hw (by unfold fdv; first | rw [if_pos c1] | rw [if_neg c1, if_pos c2] | rw [if_neg c1, if_neg c2]) (dkP dF_172 DJ9_floorDiv_7cf53 (i := 18) rfl rfl)
    · skip
      refine lv_iload_n hx hb (dkP dF_28 DJ9_floorDiv_7cf53 (i := 13) rfl rfl) rfl (lv_at hl 0 rfl) ?_
      refine lv_iconst (v := 1) hx hb (dkP dF_4 DJ9_floorDiv_7cf53 (i := 14) rfl rfl) (by decide) ?_
      refine lv_isub hx hb (dkP dF_100 DJ9_floorDiv_7cf53 (i := 15) rfl rfl) ?_
      exact z_iret C0 hr hlk hw (by unfold fdv; first | rw [if_pos c1] | rw [if_neg c1, if_pos c2] | rw [if_neg c1, if_neg c2]) (dkP dF_172 DJ9_floorDiv_7cf53 (i := 16) rfl rfl)
set_option maxRecDepth 100000 in
set_option maxHeartbeats 4000000 in
theorem c_J9_floorMod_7cf53 (l : Launch) (G : va_G) (kc : Nat → ClassId)  (x : Int32) (y : Int32) (hy : ¬ y = 0) : MI l G kc yJ9_floorMod_7cf53 cJ9_floorMod_7cf53 3 (some .int) 0 0 [.int x, .int y] [] a00 s00 (fun r _ => r = fmd x y) := by
  intro sz
  refine z_body (y := yJ9_floorMod_7cf53) (n := 3) (av := [.int x, .int y]) (Qc := fun A => va_Qi (fun r _ => r = fmd x y) (PoC G kc [] a00 A) A) (by decide +kernel) (Nat.le_of_ble_eq_true rfl) (fun pr e s m below meth c A C0 hr hlk hnm hw ls hl => ?_) sz
  have hx := C0.1
  have hb := C0.2.1
  have hown := C0.2.2.2.1
  have hts := C0.2.2.2.2.1
  have hl : lv_has ls 3 [(0, .int x), (1, .int y)] := hl
  refine lv_iload_n hx hb (dkP dF_26 DJ9_floorMod_7cf53 (i := 0) rfl rfl) rfl (lv_at hl 0 rfl) ?_
  refine lv_iload_n hx hb (dkP dF_27 DJ9_floorMod_7cf53 (i := 1) rfl rfl) rfl (lv_at hl 1 rfl) ?_
  refine lv_irem hx hb (dkP dF_112 DJ9_floorMod_7cf53 (i := 2) rfl rfl) hy ?_
  refine lv_istore_n (lv' := [(2, .int (x - x / y * y)), (0, .int x), (1, .int y)]) hx hb (dkP dF_61 DJ9_floorMod_7cf53 (i := 3) rfl rfl) rfl hl (by decide) rfl (fun ls hl => ?_)
  refine lv_iload_n hx hb (dkP dF_26 DJ9_floorMod_7cf53 (i := 4) rfl rfl) rfl (lv_at hl 1 rfl) ?_
  refine lv_iload_n hx hb (dkP dF_27 DJ9_floorMod_7cf53 (i := 5) rfl rfl) rfl (lv_at hl 2 rfl) ?_
  refine lv_ixor hx hb (dkP dF_130 DJ9_floorMod_7cf53 (i := 6) rfl rfl) ?_
  refine lv_if_ge (tgt := 18) hx hb (dkS dF_156 DJ9_floorMod_7cf53 (i := 7) rfl rfl rfl) (by decide) (fun c1 => ?_) (fun c1 => ?_)
  · skip
    refine lv_iload_n hx hb (dkP dF_28 DJ9_floorMod_7cf53 (i := 14) rfl rfl) rfl (lv_at hl 0 rfl) ?_
    exact z_iret C0 hr hlk hw (by unfold fmd; first | rw [if_pos c1]) (dkP dF_172 DJ9_floorMod_7cf53 (i := 15) rfl rfl)
  · skip
    refine lv_iload_n hx hb (dkP dF_28 DJ9_floorMod_7cf53 (i := 8) rfl rfl) rfl (lv_at hl 0 rfl) ?_
    refine lv_if_eq (tgt := 18) hx hb (dkS dF_153 DJ9_floorMod_7cf53 (i := 9) rfl rfl rfl) (by decide) (fun c2 => ?_) (fun c2 => ?_)
    · skip
      refine lv_iload_n hx hb (dkP dF_28 DJ9_floorMod_7cf53 (i := 14) rfl rfl) rfl (lv_at hl 0 rfl) ?_
      exact z_iret C0 hr hlk hw (by unfold fmd; first | rw [if_pos c1] | rw [if_neg c1, if_pos c2] | rw [if_neg c1, if_neg c2]) (dkP dF_172 DJ9_floorMod_7cf53 (i := 15) rfl rfl)
    · skip
      refine lv_iload_n hx hb (dkP dF_28 DJ9_floorMod_7cf53 (i := 10) rfl rfl) rfl (lv_at hl 0 rfl) ?_
      refine lv_iload_n hx hb (dkP dF_27 DJ9_floorMod_7cf53 (i := 11) rfl rfl) rfl (lv_at hl 2 rfl) ?_
      refine lv_iadd hx hb (dkP dF_96 DJ9_floorMod_7cf53 (i := 12) rfl rfl) ?_
      exact z_iret C0 hr hlk hw (by unfold fmd; first | rw [if_pos c1] | rw [if_neg c1, if_pos c2] | rw [if_neg c1, if_neg c2]) (dkP dF_172 DJ9_floorMod_7cf53 (i := 13) rfl rfl)
set_option maxRecDepth 100000 in
set_option maxHeartbeats 4000000 in
theorem c_X12_leads (l : Launch) (G : va_G) (kc : Nat → ClassId) (ad : Nat → Nat)  (k : Nat) (hk : 414028 ≤ k) (hk2 : k + 4 < 414128) : MI l G kc yX12_leads cX12_leads 3 (some .int) 0 0 [.ref (ad 0), .int (nI k)] shM ad sM0 (fun r σ1 => r = 0 ∧ True) := by
  intro sz
  refine z_body (y := yX12_leads) (n := 3) (av := [.ref (ad 0), .int (nI k)]) (Qc := fun A => va_Qi (fun r σ1 => r = 0 ∧ True) (PoC G kc shM ad A) A) (plainFor_of_name (by decide)) (Nat.le_of_ble_eq_true rfl) (fun pr e s m below meth c A C0 hr hlk hnm hw ls hl => ?_) sz
  have hx := C0.1
  have hb := C0.2.1
  have hown := C0.2.2.2.1
  have hts := C0.2.2.2.2.1
  have hl : lv_has ls 3 [(0, .ref (ad 0)), (1, .int (nI k))] := hl
  refine lv_aload_n hx hb (dkP dF_42 DX12_leads (i := 0) rfl rfl) rfl (lv_at hl 0 rfl) ?_
  refine z_gr C0 hw 0 1 1 rfl fl_X12_20 (dk2 dF_180 DX12_leads (i := 1) rfl rfl rfl) ?_
  refine lv_iload_n hx hb (dkP dF_27 DX12_leads (i := 2) rfl rfl) rfl (lv_at hl 1 rfl) ?_
  refine lv_iconst (v := 2) hx hb (dkP dF_5 DX12_leads (i := 3) rfl rfl) (by decide) ?_
  refine lv_iadd hx hb (dkP dF_96 DX12_leads (i := 4) rfl rfl) ?_
  refine z_top (y := nI (k + 2)) (by simp only [fa_lit, nI_add, pk_mul]) ?_
  refine z_ialdN (n := 414128) C0 hw 1 (k + 2) rfl (by omega) (by decide) (dkP dF_46 DX12_leads (i := 5) rfl rfl) ?_
  refine z_top (y := 0) (w0_z _ (by omega) (by omega)) ?_
  refine lv_if_ne (tgt := 15) hx hb (dkS dF_154 DX12_leads (i := 6) rfl rfl rfl) (by decide) (fun h => absurd h (by decide)) (fun _ => ?_)
  refine lv_iconst (v := 1) hx hb (dkP dF_4 DX12_leads (i := 7) rfl rfl) (by decide) ?_
  refine lv_goto (tgt := 16) hx hb (dkS dF_167 DX12_leads (i := 8) rfl rfl rfl) (by decide) ?_
  refine lv_istore_n (lv' := [(2, .int 1), (0, .ref (ad 0)), (1, .int (nI k))]) hx hb (dkP dF_61 DX12_leads (i := 10) rfl rfl) rfl hl (by decide) rfl (fun ls hl => ?_)
  refine lv_iload_n hx hb (dkP dF_28 DX12_leads (i := 11) rfl rfl) rfl (lv_at hl 0 rfl) ?_
  refine lv_if_eq (tgt := 52) hx hb (dkS dF_153 DX12_leads (i := 12) rfl rfl rfl) (by decide) (fun h => absurd h (by decide)) (fun _ => ?_)
  refine lv_aload_n hx hb (dkP dF_42 DX12_leads (i := 13) rfl rfl) rfl (lv_at hl 1 rfl) ?_
  refine z_gr C0 hw 0 1 1 rfl fl_X12_20 (dk2 dF_180 DX12_leads (i := 14) rfl rfl rfl) ?_
  refine lv_iload_n hx hb (dkP dF_27 DX12_leads (i := 15) rfl rfl) rfl (lv_at hl 2 rfl) ?_
  refine lv_iconst (v := 1) hx hb (dkP dF_4 DX12_leads (i := 16) rfl rfl) (by decide) ?_
  refine lv_iadd hx hb (dkP dF_96 DX12_leads (i := 17) rfl rfl) ?_
  refine z_top (y := nI (k + 1)) (by simp only [fa_lit, nI_add, pk_mul]) ?_
  refine lv_aload_n hx hb (dkP dF_42 DX12_leads (i := 18) rfl rfl) rfl (lv_at hl 1 rfl) ?_
  refine z_gr C0 hw 0 1 1 rfl fl_X12_20 (dk2 dF_180 DX12_leads (i := 19) rfl rfl rfl) ?_
  refine lv_iconst (v := 3) hx hb (dkP dF_6 DX12_leads (i := 20) rfl rfl) (by decide) ?_
  refine z_ialdN (n := 414128) C0 hw 1 3 rfl (by omega) (by decide) (dkP dF_46 DX12_leads (i := 21) rfl rfl) ?_
  refine z_top (y := 1) (by rfl) ?_
  refine lv_aload_n hx hb (dkP dF_42 DX12_leads (i := 22) rfl rfl) rfl (lv_at hl 1 rfl) ?_
  refine z_gr C0 hw 0 1 1 rfl fl_X12_20 (dk2 dF_180 DX12_leads (i := 23) rfl rfl rfl) ?_
  refine lv_iload_n hx hb (dkP dF_27 DX12_leads (i := 24) rfl rfl) rfl (lv_at hl 2 rfl) ?_
  refine z_ialdN (n := 414128) C0 hw 1 k rfl (by omega) (by decide) (dkP dF_46 DX12_leads (i := 25) rfl rfl) ?_
  refine z_top (y := 0) (w0_z _ (by omega) (by omega)) ?_
  refine lv_imul hx hb (dkP dF_104 DX12_leads (i := 26) rfl rfl) ?_
  refine z_top (y := 0) (by decide) ?_
  refine lv_aload_n hx hb (dkP dF_42 DX12_leads (i := 27) rfl rfl) rfl (lv_at hl 1 rfl) ?_
  refine z_gr C0 hw 0 1 1 rfl fl_X12_20 (dk2 dF_180 DX12_leads (i := 28) rfl rfl rfl) ?_
  refine lv_iconst (v := 4) hx hb (dkP dF_7 DX12_leads (i := 29) rfl rfl) (by decide) ?_
  refine z_ialdN (n := 414128) C0 hw 1 4 rfl (by omega) (by decide) (dkP dF_46 DX12_leads (i := 30) rfl rfl) ?_
  refine z_top (y := 0) (by rfl) ?_
  refine lv_iadd hx hb (dkP dF_96 DX12_leads (i := 31) rfl rfl) ?_
  refine z_top (y := 0) (by decide) ?_
  refine z_iastN (n := 414128) C0 hw 1 (k + 1) rfl (by omega) (by decide) (dkP dF_79 DX12_leads (i := 32) rfl rfl) (fun H locs hw => ?_)
  refine lv_goto (tgt := 82) hx hb (dkS dF_167 DX12_leads (i := 33) rfl rfl rfl) (by decide) ?_
  refine lv_aload_n hx hb (dkP dF_42 DX12_leads (i := 54) rfl rfl) rfl (lv_at hl 1 rfl) ?_
  refine z_gr C0 hw 0 1 1 rfl fl_X12_20 (dk2 dF_180 DX12_leads (i := 55) rfl rfl rfl) ?_
  refine lv_iload_n hx hb (dkP dF_27 DX12_leads (i := 56) rfl rfl) rfl (lv_at hl 2 rfl) ?_
  refine lv_iconst (v := 4) hx hb (dkP dF_7 DX12_leads (i := 57) rfl rfl) (by decide) ?_
  refine lv_iadd hx hb (dkP dF_96 DX12_leads (i := 58) rfl rfl) ?_
  refine z_top (y := nI (k + 4)) (by simp only [fa_lit, nI_add, pk_mul]) ?_
  refine lv_iload_n hx hb (dkP dF_28 DX12_leads (i := 59) rfl rfl) rfl (lv_at hl 0 rfl) ?_
  refine lv_if_eq (tgt := 97) hx hb (dkS dF_153 DX12_leads (i := 60) rfl rfl rfl) (by decide) (fun h => absurd h (by decide)) (fun _ => ?_)
  refine lv_iconst (v := 0) hx hb (dkP dF_3 DX12_leads (i := 61) rfl rfl) (by decide) ?_
  refine lv_goto (tgt := 121) hx hb (dkS dF_167 DX12_leads (i := 62) rfl rfl rfl) (by decide) ?_
  refine z_iastN (n := 414128) C0 hw 1 (k + 4) rfl (by omega) (by decide) (dkP dF_79 DX12_leads (i := 79) rfl rfl) (fun H locs hw => ?_)
  refine lv_aload_n hx hb (dkP dF_42 DX12_leads (i := 80) rfl rfl) rfl (lv_at hl 1 rfl) ?_
  refine z_gr C0 hw 0 1 1 rfl fl_X12_20 (dk2 dF_180 DX12_leads (i := 81) rfl rfl rfl) ?_
  refine lv_iload_n hx hb (dkP dF_27 DX12_leads (i := 82) rfl rfl) rfl (lv_at hl 2 rfl) ?_
  refine lv_iconst (v := 3) hx hb (dkP dF_6 DX12_leads (i := 83) rfl rfl) (by decide) ?_
  refine lv_iadd hx hb (dkP dF_96 DX12_leads (i := 84) rfl rfl) ?_
  refine z_top (y := nI (k + 3)) (by simp only [fa_lit, nI_add, pk_mul]) ?_
  refine lv_iconst (v := 0) hx hb (dkP dF_3 DX12_leads (i := 85) rfl rfl) (by decide) ?_
  refine z_iastN (n := 414128) C0 hw 1 (k + 3) rfl (by omega) (by decide) (dkP dF_79 DX12_leads (i := 86) rfl rfl) (fun H locs hw => ?_)
  refine lv_iload_n hx hb (dkP dF_28 DX12_leads (i := 87) rfl rfl) rfl (lv_at hl 0 rfl) ?_
  refine lv_if_eq (tgt := 146) hx hb (dkS dF_153 DX12_leads (i := 88) rfl rfl rfl) (by decide) (fun h => absurd h (by decide)) (fun _ => ?_)
  refine lv_aload_n hx hb (dkP dF_42 DX12_leads (i := 89) rfl rfl) rfl (lv_at hl 1 rfl) ?_
  refine z_gr C0 hw 0 1 1 rfl fl_X12_20 (dk2 dF_180 DX12_leads (i := 90) rfl rfl rfl) ?_
  refine lv_iload_n hx hb (dkP dF_27 DX12_leads (i := 91) rfl rfl) rfl (lv_at hl 2 rfl) ?_
  refine lv_iconst (v := 1) hx hb (dkP dF_4 DX12_leads (i := 92) rfl rfl) (by decide) ?_
  refine lv_iadd hx hb (dkP dF_96 DX12_leads (i := 93) rfl rfl) ?_
  refine z_top (y := nI (k + 1)) (by simp only [fa_lit, nI_add, pk_mul]) ?_
  refine z_ialdN (n := 414128) C0 hw 1 (k + 1) rfl (by omega) (by decide) (dkP dF_46 DX12_leads (i := 94) rfl rfl) ?_
  refine z_top (y := 0) (by simp [sI, u2]) ?_
  refine lv_goto (tgt := 152) hx hb (dkS dF_167 DX12_leads (i := 95) rfl rfl rfl) (by decide) ?_
  exact z_iret C0 hr hlk hw (⟨rfl, trivial⟩) (dkP dF_172 DX12_leads (i := 100) rfl rfl)
set_option maxRecDepth 100000 in
set_option maxHeartbeats 4000000 in
theorem c_X12_leads_g (l : Launch) (G : va_G) (kc : Nat → ClassId) (ad : Nat → Nat) (σ : Sg)  (k : Nat) (hk : 414028 ≤ k) (hk2 : k + 4 < 414128) (hm : ¬ σ.1 1 3 = 0) : MI l G kc yX12_leads cX12_leads 3 (some .int) 1 22 [.ref (ad 0), .int (nI k)] shM ad σ (fun r σ1 => ∀ j, j < 414028 → σ1.1 1 j = σ.1 1 j) := by
  intro sz
  refine z_body (y := yX12_leads) (n := 3) (av := [.ref (ad 0), .int (nI k)]) (Qc := fun A => va_Qi (fun r σ1 => ∀ j, j < 414028 → σ1.1 1 j = σ.1 1 j) (PoC G kc shM ad A) A) (plainFor_of_name (by decide)) (Nat.le_of_ble_eq_true rfl) (fun pr e s m below meth c A C0 hr hlk hnm hw ls hl => ?_) sz
  have hx := C0.1
  have hb := C0.2.1
  have hown := C0.2.2.2.1
  have hts := C0.2.2.2.2.1
  have hl : lv_has ls 3 [(0, .ref (ad 0)), (1, .int (nI k))] := hl
  refine lv_aload_n hx hb (dkP dF_42 DX12_leads (i := 0) rfl rfl) rfl (lv_at hl 0 rfl) ?_
  refine z_gr C0 hw 0 1 1 rfl fl_X12_20 (dk2 dF_180 DX12_leads (i := 1) rfl rfl rfl) ?_
  refine lv_iload_n hx hb (dkP dF_27 DX12_leads (i := 2) rfl rfl) rfl (lv_at hl 1 rfl) ?_
  refine lv_iconst (v := 2) hx hb (dkP dF_5 DX12_leads (i := 3) rfl rfl) (by decide) ?_
  refine lv_iadd hx hb (dkP dF_96 DX12_leads (i := 4) rfl rfl) ?_
  refine z_top (y := nI (k + 2)) (by simp only [fa_lit, nI_add, pk_mul]) ?_
  refine z_ialdN (n := 414128) C0 hw 1 (k + 2) rfl (by omega) (by decide) (dkP dF_46 DX12_leads (i := 5) rfl rfl) ?_
  refine lv_if_ne (tgt := 15) hx hb (dkS dF_154 DX12_leads (i := 6) rfl rfl rfl) (by decide) (fun c1 => ?_) (fun c1 => ?_)
  · skip
    refine lv_iconst (v := 0) hx hb (dkP dF_3 DX12_leads (i := 9) rfl rfl) (by decide) ?_
    refine lv_istore_n (lv' := [(2, .int 0), (0, .ref (ad 0)), (1, .int (nI k))]) hx hb (dkP dF_61 DX12_leads (i := 10) rfl rfl) rfl hl (by decide) rfl (fun ls hl => ?_)
    refine lv_iload_n hx hb (dkP dF_28 DX12_leads (i := 11) rfl rfl) rfl (lv_at hl 0 rfl) ?_
    refine lv_if_eq (tgt := 52) hx hb (dkS dF_153 DX12_leads (i := 12) rfl rfl rfl) (by decide) (fun _ => ?_) (fun h => absurd h (by decide))
    refine lv_aload_n hx hb (dkP dF_42 DX12_leads (i := 34) rfl rfl) rfl (lv_at hl 1 rfl) ?_
    refine z_gr C0 hw 0 1 1 rfl fl_X12_20 (dk2 dF_180 DX12_leads (i := 35) rfl rfl rfl) ?_
    refine lv_iload_n hx hb (dkP dF_27 DX12_leads (i := 36) rfl rfl) rfl (lv_at hl 2 rfl) ?_
    refine lv_aload_n hx hb (dkP dF_42 DX12_leads (i := 37) rfl rfl) rfl (lv_at hl 1 rfl) ?_
    refine z_gr C0 hw 0 1 1 rfl fl_X12_20 (dk2 dF_180 DX12_leads (i := 38) rfl rfl rfl) ?_
    refine lv_iload_n hx hb (dkP dF_27 DX12_leads (i := 39) rfl rfl) rfl (lv_at hl 2 rfl) ?_
    refine lv_iconst (v := 1) hx hb (dkP dF_4 DX12_leads (i := 40) rfl rfl) (by decide) ?_
    refine lv_iadd hx hb (dkP dF_96 DX12_leads (i := 41) rfl rfl) ?_
    refine z_top (y := nI (k + 1)) (by simp only [fa_lit, nI_add, pk_mul]) ?_
    refine z_ialdN (n := 414128) C0 hw 1 (k + 1) rfl (by omega) (by decide) (dkP dF_46 DX12_leads (i := 42) rfl rfl) ?_
    refine lv_aload_n hx hb (dkP dF_42 DX12_leads (i := 43) rfl rfl) rfl (lv_at hl 1 rfl) ?_
    refine z_gr C0 hw 0 1 1 rfl fl_X12_20 (dk2 dF_180 DX12_leads (i := 44) rfl rfl rfl) ?_
    refine lv_iconst (v := 4) hx hb (dkP dF_7 DX12_leads (i := 45) rfl rfl) (by decide) ?_
    refine z_ialdN (n := 414128) C0 hw 1 4 rfl (by omega) (by decide) (dkP dF_46 DX12_leads (i := 46) rfl rfl) ?_
    refine lv_isub hx hb (dkP dF_100 DX12_leads (i := 47) rfl rfl) ?_
    refine lv_aload_n hx hb (dkP dF_42 DX12_leads (i := 48) rfl rfl) rfl (lv_at hl 1 rfl) ?_
    refine z_gr C0 hw 0 1 1 rfl fl_X12_20 (dk2 dF_180 DX12_leads (i := 49) rfl rfl rfl) ?_
    refine lv_iconst (v := 3) hx hb (dkP dF_6 DX12_leads (i := 50) rfl rfl) (by decide) ?_
    refine z_ialdN (n := 414128) C0 hw 1 3 rfl (by omega) (by decide) (dkP dF_46 DX12_leads (i := 51) rfl rfl) ?_
    refine zn_I hw (zr_S (As := [.int ((σ.1 1 (k + 1)) - (σ.1 1 4)), .int (σ.1 1 3)]) (rest := [.int (nI k), .ref (ad 1)]) C0 (c_J9_floorDiv_7cf53 l G kc ((σ.1 1 (k + 1)) - (σ.1 1 4)) (σ.1 1 3) (by first | exact hm | (simp only [sI, u2]; rw [if_neg (by omega)]; exact hm)) _) cs_J9_floorDiv_7cf53 lk_X12_481 (zp_P C0 a00 s00) rfl hl.1 rfl ⟨by decide, by decide⟩ (Nat.le_of_ble_eq_true rfl) (dk2 dF_184 DX12_leads (i := 52) rfl rfl rfl) ⟨Nat.le_refl _, Nat.le_refl _⟩) (fun r2 s2 H locs hp hw => ?_)
    subst hp
    refine z_iastN (n := 414128) C0 hw 1 k rfl (by omega) (by decide) (dkP dF_79 DX12_leads (i := 53) rfl rfl) (fun H locs hw => ?_)
    refine lv_aload_n hx hb (dkP dF_42 DX12_leads (i := 54) rfl rfl) rfl (lv_at hl 1 rfl) ?_
    refine z_gr C0 hw 0 1 1 rfl fl_X12_20 (dk2 dF_180 DX12_leads (i := 55) rfl rfl rfl) ?_
    refine lv_iload_n hx hb (dkP dF_27 DX12_leads (i := 56) rfl rfl) rfl (lv_at hl 2 rfl) ?_
    refine lv_iconst (v := 4) hx hb (dkP dF_7 DX12_leads (i := 57) rfl rfl) (by decide) ?_
    refine lv_iadd hx hb (dkP dF_96 DX12_leads (i := 58) rfl rfl) ?_
    refine z_top (y := nI (k + 4)) (by simp only [fa_lit, nI_add, pk_mul]) ?_
    refine lv_iload_n hx hb (dkP dF_28 DX12_leads (i := 59) rfl rfl) rfl (lv_at hl 0 rfl) ?_
    refine lv_if_eq (tgt := 97) hx hb (dkS dF_153 DX12_leads (i := 60) rfl rfl rfl) (by decide) (fun _ => ?_) (fun h => absurd h (by decide))
    refine lv_aload_n hx hb (dkP dF_42 DX12_leads (i := 63) rfl rfl) rfl (lv_at hl 1 rfl) ?_
    refine z_gr C0 hw 0 1 1 rfl fl_X12_20 (dk2 dF_180 DX12_leads (i := 64) rfl rfl rfl) ?_
    refine lv_iload_n hx hb (dkP dF_27 DX12_leads (i := 65) rfl rfl) rfl (lv_at hl 2 rfl) ?_
    refine lv_iconst (v := 1) hx hb (dkP dF_4 DX12_leads (i := 66) rfl rfl) (by decide) ?_
    refine lv_iadd hx hb (dkP dF_96 DX12_leads (i := 67) rfl rfl) ?_
    refine z_top (y := nI (k + 1)) (by simp only [fa_lit, nI_add, pk_mul]) ?_
    refine z_ialdN (n := 414128) C0 hw 1 (k + 1) rfl (by omega) (by decide) (dkP dF_46 DX12_leads (i := 68) rfl rfl) ?_
    refine lv_aload_n hx hb (dkP dF_42 DX12_leads (i := 69) rfl rfl) rfl (lv_at hl 1 rfl) ?_
    refine z_gr C0 hw 0 1 1 rfl fl_X12_20 (dk2 dF_180 DX12_leads (i := 70) rfl rfl rfl) ?_
    refine lv_iconst (v := 4) hx hb (dkP dF_7 DX12_leads (i := 71) rfl rfl) (by decide) ?_
    refine z_ialdN (n := 414128) C0 hw 1 4 rfl (by omega) (by decide) (dkP dF_46 DX12_leads (i := 72) rfl rfl) ?_
    refine lv_isub hx hb (dkP dF_100 DX12_leads (i := 73) rfl rfl) ?_
    refine lv_aload_n hx hb (dkP dF_42 DX12_leads (i := 74) rfl rfl) rfl (lv_at hl 1 rfl) ?_
    refine z_gr C0 hw 0 1 1 rfl fl_X12_20 (dk2 dF_180 DX12_leads (i := 75) rfl rfl rfl) ?_
    refine lv_iconst (v := 3) hx hb (dkP dF_6 DX12_leads (i := 76) rfl rfl) (by decide) ?_
    refine z_ialdN (n := 414128) C0 hw 1 3 rfl (by omega) (by decide) (dkP dF_46 DX12_leads (i := 77) rfl rfl) ?_
    refine zn_I hw (zr_S (As := [.int (((sI σ 1 k (fdv ((σ.1 1 (k + 1)) - (σ.1 1 4)) (σ.1 1 3))).1 1 (k + 1)) - ((sI σ 1 k (fdv ((σ.1 1 (k + 1)) - (σ.1 1 4)) (σ.1 1 3))).1 1 4)), .int ((sI σ 1 k (fdv ((σ.1 1 (k + 1)) - (σ.1 1 4)) (σ.1 1 3))).1 1 3)]) (rest := [.int (nI (k + 4)), .ref (ad 1)]) C0 (c_J9_floorMod_7cf53 l G kc (((sI σ 1 k (fdv ((σ.1 1 (k + 1)) - (σ.1 1 4)) (σ.1 1 3))).1 1 (k + 1)) - ((sI σ 1 k (fdv ((σ.1 1 (k + 1)) - (σ.1 1 4)) (σ.1 1 3))).1 1 4)) ((sI σ 1 k (fdv ((σ.1 1 (k + 1)) - (σ.1 1 4)) (σ.1 1 3))).1 1 3) (by first | exact hm | (simp only [sI, u2]; rw [if_neg (by omega)]; exact hm)) _) cs_J9_floorMod_7cf53 lk_X12_484 (zp_P C0 a00 s00) rfl hl.1 rfl ⟨by decide, by decide⟩ (Nat.le_of_ble_eq_true rfl) (dk2 dF_184 DX12_leads (i := 78) rfl rfl rfl) ⟨Nat.le_refl _, Nat.le_refl _⟩) (fun r3 s3 H locs hp hw => ?_)
    subst hp
    refine z_iastN (n := 414128) C0 hw 1 (k + 4) rfl (by omega) (by decide) (dkP dF_79 DX12_leads (i := 79) rfl rfl) (fun H locs hw => ?_)
    refine lv_aload_n hx hb (dkP dF_42 DX12_leads (i := 80) rfl rfl) rfl (lv_at hl 1 rfl) ?_
    refine z_gr C0 hw 0 1 1 rfl fl_X12_20 (dk2 dF_180 DX12_leads (i := 81) rfl rfl rfl) ?_
    refine lv_iload_n hx hb (dkP dF_27 DX12_leads (i := 82) rfl rfl) rfl (lv_at hl 2 rfl) ?_
    refine lv_iconst (v := 3) hx hb (dkP dF_6 DX12_leads (i := 83) rfl rfl) (by decide) ?_
    refine lv_iadd hx hb (dkP dF_96 DX12_leads (i := 84) rfl rfl) ?_
    refine z_top (y := nI (k + 3)) (by simp only [fa_lit, nI_add, pk_mul]) ?_
    refine lv_iconst (v := 0) hx hb (dkP dF_3 DX12_leads (i := 85) rfl rfl) (by decide) ?_
    refine z_iastN (n := 414128) C0 hw 1 (k + 3) rfl (by omega) (by decide) (dkP dF_79 DX12_leads (i := 86) rfl rfl) (fun H locs hw => ?_)
    refine lv_iload_n hx hb (dkP dF_28 DX12_leads (i := 87) rfl rfl) rfl (lv_at hl 0 rfl) ?_
    refine lv_if_eq (tgt := 146) hx hb (dkS dF_153 DX12_leads (i := 88) rfl rfl rfl) (by decide) (fun _ => ?_) (fun h => absurd h (by decide))
    refine lv_aload_n hx hb (dkP dF_42 DX12_leads (i := 96) rfl rfl) rfl (lv_at hl 1 rfl) ?_
    refine z_gr C0 hw 0 1 1 rfl fl_X12_20 (dk2 dF_180 DX12_leads (i := 97) rfl rfl rfl) ?_
    refine lv_iload_n hx hb (dkP dF_27 DX12_leads (i := 98) rfl rfl) rfl (lv_at hl 2 rfl) ?_
    refine z_ialdN (n := 414128) C0 hw 1 k rfl (by omega) (by decide) (dkP dF_46 DX12_leads (i := 99) rfl rfl) ?_
    exact z_iret C0 hr hlk hw (fun j hj => by simp only [sI, u2]; (repeat rw [if_neg (by omega)])) (dkP dF_172 DX12_leads (i := 100) rfl rfl)
  · skip
    refine lv_iconst (v := 1) hx hb (dkP dF_4 DX12_leads (i := 7) rfl rfl) (by decide) ?_
    refine lv_goto (tgt := 16) hx hb (dkS dF_167 DX12_leads (i := 8) rfl rfl rfl) (by decide) ?_
    refine lv_istore_n (lv' := [(2, .int 1), (0, .ref (ad 0)), (1, .int (nI k))]) hx hb (dkP dF_61 DX12_leads (i := 10) rfl rfl) rfl hl (by decide) rfl (fun ls hl => ?_)
    refine lv_iload_n hx hb (dkP dF_28 DX12_leads (i := 11) rfl rfl) rfl (lv_at hl 0 rfl) ?_
    refine lv_if_eq (tgt := 52) hx hb (dkS dF_153 DX12_leads (i := 12) rfl rfl rfl) (by decide) (fun h => absurd h (by decide)) (fun _ => ?_)
    refine lv_aload_n hx hb (dkP dF_42 DX12_leads (i := 13) rfl rfl) rfl (lv_at hl 1 rfl) ?_
    refine z_gr C0 hw 0 1 1 rfl fl_X12_20 (dk2 dF_180 DX12_leads (i := 14) rfl rfl rfl) ?_
    refine lv_iload_n hx hb (dkP dF_27 DX12_leads (i := 15) rfl rfl) rfl (lv_at hl 2 rfl) ?_
    refine lv_iconst (v := 1) hx hb (dkP dF_4 DX12_leads (i := 16) rfl rfl) (by decide) ?_
    refine lv_iadd hx hb (dkP dF_96 DX12_leads (i := 17) rfl rfl) ?_
    refine z_top (y := nI (k + 1)) (by simp only [fa_lit, nI_add, pk_mul]) ?_
    refine lv_aload_n hx hb (dkP dF_42 DX12_leads (i := 18) rfl rfl) rfl (lv_at hl 1 rfl) ?_
    refine z_gr C0 hw 0 1 1 rfl fl_X12_20 (dk2 dF_180 DX12_leads (i := 19) rfl rfl rfl) ?_
    refine lv_iconst (v := 3) hx hb (dkP dF_6 DX12_leads (i := 20) rfl rfl) (by decide) ?_
    refine z_ialdN (n := 414128) C0 hw 1 3 rfl (by omega) (by decide) (dkP dF_46 DX12_leads (i := 21) rfl rfl) ?_
    refine lv_aload_n hx hb (dkP dF_42 DX12_leads (i := 22) rfl rfl) rfl (lv_at hl 1 rfl) ?_
    refine z_gr C0 hw 0 1 1 rfl fl_X12_20 (dk2 dF_180 DX12_leads (i := 23) rfl rfl rfl) ?_
    refine lv_iload_n hx hb (dkP dF_27 DX12_leads (i := 24) rfl rfl) rfl (lv_at hl 2 rfl) ?_
    refine z_ialdN (n := 414128) C0 hw 1 k rfl (by omega) (by decide) (dkP dF_46 DX12_leads (i := 25) rfl rfl) ?_
    refine lv_imul hx hb (dkP dF_104 DX12_leads (i := 26) rfl rfl) ?_
    refine lv_aload_n hx hb (dkP dF_42 DX12_leads (i := 27) rfl rfl) rfl (lv_at hl 1 rfl) ?_
    refine z_gr C0 hw 0 1 1 rfl fl_X12_20 (dk2 dF_180 DX12_leads (i := 28) rfl rfl rfl) ?_
    refine lv_iconst (v := 4) hx hb (dkP dF_7 DX12_leads (i := 29) rfl rfl) (by decide) ?_
    refine z_ialdN (n := 414128) C0 hw 1 4 rfl (by omega) (by decide) (dkP dF_46 DX12_leads (i := 30) rfl rfl) ?_
    refine lv_iadd hx hb (dkP dF_96 DX12_leads (i := 31) rfl rfl) ?_
    refine z_iastN (n := 414128) C0 hw 1 (k + 1) rfl (by omega) (by decide) (dkP dF_79 DX12_leads (i := 32) rfl rfl) (fun H locs hw => ?_)
    refine lv_goto (tgt := 82) hx hb (dkS dF_167 DX12_leads (i := 33) rfl rfl rfl) (by decide) ?_
    refine lv_aload_n hx hb (dkP dF_42 DX12_leads (i := 54) rfl rfl) rfl (lv_at hl 1 rfl) ?_
    refine z_gr C0 hw 0 1 1 rfl fl_X12_20 (dk2 dF_180 DX12_leads (i := 55) rfl rfl rfl) ?_
    refine lv_iload_n hx hb (dkP dF_27 DX12_leads (i := 56) rfl rfl) rfl (lv_at hl 2 rfl) ?_
    refine lv_iconst (v := 4) hx hb (dkP dF_7 DX12_leads (i := 57) rfl rfl) (by decide) ?_
    refine lv_iadd hx hb (dkP dF_96 DX12_leads (i := 58) rfl rfl) ?_
    refine z_top (y := nI (k + 4)) (by simp only [fa_lit, nI_add, pk_mul]) ?_
    refine lv_iload_n hx hb (dkP dF_28 DX12_leads (i := 59) rfl rfl) rfl (lv_at hl 0 rfl) ?_
    refine lv_if_eq (tgt := 97) hx hb (dkS dF_153 DX12_leads (i := 60) rfl rfl rfl) (by decide) (fun h => absurd h (by decide)) (fun _ => ?_)
    refine lv_iconst (v := 0) hx hb (dkP dF_3 DX12_leads (i := 61) rfl rfl) (by decide) ?_
    refine lv_goto (tgt := 121) hx hb (dkS dF_167 DX12_leads (i := 62) rfl rfl rfl) (by decide) ?_
    refine z_iastN (n := 414128) C0 hw 1 (k + 4) rfl (by omega) (by decide) (dkP dF_79 DX12_leads (i := 79) rfl rfl) (fun H locs hw => ?_)
    refine lv_aload_n hx hb (dkP dF_42 DX12_leads (i := 80) rfl rfl) rfl (lv_at hl 1 rfl) ?_
    refine z_gr C0 hw 0 1 1 rfl fl_X12_20 (dk2 dF_180 DX12_leads (i := 81) rfl rfl rfl) ?_
    refine lv_iload_n hx hb (dkP dF_27 DX12_leads (i := 82) rfl rfl) rfl (lv_at hl 2 rfl) ?_
    refine lv_iconst (v := 3) hx hb (dkP dF_6 DX12_leads (i := 83) rfl rfl) (by decide) ?_
    refine lv_iadd hx hb (dkP dF_96 DX12_leads (i := 84) rfl rfl) ?_
    refine z_top (y := nI (k + 3)) (by simp only [fa_lit, nI_add, pk_mul]) ?_
    refine lv_iconst (v := 0) hx hb (dkP dF_3 DX12_leads (i := 85) rfl rfl) (by decide) ?_
    refine z_iastN (n := 414128) C0 hw 1 (k + 3) rfl (by omega) (by decide) (dkP dF_79 DX12_leads (i := 86) rfl rfl) (fun H locs hw => ?_)
    refine lv_iload_n hx hb (dkP dF_28 DX12_leads (i := 87) rfl rfl) rfl (lv_at hl 0 rfl) ?_
    refine lv_if_eq (tgt := 146) hx hb (dkS dF_153 DX12_leads (i := 88) rfl rfl rfl) (by decide) (fun h => absurd h (by decide)) (fun _ => ?_)
    refine lv_aload_n hx hb (dkP dF_42 DX12_leads (i := 89) rfl rfl) rfl (lv_at hl 1 rfl) ?_
    refine z_gr C0 hw 0 1 1 rfl fl_X12_20 (dk2 dF_180 DX12_leads (i := 90) rfl rfl rfl) ?_
    refine lv_iload_n hx hb (dkP dF_27 DX12_leads (i := 91) rfl rfl) rfl (lv_at hl 2 rfl) ?_
    refine lv_iconst (v := 1) hx hb (dkP dF_4 DX12_leads (i := 92) rfl rfl) (by decide) ?_
    refine lv_iadd hx hb (dkP dF_96 DX12_leads (i := 93) rfl rfl) ?_
    refine z_top (y := nI (k + 1)) (by simp only [fa_lit, nI_add, pk_mul]) ?_
    refine z_ialdN (n := 414128) C0 hw 1 (k + 1) rfl (by omega) (by decide) (dkP dF_46 DX12_leads (i := 94) rfl rfl) ?_
    refine lv_goto (tgt := 152) hx hb (dkS dF_167 DX12_leads (i := 95) rfl rfl rfl) (by decide) ?_
    exact z_iret C0 hr hlk hw (fun j hj => by simp only [sI, u2]; (repeat rw [if_neg (by omega)])) (dkP dF_172 DX12_leads (i := 100) rfl rfl)
set_option maxRecDepth 100000 in
set_option maxHeartbeats 4000000 in
theorem c_X12_lead (l : Launch) (G : va_G) (kc : Nat → ClassId) (ad : Nat → Nat)  (i : Int32)  : MI l G kc yX12_lead cX12_lead 2 (some .int) 2 45 [.ref (ad 0), .int i] shM ad sM0 (fun r σ1 => r = if 0 ≤ i.toInt ∧ i.toInt ≤ 19 then 0 else -2000000000) := by
  intro sz
  refine z_body (y := yX12_lead) (n := 2) (av := [.ref (ad 0), .int i]) (Qc := fun A => va_Qi (fun r σ1 => r = if 0 ≤ i.toInt ∧ i.toInt ≤ 19 then 0 else -2000000000) (PoC G kc shM ad A) A) (plainFor_of_name (by decide)) (Nat.le_of_ble_eq_true rfl) (fun pr e s m below meth c A C0 hr hlk hnm hw ls hl => ?_) sz
  have hx := C0.1
  have hb := C0.2.1
  have hown := C0.2.2.2.1
  have hts := C0.2.2.2.2.1
  have hl : lv_has ls 2 [(0, .ref (ad 0)), (1, .int i)] := hl
  refine lv_iload_n hx hb (dkP dF_27 DX12_lead (i := 0) rfl rfl) rfl (lv_at hl 1 rfl) ?_
  refine zn_I hw (zr_S (As := [.int i]) (rest := []) C0 (c_X12_isRow l G kc i  _) cs_X12_isRow lk_X12_495 (zp_P C0 a00 s00) rfl hl.1 rfl ⟨by decide, by decide⟩ (Nat.le_of_ble_eq_true rfl) (dk2 dF_184 DX12_lead (i := 1) rfl rfl rfl) ⟨Nat.le_refl _, Nat.le_refl _⟩) (fun r1 s1 H locs hp hw => ?_)
  rcases hp with ⟨rfl, hc1⟩ | ⟨rfl, hc1⟩
  · skip
    obtain ⟨k_i, hk_i, rfl⟩ := to_nat (x := i) (n := 20) (by (try simp only [lg_cmp_lt, lg_cmp_le, lg_cmp_gt, lg_cmp_ge, lg_cmp_eq] at hc1); (try simp (disch := omega) only [ta_lt, ta_le, ta_eq, tb_lt, tb_le, tb_eq, tw, tnI, tn32 1 (by decide), tnj 1 (by decide), tl32 0 (by decide), tl64 0 (by decide)] at hc1); (try simp (disch := omega) only [ta_lt, ta_le, ta_eq, tb_lt, tb_le, tb_eq, tw, tnI, tn32 1 (by decide), tnj 1 (by decide), tl32 0 (by decide), tl64 0 (by decide)]); omega)
    refine lv_if_eq (tgt := 18) hx hb (dkS dF_153 DX12_lead (i := 2) rfl rfl rfl) (by decide) (fun h => absurd h (by decide)) (fun _ => ?_)
    refine lv_aload_n hx hb (dkP dF_42 DX12_lead (i := 3) rfl rfl) rfl (lv_at hl 0 rfl) ?_
    refine lv_iload_n hx hb (dkP dF_27 DX12_lead (i := 4) rfl rfl) rfl (lv_at hl 1 rfl) ?_
    refine zn_I hw (zr_S (As := [.int (nI k_i)]) (rest := [.ref (ad 0)]) C0 (c_X12_rowAt l G kc k_i  _) cs_X12_rowAt lk_X12_489 (zp_P C0 a00 s00) rfl hl.1 rfl ⟨by decide, by decide⟩ (Nat.le_of_ble_eq_true rfl) (dk2 dF_184 DX12_lead (i := 5) rfl rfl rfl) ⟨Nat.le_refl _, Nat.le_refl _⟩) (fun r2 s2 H locs hp hw => ?_)
    subst hp
    refine zk_I hw (zr_V (As := [.int (nI (414028 + 5 * k_i))]) (rest := []) C0 (c_X12_leads l G kc ad (414028 + 5 * k_i) (by first | omega | assumption | decide | rfl) (by first | omega | assumption | decide | rfl) _) cv_X12_leads lk_X12_492 (zp_V C0 hw 0 rfl rfl rfl) rfl hl.1 rfl ⟨by decide, by decide⟩ (Nat.le_of_ble_eq_true rfl) (dk2 dF_182 DX12_lead (i := 6) rfl rfl rfl) ⟨Nat.le_refl _, Nat.le_refl _⟩) (fun r3 s3 H locs hp hw => ?_)
    obtain ⟨rfl, hs3⟩ := hp
    refine lv_goto (tgt := 21) hx hb (dkS dF_167 DX12_lead (i := 7) rfl rfl rfl) (by decide) ?_
    exact z_iret C0 hr hlk hw (by first | rfl | ((try simp only [lg_cmp_lt, lg_cmp_le, lg_cmp_gt, lg_cmp_ge, lg_cmp_eq] at hc1); (try simp (disch := omega) only [ta_lt, ta_le, ta_eq, tb_lt, tb_le, tb_eq, tw, tnI, tn32 1 (by decide), tnj 1 (by decide), tl32 0 (by decide), tl64 0 (by decide)] at hc1); (try simp only [lg_cmp_lt, lg_cmp_le, lg_cmp_gt, lg_cmp_ge, lg_cmp_eq] at hk_i); (try simp (disch := omega) only [ta_lt, ta_le, ta_eq, tb_lt, tb_le, tb_eq, tw, tnI, tn32 1 (by decide), tnj 1 (by decide), tl32 0 (by decide), tl64 0 (by decide)] at hk_i); (try simp (disch := omega) only [tnI, tn32 1 (by decide), tnj 1 (by decide), tl32 0 (by decide), tl64 0 (by decide)]); (repeat' split) <;> first | rfl | omega | (apply Int32.toInt_inj.mp; simp (disch := omega) only [tnI, tn32 1 (by decide), tnj 1 (by decide), tl32 0 (by decide), tl64 0 (by decide)]; omega))) (dkP dF_172 DX12_lead (i := 9) rfl rfl)
  · skip
    refine lv_if_eq (tgt := 18) hx hb (dkS dF_153 DX12_lead (i := 2) rfl rfl rfl) (by decide) (fun _ => ?_) (fun h => absurd h (by decide))
    refine lv_ldcw hx hb hown (hts _ kn_X12_413) (dk2 dF_19 DX12_lead (i := 8) rfl rfl rfl) ?_
    exact z_iret C0 hr hlk hw (by first | rfl | ((try simp only [lg_cmp_lt, lg_cmp_le, lg_cmp_gt, lg_cmp_ge, lg_cmp_eq] at hc1); (try simp (disch := omega) only [ta_lt, ta_le, ta_eq, tb_lt, tb_le, tb_eq, tw, tnI, tn32 2000000000 (by decide), tnj 2000000000 (by decide), tn32 1 (by decide), tnj 1 (by decide), tl32 0 (by decide), tl64 0 (by decide)] at hc1); (try simp (disch := omega) only [tnI, tn32 2000000000 (by decide), tnj 2000000000 (by decide), tn32 1 (by decide), tnj 1 (by decide), tl32 0 (by decide), tl64 0 (by decide)]); (repeat' split) <;> first | rfl | omega | (apply Int32.toInt_inj.mp; simp (disch := omega) only [tnI, tn32 2000000000 (by decide), tnj 2000000000 (by decide), tn32 1 (by decide), tnj 1 (by decide), tl32 0 (by decide), tl64 0 (by decide)]; omega))) (dkP dF_172 DX12_lead (i := 9) rfl rfl)
set_option maxRecDepth 100000 in
set_option maxHeartbeats 4000000 in
theorem c_X12_form (l : Launch) (G : va_G) (kc : Nat → ClassId) (ad : Nat → Nat)  (m2 : Int32) (k2 : Int32)  : MI l G kc yX12_form cX12_form 4 (some .int) 2 44 [.ref (ad 0), .int m2, .int k2] shM ad sM0 (fun r σ1 => r = if 1 ≤ m2.toInt ∧ m2.toInt ≤ 9 ∧ -99 ≤ k2.toInt ∧ k2.toInt ≤ 99 then 0 else -2) := by
  intro sz
  refine z_body (y := yX12_form) (n := 4) (av := [.ref (ad 0), .int m2, .int k2]) (Qc := fun A => va_Qi (fun r σ1 => r = if 1 ≤ m2.toInt ∧ m2.toInt ≤ 9 ∧ -99 ≤ k2.toInt ∧ k2.toInt ≤ 99 then 0 else -2) (PoC G kc shM ad A) A) (plainFor_of_name (by decide)) (Nat.le_of_ble_eq_true rfl) (fun pr e s m below meth c A C0 hr hlk hnm hw ls hl => ?_) sz
  have hx := C0.1
  have hb := C0.2.1
  have hown := C0.2.2.2.1
  have hts := C0.2.2.2.2.1
  have hl : lv_has ls 4 [(0, .ref (ad 0)), (1, .int m2), (2, .int k2)] := hl
  refine lv_iload_n hx hb (dkP dF_27 DX12_form (i := 0) rfl rfl) rfl (lv_at hl 1 rfl) ?_
  refine lv_i2l hx hb (dkP dF_133 DX12_form (i := 1) rfl rfl) rfl ?_
  refine lv_lconst (v := 1) hx hb (dkP dF_10 DX12_form (i := 2) rfl rfl) (by decide) ?_
  refine lv_ldc2 hx hb hown (hts _ kn_X12_487) (dk2 dF_20 DX12_form (i := 3) rfl rfl rfl) ?_
  refine zn_I hw (zr_S (As := [.long m2.toInt64, .long 1, .long 9]) (rest := []) C0 (c_X12_in l G kc m2.toInt64 1 9  _) cs_X12_in lk_X12_9 (zp_P C0 a00 s00) rfl hl.1 rfl ⟨by decide, by decide⟩ (Nat.le_of_ble_eq_true rfl) (dk2 dF_184 DX12_form (i := 4) rfl rfl rfl) ⟨Nat.le_refl _, Nat.le_refl _⟩) (fun r1 s1 H locs hp hw => ?_)
  rcases hp with ⟨rfl, hc1⟩ | ⟨rfl, hc1⟩
  · skip
    refine lv_if_eq (tgt := 26) hx hb (dkS dF_153 DX12_form (i := 5) rfl rfl rfl) (by decide) (fun h => absurd h (by decide)) (fun _ => ?_)
    refine lv_iload_n hx hb (dkP dF_28 DX12_form (i := 6) rfl rfl) rfl (lv_at hl 2 rfl) ?_
    refine lv_i2l hx hb (dkP dF_133 DX12_form (i := 7) rfl rfl) rfl ?_
    refine lv_ldc2 hx hb hown (hts _ kn_X12_335) (dk2 dF_20 DX12_form (i := 8) rfl rfl rfl) ?_
    refine lv_ldc2 hx hb hown (hts _ kn_X12_337) (dk2 dF_20 DX12_form (i := 9) rfl rfl rfl) ?_
    refine zn_I hw (zr_S (As := [.long k2.toInt64, .long (-99), .long 99]) (rest := []) C0 (c_X12_in l G kc k2.toInt64 (-99) 99  _) cs_X12_in lk_X12_9 (zp_P C0 a00 s00) rfl hl.1 rfl ⟨by decide, by decide⟩ (Nat.le_of_ble_eq_true rfl) (dk2 dF_184 DX12_form (i := 10) rfl rfl rfl) ⟨Nat.le_refl _, Nat.le_refl _⟩) (fun r2 s2 H locs hp hw => ?_)
    rcases hp with ⟨rfl, hc2⟩ | ⟨rfl, hc2⟩
    · skip
      refine lv_if_ne (tgt := 29) hx hb (dkS dF_154 DX12_form (i := 11) rfl rfl rfl) (by decide) (fun _ => ?_) (fun h => absurd h (by decide))
      refine lv_aload_n hx hb (dkP dF_42 DX12_form (i := 14) rfl rfl) rfl (lv_at hl 0 rfl) ?_
      refine z_gr C0 hw 0 1 1 rfl fl_X12_20 (dk2 dF_180 DX12_form (i := 15) rfl rfl rfl) ?_
      refine lv_iconst (v := 3) hx hb (dkP dF_6 DX12_form (i := 16) rfl rfl) (by decide) ?_
      refine lv_iload_n hx hb (dkP dF_27 DX12_form (i := 17) rfl rfl) rfl (lv_at hl 1 rfl) ?_
      refine z_iastN (n := 414128) C0 hw 1 3 rfl (by omega) (by decide) (dkP dF_79 DX12_form (i := 18) rfl rfl) (fun H locs hw => ?_)
      refine lv_aload_n hx hb (dkP dF_42 DX12_form (i := 19) rfl rfl) rfl (lv_at hl 0 rfl) ?_
      refine z_gr C0 hw 0 1 1 rfl fl_X12_20 (dk2 dF_180 DX12_form (i := 20) rfl rfl rfl) ?_
      refine lv_iconst (v := 4) hx hb (dkP dF_7 DX12_form (i := 21) rfl rfl) (by decide) ?_
      refine lv_iload_n hx hb (dkP dF_28 DX12_form (i := 22) rfl rfl) rfl (lv_at hl 2 rfl) ?_
      refine z_iastN (n := 414128) C0 hw 1 4 rfl (by omega) (by decide) (dkP dF_79 DX12_form (i := 23) rfl rfl) (fun H locs hw => ?_)
      refine lv_iconst (v := 0) hx hb (dkP dF_3 DX12_form (i := 24) rfl rfl) (by decide) ?_
      refine lv_istore_n (lv' := [(3, .int 0), (0, .ref (ad 0)), (1, .int m2), (2, .int k2)]) hx hb (dkP dF_62 DX12_form (i := 25) rfl rfl) rfl hl (by decide) rfl (fun ls hl => ?_)
      have lp3 : ∀ (n : Nat) (i : Nat) (τ : Sg) (H : Heap) (locs : List Loc) (ls : Array Slot), 20 - i < n → (i ≤ 20) → (¬ τ.1 1 3 = 0) → St G kc A s.heap shM ad τ H locs → lv_has ls 4 [(3, .int (nI i)), (0, .ref (ad 0)), (1, .int m2), (2, .int k2)] → W pr l e { frames := 2, cells := 0, slots := 0, locals := 44 } s m ([.ref (ad 0), .int m2, .int k2] : List Value).toArray below meth c H locs 0 0 (MQ below (va_Qi (fun r σ1 => r = if 1 ≤ m2.toInt ∧ m2.toInt ≤ 9 ∧ -99 ≤ k2.toInt ∧ k2.toInt ≤ 99 then 0 else -2) (PoC G kc shM ad A) A) ([.ref (ad 0), .int m2, .int k2] : List Value).toArray s 0 0 A) (F0 m 45 ls []) := by
        intro n
        induction n with
        | zero => intro i τ H locs ls hmu; exact absurd hmu (Nat.not_lt_zero _)
        | succ n ih3 =>
          intro i τ H locs ls hmu hi hτ hw hl
          refine lv_iload_n hx hb (dkP dF_29 DX12_form (i := 26) rfl rfl) rfl (lv_at hl 0 rfl) ?_
          refine lv_bipush (v := 20) hx hb (dks dF_16 DX12_form (i := 27) rfl rfl rfl) (by decide) ?_
          refine lv_icmp_ge (tgt := 66) hx hb (dkS dF_162 DX12_form (i := 28) rfl rfl rfl) (by decide) (fun c4 => ?_) (fun c4 => ?_)
          · simp (disch := omega) only [ta_lt, ta_le, ta_eq, tnI, tl32 20 (by decide)] at c4
            refine lv_iconst (v := 0) hx hb (dkP dF_3 DX12_form (i := 36) rfl rfl) (by decide) ?_
            exact z_iret C0 hr hlk hw (by first | rfl | ((try simp only [lg_cmp_lt, lg_cmp_le, lg_cmp_gt, lg_cmp_ge, lg_cmp_eq] at hc1); (try simp (disch := omega) only [ta_lt, ta_le, ta_eq, tb_lt, tb_le, tb_eq, tw, tnI, tn32 99 (by decide), tnj 99 (by decide), tn32 1 (by decide), tnj 1 (by decide), tl32 0 (by decide), tl64 0 (by decide), tl32 1 (by decide), tl64 1 (by decide), tl32 3 (by decide), tl64 3 (by decide), tl32 4 (by decide), tl64 4 (by decide), tl32 9 (by decide), tl64 9 (by decide), tl32 20 (by decide), tl64 20 (by decide), tl32 99 (by decide), tl64 99 (by decide)] at hc1); (try simp only [lg_cmp_lt, lg_cmp_le, lg_cmp_gt, lg_cmp_ge, lg_cmp_eq] at hc2); (try simp (disch := omega) only [ta_lt, ta_le, ta_eq, tb_lt, tb_le, tb_eq, tw, tnI, tn32 99 (by decide), tnj 99 (by decide), tn32 1 (by decide), tnj 1 (by decide), tl32 0 (by decide), tl64 0 (by decide), tl32 1 (by decide), tl64 1 (by decide), tl32 3 (by decide), tl64 3 (by decide), tl32 4 (by decide), tl64 4 (by decide), tl32 9 (by decide), tl64 9 (by decide), tl32 20 (by decide), tl64 20 (by decide), tl32 99 (by decide), tl64 99 (by decide)] at hc2); (try simp only [lg_cmp_lt, lg_cmp_le, lg_cmp_gt, lg_cmp_ge, lg_cmp_eq] at c4); (try simp (disch := omega) only [ta_lt, ta_le, ta_eq, tb_lt, tb_le, tb_eq, tw, tnI, tn32 99 (by decide), tnj 99 (by decide), tn32 1 (by decide), tnj 1 (by decide), tl32 0 (by decide), tl64 0 (by decide), tl32 1 (by decide), tl64 1 (by decide), tl32 3 (by decide), tl64 3 (by decide), tl32 4 (by decide), tl64 4 (by decide), tl32 9 (by decide), tl64 9 (by decide), tl32 20 (by decide), tl64 20 (by decide), tl32 99 (by decide), tl64 99 (by decide)] at c4); (try simp (disch := omega) only [tnI, tn32 99 (by decide), tnj 99 (by decide), tn32 1 (by decide), tnj 1 (by decide), tl32 0 (by decide), tl64 0 (by decide), tl32 1 (by decide), tl64 1 (by decide), tl32 3 (by decide), tl64 3 (by decide), tl32 4 (by decide), tl64 4 (by decide), tl32 9 (by decide), tl64 9 (by decide), tl32 20 (by decide), tl64 20 (by decide), tl32 99 (by decide), tl64 99 (by decide)]); (repeat' split) <;> first | rfl | omega | (apply Int32.toInt_inj.mp; simp (disch := omega) only [tnI, tn32 99 (by decide), tnj 99 (by decide), tn32 1 (by decide), tnj 1 (by decide), tl32 0 (by decide), tl64 0 (by decide), tl32 1 (by decide), tl64 1 (by decide), tl32 3 (by decide), tl64 3 (by decide), tl32 4 (by decide), tl64 4 (by decide), tl32 9 (by decide), tl64 9 (by decide), tl32 20 (by decide), tl64 20 (by decide), tl32 99 (by decide), tl64 99 (by decide)]; omega))) (dkP dF_172 DX12_form (i := 37) rfl rfl)
          · simp (disch := omega) only [ta_lt, ta_le, ta_eq, tnI, tl32 20 (by decide)] at c4
            refine lv_aload_n hx hb (dkP dF_42 DX12_form (i := 29) rfl rfl) rfl (lv_at hl 1 rfl) ?_
            refine lv_iload_n hx hb (dkP dF_29 DX12_form (i := 30) rfl rfl) rfl (lv_at hl 0 rfl) ?_
            refine zn_I hw (zr_S (As := [.int (nI i)]) (rest := [.ref (ad 0)]) C0 (c_X12_rowAt l G kc i  _) cs_X12_rowAt lk_X12_489 (zp_P C0 a00 s00) rfl hl.1 rfl ⟨by decide, by decide⟩ (Nat.le_of_ble_eq_true rfl) (dk2 dF_184 DX12_form (i := 31) rfl rfl rfl) ⟨Nat.le_refl _, Nat.le_refl _⟩) (fun r5 s5 H locs hp hw => ?_)
            subst hp
            refine zk_I hw (zr_V (As := [.int (nI (414028 + 5 * i))]) (rest := []) C0 (c_X12_leads_g l G kc ad τ (414028 + 5 * i) (by first | omega | assumption | decide | rfl) (by first | omega | assumption | decide | rfl) (by first | omega | assumption | decide | rfl) _) cv_X12_leads lk_X12_492 (zp_V C0 hw 0 rfl rfl rfl) rfl hl.1 rfl ⟨by decide, by decide⟩ (Nat.le_of_ble_eq_true rfl) (dk2 dF_182 DX12_form (i := 32) rfl rfl rfl) ⟨Nat.le_refl _, Nat.le_refl _⟩) (fun r6 s6 H locs hp hw => ?_)
            have hp6 := hp
            refine lv_pop hx hb (dkP dF_87 DX12_form (i := 33) rfl rfl) rfl ?_
            refine lv_iinc (v := nI (i + 1)) (lv' := [(3, .int (nI (i + 1))), (0, .ref (ad 0)), (1, .int m2), (2, .int k2)]) hx hb (dkI DX12_form (i := 34) rfl rfl rfl rfl) hl (k := 0) rfl (nI_1 _) (by decide) rfl (fun ls hl => ?_)
            refine lv_goto (tgt := 45) hx hb (dkS dF_167 DX12_form (i := 35) rfl rfl rfl) (by decide) ?_
            exact ih3 (i + 1) s6 _ _ _ (by omega) (by omega) (by rw [hp6 3 (by decide)]; exact hτ) hw (lv_sub hl [0, 1, 2, 3] rfl)
      exact lp3 _ 0 (sI (sI sM0 1 3 m2) 1 4 k2) _ _ _ (Nat.lt_succ_self _) (by omega) (by intro z; have z3 : m2 = 0 := (by simpa [sI, u2] using z); have z2 : m2.toInt = 0 := (by rw [z3]; rfl); (try simp (disch := omega) only [ta_lt, ta_le, ta_eq, tb_lt, tb_le, tb_eq, tw, tnI, tn32 99 (by decide), tnj 99 (by decide), tn32 1 (by decide), tnj 1 (by decide), tl32 0 (by decide), tl64 0 (by decide), tl32 1 (by decide), tl64 1 (by decide), tl32 3 (by decide), tl64 3 (by decide), tl32 4 (by decide), tl64 4 (by decide), tl32 9 (by decide), tl64 9 (by decide), tl32 20 (by decide), tl64 20 (by decide), tl32 99 (by decide), tl64 99 (by decide)] at hc1); (try simp (disch := omega) only [ta_lt, ta_le, ta_eq, tb_lt, tb_le, tb_eq, tw, tnI, tn32 99 (by decide), tnj 99 (by decide), tn32 1 (by decide), tnj 1 (by decide), tl32 0 (by decide), tl64 0 (by decide), tl32 1 (by decide), tl64 1 (by decide), tl32 3 (by decide), tl64 3 (by decide), tl32 4 (by decide), tl64 4 (by decide), tl32 9 (by decide), tl64 9 (by decide), tl32 20 (by decide), tl64 20 (by decide), tl32 99 (by decide), tl64 99 (by decide)] at hc2); omega) hw (lv_sub hl [0, 1, 2, 3] rfl)
    · skip
      refine lv_if_ne (tgt := 29) hx hb (dkS dF_154 DX12_form (i := 11) rfl rfl rfl) (by decide) (fun h => absurd h (by decide)) (fun _ => ?_)
      refine lv_bipush (v := (-2)) hx hb (dks dF_16 DX12_form (i := 12) rfl rfl rfl) (by decide) ?_
      exact z_iret C0 hr hlk hw (by first | rfl | ((try simp only [lg_cmp_lt, lg_cmp_le, lg_cmp_gt, lg_cmp_ge, lg_cmp_eq] at hc1); (try simp (disch := omega) only [ta_lt, ta_le, ta_eq, tb_lt, tb_le, tb_eq, tw, tnI, tn32 99 (by decide), tnj 99 (by decide), tn32 2 (by decide), tnj 2 (by decide), tn32 1 (by decide), tnj 1 (by decide), tl32 0 (by decide), tl64 0 (by decide), tl32 1 (by decide), tl64 1 (by decide), tl32 3 (by decide), tl64 3 (by decide), tl32 4 (by decide), tl64 4 (by decide), tl32 9 (by decide), tl64 9 (by decide), tl32 20 (by decide), tl64 20 (by decide), tl32 99 (by decide), tl64 99 (by decide)] at hc1); (try simp only [lg_cmp_lt, lg_cmp_le, lg_cmp_gt, lg_cmp_ge, lg_cmp_eq] at hc2); (try simp (disch := omega) only [ta_lt, ta_le, ta_eq, tb_lt, tb_le, tb_eq, tw, tnI, tn32 99 (by decide), tnj 99 (by decide), tn32 2 (by decide), tnj 2 (by decide), tn32 1 (by decide), tnj 1 (by decide), tl32 0 (by decide), tl64 0 (by decide), tl32 1 (by decide), tl64 1 (by decide), tl32 3 (by decide), tl64 3 (by decide), tl32 4 (by decide), tl64 4 (by decide), tl32 9 (by decide), tl64 9 (by decide), tl32 20 (by decide), tl64 20 (by decide), tl32 99 (by decide), tl64 99 (by decide)] at hc2); (try simp (disch := omega) only [tnI, tn32 99 (by decide), tnj 99 (by decide), tn32 2 (by decide), tnj 2 (by decide), tn32 1 (by decide), tnj 1 (by decide), tl32 0 (by decide), tl64 0 (by decide), tl32 1 (by decide), tl64 1 (by decide), tl32 3 (by decide), tl64 3 (by decide), tl32 4 (by decide), tl64 4 (by decide), tl32 9 (by decide), tl64 9 (by decide), tl32 20 (by decide), tl64 20 (by decide), tl32 99 (by decide), tl64 99 (by decide)]); (repeat' split) <;> first | rfl | omega | (apply Int32.toInt_inj.mp; simp (disch := omega) only [tnI, tn32 99 (by decide), tnj 99 (by decide), tn32 2 (by decide), tnj 2 (by decide), tn32 1 (by decide), tnj 1 (by decide), tl32 0 (by decide), tl64 0 (by decide), tl32 1 (by decide), tl64 1 (by decide), tl32 3 (by decide), tl64 3 (by decide), tl32 4 (by decide), tl64 4 (by decide), tl32 9 (by decide), tl64 9 (by decide), tl32 20 (by decide), tl64 20 (by decide), tl32 99 (by decide), tl64 99 (by decide)]; omega))) (dkP dF_172 DX12_form (i := 13) rfl rfl)
  · skip
    refine lv_if_eq (tgt := 26) hx hb (dkS dF_153 DX12_form (i := 5) rfl rfl rfl) (by decide) (fun _ => ?_) (fun h => absurd h (by decide))
    refine lv_bipush (v := (-2)) hx hb (dks dF_16 DX12_form (i := 12) rfl rfl rfl) (by decide) ?_
    exact z_iret C0 hr hlk hw (by first | rfl | ((try simp only [lg_cmp_lt, lg_cmp_le, lg_cmp_gt, lg_cmp_ge, lg_cmp_eq] at hc1); (try simp (disch := omega) only [ta_lt, ta_le, ta_eq, tb_lt, tb_le, tb_eq, tw, tnI, tn32 99 (by decide), tnj 99 (by decide), tn32 2 (by decide), tnj 2 (by decide), tn32 1 (by decide), tnj 1 (by decide), tl32 0 (by decide), tl64 0 (by decide), tl32 1 (by decide), tl64 1 (by decide), tl32 3 (by decide), tl64 3 (by decide), tl32 4 (by decide), tl64 4 (by decide), tl32 9 (by decide), tl64 9 (by decide), tl32 20 (by decide), tl64 20 (by decide), tl32 99 (by decide), tl64 99 (by decide)] at hc1); (try simp (disch := omega) only [tnI, tn32 99 (by decide), tnj 99 (by decide), tn32 2 (by decide), tnj 2 (by decide), tn32 1 (by decide), tnj 1 (by decide), tl32 0 (by decide), tl64 0 (by decide), tl32 1 (by decide), tl64 1 (by decide), tl32 3 (by decide), tl64 3 (by decide), tl32 4 (by decide), tl64 4 (by decide), tl32 9 (by decide), tl64 9 (by decide), tl32 20 (by decide), tl64 20 (by decide), tl32 99 (by decide), tl64 99 (by decide)]); (repeat' split) <;> first | rfl | omega | (apply Int32.toInt_inj.mp; simp (disch := omega) only [tnI, tn32 99 (by decide), tnj 99 (by decide), tn32 2 (by decide), tnj 2 (by decide), tn32 1 (by decide), tnj 1 (by decide), tl32 0 (by decide), tl64 0 (by decide), tl32 1 (by decide), tl64 1 (by decide), tl32 3 (by decide), tl64 3 (by decide), tl32 4 (by decide), tl64 4 (by decide), tl32 9 (by decide), tl64 9 (by decide), tl32 20 (by decide), tl64 20 (by decide), tl32 99 (by decide), tl64 99 (by decide)]; omega))) (dkP dF_172 DX12_form (i := 13) rfl rfl)
set_option maxRecDepth 100000 in
set_option maxHeartbeats 4000000 in
theorem c_X12_put (l : Launch) (G : va_G) (kc : Nat → ClassId) (ad : Nat → Nat)  (i : Int32) (sd : Int32) (v : Int32)  : MI l G kc yX12_put cX12_put 5 (some .int) 2 45 [.ref (ad 0), .int i, .int sd, .int v] shM ad sM0 (fun r σ1 => r = if 0 ≤ i.toInt ∧ i.toInt ≤ 19 ∧ 0 ≤ sd.toInt ∧ sd.toInt ≤ 1 ∧ -9999 ≤ v.toInt ∧ v.toInt ≤ 9999 then 1 else -2) := by
  intro sz
  refine z_body (y := yX12_put) (n := 5) (av := [.ref (ad 0), .int i, .int sd, .int v]) (Qc := fun A => va_Qi (fun r σ1 => r = if 0 ≤ i.toInt ∧ i.toInt ≤ 19 ∧ 0 ≤ sd.toInt ∧ sd.toInt ≤ 1 ∧ -9999 ≤ v.toInt ∧ v.toInt ≤ 9999 then 1 else -2) (PoC G kc shM ad A) A) (plainFor_of_name (by decide)) (Nat.le_of_ble_eq_true rfl) (fun pr e s m below meth c A C0 hr hlk hnm hw ls hl => ?_) sz
  have hx := C0.1
  have hb := C0.2.1
  have hown := C0.2.2.2.1
  have hts := C0.2.2.2.2.1
  have hl : lv_has ls 5 [(0, .ref (ad 0)), (1, .int i), (2, .int sd), (3, .int v)] := hl
  refine lv_iload_n hx hb (dkP dF_27 DX12_put (i := 0) rfl rfl) rfl (lv_at hl 1 rfl) ?_
  refine zn_I hw (zr_S (As := [.int i]) (rest := []) C0 (c_X12_isRow l G kc i  _) cs_X12_isRow lk_X12_495 (zp_P C0 a00 s00) rfl hl.1 rfl ⟨by decide, by decide⟩ (Nat.le_of_ble_eq_true rfl) (dk2 dF_184 DX12_put (i := 1) rfl rfl rfl) ⟨Nat.le_refl _, Nat.le_refl _⟩) (fun r1 s1 H locs hp hw => ?_)
  rcases hp with ⟨rfl, hc1⟩ | ⟨rfl, hc1⟩
  · skip
    obtain ⟨k_i, hk_i, rfl⟩ := to_nat (x := i) (n := 20) (by (try simp only [lg_cmp_lt, lg_cmp_le, lg_cmp_gt, lg_cmp_ge, lg_cmp_eq] at hc1); (try simp (disch := omega) only [ta_lt, ta_le, ta_eq, tb_lt, tb_le, tb_eq, tw, tnI, tn32 1 (by decide), tnj 1 (by decide), tl32 0 (by decide), tl64 0 (by decide)] at hc1); (try simp (disch := omega) only [ta_lt, ta_le, ta_eq, tb_lt, tb_le, tb_eq, tw, tnI, tn32 1 (by decide), tnj 1 (by decide), tl32 0 (by decide), tl64 0 (by decide)]); omega)
    refine lv_if_eq (tgt := 31) hx hb (dkS dF_153 DX12_put (i := 2) rfl rfl rfl) (by decide) (fun h => absurd h (by decide)) (fun _ => ?_)
    refine lv_iload_n hx hb (dkP dF_28 DX12_put (i := 3) rfl rfl) rfl (lv_at hl 2 rfl) ?_
    refine lv_i2l hx hb (dkP dF_133 DX12_put (i := 4) rfl rfl) rfl ?_
    refine lv_lconst (v := 0) hx hb (dkP dF_9 DX12_put (i := 5) rfl rfl) (by decide) ?_
    refine lv_lconst (v := 1) hx hb (dkP dF_10 DX12_put (i := 6) rfl rfl) (by decide) ?_
    refine zn_I hw (zr_S (As := [.long sd.toInt64, .long 0, .long 1]) (rest := []) C0 (c_X12_in l G kc sd.toInt64 0 1  _) cs_X12_in lk_X12_9 (zp_P C0 a00 s00) rfl hl.1 rfl ⟨by decide, by decide⟩ (Nat.le_of_ble_eq_true rfl) (dk2 dF_184 DX12_put (i := 7) rfl rfl rfl) ⟨Nat.le_refl _, Nat.le_refl _⟩) (fun r2 s2 H locs hp hw => ?_)
    rcases hp with ⟨rfl, hc2⟩ | ⟨rfl, hc2⟩
    · skip
      obtain ⟨k_sd, hk_sd, rfl⟩ := to_nat (x := sd) (n := 2) (by (try simp only [lg_cmp_lt, lg_cmp_le, lg_cmp_gt, lg_cmp_ge, lg_cmp_eq] at hc1); (try simp (disch := omega) only [ta_lt, ta_le, ta_eq, tb_lt, tb_le, tb_eq, tw, tnI, tn32 1 (by decide), tnj 1 (by decide), tl32 0 (by decide), tl64 0 (by decide), tl32 1 (by decide), tl64 1 (by decide)] at hc1); (try simp only [lg_cmp_lt, lg_cmp_le, lg_cmp_gt, lg_cmp_ge, lg_cmp_eq] at hk_i); (try simp (disch := omega) only [ta_lt, ta_le, ta_eq, tb_lt, tb_le, tb_eq, tw, tnI, tn32 1 (by decide), tnj 1 (by decide), tl32 0 (by decide), tl64 0 (by decide), tl32 1 (by decide), tl64 1 (by decide)] at hk_i); (try simp only [lg_cmp_lt, lg_cmp_le, lg_cmp_gt, lg_cmp_ge, lg_cmp_eq] at hc2); (try simp (disch := omega) only [ta_lt, ta_le, ta_eq, tb_lt, tb_le, tb_eq, tw, tnI, tn32 1 (by decide), tnj 1 (by decide), tl32 0 (by decide), tl64 0 (by decide), tl32 1 (by decide), tl64 1 (by decide)] at hc2); (try simp (disch := omega) only [ta_lt, ta_le, ta_eq, tb_lt, tb_le, tb_eq, tw, tnI, tn32 1 (by decide), tnj 1 (by decide), tl32 0 (by decide), tl64 0 (by decide), tl32 1 (by decide), tl64 1 (by decide)]); omega)
      refine lv_if_eq (tgt := 31) hx hb (dkS dF_153 DX12_put (i := 8) rfl rfl rfl) (by decide) (fun h => absurd h (by decide)) (fun _ => ?_)
      refine lv_iload_n hx hb (dkP dF_29 DX12_put (i := 9) rfl rfl) rfl (lv_at hl 3 rfl) ?_
      refine lv_i2l hx hb (dkP dF_133 DX12_put (i := 10) rfl rfl) rfl ?_
      refine lv_ldc2 hx hb hown (hts _ kn_X12_349) (dk2 dF_20 DX12_put (i := 11) rfl rfl rfl) ?_
      refine lv_ldc2 hx hb hown (hts _ kn_X12_351) (dk2 dF_20 DX12_put (i := 12) rfl rfl rfl) ?_
      refine zn_I hw (zr_S (As := [.long v.toInt64, .long (-9999), .long 9999]) (rest := []) C0 (c_X12_in l G kc v.toInt64 (-9999) 9999  _) cs_X12_in lk_X12_9 (zp_P C0 a00 s00) rfl hl.1 rfl ⟨by decide, by decide⟩ (Nat.le_of_ble_eq_true rfl) (dk2 dF_184 DX12_put (i := 13) rfl rfl rfl) ⟨Nat.le_refl _, Nat.le_refl _⟩) (fun r3 s3 H locs hp hw => ?_)
      rcases hp with ⟨rfl, hc3⟩ | ⟨rfl, hc3⟩
      · skip
        refine lv_if_ne (tgt := 34) hx hb (dkS dF_154 DX12_put (i := 14) rfl rfl rfl) (by decide) (fun _ => ?_) (fun h => absurd h (by decide))
        refine lv_iload_n hx hb (dkP dF_27 DX12_put (i := 17) rfl rfl) rfl (lv_at hl 1 rfl) ?_
        refine zn_I hw (zr_S (As := [.int (nI k_i)]) (rest := []) C0 (c_X12_rowAt l G kc k_i  _) cs_X12_rowAt lk_X12_489 (zp_P C0 a00 s00) rfl hl.1 rfl ⟨by decide, by decide⟩ (Nat.le_of_ble_eq_true rfl) (dk2 dF_184 DX12_put (i := 18) rfl rfl rfl) ⟨Nat.le_refl _, Nat.le_refl _⟩) (fun r4 s4 H locs hp hw => ?_)
        subst hp
        refine lv_istore (lv' := [(4, .int (nI (414028 + 5 * k_i))), (0, .ref (ad 0)), (1, .int (nI k_i)), (2, .int (nI k_sd)), (3, .int v)]) hx hb (dk1 dF_54 DX12_put (i := 19) rfl rfl rfl) hl (by decide) rfl (fun ls hl => ?_)
        refine lv_aload_n hx hb (dkP dF_42 DX12_put (i := 20) rfl rfl) rfl (lv_at hl 1 rfl) ?_
        refine z_gr C0 hw 0 1 1 rfl fl_X12_20 (dk2 dF_180 DX12_put (i := 21) rfl rfl rfl) ?_
        refine lv_iload hx hb (dk1 dF_21 DX12_put (i := 22) rfl rfl rfl) (lv_at hl 0 rfl) ?_
        refine lv_iconst (v := 3) hx hb (dkP dF_6 DX12_put (i := 23) rfl rfl) (by decide) ?_
        refine lv_iadd hx hb (dkP dF_96 DX12_put (i := 24) rfl rfl) ?_
        refine z_top (y := nI ((414028 + 5 * k_i) + 3)) (by simp only [fa_lit, nI_add, pk_mul]) ?_
        refine lv_aload_n hx hb (dkP dF_42 DX12_put (i := 25) rfl rfl) rfl (lv_at hl 1 rfl) ?_
        refine z_gr C0 hw 0 1 1 rfl fl_X12_20 (dk2 dF_180 DX12_put (i := 26) rfl rfl rfl) ?_
        refine lv_iload hx hb (dk1 dF_21 DX12_put (i := 27) rfl rfl rfl) (lv_at hl 0 rfl) ?_
        refine lv_iconst (v := 2) hx hb (dkP dF_5 DX12_put (i := 28) rfl rfl) (by decide) ?_
        refine lv_iadd hx hb (dkP dF_96 DX12_put (i := 29) rfl rfl) ?_
        refine z_top (y := nI ((414028 + 5 * k_i) + 2)) (by simp only [fa_lit, nI_add, pk_mul]) ?_
        refine z_ialdN (n := 414128) C0 hw 1 ((414028 + 5 * k_i) + 2) rfl (by omega) (by decide) (dkP dF_46 DX12_put (i := 30) rfl rfl) ?_
        refine z_top (y := 0) (w0_z _ (by omega) (by omega)) ?_
        refine lv_iload_n hx hb (dkP dF_28 DX12_put (i := 31) rfl rfl) rfl (lv_at hl 3 rfl) ?_
        refine lv_icmp_ne (tgt := 75) hx hb (dkS dF_160 DX12_put (i := 32) rfl rfl rfl) (by decide) (fun c5 => ?_) (fun c5 => ?_)
        · simp (disch := omega) only [ta_lt, ta_le, ta_eq, tnI, tl32 0 (by decide)] at c5
          refine lv_iconst (v := 1) hx hb (dkP dF_4 DX12_put (i := 42) rfl rfl) (by decide) ?_
          refine z_iastN (n := 414128) C0 hw 1 ((414028 + 5 * k_i) + 3) rfl (by omega) (by decide) (dkP dF_79 DX12_put (i := 43) rfl rfl) (fun H locs hw => ?_)
          refine lv_aload_n hx hb (dkP dF_42 DX12_put (i := 44) rfl rfl) rfl (lv_at hl 1 rfl) ?_
          refine z_gr C0 hw 0 1 1 rfl fl_X12_20 (dk2 dF_180 DX12_put (i := 45) rfl rfl rfl) ?_
          refine lv_iload hx hb (dk1 dF_21 DX12_put (i := 46) rfl rfl rfl) (lv_at hl 0 rfl) ?_
          refine lv_iconst (v := 2) hx hb (dkP dF_5 DX12_put (i := 47) rfl rfl) (by decide) ?_
          refine lv_iadd hx hb (dkP dF_96 DX12_put (i := 48) rfl rfl) ?_
          refine z_top (y := nI ((414028 + 5 * k_i) + 2)) (by simp only [fa_lit, nI_add, pk_mul]) ?_
          refine lv_iload_n hx hb (dkP dF_28 DX12_put (i := 49) rfl rfl) rfl (lv_at hl 3 rfl) ?_
          refine z_iastN (n := 414128) C0 hw 1 ((414028 + 5 * k_i) + 2) rfl (by omega) (by decide) (dkP dF_79 DX12_put (i := 50) rfl rfl) (fun H locs hw => ?_)
          refine lv_aload_n hx hb (dkP dF_42 DX12_put (i := 51) rfl rfl) rfl (lv_at hl 1 rfl) ?_
          refine z_gr C0 hw 0 1 1 rfl fl_X12_20 (dk2 dF_180 DX12_put (i := 52) rfl rfl rfl) ?_
          refine lv_iload hx hb (dk1 dF_21 DX12_put (i := 53) rfl rfl rfl) (lv_at hl 0 rfl) ?_
          refine lv_iload_n hx hb (dkP dF_28 DX12_put (i := 54) rfl rfl) rfl (lv_at hl 3 rfl) ?_
          refine lv_iadd hx hb (dkP dF_96 DX12_put (i := 55) rfl rfl) ?_
          refine z_top (y := nI ((414028 + 5 * k_i) + k_sd)) (by simp only [fa_lit, nI_add, pk_mul]) ?_
          refine lv_iload_n hx hb (dkP dF_29 DX12_put (i := 56) rfl rfl) rfl (lv_at hl 4 rfl) ?_
          refine z_iastN (n := 414128) C0 hw 1 ((414028 + 5 * k_i) + k_sd) rfl (by omega) (by decide) (dkP dF_79 DX12_put (i := 57) rfl rfl) (fun H locs hw => ?_)
          refine lv_aload_n hx hb (dkP dF_42 DX12_put (i := 58) rfl rfl) rfl (lv_at hl 1 rfl) ?_
          refine z_gr C0 hw 0 1 1 rfl fl_X12_20 (dk2 dF_180 DX12_put (i := 59) rfl rfl rfl) ?_
          refine lv_iload hx hb (dk1 dF_21 DX12_put (i := 60) rfl rfl rfl) (lv_at hl 0 rfl) ?_
          refine lv_iconst (v := 3) hx hb (dkP dF_6 DX12_put (i := 61) rfl rfl) (by decide) ?_
          refine lv_iadd hx hb (dkP dF_96 DX12_put (i := 62) rfl rfl) ?_
          refine z_top (y := nI ((414028 + 5 * k_i) + 3)) (by simp only [fa_lit, nI_add, pk_mul]) ?_
          refine z_ialdN (n := 414128) C0 hw 1 ((414028 + 5 * k_i) + 3) rfl (by omega) (by decide) (dkP dF_46 DX12_put (i := 63) rfl rfl) ?_
          refine z_top (y := 1) (rd3 (by omega) (by omega)) ?_
          exact z_iret C0 hr hlk hw (by first | rfl | ((try simp only [lg_cmp_lt, lg_cmp_le, lg_cmp_gt, lg_cmp_ge, lg_cmp_eq] at hc1); (try simp (disch := omega) only [ta_lt, ta_le, ta_eq, tb_lt, tb_le, tb_eq, tw, tnI, tn32 9999 (by decide), tnj 9999 (by decide), tn32 1 (by decide), tnj 1 (by decide), tl32 0 (by decide), tl64 0 (by decide), tl32 1 (by decide), tl64 1 (by decide), tl32 2 (by decide), tl64 2 (by decide), tl32 3 (by decide), tl64 3 (by decide), tl32 9999 (by decide), tl64 9999 (by decide)] at hc1); (try simp only [lg_cmp_lt, lg_cmp_le, lg_cmp_gt, lg_cmp_ge, lg_cmp_eq] at hk_i); (try simp (disch := omega) only [ta_lt, ta_le, ta_eq, tb_lt, tb_le, tb_eq, tw, tnI, tn32 9999 (by decide), tnj 9999 (by decide), tn32 1 (by decide), tnj 1 (by decide), tl32 0 (by decide), tl64 0 (by decide), tl32 1 (by decide), tl64 1 (by decide), tl32 2 (by decide), tl64 2 (by decide), tl32 3 (by decide), tl64 3 (by decide), tl32 9999 (by decide), tl64 9999 (by decide)] at hk_i); (try simp only [lg_cmp_lt, lg_cmp_le, lg_cmp_gt, lg_cmp_ge, lg_cmp_eq] at hc2); (try simp (disch := omega) only [ta_lt, ta_le, ta_eq, tb_lt, tb_le, tb_eq, tw, tnI, tn32 9999 (by decide), tnj 9999 (by decide), tn32 1 (by decide), tnj 1 (by decide), tl32 0 (by decide), tl64 0 (by decide), tl32 1 (by decide), tl64 1 (by decide), tl32 2 (by decide), tl64 2 (by decide), tl32 3 (by decide), tl64 3 (by decide), tl32 9999 (by decide), tl64 9999 (by decide)] at hc2); (try simp only [lg_cmp_lt, lg_cmp_le, lg_cmp_gt, lg_cmp_ge, lg_cmp_eq] at hk_sd); (try simp (disch := omega) only [ta_lt, ta_le, ta_eq, tb_lt, tb_le, tb_eq, tw, tnI, tn32 9999 (by decide), tnj 9999 (by decide), tn32 1 (by decide), tnj 1 (by decide), tl32 0 (by decide), tl64 0 (by decide), tl32 1 (by decide), tl64 1 (by decide), tl32 2 (by decide), tl64 2 (by decide), tl32 3 (by decide), tl64 3 (by decide), tl32 9999 (by decide), tl64 9999 (by decide)] at hk_sd); (try simp only [lg_cmp_lt, lg_cmp_le, lg_cmp_gt, lg_cmp_ge, lg_cmp_eq] at hc3); (try simp (disch := omega) only [ta_lt, ta_le, ta_eq, tb_lt, tb_le, tb_eq, tw, tnI, tn32 9999 (by decide), tnj 9999 (by decide), tn32 1 (by decide), tnj 1 (by decide), tl32 0 (by decide), tl64 0 (by decide), tl32 1 (by decide), tl64 1 (by decide), tl32 2 (by decide), tl64 2 (by decide), tl32 3 (by decide), tl64 3 (by decide), tl32 9999 (by decide), tl64 9999 (by decide)] at hc3); (try simp only [lg_cmp_lt, lg_cmp_le, lg_cmp_gt, lg_cmp_ge, lg_cmp_eq] at c5); (try simp (disch := omega) only [ta_lt, ta_le, ta_eq, tb_lt, tb_le, tb_eq, tw, tnI, tn32 9999 (by decide), tnj 9999 (by decide), tn32 1 (by decide), tnj 1 (by decide), tl32 0 (by decide), tl64 0 (by decide), tl32 1 (by decide), tl64 1 (by decide), tl32 2 (by decide), tl64 2 (by decide), tl32 3 (by decide), tl64 3 (by decide), tl32 9999 (by decide), tl64 9999 (by decide)] at c5); (try simp (disch := omega) only [tnI, tn32 9999 (by decide), tnj 9999 (by decide), tn32 1 (by decide), tnj 1 (by decide), tl32 0 (by decide), tl64 0 (by decide), tl32 1 (by decide), tl64 1 (by decide), tl32 2 (by decide), tl64 2 (by decide), tl32 3 (by decide), tl64 3 (by decide), tl32 9999 (by decide), tl64 9999 (by decide)]); (repeat' split) <;> first | rfl | omega | (apply Int32.toInt_inj.mp; simp (disch := omega) only [tnI, tn32 9999 (by decide), tnj 9999 (by decide), tn32 1 (by decide), tnj 1 (by decide), tl32 0 (by decide), tl64 0 (by decide), tl32 1 (by decide), tl64 1 (by decide), tl32 2 (by decide), tl64 2 (by decide), tl32 3 (by decide), tl64 3 (by decide), tl32 9999 (by decide), tl64 9999 (by decide)]; omega))) (dkP dF_172 DX12_put (i := 64) rfl rfl)
        · simp (disch := omega) only [ta_lt, ta_le, ta_eq, tnI, tl32 0 (by decide)] at c5
          refine lv_aload_n hx hb (dkP dF_42 DX12_put (i := 33) rfl rfl) rfl (lv_at hl 1 rfl) ?_
          refine z_gr C0 hw 0 1 1 rfl fl_X12_20 (dk2 dF_180 DX12_put (i := 34) rfl rfl rfl) ?_
          refine lv_iload hx hb (dk1 dF_21 DX12_put (i := 35) rfl rfl rfl) (lv_at hl 0 rfl) ?_
          refine lv_iconst (v := 3) hx hb (dkP dF_6 DX12_put (i := 36) rfl rfl) (by decide) ?_
          refine lv_iadd hx hb (dkP dF_96 DX12_put (i := 37) rfl rfl) ?_
          refine z_top (y := nI ((414028 + 5 * k_i) + 3)) (by simp only [fa_lit, nI_add, pk_mul]) ?_
          refine z_ialdN (n := 414128) C0 hw 1 ((414028 + 5 * k_i) + 3) rfl (by omega) (by decide) (dkP dF_46 DX12_put (i := 38) rfl rfl) ?_
          refine z_top (y := 0) (w0_z _ (by omega) (by omega)) ?_
          refine lv_iconst (v := 1) hx hb (dkP dF_4 DX12_put (i := 39) rfl rfl) (by decide) ?_
          refine lv_iadd hx hb (dkP dF_96 DX12_put (i := 40) rfl rfl) ?_
          refine z_top (y := 1) (by decide) ?_
          refine lv_goto (tgt := 76) hx hb (dkS dF_167 DX12_put (i := 41) rfl rfl rfl) (by decide) ?_
          refine z_iastN (n := 414128) C0 hw 1 ((414028 + 5 * k_i) + 3) rfl (by omega) (by decide) (dkP dF_79 DX12_put (i := 43) rfl rfl) (fun H locs hw => ?_)
          refine lv_aload_n hx hb (dkP dF_42 DX12_put (i := 44) rfl rfl) rfl (lv_at hl 1 rfl) ?_
          refine z_gr C0 hw 0 1 1 rfl fl_X12_20 (dk2 dF_180 DX12_put (i := 45) rfl rfl rfl) ?_
          refine lv_iload hx hb (dk1 dF_21 DX12_put (i := 46) rfl rfl rfl) (lv_at hl 0 rfl) ?_
          refine lv_iconst (v := 2) hx hb (dkP dF_5 DX12_put (i := 47) rfl rfl) (by decide) ?_
          refine lv_iadd hx hb (dkP dF_96 DX12_put (i := 48) rfl rfl) ?_
          refine z_top (y := nI ((414028 + 5 * k_i) + 2)) (by simp only [fa_lit, nI_add, pk_mul]) ?_
          refine lv_iload_n hx hb (dkP dF_28 DX12_put (i := 49) rfl rfl) rfl (lv_at hl 3 rfl) ?_
          refine z_iastN (n := 414128) C0 hw 1 ((414028 + 5 * k_i) + 2) rfl (by omega) (by decide) (dkP dF_79 DX12_put (i := 50) rfl rfl) (fun H locs hw => ?_)
          refine lv_aload_n hx hb (dkP dF_42 DX12_put (i := 51) rfl rfl) rfl (lv_at hl 1 rfl) ?_
          refine z_gr C0 hw 0 1 1 rfl fl_X12_20 (dk2 dF_180 DX12_put (i := 52) rfl rfl rfl) ?_
          refine lv_iload hx hb (dk1 dF_21 DX12_put (i := 53) rfl rfl rfl) (lv_at hl 0 rfl) ?_
          refine lv_iload_n hx hb (dkP dF_28 DX12_put (i := 54) rfl rfl) rfl (lv_at hl 3 rfl) ?_
          refine lv_iadd hx hb (dkP dF_96 DX12_put (i := 55) rfl rfl) ?_
          refine z_top (y := nI ((414028 + 5 * k_i) + k_sd)) (by simp only [fa_lit, nI_add, pk_mul]) ?_
          refine lv_iload_n hx hb (dkP dF_29 DX12_put (i := 56) rfl rfl) rfl (lv_at hl 4 rfl) ?_
          refine z_iastN (n := 414128) C0 hw 1 ((414028 + 5 * k_i) + k_sd) rfl (by omega) (by decide) (dkP dF_79 DX12_put (i := 57) rfl rfl) (fun H locs hw => ?_)
          refine lv_aload_n hx hb (dkP dF_42 DX12_put (i := 58) rfl rfl) rfl (lv_at hl 1 rfl) ?_
          refine z_gr C0 hw 0 1 1 rfl fl_X12_20 (dk2 dF_180 DX12_put (i := 59) rfl rfl rfl) ?_
          refine lv_iload hx hb (dk1 dF_21 DX12_put (i := 60) rfl rfl rfl) (lv_at hl 0 rfl) ?_
          refine lv_iconst (v := 3) hx hb (dkP dF_6 DX12_put (i := 61) rfl rfl) (by decide) ?_
          refine lv_iadd hx hb (dkP dF_96 DX12_put (i := 62) rfl rfl) ?_
          refine z_top (y := nI ((414028 + 5 * k_i) + 3)) (by simp only [fa_lit, nI_add, pk_mul]) ?_
          refine z_ialdN (n := 414128) C0 hw 1 ((414028 + 5 * k_i) + 3) rfl (by omega) (by decide) (dkP dF_46 DX12_put (i := 63) rfl rfl) ?_
          refine z_top (y := 1) (rd3 (by omega) (by omega)) ?_
          exact z_iret C0 hr hlk hw (by first | rfl | ((try simp only [lg_cmp_lt, lg_cmp_le, lg_cmp_gt, lg_cmp_ge, lg_cmp_eq] at hc1); (try simp (disch := omega) only [ta_lt, ta_le, ta_eq, tb_lt, tb_le, tb_eq, tw, tnI, tn32 9999 (by decide), tnj 9999 (by decide), tn32 1 (by decide), tnj 1 (by decide), tl32 0 (by decide), tl64 0 (by decide), tl32 1 (by decide), tl64 1 (by decide), tl32 2 (by decide), tl64 2 (by decide), tl32 3 (by decide), tl64 3 (by decide), tl32 9999 (by decide), tl64 9999 (by decide)] at hc1); (try simp only [lg_cmp_lt, lg_cmp_le, lg_cmp_gt, lg_cmp_ge, lg_cmp_eq] at hk_i); (try simp (disch := omega) only [ta_lt, ta_le, ta_eq, tb_lt, tb_le, tb_eq, tw, tnI, tn32 9999 (by decide), tnj 9999 (by decide), tn32 1 (by decide), tnj 1 (by decide), tl32 0 (by decide), tl64 0 (by decide), tl32 1 (by decide), tl64 1 (by decide), tl32 2 (by decide), tl64 2 (by decide), tl32 3 (by decide), tl64 3 (by decide), tl32 9999 (by decide), tl64 9999 (by decide)] at hk_i); (try simp only [lg_cmp_lt, lg_cmp_le, lg_cmp_gt, lg_cmp_ge, lg_cmp_eq] at hc2); (try simp (disch := omega) only [ta_lt, ta_le, ta_eq, tb_lt, tb_le, tb_eq, tw, tnI, tn32 9999 (by decide), tnj 9999 (by decide), tn32 1 (by decide), tnj 1 (by decide), tl32 0 (by decide), tl64 0 (by decide), tl32 1 (by decide), tl64 1 (by decide), tl32 2 (by decide), tl64 2 (by decide), tl32 3 (by decide), tl64 3 (by decide), tl32 9999 (by decide), tl64 9999 (by decide)] at hc2); (try simp only [lg_cmp_lt, lg_cmp_le, lg_cmp_gt, lg_cmp_ge, lg_cmp_eq] at hk_sd); (try simp (disch := omega) only [ta_lt, ta_le, ta_eq, tb_lt, tb_le, tb_eq, tw, tnI, tn32 9999 (by decide), tnj 9999 (by decide), tn32 1 (by decide), tnj 1 (by decide), tl32 0 (by decide), tl64 0 (by decide), tl32 1 (by decide), tl64 1 (by decide), tl32 2 (by decide), tl64 2 (by decide), tl32 3 (by decide), tl64 3 (by decide), tl32 9999 (by decide), tl64 9999 (by decide)] at hk_sd); (try simp only [lg_cmp_lt, lg_cmp_le, lg_cmp_gt, lg_cmp_ge, lg_cmp_eq] at hc3); (try simp (disch := omega) only [ta_lt, ta_le, ta_eq, tb_lt, tb_le, tb_eq, tw, tnI, tn32 9999 (by decide), tnj 9999 (by decide), tn32 1 (by decide), tnj 1 (by decide), tl32 0 (by decide), tl64 0 (by decide), tl32 1 (by decide), tl64 1 (by decide), tl32 2 (by decide), tl64 2 (by decide), tl32 3 (by decide), tl64 3 (by decide), tl32 9999 (by decide), tl64 9999 (by decide)] at hc3); (try simp only [lg_cmp_lt, lg_cmp_le, lg_cmp_gt, lg_cmp_ge, lg_cmp_eq] at c5); (try simp (disch := omega) only [ta_lt, ta_le, ta_eq, tb_lt, tb_le, tb_eq, tw, tnI, tn32 9999 (by decide), tnj 9999 (by decide), tn32 1 (by decide), tnj 1 (by decide), tl32 0 (by decide), tl64 0 (by decide), tl32 1 (by decide), tl64 1 (by decide), tl32 2 (by decide), tl64 2 (by decide), tl32 3 (by decide), tl64 3 (by decide), tl32 9999 (by decide), tl64 9999 (by decide)] at c5); (try simp (disch := omega) only [tnI, tn32 9999 (by decide), tnj 9999 (by decide), tn32 1 (by decide), tnj 1 (by decide), tl32 0 (by decide), tl64 0 (by decide), tl32 1 (by decide), tl64 1 (by decide), tl32 2 (by decide), tl64 2 (by decide), tl32 3 (by decide), tl64 3 (by decide), tl32 9999 (by decide), tl64 9999 (by decide)]); (repeat' split) <;> first | rfl | omega | (apply Int32.toInt_inj.mp; simp (disch := omega) only [tnI, tn32 9999 (by decide), tnj 9999 (by decide), tn32 1 (by decide), tnj 1 (by decide), tl32 0 (by decide), tl64 0 (by decide), tl32 1 (by decide), tl64 1 (by decide), tl32 2 (by decide), tl64 2 (by decide), tl32 3 (by decide), tl64 3 (by decide), tl32 9999 (by decide), tl64 9999 (by decide)]; omega))) (dkP dF_172 DX12_put (i := 64) rfl rfl)
      · skip
        refine lv_if_ne (tgt := 34) hx hb (dkS dF_154 DX12_put (i := 14) rfl rfl rfl) (by decide) (fun h => absurd h (by decide)) (fun _ => ?_)
        refine lv_bipush (v := (-2)) hx hb (dks dF_16 DX12_put (i := 15) rfl rfl rfl) (by decide) ?_
        exact z_iret C0 hr hlk hw (by first | rfl | ((try simp only [lg_cmp_lt, lg_cmp_le, lg_cmp_gt, lg_cmp_ge, lg_cmp_eq] at hc1); (try simp (disch := omega) only [ta_lt, ta_le, ta_eq, tb_lt, tb_le, tb_eq, tw, tnI, tn32 9999 (by decide), tnj 9999 (by decide), tn32 2 (by decide), tnj 2 (by decide), tn32 1 (by decide), tnj 1 (by decide), tl32 0 (by decide), tl64 0 (by decide), tl32 1 (by decide), tl64 1 (by decide), tl32 2 (by decide), tl64 2 (by decide), tl32 3 (by decide), tl64 3 (by decide), tl32 9999 (by decide), tl64 9999 (by decide)] at hc1); (try simp only [lg_cmp_lt, lg_cmp_le, lg_cmp_gt, lg_cmp_ge, lg_cmp_eq] at hk_i); (try simp (disch := omega) only [ta_lt, ta_le, ta_eq, tb_lt, tb_le, tb_eq, tw, tnI, tn32 9999 (by decide), tnj 9999 (by decide), tn32 2 (by decide), tnj 2 (by decide), tn32 1 (by decide), tnj 1 (by decide), tl32 0 (by decide), tl64 0 (by decide), tl32 1 (by decide), tl64 1 (by decide), tl32 2 (by decide), tl64 2 (by decide), tl32 3 (by decide), tl64 3 (by decide), tl32 9999 (by decide), tl64 9999 (by decide)] at hk_i); (try simp only [lg_cmp_lt, lg_cmp_le, lg_cmp_gt, lg_cmp_ge, lg_cmp_eq] at hc2); (try simp (disch := omega) only [ta_lt, ta_le, ta_eq, tb_lt, tb_le, tb_eq, tw, tnI, tn32 9999 (by decide), tnj 9999 (by decide), tn32 2 (by decide), tnj 2 (by decide), tn32 1 (by decide), tnj 1 (by decide), tl32 0 (by decide), tl64 0 (by decide), tl32 1 (by decide), tl64 1 (by decide), tl32 2 (by decide), tl64 2 (by decide), tl32 3 (by decide), tl64 3 (by decide), tl32 9999 (by decide), tl64 9999 (by decide)] at hc2); (try simp only [lg_cmp_lt, lg_cmp_le, lg_cmp_gt, lg_cmp_ge, lg_cmp_eq] at hk_sd); (try simp (disch := omega) only [ta_lt, ta_le, ta_eq, tb_lt, tb_le, tb_eq, tw, tnI, tn32 9999 (by decide), tnj 9999 (by decide), tn32 2 (by decide), tnj 2 (by decide), tn32 1 (by decide), tnj 1 (by decide), tl32 0 (by decide), tl64 0 (by decide), tl32 1 (by decide), tl64 1 (by decide), tl32 2 (by decide), tl64 2 (by decide), tl32 3 (by decide), tl64 3 (by decide), tl32 9999 (by decide), tl64 9999 (by decide)] at hk_sd); (try simp only [lg_cmp_lt, lg_cmp_le, lg_cmp_gt, lg_cmp_ge, lg_cmp_eq] at hc3); (try simp (disch := omega) only [ta_lt, ta_le, ta_eq, tb_lt, tb_le, tb_eq, tw, tnI, tn32 9999 (by decide), tnj 9999 (by decide), tn32 2 (by decide), tnj 2 (by decide), tn32 1 (by decide), tnj 1 (by decide), tl32 0 (by decide), tl64 0 (by decide), tl32 1 (by decide), tl64 1 (by decide), tl32 2 (by decide), tl64 2 (by decide), tl32 3 (by decide), tl64 3 (by decide), tl32 9999 (by decide), tl64 9999 (by decide)] at hc3); (try simp (disch := omega) only [tnI, tn32 9999 (by decide), tnj 9999 (by decide), tn32 2 (by decide), tnj 2 (by decide), tn32 1 (by decide), tnj 1 (by decide), tl32 0 (by decide), tl64 0 (by decide), tl32 1 (by decide), tl64 1 (by decide), tl32 2 (by decide), tl64 2 (by decide), tl32 3 (by decide), tl64 3 (by decide), tl32 9999 (by decide), tl64 9999 (by decide)]); (repeat' split) <;> first | rfl | omega | (apply Int32.toInt_inj.mp; simp (disch := omega) only [tnI, tn32 9999 (by decide), tnj 9999 (by decide), tn32 2 (by decide), tnj 2 (by decide), tn32 1 (by decide), tnj 1 (by decide), tl32 0 (by decide), tl64 0 (by decide), tl32 1 (by decide), tl64 1 (by decide), tl32 2 (by decide), tl64 2 (by decide), tl32 3 (by decide), tl64 3 (by decide), tl32 9999 (by decide), tl64 9999 (by decide)]; omega))) (dkP dF_172 DX12_put (i := 16) rfl rfl)
    · skip
      refine lv_if_eq (tgt := 31) hx hb (dkS dF_153 DX12_put (i := 8) rfl rfl rfl) (by decide) (fun _ => ?_) (fun h => absurd h (by decide))
      refine lv_bipush (v := (-2)) hx hb (dks dF_16 DX12_put (i := 15) rfl rfl rfl) (by decide) ?_
      exact z_iret C0 hr hlk hw (by first | rfl | ((try simp only [lg_cmp_lt, lg_cmp_le, lg_cmp_gt, lg_cmp_ge, lg_cmp_eq] at hc1); (try simp (disch := omega) only [ta_lt, ta_le, ta_eq, tb_lt, tb_le, tb_eq, tw, tnI, tn32 9999 (by decide), tnj 9999 (by decide), tn32 2 (by decide), tnj 2 (by decide), tn32 1 (by decide), tnj 1 (by decide), tl32 0 (by decide), tl64 0 (by decide), tl32 1 (by decide), tl64 1 (by decide), tl32 2 (by decide), tl64 2 (by decide), tl32 3 (by decide), tl64 3 (by decide), tl32 9999 (by decide), tl64 9999 (by decide)] at hc1); (try simp only [lg_cmp_lt, lg_cmp_le, lg_cmp_gt, lg_cmp_ge, lg_cmp_eq] at hk_i); (try simp (disch := omega) only [ta_lt, ta_le, ta_eq, tb_lt, tb_le, tb_eq, tw, tnI, tn32 9999 (by decide), tnj 9999 (by decide), tn32 2 (by decide), tnj 2 (by decide), tn32 1 (by decide), tnj 1 (by decide), tl32 0 (by decide), tl64 0 (by decide), tl32 1 (by decide), tl64 1 (by decide), tl32 2 (by decide), tl64 2 (by decide), tl32 3 (by decide), tl64 3 (by decide), tl32 9999 (by decide), tl64 9999 (by decide)] at hk_i); (try simp only [lg_cmp_lt, lg_cmp_le, lg_cmp_gt, lg_cmp_ge, lg_cmp_eq] at hc2); (try simp (disch := omega) only [ta_lt, ta_le, ta_eq, tb_lt, tb_le, tb_eq, tw, tnI, tn32 9999 (by decide), tnj 9999 (by decide), tn32 2 (by decide), tnj 2 (by decide), tn32 1 (by decide), tnj 1 (by decide), tl32 0 (by decide), tl64 0 (by decide), tl32 1 (by decide), tl64 1 (by decide), tl32 2 (by decide), tl64 2 (by decide), tl32 3 (by decide), tl64 3 (by decide), tl32 9999 (by decide), tl64 9999 (by decide)] at hc2); (try simp (disch := omega) only [tnI, tn32 9999 (by decide), tnj 9999 (by decide), tn32 2 (by decide), tnj 2 (by decide), tn32 1 (by decide), tnj 1 (by decide), tl32 0 (by decide), tl64 0 (by decide), tl32 1 (by decide), tl64 1 (by decide), tl32 2 (by decide), tl64 2 (by decide), tl32 3 (by decide), tl64 3 (by decide), tl32 9999 (by decide), tl64 9999 (by decide)]); (repeat' split) <;> first | rfl | omega | (apply Int32.toInt_inj.mp; simp (disch := omega) only [tnI, tn32 9999 (by decide), tnj 9999 (by decide), tn32 2 (by decide), tnj 2 (by decide), tn32 1 (by decide), tnj 1 (by decide), tl32 0 (by decide), tl64 0 (by decide), tl32 1 (by decide), tl64 1 (by decide), tl32 2 (by decide), tl64 2 (by decide), tl32 3 (by decide), tl64 3 (by decide), tl32 9999 (by decide), tl64 9999 (by decide)]; omega))) (dkP dF_172 DX12_put (i := 16) rfl rfl)
  · skip
    refine lv_if_eq (tgt := 31) hx hb (dkS dF_153 DX12_put (i := 2) rfl rfl rfl) (by decide) (fun _ => ?_) (fun h => absurd h (by decide))
    refine lv_bipush (v := (-2)) hx hb (dks dF_16 DX12_put (i := 15) rfl rfl rfl) (by decide) ?_
    exact z_iret C0 hr hlk hw (by first | rfl | ((try simp only [lg_cmp_lt, lg_cmp_le, lg_cmp_gt, lg_cmp_ge, lg_cmp_eq] at hc1); (try simp (disch := omega) only [ta_lt, ta_le, ta_eq, tb_lt, tb_le, tb_eq, tw, tnI, tn32 9999 (by decide), tnj 9999 (by decide), tn32 2 (by decide), tnj 2 (by decide), tn32 1 (by decide), tnj 1 (by decide), tl32 0 (by decide), tl64 0 (by decide), tl32 1 (by decide), tl64 1 (by decide), tl32 2 (by decide), tl64 2 (by decide), tl32 3 (by decide), tl64 3 (by decide), tl32 9999 (by decide), tl64 9999 (by decide)] at hc1); (try simp (disch := omega) only [tnI, tn32 9999 (by decide), tnj 9999 (by decide), tn32 2 (by decide), tnj 2 (by decide), tn32 1 (by decide), tnj 1 (by decide), tl32 0 (by decide), tl64 0 (by decide), tl32 1 (by decide), tl64 1 (by decide), tl32 2 (by decide), tl64 2 (by decide), tl32 3 (by decide), tl64 3 (by decide), tl32 9999 (by decide), tl64 9999 (by decide)]); (repeat' split) <;> first | rfl | omega | (apply Int32.toInt_inj.mp; simp (disch := omega) only [tnI, tn32 9999 (by decide), tnj 9999 (by decide), tn32 2 (by decide), tnj 2 (by decide), tn32 1 (by decide), tnj 1 (by decide), tl32 0 (by decide), tl64 0 (by decide), tl32 1 (by decide), tl64 1 (by decide), tl32 2 (by decide), tl64 2 (by decide), tl32 3 (by decide), tl64 3 (by decide), tl32 9999 (by decide), tl64 9999 (by decide)]; omega))) (dkP dF_172 DX12_put (i := 16) rfl rfl)
