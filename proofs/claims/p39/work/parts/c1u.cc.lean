set_option maxRecDepth 100000 in
set_option maxHeartbeats 8000000 in
theorem c_X7_hasRange_b (l : Launch) (G : va_G) (kc : KC) (ad : Nat → Nat) (σ : Sg) (slot : Nat) (ix : Int32) (nx : Int32) (hsl : slot < 4) (hT : TC σ) : MI l G kc yX7_hasRange cX7_hasRange 4 (some .boolean) 0 0 [.ref (ad 223), .int (nI slot), .int ix, .int nx] shC ad σ (fun r σ1 => ((r = 1 ∧ (0 ≤ ix.toInt ∧ 0 ≤ nx.toInt ∧ ix.toInt + nx.toInt ≤ (σ.1 225 slot).toInt)) ∨ (r = 0 ∧ (¬ (0 ≤ ix.toInt ∧ 0 ≤ nx.toInt ∧ ix.toInt + nx.toInt ≤ (σ.1 225 slot).toInt)))) ∧ σ1 = σ) := by
  intro sz
  refine z_body (y := yX7_hasRange) (n := 4) (av := [.ref (ad 223), .int (nI slot), .int ix, .int nx]) (Qc := fun A => va_Qi (fun r σ1 => ((r = 1 ∧ (0 ≤ ix.toInt ∧ 0 ≤ nx.toInt ∧ ix.toInt + nx.toInt ≤ (σ.1 225 slot).toInt)) ∨ (r = 0 ∧ (¬ (0 ≤ ix.toInt ∧ 0 ≤ nx.toInt ∧ ix.toInt + nx.toInt ≤ (σ.1 225 slot).toInt)))) ∧ σ1 = σ) (PoC G kc shC ad A) A) (plainFor_of_name (by decide)) (Nat.le_of_ble_eq_true rfl) (fun pr e s m below meth c A C0 hr hlk hnm hw hRo ls hl => ?_) sz
  have hx := C0.1
  have hb := C0.2.1
  have hown := C0.2.2.2.1
  have hts := C0.2.2.2.2.1
  have hl : lv_has ls 4 [(0, .ref (ad 223)), (1, .int (nI slot)), (2, .int ix), (3, .int nx)] := hl
  refine lv_iload_n hx hb (dkP dF_28 DX7_hasRange (i := 0) rfl rfl) rfl (lv_at hl 2 rfl) ?_
  refine lv_if_lt (tgt := 24) hx hb (dkS dF_155 DX7_hasRange (i := 1) rfl rfl rfl) (by decide) (fun c1 => ?_) (fun c1 => ?_)
  · (try simp (disch := omega) only [ta_lt, ta_le, ta_eq, tnI, tl32 0 (by decide)] at c1)
    refine lv_iconst (v := 0) hx hb (dkP dF_3 DX7_hasRange (i := 14) rfl rfl) (by decide) ?_
    exact z_zret C0 hr hlk (by decide) hw (⟨(Or.inr ⟨rfl, (by (try simp only [lg_cmp_lt, lg_cmp_le, lg_cmp_gt, lg_cmp_ge, lg_cmp_eq] at c1); (try simp (disch := omega) only [ta_lt, ta_le, ta_eq, tb_lt, tb_le, tb_eq, tw, tnI, tsub1, tsv, tsb32, tn32 1 (by decide), tnj 1 (by decide), tl32 0 (by decide), tl64 0 (by decide)] at c1); (try simp (disch := omega) only [ta_lt, ta_le, ta_eq, tb_lt, tb_le, tb_eq, tw, tnI, tsub1, tsv, tsb32, tn32 1 (by decide), tnj 1 (by decide), tl32 0 (by decide), tl64 0 (by decide)]); omega)⟩), rfl⟩) (dkP dF_172 DX7_hasRange (i := 15) rfl rfl)
  · (try simp (disch := omega) only [ta_lt, ta_le, ta_eq, tnI, tl32 0 (by decide)] at c1)
    refine lv_iload_n hx hb (dkP dF_29 DX7_hasRange (i := 2) rfl rfl) rfl (lv_at hl 3 rfl) ?_
    refine lv_if_lt (tgt := 24) hx hb (dkS dF_155 DX7_hasRange (i := 3) rfl rfl rfl) (by decide) (fun c2 => ?_) (fun c2 => ?_)
    · (try simp (disch := omega) only [ta_lt, ta_le, ta_eq, tnI, tl32 0 (by decide)] at c2)
      refine lv_iconst (v := 0) hx hb (dkP dF_3 DX7_hasRange (i := 14) rfl rfl) (by decide) ?_
      exact z_zret C0 hr hlk (by decide) hw (⟨(Or.inr ⟨rfl, (by (try simp only [lg_cmp_lt, lg_cmp_le, lg_cmp_gt, lg_cmp_ge, lg_cmp_eq] at c1); (try simp (disch := omega) only [ta_lt, ta_le, ta_eq, tb_lt, tb_le, tb_eq, tw, tnI, tsub1, tsv, tsb32, tn32 1 (by decide), tnj 1 (by decide), tl32 0 (by decide), tl64 0 (by decide)] at c1); (try simp only [lg_cmp_lt, lg_cmp_le, lg_cmp_gt, lg_cmp_ge, lg_cmp_eq] at c2); (try simp (disch := omega) only [ta_lt, ta_le, ta_eq, tb_lt, tb_le, tb_eq, tw, tnI, tsub1, tsv, tsb32, tn32 1 (by decide), tnj 1 (by decide), tl32 0 (by decide), tl64 0 (by decide)] at c2); (try simp (disch := omega) only [ta_lt, ta_le, ta_eq, tb_lt, tb_le, tb_eq, tw, tnI, tsub1, tsv, tsb32, tn32 1 (by decide), tnj 1 (by decide), tl32 0 (by decide), tl64 0 (by decide)]); omega)⟩), rfl⟩) (dkP dF_172 DX7_hasRange (i := 15) rfl rfl)
    · (try simp (disch := omega) only [ta_lt, ta_le, ta_eq, tnI, tl32 0 (by decide)] at c2)
      have hzi := i32b nx
      have hzj := i32b ix
      refine lv_iload_n hx hb (dkP dF_28 DX7_hasRange (i := 4) rfl rfl) rfl (lv_at hl 2 rfl) ?_
      refine lv_aload_n hx hb (dkP dF_42 DX7_hasRange (i := 5) rfl rfl) rfl (lv_at hl 0 rfl) ?_
      refine z_gr C0 hw 223 1 225 (fk_of shc_223 rfl) fl_X7_15 (dk2 dF_180 DX7_hasRange (i := 6) rfl rfl rfl) ?_
      refine lv_iload_n hx hb (dkP dF_27 DX7_hasRange (i := 7) rfl rfl) rfl (lv_at hl 1 rfl) ?_
      refine z_ialdN (n := 4) C0 hw 225 slot (ak_of shc_225) (by omega) (by decide) (dkP dF_46 DX7_hasRange (i := 8) rfl rfl) ?_
      obtain ⟨v3, ev3⟩ : ∃ y : Int32, σ.1 225 slot = y := ⟨_, rfl⟩
      have hv3 : -1 ≤ v3.toInt ∧ v3.toInt ≤ 60 := by rw [← ev3]; exact (tcr_18 hT tcl_225)
      refine z_top (y := v3) ev3 ?_
      refine lv_iload_n hx hb (dkP dF_29 DX7_hasRange (i := 9) rfl rfl) rfl (lv_at hl 3 rfl) ?_
      refine lv_isub hx hb (dkP dF_100 DX7_hasRange (i := 10) rfl rfl) ?_
      refine lv_icmp_gt (tgt := 24) hx hb (dkS dF_163 DX7_hasRange (i := 11) rfl rfl rfl) (by decide) (fun c4 => ?_) (fun c4 => ?_)
      · skip
        refine lv_iconst (v := 0) hx hb (dkP dF_3 DX7_hasRange (i := 14) rfl rfl) (by decide) ?_
        exact z_zret C0 hr hlk (by decide) hw (⟨(Or.inr ⟨rfl, (by rw [ev3]; (try simp only [lg_cmp_lt, lg_cmp_le, lg_cmp_gt, lg_cmp_ge, lg_cmp_eq] at c1); (try simp (disch := omega) only [ta_lt, ta_le, ta_eq, tb_lt, tb_le, tb_eq, tw, tnI, tsub1, tsv, tsb32, tn32 1 (by decide), tnj 1 (by decide), tl32 0 (by decide), tl64 0 (by decide)] at c1); (try simp only [lg_cmp_lt, lg_cmp_le, lg_cmp_gt, lg_cmp_ge, lg_cmp_eq] at c2); (try simp (disch := omega) only [ta_lt, ta_le, ta_eq, tb_lt, tb_le, tb_eq, tw, tnI, tsub1, tsv, tsb32, tn32 1 (by decide), tnj 1 (by decide), tl32 0 (by decide), tl64 0 (by decide)] at c2); (try simp only [lg_cmp_lt, lg_cmp_le, lg_cmp_gt, lg_cmp_ge, lg_cmp_eq] at c4); (try simp (disch := omega) only [ta_lt, ta_le, ta_eq, tb_lt, tb_le, tb_eq, tw, tnI, tsub1, tsv, tsb32, tn32 1 (by decide), tnj 1 (by decide), tl32 0 (by decide), tl64 0 (by decide)] at c4); (try simp (disch := omega) only [ta_lt, ta_le, ta_eq, tb_lt, tb_le, tb_eq, tw, tnI, tsub1, tsv, tsb32, tn32 1 (by decide), tnj 1 (by decide), tl32 0 (by decide), tl64 0 (by decide)]); omega)⟩), rfl⟩) (dkP dF_172 DX7_hasRange (i := 15) rfl rfl)
      · skip
        refine lv_iconst (v := 1) hx hb (dkP dF_4 DX7_hasRange (i := 12) rfl rfl) (by decide) ?_
        refine lv_goto (tgt := 25) hx hb (dkS dF_167 DX7_hasRange (i := 13) rfl rfl rfl) (by decide) ?_
        exact z_zret C0 hr hlk (by decide) hw (⟨(Or.inl ⟨rfl, (by rw [ev3]; (try simp only [lg_cmp_lt, lg_cmp_le, lg_cmp_gt, lg_cmp_ge, lg_cmp_eq] at c1); (try simp (disch := omega) only [ta_lt, ta_le, ta_eq, tb_lt, tb_le, tb_eq, tw, tnI, tsub1, tsv, tsb32, tn32 1 (by decide), tnj 1 (by decide), tl32 0 (by decide), tl64 0 (by decide), tl32 1 (by decide), tl64 1 (by decide)] at c1); (try simp only [lg_cmp_lt, lg_cmp_le, lg_cmp_gt, lg_cmp_ge, lg_cmp_eq] at c2); (try simp (disch := omega) only [ta_lt, ta_le, ta_eq, tb_lt, tb_le, tb_eq, tw, tnI, tsub1, tsv, tsb32, tn32 1 (by decide), tnj 1 (by decide), tl32 0 (by decide), tl64 0 (by decide), tl32 1 (by decide), tl64 1 (by decide)] at c2); (try simp only [lg_cmp_lt, lg_cmp_le, lg_cmp_gt, lg_cmp_ge, lg_cmp_eq] at c4); (try simp (disch := omega) only [ta_lt, ta_le, ta_eq, tb_lt, tb_le, tb_eq, tw, tnI, tsub1, tsv, tsb32, tn32 1 (by decide), tnj 1 (by decide), tl32 0 (by decide), tl64 0 (by decide), tl32 1 (by decide), tl64 1 (by decide)] at c4); (try simp (disch := omega) only [ta_lt, ta_le, ta_eq, tb_lt, tb_le, tb_eq, tw, tnI, tsub1, tsv, tsb32, tn32 1 (by decide), tnj 1 (by decide), tl32 0 (by decide), tl64 0 (by decide), tl32 1 (by decide), tl64 1 (by decide)]); omega)⟩), rfl⟩) (dkP dF_172 DX7_hasRange (i := 15) rfl rfl)
