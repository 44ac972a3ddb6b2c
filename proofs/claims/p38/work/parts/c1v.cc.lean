set_option maxRecDepth 100000 in
set_option maxHeartbeats 8000000 in
theorem c_X11_write_q (l : Launch) (G : va_G) (kc : KC) (ad : Nat → Nat) (σ : Sg) (slot : Int32) (ix : Int32) (va : Int64) (hJ : JC σ) (hT : TC σ) : MI l G kc yX11_write cX11_write 5 (some .int) 1 25 [.ref (ad 0), .int slot, .int ix, .long va] shC ad σ (fun r σ1 => (WRQ (σ.1 225) slot ix r) ∧ (JC σ1) ∧ TC σ1 ∧ frC (fun x y => False) σ σ1) := by
  intro sz
  refine z_body (y := yX11_write) (n := 5) (av := [.ref (ad 0), .int slot, .int ix, .long va]) (Qc := fun A => va_Qi (fun r σ1 => (WRQ (σ.1 225) slot ix r) ∧ (JC σ1) ∧ TC σ1 ∧ frC (fun x y => False) σ σ1) (PoC G kc shC ad A) A) (plainFor_of_name (by decide)) (Nat.le_of_ble_eq_true rfl) (fun pr e s m below meth c A C0 hr hlk hnm hw hRo ls hl => ?_) sz
  have hx := C0.1
  have hb := C0.2.1
  have hown := C0.2.2.2.1
  have hts := C0.2.2.2.2.1
  have hl : lv_has ls 5 [(0, .ref (ad 0)), (1, .int slot), (2, .int ix), (3, .long va)] := hl
  obtain ⟨t, u, hto, ht, hun, hu⟩ := hJ.rdr
  obtain ⟨wa, wb, hwa_, hwa, hwb_, hwb, hwab⟩ := hJ.wts
  refine lv_aload_n hx hb (dkP dF_42 DX11_write (i := 0) rfl rfl) rfl (lv_at hl 0 rfl) ?_
  refine z_gr C0 hw 0 7 223 (fk_of shc_0 rfl) fl_X11_51 (dk2 dF_180 DX11_write (i := 1) rfl rfl rfl) ?_
  refine lv_iload_n hx hb (dkP dF_27 DX11_write (i := 2) rfl rfl) rfl (lv_at hl 1 rfl) ?_
  refine zk_I hw (zr_V (As := [.int slot]) (rest := []) C0 (c_X7_isSlot_b l G kc ad σ slot hT _) cv_X7_isSlot lk_X11_228 (zp_V C0 hRo hw 223 shc_223 rfl rfl) rfl hl.1 rfl ⟨by decide, by decide⟩ (Nat.le_of_ble_eq_true rfl) (dk2 dF_182 DX11_write (i := 3) rfl rfl rfl) ⟨Nat.le_refl _, Nat.le_refl _⟩) (fun r1 s1 H locs hp hw => ?_)
  obtain ⟨f1_0, hs1⟩ := hp
  (rw [hs1] at hw)
  rcases f1_0 with ⟨rfl, hc1⟩ | ⟨rfl, hc1⟩
  · skip
    refine lv_if_ne (tgt := 14) hx hb (dkS dF_154 DX11_write (i := 4) rfl rfl rfl) (by decide) (fun _ => ?_) (fun h => absurd h (by decide))
    obtain ⟨sn_, hsn_, rfl⟩ := to_nat (x := slot) (n := 4) (by (try simp only [lg_cmp_lt, lg_cmp_le, lg_cmp_gt, lg_cmp_ge, lg_cmp_eq] at f1_0); (try simp (disch := omega) only [ta_lt, ta_le, ta_eq, tb_lt, tb_le, tb_eq, tw, tnI, tsub1, tsv, tsb32, tn32 1 (by decide), tnj 1 (by decide), tl32 0 (by decide), tl64 0 (by decide)] at f1_0); (try simp only [lg_cmp_lt, lg_cmp_le, lg_cmp_gt, lg_cmp_ge, lg_cmp_eq] at hc1); (try simp (disch := omega) only [ta_lt, ta_le, ta_eq, tb_lt, tb_le, tb_eq, tw, tnI, tsub1, tsv, tsb32, tn32 1 (by decide), tnj 1 (by decide), tl32 0 (by decide), tl64 0 (by decide)] at hc1); (try simp (disch := omega) only [ta_lt, ta_le, ta_eq, tb_lt, tb_le, tb_eq, tw, tnI, tsub1, tsv, tsb32, tn32 1 (by decide), tnj 1 (by decide), tl32 0 (by decide), tl64 0 (by decide)]); omega)
    refine lv_aload_n hx hb (dkP dF_42 DX11_write (i := 7) rfl rfl) rfl (lv_at hl 0 rfl) ?_
    refine z_gr C0 hw 0 7 223 (fk_of shc_0 rfl) fl_X11_51 (dk2 dF_180 DX11_write (i := 8) rfl rfl rfl) ?_
    refine lv_iload_n hx hb (dkP dF_27 DX11_write (i := 9) rfl rfl) rfl (lv_at hl 1 rfl) ?_
    refine zk_I hw (zr_V (As := [.int (nI sn_)]) (rest := []) C0 (c_X7_hasNumbers l G kc ad σ sn_ (by omega) hT _) cv_X7_hasNumbers lk_X11_231 (zp_V C0 hRo hw 223 shc_223 rfl rfl) rfl hl.1 rfl ⟨by decide, by decide⟩ (Nat.le_of_ble_eq_true rfl) (dk2 dF_182 DX11_write (i := 10) rfl rfl rfl) ⟨Nat.le_refl _, Nat.le_refl _⟩) (fun r2 s2 H locs hp hw => ?_)
    obtain ⟨f2_0, hs2⟩ := hp
    (rw [hs2] at hw)
    rcases f2_0 with ⟨rfl, hc2⟩ | ⟨rfl, hc2⟩
    · skip
      refine lv_if_ne (tgt := 28) hx hb (dkS dF_154 DX11_write (i := 11) rfl rfl rfl) (by decide) (fun _ => ?_) (fun h => absurd h (by decide))
      refine lv_aload_n hx hb (dkP dF_42 DX11_write (i := 14) rfl rfl) rfl (lv_at hl 0 rfl) ?_
      refine z_gr C0 hw 0 7 223 (fk_of shc_0 rfl) fl_X11_51 (dk2 dF_180 DX11_write (i := 15) rfl rfl rfl) ?_
      refine lv_iload_n hx hb (dkP dF_27 DX11_write (i := 16) rfl rfl) rfl (lv_at hl 1 rfl) ?_
      refine lv_iload_n hx hb (dkP dF_28 DX11_write (i := 17) rfl rfl) rfl (lv_at hl 2 rfl) ?_
      refine lv_iconst (v := 1) hx hb (dkP dF_4 DX11_write (i := 18) rfl rfl) (by decide) ?_
      refine zk_I hw (zr_V (As := [.int (nI sn_), .int ix, .int 1]) (rest := []) C0 (c_X7_hasRange_b l G kc ad σ sn_ ix 1 (by omega) hT _) cv_X7_hasRange lk_X11_347 (zp_V C0 hRo hw 223 shc_223 rfl rfl) rfl hl.1 rfl ⟨by decide, by decide⟩ (Nat.le_of_ble_eq_true rfl) (dk2 dF_182 DX11_write (i := 19) rfl rfl rfl) ⟨Nat.le_refl _, Nat.le_refl _⟩) (fun r3 s3 H locs hp hw => ?_)
      obtain ⟨f3_0, hs3⟩ := hp
      (rw [hs3] at hw)
      rcases f3_0 with ⟨rfl, hc3⟩ | ⟨rfl, hc3⟩
      · skip
        refine lv_if_ne (tgt := 44) hx hb (dkS dF_154 DX11_write (i := 20) rfl rfl rfl) (by decide) (fun _ => ?_) (fun h => absurd h (by decide))
        have hL6 : -1 ≤ (σ.1 225 sn_).toInt ∧ (σ.1 225 sn_).toInt ≤ 60 := (tcr_18 hT tcl_225)
        obtain ⟨xn_, hxn_, rfl⟩ := to_nat (x := ix) (n := 60) (by (try simp only [lg_cmp_lt, lg_cmp_le, lg_cmp_gt, lg_cmp_ge, lg_cmp_eq] at f1_0); (try simp (disch := omega) only [ta_lt, ta_le, ta_eq, tb_lt, tb_le, tb_eq, tw, tnI, tsub1, tsv, tsb32, tn32 1 (by decide), tnj 1 (by decide), tl32 0 (by decide), tl64 0 (by decide), tl32 1 (by decide), tl64 1 (by decide)] at f1_0); (try simp only [lg_cmp_lt, lg_cmp_le, lg_cmp_gt, lg_cmp_ge, lg_cmp_eq] at hc1); (try simp (disch := omega) only [ta_lt, ta_le, ta_eq, tb_lt, tb_le, tb_eq, tw, tnI, tsub1, tsv, tsb32, tn32 1 (by decide), tnj 1 (by decide), tl32 0 (by decide), tl64 0 (by decide), tl32 1 (by decide), tl64 1 (by decide)] at hc1); (try simp only [lg_cmp_lt, lg_cmp_le, lg_cmp_gt, lg_cmp_ge, lg_cmp_eq] at f2_0); (try simp (disch := omega) only [ta_lt, ta_le, ta_eq, tb_lt, tb_le, tb_eq, tw, tnI, tsub1, tsv, tsb32, tn32 1 (by decide), tnj 1 (by decide), tl32 0 (by decide), tl64 0 (by decide), tl32 1 (by decide), tl64 1 (by decide)] at f2_0); (try simp only [lg_cmp_lt, lg_cmp_le, lg_cmp_gt, lg_cmp_ge, lg_cmp_eq] at hc2); (try simp (disch := omega) only [ta_lt, ta_le, ta_eq, tb_lt, tb_le, tb_eq, tw, tnI, tsub1, tsv, tsb32, tn32 1 (by decide), tnj 1 (by decide), tl32 0 (by decide), tl64 0 (by decide), tl32 1 (by decide), tl64 1 (by decide)] at hc2); (try simp only [lg_cmp_lt, lg_cmp_le, lg_cmp_gt, lg_cmp_ge, lg_cmp_eq] at f3_0); (try simp (disch := omega) only [ta_lt, ta_le, ta_eq, tb_lt, tb_le, tb_eq, tw, tnI, tsub1, tsv, tsb32, tn32 1 (by decide), tnj 1 (by decide), tl32 0 (by decide), tl64 0 (by decide), tl32 1 (by decide), tl64 1 (by decide)] at f3_0); (try simp only [lg_cmp_lt, lg_cmp_le, lg_cmp_gt, lg_cmp_ge, lg_cmp_eq] at hc3); (try simp (disch := omega) only [ta_lt, ta_le, ta_eq, tb_lt, tb_le, tb_eq, tw, tnI, tsub1, tsv, tsb32, tn32 1 (by decide), tnj 1 (by decide), tl32 0 (by decide), tl64 0 (by decide), tl32 1 (by decide), tl64 1 (by decide)] at hc3); (try simp (disch := omega) only [ta_lt, ta_le, ta_eq, tb_lt, tb_le, tb_eq, tw, tnI, tsub1, tsv, tsb32, tn32 1 (by decide), tnj 1 (by decide), tl32 0 (by decide), tl64 0 (by decide), tl32 1 (by decide), tl64 1 (by decide)]); omega)
        refine lv_aload_n hx hb (dkP dF_42 DX11_write (i := 23) rfl rfl) rfl (lv_at hl 0 rfl) ?_
        refine z_gr C0 hw 0 7 223 (fk_of shc_0 rfl) fl_X11_51 (dk2 dF_180 DX11_write (i := 24) rfl rfl rfl) ?_
        refine lv_iload_n hx hb (dkP dF_27 DX11_write (i := 25) rfl rfl) rfl (lv_at hl 1 rfl) ?_
        refine lv_iload_n hx hb (dkP dF_28 DX11_write (i := 26) rfl rfl) rfl (lv_at hl 2 rfl) ?_
        refine lv_lload_n hx hb (dkP dF_33 DX11_write (i := 27) rfl rfl) rfl (lv_at hl 3 rfl) ?_
        refine zk_V hw (zr_V (As := [.int (nI sn_), .int (nI xn_), .long va]) (rest := []) C0 (c_X7_enter l G kc ad σ sn_ xn_ va (by omega) (by omega) hT _) cv_X7_enter lk_X11_350 (zp_V C0 hRo hw 223 shc_223 rfl rfl) rfl hl.1 rfl ⟨by decide, by decide⟩ (Nat.le_of_ble_eq_true rfl) (dk2 dF_182 DX11_write (i := 28) rfl rfl rfl) ⟨Nat.le_refl _, Nat.le_refl _⟩) (fun s4 H locs hp hw => ?_)
        obtain ⟨hT4, hG4⟩ := hp
        have hF4 : frC (fun x y => False) σ s4 := frC.t frC.refl hG4 (fun x y h => by have h : False := h; show False; exact False.elim h)
        refine lv_iconst (v := 0) hx hb (dkP dF_3 DX11_write (i := 29) rfl rfl) (by decide) ?_
        exact z_iret C0 hr hlk hw (⟨(Or.inr ⟨sn_, by omega, rfl, Or.inr (Or.inr ⟨fun z => hc2 (Int32.toInt_inj.mp (z.trans (by decide))), by have h_ := hc3; (try simp only [tl32 1 (by decide)] at h_); omega, by have h_ := hc3; (try simp only [tl32 1 (by decide)] at h_); omega, rfl⟩)⟩), (hJ.fr hF4.2 (fun x y hj => hF4.1 x y (fun h_ => by have h_ : False := h_; unfold jcq at hj; exact h_))), hT4, hF4⟩) (dkP dF_172 DX11_write (i := 30) rfl rfl)
      · skip
        refine lv_if_ne (tgt := 44) hx hb (dkS dF_154 DX11_write (i := 20) rfl rfl rfl) (by decide) (fun h => absurd h (by decide)) (fun _ => ?_)
        refine lv_bipush (v := (-7)) hx hb (dks dF_16 DX11_write (i := 21) rfl rfl rfl) (by decide) ?_
        exact z_iret C0 hr hlk hw (⟨(Or.inr ⟨sn_, by omega, rfl, Or.inr (Or.inl ⟨fun z => hc2 (Int32.toInt_inj.mp (z.trans (by decide))), by have h_ := hc3; (try simp only [tl32 1 (by decide)] at h_); omega, rfl⟩)⟩), hJ, hT, frC.refl⟩) (dkP dF_172 DX11_write (i := 22) rfl rfl)
    · skip
      refine lv_if_ne (tgt := 28) hx hb (dkS dF_154 DX11_write (i := 11) rfl rfl rfl) (by decide) (fun h => absurd h (by decide)) (fun _ => ?_)
      refine lv_bipush (v := (-6)) hx hb (dks dF_16 DX11_write (i := 12) rfl rfl rfl) (by decide) ?_
      exact z_iret C0 hr hlk hw (⟨(Or.inr ⟨sn_, by omega, rfl, Or.inl ⟨by rw [hc2]; decide, rfl⟩⟩), hJ, hT, frC.refl⟩) (dkP dF_172 DX11_write (i := 13) rfl rfl)
  · skip
    refine lv_if_ne (tgt := 14) hx hb (dkS dF_154 DX11_write (i := 4) rfl rfl rfl) (by decide) (fun h => absurd h (by decide)) (fun _ => ?_)
    refine lv_bipush (v := (-2)) hx hb (dks dF_16 DX11_write (i := 5) rfl rfl rfl) (by decide) ?_
    exact z_iret C0 hr hlk hw (⟨(by unfold WRQ; left; refine ⟨?_, rfl⟩; (try simp only [lg_cmp_lt, lg_cmp_le, lg_cmp_gt, lg_cmp_ge, lg_cmp_eq] at f1_0); (try simp (disch := omega) only [ta_lt, ta_le, ta_eq, tb_lt, tb_le, tb_eq, tw, tnI, tsub1, tsv, tsb32, tn32 7 (by decide), tnj 7 (by decide), tn32 6 (by decide), tnj 6 (by decide), tn32 2 (by decide), tnj 2 (by decide), tn32 1 (by decide), tnj 1 (by decide), tl32 0 (by decide), tl64 0 (by decide), tl32 1 (by decide), tl64 1 (by decide)] at f1_0); (try simp only [lg_cmp_lt, lg_cmp_le, lg_cmp_gt, lg_cmp_ge, lg_cmp_eq] at hc1); (try simp (disch := omega) only [ta_lt, ta_le, ta_eq, tb_lt, tb_le, tb_eq, tw, tnI, tsub1, tsv, tsb32, tn32 7 (by decide), tnj 7 (by decide), tn32 6 (by decide), tnj 6 (by decide), tn32 2 (by decide), tnj 2 (by decide), tn32 1 (by decide), tnj 1 (by decide), tl32 0 (by decide), tl64 0 (by decide), tl32 1 (by decide), tl64 1 (by decide)] at hc1); (try simp (disch := omega) only [ta_lt, ta_le, ta_eq, tb_lt, tb_le, tb_eq, tw, tnI, tsub1, tsv, tsb32, tn32 7 (by decide), tnj 7 (by decide), tn32 6 (by decide), tnj 6 (by decide), tn32 2 (by decide), tnj 2 (by decide), tn32 1 (by decide), tnj 1 (by decide), tl32 0 (by decide), tl64 0 (by decide), tl32 1 (by decide), tl64 1 (by decide)]); omega), hJ, hT, frC.refl⟩) (dkP dF_172 DX11_write (i := 6) rfl rfl)
