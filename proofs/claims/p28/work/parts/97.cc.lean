theorem JC.arv {σ : Sg} {k t u x : Nat} (h : JC σ) (hk : k < 8) (ht : σ.2.2 (8 + 22 * k) 2 = some t) (hu : σ.2.2 (8 + 22 * k) 3 = some u) (hx : ARV (8 + 22 * k) t u x) : jcq x := by
  obtain ⟨o, n, h1, -⟩ := h
  have e1 : o k = t := Option.some.inj ((h1.1 k hk).1.symm.trans ht)
  have e2 : n k = u := Option.some.inj ((h1.1 k hk).2.symm.trans hu)
  subst e1
  subst e2
  exact jcM hk (h1.2.2.2.1 k (by omega)).1 (h1.2.2.2.1 k (by omega)).2 hx
def SHQ (s w n r : Int32) : Prop := ((s.toInt < 0 ∨ 3 < s.toInt ∨ w.toInt < 0 ∨ 3 < w.toInt ∨ 60 < n.toInt) ∧ r = -2) ∨ (0 ≤ s.toInt ∧ s.toInt ≤ 3 ∧ 0 ≤ w.toInt ∧ w.toInt ≤ 3 ∧ n.toInt < 0 ∧ r = -3) ∨ (0 ≤ s.toInt ∧ s.toInt ≤ 3 ∧ 0 ≤ w.toInt ∧ w.toInt ≤ 3 ∧ 0 ≤ n.toInt ∧ n.toInt ≤ 60 ∧ r = 0)
theorem SHQ.one {s w n r q : Int32} (h1 : SHQ s w n r) (h2 : SHQ s w n q) : r = q := by
  unfold SHQ at h1 h2
  rcases h1 with ⟨a, rfl⟩ | ⟨a1, a2, a3, a4, a5, rfl⟩ | ⟨a1, a2, a3, a4, a5, a6, rfl⟩ <;> rcases h2 with ⟨b, rfl⟩ | ⟨b1, b2, b3, b4, b5, rfl⟩ | ⟨b1, b2, b3, b4, b5, b6, rfl⟩ <;> first | rfl | (exfalso; omega)
def KQ (k r : Int32) : Prop := ((k.toInt < 0 ∨ 2 < k.toInt) ∧ r = -2) ∨ (0 ≤ k.toInt ∧ k.toInt ≤ 2 ∧ r = 0)
theorem KQ.one {k r q : Int32} (h1 : KQ k r) (h2 : KQ k q) : r = q := by
  unfold KQ at h1 h2
  rcases h1 with ⟨a, rfl⟩ | ⟨a1, a2, rfl⟩ <;> rcases h2 with ⟨b, rfl⟩ | ⟨b1, b2, rfl⟩ <;> first | rfl | (exfalso; omega)
def FMQ (m k r : Int32) : Prop := ((m.toInt < 1 ∨ 9 < m.toInt ∨ k.toInt < -99 ∨ 99 < k.toInt) ∧ r = -2) ∨ (1 ≤ m.toInt ∧ m.toInt ≤ 9 ∧ -99 ≤ k.toInt ∧ k.toInt ≤ 99 ∧ r = 0)
theorem FMQ.one {m k r q : Int32} (h1 : FMQ m k r) (h2 : FMQ m k q) : r = q := by
  unfold FMQ at h1 h2
  rcases h1 with ⟨a, rfl⟩ | ⟨a1, a2, a3, a4, rfl⟩ <;> rcases h2 with ⟨b, rfl⟩ | ⟨b1, b2, b3, b4, rfl⟩ <;> first | rfl | (exfalso; omega)
theorem pgn2 : True := trivial
set_option maxRecDepth 100000 in
set_option maxHeartbeats 8000000 in
theorem c_X7_isSlot_b (l : Launch) (G : va_G) (kc : KC) (ad : Nat → Nat) (σ : Sg) (slot : Int32) (hT : TC σ) : MI l G kc yX7_isSlot cX7_isSlot 2 (some .boolean) 0 0 [.ref (ad 223), .int slot] shC ad σ (fun r σ1 => ((r = 1 ∧ (0 ≤ slot.toInt ∧ slot.toInt ≤ 3)) ∨ (r = 0 ∧ (slot.toInt < 0 ∨ 3 < slot.toInt))) ∧ σ1 = σ) := by
  intro sz
  refine z_body (y := yX7_isSlot) (n := 2) (av := [.ref (ad 223), .int slot]) (Qc := fun A => va_Qi (fun r σ1 => ((r = 1 ∧ (0 ≤ slot.toInt ∧ slot.toInt ≤ 3)) ∨ (r = 0 ∧ (slot.toInt < 0 ∨ 3 < slot.toInt))) ∧ σ1 = σ) (PoC G kc shC ad A) A) (plainFor_of_name (by decide)) (Nat.le_of_ble_eq_true rfl) (fun pr e s m below meth c A C0 hr hlk hnm hw hRo ls hl => ?_) sz
  have hx := C0.1
  have hb := C0.2.1
  have hown := C0.2.2.2.1
  have hts := C0.2.2.2.2.1
  have hl : lv_has ls 2 [(0, .ref (ad 223)), (1, .int slot)] := hl
  refine lv_iload_n hx hb (dkP dF_27 DX7_isSlot (i := 0) rfl rfl) rfl (lv_at hl 1 rfl) ?_
  refine lv_if_lt (tgt := 13) hx hb (dkS dF_155 DX7_isSlot (i := 1) rfl rfl rfl) (by decide) (fun c1 => ?_) (fun c1 => ?_)
  · (try simp (disch := omega) only [ta_lt, ta_le, ta_eq, tnI, tl32 0 (by decide)] at c1)
    refine lv_iconst (v := 0) hx hb (dkP dF_3 DX7_isSlot (i := 7) rfl rfl) (by decide) ?_
    exact z_zret C0 hr hlk (by decide) hw (⟨(Or.inr ⟨rfl, (by (try simp only [lg_cmp_lt, lg_cmp_le, lg_cmp_gt, lg_cmp_ge, lg_cmp_eq] at c1); (try simp (disch := omega) only [ta_lt, ta_le, ta_eq, tb_lt, tb_le, tb_eq, tw, tnI, tsub1, tsv, tsb32, tn32 1 (by decide), tnj 1 (by decide), tl32 0 (by decide), tl64 0 (by decide)] at c1); (try simp (disch := omega) only [ta_lt, ta_le, ta_eq, tb_lt, tb_le, tb_eq, tw, tnI, tsub1, tsv, tsb32, tn32 1 (by decide), tnj 1 (by decide), tl32 0 (by decide), tl64 0 (by decide)]); omega)⟩), rfl⟩) (dkP dF_172 DX7_isSlot (i := 8) rfl rfl)
  · (try simp (disch := omega) only [ta_lt, ta_le, ta_eq, tnI, tl32 0 (by decide)] at c1)
    refine lv_iload_n hx hb (dkP dF_27 DX7_isSlot (i := 2) rfl rfl) rfl (lv_at hl 1 rfl) ?_
    refine lv_iconst (v := 4) hx hb (dkP dF_7 DX7_isSlot (i := 3) rfl rfl) (by decide) ?_
    refine lv_icmp_ge (tgt := 13) hx hb (dkS dF_162 DX7_isSlot (i := 4) rfl rfl rfl) (by decide) (fun c2 => ?_) (fun c2 => ?_)
    · (try simp (disch := omega) only [ta_lt, ta_le, ta_eq, tnI, tl32 4 (by decide)] at c2)
      refine lv_iconst (v := 0) hx hb (dkP dF_3 DX7_isSlot (i := 7) rfl rfl) (by decide) ?_
      exact z_zret C0 hr hlk (by decide) hw (⟨(Or.inr ⟨rfl, (by (try simp only [lg_cmp_lt, lg_cmp_le, lg_cmp_gt, lg_cmp_ge, lg_cmp_eq] at c1); (try simp (disch := omega) only [ta_lt, ta_le, ta_eq, tb_lt, tb_le, tb_eq, tw, tnI, tsub1, tsv, tsb32, tn32 1 (by decide), tnj 1 (by decide), tl32 0 (by decide), tl64 0 (by decide), tl32 4 (by decide), tl64 4 (by decide)] at c1); (try simp only [lg_cmp_lt, lg_cmp_le, lg_cmp_gt, lg_cmp_ge, lg_cmp_eq] at c2); (try simp (disch := omega) only [ta_lt, ta_le, ta_eq, tb_lt, tb_le, tb_eq, tw, tnI, tsub1, tsv, tsb32, tn32 1 (by decide), tnj 1 (by decide), tl32 0 (by decide), tl64 0 (by decide), tl32 4 (by decide), tl64 4 (by decide)] at c2); (try simp (disch := omega) only [ta_lt, ta_le, ta_eq, tb_lt, tb_le, tb_eq, tw, tnI, tsub1, tsv, tsb32, tn32 1 (by decide), tnj 1 (by decide), tl32 0 (by decide), tl64 0 (by decide), tl32 4 (by decide), tl64 4 (by decide)]); omega)⟩), rfl⟩) (dkP dF_172 DX7_isSlot (i := 8) rfl rfl)
    · (try simp (disch := omega) only [ta_lt, ta_le, ta_eq, tnI, tl32 4 (by decide)] at c2)
      refine lv_iconst (v := 1) hx hb (dkP dF_4 DX7_isSlot (i := 5) rfl rfl) (by decide) ?_
      refine lv_goto (tgt := 14) hx hb (dkS dF_167 DX7_isSlot (i := 6) rfl rfl rfl) (by decide) ?_
      exact z_zret C0 hr hlk (by decide) hw (⟨(Or.inl ⟨rfl, (by (try simp only [lg_cmp_lt, lg_cmp_le, lg_cmp_gt, lg_cmp_ge, lg_cmp_eq] at c1); (try simp (disch := omega) only [ta_lt, ta_le, ta_eq, tb_lt, tb_le, tb_eq, tw, tnI, tsub1, tsv, tsb32, tn32 1 (by decide), tnj 1 (by decide), tl32 0 (by decide), tl64 0 (by decide), tl32 1 (by decide), tl64 1 (by decide), tl32 4 (by decide), tl64 4 (by decide)] at c1); (try simp only [lg_cmp_lt, lg_cmp_le, lg_cmp_gt, lg_cmp_ge, lg_cmp_eq] at c2); (try simp (disch := omega) only [ta_lt, ta_le, ta_eq, tb_lt, tb_le, tb_eq, tw, tnI, tsub1, tsv, tsb32, tn32 1 (by decide), tnj 1 (by decide), tl32 0 (by decide), tl64 0 (by decide), tl32 1 (by decide), tl64 1 (by decide), tl32 4 (by decide), tl64 4 (by decide)] at c2); (try simp (disch := omega) only [ta_lt, ta_le, ta_eq, tb_lt, tb_le, tb_eq, tw, tnI, tsub1, tsv, tsb32, tn32 1 (by decide), tnj 1 (by decide), tl32 0 (by decide), tl64 0 (by decide), tl32 1 (by decide), tl64 1 (by decide), tl32 4 (by decide), tl64 4 (by decide)]); omega)⟩), rfl⟩) (dkP dF_172 DX7_isSlot (i := 8) rfl rfl)
set_option maxRecDepth 100000 in
set_option maxHeartbeats 8000000 in
theorem c_X11_sheet (l : Launch) (G : va_G) (kc : KC) (ad : Nat → Nat) (σ : Sg) (slot : Int32) (wd : Int32) (nm : Int32) (hJ : JC σ) (hT : TC σ) : MI l G kc yX11_sheet cX11_sheet 4 (some .int) 1 24 [.ref (ad 0), .int slot, .int wd, .int nm] shC ad σ (fun r σ1 => (SHQ slot wd nm r) ∧ (JC σ1) ∧ TC σ1 ∧ frC (fun x y => (x = 225) ∨ (x = 226)) σ σ1) := by
  intro sz
  refine z_body (y := yX11_sheet) (n := 4) (av := [.ref (ad 0), .int slot, .int wd, .int nm]) (Qc := fun A => va_Qi (fun r σ1 => (SHQ slot wd nm r) ∧ (JC σ1) ∧ TC σ1 ∧ frC (fun x y => (x = 225) ∨ (x = 226)) σ σ1) (PoC G kc shC ad A) A) (plainFor_of_name (by decide)) (Nat.le_of_ble_eq_true rfl) (fun pr e s m below meth c A C0 hr hlk hnm hw hRo ls hl => ?_) sz
  have hx := C0.1
  have hb := C0.2.1
  have hown := C0.2.2.2.1
  have hts := C0.2.2.2.2.1
  have hl : lv_has ls 4 [(0, .ref (ad 0)), (1, .int slot), (2, .int wd), (3, .int nm)] := hl
  obtain ⟨t, u, hto, ht, hun, hu⟩ := hJ.rdr
  obtain ⟨wa, wb, hwa_, hwa, hwb_, hwb, hwab⟩ := hJ.wts
  refine lv_aload_n hx hb (dkP dF_42 DX11_sheet (i := 0) rfl rfl) rfl (lv_at hl 0 rfl) ?_
  refine z_gr C0 hw 0 7 223 (fk_of shc_0 rfl) fl_X11_51 (dk2 dF_180 DX11_sheet (i := 1) rfl rfl rfl) ?_
  refine lv_iload_n hx hb (dkP dF_27 DX11_sheet (i := 2) rfl rfl) rfl (lv_at hl 1 rfl) ?_
  refine zk_I hw (zr_V (As := [.int slot]) (rest := []) C0 (c_X7_isSlot_b l G kc ad σ slot hT _) cv_X7_isSlot lk_X11_228 (zp_V C0 hRo hw 223 shc_223 rfl rfl) rfl hl.1 rfl ⟨by decide, by decide⟩ (Nat.le_of_ble_eq_true rfl) (dk2 dF_182 DX11_sheet (i := 3) rfl rfl rfl) ⟨Nat.le_refl _, Nat.le_refl _⟩) (fun r1 s1 H locs hp hw => ?_)
  obtain ⟨f1_0, hs1⟩ := hp
  (rw [hs1] at hw)
  rcases f1_0 with ⟨rfl, hc1⟩ | ⟨rfl, hc1⟩
  · skip
    refine lv_if_eq (tgt := 26) hx hb (dkS dF_153 DX11_sheet (i := 4) rfl rfl rfl) (by decide) (fun h => absurd h (by decide)) (fun _ => ?_)
    refine lv_iload_n hx hb (dkP dF_28 DX11_sheet (i := 5) rfl rfl) rfl (lv_at hl 2 rfl) ?_
    refine lv_if_lt (tgt := 26) hx hb (dkS dF_155 DX11_sheet (i := 6) rfl rfl rfl) (by decide) (fun c2 => ?_) (fun c2 => ?_)
    · (try simp (disch := omega) only [ta_lt, ta_le, ta_eq, tnI, tl32 0 (by decide)] at c2)
      refine lv_bipush (v := (-2)) hx hb (dks dF_16 DX11_sheet (i := 13) rfl rfl rfl) (by decide) ?_
      exact z_iret C0 hr hlk hw (⟨(by unfold SHQ; left; refine ⟨?_, rfl⟩; (try simp only [lg_cmp_lt, lg_cmp_le, lg_cmp_gt, lg_cmp_ge, lg_cmp_eq] at f1_0); (try simp (disch := omega) only [ta_lt, ta_le, ta_eq, tb_lt, tb_le, tb_eq, tw, tnI, tsub1, tsv, tsb32, tn32 2 (by decide), tnj 2 (by decide), tn32 1 (by decide), tnj 1 (by decide), tl32 0 (by decide), tl64 0 (by decide)] at f1_0); (try simp only [lg_cmp_lt, lg_cmp_le, lg_cmp_gt, lg_cmp_ge, lg_cmp_eq] at hc1); (try simp (disch := omega) only [ta_lt, ta_le, ta_eq, tb_lt, tb_le, tb_eq, tw, tnI, tsub1, tsv, tsb32, tn32 2 (by decide), tnj 2 (by decide), tn32 1 (by decide), tnj 1 (by decide), tl32 0 (by decide), tl64 0 (by decide)] at hc1); (try simp only [lg_cmp_lt, lg_cmp_le, lg_cmp_gt, lg_cmp_ge, lg_cmp_eq] at c2); (try simp (disch := omega) only [ta_lt, ta_le, ta_eq, tb_lt, tb_le, tb_eq, tw, tnI, tsub1, tsv, tsb32, tn32 2 (by decide), tnj 2 (by decide), tn32 1 (by decide), tnj 1 (by decide), tl32 0 (by decide), tl64 0 (by decide)] at c2); (try simp (disch := omega) only [ta_lt, ta_le, ta_eq, tb_lt, tb_le, tb_eq, tw, tnI, tsub1, tsv, tsb32, tn32 2 (by decide), tnj 2 (by decide), tn32 1 (by decide), tnj 1 (by decide), tl32 0 (by decide), tl64 0 (by decide)]); omega), hJ, hT, frC.refl⟩) (dkP dF_172 DX11_sheet (i := 14) rfl rfl)
    · (try simp (disch := omega) only [ta_lt, ta_le, ta_eq, tnI, tl32 0 (by decide)] at c2)
      refine lv_iload_n hx hb (dkP dF_28 DX11_sheet (i := 7) rfl rfl) rfl (lv_at hl 2 rfl) ?_
      refine lv_iconst (v := 3) hx hb (dkP dF_6 DX11_sheet (i := 8) rfl rfl) (by decide) ?_
      refine lv_icmp_gt (tgt := 26) hx hb (dkS dF_163 DX11_sheet (i := 9) rfl rfl rfl) (by decide) (fun c3 => ?_) (fun c3 => ?_)
      · (try simp (disch := omega) only [ta_lt, ta_le, ta_eq, tnI, tl32 3 (by decide)] at c3)
        refine lv_bipush (v := (-2)) hx hb (dks dF_16 DX11_sheet (i := 13) rfl rfl rfl) (by decide) ?_
        exact z_iret C0 hr hlk hw (⟨(by unfold SHQ; left; refine ⟨?_, rfl⟩; (try simp only [lg_cmp_lt, lg_cmp_le, lg_cmp_gt, lg_cmp_ge, lg_cmp_eq] at f1_0); (try simp (disch := omega) only [ta_lt, ta_le, ta_eq, tb_lt, tb_le, tb_eq, tw, tnI, tsub1, tsv, tsb32, tn32 2 (by decide), tnj 2 (by decide), tn32 1 (by decide), tnj 1 (by decide), tl32 0 (by decide), tl64 0 (by decide), tl32 3 (by decide), tl64 3 (by decide)] at f1_0); (try simp only [lg_cmp_lt, lg_cmp_le, lg_cmp_gt, lg_cmp_ge, lg_cmp_eq] at hc1); (try simp (disch := omega) only [ta_lt, ta_le, ta_eq, tb_lt, tb_le, tb_eq, tw, tnI, tsub1, tsv, tsb32, tn32 2 (by decide), tnj 2 (by decide), tn32 1 (by decide), tnj 1 (by decide), tl32 0 (by decide), tl64 0 (by decide), tl32 3 (by decide), tl64 3 (by decide)] at hc1); (try simp only [lg_cmp_lt, lg_cmp_le, lg_cmp_gt, lg_cmp_ge, lg_cmp_eq] at c2); (try simp (disch := omega) only [ta_lt, ta_le, ta_eq, tb_lt, tb_le, tb_eq, tw, tnI, tsub1, tsv, tsb32, tn32 2 (by decide), tnj 2 (by decide), tn32 1 (by decide), tnj 1 (by decide), tl32 0 (by decide), tl64 0 (by decide), tl32 3 (by decide), tl64 3 (by decide)] at c2); (try simp only [lg_cmp_lt, lg_cmp_le, lg_cmp_gt, lg_cmp_ge, lg_cmp_eq] at c3); (try simp (disch := omega) only [ta_lt, ta_le, ta_eq, tb_lt, tb_le, tb_eq, tw, tnI, tsub1, tsv, tsb32, tn32 2 (by decide), tnj 2 (by decide), tn32 1 (by decide), tnj 1 (by decide), tl32 0 (by decide), tl64 0 (by decide), tl32 3 (by decide), tl64 3 (by decide)] at c3); (try simp (disch := omega) only [ta_lt, ta_le, ta_eq, tb_lt, tb_le, tb_eq, tw, tnI, tsub1, tsv, tsb32, tn32 2 (by decide), tnj 2 (by decide), tn32 1 (by decide), tnj 1 (by decide), tl32 0 (by decide), tl64 0 (by decide), tl32 3 (by decide), tl64 3 (by decide)]); omega), hJ, hT, frC.refl⟩) (dkP dF_172 DX11_sheet (i := 14) rfl rfl)
      · (try simp (disch := omega) only [ta_lt, ta_le, ta_eq, tnI, tl32 3 (by decide)] at c3)
        refine lv_iload_n hx hb (dkP dF_29 DX11_sheet (i := 10) rfl rfl) rfl (lv_at hl 3 rfl) ?_
        refine lv_bipush (v := 60) hx hb (dks dF_16 DX11_sheet (i := 11) rfl rfl rfl) (by decide) ?_
        refine lv_icmp_le (tgt := 29) hx hb (dkS dF_164 DX11_sheet (i := 12) rfl rfl rfl) (by decide) (fun c4 => ?_) (fun c4 => ?_)
        · (try simp (disch := omega) only [ta_lt, ta_le, ta_eq, tnI, tl32 60 (by decide)] at c4)
          refine lv_iload_n hx hb (dkP dF_29 DX11_sheet (i := 15) rfl rfl) rfl (lv_at hl 3 rfl) ?_
          refine lv_if_ge (tgt := 36) hx hb (dkS dF_156 DX11_sheet (i := 16) rfl rfl rfl) (by decide) (fun c5 => ?_) (fun c5 => ?_)
          · (try simp (disch := omega) only [ta_lt, ta_le, ta_eq, tnI, tl32 0 (by decide)] at c5)
            obtain ⟨sn_, hsn_, rfl⟩ := to_nat (x := slot) (n := 4) (by (try simp only [lg_cmp_lt, lg_cmp_le, lg_cmp_gt, lg_cmp_ge, lg_cmp_eq] at f1_0); (try simp (disch := omega) only [ta_lt, ta_le, ta_eq, tb_lt, tb_le, tb_eq, tw, tnI, tsub1, tsv, tsb32, tn32 2 (by decide), tnj 2 (by decide), tn32 1 (by decide), tnj 1 (by decide), tl32 0 (by decide), tl64 0 (by decide), tl32 3 (by decide), tl64 3 (by decide), tl32 60 (by decide), tl64 60 (by decide)] at f1_0); (try simp only [lg_cmp_lt, lg_cmp_le, lg_cmp_gt, lg_cmp_ge, lg_cmp_eq] at hc1); (try simp (disch := omega) only [ta_lt, ta_le, ta_eq, tb_lt, tb_le, tb_eq, tw, tnI, tsub1, tsv, tsb32, tn32 2 (by decide), tnj 2 (by decide), tn32 1 (by decide), tnj 1 (by decide), tl32 0 (by decide), tl64 0 (by decide), tl32 3 (by decide), tl64 3 (by decide), tl32 60 (by decide), tl64 60 (by decide)] at hc1); (try simp only [lg_cmp_lt, lg_cmp_le, lg_cmp_gt, lg_cmp_ge, lg_cmp_eq] at c2); (try simp (disch := omega) only [ta_lt, ta_le, ta_eq, tb_lt, tb_le, tb_eq, tw, tnI, tsub1, tsv, tsb32, tn32 2 (by decide), tnj 2 (by decide), tn32 1 (by decide), tnj 1 (by decide), tl32 0 (by decide), tl64 0 (by decide), tl32 3 (by decide), tl64 3 (by decide), tl32 60 (by decide), tl64 60 (by decide)] at c2); (try simp only [lg_cmp_lt, lg_cmp_le, lg_cmp_gt, lg_cmp_ge, lg_cmp_eq] at c3); (try simp (disch := omega) only [ta_lt, ta_le, ta_eq, tb_lt, tb_le, tb_eq, tw, tnI, tsub1, tsv, tsb32, tn32 2 (by decide), tnj 2 (by decide), tn32 1 (by decide), tnj 1 (by decide), tl32 0 (by decide), tl64 0 (by decide), tl32 3 (by decide), tl64 3 (by decide), tl32 60 (by decide), tl64 60 (by decide)] at c3); (try simp only [lg_cmp_lt, lg_cmp_le, lg_cmp_gt, lg_cmp_ge, lg_cmp_eq] at c4); (try simp (disch := omega) only [ta_lt, ta_le, ta_eq, tb_lt, tb_le, tb_eq, tw, tnI, tsub1, tsv, tsb32, tn32 2 (by decide), tnj 2 (by decide), tn32 1 (by decide), tnj 1 (by decide), tl32 0 (by decide), tl64 0 (by decide), tl32 3 (by decide), tl64 3 (by decide), tl32 60 (by decide), tl64 60 (by decide)] at c4); (try simp only [lg_cmp_lt, lg_cmp_le, lg_cmp_gt, lg_cmp_ge, lg_cmp_eq] at c5); (try simp (disch := omega) only [ta_lt, ta_le, ta_eq, tb_lt, tb_le, tb_eq, tw, tnI, tsub1, tsv, tsb32, tn32 2 (by decide), tnj 2 (by decide), tn32 1 (by decide), tnj 1 (by decide), tl32 0 (by decide), tl64 0 (by decide), tl32 3 (by decide), tl64 3 (by decide), tl32 60 (by decide), tl64 60 (by decide)] at c5); (try simp (disch := omega) only [ta_lt, ta_le, ta_eq, tb_lt, tb_le, tb_eq, tw, tnI, tsub1, tsv, tsb32, tn32 2 (by decide), tnj 2 (by decide), tn32 1 (by decide), tnj 1 (by decide), tl32 0 (by decide), tl64 0 (by decide), tl32 3 (by decide), tl64 3 (by decide), tl32 60 (by decide), tl64 60 (by decide)]); omega)
            refine lv_aload_n hx hb (dkP dF_42 DX11_sheet (i := 19) rfl rfl) rfl (lv_at hl 0 rfl) ?_
            refine z_gr C0 hw 0 7 223 (fk_of shc_0 rfl) fl_X11_51 (dk2 dF_180 DX11_sheet (i := 20) rfl rfl rfl) ?_
            refine lv_iload_n hx hb (dkP dF_27 DX11_sheet (i := 21) rfl rfl) rfl (lv_at hl 1 rfl) ?_
            refine lv_iload_n hx hb (dkP dF_28 DX11_sheet (i := 22) rfl rfl) rfl (lv_at hl 2 rfl) ?_
            refine lv_iload_n hx hb (dkP dF_29 DX11_sheet (i := 23) rfl rfl) rfl (lv_at hl 3 rfl) ?_
            refine zk_V hw (zr_V (As := [.int (nI sn_), .int wd, .int nm]) (rest := []) C0 (c_X7_lay l G kc ad σ sn_ wd nm (by first | omega | assumption | decide | rfl) (by first | omega | assumption | decide | rfl) hT _) cv_X7_lay lk_X11_343 (zp_V C0 hRo hw 223 shc_223 rfl rfl) rfl hl.1 rfl ⟨by decide, by decide⟩ (Nat.le_of_ble_eq_true rfl) (dk2 dF_182 DX11_sheet (i := 24) rfl rfl rfl) ⟨Nat.le_refl _, Nat.le_refl _⟩) (fun s6 H locs hp hw => ?_)
            obtain ⟨hT6, hG6⟩ := hp
            have hF6 : frC (fun x y => (x = 225) ∨ (x = 226)) σ s6 := frC.t frC.refl hG6 (fun x y h => by have h : (x = 225) ∨ (x = 226) := h; show (x = 225) ∨ (x = 226); rcases h with h | h; (· exact Or.inl h); (· exact Or.inr (h)))
            refine lv_iconst (v := 0) hx hb (dkP dF_3 DX11_sheet (i := 25) rfl rfl) (by decide) ?_
            exact z_iret C0 hr hlk hw (⟨(by unfold SHQ; right; right; refine ⟨?_, ?_, ?_, ?_, ?_, ?_, rfl⟩ <;> ((try simp only [lg_cmp_lt, lg_cmp_le, lg_cmp_gt, lg_cmp_ge, lg_cmp_eq] at f1_0); (try simp (disch := omega) only [ta_lt, ta_le, ta_eq, tb_lt, tb_le, tb_eq, tw, tnI, tsub1, tsv, tsb32, tn32 2 (by decide), tnj 2 (by decide), tn32 1 (by decide), tnj 1 (by decide), tl32 0 (by decide), tl64 0 (by decide), tl32 3 (by decide), tl64 3 (by decide), tl32 60 (by decide), tl64 60 (by decide)] at f1_0); (try simp only [lg_cmp_lt, lg_cmp_le, lg_cmp_gt, lg_cmp_ge, lg_cmp_eq] at hc1); (try simp (disch := omega) only [ta_lt, ta_le, ta_eq, tb_lt, tb_le, tb_eq, tw, tnI, tsub1, tsv, tsb32, tn32 2 (by decide), tnj 2 (by decide), tn32 1 (by decide), tnj 1 (by decide), tl32 0 (by decide), tl64 0 (by decide), tl32 3 (by decide), tl64 3 (by decide), tl32 60 (by decide), tl64 60 (by decide)] at hc1); (try simp only [lg_cmp_lt, lg_cmp_le, lg_cmp_gt, lg_cmp_ge, lg_cmp_eq] at c2); (try simp (disch := omega) only [ta_lt, ta_le, ta_eq, tb_lt, tb_le, tb_eq, tw, tnI, tsub1, tsv, tsb32, tn32 2 (by decide), tnj 2 (by decide), tn32 1 (by decide), tnj 1 (by decide), tl32 0 (by decide), tl64 0 (by decide), tl32 3 (by decide), tl64 3 (by decide), tl32 60 (by decide), tl64 60 (by decide)] at c2); (try simp only [lg_cmp_lt, lg_cmp_le, lg_cmp_gt, lg_cmp_ge, lg_cmp_eq] at c3); (try simp (disch := omega) only [ta_lt, ta_le, ta_eq, tb_lt, tb_le, tb_eq, tw, tnI, tsub1, tsv, tsb32, tn32 2 (by decide), tnj 2 (by decide), tn32 1 (by decide), tnj 1 (by decide), tl32 0 (by decide), tl64 0 (by decide), tl32 3 (by decide), tl64 3 (by decide), tl32 60 (by decide), tl64 60 (by decide)] at c3); (try simp only [lg_cmp_lt, lg_cmp_le, lg_cmp_gt, lg_cmp_ge, lg_cmp_eq] at c4); (try simp (disch := omega) only [ta_lt, ta_le, ta_eq, tb_lt, tb_le, tb_eq, tw, tnI, tsub1, tsv, tsb32, tn32 2 (by decide), tnj 2 (by decide), tn32 1 (by decide), tnj 1 (by decide), tl32 0 (by decide), tl64 0 (by decide), tl32 3 (by decide), tl64 3 (by decide), tl32 60 (by decide), tl64 60 (by decide)] at c4); (try simp only [lg_cmp_lt, lg_cmp_le, lg_cmp_gt, lg_cmp_ge, lg_cmp_eq] at c5); (try simp (disch := omega) only [ta_lt, ta_le, ta_eq, tb_lt, tb_le, tb_eq, tw, tnI, tsub1, tsv, tsb32, tn32 2 (by decide), tnj 2 (by decide), tn32 1 (by decide), tnj 1 (by decide), tl32 0 (by decide), tl64 0 (by decide), tl32 3 (by decide), tl64 3 (by decide), tl32 60 (by decide), tl64 60 (by decide)] at c5); (try simp (disch := omega) only [ta_lt, ta_le, ta_eq, tb_lt, tb_le, tb_eq, tw, tnI, tsub1, tsv, tsb32, tn32 2 (by decide), tnj 2 (by decide), tn32 1 (by decide), tnj 1 (by decide), tl32 0 (by decide), tl64 0 (by decide), tl32 3 (by decide), tl64 3 (by decide), tl32 60 (by decide), tl64 60 (by decide)]); omega)), (hJ.fr hF6.2 (fun x y hj => hF6.1 x y (fun h_ => by have h_ : (x = 225) ∨ (x = 226) := h_; unfold jcq at hj; rcases h_ with h_ | h_; (· omega); (· omega)))), hT6, hF6⟩) (dkP dF_172 DX11_sheet (i := 26) rfl rfl)
          · (try simp (disch := omega) only [ta_lt, ta_le, ta_eq, tnI, tl32 0 (by decide)] at c5)
            refine lv_bipush (v := (-3)) hx hb (dks dF_16 DX11_sheet (i := 17) rfl rfl rfl) (by decide) ?_
            exact z_iret C0 hr hlk hw (⟨(by unfold SHQ; right; left; refine ⟨?_, ?_, ?_, ?_, ?_, rfl⟩ <;> ((try simp only [lg_cmp_lt, lg_cmp_le, lg_cmp_gt, lg_cmp_ge, lg_cmp_eq] at f1_0); (try simp (disch := omega) only [ta_lt, ta_le, ta_eq, tb_lt, tb_le, tb_eq, tw, tnI, tsub1, tsv, tsb32, tn32 3 (by decide), tnj 3 (by decide), tn32 2 (by decide), tnj 2 (by decide), tn32 1 (by decide), tnj 1 (by decide), tl32 0 (by decide), tl64 0 (by decide), tl32 3 (by decide), tl64 3 (by decide), tl32 60 (by decide), tl64 60 (by decide)] at f1_0); (try simp only [lg_cmp_lt, lg_cmp_le, lg_cmp_gt, lg_cmp_ge, lg_cmp_eq] at hc1); (try simp (disch := omega) only [ta_lt, ta_le, ta_eq, tb_lt, tb_le, tb_eq, tw, tnI, tsub1, tsv, tsb32, tn32 3 (by decide), tnj 3 (by decide), tn32 2 (by decide), tnj 2 (by decide), tn32 1 (by decide), tnj 1 (by decide), tl32 0 (by decide), tl64 0 (by decide), tl32 3 (by decide), tl64 3 (by decide), tl32 60 (by decide), tl64 60 (by decide)] at hc1); (try simp only [lg_cmp_lt, lg_cmp_le, lg_cmp_gt, lg_cmp_ge, lg_cmp_eq] at c2); (try simp (disch := omega) only [ta_lt, ta_le, ta_eq, tb_lt, tb_le, tb_eq, tw, tnI, tsub1, tsv, tsb32, tn32 3 (by decide), tnj 3 (by decide), tn32 2 (by decide), tnj 2 (by decide), tn32 1 (by decide), tnj 1 (by decide), tl32 0 (by decide), tl64 0 (by decide), tl32 3 (by decide), tl64 3 (by decide), tl32 60 (by decide), tl64 60 (by decide)] at c2); (try simp only [lg_cmp_lt, lg_cmp_le, lg_cmp_gt, lg_cmp_ge, lg_cmp_eq] at c3); (try simp (disch := omega) only [ta_lt, ta_le, ta_eq, tb_lt, tb_le, tb_eq, tw, tnI, tsub1, tsv, tsb32, tn32 3 (by decide), tnj 3 (by decide), tn32 2 (by decide), tnj 2 (by decide), tn32 1 (by decide), tnj 1 (by decide), tl32 0 (by decide), tl64 0 (by decide), tl32 3 (by decide), tl64 3 (by decide), tl32 60 (by decide), tl64 60 (by decide)] at c3); (try simp only [lg_cmp_lt, lg_cmp_le, lg_cmp_gt, lg_cmp_ge, lg_cmp_eq] at c4); (try simp (disch := omega) only [ta_lt, ta_le, ta_eq, tb_lt, tb_le, tb_eq, tw, tnI, tsub1, tsv, tsb32, tn32 3 (by decide), tnj 3 (by decide), tn32 2 (by decide), tnj 2 (by decide), tn32 1 (by decide), tnj 1 (by decide), tl32 0 (by decide), tl64 0 (by decide), tl32 3 (by decide), tl64 3 (by decide), tl32 60 (by decide), tl64 60 (by decide)] at c4); (try simp only [lg_cmp_lt, lg_cmp_le, lg_cmp_gt, lg_cmp_ge, lg_cmp_eq] at c5); (try simp (disch := omega) only [ta_lt, ta_le, ta_eq, tb_lt, tb_le, tb_eq, tw, tnI, tsub1, tsv, tsb32, tn32 3 (by decide), tnj 3 (by decide), tn32 2 (by decide), tnj 2 (by decide), tn32 1 (by decide), tnj 1 (by decide), tl32 0 (by decide), tl64 0 (by decide), tl32 3 (by decide), tl64 3 (by decide), tl32 60 (by decide), tl64 60 (by decide)] at c5); (try simp (disch := omega) only [ta_lt, ta_le, ta_eq, tb_lt, tb_le, tb_eq, tw, tnI, tsub1, tsv, tsb32, tn32 3 (by decide), tnj 3 (by decide), tn32 2 (by decide), tnj 2 (by decide), tn32 1 (by decide), tnj 1 (by decide), tl32 0 (by decide), tl64 0 (by decide), tl32 3 (by decide), tl64 3 (by decide), tl32 60 (by decide), tl64 60 (by decide)]); omega)), hJ, hT, frC.refl⟩) (dkP dF_172 DX11_sheet (i := 18) rfl rfl)
        · (try simp (disch := omega) only [ta_lt, ta_le, ta_eq, tnI, tl32 60 (by decide)] at c4)
          refine lv_bipush (v := (-2)) hx hb (dks dF_16 DX11_sheet (i := 13) rfl rfl rfl) (by decide) ?_
          exact z_iret C0 hr hlk hw (⟨(by unfold SHQ; left; refine ⟨?_, rfl⟩; (try simp only [lg_cmp_lt, lg_cmp_le, lg_cmp_gt, lg_cmp_ge, lg_cmp_eq] at f1_0); (try simp (disch := omega) only [ta_lt, ta_le, ta_eq, tb_lt, tb_le, tb_eq, tw, tnI, tsub1, tsv, tsb32, tn32 3 (by decide), tnj 3 (by decide), tn32 2 (by decide), tnj 2 (by decide), tn32 1 (by decide), tnj 1 (by decide), tl32 0 (by decide), tl64 0 (by decide), tl32 3 (by decide), tl64 3 (by decide), tl32 60 (by decide), tl64 60 (by decide)] at f1_0); (try simp only [lg_cmp_lt, lg_cmp_le, lg_cmp_gt, lg_cmp_ge, lg_cmp_eq] at hc1); (try simp (disch := omega) only [ta_lt, ta_le, ta_eq, tb_lt, tb_le, tb_eq, tw, tnI, tsub1, tsv, tsb32, tn32 3 (by decide), tnj 3 (by decide), tn32 2 (by decide), tnj 2 (by decide), tn32 1 (by decide), tnj 1 (by decide), tl32 0 (by decide), tl64 0 (by decide), tl32 3 (by decide), tl64 3 (by decide), tl32 60 (by decide), tl64 60 (by decide)] at hc1); (try simp only [lg_cmp_lt, lg_cmp_le, lg_cmp_gt, lg_cmp_ge, lg_cmp_eq] at c2); (try simp (disch := omega) only [ta_lt, ta_le, ta_eq, tb_lt, tb_le, tb_eq, tw, tnI, tsub1, tsv, tsb32, tn32 3 (by decide), tnj 3 (by decide), tn32 2 (by decide), tnj 2 (by decide), tn32 1 (by decide), tnj 1 (by decide), tl32 0 (by decide), tl64 0 (by decide), tl32 3 (by decide), tl64 3 (by decide), tl32 60 (by decide), tl64 60 (by decide)] at c2); (try simp only [lg_cmp_lt, lg_cmp_le, lg_cmp_gt, lg_cmp_ge, lg_cmp_eq] at c3); (try simp (disch := omega) only [ta_lt, ta_le, ta_eq, tb_lt, tb_le, tb_eq, tw, tnI, tsub1, tsv, tsb32, tn32 3 (by decide), tnj 3 (by decide), tn32 2 (by decide), tnj 2 (by decide), tn32 1 (by decide), tnj 1 (by decide), tl32 0 (by decide), tl64 0 (by decide), tl32 3 (by decide), tl64 3 (by decide), tl32 60 (by decide), tl64 60 (by decide)] at c3); (try simp only [lg_cmp_lt, lg_cmp_le, lg_cmp_gt, lg_cmp_ge, lg_cmp_eq] at c4); (try simp (disch := omega) only [ta_lt, ta_le, ta_eq, tb_lt, tb_le, tb_eq, tw, tnI, tsub1, tsv, tsb32, tn32 3 (by decide), tnj 3 (by decide), tn32 2 (by decide), tnj 2 (by decide), tn32 1 (by decide), tnj 1 (by decide), tl32 0 (by decide), tl64 0 (by decide), tl32 3 (by decide), tl64 3 (by decide), tl32 60 (by decide), tl64 60 (by decide)] at c4); (try simp (disch := omega) only [ta_lt, ta_le, ta_eq, tb_lt, tb_le, tb_eq, tw, tnI, tsub1, tsv, tsb32, tn32 3 (by decide), tnj 3 (by decide), tn32 2 (by decide), tnj 2 (by decide), tn32 1 (by decide), tnj 1 (by decide), tl32 0 (by decide), tl64 0 (by decide), tl32 3 (by decide), tl64 3 (by decide), tl32 60 (by decide), tl64 60 (by decide)]); omega), hJ, hT, frC.refl⟩) (dkP dF_172 DX11_sheet (i := 14) rfl rfl)
  · skip
    refine lv_if_eq (tgt := 26) hx hb (dkS dF_153 DX11_sheet (i := 4) rfl rfl rfl) (by decide) (fun _ => ?_) (fun h => absurd h (by decide))
    refine lv_bipush (v := (-2)) hx hb (dks dF_16 DX11_sheet (i := 13) rfl rfl rfl) (by decide) ?_
    exact z_iret C0 hr hlk hw (⟨(by unfold SHQ; left; refine ⟨?_, rfl⟩; (try simp only [lg_cmp_lt, lg_cmp_le, lg_cmp_gt, lg_cmp_ge, lg_cmp_eq] at f1_0); (try simp (disch := omega) only [ta_lt, ta_le, ta_eq, tb_lt, tb_le, tb_eq, tw, tnI, tsub1, tsv, tsb32, tn32 3 (by decide), tnj 3 (by decide), tn32 2 (by decide), tnj 2 (by decide), tn32 1 (by decide), tnj 1 (by decide), tl32 0 (by decide), tl64 0 (by decide), tl32 3 (by decide), tl64 3 (by decide), tl32 60 (by decide), tl64 60 (by decide)] at f1_0); (try simp only [lg_cmp_lt, lg_cmp_le, lg_cmp_gt, lg_cmp_ge, lg_cmp_eq] at hc1); (try simp (disch := omega) only [ta_lt, ta_le, ta_eq, tb_lt, tb_le, tb_eq, tw, tnI, tsub1, tsv, tsb32, tn32 3 (by decide), tnj 3 (by decide), tn32 2 (by decide), tnj 2 (by decide), tn32 1 (by decide), tnj 1 (by decide), tl32 0 (by decide), tl64 0 (by decide), tl32 3 (by decide), tl64 3 (by decide), tl32 60 (by decide), tl64 60 (by decide)] at hc1); (try simp (disch := omega) only [ta_lt, ta_le, ta_eq, tb_lt, tb_le, tb_eq, tw, tnI, tsub1, tsv, tsb32, tn32 3 (by decide), tnj 3 (by decide), tn32 2 (by decide), tnj 2 (by decide), tn32 1 (by decide), tnj 1 (by decide), tl32 0 (by decide), tl64 0 (by decide), tl32 3 (by decide), tl64 3 (by decide), tl32 60 (by decide), tl64 60 (by decide)]); omega), hJ, hT, frC.refl⟩) (dkP dF_172 DX11_sheet (i := 14) rfl rfl)
set_option maxRecDepth 100000 in
set_option maxHeartbeats 8000000 in
theorem c_X11_write (l : Launch) (G : va_G) (kc : KC) (ad : Nat → Nat) (σ : Sg) (slot : Int32) (ix : Int32) (va : Int64) (hJ : JC σ) (hT : TC σ) : MI l G kc yX11_write cX11_write 5 (some .int) 1 25 [.ref (ad 0), .int slot, .int ix, .long va] shC ad σ (fun r σ1 => (JC σ1) ∧ TC σ1 ∧ frC (fun x y => False) σ σ1) := by
  intro sz
  refine z_body (y := yX11_write) (n := 5) (av := [.ref (ad 0), .int slot, .int ix, .long va]) (Qc := fun A => va_Qi (fun r σ1 => (JC σ1) ∧ TC σ1 ∧ frC (fun x y => False) σ σ1) (PoC G kc shC ad A) A) (plainFor_of_name (by decide)) (Nat.le_of_ble_eq_true rfl) (fun pr e s m below meth c A C0 hr hlk hnm hw hRo ls hl => ?_) sz
  have hx := C0.1
  have hb := C0.2.1
  have hown := C0.2.2.2.1
  have hts := C0.2.2.2.2.1
  have hl : lv_has ls 5 [(0, .ref (ad 0)), (1, .int slot), (2, .int ix), (3, .long va)] := hl
  obtain ⟨t, u, hto, ht, hun, hu⟩ := hJ.rdr
  obtain ⟨wa, wb, hwa_, hwa, hwb_, hwb, hwab⟩ := hJ.wts
  refine lv_aload_n hx hb (dkP dF_42 DX11_write (i := 0) rfl rfl) rfl (lv_at hl 0 rfl) ?_
  refine z_gr C0 hw 0 7 223 (fk_of shc_0 rfl) fl_X11_51 (dk2 dF_180 DX11_write (i := 1) rfl rfl rfl) ?_
  refine lv_iload_n hx hb (dkP dF_27 DX11_write (i := 2) rfl rfl) rfl (lv_at hl 1 rfl) ?_
  refine zk_I hw (zr_V (As := [.int slot]) (rest := []) C0 (c_X7_isSlot_b l G kc ad σ slot hT _) cv_X7_isSlot lk_X11_228 (zp_V C0 hRo hw 223 shc_223 rfl rfl) rfl hl.1 rfl ⟨by decide, by decide⟩ (Nat.le_of_ble_eq_true rfl) (dk2 dF_182 DX11_write (i := 3) rfl rfl rfl) ⟨Nat.le_refl _, Nat.le_refl _⟩) (fun r1 s1 H locs hp hw => ?_)
  obtain ⟨f1_0, hs1⟩ := hp
  (rw [hs1] at hw)
  rcases f1_0 with ⟨rfl, hc1⟩ | ⟨rfl, hc1⟩
  · skip
    refine lv_if_ne (tgt := 14) hx hb (dkS dF_154 DX11_write (i := 4) rfl rfl rfl) (by decide) (fun _ => ?_) (fun h => absurd h (by decide))
    obtain ⟨sn_, hsn_, rfl⟩ := to_nat (x := slot) (n := 4) (by (try simp only [lg_cmp_lt, lg_cmp_le, lg_cmp_gt, lg_cmp_ge, lg_cmp_eq] at f1_0); (try simp (disch := omega) only [ta_lt, ta_le, ta_eq, tb_lt, tb_le, tb_eq, tw, tnI, tsub1, tsv, tsb32, tn32 1 (by decide), tnj 1 (by decide), tl32 0 (by decide), tl64 0 (by decide)] at f1_0); (try simp only [lg_cmp_lt, lg_cmp_le, lg_cmp_gt, lg_cmp_ge, lg_cmp_eq] at hc1); (try simp (disch := omega) only [ta_lt, ta_le, ta_eq, tb_lt, tb_le, tb_eq, tw, tnI, tsub1, tsv, tsb32, tn32 1 (by decide), tnj 1 (by decide), tl32 0 (by decide), tl64 0 (by decide)] at hc1); (try simp (disch := omega) only [ta_lt, ta_le, ta_eq, tb_lt, tb_le, tb_eq, tw, tnI, tsub1, tsv, tsb32, tn32 1 (by decide), tnj 1 (by decide), tl32 0 (by decide), tl64 0 (by decide)]); omega)
    refine lv_aload_n hx hb (dkP dF_42 DX11_write (i := 7) rfl rfl) rfl (lv_at hl 0 rfl) ?_
    refine z_gr C0 hw 0 7 223 (fk_of shc_0 rfl) fl_X11_51 (dk2 dF_180 DX11_write (i := 8) rfl rfl rfl) ?_
    refine lv_iload_n hx hb (dkP dF_27 DX11_write (i := 9) rfl rfl) rfl (lv_at hl 1 rfl) ?_
    refine zk_I hw (zr_V (As := [.int (nI sn_)]) (rest := []) C0 (c_X7_hasNumbers l G kc ad σ sn_ (by omega) hT _) cv_X7_hasNumbers lk_X11_231 (zp_V C0 hRo hw 223 shc_223 rfl rfl) rfl hl.1 rfl ⟨by decide, by decide⟩ (Nat.le_of_ble_eq_true rfl) (dk2 dF_182 DX11_write (i := 10) rfl rfl rfl) ⟨Nat.le_refl _, Nat.le_refl _⟩) (fun r2 s2 H locs hp hw => ?_)
    obtain ⟨f2_0, hs2⟩ := hp
    (rw [hs2] at hw)
    rcases f2_0 with ⟨rfl, hc2⟩ | ⟨rfl, hc2⟩
    · skip
      refine lv_if_ne (tgt := 28) hx hb (dkS dF_154 DX11_write (i := 11) rfl rfl rfl) (by decide) (fun _ => ?_) (fun h => absurd h (by decide))
      refine lv_aload_n hx hb (dkP dF_42 DX11_write (i := 14) rfl rfl) rfl (lv_at hl 0 rfl) ?_
      refine z_gr C0 hw 0 7 223 (fk_of shc_0 rfl) fl_X11_51 (dk2 dF_180 DX11_write (i := 15) rfl rfl rfl) ?_
      refine lv_iload_n hx hb (dkP dF_27 DX11_write (i := 16) rfl rfl) rfl (lv_at hl 1 rfl) ?_
      refine lv_iload_n hx hb (dkP dF_28 DX11_write (i := 17) rfl rfl) rfl (lv_at hl 2 rfl) ?_
      refine lv_iconst (v := 1) hx hb (dkP dF_4 DX11_write (i := 18) rfl rfl) (by decide) ?_
      refine zk_I hw (zr_V (As := [.int (nI sn_), .int ix, .int 1]) (rest := []) C0 (c_X7_hasRange l G kc ad σ sn_ ix 1 (by omega) hT _) cv_X7_hasRange lk_X11_347 (zp_V C0 hRo hw 223 shc_223 rfl rfl) rfl hl.1 rfl ⟨by decide, by decide⟩ (Nat.le_of_ble_eq_true rfl) (dk2 dF_182 DX11_write (i := 19) rfl rfl rfl) ⟨Nat.le_refl _, Nat.le_refl _⟩) (fun r3 s3 H locs hp hw => ?_)
      obtain ⟨f3_0, hs3⟩ := hp
      (rw [hs3] at hw)
      rcases f3_0 with ⟨rfl, hc3⟩ | ⟨rfl, hc3⟩
      · skip
        refine lv_if_ne (tgt := 44) hx hb (dkS dF_154 DX11_write (i := 20) rfl rfl rfl) (by decide) (fun _ => ?_) (fun h => absurd h (by decide))
        have hL6 : -1 ≤ (σ.1 225 sn_).toInt ∧ (σ.1 225 sn_).toInt ≤ 60 := (tcr_18 hT tcl_225)
        obtain ⟨xn_, hxn_, rfl⟩ := to_nat (x := ix) (n := 60) (by (try simp only [lg_cmp_lt, lg_cmp_le, lg_cmp_gt, lg_cmp_ge, lg_cmp_eq] at f1_0); (try simp (disch := omega) only [ta_lt, ta_le, ta_eq, tb_lt, tb_le, tb_eq, tw, tnI, tsub1, tsv, tsb32, tn32 1 (by decide), tnj 1 (by decide), tl32 0 (by decide), tl64 0 (by decide), tl32 1 (by decide), tl64 1 (by decide)] at f1_0); (try simp only [lg_cmp_lt, lg_cmp_le, lg_cmp_gt, lg_cmp_ge, lg_cmp_eq] at hc1); (try simp (disch := omega) only [ta_lt, ta_le, ta_eq, tb_lt, tb_le, tb_eq, tw, tnI, tsub1, tsv, tsb32, tn32 1 (by decide), tnj 1 (by decide), tl32 0 (by decide), tl64 0 (by decide), tl32 1 (by decide), tl64 1 (by decide)] at hc1); (try simp only [lg_cmp_lt, lg_cmp_le, lg_cmp_gt, lg_cmp_ge, lg_cmp_eq] at f2_0); (try simp (disch := omega) only [ta_lt, ta_le, ta_eq, tb_lt, tb_le, tb_eq, tw, tnI, tsub1, tsv, tsb32, tn32 1 (by decide), tnj 1 (by decide), tl32 0 (by decide), tl64 0 (by decide), tl32 1 (by decide), tl64 1 (by decide)] at f2_0); (try simp only [lg_cmp_lt, lg_cmp_le, lg_cmp_gt, lg_cmp_ge, lg_cmp_eq] at hc2); (try simp (disch := omega) only [ta_lt, ta_le, ta_eq, tb_lt, tb_le, tb_eq, tw, tnI, tsub1, tsv, tsb32, tn32 1 (by decide), tnj 1 (by decide), tl32 0 (by decide), tl64 0 (by decide), tl32 1 (by decide), tl64 1 (by decide)] at hc2); (try simp only [lg_cmp_lt, lg_cmp_le, lg_cmp_gt, lg_cmp_ge, lg_cmp_eq] at f3_0); (try simp (disch := omega) only [ta_lt, ta_le, ta_eq, tb_lt, tb_le, tb_eq, tw, tnI, tsub1, tsv, tsb32, tn32 1 (by decide), tnj 1 (by decide), tl32 0 (by decide), tl64 0 (by decide), tl32 1 (by decide), tl64 1 (by decide)] at f3_0); (try simp only [lg_cmp_lt, lg_cmp_le, lg_cmp_gt, lg_cmp_ge, lg_cmp_eq] at hc3); (try simp (disch := omega) only [ta_lt, ta_le, ta_eq, tb_lt, tb_le, tb_eq, tw, tnI, tsub1, tsv, tsb32, tn32 1 (by decide), tnj 1 (by decide), tl32 0 (by decide), tl64 0 (by decide), tl32 1 (by decide), tl64 1 (by decide)] at hc3); (try simp (disch := omega) only [ta_lt, ta_le, ta_eq, tb_lt, tb_le, tb_eq, tw, tnI, tsub1, tsv, tsb32, tn32 1 (by decide), tnj 1 (by decide), tl32 0 (by decide), tl64 0 (by decide), tl32 1 (by decide), tl64 1 (by decide)]); omega)
        refine lv_aload_n hx hb (dkP dF_42 DX11_write (i := 23) rfl rfl) rfl (lv_at hl 0 rfl) ?_
        refine z_gr C0 hw 0 7 223 (fk_of shc_0 rfl) fl_X11_51 (dk2 dF_180 DX11_write (i := 24) rfl rfl rfl) ?_
        refine lv_iload_n hx hb (dkP dF_27 DX11_write (i := 25) rfl rfl) rfl (lv_at hl 1 rfl) ?_
        refine lv_iload_n hx hb (dkP dF_28 DX11_write (i := 26) rfl rfl) rfl (lv_at hl 2 rfl) ?_
        refine lv_lload_n hx hb (dkP dF_33 DX11_write (i := 27) rfl rfl) rfl (lv_at hl 3 rfl) ?_
        refine zk_V hw (zr_V (As := [.int (nI sn_), .int (nI xn_), .long va]) (rest := []) C0 (c_X7_enter l G kc ad σ sn_ xn_ va (by omega) (by omega) hT _) cv_X7_enter lk_X11_350 (zp_V C0 hRo hw 223 shc_223 rfl rfl) rfl hl.1 rfl ⟨by decide, by decide⟩ (Nat.le_of_ble_eq_true rfl) (dk2 dF_182 DX11_write (i := 28) rfl rfl rfl) ⟨Nat.le_refl _, Nat.le_refl _⟩) (fun s4 H locs hp hw => ?_)
        obtain ⟨hT4, hG4⟩ := hp
        have hF4 : frC (fun x y => False) σ s4 := frC.t frC.refl hG4 (fun x y h => by have h : False := h; show False; exact False.elim h)
        refine lv_iconst (v := 0) hx hb (dkP dF_3 DX11_write (i := 29) rfl rfl) (by decide) ?_
        exact z_iret C0 hr hlk hw (⟨(hJ.fr hF4.2 (fun x y hj => hF4.1 x y (fun h_ => by have h_ : False := h_; unfold jcq at hj; exact h_))), hT4, hF4⟩) (dkP dF_172 DX11_write (i := 30) rfl rfl)
      · skip
        refine lv_if_ne (tgt := 44) hx hb (dkS dF_154 DX11_write (i := 20) rfl rfl rfl) (by decide) (fun h => absurd h (by decide)) (fun _ => ?_)
        refine lv_bipush (v := (-7)) hx hb (dks dF_16 DX11_write (i := 21) rfl rfl rfl) (by decide) ?_
        exact z_iret C0 hr hlk hw (⟨hJ, hT, frC.refl⟩) (dkP dF_172 DX11_write (i := 22) rfl rfl)
    · skip
      refine lv_if_ne (tgt := 28) hx hb (dkS dF_154 DX11_write (i := 11) rfl rfl rfl) (by decide) (fun h => absurd h (by decide)) (fun _ => ?_)
      refine lv_bipush (v := (-6)) hx hb (dks dF_16 DX11_write (i := 12) rfl rfl rfl) (by decide) ?_
      exact z_iret C0 hr hlk hw (⟨hJ, hT, frC.refl⟩) (dkP dF_172 DX11_write (i := 13) rfl rfl)
  · skip
    refine lv_if_ne (tgt := 14) hx hb (dkS dF_154 DX11_write (i := 4) rfl rfl rfl) (by decide) (fun h => absurd h (by decide)) (fun _ => ?_)
    refine lv_bipush (v := (-2)) hx hb (dks dF_16 DX11_write (i := 5) rfl rfl rfl) (by decide) ?_
    exact z_iret C0 hr hlk hw (⟨hJ, hT, frC.refl⟩) (dkP dF_172 DX11_write (i := 6) rfl rfl)
set_option maxRecDepth 100000 in
set_option maxHeartbeats 8000000 in
theorem c_X11_form (l : Launch) (G : va_G) (kc : KC) (ad : Nat → Nat) (σ : Sg) (fm : Int32) (fk : Int32) (hJ : JC σ) (hT : TC σ) : MI l G kc yX11_form cX11_form 3 (some .int) 3 68 [.ref (ad 0), .int fm, .int fk] shC ad σ (fun r σ1 => (FMQ fm fk r) ∧ (JC σ1) ∧ TC σ1 ∧ frC (fun x y => (x = 6 ∧ y = 1) ∨ (x = 6 ∧ y = 2) ∨ (x = 7)) σ σ1) := by
  intro sz
  refine z_body (y := yX11_form) (n := 3) (av := [.ref (ad 0), .int fm, .int fk]) (Qc := fun A => va_Qi (fun r σ1 => (FMQ fm fk r) ∧ (JC σ1) ∧ TC σ1 ∧ frC (fun x y => (x = 6 ∧ y = 1) ∨ (x = 6 ∧ y = 2) ∨ (x = 7)) σ σ1) (PoC G kc shC ad A) A) (plainFor_of_name (by decide)) (Nat.le_of_ble_eq_true rfl) (fun pr e s m below meth c A C0 hr hlk hnm hw hRo ls hl => ?_) sz
  have hx := C0.1
  have hb := C0.2.1
  have hown := C0.2.2.2.1
  have hts := C0.2.2.2.2.1
  have hl : lv_has ls 3 [(0, .ref (ad 0)), (1, .int fm), (2, .int fk)] := hl
  obtain ⟨t, u, hto, ht, hun, hu⟩ := hJ.rdr
  obtain ⟨wa, wb, hwa_, hwa, hwb_, hwb, hwab⟩ := hJ.wts
  refine lv_iload_n hx hb (dkP dF_27 DX11_form (i := 0) rfl rfl) rfl (lv_at hl 1 rfl) ?_
  refine lv_iconst (v := 1) hx hb (dkP dF_4 DX11_form (i := 1) rfl rfl) (by decide) ?_
  refine lv_icmp_lt (tgt := 18) hx hb (dkS dF_161 DX11_form (i := 2) rfl rfl rfl) (by decide) (fun c1 => ?_) (fun c1 => ?_)
  · (try simp (disch := omega) only [ta_lt, ta_le, ta_eq, tnI, tl32 1 (by decide)] at c1)
    refine lv_bipush (v := (-2)) hx hb (dks dF_16 DX11_form (i := 9) rfl rfl rfl) (by decide) ?_
    exact z_iret C0 hr hlk hw (⟨(by unfold FMQ; left; refine ⟨?_, rfl⟩; (try simp only [lg_cmp_lt, lg_cmp_le, lg_cmp_gt, lg_cmp_ge, lg_cmp_eq] at c1); (try simp (disch := omega) only [ta_lt, ta_le, ta_eq, tb_lt, tb_le, tb_eq, tw, tnI, tsub1, tsv, tsb32, tn32 2 (by decide), tnj 2 (by decide), tn32 1 (by decide), tnj 1 (by decide), tl32 0 (by decide), tl64 0 (by decide), tl32 1 (by decide), tl64 1 (by decide)] at c1); (try simp (disch := omega) only [ta_lt, ta_le, ta_eq, tb_lt, tb_le, tb_eq, tw, tnI, tsub1, tsv, tsb32, tn32 2 (by decide), tnj 2 (by decide), tn32 1 (by decide), tnj 1 (by decide), tl32 0 (by decide), tl64 0 (by decide), tl32 1 (by decide), tl64 1 (by decide)]); omega), hJ, hT, frC.refl⟩) (dkP dF_172 DX11_form (i := 10) rfl rfl)
  · (try simp (disch := omega) only [ta_lt, ta_le, ta_eq, tnI, tl32 1 (by decide)] at c1)
    refine lv_iload_n hx hb (dkP dF_27 DX11_form (i := 3) rfl rfl) rfl (lv_at hl 1 rfl) ?_
    refine lv_bipush (v := 9) hx hb (dks dF_16 DX11_form (i := 4) rfl rfl rfl) (by decide) ?_
    refine lv_icmp_gt (tgt := 18) hx hb (dkS dF_163 DX11_form (i := 5) rfl rfl rfl) (by decide) (fun c2 => ?_) (fun c2 => ?_)
    · (try simp (disch := omega) only [ta_lt, ta_le, ta_eq, tnI, tl32 9 (by decide)] at c2)
      refine lv_bipush (v := (-2)) hx hb (dks dF_16 DX11_form (i := 9) rfl rfl rfl) (by decide) ?_
      exact z_iret C0 hr hlk hw (⟨(by unfold FMQ; left; refine ⟨?_, rfl⟩; (try simp only [lg_cmp_lt, lg_cmp_le, lg_cmp_gt, lg_cmp_ge, lg_cmp_eq] at c1); (try simp (disch := omega) only [ta_lt, ta_le, ta_eq, tb_lt, tb_le, tb_eq, tw, tnI, tsub1, tsv, tsb32, tn32 2 (by decide), tnj 2 (by decide), tn32 1 (by decide), tnj 1 (by decide), tl32 0 (by decide), tl64 0 (by decide), tl32 1 (by decide), tl64 1 (by decide), tl32 9 (by decide), tl64 9 (by decide)] at c1); (try simp only [lg_cmp_lt, lg_cmp_le, lg_cmp_gt, lg_cmp_ge, lg_cmp_eq] at c2); (try simp (disch := omega) only [ta_lt, ta_le, ta_eq, tb_lt, tb_le, tb_eq, tw, tnI, tsub1, tsv, tsb32, tn32 2 (by decide), tnj 2 (by decide), tn32 1 (by decide), tnj 1 (by decide), tl32 0 (by decide), tl64 0 (by decide), tl32 1 (by decide), tl64 1 (by decide), tl32 9 (by decide), tl64 9 (by decide)] at c2); (try simp (disch := omega) only [ta_lt, ta_le, ta_eq, tb_lt, tb_le, tb_eq, tw, tnI, tsub1, tsv, tsb32, tn32 2 (by decide), tnj 2 (by decide), tn32 1 (by decide), tnj 1 (by decide), tl32 0 (by decide), tl64 0 (by decide), tl32 1 (by decide), tl64 1 (by decide), tl32 9 (by decide), tl64 9 (by decide)]); omega), hJ, hT, frC.refl⟩) (dkP dF_172 DX11_form (i := 10) rfl rfl)
    · (try simp (disch := omega) only [ta_lt, ta_le, ta_eq, tnI, tl32 9 (by decide)] at c2)
      refine lv_iload_n hx hb (dkP dF_28 DX11_form (i := 6) rfl rfl) rfl (lv_at hl 2 rfl) ?_
      refine zn_I hw (zr_S (As := [.int fk]) (rest := []) C0 (c_X11_isEdge l G kc fk  _) cs_X11_isEdge lk_X11_133 (zp_P C0 hRo hw a00 s00) rfl hl.1 rfl ⟨by decide, by decide⟩ (Nat.le_of_ble_eq_true rfl) (dk2 dF_184 DX11_form (i := 7) rfl rfl rfl) ⟨Nat.le_refl _, Nat.le_refl _⟩) (fun r3 s3 H locs hp hw => ?_)
      rcases hp with ⟨rfl, hc3⟩ | ⟨rfl, hc3⟩
      · skip
        (try simp (disch := omega) only [ta_lt, ta_le, ta_eq, tb_lt, tb_le, tb_eq, tw, tnI, tn32 2 (by decide), tnj 2 (by decide), tn32 1 (by decide), tnj 1 (by decide), tl32 0 (by decide), tl64 0 (by decide), tl32 1 (by decide), tl64 1 (by decide), tl32 9 (by decide), tl64 9 (by decide)] at hc3)
        refine lv_if_ne (tgt := 21) hx hb (dkS dF_154 DX11_form (i := 8) rfl rfl rfl) (by decide) (fun _ => ?_) (fun h => absurd h (by decide))
        refine lv_aload_n hx hb (dkP dF_42 DX11_form (i := 11) rfl rfl) rfl (lv_at hl 0 rfl) ?_
        refine z_gr C0 hw 0 0 1 (fk_of shc_0 rfl) fl_X11_10 (dk2 dF_180 DX11_form (i := 12) rfl rfl rfl) ?_
        refine z_gr C0 hw 1 7 6 (fk_of shc_1 rfl) fl_X11_301 (dk2 dF_180 DX11_form (i := 13) rfl rfl rfl) ?_
        refine lv_iload_n hx hb (dkP dF_27 DX11_form (i := 14) rfl rfl) rfl (lv_at hl 1 rfl) ?_
        refine lv_iload_n hx hb (dkP dF_28 DX11_form (i := 15) rfl rfl) rfl (lv_at hl 2 rfl) ?_
        refine zk_V hw (zr_V (As := [.int fm, .int fk]) (rest := []) C0 (c_X6_reform l G kc ad σ fm fk (by omega) hT _) cv_X6_reform lk_X11_305 (zp_V C0 hRo hw 6 shc_6 rfl rfl) rfl hl.1 rfl ⟨by decide, by decide⟩ (Nat.le_of_ble_eq_true rfl) (dk2 dF_182 DX11_form (i := 16) rfl rfl rfl) ⟨Nat.le_refl _, Nat.le_refl _⟩) (fun s4 H locs hp hw => ?_)
        obtain ⟨hT4, hG4⟩ := hp
        have hF4 : frC (fun x y => (x = 6 ∧ y = 1) ∨ (x = 6 ∧ y = 2) ∨ (x = 7)) σ s4 := frC.t frC.refl hG4 (fun x y h => by have h : (x = 6 ∧ y = 1) ∨ (x = 6 ∧ y = 2) ∨ (x = 7) := h; show (x = 6 ∧ y = 1) ∨ (x = 6 ∧ y = 2) ∨ (x = 7); rcases h with h | h | h; (· exact Or.inl h); (· exact Or.inr (Or.inl h)); (· exact Or.inr (Or.inr (h))))
        refine lv_iconst (v := 0) hx hb (dkP dF_3 DX11_form (i := 17) rfl rfl) (by decide) ?_
        exact z_iret C0 hr hlk hw (⟨(by unfold FMQ; right; refine ⟨?_, ?_, ?_, ?_, rfl⟩ <;> ((try simp only [lg_cmp_lt, lg_cmp_le, lg_cmp_gt, lg_cmp_ge, lg_cmp_eq] at c1); (try simp (disch := omega) only [ta_lt, ta_le, ta_eq, tb_lt, tb_le, tb_eq, tw, tnI, tsub1, tsv, tsb32, tn32 2 (by decide), tnj 2 (by decide), tn32 1 (by decide), tnj 1 (by decide), tl32 0 (by decide), tl64 0 (by decide), tl32 1 (by decide), tl64 1 (by decide), tl32 9 (by decide), tl64 9 (by decide)] at c1); (try simp only [lg_cmp_lt, lg_cmp_le, lg_cmp_gt, lg_cmp_ge, lg_cmp_eq] at c2); (try simp (disch := omega) only [ta_lt, ta_le, ta_eq, tb_lt, tb_le, tb_eq, tw, tnI, tsub1, tsv, tsb32, tn32 2 (by decide), tnj 2 (by decide), tn32 1 (by decide), tnj 1 (by decide), tl32 0 (by decide), tl64 0 (by decide), tl32 1 (by decide), tl64 1 (by decide), tl32 9 (by decide), tl64 9 (by decide)] at c2); (try simp only [lg_cmp_lt, lg_cmp_le, lg_cmp_gt, lg_cmp_ge, lg_cmp_eq] at hc3); (try simp (disch := omega) only [ta_lt, ta_le, ta_eq, tb_lt, tb_le, tb_eq, tw, tnI, tsub1, tsv, tsb32, tn32 2 (by decide), tnj 2 (by decide), tn32 1 (by decide), tnj 1 (by decide), tl32 0 (by decide), tl64 0 (by decide), tl32 1 (by decide), tl64 1 (by decide), tl32 9 (by decide), tl64 9 (by decide)] at hc3); (try simp (disch := omega) only [ta_lt, ta_le, ta_eq, tb_lt, tb_le, tb_eq, tw, tnI, tsub1, tsv, tsb32, tn32 2 (by decide), tnj 2 (by decide), tn32 1 (by decide), tnj 1 (by decide), tl32 0 (by decide), tl64 0 (by decide), tl32 1 (by decide), tl64 1 (by decide), tl32 9 (by decide), tl64 9 (by decide)]); omega)), (hJ.fr hF4.2 (fun x y hj => hF4.1 x y (fun h_ => by have h_ : (x = 6 ∧ y = 1) ∨ (x = 6 ∧ y = 2) ∨ (x = 7) := h_; unfold jcq at hj; rcases h_ with h_ | h_ | h_; (· omega); (· omega); (· omega)))), hT4, hF4⟩) (dkP dF_172 DX11_form (i := 18) rfl rfl)
      · skip
        (try simp (disch := omega) only [ta_lt, ta_le, ta_eq, tb_lt, tb_le, tb_eq, tw, tnI, tn32 2 (by decide), tnj 2 (by decide), tn32 1 (by decide), tnj 1 (by decide), tl32 0 (by decide), tl64 0 (by decide), tl32 1 (by decide), tl64 1 (by decide), tl32 9 (by decide), tl64 9 (by decide)] at hc3)
        refine lv_if_ne (tgt := 21) hx hb (dkS dF_154 DX11_form (i := 8) rfl rfl rfl) (by decide) (fun h => absurd h (by decide)) (fun _ => ?_)
        refine lv_bipush (v := (-2)) hx hb (dks dF_16 DX11_form (i := 9) rfl rfl rfl) (by decide) ?_
        exact z_iret C0 hr hlk hw (⟨(by unfold FMQ; left; refine ⟨?_, rfl⟩; (try simp only [lg_cmp_lt, lg_cmp_le, lg_cmp_gt, lg_cmp_ge, lg_cmp_eq] at c1); (try simp (disch := omega) only [ta_lt, ta_le, ta_eq, tb_lt, tb_le, tb_eq, tw, tnI, tsub1, tsv, tsb32, tn32 2 (by decide), tnj 2 (by decide), tn32 1 (by decide), tnj 1 (by decide), tl32 0 (by decide), tl64 0 (by decide), tl32 1 (by decide), tl64 1 (by decide), tl32 9 (by decide), tl64 9 (by decide)] at c1); (try simp only [lg_cmp_lt, lg_cmp_le, lg_cmp_gt, lg_cmp_ge, lg_cmp_eq] at c2); (try simp (disch := omega) only [ta_lt, ta_le, ta_eq, tb_lt, tb_le, tb_eq, tw, tnI, tsub1, tsv, tsb32, tn32 2 (by decide), tnj 2 (by decide), tn32 1 (by decide), tnj 1 (by decide), tl32 0 (by decide), tl64 0 (by decide), tl32 1 (by decide), tl64 1 (by decide), tl32 9 (by decide), tl64 9 (by decide)] at c2); (try simp only [lg_cmp_lt, lg_cmp_le, lg_cmp_gt, lg_cmp_ge, lg_cmp_eq] at hc3); (try simp (disch := omega) only [ta_lt, ta_le, ta_eq, tb_lt, tb_le, tb_eq, tw, tnI, tsub1, tsv, tsb32, tn32 2 (by decide), tnj 2 (by decide), tn32 1 (by decide), tnj 1 (by decide), tl32 0 (by decide), tl64 0 (by decide), tl32 1 (by decide), tl64 1 (by decide), tl32 9 (by decide), tl64 9 (by decide)] at hc3); (try simp (disch := omega) only [ta_lt, ta_le, ta_eq, tb_lt, tb_le, tb_eq, tw, tnI, tsub1, tsv, tsb32, tn32 2 (by decide), tnj 2 (by decide), tn32 1 (by decide), tnj 1 (by decide), tl32 0 (by decide), tl64 0 (by decide), tl32 1 (by decide), tl64 1 (by decide), tl32 9 (by decide), tl64 9 (by decide)]); omega), hJ, hT, frC.refl⟩) (dkP dF_172 DX11_form (i := 10) rfl rfl)
set_option maxRecDepth 100000 in
set_option maxHeartbeats 8000000 in
theorem c_X11_put (l : Launch) (G : va_G) (kc : KC) (ad : Nat → Nat) (σ : Sg) (ri : Int32) (sd : Int32) (va : Int32) (hJ : JC σ) (hT : TC σ) : MI l G kc yX11_put cX11_put 4 (some .int) 1 24 [.ref (ad 0), .int ri, .int sd, .int va] shC ad σ (fun r σ1 => (JC σ1) ∧ TC σ1 ∧ frC (fun x y => (x = 7)) σ σ1) := by
  intro sz
  refine z_body (y := yX11_put) (n := 4) (av := [.ref (ad 0), .int ri, .int sd, .int va]) (Qc := fun A => va_Qi (fun r σ1 => (JC σ1) ∧ TC σ1 ∧ frC (fun x y => (x = 7)) σ σ1) (PoC G kc shC ad A) A) (plainFor_of_name (by decide)) (Nat.le_of_ble_eq_true rfl) (fun pr e s m below meth c A C0 hr hlk hnm hw hRo ls hl => ?_) sz
  have hx := C0.1
  have hb := C0.2.1
  have hown := C0.2.2.2.1
  have hts := C0.2.2.2.2.1
  have hl : lv_has ls 4 [(0, .ref (ad 0)), (1, .int ri), (2, .int sd), (3, .int va)] := hl
  obtain ⟨t, u, hto, ht, hun, hu⟩ := hJ.rdr
  obtain ⟨wa, wb, hwa_, hwa, hwb_, hwb, hwab⟩ := hJ.wts
  refine lv_aload_n hx hb (dkP dF_42 DX11_put (i := 0) rfl rfl) rfl (lv_at hl 0 rfl) ?_
  refine z_gr C0 hw 0 0 1 (fk_of shc_0 rfl) fl_X11_10 (dk2 dF_180 DX11_put (i := 1) rfl rfl rfl) ?_
  refine z_gr C0 hw 1 7 6 (fk_of shc_1 rfl) fl_X11_301 (dk2 dF_180 DX11_put (i := 2) rfl rfl rfl) ?_
  refine lv_iload_n hx hb (dkP dF_27 DX11_put (i := 3) rfl rfl) rfl (lv_at hl 1 rfl) ?_
  refine zk_I hw (zr_V (As := [.int ri]) (rest := []) C0 (c_X6_has l G kc ad σ ri hT _) cv_X6_has lk_X11_310 (zp_V C0 hRo hw 6 shc_6 rfl rfl) rfl hl.1 rfl ⟨by decide, by decide⟩ (Nat.le_of_ble_eq_true rfl) (dk2 dF_182 DX11_put (i := 4) rfl rfl rfl) ⟨Nat.le_refl _, Nat.le_refl _⟩) (fun r1 s1 H locs hp hw => ?_)
  obtain ⟨f1_0, hs1⟩ := hp
  (rw [hs1] at hw)
  rcases f1_0 with ⟨rfl, hc1⟩ | ⟨rfl, hc1⟩
  · skip
    refine lv_if_eq (tgt := 37) hx hb (dkS dF_153 DX11_put (i := 5) rfl rfl rfl) (by decide) (fun h => absurd h (by decide)) (fun _ => ?_)
    refine lv_iload_n hx hb (dkP dF_28 DX11_put (i := 6) rfl rfl) rfl (lv_at hl 2 rfl) ?_
    refine lv_if_lt (tgt := 37) hx hb (dkS dF_155 DX11_put (i := 7) rfl rfl rfl) (by decide) (fun c2 => ?_) (fun c2 => ?_)
    · (try simp (disch := omega) only [ta_lt, ta_le, ta_eq, tnI, tl32 0 (by decide)] at c2)
      refine lv_bipush (v := (-2)) hx hb (dks dF_16 DX11_put (i := 17) rfl rfl rfl) (by decide) ?_
      exact z_iret C0 hr hlk hw (⟨hJ, hT, frC.refl⟩) (dkP dF_172 DX11_put (i := 18) rfl rfl)
    · (try simp (disch := omega) only [ta_lt, ta_le, ta_eq, tnI, tl32 0 (by decide)] at c2)
      refine lv_iload_n hx hb (dkP dF_28 DX11_put (i := 8) rfl rfl) rfl (lv_at hl 2 rfl) ?_
      refine lv_iconst (v := 1) hx hb (dkP dF_4 DX11_put (i := 9) rfl rfl) (by decide) ?_
      refine lv_icmp_gt (tgt := 37) hx hb (dkS dF_163 DX11_put (i := 10) rfl rfl rfl) (by decide) (fun c3 => ?_) (fun c3 => ?_)
      · (try simp (disch := omega) only [ta_lt, ta_le, ta_eq, tnI, tl32 1 (by decide)] at c3)
        refine lv_bipush (v := (-2)) hx hb (dks dF_16 DX11_put (i := 17) rfl rfl rfl) (by decide) ?_
        exact z_iret C0 hr hlk hw (⟨hJ, hT, frC.refl⟩) (dkP dF_172 DX11_put (i := 18) rfl rfl)
      · (try simp (disch := omega) only [ta_lt, ta_le, ta_eq, tnI, tl32 1 (by decide)] at c3)
        refine lv_iload_n hx hb (dkP dF_29 DX11_put (i := 11) rfl rfl) rfl (lv_at hl 3 rfl) ?_
        refine lv_sipush (v := (-9999)) hx hb (dkS dF_17 DX11_put (i := 12) rfl rfl rfl) (by decide) ?_
        refine lv_icmp_lt (tgt := 37) hx hb (dkS dF_161 DX11_put (i := 13) rfl rfl rfl) (by decide) (fun c4 => ?_) (fun c4 => ?_)
        · (try simp (disch := omega) only [ta_lt, ta_le, ta_eq, tnI, tn32 9999 (by decide)] at c4)
          refine lv_bipush (v := (-2)) hx hb (dks dF_16 DX11_put (i := 17) rfl rfl rfl) (by decide) ?_
          exact z_iret C0 hr hlk hw (⟨hJ, hT, frC.refl⟩) (dkP dF_172 DX11_put (i := 18) rfl rfl)
        · (try simp (disch := omega) only [ta_lt, ta_le, ta_eq, tnI, tn32 9999 (by decide)] at c4)
          refine lv_iload_n hx hb (dkP dF_29 DX11_put (i := 14) rfl rfl) rfl (lv_at hl 3 rfl) ?_
          refine lv_sipush (v := 9999) hx hb (dkS dF_17 DX11_put (i := 15) rfl rfl rfl) (by decide) ?_
          refine lv_icmp_le (tgt := 40) hx hb (dkS dF_164 DX11_put (i := 16) rfl rfl rfl) (by decide) (fun c5 => ?_) (fun c5 => ?_)
          · (try simp (disch := omega) only [ta_lt, ta_le, ta_eq, tnI, tl32 9999 (by decide)] at c5)
            obtain ⟨rn_, hrn_, rfl⟩ := to_nat (x := ri) (n := 20) (by (try simp only [lg_cmp_lt, lg_cmp_le, lg_cmp_gt, lg_cmp_ge, lg_cmp_eq] at f1_0); (try simp (disch := omega) only [ta_lt, ta_le, ta_eq, tb_lt, tb_le, tb_eq, tw, tnI, tsub1, tsv, tsb32, tn32 9999 (by decide), tnj 9999 (by decide), tn32 2 (by decide), tnj 2 (by decide), tn32 1 (by decide), tnj 1 (by decide), tl32 0 (by decide), tl64 0 (by decide), tl32 1 (by decide), tl64 1 (by decide), tl32 9999 (by decide), tl64 9999 (by decide)] at f1_0); (try simp only [lg_cmp_lt, lg_cmp_le, lg_cmp_gt, lg_cmp_ge, lg_cmp_eq] at hc1); (try simp (disch := omega) only [ta_lt, ta_le, ta_eq, tb_lt, tb_le, tb_eq, tw, tnI, tsub1, tsv, tsb32, tn32 9999 (by decide), tnj 9999 (by decide), tn32 2 (by decide), tnj 2 (by decide), tn32 1 (by decide), tnj 1 (by decide), tl32 0 (by decide), tl64 0 (by decide), tl32 1 (by decide), tl64 1 (by decide), tl32 9999 (by decide), tl64 9999 (by decide)] at hc1); (try simp only [lg_cmp_lt, lg_cmp_le, lg_cmp_gt, lg_cmp_ge, lg_cmp_eq] at c2); (try simp (disch := omega) only [ta_lt, ta_le, ta_eq, tb_lt, tb_le, tb_eq, tw, tnI, tsub1, tsv, tsb32, tn32 9999 (by decide), tnj 9999 (by decide), tn32 2 (by decide), tnj 2 (by decide), tn32 1 (by decide), tnj 1 (by decide), tl32 0 (by decide), tl64 0 (by decide), tl32 1 (by decide), tl64 1 (by decide), tl32 9999 (by decide), tl64 9999 (by decide)] at c2); (try simp only [lg_cmp_lt, lg_cmp_le, lg_cmp_gt, lg_cmp_ge, lg_cmp_eq] at c3); (try simp (disch := omega) only [ta_lt, ta_le, ta_eq, tb_lt, tb_le, tb_eq, tw, tnI, tsub1, tsv, tsb32, tn32 9999 (by decide), tnj 9999 (by decide), tn32 2 (by decide), tnj 2 (by decide), tn32 1 (by decide), tnj 1 (by decide), tl32 0 (by decide), tl64 0 (by decide), tl32 1 (by decide), tl64 1 (by decide), tl32 9999 (by decide), tl64 9999 (by decide)] at c3); (try simp only [lg_cmp_lt, lg_cmp_le, lg_cmp_gt, lg_cmp_ge, lg_cmp_eq] at c4); (try simp (disch := omega) only [ta_lt, ta_le, ta_eq, tb_lt, tb_le, tb_eq, tw, tnI, tsub1, tsv, tsb32, tn32 9999 (by decide), tnj 9999 (by decide), tn32 2 (by decide), tnj 2 (by decide), tn32 1 (by decide), tnj 1 (by decide), tl32 0 (by decide), tl64 0 (by decide), tl32 1 (by decide), tl64 1 (by decide), tl32 9999 (by decide), tl64 9999 (by decide)] at c4); (try simp only [lg_cmp_lt, lg_cmp_le, lg_cmp_gt, lg_cmp_ge, lg_cmp_eq] at c5); (try simp (disch := omega) only [ta_lt, ta_le, ta_eq, tb_lt, tb_le, tb_eq, tw, tnI, tsub1, tsv, tsb32, tn32 9999 (by decide), tnj 9999 (by decide), tn32 2 (by decide), tnj 2 (by decide), tn32 1 (by decide), tnj 1 (by decide), tl32 0 (by decide), tl64 0 (by decide), tl32 1 (by decide), tl64 1 (by decide), tl32 9999 (by decide), tl64 9999 (by decide)] at c5); (try simp (disch := omega) only [ta_lt, ta_le, ta_eq, tb_lt, tb_le, tb_eq, tw, tnI, tsub1, tsv, tsb32, tn32 9999 (by decide), tnj 9999 (by decide), tn32 2 (by decide), tnj 2 (by decide), tn32 1 (by decide), tnj 1 (by decide), tl32 0 (by decide), tl64 0 (by decide), tl32 1 (by decide), tl64 1 (by decide), tl32 9999 (by decide), tl64 9999 (by decide)]); omega)
            obtain ⟨sn_, hsn_, rfl⟩ := to_nat (x := sd) (n := 2) (by (try simp only [lg_cmp_lt, lg_cmp_le, lg_cmp_gt, lg_cmp_ge, lg_cmp_eq] at f1_0); (try simp (disch := omega) only [ta_lt, ta_le, ta_eq, tb_lt, tb_le, tb_eq, tw, tnI, tsub1, tsv, tsb32, tn32 9999 (by decide), tnj 9999 (by decide), tn32 2 (by decide), tnj 2 (by decide), tn32 1 (by decide), tnj 1 (by decide), tl32 0 (by decide), tl64 0 (by decide), tl32 1 (by decide), tl64 1 (by decide), tl32 9999 (by decide), tl64 9999 (by decide)] at f1_0); (try simp only [lg_cmp_lt, lg_cmp_le, lg_cmp_gt, lg_cmp_ge, lg_cmp_eq] at hc1); (try simp (disch := omega) only [ta_lt, ta_le, ta_eq, tb_lt, tb_le, tb_eq, tw, tnI, tsub1, tsv, tsb32, tn32 9999 (by decide), tnj 9999 (by decide), tn32 2 (by decide), tnj 2 (by decide), tn32 1 (by decide), tnj 1 (by decide), tl32 0 (by decide), tl64 0 (by decide), tl32 1 (by decide), tl64 1 (by decide), tl32 9999 (by decide), tl64 9999 (by decide)] at hc1); (try simp only [lg_cmp_lt, lg_cmp_le, lg_cmp_gt, lg_cmp_ge, lg_cmp_eq] at c2); (try simp (disch := omega) only [ta_lt, ta_le, ta_eq, tb_lt, tb_le, tb_eq, tw, tnI, tsub1, tsv, tsb32, tn32 9999 (by decide), tnj 9999 (by decide), tn32 2 (by decide), tnj 2 (by decide), tn32 1 (by decide), tnj 1 (by decide), tl32 0 (by decide), tl64 0 (by decide), tl32 1 (by decide), tl64 1 (by decide), tl32 9999 (by decide), tl64 9999 (by decide)] at c2); (try simp only [lg_cmp_lt, lg_cmp_le, lg_cmp_gt, lg_cmp_ge, lg_cmp_eq] at c3); (try simp (disch := omega) only [ta_lt, ta_le, ta_eq, tb_lt, tb_le, tb_eq, tw, tnI, tsub1, tsv, tsb32, tn32 9999 (by decide), tnj 9999 (by decide), tn32 2 (by decide), tnj 2 (by decide), tn32 1 (by decide), tnj 1 (by decide), tl32 0 (by decide), tl64 0 (by decide), tl32 1 (by decide), tl64 1 (by decide), tl32 9999 (by decide), tl64 9999 (by decide)] at c3); (try simp only [lg_cmp_lt, lg_cmp_le, lg_cmp_gt, lg_cmp_ge, lg_cmp_eq] at c4); (try simp (disch := omega) only [ta_lt, ta_le, ta_eq, tb_lt, tb_le, tb_eq, tw, tnI, tsub1, tsv, tsb32, tn32 9999 (by decide), tnj 9999 (by decide), tn32 2 (by decide), tnj 2 (by decide), tn32 1 (by decide), tnj 1 (by decide), tl32 0 (by decide), tl64 0 (by decide), tl32 1 (by decide), tl64 1 (by decide), tl32 9999 (by decide), tl64 9999 (by decide)] at c4); (try simp only [lg_cmp_lt, lg_cmp_le, lg_cmp_gt, lg_cmp_ge, lg_cmp_eq] at c5); (try simp (disch := omega) only [ta_lt, ta_le, ta_eq, tb_lt, tb_le, tb_eq, tw, tnI, tsub1, tsv, tsb32, tn32 9999 (by decide), tnj 9999 (by decide), tn32 2 (by decide), tnj 2 (by decide), tn32 1 (by decide), tnj 1 (by decide), tl32 0 (by decide), tl64 0 (by decide), tl32 1 (by decide), tl64 1 (by decide), tl32 9999 (by decide), tl64 9999 (by decide)] at c5); (try simp (disch := omega) only [ta_lt, ta_le, ta_eq, tb_lt, tb_le, tb_eq, tw, tnI, tsub1, tsv, tsb32, tn32 9999 (by decide), tnj 9999 (by decide), tn32 2 (by decide), tnj 2 (by decide), tn32 1 (by decide), tnj 1 (by decide), tl32 0 (by decide), tl64 0 (by decide), tl32 1 (by decide), tl64 1 (by decide), tl32 9999 (by decide), tl64 9999 (by decide)]); omega)
            refine lv_aload_n hx hb (dkP dF_42 DX11_put (i := 19) rfl rfl) rfl (lv_at hl 0 rfl) ?_
            refine z_gr C0 hw 0 0 1 (fk_of shc_0 rfl) fl_X11_10 (dk2 dF_180 DX11_put (i := 20) rfl rfl rfl) ?_
            refine z_gr C0 hw 1 7 6 (fk_of shc_1 rfl) fl_X11_301 (dk2 dF_180 DX11_put (i := 21) rfl rfl rfl) ?_
            refine lv_iload_n hx hb (dkP dF_27 DX11_put (i := 22) rfl rfl) rfl (lv_at hl 1 rfl) ?_
            refine lv_iload_n hx hb (dkP dF_28 DX11_put (i := 23) rfl rfl) rfl (lv_at hl 2 rfl) ?_
            refine lv_iload_n hx hb (dkP dF_29 DX11_put (i := 24) rfl rfl) rfl (lv_at hl 3 rfl) ?_
            refine zk_I hw (zr_V (As := [.int (nI rn_), .int (nI sn_), .int va]) (rest := []) C0 (c_X6_enter l G kc ad σ rn_ sn_ va (by omega) (by omega) hT _) cv_X6_enter lk_X11_313 (zp_V C0 hRo hw 6 shc_6 rfl rfl) rfl hl.1 rfl ⟨by decide, by decide⟩ (Nat.le_of_ble_eq_true rfl) (dk2 dF_182 DX11_put (i := 25) rfl rfl rfl) ⟨Nat.le_refl _, Nat.le_refl _⟩) (fun r6 s6 H locs hp hw => ?_)
            obtain ⟨hT6, hG6⟩ := hp
            have hF6 : frC (fun x y => (x = 7)) σ s6 := frC.t frC.refl hG6 (fun x y h => by have h : (x = 7) := h; show (x = 7); exact h)
            exact z_iret C0 hr hlk hw (⟨(hJ.fr hF6.2 (fun x y hj => hF6.1 x y (fun h_ => by have h_ : (x = 7) := h_; unfold jcq at hj; (· omega)))), hT6, hF6⟩) (dkP dF_172 DX11_put (i := 26) rfl rfl)
          · (try simp (disch := omega) only [ta_lt, ta_le, ta_eq, tnI, tl32 9999 (by decide)] at c5)
            refine lv_bipush (v := (-2)) hx hb (dks dF_16 DX11_put (i := 17) rfl rfl rfl) (by decide) ?_
            exact z_iret C0 hr hlk hw (⟨hJ, hT, frC.refl⟩) (dkP dF_172 DX11_put (i := 18) rfl rfl)
  · skip
    refine lv_if_eq (tgt := 37) hx hb (dkS dF_153 DX11_put (i := 5) rfl rfl rfl) (by decide) (fun _ => ?_) (fun h => absurd h (by decide))
    refine lv_bipush (v := (-2)) hx hb (dks dF_16 DX11_put (i := 17) rfl rfl rfl) (by decide) ?_
    exact z_iret C0 hr hlk hw (⟨hJ, hT, frC.refl⟩) (dkP dF_172 DX11_put (i := 18) rfl rfl)
set_option maxRecDepth 100000 in
set_option maxHeartbeats 8000000 in
theorem c_X11_lead (l : Launch) (G : va_G) (kc : KC) (ad : Nat → Nat) (σ : Sg) (ri : Int32) (hJ : JC σ) (hT : TC σ) : MI l G kc yX11_lead cX11_lead 2 (some .int) 2 45 [.ref (ad 0), .int ri] shC ad σ (fun r σ1 => (JC σ1) ∧ TC σ1 ∧ frC (fun x y => (x = 7)) σ σ1) := by
  intro sz
  refine z_body (y := yX11_lead) (n := 2) (av := [.ref (ad 0), .int ri]) (Qc := fun A => va_Qi (fun r σ1 => (JC σ1) ∧ TC σ1 ∧ frC (fun x y => (x = 7)) σ σ1) (PoC G kc shC ad A) A) (plainFor_of_name (by decide)) (Nat.le_of_ble_eq_true rfl) (fun pr e s m below meth c A C0 hr hlk hnm hw hRo ls hl => ?_) sz
  have hx := C0.1
  have hb := C0.2.1
  have hown := C0.2.2.2.1
  have hts := C0.2.2.2.2.1
  have hl : lv_has ls 2 [(0, .ref (ad 0)), (1, .int ri)] := hl
  obtain ⟨t, u, hto, ht, hun, hu⟩ := hJ.rdr
  obtain ⟨wa, wb, hwa_, hwa, hwb_, hwb, hwab⟩ := hJ.wts
  refine lv_aload_n hx hb (dkP dF_42 DX11_lead (i := 0) rfl rfl) rfl (lv_at hl 0 rfl) ?_
  refine z_gr C0 hw 0 0 1 (fk_of shc_0 rfl) fl_X11_10 (dk2 dF_180 DX11_lead (i := 1) rfl rfl rfl) ?_
  refine z_gr C0 hw 1 7 6 (fk_of shc_1 rfl) fl_X11_301 (dk2 dF_180 DX11_lead (i := 2) rfl rfl rfl) ?_
  refine lv_iload_n hx hb (dkP dF_27 DX11_lead (i := 3) rfl rfl) rfl (lv_at hl 1 rfl) ?_
  refine zk_I hw (zr_V (As := [.int ri]) (rest := []) C0 (c_X6_has l G kc ad σ ri hT _) cv_X6_has lk_X11_310 (zp_V C0 hRo hw 6 shc_6 rfl rfl) rfl hl.1 rfl ⟨by decide, by decide⟩ (Nat.le_of_ble_eq_true rfl) (dk2 dF_182 DX11_lead (i := 4) rfl rfl rfl) ⟨Nat.le_refl _, Nat.le_refl _⟩) (fun r1 s1 H locs hp hw => ?_)
  obtain ⟨f1_0, hs1⟩ := hp
  (rw [hs1] at hw)
  rcases f1_0 with ⟨rfl, hc1⟩ | ⟨rfl, hc1⟩
  · skip
    refine lv_if_eq (tgt := 28) hx hb (dkS dF_153 DX11_lead (i := 5) rfl rfl rfl) (by decide) (fun h => absurd h (by decide)) (fun _ => ?_)
    obtain ⟨rn_, hrn_, rfl⟩ := to_nat (x := ri) (n := 20) (by (try simp only [lg_cmp_lt, lg_cmp_le, lg_cmp_gt, lg_cmp_ge, lg_cmp_eq] at f1_0); (try simp (disch := omega) only [ta_lt, ta_le, ta_eq, tb_lt, tb_le, tb_eq, tw, tnI, tsub1, tsv, tsb32, tn32 1 (by decide), tnj 1 (by decide), tl32 0 (by decide), tl64 0 (by decide)] at f1_0); (try simp only [lg_cmp_lt, lg_cmp_le, lg_cmp_gt, lg_cmp_ge, lg_cmp_eq] at hc1); (try simp (disch := omega) only [ta_lt, ta_le, ta_eq, tb_lt, tb_le, tb_eq, tw, tnI, tsub1, tsv, tsb32, tn32 1 (by decide), tnj 1 (by decide), tl32 0 (by decide), tl64 0 (by decide)] at hc1); (try simp (disch := omega) only [ta_lt, ta_le, ta_eq, tb_lt, tb_le, tb_eq, tw, tnI, tsub1, tsv, tsb32, tn32 1 (by decide), tnj 1 (by decide), tl32 0 (by decide), tl64 0 (by decide)]); omega)
    refine lv_aload_n hx hb (dkP dF_42 DX11_lead (i := 6) rfl rfl) rfl (lv_at hl 0 rfl) ?_
    refine z_gr C0 hw 0 0 1 (fk_of shc_0 rfl) fl_X11_10 (dk2 dF_180 DX11_lead (i := 7) rfl rfl rfl) ?_
    refine z_gr C0 hw 1 7 6 (fk_of shc_1 rfl) fl_X11_301 (dk2 dF_180 DX11_lead (i := 8) rfl rfl rfl) ?_
    refine lv_iload_n hx hb (dkP dF_27 DX11_lead (i := 9) rfl rfl) rfl (lv_at hl 1 rfl) ?_
    refine zk_I hw (zr_V (As := [.int (nI rn_)]) (rest := []) C0 (c_X6_leadOver l G kc ad σ rn_ (by omega) hT _) cv_X6_leadOver lk_X11_316 (zp_V C0 hRo hw 6 shc_6 rfl rfl) rfl hl.1 rfl ⟨by decide, by decide⟩ (Nat.le_of_ble_eq_true rfl) (dk2 dF_182 DX11_lead (i := 10) rfl rfl rfl) ⟨Nat.le_refl _, Nat.le_refl _⟩) (fun r2 s2 H locs hp hw => ?_)
    obtain ⟨hT2, hG2⟩ := hp
    have hF2 : frC (fun x y => (x = 7)) σ s2 := frC.t frC.refl hG2 (fun x y h => by have h : (x = 7) := h; show (x = 7); exact h)
    refine lv_goto (tgt := 30) hx hb (dkS dF_167 DX11_lead (i := 11) rfl rfl rfl) (by decide) ?_
    exact z_iret C0 hr hlk hw (⟨(hJ.fr hF2.2 (fun x y hj => hF2.1 x y (fun h_ => by have h_ : (x = 7) := h_; unfold jcq at hj; (· omega)))), hT2, hF2⟩) (dkP dF_172 DX11_lead (i := 13) rfl rfl)
  · skip
    refine lv_if_eq (tgt := 28) hx hb (dkS dF_153 DX11_lead (i := 5) rfl rfl rfl) (by decide) (fun _ => ?_) (fun h => absurd h (by decide))
    refine lv_ldc hx hb hown (hts _ kn_X11_217) (dk1 dF_18 DX11_lead (i := 12) rfl rfl rfl) ?_
    exact z_iret C0 hr hlk hw (⟨hJ, hT, frC.refl⟩) (dkP dF_172 DX11_lead (i := 13) rfl rfl)
set_option maxRecDepth 100000 in
set_option maxHeartbeats 8000000 in
theorem c_X11_row (l : Launch) (G : va_G) (kc : KC) (ad : Nat → Nat) (σ : Sg) (ri : Int32) (what : Int32) (hJ : JC σ) (hT : TC σ) : MI l G kc yX11_row cX11_row 3 (some .int) 2 43 [.ref (ad 0), .int ri, .int what] shC ad σ (fun r σ1 => (JC σ1) ∧ σ1 = σ) := by
  intro sz
  refine z_body (y := yX11_row) (n := 3) (av := [.ref (ad 0), .int ri, .int what]) (Qc := fun A => va_Qi (fun r σ1 => (JC σ1) ∧ σ1 = σ) (PoC G kc shC ad A) A) (plainFor_of_name (by decide)) (Nat.le_of_ble_eq_true rfl) (fun pr e s m below meth c A C0 hr hlk hnm hw hRo ls hl => ?_) sz
  have hx := C0.1
  have hb := C0.2.1
  have hown := C0.2.2.2.1
  have hts := C0.2.2.2.2.1
  have hl : lv_has ls 3 [(0, .ref (ad 0)), (1, .int ri), (2, .int what)] := hl
  obtain ⟨t, u, hto, ht, hun, hu⟩ := hJ.rdr
  obtain ⟨wa, wb, hwa_, hwa, hwb_, hwb, hwab⟩ := hJ.wts
  refine lv_aload_n hx hb (dkP dF_42 DX11_row (i := 0) rfl rfl) rfl (lv_at hl 0 rfl) ?_
  refine z_gr C0 hw 0 0 1 (fk_of shc_0 rfl) fl_X11_10 (dk2 dF_180 DX11_row (i := 1) rfl rfl rfl) ?_
  refine z_gr C0 hw 1 7 6 (fk_of shc_1 rfl) fl_X11_301 (dk2 dF_180 DX11_row (i := 2) rfl rfl rfl) ?_
  refine lv_iload_n hx hb (dkP dF_27 DX11_row (i := 3) rfl rfl) rfl (lv_at hl 1 rfl) ?_
  refine lv_iload_n hx hb (dkP dF_28 DX11_row (i := 4) rfl rfl) rfl (lv_at hl 2 rfl) ?_
  refine zk_I hw (zr_V (As := [.int ri, .int what]) (rest := []) C0 (c_X6_tell l G kc ad σ ri what hT _) cv_X6_tell lk_X11_319 (zp_V C0 hRo hw 6 shc_6 rfl rfl) rfl hl.1 rfl ⟨by decide, by decide⟩ (Nat.le_of_ble_eq_true rfl) (dk2 dF_182 DX11_row (i := 5) rfl rfl rfl) ⟨Nat.le_refl _, Nat.le_refl _⟩) (fun r1 s1 H locs hp hw => ?_)
  have hs1 := hp
  (rw [hs1] at hw)
  exact z_iret C0 hr hlk hw (⟨hJ, rfl⟩) (dkP dF_172 DX11_row (i := 6) rfl rfl)
set_option maxRecDepth 100000 in
set_option maxHeartbeats 8000000 in
theorem c_X11_check (l : Launch) (G : va_G) (kc : KC) (ad : Nat → Nat) (σ : Sg)  (hJ : JC σ) (hT : TC σ) : MI l G kc yX11_check cX11_check 1 (some .int) 1 23 [.ref (ad 0)] shC ad σ (fun r σ1 => (JC σ1) ∧ σ1 = σ) := by
  intro sz
  refine z_body (y := yX11_check) (n := 1) (av := [.ref (ad 0)]) (Qc := fun A => va_Qi (fun r σ1 => (JC σ1) ∧ σ1 = σ) (PoC G kc shC ad A) A) (plainFor_of_name (by decide)) (Nat.le_of_ble_eq_true rfl) (fun pr e s m below meth c A C0 hr hlk hnm hw hRo ls hl => ?_) sz
  have hx := C0.1
  have hb := C0.2.1
  have hown := C0.2.2.2.1
  have hts := C0.2.2.2.2.1
  have hl : lv_has ls 1 [(0, .ref (ad 0))] := hl
  obtain ⟨t, u, hto, ht, hun, hu⟩ := hJ.rdr
  obtain ⟨wa, wb, hwa_, hwa, hwb_, hwb, hwab⟩ := hJ.wts
  refine lv_aload_n hx hb (dkP dF_42 DX11_check (i := 0) rfl rfl) rfl (lv_at hl 0 rfl) ?_
  refine z_gr C0 hw 0 0 1 (fk_of shc_0 rfl) fl_X11_10 (dk2 dF_180 DX11_check (i := 1) rfl rfl rfl) ?_
  refine z_gr C0 hw 1 7 6 (fk_of shc_1 rfl) fl_X11_301 (dk2 dF_180 DX11_check (i := 2) rfl rfl rfl) ?_
  refine zk_I hw (zr_V (As := []) (rest := []) C0 (c_X6_agreement l G kc ad σ hT _) cv_X6_agreement lk_X11_321 (zp_V C0 hRo hw 6 shc_6 rfl rfl) rfl hl.1 rfl ⟨by decide, by decide⟩ (Nat.le_of_ble_eq_true rfl) (dk2 dF_182 DX11_check (i := 3) rfl rfl rfl) ⟨Nat.le_refl _, Nat.le_refl _⟩) (fun r1 s1 H locs hp hw => ?_)
  have hs1 := hp
  (rw [hs1] at hw)
  exact z_iret C0 hr hlk hw (⟨hJ, rfl⟩) (dkP dF_172 DX11_check (i := 4) rfl rfl)
set_option maxRecDepth 100000 in
set_option maxHeartbeats 8000000 in
theorem c_X11_heaps (l : Launch) (G : va_G) (kc : KC) (ad : Nat → Nat) (σ : Sg)  (hJ : JC σ) (hT : TC σ) : MI l G kc yX11_heaps cX11_heaps 1 (some .int) 0 0 [.ref (ad 0)] shC ad σ (fun r σ1 => (JC σ1) ∧ σ1 = σ) := by
  intro sz
  refine z_body (y := yX11_heaps) (n := 1) (av := [.ref (ad 0)]) (Qc := fun A => va_Qi (fun r σ1 => (JC σ1) ∧ σ1 = σ) (PoC G kc shC ad A) A) (plainFor_of_name (by decide)) (Nat.le_of_ble_eq_true rfl) (fun pr e s m below meth c A C0 hr hlk hnm hw hRo ls hl => ?_) sz
  have hx := C0.1
  have hb := C0.2.1
  have hown := C0.2.2.2.1
  have hts := C0.2.2.2.2.1
  have hl : lv_has ls 1 [(0, .ref (ad 0))] := hl
  obtain ⟨t, u, hto, ht, hun, hu⟩ := hJ.rdr
  obtain ⟨wa, wb, hwa_, hwa, hwb_, hwb, hwab⟩ := hJ.wts
  refine lv_aload_n hx hb (dkP dF_42 DX11_heaps (i := 0) rfl rfl) rfl (lv_at hl 0 rfl) ?_
  refine z_gr C0 hw 0 0 1 (fk_of shc_0 rfl) fl_X11_10 (dk2 dF_180 DX11_heaps (i := 1) rfl rfl rfl) ?_
  refine z_gi C0 hw 1 4 (fk_of shc_1 rfl) fl_X11_248 (dk2 dF_180 DX11_heaps (i := 2) rfl rfl rfl) ?_
  obtain ⟨n1, hn1, en1⟩ := rngN (x := σ.1 1 4) (h := 60) (tcr_13_4 hT tcl_1)
  refine z_top (y := nI n1) en1 ?_
  exact z_iret C0 hr hlk hw (⟨hJ, rfl⟩) (dkP dF_172 DX11_heaps (i := 3) rfl rfl)
set_option maxRecDepth 100000 in
set_option maxHeartbeats 8000000 in
theorem c_X11_heap (l : Launch) (G : va_G) (kc : KC) (ad : Nat → Nat) (σ : Sg) (hh : Int32) (what : Int32) (hJ : JC σ) (hT : TC σ) : MI l G kc yX11_heap cX11_heap 3 (some .int) 1 21 [.ref (ad 0), .int hh, .int what] shC ad σ (fun r σ1 => (JC σ1) ∧ σ1 = σ) := by
  intro sz
  refine z_body (y := yX11_heap) (n := 3) (av := [.ref (ad 0), .int hh, .int what]) (Qc := fun A => va_Qi (fun r σ1 => (JC σ1) ∧ σ1 = σ) (PoC G kc shC ad A) A) (plainFor_of_name (by decide)) (Nat.le_of_ble_eq_true rfl) (fun pr e s m below meth c A C0 hr hlk hnm hw hRo ls hl => ?_) sz
  have hx := C0.1
  have hb := C0.2.1
  have hown := C0.2.2.2.1
  have hts := C0.2.2.2.2.1
  have hl : lv_has ls 3 [(0, .ref (ad 0)), (1, .int hh), (2, .int what)] := hl
  obtain ⟨t, u, hto, ht, hun, hu⟩ := hJ.rdr
  obtain ⟨wa, wb, hwa_, hwa, hwb_, hwb, hwab⟩ := hJ.wts
  refine lv_aload_n hx hb (dkP dF_42 DX11_heap (i := 0) rfl rfl) rfl (lv_at hl 0 rfl) ?_
  refine z_gr C0 hw 0 0 1 (fk_of shc_0 rfl) fl_X11_10 (dk2 dF_180 DX11_heap (i := 1) rfl rfl rfl) ?_
  refine lv_iload_n hx hb (dkP dF_27 DX11_heap (i := 2) rfl rfl) rfl (lv_at hl 1 rfl) ?_
  refine zk_I hw (zr_V (As := [.int hh]) (rest := []) C0 (c_X10_hasHeap l G kc ad σ hh hT _) cv_X10_hasHeap lk_X11_251 (zp_V C0 hRo hw 1 shc_1 rfl rfl) rfl hl.1 rfl ⟨by decide, by decide⟩ (Nat.le_of_ble_eq_true rfl) (dk2 dF_182 DX11_heap (i := 3) rfl rfl rfl) ⟨Nat.le_refl _, Nat.le_refl _⟩) (fun r1 s1 H locs hp hw => ?_)
  obtain ⟨f1_0, hs1⟩ := hp
  (rw [hs1] at hw)
  rcases f1_0 with ⟨rfl, hc1⟩ | ⟨rfl, hc1⟩
  · skip
    refine lv_if_eq (tgt := 21) hx hb (dkS dF_153 DX11_heap (i := 4) rfl rfl rfl) (by decide) (fun h => absurd h (by decide)) (fun _ => ?_)
    refine lv_iload_n hx hb (dkP dF_28 DX11_heap (i := 5) rfl rfl) rfl (lv_at hl 2 rfl) ?_
    refine lv_if_lt (tgt := 21) hx hb (dkS dF_155 DX11_heap (i := 6) rfl rfl rfl) (by decide) (fun c2 => ?_) (fun c2 => ?_)
    · (try simp (disch := omega) only [ta_lt, ta_le, ta_eq, tnI, tl32 0 (by decide)] at c2)
      refine lv_iconst (v := (-1)) hx hb (dkP dF_2 DX11_heap (i := 10) rfl rfl) (by decide) ?_
      exact z_iret C0 hr hlk hw (⟨hJ, rfl⟩) (dkP dF_172 DX11_heap (i := 11) rfl rfl)
    · (try simp (disch := omega) only [ta_lt, ta_le, ta_eq, tnI, tl32 0 (by decide)] at c2)
      refine lv_iload_n hx hb (dkP dF_28 DX11_heap (i := 7) rfl rfl) rfl (lv_at hl 2 rfl) ?_
      refine lv_bipush (v := 7) hx hb (dks dF_16 DX11_heap (i := 8) rfl rfl rfl) (by decide) ?_
      refine lv_icmp_lt (tgt := 23) hx hb (dkS dF_161 DX11_heap (i := 9) rfl rfl rfl) (by decide) (fun c3 => ?_) (fun c3 => ?_)
      · (try simp (disch := omega) only [ta_lt, ta_le, ta_eq, tnI, tl32 7 (by decide)] at c3)
        obtain ⟨hn_, hhn_, rfl⟩ := to_nat (x := hh) (n := 60) (by (try simp only [lg_cmp_lt, lg_cmp_le, lg_cmp_gt, lg_cmp_ge, lg_cmp_eq] at f1_0); (try simp (disch := omega) only [ta_lt, ta_le, ta_eq, tb_lt, tb_le, tb_eq, tw, tnI, tsub1, tsv, tsb32, tn32 1 (by decide), tnj 1 (by decide), tl32 0 (by decide), tl64 0 (by decide), tl32 7 (by decide), tl64 7 (by decide)] at f1_0); (try simp only [lg_cmp_lt, lg_cmp_le, lg_cmp_gt, lg_cmp_ge, lg_cmp_eq] at hc1); (try simp (disch := omega) only [ta_lt, ta_le, ta_eq, tb_lt, tb_le, tb_eq, tw, tnI, tsub1, tsv, tsb32, tn32 1 (by decide), tnj 1 (by decide), tl32 0 (by decide), tl64 0 (by decide), tl32 7 (by decide), tl64 7 (by decide)] at hc1); (try simp only [lg_cmp_lt, lg_cmp_le, lg_cmp_gt, lg_cmp_ge, lg_cmp_eq] at c2); (try simp (disch := omega) only [ta_lt, ta_le, ta_eq, tb_lt, tb_le, tb_eq, tw, tnI, tsub1, tsv, tsb32, tn32 1 (by decide), tnj 1 (by decide), tl32 0 (by decide), tl64 0 (by decide), tl32 7 (by decide), tl64 7 (by decide)] at c2); (try simp only [lg_cmp_lt, lg_cmp_le, lg_cmp_gt, lg_cmp_ge, lg_cmp_eq] at c3); (try simp (disch := omega) only [ta_lt, ta_le, ta_eq, tb_lt, tb_le, tb_eq, tw, tnI, tsub1, tsv, tsb32, tn32 1 (by decide), tnj 1 (by decide), tl32 0 (by decide), tl64 0 (by decide), tl32 7 (by decide), tl64 7 (by decide)] at c3); (try simp (disch := omega) only [ta_lt, ta_le, ta_eq, tb_lt, tb_le, tb_eq, tw, tnI, tsub1, tsv, tsb32, tn32 1 (by decide), tnj 1 (by decide), tl32 0 (by decide), tl64 0 (by decide), tl32 7 (by decide), tl64 7 (by decide)]); omega)
        obtain ⟨wn_, hwn_, rfl⟩ := to_nat (x := what) (n := 7) (by (try simp only [lg_cmp_lt, lg_cmp_le, lg_cmp_gt, lg_cmp_ge, lg_cmp_eq] at f1_0); (try simp (disch := omega) only [ta_lt, ta_le, ta_eq, tb_lt, tb_le, tb_eq, tw, tnI, tsub1, tsv, tsb32, tn32 1 (by decide), tnj 1 (by decide), tl32 0 (by decide), tl64 0 (by decide), tl32 7 (by decide), tl64 7 (by decide)] at f1_0); (try simp only [lg_cmp_lt, lg_cmp_le, lg_cmp_gt, lg_cmp_ge, lg_cmp_eq] at hc1); (try simp (disch := omega) only [ta_lt, ta_le, ta_eq, tb_lt, tb_le, tb_eq, tw, tnI, tsub1, tsv, tsb32, tn32 1 (by decide), tnj 1 (by decide), tl32 0 (by decide), tl64 0 (by decide), tl32 7 (by decide), tl64 7 (by decide)] at hc1); (try simp only [lg_cmp_lt, lg_cmp_le, lg_cmp_gt, lg_cmp_ge, lg_cmp_eq] at c2); (try simp (disch := omega) only [ta_lt, ta_le, ta_eq, tb_lt, tb_le, tb_eq, tw, tnI, tsub1, tsv, tsb32, tn32 1 (by decide), tnj 1 (by decide), tl32 0 (by decide), tl64 0 (by decide), tl32 7 (by decide), tl64 7 (by decide)] at c2); (try simp only [lg_cmp_lt, lg_cmp_le, lg_cmp_gt, lg_cmp_ge, lg_cmp_eq] at c3); (try simp (disch := omega) only [ta_lt, ta_le, ta_eq, tb_lt, tb_le, tb_eq, tw, tnI, tsub1, tsv, tsb32, tn32 1 (by decide), tnj 1 (by decide), tl32 0 (by decide), tl64 0 (by decide), tl32 7 (by decide), tl64 7 (by decide)] at c3); (try simp (disch := omega) only [ta_lt, ta_le, ta_eq, tb_lt, tb_le, tb_eq, tw, tnI, tsub1, tsv, tsb32, tn32 1 (by decide), tnj 1 (by decide), tl32 0 (by decide), tl64 0 (by decide), tl32 7 (by decide), tl64 7 (by decide)]); omega)
        refine lv_aload_n hx hb (dkP dF_42 DX11_heap (i := 12) rfl rfl) rfl (lv_at hl 0 rfl) ?_
        refine z_gr C0 hw 0 0 1 (fk_of shc_0 rfl) fl_X11_10 (dk2 dF_180 DX11_heap (i := 13) rfl rfl rfl) ?_
        refine z_gr C0 hw 1 3 5 (fk_of shc_1 rfl) fl_X11_254 (dk2 dF_180 DX11_heap (i := 14) rfl rfl rfl) ?_
        refine lv_iload_n hx hb (dkP dF_27 DX11_heap (i := 15) rfl rfl) rfl (lv_at hl 1 rfl) ?_
        refine lv_bipush (v := 7) hx hb (dks dF_16 DX11_heap (i := 16) rfl rfl rfl) (by decide) ?_
        refine lv_imul hx hb (dkP dF_104 DX11_heap (i := 17) rfl rfl) ?_
        refine z_top (y := nI (hn_ * 7)) (by simp only [fa_lit, nI_add, pk_mul]) ?_
        refine lv_iload_n hx hb (dkP dF_28 DX11_heap (i := 18) rfl rfl) rfl (lv_at hl 2 rfl) ?_
        refine lv_iadd hx hb (dkP dF_96 DX11_heap (i := 19) rfl rfl) ?_
        refine z_top (y := nI ((hn_ * 7) + wn_)) (by simp only [fa_lit, nI_add, pk_mul]) ?_
        refine z_ialdN (n := 420) C0 hw 5 ((hn_ * 7) + wn_) (ak_of shc_5) (by omega) (by decide) (dkP dF_46 DX11_heap (i := 20) rfl rfl) ?_
        obtain ⟨v4, ev4⟩ : ∃ y : Int32, σ.1 5 ((hn_ * 7) + wn_) = y := ⟨_, rfl⟩
        refine z_top (y := v4) ev4 ?_
        exact z_iret C0 hr hlk hw (⟨hJ, rfl⟩) (dkP dF_172 DX11_heap (i := 21) rfl rfl)
      · (try simp (disch := omega) only [ta_lt, ta_le, ta_eq, tnI, tl32 7 (by decide)] at c3)
        refine lv_iconst (v := (-1)) hx hb (dkP dF_2 DX11_heap (i := 10) rfl rfl) (by decide) ?_
        exact z_iret C0 hr hlk hw (⟨hJ, rfl⟩) (dkP dF_172 DX11_heap (i := 11) rfl rfl)
  · skip
    refine lv_if_eq (tgt := 21) hx hb (dkS dF_153 DX11_heap (i := 4) rfl rfl rfl) (by decide) (fun _ => ?_) (fun h => absurd h (by decide))
    refine lv_iconst (v := (-1)) hx hb (dkP dF_2 DX11_heap (i := 10) rfl rfl) (by decide) ?_
    exact z_iret C0 hr hlk hw (⟨hJ, rfl⟩) (dkP dF_172 DX11_heap (i := 11) rfl rfl)
set_option maxRecDepth 100000 in
set_option maxHeartbeats 8000000 in
theorem c_X11_judge (l : Launch) (G : va_G) (kc : KC) (ad : Nat → Nat) (σ : Sg) (hh : Int32) (word : Int32) (hJ : JC σ) (hT : TC σ) : MI l G kc yX11_judge cX11_judge 4 (some .int) 1 21 [.ref (ad 0), .int hh, .int word] shC ad σ (fun r σ1 => (JC σ1) ∧ TC σ1 ∧ frC (fun x y => (x = 5)) σ σ1) := by
  intro sz
  refine z_body (y := yX11_judge) (n := 4) (av := [.ref (ad 0), .int hh, .int word]) (Qc := fun A => va_Qi (fun r σ1 => (JC σ1) ∧ TC σ1 ∧ frC (fun x y => (x = 5)) σ σ1) (PoC G kc shC ad A) A) (plainFor_of_name (by decide)) (Nat.le_of_ble_eq_true rfl) (fun pr e s m below meth c A C0 hr hlk hnm hw hRo ls hl => ?_) sz
  have hx := C0.1
  have hb := C0.2.1
  have hown := C0.2.2.2.1
  have hts := C0.2.2.2.2.1
  have hl : lv_has ls 4 [(0, .ref (ad 0)), (1, .int hh), (2, .int word)] := hl
  obtain ⟨t, u, hto, ht, hun, hu⟩ := hJ.rdr
  obtain ⟨wa, wb, hwa_, hwa, hwb_, hwb, hwab⟩ := hJ.wts
  refine lv_aload_n hx hb (dkP dF_42 DX11_judge (i := 0) rfl rfl) rfl (lv_at hl 0 rfl) ?_
  refine z_gr C0 hw 0 0 1 (fk_of shc_0 rfl) fl_X11_10 (dk2 dF_180 DX11_judge (i := 1) rfl rfl rfl) ?_
  refine lv_iload_n hx hb (dkP dF_27 DX11_judge (i := 2) rfl rfl) rfl (lv_at hl 1 rfl) ?_
  refine zk_I hw (zr_V (As := [.int hh]) (rest := []) C0 (c_X10_hasHeap l G kc ad σ hh hT _) cv_X10_hasHeap lk_X11_251 (zp_V C0 hRo hw 1 shc_1 rfl rfl) rfl hl.1 rfl ⟨by decide, by decide⟩ (Nat.le_of_ble_eq_true rfl) (dk2 dF_182 DX11_judge (i := 3) rfl rfl rfl) ⟨Nat.le_refl _, Nat.le_refl _⟩) (fun r1 s1 H locs hp hw => ?_)
  obtain ⟨f1_0, hs1⟩ := hp
  (rw [hs1] at hw)
  rcases f1_0 with ⟨rfl, hc1⟩ | ⟨rfl, hc1⟩
  · skip
    refine lv_if_eq (tgt := 21) hx hb (dkS dF_153 DX11_judge (i := 4) rfl rfl rfl) (by decide) (fun h => absurd h (by decide)) (fun _ => ?_)
    refine lv_iload_n hx hb (dkP dF_28 DX11_judge (i := 5) rfl rfl) rfl (lv_at hl 2 rfl) ?_
    refine lv_iconst (v := 1) hx hb (dkP dF_4 DX11_judge (i := 6) rfl rfl) (by decide) ?_
    refine lv_icmp_lt (tgt := 21) hx hb (dkS dF_161 DX11_judge (i := 7) rfl rfl rfl) (by decide) (fun c2 => ?_) (fun c2 => ?_)
    · (try simp (disch := omega) only [ta_lt, ta_le, ta_eq, tnI, tl32 1 (by decide)] at c2)
      refine lv_bipush (v := (-2)) hx hb (dks dF_16 DX11_judge (i := 11) rfl rfl rfl) (by decide) ?_
      exact z_iret C0 hr hlk hw (⟨hJ, hT, frC.refl⟩) (dkP dF_172 DX11_judge (i := 12) rfl rfl)
    · (try simp (disch := omega) only [ta_lt, ta_le, ta_eq, tnI, tl32 1 (by decide)] at c2)
      refine lv_iload_n hx hb (dkP dF_28 DX11_judge (i := 8) rfl rfl) rfl (lv_at hl 2 rfl) ?_
      refine lv_iconst (v := 2) hx hb (dkP dF_5 DX11_judge (i := 9) rfl rfl) (by decide) ?_
      refine lv_icmp_le (tgt := 24) hx hb (dkS dF_164 DX11_judge (i := 10) rfl rfl rfl) (by decide) (fun c3 => ?_) (fun c3 => ?_)
      · (try simp (disch := omega) only [ta_lt, ta_le, ta_eq, tnI, tl32 2 (by decide)] at c3)
        obtain ⟨hn_, hhn_, rfl⟩ := to_nat (x := hh) (n := 60) (by (try simp only [lg_cmp_lt, lg_cmp_le, lg_cmp_gt, lg_cmp_ge, lg_cmp_eq] at f1_0); (try simp (disch := omega) only [ta_lt, ta_le, ta_eq, tb_lt, tb_le, tb_eq, tw, tnI, tsub1, tsv, tsb32, tn32 2 (by decide), tnj 2 (by decide), tn32 1 (by decide), tnj 1 (by decide), tl32 0 (by decide), tl64 0 (by decide), tl32 1 (by decide), tl64 1 (by decide), tl32 2 (by decide), tl64 2 (by decide)] at f1_0); (try simp only [lg_cmp_lt, lg_cmp_le, lg_cmp_gt, lg_cmp_ge, lg_cmp_eq] at hc1); (try simp (disch := omega) only [ta_lt, ta_le, ta_eq, tb_lt, tb_le, tb_eq, tw, tnI, tsub1, tsv, tsb32, tn32 2 (by decide), tnj 2 (by decide), tn32 1 (by decide), tnj 1 (by decide), tl32 0 (by decide), tl64 0 (by decide), tl32 1 (by decide), tl64 1 (by decide), tl32 2 (by decide), tl64 2 (by decide)] at hc1); (try simp only [lg_cmp_lt, lg_cmp_le, lg_cmp_gt, lg_cmp_ge, lg_cmp_eq] at c2); (try simp (disch := omega) only [ta_lt, ta_le, ta_eq, tb_lt, tb_le, tb_eq, tw, tnI, tsub1, tsv, tsb32, tn32 2 (by decide), tnj 2 (by decide), tn32 1 (by decide), tnj 1 (by decide), tl32 0 (by decide), tl64 0 (by decide), tl32 1 (by decide), tl64 1 (by decide), tl32 2 (by decide), tl64 2 (by decide)] at c2); (try simp only [lg_cmp_lt, lg_cmp_le, lg_cmp_gt, lg_cmp_ge, lg_cmp_eq] at c3); (try simp (disch := omega) only [ta_lt, ta_le, ta_eq, tb_lt, tb_le, tb_eq, tw, tnI, tsub1, tsv, tsb32, tn32 2 (by decide), tnj 2 (by decide), tn32 1 (by decide), tnj 1 (by decide), tl32 0 (by decide), tl64 0 (by decide), tl32 1 (by decide), tl64 1 (by decide), tl32 2 (by decide), tl64 2 (by decide)] at c3); (try simp (disch := omega) only [ta_lt, ta_le, ta_eq, tb_lt, tb_le, tb_eq, tw, tnI, tsub1, tsv, tsb32, tn32 2 (by decide), tnj 2 (by decide), tn32 1 (by decide), tnj 1 (by decide), tl32 0 (by decide), tl64 0 (by decide), tl32 1 (by decide), tl64 1 (by decide), tl32 2 (by decide), tl64 2 (by decide)]); omega)
        refine lv_aload_n hx hb (dkP dF_42 DX11_judge (i := 13) rfl rfl) rfl (lv_at hl 0 rfl) ?_
        refine z_gr C0 hw 0 0 1 (fk_of shc_0 rfl) fl_X11_10 (dk2 dF_180 DX11_judge (i := 14) rfl rfl rfl) ?_
        refine z_gr C0 hw 1 3 5 (fk_of shc_1 rfl) fl_X11_254 (dk2 dF_180 DX11_judge (i := 15) rfl rfl rfl) ?_
        refine lv_iload_n hx hb (dkP dF_27 DX11_judge (i := 16) rfl rfl) rfl (lv_at hl 1 rfl) ?_
        refine lv_bipush (v := 7) hx hb (dks dF_16 DX11_judge (i := 17) rfl rfl rfl) (by decide) ?_
        refine lv_imul hx hb (dkP dF_104 DX11_judge (i := 18) rfl rfl) ?_
        refine z_top (y := nI (hn_ * 7)) (by simp only [fa_lit, nI_add, pk_mul]) ?_
        refine lv_iconst (v := 5) hx hb (dkP dF_8 DX11_judge (i := 19) rfl rfl) (by decide) ?_
        refine lv_iadd hx hb (dkP dF_96 DX11_judge (i := 20) rfl rfl) ?_
        refine z_top (y := nI ((hn_ * 7) + 5)) (by simp only [fa_lit, nI_add, pk_mul]) ?_
        refine z_ialdN (n := 420) C0 hw 5 ((hn_ * 7) + 5) (ak_of shc_5) (by omega) (by decide) (dkP dF_46 DX11_judge (i := 21) rfl rfl) ?_
        obtain ⟨v4, ev4⟩ : ∃ y : Int32, σ.1 5 ((hn_ * 7) + 5) = y := ⟨_, rfl⟩
        refine z_top (y := v4) ev4 ?_
        refine lv_istore_n (lv' := [(3, .int v4), (0, .ref (ad 0)), (1, .int (nI hn_)), (2, .int word)]) hx hb (dkP dF_62 DX11_judge (i := 22) rfl rfl) rfl hl (by decide) rfl (fun ls hl => ?_)
        refine lv_aload_n hx hb (dkP dF_42 DX11_judge (i := 23) rfl rfl) rfl (lv_at hl 1 rfl) ?_
        refine z_gr C0 hw 0 0 1 (fk_of shc_0 rfl) fl_X11_10 (dk2 dF_180 DX11_judge (i := 24) rfl rfl rfl) ?_
        refine z_gr C0 hw 1 3 5 (fk_of shc_1 rfl) fl_X11_254 (dk2 dF_180 DX11_judge (i := 25) rfl rfl rfl) ?_
        refine lv_iload_n hx hb (dkP dF_27 DX11_judge (i := 26) rfl rfl) rfl (lv_at hl 2 rfl) ?_
        refine lv_bipush (v := 7) hx hb (dks dF_16 DX11_judge (i := 27) rfl rfl rfl) (by decide) ?_
        refine lv_imul hx hb (dkP dF_104 DX11_judge (i := 28) rfl rfl) ?_
        refine z_top (y := nI (hn_ * 7)) (by simp only [fa_lit, nI_add, pk_mul]) ?_
        refine lv_iconst (v := 5) hx hb (dkP dF_8 DX11_judge (i := 29) rfl rfl) (by decide) ?_
        refine lv_iadd hx hb (dkP dF_96 DX11_judge (i := 30) rfl rfl) ?_
        refine z_top (y := nI ((hn_ * 7) + 5)) (by simp only [fa_lit, nI_add, pk_mul]) ?_
        refine lv_iload_n hx hb (dkP dF_28 DX11_judge (i := 31) rfl rfl) rfl (lv_at hl 3 rfl) ?_
        refine z_iastN (n := 420) C0 hw 5 ((hn_ * 7) + 5) (ak_of shc_5) (by omega) (by decide) (dkP dF_79 DX11_judge (i := 32) rfl rfl) (fun H locs hw => ?_)
        have hT5 : TC (sI σ 5 ((hn_ * 7) + 5) word) := TC.w hT (tc0 tcl_5)
        have hF5 : frC (fun x y => (x = 5)) σ (sI σ 5 ((hn_ * 7) + 5) word) := frC.w frC.refl (by show (5 = 5); exact rfl)
        refine lv_iload_n hx hb (dkP dF_29 DX11_judge (i := 33) rfl rfl) rfl (lv_at hl 0 rfl) ?_
        exact z_iret C0 hr hlk hw (⟨(hJ.fr hF5.2 (fun x y hj => hF5.1 x y (fun h_ => by have h_ : (x = 5) := h_; unfold jcq at hj; (· omega)))), hT5, hF5⟩) (dkP dF_172 DX11_judge (i := 34) rfl rfl)
      · (try simp (disch := omega) only [ta_lt, ta_le, ta_eq, tnI, tl32 2 (by decide)] at c3)
        refine lv_bipush (v := (-2)) hx hb (dks dF_16 DX11_judge (i := 11) rfl rfl rfl) (by decide) ?_
        exact z_iret C0 hr hlk hw (⟨hJ, hT, frC.refl⟩) (dkP dF_172 DX11_judge (i := 12) rfl rfl)
  · skip
    refine lv_if_eq (tgt := 21) hx hb (dkS dF_153 DX11_judge (i := 4) rfl rfl rfl) (by decide) (fun _ => ?_) (fun h => absurd h (by decide))
    refine lv_bipush (v := (-2)) hx hb (dks dF_16 DX11_judge (i := 11) rfl rfl rfl) (by decide) ?_
    exact z_iret C0 hr hlk hw (⟨hJ, hT, frC.refl⟩) (dkP dF_172 DX11_judge (i := 12) rfl rfl)
set_option maxRecDepth 100000 in
set_option maxHeartbeats 8000000 in
theorem c_X11_calls (l : Launch) (G : va_G) (kc : KC) (ad : Nat → Nat) (σ : Sg) (program : Int32) (other : Int32) (price : Int32) (hJ : JC σ) (hT : TC σ) : MI l G kc yX11_calls cX11_calls 5 (some .int) 1 20 [.ref (ad 0), .int program, .int other, .int price] shC ad σ (fun r σ1 => (JC σ1) ∧ TC σ1 ∧ frC (fun x y => (x = 3)) σ σ1) := by
  intro sz
  refine z_body (y := yX11_calls) (n := 5) (av := [.ref (ad 0), .int program, .int other, .int price]) (Qc := fun A => va_Qi (fun r σ1 => (JC σ1) ∧ TC σ1 ∧ frC (fun x y => (x = 3)) σ σ1) (PoC G kc shC ad A) A) (plainFor_of_name (by decide)) (Nat.le_of_ble_eq_true rfl) (fun pr e s m below meth c A C0 hr hlk hnm hw hRo ls hl => ?_) sz
  have hx := C0.1
  have hb := C0.2.1
  have hown := C0.2.2.2.1
  have hts := C0.2.2.2.2.1
  have hl : lv_has ls 5 [(0, .ref (ad 0)), (1, .int program), (2, .int other), (3, .int price)] := hl
  obtain ⟨t, u, hto, ht, hun, hu⟩ := hJ.rdr
  obtain ⟨wa, wb, hwa_, hwa, hwb_, hwb, hwab⟩ := hJ.wts
  refine lv_iload_n hx hb (dkP dF_27 DX11_calls (i := 0) rfl rfl) rfl (lv_at hl 1 rfl) ?_
  refine zn_I hw (zr_S (As := [.int program]) (rest := []) C0 (c_X11_isProgram l G kc program  _) cs_X11_isProgram lk_X11_257 (zp_P C0 hRo hw a00 s00) rfl hl.1 rfl ⟨by decide, by decide⟩ (Nat.le_of_ble_eq_true rfl) (dk2 dF_184 DX11_calls (i := 1) rfl rfl rfl) ⟨Nat.le_refl _, Nat.le_refl _⟩) (fun r1 s1 H locs hp hw => ?_)
  rcases hp with ⟨rfl, hc1⟩ | ⟨rfl, hc1⟩
  · skip
    (try simp (disch := omega) only [ta_lt, ta_le, ta_eq, tb_lt, tb_le, tb_eq, tw, tnI, tn32 1 (by decide), tnj 1 (by decide), tl32 0 (by decide), tl64 0 (by decide)] at hc1)
    obtain ⟨k_program, hk_program, rfl⟩ := to_nat (x := program) (n := 8) (by (try simp only [lg_cmp_lt, lg_cmp_le, lg_cmp_gt, lg_cmp_ge, lg_cmp_eq] at hc1); (try simp (disch := omega) only [ta_lt, ta_le, ta_eq, tb_lt, tb_le, tb_eq, tw, tnI, tn32 1 (by decide), tnj 1 (by decide), tl32 0 (by decide), tl64 0 (by decide)] at hc1); (try simp (disch := omega) only [ta_lt, ta_le, ta_eq, tb_lt, tb_le, tb_eq, tw, tnI, tn32 1 (by decide), tnj 1 (by decide), tl32 0 (by decide), tl64 0 (by decide)]); omega)
    refine lv_if_eq (tgt := 31) hx hb (dkS dF_153 DX11_calls (i := 2) rfl rfl rfl) (by decide) (fun h => absurd h (by decide)) (fun _ => ?_)
    refine lv_iload_n hx hb (dkP dF_28 DX11_calls (i := 3) rfl rfl) rfl (lv_at hl 2 rfl) ?_
    refine zn_I hw (zr_S (As := [.int other]) (rest := []) C0 (c_X11_isProgram l G kc other  _) cs_X11_isProgram lk_X11_257 (zp_P C0 hRo hw a00 s00) rfl hl.1 rfl ⟨by decide, by decide⟩ (Nat.le_of_ble_eq_true rfl) (dk2 dF_184 DX11_calls (i := 4) rfl rfl rfl) ⟨Nat.le_refl _, Nat.le_refl _⟩) (fun r2 s2 H locs hp hw => ?_)
    rcases hp with ⟨rfl, hc2⟩ | ⟨rfl, hc2⟩
    · skip
      (try simp (disch := omega) only [ta_lt, ta_le, ta_eq, tb_lt, tb_le, tb_eq, tw, tnI, tn32 1 (by decide), tnj 1 (by decide), tl32 0 (by decide), tl64 0 (by decide)] at hc2)
      obtain ⟨k_other, hk_other, rfl⟩ := to_nat (x := other) (n := 8) (by (try simp only [lg_cmp_lt, lg_cmp_le, lg_cmp_gt, lg_cmp_ge, lg_cmp_eq] at hc1); (try simp (disch := omega) only [ta_lt, ta_le, ta_eq, tb_lt, tb_le, tb_eq, tw, tnI, tn32 1 (by decide), tnj 1 (by decide), tl32 0 (by decide), tl64 0 (by decide)] at hc1); (try simp only [lg_cmp_lt, lg_cmp_le, lg_cmp_gt, lg_cmp_ge, lg_cmp_eq] at hk_program); (try simp (disch := omega) only [ta_lt, ta_le, ta_eq, tb_lt, tb_le, tb_eq, tw, tnI, tn32 1 (by decide), tnj 1 (by decide), tl32 0 (by decide), tl64 0 (by decide)] at hk_program); (try simp only [lg_cmp_lt, lg_cmp_le, lg_cmp_gt, lg_cmp_ge, lg_cmp_eq] at hc2); (try simp (disch := omega) only [ta_lt, ta_le, ta_eq, tb_lt, tb_le, tb_eq, tw, tnI, tn32 1 (by decide), tnj 1 (by decide), tl32 0 (by decide), tl64 0 (by decide)] at hc2); (try simp (disch := omega) only [ta_lt, ta_le, ta_eq, tb_lt, tb_le, tb_eq, tw, tnI, tn32 1 (by decide), tnj 1 (by decide), tl32 0 (by decide), tl64 0 (by decide)]); omega)
      refine lv_if_eq (tgt := 31) hx hb (dkS dF_153 DX11_calls (i := 5) rfl rfl rfl) (by decide) (fun h => absurd h (by decide)) (fun _ => ?_)
      refine lv_iload_n hx hb (dkP dF_27 DX11_calls (i := 6) rfl rfl) rfl (lv_at hl 1 rfl) ?_
      refine lv_iload_n hx hb (dkP dF_28 DX11_calls (i := 7) rfl rfl) rfl (lv_at hl 2 rfl) ?_
      refine lv_icmp_eq (tgt := 31) hx hb (dkS dF_159 DX11_calls (i := 8) rfl rfl rfl) (by decide) (fun c3 => ?_) (fun c3 => ?_)
      · simp (disch := omega) only [ta_lt, ta_le, ta_eq, tnI] at c3
        refine lv_bipush (v := (-2)) hx hb (dks dF_16 DX11_calls (i := 15) rfl rfl rfl) (by decide) ?_
        exact z_iret C0 hr hlk hw (⟨hJ, hT, frC.refl⟩) (dkP dF_172 DX11_calls (i := 16) rfl rfl)
      · simp (disch := omega) only [ta_lt, ta_le, ta_eq, tnI] at c3
        refine lv_iload_n hx hb (dkP dF_29 DX11_calls (i := 9) rfl rfl) rfl (lv_at hl 3 rfl) ?_
        refine lv_iconst (v := (-1)) hx hb (dkP dF_2 DX11_calls (i := 10) rfl rfl) (by decide) ?_
        refine lv_icmp_lt (tgt := 31) hx hb (dkS dF_161 DX11_calls (i := 11) rfl rfl rfl) (by decide) (fun c4 => ?_) (fun c4 => ?_)
        · (try simp (disch := omega) only [ta_lt, ta_le, ta_eq, tnI, tn32 1 (by decide)] at c4)
          refine lv_bipush (v := (-2)) hx hb (dks dF_16 DX11_calls (i := 15) rfl rfl rfl) (by decide) ?_
          exact z_iret C0 hr hlk hw (⟨hJ, hT, frC.refl⟩) (dkP dF_172 DX11_calls (i := 16) rfl rfl)
        · (try simp (disch := omega) only [ta_lt, ta_le, ta_eq, tnI, tn32 1 (by decide)] at c4)
          refine lv_iload_n hx hb (dkP dF_29 DX11_calls (i := 12) rfl rfl) rfl (lv_at hl 3 rfl) ?_
          refine lv_sipush (v := 999) hx hb (dkS dF_17 DX11_calls (i := 13) rfl rfl rfl) (by decide) ?_
          refine lv_icmp_le (tgt := 34) hx hb (dkS dF_164 DX11_calls (i := 14) rfl rfl rfl) (by decide) (fun c5 => ?_) (fun c5 => ?_)
          · (try simp (disch := omega) only [ta_lt, ta_le, ta_eq, tnI, tl32 999 (by decide)] at c5)
            refine lv_aload_n hx hb (dkP dF_42 DX11_calls (i := 17) rfl rfl) rfl (lv_at hl 0 rfl) ?_
            refine z_gr C0 hw 0 0 1 (fk_of shc_0 rfl) fl_X11_10 (dk2 dF_180 DX11_calls (i := 18) rfl rfl rfl) ?_
            refine z_gr C0 hw 1 1 3 (fk_of shc_1 rfl) fl_X11_260 (dk2 dF_180 DX11_calls (i := 19) rfl rfl rfl) ?_
            refine lv_iload_n hx hb (dkP dF_27 DX11_calls (i := 20) rfl rfl) rfl (lv_at hl 1 rfl) ?_
            refine lv_bipush (v := 8) hx hb (dks dF_16 DX11_calls (i := 21) rfl rfl rfl) (by decide) ?_
            refine lv_imul hx hb (dkP dF_104 DX11_calls (i := 22) rfl rfl) ?_
            refine z_top (y := nI (k_program * 8)) (by simp only [fa_lit, nI_add, pk_mul]) ?_
            refine lv_iload_n hx hb (dkP dF_28 DX11_calls (i := 23) rfl rfl) rfl (lv_at hl 2 rfl) ?_
            refine lv_iadd hx hb (dkP dF_96 DX11_calls (i := 24) rfl rfl) ?_
            refine z_top (y := nI ((k_program * 8) + k_other)) (by simp only [fa_lit, nI_add, pk_mul]) ?_
            refine z_ialdN (n := 64) C0 hw 3 ((k_program * 8) + k_other) (ak_of shc_3) (by omega) (by decide) (dkP dF_46 DX11_calls (i := 25) rfl rfl) ?_
            obtain ⟨v6, ev6⟩ : ∃ y : Int32, σ.1 3 ((k_program * 8) + k_other) = y := ⟨_, rfl⟩
            have hv6 : -1 ≤ v6.toInt ∧ v6.toInt ≤ 999 := by rw [← ev6]; exact (tcr_15 hT tcl_3)
            refine z_top (y := v6) ev6 ?_
            refine lv_istore (lv' := [(4, .int v6), (0, .ref (ad 0)), (1, .int (nI k_program)), (2, .int (nI k_other)), (3, .int price)]) hx hb (dk1 dF_54 DX11_calls (i := 26) rfl rfl rfl) hl (by decide) rfl (fun ls hl => ?_)
            refine lv_aload_n hx hb (dkP dF_42 DX11_calls (i := 27) rfl rfl) rfl (lv_at hl 1 rfl) ?_
            refine z_gr C0 hw 0 0 1 (fk_of shc_0 rfl) fl_X11_10 (dk2 dF_180 DX11_calls (i := 28) rfl rfl rfl) ?_
            refine z_gr C0 hw 1 1 3 (fk_of shc_1 rfl) fl_X11_260 (dk2 dF_180 DX11_calls (i := 29) rfl rfl rfl) ?_
            refine lv_iload_n hx hb (dkP dF_27 DX11_calls (i := 30) rfl rfl) rfl (lv_at hl 2 rfl) ?_
            refine lv_bipush (v := 8) hx hb (dks dF_16 DX11_calls (i := 31) rfl rfl rfl) (by decide) ?_
            refine lv_imul hx hb (dkP dF_104 DX11_calls (i := 32) rfl rfl) ?_
            refine z_top (y := nI (k_program * 8)) (by simp only [fa_lit, nI_add, pk_mul]) ?_
            refine lv_iload_n hx hb (dkP dF_28 DX11_calls (i := 33) rfl rfl) rfl (lv_at hl 3 rfl) ?_
            refine lv_iadd hx hb (dkP dF_96 DX11_calls (i := 34) rfl rfl) ?_
            refine z_top (y := nI ((k_program * 8) + k_other)) (by simp only [fa_lit, nI_add, pk_mul]) ?_
            refine lv_iload_n hx hb (dkP dF_29 DX11_calls (i := 35) rfl rfl) rfl (lv_at hl 4 rfl) ?_
            refine z_iastN (n := 64) C0 hw 3 ((k_program * 8) + k_other) (ak_of shc_3) (by omega) (by decide) (dkP dF_79 DX11_calls (i := 36) rfl rfl) (fun H locs hw => ?_)
            have hT7 : TC (sI σ 3 ((k_program * 8) + k_other) price) := TC.w hT (tcw_15 tcl_3 (by (try simp only [lg_cmp_lt, lg_cmp_le, lg_cmp_gt, lg_cmp_ge, lg_cmp_eq] at hc1); (try simp (disch := omega) only [ta_lt, ta_le, ta_eq, tb_lt, tb_le, tb_eq, tw, tnI, tsub1, tsv, tsb32, tn32 2 (by decide), tnj 2 (by decide), tn32 1 (by decide), tnj 1 (by decide), tl32 0 (by decide), tl64 0 (by decide), tl32 8 (by decide), tl64 8 (by decide), tl32 999 (by decide), tl64 999 (by decide)] at hc1); (try simp only [lg_cmp_lt, lg_cmp_le, lg_cmp_gt, lg_cmp_ge, lg_cmp_eq] at hc2); (try simp (disch := omega) only [ta_lt, ta_le, ta_eq, tb_lt, tb_le, tb_eq, tw, tnI, tsub1, tsv, tsb32, tn32 2 (by decide), tnj 2 (by decide), tn32 1 (by decide), tnj 1 (by decide), tl32 0 (by decide), tl64 0 (by decide), tl32 8 (by decide), tl64 8 (by decide), tl32 999 (by decide), tl64 999 (by decide)] at hc2); (try simp only [lg_cmp_lt, lg_cmp_le, lg_cmp_gt, lg_cmp_ge, lg_cmp_eq] at c3); (try simp (disch := omega) only [ta_lt, ta_le, ta_eq, tb_lt, tb_le, tb_eq, tw, tnI, tsub1, tsv, tsb32, tn32 2 (by decide), tnj 2 (by decide), tn32 1 (by decide), tnj 1 (by decide), tl32 0 (by decide), tl64 0 (by decide), tl32 8 (by decide), tl64 8 (by decide), tl32 999 (by decide), tl64 999 (by decide)] at c3); (try simp only [lg_cmp_lt, lg_cmp_le, lg_cmp_gt, lg_cmp_ge, lg_cmp_eq] at c4); (try simp (disch := omega) only [ta_lt, ta_le, ta_eq, tb_lt, tb_le, tb_eq, tw, tnI, tsub1, tsv, tsb32, tn32 2 (by decide), tnj 2 (by decide), tn32 1 (by decide), tnj 1 (by decide), tl32 0 (by decide), tl64 0 (by decide), tl32 8 (by decide), tl64 8 (by decide), tl32 999 (by decide), tl64 999 (by decide)] at c4); (try simp only [lg_cmp_lt, lg_cmp_le, lg_cmp_gt, lg_cmp_ge, lg_cmp_eq] at c5); (try simp (disch := omega) only [ta_lt, ta_le, ta_eq, tb_lt, tb_le, tb_eq, tw, tnI, tsub1, tsv, tsb32, tn32 2 (by decide), tnj 2 (by decide), tn32 1 (by decide), tnj 1 (by decide), tl32 0 (by decide), tl64 0 (by decide), tl32 8 (by decide), tl64 8 (by decide), tl32 999 (by decide), tl64 999 (by decide)] at c5); (try simp (disch := omega) only [ta_lt, ta_le, ta_eq, tb_lt, tb_le, tb_eq, tw, tnI, tsub1, tsv, tsb32, tn32 2 (by decide), tnj 2 (by decide), tn32 1 (by decide), tnj 1 (by decide), tl32 0 (by decide), tl64 0 (by decide), tl32 8 (by decide), tl64 8 (by decide), tl32 999 (by decide), tl64 999 (by decide)]); omega))
            have hF7 : frC (fun x y => (x = 3)) σ (sI σ 3 ((k_program * 8) + k_other) price) := frC.w frC.refl (by show (3 = 3); exact rfl)
            refine lv_iload hx hb (dk1 dF_21 DX11_calls (i := 37) rfl rfl rfl) (lv_at hl 0 rfl) ?_
            exact z_iret C0 hr hlk hw (⟨(hJ.fr hF7.2 (fun x y hj => hF7.1 x y (fun h_ => by have h_ : (x = 3) := h_; unfold jcq at hj; (· omega)))), hT7, hF7⟩) (dkP dF_172 DX11_calls (i := 38) rfl rfl)
          · (try simp (disch := omega) only [ta_lt, ta_le, ta_eq, tnI, tl32 999 (by decide)] at c5)
            refine lv_bipush (v := (-2)) hx hb (dks dF_16 DX11_calls (i := 15) rfl rfl rfl) (by decide) ?_
            exact z_iret C0 hr hlk hw (⟨hJ, hT, frC.refl⟩) (dkP dF_172 DX11_calls (i := 16) rfl rfl)
    · skip
      (try simp (disch := omega) only [ta_lt, ta_le, ta_eq, tb_lt, tb_le, tb_eq, tw, tnI, tn32 2 (by decide), tnj 2 (by decide), tn32 1 (by decide), tnj 1 (by decide), tl32 0 (by decide), tl64 0 (by decide), tl32 8 (by decide), tl64 8 (by decide), tl32 999 (by decide), tl64 999 (by decide)] at hc2)
      refine lv_if_eq (tgt := 31) hx hb (dkS dF_153 DX11_calls (i := 5) rfl rfl rfl) (by decide) (fun _ => ?_) (fun h => absurd h (by decide))
      refine lv_bipush (v := (-2)) hx hb (dks dF_16 DX11_calls (i := 15) rfl rfl rfl) (by decide) ?_
      exact z_iret C0 hr hlk hw (⟨hJ, hT, frC.refl⟩) (dkP dF_172 DX11_calls (i := 16) rfl rfl)
  · skip
    (try simp (disch := omega) only [ta_lt, ta_le, ta_eq, tb_lt, tb_le, tb_eq, tw, tnI, tn32 2 (by decide), tnj 2 (by decide), tn32 1 (by decide), tnj 1 (by decide), tl32 0 (by decide), tl64 0 (by decide), tl32 8 (by decide), tl64 8 (by decide), tl32 999 (by decide), tl64 999 (by decide)] at hc1)
    refine lv_if_eq (tgt := 31) hx hb (dkS dF_153 DX11_calls (i := 2) rfl rfl rfl) (by decide) (fun _ => ?_) (fun h => absurd h (by decide))
    refine lv_bipush (v := (-2)) hx hb (dks dF_16 DX11_calls (i := 15) rfl rfl rfl) (by decide) ?_
    exact z_iret C0 hr hlk hw (⟨hJ, hT, frC.refl⟩) (dkP dF_172 DX11_calls (i := 16) rfl rfl)
set_option maxRecDepth 100000 in
set_option maxHeartbeats 8000000 in
theorem c_X11_state (l : Launch) (G : va_G) (kc : KC) (ad : Nat → Nat) (σ : Sg) (program : Int32) (hJ : JC σ) (hT : TC σ) : MI l G kc yX11_state cX11_state 3 (some .int) 2 41 [.ref (ad 0), .int program] shC ad σ (fun r σ1 => (JC σ1) ∧ σ1 = σ) := by
  intro sz
  refine z_body (y := yX11_state) (n := 3) (av := [.ref (ad 0), .int program]) (Qc := fun A => va_Qi (fun r σ1 => (JC σ1) ∧ σ1 = σ) (PoC G kc shC ad A) A) (plainFor_of_name (by decide)) (Nat.le_of_ble_eq_true rfl) (fun pr e s m below meth c A C0 hr hlk hnm hw hRo ls hl => ?_) sz
  have hx := C0.1
  have hb := C0.2.1
  have hown := C0.2.2.2.1
  have hts := C0.2.2.2.2.1
  have hl : lv_has ls 3 [(0, .ref (ad 0)), (1, .int program)] := hl
  obtain ⟨t, u, hto, ht, hun, hu⟩ := hJ.rdr
  obtain ⟨wa, wb, hwa_, hwa, hwb_, hwb, hwab⟩ := hJ.wts
  refine lv_aload_n hx hb (dkP dF_42 DX11_state (i := 0) rfl rfl) rfl (lv_at hl 0 rfl) ?_
  refine lv_iload_n hx hb (dkP dF_27 DX11_state (i := 1) rfl rfl) rfl (lv_at hl 1 rfl) ?_
  refine zk_R hw (zr_V (As := [.int program]) (rest := []) C0 (c_X11_programAt l G kc ad σ program  _) cv_X11_programAt lk_X11_84 (zp_V C0 hRo hw 0 shc_0 rfl rfl) rfl hl.1 rfl ⟨by decide, by decide⟩ (Nat.le_of_ble_eq_true rfl) (dk2 dF_182 DX11_state (i := 2) rfl rfl rfl) ⟨Nat.le_refl _, Nat.le_refl _⟩) (fun r1 s1 H locs hp hw => ?_)
  obtain ⟨hq1, hs1⟩ := hp
  (rw [hs1] at hw)
  rcases hq1 with ⟨hc1, rfl⟩ | ⟨k_program, hk_program, rfl, rfl⟩
  · skip
    refine lv_astore_nN (lv' := [(2, .null), (0, .ref (ad 0)), (1, .int program)]) hx hb (dkP dF_77 DX11_state (i := 3) rfl rfl) rfl hl (by decide) rfl (fun ls hl => ?_)
    refine lv_aload_nN hx hb (dkP dF_44 DX11_state (i := 4) rfl rfl) rfl (lv_at hl 0 rfl) ?_
    refine lv_ifnonnullN hx hb (dkS dF_199 DX11_state (i := 5) rfl rfl rfl) ?_
    refine lv_bipush (v := (-2)) hx hb (dks dF_16 DX11_state (i := 6) rfl rfl rfl) (by decide) ?_
    refine lv_goto (tgt := 19) hx hb (dkS dF_167 DX11_state (i := 7) rfl rfl rfl) (by decide) ?_
    exact z_iret C0 hr hlk hw (⟨hJ, rfl⟩) (dkP dF_172 DX11_state (i := 10) rfl rfl)
  · skip
    obtain ⟨t1, u1, hto1, ht1, hun1, hu1, hVP⟩ := hJ.prog hk_program
    obtain ⟨hLH, ⟨zo, uo, hzo, hzo24, hVo⟩, zn, un, K_, hzn, hzn40, hVn⟩ := id hVP
    refine lv_astore_n (lv' := [(2, .ref (ad (8 + 22 * k_program))), (0, .ref (ad 0)), (1, .int (nI k_program))]) hx hb (dkP dF_77 DX11_state (i := 3) rfl rfl) rfl hl (by decide) rfl (fun ls hl => ?_)
    refine lv_aload_n hx hb (dkP dF_44 DX11_state (i := 4) rfl rfl) rfl (lv_at hl 0 rfl) ?_
    refine lv_ifnonnull (tgt := 15) hx hb (dkS dF_199 DX11_state (i := 5) rfl rfl rfl) (by decide) ?_
    refine lv_aload_n hx hb (dkP dF_44 DX11_state (i := 8) rfl rfl) rfl (lv_at hl 0 rfl) ?_
    refine z_gi C0 hw (8 + 22 * k_program) 0 (fk_of (shp_8 k_program (by omega)) rfl) fl_X11_88 (dk2 dF_180 DX11_state (i := 9) rfl rfl rfl) ?_
    obtain ⟨v2, ev2⟩ : ∃ y : Int32, σ.1 (8 + 22 * k_program) 0 = y := ⟨_, rfl⟩
    refine z_top (y := v2) ev2 ?_
    exact z_iret C0 hr hlk hw (⟨hJ, rfl⟩) (dkP dF_172 DX11_state (i := 10) rfl rfl)
set_option maxRecDepth 100000 in
set_option maxHeartbeats 8000000 in
theorem c_X11_planned (l : Launch) (G : va_G) (kc : KC) (ad : Nat → Nat) (σ : Sg) (ix : Int32) (hJ : JC σ) (hT : TC σ) : MI l G kc yX11_planned cX11_planned 2 (some .int) 0 0 [.ref (ad 0), .int ix] shC ad σ (fun r σ1 => (JC σ1) ∧ σ1 = σ) := by
  intro sz
  refine z_body (y := yX11_planned) (n := 2) (av := [.ref (ad 0), .int ix]) (Qc := fun A => va_Qi (fun r σ1 => (JC σ1) ∧ σ1 = σ) (PoC G kc shC ad A) A) (plainFor_of_name (by decide)) (Nat.le_of_ble_eq_true rfl) (fun pr e s m below meth c A C0 hr hlk hnm hw hRo ls hl => ?_) sz
  have hx := C0.1
  have hb := C0.2.1
  have hown := C0.2.2.2.1
  have hts := C0.2.2.2.2.1
  have hl : lv_has ls 2 [(0, .ref (ad 0)), (1, .int ix)] := hl
  obtain ⟨t, u, hto, ht, hun, hu⟩ := hJ.rdr
  obtain ⟨wa, wb, hwa_, hwa, hwb_, hwb, hwab⟩ := hJ.wts
  refine lv_iload_n hx hb (dkP dF_27 DX11_planned (i := 0) rfl rfl) rfl (lv_at hl 1 rfl) ?_
  refine lv_if_lt (tgt := 15) hx hb (dkS dF_155 DX11_planned (i := 1) rfl rfl rfl) (by decide) (fun c1 => ?_) (fun c1 => ?_)
  · (try simp (disch := omega) only [ta_lt, ta_le, ta_eq, tnI, tl32 0 (by decide)] at c1)
    refine lv_iconst (v := (-1)) hx hb (dkP dF_2 DX11_planned (i := 7) rfl rfl) (by decide) ?_
    refine lv_goto (tgt := 28) hx hb (dkS dF_167 DX11_planned (i := 8) rfl rfl rfl) (by decide) ?_
    exact z_iret C0 hr hlk hw (⟨hJ, rfl⟩) (dkP dF_172 DX11_planned (i := 14) rfl rfl)
  · (try simp (disch := omega) only [ta_lt, ta_le, ta_eq, tnI, tl32 0 (by decide)] at c1)
    refine lv_iload_n hx hb (dkP dF_27 DX11_planned (i := 2) rfl rfl) rfl (lv_at hl 1 rfl) ?_
    refine lv_aload_n hx hb (dkP dF_42 DX11_planned (i := 3) rfl rfl) rfl (lv_at hl 0 rfl) ?_
    refine z_gr C0 hw 0 6 220 (fk_of shc_0 rfl) fl_X11_44 (dk2 dF_180 DX11_planned (i := 4) rfl rfl rfl) ?_
    refine z_gi C0 hw 220 2 (fk_of shc_220 rfl) fl_X11_297 (dk2 dF_180 DX11_planned (i := 5) rfl rfl rfl) ?_
    obtain ⟨n2, hn2, en2⟩ := rngN (x := σ.1 220 2) (h := 8) (tcr_17_2 hT tcl_220)
    refine z_top (y := nI n2) en2 ?_
    refine lv_icmp_lt (tgt := 19) hx hb (dkS dF_161 DX11_planned (i := 6) rfl rfl rfl) (by decide) (fun c3 => ?_) (fun c3 => ?_)
    · (try simp (disch := omega) only [ta_lt, ta_le, ta_eq, tnI] at c3); have hz3 := i32b ix
      obtain ⟨xn_, hxn_, rfl⟩ := to_nat (x := ix) (n := 8) (by (try simp only [lg_cmp_lt, lg_cmp_le, lg_cmp_gt, lg_cmp_ge, lg_cmp_eq] at c1); (try simp (disch := omega) only [ta_lt, ta_le, ta_eq, tb_lt, tb_le, tb_eq, tw, tnI, tsub1, tsv, tsb32, tn32 1 (by decide), tnj 1 (by decide), tl32 0 (by decide), tl64 0 (by decide)] at c1); (try simp only [lg_cmp_lt, lg_cmp_le, lg_cmp_gt, lg_cmp_ge, lg_cmp_eq] at c3); (try simp (disch := omega) only [ta_lt, ta_le, ta_eq, tb_lt, tb_le, tb_eq, tw, tnI, tsub1, tsv, tsb32, tn32 1 (by decide), tnj 1 (by decide), tl32 0 (by decide), tl64 0 (by decide)] at c3); (try simp (disch := omega) only [ta_lt, ta_le, ta_eq, tb_lt, tb_le, tb_eq, tw, tnI, tsub1, tsv, tsb32, tn32 1 (by decide), tnj 1 (by decide), tl32 0 (by decide), tl64 0 (by decide)]); omega)
      refine lv_aload_n hx hb (dkP dF_42 DX11_planned (i := 9) rfl rfl) rfl (lv_at hl 0 rfl) ?_
      refine z_gr C0 hw 0 6 220 (fk_of shc_0 rfl) fl_X11_44 (dk2 dF_180 DX11_planned (i := 10) rfl rfl rfl) ?_
      refine z_gr C0 hw 220 1 222 (fk_of shc_220 rfl) fl_X11_298 (dk2 dF_180 DX11_planned (i := 11) rfl rfl rfl) ?_
      refine lv_iload_n hx hb (dkP dF_27 DX11_planned (i := 12) rfl rfl) rfl (lv_at hl 1 rfl) ?_
      refine z_ialdN (n := 8) C0 hw 222 xn_ (ak_of shc_222) (by omega) (by decide) (dkP dF_46 DX11_planned (i := 13) rfl rfl) ?_
      obtain ⟨v4, ev4⟩ : ∃ y : Int32, σ.1 222 xn_ = y := ⟨_, rfl⟩
      refine z_top (y := v4) ev4 ?_
      exact z_iret C0 hr hlk hw (⟨hJ, rfl⟩) (dkP dF_172 DX11_planned (i := 14) rfl rfl)
    · (try simp (disch := omega) only [ta_lt, ta_le, ta_eq, tnI] at c3); have hz3 := i32b ix
      refine lv_iconst (v := (-1)) hx hb (dkP dF_2 DX11_planned (i := 7) rfl rfl) (by decide) ?_
      refine lv_goto (tgt := 28) hx hb (dkS dF_167 DX11_planned (i := 8) rfl rfl rfl) (by decide) ?_
      exact z_iret C0 hr hlk hw (⟨hJ, rfl⟩) (dkP dF_172 DX11_planned (i := 14) rfl rfl)
