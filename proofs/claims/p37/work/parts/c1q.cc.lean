def UPD (f g : Nat → Int32) (i v r : Int32) : Prop := (r = 0 ∧ ∃ s, s < 60 ∧ i = nI s ∧ g s = v ∧ ∀ k, k ≠ s → g k = f k) ∨ (r ≠ 0 ∧ ∀ k, g k = f k)
theorem UPD.two {f g f1 g1 : Nat → Int32} {i v r q : Int32} {n : Nat} (h1 : UPD f f1 i v r) (h2 : UPD g g1 i v q) (hr : r = q) (h : ∀ k, k < n → f k = g k) : ∀ k, k < n → f1 k = g1 k := by
  intro k hk
  rcases h1 with ⟨a1, s, a2, a3, a4, a5⟩ | ⟨a1, a2⟩ <;> rcases h2 with ⟨b1, t, b2, b3, b4, b5⟩ | ⟨b1, b2⟩
  · have e : s = t := nI_inj (by omega) (by omega) (a3.symm.trans b3)
    subst e
    by_cases hks : k = s
    · rw [hks, a4, b4]
    · rw [a5 k hks, b5 k hks]; exact h k hk
  · exact absurd (hr.symm.trans a1) b1
  · exact absurd (hr.trans b1) a1
  · rw [a2, b2]; exact h k hk
def RSQ (f : Nat → Int32) (i r : Int32) : Prop := ((i.toInt < 0 ∨ 2 < i.toInt) ∧ r = -2) ∨ ∃ k, k < 3 ∧ i = nI k ∧ ((f k = 0 ∧ r = -6) ∨ (f k = 1 ∧ r = 0))
theorem RSQ.one {f g : Nat → Int32} {i r q : Int32} (h1 : RSQ f i r) (h2 : RSQ g i q) (h : ∀ k, k < 3 → f k = g k) : r = q := by
  rcases h1 with ⟨a1, a2⟩ | ⟨s, a1, a2, a3⟩ <;> rcases h2 with ⟨b1, b2⟩ | ⟨t, b1, b2, b3⟩
  · rw [a2, b2]
  · exfalso
    rw [b2, tnI t (by omega)] at a1
    omega
  · exfalso
    rw [a2, tnI s (by omega)] at b1
    omega
  · have e : s = t := nI_inj (by omega) (by omega) (a2.symm.trans b2)
    subst e
    have hs := h s a1
    rcases a3 with ⟨a3, a4⟩ | ⟨a3, a4⟩ <;> rcases b3 with ⟨b3, b4⟩ | ⟨b3, b4⟩
    · rw [a4, b4]
    · exact absurd (a3.symm.trans (hs.trans b3)) (by decide)
    · exact absurd (a3.symm.trans (hs.trans b3)) (by decide)
    · rw [a4, b4]
set_option maxRecDepth 100000 in
set_option maxHeartbeats 8000000 in
theorem c_X11_keep_q (l : Launch) (G : va_G) (kc : KC) (ad : Nat → Nat) (σ : Sg) (ik : Int32) (hJ : JC σ) (hT : TC σ) : MI l G kc yX11_keep cX11_keep 2 (some .int) 5 111 [.ref (ad 0), .int ik] shC ad σ (fun r σ1 => (KQ ik r) ∧ (UPD (σ.1 185) (σ1.1 185) ik 1 r) ∧ (JC σ1) ∧ TC σ1 ∧ frC (fun x y => (250 ≤ x) ∨ (x = 185)) σ σ1) := by
  intro sz
  refine z_body (y := yX11_keep) (n := 2) (av := [.ref (ad 0), .int ik]) (Qc := fun A => va_Qi (fun r σ1 => (KQ ik r) ∧ (UPD (σ.1 185) (σ1.1 185) ik 1 r) ∧ (JC σ1) ∧ TC σ1 ∧ frC (fun x y => (250 ≤ x) ∨ (x = 185)) σ σ1) (PoC G kc shC ad A) A) (plainFor_of_name (by decide)) (Nat.le_of_ble_eq_true rfl) (fun pr e s m below meth c A C0 hr hlk hnm hw hRo ls hl => ?_) sz
  have hx := C0.1
  have hb := C0.2.1
  have hown := C0.2.2.2.1
  have hts := C0.2.2.2.2.1
  have hl : lv_has ls 2 [(0, .ref (ad 0)), (1, .int ik)] := hl
  obtain ⟨t, u, hto, ht, hun, hu⟩ := hJ.rdr
  obtain ⟨wa, wb, hwa_, hwa, hwb_, hwb, hwab⟩ := hJ.wts
  refine lv_iload_n hx hb (dkP dF_27 DX11_keep (i := 0) rfl rfl) rfl (lv_at hl 1 rfl) ?_
  refine lv_if_lt (tgt := 9) hx hb (dkS dF_155 DX11_keep (i := 1) rfl rfl rfl) (by decide) (fun c1 => ?_) (fun c1 => ?_)
  · (try simp (disch := omega) only [ta_lt, ta_le, ta_eq, tnI, tl32 0 (by decide)] at c1)
    refine lv_bipush (v := (-2)) hx hb (dks dF_16 DX11_keep (i := 5) rfl rfl rfl) (by decide) ?_
    exact z_iret C0 hr hlk hw (⟨(by unfold KQ; left; refine ⟨?_, rfl⟩; (try simp only [lg_cmp_lt, lg_cmp_le, lg_cmp_gt, lg_cmp_ge, lg_cmp_eq] at c1); (try simp (disch := omega) only [ta_lt, ta_le, ta_eq, tb_lt, tb_le, tb_eq, tw, tnI, tsub1, tsv, tsb32, tn32 2 (by decide), tnj 2 (by decide), tn32 1 (by decide), tnj 1 (by decide), tl32 0 (by decide), tl64 0 (by decide)] at c1); (try simp (disch := omega) only [ta_lt, ta_le, ta_eq, tb_lt, tb_le, tb_eq, tw, tnI, tsub1, tsv, tsb32, tn32 2 (by decide), tnj 2 (by decide), tn32 1 (by decide), tnj 1 (by decide), tl32 0 (by decide), tl64 0 (by decide)]); omega), (Or.inr ⟨by decide, fun _ => rfl⟩), hJ, hT, frC.refl⟩) (dkP dF_172 DX11_keep (i := 6) rfl rfl)
  · (try simp (disch := omega) only [ta_lt, ta_le, ta_eq, tnI, tl32 0 (by decide)] at c1)
    refine lv_iload_n hx hb (dkP dF_27 DX11_keep (i := 2) rfl rfl) rfl (lv_at hl 1 rfl) ?_
    refine lv_iconst (v := 3) hx hb (dkP dF_6 DX11_keep (i := 3) rfl rfl) (by decide) ?_
    refine lv_icmp_lt (tgt := 12) hx hb (dkS dF_161 DX11_keep (i := 4) rfl rfl rfl) (by decide) (fun c2 => ?_) (fun c2 => ?_)
    · (try simp (disch := omega) only [ta_lt, ta_le, ta_eq, tnI, tl32 3 (by decide)] at c2)
      obtain ⟨kn, hkn, rfl⟩ := to_nat (x := ik) (n := 3) (by (try simp only [lg_cmp_lt, lg_cmp_le, lg_cmp_gt, lg_cmp_ge, lg_cmp_eq] at c1); (try simp (disch := omega) only [ta_lt, ta_le, ta_eq, tb_lt, tb_le, tb_eq, tw, tnI, tsub1, tsv, tsb32, tn32 2 (by decide), tnj 2 (by decide), tn32 1 (by decide), tnj 1 (by decide), tl32 0 (by decide), tl64 0 (by decide), tl32 3 (by decide), tl64 3 (by decide)] at c1); (try simp only [lg_cmp_lt, lg_cmp_le, lg_cmp_gt, lg_cmp_ge, lg_cmp_eq] at c2); (try simp (disch := omega) only [ta_lt, ta_le, ta_eq, tb_lt, tb_le, tb_eq, tw, tnI, tsub1, tsv, tsb32, tn32 2 (by decide), tnj 2 (by decide), tn32 1 (by decide), tnj 1 (by decide), tl32 0 (by decide), tl64 0 (by decide), tl32 3 (by decide), tl64 3 (by decide)] at c2); (try simp (disch := omega) only [ta_lt, ta_le, ta_eq, tb_lt, tb_le, tb_eq, tw, tnI, tsub1, tsv, tsb32, tn32 2 (by decide), tnj 2 (by decide), tn32 1 (by decide), tnj 1 (by decide), tl32 0 (by decide), tl64 0 (by decide), tl32 3 (by decide), tl64 3 (by decide)]); omega)
      obtain ⟨o, n, p_, m_, q1, q2, q3, q4, q5, q6, q7, q8, q9⟩ := hJ.kp (w := kn) hkn
      refine lv_aload_n hx hb (dkP dF_42 DX11_keep (i := 7) rfl rfl) rfl (lv_at hl 0 rfl) ?_
      refine z_gr C0 hw 0 1 184 (fk_of shc_0 rfl) fl_X11_16 (dk2 dF_180 DX11_keep (i := 8) rfl rfl rfl) ?_
      refine lv_iload_n hx hb (dkP dF_27 DX11_keep (i := 9) rfl rfl) rfl (lv_at hl 1 rfl) ?_
      refine z_aaldN (n := 3) C0 hw 184 kn (rks_184 kn (by omega)) (by decide) (by omega) (by decide) (dkP dF_50 DX11_keep (i := 10) rfl rfl) ?_
      refine lv_aload_n hx hb (dkP dF_42 DX11_keep (i := 11) rfl rfl) rfl (lv_at hl 0 rfl) ?_
      refine z_gr C0 hw 0 0 1 (fk_of shc_0 rfl) fl_X11_10 (dk2 dF_180 DX11_keep (i := 12) rfl rfl rfl) ?_
      refine zk_V hw (zr_V (As := [.ref (ad 1)]) (rest := []) C0 (c_X10_copyFrom l G kc ad σ (250 + 183 * kn) 1 (wkm kn (by omega)) (by decide) (by omega) q1 q2 q3 q4 q5 q6 q7 q8 hT _) cv_X10_copyFrom lk_X11_339 (zp_V C0 hRo hw (250 + 183 * kn) (shw_250 kn (by omega)) rfl rfl) rfl hl.1 rfl ⟨by decide, by decide⟩ (Nat.le_of_ble_eq_true rfl) (dk2 dF_182 DX11_keep (i := 13) rfl rfl rfl) ⟨Nat.le_refl _, Nat.le_refl _⟩) (fun s3 H locs hp hw => ?_)
      obtain ⟨f3_0, f3_1, f3_2, f3_3, f3_4, f3_5, hT3, hG3⟩ := hp
      have hF3 : frC (fun x y => (250 ≤ x) ∨ (x = 185)) σ s3 := frC.t frC.refl hG3 (fun x y h => by have h : (DRG (250 + 183 * kn) x) := h; show (250 ≤ x) ∨ (x = 185); exact Or.inl (by show 250 ≤ x; unfold DRG at h; omega))
      refine lv_aload_n hx hb (dkP dF_42 DX11_keep (i := 14) rfl rfl) rfl (lv_at hl 0 rfl) ?_
      refine z_gr C0 hw 0 2 185 (fk_of shc_0 rfl) fl_X11_20 (dk2 dF_180 DX11_keep (i := 15) rfl rfl rfl) ?_
      refine lv_iload_n hx hb (dkP dF_27 DX11_keep (i := 16) rfl rfl) rfl (lv_at hl 1 rfl) ?_
      refine lv_iconst (v := 1) hx hb (dkP dF_4 DX11_keep (i := 17) rfl rfl) (by decide) ?_
      refine z_zastN (n := 3) C0 hw 185 kn (ak_of shc_185) (by decide) (by omega) (by decide) (dkP dF_84 DX11_keep (i := 18) rfl rfl) (fun H locs hw => ?_)
      have hT4 : TC (sI s3 185 kn 1) := TC.w hT3 (tcw_19 tcl_185 (by (try simp only [lg_cmp_lt, lg_cmp_le, lg_cmp_gt, lg_cmp_ge, lg_cmp_eq] at c1); (try simp (disch := omega) only [ta_lt, ta_le, ta_eq, tb_lt, tb_le, tb_eq, tw, tnI, tsub1, tsv, tsb32, tn32 2 (by decide), tnj 2 (by decide), tn32 1 (by decide), tnj 1 (by decide), tl32 0 (by decide), tl64 0 (by decide), tl32 1 (by decide), tl64 1 (by decide), tl32 3 (by decide), tl64 3 (by decide)] at c1); (try simp only [lg_cmp_lt, lg_cmp_le, lg_cmp_gt, lg_cmp_ge, lg_cmp_eq] at c2); (try simp (disch := omega) only [ta_lt, ta_le, ta_eq, tb_lt, tb_le, tb_eq, tw, tnI, tsub1, tsv, tsb32, tn32 2 (by decide), tnj 2 (by decide), tn32 1 (by decide), tnj 1 (by decide), tl32 0 (by decide), tl64 0 (by decide), tl32 1 (by decide), tl64 1 (by decide), tl32 3 (by decide), tl64 3 (by decide)] at c2); (try simp only [lg_cmp_lt, lg_cmp_le, lg_cmp_gt, lg_cmp_ge, lg_cmp_eq] at f3_0); (try simp (disch := omega) only [ta_lt, ta_le, ta_eq, tb_lt, tb_le, tb_eq, tw, tnI, tsub1, tsv, tsb32, tn32 2 (by decide), tnj 2 (by decide), tn32 1 (by decide), tnj 1 (by decide), tl32 0 (by decide), tl64 0 (by decide), tl32 1 (by decide), tl64 1 (by decide), tl32 3 (by decide), tl64 3 (by decide)] at f3_0); (try simp only [lg_cmp_lt, lg_cmp_le, lg_cmp_gt, lg_cmp_ge, lg_cmp_eq] at f3_1); (try simp (disch := omega) only [ta_lt, ta_le, ta_eq, tb_lt, tb_le, tb_eq, tw, tnI, tsub1, tsv, tsb32, tn32 2 (by decide), tnj 2 (by decide), tn32 1 (by decide), tnj 1 (by decide), tl32 0 (by decide), tl64 0 (by decide), tl32 1 (by decide), tl64 1 (by decide), tl32 3 (by decide), tl64 3 (by decide)] at f3_1); (try simp only [lg_cmp_lt, lg_cmp_le, lg_cmp_gt, lg_cmp_ge, lg_cmp_eq] at f3_2); (try simp (disch := omega) only [ta_lt, ta_le, ta_eq, tb_lt, tb_le, tb_eq, tw, tnI, tsub1, tsv, tsb32, tn32 2 (by decide), tnj 2 (by decide), tn32 1 (by decide), tnj 1 (by decide), tl32 0 (by decide), tl64 0 (by decide), tl32 1 (by decide), tl64 1 (by decide), tl32 3 (by decide), tl64 3 (by decide)] at f3_2); (try simp only [lg_cmp_lt, lg_cmp_le, lg_cmp_gt, lg_cmp_ge, lg_cmp_eq] at f3_3); (try simp (disch := omega) only [ta_lt, ta_le, ta_eq, tb_lt, tb_le, tb_eq, tw, tnI, tsub1, tsv, tsb32, tn32 2 (by decide), tnj 2 (by decide), tn32 1 (by decide), tnj 1 (by decide), tl32 0 (by decide), tl64 0 (by decide), tl32 1 (by decide), tl64 1 (by decide), tl32 3 (by decide), tl64 3 (by decide)] at f3_3); (try simp only [lg_cmp_lt, lg_cmp_le, lg_cmp_gt, lg_cmp_ge, lg_cmp_eq] at f3_4); (try simp (disch := omega) only [ta_lt, ta_le, ta_eq, tb_lt, tb_le, tb_eq, tw, tnI, tsub1, tsv, tsb32, tn32 2 (by decide), tnj 2 (by decide), tn32 1 (by decide), tnj 1 (by decide), tl32 0 (by decide), tl64 0 (by decide), tl32 1 (by decide), tl64 1 (by decide), tl32 3 (by decide), tl64 3 (by decide)] at f3_4); (try simp only [lg_cmp_lt, lg_cmp_le, lg_cmp_gt, lg_cmp_ge, lg_cmp_eq] at f3_5); (try simp (disch := omega) only [ta_lt, ta_le, ta_eq, tb_lt, tb_le, tb_eq, tw, tnI, tsub1, tsv, tsb32, tn32 2 (by decide), tnj 2 (by decide), tn32 1 (by decide), tnj 1 (by decide), tl32 0 (by decide), tl64 0 (by decide), tl32 1 (by decide), tl64 1 (by decide), tl32 3 (by decide), tl64 3 (by decide)] at f3_5); (try simp (disch := omega) only [ta_lt, ta_le, ta_eq, tb_lt, tb_le, tb_eq, tw, tnI, tsub1, tsv, tsb32, tn32 2 (by decide), tnj 2 (by decide), tn32 1 (by decide), tnj 1 (by decide), tl32 0 (by decide), tl64 0 (by decide), tl32 1 (by decide), tl64 1 (by decide), tl32 3 (by decide), tl64 3 (by decide)]); omega))
      have hF4 : frC (fun x y => (250 ≤ x) ∨ (x = 185)) σ (sI s3 185 kn 1) := frC.w hF3 (by show (250 ≤ 185) ∨ (185 = 185); exact Or.inr (rfl))
      refine lv_iconst (v := 0) hx hb (dkP dF_3 DX11_keep (i := 19) rfl rfl) (by decide) ?_
      exact z_iret C0 hr hlk hw (⟨(by unfold KQ; right; refine ⟨?_, ?_, rfl⟩ <;> ((try simp only [lg_cmp_lt, lg_cmp_le, lg_cmp_gt, lg_cmp_ge, lg_cmp_eq] at c1); (try simp (disch := omega) only [ta_lt, ta_le, ta_eq, tb_lt, tb_le, tb_eq, tw, tnI, tsub1, tsv, tsb32, tn32 2 (by decide), tnj 2 (by decide), tn32 1 (by decide), tnj 1 (by decide), tl32 0 (by decide), tl64 0 (by decide), tl32 1 (by decide), tl64 1 (by decide), tl32 3 (by decide), tl64 3 (by decide)] at c1); (try simp only [lg_cmp_lt, lg_cmp_le, lg_cmp_gt, lg_cmp_ge, lg_cmp_eq] at c2); (try simp (disch := omega) only [ta_lt, ta_le, ta_eq, tb_lt, tb_le, tb_eq, tw, tnI, tsub1, tsv, tsb32, tn32 2 (by decide), tnj 2 (by decide), tn32 1 (by decide), tnj 1 (by decide), tl32 0 (by decide), tl64 0 (by decide), tl32 1 (by decide), tl64 1 (by decide), tl32 3 (by decide), tl64 3 (by decide)] at c2); (try simp only [lg_cmp_lt, lg_cmp_le, lg_cmp_gt, lg_cmp_ge, lg_cmp_eq] at f3_0); (try simp (disch := omega) only [ta_lt, ta_le, ta_eq, tb_lt, tb_le, tb_eq, tw, tnI, tsub1, tsv, tsb32, tn32 2 (by decide), tnj 2 (by decide), tn32 1 (by decide), tnj 1 (by decide), tl32 0 (by decide), tl64 0 (by decide), tl32 1 (by decide), tl64 1 (by decide), tl32 3 (by decide), tl64 3 (by decide)] at f3_0); (try simp only [lg_cmp_lt, lg_cmp_le, lg_cmp_gt, lg_cmp_ge, lg_cmp_eq] at f3_1); (try simp (disch := omega) only [ta_lt, ta_le, ta_eq, tb_lt, tb_le, tb_eq, tw, tnI, tsub1, tsv, tsb32, tn32 2 (by decide), tnj 2 (by decide), tn32 1 (by decide), tnj 1 (by decide), tl32 0 (by decide), tl64 0 (by decide), tl32 1 (by decide), tl64 1 (by decide), tl32 3 (by decide), tl64 3 (by decide)] at f3_1); (try simp only [lg_cmp_lt, lg_cmp_le, lg_cmp_gt, lg_cmp_ge, lg_cmp_eq] at f3_2); (try simp (disch := omega) only [ta_lt, ta_le, ta_eq, tb_lt, tb_le, tb_eq, tw, tnI, tsub1, tsv, tsb32, tn32 2 (by decide), tnj 2 (by decide), tn32 1 (by decide), tnj 1 (by decide), tl32 0 (by decide), tl64 0 (by decide), tl32 1 (by decide), tl64 1 (by decide), tl32 3 (by decide), tl64 3 (by decide)] at f3_2); (try simp only [lg_cmp_lt, lg_cmp_le, lg_cmp_gt, lg_cmp_ge, lg_cmp_eq] at f3_3); (try simp (disch := omega) only [ta_lt, ta_le, ta_eq, tb_lt, tb_le, tb_eq, tw, tnI, tsub1, tsv, tsb32, tn32 2 (by decide), tnj 2 (by decide), tn32 1 (by decide), tnj 1 (by decide), tl32 0 (by decide), tl64 0 (by decide), tl32 1 (by decide), tl64 1 (by decide), tl32 3 (by decide), tl64 3 (by decide)] at f3_3); (try simp only [lg_cmp_lt, lg_cmp_le, lg_cmp_gt, lg_cmp_ge, lg_cmp_eq] at f3_4); (try simp (disch := omega) only [ta_lt, ta_le, ta_eq, tb_lt, tb_le, tb_eq, tw, tnI, tsub1, tsv, tsb32, tn32 2 (by decide), tnj 2 (by decide), tn32 1 (by decide), tnj 1 (by decide), tl32 0 (by decide), tl64 0 (by decide), tl32 1 (by decide), tl64 1 (by decide), tl32 3 (by decide), tl64 3 (by decide)] at f3_4); (try simp only [lg_cmp_lt, lg_cmp_le, lg_cmp_gt, lg_cmp_ge, lg_cmp_eq] at f3_5); (try simp (disch := omega) only [ta_lt, ta_le, ta_eq, tb_lt, tb_le, tb_eq, tw, tnI, tsub1, tsv, tsb32, tn32 2 (by decide), tnj 2 (by decide), tn32 1 (by decide), tnj 1 (by decide), tl32 0 (by decide), tl64 0 (by decide), tl32 1 (by decide), tl64 1 (by decide), tl32 3 (by decide), tl64 3 (by decide)] at f3_5); (try simp (disch := omega) only [ta_lt, ta_le, ta_eq, tb_lt, tb_le, tb_eq, tw, tnI, tsub1, tsv, tsb32, tn32 2 (by decide), tnj 2 (by decide), tn32 1 (by decide), tnj 1 (by decide), tl32 0 (by decide), tl64 0 (by decide), tl32 1 (by decide), tl64 1 (by decide), tl32 3 (by decide), tl64 3 (by decide)]); omega)), (Or.inl ⟨rfl, kn, by omega, rfl, rd_s, fun k hk => (rd_n (Or.inr hk)).trans (((hG3.1 185 k (by show ¬ ((DRG (250 + 183 * kn) 185)); intro h_; unfold DRG at h_; (· omega))).trans rfl))⟩), (q9 _ hF4.2 (fun i hi => (f3_0 i hi).c (fun x y hx => rd_n (Or.inl (fun e_ => by have h9 := q6 i hi x hx; rw [e_] at h9; unfold DRG at h9; omega)))) (fun k hk => ((rd_n (by have hd0_ := wkN2 (250 + 183 * kn) (wkm kn (by omega)); omega)).trans rfl).trans (f3_2 k hk)) (fun x y hj hd => ((rd_n (Or.inl (fun e_ => by rw [e_] at hj; unfold jcq at hj; omega))).trans (hG3.1 x y hd)))), hT4, hF4⟩) (dkP dF_172 DX11_keep (i := 20) rfl rfl)
    · (try simp (disch := omega) only [ta_lt, ta_le, ta_eq, tnI, tl32 3 (by decide)] at c2)
      refine lv_bipush (v := (-2)) hx hb (dks dF_16 DX11_keep (i := 5) rfl rfl rfl) (by decide) ?_
      exact z_iret C0 hr hlk hw (⟨(by unfold KQ; left; refine ⟨?_, rfl⟩; (try simp only [lg_cmp_lt, lg_cmp_le, lg_cmp_gt, lg_cmp_ge, lg_cmp_eq] at c1); (try simp (disch := omega) only [ta_lt, ta_le, ta_eq, tb_lt, tb_le, tb_eq, tw, tnI, tsub1, tsv, tsb32, tn32 2 (by decide), tnj 2 (by decide), tn32 1 (by decide), tnj 1 (by decide), tl32 0 (by decide), tl64 0 (by decide), tl32 1 (by decide), tl64 1 (by decide), tl32 3 (by decide), tl64 3 (by decide)] at c1); (try simp only [lg_cmp_lt, lg_cmp_le, lg_cmp_gt, lg_cmp_ge, lg_cmp_eq] at c2); (try simp (disch := omega) only [ta_lt, ta_le, ta_eq, tb_lt, tb_le, tb_eq, tw, tnI, tsub1, tsv, tsb32, tn32 2 (by decide), tnj 2 (by decide), tn32 1 (by decide), tnj 1 (by decide), tl32 0 (by decide), tl64 0 (by decide), tl32 1 (by decide), tl64 1 (by decide), tl32 3 (by decide), tl64 3 (by decide)] at c2); (try simp (disch := omega) only [ta_lt, ta_le, ta_eq, tb_lt, tb_le, tb_eq, tw, tnI, tsub1, tsv, tsb32, tn32 2 (by decide), tnj 2 (by decide), tn32 1 (by decide), tnj 1 (by decide), tl32 0 (by decide), tl64 0 (by decide), tl32 1 (by decide), tl64 1 (by decide), tl32 3 (by decide), tl64 3 (by decide)]); omega), (Or.inr ⟨by decide, fun _ => rfl⟩), hJ, hT, frC.refl⟩) (dkP dF_172 DX11_keep (i := 6) rfl rfl)
set_option maxRecDepth 100000 in
set_option maxHeartbeats 8000000 in
theorem c_X11_restore_q (l : Launch) (G : va_G) (kc : KC) (ad : Nat → Nat) (σ : Sg) (ik : Int32) (hJ : JC σ) (hT : TC σ) : MI l G kc yX11_restore cX11_restore 2 (some .int) 5 111 [.ref (ad 0), .int ik] shC ad σ (fun r σ1 => (RSQ (σ.1 185) ik r) ∧ (JC σ1) ∧ TC σ1 ∧ frC (fun x y => ((1 ≤ x ∧ x < 184) ∨ (192 ≤ x ∧ x < 210))) σ σ1) := by
  intro sz
  refine z_body (y := yX11_restore) (n := 2) (av := [.ref (ad 0), .int ik]) (Qc := fun A => va_Qi (fun r σ1 => (RSQ (σ.1 185) ik r) ∧ (JC σ1) ∧ TC σ1 ∧ frC (fun x y => ((1 ≤ x ∧ x < 184) ∨ (192 ≤ x ∧ x < 210))) σ σ1) (PoC G kc shC ad A) A) (plainFor_of_name (by decide)) (Nat.le_of_ble_eq_true rfl) (fun pr e s m below meth c A C0 hr hlk hnm hw hRo ls hl => ?_) sz
  have hx := C0.1
  have hb := C0.2.1
  have hown := C0.2.2.2.1
  have hts := C0.2.2.2.2.1
  have hl : lv_has ls 2 [(0, .ref (ad 0)), (1, .int ik)] := hl
  obtain ⟨t, u, hto, ht, hun, hu⟩ := hJ.rdr
  obtain ⟨wa, wb, hwa_, hwa, hwb_, hwb, hwab⟩ := hJ.wts
  refine lv_iload_n hx hb (dkP dF_27 DX11_restore (i := 0) rfl rfl) rfl (lv_at hl 1 rfl) ?_
  refine lv_if_lt (tgt := 9) hx hb (dkS dF_155 DX11_restore (i := 1) rfl rfl rfl) (by decide) (fun c1 => ?_) (fun c1 => ?_)
  · (try simp (disch := omega) only [ta_lt, ta_le, ta_eq, tnI, tl32 0 (by decide)] at c1)
    refine lv_bipush (v := (-2)) hx hb (dks dF_16 DX11_restore (i := 5) rfl rfl rfl) (by decide) ?_
    exact z_iret C0 hr hlk hw (⟨(by unfold RSQ; left; refine ⟨?_, rfl⟩; (try simp only [lg_cmp_lt, lg_cmp_le, lg_cmp_gt, lg_cmp_ge, lg_cmp_eq] at c1); (try simp (disch := omega) only [ta_lt, ta_le, ta_eq, tb_lt, tb_le, tb_eq, tw, tnI, tsub1, tsv, tsb32, tn32 2 (by decide), tnj 2 (by decide), tn32 1 (by decide), tnj 1 (by decide), tl32 0 (by decide), tl64 0 (by decide)] at c1); (try simp (disch := omega) only [ta_lt, ta_le, ta_eq, tb_lt, tb_le, tb_eq, tw, tnI, tsub1, tsv, tsb32, tn32 2 (by decide), tnj 2 (by decide), tn32 1 (by decide), tnj 1 (by decide), tl32 0 (by decide), tl64 0 (by decide)]); omega), hJ, hT, frC.refl⟩) (dkP dF_172 DX11_restore (i := 6) rfl rfl)
  · (try simp (disch := omega) only [ta_lt, ta_le, ta_eq, tnI, tl32 0 (by decide)] at c1)
    refine lv_iload_n hx hb (dkP dF_27 DX11_restore (i := 2) rfl rfl) rfl (lv_at hl 1 rfl) ?_
    refine lv_iconst (v := 3) hx hb (dkP dF_6 DX11_restore (i := 3) rfl rfl) (by decide) ?_
    refine lv_icmp_lt (tgt := 12) hx hb (dkS dF_161 DX11_restore (i := 4) rfl rfl rfl) (by decide) (fun c2 => ?_) (fun c2 => ?_)
    · (try simp (disch := omega) only [ta_lt, ta_le, ta_eq, tnI, tl32 3 (by decide)] at c2)
      obtain ⟨kn, hkn, rfl⟩ := to_nat (x := ik) (n := 3) (by (try simp only [lg_cmp_lt, lg_cmp_le, lg_cmp_gt, lg_cmp_ge, lg_cmp_eq] at c1); (try simp (disch := omega) only [ta_lt, ta_le, ta_eq, tb_lt, tb_le, tb_eq, tw, tnI, tsub1, tsv, tsb32, tn32 2 (by decide), tnj 2 (by decide), tn32 1 (by decide), tnj 1 (by decide), tl32 0 (by decide), tl64 0 (by decide), tl32 3 (by decide), tl64 3 (by decide)] at c1); (try simp only [lg_cmp_lt, lg_cmp_le, lg_cmp_gt, lg_cmp_ge, lg_cmp_eq] at c2); (try simp (disch := omega) only [ta_lt, ta_le, ta_eq, tb_lt, tb_le, tb_eq, tw, tnI, tsub1, tsv, tsb32, tn32 2 (by decide), tnj 2 (by decide), tn32 1 (by decide), tnj 1 (by decide), tl32 0 (by decide), tl64 0 (by decide), tl32 3 (by decide), tl64 3 (by decide)] at c2); (try simp (disch := omega) only [ta_lt, ta_le, ta_eq, tb_lt, tb_le, tb_eq, tw, tnI, tsub1, tsv, tsb32, tn32 2 (by decide), tnj 2 (by decide), tn32 1 (by decide), tnj 1 (by decide), tl32 0 (by decide), tl64 0 (by decide), tl32 3 (by decide), tl64 3 (by decide)]); omega)
      obtain ⟨o, n, p_, m_, q1, q2, q3, q4, q5, q6, q7, q8, q9⟩ := hJ.rs (w := kn) hkn
      refine lv_aload_n hx hb (dkP dF_42 DX11_restore (i := 7) rfl rfl) rfl (lv_at hl 0 rfl) ?_
      refine z_gr C0 hw 0 2 185 (fk_of shc_0 rfl) fl_X11_20 (dk2 dF_180 DX11_restore (i := 8) rfl rfl rfl) ?_
      refine lv_iload_n hx hb (dkP dF_27 DX11_restore (i := 9) rfl rfl) rfl (lv_at hl 1 rfl) ?_
      refine z_zaldN (n := 3) C0 hw 185 kn (ak_of shc_185) (by omega) (by decide) (dkP dF_51 DX11_restore (i := 10) rfl rfl) ?_
      obtain ⟨n3, hn3, en3⟩ := rngN (x := σ.1 185 kn) (h := 1) (tcr_19 hT tcl_185)
      refine z_top (y := nI n3) en3 ?_
      refine lv_if_ne (tgt := 24) hx hb (dkS dF_154 DX11_restore (i := 11) rfl rfl rfl) (by decide) (fun c4 => ?_) (fun c4 => ?_)
      · simp (disch := omega) only [ta_lt, ta_le, ta_eq, tnI, tl32 0 (by decide)] at c4
        refine lv_aload_n hx hb (dkP dF_42 DX11_restore (i := 14) rfl rfl) rfl (lv_at hl 0 rfl) ?_
        refine z_gr C0 hw 0 0 1 (fk_of shc_0 rfl) fl_X11_10 (dk2 dF_180 DX11_restore (i := 15) rfl rfl rfl) ?_
        refine lv_aload_n hx hb (dkP dF_42 DX11_restore (i := 16) rfl rfl) rfl (lv_at hl 0 rfl) ?_
        refine z_gr C0 hw 0 1 184 (fk_of shc_0 rfl) fl_X11_16 (dk2 dF_180 DX11_restore (i := 17) rfl rfl rfl) ?_
        refine lv_iload_n hx hb (dkP dF_27 DX11_restore (i := 18) rfl rfl) rfl (lv_at hl 1 rfl) ?_
        refine z_aaldN (n := 3) C0 hw 184 kn (rks_184 kn (by omega)) (by decide) (by omega) (by decide) (dkP dF_50 DX11_restore (i := 19) rfl rfl) ?_
        refine zk_V hw (zr_V (As := [.ref (ad (250 + 183 * kn))]) (rest := []) C0 (c_X10_copyFrom l G kc ad σ 1 (250 + 183 * kn) (by decide) (wkm kn (by omega)) (by omega) q1 q2 q3 q4 q5 q6 q7 q8 hT _) cv_X10_copyFrom lk_X11_339 (zp_V C0 hRo hw 1 shc_1 rfl rfl) rfl hl.1 rfl ⟨by decide, by decide⟩ (Nat.le_of_ble_eq_true rfl) (dk2 dF_182 DX11_restore (i := 20) rfl rfl rfl) ⟨Nat.le_refl _, Nat.le_refl _⟩) (fun s5 H locs hp hw => ?_)
        obtain ⟨f5_0, f5_1, f5_2, f5_3, f5_4, f5_5, hT5, hG5⟩ := hp
        have hF5 : frC (fun x y => ((1 ≤ x ∧ x < 184) ∨ (192 ≤ x ∧ x < 210))) σ s5 := frC.t frC.refl hG5 (fun x y h => by have h : (DRG 1 x) := h; show ((1 ≤ x ∧ x < 184) ∨ (192 ≤ x ∧ x < 210)); exact (by show (1 ≤ x ∧ x < 184) ∨ (192 ≤ x ∧ x < 210); unfold DRG at h; omega))
        refine lv_iconst (v := 0) hx hb (dkP dF_3 DX11_restore (i := 21) rfl rfl) (by decide) ?_
        exact z_iret C0 hr hlk hw (⟨(Or.inr ⟨kn, by omega, rfl, Or.inr ⟨en3.trans (by rw [show n3 = 1 from by omega]; rfl), rfl⟩⟩), (q9 _ hF5.2 f5_0 f5_2 (fun x y hj hd => hG5.1 x y hd)), hT5, hF5⟩) (dkP dF_172 DX11_restore (i := 22) rfl rfl)
      · simp (disch := omega) only [ta_lt, ta_le, ta_eq, tnI, tl32 0 (by decide)] at c4
        refine lv_bipush (v := (-6)) hx hb (dks dF_16 DX11_restore (i := 12) rfl rfl rfl) (by decide) ?_
        exact z_iret C0 hr hlk hw (⟨(Or.inr ⟨kn, by omega, rfl, Or.inl ⟨en3.trans (by rw [show n3 = 0 from by omega]; rfl), rfl⟩⟩), hJ, hT, frC.refl⟩) (dkP dF_172 DX11_restore (i := 13) rfl rfl)
    · (try simp (disch := omega) only [ta_lt, ta_le, ta_eq, tnI, tl32 3 (by decide)] at c2)
      refine lv_bipush (v := (-2)) hx hb (dks dF_16 DX11_restore (i := 5) rfl rfl rfl) (by decide) ?_
      exact z_iret C0 hr hlk hw (⟨(by unfold RSQ; left; refine ⟨?_, rfl⟩; (try simp only [lg_cmp_lt, lg_cmp_le, lg_cmp_gt, lg_cmp_ge, lg_cmp_eq] at c1); (try simp (disch := omega) only [ta_lt, ta_le, ta_eq, tb_lt, tb_le, tb_eq, tw, tnI, tsub1, tsv, tsb32, tn32 6 (by decide), tnj 6 (by decide), tn32 2 (by decide), tnj 2 (by decide), tn32 1 (by decide), tnj 1 (by decide), tl32 0 (by decide), tl64 0 (by decide), tl32 3 (by decide), tl64 3 (by decide)] at c1); (try simp only [lg_cmp_lt, lg_cmp_le, lg_cmp_gt, lg_cmp_ge, lg_cmp_eq] at c2); (try simp (disch := omega) only [ta_lt, ta_le, ta_eq, tb_lt, tb_le, tb_eq, tw, tnI, tsub1, tsv, tsb32, tn32 6 (by decide), tnj 6 (by decide), tn32 2 (by decide), tnj 2 (by decide), tn32 1 (by decide), tnj 1 (by decide), tl32 0 (by decide), tl64 0 (by decide), tl32 3 (by decide), tl64 3 (by decide)] at c2); (try simp (disch := omega) only [ta_lt, ta_le, ta_eq, tb_lt, tb_le, tb_eq, tw, tnI, tsub1, tsv, tsb32, tn32 6 (by decide), tnj 6 (by decide), tn32 2 (by decide), tnj 2 (by decide), tn32 1 (by decide), tnj 1 (by decide), tl32 0 (by decide), tl64 0 (by decide), tl32 3 (by decide), tl64 3 (by decide)]); omega), hJ, hT, frC.refl⟩) (dkP dF_172 DX11_restore (i := 6) rfl rfl)
