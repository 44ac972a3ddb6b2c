theorem pgm : ∀ k, k < 8 → 8 + 22 * k ∈ pgL := by decide +kernel
def wkL : List Nat := [1, 250, 433, 616]
theorem wkm : ∀ k, k < 3 → 250 + 183 * k ∈ wkL := by decide +kernel
theorem wkN2 : ∀ d, d ∈ wkL → d = 1 ∨ 250 ≤ d := by decide +kernel
theorem wkpg : ∀ d, d ∈ wkL → ∀ k, k < 8 → d + 7 + 22 * k ∈ pgL := by decide +kernel
theorem rkwk : ∀ d, d ∈ wkL → ∀ k, k < 8 → rk shC (d + 1) k = some (6, 8, d + 7 + 22 * k) := by decide +kernel
theorem wkpgD : ∀ d, d ∈ wkL → ∀ e, e ∈ pgL → e + 22 ≤ d ∨ d + 7 ≤ e := by decide +kernel
theorem wkot : ∀ d, d ∈ wkL → ∀ e, e ∈ otL → e + 10 ≤ d ∨ d + 7 ≤ e := by decide +kernel
theorem wknt : ∀ d, d ∈ wkL → ∀ e, e ∈ ntL → e + 8 ≤ d ∨ d + 7 ≤ e := by decide +kernel
theorem wkD : ∀ d, d ∈ wkL → ∀ e, e ∈ wkL → d = e ∨ d + 183 ≤ e ∨ e + 183 ≤ d := by decide +kernel
theorem VOr.fin {σ τ : Sg} {t sz us : Nat} (h : VOr σ t sz us) (he : ∀ x y, t ≤ x ∧ x ≤ t + 9 ∧ x ≠ t + 6 → τ.1 x y = σ.1 x y) (ht : ∀ n, n < sz → (σ.1 (t + 2) n = 2 ∨ σ.1 (t + 2) n = 3) → tok (τ.1 (t + 6) n)) : VOb τ t sz us := by
  refine ⟨h.1, by rw [he _ _ (by omega)]; exact h.2.1, fun n hn => ?_⟩
  have e9 : τ.1 (t + 9) = σ.1 (t + 9) := funext (fun y => he _ y (by omega))
  rw [he (t + 2) n (by omega), he (t + 3) n (by omega), he (t + 7) n (by omega), e9]
  obtain ⟨k1, k2⟩ := h.2.2 n hn
  exact ⟨k1, fun h2 => ⟨k2 h2, ht n hn (Or.inl h2)⟩, fun h3 => ht n hn (Or.inr h3)⟩
set_option maxRecDepth 100000 in
set_option maxHeartbeats 8000000 in
theorem c_X2_findTargets (l : Launch) (G : va_G) (kc : KC) (ad : Nat → Nat) (σ : Sg) (t : Nat)  {zs us : Nat} (ht : t ∈ otL) (hsz : σ.1 t 1 = nI zs) (hsz24 : zs ≤ 24) (hV : VOr σ t zs us) (hT : TC σ) : MV l G kc yX2_findTargets cX2_findTargets 2 1 22 [.ref (ad t)] shC ad σ (fun σ1 => (VOb σ1 t zs us) ∧ TC σ1 ∧ frC (fun x y => (x = t + 6)) σ σ1) := by
  intro sz
  refine z_body (y := yX2_findTargets) (n := 2) (av := [.ref (ad t)]) (Qc := fun A => va_Qv (fun σ1 => (VOb σ1 t zs us) ∧ TC σ1 ∧ frC (fun x y => (x = t + 6)) σ σ1) (PoC G kc shC ad A) A) (plainFor_of_name (by decide)) (Nat.le_of_ble_eq_true rfl) (fun pr e s m below meth c A C0 hr hlk hnm hw hRo ls hl => ?_) sz
  have hx := C0.1
  have hb := C0.2.1
  have hown := C0.2.2.2.1
  have hts := C0.2.2.2.2.1
  have hl : lv_has ls 2 [(0, .ref (ad t))] := hl
  have htn := otN t ht
  refine lv_iconst (v := 0) hx hb (dkP dF_3 DX2_findTargets (i := 0) rfl rfl) (by decide) ?_
  refine lv_istore_n (lv' := [(1, .int 0), (0, .ref (ad t))]) hx hb (dkP dF_60 DX2_findTargets (i := 1) rfl rfl) rfl hl (by decide) rfl (fun ls hl => ?_)
  have lp2 : ∀ (nq : Nat) (q1_2 : Nat) (τ1 : Sg) (H : Heap) (locs : List Loc) (ls : Array Slot), zs - q1_2 < nq → (q1_2 ≤ zs) → (∀ n, n < q1_2 → (σ.1 (t + 2) n = 2 ∨ σ.1 (t + 2) n = 3) → tok (τ1.1 (t + 6) n)) → (TC τ1) → (frC (fun x y => (x = t + 6)) σ τ1) → St G kc A s.heap shC ad τ1 H locs → lv_has ls 2 [(1, .int (nI q1_2)), (0, .ref (ad t))] → W pr l e { frames := 1, cells := 0, slots := 0, locals := 22 } s m ([.ref (ad t)] : List Value).toArray below meth c H locs 0 0 (MQ below (va_Qv (fun σ1 => (VOb σ1 t zs us) ∧ TC σ1 ∧ frC (fun x y => (x = t + 6)) σ σ1) (PoC G kc shC ad A) A) ([.ref (ad t)] : List Value).toArray s 0 0 A) (F0 m 2 ls []) := by
    intro nq
    induction nq with
    | zero => intro q1_2 τ1 H locs ls hmu; exact absurd hmu (Nat.not_lt_zero _)
    | succ nq ih2 =>
      intro q1_2 τ1 H locs ls hmu hq1_2 htt hT_τ1 hF_τ1 hw hl
      refine lv_iload_n hx hb (dkP dF_27 DX2_findTargets (i := 2) rfl rfl) rfl (lv_at hl 0 rfl) ?_
      refine lv_aload_n hx hb (dkP dF_42 DX2_findTargets (i := 3) rfl rfl) rfl (lv_at hl 1 rfl) ?_
      refine z_gi C0 hw t 1 (fk_of (shl_ot_0 t ht) rfl) fl_X2_42 (dk2 dF_180 DX2_findTargets (i := 4) rfl rfl rfl) ?_
      refine z_top (y := (nI zs)) ((hF_τ1.1 t 1 (by show ¬ ((t = t + 6)); omega)).trans hsz) ?_
      refine lv_icmp_ge (tgt := 52) hx hb (dkS dF_162 DX2_findTargets (i := 5) rfl rfl rfl) (by decide) (fun c3 => ?_) (fun c3 => ?_)
      · simp (disch := omega) only [ta_lt, ta_le, ta_eq, tnI] at c3
        exact z_vret C0 hr hlk hw (⟨(hV.fin (fun x y hxy => hF_τ1.1 x y (fun h_ => by have h_ : (x = t + 6) := h_; omega)) (fun n hn h2 => htt n (by omega) h2)), hT_τ1, hF_τ1⟩) (dkP dF_177 DX2_findTargets (i := 30) rfl rfl)
      · simp (disch := omega) only [ta_lt, ta_le, ta_eq, tnI] at c3
        refine lv_aload_n hx hb (dkP dF_42 DX2_findTargets (i := 6) rfl rfl) rfl (lv_at hl 1 rfl) ?_
        refine z_gr C0 hw t 3 (t + 2) (fk_of (shl_ot_0 t ht) rfl) fl_X2_17 (dk2 dF_180 DX2_findTargets (i := 7) rfl rfl rfl) ?_
        refine lv_iload_n hx hb (dkP dF_27 DX2_findTargets (i := 8) rfl rfl) rfl (lv_at hl 0 rfl) ?_
        refine z_ialdN (n := 24) C0 hw (t + 2) q1_2 (ak_of (shl_ot_2 t ht)) (by omega) (by decide) (dkP dF_46 DX2_findTargets (i := 9) rfl rfl) ?_
        obtain ⟨v4, ev4⟩ : ∃ y : Int32, τ1.1 (t + 2) q1_2 = y := ⟨_, rfl⟩
        refine z_top (y := v4) ev4 ?_
        refine lv_iconst (v := 3) hx hb (dkP dF_6 DX2_findTargets (i := 10) rfl rfl) (by decide) ?_
        refine lv_icmp_eq (tgt := 30) hx hb (dkS dF_159 DX2_findTargets (i := 11) rfl rfl rfl) (by decide) (fun c5 => ?_) (fun c5 => ?_)
        · skip
          refine lv_aload_n hx hb (dkP dF_42 DX2_findTargets (i := 18) rfl rfl) rfl (lv_at hl 1 rfl) ?_
          refine z_gr C0 hw t 7 (t + 6) (fk_of (shl_ot_0 t ht) rfl) fl_X2_29 (dk2 dF_180 DX2_findTargets (i := 19) rfl rfl rfl) ?_
          refine lv_iload_n hx hb (dkP dF_27 DX2_findTargets (i := 20) rfl rfl) rfl (lv_at hl 0 rfl) ?_
          refine lv_aload_n hx hb (dkP dF_42 DX2_findTargets (i := 21) rfl rfl) rfl (lv_at hl 1 rfl) ?_
          refine lv_aload_n hx hb (dkP dF_42 DX2_findTargets (i := 22) rfl rfl) rfl (lv_at hl 1 rfl) ?_
          refine z_gr C0 hw t 7 (t + 6) (fk_of (shl_ot_0 t ht) rfl) fl_X2_29 (dk2 dF_180 DX2_findTargets (i := 23) rfl rfl rfl) ?_
          refine lv_iload_n hx hb (dkP dF_27 DX2_findTargets (i := 24) rfl rfl) rfl (lv_at hl 0 rfl) ?_
          refine z_ialdN (n := 24) C0 hw (t + 6) q1_2 (ak_of (shl_ot_6 t ht)) (by omega) (by decide) (dkP dF_46 DX2_findTargets (i := 25) rfl rfl) ?_
          obtain ⟨v6, ev6⟩ : ∃ y : Int32, τ1.1 (t + 6) q1_2 = y := ⟨_, rfl⟩
          refine z_top (y := v6) ev6 ?_
          refine zk_I hw (zr_V (As := [.int v6]) (rest := [.int (nI q1_2), .ref (ad (t + 6))]) C0 (c_X2_lineWith l G kc ad τ1 t v6 ht hT_τ1 _) cv_X2_lineWith lk_X2_49 (zp_V C0 hRo hw t (shl_ot_0 t ht) rfl rfl) rfl hl.1 rfl ⟨by decide, by decide⟩ (Nat.le_of_ble_eq_true rfl) (dk2 dF_182 DX2_findTargets (i := 26) rfl rfl rfl) ⟨Nat.le_refl _, Nat.le_refl _⟩) (fun r7 s7 H locs hp hw => ?_)
          obtain ⟨f7_0, hs7⟩ := hp
          (rw [hs7] at hw)
          refine z_iastN (n := 24) C0 hw (t + 6) q1_2 (ak_of (shl_ot_6 t ht)) (by omega) (by decide) (dkP dF_79 DX2_findTargets (i := 27) rfl rfl) (fun H locs hw => ?_)
          have hT8 : TC (sI τ1 (t + 6) q1_2 r7) := TC.w hT_τ1 (tc0 (tck_ot_6 t ht))
          have hF8 : frC (fun x y => (x = t + 6)) σ (sI τ1 (t + 6) q1_2 r7) := frC.w hF_τ1 (by show ((t + 6) = t + 6); exact rfl)
          refine lv_iinc (v := nI (q1_2 + 1)) (lv' := [(1, .int (nI (q1_2 + 1))), (0, .ref (ad t))]) hx hb (dkI DX2_findTargets (i := 28) rfl rfl rfl rfl) hl (k := 0) rfl (nI_1 _) (by decide) rfl (fun ls hl => ?_)
          refine lv_goto (tgt := 2) hx hb (dkS dF_167 DX2_findTargets (i := 29) rfl rfl rfl) (by decide) ?_
          exact ih2 (q1_2 + 1) (sI τ1 (t + 6) q1_2 r7) _ _ _ (by omega) (by (try simp only [lg_cmp_lt, lg_cmp_le, lg_cmp_gt, lg_cmp_ge, lg_cmp_eq] at c3); (try simp (disch := omega) only [ta_lt, ta_le, ta_eq, tb_lt, tb_le, tb_eq, tw, tnI, tsub1, tsv, tsb32, tn32 1 (by decide), tnj 1 (by decide), tl32 0 (by decide), tl64 0 (by decide), tl32 3 (by decide), tl64 3 (by decide)] at c3); (try simp only [lg_cmp_lt, lg_cmp_le, lg_cmp_gt, lg_cmp_ge, lg_cmp_eq] at c5); (try simp (disch := omega) only [ta_lt, ta_le, ta_eq, tb_lt, tb_le, tb_eq, tw, tnI, tsub1, tsv, tsb32, tn32 1 (by decide), tnj 1 (by decide), tl32 0 (by decide), tl64 0 (by decide), tl32 3 (by decide), tl64 3 (by decide)] at c5); (try simp only [lg_cmp_lt, lg_cmp_le, lg_cmp_gt, lg_cmp_ge, lg_cmp_eq] at f7_0); (try simp (disch := omega) only [ta_lt, ta_le, ta_eq, tb_lt, tb_le, tb_eq, tw, tnI, tsub1, tsv, tsb32, tn32 1 (by decide), tnj 1 (by decide), tl32 0 (by decide), tl64 0 (by decide), tl32 3 (by decide), tl64 3 (by decide)] at f7_0); (try simp (disch := omega) only [ta_lt, ta_le, ta_eq, tb_lt, tb_le, tb_eq, tw, tnI, tsub1, tsv, tsb32, tn32 1 (by decide), tnj 1 (by decide), tl32 0 (by decide), tl64 0 (by decide), tl32 3 (by decide), tl64 3 (by decide)]); omega) (fun n hn h2 => by by_cases e_ : n = q1_2; (· rw [e_, rd_s]; exact f7_0); (· rw [rd_n (by omega)]; exact htt n (by omega) h2)) hT8 hF8 hw (lv_sub hl [0, 1] rfl)
        · skip
          refine lv_aload_n hx hb (dkP dF_42 DX2_findTargets (i := 12) rfl rfl) rfl (lv_at hl 1 rfl) ?_
          refine z_gr C0 hw t 3 (t + 2) (fk_of (shl_ot_0 t ht) rfl) fl_X2_17 (dk2 dF_180 DX2_findTargets (i := 13) rfl rfl rfl) ?_
          refine lv_iload_n hx hb (dkP dF_27 DX2_findTargets (i := 14) rfl rfl) rfl (lv_at hl 0 rfl) ?_
          refine z_ialdN (n := 24) C0 hw (t + 2) q1_2 (ak_of (shl_ot_2 t ht)) (by omega) (by decide) (dkP dF_46 DX2_findTargets (i := 15) rfl rfl) ?_
          refine z_top (y := v4) ev4 ?_
          refine lv_iconst (v := 2) hx hb (dkP dF_5 DX2_findTargets (i := 16) rfl rfl) (by decide) ?_
          refine lv_icmp_ne (tgt := 46) hx hb (dkS dF_160 DX2_findTargets (i := 17) rfl rfl rfl) (by decide) (fun c9 => ?_) (fun c9 => ?_)
          · skip
            refine lv_iinc (v := nI (q1_2 + 1)) (lv' := [(1, .int (nI (q1_2 + 1))), (0, .ref (ad t))]) hx hb (dkI DX2_findTargets (i := 28) rfl rfl rfl rfl) hl (k := 0) rfl (nI_1 _) (by decide) rfl (fun ls hl => ?_)
            refine lv_goto (tgt := 2) hx hb (dkS dF_167 DX2_findTargets (i := 29) rfl rfl rfl) (by decide) ?_
            exact ih2 (q1_2 + 1) τ1 _ _ _ (by omega) (by (try simp only [lg_cmp_lt, lg_cmp_le, lg_cmp_gt, lg_cmp_ge, lg_cmp_eq] at c3); (try simp (disch := omega) only [ta_lt, ta_le, ta_eq, tb_lt, tb_le, tb_eq, tw, tnI, tsub1, tsv, tsb32, tn32 1 (by decide), tnj 1 (by decide), tl32 0 (by decide), tl64 0 (by decide), tl32 2 (by decide), tl64 2 (by decide), tl32 3 (by decide), tl64 3 (by decide)] at c3); (try simp only [lg_cmp_lt, lg_cmp_le, lg_cmp_gt, lg_cmp_ge, lg_cmp_eq] at c5); (try simp (disch := omega) only [ta_lt, ta_le, ta_eq, tb_lt, tb_le, tb_eq, tw, tnI, tsub1, tsv, tsb32, tn32 1 (by decide), tnj 1 (by decide), tl32 0 (by decide), tl64 0 (by decide), tl32 2 (by decide), tl64 2 (by decide), tl32 3 (by decide), tl64 3 (by decide)] at c5); (try simp only [lg_cmp_lt, lg_cmp_le, lg_cmp_gt, lg_cmp_ge, lg_cmp_eq] at c9); (try simp (disch := omega) only [ta_lt, ta_le, ta_eq, tb_lt, tb_le, tb_eq, tw, tnI, tsub1, tsv, tsb32, tn32 1 (by decide), tnj 1 (by decide), tl32 0 (by decide), tl64 0 (by decide), tl32 2 (by decide), tl64 2 (by decide), tl32 3 (by decide), tl64 3 (by decide)] at c9); (try simp (disch := omega) only [ta_lt, ta_le, ta_eq, tb_lt, tb_le, tb_eq, tw, tnI, tsub1, tsv, tsb32, tn32 1 (by decide), tnj 1 (by decide), tl32 0 (by decide), tl64 0 (by decide), tl32 2 (by decide), tl64 2 (by decide), tl32 3 (by decide), tl64 3 (by decide)]); omega) (fun n hn h2 => by by_cases e_ : n = q1_2; (· rw [e_, (((hF_τ1.1 (t + 2) q1_2 (by show ¬ (((t + 2) = t + 6)); omega)).trans rfl).symm.trans ev4)] at h2; rcases h2 with h | h; (· exact absurd h c9); (· exact absurd h c5)); (· exact htt n (by omega) h2)) hT_τ1 hF_τ1 hw (lv_sub hl [0, 1] rfl)
          · skip
            refine lv_aload_n hx hb (dkP dF_42 DX2_findTargets (i := 18) rfl rfl) rfl (lv_at hl 1 rfl) ?_
            refine z_gr C0 hw t 7 (t + 6) (fk_of (shl_ot_0 t ht) rfl) fl_X2_29 (dk2 dF_180 DX2_findTargets (i := 19) rfl rfl rfl) ?_
            refine lv_iload_n hx hb (dkP dF_27 DX2_findTargets (i := 20) rfl rfl) rfl (lv_at hl 0 rfl) ?_
            refine lv_aload_n hx hb (dkP dF_42 DX2_findTargets (i := 21) rfl rfl) rfl (lv_at hl 1 rfl) ?_
            refine lv_aload_n hx hb (dkP dF_42 DX2_findTargets (i := 22) rfl rfl) rfl (lv_at hl 1 rfl) ?_
            refine z_gr C0 hw t 7 (t + 6) (fk_of (shl_ot_0 t ht) rfl) fl_X2_29 (dk2 dF_180 DX2_findTargets (i := 23) rfl rfl rfl) ?_
            refine lv_iload_n hx hb (dkP dF_27 DX2_findTargets (i := 24) rfl rfl) rfl (lv_at hl 0 rfl) ?_
            refine z_ialdN (n := 24) C0 hw (t + 6) q1_2 (ak_of (shl_ot_6 t ht)) (by omega) (by decide) (dkP dF_46 DX2_findTargets (i := 25) rfl rfl) ?_
            obtain ⟨v10, ev10⟩ : ∃ y : Int32, τ1.1 (t + 6) q1_2 = y := ⟨_, rfl⟩
            refine z_top (y := v10) ev10 ?_
            refine zk_I hw (zr_V (As := [.int v10]) (rest := [.int (nI q1_2), .ref (ad (t + 6))]) C0 (c_X2_lineWith l G kc ad τ1 t v10 ht hT_τ1 _) cv_X2_lineWith lk_X2_49 (zp_V C0 hRo hw t (shl_ot_0 t ht) rfl rfl) rfl hl.1 rfl ⟨by decide, by decide⟩ (Nat.le_of_ble_eq_true rfl) (dk2 dF_182 DX2_findTargets (i := 26) rfl rfl rfl) ⟨Nat.le_refl _, Nat.le_refl _⟩) (fun r11 s11 H locs hp hw => ?_)
            obtain ⟨f11_0, hs11⟩ := hp
            (rw [hs11] at hw)
            refine z_iastN (n := 24) C0 hw (t + 6) q1_2 (ak_of (shl_ot_6 t ht)) (by omega) (by decide) (dkP dF_79 DX2_findTargets (i := 27) rfl rfl) (fun H locs hw => ?_)
            have hT12 : TC (sI τ1 (t + 6) q1_2 r11) := TC.w hT_τ1 (tc0 (tck_ot_6 t ht))
            have hF12 : frC (fun x y => (x = t + 6)) σ (sI τ1 (t + 6) q1_2 r11) := frC.w hF_τ1 (by show ((t + 6) = t + 6); exact rfl)
            refine lv_iinc (v := nI (q1_2 + 1)) (lv' := [(1, .int (nI (q1_2 + 1))), (0, .ref (ad t))]) hx hb (dkI DX2_findTargets (i := 28) rfl rfl rfl rfl) hl (k := 0) rfl (nI_1 _) (by decide) rfl (fun ls hl => ?_)
            refine lv_goto (tgt := 2) hx hb (dkS dF_167 DX2_findTargets (i := 29) rfl rfl rfl) (by decide) ?_
            exact ih2 (q1_2 + 1) (sI τ1 (t + 6) q1_2 r11) _ _ _ (by omega) (by (try simp only [lg_cmp_lt, lg_cmp_le, lg_cmp_gt, lg_cmp_ge, lg_cmp_eq] at c3); (try simp (disch := omega) only [ta_lt, ta_le, ta_eq, tb_lt, tb_le, tb_eq, tw, tnI, tsub1, tsv, tsb32, tn32 1 (by decide), tnj 1 (by decide), tl32 0 (by decide), tl64 0 (by decide), tl32 2 (by decide), tl64 2 (by decide), tl32 3 (by decide), tl64 3 (by decide)] at c3); (try simp only [lg_cmp_lt, lg_cmp_le, lg_cmp_gt, lg_cmp_ge, lg_cmp_eq] at c5); (try simp (disch := omega) only [ta_lt, ta_le, ta_eq, tb_lt, tb_le, tb_eq, tw, tnI, tsub1, tsv, tsb32, tn32 1 (by decide), tnj 1 (by decide), tl32 0 (by decide), tl64 0 (by decide), tl32 2 (by decide), tl64 2 (by decide), tl32 3 (by decide), tl64 3 (by decide)] at c5); (try simp only [lg_cmp_lt, lg_cmp_le, lg_cmp_gt, lg_cmp_ge, lg_cmp_eq] at c9); (try simp (disch := omega) only [ta_lt, ta_le, ta_eq, tb_lt, tb_le, tb_eq, tw, tnI, tsub1, tsv, tsb32, tn32 1 (by decide), tnj 1 (by decide), tl32 0 (by decide), tl64 0 (by decide), tl32 2 (by decide), tl64 2 (by decide), tl32 3 (by decide), tl64 3 (by decide)] at c9); (try simp only [lg_cmp_lt, lg_cmp_le, lg_cmp_gt, lg_cmp_ge, lg_cmp_eq] at f11_0); (try simp (disch := omega) only [ta_lt, ta_le, ta_eq, tb_lt, tb_le, tb_eq, tw, tnI, tsub1, tsv, tsb32, tn32 1 (by decide), tnj 1 (by decide), tl32 0 (by decide), tl64 0 (by decide), tl32 2 (by decide), tl64 2 (by decide), tl32 3 (by decide), tl64 3 (by decide)] at f11_0); (try simp (disch := omega) only [ta_lt, ta_le, ta_eq, tb_lt, tb_le, tb_eq, tw, tnI, tsub1, tsv, tsb32, tn32 1 (by decide), tnj 1 (by decide), tl32 0 (by decide), tl64 0 (by decide), tl32 2 (by decide), tl64 2 (by decide), tl32 3 (by decide), tl64 3 (by decide)]); omega) (fun n hn h2 => by by_cases e_ : n = q1_2; (· rw [e_, rd_s]; exact f11_0); (· rw [rd_n (by omega)]; exact htt n (by omega) h2)) hT12 hF12 hw (lv_sub hl [0, 1] rfl)
  exact lp2 _ 0 σ _ _ _ (Nat.lt_succ_self _) (by (try simp (disch := omega) only [ta_lt, ta_le, ta_eq, tb_lt, tb_le, tb_eq, tw, tnI, tsub1, tsv, tsb32, tn32 1 (by decide), tnj 1 (by decide), tl32 0 (by decide), tl64 0 (by decide), tl32 2 (by decide), tl64 2 (by decide), tl32 3 (by decide), tl64 3 (by decide)]); omega) (fun n hn => absurd hn (Nat.not_lt_zero n)) hT frC.refl hw (lv_sub hl [0, 1] rfl)
set_option maxRecDepth 100000 in
set_option maxHeartbeats 8000000 in
theorem c_X8_copyFrom_o (l : Launch) (G : va_G) (kc : KC) (ad : Nat → Nat) (σ : Sg) (su : Nat) (sv : Nat) {us : Nat} (hsu : su ∈ soL) (hsv : sv ∈ soL) (hne : su ≠ sv) (hus : σ.1 sv 1 = nI us) (husc : us ≤ 192) (hT : TC σ) : MV l G kc yX8_copyFrom cX8_copyFrom 2 1 26 [.ref (ad su), .ref (ad sv)] shC ad σ (fun σ1 => (σ1.1 su 1 = nI us) ∧ (∀ x, x < us → σ1.1 (su + 1) x = σ.1 (sv + 1) x) ∧ TC σ1 ∧ frC (fun x y => (x = su + 1) ∨ (x = su ∧ y = 1)) σ σ1) := by
  intro sz
  refine z_body (y := yX8_copyFrom) (n := 2) (av := [.ref (ad su), .ref (ad sv)]) (Qc := fun A => va_Qv (fun σ1 => (σ1.1 su 1 = nI us) ∧ (∀ x, x < us → σ1.1 (su + 1) x = σ.1 (sv + 1) x) ∧ TC σ1 ∧ frC (fun x y => (x = su + 1) ∨ (x = su ∧ y = 1)) σ σ1) (PoC G kc shC ad A) A) (plainFor_of_name (by decide)) (Nat.le_of_ble_eq_true rfl) (fun pr e s m below meth c A C0 hr hlk hnm hw hRo ls hl => ?_) sz
  have hx := C0.1
  have hb := C0.2.1
  have hown := C0.2.2.2.1
  have hts := C0.2.2.2.2.1
  have hl : lv_has ls 2 [(0, .ref (ad su)), (1, .ref (ad sv))] := hl
  refine lv_aload_n hx hb (dkP dF_42 DX8_copyFrom (i := 0) rfl rfl) rfl (lv_at hl 0 rfl) ?_
  refine lv_aload_n hx hb (dkP dF_43 DX8_copyFrom (i := 1) rfl rfl) rfl (lv_at hl 1 rfl) ?_
  refine z_gi C0 hw sv 1 (fk_of (shl_so_0 sv hsv) rfl) fl_X8_15 (dk2 dF_180 DX8_copyFrom (i := 2) rfl rfl rfl) ?_
  refine z_top (y := (nI us)) hus ?_
  refine lv_aload_n hx hb (dkP dF_42 DX8_copyFrom (i := 3) rfl rfl) rfl (lv_at hl 0 rfl) ?_
  refine z_gr C0 hw su 0 (su + 1) (fk_of (shl_so_0 su hsu) rfl) fl_X8_9 (dk2 dF_180 DX8_copyFrom (i := 4) rfl rfl rfl) ?_
  refine z_alen (t := 0) (n := 192) C0 hw (su + 1) (ak_of (shl_so_1 su hsu)) (by decide) (dkP dF_190 DX8_copyFrom (i := 5) rfl rfl) ?_
  refine z_top (y := 192) rfl ?_
  refine zn_I hw (zr_S (As := [.int (nI us), .int 192]) (rest := [.ref (ad su)]) C0 (c_J9_min_7cf53_k l G kc us 192 (by omega) (by decide) _) cs_J9_min_7cf53 lk_X8_19 (zp_P C0 hRo hw a00 s00) rfl hl.1 rfl ⟨by decide, by decide⟩ (Nat.le_of_ble_eq_true rfl) (dk2 dF_184 DX8_copyFrom (i := 6) rfl rfl rfl) ⟨Nat.le_refl _, Nat.le_refl _⟩) (fun r1 s1 H locs hp hw => ?_)
  subst hp
  refine z_pi C0 hw su 1 (fk_of (shl_so_0 su hsu) rfl) fp_X8_15 (dk2 dF_181 DX8_copyFrom (i := 7) rfl rfl rfl) (fun H locs hw => ?_)
  have hT2 : TC (sI σ su 1 (nI us)) := TC.w hT (tcw_3_1 (tck_so_0 su hsu) (by (try simp (disch := omega) only [ta_lt, ta_le, ta_eq, tb_lt, tb_le, tb_eq, tw, tnI, tsub1, tsv, tsb32, tn32 1 (by decide), tnj 1 (by decide), tl32 0 (by decide), tl64 0 (by decide)]); omega))
  have hF2 : frC (fun x y => (x = su + 1) ∨ (x = su ∧ y = 1)) σ (sI σ su 1 (nI us)) := frC.w frC.refl (by show (su = su + 1) ∨ (su = su ∧ 1 = 1); exact Or.inr (⟨rfl, rfl⟩))
  refine lv_aload_n hx hb (dkP dF_43 DX8_copyFrom (i := 8) rfl rfl) rfl (lv_at hl 1 rfl) ?_
  refine z_gr C0 hw sv 0 (sv + 1) (fk_of (shl_so_0 sv hsv) rfl) fl_X8_9 (dk2 dF_180 DX8_copyFrom (i := 9) rfl rfl rfl) ?_
  refine lv_iconst (v := 0) hx hb (dkP dF_3 DX8_copyFrom (i := 10) rfl rfl) (by decide) ?_
  refine lv_aload_n hx hb (dkP dF_42 DX8_copyFrom (i := 11) rfl rfl) rfl (lv_at hl 0 rfl) ?_
  refine z_gr C0 hw su 0 (su + 1) (fk_of (shl_so_0 su hsu) rfl) fl_X8_9 (dk2 dF_180 DX8_copyFrom (i := 12) rfl rfl rfl) ?_
  refine lv_iconst (v := 0) hx hb (dkP dF_3 DX8_copyFrom (i := 13) rfl rfl) (by decide) ?_
  refine lv_aload_n hx hb (dkP dF_42 DX8_copyFrom (i := 14) rfl rfl) rfl (lv_at hl 0 rfl) ?_
  refine z_gi C0 hw su 1 (fk_of (shl_so_0 su hsu) rfl) fl_X8_15 (dk2 dF_180 DX8_copyFrom (i := 15) rfl rfl rfl) ?_
  refine z_top (y := (nI us)) rd_s ?_
  refine z_cpi (n0 := 192) (n1 := 192) C0 hw (sv + 1) (su + 1) 0 0 us (ak_of (shl_so_1 sv hsv)) (ak_of (shl_so_1 su hsu)) ac_X8_25 hl.1 (by omega) (by omega) (by decide) (by decide) (by decide) (by decide) (Nat.le_of_ble_eq_true rfl) (dk2 dF_184 DX8_copyFrom (i := 16) rfl rfl rfl) (fun H locs hw => ?_)
  have hT3 : TC (sCp (sI σ su 1 (nI us)) (sv + 1) (su + 1) 0 0 us) := TC.cp hT2 (fun k k2 x_ h => tc0 (tck_so_1 su hsu))
  have hF3 : frC (fun x y => (x = su + 1) ∨ (x = su ∧ y = 1)) σ (sCp (sI σ su 1 (nI us)) (sv + 1) (su + 1) 0 0 us) := frC.cp hF2 (fun k => (by show ((su + 1) = su + 1) ∨ ((su + 1) = su ∧ k = 1); exact Or.inl rfl))
  exact z_vret C0 hr hlk hw (⟨((congrFun (sCp_o (by omega)) _).trans rd_s), (fun x hx1 => ((cp_in (by omega)).trans ((rd_n (by have hd_ := soD sv hsv su hsu; omega)).trans rfl))), hT3, hF3⟩) (dkP dF_177 DX8_copyFrom (i := 17) rfl rfl)
set_option maxRecDepth 100000 in
set_option maxHeartbeats 8000000 in
theorem c_X8_copyFrom_n (l : Launch) (G : va_G) (kc : KC) (ad : Nat → Nat) (σ : Sg) (su : Nat) (sv : Nat) {us : Nat} (hsu : su ∈ snL) (hsv : sv ∈ snL) (hne : su ≠ sv) (hus : σ.1 sv 1 = nI us) (husc : us ≤ 1920) (hT : TC σ) : MV l G kc yX8_copyFrom cX8_copyFrom 2 1 26 [.ref (ad su), .ref (ad sv)] shC ad σ (fun σ1 => (σ1.1 su 1 = nI us) ∧ (∀ x, x < us → σ1.1 (su + 1) x = σ.1 (sv + 1) x) ∧ TC σ1 ∧ frC (fun x y => (x = su + 1) ∨ (x = su ∧ y = 1)) σ σ1) := by
  intro sz
  refine z_body (y := yX8_copyFrom) (n := 2) (av := [.ref (ad su), .ref (ad sv)]) (Qc := fun A => va_Qv (fun σ1 => (σ1.1 su 1 = nI us) ∧ (∀ x, x < us → σ1.1 (su + 1) x = σ.1 (sv + 1) x) ∧ TC σ1 ∧ frC (fun x y => (x = su + 1) ∨ (x = su ∧ y = 1)) σ σ1) (PoC G kc shC ad A) A) (plainFor_of_name (by decide)) (Nat.le_of_ble_eq_true rfl) (fun pr e s m below meth c A C0 hr hlk hnm hw hRo ls hl => ?_) sz
  have hx := C0.1
  have hb := C0.2.1
  have hown := C0.2.2.2.1
  have hts := C0.2.2.2.2.1
  have hl : lv_has ls 2 [(0, .ref (ad su)), (1, .ref (ad sv))] := hl
  refine lv_aload_n hx hb (dkP dF_42 DX8_copyFrom (i := 0) rfl rfl) rfl (lv_at hl 0 rfl) ?_
  refine lv_aload_n hx hb (dkP dF_43 DX8_copyFrom (i := 1) rfl rfl) rfl (lv_at hl 1 rfl) ?_
  refine z_gi C0 hw sv 1 (fk_of (shl_sn_0 sv hsv) rfl) fl_X8_15 (dk2 dF_180 DX8_copyFrom (i := 2) rfl rfl rfl) ?_
  refine z_top (y := (nI us)) hus ?_
  refine lv_aload_n hx hb (dkP dF_42 DX8_copyFrom (i := 3) rfl rfl) rfl (lv_at hl 0 rfl) ?_
  refine z_gr C0 hw su 0 (su + 1) (fk_of (shl_sn_0 su hsu) rfl) fl_X8_9 (dk2 dF_180 DX8_copyFrom (i := 4) rfl rfl rfl) ?_
  refine z_alen (t := 0) (n := 1920) C0 hw (su + 1) (ak_of (shl_sn_1 su hsu)) (by decide) (dkP dF_190 DX8_copyFrom (i := 5) rfl rfl) ?_
  refine z_top (y := 1920) rfl ?_
  refine zn_I hw (zr_S (As := [.int (nI us), .int 1920]) (rest := [.ref (ad su)]) C0 (c_J9_min_7cf53_k l G kc us 1920 (by omega) (by decide) _) cs_J9_min_7cf53 lk_X8_19 (zp_P C0 hRo hw a00 s00) rfl hl.1 rfl ⟨by decide, by decide⟩ (Nat.le_of_ble_eq_true rfl) (dk2 dF_184 DX8_copyFrom (i := 6) rfl rfl rfl) ⟨Nat.le_refl _, Nat.le_refl _⟩) (fun r1 s1 H locs hp hw => ?_)
  subst hp
  refine z_pi C0 hw su 1 (fk_of (shl_sn_0 su hsu) rfl) fp_X8_15 (dk2 dF_181 DX8_copyFrom (i := 7) rfl rfl rfl) (fun H locs hw => ?_)
  have hT2 : TC (sI σ su 1 (nI us)) := TC.w hT (tcw_4_1 (tck_sn_0 su hsu) (by (try simp (disch := omega) only [ta_lt, ta_le, ta_eq, tb_lt, tb_le, tb_eq, tw, tnI, tsub1, tsv, tsb32, tn32 1 (by decide), tnj 1 (by decide), tl32 0 (by decide), tl64 0 (by decide)]); omega))
  have hF2 : frC (fun x y => (x = su + 1) ∨ (x = su ∧ y = 1)) σ (sI σ su 1 (nI us)) := frC.w frC.refl (by show (su = su + 1) ∨ (su = su ∧ 1 = 1); exact Or.inr (⟨rfl, rfl⟩))
  refine lv_aload_n hx hb (dkP dF_43 DX8_copyFrom (i := 8) rfl rfl) rfl (lv_at hl 1 rfl) ?_
  refine z_gr C0 hw sv 0 (sv + 1) (fk_of (shl_sn_0 sv hsv) rfl) fl_X8_9 (dk2 dF_180 DX8_copyFrom (i := 9) rfl rfl rfl) ?_
  refine lv_iconst (v := 0) hx hb (dkP dF_3 DX8_copyFrom (i := 10) rfl rfl) (by decide) ?_
  refine lv_aload_n hx hb (dkP dF_42 DX8_copyFrom (i := 11) rfl rfl) rfl (lv_at hl 0 rfl) ?_
  refine z_gr C0 hw su 0 (su + 1) (fk_of (shl_sn_0 su hsu) rfl) fl_X8_9 (dk2 dF_180 DX8_copyFrom (i := 12) rfl rfl rfl) ?_
  refine lv_iconst (v := 0) hx hb (dkP dF_3 DX8_copyFrom (i := 13) rfl rfl) (by decide) ?_
  refine lv_aload_n hx hb (dkP dF_42 DX8_copyFrom (i := 14) rfl rfl) rfl (lv_at hl 0 rfl) ?_
  refine z_gi C0 hw su 1 (fk_of (shl_sn_0 su hsu) rfl) fl_X8_15 (dk2 dF_180 DX8_copyFrom (i := 15) rfl rfl rfl) ?_
  refine z_top (y := (nI us)) rd_s ?_
  refine z_cpi (n0 := 1920) (n1 := 1920) C0 hw (sv + 1) (su + 1) 0 0 us (ak_of (shl_sn_1 sv hsv)) (ak_of (shl_sn_1 su hsu)) ac_X8_25 hl.1 (by omega) (by omega) (by decide) (by decide) (by decide) (by decide) (Nat.le_of_ble_eq_true rfl) (dk2 dF_184 DX8_copyFrom (i := 16) rfl rfl rfl) (fun H locs hw => ?_)
  have hT3 : TC (sCp (sI σ su 1 (nI us)) (sv + 1) (su + 1) 0 0 us) := TC.cp hT2 (fun k k2 x_ h => tc0 (tck_sn_1 su hsu))
  have hF3 : frC (fun x y => (x = su + 1) ∨ (x = su ∧ y = 1)) σ (sCp (sI σ su 1 (nI us)) (sv + 1) (su + 1) 0 0 us) := frC.cp hF2 (fun k => (by show ((su + 1) = su + 1) ∨ ((su + 1) = su ∧ k = 1); exact Or.inl rfl))
  exact z_vret C0 hr hlk hw (⟨((congrFun (sCp_o (by omega)) _).trans rd_s), (fun x hx1 => ((cp_in (by omega)).trans ((rd_n (by have hd_ := snD sv hsv su hsu; omega)).trans rfl))), hT3, hF3⟩) (dkP dF_177 DX8_copyFrom (i := 17) rfl rfl)
theorem tck_ot_7 : ∀ d, d ∈ otL → tcL.getD (d + 7) 0 = 0 := by decide +kernel
set_option maxRecDepth 100000 in
set_option maxHeartbeats 8000000 in
theorem c_X2_copyFrom (l : Launch) (G : va_G) (kc : KC) (ad : Nat → Nat) (σ : Sg) (t : Nat) (v : Nat) {zs us : Nat} (ht : t ∈ otL) (hv : v ∈ otL) (hne : t ≠ v) (hsz : σ.1 v 1 = nI zs) (hsz24 : zs ≤ 24) (hV : VOb σ v zs us) (hT : TC σ) : MV l G kc yX2_copyFrom cX2_copyFrom 2 2 47 [.ref (ad t), .ref (ad v)] shC ad σ (fun σ1 => (σ1.1 t 1 = nI zs) ∧ (VOb σ1 t zs us) ∧ TC σ1 ∧ frC (fun x y => (x = t + 1) ∨ (x = t + 2) ∨ (x = t + 3) ∨ (x = t + 4) ∨ (x = t + 5) ∨ (x = t + 6) ∨ (x = t + 7) ∨ (x = t + 8 ∧ y = 1) ∨ (x = t + 9) ∨ (x = t ∧ y = 0) ∨ (x = t ∧ y = 1)) σ σ1) := by
  intro sz
  refine z_body (y := yX2_copyFrom) (n := 2) (av := [.ref (ad t), .ref (ad v)]) (Qc := fun A => va_Qv (fun σ1 => (σ1.1 t 1 = nI zs) ∧ (VOb σ1 t zs us) ∧ TC σ1 ∧ frC (fun x y => (x = t + 1) ∨ (x = t + 2) ∨ (x = t + 3) ∨ (x = t + 4) ∨ (x = t + 5) ∨ (x = t + 6) ∨ (x = t + 7) ∨ (x = t + 8 ∧ y = 1) ∨ (x = t + 9) ∨ (x = t ∧ y = 0) ∨ (x = t ∧ y = 1)) σ σ1) (PoC G kc shC ad A) A) (plainFor_of_name (by decide)) (Nat.le_of_ble_eq_true rfl) (fun pr e s m below meth c A C0 hr hlk hnm hw hRo ls hl => ?_) sz
  have hx := C0.1
  have hb := C0.2.1
  have hown := C0.2.2.2.1
  have hts := C0.2.2.2.2.1
  have hl : lv_has ls 2 [(0, .ref (ad t)), (1, .ref (ad v))] := hl
  refine lv_aload_n hx hb (dkP dF_42 DX2_copyFrom (i := 0) rfl rfl) rfl (lv_at hl 0 rfl) ?_
  refine lv_aload_n hx hb (dkP dF_43 DX2_copyFrom (i := 1) rfl rfl) rfl (lv_at hl 1 rfl) ?_
  refine z_gi C0 hw v 0 (fk_of (shl_ot_0 v hv) rfl) fl_X2_53 (dk2 dF_180 DX2_copyFrom (i := 2) rfl rfl rfl) ?_
  obtain ⟨n1, hn1, en1⟩ := rngN (x := σ.1 v 0) (h := 1) (tcr_1_0 hT (tck_ot_0 v hv))
  refine z_top (y := nI n1) en1 ?_
  refine z_pz C0 hw t 0 (nI01 (by omega)) (fk_of (shl_ot_0 t ht) rfl) fp_X2_53 (dk2 dF_181 DX2_copyFrom (i := 3) rfl rfl rfl) (fun H locs hw => ?_)
  have hT2 : TC (sI σ t 0 (nI n1)) := TC.w hT (tcw_1_0 (tck_ot_0 t ht) (by (try simp (disch := omega) only [ta_lt, ta_le, ta_eq, tb_lt, tb_le, tb_eq, tw, tnI, tsub1, tsv, tsb32, tn32 1 (by decide), tnj 1 (by decide), tl32 0 (by decide), tl64 0 (by decide)]); omega))
  have hF2 : frC (fun x y => (x = t + 1) ∨ (x = t + 2) ∨ (x = t + 3) ∨ (x = t + 4) ∨ (x = t + 5) ∨ (x = t + 6) ∨ (x = t + 7) ∨ (x = t + 8 ∧ y = 1) ∨ (x = t + 9) ∨ (x = t ∧ y = 0) ∨ (x = t ∧ y = 1)) σ (sI σ t 0 (nI n1)) := frC.w frC.refl (by show (t = t + 1) ∨ (t = t + 2) ∨ (t = t + 3) ∨ (t = t + 4) ∨ (t = t + 5) ∨ (t = t + 6) ∨ (t = t + 7) ∨ (t = t + 8 ∧ 0 = 1) ∨ (t = t + 9) ∨ (t = t ∧ 0 = 0) ∨ (t = t ∧ 0 = 1); exact Or.inr (Or.inr (Or.inr (Or.inr (Or.inr (Or.inr (Or.inr (Or.inr (Or.inr (Or.inl (⟨rfl, rfl⟩)))))))))))
  refine lv_aload_n hx hb (dkP dF_42 DX2_copyFrom (i := 4) rfl rfl) rfl (lv_at hl 0 rfl) ?_
  refine lv_aload_n hx hb (dkP dF_43 DX2_copyFrom (i := 5) rfl rfl) rfl (lv_at hl 1 rfl) ?_
  refine z_gi C0 hw v 1 (fk_of (shl_ot_0 v hv) rfl) fl_X2_42 (dk2 dF_180 DX2_copyFrom (i := 6) rfl rfl rfl) ?_
  refine z_top (y := (nI zs)) ((rd_n (by have hd_ := otD v hv t ht; omega)).trans hsz) ?_
  refine z_pi C0 hw t 1 (fk_of (shl_ot_0 t ht) rfl) fp_X2_42 (dk2 dF_181 DX2_copyFrom (i := 7) rfl rfl rfl) (fun H locs hw => ?_)
  have hT3 : TC (sI (sI σ t 0 (nI n1)) t 1 (nI zs)) := TC.w hT2 (tcw_1_1 (tck_ot_0 t ht) (by (try simp (disch := omega) only [ta_lt, ta_le, ta_eq, tb_lt, tb_le, tb_eq, tw, tnI, tsub1, tsv, tsb32, tn32 1 (by decide), tnj 1 (by decide), tl32 0 (by decide), tl64 0 (by decide)]); omega))
  have hF3 : frC (fun x y => (x = t + 1) ∨ (x = t + 2) ∨ (x = t + 3) ∨ (x = t + 4) ∨ (x = t + 5) ∨ (x = t + 6) ∨ (x = t + 7) ∨ (x = t + 8 ∧ y = 1) ∨ (x = t + 9) ∨ (x = t ∧ y = 0) ∨ (x = t ∧ y = 1)) σ (sI (sI σ t 0 (nI n1)) t 1 (nI zs)) := frC.w hF2 (by show (t = t + 1) ∨ (t = t + 2) ∨ (t = t + 3) ∨ (t = t + 4) ∨ (t = t + 5) ∨ (t = t + 6) ∨ (t = t + 7) ∨ (t = t + 8 ∧ 1 = 1) ∨ (t = t + 9) ∨ (t = t ∧ 1 = 0) ∨ (t = t ∧ 1 = 1); exact Or.inr (Or.inr (Or.inr (Or.inr (Or.inr (Or.inr (Or.inr (Or.inr (Or.inr (Or.inr (⟨rfl, rfl⟩)))))))))))
  refine lv_aload_n hx hb (dkP dF_43 DX2_copyFrom (i := 8) rfl rfl) rfl (lv_at hl 1 rfl) ?_
  refine z_gr C0 hw v 2 (v + 1) (fk_of (shl_ot_0 v hv) rfl) fl_X2_11 (dk2 dF_180 DX2_copyFrom (i := 9) rfl rfl rfl) ?_
  refine lv_iconst (v := 0) hx hb (dkP dF_3 DX2_copyFrom (i := 10) rfl rfl) (by decide) ?_
  refine lv_aload_n hx hb (dkP dF_42 DX2_copyFrom (i := 11) rfl rfl) rfl (lv_at hl 0 rfl) ?_
  refine z_gr C0 hw t 2 (t + 1) (fk_of (shl_ot_0 t ht) rfl) fl_X2_11 (dk2 dF_180 DX2_copyFrom (i := 12) rfl rfl rfl) ?_
  refine lv_iconst (v := 0) hx hb (dkP dF_3 DX2_copyFrom (i := 13) rfl rfl) (by decide) ?_
  refine lv_aload_n hx hb (dkP dF_42 DX2_copyFrom (i := 14) rfl rfl) rfl (lv_at hl 0 rfl) ?_
  refine z_gi C0 hw t 1 (fk_of (shl_ot_0 t ht) rfl) fl_X2_42 (dk2 dF_180 DX2_copyFrom (i := 15) rfl rfl rfl) ?_
  refine z_top (y := (nI zs)) rd_s ?_
  refine z_cpi (n0 := 24) (n1 := 24) C0 hw (v + 1) (t + 1) 0 0 zs (ak_of (shl_ot_1 v hv)) (ak_of (shl_ot_1 t ht)) ac_X2_57 hl.1 (by omega) (by omega) (by decide) (by decide) (by decide) (by decide) (Nat.le_of_ble_eq_true rfl) (dk2 dF_184 DX2_copyFrom (i := 16) rfl rfl rfl) (fun H locs hw => ?_)
  have hT4 : TC (sCp (sI (sI σ t 0 (nI n1)) t 1 (nI zs)) (v + 1) (t + 1) 0 0 zs) := TC.cp hT3 (fun k k2 x_ h => tc0 (tck_ot_1 t ht))
  have hF4 : frC (fun x y => (x = t + 1) ∨ (x = t + 2) ∨ (x = t + 3) ∨ (x = t + 4) ∨ (x = t + 5) ∨ (x = t + 6) ∨ (x = t + 7) ∨ (x = t + 8 ∧ y = 1) ∨ (x = t + 9) ∨ (x = t ∧ y = 0) ∨ (x = t ∧ y = 1)) σ (sCp (sI (sI σ t 0 (nI n1)) t 1 (nI zs)) (v + 1) (t + 1) 0 0 zs) := frC.cp hF3 (fun k => (by show ((t + 1) = t + 1) ∨ ((t + 1) = t + 2) ∨ ((t + 1) = t + 3) ∨ ((t + 1) = t + 4) ∨ ((t + 1) = t + 5) ∨ ((t + 1) = t + 6) ∨ ((t + 1) = t + 7) ∨ ((t + 1) = t + 8 ∧ k = 1) ∨ ((t + 1) = t + 9) ∨ ((t + 1) = t ∧ k = 0) ∨ ((t + 1) = t ∧ k = 1); exact Or.inl rfl))
  refine lv_aload_n hx hb (dkP dF_43 DX2_copyFrom (i := 17) rfl rfl) rfl (lv_at hl 1 rfl) ?_
  refine z_gr C0 hw v 3 (v + 2) (fk_of (shl_ot_0 v hv) rfl) fl_X2_17 (dk2 dF_180 DX2_copyFrom (i := 18) rfl rfl rfl) ?_
  refine lv_iconst (v := 0) hx hb (dkP dF_3 DX2_copyFrom (i := 19) rfl rfl) (by decide) ?_
  refine lv_aload_n hx hb (dkP dF_42 DX2_copyFrom (i := 20) rfl rfl) rfl (lv_at hl 0 rfl) ?_
  refine z_gr C0 hw t 3 (t + 2) (fk_of (shl_ot_0 t ht) rfl) fl_X2_17 (dk2 dF_180 DX2_copyFrom (i := 21) rfl rfl rfl) ?_
  refine lv_iconst (v := 0) hx hb (dkP dF_3 DX2_copyFrom (i := 22) rfl rfl) (by decide) ?_
  refine lv_aload_n hx hb (dkP dF_42 DX2_copyFrom (i := 23) rfl rfl) rfl (lv_at hl 0 rfl) ?_
  refine z_gi C0 hw t 1 (fk_of (shl_ot_0 t ht) rfl) fl_X2_42 (dk2 dF_180 DX2_copyFrom (i := 24) rfl rfl rfl) ?_
  refine z_top (y := (nI zs)) ((congrFun (sCp_o (by omega)) _).trans rd_s) ?_
  refine z_cpi (n0 := 24) (n1 := 24) C0 hw (v + 2) (t + 2) 0 0 zs (ak_of (shl_ot_2 v hv)) (ak_of (shl_ot_2 t ht)) ac_X2_57 hl.1 (by omega) (by omega) (by decide) (by decide) (by decide) (by decide) (Nat.le_of_ble_eq_true rfl) (dk2 dF_184 DX2_copyFrom (i := 25) rfl rfl rfl) (fun H locs hw => ?_)
  have hT5 : TC (sCp (sCp (sI (sI σ t 0 (nI n1)) t 1 (nI zs)) (v + 1) (t + 1) 0 0 zs) (v + 2) (t + 2) 0 0 zs) := TC.cp hT4 (fun k k2 x_ h => tc0 (tck_ot_2 t ht))
  have hF5 : frC (fun x y => (x = t + 1) ∨ (x = t + 2) ∨ (x = t + 3) ∨ (x = t + 4) ∨ (x = t + 5) ∨ (x = t + 6) ∨ (x = t + 7) ∨ (x = t + 8 ∧ y = 1) ∨ (x = t + 9) ∨ (x = t ∧ y = 0) ∨ (x = t ∧ y = 1)) σ (sCp (sCp (sI (sI σ t 0 (nI n1)) t 1 (nI zs)) (v + 1) (t + 1) 0 0 zs) (v + 2) (t + 2) 0 0 zs) := frC.cp hF4 (fun k => (by show ((t + 2) = t + 1) ∨ ((t + 2) = t + 2) ∨ ((t + 2) = t + 3) ∨ ((t + 2) = t + 4) ∨ ((t + 2) = t + 5) ∨ ((t + 2) = t + 6) ∨ ((t + 2) = t + 7) ∨ ((t + 2) = t + 8 ∧ k = 1) ∨ ((t + 2) = t + 9) ∨ ((t + 2) = t ∧ k = 0) ∨ ((t + 2) = t ∧ k = 1); exact Or.inr (Or.inl rfl)))
  refine lv_aload_n hx hb (dkP dF_43 DX2_copyFrom (i := 26) rfl rfl) rfl (lv_at hl 1 rfl) ?_
  refine z_gr C0 hw v 4 (v + 3) (fk_of (shl_ot_0 v hv) rfl) fl_X2_20 (dk2 dF_180 DX2_copyFrom (i := 27) rfl rfl rfl) ?_
  refine lv_iconst (v := 0) hx hb (dkP dF_3 DX2_copyFrom (i := 28) rfl rfl) (by decide) ?_
  refine lv_aload_n hx hb (dkP dF_42 DX2_copyFrom (i := 29) rfl rfl) rfl (lv_at hl 0 rfl) ?_
  refine z_gr C0 hw t 4 (t + 3) (fk_of (shl_ot_0 t ht) rfl) fl_X2_20 (dk2 dF_180 DX2_copyFrom (i := 30) rfl rfl rfl) ?_
  refine lv_iconst (v := 0) hx hb (dkP dF_3 DX2_copyFrom (i := 31) rfl rfl) (by decide) ?_
  refine lv_aload_n hx hb (dkP dF_42 DX2_copyFrom (i := 32) rfl rfl) rfl (lv_at hl 0 rfl) ?_
  refine z_gi C0 hw t 1 (fk_of (shl_ot_0 t ht) rfl) fl_X2_42 (dk2 dF_180 DX2_copyFrom (i := 33) rfl rfl rfl) ?_
  refine z_top (y := (nI zs)) ((congrFun (sCp_o (by omega)) _).trans ((congrFun (sCp_o (by omega)) _).trans rd_s)) ?_
  refine z_cpi (n0 := 24) (n1 := 24) C0 hw (v + 3) (t + 3) 0 0 zs (ak_of (shl_ot_3 v hv)) (ak_of (shl_ot_3 t ht)) ac_X2_57 hl.1 (by omega) (by omega) (by decide) (by decide) (by decide) (by decide) (Nat.le_of_ble_eq_true rfl) (dk2 dF_184 DX2_copyFrom (i := 34) rfl rfl rfl) (fun H locs hw => ?_)
  have hT6 : TC (sCp (sCp (sCp (sI (sI σ t 0 (nI n1)) t 1 (nI zs)) (v + 1) (t + 1) 0 0 zs) (v + 2) (t + 2) 0 0 zs) (v + 3) (t + 3) 0 0 zs) := TC.cp hT5 (fun k k2 x_ h => tc0 (tck_ot_3 t ht))
  have hF6 : frC (fun x y => (x = t + 1) ∨ (x = t + 2) ∨ (x = t + 3) ∨ (x = t + 4) ∨ (x = t + 5) ∨ (x = t + 6) ∨ (x = t + 7) ∨ (x = t + 8 ∧ y = 1) ∨ (x = t + 9) ∨ (x = t ∧ y = 0) ∨ (x = t ∧ y = 1)) σ (sCp (sCp (sCp (sI (sI σ t 0 (nI n1)) t 1 (nI zs)) (v + 1) (t + 1) 0 0 zs) (v + 2) (t + 2) 0 0 zs) (v + 3) (t + 3) 0 0 zs) := frC.cp hF5 (fun k => (by show ((t + 3) = t + 1) ∨ ((t + 3) = t + 2) ∨ ((t + 3) = t + 3) ∨ ((t + 3) = t + 4) ∨ ((t + 3) = t + 5) ∨ ((t + 3) = t + 6) ∨ ((t + 3) = t + 7) ∨ ((t + 3) = t + 8 ∧ k = 1) ∨ ((t + 3) = t + 9) ∨ ((t + 3) = t ∧ k = 0) ∨ ((t + 3) = t ∧ k = 1); exact Or.inr (Or.inr (Or.inl rfl))))
  refine lv_aload_n hx hb (dkP dF_43 DX2_copyFrom (i := 35) rfl rfl) rfl (lv_at hl 1 rfl) ?_
  refine z_gr C0 hw v 5 (v + 4) (fk_of (shl_ot_0 v hv) rfl) fl_X2_23 (dk2 dF_180 DX2_copyFrom (i := 36) rfl rfl rfl) ?_
  refine lv_iconst (v := 0) hx hb (dkP dF_3 DX2_copyFrom (i := 37) rfl rfl) (by decide) ?_
  refine lv_aload_n hx hb (dkP dF_42 DX2_copyFrom (i := 38) rfl rfl) rfl (lv_at hl 0 rfl) ?_
  refine z_gr C0 hw t 5 (t + 4) (fk_of (shl_ot_0 t ht) rfl) fl_X2_23 (dk2 dF_180 DX2_copyFrom (i := 39) rfl rfl rfl) ?_
  refine lv_iconst (v := 0) hx hb (dkP dF_3 DX2_copyFrom (i := 40) rfl rfl) (by decide) ?_
  refine lv_aload_n hx hb (dkP dF_42 DX2_copyFrom (i := 41) rfl rfl) rfl (lv_at hl 0 rfl) ?_
  refine z_gi C0 hw t 1 (fk_of (shl_ot_0 t ht) rfl) fl_X2_42 (dk2 dF_180 DX2_copyFrom (i := 42) rfl rfl rfl) ?_
  refine z_top (y := (nI zs)) ((congrFun (sCp_o (by omega)) _).trans ((congrFun (sCp_o (by omega)) _).trans ((congrFun (sCp_o (by omega)) _).trans rd_s))) ?_
  refine z_cpi (n0 := 24) (n1 := 24) C0 hw (v + 4) (t + 4) 0 0 zs (ak_of (shl_ot_4 v hv)) (ak_of (shl_ot_4 t ht)) ac_X2_57 hl.1 (by omega) (by omega) (by decide) (by decide) (by decide) (by decide) (Nat.le_of_ble_eq_true rfl) (dk2 dF_184 DX2_copyFrom (i := 43) rfl rfl rfl) (fun H locs hw => ?_)
  have hT7 : TC (sCp (sCp (sCp (sCp (sI (sI σ t 0 (nI n1)) t 1 (nI zs)) (v + 1) (t + 1) 0 0 zs) (v + 2) (t + 2) 0 0 zs) (v + 3) (t + 3) 0 0 zs) (v + 4) (t + 4) 0 0 zs) := TC.cp hT6 (fun k k2 x_ h => tc0 (tck_ot_4 t ht))
  have hF7 : frC (fun x y => (x = t + 1) ∨ (x = t + 2) ∨ (x = t + 3) ∨ (x = t + 4) ∨ (x = t + 5) ∨ (x = t + 6) ∨ (x = t + 7) ∨ (x = t + 8 ∧ y = 1) ∨ (x = t + 9) ∨ (x = t ∧ y = 0) ∨ (x = t ∧ y = 1)) σ (sCp (sCp (sCp (sCp (sI (sI σ t 0 (nI n1)) t 1 (nI zs)) (v + 1) (t + 1) 0 0 zs) (v + 2) (t + 2) 0 0 zs) (v + 3) (t + 3) 0 0 zs) (v + 4) (t + 4) 0 0 zs) := frC.cp hF6 (fun k => (by show ((t + 4) = t + 1) ∨ ((t + 4) = t + 2) ∨ ((t + 4) = t + 3) ∨ ((t + 4) = t + 4) ∨ ((t + 4) = t + 5) ∨ ((t + 4) = t + 6) ∨ ((t + 4) = t + 7) ∨ ((t + 4) = t + 8 ∧ k = 1) ∨ ((t + 4) = t + 9) ∨ ((t + 4) = t ∧ k = 0) ∨ ((t + 4) = t ∧ k = 1); exact Or.inr (Or.inr (Or.inr (Or.inl rfl)))))
  refine lv_aload_n hx hb (dkP dF_43 DX2_copyFrom (i := 44) rfl rfl) rfl (lv_at hl 1 rfl) ?_
  refine z_gr C0 hw v 6 (v + 5) (fk_of (shl_ot_0 v hv) rfl) fl_X2_26 (dk2 dF_180 DX2_copyFrom (i := 45) rfl rfl rfl) ?_
  refine lv_iconst (v := 0) hx hb (dkP dF_3 DX2_copyFrom (i := 46) rfl rfl) (by decide) ?_
  refine lv_aload_n hx hb (dkP dF_42 DX2_copyFrom (i := 47) rfl rfl) rfl (lv_at hl 0 rfl) ?_
  refine z_gr C0 hw t 6 (t + 5) (fk_of (shl_ot_0 t ht) rfl) fl_X2_26 (dk2 dF_180 DX2_copyFrom (i := 48) rfl rfl rfl) ?_
  refine lv_iconst (v := 0) hx hb (dkP dF_3 DX2_copyFrom (i := 49) rfl rfl) (by decide) ?_
  refine lv_aload_n hx hb (dkP dF_42 DX2_copyFrom (i := 50) rfl rfl) rfl (lv_at hl 0 rfl) ?_
  refine z_gi C0 hw t 1 (fk_of (shl_ot_0 t ht) rfl) fl_X2_42 (dk2 dF_180 DX2_copyFrom (i := 51) rfl rfl rfl) ?_
  refine z_top (y := (nI zs)) ((congrFun (sCp_o (by omega)) _).trans ((congrFun (sCp_o (by omega)) _).trans ((congrFun (sCp_o (by omega)) _).trans ((congrFun (sCp_o (by omega)) _).trans rd_s)))) ?_
  refine z_cpi (n0 := 24) (n1 := 24) C0 hw (v + 5) (t + 5) 0 0 zs (ak_of (shl_ot_5 v hv)) (ak_of (shl_ot_5 t ht)) ac_X2_57 hl.1 (by omega) (by omega) (by decide) (by decide) (by decide) (by decide) (Nat.le_of_ble_eq_true rfl) (dk2 dF_184 DX2_copyFrom (i := 52) rfl rfl rfl) (fun H locs hw => ?_)
  have hT8 : TC (sCp (sCp (sCp (sCp (sCp (sI (sI σ t 0 (nI n1)) t 1 (nI zs)) (v + 1) (t + 1) 0 0 zs) (v + 2) (t + 2) 0 0 zs) (v + 3) (t + 3) 0 0 zs) (v + 4) (t + 4) 0 0 zs) (v + 5) (t + 5) 0 0 zs) := TC.cp hT7 (fun k k2 x_ h => tc0 (tck_ot_5 t ht))
  have hF8 : frC (fun x y => (x = t + 1) ∨ (x = t + 2) ∨ (x = t + 3) ∨ (x = t + 4) ∨ (x = t + 5) ∨ (x = t + 6) ∨ (x = t + 7) ∨ (x = t + 8 ∧ y = 1) ∨ (x = t + 9) ∨ (x = t ∧ y = 0) ∨ (x = t ∧ y = 1)) σ (sCp (sCp (sCp (sCp (sCp (sI (sI σ t 0 (nI n1)) t 1 (nI zs)) (v + 1) (t + 1) 0 0 zs) (v + 2) (t + 2) 0 0 zs) (v + 3) (t + 3) 0 0 zs) (v + 4) (t + 4) 0 0 zs) (v + 5) (t + 5) 0 0 zs) := frC.cp hF7 (fun k => (by show ((t + 5) = t + 1) ∨ ((t + 5) = t + 2) ∨ ((t + 5) = t + 3) ∨ ((t + 5) = t + 4) ∨ ((t + 5) = t + 5) ∨ ((t + 5) = t + 6) ∨ ((t + 5) = t + 7) ∨ ((t + 5) = t + 8 ∧ k = 1) ∨ ((t + 5) = t + 9) ∨ ((t + 5) = t ∧ k = 0) ∨ ((t + 5) = t ∧ k = 1); exact Or.inr (Or.inr (Or.inr (Or.inr (Or.inl rfl))))))
  refine lv_aload_n hx hb (dkP dF_43 DX2_copyFrom (i := 53) rfl rfl) rfl (lv_at hl 1 rfl) ?_
  refine z_gr C0 hw v 7 (v + 6) (fk_of (shl_ot_0 v hv) rfl) fl_X2_29 (dk2 dF_180 DX2_copyFrom (i := 54) rfl rfl rfl) ?_
  refine lv_iconst (v := 0) hx hb (dkP dF_3 DX2_copyFrom (i := 55) rfl rfl) (by decide) ?_
  refine lv_aload_n hx hb (dkP dF_42 DX2_copyFrom (i := 56) rfl rfl) rfl (lv_at hl 0 rfl) ?_
  refine z_gr C0 hw t 7 (t + 6) (fk_of (shl_ot_0 t ht) rfl) fl_X2_29 (dk2 dF_180 DX2_copyFrom (i := 57) rfl rfl rfl) ?_
  refine lv_iconst (v := 0) hx hb (dkP dF_3 DX2_copyFrom (i := 58) rfl rfl) (by decide) ?_
  refine lv_aload_n hx hb (dkP dF_42 DX2_copyFrom (i := 59) rfl rfl) rfl (lv_at hl 0 rfl) ?_
  refine z_gi C0 hw t 1 (fk_of (shl_ot_0 t ht) rfl) fl_X2_42 (dk2 dF_180 DX2_copyFrom (i := 60) rfl rfl rfl) ?_
  refine z_top (y := (nI zs)) ((congrFun (sCp_o (by omega)) _).trans ((congrFun (sCp_o (by omega)) _).trans ((congrFun (sCp_o (by omega)) _).trans ((congrFun (sCp_o (by omega)) _).trans ((congrFun (sCp_o (by omega)) _).trans rd_s))))) ?_
  refine z_cpi (n0 := 24) (n1 := 24) C0 hw (v + 6) (t + 6) 0 0 zs (ak_of (shl_ot_6 v hv)) (ak_of (shl_ot_6 t ht)) ac_X2_57 hl.1 (by omega) (by omega) (by decide) (by decide) (by decide) (by decide) (Nat.le_of_ble_eq_true rfl) (dk2 dF_184 DX2_copyFrom (i := 61) rfl rfl rfl) (fun H locs hw => ?_)
  have hT9 : TC (sCp (sCp (sCp (sCp (sCp (sCp (sI (sI σ t 0 (nI n1)) t 1 (nI zs)) (v + 1) (t + 1) 0 0 zs) (v + 2) (t + 2) 0 0 zs) (v + 3) (t + 3) 0 0 zs) (v + 4) (t + 4) 0 0 zs) (v + 5) (t + 5) 0 0 zs) (v + 6) (t + 6) 0 0 zs) := TC.cp hT8 (fun k k2 x_ h => tc0 (tck_ot_6 t ht))
  have hF9 : frC (fun x y => (x = t + 1) ∨ (x = t + 2) ∨ (x = t + 3) ∨ (x = t + 4) ∨ (x = t + 5) ∨ (x = t + 6) ∨ (x = t + 7) ∨ (x = t + 8 ∧ y = 1) ∨ (x = t + 9) ∨ (x = t ∧ y = 0) ∨ (x = t ∧ y = 1)) σ (sCp (sCp (sCp (sCp (sCp (sCp (sI (sI σ t 0 (nI n1)) t 1 (nI zs)) (v + 1) (t + 1) 0 0 zs) (v + 2) (t + 2) 0 0 zs) (v + 3) (t + 3) 0 0 zs) (v + 4) (t + 4) 0 0 zs) (v + 5) (t + 5) 0 0 zs) (v + 6) (t + 6) 0 0 zs) := frC.cp hF8 (fun k => (by show ((t + 6) = t + 1) ∨ ((t + 6) = t + 2) ∨ ((t + 6) = t + 3) ∨ ((t + 6) = t + 4) ∨ ((t + 6) = t + 5) ∨ ((t + 6) = t + 6) ∨ ((t + 6) = t + 7) ∨ ((t + 6) = t + 8 ∧ k = 1) ∨ ((t + 6) = t + 9) ∨ ((t + 6) = t ∧ k = 0) ∨ ((t + 6) = t ∧ k = 1); exact Or.inr (Or.inr (Or.inr (Or.inr (Or.inr (Or.inl rfl)))))))
  refine lv_aload_n hx hb (dkP dF_43 DX2_copyFrom (i := 62) rfl rfl) rfl (lv_at hl 1 rfl) ?_
  refine z_gr C0 hw v 8 (v + 7) (fk_of (shl_ot_0 v hv) rfl) fl_X2_32 (dk2 dF_180 DX2_copyFrom (i := 63) rfl rfl rfl) ?_
  refine lv_iconst (v := 0) hx hb (dkP dF_3 DX2_copyFrom (i := 64) rfl rfl) (by decide) ?_
  refine lv_aload_n hx hb (dkP dF_42 DX2_copyFrom (i := 65) rfl rfl) rfl (lv_at hl 0 rfl) ?_
  refine z_gr C0 hw t 8 (t + 7) (fk_of (shl_ot_0 t ht) rfl) fl_X2_32 (dk2 dF_180 DX2_copyFrom (i := 66) rfl rfl rfl) ?_
  refine lv_iconst (v := 0) hx hb (dkP dF_3 DX2_copyFrom (i := 67) rfl rfl) (by decide) ?_
  refine lv_aload_n hx hb (dkP dF_42 DX2_copyFrom (i := 68) rfl rfl) rfl (lv_at hl 0 rfl) ?_
  refine z_gi C0 hw t 1 (fk_of (shl_ot_0 t ht) rfl) fl_X2_42 (dk2 dF_180 DX2_copyFrom (i := 69) rfl rfl rfl) ?_
  refine z_top (y := (nI zs)) ((congrFun (sCp_o (by omega)) _).trans ((congrFun (sCp_o (by omega)) _).trans ((congrFun (sCp_o (by omega)) _).trans ((congrFun (sCp_o (by omega)) _).trans ((congrFun (sCp_o (by omega)) _).trans ((congrFun (sCp_o (by omega)) _).trans rd_s)))))) ?_
  refine z_cpi (n0 := 24) (n1 := 24) C0 hw (v + 7) (t + 7) 0 0 zs (ak_of (shl_ot_7 v hv)) (ak_of (shl_ot_7 t ht)) ac_X2_57 hl.1 (by omega) (by omega) (by decide) (by decide) (by decide) (by decide) (Nat.le_of_ble_eq_true rfl) (dk2 dF_184 DX2_copyFrom (i := 70) rfl rfl rfl) (fun H locs hw => ?_)
  have hT10 : TC (sCp (sCp (sCp (sCp (sCp (sCp (sCp (sI (sI σ t 0 (nI n1)) t 1 (nI zs)) (v + 1) (t + 1) 0 0 zs) (v + 2) (t + 2) 0 0 zs) (v + 3) (t + 3) 0 0 zs) (v + 4) (t + 4) 0 0 zs) (v + 5) (t + 5) 0 0 zs) (v + 6) (t + 6) 0 0 zs) (v + 7) (t + 7) 0 0 zs) := TC.cp hT9 (fun k k2 x_ h => tc0 (tck_ot_7 t ht))
  have hF10 : frC (fun x y => (x = t + 1) ∨ (x = t + 2) ∨ (x = t + 3) ∨ (x = t + 4) ∨ (x = t + 5) ∨ (x = t + 6) ∨ (x = t + 7) ∨ (x = t + 8 ∧ y = 1) ∨ (x = t + 9) ∨ (x = t ∧ y = 0) ∨ (x = t ∧ y = 1)) σ (sCp (sCp (sCp (sCp (sCp (sCp (sCp (sI (sI σ t 0 (nI n1)) t 1 (nI zs)) (v + 1) (t + 1) 0 0 zs) (v + 2) (t + 2) 0 0 zs) (v + 3) (t + 3) 0 0 zs) (v + 4) (t + 4) 0 0 zs) (v + 5) (t + 5) 0 0 zs) (v + 6) (t + 6) 0 0 zs) (v + 7) (t + 7) 0 0 zs) := frC.cp hF9 (fun k => (by show ((t + 7) = t + 1) ∨ ((t + 7) = t + 2) ∨ ((t + 7) = t + 3) ∨ ((t + 7) = t + 4) ∨ ((t + 7) = t + 5) ∨ ((t + 7) = t + 6) ∨ ((t + 7) = t + 7) ∨ ((t + 7) = t + 8 ∧ k = 1) ∨ ((t + 7) = t + 9) ∨ ((t + 7) = t ∧ k = 0) ∨ ((t + 7) = t ∧ k = 1); exact Or.inr (Or.inr (Or.inr (Or.inr (Or.inr (Or.inr (Or.inl rfl))))))))
  refine lv_aload_n hx hb (dkP dF_42 DX2_copyFrom (i := 71) rfl rfl) rfl (lv_at hl 0 rfl) ?_
  refine z_gr C0 hw t 9 (t + 8) (fk_of (shl_ot_0 t ht) rfl) fl_X2_38 (dk2 dF_180 DX2_copyFrom (i := 72) rfl rfl rfl) ?_
  refine lv_aload_n hx hb (dkP dF_43 DX2_copyFrom (i := 73) rfl rfl) rfl (lv_at hl 1 rfl) ?_
  refine z_gr C0 hw v 9 (v + 8) (fk_of (shl_ot_0 v hv) rfl) fl_X2_38 (dk2 dF_180 DX2_copyFrom (i := 74) rfl rfl rfl) ?_
  refine zk_V hw (zr_V (As := [.ref (ad (v + 8))]) (rest := []) C0 (c_X8_copyFrom_o l G kc ad (sCp (sCp (sCp (sCp (sCp (sCp (sCp (sI (sI σ t 0 (nI n1)) t 1 (nI zs)) (v + 1) (t + 1) 0 0 zs) (v + 2) (t + 2) 0 0 zs) (v + 3) (t + 3) 0 0 zs) (v + 4) (t + 4) 0 0 zs) (v + 5) (t + 5) 0 0 zs) (v + 6) (t + 6) 0 0 zs) (v + 7) (t + 7) 0 0 zs) (t + 8) (v + 8) (otso t ht) (otso v hv) (by omega) (((congrFun (sCp_o (by have hd_ := otD v hv t ht; omega)) _).trans ((congrFun (sCp_o (by have hd_ := otD v hv t ht; omega)) _).trans ((congrFun (sCp_o (by have hd_ := otD v hv t ht; omega)) _).trans ((congrFun (sCp_o (by have hd_ := otD v hv t ht; omega)) _).trans ((congrFun (sCp_o (by have hd_ := otD v hv t ht; omega)) _).trans ((congrFun (sCp_o (by have hd_ := otD v hv t ht; omega)) _).trans ((congrFun (sCp_o (by have hd_ := otD v hv t ht; omega)) _).trans ((rd_n (by have hd_ := otD v hv t ht; omega)).trans ((rd_n (by have hd_ := otD v hv t ht; omega)).trans rfl))))))))).trans hV.2.1) hV.1 hT10 _) cv_X8_copyFrom lk_X2_63 (zp_V C0 hRo hw (t + 8) (shl_ot_8 t ht) rfl rfl) rfl hl.1 rfl ⟨by decide, by decide⟩ (Nat.le_of_ble_eq_true rfl) (dk2 dF_182 DX2_copyFrom (i := 75) rfl rfl rfl) ⟨Nat.le_refl _, Nat.le_refl _⟩) (fun s11 H locs hp hw => ?_)
  obtain ⟨f11_0, f11_1, hT11, hG11⟩ := hp
  have hF11 : frC (fun x y => (x = t + 1) ∨ (x = t + 2) ∨ (x = t + 3) ∨ (x = t + 4) ∨ (x = t + 5) ∨ (x = t + 6) ∨ (x = t + 7) ∨ (x = t + 8 ∧ y = 1) ∨ (x = t + 9) ∨ (x = t ∧ y = 0) ∨ (x = t ∧ y = 1)) σ s11 := frC.t hF10 hG11 (fun x y h => by have h : (x = t + 9) ∨ (x = t + 8 ∧ y = 1) := h; show (x = t + 1) ∨ (x = t + 2) ∨ (x = t + 3) ∨ (x = t + 4) ∨ (x = t + 5) ∨ (x = t + 6) ∨ (x = t + 7) ∨ (x = t + 8 ∧ y = 1) ∨ (x = t + 9) ∨ (x = t ∧ y = 0) ∨ (x = t ∧ y = 1); rcases h with h | h; (· exact Or.inr (Or.inr (Or.inr (Or.inr (Or.inr (Or.inr (Or.inr (Or.inr (Or.inl h))))))))); (· exact Or.inr (Or.inr (Or.inr (Or.inr (Or.inr (Or.inr (Or.inr (Or.inl h)))))))))
  exact z_vret C0 hr hlk hw (⟨((hG11.1 t 1 (by show ¬ ((t = t + 9) ∨ (t = t + 8 ∧ 1 = 1)); intro h_; rcases h_ with h_ | h_; (· omega); (· omega))).trans ((congrFun (sCp_o (by omega)) _).trans ((congrFun (sCp_o (by omega)) _).trans ((congrFun (sCp_o (by omega)) _).trans ((congrFun (sCp_o (by omega)) _).trans ((congrFun (sCp_o (by omega)) _).trans ((congrFun (sCp_o (by omega)) _).trans ((congrFun (sCp_o (by omega)) _).trans rd_s)))))))), (hV.cp (fun n hn => ⟨((hG11.1 (t + 2) n (by show ¬ (((t + 2) = t + 9) ∨ ((t + 2) = t + 8 ∧ n = 1)); intro h_; rcases h_ with h_ | h_; (· omega); (· omega))).trans ((congrFun (sCp_o (by omega)) _).trans ((congrFun (sCp_o (by omega)) _).trans ((congrFun (sCp_o (by omega)) _).trans ((congrFun (sCp_o (by omega)) _).trans ((congrFun (sCp_o (by omega)) _).trans ((cp_in (by omega)).trans ((congrFun (sCp_o (by have hd_ := otD v hv t ht; omega)) _).trans ((rd_n (by have hd_ := otD v hv t ht; omega)).trans ((rd_n (by have hd_ := otD v hv t ht; omega)).trans rfl)))))))))), ((hG11.1 (t + 3) n (by show ¬ (((t + 3) = t + 9) ∨ ((t + 3) = t + 8 ∧ n = 1)); intro h_; rcases h_ with h_ | h_; (· omega); (· omega))).trans ((congrFun (sCp_o (by omega)) _).trans ((congrFun (sCp_o (by omega)) _).trans ((congrFun (sCp_o (by omega)) _).trans ((congrFun (sCp_o (by omega)) _).trans ((cp_in (by omega)).trans ((congrFun (sCp_o (by have hd_ := otD v hv t ht; omega)) _).trans ((congrFun (sCp_o (by have hd_ := otD v hv t ht; omega)) _).trans ((rd_n (by have hd_ := otD v hv t ht; omega)).trans ((rd_n (by have hd_ := otD v hv t ht; omega)).trans rfl)))))))))), ((hG11.1 (t + 6) n (by show ¬ (((t + 6) = t + 9) ∨ ((t + 6) = t + 8 ∧ n = 1)); intro h_; rcases h_ with h_ | h_; (· omega); (· omega))).trans ((congrFun (sCp_o (by omega)) _).trans ((cp_in (by omega)).trans ((congrFun (sCp_o (by have hd_ := otD v hv t ht; omega)) _).trans ((congrFun (sCp_o (by have hd_ := otD v hv t ht; omega)) _).trans ((congrFun (sCp_o (by have hd_ := otD v hv t ht; omega)) _).trans ((congrFun (sCp_o (by have hd_ := otD v hv t ht; omega)) _).trans ((congrFun (sCp_o (by have hd_ := otD v hv t ht; omega)) _).trans ((rd_n (by have hd_ := otD v hv t ht; omega)).trans ((rd_n (by have hd_ := otD v hv t ht; omega)).trans rfl)))))))))), ((hG11.1 (t + 7) n (by show ¬ (((t + 7) = t + 9) ∨ ((t + 7) = t + 8 ∧ n = 1)); intro h_; rcases h_ with h_ | h_; (· omega); (· omega))).trans ((cp_in (by omega)).trans ((congrFun (sCp_o (by have hd_ := otD v hv t ht; omega)) _).trans ((congrFun (sCp_o (by have hd_ := otD v hv t ht; omega)) _).trans ((congrFun (sCp_o (by have hd_ := otD v hv t ht; omega)) _).trans ((congrFun (sCp_o (by have hd_ := otD v hv t ht; omega)) _).trans ((congrFun (sCp_o (by have hd_ := otD v hv t ht; omega)) _).trans ((congrFun (sCp_o (by have hd_ := otD v hv t ht; omega)) _).trans ((rd_n (by have hd_ := otD v hv t ht; omega)).trans ((rd_n (by have hd_ := otD v hv t ht; omega)).trans rfl))))))))))⟩) (fun x hx1 => (f11_1 x hx1).trans ((congrFun (sCp_o (by have hd_ := otD v hv t ht; omega)) _).trans ((congrFun (sCp_o (by have hd_ := otD v hv t ht; omega)) _).trans ((congrFun (sCp_o (by have hd_ := otD v hv t ht; omega)) _).trans ((congrFun (sCp_o (by have hd_ := otD v hv t ht; omega)) _).trans ((congrFun (sCp_o (by have hd_ := otD v hv t ht; omega)) _).trans ((congrFun (sCp_o (by have hd_ := otD v hv t ht; omega)) _).trans ((congrFun (sCp_o (by have hd_ := otD v hv t ht; omega)) _).trans ((rd_n (by have hd_ := otD v hv t ht; omega)).trans ((rd_n (by have hd_ := otD v hv t ht; omega)).trans rfl)))))))))) f11_0), hT11, hF11⟩) (dkP dF_177 DX2_copyFrom (i := 76) rfl rfl)
set_option maxRecDepth 100000 in
set_option maxHeartbeats 8000000 in
theorem c_X1_copyFrom (l : Launch) (G : va_G) (kc : KC) (ad : Nat → Nat) (σ : Sg) (u : Nat) (v : Nat) {zs us : Nat} {K_ : Nat → Prop} (hu : u ∈ ntL) (hv : v ∈ ntL) (hne : u ≠ v) (hsz : σ.1 v 3 = nI zs) (hz40 : zs ≤ 40) (hN : VNb σ v zs us K_) (hT : TC σ) : MV l G kc yX1_copyFrom cX1_copyFrom 2 2 47 [.ref (ad u), .ref (ad v)] shC ad σ (fun σ1 => (σ1.1 u 3 = nI zs) ∧ (VNb σ1 u zs us K_) ∧ TC σ1 ∧ frC (fun x y => (x = u + 1) ∨ (x = u + 2) ∨ (x = u + 3) ∨ (x = u + 4) ∨ (x = u + 5) ∨ (x = u + 6 ∧ y = 1) ∨ (x = u + 7) ∨ (x = u ∧ y = 0) ∨ (x = u ∧ y = 1) ∨ (x = u ∧ y = 2) ∨ (x = u ∧ y = 3)) σ σ1) := by
  intro sz
  refine z_body (y := yX1_copyFrom) (n := 2) (av := [.ref (ad u), .ref (ad v)]) (Qc := fun A => va_Qv (fun σ1 => (σ1.1 u 3 = nI zs) ∧ (VNb σ1 u zs us K_) ∧ TC σ1 ∧ frC (fun x y => (x = u + 1) ∨ (x = u + 2) ∨ (x = u + 3) ∨ (x = u + 4) ∨ (x = u + 5) ∨ (x = u + 6 ∧ y = 1) ∨ (x = u + 7) ∨ (x = u ∧ y = 0) ∨ (x = u ∧ y = 1) ∨ (x = u ∧ y = 2) ∨ (x = u ∧ y = 3)) σ σ1) (PoC G kc shC ad A) A) (plainFor_of_name (by decide)) (Nat.le_of_ble_eq_true rfl) (fun pr e s m below meth c A C0 hr hlk hnm hw hRo ls hl => ?_) sz
  have hx := C0.1
  have hb := C0.2.1
  have hown := C0.2.2.2.1
  have hts := C0.2.2.2.2.1
  have hl : lv_has ls 2 [(0, .ref (ad u)), (1, .ref (ad v))] := hl
  refine lv_aload_n hx hb (dkP dF_42 DX1_copyFrom (i := 0) rfl rfl) rfl (lv_at hl 0 rfl) ?_
  refine lv_aload_n hx hb (dkP dF_43 DX1_copyFrom (i := 1) rfl rfl) rfl (lv_at hl 1 rfl) ?_
  refine z_gi C0 hw v 0 (fk_of (shl_nt_0 v hv) rfl) fl_X1_51 (dk2 dF_180 DX1_copyFrom (i := 2) rfl rfl rfl) ?_
  obtain ⟨n1, hn1, en1⟩ := rngN (x := σ.1 v 0) (h := 1) (tcr_2_0 hT (tck_nt_0 v hv))
  refine z_top (y := nI n1) en1 ?_
  refine z_pz C0 hw u 0 (nI01 (by omega)) (fk_of (shl_nt_0 u hu) rfl) fp_X1_51 (dk2 dF_181 DX1_copyFrom (i := 3) rfl rfl rfl) (fun H locs hw => ?_)
  have hT2 : TC (sI σ u 0 (nI n1)) := TC.w hT (tcw_2_0 (tck_nt_0 u hu) (by (try simp (disch := omega) only [ta_lt, ta_le, ta_eq, tb_lt, tb_le, tb_eq, tw, tnI, tsub1, tsv, tsb32, tn32 1 (by decide), tnj 1 (by decide), tl32 0 (by decide), tl64 0 (by decide)]); omega))
  have hF2 : frC (fun x y => (x = u + 1) ∨ (x = u + 2) ∨ (x = u + 3) ∨ (x = u + 4) ∨ (x = u + 5) ∨ (x = u + 6 ∧ y = 1) ∨ (x = u + 7) ∨ (x = u ∧ y = 0) ∨ (x = u ∧ y = 1) ∨ (x = u ∧ y = 2) ∨ (x = u ∧ y = 3)) σ (sI σ u 0 (nI n1)) := frC.w frC.refl (by show (u = u + 1) ∨ (u = u + 2) ∨ (u = u + 3) ∨ (u = u + 4) ∨ (u = u + 5) ∨ (u = u + 6 ∧ 0 = 1) ∨ (u = u + 7) ∨ (u = u ∧ 0 = 0) ∨ (u = u ∧ 0 = 1) ∨ (u = u ∧ 0 = 2) ∨ (u = u ∧ 0 = 3); exact Or.inr (Or.inr (Or.inr (Or.inr (Or.inr (Or.inr (Or.inr (Or.inl (⟨rfl, rfl⟩)))))))))
  refine lv_aload_n hx hb (dkP dF_42 DX1_copyFrom (i := 4) rfl rfl) rfl (lv_at hl 0 rfl) ?_
  refine lv_aload_n hx hb (dkP dF_43 DX1_copyFrom (i := 5) rfl rfl) rfl (lv_at hl 1 rfl) ?_
  refine z_gi C0 hw v 1 (fk_of (shl_nt_0 v hv) rfl) fl_X1_36 (dk2 dF_180 DX1_copyFrom (i := 6) rfl rfl rfl) ?_
  obtain ⟨n3, hn3, en3⟩ := rngN (x := (sI σ u 0 (nI n1)).1 v 1) (h := 1) (tcr_2_1 hT2 (tck_nt_0 v hv))
  refine z_top (y := nI n3) en3 ?_
  refine z_pz C0 hw u 1 (nI01 (by omega)) (fk_of (shl_nt_0 u hu) rfl) fp_X1_36 (dk2 dF_181 DX1_copyFrom (i := 7) rfl rfl rfl) (fun H locs hw => ?_)
  have hT4 : TC (sI (sI σ u 0 (nI n1)) u 1 (nI n3)) := TC.w hT2 (tcw_2_1 (tck_nt_0 u hu) (by (try simp (disch := omega) only [ta_lt, ta_le, ta_eq, tb_lt, tb_le, tb_eq, tw, tnI, tsub1, tsv, tsb32, tn32 1 (by decide), tnj 1 (by decide), tl32 0 (by decide), tl64 0 (by decide)]); omega))
  have hF4 : frC (fun x y => (x = u + 1) ∨ (x = u + 2) ∨ (x = u + 3) ∨ (x = u + 4) ∨ (x = u + 5) ∨ (x = u + 6 ∧ y = 1) ∨ (x = u + 7) ∨ (x = u ∧ y = 0) ∨ (x = u ∧ y = 1) ∨ (x = u ∧ y = 2) ∨ (x = u ∧ y = 3)) σ (sI (sI σ u 0 (nI n1)) u 1 (nI n3)) := frC.w hF2 (by show (u = u + 1) ∨ (u = u + 2) ∨ (u = u + 3) ∨ (u = u + 4) ∨ (u = u + 5) ∨ (u = u + 6 ∧ 1 = 1) ∨ (u = u + 7) ∨ (u = u ∧ 1 = 0) ∨ (u = u ∧ 1 = 1) ∨ (u = u ∧ 1 = 2) ∨ (u = u ∧ 1 = 3); exact Or.inr (Or.inr (Or.inr (Or.inr (Or.inr (Or.inr (Or.inr (Or.inr (Or.inl (⟨rfl, rfl⟩))))))))))
  refine lv_aload_n hx hb (dkP dF_42 DX1_copyFrom (i := 8) rfl rfl) rfl (lv_at hl 0 rfl) ?_
  refine lv_aload_n hx hb (dkP dF_43 DX1_copyFrom (i := 9) rfl rfl) rfl (lv_at hl 1 rfl) ?_
  refine z_gi C0 hw v 2 (fk_of (shl_nt_0 v hv) rfl) fl_X1_48 (dk2 dF_180 DX1_copyFrom (i := 10) rfl rfl rfl) ?_
  obtain ⟨v5, ev5⟩ : ∃ y : Int32, (sI (sI σ u 0 (nI n1)) u 1 (nI n3)).1 v 2 = y := ⟨_, rfl⟩
  refine z_top (y := v5) ev5 ?_
  refine z_pi C0 hw u 2 (fk_of (shl_nt_0 u hu) rfl) fp_X1_48 (dk2 dF_181 DX1_copyFrom (i := 11) rfl rfl rfl) (fun H locs hw => ?_)
  have hT6 : TC (sI (sI (sI σ u 0 (nI n1)) u 1 (nI n3)) u 2 v5) := TC.w hT4 (tcw_2_2 (tck_nt_0 u hu))
  have hF6 : frC (fun x y => (x = u + 1) ∨ (x = u + 2) ∨ (x = u + 3) ∨ (x = u + 4) ∨ (x = u + 5) ∨ (x = u + 6 ∧ y = 1) ∨ (x = u + 7) ∨ (x = u ∧ y = 0) ∨ (x = u ∧ y = 1) ∨ (x = u ∧ y = 2) ∨ (x = u ∧ y = 3)) σ (sI (sI (sI σ u 0 (nI n1)) u 1 (nI n3)) u 2 v5) := frC.w hF4 (by show (u = u + 1) ∨ (u = u + 2) ∨ (u = u + 3) ∨ (u = u + 4) ∨ (u = u + 5) ∨ (u = u + 6 ∧ 2 = 1) ∨ (u = u + 7) ∨ (u = u ∧ 2 = 0) ∨ (u = u ∧ 2 = 1) ∨ (u = u ∧ 2 = 2) ∨ (u = u ∧ 2 = 3); exact Or.inr (Or.inr (Or.inr (Or.inr (Or.inr (Or.inr (Or.inr (Or.inr (Or.inr (Or.inl (⟨rfl, rfl⟩)))))))))))
  refine lv_aload_n hx hb (dkP dF_42 DX1_copyFrom (i := 12) rfl rfl) rfl (lv_at hl 0 rfl) ?_
  refine lv_aload_n hx hb (dkP dF_43 DX1_copyFrom (i := 13) rfl rfl) rfl (lv_at hl 1 rfl) ?_
  refine z_gi C0 hw v 3 (fk_of (shl_nt_0 v hv) rfl) fl_X1_40 (dk2 dF_180 DX1_copyFrom (i := 14) rfl rfl rfl) ?_
  refine z_top (y := (nI zs)) ((rd_n (by have hd_ := ntD v hv u hu; omega)).trans ((rd_n (by have hd_ := ntD v hv u hu; omega)).trans ((rd_n (by have hd_ := ntD v hv u hu; omega)).trans hsz))) ?_
  refine z_pi C0 hw u 3 (fk_of (shl_nt_0 u hu) rfl) fp_X1_40 (dk2 dF_181 DX1_copyFrom (i := 15) rfl rfl rfl) (fun H locs hw => ?_)
  have hT7 : TC (sI (sI (sI (sI σ u 0 (nI n1)) u 1 (nI n3)) u 2 v5) u 3 (nI zs)) := TC.w hT6 (tcw_2_3 (tck_nt_0 u hu) (by (try simp (disch := omega) only [ta_lt, ta_le, ta_eq, tb_lt, tb_le, tb_eq, tw, tnI, tsub1, tsv, tsb32, tn32 1 (by decide), tnj 1 (by decide), tl32 0 (by decide), tl64 0 (by decide)]); omega))
  have hF7 : frC (fun x y => (x = u + 1) ∨ (x = u + 2) ∨ (x = u + 3) ∨ (x = u + 4) ∨ (x = u + 5) ∨ (x = u + 6 ∧ y = 1) ∨ (x = u + 7) ∨ (x = u ∧ y = 0) ∨ (x = u ∧ y = 1) ∨ (x = u ∧ y = 2) ∨ (x = u ∧ y = 3)) σ (sI (sI (sI (sI σ u 0 (nI n1)) u 1 (nI n3)) u 2 v5) u 3 (nI zs)) := frC.w hF6 (by show (u = u + 1) ∨ (u = u + 2) ∨ (u = u + 3) ∨ (u = u + 4) ∨ (u = u + 5) ∨ (u = u + 6 ∧ 3 = 1) ∨ (u = u + 7) ∨ (u = u ∧ 3 = 0) ∨ (u = u ∧ 3 = 1) ∨ (u = u ∧ 3 = 2) ∨ (u = u ∧ 3 = 3); exact Or.inr (Or.inr (Or.inr (Or.inr (Or.inr (Or.inr (Or.inr (Or.inr (Or.inr (Or.inr (⟨rfl, rfl⟩)))))))))))
  refine lv_aload_n hx hb (dkP dF_43 DX1_copyFrom (i := 16) rfl rfl) rfl (lv_at hl 1 rfl) ?_
  refine z_gr C0 hw v 4 (v + 1) (fk_of (shl_nt_0 v hv) rfl) fl_X1_13 (dk2 dF_180 DX1_copyFrom (i := 17) rfl rfl rfl) ?_
  refine lv_iconst (v := 0) hx hb (dkP dF_3 DX1_copyFrom (i := 18) rfl rfl) (by decide) ?_
  refine lv_aload_n hx hb (dkP dF_42 DX1_copyFrom (i := 19) rfl rfl) rfl (lv_at hl 0 rfl) ?_
  refine z_gr C0 hw u 4 (u + 1) (fk_of (shl_nt_0 u hu) rfl) fl_X1_13 (dk2 dF_180 DX1_copyFrom (i := 20) rfl rfl rfl) ?_
  refine lv_iconst (v := 0) hx hb (dkP dF_3 DX1_copyFrom (i := 21) rfl rfl) (by decide) ?_
  refine lv_aload_n hx hb (dkP dF_42 DX1_copyFrom (i := 22) rfl rfl) rfl (lv_at hl 0 rfl) ?_
  refine z_gi C0 hw u 3 (fk_of (shl_nt_0 u hu) rfl) fl_X1_40 (dk2 dF_180 DX1_copyFrom (i := 23) rfl rfl rfl) ?_
  refine z_top (y := (nI zs)) rd_s ?_
  refine z_cpi (n0 := 40) (n1 := 40) C0 hw (v + 1) (u + 1) 0 0 zs (ak_of (shl_nt_1 v hv)) (ak_of (shl_nt_1 u hu)) ac_X1_54 hl.1 (by omega) (by omega) (by decide) (by decide) (by decide) (by decide) (Nat.le_of_ble_eq_true rfl) (dk2 dF_184 DX1_copyFrom (i := 24) rfl rfl rfl) (fun H locs hw => ?_)
  have hT8 : TC (sCp (sI (sI (sI (sI σ u 0 (nI n1)) u 1 (nI n3)) u 2 v5) u 3 (nI zs)) (v + 1) (u + 1) 0 0 zs) := TC.cp hT7 (fun k k2 x_ h => tc0 (tck_nt_1 u hu))
  have hF8 : frC (fun x y => (x = u + 1) ∨ (x = u + 2) ∨ (x = u + 3) ∨ (x = u + 4) ∨ (x = u + 5) ∨ (x = u + 6 ∧ y = 1) ∨ (x = u + 7) ∨ (x = u ∧ y = 0) ∨ (x = u ∧ y = 1) ∨ (x = u ∧ y = 2) ∨ (x = u ∧ y = 3)) σ (sCp (sI (sI (sI (sI σ u 0 (nI n1)) u 1 (nI n3)) u 2 v5) u 3 (nI zs)) (v + 1) (u + 1) 0 0 zs) := frC.cp hF7 (fun k => (by show ((u + 1) = u + 1) ∨ ((u + 1) = u + 2) ∨ ((u + 1) = u + 3) ∨ ((u + 1) = u + 4) ∨ ((u + 1) = u + 5) ∨ ((u + 1) = u + 6 ∧ k = 1) ∨ ((u + 1) = u + 7) ∨ ((u + 1) = u ∧ k = 0) ∨ ((u + 1) = u ∧ k = 1) ∨ ((u + 1) = u ∧ k = 2) ∨ ((u + 1) = u ∧ k = 3); exact Or.inl rfl))
  refine lv_aload_n hx hb (dkP dF_43 DX1_copyFrom (i := 25) rfl rfl) rfl (lv_at hl 1 rfl) ?_
  refine z_gr C0 hw v 5 (v + 2) (fk_of (shl_nt_0 v hv) rfl) fl_X1_17 (dk2 dF_180 DX1_copyFrom (i := 26) rfl rfl rfl) ?_
  refine lv_iconst (v := 0) hx hb (dkP dF_3 DX1_copyFrom (i := 27) rfl rfl) (by decide) ?_
  refine lv_aload_n hx hb (dkP dF_42 DX1_copyFrom (i := 28) rfl rfl) rfl (lv_at hl 0 rfl) ?_
  refine z_gr C0 hw u 5 (u + 2) (fk_of (shl_nt_0 u hu) rfl) fl_X1_17 (dk2 dF_180 DX1_copyFrom (i := 29) rfl rfl rfl) ?_
  refine lv_iconst (v := 0) hx hb (dkP dF_3 DX1_copyFrom (i := 30) rfl rfl) (by decide) ?_
  refine lv_aload_n hx hb (dkP dF_42 DX1_copyFrom (i := 31) rfl rfl) rfl (lv_at hl 0 rfl) ?_
  refine z_gi C0 hw u 3 (fk_of (shl_nt_0 u hu) rfl) fl_X1_40 (dk2 dF_180 DX1_copyFrom (i := 32) rfl rfl rfl) ?_
  refine z_top (y := (nI zs)) ((congrFun (sCp_o (by omega)) _).trans rd_s) ?_
  refine z_cpi (n0 := 40) (n1 := 40) C0 hw (v + 2) (u + 2) 0 0 zs (ak_of (shl_nt_2 v hv)) (ak_of (shl_nt_2 u hu)) ac_X1_54 hl.1 (by omega) (by omega) (by decide) (by decide) (by decide) (by decide) (Nat.le_of_ble_eq_true rfl) (dk2 dF_184 DX1_copyFrom (i := 33) rfl rfl rfl) (fun H locs hw => ?_)
  have hT9 : TC (sCp (sCp (sI (sI (sI (sI σ u 0 (nI n1)) u 1 (nI n3)) u 2 v5) u 3 (nI zs)) (v + 1) (u + 1) 0 0 zs) (v + 2) (u + 2) 0 0 zs) := TC.cp hT8 (fun k k2 x_ h => tc0 (tck_nt_2 u hu))
  have hF9 : frC (fun x y => (x = u + 1) ∨ (x = u + 2) ∨ (x = u + 3) ∨ (x = u + 4) ∨ (x = u + 5) ∨ (x = u + 6 ∧ y = 1) ∨ (x = u + 7) ∨ (x = u ∧ y = 0) ∨ (x = u ∧ y = 1) ∨ (x = u ∧ y = 2) ∨ (x = u ∧ y = 3)) σ (sCp (sCp (sI (sI (sI (sI σ u 0 (nI n1)) u 1 (nI n3)) u 2 v5) u 3 (nI zs)) (v + 1) (u + 1) 0 0 zs) (v + 2) (u + 2) 0 0 zs) := frC.cp hF8 (fun k => (by show ((u + 2) = u + 1) ∨ ((u + 2) = u + 2) ∨ ((u + 2) = u + 3) ∨ ((u + 2) = u + 4) ∨ ((u + 2) = u + 5) ∨ ((u + 2) = u + 6 ∧ k = 1) ∨ ((u + 2) = u + 7) ∨ ((u + 2) = u ∧ k = 0) ∨ ((u + 2) = u ∧ k = 1) ∨ ((u + 2) = u ∧ k = 2) ∨ ((u + 2) = u ∧ k = 3); exact Or.inr (Or.inl rfl)))
  refine lv_aload_n hx hb (dkP dF_43 DX1_copyFrom (i := 34) rfl rfl) rfl (lv_at hl 1 rfl) ?_
  refine z_gr C0 hw v 6 (v + 3) (fk_of (shl_nt_0 v hv) rfl) fl_X1_20 (dk2 dF_180 DX1_copyFrom (i := 35) rfl rfl rfl) ?_
  refine lv_iconst (v := 0) hx hb (dkP dF_3 DX1_copyFrom (i := 36) rfl rfl) (by decide) ?_
  refine lv_aload_n hx hb (dkP dF_42 DX1_copyFrom (i := 37) rfl rfl) rfl (lv_at hl 0 rfl) ?_
  refine z_gr C0 hw u 6 (u + 3) (fk_of (shl_nt_0 u hu) rfl) fl_X1_20 (dk2 dF_180 DX1_copyFrom (i := 38) rfl rfl rfl) ?_
  refine lv_iconst (v := 0) hx hb (dkP dF_3 DX1_copyFrom (i := 39) rfl rfl) (by decide) ?_
  refine lv_aload_n hx hb (dkP dF_42 DX1_copyFrom (i := 40) rfl rfl) rfl (lv_at hl 0 rfl) ?_
  refine z_gi C0 hw u 3 (fk_of (shl_nt_0 u hu) rfl) fl_X1_40 (dk2 dF_180 DX1_copyFrom (i := 41) rfl rfl rfl) ?_
  refine z_top (y := (nI zs)) ((congrFun (sCp_o (by omega)) _).trans ((congrFun (sCp_o (by omega)) _).trans rd_s)) ?_
  refine z_cpi (n0 := 40) (n1 := 40) C0 hw (v + 3) (u + 3) 0 0 zs (ak_of (shl_nt_3 v hv)) (ak_of (shl_nt_3 u hu)) ac_X1_54 hl.1 (by omega) (by omega) (by decide) (by decide) (by decide) (by decide) (Nat.le_of_ble_eq_true rfl) (dk2 dF_184 DX1_copyFrom (i := 42) rfl rfl rfl) (fun H locs hw => ?_)
  have hT10 : TC (sCp (sCp (sCp (sI (sI (sI (sI σ u 0 (nI n1)) u 1 (nI n3)) u 2 v5) u 3 (nI zs)) (v + 1) (u + 1) 0 0 zs) (v + 2) (u + 2) 0 0 zs) (v + 3) (u + 3) 0 0 zs) := TC.cp hT9 (fun k k2 x_ h => tc0 (tck_nt_3 u hu))
  have hF10 : frC (fun x y => (x = u + 1) ∨ (x = u + 2) ∨ (x = u + 3) ∨ (x = u + 4) ∨ (x = u + 5) ∨ (x = u + 6 ∧ y = 1) ∨ (x = u + 7) ∨ (x = u ∧ y = 0) ∨ (x = u ∧ y = 1) ∨ (x = u ∧ y = 2) ∨ (x = u ∧ y = 3)) σ (sCp (sCp (sCp (sI (sI (sI (sI σ u 0 (nI n1)) u 1 (nI n3)) u 2 v5) u 3 (nI zs)) (v + 1) (u + 1) 0 0 zs) (v + 2) (u + 2) 0 0 zs) (v + 3) (u + 3) 0 0 zs) := frC.cp hF9 (fun k => (by show ((u + 3) = u + 1) ∨ ((u + 3) = u + 2) ∨ ((u + 3) = u + 3) ∨ ((u + 3) = u + 4) ∨ ((u + 3) = u + 5) ∨ ((u + 3) = u + 6 ∧ k = 1) ∨ ((u + 3) = u + 7) ∨ ((u + 3) = u ∧ k = 0) ∨ ((u + 3) = u ∧ k = 1) ∨ ((u + 3) = u ∧ k = 2) ∨ ((u + 3) = u ∧ k = 3); exact Or.inr (Or.inr (Or.inl rfl))))
  refine lv_aload_n hx hb (dkP dF_43 DX1_copyFrom (i := 43) rfl rfl) rfl (lv_at hl 1 rfl) ?_
  refine z_gr C0 hw v 7 (v + 4) (fk_of (shl_nt_0 v hv) rfl) fl_X1_23 (dk2 dF_180 DX1_copyFrom (i := 44) rfl rfl rfl) ?_
  refine lv_iconst (v := 0) hx hb (dkP dF_3 DX1_copyFrom (i := 45) rfl rfl) (by decide) ?_
  refine lv_aload_n hx hb (dkP dF_42 DX1_copyFrom (i := 46) rfl rfl) rfl (lv_at hl 0 rfl) ?_
  refine z_gr C0 hw u 7 (u + 4) (fk_of (shl_nt_0 u hu) rfl) fl_X1_23 (dk2 dF_180 DX1_copyFrom (i := 47) rfl rfl rfl) ?_
  refine lv_iconst (v := 0) hx hb (dkP dF_3 DX1_copyFrom (i := 48) rfl rfl) (by decide) ?_
  refine lv_aload_n hx hb (dkP dF_42 DX1_copyFrom (i := 49) rfl rfl) rfl (lv_at hl 0 rfl) ?_
  refine z_gi C0 hw u 3 (fk_of (shl_nt_0 u hu) rfl) fl_X1_40 (dk2 dF_180 DX1_copyFrom (i := 50) rfl rfl rfl) ?_
  refine z_top (y := (nI zs)) ((congrFun (sCp_o (by omega)) _).trans ((congrFun (sCp_o (by omega)) _).trans ((congrFun (sCp_o (by omega)) _).trans rd_s))) ?_
  refine z_cpi (n0 := 40) (n1 := 40) C0 hw (v + 4) (u + 4) 0 0 zs (ak_of (shl_nt_4 v hv)) (ak_of (shl_nt_4 u hu)) ac_X1_54 hl.1 (by omega) (by omega) (by decide) (by decide) (by decide) (by decide) (Nat.le_of_ble_eq_true rfl) (dk2 dF_184 DX1_copyFrom (i := 51) rfl rfl rfl) (fun H locs hw => ?_)
  have hT11 : TC (sCp (sCp (sCp (sCp (sI (sI (sI (sI σ u 0 (nI n1)) u 1 (nI n3)) u 2 v5) u 3 (nI zs)) (v + 1) (u + 1) 0 0 zs) (v + 2) (u + 2) 0 0 zs) (v + 3) (u + 3) 0 0 zs) (v + 4) (u + 4) 0 0 zs) := TC.cp hT10 (fun k k2 x_ h => tc0 (tck_nt_4 u hu))
  have hF11 : frC (fun x y => (x = u + 1) ∨ (x = u + 2) ∨ (x = u + 3) ∨ (x = u + 4) ∨ (x = u + 5) ∨ (x = u + 6 ∧ y = 1) ∨ (x = u + 7) ∨ (x = u ∧ y = 0) ∨ (x = u ∧ y = 1) ∨ (x = u ∧ y = 2) ∨ (x = u ∧ y = 3)) σ (sCp (sCp (sCp (sCp (sI (sI (sI (sI σ u 0 (nI n1)) u 1 (nI n3)) u 2 v5) u 3 (nI zs)) (v + 1) (u + 1) 0 0 zs) (v + 2) (u + 2) 0 0 zs) (v + 3) (u + 3) 0 0 zs) (v + 4) (u + 4) 0 0 zs) := frC.cp hF10 (fun k => (by show ((u + 4) = u + 1) ∨ ((u + 4) = u + 2) ∨ ((u + 4) = u + 3) ∨ ((u + 4) = u + 4) ∨ ((u + 4) = u + 5) ∨ ((u + 4) = u + 6 ∧ k = 1) ∨ ((u + 4) = u + 7) ∨ ((u + 4) = u ∧ k = 0) ∨ ((u + 4) = u ∧ k = 1) ∨ ((u + 4) = u ∧ k = 2) ∨ ((u + 4) = u ∧ k = 3); exact Or.inr (Or.inr (Or.inr (Or.inl rfl)))))
  refine lv_aload_n hx hb (dkP dF_43 DX1_copyFrom (i := 52) rfl rfl) rfl (lv_at hl 1 rfl) ?_
  refine z_gr C0 hw v 8 (v + 5) (fk_of (shl_nt_0 v hv) rfl) fl_X1_26 (dk2 dF_180 DX1_copyFrom (i := 53) rfl rfl rfl) ?_
  refine lv_iconst (v := 0) hx hb (dkP dF_3 DX1_copyFrom (i := 54) rfl rfl) (by decide) ?_
  refine lv_aload_n hx hb (dkP dF_42 DX1_copyFrom (i := 55) rfl rfl) rfl (lv_at hl 0 rfl) ?_
  refine z_gr C0 hw u 8 (u + 5) (fk_of (shl_nt_0 u hu) rfl) fl_X1_26 (dk2 dF_180 DX1_copyFrom (i := 56) rfl rfl rfl) ?_
  refine lv_iconst (v := 0) hx hb (dkP dF_3 DX1_copyFrom (i := 57) rfl rfl) (by decide) ?_
  refine lv_aload_n hx hb (dkP dF_42 DX1_copyFrom (i := 58) rfl rfl) rfl (lv_at hl 0 rfl) ?_
  refine z_gi C0 hw u 3 (fk_of (shl_nt_0 u hu) rfl) fl_X1_40 (dk2 dF_180 DX1_copyFrom (i := 59) rfl rfl rfl) ?_
  refine z_top (y := (nI zs)) ((congrFun (sCp_o (by omega)) _).trans ((congrFun (sCp_o (by omega)) _).trans ((congrFun (sCp_o (by omega)) _).trans ((congrFun (sCp_o (by omega)) _).trans rd_s)))) ?_
  refine lv_iconst (v := 4) hx hb (dkP dF_7 DX1_copyFrom (i := 60) rfl rfl) (by decide) ?_
  refine lv_imul hx hb (dkP dF_104 DX1_copyFrom (i := 61) rfl rfl) ?_
  refine z_top (y := nI (zs * 4)) (by simp only [fa_lit, nI_add, pk_mul]) ?_
  refine z_cpi (n0 := 160) (n1 := 160) C0 hw (v + 5) (u + 5) 0 0 (zs * 4) (ak_of (shl_nt_5 v hv)) (ak_of (shl_nt_5 u hu)) ac_X1_54 hl.1 (by omega) (by omega) (by decide) (by decide) (by decide) (by decide) (Nat.le_of_ble_eq_true rfl) (dk2 dF_184 DX1_copyFrom (i := 62) rfl rfl rfl) (fun H locs hw => ?_)
  have hT12 : TC (sCp (sCp (sCp (sCp (sCp (sI (sI (sI (sI σ u 0 (nI n1)) u 1 (nI n3)) u 2 v5) u 3 (nI zs)) (v + 1) (u + 1) 0 0 zs) (v + 2) (u + 2) 0 0 zs) (v + 3) (u + 3) 0 0 zs) (v + 4) (u + 4) 0 0 zs) (v + 5) (u + 5) 0 0 (zs * 4)) := TC.cp hT11 (fun k k2 x_ h => tc0 (tck_nt_5 u hu))
  have hF12 : frC (fun x y => (x = u + 1) ∨ (x = u + 2) ∨ (x = u + 3) ∨ (x = u + 4) ∨ (x = u + 5) ∨ (x = u + 6 ∧ y = 1) ∨ (x = u + 7) ∨ (x = u ∧ y = 0) ∨ (x = u ∧ y = 1) ∨ (x = u ∧ y = 2) ∨ (x = u ∧ y = 3)) σ (sCp (sCp (sCp (sCp (sCp (sI (sI (sI (sI σ u 0 (nI n1)) u 1 (nI n3)) u 2 v5) u 3 (nI zs)) (v + 1) (u + 1) 0 0 zs) (v + 2) (u + 2) 0 0 zs) (v + 3) (u + 3) 0 0 zs) (v + 4) (u + 4) 0 0 zs) (v + 5) (u + 5) 0 0 (zs * 4)) := frC.cp hF11 (fun k => (by show ((u + 5) = u + 1) ∨ ((u + 5) = u + 2) ∨ ((u + 5) = u + 3) ∨ ((u + 5) = u + 4) ∨ ((u + 5) = u + 5) ∨ ((u + 5) = u + 6 ∧ k = 1) ∨ ((u + 5) = u + 7) ∨ ((u + 5) = u ∧ k = 0) ∨ ((u + 5) = u ∧ k = 1) ∨ ((u + 5) = u ∧ k = 2) ∨ ((u + 5) = u ∧ k = 3); exact Or.inr (Or.inr (Or.inr (Or.inr (Or.inl rfl))))))
  refine lv_aload_n hx hb (dkP dF_42 DX1_copyFrom (i := 63) rfl rfl) rfl (lv_at hl 0 rfl) ?_
  refine z_gr C0 hw u 9 (u + 6) (fk_of (shl_nt_0 u hu) rfl) fl_X1_32 (dk2 dF_180 DX1_copyFrom (i := 64) rfl rfl rfl) ?_
  refine lv_aload_n hx hb (dkP dF_43 DX1_copyFrom (i := 65) rfl rfl) rfl (lv_at hl 1 rfl) ?_
  refine z_gr C0 hw v 9 (v + 6) (fk_of (shl_nt_0 v hv) rfl) fl_X1_32 (dk2 dF_180 DX1_copyFrom (i := 66) rfl rfl rfl) ?_
  refine zk_V hw (zr_V (As := [.ref (ad (v + 6))]) (rest := []) C0 (c_X8_copyFrom_n l G kc ad (sCp (sCp (sCp (sCp (sCp (sI (sI (sI (sI σ u 0 (nI n1)) u 1 (nI n3)) u 2 v5) u 3 (nI zs)) (v + 1) (u + 1) 0 0 zs) (v + 2) (u + 2) 0 0 zs) (v + 3) (u + 3) 0 0 zs) (v + 4) (u + 4) 0 0 zs) (v + 5) (u + 5) 0 0 (zs * 4)) (u + 6) (v + 6) (ntsn u hu) (ntsn v hv) (by omega) (((congrFun (sCp_o (by have hd_ := ntD v hv u hu; omega)) _).trans ((congrFun (sCp_o (by have hd_ := ntD v hv u hu; omega)) _).trans ((congrFun (sCp_o (by have hd_ := ntD v hv u hu; omega)) _).trans ((congrFun (sCp_o (by have hd_ := ntD v hv u hu; omega)) _).trans ((congrFun (sCp_o (by have hd_ := ntD v hv u hu; omega)) _).trans ((rd_n (by have hd_ := ntD v hv u hu; omega)).trans ((rd_n (by have hd_ := ntD v hv u hu; omega)).trans ((rd_n (by have hd_ := ntD v hv u hu; omega)).trans ((rd_n (by have hd_ := ntD v hv u hu; omega)).trans rfl))))))))).trans hN.2.1) hN.1 hT12 _) cv_X8_copyFrom lk_X1_60 (zp_V C0 hRo hw (u + 6) (shl_nt_6 u hu) rfl rfl) rfl hl.1 rfl ⟨by decide, by decide⟩ (Nat.le_of_ble_eq_true rfl) (dk2 dF_182 DX1_copyFrom (i := 67) rfl rfl rfl) ⟨Nat.le_refl _, Nat.le_refl _⟩) (fun s13 H locs hp hw => ?_)
  obtain ⟨f13_0, f13_1, hT13, hG13⟩ := hp
  have hF13 : frC (fun x y => (x = u + 1) ∨ (x = u + 2) ∨ (x = u + 3) ∨ (x = u + 4) ∨ (x = u + 5) ∨ (x = u + 6 ∧ y = 1) ∨ (x = u + 7) ∨ (x = u ∧ y = 0) ∨ (x = u ∧ y = 1) ∨ (x = u ∧ y = 2) ∨ (x = u ∧ y = 3)) σ s13 := frC.t hF12 hG13 (fun x y h => by have h : (x = u + 7) ∨ (x = u + 6 ∧ y = 1) := h; show (x = u + 1) ∨ (x = u + 2) ∨ (x = u + 3) ∨ (x = u + 4) ∨ (x = u + 5) ∨ (x = u + 6 ∧ y = 1) ∨ (x = u + 7) ∨ (x = u ∧ y = 0) ∨ (x = u ∧ y = 1) ∨ (x = u ∧ y = 2) ∨ (x = u ∧ y = 3); rcases h with h | h; (· exact Or.inr (Or.inr (Or.inr (Or.inr (Or.inr (Or.inr (Or.inl h))))))); (· exact Or.inr (Or.inr (Or.inr (Or.inr (Or.inr (Or.inl h)))))))
  exact z_vret C0 hr hlk hw (⟨((hG13.1 u 3 (by show ¬ ((u = u + 7) ∨ (u = u + 6 ∧ 3 = 1)); intro h_; rcases h_ with h_ | h_; (· omega); (· omega))).trans ((congrFun (sCp_o (by omega)) _).trans ((congrFun (sCp_o (by omega)) _).trans ((congrFun (sCp_o (by omega)) _).trans ((congrFun (sCp_o (by omega)) _).trans ((congrFun (sCp_o (by omega)) _).trans rd_s)))))), (hN.m ⟨((hG13.1 u 1 (by show ¬ ((u = u + 7) ∨ (u = u + 6 ∧ 1 = 1)); intro h_; rcases h_ with h_ | h_; (· omega); (· omega))).trans ((congrFun (sCp_o (by omega)) _).trans ((congrFun (sCp_o (by omega)) _).trans ((congrFun (sCp_o (by omega)) _).trans ((congrFun (sCp_o (by omega)) _).trans ((congrFun (sCp_o (by omega)) _).trans ((rd_n (by omega)).trans ((rd_n (by omega)).trans rd_s)))))))).trans (Eq.symm (((rd_n (by have hd_ := ntD v hv u hu; omega)).trans rfl).symm.trans en3)), fun n hn => ⟨((hG13.1 (u + 1) n (by show ¬ (((u + 1) = u + 7) ∨ ((u + 1) = u + 6 ∧ n = 1)); intro h_; rcases h_ with h_ | h_; (· omega); (· omega))).trans ((congrFun (sCp_o (by omega)) _).trans ((congrFun (sCp_o (by omega)) _).trans ((congrFun (sCp_o (by omega)) _).trans ((congrFun (sCp_o (by omega)) _).trans ((cp_in (by omega)).trans ((rd_n (by have hd_ := ntD v hv u hu; omega)).trans ((rd_n (by have hd_ := ntD v hv u hu; omega)).trans ((rd_n (by have hd_ := ntD v hv u hu; omega)).trans ((rd_n (by have hd_ := ntD v hv u hu; omega)).trans rfl)))))))))), ((hG13.1 (u + 2) n (by show ¬ (((u + 2) = u + 7) ∨ ((u + 2) = u + 6 ∧ n = 1)); intro h_; rcases h_ with h_ | h_; (· omega); (· omega))).trans ((congrFun (sCp_o (by omega)) _).trans ((congrFun (sCp_o (by omega)) _).trans ((congrFun (sCp_o (by omega)) _).trans ((cp_in (by omega)).trans ((congrFun (sCp_o (by have hd_ := ntD v hv u hu; omega)) _).trans ((rd_n (by have hd_ := ntD v hv u hu; omega)).trans ((rd_n (by have hd_ := ntD v hv u hu; omega)).trans ((rd_n (by have hd_ := ntD v hv u hu; omega)).trans ((rd_n (by have hd_ := ntD v hv u hu; omega)).trans rfl)))))))))), ((hG13.1 (u + 3) n (by show ¬ (((u + 3) = u + 7) ∨ ((u + 3) = u + 6 ∧ n = 1)); intro h_; rcases h_ with h_ | h_; (· omega); (· omega))).trans ((congrFun (sCp_o (by omega)) _).trans ((congrFun (sCp_o (by omega)) _).trans ((cp_in (by omega)).trans ((congrFun (sCp_o (by have hd_ := ntD v hv u hu; omega)) _).trans ((congrFun (sCp_o (by have hd_ := ntD v hv u hu; omega)) _).trans ((rd_n (by have hd_ := ntD v hv u hu; omega)).trans ((rd_n (by have hd_ := ntD v hv u hu; omega)).trans ((rd_n (by have hd_ := ntD v hv u hu; omega)).trans ((rd_n (by have hd_ := ntD v hv u hu; omega)).trans rfl)))))))))), ((hG13.1 (u + 4) n (by show ¬ (((u + 4) = u + 7) ∨ ((u + 4) = u + 6 ∧ n = 1)); intro h_; rcases h_ with h_ | h_; (· omega); (· omega))).trans ((congrFun (sCp_o (by omega)) _).trans ((cp_in (by omega)).trans ((congrFun (sCp_o (by have hd_ := ntD v hv u hu; omega)) _).trans ((congrFun (sCp_o (by have hd_ := ntD v hv u hu; omega)) _).trans ((congrFun (sCp_o (by have hd_ := ntD v hv u hu; omega)) _).trans ((rd_n (by have hd_ := ntD v hv u hu; omega)).trans ((rd_n (by have hd_ := ntD v hv u hu; omega)).trans ((rd_n (by have hd_ := ntD v hv u hu; omega)).trans ((rd_n (by have hd_ := ntD v hv u hu; omega)).trans rfl))))))))))⟩⟩ (fun x hx1 => (f13_1 x hx1).trans ((congrFun (sCp_o (by have hd_ := ntD v hv u hu; omega)) _).trans ((congrFun (sCp_o (by have hd_ := ntD v hv u hu; omega)) _).trans ((congrFun (sCp_o (by have hd_ := ntD v hv u hu; omega)) _).trans ((congrFun (sCp_o (by have hd_ := ntD v hv u hu; omega)) _).trans ((congrFun (sCp_o (by have hd_ := ntD v hv u hu; omega)) _).trans ((rd_n (by have hd_ := ntD v hv u hu; omega)).trans ((rd_n (by have hd_ := ntD v hv u hu; omega)).trans ((rd_n (by have hd_ := ntD v hv u hu; omega)).trans ((rd_n (by have hd_ := ntD v hv u hu; omega)).trans rfl)))))))))) f13_0 (Nat.le_refl _) hN.1 (fun _ h => h) hN.2.2.2), hT13, hF13⟩) (dkP dF_177 DX1_copyFrom (i := 68) rfl rfl)
