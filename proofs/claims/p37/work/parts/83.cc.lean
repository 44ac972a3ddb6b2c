theorem tcl_220 : tcL.getD 220 0 = 17 := by decide +kernel
set_option maxRecDepth 20000 in
theorem shc_222 : shC[222]? = some (1, 8, []) := by rfl
theorem tcl_222 : tcL.getD 222 0 = 0 := by decide +kernel
set_option maxRecDepth 100000 in
set_option maxHeartbeats 8000000 in
theorem c_X3_settle (l : Launch) (G : va_G) (kc : KC) (ad : Nat → Nat) (σ : Sg) (gn : Nat) (ov : Nat) (hgn : gn < 256) (hov : ov < 256) (hN : NDc (σ.1 4)) (hcl : ∀ i, i < 8 → bt gn i = 1 → sb (nd (σ.1 4) i) (gn ||| ov)) (hT : TC σ) : MI l G kc yX3_settle cX3_settle 7 (some .int) 1 29 [.ref (ad 220), .ref (ad 1), .int (nI gn), .int (nI ov)] shC ad σ (fun r σ1 => TC σ1 ∧ frC (fun x y => (x = 220 ∧ y = 2) ∨ (x = 221) ∨ (x = 222)) σ σ1) := by
  intro sz
  refine z_body (y := yX3_settle) (n := 7) (av := [.ref (ad 220), .ref (ad 1), .int (nI gn), .int (nI ov)]) (Qc := fun A => va_Qi (fun r σ1 => TC σ1 ∧ frC (fun x y => (x = 220 ∧ y = 2) ∨ (x = 221) ∨ (x = 222)) σ σ1) (PoC G kc shC ad A) A) (plainFor_of_name (by decide)) (Nat.le_of_ble_eq_true rfl) (fun pr e s m below meth c A C0 hr hlk hnm hw hRo ls hl => ?_) sz
  have hx := C0.1
  have hb := C0.2.1
  have hown := C0.2.2.2.1
  have hts := C0.2.2.2.2.1
  have hl : lv_has ls 7 [(0, .ref (ad 220)), (1, .ref (ad 1)), (2, .int (nI gn)), (3, .int (nI ov))] := hl
  refine lv_iconst (v := 0) hx hb (dkP dF_3 DX3_settle (i := 0) rfl rfl) (by decide) ?_
  refine lv_istore (lv' := [(4, .int 0), (0, .ref (ad 220)), (1, .ref (ad 1)), (2, .int (nI gn)), (3, .int (nI ov))]) hx hb (dk1 dF_54 DX3_settle (i := 1) rfl rfl rfl) hl (by decide) rfl (fun ls hl => ?_)
  refine lv_iload_n hx hb (dkP dF_28 DX3_settle (i := 2) rfl rfl) rfl (lv_at hl 3 rfl) ?_
  refine lv_istore (lv' := [(5, .int (nI gn)), (4, .int 0), (0, .ref (ad 220)), (1, .ref (ad 1)), (2, .int (nI gn)), (3, .int (nI ov))]) hx hb (dk1 dF_54 DX3_settle (i := 3) rfl rfl rfl) hl (by decide) rfl (fun ls hl => ?_)
  have lp2 : ∀ (nq : Nat) (q5_6 : Int32) (q4_6 : Int32) (j : Nat) (τ1 : Sg) (H : Heap) (locs : List Loc) (ls : Array Slot), j < nq → (j ≤ gn + 1) → (q5_6 = nI j + (-1)) → (∀ d, j ≤ d → d < 256 → sb d gn → 0 ≤ (τ1.1 221 d).toInt ∧ (τ1.1 221 d).toInt ≤ 64000 * (256 - (d : Int))) → (TC τ1) → (frC (fun x y => (x = 220 ∧ y = 2) ∨ (x = 221) ∨ (x = 222)) σ τ1) → St G kc A s.heap shC ad τ1 H locs → lv_has ls 7 [(5, .int q5_6), (4, .int q4_6), (0, .ref (ad 220)), (1, .ref (ad 1)), (2, .int (nI gn)), (3, .int (nI ov))] → W pr l e { frames := 1, cells := 0, slots := 0, locals := 29 } s m ([.ref (ad 220), .ref (ad 1), .int (nI gn), .int (nI ov)] : List Value).toArray below meth c H locs 0 0 (MQ below (va_Qi (fun r σ1 => TC σ1 ∧ frC (fun x y => (x = 220 ∧ y = 2) ∨ (x = 221) ∨ (x = 222)) σ σ1) (PoC G kc shC ad A) A) ([.ref (ad 220), .ref (ad 1), .int (nI gn), .int (nI ov)] : List Value).toArray s 0 0 A) (F0 m 6 ls []) := by
    intro nq
    induction nq with
    | zero => intro q5_6 q4_6 j τ1 H locs ls hmu; exact absurd hmu (Nat.not_lt_zero _)
    | succ nq ih2 =>
      intro q5_6 q4_6 j τ1 H locs ls hmu hj hq5 hO hT_τ1 hF_τ1 hw hl
      refine lv_iload hx hb (dk1 dF_21 DX3_settle (i := 4) rfl rfl rfl) (lv_at hl 0 rfl) ?_
      refine lv_if_lt (tgt := 79) hx hb (dkS dF_155 DX3_settle (i := 5) rfl rfl rfl) (by decide) (fun c3 => ?_) (fun c3 => ?_)
      · skip
        have hj0 : j = 0 := nj0 hq5 (by omega) c3
        have hO2 : ∀ d, d < 256 → sb d gn → 0 ≤ (τ1.1 221 d).toInt ∧ (τ1.1 221 d).toInt ≤ 64000 * (256 - (d : Int)) := fun d h2 h3 => hO d (by omega) h2 h3
        have hp8 := pcn_8 gn
        refine lv_aload_n hx hb (dkP dF_42 DX3_settle (i := 46) rfl rfl) rfl (lv_at hl 2 rfl) ?_
        refine lv_iload_n hx hb (dkP dF_28 DX3_settle (i := 47) rfl rfl) rfl (lv_at hl 4 rfl) ?_
        refine zn_I hw (zr_S (As := [.int (nI gn)]) (rest := [.ref (ad 220)]) C0 (c_J6_bitCount_0f7a4 l G kc gn (by first | omega | assumption | decide | rfl) _) cs_J6_bitCount_0f7a4 lk_X3_28 (zp_P C0 hRo hw a00 s00) rfl hl.1 rfl ⟨by decide, by decide⟩ (Nat.le_of_ble_eq_true rfl) (dk2 dF_184 DX3_settle (i := 48) rfl rfl rfl) ⟨Nat.le_refl _, Nat.le_refl _⟩) (fun r4 s4 H locs hp hw => ?_)
        subst hp
        refine z_pi C0 hw 220 2 (fk_of shc_220 rfl) fp_X3_33 (dk2 dF_181 DX3_settle (i := 49) rfl rfl rfl) (fun H locs hw => ?_)
        have hT5 : TC (sI τ1 220 2 (nI (pcn gn))) := TC.w hT_τ1 (tcw_17_2 tcl_220 (by (try simp only [lg_cmp_lt, lg_cmp_le, lg_cmp_gt, lg_cmp_ge, lg_cmp_eq] at c3); (try simp (disch := omega) only [ta_lt, ta_le, ta_eq, tb_lt, tb_le, tb_eq, tw, tnI, tsub1, tsv, tsb32, tn32 1 (by decide), tnj 1 (by decide), tl32 0 (by decide), tl64 0 (by decide)] at c3); (try simp (disch := omega) only [ta_lt, ta_le, ta_eq, tb_lt, tb_le, tb_eq, tw, tnI, tsub1, tsv, tsb32, tn32 1 (by decide), tnj 1 (by decide), tl32 0 (by decide), tl64 0 (by decide)]); omega))
        have hF5 : frC (fun x y => (x = 220 ∧ y = 2) ∨ (x = 221) ∨ (x = 222)) σ (sI τ1 220 2 (nI (pcn gn))) := frC.w hF_τ1 (by show (220 = 220 ∧ 2 = 2) ∨ (220 = 221) ∨ (220 = 222); exact Or.inl (⟨rfl, rfl⟩))
        refine lv_iconst (v := 0) hx hb (dkP dF_3 DX3_settle (i := 50) rfl rfl) (by decide) ?_
        refine lv_istore (lv' := [(5, .int 0), (4, .int q4_6), (0, .ref (ad 220)), (1, .ref (ad 1)), (2, .int (nI gn)), (3, .int (nI ov))]) hx hb (dk1 dF_54 DX3_settle (i := 51) rfl rfl rfl) hl (by decide) rfl (fun ls hl => ?_)
        refine lv_iconst (v := 0) hx hb (dkP dF_3 DX3_settle (i := 52) rfl rfl) (by decide) ?_
        refine lv_istore (lv' := [(6, .int 0), (5, .int 0), (4, .int q4_6), (0, .ref (ad 220)), (1, .ref (ad 1)), (2, .int (nI gn)), (3, .int (nI ov))]) hx hb (dk1 dF_54 DX3_settle (i := 53) rfl rfl rfl) hl (by decide) rfl (fun ls hl => ?_)
        have lp7 : ∀ (nq : Nat) (q6_93 : Nat) (q5_93 : Nat) (τ6 : Sg) (H : Heap) (locs : List Loc) (ls : Array Slot), 8 - q6_93 < nq → (q6_93 ≤ 8) → (q5_93 ≤ 255) → (sb q5_93 gn) → (pcn q5_93 = q6_93) → (τ6.1 220 2 = nI (pcn gn)) → (τ6.1 221 = τ1.1 221) → (TC τ6) → (frC (fun x y => (x = 220 ∧ y = 2) ∨ (x = 221) ∨ (x = 222)) σ τ6) → St G kc A s.heap shC ad τ6 H locs → lv_has ls 7 [(6, .int (nI q6_93)), (5, .int (nI q5_93)), (4, .int q4_6), (0, .ref (ad 220)), (1, .ref (ad 1)), (2, .int (nI gn)), (3, .int (nI ov))] → W pr l e { frames := 1, cells := 0, slots := 0, locals := 29 } s m ([.ref (ad 220), .ref (ad 1), .int (nI gn), .int (nI ov)] : List Value).toArray below meth c H locs 0 0 (MQ below (va_Qi (fun r σ1 => TC σ1 ∧ frC (fun x y => (x = 220 ∧ y = 2) ∨ (x = 221) ∨ (x = 222)) σ σ1) (PoC G kc shC ad A) A) ([.ref (ad 220), .ref (ad 1), .int (nI gn), .int (nI ov)] : List Value).toArray s 0 0 A) (F0 m 93 ls []) := by
          intro nq
          induction nq with
          | zero => intro q6_93 q5_93 τ6 H locs ls hmu; exact absurd hmu (Nat.not_lt_zero _)
          | succ nq ih7 =>
            intro q6_93 q5_93 τ6 H locs ls hmu hq6_93 hq5_93 hs2 hpc hsz2 h221 hT_τ6 hF_τ6 hw hl
            refine lv_iload hx hb (dk1 dF_21 DX3_settle (i := 54) rfl rfl rfl) (lv_at hl 0 rfl) ?_
            refine lv_aload_n hx hb (dkP dF_42 DX3_settle (i := 55) rfl rfl) rfl (lv_at hl 3 rfl) ?_
            refine z_gi C0 hw 220 2 (fk_of shc_220 rfl) fl_X3_33 (dk2 dF_180 DX3_settle (i := 56) rfl rfl rfl) ?_
            refine z_top (y := (nI (pcn gn))) hsz2 ?_
            refine lv_icmp_ge (tgt := 138) hx hb (dkS dF_162 DX3_settle (i := 57) rfl rfl rfl) (by decide) (fun c8 => ?_) (fun c8 => ?_)
            · simp (disch := omega) only [ta_lt, ta_le, ta_eq, tnI] at c8
              refine lv_iload hx hb (dk1 dF_21 DX3_settle (i := 79) rfl rfl rfl) (lv_at hl 2 rfl) ?_
              exact z_iret C0 hr hlk hw (⟨hT_τ6, hF_τ6⟩) (dkP dF_172 DX3_settle (i := 80) rfl rfl)
            · simp (disch := omega) only [ta_lt, ta_le, ta_eq, tnI] at c8
              have hne : q5_93 ≠ gn := fun e => by rw [e] at hpc; omega
              have e42 : τ6.1 4 = σ.1 4 := funext (fun y => ((hF_τ6.1 4 y (by show ¬ ((4 = 220 ∧ y = 2) ∨ (4 = 221) ∨ (4 = 222)); omega)).trans rfl))
              refine lv_aload_n hx hb (dkP dF_42 DX3_settle (i := 58) rfl rfl) rfl (lv_at hl 3 rfl) ?_
              refine z_gr C0 hw 220 1 222 (fk_of shc_220 rfl) fl_X3_15 (dk2 dF_180 DX3_settle (i := 59) rfl rfl rfl) ?_
              refine lv_iload hx hb (dk1 dF_21 DX3_settle (i := 60) rfl rfl rfl) (lv_at hl 0 rfl) ?_
              refine lv_aload_n hx hb (dkP dF_42 DX3_settle (i := 61) rfl rfl) rfl (lv_at hl 3 rfl) ?_
              refine lv_aload_n hx hb (dkP dF_43 DX3_settle (i := 62) rfl rfl) rfl (lv_at hl 4 rfl) ?_
              refine lv_iload hx hb (dk1 dF_21 DX3_settle (i := 63) rfl rfl rfl) (lv_at hl 1 rfl) ?_
              refine lv_iload_n hx hb (dkP dF_28 DX3_settle (i := 64) rfl rfl) rfl (lv_at hl 5 rfl) ?_
              refine lv_iload_n hx hb (dkP dF_29 DX3_settle (i := 65) rfl rfl) rfl (lv_at hl 6 rfl) ?_
              refine zk_I hw (zr_V (As := [.ref (ad 1), .int (nI q5_93), .int (nI gn), .int (nI ov)]) (rest := [.int (nI q6_93), .ref (ad 222)]) C0 (c_X3_nextBehind l G kc ad τ6 q5_93 gn ov (by omega) (by omega) (by omega) (fun k hk hm => by rw [h221]; have h1 := up_lt q5_93 (by omega) k hk hm.2.1; have h3 := or_lt (a := q5_93) (by omega) (p2_lt hk); have h2 := hO2 (q5_93 ||| p2 k) (by omega) (sb_up2 hs2 hk hm.1); omega) hT_τ6 _) cv_X3_nextBehind lk_X3_18 (zp_V C0 hRo hw 220 shc_220 rfl rfl) rfl hl.1 rfl ⟨by decide, by decide⟩ (Nat.le_of_ble_eq_true rfl) (dk2 dF_182 DX3_settle (i := 66) rfl rfl rfl) ⟨Nat.le_refl _, Nat.le_refl _⟩) (fun r9 s9 H locs hp hw => ?_)
              obtain ⟨f9_0, hs9⟩ := hp
              (rw [hs9] at hw)
              obtain ⟨b, hb8, hbe, hbm⟩ : ∃ b, b < 8 ∧ r9 = nI b ∧ MYc (σ.1 4) q5_93 gn ov b := by have h7 := f9_0; rw [e42] at h7; rcases h7 with h | h; (· exfalso; obtain ⟨k, hk, hm⟩ := MYc.ex hN (by omega) (by omega) hs2 hne hcl; exact h.2 k hk hm); (· exact h)
              refine z_top (y := nI b) hbe ?_
              refine z_iastN (n := 8) C0 hw 222 q6_93 (ak_of shc_222) (by omega) (by decide) (dkP dF_79 DX3_settle (i := 67) rfl rfl) (fun H locs hw => ?_)
              have hT10 : TC (sI τ6 222 q6_93 (nI b)) := TC.w hT_τ6 (tc0 tcl_222)
              have hF10 : frC (fun x y => (x = 220 ∧ y = 2) ∨ (x = 221) ∨ (x = 222)) σ (sI τ6 222 q6_93 (nI b)) := frC.w hF_τ6 (by show (222 = 220 ∧ q6_93 = 2) ∨ (222 = 221) ∨ (222 = 222); exact Or.inr (Or.inr (rfl)))
              refine lv_iload hx hb (dk1 dF_21 DX3_settle (i := 68) rfl rfl rfl) (lv_at hl 1 rfl) ?_
              refine lv_iconst (v := 1) hx hb (dkP dF_4 DX3_settle (i := 69) rfl rfl) (by decide) ?_
              refine lv_aload_n hx hb (dkP dF_42 DX3_settle (i := 70) rfl rfl) rfl (lv_at hl 3 rfl) ?_
              refine z_gr C0 hw 220 1 222 (fk_of shc_220 rfl) fl_X3_15 (dk2 dF_180 DX3_settle (i := 71) rfl rfl rfl) ?_
              refine lv_iload hx hb (dk1 dF_21 DX3_settle (i := 72) rfl rfl rfl) (lv_at hl 0 rfl) ?_
              refine z_ialdN (n := 8) C0 hw 222 q6_93 (ak_of shc_222) (by omega) (by decide) (dkP dF_46 DX3_settle (i := 73) rfl rfl) ?_
              refine z_top (y := (nI b)) rd_s ?_
              refine lv_ishl hx hb (dkP dF_120 DX3_settle (i := 74) rfl rfl) ?_
              refine z_top (y := nI (p2 b)) (by (try simp only [fa_lit]); exact bs_p _ (by omega)) ?_
              have hbt11 := p2_lt (q := b) (by omega)
              refine lv_ior hx hb (dkP dF_128 DX3_settle (i := 75) rfl rfl) ?_
              refine z_top (y := nI (q5_93 ||| (p2 b))) (by (try simp only [fa_lit]); exact nI_or _ _) ?_
              have hbt12 := or_lt (a := q5_93) (b := p2 b) (by omega) (by omega)
              refine lv_istore (lv' := [(5, .int (nI (q5_93 ||| (p2 b)))), (6, .int (nI q6_93)), (4, .int q4_6), (0, .ref (ad 220)), (1, .ref (ad 1)), (2, .int (nI gn)), (3, .int (nI ov))]) hx hb (dk1 dF_54 DX3_settle (i := 76) rfl rfl rfl) hl (by decide) rfl (fun ls hl => ?_)
              refine lv_iinc (v := nI (q6_93 + 1)) (lv' := [(6, .int (nI (q6_93 + 1))), (5, .int (nI (q5_93 ||| (p2 b)))), (4, .int q4_6), (0, .ref (ad 220)), (1, .ref (ad 1)), (2, .int (nI gn)), (3, .int (nI ov))]) hx hb (dkI DX3_settle (i := 77) rfl rfl rfl rfl) hl (k := 1) rfl (nI_1 _) (by decide) rfl (fun ls hl => ?_)
              refine lv_goto (tgt := 93) hx hb (dkS dF_167 DX3_settle (i := 78) rfl rfl rfl) (by decide) ?_
              exact ih7 (q6_93 + 1) (q5_93 ||| (p2 b)) (sI τ6 222 q6_93 (nI b)) _ _ _ (by omega) (by (try simp only [lg_cmp_lt, lg_cmp_le, lg_cmp_gt, lg_cmp_ge, lg_cmp_eq] at c3); (try simp (disch := omega) only [ta_lt, ta_le, ta_eq, tb_lt, tb_le, tb_eq, tw, tnI, tsub1, tsv, tsb32, tn32 1 (by decide), tnj 1 (by decide), tl32 0 (by decide), tl64 0 (by decide), tl32 1 (by decide), tl64 1 (by decide)] at c3); (try simp only [lg_cmp_lt, lg_cmp_le, lg_cmp_gt, lg_cmp_ge, lg_cmp_eq] at c8); (try simp (disch := omega) only [ta_lt, ta_le, ta_eq, tb_lt, tb_le, tb_eq, tw, tnI, tsub1, tsv, tsb32, tn32 1 (by decide), tnj 1 (by decide), tl32 0 (by decide), tl64 0 (by decide), tl32 1 (by decide), tl64 1 (by decide)] at c8); (try simp only [lg_cmp_lt, lg_cmp_le, lg_cmp_gt, lg_cmp_ge, lg_cmp_eq] at f9_0); (try simp (disch := omega) only [ta_lt, ta_le, ta_eq, tb_lt, tb_le, tb_eq, tw, tnI, tsub1, tsv, tsb32, tn32 1 (by decide), tnj 1 (by decide), tl32 0 (by decide), tl64 0 (by decide), tl32 1 (by decide), tl64 1 (by decide)] at f9_0); (try simp (disch := omega) only [ta_lt, ta_le, ta_eq, tb_lt, tb_le, tb_eq, tw, tnI, tsub1, tsv, tsb32, tn32 1 (by decide), tnj 1 (by decide), tl32 0 (by decide), tl64 0 (by decide), tl32 1 (by decide), tl64 1 (by decide)]); omega) (by (try simp only [lg_cmp_lt, lg_cmp_le, lg_cmp_gt, lg_cmp_ge, lg_cmp_eq] at c3); (try simp (disch := omega) only [ta_lt, ta_le, ta_eq, tb_lt, tb_le, tb_eq, tw, tnI, tsub1, tsv, tsb32, tn32 1 (by decide), tnj 1 (by decide), tl32 0 (by decide), tl64 0 (by decide), tl32 1 (by decide), tl64 1 (by decide)] at c3); (try simp only [lg_cmp_lt, lg_cmp_le, lg_cmp_gt, lg_cmp_ge, lg_cmp_eq] at c8); (try simp (disch := omega) only [ta_lt, ta_le, ta_eq, tb_lt, tb_le, tb_eq, tw, tnI, tsub1, tsv, tsb32, tn32 1 (by decide), tnj 1 (by decide), tl32 0 (by decide), tl64 0 (by decide), tl32 1 (by decide), tl64 1 (by decide)] at c8); (try simp only [lg_cmp_lt, lg_cmp_le, lg_cmp_gt, lg_cmp_ge, lg_cmp_eq] at f9_0); (try simp (disch := omega) only [ta_lt, ta_le, ta_eq, tb_lt, tb_le, tb_eq, tw, tnI, tsub1, tsv, tsb32, tn32 1 (by decide), tnj 1 (by decide), tl32 0 (by decide), tl64 0 (by decide), tl32 1 (by decide), tl64 1 (by decide)] at f9_0); (try simp (disch := omega) only [ta_lt, ta_le, ta_eq, tb_lt, tb_le, tb_eq, tw, tnI, tsub1, tsv, tsb32, tn32 1 (by decide), tnj 1 (by decide), tl32 0 (by decide), tl64 0 (by decide), tl32 1 (by decide), tl64 1 (by decide)]); omega) (sb_up2 hs2 (by omega) hbm.1) (by rw [pcn_up _ (by omega) _ (by omega) hbm.2.1, hpc]) ((rd_n (by omega)).trans hsz2) ((sI_o (by decide)).trans h221) hT10 hF10 hw (lv_sub hl [0, 1, 2, 3, 4, 5, 6] rfl)
        exact lp7 _ 0 0 (sI τ1 220 2 (nI (pcn gn))) _ _ _ (Nat.lt_succ_self _) (by (try simp only [lg_cmp_lt, lg_cmp_le, lg_cmp_gt, lg_cmp_ge, lg_cmp_eq] at c3); (try simp (disch := omega) only [ta_lt, ta_le, ta_eq, tb_lt, tb_le, tb_eq, tw, tnI, tsub1, tsv, tsb32, tn32 1 (by decide), tnj 1 (by decide), tl32 0 (by decide), tl64 0 (by decide), tl32 1 (by decide), tl64 1 (by decide)] at c3); (try simp (disch := omega) only [ta_lt, ta_le, ta_eq, tb_lt, tb_le, tb_eq, tw, tnI, tsub1, tsv, tsb32, tn32 1 (by decide), tnj 1 (by decide), tl32 0 (by decide), tl64 0 (by decide), tl32 1 (by decide), tl64 1 (by decide)]); omega) (by (try simp only [lg_cmp_lt, lg_cmp_le, lg_cmp_gt, lg_cmp_ge, lg_cmp_eq] at c3); (try simp (disch := omega) only [ta_lt, ta_le, ta_eq, tb_lt, tb_le, tb_eq, tw, tnI, tsub1, tsv, tsb32, tn32 1 (by decide), tnj 1 (by decide), tl32 0 (by decide), tl64 0 (by decide), tl32 1 (by decide), tl64 1 (by decide)] at c3); (try simp (disch := omega) only [ta_lt, ta_le, ta_eq, tb_lt, tb_le, tb_eq, tw, tnI, tsub1, tsv, tsb32, tn32 1 (by decide), tnj 1 (by decide), tl32 0 (by decide), tl64 0 (by decide), tl32 1 (by decide), tl64 1 (by decide)]); omega) (fun q hq h => absurd h (by unfold bt; simp)) (by decide) rd_s (sI_o (by decide)) hT5 hF5 hw (lv_sub hl [0, 1, 2, 3, 4, 5, 6] rfl)
      · skip
        obtain ⟨i, rfl, rfl⟩ := ndown2 hq5 (by omega) c3
        have e4 : τ1.1 4 = σ.1 4 := funext (fun y => ((hF_τ1.1 4 y (by show ¬ ((4 = 220 ∧ y = 2) ∨ (4 = 221) ∨ (4 = 222)); omega)).trans rfl))
        refine lv_iload hx hb (dk1 dF_21 DX3_settle (i := 6) rfl rfl rfl) (lv_at hl 0 rfl) ?_
        refine lv_iload_n hx hb (dkP dF_28 DX3_settle (i := 7) rfl rfl) rfl (lv_at hl 4 rfl) ?_
        refine lv_iconst (v := (-1)) hx hb (dkP dF_2 DX3_settle (i := 8) rfl rfl) (by decide) ?_
        refine lv_ixor hx hb (dkP dF_130 DX3_settle (i := 9) rfl rfl) ?_
        refine lv_iand hx hb (dkP dF_126 DX3_settle (i := 10) rfl rfl) ?_
        refine z_top (y := nI (i &&& (255 ^^^ gn))) (bs_n (by omega) (by omega)) ?_
        have hbt13 := and_lt (a := i) (b := 255 ^^^ gn) (by omega)
        refine lv_if_ne (tgt := 73) hx hb (dkS dF_154 DX3_settle (i := 11) rfl rfl rfl) (by decide) (fun c14 => ?_) (fun c14 => ?_)
        · simp (disch := omega) only [ta_lt, ta_le, ta_eq, tnI, tl32 0 (by decide)] at c14
          refine lv_iinc (v := (nI i) + (-1)) (lv' := [(5, .int ((nI i) + (-1))), (4, .int q4_6), (0, .ref (ad 220)), (1, .ref (ad 1)), (2, .int (nI gn)), (3, .int (nI ov))]) hx hb (dkI DX3_settle (i := 44) rfl rfl rfl rfl) hl (k := 0) rfl rfl (by decide) rfl (fun ls hl => ?_)
          refine lv_goto (tgt := 6) hx hb (dkS dF_167 DX3_settle (i := 45) rfl rfl rfl) (by decide) ?_
          exact ih2 ((nI i) + (-1)) q4_6 i τ1 _ _ _ (by omega) (by omega) rfl (fun d h1 h2 h3 => by by_cases e_ : d = i; (· exfalso; rw [e_] at h3; have h9 := (sb_and (a := i) (b := gn) (by omega) (by omega)).2 h3; omega); (· exact hO d (by omega) h2 h3)) hT_τ1 hF_τ1 hw (lv_sub hl [0, 1, 2, 3, 4, 5] rfl)
        · simp (disch := omega) only [ta_lt, ta_le, ta_eq, tnI, tl32 0 (by decide)] at c14
          have hsb : sb i gn := (sb_and (by omega) (by omega)).1 (by omega)
          refine lv_aload_n hx hb (dkP dF_42 DX3_settle (i := 12) rfl rfl) rfl (lv_at hl 2 rfl) ?_
          refine lv_aload_n hx hb (dkP dF_43 DX3_settle (i := 13) rfl rfl) rfl (lv_at hl 3 rfl) ?_
          refine lv_iload hx hb (dk1 dF_21 DX3_settle (i := 14) rfl rfl rfl) (lv_at hl 0 rfl) ?_
          refine lv_iload_n hx hb (dkP dF_28 DX3_settle (i := 15) rfl rfl) rfl (lv_at hl 4 rfl) ?_
          refine lv_iload_n hx hb (dkP dF_29 DX3_settle (i := 16) rfl rfl) rfl (lv_at hl 5 rfl) ?_
          refine zk_I hw (zr_V (As := [.ref (ad 1), .int (nI i), .int (nI gn), .int (nI ov)]) (rest := []) C0 (c_X3_nextBehind l G kc ad τ1 i gn ov (by omega) (by omega) (by omega) (fun k hk hm => by have h1 := up_lt i (by omega) k hk hm.2.1; have h3 := or_lt (a := i) (by omega) (p2_lt hk); have h2 := hO (i ||| p2 k) (by omega) (by omega) (sb_up2 hsb hk hm.1); omega) hT_τ1 _) cv_X3_nextBehind lk_X3_18 (zp_V C0 hRo hw 220 shc_220 rfl rfl) rfl hl.1 rfl ⟨by decide, by decide⟩ (Nat.le_of_ble_eq_true rfl) (dk2 dF_182 DX3_settle (i := 17) rfl rfl rfl) ⟨Nat.le_refl _, Nat.le_refl _⟩) (fun r15 s15 H locs hp hw => ?_)
          obtain ⟨f15_0, hs15⟩ := hp
          (rw [hs15] at hw)
          refine lv_istore (lv' := [(6, .int r15), (5, .int (nI i)), (4, .int q4_6), (0, .ref (ad 220)), (1, .ref (ad 1)), (2, .int (nI gn)), (3, .int (nI ov))]) hx hb (dk1 dF_54 DX3_settle (i := 18) rfl rfl rfl) hl (by decide) rfl (fun ls hl => ?_)
          refine lv_iload hx hb (dk1 dF_21 DX3_settle (i := 19) rfl rfl rfl) (lv_at hl 0 rfl) ?_
          refine lv_iconst (v := (-1)) hx hb (dkP dF_2 DX3_settle (i := 20) rfl rfl) (by decide) ?_
          refine lv_icmp_ne (tgt := 41) hx hb (dkS dF_160 DX3_settle (i := 21) rfl rfl rfl) (by decide) (fun c16 => ?_) (fun c16 => ?_)
          · skip
            obtain ⟨b, hb8, hbe, hbm⟩ : ∃ b, b < 8 ∧ r15 = nI b ∧ MYc (σ.1 4) i gn ov b := by have h7 := f15_0; rw [e4] at h7; rcases h7 with h | h; (· exact absurd h.1 c16); (· exact h)
            subst hbe
            have hup := up_lt i (by omega) b (by omega) hbm.2.1
            refine lv_aload_n hx hb (dkP dF_42 DX3_settle (i := 24) rfl rfl) rfl (lv_at hl 3 rfl) ?_
            refine z_gr C0 hw 220 0 221 (fk_of shc_220 rfl) fl_X3_9 (dk2 dF_180 DX3_settle (i := 25) rfl rfl rfl) ?_
            refine lv_iload hx hb (dk1 dF_21 DX3_settle (i := 26) rfl rfl rfl) (lv_at hl 1 rfl) ?_
            refine lv_iconst (v := 1) hx hb (dkP dF_4 DX3_settle (i := 27) rfl rfl) (by decide) ?_
            refine lv_iload hx hb (dk1 dF_21 DX3_settle (i := 28) rfl rfl rfl) (lv_at hl 0 rfl) ?_
            refine lv_ishl hx hb (dkP dF_120 DX3_settle (i := 29) rfl rfl) ?_
            refine z_top (y := nI (p2 b)) (by (try simp only [fa_lit]); exact bs_p _ (by omega)) ?_
            have hbt17 := p2_lt (q := b) (by omega)
            refine lv_ior hx hb (dkP dF_128 DX3_settle (i := 30) rfl rfl) ?_
            refine z_top (y := nI (i ||| (p2 b))) (by (try simp only [fa_lit]); exact nI_or _ _) ?_
            have hbt18 := or_lt (a := i) (b := p2 b) (by omega) (by omega)
            refine z_ialdN (n := 256) C0 hw 221 (i ||| (p2 b)) (ak_of shc_221) (by omega) (by decide) (dkP dF_46 DX3_settle (i := 31) rfl rfl) ?_
            obtain ⟨v19, ev19⟩ : ∃ y : Int32, τ1.1 221 (i ||| (p2 b)) = y := ⟨_, rfl⟩
            refine z_top (y := v19) ev19 ?_
            refine lv_istore (lv' := [(4, .int v19), (6, .int (nI b)), (5, .int (nI i)), (0, .ref (ad 220)), (1, .ref (ad 1)), (2, .int (nI gn)), (3, .int (nI ov))]) hx hb (dk1 dF_54 DX3_settle (i := 32) rfl rfl rfl) hl (by decide) rfl (fun ls hl => ?_)
            refine lv_aload_n hx hb (dkP dF_42 DX3_settle (i := 33) rfl rfl) rfl (lv_at hl 3 rfl) ?_
            refine z_gr C0 hw 220 0 221 (fk_of shc_220 rfl) fl_X3_9 (dk2 dF_180 DX3_settle (i := 34) rfl rfl rfl) ?_
            refine lv_iload hx hb (dk1 dF_21 DX3_settle (i := 35) rfl rfl rfl) (lv_at hl 2 rfl) ?_
            refine lv_iload hx hb (dk1 dF_21 DX3_settle (i := 36) rfl rfl rfl) (lv_at hl 0 rfl) ?_
            refine lv_aload_n hx hb (dkP dF_43 DX3_settle (i := 37) rfl rfl) rfl (lv_at hl 4 rfl) ?_
            refine lv_iload_n hx hb (dkP dF_29 DX3_settle (i := 38) rfl rfl) rfl (lv_at hl 6 rfl) ?_
            refine lv_iload hx hb (dk1 dF_21 DX3_settle (i := 39) rfl rfl rfl) (lv_at hl 2 rfl) ?_
            refine lv_ior hx hb (dkP dF_128 DX3_settle (i := 40) rfl rfl) ?_
            refine z_top (y := nI (ov ||| i)) (by (try simp only [fa_lit]); exact nI_or _ _) ?_
            have hbt20 := or_lt (a := ov) (b := i) (by omega) (by omega)
            refine zk_I hw (zr_V (As := [.int (nI (ov ||| i))]) (rest := [.int v19, .int (nI i), .ref (ad 221)]) C0 (c_X10_priceWith l G kc ad τ1 (nI (ov ||| i)) hT_τ1 _) cv_X10_priceWith lk_X3_22 (zp_V C0 hRo hw 1 shc_1 rfl rfl) rfl hl.1 rfl ⟨by decide, by decide⟩ (Nat.le_of_ble_eq_true rfl) (dk2 dF_182 DX3_settle (i := 41) rfl rfl rfl) ⟨Nat.le_refl _, Nat.le_refl _⟩) (fun r21 s21 H locs hp hw => ?_)
            obtain ⟨f21_0, hs21⟩ := hp
            (rw [hs21] at hw)
            refine lv_iadd hx hb (dkP dF_96 DX3_settle (i := 42) rfl rfl) ?_
            refine z_iastN (n := 256) C0 hw 221 i (ak_of shc_221) (by omega) (by decide) (dkP dF_79 DX3_settle (i := 43) rfl rfl) (fun H locs hw => ?_)
            have hT22 : TC (sI τ1 221 i (v19 + r21)) := TC.w hT_τ1 (tc0 tcl_221)
            have hF22 : frC (fun x y => (x = 220 ∧ y = 2) ∨ (x = 221) ∨ (x = 222)) σ (sI τ1 221 i (v19 + r21)) := frC.w hF_τ1 (by show (221 = 220 ∧ i = 2) ∨ (221 = 221) ∨ (221 = 222); exact Or.inr (Or.inl rfl))
            refine lv_iinc (v := (nI i) + (-1)) (lv' := [(5, .int ((nI i) + (-1))), (4, .int v19), (6, .int (nI b)), (0, .ref (ad 220)), (1, .ref (ad 1)), (2, .int (nI gn)), (3, .int (nI ov))]) hx hb (dkI DX3_settle (i := 44) rfl rfl rfl rfl) hl (k := 2) rfl rfl (by decide) rfl (fun ls hl => ?_)
            refine lv_goto (tgt := 6) hx hb (dkS dF_167 DX3_settle (i := 45) rfl rfl rfl) (by decide) ?_
            exact ih2 ((nI i) + (-1)) v19 i (sI τ1 221 i (v19 + r21)) _ _ _ (by omega) (by omega) rfl (fun d h1 h2 h3 => by by_cases e_ : d = i; (· rw [e_, rd_s]; have h7 := hO (i ||| p2 b) (by omega) (or_lt (by omega) (p2_lt hb8)) (sb_up2 hsb hb8 hbm.1); rw [ev19] at h7; have h9 := tadd32 (x := v19) (y := r21) (by omega) (by omega); rw [h9]; omega); (· rw [rd_n (by omega)]; exact hO d (by omega) h2 h3)) hT22 hF22 hw (lv_sub hl [0, 1, 3, 4, 5, 6] rfl)
          · skip
            refine lv_iconst (v := 0) hx hb (dkP dF_3 DX3_settle (i := 22) rfl rfl) (by decide) ?_
            refine lv_goto (tgt := 53) hx hb (dkS dF_167 DX3_settle (i := 23) rfl rfl rfl) (by decide) ?_
            refine lv_istore (lv' := [(4, .int 0), (6, .int r15), (5, .int (nI i)), (0, .ref (ad 220)), (1, .ref (ad 1)), (2, .int (nI gn)), (3, .int (nI ov))]) hx hb (dk1 dF_54 DX3_settle (i := 32) rfl rfl rfl) hl (by decide) rfl (fun ls hl => ?_)
            refine lv_aload_n hx hb (dkP dF_42 DX3_settle (i := 33) rfl rfl) rfl (lv_at hl 3 rfl) ?_
            refine z_gr C0 hw 220 0 221 (fk_of shc_220 rfl) fl_X3_9 (dk2 dF_180 DX3_settle (i := 34) rfl rfl rfl) ?_
            refine lv_iload hx hb (dk1 dF_21 DX3_settle (i := 35) rfl rfl rfl) (lv_at hl 2 rfl) ?_
            refine lv_iload hx hb (dk1 dF_21 DX3_settle (i := 36) rfl rfl rfl) (lv_at hl 0 rfl) ?_
            refine lv_aload_n hx hb (dkP dF_43 DX3_settle (i := 37) rfl rfl) rfl (lv_at hl 4 rfl) ?_
            refine lv_iload_n hx hb (dkP dF_29 DX3_settle (i := 38) rfl rfl) rfl (lv_at hl 6 rfl) ?_
            refine lv_iload hx hb (dk1 dF_21 DX3_settle (i := 39) rfl rfl rfl) (lv_at hl 2 rfl) ?_
            refine lv_ior hx hb (dkP dF_128 DX3_settle (i := 40) rfl rfl) ?_
            refine z_top (y := nI (ov ||| i)) (by (try simp only [fa_lit]); exact nI_or _ _) ?_
            have hbt23 := or_lt (a := ov) (b := i) (by omega) (by omega)
            refine zk_I hw (zr_V (As := [.int (nI (ov ||| i))]) (rest := [.int 0, .int (nI i), .ref (ad 221)]) C0 (c_X10_priceWith l G kc ad τ1 (nI (ov ||| i)) hT_τ1 _) cv_X10_priceWith lk_X3_22 (zp_V C0 hRo hw 1 shc_1 rfl rfl) rfl hl.1 rfl ⟨by decide, by decide⟩ (Nat.le_of_ble_eq_true rfl) (dk2 dF_182 DX3_settle (i := 41) rfl rfl rfl) ⟨Nat.le_refl _, Nat.le_refl _⟩) (fun r24 s24 H locs hp hw => ?_)
            obtain ⟨f24_0, hs24⟩ := hp
            (rw [hs24] at hw)
            refine lv_iadd hx hb (dkP dF_96 DX3_settle (i := 42) rfl rfl) ?_
            refine z_iastN (n := 256) C0 hw 221 i (ak_of shc_221) (by omega) (by decide) (dkP dF_79 DX3_settle (i := 43) rfl rfl) (fun H locs hw => ?_)
            have hT25 : TC (sI τ1 221 i (0 + r24)) := TC.w hT_τ1 (tc0 tcl_221)
            have hF25 : frC (fun x y => (x = 220 ∧ y = 2) ∨ (x = 221) ∨ (x = 222)) σ (sI τ1 221 i (0 + r24)) := frC.w hF_τ1 (by show (221 = 220 ∧ i = 2) ∨ (221 = 221) ∨ (221 = 222); exact Or.inr (Or.inl rfl))
            refine lv_iinc (v := (nI i) + (-1)) (lv' := [(5, .int ((nI i) + (-1))), (4, .int 0), (6, .int r15), (0, .ref (ad 220)), (1, .ref (ad 1)), (2, .int (nI gn)), (3, .int (nI ov))]) hx hb (dkI DX3_settle (i := 44) rfl rfl rfl rfl) hl (k := 2) rfl rfl (by decide) rfl (fun ls hl => ?_)
            refine lv_goto (tgt := 6) hx hb (dkS dF_167 DX3_settle (i := 45) rfl rfl rfl) (by decide) ?_
            exact ih2 ((nI i) + (-1)) 0 i (sI τ1 221 i (0 + r24)) _ _ _ (by omega) (by omega) rfl (fun d h1 h2 h3 => by by_cases e_ : d = i; (· rw [e_, rd_s]; have h6 : (0 : Int32).toInt = 0 := (by decide); have h9 := tadd32 (x := 0) (y := r24) (by omega) (by omega); rw [h9]; omega); (· rw [rd_n (by omega)]; exact hO d (by omega) h2 h3)) hT25 hF25 hw (lv_sub hl [0, 1, 3, 4, 5, 6] rfl)
  exact lp2 _ (nI gn) 0 (gn + 1) σ _ _ _ (Nat.lt_succ_self _) (by omega) (by rw [nI_dec (by omega)]; rfl) (fun d h1 h2 h3 => absurd (sb_le h2 (by omega) h3) (by omega)) hT frC.refl hw (lv_sub hl [0, 1, 2, 3, 4, 5] rfl)
