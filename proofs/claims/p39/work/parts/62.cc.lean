set_option maxRecDepth 100000 in
set_option maxHeartbeats 8000000 in
theorem c_X0_goThrough (l : Launch) (G : va_G) (kc : KC) (ad : Nat → Nat) (σ : Sg) (mc : Nat) (t : Nat) (bd : Int32) {zs us : Nat} (hmc : mc ∈ mcL) (ht : t ∈ otL) (hsz : σ.1 t 1 = nI zs) (hsz24 : zs ≤ 24) (hV : VOb σ t zs us) (hT : TC σ) : MV l G kc yX0_goThrough cX0_goThrough 4 2 52 [.ref (ad mc), .ref (ad t), .int bd] shC ad σ (fun σ1 => (∃ a, σ1.1 mc 5 = nI a ∧ a ≤ 100 ∧ ∀ i, i < a → (σ1.1 (mc + 3) i).toInt < (zs : Int)) ∧ TC σ1 ∧ frC (fun x y => (x = mc + 1) ∨ (x = mc + 3) ∨ (x = mc + 4) ∨ (x = mc ∧ y = 4) ∨ (x = mc ∧ y = 5) ∨ (x = mc ∧ y = 6) ∨ (x = mc ∧ y = 8)) σ σ1) := by
  intro sz
  refine z_body (y := yX0_goThrough) (n := 4) (av := [.ref (ad mc), .ref (ad t), .int bd]) (Qc := fun A => va_Qv (fun σ1 => (∃ a, σ1.1 mc 5 = nI a ∧ a ≤ 100 ∧ ∀ i, i < a → (σ1.1 (mc + 3) i).toInt < (zs : Int)) ∧ TC σ1 ∧ frC (fun x y => (x = mc + 1) ∨ (x = mc + 3) ∨ (x = mc + 4) ∨ (x = mc ∧ y = 4) ∨ (x = mc ∧ y = 5) ∨ (x = mc ∧ y = 6) ∨ (x = mc ∧ y = 8)) σ σ1) (PoC G kc shC ad A) A) (plainFor_of_name (by decide)) (Nat.le_of_ble_eq_true rfl) (fun pr e s m below meth c A C0 hr hlk hnm hw hRo ls hl => ?_) sz
  have hx := C0.1
  have hb := C0.2.1
  have hown := C0.2.2.2.1
  have hts := C0.2.2.2.2.1
  have hl : lv_has ls 4 [(0, .ref (ad mc)), (1, .ref (ad t)), (2, .int bd)] := hl
  have htn := otN t ht
  have hmcn := mcN mc hmc
  refine lv_aload_n hx hb (dkP dF_42 DX0_goThrough (i := 0) rfl rfl) rfl (lv_at hl 0 rfl) ?_
  refine lv_iconst (v := 0) hx hb (dkP dF_3 DX0_goThrough (i := 1) rfl rfl) (by decide) ?_
  refine z_pi C0 hw mc 5 (fk_of (shl_mc_0 mc hmc) rfl) fp_X0_41 (dk2 dF_181 DX0_goThrough (i := 2) rfl rfl rfl) (fun H locs hw => ?_)
  have hT1 : TC (sI σ mc 5 0) := TC.w hT (tcw_8_5 (tck_mc_0 mc hmc) (by (try simp (disch := omega) only [ta_lt, ta_le, ta_eq, tb_lt, tb_le, tb_eq, tw, tnI, tsub1, tsv, tsb32, tn32 1 (by decide), tnj 1 (by decide), tl32 0 (by decide), tl64 0 (by decide)]); omega))
  have hF1 : frC (fun x y => (x = mc + 1) ∨ (x = mc + 3) ∨ (x = mc + 4) ∨ (x = mc ∧ y = 4) ∨ (x = mc ∧ y = 5) ∨ (x = mc ∧ y = 6) ∨ (x = mc ∧ y = 8)) σ (sI σ mc 5 0) := frC.w frC.refl (by show (mc = mc + 1) ∨ (mc = mc + 3) ∨ (mc = mc + 4) ∨ (mc = mc ∧ 5 = 4) ∨ (mc = mc ∧ 5 = 5) ∨ (mc = mc ∧ 5 = 6) ∨ (mc = mc ∧ 5 = 8); exact Or.inr (Or.inr (Or.inr (Or.inr (Or.inl (⟨rfl, rfl⟩))))))
  refine lv_aload_n hx hb (dkP dF_42 DX0_goThrough (i := 3) rfl rfl) rfl (lv_at hl 0 rfl) ?_
  refine lv_iconst (v := 0) hx hb (dkP dF_3 DX0_goThrough (i := 4) rfl rfl) (by decide) ?_
  refine z_pi C0 hw mc 4 (fk_of (shl_mc_0 mc hmc) rfl) fp_X0_45 (dk2 dF_181 DX0_goThrough (i := 5) rfl rfl rfl) (fun H locs hw => ?_)
  have hT2 : TC (sI (sI σ mc 5 0) mc 4 0) := TC.w hT1 (tcw_8_4 (tck_mc_0 mc hmc) (by (try simp (disch := omega) only [ta_lt, ta_le, ta_eq, tb_lt, tb_le, tb_eq, tw, tnI, tsub1, tsv, tsb32, tn32 1 (by decide), tnj 1 (by decide), tl32 0 (by decide), tl64 0 (by decide)]); omega))
  have hF2 : frC (fun x y => (x = mc + 1) ∨ (x = mc + 3) ∨ (x = mc + 4) ∨ (x = mc ∧ y = 4) ∨ (x = mc ∧ y = 5) ∨ (x = mc ∧ y = 6) ∨ (x = mc ∧ y = 8)) σ (sI (sI σ mc 5 0) mc 4 0) := frC.w hF1 (by show (mc = mc + 1) ∨ (mc = mc + 3) ∨ (mc = mc + 4) ∨ (mc = mc ∧ 4 = 4) ∨ (mc = mc ∧ 4 = 5) ∨ (mc = mc ∧ 4 = 6) ∨ (mc = mc ∧ 4 = 8); exact Or.inr (Or.inr (Or.inr (Or.inl (⟨rfl, rfl⟩)))))
  refine lv_aload_n hx hb (dkP dF_42 DX0_goThrough (i := 6) rfl rfl) rfl (lv_at hl 0 rfl) ?_
  refine z_gr C0 hw mc 3 (mc + 4) (fk_of (shl_mc_0 mc hmc) rfl) fl_X0_24 (dk2 dF_180 DX0_goThrough (i := 7) rfl rfl rfl) ?_
  refine lv_iconst (v := 0) hx hb (dkP dF_3 DX0_goThrough (i := 8) rfl rfl) (by decide) ?_
  refine zk_V hw (zr_S (As := [.ref (ad (mc + 4)), .int 0]) (rest := []) C0 (c_J7_fill_53178_t l G kc ad (sI (sI σ mc 5 0) mc 4 0) mc 0 hmc hT2 _) cs_J7_fill_53178 lk_X0_48 (zp_S C0 hRo hw) rfl hl.1 rfl ⟨by decide, by decide⟩ (Nat.le_of_ble_eq_true rfl) (dk2 dF_184 DX0_goThrough (i := 9) rfl rfl rfl) ⟨Nat.le_refl _, Nat.le_refl _⟩) (fun s3 H locs hp hw => ?_)
  obtain ⟨f3_0, hT3, hG3⟩ := hp
  have hF3 : frC (fun x y => (x = mc + 1) ∨ (x = mc + 3) ∨ (x = mc + 4) ∨ (x = mc ∧ y = 4) ∨ (x = mc ∧ y = 5) ∨ (x = mc ∧ y = 6) ∨ (x = mc ∧ y = 8)) σ s3 := frC.t hF2 hG3 (fun x y h => by have h : (x = mc + 4) := h; show (x = mc + 1) ∨ (x = mc + 3) ∨ (x = mc + 4) ∨ (x = mc ∧ y = 4) ∨ (x = mc ∧ y = 5) ∨ (x = mc ∧ y = 6) ∨ (x = mc ∧ y = 8); exact Or.inr (Or.inr (Or.inl h)))
  refine lv_aload_n hx hb (dkP dF_42 DX0_goThrough (i := 10) rfl rfl) rfl (lv_at hl 0 rfl) ?_
  refine lv_iconst (v := 0) hx hb (dkP dF_3 DX0_goThrough (i := 11) rfl rfl) (by decide) ?_
  refine z_pi C0 hw mc 8 (fk_of (shl_mc_0 mc hmc) rfl) fp_X0_54 (dk2 dF_181 DX0_goThrough (i := 12) rfl rfl rfl) (fun H locs hw => ?_)
  have hT4 : TC (sI s3 mc 8 0) := TC.w hT3 (tcw_8_8 (tck_mc_0 mc hmc))
  have hF4 : frC (fun x y => (x = mc + 1) ∨ (x = mc + 3) ∨ (x = mc + 4) ∨ (x = mc ∧ y = 4) ∨ (x = mc ∧ y = 5) ∨ (x = mc ∧ y = 6) ∨ (x = mc ∧ y = 8)) σ (sI s3 mc 8 0) := frC.w hF3 (by show (mc = mc + 1) ∨ (mc = mc + 3) ∨ (mc = mc + 4) ∨ (mc = mc ∧ 8 = 4) ∨ (mc = mc ∧ 8 = 5) ∨ (mc = mc ∧ 8 = 6) ∨ (mc = mc ∧ 8 = 8); exact Or.inr (Or.inr (Or.inr (Or.inr (Or.inr (Or.inr (⟨rfl, rfl⟩)))))))
  refine lv_aload_n hx hb (dkP dF_42 DX0_goThrough (i := 13) rfl rfl) rfl (lv_at hl 0 rfl) ?_
  refine lv_iconst (v := (-1)) hx hb (dkP dF_2 DX0_goThrough (i := 14) rfl rfl) (by decide) ?_
  refine z_pi C0 hw mc 6 (fk_of (shl_mc_0 mc hmc) rfl) fp_X0_57 (dk2 dF_181 DX0_goThrough (i := 15) rfl rfl rfl) (fun H locs hw => ?_)
  have hT5 : TC (sI (sI s3 mc 8 0) mc 6 (-1)) := TC.w hT4 (tcw_8_6 (tck_mc_0 mc hmc))
  have hF5 : frC (fun x y => (x = mc + 1) ∨ (x = mc + 3) ∨ (x = mc + 4) ∨ (x = mc ∧ y = 4) ∨ (x = mc ∧ y = 5) ∨ (x = mc ∧ y = 6) ∨ (x = mc ∧ y = 8)) σ (sI (sI s3 mc 8 0) mc 6 (-1)) := frC.w hF4 (by show (mc = mc + 1) ∨ (mc = mc + 3) ∨ (mc = mc + 4) ∨ (mc = mc ∧ 6 = 4) ∨ (mc = mc ∧ 6 = 5) ∨ (mc = mc ∧ 6 = 6) ∨ (mc = mc ∧ 6 = 8); exact Or.inr (Or.inr (Or.inr (Or.inr (Or.inr (Or.inl (⟨rfl, rfl⟩)))))))
  refine lv_iconst (v := 0) hx hb (dkP dF_3 DX0_goThrough (i := 16) rfl rfl) (by decide) ?_
  refine lv_istore_n (lv' := [(3, .int 0), (0, .ref (ad mc)), (1, .ref (ad t)), (2, .int bd)]) hx hb (dkP dF_62 DX0_goThrough (i := 17) rfl rfl) rfl hl (by decide) rfl (fun ls hl => ?_)
  have lp7 : ∀ (nq : Nat) (q3_30 : Nat) (a : Nat) (τ6 : Sg) (H : Heap) (locs : List Loc) (ls : Array Slot), 101 - a < nq → (q3_30 ≤ 24) → (τ6.1 mc 5 = nI a) → (a ≤ 100) → (∃ q, τ6.1 mc 4 = nI q ∧ q ≤ a) → (∀ i, i < a → (τ6.1 (mc + 3) i).toInt < (zs : Int)) → (TC τ6) → (frC (fun x y => (x = mc + 1) ∨ (x = mc + 3) ∨ (x = mc + 4) ∨ (x = mc ∧ y = 4) ∨ (x = mc ∧ y = 5) ∨ (x = mc ∧ y = 6) ∨ (x = mc ∧ y = 8)) σ τ6) → St G kc A s.heap shC ad τ6 H locs → lv_has ls 4 [(3, .int (nI q3_30)), (0, .ref (ad mc)), (1, .ref (ad t)), (2, .int bd)] → W pr l e { frames := 2, cells := 0, slots := 0, locals := 52 } s m ([.ref (ad mc), .ref (ad t), .int bd] : List Value).toArray below meth c H locs 0 0 (MQ below (va_Qv (fun σ1 => (∃ a, σ1.1 mc 5 = nI a ∧ a ≤ 100 ∧ ∀ i, i < a → (σ1.1 (mc + 3) i).toInt < (zs : Int)) ∧ TC σ1 ∧ frC (fun x y => (x = mc + 1) ∨ (x = mc + 3) ∨ (x = mc + 4) ∨ (x = mc ∧ y = 4) ∨ (x = mc ∧ y = 5) ∨ (x = mc ∧ y = 6) ∨ (x = mc ∧ y = 8)) σ σ1) (PoC G kc shC ad A) A) ([.ref (ad mc), .ref (ad t), .int bd] : List Value).toArray s 0 0 A) (F0 m 30 ls []) := by
    intro nq
    induction nq with
    | zero => intro q3_30 a τ6 H locs ls hmu; exact absurd hmu (Nat.not_lt_zero _)
    | succ nq ih7 =>
      intro q3_30 a τ6 H locs ls hmu hq3_30 hac ha1 hif htr hT_τ6 hF_τ6 hw hl
      refine lv_aload_n hx hb (dkP dF_42 DX0_goThrough (i := 18) rfl rfl) rfl (lv_at hl 1 rfl) ?_
      refine z_gi C0 hw mc 6 (fk_of (shl_mc_0 mc hmc) rfl) fl_X0_57 (dk2 dF_180 DX0_goThrough (i := 19) rfl rfl rfl) ?_
      obtain ⟨v8, ev8⟩ : ∃ y : Int32, τ6.1 mc 6 = y := ⟨_, rfl⟩
      refine z_top (y := v8) ev8 ?_
      refine lv_iconst (v := (-1)) hx hb (dkP dF_2 DX0_goThrough (i := 20) rfl rfl) (by decide) ?_
      refine lv_icmp_ne (tgt := 102) hx hb (dkS dF_160 DX0_goThrough (i := 21) rfl rfl rfl) (by decide) (fun c9 => ?_) (fun c9 => ?_)
      · (try simp (disch := omega) only [ta_lt, ta_le, ta_eq, tnI, tn32 1 (by decide)] at c9)
        refine lv_aload_n hx hb (dkP dF_42 DX0_goThrough (i := 60) rfl rfl) rfl (lv_at hl 1 rfl) ?_
        refine z_gi C0 hw mc 6 (fk_of (shl_mc_0 mc hmc) rfl) fl_X0_57 (dk2 dF_180 DX0_goThrough (i := 61) rfl rfl rfl) ?_
        refine z_top (y := v8) ev8 ?_
        refine lv_iconst (v := (-1)) hx hb (dkP dF_2 DX0_goThrough (i := 62) rfl rfl) (by decide) ?_
        refine lv_icmp_ne (tgt := 127) hx hb (dkS dF_160 DX0_goThrough (i := 63) rfl rfl rfl) (by decide) (fun c10 => ?_) (fun c10 => ?_)
        · (try simp (disch := omega) only [ta_lt, ta_le, ta_eq, tnI, tn32 1 (by decide)] at c10)
          exact z_vret C0 hr hlk hw (⟨⟨a, hac, ha1, fun i hi => htr i hi⟩, hT_τ6, hF_τ6⟩) (dkP dF_177 DX0_goThrough (i := 73) rfl rfl)
        · (try simp (disch := omega) only [ta_lt, ta_le, ta_eq, tnI, tn32 1 (by decide)] at c10)
          refine lv_aload_n hx hb (dkP dF_42 DX0_goThrough (i := 64) rfl rfl) rfl (lv_at hl 1 rfl) ?_
          refine lv_iload_n hx hb (dkP dF_29 DX0_goThrough (i := 65) rfl rfl) rfl (lv_at hl 0 rfl) ?_
          refine lv_aload_n hx hb (dkP dF_43 DX0_goThrough (i := 66) rfl rfl) rfl (lv_at hl 2 rfl) ?_
          refine z_gi C0 hw t 1 (fk_of (shl_ot_0 t ht) rfl) fl_X0_60 (dk2 dF_180 DX0_goThrough (i := 67) rfl rfl rfl) ?_
          refine z_top (y := (nI zs)) ((hF_τ6.1 t 1 (by show ¬ ((t = mc + 1) ∨ (t = mc + 3) ∨ (t = mc + 4) ∨ (t = mc ∧ 1 = 4) ∨ (t = mc ∧ 1 = 5) ∨ (t = mc ∧ 1 = 6) ∨ (t = mc ∧ 1 = 8)); omega)).trans hsz) ?_
          refine lv_icmp_ge (tgt := 123) hx hb (dkS dF_162 DX0_goThrough (i := 68) rfl rfl rfl) (by decide) (fun c11 => ?_) (fun c11 => ?_)
          · simp (disch := omega) only [ta_lt, ta_le, ta_eq, tnI] at c11
            refine lv_iconst (v := 0) hx hb (dkP dF_3 DX0_goThrough (i := 71) rfl rfl) (by decide) ?_
            refine z_pi C0 hw mc 6 (fk_of (shl_mc_0 mc hmc) rfl) fp_X0_57 (dk2 dF_181 DX0_goThrough (i := 72) rfl rfl rfl) (fun H locs hw => ?_)
            have hT12 : TC (sI τ6 mc 6 0) := TC.w hT_τ6 (tcw_8_6 (tck_mc_0 mc hmc))
            have hF12 : frC (fun x y => (x = mc + 1) ∨ (x = mc + 3) ∨ (x = mc + 4) ∨ (x = mc ∧ y = 4) ∨ (x = mc ∧ y = 5) ∨ (x = mc ∧ y = 6) ∨ (x = mc ∧ y = 8)) σ (sI τ6 mc 6 0) := frC.w hF_τ6 (by show (mc = mc + 1) ∨ (mc = mc + 3) ∨ (mc = mc + 4) ∨ (mc = mc ∧ 6 = 4) ∨ (mc = mc ∧ 6 = 5) ∨ (mc = mc ∧ 6 = 6) ∨ (mc = mc ∧ 6 = 8); exact Or.inr (Or.inr (Or.inr (Or.inr (Or.inr (Or.inl (⟨rfl, rfl⟩)))))))
            exact z_vret C0 hr hlk hw (⟨⟨a, ((rd_n (by omega)).trans hac), ha1, fun i hi => by rw [((rd_n (by omega)).trans rfl)]; exact htr i hi⟩, hT12, hF12⟩) (dkP dF_177 DX0_goThrough (i := 73) rfl rfl)
          · simp (disch := omega) only [ta_lt, ta_le, ta_eq, tnI] at c11
            refine lv_iconst (v := 4) hx hb (dkP dF_7 DX0_goThrough (i := 69) rfl rfl) (by decide) ?_
            refine lv_goto (tgt := 124) hx hb (dkS dF_167 DX0_goThrough (i := 70) rfl rfl rfl) (by decide) ?_
            refine z_pi C0 hw mc 6 (fk_of (shl_mc_0 mc hmc) rfl) fp_X0_57 (dk2 dF_181 DX0_goThrough (i := 72) rfl rfl rfl) (fun H locs hw => ?_)
            have hT13 : TC (sI τ6 mc 6 4) := TC.w hT_τ6 (tcw_8_6 (tck_mc_0 mc hmc))
            have hF13 : frC (fun x y => (x = mc + 1) ∨ (x = mc + 3) ∨ (x = mc + 4) ∨ (x = mc ∧ y = 4) ∨ (x = mc ∧ y = 5) ∨ (x = mc ∧ y = 6) ∨ (x = mc ∧ y = 8)) σ (sI τ6 mc 6 4) := frC.w hF_τ6 (by show (mc = mc + 1) ∨ (mc = mc + 3) ∨ (mc = mc + 4) ∨ (mc = mc ∧ 6 = 4) ∨ (mc = mc ∧ 6 = 5) ∨ (mc = mc ∧ 6 = 6) ∨ (mc = mc ∧ 6 = 8); exact Or.inr (Or.inr (Or.inr (Or.inr (Or.inr (Or.inl (⟨rfl, rfl⟩)))))))
            exact z_vret C0 hr hlk hw (⟨⟨a, ((rd_n (by omega)).trans hac), ha1, fun i hi => by rw [((rd_n (by omega)).trans rfl)]; exact htr i hi⟩, hT13, hF13⟩) (dkP dF_177 DX0_goThrough (i := 73) rfl rfl)
      · (try simp (disch := omega) only [ta_lt, ta_le, ta_eq, tnI, tn32 1 (by decide)] at c9)
        refine lv_iload_n hx hb (dkP dF_29 DX0_goThrough (i := 22) rfl rfl) rfl (lv_at hl 0 rfl) ?_
        refine lv_aload_n hx hb (dkP dF_43 DX0_goThrough (i := 23) rfl rfl) rfl (lv_at hl 2 rfl) ?_
        refine z_gi C0 hw t 1 (fk_of (shl_ot_0 t ht) rfl) fl_X0_60 (dk2 dF_180 DX0_goThrough (i := 24) rfl rfl rfl) ?_
        refine z_top (y := (nI zs)) ((hF_τ6.1 t 1 (by show ¬ ((t = mc + 1) ∨ (t = mc + 3) ∨ (t = mc + 4) ∨ (t = mc ∧ 1 = 4) ∨ (t = mc ∧ 1 = 5) ∨ (t = mc ∧ 1 = 6) ∨ (t = mc ∧ 1 = 8)); omega)).trans hsz) ?_
        refine lv_icmp_ge (tgt := 102) hx hb (dkS dF_162 DX0_goThrough (i := 25) rfl rfl rfl) (by decide) (fun c14 => ?_) (fun c14 => ?_)
        · simp (disch := omega) only [ta_lt, ta_le, ta_eq, tnI] at c14
          refine lv_aload_n hx hb (dkP dF_42 DX0_goThrough (i := 60) rfl rfl) rfl (lv_at hl 1 rfl) ?_
          refine z_gi C0 hw mc 6 (fk_of (shl_mc_0 mc hmc) rfl) fl_X0_57 (dk2 dF_180 DX0_goThrough (i := 61) rfl rfl rfl) ?_
          refine z_top (y := v8) ev8 ?_
          refine lv_iconst (v := (-1)) hx hb (dkP dF_2 DX0_goThrough (i := 62) rfl rfl) (by decide) ?_
          refine lv_icmp_ne (tgt := 127) hx hb (dkS dF_160 DX0_goThrough (i := 63) rfl rfl rfl) (by decide) (fun c15 => ?_) (fun c15 => ?_)
          · (try simp (disch := omega) only [ta_lt, ta_le, ta_eq, tnI, tn32 1 (by decide)] at c15)
            exact z_vret C0 hr hlk hw (⟨⟨a, hac, ha1, fun i hi => htr i hi⟩, hT_τ6, hF_τ6⟩) (dkP dF_177 DX0_goThrough (i := 73) rfl rfl)
          · (try simp (disch := omega) only [ta_lt, ta_le, ta_eq, tnI, tn32 1 (by decide)] at c15)
            refine lv_aload_n hx hb (dkP dF_42 DX0_goThrough (i := 64) rfl rfl) rfl (lv_at hl 1 rfl) ?_
            refine lv_iload_n hx hb (dkP dF_29 DX0_goThrough (i := 65) rfl rfl) rfl (lv_at hl 0 rfl) ?_
            refine lv_aload_n hx hb (dkP dF_43 DX0_goThrough (i := 66) rfl rfl) rfl (lv_at hl 2 rfl) ?_
            refine z_gi C0 hw t 1 (fk_of (shl_ot_0 t ht) rfl) fl_X0_60 (dk2 dF_180 DX0_goThrough (i := 67) rfl rfl rfl) ?_
            refine z_top (y := (nI zs)) ((hF_τ6.1 t 1 (by show ¬ ((t = mc + 1) ∨ (t = mc + 3) ∨ (t = mc + 4) ∨ (t = mc ∧ 1 = 4) ∨ (t = mc ∧ 1 = 5) ∨ (t = mc ∧ 1 = 6) ∨ (t = mc ∧ 1 = 8)); omega)).trans hsz) ?_
            refine lv_icmp_ge (tgt := 123) hx hb (dkS dF_162 DX0_goThrough (i := 68) rfl rfl rfl) (by decide) (fun c16 => ?_) (fun c16 => ?_)
            · simp (disch := omega) only [ta_lt, ta_le, ta_eq, tnI] at c16
              refine lv_iconst (v := 0) hx hb (dkP dF_3 DX0_goThrough (i := 71) rfl rfl) (by decide) ?_
              refine z_pi C0 hw mc 6 (fk_of (shl_mc_0 mc hmc) rfl) fp_X0_57 (dk2 dF_181 DX0_goThrough (i := 72) rfl rfl rfl) (fun H locs hw => ?_)
              have hT17 : TC (sI τ6 mc 6 0) := TC.w hT_τ6 (tcw_8_6 (tck_mc_0 mc hmc))
              have hF17 : frC (fun x y => (x = mc + 1) ∨ (x = mc + 3) ∨ (x = mc + 4) ∨ (x = mc ∧ y = 4) ∨ (x = mc ∧ y = 5) ∨ (x = mc ∧ y = 6) ∨ (x = mc ∧ y = 8)) σ (sI τ6 mc 6 0) := frC.w hF_τ6 (by show (mc = mc + 1) ∨ (mc = mc + 3) ∨ (mc = mc + 4) ∨ (mc = mc ∧ 6 = 4) ∨ (mc = mc ∧ 6 = 5) ∨ (mc = mc ∧ 6 = 6) ∨ (mc = mc ∧ 6 = 8); exact Or.inr (Or.inr (Or.inr (Or.inr (Or.inr (Or.inl (⟨rfl, rfl⟩)))))))
              exact z_vret C0 hr hlk hw (⟨⟨a, ((rd_n (by omega)).trans hac), ha1, fun i hi => by rw [((rd_n (by omega)).trans rfl)]; exact htr i hi⟩, hT17, hF17⟩) (dkP dF_177 DX0_goThrough (i := 73) rfl rfl)
            · simp (disch := omega) only [ta_lt, ta_le, ta_eq, tnI] at c16
              refine lv_iconst (v := 4) hx hb (dkP dF_7 DX0_goThrough (i := 69) rfl rfl) (by decide) ?_
              refine lv_goto (tgt := 124) hx hb (dkS dF_167 DX0_goThrough (i := 70) rfl rfl rfl) (by decide) ?_
              refine z_pi C0 hw mc 6 (fk_of (shl_mc_0 mc hmc) rfl) fp_X0_57 (dk2 dF_181 DX0_goThrough (i := 72) rfl rfl rfl) (fun H locs hw => ?_)
              have hT18 : TC (sI τ6 mc 6 4) := TC.w hT_τ6 (tcw_8_6 (tck_mc_0 mc hmc))
              have hF18 : frC (fun x y => (x = mc + 1) ∨ (x = mc + 3) ∨ (x = mc + 4) ∨ (x = mc ∧ y = 4) ∨ (x = mc ∧ y = 5) ∨ (x = mc ∧ y = 6) ∨ (x = mc ∧ y = 8)) σ (sI τ6 mc 6 4) := frC.w hF_τ6 (by show (mc = mc + 1) ∨ (mc = mc + 3) ∨ (mc = mc + 4) ∨ (mc = mc ∧ 6 = 4) ∨ (mc = mc ∧ 6 = 5) ∨ (mc = mc ∧ 6 = 6) ∨ (mc = mc ∧ 6 = 8); exact Or.inr (Or.inr (Or.inr (Or.inr (Or.inr (Or.inl (⟨rfl, rfl⟩)))))))
              exact z_vret C0 hr hlk hw (⟨⟨a, ((rd_n (by omega)).trans hac), ha1, fun i hi => by rw [((rd_n (by omega)).trans rfl)]; exact htr i hi⟩, hT18, hF18⟩) (dkP dF_177 DX0_goThrough (i := 73) rfl rfl)
        · simp (disch := omega) only [ta_lt, ta_le, ta_eq, tnI] at c14
          refine lv_aload_n hx hb (dkP dF_42 DX0_goThrough (i := 26) rfl rfl) rfl (lv_at hl 1 rfl) ?_
          refine z_gi C0 hw mc 5 (fk_of (shl_mc_0 mc hmc) rfl) fl_X0_41 (dk2 dF_180 DX0_goThrough (i := 27) rfl rfl rfl) ?_
          refine z_top (y := (nI a)) hac ?_
          refine lv_bipush (v := 100) hx hb (dks dF_16 DX0_goThrough (i := 28) rfl rfl rfl) (by decide) ?_
          refine lv_icmp_ge (tgt := 102) hx hb (dkS dF_162 DX0_goThrough (i := 29) rfl rfl rfl) (by decide) (fun c19 => ?_) (fun c19 => ?_)
          · simp (disch := omega) only [ta_lt, ta_le, ta_eq, tnI, tl32 100 (by decide)] at c19
            refine lv_aload_n hx hb (dkP dF_42 DX0_goThrough (i := 60) rfl rfl) rfl (lv_at hl 1 rfl) ?_
            refine z_gi C0 hw mc 6 (fk_of (shl_mc_0 mc hmc) rfl) fl_X0_57 (dk2 dF_180 DX0_goThrough (i := 61) rfl rfl rfl) ?_
            refine z_top (y := v8) ev8 ?_
            refine lv_iconst (v := (-1)) hx hb (dkP dF_2 DX0_goThrough (i := 62) rfl rfl) (by decide) ?_
            refine lv_icmp_ne (tgt := 127) hx hb (dkS dF_160 DX0_goThrough (i := 63) rfl rfl rfl) (by decide) (fun c20 => ?_) (fun c20 => ?_)
            · (try simp (disch := omega) only [ta_lt, ta_le, ta_eq, tnI, tn32 1 (by decide)] at c20)
              exact z_vret C0 hr hlk hw (⟨⟨a, hac, ha1, fun i hi => htr i hi⟩, hT_τ6, hF_τ6⟩) (dkP dF_177 DX0_goThrough (i := 73) rfl rfl)
            · (try simp (disch := omega) only [ta_lt, ta_le, ta_eq, tnI, tn32 1 (by decide)] at c20)
              refine lv_aload_n hx hb (dkP dF_42 DX0_goThrough (i := 64) rfl rfl) rfl (lv_at hl 1 rfl) ?_
              refine lv_iload_n hx hb (dkP dF_29 DX0_goThrough (i := 65) rfl rfl) rfl (lv_at hl 0 rfl) ?_
              refine lv_aload_n hx hb (dkP dF_43 DX0_goThrough (i := 66) rfl rfl) rfl (lv_at hl 2 rfl) ?_
              refine z_gi C0 hw t 1 (fk_of (shl_ot_0 t ht) rfl) fl_X0_60 (dk2 dF_180 DX0_goThrough (i := 67) rfl rfl rfl) ?_
              refine z_top (y := (nI zs)) ((hF_τ6.1 t 1 (by show ¬ ((t = mc + 1) ∨ (t = mc + 3) ∨ (t = mc + 4) ∨ (t = mc ∧ 1 = 4) ∨ (t = mc ∧ 1 = 5) ∨ (t = mc ∧ 1 = 6) ∨ (t = mc ∧ 1 = 8)); omega)).trans hsz) ?_
              refine lv_icmp_ge (tgt := 123) hx hb (dkS dF_162 DX0_goThrough (i := 68) rfl rfl rfl) (by decide) (fun c21 => ?_) (fun c21 => ?_)
              · simp (disch := omega) only [ta_lt, ta_le, ta_eq, tnI] at c21
                refine lv_iconst (v := 0) hx hb (dkP dF_3 DX0_goThrough (i := 71) rfl rfl) (by decide) ?_
                refine z_pi C0 hw mc 6 (fk_of (shl_mc_0 mc hmc) rfl) fp_X0_57 (dk2 dF_181 DX0_goThrough (i := 72) rfl rfl rfl) (fun H locs hw => ?_)
                have hT22 : TC (sI τ6 mc 6 0) := TC.w hT_τ6 (tcw_8_6 (tck_mc_0 mc hmc))
                have hF22 : frC (fun x y => (x = mc + 1) ∨ (x = mc + 3) ∨ (x = mc + 4) ∨ (x = mc ∧ y = 4) ∨ (x = mc ∧ y = 5) ∨ (x = mc ∧ y = 6) ∨ (x = mc ∧ y = 8)) σ (sI τ6 mc 6 0) := frC.w hF_τ6 (by show (mc = mc + 1) ∨ (mc = mc + 3) ∨ (mc = mc + 4) ∨ (mc = mc ∧ 6 = 4) ∨ (mc = mc ∧ 6 = 5) ∨ (mc = mc ∧ 6 = 6) ∨ (mc = mc ∧ 6 = 8); exact Or.inr (Or.inr (Or.inr (Or.inr (Or.inr (Or.inl (⟨rfl, rfl⟩)))))))
                exact z_vret C0 hr hlk hw (⟨⟨a, ((rd_n (by omega)).trans hac), ha1, fun i hi => by rw [((rd_n (by omega)).trans rfl)]; exact htr i hi⟩, hT22, hF22⟩) (dkP dF_177 DX0_goThrough (i := 73) rfl rfl)
              · simp (disch := omega) only [ta_lt, ta_le, ta_eq, tnI] at c21
                refine lv_iconst (v := 4) hx hb (dkP dF_7 DX0_goThrough (i := 69) rfl rfl) (by decide) ?_
                refine lv_goto (tgt := 124) hx hb (dkS dF_167 DX0_goThrough (i := 70) rfl rfl rfl) (by decide) ?_
                refine z_pi C0 hw mc 6 (fk_of (shl_mc_0 mc hmc) rfl) fp_X0_57 (dk2 dF_181 DX0_goThrough (i := 72) rfl rfl rfl) (fun H locs hw => ?_)
                have hT23 : TC (sI τ6 mc 6 4) := TC.w hT_τ6 (tcw_8_6 (tck_mc_0 mc hmc))
                have hF23 : frC (fun x y => (x = mc + 1) ∨ (x = mc + 3) ∨ (x = mc + 4) ∨ (x = mc ∧ y = 4) ∨ (x = mc ∧ y = 5) ∨ (x = mc ∧ y = 6) ∨ (x = mc ∧ y = 8)) σ (sI τ6 mc 6 4) := frC.w hF_τ6 (by show (mc = mc + 1) ∨ (mc = mc + 3) ∨ (mc = mc + 4) ∨ (mc = mc ∧ 6 = 4) ∨ (mc = mc ∧ 6 = 5) ∨ (mc = mc ∧ 6 = 6) ∨ (mc = mc ∧ 6 = 8); exact Or.inr (Or.inr (Or.inr (Or.inr (Or.inr (Or.inl (⟨rfl, rfl⟩)))))))
                exact z_vret C0 hr hlk hw (⟨⟨a, ((rd_n (by omega)).trans hac), ha1, fun i hi => by rw [((rd_n (by omega)).trans rfl)]; exact htr i hi⟩, hT23, hF23⟩) (dkP dF_177 DX0_goThrough (i := 73) rfl rfl)
          · simp (disch := omega) only [ta_lt, ta_le, ta_eq, tnI, tl32 100 (by decide)] at c19
            obtain ⟨q, hq, hqa⟩ := hif
            refine lv_aload_n hx hb (dkP dF_42 DX0_goThrough (i := 30) rfl rfl) rfl (lv_at hl 1 rfl) ?_
            refine z_gr C0 hw mc 2 (mc + 3) (fk_of (shl_mc_0 mc hmc) rfl) fl_X0_18 (dk2 dF_180 DX0_goThrough (i := 31) rfl rfl rfl) ?_
            refine lv_aload_n hx hb (dkP dF_42 DX0_goThrough (i := 32) rfl rfl) rfl (lv_at hl 1 rfl) ?_
            refine z_gi C0 hw mc 5 (fk_of (shl_mc_0 mc hmc) rfl) fl_X0_41 (dk2 dF_180 DX0_goThrough (i := 33) rfl rfl rfl) ?_
            refine z_top (y := (nI a)) hac ?_
            refine lv_iload_n hx hb (dkP dF_29 DX0_goThrough (i := 34) rfl rfl) rfl (lv_at hl 0 rfl) ?_
            refine lv_i2b hx hb (dkP dF_145 DX0_goThrough (i := 35) rfl rfl) rfl ?_
            refine z_top (y := nI q3_30) (i2b_nI (by omega)) ?_
            refine z_bastN (n := 100) C0 hw (mc + 3) a (ak_of (shl_mc_3 mc hmc)) (by omega) (by decide) (dkP dF_84 DX0_goThrough (i := 36) rfl rfl) (fun H locs hw => ?_)
            have hT24 : TC (sI τ6 (mc + 3) a ((nI q3_30).toInt8.toInt32)) := TC.w hT_τ6 (tcw_9 (tck_mc_3 mc hmc) (by rw [i2b_nI (by omega)]; (try simp only [lg_cmp_lt, lg_cmp_le, lg_cmp_gt, lg_cmp_ge, lg_cmp_eq] at f3_0); (try simp (disch := omega) only [ta_lt, ta_le, ta_eq, tb_lt, tb_le, tb_eq, tw, tnI, tsub1, tsv, tsb32, tn32 1 (by decide), tnj 1 (by decide), tl32 0 (by decide), tl64 0 (by decide), tl32 4 (by decide), tl64 4 (by decide), tl32 100 (by decide), tl64 100 (by decide)] at f3_0); (try simp only [lg_cmp_lt, lg_cmp_le, lg_cmp_gt, lg_cmp_ge, lg_cmp_eq] at c9); (try simp (disch := omega) only [ta_lt, ta_le, ta_eq, tb_lt, tb_le, tb_eq, tw, tnI, tsub1, tsv, tsb32, tn32 1 (by decide), tnj 1 (by decide), tl32 0 (by decide), tl64 0 (by decide), tl32 4 (by decide), tl64 4 (by decide), tl32 100 (by decide), tl64 100 (by decide)] at c9); (try simp only [lg_cmp_lt, lg_cmp_le, lg_cmp_gt, lg_cmp_ge, lg_cmp_eq] at c14); (try simp (disch := omega) only [ta_lt, ta_le, ta_eq, tb_lt, tb_le, tb_eq, tw, tnI, tsub1, tsv, tsb32, tn32 1 (by decide), tnj 1 (by decide), tl32 0 (by decide), tl64 0 (by decide), tl32 4 (by decide), tl64 4 (by decide), tl32 100 (by decide), tl64 100 (by decide)] at c14); (try simp only [lg_cmp_lt, lg_cmp_le, lg_cmp_gt, lg_cmp_ge, lg_cmp_eq] at c19); (try simp (disch := omega) only [ta_lt, ta_le, ta_eq, tb_lt, tb_le, tb_eq, tw, tnI, tsub1, tsv, tsb32, tn32 1 (by decide), tnj 1 (by decide), tl32 0 (by decide), tl64 0 (by decide), tl32 4 (by decide), tl64 4 (by decide), tl32 100 (by decide), tl64 100 (by decide)] at c19); (try simp (disch := omega) only [ta_lt, ta_le, ta_eq, tb_lt, tb_le, tb_eq, tw, tnI, tsub1, tsv, tsb32, tn32 1 (by decide), tnj 1 (by decide), tl32 0 (by decide), tl64 0 (by decide), tl32 4 (by decide), tl64 4 (by decide), tl32 100 (by decide), tl64 100 (by decide)]); omega))
            have hF24 : frC (fun x y => (x = mc + 1) ∨ (x = mc + 3) ∨ (x = mc + 4) ∨ (x = mc ∧ y = 4) ∨ (x = mc ∧ y = 5) ∨ (x = mc ∧ y = 6) ∨ (x = mc ∧ y = 8)) σ (sI τ6 (mc + 3) a ((nI q3_30).toInt8.toInt32)) := frC.w hF_τ6 (by show ((mc + 3) = mc + 1) ∨ ((mc + 3) = mc + 3) ∨ ((mc + 3) = mc + 4) ∨ ((mc + 3) = mc ∧ a = 4) ∨ ((mc + 3) = mc ∧ a = 5) ∨ ((mc + 3) = mc ∧ a = 6) ∨ ((mc + 3) = mc ∧ a = 8); exact Or.inr (Or.inl rfl))
            refine lv_aload_n hx hb (dkP dF_42 DX0_goThrough (i := 37) rfl rfl) rfl (lv_at hl 1 rfl) ?_
            refine lv_aload_n hx hb (dkP dF_42 DX0_goThrough (i := 38) rfl rfl) rfl (lv_at hl 1 rfl) ?_
            refine z_gi C0 hw mc 8 (fk_of (shl_mc_0 mc hmc) rfl) fl_X0_54 (dk2 dF_180 DX0_goThrough (i := 39) rfl rfl rfl) ?_
            obtain ⟨v25, ev25⟩ : ∃ y : Int32, (sI τ6 (mc + 3) a ((nI q3_30).toInt8.toInt32)).1 mc 8 = y := ⟨_, rfl⟩
            refine z_top (y := v25) ev25 ?_
            refine lv_bipush (v := 31) hx hb (dks dF_16 DX0_goThrough (i := 40) rfl rfl rfl) (by decide) ?_
            refine lv_imul hx hb (dkP dF_104 DX0_goThrough (i := 41) rfl rfl) ?_
            refine lv_iload_n hx hb (dkP dF_29 DX0_goThrough (i := 42) rfl rfl) rfl (lv_at hl 0 rfl) ?_
            refine lv_iadd hx hb (dkP dF_96 DX0_goThrough (i := 43) rfl rfl) ?_
            refine lv_iconst (v := 1) hx hb (dkP dF_4 DX0_goThrough (i := 44) rfl rfl) (by decide) ?_
            refine lv_iadd hx hb (dkP dF_96 DX0_goThrough (i := 45) rfl rfl) ?_
            refine z_pi C0 hw mc 8 (fk_of (shl_mc_0 mc hmc) rfl) fp_X0_54 (dk2 dF_181 DX0_goThrough (i := 46) rfl rfl rfl) (fun H locs hw => ?_)
            have hT26 : TC (sI (sI τ6 (mc + 3) a ((nI q3_30).toInt8.toInt32)) mc 8 (((v25 * 31) + (nI q3_30)) + 1)) := TC.w hT24 (tcw_8_8 (tck_mc_0 mc hmc))
            have hF26 : frC (fun x y => (x = mc + 1) ∨ (x = mc + 3) ∨ (x = mc + 4) ∨ (x = mc ∧ y = 4) ∨ (x = mc ∧ y = 5) ∨ (x = mc ∧ y = 6) ∨ (x = mc ∧ y = 8)) σ (sI (sI τ6 (mc + 3) a ((nI q3_30).toInt8.toInt32)) mc 8 (((v25 * 31) + (nI q3_30)) + 1)) := frC.w hF24 (by show (mc = mc + 1) ∨ (mc = mc + 3) ∨ (mc = mc + 4) ∨ (mc = mc ∧ 8 = 4) ∨ (mc = mc ∧ 8 = 5) ∨ (mc = mc ∧ 8 = 6) ∨ (mc = mc ∧ 8 = 8); exact Or.inr (Or.inr (Or.inr (Or.inr (Or.inr (Or.inr (⟨rfl, rfl⟩)))))))
            refine lv_aload_n hx hb (dkP dF_42 DX0_goThrough (i := 47) rfl rfl) rfl (lv_at hl 1 rfl) ?_
            refine lv_dup hx hb (dkP dF_89 DX0_goThrough (i := 48) rfl rfl) rfl ?_
            refine z_gi C0 hw mc 5 (fk_of (shl_mc_0 mc hmc) rfl) fl_X0_41 (dk2 dF_180 DX0_goThrough (i := 49) rfl rfl rfl) ?_
            refine z_top (y := (nI a)) ((rd_n (by omega)).trans ((rd_n (by omega)).trans hac)) ?_
            refine lv_iconst (v := 1) hx hb (dkP dF_4 DX0_goThrough (i := 50) rfl rfl) (by decide) ?_
            refine lv_iadd hx hb (dkP dF_96 DX0_goThrough (i := 51) rfl rfl) ?_
            refine z_top (y := nI (a + 1)) (by simp only [fa_lit, nI_add, pk_mul]) ?_
            refine z_pi C0 hw mc 5 (fk_of (shl_mc_0 mc hmc) rfl) fp_X0_41 (dk2 dF_181 DX0_goThrough (i := 52) rfl rfl rfl) (fun H locs hw => ?_)
            have hT27 : TC (sI (sI (sI τ6 (mc + 3) a ((nI q3_30).toInt8.toInt32)) mc 8 (((v25 * 31) + (nI q3_30)) + 1)) mc 5 (nI (a + 1))) := TC.w hT26 (tcw_8_5 (tck_mc_0 mc hmc) (by (try simp only [lg_cmp_lt, lg_cmp_le, lg_cmp_gt, lg_cmp_ge, lg_cmp_eq] at f3_0); (try simp (disch := omega) only [ta_lt, ta_le, ta_eq, tb_lt, tb_le, tb_eq, tw, tnI, tsub1, tsv, tsb32, tn32 1 (by decide), tnj 1 (by decide), tl32 0 (by decide), tl64 0 (by decide), tl32 1 (by decide), tl64 1 (by decide), tl32 4 (by decide), tl64 4 (by decide), tl32 31 (by decide), tl64 31 (by decide), tl32 100 (by decide), tl64 100 (by decide)] at f3_0); (try simp only [lg_cmp_lt, lg_cmp_le, lg_cmp_gt, lg_cmp_ge, lg_cmp_eq] at c9); (try simp (disch := omega) only [ta_lt, ta_le, ta_eq, tb_lt, tb_le, tb_eq, tw, tnI, tsub1, tsv, tsb32, tn32 1 (by decide), tnj 1 (by decide), tl32 0 (by decide), tl64 0 (by decide), tl32 1 (by decide), tl64 1 (by decide), tl32 4 (by decide), tl64 4 (by decide), tl32 31 (by decide), tl64 31 (by decide), tl32 100 (by decide), tl64 100 (by decide)] at c9); (try simp only [lg_cmp_lt, lg_cmp_le, lg_cmp_gt, lg_cmp_ge, lg_cmp_eq] at c14); (try simp (disch := omega) only [ta_lt, ta_le, ta_eq, tb_lt, tb_le, tb_eq, tw, tnI, tsub1, tsv, tsb32, tn32 1 (by decide), tnj 1 (by decide), tl32 0 (by decide), tl64 0 (by decide), tl32 1 (by decide), tl64 1 (by decide), tl32 4 (by decide), tl64 4 (by decide), tl32 31 (by decide), tl64 31 (by decide), tl32 100 (by decide), tl64 100 (by decide)] at c14); (try simp only [lg_cmp_lt, lg_cmp_le, lg_cmp_gt, lg_cmp_ge, lg_cmp_eq] at c19); (try simp (disch := omega) only [ta_lt, ta_le, ta_eq, tb_lt, tb_le, tb_eq, tw, tnI, tsub1, tsv, tsb32, tn32 1 (by decide), tnj 1 (by decide), tl32 0 (by decide), tl64 0 (by decide), tl32 1 (by decide), tl64 1 (by decide), tl32 4 (by decide), tl64 4 (by decide), tl32 31 (by decide), tl64 31 (by decide), tl32 100 (by decide), tl64 100 (by decide)] at c19); (try simp (disch := omega) only [ta_lt, ta_le, ta_eq, tb_lt, tb_le, tb_eq, tw, tnI, tsub1, tsv, tsb32, tn32 1 (by decide), tnj 1 (by decide), tl32 0 (by decide), tl64 0 (by decide), tl32 1 (by decide), tl64 1 (by decide), tl32 4 (by decide), tl64 4 (by decide), tl32 31 (by decide), tl64 31 (by decide), tl32 100 (by decide), tl64 100 (by decide)]); omega))
            have hF27 : frC (fun x y => (x = mc + 1) ∨ (x = mc + 3) ∨ (x = mc + 4) ∨ (x = mc ∧ y = 4) ∨ (x = mc ∧ y = 5) ∨ (x = mc ∧ y = 6) ∨ (x = mc ∧ y = 8)) σ (sI (sI (sI τ6 (mc + 3) a ((nI q3_30).toInt8.toInt32)) mc 8 (((v25 * 31) + (nI q3_30)) + 1)) mc 5 (nI (a + 1))) := frC.w hF26 (by show (mc = mc + 1) ∨ (mc = mc + 3) ∨ (mc = mc + 4) ∨ (mc = mc ∧ 5 = 4) ∨ (mc = mc ∧ 5 = 5) ∨ (mc = mc ∧ 5 = 6) ∨ (mc = mc ∧ 5 = 8); exact Or.inr (Or.inr (Or.inr (Or.inr (Or.inl (⟨rfl, rfl⟩))))))
            refine lv_aload_n hx hb (dkP dF_42 DX0_goThrough (i := 53) rfl rfl) rfl (lv_at hl 1 rfl) ?_
            refine lv_aload_n hx hb (dkP dF_43 DX0_goThrough (i := 54) rfl rfl) rfl (lv_at hl 2 rfl) ?_
            refine lv_iload_n hx hb (dkP dF_29 DX0_goThrough (i := 55) rfl rfl) rfl (lv_at hl 0 rfl) ?_
            refine lv_iload_n hx hb (dkP dF_28 DX0_goThrough (i := 56) rfl rfl) rfl (lv_at hl 3 rfl) ?_
            refine zk_I hw (zr_V (As := [.ref (ad t), .int (nI q3_30), .int bd]) (rest := []) C0 (c_X0_doLine l G kc ad (sI (sI (sI τ6 (mc + 3) a ((nI q3_30).toInt8.toInt32)) mc 8 (((v25 * 31) + (nI q3_30)) + 1)) mc 5 (nI (a + 1))) mc t q3_30 bd hmc ht ((rd_n (by omega)).trans ((rd_n (by omega)).trans ((rd_n (by omega)).trans ((hF_τ6.1 t 1 (by show ¬ ((t = mc + 1) ∨ (t = mc + 3) ∨ (t = mc + 4) ∨ (t = mc ∧ 1 = 4) ∨ (t = mc ∧ 1 = 5) ∨ (t = mc ∧ 1 = 6) ∨ (t = mc ∧ 1 = 8)); omega)).trans hsz)))) hsz24 (hV.c (fun x y hxy => ((rd_n (by omega)).trans ((rd_n (by omega)).trans ((rd_n (by omega)).trans ((hF_τ6.1 x y (by show ¬ ((x = mc + 1) ∨ (x = mc + 3) ∨ (x = mc + 4) ∨ (x = mc ∧ y = 4) ∨ (x = mc ∧ y = 5) ∨ (x = mc ∧ y = 6) ∨ (x = mc ∧ y = 8)); omega)).trans rfl)))))) (by omega) ((rd_n (by omega)).trans ((rd_n (by omega)).trans ((rd_n (by omega)).trans hq))) (by omega) hT27 _) cv_X0_doLine lk_X0_65 (zp_V C0 hRo hw mc (shl_mc_0 mc hmc) rfl rfl) rfl hl.1 rfl ⟨by decide, by decide⟩ (Nat.le_of_ble_eq_true rfl) (dk2 dF_182 DX0_goThrough (i := 57) rfl rfl rfl) ⟨Nat.le_refl _, Nat.le_refl _⟩) (fun r28 s28 H locs hp hw => ?_)
            obtain ⟨f28_0, f28_1, hT28, hG28⟩ := hp
            have hF28 : frC (fun x y => (x = mc + 1) ∨ (x = mc + 3) ∨ (x = mc + 4) ∨ (x = mc ∧ y = 4) ∨ (x = mc ∧ y = 5) ∨ (x = mc ∧ y = 6) ∨ (x = mc ∧ y = 8)) σ s28 := frC.t hF27 hG28 (fun x y h => by have h : (x = mc + 1) ∨ (x = mc + 4) ∨ (x = mc ∧ y = 4) ∨ (x = mc ∧ y = 6) := h; show (x = mc + 1) ∨ (x = mc + 3) ∨ (x = mc + 4) ∨ (x = mc ∧ y = 4) ∨ (x = mc ∧ y = 5) ∨ (x = mc ∧ y = 6) ∨ (x = mc ∧ y = 8); rcases h with h | h | h | h; (· exact Or.inl h); (· exact Or.inr (Or.inr (Or.inl h))); (· exact Or.inr (Or.inr (Or.inr (Or.inl h)))); (· exact Or.inr (Or.inr (Or.inr (Or.inr (Or.inr (Or.inl h)))))))
            obtain ⟨n28, hn28, rfl⟩ := rngN (h := 24) f28_0
            refine lv_istore_n (lv' := [(3, .int (nI n28)), (0, .ref (ad mc)), (1, .ref (ad t)), (2, .int bd)]) hx hb (dkP dF_62 DX0_goThrough (i := 58) rfl rfl) rfl hl (by decide) rfl (fun ls hl => ?_)
            refine lv_goto (tgt := 30) hx hb (dkS dF_167 DX0_goThrough (i := 59) rfl rfl rfl) (by decide) ?_
            exact ih7 n28 (a + 1) s28 _ _ _ (by omega) (by (try simp only [lg_cmp_lt, lg_cmp_le, lg_cmp_gt, lg_cmp_ge, lg_cmp_eq] at f3_0); (try simp (disch := omega) only [ta_lt, ta_le, ta_eq, tb_lt, tb_le, tb_eq, tw, tnI, tsub1, tsv, tsb32, tn32 1 (by decide), tnj 1 (by decide), tl32 0 (by decide), tl64 0 (by decide), tl32 1 (by decide), tl64 1 (by decide), tl32 4 (by decide), tl64 4 (by decide), tl32 31 (by decide), tl64 31 (by decide), tl32 100 (by decide), tl64 100 (by decide)] at f3_0); (try simp only [lg_cmp_lt, lg_cmp_le, lg_cmp_gt, lg_cmp_ge, lg_cmp_eq] at c9); (try simp (disch := omega) only [ta_lt, ta_le, ta_eq, tb_lt, tb_le, tb_eq, tw, tnI, tsub1, tsv, tsb32, tn32 1 (by decide), tnj 1 (by decide), tl32 0 (by decide), tl64 0 (by decide), tl32 1 (by decide), tl64 1 (by decide), tl32 4 (by decide), tl64 4 (by decide), tl32 31 (by decide), tl64 31 (by decide), tl32 100 (by decide), tl64 100 (by decide)] at c9); (try simp only [lg_cmp_lt, lg_cmp_le, lg_cmp_gt, lg_cmp_ge, lg_cmp_eq] at c14); (try simp (disch := omega) only [ta_lt, ta_le, ta_eq, tb_lt, tb_le, tb_eq, tw, tnI, tsub1, tsv, tsb32, tn32 1 (by decide), tnj 1 (by decide), tl32 0 (by decide), tl64 0 (by decide), tl32 1 (by decide), tl64 1 (by decide), tl32 4 (by decide), tl64 4 (by decide), tl32 31 (by decide), tl64 31 (by decide), tl32 100 (by decide), tl64 100 (by decide)] at c14); (try simp only [lg_cmp_lt, lg_cmp_le, lg_cmp_gt, lg_cmp_ge, lg_cmp_eq] at c19); (try simp (disch := omega) only [ta_lt, ta_le, ta_eq, tb_lt, tb_le, tb_eq, tw, tnI, tsub1, tsv, tsb32, tn32 1 (by decide), tnj 1 (by decide), tl32 0 (by decide), tl64 0 (by decide), tl32 1 (by decide), tl64 1 (by decide), tl32 4 (by decide), tl64 4 (by decide), tl32 31 (by decide), tl64 31 (by decide), tl32 100 (by decide), tl64 100 (by decide)] at c19); (try simp only [lg_cmp_lt, lg_cmp_le, lg_cmp_gt, lg_cmp_ge, lg_cmp_eq] at f28_0); (try simp (disch := omega) only [ta_lt, ta_le, ta_eq, tb_lt, tb_le, tb_eq, tw, tnI, tsub1, tsv, tsb32, tn32 1 (by decide), tnj 1 (by decide), tl32 0 (by decide), tl64 0 (by decide), tl32 1 (by decide), tl64 1 (by decide), tl32 4 (by decide), tl64 4 (by decide), tl32 31 (by decide), tl64 31 (by decide), tl32 100 (by decide), tl64 100 (by decide)] at f28_0); (try simp only [lg_cmp_lt, lg_cmp_le, lg_cmp_gt, lg_cmp_ge, lg_cmp_eq] at f28_1); (try simp (disch := omega) only [ta_lt, ta_le, ta_eq, tb_lt, tb_le, tb_eq, tw, tnI, tsub1, tsv, tsb32, tn32 1 (by decide), tnj 1 (by decide), tl32 0 (by decide), tl64 0 (by decide), tl32 1 (by decide), tl64 1 (by decide), tl32 4 (by decide), tl64 4 (by decide), tl32 31 (by decide), tl64 31 (by decide), tl32 100 (by decide), tl64 100 (by decide)] at f28_1); (try simp (disch := omega) only [ta_lt, ta_le, ta_eq, tb_lt, tb_le, tb_eq, tw, tnI, tsub1, tsv, tsb32, tn32 1 (by decide), tnj 1 (by decide), tl32 0 (by decide), tl64 0 (by decide), tl32 1 (by decide), tl64 1 (by decide), tl32 4 (by decide), tl64 4 (by decide), tl32 31 (by decide), tl64 31 (by decide), tl32 100 (by decide), tl64 100 (by decide)]); omega) ((hG28.1 mc 5 (by show ¬ ((mc = mc + 1) ∨ (mc = mc + 4) ∨ (mc = mc ∧ 5 = 4) ∨ (mc = mc ∧ 5 = 6)); omega)).trans rd_s) (by omega) (by rcases f28_1 with h | h; (· exact ⟨q, h, by omega⟩); (· exact ⟨q + 1, h, by omega⟩)) (fun i hi => by by_cases e_ : i = a; (· rw [e_, ((hG28.1 (mc + 3) a (by show ¬ (((mc + 3) = mc + 1) ∨ ((mc + 3) = mc + 4) ∨ ((mc + 3) = mc ∧ a = 4) ∨ ((mc + 3) = mc ∧ a = 6)); omega)).trans ((rd_n (by omega)).trans ((rd_n (by omega)).trans rd_s))), i2b_nI (by omega), tnI _ (by omega)]; omega); (· rw [((hG28.1 (mc + 3) i (by show ¬ (((mc + 3) = mc + 1) ∨ ((mc + 3) = mc + 4) ∨ ((mc + 3) = mc ∧ i = 4) ∨ ((mc + 3) = mc ∧ i = 6)); omega)).trans ((rd_n (by omega)).trans ((rd_n (by omega)).trans ((rd_n (by omega)).trans rfl))))]; exact htr i (by omega))) hT28 hF28 hw (lv_sub hl [0, 1, 2, 3] rfl)
  exact lp7 _ 0 0 (sI (sI s3 mc 8 0) mc 6 (-1)) _ _ _ (Nat.lt_succ_self _) (by (try simp only [lg_cmp_lt, lg_cmp_le, lg_cmp_gt, lg_cmp_ge, lg_cmp_eq] at f3_0); (try simp (disch := omega) only [ta_lt, ta_le, ta_eq, tb_lt, tb_le, tb_eq, tw, tnI, tsub1, tsv, tsb32, tn32 1 (by decide), tnj 1 (by decide), tl32 0 (by decide), tl64 0 (by decide), tl32 1 (by decide), tl64 1 (by decide), tl32 4 (by decide), tl64 4 (by decide), tl32 31 (by decide), tl64 31 (by decide), tl32 100 (by decide), tl64 100 (by decide)] at f3_0); (try simp (disch := omega) only [ta_lt, ta_le, ta_eq, tb_lt, tb_le, tb_eq, tw, tnI, tsub1, tsv, tsb32, tn32 1 (by decide), tnj 1 (by decide), tl32 0 (by decide), tl64 0 (by decide), tl32 1 (by decide), tl64 1 (by decide), tl32 4 (by decide), tl64 4 (by decide), tl32 31 (by decide), tl64 31 (by decide), tl32 100 (by decide), tl64 100 (by decide)]); omega) (((rd_n (by omega)).trans ((rd_n (by omega)).trans ((hG3.1 mc 5 (by show ¬ ((mc = mc + 4)); omega)).trans ((rd_n (by omega)).trans rd_s)))).trans rfl) (by omega) (⟨0, ((rd_n (by omega)).trans ((rd_n (by omega)).trans ((hG3.1 mc 4 (by show ¬ ((mc = mc + 4)); omega)).trans rd_s))).trans rfl, by omega⟩) (fun i hi => absurd hi (Nat.not_lt_zero i)) hT5 hF5 hw (lv_sub hl [0, 1, 2, 3] rfl)
