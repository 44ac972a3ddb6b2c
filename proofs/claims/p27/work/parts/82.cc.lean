set_option maxRecDepth 20000 in
theorem shc_220 : shC[220]? = some (0, 3, [(1, 221), (1, 222), (0, 0)]) := by rfl
set_option maxRecDepth 20000 in
theorem shc_221 : shC[221]? = some (1, 256, []) := by rfl
theorem tcl_221 : tcL.getD 221 0 = 0 := by decide +kernel
set_option maxRecDepth 100000 in
set_option maxHeartbeats 8000000 in
theorem c_X3_nextBehind (l : Launch) (G : va_G) (kc : KC) (ad : Nat → Nat) (σ : Sg) (dn : Nat) (gn : Nat) (ov : Nat) (hdn : dn < 256) (hgn : gn < 256) (hov : ov < 256) (hC : ∀ i, i < 8 → MYc (σ.1 4) dn gn ov i → (σ.1 221 (dn ||| p2 i)).toInt < 536870912) (hT : TC σ) : MI l G kc yX3_nextBehind cX3_nextBehind 10 (some .int) 0 0 [.ref (ad 220), .ref (ad 1), .int (nI dn), .int (nI gn), .int (nI ov)] shC ad σ (fun r σ1 => ((r = -1 ∧ ∀ i, i < 8 → ¬ MYc (σ.1 4) dn gn ov i) ∨ ∃ b, b < 8 ∧ r = nI b ∧ MYc (σ.1 4) dn gn ov b) ∧ σ1 = σ) := by
  intro sz
  refine z_body (y := yX3_nextBehind) (n := 10) (av := [.ref (ad 220), .ref (ad 1), .int (nI dn), .int (nI gn), .int (nI ov)]) (Qc := fun A => va_Qi (fun r σ1 => ((r = -1 ∧ ∀ i, i < 8 → ¬ MYc (σ.1 4) dn gn ov i) ∨ ∃ b, b < 8 ∧ r = nI b ∧ MYc (σ.1 4) dn gn ov b) ∧ σ1 = σ) (PoC G kc shC ad A) A) (plainFor_of_name (by decide)) (Nat.le_of_ble_eq_true rfl) (fun pr e s m below meth c A C0 hr hlk hnm hw hRo ls hl => ?_) sz
  have hx := C0.1
  have hb := C0.2.1
  have hown := C0.2.2.2.1
  have hts := C0.2.2.2.2.1
  have hl : lv_has ls 10 [(0, .ref (ad 220)), (1, .ref (ad 1)), (2, .int (nI dn)), (3, .int (nI gn)), (4, .int (nI ov))] := hl
  refine lv_iconst (v := (-1)) hx hb (dkP dF_2 DX3_nextBehind (i := 0) rfl rfl) (by decide) ?_
  refine lv_istore (lv' := [(5, .int (-1)), (0, .ref (ad 220)), (1, .ref (ad 1)), (2, .int (nI dn)), (3, .int (nI gn)), (4, .int (nI ov))]) hx hb (dk1 dF_54 DX3_nextBehind (i := 1) rfl rfl rfl) hl (by decide) rfl (fun ls hl => ?_)
  refine lv_ldc hx hb hown (hts _ kn_X3_37) (dk1 dF_18 DX3_nextBehind (i := 2) rfl rfl rfl) ?_
  refine lv_istore (lv' := [(6, .int 536870912), (5, .int (-1)), (0, .ref (ad 220)), (1, .ref (ad 1)), (2, .int (nI dn)), (3, .int (nI gn)), (4, .int (nI ov))]) hx hb (dk1 dF_54 DX3_nextBehind (i := 3) rfl rfl rfl) hl (by decide) rfl (fun ls hl => ?_)
  refine lv_iconst (v := 0) hx hb (dkP dF_3 DX3_nextBehind (i := 4) rfl rfl) (by decide) ?_
  refine lv_istore (lv' := [(7, .int 0), (6, .int 536870912), (5, .int (-1)), (0, .ref (ad 220)), (1, .ref (ad 1)), (2, .int (nI dn)), (3, .int (nI gn)), (4, .int (nI ov))]) hx hb (dk1 dF_54 DX3_nextBehind (i := 5) rfl rfl rfl) hl (by decide) rfl (fun ls hl => ?_)
  have lp1 : ∀ (nq : Nat) (q7_10 : Nat) (q6_10 : Int32) (q5_10 : Int32) (H : Heap) (locs : List Loc) (ls : Array Slot), 8 - q7_10 < nq → (q7_10 ≤ 8) → ((q5_10 = -1 ∧ q6_10 = 536870912 ∧ ∀ j, j < q7_10 → ¬ MYc (σ.1 4) dn gn ov j) ∨ ∃ b, b < 8 ∧ q5_10 = nI b ∧ MYc (σ.1 4) dn gn ov b) → St G kc A s.heap shC ad σ H locs → lv_has ls 10 [(7, .int (nI q7_10)), (6, .int q6_10), (5, .int q5_10), (0, .ref (ad 220)), (1, .ref (ad 1)), (2, .int (nI dn)), (3, .int (nI gn)), (4, .int (nI ov))] → W pr l e { frames := 0, cells := 0, slots := 0, locals := 0 } s m ([.ref (ad 220), .ref (ad 1), .int (nI dn), .int (nI gn), .int (nI ov)] : List Value).toArray below meth c H locs 0 0 (MQ below (va_Qi (fun r σ1 => ((r = -1 ∧ ∀ i, i < 8 → ¬ MYc (σ.1 4) dn gn ov i) ∨ ∃ b, b < 8 ∧ r = nI b ∧ MYc (σ.1 4) dn gn ov b) ∧ σ1 = σ) (PoC G kc shC ad A) A) ([.ref (ad 220), .ref (ad 1), .int (nI dn), .int (nI gn), .int (nI ov)] : List Value).toArray s 0 0 A) (F0 m 10 ls []) := by
    intro nq
    induction nq with
    | zero => intro q7_10 q6_10 q5_10 H locs ls hmu; exact absurd hmu (Nat.not_lt_zero _)
    | succ nq ih1 =>
      intro q7_10 q6_10 q5_10 H locs ls hmu hq7_10 hb_ hw hl
      refine lv_iload hx hb (dk1 dF_21 DX3_nextBehind (i := 6) rfl rfl rfl) (lv_at hl 0 rfl) ?_
      refine lv_bipush (v := 8) hx hb (dks dF_16 DX3_nextBehind (i := 7) rfl rfl rfl) (by decide) ?_
      refine lv_icmp_ge (tgt := 110) hx hb (dkS dF_162 DX3_nextBehind (i := 8) rfl rfl rfl) (by decide) (fun c2 => ?_) (fun c2 => ?_)
      · simp (disch := omega) only [ta_lt, ta_le, ta_eq, tnI, tl32 8 (by decide)] at c2
        refine lv_iload hx hb (dk1 dF_21 DX3_nextBehind (i := 65) rfl rfl rfl) (lv_at hl 2 rfl) ?_
        exact z_iret C0 hr hlk hw (⟨(by rcases hb_ with ⟨h1, h2, h3⟩ | ⟨b, hb1, hb2, hb3⟩; (· exact Or.inl ⟨h1, fun i hi => h3 i (by omega)⟩); (· exact Or.inr ⟨b, hb1, hb2, hb3⟩)), rfl⟩) (dkP dF_172 DX3_nextBehind (i := 66) rfl rfl)
      · simp (disch := omega) only [ta_lt, ta_le, ta_eq, tnI, tl32 8 (by decide)] at c2
        refine lv_iload_n hx hb (dkP dF_29 DX3_nextBehind (i := 9) rfl rfl) rfl (lv_at hl 6 rfl) ?_
        refine lv_iload_n hx hb (dkP dF_28 DX3_nextBehind (i := 10) rfl rfl) rfl (lv_at hl 5 rfl) ?_
        refine lv_iconst (v := (-1)) hx hb (dkP dF_2 DX3_nextBehind (i := 11) rfl rfl) (by decide) ?_
        refine lv_ixor hx hb (dkP dF_130 DX3_nextBehind (i := 12) rfl rfl) ?_
        refine lv_iand hx hb (dkP dF_126 DX3_nextBehind (i := 13) rfl rfl) ?_
        refine z_top (y := nI (gn &&& (255 ^^^ dn))) (bs_n (by omega) (by omega)) ?_
        have hbt3 := and_lt (a := gn) (b := 255 ^^^ dn) (by omega)
        refine lv_iconst (v := 1) hx hb (dkP dF_4 DX3_nextBehind (i := 14) rfl rfl) (by decide) ?_
        refine lv_iload hx hb (dk1 dF_21 DX3_nextBehind (i := 15) rfl rfl rfl) (lv_at hl 0 rfl) ?_
        refine lv_ishl hx hb (dkP dF_120 DX3_nextBehind (i := 16) rfl rfl) ?_
        refine z_top (y := nI (p2 q7_10)) (by (try simp only [fa_lit]); exact bs_p _ (by omega)) ?_
        have hbt4 := p2_lt (q := q7_10) (by omega)
        refine lv_iand hx hb (dkP dF_126 DX3_nextBehind (i := 17) rfl rfl) ?_
        refine z_top (y := nI ((gn &&& (255 ^^^ dn)) &&& (p2 q7_10))) (by (try simp only [fa_lit]); exact nI_and _ _) ?_
        have hbt5 := and_lt (a := gn &&& (255 ^^^ dn)) (b := p2 q7_10) (by omega)
        refine lv_if_eq (tgt := 34) hx hb (dkS dF_153 DX3_nextBehind (i := 18) rfl rfl rfl) (by decide) (fun c6 => ?_) (fun c6 => ?_)
        · simp (disch := omega) only [ta_lt, ta_le, ta_eq, tnI, tl32 0 (by decide)] at c6
          refine lv_iconst (v := 0) hx hb (dkP dF_3 DX3_nextBehind (i := 21) rfl rfl) (by decide) ?_
          refine lv_istore (lv' := [(8, .int 0), (7, .int (nI q7_10)), (6, .int q6_10), (5, .int q5_10), (0, .ref (ad 220)), (1, .ref (ad 1)), (2, .int (nI dn)), (3, .int (nI gn)), (4, .int (nI ov))]) hx hb (dk1 dF_54 DX3_nextBehind (i := 22) rfl rfl rfl) hl (by decide) rfl (fun ls hl => ?_)
          refine lv_iload hx hb (dk1 dF_21 DX3_nextBehind (i := 23) rfl rfl rfl) (lv_at hl 0 rfl) ?_
          refine lv_if_eq (tgt := 63) hx hb (dkS dF_153 DX3_nextBehind (i := 24) rfl rfl rfl) (by decide) (fun _ => ?_) (fun h => absurd h (by decide))
          refine lv_iconst (v := 0) hx hb (dkP dF_3 DX3_nextBehind (i := 38) rfl rfl) (by decide) ?_
          refine lv_istore (lv' := [(9, .int 0), (8, .int 0), (7, .int (nI q7_10)), (6, .int q6_10), (5, .int q5_10), (0, .ref (ad 220)), (1, .ref (ad 1)), (2, .int (nI dn)), (3, .int (nI gn)), (4, .int (nI ov))]) hx hb (dk1 dF_54 DX3_nextBehind (i := 39) rfl rfl rfl) hl (by decide) rfl (fun ls hl => ?_)
          refine lv_iload hx hb (dk1 dF_21 DX3_nextBehind (i := 40) rfl rfl rfl) (lv_at hl 0 rfl) ?_
          refine lv_if_eq (tgt := 104) hx hb (dkS dF_153 DX3_nextBehind (i := 41) rfl rfl rfl) (by decide) (fun _ => ?_) (fun h => absurd h (by decide))
          refine lv_iinc (v := nI (q7_10 + 1)) (lv' := [(7, .int (nI (q7_10 + 1))), (9, .int 0), (8, .int 0), (6, .int q6_10), (5, .int q5_10), (0, .ref (ad 220)), (1, .ref (ad 1)), (2, .int (nI dn)), (3, .int (nI gn)), (4, .int (nI ov))]) hx hb (dkI DX3_nextBehind (i := 63) rfl rfl rfl rfl) hl (k := 2) rfl (nI_1 _) (by decide) rfl (fun ls hl => ?_)
          refine lv_goto (tgt := 10) hx hb (dkS dF_167 DX3_nextBehind (i := 64) rfl rfl rfl) (by decide) ?_
          exact ih1 (q7_10 + 1) q6_10 q5_10 _ _ _ (by omega) (by (try simp only [lg_cmp_lt, lg_cmp_le, lg_cmp_gt, lg_cmp_ge, lg_cmp_eq] at c2); (try simp (disch := omega) only [ta_lt, ta_le, ta_eq, tb_lt, tb_le, tb_eq, tw, tnI, tsub1, tsv, tsb32, tn32 1 (by decide), tnj 1 (by decide), tl32 0 (by decide), tl64 0 (by decide), tl32 1 (by decide), tl64 1 (by decide), tl32 8 (by decide), tl64 8 (by decide), tl32 536870912 (by decide), tl64 536870912 (by decide)] at c2); (try simp only [lg_cmp_lt, lg_cmp_le, lg_cmp_gt, lg_cmp_ge, lg_cmp_eq] at c6); (try simp (disch := omega) only [ta_lt, ta_le, ta_eq, tb_lt, tb_le, tb_eq, tw, tnI, tsub1, tsv, tsb32, tn32 1 (by decide), tnj 1 (by decide), tl32 0 (by decide), tl64 0 (by decide), tl32 1 (by decide), tl64 1 (by decide), tl32 8 (by decide), tl64 8 (by decide), tl32 536870912 (by decide), tl64 536870912 (by decide)] at c6); (try simp (disch := omega) only [ta_lt, ta_le, ta_eq, tb_lt, tb_le, tb_eq, tw, tnI, tsub1, tsv, tsb32, tn32 1 (by decide), tnj 1 (by decide), tl32 0 (by decide), tl64 0 (by decide), tl32 1 (by decide), tl64 1 (by decide), tl32 8 (by decide), tl64 8 (by decide), tl32 536870912 (by decide), tl64 536870912 (by decide)]); omega) (by rcases hb_ with ⟨h1, h2, h3⟩ | h; (· exact Or.inl ⟨h1, h2, fun j hj => by by_cases e_ : j = q7_10; (· rw [e_]; exact (fun h9 => wt_0 (g := gn) (d := dn) (i := q7_10) (by omega) (by omega) (by omega) ⟨h9.1, h9.2.1⟩)); (· exact h3 j (by omega))⟩); (· exact Or.inr h)) hw (lv_sub hl [0, 3, 4, 5, 6, 7, 8, 9] rfl)
        · simp (disch := omega) only [ta_lt, ta_le, ta_eq, tnI, tl32 0 (by decide)] at c6
          refine lv_iconst (v := 1) hx hb (dkP dF_4 DX3_nextBehind (i := 19) rfl rfl) (by decide) ?_
          refine lv_goto (tgt := 35) hx hb (dkS dF_167 DX3_nextBehind (i := 20) rfl rfl rfl) (by decide) ?_
          refine lv_istore (lv' := [(8, .int 1), (7, .int (nI q7_10)), (6, .int q6_10), (5, .int q5_10), (0, .ref (ad 220)), (1, .ref (ad 1)), (2, .int (nI dn)), (3, .int (nI gn)), (4, .int (nI ov))]) hx hb (dk1 dF_54 DX3_nextBehind (i := 22) rfl rfl rfl) hl (by decide) rfl (fun ls hl => ?_)
          refine lv_iload hx hb (dk1 dF_21 DX3_nextBehind (i := 23) rfl rfl rfl) (lv_at hl 0 rfl) ?_
          refine lv_if_eq (tgt := 63) hx hb (dkS dF_153 DX3_nextBehind (i := 24) rfl rfl rfl) (by decide) (fun h => absurd h (by decide)) (fun _ => ?_)
          refine lv_aload_n hx hb (dkP dF_43 DX3_nextBehind (i := 25) rfl rfl) rfl (lv_at hl 5 rfl) ?_
          refine z_gr C0 hw 1 2 4 (fk_of shc_1 rfl) fl_X3_38 (dk2 dF_180 DX3_nextBehind (i := 26) rfl rfl rfl) ?_
          refine lv_iload hx hb (dk1 dF_21 DX3_nextBehind (i := 27) rfl rfl rfl) (lv_at hl 1 rfl) ?_
          refine z_ialdN (n := 8) C0 hw 4 q7_10 (ak_of shc_4) (by omega) (by decide) (dkP dF_46 DX3_nextBehind (i := 28) rfl rfl) ?_
          obtain ⟨n7, hn7, en7⟩ := rngN (x := σ.1 4 q7_10) (h := 255) (tcr_14 hT tcl_4)
          refine z_top (y := nI n7) en7 ?_
          refine lv_iload_n hx hb (dkP dF_28 DX3_nextBehind (i := 29) rfl rfl) rfl (lv_at hl 6 rfl) ?_
          refine lv_iload hx hb (dk1 dF_21 DX3_nextBehind (i := 30) rfl rfl rfl) (lv_at hl 8 rfl) ?_
          refine lv_ior hx hb (dkP dF_128 DX3_nextBehind (i := 31) rfl rfl) ?_
          refine z_top (y := nI (dn ||| ov)) (by (try simp only [fa_lit]); exact nI_or _ _) ?_
          have hbt8 := or_lt (a := dn) (b := ov) (by omega) (by omega)
          refine lv_iconst (v := (-1)) hx hb (dkP dF_2 DX3_nextBehind (i := 32) rfl rfl) (by decide) ?_
          refine lv_ixor hx hb (dkP dF_130 DX3_nextBehind (i := 33) rfl rfl) ?_
          refine lv_iand hx hb (dkP dF_126 DX3_nextBehind (i := 34) rfl rfl) ?_
          refine z_top (y := nI (n7 &&& (255 ^^^ (dn ||| ov)))) (bs_n (by omega) (by omega)) ?_
          have hbt9 := and_lt (a := n7) (b := 255 ^^^ (dn ||| ov)) (by omega)
          refine lv_if_ne (tgt := 63) hx hb (dkS dF_154 DX3_nextBehind (i := 35) rfl rfl rfl) (by decide) (fun c10 => ?_) (fun c10 => ?_)
          · simp (disch := omega) only [ta_lt, ta_le, ta_eq, tnI, tl32 0 (by decide)] at c10
            refine lv_iconst (v := 0) hx hb (dkP dF_3 DX3_nextBehind (i := 38) rfl rfl) (by decide) ?_
            refine lv_istore (lv' := [(9, .int 0), (8, .int 1), (7, .int (nI q7_10)), (6, .int q6_10), (5, .int q5_10), (0, .ref (ad 220)), (1, .ref (ad 1)), (2, .int (nI dn)), (3, .int (nI gn)), (4, .int (nI ov))]) hx hb (dk1 dF_54 DX3_nextBehind (i := 39) rfl rfl rfl) hl (by decide) rfl (fun ls hl => ?_)
            refine lv_iload hx hb (dk1 dF_21 DX3_nextBehind (i := 40) rfl rfl rfl) (lv_at hl 0 rfl) ?_
            refine lv_if_eq (tgt := 104) hx hb (dkS dF_153 DX3_nextBehind (i := 41) rfl rfl rfl) (by decide) (fun _ => ?_) (fun h => absurd h (by decide))
            refine lv_iinc (v := nI (q7_10 + 1)) (lv' := [(7, .int (nI (q7_10 + 1))), (9, .int 0), (8, .int 1), (6, .int q6_10), (5, .int q5_10), (0, .ref (ad 220)), (1, .ref (ad 1)), (2, .int (nI dn)), (3, .int (nI gn)), (4, .int (nI ov))]) hx hb (dkI DX3_nextBehind (i := 63) rfl rfl rfl rfl) hl (k := 2) rfl (nI_1 _) (by decide) rfl (fun ls hl => ?_)
            refine lv_goto (tgt := 10) hx hb (dkS dF_167 DX3_nextBehind (i := 64) rfl rfl rfl) (by decide) ?_
            exact ih1 (q7_10 + 1) q6_10 q5_10 _ _ _ (by omega) (by (try simp only [lg_cmp_lt, lg_cmp_le, lg_cmp_gt, lg_cmp_ge, lg_cmp_eq] at c2); (try simp (disch := omega) only [ta_lt, ta_le, ta_eq, tb_lt, tb_le, tb_eq, tw, tnI, tsub1, tsv, tsb32, tn32 1 (by decide), tnj 1 (by decide), tl32 0 (by decide), tl64 0 (by decide), tl32 1 (by decide), tl64 1 (by decide), tl32 8 (by decide), tl64 8 (by decide), tl32 536870912 (by decide), tl64 536870912 (by decide)] at c2); (try simp only [lg_cmp_lt, lg_cmp_le, lg_cmp_gt, lg_cmp_ge, lg_cmp_eq] at c6); (try simp (disch := omega) only [ta_lt, ta_le, ta_eq, tb_lt, tb_le, tb_eq, tw, tnI, tsub1, tsv, tsb32, tn32 1 (by decide), tnj 1 (by decide), tl32 0 (by decide), tl64 0 (by decide), tl32 1 (by decide), tl64 1 (by decide), tl32 8 (by decide), tl64 8 (by decide), tl32 536870912 (by decide), tl64 536870912 (by decide)] at c6); (try simp only [lg_cmp_lt, lg_cmp_le, lg_cmp_gt, lg_cmp_ge, lg_cmp_eq] at c10); (try simp (disch := omega) only [ta_lt, ta_le, ta_eq, tb_lt, tb_le, tb_eq, tw, tnI, tsub1, tsv, tsb32, tn32 1 (by decide), tnj 1 (by decide), tl32 0 (by decide), tl64 0 (by decide), tl32 1 (by decide), tl64 1 (by decide), tl32 8 (by decide), tl64 8 (by decide), tl32 536870912 (by decide), tl64 536870912 (by decide)] at c10); (try simp (disch := omega) only [ta_lt, ta_le, ta_eq, tb_lt, tb_le, tb_eq, tw, tnI, tsub1, tsv, tsb32, tn32 1 (by decide), tnj 1 (by decide), tl32 0 (by decide), tl64 0 (by decide), tl32 1 (by decide), tl64 1 (by decide), tl32 8 (by decide), tl64 8 (by decide), tl32 536870912 (by decide), tl64 536870912 (by decide)]); omega) (by rcases hb_ with ⟨h1, h2, h3⟩ | h; (· exact Or.inl ⟨h1, h2, fun j hj => by by_cases e_ : j = q7_10; (· rw [e_]; exact (fun h9 => by have h8 := (sb_and (a := n7) (b := dn ||| ov) (by omega) (by omega)).2 (by rw [← nd_e en7 (by omega)]; exact h9.2.2); omega)); (· exact h3 j (by omega))⟩); (· exact Or.inr h)) hw (lv_sub hl [0, 3, 4, 5, 6, 7, 8, 9] rfl)
          · simp (disch := omega) only [ta_lt, ta_le, ta_eq, tnI, tl32 0 (by decide)] at c10
            refine lv_iconst (v := 1) hx hb (dkP dF_4 DX3_nextBehind (i := 36) rfl rfl) (by decide) ?_
            refine lv_goto (tgt := 64) hx hb (dkS dF_167 DX3_nextBehind (i := 37) rfl rfl rfl) (by decide) ?_
            refine lv_istore (lv' := [(9, .int 1), (8, .int 1), (7, .int (nI q7_10)), (6, .int q6_10), (5, .int q5_10), (0, .ref (ad 220)), (1, .ref (ad 1)), (2, .int (nI dn)), (3, .int (nI gn)), (4, .int (nI ov))]) hx hb (dk1 dF_54 DX3_nextBehind (i := 39) rfl rfl rfl) hl (by decide) rfl (fun ls hl => ?_)
            refine lv_iload hx hb (dk1 dF_21 DX3_nextBehind (i := 40) rfl rfl rfl) (lv_at hl 0 rfl) ?_
            refine lv_if_eq (tgt := 104) hx hb (dkS dF_153 DX3_nextBehind (i := 41) rfl rfl rfl) (by decide) (fun h => absurd h (by decide)) (fun _ => ?_)
            refine lv_aload_n hx hb (dkP dF_42 DX3_nextBehind (i := 42) rfl rfl) rfl (lv_at hl 5 rfl) ?_
            refine z_gr C0 hw 220 0 221 (fk_of shc_220 rfl) fl_X3_9 (dk2 dF_180 DX3_nextBehind (i := 43) rfl rfl rfl) ?_
            refine lv_iload_n hx hb (dkP dF_28 DX3_nextBehind (i := 44) rfl rfl) rfl (lv_at hl 7 rfl) ?_
            refine lv_iconst (v := 1) hx hb (dkP dF_4 DX3_nextBehind (i := 45) rfl rfl) (by decide) ?_
            refine lv_iload hx hb (dk1 dF_21 DX3_nextBehind (i := 46) rfl rfl rfl) (lv_at hl 2 rfl) ?_
            refine lv_ishl hx hb (dkP dF_120 DX3_nextBehind (i := 47) rfl rfl) ?_
            refine z_top (y := nI (p2 q7_10)) (by (try simp only [fa_lit]); exact bs_p _ (by omega)) ?_
            have hbt11 := p2_lt (q := q7_10) (by omega)
            refine lv_ior hx hb (dkP dF_128 DX3_nextBehind (i := 48) rfl rfl) ?_
            refine z_top (y := nI (dn ||| (p2 q7_10))) (by (try simp only [fa_lit]); exact nI_or _ _) ?_
            have hbt12 := or_lt (a := dn) (b := p2 q7_10) (by omega) (by omega)
            refine z_ialdN (n := 256) C0 hw 221 (dn ||| (p2 q7_10)) (ak_of shc_221) (by omega) (by decide) (dkP dF_46 DX3_nextBehind (i := 49) rfl rfl) ?_
            obtain ⟨v13, ev13⟩ : ∃ y : Int32, σ.1 221 (dn ||| (p2 q7_10)) = y := ⟨_, rfl⟩
            refine z_top (y := v13) ev13 ?_
            refine lv_iload hx hb (dk1 dF_21 DX3_nextBehind (i := 50) rfl rfl rfl) (lv_at hl 3 rfl) ?_
            refine lv_icmp_ge (tgt := 104) hx hb (dkS dF_162 DX3_nextBehind (i := 51) rfl rfl rfl) (by decide) (fun c14 => ?_) (fun c14 => ?_)
            · skip
              refine lv_iinc (v := nI (q7_10 + 1)) (lv' := [(7, .int (nI (q7_10 + 1))), (9, .int 1), (8, .int 1), (6, .int q6_10), (5, .int q5_10), (0, .ref (ad 220)), (1, .ref (ad 1)), (2, .int (nI dn)), (3, .int (nI gn)), (4, .int (nI ov))]) hx hb (dkI DX3_nextBehind (i := 63) rfl rfl rfl rfl) hl (k := 2) rfl (nI_1 _) (by decide) rfl (fun ls hl => ?_)
              refine lv_goto (tgt := 10) hx hb (dkS dF_167 DX3_nextBehind (i := 64) rfl rfl rfl) (by decide) ?_
              exact ih1 (q7_10 + 1) q6_10 q5_10 _ _ _ (by omega) (by (try simp only [lg_cmp_lt, lg_cmp_le, lg_cmp_gt, lg_cmp_ge, lg_cmp_eq] at c2); (try simp (disch := omega) only [ta_lt, ta_le, ta_eq, tb_lt, tb_le, tb_eq, tw, tnI, tsub1, tsv, tsb32, tn32 1 (by decide), tnj 1 (by decide), tl32 0 (by decide), tl64 0 (by decide), tl32 1 (by decide), tl64 1 (by decide), tl32 8 (by decide), tl64 8 (by decide), tl32 536870912 (by decide), tl64 536870912 (by decide)] at c2); (try simp only [lg_cmp_lt, lg_cmp_le, lg_cmp_gt, lg_cmp_ge, lg_cmp_eq] at c6); (try simp (disch := omega) only [ta_lt, ta_le, ta_eq, tb_lt, tb_le, tb_eq, tw, tnI, tsub1, tsv, tsb32, tn32 1 (by decide), tnj 1 (by decide), tl32 0 (by decide), tl64 0 (by decide), tl32 1 (by decide), tl64 1 (by decide), tl32 8 (by decide), tl64 8 (by decide), tl32 536870912 (by decide), tl64 536870912 (by decide)] at c6); (try simp only [lg_cmp_lt, lg_cmp_le, lg_cmp_gt, lg_cmp_ge, lg_cmp_eq] at c10); (try simp (disch := omega) only [ta_lt, ta_le, ta_eq, tb_lt, tb_le, tb_eq, tw, tnI, tsub1, tsv, tsb32, tn32 1 (by decide), tnj 1 (by decide), tl32 0 (by decide), tl64 0 (by decide), tl32 1 (by decide), tl64 1 (by decide), tl32 8 (by decide), tl64 8 (by decide), tl32 536870912 (by decide), tl64 536870912 (by decide)] at c10); (try simp only [lg_cmp_lt, lg_cmp_le, lg_cmp_gt, lg_cmp_ge, lg_cmp_eq] at c14); (try simp (disch := omega) only [ta_lt, ta_le, ta_eq, tb_lt, tb_le, tb_eq, tw, tnI, tsub1, tsv, tsb32, tn32 1 (by decide), tnj 1 (by decide), tl32 0 (by decide), tl64 0 (by decide), tl32 1 (by decide), tl64 1 (by decide), tl32 8 (by decide), tl64 8 (by decide), tl32 536870912 (by decide), tl64 536870912 (by decide)] at c14); (try simp (disch := omega) only [ta_lt, ta_le, ta_eq, tb_lt, tb_le, tb_eq, tw, tnI, tsub1, tsv, tsb32, tn32 1 (by decide), tnj 1 (by decide), tl32 0 (by decide), tl64 0 (by decide), tl32 1 (by decide), tl64 1 (by decide), tl32 8 (by decide), tl64 8 (by decide), tl32 536870912 (by decide), tl64 536870912 (by decide)]); omega) (by rcases hb_ with ⟨h1, h2, h3⟩ | h; (· exfalso; have h9 := hC q7_10 (by omega) ⟨(wt_1 (g := gn) (d := dn) (i := q7_10) (by omega) (by omega) (by omega) (by omega)).1, (wt_1 (g := gn) (d := dn) (i := q7_10) (by omega) (by omega) (by omega) (by omega)).2, by rw [nd_e en7 (by omega)]; exact (sb_and (by omega) (by omega)).1 (by omega)⟩; rw [ev13] at h9; have h8 := c14; rw [h2] at h8; simp only [ta_lt, ta_le, tl32 536870912 (by decide)] at h8; omega); (· exact Or.inr h)) hw (lv_sub hl [0, 3, 4, 5, 6, 7, 8, 9] rfl)
            · skip
              refine lv_iload hx hb (dk1 dF_21 DX3_nextBehind (i := 52) rfl rfl rfl) (lv_at hl 2 rfl) ?_
              refine lv_istore (lv' := [(5, .int (nI q7_10)), (9, .int 1), (8, .int 1), (7, .int (nI q7_10)), (6, .int q6_10), (0, .ref (ad 220)), (1, .ref (ad 1)), (2, .int (nI dn)), (3, .int (nI gn)), (4, .int (nI ov))]) hx hb (dk1 dF_54 DX3_nextBehind (i := 53) rfl rfl rfl) hl (by decide) rfl (fun ls hl => ?_)
              refine lv_aload_n hx hb (dkP dF_42 DX3_nextBehind (i := 54) rfl rfl) rfl (lv_at hl 5 rfl) ?_
              refine z_gr C0 hw 220 0 221 (fk_of shc_220 rfl) fl_X3_9 (dk2 dF_180 DX3_nextBehind (i := 55) rfl rfl rfl) ?_
              refine lv_iload_n hx hb (dkP dF_28 DX3_nextBehind (i := 56) rfl rfl) rfl (lv_at hl 7 rfl) ?_
              refine lv_iconst (v := 1) hx hb (dkP dF_4 DX3_nextBehind (i := 57) rfl rfl) (by decide) ?_
              refine lv_iload hx hb (dk1 dF_21 DX3_nextBehind (i := 58) rfl rfl rfl) (lv_at hl 3 rfl) ?_
              refine lv_ishl hx hb (dkP dF_120 DX3_nextBehind (i := 59) rfl rfl) ?_
              refine z_top (y := nI (p2 q7_10)) (by (try simp only [fa_lit]); exact bs_p _ (by omega)) ?_
              have hbt15 := p2_lt (q := q7_10) (by omega)
              refine lv_ior hx hb (dkP dF_128 DX3_nextBehind (i := 60) rfl rfl) ?_
              refine z_top (y := nI (dn ||| (p2 q7_10))) (by (try simp only [fa_lit]); exact nI_or _ _) ?_
              have hbt16 := or_lt (a := dn) (b := p2 q7_10) (by omega) (by omega)
              refine z_ialdN (n := 256) C0 hw 221 (dn ||| (p2 q7_10)) (ak_of shc_221) (by omega) (by decide) (dkP dF_46 DX3_nextBehind (i := 61) rfl rfl) ?_
              refine z_top (y := v13) ev13 ?_
              refine lv_istore (lv' := [(6, .int v13), (5, .int (nI q7_10)), (9, .int 1), (8, .int 1), (7, .int (nI q7_10)), (0, .ref (ad 220)), (1, .ref (ad 1)), (2, .int (nI dn)), (3, .int (nI gn)), (4, .int (nI ov))]) hx hb (dk1 dF_54 DX3_nextBehind (i := 62) rfl rfl rfl) hl (by decide) rfl (fun ls hl => ?_)
              refine lv_iinc (v := nI (q7_10 + 1)) (lv' := [(7, .int (nI (q7_10 + 1))), (6, .int v13), (5, .int (nI q7_10)), (9, .int 1), (8, .int 1), (0, .ref (ad 220)), (1, .ref (ad 1)), (2, .int (nI dn)), (3, .int (nI gn)), (4, .int (nI ov))]) hx hb (dkI DX3_nextBehind (i := 63) rfl rfl rfl rfl) hl (k := 4) rfl (nI_1 _) (by decide) rfl (fun ls hl => ?_)
              refine lv_goto (tgt := 10) hx hb (dkS dF_167 DX3_nextBehind (i := 64) rfl rfl rfl) (by decide) ?_
              exact ih1 (q7_10 + 1) v13 (nI q7_10) _ _ _ (by omega) (by (try simp only [lg_cmp_lt, lg_cmp_le, lg_cmp_gt, lg_cmp_ge, lg_cmp_eq] at c2); (try simp (disch := omega) only [ta_lt, ta_le, ta_eq, tb_lt, tb_le, tb_eq, tw, tnI, tsub1, tsv, tsb32, tn32 1 (by decide), tnj 1 (by decide), tl32 0 (by decide), tl64 0 (by decide), tl32 1 (by decide), tl64 1 (by decide), tl32 8 (by decide), tl64 8 (by decide), tl32 536870912 (by decide), tl64 536870912 (by decide)] at c2); (try simp only [lg_cmp_lt, lg_cmp_le, lg_cmp_gt, lg_cmp_ge, lg_cmp_eq] at c6); (try simp (disch := omega) only [ta_lt, ta_le, ta_eq, tb_lt, tb_le, tb_eq, tw, tnI, tsub1, tsv, tsb32, tn32 1 (by decide), tnj 1 (by decide), tl32 0 (by decide), tl64 0 (by decide), tl32 1 (by decide), tl64 1 (by decide), tl32 8 (by decide), tl64 8 (by decide), tl32 536870912 (by decide), tl64 536870912 (by decide)] at c6); (try simp only [lg_cmp_lt, lg_cmp_le, lg_cmp_gt, lg_cmp_ge, lg_cmp_eq] at c10); (try simp (disch := omega) only [ta_lt, ta_le, ta_eq, tb_lt, tb_le, tb_eq, tw, tnI, tsub1, tsv, tsb32, tn32 1 (by decide), tnj 1 (by decide), tl32 0 (by decide), tl64 0 (by decide), tl32 1 (by decide), tl64 1 (by decide), tl32 8 (by decide), tl64 8 (by decide), tl32 536870912 (by decide), tl64 536870912 (by decide)] at c10); (try simp only [lg_cmp_lt, lg_cmp_le, lg_cmp_gt, lg_cmp_ge, lg_cmp_eq] at c14); (try simp (disch := omega) only [ta_lt, ta_le, ta_eq, tb_lt, tb_le, tb_eq, tw, tnI, tsub1, tsv, tsb32, tn32 1 (by decide), tnj 1 (by decide), tl32 0 (by decide), tl64 0 (by decide), tl32 1 (by decide), tl64 1 (by decide), tl32 8 (by decide), tl64 8 (by decide), tl32 536870912 (by decide), tl64 536870912 (by decide)] at c14); (try simp (disch := omega) only [ta_lt, ta_le, ta_eq, tb_lt, tb_le, tb_eq, tw, tnI, tsub1, tsv, tsb32, tn32 1 (by decide), tnj 1 (by decide), tl32 0 (by decide), tl64 0 (by decide), tl32 1 (by decide), tl64 1 (by decide), tl32 8 (by decide), tl64 8 (by decide), tl32 536870912 (by decide), tl64 536870912 (by decide)]); omega) (Or.inr ⟨q7_10, by omega, rfl, (wt_1 (g := gn) (d := dn) (i := q7_10) (by omega) (by omega) (by omega) (by omega)).1, (wt_1 (g := gn) (d := dn) (i := q7_10) (by omega) (by omega) (by omega) (by omega)).2, by rw [nd_e en7 (by omega)]; exact (sb_and (by omega) (by omega)).1 (by omega)⟩) hw (lv_sub hl [0, 1, 2, 5, 6, 7, 8, 9] rfl)
  exact lp1 _ 0 536870912 (-1) _ _ _ (Nat.lt_succ_self _) (by (try simp (disch := omega) only [ta_lt, ta_le, ta_eq, tb_lt, tb_le, tb_eq, tw, tnI, tsub1, tsv, tsb32, tn32 1 (by decide), tnj 1 (by decide), tl32 0 (by decide), tl64 0 (by decide), tl32 1 (by decide), tl64 1 (by decide), tl32 8 (by decide), tl64 8 (by decide), tl32 536870912 (by decide), tl64 536870912 (by decide)]); omega) (Or.inl ⟨rfl, rfl, fun j hj => absurd hj (Nat.not_lt_zero j)⟩) hw (lv_sub hl [0, 1, 2, 3, 4, 5, 6, 7] rfl)
