def pgL : List Nat := [8, 30, 52, 74, 96, 118, 140, 162, 257, 279, 301, 323, 345, 367, 389, 411, 440, 462, 484, 506, 528, 550, 572, 594, 623, 645, 667, 689, 711, 733, 755, 777]
def otL : List Nat := [9, 31, 53, 75, 97, 119, 141, 163, 192, 258, 280, 302, 324, 346, 368, 390, 412, 441, 463, 485, 507, 529, 551, 573, 595, 624, 646, 668, 690, 712, 734, 756, 778]
def ntL : List Nat := [19, 41, 63, 85, 107, 129, 151, 173, 202, 268, 290, 312, 334, 356, 378, 400, 422, 451, 473, 495, 517, 539, 561, 583, 605, 634, 656, 678, 700, 722, 744, 766, 788]
def wkL : List Nat := [1, 250, 433, 616]
def suL : List Nat := [17, 25, 39, 47, 61, 69, 83, 91, 105, 113, 127, 135, 149, 157, 171, 179, 200, 208, 266, 274, 288, 296, 310, 318, 332, 340, 354, 362, 376, 384, 398, 406, 420, 428, 449, 457, 471, 479, 493, 501, 515, 523, 537, 545, 559, 567, 581, 589, 603, 611, 632, 640, 654, 662, 676, 684, 698, 706, 720, 728, 742, 750, 764, 772, 786, 794]
set_option maxRecDepth 20000 in
theorem wkpg : ∀ d, d ∈ wkL → ∀ k, k < 8 → d + 7 + 22 * k ∈ pgL := by decide +kernel
set_option maxRecDepth 20000 in
theorem rkwk : ∀ d, d ∈ wkL → ∀ k, k < 8 → rk shC (d + 1) k = some (6, 8, d + 7 + 22 * k) := by decide +kernel
theorem pgot : ∀ d, d ∈ pgL → d + 1 ∈ otL := by decide +kernel
theorem pgnt : ∀ d, d ∈ pgL → d + 11 ∈ ntL := by decide +kernel
theorem imgm : ∀ k, k < 3 → 250 + 183 * k ∈ wkL := by decide +kernel
def OTk (σ : Sg) (o : Nat) : Prop := (σ.1 o 0 = 0 ∨ σ.1 o 0 = 1) ∧ (∃ z, z ≤ 24 ∧ σ.1 o 1 = nI z) ∧ ∃ u, u ≤ 192 ∧ σ.1 (o + 8) 1 = nI u
def NTk (σ : Sg) (o : Nat) : Prop := (σ.1 o 0 = 0 ∨ σ.1 o 0 = 1) ∧ (σ.1 o 1 = 0 ∨ σ.1 o 1 = 1) ∧ (∃ z, z ≤ 40 ∧ σ.1 o 3 = nI z) ∧ ∃ u, u ≤ 1920 ∧ σ.1 (o + 6) 1 = nI u
theorem Of.ptr {σ τ : Sg} {d n a b : Nat} (h : Of σ τ d n) : τ.2.2 a b = σ.2.2 a b := by rw [h.2]
theorem Of.ot {σ τ : Sg} {d n o : Nat} (h : Of σ τ d n) (ho : o + 10 ≤ d ∨ d + n ≤ o) (hk : OTk σ o) : OTk τ o := by
  unfold OTk at hk ⊢
  rw [h.1 o (by omega), h.1 (o + 8) (by omega)]
  exact hk
theorem Of.nt {σ τ : Sg} {d n o : Nat} (h : Of σ τ d n) (ho : o + 8 ≤ d ∨ d + n ≤ o) (hk : NTk σ o) : NTk τ o := by
  unfold NTk at hk ⊢
  rw [h.1 o (by omega), h.1 (o + 6) (by omega)]
  exact hk
set_option maxRecDepth 100000 in
set_option maxHeartbeats 4000000 in
theorem c_J9_min_7cf53 (l : Launch) (G : va_G) (kc : Nat → ClassId)  (x : Int32) (y : Int32)  : MI l G kc yJ9_min_7cf53 cJ9_min_7cf53 2 (some .int) 0 0 [.int x, .int y] [] a00 s00 (fun r _ => r = if y.toInt < x.toInt then y else x) := by
  intro sz
  refine z_body (y := yJ9_min_7cf53) (n := 2) (av := [.int x, .int y]) (Qc := fun A => va_Qi (fun r _ => r = if y.toInt < x.toInt then y else x) (PoC G kc [] a00 A) A) (by decide +kernel) (Nat.le_of_ble_eq_true rfl) (fun pr e s m below meth c A C0 hr hlk hnm hw ls hl => ?_) sz
  have hx := C0.1
  have hb := C0.2.1
  have hown := C0.2.2.2.1
  have hts := C0.2.2.2.2.1
  have hl : lv_has ls 2 [(0, .int x), (1, .int y)] := hl
  refine lv_iload_n hx hb (dkP dF_26 DJ9_min_7cf53 (i := 0) rfl rfl) rfl (lv_at hl 0 rfl) ?_
  refine lv_iload_n hx hb (dkP dF_27 DJ9_min_7cf53 (i := 1) rfl rfl) rfl (lv_at hl 1 rfl) ?_
  refine lv_icmp_gt (tgt := 9) hx hb (dkS dF_163 DJ9_min_7cf53 (i := 2) rfl rfl rfl) (by decide) (fun c1 => ?_) (fun c1 => ?_)
  · skip
    refine lv_iload_n hx hb (dkP dF_27 DJ9_min_7cf53 (i := 5) rfl rfl) rfl (lv_at hl 1 rfl) ?_
    exact z_iret C0 hr hlk hw (by simp only [ta_lt] at c1; simp only [c1, if_true, if_false]) (dkP dF_172 DJ9_min_7cf53 (i := 6) rfl rfl)
  · skip
    refine lv_iload_n hx hb (dkP dF_26 DJ9_min_7cf53 (i := 3) rfl rfl) rfl (lv_at hl 0 rfl) ?_
    refine lv_goto (tgt := 10) hx hb (dkS dF_167 DJ9_min_7cf53 (i := 4) rfl rfl rfl) (by decide) ?_
    exact z_iret C0 hr hlk hw (by simp only [ta_lt] at c1; simp only [c1, if_true, if_false]) (dkP dF_172 DJ9_min_7cf53 (i := 6) rfl rfl)
set_option maxRecDepth 20000 in
theorem shl_ot_8 : ∀ d, d ∈ otL → shC[d + 8]? = some (0, 8, [(1, d + 9), (0, 0)]) := by decide +kernel
set_option maxRecDepth 20000 in
theorem shl_ot_9 : ∀ d, d ∈ otL → shC[d + 9]? = some (1, 192, []) := by decide +kernel
set_option maxRecDepth 100000 in
set_option maxHeartbeats 4000000 in
theorem c_X8_copyFrom_o (l : Launch) (G : va_G) (kc : Nat → ClassId) (ad : Nat → Nat) (σ : Sg) (d : Nat) (o : Nat)  (u : Nat) (hd : d ∈ otL) (ho : o ∈ otL) (hne : d + 10 ≤ o ∨ o + 10 ≤ d) (eu : σ.1 (o + 8) 1 = nI u) (hu : u ≤ 192) : MV l G kc yX8_copyFrom cX8_copyFrom 2 1 26 [.ref (ad (d + 8)), .ref (ad (o + 8))] shC ad σ (fun σ1 => Of σ σ1 d 10) := by
  intro sz
  refine z_body (y := yX8_copyFrom) (n := 2) (av := [.ref (ad (d + 8)), .ref (ad (o + 8))]) (Qc := fun A => va_Qv (fun σ1 => Of σ σ1 d 10) (PoC G kc shC ad A) A) (plainFor_of_name (by decide)) (Nat.le_of_ble_eq_true rfl) (fun pr e s m below meth c A C0 hr hlk hnm hw ls hl => ?_) sz
  have hx := C0.1
  have hb := C0.2.1
  have hown := C0.2.2.2.1
  have hts := C0.2.2.2.2.1
  have hl : lv_has ls 2 [(0, .ref (ad (d + 8))), (1, .ref (ad (o + 8)))] := hl
  refine lv_aload_n hx hb (dkP dF_42 DX8_copyFrom (i := 0) rfl rfl) rfl (lv_at hl 0 rfl) ?_
  refine lv_aload_n hx hb (dkP dF_43 DX8_copyFrom (i := 1) rfl rfl) rfl (lv_at hl 1 rfl) ?_
  refine z_gi C0 hw (o + 8) 1 (fk_of (shl_ot_8 o ho) rfl) fl_X8_15 (dk2 dF_180 DX8_copyFrom (i := 2) rfl rfl rfl) ?_
  refine z_top (y := (nI u)) eu ?_
  refine lv_aload_n hx hb (dkP dF_42 DX8_copyFrom (i := 3) rfl rfl) rfl (lv_at hl 0 rfl) ?_
  refine z_gr C0 hw (d + 8) 0 (d + 9) (fk_of (shl_ot_8 d hd) rfl) fl_X8_9 (dk2 dF_180 DX8_copyFrom (i := 4) rfl rfl rfl) ?_
  refine z_alen (t := 0) (n := 192) C0 hw (d + 9) (ak_of (shl_ot_9 d hd)) (by decide) (dkP dF_190 DX8_copyFrom (i := 5) rfl rfl) ?_
  refine z_top (y := 192) rfl ?_
  refine zn_I hw (zr_S (As := [.int (nI u), .int 192]) (rest := [.ref (ad (d + 8))]) C0 (c_J9_min_7cf53 l G kc (nI u) 192  _) cs_J9_min_7cf53 lk_X8_19 (zp_P C0 a00 s00) rfl hl.1 rfl ⟨by decide, by decide⟩ (Nat.le_of_ble_eq_true rfl) (dk2 dF_184 DX8_copyFrom (i := 6) rfl rfl rfl) ⟨Nat.le_refl _, Nat.le_refl _⟩) (fun r1 s1 H locs hp hw => ?_)
  subst hp
  refine z_top (y := (nI u)) (by simp (disch := omega) only [tnI, tl32 192 (by decide)]; rw [if_neg (by omega)]) ?_
  refine z_pi C0 hw (d + 8) 1 (fk_of (shl_ot_8 d hd) rfl) fp_X8_15 (dk2 dF_181 DX8_copyFrom (i := 7) rfl rfl rfl) (fun H locs hw => ?_)
  refine lv_aload_n hx hb (dkP dF_43 DX8_copyFrom (i := 8) rfl rfl) rfl (lv_at hl 1 rfl) ?_
  refine z_gr C0 hw (o + 8) 0 (o + 9) (fk_of (shl_ot_8 o ho) rfl) fl_X8_9 (dk2 dF_180 DX8_copyFrom (i := 9) rfl rfl rfl) ?_
  refine lv_iconst (v := 0) hx hb (dkP dF_3 DX8_copyFrom (i := 10) rfl rfl) (by decide) ?_
  refine lv_aload_n hx hb (dkP dF_42 DX8_copyFrom (i := 11) rfl rfl) rfl (lv_at hl 0 rfl) ?_
  refine z_gr C0 hw (d + 8) 0 (d + 9) (fk_of (shl_ot_8 d hd) rfl) fl_X8_9 (dk2 dF_180 DX8_copyFrom (i := 12) rfl rfl rfl) ?_
  refine lv_iconst (v := 0) hx hb (dkP dF_3 DX8_copyFrom (i := 13) rfl rfl) (by decide) ?_
  refine lv_aload_n hx hb (dkP dF_42 DX8_copyFrom (i := 14) rfl rfl) rfl (lv_at hl 0 rfl) ?_
  refine z_gi C0 hw (d + 8) 1 (fk_of (shl_ot_8 d hd) rfl) fl_X8_15 (dk2 dF_180 DX8_copyFrom (i := 15) rfl rfl rfl) ?_
  refine z_top (y := (nI u)) rd_s ?_
  refine z_cpi (n0 := 192) (n1 := 192) C0 hw (o + 9) (d + 9) 0 0 u (ak_of (shl_ot_9 o ho)) (ak_of (shl_ot_9 d hd)) ac_X8_25 hl.1 (by omega) (by omega) (by decide) (by decide) (by decide) (by decide) (Nat.le_of_ble_eq_true rfl) (dk2 dF_184 DX8_copyFrom (i := 16) rfl rfl rfl) (fun H locs hw => ?_)
  exact z_vret C0 hr hlk hw (Of.tC (Of.tI Of.refl (by omega)) (by omega)) (dkP dF_177 DX8_copyFrom (i := 17) rfl rfl)
set_option maxRecDepth 20000 in
theorem shl_nt_6 : ∀ d, d ∈ ntL → shC[d + 6]? = some (0, 8, [(1, d + 7), (0, 0)]) := by decide +kernel
set_option maxRecDepth 20000 in
theorem shl_nt_7 : ∀ d, d ∈ ntL → shC[d + 7]? = some (1, 1920, []) := by decide +kernel
set_option maxRecDepth 100000 in
set_option maxHeartbeats 4000000 in
theorem c_X8_copyFrom_n (l : Launch) (G : va_G) (kc : Nat → ClassId) (ad : Nat → Nat) (σ : Sg) (d : Nat) (o : Nat)  (u : Nat) (hd : d ∈ ntL) (ho : o ∈ ntL) (hne : d + 8 ≤ o ∨ o + 8 ≤ d) (eu : σ.1 (o + 6) 1 = nI u) (hu : u ≤ 1920) : MV l G kc yX8_copyFrom cX8_copyFrom 2 1 26 [.ref (ad (d + 6)), .ref (ad (o + 6))] shC ad σ (fun σ1 => Of σ σ1 d 8) := by
  intro sz
  refine z_body (y := yX8_copyFrom) (n := 2) (av := [.ref (ad (d + 6)), .ref (ad (o + 6))]) (Qc := fun A => va_Qv (fun σ1 => Of σ σ1 d 8) (PoC G kc shC ad A) A) (plainFor_of_name (by decide)) (Nat.le_of_ble_eq_true rfl) (fun pr e s m below meth c A C0 hr hlk hnm hw ls hl => ?_) sz
  have hx := C0.1
  have hb := C0.2.1
  have hown := C0.2.2.2.1
  have hts := C0.2.2.2.2.1
  have hl : lv_has ls 2 [(0, .ref (ad (d + 6))), (1, .ref (ad (o + 6)))] := hl
  refine lv_aload_n hx hb (dkP dF_42 DX8_copyFrom (i := 0) rfl rfl) rfl (lv_at hl 0 rfl) ?_
  refine lv_aload_n hx hb (dkP dF_43 DX8_copyFrom (i := 1) rfl rfl) rfl (lv_at hl 1 rfl) ?_
  refine z_gi C0 hw (o + 6) 1 (fk_of (shl_nt_6 o ho) rfl) fl_X8_15 (dk2 dF_180 DX8_copyFrom (i := 2) rfl rfl rfl) ?_
  refine z_top (y := (nI u)) eu ?_
  refine lv_aload_n hx hb (dkP dF_42 DX8_copyFrom (i := 3) rfl rfl) rfl (lv_at hl 0 rfl) ?_
  refine z_gr C0 hw (d + 6) 0 (d + 7) (fk_of (shl_nt_6 d hd) rfl) fl_X8_9 (dk2 dF_180 DX8_copyFrom (i := 4) rfl rfl rfl) ?_
  refine z_alen (t := 0) (n := 1920) C0 hw (d + 7) (ak_of (shl_nt_7 d hd)) (by decide) (dkP dF_190 DX8_copyFrom (i := 5) rfl rfl) ?_
  refine z_top (y := 1920) rfl ?_
  refine zn_I hw (zr_S (As := [.int (nI u), .int 1920]) (rest := [.ref (ad (d + 6))]) C0 (c_J9_min_7cf53 l G kc (nI u) 1920  _) cs_J9_min_7cf53 lk_X8_19 (zp_P C0 a00 s00) rfl hl.1 rfl ⟨by decide, by decide⟩ (Nat.le_of_ble_eq_true rfl) (dk2 dF_184 DX8_copyFrom (i := 6) rfl rfl rfl) ⟨Nat.le_refl _, Nat.le_refl _⟩) (fun r1 s1 H locs hp hw => ?_)
  subst hp
  refine z_top (y := (nI u)) (by simp (disch := omega) only [tnI, tl32 1920 (by decide)]; rw [if_neg (by omega)]) ?_
  refine z_pi C0 hw (d + 6) 1 (fk_of (shl_nt_6 d hd) rfl) fp_X8_15 (dk2 dF_181 DX8_copyFrom (i := 7) rfl rfl rfl) (fun H locs hw => ?_)
  refine lv_aload_n hx hb (dkP dF_43 DX8_copyFrom (i := 8) rfl rfl) rfl (lv_at hl 1 rfl) ?_
  refine z_gr C0 hw (o + 6) 0 (o + 7) (fk_of (shl_nt_6 o ho) rfl) fl_X8_9 (dk2 dF_180 DX8_copyFrom (i := 9) rfl rfl rfl) ?_
  refine lv_iconst (v := 0) hx hb (dkP dF_3 DX8_copyFrom (i := 10) rfl rfl) (by decide) ?_
  refine lv_aload_n hx hb (dkP dF_42 DX8_copyFrom (i := 11) rfl rfl) rfl (lv_at hl 0 rfl) ?_
  refine z_gr C0 hw (d + 6) 0 (d + 7) (fk_of (shl_nt_6 d hd) rfl) fl_X8_9 (dk2 dF_180 DX8_copyFrom (i := 12) rfl rfl rfl) ?_
  refine lv_iconst (v := 0) hx hb (dkP dF_3 DX8_copyFrom (i := 13) rfl rfl) (by decide) ?_
  refine lv_aload_n hx hb (dkP dF_42 DX8_copyFrom (i := 14) rfl rfl) rfl (lv_at hl 0 rfl) ?_
  refine z_gi C0 hw (d + 6) 1 (fk_of (shl_nt_6 d hd) rfl) fl_X8_15 (dk2 dF_180 DX8_copyFrom (i := 15) rfl rfl rfl) ?_
  refine z_top (y := (nI u)) rd_s ?_
  refine z_cpi (n0 := 1920) (n1 := 1920) C0 hw (o + 7) (d + 7) 0 0 u (ak_of (shl_nt_7 o ho)) (ak_of (shl_nt_7 d hd)) ac_X8_25 hl.1 (by omega) (by omega) (by decide) (by decide) (by decide) (by decide) (Nat.le_of_ble_eq_true rfl) (dk2 dF_184 DX8_copyFrom (i := 16) rfl rfl rfl) (fun H locs hw => ?_)
  exact z_vret C0 hr hlk hw (Of.tC (Of.tI Of.refl (by omega)) (by omega)) (dkP dF_177 DX8_copyFrom (i := 17) rfl rfl)
set_option maxRecDepth 20000 in
theorem shl_ot_0 : ∀ d, d ∈ otL → shC[d + 0]? = some (0, 2, [(0, 0), (0, 0), (1, d + 1), (1, d + 2), (1, d + 3), (1, d + 4), (1, d + 5), (1, d + 6), (1, d + 7), (1, d + 8)]) := by decide +kernel
set_option maxRecDepth 20000 in
theorem shl_ot_1 : ∀ d, d ∈ otL → shC[d + 1]? = some (1, 24, []) := by decide +kernel
set_option maxRecDepth 20000 in
theorem shl_ot_2 : ∀ d, d ∈ otL → shC[d + 2]? = some (1, 24, []) := by decide +kernel
set_option maxRecDepth 20000 in
theorem shl_ot_3 : ∀ d, d ∈ otL → shC[d + 3]? = some (1, 24, []) := by decide +kernel
set_option maxRecDepth 20000 in
theorem shl_ot_4 : ∀ d, d ∈ otL → shC[d + 4]? = some (1, 24, []) := by decide +kernel
set_option maxRecDepth 20000 in
theorem shl_ot_5 : ∀ d, d ∈ otL → shC[d + 5]? = some (1, 24, []) := by decide +kernel
set_option maxRecDepth 20000 in
theorem shl_ot_6 : ∀ d, d ∈ otL → shC[d + 6]? = some (1, 24, []) := by decide +kernel
set_option maxRecDepth 20000 in
theorem shl_ot_7 : ∀ d, d ∈ otL → shC[d + 7]? = some (1, 24, []) := by decide +kernel
set_option maxRecDepth 100000 in
set_option maxHeartbeats 4000000 in
theorem c_X2_copyFrom (l : Launch) (G : va_G) (kc : Nat → ClassId) (ad : Nat → Nat) (σ : Sg) (d : Nat)  (o : Nat) (hd : d ∈ otL) (ho : o ∈ otL) (hne : d + 10 ≤ o ∨ o + 10 ≤ d) (hk : OTk σ o) : MV l G kc yX2_copyFrom cX2_copyFrom 2 2 47 [.ref (ad d), .ref (ad o)] shC ad σ (fun σ1 => Of σ σ1 d 10) := by
  intro sz
  refine z_body (y := yX2_copyFrom) (n := 2) (av := [.ref (ad d), .ref (ad o)]) (Qc := fun A => va_Qv (fun σ1 => Of σ σ1 d 10) (PoC G kc shC ad A) A) (plainFor_of_name (by decide)) (Nat.le_of_ble_eq_true rfl) (fun pr e s m below meth c A C0 hr hlk hnm hw ls hl => ?_) sz
  have hx := C0.1
  have hb := C0.2.1
  have hown := C0.2.2.2.1
  have hts := C0.2.2.2.2.1
  have hl : lv_has ls 2 [(0, .ref (ad d)), (1, .ref (ad o))] := hl
  obtain ⟨h0, ⟨z, hz, ez⟩, ⟨u, hu, eu⟩⟩ := hk
  refine lv_aload_n hx hb (dkP dF_42 DX2_copyFrom (i := 0) rfl rfl) rfl (lv_at hl 0 rfl) ?_
  refine lv_aload_n hx hb (dkP dF_43 DX2_copyFrom (i := 1) rfl rfl) rfl (lv_at hl 1 rfl) ?_
  refine z_gi C0 hw o 0 (fk_of (shl_ot_0 o ho) rfl) fl_X2_53 (dk2 dF_180 DX2_copyFrom (i := 2) rfl rfl rfl) ?_
  refine z_pz C0 hw d 0 (by first | exact h0 | (rw [rd_n (by omega)]; exact h0)) (fk_of (shl_ot_0 d hd) rfl) fp_X2_53 (dk2 dF_181 DX2_copyFrom (i := 3) rfl rfl rfl) (fun H locs hw => ?_)
  refine lv_aload_n hx hb (dkP dF_42 DX2_copyFrom (i := 4) rfl rfl) rfl (lv_at hl 0 rfl) ?_
  refine lv_aload_n hx hb (dkP dF_43 DX2_copyFrom (i := 5) rfl rfl) rfl (lv_at hl 1 rfl) ?_
  refine z_gi C0 hw o 1 (fk_of (shl_ot_0 o ho) rfl) fl_X2_42 (dk2 dF_180 DX2_copyFrom (i := 6) rfl rfl rfl) ?_
  refine z_top (y := (nI z)) ((rd_n (by omega)).trans ez) ?_
  refine z_pi C0 hw d 1 (fk_of (shl_ot_0 d hd) rfl) fp_X2_42 (dk2 dF_181 DX2_copyFrom (i := 7) rfl rfl rfl) (fun H locs hw => ?_)
  refine lv_aload_n hx hb (dkP dF_43 DX2_copyFrom (i := 8) rfl rfl) rfl (lv_at hl 1 rfl) ?_
  refine z_gr C0 hw o 2 (o + 1) (fk_of (shl_ot_0 o ho) rfl) fl_X2_11 (dk2 dF_180 DX2_copyFrom (i := 9) rfl rfl rfl) ?_
  refine lv_iconst (v := 0) hx hb (dkP dF_3 DX2_copyFrom (i := 10) rfl rfl) (by decide) ?_
  refine lv_aload_n hx hb (dkP dF_42 DX2_copyFrom (i := 11) rfl rfl) rfl (lv_at hl 0 rfl) ?_
  refine z_gr C0 hw d 2 (d + 1) (fk_of (shl_ot_0 d hd) rfl) fl_X2_11 (dk2 dF_180 DX2_copyFrom (i := 12) rfl rfl rfl) ?_
  refine lv_iconst (v := 0) hx hb (dkP dF_3 DX2_copyFrom (i := 13) rfl rfl) (by decide) ?_
  refine lv_aload_n hx hb (dkP dF_42 DX2_copyFrom (i := 14) rfl rfl) rfl (lv_at hl 0 rfl) ?_
  refine z_gi C0 hw d 1 (fk_of (shl_ot_0 d hd) rfl) fl_X2_42 (dk2 dF_180 DX2_copyFrom (i := 15) rfl rfl rfl) ?_
  refine z_top (y := (nI z)) rd_s ?_
  refine z_cpi (n0 := 24) (n1 := 24) C0 hw (o + 1) (d + 1) 0 0 z (ak_of (shl_ot_1 o ho)) (ak_of (shl_ot_1 d hd)) ac_X2_57 hl.1 (by omega) (by omega) (by decide) (by decide) (by decide) (by decide) (Nat.le_of_ble_eq_true rfl) (dk2 dF_184 DX2_copyFrom (i := 16) rfl rfl rfl) (fun H locs hw => ?_)
  refine lv_aload_n hx hb (dkP dF_43 DX2_copyFrom (i := 17) rfl rfl) rfl (lv_at hl 1 rfl) ?_
  refine z_gr C0 hw o 3 (o + 2) (fk_of (shl_ot_0 o ho) rfl) fl_X2_17 (dk2 dF_180 DX2_copyFrom (i := 18) rfl rfl rfl) ?_
  refine lv_iconst (v := 0) hx hb (dkP dF_3 DX2_copyFrom (i := 19) rfl rfl) (by decide) ?_
  refine lv_aload_n hx hb (dkP dF_42 DX2_copyFrom (i := 20) rfl rfl) rfl (lv_at hl 0 rfl) ?_
  refine z_gr C0 hw d 3 (d + 2) (fk_of (shl_ot_0 d hd) rfl) fl_X2_17 (dk2 dF_180 DX2_copyFrom (i := 21) rfl rfl rfl) ?_
  refine lv_iconst (v := 0) hx hb (dkP dF_3 DX2_copyFrom (i := 22) rfl rfl) (by decide) ?_
  refine lv_aload_n hx hb (dkP dF_42 DX2_copyFrom (i := 23) rfl rfl) rfl (lv_at hl 0 rfl) ?_
  refine z_gi C0 hw d 1 (fk_of (shl_ot_0 d hd) rfl) fl_X2_42 (dk2 dF_180 DX2_copyFrom (i := 24) rfl rfl rfl) ?_
  refine z_top (y := (nI z)) ((congrFun (sCp_o (by omega)) _).trans rd_s) ?_
  refine z_cpi (n0 := 24) (n1 := 24) C0 hw (o + 2) (d + 2) 0 0 z (ak_of (shl_ot_2 o ho)) (ak_of (shl_ot_2 d hd)) ac_X2_57 hl.1 (by omega) (by omega) (by decide) (by decide) (by decide) (by decide) (Nat.le_of_ble_eq_true rfl) (dk2 dF_184 DX2_copyFrom (i := 25) rfl rfl rfl) (fun H locs hw => ?_)
  refine lv_aload_n hx hb (dkP dF_43 DX2_copyFrom (i := 26) rfl rfl) rfl (lv_at hl 1 rfl) ?_
  refine z_gr C0 hw o 4 (o + 3) (fk_of (shl_ot_0 o ho) rfl) fl_X2_20 (dk2 dF_180 DX2_copyFrom (i := 27) rfl rfl rfl) ?_
  refine lv_iconst (v := 0) hx hb (dkP dF_3 DX2_copyFrom (i := 28) rfl rfl) (by decide) ?_
  refine lv_aload_n hx hb (dkP dF_42 DX2_copyFrom (i := 29) rfl rfl) rfl (lv_at hl 0 rfl) ?_
  refine z_gr C0 hw d 4 (d + 3) (fk_of (shl_ot_0 d hd) rfl) fl_X2_20 (dk2 dF_180 DX2_copyFrom (i := 30) rfl rfl rfl) ?_
  refine lv_iconst (v := 0) hx hb (dkP dF_3 DX2_copyFrom (i := 31) rfl rfl) (by decide) ?_
  refine lv_aload_n hx hb (dkP dF_42 DX2_copyFrom (i := 32) rfl rfl) rfl (lv_at hl 0 rfl) ?_
  refine z_gi C0 hw d 1 (fk_of (shl_ot_0 d hd) rfl) fl_X2_42 (dk2 dF_180 DX2_copyFrom (i := 33) rfl rfl rfl) ?_
  refine z_top (y := (nI z)) ((congrFun (sCp_o (by omega)) _).trans ((congrFun (sCp_o (by omega)) _).trans rd_s)) ?_
  refine z_cpi (n0 := 24) (n1 := 24) C0 hw (o + 3) (d + 3) 0 0 z (ak_of (shl_ot_3 o ho)) (ak_of (shl_ot_3 d hd)) ac_X2_57 hl.1 (by omega) (by omega) (by decide) (by decide) (by decide) (by decide) (Nat.le_of_ble_eq_true rfl) (dk2 dF_184 DX2_copyFrom (i := 34) rfl rfl rfl) (fun H locs hw => ?_)
  refine lv_aload_n hx hb (dkP dF_43 DX2_copyFrom (i := 35) rfl rfl) rfl (lv_at hl 1 rfl) ?_
  refine z_gr C0 hw o 5 (o + 4) (fk_of (shl_ot_0 o ho) rfl) fl_X2_23 (dk2 dF_180 DX2_copyFrom (i := 36) rfl rfl rfl) ?_
  refine lv_iconst (v := 0) hx hb (dkP dF_3 DX2_copyFrom (i := 37) rfl rfl) (by decide) ?_
  refine lv_aload_n hx hb (dkP dF_42 DX2_copyFrom (i := 38) rfl rfl) rfl (lv_at hl 0 rfl) ?_
  refine z_gr C0 hw d 5 (d + 4) (fk_of (shl_ot_0 d hd) rfl) fl_X2_23 (dk2 dF_180 DX2_copyFrom (i := 39) rfl rfl rfl) ?_
  refine lv_iconst (v := 0) hx hb (dkP dF_3 DX2_copyFrom (i := 40) rfl rfl) (by decide) ?_
  refine lv_aload_n hx hb (dkP dF_42 DX2_copyFrom (i := 41) rfl rfl) rfl (lv_at hl 0 rfl) ?_
  refine z_gi C0 hw d 1 (fk_of (shl_ot_0 d hd) rfl) fl_X2_42 (dk2 dF_180 DX2_copyFrom (i := 42) rfl rfl rfl) ?_
  refine z_top (y := (nI z)) ((congrFun (sCp_o (by omega)) _).trans ((congrFun (sCp_o (by omega)) _).trans ((congrFun (sCp_o (by omega)) _).trans rd_s))) ?_
  refine z_cpi (n0 := 24) (n1 := 24) C0 hw (o + 4) (d + 4) 0 0 z (ak_of (shl_ot_4 o ho)) (ak_of (shl_ot_4 d hd)) ac_X2_57 hl.1 (by omega) (by omega) (by decide) (by decide) (by decide) (by decide) (Nat.le_of_ble_eq_true rfl) (dk2 dF_184 DX2_copyFrom (i := 43) rfl rfl rfl) (fun H locs hw => ?_)
  refine lv_aload_n hx hb (dkP dF_43 DX2_copyFrom (i := 44) rfl rfl) rfl (lv_at hl 1 rfl) ?_
  refine z_gr C0 hw o 6 (o + 5) (fk_of (shl_ot_0 o ho) rfl) fl_X2_26 (dk2 dF_180 DX2_copyFrom (i := 45) rfl rfl rfl) ?_
  refine lv_iconst (v := 0) hx hb (dkP dF_3 DX2_copyFrom (i := 46) rfl rfl) (by decide) ?_
  refine lv_aload_n hx hb (dkP dF_42 DX2_copyFrom (i := 47) rfl rfl) rfl (lv_at hl 0 rfl) ?_
  refine z_gr C0 hw d 6 (d + 5) (fk_of (shl_ot_0 d hd) rfl) fl_X2_26 (dk2 dF_180 DX2_copyFrom (i := 48) rfl rfl rfl) ?_
  refine lv_iconst (v := 0) hx hb (dkP dF_3 DX2_copyFrom (i := 49) rfl rfl) (by decide) ?_
  refine lv_aload_n hx hb (dkP dF_42 DX2_copyFrom (i := 50) rfl rfl) rfl (lv_at hl 0 rfl) ?_
  refine z_gi C0 hw d 1 (fk_of (shl_ot_0 d hd) rfl) fl_X2_42 (dk2 dF_180 DX2_copyFrom (i := 51) rfl rfl rfl) ?_
  refine z_top (y := (nI z)) ((congrFun (sCp_o (by omega)) _).trans ((congrFun (sCp_o (by omega)) _).trans ((congrFun (sCp_o (by omega)) _).trans ((congrFun (sCp_o (by omega)) _).trans rd_s)))) ?_
  refine z_cpi (n0 := 24) (n1 := 24) C0 hw (o + 5) (d + 5) 0 0 z (ak_of (shl_ot_5 o ho)) (ak_of (shl_ot_5 d hd)) ac_X2_57 hl.1 (by omega) (by omega) (by decide) (by decide) (by decide) (by decide) (Nat.le_of_ble_eq_true rfl) (dk2 dF_184 DX2_copyFrom (i := 52) rfl rfl rfl) (fun H locs hw => ?_)
  refine lv_aload_n hx hb (dkP dF_43 DX2_copyFrom (i := 53) rfl rfl) rfl (lv_at hl 1 rfl) ?_
  refine z_gr C0 hw o 7 (o + 6) (fk_of (shl_ot_0 o ho) rfl) fl_X2_29 (dk2 dF_180 DX2_copyFrom (i := 54) rfl rfl rfl) ?_
  refine lv_iconst (v := 0) hx hb (dkP dF_3 DX2_copyFrom (i := 55) rfl rfl) (by decide) ?_
  refine lv_aload_n hx hb (dkP dF_42 DX2_copyFrom (i := 56) rfl rfl) rfl (lv_at hl 0 rfl) ?_
  refine z_gr C0 hw d 7 (d + 6) (fk_of (shl_ot_0 d hd) rfl) fl_X2_29 (dk2 dF_180 DX2_copyFrom (i := 57) rfl rfl rfl) ?_
  refine lv_iconst (v := 0) hx hb (dkP dF_3 DX2_copyFrom (i := 58) rfl rfl) (by decide) ?_
  refine lv_aload_n hx hb (dkP dF_42 DX2_copyFrom (i := 59) rfl rfl) rfl (lv_at hl 0 rfl) ?_
  refine z_gi C0 hw d 1 (fk_of (shl_ot_0 d hd) rfl) fl_X2_42 (dk2 dF_180 DX2_copyFrom (i := 60) rfl rfl rfl) ?_
  refine z_top (y := (nI z)) ((congrFun (sCp_o (by omega)) _).trans ((congrFun (sCp_o (by omega)) _).trans ((congrFun (sCp_o (by omega)) _).trans ((congrFun (sCp_o (by omega)) _).trans ((congrFun (sCp_o (by omega)) _).trans rd_s))))) ?_
  refine z_cpi (n0 := 24) (n1 := 24) C0 hw (o + 6) (d + 6) 0 0 z (ak_of (shl_ot_6 o ho)) (ak_of (shl_ot_6 d hd)) ac_X2_57 hl.1 (by omega) (by omega) (by decide) (by decide) (by decide) (by decide) (Nat.le_of_ble_eq_true rfl) (dk2 dF_184 DX2_copyFrom (i := 61) rfl rfl rfl) (fun H locs hw => ?_)
  refine lv_aload_n hx hb (dkP dF_43 DX2_copyFrom (i := 62) rfl rfl) rfl (lv_at hl 1 rfl) ?_
  refine z_gr C0 hw o 8 (o + 7) (fk_of (shl_ot_0 o ho) rfl) fl_X2_32 (dk2 dF_180 DX2_copyFrom (i := 63) rfl rfl rfl) ?_
  refine lv_iconst (v := 0) hx hb (dkP dF_3 DX2_copyFrom (i := 64) rfl rfl) (by decide) ?_
  refine lv_aload_n hx hb (dkP dF_42 DX2_copyFrom (i := 65) rfl rfl) rfl (lv_at hl 0 rfl) ?_
  refine z_gr C0 hw d 8 (d + 7) (fk_of (shl_ot_0 d hd) rfl) fl_X2_32 (dk2 dF_180 DX2_copyFrom (i := 66) rfl rfl rfl) ?_
  refine lv_iconst (v := 0) hx hb (dkP dF_3 DX2_copyFrom (i := 67) rfl rfl) (by decide) ?_
  refine lv_aload_n hx hb (dkP dF_42 DX2_copyFrom (i := 68) rfl rfl) rfl (lv_at hl 0 rfl) ?_
  refine z_gi C0 hw d 1 (fk_of (shl_ot_0 d hd) rfl) fl_X2_42 (dk2 dF_180 DX2_copyFrom (i := 69) rfl rfl rfl) ?_
  refine z_top (y := (nI z)) ((congrFun (sCp_o (by omega)) _).trans ((congrFun (sCp_o (by omega)) _).trans ((congrFun (sCp_o (by omega)) _).trans ((congrFun (sCp_o (by omega)) _).trans ((congrFun (sCp_o (by omega)) _).trans ((congrFun (sCp_o (by omega)) _).trans rd_s)))))) ?_
  refine z_cpi (n0 := 24) (n1 := 24) C0 hw (o + 7) (d + 7) 0 0 z (ak_of (shl_ot_7 o ho)) (ak_of (shl_ot_7 d hd)) ac_X2_57 hl.1 (by omega) (by omega) (by decide) (by decide) (by decide) (by decide) (Nat.le_of_ble_eq_true rfl) (dk2 dF_184 DX2_copyFrom (i := 70) rfl rfl rfl) (fun H locs hw => ?_)
  refine lv_aload_n hx hb (dkP dF_42 DX2_copyFrom (i := 71) rfl rfl) rfl (lv_at hl 0 rfl) ?_
  refine z_gr C0 hw d 9 (d + 8) (fk_of (shl_ot_0 d hd) rfl) fl_X2_38 (dk2 dF_180 DX2_copyFrom (i := 72) rfl rfl rfl) ?_
  refine lv_aload_n hx hb (dkP dF_43 DX2_copyFrom (i := 73) rfl rfl) rfl (lv_at hl 1 rfl) ?_
  refine z_gr C0 hw o 9 (o + 8) (fk_of (shl_ot_0 o ho) rfl) fl_X2_38 (dk2 dF_180 DX2_copyFrom (i := 74) rfl rfl rfl) ?_
  refine zk_V hw (zr_V (As := [.ref (ad (o + 8))]) (rest := []) C0 (c_X8_copyFrom_o l G kc ad (sCp (sCp (sCp (sCp (sCp (sCp (sCp (sI (sI σ d 0 (σ.1 o 0)) d 1 (nI z)) (o + 1) (d + 1) 0 0 z) (o + 2) (d + 2) 0 0 z) (o + 3) (d + 3) 0 0 z) (o + 4) (d + 4) 0 0 z) (o + 5) (d + 5) 0 0 z) (o + 6) (d + 6) 0 0 z) (o + 7) (d + 7) 0 0 z) d o u hd ho hne ((congrFun (sCp_o (by omega)) _).trans ((congrFun (sCp_o (by omega)) _).trans ((congrFun (sCp_o (by omega)) _).trans ((congrFun (sCp_o (by omega)) _).trans ((congrFun (sCp_o (by omega)) _).trans ((congrFun (sCp_o (by omega)) _).trans ((congrFun (sCp_o (by omega)) _).trans ((rd_n (by omega)).trans ((rd_n (by omega)).trans eu))))))))) hu _) cv_X8_copyFrom lk_X2_63 (zp_V C0 hw (d + 8) (shl_ot_8 d hd) rfl rfl) rfl hl.1 rfl ⟨by decide, by decide⟩ (Nat.le_of_ble_eq_true rfl) (dk2 dF_182 DX2_copyFrom (i := 75) rfl rfl rfl) ⟨Nat.le_refl _, Nat.le_refl _⟩) (fun s1 H locs hp hw => ?_)
  have hp1 := hp
  exact z_vret C0 hr hlk hw (Of.tO (Of.tC (Of.tC (Of.tC (Of.tC (Of.tC (Of.tC (Of.tC (Of.tI (Of.tI Of.refl (by omega)) (by omega)) (by omega)) (by omega)) (by omega)) (by omega)) (by omega)) (by omega)) (by omega)) hp1 (by omega)) (dkP dF_177 DX2_copyFrom (i := 76) rfl rfl)
set_option maxRecDepth 20000 in
theorem shl_nt_0 : ∀ d, d ∈ ntL → shC[d + 0]? = some (0, 1, [(0, 0), (0, 0), (0, 0), (0, 0), (1, d + 1), (1, d + 2), (1, d + 3), (1, d + 4), (1, d + 5), (1, d + 6)]) := by decide +kernel
set_option maxRecDepth 20000 in
theorem shl_nt_1 : ∀ d, d ∈ ntL → shC[d + 1]? = some (1, 40, []) := by decide +kernel
set_option maxRecDepth 20000 in
theorem shl_nt_2 : ∀ d, d ∈ ntL → shC[d + 2]? = some (1, 40, []) := by decide +kernel
set_option maxRecDepth 20000 in
theorem shl_nt_3 : ∀ d, d ∈ ntL → shC[d + 3]? = some (1, 40, []) := by decide +kernel
set_option maxRecDepth 20000 in
theorem shl_nt_4 : ∀ d, d ∈ ntL → shC[d + 4]? = some (1, 40, []) := by decide +kernel
set_option maxRecDepth 20000 in
theorem shl_nt_5 : ∀ d, d ∈ ntL → shC[d + 5]? = some (1, 160, []) := by decide +kernel
set_option maxRecDepth 100000 in
set_option maxHeartbeats 4000000 in
theorem c_X1_copyFrom (l : Launch) (G : va_G) (kc : Nat → ClassId) (ad : Nat → Nat) (σ : Sg) (d : Nat)  (o : Nat) (hd : d ∈ ntL) (ho : o ∈ ntL) (hne : d + 8 ≤ o ∨ o + 8 ≤ d) (hk : NTk σ o) : MV l G kc yX1_copyFrom cX1_copyFrom 2 2 47 [.ref (ad d), .ref (ad o)] shC ad σ (fun σ1 => Of σ σ1 d 8) := by
  intro sz
  refine z_body (y := yX1_copyFrom) (n := 2) (av := [.ref (ad d), .ref (ad o)]) (Qc := fun A => va_Qv (fun σ1 => Of σ σ1 d 8) (PoC G kc shC ad A) A) (plainFor_of_name (by decide)) (Nat.le_of_ble_eq_true rfl) (fun pr e s m below meth c A C0 hr hlk hnm hw ls hl => ?_) sz
  have hx := C0.1
  have hb := C0.2.1
  have hown := C0.2.2.2.1
  have hts := C0.2.2.2.2.1
  have hl : lv_has ls 2 [(0, .ref (ad d)), (1, .ref (ad o))] := hl
  obtain ⟨h0, h1, ⟨z, hz, ez⟩, ⟨u, hu, eu⟩⟩ := hk
  refine lv_aload_n hx hb (dkP dF_42 DX1_copyFrom (i := 0) rfl rfl) rfl (lv_at hl 0 rfl) ?_
  refine lv_aload_n hx hb (dkP dF_43 DX1_copyFrom (i := 1) rfl rfl) rfl (lv_at hl 1 rfl) ?_
  refine z_gi C0 hw o 0 (fk_of (shl_nt_0 o ho) rfl) fl_X1_51 (dk2 dF_180 DX1_copyFrom (i := 2) rfl rfl rfl) ?_
  refine z_pz C0 hw d 0 (by first | exact h0 | (rw [rd_n (by omega)]; exact h0)) (fk_of (shl_nt_0 d hd) rfl) fp_X1_51 (dk2 dF_181 DX1_copyFrom (i := 3) rfl rfl rfl) (fun H locs hw => ?_)
  refine lv_aload_n hx hb (dkP dF_42 DX1_copyFrom (i := 4) rfl rfl) rfl (lv_at hl 0 rfl) ?_
  refine lv_aload_n hx hb (dkP dF_43 DX1_copyFrom (i := 5) rfl rfl) rfl (lv_at hl 1 rfl) ?_
  refine z_gi C0 hw o 1 (fk_of (shl_nt_0 o ho) rfl) fl_X1_36 (dk2 dF_180 DX1_copyFrom (i := 6) rfl rfl rfl) ?_
  refine z_pz C0 hw d 1 (by first | exact h1 | (rw [rd_n (by omega)]; exact h1)) (fk_of (shl_nt_0 d hd) rfl) fp_X1_36 (dk2 dF_181 DX1_copyFrom (i := 7) rfl rfl rfl) (fun H locs hw => ?_)
  refine lv_aload_n hx hb (dkP dF_42 DX1_copyFrom (i := 8) rfl rfl) rfl (lv_at hl 0 rfl) ?_
  refine lv_aload_n hx hb (dkP dF_43 DX1_copyFrom (i := 9) rfl rfl) rfl (lv_at hl 1 rfl) ?_
  refine z_gi C0 hw o 2 (fk_of (shl_nt_0 o ho) rfl) fl_X1_48 (dk2 dF_180 DX1_copyFrom (i := 10) rfl rfl rfl) ?_
  refine z_pi C0 hw d 2 (fk_of (shl_nt_0 d hd) rfl) fp_X1_48 (dk2 dF_181 DX1_copyFrom (i := 11) rfl rfl rfl) (fun H locs hw => ?_)
  refine lv_aload_n hx hb (dkP dF_42 DX1_copyFrom (i := 12) rfl rfl) rfl (lv_at hl 0 rfl) ?_
  refine lv_aload_n hx hb (dkP dF_43 DX1_copyFrom (i := 13) rfl rfl) rfl (lv_at hl 1 rfl) ?_
  refine z_gi C0 hw o 3 (fk_of (shl_nt_0 o ho) rfl) fl_X1_40 (dk2 dF_180 DX1_copyFrom (i := 14) rfl rfl rfl) ?_
  refine z_top (y := (nI z)) ((rd_n (by omega)).trans ((rd_n (by omega)).trans ((rd_n (by omega)).trans ez))) ?_
  refine z_pi C0 hw d 3 (fk_of (shl_nt_0 d hd) rfl) fp_X1_40 (dk2 dF_181 DX1_copyFrom (i := 15) rfl rfl rfl) (fun H locs hw => ?_)
  refine lv_aload_n hx hb (dkP dF_43 DX1_copyFrom (i := 16) rfl rfl) rfl (lv_at hl 1 rfl) ?_
  refine z_gr C0 hw o 4 (o + 1) (fk_of (shl_nt_0 o ho) rfl) fl_X1_13 (dk2 dF_180 DX1_copyFrom (i := 17) rfl rfl rfl) ?_
  refine lv_iconst (v := 0) hx hb (dkP dF_3 DX1_copyFrom (i := 18) rfl rfl) (by decide) ?_
  refine lv_aload_n hx hb (dkP dF_42 DX1_copyFrom (i := 19) rfl rfl) rfl (lv_at hl 0 rfl) ?_
  refine z_gr C0 hw d 4 (d + 1) (fk_of (shl_nt_0 d hd) rfl) fl_X1_13 (dk2 dF_180 DX1_copyFrom (i := 20) rfl rfl rfl) ?_
  refine lv_iconst (v := 0) hx hb (dkP dF_3 DX1_copyFrom (i := 21) rfl rfl) (by decide) ?_
  refine lv_aload_n hx hb (dkP dF_42 DX1_copyFrom (i := 22) rfl rfl) rfl (lv_at hl 0 rfl) ?_
  refine z_gi C0 hw d 3 (fk_of (shl_nt_0 d hd) rfl) fl_X1_40 (dk2 dF_180 DX1_copyFrom (i := 23) rfl rfl rfl) ?_
  refine z_top (y := (nI z)) rd_s ?_
  refine z_cpi (n0 := 40) (n1 := 40) C0 hw (o + 1) (d + 1) 0 0 z (ak_of (shl_nt_1 o ho)) (ak_of (shl_nt_1 d hd)) ac_X1_54 hl.1 (by omega) (by omega) (by decide) (by decide) (by decide) (by decide) (Nat.le_of_ble_eq_true rfl) (dk2 dF_184 DX1_copyFrom (i := 24) rfl rfl rfl) (fun H locs hw => ?_)
  refine lv_aload_n hx hb (dkP dF_43 DX1_copyFrom (i := 25) rfl rfl) rfl (lv_at hl 1 rfl) ?_
  refine z_gr C0 hw o 5 (o + 2) (fk_of (shl_nt_0 o ho) rfl) fl_X1_17 (dk2 dF_180 DX1_copyFrom (i := 26) rfl rfl rfl) ?_
  refine lv_iconst (v := 0) hx hb (dkP dF_3 DX1_copyFrom (i := 27) rfl rfl) (by decide) ?_
  refine lv_aload_n hx hb (dkP dF_42 DX1_copyFrom (i := 28) rfl rfl) rfl (lv_at hl 0 rfl) ?_
  refine z_gr C0 hw d 5 (d + 2) (fk_of (shl_nt_0 d hd) rfl) fl_X1_17 (dk2 dF_180 DX1_copyFrom (i := 29) rfl rfl rfl) ?_
  refine lv_iconst (v := 0) hx hb (dkP dF_3 DX1_copyFrom (i := 30) rfl rfl) (by decide) ?_
  refine lv_aload_n hx hb (dkP dF_42 DX1_copyFrom (i := 31) rfl rfl) rfl (lv_at hl 0 rfl) ?_
  refine z_gi C0 hw d 3 (fk_of (shl_nt_0 d hd) rfl) fl_X1_40 (dk2 dF_180 DX1_copyFrom (i := 32) rfl rfl rfl) ?_
  refine z_top (y := (nI z)) ((congrFun (sCp_o (by omega)) _).trans rd_s) ?_
  refine z_cpi (n0 := 40) (n1 := 40) C0 hw (o + 2) (d + 2) 0 0 z (ak_of (shl_nt_2 o ho)) (ak_of (shl_nt_2 d hd)) ac_X1_54 hl.1 (by omega) (by omega) (by decide) (by decide) (by decide) (by decide) (Nat.le_of_ble_eq_true rfl) (dk2 dF_184 DX1_copyFrom (i := 33) rfl rfl rfl) (fun H locs hw => ?_)
  refine lv_aload_n hx hb (dkP dF_43 DX1_copyFrom (i := 34) rfl rfl) rfl (lv_at hl 1 rfl) ?_
  refine z_gr C0 hw o 6 (o + 3) (fk_of (shl_nt_0 o ho) rfl) fl_X1_20 (dk2 dF_180 DX1_copyFrom (i := 35) rfl rfl rfl) ?_
  refine lv_iconst (v := 0) hx hb (dkP dF_3 DX1_copyFrom (i := 36) rfl rfl) (by decide) ?_
  refine lv_aload_n hx hb (dkP dF_42 DX1_copyFrom (i := 37) rfl rfl) rfl (lv_at hl 0 rfl) ?_
  refine z_gr C0 hw d 6 (d + 3) (fk_of (shl_nt_0 d hd) rfl) fl_X1_20 (dk2 dF_180 DX1_copyFrom (i := 38) rfl rfl rfl) ?_
  refine lv_iconst (v := 0) hx hb (dkP dF_3 DX1_copyFrom (i := 39) rfl rfl) (by decide) ?_
  refine lv_aload_n hx hb (dkP dF_42 DX1_copyFrom (i := 40) rfl rfl) rfl (lv_at hl 0 rfl) ?_
  refine z_gi C0 hw d 3 (fk_of (shl_nt_0 d hd) rfl) fl_X1_40 (dk2 dF_180 DX1_copyFrom (i := 41) rfl rfl rfl) ?_
  refine z_top (y := (nI z)) ((congrFun (sCp_o (by omega)) _).trans ((congrFun (sCp_o (by omega)) _).trans rd_s)) ?_
  refine z_cpi (n0 := 40) (n1 := 40) C0 hw (o + 3) (d + 3) 0 0 z (ak_of (shl_nt_3 o ho)) (ak_of (shl_nt_3 d hd)) ac_X1_54 hl.1 (by omega) (by omega) (by decide) (by decide) (by decide) (by decide) (Nat.le_of_ble_eq_true rfl) (dk2 dF_184 DX1_copyFrom (i := 42) rfl rfl rfl) (fun H locs hw => ?_)
  refine lv_aload_n hx hb (dkP dF_43 DX1_copyFrom (i := 43) rfl rfl) rfl (lv_at hl 1 rfl) ?_
  refine z_gr C0 hw o 7 (o + 4) (fk_of (shl_nt_0 o ho) rfl) fl_X1_23 (dk2 dF_180 DX1_copyFrom (i := 44) rfl rfl rfl) ?_
  refine lv_iconst (v := 0) hx hb (dkP dF_3 DX1_copyFrom (i := 45) rfl rfl) (by decide) ?_
  refine lv_aload_n hx hb (dkP dF_42 DX1_copyFrom (i := 46) rfl rfl) rfl (lv_at hl 0 rfl) ?_
  refine z_gr C0 hw d 7 (d + 4) (fk_of (shl_nt_0 d hd) rfl) fl_X1_23 (dk2 dF_180 DX1_copyFrom (i := 47) rfl rfl rfl) ?_
  refine lv_iconst (v := 0) hx hb (dkP dF_3 DX1_copyFrom (i := 48) rfl rfl) (by decide) ?_
  refine lv_aload_n hx hb (dkP dF_42 DX1_copyFrom (i := 49) rfl rfl) rfl (lv_at hl 0 rfl) ?_
  refine z_gi C0 hw d 3 (fk_of (shl_nt_0 d hd) rfl) fl_X1_40 (dk2 dF_180 DX1_copyFrom (i := 50) rfl rfl rfl) ?_
  refine z_top (y := (nI z)) ((congrFun (sCp_o (by omega)) _).trans ((congrFun (sCp_o (by omega)) _).trans ((congrFun (sCp_o (by omega)) _).trans rd_s))) ?_
  refine z_cpi (n0 := 40) (n1 := 40) C0 hw (o + 4) (d + 4) 0 0 z (ak_of (shl_nt_4 o ho)) (ak_of (shl_nt_4 d hd)) ac_X1_54 hl.1 (by omega) (by omega) (by decide) (by decide) (by decide) (by decide) (Nat.le_of_ble_eq_true rfl) (dk2 dF_184 DX1_copyFrom (i := 51) rfl rfl rfl) (fun H locs hw => ?_)
  refine lv_aload_n hx hb (dkP dF_43 DX1_copyFrom (i := 52) rfl rfl) rfl (lv_at hl 1 rfl) ?_
  refine z_gr C0 hw o 8 (o + 5) (fk_of (shl_nt_0 o ho) rfl) fl_X1_26 (dk2 dF_180 DX1_copyFrom (i := 53) rfl rfl rfl) ?_
  refine lv_iconst (v := 0) hx hb (dkP dF_3 DX1_copyFrom (i := 54) rfl rfl) (by decide) ?_
  refine lv_aload_n hx hb (dkP dF_42 DX1_copyFrom (i := 55) rfl rfl) rfl (lv_at hl 0 rfl) ?_
  refine z_gr C0 hw d 8 (d + 5) (fk_of (shl_nt_0 d hd) rfl) fl_X1_26 (dk2 dF_180 DX1_copyFrom (i := 56) rfl rfl rfl) ?_
  refine lv_iconst (v := 0) hx hb (dkP dF_3 DX1_copyFrom (i := 57) rfl rfl) (by decide) ?_
  refine lv_aload_n hx hb (dkP dF_42 DX1_copyFrom (i := 58) rfl rfl) rfl (lv_at hl 0 rfl) ?_
  refine z_gi C0 hw d 3 (fk_of (shl_nt_0 d hd) rfl) fl_X1_40 (dk2 dF_180 DX1_copyFrom (i := 59) rfl rfl rfl) ?_
  refine z_top (y := (nI z)) ((congrFun (sCp_o (by omega)) _).trans ((congrFun (sCp_o (by omega)) _).trans ((congrFun (sCp_o (by omega)) _).trans ((congrFun (sCp_o (by omega)) _).trans rd_s)))) ?_
  refine lv_iconst (v := 4) hx hb (dkP dF_7 DX1_copyFrom (i := 60) rfl rfl) (by decide) ?_
  refine lv_imul hx hb (dkP dF_104 DX1_copyFrom (i := 61) rfl rfl) ?_
  refine z_top (y := nI (z * 4)) (by simp only [fa_lit, nI_add, pk_mul]) ?_
  refine z_cpi (n0 := 160) (n1 := 160) C0 hw (o + 5) (d + 5) 0 0 (z * 4) (ak_of (shl_nt_5 o ho)) (ak_of (shl_nt_5 d hd)) ac_X1_54 hl.1 (by omega) (by omega) (by decide) (by decide) (by decide) (by decide) (Nat.le_of_ble_eq_true rfl) (dk2 dF_184 DX1_copyFrom (i := 62) rfl rfl rfl) (fun H locs hw => ?_)
  refine lv_aload_n hx hb (dkP dF_42 DX1_copyFrom (i := 63) rfl rfl) rfl (lv_at hl 0 rfl) ?_
  refine z_gr C0 hw d 9 (d + 6) (fk_of (shl_nt_0 d hd) rfl) fl_X1_32 (dk2 dF_180 DX1_copyFrom (i := 64) rfl rfl rfl) ?_
  refine lv_aload_n hx hb (dkP dF_43 DX1_copyFrom (i := 65) rfl rfl) rfl (lv_at hl 1 rfl) ?_
  refine z_gr C0 hw o 9 (o + 6) (fk_of (shl_nt_0 o ho) rfl) fl_X1_32 (dk2 dF_180 DX1_copyFrom (i := 66) rfl rfl rfl) ?_
  refine zk_V hw (zr_V (As := [.ref (ad (o + 6))]) (rest := []) C0 (c_X8_copyFrom_n l G kc ad (sCp (sCp (sCp (sCp (sCp (sI (sI (sI (sI σ d 0 (σ.1 o 0)) d 1 ((sI σ d 0 (σ.1 o 0)).1 o 1)) d 2 ((sI (sI σ d 0 (σ.1 o 0)) d 1 ((sI σ d 0 (σ.1 o 0)).1 o 1)).1 o 2)) d 3 (nI z)) (o + 1) (d + 1) 0 0 z) (o + 2) (d + 2) 0 0 z) (o + 3) (d + 3) 0 0 z) (o + 4) (d + 4) 0 0 z) (o + 5) (d + 5) 0 0 (z * 4)) d o u hd ho hne ((congrFun (sCp_o (by omega)) _).trans ((congrFun (sCp_o (by omega)) _).trans ((congrFun (sCp_o (by omega)) _).trans ((congrFun (sCp_o (by omega)) _).trans ((congrFun (sCp_o (by omega)) _).trans ((rd_n (by omega)).trans ((rd_n (by omega)).trans ((rd_n (by omega)).trans ((rd_n (by omega)).trans eu))))))))) hu _) cv_X8_copyFrom lk_X1_60 (zp_V C0 hw (d + 6) (shl_nt_6 d hd) rfl rfl) rfl hl.1 rfl ⟨by decide, by decide⟩ (Nat.le_of_ble_eq_true rfl) (dk2 dF_182 DX1_copyFrom (i := 67) rfl rfl rfl) ⟨Nat.le_refl _, Nat.le_refl _⟩) (fun s1 H locs hp hw => ?_)
  have hp1 := hp
  exact z_vret C0 hr hlk hw (Of.tO (Of.tC (Of.tC (Of.tC (Of.tC (Of.tC (Of.tI (Of.tI (Of.tI (Of.tI Of.refl (by omega)) (by omega)) (by omega)) (by omega)) (by omega)) (by omega)) (by omega)) (by omega)) (by omega)) hp1 (by omega)) (dkP dF_177 DX1_copyFrom (i := 68) rfl rfl)
set_option maxRecDepth 20000 in
theorem shl_pg_0 : ∀ d, d ∈ pgL → shC[d + 0]? = some (0, 4, [(0, 0), (0, 0), (2, 0), (2, 0), (0, 0), (0, 0), (1, d + 19), (1, d + 20), (1, d + 21)]) := by decide +kernel
set_option maxRecDepth 20000 in
theorem shl_pg_1 : ∀ d, d ∈ pgL → shC[d + 1]? = some (0, 2, [(0, 0), (0, 0), (1, d + 2), (1, d + 3), (1, d + 4), (1, d + 5), (1, d + 6), (1, d + 7), (1, d + 8), (1, d + 9)]) := by decide +kernel
set_option maxRecDepth 20000 in
theorem shl_pg_11 : ∀ d, d ∈ pgL → shC[d + 11]? = some (0, 1, [(0, 0), (0, 0), (0, 0), (0, 0), (1, d + 12), (1, d + 13), (1, d + 14), (1, d + 15), (1, d + 16), (1, d + 17)]) := by decide +kernel
set_option maxRecDepth 20000 in
theorem shl_pg_19 : ∀ d, d ∈ pgL → shC[d + 19]? = some (1, 3, []) := by decide +kernel
set_option maxRecDepth 20000 in
theorem shl_pg_20 : ∀ d, d ∈ pgL → shC[d + 20]? = some (1, 3, []) := by decide +kernel
set_option maxRecDepth 20000 in
theorem shl_pg_21 : ∀ d, d ∈ pgL → shC[d + 21]? = some (1, 3, []) := by decide +kernel
set_option maxRecDepth 100000 in
set_option maxHeartbeats 4000000 in
theorem c_X4_copyFrom_f (l : Launch) (G : va_G) (kc : Nat → ClassId) (ad : Nat → Nat) (σ : Sg) (d : Nat)  (o : Nat) (hd : d ∈ pgL) (ho : o ∈ pgL) (hne : d + 22 ≤ o ∨ o + 22 ≤ d) (p1 : σ.2.2 d 2 = some (d + 1)) (p2 : σ.2.2 d 3 = some (d + 11)) (p3 : σ.2.2 o 2 = some (o + 1)) (p4 : σ.2.2 o 3 = some (o + 11)) (k1 : OTk σ (o + 1)) (k2 : NTk σ (o + 11)) : MV l G kc yX4_copyFrom cX4_copyFrom 2 3 68 [.ref (ad d), .ref (ad o)] shC ad σ (fun σ1 => Of σ σ1 d 22) := by
  intro sz
  refine z_body (y := yX4_copyFrom) (n := 2) (av := [.ref (ad d), .ref (ad o)]) (Qc := fun A => va_Qv (fun σ1 => Of σ σ1 d 22) (PoC G kc shC ad A) A) (plainFor_of_name (by decide)) (Nat.le_of_ble_eq_true rfl) (fun pr e s m below meth c A C0 hr hlk hnm hw ls hl => ?_) sz
  have hx := C0.1
  have hb := C0.2.1
  have hown := C0.2.2.2.1
  have hts := C0.2.2.2.2.1
  have hl : lv_has ls 2 [(0, .ref (ad d)), (1, .ref (ad o))] := hl
  refine lv_aload_n hx hb (dkP dF_42 DX4_copyFrom (i := 0) rfl rfl) rfl (lv_at hl 0 rfl) ?_
  refine lv_aload_n hx hb (dkP dF_43 DX4_copyFrom (i := 1) rfl rfl) rfl (lv_at hl 1 rfl) ?_
  refine z_gi C0 hw o 0 (fk_of (shl_pg_0 o ho) rfl) fl_X4_9 (dk2 dF_180 DX4_copyFrom (i := 2) rfl rfl rfl) ?_
  refine z_pi C0 hw d 0 (fk_of (shl_pg_0 d hd) rfl) fp_X4_9 (dk2 dF_181 DX4_copyFrom (i := 3) rfl rfl rfl) (fun H locs hw => ?_)
  refine lv_aload_n hx hb (dkP dF_42 DX4_copyFrom (i := 4) rfl rfl) rfl (lv_at hl 0 rfl) ?_
  refine lv_aload_n hx hb (dkP dF_43 DX4_copyFrom (i := 5) rfl rfl) rfl (lv_at hl 1 rfl) ?_
  refine z_gi C0 hw o 1 (fk_of (shl_pg_0 o ho) rfl) fl_X4_15 (dk2 dF_180 DX4_copyFrom (i := 6) rfl rfl rfl) ?_
  refine z_pi C0 hw d 1 (fk_of (shl_pg_0 d hd) rfl) fp_X4_15 (dk2 dF_181 DX4_copyFrom (i := 7) rfl rfl rfl) (fun H locs hw => ?_)
  refine lv_aload_n hx hb (dkP dF_42 DX4_copyFrom (i := 8) rfl rfl) rfl (lv_at hl 0 rfl) ?_
  refine z_gms C0 hw d 2 (d + 1) ((Of.ptr (d := d) (n := 22) (Of.tI (Of.tI Of.refl (by omega)) (by omega))).trans p1) (fk_of (shl_pg_0 d hd) rfl) fl_X4_21 (dk2 dF_180 DX4_copyFrom (i := 9) rfl rfl rfl) ?_
  refine lv_aload_n hx hb (dkP dF_43 DX4_copyFrom (i := 10) rfl rfl) rfl (lv_at hl 1 rfl) ?_
  refine z_gms C0 hw o 2 (o + 1) ((Of.ptr (d := d) (n := 22) (Of.tI (Of.tI Of.refl (by omega)) (by omega))).trans p3) (fk_of (shl_pg_0 o ho) rfl) fl_X4_21 (dk2 dF_180 DX4_copyFrom (i := 11) rfl rfl rfl) ?_
  refine zk_V hw (zr_V (As := [.ref (ad (o + 1))]) (rest := []) C0 (c_X2_copyFrom l G kc ad (sI (sI σ d 0 (σ.1 o 0)) d 1 ((sI σ d 0 (σ.1 o 0)).1 o 1)) (d + 1) (o + 1) (pgot d hd) (pgot o ho) (by omega) (Of.ot (d := d) (n := 22) (Of.tI (Of.tI Of.refl (by omega)) (by omega)) (by omega) k1) _) cv_X2_copyFrom lk_X4_45 (zp_V C0 hw (d + 1) (shl_pg_1 d hd) rfl rfl) rfl hl.1 rfl ⟨by decide, by decide⟩ (Nat.le_of_ble_eq_true rfl) (dk2 dF_182 DX4_copyFrom (i := 12) rfl rfl rfl) ⟨Nat.le_refl _, Nat.le_refl _⟩) (fun s1 H locs hp hw => ?_)
  have hp1 := hp
  refine lv_aload_n hx hb (dkP dF_42 DX4_copyFrom (i := 13) rfl rfl) rfl (lv_at hl 0 rfl) ?_
  refine z_gms C0 hw d 3 (d + 11) ((Of.ptr (d := d) (n := 22) (Of.tO (Of.tI (Of.tI Of.refl (by omega)) (by omega)) hp1 (by omega))).trans p2) (fk_of (shl_pg_0 d hd) rfl) fl_X4_28 (dk2 dF_180 DX4_copyFrom (i := 14) rfl rfl rfl) ?_
  refine lv_aload_n hx hb (dkP dF_43 DX4_copyFrom (i := 15) rfl rfl) rfl (lv_at hl 1 rfl) ?_
  refine z_gms C0 hw o 3 (o + 11) ((Of.ptr (d := d) (n := 22) (Of.tO (Of.tI (Of.tI Of.refl (by omega)) (by omega)) hp1 (by omega))).trans p4) (fk_of (shl_pg_0 o ho) rfl) fl_X4_28 (dk2 dF_180 DX4_copyFrom (i := 16) rfl rfl rfl) ?_
  refine zk_V hw (zr_V (As := [.ref (ad (o + 11))]) (rest := []) C0 (c_X1_copyFrom l G kc ad s1 (d + 11) (o + 11) (pgnt d hd) (pgnt o ho) (by omega) (Of.nt (d := d) (n := 22) (Of.tO (Of.tI (Of.tI Of.refl (by omega)) (by omega)) hp1 (by omega)) (by omega) k2) _) cv_X1_copyFrom lk_X4_49 (zp_V C0 hw (d + 11) (shl_pg_11 d hd) rfl rfl) rfl hl.1 rfl ⟨by decide, by decide⟩ (Nat.le_of_ble_eq_true rfl) (dk2 dF_182 DX4_copyFrom (i := 17) rfl rfl rfl) ⟨Nat.le_refl _, Nat.le_refl _⟩) (fun s2 H locs hp hw => ?_)
  have hp2 := hp
  refine lv_aload_n hx hb (dkP dF_42 DX4_copyFrom (i := 18) rfl rfl) rfl (lv_at hl 0 rfl) ?_
  refine lv_aload_n hx hb (dkP dF_43 DX4_copyFrom (i := 19) rfl rfl) rfl (lv_at hl 1 rfl) ?_
  refine z_gi C0 hw o 4 (fk_of (shl_pg_0 o ho) rfl) fl_X4_32 (dk2 dF_180 DX4_copyFrom (i := 20) rfl rfl rfl) ?_
  refine z_pi C0 hw d 4 (fk_of (shl_pg_0 d hd) rfl) fp_X4_32 (dk2 dF_181 DX4_copyFrom (i := 21) rfl rfl rfl) (fun H locs hw => ?_)
  refine lv_aload_n hx hb (dkP dF_42 DX4_copyFrom (i := 22) rfl rfl) rfl (lv_at hl 0 rfl) ?_
  refine lv_aload_n hx hb (dkP dF_43 DX4_copyFrom (i := 23) rfl rfl) rfl (lv_at hl 1 rfl) ?_
  refine z_gi C0 hw o 5 (fk_of (shl_pg_0 o ho) rfl) fl_X4_52 (dk2 dF_180 DX4_copyFrom (i := 24) rfl rfl rfl) ?_
  refine z_pi C0 hw d 5 (fk_of (shl_pg_0 d hd) rfl) fp_X4_52 (dk2 dF_181 DX4_copyFrom (i := 25) rfl rfl rfl) (fun H locs hw => ?_)
  refine lv_aload_n hx hb (dkP dF_43 DX4_copyFrom (i := 26) rfl rfl) rfl (lv_at hl 1 rfl) ?_
  refine z_gr C0 hw o 6 (o + 19) (fk_of (shl_pg_0 o ho) rfl) fl_X4_35 (dk2 dF_180 DX4_copyFrom (i := 27) rfl rfl rfl) ?_
  refine lv_iconst (v := 0) hx hb (dkP dF_3 DX4_copyFrom (i := 28) rfl rfl) (by decide) ?_
  refine lv_aload_n hx hb (dkP dF_42 DX4_copyFrom (i := 29) rfl rfl) rfl (lv_at hl 0 rfl) ?_
  refine z_gr C0 hw d 6 (d + 19) (fk_of (shl_pg_0 d hd) rfl) fl_X4_35 (dk2 dF_180 DX4_copyFrom (i := 30) rfl rfl rfl) ?_
  refine lv_iconst (v := 0) hx hb (dkP dF_3 DX4_copyFrom (i := 31) rfl rfl) (by decide) ?_
  refine lv_iconst (v := 3) hx hb (dkP dF_6 DX4_copyFrom (i := 32) rfl rfl) (by decide) ?_
  refine z_cpi (n0 := 3) (n1 := 3) C0 hw (o + 19) (d + 19) 0 0 3 (ak_of (shl_pg_19 o ho)) (ak_of (shl_pg_19 d hd)) ac_X4_55 hl.1 (by omega) (by omega) (by decide) (by decide) (by decide) (by decide) (Nat.le_of_ble_eq_true rfl) (dk2 dF_184 DX4_copyFrom (i := 33) rfl rfl rfl) (fun H locs hw => ?_)
  refine lv_aload_n hx hb (dkP dF_43 DX4_copyFrom (i := 34) rfl rfl) rfl (lv_at hl 1 rfl) ?_
  refine z_gr C0 hw o 7 (o + 20) (fk_of (shl_pg_0 o ho) rfl) fl_X4_39 (dk2 dF_180 DX4_copyFrom (i := 35) rfl rfl rfl) ?_
  refine lv_iconst (v := 0) hx hb (dkP dF_3 DX4_copyFrom (i := 36) rfl rfl) (by decide) ?_
  refine lv_aload_n hx hb (dkP dF_42 DX4_copyFrom (i := 37) rfl rfl) rfl (lv_at hl 0 rfl) ?_
  refine z_gr C0 hw d 7 (d + 20) (fk_of (shl_pg_0 d hd) rfl) fl_X4_39 (dk2 dF_180 DX4_copyFrom (i := 38) rfl rfl rfl) ?_
  refine lv_iconst (v := 0) hx hb (dkP dF_3 DX4_copyFrom (i := 39) rfl rfl) (by decide) ?_
  refine lv_iconst (v := 3) hx hb (dkP dF_6 DX4_copyFrom (i := 40) rfl rfl) (by decide) ?_
  refine z_cpi (n0 := 3) (n1 := 3) C0 hw (o + 20) (d + 20) 0 0 3 (ak_of (shl_pg_20 o ho)) (ak_of (shl_pg_20 d hd)) ac_X4_55 hl.1 (by omega) (by omega) (by decide) (by decide) (by decide) (by decide) (Nat.le_of_ble_eq_true rfl) (dk2 dF_184 DX4_copyFrom (i := 41) rfl rfl rfl) (fun H locs hw => ?_)
  refine lv_aload_n hx hb (dkP dF_43 DX4_copyFrom (i := 42) rfl rfl) rfl (lv_at hl 1 rfl) ?_
  refine z_gr C0 hw o 8 (o + 21) (fk_of (shl_pg_0 o ho) rfl) fl_X4_42 (dk2 dF_180 DX4_copyFrom (i := 43) rfl rfl rfl) ?_
  refine lv_iconst (v := 0) hx hb (dkP dF_3 DX4_copyFrom (i := 44) rfl rfl) (by decide) ?_
  refine lv_aload_n hx hb (dkP dF_42 DX4_copyFrom (i := 45) rfl rfl) rfl (lv_at hl 0 rfl) ?_
  refine z_gr C0 hw d 8 (d + 21) (fk_of (shl_pg_0 d hd) rfl) fl_X4_42 (dk2 dF_180 DX4_copyFrom (i := 46) rfl rfl rfl) ?_
  refine lv_iconst (v := 0) hx hb (dkP dF_3 DX4_copyFrom (i := 47) rfl rfl) (by decide) ?_
  refine lv_iconst (v := 3) hx hb (dkP dF_6 DX4_copyFrom (i := 48) rfl rfl) (by decide) ?_
  refine z_cpi (n0 := 3) (n1 := 3) C0 hw (o + 21) (d + 21) 0 0 3 (ak_of (shl_pg_21 o ho)) (ak_of (shl_pg_21 d hd)) ac_X4_55 hl.1 (by omega) (by omega) (by decide) (by decide) (by decide) (by decide) (Nat.le_of_ble_eq_true rfl) (dk2 dF_184 DX4_copyFrom (i := 49) rfl rfl rfl) (fun H locs hw => ?_)
  exact z_vret C0 hr hlk hw (Of.tC (Of.tC (Of.tC (Of.tI (Of.tI (Of.tO (Of.tO (Of.tI (Of.tI Of.refl (by omega)) (by omega)) hp1 (by omega)) hp2 (by omega)) (by omega)) (by omega)) (by omega)) (by omega)) (by omega)) (dkP dF_177 DX4_copyFrom (i := 50) rfl rfl)
set_option maxRecDepth 20000 in
theorem shl_wk_5 : ∀ d, d ∈ wkL → shC[d + 5]? = some (0, 6, [(1, d + 6), (0, 0), (0, 0)]) := by decide +kernel
set_option maxRecDepth 20000 in
theorem shl_wk_6 : ∀ d, d ∈ wkL → shC[d + 6]? = some (1, 100, []) := by decide +kernel
set_option maxRecDepth 100000 in
set_option maxHeartbeats 4000000 in
theorem c_X6_copyFrom (l : Launch) (G : va_G) (kc : Nat → ClassId) (ad : Nat → Nat) (σ : Sg) (d : Nat) (o : Nat)  (hd : d ∈ wkL) (ho : o ∈ wkL) : MV l G kc yX6_copyFrom cX6_copyFrom 2 1 26 [.ref (ad (d + 5)), .ref (ad (o + 5))] shC ad σ (fun σ1 => Of σ σ1 (d + 5) 2) := by
  intro sz
  refine z_body (y := yX6_copyFrom) (n := 2) (av := [.ref (ad (d + 5)), .ref (ad (o + 5))]) (Qc := fun A => va_Qv (fun σ1 => Of σ σ1 (d + 5) 2) (PoC G kc shC ad A) A) (plainFor_of_name (by decide)) (Nat.le_of_ble_eq_true rfl) (fun pr e s m below meth c A C0 hr hlk hnm hw ls hl => ?_) sz
  have hx := C0.1
  have hb := C0.2.1
  have hown := C0.2.2.2.1
  have hts := C0.2.2.2.2.1
  have hl : lv_has ls 2 [(0, .ref (ad (d + 5))), (1, .ref (ad (o + 5)))] := hl
  refine lv_aload_n hx hb (dkP dF_43 DX6_copyFrom (i := 0) rfl rfl) rfl (lv_at hl 1 rfl) ?_
  refine z_gr C0 hw (o + 5) 0 (o + 6) (fk_of (shl_wk_5 o ho) rfl) fl_X6_11 (dk2 dF_180 DX6_copyFrom (i := 1) rfl rfl rfl) ?_
  refine lv_iconst (v := 0) hx hb (dkP dF_3 DX6_copyFrom (i := 2) rfl rfl) (by decide) ?_
  refine lv_aload_n hx hb (dkP dF_42 DX6_copyFrom (i := 3) rfl rfl) rfl (lv_at hl 0 rfl) ?_
  refine z_gr C0 hw (d + 5) 0 (d + 6) (fk_of (shl_wk_5 d hd) rfl) fl_X6_11 (dk2 dF_180 DX6_copyFrom (i := 4) rfl rfl rfl) ?_
  refine lv_iconst (v := 0) hx hb (dkP dF_3 DX6_copyFrom (i := 5) rfl rfl) (by decide) ?_
  refine lv_aload_n hx hb (dkP dF_42 DX6_copyFrom (i := 6) rfl rfl) rfl (lv_at hl 0 rfl) ?_
  refine z_gr C0 hw (d + 5) 0 (d + 6) (fk_of (shl_wk_5 d hd) rfl) fl_X6_11 (dk2 dF_180 DX6_copyFrom (i := 7) rfl rfl rfl) ?_
  refine z_alen (t := 0) (n := 100) C0 hw (d + 6) (ak_of (shl_wk_6 d hd)) (by decide) (dkP dF_190 DX6_copyFrom (i := 8) rfl rfl) ?_
  refine z_top (y := 100) rfl ?_
  refine z_cpi (n0 := 100) (n1 := 100) C0 hw (o + 6) (d + 6) 0 0 100 (ak_of (shl_wk_6 o ho)) (ak_of (shl_wk_6 d hd)) ac_X6_19 hl.1 (by omega) (by omega) (by decide) (by decide) (by decide) (by decide) (Nat.le_of_ble_eq_true rfl) (dk2 dF_184 DX6_copyFrom (i := 9) rfl rfl rfl) (fun H locs hw => ?_)
  refine lv_aload_n hx hb (dkP dF_42 DX6_copyFrom (i := 10) rfl rfl) rfl (lv_at hl 0 rfl) ?_
  refine lv_aload_n hx hb (dkP dF_43 DX6_copyFrom (i := 11) rfl rfl) rfl (lv_at hl 1 rfl) ?_
  refine z_gi C0 hw (o + 5) 1 (fk_of (shl_wk_5 o ho) rfl) fl_X6_15 (dk2 dF_180 DX6_copyFrom (i := 12) rfl rfl rfl) ?_
  refine z_pi C0 hw (d + 5) 1 (fk_of (shl_wk_5 d hd) rfl) fp_X6_15 (dk2 dF_181 DX6_copyFrom (i := 13) rfl rfl rfl) (fun H locs hw => ?_)
  refine lv_aload_n hx hb (dkP dF_42 DX6_copyFrom (i := 14) rfl rfl) rfl (lv_at hl 0 rfl) ?_
  refine lv_aload_n hx hb (dkP dF_43 DX6_copyFrom (i := 15) rfl rfl) rfl (lv_at hl 1 rfl) ?_
  refine z_gi C0 hw (o + 5) 2 (fk_of (shl_wk_5 o ho) rfl) fl_X6_25 (dk2 dF_180 DX6_copyFrom (i := 16) rfl rfl rfl) ?_
  refine z_pi C0 hw (d + 5) 2 (fk_of (shl_wk_5 d hd) rfl) fp_X6_25 (dk2 dF_181 DX6_copyFrom (i := 17) rfl rfl rfl) (fun H locs hw => ?_)
  exact z_vret C0 hr hlk hw (Of.tI (Of.tI (Of.tC Of.refl (by omega)) (by omega)) (by omega)) (dkP dF_177 DX6_copyFrom (i := 18) rfl rfl)
set_option maxRecDepth 20000 in
theorem shl_wk_0 : ∀ d, d ∈ wkL → shC[d + 0]? = some (0, 10, [(1, d + 1), (1, d + 2), (1, d + 3), (1, d + 4), (0, 0), (0, 0), (0, 0), (1, d + 5)]) := by decide +kernel
set_option maxRecDepth 20000 in
theorem shl_wk_2 : ∀ d, d ∈ wkL → shC[d + 2]? = some (1, 64, []) := by decide +kernel
set_option maxRecDepth 20000 in
theorem shl_wk_3 : ∀ d, d ∈ wkL → shC[d + 3]? = some (1, 8, []) := by decide +kernel
set_option maxRecDepth 20000 in
theorem shl_wk_4 : ∀ d, d ∈ wkL → shC[d + 4]? = some (1, 420, []) := by decide +kernel
set_option maxRecDepth 20000 in
theorem shl_wk_1 : ∀ d, d ∈ wkL → shC[d + 1]? = some (6, 8, [(1, d + 7), (1, d + 29), (1, d + 51), (1, d + 73), (1, d + 95), (1, d + 117), (1, d + 139), (1, d + 161)]) := by decide +kernel
set_option maxRecDepth 100000 in
set_option maxHeartbeats 4000000 in
theorem c_X10_copyFrom_f (l : Launch) (G : va_G) (kc : Nat → ClassId) (ad : Nat → Nat) (σ : Sg) (d : Nat)  (o : Nat) (h : Nat) (hd : d ∈ wkL) (ho : o ∈ wkL) (hne : d + 183 ≤ o ∨ o + 183 ≤ d) (hP : ∀ p, p ∈ pgL → σ.2.2 p 2 = some (p + 1) ∧ σ.2.2 p 3 = some (p + 11)) (hK : ∀ i, i < 8 → OTk σ (o + 7 + 22 * i + 1) ∧ NTk σ (o + 7 + 22 * i + 11)) (hh : σ.1 o 4 = nI h) (hh2 : h ≤ 60) : MV l G kc yX10_copyFrom cX10_copyFrom 3 4 89 [.ref (ad d), .ref (ad o)] shC ad σ (fun σ1 => Of σ σ1 d 183) := by
  intro sz
  refine z_body (y := yX10_copyFrom) (n := 3) (av := [.ref (ad d), .ref (ad o)]) (Qc := fun A => va_Qv (fun σ1 => Of σ σ1 d 183) (PoC G kc shC ad A) A) (plainFor_of_name (by decide)) (Nat.le_of_ble_eq_true rfl) (fun pr e s m below meth c A C0 hr hlk hnm hw ls hl => ?_) sz
  have hx := C0.1
  have hb := C0.2.1
  have hown := C0.2.2.2.1
  have hts := C0.2.2.2.2.1
  have hl : lv_has ls 3 [(0, .ref (ad d)), (1, .ref (ad o))] := hl
  refine lv_iconst (v := 0) hx hb (dkP dF_3 DX10_copyFrom (i := 0) rfl rfl) (by decide) ?_
  refine lv_istore_n (lv' := [(2, .int 0), (0, .ref (ad d)), (1, .ref (ad o))]) hx hb (dkP dF_61 DX10_copyFrom (i := 1) rfl rfl) rfl hl (by decide) rfl (fun ls hl => ?_)
  have lp1 : ∀ (n : Nat) (i : Nat) (τ : Sg) (H : Heap) (locs : List Loc) (ls : Array Slot), 8 - i < n → (i ≤ 8) → (Of σ τ d 183) → St G kc A s.heap shC ad τ H locs → lv_has ls 3 [(2, .int (nI i)), (0, .ref (ad d)), (1, .ref (ad o))] → W pr l e { frames := 4, cells := 0, slots := 0, locals := 89 } s m ([.ref (ad d), .ref (ad o)] : List Value).toArray below meth c H locs 0 0 (MQ below (va_Qv (fun σ1 => Of σ σ1 d 183) (PoC G kc shC ad A) A) ([.ref (ad d), .ref (ad o)] : List Value).toArray s 0 0 A) (F0 m 2 ls []) := by
    intro n
    induction n with
    | zero => intro i τ H locs ls hmu; exact absurd hmu (Nat.not_lt_zero _)
    | succ n ih1 =>
      intro i τ H locs ls hmu hi hτ hw hl
      refine lv_iload_n hx hb (dkP dF_28 DX10_copyFrom (i := 2) rfl rfl) rfl (lv_at hl 0 rfl) ?_
      refine lv_bipush (v := 8) hx hb (dks dF_16 DX10_copyFrom (i := 3) rfl rfl rfl) (by decide) ?_
      refine lv_icmp_ge (tgt := 29) hx hb (dkS dF_162 DX10_copyFrom (i := 4) rfl rfl rfl) (by decide) (fun c2 => ?_) (fun c2 => ?_)
      · simp (disch := omega) only [ta_lt, ta_le, ta_eq, tnI, tl32 8 (by decide)] at c2
        refine lv_aload_n hx hb (dkP dF_43 DX10_copyFrom (i := 16) rfl rfl) rfl (lv_at hl 2 rfl) ?_
        refine z_gr C0 hw o 1 (o + 2) (fk_of (shl_wk_0 o ho) rfl) fl_X10_17 (dk2 dF_180 DX10_copyFrom (i := 17) rfl rfl rfl) ?_
        refine lv_iconst (v := 0) hx hb (dkP dF_3 DX10_copyFrom (i := 18) rfl rfl) (by decide) ?_
        refine lv_aload_n hx hb (dkP dF_42 DX10_copyFrom (i := 19) rfl rfl) rfl (lv_at hl 1 rfl) ?_
        refine z_gr C0 hw d 1 (d + 2) (fk_of (shl_wk_0 d hd) rfl) fl_X10_17 (dk2 dF_180 DX10_copyFrom (i := 20) rfl rfl rfl) ?_
        refine lv_iconst (v := 0) hx hb (dkP dF_3 DX10_copyFrom (i := 21) rfl rfl) (by decide) ?_
        refine lv_aload_n hx hb (dkP dF_42 DX10_copyFrom (i := 22) rfl rfl) rfl (lv_at hl 1 rfl) ?_
        refine z_gr C0 hw d 1 (d + 2) (fk_of (shl_wk_0 d hd) rfl) fl_X10_17 (dk2 dF_180 DX10_copyFrom (i := 23) rfl rfl rfl) ?_
        refine z_alen (t := 0) (n := 64) C0 hw (d + 2) (ak_of (shl_wk_2 d hd)) (by decide) (dkP dF_190 DX10_copyFrom (i := 24) rfl rfl) ?_
        refine z_top (y := 64) rfl ?_
        refine z_cpi (n0 := 64) (n1 := 64) C0 hw (o + 2) (d + 2) 0 0 64 (ak_of (shl_wk_2 o ho)) (ak_of (shl_wk_2 d hd)) ac_X10_45 hl.1 (by omega) (by omega) (by decide) (by decide) (by decide) (by decide) (Nat.le_of_ble_eq_true rfl) (dk2 dF_184 DX10_copyFrom (i := 25) rfl rfl rfl) (fun H locs hw => ?_)
        refine lv_aload_n hx hb (dkP dF_43 DX10_copyFrom (i := 26) rfl rfl) rfl (lv_at hl 2 rfl) ?_
        refine z_gr C0 hw o 2 (o + 3) (fk_of (shl_wk_0 o ho) rfl) fl_X10_21 (dk2 dF_180 DX10_copyFrom (i := 27) rfl rfl rfl) ?_
        refine lv_iconst (v := 0) hx hb (dkP dF_3 DX10_copyFrom (i := 28) rfl rfl) (by decide) ?_
        refine lv_aload_n hx hb (dkP dF_42 DX10_copyFrom (i := 29) rfl rfl) rfl (lv_at hl 1 rfl) ?_
        refine z_gr C0 hw d 2 (d + 3) (fk_of (shl_wk_0 d hd) rfl) fl_X10_21 (dk2 dF_180 DX10_copyFrom (i := 30) rfl rfl rfl) ?_
        refine lv_iconst (v := 0) hx hb (dkP dF_3 DX10_copyFrom (i := 31) rfl rfl) (by decide) ?_
        refine lv_bipush (v := 8) hx hb (dks dF_16 DX10_copyFrom (i := 32) rfl rfl rfl) (by decide) ?_
        refine z_cpi (n0 := 8) (n1 := 8) C0 hw (o + 3) (d + 3) 0 0 8 (ak_of (shl_wk_3 o ho)) (ak_of (shl_wk_3 d hd)) ac_X10_45 hl.1 (by omega) (by omega) (by decide) (by decide) (by decide) (by decide) (Nat.le_of_ble_eq_true rfl) (dk2 dF_184 DX10_copyFrom (i := 33) rfl rfl rfl) (fun H locs hw => ?_)
        refine lv_aload_n hx hb (dkP dF_42 DX10_copyFrom (i := 34) rfl rfl) rfl (lv_at hl 1 rfl) ?_
        refine lv_aload_n hx hb (dkP dF_43 DX10_copyFrom (i := 35) rfl rfl) rfl (lv_at hl 2 rfl) ?_
        refine z_gi C0 hw o 4 (fk_of (shl_wk_0 o ho) rfl) fl_X10_51 (dk2 dF_180 DX10_copyFrom (i := 36) rfl rfl rfl) ?_
        refine z_top (y := (nI h)) ((congrFun (sCp_o (by omega)) _).trans ((congrFun (sCp_o (by omega)) _).trans ((congrFun (hτ.1 o (by omega)) 4).trans hh))) ?_
        refine z_pi C0 hw d 4 (fk_of (shl_wk_0 d hd) rfl) fp_X10_51 (dk2 dF_181 DX10_copyFrom (i := 37) rfl rfl rfl) (fun H locs hw => ?_)
        refine lv_aload_n hx hb (dkP dF_43 DX10_copyFrom (i := 38) rfl rfl) rfl (lv_at hl 2 rfl) ?_
        refine z_gr C0 hw o 3 (o + 4) (fk_of (shl_wk_0 o ho) rfl) fl_X10_24 (dk2 dF_180 DX10_copyFrom (i := 39) rfl rfl rfl) ?_
        refine lv_iconst (v := 0) hx hb (dkP dF_3 DX10_copyFrom (i := 40) rfl rfl) (by decide) ?_
        refine lv_aload_n hx hb (dkP dF_42 DX10_copyFrom (i := 41) rfl rfl) rfl (lv_at hl 1 rfl) ?_
        refine z_gr C0 hw d 3 (d + 4) (fk_of (shl_wk_0 d hd) rfl) fl_X10_24 (dk2 dF_180 DX10_copyFrom (i := 42) rfl rfl rfl) ?_
        refine lv_iconst (v := 0) hx hb (dkP dF_3 DX10_copyFrom (i := 43) rfl rfl) (by decide) ?_
        refine lv_aload_n hx hb (dkP dF_42 DX10_copyFrom (i := 44) rfl rfl) rfl (lv_at hl 1 rfl) ?_
        refine z_gi C0 hw d 4 (fk_of (shl_wk_0 d hd) rfl) fl_X10_51 (dk2 dF_180 DX10_copyFrom (i := 45) rfl rfl rfl) ?_
        refine z_top (y := (nI h)) rd_s ?_
        refine lv_bipush (v := 7) hx hb (dks dF_16 DX10_copyFrom (i := 46) rfl rfl rfl) (by decide) ?_
        refine lv_imul hx hb (dkP dF_104 DX10_copyFrom (i := 47) rfl rfl) ?_
        refine z_top (y := nI (h * 7)) (by simp only [fa_lit, nI_add, pk_mul]) ?_
        refine z_cpi (n0 := 420) (n1 := 420) C0 hw (o + 4) (d + 4) 0 0 (h * 7) (ak_of (shl_wk_4 o ho)) (ak_of (shl_wk_4 d hd)) ac_X10_45 hl.1 (by omega) (by omega) (by decide) (by decide) (by decide) (by decide) (Nat.le_of_ble_eq_true rfl) (dk2 dF_184 DX10_copyFrom (i := 48) rfl rfl rfl) (fun H locs hw => ?_)
        refine lv_aload_n hx hb (dkP dF_42 DX10_copyFrom (i := 49) rfl rfl) rfl (lv_at hl 1 rfl) ?_
        refine lv_aload_n hx hb (dkP dF_43 DX10_copyFrom (i := 50) rfl rfl) rfl (lv_at hl 2 rfl) ?_
        refine z_gi C0 hw o 5 (fk_of (shl_wk_0 o ho) rfl) fl_X10_55 (dk2 dF_180 DX10_copyFrom (i := 51) rfl rfl rfl) ?_
        refine z_pi C0 hw d 5 (fk_of (shl_wk_0 d hd) rfl) fp_X10_55 (dk2 dF_181 DX10_copyFrom (i := 52) rfl rfl rfl) (fun H locs hw => ?_)
        refine lv_aload_n hx hb (dkP dF_42 DX10_copyFrom (i := 53) rfl rfl) rfl (lv_at hl 1 rfl) ?_
        refine lv_aload_n hx hb (dkP dF_43 DX10_copyFrom (i := 54) rfl rfl) rfl (lv_at hl 2 rfl) ?_
        refine z_gi C0 hw o 6 (fk_of (shl_wk_0 o ho) rfl) fl_X10_58 (dk2 dF_180 DX10_copyFrom (i := 55) rfl rfl rfl) ?_
        refine z_pi C0 hw d 6 (fk_of (shl_wk_0 d hd) rfl) fp_X10_58 (dk2 dF_181 DX10_copyFrom (i := 56) rfl rfl rfl) (fun H locs hw => ?_)
        refine lv_aload_n hx hb (dkP dF_42 DX10_copyFrom (i := 57) rfl rfl) rfl (lv_at hl 1 rfl) ?_
        refine z_gr C0 hw d 7 (d + 5) (fk_of (shl_wk_0 d hd) rfl) fl_X10_30 (dk2 dF_180 DX10_copyFrom (i := 58) rfl rfl rfl) ?_
        refine lv_aload_n hx hb (dkP dF_43 DX10_copyFrom (i := 59) rfl rfl) rfl (lv_at hl 2 rfl) ?_
        refine z_gr C0 hw o 7 (o + 5) (fk_of (shl_wk_0 o ho) rfl) fl_X10_30 (dk2 dF_180 DX10_copyFrom (i := 60) rfl rfl rfl) ?_
        refine zk_V hw (zr_V (As := [.ref (ad (o + 5))]) (rest := []) C0 (c_X6_copyFrom l G kc ad (sI (sI (sCp (sI (sCp (sCp τ (o + 2) (d + 2) 0 0 64) (o + 3) (d + 3) 0 0 8) d 4 (nI h)) (o + 4) (d + 4) 0 0 (h * 7)) d 5 ((sCp (sI (sCp (sCp τ (o + 2) (d + 2) 0 0 64) (o + 3) (d + 3) 0 0 8) d 4 (nI h)) (o + 4) (d + 4) 0 0 (h * 7)).1 o 5)) d 6 ((sI (sCp (sI (sCp (sCp τ (o + 2) (d + 2) 0 0 64) (o + 3) (d + 3) 0 0 8) d 4 (nI h)) (o + 4) (d + 4) 0 0 (h * 7)) d 5 ((sCp (sI (sCp (sCp τ (o + 2) (d + 2) 0 0 64) (o + 3) (d + 3) 0 0 8) d 4 (nI h)) (o + 4) (d + 4) 0 0 (h * 7)).1 o 5)).1 o 6)) d o (by first | omega | assumption | decide | rfl) (by first | omega | assumption | decide | rfl) _) cv_X6_copyFrom lk_X10_61 (zp_V C0 hw (d + 5) (shl_wk_5 d hd) rfl rfl) rfl hl.1 rfl ⟨by decide, by decide⟩ (Nat.le_of_ble_eq_true rfl) (dk2 dF_182 DX10_copyFrom (i := 61) rfl rfl rfl) ⟨Nat.le_refl _, Nat.le_refl _⟩) (fun s3 H locs hp hw => ?_)
        have hp3 := hp
        exact z_vret C0 hr hlk hw (Of.tO (Of.tI (Of.tI (Of.tC (Of.tI (Of.tC (Of.tC hτ (by omega)) (by omega)) (by omega)) (by omega)) (by omega)) (by omega)) hp3 (by omega)) (dkP dF_177 DX10_copyFrom (i := 62) rfl rfl)
      · simp (disch := omega) only [ta_lt, ta_le, ta_eq, tnI, tl32 8 (by decide)] at c2
        refine lv_aload_n hx hb (dkP dF_42 DX10_copyFrom (i := 5) rfl rfl) rfl (lv_at hl 1 rfl) ?_
        refine z_gr C0 hw d 0 (d + 1) (fk_of (shl_wk_0 d hd) rfl) fl_X10_11 (dk2 dF_180 DX10_copyFrom (i := 6) rfl rfl rfl) ?_
        refine lv_iload_n hx hb (dkP dF_28 DX10_copyFrom (i := 7) rfl rfl) rfl (lv_at hl 0 rfl) ?_
        refine z_aaldN (n := 8) C0 hw (d + 1) i (rkwk d hd i (by omega)) (by decide) (by omega) (by decide) (dkP dF_50 DX10_copyFrom (i := 8) rfl rfl) ?_
        refine lv_aload_n hx hb (dkP dF_43 DX10_copyFrom (i := 9) rfl rfl) rfl (lv_at hl 2 rfl) ?_
        refine z_gr C0 hw o 0 (o + 1) (fk_of (shl_wk_0 o ho) rfl) fl_X10_11 (dk2 dF_180 DX10_copyFrom (i := 10) rfl rfl rfl) ?_
        refine lv_iload_n hx hb (dkP dF_28 DX10_copyFrom (i := 11) rfl rfl) rfl (lv_at hl 0 rfl) ?_
        refine z_aaldN (n := 8) C0 hw (o + 1) i (rkwk o ho i (by omega)) (by decide) (by omega) (by decide) (dkP dF_50 DX10_copyFrom (i := 12) rfl rfl) ?_
        refine zk_V hw (zr_V (As := [.ref (ad (o + 7 + 22 * i))]) (rest := []) C0 (c_X4_copyFrom_f l G kc ad τ (d + 7 + 22 * i) (o + 7 + 22 * i) (wkpg d hd i (by omega)) (wkpg o ho i (by omega)) (by omega) ((Of.ptr hτ).trans (hP _ (wkpg d hd i (by omega))).1) ((Of.ptr hτ).trans (hP _ (wkpg d hd i (by omega))).2) ((Of.ptr hτ).trans (hP _ (wkpg o ho i (by omega))).1) ((Of.ptr hτ).trans (hP _ (wkpg o ho i (by omega))).2) (Of.ot hτ (by omega) (hK i (by omega)).1) (Of.nt hτ (by omega) (hK i (by omega)).2) _) cv_X4_copyFrom lk_X10_41 (zp_V C0 hw (d + 7 + 22 * i) (shl_pg_0 (d + 7 + 22 * i) (wkpg d hd i (by omega))) rfl rfl) rfl hl.1 rfl ⟨by decide, by decide⟩ (Nat.le_of_ble_eq_true rfl) (dk2 dF_182 DX10_copyFrom (i := 13) rfl rfl rfl) ⟨Nat.le_refl _, Nat.le_refl _⟩) (fun s4 H locs hp hw => ?_)
        have hp4 := hp
        refine lv_iinc (v := nI (i + 1)) (lv' := [(2, .int (nI (i + 1))), (0, .ref (ad d)), (1, .ref (ad o))]) hx hb (dkI DX10_copyFrom (i := 14) rfl rfl rfl rfl) hl (k := 0) rfl (nI_1 _) (by decide) rfl (fun ls hl => ?_)
        refine lv_goto (tgt := 2) hx hb (dkS dF_167 DX10_copyFrom (i := 15) rfl rfl rfl) (by decide) ?_
        exact ih1 (i + 1) s4 _ _ _ (by omega) (by omega) (Of.tO hτ hp4 (by omega)) hw (lv_sub hl [0, 1, 2] rfl)
  exact lp1 _ 0 σ _ _ _ (Nat.lt_succ_self _) (by omega) Of.refl hw (lv_sub hl [0, 1, 2] rfl)
set_option maxRecDepth 20000 in
theorem fr_ptr : ∀ p, p ∈ pgL → sC0.2.2 p 2 = some (p + 1) ∧ sC0.2.2 p 3 = some (p + 11) := by decide +kernel
set_option maxRecDepth 20000 in
theorem fr_ok : ∀ i, i < 8 → OTk sC0 (1 + 7 + 22 * i + 1) ∧ NTk sC0 (1 + 7 + 22 * i + 11) := by
  intro i hi
  match i, hi with
  | 0, _ => exact ⟨⟨Or.inl rfl, ⟨0, by decide, rfl⟩, ⟨0, by decide, rfl⟩⟩, ⟨Or.inl rfl, Or.inl rfl, ⟨0, by decide, rfl⟩, ⟨0, by decide, rfl⟩⟩⟩
  | 1, _ => exact ⟨⟨Or.inl rfl, ⟨0, by decide, rfl⟩, ⟨0, by decide, rfl⟩⟩, ⟨Or.inl rfl, Or.inl rfl, ⟨0, by decide, rfl⟩, ⟨0, by decide, rfl⟩⟩⟩
  | 2, _ => exact ⟨⟨Or.inl rfl, ⟨0, by decide, rfl⟩, ⟨0, by decide, rfl⟩⟩, ⟨Or.inl rfl, Or.inl rfl, ⟨0, by decide, rfl⟩, ⟨0, by decide, rfl⟩⟩⟩
  | 3, _ => exact ⟨⟨Or.inl rfl, ⟨0, by decide, rfl⟩, ⟨0, by decide, rfl⟩⟩, ⟨Or.inl rfl, Or.inl rfl, ⟨0, by decide, rfl⟩, ⟨0, by decide, rfl⟩⟩⟩
  | 4, _ => exact ⟨⟨Or.inl rfl, ⟨0, by decide, rfl⟩, ⟨0, by decide, rfl⟩⟩, ⟨Or.inl rfl, Or.inl rfl, ⟨0, by decide, rfl⟩, ⟨0, by decide, rfl⟩⟩⟩
  | 5, _ => exact ⟨⟨Or.inl rfl, ⟨0, by decide, rfl⟩, ⟨0, by decide, rfl⟩⟩, ⟨Or.inl rfl, Or.inl rfl, ⟨0, by decide, rfl⟩, ⟨0, by decide, rfl⟩⟩⟩
  | 6, _ => exact ⟨⟨Or.inl rfl, ⟨0, by decide, rfl⟩, ⟨0, by decide, rfl⟩⟩, ⟨Or.inl rfl, Or.inl rfl, ⟨0, by decide, rfl⟩, ⟨0, by decide, rfl⟩⟩⟩
  | 7, _ => exact ⟨⟨Or.inl rfl, ⟨0, by decide, rfl⟩, ⟨0, by decide, rfl⟩⟩, ⟨Or.inl rfl, Or.inl rfl, ⟨0, by decide, rfl⟩, ⟨0, by decide, rfl⟩⟩⟩
  | i + 8, hi => exact absurd hi (by omega)
set_option maxRecDepth 20000 in
theorem shc_184 : shC[184]? = some (5, 3, [(1, 250), (1, 433), (1, 616)]) := by rfl
set_option maxRecDepth 20000 in
theorem rks_184 : ∀ k, k < 3 → rk shC 184 k = some (5, 3, 250 + 183 * k) := by
  intro k hk
  match k, hk with
  | 0, _ => rfl
  | 1, _ => rfl
  | 2, _ => rfl
  | k + 3, hk => exact absurd hk (by omega)
set_option maxRecDepth 20000 in
theorem shw_250 : ∀ k, k < 3 → shC[250 + 183 * k]? = some (0, 10, [(1, 251 + 183 * k), (1, 252 + 183 * k), (1, 253 + 183 * k), (1, 254 + 183 * k), (0, 0), (0, 0), (0, 0), (1, 255 + 183 * k)]) := by
  intro k hk
  match k, hk with
  | 0, _ => rfl
  | 1, _ => rfl
  | 2, _ => rfl
  | k + 3, hk => exact absurd hk (by omega)
set_option maxRecDepth 100000 in
set_option maxHeartbeats 4000000 in
theorem c_X11_keep (l : Launch) (G : va_G) (kc : Nat → ClassId) (ad : Nat → Nat)  (k : Int32)  : MI l G kc yX11_keep cX11_keep 2 (some .int) 5 111 [.ref (ad 0), .int k] shC ad sC0 (fun r σ1 => r = if 0 ≤ k.toInt ∧ k.toInt ≤ 2 then 0 else -2) := by
  intro sz
  refine z_body (y := yX11_keep) (n := 2) (av := [.ref (ad 0), .int k]) (Qc := fun A => va_Qi (fun r σ1 => r = if 0 ≤ k.toInt ∧ k.toInt ≤ 2 then 0 else -2) (PoC G kc shC ad A) A) (plainFor_of_name (by decide)) (Nat.le_of_ble_eq_true rfl) (fun pr e s m below meth c A C0 hr hlk hnm hw ls hl => ?_) sz
  have hx := C0.1
  have hb := C0.2.1
  have hown := C0.2.2.2.1
  have hts := C0.2.2.2.2.1
  have hl : lv_has ls 2 [(0, .ref (ad 0)), (1, .int k)] := hl
  refine lv_iload_n hx hb (dkP dF_27 DX11_keep (i := 0) rfl rfl) rfl (lv_at hl 1 rfl) ?_
  refine lv_if_lt (tgt := 9) hx hb (dkS dF_155 DX11_keep (i := 1) rfl rfl rfl) (by decide) (fun c1 => ?_) (fun c1 => ?_)
  · skip
    refine lv_bipush (v := (-2)) hx hb (dks dF_16 DX11_keep (i := 5) rfl rfl rfl) (by decide) ?_
    exact z_iret C0 hr hlk hw (by first | rfl | ((try simp only [lg_cmp_lt, lg_cmp_le, lg_cmp_gt, lg_cmp_ge, lg_cmp_eq] at c1); (try simp (disch := omega) only [ta_lt, ta_le, ta_eq, tb_lt, tb_le, tb_eq, tw, tnI, tn32 2 (by decide), tnj 2 (by decide), tn32 1 (by decide), tnj 1 (by decide), tl32 0 (by decide), tl64 0 (by decide)] at c1); (try simp (disch := omega) only [tnI, tn32 2 (by decide), tnj 2 (by decide), tn32 1 (by decide), tnj 1 (by decide), tl32 0 (by decide), tl64 0 (by decide)]); (repeat' split) <;> first | rfl | omega | (apply Int32.toInt_inj.mp; simp (disch := omega) only [tnI, tn32 2 (by decide), tnj 2 (by decide), tn32 1 (by decide), tnj 1 (by decide), tl32 0 (by decide), tl64 0 (by decide)]; omega))) (dkP dF_172 DX11_keep (i := 6) rfl rfl)
  · skip
    refine lv_iload_n hx hb (dkP dF_27 DX11_keep (i := 2) rfl rfl) rfl (lv_at hl 1 rfl) ?_
    refine lv_iconst (v := 3) hx hb (dkP dF_6 DX11_keep (i := 3) rfl rfl) (by decide) ?_
    refine lv_icmp_lt (tgt := 12) hx hb (dkS dF_161 DX11_keep (i := 4) rfl rfl rfl) (by decide) (fun c2 => ?_) (fun c2 => ?_)
    · skip
      obtain ⟨k_k, hk_k, rfl⟩ := to_nat (x := k) (n := 3) (by (try simp only [lg_cmp_lt, lg_cmp_le, lg_cmp_gt, lg_cmp_ge, lg_cmp_eq] at c1); (try simp (disch := omega) only [ta_lt, ta_le, ta_eq, tb_lt, tb_le, tb_eq, tw, tnI, tn32 2 (by decide), tnj 2 (by decide), tn32 1 (by decide), tnj 1 (by decide), tl32 0 (by decide), tl64 0 (by decide), tl32 3 (by decide), tl64 3 (by decide)] at c1); (try simp only [lg_cmp_lt, lg_cmp_le, lg_cmp_gt, lg_cmp_ge, lg_cmp_eq] at c2); (try simp (disch := omega) only [ta_lt, ta_le, ta_eq, tb_lt, tb_le, tb_eq, tw, tnI, tn32 2 (by decide), tnj 2 (by decide), tn32 1 (by decide), tnj 1 (by decide), tl32 0 (by decide), tl64 0 (by decide), tl32 3 (by decide), tl64 3 (by decide)] at c2); (try simp (disch := omega) only [ta_lt, ta_le, ta_eq, tb_lt, tb_le, tb_eq, tw, tnI, tn32 2 (by decide), tnj 2 (by decide), tn32 1 (by decide), tnj 1 (by decide), tl32 0 (by decide), tl64 0 (by decide), tl32 3 (by decide), tl64 3 (by decide)]); omega)
      refine lv_aload_n hx hb (dkP dF_42 DX11_keep (i := 7) rfl rfl) rfl (lv_at hl 0 rfl) ?_
      refine z_gr C0 hw 0 1 184 (fk_of shc_0 rfl) fl_X11_16 (dk2 dF_180 DX11_keep (i := 8) rfl rfl rfl) ?_
      refine lv_iload_n hx hb (dkP dF_27 DX11_keep (i := 9) rfl rfl) rfl (lv_at hl 1 rfl) ?_
      refine z_aaldN (n := 3) C0 hw 184 k_k (rks_184 k_k (by omega)) (by decide) (by omega) (by decide) (dkP dF_50 DX11_keep (i := 10) rfl rfl) ?_
      refine lv_aload_n hx hb (dkP dF_42 DX11_keep (i := 11) rfl rfl) rfl (lv_at hl 0 rfl) ?_
      refine z_gr C0 hw 0 0 1 (fk_of shc_0 rfl) fl_X11_10 (dk2 dF_180 DX11_keep (i := 12) rfl rfl rfl) ?_
      refine zk_V hw (zr_V (As := [.ref (ad 1)]) (rest := []) C0 (c_X10_copyFrom_f l G kc ad sC0 (250 + 183 * k_k) 1 0 (imgm k_k (by omega)) (by decide) (by omega) fr_ptr fr_ok (by rfl) (by decide) _) cv_X10_copyFrom lk_X11_339 (zp_V C0 hw (250 + 183 * k_k) (shw_250 k_k (by omega)) rfl rfl) rfl hl.1 rfl ⟨by decide, by decide⟩ (Nat.le_of_ble_eq_true rfl) (dk2 dF_182 DX11_keep (i := 13) rfl rfl rfl) ⟨Nat.le_refl _, Nat.le_refl _⟩) (fun s3 H locs hp hw => ?_)
      have hp3 := hp
      refine lv_aload_n hx hb (dkP dF_42 DX11_keep (i := 14) rfl rfl) rfl (lv_at hl 0 rfl) ?_
      refine z_gr C0 hw 0 2 185 (fk_of shc_0 rfl) fl_X11_20 (dk2 dF_180 DX11_keep (i := 15) rfl rfl rfl) ?_
      refine lv_iload_n hx hb (dkP dF_27 DX11_keep (i := 16) rfl rfl) rfl (lv_at hl 1 rfl) ?_
      refine lv_iconst (v := 1) hx hb (dkP dF_4 DX11_keep (i := 17) rfl rfl) (by decide) ?_
      refine z_zastN (n := 3) C0 hw 185 k_k (ak_of shc_185) (by decide) (by omega) (by decide) (dkP dF_84 DX11_keep (i := 18) rfl rfl) (fun H locs hw => ?_)
      refine lv_iconst (v := 0) hx hb (dkP dF_3 DX11_keep (i := 19) rfl rfl) (by decide) ?_
      exact z_iret C0 hr hlk hw (by first | rfl | ((try simp only [lg_cmp_lt, lg_cmp_le, lg_cmp_gt, lg_cmp_ge, lg_cmp_eq] at c1); (try simp (disch := omega) only [ta_lt, ta_le, ta_eq, tb_lt, tb_le, tb_eq, tw, tnI, tn32 2 (by decide), tnj 2 (by decide), tn32 1 (by decide), tnj 1 (by decide), tl32 0 (by decide), tl64 0 (by decide), tl32 1 (by decide), tl64 1 (by decide), tl32 3 (by decide), tl64 3 (by decide)] at c1); (try simp only [lg_cmp_lt, lg_cmp_le, lg_cmp_gt, lg_cmp_ge, lg_cmp_eq] at c2); (try simp (disch := omega) only [ta_lt, ta_le, ta_eq, tb_lt, tb_le, tb_eq, tw, tnI, tn32 2 (by decide), tnj 2 (by decide), tn32 1 (by decide), tnj 1 (by decide), tl32 0 (by decide), tl64 0 (by decide), tl32 1 (by decide), tl64 1 (by decide), tl32 3 (by decide), tl64 3 (by decide)] at c2); (try simp (disch := omega) only [tnI, tn32 2 (by decide), tnj 2 (by decide), tn32 1 (by decide), tnj 1 (by decide), tl32 0 (by decide), tl64 0 (by decide), tl32 1 (by decide), tl64 1 (by decide), tl32 3 (by decide), tl64 3 (by decide)]); (repeat' split) <;> first | rfl | omega | (apply Int32.toInt_inj.mp; simp (disch := omega) only [tnI, tn32 2 (by decide), tnj 2 (by decide), tn32 1 (by decide), tnj 1 (by decide), tl32 0 (by decide), tl64 0 (by decide), tl32 1 (by decide), tl64 1 (by decide), tl32 3 (by decide), tl64 3 (by decide)]; omega))) (dkP dF_172 DX11_keep (i := 20) rfl rfl)
    · skip
      refine lv_bipush (v := (-2)) hx hb (dks dF_16 DX11_keep (i := 5) rfl rfl rfl) (by decide) ?_
      exact z_iret C0 hr hlk hw (by first | rfl | ((try simp only [lg_cmp_lt, lg_cmp_le, lg_cmp_gt, lg_cmp_ge, lg_cmp_eq] at c1); (try simp (disch := omega) only [ta_lt, ta_le, ta_eq, tb_lt, tb_le, tb_eq, tw, tnI, tn32 2 (by decide), tnj 2 (by decide), tn32 1 (by decide), tnj 1 (by decide), tl32 0 (by decide), tl64 0 (by decide), tl32 1 (by decide), tl64 1 (by decide), tl32 3 (by decide), tl64 3 (by decide)] at c1); (try simp only [lg_cmp_lt, lg_cmp_le, lg_cmp_gt, lg_cmp_ge, lg_cmp_eq] at c2); (try simp (disch := omega) only [ta_lt, ta_le, ta_eq, tb_lt, tb_le, tb_eq, tw, tnI, tn32 2 (by decide), tnj 2 (by decide), tn32 1 (by decide), tnj 1 (by decide), tl32 0 (by decide), tl64 0 (by decide), tl32 1 (by decide), tl64 1 (by decide), tl32 3 (by decide), tl64 3 (by decide)] at c2); (try simp (disch := omega) only [tnI, tn32 2 (by decide), tnj 2 (by decide), tn32 1 (by decide), tnj 1 (by decide), tl32 0 (by decide), tl64 0 (by decide), tl32 1 (by decide), tl64 1 (by decide), tl32 3 (by decide), tl64 3 (by decide)]); (repeat' split) <;> first | rfl | omega | (apply Int32.toInt_inj.mp; simp (disch := omega) only [tnI, tn32 2 (by decide), tnj 2 (by decide), tn32 1 (by decide), tnj 1 (by decide), tl32 0 (by decide), tl64 0 (by decide), tl32 1 (by decide), tl64 1 (by decide), tl32 3 (by decide), tl64 3 (by decide)]; omega))) (dkP dF_172 DX11_keep (i := 6) rfl rfl)
