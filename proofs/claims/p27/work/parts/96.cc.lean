def frI (P : Nat → Nat → Prop) (σ τ : Sg) : Prop := (∀ c k, ¬ P c k → τ.1 c k = σ.1 c k) ∧ True
theorem frI.refl {P : Nat → Nat → Prop} {σ : Sg} : frI P σ σ := ⟨fun _ _ _ => rfl, trivial⟩
theorem frI.w {P : Nat → Nat → Prop} {σ τ : Sg} {c k : Nat} {v : Int32} (h : frI P σ τ) (hp : P c k) : frI P σ (sI τ c k v) := by
  refine ⟨fun a b hn => ?_, trivial⟩
  have e : a ≠ c ∨ b ≠ k := by
    by_cases e : a = c
    · exact Or.inr (fun e2 => hn (e ▸ e2 ▸ hp))
    · exact Or.inl e
  rw [rd_n e]
  exact h.1 a b hn
theorem frI.p {P : Nat → Nat → Prop} {σ τ : Sg} {c k : Nat} {v : Option Nat} (h : frI P σ τ) : frI P σ (sP τ c k v) := h
theorem frI.t {P Q : Nat → Nat → Prop} {σ τ ρ : Sg} (h : frI P σ τ) (h2 : frC Q τ ρ) (hq : ∀ c k, Q c k → P c k) : frI P σ ρ :=
  ⟨fun a b hn => (h2.1 a b (fun z => hn (hq a b z))).trans (h.1 a b hn), trivial⟩
theorem frI.u {P Q : Nat → Nat → Prop} {σ τ ρ : Sg} (h : frI P σ τ) (h2 : frI Q τ ρ) (hq : ∀ c k, Q c k → P c k) : frI P σ ρ :=
  ⟨fun a b hn => (h2.1 a b (fun z => hn (hq a b z))).trans (h.1 a b hn), trivial⟩
set_option maxRecDepth 20000 in
theorem shc_0 : shC[0]? = some (0, 11, [(1, 1), (1, 184), (1, 185), (1, 186), (1, 210), (1, 215), (1, 220), (1, 223), (1, 227), (0, 0), (2, 0), (2, 0)]) := by rfl
set_option maxRecDepth 100000 in
set_option maxHeartbeats 4000000 in
theorem c_X11_programAt (l : Launch) (G : va_G) (kc : KC) (ad : Nat → Nat) (σ : Sg)  (p : Int32)  : MR l G kc yX11_programAt cX11_programAt 2 (.object "CarriedWorks$Program") 1 20 [.ref (ad 0), .int p] shC ad σ (fun q σ1 => ((¬ (0 ≤ p.toInt ∧ p.toInt ≤ 7) ∧ q = none) ∨ ∃ k, k < 8 ∧ p = nI k ∧ q = some (8 + 22 * k)) ∧ σ1 = σ) := by
  intro sz
  refine z_body (y := yX11_programAt) (n := 2) (av := [.ref (ad 0), .int p]) (Qc := fun A => va_Qq (fun r σ' => ∃ q : Option Nat, r = q.map ad ∧ (fun q σ1 => ((¬ (0 ≤ p.toInt ∧ p.toInt ≤ 7) ∧ q = none) ∨ ∃ k, k < 8 ∧ p = nI k ∧ q = some (8 + 22 * k)) ∧ σ1 = σ) q σ') (PoC G kc shC ad A) A) (plainFor_of_name (by decide)) (Nat.le_of_ble_eq_true rfl) (fun pr e s m below meth c A C0 hr hlk hnm hw hRo ls hl => ?_) sz
  have hx := C0.1
  have hb := C0.2.1
  have hown := C0.2.2.2.1
  have hts := C0.2.2.2.2.1
  have hl : lv_has ls 2 [(0, .ref (ad 0)), (1, .int p)] := hl
  refine lv_iload_n hx hb (dkP dF_27 DX11_programAt (i := 0) rfl rfl) rfl (lv_at hl 1 rfl) ?_
  refine zn_I hw (zr_S (As := [.int p]) (rest := []) C0 (c_X11_isProgram l G kc p  _) cs_X11_isProgram lk_X11_257 (zp_P C0 hRo hw a00 s00) rfl hl.1 rfl ⟨by decide, by decide⟩ (Nat.le_of_ble_eq_true rfl) (dk2 dF_184 DX11_programAt (i := 1) rfl rfl rfl) ⟨Nat.le_refl _, Nat.le_refl _⟩) (fun r1 s1 H locs hp hw => ?_)
  rcases hp with ⟨rfl, hc1⟩ | ⟨rfl, hc1⟩
  · skip
    obtain ⟨k_p, hk_p, rfl⟩ := to_nat (x := p) (n := 8) (by (try simp only [lg_cmp_lt, lg_cmp_le, lg_cmp_gt, lg_cmp_ge, lg_cmp_eq] at hc1); (try simp (disch := omega) only [ta_lt, ta_le, ta_eq, tb_lt, tb_le, tb_eq, tw, tnI, tn32 1 (by decide), tnj 1 (by decide), tl32 0 (by decide), tl64 0 (by decide)] at hc1); (try simp (disch := omega) only [ta_lt, ta_le, ta_eq, tb_lt, tb_le, tb_eq, tw, tnI, tn32 1 (by decide), tnj 1 (by decide), tl32 0 (by decide), tl64 0 (by decide)]); omega)
    refine lv_if_eq (tgt := 19) hx hb (dkS dF_153 DX11_programAt (i := 2) rfl rfl rfl) (by decide) (fun h => absurd h (by decide)) (fun _ => ?_)
    refine lv_aload_n hx hb (dkP dF_42 DX11_programAt (i := 3) rfl rfl) rfl (lv_at hl 0 rfl) ?_
    refine z_gr C0 hw 0 0 1 (fk_of shc_0 rfl) fl_X11_10 (dk2 dF_180 DX11_programAt (i := 4) rfl rfl rfl) ?_
    refine z_gr C0 hw 1 0 2 (fk_of shc_1 rfl) fl_X11_360 (dk2 dF_180 DX11_programAt (i := 5) rfl rfl rfl) ?_
    refine lv_iload_n hx hb (dkP dF_27 DX11_programAt (i := 6) rfl rfl) rfl (lv_at hl 1 rfl) ?_
    refine z_aaldN (n := 8) C0 hw 2 k_p (rks_2 k_p (by omega)) (by decide) (by omega) (by decide) (dkP dF_50 DX11_programAt (i := 7) rfl rfl) ?_
    refine lv_goto (tgt := 20) hx hb (dkS dF_167 DX11_programAt (i := 8) rfl rfl rfl) (by decide) ?_
    exact z_rret (q := (some (8 + 22 * k_p))) C0 hr hlk hw rfl (⟨Or.inr ⟨k_p, hk_p, rfl, rfl⟩, rfl⟩) (dkP dF_176 DX11_programAt (i := 10) rfl rfl)
  · skip
    refine lv_if_eq (tgt := 19) hx hb (dkS dF_153 DX11_programAt (i := 2) rfl rfl rfl) (by decide) (fun _ => ?_) (fun h => absurd h (by decide))
    refine lv_null hx hb (dkP dF_1 DX11_programAt (i := 9) rfl rfl) ?_
    exact z_rret (q := none) C0 hr hlk hw rfl (⟨Or.inl ⟨(by (try simp only [lg_cmp_lt, lg_cmp_le, lg_cmp_gt, lg_cmp_ge, lg_cmp_eq] at hc1); (try simp (disch := omega) only [ta_lt, ta_le, ta_eq, tb_lt, tb_le, tb_eq, tw, tnI, tn32 1 (by decide), tnj 1 (by decide), tl32 0 (by decide), tl64 0 (by decide)] at hc1); (try simp (disch := omega) only [ta_lt, ta_le, ta_eq, tb_lt, tb_le, tb_eq, tw, tnI, tn32 1 (by decide), tnj 1 (by decide), tl32 0 (by decide), tl64 0 (by decide)]); omega), rfl⟩, rfl⟩) (dkP dF_176 DX11_programAt (i := 10) rfl rfl)
theorem otN3 : ∀ d, d ∈ otL → (9 ≤ d ∧ d + 10 ≤ 184 ∧ (d - 8) % 22 = 1) ∨ d = 192 ∨ 257 ≤ d := by decide +kernel
theorem ntN3 : ∀ d, d ∈ ntL → (19 ≤ d ∧ d + 8 ≤ 184 ∧ (d - 8) % 22 = 11) ∨ d = 202 ∨ 257 ≤ d := by decide +kernel
set_option maxRecDepth 100000 in
set_option maxHeartbeats 8000000 in
theorem c_X11_fault (l : Launch) (G : va_G) (kc : KC) (ad : Nat → Nat) (σ : Sg) (what : Int32) (hJ : JC σ) (hT : TC σ) : MI l G kc yX11_fault cX11_fault 2 (some .int) 0 0 [.ref (ad 0), .int what] shC ad σ (fun r σ1 => (JC σ1) ∧ σ1 = σ) := by
  intro sz
  refine z_body (y := yX11_fault) (n := 2) (av := [.ref (ad 0), .int what]) (Qc := fun A => va_Qi (fun r σ1 => (JC σ1) ∧ σ1 = σ) (PoC G kc shC ad A) A) (plainFor_of_name (by decide)) (Nat.le_of_ble_eq_true rfl) (fun pr e s m below meth c A C0 hr hlk hnm hw hRo ls hl => ?_) sz
  have hx := C0.1
  have hb := C0.2.1
  have hown := C0.2.2.2.1
  have hts := C0.2.2.2.2.1
  have hl : lv_has ls 2 [(0, .ref (ad 0)), (1, .int what)] := hl
  obtain ⟨t, u, hto, ht, hun, hu⟩ := hJ.rdr
  obtain ⟨wa, wb, hwa_, hwa, hwb_, hwb, hwab⟩ := hJ.wts
  refine lv_iload_n hx hb (dkP dF_27 DX11_fault (i := 0) rfl rfl) rfl (lv_at hl 1 rfl) ?_
  refine lv_if_ne (tgt := 12) hx hb (dkS dF_154 DX11_fault (i := 1) rfl rfl rfl) (by decide) (fun c1 => ?_) (fun c1 => ?_)
  · (try simp (disch := omega) only [ta_lt, ta_le, ta_eq, tnI, tl32 0 (by decide)] at c1)
    refine lv_iload_n hx hb (dkP dF_27 DX11_fault (i := 6) rfl rfl) rfl (lv_at hl 1 rfl) ?_
    refine lv_iconst (v := 1) hx hb (dkP dF_4 DX11_fault (i := 7) rfl rfl) (by decide) ?_
    refine lv_icmp_ne (tgt := 27) hx hb (dkS dF_160 DX11_fault (i := 8) rfl rfl rfl) (by decide) (fun c2 => ?_) (fun c2 => ?_)
    · (try simp (disch := omega) only [ta_lt, ta_le, ta_eq, tnI, tl32 1 (by decide)] at c2)
      refine lv_iconst (v := (-1)) hx hb (dkP dF_2 DX11_fault (i := 13) rfl rfl) (by decide) ?_
      exact z_iret C0 hr hlk hw (⟨hJ, rfl⟩) (dkP dF_172 DX11_fault (i := 14) rfl rfl)
    · (try simp (disch := omega) only [ta_lt, ta_le, ta_eq, tnI, tl32 1 (by decide)] at c2)
      refine lv_aload_n hx hb (dkP dF_42 DX11_fault (i := 9) rfl rfl) rfl (lv_at hl 0 rfl) ?_
      refine z_gr C0 hw 0 3 186 (fk_of shc_0 rfl) fl_X11_27 (dk2 dF_180 DX11_fault (i := 10) rfl rfl rfl) ?_
      refine z_gi C0 hw 186 8 (fk_of shc_186 rfl) fl_X11_127 (dk2 dF_180 DX11_fault (i := 11) rfl rfl rfl) ?_
      obtain ⟨v3, ev3⟩ : ∃ y : Int32, σ.1 186 8 = y := ⟨_, rfl⟩
      refine z_top (y := v3) ev3 ?_
      refine lv_goto (tgt := 28) hx hb (dkS dF_167 DX11_fault (i := 12) rfl rfl rfl) (by decide) ?_
      exact z_iret C0 hr hlk hw (⟨hJ, rfl⟩) (dkP dF_172 DX11_fault (i := 14) rfl rfl)
  · (try simp (disch := omega) only [ta_lt, ta_le, ta_eq, tnI, tl32 0 (by decide)] at c1)
    refine lv_aload_n hx hb (dkP dF_42 DX11_fault (i := 2) rfl rfl) rfl (lv_at hl 0 rfl) ?_
    refine z_gr C0 hw 0 3 186 (fk_of shc_0 rfl) fl_X11_27 (dk2 dF_180 DX11_fault (i := 3) rfl rfl rfl) ?_
    refine z_gi C0 hw 186 7 (fk_of shc_186 rfl) fl_X11_124 (dk2 dF_180 DX11_fault (i := 4) rfl rfl rfl) ?_
    obtain ⟨v4, ev4⟩ : ∃ y : Int32, σ.1 186 7 = y := ⟨_, rfl⟩
    refine z_top (y := v4) ev4 ?_
    exact z_iret C0 hr hlk hw (⟨hJ, rfl⟩) (dkP dF_172 DX11_fault (i := 5) rfl rfl)
set_option maxRecDepth 20000 in
theorem shc_227 : shC[227]? = some (1, 8, []) := by rfl
theorem tcl_227 : tcL.getD 227 0 = 0 := by decide +kernel
set_option maxRecDepth 100000 in
set_option maxHeartbeats 8000000 in
theorem c_X11_field (l : Launch) (G : va_G) (kc : KC) (ad : Nat → Nat) (σ : Sg) (field : Int32) (hJ : JC σ) (hT : TC σ) : MI l G kc yX11_field cX11_field 2 (some .int) 1 20 [.ref (ad 0), .int field] shC ad σ (fun r σ1 => (JC σ1) ∧ σ1 = σ) := by
  intro sz
  refine z_body (y := yX11_field) (n := 2) (av := [.ref (ad 0), .int field]) (Qc := fun A => va_Qi (fun r σ1 => (JC σ1) ∧ σ1 = σ) (PoC G kc shC ad A) A) (plainFor_of_name (by decide)) (Nat.le_of_ble_eq_true rfl) (fun pr e s m below meth c A C0 hr hlk hnm hw hRo ls hl => ?_) sz
  have hx := C0.1
  have hb := C0.2.1
  have hown := C0.2.2.2.1
  have hts := C0.2.2.2.2.1
  have hl : lv_has ls 2 [(0, .ref (ad 0)), (1, .int field)] := hl
  obtain ⟨t, u, hto, ht, hun, hu⟩ := hJ.rdr
  obtain ⟨wa, wb, hwa_, hwa, hwb_, hwb, hwab⟩ := hJ.wts
  refine lv_iload_n hx hb (dkP dF_27 DX11_field (i := 0) rfl rfl) rfl (lv_at hl 1 rfl) ?_
  refine zn_I hw (zr_S (As := [.int field]) (rest := []) C0 (c_X11_isField l G kc field  _) cs_X11_isField lk_X11_130 (zp_P C0 hRo hw a00 s00) rfl hl.1 rfl ⟨by decide, by decide⟩ (Nat.le_of_ble_eq_true rfl) (dk2 dF_184 DX11_field (i := 1) rfl rfl rfl) ⟨Nat.le_refl _, Nat.le_refl _⟩) (fun r1 s1 H locs hp hw => ?_)
  rcases hp with ⟨rfl, hc1⟩ | ⟨rfl, hc1⟩
  · skip
    (try simp (disch := omega) only [ta_lt, ta_le, ta_eq, tb_lt, tb_le, tb_eq, tw, tnI, tn32 1 (by decide), tnj 1 (by decide), tl32 0 (by decide), tl64 0 (by decide)] at hc1)
    obtain ⟨k_field, hk_field, rfl⟩ := to_nat (x := field) (n := 8) (by (try simp only [lg_cmp_lt, lg_cmp_le, lg_cmp_gt, lg_cmp_ge, lg_cmp_eq] at hc1); (try simp (disch := omega) only [ta_lt, ta_le, ta_eq, tb_lt, tb_le, tb_eq, tw, tnI, tn32 1 (by decide), tnj 1 (by decide), tl32 0 (by decide), tl64 0 (by decide)] at hc1); (try simp (disch := omega) only [ta_lt, ta_le, ta_eq, tb_lt, tb_le, tb_eq, tw, tnI, tn32 1 (by decide), tnj 1 (by decide), tl32 0 (by decide), tl64 0 (by decide)]); omega)
    refine lv_if_eq (tgt := 16) hx hb (dkS dF_153 DX11_field (i := 2) rfl rfl rfl) (by decide) (fun h => absurd h (by decide)) (fun _ => ?_)
    refine lv_aload_n hx hb (dkP dF_42 DX11_field (i := 3) rfl rfl) rfl (lv_at hl 0 rfl) ?_
    refine z_gr C0 hw 0 8 227 (fk_of shc_0 rfl) fl_X11_55 (dk2 dF_180 DX11_field (i := 4) rfl rfl rfl) ?_
    refine lv_iload_n hx hb (dkP dF_27 DX11_field (i := 5) rfl rfl) rfl (lv_at hl 1 rfl) ?_
    refine z_ialdN (n := 8) C0 hw 227 k_field (ak_of shc_227) (by omega) (by decide) (dkP dF_46 DX11_field (i := 6) rfl rfl) ?_
    obtain ⟨v2, ev2⟩ : ∃ y : Int32, σ.1 227 k_field = y := ⟨_, rfl⟩
    refine z_top (y := v2) ev2 ?_
    refine lv_goto (tgt := 17) hx hb (dkS dF_167 DX11_field (i := 7) rfl rfl rfl) (by decide) ?_
    exact z_iret C0 hr hlk hw (⟨hJ, rfl⟩) (dkP dF_172 DX11_field (i := 9) rfl rfl)
  · skip
    (try simp (disch := omega) only [ta_lt, ta_le, ta_eq, tb_lt, tb_le, tb_eq, tw, tnI, tn32 1 (by decide), tnj 1 (by decide), tl32 0 (by decide), tl64 0 (by decide)] at hc1)
    refine lv_if_eq (tgt := 16) hx hb (dkS dF_153 DX11_field (i := 2) rfl rfl rfl) (by decide) (fun _ => ?_) (fun h => absurd h (by decide))
    refine lv_iconst (v := (-1)) hx hb (dkP dF_2 DX11_field (i := 8) rfl rfl) (by decide) ?_
    exact z_iret C0 hr hlk hw (⟨hJ, rfl⟩) (dkP dF_172 DX11_field (i := 9) rfl rfl)
theorem tcl_0 : tcL.getD 0 0 = 0 := by decide +kernel
set_option maxRecDepth 100000 in
set_option maxHeartbeats 8000000 in
theorem c_X11_did (l : Launch) (G : va_G) (kc : KC) (ad : Nat → Nat) (σ : Sg)  (hJ : JC σ) (hT : TC σ) : MI l G kc yX11_did cX11_did 1 (some .int) 0 0 [.ref (ad 0)] shC ad σ (fun r σ1 => (JC σ1) ∧ σ1 = σ) := by
  intro sz
  refine z_body (y := yX11_did) (n := 1) (av := [.ref (ad 0)]) (Qc := fun A => va_Qi (fun r σ1 => (JC σ1) ∧ σ1 = σ) (PoC G kc shC ad A) A) (plainFor_of_name (by decide)) (Nat.le_of_ble_eq_true rfl) (fun pr e s m below meth c A C0 hr hlk hnm hw hRo ls hl => ?_) sz
  have hx := C0.1
  have hb := C0.2.1
  have hown := C0.2.2.2.1
  have hts := C0.2.2.2.2.1
  have hl : lv_has ls 1 [(0, .ref (ad 0))] := hl
  obtain ⟨t, u, hto, ht, hun, hu⟩ := hJ.rdr
  obtain ⟨wa, wb, hwa_, hwa, hwb_, hwb, hwab⟩ := hJ.wts
  refine lv_aload_n hx hb (dkP dF_42 DX11_did (i := 0) rfl rfl) rfl (lv_at hl 0 rfl) ?_
  refine z_gi C0 hw 0 9 (fk_of shc_0 rfl) fl_X11_59 (dk2 dF_180 DX11_did (i := 1) rfl rfl rfl) ?_
  obtain ⟨v1, ev1⟩ : ∃ y : Int32, σ.1 0 9 = y := ⟨_, rfl⟩
  refine z_top (y := v1) ev1 ?_
  exact z_iret C0 hr hlk hw (⟨hJ, rfl⟩) (dkP dF_172 DX11_did (i := 2) rfl rfl)
set_option maxRecDepth 100000 in
set_option maxHeartbeats 8000000 in
theorem c_X11_end (l : Launch) (G : va_G) (kc : KC) (ad : Nat → Nat) (σ : Sg) (va : Int32) (hJ : JC σ) (hT : TC σ) : MI l G kc yX11_end cX11_end 2 (some .int) 0 0 [.ref (ad 0), .int va] shC ad σ (fun r σ1 => (JC σ1) ∧ TC σ1 ∧ frC (fun x y => (x = 186 ∧ y = 1)) σ σ1) := by
  intro sz
  refine z_body (y := yX11_end) (n := 2) (av := [.ref (ad 0), .int va]) (Qc := fun A => va_Qi (fun r σ1 => (JC σ1) ∧ TC σ1 ∧ frC (fun x y => (x = 186 ∧ y = 1)) σ σ1) (PoC G kc shC ad A) A) (plainFor_of_name (by decide)) (Nat.le_of_ble_eq_true rfl) (fun pr e s m below meth c A C0 hr hlk hnm hw hRo ls hl => ?_) sz
  have hx := C0.1
  have hb := C0.2.1
  have hown := C0.2.2.2.1
  have hts := C0.2.2.2.2.1
  have hl : lv_has ls 2 [(0, .ref (ad 0)), (1, .int va)] := hl
  obtain ⟨t, u, hto, ht, hun, hu⟩ := hJ.rdr
  obtain ⟨wa, wb, hwa_, hwa, hwb_, hwb, hwab⟩ := hJ.wts
  refine lv_iload_n hx hb (dkP dF_27 DX11_end (i := 0) rfl rfl) rfl (lv_at hl 1 rfl) ?_
  refine lv_if_lt (tgt := 15) hx hb (dkS dF_155 DX11_end (i := 1) rfl rfl rfl) (by decide) (fun c1 => ?_) (fun c1 => ?_)
  · (try simp (disch := omega) only [ta_lt, ta_le, ta_eq, tnI, tl32 0 (by decide)] at c1)
    refine lv_iconst (v := (-1)) hx hb (dkP dF_2 DX11_end (i := 7) rfl rfl) (by decide) ?_
    exact z_iret C0 hr hlk hw (⟨hJ, hT, frC.refl⟩) (dkP dF_172 DX11_end (i := 8) rfl rfl)
  · (try simp (disch := omega) only [ta_lt, ta_le, ta_eq, tnI, tl32 0 (by decide)] at c1)
    refine lv_iload_n hx hb (dkP dF_27 DX11_end (i := 2) rfl rfl) rfl (lv_at hl 1 rfl) ?_
    refine lv_aload_n hx hb (dkP dF_42 DX11_end (i := 3) rfl rfl) rfl (lv_at hl 0 rfl) ?_
    refine z_gr C0 hw 0 3 186 (fk_of shc_0 rfl) fl_X11_27 (dk2 dF_180 DX11_end (i := 4) rfl rfl rfl) ?_
    refine z_gi C0 hw 186 1 (fk_of shc_186 rfl) fl_X11_81 (dk2 dF_180 DX11_end (i := 5) rfl rfl rfl) ?_
    obtain ⟨n2, hn2, en2⟩ := rngN (x := σ.1 186 1) (h := 600) (tcr_10_1 hT tcl_186)
    refine z_top (y := nI n2) en2 ?_
    refine lv_icmp_le (tgt := 17) hx hb (dkS dF_164 DX11_end (i := 6) rfl rfl rfl) (by decide) (fun c3 => ?_) (fun c3 => ?_)
    · (try simp (disch := omega) only [ta_lt, ta_le, ta_eq, tnI] at c3); have hz3 := i32b va
      refine lv_aload_n hx hb (dkP dF_42 DX11_end (i := 9) rfl rfl) rfl (lv_at hl 0 rfl) ?_
      refine z_gr C0 hw 0 3 186 (fk_of shc_0 rfl) fl_X11_27 (dk2 dF_180 DX11_end (i := 10) rfl rfl rfl) ?_
      refine lv_iload_n hx hb (dkP dF_27 DX11_end (i := 11) rfl rfl) rfl (lv_at hl 1 rfl) ?_
      refine z_pi C0 hw 186 1 (fk_of shc_186 rfl) fp_X11_81 (dk2 dF_181 DX11_end (i := 12) rfl rfl rfl) (fun H locs hw => ?_)
      have hT4 : TC (sI σ 186 1 va) := TC.w hT (tcw_10_1 tcl_186 (by (try simp only [lg_cmp_lt, lg_cmp_le, lg_cmp_gt, lg_cmp_ge, lg_cmp_eq] at c1); (try simp (disch := omega) only [ta_lt, ta_le, ta_eq, tb_lt, tb_le, tb_eq, tw, tnI, tsub1, tsv, tsb32, tn32 1 (by decide), tnj 1 (by decide), tl32 0 (by decide), tl64 0 (by decide)] at c1); (try simp only [lg_cmp_lt, lg_cmp_le, lg_cmp_gt, lg_cmp_ge, lg_cmp_eq] at c3); (try simp (disch := omega) only [ta_lt, ta_le, ta_eq, tb_lt, tb_le, tb_eq, tw, tnI, tsub1, tsv, tsb32, tn32 1 (by decide), tnj 1 (by decide), tl32 0 (by decide), tl64 0 (by decide)] at c3); (try simp (disch := omega) only [ta_lt, ta_le, ta_eq, tb_lt, tb_le, tb_eq, tw, tnI, tsub1, tsv, tsb32, tn32 1 (by decide), tnj 1 (by decide), tl32 0 (by decide), tl64 0 (by decide)]); omega))
      have hF4 : frC (fun x y => (x = 186 ∧ y = 1)) σ (sI σ 186 1 va) := frC.w frC.refl (by show (186 = 186 ∧ 1 = 1); exact ⟨rfl, rfl⟩)
      refine lv_iload_n hx hb (dkP dF_27 DX11_end (i := 13) rfl rfl) rfl (lv_at hl 1 rfl) ?_
      exact z_iret C0 hr hlk hw (⟨(hJ.fr hF4.2 (fun x y hj => hF4.1 x y (fun h_ => by have h_ : (x = 186 ∧ y = 1) := h_; unfold jcq at hj; (· omega)))), hT4, hF4⟩) (dkP dF_172 DX11_end (i := 14) rfl rfl)
    · (try simp (disch := omega) only [ta_lt, ta_le, ta_eq, tnI] at c3); have hz3 := i32b va
      refine lv_iconst (v := (-1)) hx hb (dkP dF_2 DX11_end (i := 7) rfl rfl) (by decide) ?_
      exact z_iret C0 hr hlk hw (⟨hJ, hT, frC.refl⟩) (dkP dF_172 DX11_end (i := 8) rfl rfl)
set_option maxRecDepth 100000 in
set_option maxHeartbeats 8000000 in
theorem c_X11_way (l : Launch) (G : va_G) (kc : KC) (ad : Nat → Nat) (σ : Sg) (wy : Int32) (what : Int32) (ix : Int32) (hJ : JC σ) (hT : TC σ) : MI l G kc yX11_way cX11_way 4 (some .int) 1 23 [.ref (ad 0), .int wy, .int what, .int ix] shC ad σ (fun r σ1 => (JC σ1) ∧ σ1 = σ) := by
  intro sz
  refine z_body (y := yX11_way) (n := 4) (av := [.ref (ad 0), .int wy, .int what, .int ix]) (Qc := fun A => va_Qi (fun r σ1 => (JC σ1) ∧ σ1 = σ) (PoC G kc shC ad A) A) (plainFor_of_name (by decide)) (Nat.le_of_ble_eq_true rfl) (fun pr e s m below meth c A C0 hr hlk hnm hw hRo ls hl => ?_) sz
  have hx := C0.1
  have hb := C0.2.1
  have hown := C0.2.2.2.1
  have hts := C0.2.2.2.2.1
  have hl : lv_has ls 4 [(0, .ref (ad 0)), (1, .int wy), (2, .int what), (3, .int ix)] := hl
  obtain ⟨t, u, hto, ht, hun, hu⟩ := hJ.rdr
  obtain ⟨wa, wb, hwa_, hwa, hwb_, hwb, hwab⟩ := hJ.wts
  refine lv_aload_n hx hb (dkP dF_42 DX11_way (i := 0) rfl rfl) rfl (lv_at hl 0 rfl) ?_
  refine z_gms C0 hw 0 10 wa hwa_ (fk_of shc_0 rfl) fl_X11_66 (dk2 dF_180 DX11_way (i := 1) rfl rfl rfl) ?_
  refine lv_iload_n hx hb (dkP dF_27 DX11_way (i := 2) rfl rfl) rfl (lv_at hl 1 rfl) ?_
  refine lv_iload_n hx hb (dkP dF_28 DX11_way (i := 3) rfl rfl) rfl (lv_at hl 2 rfl) ?_
  refine lv_iload_n hx hb (dkP dF_29 DX11_way (i := 4) rfl rfl) rfl (lv_at hl 3 rfl) ?_
  refine zk_I hw (zr_V (As := [.int wy, .int what, .int ix]) (rest := []) C0 (c_X9_tell l G kc ad σ wa wy what ix hwa hT _) cv_X9_tell lk_X11_179 (zp_V C0 hRo hw wa (shl_wt_0 wa hwa) rfl rfl) rfl hl.1 rfl ⟨by decide, by decide⟩ (Nat.le_of_ble_eq_true rfl) (dk2 dF_182 DX11_way (i := 5) rfl rfl rfl) ⟨Nat.le_refl _, Nat.le_refl _⟩) (fun r1 s1 H locs hp hw => ?_)
  have hs1 := hp
  (rw [hs1] at hw)
  exact z_iret C0 hr hlk hw (⟨hJ, rfl⟩) (dkP dF_172 DX11_way (i := 6) rfl rfl)
set_option maxRecDepth 100000 in
set_option maxHeartbeats 8000000 in
theorem c_X11_rule (l : Launch) (G : va_G) (kc : KC) (ad : Nat → Nat) (σ : Sg) (wy : Int32) (field : Int32) (ix : Int32) (hJ : JC σ) (hT : TC σ) : MI l G kc yX11_rule cX11_rule 4 (some .int) 2 43 [.ref (ad 0), .int wy, .int field, .int ix] shC ad σ (fun r σ1 => (JC σ1) ∧ σ1 = σ) := by
  intro sz
  refine z_body (y := yX11_rule) (n := 4) (av := [.ref (ad 0), .int wy, .int field, .int ix]) (Qc := fun A => va_Qi (fun r σ1 => (JC σ1) ∧ σ1 = σ) (PoC G kc shC ad A) A) (plainFor_of_name (by decide)) (Nat.le_of_ble_eq_true rfl) (fun pr e s m below meth c A C0 hr hlk hnm hw hRo ls hl => ?_) sz
  have hx := C0.1
  have hb := C0.2.1
  have hown := C0.2.2.2.1
  have hts := C0.2.2.2.2.1
  have hl : lv_has ls 4 [(0, .ref (ad 0)), (1, .int wy), (2, .int field), (3, .int ix)] := hl
  obtain ⟨t, u, hto, ht, hun, hu⟩ := hJ.rdr
  obtain ⟨wa, wb, hwa_, hwa, hwb_, hwb, hwab⟩ := hJ.wts
  refine lv_aload_n hx hb (dkP dF_42 DX11_rule (i := 0) rfl rfl) rfl (lv_at hl 0 rfl) ?_
  refine z_gms C0 hw 0 10 wa hwa_ (fk_of shc_0 rfl) fl_X11_66 (dk2 dF_180 DX11_rule (i := 1) rfl rfl rfl) ?_
  refine lv_iload_n hx hb (dkP dF_27 DX11_rule (i := 2) rfl rfl) rfl (lv_at hl 1 rfl) ?_
  refine lv_iload_n hx hb (dkP dF_28 DX11_rule (i := 3) rfl rfl) rfl (lv_at hl 2 rfl) ?_
  refine lv_iload_n hx hb (dkP dF_29 DX11_rule (i := 4) rfl rfl) rfl (lv_at hl 3 rfl) ?_
  refine zk_I hw (zr_V (As := [.int wy, .int field, .int ix]) (rest := []) C0 (c_X9_coefficient l G kc ad σ wa wy field ix hwa hT _) cv_X9_coefficient lk_X11_183 (zp_V C0 hRo hw wa (shl_wt_0 wa hwa) rfl rfl) rfl hl.1 rfl ⟨by decide, by decide⟩ (Nat.le_of_ble_eq_true rfl) (dk2 dF_182 DX11_rule (i := 5) rfl rfl rfl) ⟨Nat.le_refl _, Nat.le_refl _⟩) (fun r1 s1 H locs hp hw => ?_)
  have hs1 := hp
  (rw [hs1] at hw)
  exact z_iret C0 hr hlk hw (⟨hJ, rfl⟩) (dkP dF_172 DX11_rule (i := 6) rfl rfl)
set_option maxRecDepth 100000 in
set_option maxHeartbeats 8000000 in
theorem c_X11_dead (l : Launch) (G : va_G) (kc : KC) (ad : Nat → Nat) (σ : Sg)  (hJ : JC σ) (hT : TC σ) : MI l G kc yX11_dead cX11_dead 1 (some .int) 0 0 [.ref (ad 0)] shC ad σ (fun r σ1 => (JC σ1) ∧ σ1 = σ) := by
  intro sz
  refine z_body (y := yX11_dead) (n := 1) (av := [.ref (ad 0)]) (Qc := fun A => va_Qi (fun r σ1 => (JC σ1) ∧ σ1 = σ) (PoC G kc shC ad A) A) (plainFor_of_name (by decide)) (Nat.le_of_ble_eq_true rfl) (fun pr e s m below meth c A C0 hr hlk hnm hw hRo ls hl => ?_) sz
  have hx := C0.1
  have hb := C0.2.1
  have hown := C0.2.2.2.1
  have hts := C0.2.2.2.2.1
  have hl : lv_has ls 1 [(0, .ref (ad 0))] := hl
  obtain ⟨t, u, hto, ht, hun, hu⟩ := hJ.rdr
  obtain ⟨wa, wb, hwa_, hwa, hwb_, hwb, hwab⟩ := hJ.wts
  refine lv_aload_n hx hb (dkP dF_42 DX11_dead (i := 0) rfl rfl) rfl (lv_at hl 0 rfl) ?_
  refine z_gms C0 hw 0 10 wa hwa_ (fk_of shc_0 rfl) fl_X11_66 (dk2 dF_180 DX11_dead (i := 1) rfl rfl rfl) ?_
  refine z_gi C0 hw wa 2 (fk_of (shl_wt_0 wa hwa) rfl) fl_X11_186 (dk2 dF_180 DX11_dead (i := 2) rfl rfl rfl) ?_
  obtain ⟨v1, ev1⟩ : ∃ y : Int32, σ.1 wa 2 = y := ⟨_, rfl⟩
  refine z_top (y := v1) ev1 ?_
  exact z_iret C0 hr hlk hw (⟨hJ, rfl⟩) (dkP dF_172 DX11_dead (i := 3) rfl rfl)
set_option maxRecDepth 100000 in
set_option maxHeartbeats 8000000 in
theorem c_X11_kinds (l : Launch) (G : va_G) (kc : KC) (ad : Nat → Nat) (σ : Sg)  (hJ : JC σ) (hT : TC σ) : MI l G kc yX11_kinds cX11_kinds 1 (some .int) 3 67 [.ref (ad 0)] shC ad σ (fun r σ1 => (JC σ1) ∧ σ1 = σ) := by
  intro sz
  refine z_body (y := yX11_kinds) (n := 1) (av := [.ref (ad 0)]) (Qc := fun A => va_Qi (fun r σ1 => (JC σ1) ∧ σ1 = σ) (PoC G kc shC ad A) A) (plainFor_of_name (by decide)) (Nat.le_of_ble_eq_true rfl) (fun pr e s m below meth c A C0 hr hlk hnm hw hRo ls hl => ?_) sz
  have hx := C0.1
  have hb := C0.2.1
  have hown := C0.2.2.2.1
  have hts := C0.2.2.2.2.1
  have hl : lv_has ls 1 [(0, .ref (ad 0))] := hl
  obtain ⟨t, u, hto, ht, hun, hu⟩ := hJ.rdr
  obtain ⟨wa, wb, hwa_, hwa, hwb_, hwb, hwab⟩ := hJ.wts
  refine lv_aload_n hx hb (dkP dF_42 DX11_kinds (i := 0) rfl rfl) rfl (lv_at hl 0 rfl) ?_
  refine z_gms C0 hw 0 10 wa hwa_ (fk_of shc_0 rfl) fl_X11_66 (dk2 dF_180 DX11_kinds (i := 1) rfl rfl rfl) ?_
  refine zk_I hw (zr_V (As := []) (rest := []) C0 (c_X9_distinct l G kc ad σ wa hwa hT _) cv_X9_distinct lk_X11_189 (zp_V C0 hRo hw wa (shl_wt_0 wa hwa) rfl rfl) rfl hl.1 rfl ⟨by decide, by decide⟩ (Nat.le_of_ble_eq_true rfl) (dk2 dF_182 DX11_kinds (i := 2) rfl rfl rfl) ⟨Nat.le_refl _, Nat.le_refl _⟩) (fun r1 s1 H locs hp hw => ?_)
  have hs1 := hp
  (rw [hs1] at hw)
  exact z_iret C0 hr hlk hw (⟨hJ, rfl⟩) (dkP dF_172 DX11_kinds (i := 3) rfl rfl)
