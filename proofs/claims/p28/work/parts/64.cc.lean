theorem TC.cp {σ : Sg} {i j a b n : Nat} (h : TC σ) (hij : ∀ (k k2 : Nat) (x : Int), tyc (tcL.getD i 0) k x → tyc (tcL.getD j 0) k2 x) : TC (sCp σ i j a b n) := by
  intro c k
  by_cases e : c = j
  · subst e
    show tyc (tcL.getD c 0) k ((if c = c then va_cpy (σ.1 i) (σ.1 c) a b n else σ.1 c) k).toInt
    rw [if_pos rfl]
    unfold va_cpy
    split
    · exact hij _ _ _ (h i _)
    · exact h c k
  · rw [congrFun (sCp_o e) k]
    exact h c k
theorem frC.cp {P : Nat → Nat → Prop} {σ τ : Sg} {i j a b n : Nat} (h : frC P σ τ) (hp : ∀ k, P j k) : frC P σ (sCp τ i j a b n) := by
  refine ⟨fun c k hn => ?_, h.2⟩
  have e : c ≠ j := fun e => hn (e ▸ hp k)
  rw [congrFun (sCp_o e) k]
  exact h.1 c k hn
def ch (f : Nat → Int32) (us : Nat) (P : Nat → Prop) : Nat → Nat → Prop
  | 0, _ => True
  | n + 1, a => P a ∧ ∃ j, j < 16 ∧ f (a + 1) &&& 15 = nI j ∧ a + 3 + j ≤ us ∧ ch f us P n (a + 3 + j)
theorem ch_s {f : Nat → Int32} {us : Nat} {P : Nat → Prop} {n a : Nat} (h : ch f us P n a) (hn : 1 ≤ n) : P a ∧ ∃ j, j < 16 ∧ f (a + 1) &&& 15 = nI j ∧ a + 3 + j ≤ us ∧ ch f us P (n - 1) (a + 3 + j) := by
  obtain ⟨m, rfl⟩ : ∃ m, n = m + 1 := ⟨n - 1, by omega⟩
  exact h
/-- heads of links: none within another -/
def HS (H : Nat → Prop) (us : Nat) : Prop := ∀ a, H a → a + 3 ≤ us ∧ ∀ b, H b → a < b → a + 3 ≤ b
def PF (H : Nat → Prop) (f : Nat → Int32) (a : Nat) : Prop := H a ∧ fok (f a)
theorem PF.c {H : Nat → Prop} {f g : Nat → Int32} (e : g = f) : ∀ x, PF H f x → fok (g x) := fun x h => by rw [e]; exact h.2
def VNb (σ : Sg) (u zs us : Nat) (H : Nat → Prop) : Prop := us ≤ 1920 ∧ σ.1 (u + 6) 1 = nI us ∧ (∀ n, n < zs → (σ.1 u 1 = 0 → ∃ a k, σ.1 (u + 2) n = nI a ∧ a ≤ 1920 ∧ σ.1 (u + 1) n = nI k ∧ k ≤ 100 ∧ ch (σ.1 (u + 7)) us H k a) ∧ ∃ a k, σ.1 (u + 4) n = nI a ∧ a ≤ 1920 ∧ σ.1 (u + 3) n = nI k ∧ k ≤ 9 ∧ ch (σ.1 (u + 7)) us (PF H (σ.1 (u + 7))) k a) ∧ HS H us
theorem VNb.c {σ τ : Sg} {u zs us : Nat} {H : Nat → Prop} (h : VNb σ u zs us H) (he : ∀ x y, u ≤ x ∧ x ≤ u + 7 → τ.1 x y = σ.1 x y) : VNb τ u zs us H := by
  refine ⟨h.1, by rw [he _ _ (by omega)]; exact h.2.1, fun n hn => ?_, h.2.2.2⟩
  have e9 : τ.1 (u + 7) = σ.1 (u + 7) := funext (fun y => he _ y (by omega))
  rw [he u 1 (by omega), he (u + 1) n (by omega), he (u + 2) n (by omega), he (u + 3) n (by omega), he (u + 4) n (by omega), e9]
  exact h.2.2.1 n hn
set_option maxRecDepth 20000 in
theorem shl_nt_2 : ∀ d, d ∈ ntL → shC[d + 2]? = some (1, 40, []) := by decide +kernel
set_option maxRecDepth 20000 in
theorem shl_nt_1 : ∀ d, d ∈ ntL → shC[d + 1]? = some (1, 40, []) := by decide +kernel
set_option maxRecDepth 20000 in
theorem shl_nt_7 : ∀ d, d ∈ ntL → shC[d + 7]? = some (1, 1920, []) := by decide +kernel
theorem tck_nt_7 : ∀ d, d ∈ ntL → tcL.getD (d + 7) 0 = 0 := by decide +kernel
set_option maxRecDepth 100000 in
set_option maxHeartbeats 8000000 in
theorem c_X1_countsFor (l : Launch) (G : va_G) (kc : KC) (ad : Nat → Nat) (σ : Sg) (u : Nat) (cs : Nat) (mc : Nat) {a k us : Nat} {P : Nat → Prop} (hu : u ∈ ntL) (hmc : mc ∈ mcL) (hcs : cs < 40) (hfa : σ.1 (u + 2) cs = nI a) (ha2 : a ≤ 2000) (hfk : σ.1 (u + 1) cs = nI k) (hk1 : k ≤ 100) (hca : ch (σ.1 (u + 7)) us P k a) (hus : us ≤ 1920) (hT : TC σ) : MI l G kc yX1_countsFor cX1_countsFor 7 (some .boolean) 1 26 [.ref (ad u), .int (nI cs), .ref (ad (mc + 1))] shC ad σ (fun r σ1 => ((r = 1 ∧ (True)) ∨ (r = 0 ∧ (True))) ∧ σ1 = σ) := by
  intro sz
  refine z_body (y := yX1_countsFor) (n := 7) (av := [.ref (ad u), .int (nI cs), .ref (ad (mc + 1))]) (Qc := fun A => va_Qi (fun r σ1 => ((r = 1 ∧ (True)) ∨ (r = 0 ∧ (True))) ∧ σ1 = σ) (PoC G kc shC ad A) A) (plainFor_of_name (by decide)) (Nat.le_of_ble_eq_true rfl) (fun pr e s m below meth c A C0 hr hlk hnm hw hRo ls hl => ?_) sz
  have hx := C0.1
  have hb := C0.2.1
  have hown := C0.2.2.2.1
  have hts := C0.2.2.2.2.1
  have hl : lv_has ls 7 [(0, .ref (ad u)), (1, .int (nI cs)), (2, .ref (ad (mc + 1)))] := hl
  have hun_ := ntN u hu
  have hmcn := mcN mc hmc
  refine lv_aload_n hx hb (dkP dF_42 DX1_countsFor (i := 0) rfl rfl) rfl (lv_at hl 0 rfl) ?_
  refine z_gr C0 hw u 5 (u + 2) (fk_of (shl_nt_0 u hu) rfl) fl_X1_17 (dk2 dF_180 DX1_countsFor (i := 1) rfl rfl rfl) ?_
  refine lv_iload_n hx hb (dkP dF_27 DX1_countsFor (i := 2) rfl rfl) rfl (lv_at hl 1 rfl) ?_
  refine z_ialdN (n := 40) C0 hw (u + 2) cs (ak_of (shl_nt_2 u hu)) (by omega) (by decide) (dkP dF_46 DX1_countsFor (i := 3) rfl rfl) ?_
  refine z_top (y := (nI a)) hfa ?_
  refine lv_istore_n (lv' := [(3, .int (nI a)), (0, .ref (ad u)), (1, .int (nI cs)), (2, .ref (ad (mc + 1)))]) hx hb (dkP dF_62 DX1_countsFor (i := 4) rfl rfl) rfl hl (by decide) rfl (fun ls hl => ?_)
  refine lv_iconst (v := 0) hx hb (dkP dF_3 DX1_countsFor (i := 5) rfl rfl) (by decide) ?_
  refine lv_istore (lv' := [(4, .int 0), (3, .int (nI a)), (0, .ref (ad u)), (1, .int (nI cs)), (2, .ref (ad (mc + 1)))]) hx hb (dk1 dF_54 DX1_countsFor (i := 6) rfl rfl rfl) hl (by decide) rfl (fun ls hl => ?_)
  have lp1 : ∀ (nq : Nat) (q4_10 : Nat) (q3_10 : Nat) (H : Heap) (locs : List Loc) (ls : Array Slot), k - q4_10 < nq → (q4_10 ≤ k) → (q3_10 ≤ 2000) → (ch (σ.1 (u + 7)) us P (k - q4_10) q3_10) → St G kc A s.heap shC ad σ H locs → lv_has ls 7 [(4, .int (nI q4_10)), (3, .int (nI q3_10)), (0, .ref (ad u)), (1, .int (nI cs)), (2, .ref (ad (mc + 1)))] → W pr l e { frames := 1, cells := 0, slots := 0, locals := 26 } s m ([.ref (ad u), .int (nI cs), .ref (ad (mc + 1))] : List Value).toArray below meth c H locs 0 0 (MQ below (va_Qi (fun r σ1 => ((r = 1 ∧ (True)) ∨ (r = 0 ∧ (True))) ∧ σ1 = σ) (PoC G kc shC ad A) A) ([.ref (ad u), .int (nI cs), .ref (ad (mc + 1))] : List Value).toArray s 0 0 A) (F0 m 10 ls []) := by
    intro nq
    induction nq with
    | zero => intro q4_10 q3_10 H locs ls hmu; exact absurd hmu (Nat.not_lt_zero _)
    | succ nq ih1 =>
      intro q4_10 q3_10 H locs ls hmu hq4_10 hq3_10 hcc hw hl
      refine lv_iload hx hb (dk1 dF_21 DX1_countsFor (i := 7) rfl rfl rfl) (lv_at hl 0 rfl) ?_
      refine lv_aload_n hx hb (dkP dF_42 DX1_countsFor (i := 8) rfl rfl) rfl (lv_at hl 2 rfl) ?_
      refine z_gr C0 hw u 4 (u + 1) (fk_of (shl_nt_0 u hu) rfl) fl_X1_13 (dk2 dF_180 DX1_countsFor (i := 9) rfl rfl rfl) ?_
      refine lv_iload_n hx hb (dkP dF_27 DX1_countsFor (i := 10) rfl rfl) rfl (lv_at hl 3 rfl) ?_
      refine z_ialdN (n := 40) C0 hw (u + 1) cs (ak_of (shl_nt_1 u hu)) (by omega) (by decide) (dkP dF_46 DX1_countsFor (i := 11) rfl rfl) ?_
      refine z_top (y := (nI k)) hfk ?_
      refine lv_icmp_ge (tgt := 83) hx hb (dkS dF_162 DX1_countsFor (i := 12) rfl rfl rfl) (by decide) (fun c2 => ?_) (fun c2 => ?_)
      · simp (disch := omega) only [ta_lt, ta_le, ta_eq, tnI] at c2
        refine lv_iconst (v := 1) hx hb (dkP dF_4 DX1_countsFor (i := 47) rfl rfl) (by decide) ?_
        exact z_zret C0 hr hlk (by decide) hw (⟨(Or.inl ⟨rfl, trivial⟩), rfl⟩) (dkP dF_172 DX1_countsFor (i := 48) rfl rfl)
      · simp (disch := omega) only [ta_lt, ta_le, ta_eq, tnI] at c2
        obtain ⟨hfk0, cj, hcj16, hcj, hcjb, hcn⟩ := ch_s hcc (by omega)
        refine lv_aload_n hx hb (dkP dF_42 DX1_countsFor (i := 13) rfl rfl) rfl (lv_at hl 2 rfl) ?_
        refine z_gr C0 hw u 9 (u + 6) (fk_of (shl_nt_0 u hu) rfl) fl_X1_32 (dk2 dF_180 DX1_countsFor (i := 14) rfl rfl rfl) ?_
        refine z_gr C0 hw (u + 6) 0 (u + 7) (fk_of (shl_nt_6 u hu) rfl) fl_X1_74 (dk2 dF_180 DX1_countsFor (i := 15) rfl rfl rfl) ?_
        refine lv_iload_n hx hb (dkP dF_29 DX1_countsFor (i := 16) rfl rfl) rfl (lv_at hl 1 rfl) ?_
        refine z_ialdN (n := 1920) C0 hw (u + 7) q3_10 (ak_of (shl_nt_7 u hu)) (by omega) (by decide) (dkP dF_46 DX1_countsFor (i := 17) rfl rfl) ?_
        obtain ⟨v3, ev3⟩ : ∃ y : Int32, σ.1 (u + 7) q3_10 = y := ⟨_, rfl⟩
        refine z_top (y := v3) ev3 ?_
        refine lv_istore (lv' := [(5, .int v3), (4, .int (nI q4_10)), (3, .int (nI q3_10)), (0, .ref (ad u)), (1, .int (nI cs)), (2, .ref (ad (mc + 1)))]) hx hb (dk1 dF_54 DX1_countsFor (i := 18) rfl rfl rfl) hl (by decide) rfl (fun ls hl => ?_)
        refine lv_aload_n hx hb (dkP dF_42 DX1_countsFor (i := 19) rfl rfl) rfl (lv_at hl 3 rfl) ?_
        refine z_gr C0 hw u 9 (u + 6) (fk_of (shl_nt_0 u hu) rfl) fl_X1_32 (dk2 dF_180 DX1_countsFor (i := 20) rfl rfl rfl) ?_
        refine lv_iload_n hx hb (dkP dF_29 DX1_countsFor (i := 21) rfl rfl) rfl (lv_at hl 2 rfl) ?_
        refine lv_iconst (v := 1) hx hb (dkP dF_4 DX1_countsFor (i := 22) rfl rfl) (by decide) ?_
        refine lv_iadd hx hb (dkP dF_96 DX1_countsFor (i := 23) rfl rfl) ?_
        refine z_top (y := nI (q3_10 + 1)) (by simp only [fa_lit, nI_add, pk_mul]) ?_
        refine lv_aload_n hx hb (dkP dF_44 DX1_countsFor (i := 24) rfl rfl) rfl (lv_at hl 5 rfl) ?_
        refine zk_I hw (zr_V (As := [.int (nI (q3_10 + 1)), .ref (ad (mc + 1))]) (rest := []) C0 (c_X8_valueAt_n l G kc ad σ (u + 6) (q3_10 + 1) mc (ntsn u hu) hmc hcj (by omega) hT _) cv_X8_valueAt lk_X1_77 (zp_V C0 hRo hw (u + 6) (shl_nt_6 u hu) rfl rfl) rfl hl.1 rfl ⟨by decide, by decide⟩ (Nat.le_of_ble_eq_true rfl) (dk2 dF_182 DX1_countsFor (i := 25) rfl rfl rfl) ⟨Nat.le_refl _, Nat.le_refl _⟩) (fun r4 s4 H locs hp hw => ?_)
        have hs4 := hp
        (rw [hs4] at hw)
        refine lv_istore (lv' := [(6, .int r4), (5, .int v3), (4, .int (nI q4_10)), (3, .int (nI q3_10)), (0, .ref (ad u)), (1, .int (nI cs)), (2, .ref (ad (mc + 1)))]) hx hb (dk1 dF_54 DX1_countsFor (i := 26) rfl rfl rfl) hl (by decide) rfl (fun ls hl => ?_)
        refine lv_iload hx hb (dk1 dF_21 DX1_countsFor (i := 27) rfl rfl rfl) (lv_at hl 0 rfl) ?_
        refine lv_iload hx hb (dk1 dF_21 DX1_countsFor (i := 28) rfl rfl rfl) (lv_at hl 1 rfl) ?_
        refine lv_bipush (v := 14) hx hb (dks dF_16 DX1_countsFor (i := 29) rfl rfl rfl) (by decide) ?_
        refine lv_ishr hx hb (dkP dF_122 DX1_countsFor (i := 30) rfl rfl) ?_
        refine lv_iload hx hb (dk1 dF_21 DX1_countsFor (i := 31) rfl rfl rfl) (lv_at hl 1 rfl) ?_
        refine lv_sipush (v := 16383) hx hb (dkS dF_17 DX1_countsFor (i := 32) rfl rfl rfl) (by decide) ?_
        refine lv_iand hx hb (dkP dF_126 DX1_countsFor (i := 33) rfl rfl) ?_
        refine zn_I hw (zr_S (As := [.int r4, .int (v3 >>> (14 &&& 31)), .int (v3 &&& 16383)]) (rest := []) C0 (c_X11_holds l G kc r4 (v3 >>> (14 &&& 31)) (v3 &&& 16383)  _) cs_X11_holds lk_X1_81 (zp_P C0 hRo hw a00 s00) rfl hl.1 rfl ⟨by decide, by decide⟩ (Nat.le_of_ble_eq_true rfl) (dk2 dF_184 DX1_countsFor (i := 34) rfl rfl rfl) ⟨Nat.le_refl _, Nat.le_refl _⟩) (fun r5 s5 H locs hp hw => ?_)
        rcases hp with rfl | rfl
        · skip
          refine lv_if_ne (tgt := 66) hx hb (dkS dF_154 DX1_countsFor (i := 35) rfl rfl rfl) (by decide) (fun h => absurd h (by decide)) (fun _ => ?_)
          refine lv_iconst (v := 0) hx hb (dkP dF_3 DX1_countsFor (i := 36) rfl rfl) (by decide) ?_
          exact z_zret C0 hr hlk (by decide) hw (⟨(Or.inr ⟨rfl, trivial⟩), rfl⟩) (dkP dF_172 DX1_countsFor (i := 37) rfl rfl)
        · skip
          refine lv_if_ne (tgt := 66) hx hb (dkS dF_154 DX1_countsFor (i := 35) rfl rfl rfl) (by decide) (fun _ => ?_) (fun h => absurd h (by decide))
          refine lv_aload_n hx hb (dkP dF_42 DX1_countsFor (i := 38) rfl rfl) rfl (lv_at hl 4 rfl) ?_
          refine z_gr C0 hw u 9 (u + 6) (fk_of (shl_nt_0 u hu) rfl) fl_X1_32 (dk2 dF_180 DX1_countsFor (i := 39) rfl rfl rfl) ?_
          refine lv_iload_n hx hb (dkP dF_29 DX1_countsFor (i := 40) rfl rfl) rfl (lv_at hl 3 rfl) ?_
          refine lv_iconst (v := 1) hx hb (dkP dF_4 DX1_countsFor (i := 41) rfl rfl) (by decide) ?_
          refine lv_iadd hx hb (dkP dF_96 DX1_countsFor (i := 42) rfl rfl) ?_
          refine z_top (y := nI (q3_10 + 1)) (by simp only [fa_lit, nI_add, pk_mul]) ?_
          refine zk_I hw (zr_V (As := [.int (nI (q3_10 + 1))]) (rest := []) C0 (c_X8_behind_n l G kc ad σ (u + 6) (q3_10 + 1) (ntsn u hu) hcj (by omega) hT _) cv_X8_behind lk_X1_85 (zp_V C0 hRo hw (u + 6) (shl_nt_6 u hu) rfl rfl) rfl hl.1 rfl ⟨by decide, by decide⟩ (Nat.le_of_ble_eq_true rfl) (dk2 dF_182 DX1_countsFor (i := 43) rfl rfl rfl) ⟨Nat.le_refl _, Nat.le_refl _⟩) (fun r6 s6 H locs hp hw => ?_)
          obtain ⟨f6_0, hs6⟩ := hp
          (rw [hs6] at hw)
          subst f6_0
          refine lv_istore_n (lv' := [(3, .int (nI (q3_10 + 1 + 2 + cj))), (6, .int r4), (5, .int v3), (4, .int (nI q4_10)), (0, .ref (ad u)), (1, .int (nI cs)), (2, .ref (ad (mc + 1)))]) hx hb (dkP dF_62 DX1_countsFor (i := 44) rfl rfl) rfl hl (by decide) rfl (fun ls hl => ?_)
          refine lv_iinc (v := nI (q4_10 + 1)) (lv' := [(4, .int (nI (q4_10 + 1))), (3, .int (nI (q3_10 + 1 + 2 + cj))), (6, .int r4), (5, .int v3), (0, .ref (ad u)), (1, .int (nI cs)), (2, .ref (ad (mc + 1)))]) hx hb (dkI DX1_countsFor (i := 45) rfl rfl rfl rfl) hl (k := 3) rfl (nI_1 _) (by decide) rfl (fun ls hl => ?_)
          refine lv_goto (tgt := 10) hx hb (dkS dF_167 DX1_countsFor (i := 46) rfl rfl rfl) (by decide) ?_
          exact ih1 (q4_10 + 1) (q3_10 + 1 + 2 + cj) _ _ _ (by omega) (by (try simp only [lg_cmp_lt, lg_cmp_le, lg_cmp_gt, lg_cmp_ge, lg_cmp_eq] at c2); (try simp (disch := omega) only [ta_lt, ta_le, ta_eq, tb_lt, tb_le, tb_eq, tw, tnI, tsub1, tsv, tsb32, tn32 1 (by decide), tnj 1 (by decide), tl32 0 (by decide), tl64 0 (by decide), tl32 1 (by decide), tl64 1 (by decide), tl32 14 (by decide), tl64 14 (by decide), tl32 16383 (by decide), tl64 16383 (by decide)] at c2); (try simp only [lg_cmp_lt, lg_cmp_le, lg_cmp_gt, lg_cmp_ge, lg_cmp_eq] at f6_0); (try simp (disch := omega) only [ta_lt, ta_le, ta_eq, tb_lt, tb_le, tb_eq, tw, tnI, tsub1, tsv, tsb32, tn32 1 (by decide), tnj 1 (by decide), tl32 0 (by decide), tl64 0 (by decide), tl32 1 (by decide), tl64 1 (by decide), tl32 14 (by decide), tl64 14 (by decide), tl32 16383 (by decide), tl64 16383 (by decide)] at f6_0); (try simp (disch := omega) only [ta_lt, ta_le, ta_eq, tb_lt, tb_le, tb_eq, tw, tnI, tsub1, tsv, tsb32, tn32 1 (by decide), tnj 1 (by decide), tl32 0 (by decide), tl64 0 (by decide), tl32 1 (by decide), tl64 1 (by decide), tl32 14 (by decide), tl64 14 (by decide), tl32 16383 (by decide), tl64 16383 (by decide)]); omega) (by (try simp only [lg_cmp_lt, lg_cmp_le, lg_cmp_gt, lg_cmp_ge, lg_cmp_eq] at c2); (try simp (disch := omega) only [ta_lt, ta_le, ta_eq, tb_lt, tb_le, tb_eq, tw, tnI, tsub1, tsv, tsb32, tn32 1 (by decide), tnj 1 (by decide), tl32 0 (by decide), tl64 0 (by decide), tl32 1 (by decide), tl64 1 (by decide), tl32 14 (by decide), tl64 14 (by decide), tl32 16383 (by decide), tl64 16383 (by decide)] at c2); (try simp only [lg_cmp_lt, lg_cmp_le, lg_cmp_gt, lg_cmp_ge, lg_cmp_eq] at f6_0); (try simp (disch := omega) only [ta_lt, ta_le, ta_eq, tb_lt, tb_le, tb_eq, tw, tnI, tsub1, tsv, tsb32, tn32 1 (by decide), tnj 1 (by decide), tl32 0 (by decide), tl64 0 (by decide), tl32 1 (by decide), tl64 1 (by decide), tl32 14 (by decide), tl64 14 (by decide), tl32 16383 (by decide), tl64 16383 (by decide)] at f6_0); (try simp (disch := omega) only [ta_lt, ta_le, ta_eq, tb_lt, tb_le, tb_eq, tw, tnI, tsub1, tsv, tsb32, tn32 1 (by decide), tnj 1 (by decide), tl32 0 (by decide), tl64 0 (by decide), tl32 1 (by decide), tl64 1 (by decide), tl32 14 (by decide), tl64 14 (by decide), tl32 16383 (by decide), tl64 16383 (by decide)]); omega) (by have e1 : k - (q4_10 + 1) = k - q4_10 - 1 := (by omega); have e2 : q3_10 + 1 + 2 + cj = q3_10 + 3 + cj := (by omega); rw [e1, e2]; exact hcn) hw (lv_sub hl [0, 1, 4, 5, 6] rfl)
  exact lp1 _ 0 a _ _ _ (Nat.lt_succ_self _) (by (try simp (disch := omega) only [ta_lt, ta_le, ta_eq, tb_lt, tb_le, tb_eq, tw, tnI, tsub1, tsv, tsb32, tn32 1 (by decide), tnj 1 (by decide), tl32 0 (by decide), tl64 0 (by decide), tl32 1 (by decide), tl64 1 (by decide), tl32 14 (by decide), tl64 14 (by decide), tl32 16383 (by decide), tl64 16383 (by decide)]); omega) (by (try simp (disch := omega) only [ta_lt, ta_le, ta_eq, tb_lt, tb_le, tb_eq, tw, tnI, tsub1, tsv, tsb32, tn32 1 (by decide), tnj 1 (by decide), tl32 0 (by decide), tl64 0 (by decide), tl32 1 (by decide), tl64 1 (by decide), tl32 14 (by decide), tl64 14 (by decide), tl32 16383 (by decide), tl64 16383 (by decide)]); omega) hca hw (lv_sub hl [0, 1, 2, 3, 4] rfl)
