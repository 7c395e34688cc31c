/-! the reference: drop (by program: wip/whole/gen/modM7.py) -/
def bc_S1 (i : Nat) (S : bc_F) : Prop := ∀ j, j < i → (j = 0 → S j ≠ 0) ∧ (j ≠ 0 → S j = 0)
theorem bc_S1_s {i : Nat} {S : bc_F} {x : Int32} (h : bc_S1 i S) (hx : (i = 0 → x ≠ 0) ∧ (i ≠ 0 → x = 0)) : bc_S1 (i + 1) (upd S i x) := by
  intro j hj
  by_cases c : j = i
  · subst c; rw [pk_us]; exact hx
  · rw [pk_un c]; exact h j (by omega)
theorem bc_i0 {i : Nat} (hi : i < 2 ^ 31) (h : ¬ nI i = 0) : i ≠ 0 := by
  intro z
  subst z
  exact h rfl
theorem bc_i1 {i : Nat} (hi : i < 2 ^ 31) (h : nI i = 0) : i = 0 := (nI_eq hi (by omega)).mp (h.trans nI_0.symm)
def bc_WI (n : Nat) (K : bc_F) (q : Nat → Nat) (A : bc_F) (u : Int32) : Prop :=
  (0 < n → A 0 ≠ 0) ∧ (∀ j, j < n → A j ≠ 0 → bc_sty n K q j) ∧ (u = 0 → ∀ j, j < n → A j ≠ 0 → ∀ t, bc_sc n K q j t → A t ≠ 0)
theorem bc_WI_0 {n : Nat} {K : bc_F} {q : Nat → Nat} {A : bc_F} (h : bc_S1 n A) : bc_WI n K q A 1 := by
  refine ⟨fun z => (h 0 z).1 rfl, fun j hj hA => ?_, fun z => absurd z (by decide)⟩
  by_cases c : j = 0
  · subst c; exact bc_sty_0 hj
  · exact absurd ((h j hj).2 c) hA
theorem bc_WI_MI {n : Nat} {K : bc_F} {q : Nat → Nat} {A : bc_F} {u : Int32} (h : bc_WI n K q A u) : bc_MI n K q (bc_ct A n) 0 A 0 :=
  ⟨h.1, h.2.1, fun _ j hj => absurd hj (Nat.not_lt_zero j), Nat.le_refl _, fun z => absurd rfl z⟩
theorem bc_MI_WI {n c0 : Nat} {K : bc_F} {q : Nat → Nat} {A : bc_F} {u : Int32} (h : bc_MI n K q c0 n A u) : bc_WI n K q A u :=
  ⟨h.1, h.2.1, fun z j hj hA t hs => h.2.2.1 z j hj hj hA t hs⟩
theorem bc_MI_ms {n c0 : Nat} {K : bc_F} {q : Nat → Nat} {A : bc_F} {u w : Int32} (h : bc_MI n K q c0 n A u) (hw : ¬ w = 0) : 2 * (n - bc_ct A n) + (if u = 0 then 0 else 1) < 2 * (n - c0) + (if w = 0 then 0 else 1) := by
  have h1 := bc_ct_le A n
  refine bc_meas (by have := h.2.2.2.1; omega) (fun z => ?_) hw
  have := h.2.2.2.2 z
  omega
theorem bc_tq {n t t0 : Nat} {x : Int32} (hn : n ≤ 40) (ht0 : t0 ≤ 40) (eT : x = nI t0) (e : t = bc_tn n x) (hlt : t < n) : t = t0 := by
  subst eT
  unfold bc_tn at e
  rw [nI_clamp (by omega)] at e
  by_cases c : t0 < n
  · rw [if_pos c] at e; exact e
  · rw [if_neg c] at e; omega
theorem bc_nIe {a b : Nat} (ha : a ≤ 40) (hb : b ≤ 40) (h : nI a = nI b) : a = b := (nI_eq (by omega) (by omega)).mp h
set_option maxHeartbeats 4000000 in
set_option maxRecDepth 100000 in
/-- DROP -/
theorem co_M_drop {l : Launch} {dC : Nat → ClassId} {dI : Nat → Nat → Nat} {cI cZ : ClassId} {sz : Nat} {m0 r1 r2 r3 r4 r5 r6 r7 r8 r9 r10 r11 r12 r13 r14 r15 r16 : Nat} {K T Sz St : bc_F} {fa rw gw : Int32} {n : Nat} (hn : n ≤ 40) (hSz : Sz 0 = nI n) (htr : ∀ j, j < n → bc_gs (K (40 + j)) → bc_tr (T (40 + j))) : Met l yn_M_drop (Cond.code yn_M_drop by_M_drop 5 none :: wd_all) ({ frames := 1, cells := 0, slots := 0, locals := 22 } : Room) (bc_Pre (dC, dI) classes [(cI, .int), (cZ, .boolean)] [.ref m0] [(m0, .inr (5, [.int fa, .ref r1, .ref r2, .ref r3, .ref r4, .ref r5, .int rw, .ref r6, .ref r7, .ref r8, .int gw, .ref r9, .ref r10, .ref r11, .ref r12, .ref r13, .ref r14, .ref r15, .ref r16])), (r1, .inl (cI, 80, .inl K)), (r3, .inl (cI, 80, .inl T)), (r5, .inl (cI, 2, .inl Sz)), (r11, .inl (cZ, 41, .inl St))] sz) (va_Qv (fun (u : bc_F × Int32) => ∃ A : bc_F, (∀ j, j < n → (A j ≠ 0 ↔ bc_sty n (fun j => K (40 + j)) (fun j => bc_tn n (T (40 + j))) j)) ∧ ∀ i, i < n → bc_DJ n (fun j => K (40 + j)) (fun j => bc_tn n (T (40 + j))) A u.1 i) (fun (u : bc_F × Int32) t => bc_B (dC, dI) classes [(cI, .int), (cZ, .boolean)] (va_A [(m0, .inr (5, [.int fa, .ref r1, .ref r2, .ref r3, .ref r4, .ref r5, .int rw, .ref r6, .ref r7, .ref r8, .int gw, .ref r9, .ref r10, .ref r11, .ref r12, .ref r13, .ref r14, .ref r15, .ref r16])), (r1, .inl (cI, 80, .inl K)), (r3, .inl (cI, 80, .inl T)), (r5, .inl (cI, 2, .inl Sz)), (r11, .inl (cZ, 41, .inl St))] sz) [(m0, .inr (5, [.int fa, .ref r1, .ref r2, .ref r3, .ref r4, .ref r5, .int rw, .ref r6, .ref r7, .ref r8, .int u.2, .ref r9, .ref r10, .ref r11, .ref r12, .ref r13, .ref r14, .ref r15, .ref r16])), (r1, .inl (cI, 80, .inl K)), (r3, .inl (cI, 80, .inl T)), (r5, .inl (cI, 2, .inl Sz)), (r11, .inl (cZ, 41, .inl u.1))] t) ((va_A [(m0, .inr (5, [.int fa, .ref r1, .ref r2, .ref r3, .ref r4, .ref r5, .int rw, .ref r6, .ref r7, .ref r8, .int gw, .ref r9, .ref r10, .ref r11, .ref r12, .ref r13, .ref r14, .ref r15, .ref r16])), (r1, .inl (cI, 80, .inl K)), (r3, .inl (cI, 80, .inl T)), (r5, .inl (cI, 2, .inl Sz)), (r11, .inl (cZ, 41, .inl St))] sz))) 0 0 (va_A [(m0, .inr (5, [.int fa, .ref r1, .ref r2, .ref r3, .ref r4, .ref r5, .int rw, .ref r6, .ref r7, .ref r8, .int gw, .ref r9, .ref r10, .ref r11, .ref r12, .ref r13, .ref r14, .ref r15, .ref r16])), (r1, .inl (cI, 80, .inl K)), (r3, .inl (cI, 80, .inl T)), (r5, .inl (cI, 2, .inl Sz)), (r11, .inl (cZ, 41, .inl St))] sz) := by
  refine bc_met (fun A => va_Qv (fun (u : bc_F × Int32) => ∃ A : bc_F, (∀ j, j < n → (A j ≠ 0 ↔ bc_sty n (fun j => K (40 + j)) (fun j => bc_tn n (T (40 + j))) j)) ∧ ∀ i, i < n → bc_DJ n (fun j => K (40 + j)) (fun j => bc_tn n (T (40 + j))) A u.1 i) (fun (u : bc_F × Int32) t => bc_B (dC, dI) classes [(cI, .int), (cZ, .boolean)] A [(m0, .inr (5, [.int fa, .ref r1, .ref r2, .ref r3, .ref r4, .ref r5, .int rw, .ref r6, .ref r7, .ref r8, .int u.2, .ref r9, .ref r10, .ref r11, .ref r12, .ref r13, .ref r14, .ref r15, .ref r16])), (r1, .inl (cI, 80, .inl K)), (r3, .inl (cI, 80, .inl T)), (r5, .inl (cI, 2, .inl Sz)), (r11, .inl (cZ, 41, .inl u.1))] t) A) (by decide) (Nat.le_of_ble_eq_true rfl) ?_
  intro p e s m args below meth c A ls F hr hlocks hin hA hP hD hl hS
  have hx := F.1
  have hb := F.2.1
  have hml := F.2.2.1
  have hown : s.vm.findClass "BranchConstantsModel" = some m.cls := F.2.2.2.1
  have htw := F.2.2.2.2.1
  have hN := F.2.2.2.2.2.1
  have hK := F.2.2.2.2.2.2
  have hl : lv_has ls 5 [(0, .ref m0)] := hl
  refine lv_aload_n hx hb de_M_drop_0 rfl (lv_at hl 0 rfl) ?_
  refine va_get (D := (dC, dI)) (ci := 5) (v := .ref r5) (C := rc_M) (T := fc_M) (N := 19) hx hb htw wi_M hown hK hP 0 rfl rfl 5 (by decide) (htw _ wm_428) (fun _ h9 => h9) rfl de_M_drop_1 ?_
  refine lv_iconst (v := 0) hx hb de_M_drop_4 (by decide) ?_
  refine bc_ildE (by decide) (j := 0) hx hb hK hP 3 0 rfl rfl (by omega) (by decide) de_M_drop_5 ?_
  refine bc_ti (y := nI n) hSz ?_
  refine lv_istore_n (lv' := [(1, .int (nI n)), (0, .ref m0)]) hx hb de_M_drop_6 rfl hl (by decide) rfl (fun ls hl => ?_)
  refine lv_iconst (v := 0) hx hb de_M_drop_7 (by decide) ?_
  refine bc_ti (y := nI 0) nI_0.symm ?_
  refine lv_istore_n (lv' := [(2, .int (nI 0)), (1, .int (nI n)), (0, .ref m0)]) hx hb de_M_drop_8 rfl hl (by decide) rfl (fun ls hl => ?_)
  refine bc_loop (fun k_9 H locs ls => ∃ (i : Nat) (S1 : bc_F), lv_has ls 5 [(2, .int (nI i)), (1, .int (nI n)), (0, .ref m0)] ∧ va_P (dC, dI) classes [(m0, .inr (5, [.int fa, .ref r1, .ref r2, .ref r3, .ref r4, .ref r5, .int rw, .ref r6, .ref r7, .ref r8, .int gw, .ref r9, .ref r10, .ref r11, .ref r12, .ref r13, .ref r14, .ref r15, .ref r16])), (r1, .inl (cI, 80, .inl K)), (r3, .inl (cI, 80, .inl T)), (r5, .inl (cI, 2, .inl Sz)), (r11, .inl (cZ, 41, .inl S1))] H ∧ va_D A [(m0, .inr (5, [.int fa, .ref r1, .ref r2, .ref r3, .ref r4, .ref r5, .int rw, .ref r6, .ref r7, .ref r8, .int gw, .ref r9, .ref r10, .ref r11, .ref r12, .ref r13, .ref r14, .ref r15, .ref r16])), (r1, .inl (cI, 80, .inl K)), (r3, .inl (cI, 80, .inl T)), (r5, .inl (cI, 2, .inl Sz)), (r11, .inl (cZ, 41, .inl S1))] ∧ va_S A s.heap H locs ∧ k_9 = n - i ∧ (i ≤ n) ∧ (bc_S1 i S1)) ?_ ?_
  · rintro k_9 H locs ls ⟨i, S1, hl, hP, hD, hS, hk_9, hi, hS1⟩ ih_9
    refine lv_iload_n hx hb de_M_drop_9 rfl (lv_at hl 0 rfl) ?_
    refine lv_iload_n hx hb de_M_drop_10 rfl (lv_at hl 1 rfl) ?_
    refine lv_icmp_ge (tgt := 35) hx hb de_M_drop_11 (by decide) (fun hc_11 => ?_) (fun hc_11 => ?_)
    · have heq : i = n := by have := bc_ge (by omega) (by omega) hc_11; omega
      rw [heq] at hS1
      refine lv_aload_n hx hb de_M_drop_35 rfl (lv_at hl 2 rfl) ?_
      refine lv_iconst (v := 1) hx hb de_M_drop_36 (by decide) ?_
      refine va_put (D := (dC, dI)) (ci := 5) (v := .int 1) (ty := .boolean) (C := rc_M) (T := fc_M) (N := 19) hx hb htw wi_M tc_M tc_M_ok nc_M hown hK hP hD hS 0 rfl rfl 10 (by decide) (htw _ wm_433) (fun _ h9 => h9) rfl (by decide +kernel) rfl rfl (Nat.le_of_ble_eq_true rfl) de_M_drop_37 (fun H locs hP hD hS => ?_)
      have hP : va_P (dC, dI) classes [(m0, .inr (5, [.int fa, .ref r1, .ref r2, .ref r3, .ref r4, .ref r5, .int rw, .ref r6, .ref r7, .ref r8, .int 1, .ref r9, .ref r10, .ref r11, .ref r12, .ref r13, .ref r14, .ref r15, .ref r16])), (r1, .inl (cI, 80, .inl K)), (r3, .inl (cI, 80, .inl T)), (r5, .inl (cI, 2, .inl Sz)), (r11, .inl (cZ, 41, .inl S1))] H := hP
      have hD : va_D A [(m0, .inr (5, [.int fa, .ref r1, .ref r2, .ref r3, .ref r4, .ref r5, .int rw, .ref r6, .ref r7, .ref r8, .int 1, .ref r9, .ref r10, .ref r11, .ref r12, .ref r13, .ref r14, .ref r15, .ref r16])), (r1, .inl (cI, 80, .inl K)), (r3, .inl (cI, 80, .inl T)), (r5, .inl (cI, 2, .inl Sz)), (r11, .inl (cZ, 41, .inl S1))] := hD
      refine bc_loop (fun k_40 H locs ls => ∃ (S2 : bc_F) (w2 : Int32), lv_has ls 5 [(1, .int (nI n)), (0, .ref m0)] ∧ va_P (dC, dI) classes [(m0, .inr (5, [.int fa, .ref r1, .ref r2, .ref r3, .ref r4, .ref r5, .int rw, .ref r6, .ref r7, .ref r8, .int w2, .ref r9, .ref r10, .ref r11, .ref r12, .ref r13, .ref r14, .ref r15, .ref r16])), (r1, .inl (cI, 80, .inl K)), (r3, .inl (cI, 80, .inl T)), (r5, .inl (cI, 2, .inl Sz)), (r11, .inl (cZ, 41, .inl S2))] H ∧ va_D A [(m0, .inr (5, [.int fa, .ref r1, .ref r2, .ref r3, .ref r4, .ref r5, .int rw, .ref r6, .ref r7, .ref r8, .int w2, .ref r9, .ref r10, .ref r11, .ref r12, .ref r13, .ref r14, .ref r15, .ref r16])), (r1, .inl (cI, 80, .inl K)), (r3, .inl (cI, 80, .inl T)), (r5, .inl (cI, 2, .inl Sz)), (r11, .inl (cZ, 41, .inl S2))] ∧ va_S A s.heap H locs ∧ k_40 = 2 * (n - bc_ct S2 n) + (if w2 = 0 then 0 else 1) ∧ (bc_WI n (fun j => K (40 + j)) (fun j => bc_tn n (T (40 + j))) S2 w2)) ?_ ?_
      · rintro k_40 H locs ls ⟨S2, w2, hl, hP, hD, hS, hk_40, hWI⟩ ih_40
        refine lv_aload_n hx hb de_M_drop_40 rfl (lv_at hl 1 rfl) ?_
        refine va_get (D := (dC, dI)) (ci := 5) (v := .int w2) (C := rc_M) (T := fc_M) (N := 19) hx hb htw wi_M hown hK hP 0 rfl rfl 10 (by decide) (htw _ wm_433) (fun _ h9 => h9) rfl de_M_drop_41 ?_
        refine lv_if_eq (tgt := 142) hx hb de_M_drop_44 (by decide) (fun hc_44 => ?_) (fun hc_44 => ?_)
        · refine lv_iload_n hx hb de_M_drop_142 rfl (lv_at hl 0 rfl) ?_
          refine lv_iconst (v := 1) hx hb de_M_drop_143 (by decide) ?_
          refine lv_isub hx hb de_M_drop_144 ?_
          refine lv_istore_n (lv' := [(2, .int ((nI n) - 1)), (1, .int (nI n)), (0, .ref m0)]) hx hb de_M_drop_145 rfl hl (by decide) rfl (fun ls hl => ?_)
          refine bc_loop (fun k_146 H locs ls => ∃ (k : Nat) (x : Nat) (B1 : bc_F), lv_has ls 5 [(2, .int (nI k - 1)), (1, .int (nI n)), (0, .ref m0)] ∧ va_P (dC, dI) classes [(m0, .inr (5, [.int fa, .ref r1, .ref r2, .ref r3, .ref r4, .ref r5, .int rw, .ref r6, .ref r7, .ref r8, .int w2, .ref r9, .ref r10, .ref r11, .ref r12, .ref r13, .ref r14, .ref r15, .ref r16])), (r1, .inl (cI, 80, .inl K)), (r3, .inl (cI, 80, .inl T)), (r5, .inl (cI, 2, .inl Sz)), (r11, .inl (cZ, 41, .inl B1))] H ∧ va_D A [(m0, .inr (5, [.int fa, .ref r1, .ref r2, .ref r3, .ref r4, .ref r5, .int rw, .ref r6, .ref r7, .ref r8, .int w2, .ref r9, .ref r10, .ref r11, .ref r12, .ref r13, .ref r14, .ref r15, .ref r16])), (r1, .inl (cI, 80, .inl K)), (r3, .inl (cI, 80, .inl T)), (r5, .inl (cI, 2, .inl Sz)), (r11, .inl (cZ, 41, .inl B1))] ∧ va_S A s.heap H locs ∧ k_146 = k ∧ (bc_DI n (fun j => K (40 + j)) (fun j => bc_tn n (T (40 + j))) S2 k x B1)) ?_ ?_
          · rintro k_146 H locs ls ⟨k, x, B1, hl, hP, hD, hS, hk_146, hD9⟩ ih_146
            refine lv_iload_n hx hb de_M_drop_146 rfl (lv_at hl 0 rfl) ?_
            refine lv_if_lt (tgt := 228) hx hb de_M_drop_147 (by decide) (fun hc_147 => ?_) (fun hc_147 => ?_)
            · have hk0 : k = 0 := bc_km0 (by have := hD9.2.2.2; omega) hc_147
              exact bc_vret F hr hlocks ((B1, w2)) ⟨S2, bc_sty_of hWI.1 hWI.2.1 (fun i t hi hA hs => hWI.2.2 hc_44 i hi hA t hs), fun i hi => hD9.1 i (by omega) hi⟩ hP hD hS de_M_drop_228
            · obtain ⟨j, rfl⟩ := bc_km1 hc_147
              have hjn : j < n := by have := hD9.2.2.2; omega
              rw [nI_pred] at hl
              refine lv_aload_n hx hb de_M_drop_150 rfl (lv_at hl 2 rfl) ?_
              refine lv_iload_n hx hb de_M_drop_151 rfl (lv_at hl 0 rfl) ?_
              refine lv_iconst (v := 1) hx hb de_M_drop_152 (by decide) ?_
              refine lv_iadd hx hb de_M_drop_153 ?_
              refine bc_ti (y := nI (j + 1)) (nI_add j 1) ?_
              refine bc_call_v_i (As := [.int (nI (j + 1))]) (rest := []) (wr := [(r1, .inl (cI, 80, .inl K)), (r3, .inl (cI, 80, .inl T))]) F (co_M_nextStaying (f := j + 1) hn (by omega) hSz) wm_551 wm_6 wm_549 wm_550 wm_644 0 rfl rfl pd_M_nextStaying rfl rfl ⟨Nat.le_of_ble_eq_true rfl, Nat.le_of_ble_eq_true rfl⟩ hP hD hS hA [0, 3, 4] [1, 2] rfl rfl rfl rfl (by decide) rfl hl.1 rfl (Nat.le_of_ble_eq_true rfl) de_M_drop_154 ⟨Nat.le_of_ble_eq_true rfl, Nat.le_of_ble_eq_true rfl⟩ (fun r_154 u_154 H locs hw_154 hP hD hS => ?_)
              obtain ⟨x9, e9, hx9⟩ := hw_154
              have hw_154 : r_154 = nI x := e9.trans (congrArg nI (bc_nx_uniq hx9 hD9.2.2.1))
              have hP : va_P (dC, dI) classes [(m0, .inr (5, [.int fa, .ref r1, .ref r2, .ref r3, .ref r4, .ref r5, .int rw, .ref r6, .ref r7, .ref r8, .int w2, .ref r9, .ref r10, .ref r11, .ref r12, .ref r13, .ref r14, .ref r15, .ref r16])), (r1, .inl (cI, 80, .inl K)), (r3, .inl (cI, 80, .inl T)), (r5, .inl (cI, 2, .inl Sz)), (r11, .inl (cZ, 41, .inl B1))] H := hP.sub [2, 0, 1, 3, 4] rfl
              have hD : va_D A [(m0, .inr (5, [.int fa, .ref r1, .ref r2, .ref r3, .ref r4, .ref r5, .int rw, .ref r6, .ref r7, .ref r8, .int w2, .ref r9, .ref r10, .ref r11, .ref r12, .ref r13, .ref r14, .ref r15, .ref r16])), (r1, .inl (cI, 80, .inl K)), (r3, .inl (cI, 80, .inl T)), (r5, .inl (cI, 2, .inl Sz)), (r11, .inl (cZ, 41, .inl B1))] := hD.sub [2, 0, 1, 3, 4] (by decide) rfl
              subst hw_154
              refine lv_istore_n (lv' := [(3, .int (nI x)), (2, .int (nI j)), (1, .int (nI n)), (0, .ref m0)]) hx hb de_M_drop_157 rfl hl (by decide) rfl (fun ls hl => ?_)
              refine lv_aload_n hx hb de_M_drop_158 rfl (lv_at hl 3 rfl) ?_
              refine va_get (D := (dC, dI)) (ci := 5) (v := .ref r3) (C := rc_M) (T := fc_M) (N := 19) hx hb htw wi_M hown hK hP 0 rfl rfl 3 (by decide) (htw _ wm_426) (fun _ h9 => h9) rfl de_M_drop_159 ?_
              refine lv_bipush (v := 40) hx hb de_M_drop_162 (by decide) ?_
              refine lv_iload_n hx hb de_M_drop_164 rfl (lv_at hl 1 rfl) ?_
              refine lv_iadd hx hb de_M_drop_165 ?_
              refine bc_ti (y := nI (40 + j)) (nI_add 40 j) ?_
              refine bc_ild (j := 40 + j) hx hb hK hP 2 0 rfl rfl (by omega) (by decide) de_M_drop_166 ?_
              refine lv_iload_n hx hb de_M_drop_167 rfl (lv_at hl 2 rfl) ?_
              refine lv_icmp_ge (tgt := 183) hx hb de_M_drop_168 (by decide) (fun hc_168 => ?_) (fun hc_168 => ?_)
              · refine lv_iload_n hx hb de_M_drop_183 rfl (lv_at hl 2 rfl) ?_
                refine lv_istore (lv' := [(4, .int (nI n)), (3, .int (nI x)), (2, .int (nI j)), (1, .int (nI n)), (0, .ref m0)]) hx hb de_M_drop_184 hl (by decide) rfl (fun ls hl => ?_)
                refine lv_aload_n hx hb de_M_drop_186 rfl (lv_at hl 4 rfl) ?_
                refine va_get (D := (dC, dI)) (ci := 5) (v := .ref r11) (C := rc_M) (T := fc_M) (N := 19) hx hb htw wi_M hown hK hP 0 rfl rfl 13 (by decide) (htw _ wm_436) (fun _ h9 => h9) rfl de_M_drop_187 ?_
                refine lv_iload_n hx hb de_M_drop_190 rfl (lv_at hl 2 rfl) ?_
                refine bc_zld (j := j) hx hb hK hP 4 1 rfl rfl (by omega) (by decide) de_M_drop_191 ?_
                refine lv_if_eq (tgt := 222) hx hb de_M_drop_192 (by decide) (fun hc_192 => ?_) (fun hc_192 => ?_)
                · refine lv_iinc (k := 2) (v := nI j - 1) (lv' := [(2, .int (nI j - 1)), (4, .int (nI n)), (3, .int (nI x)), (1, .int (nI n)), (0, .ref m0)]) hx hb de_M_drop_222 hl rfl (bc_dec1 _) (by decide) rfl (fun ls hl => ?_)
                  refine lv_goto (tgt := 146) hx hb de_M_drop_225 (by decide) ?_
                  exact ih_146 _ _ _ _ (by omega) ⟨j, x, B1, lv_sub hl [0, 3, 4] rfl, hP, hD, hS, rfl, bc_DI_c hD9 hc_192⟩
                · refine lv_aload_n hx hb de_M_drop_195 rfl (lv_at hl 4 rfl) ?_
                  refine va_get (D := (dC, dI)) (ci := 5) (v := .ref r1) (C := rc_M) (T := fc_M) (N := 19) hx hb htw wi_M hown hK hP 0 rfl rfl 1 (by decide) (htw _ wm_424) (fun _ h9 => h9) rfl de_M_drop_196 ?_
                  refine lv_bipush (v := 40) hx hb de_M_drop_199 (by decide) ?_
                  refine lv_iload_n hx hb de_M_drop_201 rfl (lv_at hl 2 rfl) ?_
                  refine lv_iadd hx hb de_M_drop_202 ?_
                  refine bc_ti (y := nI (40 + j)) (nI_add 40 j) ?_
                  refine bc_ild (j := 40 + j) hx hb hK hP 1 0 rfl rfl (by omega) (by decide) de_M_drop_203 ?_
                  refine lv_bipush (v := 6) hx hb de_M_drop_204 (by decide) ?_
                  refine lv_icmp_ne (tgt := 222) hx hb de_M_drop_206 (by decide) (fun hc_206 => ?_) (fun hc_206 => ?_)
                  · refine lv_iinc (k := 2) (v := nI j - 1) (lv' := [(2, .int (nI j - 1)), (4, .int (nI n)), (3, .int (nI x)), (1, .int (nI n)), (0, .ref m0)]) hx hb de_M_drop_222 hl rfl (bc_dec1 _) (by decide) rfl (fun ls hl => ?_)
                    refine lv_goto (tgt := 146) hx hb de_M_drop_225 (by decide) ?_
                    exact ih_146 _ _ _ _ (by omega) ⟨j, j, B1, lv_sub hl [0, 3, 4] rfl, hP, hD, hS, rfl, bc_DI_b hD9 hc_192 (fun z => hc_206 z.1)⟩
                  · refine lv_iload hx hb de_M_drop_209 (lv_at hl 0 rfl) ?_
                    refine lv_iload_n hx hb de_M_drop_211 rfl (lv_at hl 1 rfl) ?_
                    refine lv_icmp_ne (tgt := 222) hx hb de_M_drop_212 (by decide) (fun hc_212 => ?_) (fun hc_212 => ?_)
                    · refine lv_iinc (k := 2) (v := nI j - 1) (lv' := [(2, .int (nI j - 1)), (4, .int (nI n)), (3, .int (nI x)), (1, .int (nI n)), (0, .ref m0)]) hx hb de_M_drop_222 hl rfl (bc_dec1 _) (by decide) rfl (fun ls hl => ?_)
                      refine lv_goto (tgt := 146) hx hb de_M_drop_225 (by decide) ?_
                      exact ih_146 _ _ _ _ (by omega) ⟨j, j, B1, lv_sub hl [0, 3, 4] rfl, hP, hD, hS, rfl, bc_DI_b hD9 hc_192 (fun z => hc_212 ((bc_tn_ge (by omega) (htr j hjn (Or.inl hc_206)) hc_168).trans (congrArg nI z.2)))⟩
                    · refine lv_aload_n hx hb de_M_drop_215 rfl (lv_at hl 4 rfl) ?_
                      refine va_get (D := (dC, dI)) (ci := 5) (v := .ref r11) (C := rc_M) (T := fc_M) (N := 19) hx hb htw wi_M hown hK hP 0 rfl rfl 13 (by decide) (htw _ wm_436) (fun _ h9 => h9) rfl de_M_drop_216 ?_
                      refine lv_iload_n hx hb de_M_drop_219 rfl (lv_at hl 2 rfl) ?_
                      refine lv_iconst (v := 0) hx hb de_M_drop_220 (by decide) ?_
                      refine bc_zst (j := j) hx hb hK hP hD hS 4 1 rfl rfl (by decide) (by omega) (by decide) de_M_drop_221 (fun H locs hP hD hS => ?_)
                      have hP : va_P (dC, dI) classes [(m0, .inr (5, [.int fa, .ref r1, .ref r2, .ref r3, .ref r4, .ref r5, .int rw, .ref r6, .ref r7, .ref r8, .int w2, .ref r9, .ref r10, .ref r11, .ref r12, .ref r13, .ref r14, .ref r15, .ref r16])), (r1, .inl (cI, 80, .inl K)), (r3, .inl (cI, 80, .inl T)), (r5, .inl (cI, 2, .inl Sz)), (r11, .inl (cZ, 41, .inl (upd B1 j 0)))] H := hP
                      have hD : va_D A [(m0, .inr (5, [.int fa, .ref r1, .ref r2, .ref r3, .ref r4, .ref r5, .int rw, .ref r6, .ref r7, .ref r8, .int w2, .ref r9, .ref r10, .ref r11, .ref r12, .ref r13, .ref r14, .ref r15, .ref r16])), (r1, .inl (cI, 80, .inl K)), (r3, .inl (cI, 80, .inl T)), (r5, .inl (cI, 2, .inl Sz)), (r11, .inl (cZ, 41, .inl (upd B1 j 0)))] := hD
                      refine lv_iinc (k := 2) (v := nI j - 1) (lv' := [(2, .int (nI j - 1)), (4, .int (nI n)), (3, .int (nI x)), (1, .int (nI n)), (0, .ref m0)]) hx hb de_M_drop_222 hl rfl (bc_dec1 _) (by decide) rfl (fun ls hl => ?_)
                      refine lv_goto (tgt := 146) hx hb de_M_drop_225 (by decide) ?_
                      exact ih_146 _ _ _ _ (by omega) ⟨j, x, upd B1 j 0, lv_sub hl [0, 3, 4] rfl, hP, hD, hS, rfl, bc_DI_a hD9 hc_192 hc_206 (bc_nIe (by have := bc_tn_le n (T (40 + j)); omega) (by have := hD9.2.2.1.2.1; omega) ((bc_tn_ge (by omega) (htr j hjn (Or.inl hc_206)) hc_168).symm.trans hc_212))⟩
              · refine lv_aload_n hx hb de_M_drop_171 rfl (lv_at hl 3 rfl) ?_
                refine va_get (D := (dC, dI)) (ci := 5) (v := .ref r3) (C := rc_M) (T := fc_M) (N := 19) hx hb htw wi_M hown hK hP 0 rfl rfl 3 (by decide) (htw _ wm_426) (fun _ h9 => h9) rfl de_M_drop_172 ?_
                refine lv_bipush (v := 40) hx hb de_M_drop_175 (by decide) ?_
                refine lv_iload_n hx hb de_M_drop_177 rfl (lv_at hl 1 rfl) ?_
                refine lv_iadd hx hb de_M_drop_178 ?_
                refine bc_ti (y := nI (40 + j)) (nI_add 40 j) ?_
                refine bc_ild (j := 40 + j) hx hb hK hP 2 0 rfl rfl (by omega) (by decide) de_M_drop_179 ?_
                refine lv_goto (tgt := 184) hx hb de_M_drop_180 (by decide) ?_
                refine lv_istore (lv' := [(4, .int (T (40 + j))), (3, .int (nI x)), (2, .int (nI j)), (1, .int (nI n)), (0, .ref m0)]) hx hb de_M_drop_184 hl (by decide) rfl (fun ls hl => ?_)
                refine lv_aload_n hx hb de_M_drop_186 rfl (lv_at hl 4 rfl) ?_
                refine va_get (D := (dC, dI)) (ci := 5) (v := .ref r11) (C := rc_M) (T := fc_M) (N := 19) hx hb htw wi_M hown hK hP 0 rfl rfl 13 (by decide) (htw _ wm_436) (fun _ h9 => h9) rfl de_M_drop_187 ?_
                refine lv_iload_n hx hb de_M_drop_190 rfl (lv_at hl 2 rfl) ?_
                refine bc_zld (j := j) hx hb hK hP 4 1 rfl rfl (by omega) (by decide) de_M_drop_191 ?_
                refine lv_if_eq (tgt := 222) hx hb de_M_drop_192 (by decide) (fun hc_192 => ?_) (fun hc_192 => ?_)
                · refine lv_iinc (k := 2) (v := nI j - 1) (lv' := [(2, .int (nI j - 1)), (4, .int (T (40 + j))), (3, .int (nI x)), (1, .int (nI n)), (0, .ref m0)]) hx hb de_M_drop_222 hl rfl (bc_dec1 _) (by decide) rfl (fun ls hl => ?_)
                  refine lv_goto (tgt := 146) hx hb de_M_drop_225 (by decide) ?_
                  exact ih_146 _ _ _ _ (by omega) ⟨j, x, B1, lv_sub hl [0, 3, 4] rfl, hP, hD, hS, rfl, bc_DI_c hD9 hc_192⟩
                · refine lv_aload_n hx hb de_M_drop_195 rfl (lv_at hl 4 rfl) ?_
                  refine va_get (D := (dC, dI)) (ci := 5) (v := .ref r1) (C := rc_M) (T := fc_M) (N := 19) hx hb htw wi_M hown hK hP 0 rfl rfl 1 (by decide) (htw _ wm_424) (fun _ h9 => h9) rfl de_M_drop_196 ?_
                  refine lv_bipush (v := 40) hx hb de_M_drop_199 (by decide) ?_
                  refine lv_iload_n hx hb de_M_drop_201 rfl (lv_at hl 2 rfl) ?_
                  refine lv_iadd hx hb de_M_drop_202 ?_
                  refine bc_ti (y := nI (40 + j)) (nI_add 40 j) ?_
                  refine bc_ild (j := 40 + j) hx hb hK hP 1 0 rfl rfl (by omega) (by decide) de_M_drop_203 ?_
                  refine lv_bipush (v := 6) hx hb de_M_drop_204 (by decide) ?_
                  refine lv_icmp_ne (tgt := 222) hx hb de_M_drop_206 (by decide) (fun hc_206 => ?_) (fun hc_206 => ?_)
                  · refine lv_iinc (k := 2) (v := nI j - 1) (lv' := [(2, .int (nI j - 1)), (4, .int (T (40 + j))), (3, .int (nI x)), (1, .int (nI n)), (0, .ref m0)]) hx hb de_M_drop_222 hl rfl (bc_dec1 _) (by decide) rfl (fun ls hl => ?_)
                    refine lv_goto (tgt := 146) hx hb de_M_drop_225 (by decide) ?_
                    exact ih_146 _ _ _ _ (by omega) ⟨j, j, B1, lv_sub hl [0, 3, 4] rfl, hP, hD, hS, rfl, bc_DI_b hD9 hc_192 (fun z => hc_206 z.1)⟩
                  · refine lv_iload hx hb de_M_drop_209 (lv_at hl 0 rfl) ?_
                    refine lv_iload_n hx hb de_M_drop_211 rfl (lv_at hl 1 rfl) ?_
                    refine lv_icmp_ne (tgt := 222) hx hb de_M_drop_212 (by decide) (fun hc_212 => ?_) (fun hc_212 => ?_)
                    · refine lv_iinc (k := 2) (v := nI j - 1) (lv' := [(2, .int (nI j - 1)), (4, .int (T (40 + j))), (3, .int (nI x)), (1, .int (nI n)), (0, .ref m0)]) hx hb de_M_drop_222 hl rfl (bc_dec1 _) (by decide) rfl (fun ls hl => ?_)
                      refine lv_goto (tgt := 146) hx hb de_M_drop_225 (by decide) ?_
                      exact ih_146 _ _ _ _ (by omega) ⟨j, j, B1, lv_sub hl [0, 3, 4] rfl, hP, hD, hS, rfl, bc_DI_b hD9 hc_192 (fun z => hc_212 ((bc_tn_lt (by omega) (htr j hjn (Or.inl hc_206)) hc_168).trans (congrArg nI z.2)))⟩
                    · refine lv_aload_n hx hb de_M_drop_215 rfl (lv_at hl 4 rfl) ?_
                      refine va_get (D := (dC, dI)) (ci := 5) (v := .ref r11) (C := rc_M) (T := fc_M) (N := 19) hx hb htw wi_M hown hK hP 0 rfl rfl 13 (by decide) (htw _ wm_436) (fun _ h9 => h9) rfl de_M_drop_216 ?_
                      refine lv_iload_n hx hb de_M_drop_219 rfl (lv_at hl 2 rfl) ?_
                      refine lv_iconst (v := 0) hx hb de_M_drop_220 (by decide) ?_
                      refine bc_zst (j := j) hx hb hK hP hD hS 4 1 rfl rfl (by decide) (by omega) (by decide) de_M_drop_221 (fun H locs hP hD hS => ?_)
                      have hP : va_P (dC, dI) classes [(m0, .inr (5, [.int fa, .ref r1, .ref r2, .ref r3, .ref r4, .ref r5, .int rw, .ref r6, .ref r7, .ref r8, .int w2, .ref r9, .ref r10, .ref r11, .ref r12, .ref r13, .ref r14, .ref r15, .ref r16])), (r1, .inl (cI, 80, .inl K)), (r3, .inl (cI, 80, .inl T)), (r5, .inl (cI, 2, .inl Sz)), (r11, .inl (cZ, 41, .inl (upd B1 j 0)))] H := hP
                      have hD : va_D A [(m0, .inr (5, [.int fa, .ref r1, .ref r2, .ref r3, .ref r4, .ref r5, .int rw, .ref r6, .ref r7, .ref r8, .int w2, .ref r9, .ref r10, .ref r11, .ref r12, .ref r13, .ref r14, .ref r15, .ref r16])), (r1, .inl (cI, 80, .inl K)), (r3, .inl (cI, 80, .inl T)), (r5, .inl (cI, 2, .inl Sz)), (r11, .inl (cZ, 41, .inl (upd B1 j 0)))] := hD
                      refine lv_iinc (k := 2) (v := nI j - 1) (lv' := [(2, .int (nI j - 1)), (4, .int (T (40 + j))), (3, .int (nI x)), (1, .int (nI n)), (0, .ref m0)]) hx hb de_M_drop_222 hl rfl (bc_dec1 _) (by decide) rfl (fun ls hl => ?_)
                      refine lv_goto (tgt := 146) hx hb de_M_drop_225 (by decide) ?_
                      exact ih_146 _ _ _ _ (by omega) ⟨j, x, upd B1 j 0, lv_sub hl [0, 3, 4] rfl, hP, hD, hS, rfl, bc_DI_a hD9 hc_192 hc_206 (bc_nIe (by have := bc_tn_le n (T (40 + j)); omega) (by have := hD9.2.2.1.2.1; omega) ((bc_tn_lt (by omega) (htr j hjn (Or.inl hc_206)) hc_168).symm.trans hc_212))⟩
          · exact ⟨_, n, n, S2, lv_sub hl [0, 1, 2] rfl, hP, hD, hS, rfl, bc_DI_0 n _ _ S2⟩
        · refine lv_aload_n hx hb de_M_drop_47 rfl (lv_at hl 1 rfl) ?_
          refine lv_iconst (v := 0) hx hb de_M_drop_48 (by decide) ?_
          refine va_put (D := (dC, dI)) (ci := 5) (v := .int 0) (ty := .boolean) (C := rc_M) (T := fc_M) (N := 19) hx hb htw wi_M tc_M tc_M_ok nc_M hown hK hP hD hS 0 rfl rfl 10 (by decide) (htw _ wm_433) (fun _ h9 => h9) rfl (by decide +kernel) rfl rfl (Nat.le_of_ble_eq_true rfl) de_M_drop_49 (fun H locs hP hD hS => ?_)
          have hP : va_P (dC, dI) classes [(m0, .inr (5, [.int fa, .ref r1, .ref r2, .ref r3, .ref r4, .ref r5, .int rw, .ref r6, .ref r7, .ref r8, .int 0, .ref r9, .ref r10, .ref r11, .ref r12, .ref r13, .ref r14, .ref r15, .ref r16])), (r1, .inl (cI, 80, .inl K)), (r3, .inl (cI, 80, .inl T)), (r5, .inl (cI, 2, .inl Sz)), (r11, .inl (cZ, 41, .inl S2))] H := hP
          have hD : va_D A [(m0, .inr (5, [.int fa, .ref r1, .ref r2, .ref r3, .ref r4, .ref r5, .int rw, .ref r6, .ref r7, .ref r8, .int 0, .ref r9, .ref r10, .ref r11, .ref r12, .ref r13, .ref r14, .ref r15, .ref r16])), (r1, .inl (cI, 80, .inl K)), (r3, .inl (cI, 80, .inl T)), (r5, .inl (cI, 2, .inl Sz)), (r11, .inl (cZ, 41, .inl S2))] := hD
          refine lv_iconst (v := 0) hx hb de_M_drop_52 (by decide) ?_
          refine bc_ti (y := nI 0) nI_0.symm ?_
          refine lv_istore_n (lv' := [(2, .int (nI 0)), (1, .int (nI n)), (0, .ref m0)]) hx hb de_M_drop_53 rfl hl (by decide) rfl (fun ls hl => ?_)
          refine bc_loop (fun k_54 H locs ls => ∃ (i3 : Nat) (S3 : bc_F) (w3 : Int32), lv_has ls 5 [(2, .int (nI i3)), (1, .int (nI n)), (0, .ref m0)] ∧ va_P (dC, dI) classes [(m0, .inr (5, [.int fa, .ref r1, .ref r2, .ref r3, .ref r4, .ref r5, .int rw, .ref r6, .ref r7, .ref r8, .int w3, .ref r9, .ref r10, .ref r11, .ref r12, .ref r13, .ref r14, .ref r15, .ref r16])), (r1, .inl (cI, 80, .inl K)), (r3, .inl (cI, 80, .inl T)), (r5, .inl (cI, 2, .inl Sz)), (r11, .inl (cZ, 41, .inl S3))] H ∧ va_D A [(m0, .inr (5, [.int fa, .ref r1, .ref r2, .ref r3, .ref r4, .ref r5, .int rw, .ref r6, .ref r7, .ref r8, .int w3, .ref r9, .ref r10, .ref r11, .ref r12, .ref r13, .ref r14, .ref r15, .ref r16])), (r1, .inl (cI, 80, .inl K)), (r3, .inl (cI, 80, .inl T)), (r5, .inl (cI, 2, .inl Sz)), (r11, .inl (cZ, 41, .inl S3))] ∧ va_S A s.heap H locs ∧ k_54 = n - i3 ∧ (i3 ≤ n) ∧ (bc_MI n (fun j => K (40 + j)) (fun j => bc_tn n (T (40 + j))) (bc_ct S2 n) i3 S3 w3)) ?_ ?_
          · rintro k_54 H locs ls ⟨i3, S3, w3, hl, hP, hD, hS, hk_54, hi3, hJ⟩ ih_54
            refine lv_iload_n hx hb de_M_drop_54 rfl (lv_at hl 0 rfl) ?_
            refine lv_iload_n hx hb de_M_drop_55 rfl (lv_at hl 1 rfl) ?_
            refine lv_icmp_ge (tgt := 139) hx hb de_M_drop_56 (by decide) (fun hc_56 => ?_) (fun hc_56 => ?_)
            · have heq3 : i3 = n := by have := bc_ge (by omega) (by omega) hc_56; omega
              rw [heq3] at hJ
              refine lv_goto (tgt := 40) hx hb de_M_drop_139 (by decide) ?_
              exact ih_40 _ _ _ _ (by rw [hk_40]; exact bc_MI_ms hJ hc_44) ⟨S3, w3, lv_sub hl [1, 2] rfl, hP, hD, hS, rfl, bc_MI_WI hJ⟩
            · have hlt3 : i3 < n := bc_lt (by omega) (by omega) hc_56
              refine lv_aload_n hx hb de_M_drop_59 rfl (lv_at hl 2 rfl) ?_
              refine va_get (D := (dC, dI)) (ci := 5) (v := .ref r11) (C := rc_M) (T := fc_M) (N := 19) hx hb htw wi_M hown hK hP 0 rfl rfl 13 (by decide) (htw _ wm_436) (fun _ h9 => h9) rfl de_M_drop_60 ?_
              refine lv_iload_n hx hb de_M_drop_63 rfl (lv_at hl 0 rfl) ?_
              refine bc_zld (j := i3) hx hb hK hP 4 1 rfl rfl (by omega) (by decide) de_M_drop_64 ?_
              refine lv_if_eq (tgt := 89) hx hb de_M_drop_65 (by decide) (fun hc_65 => ?_) (fun hc_65 => ?_)
              · refine lv_aload_n hx hb de_M_drop_89 rfl (lv_at hl 2 rfl) ?_
                refine va_get (D := (dC, dI)) (ci := 5) (v := .ref r11) (C := rc_M) (T := fc_M) (N := 19) hx hb htw wi_M hown hK hP 0 rfl rfl 13 (by decide) (htw _ wm_436) (fun _ h9 => h9) rfl de_M_drop_90 ?_
                refine lv_iload_n hx hb de_M_drop_93 rfl (lv_at hl 0 rfl) ?_
                refine bc_zld (j := i3) hx hb hK hP 4 1 rfl rfl (by omega) (by decide) de_M_drop_94 ?_
                refine lv_if_eq (tgt := 133) hx hb de_M_drop_95 (by decide) (fun _ => ?_) (fun hc => absurd hc_65 hc)
                refine lv_iinc (k := 0) (v := nI (i3 + 1)) (lv' := [(2, .int (nI (i3 + 1))), (1, .int (nI n)), (0, .ref m0)]) hx hb de_M_drop_133 hl rfl (bc_inc _) (by decide) rfl (fun ls hl => ?_)
                refine lv_goto (tgt := 54) hx hb de_M_drop_136 (by decide) ?_
                exact ih_54 _ _ _ _ (by omega) ⟨(i3 + 1), S3, w3, lv_sub hl [0, 1, 2] rfl, hP, hD, hS, rfl, (by omega), bc_MI_step hJ (fun z => absurd hc_65 z)⟩
              · refine lv_aload_n hx hb de_M_drop_68 rfl (lv_at hl 2 rfl) ?_
                refine lv_iload_n hx hb de_M_drop_69 rfl (lv_at hl 0 rfl) ?_
                refine bc_call_v_i (As := [.int (nI i3)]) (rest := []) (wr := [(r3, .inl (cI, 80, .inl T)), (r5, .inl (cI, 2, .inl Sz)), (r11, .inl (cZ, 41, .inl S3))]) F (co_M_goes (by omega)) wm_542 wm_6 wm_540 wm_541 wm_641 0 rfl rfl pd_M_goes rfl rfl ⟨Nat.le_of_ble_eq_true rfl, Nat.le_of_ble_eq_true rfl⟩ hP hD hS hA [0, 1] [2, 3, 4] rfl rfl rfl rfl (by decide) rfl hl.1 rfl (Nat.le_of_ble_eq_true rfl) de_M_drop_70 ⟨Nat.le_of_ble_eq_true rfl, Nat.le_of_ble_eq_true rfl⟩ (fun r_70 u_70 H locs hw_70 hP hD hS => ?_)
                have hP : va_P (dC, dI) classes [(m0, .inr (5, [.int fa, .ref r1, .ref r2, .ref r3, .ref r4, .ref r5, .int rw, .ref r6, .ref r7, .ref r8, .int w3, .ref r9, .ref r10, .ref r11, .ref r12, .ref r13, .ref r14, .ref r15, .ref r16])), (r1, .inl (cI, 80, .inl K)), (r3, .inl (cI, 80, .inl T)), (r5, .inl (cI, 2, .inl Sz)), (r11, .inl (cZ, 41, .inl S3))] H := hP.sub [3, 4, 0, 1, 2] rfl
                have hD : va_D A [(m0, .inr (5, [.int fa, .ref r1, .ref r2, .ref r3, .ref r4, .ref r5, .int rw, .ref r6, .ref r7, .ref r8, .int w3, .ref r9, .ref r10, .ref r11, .ref r12, .ref r13, .ref r14, .ref r15, .ref r16])), (r1, .inl (cI, 80, .inl K)), (r3, .inl (cI, 80, .inl T)), (r5, .inl (cI, 2, .inl Sz)), (r11, .inl (cZ, 41, .inl S3))] := hD.sub [3, 4, 0, 1, 2] (by decide) rfl
                rcases hw_70 with ⟨he_70, hv_70⟩ | ⟨he_70, hv_70⟩
                · subst he_70
                  refine lv_if_eq (tgt := 89) hx hb de_M_drop_73 (by decide) (fun hc => absurd hc (by decide)) (fun _ => ?_)
                  refine lv_aload_n hx hb de_M_drop_76 rfl (lv_at hl 2 rfl) ?_
                  refine lv_aload_n hx hb de_M_drop_77 rfl (lv_at hl 2 rfl) ?_
                  refine va_get (D := (dC, dI)) (ci := 5) (v := .ref r3) (C := rc_M) (T := fc_M) (N := 19) hx hb htw wi_M hown hK hP 0 rfl rfl 3 (by decide) (htw _ wm_426) (fun _ h9 => h9) rfl de_M_drop_78 ?_
                  refine lv_bipush (v := 40) hx hb de_M_drop_81 (by decide) ?_
                  refine lv_iload_n hx hb de_M_drop_83 rfl (lv_at hl 0 rfl) ?_
                  refine lv_iadd hx hb de_M_drop_84 ?_
                  refine bc_ti (y := nI (40 + i3)) (nI_add 40 i3) ?_
                  refine bc_ild (j := 40 + i3) hx hb hK hP 2 0 rfl rfl (by omega) (by decide) de_M_drop_85 ?_
                  obtain ⟨t0, ht0, eT⟩ := htr i3 hlt3 hv_70
                  refine bc_ti (y := nI t0) eT ?_
                  refine bc_call_v_v (As := [.int (nI t0)]) (rest := []) (wr := [(r1, .inl (cI, 80, .inl K)), (r3, .inl (cI, 80, .inl T))]) F (co_M_mark (t := t0) hn (by omega) hSz) wm_548 wm_6 wm_546 wm_547 wm_643 0 rfl rfl pd_M_mark rfl rfl ⟨Nat.le_of_ble_eq_true rfl, Nat.le_of_ble_eq_true rfl⟩ hP hD hS hA [0, 3, 4] [1, 2] rfl rfl rfl rfl (by decide) rfl hl.1 rfl (Nat.le_of_ble_eq_true rfl) de_M_drop_86 ⟨Nat.le_of_ble_eq_true rfl, Nat.le_of_ble_eq_true rfl⟩ (fun u_86 H locs hw_86 hP hD hS => ?_)
                  obtain ⟨S4, w4⟩ := u_86
                  try dsimp only at hw_86
                  have hm4 := bc_mu_mk hw_86
                  have hJ4 := bc_MI_mu hJ hw_86 (fun z => bc_sty_s hlt3 (hJ.2.1 i3 hlt3 hc_65) ⟨z, Or.inl ⟨hv_70, by show t0 = bc_tn n (T (40 + i3)); rw [eT, bc_tn_t z hn]⟩⟩)
                  have hB4 := bc_mk_ge hm4 hc_65
                  have hP : va_P (dC, dI) classes [(m0, .inr (5, [.int fa, .ref r1, .ref r2, .ref r3, .ref r4, .ref r5, .int rw, .ref r6, .ref r7, .ref r8, .int w4, .ref r9, .ref r10, .ref r11, .ref r12, .ref r13, .ref r14, .ref r15, .ref r16])), (r1, .inl (cI, 80, .inl K)), (r3, .inl (cI, 80, .inl T)), (r5, .inl (cI, 2, .inl Sz)), (r11, .inl (cZ, 41, .inl S4))] H := hP.sub [2, 0, 1, 3, 4] rfl
                  have hD : va_D A [(m0, .inr (5, [.int fa, .ref r1, .ref r2, .ref r3, .ref r4, .ref r5, .int rw, .ref r6, .ref r7, .ref r8, .int w4, .ref r9, .ref r10, .ref r11, .ref r12, .ref r13, .ref r14, .ref r15, .ref r16])), (r1, .inl (cI, 80, .inl K)), (r3, .inl (cI, 80, .inl T)), (r5, .inl (cI, 2, .inl Sz)), (r11, .inl (cZ, 41, .inl S4))] := hD.sub [2, 0, 1, 3, 4] (by decide) rfl
                  refine lv_aload_n hx hb de_M_drop_89 rfl (lv_at hl 2 rfl) ?_
                  refine va_get (D := (dC, dI)) (ci := 5) (v := .ref r11) (C := rc_M) (T := fc_M) (N := 19) hx hb htw wi_M hown hK hP 0 rfl rfl 13 (by decide) (htw _ wm_436) (fun _ h9 => h9) rfl de_M_drop_90 ?_
                  refine lv_iload_n hx hb de_M_drop_93 rfl (lv_at hl 0 rfl) ?_
                  refine bc_zld (j := i3) hx hb hK hP 4 1 rfl rfl (by omega) (by decide) de_M_drop_94 ?_
                  refine lv_if_eq (tgt := 133) hx hb de_M_drop_95 (by decide) (fun hc => absurd hc hB4) (fun _ => ?_)
                  refine lv_aload_n hx hb de_M_drop_98 rfl (lv_at hl 2 rfl) ?_
                  refine va_get (D := (dC, dI)) (ci := 5) (v := .ref r1) (C := rc_M) (T := fc_M) (N := 19) hx hb htw wi_M hown hK hP 0 rfl rfl 1 (by decide) (htw _ wm_424) (fun _ h9 => h9) rfl de_M_drop_99 ?_
                  refine lv_bipush (v := 40) hx hb de_M_drop_102 (by decide) ?_
                  refine lv_iload_n hx hb de_M_drop_104 rfl (lv_at hl 0 rfl) ?_
                  refine lv_iadd hx hb de_M_drop_105 ?_
                  refine bc_ti (y := nI (40 + i3)) (nI_add 40 i3) ?_
                  refine bc_ild (j := 40 + i3) hx hb hK hP 1 0 rfl rfl (by omega) (by decide) de_M_drop_106 ?_
                  refine lv_bipush (v := 6) hx hb de_M_drop_107 (by decide) ?_
                  refine lv_icmp_eq (tgt := 133) hx hb de_M_drop_109 (by decide) (fun hc_109 => ?_) (fun hc_109 => ?_)
                  · refine lv_iinc (k := 0) (v := nI (i3 + 1)) (lv' := [(2, .int (nI (i3 + 1))), (1, .int (nI n)), (0, .ref m0)]) hx hb de_M_drop_133 hl rfl (bc_inc _) (by decide) rfl (fun ls hl => ?_)
                    refine lv_goto (tgt := 54) hx hb de_M_drop_136 (by decide) ?_
                    exact ih_54 _ _ _ _ (by omega) ⟨(i3 + 1), S4, w4, lv_sub hl [0, 1, 2] rfl, hP, hD, hS, rfl, (by omega), bc_MI_step hJ4 (fun _ t hs => hs.2.elim (fun z => by have e9 := bc_tq hn ht0 eT z.2 hs.1; rw [e9]; rw [e9] at hs; exact bc_mk_at hm4 hs.1) (fun z => absurd hc_109 z.1))⟩
                  · refine lv_aload_n hx hb de_M_drop_112 rfl (lv_at hl 2 rfl) ?_
                    refine va_get (D := (dC, dI)) (ci := 5) (v := .ref r1) (C := rc_M) (T := fc_M) (N := 19) hx hb htw wi_M hown hK hP 0 rfl rfl 1 (by decide) (htw _ wm_424) (fun _ h9 => h9) rfl de_M_drop_113 ?_
                    refine lv_bipush (v := 40) hx hb de_M_drop_116 (by decide) ?_
                    refine lv_iload_n hx hb de_M_drop_118 rfl (lv_at hl 0 rfl) ?_
                    refine lv_iadd hx hb de_M_drop_119 ?_
                    refine bc_ti (y := nI (40 + i3)) (nI_add 40 i3) ?_
                    refine bc_ild (j := 40 + i3) hx hb hK hP 1 0 rfl rfl (by omega) (by decide) de_M_drop_120 ?_
                    refine lv_bipush (v := 7) hx hb de_M_drop_121 (by decide) ?_
                    refine lv_icmp_eq (tgt := 133) hx hb de_M_drop_123 (by decide) (fun hc_123 => ?_) (fun hc_123 => ?_)
                    · refine lv_iinc (k := 0) (v := nI (i3 + 1)) (lv' := [(2, .int (nI (i3 + 1))), (1, .int (nI n)), (0, .ref m0)]) hx hb de_M_drop_133 hl rfl (bc_inc _) (by decide) rfl (fun ls hl => ?_)
                      refine lv_goto (tgt := 54) hx hb de_M_drop_136 (by decide) ?_
                      exact ih_54 _ _ _ _ (by omega) ⟨(i3 + 1), S4, w4, lv_sub hl [0, 1, 2] rfl, hP, hD, hS, rfl, (by omega), bc_MI_step hJ4 (fun _ t hs => hs.2.elim (fun z => by have e9 := bc_tq hn ht0 eT z.2 hs.1; rw [e9]; rw [e9] at hs; exact bc_mk_at hm4 hs.1) (fun z => absurd hc_123 z.2.1))⟩
                    · refine lv_aload_n hx hb de_M_drop_126 rfl (lv_at hl 2 rfl) ?_
                      refine lv_iload_n hx hb de_M_drop_127 rfl (lv_at hl 0 rfl) ?_
                      refine lv_iconst (v := 1) hx hb de_M_drop_128 (by decide) ?_
                      refine lv_iadd hx hb de_M_drop_129 ?_
                      refine bc_ti (y := nI (i3 + 1)) (nI_add i3 1) ?_
                      refine bc_call_v_v (As := [.int (nI (i3 + 1))]) (rest := []) (wr := [(r1, .inl (cI, 80, .inl K)), (r3, .inl (cI, 80, .inl T))]) F (co_M_mark (t := i3 + 1) hn (by omega) hSz) wm_548 wm_6 wm_546 wm_547 wm_643 0 rfl rfl pd_M_mark rfl rfl ⟨Nat.le_of_ble_eq_true rfl, Nat.le_of_ble_eq_true rfl⟩ hP hD hS hA [0, 3, 4] [1, 2] rfl rfl rfl rfl (by decide) rfl hl.1 rfl (Nat.le_of_ble_eq_true rfl) de_M_drop_130 ⟨Nat.le_of_ble_eq_true rfl, Nat.le_of_ble_eq_true rfl⟩ (fun u_130 H locs hw_130 hP hD hS => ?_)
                      obtain ⟨S5, w5⟩ := u_130
                      try dsimp only at hw_130
                      have hm5 := bc_mu_mk hw_130
                      have hJ5 := bc_MI_mu hJ4 hw_130 (fun z => bc_sty_s hlt3 (hJ4.2.1 i3 hlt3 hB4) ⟨z, Or.inr ⟨hc_109, hc_123, rfl⟩⟩)
                      have hB5 := bc_mk_ge hm5 hB4
                      have hP : va_P (dC, dI) classes [(m0, .inr (5, [.int fa, .ref r1, .ref r2, .ref r3, .ref r4, .ref r5, .int rw, .ref r6, .ref r7, .ref r8, .int w5, .ref r9, .ref r10, .ref r11, .ref r12, .ref r13, .ref r14, .ref r15, .ref r16])), (r1, .inl (cI, 80, .inl K)), (r3, .inl (cI, 80, .inl T)), (r5, .inl (cI, 2, .inl Sz)), (r11, .inl (cZ, 41, .inl S5))] H := hP.sub [2, 0, 1, 3, 4] rfl
                      have hD : va_D A [(m0, .inr (5, [.int fa, .ref r1, .ref r2, .ref r3, .ref r4, .ref r5, .int rw, .ref r6, .ref r7, .ref r8, .int w5, .ref r9, .ref r10, .ref r11, .ref r12, .ref r13, .ref r14, .ref r15, .ref r16])), (r1, .inl (cI, 80, .inl K)), (r3, .inl (cI, 80, .inl T)), (r5, .inl (cI, 2, .inl Sz)), (r11, .inl (cZ, 41, .inl S5))] := hD.sub [2, 0, 1, 3, 4] (by decide) rfl
                      refine lv_iinc (k := 0) (v := nI (i3 + 1)) (lv' := [(2, .int (nI (i3 + 1))), (1, .int (nI n)), (0, .ref m0)]) hx hb de_M_drop_133 hl rfl (bc_inc _) (by decide) rfl (fun ls hl => ?_)
                      refine lv_goto (tgt := 54) hx hb de_M_drop_136 (by decide) ?_
                      exact ih_54 _ _ _ _ (by omega) ⟨(i3 + 1), S5, w5, lv_sub hl [0, 1, 2] rfl, hP, hD, hS, rfl, (by omega), bc_MI_step hJ5 (fun _ t hs => hs.2.elim (fun z => by have e9 := bc_tq hn ht0 eT z.2 hs.1; rw [e9]; rw [e9] at hs; exact bc_mk_ge hm5 (bc_mk_at hm4 hs.1)) (fun z => by have e9 := z.2.2; rw [e9]; rw [e9] at hs; exact bc_mk_at hm5 hs.1))⟩
                · subst he_70
                  refine lv_if_eq (tgt := 89) hx hb de_M_drop_73 (by decide) (fun _ => ?_) (fun hc => absurd (by decide) hc)
                  refine lv_aload_n hx hb de_M_drop_89 rfl (lv_at hl 2 rfl) ?_
                  refine va_get (D := (dC, dI)) (ci := 5) (v := .ref r11) (C := rc_M) (T := fc_M) (N := 19) hx hb htw wi_M hown hK hP 0 rfl rfl 13 (by decide) (htw _ wm_436) (fun _ h9 => h9) rfl de_M_drop_90 ?_
                  refine lv_iload_n hx hb de_M_drop_93 rfl (lv_at hl 0 rfl) ?_
                  refine bc_zld (j := i3) hx hb hK hP 4 1 rfl rfl (by omega) (by decide) de_M_drop_94 ?_
                  refine lv_if_eq (tgt := 133) hx hb de_M_drop_95 (by decide) (fun hc => absurd hc hc_65) (fun _ => ?_)
                  refine lv_aload_n hx hb de_M_drop_98 rfl (lv_at hl 2 rfl) ?_
                  refine va_get (D := (dC, dI)) (ci := 5) (v := .ref r1) (C := rc_M) (T := fc_M) (N := 19) hx hb htw wi_M hown hK hP 0 rfl rfl 1 (by decide) (htw _ wm_424) (fun _ h9 => h9) rfl de_M_drop_99 ?_
                  refine lv_bipush (v := 40) hx hb de_M_drop_102 (by decide) ?_
                  refine lv_iload_n hx hb de_M_drop_104 rfl (lv_at hl 0 rfl) ?_
                  refine lv_iadd hx hb de_M_drop_105 ?_
                  refine bc_ti (y := nI (40 + i3)) (nI_add 40 i3) ?_
                  refine bc_ild (j := 40 + i3) hx hb hK hP 1 0 rfl rfl (by omega) (by decide) de_M_drop_106 ?_
                  refine lv_bipush (v := 6) hx hb de_M_drop_107 (by decide) ?_
                  refine lv_icmp_eq (tgt := 133) hx hb de_M_drop_109 (by decide) (fun hc_109 => ?_) (fun hc_109 => ?_)
                  · refine lv_iinc (k := 0) (v := nI (i3 + 1)) (lv' := [(2, .int (nI (i3 + 1))), (1, .int (nI n)), (0, .ref m0)]) hx hb de_M_drop_133 hl rfl (bc_inc _) (by decide) rfl (fun ls hl => ?_)
                    refine lv_goto (tgt := 54) hx hb de_M_drop_136 (by decide) ?_
                    exact ih_54 _ _ _ _ (by omega) ⟨(i3 + 1), S3, w3, lv_sub hl [0, 1, 2] rfl, hP, hD, hS, rfl, (by omega), bc_MI_step hJ (fun _ t hs => hs.2.elim (fun z => absurd z.1 hv_70) (fun z => absurd hc_109 z.1))⟩
                  · refine lv_aload_n hx hb de_M_drop_112 rfl (lv_at hl 2 rfl) ?_
                    refine va_get (D := (dC, dI)) (ci := 5) (v := .ref r1) (C := rc_M) (T := fc_M) (N := 19) hx hb htw wi_M hown hK hP 0 rfl rfl 1 (by decide) (htw _ wm_424) (fun _ h9 => h9) rfl de_M_drop_113 ?_
                    refine lv_bipush (v := 40) hx hb de_M_drop_116 (by decide) ?_
                    refine lv_iload_n hx hb de_M_drop_118 rfl (lv_at hl 0 rfl) ?_
                    refine lv_iadd hx hb de_M_drop_119 ?_
                    refine bc_ti (y := nI (40 + i3)) (nI_add 40 i3) ?_
                    refine bc_ild (j := 40 + i3) hx hb hK hP 1 0 rfl rfl (by omega) (by decide) de_M_drop_120 ?_
                    refine lv_bipush (v := 7) hx hb de_M_drop_121 (by decide) ?_
                    refine lv_icmp_eq (tgt := 133) hx hb de_M_drop_123 (by decide) (fun hc_123 => ?_) (fun hc_123 => ?_)
                    · refine lv_iinc (k := 0) (v := nI (i3 + 1)) (lv' := [(2, .int (nI (i3 + 1))), (1, .int (nI n)), (0, .ref m0)]) hx hb de_M_drop_133 hl rfl (bc_inc _) (by decide) rfl (fun ls hl => ?_)
                      refine lv_goto (tgt := 54) hx hb de_M_drop_136 (by decide) ?_
                      exact ih_54 _ _ _ _ (by omega) ⟨(i3 + 1), S3, w3, lv_sub hl [0, 1, 2] rfl, hP, hD, hS, rfl, (by omega), bc_MI_step hJ (fun _ t hs => hs.2.elim (fun z => absurd z.1 hv_70) (fun z => absurd hc_123 z.2.1))⟩
                    · refine lv_aload_n hx hb de_M_drop_126 rfl (lv_at hl 2 rfl) ?_
                      refine lv_iload_n hx hb de_M_drop_127 rfl (lv_at hl 0 rfl) ?_
                      refine lv_iconst (v := 1) hx hb de_M_drop_128 (by decide) ?_
                      refine lv_iadd hx hb de_M_drop_129 ?_
                      refine bc_ti (y := nI (i3 + 1)) (nI_add i3 1) ?_
                      refine bc_call_v_v (As := [.int (nI (i3 + 1))]) (rest := []) (wr := [(r1, .inl (cI, 80, .inl K)), (r3, .inl (cI, 80, .inl T))]) F (co_M_mark (t := i3 + 1) hn (by omega) hSz) wm_548 wm_6 wm_546 wm_547 wm_643 0 rfl rfl pd_M_mark rfl rfl ⟨Nat.le_of_ble_eq_true rfl, Nat.le_of_ble_eq_true rfl⟩ hP hD hS hA [0, 3, 4] [1, 2] rfl rfl rfl rfl (by decide) rfl hl.1 rfl (Nat.le_of_ble_eq_true rfl) de_M_drop_130 ⟨Nat.le_of_ble_eq_true rfl, Nat.le_of_ble_eq_true rfl⟩ (fun u_130 H locs hw_130 hP hD hS => ?_)
                      obtain ⟨S5, w5⟩ := u_130
                      try dsimp only at hw_130
                      have hm5 := bc_mu_mk hw_130
                      have hJ5 := bc_MI_mu hJ hw_130 (fun z => bc_sty_s hlt3 (hJ.2.1 i3 hlt3 hc_65) ⟨z, Or.inr ⟨hc_109, hc_123, rfl⟩⟩)
                      have hB5 := bc_mk_ge hm5 hc_65
                      have hP : va_P (dC, dI) classes [(m0, .inr (5, [.int fa, .ref r1, .ref r2, .ref r3, .ref r4, .ref r5, .int rw, .ref r6, .ref r7, .ref r8, .int w5, .ref r9, .ref r10, .ref r11, .ref r12, .ref r13, .ref r14, .ref r15, .ref r16])), (r1, .inl (cI, 80, .inl K)), (r3, .inl (cI, 80, .inl T)), (r5, .inl (cI, 2, .inl Sz)), (r11, .inl (cZ, 41, .inl S5))] H := hP.sub [2, 0, 1, 3, 4] rfl
                      have hD : va_D A [(m0, .inr (5, [.int fa, .ref r1, .ref r2, .ref r3, .ref r4, .ref r5, .int rw, .ref r6, .ref r7, .ref r8, .int w5, .ref r9, .ref r10, .ref r11, .ref r12, .ref r13, .ref r14, .ref r15, .ref r16])), (r1, .inl (cI, 80, .inl K)), (r3, .inl (cI, 80, .inl T)), (r5, .inl (cI, 2, .inl Sz)), (r11, .inl (cZ, 41, .inl S5))] := hD.sub [2, 0, 1, 3, 4] (by decide) rfl
                      refine lv_iinc (k := 0) (v := nI (i3 + 1)) (lv' := [(2, .int (nI (i3 + 1))), (1, .int (nI n)), (0, .ref m0)]) hx hb de_M_drop_133 hl rfl (bc_inc _) (by decide) rfl (fun ls hl => ?_)
                      refine lv_goto (tgt := 54) hx hb de_M_drop_136 (by decide) ?_
                      exact ih_54 _ _ _ _ (by omega) ⟨(i3 + 1), S5, w5, lv_sub hl [0, 1, 2] rfl, hP, hD, hS, rfl, (by omega), bc_MI_step hJ5 (fun _ t hs => hs.2.elim (fun z => absurd z.1 hv_70) (fun z => by have e9 := z.2.2; rw [e9]; rw [e9] at hs; exact bc_mk_at hm5 hs.1))⟩
          · exact ⟨_, 0, S2, 0, lv_sub hl [0, 1, 2] rfl, hP, hD, hS, rfl, Nat.zero_le _, bc_WI_MI hWI⟩
      · exact ⟨_, S1, 1, lv_sub hl [1, 2] rfl, hP, hD, hS, rfl, bc_WI_0 hS1⟩
    · have hlt : i < n := bc_lt (by omega) (by omega) hc_11
      refine lv_aload_n hx hb de_M_drop_14 rfl (lv_at hl 2 rfl) ?_
      refine va_get (D := (dC, dI)) (ci := 5) (v := .ref r11) (C := rc_M) (T := fc_M) (N := 19) hx hb htw wi_M hown hK hP 0 rfl rfl 13 (by decide) (htw _ wm_436) (fun _ h9 => h9) rfl de_M_drop_15 ?_
      refine lv_iload_n hx hb de_M_drop_18 rfl (lv_at hl 0 rfl) ?_
      refine lv_iload_n hx hb de_M_drop_19 rfl (lv_at hl 0 rfl) ?_
      refine lv_if_ne (tgt := 27) hx hb de_M_drop_20 (by decide) (fun hc_20 => ?_) (fun hc_20 => ?_)
      · refine lv_iconst (v := 0) hx hb de_M_drop_27 (by decide) ?_
        refine bc_zst (j := i) hx hb hK hP hD hS 4 1 rfl rfl (by decide) (by omega) (by decide) de_M_drop_28 (fun H locs hP hD hS => ?_)
        have hP : va_P (dC, dI) classes [(m0, .inr (5, [.int fa, .ref r1, .ref r2, .ref r3, .ref r4, .ref r5, .int rw, .ref r6, .ref r7, .ref r8, .int gw, .ref r9, .ref r10, .ref r11, .ref r12, .ref r13, .ref r14, .ref r15, .ref r16])), (r1, .inl (cI, 80, .inl K)), (r3, .inl (cI, 80, .inl T)), (r5, .inl (cI, 2, .inl Sz)), (r11, .inl (cZ, 41, .inl (upd S1 i 0)))] H := hP
        have hD : va_D A [(m0, .inr (5, [.int fa, .ref r1, .ref r2, .ref r3, .ref r4, .ref r5, .int rw, .ref r6, .ref r7, .ref r8, .int gw, .ref r9, .ref r10, .ref r11, .ref r12, .ref r13, .ref r14, .ref r15, .ref r16])), (r1, .inl (cI, 80, .inl K)), (r3, .inl (cI, 80, .inl T)), (r5, .inl (cI, 2, .inl Sz)), (r11, .inl (cZ, 41, .inl (upd S1 i 0)))] := hD
        refine lv_iinc (k := 0) (v := nI (i + 1)) (lv' := [(2, .int (nI (i + 1))), (1, .int (nI n)), (0, .ref m0)]) hx hb de_M_drop_29 hl rfl (bc_inc _) (by decide) rfl (fun ls hl => ?_)
        refine lv_goto (tgt := 9) hx hb de_M_drop_32 (by decide) ?_
        exact ih_9 _ _ _ _ (by omega) ⟨(i + 1), upd S1 i 0, lv_sub hl [0, 1, 2] rfl, hP, hD, hS, rfl, (by omega), bc_S1_s hS1 ⟨fun z => absurd z (bc_i0 (by omega) hc_20), fun _ => rfl⟩⟩
      · refine lv_iconst (v := 1) hx hb de_M_drop_23 (by decide) ?_
        refine lv_goto (tgt := 28) hx hb de_M_drop_24 (by decide) ?_
        refine bc_zst (j := i) hx hb hK hP hD hS 4 1 rfl rfl (by decide) (by omega) (by decide) de_M_drop_28 (fun H locs hP hD hS => ?_)
        have hP : va_P (dC, dI) classes [(m0, .inr (5, [.int fa, .ref r1, .ref r2, .ref r3, .ref r4, .ref r5, .int rw, .ref r6, .ref r7, .ref r8, .int gw, .ref r9, .ref r10, .ref r11, .ref r12, .ref r13, .ref r14, .ref r15, .ref r16])), (r1, .inl (cI, 80, .inl K)), (r3, .inl (cI, 80, .inl T)), (r5, .inl (cI, 2, .inl Sz)), (r11, .inl (cZ, 41, .inl (upd S1 i 1)))] H := hP
        have hD : va_D A [(m0, .inr (5, [.int fa, .ref r1, .ref r2, .ref r3, .ref r4, .ref r5, .int rw, .ref r6, .ref r7, .ref r8, .int gw, .ref r9, .ref r10, .ref r11, .ref r12, .ref r13, .ref r14, .ref r15, .ref r16])), (r1, .inl (cI, 80, .inl K)), (r3, .inl (cI, 80, .inl T)), (r5, .inl (cI, 2, .inl Sz)), (r11, .inl (cZ, 41, .inl (upd S1 i 1)))] := hD
        refine lv_iinc (k := 0) (v := nI (i + 1)) (lv' := [(2, .int (nI (i + 1))), (1, .int (nI n)), (0, .ref m0)]) hx hb de_M_drop_29 hl rfl (bc_inc _) (by decide) rfl (fun ls hl => ?_)
        refine lv_goto (tgt := 9) hx hb de_M_drop_32 (by decide) ?_
        exact ih_9 _ _ _ _ (by omega) ⟨(i + 1), upd S1 i 1, lv_sub hl [0, 1, 2] rfl, hP, hD, hS, rfl, (by omega), bc_S1_s hS1 ⟨fun _ => by decide, fun z => absurd (bc_i1 (by omega) hc_20) z⟩⟩
  · exact ⟨_, 0, St, lv_sub hl [0, 1, 2] rfl, hP, hD, hS, rfl, Nat.zero_le _, fun j hj => absurd hj (Nat.not_lt_zero j)⟩

