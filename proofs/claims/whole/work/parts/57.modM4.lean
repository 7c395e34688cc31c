/-! the reference: analyse (by program: wip/whole/gen/modM4.py) -/
def bc_an (i : Nat) (R F V : bc_F) : Prop := ∀ j, j < i → R j = 0 ∧ ∀ v, v < 6 → F (6 * j + v) = (if j = 0 then 1 else 0) ∧ V (6 * j + v) = 0
def bc_ai (i v : Nat) (F V : bc_F) : Prop := (∀ j, j < i → ∀ u, u < 6 → F (6 * j + u) = (if j = 0 then 1 else 0) ∧ V (6 * j + u) = 0) ∧ ∀ u, u < v → F (6 * i + u) = (if i = 0 then 1 else 0) ∧ V (6 * i + u) = 0
theorem bc_ai_0 {i : Nat} {R F V : bc_F} (h : bc_an i R F V) : bc_ai i 0 F V := ⟨fun j hj => (h j hj).2, fun u hu => absurd hu (Nat.not_lt_zero u)⟩
theorem bc_ai_s {i v : Nat} {F V : bc_F} {x : Int32} (hv : v < 6) (h : bc_ai i v F V) (hx : x = (if i = 0 then 1 else 0)) : bc_ai i (v + 1) (upd F (6 * i + v) x) (upd V (6 * i + v) 0) := by
  refine ⟨fun j hj u hu => ?_, fun u hu => ?_⟩
  · rw [pk_un (by omega), pk_un (by omega)]; exact h.1 j hj u hu
  · by_cases c : u = v
    · subst c; rw [pk_us, pk_us]; exact ⟨hx, rfl⟩
    · rw [pk_un (by omega), pk_un (by omega)]; exact h.2 u (by omega)
theorem bc_an_s {i : Nat} {R F V F2 V2 : bc_F} (h : bc_an i R F V) (h2 : bc_ai i 6 F2 V2) : bc_an (i + 1) (upd R i 0) F2 V2 := by
  intro j hj
  by_cases c : j = i
  · subst c; rw [pk_us]; exact ⟨rfl, h2.2⟩
  · rw [pk_un c]; exact ⟨(h j (by omega)).1, h2.1 j (by omega)⟩
theorem bc_nI0 {i : Nat} (hi : i < 40) (h : nI i = 0) : i = 0 := (nI_eq (a := i) (b := 0) (by omega) (by omega)).mp h
def bc_g0 : bc_G := fun j => if j = 0 then some bc_top else none
theorem bc_an_en {R F V : bc_F} (h : bc_an 40 R F V) : bc_en F V bc_g0 := by
  intro i hi v hv
  have h1 := (h i hi).2 v hv
  unfold bc_g0
  by_cases c : i = 0
  · rw [if_pos c] at h1 ⊢
    rw [(bc_s0_1 (r := bc_top) (v := v) rfl).1, (bc_s0_1 (r := bc_top) (v := v) rfl).2]
    exact h1
  · rw [if_neg c] at h1 ⊢; exact h1
theorem bc_an_re {R F V : bc_F} (h : bc_an 40 R F V) : bc_re (upd R 0 1) bc_g0 := by
  intro i hi
  unfold bc_g0
  by_cases c : i = 0
  · subst c; rw [pk_us, if_pos rfl]; exact ⟨⟨fun z => absurd z (by decide), fun z => (by cases z)⟩, Or.inr rfl⟩
  · rw [pk_un c, if_neg c]; exact ⟨⟨fun _ => rfl, fun _ => (h i hi).1⟩, Or.inl (h i hi).1⟩
theorem bc_g0_low (n : Nat) (K O T Z : bc_F) : bc_low n K O T Z bc_g0 := by
  intro h hc j hj
  unfold bc_g0
  by_cases c : j = 0
  · subst c; rw [if_pos rfl]; exact hc.1 hj
  · rw [if_neg c]; trivial
theorem bc_g0_z (n : Nat) : 0 < n → bc_leO (some bc_top) (bc_g0 0) := fun _ => bc_leO_rfl _
theorem bc_meas {a b : Nat} {w w' : Int32} (h1 : b ≤ a) (h2 : ¬ w' = 0 → b < a) (h3 : ¬ w = 0) : 2 * b + (if w' = 0 then 0 else 1) < 2 * a + (if w = 0 then 0 else 1) := by
  rw [if_neg h3]
  by_cases c : w' = 0
  · rw [if_pos c]; omega
  · rw [if_neg c]; have := h2 c; omega
set_option maxHeartbeats 4000000 in
set_option maxRecDepth 100000 in
/-- the analysis: the least answer -/
theorem co_M_analyse {l : Launch} {dC : Nat → ClassId} {dI : Nat → Nat → Nat} {cI cZ : ClassId} {sz : Nat} {m0 r1 r2 r3 r4 r5 r6 r7 r8 r9 r10 r11 r12 r13 r14 r15 r16 : Nat} {K O T Z Sz Re Fa Va Nf Nv : bc_F} {fa rw gw : Int32} {n : Nat} (hn : n ≤ 40) (h0 : 0 < n) (hSz : Sz 0 = nI n) (hw : bc_wf n K O T Z) : Met l yn_M_analyse (Cond.code yn_M_analyse by_M_analyse 3 none :: wd_all) ({ frames := 3, cells := 0, slots := 0, locals := 71 } : Room) (bc_Pre (dC, dI) classes [(cI, .int), (cZ, .boolean)] [.ref m0] [(m0, .inr (5, [.int fa, .ref r1, .ref r2, .ref r3, .ref r4, .ref r5, .int rw, .ref r6, .ref r7, .ref r8, .int gw, .ref r9, .ref r10, .ref r11, .ref r12, .ref r13, .ref r14, .ref r15, .ref r16])), (r1, .inl (cI, 80, .inl K)), (r2, .inl (cI, 80, .inl O)), (r3, .inl (cI, 80, .inl T)), (r4, .inl (cI, 80, .inl Z)), (r5, .inl (cI, 2, .inl Sz)), (r6, .inl (cZ, 40, .inl Re)), (r7, .inl (cI, 240, .inl Fa)), (r8, .inl (cI, 240, .inl Va)), (r9, .inl (cI, 6, .inl Nf)), (r10, .inl (cI, 6, .inl Nv))] sz) (va_Qv (fun (u : bc_F × bc_F × bc_F × bc_F × bc_F × Int32) => ∃ g, bc_en u.2.1 u.2.2.1 g ∧ bc_re u.1 g ∧ bc_Lst n K O T Z g) (fun (u : bc_F × bc_F × bc_F × bc_F × bc_F × Int32) t => bc_B (dC, dI) classes [(cI, .int), (cZ, .boolean)] (va_A [(m0, .inr (5, [.int fa, .ref r1, .ref r2, .ref r3, .ref r4, .ref r5, .int rw, .ref r6, .ref r7, .ref r8, .int gw, .ref r9, .ref r10, .ref r11, .ref r12, .ref r13, .ref r14, .ref r15, .ref r16])), (r1, .inl (cI, 80, .inl K)), (r2, .inl (cI, 80, .inl O)), (r3, .inl (cI, 80, .inl T)), (r4, .inl (cI, 80, .inl Z)), (r5, .inl (cI, 2, .inl Sz)), (r6, .inl (cZ, 40, .inl Re)), (r7, .inl (cI, 240, .inl Fa)), (r8, .inl (cI, 240, .inl Va)), (r9, .inl (cI, 6, .inl Nf)), (r10, .inl (cI, 6, .inl Nv))] sz) [(m0, .inr (5, [.int fa, .ref r1, .ref r2, .ref r3, .ref r4, .ref r5, .int rw, .ref r6, .ref r7, .ref r8, .int u.2.2.2.2.2, .ref r9, .ref r10, .ref r11, .ref r12, .ref r13, .ref r14, .ref r15, .ref r16])), (r1, .inl (cI, 80, .inl K)), (r2, .inl (cI, 80, .inl O)), (r3, .inl (cI, 80, .inl T)), (r4, .inl (cI, 80, .inl Z)), (r5, .inl (cI, 2, .inl Sz)), (r6, .inl (cZ, 40, .inl u.1)), (r7, .inl (cI, 240, .inl u.2.1)), (r8, .inl (cI, 240, .inl u.2.2.1)), (r9, .inl (cI, 6, .inl u.2.2.2.1)), (r10, .inl (cI, 6, .inl u.2.2.2.2.1))] t) ((va_A [(m0, .inr (5, [.int fa, .ref r1, .ref r2, .ref r3, .ref r4, .ref r5, .int rw, .ref r6, .ref r7, .ref r8, .int gw, .ref r9, .ref r10, .ref r11, .ref r12, .ref r13, .ref r14, .ref r15, .ref r16])), (r1, .inl (cI, 80, .inl K)), (r2, .inl (cI, 80, .inl O)), (r3, .inl (cI, 80, .inl T)), (r4, .inl (cI, 80, .inl Z)), (r5, .inl (cI, 2, .inl Sz)), (r6, .inl (cZ, 40, .inl Re)), (r7, .inl (cI, 240, .inl Fa)), (r8, .inl (cI, 240, .inl Va)), (r9, .inl (cI, 6, .inl Nf)), (r10, .inl (cI, 6, .inl Nv))] sz))) 0 0 (va_A [(m0, .inr (5, [.int fa, .ref r1, .ref r2, .ref r3, .ref r4, .ref r5, .int rw, .ref r6, .ref r7, .ref r8, .int gw, .ref r9, .ref r10, .ref r11, .ref r12, .ref r13, .ref r14, .ref r15, .ref r16])), (r1, .inl (cI, 80, .inl K)), (r2, .inl (cI, 80, .inl O)), (r3, .inl (cI, 80, .inl T)), (r4, .inl (cI, 80, .inl Z)), (r5, .inl (cI, 2, .inl Sz)), (r6, .inl (cZ, 40, .inl Re)), (r7, .inl (cI, 240, .inl Fa)), (r8, .inl (cI, 240, .inl Va)), (r9, .inl (cI, 6, .inl Nf)), (r10, .inl (cI, 6, .inl Nv))] sz) := by
  refine bc_met (fun A => va_Qv (fun (u : bc_F × bc_F × bc_F × bc_F × bc_F × Int32) => ∃ g, bc_en u.2.1 u.2.2.1 g ∧ bc_re u.1 g ∧ bc_Lst n K O T Z g) (fun (u : bc_F × bc_F × bc_F × bc_F × bc_F × Int32) t => bc_B (dC, dI) classes [(cI, .int), (cZ, .boolean)] A [(m0, .inr (5, [.int fa, .ref r1, .ref r2, .ref r3, .ref r4, .ref r5, .int rw, .ref r6, .ref r7, .ref r8, .int u.2.2.2.2.2, .ref r9, .ref r10, .ref r11, .ref r12, .ref r13, .ref r14, .ref r15, .ref r16])), (r1, .inl (cI, 80, .inl K)), (r2, .inl (cI, 80, .inl O)), (r3, .inl (cI, 80, .inl T)), (r4, .inl (cI, 80, .inl Z)), (r5, .inl (cI, 2, .inl Sz)), (r6, .inl (cZ, 40, .inl u.1)), (r7, .inl (cI, 240, .inl u.2.1)), (r8, .inl (cI, 240, .inl u.2.2.1)), (r9, .inl (cI, 6, .inl u.2.2.2.1)), (r10, .inl (cI, 6, .inl u.2.2.2.2.1))] t) A) (by decide) (Nat.le_of_ble_eq_true rfl) ?_
  intro p e s m args below meth c A ls F hr hlocks hin hA hP hD hl hS
  have hx := F.1
  have hb := F.2.1
  have hml := F.2.2.1
  have hown : s.vm.findClass "BranchConstantsModel" = some m.cls := F.2.2.2.1
  have htw := F.2.2.2.2.1
  have hN := F.2.2.2.2.2.1
  have hK := F.2.2.2.2.2.2
  have hl : lv_has ls 3 [(0, .ref m0)] := hl
  refine lv_iconst (v := 0) hx hb de_M_analyse_0 (by decide) ?_
  refine bc_ti (y := nI 0) nI_0.symm ?_
  refine lv_istore_n (lv' := [(1, .int (nI 0)), (0, .ref m0)]) hx hb de_M_analyse_1 rfl hl (by decide) rfl (fun ls hl => ?_)
  refine bc_loop (fun k_2 H locs ls => ∃ (i : Nat) (R1 : bc_F) (F1 : bc_F) (V1 : bc_F), lv_has ls 3 [(1, .int (nI i)), (0, .ref m0)] ∧ va_P (dC, dI) classes [(m0, .inr (5, [.int fa, .ref r1, .ref r2, .ref r3, .ref r4, .ref r5, .int rw, .ref r6, .ref r7, .ref r8, .int gw, .ref r9, .ref r10, .ref r11, .ref r12, .ref r13, .ref r14, .ref r15, .ref r16])), (r1, .inl (cI, 80, .inl K)), (r2, .inl (cI, 80, .inl O)), (r3, .inl (cI, 80, .inl T)), (r4, .inl (cI, 80, .inl Z)), (r5, .inl (cI, 2, .inl Sz)), (r6, .inl (cZ, 40, .inl R1)), (r7, .inl (cI, 240, .inl F1)), (r8, .inl (cI, 240, .inl V1)), (r9, .inl (cI, 6, .inl Nf)), (r10, .inl (cI, 6, .inl Nv))] H ∧ va_D A [(m0, .inr (5, [.int fa, .ref r1, .ref r2, .ref r3, .ref r4, .ref r5, .int rw, .ref r6, .ref r7, .ref r8, .int gw, .ref r9, .ref r10, .ref r11, .ref r12, .ref r13, .ref r14, .ref r15, .ref r16])), (r1, .inl (cI, 80, .inl K)), (r2, .inl (cI, 80, .inl O)), (r3, .inl (cI, 80, .inl T)), (r4, .inl (cI, 80, .inl Z)), (r5, .inl (cI, 2, .inl Sz)), (r6, .inl (cZ, 40, .inl R1)), (r7, .inl (cI, 240, .inl F1)), (r8, .inl (cI, 240, .inl V1)), (r9, .inl (cI, 6, .inl Nf)), (r10, .inl (cI, 6, .inl Nv))] ∧ va_S A s.heap H locs ∧ k_2 = 40 - i ∧ (i ≤ 40) ∧ (bc_an i R1 F1 V1)) ?_ ?_
  · rintro k_2 H locs ls ⟨i, R1, F1, V1, hl, hP, hD, hS, hk_2, hi, hJ⟩ ih_2
    refine lv_iload_n hx hb de_M_analyse_2 rfl (lv_at hl 0 rfl) ?_
    refine lv_bipush (v := 40) hx hb de_M_analyse_3 (by decide) ?_
    refine lv_icmp_ge (tgt := 67) hx hb de_M_analyse_5 (by decide) (fun hc_5 => ?_) (fun hc_5 => ?_)
    · have heq2 : i = 40 := by have := bc_ge (b := 40) (by omega) (by omega) hc_5; omega
      subst heq2
      refine lv_aload_n hx hb de_M_analyse_67 rfl (lv_at hl 1 rfl) ?_
      refine va_get (D := (dC, dI)) (ci := 5) (v := .ref r6) (C := rc_M) (T := fc_M) (N := 19) hx hb htw wi_M hown hK hP 0 rfl rfl 7 (by decide) (htw _ wm_430) (fun _ h9 => h9) rfl de_M_analyse_68 ?_
      refine lv_iconst (v := 0) hx hb de_M_analyse_71 (by decide) ?_
      refine lv_aload_n hx hb de_M_analyse_72 rfl (lv_at hl 1 rfl) ?_
      refine va_get (D := (dC, dI)) (ci := 5) (v := .ref r5) (C := rc_M) (T := fc_M) (N := 19) hx hb htw wi_M hown hK hP 0 rfl rfl 5 (by decide) (htw _ wm_428) (fun _ h9 => h9) rfl de_M_analyse_73 ?_
      refine lv_iconst (v := 0) hx hb de_M_analyse_76 (by decide) ?_
      refine bc_ildE (by decide) (j := 0) hx hb hK hP 5 0 rfl rfl (by omega) (by decide) de_M_analyse_77 ?_
      refine bc_ti (y := nI n) hSz ?_
      refine lv_if_le (tgt := 85) hx hb de_M_analyse_78 (by decide) (fun hc => absurd hc (nI_nle h0 (by omega))) (fun _ => ?_)
      refine lv_iconst (v := 1) hx hb de_M_analyse_81 (by decide) ?_
      refine lv_goto (tgt := 86) hx hb de_M_analyse_82 (by decide) ?_
      refine bc_zstE (by decide) (j := 0) hx hb hK hP hD hS 6 1 rfl rfl (by decide) (by omega) (by decide) de_M_analyse_86 (fun H locs hP hD hS => ?_)
      have hP : va_P (dC, dI) classes [(m0, .inr (5, [.int fa, .ref r1, .ref r2, .ref r3, .ref r4, .ref r5, .int rw, .ref r6, .ref r7, .ref r8, .int gw, .ref r9, .ref r10, .ref r11, .ref r12, .ref r13, .ref r14, .ref r15, .ref r16])), (r1, .inl (cI, 80, .inl K)), (r2, .inl (cI, 80, .inl O)), (r3, .inl (cI, 80, .inl T)), (r4, .inl (cI, 80, .inl Z)), (r5, .inl (cI, 2, .inl Sz)), (r6, .inl (cZ, 40, .inl (upd R1 0 1))), (r7, .inl (cI, 240, .inl F1)), (r8, .inl (cI, 240, .inl V1)), (r9, .inl (cI, 6, .inl Nf)), (r10, .inl (cI, 6, .inl Nv))] H := hP
      have hD : va_D A [(m0, .inr (5, [.int fa, .ref r1, .ref r2, .ref r3, .ref r4, .ref r5, .int rw, .ref r6, .ref r7, .ref r8, .int gw, .ref r9, .ref r10, .ref r11, .ref r12, .ref r13, .ref r14, .ref r15, .ref r16])), (r1, .inl (cI, 80, .inl K)), (r2, .inl (cI, 80, .inl O)), (r3, .inl (cI, 80, .inl T)), (r4, .inl (cI, 80, .inl Z)), (r5, .inl (cI, 2, .inl Sz)), (r6, .inl (cZ, 40, .inl (upd R1 0 1))), (r7, .inl (cI, 240, .inl F1)), (r8, .inl (cI, 240, .inl V1)), (r9, .inl (cI, 6, .inl Nf)), (r10, .inl (cI, 6, .inl Nv))] := hD
      refine lv_aload_n hx hb de_M_analyse_87 rfl (lv_at hl 1 rfl) ?_
      refine lv_aload_n hx hb de_M_analyse_88 rfl (lv_at hl 1 rfl) ?_
      refine va_get (D := (dC, dI)) (ci := 5) (v := .ref r6) (C := rc_M) (T := fc_M) (N := 19) hx hb htw wi_M hown hK hP 0 rfl rfl 7 (by decide) (htw _ wm_430) (fun _ h9 => h9) rfl de_M_analyse_89 ?_
      refine lv_iconst (v := 0) hx hb de_M_analyse_92 (by decide) ?_
      refine bc_zldE (by decide) (j := 0) hx hb hK hP 6 1 rfl rfl (by omega) (by decide) de_M_analyse_93 ?_
      refine bc_ti (y := 1) pk_us ?_
      refine va_put (D := (dC, dI)) (ci := 5) (v := .int 1) (ty := .boolean) (C := rc_M) (T := fc_M) (N := 19) hx hb htw wi_M tc_M tc_M_ok nc_M hown hK hP hD hS 0 rfl rfl 10 (by decide) (htw _ wm_433) (fun _ h9 => h9) rfl (by decide +kernel) rfl rfl (Nat.le_of_ble_eq_true rfl) de_M_analyse_94 (fun H locs hP hD hS => ?_)
      have hP : va_P (dC, dI) classes [(m0, .inr (5, [.int fa, .ref r1, .ref r2, .ref r3, .ref r4, .ref r5, .int rw, .ref r6, .ref r7, .ref r8, .int 1, .ref r9, .ref r10, .ref r11, .ref r12, .ref r13, .ref r14, .ref r15, .ref r16])), (r1, .inl (cI, 80, .inl K)), (r2, .inl (cI, 80, .inl O)), (r3, .inl (cI, 80, .inl T)), (r4, .inl (cI, 80, .inl Z)), (r5, .inl (cI, 2, .inl Sz)), (r6, .inl (cZ, 40, .inl (upd R1 0 1))), (r7, .inl (cI, 240, .inl F1)), (r8, .inl (cI, 240, .inl V1)), (r9, .inl (cI, 6, .inl Nf)), (r10, .inl (cI, 6, .inl Nv))] H := hP
      have hD : va_D A [(m0, .inr (5, [.int fa, .ref r1, .ref r2, .ref r3, .ref r4, .ref r5, .int rw, .ref r6, .ref r7, .ref r8, .int 1, .ref r9, .ref r10, .ref r11, .ref r12, .ref r13, .ref r14, .ref r15, .ref r16])), (r1, .inl (cI, 80, .inl K)), (r2, .inl (cI, 80, .inl O)), (r3, .inl (cI, 80, .inl T)), (r4, .inl (cI, 80, .inl Z)), (r5, .inl (cI, 2, .inl Sz)), (r6, .inl (cZ, 40, .inl (upd R1 0 1))), (r7, .inl (cI, 240, .inl F1)), (r8, .inl (cI, 240, .inl V1)), (r9, .inl (cI, 6, .inl Nf)), (r10, .inl (cI, 6, .inl Nv))] := hD
      refine bc_loop (fun k_97 H locs ls => ∃ (R2 : bc_F) (F2 : bc_F) (V2 : bc_F) (A2 : bc_F) (B2 : bc_F) (w2 : Int32) (g2 : bc_G), lv_has ls 3 [(0, .ref m0)] ∧ va_P (dC, dI) classes [(m0, .inr (5, [.int fa, .ref r1, .ref r2, .ref r3, .ref r4, .ref r5, .int rw, .ref r6, .ref r7, .ref r8, .int w2, .ref r9, .ref r10, .ref r11, .ref r12, .ref r13, .ref r14, .ref r15, .ref r16])), (r1, .inl (cI, 80, .inl K)), (r2, .inl (cI, 80, .inl O)), (r3, .inl (cI, 80, .inl T)), (r4, .inl (cI, 80, .inl Z)), (r5, .inl (cI, 2, .inl Sz)), (r6, .inl (cZ, 40, .inl R2)), (r7, .inl (cI, 240, .inl F2)), (r8, .inl (cI, 240, .inl V2)), (r9, .inl (cI, 6, .inl A2)), (r10, .inl (cI, 6, .inl B2))] H ∧ va_D A [(m0, .inr (5, [.int fa, .ref r1, .ref r2, .ref r3, .ref r4, .ref r5, .int rw, .ref r6, .ref r7, .ref r8, .int w2, .ref r9, .ref r10, .ref r11, .ref r12, .ref r13, .ref r14, .ref r15, .ref r16])), (r1, .inl (cI, 80, .inl K)), (r2, .inl (cI, 80, .inl O)), (r3, .inl (cI, 80, .inl T)), (r4, .inl (cI, 80, .inl Z)), (r5, .inl (cI, 2, .inl Sz)), (r6, .inl (cZ, 40, .inl R2)), (r7, .inl (cI, 240, .inl F2)), (r8, .inl (cI, 240, .inl V2)), (r9, .inl (cI, 6, .inl A2)), (r10, .inl (cI, 6, .inl B2))] ∧ va_S A s.heap H locs ∧ k_97 = 2 * bc_pot n g2 + (if w2 = 0 then 0 else 1) ∧ (bc_en F2 V2 g2) ∧ (bc_re R2 g2) ∧ (0 < n → bc_leO (some bc_top) (g2 0)) ∧ (bc_low n K O T Z g2) ∧ (w2 = 0 → ∀ j, j < n → bc_cl n K O T Z g2 j)) ?_ ?_
      · rintro k_97 H locs ls ⟨R2, F2, V2, A2, B2, w2, g2, hl, hP, hD, hS, hk_97, hen2, hre2, hz2, hlo2, hcl2⟩ ih_97
        refine lv_aload_n hx hb de_M_analyse_97 rfl (lv_at hl 0 rfl) ?_
        refine va_get (D := (dC, dI)) (ci := 5) (v := .int w2) (C := rc_M) (T := fc_M) (N := 19) hx hb htw wi_M hown hK hP 0 rfl rfl 10 (by decide) (htw _ wm_433) (fun _ h9 => h9) rfl de_M_analyse_98 ?_
        refine lv_if_eq (tgt := 144) hx hb de_M_analyse_101 (by decide) (fun hc_101 => ?_) (fun hc_101 => ?_)
        · exact bc_vret F hr hlocks ((R2, F2, V2, A2, B2, w2)) ⟨g2, hen2, hre2, ⟨hz2, hcl2 hc_101⟩, hlo2⟩ hP hD hS de_M_analyse_144
        · refine lv_aload_n hx hb de_M_analyse_104 rfl (lv_at hl 0 rfl) ?_
          refine lv_iconst (v := 0) hx hb de_M_analyse_105 (by decide) ?_
          refine va_put (D := (dC, dI)) (ci := 5) (v := .int 0) (ty := .boolean) (C := rc_M) (T := fc_M) (N := 19) hx hb htw wi_M tc_M tc_M_ok nc_M hown hK hP hD hS 0 rfl rfl 10 (by decide) (htw _ wm_433) (fun _ h9 => h9) rfl (by decide +kernel) rfl rfl (Nat.le_of_ble_eq_true rfl) de_M_analyse_106 (fun H locs hP hD hS => ?_)
          have hP : va_P (dC, dI) classes [(m0, .inr (5, [.int fa, .ref r1, .ref r2, .ref r3, .ref r4, .ref r5, .int rw, .ref r6, .ref r7, .ref r8, .int 0, .ref r9, .ref r10, .ref r11, .ref r12, .ref r13, .ref r14, .ref r15, .ref r16])), (r1, .inl (cI, 80, .inl K)), (r2, .inl (cI, 80, .inl O)), (r3, .inl (cI, 80, .inl T)), (r4, .inl (cI, 80, .inl Z)), (r5, .inl (cI, 2, .inl Sz)), (r6, .inl (cZ, 40, .inl R2)), (r7, .inl (cI, 240, .inl F2)), (r8, .inl (cI, 240, .inl V2)), (r9, .inl (cI, 6, .inl A2)), (r10, .inl (cI, 6, .inl B2))] H := hP
          have hD : va_D A [(m0, .inr (5, [.int fa, .ref r1, .ref r2, .ref r3, .ref r4, .ref r5, .int rw, .ref r6, .ref r7, .ref r8, .int 0, .ref r9, .ref r10, .ref r11, .ref r12, .ref r13, .ref r14, .ref r15, .ref r16])), (r1, .inl (cI, 80, .inl K)), (r2, .inl (cI, 80, .inl O)), (r3, .inl (cI, 80, .inl T)), (r4, .inl (cI, 80, .inl Z)), (r5, .inl (cI, 2, .inl Sz)), (r6, .inl (cZ, 40, .inl R2)), (r7, .inl (cI, 240, .inl F2)), (r8, .inl (cI, 240, .inl V2)), (r9, .inl (cI, 6, .inl A2)), (r10, .inl (cI, 6, .inl B2))] := hD
          refine lv_iconst (v := 0) hx hb de_M_analyse_109 (by decide) ?_
          refine bc_ti (y := nI 0) nI_0.symm ?_
          refine lv_istore_n (lv' := [(1, .int (nI 0)), (0, .ref m0)]) hx hb de_M_analyse_110 rfl hl (by decide) rfl (fun ls hl => ?_)
          refine bc_loop (fun k_111 H locs ls => ∃ (i : Nat) (R3 : bc_F) (F3 : bc_F) (V3 : bc_F) (A3 : bc_F) (B3 : bc_F) (w3 : Int32) (g3 : bc_G), lv_has ls 3 [(1, .int (nI i)), (0, .ref m0)] ∧ va_P (dC, dI) classes [(m0, .inr (5, [.int fa, .ref r1, .ref r2, .ref r3, .ref r4, .ref r5, .int rw, .ref r6, .ref r7, .ref r8, .int w3, .ref r9, .ref r10, .ref r11, .ref r12, .ref r13, .ref r14, .ref r15, .ref r16])), (r1, .inl (cI, 80, .inl K)), (r2, .inl (cI, 80, .inl O)), (r3, .inl (cI, 80, .inl T)), (r4, .inl (cI, 80, .inl Z)), (r5, .inl (cI, 2, .inl Sz)), (r6, .inl (cZ, 40, .inl R3)), (r7, .inl (cI, 240, .inl F3)), (r8, .inl (cI, 240, .inl V3)), (r9, .inl (cI, 6, .inl A3)), (r10, .inl (cI, 6, .inl B3))] H ∧ va_D A [(m0, .inr (5, [.int fa, .ref r1, .ref r2, .ref r3, .ref r4, .ref r5, .int rw, .ref r6, .ref r7, .ref r8, .int w3, .ref r9, .ref r10, .ref r11, .ref r12, .ref r13, .ref r14, .ref r15, .ref r16])), (r1, .inl (cI, 80, .inl K)), (r2, .inl (cI, 80, .inl O)), (r3, .inl (cI, 80, .inl T)), (r4, .inl (cI, 80, .inl Z)), (r5, .inl (cI, 2, .inl Sz)), (r6, .inl (cZ, 40, .inl R3)), (r7, .inl (cI, 240, .inl F3)), (r8, .inl (cI, 240, .inl V3)), (r9, .inl (cI, 6, .inl A3)), (r10, .inl (cI, 6, .inl B3))] ∧ va_S A s.heap H locs ∧ k_111 = n - i ∧ (i ≤ n) ∧ (bc_en F3 V3 g3) ∧ (bc_re R3 g3) ∧ (bc_IR n K O T Z (bc_pot n g2) i g3 w3)) ?_ ?_
          · rintro k_111 H locs ls ⟨i, R3, F3, V3, A3, B3, w3, g3, hl, hP, hD, hS, hk_111, hi, hen3, hre3, hIR⟩ ih_111
            refine lv_iload_n hx hb de_M_analyse_111 rfl (lv_at hl 0 rfl) ?_
            refine lv_aload_n hx hb de_M_analyse_112 rfl (lv_at hl 1 rfl) ?_
            refine va_get (D := (dC, dI)) (ci := 5) (v := .ref r5) (C := rc_M) (T := fc_M) (N := 19) hx hb htw wi_M hown hK hP 0 rfl rfl 5 (by decide) (htw _ wm_428) (fun _ h9 => h9) rfl de_M_analyse_113 ?_
            refine lv_iconst (v := 0) hx hb de_M_analyse_116 (by decide) ?_
            refine bc_ildE (by decide) (j := 0) hx hb hK hP 5 0 rfl rfl (by omega) (by decide) de_M_analyse_117 ?_
            refine bc_ti (y := nI n) hSz ?_
            refine lv_icmp_ge (tgt := 141) hx hb de_M_analyse_118 (by decide) (fun hc_118 => ?_) (fun hc_118 => ?_)
            · have heq3 : i = n := by have := bc_ge (by omega) (by omega) hc_118; omega
              refine lv_goto (tgt := 97) hx hb de_M_analyse_141 (by decide) ?_
              exact ih_97 _ _ _ _ (by rw [hk_97]; exact bc_meas hIR.2.2.2.1 hIR.2.2.2.2 hc_101) ⟨R3, F3, V3, A3, B3, w3, g3, lv_sub hl [1] rfl, hP, hD, hS, rfl, hen3, hre3, hIR.1, hIR.2.1, fun z j hj => hIR.2.2.1 z j (by omega) hj⟩
            · have hlt : i < n := bc_lt (by omega) (by omega) hc_118
              refine lv_aload_n hx hb de_M_analyse_121 rfl (lv_at hl 1 rfl) ?_
              refine va_get (D := (dC, dI)) (ci := 5) (v := .ref r6) (C := rc_M) (T := fc_M) (N := 19) hx hb htw wi_M hown hK hP 0 rfl rfl 7 (by decide) (htw _ wm_430) (fun _ h9 => h9) rfl de_M_analyse_122 ?_
              refine lv_iload_n hx hb de_M_analyse_125 rfl (lv_at hl 0 rfl) ?_
              refine bc_zld (j := i) hx hb hK hP 6 1 rfl rfl (by omega) (by decide) de_M_analyse_126 ?_
              refine lv_if_eq (tgt := 135) hx hb de_M_analyse_127 (by decide) (fun hc_127 => ?_) (fun hc_127 => ?_)
              · refine lv_iinc (k := 0) (v := nI (i + 1)) (lv' := [(1, .int (nI (i + 1))), (0, .ref m0)]) hx hb de_M_analyse_135 hl rfl (bc_inc _) (by decide) rfl (fun ls hl => ?_)
                refine lv_goto (tgt := 111) hx hb de_M_analyse_138 (by decide) ?_
                exact ih_111 _ _ _ _ (by omega) ⟨(i + 1), R3, F3, V3, A3, B3, w3, g3, lv_sub hl [0, 1] rfl, hP, hD, hS, rfl, (by omega), hen3, hre3, bc_IR_skip hIR ((hre3 i (by omega)).1.mp hc_127)⟩
              · obtain ⟨rr, hrr⟩ := bc_re_n hre3 (by omega) hc_127
                refine lv_aload_n hx hb de_M_analyse_130 rfl (lv_at hl 1 rfl) ?_
                refine lv_iload_n hx hb de_M_analyse_131 rfl (lv_at hl 0 rfl) ?_
                refine bc_call_v_v (As := [.int (nI i)]) (rest := []) (wr := []) F (co_M_goOn hn hlt hSz (hw i hlt) hen3 hre3 hrr) wm_505 wm_6 wm_503 wm_504 wm_635 0 rfl rfl pd_M_goOn rfl rfl ⟨Nat.le_of_ble_eq_true rfl, Nat.le_of_ble_eq_true rfl⟩ hP hD hS hA [0, 1, 2, 3, 4, 5, 6, 7, 8, 9, 10] [] rfl rfl rfl rfl (by decide) rfl hl.1 rfl (Nat.le_of_ble_eq_true rfl) de_M_analyse_132 ⟨Nat.le_of_ble_eq_true rfl, Nat.le_of_ble_eq_true rfl⟩ (fun u_132 H locs hw_132 hP hD hS => ?_)
                obtain ⟨R4, F4, V4, A4, B4, w4⟩ := u_132
                try dsimp only at hw_132
                obtain ⟨g4, hen4, hre4, hrun4⟩ := hw_132
                have hP : va_P (dC, dI) classes [(m0, .inr (5, [.int fa, .ref r1, .ref r2, .ref r3, .ref r4, .ref r5, .int rw, .ref r6, .ref r7, .ref r8, .int w4, .ref r9, .ref r10, .ref r11, .ref r12, .ref r13, .ref r14, .ref r15, .ref r16])), (r1, .inl (cI, 80, .inl K)), (r2, .inl (cI, 80, .inl O)), (r3, .inl (cI, 80, .inl T)), (r4, .inl (cI, 80, .inl Z)), (r5, .inl (cI, 2, .inl Sz)), (r6, .inl (cZ, 40, .inl R4)), (r7, .inl (cI, 240, .inl F4)), (r8, .inl (cI, 240, .inl V4)), (r9, .inl (cI, 6, .inl A4)), (r10, .inl (cI, 6, .inl B4))] H := hP.sub [0, 1, 2, 3, 4, 5, 6, 7, 8, 9, 10] rfl
                have hD : va_D A [(m0, .inr (5, [.int fa, .ref r1, .ref r2, .ref r3, .ref r4, .ref r5, .int rw, .ref r6, .ref r7, .ref r8, .int w4, .ref r9, .ref r10, .ref r11, .ref r12, .ref r13, .ref r14, .ref r15, .ref r16])), (r1, .inl (cI, 80, .inl K)), (r2, .inl (cI, 80, .inl O)), (r3, .inl (cI, 80, .inl T)), (r4, .inl (cI, 80, .inl Z)), (r5, .inl (cI, 2, .inl Sz)), (r6, .inl (cZ, 40, .inl R4)), (r7, .inl (cI, 240, .inl F4)), (r8, .inl (cI, 240, .inl V4)), (r9, .inl (cI, 6, .inl A4)), (r10, .inl (cI, 6, .inl B4))] := hD.sub [0, 1, 2, 3, 4, 5, 6, 7, 8, 9, 10] (by decide) rfl
                refine lv_iinc (k := 0) (v := nI (i + 1)) (lv' := [(1, .int (nI (i + 1))), (0, .ref m0)]) hx hb de_M_analyse_135 hl rfl (bc_inc _) (by decide) rfl (fun ls hl => ?_)
                refine lv_goto (tgt := 111) hx hb de_M_analyse_138 (by decide) ?_
                exact ih_111 _ _ _ _ (by omega) ⟨(i + 1), R4, F4, V4, A4, B4, w4, g4, lv_sub hl [0, 1] rfl, hP, hD, hS, rfl, (by omega), hen4, hre4, bc_IR_step hw hlt hIR hrr hrun4⟩
          · exact ⟨_, 0, R2, F2, V2, A2, B2, 0, g2, lv_sub hl [0, 1] rfl, hP, hD, hS, rfl, Nat.zero_le _, hen2, hre2, ⟨hz2, hlo2, fun _ j hj => absurd hj (Nat.not_lt_zero j), Nat.le_refl _, fun z => absurd rfl z⟩⟩
      · exact ⟨_, upd R1 0 1, F1, V1, Nf, Nv, 1, bc_g0, lv_sub hl [1] rfl, hP, hD, hS, rfl, bc_an_en hJ, bc_an_re hJ, bc_g0_z n, bc_g0_low n K O T Z, fun z => absurd z (by decide)⟩
    · have hi40 : i < 40 := bc_lt (b := 40) (by omega) (by omega) hc_5
      refine lv_aload_n hx hb de_M_analyse_8 rfl (lv_at hl 1 rfl) ?_
      refine va_get (D := (dC, dI)) (ci := 5) (v := .ref r6) (C := rc_M) (T := fc_M) (N := 19) hx hb htw wi_M hown hK hP 0 rfl rfl 7 (by decide) (htw _ wm_430) (fun _ h9 => h9) rfl de_M_analyse_9 ?_
      refine lv_iload_n hx hb de_M_analyse_12 rfl (lv_at hl 0 rfl) ?_
      refine lv_iconst (v := 0) hx hb de_M_analyse_13 (by decide) ?_
      refine bc_zst (j := i) hx hb hK hP hD hS 6 1 rfl rfl (by decide) (by omega) (by decide) de_M_analyse_14 (fun H locs hP hD hS => ?_)
      have hP : va_P (dC, dI) classes [(m0, .inr (5, [.int fa, .ref r1, .ref r2, .ref r3, .ref r4, .ref r5, .int rw, .ref r6, .ref r7, .ref r8, .int gw, .ref r9, .ref r10, .ref r11, .ref r12, .ref r13, .ref r14, .ref r15, .ref r16])), (r1, .inl (cI, 80, .inl K)), (r2, .inl (cI, 80, .inl O)), (r3, .inl (cI, 80, .inl T)), (r4, .inl (cI, 80, .inl Z)), (r5, .inl (cI, 2, .inl Sz)), (r6, .inl (cZ, 40, .inl (upd R1 i 0))), (r7, .inl (cI, 240, .inl F1)), (r8, .inl (cI, 240, .inl V1)), (r9, .inl (cI, 6, .inl Nf)), (r10, .inl (cI, 6, .inl Nv))] H := hP
      have hD : va_D A [(m0, .inr (5, [.int fa, .ref r1, .ref r2, .ref r3, .ref r4, .ref r5, .int rw, .ref r6, .ref r7, .ref r8, .int gw, .ref r9, .ref r10, .ref r11, .ref r12, .ref r13, .ref r14, .ref r15, .ref r16])), (r1, .inl (cI, 80, .inl K)), (r2, .inl (cI, 80, .inl O)), (r3, .inl (cI, 80, .inl T)), (r4, .inl (cI, 80, .inl Z)), (r5, .inl (cI, 2, .inl Sz)), (r6, .inl (cZ, 40, .inl (upd R1 i 0))), (r7, .inl (cI, 240, .inl F1)), (r8, .inl (cI, 240, .inl V1)), (r9, .inl (cI, 6, .inl Nf)), (r10, .inl (cI, 6, .inl Nv))] := hD
      refine lv_iconst (v := 0) hx hb de_M_analyse_15 (by decide) ?_
      refine bc_ti (y := nI 0) nI_0.symm ?_
      refine lv_istore_n (lv' := [(2, .int (nI 0)), (1, .int (nI i)), (0, .ref m0)]) hx hb de_M_analyse_16 rfl hl (by decide) rfl (fun ls hl => ?_)
      refine bc_loop (fun k_17 H locs ls => ∃ (v : Nat) (F2 : bc_F) (V2 : bc_F), lv_has ls 3 [(2, .int (nI v)), (1, .int (nI i)), (0, .ref m0)] ∧ va_P (dC, dI) classes [(m0, .inr (5, [.int fa, .ref r1, .ref r2, .ref r3, .ref r4, .ref r5, .int rw, .ref r6, .ref r7, .ref r8, .int gw, .ref r9, .ref r10, .ref r11, .ref r12, .ref r13, .ref r14, .ref r15, .ref r16])), (r1, .inl (cI, 80, .inl K)), (r2, .inl (cI, 80, .inl O)), (r3, .inl (cI, 80, .inl T)), (r4, .inl (cI, 80, .inl Z)), (r5, .inl (cI, 2, .inl Sz)), (r6, .inl (cZ, 40, .inl (upd R1 i 0))), (r7, .inl (cI, 240, .inl F2)), (r8, .inl (cI, 240, .inl V2)), (r9, .inl (cI, 6, .inl Nf)), (r10, .inl (cI, 6, .inl Nv))] H ∧ va_D A [(m0, .inr (5, [.int fa, .ref r1, .ref r2, .ref r3, .ref r4, .ref r5, .int rw, .ref r6, .ref r7, .ref r8, .int gw, .ref r9, .ref r10, .ref r11, .ref r12, .ref r13, .ref r14, .ref r15, .ref r16])), (r1, .inl (cI, 80, .inl K)), (r2, .inl (cI, 80, .inl O)), (r3, .inl (cI, 80, .inl T)), (r4, .inl (cI, 80, .inl Z)), (r5, .inl (cI, 2, .inl Sz)), (r6, .inl (cZ, 40, .inl (upd R1 i 0))), (r7, .inl (cI, 240, .inl F2)), (r8, .inl (cI, 240, .inl V2)), (r9, .inl (cI, 6, .inl Nf)), (r10, .inl (cI, 6, .inl Nv))] ∧ va_S A s.heap H locs ∧ k_17 = 6 - v ∧ (v ≤ 6) ∧ (bc_ai i v F2 V2)) ?_ ?_
      · rintro k_17 H locs ls ⟨v, F2, V2, hl, hP, hD, hS, hk_17, hv, hJ2⟩ ih_17
        refine lv_iload_n hx hb de_M_analyse_17 rfl (lv_at hl 0 rfl) ?_
        refine lv_bipush (v := 6) hx hb de_M_analyse_18 (by decide) ?_
        refine lv_icmp_ge (tgt := 61) hx hb de_M_analyse_20 (by decide) (fun hc_20 => ?_) (fun hc_20 => ?_)
        · have heq : v = 6 := by have := bc_ge (b := 6) (by omega) (by omega) hc_20; omega
          rw [heq] at hJ2
          refine lv_iinc (k := 1) (v := nI (i + 1)) (lv' := [(1, .int (nI (i + 1))), (2, .int (nI v)), (0, .ref m0)]) hx hb de_M_analyse_61 hl rfl (bc_inc _) (by decide) rfl (fun ls hl => ?_)
          refine lv_goto (tgt := 2) hx hb de_M_analyse_64 (by decide) ?_
          exact ih_2 _ _ _ _ (by omega) ⟨(i + 1), upd R1 i 0, F2, V2, lv_sub hl [0, 2] rfl, hP, hD, hS, rfl, (by omega), bc_an_s hJ hJ2⟩
        · have hv6 : v < 6 := bc_lt (b := 6) (by omega) (by omega) hc_20
          refine lv_aload_n hx hb de_M_analyse_23 rfl (lv_at hl 2 rfl) ?_
          refine va_get (D := (dC, dI)) (ci := 5) (v := .ref r7) (C := rc_M) (T := fc_M) (N := 19) hx hb htw wi_M hown hK hP 0 rfl rfl 8 (by decide) (htw _ wm_431) (fun _ h9 => h9) rfl de_M_analyse_24 ?_
          refine lv_bipush (v := 6) hx hb de_M_analyse_27 (by decide) ?_
          refine lv_iload_n hx hb de_M_analyse_29 rfl (lv_at hl 1 rfl) ?_
          refine lv_imul hx hb de_M_analyse_30 ?_
          refine bc_ti (y := nI (6 * i)) (pk_mul 6 i) ?_
          refine lv_iload_n hx hb de_M_analyse_31 rfl (lv_at hl 0 rfl) ?_
          refine lv_iadd hx hb de_M_analyse_32 ?_
          refine bc_ti (y := nI ((6 * i) + v)) (nI_add (6 * i) v) ?_
          refine lv_iload_n hx hb de_M_analyse_33 rfl (lv_at hl 1 rfl) ?_
          refine lv_if_ne (tgt := 41) hx hb de_M_analyse_34 (by decide) (fun hc_34 => ?_) (fun hc_34 => ?_)
          · refine lv_iconst (v := 0) hx hb de_M_analyse_41 (by decide) ?_
            refine bc_ist (j := (6 * i) + v) hx hb hK hP hD hS 7 0 rfl rfl (by omega) (by decide) de_M_analyse_42 (fun H locs hP hD hS => ?_)
            have hP : va_P (dC, dI) classes [(m0, .inr (5, [.int fa, .ref r1, .ref r2, .ref r3, .ref r4, .ref r5, .int rw, .ref r6, .ref r7, .ref r8, .int gw, .ref r9, .ref r10, .ref r11, .ref r12, .ref r13, .ref r14, .ref r15, .ref r16])), (r1, .inl (cI, 80, .inl K)), (r2, .inl (cI, 80, .inl O)), (r3, .inl (cI, 80, .inl T)), (r4, .inl (cI, 80, .inl Z)), (r5, .inl (cI, 2, .inl Sz)), (r6, .inl (cZ, 40, .inl (upd R1 i 0))), (r7, .inl (cI, 240, .inl (upd F2 ((6 * i) + v) 0))), (r8, .inl (cI, 240, .inl V2)), (r9, .inl (cI, 6, .inl Nf)), (r10, .inl (cI, 6, .inl Nv))] H := hP
            have hD : va_D A [(m0, .inr (5, [.int fa, .ref r1, .ref r2, .ref r3, .ref r4, .ref r5, .int rw, .ref r6, .ref r7, .ref r8, .int gw, .ref r9, .ref r10, .ref r11, .ref r12, .ref r13, .ref r14, .ref r15, .ref r16])), (r1, .inl (cI, 80, .inl K)), (r2, .inl (cI, 80, .inl O)), (r3, .inl (cI, 80, .inl T)), (r4, .inl (cI, 80, .inl Z)), (r5, .inl (cI, 2, .inl Sz)), (r6, .inl (cZ, 40, .inl (upd R1 i 0))), (r7, .inl (cI, 240, .inl (upd F2 ((6 * i) + v) 0))), (r8, .inl (cI, 240, .inl V2)), (r9, .inl (cI, 6, .inl Nf)), (r10, .inl (cI, 6, .inl Nv))] := hD
            refine lv_aload_n hx hb de_M_analyse_43 rfl (lv_at hl 2 rfl) ?_
            refine va_get (D := (dC, dI)) (ci := 5) (v := .ref r8) (C := rc_M) (T := fc_M) (N := 19) hx hb htw wi_M hown hK hP 0 rfl rfl 9 (by decide) (htw _ wm_432) (fun _ h9 => h9) rfl de_M_analyse_44 ?_
            refine lv_bipush (v := 6) hx hb de_M_analyse_47 (by decide) ?_
            refine lv_iload_n hx hb de_M_analyse_49 rfl (lv_at hl 1 rfl) ?_
            refine lv_imul hx hb de_M_analyse_50 ?_
            refine bc_ti (y := nI (6 * i)) (pk_mul 6 i) ?_
            refine lv_iload_n hx hb de_M_analyse_51 rfl (lv_at hl 0 rfl) ?_
            refine lv_iadd hx hb de_M_analyse_52 ?_
            refine bc_ti (y := nI ((6 * i) + v)) (nI_add (6 * i) v) ?_
            refine lv_iconst (v := 0) hx hb de_M_analyse_53 (by decide) ?_
            refine bc_ist (j := (6 * i) + v) hx hb hK hP hD hS 8 0 rfl rfl (by omega) (by decide) de_M_analyse_54 (fun H locs hP hD hS => ?_)
            have hP : va_P (dC, dI) classes [(m0, .inr (5, [.int fa, .ref r1, .ref r2, .ref r3, .ref r4, .ref r5, .int rw, .ref r6, .ref r7, .ref r8, .int gw, .ref r9, .ref r10, .ref r11, .ref r12, .ref r13, .ref r14, .ref r15, .ref r16])), (r1, .inl (cI, 80, .inl K)), (r2, .inl (cI, 80, .inl O)), (r3, .inl (cI, 80, .inl T)), (r4, .inl (cI, 80, .inl Z)), (r5, .inl (cI, 2, .inl Sz)), (r6, .inl (cZ, 40, .inl (upd R1 i 0))), (r7, .inl (cI, 240, .inl (upd F2 ((6 * i) + v) 0))), (r8, .inl (cI, 240, .inl (upd V2 ((6 * i) + v) 0))), (r9, .inl (cI, 6, .inl Nf)), (r10, .inl (cI, 6, .inl Nv))] H := hP
            have hD : va_D A [(m0, .inr (5, [.int fa, .ref r1, .ref r2, .ref r3, .ref r4, .ref r5, .int rw, .ref r6, .ref r7, .ref r8, .int gw, .ref r9, .ref r10, .ref r11, .ref r12, .ref r13, .ref r14, .ref r15, .ref r16])), (r1, .inl (cI, 80, .inl K)), (r2, .inl (cI, 80, .inl O)), (r3, .inl (cI, 80, .inl T)), (r4, .inl (cI, 80, .inl Z)), (r5, .inl (cI, 2, .inl Sz)), (r6, .inl (cZ, 40, .inl (upd R1 i 0))), (r7, .inl (cI, 240, .inl (upd F2 ((6 * i) + v) 0))), (r8, .inl (cI, 240, .inl (upd V2 ((6 * i) + v) 0))), (r9, .inl (cI, 6, .inl Nf)), (r10, .inl (cI, 6, .inl Nv))] := hD
            refine lv_iinc (k := 0) (v := nI (v + 1)) (lv' := [(2, .int (nI (v + 1))), (1, .int (nI i)), (0, .ref m0)]) hx hb de_M_analyse_55 hl rfl (bc_inc _) (by decide) rfl (fun ls hl => ?_)
            refine lv_goto (tgt := 17) hx hb de_M_analyse_58 (by decide) ?_
            exact ih_17 _ _ _ _ (by omega) ⟨(v + 1), upd F2 (6 * i + v) 0, upd V2 (6 * i + v) 0, lv_sub hl [0, 1, 2] rfl, hP, hD, hS, rfl, (by omega), bc_ai_s (by omega) hJ2 (by rw [if_neg (fun z => hc_34 (by rw [z]; rfl))])⟩
          · refine lv_iconst (v := 1) hx hb de_M_analyse_37 (by decide) ?_
            refine lv_goto (tgt := 42) hx hb de_M_analyse_38 (by decide) ?_
            refine bc_ist (j := (6 * i) + v) hx hb hK hP hD hS 7 0 rfl rfl (by omega) (by decide) de_M_analyse_42 (fun H locs hP hD hS => ?_)
            have hP : va_P (dC, dI) classes [(m0, .inr (5, [.int fa, .ref r1, .ref r2, .ref r3, .ref r4, .ref r5, .int rw, .ref r6, .ref r7, .ref r8, .int gw, .ref r9, .ref r10, .ref r11, .ref r12, .ref r13, .ref r14, .ref r15, .ref r16])), (r1, .inl (cI, 80, .inl K)), (r2, .inl (cI, 80, .inl O)), (r3, .inl (cI, 80, .inl T)), (r4, .inl (cI, 80, .inl Z)), (r5, .inl (cI, 2, .inl Sz)), (r6, .inl (cZ, 40, .inl (upd R1 i 0))), (r7, .inl (cI, 240, .inl (upd F2 ((6 * i) + v) 1))), (r8, .inl (cI, 240, .inl V2)), (r9, .inl (cI, 6, .inl Nf)), (r10, .inl (cI, 6, .inl Nv))] H := hP
            have hD : va_D A [(m0, .inr (5, [.int fa, .ref r1, .ref r2, .ref r3, .ref r4, .ref r5, .int rw, .ref r6, .ref r7, .ref r8, .int gw, .ref r9, .ref r10, .ref r11, .ref r12, .ref r13, .ref r14, .ref r15, .ref r16])), (r1, .inl (cI, 80, .inl K)), (r2, .inl (cI, 80, .inl O)), (r3, .inl (cI, 80, .inl T)), (r4, .inl (cI, 80, .inl Z)), (r5, .inl (cI, 2, .inl Sz)), (r6, .inl (cZ, 40, .inl (upd R1 i 0))), (r7, .inl (cI, 240, .inl (upd F2 ((6 * i) + v) 1))), (r8, .inl (cI, 240, .inl V2)), (r9, .inl (cI, 6, .inl Nf)), (r10, .inl (cI, 6, .inl Nv))] := hD
            refine lv_aload_n hx hb de_M_analyse_43 rfl (lv_at hl 2 rfl) ?_
            refine va_get (D := (dC, dI)) (ci := 5) (v := .ref r8) (C := rc_M) (T := fc_M) (N := 19) hx hb htw wi_M hown hK hP 0 rfl rfl 9 (by decide) (htw _ wm_432) (fun _ h9 => h9) rfl de_M_analyse_44 ?_
            refine lv_bipush (v := 6) hx hb de_M_analyse_47 (by decide) ?_
            refine lv_iload_n hx hb de_M_analyse_49 rfl (lv_at hl 1 rfl) ?_
            refine lv_imul hx hb de_M_analyse_50 ?_
            refine bc_ti (y := nI (6 * i)) (pk_mul 6 i) ?_
            refine lv_iload_n hx hb de_M_analyse_51 rfl (lv_at hl 0 rfl) ?_
            refine lv_iadd hx hb de_M_analyse_52 ?_
            refine bc_ti (y := nI ((6 * i) + v)) (nI_add (6 * i) v) ?_
            refine lv_iconst (v := 0) hx hb de_M_analyse_53 (by decide) ?_
            refine bc_ist (j := (6 * i) + v) hx hb hK hP hD hS 8 0 rfl rfl (by omega) (by decide) de_M_analyse_54 (fun H locs hP hD hS => ?_)
            have hP : va_P (dC, dI) classes [(m0, .inr (5, [.int fa, .ref r1, .ref r2, .ref r3, .ref r4, .ref r5, .int rw, .ref r6, .ref r7, .ref r8, .int gw, .ref r9, .ref r10, .ref r11, .ref r12, .ref r13, .ref r14, .ref r15, .ref r16])), (r1, .inl (cI, 80, .inl K)), (r2, .inl (cI, 80, .inl O)), (r3, .inl (cI, 80, .inl T)), (r4, .inl (cI, 80, .inl Z)), (r5, .inl (cI, 2, .inl Sz)), (r6, .inl (cZ, 40, .inl (upd R1 i 0))), (r7, .inl (cI, 240, .inl (upd F2 ((6 * i) + v) 1))), (r8, .inl (cI, 240, .inl (upd V2 ((6 * i) + v) 0))), (r9, .inl (cI, 6, .inl Nf)), (r10, .inl (cI, 6, .inl Nv))] H := hP
            have hD : va_D A [(m0, .inr (5, [.int fa, .ref r1, .ref r2, .ref r3, .ref r4, .ref r5, .int rw, .ref r6, .ref r7, .ref r8, .int gw, .ref r9, .ref r10, .ref r11, .ref r12, .ref r13, .ref r14, .ref r15, .ref r16])), (r1, .inl (cI, 80, .inl K)), (r2, .inl (cI, 80, .inl O)), (r3, .inl (cI, 80, .inl T)), (r4, .inl (cI, 80, .inl Z)), (r5, .inl (cI, 2, .inl Sz)), (r6, .inl (cZ, 40, .inl (upd R1 i 0))), (r7, .inl (cI, 240, .inl (upd F2 ((6 * i) + v) 1))), (r8, .inl (cI, 240, .inl (upd V2 ((6 * i) + v) 0))), (r9, .inl (cI, 6, .inl Nf)), (r10, .inl (cI, 6, .inl Nv))] := hD
            refine lv_iinc (k := 0) (v := nI (v + 1)) (lv' := [(2, .int (nI (v + 1))), (1, .int (nI i)), (0, .ref m0)]) hx hb de_M_analyse_55 hl rfl (bc_inc _) (by decide) rfl (fun ls hl => ?_)
            refine lv_goto (tgt := 17) hx hb de_M_analyse_58 (by decide) ?_
            exact ih_17 _ _ _ _ (by omega) ⟨(v + 1), upd F2 (6 * i + v) 1, upd V2 (6 * i + v) 0, lv_sub hl [0, 1, 2] rfl, hP, hD, hS, rfl, (by omega), bc_ai_s (by omega) hJ2 (by rw [if_pos (bc_nI0 hi40 hc_34)])⟩
      · exact ⟨_, 0, F1, V1, lv_sub hl [0, 1, 2] rfl, hP, hD, hS, rfl, Nat.zero_le _, bc_ai_0 hJ⟩
  · exact ⟨_, 0, Re, Fa, Va, lv_sub hl [0, 1] rfl, hP, hD, hS, rfl, Nat.zero_le _, fun j hj => absurd hj (Nat.not_lt_zero j)⟩

set_option maxHeartbeats 4000000 in
set_option maxRecDepth 100000 in
/-- the analysis of an empty program -/
theorem co_M_analyse0 {l : Launch} {dC : Nat → ClassId} {dI : Nat → Nat → Nat} {cI cZ : ClassId} {sz : Nat} {m0 r1 r2 r3 r4 r5 r6 r7 r8 r9 r10 r11 r12 r13 r14 r15 r16 : Nat} {K O T Z Sz Re Fa Va Nf Nv : bc_F} {fa rw gw : Int32} (hSz : Sz 0 = nI 0) : Met l yn_M_analyse (Cond.code yn_M_analyse by_M_analyse 3 none :: wd_all) ({ frames := 3, cells := 0, slots := 0, locals := 71 } : Room) (bc_Pre (dC, dI) classes [(cI, .int), (cZ, .boolean)] [.ref m0] [(m0, .inr (5, [.int fa, .ref r1, .ref r2, .ref r3, .ref r4, .ref r5, .int rw, .ref r6, .ref r7, .ref r8, .int gw, .ref r9, .ref r10, .ref r11, .ref r12, .ref r13, .ref r14, .ref r15, .ref r16])), (r1, .inl (cI, 80, .inl K)), (r2, .inl (cI, 80, .inl O)), (r3, .inl (cI, 80, .inl T)), (r4, .inl (cI, 80, .inl Z)), (r5, .inl (cI, 2, .inl Sz)), (r6, .inl (cZ, 40, .inl Re)), (r7, .inl (cI, 240, .inl Fa)), (r8, .inl (cI, 240, .inl Va)), (r9, .inl (cI, 6, .inl Nf)), (r10, .inl (cI, 6, .inl Nv))] sz) (va_Qv (fun (u : bc_F × bc_F × bc_F × bc_F × bc_F × Int32) => True) (fun (u : bc_F × bc_F × bc_F × bc_F × bc_F × Int32) t => bc_B (dC, dI) classes [(cI, .int), (cZ, .boolean)] (va_A [(m0, .inr (5, [.int fa, .ref r1, .ref r2, .ref r3, .ref r4, .ref r5, .int rw, .ref r6, .ref r7, .ref r8, .int gw, .ref r9, .ref r10, .ref r11, .ref r12, .ref r13, .ref r14, .ref r15, .ref r16])), (r1, .inl (cI, 80, .inl K)), (r2, .inl (cI, 80, .inl O)), (r3, .inl (cI, 80, .inl T)), (r4, .inl (cI, 80, .inl Z)), (r5, .inl (cI, 2, .inl Sz)), (r6, .inl (cZ, 40, .inl Re)), (r7, .inl (cI, 240, .inl Fa)), (r8, .inl (cI, 240, .inl Va)), (r9, .inl (cI, 6, .inl Nf)), (r10, .inl (cI, 6, .inl Nv))] sz) [(m0, .inr (5, [.int fa, .ref r1, .ref r2, .ref r3, .ref r4, .ref r5, .int rw, .ref r6, .ref r7, .ref r8, .int u.2.2.2.2.2, .ref r9, .ref r10, .ref r11, .ref r12, .ref r13, .ref r14, .ref r15, .ref r16])), (r1, .inl (cI, 80, .inl K)), (r2, .inl (cI, 80, .inl O)), (r3, .inl (cI, 80, .inl T)), (r4, .inl (cI, 80, .inl Z)), (r5, .inl (cI, 2, .inl Sz)), (r6, .inl (cZ, 40, .inl u.1)), (r7, .inl (cI, 240, .inl u.2.1)), (r8, .inl (cI, 240, .inl u.2.2.1)), (r9, .inl (cI, 6, .inl u.2.2.2.1)), (r10, .inl (cI, 6, .inl u.2.2.2.2.1))] t) ((va_A [(m0, .inr (5, [.int fa, .ref r1, .ref r2, .ref r3, .ref r4, .ref r5, .int rw, .ref r6, .ref r7, .ref r8, .int gw, .ref r9, .ref r10, .ref r11, .ref r12, .ref r13, .ref r14, .ref r15, .ref r16])), (r1, .inl (cI, 80, .inl K)), (r2, .inl (cI, 80, .inl O)), (r3, .inl (cI, 80, .inl T)), (r4, .inl (cI, 80, .inl Z)), (r5, .inl (cI, 2, .inl Sz)), (r6, .inl (cZ, 40, .inl Re)), (r7, .inl (cI, 240, .inl Fa)), (r8, .inl (cI, 240, .inl Va)), (r9, .inl (cI, 6, .inl Nf)), (r10, .inl (cI, 6, .inl Nv))] sz))) 0 0 (va_A [(m0, .inr (5, [.int fa, .ref r1, .ref r2, .ref r3, .ref r4, .ref r5, .int rw, .ref r6, .ref r7, .ref r8, .int gw, .ref r9, .ref r10, .ref r11, .ref r12, .ref r13, .ref r14, .ref r15, .ref r16])), (r1, .inl (cI, 80, .inl K)), (r2, .inl (cI, 80, .inl O)), (r3, .inl (cI, 80, .inl T)), (r4, .inl (cI, 80, .inl Z)), (r5, .inl (cI, 2, .inl Sz)), (r6, .inl (cZ, 40, .inl Re)), (r7, .inl (cI, 240, .inl Fa)), (r8, .inl (cI, 240, .inl Va)), (r9, .inl (cI, 6, .inl Nf)), (r10, .inl (cI, 6, .inl Nv))] sz) := by
  refine bc_met (fun A => va_Qv (fun (u : bc_F × bc_F × bc_F × bc_F × bc_F × Int32) => True) (fun (u : bc_F × bc_F × bc_F × bc_F × bc_F × Int32) t => bc_B (dC, dI) classes [(cI, .int), (cZ, .boolean)] A [(m0, .inr (5, [.int fa, .ref r1, .ref r2, .ref r3, .ref r4, .ref r5, .int rw, .ref r6, .ref r7, .ref r8, .int u.2.2.2.2.2, .ref r9, .ref r10, .ref r11, .ref r12, .ref r13, .ref r14, .ref r15, .ref r16])), (r1, .inl (cI, 80, .inl K)), (r2, .inl (cI, 80, .inl O)), (r3, .inl (cI, 80, .inl T)), (r4, .inl (cI, 80, .inl Z)), (r5, .inl (cI, 2, .inl Sz)), (r6, .inl (cZ, 40, .inl u.1)), (r7, .inl (cI, 240, .inl u.2.1)), (r8, .inl (cI, 240, .inl u.2.2.1)), (r9, .inl (cI, 6, .inl u.2.2.2.1)), (r10, .inl (cI, 6, .inl u.2.2.2.2.1))] t) A) (by decide) (Nat.le_of_ble_eq_true rfl) ?_
  intro p e s m args below meth c A ls F hr hlocks hin hA hP hD hl hS
  have hx := F.1
  have hb := F.2.1
  have hml := F.2.2.1
  have hown : s.vm.findClass "BranchConstantsModel" = some m.cls := F.2.2.2.1
  have htw := F.2.2.2.2.1
  have hN := F.2.2.2.2.2.1
  have hK := F.2.2.2.2.2.2
  have hl : lv_has ls 3 [(0, .ref m0)] := hl
  refine lv_iconst (v := 0) hx hb de_M_analyse_0 (by decide) ?_
  refine bc_ti (y := nI 0) nI_0.symm ?_
  refine lv_istore_n (lv' := [(1, .int (nI 0)), (0, .ref m0)]) hx hb de_M_analyse_1 rfl hl (by decide) rfl (fun ls hl => ?_)
  refine bc_loop (fun k_2 H locs ls => ∃ (i : Nat) (R1 : bc_F) (F1 : bc_F) (V1 : bc_F), lv_has ls 3 [(1, .int (nI i)), (0, .ref m0)] ∧ va_P (dC, dI) classes [(m0, .inr (5, [.int fa, .ref r1, .ref r2, .ref r3, .ref r4, .ref r5, .int rw, .ref r6, .ref r7, .ref r8, .int gw, .ref r9, .ref r10, .ref r11, .ref r12, .ref r13, .ref r14, .ref r15, .ref r16])), (r1, .inl (cI, 80, .inl K)), (r2, .inl (cI, 80, .inl O)), (r3, .inl (cI, 80, .inl T)), (r4, .inl (cI, 80, .inl Z)), (r5, .inl (cI, 2, .inl Sz)), (r6, .inl (cZ, 40, .inl R1)), (r7, .inl (cI, 240, .inl F1)), (r8, .inl (cI, 240, .inl V1)), (r9, .inl (cI, 6, .inl Nf)), (r10, .inl (cI, 6, .inl Nv))] H ∧ va_D A [(m0, .inr (5, [.int fa, .ref r1, .ref r2, .ref r3, .ref r4, .ref r5, .int rw, .ref r6, .ref r7, .ref r8, .int gw, .ref r9, .ref r10, .ref r11, .ref r12, .ref r13, .ref r14, .ref r15, .ref r16])), (r1, .inl (cI, 80, .inl K)), (r2, .inl (cI, 80, .inl O)), (r3, .inl (cI, 80, .inl T)), (r4, .inl (cI, 80, .inl Z)), (r5, .inl (cI, 2, .inl Sz)), (r6, .inl (cZ, 40, .inl R1)), (r7, .inl (cI, 240, .inl F1)), (r8, .inl (cI, 240, .inl V1)), (r9, .inl (cI, 6, .inl Nf)), (r10, .inl (cI, 6, .inl Nv))] ∧ va_S A s.heap H locs ∧ k_2 = 40 - i ∧ (i ≤ 40) ∧ (bc_an i R1 F1 V1)) ?_ ?_
  · rintro k_2 H locs ls ⟨i, R1, F1, V1, hl, hP, hD, hS, hk_2, hi, hJ⟩ ih_2
    refine lv_iload_n hx hb de_M_analyse_2 rfl (lv_at hl 0 rfl) ?_
    refine lv_bipush (v := 40) hx hb de_M_analyse_3 (by decide) ?_
    refine lv_icmp_ge (tgt := 67) hx hb de_M_analyse_5 (by decide) (fun hc_5 => ?_) (fun hc_5 => ?_)
    · have heq2 : i = 40 := by have := bc_ge (b := 40) (by omega) (by omega) hc_5; omega
      subst heq2
      refine lv_aload_n hx hb de_M_analyse_67 rfl (lv_at hl 1 rfl) ?_
      refine va_get (D := (dC, dI)) (ci := 5) (v := .ref r6) (C := rc_M) (T := fc_M) (N := 19) hx hb htw wi_M hown hK hP 0 rfl rfl 7 (by decide) (htw _ wm_430) (fun _ h9 => h9) rfl de_M_analyse_68 ?_
      refine lv_iconst (v := 0) hx hb de_M_analyse_71 (by decide) ?_
      refine lv_aload_n hx hb de_M_analyse_72 rfl (lv_at hl 1 rfl) ?_
      refine va_get (D := (dC, dI)) (ci := 5) (v := .ref r5) (C := rc_M) (T := fc_M) (N := 19) hx hb htw wi_M hown hK hP 0 rfl rfl 5 (by decide) (htw _ wm_428) (fun _ h9 => h9) rfl de_M_analyse_73 ?_
      refine lv_iconst (v := 0) hx hb de_M_analyse_76 (by decide) ?_
      refine bc_ildE (by decide) (j := 0) hx hb hK hP 5 0 rfl rfl (by omega) (by decide) de_M_analyse_77 ?_
      refine bc_ti (y := nI 0) hSz ?_
      refine lv_if_le (tgt := 85) hx hb de_M_analyse_78 (by decide) (fun _ => ?_) (fun hc => absurd (by decide) hc)
      refine lv_iconst (v := 0) hx hb de_M_analyse_85 (by decide) ?_
      refine bc_zstE (by decide) (j := 0) hx hb hK hP hD hS 6 1 rfl rfl (by decide) (by omega) (by decide) de_M_analyse_86 (fun H locs hP hD hS => ?_)
      have hP : va_P (dC, dI) classes [(m0, .inr (5, [.int fa, .ref r1, .ref r2, .ref r3, .ref r4, .ref r5, .int rw, .ref r6, .ref r7, .ref r8, .int gw, .ref r9, .ref r10, .ref r11, .ref r12, .ref r13, .ref r14, .ref r15, .ref r16])), (r1, .inl (cI, 80, .inl K)), (r2, .inl (cI, 80, .inl O)), (r3, .inl (cI, 80, .inl T)), (r4, .inl (cI, 80, .inl Z)), (r5, .inl (cI, 2, .inl Sz)), (r6, .inl (cZ, 40, .inl (upd R1 0 0))), (r7, .inl (cI, 240, .inl F1)), (r8, .inl (cI, 240, .inl V1)), (r9, .inl (cI, 6, .inl Nf)), (r10, .inl (cI, 6, .inl Nv))] H := hP
      have hD : va_D A [(m0, .inr (5, [.int fa, .ref r1, .ref r2, .ref r3, .ref r4, .ref r5, .int rw, .ref r6, .ref r7, .ref r8, .int gw, .ref r9, .ref r10, .ref r11, .ref r12, .ref r13, .ref r14, .ref r15, .ref r16])), (r1, .inl (cI, 80, .inl K)), (r2, .inl (cI, 80, .inl O)), (r3, .inl (cI, 80, .inl T)), (r4, .inl (cI, 80, .inl Z)), (r5, .inl (cI, 2, .inl Sz)), (r6, .inl (cZ, 40, .inl (upd R1 0 0))), (r7, .inl (cI, 240, .inl F1)), (r8, .inl (cI, 240, .inl V1)), (r9, .inl (cI, 6, .inl Nf)), (r10, .inl (cI, 6, .inl Nv))] := hD
      refine lv_aload_n hx hb de_M_analyse_87 rfl (lv_at hl 1 rfl) ?_
      refine lv_aload_n hx hb de_M_analyse_88 rfl (lv_at hl 1 rfl) ?_
      refine va_get (D := (dC, dI)) (ci := 5) (v := .ref r6) (C := rc_M) (T := fc_M) (N := 19) hx hb htw wi_M hown hK hP 0 rfl rfl 7 (by decide) (htw _ wm_430) (fun _ h9 => h9) rfl de_M_analyse_89 ?_
      refine lv_iconst (v := 0) hx hb de_M_analyse_92 (by decide) ?_
      refine bc_zldE (by decide) (j := 0) hx hb hK hP 6 1 rfl rfl (by omega) (by decide) de_M_analyse_93 ?_
      refine bc_ti (y := 0) pk_us ?_
      refine va_put (D := (dC, dI)) (ci := 5) (v := .int 0) (ty := .boolean) (C := rc_M) (T := fc_M) (N := 19) hx hb htw wi_M tc_M tc_M_ok nc_M hown hK hP hD hS 0 rfl rfl 10 (by decide) (htw _ wm_433) (fun _ h9 => h9) rfl (by decide +kernel) rfl rfl (Nat.le_of_ble_eq_true rfl) de_M_analyse_94 (fun H locs hP hD hS => ?_)
      have hP : va_P (dC, dI) classes [(m0, .inr (5, [.int fa, .ref r1, .ref r2, .ref r3, .ref r4, .ref r5, .int rw, .ref r6, .ref r7, .ref r8, .int 0, .ref r9, .ref r10, .ref r11, .ref r12, .ref r13, .ref r14, .ref r15, .ref r16])), (r1, .inl (cI, 80, .inl K)), (r2, .inl (cI, 80, .inl O)), (r3, .inl (cI, 80, .inl T)), (r4, .inl (cI, 80, .inl Z)), (r5, .inl (cI, 2, .inl Sz)), (r6, .inl (cZ, 40, .inl (upd R1 0 0))), (r7, .inl (cI, 240, .inl F1)), (r8, .inl (cI, 240, .inl V1)), (r9, .inl (cI, 6, .inl Nf)), (r10, .inl (cI, 6, .inl Nv))] H := hP
      have hD : va_D A [(m0, .inr (5, [.int fa, .ref r1, .ref r2, .ref r3, .ref r4, .ref r5, .int rw, .ref r6, .ref r7, .ref r8, .int 0, .ref r9, .ref r10, .ref r11, .ref r12, .ref r13, .ref r14, .ref r15, .ref r16])), (r1, .inl (cI, 80, .inl K)), (r2, .inl (cI, 80, .inl O)), (r3, .inl (cI, 80, .inl T)), (r4, .inl (cI, 80, .inl Z)), (r5, .inl (cI, 2, .inl Sz)), (r6, .inl (cZ, 40, .inl (upd R1 0 0))), (r7, .inl (cI, 240, .inl F1)), (r8, .inl (cI, 240, .inl V1)), (r9, .inl (cI, 6, .inl Nf)), (r10, .inl (cI, 6, .inl Nv))] := hD
      refine lv_aload_n hx hb de_M_analyse_97 rfl (lv_at hl 1 rfl) ?_
      refine va_get (D := (dC, dI)) (ci := 5) (v := .int 0) (C := rc_M) (T := fc_M) (N := 19) hx hb htw wi_M hown hK hP 0 rfl rfl 10 (by decide) (htw _ wm_433) (fun _ h9 => h9) rfl de_M_analyse_98 ?_
      refine lv_if_eq (tgt := 144) hx hb de_M_analyse_101 (by decide) (fun _ => ?_) (fun hc => absurd (by decide) hc)
      exact bc_vret F hr hlocks ((upd R1 0 0, F1, V1, Nf, Nv, 0)) trivial hP hD hS de_M_analyse_144
    · have hi40 : i < 40 := bc_lt (b := 40) (by omega) (by omega) hc_5
      refine lv_aload_n hx hb de_M_analyse_8 rfl (lv_at hl 1 rfl) ?_
      refine va_get (D := (dC, dI)) (ci := 5) (v := .ref r6) (C := rc_M) (T := fc_M) (N := 19) hx hb htw wi_M hown hK hP 0 rfl rfl 7 (by decide) (htw _ wm_430) (fun _ h9 => h9) rfl de_M_analyse_9 ?_
      refine lv_iload_n hx hb de_M_analyse_12 rfl (lv_at hl 0 rfl) ?_
      refine lv_iconst (v := 0) hx hb de_M_analyse_13 (by decide) ?_
      refine bc_zst (j := i) hx hb hK hP hD hS 6 1 rfl rfl (by decide) (by omega) (by decide) de_M_analyse_14 (fun H locs hP hD hS => ?_)
      have hP : va_P (dC, dI) classes [(m0, .inr (5, [.int fa, .ref r1, .ref r2, .ref r3, .ref r4, .ref r5, .int rw, .ref r6, .ref r7, .ref r8, .int gw, .ref r9, .ref r10, .ref r11, .ref r12, .ref r13, .ref r14, .ref r15, .ref r16])), (r1, .inl (cI, 80, .inl K)), (r2, .inl (cI, 80, .inl O)), (r3, .inl (cI, 80, .inl T)), (r4, .inl (cI, 80, .inl Z)), (r5, .inl (cI, 2, .inl Sz)), (r6, .inl (cZ, 40, .inl (upd R1 i 0))), (r7, .inl (cI, 240, .inl F1)), (r8, .inl (cI, 240, .inl V1)), (r9, .inl (cI, 6, .inl Nf)), (r10, .inl (cI, 6, .inl Nv))] H := hP
      have hD : va_D A [(m0, .inr (5, [.int fa, .ref r1, .ref r2, .ref r3, .ref r4, .ref r5, .int rw, .ref r6, .ref r7, .ref r8, .int gw, .ref r9, .ref r10, .ref r11, .ref r12, .ref r13, .ref r14, .ref r15, .ref r16])), (r1, .inl (cI, 80, .inl K)), (r2, .inl (cI, 80, .inl O)), (r3, .inl (cI, 80, .inl T)), (r4, .inl (cI, 80, .inl Z)), (r5, .inl (cI, 2, .inl Sz)), (r6, .inl (cZ, 40, .inl (upd R1 i 0))), (r7, .inl (cI, 240, .inl F1)), (r8, .inl (cI, 240, .inl V1)), (r9, .inl (cI, 6, .inl Nf)), (r10, .inl (cI, 6, .inl Nv))] := hD
      refine lv_iconst (v := 0) hx hb de_M_analyse_15 (by decide) ?_
      refine bc_ti (y := nI 0) nI_0.symm ?_
      refine lv_istore_n (lv' := [(2, .int (nI 0)), (1, .int (nI i)), (0, .ref m0)]) hx hb de_M_analyse_16 rfl hl (by decide) rfl (fun ls hl => ?_)
      refine bc_loop (fun k_17 H locs ls => ∃ (v : Nat) (F2 : bc_F) (V2 : bc_F), lv_has ls 3 [(2, .int (nI v)), (1, .int (nI i)), (0, .ref m0)] ∧ va_P (dC, dI) classes [(m0, .inr (5, [.int fa, .ref r1, .ref r2, .ref r3, .ref r4, .ref r5, .int rw, .ref r6, .ref r7, .ref r8, .int gw, .ref r9, .ref r10, .ref r11, .ref r12, .ref r13, .ref r14, .ref r15, .ref r16])), (r1, .inl (cI, 80, .inl K)), (r2, .inl (cI, 80, .inl O)), (r3, .inl (cI, 80, .inl T)), (r4, .inl (cI, 80, .inl Z)), (r5, .inl (cI, 2, .inl Sz)), (r6, .inl (cZ, 40, .inl (upd R1 i 0))), (r7, .inl (cI, 240, .inl F2)), (r8, .inl (cI, 240, .inl V2)), (r9, .inl (cI, 6, .inl Nf)), (r10, .inl (cI, 6, .inl Nv))] H ∧ va_D A [(m0, .inr (5, [.int fa, .ref r1, .ref r2, .ref r3, .ref r4, .ref r5, .int rw, .ref r6, .ref r7, .ref r8, .int gw, .ref r9, .ref r10, .ref r11, .ref r12, .ref r13, .ref r14, .ref r15, .ref r16])), (r1, .inl (cI, 80, .inl K)), (r2, .inl (cI, 80, .inl O)), (r3, .inl (cI, 80, .inl T)), (r4, .inl (cI, 80, .inl Z)), (r5, .inl (cI, 2, .inl Sz)), (r6, .inl (cZ, 40, .inl (upd R1 i 0))), (r7, .inl (cI, 240, .inl F2)), (r8, .inl (cI, 240, .inl V2)), (r9, .inl (cI, 6, .inl Nf)), (r10, .inl (cI, 6, .inl Nv))] ∧ va_S A s.heap H locs ∧ k_17 = 6 - v ∧ (v ≤ 6) ∧ (bc_ai i v F2 V2)) ?_ ?_
      · rintro k_17 H locs ls ⟨v, F2, V2, hl, hP, hD, hS, hk_17, hv, hJ2⟩ ih_17
        refine lv_iload_n hx hb de_M_analyse_17 rfl (lv_at hl 0 rfl) ?_
        refine lv_bipush (v := 6) hx hb de_M_analyse_18 (by decide) ?_
        refine lv_icmp_ge (tgt := 61) hx hb de_M_analyse_20 (by decide) (fun hc_20 => ?_) (fun hc_20 => ?_)
        · have heq : v = 6 := by have := bc_ge (b := 6) (by omega) (by omega) hc_20; omega
          rw [heq] at hJ2
          refine lv_iinc (k := 1) (v := nI (i + 1)) (lv' := [(1, .int (nI (i + 1))), (2, .int (nI v)), (0, .ref m0)]) hx hb de_M_analyse_61 hl rfl (bc_inc _) (by decide) rfl (fun ls hl => ?_)
          refine lv_goto (tgt := 2) hx hb de_M_analyse_64 (by decide) ?_
          exact ih_2 _ _ _ _ (by omega) ⟨(i + 1), upd R1 i 0, F2, V2, lv_sub hl [0, 2] rfl, hP, hD, hS, rfl, (by omega), bc_an_s hJ hJ2⟩
        · have hv6 : v < 6 := bc_lt (b := 6) (by omega) (by omega) hc_20
          refine lv_aload_n hx hb de_M_analyse_23 rfl (lv_at hl 2 rfl) ?_
          refine va_get (D := (dC, dI)) (ci := 5) (v := .ref r7) (C := rc_M) (T := fc_M) (N := 19) hx hb htw wi_M hown hK hP 0 rfl rfl 8 (by decide) (htw _ wm_431) (fun _ h9 => h9) rfl de_M_analyse_24 ?_
          refine lv_bipush (v := 6) hx hb de_M_analyse_27 (by decide) ?_
          refine lv_iload_n hx hb de_M_analyse_29 rfl (lv_at hl 1 rfl) ?_
          refine lv_imul hx hb de_M_analyse_30 ?_
          refine bc_ti (y := nI (6 * i)) (pk_mul 6 i) ?_
          refine lv_iload_n hx hb de_M_analyse_31 rfl (lv_at hl 0 rfl) ?_
          refine lv_iadd hx hb de_M_analyse_32 ?_
          refine bc_ti (y := nI ((6 * i) + v)) (nI_add (6 * i) v) ?_
          refine lv_iload_n hx hb de_M_analyse_33 rfl (lv_at hl 1 rfl) ?_
          refine lv_if_ne (tgt := 41) hx hb de_M_analyse_34 (by decide) (fun hc_34 => ?_) (fun hc_34 => ?_)
          · refine lv_iconst (v := 0) hx hb de_M_analyse_41 (by decide) ?_
            refine bc_ist (j := (6 * i) + v) hx hb hK hP hD hS 7 0 rfl rfl (by omega) (by decide) de_M_analyse_42 (fun H locs hP hD hS => ?_)
            have hP : va_P (dC, dI) classes [(m0, .inr (5, [.int fa, .ref r1, .ref r2, .ref r3, .ref r4, .ref r5, .int rw, .ref r6, .ref r7, .ref r8, .int gw, .ref r9, .ref r10, .ref r11, .ref r12, .ref r13, .ref r14, .ref r15, .ref r16])), (r1, .inl (cI, 80, .inl K)), (r2, .inl (cI, 80, .inl O)), (r3, .inl (cI, 80, .inl T)), (r4, .inl (cI, 80, .inl Z)), (r5, .inl (cI, 2, .inl Sz)), (r6, .inl (cZ, 40, .inl (upd R1 i 0))), (r7, .inl (cI, 240, .inl (upd F2 ((6 * i) + v) 0))), (r8, .inl (cI, 240, .inl V2)), (r9, .inl (cI, 6, .inl Nf)), (r10, .inl (cI, 6, .inl Nv))] H := hP
            have hD : va_D A [(m0, .inr (5, [.int fa, .ref r1, .ref r2, .ref r3, .ref r4, .ref r5, .int rw, .ref r6, .ref r7, .ref r8, .int gw, .ref r9, .ref r10, .ref r11, .ref r12, .ref r13, .ref r14, .ref r15, .ref r16])), (r1, .inl (cI, 80, .inl K)), (r2, .inl (cI, 80, .inl O)), (r3, .inl (cI, 80, .inl T)), (r4, .inl (cI, 80, .inl Z)), (r5, .inl (cI, 2, .inl Sz)), (r6, .inl (cZ, 40, .inl (upd R1 i 0))), (r7, .inl (cI, 240, .inl (upd F2 ((6 * i) + v) 0))), (r8, .inl (cI, 240, .inl V2)), (r9, .inl (cI, 6, .inl Nf)), (r10, .inl (cI, 6, .inl Nv))] := hD
            refine lv_aload_n hx hb de_M_analyse_43 rfl (lv_at hl 2 rfl) ?_
            refine va_get (D := (dC, dI)) (ci := 5) (v := .ref r8) (C := rc_M) (T := fc_M) (N := 19) hx hb htw wi_M hown hK hP 0 rfl rfl 9 (by decide) (htw _ wm_432) (fun _ h9 => h9) rfl de_M_analyse_44 ?_
            refine lv_bipush (v := 6) hx hb de_M_analyse_47 (by decide) ?_
            refine lv_iload_n hx hb de_M_analyse_49 rfl (lv_at hl 1 rfl) ?_
            refine lv_imul hx hb de_M_analyse_50 ?_
            refine bc_ti (y := nI (6 * i)) (pk_mul 6 i) ?_
            refine lv_iload_n hx hb de_M_analyse_51 rfl (lv_at hl 0 rfl) ?_
            refine lv_iadd hx hb de_M_analyse_52 ?_
            refine bc_ti (y := nI ((6 * i) + v)) (nI_add (6 * i) v) ?_
            refine lv_iconst (v := 0) hx hb de_M_analyse_53 (by decide) ?_
            refine bc_ist (j := (6 * i) + v) hx hb hK hP hD hS 8 0 rfl rfl (by omega) (by decide) de_M_analyse_54 (fun H locs hP hD hS => ?_)
            have hP : va_P (dC, dI) classes [(m0, .inr (5, [.int fa, .ref r1, .ref r2, .ref r3, .ref r4, .ref r5, .int rw, .ref r6, .ref r7, .ref r8, .int gw, .ref r9, .ref r10, .ref r11, .ref r12, .ref r13, .ref r14, .ref r15, .ref r16])), (r1, .inl (cI, 80, .inl K)), (r2, .inl (cI, 80, .inl O)), (r3, .inl (cI, 80, .inl T)), (r4, .inl (cI, 80, .inl Z)), (r5, .inl (cI, 2, .inl Sz)), (r6, .inl (cZ, 40, .inl (upd R1 i 0))), (r7, .inl (cI, 240, .inl (upd F2 ((6 * i) + v) 0))), (r8, .inl (cI, 240, .inl (upd V2 ((6 * i) + v) 0))), (r9, .inl (cI, 6, .inl Nf)), (r10, .inl (cI, 6, .inl Nv))] H := hP
            have hD : va_D A [(m0, .inr (5, [.int fa, .ref r1, .ref r2, .ref r3, .ref r4, .ref r5, .int rw, .ref r6, .ref r7, .ref r8, .int gw, .ref r9, .ref r10, .ref r11, .ref r12, .ref r13, .ref r14, .ref r15, .ref r16])), (r1, .inl (cI, 80, .inl K)), (r2, .inl (cI, 80, .inl O)), (r3, .inl (cI, 80, .inl T)), (r4, .inl (cI, 80, .inl Z)), (r5, .inl (cI, 2, .inl Sz)), (r6, .inl (cZ, 40, .inl (upd R1 i 0))), (r7, .inl (cI, 240, .inl (upd F2 ((6 * i) + v) 0))), (r8, .inl (cI, 240, .inl (upd V2 ((6 * i) + v) 0))), (r9, .inl (cI, 6, .inl Nf)), (r10, .inl (cI, 6, .inl Nv))] := hD
            refine lv_iinc (k := 0) (v := nI (v + 1)) (lv' := [(2, .int (nI (v + 1))), (1, .int (nI i)), (0, .ref m0)]) hx hb de_M_analyse_55 hl rfl (bc_inc _) (by decide) rfl (fun ls hl => ?_)
            refine lv_goto (tgt := 17) hx hb de_M_analyse_58 (by decide) ?_
            exact ih_17 _ _ _ _ (by omega) ⟨(v + 1), upd F2 (6 * i + v) 0, upd V2 (6 * i + v) 0, lv_sub hl [0, 1, 2] rfl, hP, hD, hS, rfl, (by omega), bc_ai_s (by omega) hJ2 (by rw [if_neg (fun z => hc_34 (by rw [z]; rfl))])⟩
          · refine lv_iconst (v := 1) hx hb de_M_analyse_37 (by decide) ?_
            refine lv_goto (tgt := 42) hx hb de_M_analyse_38 (by decide) ?_
            refine bc_ist (j := (6 * i) + v) hx hb hK hP hD hS 7 0 rfl rfl (by omega) (by decide) de_M_analyse_42 (fun H locs hP hD hS => ?_)
            have hP : va_P (dC, dI) classes [(m0, .inr (5, [.int fa, .ref r1, .ref r2, .ref r3, .ref r4, .ref r5, .int rw, .ref r6, .ref r7, .ref r8, .int gw, .ref r9, .ref r10, .ref r11, .ref r12, .ref r13, .ref r14, .ref r15, .ref r16])), (r1, .inl (cI, 80, .inl K)), (r2, .inl (cI, 80, .inl O)), (r3, .inl (cI, 80, .inl T)), (r4, .inl (cI, 80, .inl Z)), (r5, .inl (cI, 2, .inl Sz)), (r6, .inl (cZ, 40, .inl (upd R1 i 0))), (r7, .inl (cI, 240, .inl (upd F2 ((6 * i) + v) 1))), (r8, .inl (cI, 240, .inl V2)), (r9, .inl (cI, 6, .inl Nf)), (r10, .inl (cI, 6, .inl Nv))] H := hP
            have hD : va_D A [(m0, .inr (5, [.int fa, .ref r1, .ref r2, .ref r3, .ref r4, .ref r5, .int rw, .ref r6, .ref r7, .ref r8, .int gw, .ref r9, .ref r10, .ref r11, .ref r12, .ref r13, .ref r14, .ref r15, .ref r16])), (r1, .inl (cI, 80, .inl K)), (r2, .inl (cI, 80, .inl O)), (r3, .inl (cI, 80, .inl T)), (r4, .inl (cI, 80, .inl Z)), (r5, .inl (cI, 2, .inl Sz)), (r6, .inl (cZ, 40, .inl (upd R1 i 0))), (r7, .inl (cI, 240, .inl (upd F2 ((6 * i) + v) 1))), (r8, .inl (cI, 240, .inl V2)), (r9, .inl (cI, 6, .inl Nf)), (r10, .inl (cI, 6, .inl Nv))] := hD
            refine lv_aload_n hx hb de_M_analyse_43 rfl (lv_at hl 2 rfl) ?_
            refine va_get (D := (dC, dI)) (ci := 5) (v := .ref r8) (C := rc_M) (T := fc_M) (N := 19) hx hb htw wi_M hown hK hP 0 rfl rfl 9 (by decide) (htw _ wm_432) (fun _ h9 => h9) rfl de_M_analyse_44 ?_
            refine lv_bipush (v := 6) hx hb de_M_analyse_47 (by decide) ?_
            refine lv_iload_n hx hb de_M_analyse_49 rfl (lv_at hl 1 rfl) ?_
            refine lv_imul hx hb de_M_analyse_50 ?_
            refine bc_ti (y := nI (6 * i)) (pk_mul 6 i) ?_
            refine lv_iload_n hx hb de_M_analyse_51 rfl (lv_at hl 0 rfl) ?_
            refine lv_iadd hx hb de_M_analyse_52 ?_
            refine bc_ti (y := nI ((6 * i) + v)) (nI_add (6 * i) v) ?_
            refine lv_iconst (v := 0) hx hb de_M_analyse_53 (by decide) ?_
            refine bc_ist (j := (6 * i) + v) hx hb hK hP hD hS 8 0 rfl rfl (by omega) (by decide) de_M_analyse_54 (fun H locs hP hD hS => ?_)
            have hP : va_P (dC, dI) classes [(m0, .inr (5, [.int fa, .ref r1, .ref r2, .ref r3, .ref r4, .ref r5, .int rw, .ref r6, .ref r7, .ref r8, .int gw, .ref r9, .ref r10, .ref r11, .ref r12, .ref r13, .ref r14, .ref r15, .ref r16])), (r1, .inl (cI, 80, .inl K)), (r2, .inl (cI, 80, .inl O)), (r3, .inl (cI, 80, .inl T)), (r4, .inl (cI, 80, .inl Z)), (r5, .inl (cI, 2, .inl Sz)), (r6, .inl (cZ, 40, .inl (upd R1 i 0))), (r7, .inl (cI, 240, .inl (upd F2 ((6 * i) + v) 1))), (r8, .inl (cI, 240, .inl (upd V2 ((6 * i) + v) 0))), (r9, .inl (cI, 6, .inl Nf)), (r10, .inl (cI, 6, .inl Nv))] H := hP
            have hD : va_D A [(m0, .inr (5, [.int fa, .ref r1, .ref r2, .ref r3, .ref r4, .ref r5, .int rw, .ref r6, .ref r7, .ref r8, .int gw, .ref r9, .ref r10, .ref r11, .ref r12, .ref r13, .ref r14, .ref r15, .ref r16])), (r1, .inl (cI, 80, .inl K)), (r2, .inl (cI, 80, .inl O)), (r3, .inl (cI, 80, .inl T)), (r4, .inl (cI, 80, .inl Z)), (r5, .inl (cI, 2, .inl Sz)), (r6, .inl (cZ, 40, .inl (upd R1 i 0))), (r7, .inl (cI, 240, .inl (upd F2 ((6 * i) + v) 1))), (r8, .inl (cI, 240, .inl (upd V2 ((6 * i) + v) 0))), (r9, .inl (cI, 6, .inl Nf)), (r10, .inl (cI, 6, .inl Nv))] := hD
            refine lv_iinc (k := 0) (v := nI (v + 1)) (lv' := [(2, .int (nI (v + 1))), (1, .int (nI i)), (0, .ref m0)]) hx hb de_M_analyse_55 hl rfl (bc_inc _) (by decide) rfl (fun ls hl => ?_)
            refine lv_goto (tgt := 17) hx hb de_M_analyse_58 (by decide) ?_
            exact ih_17 _ _ _ _ (by omega) ⟨(v + 1), upd F2 (6 * i + v) 1, upd V2 (6 * i + v) 0, lv_sub hl [0, 1, 2] rfl, hP, hD, hS, rfl, (by omega), bc_ai_s (by omega) hJ2 (by rw [if_pos (bc_nI0 hi40 hc_34)])⟩
      · exact ⟨_, 0, F1, V1, lv_sub hl [0, 1, 2] rfl, hP, hD, hS, rfl, Nat.zero_le _, bc_ai_0 hJ⟩
  · exact ⟨_, 0, Re, Fa, Va, lv_sub hl [0, 1] rfl, hP, hD, hS, rfl, Nat.zero_le _, fun j hj => absurd hj (Nat.not_lt_zero j)⟩

