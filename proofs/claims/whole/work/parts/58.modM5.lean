/-! the reference: fold, mark, nextStaying (by program: wip/whole/gen/modM5.py) -/
def bc_s40 (K O T Z K3 O3 T3 Z3 : bc_F) : Prop := ∀ j, j < 40 → K3 j = K j ∧ O3 j = O j ∧ T3 j = T j ∧ Z3 j = Z j
def bc_RI (n : Nat) (F : Nat → Int32 × Int32 × Int32 × Int32 × Nat) (K O T Z : bc_F) (i : Nat) (K3 O3 T3 Z3 : bc_F) : Prop := bc_s40 K O T Z K3 O3 T3 Z3 ∧ ∀ j, j < i → bc_Fa n (F j) (K3 (40 + j)) (O3 (40 + j)) (T3 (40 + j)) (Z3 (40 + j))
def bc_RP (n : Nat) (F : Nat → Int32 × Int32 × Int32 × Int32 × Nat) (K O T Z : bc_F) (i : Nat) (a b d e : Int32) (K3 O3 T3 Z3 : bc_F) : Prop := bc_RI n F K O T Z i K3 O3 T3 Z3 ∧ K3 (40 + i) = a ∧ O3 (40 + i) = b ∧ T3 (40 + i) = d ∧ Z3 (40 + i) = e
theorem bc_RP_put {n : Nat} {F : Nat → Int32 × Int32 × Int32 × Int32 × Nat} {K O T Z K3 O3 T3 Z3 K4 O4 T4 Z4 : bc_F} {i : Nat} {a b d e : Int32} (h : bc_RI n F K O T Z i K3 O3 T3 Z3) (hu : (K4, O4, T4, Z4) = (upd K3 (40 + i) a, upd O3 (40 + i) b, upd T3 (40 + i) d, upd Z3 (40 + i) e)) : bc_RP n F K O T Z i a b d e K4 O4 T4 Z4 := by
  simp only [Prod.mk.injEq] at hu
  obtain ⟨rfl, rfl, rfl, rfl⟩ := hu
  refine ⟨⟨fun j hj => ?_, fun j hj => ?_⟩, pk_us, pk_us, pk_us, pk_us⟩
  · have c : j ≠ 40 + i := by omega
    rw [pk_un c, pk_un c, pk_un c, pk_un c]; exact h.1 j hj
  · have c : 40 + j ≠ 40 + i := by omega
    rw [pk_un c, pk_un c, pk_un c, pk_un c]; exact h.2 j hj
theorem bc_RP_end {n : Nat} {F : Nat → Int32 × Int32 × Int32 × Int32 × Nat} {K O T Z K3 O3 T3 Z3 : bc_F} {i : Nat} {a b d e : Int32} (h : bc_RP n F K O T Z i a b d e K3 O3 T3 Z3) (hf : bc_Fa n (F i) a b d e) : bc_RI n F K O T Z (i + 1) K3 O3 T3 Z3 := by
  obtain ⟨h1, e1, e2, e3, e4⟩ := h
  refine ⟨h1.1, fun j hj => ?_⟩
  by_cases c : j = i
  · subst c; rw [e1, e2, e3, e4]; exact hf
  · exact h1.2 j (by omega)
theorem bc_fa_p {n : Nat} {k o t z : Int32} (hw : bc_wi k o t z) {F : Int32 × Int32 × Int32 × Int32 × Nat} (h : bc_Fa n F k o t z) : bc_Fa n F k (bc_p1 k o) (bc_p2 k t) (bc_p3 k z) := by
  rw [(bc_p_id hw).1, (bc_p_id hw).2.1, (bc_p_id hw).2.2]; exact h
theorem bc_fa_5r {n i o : Nat} {K O T Z S C : bc_F} {g : bc_G} {rr : bc_R} {x : Int32} (hi : i < n) (hn : n ≤ 40) (hg : g i = some rr) (h5 : K i = 5) (eO : O i = nI o) (ho : o < 6) (htr : bc_tr (T i)) (hrow : ∀ v, v < 6 → S (6 * i + v) = bc_s0 (some rr) v ∧ C (6 * i + v) = bc_c0 (some rr) v) (h2 : S (6 * i + o) = 2) (hq : (C (6 * i + o) = 0 ∧ x = T i) ∨ (¬ C (6 * i + o) = 0 ∧ x = nI (i + 1))) : bc_Fa n (bc_f1 n K O T Z g i) 6 (bc_p1 6 0) (bc_p2 6 x) (bc_p3 6 0) := by
  have hr : rr o = some (bc_c0 (some rr) o) := bc_s0_is2 (by rw [← (hrow o ho).1]; exact h2)
  rw [bc_f1_5s hi hg h5 eO ho hr]
  refine ⟨rfl, if_pos (by decide), if_neg (by decide), fun _ => ?_, fun h => absurd (Or.inl rfl) h⟩
  rw [show bc_p2 6 x = x from if_neg (by decide)]
  rw [(hrow o ho).2] at hq
  rcases hq with ⟨c, e⟩ | ⟨c, e⟩
  · rw [e]; exact ⟨htr, (if_pos c).symm⟩
  · rw [e]; exact ⟨⟨i + 1, by omega, rfl⟩, by rw [bc_tn_nI (by omega) hn]; exact (if_neg c).symm⟩
theorem bc_pp_2 {K T Z Nf Nv : bc_F} {i o : Nat} {rr : bc_R} {u : bc_F × bc_F} (h : bc_pp K T Z i o rr Nf Nv u) (h2 : u.1 o = 2) : bc_rs K T Z i rr = some (u.2 o) := by
  cases hr : bc_rs K T Z i rr with
  | none => rw [h.2 hr] at h2; rw [show (upd Nf o 1, upd Nv o 0).1 o = 1 from pk_us] at h2; exact absurd h2 (by decide)
  | some x => rw [h.1 x hr]; exact congrArg some pk_us.symm
theorem bc_pp_n2 {K T Z Nf Nv : bc_F} {i o : Nat} {rr : bc_R} {u : bc_F × bc_F} (h : bc_pp K T Z i o rr Nf Nv u) (h2 : ¬ u.1 o = 2) : bc_rs K T Z i rr = none := by
  cases hr : bc_rs K T Z i rr with
  | none => rfl
  | some x => rw [h.1 x hr] at h2; exact absurd (show (upd Nf o 2, upd Nv o x).1 o = 2 from pk_us) h2
theorem bc_n5_4 {k : Int32} (h : ¬ (5 : Int32) ≤ k) : k ≤ 4 := by
  rw [Int32.le_iff_toInt_le] at h ⊢
  have e5 : (5 : Int32).toInt = 5 := by decide
  have e4 : (4 : Int32).toInt = 4 := by decide
  omega
theorem bc_5_n4 {k : Int32} (h : (5 : Int32) ≤ k) : ¬ k ≤ 4 := by
  intro z
  rw [Int32.le_iff_toInt_le] at h z
  have e5 : (5 : Int32).toInt = 5 := by decide
  have e4 : (4 : Int32).toInt = 4 := by decide
  omega
theorem bc_s40_wf {n : Nat} {K O T Z K3 O3 T3 Z3 : bc_F} (hn : n ≤ 40) (h : bc_s40 K O T Z K3 O3 T3 Z3) (hw : bc_wf n K O T Z) : bc_wf n K3 O3 T3 Z3 := by
  intro i hi
  obtain ⟨e1, e2, e3, e4⟩ := h i (by omega)
  rw [e1, e2, e3, e4]; exact hw i hi
set_option maxHeartbeats 4000000 in
set_option maxRecDepth 100000 in
/-- FOLD -/
theorem co_M_fold {l : Launch} {dC : Nat → ClassId} {dI : Nat → Nat → Nat} {cI cZ : ClassId} {sz : Nat} {m0 r1 r2 r3 r4 r5 r6 r7 r8 r9 r10 r11 r12 r13 r14 r15 r16 : Nat} {K O T Z Sz Re Fa Va Nf Nv : bc_F} {fa rw gw : Int32} {n : Nat} {g : bc_G} (hn : n ≤ 40) (hSz : Sz 0 = nI n) (hw : bc_wf n K O T Z) (hen : bc_en Fa Va g) (hre : bc_re Re g) : Met l yn_M_fold (Cond.code yn_M_fold by_M_fold 3 none :: wd_all) ({ frames := 2, cells := 0, slots := 0, locals := 48 } : Room) (bc_Pre (dC, dI) classes [(cI, .int), (cZ, .boolean)] [.ref m0] [(m0, .inr (5, [.int fa, .ref r1, .ref r2, .ref r3, .ref r4, .ref r5, .int rw, .ref r6, .ref r7, .ref r8, .int gw, .ref r9, .ref r10, .ref r11, .ref r12, .ref r13, .ref r14, .ref r15, .ref r16])), (r1, .inl (cI, 80, .inl K)), (r2, .inl (cI, 80, .inl O)), (r3, .inl (cI, 80, .inl T)), (r4, .inl (cI, 80, .inl Z)), (r5, .inl (cI, 2, .inl Sz)), (r6, .inl (cZ, 40, .inl Re)), (r7, .inl (cI, 240, .inl Fa)), (r8, .inl (cI, 240, .inl Va)), (r9, .inl (cI, 6, .inl Nf)), (r10, .inl (cI, 6, .inl Nv))] sz) (va_Qv (fun (u : (bc_F × bc_F × bc_F × bc_F) × bc_F × bc_F) => bc_RI n (bc_f1 n K O T Z g) K O T Z n u.1.1 u.1.2.1 u.1.2.2.1 u.1.2.2.2) (fun (u : (bc_F × bc_F × bc_F × bc_F) × bc_F × bc_F) t => bc_B (dC, dI) classes [(cI, .int), (cZ, .boolean)] (va_A [(m0, .inr (5, [.int fa, .ref r1, .ref r2, .ref r3, .ref r4, .ref r5, .int rw, .ref r6, .ref r7, .ref r8, .int gw, .ref r9, .ref r10, .ref r11, .ref r12, .ref r13, .ref r14, .ref r15, .ref r16])), (r1, .inl (cI, 80, .inl K)), (r2, .inl (cI, 80, .inl O)), (r3, .inl (cI, 80, .inl T)), (r4, .inl (cI, 80, .inl Z)), (r5, .inl (cI, 2, .inl Sz)), (r6, .inl (cZ, 40, .inl Re)), (r7, .inl (cI, 240, .inl Fa)), (r8, .inl (cI, 240, .inl Va)), (r9, .inl (cI, 6, .inl Nf)), (r10, .inl (cI, 6, .inl Nv))] sz) [(m0, .inr (5, [.int fa, .ref r1, .ref r2, .ref r3, .ref r4, .ref r5, .int rw, .ref r6, .ref r7, .ref r8, .int gw, .ref r9, .ref r10, .ref r11, .ref r12, .ref r13, .ref r14, .ref r15, .ref r16])), (r1, .inl (cI, 80, .inl u.1.1)), (r2, .inl (cI, 80, .inl u.1.2.1)), (r3, .inl (cI, 80, .inl u.1.2.2.1)), (r4, .inl (cI, 80, .inl u.1.2.2.2)), (r5, .inl (cI, 2, .inl Sz)), (r6, .inl (cZ, 40, .inl Re)), (r7, .inl (cI, 240, .inl Fa)), (r8, .inl (cI, 240, .inl Va)), (r9, .inl (cI, 6, .inl u.2.1)), (r10, .inl (cI, 6, .inl u.2.2))] t) ((va_A [(m0, .inr (5, [.int fa, .ref r1, .ref r2, .ref r3, .ref r4, .ref r5, .int rw, .ref r6, .ref r7, .ref r8, .int gw, .ref r9, .ref r10, .ref r11, .ref r12, .ref r13, .ref r14, .ref r15, .ref r16])), (r1, .inl (cI, 80, .inl K)), (r2, .inl (cI, 80, .inl O)), (r3, .inl (cI, 80, .inl T)), (r4, .inl (cI, 80, .inl Z)), (r5, .inl (cI, 2, .inl Sz)), (r6, .inl (cZ, 40, .inl Re)), (r7, .inl (cI, 240, .inl Fa)), (r8, .inl (cI, 240, .inl Va)), (r9, .inl (cI, 6, .inl Nf)), (r10, .inl (cI, 6, .inl Nv))] sz))) 0 0 (va_A [(m0, .inr (5, [.int fa, .ref r1, .ref r2, .ref r3, .ref r4, .ref r5, .int rw, .ref r6, .ref r7, .ref r8, .int gw, .ref r9, .ref r10, .ref r11, .ref r12, .ref r13, .ref r14, .ref r15, .ref r16])), (r1, .inl (cI, 80, .inl K)), (r2, .inl (cI, 80, .inl O)), (r3, .inl (cI, 80, .inl T)), (r4, .inl (cI, 80, .inl Z)), (r5, .inl (cI, 2, .inl Sz)), (r6, .inl (cZ, 40, .inl Re)), (r7, .inl (cI, 240, .inl Fa)), (r8, .inl (cI, 240, .inl Va)), (r9, .inl (cI, 6, .inl Nf)), (r10, .inl (cI, 6, .inl Nv))] sz) := by
  refine bc_met (fun A => va_Qv (fun (u : (bc_F × bc_F × bc_F × bc_F) × bc_F × bc_F) => bc_RI n (bc_f1 n K O T Z g) K O T Z n u.1.1 u.1.2.1 u.1.2.2.1 u.1.2.2.2) (fun (u : (bc_F × bc_F × bc_F × bc_F) × bc_F × bc_F) t => bc_B (dC, dI) classes [(cI, .int), (cZ, .boolean)] A [(m0, .inr (5, [.int fa, .ref r1, .ref r2, .ref r3, .ref r4, .ref r5, .int rw, .ref r6, .ref r7, .ref r8, .int gw, .ref r9, .ref r10, .ref r11, .ref r12, .ref r13, .ref r14, .ref r15, .ref r16])), (r1, .inl (cI, 80, .inl u.1.1)), (r2, .inl (cI, 80, .inl u.1.2.1)), (r3, .inl (cI, 80, .inl u.1.2.2.1)), (r4, .inl (cI, 80, .inl u.1.2.2.2)), (r5, .inl (cI, 2, .inl Sz)), (r6, .inl (cZ, 40, .inl Re)), (r7, .inl (cI, 240, .inl Fa)), (r8, .inl (cI, 240, .inl Va)), (r9, .inl (cI, 6, .inl u.2.1)), (r10, .inl (cI, 6, .inl u.2.2))] t) A) (by decide) (Nat.le_of_ble_eq_true rfl) ?_
  intro p e s m args below meth c A ls F hr hlocks hin hA hP hD hl hS
  have hx := F.1
  have hb := F.2.1
  have hml := F.2.2.1
  have hown : s.vm.findClass "BranchConstantsModel" = some m.cls := F.2.2.2.1
  have htw := F.2.2.2.2.1
  have hN := F.2.2.2.2.2.1
  have hK := F.2.2.2.2.2.2
  have hl : lv_has ls 3 [(0, .ref m0)] := hl
  refine lv_aload_n hx hb de_M_fold_0 rfl (lv_at hl 0 rfl) ?_
  refine va_get (D := (dC, dI)) (ci := 5) (v := .ref r5) (C := rc_M) (T := fc_M) (N := 19) hx hb htw wi_M hown hK hP 0 rfl rfl 5 (by decide) (htw _ wm_428) (fun _ h9 => h9) rfl de_M_fold_1 ?_
  refine lv_iconst (v := 0) hx hb de_M_fold_4 (by decide) ?_
  refine bc_ildE (by decide) (j := 0) hx hb hK hP 5 0 rfl rfl (by omega) (by decide) de_M_fold_5 ?_
  refine bc_ti (y := nI n) hSz ?_
  refine lv_istore_n (lv' := [(1, .int (nI n)), (0, .ref m0)]) hx hb de_M_fold_6 rfl hl (by decide) rfl (fun ls hl => ?_)
  refine lv_iconst (v := 0) hx hb de_M_fold_7 (by decide) ?_
  refine bc_ti (y := nI 0) nI_0.symm ?_
  refine lv_istore_n (lv' := [(2, .int (nI 0)), (1, .int (nI n)), (0, .ref m0)]) hx hb de_M_fold_8 rfl hl (by decide) rfl (fun ls hl => ?_)
  refine bc_loop (fun k_9 H locs ls => ∃ (i : Nat) (K3 : bc_F) (O3 : bc_F) (T3 : bc_F) (Z3 : bc_F) (A3 : bc_F) (B3 : bc_F), lv_has ls 3 [(2, .int (nI i)), (1, .int (nI n)), (0, .ref m0)] ∧ va_P (dC, dI) classes [(m0, .inr (5, [.int fa, .ref r1, .ref r2, .ref r3, .ref r4, .ref r5, .int rw, .ref r6, .ref r7, .ref r8, .int gw, .ref r9, .ref r10, .ref r11, .ref r12, .ref r13, .ref r14, .ref r15, .ref r16])), (r1, .inl (cI, 80, .inl K3)), (r2, .inl (cI, 80, .inl O3)), (r3, .inl (cI, 80, .inl T3)), (r4, .inl (cI, 80, .inl Z3)), (r5, .inl (cI, 2, .inl Sz)), (r6, .inl (cZ, 40, .inl Re)), (r7, .inl (cI, 240, .inl Fa)), (r8, .inl (cI, 240, .inl Va)), (r9, .inl (cI, 6, .inl A3)), (r10, .inl (cI, 6, .inl B3))] H ∧ va_D A [(m0, .inr (5, [.int fa, .ref r1, .ref r2, .ref r3, .ref r4, .ref r5, .int rw, .ref r6, .ref r7, .ref r8, .int gw, .ref r9, .ref r10, .ref r11, .ref r12, .ref r13, .ref r14, .ref r15, .ref r16])), (r1, .inl (cI, 80, .inl K3)), (r2, .inl (cI, 80, .inl O3)), (r3, .inl (cI, 80, .inl T3)), (r4, .inl (cI, 80, .inl Z3)), (r5, .inl (cI, 2, .inl Sz)), (r6, .inl (cZ, 40, .inl Re)), (r7, .inl (cI, 240, .inl Fa)), (r8, .inl (cI, 240, .inl Va)), (r9, .inl (cI, 6, .inl A3)), (r10, .inl (cI, 6, .inl B3))] ∧ va_S A s.heap H locs ∧ k_9 = n - i ∧ (i ≤ n) ∧ (bc_RI n (bc_f1 n K O T Z g) K O T Z i K3 O3 T3 Z3)) ?_ ?_
  · rintro k_9 H locs ls ⟨i, K3, O3, T3, Z3, A3, B3, hl, hP, hD, hS, hk_9, hi, hJ⟩ ih_9
    refine lv_iload_n hx hb de_M_fold_9 rfl (lv_at hl 0 rfl) ?_
    refine lv_iload_n hx hb de_M_fold_10 rfl (lv_at hl 1 rfl) ?_
    refine lv_icmp_ge (tgt := 200) hx hb de_M_fold_11 (by decide) (fun hc_11 => ?_) (fun hc_11 => ?_)
    · have heq : i = n := by have := bc_ge (by omega) (by omega) hc_11; omega
      rw [heq] at hJ
      exact bc_vret F hr hlocks (((K3, O3, T3, Z3), A3, B3)) hJ hP hD hS de_M_fold_200
    · have hlt : i < n := bc_lt (by omega) (by omega) hc_11
      have hi40 : i < 40 := by omega
      obtain ⟨o, ho, eO⟩ := bc_wi_oo (hw i hlt)
      refine lv_aload_n hx hb de_M_fold_14 rfl (lv_at hl 2 rfl) ?_
      refine lv_bipush (v := 40) hx hb de_M_fold_15 (by decide) ?_
      refine lv_iload_n hx hb de_M_fold_17 rfl (lv_at hl 0 rfl) ?_
      refine lv_iadd hx hb de_M_fold_18 ?_
      refine bc_ti (y := nI (40 + i)) (nI_add 40 i) ?_
      refine lv_aload_n hx hb de_M_fold_19 rfl (lv_at hl 2 rfl) ?_
      refine va_get (D := (dC, dI)) (ci := 5) (v := .ref r1) (C := rc_M) (T := fc_M) (N := 19) hx hb htw wi_M hown hK hP 0 rfl rfl 1 (by decide) (htw _ wm_424) (fun _ h9 => h9) rfl de_M_fold_20 ?_
      refine lv_iload_n hx hb de_M_fold_23 rfl (lv_at hl 0 rfl) ?_
      refine bc_ild (j := i) hx hb hK hP 1 0 rfl rfl (by omega) (by decide) de_M_fold_24 ?_
      refine bc_ti (y := K i) (hJ.1 i hi40).1 ?_
      refine lv_aload_n hx hb de_M_fold_25 rfl (lv_at hl 2 rfl) ?_
      refine va_get (D := (dC, dI)) (ci := 5) (v := .ref r2) (C := rc_M) (T := fc_M) (N := 19) hx hb htw wi_M hown hK hP 0 rfl rfl 2 (by decide) (htw _ wm_425) (fun _ h9 => h9) rfl de_M_fold_26 ?_
      refine lv_iload_n hx hb de_M_fold_29 rfl (lv_at hl 0 rfl) ?_
      refine bc_ild (j := i) hx hb hK hP 2 0 rfl rfl (by omega) (by decide) de_M_fold_30 ?_
      refine bc_ti (y := O i) (hJ.1 i hi40).2.1 ?_
      refine lv_aload_n hx hb de_M_fold_31 rfl (lv_at hl 2 rfl) ?_
      refine va_get (D := (dC, dI)) (ci := 5) (v := .ref r3) (C := rc_M) (T := fc_M) (N := 19) hx hb htw wi_M hown hK hP 0 rfl rfl 3 (by decide) (htw _ wm_426) (fun _ h9 => h9) rfl de_M_fold_32 ?_
      refine lv_iload_n hx hb de_M_fold_35 rfl (lv_at hl 0 rfl) ?_
      refine bc_ild (j := i) hx hb hK hP 3 0 rfl rfl (by omega) (by decide) de_M_fold_36 ?_
      refine bc_ti (y := T i) (hJ.1 i hi40).2.2.1 ?_
      refine lv_aload_n hx hb de_M_fold_37 rfl (lv_at hl 2 rfl) ?_
      refine va_get (D := (dC, dI)) (ci := 5) (v := .ref r4) (C := rc_M) (T := fc_M) (N := 19) hx hb htw wi_M hown hK hP 0 rfl rfl 4 (by decide) (htw _ wm_427) (fun _ h9 => h9) rfl de_M_fold_38 ?_
      refine lv_iload_n hx hb de_M_fold_41 rfl (lv_at hl 0 rfl) ?_
      refine bc_ild (j := i) hx hb hK hP 4 0 rfl rfl (by omega) (by decide) de_M_fold_42 ?_
      refine bc_ti (y := Z i) (hJ.1 i hi40).2.2.2 ?_
      refine bc_call_v_v (As := [.int (nI (40 + i)), .int (K i), .int (O i), .int (T i), .int (Z i)]) (rest := []) (wr := [(r5, .inl (cI, 2, .inl Sz)), (r6, .inl (cZ, 40, .inl Re)), (r7, .inl (cI, 240, .inl Fa)), (r8, .inl (cI, 240, .inl Va)), (r9, .inl (cI, 6, .inl A3)), (r10, .inl (cI, 6, .inl B3))]) F (co_M_put (by omega) (bc_wi_kk (hw i hlt))) wm_481 wm_6 wm_479 wm_480 wm_631 0 rfl rfl pd_M_put rfl rfl ⟨Nat.le_of_ble_eq_true rfl, Nat.le_of_ble_eq_true rfl⟩ hP hD hS hA [0, 1, 2, 3, 4] [5, 6, 7, 8, 9, 10] rfl rfl rfl rfl (by decide) rfl hl.1 rfl (Nat.le_of_ble_eq_true rfl) de_M_fold_43 ⟨Nat.le_of_ble_eq_true rfl, Nat.le_of_ble_eq_true rfl⟩ (fun u_43 H locs hw_43 hP hD hS => ?_)
      obtain ⟨K4, O4, T4, Z4⟩ := u_43
      try dsimp only at hw_43
      have hR4 := bc_RP_put (F := bc_f1 n K O T Z g) hJ hw_43
      have hP : va_P (dC, dI) classes [(m0, .inr (5, [.int fa, .ref r1, .ref r2, .ref r3, .ref r4, .ref r5, .int rw, .ref r6, .ref r7, .ref r8, .int gw, .ref r9, .ref r10, .ref r11, .ref r12, .ref r13, .ref r14, .ref r15, .ref r16])), (r1, .inl (cI, 80, .inl K4)), (r2, .inl (cI, 80, .inl O4)), (r3, .inl (cI, 80, .inl T4)), (r4, .inl (cI, 80, .inl Z4)), (r5, .inl (cI, 2, .inl Sz)), (r6, .inl (cZ, 40, .inl Re)), (r7, .inl (cI, 240, .inl Fa)), (r8, .inl (cI, 240, .inl Va)), (r9, .inl (cI, 6, .inl A3)), (r10, .inl (cI, 6, .inl B3))] H := hP.sub [6, 7, 8, 9, 10, 0, 1, 2, 3, 4, 5] rfl
      have hD : va_D A [(m0, .inr (5, [.int fa, .ref r1, .ref r2, .ref r3, .ref r4, .ref r5, .int rw, .ref r6, .ref r7, .ref r8, .int gw, .ref r9, .ref r10, .ref r11, .ref r12, .ref r13, .ref r14, .ref r15, .ref r16])), (r1, .inl (cI, 80, .inl K4)), (r2, .inl (cI, 80, .inl O4)), (r3, .inl (cI, 80, .inl T4)), (r4, .inl (cI, 80, .inl Z4)), (r5, .inl (cI, 2, .inl Sz)), (r6, .inl (cZ, 40, .inl Re)), (r7, .inl (cI, 240, .inl Fa)), (r8, .inl (cI, 240, .inl Va)), (r9, .inl (cI, 6, .inl A3)), (r10, .inl (cI, 6, .inl B3))] := hD.sub [6, 7, 8, 9, 10, 0, 1, 2, 3, 4, 5] (by decide) rfl
      refine lv_aload_n hx hb de_M_fold_46 rfl (lv_at hl 2 rfl) ?_
      refine va_get (D := (dC, dI)) (ci := 5) (v := .ref r6) (C := rc_M) (T := fc_M) (N := 19) hx hb htw wi_M hown hK hP 0 rfl rfl 7 (by decide) (htw _ wm_430) (fun _ h9 => h9) rfl de_M_fold_47 ?_
      refine lv_iload_n hx hb de_M_fold_50 rfl (lv_at hl 0 rfl) ?_
      refine bc_zld (j := i) hx hb hK hP 6 1 rfl rfl (by omega) (by decide) de_M_fold_51 ?_
      refine lv_if_eq (tgt := 128) hx hb de_M_fold_52 (by decide) (fun hc_52 => ?_) (fun hc_52 => ?_)
      · refine lv_aload_n hx hb de_M_fold_128 rfl (lv_at hl 2 rfl) ?_
        refine va_get (D := (dC, dI)) (ci := 5) (v := .ref r6) (C := rc_M) (T := fc_M) (N := 19) hx hb htw wi_M hown hK hP 0 rfl rfl 7 (by decide) (htw _ wm_430) (fun _ h9 => h9) rfl de_M_fold_129 ?_
        refine lv_iload_n hx hb de_M_fold_132 rfl (lv_at hl 0 rfl) ?_
        refine bc_zld (j := i) hx hb hK hP 6 1 rfl rfl (by omega) (by decide) de_M_fold_133 ?_
        refine lv_if_eq (tgt := 194) hx hb de_M_fold_134 (by decide) (fun _ => ?_) (fun hc => absurd hc_52 hc)
        refine lv_iinc (k := 0) (v := nI (i + 1)) (lv' := [(2, .int (nI (i + 1))), (1, .int (nI n)), (0, .ref m0)]) hx hb de_M_fold_194 hl rfl (bc_inc _) (by decide) rfl (fun ls hl => ?_)
        refine lv_goto (tgt := 9) hx hb de_M_fold_197 (by decide) ?_
        exact ih_9 _ _ _ _ (by omega) ⟨(i + 1), K4, O4, T4, Z4, A3, B3, lv_sub hl [0, 1, 2] rfl, hP, hD, hS, rfl, (by omega), bc_RP_end hR4 (bc_fa_p (hw i hlt) (bc_fa_same (hw i hlt) (bc_f1_none hlt ((hre i hi40).1.mp hc_52))))⟩
      · obtain ⟨rr, hrr⟩ := bc_re_n hre hi40 hc_52
        have hrow := bc_row hen hi40 hrr
        refine lv_aload_n hx hb de_M_fold_55 rfl (lv_at hl 2 rfl) ?_
        refine va_get (D := (dC, dI)) (ci := 5) (v := .ref r1) (C := rc_M) (T := fc_M) (N := 19) hx hb htw wi_M hown hK hP 0 rfl rfl 1 (by decide) (htw _ wm_424) (fun _ h9 => h9) rfl de_M_fold_56 ?_
        refine lv_iload_n hx hb de_M_fold_59 rfl (lv_at hl 0 rfl) ?_
        refine bc_ild (j := i) hx hb hK hP 1 0 rfl rfl (by omega) (by decide) de_M_fold_60 ?_
        refine bc_ti (y := K i) (hR4.1.1 i hi40).1 ?_
        refine lv_iconst (v := 5) hx hb de_M_fold_61 (by decide) ?_
        refine lv_icmp_ne (tgt := 128) hx hb de_M_fold_62 (by decide) (fun hc_62 => ?_) (fun hc_62 => ?_)
        · refine lv_aload_n hx hb de_M_fold_128 rfl (lv_at hl 2 rfl) ?_
          refine va_get (D := (dC, dI)) (ci := 5) (v := .ref r6) (C := rc_M) (T := fc_M) (N := 19) hx hb htw wi_M hown hK hP 0 rfl rfl 7 (by decide) (htw _ wm_430) (fun _ h9 => h9) rfl de_M_fold_129 ?_
          refine lv_iload_n hx hb de_M_fold_132 rfl (lv_at hl 0 rfl) ?_
          refine bc_zld (j := i) hx hb hK hP 6 1 rfl rfl (by omega) (by decide) de_M_fold_133 ?_
          refine lv_if_eq (tgt := 194) hx hb de_M_fold_134 (by decide) (fun hc => absurd hc hc_52) (fun _ => ?_)
          refine lv_aload_n hx hb de_M_fold_137 rfl (lv_at hl 2 rfl) ?_
          refine va_get (D := (dC, dI)) (ci := 5) (v := .ref r1) (C := rc_M) (T := fc_M) (N := 19) hx hb htw wi_M hown hK hP 0 rfl rfl 1 (by decide) (htw _ wm_424) (fun _ h9 => h9) rfl de_M_fold_138 ?_
          refine lv_iload_n hx hb de_M_fold_141 rfl (lv_at hl 0 rfl) ?_
          refine bc_ild (j := i) hx hb hK hP 1 0 rfl rfl (by omega) (by decide) de_M_fold_142 ?_
          refine bc_ti (y := K i) (hR4.1.1 i hi40).1 ?_
          refine lv_iconst (v := 5) hx hb de_M_fold_143 (by decide) ?_
          refine lv_icmp_ge (tgt := 194) hx hb de_M_fold_144 (by decide) (fun hc_144 => ?_) (fun hc_144 => ?_)
          · refine lv_iinc (k := 0) (v := nI (i + 1)) (lv' := [(2, .int (nI (i + 1))), (1, .int (nI n)), (0, .ref m0)]) hx hb de_M_fold_194 hl rfl (bc_inc _) (by decide) rfl (fun ls hl => ?_)
            refine lv_goto (tgt := 9) hx hb de_M_fold_197 (by decide) ?_
            exact ih_9 _ _ _ _ (by omega) ⟨(i + 1), K4, O4, T4, Z4, A3, B3, lv_sub hl [0, 1, 2] rfl, hP, hD, hS, rfl, (by omega), bc_RP_end hR4 (bc_fa_p (hw i hlt) (bc_fa_same (hw i hlt) (bc_f1_o hlt hrr (bc_5_n4 hc_144) hc_62)))⟩
          · have h4 := bc_n5_4 hc_144
            refine lv_aload_n hx hb de_M_fold_147 rfl (lv_at hl 2 rfl) ?_
            refine lv_iload_n hx hb de_M_fold_148 rfl (lv_at hl 0 rfl) ?_
            refine bc_call_v_v (As := [.int (nI i)]) (rest := []) (wr := [(r5, .inl (cI, 2, .inl Sz)), (r6, .inl (cZ, 40, .inl Re))]) F (co_M_pass hi40 (bc_s40_wf hn hR4.1.1 hw i hlt) (by rw [(hR4.1.1 i hi40).1]; exact h4) ((hR4.1.1 i hi40).2.1.trans eO) ho hrow) wm_514 wm_6 wm_512 wm_513 wm_638 0 rfl rfl pd_M_pass rfl rfl ⟨Nat.le_of_ble_eq_true rfl, Nat.le_of_ble_eq_true rfl⟩ hP hD hS hA [0, 1, 2, 3, 4, 7, 8, 9, 10] [5, 6] rfl rfl rfl rfl (by decide) rfl hl.1 rfl (Nat.le_of_ble_eq_true rfl) de_M_fold_149 ⟨Nat.le_of_ble_eq_true rfl, Nat.le_of_ble_eq_true rfl⟩ (fun u_149 H locs hw_149 hP hD hS => ?_)
            have hpp : bc_pp K T Z i o rr A3 B3 u_149 := by
              unfold bc_pp at hw_149 ⊢
              rw [show bc_rs K T Z i rr = bc_rs K4 T4 Z4 i rr by unfold bc_rs; rw [(hR4.1.1 i hi40).1, (hR4.1.1 i hi40).2.2.1, (hR4.1.1 i hi40).2.2.2]]
              exact hw_149
            have hP : va_P (dC, dI) classes [(m0, .inr (5, [.int fa, .ref r1, .ref r2, .ref r3, .ref r4, .ref r5, .int rw, .ref r6, .ref r7, .ref r8, .int gw, .ref r9, .ref r10, .ref r11, .ref r12, .ref r13, .ref r14, .ref r15, .ref r16])), (r1, .inl (cI, 80, .inl K4)), (r2, .inl (cI, 80, .inl O4)), (r3, .inl (cI, 80, .inl T4)), (r4, .inl (cI, 80, .inl Z4)), (r5, .inl (cI, 2, .inl Sz)), (r6, .inl (cZ, 40, .inl Re)), (r7, .inl (cI, 240, .inl Fa)), (r8, .inl (cI, 240, .inl Va)), (r9, .inl (cI, 6, .inl u_149.1)), (r10, .inl (cI, 6, .inl u_149.2))] H := hP.sub [2, 3, 4, 5, 6, 0, 1, 7, 8, 9, 10] rfl
            have hD : va_D A [(m0, .inr (5, [.int fa, .ref r1, .ref r2, .ref r3, .ref r4, .ref r5, .int rw, .ref r6, .ref r7, .ref r8, .int gw, .ref r9, .ref r10, .ref r11, .ref r12, .ref r13, .ref r14, .ref r15, .ref r16])), (r1, .inl (cI, 80, .inl K4)), (r2, .inl (cI, 80, .inl O4)), (r3, .inl (cI, 80, .inl T4)), (r4, .inl (cI, 80, .inl Z4)), (r5, .inl (cI, 2, .inl Sz)), (r6, .inl (cZ, 40, .inl Re)), (r7, .inl (cI, 240, .inl Fa)), (r8, .inl (cI, 240, .inl Va)), (r9, .inl (cI, 6, .inl u_149.1)), (r10, .inl (cI, 6, .inl u_149.2))] := hD.sub [2, 3, 4, 5, 6, 0, 1, 7, 8, 9, 10] (by decide) rfl
            refine lv_aload_n hx hb de_M_fold_152 rfl (lv_at hl 2 rfl) ?_
            refine va_get (D := (dC, dI)) (ci := 5) (v := .ref r9) (C := rc_M) (T := fc_M) (N := 19) hx hb htw wi_M hown hK hP 0 rfl rfl 11 (by decide) (htw _ wm_434) (fun _ h9 => h9) rfl de_M_fold_153 ?_
            refine lv_aload_n hx hb de_M_fold_156 rfl (lv_at hl 2 rfl) ?_
            refine va_get (D := (dC, dI)) (ci := 5) (v := .ref r2) (C := rc_M) (T := fc_M) (N := 19) hx hb htw wi_M hown hK hP 0 rfl rfl 2 (by decide) (htw _ wm_425) (fun _ h9 => h9) rfl de_M_fold_157 ?_
            refine lv_iload_n hx hb de_M_fold_160 rfl (lv_at hl 0 rfl) ?_
            refine bc_ild (j := i) hx hb hK hP 2 0 rfl rfl (by omega) (by decide) de_M_fold_161 ?_
            refine bc_ti (y := nI o) ((hR4.1.1 i hi40).2.1.trans eO) ?_
            refine bc_ild (j := o) hx hb hK hP 9 0 rfl rfl (by omega) (by decide) de_M_fold_162 ?_
            refine lv_iconst (v := 2) hx hb de_M_fold_163 (by decide) ?_
            refine lv_icmp_ne (tgt := 194) hx hb de_M_fold_164 (by decide) (fun hc_164 => ?_) (fun hc_164 => ?_)
            · refine lv_iinc (k := 0) (v := nI (i + 1)) (lv' := [(2, .int (nI (i + 1))), (1, .int (nI n)), (0, .ref m0)]) hx hb de_M_fold_194 hl rfl (bc_inc _) (by decide) rfl (fun ls hl => ?_)
              refine lv_goto (tgt := 9) hx hb de_M_fold_197 (by decide) ?_
              exact ih_9 _ _ _ _ (by omega) ⟨(i + 1), K4, O4, T4, Z4, u_149.1, u_149.2, lv_sub hl [0, 1, 2] rfl, hP, hD, hS, rfl, (by omega), bc_RP_end hR4 (bc_fa_p (hw i hlt) (bc_fa_same (hw i hlt) (Or.inl ⟨Or.inl h4, bc_f1_4n hlt hrr h4 (bc_pp_n2 hpp hc_164)⟩)))⟩
            · refine lv_aload_n hx hb de_M_fold_167 rfl (lv_at hl 2 rfl) ?_
              refine lv_bipush (v := 40) hx hb de_M_fold_168 (by decide) ?_
              refine lv_iload_n hx hb de_M_fold_170 rfl (lv_at hl 0 rfl) ?_
              refine lv_iadd hx hb de_M_fold_171 ?_
              refine bc_ti (y := nI (40 + i)) (nI_add 40 i) ?_
              refine lv_iconst (v := 0) hx hb de_M_fold_172 (by decide) ?_
              refine lv_aload_n hx hb de_M_fold_173 rfl (lv_at hl 2 rfl) ?_
              refine va_get (D := (dC, dI)) (ci := 5) (v := .ref r2) (C := rc_M) (T := fc_M) (N := 19) hx hb htw wi_M hown hK hP 0 rfl rfl 2 (by decide) (htw _ wm_425) (fun _ h9 => h9) rfl de_M_fold_174 ?_
              refine lv_iload_n hx hb de_M_fold_177 rfl (lv_at hl 0 rfl) ?_
              refine bc_ild (j := i) hx hb hK hP 2 0 rfl rfl (by omega) (by decide) de_M_fold_178 ?_
              refine bc_ti (y := nI o) ((hR4.1.1 i hi40).2.1.trans eO) ?_
              refine lv_aload_n hx hb de_M_fold_179 rfl (lv_at hl 2 rfl) ?_
              refine va_get (D := (dC, dI)) (ci := 5) (v := .ref r10) (C := rc_M) (T := fc_M) (N := 19) hx hb htw wi_M hown hK hP 0 rfl rfl 12 (by decide) (htw _ wm_435) (fun _ h9 => h9) rfl de_M_fold_180 ?_
              refine lv_aload_n hx hb de_M_fold_183 rfl (lv_at hl 2 rfl) ?_
              refine va_get (D := (dC, dI)) (ci := 5) (v := .ref r2) (C := rc_M) (T := fc_M) (N := 19) hx hb htw wi_M hown hK hP 0 rfl rfl 2 (by decide) (htw _ wm_425) (fun _ h9 => h9) rfl de_M_fold_184 ?_
              refine lv_iload_n hx hb de_M_fold_187 rfl (lv_at hl 0 rfl) ?_
              refine bc_ild (j := i) hx hb hK hP 2 0 rfl rfl (by omega) (by decide) de_M_fold_188 ?_
              refine bc_ti (y := nI o) ((hR4.1.1 i hi40).2.1.trans eO) ?_
              refine bc_ild (j := o) hx hb hK hP 10 0 rfl rfl (by omega) (by decide) de_M_fold_189 ?_
              refine lv_iconst (v := 0) hx hb de_M_fold_190 (by decide) ?_
              refine bc_call_v_v (As := [.int (nI (40 + i)), .int 0, .int (nI o), .int (u_149.2 o), .int 0]) (rest := []) (wr := [(r5, .inl (cI, 2, .inl Sz)), (r6, .inl (cZ, 40, .inl Re)), (r7, .inl (cI, 240, .inl Fa)), (r8, .inl (cI, 240, .inl Va)), (r9, .inl (cI, 6, .inl u_149.1)), (r10, .inl (cI, 6, .inl u_149.2))]) F (co_M_put (by omega) (by simp [bc_kk])) wm_481 wm_6 wm_479 wm_480 wm_631 0 rfl rfl pd_M_put rfl rfl ⟨Nat.le_of_ble_eq_true rfl, Nat.le_of_ble_eq_true rfl⟩ hP hD hS hA [0, 1, 2, 3, 4] [5, 6, 7, 8, 9, 10] rfl rfl rfl rfl (by decide) rfl hl.1 rfl (Nat.le_of_ble_eq_true rfl) de_M_fold_191 ⟨Nat.le_of_ble_eq_true rfl, Nat.le_of_ble_eq_true rfl⟩ (fun u_191 H locs hw_191 hP hD hS => ?_)
              obtain ⟨K6, O6, T6, Z6⟩ := u_191
              try dsimp only at hw_191
              have hR6 := bc_RP_put (F := bc_f1 n K O T Z g) hR4.1 hw_191
              have hP : va_P (dC, dI) classes [(m0, .inr (5, [.int fa, .ref r1, .ref r2, .ref r3, .ref r4, .ref r5, .int rw, .ref r6, .ref r7, .ref r8, .int gw, .ref r9, .ref r10, .ref r11, .ref r12, .ref r13, .ref r14, .ref r15, .ref r16])), (r1, .inl (cI, 80, .inl K6)), (r2, .inl (cI, 80, .inl O6)), (r3, .inl (cI, 80, .inl T6)), (r4, .inl (cI, 80, .inl Z6)), (r5, .inl (cI, 2, .inl Sz)), (r6, .inl (cZ, 40, .inl Re)), (r7, .inl (cI, 240, .inl Fa)), (r8, .inl (cI, 240, .inl Va)), (r9, .inl (cI, 6, .inl u_149.1)), (r10, .inl (cI, 6, .inl u_149.2))] H := hP.sub [6, 7, 8, 9, 10, 0, 1, 2, 3, 4, 5] rfl
              have hD : va_D A [(m0, .inr (5, [.int fa, .ref r1, .ref r2, .ref r3, .ref r4, .ref r5, .int rw, .ref r6, .ref r7, .ref r8, .int gw, .ref r9, .ref r10, .ref r11, .ref r12, .ref r13, .ref r14, .ref r15, .ref r16])), (r1, .inl (cI, 80, .inl K6)), (r2, .inl (cI, 80, .inl O6)), (r3, .inl (cI, 80, .inl T6)), (r4, .inl (cI, 80, .inl Z6)), (r5, .inl (cI, 2, .inl Sz)), (r6, .inl (cZ, 40, .inl Re)), (r7, .inl (cI, 240, .inl Fa)), (r8, .inl (cI, 240, .inl Va)), (r9, .inl (cI, 6, .inl u_149.1)), (r10, .inl (cI, 6, .inl u_149.2))] := hD.sub [6, 7, 8, 9, 10, 0, 1, 2, 3, 4, 5] (by decide) rfl
              refine lv_iinc (k := 0) (v := nI (i + 1)) (lv' := [(2, .int (nI (i + 1))), (1, .int (nI n)), (0, .ref m0)]) hx hb de_M_fold_194 hl rfl (bc_inc _) (by decide) rfl (fun ls hl => ?_)
              refine lv_goto (tgt := 9) hx hb de_M_fold_197 (by decide) ?_
              exact ih_9 _ _ _ _ (by omega) ⟨(i + 1), K6, O6, T6, Z6, u_149.1, u_149.2, lv_sub hl [0, 1, 2] rfl, hP, hD, hS, rfl, (by omega), bc_RP_end hR6 (by rw [← eO]; exact bc_fa_4s hlt hrr h4 (bc_pp_2 hpp hc_164))⟩
        · have htr := (bc_wi_5 (hw i hlt) hc_62).2
          refine lv_aload_n hx hb de_M_fold_65 rfl (lv_at hl 2 rfl) ?_
          refine va_get (D := (dC, dI)) (ci := 5) (v := .ref r7) (C := rc_M) (T := fc_M) (N := 19) hx hb htw wi_M hown hK hP 0 rfl rfl 8 (by decide) (htw _ wm_431) (fun _ h9 => h9) rfl de_M_fold_66 ?_
          refine lv_bipush (v := 6) hx hb de_M_fold_69 (by decide) ?_
          refine lv_iload_n hx hb de_M_fold_71 rfl (lv_at hl 0 rfl) ?_
          refine lv_imul hx hb de_M_fold_72 ?_
          refine bc_ti (y := nI (6 * i)) (pk_mul 6 i) ?_
          refine lv_aload_n hx hb de_M_fold_73 rfl (lv_at hl 2 rfl) ?_
          refine va_get (D := (dC, dI)) (ci := 5) (v := .ref r2) (C := rc_M) (T := fc_M) (N := 19) hx hb htw wi_M hown hK hP 0 rfl rfl 2 (by decide) (htw _ wm_425) (fun _ h9 => h9) rfl de_M_fold_74 ?_
          refine lv_iload_n hx hb de_M_fold_77 rfl (lv_at hl 0 rfl) ?_
          refine bc_ild (j := i) hx hb hK hP 2 0 rfl rfl (by omega) (by decide) de_M_fold_78 ?_
          refine bc_ti (y := nI o) ((hR4.1.1 i hi40).2.1.trans eO) ?_
          refine lv_iadd hx hb de_M_fold_79 ?_
          refine bc_ti (y := nI ((6 * i) + o)) (nI_add (6 * i) o) ?_
          refine bc_ild (j := (6 * i) + o) hx hb hK hP 7 0 rfl rfl (by omega) (by decide) de_M_fold_80 ?_
          refine lv_iconst (v := 2) hx hb de_M_fold_81 (by decide) ?_
          refine lv_icmp_ne (tgt := 128) hx hb de_M_fold_82 (by decide) (fun hc_82 => ?_) (fun hc_82 => ?_)
          · refine lv_aload_n hx hb de_M_fold_128 rfl (lv_at hl 2 rfl) ?_
            refine va_get (D := (dC, dI)) (ci := 5) (v := .ref r6) (C := rc_M) (T := fc_M) (N := 19) hx hb htw wi_M hown hK hP 0 rfl rfl 7 (by decide) (htw _ wm_430) (fun _ h9 => h9) rfl de_M_fold_129 ?_
            refine lv_iload_n hx hb de_M_fold_132 rfl (lv_at hl 0 rfl) ?_
            refine bc_zld (j := i) hx hb hK hP 6 1 rfl rfl (by omega) (by decide) de_M_fold_133 ?_
            refine lv_if_eq (tgt := 194) hx hb de_M_fold_134 (by decide) (fun hc => absurd hc hc_52) (fun _ => ?_)
            refine lv_aload_n hx hb de_M_fold_137 rfl (lv_at hl 2 rfl) ?_
            refine va_get (D := (dC, dI)) (ci := 5) (v := .ref r1) (C := rc_M) (T := fc_M) (N := 19) hx hb htw wi_M hown hK hP 0 rfl rfl 1 (by decide) (htw _ wm_424) (fun _ h9 => h9) rfl de_M_fold_138 ?_
            refine lv_iload_n hx hb de_M_fold_141 rfl (lv_at hl 0 rfl) ?_
            refine bc_ild (j := i) hx hb hK hP 1 0 rfl rfl (by omega) (by decide) de_M_fold_142 ?_
            refine bc_ti (y := K i) (hR4.1.1 i hi40).1 ?_
            refine lv_iconst (v := 5) hx hb de_M_fold_143 (by decide) ?_
            refine lv_icmp_ge (tgt := 194) hx hb de_M_fold_144 (by decide) (fun _ => ?_) (fun hc => absurd (by rw [hc_62]; decide) hc)
            refine lv_iinc (k := 0) (v := nI (i + 1)) (lv' := [(2, .int (nI (i + 1))), (1, .int (nI n)), (0, .ref m0)]) hx hb de_M_fold_194 hl rfl (bc_inc _) (by decide) rfl (fun ls hl => ?_)
            refine lv_goto (tgt := 9) hx hb de_M_fold_197 (by decide) ?_
            exact ih_9 _ _ _ _ (by omega) ⟨(i + 1), K4, O4, T4, Z4, A3, B3, lv_sub hl [0, 1, 2] rfl, hP, hD, hS, rfl, (by omega), bc_RP_end hR4 (bc_fa_p (hw i hlt) (bc_fa_same (hw i hlt) (Or.inr ⟨by rw [hc_62]; decide, bc_f1_5n hlt hrr hc_62 eO ho (bc_s0_n2 (by rw [← (hrow o ho).1]; exact hc_82))⟩)))⟩
          · refine lv_aload_n hx hb de_M_fold_85 rfl (lv_at hl 2 rfl) ?_
            refine lv_bipush (v := 40) hx hb de_M_fold_86 (by decide) ?_
            refine lv_iload_n hx hb de_M_fold_88 rfl (lv_at hl 0 rfl) ?_
            refine lv_iadd hx hb de_M_fold_89 ?_
            refine bc_ti (y := nI (40 + i)) (nI_add 40 i) ?_
            refine lv_bipush (v := 6) hx hb de_M_fold_90 (by decide) ?_
            refine lv_iconst (v := 0) hx hb de_M_fold_92 (by decide) ?_
            refine lv_aload_n hx hb de_M_fold_93 rfl (lv_at hl 2 rfl) ?_
            refine va_get (D := (dC, dI)) (ci := 5) (v := .ref r8) (C := rc_M) (T := fc_M) (N := 19) hx hb htw wi_M hown hK hP 0 rfl rfl 9 (by decide) (htw _ wm_432) (fun _ h9 => h9) rfl de_M_fold_94 ?_
            refine lv_bipush (v := 6) hx hb de_M_fold_97 (by decide) ?_
            refine lv_iload_n hx hb de_M_fold_99 rfl (lv_at hl 0 rfl) ?_
            refine lv_imul hx hb de_M_fold_100 ?_
            refine bc_ti (y := nI (6 * i)) (pk_mul 6 i) ?_
            refine lv_aload_n hx hb de_M_fold_101 rfl (lv_at hl 2 rfl) ?_
            refine va_get (D := (dC, dI)) (ci := 5) (v := .ref r2) (C := rc_M) (T := fc_M) (N := 19) hx hb htw wi_M hown hK hP 0 rfl rfl 2 (by decide) (htw _ wm_425) (fun _ h9 => h9) rfl de_M_fold_102 ?_
            refine lv_iload_n hx hb de_M_fold_105 rfl (lv_at hl 0 rfl) ?_
            refine bc_ild (j := i) hx hb hK hP 2 0 rfl rfl (by omega) (by decide) de_M_fold_106 ?_
            refine bc_ti (y := nI o) ((hR4.1.1 i hi40).2.1.trans eO) ?_
            refine lv_iadd hx hb de_M_fold_107 ?_
            refine bc_ti (y := nI ((6 * i) + o)) (nI_add (6 * i) o) ?_
            refine bc_ild (j := (6 * i) + o) hx hb hK hP 8 0 rfl rfl (by omega) (by decide) de_M_fold_108 ?_
            refine lv_if_ne (tgt := 121) hx hb de_M_fold_109 (by decide) (fun hc_109 => ?_) (fun hc_109 => ?_)
            · refine lv_iload_n hx hb de_M_fold_121 rfl (lv_at hl 0 rfl) ?_
              refine lv_iconst (v := 1) hx hb de_M_fold_122 (by decide) ?_
              refine lv_iadd hx hb de_M_fold_123 ?_
              refine bc_ti (y := nI (i + 1)) (nI_add i 1) ?_
              refine lv_iconst (v := 0) hx hb de_M_fold_124 (by decide) ?_
              refine bc_call_v_v (As := [.int (nI (40 + i)), .int 6, .int 0, .int (nI (i + 1)), .int 0]) (rest := []) (wr := [(r5, .inl (cI, 2, .inl Sz)), (r6, .inl (cZ, 40, .inl Re)), (r7, .inl (cI, 240, .inl Fa)), (r8, .inl (cI, 240, .inl Va)), (r9, .inl (cI, 6, .inl A3)), (r10, .inl (cI, 6, .inl B3))]) F (co_M_put (by omega) (by simp [bc_kk])) wm_481 wm_6 wm_479 wm_480 wm_631 0 rfl rfl pd_M_put rfl rfl ⟨Nat.le_of_ble_eq_true rfl, Nat.le_of_ble_eq_true rfl⟩ hP hD hS hA [0, 1, 2, 3, 4] [5, 6, 7, 8, 9, 10] rfl rfl rfl rfl (by decide) rfl hl.1 rfl (Nat.le_of_ble_eq_true rfl) de_M_fold_125 ⟨Nat.le_of_ble_eq_true rfl, Nat.le_of_ble_eq_true rfl⟩ (fun u_125 H locs hw_125 hP hD hS => ?_)
              obtain ⟨K5, O5, T5, Z5⟩ := u_125
              try dsimp only at hw_125
              have hR5 := bc_RP_put (F := bc_f1 n K O T Z g) hR4.1 hw_125
              have hP : va_P (dC, dI) classes [(m0, .inr (5, [.int fa, .ref r1, .ref r2, .ref r3, .ref r4, .ref r5, .int rw, .ref r6, .ref r7, .ref r8, .int gw, .ref r9, .ref r10, .ref r11, .ref r12, .ref r13, .ref r14, .ref r15, .ref r16])), (r1, .inl (cI, 80, .inl K5)), (r2, .inl (cI, 80, .inl O5)), (r3, .inl (cI, 80, .inl T5)), (r4, .inl (cI, 80, .inl Z5)), (r5, .inl (cI, 2, .inl Sz)), (r6, .inl (cZ, 40, .inl Re)), (r7, .inl (cI, 240, .inl Fa)), (r8, .inl (cI, 240, .inl Va)), (r9, .inl (cI, 6, .inl A3)), (r10, .inl (cI, 6, .inl B3))] H := hP.sub [6, 7, 8, 9, 10, 0, 1, 2, 3, 4, 5] rfl
              have hD : va_D A [(m0, .inr (5, [.int fa, .ref r1, .ref r2, .ref r3, .ref r4, .ref r5, .int rw, .ref r6, .ref r7, .ref r8, .int gw, .ref r9, .ref r10, .ref r11, .ref r12, .ref r13, .ref r14, .ref r15, .ref r16])), (r1, .inl (cI, 80, .inl K5)), (r2, .inl (cI, 80, .inl O5)), (r3, .inl (cI, 80, .inl T5)), (r4, .inl (cI, 80, .inl Z5)), (r5, .inl (cI, 2, .inl Sz)), (r6, .inl (cZ, 40, .inl Re)), (r7, .inl (cI, 240, .inl Fa)), (r8, .inl (cI, 240, .inl Va)), (r9, .inl (cI, 6, .inl A3)), (r10, .inl (cI, 6, .inl B3))] := hD.sub [6, 7, 8, 9, 10, 0, 1, 2, 3, 4, 5] (by decide) rfl
              refine lv_aload_n hx hb de_M_fold_128 rfl (lv_at hl 2 rfl) ?_
              refine va_get (D := (dC, dI)) (ci := 5) (v := .ref r6) (C := rc_M) (T := fc_M) (N := 19) hx hb htw wi_M hown hK hP 0 rfl rfl 7 (by decide) (htw _ wm_430) (fun _ h9 => h9) rfl de_M_fold_129 ?_
              refine lv_iload_n hx hb de_M_fold_132 rfl (lv_at hl 0 rfl) ?_
              refine bc_zld (j := i) hx hb hK hP 6 1 rfl rfl (by omega) (by decide) de_M_fold_133 ?_
              refine lv_if_eq (tgt := 194) hx hb de_M_fold_134 (by decide) (fun hc => absurd hc hc_52) (fun _ => ?_)
              refine lv_aload_n hx hb de_M_fold_137 rfl (lv_at hl 2 rfl) ?_
              refine va_get (D := (dC, dI)) (ci := 5) (v := .ref r1) (C := rc_M) (T := fc_M) (N := 19) hx hb htw wi_M hown hK hP 0 rfl rfl 1 (by decide) (htw _ wm_424) (fun _ h9 => h9) rfl de_M_fold_138 ?_
              refine lv_iload_n hx hb de_M_fold_141 rfl (lv_at hl 0 rfl) ?_
              refine bc_ild (j := i) hx hb hK hP 1 0 rfl rfl (by omega) (by decide) de_M_fold_142 ?_
              refine bc_ti (y := K i) (hR5.1.1 i hi40).1 ?_
              refine lv_iconst (v := 5) hx hb de_M_fold_143 (by decide) ?_
              refine lv_icmp_ge (tgt := 194) hx hb de_M_fold_144 (by decide) (fun _ => ?_) (fun hc => absurd (by rw [hc_62]; decide) hc)
              refine lv_iinc (k := 0) (v := nI (i + 1)) (lv' := [(2, .int (nI (i + 1))), (1, .int (nI n)), (0, .ref m0)]) hx hb de_M_fold_194 hl rfl (bc_inc _) (by decide) rfl (fun ls hl => ?_)
              refine lv_goto (tgt := 9) hx hb de_M_fold_197 (by decide) ?_
              exact ih_9 _ _ _ _ (by omega) ⟨(i + 1), K5, O5, T5, Z5, A3, B3, lv_sub hl [0, 1, 2] rfl, hP, hD, hS, rfl, (by omega), bc_RP_end hR5 (bc_fa_5r hlt hn hrr hc_62 eO ho htr hrow hc_82 (Or.inr ⟨hc_109, rfl⟩))⟩
            · refine lv_aload_n hx hb de_M_fold_112 rfl (lv_at hl 2 rfl) ?_
              refine va_get (D := (dC, dI)) (ci := 5) (v := .ref r3) (C := rc_M) (T := fc_M) (N := 19) hx hb htw wi_M hown hK hP 0 rfl rfl 3 (by decide) (htw _ wm_426) (fun _ h9 => h9) rfl de_M_fold_113 ?_
              refine lv_iload_n hx hb de_M_fold_116 rfl (lv_at hl 0 rfl) ?_
              refine bc_ild (j := i) hx hb hK hP 3 0 rfl rfl (by omega) (by decide) de_M_fold_117 ?_
              refine bc_ti (y := T i) (hR4.1.1 i hi40).2.2.1 ?_
              refine lv_goto (tgt := 124) hx hb de_M_fold_118 (by decide) ?_
              refine lv_iconst (v := 0) hx hb de_M_fold_124 (by decide) ?_
              refine bc_call_v_v (As := [.int (nI (40 + i)), .int 6, .int 0, .int (T i), .int 0]) (rest := []) (wr := [(r5, .inl (cI, 2, .inl Sz)), (r6, .inl (cZ, 40, .inl Re)), (r7, .inl (cI, 240, .inl Fa)), (r8, .inl (cI, 240, .inl Va)), (r9, .inl (cI, 6, .inl A3)), (r10, .inl (cI, 6, .inl B3))]) F (co_M_put (by omega) (by simp [bc_kk])) wm_481 wm_6 wm_479 wm_480 wm_631 0 rfl rfl pd_M_put rfl rfl ⟨Nat.le_of_ble_eq_true rfl, Nat.le_of_ble_eq_true rfl⟩ hP hD hS hA [0, 1, 2, 3, 4] [5, 6, 7, 8, 9, 10] rfl rfl rfl rfl (by decide) rfl hl.1 rfl (Nat.le_of_ble_eq_true rfl) de_M_fold_125 ⟨Nat.le_of_ble_eq_true rfl, Nat.le_of_ble_eq_true rfl⟩ (fun u_125 H locs hw_125 hP hD hS => ?_)
              obtain ⟨K5, O5, T5, Z5⟩ := u_125
              try dsimp only at hw_125
              have hR5 := bc_RP_put (F := bc_f1 n K O T Z g) hR4.1 hw_125
              have hP : va_P (dC, dI) classes [(m0, .inr (5, [.int fa, .ref r1, .ref r2, .ref r3, .ref r4, .ref r5, .int rw, .ref r6, .ref r7, .ref r8, .int gw, .ref r9, .ref r10, .ref r11, .ref r12, .ref r13, .ref r14, .ref r15, .ref r16])), (r1, .inl (cI, 80, .inl K5)), (r2, .inl (cI, 80, .inl O5)), (r3, .inl (cI, 80, .inl T5)), (r4, .inl (cI, 80, .inl Z5)), (r5, .inl (cI, 2, .inl Sz)), (r6, .inl (cZ, 40, .inl Re)), (r7, .inl (cI, 240, .inl Fa)), (r8, .inl (cI, 240, .inl Va)), (r9, .inl (cI, 6, .inl A3)), (r10, .inl (cI, 6, .inl B3))] H := hP.sub [6, 7, 8, 9, 10, 0, 1, 2, 3, 4, 5] rfl
              have hD : va_D A [(m0, .inr (5, [.int fa, .ref r1, .ref r2, .ref r3, .ref r4, .ref r5, .int rw, .ref r6, .ref r7, .ref r8, .int gw, .ref r9, .ref r10, .ref r11, .ref r12, .ref r13, .ref r14, .ref r15, .ref r16])), (r1, .inl (cI, 80, .inl K5)), (r2, .inl (cI, 80, .inl O5)), (r3, .inl (cI, 80, .inl T5)), (r4, .inl (cI, 80, .inl Z5)), (r5, .inl (cI, 2, .inl Sz)), (r6, .inl (cZ, 40, .inl Re)), (r7, .inl (cI, 240, .inl Fa)), (r8, .inl (cI, 240, .inl Va)), (r9, .inl (cI, 6, .inl A3)), (r10, .inl (cI, 6, .inl B3))] := hD.sub [6, 7, 8, 9, 10, 0, 1, 2, 3, 4, 5] (by decide) rfl
              refine lv_aload_n hx hb de_M_fold_128 rfl (lv_at hl 2 rfl) ?_
              refine va_get (D := (dC, dI)) (ci := 5) (v := .ref r6) (C := rc_M) (T := fc_M) (N := 19) hx hb htw wi_M hown hK hP 0 rfl rfl 7 (by decide) (htw _ wm_430) (fun _ h9 => h9) rfl de_M_fold_129 ?_
              refine lv_iload_n hx hb de_M_fold_132 rfl (lv_at hl 0 rfl) ?_
              refine bc_zld (j := i) hx hb hK hP 6 1 rfl rfl (by omega) (by decide) de_M_fold_133 ?_
              refine lv_if_eq (tgt := 194) hx hb de_M_fold_134 (by decide) (fun hc => absurd hc hc_52) (fun _ => ?_)
              refine lv_aload_n hx hb de_M_fold_137 rfl (lv_at hl 2 rfl) ?_
              refine va_get (D := (dC, dI)) (ci := 5) (v := .ref r1) (C := rc_M) (T := fc_M) (N := 19) hx hb htw wi_M hown hK hP 0 rfl rfl 1 (by decide) (htw _ wm_424) (fun _ h9 => h9) rfl de_M_fold_138 ?_
              refine lv_iload_n hx hb de_M_fold_141 rfl (lv_at hl 0 rfl) ?_
              refine bc_ild (j := i) hx hb hK hP 1 0 rfl rfl (by omega) (by decide) de_M_fold_142 ?_
              refine bc_ti (y := K i) (hR5.1.1 i hi40).1 ?_
              refine lv_iconst (v := 5) hx hb de_M_fold_143 (by decide) ?_
              refine lv_icmp_ge (tgt := 194) hx hb de_M_fold_144 (by decide) (fun _ => ?_) (fun hc => absurd (by rw [hc_62]; decide) hc)
              refine lv_iinc (k := 0) (v := nI (i + 1)) (lv' := [(2, .int (nI (i + 1))), (1, .int (nI n)), (0, .ref m0)]) hx hb de_M_fold_194 hl rfl (bc_inc _) (by decide) rfl (fun ls hl => ?_)
              refine lv_goto (tgt := 9) hx hb de_M_fold_197 (by decide) ?_
              exact ih_9 _ _ _ _ (by omega) ⟨(i + 1), K5, O5, T5, Z5, A3, B3, lv_sub hl [0, 1, 2] rfl, hP, hD, hS, rfl, (by omega), bc_RP_end hR5 (bc_fa_5r hlt hn hrr hc_62 eO ho htr hrow hc_82 (Or.inl ⟨hc_109, rfl⟩))⟩
  · exact ⟨_, 0, K, O, T, Z, Nf, Nv, lv_sub hl [0, 1, 2] rfl, hP, hD, hS, rfl, Nat.zero_le _, ⟨fun j _ => ⟨rfl, rfl, rfl, rfl⟩, fun j hj => absurd hj (Nat.not_lt_zero j)⟩⟩

set_option maxHeartbeats 4000000 in
set_option maxRecDepth 100000 in
/-- one more stays -/
theorem co_M_mark {l : Launch} {dC : Nat → ClassId} {dI : Nat → Nat → Nat} {cI cZ : ClassId} {sz : Nat} {m0 r1 r2 r3 r4 r5 r6 r7 r8 r9 r10 r11 r12 r13 r14 r15 r16 : Nat} {Sz St : bc_F} {fa rw gw : Int32} {n t : Nat} (hn : n ≤ 40) (ht : t < 2 ^ 31) (hSz : Sz 0 = nI n) : Met l yn_M_mark (Cond.code yn_M_mark by_M_mark 2 none :: wd_all) ({ frames := 0, cells := 0, slots := 0, locals := 0 } : Room) (bc_Pre (dC, dI) classes [(cI, .int), (cZ, .boolean)] [.ref m0, .int (nI t)] [(m0, .inr (5, [.int fa, .ref r1, .ref r2, .ref r3, .ref r4, .ref r5, .int rw, .ref r6, .ref r7, .ref r8, .int gw, .ref r9, .ref r10, .ref r11, .ref r12, .ref r13, .ref r14, .ref r15, .ref r16])), (r5, .inl (cI, 2, .inl Sz)), (r11, .inl (cZ, 41, .inl St))] sz) (va_Qv (fun (u : bc_F × Int32) => bc_mu n St t gw u.1 u.2) (fun (u : bc_F × Int32) t => bc_B (dC, dI) classes [(cI, .int), (cZ, .boolean)] (va_A [(m0, .inr (5, [.int fa, .ref r1, .ref r2, .ref r3, .ref r4, .ref r5, .int rw, .ref r6, .ref r7, .ref r8, .int gw, .ref r9, .ref r10, .ref r11, .ref r12, .ref r13, .ref r14, .ref r15, .ref r16])), (r5, .inl (cI, 2, .inl Sz)), (r11, .inl (cZ, 41, .inl St))] sz) [(m0, .inr (5, [.int fa, .ref r1, .ref r2, .ref r3, .ref r4, .ref r5, .int rw, .ref r6, .ref r7, .ref r8, .int u.2, .ref r9, .ref r10, .ref r11, .ref r12, .ref r13, .ref r14, .ref r15, .ref r16])), (r5, .inl (cI, 2, .inl Sz)), (r11, .inl (cZ, 41, .inl u.1))] t) ((va_A [(m0, .inr (5, [.int fa, .ref r1, .ref r2, .ref r3, .ref r4, .ref r5, .int rw, .ref r6, .ref r7, .ref r8, .int gw, .ref r9, .ref r10, .ref r11, .ref r12, .ref r13, .ref r14, .ref r15, .ref r16])), (r5, .inl (cI, 2, .inl Sz)), (r11, .inl (cZ, 41, .inl St))] sz))) 0 0 (va_A [(m0, .inr (5, [.int fa, .ref r1, .ref r2, .ref r3, .ref r4, .ref r5, .int rw, .ref r6, .ref r7, .ref r8, .int gw, .ref r9, .ref r10, .ref r11, .ref r12, .ref r13, .ref r14, .ref r15, .ref r16])), (r5, .inl (cI, 2, .inl Sz)), (r11, .inl (cZ, 41, .inl St))] sz) := by
  refine bc_met (fun A => va_Qv (fun (u : bc_F × Int32) => bc_mu n St t gw u.1 u.2) (fun (u : bc_F × Int32) t => bc_B (dC, dI) classes [(cI, .int), (cZ, .boolean)] A [(m0, .inr (5, [.int fa, .ref r1, .ref r2, .ref r3, .ref r4, .ref r5, .int rw, .ref r6, .ref r7, .ref r8, .int u.2, .ref r9, .ref r10, .ref r11, .ref r12, .ref r13, .ref r14, .ref r15, .ref r16])), (r5, .inl (cI, 2, .inl Sz)), (r11, .inl (cZ, 41, .inl u.1))] t) A) (by decide) (Nat.le_of_ble_eq_true rfl) ?_
  intro p e s m args below meth c A ls F hr hlocks hin hA hP hD hl hS
  have hx := F.1
  have hb := F.2.1
  have hml := F.2.2.1
  have hown : s.vm.findClass "BranchConstantsModel" = some m.cls := F.2.2.2.1
  have htw := F.2.2.2.2.1
  have hN := F.2.2.2.2.2.1
  have hK := F.2.2.2.2.2.2
  have hl : lv_has ls 2 [(0, .ref m0), (1, .int (nI t))] := hl
  refine lv_iload_n hx hb de_M_mark_0 rfl (lv_at hl 1 rfl) ?_
  refine lv_aload_n hx hb de_M_mark_1 rfl (lv_at hl 0 rfl) ?_
  refine va_get (D := (dC, dI)) (ci := 5) (v := .ref r5) (C := rc_M) (T := fc_M) (N := 19) hx hb htw wi_M hown hK hP 0 rfl rfl 5 (by decide) (htw _ wm_428) (fun _ h9 => h9) rfl de_M_mark_2 ?_
  refine lv_iconst (v := 0) hx hb de_M_mark_5 (by decide) ?_
  refine bc_ildE (by decide) (j := 0) hx hb hK hP 1 0 rfl rfl (by omega) (by decide) de_M_mark_6 ?_
  refine bc_ti (y := nI n) hSz ?_
  refine lv_icmp_ge (tgt := 31) hx hb de_M_mark_7 (by decide) (fun hc_7 => ?_) (fun hc_7 => ?_)
  · exact bc_vret F hr hlocks ((St, gw)) ⟨fun z => absurd z (by have := bc_ge (by omega) ht hc_7; omega), fun _ => ⟨rfl, rfl⟩⟩ hP hD hS de_M_mark_31
  · have hlt : t < n := bc_lt (by omega) ht hc_7
    refine lv_aload_n hx hb de_M_mark_10 rfl (lv_at hl 0 rfl) ?_
    refine va_get (D := (dC, dI)) (ci := 5) (v := .ref r11) (C := rc_M) (T := fc_M) (N := 19) hx hb htw wi_M hown hK hP 0 rfl rfl 13 (by decide) (htw _ wm_436) (fun _ h9 => h9) rfl de_M_mark_11 ?_
    refine lv_iload_n hx hb de_M_mark_14 rfl (lv_at hl 1 rfl) ?_
    refine bc_zld (j := t) hx hb hK hP 2 1 rfl rfl (by omega) (by decide) de_M_mark_15 ?_
    refine lv_if_ne (tgt := 31) hx hb de_M_mark_16 (by decide) (fun hc_16 => ?_) (fun hc_16 => ?_)
    · exact bc_vret F hr hlocks ((St, gw)) ⟨fun _ z => absurd z hc_16, fun _ => ⟨rfl, rfl⟩⟩ hP hD hS de_M_mark_31
    · refine lv_aload_n hx hb de_M_mark_19 rfl (lv_at hl 0 rfl) ?_
      refine va_get (D := (dC, dI)) (ci := 5) (v := .ref r11) (C := rc_M) (T := fc_M) (N := 19) hx hb htw wi_M hown hK hP 0 rfl rfl 13 (by decide) (htw _ wm_436) (fun _ h9 => h9) rfl de_M_mark_20 ?_
      refine lv_iload_n hx hb de_M_mark_23 rfl (lv_at hl 1 rfl) ?_
      refine lv_iconst (v := 1) hx hb de_M_mark_24 (by decide) ?_
      refine bc_zst (j := t) hx hb hK hP hD hS 2 1 rfl rfl (by decide) (by omega) (by decide) de_M_mark_25 (fun H locs hP hD hS => ?_)
      have hP : va_P (dC, dI) classes [(m0, .inr (5, [.int fa, .ref r1, .ref r2, .ref r3, .ref r4, .ref r5, .int rw, .ref r6, .ref r7, .ref r8, .int gw, .ref r9, .ref r10, .ref r11, .ref r12, .ref r13, .ref r14, .ref r15, .ref r16])), (r5, .inl (cI, 2, .inl Sz)), (r11, .inl (cZ, 41, .inl (upd St t 1)))] H := hP
      have hD : va_D A [(m0, .inr (5, [.int fa, .ref r1, .ref r2, .ref r3, .ref r4, .ref r5, .int rw, .ref r6, .ref r7, .ref r8, .int gw, .ref r9, .ref r10, .ref r11, .ref r12, .ref r13, .ref r14, .ref r15, .ref r16])), (r5, .inl (cI, 2, .inl Sz)), (r11, .inl (cZ, 41, .inl (upd St t 1)))] := hD
      refine lv_aload_n hx hb de_M_mark_26 rfl (lv_at hl 0 rfl) ?_
      refine lv_iconst (v := 1) hx hb de_M_mark_27 (by decide) ?_
      refine va_put (D := (dC, dI)) (ci := 5) (v := .int 1) (ty := .boolean) (C := rc_M) (T := fc_M) (N := 19) hx hb htw wi_M tc_M tc_M_ok nc_M hown hK hP hD hS 0 rfl rfl 10 (by decide) (htw _ wm_433) (fun _ h9 => h9) rfl (by decide +kernel) rfl rfl (Nat.le_of_ble_eq_true rfl) de_M_mark_28 (fun H locs hP hD hS => ?_)
      have hP : va_P (dC, dI) classes [(m0, .inr (5, [.int fa, .ref r1, .ref r2, .ref r3, .ref r4, .ref r5, .int rw, .ref r6, .ref r7, .ref r8, .int 1, .ref r9, .ref r10, .ref r11, .ref r12, .ref r13, .ref r14, .ref r15, .ref r16])), (r5, .inl (cI, 2, .inl Sz)), (r11, .inl (cZ, 41, .inl (upd St t 1)))] H := hP
      have hD : va_D A [(m0, .inr (5, [.int fa, .ref r1, .ref r2, .ref r3, .ref r4, .ref r5, .int rw, .ref r6, .ref r7, .ref r8, .int 1, .ref r9, .ref r10, .ref r11, .ref r12, .ref r13, .ref r14, .ref r15, .ref r16])), (r5, .inl (cI, 2, .inl Sz)), (r11, .inl (cZ, 41, .inl (upd St t 1)))] := hD
      exact bc_vret F hr hlocks ((upd St t 1, 1)) ⟨fun _ _ => ⟨rfl, rfl⟩, fun z => absurd ⟨hlt, hc_16⟩ z⟩ hP hD hS de_M_mark_31

theorem bc_zs2 {W : bc_F} {f k : Nat} (h : ∀ j, f ≤ j → j < k → W j = 0) (hk : W k = 0) : ∀ j, f ≤ j → j < k + 1 → W j = 0 := by
  intro j hj hj2
  by_cases c : j = k
  · rw [c]; exact hk
  · exact h j hj (by omega)
set_option maxHeartbeats 4000000 in
set_option maxRecDepth 100000 in
/-- the next that stays -/
theorem co_M_nextStaying {l : Launch} {dC : Nat → ClassId} {dI : Nat → Nat → Nat} {cI cZ : ClassId} {sz : Nat} {m0 r1 r2 r3 r4 r5 r6 r7 r8 r9 r10 r11 r12 r13 r14 r15 r16 : Nat} {Sz St : bc_F} {fa rw gw : Int32} {n f : Nat} (hn : n ≤ 40) (hf : f ≤ n) (hSz : Sz 0 = nI n) : Met l yn_M_nextStaying (Cond.code yn_M_nextStaying by_M_nextStaying 3 (some FieldType.int) :: wd_all) ({ frames := 0, cells := 0, slots := 0, locals := 0 } : Room) (bc_Pre (dC, dI) classes [(cI, .int), (cZ, .boolean)] [.ref m0, .int (nI f)] [(m0, .inr (5, [.int fa, .ref r1, .ref r2, .ref r3, .ref r4, .ref r5, .int rw, .ref r6, .ref r7, .ref r8, .int gw, .ref r9, .ref r10, .ref r11, .ref r12, .ref r13, .ref r14, .ref r15, .ref r16])), (r5, .inl (cI, 2, .inl Sz)), (r11, .inl (cZ, 41, .inl St))] sz) (va_Qi (fun (r : Int32) (u : Unit) => ∃ k : Nat, r = nI k ∧ bc_nx n St f k) (fun (u : Unit) t => bc_B (dC, dI) classes [(cI, .int), (cZ, .boolean)] (va_A [(m0, .inr (5, [.int fa, .ref r1, .ref r2, .ref r3, .ref r4, .ref r5, .int rw, .ref r6, .ref r7, .ref r8, .int gw, .ref r9, .ref r10, .ref r11, .ref r12, .ref r13, .ref r14, .ref r15, .ref r16])), (r5, .inl (cI, 2, .inl Sz)), (r11, .inl (cZ, 41, .inl St))] sz) [(m0, .inr (5, [.int fa, .ref r1, .ref r2, .ref r3, .ref r4, .ref r5, .int rw, .ref r6, .ref r7, .ref r8, .int gw, .ref r9, .ref r10, .ref r11, .ref r12, .ref r13, .ref r14, .ref r15, .ref r16])), (r5, .inl (cI, 2, .inl Sz)), (r11, .inl (cZ, 41, .inl St))] t) ((va_A [(m0, .inr (5, [.int fa, .ref r1, .ref r2, .ref r3, .ref r4, .ref r5, .int rw, .ref r6, .ref r7, .ref r8, .int gw, .ref r9, .ref r10, .ref r11, .ref r12, .ref r13, .ref r14, .ref r15, .ref r16])), (r5, .inl (cI, 2, .inl Sz)), (r11, .inl (cZ, 41, .inl St))] sz))) 0 0 (va_A [(m0, .inr (5, [.int fa, .ref r1, .ref r2, .ref r3, .ref r4, .ref r5, .int rw, .ref r6, .ref r7, .ref r8, .int gw, .ref r9, .ref r10, .ref r11, .ref r12, .ref r13, .ref r14, .ref r15, .ref r16])), (r5, .inl (cI, 2, .inl Sz)), (r11, .inl (cZ, 41, .inl St))] sz) := by
  refine bc_met (fun A => va_Qi (fun (r : Int32) (u : Unit) => ∃ k : Nat, r = nI k ∧ bc_nx n St f k) (fun (u : Unit) t => bc_B (dC, dI) classes [(cI, .int), (cZ, .boolean)] A [(m0, .inr (5, [.int fa, .ref r1, .ref r2, .ref r3, .ref r4, .ref r5, .int rw, .ref r6, .ref r7, .ref r8, .int gw, .ref r9, .ref r10, .ref r11, .ref r12, .ref r13, .ref r14, .ref r15, .ref r16])), (r5, .inl (cI, 2, .inl Sz)), (r11, .inl (cZ, 41, .inl St))] t) A) (by decide) (Nat.le_of_ble_eq_true rfl) ?_
  intro p e s m args below meth c A ls F hr hlocks hin hA hP hD hl hS
  have hx := F.1
  have hb := F.2.1
  have hml := F.2.2.1
  have hown : s.vm.findClass "BranchConstantsModel" = some m.cls := F.2.2.2.1
  have htw := F.2.2.2.2.1
  have hN := F.2.2.2.2.2.1
  have hK := F.2.2.2.2.2.2
  have hl : lv_has ls 3 [(0, .ref m0), (1, .int (nI f))] := hl
  refine lv_iload_n hx hb de_M_nextStaying_0 rfl (lv_at hl 1 rfl) ?_
  refine lv_istore_n (lv' := [(2, .int (nI f)), (0, .ref m0), (1, .int (nI f))]) hx hb de_M_nextStaying_1 rfl hl (by decide) rfl (fun ls hl => ?_)
  refine bc_loop (fun k_2 H locs ls => ∃ (k : Nat), lv_has ls 3 [(2, .int (nI k)), (0, .ref m0), (1, .int (nI f))] ∧ va_P (dC, dI) classes [(m0, .inr (5, [.int fa, .ref r1, .ref r2, .ref r3, .ref r4, .ref r5, .int rw, .ref r6, .ref r7, .ref r8, .int gw, .ref r9, .ref r10, .ref r11, .ref r12, .ref r13, .ref r14, .ref r15, .ref r16])), (r5, .inl (cI, 2, .inl Sz)), (r11, .inl (cZ, 41, .inl St))] H ∧ va_D A [(m0, .inr (5, [.int fa, .ref r1, .ref r2, .ref r3, .ref r4, .ref r5, .int rw, .ref r6, .ref r7, .ref r8, .int gw, .ref r9, .ref r10, .ref r11, .ref r12, .ref r13, .ref r14, .ref r15, .ref r16])), (r5, .inl (cI, 2, .inl Sz)), (r11, .inl (cZ, 41, .inl St))] ∧ va_S A s.heap H locs ∧ k_2 = n - k ∧ (f ≤ k) ∧ (k ≤ n) ∧ (∀ j, f ≤ j → j < k → St j = 0)) ?_ ?_
  · rintro k_2 H locs ls ⟨k, hl, hP, hD, hS, hk_2, hk1, hk2, hz⟩ ih_2
    refine lv_iload_n hx hb de_M_nextStaying_2 rfl (lv_at hl 0 rfl) ?_
    refine lv_aload_n hx hb de_M_nextStaying_3 rfl (lv_at hl 1 rfl) ?_
    refine va_get (D := (dC, dI)) (ci := 5) (v := .ref r5) (C := rc_M) (T := fc_M) (N := 19) hx hb htw wi_M hown hK hP 0 rfl rfl 5 (by decide) (htw _ wm_428) (fun _ h9 => h9) rfl de_M_nextStaying_4 ?_
    refine lv_iconst (v := 0) hx hb de_M_nextStaying_7 (by decide) ?_
    refine bc_ildE (by decide) (j := 0) hx hb hK hP 1 0 rfl rfl (by omega) (by decide) de_M_nextStaying_8 ?_
    refine bc_ti (y := nI n) hSz ?_
    refine lv_icmp_ge (tgt := 27) hx hb de_M_nextStaying_9 (by decide) (fun hc_9 => ?_) (fun hc_9 => ?_)
    · refine lv_iload_n hx hb de_M_nextStaying_27 rfl (lv_at hl 0 rfl) ?_
      exact bc_iret F hr hlocks (()) ⟨k, rfl, hk1, hk2, fun z => absurd z (by have := bc_ge (by omega) (by omega) hc_9; omega), hz⟩ hP hD hS de_M_nextStaying_28
    · have hlt : k < n := bc_lt (by omega) (by omega) hc_9
      refine lv_aload_n hx hb de_M_nextStaying_12 rfl (lv_at hl 1 rfl) ?_
      refine va_get (D := (dC, dI)) (ci := 5) (v := .ref r11) (C := rc_M) (T := fc_M) (N := 19) hx hb htw wi_M hown hK hP 0 rfl rfl 13 (by decide) (htw _ wm_436) (fun _ h9 => h9) rfl de_M_nextStaying_13 ?_
      refine lv_iload_n hx hb de_M_nextStaying_16 rfl (lv_at hl 0 rfl) ?_
      refine bc_zld (j := k) hx hb hK hP 2 1 rfl rfl (by omega) (by decide) de_M_nextStaying_17 ?_
      refine lv_if_ne (tgt := 27) hx hb de_M_nextStaying_18 (by decide) (fun hc_18 => ?_) (fun hc_18 => ?_)
      · refine lv_iload_n hx hb de_M_nextStaying_27 rfl (lv_at hl 0 rfl) ?_
        exact bc_iret F hr hlocks (()) ⟨k, rfl, hk1, hk2, fun _ => hc_18, hz⟩ hP hD hS de_M_nextStaying_28
      · refine lv_iinc (k := 0) (v := nI (k + 1)) (lv' := [(2, .int (nI (k + 1))), (0, .ref m0), (1, .int (nI f))]) hx hb de_M_nextStaying_21 hl rfl (bc_inc _) (by decide) rfl (fun ls hl => ?_)
        refine lv_goto (tgt := 2) hx hb de_M_nextStaying_24 (by decide) ?_
        exact ih_2 _ _ _ _ (by omega) ⟨(k + 1), lv_sub hl [0, 1, 2] rfl, hP, hD, hS, rfl, (by omega), (by omega), bc_zs2 hz hc_18⟩
  · exact ⟨_, f, lv_sub hl [0, 1, 2] rfl, hP, hD, hS, rfl, Nat.le_refl _, hf, fun j h1 h2 => absurd h2 (by omega)⟩

