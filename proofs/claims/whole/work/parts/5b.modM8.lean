/-! the reference: number (by program: wip/whole/gen/modM8.py) -/
theorem bc_u40 {f : bc_F} {a : Nat} {x : Int32} : (fun j => upd f (40 + a) x (40 + j)) = upd (fun j => f (40 + j)) a x := by
  funext j
  by_cases c : j = a
  · subst c; rw [pk_us, pk_us]
  · rw [pk_un c, pk_un (by omega)]
theorem bc_MV4 {n i : Nat} {K O T Z St K3 O3 T3 Z3 K4 O4 T4 Z4 : bc_F} {a b d e : Int32} (h : bc_s40 K O T Z K3 O3 T3 Z3) (hJ : bc_MV n (fun j => K (40 + j)) (fun j => O (40 + j)) (fun j => T (40 + j)) (fun j => Z (40 + j)) St i (fun j => K3 (40 + j)) (fun j => O3 (40 + j)) (fun j => T3 (40 + j)) (fun j => Z3 (40 + j))) (hi : i < n) (hB : St i ≠ 0)
    (hu : (K4, O4, T4, Z4) = (upd K3 (40 + bc_ct St i) a, upd O3 (40 + bc_ct St i) b, upd T3 (40 + bc_ct St i) d, upd Z3 (40 + bc_ct St i) e)) (hf : bc_MVa n (fun j => K (40 + j)) (fun j => O (40 + j)) (fun j => T (40 + j)) (fun j => Z (40 + j)) St i a b d e) :
    bc_s40 K O T Z K4 O4 T4 Z4 ∧ bc_MV n (fun j => K (40 + j)) (fun j => O (40 + j)) (fun j => T (40 + j)) (fun j => Z (40 + j)) St (i + 1) (fun j => K4 (40 + j)) (fun j => O4 (40 + j)) (fun j => T4 (40 + j)) (fun j => Z4 (40 + j)) := by
  simp only [Prod.mk.injEq] at hu
  obtain ⟨rfl, rfl, rfl, rfl⟩ := hu
  refine ⟨fun j hj => ?_, ?_⟩
  · have c : j ≠ 40 + bc_ct St i := by omega
    rw [pk_un c, pk_un c, pk_un c, pk_un c]; exact h j hj
  · rw [bc_u40, bc_u40, bc_u40, bc_u40]
    exact bc_MV_put hJ hi hB hf
set_option maxHeartbeats 4000000 in
set_option maxRecDepth 100000 in
/-- NUMBER -/
theorem co_M_number {l : Launch} {dC : Nat → ClassId} {dI : Nat → Nat → Nat} {cI cZ : ClassId} {sz : Nat} {m0 r1 r2 r3 r4 r5 r6 r7 r8 r9 r10 r11 r12 r13 r14 r15 r16 : Nat} {K O T Z Sz St Ld : bc_F} {fa rw gw : Int32} {n : Nat} (hn : n ≤ 40) (hSz : Sz 0 = nI n) (hkk : ∀ j, j < n → bc_kk (K (40 + j))) (htr : ∀ j, j < n → bc_gs (K (40 + j)) → bc_tr (T (40 + j))) : Met l yn_M_number (Cond.code yn_M_number by_M_number 7 none :: wd_all) ({ frames := 1, cells := 0, slots := 0, locals := 25 } : Room) (bc_Pre (dC, dI) classes [(cI, .int), (cZ, .boolean)] [.ref m0] [(m0, .inr (5, [.int fa, .ref r1, .ref r2, .ref r3, .ref r4, .ref r5, .int rw, .ref r6, .ref r7, .ref r8, .int gw, .ref r9, .ref r10, .ref r11, .ref r12, .ref r13, .ref r14, .ref r15, .ref r16])), (r1, .inl (cI, 80, .inl K)), (r2, .inl (cI, 80, .inl O)), (r3, .inl (cI, 80, .inl T)), (r4, .inl (cI, 80, .inl Z)), (r5, .inl (cI, 2, .inl Sz)), (r11, .inl (cZ, 41, .inl St)), (r12, .inl (cI, 40, .inl Ld))] sz) (va_Qv (fun (u : (bc_F × bc_F × bc_F × bc_F) × bc_F) => bc_s40 K O T Z u.1.1 u.1.2.1 u.1.2.2.1 u.1.2.2.2 ∧ ∀ j, j < n → St j ≠ 0 → bc_MVa n (fun j => K (40 + j)) (fun j => O (40 + j)) (fun j => T (40 + j)) (fun j => Z (40 + j)) St j (u.1.1 (40 + bc_ct St j)) (u.1.2.1 (40 + bc_ct St j)) (u.1.2.2.1 (40 + bc_ct St j)) (u.1.2.2.2 (40 + bc_ct St j))) (fun (u : (bc_F × bc_F × bc_F × bc_F) × bc_F) t => bc_B (dC, dI) classes [(cI, .int), (cZ, .boolean)] (va_A [(m0, .inr (5, [.int fa, .ref r1, .ref r2, .ref r3, .ref r4, .ref r5, .int rw, .ref r6, .ref r7, .ref r8, .int gw, .ref r9, .ref r10, .ref r11, .ref r12, .ref r13, .ref r14, .ref r15, .ref r16])), (r1, .inl (cI, 80, .inl K)), (r2, .inl (cI, 80, .inl O)), (r3, .inl (cI, 80, .inl T)), (r4, .inl (cI, 80, .inl Z)), (r5, .inl (cI, 2, .inl Sz)), (r11, .inl (cZ, 41, .inl St)), (r12, .inl (cI, 40, .inl Ld))] sz) [(m0, .inr (5, [.int fa, .ref r1, .ref r2, .ref r3, .ref r4, .ref r5, .int rw, .ref r6, .ref r7, .ref r8, .int gw, .ref r9, .ref r10, .ref r11, .ref r12, .ref r13, .ref r14, .ref r15, .ref r16])), (r1, .inl (cI, 80, .inl u.1.1)), (r2, .inl (cI, 80, .inl u.1.2.1)), (r3, .inl (cI, 80, .inl u.1.2.2.1)), (r4, .inl (cI, 80, .inl u.1.2.2.2)), (r5, .inl (cI, 2, .inl (upd Sz 1 (nI (bc_ct St n))))), (r11, .inl (cZ, 41, .inl St)), (r12, .inl (cI, 40, .inl u.2))] t) ((va_A [(m0, .inr (5, [.int fa, .ref r1, .ref r2, .ref r3, .ref r4, .ref r5, .int rw, .ref r6, .ref r7, .ref r8, .int gw, .ref r9, .ref r10, .ref r11, .ref r12, .ref r13, .ref r14, .ref r15, .ref r16])), (r1, .inl (cI, 80, .inl K)), (r2, .inl (cI, 80, .inl O)), (r3, .inl (cI, 80, .inl T)), (r4, .inl (cI, 80, .inl Z)), (r5, .inl (cI, 2, .inl Sz)), (r11, .inl (cZ, 41, .inl St)), (r12, .inl (cI, 40, .inl Ld))] sz))) 0 0 (va_A [(m0, .inr (5, [.int fa, .ref r1, .ref r2, .ref r3, .ref r4, .ref r5, .int rw, .ref r6, .ref r7, .ref r8, .int gw, .ref r9, .ref r10, .ref r11, .ref r12, .ref r13, .ref r14, .ref r15, .ref r16])), (r1, .inl (cI, 80, .inl K)), (r2, .inl (cI, 80, .inl O)), (r3, .inl (cI, 80, .inl T)), (r4, .inl (cI, 80, .inl Z)), (r5, .inl (cI, 2, .inl Sz)), (r11, .inl (cZ, 41, .inl St)), (r12, .inl (cI, 40, .inl Ld))] sz) := by
  refine bc_met (fun A => va_Qv (fun (u : (bc_F × bc_F × bc_F × bc_F) × bc_F) => bc_s40 K O T Z u.1.1 u.1.2.1 u.1.2.2.1 u.1.2.2.2 ∧ ∀ j, j < n → St j ≠ 0 → bc_MVa n (fun j => K (40 + j)) (fun j => O (40 + j)) (fun j => T (40 + j)) (fun j => Z (40 + j)) St j (u.1.1 (40 + bc_ct St j)) (u.1.2.1 (40 + bc_ct St j)) (u.1.2.2.1 (40 + bc_ct St j)) (u.1.2.2.2 (40 + bc_ct St j))) (fun (u : (bc_F × bc_F × bc_F × bc_F) × bc_F) t => bc_B (dC, dI) classes [(cI, .int), (cZ, .boolean)] A [(m0, .inr (5, [.int fa, .ref r1, .ref r2, .ref r3, .ref r4, .ref r5, .int rw, .ref r6, .ref r7, .ref r8, .int gw, .ref r9, .ref r10, .ref r11, .ref r12, .ref r13, .ref r14, .ref r15, .ref r16])), (r1, .inl (cI, 80, .inl u.1.1)), (r2, .inl (cI, 80, .inl u.1.2.1)), (r3, .inl (cI, 80, .inl u.1.2.2.1)), (r4, .inl (cI, 80, .inl u.1.2.2.2)), (r5, .inl (cI, 2, .inl (upd Sz 1 (nI (bc_ct St n))))), (r11, .inl (cZ, 41, .inl St)), (r12, .inl (cI, 40, .inl u.2))] t) A) (by decide) (Nat.le_of_ble_eq_true rfl) ?_
  intro p e s m args below meth c A ls F hr hlocks hin hA hP hD hl hS
  have hx := F.1
  have hb := F.2.1
  have hml := F.2.2.1
  have hown : s.vm.findClass "BranchConstantsModel" = some m.cls := F.2.2.2.1
  have htw := F.2.2.2.2.1
  have hN := F.2.2.2.2.2.1
  have hK := F.2.2.2.2.2.2
  have hl : lv_has ls 7 [(0, .ref m0)] := hl
  refine lv_aload_n hx hb de_M_number_0 rfl (lv_at hl 0 rfl) ?_
  refine va_get (D := (dC, dI)) (ci := 5) (v := .ref r5) (C := rc_M) (T := fc_M) (N := 19) hx hb htw wi_M hown hK hP 0 rfl rfl 5 (by decide) (htw _ wm_428) (fun _ h9 => h9) rfl de_M_number_1 ?_
  refine lv_iconst (v := 0) hx hb de_M_number_4 (by decide) ?_
  refine bc_ildE (by decide) (j := 0) hx hb hK hP 5 0 rfl rfl (by omega) (by decide) de_M_number_5 ?_
  refine bc_ti (y := nI n) hSz ?_
  refine lv_istore_n (lv' := [(1, .int (nI n)), (0, .ref m0)]) hx hb de_M_number_6 rfl hl (by decide) rfl (fun ls hl => ?_)
  refine lv_iconst (v := 0) hx hb de_M_number_7 (by decide) ?_
  refine bc_ti (y := nI (bc_ct St 0)) nI_0.symm ?_
  refine lv_istore_n (lv' := [(2, .int (nI (bc_ct St 0))), (1, .int (nI n)), (0, .ref m0)]) hx hb de_M_number_8 rfl hl (by decide) rfl (fun ls hl => ?_)
  refine lv_iconst (v := 0) hx hb de_M_number_9 (by decide) ?_
  refine bc_ti (y := nI 0) nI_0.symm ?_
  refine lv_istore_n (lv' := [(3, .int (nI 0)), (2, .int (nI (bc_ct St 0))), (1, .int (nI n)), (0, .ref m0)]) hx hb de_M_number_10 rfl hl (by decide) rfl (fun ls hl => ?_)
  refine bc_loop (fun k_11 H locs ls => ∃ (i : Nat) (L1 : bc_F), lv_has ls 7 [(3, .int (nI i)), (2, .int (nI (bc_ct St i))), (1, .int (nI n)), (0, .ref m0)] ∧ va_P (dC, dI) classes [(m0, .inr (5, [.int fa, .ref r1, .ref r2, .ref r3, .ref r4, .ref r5, .int rw, .ref r6, .ref r7, .ref r8, .int gw, .ref r9, .ref r10, .ref r11, .ref r12, .ref r13, .ref r14, .ref r15, .ref r16])), (r1, .inl (cI, 80, .inl K)), (r2, .inl (cI, 80, .inl O)), (r3, .inl (cI, 80, .inl T)), (r4, .inl (cI, 80, .inl Z)), (r5, .inl (cI, 2, .inl Sz)), (r11, .inl (cZ, 41, .inl St)), (r12, .inl (cI, 40, .inl L1))] H ∧ va_D A [(m0, .inr (5, [.int fa, .ref r1, .ref r2, .ref r3, .ref r4, .ref r5, .int rw, .ref r6, .ref r7, .ref r8, .int gw, .ref r9, .ref r10, .ref r11, .ref r12, .ref r13, .ref r14, .ref r15, .ref r16])), (r1, .inl (cI, 80, .inl K)), (r2, .inl (cI, 80, .inl O)), (r3, .inl (cI, 80, .inl T)), (r4, .inl (cI, 80, .inl Z)), (r5, .inl (cI, 2, .inl Sz)), (r11, .inl (cZ, 41, .inl St)), (r12, .inl (cI, 40, .inl L1))] ∧ va_S A s.heap H locs ∧ k_11 = n - i ∧ (i ≤ n) ∧ (∀ j, j < i → L1 j = nI (bc_ct St j))) ?_ ?_
  · rintro k_11 H locs ls ⟨i, L1, hl, hP, hD, hS, hk_11, hi, hL⟩ ih_11
    refine lv_iload_n hx hb de_M_number_11 rfl (lv_at hl 0 rfl) ?_
    refine lv_iload_n hx hb de_M_number_12 rfl (lv_at hl 2 rfl) ?_
    refine lv_icmp_ge (tgt := 46) hx hb de_M_number_13 (by decide) (fun hc_13 => ?_) (fun hc_13 => ?_)
    · have heq : i = n := by have := bc_ge (by omega) (by omega) hc_13; omega
      rw [heq] at hl hL
      refine lv_iconst (v := 0) hx hb de_M_number_46 (by decide) ?_
      refine bc_ti (y := nI (bc_ct St 0)) nI_0.symm ?_
      refine lv_istore_n (lv' := [(3, .int (nI (bc_ct St 0))), (2, .int (nI (bc_ct St n))), (1, .int (nI n)), (0, .ref m0)]) hx hb de_M_number_47 rfl hl (by decide) rfl (fun ls hl => ?_)
      refine lv_iconst (v := 0) hx hb de_M_number_48 (by decide) ?_
      refine bc_ti (y := nI 0) nI_0.symm ?_
      refine lv_istore (lv' := [(4, .int (nI 0)), (3, .int (nI (bc_ct St 0))), (2, .int (nI (bc_ct St n))), (1, .int (nI n)), (0, .ref m0)]) hx hb de_M_number_49 hl (by decide) rfl (fun ls hl => ?_)
      refine bc_loop (fun k_51 H locs ls => ∃ (i2 : Nat) (K3 : bc_F) (O3 : bc_F) (T3 : bc_F) (Z3 : bc_F), lv_has ls 7 [(4, .int (nI i2)), (3, .int (nI (bc_ct St i2))), (2, .int (nI (bc_ct St n))), (1, .int (nI n)), (0, .ref m0)] ∧ va_P (dC, dI) classes [(m0, .inr (5, [.int fa, .ref r1, .ref r2, .ref r3, .ref r4, .ref r5, .int rw, .ref r6, .ref r7, .ref r8, .int gw, .ref r9, .ref r10, .ref r11, .ref r12, .ref r13, .ref r14, .ref r15, .ref r16])), (r1, .inl (cI, 80, .inl K3)), (r2, .inl (cI, 80, .inl O3)), (r3, .inl (cI, 80, .inl T3)), (r4, .inl (cI, 80, .inl Z3)), (r5, .inl (cI, 2, .inl Sz)), (r11, .inl (cZ, 41, .inl St)), (r12, .inl (cI, 40, .inl L1))] H ∧ va_D A [(m0, .inr (5, [.int fa, .ref r1, .ref r2, .ref r3, .ref r4, .ref r5, .int rw, .ref r6, .ref r7, .ref r8, .int gw, .ref r9, .ref r10, .ref r11, .ref r12, .ref r13, .ref r14, .ref r15, .ref r16])), (r1, .inl (cI, 80, .inl K3)), (r2, .inl (cI, 80, .inl O3)), (r3, .inl (cI, 80, .inl T3)), (r4, .inl (cI, 80, .inl Z3)), (r5, .inl (cI, 2, .inl Sz)), (r11, .inl (cZ, 41, .inl St)), (r12, .inl (cI, 40, .inl L1))] ∧ va_S A s.heap H locs ∧ k_51 = n - i2 ∧ (i2 ≤ n) ∧ (bc_s40 K O T Z K3 O3 T3 Z3) ∧ (bc_MV n (fun j => K (40 + j)) (fun j => O (40 + j)) (fun j => T (40 + j)) (fun j => Z (40 + j)) St i2 (fun j => K3 (40 + j)) (fun j => O3 (40 + j)) (fun j => T3 (40 + j)) (fun j => Z3 (40 + j)))) ?_ ?_
      · rintro k_51 H locs ls ⟨i2, K3, O3, T3, Z3, hl, hP, hD, hS, hk_51, hi2, hs4, hJ⟩ ih_51
        refine lv_iload hx hb de_M_number_51 (lv_at hl 0 rfl) ?_
        refine lv_iload_n hx hb de_M_number_53 rfl (lv_at hl 3 rfl) ?_
        refine lv_icmp_ge (tgt := 200) hx hb de_M_number_54 (by decide) (fun hc_54 => ?_) (fun hc_54 => ?_)
        · have heq2 : i2 = n := by have := bc_ge (by omega) (by omega) hc_54; omega
          rw [heq2] at hJ
          refine lv_aload_n hx hb de_M_number_200 rfl (lv_at hl 4 rfl) ?_
          refine va_get (D := (dC, dI)) (ci := 5) (v := .ref r5) (C := rc_M) (T := fc_M) (N := 19) hx hb htw wi_M hown hK hP 0 rfl rfl 5 (by decide) (htw _ wm_428) (fun _ h9 => h9) rfl de_M_number_201 ?_
          refine lv_iconst (v := 1) hx hb de_M_number_204 (by decide) ?_
          refine lv_iload_n hx hb de_M_number_205 rfl (lv_at hl 2 rfl) ?_
          refine bc_istE (by decide) (j := 1) hx hb hK hP hD hS 5 0 rfl rfl (by omega) (by decide) de_M_number_206 (fun H locs hP hD hS => ?_)
          have hP : va_P (dC, dI) classes [(m0, .inr (5, [.int fa, .ref r1, .ref r2, .ref r3, .ref r4, .ref r5, .int rw, .ref r6, .ref r7, .ref r8, .int gw, .ref r9, .ref r10, .ref r11, .ref r12, .ref r13, .ref r14, .ref r15, .ref r16])), (r1, .inl (cI, 80, .inl K3)), (r2, .inl (cI, 80, .inl O3)), (r3, .inl (cI, 80, .inl T3)), (r4, .inl (cI, 80, .inl Z3)), (r5, .inl (cI, 2, .inl (upd Sz 1 (nI (bc_ct St n))))), (r11, .inl (cZ, 41, .inl St)), (r12, .inl (cI, 40, .inl L1))] H := hP
          have hD : va_D A [(m0, .inr (5, [.int fa, .ref r1, .ref r2, .ref r3, .ref r4, .ref r5, .int rw, .ref r6, .ref r7, .ref r8, .int gw, .ref r9, .ref r10, .ref r11, .ref r12, .ref r13, .ref r14, .ref r15, .ref r16])), (r1, .inl (cI, 80, .inl K3)), (r2, .inl (cI, 80, .inl O3)), (r3, .inl (cI, 80, .inl T3)), (r4, .inl (cI, 80, .inl Z3)), (r5, .inl (cI, 2, .inl (upd Sz 1 (nI (bc_ct St n))))), (r11, .inl (cZ, 41, .inl St)), (r12, .inl (cI, 40, .inl L1))] := hD
          exact bc_vret F hr hlocks (((K3, O3, T3, Z3), L1)) ⟨hs4, fun j hj hB => hJ.1 j hj hj hB⟩ hP hD hS de_M_number_207
        · have hlt2 : i2 < n := bc_lt (by omega) (by omega) hc_54
          refine lv_aload_n hx hb de_M_number_57 rfl (lv_at hl 4 rfl) ?_
          refine va_get (D := (dC, dI)) (ci := 5) (v := .ref r11) (C := rc_M) (T := fc_M) (N := 19) hx hb htw wi_M hown hK hP 0 rfl rfl 13 (by decide) (htw _ wm_436) (fun _ h9 => h9) rfl de_M_number_58 ?_
          refine lv_iload hx hb de_M_number_61 (lv_at hl 0 rfl) ?_
          refine bc_zld (j := i2) hx hb hK hP 6 1 rfl rfl (by omega) (by decide) de_M_number_63 ?_
          refine lv_if_eq (tgt := 194) hx hb de_M_number_64 (by decide) (fun hc_64 => ?_) (fun hc_64 => ?_)
          · rw [← bc_ct_0 hc_64] at hl
            refine lv_iinc (k := 0) (v := nI (i2 + 1)) (lv' := [(4, .int (nI (i2 + 1))), (3, .int (nI (bc_ct St (i2 + 1)))), (2, .int (nI (bc_ct St n))), (1, .int (nI n)), (0, .ref m0)]) hx hb de_M_number_194 hl rfl (bc_inc _) (by decide) rfl (fun ls hl => ?_)
            refine lv_goto (tgt := 51) hx hb de_M_number_197 (by decide) ?_
            exact ih_51 _ _ _ _ (by omega) ⟨(i2 + 1), K3, O3, T3, Z3, lv_sub hl [0, 1, 2, 3, 4] rfl, hP, hD, hS, rfl, (by omega), hs4, bc_MV_skip hJ hc_64⟩
          · have hsame : K3 (40 + i2) = K (40 + i2) ∧ O3 (40 + i2) = O (40 + i2) ∧ T3 (40 + i2) = T (40 + i2) ∧ Z3 (40 + i2) = Z (40 + i2) := hJ.2 i2 (Nat.le_refl _) hlt2
            refine lv_aload_n hx hb de_M_number_67 rfl (lv_at hl 4 rfl) ?_
            refine lv_iload hx hb de_M_number_68 (lv_at hl 0 rfl) ?_
            refine bc_call_v_i (As := [.int (nI i2)]) (rest := []) (wr := [(r2, .inl (cI, 80, .inl O3)), (r3, .inl (cI, 80, .inl T3)), (r4, .inl (cI, 80, .inl Z3)), (r5, .inl (cI, 2, .inl Sz)), (r11, .inl (cZ, 41, .inl St)), (r12, .inl (cI, 40, .inl L1))]) F (co_M_goes (by omega)) wm_542 wm_6 wm_540 wm_541 wm_641 0 rfl rfl pd_M_goes rfl rfl ⟨Nat.le_of_ble_eq_true rfl, Nat.le_of_ble_eq_true rfl⟩ hP hD hS hA [0, 1] [2, 3, 4, 5, 6, 7] rfl rfl rfl rfl (by decide) rfl hl.1 rfl (Nat.le_of_ble_eq_true rfl) de_M_number_70 ⟨Nat.le_of_ble_eq_true rfl, Nat.le_of_ble_eq_true rfl⟩ (fun r_70 u_70 H locs hw_70 hP hD hS => ?_)
            have hP : va_P (dC, dI) classes [(m0, .inr (5, [.int fa, .ref r1, .ref r2, .ref r3, .ref r4, .ref r5, .int rw, .ref r6, .ref r7, .ref r8, .int gw, .ref r9, .ref r10, .ref r11, .ref r12, .ref r13, .ref r14, .ref r15, .ref r16])), (r1, .inl (cI, 80, .inl K3)), (r2, .inl (cI, 80, .inl O3)), (r3, .inl (cI, 80, .inl T3)), (r4, .inl (cI, 80, .inl Z3)), (r5, .inl (cI, 2, .inl Sz)), (r11, .inl (cZ, 41, .inl St)), (r12, .inl (cI, 40, .inl L1))] H := hP.sub [6, 7, 0, 1, 2, 3, 4, 5] rfl
            have hD : va_D A [(m0, .inr (5, [.int fa, .ref r1, .ref r2, .ref r3, .ref r4, .ref r5, .int rw, .ref r6, .ref r7, .ref r8, .int gw, .ref r9, .ref r10, .ref r11, .ref r12, .ref r13, .ref r14, .ref r15, .ref r16])), (r1, .inl (cI, 80, .inl K3)), (r2, .inl (cI, 80, .inl O3)), (r3, .inl (cI, 80, .inl T3)), (r4, .inl (cI, 80, .inl Z3)), (r5, .inl (cI, 2, .inl Sz)), (r11, .inl (cZ, 41, .inl St)), (r12, .inl (cI, 40, .inl L1))] := hD.sub [6, 7, 0, 1, 2, 3, 4, 5] (by decide) rfl
            rcases hw_70 with ⟨he_70, hv_70⟩ | ⟨he_70, hv_70⟩
            · subst he_70
              rw [hsame.1] at hv_70
              obtain ⟨t0, ht0, eT⟩ := htr i2 hlt2 hv_70
              refine lv_if_eq (tgt := 107) hx hb de_M_number_73 (by decide) (fun hc => absurd hc (by decide)) (fun _ => ?_)
              refine lv_aload_n hx hb de_M_number_76 rfl (lv_at hl 4 rfl) ?_
              refine va_get (D := (dC, dI)) (ci := 5) (v := .ref r3) (C := rc_M) (T := fc_M) (N := 19) hx hb htw wi_M hown hK hP 0 rfl rfl 3 (by decide) (htw _ wm_426) (fun _ h9 => h9) rfl de_M_number_77 ?_
              refine lv_bipush (v := 40) hx hb de_M_number_80 (by decide) ?_
              refine lv_iload hx hb de_M_number_82 (lv_at hl 0 rfl) ?_
              refine lv_iadd hx hb de_M_number_84 ?_
              refine bc_ti (y := nI (40 + i2)) (nI_add 40 i2) ?_
              refine bc_ild (j := 40 + i2) hx hb hK hP 3 0 rfl rfl (by omega) (by decide) de_M_number_85 ?_
              refine bc_ti (y := nI t0) (hsame.2.2.1.trans eT) ?_
              refine lv_iload_n hx hb de_M_number_86 rfl (lv_at hl 3 rfl) ?_
              refine lv_icmp_ge (tgt := 107) hx hb de_M_number_87 (by decide) (fun hc_87 => ?_) (fun hc_87 => ?_)
              · refine lv_iload_n hx hb de_M_number_107 rfl (lv_at hl 3 rfl) ?_
                refine lv_istore (lv' := [(5, .int (nI n)), (4, .int (nI i2)), (3, .int (nI (bc_ct St i2))), (2, .int (nI (bc_ct St n))), (1, .int (nI n)), (0, .ref m0)]) hx hb de_M_number_108 hl (by decide) rfl (fun ls hl => ?_)
                refine lv_iload hx hb de_M_number_110 (lv_at hl 0 rfl) ?_
                refine lv_iload_n hx hb de_M_number_112 rfl (lv_at hl 4 rfl) ?_
                refine lv_icmp_ge (tgt := 126) hx hb de_M_number_113 (by decide) (fun _ => ?_) (fun hc => absurd (by rw [Int32.le_iff_toInt_le]; exact Int.le_refl _) hc)
                refine lv_iload_n hx hb de_M_number_126 rfl (lv_at hl 3 rfl) ?_
                refine lv_istore (lv' := [(6, .int (nI (bc_ct St n))), (5, .int (nI n)), (4, .int (nI i2)), (3, .int (nI (bc_ct St i2))), (2, .int (nI (bc_ct St n))), (1, .int (nI n)), (0, .ref m0)]) hx hb de_M_number_127 hl (by decide) rfl (fun ls hl => ?_)
                have hld : nI (bc_ct St n) = nI (bc_ct St (bc_tn n (T (40 + i2)))) := congrArg (fun z => nI (bc_ct St z)) (bc_nIe (by omega) (by have := bc_tn_le n (T (40 + i2)); omega) (bc_tn_ge (by omega) ⟨t0, ht0, eT⟩ (by rw [eT]; exact hc_87)))
                refine lv_aload_n hx hb de_M_number_129 rfl (lv_at hl 6 rfl) ?_
                refine lv_bipush (v := 40) hx hb de_M_number_130 (by decide) ?_
                refine lv_iload_n hx hb de_M_number_132 rfl (lv_at hl 3 rfl) ?_
                refine lv_iadd hx hb de_M_number_133 ?_
                refine bc_ti (y := nI (40 + (bc_ct St i2))) (nI_add 40 (bc_ct St i2)) ?_
                refine lv_aload_n hx hb de_M_number_134 rfl (lv_at hl 6 rfl) ?_
                refine va_get (D := (dC, dI)) (ci := 5) (v := .ref r1) (C := rc_M) (T := fc_M) (N := 19) hx hb htw wi_M hown hK hP 0 rfl rfl 1 (by decide) (htw _ wm_424) (fun _ h9 => h9) rfl de_M_number_135 ?_
                refine lv_bipush (v := 40) hx hb de_M_number_138 (by decide) ?_
                refine lv_iload hx hb de_M_number_140 (lv_at hl 2 rfl) ?_
                refine lv_iadd hx hb de_M_number_142 ?_
                refine bc_ti (y := nI (40 + i2)) (nI_add 40 i2) ?_
                refine bc_ild (j := 40 + i2) hx hb hK hP 1 0 rfl rfl (by omega) (by decide) de_M_number_143 ?_
                refine bc_ti (y := K (40 + i2)) hsame.1 ?_
                refine lv_aload_n hx hb de_M_number_144 rfl (lv_at hl 6 rfl) ?_
                refine va_get (D := (dC, dI)) (ci := 5) (v := .ref r2) (C := rc_M) (T := fc_M) (N := 19) hx hb htw wi_M hown hK hP 0 rfl rfl 2 (by decide) (htw _ wm_425) (fun _ h9 => h9) rfl de_M_number_145 ?_
                refine lv_bipush (v := 40) hx hb de_M_number_148 (by decide) ?_
                refine lv_iload hx hb de_M_number_150 (lv_at hl 2 rfl) ?_
                refine lv_iadd hx hb de_M_number_152 ?_
                refine bc_ti (y := nI (40 + i2)) (nI_add 40 i2) ?_
                refine bc_ild (j := 40 + i2) hx hb hK hP 2 0 rfl rfl (by omega) (by decide) de_M_number_153 ?_
                refine bc_ti (y := O (40 + i2)) hsame.2.1 ?_
                refine lv_aload_n hx hb de_M_number_154 rfl (lv_at hl 6 rfl) ?_
                refine lv_iload hx hb de_M_number_155 (lv_at hl 2 rfl) ?_
                refine bc_call_v_i (As := [.int (nI i2)]) (rest := [.int (O (40 + i2)), .int (K (40 + i2)), .int (nI (40 + (bc_ct St i2))), .ref m0]) (wr := [(r2, .inl (cI, 80, .inl O3)), (r3, .inl (cI, 80, .inl T3)), (r4, .inl (cI, 80, .inl Z3)), (r5, .inl (cI, 2, .inl Sz)), (r11, .inl (cZ, 41, .inl St)), (r12, .inl (cI, 40, .inl L1))]) F (co_M_goes (by omega)) wm_542 wm_6 wm_540 wm_541 wm_641 0 rfl rfl pd_M_goes rfl rfl ⟨Nat.le_of_ble_eq_true rfl, Nat.le_of_ble_eq_true rfl⟩ hP hD hS hA [0, 1] [2, 3, 4, 5, 6, 7] rfl rfl rfl rfl (by decide) rfl hl.1 rfl (Nat.le_of_ble_eq_true rfl) de_M_number_157 ⟨Nat.le_of_ble_eq_true rfl, Nat.le_of_ble_eq_true rfl⟩ (fun r_157 u_157 H locs hw_157 hP hD hS => ?_)
                have hP : va_P (dC, dI) classes [(m0, .inr (5, [.int fa, .ref r1, .ref r2, .ref r3, .ref r4, .ref r5, .int rw, .ref r6, .ref r7, .ref r8, .int gw, .ref r9, .ref r10, .ref r11, .ref r12, .ref r13, .ref r14, .ref r15, .ref r16])), (r1, .inl (cI, 80, .inl K3)), (r2, .inl (cI, 80, .inl O3)), (r3, .inl (cI, 80, .inl T3)), (r4, .inl (cI, 80, .inl Z3)), (r5, .inl (cI, 2, .inl Sz)), (r11, .inl (cZ, 41, .inl St)), (r12, .inl (cI, 40, .inl L1))] H := hP.sub [6, 7, 0, 1, 2, 3, 4, 5] rfl
                have hD : va_D A [(m0, .inr (5, [.int fa, .ref r1, .ref r2, .ref r3, .ref r4, .ref r5, .int rw, .ref r6, .ref r7, .ref r8, .int gw, .ref r9, .ref r10, .ref r11, .ref r12, .ref r13, .ref r14, .ref r15, .ref r16])), (r1, .inl (cI, 80, .inl K3)), (r2, .inl (cI, 80, .inl O3)), (r3, .inl (cI, 80, .inl T3)), (r4, .inl (cI, 80, .inl Z3)), (r5, .inl (cI, 2, .inl Sz)), (r11, .inl (cZ, 41, .inl St)), (r12, .inl (cI, 40, .inl L1))] := hD.sub [6, 7, 0, 1, 2, 3, 4, 5] (by decide) rfl
                rcases hw_157 with ⟨he_157, hv_157⟩ | ⟨he_157, hv_157⟩
                · subst he_157
                  refine lv_if_eq (tgt := 168) hx hb de_M_number_160 (by decide) (fun hc => absurd hc (by decide)) (fun _ => ?_)
                  refine lv_iload hx hb de_M_number_163 (lv_at hl 0 rfl) ?_
                  refine bc_ti (y := nI (bc_ct St (bc_tn n (T (40 + i2))))) hld ?_
                  refine lv_goto (tgt := 178) hx hb de_M_number_165 (by decide) ?_
                  refine lv_aload_n hx hb de_M_number_178 rfl (lv_at hl 6 rfl) ?_
                  refine va_get (D := (dC, dI)) (ci := 5) (v := .ref r4) (C := rc_M) (T := fc_M) (N := 19) hx hb htw wi_M hown hK hP 0 rfl rfl 4 (by decide) (htw _ wm_427) (fun _ h9 => h9) rfl de_M_number_179 ?_
                  refine lv_bipush (v := 40) hx hb de_M_number_182 (by decide) ?_
                  refine lv_iload hx hb de_M_number_184 (lv_at hl 2 rfl) ?_
                  refine lv_iadd hx hb de_M_number_186 ?_
                  refine bc_ti (y := nI (40 + i2)) (nI_add 40 i2) ?_
                  refine bc_ild (j := 40 + i2) hx hb hK hP 4 0 rfl rfl (by omega) (by decide) de_M_number_187 ?_
                  refine bc_ti (y := Z (40 + i2)) hsame.2.2.2 ?_
                  refine bc_call_v_v (As := [.int (nI (40 + (bc_ct St i2))), .int (K (40 + i2)), .int (O (40 + i2)), .int (nI (bc_ct St (bc_tn n (T (40 + i2))))), .int (Z (40 + i2))]) (rest := []) (wr := [(r5, .inl (cI, 2, .inl Sz)), (r11, .inl (cZ, 41, .inl St)), (r12, .inl (cI, 40, .inl L1))]) F (co_M_put (by have := bc_ct_le St i2; omega) (hkk i2 hlt2)) wm_481 wm_6 wm_479 wm_480 wm_631 0 rfl rfl pd_M_put rfl rfl ⟨Nat.le_of_ble_eq_true rfl, Nat.le_of_ble_eq_true rfl⟩ hP hD hS hA [0, 1, 2, 3, 4] [5, 6, 7] rfl rfl rfl rfl (by decide) rfl hl.1 rfl (Nat.le_of_ble_eq_true rfl) de_M_number_188 ⟨Nat.le_of_ble_eq_true rfl, Nat.le_of_ble_eq_true rfl⟩ (fun u_188 H locs hw_188 hP hD hS => ?_)
                  obtain ⟨K4, O4, T4, Z4⟩ := u_188
                  try dsimp only at hw_188
                  have hMV := bc_MV4 hs4 hJ hlt2 hc_64 hw_188 ⟨rfl, rfl, rfl, fun _ => rfl, fun z => absurd hv_70 z⟩
                  have hP : va_P (dC, dI) classes [(m0, .inr (5, [.int fa, .ref r1, .ref r2, .ref r3, .ref r4, .ref r5, .int rw, .ref r6, .ref r7, .ref r8, .int gw, .ref r9, .ref r10, .ref r11, .ref r12, .ref r13, .ref r14, .ref r15, .ref r16])), (r1, .inl (cI, 80, .inl K4)), (r2, .inl (cI, 80, .inl O4)), (r3, .inl (cI, 80, .inl T4)), (r4, .inl (cI, 80, .inl Z4)), (r5, .inl (cI, 2, .inl Sz)), (r11, .inl (cZ, 41, .inl St)), (r12, .inl (cI, 40, .inl L1))] H := hP.sub [3, 4, 5, 6, 7, 0, 1, 2] rfl
                  have hD : va_D A [(m0, .inr (5, [.int fa, .ref r1, .ref r2, .ref r3, .ref r4, .ref r5, .int rw, .ref r6, .ref r7, .ref r8, .int gw, .ref r9, .ref r10, .ref r11, .ref r12, .ref r13, .ref r14, .ref r15, .ref r16])), (r1, .inl (cI, 80, .inl K4)), (r2, .inl (cI, 80, .inl O4)), (r3, .inl (cI, 80, .inl T4)), (r4, .inl (cI, 80, .inl Z4)), (r5, .inl (cI, 2, .inl Sz)), (r11, .inl (cZ, 41, .inl St)), (r12, .inl (cI, 40, .inl L1))] := hD.sub [3, 4, 5, 6, 7, 0, 1, 2] (by decide) rfl
                  refine lv_iinc (k := 3) (v := nI ((bc_ct St i2) + 1)) (lv' := [(3, .int (nI ((bc_ct St i2) + 1))), (6, .int (nI (bc_ct St n))), (5, .int (nI n)), (4, .int (nI i2)), (2, .int (nI (bc_ct St n))), (1, .int (nI n)), (0, .ref m0)]) hx hb de_M_number_191 hl rfl (bc_inc _) (by decide) rfl (fun ls hl => ?_)
                  rw [← bc_ct_1 hc_64] at hl
                  refine lv_iinc (k := 3) (v := nI (i2 + 1)) (lv' := [(4, .int (nI (i2 + 1))), (3, .int (nI (bc_ct St (i2 + 1)))), (6, .int (nI (bc_ct St n))), (5, .int (nI n)), (2, .int (nI (bc_ct St n))), (1, .int (nI n)), (0, .ref m0)]) hx hb de_M_number_194 hl rfl (bc_inc _) (by decide) rfl (fun ls hl => ?_)
                  refine lv_goto (tgt := 51) hx hb de_M_number_197 (by decide) ?_
                  exact ih_51 _ _ _ _ (by omega) ⟨(i2 + 1), K4, O4, T4, Z4, lv_sub hl [0, 1, 4, 5, 6] rfl, hP, hD, hS, rfl, (by omega), hMV.1, hMV.2⟩
                · subst he_157
                  exact absurd hv_70 (by rw [← hsame.1]; exact hv_157)
              · refine lv_aload_n hx hb de_M_number_90 rfl (lv_at hl 4 rfl) ?_
                refine lv_aload_n hx hb de_M_number_91 rfl (lv_at hl 4 rfl) ?_
                refine va_get (D := (dC, dI)) (ci := 5) (v := .ref r3) (C := rc_M) (T := fc_M) (N := 19) hx hb htw wi_M hown hK hP 0 rfl rfl 3 (by decide) (htw _ wm_426) (fun _ h9 => h9) rfl de_M_number_92 ?_
                refine lv_bipush (v := 40) hx hb de_M_number_95 (by decide) ?_
                refine lv_iload hx hb de_M_number_97 (lv_at hl 0 rfl) ?_
                refine lv_iadd hx hb de_M_number_99 ?_
                refine bc_ti (y := nI (40 + i2)) (nI_add 40 i2) ?_
                refine bc_ild (j := 40 + i2) hx hb hK hP 3 0 rfl rfl (by omega) (by decide) de_M_number_100 ?_
                refine bc_ti (y := nI t0) (hsame.2.2.1.trans eT) ?_
                refine bc_call_v_i (As := [.int (nI t0)]) (rest := []) (wr := [(r1, .inl (cI, 80, .inl K3)), (r2, .inl (cI, 80, .inl O3)), (r3, .inl (cI, 80, .inl T3)), (r4, .inl (cI, 80, .inl Z3)), (r12, .inl (cI, 40, .inl L1))]) F (co_M_nextStaying (f := t0) hn (by have := bc_lt (by omega) (by omega) hc_87; omega) hSz) wm_551 wm_6 wm_549 wm_550 wm_644 0 rfl rfl pd_M_nextStaying rfl rfl ⟨Nat.le_of_ble_eq_true rfl, Nat.le_of_ble_eq_true rfl⟩ hP hD hS hA [0, 5, 6] [1, 2, 3, 4, 7] rfl rfl rfl rfl (by decide) rfl hl.1 rfl (Nat.le_of_ble_eq_true rfl) de_M_number_101 ⟨Nat.le_of_ble_eq_true rfl, Nat.le_of_ble_eq_true rfl⟩ (fun r_101 u_101 H locs hw_101 hP hD hS => ?_)
                obtain ⟨x9, e9, hx9⟩ := hw_101
                have hw_101 : r_101 = nI x9 := e9
                have hP : va_P (dC, dI) classes [(m0, .inr (5, [.int fa, .ref r1, .ref r2, .ref r3, .ref r4, .ref r5, .int rw, .ref r6, .ref r7, .ref r8, .int gw, .ref r9, .ref r10, .ref r11, .ref r12, .ref r13, .ref r14, .ref r15, .ref r16])), (r1, .inl (cI, 80, .inl K3)), (r2, .inl (cI, 80, .inl O3)), (r3, .inl (cI, 80, .inl T3)), (r4, .inl (cI, 80, .inl Z3)), (r5, .inl (cI, 2, .inl Sz)), (r11, .inl (cZ, 41, .inl St)), (r12, .inl (cI, 40, .inl L1))] H := hP.sub [5, 0, 1, 2, 3, 6, 7, 4] rfl
                have hD : va_D A [(m0, .inr (5, [.int fa, .ref r1, .ref r2, .ref r3, .ref r4, .ref r5, .int rw, .ref r6, .ref r7, .ref r8, .int gw, .ref r9, .ref r10, .ref r11, .ref r12, .ref r13, .ref r14, .ref r15, .ref r16])), (r1, .inl (cI, 80, .inl K3)), (r2, .inl (cI, 80, .inl O3)), (r3, .inl (cI, 80, .inl T3)), (r4, .inl (cI, 80, .inl Z3)), (r5, .inl (cI, 2, .inl Sz)), (r11, .inl (cZ, 41, .inl St)), (r12, .inl (cI, 40, .inl L1))] := hD.sub [5, 0, 1, 2, 3, 6, 7, 4] (by decide) rfl
                subst hw_101
                refine lv_goto (tgt := 108) hx hb de_M_number_104 (by decide) ?_
                refine lv_istore (lv' := [(5, .int (nI x9)), (4, .int (nI i2)), (3, .int (nI (bc_ct St i2))), (2, .int (nI (bc_ct St n))), (1, .int (nI n)), (0, .ref m0)]) hx hb de_M_number_108 hl (by decide) rfl (fun ls hl => ?_)
                refine lv_iload hx hb de_M_number_110 (lv_at hl 0 rfl) ?_
                refine lv_iload_n hx hb de_M_number_112 rfl (lv_at hl 4 rfl) ?_
                refine lv_icmp_ge (tgt := 126) hx hb de_M_number_113 (by decide) (fun hc_113 => ?_) (fun hc_113 => ?_)
                · refine lv_iload_n hx hb de_M_number_126 rfl (lv_at hl 3 rfl) ?_
                  refine lv_istore (lv' := [(6, .int (nI (bc_ct St n))), (5, .int (nI x9)), (4, .int (nI i2)), (3, .int (nI (bc_ct St i2))), (2, .int (nI (bc_ct St n))), (1, .int (nI n)), (0, .ref m0)]) hx hb de_M_number_127 hl (by decide) rfl (fun ls hl => ?_)
                  have htn : bc_tn n (T (40 + i2)) = t0 := by rw [eT]; exact bc_tn_t (bc_lt (by omega) (by omega) hc_87) hn
                  have hld : nI (bc_ct St n) = nI (bc_ct St (bc_tn n (T (40 + i2)))) := (by rw [htn, ← bc_ct_nx hx9, show x9 = n by have := bc_ge (by omega) (by have := hx9.2.1; omega) hc_113; have := hx9.2.1; omega])
                  refine lv_aload_n hx hb de_M_number_129 rfl (lv_at hl 6 rfl) ?_
                  refine lv_bipush (v := 40) hx hb de_M_number_130 (by decide) ?_
                  refine lv_iload_n hx hb de_M_number_132 rfl (lv_at hl 3 rfl) ?_
                  refine lv_iadd hx hb de_M_number_133 ?_
                  refine bc_ti (y := nI (40 + (bc_ct St i2))) (nI_add 40 (bc_ct St i2)) ?_
                  refine lv_aload_n hx hb de_M_number_134 rfl (lv_at hl 6 rfl) ?_
                  refine va_get (D := (dC, dI)) (ci := 5) (v := .ref r1) (C := rc_M) (T := fc_M) (N := 19) hx hb htw wi_M hown hK hP 0 rfl rfl 1 (by decide) (htw _ wm_424) (fun _ h9 => h9) rfl de_M_number_135 ?_
                  refine lv_bipush (v := 40) hx hb de_M_number_138 (by decide) ?_
                  refine lv_iload hx hb de_M_number_140 (lv_at hl 2 rfl) ?_
                  refine lv_iadd hx hb de_M_number_142 ?_
                  refine bc_ti (y := nI (40 + i2)) (nI_add 40 i2) ?_
                  refine bc_ild (j := 40 + i2) hx hb hK hP 1 0 rfl rfl (by omega) (by decide) de_M_number_143 ?_
                  refine bc_ti (y := K (40 + i2)) hsame.1 ?_
                  refine lv_aload_n hx hb de_M_number_144 rfl (lv_at hl 6 rfl) ?_
                  refine va_get (D := (dC, dI)) (ci := 5) (v := .ref r2) (C := rc_M) (T := fc_M) (N := 19) hx hb htw wi_M hown hK hP 0 rfl rfl 2 (by decide) (htw _ wm_425) (fun _ h9 => h9) rfl de_M_number_145 ?_
                  refine lv_bipush (v := 40) hx hb de_M_number_148 (by decide) ?_
                  refine lv_iload hx hb de_M_number_150 (lv_at hl 2 rfl) ?_
                  refine lv_iadd hx hb de_M_number_152 ?_
                  refine bc_ti (y := nI (40 + i2)) (nI_add 40 i2) ?_
                  refine bc_ild (j := 40 + i2) hx hb hK hP 2 0 rfl rfl (by omega) (by decide) de_M_number_153 ?_
                  refine bc_ti (y := O (40 + i2)) hsame.2.1 ?_
                  refine lv_aload_n hx hb de_M_number_154 rfl (lv_at hl 6 rfl) ?_
                  refine lv_iload hx hb de_M_number_155 (lv_at hl 2 rfl) ?_
                  refine bc_call_v_i (As := [.int (nI i2)]) (rest := [.int (O (40 + i2)), .int (K (40 + i2)), .int (nI (40 + (bc_ct St i2))), .ref m0]) (wr := [(r2, .inl (cI, 80, .inl O3)), (r3, .inl (cI, 80, .inl T3)), (r4, .inl (cI, 80, .inl Z3)), (r5, .inl (cI, 2, .inl Sz)), (r11, .inl (cZ, 41, .inl St)), (r12, .inl (cI, 40, .inl L1))]) F (co_M_goes (by omega)) wm_542 wm_6 wm_540 wm_541 wm_641 0 rfl rfl pd_M_goes rfl rfl ⟨Nat.le_of_ble_eq_true rfl, Nat.le_of_ble_eq_true rfl⟩ hP hD hS hA [0, 1] [2, 3, 4, 5, 6, 7] rfl rfl rfl rfl (by decide) rfl hl.1 rfl (Nat.le_of_ble_eq_true rfl) de_M_number_157 ⟨Nat.le_of_ble_eq_true rfl, Nat.le_of_ble_eq_true rfl⟩ (fun r_157 u_157 H locs hw_157 hP hD hS => ?_)
                  have hP : va_P (dC, dI) classes [(m0, .inr (5, [.int fa, .ref r1, .ref r2, .ref r3, .ref r4, .ref r5, .int rw, .ref r6, .ref r7, .ref r8, .int gw, .ref r9, .ref r10, .ref r11, .ref r12, .ref r13, .ref r14, .ref r15, .ref r16])), (r1, .inl (cI, 80, .inl K3)), (r2, .inl (cI, 80, .inl O3)), (r3, .inl (cI, 80, .inl T3)), (r4, .inl (cI, 80, .inl Z3)), (r5, .inl (cI, 2, .inl Sz)), (r11, .inl (cZ, 41, .inl St)), (r12, .inl (cI, 40, .inl L1))] H := hP.sub [6, 7, 0, 1, 2, 3, 4, 5] rfl
                  have hD : va_D A [(m0, .inr (5, [.int fa, .ref r1, .ref r2, .ref r3, .ref r4, .ref r5, .int rw, .ref r6, .ref r7, .ref r8, .int gw, .ref r9, .ref r10, .ref r11, .ref r12, .ref r13, .ref r14, .ref r15, .ref r16])), (r1, .inl (cI, 80, .inl K3)), (r2, .inl (cI, 80, .inl O3)), (r3, .inl (cI, 80, .inl T3)), (r4, .inl (cI, 80, .inl Z3)), (r5, .inl (cI, 2, .inl Sz)), (r11, .inl (cZ, 41, .inl St)), (r12, .inl (cI, 40, .inl L1))] := hD.sub [6, 7, 0, 1, 2, 3, 4, 5] (by decide) rfl
                  rcases hw_157 with ⟨he_157, hv_157⟩ | ⟨he_157, hv_157⟩
                  · subst he_157
                    refine lv_if_eq (tgt := 168) hx hb de_M_number_160 (by decide) (fun hc => absurd hc (by decide)) (fun _ => ?_)
                    refine lv_iload hx hb de_M_number_163 (lv_at hl 0 rfl) ?_
                    refine bc_ti (y := nI (bc_ct St (bc_tn n (T (40 + i2))))) hld ?_
                    refine lv_goto (tgt := 178) hx hb de_M_number_165 (by decide) ?_
                    refine lv_aload_n hx hb de_M_number_178 rfl (lv_at hl 6 rfl) ?_
                    refine va_get (D := (dC, dI)) (ci := 5) (v := .ref r4) (C := rc_M) (T := fc_M) (N := 19) hx hb htw wi_M hown hK hP 0 rfl rfl 4 (by decide) (htw _ wm_427) (fun _ h9 => h9) rfl de_M_number_179 ?_
                    refine lv_bipush (v := 40) hx hb de_M_number_182 (by decide) ?_
                    refine lv_iload hx hb de_M_number_184 (lv_at hl 2 rfl) ?_
                    refine lv_iadd hx hb de_M_number_186 ?_
                    refine bc_ti (y := nI (40 + i2)) (nI_add 40 i2) ?_
                    refine bc_ild (j := 40 + i2) hx hb hK hP 4 0 rfl rfl (by omega) (by decide) de_M_number_187 ?_
                    refine bc_ti (y := Z (40 + i2)) hsame.2.2.2 ?_
                    refine bc_call_v_v (As := [.int (nI (40 + (bc_ct St i2))), .int (K (40 + i2)), .int (O (40 + i2)), .int (nI (bc_ct St (bc_tn n (T (40 + i2))))), .int (Z (40 + i2))]) (rest := []) (wr := [(r5, .inl (cI, 2, .inl Sz)), (r11, .inl (cZ, 41, .inl St)), (r12, .inl (cI, 40, .inl L1))]) F (co_M_put (by have := bc_ct_le St i2; omega) (hkk i2 hlt2)) wm_481 wm_6 wm_479 wm_480 wm_631 0 rfl rfl pd_M_put rfl rfl ⟨Nat.le_of_ble_eq_true rfl, Nat.le_of_ble_eq_true rfl⟩ hP hD hS hA [0, 1, 2, 3, 4] [5, 6, 7] rfl rfl rfl rfl (by decide) rfl hl.1 rfl (Nat.le_of_ble_eq_true rfl) de_M_number_188 ⟨Nat.le_of_ble_eq_true rfl, Nat.le_of_ble_eq_true rfl⟩ (fun u_188 H locs hw_188 hP hD hS => ?_)
                    obtain ⟨K4, O4, T4, Z4⟩ := u_188
                    try dsimp only at hw_188
                    have hMV := bc_MV4 hs4 hJ hlt2 hc_64 hw_188 ⟨rfl, rfl, rfl, fun _ => rfl, fun z => absurd hv_70 z⟩
                    have hP : va_P (dC, dI) classes [(m0, .inr (5, [.int fa, .ref r1, .ref r2, .ref r3, .ref r4, .ref r5, .int rw, .ref r6, .ref r7, .ref r8, .int gw, .ref r9, .ref r10, .ref r11, .ref r12, .ref r13, .ref r14, .ref r15, .ref r16])), (r1, .inl (cI, 80, .inl K4)), (r2, .inl (cI, 80, .inl O4)), (r3, .inl (cI, 80, .inl T4)), (r4, .inl (cI, 80, .inl Z4)), (r5, .inl (cI, 2, .inl Sz)), (r11, .inl (cZ, 41, .inl St)), (r12, .inl (cI, 40, .inl L1))] H := hP.sub [3, 4, 5, 6, 7, 0, 1, 2] rfl
                    have hD : va_D A [(m0, .inr (5, [.int fa, .ref r1, .ref r2, .ref r3, .ref r4, .ref r5, .int rw, .ref r6, .ref r7, .ref r8, .int gw, .ref r9, .ref r10, .ref r11, .ref r12, .ref r13, .ref r14, .ref r15, .ref r16])), (r1, .inl (cI, 80, .inl K4)), (r2, .inl (cI, 80, .inl O4)), (r3, .inl (cI, 80, .inl T4)), (r4, .inl (cI, 80, .inl Z4)), (r5, .inl (cI, 2, .inl Sz)), (r11, .inl (cZ, 41, .inl St)), (r12, .inl (cI, 40, .inl L1))] := hD.sub [3, 4, 5, 6, 7, 0, 1, 2] (by decide) rfl
                    refine lv_iinc (k := 3) (v := nI ((bc_ct St i2) + 1)) (lv' := [(3, .int (nI ((bc_ct St i2) + 1))), (6, .int (nI (bc_ct St n))), (5, .int (nI x9)), (4, .int (nI i2)), (2, .int (nI (bc_ct St n))), (1, .int (nI n)), (0, .ref m0)]) hx hb de_M_number_191 hl rfl (bc_inc _) (by decide) rfl (fun ls hl => ?_)
                    rw [← bc_ct_1 hc_64] at hl
                    refine lv_iinc (k := 3) (v := nI (i2 + 1)) (lv' := [(4, .int (nI (i2 + 1))), (3, .int (nI (bc_ct St (i2 + 1)))), (6, .int (nI (bc_ct St n))), (5, .int (nI x9)), (2, .int (nI (bc_ct St n))), (1, .int (nI n)), (0, .ref m0)]) hx hb de_M_number_194 hl rfl (bc_inc _) (by decide) rfl (fun ls hl => ?_)
                    refine lv_goto (tgt := 51) hx hb de_M_number_197 (by decide) ?_
                    exact ih_51 _ _ _ _ (by omega) ⟨(i2 + 1), K4, O4, T4, Z4, lv_sub hl [0, 1, 4, 5, 6] rfl, hP, hD, hS, rfl, (by omega), hMV.1, hMV.2⟩
                  · subst he_157
                    exact absurd hv_70 (by rw [← hsame.1]; exact hv_157)
                · have hx9n : x9 < n := bc_lt (by omega) (by have := hx9.2.1; omega) hc_113
                  refine lv_aload_n hx hb de_M_number_116 rfl (lv_at hl 5 rfl) ?_
                  refine va_get (D := (dC, dI)) (ci := 5) (v := .ref r12) (C := rc_M) (T := fc_M) (N := 19) hx hb htw wi_M hown hK hP 0 rfl rfl 14 (by decide) (htw _ wm_437) (fun _ h9 => h9) rfl de_M_number_117 ?_
                  refine lv_iload hx hb de_M_number_120 (lv_at hl 0 rfl) ?_
                  refine bc_ild (j := x9) hx hb hK hP 7 0 rfl rfl (by omega) (by decide) de_M_number_122 ?_
                  refine bc_ti (y := nI (bc_ct St x9)) (hL x9 hx9n) ?_
                  refine lv_goto (tgt := 127) hx hb de_M_number_123 (by decide) ?_
                  refine lv_istore (lv' := [(6, .int (nI (bc_ct St x9))), (5, .int (nI x9)), (4, .int (nI i2)), (3, .int (nI (bc_ct St i2))), (2, .int (nI (bc_ct St n))), (1, .int (nI n)), (0, .ref m0)]) hx hb de_M_number_127 hl (by decide) rfl (fun ls hl => ?_)
                  have htn : bc_tn n (T (40 + i2)) = t0 := by rw [eT]; exact bc_tn_t (bc_lt (by omega) (by omega) hc_87) hn
                  have hld : nI (bc_ct St x9) = nI (bc_ct St (bc_tn n (T (40 + i2)))) := (by rw [htn, ← bc_ct_nx hx9])
                  refine lv_aload_n hx hb de_M_number_129 rfl (lv_at hl 6 rfl) ?_
                  refine lv_bipush (v := 40) hx hb de_M_number_130 (by decide) ?_
                  refine lv_iload_n hx hb de_M_number_132 rfl (lv_at hl 3 rfl) ?_
                  refine lv_iadd hx hb de_M_number_133 ?_
                  refine bc_ti (y := nI (40 + (bc_ct St i2))) (nI_add 40 (bc_ct St i2)) ?_
                  refine lv_aload_n hx hb de_M_number_134 rfl (lv_at hl 6 rfl) ?_
                  refine va_get (D := (dC, dI)) (ci := 5) (v := .ref r1) (C := rc_M) (T := fc_M) (N := 19) hx hb htw wi_M hown hK hP 0 rfl rfl 1 (by decide) (htw _ wm_424) (fun _ h9 => h9) rfl de_M_number_135 ?_
                  refine lv_bipush (v := 40) hx hb de_M_number_138 (by decide) ?_
                  refine lv_iload hx hb de_M_number_140 (lv_at hl 2 rfl) ?_
                  refine lv_iadd hx hb de_M_number_142 ?_
                  refine bc_ti (y := nI (40 + i2)) (nI_add 40 i2) ?_
                  refine bc_ild (j := 40 + i2) hx hb hK hP 1 0 rfl rfl (by omega) (by decide) de_M_number_143 ?_
                  refine bc_ti (y := K (40 + i2)) hsame.1 ?_
                  refine lv_aload_n hx hb de_M_number_144 rfl (lv_at hl 6 rfl) ?_
                  refine va_get (D := (dC, dI)) (ci := 5) (v := .ref r2) (C := rc_M) (T := fc_M) (N := 19) hx hb htw wi_M hown hK hP 0 rfl rfl 2 (by decide) (htw _ wm_425) (fun _ h9 => h9) rfl de_M_number_145 ?_
                  refine lv_bipush (v := 40) hx hb de_M_number_148 (by decide) ?_
                  refine lv_iload hx hb de_M_number_150 (lv_at hl 2 rfl) ?_
                  refine lv_iadd hx hb de_M_number_152 ?_
                  refine bc_ti (y := nI (40 + i2)) (nI_add 40 i2) ?_
                  refine bc_ild (j := 40 + i2) hx hb hK hP 2 0 rfl rfl (by omega) (by decide) de_M_number_153 ?_
                  refine bc_ti (y := O (40 + i2)) hsame.2.1 ?_
                  refine lv_aload_n hx hb de_M_number_154 rfl (lv_at hl 6 rfl) ?_
                  refine lv_iload hx hb de_M_number_155 (lv_at hl 2 rfl) ?_
                  refine bc_call_v_i (As := [.int (nI i2)]) (rest := [.int (O (40 + i2)), .int (K (40 + i2)), .int (nI (40 + (bc_ct St i2))), .ref m0]) (wr := [(r2, .inl (cI, 80, .inl O3)), (r3, .inl (cI, 80, .inl T3)), (r4, .inl (cI, 80, .inl Z3)), (r5, .inl (cI, 2, .inl Sz)), (r11, .inl (cZ, 41, .inl St)), (r12, .inl (cI, 40, .inl L1))]) F (co_M_goes (by omega)) wm_542 wm_6 wm_540 wm_541 wm_641 0 rfl rfl pd_M_goes rfl rfl ⟨Nat.le_of_ble_eq_true rfl, Nat.le_of_ble_eq_true rfl⟩ hP hD hS hA [0, 1] [2, 3, 4, 5, 6, 7] rfl rfl rfl rfl (by decide) rfl hl.1 rfl (Nat.le_of_ble_eq_true rfl) de_M_number_157 ⟨Nat.le_of_ble_eq_true rfl, Nat.le_of_ble_eq_true rfl⟩ (fun r_157 u_157 H locs hw_157 hP hD hS => ?_)
                  have hP : va_P (dC, dI) classes [(m0, .inr (5, [.int fa, .ref r1, .ref r2, .ref r3, .ref r4, .ref r5, .int rw, .ref r6, .ref r7, .ref r8, .int gw, .ref r9, .ref r10, .ref r11, .ref r12, .ref r13, .ref r14, .ref r15, .ref r16])), (r1, .inl (cI, 80, .inl K3)), (r2, .inl (cI, 80, .inl O3)), (r3, .inl (cI, 80, .inl T3)), (r4, .inl (cI, 80, .inl Z3)), (r5, .inl (cI, 2, .inl Sz)), (r11, .inl (cZ, 41, .inl St)), (r12, .inl (cI, 40, .inl L1))] H := hP.sub [6, 7, 0, 1, 2, 3, 4, 5] rfl
                  have hD : va_D A [(m0, .inr (5, [.int fa, .ref r1, .ref r2, .ref r3, .ref r4, .ref r5, .int rw, .ref r6, .ref r7, .ref r8, .int gw, .ref r9, .ref r10, .ref r11, .ref r12, .ref r13, .ref r14, .ref r15, .ref r16])), (r1, .inl (cI, 80, .inl K3)), (r2, .inl (cI, 80, .inl O3)), (r3, .inl (cI, 80, .inl T3)), (r4, .inl (cI, 80, .inl Z3)), (r5, .inl (cI, 2, .inl Sz)), (r11, .inl (cZ, 41, .inl St)), (r12, .inl (cI, 40, .inl L1))] := hD.sub [6, 7, 0, 1, 2, 3, 4, 5] (by decide) rfl
                  rcases hw_157 with ⟨he_157, hv_157⟩ | ⟨he_157, hv_157⟩
                  · subst he_157
                    refine lv_if_eq (tgt := 168) hx hb de_M_number_160 (by decide) (fun hc => absurd hc (by decide)) (fun _ => ?_)
                    refine lv_iload hx hb de_M_number_163 (lv_at hl 0 rfl) ?_
                    refine bc_ti (y := nI (bc_ct St (bc_tn n (T (40 + i2))))) hld ?_
                    refine lv_goto (tgt := 178) hx hb de_M_number_165 (by decide) ?_
                    refine lv_aload_n hx hb de_M_number_178 rfl (lv_at hl 6 rfl) ?_
                    refine va_get (D := (dC, dI)) (ci := 5) (v := .ref r4) (C := rc_M) (T := fc_M) (N := 19) hx hb htw wi_M hown hK hP 0 rfl rfl 4 (by decide) (htw _ wm_427) (fun _ h9 => h9) rfl de_M_number_179 ?_
                    refine lv_bipush (v := 40) hx hb de_M_number_182 (by decide) ?_
                    refine lv_iload hx hb de_M_number_184 (lv_at hl 2 rfl) ?_
                    refine lv_iadd hx hb de_M_number_186 ?_
                    refine bc_ti (y := nI (40 + i2)) (nI_add 40 i2) ?_
                    refine bc_ild (j := 40 + i2) hx hb hK hP 4 0 rfl rfl (by omega) (by decide) de_M_number_187 ?_
                    refine bc_ti (y := Z (40 + i2)) hsame.2.2.2 ?_
                    refine bc_call_v_v (As := [.int (nI (40 + (bc_ct St i2))), .int (K (40 + i2)), .int (O (40 + i2)), .int (nI (bc_ct St (bc_tn n (T (40 + i2))))), .int (Z (40 + i2))]) (rest := []) (wr := [(r5, .inl (cI, 2, .inl Sz)), (r11, .inl (cZ, 41, .inl St)), (r12, .inl (cI, 40, .inl L1))]) F (co_M_put (by have := bc_ct_le St i2; omega) (hkk i2 hlt2)) wm_481 wm_6 wm_479 wm_480 wm_631 0 rfl rfl pd_M_put rfl rfl ⟨Nat.le_of_ble_eq_true rfl, Nat.le_of_ble_eq_true rfl⟩ hP hD hS hA [0, 1, 2, 3, 4] [5, 6, 7] rfl rfl rfl rfl (by decide) rfl hl.1 rfl (Nat.le_of_ble_eq_true rfl) de_M_number_188 ⟨Nat.le_of_ble_eq_true rfl, Nat.le_of_ble_eq_true rfl⟩ (fun u_188 H locs hw_188 hP hD hS => ?_)
                    obtain ⟨K4, O4, T4, Z4⟩ := u_188
                    try dsimp only at hw_188
                    have hMV := bc_MV4 hs4 hJ hlt2 hc_64 hw_188 ⟨rfl, rfl, rfl, fun _ => rfl, fun z => absurd hv_70 z⟩
                    have hP : va_P (dC, dI) classes [(m0, .inr (5, [.int fa, .ref r1, .ref r2, .ref r3, .ref r4, .ref r5, .int rw, .ref r6, .ref r7, .ref r8, .int gw, .ref r9, .ref r10, .ref r11, .ref r12, .ref r13, .ref r14, .ref r15, .ref r16])), (r1, .inl (cI, 80, .inl K4)), (r2, .inl (cI, 80, .inl O4)), (r3, .inl (cI, 80, .inl T4)), (r4, .inl (cI, 80, .inl Z4)), (r5, .inl (cI, 2, .inl Sz)), (r11, .inl (cZ, 41, .inl St)), (r12, .inl (cI, 40, .inl L1))] H := hP.sub [3, 4, 5, 6, 7, 0, 1, 2] rfl
                    have hD : va_D A [(m0, .inr (5, [.int fa, .ref r1, .ref r2, .ref r3, .ref r4, .ref r5, .int rw, .ref r6, .ref r7, .ref r8, .int gw, .ref r9, .ref r10, .ref r11, .ref r12, .ref r13, .ref r14, .ref r15, .ref r16])), (r1, .inl (cI, 80, .inl K4)), (r2, .inl (cI, 80, .inl O4)), (r3, .inl (cI, 80, .inl T4)), (r4, .inl (cI, 80, .inl Z4)), (r5, .inl (cI, 2, .inl Sz)), (r11, .inl (cZ, 41, .inl St)), (r12, .inl (cI, 40, .inl L1))] := hD.sub [3, 4, 5, 6, 7, 0, 1, 2] (by decide) rfl
                    refine lv_iinc (k := 3) (v := nI ((bc_ct St i2) + 1)) (lv' := [(3, .int (nI ((bc_ct St i2) + 1))), (6, .int (nI (bc_ct St x9))), (5, .int (nI x9)), (4, .int (nI i2)), (2, .int (nI (bc_ct St n))), (1, .int (nI n)), (0, .ref m0)]) hx hb de_M_number_191 hl rfl (bc_inc _) (by decide) rfl (fun ls hl => ?_)
                    rw [← bc_ct_1 hc_64] at hl
                    refine lv_iinc (k := 3) (v := nI (i2 + 1)) (lv' := [(4, .int (nI (i2 + 1))), (3, .int (nI (bc_ct St (i2 + 1)))), (6, .int (nI (bc_ct St x9))), (5, .int (nI x9)), (2, .int (nI (bc_ct St n))), (1, .int (nI n)), (0, .ref m0)]) hx hb de_M_number_194 hl rfl (bc_inc _) (by decide) rfl (fun ls hl => ?_)
                    refine lv_goto (tgt := 51) hx hb de_M_number_197 (by decide) ?_
                    exact ih_51 _ _ _ _ (by omega) ⟨(i2 + 1), K4, O4, T4, Z4, lv_sub hl [0, 1, 4, 5, 6] rfl, hP, hD, hS, rfl, (by omega), hMV.1, hMV.2⟩
                  · subst he_157
                    exact absurd hv_70 (by rw [← hsame.1]; exact hv_157)
            · subst he_70
              rw [hsame.1] at hv_70
              refine lv_if_eq (tgt := 107) hx hb de_M_number_73 (by decide) (fun _ => ?_) (fun hc => absurd (by decide) hc)
              refine lv_iload_n hx hb de_M_number_107 rfl (lv_at hl 3 rfl) ?_
              refine lv_istore (lv' := [(5, .int (nI n)), (4, .int (nI i2)), (3, .int (nI (bc_ct St i2))), (2, .int (nI (bc_ct St n))), (1, .int (nI n)), (0, .ref m0)]) hx hb de_M_number_108 hl (by decide) rfl (fun ls hl => ?_)
              refine lv_iload hx hb de_M_number_110 (lv_at hl 0 rfl) ?_
              refine lv_iload_n hx hb de_M_number_112 rfl (lv_at hl 4 rfl) ?_
              refine lv_icmp_ge (tgt := 126) hx hb de_M_number_113 (by decide) (fun _ => ?_) (fun hc => absurd (by rw [Int32.le_iff_toInt_le]; exact Int.le_refl _) hc)
              refine lv_iload_n hx hb de_M_number_126 rfl (lv_at hl 3 rfl) ?_
              refine lv_istore (lv' := [(6, .int (nI (bc_ct St n))), (5, .int (nI n)), (4, .int (nI i2)), (3, .int (nI (bc_ct St i2))), (2, .int (nI (bc_ct St n))), (1, .int (nI n)), (0, .ref m0)]) hx hb de_M_number_127 hl (by decide) rfl (fun ls hl => ?_)
              refine lv_aload_n hx hb de_M_number_129 rfl (lv_at hl 6 rfl) ?_
              refine lv_bipush (v := 40) hx hb de_M_number_130 (by decide) ?_
              refine lv_iload_n hx hb de_M_number_132 rfl (lv_at hl 3 rfl) ?_
              refine lv_iadd hx hb de_M_number_133 ?_
              refine bc_ti (y := nI (40 + (bc_ct St i2))) (nI_add 40 (bc_ct St i2)) ?_
              refine lv_aload_n hx hb de_M_number_134 rfl (lv_at hl 6 rfl) ?_
              refine va_get (D := (dC, dI)) (ci := 5) (v := .ref r1) (C := rc_M) (T := fc_M) (N := 19) hx hb htw wi_M hown hK hP 0 rfl rfl 1 (by decide) (htw _ wm_424) (fun _ h9 => h9) rfl de_M_number_135 ?_
              refine lv_bipush (v := 40) hx hb de_M_number_138 (by decide) ?_
              refine lv_iload hx hb de_M_number_140 (lv_at hl 2 rfl) ?_
              refine lv_iadd hx hb de_M_number_142 ?_
              refine bc_ti (y := nI (40 + i2)) (nI_add 40 i2) ?_
              refine bc_ild (j := 40 + i2) hx hb hK hP 1 0 rfl rfl (by omega) (by decide) de_M_number_143 ?_
              refine bc_ti (y := K (40 + i2)) hsame.1 ?_
              refine lv_aload_n hx hb de_M_number_144 rfl (lv_at hl 6 rfl) ?_
              refine va_get (D := (dC, dI)) (ci := 5) (v := .ref r2) (C := rc_M) (T := fc_M) (N := 19) hx hb htw wi_M hown hK hP 0 rfl rfl 2 (by decide) (htw _ wm_425) (fun _ h9 => h9) rfl de_M_number_145 ?_
              refine lv_bipush (v := 40) hx hb de_M_number_148 (by decide) ?_
              refine lv_iload hx hb de_M_number_150 (lv_at hl 2 rfl) ?_
              refine lv_iadd hx hb de_M_number_152 ?_
              refine bc_ti (y := nI (40 + i2)) (nI_add 40 i2) ?_
              refine bc_ild (j := 40 + i2) hx hb hK hP 2 0 rfl rfl (by omega) (by decide) de_M_number_153 ?_
              refine bc_ti (y := O (40 + i2)) hsame.2.1 ?_
              refine lv_aload_n hx hb de_M_number_154 rfl (lv_at hl 6 rfl) ?_
              refine lv_iload hx hb de_M_number_155 (lv_at hl 2 rfl) ?_
              refine bc_call_v_i (As := [.int (nI i2)]) (rest := [.int (O (40 + i2)), .int (K (40 + i2)), .int (nI (40 + (bc_ct St i2))), .ref m0]) (wr := [(r2, .inl (cI, 80, .inl O3)), (r3, .inl (cI, 80, .inl T3)), (r4, .inl (cI, 80, .inl Z3)), (r5, .inl (cI, 2, .inl Sz)), (r11, .inl (cZ, 41, .inl St)), (r12, .inl (cI, 40, .inl L1))]) F (co_M_goes (by omega)) wm_542 wm_6 wm_540 wm_541 wm_641 0 rfl rfl pd_M_goes rfl rfl ⟨Nat.le_of_ble_eq_true rfl, Nat.le_of_ble_eq_true rfl⟩ hP hD hS hA [0, 1] [2, 3, 4, 5, 6, 7] rfl rfl rfl rfl (by decide) rfl hl.1 rfl (Nat.le_of_ble_eq_true rfl) de_M_number_157 ⟨Nat.le_of_ble_eq_true rfl, Nat.le_of_ble_eq_true rfl⟩ (fun r_157 u_157 H locs hw_157 hP hD hS => ?_)
              have hP : va_P (dC, dI) classes [(m0, .inr (5, [.int fa, .ref r1, .ref r2, .ref r3, .ref r4, .ref r5, .int rw, .ref r6, .ref r7, .ref r8, .int gw, .ref r9, .ref r10, .ref r11, .ref r12, .ref r13, .ref r14, .ref r15, .ref r16])), (r1, .inl (cI, 80, .inl K3)), (r2, .inl (cI, 80, .inl O3)), (r3, .inl (cI, 80, .inl T3)), (r4, .inl (cI, 80, .inl Z3)), (r5, .inl (cI, 2, .inl Sz)), (r11, .inl (cZ, 41, .inl St)), (r12, .inl (cI, 40, .inl L1))] H := hP.sub [6, 7, 0, 1, 2, 3, 4, 5] rfl
              have hD : va_D A [(m0, .inr (5, [.int fa, .ref r1, .ref r2, .ref r3, .ref r4, .ref r5, .int rw, .ref r6, .ref r7, .ref r8, .int gw, .ref r9, .ref r10, .ref r11, .ref r12, .ref r13, .ref r14, .ref r15, .ref r16])), (r1, .inl (cI, 80, .inl K3)), (r2, .inl (cI, 80, .inl O3)), (r3, .inl (cI, 80, .inl T3)), (r4, .inl (cI, 80, .inl Z3)), (r5, .inl (cI, 2, .inl Sz)), (r11, .inl (cZ, 41, .inl St)), (r12, .inl (cI, 40, .inl L1))] := hD.sub [6, 7, 0, 1, 2, 3, 4, 5] (by decide) rfl
              rcases hw_157 with ⟨he_157, hv_157⟩ | ⟨he_157, hv_157⟩
              · subst he_157
                exact absurd hv_157 (by rw [hsame.1]; exact hv_70)
              · subst he_157
                refine lv_if_eq (tgt := 168) hx hb de_M_number_160 (by decide) (fun _ => ?_) (fun hc => absurd (by decide) hc)
                refine lv_aload_n hx hb de_M_number_168 rfl (lv_at hl 6 rfl) ?_
                refine va_get (D := (dC, dI)) (ci := 5) (v := .ref r3) (C := rc_M) (T := fc_M) (N := 19) hx hb htw wi_M hown hK hP 0 rfl rfl 3 (by decide) (htw _ wm_426) (fun _ h9 => h9) rfl de_M_number_169 ?_
                refine lv_bipush (v := 40) hx hb de_M_number_172 (by decide) ?_
                refine lv_iload hx hb de_M_number_174 (lv_at hl 2 rfl) ?_
                refine lv_iadd hx hb de_M_number_176 ?_
                refine bc_ti (y := nI (40 + i2)) (nI_add 40 i2) ?_
                refine bc_ild (j := 40 + i2) hx hb hK hP 3 0 rfl rfl (by omega) (by decide) de_M_number_177 ?_
                refine bc_ti (y := T (40 + i2)) hsame.2.2.1 ?_
                refine lv_aload_n hx hb de_M_number_178 rfl (lv_at hl 6 rfl) ?_
                refine va_get (D := (dC, dI)) (ci := 5) (v := .ref r4) (C := rc_M) (T := fc_M) (N := 19) hx hb htw wi_M hown hK hP 0 rfl rfl 4 (by decide) (htw _ wm_427) (fun _ h9 => h9) rfl de_M_number_179 ?_
                refine lv_bipush (v := 40) hx hb de_M_number_182 (by decide) ?_
                refine lv_iload hx hb de_M_number_184 (lv_at hl 2 rfl) ?_
                refine lv_iadd hx hb de_M_number_186 ?_
                refine bc_ti (y := nI (40 + i2)) (nI_add 40 i2) ?_
                refine bc_ild (j := 40 + i2) hx hb hK hP 4 0 rfl rfl (by omega) (by decide) de_M_number_187 ?_
                refine bc_ti (y := Z (40 + i2)) hsame.2.2.2 ?_
                refine bc_call_v_v (As := [.int (nI (40 + (bc_ct St i2))), .int (K (40 + i2)), .int (O (40 + i2)), .int (T (40 + i2)), .int (Z (40 + i2))]) (rest := []) (wr := [(r5, .inl (cI, 2, .inl Sz)), (r11, .inl (cZ, 41, .inl St)), (r12, .inl (cI, 40, .inl L1))]) F (co_M_put (by have := bc_ct_le St i2; omega) (hkk i2 hlt2)) wm_481 wm_6 wm_479 wm_480 wm_631 0 rfl rfl pd_M_put rfl rfl ⟨Nat.le_of_ble_eq_true rfl, Nat.le_of_ble_eq_true rfl⟩ hP hD hS hA [0, 1, 2, 3, 4] [5, 6, 7] rfl rfl rfl rfl (by decide) rfl hl.1 rfl (Nat.le_of_ble_eq_true rfl) de_M_number_188 ⟨Nat.le_of_ble_eq_true rfl, Nat.le_of_ble_eq_true rfl⟩ (fun u_188 H locs hw_188 hP hD hS => ?_)
                obtain ⟨K4, O4, T4, Z4⟩ := u_188
                try dsimp only at hw_188
                have hMV := bc_MV4 hs4 hJ hlt2 hc_64 hw_188 ⟨rfl, rfl, rfl, fun z => absurd z hv_70, fun _ => rfl⟩
                have hP : va_P (dC, dI) classes [(m0, .inr (5, [.int fa, .ref r1, .ref r2, .ref r3, .ref r4, .ref r5, .int rw, .ref r6, .ref r7, .ref r8, .int gw, .ref r9, .ref r10, .ref r11, .ref r12, .ref r13, .ref r14, .ref r15, .ref r16])), (r1, .inl (cI, 80, .inl K4)), (r2, .inl (cI, 80, .inl O4)), (r3, .inl (cI, 80, .inl T4)), (r4, .inl (cI, 80, .inl Z4)), (r5, .inl (cI, 2, .inl Sz)), (r11, .inl (cZ, 41, .inl St)), (r12, .inl (cI, 40, .inl L1))] H := hP.sub [3, 4, 5, 6, 7, 0, 1, 2] rfl
                have hD : va_D A [(m0, .inr (5, [.int fa, .ref r1, .ref r2, .ref r3, .ref r4, .ref r5, .int rw, .ref r6, .ref r7, .ref r8, .int gw, .ref r9, .ref r10, .ref r11, .ref r12, .ref r13, .ref r14, .ref r15, .ref r16])), (r1, .inl (cI, 80, .inl K4)), (r2, .inl (cI, 80, .inl O4)), (r3, .inl (cI, 80, .inl T4)), (r4, .inl (cI, 80, .inl Z4)), (r5, .inl (cI, 2, .inl Sz)), (r11, .inl (cZ, 41, .inl St)), (r12, .inl (cI, 40, .inl L1))] := hD.sub [3, 4, 5, 6, 7, 0, 1, 2] (by decide) rfl
                refine lv_iinc (k := 3) (v := nI ((bc_ct St i2) + 1)) (lv' := [(3, .int (nI ((bc_ct St i2) + 1))), (6, .int (nI (bc_ct St n))), (5, .int (nI n)), (4, .int (nI i2)), (2, .int (nI (bc_ct St n))), (1, .int (nI n)), (0, .ref m0)]) hx hb de_M_number_191 hl rfl (bc_inc _) (by decide) rfl (fun ls hl => ?_)
                rw [← bc_ct_1 hc_64] at hl
                refine lv_iinc (k := 3) (v := nI (i2 + 1)) (lv' := [(4, .int (nI (i2 + 1))), (3, .int (nI (bc_ct St (i2 + 1)))), (6, .int (nI (bc_ct St n))), (5, .int (nI n)), (2, .int (nI (bc_ct St n))), (1, .int (nI n)), (0, .ref m0)]) hx hb de_M_number_194 hl rfl (bc_inc _) (by decide) rfl (fun ls hl => ?_)
                refine lv_goto (tgt := 51) hx hb de_M_number_197 (by decide) ?_
                exact ih_51 _ _ _ _ (by omega) ⟨(i2 + 1), K4, O4, T4, Z4, lv_sub hl [0, 1, 4, 5, 6] rfl, hP, hD, hS, rfl, (by omega), hMV.1, hMV.2⟩
      · exact ⟨_, 0, K, O, T, Z, lv_sub hl [0, 1, 2, 3, 4] rfl, hP, hD, hS, rfl, Nat.zero_le _, fun _ _ => ⟨rfl, rfl, rfl, rfl⟩, ⟨fun j hj => absurd hj (Nat.not_lt_zero j), fun j _ _ => ⟨rfl, rfl, rfl, rfl⟩⟩⟩
    · have hlt : i < n := bc_lt (by omega) (by omega) hc_13
      refine lv_aload_n hx hb de_M_number_16 rfl (lv_at hl 3 rfl) ?_
      refine va_get (D := (dC, dI)) (ci := 5) (v := .ref r12) (C := rc_M) (T := fc_M) (N := 19) hx hb htw wi_M hown hK hP 0 rfl rfl 14 (by decide) (htw _ wm_437) (fun _ h9 => h9) rfl de_M_number_17 ?_
      refine lv_iload_n hx hb de_M_number_20 rfl (lv_at hl 0 rfl) ?_
      refine lv_iload_n hx hb de_M_number_21 rfl (lv_at hl 1 rfl) ?_
      refine bc_ist (j := i) hx hb hK hP hD hS 7 0 rfl rfl (by omega) (by decide) de_M_number_22 (fun H locs hP hD hS => ?_)
      have hP : va_P (dC, dI) classes [(m0, .inr (5, [.int fa, .ref r1, .ref r2, .ref r3, .ref r4, .ref r5, .int rw, .ref r6, .ref r7, .ref r8, .int gw, .ref r9, .ref r10, .ref r11, .ref r12, .ref r13, .ref r14, .ref r15, .ref r16])), (r1, .inl (cI, 80, .inl K)), (r2, .inl (cI, 80, .inl O)), (r3, .inl (cI, 80, .inl T)), (r4, .inl (cI, 80, .inl Z)), (r5, .inl (cI, 2, .inl Sz)), (r11, .inl (cZ, 41, .inl St)), (r12, .inl (cI, 40, .inl (upd L1 i (nI (bc_ct St i)))))] H := hP
      have hD : va_D A [(m0, .inr (5, [.int fa, .ref r1, .ref r2, .ref r3, .ref r4, .ref r5, .int rw, .ref r6, .ref r7, .ref r8, .int gw, .ref r9, .ref r10, .ref r11, .ref r12, .ref r13, .ref r14, .ref r15, .ref r16])), (r1, .inl (cI, 80, .inl K)), (r2, .inl (cI, 80, .inl O)), (r3, .inl (cI, 80, .inl T)), (r4, .inl (cI, 80, .inl Z)), (r5, .inl (cI, 2, .inl Sz)), (r11, .inl (cZ, 41, .inl St)), (r12, .inl (cI, 40, .inl (upd L1 i (nI (bc_ct St i)))))] := hD
      refine lv_aload_n hx hb de_M_number_23 rfl (lv_at hl 3 rfl) ?_
      refine va_get (D := (dC, dI)) (ci := 5) (v := .ref r11) (C := rc_M) (T := fc_M) (N := 19) hx hb htw wi_M hown hK hP 0 rfl rfl 13 (by decide) (htw _ wm_436) (fun _ h9 => h9) rfl de_M_number_24 ?_
      refine lv_iload_n hx hb de_M_number_27 rfl (lv_at hl 0 rfl) ?_
      refine bc_zld (j := i) hx hb hK hP 6 1 rfl rfl (by omega) (by decide) de_M_number_28 ?_
      refine lv_if_eq (tgt := 38) hx hb de_M_number_29 (by decide) (fun hc_29 => ?_) (fun hc_29 => ?_)
      · refine lv_iload_n hx hb de_M_number_38 rfl (lv_at hl 1 rfl) ?_
        refine bc_ti (y := nI (bc_ct St (i + 1))) (congrArg nI (bc_ct_0 hc_29).symm) ?_
        refine lv_istore_n (lv' := [(2, .int (nI (bc_ct St (i + 1)))), (3, .int (nI i)), (1, .int (nI n)), (0, .ref m0)]) hx hb de_M_number_39 rfl hl (by decide) rfl (fun ls hl => ?_)
        refine lv_iinc (k := 1) (v := nI (i + 1)) (lv' := [(3, .int (nI (i + 1))), (2, .int (nI (bc_ct St (i + 1)))), (1, .int (nI n)), (0, .ref m0)]) hx hb de_M_number_40 hl rfl (bc_inc _) (by decide) rfl (fun ls hl => ?_)
        refine lv_goto (tgt := 11) hx hb de_M_number_43 (by decide) ?_
        exact ih_11 _ _ _ _ (by omega) ⟨(i + 1), upd L1 i (nI (bc_ct St i)), lv_sub hl [0, 1, 2, 3] rfl, hP, hD, hS, rfl, (by omega), bc_allf hL⟩
      · refine lv_iload_n hx hb de_M_number_32 rfl (lv_at hl 1 rfl) ?_
        refine lv_iconst (v := 1) hx hb de_M_number_33 (by decide) ?_
        refine lv_iadd hx hb de_M_number_34 ?_
        refine bc_ti (y := nI (bc_ct St (i + 1))) ((nI_1 _).trans (congrArg nI (bc_ct_1 hc_29).symm)) ?_
        refine lv_goto (tgt := 39) hx hb de_M_number_35 (by decide) ?_
        refine lv_istore_n (lv' := [(2, .int (nI (bc_ct St (i + 1)))), (3, .int (nI i)), (1, .int (nI n)), (0, .ref m0)]) hx hb de_M_number_39 rfl hl (by decide) rfl (fun ls hl => ?_)
        refine lv_iinc (k := 1) (v := nI (i + 1)) (lv' := [(3, .int (nI (i + 1))), (2, .int (nI (bc_ct St (i + 1)))), (1, .int (nI n)), (0, .ref m0)]) hx hb de_M_number_40 hl rfl (bc_inc _) (by decide) rfl (fun ls hl => ?_)
        refine lv_goto (tgt := 11) hx hb de_M_number_43 (by decide) ?_
        exact ih_11 _ _ _ _ (by omega) ⟨(i + 1), upd L1 i (nI (bc_ct St i)), lv_sub hl [0, 1, 2, 3] rfl, hP, hD, hS, rfl, (by omega), bc_allf hL⟩
  · exact ⟨_, 0, Ld, lv_sub hl [0, 1, 2, 3] rfl, hP, hD, hS, rfl, Nat.zero_le _, fun j hj => absurd hj (Nat.not_lt_zero j)⟩

