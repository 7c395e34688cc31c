/-! the reference: thread (by program: wip/whole/gen/modM6.py) -/
theorem bc_end_J {n : Nat} {K : bc_F} {q : Nat → Nat} {t k : Nat} (hk : k = n + 1) (h : bc_J n K (bc_it (bc_hop n K q) k t)) : bc_end n K q t = t := by
  subst hk
  exact if_pos h
def bc_LT (n : Nat) (K T : bc_F) (i : Nat) (L : bc_F) : Prop := ∀ j, j < i → (bc_gs (K (40 + j)) → bc_tr (L j) ∧ bc_tn n (L j) = bc_end n (fun j => K (40 + j)) (fun j => bc_tn n (T (40 + j))) (bc_tn n (T (40 + j)))) ∧ (¬ bc_gs (K (40 + j)) → L j = T (40 + j))
theorem bc_LT_s {n : Nat} {K T : bc_F} {i : Nat} {L : bc_F} {x : Int32} (h : bc_LT n K T i L) (hx : (bc_gs (K (40 + i)) → bc_tr x ∧ bc_tn n x = bc_end n (fun j => K (40 + j)) (fun j => bc_tn n (T (40 + j))) (bc_tn n (T (40 + i)))) ∧ (¬ bc_gs (K (40 + i)) → x = T (40 + i))) : bc_LT n K T (i + 1) (upd L i x) := by
  intro j hj
  by_cases c : j = i
  · subst c; rw [pk_us]; exact hx
  · rw [pk_un c]; exact h j (by omega)
def bc_TL (n : Nat) (T L : bc_F) (i : Nat) (T3 : bc_F) : Prop := (∀ j, j < i → T3 (40 + j) = L j) ∧ ∀ j, (j < 40 ∨ 40 + i ≤ j) → T3 j = T j
theorem bc_TL_s {n : Nat} {T L T3 : bc_F} {i : Nat} (h : bc_TL n T L i T3) : bc_TL n T L (i + 1) (upd T3 (40 + i) (L i)) := by
  refine ⟨fun j hj => ?_, fun j hj => ?_⟩
  · by_cases c : j = i
    · subst c; rw [pk_us]
    · rw [pk_un (by omega)]; exact h.1 j (by omega)
  · rw [pk_un (by omega)]; exact h.2 j (by omega)
theorem bc_TL_end {n : Nat} {K T L T3 : bc_F} (hL : bc_LT n K T n L) (h : bc_TL n T L n T3) : (∀ j, j < 40 → T3 j = T j) ∧ bc_TI n (fun j => K (40 + j)) (fun j => T (40 + j)) n (fun j => T3 (40 + j)) := by
  refine ⟨fun j hj => h.2 j (Or.inl hj), fun j hj => ⟨fun hg => ?_, fun hg => ?_⟩⟩
  · rw [show (fun j => T3 (40 + j)) j = L j from h.1 j hj]
    exact ⟨((hL j hj).1 hg).1, fun _ => ((hL j hj).1 hg).2, fun z => by omega⟩
  · rw [show (fun j => T3 (40 + j)) j = L j from h.1 j hj]
    exact (hL j hj).2 hg
theorem bc_tn_t {n t : Nat} (ht : t < n) (hn : n ≤ 40) : bc_tn n (nI t) = t := bc_tn_nI (by omega) hn
set_option maxHeartbeats 4000000 in
set_option maxRecDepth 100000 in
/-- THREAD -/
theorem co_M_thread {l : Launch} {dC : Nat → ClassId} {dI : Nat → Nat → Nat} {cI cZ : ClassId} {sz : Nat} {m0 r1 r2 r3 r4 r5 r6 r7 r8 r9 r10 r11 r12 r13 r14 r15 r16 : Nat} {K T Sz Ld : bc_F} {fa rw gw : Int32} {n : Nat} (hn : n ≤ 40) (hSz : Sz 0 = nI n) (htr : ∀ j, j < n → bc_gs (K (40 + j)) → bc_tr (T (40 + j))) : Met l yn_M_thread (Cond.code yn_M_thread by_M_thread 5 none :: wd_all) ({ frames := 1, cells := 0, slots := 0, locals := 21 } : Room) (bc_Pre (dC, dI) classes [(cI, .int), (cZ, .boolean)] [.ref m0] [(m0, .inr (5, [.int fa, .ref r1, .ref r2, .ref r3, .ref r4, .ref r5, .int rw, .ref r6, .ref r7, .ref r8, .int gw, .ref r9, .ref r10, .ref r11, .ref r12, .ref r13, .ref r14, .ref r15, .ref r16])), (r1, .inl (cI, 80, .inl K)), (r3, .inl (cI, 80, .inl T)), (r5, .inl (cI, 2, .inl Sz)), (r12, .inl (cI, 40, .inl Ld))] sz) (va_Qv (fun (u : bc_F × bc_F) => (∀ j, j < 40 → u.1 j = T j) ∧ bc_TI n (fun j => K (40 + j)) (fun j => T (40 + j)) n (fun j => u.1 (40 + j))) (fun (u : bc_F × bc_F) t => bc_B (dC, dI) classes [(cI, .int), (cZ, .boolean)] (va_A [(m0, .inr (5, [.int fa, .ref r1, .ref r2, .ref r3, .ref r4, .ref r5, .int rw, .ref r6, .ref r7, .ref r8, .int gw, .ref r9, .ref r10, .ref r11, .ref r12, .ref r13, .ref r14, .ref r15, .ref r16])), (r1, .inl (cI, 80, .inl K)), (r3, .inl (cI, 80, .inl T)), (r5, .inl (cI, 2, .inl Sz)), (r12, .inl (cI, 40, .inl Ld))] sz) [(m0, .inr (5, [.int fa, .ref r1, .ref r2, .ref r3, .ref r4, .ref r5, .int rw, .ref r6, .ref r7, .ref r8, .int gw, .ref r9, .ref r10, .ref r11, .ref r12, .ref r13, .ref r14, .ref r15, .ref r16])), (r1, .inl (cI, 80, .inl K)), (r3, .inl (cI, 80, .inl u.1)), (r5, .inl (cI, 2, .inl Sz)), (r12, .inl (cI, 40, .inl u.2))] t) ((va_A [(m0, .inr (5, [.int fa, .ref r1, .ref r2, .ref r3, .ref r4, .ref r5, .int rw, .ref r6, .ref r7, .ref r8, .int gw, .ref r9, .ref r10, .ref r11, .ref r12, .ref r13, .ref r14, .ref r15, .ref r16])), (r1, .inl (cI, 80, .inl K)), (r3, .inl (cI, 80, .inl T)), (r5, .inl (cI, 2, .inl Sz)), (r12, .inl (cI, 40, .inl Ld))] sz))) 0 0 (va_A [(m0, .inr (5, [.int fa, .ref r1, .ref r2, .ref r3, .ref r4, .ref r5, .int rw, .ref r6, .ref r7, .ref r8, .int gw, .ref r9, .ref r10, .ref r11, .ref r12, .ref r13, .ref r14, .ref r15, .ref r16])), (r1, .inl (cI, 80, .inl K)), (r3, .inl (cI, 80, .inl T)), (r5, .inl (cI, 2, .inl Sz)), (r12, .inl (cI, 40, .inl Ld))] sz) := by
  refine bc_met (fun A => va_Qv (fun (u : bc_F × bc_F) => (∀ j, j < 40 → u.1 j = T j) ∧ bc_TI n (fun j => K (40 + j)) (fun j => T (40 + j)) n (fun j => u.1 (40 + j))) (fun (u : bc_F × bc_F) t => bc_B (dC, dI) classes [(cI, .int), (cZ, .boolean)] A [(m0, .inr (5, [.int fa, .ref r1, .ref r2, .ref r3, .ref r4, .ref r5, .int rw, .ref r6, .ref r7, .ref r8, .int gw, .ref r9, .ref r10, .ref r11, .ref r12, .ref r13, .ref r14, .ref r15, .ref r16])), (r1, .inl (cI, 80, .inl K)), (r3, .inl (cI, 80, .inl u.1)), (r5, .inl (cI, 2, .inl Sz)), (r12, .inl (cI, 40, .inl u.2))] t) A) (by decide) (Nat.le_of_ble_eq_true rfl) ?_
  intro p e s m args below meth c A ls F hr hlocks hin hA hP hD hl hS
  have hx := F.1
  have hb := F.2.1
  have hml := F.2.2.1
  have hown : s.vm.findClass "BranchConstantsModel" = some m.cls := F.2.2.2.1
  have htw := F.2.2.2.2.1
  have hN := F.2.2.2.2.2.1
  have hK := F.2.2.2.2.2.2
  have hl : lv_has ls 5 [(0, .ref m0)] := hl
  refine lv_aload_n hx hb de_M_thread_0 rfl (lv_at hl 0 rfl) ?_
  refine va_get (D := (dC, dI)) (ci := 5) (v := .ref r5) (C := rc_M) (T := fc_M) (N := 19) hx hb htw wi_M hown hK hP 0 rfl rfl 5 (by decide) (htw _ wm_428) (fun _ h9 => h9) rfl de_M_thread_1 ?_
  refine lv_iconst (v := 0) hx hb de_M_thread_4 (by decide) ?_
  refine bc_ildE (by decide) (j := 0) hx hb hK hP 3 0 rfl rfl (by omega) (by decide) de_M_thread_5 ?_
  refine bc_ti (y := nI n) hSz ?_
  refine lv_istore_n (lv' := [(1, .int (nI n)), (0, .ref m0)]) hx hb de_M_thread_6 rfl hl (by decide) rfl (fun ls hl => ?_)
  refine lv_iconst (v := 0) hx hb de_M_thread_7 (by decide) ?_
  refine bc_ti (y := nI 0) nI_0.symm ?_
  refine lv_istore_n (lv' := [(2, .int (nI 0)), (1, .int (nI n)), (0, .ref m0)]) hx hb de_M_thread_8 rfl hl (by decide) rfl (fun ls hl => ?_)
  refine bc_loop (fun k_9 H locs ls => ∃ (i : Nat) (L1 : bc_F), lv_has ls 5 [(2, .int (nI i)), (1, .int (nI n)), (0, .ref m0)] ∧ va_P (dC, dI) classes [(m0, .inr (5, [.int fa, .ref r1, .ref r2, .ref r3, .ref r4, .ref r5, .int rw, .ref r6, .ref r7, .ref r8, .int gw, .ref r9, .ref r10, .ref r11, .ref r12, .ref r13, .ref r14, .ref r15, .ref r16])), (r1, .inl (cI, 80, .inl K)), (r3, .inl (cI, 80, .inl T)), (r5, .inl (cI, 2, .inl Sz)), (r12, .inl (cI, 40, .inl L1))] H ∧ va_D A [(m0, .inr (5, [.int fa, .ref r1, .ref r2, .ref r3, .ref r4, .ref r5, .int rw, .ref r6, .ref r7, .ref r8, .int gw, .ref r9, .ref r10, .ref r11, .ref r12, .ref r13, .ref r14, .ref r15, .ref r16])), (r1, .inl (cI, 80, .inl K)), (r3, .inl (cI, 80, .inl T)), (r5, .inl (cI, 2, .inl Sz)), (r12, .inl (cI, 40, .inl L1))] ∧ va_S A s.heap H locs ∧ k_9 = n - i ∧ (i ≤ n) ∧ (bc_LT n K T i L1)) ?_ ?_
  · rintro k_9 H locs ls ⟨i, L1, hl, hP, hD, hS, hk_9, hi, hJ⟩ ih_9
    refine lv_iload_n hx hb de_M_thread_9 rfl (lv_at hl 0 rfl) ?_
    refine lv_iload_n hx hb de_M_thread_10 rfl (lv_at hl 1 rfl) ?_
    refine lv_icmp_ge (tgt := 140) hx hb de_M_thread_11 (by decide) (fun hc_11 => ?_) (fun hc_11 => ?_)
    · have heq : i = n := by have := bc_ge (by omega) (by omega) hc_11; omega
      rw [heq] at hJ
      refine lv_iconst (v := 0) hx hb de_M_thread_140 (by decide) ?_
      refine bc_ti (y := nI 0) nI_0.symm ?_
      refine lv_istore_n (lv' := [(2, .int (nI 0)), (1, .int (nI n)), (0, .ref m0)]) hx hb de_M_thread_141 rfl hl (by decide) rfl (fun ls hl => ?_)
      refine bc_loop (fun k_142 H locs ls => ∃ (i2 : Nat) (T3 : bc_F), lv_has ls 5 [(2, .int (nI i2)), (1, .int (nI n)), (0, .ref m0)] ∧ va_P (dC, dI) classes [(m0, .inr (5, [.int fa, .ref r1, .ref r2, .ref r3, .ref r4, .ref r5, .int rw, .ref r6, .ref r7, .ref r8, .int gw, .ref r9, .ref r10, .ref r11, .ref r12, .ref r13, .ref r14, .ref r15, .ref r16])), (r1, .inl (cI, 80, .inl K)), (r3, .inl (cI, 80, .inl T3)), (r5, .inl (cI, 2, .inl Sz)), (r12, .inl (cI, 40, .inl L1))] H ∧ va_D A [(m0, .inr (5, [.int fa, .ref r1, .ref r2, .ref r3, .ref r4, .ref r5, .int rw, .ref r6, .ref r7, .ref r8, .int gw, .ref r9, .ref r10, .ref r11, .ref r12, .ref r13, .ref r14, .ref r15, .ref r16])), (r1, .inl (cI, 80, .inl K)), (r3, .inl (cI, 80, .inl T3)), (r5, .inl (cI, 2, .inl Sz)), (r12, .inl (cI, 40, .inl L1))] ∧ va_S A s.heap H locs ∧ k_142 = n - i2 ∧ (i2 ≤ n) ∧ (bc_TL n T L1 i2 T3)) ?_ ?_
      · rintro k_142 H locs ls ⟨i2, T3, hl, hP, hD, hS, hk_142, hi2, hJ2⟩ ih_142
        refine lv_iload_n hx hb de_M_thread_142 rfl (lv_at hl 0 rfl) ?_
        refine lv_iload_n hx hb de_M_thread_143 rfl (lv_at hl 1 rfl) ?_
        refine lv_icmp_ge (tgt := 168) hx hb de_M_thread_144 (by decide) (fun hc_144 => ?_) (fun hc_144 => ?_)
        · have heq2 : i2 = n := by have := bc_ge (by omega) (by omega) hc_144; omega
          rw [heq2] at hJ2
          exact bc_vret F hr hlocks ((T3, L1)) (bc_TL_end hJ hJ2) hP hD hS de_M_thread_168
        · have hlt2 : i2 < n := bc_lt (by omega) (by omega) hc_144
          refine lv_aload_n hx hb de_M_thread_147 rfl (lv_at hl 2 rfl) ?_
          refine va_get (D := (dC, dI)) (ci := 5) (v := .ref r3) (C := rc_M) (T := fc_M) (N := 19) hx hb htw wi_M hown hK hP 0 rfl rfl 3 (by decide) (htw _ wm_426) (fun _ h9 => h9) rfl de_M_thread_148 ?_
          refine lv_bipush (v := 40) hx hb de_M_thread_151 (by decide) ?_
          refine lv_iload_n hx hb de_M_thread_153 rfl (lv_at hl 0 rfl) ?_
          refine lv_iadd hx hb de_M_thread_154 ?_
          refine bc_ti (y := nI (40 + i2)) (nI_add 40 i2) ?_
          refine lv_aload_n hx hb de_M_thread_155 rfl (lv_at hl 2 rfl) ?_
          refine va_get (D := (dC, dI)) (ci := 5) (v := .ref r12) (C := rc_M) (T := fc_M) (N := 19) hx hb htw wi_M hown hK hP 0 rfl rfl 14 (by decide) (htw _ wm_437) (fun _ h9 => h9) rfl de_M_thread_156 ?_
          refine lv_iload_n hx hb de_M_thread_159 rfl (lv_at hl 0 rfl) ?_
          refine bc_ild (j := i2) hx hb hK hP 4 0 rfl rfl (by omega) (by decide) de_M_thread_160 ?_
          refine bc_ist (j := 40 + i2) hx hb hK hP hD hS 2 0 rfl rfl (by omega) (by decide) de_M_thread_161 (fun H locs hP hD hS => ?_)
          have hP : va_P (dC, dI) classes [(m0, .inr (5, [.int fa, .ref r1, .ref r2, .ref r3, .ref r4, .ref r5, .int rw, .ref r6, .ref r7, .ref r8, .int gw, .ref r9, .ref r10, .ref r11, .ref r12, .ref r13, .ref r14, .ref r15, .ref r16])), (r1, .inl (cI, 80, .inl K)), (r3, .inl (cI, 80, .inl (upd T3 (40 + i2) (L1 i2)))), (r5, .inl (cI, 2, .inl Sz)), (r12, .inl (cI, 40, .inl L1))] H := hP
          have hD : va_D A [(m0, .inr (5, [.int fa, .ref r1, .ref r2, .ref r3, .ref r4, .ref r5, .int rw, .ref r6, .ref r7, .ref r8, .int gw, .ref r9, .ref r10, .ref r11, .ref r12, .ref r13, .ref r14, .ref r15, .ref r16])), (r1, .inl (cI, 80, .inl K)), (r3, .inl (cI, 80, .inl (upd T3 (40 + i2) (L1 i2)))), (r5, .inl (cI, 2, .inl Sz)), (r12, .inl (cI, 40, .inl L1))] := hD
          refine lv_iinc (k := 0) (v := nI (i2 + 1)) (lv' := [(2, .int (nI (i2 + 1))), (1, .int (nI n)), (0, .ref m0)]) hx hb de_M_thread_162 hl rfl (bc_inc _) (by decide) rfl (fun ls hl => ?_)
          refine lv_goto (tgt := 142) hx hb de_M_thread_165 (by decide) ?_
          exact ih_142 _ _ _ _ (by omega) ⟨(i2 + 1), upd T3 (40 + i2) (L1 i2), lv_sub hl [0, 1, 2] rfl, hP, hD, hS, rfl, (by omega), bc_TL_s hJ2⟩
      · exact ⟨_, 0, T, lv_sub hl [0, 1, 2] rfl, hP, hD, hS, rfl, Nat.zero_le _, ⟨fun j hj => absurd hj (Nat.not_lt_zero j), fun _ _ => rfl⟩⟩
    · have hlt : i < n := bc_lt (by omega) (by omega) hc_11
      refine lv_aload_n hx hb de_M_thread_14 rfl (lv_at hl 2 rfl) ?_
      refine va_get (D := (dC, dI)) (ci := 5) (v := .ref r3) (C := rc_M) (T := fc_M) (N := 19) hx hb htw wi_M hown hK hP 0 rfl rfl 3 (by decide) (htw _ wm_426) (fun _ h9 => h9) rfl de_M_thread_15 ?_
      refine lv_bipush (v := 40) hx hb de_M_thread_18 (by decide) ?_
      refine lv_iload_n hx hb de_M_thread_20 rfl (lv_at hl 0 rfl) ?_
      refine lv_iadd hx hb de_M_thread_21 ?_
      refine bc_ti (y := nI (40 + i)) (nI_add 40 i) ?_
      refine bc_ild (j := 40 + i) hx hb hK hP 2 0 rfl rfl (by omega) (by decide) de_M_thread_22 ?_
      refine lv_istore_n (lv' := [(3, .int (T (40 + i))), (2, .int (nI i)), (1, .int (nI n)), (0, .ref m0)]) hx hb de_M_thread_23 rfl hl (by decide) rfl (fun ls hl => ?_)
      by_cases hg : bc_gs (K (40 + i))
      · obtain ⟨t0, ht0, eT⟩ := htr i hlt hg
        rw [eT] at hl
        refine lv_iconst (v := 0) hx hb de_M_thread_24 (by decide) ?_
        refine bc_ti (y := nI 0) nI_0.symm ?_
        refine lv_istore (lv' := [(4, .int (nI 0)), (3, .int (nI t0)), (2, .int (nI i)), (1, .int (nI n)), (0, .ref m0)]) hx hb de_M_thread_25 hl (by decide) rfl (fun ls hl => ?_)
        refine bc_loop (fun k_27 H locs ls => ∃ (k : Nat) (t : Nat), lv_has ls 5 [(4, .int (nI k)), (3, .int (nI t)), (2, .int (nI i)), (1, .int (nI n)), (0, .ref m0)] ∧ va_P (dC, dI) classes [(m0, .inr (5, [.int fa, .ref r1, .ref r2, .ref r3, .ref r4, .ref r5, .int rw, .ref r6, .ref r7, .ref r8, .int gw, .ref r9, .ref r10, .ref r11, .ref r12, .ref r13, .ref r14, .ref r15, .ref r16])), (r1, .inl (cI, 80, .inl K)), (r3, .inl (cI, 80, .inl T)), (r5, .inl (cI, 2, .inl Sz)), (r12, .inl (cI, 40, .inl L1))] H ∧ va_D A [(m0, .inr (5, [.int fa, .ref r1, .ref r2, .ref r3, .ref r4, .ref r5, .int rw, .ref r6, .ref r7, .ref r8, .int gw, .ref r9, .ref r10, .ref r11, .ref r12, .ref r13, .ref r14, .ref r15, .ref r16])), (r1, .inl (cI, 80, .inl K)), (r3, .inl (cI, 80, .inl T)), (r5, .inl (cI, 2, .inl Sz)), (r12, .inl (cI, 40, .inl L1))] ∧ va_S A s.heap H locs ∧ k_27 = n + 1 - k ∧ (k ≤ n + 1) ∧ (t ≤ 40) ∧ (bc_tn n (nI t) = bc_it (bc_hop n (fun j => K (40 + j)) (fun j => bc_tn n (T (40 + j)))) k (bc_tn n (T (40 + i)))) ∧ (∀ m, m < k → bc_J n (fun j => K (40 + j)) (bc_it (bc_hop n (fun j => K (40 + j)) (fun j => bc_tn n (T (40 + j)))) m (bc_tn n (T (40 + i)))))) ?_ ?_
        · rintro k_27 H locs ls ⟨k, t, hl, hP, hD, hS, hk_27, hk1, ht40, hit, hJk⟩ ih_27
          refine lv_iload hx hb de_M_thread_27 (lv_at hl 0 rfl) ?_
          refine lv_iload_n hx hb de_M_thread_29 rfl (lv_at hl 3 rfl) ?_
          refine lv_icmp_gt (tgt := 76) hx hb de_M_thread_30 (by decide) (fun hc_30 => ?_) (fun hc_30 => ?_)
          · refine lv_aload_n hx hb de_M_thread_76 rfl (lv_at hl 4 rfl) ?_
            refine lv_iload_n hx hb de_M_thread_77 rfl (lv_at hl 2 rfl) ?_
            refine bc_call_v_i (As := [.int (nI i)]) (rest := []) (wr := [(r3, .inl (cI, 80, .inl T)), (r5, .inl (cI, 2, .inl Sz)), (r12, .inl (cI, 40, .inl L1))]) F (co_M_goes (by omega)) wm_542 wm_6 wm_540 wm_541 wm_641 0 rfl rfl pd_M_goes rfl rfl ⟨Nat.le_of_ble_eq_true rfl, Nat.le_of_ble_eq_true rfl⟩ hP hD hS hA [0, 1] [2, 3, 4] rfl rfl rfl rfl (by decide) rfl hl.1 rfl (Nat.le_of_ble_eq_true rfl) de_M_thread_78 ⟨Nat.le_of_ble_eq_true rfl, Nat.le_of_ble_eq_true rfl⟩ (fun r_78 u_78 H locs hw_78 hP hD hS => ?_)
            have hP : va_P (dC, dI) classes [(m0, .inr (5, [.int fa, .ref r1, .ref r2, .ref r3, .ref r4, .ref r5, .int rw, .ref r6, .ref r7, .ref r8, .int gw, .ref r9, .ref r10, .ref r11, .ref r12, .ref r13, .ref r14, .ref r15, .ref r16])), (r1, .inl (cI, 80, .inl K)), (r3, .inl (cI, 80, .inl T)), (r5, .inl (cI, 2, .inl Sz)), (r12, .inl (cI, 40, .inl L1))] H := hP.sub [3, 4, 0, 1, 2] rfl
            have hD : va_D A [(m0, .inr (5, [.int fa, .ref r1, .ref r2, .ref r3, .ref r4, .ref r5, .int rw, .ref r6, .ref r7, .ref r8, .int gw, .ref r9, .ref r10, .ref r11, .ref r12, .ref r13, .ref r14, .ref r15, .ref r16])), (r1, .inl (cI, 80, .inl K)), (r3, .inl (cI, 80, .inl T)), (r5, .inl (cI, 2, .inl Sz)), (r12, .inl (cI, 40, .inl L1))] := hD.sub [3, 4, 0, 1, 2] (by decide) rfl
            rcases hw_78 with ⟨he_78, hv_78⟩ | ⟨he_78, hv_78⟩
            · subst he_78
              refine lv_if_eq (tgt := 103) hx hb de_M_thread_81 (by decide) (fun hc => absurd hc (by decide)) (fun _ => ?_)
              refine lv_iload_n hx hb de_M_thread_84 rfl (lv_at hl 1 rfl) ?_
              refine lv_iload_n hx hb de_M_thread_85 rfl (lv_at hl 3 rfl) ?_
              refine lv_icmp_ge (tgt := 103) hx hb de_M_thread_86 (by decide) (fun hc_86 => ?_) (fun hc_86 => ?_)
              · refine lv_iconst (v := 1) hx hb de_M_thread_103 (by decide) ?_
                refine lv_goto (tgt := 108) hx hb de_M_thread_104 (by decide) ?_
                refine lv_istore (lv' := [(4, .int 1), (3, .int (nI t)), (2, .int (nI i)), (1, .int (nI n)), (0, .ref m0)]) hx hb de_M_thread_108 hl (by decide) rfl (fun ls hl => ?_)
                refine lv_aload_n hx hb de_M_thread_110 rfl (lv_at hl 4 rfl) ?_
                refine va_get (D := (dC, dI)) (ci := 5) (v := .ref r12) (C := rc_M) (T := fc_M) (N := 19) hx hb htw wi_M hown hK hP 0 rfl rfl 14 (by decide) (htw _ wm_437) (fun _ h9 => h9) rfl de_M_thread_111 ?_
                refine lv_iload_n hx hb de_M_thread_114 rfl (lv_at hl 2 rfl) ?_
                refine lv_iload hx hb de_M_thread_115 (lv_at hl 0 rfl) ?_
                refine lv_if_eq (tgt := 124) hx hb de_M_thread_117 (by decide) (fun hc => absurd hc (by decide)) (fun _ => ?_)
                refine lv_iload_n hx hb de_M_thread_120 rfl (lv_at hl 1 rfl) ?_
                refine lv_goto (tgt := 133) hx hb de_M_thread_121 (by decide) ?_
                refine bc_ist (j := i) hx hb hK hP hD hS 4 0 rfl rfl (by omega) (by decide) de_M_thread_133 (fun H locs hP hD hS => ?_)
                have hP : va_P (dC, dI) classes [(m0, .inr (5, [.int fa, .ref r1, .ref r2, .ref r3, .ref r4, .ref r5, .int rw, .ref r6, .ref r7, .ref r8, .int gw, .ref r9, .ref r10, .ref r11, .ref r12, .ref r13, .ref r14, .ref r15, .ref r16])), (r1, .inl (cI, 80, .inl K)), (r3, .inl (cI, 80, .inl T)), (r5, .inl (cI, 2, .inl Sz)), (r12, .inl (cI, 40, .inl (upd L1 i (nI t))))] H := hP
                have hD : va_D A [(m0, .inr (5, [.int fa, .ref r1, .ref r2, .ref r3, .ref r4, .ref r5, .int rw, .ref r6, .ref r7, .ref r8, .int gw, .ref r9, .ref r10, .ref r11, .ref r12, .ref r13, .ref r14, .ref r15, .ref r16])), (r1, .inl (cI, 80, .inl K)), (r3, .inl (cI, 80, .inl T)), (r5, .inl (cI, 2, .inl Sz)), (r12, .inl (cI, 40, .inl (upd L1 i (nI t))))] := hD
                refine lv_iinc (k := 2) (v := nI (i + 1)) (lv' := [(2, .int (nI (i + 1))), (4, .int 1), (3, .int (nI t)), (1, .int (nI n)), (0, .ref m0)]) hx hb de_M_thread_134 hl rfl (bc_inc _) (by decide) rfl (fun ls hl => ?_)
                refine lv_goto (tgt := 9) hx hb de_M_thread_137 (by decide) ?_
                exact ih_9 _ _ _ _ (by omega) ⟨(i + 1), upd L1 i (nI t), lv_sub hl [0, 3, 4] rfl, hP, hD, hS, rfl, (by omega), bc_LT_s hJ ⟨fun _ => ⟨⟨t, ht40, rfl⟩, hit.trans (bc_end_at (by rw [← hit]; exact fun z => absurd z.1 (by have h8 := bc_ge (by omega) (by omega) hc_86; unfold bc_tn; rw [nI_clamp (by omega), if_neg (by omega)]; omega)))⟩, fun z => absurd hg z⟩⟩
              · have htl : t < n := bc_lt (by omega) (by omega) hc_86
                refine lv_aload_n hx hb de_M_thread_89 rfl (lv_at hl 4 rfl) ?_
                refine va_get (D := (dC, dI)) (ci := 5) (v := .ref r1) (C := rc_M) (T := fc_M) (N := 19) hx hb htw wi_M hown hK hP 0 rfl rfl 1 (by decide) (htw _ wm_424) (fun _ h9 => h9) rfl de_M_thread_90 ?_
                refine lv_bipush (v := 40) hx hb de_M_thread_93 (by decide) ?_
                refine lv_iload_n hx hb de_M_thread_95 rfl (lv_at hl 1 rfl) ?_
                refine lv_iadd hx hb de_M_thread_96 ?_
                refine bc_ti (y := nI (40 + t)) (nI_add 40 t) ?_
                refine bc_ild (j := 40 + t) hx hb hK hP 1 0 rfl rfl (by omega) (by decide) de_M_thread_97 ?_
                refine lv_bipush (v := 6) hx hb de_M_thread_98 (by decide) ?_
                refine lv_icmp_eq (tgt := 107) hx hb de_M_thread_100 (by decide) (fun hc_100 => ?_) (fun hc_100 => ?_)
                · refine lv_iconst (v := 0) hx hb de_M_thread_107 (by decide) ?_
                  refine lv_istore (lv' := [(4, .int 0), (3, .int (nI t)), (2, .int (nI i)), (1, .int (nI n)), (0, .ref m0)]) hx hb de_M_thread_108 hl (by decide) rfl (fun ls hl => ?_)
                  refine lv_aload_n hx hb de_M_thread_110 rfl (lv_at hl 4 rfl) ?_
                  refine va_get (D := (dC, dI)) (ci := 5) (v := .ref r12) (C := rc_M) (T := fc_M) (N := 19) hx hb htw wi_M hown hK hP 0 rfl rfl 14 (by decide) (htw _ wm_437) (fun _ h9 => h9) rfl de_M_thread_111 ?_
                  refine lv_iload_n hx hb de_M_thread_114 rfl (lv_at hl 2 rfl) ?_
                  refine lv_iload hx hb de_M_thread_115 (lv_at hl 0 rfl) ?_
                  refine lv_if_eq (tgt := 124) hx hb de_M_thread_117 (by decide) (fun _ => ?_) (fun hc => absurd (by decide) hc)
                  refine lv_aload_n hx hb de_M_thread_124 rfl (lv_at hl 4 rfl) ?_
                  refine va_get (D := (dC, dI)) (ci := 5) (v := .ref r3) (C := rc_M) (T := fc_M) (N := 19) hx hb htw wi_M hown hK hP 0 rfl rfl 3 (by decide) (htw _ wm_426) (fun _ h9 => h9) rfl de_M_thread_125 ?_
                  refine lv_bipush (v := 40) hx hb de_M_thread_128 (by decide) ?_
                  refine lv_iload_n hx hb de_M_thread_130 rfl (lv_at hl 2 rfl) ?_
                  refine lv_iadd hx hb de_M_thread_131 ?_
                  refine bc_ti (y := nI (40 + i)) (nI_add 40 i) ?_
                  refine bc_ild (j := 40 + i) hx hb hK hP 2 0 rfl rfl (by omega) (by decide) de_M_thread_132 ?_
                  refine bc_ist (j := i) hx hb hK hP hD hS 4 0 rfl rfl (by omega) (by decide) de_M_thread_133 (fun H locs hP hD hS => ?_)
                  have hP : va_P (dC, dI) classes [(m0, .inr (5, [.int fa, .ref r1, .ref r2, .ref r3, .ref r4, .ref r5, .int rw, .ref r6, .ref r7, .ref r8, .int gw, .ref r9, .ref r10, .ref r11, .ref r12, .ref r13, .ref r14, .ref r15, .ref r16])), (r1, .inl (cI, 80, .inl K)), (r3, .inl (cI, 80, .inl T)), (r5, .inl (cI, 2, .inl Sz)), (r12, .inl (cI, 40, .inl (upd L1 i (T (40 + i)))))] H := hP
                  have hD : va_D A [(m0, .inr (5, [.int fa, .ref r1, .ref r2, .ref r3, .ref r4, .ref r5, .int rw, .ref r6, .ref r7, .ref r8, .int gw, .ref r9, .ref r10, .ref r11, .ref r12, .ref r13, .ref r14, .ref r15, .ref r16])), (r1, .inl (cI, 80, .inl K)), (r3, .inl (cI, 80, .inl T)), (r5, .inl (cI, 2, .inl Sz)), (r12, .inl (cI, 40, .inl (upd L1 i (T (40 + i)))))] := hD
                  refine lv_iinc (k := 2) (v := nI (i + 1)) (lv' := [(2, .int (nI (i + 1))), (4, .int 0), (3, .int (nI t)), (1, .int (nI n)), (0, .ref m0)]) hx hb de_M_thread_134 hl rfl (bc_inc _) (by decide) rfl (fun ls hl => ?_)
                  refine lv_goto (tgt := 9) hx hb de_M_thread_137 (by decide) ?_
                  exact ih_9 _ _ _ _ (by omega) ⟨(i + 1), upd L1 i (T (40 + i)), lv_sub hl [0, 3, 4] rfl, hP, hD, hS, rfl, (by omega), bc_LT_s hJ ⟨fun _ => ⟨htr i hlt hg, (bc_end_J (k := k) (by have := (nI_ltI (a := n) (b := k) (by omega) (by omega)).mp hc_30; omega) (by rw [← hit, bc_tn_t htl hn]; exact ⟨htl, hc_100⟩)).symm⟩, fun z => absurd hg z⟩⟩
                · refine lv_iconst (v := 1) hx hb de_M_thread_103 (by decide) ?_
                  refine lv_goto (tgt := 108) hx hb de_M_thread_104 (by decide) ?_
                  refine lv_istore (lv' := [(4, .int 1), (3, .int (nI t)), (2, .int (nI i)), (1, .int (nI n)), (0, .ref m0)]) hx hb de_M_thread_108 hl (by decide) rfl (fun ls hl => ?_)
                  refine lv_aload_n hx hb de_M_thread_110 rfl (lv_at hl 4 rfl) ?_
                  refine va_get (D := (dC, dI)) (ci := 5) (v := .ref r12) (C := rc_M) (T := fc_M) (N := 19) hx hb htw wi_M hown hK hP 0 rfl rfl 14 (by decide) (htw _ wm_437) (fun _ h9 => h9) rfl de_M_thread_111 ?_
                  refine lv_iload_n hx hb de_M_thread_114 rfl (lv_at hl 2 rfl) ?_
                  refine lv_iload hx hb de_M_thread_115 (lv_at hl 0 rfl) ?_
                  refine lv_if_eq (tgt := 124) hx hb de_M_thread_117 (by decide) (fun hc => absurd hc (by decide)) (fun _ => ?_)
                  refine lv_iload_n hx hb de_M_thread_120 rfl (lv_at hl 1 rfl) ?_
                  refine lv_goto (tgt := 133) hx hb de_M_thread_121 (by decide) ?_
                  refine bc_ist (j := i) hx hb hK hP hD hS 4 0 rfl rfl (by omega) (by decide) de_M_thread_133 (fun H locs hP hD hS => ?_)
                  have hP : va_P (dC, dI) classes [(m0, .inr (5, [.int fa, .ref r1, .ref r2, .ref r3, .ref r4, .ref r5, .int rw, .ref r6, .ref r7, .ref r8, .int gw, .ref r9, .ref r10, .ref r11, .ref r12, .ref r13, .ref r14, .ref r15, .ref r16])), (r1, .inl (cI, 80, .inl K)), (r3, .inl (cI, 80, .inl T)), (r5, .inl (cI, 2, .inl Sz)), (r12, .inl (cI, 40, .inl (upd L1 i (nI t))))] H := hP
                  have hD : va_D A [(m0, .inr (5, [.int fa, .ref r1, .ref r2, .ref r3, .ref r4, .ref r5, .int rw, .ref r6, .ref r7, .ref r8, .int gw, .ref r9, .ref r10, .ref r11, .ref r12, .ref r13, .ref r14, .ref r15, .ref r16])), (r1, .inl (cI, 80, .inl K)), (r3, .inl (cI, 80, .inl T)), (r5, .inl (cI, 2, .inl Sz)), (r12, .inl (cI, 40, .inl (upd L1 i (nI t))))] := hD
                  refine lv_iinc (k := 2) (v := nI (i + 1)) (lv' := [(2, .int (nI (i + 1))), (4, .int 1), (3, .int (nI t)), (1, .int (nI n)), (0, .ref m0)]) hx hb de_M_thread_134 hl rfl (bc_inc _) (by decide) rfl (fun ls hl => ?_)
                  refine lv_goto (tgt := 9) hx hb de_M_thread_137 (by decide) ?_
                  exact ih_9 _ _ _ _ (by omega) ⟨(i + 1), upd L1 i (nI t), lv_sub hl [0, 3, 4] rfl, hP, hD, hS, rfl, (by omega), bc_LT_s hJ ⟨fun _ => ⟨⟨t, ht40, rfl⟩, hit.trans (bc_end_at (by rw [← hit]; rw [bc_tn_t htl hn]; exact fun z => hc_100 z.2))⟩, fun z => absurd hg z⟩⟩
            · subst he_78
              exact absurd hg hv_78
          · have hkn : k ≤ n := by
              by_cases z : k ≤ n
              · exact z
              · exact absurd ((nI_ltI (by omega) (by omega)).mpr (by omega)) hc_30
            refine lv_iload_n hx hb de_M_thread_33 rfl (lv_at hl 1 rfl) ?_
            refine lv_iload_n hx hb de_M_thread_34 rfl (lv_at hl 3 rfl) ?_
            refine lv_icmp_ge (tgt := 76) hx hb de_M_thread_35 (by decide) (fun hc_35 => ?_) (fun hc_35 => ?_)
            · refine lv_aload_n hx hb de_M_thread_76 rfl (lv_at hl 4 rfl) ?_
              refine lv_iload_n hx hb de_M_thread_77 rfl (lv_at hl 2 rfl) ?_
              refine bc_call_v_i (As := [.int (nI i)]) (rest := []) (wr := [(r3, .inl (cI, 80, .inl T)), (r5, .inl (cI, 2, .inl Sz)), (r12, .inl (cI, 40, .inl L1))]) F (co_M_goes (by omega)) wm_542 wm_6 wm_540 wm_541 wm_641 0 rfl rfl pd_M_goes rfl rfl ⟨Nat.le_of_ble_eq_true rfl, Nat.le_of_ble_eq_true rfl⟩ hP hD hS hA [0, 1] [2, 3, 4] rfl rfl rfl rfl (by decide) rfl hl.1 rfl (Nat.le_of_ble_eq_true rfl) de_M_thread_78 ⟨Nat.le_of_ble_eq_true rfl, Nat.le_of_ble_eq_true rfl⟩ (fun r_78 u_78 H locs hw_78 hP hD hS => ?_)
              have hP : va_P (dC, dI) classes [(m0, .inr (5, [.int fa, .ref r1, .ref r2, .ref r3, .ref r4, .ref r5, .int rw, .ref r6, .ref r7, .ref r8, .int gw, .ref r9, .ref r10, .ref r11, .ref r12, .ref r13, .ref r14, .ref r15, .ref r16])), (r1, .inl (cI, 80, .inl K)), (r3, .inl (cI, 80, .inl T)), (r5, .inl (cI, 2, .inl Sz)), (r12, .inl (cI, 40, .inl L1))] H := hP.sub [3, 4, 0, 1, 2] rfl
              have hD : va_D A [(m0, .inr (5, [.int fa, .ref r1, .ref r2, .ref r3, .ref r4, .ref r5, .int rw, .ref r6, .ref r7, .ref r8, .int gw, .ref r9, .ref r10, .ref r11, .ref r12, .ref r13, .ref r14, .ref r15, .ref r16])), (r1, .inl (cI, 80, .inl K)), (r3, .inl (cI, 80, .inl T)), (r5, .inl (cI, 2, .inl Sz)), (r12, .inl (cI, 40, .inl L1))] := hD.sub [3, 4, 0, 1, 2] (by decide) rfl
              rcases hw_78 with ⟨he_78, hv_78⟩ | ⟨he_78, hv_78⟩
              · subst he_78
                refine lv_if_eq (tgt := 103) hx hb de_M_thread_81 (by decide) (fun hc => absurd hc (by decide)) (fun _ => ?_)
                refine lv_iload_n hx hb de_M_thread_84 rfl (lv_at hl 1 rfl) ?_
                refine lv_iload_n hx hb de_M_thread_85 rfl (lv_at hl 3 rfl) ?_
                refine lv_icmp_ge (tgt := 103) hx hb de_M_thread_86 (by decide) (fun _ => ?_) (fun hc => absurd hc_35 hc)
                refine lv_iconst (v := 1) hx hb de_M_thread_103 (by decide) ?_
                refine lv_goto (tgt := 108) hx hb de_M_thread_104 (by decide) ?_
                refine lv_istore (lv' := [(4, .int 1), (3, .int (nI t)), (2, .int (nI i)), (1, .int (nI n)), (0, .ref m0)]) hx hb de_M_thread_108 hl (by decide) rfl (fun ls hl => ?_)
                refine lv_aload_n hx hb de_M_thread_110 rfl (lv_at hl 4 rfl) ?_
                refine va_get (D := (dC, dI)) (ci := 5) (v := .ref r12) (C := rc_M) (T := fc_M) (N := 19) hx hb htw wi_M hown hK hP 0 rfl rfl 14 (by decide) (htw _ wm_437) (fun _ h9 => h9) rfl de_M_thread_111 ?_
                refine lv_iload_n hx hb de_M_thread_114 rfl (lv_at hl 2 rfl) ?_
                refine lv_iload hx hb de_M_thread_115 (lv_at hl 0 rfl) ?_
                refine lv_if_eq (tgt := 124) hx hb de_M_thread_117 (by decide) (fun hc => absurd hc (by decide)) (fun _ => ?_)
                refine lv_iload_n hx hb de_M_thread_120 rfl (lv_at hl 1 rfl) ?_
                refine lv_goto (tgt := 133) hx hb de_M_thread_121 (by decide) ?_
                refine bc_ist (j := i) hx hb hK hP hD hS 4 0 rfl rfl (by omega) (by decide) de_M_thread_133 (fun H locs hP hD hS => ?_)
                have hP : va_P (dC, dI) classes [(m0, .inr (5, [.int fa, .ref r1, .ref r2, .ref r3, .ref r4, .ref r5, .int rw, .ref r6, .ref r7, .ref r8, .int gw, .ref r9, .ref r10, .ref r11, .ref r12, .ref r13, .ref r14, .ref r15, .ref r16])), (r1, .inl (cI, 80, .inl K)), (r3, .inl (cI, 80, .inl T)), (r5, .inl (cI, 2, .inl Sz)), (r12, .inl (cI, 40, .inl (upd L1 i (nI t))))] H := hP
                have hD : va_D A [(m0, .inr (5, [.int fa, .ref r1, .ref r2, .ref r3, .ref r4, .ref r5, .int rw, .ref r6, .ref r7, .ref r8, .int gw, .ref r9, .ref r10, .ref r11, .ref r12, .ref r13, .ref r14, .ref r15, .ref r16])), (r1, .inl (cI, 80, .inl K)), (r3, .inl (cI, 80, .inl T)), (r5, .inl (cI, 2, .inl Sz)), (r12, .inl (cI, 40, .inl (upd L1 i (nI t))))] := hD
                refine lv_iinc (k := 2) (v := nI (i + 1)) (lv' := [(2, .int (nI (i + 1))), (4, .int 1), (3, .int (nI t)), (1, .int (nI n)), (0, .ref m0)]) hx hb de_M_thread_134 hl rfl (bc_inc _) (by decide) rfl (fun ls hl => ?_)
                refine lv_goto (tgt := 9) hx hb de_M_thread_137 (by decide) ?_
                exact ih_9 _ _ _ _ (by omega) ⟨(i + 1), upd L1 i (nI t), lv_sub hl [0, 3, 4] rfl, hP, hD, hS, rfl, (by omega), bc_LT_s hJ ⟨fun _ => ⟨⟨t, ht40, rfl⟩, hit.trans (bc_end_at (by rw [← hit]; exact fun z => absurd z.1 (by have h8 := bc_ge (by omega) (by omega) hc_35; unfold bc_tn; rw [nI_clamp (by omega), if_neg (by omega)]; omega)))⟩, fun z => absurd hg z⟩⟩
              · subst he_78
                exact absurd hg hv_78
            · have htl : t < n := bc_lt (by omega) (by omega) hc_35
              refine lv_aload_n hx hb de_M_thread_38 rfl (lv_at hl 4 rfl) ?_
              refine lv_iload_n hx hb de_M_thread_39 rfl (lv_at hl 2 rfl) ?_
              refine bc_call_v_i (As := [.int (nI i)]) (rest := []) (wr := [(r3, .inl (cI, 80, .inl T)), (r5, .inl (cI, 2, .inl Sz)), (r12, .inl (cI, 40, .inl L1))]) F (co_M_goes (by omega)) wm_542 wm_6 wm_540 wm_541 wm_641 0 rfl rfl pd_M_goes rfl rfl ⟨Nat.le_of_ble_eq_true rfl, Nat.le_of_ble_eq_true rfl⟩ hP hD hS hA [0, 1] [2, 3, 4] rfl rfl rfl rfl (by decide) rfl hl.1 rfl (Nat.le_of_ble_eq_true rfl) de_M_thread_40 ⟨Nat.le_of_ble_eq_true rfl, Nat.le_of_ble_eq_true rfl⟩ (fun r_40 u_40 H locs hw_40 hP hD hS => ?_)
              have hP : va_P (dC, dI) classes [(m0, .inr (5, [.int fa, .ref r1, .ref r2, .ref r3, .ref r4, .ref r5, .int rw, .ref r6, .ref r7, .ref r8, .int gw, .ref r9, .ref r10, .ref r11, .ref r12, .ref r13, .ref r14, .ref r15, .ref r16])), (r1, .inl (cI, 80, .inl K)), (r3, .inl (cI, 80, .inl T)), (r5, .inl (cI, 2, .inl Sz)), (r12, .inl (cI, 40, .inl L1))] H := hP.sub [3, 4, 0, 1, 2] rfl
              have hD : va_D A [(m0, .inr (5, [.int fa, .ref r1, .ref r2, .ref r3, .ref r4, .ref r5, .int rw, .ref r6, .ref r7, .ref r8, .int gw, .ref r9, .ref r10, .ref r11, .ref r12, .ref r13, .ref r14, .ref r15, .ref r16])), (r1, .inl (cI, 80, .inl K)), (r3, .inl (cI, 80, .inl T)), (r5, .inl (cI, 2, .inl Sz)), (r12, .inl (cI, 40, .inl L1))] := hD.sub [3, 4, 0, 1, 2] (by decide) rfl
              rcases hw_40 with ⟨he_40, hv_40⟩ | ⟨he_40, hv_40⟩
              · subst he_40
                refine lv_if_eq (tgt := 76) hx hb de_M_thread_43 (by decide) (fun hc => absurd hc (by decide)) (fun _ => ?_)
                refine lv_aload_n hx hb de_M_thread_46 rfl (lv_at hl 4 rfl) ?_
                refine va_get (D := (dC, dI)) (ci := 5) (v := .ref r1) (C := rc_M) (T := fc_M) (N := 19) hx hb htw wi_M hown hK hP 0 rfl rfl 1 (by decide) (htw _ wm_424) (fun _ h9 => h9) rfl de_M_thread_47 ?_
                refine lv_bipush (v := 40) hx hb de_M_thread_50 (by decide) ?_
                refine lv_iload_n hx hb de_M_thread_52 rfl (lv_at hl 1 rfl) ?_
                refine lv_iadd hx hb de_M_thread_53 ?_
                refine bc_ti (y := nI (40 + t)) (nI_add 40 t) ?_
                refine bc_ild (j := 40 + t) hx hb hK hP 1 0 rfl rfl (by omega) (by decide) de_M_thread_54 ?_
                refine lv_bipush (v := 6) hx hb de_M_thread_55 (by decide) ?_
                refine lv_icmp_ne (tgt := 76) hx hb de_M_thread_57 (by decide) (fun hc_57 => ?_) (fun hc_57 => ?_)
                · refine lv_aload_n hx hb de_M_thread_76 rfl (lv_at hl 4 rfl) ?_
                  refine lv_iload_n hx hb de_M_thread_77 rfl (lv_at hl 2 rfl) ?_
                  refine bc_call_v_i (As := [.int (nI i)]) (rest := []) (wr := [(r3, .inl (cI, 80, .inl T)), (r5, .inl (cI, 2, .inl Sz)), (r12, .inl (cI, 40, .inl L1))]) F (co_M_goes (by omega)) wm_542 wm_6 wm_540 wm_541 wm_641 0 rfl rfl pd_M_goes rfl rfl ⟨Nat.le_of_ble_eq_true rfl, Nat.le_of_ble_eq_true rfl⟩ hP hD hS hA [0, 1] [2, 3, 4] rfl rfl rfl rfl (by decide) rfl hl.1 rfl (Nat.le_of_ble_eq_true rfl) de_M_thread_78 ⟨Nat.le_of_ble_eq_true rfl, Nat.le_of_ble_eq_true rfl⟩ (fun r_78 u_78 H locs hw_78 hP hD hS => ?_)
                  have hP : va_P (dC, dI) classes [(m0, .inr (5, [.int fa, .ref r1, .ref r2, .ref r3, .ref r4, .ref r5, .int rw, .ref r6, .ref r7, .ref r8, .int gw, .ref r9, .ref r10, .ref r11, .ref r12, .ref r13, .ref r14, .ref r15, .ref r16])), (r1, .inl (cI, 80, .inl K)), (r3, .inl (cI, 80, .inl T)), (r5, .inl (cI, 2, .inl Sz)), (r12, .inl (cI, 40, .inl L1))] H := hP.sub [3, 4, 0, 1, 2] rfl
                  have hD : va_D A [(m0, .inr (5, [.int fa, .ref r1, .ref r2, .ref r3, .ref r4, .ref r5, .int rw, .ref r6, .ref r7, .ref r8, .int gw, .ref r9, .ref r10, .ref r11, .ref r12, .ref r13, .ref r14, .ref r15, .ref r16])), (r1, .inl (cI, 80, .inl K)), (r3, .inl (cI, 80, .inl T)), (r5, .inl (cI, 2, .inl Sz)), (r12, .inl (cI, 40, .inl L1))] := hD.sub [3, 4, 0, 1, 2] (by decide) rfl
                  rcases hw_78 with ⟨he_78, hv_78⟩ | ⟨he_78, hv_78⟩
                  · subst he_78
                    refine lv_if_eq (tgt := 103) hx hb de_M_thread_81 (by decide) (fun hc => absurd hc (by decide)) (fun _ => ?_)
                    refine lv_iload_n hx hb de_M_thread_84 rfl (lv_at hl 1 rfl) ?_
                    refine lv_iload_n hx hb de_M_thread_85 rfl (lv_at hl 3 rfl) ?_
                    refine lv_icmp_ge (tgt := 103) hx hb de_M_thread_86 (by decide) (fun hc => absurd hc hc_35) (fun _ => ?_)
                    refine lv_aload_n hx hb de_M_thread_89 rfl (lv_at hl 4 rfl) ?_
                    refine va_get (D := (dC, dI)) (ci := 5) (v := .ref r1) (C := rc_M) (T := fc_M) (N := 19) hx hb htw wi_M hown hK hP 0 rfl rfl 1 (by decide) (htw _ wm_424) (fun _ h9 => h9) rfl de_M_thread_90 ?_
                    refine lv_bipush (v := 40) hx hb de_M_thread_93 (by decide) ?_
                    refine lv_iload_n hx hb de_M_thread_95 rfl (lv_at hl 1 rfl) ?_
                    refine lv_iadd hx hb de_M_thread_96 ?_
                    refine bc_ti (y := nI (40 + t)) (nI_add 40 t) ?_
                    refine bc_ild (j := 40 + t) hx hb hK hP 1 0 rfl rfl (by omega) (by decide) de_M_thread_97 ?_
                    refine lv_bipush (v := 6) hx hb de_M_thread_98 (by decide) ?_
                    refine lv_icmp_eq (tgt := 107) hx hb de_M_thread_100 (by decide) (fun hc => absurd hc hc_57) (fun _ => ?_)
                    refine lv_iconst (v := 1) hx hb de_M_thread_103 (by decide) ?_
                    refine lv_goto (tgt := 108) hx hb de_M_thread_104 (by decide) ?_
                    refine lv_istore (lv' := [(4, .int 1), (3, .int (nI t)), (2, .int (nI i)), (1, .int (nI n)), (0, .ref m0)]) hx hb de_M_thread_108 hl (by decide) rfl (fun ls hl => ?_)
                    refine lv_aload_n hx hb de_M_thread_110 rfl (lv_at hl 4 rfl) ?_
                    refine va_get (D := (dC, dI)) (ci := 5) (v := .ref r12) (C := rc_M) (T := fc_M) (N := 19) hx hb htw wi_M hown hK hP 0 rfl rfl 14 (by decide) (htw _ wm_437) (fun _ h9 => h9) rfl de_M_thread_111 ?_
                    refine lv_iload_n hx hb de_M_thread_114 rfl (lv_at hl 2 rfl) ?_
                    refine lv_iload hx hb de_M_thread_115 (lv_at hl 0 rfl) ?_
                    refine lv_if_eq (tgt := 124) hx hb de_M_thread_117 (by decide) (fun hc => absurd hc (by decide)) (fun _ => ?_)
                    refine lv_iload_n hx hb de_M_thread_120 rfl (lv_at hl 1 rfl) ?_
                    refine lv_goto (tgt := 133) hx hb de_M_thread_121 (by decide) ?_
                    refine bc_ist (j := i) hx hb hK hP hD hS 4 0 rfl rfl (by omega) (by decide) de_M_thread_133 (fun H locs hP hD hS => ?_)
                    have hP : va_P (dC, dI) classes [(m0, .inr (5, [.int fa, .ref r1, .ref r2, .ref r3, .ref r4, .ref r5, .int rw, .ref r6, .ref r7, .ref r8, .int gw, .ref r9, .ref r10, .ref r11, .ref r12, .ref r13, .ref r14, .ref r15, .ref r16])), (r1, .inl (cI, 80, .inl K)), (r3, .inl (cI, 80, .inl T)), (r5, .inl (cI, 2, .inl Sz)), (r12, .inl (cI, 40, .inl (upd L1 i (nI t))))] H := hP
                    have hD : va_D A [(m0, .inr (5, [.int fa, .ref r1, .ref r2, .ref r3, .ref r4, .ref r5, .int rw, .ref r6, .ref r7, .ref r8, .int gw, .ref r9, .ref r10, .ref r11, .ref r12, .ref r13, .ref r14, .ref r15, .ref r16])), (r1, .inl (cI, 80, .inl K)), (r3, .inl (cI, 80, .inl T)), (r5, .inl (cI, 2, .inl Sz)), (r12, .inl (cI, 40, .inl (upd L1 i (nI t))))] := hD
                    refine lv_iinc (k := 2) (v := nI (i + 1)) (lv' := [(2, .int (nI (i + 1))), (4, .int 1), (3, .int (nI t)), (1, .int (nI n)), (0, .ref m0)]) hx hb de_M_thread_134 hl rfl (bc_inc _) (by decide) rfl (fun ls hl => ?_)
                    refine lv_goto (tgt := 9) hx hb de_M_thread_137 (by decide) ?_
                    exact ih_9 _ _ _ _ (by omega) ⟨(i + 1), upd L1 i (nI t), lv_sub hl [0, 3, 4] rfl, hP, hD, hS, rfl, (by omega), bc_LT_s hJ ⟨fun _ => ⟨⟨t, ht40, rfl⟩, hit.trans (bc_end_at (by rw [← hit]; rw [bc_tn_t htl hn]; exact fun z => hc_57 z.2))⟩, fun z => absurd hg z⟩⟩
                  · subst he_78
                    exact absurd hg hv_78
                · refine lv_aload_n hx hb de_M_thread_60 rfl (lv_at hl 4 rfl) ?_
                  refine va_get (D := (dC, dI)) (ci := 5) (v := .ref r3) (C := rc_M) (T := fc_M) (N := 19) hx hb htw wi_M hown hK hP 0 rfl rfl 3 (by decide) (htw _ wm_426) (fun _ h9 => h9) rfl de_M_thread_61 ?_
                  refine lv_bipush (v := 40) hx hb de_M_thread_64 (by decide) ?_
                  refine lv_iload_n hx hb de_M_thread_66 rfl (lv_at hl 1 rfl) ?_
                  refine lv_iadd hx hb de_M_thread_67 ?_
                  refine bc_ti (y := nI (40 + t)) (nI_add 40 t) ?_
                  refine bc_ild (j := 40 + t) hx hb hK hP 2 0 rfl rfl (by omega) (by decide) de_M_thread_68 ?_
                  obtain ⟨t9, ht9, eT9⟩ := htr t htl (Or.inl hc_57)
                  refine bc_ti (y := nI t9) eT9 ?_
                  refine lv_istore_n (lv' := [(3, .int (nI t9)), (4, .int (nI k)), (2, .int (nI i)), (1, .int (nI n)), (0, .ref m0)]) hx hb de_M_thread_69 rfl hl (by decide) rfl (fun ls hl => ?_)
                  refine lv_iinc (k := 1) (v := nI (k + 1)) (lv' := [(4, .int (nI (k + 1))), (3, .int (nI t9)), (2, .int (nI i)), (1, .int (nI n)), (0, .ref m0)]) hx hb de_M_thread_70 hl rfl (bc_inc _) (by decide) rfl (fun ls hl => ?_)
                  refine lv_goto (tgt := 27) hx hb de_M_thread_73 (by decide) ?_
                  exact ih_27 _ _ _ _ (by omega) ⟨(k + 1), t9, lv_sub hl [0, 1, 2, 3, 4] rfl, hP, hD, hS, rfl, (by omega), (by omega), by rw [← eT9, bc_it_s, ← hit, bc_tn_t htl hn]; exact (bc_hop_go (q := (fun j => bc_tn n (T (40 + j)))) (show bc_J n (fun j => K (40 + j)) t from ⟨htl, hc_57⟩)).symm, lt_s hJk (by rw [← hit, bc_tn_t htl hn]; exact ⟨htl, hc_57⟩)⟩
              · subst he_40
                exact absurd hg hv_40
        · exact ⟨_, 0, t0, lv_sub hl [0, 1, 2, 3, 4] rfl, hP, hD, hS, rfl, Nat.zero_le _, ht0, by rw [← eT]; rfl, fun m hm => absurd hm (Nat.not_lt_zero m)⟩
      · refine lv_iconst (v := 0) hx hb de_M_thread_24 (by decide) ?_
        refine bc_ti (y := nI 0) nI_0.symm ?_
        refine lv_istore (lv' := [(4, .int (nI 0)), (3, .int (T (40 + i))), (2, .int (nI i)), (1, .int (nI n)), (0, .ref m0)]) hx hb de_M_thread_25 hl (by decide) rfl (fun ls hl => ?_)
        refine lv_iload hx hb de_M_thread_27 (lv_at hl 0 rfl) ?_
        refine lv_iload_n hx hb de_M_thread_29 rfl (lv_at hl 3 rfl) ?_
        refine lv_icmp_gt (tgt := 76) hx hb de_M_thread_30 (by decide) (fun hc => absurd hc (nI_nlt (Nat.zero_le _) (by omega))) (fun _ => ?_)
        refine lv_iload_n hx hb de_M_thread_33 rfl (lv_at hl 1 rfl) ?_
        refine lv_iload_n hx hb de_M_thread_34 rfl (lv_at hl 3 rfl) ?_
        refine lv_icmp_ge (tgt := 76) hx hb de_M_thread_35 (by decide) (fun hc_35 => ?_) (fun hc_35 => ?_)
        · refine lv_aload_n hx hb de_M_thread_76 rfl (lv_at hl 4 rfl) ?_
          refine lv_iload_n hx hb de_M_thread_77 rfl (lv_at hl 2 rfl) ?_
          refine bc_call_v_i (As := [.int (nI i)]) (rest := []) (wr := [(r3, .inl (cI, 80, .inl T)), (r5, .inl (cI, 2, .inl Sz)), (r12, .inl (cI, 40, .inl L1))]) F (co_M_goes (by omega)) wm_542 wm_6 wm_540 wm_541 wm_641 0 rfl rfl pd_M_goes rfl rfl ⟨Nat.le_of_ble_eq_true rfl, Nat.le_of_ble_eq_true rfl⟩ hP hD hS hA [0, 1] [2, 3, 4] rfl rfl rfl rfl (by decide) rfl hl.1 rfl (Nat.le_of_ble_eq_true rfl) de_M_thread_78 ⟨Nat.le_of_ble_eq_true rfl, Nat.le_of_ble_eq_true rfl⟩ (fun r_78 u_78 H locs hw_78 hP hD hS => ?_)
          have hP : va_P (dC, dI) classes [(m0, .inr (5, [.int fa, .ref r1, .ref r2, .ref r3, .ref r4, .ref r5, .int rw, .ref r6, .ref r7, .ref r8, .int gw, .ref r9, .ref r10, .ref r11, .ref r12, .ref r13, .ref r14, .ref r15, .ref r16])), (r1, .inl (cI, 80, .inl K)), (r3, .inl (cI, 80, .inl T)), (r5, .inl (cI, 2, .inl Sz)), (r12, .inl (cI, 40, .inl L1))] H := hP.sub [3, 4, 0, 1, 2] rfl
          have hD : va_D A [(m0, .inr (5, [.int fa, .ref r1, .ref r2, .ref r3, .ref r4, .ref r5, .int rw, .ref r6, .ref r7, .ref r8, .int gw, .ref r9, .ref r10, .ref r11, .ref r12, .ref r13, .ref r14, .ref r15, .ref r16])), (r1, .inl (cI, 80, .inl K)), (r3, .inl (cI, 80, .inl T)), (r5, .inl (cI, 2, .inl Sz)), (r12, .inl (cI, 40, .inl L1))] := hD.sub [3, 4, 0, 1, 2] (by decide) rfl
          rcases hw_78 with ⟨he_78, hv_78⟩ | ⟨he_78, hv_78⟩
          · subst he_78
            exact absurd hv_78 hg
          · subst he_78
            refine lv_if_eq (tgt := 103) hx hb de_M_thread_81 (by decide) (fun _ => ?_) (fun hc => absurd (by decide) hc)
            refine lv_iconst (v := 1) hx hb de_M_thread_103 (by decide) ?_
            refine lv_goto (tgt := 108) hx hb de_M_thread_104 (by decide) ?_
            refine lv_istore (lv' := [(4, .int 1), (3, .int (T (40 + i))), (2, .int (nI i)), (1, .int (nI n)), (0, .ref m0)]) hx hb de_M_thread_108 hl (by decide) rfl (fun ls hl => ?_)
            refine lv_aload_n hx hb de_M_thread_110 rfl (lv_at hl 4 rfl) ?_
            refine va_get (D := (dC, dI)) (ci := 5) (v := .ref r12) (C := rc_M) (T := fc_M) (N := 19) hx hb htw wi_M hown hK hP 0 rfl rfl 14 (by decide) (htw _ wm_437) (fun _ h9 => h9) rfl de_M_thread_111 ?_
            refine lv_iload_n hx hb de_M_thread_114 rfl (lv_at hl 2 rfl) ?_
            refine lv_iload hx hb de_M_thread_115 (lv_at hl 0 rfl) ?_
            refine lv_if_eq (tgt := 124) hx hb de_M_thread_117 (by decide) (fun hc => absurd hc (by decide)) (fun _ => ?_)
            refine lv_iload_n hx hb de_M_thread_120 rfl (lv_at hl 1 rfl) ?_
            refine lv_goto (tgt := 133) hx hb de_M_thread_121 (by decide) ?_
            refine bc_ist (j := i) hx hb hK hP hD hS 4 0 rfl rfl (by omega) (by decide) de_M_thread_133 (fun H locs hP hD hS => ?_)
            have hP : va_P (dC, dI) classes [(m0, .inr (5, [.int fa, .ref r1, .ref r2, .ref r3, .ref r4, .ref r5, .int rw, .ref r6, .ref r7, .ref r8, .int gw, .ref r9, .ref r10, .ref r11, .ref r12, .ref r13, .ref r14, .ref r15, .ref r16])), (r1, .inl (cI, 80, .inl K)), (r3, .inl (cI, 80, .inl T)), (r5, .inl (cI, 2, .inl Sz)), (r12, .inl (cI, 40, .inl (upd L1 i (T (40 + i)))))] H := hP
            have hD : va_D A [(m0, .inr (5, [.int fa, .ref r1, .ref r2, .ref r3, .ref r4, .ref r5, .int rw, .ref r6, .ref r7, .ref r8, .int gw, .ref r9, .ref r10, .ref r11, .ref r12, .ref r13, .ref r14, .ref r15, .ref r16])), (r1, .inl (cI, 80, .inl K)), (r3, .inl (cI, 80, .inl T)), (r5, .inl (cI, 2, .inl Sz)), (r12, .inl (cI, 40, .inl (upd L1 i (T (40 + i)))))] := hD
            refine lv_iinc (k := 2) (v := nI (i + 1)) (lv' := [(2, .int (nI (i + 1))), (4, .int 1), (3, .int (T (40 + i))), (1, .int (nI n)), (0, .ref m0)]) hx hb de_M_thread_134 hl rfl (bc_inc _) (by decide) rfl (fun ls hl => ?_)
            refine lv_goto (tgt := 9) hx hb de_M_thread_137 (by decide) ?_
            exact ih_9 _ _ _ _ (by omega) ⟨(i + 1), upd L1 i (T (40 + i)), lv_sub hl [0, 3, 4] rfl, hP, hD, hS, rfl, (by omega), bc_LT_s hJ ⟨fun z => absurd z hg, fun _ => rfl⟩⟩
        · refine lv_aload_n hx hb de_M_thread_38 rfl (lv_at hl 4 rfl) ?_
          refine lv_iload_n hx hb de_M_thread_39 rfl (lv_at hl 2 rfl) ?_
          refine bc_call_v_i (As := [.int (nI i)]) (rest := []) (wr := [(r3, .inl (cI, 80, .inl T)), (r5, .inl (cI, 2, .inl Sz)), (r12, .inl (cI, 40, .inl L1))]) F (co_M_goes (by omega)) wm_542 wm_6 wm_540 wm_541 wm_641 0 rfl rfl pd_M_goes rfl rfl ⟨Nat.le_of_ble_eq_true rfl, Nat.le_of_ble_eq_true rfl⟩ hP hD hS hA [0, 1] [2, 3, 4] rfl rfl rfl rfl (by decide) rfl hl.1 rfl (Nat.le_of_ble_eq_true rfl) de_M_thread_40 ⟨Nat.le_of_ble_eq_true rfl, Nat.le_of_ble_eq_true rfl⟩ (fun r_40 u_40 H locs hw_40 hP hD hS => ?_)
          have hP : va_P (dC, dI) classes [(m0, .inr (5, [.int fa, .ref r1, .ref r2, .ref r3, .ref r4, .ref r5, .int rw, .ref r6, .ref r7, .ref r8, .int gw, .ref r9, .ref r10, .ref r11, .ref r12, .ref r13, .ref r14, .ref r15, .ref r16])), (r1, .inl (cI, 80, .inl K)), (r3, .inl (cI, 80, .inl T)), (r5, .inl (cI, 2, .inl Sz)), (r12, .inl (cI, 40, .inl L1))] H := hP.sub [3, 4, 0, 1, 2] rfl
          have hD : va_D A [(m0, .inr (5, [.int fa, .ref r1, .ref r2, .ref r3, .ref r4, .ref r5, .int rw, .ref r6, .ref r7, .ref r8, .int gw, .ref r9, .ref r10, .ref r11, .ref r12, .ref r13, .ref r14, .ref r15, .ref r16])), (r1, .inl (cI, 80, .inl K)), (r3, .inl (cI, 80, .inl T)), (r5, .inl (cI, 2, .inl Sz)), (r12, .inl (cI, 40, .inl L1))] := hD.sub [3, 4, 0, 1, 2] (by decide) rfl
          rcases hw_40 with ⟨he_40, hv_40⟩ | ⟨he_40, hv_40⟩
          · subst he_40
            exact absurd hv_40 hg
          · subst he_40
            refine lv_if_eq (tgt := 76) hx hb de_M_thread_43 (by decide) (fun _ => ?_) (fun hc => absurd (by decide) hc)
            refine lv_aload_n hx hb de_M_thread_76 rfl (lv_at hl 4 rfl) ?_
            refine lv_iload_n hx hb de_M_thread_77 rfl (lv_at hl 2 rfl) ?_
            refine bc_call_v_i (As := [.int (nI i)]) (rest := []) (wr := [(r3, .inl (cI, 80, .inl T)), (r5, .inl (cI, 2, .inl Sz)), (r12, .inl (cI, 40, .inl L1))]) F (co_M_goes (by omega)) wm_542 wm_6 wm_540 wm_541 wm_641 0 rfl rfl pd_M_goes rfl rfl ⟨Nat.le_of_ble_eq_true rfl, Nat.le_of_ble_eq_true rfl⟩ hP hD hS hA [0, 1] [2, 3, 4] rfl rfl rfl rfl (by decide) rfl hl.1 rfl (Nat.le_of_ble_eq_true rfl) de_M_thread_78 ⟨Nat.le_of_ble_eq_true rfl, Nat.le_of_ble_eq_true rfl⟩ (fun r_78 u_78 H locs hw_78 hP hD hS => ?_)
            have hP : va_P (dC, dI) classes [(m0, .inr (5, [.int fa, .ref r1, .ref r2, .ref r3, .ref r4, .ref r5, .int rw, .ref r6, .ref r7, .ref r8, .int gw, .ref r9, .ref r10, .ref r11, .ref r12, .ref r13, .ref r14, .ref r15, .ref r16])), (r1, .inl (cI, 80, .inl K)), (r3, .inl (cI, 80, .inl T)), (r5, .inl (cI, 2, .inl Sz)), (r12, .inl (cI, 40, .inl L1))] H := hP.sub [3, 4, 0, 1, 2] rfl
            have hD : va_D A [(m0, .inr (5, [.int fa, .ref r1, .ref r2, .ref r3, .ref r4, .ref r5, .int rw, .ref r6, .ref r7, .ref r8, .int gw, .ref r9, .ref r10, .ref r11, .ref r12, .ref r13, .ref r14, .ref r15, .ref r16])), (r1, .inl (cI, 80, .inl K)), (r3, .inl (cI, 80, .inl T)), (r5, .inl (cI, 2, .inl Sz)), (r12, .inl (cI, 40, .inl L1))] := hD.sub [3, 4, 0, 1, 2] (by decide) rfl
            rcases hw_78 with ⟨he_78, hv_78⟩ | ⟨he_78, hv_78⟩
            · subst he_78
              exact absurd hv_78 hg
            · subst he_78
              refine lv_if_eq (tgt := 103) hx hb de_M_thread_81 (by decide) (fun _ => ?_) (fun hc => absurd (by decide) hc)
              refine lv_iconst (v := 1) hx hb de_M_thread_103 (by decide) ?_
              refine lv_goto (tgt := 108) hx hb de_M_thread_104 (by decide) ?_
              refine lv_istore (lv' := [(4, .int 1), (3, .int (T (40 + i))), (2, .int (nI i)), (1, .int (nI n)), (0, .ref m0)]) hx hb de_M_thread_108 hl (by decide) rfl (fun ls hl => ?_)
              refine lv_aload_n hx hb de_M_thread_110 rfl (lv_at hl 4 rfl) ?_
              refine va_get (D := (dC, dI)) (ci := 5) (v := .ref r12) (C := rc_M) (T := fc_M) (N := 19) hx hb htw wi_M hown hK hP 0 rfl rfl 14 (by decide) (htw _ wm_437) (fun _ h9 => h9) rfl de_M_thread_111 ?_
              refine lv_iload_n hx hb de_M_thread_114 rfl (lv_at hl 2 rfl) ?_
              refine lv_iload hx hb de_M_thread_115 (lv_at hl 0 rfl) ?_
              refine lv_if_eq (tgt := 124) hx hb de_M_thread_117 (by decide) (fun hc => absurd hc (by decide)) (fun _ => ?_)
              refine lv_iload_n hx hb de_M_thread_120 rfl (lv_at hl 1 rfl) ?_
              refine lv_goto (tgt := 133) hx hb de_M_thread_121 (by decide) ?_
              refine bc_ist (j := i) hx hb hK hP hD hS 4 0 rfl rfl (by omega) (by decide) de_M_thread_133 (fun H locs hP hD hS => ?_)
              have hP : va_P (dC, dI) classes [(m0, .inr (5, [.int fa, .ref r1, .ref r2, .ref r3, .ref r4, .ref r5, .int rw, .ref r6, .ref r7, .ref r8, .int gw, .ref r9, .ref r10, .ref r11, .ref r12, .ref r13, .ref r14, .ref r15, .ref r16])), (r1, .inl (cI, 80, .inl K)), (r3, .inl (cI, 80, .inl T)), (r5, .inl (cI, 2, .inl Sz)), (r12, .inl (cI, 40, .inl (upd L1 i (T (40 + i)))))] H := hP
              have hD : va_D A [(m0, .inr (5, [.int fa, .ref r1, .ref r2, .ref r3, .ref r4, .ref r5, .int rw, .ref r6, .ref r7, .ref r8, .int gw, .ref r9, .ref r10, .ref r11, .ref r12, .ref r13, .ref r14, .ref r15, .ref r16])), (r1, .inl (cI, 80, .inl K)), (r3, .inl (cI, 80, .inl T)), (r5, .inl (cI, 2, .inl Sz)), (r12, .inl (cI, 40, .inl (upd L1 i (T (40 + i)))))] := hD
              refine lv_iinc (k := 2) (v := nI (i + 1)) (lv' := [(2, .int (nI (i + 1))), (4, .int 1), (3, .int (T (40 + i))), (1, .int (nI n)), (0, .ref m0)]) hx hb de_M_thread_134 hl rfl (bc_inc _) (by decide) rfl (fun ls hl => ?_)
              refine lv_goto (tgt := 9) hx hb de_M_thread_137 (by decide) ?_
              exact ih_9 _ _ _ _ (by omega) ⟨(i + 1), upd L1 i (T (40 + i)), lv_sub hl [0, 3, 4] rfl, hP, hD, hS, rfl, (by omega), bc_LT_s hJ ⟨fun z => absurd z hg, fun _ => rfl⟩⟩
  · exact ⟨_, 0, Ld, lv_sub hl [0, 1, 2] rfl, hP, hD, hS, rfl, Nat.zero_le _, fun j hj => absurd hj (Nat.not_lt_zero j)⟩

