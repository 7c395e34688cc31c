/-! the reference: run (by program: wip/whole/gen/modM13.py) -/
def bc_mx (x : Int32) : Prop := ∃ k : Nat, k ≤ 10000 ∧ x = nI k
theorem bc_mx_of {x : Int32} (h0 : ¬ x < 0) (h : x ≤ 10000) : bc_mx x := by
  obtain ⟨k, hk, rfl⟩ := nI_of h0
  exact ⟨k, bc_ge (a := 10000) (b := k) hk (by omega) h, rfl⟩
theorem bc_mx_0 {x : Int32} (h : x < 0) : ¬ bc_mx x := by
  rintro ⟨k, hk, rfl⟩
  exact nI_pos (by omega) h
theorem bc_mx_1 {x : Int32} (h : ¬ x ≤ 10000) : ¬ bc_mx x := by
  rintro ⟨k, hk, rfl⟩
  exact h ((nI_leI (a := k) (b := 10000) (by omega) (by omega)).mpr hk)
theorem bc_ok_j {n : Nat} {p : Int32} (h : bc_ok n p) (h0 : ¬ p < 0) : ∃ j : Nat, j < n ∧ p = nI j := by
  rcases h with e | h
  · rw [e] at h0; exact absurd (by decide) h0
  · exact h
theorem bc_ok_1 {n : Nat} {p : Int32} (hn : n < 2 ^ 31) (h : bc_ok n p) (h0 : p < 0) : p = -1 := by
  rcases h with e | ⟨j, hj, e⟩
  · exact e
  · rw [e] at h0; exact absurd h0 (nI_pos (by omega))
def bc_RN (n n2 : Nat) (P Q X : Nat → bc_F) (PL : bc_F) (y k : Nat) : (bc_F × Int32) × Nat := bc_rn (bc_nn n n2 y) (bc_PQ P Q y 1) (bc_PQ P Q y 2) (bc_PQ P Q y 3) (bc_PQ P Q y 4) k (X y, PL y)
def bc_rI (nn : Nat) (R : Nat → bc_F) (F : (bc_F × Int32) × Nat) (y k d : Nat) (Pl Sp Vr Pl1 Sp1 Vr1 x1 : bc_F) : Prop :=
  bc_ok nn (Pl1 y) ∧ bc_vs y Vr x1 Vr1 ∧ (∀ w, w ≠ y → Pl1 w = Pl w ∧ Sp1 w = Sp w) ∧ Sp1 y = Sp y + nI d ∧ (bc_rn nn (R 1) (R 2) (R 3) (R 4) (k - d) (x1, Pl1 y)).1 = F.1 ∧ (bc_rn nn (R 1) (R 2) (R 3) (R 4) (k - d) (x1, Pl1 y)).2 + d = F.2
theorem bc_sp1 (a : Int32) (d : Nat) : a + nI d + 1 = a + nI (d + 1) := by
  rw [← nI_1, Int32.add_assoc]
theorem bc_rI_s {nn y k d j : Nat} {R : Nat → bc_F} {F : (bc_F × Int32) × Nat} {Pl Sp Vr Pl1 Sp1 Vr1 x1 Pl2 Sp2 Vr2 K O T Z : bc_F} (hnn : nn ≤ 40) (hd : d < k) (hj : j < nn) (hp : Pl1 y = nI j) (hq : bc_rq nn R K O T Z) (hw : bc_wf nn (R 1) (R 2) (R 3) (R 4)) (h : bc_rI nn R F y k d Pl Sp Vr Pl1 Sp1 Vr1 x1)
    (h1 : Pl2 = upd Pl1 y (bc_st nn K O T Z j (fun v => Vr1 (6 * y + v))).2) (h2 : Sp2 = upd Sp1 y (Sp1 y + 1)) (h3 : bc_vs y Vr1 (bc_st nn K O T Z j (fun v => Vr1 (6 * y + v))).1 Vr2) : bc_rI nn R F y k (d + 1) Pl Sp Vr Pl2 Sp2 Vr2 (bc_st nn (R 1) (R 2) (R 3) (R 4) j x1).1 := by
  obtain ⟨a1, a2, a3, a4, a5, a6⟩ := h
  obtain ⟨q1, q2, q3, q4⟩ := hq j hj
  have hc := bc_st_cg (n := nn) (K := R 1) (O := R 2) (T := R 3) (H := R 4) (K' := K) (O' := O) (T' := T) (H' := Z) (i := j) (x := x1) (y := fun v => Vr1 (6 * y + v)) q1 q2 q3 q4 (hw j hj) (fun v hv => (a2.1 v hv).symm)
  have hne : ¬ Pl1 y = -1 := by
    intro z
    rw [hp] at z
    have := nI_pos (n := j) (by omega)
    rw [z] at this
    exact this (by decide)
  have hgo := bc_rn_go (n := nn) (K := R 1) (O := R 2) (T := R 3) (Z := R 4) (X := x1) (k := k - (d + 1)) hne hp (by omega)
  rw [show k - (d + 1) + 1 = k - d by omega] at hgo
  have e2 : Pl2 y = (bc_st nn (R 1) (R 2) (R 3) (R 4) j x1).2 := by rw [h1, pk_us]; exact hc.2.symm
  refine ⟨by rw [e2]; exact bc_st_ok _ _ _ _ _ _ _, ⟨fun v hv => (h3.1 v hv).trans (hc.1 v hv).symm, fun q hq => (h3.2 q hq).trans (a2.2 q hq)⟩, fun w hw' => ?_, ?_, ?_, ?_⟩
  · rw [h1, h2, pk_un hw', pk_un hw']; exact a3 w hw'
  · rw [h2, pk_us, a4]; exact bc_sp1 _ _
  · rw [e2, ← a5, hgo]
  · rw [e2, ← a6, hgo]; exact bc_ad _ _
theorem bc_MR_run {n n2 : Nat} {P Q X : Nat → bc_F} {ra : Int32} {ON PL SP K O T Z Sz On Pl Sp Vr Pl1 Sp1 Vr1 x1 : bc_F} {rw : Int32} {y k d : Nat} (hR : bc_MR n P ra n2 Q ON PL SP X K O T Z Sz On Pl Sp Vr rw) (hy : y < 2) (hon : ON y ≠ 0)
    (h : bc_rI (bc_nn n n2 y) (bc_PQ P Q y) (bc_RN n n2 P Q X PL y k) y k d Pl Sp Vr Pl1 Sp1 Vr1 x1) (hend : bc_rn (bc_nn n n2 y) (bc_PQ P Q y 1) (bc_PQ P Q y 2) (bc_PQ P Q y 3) (bc_PQ P Q y 4) (k - d) (x1, Pl1 y) = ((x1, Pl1 y), 0)) :
    nI d = nI (bc_RN n n2 P Q X PL y k).2 ∧ bc_MR n P ra n2 Q ON (upd PL y (bc_RN n n2 P Q X PL y k).1.2) (upd SP y (SP y + nI (bc_RN n n2 P Q X PL y k).2)) (fun w => if w = y then (bc_RN n n2 P Q X PL y k).1.1 else X w) K O T Z Sz On Pl1 Sp1 Vr1 rw := by
  obtain ⟨a1, a2, a3, a4, a5, a6⟩ := h
  rw [hend] at a5 a6
  have a6 : d = (bc_RN n n2 P Q X PL y k).2 := by
    have := a6
    simpa using this
  refine ⟨congrArg nI a6, hR.1, hR.2.1, hR.2.2.1, hR.2.2.2.1, fun w hw => ?_⟩
  by_cases e : w = y
  · subst e
    refine ⟨(hR.2.2.2.2 w hw).1, fun _ => ⟨?_, ?_, fun v hv => ?_⟩⟩
    · rw [pk_us, ← a5]
    · rw [pk_us, a4, ((hR.2.2.2.2 w hw).2 hon).2.1, ← a6]
    · show _ = (if w = w then (bc_RN n n2 P Q X PL w k).1.1 else X w) v
      rw [if_pos rfl, ← a5]; exact a2.1 v hv
  · refine ⟨(hR.2.2.2.2 w hw).1, fun z => ⟨?_, ?_, fun v hv => ?_⟩⟩
    · rw [pk_un e, (a3 w e).1]; exact ((hR.2.2.2.2 w hw).2 z).1
    · rw [pk_un e, (a3 w e).2]; exact ((hR.2.2.2.2 w hw).2 z).2.1
    · show _ = (if w = y then (bc_RN n n2 P Q X PL y k).1.1 else X w) v
      rw [if_neg e, a2.2 _ (by omega)]; exact ((hR.2.2.2.2 w hw).2 z).2.2 v hv
theorem bc_rI_0 {n n2 y k : Nat} {P Q X : Nat → bc_F} {PL Pl Sp Vr : bc_F} (hok : bc_ok (bc_nn n n2 y) (PL y)) (hp : Pl y = PL y) (hv : ∀ v, v < 6 → Vr (6 * y + v) = X y v) : bc_rI (bc_nn n n2 y) (bc_PQ P Q y) (bc_RN n n2 P Q X PL y k) y k 0 Pl Sp Vr Pl Sp Vr (X y) := by
  refine ⟨by rw [hp]; exact hok, ⟨hv, fun _ _ => rfl⟩, fun _ _ => ⟨rfl, rfl⟩, ?_, ?_, ?_⟩
  · rw [nI_0, Int32.add_zero]
  · rw [hp]; rfl
  · rw [hp]; rfl
theorem bc_AB_y {n n2 : Nat} {P Q : Nat → bc_F} {ra : Int32} {ON PL SP : bc_F} (hAB : bc_AB n P ra n2 Q ON PL SP) {y : Nat} (hy : y < 2) (hon : ON y ≠ 0) : (y = 1 → ra ≠ 0) ∧ bc_ok (bc_nn n n2 y) (PL y) := by
  have h : y = 0 ∨ y = 1 := by omega
  rcases h with e | e
  · subst e; exact ⟨fun z => absurd z (by decide), hAB.2.2.2.2.2.1 hon⟩
  · subst e; exact ⟨fun _ => (hAB.2.2.2.2.2.2 hon).1, (hAB.2.2.2.2.2.2 hon).2⟩
set_option maxHeartbeats 4000000 in
set_option maxRecDepth 100000 in
/-- run -/
theorem co_M_run {l : Launch} {dC : Nat → ClassId} {dI : Nat → Nat → Nat} {cI cZ : ClassId} {sz : Nat} {m0 r1 r2 r3 r4 r5 r6 r7 r8 r9 r10 r11 r12 r13 r14 r15 r16 : Nat} {K O T Z Sz On Pl Sp Vr : bc_F} {fa rw gw : Int32} {n n2 : Nat} {P Q X : Nat → bc_F} {ON PL SP : bc_F} {ra : Int32} (hAB : bc_AB n P ra n2 Q ON PL SP) (hR : bc_MR n P ra n2 Q ON PL SP X K O T Z Sz On Pl Sp Vr rw) {x mm : Int32} : Met l yn_M_run (Cond.code yn_M_run by_M_run 4 (some FieldType.int) :: wd_all) ({ frames := 2, cells := 0, slots := 0, locals := 46 } : Room) (bc_Pre (dC, dI) classes [(cI, .int), (cZ, .boolean)] [.ref m0, .int x, .int mm] [(m0, .inr (5, [.int fa, .ref r1, .ref r2, .ref r3, .ref r4, .ref r5, .int rw, .ref r6, .ref r7, .ref r8, .int gw, .ref r9, .ref r10, .ref r11, .ref r12, .ref r13, .ref r14, .ref r15, .ref r16])), (r1, .inl (cI, 80, .inl K)), (r2, .inl (cI, 80, .inl O)), (r3, .inl (cI, 80, .inl T)), (r4, .inl (cI, 80, .inl Z)), (r5, .inl (cI, 2, .inl Sz)), (r13, .inl (cZ, 2, .inl On)), (r14, .inl (cI, 2, .inl Pl)), (r15, .inl (cI, 2, .inl Sp)), (r16, .inl (cI, 12, .inl Vr))] sz) (va_Qi (fun (r : Int32) (u : Int32 × bc_F × bc_F × bc_F) => (¬ bc_sd x ∧ u.1 = 1 ∧ bc_MR n P ra n2 Q ON PL SP X K O T Z Sz On u.2.1 u.2.2.1 u.2.2.2 rw) ∨ (bc_sd x ∧ ¬ bc_mx mm ∧ u.1 = 2 ∧ bc_MR n P ra n2 Q ON PL SP X K O T Z Sz On u.2.1 u.2.2.1 u.2.2.2 rw) ∨ (∃ y : Nat, y < 2 ∧ x = nI y ∧ bc_mx mm ∧ ON y = 0 ∧ u.1 = 3 ∧ bc_MR n P ra n2 Q ON PL SP X K O T Z Sz On u.2.1 u.2.2.1 u.2.2.2 rw) ∨ (∃ y : Nat, y < 2 ∧ x = nI y ∧ ON y ≠ 0 ∧ ∃ k : Nat, k ≤ 10000 ∧ mm = nI k ∧ u.1 = 0 ∧ r = nI (bc_RN n n2 P Q X PL y k).2 ∧ bc_MR n P ra n2 Q ON (upd PL y (bc_RN n n2 P Q X PL y k).1.2) (upd SP y (SP y + nI (bc_RN n n2 P Q X PL y k).2)) (fun w => if w = y then (bc_RN n n2 P Q X PL y k).1.1 else X w) K O T Z Sz On u.2.1 u.2.2.1 u.2.2.2 rw)) (fun (u : Int32 × bc_F × bc_F × bc_F) t => bc_B (dC, dI) classes [(cI, .int), (cZ, .boolean)] (va_A [(m0, .inr (5, [.int fa, .ref r1, .ref r2, .ref r3, .ref r4, .ref r5, .int rw, .ref r6, .ref r7, .ref r8, .int gw, .ref r9, .ref r10, .ref r11, .ref r12, .ref r13, .ref r14, .ref r15, .ref r16])), (r1, .inl (cI, 80, .inl K)), (r2, .inl (cI, 80, .inl O)), (r3, .inl (cI, 80, .inl T)), (r4, .inl (cI, 80, .inl Z)), (r5, .inl (cI, 2, .inl Sz)), (r13, .inl (cZ, 2, .inl On)), (r14, .inl (cI, 2, .inl Pl)), (r15, .inl (cI, 2, .inl Sp)), (r16, .inl (cI, 12, .inl Vr))] sz) [(m0, .inr (5, [.int u.1, .ref r1, .ref r2, .ref r3, .ref r4, .ref r5, .int rw, .ref r6, .ref r7, .ref r8, .int gw, .ref r9, .ref r10, .ref r11, .ref r12, .ref r13, .ref r14, .ref r15, .ref r16])), (r1, .inl (cI, 80, .inl K)), (r2, .inl (cI, 80, .inl O)), (r3, .inl (cI, 80, .inl T)), (r4, .inl (cI, 80, .inl Z)), (r5, .inl (cI, 2, .inl Sz)), (r13, .inl (cZ, 2, .inl On)), (r14, .inl (cI, 2, .inl u.2.1)), (r15, .inl (cI, 2, .inl u.2.2.1)), (r16, .inl (cI, 12, .inl u.2.2.2))] t) ((va_A [(m0, .inr (5, [.int fa, .ref r1, .ref r2, .ref r3, .ref r4, .ref r5, .int rw, .ref r6, .ref r7, .ref r8, .int gw, .ref r9, .ref r10, .ref r11, .ref r12, .ref r13, .ref r14, .ref r15, .ref r16])), (r1, .inl (cI, 80, .inl K)), (r2, .inl (cI, 80, .inl O)), (r3, .inl (cI, 80, .inl T)), (r4, .inl (cI, 80, .inl Z)), (r5, .inl (cI, 2, .inl Sz)), (r13, .inl (cZ, 2, .inl On)), (r14, .inl (cI, 2, .inl Pl)), (r15, .inl (cI, 2, .inl Sp)), (r16, .inl (cI, 12, .inl Vr))] sz))) 0 0 (va_A [(m0, .inr (5, [.int fa, .ref r1, .ref r2, .ref r3, .ref r4, .ref r5, .int rw, .ref r6, .ref r7, .ref r8, .int gw, .ref r9, .ref r10, .ref r11, .ref r12, .ref r13, .ref r14, .ref r15, .ref r16])), (r1, .inl (cI, 80, .inl K)), (r2, .inl (cI, 80, .inl O)), (r3, .inl (cI, 80, .inl T)), (r4, .inl (cI, 80, .inl Z)), (r5, .inl (cI, 2, .inl Sz)), (r13, .inl (cZ, 2, .inl On)), (r14, .inl (cI, 2, .inl Pl)), (r15, .inl (cI, 2, .inl Sp)), (r16, .inl (cI, 12, .inl Vr))] sz) := by
  refine bc_met (fun A => va_Qi (fun (r : Int32) (u : Int32 × bc_F × bc_F × bc_F) => (¬ bc_sd x ∧ u.1 = 1 ∧ bc_MR n P ra n2 Q ON PL SP X K O T Z Sz On u.2.1 u.2.2.1 u.2.2.2 rw) ∨ (bc_sd x ∧ ¬ bc_mx mm ∧ u.1 = 2 ∧ bc_MR n P ra n2 Q ON PL SP X K O T Z Sz On u.2.1 u.2.2.1 u.2.2.2 rw) ∨ (∃ y : Nat, y < 2 ∧ x = nI y ∧ bc_mx mm ∧ ON y = 0 ∧ u.1 = 3 ∧ bc_MR n P ra n2 Q ON PL SP X K O T Z Sz On u.2.1 u.2.2.1 u.2.2.2 rw) ∨ (∃ y : Nat, y < 2 ∧ x = nI y ∧ ON y ≠ 0 ∧ ∃ k : Nat, k ≤ 10000 ∧ mm = nI k ∧ u.1 = 0 ∧ r = nI (bc_RN n n2 P Q X PL y k).2 ∧ bc_MR n P ra n2 Q ON (upd PL y (bc_RN n n2 P Q X PL y k).1.2) (upd SP y (SP y + nI (bc_RN n n2 P Q X PL y k).2)) (fun w => if w = y then (bc_RN n n2 P Q X PL y k).1.1 else X w) K O T Z Sz On u.2.1 u.2.2.1 u.2.2.2 rw)) (fun (u : Int32 × bc_F × bc_F × bc_F) t => bc_B (dC, dI) classes [(cI, .int), (cZ, .boolean)] A [(m0, .inr (5, [.int u.1, .ref r1, .ref r2, .ref r3, .ref r4, .ref r5, .int rw, .ref r6, .ref r7, .ref r8, .int gw, .ref r9, .ref r10, .ref r11, .ref r12, .ref r13, .ref r14, .ref r15, .ref r16])), (r1, .inl (cI, 80, .inl K)), (r2, .inl (cI, 80, .inl O)), (r3, .inl (cI, 80, .inl T)), (r4, .inl (cI, 80, .inl Z)), (r5, .inl (cI, 2, .inl Sz)), (r13, .inl (cZ, 2, .inl On)), (r14, .inl (cI, 2, .inl u.2.1)), (r15, .inl (cI, 2, .inl u.2.2.1)), (r16, .inl (cI, 12, .inl u.2.2.2))] t) A) (by decide) (Nat.le_of_ble_eq_true rfl) ?_
  intro p e s m args below meth c A ls F hr hlocks hin hA hP hD hl hS
  have hx := F.1
  have hb := F.2.1
  have hml := F.2.2.1
  have hown : s.vm.findClass "BranchConstantsModel" = some m.cls := F.2.2.2.1
  have htw := F.2.2.2.2.1
  have hN := F.2.2.2.2.2.1
  have hK := F.2.2.2.2.2.2
  have hl : lv_has ls 4 [(0, .ref m0), (1, .int x), (2, .int mm)] := hl
  have hn := hAB.1
  have hSz := hR.1
  refine lv_aload_n hx hb de_M_run_0 rfl (lv_at hl 0 rfl) ?_
  refine lv_iload_n hx hb de_M_run_1 rfl (lv_at hl 1 rfl) ?_
  refine bc_call_s_i (As := [.int x]) (rest := [.ref m0]) (wr := [(m0, .inr (5, [.int fa, .ref r1, .ref r2, .ref r3, .ref r4, .ref r5, .int rw, .ref r6, .ref r7, .ref r8, .int gw, .ref r9, .ref r10, .ref r11, .ref r12, .ref r13, .ref r14, .ref r15, .ref r16])), (r1, .inl (cI, 80, .inl K)), (r2, .inl (cI, 80, .inl O)), (r3, .inl (cI, 80, .inl T)), (r4, .inl (cI, 80, .inl Z)), (r5, .inl (cI, 2, .inl Sz)), (r13, .inl (cZ, 2, .inl On)), (r14, .inl (cI, 2, .inl Pl)), (r15, .inl (cI, 2, .inl Sp)), (r16, .inl (cI, 12, .inl Vr))]) F (co_M_isSide) wm_565 wm_6 wm_563 wm_564 pd_M_isSide rfl rfl ⟨Nat.le_of_ble_eq_true rfl, Nat.le_of_ble_eq_true rfl⟩ hP hD hS hA [] [0, 1, 2, 3, 4, 5, 6, 7, 8, 9] rfl rfl rfl rfl (by decide) rfl hl.1 rfl (Nat.le_of_ble_eq_true rfl) de_M_run_2 ⟨Nat.le_of_ble_eq_true rfl, Nat.le_of_ble_eq_true rfl⟩ (fun r_2 u_2 H locs hw_2 hP hD hS => ?_)
  have hP : va_P (dC, dI) classes [(m0, .inr (5, [.int fa, .ref r1, .ref r2, .ref r3, .ref r4, .ref r5, .int rw, .ref r6, .ref r7, .ref r8, .int gw, .ref r9, .ref r10, .ref r11, .ref r12, .ref r13, .ref r14, .ref r15, .ref r16])), (r1, .inl (cI, 80, .inl K)), (r2, .inl (cI, 80, .inl O)), (r3, .inl (cI, 80, .inl T)), (r4, .inl (cI, 80, .inl Z)), (r5, .inl (cI, 2, .inl Sz)), (r13, .inl (cZ, 2, .inl On)), (r14, .inl (cI, 2, .inl Pl)), (r15, .inl (cI, 2, .inl Sp)), (r16, .inl (cI, 12, .inl Vr))] H := hP.sub [0, 1, 2, 3, 4, 5, 6, 7, 8, 9] rfl
  have hD : va_D A [(m0, .inr (5, [.int fa, .ref r1, .ref r2, .ref r3, .ref r4, .ref r5, .int rw, .ref r6, .ref r7, .ref r8, .int gw, .ref r9, .ref r10, .ref r11, .ref r12, .ref r13, .ref r14, .ref r15, .ref r16])), (r1, .inl (cI, 80, .inl K)), (r2, .inl (cI, 80, .inl O)), (r3, .inl (cI, 80, .inl T)), (r4, .inl (cI, 80, .inl Z)), (r5, .inl (cI, 2, .inl Sz)), (r13, .inl (cZ, 2, .inl On)), (r14, .inl (cI, 2, .inl Pl)), (r15, .inl (cI, 2, .inl Sp)), (r16, .inl (cI, 12, .inl Vr))] := hD.sub [0, 1, 2, 3, 4, 5, 6, 7, 8, 9] (by decide) rfl
  rcases hw_2 with ⟨he_2, hv_2⟩ | ⟨he_2, hv_2⟩
  · subst he_2
    refine lv_if_ne (tgt := 12) hx hb de_M_run_5 (by decide) (fun _ => ?_) (fun hc => absurd hc (by decide))
    obtain ⟨y, hy, ey⟩ := bc_side hv_2
    subst ey
    refine lv_iload_n hx hb de_M_run_12 rfl (lv_at hl 2 rfl) ?_
    refine lv_if_lt (tgt := 23) hx hb de_M_run_13 (by decide) (fun hc_13 => ?_) (fun hc_13 => ?_)
    · refine lv_iconst (v := 2) hx hb de_M_run_23 (by decide) ?_
      refine lv_goto (tgt := 41) hx hb de_M_run_24 (by decide) ?_
      refine bc_call_v_i (As := [.int 2]) (rest := []) (wr := [(r1, .inl (cI, 80, .inl K)), (r2, .inl (cI, 80, .inl O)), (r3, .inl (cI, 80, .inl T)), (r4, .inl (cI, 80, .inl Z)), (r5, .inl (cI, 2, .inl Sz)), (r13, .inl (cZ, 2, .inl On)), (r14, .inl (cI, 2, .inl Pl)), (r15, .inl (cI, 2, .inl Sp)), (r16, .inl (cI, 12, .inl Vr))]) F (co_M_refused) wm_478 wm_6 wm_476 wm_477 wm_630 0 rfl rfl pd_M_refused rfl rfl ⟨Nat.le_of_ble_eq_true rfl, Nat.le_of_ble_eq_true rfl⟩ hP hD hS hA [0] [1, 2, 3, 4, 5, 6, 7, 8, 9] rfl rfl rfl rfl (by decide) rfl hl.1 rfl (Nat.le_of_ble_eq_true rfl) de_M_run_41 ⟨Nat.le_of_ble_eq_true rfl, Nat.le_of_ble_eq_true rfl⟩ (fun r_41 u_41 H locs hw_41 hP hD hS => ?_)
      have hP : va_P (dC, dI) classes [(m0, .inr (5, [.int 2, .ref r1, .ref r2, .ref r3, .ref r4, .ref r5, .int rw, .ref r6, .ref r7, .ref r8, .int gw, .ref r9, .ref r10, .ref r11, .ref r12, .ref r13, .ref r14, .ref r15, .ref r16])), (r1, .inl (cI, 80, .inl K)), (r2, .inl (cI, 80, .inl O)), (r3, .inl (cI, 80, .inl T)), (r4, .inl (cI, 80, .inl Z)), (r5, .inl (cI, 2, .inl Sz)), (r13, .inl (cZ, 2, .inl On)), (r14, .inl (cI, 2, .inl Pl)), (r15, .inl (cI, 2, .inl Sp)), (r16, .inl (cI, 12, .inl Vr))] H := hP.sub [9, 0, 1, 2, 3, 4, 5, 6, 7, 8] rfl
      have hD : va_D A [(m0, .inr (5, [.int 2, .ref r1, .ref r2, .ref r3, .ref r4, .ref r5, .int rw, .ref r6, .ref r7, .ref r8, .int gw, .ref r9, .ref r10, .ref r11, .ref r12, .ref r13, .ref r14, .ref r15, .ref r16])), (r1, .inl (cI, 80, .inl K)), (r2, .inl (cI, 80, .inl O)), (r3, .inl (cI, 80, .inl T)), (r4, .inl (cI, 80, .inl Z)), (r5, .inl (cI, 2, .inl Sz)), (r13, .inl (cZ, 2, .inl On)), (r14, .inl (cI, 2, .inl Pl)), (r15, .inl (cI, 2, .inl Sp)), (r16, .inl (cI, 12, .inl Vr))] := hD.sub [9, 0, 1, 2, 3, 4, 5, 6, 7, 8] (by decide) rfl
      rcases hw_41 with ⟨he_41, hv_41⟩ | ⟨he_41, hv_41⟩
      · subst he_41
        refine lv_if_eq (tgt := 49) hx hb de_M_run_44 (by decide) (fun hc => absurd hc (by decide)) (fun _ => ?_)
        refine lv_iconst (v := 0) hx hb de_M_run_47 (by decide) ?_
        exact bc_iret F hr hlocks ((2, Pl, Sp, Vr)) (Or.inr (Or.inl ⟨bc_sd_of hy, bc_mx_0 hc_13, rfl, hR⟩)) hP hD hS de_M_run_48
      · subst he_41
        exact absurd hv_41 (by decide)
    · refine lv_iload_n hx hb de_M_run_16 rfl (lv_at hl 2 rfl) ?_
      refine lv_sipush (v := 10000) hx hb de_M_run_17 (by decide) ?_
      refine lv_icmp_le (tgt := 27) hx hb de_M_run_20 (by decide) (fun hc_20 => ?_) (fun hc_20 => ?_)
      · have hmx := bc_mx_of hc_13 hc_20
        obtain ⟨k, hk, ek⟩ := hmx
        subst ek
        refine lv_aload_n hx hb de_M_run_27 rfl (lv_at hl 0 rfl) ?_
        refine va_get (D := (dC, dI)) (ci := 5) (v := .ref r13) (C := rc_M) (T := fc_M) (N := 19) hx hb htw wi_M hown hK hP 0 rfl rfl 15 (by decide) (htw _ wm_438) (fun _ h9 => h9) rfl de_M_run_28 ?_
        refine lv_iload_n hx hb de_M_run_31 rfl (lv_at hl 1 rfl) ?_
        refine bc_zld (j := y) hx hb hK hP 6 1 rfl rfl (by omega) (by decide) de_M_run_32 ?_
        refine lv_if_ne (tgt := 40) hx hb de_M_run_33 (by decide) (fun hc_33 => ?_) (fun hc_33 => ?_)
        · refine lv_iconst (v := 0) hx hb de_M_run_40 (by decide) ?_
          refine bc_call_v_i (As := [.int 0]) (rest := []) (wr := [(r1, .inl (cI, 80, .inl K)), (r2, .inl (cI, 80, .inl O)), (r3, .inl (cI, 80, .inl T)), (r4, .inl (cI, 80, .inl Z)), (r5, .inl (cI, 2, .inl Sz)), (r13, .inl (cZ, 2, .inl On)), (r14, .inl (cI, 2, .inl Pl)), (r15, .inl (cI, 2, .inl Sp)), (r16, .inl (cI, 12, .inl Vr))]) F (co_M_refused) wm_478 wm_6 wm_476 wm_477 wm_630 0 rfl rfl pd_M_refused rfl rfl ⟨Nat.le_of_ble_eq_true rfl, Nat.le_of_ble_eq_true rfl⟩ hP hD hS hA [0] [1, 2, 3, 4, 5, 6, 7, 8, 9] rfl rfl rfl rfl (by decide) rfl hl.1 rfl (Nat.le_of_ble_eq_true rfl) de_M_run_41 ⟨Nat.le_of_ble_eq_true rfl, Nat.le_of_ble_eq_true rfl⟩ (fun r_41 u_41 H locs hw_41 hP hD hS => ?_)
          have hP : va_P (dC, dI) classes [(m0, .inr (5, [.int 0, .ref r1, .ref r2, .ref r3, .ref r4, .ref r5, .int rw, .ref r6, .ref r7, .ref r8, .int gw, .ref r9, .ref r10, .ref r11, .ref r12, .ref r13, .ref r14, .ref r15, .ref r16])), (r1, .inl (cI, 80, .inl K)), (r2, .inl (cI, 80, .inl O)), (r3, .inl (cI, 80, .inl T)), (r4, .inl (cI, 80, .inl Z)), (r5, .inl (cI, 2, .inl Sz)), (r13, .inl (cZ, 2, .inl On)), (r14, .inl (cI, 2, .inl Pl)), (r15, .inl (cI, 2, .inl Sp)), (r16, .inl (cI, 12, .inl Vr))] H := hP.sub [9, 0, 1, 2, 3, 4, 5, 6, 7, 8] rfl
          have hD : va_D A [(m0, .inr (5, [.int 0, .ref r1, .ref r2, .ref r3, .ref r4, .ref r5, .int rw, .ref r6, .ref r7, .ref r8, .int gw, .ref r9, .ref r10, .ref r11, .ref r12, .ref r13, .ref r14, .ref r15, .ref r16])), (r1, .inl (cI, 80, .inl K)), (r2, .inl (cI, 80, .inl O)), (r3, .inl (cI, 80, .inl T)), (r4, .inl (cI, 80, .inl Z)), (r5, .inl (cI, 2, .inl Sz)), (r13, .inl (cZ, 2, .inl On)), (r14, .inl (cI, 2, .inl Pl)), (r15, .inl (cI, 2, .inl Sp)), (r16, .inl (cI, 12, .inl Vr))] := hD.sub [9, 0, 1, 2, 3, 4, 5, 6, 7, 8] (by decide) rfl
          rcases hw_41 with ⟨he_41, hv_41⟩ | ⟨he_41, hv_41⟩
          · subst he_41
            exact absurd (by decide) hv_41
          · subst he_41
            refine lv_if_eq (tgt := 49) hx hb de_M_run_44 (by decide) (fun _ => ?_) (fun hc => absurd (by decide) hc)
            have hon : ON y ≠ 0 := by rw [← (hR.2.2.2.2 y hy).1]; exact hc_33
            have hay := bc_AB_y hAB hy hon
            have hSy := bc_Sy hR hy hay.1
            have hnn := bc_nn_le hAB hy hay.1
            have hm := (hR.2.2.2.2 y hy).2 hon
            have hwr := bc_rq_wf hSy.2 hnn.2
            have hnn1 := hnn.1
            refine lv_iconst (v := 0) hx hb de_M_run_49 (by decide) ?_
            refine bc_ti (y := nI 0) nI_0.symm ?_
            refine lv_istore_n (lv' := [(3, .int (nI 0)), (0, .ref m0), (1, .int (nI y)), (2, .int (nI k))]) hx hb de_M_run_50 rfl hl (by decide) rfl (fun ls hl => ?_)
            refine bc_loop (fun k_51 H locs ls => ∃ (d : Nat) (P1 : bc_F) (S1 : bc_F) (V1 : bc_F) (x1 : bc_F), lv_has ls 4 [(3, .int (nI d)), (1, .int (nI y)), (2, .int (nI k)), (0, .ref m0)] ∧ va_P (dC, dI) classes [(m0, .inr (5, [.int 0, .ref r1, .ref r2, .ref r3, .ref r4, .ref r5, .int rw, .ref r6, .ref r7, .ref r8, .int gw, .ref r9, .ref r10, .ref r11, .ref r12, .ref r13, .ref r14, .ref r15, .ref r16])), (r1, .inl (cI, 80, .inl K)), (r2, .inl (cI, 80, .inl O)), (r3, .inl (cI, 80, .inl T)), (r4, .inl (cI, 80, .inl Z)), (r5, .inl (cI, 2, .inl Sz)), (r13, .inl (cZ, 2, .inl On)), (r14, .inl (cI, 2, .inl P1)), (r15, .inl (cI, 2, .inl S1)), (r16, .inl (cI, 12, .inl V1))] H ∧ va_D A [(m0, .inr (5, [.int 0, .ref r1, .ref r2, .ref r3, .ref r4, .ref r5, .int rw, .ref r6, .ref r7, .ref r8, .int gw, .ref r9, .ref r10, .ref r11, .ref r12, .ref r13, .ref r14, .ref r15, .ref r16])), (r1, .inl (cI, 80, .inl K)), (r2, .inl (cI, 80, .inl O)), (r3, .inl (cI, 80, .inl T)), (r4, .inl (cI, 80, .inl Z)), (r5, .inl (cI, 2, .inl Sz)), (r13, .inl (cZ, 2, .inl On)), (r14, .inl (cI, 2, .inl P1)), (r15, .inl (cI, 2, .inl S1)), (r16, .inl (cI, 12, .inl V1))] ∧ va_S A s.heap H locs ∧ k_51 = k - d ∧ (d ≤ k) ∧ (bc_rI (bc_nn n n2 y) (bc_PQ P Q y) (bc_RN n n2 P Q X PL y k) y k d Pl Sp Vr P1 S1 V1 x1)) ?_ ?_
            · rintro k_51 H locs ls ⟨d, P1, S1, V1, x1, hl, hP, hD, hS, hk_51, hd, hI⟩ ih_51
              refine lv_iload_n hx hb de_M_run_51 rfl (lv_at hl 0 rfl) ?_
              refine lv_iload_n hx hb de_M_run_52 rfl (lv_at hl 2 rfl) ?_
              refine lv_icmp_ge (tgt := 76) hx hb de_M_run_53 (by decide) (fun hc_53 => ?_) (fun hc_53 => ?_)
              · have hend : bc_rn (bc_nn n n2 y) (bc_PQ P Q y 1) (bc_PQ P Q y 2) (bc_PQ P Q y 3) (bc_PQ P Q y 4) (k - d) (x1, P1 y) = ((x1, P1 y), 0) := by
                  rw [show k - d = 0 by have := bc_ge (by omega) (by omega) hc_53; omega]
                  rfl
                refine lv_iload_n hx hb de_M_run_76 rfl (lv_at hl 0 rfl) ?_
                exact bc_iret F hr hlocks ((0, P1, S1, V1)) (Or.inr (Or.inr (Or.inr ⟨y, hy, rfl, hon, k, hk, rfl, rfl, bc_MR_run hR hy hon hI hend⟩))) hP hD hS de_M_run_77
              · refine lv_aload_n hx hb de_M_run_56 rfl (lv_at hl 3 rfl) ?_
                refine va_get (D := (dC, dI)) (ci := 5) (v := .ref r14) (C := rc_M) (T := fc_M) (N := 19) hx hb htw wi_M hown hK hP 0 rfl rfl 16 (by decide) (htw _ wm_439) (fun _ h9 => h9) rfl de_M_run_57 ?_
                refine lv_iload_n hx hb de_M_run_60 rfl (lv_at hl 1 rfl) ?_
                refine bc_ild (j := y) hx hb hK hP 7 0 rfl rfl (by omega) (by decide) de_M_run_61 ?_
                refine lv_if_lt (tgt := 76) hx hb de_M_run_62 (by decide) (fun hc_62 => ?_) (fun hc_62 => ?_)
                · have hend : bc_rn (bc_nn n n2 y) (bc_PQ P Q y 1) (bc_PQ P Q y 2) (bc_PQ P Q y 3) (bc_PQ P Q y 4) (k - d) (x1, P1 y) = ((x1, P1 y), 0) := bc_rn_stop _ (bc_ok_1 (by omega) hI.1 hc_62)
                  refine lv_iload_n hx hb de_M_run_76 rfl (lv_at hl 0 rfl) ?_
                  exact bc_iret F hr hlocks ((0, P1, S1, V1)) (Or.inr (Or.inr (Or.inr ⟨y, hy, rfl, hon, k, hk, rfl, rfl, bc_MR_run hR hy hon hI hend⟩))) hP hD hS de_M_run_77
                · obtain ⟨j, hj, hpj⟩ := bc_ok_j hI.1 hc_62
                  have hlt : d < k := bc_lt (by omega) (by omega) hc_53
                  refine lv_aload_n hx hb de_M_run_65 rfl (lv_at hl 3 rfl) ?_
                  refine lv_iload_n hx hb de_M_run_66 rfl (lv_at hl 1 rfl) ?_
                  refine bc_call_v_v (As := [.int (nI y)]) (rest := []) (wr := [(r13, .inl (cZ, 2, .inl On))]) F (co_M_step hy hj hnn1 hSy.1 hpj (hwr j hj)) wm_572 wm_6 wm_570 wm_571 wm_646 0 rfl rfl pd_M_step rfl rfl ⟨Nat.le_of_ble_eq_true rfl, Nat.le_of_ble_eq_true rfl⟩ hP hD hS hA [0, 1, 2, 3, 4, 5, 7, 8, 9] [6] rfl rfl rfl rfl (by decide) rfl hl.1 rfl (Nat.le_of_ble_eq_true rfl) de_M_run_67 ⟨Nat.le_of_ble_eq_true rfl, Nat.le_of_ble_eq_true rfl⟩ (fun u_67 H locs hw_67 hP hD hS => ?_)
                  obtain ⟨P2, S2, V2⟩ := u_67
                  try dsimp only at hw_67
                  have hP : va_P (dC, dI) classes [(m0, .inr (5, [.int 0, .ref r1, .ref r2, .ref r3, .ref r4, .ref r5, .int rw, .ref r6, .ref r7, .ref r8, .int gw, .ref r9, .ref r10, .ref r11, .ref r12, .ref r13, .ref r14, .ref r15, .ref r16])), (r1, .inl (cI, 80, .inl K)), (r2, .inl (cI, 80, .inl O)), (r3, .inl (cI, 80, .inl T)), (r4, .inl (cI, 80, .inl Z)), (r5, .inl (cI, 2, .inl Sz)), (r13, .inl (cZ, 2, .inl On)), (r14, .inl (cI, 2, .inl P2)), (r15, .inl (cI, 2, .inl S2)), (r16, .inl (cI, 12, .inl V2))] H := hP.sub [1, 2, 3, 4, 5, 6, 0, 7, 8, 9] rfl
                  have hD : va_D A [(m0, .inr (5, [.int 0, .ref r1, .ref r2, .ref r3, .ref r4, .ref r5, .int rw, .ref r6, .ref r7, .ref r8, .int gw, .ref r9, .ref r10, .ref r11, .ref r12, .ref r13, .ref r14, .ref r15, .ref r16])), (r1, .inl (cI, 80, .inl K)), (r2, .inl (cI, 80, .inl O)), (r3, .inl (cI, 80, .inl T)), (r4, .inl (cI, 80, .inl Z)), (r5, .inl (cI, 2, .inl Sz)), (r13, .inl (cZ, 2, .inl On)), (r14, .inl (cI, 2, .inl P2)), (r15, .inl (cI, 2, .inl S2)), (r16, .inl (cI, 12, .inl V2))] := hD.sub [1, 2, 3, 4, 5, 6, 0, 7, 8, 9] (by decide) rfl
                  refine lv_iinc (k := 0) (v := nI (d + 1)) (lv' := [(3, .int (nI (d + 1))), (1, .int (nI y)), (2, .int (nI k)), (0, .ref m0)]) hx hb de_M_run_70 hl rfl (bc_inc _) (by decide) rfl (fun ls hl => ?_)
                  refine lv_goto (tgt := 51) hx hb de_M_run_73 (by decide) ?_
                  exact ih_51 _ _ _ _ (by omega) ⟨(d + 1), P2, S2, V2, _, lv_sub hl [0, 1, 2, 3] rfl, hP, hD, hS, rfl, (by omega), bc_rI_s hnn1 hlt hj hpj hSy.2 hnn.2 hI hw_67.1 hw_67.2.1 hw_67.2.2⟩
            · exact ⟨_, 0, Pl, Sp, Vr, X y, lv_sub hl [0, 2, 3, 1] rfl, hP, hD, hS, rfl, Nat.zero_le _, bc_rI_0 hay.2 hm.1 hm.2.2⟩
        · refine lv_iconst (v := 3) hx hb de_M_run_36 (by decide) ?_
          refine lv_goto (tgt := 41) hx hb de_M_run_37 (by decide) ?_
          refine bc_call_v_i (As := [.int 3]) (rest := []) (wr := [(r1, .inl (cI, 80, .inl K)), (r2, .inl (cI, 80, .inl O)), (r3, .inl (cI, 80, .inl T)), (r4, .inl (cI, 80, .inl Z)), (r5, .inl (cI, 2, .inl Sz)), (r13, .inl (cZ, 2, .inl On)), (r14, .inl (cI, 2, .inl Pl)), (r15, .inl (cI, 2, .inl Sp)), (r16, .inl (cI, 12, .inl Vr))]) F (co_M_refused) wm_478 wm_6 wm_476 wm_477 wm_630 0 rfl rfl pd_M_refused rfl rfl ⟨Nat.le_of_ble_eq_true rfl, Nat.le_of_ble_eq_true rfl⟩ hP hD hS hA [0] [1, 2, 3, 4, 5, 6, 7, 8, 9] rfl rfl rfl rfl (by decide) rfl hl.1 rfl (Nat.le_of_ble_eq_true rfl) de_M_run_41 ⟨Nat.le_of_ble_eq_true rfl, Nat.le_of_ble_eq_true rfl⟩ (fun r_41 u_41 H locs hw_41 hP hD hS => ?_)
          have hP : va_P (dC, dI) classes [(m0, .inr (5, [.int 3, .ref r1, .ref r2, .ref r3, .ref r4, .ref r5, .int rw, .ref r6, .ref r7, .ref r8, .int gw, .ref r9, .ref r10, .ref r11, .ref r12, .ref r13, .ref r14, .ref r15, .ref r16])), (r1, .inl (cI, 80, .inl K)), (r2, .inl (cI, 80, .inl O)), (r3, .inl (cI, 80, .inl T)), (r4, .inl (cI, 80, .inl Z)), (r5, .inl (cI, 2, .inl Sz)), (r13, .inl (cZ, 2, .inl On)), (r14, .inl (cI, 2, .inl Pl)), (r15, .inl (cI, 2, .inl Sp)), (r16, .inl (cI, 12, .inl Vr))] H := hP.sub [9, 0, 1, 2, 3, 4, 5, 6, 7, 8] rfl
          have hD : va_D A [(m0, .inr (5, [.int 3, .ref r1, .ref r2, .ref r3, .ref r4, .ref r5, .int rw, .ref r6, .ref r7, .ref r8, .int gw, .ref r9, .ref r10, .ref r11, .ref r12, .ref r13, .ref r14, .ref r15, .ref r16])), (r1, .inl (cI, 80, .inl K)), (r2, .inl (cI, 80, .inl O)), (r3, .inl (cI, 80, .inl T)), (r4, .inl (cI, 80, .inl Z)), (r5, .inl (cI, 2, .inl Sz)), (r13, .inl (cZ, 2, .inl On)), (r14, .inl (cI, 2, .inl Pl)), (r15, .inl (cI, 2, .inl Sp)), (r16, .inl (cI, 12, .inl Vr))] := hD.sub [9, 0, 1, 2, 3, 4, 5, 6, 7, 8] (by decide) rfl
          rcases hw_41 with ⟨he_41, hv_41⟩ | ⟨he_41, hv_41⟩
          · subst he_41
            refine lv_if_eq (tgt := 49) hx hb de_M_run_44 (by decide) (fun hc => absurd hc (by decide)) (fun _ => ?_)
            refine lv_iconst (v := 0) hx hb de_M_run_47 (by decide) ?_
            exact bc_iret F hr hlocks ((3, Pl, Sp, Vr)) (Or.inr (Or.inr (Or.inl ⟨y, hy, rfl, ⟨k, hk, rfl⟩, (hR.2.2.2.2 y hy).1.symm.trans hc_33, rfl, hR⟩))) hP hD hS de_M_run_48
          · subst he_41
            exact absurd hv_41 (by decide)
      · refine lv_iconst (v := 2) hx hb de_M_run_23 (by decide) ?_
        refine lv_goto (tgt := 41) hx hb de_M_run_24 (by decide) ?_
        refine bc_call_v_i (As := [.int 2]) (rest := []) (wr := [(r1, .inl (cI, 80, .inl K)), (r2, .inl (cI, 80, .inl O)), (r3, .inl (cI, 80, .inl T)), (r4, .inl (cI, 80, .inl Z)), (r5, .inl (cI, 2, .inl Sz)), (r13, .inl (cZ, 2, .inl On)), (r14, .inl (cI, 2, .inl Pl)), (r15, .inl (cI, 2, .inl Sp)), (r16, .inl (cI, 12, .inl Vr))]) F (co_M_refused) wm_478 wm_6 wm_476 wm_477 wm_630 0 rfl rfl pd_M_refused rfl rfl ⟨Nat.le_of_ble_eq_true rfl, Nat.le_of_ble_eq_true rfl⟩ hP hD hS hA [0] [1, 2, 3, 4, 5, 6, 7, 8, 9] rfl rfl rfl rfl (by decide) rfl hl.1 rfl (Nat.le_of_ble_eq_true rfl) de_M_run_41 ⟨Nat.le_of_ble_eq_true rfl, Nat.le_of_ble_eq_true rfl⟩ (fun r_41 u_41 H locs hw_41 hP hD hS => ?_)
        have hP : va_P (dC, dI) classes [(m0, .inr (5, [.int 2, .ref r1, .ref r2, .ref r3, .ref r4, .ref r5, .int rw, .ref r6, .ref r7, .ref r8, .int gw, .ref r9, .ref r10, .ref r11, .ref r12, .ref r13, .ref r14, .ref r15, .ref r16])), (r1, .inl (cI, 80, .inl K)), (r2, .inl (cI, 80, .inl O)), (r3, .inl (cI, 80, .inl T)), (r4, .inl (cI, 80, .inl Z)), (r5, .inl (cI, 2, .inl Sz)), (r13, .inl (cZ, 2, .inl On)), (r14, .inl (cI, 2, .inl Pl)), (r15, .inl (cI, 2, .inl Sp)), (r16, .inl (cI, 12, .inl Vr))] H := hP.sub [9, 0, 1, 2, 3, 4, 5, 6, 7, 8] rfl
        have hD : va_D A [(m0, .inr (5, [.int 2, .ref r1, .ref r2, .ref r3, .ref r4, .ref r5, .int rw, .ref r6, .ref r7, .ref r8, .int gw, .ref r9, .ref r10, .ref r11, .ref r12, .ref r13, .ref r14, .ref r15, .ref r16])), (r1, .inl (cI, 80, .inl K)), (r2, .inl (cI, 80, .inl O)), (r3, .inl (cI, 80, .inl T)), (r4, .inl (cI, 80, .inl Z)), (r5, .inl (cI, 2, .inl Sz)), (r13, .inl (cZ, 2, .inl On)), (r14, .inl (cI, 2, .inl Pl)), (r15, .inl (cI, 2, .inl Sp)), (r16, .inl (cI, 12, .inl Vr))] := hD.sub [9, 0, 1, 2, 3, 4, 5, 6, 7, 8] (by decide) rfl
        rcases hw_41 with ⟨he_41, hv_41⟩ | ⟨he_41, hv_41⟩
        · subst he_41
          refine lv_if_eq (tgt := 49) hx hb de_M_run_44 (by decide) (fun hc => absurd hc (by decide)) (fun _ => ?_)
          refine lv_iconst (v := 0) hx hb de_M_run_47 (by decide) ?_
          exact bc_iret F hr hlocks ((2, Pl, Sp, Vr)) (Or.inr (Or.inl ⟨bc_sd_of hy, bc_mx_1 hc_20, rfl, hR⟩)) hP hD hS de_M_run_48
        · subst he_41
          exact absurd hv_41 (by decide)
  · subst he_2
    refine lv_if_ne (tgt := 12) hx hb de_M_run_5 (by decide) (fun hc => absurd (by decide) hc) (fun _ => ?_)
    refine lv_iconst (v := 1) hx hb de_M_run_8 (by decide) ?_
    refine lv_goto (tgt := 41) hx hb de_M_run_9 (by decide) ?_
    refine bc_call_v_i (As := [.int 1]) (rest := []) (wr := [(r1, .inl (cI, 80, .inl K)), (r2, .inl (cI, 80, .inl O)), (r3, .inl (cI, 80, .inl T)), (r4, .inl (cI, 80, .inl Z)), (r5, .inl (cI, 2, .inl Sz)), (r13, .inl (cZ, 2, .inl On)), (r14, .inl (cI, 2, .inl Pl)), (r15, .inl (cI, 2, .inl Sp)), (r16, .inl (cI, 12, .inl Vr))]) F (co_M_refused) wm_478 wm_6 wm_476 wm_477 wm_630 0 rfl rfl pd_M_refused rfl rfl ⟨Nat.le_of_ble_eq_true rfl, Nat.le_of_ble_eq_true rfl⟩ hP hD hS hA [0] [1, 2, 3, 4, 5, 6, 7, 8, 9] rfl rfl rfl rfl (by decide) rfl hl.1 rfl (Nat.le_of_ble_eq_true rfl) de_M_run_41 ⟨Nat.le_of_ble_eq_true rfl, Nat.le_of_ble_eq_true rfl⟩ (fun r_41 u_41 H locs hw_41 hP hD hS => ?_)
    have hP : va_P (dC, dI) classes [(m0, .inr (5, [.int 1, .ref r1, .ref r2, .ref r3, .ref r4, .ref r5, .int rw, .ref r6, .ref r7, .ref r8, .int gw, .ref r9, .ref r10, .ref r11, .ref r12, .ref r13, .ref r14, .ref r15, .ref r16])), (r1, .inl (cI, 80, .inl K)), (r2, .inl (cI, 80, .inl O)), (r3, .inl (cI, 80, .inl T)), (r4, .inl (cI, 80, .inl Z)), (r5, .inl (cI, 2, .inl Sz)), (r13, .inl (cZ, 2, .inl On)), (r14, .inl (cI, 2, .inl Pl)), (r15, .inl (cI, 2, .inl Sp)), (r16, .inl (cI, 12, .inl Vr))] H := hP.sub [9, 0, 1, 2, 3, 4, 5, 6, 7, 8] rfl
    have hD : va_D A [(m0, .inr (5, [.int 1, .ref r1, .ref r2, .ref r3, .ref r4, .ref r5, .int rw, .ref r6, .ref r7, .ref r8, .int gw, .ref r9, .ref r10, .ref r11, .ref r12, .ref r13, .ref r14, .ref r15, .ref r16])), (r1, .inl (cI, 80, .inl K)), (r2, .inl (cI, 80, .inl O)), (r3, .inl (cI, 80, .inl T)), (r4, .inl (cI, 80, .inl Z)), (r5, .inl (cI, 2, .inl Sz)), (r13, .inl (cZ, 2, .inl On)), (r14, .inl (cI, 2, .inl Pl)), (r15, .inl (cI, 2, .inl Sp)), (r16, .inl (cI, 12, .inl Vr))] := hD.sub [9, 0, 1, 2, 3, 4, 5, 6, 7, 8] (by decide) rfl
    rcases hw_41 with ⟨he_41, hv_41⟩ | ⟨he_41, hv_41⟩
    · subst he_41
      refine lv_if_eq (tgt := 49) hx hb de_M_run_44 (by decide) (fun hc => absurd hc (by decide)) (fun _ => ?_)
      refine lv_iconst (v := 0) hx hb de_M_run_47 (by decide) ?_
      exact bc_iret F hr hlocks ((1, Pl, Sp, Vr)) (Or.inl ⟨hv_2, rfl, hR⟩) hP hD hS de_M_run_48
    · subst he_41
      exact absurd hv_41 (by decide)

