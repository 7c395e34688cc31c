/-! small methods of BranchConstants, and Code's (by program: wip/whole/gen/modC.py) -/
theorem bc_vr_of {x : Int32} (h0 : ¬ x < 0) (h6 : ¬ (6 : Int32) ≤ x) : bc_vr x := by
  obtain ⟨j, hj, rfl⟩ := nI_of h0
  refine ⟨j, ?_, rfl⟩
  have h : ¬ nI 6 ≤ nI j := h6
  rw [nI_leI (by omega) hj] at h
  omega
theorem bc_vr_no0 {x : Int32} (h : x < 0) : ¬ bc_vr x := by
  rintro ⟨j, hj, rfl⟩
  exact nI_pos (by omega) h
theorem bc_vr_no6 {x : Int32} (h : (6 : Int32) ≤ x) : ¬ bc_vr x := by
  rintro ⟨j, hj, rfl⟩
  have h : nI 6 ≤ nI j := h
  rw [nI_leI (by omega) (by omega)] at h
  omega
theorem bc_tr_of {x : Int32} (h0 : ¬ x < 0) (h6 : ¬ (40 : Int32) < x) : bc_tr x := by
  obtain ⟨j, hj, rfl⟩ := nI_of h0
  refine ⟨j, ?_, rfl⟩
  have h : ¬ nI 40 < nI j := h6
  rw [nI_ltI (by omega) hj] at h
  omega
theorem bc_tr_no0 {x : Int32} (h : x < 0) : ¬ bc_tr x := by
  rintro ⟨j, hj, rfl⟩
  exact nI_pos (by omega) h
theorem bc_tr_no6 {x : Int32} (h : (40 : Int32) < x) : ¬ bc_tr x := by
  rintro ⟨j, hj, rfl⟩
  have h : nI 40 < nI j := h
  rw [nI_ltI (by omega) (by omega)] at h
  omega
def bc_p1 (k x : Int32) : Int32 := if k = 6 ∨ k = 7 then 0 else x
def bc_p2 (k x : Int32) : Int32 := if k = 7 then 0 else x
def bc_p3 (k x : Int32) : Int32 := if k = 2 ∨ k = 3 ∨ k = 4 then x else 0
theorem bc_tn_ge {n : Nat} {x : Int32} (hn : n < 2 ^ 31) (hx : bc_tr x) (h : nI n ≤ x) : nI n = nI (bc_tn n x) := by
  obtain ⟨j, hj, rfl⟩ := hx
  rw [nI_leI hn (by omega)] at h
  unfold bc_tn
  rw [nI_clamp (by omega), if_neg (by omega)]
theorem bc_tn_lt {n : Nat} {x : Int32} (hn : n < 2 ^ 31) (hx : bc_tr x) (h : ¬ nI n ≤ x) : x = nI (bc_tn n x) := by
  obtain ⟨j, hj, rfl⟩ := hx
  rw [nI_leI hn (by omega)] at h
  unfold bc_tn
  rw [nI_clamp (by omega), if_pos (by omega)]
def bc_nu (K O T H : bc_F) (i : Nat) (w : Int32) : Int32 := if w = 0 then K i else if w = 1 then O i else if w = 2 then T i else H i
theorem bc_gs_no {k : Int32} (h5 : ¬ k = 5) (h6 : ¬ k = 6) : ¬ bc_gs k := by
  rintro (e | e)
  · exact h6 e
  · exact h5 e
theorem bc_cell6 (i v : Nat) : nI i * 6 + nI v = nI (6 * i + v) := by
  have h : nI i * nI 6 = nI (i * 6) := pk_mul i 6
  rw [show nI i * 6 = nI (i * 6) from h, nI_add, Nat.mul_comm]
theorem bc_nle4 {a b : Int32} (h : b < a) : ¬ a ≤ b := by
  rw [Int32.lt_iff_toInt_lt] at h
  rw [Int32.le_iff_toInt_le]
  omega
theorem bc_le4 {a b : Int32} (h : ¬ b < a) : a ≤ b := by
  rw [Int32.lt_iff_toInt_lt] at h
  rw [Int32.le_iff_toInt_le]
  omega
theorem bc_to_0_6 {x : Int32} (h0 : ¬ x = 0) (h1 : ¬ x = 1) (h2 : ¬ x = 2) (h3 : ¬ x = 3) (h4 : ¬ x = 4) (h5 : ¬ x = 5) (h6 : ¬ x = 6) : x.toInt < 0 ∨ 6 < x.toInt := by
  have e0 : x.toInt ≠ 0 := fun e => h0 (Int32.toInt_inj.mp (e.trans (by decide)))
  have e1 : x.toInt ≠ 1 := fun e => h1 (Int32.toInt_inj.mp (e.trans (by decide)))
  have e2 : x.toInt ≠ 2 := fun e => h2 (Int32.toInt_inj.mp (e.trans (by decide)))
  have e3 : x.toInt ≠ 3 := fun e => h3 (Int32.toInt_inj.mp (e.trans (by decide)))
  have e4 : x.toInt ≠ 4 := fun e => h4 (Int32.toInt_inj.mp (e.trans (by decide)))
  have e5 : x.toInt ≠ 5 := fun e => h5 (Int32.toInt_inj.mp (e.trans (by decide)))
  have e6 : x.toInt ≠ 6 := fun e => h6 (Int32.toInt_inj.mp (e.trans (by decide)))
  omega
theorem bc_to_0_2 {x : Int32} (h0 : ¬ x = 0) (h1 : ¬ x = 1) (h2 : ¬ x = 2) : x.toInt < 0 ∨ 2 < x.toInt := by
  have e0 : x.toInt ≠ 0 := fun e => h0 (Int32.toInt_inj.mp (e.trans (by decide)))
  have e1 : x.toInt ≠ 1 := fun e => h1 (Int32.toInt_inj.mp (e.trans (by decide)))
  have e2 : x.toInt ≠ 2 := fun e => h2 (Int32.toInt_inj.mp (e.trans (by decide)))
  omega
theorem bc_to_5_7 {x : Int32} (h5 : ¬ x = 5) (h6 : ¬ x = 6) (h7 : ¬ x = 7) : x.toInt < 5 ∨ 7 < x.toInt := by
  have e5 : x.toInt ≠ 5 := fun e => h5 (Int32.toInt_inj.mp (e.trans (by decide)))
  have e6 : x.toInt ≠ 6 := fun e => h6 (Int32.toInt_inj.mp (e.trans (by decide)))
  have e7 : x.toInt ≠ 7 := fun e => h7 (Int32.toInt_inj.mp (e.trans (by decide)))
  omega
theorem bc_to_0_5 {x : Int32} (h0 : ¬ x = 0) (h1 : ¬ x = 1) (h2 : ¬ x = 2) (h3 : ¬ x = 3) (h4 : ¬ x = 4) (h5 : ¬ x = 5) : x.toInt < 0 ∨ 5 < x.toInt := by
  have e0 : x.toInt ≠ 0 := fun e => h0 (Int32.toInt_inj.mp (e.trans (by decide)))
  have e1 : x.toInt ≠ 1 := fun e => h1 (Int32.toInt_inj.mp (e.trans (by decide)))
  have e2 : x.toInt ≠ 2 := fun e => h2 (Int32.toInt_inj.mp (e.trans (by decide)))
  have e3 : x.toInt ≠ 3 := fun e => h3 (Int32.toInt_inj.mp (e.trans (by decide)))
  have e4 : x.toInt ≠ 4 := fun e => h4 (Int32.toInt_inj.mp (e.trans (by decide)))
  have e5 : x.toInt ≠ 5 := fun e => h5 (Int32.toInt_inj.mp (e.trans (by decide)))
  omega
theorem bc_to_0_1 {x : Int32} (h0 : ¬ x = 0) (h1 : ¬ x = 1) : x.toInt < 0 ∨ 1 < x.toInt := by
  have e0 : x.toInt ≠ 0 := fun e => h0 (Int32.toInt_inj.mp (e.trans (by decide)))
  have e1 : x.toInt ≠ 1 := fun e => h1 (Int32.toInt_inj.mp (e.trans (by decide)))
  omega
theorem bc_to_0_7 {x : Int32} (h0 : ¬ x = 0) (h1 : ¬ x = 1) (h2 : ¬ x = 2) (h3 : ¬ x = 3) (h4 : ¬ x = 4) (h5 : ¬ x = 5) (h6 : ¬ x = 6) (h7 : ¬ x = 7) : x.toInt < 0 ∨ 7 < x.toInt := by
  have e0 : x.toInt ≠ 0 := fun e => h0 (Int32.toInt_inj.mp (e.trans (by decide)))
  have e1 : x.toInt ≠ 1 := fun e => h1 (Int32.toInt_inj.mp (e.trans (by decide)))
  have e2 : x.toInt ≠ 2 := fun e => h2 (Int32.toInt_inj.mp (e.trans (by decide)))
  have e3 : x.toInt ≠ 3 := fun e => h3 (Int32.toInt_inj.mp (e.trans (by decide)))
  have e4 : x.toInt ≠ 4 := fun e => h4 (Int32.toInt_inj.mp (e.trans (by decide)))
  have e5 : x.toInt ≠ 5 := fun e => h5 (Int32.toInt_inj.mp (e.trans (by decide)))
  have e6 : x.toInt ≠ 6 := fun e => h6 (Int32.toInt_inj.mp (e.trans (by decide)))
  have e7 : x.toInt ≠ 7 := fun e => h7 (Int32.toInt_inj.mp (e.trans (by decide)))
  omega
theorem bc_to_0_13 {x : Int32} (h0 : ¬ x = 0) (h1 : ¬ x = 1) (h2 : ¬ x = 2) (h3 : ¬ x = 3) (h4 : ¬ x = 4) (h5 : ¬ x = 5) (h6 : ¬ x = 6) (h7 : ¬ x = 7) (h8 : ¬ x = 8) (h9 : ¬ x = 9) (h10 : ¬ x = 10) (h11 : ¬ x = 11) (h12 : ¬ x = 12) (h13 : ¬ x = 13) : x.toInt < 0 ∨ 13 < x.toInt := by
  have e0 : x.toInt ≠ 0 := fun e => h0 (Int32.toInt_inj.mp (e.trans (by decide)))
  have e1 : x.toInt ≠ 1 := fun e => h1 (Int32.toInt_inj.mp (e.trans (by decide)))
  have e2 : x.toInt ≠ 2 := fun e => h2 (Int32.toInt_inj.mp (e.trans (by decide)))
  have e3 : x.toInt ≠ 3 := fun e => h3 (Int32.toInt_inj.mp (e.trans (by decide)))
  have e4 : x.toInt ≠ 4 := fun e => h4 (Int32.toInt_inj.mp (e.trans (by decide)))
  have e5 : x.toInt ≠ 5 := fun e => h5 (Int32.toInt_inj.mp (e.trans (by decide)))
  have e6 : x.toInt ≠ 6 := fun e => h6 (Int32.toInt_inj.mp (e.trans (by decide)))
  have e7 : x.toInt ≠ 7 := fun e => h7 (Int32.toInt_inj.mp (e.trans (by decide)))
  have e8 : x.toInt ≠ 8 := fun e => h8 (Int32.toInt_inj.mp (e.trans (by decide)))
  have e9 : x.toInt ≠ 9 := fun e => h9 (Int32.toInt_inj.mp (e.trans (by decide)))
  have e10 : x.toInt ≠ 10 := fun e => h10 (Int32.toInt_inj.mp (e.trans (by decide)))
  have e11 : x.toInt ≠ 11 := fun e => h11 (Int32.toInt_inj.mp (e.trans (by decide)))
  have e12 : x.toInt ≠ 12 := fun e => h12 (Int32.toInt_inj.mp (e.trans (by decide)))
  have e13 : x.toInt ≠ 13 := fun e => h13 (Int32.toInt_inj.mp (e.trans (by decide)))
  omega
set_option maxHeartbeats 4000000 in
set_option maxRecDepth 100000 in
/-- is it a variable -/
theorem co_B_isVariable {l : Launch} {dC : Nat → ClassId} {dI : Nat → Nat → Nat} {cI cZ : ClassId} {sz : Nat} {v : Int32} : Met l yn_B_isVariable (Cond.code yn_B_isVariable by_B_isVariable 1 (some FieldType.boolean) :: wd_all) ({ frames := 0, cells := 0, slots := 0, locals := 0 } : Room) (bc_Pre (dC, dI) classes [(cI, .int), (cZ, .boolean)] [.int v] [] sz) (va_Qi (fun (r : Int32) (u : Unit) => (r = 1 ∧ bc_vr v) ∨ (r = 0 ∧ ¬ bc_vr v)) (fun (u : Unit) t => bc_B (dC, dI) classes [(cI, .int), (cZ, .boolean)] (va_A [] sz) [] t) ((va_A [] sz))) 0 0 (va_A [] sz) := by
  refine bc_met (fun A => va_Qi (fun (r : Int32) (u : Unit) => (r = 1 ∧ bc_vr v) ∨ (r = 0 ∧ ¬ bc_vr v)) (fun (u : Unit) t => bc_B (dC, dI) classes [(cI, .int), (cZ, .boolean)] A [] t) A) (by decide) (Nat.le_of_ble_eq_true rfl) ?_
  intro p e s m args below meth c A ls F hr hlocks hin hA hP hD hl hS
  have hx := F.1
  have hb := F.2.1
  have hml := F.2.2.1
  have hown : s.vm.findClass "BranchConstants" = some m.cls := F.2.2.2.1
  have htw := F.2.2.2.2.1
  have hN := F.2.2.2.2.2.1
  have hK := F.2.2.2.2.2.2
  have hl : lv_has ls 1 [(0, .int v)] := hl
  refine lv_iload_n hx hb de_B_isVariable_0 rfl (lv_at hl 0 rfl) ?_
  refine lv_if_lt (tgt := 14) hx hb de_B_isVariable_1 (by decide) (fun hc_1 => ?_) (fun hc_1 => ?_)
  · refine lv_iconst (v := 0) hx hb de_B_isVariable_14 (by decide) ?_
    exact bc_zret F hr hlocks rfl (()) (Or.inr ⟨rfl, bc_vr_no0 hc_1⟩) hP hD hS de_B_isVariable_15
  · refine lv_iload_n hx hb de_B_isVariable_4 rfl (lv_at hl 0 rfl) ?_
    refine lv_bipush (v := 6) hx hb de_B_isVariable_5 (by decide) ?_
    refine lv_icmp_ge (tgt := 14) hx hb de_B_isVariable_7 (by decide) (fun hc_7 => ?_) (fun hc_7 => ?_)
    · refine lv_iconst (v := 0) hx hb de_B_isVariable_14 (by decide) ?_
      exact bc_zret F hr hlocks rfl (()) (Or.inr ⟨rfl, bc_vr_no6 hc_7⟩) hP hD hS de_B_isVariable_15
    · refine lv_iconst (v := 1) hx hb de_B_isVariable_10 (by decide) ?_
      refine lv_goto (tgt := 15) hx hb de_B_isVariable_11 (by decide) ?_
      exact bc_zret F hr hlocks rfl (()) (Or.inl ⟨rfl, bc_vr_of hc_1 hc_7⟩) hP hD hS de_B_isVariable_15

set_option maxHeartbeats 4000000 in
set_option maxRecDepth 100000 in
/-- is it a target -/
theorem co_B_isTarget {l : Launch} {dC : Nat → ClassId} {dI : Nat → Nat → Nat} {cI cZ : ClassId} {sz : Nat} {v : Int32} : Met l yn_B_isTarget (Cond.code yn_B_isTarget by_B_isTarget 1 (some FieldType.boolean) :: wd_all) ({ frames := 0, cells := 0, slots := 0, locals := 0 } : Room) (bc_Pre (dC, dI) classes [(cI, .int), (cZ, .boolean)] [.int v] [] sz) (va_Qi (fun (r : Int32) (u : Unit) => (r = 1 ∧ bc_tr v) ∨ (r = 0 ∧ ¬ bc_tr v)) (fun (u : Unit) t => bc_B (dC, dI) classes [(cI, .int), (cZ, .boolean)] (va_A [] sz) [] t) ((va_A [] sz))) 0 0 (va_A [] sz) := by
  refine bc_met (fun A => va_Qi (fun (r : Int32) (u : Unit) => (r = 1 ∧ bc_tr v) ∨ (r = 0 ∧ ¬ bc_tr v)) (fun (u : Unit) t => bc_B (dC, dI) classes [(cI, .int), (cZ, .boolean)] A [] t) A) (by decide) (Nat.le_of_ble_eq_true rfl) ?_
  intro p e s m args below meth c A ls F hr hlocks hin hA hP hD hl hS
  have hx := F.1
  have hb := F.2.1
  have hml := F.2.2.1
  have hown : s.vm.findClass "BranchConstants" = some m.cls := F.2.2.2.1
  have htw := F.2.2.2.2.1
  have hN := F.2.2.2.2.2.1
  have hK := F.2.2.2.2.2.2
  have hl : lv_has ls 1 [(0, .int v)] := hl
  refine lv_iload_n hx hb de_B_isTarget_0 rfl (lv_at hl 0 rfl) ?_
  refine lv_if_lt (tgt := 14) hx hb de_B_isTarget_1 (by decide) (fun hc_1 => ?_) (fun hc_1 => ?_)
  · refine lv_iconst (v := 0) hx hb de_B_isTarget_14 (by decide) ?_
    exact bc_zret F hr hlocks rfl (()) (Or.inr ⟨rfl, bc_tr_no0 hc_1⟩) hP hD hS de_B_isTarget_15
  · refine lv_iload_n hx hb de_B_isTarget_4 rfl (lv_at hl 0 rfl) ?_
    refine lv_bipush (v := 40) hx hb de_B_isTarget_5 (by decide) ?_
    refine lv_icmp_gt (tgt := 14) hx hb de_B_isTarget_7 (by decide) (fun hc_7 => ?_) (fun hc_7 => ?_)
    · refine lv_iconst (v := 0) hx hb de_B_isTarget_14 (by decide) ?_
      exact bc_zret F hr hlocks rfl (()) (Or.inr ⟨rfl, bc_tr_no6 hc_7⟩) hP hD hS de_B_isTarget_15
    · refine lv_iconst (v := 1) hx hb de_B_isTarget_10 (by decide) ?_
      refine lv_goto (tgt := 15) hx hb de_B_isTarget_11 (by decide) ?_
      exact bc_zret F hr hlocks rfl (()) (Or.inl ⟨rfl, bc_tr_of hc_1 hc_7⟩) hP hD hS de_B_isTarget_15

set_option maxHeartbeats 4000000 in
set_option maxRecDepth 100000 in
/-- a place in the rows -/
theorem co_B_cell {l : Launch} {dC : Nat → ClassId} {dI : Nat → Nat → Nat} {cI cZ : ClassId} {sz : Nat} {i v : Nat} : Met l yn_B_cell (Cond.code yn_B_cell by_B_cell 2 (some FieldType.int) :: wd_all) ({ frames := 0, cells := 0, slots := 0, locals := 0 } : Room) (bc_Pre (dC, dI) classes [(cI, .int), (cZ, .boolean)] [.int (nI i), .int (nI v)] [] sz) (va_Qi (fun (r : Int32) (u : Unit) => r = nI (6 * i + v)) (fun (u : Unit) t => bc_B (dC, dI) classes [(cI, .int), (cZ, .boolean)] (va_A [] sz) [] t) ((va_A [] sz))) 0 0 (va_A [] sz) := by
  refine bc_met (fun A => va_Qi (fun (r : Int32) (u : Unit) => r = nI (6 * i + v)) (fun (u : Unit) t => bc_B (dC, dI) classes [(cI, .int), (cZ, .boolean)] A [] t) A) (by decide) (Nat.le_of_ble_eq_true rfl) ?_
  intro p e s m args below meth c A ls F hr hlocks hin hA hP hD hl hS
  have hx := F.1
  have hb := F.2.1
  have hml := F.2.2.1
  have hown : s.vm.findClass "BranchConstants" = some m.cls := F.2.2.2.1
  have htw := F.2.2.2.2.1
  have hN := F.2.2.2.2.2.1
  have hK := F.2.2.2.2.2.2
  have hl : lv_has ls 2 [(0, .int (nI i)), (1, .int (nI v))] := hl
  refine lv_iload_n hx hb de_B_cell_0 rfl (lv_at hl 0 rfl) ?_
  refine lv_bipush (v := 6) hx hb de_B_cell_1 (by decide) ?_
  refine lv_imul hx hb de_B_cell_3 ?_
  refine lv_iload_n hx hb de_B_cell_4 rfl (lv_at hl 1 rfl) ?_
  refine lv_iadd hx hb de_B_cell_5 ?_
  exact bc_iret F hr hlocks (()) (bc_cell6 i v) hP hD hS de_B_cell_6

set_option maxHeartbeats 4000000 in
set_option maxRecDepth 100000 in
/-- add, subtract, multiply -/
theorem co_B_calculate {l : Launch} {dC : Nat → ClassId} {dI : Nat → Nat → Nat} {cI cZ : ClassId} {sz : Nat} {k x y : Int32} : Met l yn_B_calculate (Cond.code yn_B_calculate by_B_calculate 3 (some FieldType.int) :: wd_all) ({ frames := 0, cells := 0, slots := 0, locals := 0 } : Room) (bc_Pre (dC, dI) classes [(cI, .int), (cZ, .boolean)] [.int k, .int x, .int y] [] sz) (va_Qi (fun (r : Int32) (u : Unit) => r = bc_ar k x y) (fun (u : Unit) t => bc_B (dC, dI) classes [(cI, .int), (cZ, .boolean)] (va_A [] sz) [] t) ((va_A [] sz))) 0 0 (va_A [] sz) := by
  refine bc_met (fun A => va_Qi (fun (r : Int32) (u : Unit) => r = bc_ar k x y) (fun (u : Unit) t => bc_B (dC, dI) classes [(cI, .int), (cZ, .boolean)] A [] t) A) (by decide) (Nat.le_of_ble_eq_true rfl) ?_
  intro p e s m args below meth c A ls F hr hlocks hin hA hP hD hl hS
  have hx := F.1
  have hb := F.2.1
  have hml := F.2.2.1
  have hown : s.vm.findClass "BranchConstants" = some m.cls := F.2.2.2.1
  have htw := F.2.2.2.2.1
  have hN := F.2.2.2.2.2.1
  have hK := F.2.2.2.2.2.2
  have hl : lv_has ls 3 [(0, .int k), (1, .int x), (2, .int y)] := hl
  refine lv_iload_n hx hb de_B_calculate_0 rfl (lv_at hl 0 rfl) ?_
  by_cases hs_1_2 : k = 2
  · refine bc_ti hs_1_2 ?_
    refine lv_lookup (off := 27) (tgt := 28) hx hb de_B_calculate_1 (by decide) (by decide) (by decide) ?_
    refine lv_iload_n hx hb de_B_calculate_28 rfl (lv_at hl 1 rfl) ?_
    refine lv_iload_n hx hb de_B_calculate_29 rfl (lv_at hl 2 rfl) ?_
    refine lv_iadd hx hb de_B_calculate_30 ?_
    exact bc_iret F hr hlocks (()) (by unfold bc_ar; rw [if_pos hs_1_2]) hP hD hS de_B_calculate_31
  by_cases hs_1_3 : k = 3
  · refine bc_ti hs_1_3 ?_
    refine lv_lookup (off := 31) (tgt := 32) hx hb de_B_calculate_1 (by decide) (by decide) (by decide) ?_
    refine lv_iload_n hx hb de_B_calculate_32 rfl (lv_at hl 1 rfl) ?_
    refine lv_iload_n hx hb de_B_calculate_33 rfl (lv_at hl 2 rfl) ?_
    refine lv_isub hx hb de_B_calculate_34 ?_
    exact bc_iret F hr hlocks (()) (by unfold bc_ar; rw [if_neg hs_1_2, if_pos hs_1_3]) hP hD hS de_B_calculate_35
  refine lv_lookup (off := 35) (tgt := 36) hx hb de_B_calculate_1 (by decide) (show Op.lookupswitch.offset [(2, 27), (3, 31)] 35 (k).toInt = 35 by rw [lv_osw hs_1_2 (by decide), lv_osw hs_1_3 (by decide)]; rfl) (by decide) ?_
  refine lv_iload_n hx hb de_B_calculate_36 rfl (lv_at hl 1 rfl) ?_
  refine lv_iload_n hx hb de_B_calculate_37 rfl (lv_at hl 2 rfl) ?_
  refine lv_imul hx hb de_B_calculate_38 ?_
  exact bc_iret F hr hlocks (()) (by unfold bc_ar; rw [if_neg hs_1_2, if_neg hs_1_3]) hP hD hS de_B_calculate_39

set_option maxHeartbeats 4000000 in
set_option maxRecDepth 100000 in
/-- does it assign -/
theorem co_C_assigns {l : Launch} {dC : Nat → ClassId} {dI : Nat → Nat → Nat} {cI cZ : ClassId} {sz : Nat} {h0 q1 q2 q3 q4 n : Nat} {K O T Z : bc_F} {i : Nat} (hi : i < 40) : Met l yn_C_assigns (Cond.code yn_C_assigns by_C_assigns 2 (some FieldType.boolean) :: wd_all) ({ frames := 0, cells := 0, slots := 0, locals := 0 } : Room) (bc_Pre (dC, dI) classes [(cI, .int), (cZ, .boolean)] [.ref h0, .int (nI i)] [(h0, .inr (1, [.ref q1, .ref q2, .ref q3, .ref q4, .int (nI n)])), (q1, .inl (cI, 40, .inl K)), (q2, .inl (cI, 40, .inl O)), (q3, .inl (cI, 40, .inl T)), (q4, .inl (cI, 40, .inl Z))] sz) (va_Qi (fun (r : Int32) (u : Unit) => (r = 1 ∧ K i ≤ 4) ∨ (r = 0 ∧ ¬ K i ≤ 4)) (fun (u : Unit) t => bc_B (dC, dI) classes [(cI, .int), (cZ, .boolean)] (va_A [(h0, .inr (1, [.ref q1, .ref q2, .ref q3, .ref q4, .int (nI n)])), (q1, .inl (cI, 40, .inl K)), (q2, .inl (cI, 40, .inl O)), (q3, .inl (cI, 40, .inl T)), (q4, .inl (cI, 40, .inl Z))] sz) [(h0, .inr (1, [.ref q1, .ref q2, .ref q3, .ref q4, .int (nI n)])), (q1, .inl (cI, 40, .inl K)), (q2, .inl (cI, 40, .inl O)), (q3, .inl (cI, 40, .inl T)), (q4, .inl (cI, 40, .inl Z))] t) ((va_A [(h0, .inr (1, [.ref q1, .ref q2, .ref q3, .ref q4, .int (nI n)])), (q1, .inl (cI, 40, .inl K)), (q2, .inl (cI, 40, .inl O)), (q3, .inl (cI, 40, .inl T)), (q4, .inl (cI, 40, .inl Z))] sz))) 0 0 (va_A [(h0, .inr (1, [.ref q1, .ref q2, .ref q3, .ref q4, .int (nI n)])), (q1, .inl (cI, 40, .inl K)), (q2, .inl (cI, 40, .inl O)), (q3, .inl (cI, 40, .inl T)), (q4, .inl (cI, 40, .inl Z))] sz) := by
  refine bc_met (fun A => va_Qi (fun (r : Int32) (u : Unit) => (r = 1 ∧ K i ≤ 4) ∨ (r = 0 ∧ ¬ K i ≤ 4)) (fun (u : Unit) t => bc_B (dC, dI) classes [(cI, .int), (cZ, .boolean)] A [(h0, .inr (1, [.ref q1, .ref q2, .ref q3, .ref q4, .int (nI n)])), (q1, .inl (cI, 40, .inl K)), (q2, .inl (cI, 40, .inl O)), (q3, .inl (cI, 40, .inl T)), (q4, .inl (cI, 40, .inl Z))] t) A) (by decide) (Nat.le_of_ble_eq_true rfl) ?_
  intro p e s m args below meth c A ls F hr hlocks hin hA hP hD hl hS
  have hx := F.1
  have hb := F.2.1
  have hml := F.2.2.1
  have hown : s.vm.findClass "BranchConstants$Code" = some m.cls := F.2.2.2.1
  have htw := F.2.2.2.2.1
  have hN := F.2.2.2.2.2.1
  have hK := F.2.2.2.2.2.2
  have hl : lv_has ls 2 [(0, .ref h0), (1, .int (nI i))] := hl
  refine lv_aload_n hx hb de_C_assigns_0 rfl (lv_at hl 0 rfl) ?_
  refine va_get (D := (dC, dI)) (ci := 1) (v := .ref q1) (C := rc_C) (T := fc_C) (N := 5) hx hb htw wi_C hown hK hP 0 rfl rfl 0 (by decide) (htw _ wm_28) (fun _ h9 => h9) rfl de_C_assigns_1 ?_
  refine lv_iload_n hx hb de_C_assigns_4 rfl (lv_at hl 1 rfl) ?_
  refine bc_ild (j := i) hx hb hK hP 1 0 rfl rfl (by omega) (by decide) de_C_assigns_5 ?_
  refine lv_iconst (v := 4) hx hb de_C_assigns_6 (by decide) ?_
  refine lv_icmp_gt (tgt := 14) hx hb de_C_assigns_7 (by decide) (fun hc_7 => ?_) (fun hc_7 => ?_)
  · refine lv_iconst (v := 0) hx hb de_C_assigns_14 (by decide) ?_
    exact bc_zret F hr hlocks rfl (()) (Or.inr ⟨rfl, bc_nle4 hc_7⟩) hP hD hS de_C_assigns_15
  · refine lv_iconst (v := 1) hx hb de_C_assigns_10 (by decide) ?_
    refine lv_goto (tgt := 15) hx hb de_C_assigns_11 (by decide) ?_
    exact bc_zret F hr hlocks rfl (()) (Or.inl ⟨rfl, bc_le4 hc_7⟩) hP hD hS de_C_assigns_15

set_option maxHeartbeats 4000000 in
set_option maxRecDepth 100000 in
/-- has it a target -/
theorem co_C_hasTarget {l : Launch} {dC : Nat → ClassId} {dI : Nat → Nat → Nat} {cI cZ : ClassId} {sz : Nat} {h0 q1 q2 q3 q4 n : Nat} {K O T Z : bc_F} {i : Nat} (hi : i < 40) : Met l yn_C_hasTarget (Cond.code yn_C_hasTarget by_C_hasTarget 2 (some FieldType.boolean) :: wd_all) ({ frames := 0, cells := 0, slots := 0, locals := 0 } : Room) (bc_Pre (dC, dI) classes [(cI, .int), (cZ, .boolean)] [.ref h0, .int (nI i)] [(h0, .inr (1, [.ref q1, .ref q2, .ref q3, .ref q4, .int (nI n)])), (q1, .inl (cI, 40, .inl K)), (q2, .inl (cI, 40, .inl O)), (q3, .inl (cI, 40, .inl T)), (q4, .inl (cI, 40, .inl Z))] sz) (va_Qi (fun (r : Int32) (u : Unit) => (r = 1 ∧ bc_gs (K i)) ∨ (r = 0 ∧ ¬ bc_gs (K i))) (fun (u : Unit) t => bc_B (dC, dI) classes [(cI, .int), (cZ, .boolean)] (va_A [(h0, .inr (1, [.ref q1, .ref q2, .ref q3, .ref q4, .int (nI n)])), (q1, .inl (cI, 40, .inl K)), (q2, .inl (cI, 40, .inl O)), (q3, .inl (cI, 40, .inl T)), (q4, .inl (cI, 40, .inl Z))] sz) [(h0, .inr (1, [.ref q1, .ref q2, .ref q3, .ref q4, .int (nI n)])), (q1, .inl (cI, 40, .inl K)), (q2, .inl (cI, 40, .inl O)), (q3, .inl (cI, 40, .inl T)), (q4, .inl (cI, 40, .inl Z))] t) ((va_A [(h0, .inr (1, [.ref q1, .ref q2, .ref q3, .ref q4, .int (nI n)])), (q1, .inl (cI, 40, .inl K)), (q2, .inl (cI, 40, .inl O)), (q3, .inl (cI, 40, .inl T)), (q4, .inl (cI, 40, .inl Z))] sz))) 0 0 (va_A [(h0, .inr (1, [.ref q1, .ref q2, .ref q3, .ref q4, .int (nI n)])), (q1, .inl (cI, 40, .inl K)), (q2, .inl (cI, 40, .inl O)), (q3, .inl (cI, 40, .inl T)), (q4, .inl (cI, 40, .inl Z))] sz) := by
  refine bc_met (fun A => va_Qi (fun (r : Int32) (u : Unit) => (r = 1 ∧ bc_gs (K i)) ∨ (r = 0 ∧ ¬ bc_gs (K i))) (fun (u : Unit) t => bc_B (dC, dI) classes [(cI, .int), (cZ, .boolean)] A [(h0, .inr (1, [.ref q1, .ref q2, .ref q3, .ref q4, .int (nI n)])), (q1, .inl (cI, 40, .inl K)), (q2, .inl (cI, 40, .inl O)), (q3, .inl (cI, 40, .inl T)), (q4, .inl (cI, 40, .inl Z))] t) A) (by decide) (Nat.le_of_ble_eq_true rfl) ?_
  intro p e s m args below meth c A ls F hr hlocks hin hA hP hD hl hS
  have hx := F.1
  have hb := F.2.1
  have hml := F.2.2.1
  have hown : s.vm.findClass "BranchConstants$Code" = some m.cls := F.2.2.2.1
  have htw := F.2.2.2.2.1
  have hN := F.2.2.2.2.2.1
  have hK := F.2.2.2.2.2.2
  have hl : lv_has ls 2 [(0, .ref h0), (1, .int (nI i))] := hl
  refine lv_aload_n hx hb de_C_hasTarget_0 rfl (lv_at hl 0 rfl) ?_
  refine va_get (D := (dC, dI)) (ci := 1) (v := .ref q1) (C := rc_C) (T := fc_C) (N := 5) hx hb htw wi_C hown hK hP 0 rfl rfl 0 (by decide) (htw _ wm_28) (fun _ h9 => h9) rfl de_C_hasTarget_1 ?_
  refine lv_iload_n hx hb de_C_hasTarget_4 rfl (lv_at hl 1 rfl) ?_
  refine bc_ild (j := i) hx hb hK hP 1 0 rfl rfl (by omega) (by decide) de_C_hasTarget_5 ?_
  refine lv_iconst (v := 5) hx hb de_C_hasTarget_6 (by decide) ?_
  refine lv_icmp_eq (tgt := 21) hx hb de_C_hasTarget_7 (by decide) (fun hc_7 => ?_) (fun hc_7 => ?_)
  · refine lv_iconst (v := 1) hx hb de_C_hasTarget_21 (by decide) ?_
    refine lv_goto (tgt := 26) hx hb de_C_hasTarget_22 (by decide) ?_
    exact bc_zret F hr hlocks rfl (()) (Or.inl ⟨rfl, Or.inr hc_7⟩) hP hD hS de_C_hasTarget_26
  · refine lv_aload_n hx hb de_C_hasTarget_10 rfl (lv_at hl 0 rfl) ?_
    refine va_get (D := (dC, dI)) (ci := 1) (v := .ref q1) (C := rc_C) (T := fc_C) (N := 5) hx hb htw wi_C hown hK hP 0 rfl rfl 0 (by decide) (htw _ wm_28) (fun _ h9 => h9) rfl de_C_hasTarget_11 ?_
    refine lv_iload_n hx hb de_C_hasTarget_14 rfl (lv_at hl 1 rfl) ?_
    refine bc_ild (j := i) hx hb hK hP 1 0 rfl rfl (by omega) (by decide) de_C_hasTarget_15 ?_
    refine lv_bipush (v := 6) hx hb de_C_hasTarget_16 (by decide) ?_
    refine lv_icmp_ne (tgt := 25) hx hb de_C_hasTarget_18 (by decide) (fun hc_18 => ?_) (fun hc_18 => ?_)
    · refine lv_iconst (v := 0) hx hb de_C_hasTarget_25 (by decide) ?_
      exact bc_zret F hr hlocks rfl (()) (Or.inr ⟨rfl, bc_gs_no hc_7 hc_18⟩) hP hD hS de_C_hasTarget_26
    · refine lv_iconst (v := 1) hx hb de_C_hasTarget_21 (by decide) ?_
      refine lv_goto (tgt := 26) hx hb de_C_hasTarget_22 (by decide) ?_
      exact bc_zret F hr hlocks rfl (()) (Or.inl ⟨rfl, Or.inl hc_18⟩) hP hD hS de_C_hasTarget_26

set_option maxHeartbeats 4000000 in
set_option maxRecDepth 100000 in
/-- its target, END as count -/
theorem co_C_target {l : Launch} {dC : Nat → ClassId} {dI : Nat → Nat → Nat} {cI cZ : ClassId} {sz : Nat} {h0 q1 q2 q3 q4 n : Nat} {K O T Z : bc_F} {i : Nat} (hi : i < 40) (hn : n ≤ 40) (ht : bc_tr (T i)) : Met l yn_C_target (Cond.code yn_C_target by_C_target 2 (some FieldType.int) :: wd_all) ({ frames := 0, cells := 0, slots := 0, locals := 0 } : Room) (bc_Pre (dC, dI) classes [(cI, .int), (cZ, .boolean)] [.ref h0, .int (nI i)] [(h0, .inr (1, [.ref q1, .ref q2, .ref q3, .ref q4, .int (nI n)])), (q1, .inl (cI, 40, .inl K)), (q2, .inl (cI, 40, .inl O)), (q3, .inl (cI, 40, .inl T)), (q4, .inl (cI, 40, .inl Z))] sz) (va_Qi (fun (r : Int32) (u : Unit) => r = nI (bc_tn n (T i))) (fun (u : Unit) t => bc_B (dC, dI) classes [(cI, .int), (cZ, .boolean)] (va_A [(h0, .inr (1, [.ref q1, .ref q2, .ref q3, .ref q4, .int (nI n)])), (q1, .inl (cI, 40, .inl K)), (q2, .inl (cI, 40, .inl O)), (q3, .inl (cI, 40, .inl T)), (q4, .inl (cI, 40, .inl Z))] sz) [(h0, .inr (1, [.ref q1, .ref q2, .ref q3, .ref q4, .int (nI n)])), (q1, .inl (cI, 40, .inl K)), (q2, .inl (cI, 40, .inl O)), (q3, .inl (cI, 40, .inl T)), (q4, .inl (cI, 40, .inl Z))] t) ((va_A [(h0, .inr (1, [.ref q1, .ref q2, .ref q3, .ref q4, .int (nI n)])), (q1, .inl (cI, 40, .inl K)), (q2, .inl (cI, 40, .inl O)), (q3, .inl (cI, 40, .inl T)), (q4, .inl (cI, 40, .inl Z))] sz))) 0 0 (va_A [(h0, .inr (1, [.ref q1, .ref q2, .ref q3, .ref q4, .int (nI n)])), (q1, .inl (cI, 40, .inl K)), (q2, .inl (cI, 40, .inl O)), (q3, .inl (cI, 40, .inl T)), (q4, .inl (cI, 40, .inl Z))] sz) := by
  refine bc_met (fun A => va_Qi (fun (r : Int32) (u : Unit) => r = nI (bc_tn n (T i))) (fun (u : Unit) t => bc_B (dC, dI) classes [(cI, .int), (cZ, .boolean)] A [(h0, .inr (1, [.ref q1, .ref q2, .ref q3, .ref q4, .int (nI n)])), (q1, .inl (cI, 40, .inl K)), (q2, .inl (cI, 40, .inl O)), (q3, .inl (cI, 40, .inl T)), (q4, .inl (cI, 40, .inl Z))] t) A) (by decide) (Nat.le_of_ble_eq_true rfl) ?_
  intro p e s m args below meth c A ls F hr hlocks hin hA hP hD hl hS
  have hx := F.1
  have hb := F.2.1
  have hml := F.2.2.1
  have hown : s.vm.findClass "BranchConstants$Code" = some m.cls := F.2.2.2.1
  have htw := F.2.2.2.2.1
  have hN := F.2.2.2.2.2.1
  have hK := F.2.2.2.2.2.2
  have hl : lv_has ls 2 [(0, .ref h0), (1, .int (nI i))] := hl
  refine lv_aload_n hx hb de_C_target_0 rfl (lv_at hl 0 rfl) ?_
  refine va_get (D := (dC, dI)) (ci := 1) (v := .ref q3) (C := rc_C) (T := fc_C) (N := 5) hx hb htw wi_C hown hK hP 0 rfl rfl 2 (by decide) (htw _ wm_30) (fun _ h9 => h9) rfl de_C_target_1 ?_
  refine lv_iload_n hx hb de_C_target_4 rfl (lv_at hl 1 rfl) ?_
  refine bc_ild (j := i) hx hb hK hP 3 0 rfl rfl (by omega) (by decide) de_C_target_5 ?_
  refine lv_aload_n hx hb de_C_target_6 rfl (lv_at hl 0 rfl) ?_
  refine va_get (D := (dC, dI)) (ci := 1) (v := .int (nI n)) (C := rc_C) (T := fc_C) (N := 5) hx hb htw wi_C hown hK hP 0 rfl rfl 4 (by decide) (htw _ wm_32) (fun _ h9 => h9) rfl de_C_target_7 ?_
  refine lv_icmp_ge (tgt := 22) hx hb de_C_target_10 (by decide) (fun hc_10 => ?_) (fun hc_10 => ?_)
  · refine lv_aload_n hx hb de_C_target_22 rfl (lv_at hl 0 rfl) ?_
    refine va_get (D := (dC, dI)) (ci := 1) (v := .int (nI n)) (C := rc_C) (T := fc_C) (N := 5) hx hb htw wi_C hown hK hP 0 rfl rfl 4 (by decide) (htw _ wm_32) (fun _ h9 => h9) rfl de_C_target_23 ?_
    exact bc_iret F hr hlocks (()) (bc_tn_ge (by omega) ht hc_10) hP hD hS de_C_target_26
  · refine lv_aload_n hx hb de_C_target_13 rfl (lv_at hl 0 rfl) ?_
    refine va_get (D := (dC, dI)) (ci := 1) (v := .ref q3) (C := rc_C) (T := fc_C) (N := 5) hx hb htw wi_C hown hK hP 0 rfl rfl 2 (by decide) (htw _ wm_30) (fun _ h9 => h9) rfl de_C_target_14 ?_
    refine lv_iload_n hx hb de_C_target_17 rfl (lv_at hl 1 rfl) ?_
    refine bc_ild (j := i) hx hb hK hP 3 0 rfl rfl (by omega) (by decide) de_C_target_18 ?_
    refine lv_goto (tgt := 26) hx hb de_C_target_19 (by decide) ?_
    exact bc_iret F hr hlocks (()) (bc_tn_lt (by omega) ht hc_10) hP hD hS de_C_target_26

set_option maxHeartbeats 4000000 in
set_option maxRecDepth 100000 in
/-- a number of an instruction -/
theorem co_C_number {l : Launch} {dC : Nat → ClassId} {dI : Nat → Nat → Nat} {cI cZ : ClassId} {sz : Nat} {h0 q1 q2 q3 q4 n : Nat} {K O T Z : bc_F} {i : Nat} {w : Int32} (hi : i < 40) : Met l yn_C_number (Cond.code yn_C_number by_C_number 3 (some FieldType.int) :: wd_all) ({ frames := 0, cells := 0, slots := 0, locals := 0 } : Room) (bc_Pre (dC, dI) classes [(cI, .int), (cZ, .boolean)] [.ref h0, .int (nI i), .int w] [(h0, .inr (1, [.ref q1, .ref q2, .ref q3, .ref q4, .int (nI n)])), (q1, .inl (cI, 40, .inl K)), (q2, .inl (cI, 40, .inl O)), (q3, .inl (cI, 40, .inl T)), (q4, .inl (cI, 40, .inl Z))] sz) (va_Qi (fun (r : Int32) (u : Unit) => r = bc_nu K O T Z i w) (fun (u : Unit) t => bc_B (dC, dI) classes [(cI, .int), (cZ, .boolean)] (va_A [(h0, .inr (1, [.ref q1, .ref q2, .ref q3, .ref q4, .int (nI n)])), (q1, .inl (cI, 40, .inl K)), (q2, .inl (cI, 40, .inl O)), (q3, .inl (cI, 40, .inl T)), (q4, .inl (cI, 40, .inl Z))] sz) [(h0, .inr (1, [.ref q1, .ref q2, .ref q3, .ref q4, .int (nI n)])), (q1, .inl (cI, 40, .inl K)), (q2, .inl (cI, 40, .inl O)), (q3, .inl (cI, 40, .inl T)), (q4, .inl (cI, 40, .inl Z))] t) ((va_A [(h0, .inr (1, [.ref q1, .ref q2, .ref q3, .ref q4, .int (nI n)])), (q1, .inl (cI, 40, .inl K)), (q2, .inl (cI, 40, .inl O)), (q3, .inl (cI, 40, .inl T)), (q4, .inl (cI, 40, .inl Z))] sz))) 0 0 (va_A [(h0, .inr (1, [.ref q1, .ref q2, .ref q3, .ref q4, .int (nI n)])), (q1, .inl (cI, 40, .inl K)), (q2, .inl (cI, 40, .inl O)), (q3, .inl (cI, 40, .inl T)), (q4, .inl (cI, 40, .inl Z))] sz) := by
  refine bc_met (fun A => va_Qi (fun (r : Int32) (u : Unit) => r = bc_nu K O T Z i w) (fun (u : Unit) t => bc_B (dC, dI) classes [(cI, .int), (cZ, .boolean)] A [(h0, .inr (1, [.ref q1, .ref q2, .ref q3, .ref q4, .int (nI n)])), (q1, .inl (cI, 40, .inl K)), (q2, .inl (cI, 40, .inl O)), (q3, .inl (cI, 40, .inl T)), (q4, .inl (cI, 40, .inl Z))] t) A) (by decide) (Nat.le_of_ble_eq_true rfl) ?_
  intro p e s m args below meth c A ls F hr hlocks hin hA hP hD hl hS
  have hx := F.1
  have hb := F.2.1
  have hml := F.2.2.1
  have hown : s.vm.findClass "BranchConstants$Code" = some m.cls := F.2.2.2.1
  have htw := F.2.2.2.2.1
  have hN := F.2.2.2.2.2.1
  have hK := F.2.2.2.2.2.2
  have hl : lv_has ls 3 [(0, .ref h0), (1, .int (nI i)), (2, .int w)] := hl
  refine lv_iload_n hx hb de_C_number_0 rfl (lv_at hl 2 rfl) ?_
  by_cases hs_1_0 : w = 0
  · refine bc_ti hs_1_0 ?_
    refine lv_tableIn (off := 27) (tgt := 28) hx hb de_C_number_1 (by decide) (by decide) rfl (by decide) ?_
    refine lv_aload_n hx hb de_C_number_28 rfl (lv_at hl 0 rfl) ?_
    refine va_get (D := (dC, dI)) (ci := 1) (v := .ref q1) (C := rc_C) (T := fc_C) (N := 5) hx hb htw wi_C hown hK hP 0 rfl rfl 0 (by decide) (htw _ wm_28) (fun _ h9 => h9) rfl de_C_number_29 ?_
    refine lv_iload_n hx hb de_C_number_32 rfl (lv_at hl 1 rfl) ?_
    refine bc_ild (j := i) hx hb hK hP 1 0 rfl rfl (by omega) (by decide) de_C_number_33 ?_
    exact bc_iret F hr hlocks (()) (by unfold bc_nu; rw [if_pos hs_1_0]) hP hD hS de_C_number_34
  by_cases hs_1_1 : w = 1
  · refine bc_ti hs_1_1 ?_
    refine lv_tableIn (off := 34) (tgt := 35) hx hb de_C_number_1 (by decide) (by decide) rfl (by decide) ?_
    refine lv_aload_n hx hb de_C_number_35 rfl (lv_at hl 0 rfl) ?_
    refine va_get (D := (dC, dI)) (ci := 1) (v := .ref q2) (C := rc_C) (T := fc_C) (N := 5) hx hb htw wi_C hown hK hP 0 rfl rfl 1 (by decide) (htw _ wm_29) (fun _ h9 => h9) rfl de_C_number_36 ?_
    refine lv_iload_n hx hb de_C_number_39 rfl (lv_at hl 1 rfl) ?_
    refine bc_ild (j := i) hx hb hK hP 2 0 rfl rfl (by omega) (by decide) de_C_number_40 ?_
    exact bc_iret F hr hlocks (()) (by unfold bc_nu; rw [if_neg hs_1_0, if_pos hs_1_1]) hP hD hS de_C_number_41
  by_cases hs_1_2 : w = 2
  · refine bc_ti hs_1_2 ?_
    refine lv_tableIn (off := 41) (tgt := 42) hx hb de_C_number_1 (by decide) (by decide) rfl (by decide) ?_
    refine lv_aload_n hx hb de_C_number_42 rfl (lv_at hl 0 rfl) ?_
    refine va_get (D := (dC, dI)) (ci := 1) (v := .ref q3) (C := rc_C) (T := fc_C) (N := 5) hx hb htw wi_C hown hK hP 0 rfl rfl 2 (by decide) (htw _ wm_30) (fun _ h9 => h9) rfl de_C_number_43 ?_
    refine lv_iload_n hx hb de_C_number_46 rfl (lv_at hl 1 rfl) ?_
    refine bc_ild (j := i) hx hb hK hP 3 0 rfl rfl (by omega) (by decide) de_C_number_47 ?_
    exact bc_iret F hr hlocks (()) (by unfold bc_nu; rw [if_neg hs_1_0, if_neg hs_1_1, if_pos hs_1_2]) hP hD hS de_C_number_48
  refine lv_tableOut (tgt := 49) hx hb de_C_number_1 (bc_to_0_2 hs_1_0 hs_1_1 hs_1_2) (by decide) ?_
  refine lv_aload_n hx hb de_C_number_49 rfl (lv_at hl 0 rfl) ?_
  refine va_get (D := (dC, dI)) (ci := 1) (v := .ref q4) (C := rc_C) (T := fc_C) (N := 5) hx hb htw wi_C hown hK hP 0 rfl rfl 3 (by decide) (htw _ wm_31) (fun _ h9 => h9) rfl de_C_number_50 ?_
  refine lv_iload_n hx hb de_C_number_53 rfl (lv_at hl 1 rfl) ?_
  refine bc_ild (j := i) hx hb hK hP 4 0 rfl rfl (by omega) (by decide) de_C_number_54 ?_
  exact bc_iret F hr hlocks (()) (by unfold bc_nu; rw [if_neg hs_1_0, if_neg hs_1_1, if_neg hs_1_2]) hP hD hS de_C_number_55

set_option maxHeartbeats 4000000 in
set_option maxRecDepth 100000 in
/-- an instruction is put; numbers not needed are 0 -/
theorem co_C_put {l : Launch} {dC : Nat → ClassId} {dI : Nat → Nat → Nat} {cI cZ : ClassId} {sz : Nat} {h0 q1 q2 q3 q4 n : Nat} {K O T Z : bc_F} {i : Nat} {k a b d : Int32} (hi : i < 40) : Met l yn_C_put (Cond.code yn_C_put by_C_put 6 none :: wd_all) ({ frames := 0, cells := 0, slots := 0, locals := 0 } : Room) (bc_Pre (dC, dI) classes [(cI, .int), (cZ, .boolean)] [.ref h0, .int (nI i), .int k, .int a, .int b, .int d] [(h0, .inr (1, [.ref q1, .ref q2, .ref q3, .ref q4, .int (nI n)])), (q1, .inl (cI, 40, .inl K)), (q2, .inl (cI, 40, .inl O)), (q3, .inl (cI, 40, .inl T)), (q4, .inl (cI, 40, .inl Z))] sz) (va_Qv (fun (u : bc_F × bc_F × bc_F × bc_F) => u = (upd K i k, upd O i (bc_p1 k a), upd T i (bc_p2 k b), upd Z i (bc_p3 k d))) (fun (u : bc_F × bc_F × bc_F × bc_F) t => bc_B (dC, dI) classes [(cI, .int), (cZ, .boolean)] (va_A [(h0, .inr (1, [.ref q1, .ref q2, .ref q3, .ref q4, .int (nI n)])), (q1, .inl (cI, 40, .inl K)), (q2, .inl (cI, 40, .inl O)), (q3, .inl (cI, 40, .inl T)), (q4, .inl (cI, 40, .inl Z))] sz) [(h0, .inr (1, [.ref q1, .ref q2, .ref q3, .ref q4, .int (nI n)])), (q1, .inl (cI, 40, .inl u.1)), (q2, .inl (cI, 40, .inl u.2.1)), (q3, .inl (cI, 40, .inl u.2.2.1)), (q4, .inl (cI, 40, .inl u.2.2.2))] t) ((va_A [(h0, .inr (1, [.ref q1, .ref q2, .ref q3, .ref q4, .int (nI n)])), (q1, .inl (cI, 40, .inl K)), (q2, .inl (cI, 40, .inl O)), (q3, .inl (cI, 40, .inl T)), (q4, .inl (cI, 40, .inl Z))] sz))) 0 0 (va_A [(h0, .inr (1, [.ref q1, .ref q2, .ref q3, .ref q4, .int (nI n)])), (q1, .inl (cI, 40, .inl K)), (q2, .inl (cI, 40, .inl O)), (q3, .inl (cI, 40, .inl T)), (q4, .inl (cI, 40, .inl Z))] sz) := by
  refine bc_met (fun A => va_Qv (fun (u : bc_F × bc_F × bc_F × bc_F) => u = (upd K i k, upd O i (bc_p1 k a), upd T i (bc_p2 k b), upd Z i (bc_p3 k d))) (fun (u : bc_F × bc_F × bc_F × bc_F) t => bc_B (dC, dI) classes [(cI, .int), (cZ, .boolean)] A [(h0, .inr (1, [.ref q1, .ref q2, .ref q3, .ref q4, .int (nI n)])), (q1, .inl (cI, 40, .inl u.1)), (q2, .inl (cI, 40, .inl u.2.1)), (q3, .inl (cI, 40, .inl u.2.2.1)), (q4, .inl (cI, 40, .inl u.2.2.2))] t) A) (by decide) (Nat.le_of_ble_eq_true rfl) ?_
  intro p e s m args below meth c A ls F hr hlocks hin hA hP hD hl hS
  have hx := F.1
  have hb := F.2.1
  have hml := F.2.2.1
  have hown : s.vm.findClass "BranchConstants$Code" = some m.cls := F.2.2.2.1
  have htw := F.2.2.2.2.1
  have hN := F.2.2.2.2.2.1
  have hK := F.2.2.2.2.2.2
  have hl : lv_has ls 6 [(0, .ref h0), (1, .int (nI i)), (2, .int k), (3, .int a), (4, .int b), (5, .int d)] := hl
  refine lv_aload_n hx hb de_C_put_0 rfl (lv_at hl 0 rfl) ?_
  refine va_get (D := (dC, dI)) (ci := 1) (v := .ref q1) (C := rc_C) (T := fc_C) (N := 5) hx hb htw wi_C hown hK hP 0 rfl rfl 0 (by decide) (htw _ wm_28) (fun _ h9 => h9) rfl de_C_put_1 ?_
  refine lv_iload_n hx hb de_C_put_4 rfl (lv_at hl 1 rfl) ?_
  refine lv_iload_n hx hb de_C_put_5 rfl (lv_at hl 2 rfl) ?_
  refine bc_ist (j := i) hx hb hK hP hD hS 1 0 rfl rfl (by omega) (by decide) de_C_put_6 (fun H locs hP hD hS => ?_)
  have hP : va_P (dC, dI) classes [(h0, .inr (1, [.ref q1, .ref q2, .ref q3, .ref q4, .int (nI n)])), (q1, .inl (cI, 40, .inl (upd K i k))), (q2, .inl (cI, 40, .inl O)), (q3, .inl (cI, 40, .inl T)), (q4, .inl (cI, 40, .inl Z))] H := hP
  have hD : va_D A [(h0, .inr (1, [.ref q1, .ref q2, .ref q3, .ref q4, .int (nI n)])), (q1, .inl (cI, 40, .inl (upd K i k))), (q2, .inl (cI, 40, .inl O)), (q3, .inl (cI, 40, .inl T)), (q4, .inl (cI, 40, .inl Z))] := hD
  refine lv_aload_n hx hb de_C_put_7 rfl (lv_at hl 0 rfl) ?_
  refine va_get (D := (dC, dI)) (ci := 1) (v := .ref q2) (C := rc_C) (T := fc_C) (N := 5) hx hb htw wi_C hown hK hP 0 rfl rfl 1 (by decide) (htw _ wm_29) (fun _ h9 => h9) rfl de_C_put_8 ?_
  refine lv_iload_n hx hb de_C_put_11 rfl (lv_at hl 1 rfl) ?_
  refine bc_meet (σ := Int32) 29 (fun x => [.int x, .int (nI i), .ref q2]) (fun x H locs ls => (x = bc_p1 k a) ∧ lv_has ls 6 [(0, .ref h0), (1, .int (nI i)), (2, .int k), (3, .int a), (4, .int b), (5, .int d)] ∧ va_P (dC, dI) classes [(h0, .inr (1, [.ref q1, .ref q2, .ref q3, .ref q4, .int (nI n)])), (q1, .inl (cI, 40, .inl (upd K i k))), (q2, .inl (cI, 40, .inl O)), (q3, .inl (cI, 40, .inl T)), (q4, .inl (cI, 40, .inl Z))] H ∧ va_D A [(h0, .inr (1, [.ref q1, .ref q2, .ref q3, .ref q4, .int (nI n)])), (q1, .inl (cI, 40, .inl (upd K i k))), (q2, .inl (cI, 40, .inl O)), (q3, .inl (cI, 40, .inl T)), (q4, .inl (cI, 40, .inl Z))] ∧ va_S A s.heap H locs) ?_ ?_
  · rintro x_29 H locs ls ⟨hm_29, hl, hP, hD, hS⟩
    refine bc_ist (j := i) hx hb hK hP hD hS 2 0 rfl rfl (by omega) (by decide) de_C_put_29 (fun H locs hP hD hS => ?_)
    have hP : va_P (dC, dI) classes [(h0, .inr (1, [.ref q1, .ref q2, .ref q3, .ref q4, .int (nI n)])), (q1, .inl (cI, 40, .inl (upd K i k))), (q2, .inl (cI, 40, .inl (upd O i x_29))), (q3, .inl (cI, 40, .inl T)), (q4, .inl (cI, 40, .inl Z))] H := hP
    have hD : va_D A [(h0, .inr (1, [.ref q1, .ref q2, .ref q3, .ref q4, .int (nI n)])), (q1, .inl (cI, 40, .inl (upd K i k))), (q2, .inl (cI, 40, .inl (upd O i x_29))), (q3, .inl (cI, 40, .inl T)), (q4, .inl (cI, 40, .inl Z))] := hD
    refine lv_aload_n hx hb de_C_put_30 rfl (lv_at hl 0 rfl) ?_
    refine va_get (D := (dC, dI)) (ci := 1) (v := .ref q3) (C := rc_C) (T := fc_C) (N := 5) hx hb htw wi_C hown hK hP 0 rfl rfl 2 (by decide) (htw _ wm_30) (fun _ h9 => h9) rfl de_C_put_31 ?_
    refine lv_iload_n hx hb de_C_put_34 rfl (lv_at hl 1 rfl) ?_
    refine bc_meet (σ := Int32) 47 (fun x => [.int x, .int (nI i), .ref q3]) (fun x H locs ls => (x = bc_p2 k b) ∧ lv_has ls 6 [(0, .ref h0), (1, .int (nI i)), (2, .int k), (3, .int a), (4, .int b), (5, .int d)] ∧ va_P (dC, dI) classes [(h0, .inr (1, [.ref q1, .ref q2, .ref q3, .ref q4, .int (nI n)])), (q1, .inl (cI, 40, .inl (upd K i k))), (q2, .inl (cI, 40, .inl (upd O i x_29))), (q3, .inl (cI, 40, .inl T)), (q4, .inl (cI, 40, .inl Z))] H ∧ va_D A [(h0, .inr (1, [.ref q1, .ref q2, .ref q3, .ref q4, .int (nI n)])), (q1, .inl (cI, 40, .inl (upd K i k))), (q2, .inl (cI, 40, .inl (upd O i x_29))), (q3, .inl (cI, 40, .inl T)), (q4, .inl (cI, 40, .inl Z))] ∧ va_S A s.heap H locs) ?_ ?_
    · rintro x_47 H locs ls ⟨hm_47, hl, hP, hD, hS⟩
      refine bc_ist (j := i) hx hb hK hP hD hS 3 0 rfl rfl (by omega) (by decide) de_C_put_47 (fun H locs hP hD hS => ?_)
      have hP : va_P (dC, dI) classes [(h0, .inr (1, [.ref q1, .ref q2, .ref q3, .ref q4, .int (nI n)])), (q1, .inl (cI, 40, .inl (upd K i k))), (q2, .inl (cI, 40, .inl (upd O i x_29))), (q3, .inl (cI, 40, .inl (upd T i x_47))), (q4, .inl (cI, 40, .inl Z))] H := hP
      have hD : va_D A [(h0, .inr (1, [.ref q1, .ref q2, .ref q3, .ref q4, .int (nI n)])), (q1, .inl (cI, 40, .inl (upd K i k))), (q2, .inl (cI, 40, .inl (upd O i x_29))), (q3, .inl (cI, 40, .inl (upd T i x_47))), (q4, .inl (cI, 40, .inl Z))] := hD
      refine lv_aload_n hx hb de_C_put_48 rfl (lv_at hl 0 rfl) ?_
      refine va_get (D := (dC, dI)) (ci := 1) (v := .ref q4) (C := rc_C) (T := fc_C) (N := 5) hx hb htw wi_C hown hK hP 0 rfl rfl 3 (by decide) (htw _ wm_31) (fun _ h9 => h9) rfl de_C_put_49 ?_
      refine lv_iload_n hx hb de_C_put_52 rfl (lv_at hl 1 rfl) ?_
      refine bc_meet (σ := Int32) 74 (fun x => [.int x, .int (nI i), .ref q4]) (fun x H locs ls => (x = bc_p3 k d) ∧ lv_has ls 6 [(0, .ref h0), (1, .int (nI i)), (2, .int k), (3, .int a), (4, .int b), (5, .int d)] ∧ va_P (dC, dI) classes [(h0, .inr (1, [.ref q1, .ref q2, .ref q3, .ref q4, .int (nI n)])), (q1, .inl (cI, 40, .inl (upd K i k))), (q2, .inl (cI, 40, .inl (upd O i x_29))), (q3, .inl (cI, 40, .inl (upd T i x_47))), (q4, .inl (cI, 40, .inl Z))] H ∧ va_D A [(h0, .inr (1, [.ref q1, .ref q2, .ref q3, .ref q4, .int (nI n)])), (q1, .inl (cI, 40, .inl (upd K i k))), (q2, .inl (cI, 40, .inl (upd O i x_29))), (q3, .inl (cI, 40, .inl (upd T i x_47))), (q4, .inl (cI, 40, .inl Z))] ∧ va_S A s.heap H locs) ?_ ?_
      · rintro x_74 H locs ls ⟨hm_74, hl, hP, hD, hS⟩
        refine bc_ist (j := i) hx hb hK hP hD hS 4 0 rfl rfl (by omega) (by decide) de_C_put_74 (fun H locs hP hD hS => ?_)
        have hP : va_P (dC, dI) classes [(h0, .inr (1, [.ref q1, .ref q2, .ref q3, .ref q4, .int (nI n)])), (q1, .inl (cI, 40, .inl (upd K i k))), (q2, .inl (cI, 40, .inl (upd O i x_29))), (q3, .inl (cI, 40, .inl (upd T i x_47))), (q4, .inl (cI, 40, .inl (upd Z i x_74)))] H := hP
        have hD : va_D A [(h0, .inr (1, [.ref q1, .ref q2, .ref q3, .ref q4, .int (nI n)])), (q1, .inl (cI, 40, .inl (upd K i k))), (q2, .inl (cI, 40, .inl (upd O i x_29))), (q3, .inl (cI, 40, .inl (upd T i x_47))), (q4, .inl (cI, 40, .inl (upd Z i x_74)))] := hD
        exact bc_vret F hr hlocks ((upd K i k, upd O i x_29, upd T i x_47, upd Z i x_74)) (by rw [hm_29, hm_47, hm_74]) hP hD hS de_C_put_75
      · intro km_74
        refine lv_iload_n hx hb de_C_put_53 rfl (lv_at hl 2 rfl) ?_
        refine lv_iconst (v := 2) hx hb de_C_put_54 (by decide) ?_
        refine lv_icmp_eq (tgt := 68) hx hb de_C_put_55 (by decide) (fun hc_55 => ?_) (fun hc_55 => ?_)
        · refine lv_iload hx hb de_C_put_68 (lv_at hl 5 rfl) ?_
          refine lv_goto (tgt := 74) hx hb de_C_put_70 (by decide) ?_
          exact km_74 d _ _ _ ⟨(by unfold bc_p3; rw [if_pos (Or.inl hc_55)]), hl, hP, hD, hS⟩
        · refine lv_iload_n hx hb de_C_put_58 rfl (lv_at hl 2 rfl) ?_
          refine lv_iconst (v := 3) hx hb de_C_put_59 (by decide) ?_
          refine lv_icmp_eq (tgt := 68) hx hb de_C_put_60 (by decide) (fun hc_60 => ?_) (fun hc_60 => ?_)
          · refine lv_iload hx hb de_C_put_68 (lv_at hl 5 rfl) ?_
            refine lv_goto (tgt := 74) hx hb de_C_put_70 (by decide) ?_
            exact km_74 d _ _ _ ⟨(by unfold bc_p3; rw [if_pos (Or.inr (Or.inl hc_60))]), hl, hP, hD, hS⟩
          · refine lv_iload_n hx hb de_C_put_63 rfl (lv_at hl 2 rfl) ?_
            refine lv_iconst (v := 4) hx hb de_C_put_64 (by decide) ?_
            refine lv_icmp_ne (tgt := 73) hx hb de_C_put_65 (by decide) (fun hc_65 => ?_) (fun hc_65 => ?_)
            · refine lv_iconst (v := 0) hx hb de_C_put_73 (by decide) ?_
              exact km_74 0 _ _ _ ⟨(by unfold bc_p3; rw [if_neg (fun z => z.elim hc_55 (fun z => z.elim hc_60 hc_65))]), hl, hP, hD, hS⟩
            · refine lv_iload hx hb de_C_put_68 (lv_at hl 5 rfl) ?_
              refine lv_goto (tgt := 74) hx hb de_C_put_70 (by decide) ?_
              exact km_74 d _ _ _ ⟨(by unfold bc_p3; rw [if_pos (Or.inr (Or.inr hc_65))]), hl, hP, hD, hS⟩
    · intro km_47
      refine lv_iload_n hx hb de_C_put_35 rfl (lv_at hl 2 rfl) ?_
      refine lv_bipush (v := 7) hx hb de_C_put_36 (by decide) ?_
      refine lv_icmp_ne (tgt := 45) hx hb de_C_put_38 (by decide) (fun hc_38 => ?_) (fun hc_38 => ?_)
      · refine lv_iload hx hb de_C_put_45 (lv_at hl 4 rfl) ?_
        exact km_47 b _ _ _ ⟨(by unfold bc_p2; rw [if_neg hc_38]), hl, hP, hD, hS⟩
      · refine lv_iconst (v := 0) hx hb de_C_put_41 (by decide) ?_
        refine lv_goto (tgt := 47) hx hb de_C_put_42 (by decide) ?_
        exact km_47 0 _ _ _ ⟨(by unfold bc_p2; rw [if_pos hc_38]), hl, hP, hD, hS⟩
  · intro km_29
    refine lv_iload_n hx hb de_C_put_12 rfl (lv_at hl 2 rfl) ?_
    refine lv_bipush (v := 6) hx hb de_C_put_13 (by decide) ?_
    refine lv_icmp_eq (tgt := 24) hx hb de_C_put_15 (by decide) (fun hc_15 => ?_) (fun hc_15 => ?_)
    · refine lv_iconst (v := 0) hx hb de_C_put_24 (by decide) ?_
      refine lv_goto (tgt := 29) hx hb de_C_put_25 (by decide) ?_
      exact km_29 0 _ _ _ ⟨(by unfold bc_p1; rw [if_pos (Or.inl hc_15)]), hl, hP, hD, hS⟩
    · refine lv_iload_n hx hb de_C_put_18 rfl (lv_at hl 2 rfl) ?_
      refine lv_bipush (v := 7) hx hb de_C_put_19 (by decide) ?_
      refine lv_icmp_ne (tgt := 28) hx hb de_C_put_21 (by decide) (fun hc_21 => ?_) (fun hc_21 => ?_)
      · refine lv_iload_n hx hb de_C_put_28 rfl (lv_at hl 3 rfl) ?_
        exact km_29 a _ _ _ ⟨(by unfold bc_p1; rw [if_neg (fun z => z.elim hc_15 hc_21)]), hl, hP, hD, hS⟩
      · refine lv_iconst (v := 0) hx hb de_C_put_24 (by decide) ?_
        refine lv_goto (tgt := 29) hx hb de_C_put_25 (by decide) ?_
        exact km_29 0 _ _ _ ⟨(by unfold bc_p1; rw [if_pos (Or.inr hc_21)]), hl, hP, hD, hS⟩

