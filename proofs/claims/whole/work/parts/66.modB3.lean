/-! pure roads and throwing roads of the small methods (by program: wip/whole/gen/modB3.py) -/
set_option maxHeartbeats 4000000 in
set_option maxRecDepth 100000 in
theorem at_IOE : ∀ w ∈ Bundle.ownAtoms "BranchConstants" 121 "java/lang/IndexOutOfBoundsException" bc_ups, w ∈ wd_all ∨ w ∈ tw_all ∨ w = .laysStatic "java/lang/Throwable" "UNASSIGNED_STACK" "[Ljava/lang/StackTraceElement;" ∨ w = .laysStatic "java/lang/Throwable" "SUPPRESSED_SENTINEL" "Ljava/util/List;" ∨ w = .isRef (.static "java/lang/Throwable" "UNASSIGNED_STACK" "[Ljava/lang/StackTraceElement;") ∨ w = .isRef (.static "java/lang/Throwable" "SUPPRESSED_SENTINEL" "Ljava/util/List;") := by decide +kernel
set_option maxHeartbeats 4000000 in
set_option maxRecDepth 100000 in
theorem at_ISE : ∀ w ∈ Bundle.ownAtoms "BranchConstants" 55 "java/lang/IllegalStateException" bc_ups, w ∈ wd_all ∨ w ∈ tw_all ∨ w = .laysStatic "java/lang/Throwable" "UNASSIGNED_STACK" "[Ljava/lang/StackTraceElement;" ∨ w = .laysStatic "java/lang/Throwable" "SUPPRESSED_SENTINEL" "Ljava/util/List;" ∨ w = .isRef (.static "java/lang/Throwable" "UNASSIGNED_STACK" "[Ljava/lang/StackTraceElement;") ∨ w = .isRef (.static "java/lang/Throwable" "SUPPRESSED_SENTINEL" "Ljava/util/List;") := by decide +kernel
set_option maxHeartbeats 4000000 in
set_option maxRecDepth 100000 in
theorem at_IAE : ∀ w ∈ Bundle.ownAtoms "BranchConstants" 137 "java/lang/IllegalArgumentException" bc_ups, w ∈ wd_all ∨ w ∈ tw_all ∨ w = .laysStatic "java/lang/Throwable" "UNASSIGNED_STACK" "[Ljava/lang/StackTraceElement;" ∨ w = .laysStatic "java/lang/Throwable" "SUPPRESSED_SENTINEL" "Ljava/util/List;" ∨ w = .isRef (.static "java/lang/Throwable" "UNASSIGNED_STACK" "[Ljava/lang/StackTraceElement;") ∨ w = .isRef (.static "java/lang/Throwable" "SUPPRESSED_SENTINEL" "Ljava/util/List;") := by decide +kernel
set_option maxHeartbeats 4000000 in
set_option maxRecDepth 100000 in
theorem cp_B_isVariable {l : Launch} {dC : Nat → ClassId} {dI : Nat → Nat → Nat} {cI cZ : ClassId} {sz : Nat}   {x : Int32}  : Met l yn_B_isVariable (Cond.code yn_B_isVariable by_B_isVariable 1 (some FieldType.boolean) :: wd_all) ({ frames := 0, cells := 0, slots := 0, locals := 0 } : Room) (bc_Pre (dC, dI) classes [(cI, .int), (cZ, .boolean)] [.int x] [] sz) (bc_pq (fun v => ∃ r, v = some (.int r) ∧ ((r = 1 ∧ bc_vr x) ∨ (r = 0 ∧ ¬ bc_vr x)))) 0 0 bc_no := by
  refine bc_metP (by decide) (Nat.le_of_ble_eq_true rfl) ?_
  intro p e s m args below meth c ls F hr hlocks hP hD hl
  have hx := F.1
  have hb := F.2.1
  have hml := F.2.2.1
  have hown : s.vm.findClass "BranchConstants" = some m.cls := F.2.2.2.1
  have htw := F.2.2.2.2.1
  have hN := F.2.2.2.2.2.1
  have hK := F.2.2.2.2.2.2
  have hl : lv_has ls 1 [(0, .int x)] := hl
  refine lv_iload_n hx hb de_B_isVariable_0 rfl (lv_at hl 0 rfl) ?_
  refine lv_if_lt (tgt := 14) hx hb de_B_isVariable_1 (by decide) (fun hc_1 => ?_) (fun hc_1 => ?_)
  · refine lv_iconst (v := 0) hx hb de_B_isVariable_14 (by decide) ?_
    exact bc_pz F hr hlocks rfl ⟨_, rfl, (Or.inr ⟨rfl, bc_vr_no0 hc_1⟩)⟩ de_B_isVariable_15
  · refine lv_iload_n hx hb de_B_isVariable_4 rfl (lv_at hl 0 rfl) ?_
    refine lv_bipush (v := 6) hx hb de_B_isVariable_5 (by decide) ?_
    refine lv_icmp_ge (tgt := 14) hx hb de_B_isVariable_7 (by decide) (fun hc_7 => ?_) (fun hc_7 => ?_)
    · refine lv_iconst (v := 0) hx hb de_B_isVariable_14 (by decide) ?_
      exact bc_pz F hr hlocks rfl ⟨_, rfl, (Or.inr ⟨rfl, bc_vr_no6 hc_7⟩)⟩ de_B_isVariable_15
    · refine lv_iconst (v := 1) hx hb de_B_isVariable_10 (by decide) ?_
      refine lv_goto (tgt := 15) hx hb de_B_isVariable_11 (by decide) ?_
      exact bc_pz F hr hlocks rfl ⟨_, rfl, (Or.inl ⟨rfl, bc_vr_of hc_1 hc_7⟩)⟩ de_B_isVariable_15

