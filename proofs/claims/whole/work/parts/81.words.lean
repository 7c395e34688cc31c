/-! my words are among the tables' -/
set_option maxRecDepth 100000 in
set_option maxHeartbeats 4000000 in
theorem tw_in : ∀ w ∈ tw_all, w ∈ tables_1 ∨ w ∈ flatC narrow_1 := by decide +kernel
set_option maxRecDepth 100000 in
set_option maxHeartbeats 4000000 in
theorem nw_in : ∀ w ∈ nw_all, w ∈ tables_1 := by decide +kernel
set_option maxRecDepth 100000 in
set_option maxHeartbeats 4000000 in
theorem sw_in : Cond.laysStatic "java/lang/Throwable" "UNASSIGNED_STACK" "[Ljava/lang/StackTraceElement;" ∈ tables_1 ∧ Cond.laysStatic "java/lang/Throwable" "SUPPRESSED_SENTINEL" "Ljava/util/List;" ∈ tables_1 ∧ Cond.isRef (.static "java/lang/Throwable" "UNASSIGNED_STACK" "[Ljava/lang/StackTraceElement;") ∈ flatC narrow_1 ∧ Cond.isRef (.static "java/lang/Throwable" "SUPPRESSED_SENTINEL" "Ljava/util/List;") ∈ flatC narrow_1 := by decide +kernel
theorem bc_entry_T {s : State} {args : Array Value} (hts : ∀ w ∈ tables_1, w.before args s = true) (hnr : ∀ w ∈ flatC narrow_1, w.before args s = true) : bc_T s := by
  refine ⟨fun w hw a => bc_t_mv (args := args) (List.all_eq_true.mp tw_kind w hw) (State.WarmedH.refl s) ?_, bc_Z1.of (hts _ sw_in.1) (hnr _ sw_in.2.2.1), bc_Z1.of (hts _ sw_in.2.1) (hnr _ sw_in.2.2.2)⟩
  rcases tw_in w hw with h | h
  · exact hts w h
  · exact hnr w h
