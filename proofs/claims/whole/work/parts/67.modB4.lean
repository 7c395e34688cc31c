/-! pure roads and throwing roads of the class (by program: wip/whole/gen/modB4.py) -/
theorem bc_le3 {z : Int32} (h : z ≤ 3) : ¬ nI 4 ≤ z := by
  rw [Int32.le_iff_toInt_le] at h
  intro q
  rw [Int32.le_iff_toInt_le] at q
  have e3 : (3 : Int32).toInt = 3 := by decide
  have e4 : (nI 4).toInt = 4 := by decide
  omega
set_option maxHeartbeats 4000000 in
set_option maxRecDepth 100000 in
theorem cp_B_isTarget {l : Launch} {dC : Nat → ClassId} {dI : Nat → Nat → Nat} {cI cZ : ClassId} {sz : Nat}   {x : Int32}  : Met l yn_B_isTarget (Cond.code yn_B_isTarget by_B_isTarget 1 (some FieldType.boolean) :: wd_all) ({ frames := 0, cells := 0, slots := 0, locals := 0 } : Room) (bc_Pre (dC, dI) classes [(cI, .int), (cZ, .boolean)] [.int x] [] sz) (bc_pq (fun v => ∃ r, v = some (.int r) ∧ ((r = 1 ∧ bc_tr x) ∨ (r = 0 ∧ ¬ bc_tr x)))) 0 0 bc_no := by
  refine bc_metP (by decide) (Nat.le_of_ble_eq_true rfl) ?_
  intro p e s m args below meth c ls F hr hlocks hP hD hl
  have hx := F.1
  have hb := F.2.1
  have hml := F.2.2.1
  have hown : s.vm.findClass "BranchConstants" = some m.cls := F.2.2.2.1
  have htw := F.2.2.2.2.1
  have hN := F.2.2.2.2.2.1
  have hK := F.2.2.2.2.2.2
  have hl : lv_has ls 1 [(0, .int x)] := hl
  refine lv_iload_n hx hb de_B_isTarget_0 rfl (lv_at hl 0 rfl) ?_
  refine lv_if_lt (tgt := 14) hx hb de_B_isTarget_1 (by decide) (fun hc_1 => ?_) (fun hc_1 => ?_)
  · refine lv_iconst (v := 0) hx hb de_B_isTarget_14 (by decide) ?_
    exact bc_pz F hr hlocks rfl ⟨_, rfl, (Or.inr ⟨rfl, bc_tr_no0 hc_1⟩)⟩ de_B_isTarget_15
  · refine lv_iload_n hx hb de_B_isTarget_4 rfl (lv_at hl 0 rfl) ?_
    refine lv_bipush (v := 40) hx hb de_B_isTarget_5 (by decide) ?_
    refine lv_icmp_gt (tgt := 14) hx hb de_B_isTarget_7 (by decide) (fun hc_7 => ?_) (fun hc_7 => ?_)
    · refine lv_iconst (v := 0) hx hb de_B_isTarget_14 (by decide) ?_
      exact bc_pz F hr hlocks rfl ⟨_, rfl, (Or.inr ⟨rfl, bc_tr_no6 hc_7⟩)⟩ de_B_isTarget_15
    · refine lv_iconst (v := 1) hx hb de_B_isTarget_10 (by decide) ?_
      refine lv_goto (tgt := 15) hx hb de_B_isTarget_11 (by decide) ?_
      exact bc_pz F hr hlocks rfl ⟨_, rfl, (Or.inl ⟨rfl, bc_tr_of hc_1 hc_7⟩)⟩ de_B_isTarget_15

set_option maxHeartbeats 4000000 in
set_option maxRecDepth 100000 in
theorem cp_B_isInstruction {l : Launch} {dC : Nat → ClassId} {dI : Nat → Nat → Nat} {cI cZ : ClassId} {sz : Nat}   {k o t z : Int32}  : Met l yn_B_isInstruction (Cond.code yn_B_isInstruction by_B_isInstruction 4 (some FieldType.boolean) :: wd_all) ({ frames := 1, cells := 0, slots := 0, locals := 20 } : Room) (bc_Pre (dC, dI) classes [(cI, .int), (cZ, .boolean)] [.int k, .int o, .int t, .int z] [] sz) (bc_pq (fun v => ∃ r, v = some (.int r) ∧ ((r = 1 ∧ bc_si k o t z) ∨ (r = 0 ∧ ¬ bc_si k o t z)))) 0 0 bc_no := by
  refine bc_metP (by decide) (Nat.le_of_ble_eq_true rfl) ?_
  intro p e s m args below meth c ls F hr hlocks hP hD hl
  have hx := F.1
  have hb := F.2.1
  have hml := F.2.2.1
  have hown : s.vm.findClass "BranchConstants" = some m.cls := F.2.2.2.1
  have htw := F.2.2.2.2.1
  have hN := F.2.2.2.2.2.1
  have hK := F.2.2.2.2.2.2
  have hl : lv_has ls 4 [(0, .int k), (1, .int o), (2, .int t), (3, .int z)] := hl
  refine lv_iload_n hx hb de_B_isInstruction_0 rfl (lv_at hl 0 rfl) ?_
  by_cases hs_1_0 : k = 0
  · refine bc_ti hs_1_0 ?_
    refine lv_tableIn (off := 43) (tgt := 44) hx hb de_B_isInstruction_1 (by decide) (by decide) rfl (by decide) ?_
    refine lv_iload_n hx hb de_B_isInstruction_44 rfl (lv_at hl 1 rfl) ?_
    refine bc_pcall_s (As := [.int o]) (rest := []) F (cp_B_isVariable) wm_186 wm_1 wm_184 wm_185 pd_B_isVariable rfl rfl ⟨Nat.le_of_ble_eq_true rfl, Nat.le_of_ble_eq_true rfl⟩ rfl hl.1 rfl (Nat.le_of_ble_eq_true rfl) de_B_isInstruction_45 ⟨Nat.le_of_ble_eq_true rfl, Nat.le_of_ble_eq_true rfl⟩ (fun v9 hv9 => ?_)
    obtain ⟨r_45, rfl, hw_45⟩ := hv9
    refine W.eq (g2 := F0 m 48 ls [.int r_45]) rfl ?_
    rcases hw_45 with ⟨he_45, hv_45⟩ | ⟨he_45, hv_45⟩
    · subst he_45
      exact bc_pz F hr hlocks rfl ⟨_, rfl, (by simp [bc_si, hs_1_0, hv_45])⟩ de_B_isInstruction_48
    · subst he_45
      exact bc_pz F hr hlocks rfl ⟨_, rfl, (by simp [bc_si, hs_1_0, hv_45])⟩ de_B_isInstruction_48
  by_cases hs_1_1 : k = 1
  · refine bc_ti hs_1_1 ?_
    refine lv_tableIn (off := 48) (tgt := 49) hx hb de_B_isInstruction_1 (by decide) (by decide) rfl (by decide) ?_
    refine lv_iload_n hx hb de_B_isInstruction_49 rfl (lv_at hl 1 rfl) ?_
    refine bc_pcall_s (As := [.int o]) (rest := []) F (cp_B_isVariable) wm_186 wm_1 wm_184 wm_185 pd_B_isVariable rfl rfl ⟨Nat.le_of_ble_eq_true rfl, Nat.le_of_ble_eq_true rfl⟩ rfl hl.1 rfl (Nat.le_of_ble_eq_true rfl) de_B_isInstruction_50 ⟨Nat.le_of_ble_eq_true rfl, Nat.le_of_ble_eq_true rfl⟩ (fun v9 hv9 => ?_)
    obtain ⟨r_50, rfl, hw_50⟩ := hv9
    refine W.eq (g2 := F0 m 53 ls [.int r_50]) rfl ?_
    rcases hw_50 with ⟨he_50, hv_50⟩ | ⟨he_50, hv_50⟩
    · subst he_50
      refine lv_if_eq (tgt := 67) hx hb de_B_isInstruction_53 (by decide) (fun hc => absurd hc (by decide)) (fun _ => ?_)
      refine lv_iload_n hx hb de_B_isInstruction_56 rfl (lv_at hl 2 rfl) ?_
      refine bc_pcall_s (As := [.int t]) (rest := []) F (cp_B_isVariable) wm_186 wm_1 wm_184 wm_185 pd_B_isVariable rfl rfl ⟨Nat.le_of_ble_eq_true rfl, Nat.le_of_ble_eq_true rfl⟩ rfl hl.1 rfl (Nat.le_of_ble_eq_true rfl) de_B_isInstruction_57 ⟨Nat.le_of_ble_eq_true rfl, Nat.le_of_ble_eq_true rfl⟩ (fun v9 hv9 => ?_)
      obtain ⟨r_57, rfl, hw_57⟩ := hv9
      refine W.eq (g2 := F0 m 60 ls [.int r_57]) rfl ?_
      rcases hw_57 with ⟨he_57, hv_57⟩ | ⟨he_57, hv_57⟩
      · subst he_57
        refine lv_if_eq (tgt := 67) hx hb de_B_isInstruction_60 (by decide) (fun hc => absurd hc (by decide)) (fun _ => ?_)
        refine lv_iconst (v := 1) hx hb de_B_isInstruction_63 (by decide) ?_
        refine lv_goto (tgt := 68) hx hb de_B_isInstruction_64 (by decide) ?_
        exact bc_pz F hr hlocks rfl ⟨_, rfl, (by simp [bc_si, hs_1_0, hs_1_1, hv_50, hv_57])⟩ de_B_isInstruction_68
      · subst he_57
        refine lv_if_eq (tgt := 67) hx hb de_B_isInstruction_60 (by decide) (fun _ => ?_) (fun hc => absurd (by decide) hc)
        refine lv_iconst (v := 0) hx hb de_B_isInstruction_67 (by decide) ?_
        exact bc_pz F hr hlocks rfl ⟨_, rfl, (by simp [bc_si, hs_1_0, hs_1_1, hv_50, hv_57])⟩ de_B_isInstruction_68
    · subst he_50
      refine lv_if_eq (tgt := 67) hx hb de_B_isInstruction_53 (by decide) (fun _ => ?_) (fun hc => absurd (by decide) hc)
      refine lv_iconst (v := 0) hx hb de_B_isInstruction_67 (by decide) ?_
      exact bc_pz F hr hlocks rfl ⟨_, rfl, (by simp [bc_si, hs_1_0, hs_1_1, hv_50])⟩ de_B_isInstruction_68
  by_cases hs_1_2 : k = 2
  · refine bc_ti hs_1_2 ?_
    refine lv_tableIn (off := 68) (tgt := 69) hx hb de_B_isInstruction_1 (by decide) (by decide) rfl (by decide) ?_
    refine lv_iload_n hx hb de_B_isInstruction_69 rfl (lv_at hl 1 rfl) ?_
    refine bc_pcall_s (As := [.int o]) (rest := []) F (cp_B_isVariable) wm_186 wm_1 wm_184 wm_185 pd_B_isVariable rfl rfl ⟨Nat.le_of_ble_eq_true rfl, Nat.le_of_ble_eq_true rfl⟩ rfl hl.1 rfl (Nat.le_of_ble_eq_true rfl) de_B_isInstruction_70 ⟨Nat.le_of_ble_eq_true rfl, Nat.le_of_ble_eq_true rfl⟩ (fun v9 hv9 => ?_)
    obtain ⟨r_70, rfl, hw_70⟩ := hv9
    refine W.eq (g2 := F0 m 73 ls [.int r_70]) rfl ?_
    rcases hw_70 with ⟨he_70, hv_70⟩ | ⟨he_70, hv_70⟩
    · subst he_70
      refine lv_if_eq (tgt := 94) hx hb de_B_isInstruction_73 (by decide) (fun hc => absurd hc (by decide)) (fun _ => ?_)
      refine lv_iload_n hx hb de_B_isInstruction_76 rfl (lv_at hl 2 rfl) ?_
      refine bc_pcall_s (As := [.int t]) (rest := []) F (cp_B_isVariable) wm_186 wm_1 wm_184 wm_185 pd_B_isVariable rfl rfl ⟨Nat.le_of_ble_eq_true rfl, Nat.le_of_ble_eq_true rfl⟩ rfl hl.1 rfl (Nat.le_of_ble_eq_true rfl) de_B_isInstruction_77 ⟨Nat.le_of_ble_eq_true rfl, Nat.le_of_ble_eq_true rfl⟩ (fun v9 hv9 => ?_)
      obtain ⟨r_77, rfl, hw_77⟩ := hv9
      refine W.eq (g2 := F0 m 80 ls [.int r_77]) rfl ?_
      rcases hw_77 with ⟨he_77, hv_77⟩ | ⟨he_77, hv_77⟩
      · subst he_77
        refine lv_if_eq (tgt := 94) hx hb de_B_isInstruction_80 (by decide) (fun hc => absurd hc (by decide)) (fun _ => ?_)
        refine lv_iload_n hx hb de_B_isInstruction_83 rfl (lv_at hl 3 rfl) ?_
        refine bc_pcall_s (As := [.int z]) (rest := []) F (cp_B_isVariable) wm_186 wm_1 wm_184 wm_185 pd_B_isVariable rfl rfl ⟨Nat.le_of_ble_eq_true rfl, Nat.le_of_ble_eq_true rfl⟩ rfl hl.1 rfl (Nat.le_of_ble_eq_true rfl) de_B_isInstruction_84 ⟨Nat.le_of_ble_eq_true rfl, Nat.le_of_ble_eq_true rfl⟩ (fun v9 hv9 => ?_)
        obtain ⟨r_84, rfl, hw_84⟩ := hv9
        refine W.eq (g2 := F0 m 87 ls [.int r_84]) rfl ?_
        rcases hw_84 with ⟨he_84, hv_84⟩ | ⟨he_84, hv_84⟩
        · subst he_84
          refine lv_if_eq (tgt := 94) hx hb de_B_isInstruction_87 (by decide) (fun hc => absurd hc (by decide)) (fun _ => ?_)
          refine lv_iconst (v := 1) hx hb de_B_isInstruction_90 (by decide) ?_
          refine lv_goto (tgt := 95) hx hb de_B_isInstruction_91 (by decide) ?_
          exact bc_pz F hr hlocks rfl ⟨_, rfl, (by simp [bc_si, hs_1_0, hs_1_1, hs_1_2, hv_70, hv_77, hv_84])⟩ de_B_isInstruction_95
        · subst he_84
          refine lv_if_eq (tgt := 94) hx hb de_B_isInstruction_87 (by decide) (fun _ => ?_) (fun hc => absurd (by decide) hc)
          refine lv_iconst (v := 0) hx hb de_B_isInstruction_94 (by decide) ?_
          exact bc_pz F hr hlocks rfl ⟨_, rfl, (by simp [bc_si, hs_1_0, hs_1_1, hs_1_2, hv_70, hv_77, hv_84])⟩ de_B_isInstruction_95
      · subst he_77
        refine lv_if_eq (tgt := 94) hx hb de_B_isInstruction_80 (by decide) (fun _ => ?_) (fun hc => absurd (by decide) hc)
        refine lv_iconst (v := 0) hx hb de_B_isInstruction_94 (by decide) ?_
        exact bc_pz F hr hlocks rfl ⟨_, rfl, (by simp [bc_si, hs_1_0, hs_1_1, hs_1_2, hv_70, hv_77])⟩ de_B_isInstruction_95
    · subst he_70
      refine lv_if_eq (tgt := 94) hx hb de_B_isInstruction_73 (by decide) (fun _ => ?_) (fun hc => absurd (by decide) hc)
      refine lv_iconst (v := 0) hx hb de_B_isInstruction_94 (by decide) ?_
      exact bc_pz F hr hlocks rfl ⟨_, rfl, (by simp [bc_si, hs_1_0, hs_1_1, hs_1_2, hv_70])⟩ de_B_isInstruction_95
  by_cases hs_1_3 : k = 3
  · refine bc_ti hs_1_3 ?_
    refine lv_tableIn (off := 68) (tgt := 69) hx hb de_B_isInstruction_1 (by decide) (by decide) rfl (by decide) ?_
    refine lv_iload_n hx hb de_B_isInstruction_69 rfl (lv_at hl 1 rfl) ?_
    refine bc_pcall_s (As := [.int o]) (rest := []) F (cp_B_isVariable) wm_186 wm_1 wm_184 wm_185 pd_B_isVariable rfl rfl ⟨Nat.le_of_ble_eq_true rfl, Nat.le_of_ble_eq_true rfl⟩ rfl hl.1 rfl (Nat.le_of_ble_eq_true rfl) de_B_isInstruction_70 ⟨Nat.le_of_ble_eq_true rfl, Nat.le_of_ble_eq_true rfl⟩ (fun v9 hv9 => ?_)
    obtain ⟨r_70, rfl, hw_70⟩ := hv9
    refine W.eq (g2 := F0 m 73 ls [.int r_70]) rfl ?_
    rcases hw_70 with ⟨he_70, hv_70⟩ | ⟨he_70, hv_70⟩
    · subst he_70
      refine lv_if_eq (tgt := 94) hx hb de_B_isInstruction_73 (by decide) (fun hc => absurd hc (by decide)) (fun _ => ?_)
      refine lv_iload_n hx hb de_B_isInstruction_76 rfl (lv_at hl 2 rfl) ?_
      refine bc_pcall_s (As := [.int t]) (rest := []) F (cp_B_isVariable) wm_186 wm_1 wm_184 wm_185 pd_B_isVariable rfl rfl ⟨Nat.le_of_ble_eq_true rfl, Nat.le_of_ble_eq_true rfl⟩ rfl hl.1 rfl (Nat.le_of_ble_eq_true rfl) de_B_isInstruction_77 ⟨Nat.le_of_ble_eq_true rfl, Nat.le_of_ble_eq_true rfl⟩ (fun v9 hv9 => ?_)
      obtain ⟨r_77, rfl, hw_77⟩ := hv9
      refine W.eq (g2 := F0 m 80 ls [.int r_77]) rfl ?_
      rcases hw_77 with ⟨he_77, hv_77⟩ | ⟨he_77, hv_77⟩
      · subst he_77
        refine lv_if_eq (tgt := 94) hx hb de_B_isInstruction_80 (by decide) (fun hc => absurd hc (by decide)) (fun _ => ?_)
        refine lv_iload_n hx hb de_B_isInstruction_83 rfl (lv_at hl 3 rfl) ?_
        refine bc_pcall_s (As := [.int z]) (rest := []) F (cp_B_isVariable) wm_186 wm_1 wm_184 wm_185 pd_B_isVariable rfl rfl ⟨Nat.le_of_ble_eq_true rfl, Nat.le_of_ble_eq_true rfl⟩ rfl hl.1 rfl (Nat.le_of_ble_eq_true rfl) de_B_isInstruction_84 ⟨Nat.le_of_ble_eq_true rfl, Nat.le_of_ble_eq_true rfl⟩ (fun v9 hv9 => ?_)
        obtain ⟨r_84, rfl, hw_84⟩ := hv9
        refine W.eq (g2 := F0 m 87 ls [.int r_84]) rfl ?_
        rcases hw_84 with ⟨he_84, hv_84⟩ | ⟨he_84, hv_84⟩
        · subst he_84
          refine lv_if_eq (tgt := 94) hx hb de_B_isInstruction_87 (by decide) (fun hc => absurd hc (by decide)) (fun _ => ?_)
          refine lv_iconst (v := 1) hx hb de_B_isInstruction_90 (by decide) ?_
          refine lv_goto (tgt := 95) hx hb de_B_isInstruction_91 (by decide) ?_
          exact bc_pz F hr hlocks rfl ⟨_, rfl, (by simp [bc_si, hs_1_0, hs_1_1, hs_1_2, hs_1_3, hv_70, hv_77, hv_84])⟩ de_B_isInstruction_95
        · subst he_84
          refine lv_if_eq (tgt := 94) hx hb de_B_isInstruction_87 (by decide) (fun _ => ?_) (fun hc => absurd (by decide) hc)
          refine lv_iconst (v := 0) hx hb de_B_isInstruction_94 (by decide) ?_
          exact bc_pz F hr hlocks rfl ⟨_, rfl, (by simp [bc_si, hs_1_0, hs_1_1, hs_1_2, hs_1_3, hv_70, hv_77, hv_84])⟩ de_B_isInstruction_95
      · subst he_77
        refine lv_if_eq (tgt := 94) hx hb de_B_isInstruction_80 (by decide) (fun _ => ?_) (fun hc => absurd (by decide) hc)
        refine lv_iconst (v := 0) hx hb de_B_isInstruction_94 (by decide) ?_
        exact bc_pz F hr hlocks rfl ⟨_, rfl, (by simp [bc_si, hs_1_0, hs_1_1, hs_1_2, hs_1_3, hv_70, hv_77])⟩ de_B_isInstruction_95
    · subst he_70
      refine lv_if_eq (tgt := 94) hx hb de_B_isInstruction_73 (by decide) (fun _ => ?_) (fun hc => absurd (by decide) hc)
      refine lv_iconst (v := 0) hx hb de_B_isInstruction_94 (by decide) ?_
      exact bc_pz F hr hlocks rfl ⟨_, rfl, (by simp [bc_si, hs_1_0, hs_1_1, hs_1_2, hs_1_3, hv_70])⟩ de_B_isInstruction_95
  by_cases hs_1_4 : k = 4
  · refine bc_ti hs_1_4 ?_
    refine lv_tableIn (off := 68) (tgt := 69) hx hb de_B_isInstruction_1 (by decide) (by decide) rfl (by decide) ?_
    refine lv_iload_n hx hb de_B_isInstruction_69 rfl (lv_at hl 1 rfl) ?_
    refine bc_pcall_s (As := [.int o]) (rest := []) F (cp_B_isVariable) wm_186 wm_1 wm_184 wm_185 pd_B_isVariable rfl rfl ⟨Nat.le_of_ble_eq_true rfl, Nat.le_of_ble_eq_true rfl⟩ rfl hl.1 rfl (Nat.le_of_ble_eq_true rfl) de_B_isInstruction_70 ⟨Nat.le_of_ble_eq_true rfl, Nat.le_of_ble_eq_true rfl⟩ (fun v9 hv9 => ?_)
    obtain ⟨r_70, rfl, hw_70⟩ := hv9
    refine W.eq (g2 := F0 m 73 ls [.int r_70]) rfl ?_
    rcases hw_70 with ⟨he_70, hv_70⟩ | ⟨he_70, hv_70⟩
    · subst he_70
      refine lv_if_eq (tgt := 94) hx hb de_B_isInstruction_73 (by decide) (fun hc => absurd hc (by decide)) (fun _ => ?_)
      refine lv_iload_n hx hb de_B_isInstruction_76 rfl (lv_at hl 2 rfl) ?_
      refine bc_pcall_s (As := [.int t]) (rest := []) F (cp_B_isVariable) wm_186 wm_1 wm_184 wm_185 pd_B_isVariable rfl rfl ⟨Nat.le_of_ble_eq_true rfl, Nat.le_of_ble_eq_true rfl⟩ rfl hl.1 rfl (Nat.le_of_ble_eq_true rfl) de_B_isInstruction_77 ⟨Nat.le_of_ble_eq_true rfl, Nat.le_of_ble_eq_true rfl⟩ (fun v9 hv9 => ?_)
      obtain ⟨r_77, rfl, hw_77⟩ := hv9
      refine W.eq (g2 := F0 m 80 ls [.int r_77]) rfl ?_
      rcases hw_77 with ⟨he_77, hv_77⟩ | ⟨he_77, hv_77⟩
      · subst he_77
        refine lv_if_eq (tgt := 94) hx hb de_B_isInstruction_80 (by decide) (fun hc => absurd hc (by decide)) (fun _ => ?_)
        refine lv_iload_n hx hb de_B_isInstruction_83 rfl (lv_at hl 3 rfl) ?_
        refine bc_pcall_s (As := [.int z]) (rest := []) F (cp_B_isVariable) wm_186 wm_1 wm_184 wm_185 pd_B_isVariable rfl rfl ⟨Nat.le_of_ble_eq_true rfl, Nat.le_of_ble_eq_true rfl⟩ rfl hl.1 rfl (Nat.le_of_ble_eq_true rfl) de_B_isInstruction_84 ⟨Nat.le_of_ble_eq_true rfl, Nat.le_of_ble_eq_true rfl⟩ (fun v9 hv9 => ?_)
        obtain ⟨r_84, rfl, hw_84⟩ := hv9
        refine W.eq (g2 := F0 m 87 ls [.int r_84]) rfl ?_
        rcases hw_84 with ⟨he_84, hv_84⟩ | ⟨he_84, hv_84⟩
        · subst he_84
          refine lv_if_eq (tgt := 94) hx hb de_B_isInstruction_87 (by decide) (fun hc => absurd hc (by decide)) (fun _ => ?_)
          refine lv_iconst (v := 1) hx hb de_B_isInstruction_90 (by decide) ?_
          refine lv_goto (tgt := 95) hx hb de_B_isInstruction_91 (by decide) ?_
          exact bc_pz F hr hlocks rfl ⟨_, rfl, (by simp [bc_si, hs_1_0, hs_1_1, hs_1_2, hs_1_3, hs_1_4, hv_70, hv_77, hv_84])⟩ de_B_isInstruction_95
        · subst he_84
          refine lv_if_eq (tgt := 94) hx hb de_B_isInstruction_87 (by decide) (fun _ => ?_) (fun hc => absurd (by decide) hc)
          refine lv_iconst (v := 0) hx hb de_B_isInstruction_94 (by decide) ?_
          exact bc_pz F hr hlocks rfl ⟨_, rfl, (by simp [bc_si, hs_1_0, hs_1_1, hs_1_2, hs_1_3, hs_1_4, hv_70, hv_77, hv_84])⟩ de_B_isInstruction_95
      · subst he_77
        refine lv_if_eq (tgt := 94) hx hb de_B_isInstruction_80 (by decide) (fun _ => ?_) (fun hc => absurd (by decide) hc)
        refine lv_iconst (v := 0) hx hb de_B_isInstruction_94 (by decide) ?_
        exact bc_pz F hr hlocks rfl ⟨_, rfl, (by simp [bc_si, hs_1_0, hs_1_1, hs_1_2, hs_1_3, hs_1_4, hv_70, hv_77])⟩ de_B_isInstruction_95
    · subst he_70
      refine lv_if_eq (tgt := 94) hx hb de_B_isInstruction_73 (by decide) (fun _ => ?_) (fun hc => absurd (by decide) hc)
      refine lv_iconst (v := 0) hx hb de_B_isInstruction_94 (by decide) ?_
      exact bc_pz F hr hlocks rfl ⟨_, rfl, (by simp [bc_si, hs_1_0, hs_1_1, hs_1_2, hs_1_3, hs_1_4, hv_70])⟩ de_B_isInstruction_95
  by_cases hs_1_5 : k = 5
  · refine bc_ti hs_1_5 ?_
    refine lv_tableIn (off := 95) (tgt := 96) hx hb de_B_isInstruction_1 (by decide) (by decide) rfl (by decide) ?_
    refine lv_iload_n hx hb de_B_isInstruction_96 rfl (lv_at hl 1 rfl) ?_
    refine bc_pcall_s (As := [.int o]) (rest := []) F (cp_B_isVariable) wm_186 wm_1 wm_184 wm_185 pd_B_isVariable rfl rfl ⟨Nat.le_of_ble_eq_true rfl, Nat.le_of_ble_eq_true rfl⟩ rfl hl.1 rfl (Nat.le_of_ble_eq_true rfl) de_B_isInstruction_97 ⟨Nat.le_of_ble_eq_true rfl, Nat.le_of_ble_eq_true rfl⟩ (fun v9 hv9 => ?_)
    obtain ⟨r_97, rfl, hw_97⟩ := hv9
    refine W.eq (g2 := F0 m 100 ls [.int r_97]) rfl ?_
    rcases hw_97 with ⟨he_97, hv_97⟩ | ⟨he_97, hv_97⟩
    · subst he_97
      refine lv_if_eq (tgt := 114) hx hb de_B_isInstruction_100 (by decide) (fun hc => absurd hc (by decide)) (fun _ => ?_)
      refine lv_iload_n hx hb de_B_isInstruction_103 rfl (lv_at hl 2 rfl) ?_
      refine bc_pcall_s (As := [.int t]) (rest := []) F (cp_B_isTarget) wm_189 wm_1 wm_187 wm_188 pd_B_isTarget rfl rfl ⟨Nat.le_of_ble_eq_true rfl, Nat.le_of_ble_eq_true rfl⟩ rfl hl.1 rfl (Nat.le_of_ble_eq_true rfl) de_B_isInstruction_104 ⟨Nat.le_of_ble_eq_true rfl, Nat.le_of_ble_eq_true rfl⟩ (fun v9 hv9 => ?_)
      obtain ⟨r_104, rfl, hw_104⟩ := hv9
      refine W.eq (g2 := F0 m 107 ls [.int r_104]) rfl ?_
      rcases hw_104 with ⟨he_104, hv_104⟩ | ⟨he_104, hv_104⟩
      · subst he_104
        refine lv_if_eq (tgt := 114) hx hb de_B_isInstruction_107 (by decide) (fun hc => absurd hc (by decide)) (fun _ => ?_)
        refine lv_iconst (v := 1) hx hb de_B_isInstruction_110 (by decide) ?_
        refine lv_goto (tgt := 115) hx hb de_B_isInstruction_111 (by decide) ?_
        exact bc_pz F hr hlocks rfl ⟨_, rfl, (by simp [bc_si, hs_1_0, hs_1_1, hs_1_2, hs_1_3, hs_1_4, hs_1_5, hv_97, hv_104])⟩ de_B_isInstruction_115
      · subst he_104
        refine lv_if_eq (tgt := 114) hx hb de_B_isInstruction_107 (by decide) (fun _ => ?_) (fun hc => absurd (by decide) hc)
        refine lv_iconst (v := 0) hx hb de_B_isInstruction_114 (by decide) ?_
        exact bc_pz F hr hlocks rfl ⟨_, rfl, (by simp [bc_si, hs_1_0, hs_1_1, hs_1_2, hs_1_3, hs_1_4, hs_1_5, hv_97, hv_104])⟩ de_B_isInstruction_115
    · subst he_97
      refine lv_if_eq (tgt := 114) hx hb de_B_isInstruction_100 (by decide) (fun _ => ?_) (fun hc => absurd (by decide) hc)
      refine lv_iconst (v := 0) hx hb de_B_isInstruction_114 (by decide) ?_
      exact bc_pz F hr hlocks rfl ⟨_, rfl, (by simp [bc_si, hs_1_0, hs_1_1, hs_1_2, hs_1_3, hs_1_4, hs_1_5, hv_97])⟩ de_B_isInstruction_115
  by_cases hs_1_6 : k = 6
  · refine bc_ti hs_1_6 ?_
    refine lv_tableIn (off := 115) (tgt := 116) hx hb de_B_isInstruction_1 (by decide) (by decide) rfl (by decide) ?_
    refine lv_iload_n hx hb de_B_isInstruction_116 rfl (lv_at hl 2 rfl) ?_
    refine bc_pcall_s (As := [.int t]) (rest := []) F (cp_B_isTarget) wm_189 wm_1 wm_187 wm_188 pd_B_isTarget rfl rfl ⟨Nat.le_of_ble_eq_true rfl, Nat.le_of_ble_eq_true rfl⟩ rfl hl.1 rfl (Nat.le_of_ble_eq_true rfl) de_B_isInstruction_117 ⟨Nat.le_of_ble_eq_true rfl, Nat.le_of_ble_eq_true rfl⟩ (fun v9 hv9 => ?_)
    obtain ⟨r_117, rfl, hw_117⟩ := hv9
    refine W.eq (g2 := F0 m 120 ls [.int r_117]) rfl ?_
    rcases hw_117 with ⟨he_117, hv_117⟩ | ⟨he_117, hv_117⟩
    · subst he_117
      exact bc_pz F hr hlocks rfl ⟨_, rfl, (by simp [bc_si, hs_1_0, hs_1_1, hs_1_2, hs_1_3, hs_1_4, hs_1_5, hs_1_6, hv_117])⟩ de_B_isInstruction_120
    · subst he_117
      exact bc_pz F hr hlocks rfl ⟨_, rfl, (by simp [bc_si, hs_1_0, hs_1_1, hs_1_2, hs_1_3, hs_1_4, hs_1_5, hs_1_6, hv_117])⟩ de_B_isInstruction_120
  refine lv_tableOut (tgt := 121) hx hb de_B_isInstruction_1 (bc_to_0_6 hs_1_0 hs_1_1 hs_1_2 hs_1_3 hs_1_4 hs_1_5 hs_1_6) (by decide) ?_
  refine lv_iload_n hx hb de_B_isInstruction_121 rfl (lv_at hl 0 rfl) ?_
  refine lv_bipush (v := 7) hx hb de_B_isInstruction_122 (by decide) ?_
  refine lv_icmp_ne (tgt := 131) hx hb de_B_isInstruction_124 (by decide) (fun hc_124 => ?_) (fun hc_124 => ?_)
  · refine lv_iconst (v := 0) hx hb de_B_isInstruction_131 (by decide) ?_
    exact bc_pz F hr hlocks rfl ⟨_, rfl, (by simp [bc_si, hs_1_0, hs_1_1, hs_1_2, hs_1_3, hs_1_4, hs_1_5, hs_1_6, hc_124])⟩ de_B_isInstruction_132
  · refine lv_iconst (v := 1) hx hb de_B_isInstruction_127 (by decide) ?_
    refine lv_goto (tgt := 132) hx hb de_B_isInstruction_128 (by decide) ?_
    exact bc_pz F hr hlocks rfl ⟨_, rfl, (by simp [bc_si, hs_1_0, hs_1_1, hs_1_2, hs_1_3, hs_1_4, hs_1_5, hs_1_6, hc_124])⟩ de_B_isInstruction_132

set_option maxHeartbeats 4000000 in
set_option maxRecDepth 100000 in
theorem cp_B_codeOf0 {l : Launch} {dC : Nat → ClassId} {dI : Nat → Nat → Nat} {cI cZ : ClassId} {sz : Nat}  {b0 h0 g0 a0 w0 e0 f0 : Nat} {an ra : Int32}   : Met l yn_B_codeOf (Cond.code yn_B_codeOf by_B_codeOf 2 (some (FieldType.object "BranchConstants$Code")) :: wd_all) ({ frames := 0, cells := 0, slots := 0, locals := 0 } : Room) (bc_Pre (dC, dI) classes [(cI, .int), (cZ, .boolean)] [.ref b0, .int 0] [(b0, .inr (4, [.ref h0, .ref g0, .ref a0, .ref w0, .ref e0, .ref f0, .int an, .int ra]))] sz) (bc_pq (fun v => v = some (.ref h0))) 0 0 bc_no := by
  refine bc_metP (by decide) (Nat.le_of_ble_eq_true rfl) ?_
  intro p e s m args below meth c ls F hr hlocks hP hD hl
  have hx := F.1
  have hb := F.2.1
  have hml := F.2.2.1
  have hown : s.vm.findClass "BranchConstants" = some m.cls := F.2.2.2.1
  have htw := F.2.2.2.2.1
  have hN := F.2.2.2.2.2.1
  have hK := F.2.2.2.2.2.2
  have hl : lv_has ls 2 [(0, .ref b0), (1, .int 0)] := hl
  refine lv_iload_n hx hb de_B_codeOf_0 rfl (lv_at hl 1 rfl) ?_
  refine lv_if_ne (tgt := 11) hx hb de_B_codeOf_1 (by decide) (fun hc => absurd (by decide) hc) (fun _ => ?_)
  refine lv_aload_n hx hb de_B_codeOf_4 rfl (lv_at hl 0 rfl) ?_
  refine va_get (D := (dC, dI)) (ci := 4) (v := .ref h0) (C := rc_B) (T := fc_B) (N := 8) hx hb htw wi_B hown hK hP 0 rfl rfl 0 (by decide) (htw _ wm_87) (fun _ h9 => h9) rfl de_B_codeOf_5 ?_
  refine lv_goto (tgt := 15) hx hb de_B_codeOf_8 (by decide) ?_
  exact bc_pa F hr (Or.inl ⟨_, rfl⟩) hlocks rfl de_B_codeOf_15

set_option maxHeartbeats 4000000 in
set_option maxRecDepth 100000 in
theorem cp_B_codeOf1 {l : Launch} {dC : Nat → ClassId} {dI : Nat → Nat → Nat} {cI cZ : ClassId} {sz : Nat}  {b0 h0 g0 a0 w0 e0 f0 : Nat} {an ra : Int32}   : Met l yn_B_codeOf (Cond.code yn_B_codeOf by_B_codeOf 2 (some (FieldType.object "BranchConstants$Code")) :: wd_all) ({ frames := 0, cells := 0, slots := 0, locals := 0 } : Room) (bc_Pre (dC, dI) classes [(cI, .int), (cZ, .boolean)] [.ref b0, .int 1] [(b0, .inr (4, [.ref h0, .ref g0, .ref a0, .ref w0, .ref e0, .ref f0, .int an, .int ra]))] sz) (bc_pq (fun v => v = some (.ref g0))) 0 0 bc_no := by
  refine bc_metP (by decide) (Nat.le_of_ble_eq_true rfl) ?_
  intro p e s m args below meth c ls F hr hlocks hP hD hl
  have hx := F.1
  have hb := F.2.1
  have hml := F.2.2.1
  have hown : s.vm.findClass "BranchConstants" = some m.cls := F.2.2.2.1
  have htw := F.2.2.2.2.1
  have hN := F.2.2.2.2.2.1
  have hK := F.2.2.2.2.2.2
  have hl : lv_has ls 2 [(0, .ref b0), (1, .int 1)] := hl
  refine lv_iload_n hx hb de_B_codeOf_0 rfl (lv_at hl 1 rfl) ?_
  refine lv_if_ne (tgt := 11) hx hb de_B_codeOf_1 (by decide) (fun _ => ?_) (fun hc => absurd hc (by decide))
  refine lv_aload_n hx hb de_B_codeOf_11 rfl (lv_at hl 0 rfl) ?_
  refine va_get (D := (dC, dI)) (ci := 4) (v := .ref g0) (C := rc_B) (T := fc_B) (N := 8) hx hb htw wi_B hown hK hP 0 rfl rfl 1 (by decide) (htw _ wm_88) (fun _ h9 => h9) rfl de_B_codeOf_12 ?_
  exact bc_pa F hr (Or.inl ⟨_, rfl⟩) hlocks rfl de_B_codeOf_15

set_option maxHeartbeats 4000000 in
set_option maxRecDepth 100000 in
theorem cp_B_runOf0 {l : Launch} {dC : Nat → ClassId} {dI : Nat → Nat → Nat} {cI cZ : ClassId} {sz : Nat}  {b0 h0 g0 a0 w0 e0 f0 : Nat} {an ra : Int32}   : Met l yn_B_runOf (Cond.code yn_B_runOf by_B_runOf 2 (some (FieldType.object "BranchConstants$Execution")) :: wd_all) ({ frames := 0, cells := 0, slots := 0, locals := 0 } : Room) (bc_Pre (dC, dI) classes [(cI, .int), (cZ, .boolean)] [.ref b0, .int 0] [(b0, .inr (4, [.ref h0, .ref g0, .ref a0, .ref w0, .ref e0, .ref f0, .int an, .int ra]))] sz) (bc_pq (fun v => v = some (.ref e0))) 0 0 bc_no := by
  refine bc_metP (by decide) (Nat.le_of_ble_eq_true rfl) ?_
  intro p e s m args below meth c ls F hr hlocks hP hD hl
  have hx := F.1
  have hb := F.2.1
  have hml := F.2.2.1
  have hown : s.vm.findClass "BranchConstants" = some m.cls := F.2.2.2.1
  have htw := F.2.2.2.2.1
  have hN := F.2.2.2.2.2.1
  have hK := F.2.2.2.2.2.2
  have hl : lv_has ls 2 [(0, .ref b0), (1, .int 0)] := hl
  refine lv_iload_n hx hb de_B_runOf_0 rfl (lv_at hl 1 rfl) ?_
  refine lv_if_ne (tgt := 11) hx hb de_B_runOf_1 (by decide) (fun hc => absurd (by decide) hc) (fun _ => ?_)
  refine lv_aload_n hx hb de_B_runOf_4 rfl (lv_at hl 0 rfl) ?_
  refine va_get (D := (dC, dI)) (ci := 4) (v := .ref e0) (C := rc_B) (T := fc_B) (N := 8) hx hb htw wi_B hown hK hP 0 rfl rfl 4 (by decide) (htw _ wm_91) (fun _ h9 => h9) rfl de_B_runOf_5 ?_
  refine lv_goto (tgt := 15) hx hb de_B_runOf_8 (by decide) ?_
  exact bc_pa F hr (Or.inl ⟨_, rfl⟩) hlocks rfl de_B_runOf_15

set_option maxHeartbeats 4000000 in
set_option maxRecDepth 100000 in
theorem cp_B_runOf1 {l : Launch} {dC : Nat → ClassId} {dI : Nat → Nat → Nat} {cI cZ : ClassId} {sz : Nat}  {b0 h0 g0 a0 w0 e0 f0 : Nat} {an ra : Int32}   : Met l yn_B_runOf (Cond.code yn_B_runOf by_B_runOf 2 (some (FieldType.object "BranchConstants$Execution")) :: wd_all) ({ frames := 0, cells := 0, slots := 0, locals := 0 } : Room) (bc_Pre (dC, dI) classes [(cI, .int), (cZ, .boolean)] [.ref b0, .int 1] [(b0, .inr (4, [.ref h0, .ref g0, .ref a0, .ref w0, .ref e0, .ref f0, .int an, .int ra]))] sz) (bc_pq (fun v => v = some (.ref f0))) 0 0 bc_no := by
  refine bc_metP (by decide) (Nat.le_of_ble_eq_true rfl) ?_
  intro p e s m args below meth c ls F hr hlocks hP hD hl
  have hx := F.1
  have hb := F.2.1
  have hml := F.2.2.1
  have hown : s.vm.findClass "BranchConstants" = some m.cls := F.2.2.2.1
  have htw := F.2.2.2.2.1
  have hN := F.2.2.2.2.2.1
  have hK := F.2.2.2.2.2.2
  have hl : lv_has ls 2 [(0, .ref b0), (1, .int 1)] := hl
  refine lv_iload_n hx hb de_B_runOf_0 rfl (lv_at hl 1 rfl) ?_
  refine lv_if_ne (tgt := 11) hx hb de_B_runOf_1 (by decide) (fun _ => ?_) (fun hc => absurd hc (by decide))
  refine lv_aload_n hx hb de_B_runOf_11 rfl (lv_at hl 0 rfl) ?_
  refine va_get (D := (dC, dI)) (ci := 4) (v := .ref f0) (C := rc_B) (T := fc_B) (N := 8) hx hb htw wi_B hown hK hP 0 rfl rfl 5 (by decide) (htw _ wm_92) (fun _ h9 => h9) rfl de_B_runOf_12 ?_
  exact bc_pa F hr (Or.inl ⟨_, rfl⟩) hlocks rfl de_B_runOf_15

set_option maxHeartbeats 4000000 in
set_option maxRecDepth 100000 in
theorem cp_B_refuseWrongIndex {l : Launch} {dC : Nat → ClassId} {dI : Nat → Nat → Nat} {cI cZ : ClassId} {sz : Nat}  {b0 h0 q1 q2 q3 q4 g0 a0 w0 e0 f0 n : Nat} {an ra : Int32} {j : Nat} (hn : n ≤ 40) (hj : j < n) : Met l yn_B_refuseWrongIndex (Cond.code yn_B_refuseWrongIndex by_B_refuseWrongIndex 2 none :: wd_all) ({ frames := 0, cells := 0, slots := 0, locals := 0 } : Room) (bc_Pre (dC, dI) classes [(cI, .int), (cZ, .boolean)] [.ref b0, .int (nI j)] [(b0, .inr (4, [.ref h0, .ref g0, .ref a0, .ref w0, .ref e0, .ref f0, .int an, .int ra])), (h0, .inr (1, [.ref q1, .ref q2, .ref q3, .ref q4, .int (nI n)]))] sz) (bc_pq (fun v => v = none)) 0 0 bc_no := by
  refine bc_metP (by decide) (Nat.le_of_ble_eq_true rfl) ?_
  intro p e s m args below meth c ls F hr hlocks hP hD hl
  have hx := F.1
  have hb := F.2.1
  have hml := F.2.2.1
  have hown : s.vm.findClass "BranchConstants" = some m.cls := F.2.2.2.1
  have htw := F.2.2.2.2.1
  have hN := F.2.2.2.2.2.1
  have hK := F.2.2.2.2.2.2
  have hl : lv_has ls 2 [(0, .ref b0), (1, .int (nI j))] := hl
  refine lv_iload_n hx hb de_B_refuseWrongIndex_0 rfl (lv_at hl 1 rfl) ?_
  refine lv_if_lt (tgt := 15) hx hb de_B_refuseWrongIndex_1 (by decide) (fun hc => absurd hc (nI_pos (by omega))) (fun _ => ?_)
  refine lv_iload_n hx hb de_B_refuseWrongIndex_4 rfl (lv_at hl 1 rfl) ?_
  refine lv_aload_n hx hb de_B_refuseWrongIndex_5 rfl (lv_at hl 0 rfl) ?_
  refine va_get (D := (dC, dI)) (ci := 4) (v := .ref h0) (C := rc_B) (T := fc_B) (N := 8) hx hb htw wi_B hown hK hP 0 rfl rfl 0 (by decide) (htw _ wm_87) (fun _ h9 => h9) rfl de_B_refuseWrongIndex_6 ?_
  refine va_getN (D := (dC, dI)) (ci := 1) (v := .int (nI n)) (C := rc_C) (T := fc_C) (N := 5) hx hb htw wi_C hown hK hP 1 rfl rfl 4 (by decide) (va_Nw.use rfl (hN _ nm_13)) (fun _ h9 => h9) rfl de_B_refuseWrongIndex_9 ?_
  refine lv_icmp_lt (tgt := 25) hx hb de_B_refuseWrongIndex_12 (by decide) (fun _ => ?_) (fun hc => absurd ((nI_ltI (a := j) (b := n) (by omega) (by omega)).mpr hj) hc)
  exact bc_pv F hr hlocks rfl de_B_refuseWrongIndex_25

set_option maxHeartbeats 4000000 in
set_option maxRecDepth 100000 in
theorem cp_B_refuseWrongVariable {l : Launch} {dC : Nat → ClassId} {dI : Nat → Nat → Nat} {cI cZ : ClassId} {sz : Nat}  {b0 h0 g0 a0 w0 e0 f0 : Nat} {an ra : Int32} {w : Nat} (hv : w < 6) : Met l yn_B_refuseWrongVariable (Cond.code yn_B_refuseWrongVariable by_B_refuseWrongVariable 2 none :: wd_all) ({ frames := 1, cells := 0, slots := 0, locals := 20 } : Room) (bc_Pre (dC, dI) classes [(cI, .int), (cZ, .boolean)] [.ref b0, .int (nI w)] [(b0, .inr (4, [.ref h0, .ref g0, .ref a0, .ref w0, .ref e0, .ref f0, .int an, .int ra]))] sz) (bc_pq (fun v => v = none)) 0 0 bc_no := by
  refine bc_metP (by decide) (Nat.le_of_ble_eq_true rfl) ?_
  intro p e s m args below meth c ls F hr hlocks hP hD hl
  have hx := F.1
  have hb := F.2.1
  have hml := F.2.2.1
  have hown : s.vm.findClass "BranchConstants" = some m.cls := F.2.2.2.1
  have htw := F.2.2.2.2.1
  have hN := F.2.2.2.2.2.1
  have hK := F.2.2.2.2.2.2
  have hl : lv_has ls 2 [(0, .ref b0), (1, .int (nI w))] := hl
  refine lv_iload_n hx hb de_B_refuseWrongVariable_0 rfl (lv_at hl 1 rfl) ?_
  refine bc_pcall_s (As := [.int (nI w)]) (rest := []) F (cp_B_isVariable) wm_186 wm_1 wm_184 wm_185 pd_B_isVariable rfl rfl ⟨Nat.le_of_ble_eq_true rfl, Nat.le_of_ble_eq_true rfl⟩ rfl hl.1 rfl (Nat.le_of_ble_eq_true rfl) de_B_refuseWrongVariable_1 ⟨Nat.le_of_ble_eq_true rfl, Nat.le_of_ble_eq_true rfl⟩ (fun v9 hv9 => ?_)
  obtain ⟨r_1, rfl, hw_1⟩ := hv9
  refine W.eq (g2 := F0 m 4 ls [.int r_1]) rfl ?_
  rcases hw_1 with ⟨he_1, hv_1⟩ | ⟨he_1, hv_1⟩
  · subst he_1
    refine lv_if_ne (tgt := 17) hx hb de_B_refuseWrongVariable_4 (by decide) (fun _ => ?_) (fun hc => absurd hc (by decide))
    exact bc_pv F hr hlocks rfl de_B_refuseWrongVariable_17
  · subst he_1
    exact absurd ⟨w, hv, rfl⟩ hv_1

set_option maxHeartbeats 4000000 in
set_option maxRecDepth 100000 in
theorem cp_B_refuseWrongSide0 {l : Launch} {dC : Nat → ClassId} {dI : Nat → Nat → Nat} {cI cZ : ClassId} {sz : Nat}  {b0 h0 g0 a0 w0 e0 f0 : Nat} {an ra : Int32}   : Met l yn_B_refuseWrongSide (Cond.code yn_B_refuseWrongSide by_B_refuseWrongSide 2 none :: wd_all) ({ frames := 0, cells := 0, slots := 0, locals := 0 } : Room) (bc_Pre (dC, dI) classes [(cI, .int), (cZ, .boolean)] [.ref b0, .int 0] [(b0, .inr (4, [.ref h0, .ref g0, .ref a0, .ref w0, .ref e0, .ref f0, .int an, .int ra]))] sz) (bc_pq (fun v => v = none)) 0 0 bc_no := by
  refine bc_metP (by decide) (Nat.le_of_ble_eq_true rfl) ?_
  intro p e s m args below meth c ls F hr hlocks hP hD hl
  have hx := F.1
  have hb := F.2.1
  have hml := F.2.2.1
  have hown : s.vm.findClass "BranchConstants" = some m.cls := F.2.2.2.1
  have htw := F.2.2.2.2.1
  have hN := F.2.2.2.2.2.1
  have hK := F.2.2.2.2.2.2
  have hl : lv_has ls 2 [(0, .ref b0), (1, .int 0)] := hl
  refine lv_iload_n hx hb de_B_refuseWrongSide_0 rfl (lv_at hl 1 rfl) ?_
  refine lv_if_eq (tgt := 19) hx hb de_B_refuseWrongSide_1 (by decide) (fun _ => ?_) (fun hc => absurd (by decide) hc)
  exact bc_pv F hr hlocks rfl de_B_refuseWrongSide_19

set_option maxHeartbeats 4000000 in
set_option maxRecDepth 100000 in
theorem cp_B_refuseWrongSide1 {l : Launch} {dC : Nat → ClassId} {dI : Nat → Nat → Nat} {cI cZ : ClassId} {sz : Nat}  {b0 h0 g0 a0 w0 e0 f0 : Nat} {an ra : Int32}   : Met l yn_B_refuseWrongSide (Cond.code yn_B_refuseWrongSide by_B_refuseWrongSide 2 none :: wd_all) ({ frames := 0, cells := 0, slots := 0, locals := 0 } : Room) (bc_Pre (dC, dI) classes [(cI, .int), (cZ, .boolean)] [.ref b0, .int 1] [(b0, .inr (4, [.ref h0, .ref g0, .ref a0, .ref w0, .ref e0, .ref f0, .int an, .int ra]))] sz) (bc_pq (fun v => v = none)) 0 0 bc_no := by
  refine bc_metP (by decide) (Nat.le_of_ble_eq_true rfl) ?_
  intro p e s m args below meth c ls F hr hlocks hP hD hl
  have hx := F.1
  have hb := F.2.1
  have hml := F.2.2.1
  have hown : s.vm.findClass "BranchConstants" = some m.cls := F.2.2.2.1
  have htw := F.2.2.2.2.1
  have hN := F.2.2.2.2.2.1
  have hK := F.2.2.2.2.2.2
  have hl : lv_has ls 2 [(0, .ref b0), (1, .int 1)] := hl
  refine lv_iload_n hx hb de_B_refuseWrongSide_0 rfl (lv_at hl 1 rfl) ?_
  refine lv_if_eq (tgt := 19) hx hb de_B_refuseWrongSide_1 (by decide) (fun hc => absurd hc (by decide)) (fun _ => ?_)
  refine lv_iload_n hx hb de_B_refuseWrongSide_4 rfl (lv_at hl 1 rfl) ?_
  refine lv_iconst (v := 1) hx hb de_B_refuseWrongSide_5 (by decide) ?_
  refine lv_icmp_eq (tgt := 19) hx hb de_B_refuseWrongSide_6 (by decide) (fun _ => ?_) (fun hc => absurd (by decide) hc)
  exact bc_pv F hr hlocks rfl de_B_refuseWrongSide_19

set_option maxHeartbeats 4000000 in
set_option maxRecDepth 100000 in
theorem cp_B_refuseMissingRewrittenn {l : Launch} {dC : Nat → ClassId} {dI : Nat → Nat → Nat} {cI cZ : ClassId} {sz : Nat}  {b0 h0 g0 a0 w0 e0 f0 : Nat} {an ra : Int32} {x : Int32} (hx1 : ¬ x = 1) : Met l yn_B_refuseMissingRewritten (Cond.code yn_B_refuseMissingRewritten by_B_refuseMissingRewritten 2 none :: wd_all) ({ frames := 0, cells := 0, slots := 0, locals := 0 } : Room) (bc_Pre (dC, dI) classes [(cI, .int), (cZ, .boolean)] [.ref b0, .int x] [(b0, .inr (4, [.ref h0, .ref g0, .ref a0, .ref w0, .ref e0, .ref f0, .int an, .int ra]))] sz) (bc_pq (fun v => v = none)) 0 0 bc_no := by
  refine bc_metP (by decide) (Nat.le_of_ble_eq_true rfl) ?_
  intro p e s m args below meth c ls F hr hlocks hP hD hl
  have hx := F.1
  have hb := F.2.1
  have hml := F.2.2.1
  have hown : s.vm.findClass "BranchConstants" = some m.cls := F.2.2.2.1
  have htw := F.2.2.2.2.1
  have hN := F.2.2.2.2.2.1
  have hK := F.2.2.2.2.2.2
  have hl : lv_has ls 2 [(0, .ref b0), (1, .int x)] := hl
  refine lv_iload_n hx hb de_B_refuseMissingRewritten_0 rfl (lv_at hl 1 rfl) ?_
  refine lv_iconst (v := 1) hx hb de_B_refuseMissingRewritten_1 (by decide) ?_
  refine lv_icmp_ne (tgt := 22) hx hb de_B_refuseMissingRewritten_2 (by decide) (fun _ => ?_) (fun hc => absurd hc hx1)
  exact bc_pv F hr hlocks rfl de_B_refuseMissingRewritten_22

set_option maxHeartbeats 4000000 in
set_option maxRecDepth 100000 in
theorem cp_B_refuseMissingRewritten1 {l : Launch} {dC : Nat → ClassId} {dI : Nat → Nat → Nat} {cI cZ : ClassId} {sz : Nat}  {b0 h0 g0 a0 w0 e0 f0 : Nat} {an ra : Int32}  (hra : ra ≠ 0) : Met l yn_B_refuseMissingRewritten (Cond.code yn_B_refuseMissingRewritten by_B_refuseMissingRewritten 2 none :: wd_all) ({ frames := 0, cells := 0, slots := 0, locals := 0 } : Room) (bc_Pre (dC, dI) classes [(cI, .int), (cZ, .boolean)] [.ref b0, .int 1] [(b0, .inr (4, [.ref h0, .ref g0, .ref a0, .ref w0, .ref e0, .ref f0, .int an, .int ra]))] sz) (bc_pq (fun v => v = none)) 0 0 bc_no := by
  refine bc_metP (by decide) (Nat.le_of_ble_eq_true rfl) ?_
  intro p e s m args below meth c ls F hr hlocks hP hD hl
  have hx := F.1
  have hb := F.2.1
  have hml := F.2.2.1
  have hown : s.vm.findClass "BranchConstants" = some m.cls := F.2.2.2.1
  have htw := F.2.2.2.2.1
  have hN := F.2.2.2.2.2.1
  have hK := F.2.2.2.2.2.2
  have hl : lv_has ls 2 [(0, .ref b0), (1, .int 1)] := hl
  refine lv_iload_n hx hb de_B_refuseMissingRewritten_0 rfl (lv_at hl 1 rfl) ?_
  refine lv_iconst (v := 1) hx hb de_B_refuseMissingRewritten_1 (by decide) ?_
  refine lv_icmp_ne (tgt := 22) hx hb de_B_refuseMissingRewritten_2 (by decide) (fun hc => absurd (by decide) hc) (fun _ => ?_)
  refine lv_aload_n hx hb de_B_refuseMissingRewritten_5 rfl (lv_at hl 0 rfl) ?_
  refine va_get (D := (dC, dI)) (ci := 4) (v := .int ra) (C := rc_B) (T := fc_B) (N := 8) hx hb htw wi_B hown hK hP 0 rfl rfl 7 (by decide) (htw _ wm_94) (fun _ h9 => h9) rfl de_B_refuseMissingRewritten_6 ?_
  refine lv_if_ne (tgt := 22) hx hb de_B_refuseMissingRewritten_9 (by decide) (fun _ => ?_) (fun hc => absurd hc hra)
  exact bc_pv F hr hlocks rfl de_B_refuseMissingRewritten_22

set_option maxHeartbeats 4000000 in
set_option maxRecDepth 100000 in
theorem cp_B_refuseWrongInstruction {l : Launch} {dC : Nat → ClassId} {dI : Nat → Nat → Nat} {cI cZ : ClassId} {sz : Nat}  {b0 h0 g0 a0 w0 e0 f0 : Nat} {an ra : Int32} {k o t z : Int32} (hsi : bc_si k o t z) : Met l yn_B_refuseWrongInstruction (Cond.code yn_B_refuseWrongInstruction by_B_refuseWrongInstruction 5 none :: wd_all) ({ frames := 2, cells := 0, slots := 0, locals := 43 } : Room) (bc_Pre (dC, dI) classes [(cI, .int), (cZ, .boolean)] [.ref b0, .int k, .int o, .int t, .int z] [(b0, .inr (4, [.ref h0, .ref g0, .ref a0, .ref w0, .ref e0, .ref f0, .int an, .int ra]))] sz) (bc_pq (fun v => v = none)) 0 0 bc_no := by
  refine bc_metP (by decide) (Nat.le_of_ble_eq_true rfl) ?_
  intro p e s m args below meth c ls F hr hlocks hP hD hl
  have hx := F.1
  have hb := F.2.1
  have hml := F.2.2.1
  have hown : s.vm.findClass "BranchConstants" = some m.cls := F.2.2.2.1
  have htw := F.2.2.2.2.1
  have hN := F.2.2.2.2.2.1
  have hK := F.2.2.2.2.2.2
  have hl : lv_has ls 5 [(0, .ref b0), (1, .int k), (2, .int o), (3, .int t), (4, .int z)] := hl
  refine lv_iload_n hx hb de_B_refuseWrongInstruction_0 rfl (lv_at hl 1 rfl) ?_
  refine lv_iload_n hx hb de_B_refuseWrongInstruction_1 rfl (lv_at hl 2 rfl) ?_
  refine lv_iload_n hx hb de_B_refuseWrongInstruction_2 rfl (lv_at hl 3 rfl) ?_
  refine lv_iload hx hb de_B_refuseWrongInstruction_3 (lv_at hl 4 rfl) ?_
  refine bc_pcall_s (As := [.int k, .int o, .int t, .int z]) (rest := []) F (cp_B_isInstruction) wm_183 wm_1 wm_181 wm_182 pd_B_isInstruction rfl rfl ⟨Nat.le_of_ble_eq_true rfl, Nat.le_of_ble_eq_true rfl⟩ rfl hl.1 rfl (Nat.le_of_ble_eq_true rfl) de_B_refuseWrongInstruction_5 ⟨Nat.le_of_ble_eq_true rfl, Nat.le_of_ble_eq_true rfl⟩ (fun v9 hv9 => ?_)
  obtain ⟨r_5, rfl, hw_5⟩ := hv9
  refine W.eq (g2 := F0 m 8 ls [.int r_5]) rfl ?_
  rcases hw_5 with ⟨he_5, hv_5⟩ | ⟨he_5, hv_5⟩
  · subst he_5
    refine lv_if_ne (tgt := 21) hx hb de_B_refuseWrongInstruction_8 (by decide) (fun _ => ?_) (fun hc => absurd hc (by decide))
    exact bc_pv F hr hlocks rfl de_B_refuseWrongInstruction_21
  · subst he_5
    exact absurd hsi hv_5

set_option maxHeartbeats 4000000 in
set_option maxRecDepth 100000 in
theorem cx_B_refuseWrongIndex {l : Launch} {dC : Nat → ClassId} {dI : Nat → Nat → Nat} {cI cZ : ClassId} {sz : Nat} (hl0 : l.stackTraces = false) {b0 h0 q1 q2 q3 q4 g0 a0 w0 e0 f0 n : Nat} {an ra : Int32} {x : Int32} (hn : n ≤ 40) (hix : ¬ bc_ix n x) : bc_XM l yn_B_refuseWrongIndex (Cond.code yn_B_refuseWrongIndex by_B_refuseWrongIndex 2 none :: wd_all) ({ frames := 6, cells := 1, slots := 6, locals := 82 } : Room) (bc_PreX (dC, dI) classes [(cI, .int), (cZ, .boolean)] [.ref b0, .int x] [(b0, .inr (4, [.ref h0, .ref g0, .ref a0, .ref w0, .ref e0, .ref f0, .int an, .int ra])), (h0, .inr (1, [.ref q1, .ref q2, .ref q3, .ref q4, .int (nI n)]))] sz) "java/lang/IndexOutOfBoundsException" := by
  refine bc_metX (by decide) (Nat.le_of_ble_eq_true rfl) ?_
  intro p e s m args below meth c ls F hlocks hP hD hl hT9 hex
  have hx := F.1
  have hb := F.2.1
  have hml := F.2.2.1
  have hown : s.vm.findClass "BranchConstants" = some m.cls := F.2.2.2.1
  have htw := F.2.2.2.2.1
  have hN := F.2.2.2.2.2.1
  have hK := F.2.2.2.2.2.2
  have hl : lv_has ls 2 [(0, .ref b0), (1, .int x)] := hl
  refine lv_iload_n hx hb de_B_refuseWrongIndex_0 rfl (lv_at hl 1 rfl) ?_
  refine lv_if_lt (tgt := 15) hx hb de_B_refuseWrongIndex_1 (by decide) (fun hc_1 => ?_) (fun hc_1 => ?_)
  · exact bc_throw hl0 F hlocks hT9 hex (by decide +kernel) at_IOE wm_267 wm_268 wm_12 (List.mem_of_getElem? (i := 17) rfl) hl.1 de_B_refuseWrongIndex_15 de_B_refuseWrongIndex_18 de_B_refuseWrongIndex_19 de_B_refuseWrongIndex_21 de_B_refuseWrongIndex_24 (Nat.le_of_ble_eq_true rfl) (Nat.le_of_ble_eq_true rfl) (Nat.le_of_ble_eq_true rfl) (Nat.le_of_ble_eq_true rfl)
  · refine lv_iload_n hx hb de_B_refuseWrongIndex_4 rfl (lv_at hl 1 rfl) ?_
    refine lv_aload_n hx hb de_B_refuseWrongIndex_5 rfl (lv_at hl 0 rfl) ?_
    refine va_get (D := (dC, dI)) (ci := 4) (v := .ref h0) (C := rc_B) (T := fc_B) (N := 8) hx hb htw wi_B hown hK hP 0 rfl rfl 0 (by decide) (htw _ wm_87) (fun _ h9 => h9) rfl de_B_refuseWrongIndex_6 ?_
    refine va_getN (D := (dC, dI)) (ci := 1) (v := .int (nI n)) (C := rc_C) (T := fc_C) (N := 5) hx hb htw wi_C hown hK hP 1 rfl rfl 4 (by decide) (va_Nw.use rfl (hN _ nm_13)) (fun _ h9 => h9) rfl de_B_refuseWrongIndex_9 ?_
    refine lv_icmp_lt (tgt := 25) hx hb de_B_refuseWrongIndex_12 (by decide) (fun hc_12 => ?_) (fun hc_12 => ?_)
    · exact absurd (bc_isn (by omega) hc_1 (bc_ltle hc_12)) hix
    · exact bc_throw hl0 F hlocks hT9 hex (by decide +kernel) at_IOE wm_267 wm_268 wm_12 (List.mem_of_getElem? (i := 17) rfl) hl.1 de_B_refuseWrongIndex_15 de_B_refuseWrongIndex_18 de_B_refuseWrongIndex_19 de_B_refuseWrongIndex_21 de_B_refuseWrongIndex_24 (Nat.le_of_ble_eq_true rfl) (Nat.le_of_ble_eq_true rfl) (Nat.le_of_ble_eq_true rfl) (Nat.le_of_ble_eq_true rfl)

set_option maxHeartbeats 4000000 in
set_option maxRecDepth 100000 in
theorem cx_B_refuseWrongVariable {l : Launch} {dC : Nat → ClassId} {dI : Nat → Nat → Nat} {cI cZ : ClassId} {sz : Nat} (hl0 : l.stackTraces = false) {b0 h0 g0 a0 w0 e0 f0 : Nat} {an ra : Int32} {x : Int32} (hvx : ¬ bc_vr x) : bc_XM l yn_B_refuseWrongVariable (Cond.code yn_B_refuseWrongVariable by_B_refuseWrongVariable 2 none :: wd_all) ({ frames := 6, cells := 1, slots := 6, locals := 82 } : Room) (bc_PreX (dC, dI) classes [(cI, .int), (cZ, .boolean)] [.ref b0, .int x] [(b0, .inr (4, [.ref h0, .ref g0, .ref a0, .ref w0, .ref e0, .ref f0, .int an, .int ra]))] sz) "java/lang/IndexOutOfBoundsException" := by
  refine bc_metX (by decide) (Nat.le_of_ble_eq_true rfl) ?_
  intro p e s m args below meth c ls F hlocks hP hD hl hT9 hex
  have hx := F.1
  have hb := F.2.1
  have hml := F.2.2.1
  have hown : s.vm.findClass "BranchConstants" = some m.cls := F.2.2.2.1
  have htw := F.2.2.2.2.1
  have hN := F.2.2.2.2.2.1
  have hK := F.2.2.2.2.2.2
  have hl : lv_has ls 2 [(0, .ref b0), (1, .int x)] := hl
  refine lv_iload_n hx hb de_B_refuseWrongVariable_0 rfl (lv_at hl 1 rfl) ?_
  refine bc_pcall_s (As := [.int x]) (rest := []) F (cp_B_isVariable) wm_186 wm_1 wm_184 wm_185 pd_B_isVariable rfl rfl ⟨Nat.le_of_ble_eq_true rfl, Nat.le_of_ble_eq_true rfl⟩ rfl hl.1 rfl (Nat.le_of_ble_eq_true rfl) de_B_refuseWrongVariable_1 ⟨Nat.le_of_ble_eq_true rfl, Nat.le_of_ble_eq_true rfl⟩ (fun v9 hv9 => ?_)
  obtain ⟨r_1, rfl, hw_1⟩ := hv9
  refine W.eq (g2 := F0 m 4 ls [.int r_1]) rfl ?_
  rcases hw_1 with ⟨he_1, hv_1⟩ | ⟨he_1, hv_1⟩
  · subst he_1
    exact absurd hv_1 hvx
  · subst he_1
    refine lv_if_ne (tgt := 17) hx hb de_B_refuseWrongVariable_4 (by decide) (fun hc => absurd (by decide) hc) (fun _ => ?_)
    exact bc_throw hl0 F hlocks hT9 hex (by decide +kernel) at_IOE wm_267 wm_268 wm_12 (List.mem_of_getElem? (i := 18) rfl) hl.1 de_B_refuseWrongVariable_7 de_B_refuseWrongVariable_10 de_B_refuseWrongVariable_11 de_B_refuseWrongVariable_13 de_B_refuseWrongVariable_16 (Nat.le_of_ble_eq_true rfl) (Nat.le_of_ble_eq_true rfl) (Nat.le_of_ble_eq_true rfl) (Nat.le_of_ble_eq_true rfl)

set_option maxHeartbeats 4000000 in
set_option maxRecDepth 100000 in
theorem cx_B_refuseWrongSide {l : Launch} {dC : Nat → ClassId} {dI : Nat → Nat → Nat} {cI cZ : ClassId} {sz : Nat} (hl0 : l.stackTraces = false) {b0 h0 g0 a0 w0 e0 f0 : Nat} {an ra : Int32} {x : Int32} (hsd : ¬ bc_sd x) : bc_XM l yn_B_refuseWrongSide (Cond.code yn_B_refuseWrongSide by_B_refuseWrongSide 2 none :: wd_all) ({ frames := 6, cells := 1, slots := 6, locals := 82 } : Room) (bc_PreX (dC, dI) classes [(cI, .int), (cZ, .boolean)] [.ref b0, .int x] [(b0, .inr (4, [.ref h0, .ref g0, .ref a0, .ref w0, .ref e0, .ref f0, .int an, .int ra]))] sz) "java/lang/IndexOutOfBoundsException" := by
  refine bc_metX (by decide) (Nat.le_of_ble_eq_true rfl) ?_
  intro p e s m args below meth c ls F hlocks hP hD hl hT9 hex
  have hx := F.1
  have hb := F.2.1
  have hml := F.2.2.1
  have hown : s.vm.findClass "BranchConstants" = some m.cls := F.2.2.2.1
  have htw := F.2.2.2.2.1
  have hN := F.2.2.2.2.2.1
  have hK := F.2.2.2.2.2.2
  have hl : lv_has ls 2 [(0, .ref b0), (1, .int x)] := hl
  refine lv_iload_n hx hb de_B_refuseWrongSide_0 rfl (lv_at hl 1 rfl) ?_
  refine lv_if_eq (tgt := 19) hx hb de_B_refuseWrongSide_1 (by decide) (fun hc => absurd hc (fun z => hsd (Or.inl z))) (fun _ => ?_)
  refine lv_iload_n hx hb de_B_refuseWrongSide_4 rfl (lv_at hl 1 rfl) ?_
  refine lv_iconst (v := 1) hx hb de_B_refuseWrongSide_5 (by decide) ?_
  refine lv_icmp_eq (tgt := 19) hx hb de_B_refuseWrongSide_6 (by decide) (fun hc => absurd hc (fun z => hsd (Or.inr z))) (fun _ => ?_)
  exact bc_throw hl0 F hlocks hT9 hex (by decide +kernel) at_IOE wm_267 wm_268 wm_12 (List.mem_of_getElem? (i := 19) rfl) hl.1 de_B_refuseWrongSide_9 de_B_refuseWrongSide_12 de_B_refuseWrongSide_13 de_B_refuseWrongSide_15 de_B_refuseWrongSide_18 (Nat.le_of_ble_eq_true rfl) (Nat.le_of_ble_eq_true rfl) (Nat.le_of_ble_eq_true rfl) (Nat.le_of_ble_eq_true rfl)

set_option maxHeartbeats 4000000 in
set_option maxRecDepth 100000 in
theorem cx_B_refuseMissingRewritten {l : Launch} {dC : Nat → ClassId} {dI : Nat → Nat → Nat} {cI cZ : ClassId} {sz : Nat} (hl0 : l.stackTraces = false) {b0 h0 g0 a0 w0 e0 f0 : Nat} {an ra : Int32}  (hra : ra = 0) : bc_XM l yn_B_refuseMissingRewritten (Cond.code yn_B_refuseMissingRewritten by_B_refuseMissingRewritten 2 none :: wd_all) ({ frames := 6, cells := 1, slots := 6, locals := 82 } : Room) (bc_PreX (dC, dI) classes [(cI, .int), (cZ, .boolean)] [.ref b0, .int 1] [(b0, .inr (4, [.ref h0, .ref g0, .ref a0, .ref w0, .ref e0, .ref f0, .int an, .int ra]))] sz) "java/lang/IllegalStateException" := by
  refine bc_metX (by decide) (Nat.le_of_ble_eq_true rfl) ?_
  intro p e s m args below meth c ls F hlocks hP hD hl hT9 hex
  have hx := F.1
  have hb := F.2.1
  have hml := F.2.2.1
  have hown : s.vm.findClass "BranchConstants" = some m.cls := F.2.2.2.1
  have htw := F.2.2.2.2.1
  have hN := F.2.2.2.2.2.1
  have hK := F.2.2.2.2.2.2
  have hl : lv_has ls 2 [(0, .ref b0), (1, .int 1)] := hl
  refine lv_iload_n hx hb de_B_refuseMissingRewritten_0 rfl (lv_at hl 1 rfl) ?_
  refine lv_iconst (v := 1) hx hb de_B_refuseMissingRewritten_1 (by decide) ?_
  refine lv_icmp_ne (tgt := 22) hx hb de_B_refuseMissingRewritten_2 (by decide) (fun hc => absurd (by decide) hc) (fun _ => ?_)
  refine lv_aload_n hx hb de_B_refuseMissingRewritten_5 rfl (lv_at hl 0 rfl) ?_
  refine va_get (D := (dC, dI)) (ci := 4) (v := .int ra) (C := rc_B) (T := fc_B) (N := 8) hx hb htw wi_B hown hK hP 0 rfl rfl 7 (by decide) (htw _ wm_94) (fun _ h9 => h9) rfl de_B_refuseMissingRewritten_6 ?_
  refine lv_if_ne (tgt := 22) hx hb de_B_refuseMissingRewritten_9 (by decide) (fun hc => absurd hra hc) (fun _ => ?_)
  exact bc_throw hl0 F hlocks hT9 hex (by decide +kernel) at_ISE wm_240 wm_241 wm_11 (List.mem_of_getElem? (i := 20) rfl) hl.1 de_B_refuseMissingRewritten_12 de_B_refuseMissingRewritten_15 de_B_refuseMissingRewritten_16 de_B_refuseMissingRewritten_18 de_B_refuseMissingRewritten_21 (Nat.le_of_ble_eq_true rfl) (Nat.le_of_ble_eq_true rfl) (Nat.le_of_ble_eq_true rfl) (Nat.le_of_ble_eq_true rfl)

set_option maxHeartbeats 4000000 in
set_option maxRecDepth 100000 in
theorem cx_B_refuseUnstarted0 {l : Launch} {dC : Nat → ClassId} {dI : Nat → Nat → Nat} {cI cZ : ClassId} {sz : Nat} (hl0 : l.stackTraces = false) {b0 h0 g0 a0 w0 e0 v1 f0 : Nat} {an ra pl0 sp0 on0 : Int32}  (hon : on0 = 0) : bc_XM l yn_B_refuseUnstarted (Cond.code yn_B_refuseUnstarted by_B_refuseUnstarted 2 none :: wd_all) ({ frames := 6, cells := 1, slots := 6, locals := 82 } : Room) (bc_PreX (dC, dI) classes [(cI, .int), (cZ, .boolean)] [.ref b0, .int 0] [(b0, .inr (4, [.ref h0, .ref g0, .ref a0, .ref w0, .ref e0, .ref f0, .int an, .int ra])), (e0, .inr (2, [.ref v1, .int pl0, .int sp0, .int on0]))] sz) "java/lang/IllegalStateException" := by
  refine bc_metX (by decide) (Nat.le_of_ble_eq_true rfl) ?_
  intro p e s m args below meth c ls F hlocks hP hD hl hT9 hex
  have hx := F.1
  have hb := F.2.1
  have hml := F.2.2.1
  have hown : s.vm.findClass "BranchConstants" = some m.cls := F.2.2.2.1
  have htw := F.2.2.2.2.1
  have hN := F.2.2.2.2.2.1
  have hK := F.2.2.2.2.2.2
  have hl : lv_has ls 2 [(0, .ref b0), (1, .int 0)] := hl
  refine lv_aload_n hx hb de_B_refuseUnstarted_0 rfl (lv_at hl 0 rfl) ?_
  refine lv_iload_n hx hb de_B_refuseUnstarted_1 rfl (lv_at hl 1 rfl) ?_
  refine bc_pcall_v (As := [.int 0]) (rest := []) F (cp_B_runOf0) wm_371 wm_1 wm_369 wm_370 wm_623 0 rfl rfl pd_B_runOf rfl rfl ⟨Nat.le_of_ble_eq_true rfl, Nat.le_of_ble_eq_true rfl⟩ hP hD [0] rfl rfl rfl hl.1 rfl (Nat.le_of_ble_eq_true rfl) de_B_refuseUnstarted_2 ⟨Nat.le_of_ble_eq_true rfl, Nat.le_of_ble_eq_true rfl⟩ (fun v9 hv9 => ?_)
  subst hv9
  refine W.eq (g2 := F0 m 5 ls [.ref e0]) rfl ?_
  refine va_getN (D := (dC, dI)) (ci := 2) (v := .int on0) (C := rc_E) (T := fc_E) (N := 4) hx hb htw wi_E hown hK hP 1 rfl rfl 3 (by decide) (va_Nw.use rfl (hN _ nm_26)) (fun _ h9 => h9) rfl de_B_refuseUnstarted_5 ?_
  refine lv_if_ne (tgt := 21) hx hb de_B_refuseUnstarted_8 (by decide) (fun hc => absurd hon hc) (fun _ => ?_)
  exact bc_throw hl0 F hlocks hT9 hex (by decide +kernel) at_ISE wm_240 wm_241 wm_11 (List.mem_of_getElem? (i := 21) rfl) hl.1 de_B_refuseUnstarted_11 de_B_refuseUnstarted_14 de_B_refuseUnstarted_15 de_B_refuseUnstarted_17 de_B_refuseUnstarted_20 (Nat.le_of_ble_eq_true rfl) (Nat.le_of_ble_eq_true rfl) (Nat.le_of_ble_eq_true rfl) (Nat.le_of_ble_eq_true rfl)

set_option maxHeartbeats 4000000 in
set_option maxRecDepth 100000 in
theorem cx_B_refuseUnstarted1 {l : Launch} {dC : Nat → ClassId} {dI : Nat → Nat → Nat} {cI cZ : ClassId} {sz : Nat} (hl0 : l.stackTraces = false) {b0 h0 g0 a0 w0 e0 f0 v2 : Nat} {an ra pl1 sp1 on1 : Int32}  (hon : on1 = 0) : bc_XM l yn_B_refuseUnstarted (Cond.code yn_B_refuseUnstarted by_B_refuseUnstarted 2 none :: wd_all) ({ frames := 6, cells := 1, slots := 6, locals := 82 } : Room) (bc_PreX (dC, dI) classes [(cI, .int), (cZ, .boolean)] [.ref b0, .int 1] [(b0, .inr (4, [.ref h0, .ref g0, .ref a0, .ref w0, .ref e0, .ref f0, .int an, .int ra])), (f0, .inr (2, [.ref v2, .int pl1, .int sp1, .int on1]))] sz) "java/lang/IllegalStateException" := by
  refine bc_metX (by decide) (Nat.le_of_ble_eq_true rfl) ?_
  intro p e s m args below meth c ls F hlocks hP hD hl hT9 hex
  have hx := F.1
  have hb := F.2.1
  have hml := F.2.2.1
  have hown : s.vm.findClass "BranchConstants" = some m.cls := F.2.2.2.1
  have htw := F.2.2.2.2.1
  have hN := F.2.2.2.2.2.1
  have hK := F.2.2.2.2.2.2
  have hl : lv_has ls 2 [(0, .ref b0), (1, .int 1)] := hl
  refine lv_aload_n hx hb de_B_refuseUnstarted_0 rfl (lv_at hl 0 rfl) ?_
  refine lv_iload_n hx hb de_B_refuseUnstarted_1 rfl (lv_at hl 1 rfl) ?_
  refine bc_pcall_v (As := [.int 1]) (rest := []) F (cp_B_runOf1) wm_371 wm_1 wm_369 wm_370 wm_623 0 rfl rfl pd_B_runOf rfl rfl ⟨Nat.le_of_ble_eq_true rfl, Nat.le_of_ble_eq_true rfl⟩ hP hD [0] rfl rfl rfl hl.1 rfl (Nat.le_of_ble_eq_true rfl) de_B_refuseUnstarted_2 ⟨Nat.le_of_ble_eq_true rfl, Nat.le_of_ble_eq_true rfl⟩ (fun v9 hv9 => ?_)
  subst hv9
  refine W.eq (g2 := F0 m 5 ls [.ref f0]) rfl ?_
  refine va_getN (D := (dC, dI)) (ci := 2) (v := .int on1) (C := rc_E) (T := fc_E) (N := 4) hx hb htw wi_E hown hK hP 1 rfl rfl 3 (by decide) (va_Nw.use rfl (hN _ nm_26)) (fun _ h9 => h9) rfl de_B_refuseUnstarted_5 ?_
  refine lv_if_ne (tgt := 21) hx hb de_B_refuseUnstarted_8 (by decide) (fun hc => absurd hon hc) (fun _ => ?_)
  exact bc_throw hl0 F hlocks hT9 hex (by decide +kernel) at_ISE wm_240 wm_241 wm_11 (List.mem_of_getElem? (i := 21) rfl) hl.1 de_B_refuseUnstarted_11 de_B_refuseUnstarted_14 de_B_refuseUnstarted_15 de_B_refuseUnstarted_17 de_B_refuseUnstarted_20 (Nat.le_of_ble_eq_true rfl) (Nat.le_of_ble_eq_true rfl) (Nat.le_of_ble_eq_true rfl) (Nat.le_of_ble_eq_true rfl)

set_option maxHeartbeats 4000000 in
set_option maxRecDepth 100000 in
theorem cx_B_refuseWrongInstruction {l : Launch} {dC : Nat → ClassId} {dI : Nat → Nat → Nat} {cI cZ : ClassId} {sz : Nat} (hl0 : l.stackTraces = false) {b0 h0 g0 a0 w0 e0 f0 : Nat} {an ra : Int32} {k o t z : Int32} (hsi : ¬ bc_si k o t z) : bc_XM l yn_B_refuseWrongInstruction (Cond.code yn_B_refuseWrongInstruction by_B_refuseWrongInstruction 5 none :: wd_all) ({ frames := 6, cells := 1, slots := 6, locals := 82 } : Room) (bc_PreX (dC, dI) classes [(cI, .int), (cZ, .boolean)] [.ref b0, .int k, .int o, .int t, .int z] [(b0, .inr (4, [.ref h0, .ref g0, .ref a0, .ref w0, .ref e0, .ref f0, .int an, .int ra]))] sz) "java/lang/IllegalArgumentException" := by
  refine bc_metX (by decide) (Nat.le_of_ble_eq_true rfl) ?_
  intro p e s m args below meth c ls F hlocks hP hD hl hT9 hex
  have hx := F.1
  have hb := F.2.1
  have hml := F.2.2.1
  have hown : s.vm.findClass "BranchConstants" = some m.cls := F.2.2.2.1
  have htw := F.2.2.2.2.1
  have hN := F.2.2.2.2.2.1
  have hK := F.2.2.2.2.2.2
  have hl : lv_has ls 5 [(0, .ref b0), (1, .int k), (2, .int o), (3, .int t), (4, .int z)] := hl
  refine lv_iload_n hx hb de_B_refuseWrongInstruction_0 rfl (lv_at hl 1 rfl) ?_
  refine lv_iload_n hx hb de_B_refuseWrongInstruction_1 rfl (lv_at hl 2 rfl) ?_
  refine lv_iload_n hx hb de_B_refuseWrongInstruction_2 rfl (lv_at hl 3 rfl) ?_
  refine lv_iload hx hb de_B_refuseWrongInstruction_3 (lv_at hl 4 rfl) ?_
  refine bc_pcall_s (As := [.int k, .int o, .int t, .int z]) (rest := []) F (cp_B_isInstruction) wm_183 wm_1 wm_181 wm_182 pd_B_isInstruction rfl rfl ⟨Nat.le_of_ble_eq_true rfl, Nat.le_of_ble_eq_true rfl⟩ rfl hl.1 rfl (Nat.le_of_ble_eq_true rfl) de_B_refuseWrongInstruction_5 ⟨Nat.le_of_ble_eq_true rfl, Nat.le_of_ble_eq_true rfl⟩ (fun v9 hv9 => ?_)
  obtain ⟨r_5, rfl, hw_5⟩ := hv9
  refine W.eq (g2 := F0 m 8 ls [.int r_5]) rfl ?_
  rcases hw_5 with ⟨he_5, hv_5⟩ | ⟨he_5, hv_5⟩
  · subst he_5
    exact absurd hv_5 hsi
  · subst he_5
    refine lv_if_ne (tgt := 21) hx hb de_B_refuseWrongInstruction_8 (by decide) (fun hc => absurd (by decide) hc) (fun _ => ?_)
    exact bc_throw hl0 F hlocks hT9 hex (by decide +kernel) at_IAE wm_190 wm_191 wm_10 (List.mem_of_getElem? (i := 16) rfl) hl.1 de_B_refuseWrongInstruction_11 de_B_refuseWrongInstruction_14 de_B_refuseWrongInstruction_15 de_B_refuseWrongInstruction_17 de_B_refuseWrongInstruction_20 (Nat.le_of_ble_eq_true rfl) (Nat.le_of_ble_eq_true rfl) (Nat.le_of_ble_eq_true rfl) (Nat.le_of_ble_eq_true rfl)

set_option maxHeartbeats 4000000 in
set_option maxRecDepth 100000 in
theorem cx_B_adda {l : Launch} {dC : Nat → ClassId} {dI : Nat → Nat → Nat} {cI cZ : ClassId} {sz : Nat} (hl0 : l.stackTraces = false) {b0 h0 g0 a0 w0 e0 f0 : Nat} {an ra : Int32} {k o t z : Int32} (hsi : ¬ bc_si k o t z) : bc_XM l yn_B_add (Cond.code yn_B_add by_B_add 5 (some FieldType.int) :: wd_all) ({ frames := 7, cells := 1, slots := 6, locals := 106 } : Room) (bc_PreX (dC, dI) classes [(cI, .int), (cZ, .boolean)] [.ref b0, .int k, .int o, .int t, .int z] [(b0, .inr (4, [.ref h0, .ref g0, .ref a0, .ref w0, .ref e0, .ref f0, .int an, .int ra]))] sz) "java/lang/IllegalArgumentException" := by
  refine bc_metX (by decide) (Nat.le_of_ble_eq_true rfl) ?_
  intro p e s m args below meth c ls F hlocks hP hD hl hT9 hex
  have hx := F.1
  have hb := F.2.1
  have hml := F.2.2.1
  have hown : s.vm.findClass "BranchConstants" = some m.cls := F.2.2.2.1
  have htw := F.2.2.2.2.1
  have hN := F.2.2.2.2.2.1
  have hK := F.2.2.2.2.2.2
  have hl : lv_has ls 5 [(0, .ref b0), (1, .int k), (2, .int o), (3, .int t), (4, .int z)] := hl
  refine lv_aload_n hx hb de_B_add_0 rfl (lv_at hl 0 rfl) ?_
  refine lv_iload_n hx hb de_B_add_1 rfl (lv_at hl 1 rfl) ?_
  refine lv_iload_n hx hb de_B_add_2 rfl (lv_at hl 2 rfl) ?_
  refine lv_iload_n hx hb de_B_add_3 rfl (lv_at hl 3 rfl) ?_
  refine lv_iload hx hb de_B_add_4 (lv_at hl 4 rfl) ?_
  exact bc_xcall (As := [.int k, .int o, .int t, .int z]) (rest := []) F hlocks hT9 hex (cx_B_refuseWrongInstruction hl0 hsi) wm_180 wm_1 wm_178 wm_179 wm_607 0 rfl rfl pd_B_refuseWrongInstruction rfl rfl ⟨Nat.le_of_ble_eq_true rfl, Nat.le_of_ble_eq_true rfl⟩ hP hD [0] rfl rfl rfl hl.1 rfl (Nat.le_of_ble_eq_true rfl) de_B_add_6 ⟨Nat.le_of_ble_eq_true rfl, Nat.le_of_ble_eq_true rfl⟩

set_option maxHeartbeats 4000000 in
set_option maxRecDepth 100000 in
theorem cx_B_addb {l : Launch} {dC : Nat → ClassId} {dI : Nat → Nat → Nat} {cI cZ : ClassId} {sz : Nat} (hl0 : l.stackTraces = false) {b0 h0 q1 q2 q3 q4 g0 a0 w0 e0 f0 n : Nat} {an ra : Int32} {k o t z : Int32} (hsi : bc_si k o t z) (h40 : n = 40) : bc_XM l yn_B_add (Cond.code yn_B_add by_B_add 5 (some FieldType.int) :: wd_all) ({ frames := 7, cells := 1, slots := 6, locals := 106 } : Room) (bc_PreX (dC, dI) classes [(cI, .int), (cZ, .boolean)] [.ref b0, .int k, .int o, .int t, .int z] [(b0, .inr (4, [.ref h0, .ref g0, .ref a0, .ref w0, .ref e0, .ref f0, .int an, .int ra])), (h0, .inr (1, [.ref q1, .ref q2, .ref q3, .ref q4, .int (nI n)]))] sz) "java/lang/IllegalStateException" := by
  refine bc_metX (by decide) (Nat.le_of_ble_eq_true rfl) ?_
  intro p e s m args below meth c ls F hlocks hP hD hl hT9 hex
  have hx := F.1
  have hb := F.2.1
  have hml := F.2.2.1
  have hown : s.vm.findClass "BranchConstants" = some m.cls := F.2.2.2.1
  have htw := F.2.2.2.2.1
  have hN := F.2.2.2.2.2.1
  have hK := F.2.2.2.2.2.2
  have hl : lv_has ls 5 [(0, .ref b0), (1, .int k), (2, .int o), (3, .int t), (4, .int z)] := hl
  refine lv_aload_n hx hb de_B_add_0 rfl (lv_at hl 0 rfl) ?_
  refine lv_iload_n hx hb de_B_add_1 rfl (lv_at hl 1 rfl) ?_
  refine lv_iload_n hx hb de_B_add_2 rfl (lv_at hl 2 rfl) ?_
  refine lv_iload_n hx hb de_B_add_3 rfl (lv_at hl 3 rfl) ?_
  refine lv_iload hx hb de_B_add_4 (lv_at hl 4 rfl) ?_
  refine bc_pcall_v (As := [.int k, .int o, .int t, .int z]) (rest := []) F (cp_B_refuseWrongInstruction hsi) wm_180 wm_1 wm_178 wm_179 wm_607 0 rfl rfl pd_B_refuseWrongInstruction rfl rfl ⟨Nat.le_of_ble_eq_true rfl, Nat.le_of_ble_eq_true rfl⟩ hP hD [0] rfl rfl rfl hl.1 rfl (Nat.le_of_ble_eq_true rfl) de_B_add_6 ⟨Nat.le_of_ble_eq_true rfl, Nat.le_of_ble_eq_true rfl⟩ (fun v9 hv9 => ?_)
  subst hv9
  refine W.eq (g2 := F0 m 9 ls []) rfl ?_
  refine lv_aload_n hx hb de_B_add_9 rfl (lv_at hl 0 rfl) ?_
  refine va_get (D := (dC, dI)) (ci := 4) (v := .ref h0) (C := rc_B) (T := fc_B) (N := 8) hx hb htw wi_B hown hK hP 0 rfl rfl 0 (by decide) (htw _ wm_87) (fun _ h9 => h9) rfl de_B_add_10 ?_
  refine va_getN (D := (dC, dI)) (ci := 1) (v := .int (nI n)) (C := rc_C) (T := fc_C) (N := 5) hx hb htw wi_C hown hK hP 1 rfl rfl 4 (by decide) (va_Nw.use rfl (hN _ nm_13)) (fun _ h9 => h9) rfl de_B_add_13 ?_
  refine lv_bipush (v := 40) hx hb de_B_add_16 (by decide) ?_
  refine lv_icmp_lt (tgt := 31) hx hb de_B_add_18 (by decide) (fun hc => absurd hc (fun z => by rw [h40] at z; exact absurd z (by decide))) (fun _ => ?_)
  exact bc_throw hl0 F hlocks hT9 hex (by decide +kernel) at_ISE wm_240 wm_241 wm_11 (List.mem_of_getElem? (i := 12) rfl) hl.1 de_B_add_21 de_B_add_24 de_B_add_25 de_B_add_27 de_B_add_30 (Nat.le_of_ble_eq_true rfl) (Nat.le_of_ble_eq_true rfl) (Nat.le_of_ble_eq_true rfl) (Nat.le_of_ble_eq_true rfl)

set_option maxHeartbeats 4000000 in
set_option maxRecDepth 100000 in
theorem cx_B_changea {l : Launch} {dC : Nat → ClassId} {dI : Nat → Nat → Nat} {cI cZ : ClassId} {sz : Nat} (hl0 : l.stackTraces = false) {b0 h0 q1 q2 q3 q4 g0 a0 w0 e0 f0 n : Nat} {an ra : Int32} {x k o t z : Int32} (hn : n ≤ 40) (hix : ¬ bc_ix n x) : bc_XM l yn_B_change (Cond.code yn_B_change by_B_change 6 none :: wd_all) ({ frames := 7, cells := 1, slots := 6, locals := 103 } : Room) (bc_PreX (dC, dI) classes [(cI, .int), (cZ, .boolean)] [.ref b0, .int x, .int k, .int o, .int t, .int z] [(b0, .inr (4, [.ref h0, .ref g0, .ref a0, .ref w0, .ref e0, .ref f0, .int an, .int ra])), (h0, .inr (1, [.ref q1, .ref q2, .ref q3, .ref q4, .int (nI n)]))] sz) "java/lang/IndexOutOfBoundsException" := by
  refine bc_metX (by decide) (Nat.le_of_ble_eq_true rfl) ?_
  intro p e s m args below meth c ls F hlocks hP hD hl hT9 hex
  have hx := F.1
  have hb := F.2.1
  have hml := F.2.2.1
  have hown : s.vm.findClass "BranchConstants" = some m.cls := F.2.2.2.1
  have htw := F.2.2.2.2.1
  have hN := F.2.2.2.2.2.1
  have hK := F.2.2.2.2.2.2
  have hl : lv_has ls 6 [(0, .ref b0), (1, .int x), (2, .int k), (3, .int o), (4, .int t), (5, .int z)] := hl
  refine lv_aload_n hx hb de_B_change_0 rfl (lv_at hl 0 rfl) ?_
  refine lv_iload_n hx hb de_B_change_1 rfl (lv_at hl 1 rfl) ?_
  exact bc_xcall (As := [.int x]) (rest := []) F hlocks hT9 hex (cx_B_refuseWrongIndex hl0 hn hix) wm_266 wm_1 wm_264 wm_265 wm_609 0 rfl rfl pd_B_refuseWrongIndex rfl rfl ⟨Nat.le_of_ble_eq_true rfl, Nat.le_of_ble_eq_true rfl⟩ hP hD [0, 1] rfl rfl rfl hl.1 rfl (Nat.le_of_ble_eq_true rfl) de_B_change_2 ⟨Nat.le_of_ble_eq_true rfl, Nat.le_of_ble_eq_true rfl⟩

set_option maxHeartbeats 4000000 in
set_option maxRecDepth 100000 in
theorem cx_B_changeb {l : Launch} {dC : Nat → ClassId} {dI : Nat → Nat → Nat} {cI cZ : ClassId} {sz : Nat} (hl0 : l.stackTraces = false) {b0 h0 q1 q2 q3 q4 g0 a0 w0 e0 f0 n : Nat} {an ra : Int32} {j : Nat} {k o t z : Int32} (hn : n ≤ 40) (hj : j < n) (hsi : ¬ bc_si k o t z) : bc_XM l yn_B_change (Cond.code yn_B_change by_B_change 6 none :: wd_all) ({ frames := 7, cells := 1, slots := 6, locals := 106 } : Room) (bc_PreX (dC, dI) classes [(cI, .int), (cZ, .boolean)] [.ref b0, .int (nI j), .int k, .int o, .int t, .int z] [(b0, .inr (4, [.ref h0, .ref g0, .ref a0, .ref w0, .ref e0, .ref f0, .int an, .int ra])), (h0, .inr (1, [.ref q1, .ref q2, .ref q3, .ref q4, .int (nI n)]))] sz) "java/lang/IllegalArgumentException" := by
  refine bc_metX (by decide) (Nat.le_of_ble_eq_true rfl) ?_
  intro p e s m args below meth c ls F hlocks hP hD hl hT9 hex
  have hx := F.1
  have hb := F.2.1
  have hml := F.2.2.1
  have hown : s.vm.findClass "BranchConstants" = some m.cls := F.2.2.2.1
  have htw := F.2.2.2.2.1
  have hN := F.2.2.2.2.2.1
  have hK := F.2.2.2.2.2.2
  have hl : lv_has ls 6 [(0, .ref b0), (1, .int (nI j)), (2, .int k), (3, .int o), (4, .int t), (5, .int z)] := hl
  refine lv_aload_n hx hb de_B_change_0 rfl (lv_at hl 0 rfl) ?_
  refine lv_iload_n hx hb de_B_change_1 rfl (lv_at hl 1 rfl) ?_
  refine bc_pcall_v (As := [.int (nI j)]) (rest := []) F (cp_B_refuseWrongIndex hn hj) wm_266 wm_1 wm_264 wm_265 wm_609 0 rfl rfl pd_B_refuseWrongIndex rfl rfl ⟨Nat.le_of_ble_eq_true rfl, Nat.le_of_ble_eq_true rfl⟩ hP hD [0, 1] rfl rfl rfl hl.1 rfl (Nat.le_of_ble_eq_true rfl) de_B_change_2 ⟨Nat.le_of_ble_eq_true rfl, Nat.le_of_ble_eq_true rfl⟩ (fun v9 hv9 => ?_)
  subst hv9
  refine W.eq (g2 := F0 m 5 ls []) rfl ?_
  refine lv_aload_n hx hb de_B_change_5 rfl (lv_at hl 0 rfl) ?_
  refine lv_iload_n hx hb de_B_change_6 rfl (lv_at hl 2 rfl) ?_
  refine lv_iload_n hx hb de_B_change_7 rfl (lv_at hl 3 rfl) ?_
  refine lv_iload hx hb de_B_change_8 (lv_at hl 4 rfl) ?_
  refine lv_iload hx hb de_B_change_10 (lv_at hl 5 rfl) ?_
  exact bc_xcall (As := [.int k, .int o, .int t, .int z]) (rest := []) F hlocks hT9 hex (cx_B_refuseWrongInstruction hl0 hsi) wm_180 wm_1 wm_178 wm_179 wm_607 0 rfl rfl pd_B_refuseWrongInstruction rfl rfl ⟨Nat.le_of_ble_eq_true rfl, Nat.le_of_ble_eq_true rfl⟩ hP hD [0] rfl rfl rfl hl.1 rfl (Nat.le_of_ble_eq_true rfl) de_B_change_12 ⟨Nat.le_of_ble_eq_true rfl, Nat.le_of_ble_eq_true rfl⟩

set_option maxHeartbeats 4000000 in
set_option maxRecDepth 100000 in
theorem cx_B_reached {l : Launch} {dC : Nat → ClassId} {dI : Nat → Nat → Nat} {cI cZ : ClassId} {sz : Nat} (hl0 : l.stackTraces = false) {b0 h0 q1 q2 q3 q4 g0 a0 w0 e0 f0 n : Nat} {an ra : Int32} {x : Int32} (hn : n ≤ 40) (hix : ¬ bc_ix n x) : bc_XM l yn_B_reached (Cond.code yn_B_reached by_B_reached 2 (some FieldType.boolean) :: wd_all) ({ frames := 7, cells := 1, slots := 6, locals := 103 } : Room) (bc_PreX (dC, dI) classes [(cI, .int), (cZ, .boolean)] [.ref b0, .int x] [(b0, .inr (4, [.ref h0, .ref g0, .ref a0, .ref w0, .ref e0, .ref f0, .int an, .int ra])), (h0, .inr (1, [.ref q1, .ref q2, .ref q3, .ref q4, .int (nI n)]))] sz) "java/lang/IndexOutOfBoundsException" := by
  refine bc_metX (by decide) (Nat.le_of_ble_eq_true rfl) ?_
  intro p e s m args below meth c ls F hlocks hP hD hl hT9 hex
  have hx := F.1
  have hb := F.2.1
  have hml := F.2.2.1
  have hown : s.vm.findClass "BranchConstants" = some m.cls := F.2.2.2.1
  have htw := F.2.2.2.2.1
  have hN := F.2.2.2.2.2.1
  have hK := F.2.2.2.2.2.2
  have hl : lv_has ls 2 [(0, .ref b0), (1, .int x)] := hl
  refine lv_aload_n hx hb de_B_reached_0 rfl (lv_at hl 0 rfl) ?_
  refine lv_iload_n hx hb de_B_reached_1 rfl (lv_at hl 1 rfl) ?_
  exact bc_xcall (As := [.int x]) (rest := []) F hlocks hT9 hex (cx_B_refuseWrongIndex hl0 hn hix) wm_266 wm_1 wm_264 wm_265 wm_609 0 rfl rfl pd_B_refuseWrongIndex rfl rfl ⟨Nat.le_of_ble_eq_true rfl, Nat.le_of_ble_eq_true rfl⟩ hP hD [0, 1] rfl rfl rfl hl.1 rfl (Nat.le_of_ble_eq_true rfl) de_B_reached_2 ⟨Nat.le_of_ble_eq_true rfl, Nat.le_of_ble_eq_true rfl⟩

set_option maxHeartbeats 4000000 in
set_option maxRecDepth 100000 in
theorem cx_B_knowna {l : Launch} {dC : Nat → ClassId} {dI : Nat → Nat → Nat} {cI cZ : ClassId} {sz : Nat} (hl0 : l.stackTraces = false) {b0 h0 q1 q2 q3 q4 g0 a0 w0 e0 f0 n : Nat} {an ra : Int32} {x y : Int32} (hn : n ≤ 40) (hix : ¬ bc_ix n x) : bc_XM l yn_B_known (Cond.code yn_B_known by_B_known 3 (some FieldType.int) :: wd_all) ({ frames := 7, cells := 1, slots := 6, locals := 103 } : Room) (bc_PreX (dC, dI) classes [(cI, .int), (cZ, .boolean)] [.ref b0, .int x, .int y] [(b0, .inr (4, [.ref h0, .ref g0, .ref a0, .ref w0, .ref e0, .ref f0, .int an, .int ra])), (h0, .inr (1, [.ref q1, .ref q2, .ref q3, .ref q4, .int (nI n)]))] sz) "java/lang/IndexOutOfBoundsException" := by
  refine bc_metX (by decide) (Nat.le_of_ble_eq_true rfl) ?_
  intro p e s m args below meth c ls F hlocks hP hD hl hT9 hex
  have hx := F.1
  have hb := F.2.1
  have hml := F.2.2.1
  have hown : s.vm.findClass "BranchConstants" = some m.cls := F.2.2.2.1
  have htw := F.2.2.2.2.1
  have hN := F.2.2.2.2.2.1
  have hK := F.2.2.2.2.2.2
  have hl : lv_has ls 3 [(0, .ref b0), (1, .int x), (2, .int y)] := hl
  refine lv_aload_n hx hb de_B_known_0 rfl (lv_at hl 0 rfl) ?_
  refine lv_iload_n hx hb de_B_known_1 rfl (lv_at hl 1 rfl) ?_
  exact bc_xcall (As := [.int x]) (rest := []) F hlocks hT9 hex (cx_B_refuseWrongIndex hl0 hn hix) wm_266 wm_1 wm_264 wm_265 wm_609 0 rfl rfl pd_B_refuseWrongIndex rfl rfl ⟨Nat.le_of_ble_eq_true rfl, Nat.le_of_ble_eq_true rfl⟩ hP hD [0, 1] rfl rfl rfl hl.1 rfl (Nat.le_of_ble_eq_true rfl) de_B_known_2 ⟨Nat.le_of_ble_eq_true rfl, Nat.le_of_ble_eq_true rfl⟩

set_option maxHeartbeats 4000000 in
set_option maxRecDepth 100000 in
theorem cx_B_knownb {l : Launch} {dC : Nat → ClassId} {dI : Nat → Nat → Nat} {cI cZ : ClassId} {sz : Nat} (hl0 : l.stackTraces = false) {b0 h0 q1 q2 q3 q4 g0 a0 w0 e0 f0 n : Nat} {an ra : Int32} {j : Nat} {y : Int32} (hn : n ≤ 40) (hj : j < n) (hvx : ¬ bc_vr y) : bc_XM l yn_B_known (Cond.code yn_B_known by_B_known 3 (some FieldType.int) :: wd_all) ({ frames := 7, cells := 1, slots := 6, locals := 103 } : Room) (bc_PreX (dC, dI) classes [(cI, .int), (cZ, .boolean)] [.ref b0, .int (nI j), .int y] [(b0, .inr (4, [.ref h0, .ref g0, .ref a0, .ref w0, .ref e0, .ref f0, .int an, .int ra])), (h0, .inr (1, [.ref q1, .ref q2, .ref q3, .ref q4, .int (nI n)]))] sz) "java/lang/IndexOutOfBoundsException" := by
  refine bc_metX (by decide) (Nat.le_of_ble_eq_true rfl) ?_
  intro p e s m args below meth c ls F hlocks hP hD hl hT9 hex
  have hx := F.1
  have hb := F.2.1
  have hml := F.2.2.1
  have hown : s.vm.findClass "BranchConstants" = some m.cls := F.2.2.2.1
  have htw := F.2.2.2.2.1
  have hN := F.2.2.2.2.2.1
  have hK := F.2.2.2.2.2.2
  have hl : lv_has ls 3 [(0, .ref b0), (1, .int (nI j)), (2, .int y)] := hl
  refine lv_aload_n hx hb de_B_known_0 rfl (lv_at hl 0 rfl) ?_
  refine lv_iload_n hx hb de_B_known_1 rfl (lv_at hl 1 rfl) ?_
  refine bc_pcall_v (As := [.int (nI j)]) (rest := []) F (cp_B_refuseWrongIndex hn hj) wm_266 wm_1 wm_264 wm_265 wm_609 0 rfl rfl pd_B_refuseWrongIndex rfl rfl ⟨Nat.le_of_ble_eq_true rfl, Nat.le_of_ble_eq_true rfl⟩ hP hD [0, 1] rfl rfl rfl hl.1 rfl (Nat.le_of_ble_eq_true rfl) de_B_known_2 ⟨Nat.le_of_ble_eq_true rfl, Nat.le_of_ble_eq_true rfl⟩ (fun v9 hv9 => ?_)
  subst hv9
  refine W.eq (g2 := F0 m 5 ls []) rfl ?_
  refine lv_aload_n hx hb de_B_known_5 rfl (lv_at hl 0 rfl) ?_
  refine lv_iload_n hx hb de_B_known_6 rfl (lv_at hl 2 rfl) ?_
  exact bc_xcall (As := [.int y]) (rest := []) F hlocks hT9 hex (cx_B_refuseWrongVariable hl0 hvx) wm_297 wm_1 wm_295 wm_296 wm_610 0 rfl rfl pd_B_refuseWrongVariable rfl rfl ⟨Nat.le_of_ble_eq_true rfl, Nat.le_of_ble_eq_true rfl⟩ hP hD [0] rfl rfl rfl hl.1 rfl (Nat.le_of_ble_eq_true rfl) de_B_known_7 ⟨Nat.le_of_ble_eq_true rfl, Nat.le_of_ble_eq_true rfl⟩

set_option maxHeartbeats 4000000 in
set_option maxRecDepth 100000 in
theorem cx_B_constanta {l : Launch} {dC : Nat → ClassId} {dI : Nat → Nat → Nat} {cI cZ : ClassId} {sz : Nat} (hl0 : l.stackTraces = false) {b0 h0 q1 q2 q3 q4 g0 a0 w0 e0 f0 n : Nat} {an ra : Int32} {x y : Int32} (hn : n ≤ 40) (hix : ¬ bc_ix n x) : bc_XM l yn_B_constant (Cond.code yn_B_constant by_B_constant 3 (some FieldType.int) :: wd_all) ({ frames := 7, cells := 1, slots := 6, locals := 103 } : Room) (bc_PreX (dC, dI) classes [(cI, .int), (cZ, .boolean)] [.ref b0, .int x, .int y] [(b0, .inr (4, [.ref h0, .ref g0, .ref a0, .ref w0, .ref e0, .ref f0, .int an, .int ra])), (h0, .inr (1, [.ref q1, .ref q2, .ref q3, .ref q4, .int (nI n)]))] sz) "java/lang/IndexOutOfBoundsException" := by
  refine bc_metX (by decide) (Nat.le_of_ble_eq_true rfl) ?_
  intro p e s m args below meth c ls F hlocks hP hD hl hT9 hex
  have hx := F.1
  have hb := F.2.1
  have hml := F.2.2.1
  have hown : s.vm.findClass "BranchConstants" = some m.cls := F.2.2.2.1
  have htw := F.2.2.2.2.1
  have hN := F.2.2.2.2.2.1
  have hK := F.2.2.2.2.2.2
  have hl : lv_has ls 3 [(0, .ref b0), (1, .int x), (2, .int y)] := hl
  refine lv_aload_n hx hb de_B_constant_0 rfl (lv_at hl 0 rfl) ?_
  refine lv_iload_n hx hb de_B_constant_1 rfl (lv_at hl 1 rfl) ?_
  exact bc_xcall (As := [.int x]) (rest := []) F hlocks hT9 hex (cx_B_refuseWrongIndex hl0 hn hix) wm_266 wm_1 wm_264 wm_265 wm_609 0 rfl rfl pd_B_refuseWrongIndex rfl rfl ⟨Nat.le_of_ble_eq_true rfl, Nat.le_of_ble_eq_true rfl⟩ hP hD [0, 1] rfl rfl rfl hl.1 rfl (Nat.le_of_ble_eq_true rfl) de_B_constant_2 ⟨Nat.le_of_ble_eq_true rfl, Nat.le_of_ble_eq_true rfl⟩

set_option maxHeartbeats 4000000 in
set_option maxRecDepth 100000 in
theorem cx_B_constantb {l : Launch} {dC : Nat → ClassId} {dI : Nat → Nat → Nat} {cI cZ : ClassId} {sz : Nat} (hl0 : l.stackTraces = false) {b0 h0 q1 q2 q3 q4 g0 a0 w0 e0 f0 n : Nat} {an ra : Int32} {j : Nat} {y : Int32} (hn : n ≤ 40) (hj : j < n) (hvx : ¬ bc_vr y) : bc_XM l yn_B_constant (Cond.code yn_B_constant by_B_constant 3 (some FieldType.int) :: wd_all) ({ frames := 7, cells := 1, slots := 6, locals := 103 } : Room) (bc_PreX (dC, dI) classes [(cI, .int), (cZ, .boolean)] [.ref b0, .int (nI j), .int y] [(b0, .inr (4, [.ref h0, .ref g0, .ref a0, .ref w0, .ref e0, .ref f0, .int an, .int ra])), (h0, .inr (1, [.ref q1, .ref q2, .ref q3, .ref q4, .int (nI n)]))] sz) "java/lang/IndexOutOfBoundsException" := by
  refine bc_metX (by decide) (Nat.le_of_ble_eq_true rfl) ?_
  intro p e s m args below meth c ls F hlocks hP hD hl hT9 hex
  have hx := F.1
  have hb := F.2.1
  have hml := F.2.2.1
  have hown : s.vm.findClass "BranchConstants" = some m.cls := F.2.2.2.1
  have htw := F.2.2.2.2.1
  have hN := F.2.2.2.2.2.1
  have hK := F.2.2.2.2.2.2
  have hl : lv_has ls 3 [(0, .ref b0), (1, .int (nI j)), (2, .int y)] := hl
  refine lv_aload_n hx hb de_B_constant_0 rfl (lv_at hl 0 rfl) ?_
  refine lv_iload_n hx hb de_B_constant_1 rfl (lv_at hl 1 rfl) ?_
  refine bc_pcall_v (As := [.int (nI j)]) (rest := []) F (cp_B_refuseWrongIndex hn hj) wm_266 wm_1 wm_264 wm_265 wm_609 0 rfl rfl pd_B_refuseWrongIndex rfl rfl ⟨Nat.le_of_ble_eq_true rfl, Nat.le_of_ble_eq_true rfl⟩ hP hD [0, 1] rfl rfl rfl hl.1 rfl (Nat.le_of_ble_eq_true rfl) de_B_constant_2 ⟨Nat.le_of_ble_eq_true rfl, Nat.le_of_ble_eq_true rfl⟩ (fun v9 hv9 => ?_)
  subst hv9
  refine W.eq (g2 := F0 m 5 ls []) rfl ?_
  refine lv_aload_n hx hb de_B_constant_5 rfl (lv_at hl 0 rfl) ?_
  refine lv_iload_n hx hb de_B_constant_6 rfl (lv_at hl 2 rfl) ?_
  exact bc_xcall (As := [.int y]) (rest := []) F hlocks hT9 hex (cx_B_refuseWrongVariable hl0 hvx) wm_297 wm_1 wm_295 wm_296 wm_610 0 rfl rfl pd_B_refuseWrongVariable rfl rfl ⟨Nat.le_of_ble_eq_true rfl, Nat.le_of_ble_eq_true rfl⟩ hP hD [0] rfl rfl rfl hl.1 rfl (Nat.le_of_ble_eq_true rfl) de_B_constant_7 ⟨Nat.le_of_ble_eq_true rfl, Nat.le_of_ble_eq_true rfl⟩

set_option maxHeartbeats 4000000 in
set_option maxRecDepth 100000 in
theorem cx_B_rewrite {l : Launch} {dC : Nat → ClassId} {dI : Nat → Nat → Nat} {cI cZ : ClassId} {sz : Nat} (hl0 : l.stackTraces = false) {b0 h0 q1 q2 q3 q4 g0 a0 w0 e0 f0 n : Nat} {an ra : Int32}  (hn0 : n = 0) : bc_XM l yn_B_rewrite (Cond.code yn_B_rewrite by_B_rewrite 1 (some FieldType.int) :: wd_all) ({ frames := 6, cells := 1, slots := 6, locals := 82 } : Room) (bc_PreX (dC, dI) classes [(cI, .int), (cZ, .boolean)] [.ref b0] [(b0, .inr (4, [.ref h0, .ref g0, .ref a0, .ref w0, .ref e0, .ref f0, .int an, .int ra])), (h0, .inr (1, [.ref q1, .ref q2, .ref q3, .ref q4, .int (nI n)]))] sz) "java/lang/IllegalStateException" := by
  refine bc_metX (by decide) (Nat.le_of_ble_eq_true rfl) ?_
  intro p e s m args below meth c ls F hlocks hP hD hl hT9 hex
  have hx := F.1
  have hb := F.2.1
  have hml := F.2.2.1
  have hown : s.vm.findClass "BranchConstants" = some m.cls := F.2.2.2.1
  have htw := F.2.2.2.2.1
  have hN := F.2.2.2.2.2.1
  have hK := F.2.2.2.2.2.2
  have hl : lv_has ls 1 [(0, .ref b0)] := hl
  refine lv_aload_n hx hb de_B_rewrite_0 rfl (lv_at hl 0 rfl) ?_
  refine va_get (D := (dC, dI)) (ci := 4) (v := .ref h0) (C := rc_B) (T := fc_B) (N := 8) hx hb htw wi_B hown hK hP 0 rfl rfl 0 (by decide) (htw _ wm_87) (fun _ h9 => h9) rfl de_B_rewrite_1 ?_
  refine va_getN (D := (dC, dI)) (ci := 1) (v := .int (nI n)) (C := rc_C) (T := fc_C) (N := 5) hx hb htw wi_C hown hK hP 1 rfl rfl 4 (by decide) (va_Nw.use rfl (hN _ nm_13)) (fun _ h9 => h9) rfl de_B_rewrite_4 ?_
  refine lv_if_ne (tgt := 20) hx hb de_B_rewrite_7 (by decide) (fun hc => absurd (by rw [hn0]; rfl) hc) (fun _ => ?_)
  exact bc_throw hl0 F hlocks hT9 hex (by decide +kernel) at_ISE wm_240 wm_241 wm_11 (List.mem_of_getElem? (i := 13) rfl) hl.1 de_B_rewrite_10 de_B_rewrite_13 de_B_rewrite_14 de_B_rewrite_16 de_B_rewrite_19 (Nat.le_of_ble_eq_true rfl) (Nat.le_of_ble_eq_true rfl) (Nat.le_of_ble_eq_true rfl) (Nat.le_of_ble_eq_true rfl)

set_option maxHeartbeats 4000000 in
set_option maxRecDepth 100000 in
theorem cx_B_codea {l : Launch} {dC : Nat → ClassId} {dI : Nat → Nat → Nat} {cI cZ : ClassId} {sz : Nat} (hl0 : l.stackTraces = false) {b0 h0 g0 a0 w0 e0 f0 : Nat} {an ra : Int32} {y z : Int32} (hra : ra = 0) : bc_XM l yn_B_code (Cond.code yn_B_code by_B_code 5 (some FieldType.int) :: wd_all) ({ frames := 7, cells := 1, slots := 6, locals := 103 } : Room) (bc_PreX (dC, dI) classes [(cI, .int), (cZ, .boolean)] [.ref b0, .int 1, .int y, .int z] [(b0, .inr (4, [.ref h0, .ref g0, .ref a0, .ref w0, .ref e0, .ref f0, .int an, .int ra]))] sz) "java/lang/IllegalStateException" := by
  refine bc_metX (by decide) (Nat.le_of_ble_eq_true rfl) ?_
  intro p e s m args below meth c ls F hlocks hP hD hl hT9 hex
  have hx := F.1
  have hb := F.2.1
  have hml := F.2.2.1
  have hown : s.vm.findClass "BranchConstants" = some m.cls := F.2.2.2.1
  have htw := F.2.2.2.2.1
  have hN := F.2.2.2.2.2.1
  have hK := F.2.2.2.2.2.2
  have hl : lv_has ls 5 [(0, .ref b0), (1, .int 1), (2, .int y), (3, .int z)] := hl
  refine lv_aload_n hx hb de_B_code_0 rfl (lv_at hl 0 rfl) ?_
  refine lv_iload_n hx hb de_B_code_1 rfl (lv_at hl 1 rfl) ?_
  exact bc_xcall (As := [.int 1]) (rest := []) F hlocks hT9 hex (cx_B_refuseMissingRewritten hl0 hra) wm_353 wm_1 wm_351 wm_352 wm_619 0 rfl rfl pd_B_refuseMissingRewritten rfl rfl ⟨Nat.le_of_ble_eq_true rfl, Nat.le_of_ble_eq_true rfl⟩ hP hD [0] rfl rfl rfl hl.1 rfl (Nat.le_of_ble_eq_true rfl) de_B_code_2 ⟨Nat.le_of_ble_eq_true rfl, Nat.le_of_ble_eq_true rfl⟩

set_option maxHeartbeats 4000000 in
set_option maxRecDepth 100000 in
theorem cx_B_codeb {l : Launch} {dC : Nat → ClassId} {dI : Nat → Nat → Nat} {cI cZ : ClassId} {sz : Nat} (hl0 : l.stackTraces = false) {b0 h0 g0 a0 w0 e0 f0 : Nat} {an ra : Int32} {x y z : Int32} (hsd : ¬ bc_sd x) : bc_XM l yn_B_code (Cond.code yn_B_code by_B_code 5 (some FieldType.int) :: wd_all) ({ frames := 7, cells := 1, slots := 6, locals := 103 } : Room) (bc_PreX (dC, dI) classes [(cI, .int), (cZ, .boolean)] [.ref b0, .int x, .int y, .int z] [(b0, .inr (4, [.ref h0, .ref g0, .ref a0, .ref w0, .ref e0, .ref f0, .int an, .int ra]))] sz) "java/lang/IndexOutOfBoundsException" := by
  refine bc_metX (by decide) (Nat.le_of_ble_eq_true rfl) ?_
  intro p e s m args below meth c ls F hlocks hP hD hl hT9 hex
  have hx := F.1
  have hb := F.2.1
  have hml := F.2.2.1
  have hown : s.vm.findClass "BranchConstants" = some m.cls := F.2.2.2.1
  have htw := F.2.2.2.2.1
  have hN := F.2.2.2.2.2.1
  have hK := F.2.2.2.2.2.2
  have hl : lv_has ls 5 [(0, .ref b0), (1, .int x), (2, .int y), (3, .int z)] := hl
  refine lv_aload_n hx hb de_B_code_0 rfl (lv_at hl 0 rfl) ?_
  refine lv_iload_n hx hb de_B_code_1 rfl (lv_at hl 1 rfl) ?_
  refine bc_pcall_v (As := [.int x]) (rest := []) F (cp_B_refuseMissingRewrittenn (fun q => hsd (Or.inr q))) wm_353 wm_1 wm_351 wm_352 wm_619 0 rfl rfl pd_B_refuseMissingRewritten rfl rfl ⟨Nat.le_of_ble_eq_true rfl, Nat.le_of_ble_eq_true rfl⟩ hP hD [0] rfl rfl rfl hl.1 rfl (Nat.le_of_ble_eq_true rfl) de_B_code_2 ⟨Nat.le_of_ble_eq_true rfl, Nat.le_of_ble_eq_true rfl⟩ (fun v9 hv9 => ?_)
  subst hv9
  refine W.eq (g2 := F0 m 5 ls []) rfl ?_
  refine lv_aload_n hx hb de_B_code_5 rfl (lv_at hl 0 rfl) ?_
  refine lv_iload_n hx hb de_B_code_6 rfl (lv_at hl 1 rfl) ?_
  exact bc_xcall (As := [.int x]) (rest := []) F hlocks hT9 hex (cx_B_refuseWrongSide hl0 hsd) wm_356 wm_1 wm_354 wm_355 wm_620 0 rfl rfl pd_B_refuseWrongSide rfl rfl ⟨Nat.le_of_ble_eq_true rfl, Nat.le_of_ble_eq_true rfl⟩ hP hD [0] rfl rfl rfl hl.1 rfl (Nat.le_of_ble_eq_true rfl) de_B_code_7 ⟨Nat.le_of_ble_eq_true rfl, Nat.le_of_ble_eq_true rfl⟩

set_option maxHeartbeats 4000000 in
set_option maxRecDepth 100000 in
theorem cx_B_codec0 {l : Launch} {dC : Nat → ClassId} {dI : Nat → Nat → Nat} {cI cZ : ClassId} {sz : Nat} (hl0 : l.stackTraces = false) {b0 h0 q1 q2 q3 q4 g0 a0 w0 e0 f0 n : Nat} {an ra : Int32} {y z : Int32} (hn : n ≤ 40) (hce : ¬ bc_ce n y z) : bc_XM l yn_B_code (Cond.code yn_B_code by_B_code 5 (some FieldType.int) :: wd_all) ({ frames := 7, cells := 1, slots := 6, locals := 103 } : Room) (bc_PreX (dC, dI) classes [(cI, .int), (cZ, .boolean)] [.ref b0, .int 0, .int y, .int z] [(b0, .inr (4, [.ref h0, .ref g0, .ref a0, .ref w0, .ref e0, .ref f0, .int an, .int ra])), (h0, .inr (1, [.ref q1, .ref q2, .ref q3, .ref q4, .int (nI n)]))] sz) "java/lang/IndexOutOfBoundsException" := by
  refine bc_metX (by decide) (Nat.le_of_ble_eq_true rfl) ?_
  intro p e s m args below meth c ls F hlocks hP hD hl hT9 hex
  have hx := F.1
  have hb := F.2.1
  have hml := F.2.2.1
  have hown : s.vm.findClass "BranchConstants" = some m.cls := F.2.2.2.1
  have htw := F.2.2.2.2.1
  have hN := F.2.2.2.2.2.1
  have hK := F.2.2.2.2.2.2
  have hl : lv_has ls 5 [(0, .ref b0), (1, .int 0), (2, .int y), (3, .int z)] := hl
  refine lv_aload_n hx hb de_B_code_0 rfl (lv_at hl 0 rfl) ?_
  refine lv_iload_n hx hb de_B_code_1 rfl (lv_at hl 1 rfl) ?_
  refine bc_pcall_v (As := [.int 0]) (rest := []) F (cp_B_refuseMissingRewrittenn (by decide)) wm_353 wm_1 wm_351 wm_352 wm_619 0 rfl rfl pd_B_refuseMissingRewritten rfl rfl ⟨Nat.le_of_ble_eq_true rfl, Nat.le_of_ble_eq_true rfl⟩ hP hD [0] rfl rfl rfl hl.1 rfl (Nat.le_of_ble_eq_true rfl) de_B_code_2 ⟨Nat.le_of_ble_eq_true rfl, Nat.le_of_ble_eq_true rfl⟩ (fun v9 hv9 => ?_)
  subst hv9
  refine W.eq (g2 := F0 m 5 ls []) rfl ?_
  refine lv_aload_n hx hb de_B_code_5 rfl (lv_at hl 0 rfl) ?_
  refine lv_iload_n hx hb de_B_code_6 rfl (lv_at hl 1 rfl) ?_
  refine bc_pcall_v (As := [.int 0]) (rest := []) F (cp_B_refuseWrongSide0) wm_356 wm_1 wm_354 wm_355 wm_620 0 rfl rfl pd_B_refuseWrongSide rfl rfl ⟨Nat.le_of_ble_eq_true rfl, Nat.le_of_ble_eq_true rfl⟩ hP hD [0] rfl rfl rfl hl.1 rfl (Nat.le_of_ble_eq_true rfl) de_B_code_7 ⟨Nat.le_of_ble_eq_true rfl, Nat.le_of_ble_eq_true rfl⟩ (fun v9 hv9 => ?_)
  subst hv9
  refine W.eq (g2 := F0 m 10 ls []) rfl ?_
  refine lv_aload_n hx hb de_B_code_10 rfl (lv_at hl 0 rfl) ?_
  refine lv_iload_n hx hb de_B_code_11 rfl (lv_at hl 1 rfl) ?_
  refine bc_pcall_v (As := [.int 0]) (rest := []) F (cp_B_codeOf0) wm_359 wm_1 wm_357 wm_358 wm_621 0 rfl rfl pd_B_codeOf rfl rfl ⟨Nat.le_of_ble_eq_true rfl, Nat.le_of_ble_eq_true rfl⟩ hP hD [0] rfl rfl rfl hl.1 rfl (Nat.le_of_ble_eq_true rfl) de_B_code_12 ⟨Nat.le_of_ble_eq_true rfl, Nat.le_of_ble_eq_true rfl⟩ (fun v9 hv9 => ?_)
  subst hv9
  refine W.eq (g2 := F0 m 15 ls [.ref h0]) rfl ?_
  refine lv_astore (lv' := [(4, .ref h0), (0, .ref b0), (1, .int 0), (2, .int y), (3, .int z)]) hx hb de_B_code_15 hl (by decide) rfl (fun ls hl => ?_)
  refine lv_iload_n hx hb de_B_code_17 rfl (lv_at hl 3 rfl) ?_
  refine lv_if_lt (tgt := 39) hx hb de_B_code_18 (by decide) (fun hc_18 => ?_) (fun hc_18 => ?_)
  · exact bc_throw hl0 F hlocks hT9 hex (by decide +kernel) at_IOE wm_267 wm_268 wm_12 (List.mem_of_getElem? (i := 14) rfl) hl.1 de_B_code_39 de_B_code_42 de_B_code_43 de_B_code_45 de_B_code_48 (Nat.le_of_ble_eq_true rfl) (Nat.le_of_ble_eq_true rfl) (Nat.le_of_ble_eq_true rfl) (Nat.le_of_ble_eq_true rfl)
  · refine lv_iload_n hx hb de_B_code_21 rfl (lv_at hl 3 rfl) ?_
    refine lv_aload hx hb de_B_code_22 (lv_at hl 0 rfl) ?_
    refine va_getN (D := (dC, dI)) (ci := 1) (v := .int (nI n)) (C := rc_C) (T := fc_C) (N := 5) hx hb htw wi_C hown hK hP 1 rfl rfl 4 (by decide) (va_Nw.use rfl (hN _ nm_13)) (fun _ h9 => h9) rfl de_B_code_24 ?_
    refine lv_icmp_ge (tgt := 39) hx hb de_B_code_27 (by decide) (fun hc_27 => ?_) (fun hc_27 => ?_)
    · exact bc_throw hl0 F hlocks hT9 hex (by decide +kernel) at_IOE wm_267 wm_268 wm_12 (List.mem_of_getElem? (i := 14) rfl) hl.1 de_B_code_39 de_B_code_42 de_B_code_43 de_B_code_45 de_B_code_48 (Nat.le_of_ble_eq_true rfl) (Nat.le_of_ble_eq_true rfl) (Nat.le_of_ble_eq_true rfl) (Nat.le_of_ble_eq_true rfl)
    · refine lv_iload_n hx hb de_B_code_30 rfl (lv_at hl 4 rfl) ?_
      refine lv_if_lt (tgt := 39) hx hb de_B_code_31 (by decide) (fun hc_31 => ?_) (fun hc_31 => ?_)
      · exact bc_throw hl0 F hlocks hT9 hex (by decide +kernel) at_IOE wm_267 wm_268 wm_12 (List.mem_of_getElem? (i := 14) rfl) hl.1 de_B_code_39 de_B_code_42 de_B_code_43 de_B_code_45 de_B_code_48 (Nat.le_of_ble_eq_true rfl) (Nat.le_of_ble_eq_true rfl) (Nat.le_of_ble_eq_true rfl) (Nat.le_of_ble_eq_true rfl)
      · refine lv_iload_n hx hb de_B_code_34 rfl (lv_at hl 4 rfl) ?_
        refine lv_iconst (v := 3) hx hb de_B_code_35 (by decide) ?_
        refine lv_icmp_le (tgt := 49) hx hb de_B_code_36 (by decide) (fun hc_36 => ?_) (fun hc_36 => ?_)
        · exact absurd ⟨bc_isn (n := n) (by omega) hc_18 hc_27, bc_isn (n := 4) (by omega) hc_31 (bc_le3 hc_36)⟩ hce
        · exact bc_throw hl0 F hlocks hT9 hex (by decide +kernel) at_IOE wm_267 wm_268 wm_12 (List.mem_of_getElem? (i := 14) rfl) hl.1 de_B_code_39 de_B_code_42 de_B_code_43 de_B_code_45 de_B_code_48 (Nat.le_of_ble_eq_true rfl) (Nat.le_of_ble_eq_true rfl) (Nat.le_of_ble_eq_true rfl) (Nat.le_of_ble_eq_true rfl)

set_option maxHeartbeats 4000000 in
set_option maxRecDepth 100000 in
theorem cx_B_codec1 {l : Launch} {dC : Nat → ClassId} {dI : Nat → Nat → Nat} {cI cZ : ClassId} {sz : Nat} (hl0 : l.stackTraces = false) {b0 h0 g0 q5 q6 q7 q8 a0 w0 e0 f0 n2 : Nat} {an ra : Int32} {y z : Int32} (hra : ra ≠ 0) (hn : n2 ≤ 40) (hce : ¬ bc_ce n2 y z) : bc_XM l yn_B_code (Cond.code yn_B_code by_B_code 5 (some FieldType.int) :: wd_all) ({ frames := 7, cells := 1, slots := 6, locals := 103 } : Room) (bc_PreX (dC, dI) classes [(cI, .int), (cZ, .boolean)] [.ref b0, .int 1, .int y, .int z] [(b0, .inr (4, [.ref h0, .ref g0, .ref a0, .ref w0, .ref e0, .ref f0, .int an, .int ra])), (g0, .inr (1, [.ref q5, .ref q6, .ref q7, .ref q8, .int (nI n2)]))] sz) "java/lang/IndexOutOfBoundsException" := by
  refine bc_metX (by decide) (Nat.le_of_ble_eq_true rfl) ?_
  intro p e s m args below meth c ls F hlocks hP hD hl hT9 hex
  have hx := F.1
  have hb := F.2.1
  have hml := F.2.2.1
  have hown : s.vm.findClass "BranchConstants" = some m.cls := F.2.2.2.1
  have htw := F.2.2.2.2.1
  have hN := F.2.2.2.2.2.1
  have hK := F.2.2.2.2.2.2
  have hl : lv_has ls 5 [(0, .ref b0), (1, .int 1), (2, .int y), (3, .int z)] := hl
  refine lv_aload_n hx hb de_B_code_0 rfl (lv_at hl 0 rfl) ?_
  refine lv_iload_n hx hb de_B_code_1 rfl (lv_at hl 1 rfl) ?_
  refine bc_pcall_v (As := [.int 1]) (rest := []) F (cp_B_refuseMissingRewritten1 hra) wm_353 wm_1 wm_351 wm_352 wm_619 0 rfl rfl pd_B_refuseMissingRewritten rfl rfl ⟨Nat.le_of_ble_eq_true rfl, Nat.le_of_ble_eq_true rfl⟩ hP hD [0] rfl rfl rfl hl.1 rfl (Nat.le_of_ble_eq_true rfl) de_B_code_2 ⟨Nat.le_of_ble_eq_true rfl, Nat.le_of_ble_eq_true rfl⟩ (fun v9 hv9 => ?_)
  subst hv9
  refine W.eq (g2 := F0 m 5 ls []) rfl ?_
  refine lv_aload_n hx hb de_B_code_5 rfl (lv_at hl 0 rfl) ?_
  refine lv_iload_n hx hb de_B_code_6 rfl (lv_at hl 1 rfl) ?_
  refine bc_pcall_v (As := [.int 1]) (rest := []) F (cp_B_refuseWrongSide1) wm_356 wm_1 wm_354 wm_355 wm_620 0 rfl rfl pd_B_refuseWrongSide rfl rfl ⟨Nat.le_of_ble_eq_true rfl, Nat.le_of_ble_eq_true rfl⟩ hP hD [0] rfl rfl rfl hl.1 rfl (Nat.le_of_ble_eq_true rfl) de_B_code_7 ⟨Nat.le_of_ble_eq_true rfl, Nat.le_of_ble_eq_true rfl⟩ (fun v9 hv9 => ?_)
  subst hv9
  refine W.eq (g2 := F0 m 10 ls []) rfl ?_
  refine lv_aload_n hx hb de_B_code_10 rfl (lv_at hl 0 rfl) ?_
  refine lv_iload_n hx hb de_B_code_11 rfl (lv_at hl 1 rfl) ?_
  refine bc_pcall_v (As := [.int 1]) (rest := []) F (cp_B_codeOf1) wm_359 wm_1 wm_357 wm_358 wm_621 0 rfl rfl pd_B_codeOf rfl rfl ⟨Nat.le_of_ble_eq_true rfl, Nat.le_of_ble_eq_true rfl⟩ hP hD [0] rfl rfl rfl hl.1 rfl (Nat.le_of_ble_eq_true rfl) de_B_code_12 ⟨Nat.le_of_ble_eq_true rfl, Nat.le_of_ble_eq_true rfl⟩ (fun v9 hv9 => ?_)
  subst hv9
  refine W.eq (g2 := F0 m 15 ls [.ref g0]) rfl ?_
  refine lv_astore (lv' := [(4, .ref g0), (0, .ref b0), (1, .int 1), (2, .int y), (3, .int z)]) hx hb de_B_code_15 hl (by decide) rfl (fun ls hl => ?_)
  refine lv_iload_n hx hb de_B_code_17 rfl (lv_at hl 3 rfl) ?_
  refine lv_if_lt (tgt := 39) hx hb de_B_code_18 (by decide) (fun hc_18 => ?_) (fun hc_18 => ?_)
  · exact bc_throw hl0 F hlocks hT9 hex (by decide +kernel) at_IOE wm_267 wm_268 wm_12 (List.mem_of_getElem? (i := 14) rfl) hl.1 de_B_code_39 de_B_code_42 de_B_code_43 de_B_code_45 de_B_code_48 (Nat.le_of_ble_eq_true rfl) (Nat.le_of_ble_eq_true rfl) (Nat.le_of_ble_eq_true rfl) (Nat.le_of_ble_eq_true rfl)
  · refine lv_iload_n hx hb de_B_code_21 rfl (lv_at hl 3 rfl) ?_
    refine lv_aload hx hb de_B_code_22 (lv_at hl 0 rfl) ?_
    refine va_getN (D := (dC, dI)) (ci := 1) (v := .int (nI n2)) (C := rc_C) (T := fc_C) (N := 5) hx hb htw wi_C hown hK hP 1 rfl rfl 4 (by decide) (va_Nw.use rfl (hN _ nm_13)) (fun _ h9 => h9) rfl de_B_code_24 ?_
    refine lv_icmp_ge (tgt := 39) hx hb de_B_code_27 (by decide) (fun hc_27 => ?_) (fun hc_27 => ?_)
    · exact bc_throw hl0 F hlocks hT9 hex (by decide +kernel) at_IOE wm_267 wm_268 wm_12 (List.mem_of_getElem? (i := 14) rfl) hl.1 de_B_code_39 de_B_code_42 de_B_code_43 de_B_code_45 de_B_code_48 (Nat.le_of_ble_eq_true rfl) (Nat.le_of_ble_eq_true rfl) (Nat.le_of_ble_eq_true rfl) (Nat.le_of_ble_eq_true rfl)
    · refine lv_iload_n hx hb de_B_code_30 rfl (lv_at hl 4 rfl) ?_
      refine lv_if_lt (tgt := 39) hx hb de_B_code_31 (by decide) (fun hc_31 => ?_) (fun hc_31 => ?_)
      · exact bc_throw hl0 F hlocks hT9 hex (by decide +kernel) at_IOE wm_267 wm_268 wm_12 (List.mem_of_getElem? (i := 14) rfl) hl.1 de_B_code_39 de_B_code_42 de_B_code_43 de_B_code_45 de_B_code_48 (Nat.le_of_ble_eq_true rfl) (Nat.le_of_ble_eq_true rfl) (Nat.le_of_ble_eq_true rfl) (Nat.le_of_ble_eq_true rfl)
      · refine lv_iload_n hx hb de_B_code_34 rfl (lv_at hl 4 rfl) ?_
        refine lv_iconst (v := 3) hx hb de_B_code_35 (by decide) ?_
        refine lv_icmp_le (tgt := 49) hx hb de_B_code_36 (by decide) (fun hc_36 => ?_) (fun hc_36 => ?_)
        · exact absurd ⟨bc_isn (n := n2) (by omega) hc_18 hc_27, bc_isn (n := 4) (by omega) hc_31 (bc_le3 hc_36)⟩ hce
        · exact bc_throw hl0 F hlocks hT9 hex (by decide +kernel) at_IOE wm_267 wm_268 wm_12 (List.mem_of_getElem? (i := 14) rfl) hl.1 de_B_code_39 de_B_code_42 de_B_code_43 de_B_code_45 de_B_code_48 (Nat.le_of_ble_eq_true rfl) (Nat.le_of_ble_eq_true rfl) (Nat.le_of_ble_eq_true rfl) (Nat.le_of_ble_eq_true rfl)

set_option maxHeartbeats 4000000 in
set_option maxRecDepth 100000 in
theorem cx_B_starta {l : Launch} {dC : Nat → ClassId} {dI : Nat → Nat → Nat} {cI cZ : ClassId} {sz : Nat} (hl0 : l.stackTraces = false) {b0 h0 g0 a0 w0 e0 f0 : Nat} {an ra : Int32} {x a1 b1 c1 d1 : Int32} (hsd : ¬ bc_sd x) : bc_XM l yn_B_start (Cond.code yn_B_start by_B_start 6 none :: wd_all) ({ frames := 7, cells := 1, slots := 6, locals := 103 } : Room) (bc_PreX (dC, dI) classes [(cI, .int), (cZ, .boolean)] [.ref b0, .int x, .int a1, .int b1, .int c1, .int d1] [(b0, .inr (4, [.ref h0, .ref g0, .ref a0, .ref w0, .ref e0, .ref f0, .int an, .int ra]))] sz) "java/lang/IndexOutOfBoundsException" := by
  refine bc_metX (by decide) (Nat.le_of_ble_eq_true rfl) ?_
  intro p e s m args below meth c ls F hlocks hP hD hl hT9 hex
  have hx := F.1
  have hb := F.2.1
  have hml := F.2.2.1
  have hown : s.vm.findClass "BranchConstants" = some m.cls := F.2.2.2.1
  have htw := F.2.2.2.2.1
  have hN := F.2.2.2.2.2.1
  have hK := F.2.2.2.2.2.2
  have hl : lv_has ls 6 [(0, .ref b0), (1, .int x), (2, .int a1), (3, .int b1), (4, .int c1), (5, .int d1)] := hl
  refine lv_aload_n hx hb de_B_start_0 rfl (lv_at hl 0 rfl) ?_
  refine lv_iload_n hx hb de_B_start_1 rfl (lv_at hl 1 rfl) ?_
  exact bc_xcall (As := [.int x]) (rest := []) F hlocks hT9 hex (cx_B_refuseWrongSide hl0 hsd) wm_356 wm_1 wm_354 wm_355 wm_620 0 rfl rfl pd_B_refuseWrongSide rfl rfl ⟨Nat.le_of_ble_eq_true rfl, Nat.le_of_ble_eq_true rfl⟩ hP hD [0] rfl rfl rfl hl.1 rfl (Nat.le_of_ble_eq_true rfl) de_B_start_2 ⟨Nat.le_of_ble_eq_true rfl, Nat.le_of_ble_eq_true rfl⟩

set_option maxHeartbeats 4000000 in
set_option maxRecDepth 100000 in
theorem cx_B_startb {l : Launch} {dC : Nat → ClassId} {dI : Nat → Nat → Nat} {cI cZ : ClassId} {sz : Nat} (hl0 : l.stackTraces = false) {b0 h0 g0 a0 w0 e0 f0 : Nat} {an ra : Int32} {a1 b1 c1 d1 : Int32} (hra : ra = 0) : bc_XM l yn_B_start (Cond.code yn_B_start by_B_start 6 none :: wd_all) ({ frames := 7, cells := 1, slots := 6, locals := 103 } : Room) (bc_PreX (dC, dI) classes [(cI, .int), (cZ, .boolean)] [.ref b0, .int 1, .int a1, .int b1, .int c1, .int d1] [(b0, .inr (4, [.ref h0, .ref g0, .ref a0, .ref w0, .ref e0, .ref f0, .int an, .int ra]))] sz) "java/lang/IllegalStateException" := by
  refine bc_metX (by decide) (Nat.le_of_ble_eq_true rfl) ?_
  intro p e s m args below meth c ls F hlocks hP hD hl hT9 hex
  have hx := F.1
  have hb := F.2.1
  have hml := F.2.2.1
  have hown : s.vm.findClass "BranchConstants" = some m.cls := F.2.2.2.1
  have htw := F.2.2.2.2.1
  have hN := F.2.2.2.2.2.1
  have hK := F.2.2.2.2.2.2
  have hl : lv_has ls 6 [(0, .ref b0), (1, .int 1), (2, .int a1), (3, .int b1), (4, .int c1), (5, .int d1)] := hl
  refine lv_aload_n hx hb de_B_start_0 rfl (lv_at hl 0 rfl) ?_
  refine lv_iload_n hx hb de_B_start_1 rfl (lv_at hl 1 rfl) ?_
  refine bc_pcall_v (As := [.int 1]) (rest := []) F (cp_B_refuseWrongSide1) wm_356 wm_1 wm_354 wm_355 wm_620 0 rfl rfl pd_B_refuseWrongSide rfl rfl ⟨Nat.le_of_ble_eq_true rfl, Nat.le_of_ble_eq_true rfl⟩ hP hD [0] rfl rfl rfl hl.1 rfl (Nat.le_of_ble_eq_true rfl) de_B_start_2 ⟨Nat.le_of_ble_eq_true rfl, Nat.le_of_ble_eq_true rfl⟩ (fun v9 hv9 => ?_)
  subst hv9
  refine W.eq (g2 := F0 m 5 ls []) rfl ?_
  refine lv_aload_n hx hb de_B_start_5 rfl (lv_at hl 0 rfl) ?_
  refine lv_iload_n hx hb de_B_start_6 rfl (lv_at hl 1 rfl) ?_
  exact bc_xcall (As := [.int 1]) (rest := []) F hlocks hT9 hex (cx_B_refuseMissingRewritten hl0 hra) wm_353 wm_1 wm_351 wm_352 wm_619 0 rfl rfl pd_B_refuseMissingRewritten rfl rfl ⟨Nat.le_of_ble_eq_true rfl, Nat.le_of_ble_eq_true rfl⟩ hP hD [0] rfl rfl rfl hl.1 rfl (Nat.le_of_ble_eq_true rfl) de_B_start_7 ⟨Nat.le_of_ble_eq_true rfl, Nat.le_of_ble_eq_true rfl⟩

set_option maxHeartbeats 4000000 in
set_option maxRecDepth 100000 in
theorem cx_B_runa {l : Launch} {dC : Nat → ClassId} {dI : Nat → Nat → Nat} {cI cZ : ClassId} {sz : Nat} (hl0 : l.stackTraces = false) {b0 h0 g0 a0 w0 e0 f0 : Nat} {an ra : Int32} {x mm : Int32} (hsd : ¬ bc_sd x) : bc_XM l yn_B_run (Cond.code yn_B_run by_B_run 3 (some FieldType.int) :: wd_all) ({ frames := 7, cells := 1, slots := 6, locals := 103 } : Room) (bc_PreX (dC, dI) classes [(cI, .int), (cZ, .boolean)] [.ref b0, .int x, .int mm] [(b0, .inr (4, [.ref h0, .ref g0, .ref a0, .ref w0, .ref e0, .ref f0, .int an, .int ra]))] sz) "java/lang/IndexOutOfBoundsException" := by
  refine bc_metX (by decide) (Nat.le_of_ble_eq_true rfl) ?_
  intro p e s m args below meth c ls F hlocks hP hD hl hT9 hex
  have hx := F.1
  have hb := F.2.1
  have hml := F.2.2.1
  have hown : s.vm.findClass "BranchConstants" = some m.cls := F.2.2.2.1
  have htw := F.2.2.2.2.1
  have hN := F.2.2.2.2.2.1
  have hK := F.2.2.2.2.2.2
  have hl : lv_has ls 3 [(0, .ref b0), (1, .int x), (2, .int mm)] := hl
  refine lv_aload_n hx hb de_B_run_0 rfl (lv_at hl 0 rfl) ?_
  refine lv_iload_n hx hb de_B_run_1 rfl (lv_at hl 1 rfl) ?_
  exact bc_xcall (As := [.int x]) (rest := []) F hlocks hT9 hex (cx_B_refuseWrongSide hl0 hsd) wm_356 wm_1 wm_354 wm_355 wm_620 0 rfl rfl pd_B_refuseWrongSide rfl rfl ⟨Nat.le_of_ble_eq_true rfl, Nat.le_of_ble_eq_true rfl⟩ hP hD [0] rfl rfl rfl hl.1 rfl (Nat.le_of_ble_eq_true rfl) de_B_run_2 ⟨Nat.le_of_ble_eq_true rfl, Nat.le_of_ble_eq_true rfl⟩

set_option maxHeartbeats 4000000 in
set_option maxRecDepth 100000 in
theorem cx_B_placea {l : Launch} {dC : Nat → ClassId} {dI : Nat → Nat → Nat} {cI cZ : ClassId} {sz : Nat} (hl0 : l.stackTraces = false) {b0 h0 g0 a0 w0 e0 f0 : Nat} {an ra : Int32} {x : Int32} (hsd : ¬ bc_sd x) : bc_XM l yn_B_place (Cond.code yn_B_place by_B_place 2 (some FieldType.int) :: wd_all) ({ frames := 7, cells := 1, slots := 6, locals := 103 } : Room) (bc_PreX (dC, dI) classes [(cI, .int), (cZ, .boolean)] [.ref b0, .int x] [(b0, .inr (4, [.ref h0, .ref g0, .ref a0, .ref w0, .ref e0, .ref f0, .int an, .int ra]))] sz) "java/lang/IndexOutOfBoundsException" := by
  refine bc_metX (by decide) (Nat.le_of_ble_eq_true rfl) ?_
  intro p e s m args below meth c ls F hlocks hP hD hl hT9 hex
  have hx := F.1
  have hb := F.2.1
  have hml := F.2.2.1
  have hown : s.vm.findClass "BranchConstants" = some m.cls := F.2.2.2.1
  have htw := F.2.2.2.2.1
  have hN := F.2.2.2.2.2.1
  have hK := F.2.2.2.2.2.2
  have hl : lv_has ls 2 [(0, .ref b0), (1, .int x)] := hl
  refine lv_aload_n hx hb de_B_place_0 rfl (lv_at hl 0 rfl) ?_
  refine lv_iload_n hx hb de_B_place_1 rfl (lv_at hl 1 rfl) ?_
  exact bc_xcall (As := [.int x]) (rest := []) F hlocks hT9 hex (cx_B_refuseWrongSide hl0 hsd) wm_356 wm_1 wm_354 wm_355 wm_620 0 rfl rfl pd_B_refuseWrongSide rfl rfl ⟨Nat.le_of_ble_eq_true rfl, Nat.le_of_ble_eq_true rfl⟩ hP hD [0] rfl rfl rfl hl.1 rfl (Nat.le_of_ble_eq_true rfl) de_B_place_2 ⟨Nat.le_of_ble_eq_true rfl, Nat.le_of_ble_eq_true rfl⟩

set_option maxHeartbeats 4000000 in
set_option maxRecDepth 100000 in
theorem cx_B_stepsa {l : Launch} {dC : Nat → ClassId} {dI : Nat → Nat → Nat} {cI cZ : ClassId} {sz : Nat} (hl0 : l.stackTraces = false) {b0 h0 g0 a0 w0 e0 f0 : Nat} {an ra : Int32} {x : Int32} (hsd : ¬ bc_sd x) : bc_XM l yn_B_steps (Cond.code yn_B_steps by_B_steps 2 (some FieldType.int) :: wd_all) ({ frames := 7, cells := 1, slots := 6, locals := 103 } : Room) (bc_PreX (dC, dI) classes [(cI, .int), (cZ, .boolean)] [.ref b0, .int x] [(b0, .inr (4, [.ref h0, .ref g0, .ref a0, .ref w0, .ref e0, .ref f0, .int an, .int ra]))] sz) "java/lang/IndexOutOfBoundsException" := by
  refine bc_metX (by decide) (Nat.le_of_ble_eq_true rfl) ?_
  intro p e s m args below meth c ls F hlocks hP hD hl hT9 hex
  have hx := F.1
  have hb := F.2.1
  have hml := F.2.2.1
  have hown : s.vm.findClass "BranchConstants" = some m.cls := F.2.2.2.1
  have htw := F.2.2.2.2.1
  have hN := F.2.2.2.2.2.1
  have hK := F.2.2.2.2.2.2
  have hl : lv_has ls 2 [(0, .ref b0), (1, .int x)] := hl
  refine lv_aload_n hx hb de_B_steps_0 rfl (lv_at hl 0 rfl) ?_
  refine lv_iload_n hx hb de_B_steps_1 rfl (lv_at hl 1 rfl) ?_
  exact bc_xcall (As := [.int x]) (rest := []) F hlocks hT9 hex (cx_B_refuseWrongSide hl0 hsd) wm_356 wm_1 wm_354 wm_355 wm_620 0 rfl rfl pd_B_refuseWrongSide rfl rfl ⟨Nat.le_of_ble_eq_true rfl, Nat.le_of_ble_eq_true rfl⟩ hP hD [0] rfl rfl rfl hl.1 rfl (Nat.le_of_ble_eq_true rfl) de_B_steps_2 ⟨Nat.le_of_ble_eq_true rfl, Nat.le_of_ble_eq_true rfl⟩

set_option maxHeartbeats 4000000 in
set_option maxRecDepth 100000 in
theorem cx_B_valuea {l : Launch} {dC : Nat → ClassId} {dI : Nat → Nat → Nat} {cI cZ : ClassId} {sz : Nat} (hl0 : l.stackTraces = false) {b0 h0 g0 a0 w0 e0 f0 : Nat} {an ra : Int32} {x y : Int32} (hsd : ¬ bc_sd x) : bc_XM l yn_B_value (Cond.code yn_B_value by_B_value 3 (some FieldType.int) :: wd_all) ({ frames := 7, cells := 1, slots := 6, locals := 103 } : Room) (bc_PreX (dC, dI) classes [(cI, .int), (cZ, .boolean)] [.ref b0, .int x, .int y] [(b0, .inr (4, [.ref h0, .ref g0, .ref a0, .ref w0, .ref e0, .ref f0, .int an, .int ra]))] sz) "java/lang/IndexOutOfBoundsException" := by
  refine bc_metX (by decide) (Nat.le_of_ble_eq_true rfl) ?_
  intro p e s m args below meth c ls F hlocks hP hD hl hT9 hex
  have hx := F.1
  have hb := F.2.1
  have hml := F.2.2.1
  have hown : s.vm.findClass "BranchConstants" = some m.cls := F.2.2.2.1
  have htw := F.2.2.2.2.1
  have hN := F.2.2.2.2.2.1
  have hK := F.2.2.2.2.2.2
  have hl : lv_has ls 3 [(0, .ref b0), (1, .int x), (2, .int y)] := hl
  refine lv_aload_n hx hb de_B_value_0 rfl (lv_at hl 0 rfl) ?_
  refine lv_iload_n hx hb de_B_value_1 rfl (lv_at hl 1 rfl) ?_
  exact bc_xcall (As := [.int x]) (rest := []) F hlocks hT9 hex (cx_B_refuseWrongSide hl0 hsd) wm_356 wm_1 wm_354 wm_355 wm_620 0 rfl rfl pd_B_refuseWrongSide rfl rfl ⟨Nat.le_of_ble_eq_true rfl, Nat.le_of_ble_eq_true rfl⟩ hP hD [0] rfl rfl rfl hl.1 rfl (Nat.le_of_ble_eq_true rfl) de_B_value_2 ⟨Nat.le_of_ble_eq_true rfl, Nat.le_of_ble_eq_true rfl⟩

set_option maxHeartbeats 4000000 in
set_option maxRecDepth 100000 in
theorem cx_B_runb0 {l : Launch} {dC : Nat → ClassId} {dI : Nat → Nat → Nat} {cI cZ : ClassId} {sz : Nat} (hl0 : l.stackTraces = false) {b0 h0 g0 a0 w0 e0 f0 : Nat} {an ra : Int32} {mm : Int32} (hmx : ¬ bc_mx mm) : bc_XM l yn_B_run (Cond.code yn_B_run by_B_run 3 (some FieldType.int) :: wd_all) ({ frames := 7, cells := 1, slots := 6, locals := 103 } : Room) (bc_PreX (dC, dI) classes [(cI, .int), (cZ, .boolean)] [.ref b0, .int 0, .int mm] [(b0, .inr (4, [.ref h0, .ref g0, .ref a0, .ref w0, .ref e0, .ref f0, .int an, .int ra]))] sz) "java/lang/IllegalArgumentException" := by
  refine bc_metX (by decide) (Nat.le_of_ble_eq_true rfl) ?_
  intro p e s m args below meth c ls F hlocks hP hD hl hT9 hex
  have hx := F.1
  have hb := F.2.1
  have hml := F.2.2.1
  have hown : s.vm.findClass "BranchConstants" = some m.cls := F.2.2.2.1
  have htw := F.2.2.2.2.1
  have hN := F.2.2.2.2.2.1
  have hK := F.2.2.2.2.2.2
  have hl : lv_has ls 3 [(0, .ref b0), (1, .int 0), (2, .int mm)] := hl
  refine lv_aload_n hx hb de_B_run_0 rfl (lv_at hl 0 rfl) ?_
  refine lv_iload_n hx hb de_B_run_1 rfl (lv_at hl 1 rfl) ?_
  refine bc_pcall_v (As := [.int 0]) (rest := []) F (cp_B_refuseWrongSide0) wm_356 wm_1 wm_354 wm_355 wm_620 0 rfl rfl pd_B_refuseWrongSide rfl rfl ⟨Nat.le_of_ble_eq_true rfl, Nat.le_of_ble_eq_true rfl⟩ hP hD [0] rfl rfl rfl hl.1 rfl (Nat.le_of_ble_eq_true rfl) de_B_run_2 ⟨Nat.le_of_ble_eq_true rfl, Nat.le_of_ble_eq_true rfl⟩ (fun v9 hv9 => ?_)
  subst hv9
  refine W.eq (g2 := F0 m 5 ls []) rfl ?_
  refine lv_iload_n hx hb de_B_run_5 rfl (lv_at hl 2 rfl) ?_
  refine lv_if_lt (tgt := 16) hx hb de_B_run_6 (by decide) (fun hc_6 => ?_) (fun hc_6 => ?_)
  · exact bc_throw hl0 F hlocks hT9 hex (by decide +kernel) at_IAE wm_190 wm_191 wm_10 (List.mem_of_getElem? (i := 15) rfl) hl.1 de_B_run_16 de_B_run_19 de_B_run_20 de_B_run_22 de_B_run_25 (Nat.le_of_ble_eq_true rfl) (Nat.le_of_ble_eq_true rfl) (Nat.le_of_ble_eq_true rfl) (Nat.le_of_ble_eq_true rfl)
  · refine lv_iload_n hx hb de_B_run_9 rfl (lv_at hl 2 rfl) ?_
    refine lv_sipush (v := 10000) hx hb de_B_run_10 (by decide) ?_
    refine lv_icmp_le (tgt := 26) hx hb de_B_run_13 (by decide) (fun hc_13 => ?_) (fun hc_13 => ?_)
    · exact absurd (bc_mx_of hc_6 hc_13) hmx
    · exact bc_throw hl0 F hlocks hT9 hex (by decide +kernel) at_IAE wm_190 wm_191 wm_10 (List.mem_of_getElem? (i := 15) rfl) hl.1 de_B_run_16 de_B_run_19 de_B_run_20 de_B_run_22 de_B_run_25 (Nat.le_of_ble_eq_true rfl) (Nat.le_of_ble_eq_true rfl) (Nat.le_of_ble_eq_true rfl) (Nat.le_of_ble_eq_true rfl)

set_option maxHeartbeats 4000000 in
set_option maxRecDepth 100000 in
theorem cx_B_runc0 {l : Launch} {dC : Nat → ClassId} {dI : Nat → Nat → Nat} {cI cZ : ClassId} {sz : Nat} (hl0 : l.stackTraces = false) {b0 h0 g0 a0 w0 e0 v1 f0 : Nat} {an ra pl0 sp0 on0 : Int32} {mx : Nat} (hmx : mx ≤ 10000) (hon : on0 = 0) : bc_XM l yn_B_run (Cond.code yn_B_run by_B_run 3 (some FieldType.int) :: wd_all) ({ frames := 7, cells := 1, slots := 6, locals := 103 } : Room) (bc_PreX (dC, dI) classes [(cI, .int), (cZ, .boolean)] [.ref b0, .int 0, .int (nI mx)] [(b0, .inr (4, [.ref h0, .ref g0, .ref a0, .ref w0, .ref e0, .ref f0, .int an, .int ra])), (e0, .inr (2, [.ref v1, .int pl0, .int sp0, .int on0]))] sz) "java/lang/IllegalStateException" := by
  refine bc_metX (by decide) (Nat.le_of_ble_eq_true rfl) ?_
  intro p e s m args below meth c ls F hlocks hP hD hl hT9 hex
  have hx := F.1
  have hb := F.2.1
  have hml := F.2.2.1
  have hown : s.vm.findClass "BranchConstants" = some m.cls := F.2.2.2.1
  have htw := F.2.2.2.2.1
  have hN := F.2.2.2.2.2.1
  have hK := F.2.2.2.2.2.2
  have hl : lv_has ls 3 [(0, .ref b0), (1, .int 0), (2, .int (nI mx))] := hl
  refine lv_aload_n hx hb de_B_run_0 rfl (lv_at hl 0 rfl) ?_
  refine lv_iload_n hx hb de_B_run_1 rfl (lv_at hl 1 rfl) ?_
  refine bc_pcall_v (As := [.int 0]) (rest := []) F (cp_B_refuseWrongSide0) wm_356 wm_1 wm_354 wm_355 wm_620 0 rfl rfl pd_B_refuseWrongSide rfl rfl ⟨Nat.le_of_ble_eq_true rfl, Nat.le_of_ble_eq_true rfl⟩ hP hD [0] rfl rfl rfl hl.1 rfl (Nat.le_of_ble_eq_true rfl) de_B_run_2 ⟨Nat.le_of_ble_eq_true rfl, Nat.le_of_ble_eq_true rfl⟩ (fun v9 hv9 => ?_)
  subst hv9
  refine W.eq (g2 := F0 m 5 ls []) rfl ?_
  refine lv_iload_n hx hb de_B_run_5 rfl (lv_at hl 2 rfl) ?_
  refine lv_if_lt (tgt := 16) hx hb de_B_run_6 (by decide) (fun hc => absurd hc (nI_pos (by omega))) (fun _ => ?_)
  refine lv_iload_n hx hb de_B_run_9 rfl (lv_at hl 2 rfl) ?_
  refine lv_sipush (v := 10000) hx hb de_B_run_10 (by decide) ?_
  refine lv_icmp_le (tgt := 26) hx hb de_B_run_13 (by decide) (fun _ => ?_) (fun hc => absurd ((nI_leI (a := mx) (b := 10000) (by omega) (by omega)).mpr hmx) hc)
  refine lv_aload_n hx hb de_B_run_26 rfl (lv_at hl 0 rfl) ?_
  refine lv_iload_n hx hb de_B_run_27 rfl (lv_at hl 1 rfl) ?_
  exact bc_xcall (As := [.int 0]) (rest := []) F hlocks hT9 hex (cx_B_refuseUnstarted0 hl0 hon) wm_387 wm_1 wm_385 wm_386 wm_626 0 rfl rfl pd_B_refuseUnstarted rfl rfl ⟨Nat.le_of_ble_eq_true rfl, Nat.le_of_ble_eq_true rfl⟩ hP hD [0, 1] rfl rfl rfl hl.1 rfl (Nat.le_of_ble_eq_true rfl) de_B_run_28 ⟨Nat.le_of_ble_eq_true rfl, Nat.le_of_ble_eq_true rfl⟩

set_option maxHeartbeats 4000000 in
set_option maxRecDepth 100000 in
theorem cx_B_placeb0 {l : Launch} {dC : Nat → ClassId} {dI : Nat → Nat → Nat} {cI cZ : ClassId} {sz : Nat} (hl0 : l.stackTraces = false) {b0 h0 g0 a0 w0 e0 v1 f0 : Nat} {an ra pl0 sp0 on0 : Int32}  (hon : on0 = 0) : bc_XM l yn_B_place (Cond.code yn_B_place by_B_place 2 (some FieldType.int) :: wd_all) ({ frames := 7, cells := 1, slots := 6, locals := 103 } : Room) (bc_PreX (dC, dI) classes [(cI, .int), (cZ, .boolean)] [.ref b0, .int 0] [(b0, .inr (4, [.ref h0, .ref g0, .ref a0, .ref w0, .ref e0, .ref f0, .int an, .int ra])), (e0, .inr (2, [.ref v1, .int pl0, .int sp0, .int on0]))] sz) "java/lang/IllegalStateException" := by
  refine bc_metX (by decide) (Nat.le_of_ble_eq_true rfl) ?_
  intro p e s m args below meth c ls F hlocks hP hD hl hT9 hex
  have hx := F.1
  have hb := F.2.1
  have hml := F.2.2.1
  have hown : s.vm.findClass "BranchConstants" = some m.cls := F.2.2.2.1
  have htw := F.2.2.2.2.1
  have hN := F.2.2.2.2.2.1
  have hK := F.2.2.2.2.2.2
  have hl : lv_has ls 2 [(0, .ref b0), (1, .int 0)] := hl
  refine lv_aload_n hx hb de_B_place_0 rfl (lv_at hl 0 rfl) ?_
  refine lv_iload_n hx hb de_B_place_1 rfl (lv_at hl 1 rfl) ?_
  refine bc_pcall_v (As := [.int 0]) (rest := []) F (cp_B_refuseWrongSide0) wm_356 wm_1 wm_354 wm_355 wm_620 0 rfl rfl pd_B_refuseWrongSide rfl rfl ⟨Nat.le_of_ble_eq_true rfl, Nat.le_of_ble_eq_true rfl⟩ hP hD [0] rfl rfl rfl hl.1 rfl (Nat.le_of_ble_eq_true rfl) de_B_place_2 ⟨Nat.le_of_ble_eq_true rfl, Nat.le_of_ble_eq_true rfl⟩ (fun v9 hv9 => ?_)
  subst hv9
  refine W.eq (g2 := F0 m 5 ls []) rfl ?_
  refine lv_aload_n hx hb de_B_place_5 rfl (lv_at hl 0 rfl) ?_
  refine lv_iload_n hx hb de_B_place_6 rfl (lv_at hl 1 rfl) ?_
  exact bc_xcall (As := [.int 0]) (rest := []) F hlocks hT9 hex (cx_B_refuseUnstarted0 hl0 hon) wm_387 wm_1 wm_385 wm_386 wm_626 0 rfl rfl pd_B_refuseUnstarted rfl rfl ⟨Nat.le_of_ble_eq_true rfl, Nat.le_of_ble_eq_true rfl⟩ hP hD [0, 1] rfl rfl rfl hl.1 rfl (Nat.le_of_ble_eq_true rfl) de_B_place_7 ⟨Nat.le_of_ble_eq_true rfl, Nat.le_of_ble_eq_true rfl⟩

set_option maxHeartbeats 4000000 in
set_option maxRecDepth 100000 in
theorem cx_B_stepsb0 {l : Launch} {dC : Nat → ClassId} {dI : Nat → Nat → Nat} {cI cZ : ClassId} {sz : Nat} (hl0 : l.stackTraces = false) {b0 h0 g0 a0 w0 e0 v1 f0 : Nat} {an ra pl0 sp0 on0 : Int32}  (hon : on0 = 0) : bc_XM l yn_B_steps (Cond.code yn_B_steps by_B_steps 2 (some FieldType.int) :: wd_all) ({ frames := 7, cells := 1, slots := 6, locals := 103 } : Room) (bc_PreX (dC, dI) classes [(cI, .int), (cZ, .boolean)] [.ref b0, .int 0] [(b0, .inr (4, [.ref h0, .ref g0, .ref a0, .ref w0, .ref e0, .ref f0, .int an, .int ra])), (e0, .inr (2, [.ref v1, .int pl0, .int sp0, .int on0]))] sz) "java/lang/IllegalStateException" := by
  refine bc_metX (by decide) (Nat.le_of_ble_eq_true rfl) ?_
  intro p e s m args below meth c ls F hlocks hP hD hl hT9 hex
  have hx := F.1
  have hb := F.2.1
  have hml := F.2.2.1
  have hown : s.vm.findClass "BranchConstants" = some m.cls := F.2.2.2.1
  have htw := F.2.2.2.2.1
  have hN := F.2.2.2.2.2.1
  have hK := F.2.2.2.2.2.2
  have hl : lv_has ls 2 [(0, .ref b0), (1, .int 0)] := hl
  refine lv_aload_n hx hb de_B_steps_0 rfl (lv_at hl 0 rfl) ?_
  refine lv_iload_n hx hb de_B_steps_1 rfl (lv_at hl 1 rfl) ?_
  refine bc_pcall_v (As := [.int 0]) (rest := []) F (cp_B_refuseWrongSide0) wm_356 wm_1 wm_354 wm_355 wm_620 0 rfl rfl pd_B_refuseWrongSide rfl rfl ⟨Nat.le_of_ble_eq_true rfl, Nat.le_of_ble_eq_true rfl⟩ hP hD [0] rfl rfl rfl hl.1 rfl (Nat.le_of_ble_eq_true rfl) de_B_steps_2 ⟨Nat.le_of_ble_eq_true rfl, Nat.le_of_ble_eq_true rfl⟩ (fun v9 hv9 => ?_)
  subst hv9
  refine W.eq (g2 := F0 m 5 ls []) rfl ?_
  refine lv_aload_n hx hb de_B_steps_5 rfl (lv_at hl 0 rfl) ?_
  refine lv_iload_n hx hb de_B_steps_6 rfl (lv_at hl 1 rfl) ?_
  exact bc_xcall (As := [.int 0]) (rest := []) F hlocks hT9 hex (cx_B_refuseUnstarted0 hl0 hon) wm_387 wm_1 wm_385 wm_386 wm_626 0 rfl rfl pd_B_refuseUnstarted rfl rfl ⟨Nat.le_of_ble_eq_true rfl, Nat.le_of_ble_eq_true rfl⟩ hP hD [0, 1] rfl rfl rfl hl.1 rfl (Nat.le_of_ble_eq_true rfl) de_B_steps_7 ⟨Nat.le_of_ble_eq_true rfl, Nat.le_of_ble_eq_true rfl⟩

set_option maxHeartbeats 4000000 in
set_option maxRecDepth 100000 in
theorem cx_B_valueb0 {l : Launch} {dC : Nat → ClassId} {dI : Nat → Nat → Nat} {cI cZ : ClassId} {sz : Nat} (hl0 : l.stackTraces = false) {b0 h0 g0 a0 w0 e0 f0 : Nat} {an ra : Int32} {y : Int32} (hvx : ¬ bc_vr y) : bc_XM l yn_B_value (Cond.code yn_B_value by_B_value 3 (some FieldType.int) :: wd_all) ({ frames := 7, cells := 1, slots := 6, locals := 103 } : Room) (bc_PreX (dC, dI) classes [(cI, .int), (cZ, .boolean)] [.ref b0, .int 0, .int y] [(b0, .inr (4, [.ref h0, .ref g0, .ref a0, .ref w0, .ref e0, .ref f0, .int an, .int ra]))] sz) "java/lang/IndexOutOfBoundsException" := by
  refine bc_metX (by decide) (Nat.le_of_ble_eq_true rfl) ?_
  intro p e s m args below meth c ls F hlocks hP hD hl hT9 hex
  have hx := F.1
  have hb := F.2.1
  have hml := F.2.2.1
  have hown : s.vm.findClass "BranchConstants" = some m.cls := F.2.2.2.1
  have htw := F.2.2.2.2.1
  have hN := F.2.2.2.2.2.1
  have hK := F.2.2.2.2.2.2
  have hl : lv_has ls 3 [(0, .ref b0), (1, .int 0), (2, .int y)] := hl
  refine lv_aload_n hx hb de_B_value_0 rfl (lv_at hl 0 rfl) ?_
  refine lv_iload_n hx hb de_B_value_1 rfl (lv_at hl 1 rfl) ?_
  refine bc_pcall_v (As := [.int 0]) (rest := []) F (cp_B_refuseWrongSide0) wm_356 wm_1 wm_354 wm_355 wm_620 0 rfl rfl pd_B_refuseWrongSide rfl rfl ⟨Nat.le_of_ble_eq_true rfl, Nat.le_of_ble_eq_true rfl⟩ hP hD [0] rfl rfl rfl hl.1 rfl (Nat.le_of_ble_eq_true rfl) de_B_value_2 ⟨Nat.le_of_ble_eq_true rfl, Nat.le_of_ble_eq_true rfl⟩ (fun v9 hv9 => ?_)
  subst hv9
  refine W.eq (g2 := F0 m 5 ls []) rfl ?_
  refine lv_aload_n hx hb de_B_value_5 rfl (lv_at hl 0 rfl) ?_
  refine lv_iload_n hx hb de_B_value_6 rfl (lv_at hl 2 rfl) ?_
  exact bc_xcall (As := [.int y]) (rest := []) F hlocks hT9 hex (cx_B_refuseWrongVariable hl0 hvx) wm_297 wm_1 wm_295 wm_296 wm_610 0 rfl rfl pd_B_refuseWrongVariable rfl rfl ⟨Nat.le_of_ble_eq_true rfl, Nat.le_of_ble_eq_true rfl⟩ hP hD [0] rfl rfl rfl hl.1 rfl (Nat.le_of_ble_eq_true rfl) de_B_value_7 ⟨Nat.le_of_ble_eq_true rfl, Nat.le_of_ble_eq_true rfl⟩

set_option maxHeartbeats 4000000 in
set_option maxRecDepth 100000 in
theorem cx_B_valuec0 {l : Launch} {dC : Nat → ClassId} {dI : Nat → Nat → Nat} {cI cZ : ClassId} {sz : Nat} (hl0 : l.stackTraces = false) {b0 h0 g0 a0 w0 e0 v1 f0 : Nat} {an ra pl0 sp0 on0 : Int32} {w : Nat} (hv : w < 6) (hon : on0 = 0) : bc_XM l yn_B_value (Cond.code yn_B_value by_B_value 3 (some FieldType.int) :: wd_all) ({ frames := 7, cells := 1, slots := 6, locals := 103 } : Room) (bc_PreX (dC, dI) classes [(cI, .int), (cZ, .boolean)] [.ref b0, .int 0, .int (nI w)] [(b0, .inr (4, [.ref h0, .ref g0, .ref a0, .ref w0, .ref e0, .ref f0, .int an, .int ra])), (e0, .inr (2, [.ref v1, .int pl0, .int sp0, .int on0]))] sz) "java/lang/IllegalStateException" := by
  refine bc_metX (by decide) (Nat.le_of_ble_eq_true rfl) ?_
  intro p e s m args below meth c ls F hlocks hP hD hl hT9 hex
  have hx := F.1
  have hb := F.2.1
  have hml := F.2.2.1
  have hown : s.vm.findClass "BranchConstants" = some m.cls := F.2.2.2.1
  have htw := F.2.2.2.2.1
  have hN := F.2.2.2.2.2.1
  have hK := F.2.2.2.2.2.2
  have hl : lv_has ls 3 [(0, .ref b0), (1, .int 0), (2, .int (nI w))] := hl
  refine lv_aload_n hx hb de_B_value_0 rfl (lv_at hl 0 rfl) ?_
  refine lv_iload_n hx hb de_B_value_1 rfl (lv_at hl 1 rfl) ?_
  refine bc_pcall_v (As := [.int 0]) (rest := []) F (cp_B_refuseWrongSide0) wm_356 wm_1 wm_354 wm_355 wm_620 0 rfl rfl pd_B_refuseWrongSide rfl rfl ⟨Nat.le_of_ble_eq_true rfl, Nat.le_of_ble_eq_true rfl⟩ hP hD [0] rfl rfl rfl hl.1 rfl (Nat.le_of_ble_eq_true rfl) de_B_value_2 ⟨Nat.le_of_ble_eq_true rfl, Nat.le_of_ble_eq_true rfl⟩ (fun v9 hv9 => ?_)
  subst hv9
  refine W.eq (g2 := F0 m 5 ls []) rfl ?_
  refine lv_aload_n hx hb de_B_value_5 rfl (lv_at hl 0 rfl) ?_
  refine lv_iload_n hx hb de_B_value_6 rfl (lv_at hl 2 rfl) ?_
  refine bc_pcall_v (As := [.int (nI w)]) (rest := []) F (cp_B_refuseWrongVariable hv) wm_297 wm_1 wm_295 wm_296 wm_610 0 rfl rfl pd_B_refuseWrongVariable rfl rfl ⟨Nat.le_of_ble_eq_true rfl, Nat.le_of_ble_eq_true rfl⟩ hP hD [0] rfl rfl rfl hl.1 rfl (Nat.le_of_ble_eq_true rfl) de_B_value_7 ⟨Nat.le_of_ble_eq_true rfl, Nat.le_of_ble_eq_true rfl⟩ (fun v9 hv9 => ?_)
  subst hv9
  refine W.eq (g2 := F0 m 10 ls []) rfl ?_
  refine lv_aload_n hx hb de_B_value_10 rfl (lv_at hl 0 rfl) ?_
  refine lv_iload_n hx hb de_B_value_11 rfl (lv_at hl 1 rfl) ?_
  exact bc_xcall (As := [.int 0]) (rest := []) F hlocks hT9 hex (cx_B_refuseUnstarted0 hl0 hon) wm_387 wm_1 wm_385 wm_386 wm_626 0 rfl rfl pd_B_refuseUnstarted rfl rfl ⟨Nat.le_of_ble_eq_true rfl, Nat.le_of_ble_eq_true rfl⟩ hP hD [0, 1] rfl rfl rfl hl.1 rfl (Nat.le_of_ble_eq_true rfl) de_B_value_12 ⟨Nat.le_of_ble_eq_true rfl, Nat.le_of_ble_eq_true rfl⟩

set_option maxHeartbeats 4000000 in
set_option maxRecDepth 100000 in
theorem cx_B_runb1 {l : Launch} {dC : Nat → ClassId} {dI : Nat → Nat → Nat} {cI cZ : ClassId} {sz : Nat} (hl0 : l.stackTraces = false) {b0 h0 g0 a0 w0 e0 f0 : Nat} {an ra : Int32} {mm : Int32} (hmx : ¬ bc_mx mm) : bc_XM l yn_B_run (Cond.code yn_B_run by_B_run 3 (some FieldType.int) :: wd_all) ({ frames := 7, cells := 1, slots := 6, locals := 103 } : Room) (bc_PreX (dC, dI) classes [(cI, .int), (cZ, .boolean)] [.ref b0, .int 1, .int mm] [(b0, .inr (4, [.ref h0, .ref g0, .ref a0, .ref w0, .ref e0, .ref f0, .int an, .int ra]))] sz) "java/lang/IllegalArgumentException" := by
  refine bc_metX (by decide) (Nat.le_of_ble_eq_true rfl) ?_
  intro p e s m args below meth c ls F hlocks hP hD hl hT9 hex
  have hx := F.1
  have hb := F.2.1
  have hml := F.2.2.1
  have hown : s.vm.findClass "BranchConstants" = some m.cls := F.2.2.2.1
  have htw := F.2.2.2.2.1
  have hN := F.2.2.2.2.2.1
  have hK := F.2.2.2.2.2.2
  have hl : lv_has ls 3 [(0, .ref b0), (1, .int 1), (2, .int mm)] := hl
  refine lv_aload_n hx hb de_B_run_0 rfl (lv_at hl 0 rfl) ?_
  refine lv_iload_n hx hb de_B_run_1 rfl (lv_at hl 1 rfl) ?_
  refine bc_pcall_v (As := [.int 1]) (rest := []) F (cp_B_refuseWrongSide1) wm_356 wm_1 wm_354 wm_355 wm_620 0 rfl rfl pd_B_refuseWrongSide rfl rfl ⟨Nat.le_of_ble_eq_true rfl, Nat.le_of_ble_eq_true rfl⟩ hP hD [0] rfl rfl rfl hl.1 rfl (Nat.le_of_ble_eq_true rfl) de_B_run_2 ⟨Nat.le_of_ble_eq_true rfl, Nat.le_of_ble_eq_true rfl⟩ (fun v9 hv9 => ?_)
  subst hv9
  refine W.eq (g2 := F0 m 5 ls []) rfl ?_
  refine lv_iload_n hx hb de_B_run_5 rfl (lv_at hl 2 rfl) ?_
  refine lv_if_lt (tgt := 16) hx hb de_B_run_6 (by decide) (fun hc_6 => ?_) (fun hc_6 => ?_)
  · exact bc_throw hl0 F hlocks hT9 hex (by decide +kernel) at_IAE wm_190 wm_191 wm_10 (List.mem_of_getElem? (i := 15) rfl) hl.1 de_B_run_16 de_B_run_19 de_B_run_20 de_B_run_22 de_B_run_25 (Nat.le_of_ble_eq_true rfl) (Nat.le_of_ble_eq_true rfl) (Nat.le_of_ble_eq_true rfl) (Nat.le_of_ble_eq_true rfl)
  · refine lv_iload_n hx hb de_B_run_9 rfl (lv_at hl 2 rfl) ?_
    refine lv_sipush (v := 10000) hx hb de_B_run_10 (by decide) ?_
    refine lv_icmp_le (tgt := 26) hx hb de_B_run_13 (by decide) (fun hc_13 => ?_) (fun hc_13 => ?_)
    · exact absurd (bc_mx_of hc_6 hc_13) hmx
    · exact bc_throw hl0 F hlocks hT9 hex (by decide +kernel) at_IAE wm_190 wm_191 wm_10 (List.mem_of_getElem? (i := 15) rfl) hl.1 de_B_run_16 de_B_run_19 de_B_run_20 de_B_run_22 de_B_run_25 (Nat.le_of_ble_eq_true rfl) (Nat.le_of_ble_eq_true rfl) (Nat.le_of_ble_eq_true rfl) (Nat.le_of_ble_eq_true rfl)

set_option maxHeartbeats 4000000 in
set_option maxRecDepth 100000 in
theorem cx_B_runc1 {l : Launch} {dC : Nat → ClassId} {dI : Nat → Nat → Nat} {cI cZ : ClassId} {sz : Nat} (hl0 : l.stackTraces = false) {b0 h0 g0 a0 w0 e0 f0 v2 : Nat} {an ra pl1 sp1 on1 : Int32} {mx : Nat} (hmx : mx ≤ 10000) (hon : on1 = 0) : bc_XM l yn_B_run (Cond.code yn_B_run by_B_run 3 (some FieldType.int) :: wd_all) ({ frames := 7, cells := 1, slots := 6, locals := 103 } : Room) (bc_PreX (dC, dI) classes [(cI, .int), (cZ, .boolean)] [.ref b0, .int 1, .int (nI mx)] [(b0, .inr (4, [.ref h0, .ref g0, .ref a0, .ref w0, .ref e0, .ref f0, .int an, .int ra])), (f0, .inr (2, [.ref v2, .int pl1, .int sp1, .int on1]))] sz) "java/lang/IllegalStateException" := by
  refine bc_metX (by decide) (Nat.le_of_ble_eq_true rfl) ?_
  intro p e s m args below meth c ls F hlocks hP hD hl hT9 hex
  have hx := F.1
  have hb := F.2.1
  have hml := F.2.2.1
  have hown : s.vm.findClass "BranchConstants" = some m.cls := F.2.2.2.1
  have htw := F.2.2.2.2.1
  have hN := F.2.2.2.2.2.1
  have hK := F.2.2.2.2.2.2
  have hl : lv_has ls 3 [(0, .ref b0), (1, .int 1), (2, .int (nI mx))] := hl
  refine lv_aload_n hx hb de_B_run_0 rfl (lv_at hl 0 rfl) ?_
  refine lv_iload_n hx hb de_B_run_1 rfl (lv_at hl 1 rfl) ?_
  refine bc_pcall_v (As := [.int 1]) (rest := []) F (cp_B_refuseWrongSide1) wm_356 wm_1 wm_354 wm_355 wm_620 0 rfl rfl pd_B_refuseWrongSide rfl rfl ⟨Nat.le_of_ble_eq_true rfl, Nat.le_of_ble_eq_true rfl⟩ hP hD [0] rfl rfl rfl hl.1 rfl (Nat.le_of_ble_eq_true rfl) de_B_run_2 ⟨Nat.le_of_ble_eq_true rfl, Nat.le_of_ble_eq_true rfl⟩ (fun v9 hv9 => ?_)
  subst hv9
  refine W.eq (g2 := F0 m 5 ls []) rfl ?_
  refine lv_iload_n hx hb de_B_run_5 rfl (lv_at hl 2 rfl) ?_
  refine lv_if_lt (tgt := 16) hx hb de_B_run_6 (by decide) (fun hc => absurd hc (nI_pos (by omega))) (fun _ => ?_)
  refine lv_iload_n hx hb de_B_run_9 rfl (lv_at hl 2 rfl) ?_
  refine lv_sipush (v := 10000) hx hb de_B_run_10 (by decide) ?_
  refine lv_icmp_le (tgt := 26) hx hb de_B_run_13 (by decide) (fun _ => ?_) (fun hc => absurd ((nI_leI (a := mx) (b := 10000) (by omega) (by omega)).mpr hmx) hc)
  refine lv_aload_n hx hb de_B_run_26 rfl (lv_at hl 0 rfl) ?_
  refine lv_iload_n hx hb de_B_run_27 rfl (lv_at hl 1 rfl) ?_
  exact bc_xcall (As := [.int 1]) (rest := []) F hlocks hT9 hex (cx_B_refuseUnstarted1 hl0 hon) wm_387 wm_1 wm_385 wm_386 wm_626 0 rfl rfl pd_B_refuseUnstarted rfl rfl ⟨Nat.le_of_ble_eq_true rfl, Nat.le_of_ble_eq_true rfl⟩ hP hD [0, 1] rfl rfl rfl hl.1 rfl (Nat.le_of_ble_eq_true rfl) de_B_run_28 ⟨Nat.le_of_ble_eq_true rfl, Nat.le_of_ble_eq_true rfl⟩

set_option maxHeartbeats 4000000 in
set_option maxRecDepth 100000 in
theorem cx_B_placeb1 {l : Launch} {dC : Nat → ClassId} {dI : Nat → Nat → Nat} {cI cZ : ClassId} {sz : Nat} (hl0 : l.stackTraces = false) {b0 h0 g0 a0 w0 e0 f0 v2 : Nat} {an ra pl1 sp1 on1 : Int32}  (hon : on1 = 0) : bc_XM l yn_B_place (Cond.code yn_B_place by_B_place 2 (some FieldType.int) :: wd_all) ({ frames := 7, cells := 1, slots := 6, locals := 103 } : Room) (bc_PreX (dC, dI) classes [(cI, .int), (cZ, .boolean)] [.ref b0, .int 1] [(b0, .inr (4, [.ref h0, .ref g0, .ref a0, .ref w0, .ref e0, .ref f0, .int an, .int ra])), (f0, .inr (2, [.ref v2, .int pl1, .int sp1, .int on1]))] sz) "java/lang/IllegalStateException" := by
  refine bc_metX (by decide) (Nat.le_of_ble_eq_true rfl) ?_
  intro p e s m args below meth c ls F hlocks hP hD hl hT9 hex
  have hx := F.1
  have hb := F.2.1
  have hml := F.2.2.1
  have hown : s.vm.findClass "BranchConstants" = some m.cls := F.2.2.2.1
  have htw := F.2.2.2.2.1
  have hN := F.2.2.2.2.2.1
  have hK := F.2.2.2.2.2.2
  have hl : lv_has ls 2 [(0, .ref b0), (1, .int 1)] := hl
  refine lv_aload_n hx hb de_B_place_0 rfl (lv_at hl 0 rfl) ?_
  refine lv_iload_n hx hb de_B_place_1 rfl (lv_at hl 1 rfl) ?_
  refine bc_pcall_v (As := [.int 1]) (rest := []) F (cp_B_refuseWrongSide1) wm_356 wm_1 wm_354 wm_355 wm_620 0 rfl rfl pd_B_refuseWrongSide rfl rfl ⟨Nat.le_of_ble_eq_true rfl, Nat.le_of_ble_eq_true rfl⟩ hP hD [0] rfl rfl rfl hl.1 rfl (Nat.le_of_ble_eq_true rfl) de_B_place_2 ⟨Nat.le_of_ble_eq_true rfl, Nat.le_of_ble_eq_true rfl⟩ (fun v9 hv9 => ?_)
  subst hv9
  refine W.eq (g2 := F0 m 5 ls []) rfl ?_
  refine lv_aload_n hx hb de_B_place_5 rfl (lv_at hl 0 rfl) ?_
  refine lv_iload_n hx hb de_B_place_6 rfl (lv_at hl 1 rfl) ?_
  exact bc_xcall (As := [.int 1]) (rest := []) F hlocks hT9 hex (cx_B_refuseUnstarted1 hl0 hon) wm_387 wm_1 wm_385 wm_386 wm_626 0 rfl rfl pd_B_refuseUnstarted rfl rfl ⟨Nat.le_of_ble_eq_true rfl, Nat.le_of_ble_eq_true rfl⟩ hP hD [0, 1] rfl rfl rfl hl.1 rfl (Nat.le_of_ble_eq_true rfl) de_B_place_7 ⟨Nat.le_of_ble_eq_true rfl, Nat.le_of_ble_eq_true rfl⟩

set_option maxHeartbeats 4000000 in
set_option maxRecDepth 100000 in
theorem cx_B_stepsb1 {l : Launch} {dC : Nat → ClassId} {dI : Nat → Nat → Nat} {cI cZ : ClassId} {sz : Nat} (hl0 : l.stackTraces = false) {b0 h0 g0 a0 w0 e0 f0 v2 : Nat} {an ra pl1 sp1 on1 : Int32}  (hon : on1 = 0) : bc_XM l yn_B_steps (Cond.code yn_B_steps by_B_steps 2 (some FieldType.int) :: wd_all) ({ frames := 7, cells := 1, slots := 6, locals := 103 } : Room) (bc_PreX (dC, dI) classes [(cI, .int), (cZ, .boolean)] [.ref b0, .int 1] [(b0, .inr (4, [.ref h0, .ref g0, .ref a0, .ref w0, .ref e0, .ref f0, .int an, .int ra])), (f0, .inr (2, [.ref v2, .int pl1, .int sp1, .int on1]))] sz) "java/lang/IllegalStateException" := by
  refine bc_metX (by decide) (Nat.le_of_ble_eq_true rfl) ?_
  intro p e s m args below meth c ls F hlocks hP hD hl hT9 hex
  have hx := F.1
  have hb := F.2.1
  have hml := F.2.2.1
  have hown : s.vm.findClass "BranchConstants" = some m.cls := F.2.2.2.1
  have htw := F.2.2.2.2.1
  have hN := F.2.2.2.2.2.1
  have hK := F.2.2.2.2.2.2
  have hl : lv_has ls 2 [(0, .ref b0), (1, .int 1)] := hl
  refine lv_aload_n hx hb de_B_steps_0 rfl (lv_at hl 0 rfl) ?_
  refine lv_iload_n hx hb de_B_steps_1 rfl (lv_at hl 1 rfl) ?_
  refine bc_pcall_v (As := [.int 1]) (rest := []) F (cp_B_refuseWrongSide1) wm_356 wm_1 wm_354 wm_355 wm_620 0 rfl rfl pd_B_refuseWrongSide rfl rfl ⟨Nat.le_of_ble_eq_true rfl, Nat.le_of_ble_eq_true rfl⟩ hP hD [0] rfl rfl rfl hl.1 rfl (Nat.le_of_ble_eq_true rfl) de_B_steps_2 ⟨Nat.le_of_ble_eq_true rfl, Nat.le_of_ble_eq_true rfl⟩ (fun v9 hv9 => ?_)
  subst hv9
  refine W.eq (g2 := F0 m 5 ls []) rfl ?_
  refine lv_aload_n hx hb de_B_steps_5 rfl (lv_at hl 0 rfl) ?_
  refine lv_iload_n hx hb de_B_steps_6 rfl (lv_at hl 1 rfl) ?_
  exact bc_xcall (As := [.int 1]) (rest := []) F hlocks hT9 hex (cx_B_refuseUnstarted1 hl0 hon) wm_387 wm_1 wm_385 wm_386 wm_626 0 rfl rfl pd_B_refuseUnstarted rfl rfl ⟨Nat.le_of_ble_eq_true rfl, Nat.le_of_ble_eq_true rfl⟩ hP hD [0, 1] rfl rfl rfl hl.1 rfl (Nat.le_of_ble_eq_true rfl) de_B_steps_7 ⟨Nat.le_of_ble_eq_true rfl, Nat.le_of_ble_eq_true rfl⟩

set_option maxHeartbeats 4000000 in
set_option maxRecDepth 100000 in
theorem cx_B_valueb1 {l : Launch} {dC : Nat → ClassId} {dI : Nat → Nat → Nat} {cI cZ : ClassId} {sz : Nat} (hl0 : l.stackTraces = false) {b0 h0 g0 a0 w0 e0 f0 : Nat} {an ra : Int32} {y : Int32} (hvx : ¬ bc_vr y) : bc_XM l yn_B_value (Cond.code yn_B_value by_B_value 3 (some FieldType.int) :: wd_all) ({ frames := 7, cells := 1, slots := 6, locals := 103 } : Room) (bc_PreX (dC, dI) classes [(cI, .int), (cZ, .boolean)] [.ref b0, .int 1, .int y] [(b0, .inr (4, [.ref h0, .ref g0, .ref a0, .ref w0, .ref e0, .ref f0, .int an, .int ra]))] sz) "java/lang/IndexOutOfBoundsException" := by
  refine bc_metX (by decide) (Nat.le_of_ble_eq_true rfl) ?_
  intro p e s m args below meth c ls F hlocks hP hD hl hT9 hex
  have hx := F.1
  have hb := F.2.1
  have hml := F.2.2.1
  have hown : s.vm.findClass "BranchConstants" = some m.cls := F.2.2.2.1
  have htw := F.2.2.2.2.1
  have hN := F.2.2.2.2.2.1
  have hK := F.2.2.2.2.2.2
  have hl : lv_has ls 3 [(0, .ref b0), (1, .int 1), (2, .int y)] := hl
  refine lv_aload_n hx hb de_B_value_0 rfl (lv_at hl 0 rfl) ?_
  refine lv_iload_n hx hb de_B_value_1 rfl (lv_at hl 1 rfl) ?_
  refine bc_pcall_v (As := [.int 1]) (rest := []) F (cp_B_refuseWrongSide1) wm_356 wm_1 wm_354 wm_355 wm_620 0 rfl rfl pd_B_refuseWrongSide rfl rfl ⟨Nat.le_of_ble_eq_true rfl, Nat.le_of_ble_eq_true rfl⟩ hP hD [0] rfl rfl rfl hl.1 rfl (Nat.le_of_ble_eq_true rfl) de_B_value_2 ⟨Nat.le_of_ble_eq_true rfl, Nat.le_of_ble_eq_true rfl⟩ (fun v9 hv9 => ?_)
  subst hv9
  refine W.eq (g2 := F0 m 5 ls []) rfl ?_
  refine lv_aload_n hx hb de_B_value_5 rfl (lv_at hl 0 rfl) ?_
  refine lv_iload_n hx hb de_B_value_6 rfl (lv_at hl 2 rfl) ?_
  exact bc_xcall (As := [.int y]) (rest := []) F hlocks hT9 hex (cx_B_refuseWrongVariable hl0 hvx) wm_297 wm_1 wm_295 wm_296 wm_610 0 rfl rfl pd_B_refuseWrongVariable rfl rfl ⟨Nat.le_of_ble_eq_true rfl, Nat.le_of_ble_eq_true rfl⟩ hP hD [0] rfl rfl rfl hl.1 rfl (Nat.le_of_ble_eq_true rfl) de_B_value_7 ⟨Nat.le_of_ble_eq_true rfl, Nat.le_of_ble_eq_true rfl⟩

set_option maxHeartbeats 4000000 in
set_option maxRecDepth 100000 in
theorem cx_B_valuec1 {l : Launch} {dC : Nat → ClassId} {dI : Nat → Nat → Nat} {cI cZ : ClassId} {sz : Nat} (hl0 : l.stackTraces = false) {b0 h0 g0 a0 w0 e0 f0 v2 : Nat} {an ra pl1 sp1 on1 : Int32} {w : Nat} (hv : w < 6) (hon : on1 = 0) : bc_XM l yn_B_value (Cond.code yn_B_value by_B_value 3 (some FieldType.int) :: wd_all) ({ frames := 7, cells := 1, slots := 6, locals := 103 } : Room) (bc_PreX (dC, dI) classes [(cI, .int), (cZ, .boolean)] [.ref b0, .int 1, .int (nI w)] [(b0, .inr (4, [.ref h0, .ref g0, .ref a0, .ref w0, .ref e0, .ref f0, .int an, .int ra])), (f0, .inr (2, [.ref v2, .int pl1, .int sp1, .int on1]))] sz) "java/lang/IllegalStateException" := by
  refine bc_metX (by decide) (Nat.le_of_ble_eq_true rfl) ?_
  intro p e s m args below meth c ls F hlocks hP hD hl hT9 hex
  have hx := F.1
  have hb := F.2.1
  have hml := F.2.2.1
  have hown : s.vm.findClass "BranchConstants" = some m.cls := F.2.2.2.1
  have htw := F.2.2.2.2.1
  have hN := F.2.2.2.2.2.1
  have hK := F.2.2.2.2.2.2
  have hl : lv_has ls 3 [(0, .ref b0), (1, .int 1), (2, .int (nI w))] := hl
  refine lv_aload_n hx hb de_B_value_0 rfl (lv_at hl 0 rfl) ?_
  refine lv_iload_n hx hb de_B_value_1 rfl (lv_at hl 1 rfl) ?_
  refine bc_pcall_v (As := [.int 1]) (rest := []) F (cp_B_refuseWrongSide1) wm_356 wm_1 wm_354 wm_355 wm_620 0 rfl rfl pd_B_refuseWrongSide rfl rfl ⟨Nat.le_of_ble_eq_true rfl, Nat.le_of_ble_eq_true rfl⟩ hP hD [0] rfl rfl rfl hl.1 rfl (Nat.le_of_ble_eq_true rfl) de_B_value_2 ⟨Nat.le_of_ble_eq_true rfl, Nat.le_of_ble_eq_true rfl⟩ (fun v9 hv9 => ?_)
  subst hv9
  refine W.eq (g2 := F0 m 5 ls []) rfl ?_
  refine lv_aload_n hx hb de_B_value_5 rfl (lv_at hl 0 rfl) ?_
  refine lv_iload_n hx hb de_B_value_6 rfl (lv_at hl 2 rfl) ?_
  refine bc_pcall_v (As := [.int (nI w)]) (rest := []) F (cp_B_refuseWrongVariable hv) wm_297 wm_1 wm_295 wm_296 wm_610 0 rfl rfl pd_B_refuseWrongVariable rfl rfl ⟨Nat.le_of_ble_eq_true rfl, Nat.le_of_ble_eq_true rfl⟩ hP hD [0] rfl rfl rfl hl.1 rfl (Nat.le_of_ble_eq_true rfl) de_B_value_7 ⟨Nat.le_of_ble_eq_true rfl, Nat.le_of_ble_eq_true rfl⟩ (fun v9 hv9 => ?_)
  subst hv9
  refine W.eq (g2 := F0 m 10 ls []) rfl ?_
  refine lv_aload_n hx hb de_B_value_10 rfl (lv_at hl 0 rfl) ?_
  refine lv_iload_n hx hb de_B_value_11 rfl (lv_at hl 1 rfl) ?_
  exact bc_xcall (As := [.int 1]) (rest := []) F hlocks hT9 hex (cx_B_refuseUnstarted1 hl0 hon) wm_387 wm_1 wm_385 wm_386 wm_626 0 rfl rfl pd_B_refuseUnstarted rfl rfl ⟨Nat.le_of_ble_eq_true rfl, Nat.le_of_ble_eq_true rfl⟩ hP hD [0, 1] rfl rfl rfl hl.1 rfl (Nat.le_of_ble_eq_true rfl) de_B_value_12 ⟨Nat.le_of_ble_eq_true rfl, Nat.le_of_ble_eq_true rfl⟩

