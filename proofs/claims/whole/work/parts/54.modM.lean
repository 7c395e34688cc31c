/-! the reference: small methods (by program: wip/whole/gen/modM.py) -/
set_option maxHeartbeats 4000000 in
set_option maxRecDepth 100000 in
/-- is it a variable -/
theorem co_M_isVariable {l : Launch} {dC : Nat → ClassId} {dI : Nat → Nat → Nat} {cI cZ : ClassId} {sz : Nat} {v : Int32} : Met l yn_M_isVariable (Cond.code yn_M_isVariable by_M_isVariable 1 (some FieldType.boolean) :: wd_all) ({ frames := 0, cells := 0, slots := 0, locals := 0 } : Room) (bc_Pre (dC, dI) classes [(cI, .int), (cZ, .boolean)] [.int v] [] sz) (va_Qi (fun (r : Int32) (u : Unit) => (r = 1 ∧ bc_vr v) ∨ (r = 0 ∧ ¬ bc_vr v)) (fun (u : Unit) t => bc_B (dC, dI) classes [(cI, .int), (cZ, .boolean)] (va_A [] sz) [] t) ((va_A [] sz))) 0 0 (va_A [] sz) := by
  refine bc_met (fun A => va_Qi (fun (r : Int32) (u : Unit) => (r = 1 ∧ bc_vr v) ∨ (r = 0 ∧ ¬ bc_vr v)) (fun (u : Unit) t => bc_B (dC, dI) classes [(cI, .int), (cZ, .boolean)] A [] t) A) (by decide) (Nat.le_of_ble_eq_true rfl) ?_
  intro p e s m args below meth c A ls F hr hlocks hin hA hP hD hl hS
  have hx := F.1
  have hb := F.2.1
  have hml := F.2.2.1
  have hown : s.vm.findClass "BranchConstantsModel" = some m.cls := F.2.2.2.1
  have htw := F.2.2.2.2.1
  have hN := F.2.2.2.2.2.1
  have hK := F.2.2.2.2.2.2
  have hl : lv_has ls 1 [(0, .int v)] := hl
  refine lv_iload_n hx hb de_M_isVariable_0 rfl (lv_at hl 0 rfl) ?_
  refine lv_if_lt (tgt := 14) hx hb de_M_isVariable_1 (by decide) (fun hc_1 => ?_) (fun hc_1 => ?_)
  · refine lv_iconst (v := 0) hx hb de_M_isVariable_14 (by decide) ?_
    exact bc_zret F hr hlocks rfl (()) (Or.inr ⟨rfl, bc_vr_no0 hc_1⟩) hP hD hS de_M_isVariable_15
  · refine lv_iload_n hx hb de_M_isVariable_4 rfl (lv_at hl 0 rfl) ?_
    refine lv_bipush (v := 6) hx hb de_M_isVariable_5 (by decide) ?_
    refine lv_icmp_ge (tgt := 14) hx hb de_M_isVariable_7 (by decide) (fun hc_7 => ?_) (fun hc_7 => ?_)
    · refine lv_iconst (v := 0) hx hb de_M_isVariable_14 (by decide) ?_
      exact bc_zret F hr hlocks rfl (()) (Or.inr ⟨rfl, bc_vr_no6 hc_7⟩) hP hD hS de_M_isVariable_15
    · refine lv_iconst (v := 1) hx hb de_M_isVariable_10 (by decide) ?_
      refine lv_goto (tgt := 15) hx hb de_M_isVariable_11 (by decide) ?_
      exact bc_zret F hr hlocks rfl (()) (Or.inl ⟨rfl, bc_vr_of hc_1 hc_7⟩) hP hD hS de_M_isVariable_15

set_option maxHeartbeats 4000000 in
set_option maxRecDepth 100000 in
/-- is it an instruction -/
theorem co_M_isSound {l : Launch} {dC : Nat → ClassId} {dI : Nat → Nat → Nat} {cI cZ : ClassId} {sz : Nat} {k o t z : Int32} : Met l yn_M_isSound (Cond.code yn_M_isSound by_M_isSound 4 (some FieldType.boolean) :: wd_all) ({ frames := 1, cells := 0, slots := 0, locals := 20 } : Room) (bc_Pre (dC, dI) classes [(cI, .int), (cZ, .boolean)] [.int k, .int o, .int t, .int z] [] sz) (va_Qi (fun (r : Int32) (u : Unit) => (r = 1 ∧ bc_si k o t z) ∨ (r = 0 ∧ ¬ bc_si k o t z)) (fun (u : Unit) t => bc_B (dC, dI) classes [(cI, .int), (cZ, .boolean)] (va_A [] sz) [] t) ((va_A [] sz))) 0 0 (va_A [] sz) := by
  refine bc_met (fun A => va_Qi (fun (r : Int32) (u : Unit) => (r = 1 ∧ bc_si k o t z) ∨ (r = 0 ∧ ¬ bc_si k o t z)) (fun (u : Unit) t => bc_B (dC, dI) classes [(cI, .int), (cZ, .boolean)] A [] t) A) (by decide) (Nat.le_of_ble_eq_true rfl) ?_
  intro p e s m args below meth c A ls F hr hlocks hin hA hP hD hl hS
  have hx := F.1
  have hb := F.2.1
  have hml := F.2.2.1
  have hown : s.vm.findClass "BranchConstantsModel" = some m.cls := F.2.2.2.1
  have htw := F.2.2.2.2.1
  have hN := F.2.2.2.2.2.1
  have hK := F.2.2.2.2.2.2
  have hl : lv_has ls 4 [(0, .int k), (1, .int o), (2, .int t), (3, .int z)] := hl
  refine lv_iload_n hx hb de_M_isSound_0 rfl (lv_at hl 0 rfl) ?_
  by_cases hs_1_0 : k = 0
  · refine bc_ti hs_1_0 ?_
    refine lv_tableIn (off := 43) (tgt := 44) hx hb de_M_isSound_1 (by decide) (by decide) rfl (by decide) ?_
    refine lv_iload_n hx hb de_M_isSound_44 rfl (lv_at hl 1 rfl) ?_
    refine bc_call_s_i (As := [.int o]) (rest := []) (wr := []) F (co_M_isVariable) wm_475 wm_6 wm_473 wm_474 pd_M_isVariable rfl rfl ⟨Nat.le_of_ble_eq_true rfl, Nat.le_of_ble_eq_true rfl⟩ hP hD hS hA [] [] rfl rfl rfl rfl (by decide) rfl hl.1 rfl (Nat.le_of_ble_eq_true rfl) de_M_isSound_45 ⟨Nat.le_of_ble_eq_true rfl, Nat.le_of_ble_eq_true rfl⟩ (fun r_45 u_45 H locs hw_45 hP hD hS => ?_)
    have hP : va_P (dC, dI) classes [] H := hP.sub [] rfl
    have hD : va_D A [] := hD.sub [] (by decide) rfl
    rcases hw_45 with ⟨he_45, hv_45⟩ | ⟨he_45, hv_45⟩
    · subst he_45
      exact bc_zret F hr hlocks rfl (()) (by simp [bc_si, hs_1_0, hv_45]) hP hD hS de_M_isSound_48
    · subst he_45
      exact bc_zret F hr hlocks rfl (()) (by simp [bc_si, hs_1_0, hv_45]) hP hD hS de_M_isSound_48
  by_cases hs_1_1 : k = 1
  · refine bc_ti hs_1_1 ?_
    refine lv_tableIn (off := 48) (tgt := 49) hx hb de_M_isSound_1 (by decide) (by decide) rfl (by decide) ?_
    refine lv_iload_n hx hb de_M_isSound_49 rfl (lv_at hl 1 rfl) ?_
    refine bc_call_s_i (As := [.int o]) (rest := []) (wr := []) F (co_M_isVariable) wm_475 wm_6 wm_473 wm_474 pd_M_isVariable rfl rfl ⟨Nat.le_of_ble_eq_true rfl, Nat.le_of_ble_eq_true rfl⟩ hP hD hS hA [] [] rfl rfl rfl rfl (by decide) rfl hl.1 rfl (Nat.le_of_ble_eq_true rfl) de_M_isSound_50 ⟨Nat.le_of_ble_eq_true rfl, Nat.le_of_ble_eq_true rfl⟩ (fun r_50 u_50 H locs hw_50 hP hD hS => ?_)
    have hP : va_P (dC, dI) classes [] H := hP.sub [] rfl
    have hD : va_D A [] := hD.sub [] (by decide) rfl
    rcases hw_50 with ⟨he_50, hv_50⟩ | ⟨he_50, hv_50⟩
    · subst he_50
      refine lv_if_eq (tgt := 67) hx hb de_M_isSound_53 (by decide) (fun hc => absurd hc (by decide)) (fun _ => ?_)
      refine lv_iload_n hx hb de_M_isSound_56 rfl (lv_at hl 2 rfl) ?_
      refine bc_call_s_i (As := [.int t]) (rest := []) (wr := []) F (co_M_isVariable) wm_475 wm_6 wm_473 wm_474 pd_M_isVariable rfl rfl ⟨Nat.le_of_ble_eq_true rfl, Nat.le_of_ble_eq_true rfl⟩ hP hD hS hA [] [] rfl rfl rfl rfl (by decide) rfl hl.1 rfl (Nat.le_of_ble_eq_true rfl) de_M_isSound_57 ⟨Nat.le_of_ble_eq_true rfl, Nat.le_of_ble_eq_true rfl⟩ (fun r_57 u_57 H locs hw_57 hP hD hS => ?_)
      have hP : va_P (dC, dI) classes [] H := hP.sub [] rfl
      have hD : va_D A [] := hD.sub [] (by decide) rfl
      rcases hw_57 with ⟨he_57, hv_57⟩ | ⟨he_57, hv_57⟩
      · subst he_57
        refine lv_if_eq (tgt := 67) hx hb de_M_isSound_60 (by decide) (fun hc => absurd hc (by decide)) (fun _ => ?_)
        refine lv_iconst (v := 1) hx hb de_M_isSound_63 (by decide) ?_
        refine lv_goto (tgt := 68) hx hb de_M_isSound_64 (by decide) ?_
        exact bc_zret F hr hlocks rfl (()) (by simp [bc_si, hs_1_0, hs_1_1, hv_50, hv_57]) hP hD hS de_M_isSound_68
      · subst he_57
        refine lv_if_eq (tgt := 67) hx hb de_M_isSound_60 (by decide) (fun _ => ?_) (fun hc => absurd (by decide) hc)
        refine lv_iconst (v := 0) hx hb de_M_isSound_67 (by decide) ?_
        exact bc_zret F hr hlocks rfl (()) (by simp [bc_si, hs_1_0, hs_1_1, hv_50, hv_57]) hP hD hS de_M_isSound_68
    · subst he_50
      refine lv_if_eq (tgt := 67) hx hb de_M_isSound_53 (by decide) (fun _ => ?_) (fun hc => absurd (by decide) hc)
      refine lv_iconst (v := 0) hx hb de_M_isSound_67 (by decide) ?_
      exact bc_zret F hr hlocks rfl (()) (by simp [bc_si, hs_1_0, hs_1_1, hv_50]) hP hD hS de_M_isSound_68
  by_cases hs_1_2 : k = 2
  · refine bc_ti hs_1_2 ?_
    refine lv_tableIn (off := 68) (tgt := 69) hx hb de_M_isSound_1 (by decide) (by decide) rfl (by decide) ?_
    refine lv_iload_n hx hb de_M_isSound_69 rfl (lv_at hl 1 rfl) ?_
    refine bc_call_s_i (As := [.int o]) (rest := []) (wr := []) F (co_M_isVariable) wm_475 wm_6 wm_473 wm_474 pd_M_isVariable rfl rfl ⟨Nat.le_of_ble_eq_true rfl, Nat.le_of_ble_eq_true rfl⟩ hP hD hS hA [] [] rfl rfl rfl rfl (by decide) rfl hl.1 rfl (Nat.le_of_ble_eq_true rfl) de_M_isSound_70 ⟨Nat.le_of_ble_eq_true rfl, Nat.le_of_ble_eq_true rfl⟩ (fun r_70 u_70 H locs hw_70 hP hD hS => ?_)
    have hP : va_P (dC, dI) classes [] H := hP.sub [] rfl
    have hD : va_D A [] := hD.sub [] (by decide) rfl
    rcases hw_70 with ⟨he_70, hv_70⟩ | ⟨he_70, hv_70⟩
    · subst he_70
      refine lv_if_eq (tgt := 94) hx hb de_M_isSound_73 (by decide) (fun hc => absurd hc (by decide)) (fun _ => ?_)
      refine lv_iload_n hx hb de_M_isSound_76 rfl (lv_at hl 2 rfl) ?_
      refine bc_call_s_i (As := [.int t]) (rest := []) (wr := []) F (co_M_isVariable) wm_475 wm_6 wm_473 wm_474 pd_M_isVariable rfl rfl ⟨Nat.le_of_ble_eq_true rfl, Nat.le_of_ble_eq_true rfl⟩ hP hD hS hA [] [] rfl rfl rfl rfl (by decide) rfl hl.1 rfl (Nat.le_of_ble_eq_true rfl) de_M_isSound_77 ⟨Nat.le_of_ble_eq_true rfl, Nat.le_of_ble_eq_true rfl⟩ (fun r_77 u_77 H locs hw_77 hP hD hS => ?_)
      have hP : va_P (dC, dI) classes [] H := hP.sub [] rfl
      have hD : va_D A [] := hD.sub [] (by decide) rfl
      rcases hw_77 with ⟨he_77, hv_77⟩ | ⟨he_77, hv_77⟩
      · subst he_77
        refine lv_if_eq (tgt := 94) hx hb de_M_isSound_80 (by decide) (fun hc => absurd hc (by decide)) (fun _ => ?_)
        refine lv_iload_n hx hb de_M_isSound_83 rfl (lv_at hl 3 rfl) ?_
        refine bc_call_s_i (As := [.int z]) (rest := []) (wr := []) F (co_M_isVariable) wm_475 wm_6 wm_473 wm_474 pd_M_isVariable rfl rfl ⟨Nat.le_of_ble_eq_true rfl, Nat.le_of_ble_eq_true rfl⟩ hP hD hS hA [] [] rfl rfl rfl rfl (by decide) rfl hl.1 rfl (Nat.le_of_ble_eq_true rfl) de_M_isSound_84 ⟨Nat.le_of_ble_eq_true rfl, Nat.le_of_ble_eq_true rfl⟩ (fun r_84 u_84 H locs hw_84 hP hD hS => ?_)
        have hP : va_P (dC, dI) classes [] H := hP.sub [] rfl
        have hD : va_D A [] := hD.sub [] (by decide) rfl
        rcases hw_84 with ⟨he_84, hv_84⟩ | ⟨he_84, hv_84⟩
        · subst he_84
          refine lv_if_eq (tgt := 94) hx hb de_M_isSound_87 (by decide) (fun hc => absurd hc (by decide)) (fun _ => ?_)
          refine lv_iconst (v := 1) hx hb de_M_isSound_90 (by decide) ?_
          refine lv_goto (tgt := 95) hx hb de_M_isSound_91 (by decide) ?_
          exact bc_zret F hr hlocks rfl (()) (by simp [bc_si, hs_1_0, hs_1_1, hs_1_2, hv_70, hv_77, hv_84]) hP hD hS de_M_isSound_95
        · subst he_84
          refine lv_if_eq (tgt := 94) hx hb de_M_isSound_87 (by decide) (fun _ => ?_) (fun hc => absurd (by decide) hc)
          refine lv_iconst (v := 0) hx hb de_M_isSound_94 (by decide) ?_
          exact bc_zret F hr hlocks rfl (()) (by simp [bc_si, hs_1_0, hs_1_1, hs_1_2, hv_70, hv_77, hv_84]) hP hD hS de_M_isSound_95
      · subst he_77
        refine lv_if_eq (tgt := 94) hx hb de_M_isSound_80 (by decide) (fun _ => ?_) (fun hc => absurd (by decide) hc)
        refine lv_iconst (v := 0) hx hb de_M_isSound_94 (by decide) ?_
        exact bc_zret F hr hlocks rfl (()) (by simp [bc_si, hs_1_0, hs_1_1, hs_1_2, hv_70, hv_77]) hP hD hS de_M_isSound_95
    · subst he_70
      refine lv_if_eq (tgt := 94) hx hb de_M_isSound_73 (by decide) (fun _ => ?_) (fun hc => absurd (by decide) hc)
      refine lv_iconst (v := 0) hx hb de_M_isSound_94 (by decide) ?_
      exact bc_zret F hr hlocks rfl (()) (by simp [bc_si, hs_1_0, hs_1_1, hs_1_2, hv_70]) hP hD hS de_M_isSound_95
  by_cases hs_1_3 : k = 3
  · refine bc_ti hs_1_3 ?_
    refine lv_tableIn (off := 68) (tgt := 69) hx hb de_M_isSound_1 (by decide) (by decide) rfl (by decide) ?_
    refine lv_iload_n hx hb de_M_isSound_69 rfl (lv_at hl 1 rfl) ?_
    refine bc_call_s_i (As := [.int o]) (rest := []) (wr := []) F (co_M_isVariable) wm_475 wm_6 wm_473 wm_474 pd_M_isVariable rfl rfl ⟨Nat.le_of_ble_eq_true rfl, Nat.le_of_ble_eq_true rfl⟩ hP hD hS hA [] [] rfl rfl rfl rfl (by decide) rfl hl.1 rfl (Nat.le_of_ble_eq_true rfl) de_M_isSound_70 ⟨Nat.le_of_ble_eq_true rfl, Nat.le_of_ble_eq_true rfl⟩ (fun r_70 u_70 H locs hw_70 hP hD hS => ?_)
    have hP : va_P (dC, dI) classes [] H := hP.sub [] rfl
    have hD : va_D A [] := hD.sub [] (by decide) rfl
    rcases hw_70 with ⟨he_70, hv_70⟩ | ⟨he_70, hv_70⟩
    · subst he_70
      refine lv_if_eq (tgt := 94) hx hb de_M_isSound_73 (by decide) (fun hc => absurd hc (by decide)) (fun _ => ?_)
      refine lv_iload_n hx hb de_M_isSound_76 rfl (lv_at hl 2 rfl) ?_
      refine bc_call_s_i (As := [.int t]) (rest := []) (wr := []) F (co_M_isVariable) wm_475 wm_6 wm_473 wm_474 pd_M_isVariable rfl rfl ⟨Nat.le_of_ble_eq_true rfl, Nat.le_of_ble_eq_true rfl⟩ hP hD hS hA [] [] rfl rfl rfl rfl (by decide) rfl hl.1 rfl (Nat.le_of_ble_eq_true rfl) de_M_isSound_77 ⟨Nat.le_of_ble_eq_true rfl, Nat.le_of_ble_eq_true rfl⟩ (fun r_77 u_77 H locs hw_77 hP hD hS => ?_)
      have hP : va_P (dC, dI) classes [] H := hP.sub [] rfl
      have hD : va_D A [] := hD.sub [] (by decide) rfl
      rcases hw_77 with ⟨he_77, hv_77⟩ | ⟨he_77, hv_77⟩
      · subst he_77
        refine lv_if_eq (tgt := 94) hx hb de_M_isSound_80 (by decide) (fun hc => absurd hc (by decide)) (fun _ => ?_)
        refine lv_iload_n hx hb de_M_isSound_83 rfl (lv_at hl 3 rfl) ?_
        refine bc_call_s_i (As := [.int z]) (rest := []) (wr := []) F (co_M_isVariable) wm_475 wm_6 wm_473 wm_474 pd_M_isVariable rfl rfl ⟨Nat.le_of_ble_eq_true rfl, Nat.le_of_ble_eq_true rfl⟩ hP hD hS hA [] [] rfl rfl rfl rfl (by decide) rfl hl.1 rfl (Nat.le_of_ble_eq_true rfl) de_M_isSound_84 ⟨Nat.le_of_ble_eq_true rfl, Nat.le_of_ble_eq_true rfl⟩ (fun r_84 u_84 H locs hw_84 hP hD hS => ?_)
        have hP : va_P (dC, dI) classes [] H := hP.sub [] rfl
        have hD : va_D A [] := hD.sub [] (by decide) rfl
        rcases hw_84 with ⟨he_84, hv_84⟩ | ⟨he_84, hv_84⟩
        · subst he_84
          refine lv_if_eq (tgt := 94) hx hb de_M_isSound_87 (by decide) (fun hc => absurd hc (by decide)) (fun _ => ?_)
          refine lv_iconst (v := 1) hx hb de_M_isSound_90 (by decide) ?_
          refine lv_goto (tgt := 95) hx hb de_M_isSound_91 (by decide) ?_
          exact bc_zret F hr hlocks rfl (()) (by simp [bc_si, hs_1_0, hs_1_1, hs_1_2, hs_1_3, hv_70, hv_77, hv_84]) hP hD hS de_M_isSound_95
        · subst he_84
          refine lv_if_eq (tgt := 94) hx hb de_M_isSound_87 (by decide) (fun _ => ?_) (fun hc => absurd (by decide) hc)
          refine lv_iconst (v := 0) hx hb de_M_isSound_94 (by decide) ?_
          exact bc_zret F hr hlocks rfl (()) (by simp [bc_si, hs_1_0, hs_1_1, hs_1_2, hs_1_3, hv_70, hv_77, hv_84]) hP hD hS de_M_isSound_95
      · subst he_77
        refine lv_if_eq (tgt := 94) hx hb de_M_isSound_80 (by decide) (fun _ => ?_) (fun hc => absurd (by decide) hc)
        refine lv_iconst (v := 0) hx hb de_M_isSound_94 (by decide) ?_
        exact bc_zret F hr hlocks rfl (()) (by simp [bc_si, hs_1_0, hs_1_1, hs_1_2, hs_1_3, hv_70, hv_77]) hP hD hS de_M_isSound_95
    · subst he_70
      refine lv_if_eq (tgt := 94) hx hb de_M_isSound_73 (by decide) (fun _ => ?_) (fun hc => absurd (by decide) hc)
      refine lv_iconst (v := 0) hx hb de_M_isSound_94 (by decide) ?_
      exact bc_zret F hr hlocks rfl (()) (by simp [bc_si, hs_1_0, hs_1_1, hs_1_2, hs_1_3, hv_70]) hP hD hS de_M_isSound_95
  by_cases hs_1_4 : k = 4
  · refine bc_ti hs_1_4 ?_
    refine lv_tableIn (off := 68) (tgt := 69) hx hb de_M_isSound_1 (by decide) (by decide) rfl (by decide) ?_
    refine lv_iload_n hx hb de_M_isSound_69 rfl (lv_at hl 1 rfl) ?_
    refine bc_call_s_i (As := [.int o]) (rest := []) (wr := []) F (co_M_isVariable) wm_475 wm_6 wm_473 wm_474 pd_M_isVariable rfl rfl ⟨Nat.le_of_ble_eq_true rfl, Nat.le_of_ble_eq_true rfl⟩ hP hD hS hA [] [] rfl rfl rfl rfl (by decide) rfl hl.1 rfl (Nat.le_of_ble_eq_true rfl) de_M_isSound_70 ⟨Nat.le_of_ble_eq_true rfl, Nat.le_of_ble_eq_true rfl⟩ (fun r_70 u_70 H locs hw_70 hP hD hS => ?_)
    have hP : va_P (dC, dI) classes [] H := hP.sub [] rfl
    have hD : va_D A [] := hD.sub [] (by decide) rfl
    rcases hw_70 with ⟨he_70, hv_70⟩ | ⟨he_70, hv_70⟩
    · subst he_70
      refine lv_if_eq (tgt := 94) hx hb de_M_isSound_73 (by decide) (fun hc => absurd hc (by decide)) (fun _ => ?_)
      refine lv_iload_n hx hb de_M_isSound_76 rfl (lv_at hl 2 rfl) ?_
      refine bc_call_s_i (As := [.int t]) (rest := []) (wr := []) F (co_M_isVariable) wm_475 wm_6 wm_473 wm_474 pd_M_isVariable rfl rfl ⟨Nat.le_of_ble_eq_true rfl, Nat.le_of_ble_eq_true rfl⟩ hP hD hS hA [] [] rfl rfl rfl rfl (by decide) rfl hl.1 rfl (Nat.le_of_ble_eq_true rfl) de_M_isSound_77 ⟨Nat.le_of_ble_eq_true rfl, Nat.le_of_ble_eq_true rfl⟩ (fun r_77 u_77 H locs hw_77 hP hD hS => ?_)
      have hP : va_P (dC, dI) classes [] H := hP.sub [] rfl
      have hD : va_D A [] := hD.sub [] (by decide) rfl
      rcases hw_77 with ⟨he_77, hv_77⟩ | ⟨he_77, hv_77⟩
      · subst he_77
        refine lv_if_eq (tgt := 94) hx hb de_M_isSound_80 (by decide) (fun hc => absurd hc (by decide)) (fun _ => ?_)
        refine lv_iload_n hx hb de_M_isSound_83 rfl (lv_at hl 3 rfl) ?_
        refine bc_call_s_i (As := [.int z]) (rest := []) (wr := []) F (co_M_isVariable) wm_475 wm_6 wm_473 wm_474 pd_M_isVariable rfl rfl ⟨Nat.le_of_ble_eq_true rfl, Nat.le_of_ble_eq_true rfl⟩ hP hD hS hA [] [] rfl rfl rfl rfl (by decide) rfl hl.1 rfl (Nat.le_of_ble_eq_true rfl) de_M_isSound_84 ⟨Nat.le_of_ble_eq_true rfl, Nat.le_of_ble_eq_true rfl⟩ (fun r_84 u_84 H locs hw_84 hP hD hS => ?_)
        have hP : va_P (dC, dI) classes [] H := hP.sub [] rfl
        have hD : va_D A [] := hD.sub [] (by decide) rfl
        rcases hw_84 with ⟨he_84, hv_84⟩ | ⟨he_84, hv_84⟩
        · subst he_84
          refine lv_if_eq (tgt := 94) hx hb de_M_isSound_87 (by decide) (fun hc => absurd hc (by decide)) (fun _ => ?_)
          refine lv_iconst (v := 1) hx hb de_M_isSound_90 (by decide) ?_
          refine lv_goto (tgt := 95) hx hb de_M_isSound_91 (by decide) ?_
          exact bc_zret F hr hlocks rfl (()) (by simp [bc_si, hs_1_0, hs_1_1, hs_1_2, hs_1_3, hs_1_4, hv_70, hv_77, hv_84]) hP hD hS de_M_isSound_95
        · subst he_84
          refine lv_if_eq (tgt := 94) hx hb de_M_isSound_87 (by decide) (fun _ => ?_) (fun hc => absurd (by decide) hc)
          refine lv_iconst (v := 0) hx hb de_M_isSound_94 (by decide) ?_
          exact bc_zret F hr hlocks rfl (()) (by simp [bc_si, hs_1_0, hs_1_1, hs_1_2, hs_1_3, hs_1_4, hv_70, hv_77, hv_84]) hP hD hS de_M_isSound_95
      · subst he_77
        refine lv_if_eq (tgt := 94) hx hb de_M_isSound_80 (by decide) (fun _ => ?_) (fun hc => absurd (by decide) hc)
        refine lv_iconst (v := 0) hx hb de_M_isSound_94 (by decide) ?_
        exact bc_zret F hr hlocks rfl (()) (by simp [bc_si, hs_1_0, hs_1_1, hs_1_2, hs_1_3, hs_1_4, hv_70, hv_77]) hP hD hS de_M_isSound_95
    · subst he_70
      refine lv_if_eq (tgt := 94) hx hb de_M_isSound_73 (by decide) (fun _ => ?_) (fun hc => absurd (by decide) hc)
      refine lv_iconst (v := 0) hx hb de_M_isSound_94 (by decide) ?_
      exact bc_zret F hr hlocks rfl (()) (by simp [bc_si, hs_1_0, hs_1_1, hs_1_2, hs_1_3, hs_1_4, hv_70]) hP hD hS de_M_isSound_95
  by_cases hs_1_5 : k = 5
  · refine bc_ti hs_1_5 ?_
    refine lv_tableIn (off := 95) (tgt := 96) hx hb de_M_isSound_1 (by decide) (by decide) rfl (by decide) ?_
    refine lv_iload_n hx hb de_M_isSound_96 rfl (lv_at hl 1 rfl) ?_
    refine bc_call_s_i (As := [.int o]) (rest := []) (wr := []) F (co_M_isVariable) wm_475 wm_6 wm_473 wm_474 pd_M_isVariable rfl rfl ⟨Nat.le_of_ble_eq_true rfl, Nat.le_of_ble_eq_true rfl⟩ hP hD hS hA [] [] rfl rfl rfl rfl (by decide) rfl hl.1 rfl (Nat.le_of_ble_eq_true rfl) de_M_isSound_97 ⟨Nat.le_of_ble_eq_true rfl, Nat.le_of_ble_eq_true rfl⟩ (fun r_97 u_97 H locs hw_97 hP hD hS => ?_)
    have hP : va_P (dC, dI) classes [] H := hP.sub [] rfl
    have hD : va_D A [] := hD.sub [] (by decide) rfl
    rcases hw_97 with ⟨he_97, hv_97⟩ | ⟨he_97, hv_97⟩
    · subst he_97
      refine lv_if_eq (tgt := 117) hx hb de_M_isSound_100 (by decide) (fun hc => absurd hc (by decide)) (fun _ => ?_)
      refine lv_iload_n hx hb de_M_isSound_103 rfl (lv_at hl 2 rfl) ?_
      refine lv_if_lt (tgt := 117) hx hb de_M_isSound_104 (by decide) (fun hc_104 => ?_) (fun hc_104 => ?_)
      · refine lv_iconst (v := 0) hx hb de_M_isSound_117 (by decide) ?_
        exact bc_zret F hr hlocks rfl (()) (by simp [bc_si, hs_1_0, hs_1_1, hs_1_2, hs_1_3, hs_1_4, hs_1_5, hv_97, bc_tr_no0 hc_104]) hP hD hS de_M_isSound_118
      · refine lv_iload_n hx hb de_M_isSound_107 rfl (lv_at hl 2 rfl) ?_
        refine lv_bipush (v := 40) hx hb de_M_isSound_108 (by decide) ?_
        refine lv_icmp_gt (tgt := 117) hx hb de_M_isSound_110 (by decide) (fun hc_110 => ?_) (fun hc_110 => ?_)
        · refine lv_iconst (v := 0) hx hb de_M_isSound_117 (by decide) ?_
          exact bc_zret F hr hlocks rfl (()) (by simp [bc_si, hs_1_0, hs_1_1, hs_1_2, hs_1_3, hs_1_4, hs_1_5, hv_97, bc_tr_no6 hc_110]) hP hD hS de_M_isSound_118
        · refine lv_iconst (v := 1) hx hb de_M_isSound_113 (by decide) ?_
          refine lv_goto (tgt := 118) hx hb de_M_isSound_114 (by decide) ?_
          exact bc_zret F hr hlocks rfl (()) (by simp [bc_si, hs_1_0, hs_1_1, hs_1_2, hs_1_3, hs_1_4, hs_1_5, hv_97, bc_tr_of hc_104 hc_110]) hP hD hS de_M_isSound_118
    · subst he_97
      refine lv_if_eq (tgt := 117) hx hb de_M_isSound_100 (by decide) (fun _ => ?_) (fun hc => absurd (by decide) hc)
      refine lv_iconst (v := 0) hx hb de_M_isSound_117 (by decide) ?_
      exact bc_zret F hr hlocks rfl (()) (by simp [bc_si, hs_1_0, hs_1_1, hs_1_2, hs_1_3, hs_1_4, hs_1_5, hv_97]) hP hD hS de_M_isSound_118
  by_cases hs_1_6 : k = 6
  · refine bc_ti hs_1_6 ?_
    refine lv_tableIn (off := 118) (tgt := 119) hx hb de_M_isSound_1 (by decide) (by decide) rfl (by decide) ?_
    refine lv_iload_n hx hb de_M_isSound_119 rfl (lv_at hl 2 rfl) ?_
    refine lv_if_lt (tgt := 133) hx hb de_M_isSound_120 (by decide) (fun hc_120 => ?_) (fun hc_120 => ?_)
    · refine lv_iconst (v := 0) hx hb de_M_isSound_133 (by decide) ?_
      exact bc_zret F hr hlocks rfl (()) (by simp [bc_si, hs_1_0, hs_1_1, hs_1_2, hs_1_3, hs_1_4, hs_1_5, hs_1_6, bc_tr_no0 hc_120]) hP hD hS de_M_isSound_134
    · refine lv_iload_n hx hb de_M_isSound_123 rfl (lv_at hl 2 rfl) ?_
      refine lv_bipush (v := 40) hx hb de_M_isSound_124 (by decide) ?_
      refine lv_icmp_gt (tgt := 133) hx hb de_M_isSound_126 (by decide) (fun hc_126 => ?_) (fun hc_126 => ?_)
      · refine lv_iconst (v := 0) hx hb de_M_isSound_133 (by decide) ?_
        exact bc_zret F hr hlocks rfl (()) (by simp [bc_si, hs_1_0, hs_1_1, hs_1_2, hs_1_3, hs_1_4, hs_1_5, hs_1_6, bc_tr_no6 hc_126]) hP hD hS de_M_isSound_134
      · refine lv_iconst (v := 1) hx hb de_M_isSound_129 (by decide) ?_
        refine lv_goto (tgt := 134) hx hb de_M_isSound_130 (by decide) ?_
        exact bc_zret F hr hlocks rfl (()) (by simp [bc_si, hs_1_0, hs_1_1, hs_1_2, hs_1_3, hs_1_4, hs_1_5, hs_1_6, bc_tr_of hc_120 hc_126]) hP hD hS de_M_isSound_134
  refine lv_tableOut (tgt := 135) hx hb de_M_isSound_1 (bc_to_0_6 hs_1_0 hs_1_1 hs_1_2 hs_1_3 hs_1_4 hs_1_5 hs_1_6) (by decide) ?_
  refine lv_iload_n hx hb de_M_isSound_135 rfl (lv_at hl 0 rfl) ?_
  refine lv_bipush (v := 7) hx hb de_M_isSound_136 (by decide) ?_
  refine lv_icmp_ne (tgt := 145) hx hb de_M_isSound_138 (by decide) (fun hc_138 => ?_) (fun hc_138 => ?_)
  · refine lv_iconst (v := 0) hx hb de_M_isSound_145 (by decide) ?_
    exact bc_zret F hr hlocks rfl (()) (by simp [bc_si, hs_1_0, hs_1_1, hs_1_2, hs_1_3, hs_1_4, hs_1_5, hs_1_6, hc_138]) hP hD hS de_M_isSound_146
  · refine lv_iconst (v := 1) hx hb de_M_isSound_141 (by decide) ?_
    refine lv_goto (tgt := 146) hx hb de_M_isSound_142 (by decide) ?_
    exact bc_zret F hr hlocks rfl (()) (by simp [bc_si, hs_1_0, hs_1_1, hs_1_2, hs_1_3, hs_1_4, hs_1_5, hs_1_6, hc_138]) hP hD hS de_M_isSound_146

set_option maxHeartbeats 4000000 in
set_option maxRecDepth 100000 in
/-- the fault -/
theorem co_M_thrown {l : Launch} {dC : Nat → ClassId} {dI : Nat → Nat → Nat} {cI cZ : ClassId} {sz : Nat} {m0 r1 r2 r3 r4 r5 r6 r7 r8 r9 r10 r11 r12 r13 r14 r15 r16 : Nat} {fa rw gw : Int32} : Met l yn_M_thrown (Cond.code yn_M_thrown by_M_thrown 1 (some FieldType.int) :: wd_all) ({ frames := 0, cells := 0, slots := 0, locals := 0 } : Room) (bc_Pre (dC, dI) classes [(cI, .int), (cZ, .boolean)] [.ref m0] [(m0, .inr (5, [.int fa, .ref r1, .ref r2, .ref r3, .ref r4, .ref r5, .int rw, .ref r6, .ref r7, .ref r8, .int gw, .ref r9, .ref r10, .ref r11, .ref r12, .ref r13, .ref r14, .ref r15, .ref r16]))] sz) (va_Qi (fun (r : Int32) (u : Unit) => r = fa) (fun (u : Unit) t => bc_B (dC, dI) classes [(cI, .int), (cZ, .boolean)] (va_A [(m0, .inr (5, [.int fa, .ref r1, .ref r2, .ref r3, .ref r4, .ref r5, .int rw, .ref r6, .ref r7, .ref r8, .int gw, .ref r9, .ref r10, .ref r11, .ref r12, .ref r13, .ref r14, .ref r15, .ref r16]))] sz) [(m0, .inr (5, [.int fa, .ref r1, .ref r2, .ref r3, .ref r4, .ref r5, .int rw, .ref r6, .ref r7, .ref r8, .int gw, .ref r9, .ref r10, .ref r11, .ref r12, .ref r13, .ref r14, .ref r15, .ref r16]))] t) ((va_A [(m0, .inr (5, [.int fa, .ref r1, .ref r2, .ref r3, .ref r4, .ref r5, .int rw, .ref r6, .ref r7, .ref r8, .int gw, .ref r9, .ref r10, .ref r11, .ref r12, .ref r13, .ref r14, .ref r15, .ref r16]))] sz))) 0 0 (va_A [(m0, .inr (5, [.int fa, .ref r1, .ref r2, .ref r3, .ref r4, .ref r5, .int rw, .ref r6, .ref r7, .ref r8, .int gw, .ref r9, .ref r10, .ref r11, .ref r12, .ref r13, .ref r14, .ref r15, .ref r16]))] sz) := by
  refine bc_met (fun A => va_Qi (fun (r : Int32) (u : Unit) => r = fa) (fun (u : Unit) t => bc_B (dC, dI) classes [(cI, .int), (cZ, .boolean)] A [(m0, .inr (5, [.int fa, .ref r1, .ref r2, .ref r3, .ref r4, .ref r5, .int rw, .ref r6, .ref r7, .ref r8, .int gw, .ref r9, .ref r10, .ref r11, .ref r12, .ref r13, .ref r14, .ref r15, .ref r16]))] t) A) (by decide) (Nat.le_of_ble_eq_true rfl) ?_
  intro p e s m args below meth c A ls F hr hlocks hin hA hP hD hl hS
  have hx := F.1
  have hb := F.2.1
  have hml := F.2.2.1
  have hown : s.vm.findClass "BranchConstantsModel" = some m.cls := F.2.2.2.1
  have htw := F.2.2.2.2.1
  have hN := F.2.2.2.2.2.1
  have hK := F.2.2.2.2.2.2
  have hl : lv_has ls 1 [(0, .ref m0)] := hl
  refine lv_aload_n hx hb de_M_thrown_0 rfl (lv_at hl 0 rfl) ?_
  refine va_get (D := (dC, dI)) (ci := 5) (v := .int fa) (C := rc_M) (T := fc_M) (N := 19) hx hb htw wi_M hown hK hP 0 rfl rfl 0 (by decide) (htw _ wm_423) (fun _ h9 => h9) rfl de_M_thrown_1 ?_
  exact bc_iret F hr hlocks (()) rfl hP hD hS de_M_thrown_4

set_option maxHeartbeats 4000000 in
set_option maxRecDepth 100000 in
/-- a fault is noted -/
theorem co_M_refused {l : Launch} {dC : Nat → ClassId} {dI : Nat → Nat → Nat} {cI cZ : ClassId} {sz : Nat} {m0 r1 r2 r3 r4 r5 r6 r7 r8 r9 r10 r11 r12 r13 r14 r15 r16 : Nat} {fa rw gw : Int32} {x : Int32} : Met l yn_M_refused (Cond.code yn_M_refused by_M_refused 2 (some FieldType.boolean) :: wd_all) ({ frames := 0, cells := 0, slots := 0, locals := 0 } : Room) (bc_Pre (dC, dI) classes [(cI, .int), (cZ, .boolean)] [.ref m0, .int x] [(m0, .inr (5, [.int fa, .ref r1, .ref r2, .ref r3, .ref r4, .ref r5, .int rw, .ref r6, .ref r7, .ref r8, .int gw, .ref r9, .ref r10, .ref r11, .ref r12, .ref r13, .ref r14, .ref r15, .ref r16]))] sz) (va_Qi (fun (r : Int32) (u : Unit) => (r = 1 ∧ ¬ x ≤ 0) ∨ (r = 0 ∧ x ≤ 0)) (fun (u : Unit) t => bc_B (dC, dI) classes [(cI, .int), (cZ, .boolean)] (va_A [(m0, .inr (5, [.int fa, .ref r1, .ref r2, .ref r3, .ref r4, .ref r5, .int rw, .ref r6, .ref r7, .ref r8, .int gw, .ref r9, .ref r10, .ref r11, .ref r12, .ref r13, .ref r14, .ref r15, .ref r16]))] sz) [(m0, .inr (5, [.int x, .ref r1, .ref r2, .ref r3, .ref r4, .ref r5, .int rw, .ref r6, .ref r7, .ref r8, .int gw, .ref r9, .ref r10, .ref r11, .ref r12, .ref r13, .ref r14, .ref r15, .ref r16]))] t) ((va_A [(m0, .inr (5, [.int fa, .ref r1, .ref r2, .ref r3, .ref r4, .ref r5, .int rw, .ref r6, .ref r7, .ref r8, .int gw, .ref r9, .ref r10, .ref r11, .ref r12, .ref r13, .ref r14, .ref r15, .ref r16]))] sz))) 0 0 (va_A [(m0, .inr (5, [.int fa, .ref r1, .ref r2, .ref r3, .ref r4, .ref r5, .int rw, .ref r6, .ref r7, .ref r8, .int gw, .ref r9, .ref r10, .ref r11, .ref r12, .ref r13, .ref r14, .ref r15, .ref r16]))] sz) := by
  refine bc_met (fun A => va_Qi (fun (r : Int32) (u : Unit) => (r = 1 ∧ ¬ x ≤ 0) ∨ (r = 0 ∧ x ≤ 0)) (fun (u : Unit) t => bc_B (dC, dI) classes [(cI, .int), (cZ, .boolean)] A [(m0, .inr (5, [.int x, .ref r1, .ref r2, .ref r3, .ref r4, .ref r5, .int rw, .ref r6, .ref r7, .ref r8, .int gw, .ref r9, .ref r10, .ref r11, .ref r12, .ref r13, .ref r14, .ref r15, .ref r16]))] t) A) (by decide) (Nat.le_of_ble_eq_true rfl) ?_
  intro p e s m args below meth c A ls F hr hlocks hin hA hP hD hl hS
  have hx := F.1
  have hb := F.2.1
  have hml := F.2.2.1
  have hown : s.vm.findClass "BranchConstantsModel" = some m.cls := F.2.2.2.1
  have htw := F.2.2.2.2.1
  have hN := F.2.2.2.2.2.1
  have hK := F.2.2.2.2.2.2
  have hl : lv_has ls 2 [(0, .ref m0), (1, .int x)] := hl
  refine lv_aload_n hx hb de_M_refused_0 rfl (lv_at hl 0 rfl) ?_
  refine lv_iload_n hx hb de_M_refused_1 rfl (lv_at hl 1 rfl) ?_
  refine va_put (D := (dC, dI)) (ci := 5) (v := .int x) (ty := .int) (C := rc_M) (T := fc_M) (N := 19) hx hb htw wi_M tc_M tc_M_ok nc_M hown hK hP hD hS 0 rfl rfl 0 (by decide) (htw _ wm_423) (fun _ h9 => h9) rfl (by decide +kernel) rfl rfl (Nat.le_of_ble_eq_true rfl) de_M_refused_2 (fun H locs hP hD hS => ?_)
  have hP : va_P (dC, dI) classes [(m0, .inr (5, [.int x, .ref r1, .ref r2, .ref r3, .ref r4, .ref r5, .int rw, .ref r6, .ref r7, .ref r8, .int gw, .ref r9, .ref r10, .ref r11, .ref r12, .ref r13, .ref r14, .ref r15, .ref r16]))] H := hP
  have hD : va_D A [(m0, .inr (5, [.int x, .ref r1, .ref r2, .ref r3, .ref r4, .ref r5, .int rw, .ref r6, .ref r7, .ref r8, .int gw, .ref r9, .ref r10, .ref r11, .ref r12, .ref r13, .ref r14, .ref r15, .ref r16]))] := hD
  refine lv_iload_n hx hb de_M_refused_5 rfl (lv_at hl 1 rfl) ?_
  refine lv_if_le (tgt := 13) hx hb de_M_refused_6 (by decide) (fun hc_6 => ?_) (fun hc_6 => ?_)
  · refine lv_iconst (v := 0) hx hb de_M_refused_13 (by decide) ?_
    exact bc_zret F hr hlocks rfl (()) (Or.inr ⟨rfl, hc_6⟩) hP hD hS de_M_refused_14
  · refine lv_iconst (v := 1) hx hb de_M_refused_9 (by decide) ?_
    refine lv_goto (tgt := 14) hx hb de_M_refused_10 (by decide) ?_
    exact bc_zret F hr hlocks rfl (()) (Or.inl ⟨rfl, hc_6⟩) hP hD hS de_M_refused_14

def bc_kk (k : Int32) : Prop := k = 0 ∨ k = 1 ∨ k = 2 ∨ k = 3 ∨ k = 4 ∨ k = 5 ∨ k = 6 ∨ k = 7
theorem bc_si_kk {k o t z : Int32} (h : bc_si k o t z) : bc_kk k := by
  rcases h with ⟨e, _⟩ | ⟨e, _⟩ | ⟨e | e | e, _⟩ | ⟨e, _⟩ | ⟨e, _⟩ | e <;> simp [bc_kk, e]
theorem bc_wi_kk {k o t z : Int32} (h : bc_wi k o t z) : bc_kk k := by
  rcases h with ⟨e, _⟩ | ⟨e, _⟩ | ⟨e | e | e, _⟩ | ⟨e, _⟩ | ⟨e, _⟩ | ⟨e, _⟩ <;> simp [bc_kk, e]
theorem bc_m1y {k x : Int32} (hk : bc_kk k) (h : (6 : Int32) ≤ k) : 0 = bc_p1 k x := by
  unfold bc_p1
  rcases hk with e | e | e | e | e | e | e | e <;> subst e <;> first | rfl | exact absurd h (by decide)
theorem bc_m1n {k x : Int32} (hk : bc_kk k) (h : ¬ (6 : Int32) ≤ k) : x = bc_p1 k x := by
  unfold bc_p1
  rcases hk with e | e | e | e | e | e | e | e <;> subst e <;> first | rfl | exact absurd (by decide) h
theorem bc_m2y {k x : Int32} (hk : bc_kk k) (h : (7 : Int32) ≤ k) : 0 = bc_p2 k x := by
  unfold bc_p2
  rcases hk with e | e | e | e | e | e | e | e <;> subst e <;> first | rfl | exact absurd h (by decide)
theorem bc_m2n {k x : Int32} (hk : bc_kk k) (h : ¬ (7 : Int32) ≤ k) : x = bc_p2 k x := by
  unfold bc_p2
  rcases hk with e | e | e | e | e | e | e | e <;> subst e <;> first | rfl | exact absurd (by decide) h
set_option maxHeartbeats 4000000 in
set_option maxRecDepth 100000 in
/-- an instruction is put -/
theorem co_M_put {l : Launch} {dC : Nat → ClassId} {dI : Nat → Nat → Nat} {cI cZ : ClassId} {sz : Nat} {m0 r1 r2 r3 r4 r5 r6 r7 r8 r9 r10 r11 r12 r13 r14 r15 r16 : Nat} {K O T Z : bc_F} {fa rw gw : Int32} {i : Nat} {k a b d : Int32} (hi : i < 80) (hk : bc_kk k) : Met l yn_M_put (Cond.code yn_M_put by_M_put 6 none :: wd_all) ({ frames := 0, cells := 0, slots := 0, locals := 0 } : Room) (bc_Pre (dC, dI) classes [(cI, .int), (cZ, .boolean)] [.ref m0, .int (nI i), .int k, .int a, .int b, .int d] [(m0, .inr (5, [.int fa, .ref r1, .ref r2, .ref r3, .ref r4, .ref r5, .int rw, .ref r6, .ref r7, .ref r8, .int gw, .ref r9, .ref r10, .ref r11, .ref r12, .ref r13, .ref r14, .ref r15, .ref r16])), (r1, .inl (cI, 80, .inl K)), (r2, .inl (cI, 80, .inl O)), (r3, .inl (cI, 80, .inl T)), (r4, .inl (cI, 80, .inl Z))] sz) (va_Qv (fun (u : bc_F × bc_F × bc_F × bc_F) => u = (upd K i k, upd O i (bc_p1 k a), upd T i (bc_p2 k b), upd Z i (bc_p3 k d))) (fun (u : bc_F × bc_F × bc_F × bc_F) t => bc_B (dC, dI) classes [(cI, .int), (cZ, .boolean)] (va_A [(m0, .inr (5, [.int fa, .ref r1, .ref r2, .ref r3, .ref r4, .ref r5, .int rw, .ref r6, .ref r7, .ref r8, .int gw, .ref r9, .ref r10, .ref r11, .ref r12, .ref r13, .ref r14, .ref r15, .ref r16])), (r1, .inl (cI, 80, .inl K)), (r2, .inl (cI, 80, .inl O)), (r3, .inl (cI, 80, .inl T)), (r4, .inl (cI, 80, .inl Z))] sz) [(m0, .inr (5, [.int fa, .ref r1, .ref r2, .ref r3, .ref r4, .ref r5, .int rw, .ref r6, .ref r7, .ref r8, .int gw, .ref r9, .ref r10, .ref r11, .ref r12, .ref r13, .ref r14, .ref r15, .ref r16])), (r1, .inl (cI, 80, .inl u.1)), (r2, .inl (cI, 80, .inl u.2.1)), (r3, .inl (cI, 80, .inl u.2.2.1)), (r4, .inl (cI, 80, .inl u.2.2.2))] t) ((va_A [(m0, .inr (5, [.int fa, .ref r1, .ref r2, .ref r3, .ref r4, .ref r5, .int rw, .ref r6, .ref r7, .ref r8, .int gw, .ref r9, .ref r10, .ref r11, .ref r12, .ref r13, .ref r14, .ref r15, .ref r16])), (r1, .inl (cI, 80, .inl K)), (r2, .inl (cI, 80, .inl O)), (r3, .inl (cI, 80, .inl T)), (r4, .inl (cI, 80, .inl Z))] sz))) 0 0 (va_A [(m0, .inr (5, [.int fa, .ref r1, .ref r2, .ref r3, .ref r4, .ref r5, .int rw, .ref r6, .ref r7, .ref r8, .int gw, .ref r9, .ref r10, .ref r11, .ref r12, .ref r13, .ref r14, .ref r15, .ref r16])), (r1, .inl (cI, 80, .inl K)), (r2, .inl (cI, 80, .inl O)), (r3, .inl (cI, 80, .inl T)), (r4, .inl (cI, 80, .inl Z))] sz) := by
  refine bc_met (fun A => va_Qv (fun (u : bc_F × bc_F × bc_F × bc_F) => u = (upd K i k, upd O i (bc_p1 k a), upd T i (bc_p2 k b), upd Z i (bc_p3 k d))) (fun (u : bc_F × bc_F × bc_F × bc_F) t => bc_B (dC, dI) classes [(cI, .int), (cZ, .boolean)] A [(m0, .inr (5, [.int fa, .ref r1, .ref r2, .ref r3, .ref r4, .ref r5, .int rw, .ref r6, .ref r7, .ref r8, .int gw, .ref r9, .ref r10, .ref r11, .ref r12, .ref r13, .ref r14, .ref r15, .ref r16])), (r1, .inl (cI, 80, .inl u.1)), (r2, .inl (cI, 80, .inl u.2.1)), (r3, .inl (cI, 80, .inl u.2.2.1)), (r4, .inl (cI, 80, .inl u.2.2.2))] t) A) (by decide) (Nat.le_of_ble_eq_true rfl) ?_
  intro p e s m args below meth c A ls F hr hlocks hin hA hP hD hl hS
  have hx := F.1
  have hb := F.2.1
  have hml := F.2.2.1
  have hown : s.vm.findClass "BranchConstantsModel" = some m.cls := F.2.2.2.1
  have htw := F.2.2.2.2.1
  have hN := F.2.2.2.2.2.1
  have hK := F.2.2.2.2.2.2
  have hl : lv_has ls 6 [(0, .ref m0), (1, .int (nI i)), (2, .int k), (3, .int a), (4, .int b), (5, .int d)] := hl
  refine lv_aload_n hx hb de_M_put_0 rfl (lv_at hl 0 rfl) ?_
  refine va_get (D := (dC, dI)) (ci := 5) (v := .ref r1) (C := rc_M) (T := fc_M) (N := 19) hx hb htw wi_M hown hK hP 0 rfl rfl 1 (by decide) (htw _ wm_424) (fun _ h9 => h9) rfl de_M_put_1 ?_
  refine lv_iload_n hx hb de_M_put_4 rfl (lv_at hl 1 rfl) ?_
  refine lv_iload_n hx hb de_M_put_5 rfl (lv_at hl 2 rfl) ?_
  refine bc_ist (j := i) hx hb hK hP hD hS 1 0 rfl rfl (by omega) (by decide) de_M_put_6 (fun H locs hP hD hS => ?_)
  have hP : va_P (dC, dI) classes [(m0, .inr (5, [.int fa, .ref r1, .ref r2, .ref r3, .ref r4, .ref r5, .int rw, .ref r6, .ref r7, .ref r8, .int gw, .ref r9, .ref r10, .ref r11, .ref r12, .ref r13, .ref r14, .ref r15, .ref r16])), (r1, .inl (cI, 80, .inl (upd K i k))), (r2, .inl (cI, 80, .inl O)), (r3, .inl (cI, 80, .inl T)), (r4, .inl (cI, 80, .inl Z))] H := hP
  have hD : va_D A [(m0, .inr (5, [.int fa, .ref r1, .ref r2, .ref r3, .ref r4, .ref r5, .int rw, .ref r6, .ref r7, .ref r8, .int gw, .ref r9, .ref r10, .ref r11, .ref r12, .ref r13, .ref r14, .ref r15, .ref r16])), (r1, .inl (cI, 80, .inl (upd K i k))), (r2, .inl (cI, 80, .inl O)), (r3, .inl (cI, 80, .inl T)), (r4, .inl (cI, 80, .inl Z))] := hD
  refine lv_aload_n hx hb de_M_put_7 rfl (lv_at hl 0 rfl) ?_
  refine va_get (D := (dC, dI)) (ci := 5) (v := .ref r2) (C := rc_M) (T := fc_M) (N := 19) hx hb htw wi_M hown hK hP 0 rfl rfl 2 (by decide) (htw _ wm_425) (fun _ h9 => h9) rfl de_M_put_8 ?_
  refine lv_iload_n hx hb de_M_put_11 rfl (lv_at hl 1 rfl) ?_
  refine bc_meet (σ := Int32) 23 (fun x => [.int x, .int (nI i), .ref r2]) (fun x H locs ls => (x = bc_p1 k a) ∧ lv_has ls 6 [(0, .ref m0), (1, .int (nI i)), (2, .int k), (3, .int a), (4, .int b), (5, .int d)] ∧ va_P (dC, dI) classes [(m0, .inr (5, [.int fa, .ref r1, .ref r2, .ref r3, .ref r4, .ref r5, .int rw, .ref r6, .ref r7, .ref r8, .int gw, .ref r9, .ref r10, .ref r11, .ref r12, .ref r13, .ref r14, .ref r15, .ref r16])), (r1, .inl (cI, 80, .inl (upd K i k))), (r2, .inl (cI, 80, .inl O)), (r3, .inl (cI, 80, .inl T)), (r4, .inl (cI, 80, .inl Z))] H ∧ va_D A [(m0, .inr (5, [.int fa, .ref r1, .ref r2, .ref r3, .ref r4, .ref r5, .int rw, .ref r6, .ref r7, .ref r8, .int gw, .ref r9, .ref r10, .ref r11, .ref r12, .ref r13, .ref r14, .ref r15, .ref r16])), (r1, .inl (cI, 80, .inl (upd K i k))), (r2, .inl (cI, 80, .inl O)), (r3, .inl (cI, 80, .inl T)), (r4, .inl (cI, 80, .inl Z))] ∧ va_S A s.heap H locs) ?_ ?_
  · rintro x_23 H locs ls ⟨hm_23, hl, hP, hD, hS⟩
    refine bc_ist (j := i) hx hb hK hP hD hS 2 0 rfl rfl (by omega) (by decide) de_M_put_23 (fun H locs hP hD hS => ?_)
    have hP : va_P (dC, dI) classes [(m0, .inr (5, [.int fa, .ref r1, .ref r2, .ref r3, .ref r4, .ref r5, .int rw, .ref r6, .ref r7, .ref r8, .int gw, .ref r9, .ref r10, .ref r11, .ref r12, .ref r13, .ref r14, .ref r15, .ref r16])), (r1, .inl (cI, 80, .inl (upd K i k))), (r2, .inl (cI, 80, .inl (upd O i x_23))), (r3, .inl (cI, 80, .inl T)), (r4, .inl (cI, 80, .inl Z))] H := hP
    have hD : va_D A [(m0, .inr (5, [.int fa, .ref r1, .ref r2, .ref r3, .ref r4, .ref r5, .int rw, .ref r6, .ref r7, .ref r8, .int gw, .ref r9, .ref r10, .ref r11, .ref r12, .ref r13, .ref r14, .ref r15, .ref r16])), (r1, .inl (cI, 80, .inl (upd K i k))), (r2, .inl (cI, 80, .inl (upd O i x_23))), (r3, .inl (cI, 80, .inl T)), (r4, .inl (cI, 80, .inl Z))] := hD
    refine lv_aload_n hx hb de_M_put_24 rfl (lv_at hl 0 rfl) ?_
    refine va_get (D := (dC, dI)) (ci := 5) (v := .ref r3) (C := rc_M) (T := fc_M) (N := 19) hx hb htw wi_M hown hK hP 0 rfl rfl 3 (by decide) (htw _ wm_426) (fun _ h9 => h9) rfl de_M_put_25 ?_
    refine lv_iload_n hx hb de_M_put_28 rfl (lv_at hl 1 rfl) ?_
    refine bc_meet (σ := Int32) 41 (fun x => [.int x, .int (nI i), .ref r3]) (fun x H locs ls => (x = bc_p2 k b) ∧ lv_has ls 6 [(0, .ref m0), (1, .int (nI i)), (2, .int k), (3, .int a), (4, .int b), (5, .int d)] ∧ va_P (dC, dI) classes [(m0, .inr (5, [.int fa, .ref r1, .ref r2, .ref r3, .ref r4, .ref r5, .int rw, .ref r6, .ref r7, .ref r8, .int gw, .ref r9, .ref r10, .ref r11, .ref r12, .ref r13, .ref r14, .ref r15, .ref r16])), (r1, .inl (cI, 80, .inl (upd K i k))), (r2, .inl (cI, 80, .inl (upd O i x_23))), (r3, .inl (cI, 80, .inl T)), (r4, .inl (cI, 80, .inl Z))] H ∧ va_D A [(m0, .inr (5, [.int fa, .ref r1, .ref r2, .ref r3, .ref r4, .ref r5, .int rw, .ref r6, .ref r7, .ref r8, .int gw, .ref r9, .ref r10, .ref r11, .ref r12, .ref r13, .ref r14, .ref r15, .ref r16])), (r1, .inl (cI, 80, .inl (upd K i k))), (r2, .inl (cI, 80, .inl (upd O i x_23))), (r3, .inl (cI, 80, .inl T)), (r4, .inl (cI, 80, .inl Z))] ∧ va_S A s.heap H locs) ?_ ?_
    · rintro x_41 H locs ls ⟨hm_41, hl, hP, hD, hS⟩
      refine bc_ist (j := i) hx hb hK hP hD hS 3 0 rfl rfl (by omega) (by decide) de_M_put_41 (fun H locs hP hD hS => ?_)
      have hP : va_P (dC, dI) classes [(m0, .inr (5, [.int fa, .ref r1, .ref r2, .ref r3, .ref r4, .ref r5, .int rw, .ref r6, .ref r7, .ref r8, .int gw, .ref r9, .ref r10, .ref r11, .ref r12, .ref r13, .ref r14, .ref r15, .ref r16])), (r1, .inl (cI, 80, .inl (upd K i k))), (r2, .inl (cI, 80, .inl (upd O i x_23))), (r3, .inl (cI, 80, .inl (upd T i x_41))), (r4, .inl (cI, 80, .inl Z))] H := hP
      have hD : va_D A [(m0, .inr (5, [.int fa, .ref r1, .ref r2, .ref r3, .ref r4, .ref r5, .int rw, .ref r6, .ref r7, .ref r8, .int gw, .ref r9, .ref r10, .ref r11, .ref r12, .ref r13, .ref r14, .ref r15, .ref r16])), (r1, .inl (cI, 80, .inl (upd K i k))), (r2, .inl (cI, 80, .inl (upd O i x_23))), (r3, .inl (cI, 80, .inl (upd T i x_41))), (r4, .inl (cI, 80, .inl Z))] := hD
      refine lv_aload_n hx hb de_M_put_42 rfl (lv_at hl 0 rfl) ?_
      refine va_get (D := (dC, dI)) (ci := 5) (v := .ref r4) (C := rc_M) (T := fc_M) (N := 19) hx hb htw wi_M hown hK hP 0 rfl rfl 4 (by decide) (htw _ wm_427) (fun _ h9 => h9) rfl de_M_put_43 ?_
      refine lv_iload_n hx hb de_M_put_46 rfl (lv_at hl 1 rfl) ?_
      refine bc_meet (σ := Int32) 68 (fun x => [.int x, .int (nI i), .ref r4]) (fun x H locs ls => (x = bc_p3 k d) ∧ lv_has ls 6 [(0, .ref m0), (1, .int (nI i)), (2, .int k), (3, .int a), (4, .int b), (5, .int d)] ∧ va_P (dC, dI) classes [(m0, .inr (5, [.int fa, .ref r1, .ref r2, .ref r3, .ref r4, .ref r5, .int rw, .ref r6, .ref r7, .ref r8, .int gw, .ref r9, .ref r10, .ref r11, .ref r12, .ref r13, .ref r14, .ref r15, .ref r16])), (r1, .inl (cI, 80, .inl (upd K i k))), (r2, .inl (cI, 80, .inl (upd O i x_23))), (r3, .inl (cI, 80, .inl (upd T i x_41))), (r4, .inl (cI, 80, .inl Z))] H ∧ va_D A [(m0, .inr (5, [.int fa, .ref r1, .ref r2, .ref r3, .ref r4, .ref r5, .int rw, .ref r6, .ref r7, .ref r8, .int gw, .ref r9, .ref r10, .ref r11, .ref r12, .ref r13, .ref r14, .ref r15, .ref r16])), (r1, .inl (cI, 80, .inl (upd K i k))), (r2, .inl (cI, 80, .inl (upd O i x_23))), (r3, .inl (cI, 80, .inl (upd T i x_41))), (r4, .inl (cI, 80, .inl Z))] ∧ va_S A s.heap H locs) ?_ ?_
      · rintro x_68 H locs ls ⟨hm_68, hl, hP, hD, hS⟩
        refine bc_ist (j := i) hx hb hK hP hD hS 4 0 rfl rfl (by omega) (by decide) de_M_put_68 (fun H locs hP hD hS => ?_)
        have hP : va_P (dC, dI) classes [(m0, .inr (5, [.int fa, .ref r1, .ref r2, .ref r3, .ref r4, .ref r5, .int rw, .ref r6, .ref r7, .ref r8, .int gw, .ref r9, .ref r10, .ref r11, .ref r12, .ref r13, .ref r14, .ref r15, .ref r16])), (r1, .inl (cI, 80, .inl (upd K i k))), (r2, .inl (cI, 80, .inl (upd O i x_23))), (r3, .inl (cI, 80, .inl (upd T i x_41))), (r4, .inl (cI, 80, .inl (upd Z i x_68)))] H := hP
        have hD : va_D A [(m0, .inr (5, [.int fa, .ref r1, .ref r2, .ref r3, .ref r4, .ref r5, .int rw, .ref r6, .ref r7, .ref r8, .int gw, .ref r9, .ref r10, .ref r11, .ref r12, .ref r13, .ref r14, .ref r15, .ref r16])), (r1, .inl (cI, 80, .inl (upd K i k))), (r2, .inl (cI, 80, .inl (upd O i x_23))), (r3, .inl (cI, 80, .inl (upd T i x_41))), (r4, .inl (cI, 80, .inl (upd Z i x_68)))] := hD
        exact bc_vret F hr hlocks ((upd K i k, upd O i x_23, upd T i x_41, upd Z i x_68)) (by rw [hm_23, hm_41, hm_68]) hP hD hS de_M_put_69
      · intro km_68
        refine lv_iload_n hx hb de_M_put_47 rfl (lv_at hl 2 rfl) ?_
        refine lv_iconst (v := 2) hx hb de_M_put_48 (by decide) ?_
        refine lv_icmp_eq (tgt := 62) hx hb de_M_put_49 (by decide) (fun hc_49 => ?_) (fun hc_49 => ?_)
        · refine lv_iload hx hb de_M_put_62 (lv_at hl 5 rfl) ?_
          refine lv_goto (tgt := 68) hx hb de_M_put_64 (by decide) ?_
          exact km_68 d _ _ _ ⟨(by unfold bc_p3; rw [if_pos (Or.inl hc_49)]), hl, hP, hD, hS⟩
        · refine lv_iload_n hx hb de_M_put_52 rfl (lv_at hl 2 rfl) ?_
          refine lv_iconst (v := 3) hx hb de_M_put_53 (by decide) ?_
          refine lv_icmp_eq (tgt := 62) hx hb de_M_put_54 (by decide) (fun hc_54 => ?_) (fun hc_54 => ?_)
          · refine lv_iload hx hb de_M_put_62 (lv_at hl 5 rfl) ?_
            refine lv_goto (tgt := 68) hx hb de_M_put_64 (by decide) ?_
            exact km_68 d _ _ _ ⟨(by unfold bc_p3; rw [if_pos (Or.inr (Or.inl hc_54))]), hl, hP, hD, hS⟩
          · refine lv_iload_n hx hb de_M_put_57 rfl (lv_at hl 2 rfl) ?_
            refine lv_iconst (v := 4) hx hb de_M_put_58 (by decide) ?_
            refine lv_icmp_ne (tgt := 67) hx hb de_M_put_59 (by decide) (fun hc_59 => ?_) (fun hc_59 => ?_)
            · refine lv_iconst (v := 0) hx hb de_M_put_67 (by decide) ?_
              exact km_68 0 _ _ _ ⟨(by unfold bc_p3; rw [if_neg (fun z => z.elim hc_49 (fun z => z.elim hc_54 hc_59))]), hl, hP, hD, hS⟩
            · refine lv_iload hx hb de_M_put_62 (lv_at hl 5 rfl) ?_
              refine lv_goto (tgt := 68) hx hb de_M_put_64 (by decide) ?_
              exact km_68 d _ _ _ ⟨(by unfold bc_p3; rw [if_pos (Or.inr (Or.inr hc_59))]), hl, hP, hD, hS⟩
    · intro km_41
      refine lv_iload_n hx hb de_M_put_29 rfl (lv_at hl 2 rfl) ?_
      refine lv_bipush (v := 7) hx hb de_M_put_30 (by decide) ?_
      refine lv_icmp_ge (tgt := 40) hx hb de_M_put_32 (by decide) (fun hc_32 => ?_) (fun hc_32 => ?_)
      · refine lv_iconst (v := 0) hx hb de_M_put_40 (by decide) ?_
        exact km_41 0 _ _ _ ⟨(bc_m2y hk hc_32), hl, hP, hD, hS⟩
      · refine lv_iload hx hb de_M_put_35 (lv_at hl 4 rfl) ?_
        refine lv_goto (tgt := 41) hx hb de_M_put_37 (by decide) ?_
        exact km_41 b _ _ _ ⟨(bc_m2n hk hc_32), hl, hP, hD, hS⟩
  · intro km_23
    refine lv_iload_n hx hb de_M_put_12 rfl (lv_at hl 2 rfl) ?_
    refine lv_bipush (v := 6) hx hb de_M_put_13 (by decide) ?_
    refine lv_icmp_ge (tgt := 22) hx hb de_M_put_15 (by decide) (fun hc_15 => ?_) (fun hc_15 => ?_)
    · refine lv_iconst (v := 0) hx hb de_M_put_22 (by decide) ?_
      exact km_23 0 _ _ _ ⟨(bc_m1y hk hc_15), hl, hP, hD, hS⟩
    · refine lv_iload_n hx hb de_M_put_18 rfl (lv_at hl 3 rfl) ?_
      refine lv_goto (tgt := 23) hx hb de_M_put_19 (by decide) ?_
      exact km_23 a _ _ _ ⟨(bc_m1n hk hc_15), hl, hP, hD, hS⟩

set_option maxHeartbeats 4000000 in
set_option maxRecDepth 100000 in
/-- the program has changed -/
theorem co_M_changed {l : Launch} {dC : Nat → ClassId} {dI : Nat → Nat → Nat} {cI cZ : ClassId} {sz : Nat} {m0 r1 r2 r3 r4 r5 r6 r7 r8 r9 r10 r11 r12 r13 r14 r15 r16 : Nat} {On : bc_F} {fa rw gw : Int32} : Met l yn_M_changed (Cond.code yn_M_changed by_M_changed 1 none :: wd_all) ({ frames := 0, cells := 0, slots := 0, locals := 0 } : Room) (bc_Pre (dC, dI) classes [(cI, .int), (cZ, .boolean)] [.ref m0] [(m0, .inr (5, [.int fa, .ref r1, .ref r2, .ref r3, .ref r4, .ref r5, .int rw, .ref r6, .ref r7, .ref r8, .int gw, .ref r9, .ref r10, .ref r11, .ref r12, .ref r13, .ref r14, .ref r15, .ref r16])), (r13, .inl (cZ, 2, .inl On))] sz) (va_Qv (fun (u : Unit) => True) (fun (u : Unit) t => bc_B (dC, dI) classes [(cI, .int), (cZ, .boolean)] (va_A [(m0, .inr (5, [.int fa, .ref r1, .ref r2, .ref r3, .ref r4, .ref r5, .int rw, .ref r6, .ref r7, .ref r8, .int gw, .ref r9, .ref r10, .ref r11, .ref r12, .ref r13, .ref r14, .ref r15, .ref r16])), (r13, .inl (cZ, 2, .inl On))] sz) [(m0, .inr (5, [.int fa, .ref r1, .ref r2, .ref r3, .ref r4, .ref r5, .int 0, .ref r6, .ref r7, .ref r8, .int gw, .ref r9, .ref r10, .ref r11, .ref r12, .ref r13, .ref r14, .ref r15, .ref r16])), (r13, .inl (cZ, 2, .inl (upd (upd On 0 0) 1 0)))] t) ((va_A [(m0, .inr (5, [.int fa, .ref r1, .ref r2, .ref r3, .ref r4, .ref r5, .int rw, .ref r6, .ref r7, .ref r8, .int gw, .ref r9, .ref r10, .ref r11, .ref r12, .ref r13, .ref r14, .ref r15, .ref r16])), (r13, .inl (cZ, 2, .inl On))] sz))) 0 0 (va_A [(m0, .inr (5, [.int fa, .ref r1, .ref r2, .ref r3, .ref r4, .ref r5, .int rw, .ref r6, .ref r7, .ref r8, .int gw, .ref r9, .ref r10, .ref r11, .ref r12, .ref r13, .ref r14, .ref r15, .ref r16])), (r13, .inl (cZ, 2, .inl On))] sz) := by
  refine bc_met (fun A => va_Qv (fun (u : Unit) => True) (fun (u : Unit) t => bc_B (dC, dI) classes [(cI, .int), (cZ, .boolean)] A [(m0, .inr (5, [.int fa, .ref r1, .ref r2, .ref r3, .ref r4, .ref r5, .int 0, .ref r6, .ref r7, .ref r8, .int gw, .ref r9, .ref r10, .ref r11, .ref r12, .ref r13, .ref r14, .ref r15, .ref r16])), (r13, .inl (cZ, 2, .inl (upd (upd On 0 0) 1 0)))] t) A) (by decide) (Nat.le_of_ble_eq_true rfl) ?_
  intro p e s m args below meth c A ls F hr hlocks hin hA hP hD hl hS
  have hx := F.1
  have hb := F.2.1
  have hml := F.2.2.1
  have hown : s.vm.findClass "BranchConstantsModel" = some m.cls := F.2.2.2.1
  have htw := F.2.2.2.2.1
  have hN := F.2.2.2.2.2.1
  have hK := F.2.2.2.2.2.2
  have hl : lv_has ls 1 [(0, .ref m0)] := hl
  refine lv_aload_n hx hb de_M_changed_0 rfl (lv_at hl 0 rfl) ?_
  refine lv_iconst (v := 0) hx hb de_M_changed_1 (by decide) ?_
  refine va_put (D := (dC, dI)) (ci := 5) (v := .int 0) (ty := .boolean) (C := rc_M) (T := fc_M) (N := 19) hx hb htw wi_M tc_M tc_M_ok nc_M hown hK hP hD hS 0 rfl rfl 6 (by decide) (htw _ wm_429) (fun _ h9 => h9) rfl (by decide +kernel) rfl rfl (Nat.le_of_ble_eq_true rfl) de_M_changed_2 (fun H locs hP hD hS => ?_)
  have hP : va_P (dC, dI) classes [(m0, .inr (5, [.int fa, .ref r1, .ref r2, .ref r3, .ref r4, .ref r5, .int 0, .ref r6, .ref r7, .ref r8, .int gw, .ref r9, .ref r10, .ref r11, .ref r12, .ref r13, .ref r14, .ref r15, .ref r16])), (r13, .inl (cZ, 2, .inl On))] H := hP
  have hD : va_D A [(m0, .inr (5, [.int fa, .ref r1, .ref r2, .ref r3, .ref r4, .ref r5, .int 0, .ref r6, .ref r7, .ref r8, .int gw, .ref r9, .ref r10, .ref r11, .ref r12, .ref r13, .ref r14, .ref r15, .ref r16])), (r13, .inl (cZ, 2, .inl On))] := hD
  refine lv_aload_n hx hb de_M_changed_5 rfl (lv_at hl 0 rfl) ?_
  refine va_get (D := (dC, dI)) (ci := 5) (v := .ref r13) (C := rc_M) (T := fc_M) (N := 19) hx hb htw wi_M hown hK hP 0 rfl rfl 15 (by decide) (htw _ wm_438) (fun _ h9 => h9) rfl de_M_changed_6 ?_
  refine lv_iconst (v := 0) hx hb de_M_changed_9 (by decide) ?_
  refine lv_iconst (v := 0) hx hb de_M_changed_10 (by decide) ?_
  refine bc_zstE (by decide) (j := 0) hx hb hK hP hD hS 1 1 rfl rfl (by decide) (by omega) (by decide) de_M_changed_11 (fun H locs hP hD hS => ?_)
  have hP : va_P (dC, dI) classes [(m0, .inr (5, [.int fa, .ref r1, .ref r2, .ref r3, .ref r4, .ref r5, .int 0, .ref r6, .ref r7, .ref r8, .int gw, .ref r9, .ref r10, .ref r11, .ref r12, .ref r13, .ref r14, .ref r15, .ref r16])), (r13, .inl (cZ, 2, .inl (upd On 0 0)))] H := hP
  have hD : va_D A [(m0, .inr (5, [.int fa, .ref r1, .ref r2, .ref r3, .ref r4, .ref r5, .int 0, .ref r6, .ref r7, .ref r8, .int gw, .ref r9, .ref r10, .ref r11, .ref r12, .ref r13, .ref r14, .ref r15, .ref r16])), (r13, .inl (cZ, 2, .inl (upd On 0 0)))] := hD
  refine lv_aload_n hx hb de_M_changed_12 rfl (lv_at hl 0 rfl) ?_
  refine va_get (D := (dC, dI)) (ci := 5) (v := .ref r13) (C := rc_M) (T := fc_M) (N := 19) hx hb htw wi_M hown hK hP 0 rfl rfl 15 (by decide) (htw _ wm_438) (fun _ h9 => h9) rfl de_M_changed_13 ?_
  refine lv_iconst (v := 1) hx hb de_M_changed_16 (by decide) ?_
  refine lv_iconst (v := 0) hx hb de_M_changed_17 (by decide) ?_
  refine bc_zstE (by decide) (j := 1) hx hb hK hP hD hS 1 1 rfl rfl (by decide) (by omega) (by decide) de_M_changed_18 (fun H locs hP hD hS => ?_)
  have hP : va_P (dC, dI) classes [(m0, .inr (5, [.int fa, .ref r1, .ref r2, .ref r3, .ref r4, .ref r5, .int 0, .ref r6, .ref r7, .ref r8, .int gw, .ref r9, .ref r10, .ref r11, .ref r12, .ref r13, .ref r14, .ref r15, .ref r16])), (r13, .inl (cZ, 2, .inl (upd (upd On 0 0) 1 0)))] H := hP
  have hD : va_D A [(m0, .inr (5, [.int fa, .ref r1, .ref r2, .ref r3, .ref r4, .ref r5, .int 0, .ref r6, .ref r7, .ref r8, .int gw, .ref r9, .ref r10, .ref r11, .ref r12, .ref r13, .ref r14, .ref r15, .ref r16])), (r13, .inl (cZ, 2, .inl (upd (upd On 0 0) 1 0)))] := hD
  exact bc_vret F hr hlocks (()) trivial hP hD hS de_M_changed_19

set_option maxHeartbeats 4000000 in
set_option maxRecDepth 100000 in
/-- add, subtract, multiply -/
theorem co_M_reckon {l : Launch} {dC : Nat → ClassId} {dI : Nat → Nat → Nat} {cI cZ : ClassId} {sz : Nat} {k x y : Int32} : Met l yn_M_reckon (Cond.code yn_M_reckon by_M_reckon 3 (some FieldType.int) :: wd_all) ({ frames := 0, cells := 0, slots := 0, locals := 0 } : Room) (bc_Pre (dC, dI) classes [(cI, .int), (cZ, .boolean)] [.int k, .int x, .int y] [] sz) (va_Qi (fun (r : Int32) (u : Unit) => r = bc_ar k x y) (fun (u : Unit) t => bc_B (dC, dI) classes [(cI, .int), (cZ, .boolean)] (va_A [] sz) [] t) ((va_A [] sz))) 0 0 (va_A [] sz) := by
  refine bc_met (fun A => va_Qi (fun (r : Int32) (u : Unit) => r = bc_ar k x y) (fun (u : Unit) t => bc_B (dC, dI) classes [(cI, .int), (cZ, .boolean)] A [] t) A) (by decide) (Nat.le_of_ble_eq_true rfl) ?_
  intro p e s m args below meth c A ls F hr hlocks hin hA hP hD hl hS
  have hx := F.1
  have hb := F.2.1
  have hml := F.2.2.1
  have hown : s.vm.findClass "BranchConstantsModel" = some m.cls := F.2.2.2.1
  have htw := F.2.2.2.2.1
  have hN := F.2.2.2.2.2.1
  have hK := F.2.2.2.2.2.2
  have hl : lv_has ls 3 [(0, .int k), (1, .int x), (2, .int y)] := hl
  refine lv_iload_n hx hb de_M_reckon_0 rfl (lv_at hl 0 rfl) ?_
  refine lv_iconst (v := 2) hx hb de_M_reckon_1 (by decide) ?_
  refine lv_icmp_ne (tgt := 11) hx hb de_M_reckon_2 (by decide) (fun hc_2 => ?_) (fun hc_2 => ?_)
  · refine lv_iload_n hx hb de_M_reckon_11 rfl (lv_at hl 0 rfl) ?_
    refine lv_iconst (v := 3) hx hb de_M_reckon_12 (by decide) ?_
    refine lv_icmp_ne (tgt := 22) hx hb de_M_reckon_13 (by decide) (fun hc_13 => ?_) (fun hc_13 => ?_)
    · refine lv_iload_n hx hb de_M_reckon_22 rfl (lv_at hl 1 rfl) ?_
      refine lv_iload_n hx hb de_M_reckon_23 rfl (lv_at hl 2 rfl) ?_
      refine lv_imul hx hb de_M_reckon_24 ?_
      exact bc_iret F hr hlocks (()) (by unfold bc_ar; rw [if_neg hc_2, if_neg hc_13]) hP hD hS de_M_reckon_25
    · refine lv_iload_n hx hb de_M_reckon_16 rfl (lv_at hl 1 rfl) ?_
      refine lv_iload_n hx hb de_M_reckon_17 rfl (lv_at hl 2 rfl) ?_
      refine lv_isub hx hb de_M_reckon_18 ?_
      refine lv_goto (tgt := 25) hx hb de_M_reckon_19 (by decide) ?_
      exact bc_iret F hr hlocks (()) (by unfold bc_ar; rw [if_neg hc_2, if_pos hc_13]) hP hD hS de_M_reckon_25
  · refine lv_iload_n hx hb de_M_reckon_5 rfl (lv_at hl 1 rfl) ?_
    refine lv_iload_n hx hb de_M_reckon_6 rfl (lv_at hl 2 rfl) ?_
    refine lv_iadd hx hb de_M_reckon_7 ?_
    refine lv_goto (tgt := 25) hx hb de_M_reckon_8 (by decide) ?_
    exact bc_iret F hr hlocks (()) (by unfold bc_ar; rw [if_pos hc_2]) hP hD hS de_M_reckon_25

set_option maxHeartbeats 4000000 in
set_option maxRecDepth 100000 in
/-- a variable is known, or not -/
theorem co_M_know {l : Launch} {dC : Nat → ClassId} {dI : Nat → Nat → Nat} {cI cZ : ClassId} {sz : Nat} {m0 r1 r2 r3 r4 r5 r6 r7 r8 r9 r10 r11 r12 r13 r14 r15 r16 : Nat} {Nf Nv : bc_F} {fa rw gw : Int32} {v : Nat} {b x : Int32} (hv : v < 6) : Met l yn_M_know (Cond.code yn_M_know by_M_know 4 none :: wd_all) ({ frames := 0, cells := 0, slots := 0, locals := 0 } : Room) (bc_Pre (dC, dI) classes [(cI, .int), (cZ, .boolean)] [.ref m0, .int (nI v), .int b, .int x] [(m0, .inr (5, [.int fa, .ref r1, .ref r2, .ref r3, .ref r4, .ref r5, .int rw, .ref r6, .ref r7, .ref r8, .int gw, .ref r9, .ref r10, .ref r11, .ref r12, .ref r13, .ref r14, .ref r15, .ref r16])), (r9, .inl (cI, 6, .inl Nf)), (r10, .inl (cI, 6, .inl Nv))] sz) (va_Qv (fun (u : bc_F × bc_F) => (¬ b = 0 → u = (upd Nf v 2, upd Nv v x)) ∧ (b = 0 → u = (upd Nf v 1, upd Nv v 0))) (fun (u : bc_F × bc_F) t => bc_B (dC, dI) classes [(cI, .int), (cZ, .boolean)] (va_A [(m0, .inr (5, [.int fa, .ref r1, .ref r2, .ref r3, .ref r4, .ref r5, .int rw, .ref r6, .ref r7, .ref r8, .int gw, .ref r9, .ref r10, .ref r11, .ref r12, .ref r13, .ref r14, .ref r15, .ref r16])), (r9, .inl (cI, 6, .inl Nf)), (r10, .inl (cI, 6, .inl Nv))] sz) [(m0, .inr (5, [.int fa, .ref r1, .ref r2, .ref r3, .ref r4, .ref r5, .int rw, .ref r6, .ref r7, .ref r8, .int gw, .ref r9, .ref r10, .ref r11, .ref r12, .ref r13, .ref r14, .ref r15, .ref r16])), (r9, .inl (cI, 6, .inl u.1)), (r10, .inl (cI, 6, .inl u.2))] t) ((va_A [(m0, .inr (5, [.int fa, .ref r1, .ref r2, .ref r3, .ref r4, .ref r5, .int rw, .ref r6, .ref r7, .ref r8, .int gw, .ref r9, .ref r10, .ref r11, .ref r12, .ref r13, .ref r14, .ref r15, .ref r16])), (r9, .inl (cI, 6, .inl Nf)), (r10, .inl (cI, 6, .inl Nv))] sz))) 0 0 (va_A [(m0, .inr (5, [.int fa, .ref r1, .ref r2, .ref r3, .ref r4, .ref r5, .int rw, .ref r6, .ref r7, .ref r8, .int gw, .ref r9, .ref r10, .ref r11, .ref r12, .ref r13, .ref r14, .ref r15, .ref r16])), (r9, .inl (cI, 6, .inl Nf)), (r10, .inl (cI, 6, .inl Nv))] sz) := by
  refine bc_met (fun A => va_Qv (fun (u : bc_F × bc_F) => (¬ b = 0 → u = (upd Nf v 2, upd Nv v x)) ∧ (b = 0 → u = (upd Nf v 1, upd Nv v 0))) (fun (u : bc_F × bc_F) t => bc_B (dC, dI) classes [(cI, .int), (cZ, .boolean)] A [(m0, .inr (5, [.int fa, .ref r1, .ref r2, .ref r3, .ref r4, .ref r5, .int rw, .ref r6, .ref r7, .ref r8, .int gw, .ref r9, .ref r10, .ref r11, .ref r12, .ref r13, .ref r14, .ref r15, .ref r16])), (r9, .inl (cI, 6, .inl u.1)), (r10, .inl (cI, 6, .inl u.2))] t) A) (by decide) (Nat.le_of_ble_eq_true rfl) ?_
  intro p e s m args below meth c A ls F hr hlocks hin hA hP hD hl hS
  have hx := F.1
  have hb := F.2.1
  have hml := F.2.2.1
  have hown : s.vm.findClass "BranchConstantsModel" = some m.cls := F.2.2.2.1
  have htw := F.2.2.2.2.1
  have hN := F.2.2.2.2.2.1
  have hK := F.2.2.2.2.2.2
  have hl : lv_has ls 4 [(0, .ref m0), (1, .int (nI v)), (2, .int b), (3, .int x)] := hl
  refine lv_aload_n hx hb de_M_know_0 rfl (lv_at hl 0 rfl) ?_
  refine va_get (D := (dC, dI)) (ci := 5) (v := .ref r9) (C := rc_M) (T := fc_M) (N := 19) hx hb htw wi_M hown hK hP 0 rfl rfl 11 (by decide) (htw _ wm_434) (fun _ h9 => h9) rfl de_M_know_1 ?_
  refine lv_iload_n hx hb de_M_know_4 rfl (lv_at hl 1 rfl) ?_
  refine lv_iload_n hx hb de_M_know_5 rfl (lv_at hl 2 rfl) ?_
  refine lv_if_eq (tgt := 13) hx hb de_M_know_6 (by decide) (fun hc_6 => ?_) (fun hc_6 => ?_)
  · refine lv_iconst (v := 1) hx hb de_M_know_13 (by decide) ?_
    refine bc_ist (j := v) hx hb hK hP hD hS 1 0 rfl rfl (by omega) (by decide) de_M_know_14 (fun H locs hP hD hS => ?_)
    have hP : va_P (dC, dI) classes [(m0, .inr (5, [.int fa, .ref r1, .ref r2, .ref r3, .ref r4, .ref r5, .int rw, .ref r6, .ref r7, .ref r8, .int gw, .ref r9, .ref r10, .ref r11, .ref r12, .ref r13, .ref r14, .ref r15, .ref r16])), (r9, .inl (cI, 6, .inl (upd Nf v 1))), (r10, .inl (cI, 6, .inl Nv))] H := hP
    have hD : va_D A [(m0, .inr (5, [.int fa, .ref r1, .ref r2, .ref r3, .ref r4, .ref r5, .int rw, .ref r6, .ref r7, .ref r8, .int gw, .ref r9, .ref r10, .ref r11, .ref r12, .ref r13, .ref r14, .ref r15, .ref r16])), (r9, .inl (cI, 6, .inl (upd Nf v 1))), (r10, .inl (cI, 6, .inl Nv))] := hD
    refine lv_aload_n hx hb de_M_know_15 rfl (lv_at hl 0 rfl) ?_
    refine va_get (D := (dC, dI)) (ci := 5) (v := .ref r10) (C := rc_M) (T := fc_M) (N := 19) hx hb htw wi_M hown hK hP 0 rfl rfl 12 (by decide) (htw _ wm_435) (fun _ h9 => h9) rfl de_M_know_16 ?_
    refine lv_iload_n hx hb de_M_know_19 rfl (lv_at hl 1 rfl) ?_
    refine lv_iload_n hx hb de_M_know_20 rfl (lv_at hl 2 rfl) ?_
    refine lv_if_eq (tgt := 28) hx hb de_M_know_21 (by decide) (fun _ => ?_) (fun hc => absurd hc_6 hc)
    refine lv_iconst (v := 0) hx hb de_M_know_28 (by decide) ?_
    refine bc_ist (j := v) hx hb hK hP hD hS 2 0 rfl rfl (by omega) (by decide) de_M_know_29 (fun H locs hP hD hS => ?_)
    have hP : va_P (dC, dI) classes [(m0, .inr (5, [.int fa, .ref r1, .ref r2, .ref r3, .ref r4, .ref r5, .int rw, .ref r6, .ref r7, .ref r8, .int gw, .ref r9, .ref r10, .ref r11, .ref r12, .ref r13, .ref r14, .ref r15, .ref r16])), (r9, .inl (cI, 6, .inl (upd Nf v 1))), (r10, .inl (cI, 6, .inl (upd Nv v 0)))] H := hP
    have hD : va_D A [(m0, .inr (5, [.int fa, .ref r1, .ref r2, .ref r3, .ref r4, .ref r5, .int rw, .ref r6, .ref r7, .ref r8, .int gw, .ref r9, .ref r10, .ref r11, .ref r12, .ref r13, .ref r14, .ref r15, .ref r16])), (r9, .inl (cI, 6, .inl (upd Nf v 1))), (r10, .inl (cI, 6, .inl (upd Nv v 0)))] := hD
    exact bc_vret F hr hlocks ((upd Nf v 1, upd Nv v 0)) ⟨fun z => absurd hc_6 z, fun _ => rfl⟩ hP hD hS de_M_know_30
  · refine lv_iconst (v := 2) hx hb de_M_know_9 (by decide) ?_
    refine lv_goto (tgt := 14) hx hb de_M_know_10 (by decide) ?_
    refine bc_ist (j := v) hx hb hK hP hD hS 1 0 rfl rfl (by omega) (by decide) de_M_know_14 (fun H locs hP hD hS => ?_)
    have hP : va_P (dC, dI) classes [(m0, .inr (5, [.int fa, .ref r1, .ref r2, .ref r3, .ref r4, .ref r5, .int rw, .ref r6, .ref r7, .ref r8, .int gw, .ref r9, .ref r10, .ref r11, .ref r12, .ref r13, .ref r14, .ref r15, .ref r16])), (r9, .inl (cI, 6, .inl (upd Nf v 2))), (r10, .inl (cI, 6, .inl Nv))] H := hP
    have hD : va_D A [(m0, .inr (5, [.int fa, .ref r1, .ref r2, .ref r3, .ref r4, .ref r5, .int rw, .ref r6, .ref r7, .ref r8, .int gw, .ref r9, .ref r10, .ref r11, .ref r12, .ref r13, .ref r14, .ref r15, .ref r16])), (r9, .inl (cI, 6, .inl (upd Nf v 2))), (r10, .inl (cI, 6, .inl Nv))] := hD
    refine lv_aload_n hx hb de_M_know_15 rfl (lv_at hl 0 rfl) ?_
    refine va_get (D := (dC, dI)) (ci := 5) (v := .ref r10) (C := rc_M) (T := fc_M) (N := 19) hx hb htw wi_M hown hK hP 0 rfl rfl 12 (by decide) (htw _ wm_435) (fun _ h9 => h9) rfl de_M_know_16 ?_
    refine lv_iload_n hx hb de_M_know_19 rfl (lv_at hl 1 rfl) ?_
    refine lv_iload_n hx hb de_M_know_20 rfl (lv_at hl 2 rfl) ?_
    refine lv_if_eq (tgt := 28) hx hb de_M_know_21 (by decide) (fun hc => absurd hc hc_6) (fun _ => ?_)
    refine lv_iload_n hx hb de_M_know_24 rfl (lv_at hl 3 rfl) ?_
    refine lv_goto (tgt := 29) hx hb de_M_know_25 (by decide) ?_
    refine bc_ist (j := v) hx hb hK hP hD hS 2 0 rfl rfl (by omega) (by decide) de_M_know_29 (fun H locs hP hD hS => ?_)
    have hP : va_P (dC, dI) classes [(m0, .inr (5, [.int fa, .ref r1, .ref r2, .ref r3, .ref r4, .ref r5, .int rw, .ref r6, .ref r7, .ref r8, .int gw, .ref r9, .ref r10, .ref r11, .ref r12, .ref r13, .ref r14, .ref r15, .ref r16])), (r9, .inl (cI, 6, .inl (upd Nf v 2))), (r10, .inl (cI, 6, .inl (upd Nv v x)))] H := hP
    have hD : va_D A [(m0, .inr (5, [.int fa, .ref r1, .ref r2, .ref r3, .ref r4, .ref r5, .int rw, .ref r6, .ref r7, .ref r8, .int gw, .ref r9, .ref r10, .ref r11, .ref r12, .ref r13, .ref r14, .ref r15, .ref r16])), (r9, .inl (cI, 6, .inl (upd Nf v 2))), (r10, .inl (cI, 6, .inl (upd Nv v x)))] := hD
    exact bc_vret F hr hlocks ((upd Nf v 2, upd Nv v x)) ⟨fun _ => rfl, fun z => absurd z hc_6⟩ hP hD hS de_M_know_30

theorem bc_isn {n : Nat} {x : Int32} (hn : n < 2 ^ 31) (h0 : ¬ x < 0) (h : ¬ nI n ≤ x) : ∃ j : Nat, j < n ∧ x = nI j := by
  obtain ⟨j, hj, rfl⟩ := nI_of h0
  exact ⟨j, bc_lt hn hj h, rfl⟩
theorem bc_isn0 {n : Nat} {x : Int32} (hn : n < 2 ^ 31) (h : x < 0) : ¬ ∃ j : Nat, j < n ∧ x = nI j := by
  rintro ⟨j, hj, rfl⟩
  exact nI_pos (by omega) h
theorem bc_isn1 {n : Nat} {x : Int32} (hn : n < 2 ^ 31) (h : nI n ≤ x) : ¬ ∃ j : Nat, j < n ∧ x = nI j := by
  rintro ⟨j, hj, rfl⟩
  have := bc_ge hn (by omega) h
  omega
set_option maxHeartbeats 4000000 in
set_option maxRecDepth 100000 in
/-- is there such an instruction -/
theorem co_M_isThere {l : Launch} {dC : Nat → ClassId} {dI : Nat → Nat → Nat} {cI cZ : ClassId} {sz : Nat} {m0 r1 r2 r3 r4 r5 r6 r7 r8 r9 r10 r11 r12 r13 r14 r15 r16 : Nat} {Sz : bc_F} {fa rw gw : Int32} {n : Nat} {x : Int32} (hn : n ≤ 40) (hSz : Sz 0 = nI n) : Met l yn_M_isThere (Cond.code yn_M_isThere by_M_isThere 2 (some FieldType.boolean) :: wd_all) ({ frames := 0, cells := 0, slots := 0, locals := 0 } : Room) (bc_Pre (dC, dI) classes [(cI, .int), (cZ, .boolean)] [.ref m0, .int x] [(m0, .inr (5, [.int fa, .ref r1, .ref r2, .ref r3, .ref r4, .ref r5, .int rw, .ref r6, .ref r7, .ref r8, .int gw, .ref r9, .ref r10, .ref r11, .ref r12, .ref r13, .ref r14, .ref r15, .ref r16])), (r5, .inl (cI, 2, .inl Sz))] sz) (va_Qi (fun (r : Int32) (u : Unit) => (r = 1 ∧ ∃ j : Nat, j < n ∧ x = nI j) ∨ (r = 0 ∧ ¬ ∃ j : Nat, j < n ∧ x = nI j)) (fun (u : Unit) t => bc_B (dC, dI) classes [(cI, .int), (cZ, .boolean)] (va_A [(m0, .inr (5, [.int fa, .ref r1, .ref r2, .ref r3, .ref r4, .ref r5, .int rw, .ref r6, .ref r7, .ref r8, .int gw, .ref r9, .ref r10, .ref r11, .ref r12, .ref r13, .ref r14, .ref r15, .ref r16])), (r5, .inl (cI, 2, .inl Sz))] sz) [(m0, .inr (5, [.int fa, .ref r1, .ref r2, .ref r3, .ref r4, .ref r5, .int rw, .ref r6, .ref r7, .ref r8, .int gw, .ref r9, .ref r10, .ref r11, .ref r12, .ref r13, .ref r14, .ref r15, .ref r16])), (r5, .inl (cI, 2, .inl Sz))] t) ((va_A [(m0, .inr (5, [.int fa, .ref r1, .ref r2, .ref r3, .ref r4, .ref r5, .int rw, .ref r6, .ref r7, .ref r8, .int gw, .ref r9, .ref r10, .ref r11, .ref r12, .ref r13, .ref r14, .ref r15, .ref r16])), (r5, .inl (cI, 2, .inl Sz))] sz))) 0 0 (va_A [(m0, .inr (5, [.int fa, .ref r1, .ref r2, .ref r3, .ref r4, .ref r5, .int rw, .ref r6, .ref r7, .ref r8, .int gw, .ref r9, .ref r10, .ref r11, .ref r12, .ref r13, .ref r14, .ref r15, .ref r16])), (r5, .inl (cI, 2, .inl Sz))] sz) := by
  refine bc_met (fun A => va_Qi (fun (r : Int32) (u : Unit) => (r = 1 ∧ ∃ j : Nat, j < n ∧ x = nI j) ∨ (r = 0 ∧ ¬ ∃ j : Nat, j < n ∧ x = nI j)) (fun (u : Unit) t => bc_B (dC, dI) classes [(cI, .int), (cZ, .boolean)] A [(m0, .inr (5, [.int fa, .ref r1, .ref r2, .ref r3, .ref r4, .ref r5, .int rw, .ref r6, .ref r7, .ref r8, .int gw, .ref r9, .ref r10, .ref r11, .ref r12, .ref r13, .ref r14, .ref r15, .ref r16])), (r5, .inl (cI, 2, .inl Sz))] t) A) (by decide) (Nat.le_of_ble_eq_true rfl) ?_
  intro p e s m args below meth c A ls F hr hlocks hin hA hP hD hl hS
  have hx := F.1
  have hb := F.2.1
  have hml := F.2.2.1
  have hown : s.vm.findClass "BranchConstantsModel" = some m.cls := F.2.2.2.1
  have htw := F.2.2.2.2.1
  have hN := F.2.2.2.2.2.1
  have hK := F.2.2.2.2.2.2
  have hl : lv_has ls 2 [(0, .ref m0), (1, .int x)] := hl
  refine lv_iload_n hx hb de_M_isThere_0 rfl (lv_at hl 1 rfl) ?_
  refine lv_if_lt (tgt := 18) hx hb de_M_isThere_1 (by decide) (fun hc_1 => ?_) (fun hc_1 => ?_)
  · refine lv_iconst (v := 0) hx hb de_M_isThere_18 (by decide) ?_
    exact bc_zret F hr hlocks rfl (()) (Or.inr ⟨rfl, bc_isn0 (by omega) hc_1⟩) hP hD hS de_M_isThere_19
  · refine lv_iload_n hx hb de_M_isThere_4 rfl (lv_at hl 1 rfl) ?_
    refine lv_aload_n hx hb de_M_isThere_5 rfl (lv_at hl 0 rfl) ?_
    refine va_get (D := (dC, dI)) (ci := 5) (v := .ref r5) (C := rc_M) (T := fc_M) (N := 19) hx hb htw wi_M hown hK hP 0 rfl rfl 5 (by decide) (htw _ wm_428) (fun _ h9 => h9) rfl de_M_isThere_6 ?_
    refine lv_iconst (v := 0) hx hb de_M_isThere_9 (by decide) ?_
    refine bc_ildE (by decide) (j := 0) hx hb hK hP 1 0 rfl rfl (by omega) (by decide) de_M_isThere_10 ?_
    refine bc_ti (y := nI n) hSz ?_
    refine lv_icmp_ge (tgt := 18) hx hb de_M_isThere_11 (by decide) (fun hc_11 => ?_) (fun hc_11 => ?_)
    · refine lv_iconst (v := 0) hx hb de_M_isThere_18 (by decide) ?_
      exact bc_zret F hr hlocks rfl (()) (Or.inr ⟨rfl, bc_isn1 (by omega) hc_11⟩) hP hD hS de_M_isThere_19
    · refine lv_iconst (v := 1) hx hb de_M_isThere_14 (by decide) ?_
      refine lv_goto (tgt := 19) hx hb de_M_isThere_15 (by decide) ?_
      exact bc_zret F hr hlocks rfl (()) (Or.inl ⟨rfl, bc_isn (by omega) hc_1 hc_11⟩) hP hD hS de_M_isThere_19

set_option maxHeartbeats 4000000 in
set_option maxRecDepth 100000 in
/-- is it a side -/
theorem co_M_isSide {l : Launch} {dC : Nat → ClassId} {dI : Nat → Nat → Nat} {cI cZ : ClassId} {sz : Nat} {x : Int32} : Met l yn_M_isSide (Cond.code yn_M_isSide by_M_isSide 1 (some FieldType.boolean) :: wd_all) ({ frames := 0, cells := 0, slots := 0, locals := 0 } : Room) (bc_Pre (dC, dI) classes [(cI, .int), (cZ, .boolean)] [.int x] [] sz) (va_Qi (fun (r : Int32) (u : Unit) => (r = 1 ∧ (x = 0 ∨ x = 1)) ∨ (r = 0 ∧ ¬ (x = 0 ∨ x = 1))) (fun (u : Unit) t => bc_B (dC, dI) classes [(cI, .int), (cZ, .boolean)] (va_A [] sz) [] t) ((va_A [] sz))) 0 0 (va_A [] sz) := by
  refine bc_met (fun A => va_Qi (fun (r : Int32) (u : Unit) => (r = 1 ∧ (x = 0 ∨ x = 1)) ∨ (r = 0 ∧ ¬ (x = 0 ∨ x = 1))) (fun (u : Unit) t => bc_B (dC, dI) classes [(cI, .int), (cZ, .boolean)] A [] t) A) (by decide) (Nat.le_of_ble_eq_true rfl) ?_
  intro p e s m args below meth c A ls F hr hlocks hin hA hP hD hl hS
  have hx := F.1
  have hb := F.2.1
  have hml := F.2.2.1
  have hown : s.vm.findClass "BranchConstantsModel" = some m.cls := F.2.2.2.1
  have htw := F.2.2.2.2.1
  have hN := F.2.2.2.2.2.1
  have hK := F.2.2.2.2.2.2
  have hl : lv_has ls 1 [(0, .int x)] := hl
  refine lv_iload_n hx hb de_M_isSide_0 rfl (lv_at hl 0 rfl) ?_
  refine lv_if_eq (tgt := 9) hx hb de_M_isSide_1 (by decide) (fun hc_1 => ?_) (fun hc_1 => ?_)
  · refine lv_iconst (v := 1) hx hb de_M_isSide_9 (by decide) ?_
    refine lv_goto (tgt := 14) hx hb de_M_isSide_10 (by decide) ?_
    exact bc_zret F hr hlocks rfl (()) (Or.inl ⟨rfl, Or.inl hc_1⟩) hP hD hS de_M_isSide_14
  · refine lv_iload_n hx hb de_M_isSide_4 rfl (lv_at hl 0 rfl) ?_
    refine lv_iconst (v := 1) hx hb de_M_isSide_5 (by decide) ?_
    refine lv_icmp_ne (tgt := 13) hx hb de_M_isSide_6 (by decide) (fun hc_6 => ?_) (fun hc_6 => ?_)
    · refine lv_iconst (v := 0) hx hb de_M_isSide_13 (by decide) ?_
      exact bc_zret F hr hlocks rfl (()) (Or.inr ⟨rfl, fun z => z.elim hc_1 hc_6⟩) hP hD hS de_M_isSide_14
    · refine lv_iconst (v := 1) hx hb de_M_isSide_9 (by decide) ?_
      refine lv_goto (tgt := 14) hx hb de_M_isSide_10 (by decide) ?_
      exact bc_zret F hr hlocks rfl (()) (Or.inl ⟨rfl, Or.inr hc_6⟩) hP hD hS de_M_isSide_14

set_option maxHeartbeats 4000000 in
set_option maxRecDepth 100000 in
/-- has it a target -/
theorem co_M_goes {l : Launch} {dC : Nat → ClassId} {dI : Nat → Nat → Nat} {cI cZ : ClassId} {sz : Nat} {m0 r1 r2 r3 r4 r5 r6 r7 r8 r9 r10 r11 r12 r13 r14 r15 r16 : Nat} {K : bc_F} {fa rw gw : Int32} {i : Nat} (hi : i < 40) : Met l yn_M_goes (Cond.code yn_M_goes by_M_goes 2 (some FieldType.boolean) :: wd_all) ({ frames := 0, cells := 0, slots := 0, locals := 0 } : Room) (bc_Pre (dC, dI) classes [(cI, .int), (cZ, .boolean)] [.ref m0, .int (nI i)] [(m0, .inr (5, [.int fa, .ref r1, .ref r2, .ref r3, .ref r4, .ref r5, .int rw, .ref r6, .ref r7, .ref r8, .int gw, .ref r9, .ref r10, .ref r11, .ref r12, .ref r13, .ref r14, .ref r15, .ref r16])), (r1, .inl (cI, 80, .inl K))] sz) (va_Qi (fun (r : Int32) (u : Unit) => (r = 1 ∧ bc_gs (K (40 + i))) ∨ (r = 0 ∧ ¬ bc_gs (K (40 + i)))) (fun (u : Unit) t => bc_B (dC, dI) classes [(cI, .int), (cZ, .boolean)] (va_A [(m0, .inr (5, [.int fa, .ref r1, .ref r2, .ref r3, .ref r4, .ref r5, .int rw, .ref r6, .ref r7, .ref r8, .int gw, .ref r9, .ref r10, .ref r11, .ref r12, .ref r13, .ref r14, .ref r15, .ref r16])), (r1, .inl (cI, 80, .inl K))] sz) [(m0, .inr (5, [.int fa, .ref r1, .ref r2, .ref r3, .ref r4, .ref r5, .int rw, .ref r6, .ref r7, .ref r8, .int gw, .ref r9, .ref r10, .ref r11, .ref r12, .ref r13, .ref r14, .ref r15, .ref r16])), (r1, .inl (cI, 80, .inl K))] t) ((va_A [(m0, .inr (5, [.int fa, .ref r1, .ref r2, .ref r3, .ref r4, .ref r5, .int rw, .ref r6, .ref r7, .ref r8, .int gw, .ref r9, .ref r10, .ref r11, .ref r12, .ref r13, .ref r14, .ref r15, .ref r16])), (r1, .inl (cI, 80, .inl K))] sz))) 0 0 (va_A [(m0, .inr (5, [.int fa, .ref r1, .ref r2, .ref r3, .ref r4, .ref r5, .int rw, .ref r6, .ref r7, .ref r8, .int gw, .ref r9, .ref r10, .ref r11, .ref r12, .ref r13, .ref r14, .ref r15, .ref r16])), (r1, .inl (cI, 80, .inl K))] sz) := by
  refine bc_met (fun A => va_Qi (fun (r : Int32) (u : Unit) => (r = 1 ∧ bc_gs (K (40 + i))) ∨ (r = 0 ∧ ¬ bc_gs (K (40 + i)))) (fun (u : Unit) t => bc_B (dC, dI) classes [(cI, .int), (cZ, .boolean)] A [(m0, .inr (5, [.int fa, .ref r1, .ref r2, .ref r3, .ref r4, .ref r5, .int rw, .ref r6, .ref r7, .ref r8, .int gw, .ref r9, .ref r10, .ref r11, .ref r12, .ref r13, .ref r14, .ref r15, .ref r16])), (r1, .inl (cI, 80, .inl K))] t) A) (by decide) (Nat.le_of_ble_eq_true rfl) ?_
  intro p e s m args below meth c A ls F hr hlocks hin hA hP hD hl hS
  have hx := F.1
  have hb := F.2.1
  have hml := F.2.2.1
  have hown : s.vm.findClass "BranchConstantsModel" = some m.cls := F.2.2.2.1
  have htw := F.2.2.2.2.1
  have hN := F.2.2.2.2.2.1
  have hK := F.2.2.2.2.2.2
  have hl : lv_has ls 2 [(0, .ref m0), (1, .int (nI i))] := hl
  refine lv_aload_n hx hb de_M_goes_0 rfl (lv_at hl 0 rfl) ?_
  refine va_get (D := (dC, dI)) (ci := 5) (v := .ref r1) (C := rc_M) (T := fc_M) (N := 19) hx hb htw wi_M hown hK hP 0 rfl rfl 1 (by decide) (htw _ wm_424) (fun _ h9 => h9) rfl de_M_goes_1 ?_
  refine lv_bipush (v := 40) hx hb de_M_goes_4 (by decide) ?_
  refine lv_iload_n hx hb de_M_goes_6 rfl (lv_at hl 1 rfl) ?_
  refine lv_iadd hx hb de_M_goes_7 ?_
  refine bc_ti (y := nI (40 + i)) (nI_add 40 i) ?_
  refine bc_ild (j := 40 + i) hx hb hK hP 1 0 rfl rfl (by omega) (by decide) de_M_goes_8 ?_
  refine lv_bipush (v := 6) hx hb de_M_goes_9 (by decide) ?_
  refine lv_icmp_eq (tgt := 27) hx hb de_M_goes_11 (by decide) (fun hc_11 => ?_) (fun hc_11 => ?_)
  · refine lv_iconst (v := 1) hx hb de_M_goes_27 (by decide) ?_
    refine lv_goto (tgt := 32) hx hb de_M_goes_28 (by decide) ?_
    exact bc_zret F hr hlocks rfl (()) (Or.inl ⟨rfl, Or.inl hc_11⟩) hP hD hS de_M_goes_32
  · refine lv_aload_n hx hb de_M_goes_14 rfl (lv_at hl 0 rfl) ?_
    refine va_get (D := (dC, dI)) (ci := 5) (v := .ref r1) (C := rc_M) (T := fc_M) (N := 19) hx hb htw wi_M hown hK hP 0 rfl rfl 1 (by decide) (htw _ wm_424) (fun _ h9 => h9) rfl de_M_goes_15 ?_
    refine lv_bipush (v := 40) hx hb de_M_goes_18 (by decide) ?_
    refine lv_iload_n hx hb de_M_goes_20 rfl (lv_at hl 1 rfl) ?_
    refine lv_iadd hx hb de_M_goes_21 ?_
    refine bc_ti (y := nI (40 + i)) (nI_add 40 i) ?_
    refine bc_ild (j := 40 + i) hx hb hK hP 1 0 rfl rfl (by omega) (by decide) de_M_goes_22 ?_
    refine lv_iconst (v := 5) hx hb de_M_goes_23 (by decide) ?_
    refine lv_icmp_ne (tgt := 31) hx hb de_M_goes_24 (by decide) (fun hc_24 => ?_) (fun hc_24 => ?_)
    · refine lv_iconst (v := 0) hx hb de_M_goes_31 (by decide) ?_
      exact bc_zret F hr hlocks rfl (()) (Or.inr ⟨rfl, bc_gs_no hc_24 hc_11⟩) hP hD hS de_M_goes_32
    · refine lv_iconst (v := 1) hx hb de_M_goes_27 (by decide) ?_
      refine lv_goto (tgt := 32) hx hb de_M_goes_28 (by decide) ?_
      exact bc_zret F hr hlocks rfl (()) (Or.inl ⟨rfl, Or.inr hc_24⟩) hP hD hS de_M_goes_32

