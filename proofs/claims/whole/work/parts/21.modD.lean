/-! isInstruction, putAllOf, Arrays.fill (by program: wip/whole/gen/modD.py) -/
def bc_si (k o t z : Int32) : Prop := (k = 0 ∧ bc_vr o) ∨ (k = 1 ∧ bc_vr o ∧ bc_vr t) ∨ ((k = 2 ∨ k = 3 ∨ k = 4) ∧ bc_vr o ∧ bc_vr t ∧ bc_vr z) ∨ (k = 5 ∧ bc_vr o ∧ bc_tr t) ∨ (k = 6 ∧ bc_tr t) ∨ k = 7
theorem bc_lt {a b : Nat} (hb : b < 2 ^ 31) (ha : a < 2 ^ 31) (h : ¬ nI b ≤ nI a) : a < b := by
  rw [nI_leI hb ha] at h
  omega
theorem bc_ge {a b : Nat} (hb : b < 2 ^ 31) (ha : a < 2 ^ 31) (h : nI b ≤ nI a) : b ≤ a := by
  rw [nI_leI hb ha] at h
  exact h
set_option maxHeartbeats 4000000 in
set_option maxRecDepth 100000 in
/-- is it an instruction -/
theorem co_B_isInstruction {l : Launch} {dC : Nat → ClassId} {dI : Nat → Nat → Nat} {cI cZ : ClassId} {sz : Nat} {k o t z : Int32} : Met l yn_B_isInstruction (Cond.code yn_B_isInstruction by_B_isInstruction 4 (some FieldType.boolean) :: wd_all) ({ frames := 1, cells := 0, slots := 0, locals := 20 } : Room) (bc_Pre (dC, dI) classes [(cI, .int), (cZ, .boolean)] [.int k, .int o, .int t, .int z] [] sz) (va_Qi (fun (r : Int32) (u : Unit) => (r = 1 ∧ bc_si k o t z) ∨ (r = 0 ∧ ¬ bc_si k o t z)) (fun (u : Unit) t => bc_B (dC, dI) classes [(cI, .int), (cZ, .boolean)] (va_A [] sz) [] t) ((va_A [] sz))) 0 0 (va_A [] sz) := by
  refine bc_met (fun A => va_Qi (fun (r : Int32) (u : Unit) => (r = 1 ∧ bc_si k o t z) ∨ (r = 0 ∧ ¬ bc_si k o t z)) (fun (u : Unit) t => bc_B (dC, dI) classes [(cI, .int), (cZ, .boolean)] A [] t) A) (by decide) (Nat.le_of_ble_eq_true rfl) ?_
  intro p e s m args below meth c A ls F hr hlocks hin hA hP hD hl hS
  have hx := F.1
  have hb := F.2.1
  have hml := F.2.2.1
  have hown : s.vm.findClass "BranchConstants" = some m.cls := F.2.2.2.1
  have htw := F.2.2.2.2.1
  have hN := F.2.2.2.2.2.1
  have hK := F.2.2.2.2.2.2
  have hl : lv_has ls 4 [(0, .int k), (1, .int o), (2, .int t), (3, .int z)] := hl
  refine lv_iload_n hx hb de_B_isInstruction_0 rfl (lv_at hl 0 rfl) ?_
  by_cases hs_1_0 : k = 0
  · refine bc_ti hs_1_0 ?_
    refine lv_tableIn (off := 43) (tgt := 44) hx hb de_B_isInstruction_1 (by decide) (by decide) rfl (by decide) ?_
    refine lv_iload_n hx hb de_B_isInstruction_44 rfl (lv_at hl 1 rfl) ?_
    refine bc_call_s_i (As := [.int o]) (rest := []) (wr := []) F (co_B_isVariable) wm_186 wm_1 wm_184 wm_185 pd_B_isVariable rfl rfl ⟨Nat.le_of_ble_eq_true rfl, Nat.le_of_ble_eq_true rfl⟩ hP hD hS hA [] [] rfl rfl rfl rfl (by decide) rfl hl.1 rfl (Nat.le_of_ble_eq_true rfl) de_B_isInstruction_45 ⟨Nat.le_of_ble_eq_true rfl, Nat.le_of_ble_eq_true rfl⟩ (fun r_45 u_45 H locs hw_45 hP hD hS => ?_)
    have hP : va_P (dC, dI) classes [] H := hP.sub [] rfl
    have hD : va_D A [] := hD.sub [] (by decide) rfl
    rcases hw_45 with ⟨he_45, hv_45⟩ | ⟨he_45, hv_45⟩
    · subst he_45
      exact bc_zret F hr hlocks rfl (()) (by simp [bc_si, hs_1_0, hv_45]) hP hD hS de_B_isInstruction_48
    · subst he_45
      exact bc_zret F hr hlocks rfl (()) (by simp [bc_si, hs_1_0, hv_45]) hP hD hS de_B_isInstruction_48
  by_cases hs_1_1 : k = 1
  · refine bc_ti hs_1_1 ?_
    refine lv_tableIn (off := 48) (tgt := 49) hx hb de_B_isInstruction_1 (by decide) (by decide) rfl (by decide) ?_
    refine lv_iload_n hx hb de_B_isInstruction_49 rfl (lv_at hl 1 rfl) ?_
    refine bc_call_s_i (As := [.int o]) (rest := []) (wr := []) F (co_B_isVariable) wm_186 wm_1 wm_184 wm_185 pd_B_isVariable rfl rfl ⟨Nat.le_of_ble_eq_true rfl, Nat.le_of_ble_eq_true rfl⟩ hP hD hS hA [] [] rfl rfl rfl rfl (by decide) rfl hl.1 rfl (Nat.le_of_ble_eq_true rfl) de_B_isInstruction_50 ⟨Nat.le_of_ble_eq_true rfl, Nat.le_of_ble_eq_true rfl⟩ (fun r_50 u_50 H locs hw_50 hP hD hS => ?_)
    have hP : va_P (dC, dI) classes [] H := hP.sub [] rfl
    have hD : va_D A [] := hD.sub [] (by decide) rfl
    rcases hw_50 with ⟨he_50, hv_50⟩ | ⟨he_50, hv_50⟩
    · subst he_50
      refine lv_if_eq (tgt := 67) hx hb de_B_isInstruction_53 (by decide) (fun hc => absurd hc (by decide)) (fun _ => ?_)
      refine lv_iload_n hx hb de_B_isInstruction_56 rfl (lv_at hl 2 rfl) ?_
      refine bc_call_s_i (As := [.int t]) (rest := []) (wr := []) F (co_B_isVariable) wm_186 wm_1 wm_184 wm_185 pd_B_isVariable rfl rfl ⟨Nat.le_of_ble_eq_true rfl, Nat.le_of_ble_eq_true rfl⟩ hP hD hS hA [] [] rfl rfl rfl rfl (by decide) rfl hl.1 rfl (Nat.le_of_ble_eq_true rfl) de_B_isInstruction_57 ⟨Nat.le_of_ble_eq_true rfl, Nat.le_of_ble_eq_true rfl⟩ (fun r_57 u_57 H locs hw_57 hP hD hS => ?_)
      have hP : va_P (dC, dI) classes [] H := hP.sub [] rfl
      have hD : va_D A [] := hD.sub [] (by decide) rfl
      rcases hw_57 with ⟨he_57, hv_57⟩ | ⟨he_57, hv_57⟩
      · subst he_57
        refine lv_if_eq (tgt := 67) hx hb de_B_isInstruction_60 (by decide) (fun hc => absurd hc (by decide)) (fun _ => ?_)
        refine lv_iconst (v := 1) hx hb de_B_isInstruction_63 (by decide) ?_
        refine lv_goto (tgt := 68) hx hb de_B_isInstruction_64 (by decide) ?_
        exact bc_zret F hr hlocks rfl (()) (by simp [bc_si, hs_1_0, hs_1_1, hv_50, hv_57]) hP hD hS de_B_isInstruction_68
      · subst he_57
        refine lv_if_eq (tgt := 67) hx hb de_B_isInstruction_60 (by decide) (fun _ => ?_) (fun hc => absurd (by decide) hc)
        refine lv_iconst (v := 0) hx hb de_B_isInstruction_67 (by decide) ?_
        exact bc_zret F hr hlocks rfl (()) (by simp [bc_si, hs_1_0, hs_1_1, hv_50, hv_57]) hP hD hS de_B_isInstruction_68
    · subst he_50
      refine lv_if_eq (tgt := 67) hx hb de_B_isInstruction_53 (by decide) (fun _ => ?_) (fun hc => absurd (by decide) hc)
      refine lv_iconst (v := 0) hx hb de_B_isInstruction_67 (by decide) ?_
      exact bc_zret F hr hlocks rfl (()) (by simp [bc_si, hs_1_0, hs_1_1, hv_50]) hP hD hS de_B_isInstruction_68
  by_cases hs_1_2 : k = 2
  · refine bc_ti hs_1_2 ?_
    refine lv_tableIn (off := 68) (tgt := 69) hx hb de_B_isInstruction_1 (by decide) (by decide) rfl (by decide) ?_
    refine lv_iload_n hx hb de_B_isInstruction_69 rfl (lv_at hl 1 rfl) ?_
    refine bc_call_s_i (As := [.int o]) (rest := []) (wr := []) F (co_B_isVariable) wm_186 wm_1 wm_184 wm_185 pd_B_isVariable rfl rfl ⟨Nat.le_of_ble_eq_true rfl, Nat.le_of_ble_eq_true rfl⟩ hP hD hS hA [] [] rfl rfl rfl rfl (by decide) rfl hl.1 rfl (Nat.le_of_ble_eq_true rfl) de_B_isInstruction_70 ⟨Nat.le_of_ble_eq_true rfl, Nat.le_of_ble_eq_true rfl⟩ (fun r_70 u_70 H locs hw_70 hP hD hS => ?_)
    have hP : va_P (dC, dI) classes [] H := hP.sub [] rfl
    have hD : va_D A [] := hD.sub [] (by decide) rfl
    rcases hw_70 with ⟨he_70, hv_70⟩ | ⟨he_70, hv_70⟩
    · subst he_70
      refine lv_if_eq (tgt := 94) hx hb de_B_isInstruction_73 (by decide) (fun hc => absurd hc (by decide)) (fun _ => ?_)
      refine lv_iload_n hx hb de_B_isInstruction_76 rfl (lv_at hl 2 rfl) ?_
      refine bc_call_s_i (As := [.int t]) (rest := []) (wr := []) F (co_B_isVariable) wm_186 wm_1 wm_184 wm_185 pd_B_isVariable rfl rfl ⟨Nat.le_of_ble_eq_true rfl, Nat.le_of_ble_eq_true rfl⟩ hP hD hS hA [] [] rfl rfl rfl rfl (by decide) rfl hl.1 rfl (Nat.le_of_ble_eq_true rfl) de_B_isInstruction_77 ⟨Nat.le_of_ble_eq_true rfl, Nat.le_of_ble_eq_true rfl⟩ (fun r_77 u_77 H locs hw_77 hP hD hS => ?_)
      have hP : va_P (dC, dI) classes [] H := hP.sub [] rfl
      have hD : va_D A [] := hD.sub [] (by decide) rfl
      rcases hw_77 with ⟨he_77, hv_77⟩ | ⟨he_77, hv_77⟩
      · subst he_77
        refine lv_if_eq (tgt := 94) hx hb de_B_isInstruction_80 (by decide) (fun hc => absurd hc (by decide)) (fun _ => ?_)
        refine lv_iload_n hx hb de_B_isInstruction_83 rfl (lv_at hl 3 rfl) ?_
        refine bc_call_s_i (As := [.int z]) (rest := []) (wr := []) F (co_B_isVariable) wm_186 wm_1 wm_184 wm_185 pd_B_isVariable rfl rfl ⟨Nat.le_of_ble_eq_true rfl, Nat.le_of_ble_eq_true rfl⟩ hP hD hS hA [] [] rfl rfl rfl rfl (by decide) rfl hl.1 rfl (Nat.le_of_ble_eq_true rfl) de_B_isInstruction_84 ⟨Nat.le_of_ble_eq_true rfl, Nat.le_of_ble_eq_true rfl⟩ (fun r_84 u_84 H locs hw_84 hP hD hS => ?_)
        have hP : va_P (dC, dI) classes [] H := hP.sub [] rfl
        have hD : va_D A [] := hD.sub [] (by decide) rfl
        rcases hw_84 with ⟨he_84, hv_84⟩ | ⟨he_84, hv_84⟩
        · subst he_84
          refine lv_if_eq (tgt := 94) hx hb de_B_isInstruction_87 (by decide) (fun hc => absurd hc (by decide)) (fun _ => ?_)
          refine lv_iconst (v := 1) hx hb de_B_isInstruction_90 (by decide) ?_
          refine lv_goto (tgt := 95) hx hb de_B_isInstruction_91 (by decide) ?_
          exact bc_zret F hr hlocks rfl (()) (by simp [bc_si, hs_1_0, hs_1_1, hs_1_2, hv_70, hv_77, hv_84]) hP hD hS de_B_isInstruction_95
        · subst he_84
          refine lv_if_eq (tgt := 94) hx hb de_B_isInstruction_87 (by decide) (fun _ => ?_) (fun hc => absurd (by decide) hc)
          refine lv_iconst (v := 0) hx hb de_B_isInstruction_94 (by decide) ?_
          exact bc_zret F hr hlocks rfl (()) (by simp [bc_si, hs_1_0, hs_1_1, hs_1_2, hv_70, hv_77, hv_84]) hP hD hS de_B_isInstruction_95
      · subst he_77
        refine lv_if_eq (tgt := 94) hx hb de_B_isInstruction_80 (by decide) (fun _ => ?_) (fun hc => absurd (by decide) hc)
        refine lv_iconst (v := 0) hx hb de_B_isInstruction_94 (by decide) ?_
        exact bc_zret F hr hlocks rfl (()) (by simp [bc_si, hs_1_0, hs_1_1, hs_1_2, hv_70, hv_77]) hP hD hS de_B_isInstruction_95
    · subst he_70
      refine lv_if_eq (tgt := 94) hx hb de_B_isInstruction_73 (by decide) (fun _ => ?_) (fun hc => absurd (by decide) hc)
      refine lv_iconst (v := 0) hx hb de_B_isInstruction_94 (by decide) ?_
      exact bc_zret F hr hlocks rfl (()) (by simp [bc_si, hs_1_0, hs_1_1, hs_1_2, hv_70]) hP hD hS de_B_isInstruction_95
  by_cases hs_1_3 : k = 3
  · refine bc_ti hs_1_3 ?_
    refine lv_tableIn (off := 68) (tgt := 69) hx hb de_B_isInstruction_1 (by decide) (by decide) rfl (by decide) ?_
    refine lv_iload_n hx hb de_B_isInstruction_69 rfl (lv_at hl 1 rfl) ?_
    refine bc_call_s_i (As := [.int o]) (rest := []) (wr := []) F (co_B_isVariable) wm_186 wm_1 wm_184 wm_185 pd_B_isVariable rfl rfl ⟨Nat.le_of_ble_eq_true rfl, Nat.le_of_ble_eq_true rfl⟩ hP hD hS hA [] [] rfl rfl rfl rfl (by decide) rfl hl.1 rfl (Nat.le_of_ble_eq_true rfl) de_B_isInstruction_70 ⟨Nat.le_of_ble_eq_true rfl, Nat.le_of_ble_eq_true rfl⟩ (fun r_70 u_70 H locs hw_70 hP hD hS => ?_)
    have hP : va_P (dC, dI) classes [] H := hP.sub [] rfl
    have hD : va_D A [] := hD.sub [] (by decide) rfl
    rcases hw_70 with ⟨he_70, hv_70⟩ | ⟨he_70, hv_70⟩
    · subst he_70
      refine lv_if_eq (tgt := 94) hx hb de_B_isInstruction_73 (by decide) (fun hc => absurd hc (by decide)) (fun _ => ?_)
      refine lv_iload_n hx hb de_B_isInstruction_76 rfl (lv_at hl 2 rfl) ?_
      refine bc_call_s_i (As := [.int t]) (rest := []) (wr := []) F (co_B_isVariable) wm_186 wm_1 wm_184 wm_185 pd_B_isVariable rfl rfl ⟨Nat.le_of_ble_eq_true rfl, Nat.le_of_ble_eq_true rfl⟩ hP hD hS hA [] [] rfl rfl rfl rfl (by decide) rfl hl.1 rfl (Nat.le_of_ble_eq_true rfl) de_B_isInstruction_77 ⟨Nat.le_of_ble_eq_true rfl, Nat.le_of_ble_eq_true rfl⟩ (fun r_77 u_77 H locs hw_77 hP hD hS => ?_)
      have hP : va_P (dC, dI) classes [] H := hP.sub [] rfl
      have hD : va_D A [] := hD.sub [] (by decide) rfl
      rcases hw_77 with ⟨he_77, hv_77⟩ | ⟨he_77, hv_77⟩
      · subst he_77
        refine lv_if_eq (tgt := 94) hx hb de_B_isInstruction_80 (by decide) (fun hc => absurd hc (by decide)) (fun _ => ?_)
        refine lv_iload_n hx hb de_B_isInstruction_83 rfl (lv_at hl 3 rfl) ?_
        refine bc_call_s_i (As := [.int z]) (rest := []) (wr := []) F (co_B_isVariable) wm_186 wm_1 wm_184 wm_185 pd_B_isVariable rfl rfl ⟨Nat.le_of_ble_eq_true rfl, Nat.le_of_ble_eq_true rfl⟩ hP hD hS hA [] [] rfl rfl rfl rfl (by decide) rfl hl.1 rfl (Nat.le_of_ble_eq_true rfl) de_B_isInstruction_84 ⟨Nat.le_of_ble_eq_true rfl, Nat.le_of_ble_eq_true rfl⟩ (fun r_84 u_84 H locs hw_84 hP hD hS => ?_)
        have hP : va_P (dC, dI) classes [] H := hP.sub [] rfl
        have hD : va_D A [] := hD.sub [] (by decide) rfl
        rcases hw_84 with ⟨he_84, hv_84⟩ | ⟨he_84, hv_84⟩
        · subst he_84
          refine lv_if_eq (tgt := 94) hx hb de_B_isInstruction_87 (by decide) (fun hc => absurd hc (by decide)) (fun _ => ?_)
          refine lv_iconst (v := 1) hx hb de_B_isInstruction_90 (by decide) ?_
          refine lv_goto (tgt := 95) hx hb de_B_isInstruction_91 (by decide) ?_
          exact bc_zret F hr hlocks rfl (()) (by simp [bc_si, hs_1_0, hs_1_1, hs_1_2, hs_1_3, hv_70, hv_77, hv_84]) hP hD hS de_B_isInstruction_95
        · subst he_84
          refine lv_if_eq (tgt := 94) hx hb de_B_isInstruction_87 (by decide) (fun _ => ?_) (fun hc => absurd (by decide) hc)
          refine lv_iconst (v := 0) hx hb de_B_isInstruction_94 (by decide) ?_
          exact bc_zret F hr hlocks rfl (()) (by simp [bc_si, hs_1_0, hs_1_1, hs_1_2, hs_1_3, hv_70, hv_77, hv_84]) hP hD hS de_B_isInstruction_95
      · subst he_77
        refine lv_if_eq (tgt := 94) hx hb de_B_isInstruction_80 (by decide) (fun _ => ?_) (fun hc => absurd (by decide) hc)
        refine lv_iconst (v := 0) hx hb de_B_isInstruction_94 (by decide) ?_
        exact bc_zret F hr hlocks rfl (()) (by simp [bc_si, hs_1_0, hs_1_1, hs_1_2, hs_1_3, hv_70, hv_77]) hP hD hS de_B_isInstruction_95
    · subst he_70
      refine lv_if_eq (tgt := 94) hx hb de_B_isInstruction_73 (by decide) (fun _ => ?_) (fun hc => absurd (by decide) hc)
      refine lv_iconst (v := 0) hx hb de_B_isInstruction_94 (by decide) ?_
      exact bc_zret F hr hlocks rfl (()) (by simp [bc_si, hs_1_0, hs_1_1, hs_1_2, hs_1_3, hv_70]) hP hD hS de_B_isInstruction_95
  by_cases hs_1_4 : k = 4
  · refine bc_ti hs_1_4 ?_
    refine lv_tableIn (off := 68) (tgt := 69) hx hb de_B_isInstruction_1 (by decide) (by decide) rfl (by decide) ?_
    refine lv_iload_n hx hb de_B_isInstruction_69 rfl (lv_at hl 1 rfl) ?_
    refine bc_call_s_i (As := [.int o]) (rest := []) (wr := []) F (co_B_isVariable) wm_186 wm_1 wm_184 wm_185 pd_B_isVariable rfl rfl ⟨Nat.le_of_ble_eq_true rfl, Nat.le_of_ble_eq_true rfl⟩ hP hD hS hA [] [] rfl rfl rfl rfl (by decide) rfl hl.1 rfl (Nat.le_of_ble_eq_true rfl) de_B_isInstruction_70 ⟨Nat.le_of_ble_eq_true rfl, Nat.le_of_ble_eq_true rfl⟩ (fun r_70 u_70 H locs hw_70 hP hD hS => ?_)
    have hP : va_P (dC, dI) classes [] H := hP.sub [] rfl
    have hD : va_D A [] := hD.sub [] (by decide) rfl
    rcases hw_70 with ⟨he_70, hv_70⟩ | ⟨he_70, hv_70⟩
    · subst he_70
      refine lv_if_eq (tgt := 94) hx hb de_B_isInstruction_73 (by decide) (fun hc => absurd hc (by decide)) (fun _ => ?_)
      refine lv_iload_n hx hb de_B_isInstruction_76 rfl (lv_at hl 2 rfl) ?_
      refine bc_call_s_i (As := [.int t]) (rest := []) (wr := []) F (co_B_isVariable) wm_186 wm_1 wm_184 wm_185 pd_B_isVariable rfl rfl ⟨Nat.le_of_ble_eq_true rfl, Nat.le_of_ble_eq_true rfl⟩ hP hD hS hA [] [] rfl rfl rfl rfl (by decide) rfl hl.1 rfl (Nat.le_of_ble_eq_true rfl) de_B_isInstruction_77 ⟨Nat.le_of_ble_eq_true rfl, Nat.le_of_ble_eq_true rfl⟩ (fun r_77 u_77 H locs hw_77 hP hD hS => ?_)
      have hP : va_P (dC, dI) classes [] H := hP.sub [] rfl
      have hD : va_D A [] := hD.sub [] (by decide) rfl
      rcases hw_77 with ⟨he_77, hv_77⟩ | ⟨he_77, hv_77⟩
      · subst he_77
        refine lv_if_eq (tgt := 94) hx hb de_B_isInstruction_80 (by decide) (fun hc => absurd hc (by decide)) (fun _ => ?_)
        refine lv_iload_n hx hb de_B_isInstruction_83 rfl (lv_at hl 3 rfl) ?_
        refine bc_call_s_i (As := [.int z]) (rest := []) (wr := []) F (co_B_isVariable) wm_186 wm_1 wm_184 wm_185 pd_B_isVariable rfl rfl ⟨Nat.le_of_ble_eq_true rfl, Nat.le_of_ble_eq_true rfl⟩ hP hD hS hA [] [] rfl rfl rfl rfl (by decide) rfl hl.1 rfl (Nat.le_of_ble_eq_true rfl) de_B_isInstruction_84 ⟨Nat.le_of_ble_eq_true rfl, Nat.le_of_ble_eq_true rfl⟩ (fun r_84 u_84 H locs hw_84 hP hD hS => ?_)
        have hP : va_P (dC, dI) classes [] H := hP.sub [] rfl
        have hD : va_D A [] := hD.sub [] (by decide) rfl
        rcases hw_84 with ⟨he_84, hv_84⟩ | ⟨he_84, hv_84⟩
        · subst he_84
          refine lv_if_eq (tgt := 94) hx hb de_B_isInstruction_87 (by decide) (fun hc => absurd hc (by decide)) (fun _ => ?_)
          refine lv_iconst (v := 1) hx hb de_B_isInstruction_90 (by decide) ?_
          refine lv_goto (tgt := 95) hx hb de_B_isInstruction_91 (by decide) ?_
          exact bc_zret F hr hlocks rfl (()) (by simp [bc_si, hs_1_0, hs_1_1, hs_1_2, hs_1_3, hs_1_4, hv_70, hv_77, hv_84]) hP hD hS de_B_isInstruction_95
        · subst he_84
          refine lv_if_eq (tgt := 94) hx hb de_B_isInstruction_87 (by decide) (fun _ => ?_) (fun hc => absurd (by decide) hc)
          refine lv_iconst (v := 0) hx hb de_B_isInstruction_94 (by decide) ?_
          exact bc_zret F hr hlocks rfl (()) (by simp [bc_si, hs_1_0, hs_1_1, hs_1_2, hs_1_3, hs_1_4, hv_70, hv_77, hv_84]) hP hD hS de_B_isInstruction_95
      · subst he_77
        refine lv_if_eq (tgt := 94) hx hb de_B_isInstruction_80 (by decide) (fun _ => ?_) (fun hc => absurd (by decide) hc)
        refine lv_iconst (v := 0) hx hb de_B_isInstruction_94 (by decide) ?_
        exact bc_zret F hr hlocks rfl (()) (by simp [bc_si, hs_1_0, hs_1_1, hs_1_2, hs_1_3, hs_1_4, hv_70, hv_77]) hP hD hS de_B_isInstruction_95
    · subst he_70
      refine lv_if_eq (tgt := 94) hx hb de_B_isInstruction_73 (by decide) (fun _ => ?_) (fun hc => absurd (by decide) hc)
      refine lv_iconst (v := 0) hx hb de_B_isInstruction_94 (by decide) ?_
      exact bc_zret F hr hlocks rfl (()) (by simp [bc_si, hs_1_0, hs_1_1, hs_1_2, hs_1_3, hs_1_4, hv_70]) hP hD hS de_B_isInstruction_95
  by_cases hs_1_5 : k = 5
  · refine bc_ti hs_1_5 ?_
    refine lv_tableIn (off := 95) (tgt := 96) hx hb de_B_isInstruction_1 (by decide) (by decide) rfl (by decide) ?_
    refine lv_iload_n hx hb de_B_isInstruction_96 rfl (lv_at hl 1 rfl) ?_
    refine bc_call_s_i (As := [.int o]) (rest := []) (wr := []) F (co_B_isVariable) wm_186 wm_1 wm_184 wm_185 pd_B_isVariable rfl rfl ⟨Nat.le_of_ble_eq_true rfl, Nat.le_of_ble_eq_true rfl⟩ hP hD hS hA [] [] rfl rfl rfl rfl (by decide) rfl hl.1 rfl (Nat.le_of_ble_eq_true rfl) de_B_isInstruction_97 ⟨Nat.le_of_ble_eq_true rfl, Nat.le_of_ble_eq_true rfl⟩ (fun r_97 u_97 H locs hw_97 hP hD hS => ?_)
    have hP : va_P (dC, dI) classes [] H := hP.sub [] rfl
    have hD : va_D A [] := hD.sub [] (by decide) rfl
    rcases hw_97 with ⟨he_97, hv_97⟩ | ⟨he_97, hv_97⟩
    · subst he_97
      refine lv_if_eq (tgt := 114) hx hb de_B_isInstruction_100 (by decide) (fun hc => absurd hc (by decide)) (fun _ => ?_)
      refine lv_iload_n hx hb de_B_isInstruction_103 rfl (lv_at hl 2 rfl) ?_
      refine bc_call_s_i (As := [.int t]) (rest := []) (wr := []) F (co_B_isTarget) wm_189 wm_1 wm_187 wm_188 pd_B_isTarget rfl rfl ⟨Nat.le_of_ble_eq_true rfl, Nat.le_of_ble_eq_true rfl⟩ hP hD hS hA [] [] rfl rfl rfl rfl (by decide) rfl hl.1 rfl (Nat.le_of_ble_eq_true rfl) de_B_isInstruction_104 ⟨Nat.le_of_ble_eq_true rfl, Nat.le_of_ble_eq_true rfl⟩ (fun r_104 u_104 H locs hw_104 hP hD hS => ?_)
      have hP : va_P (dC, dI) classes [] H := hP.sub [] rfl
      have hD : va_D A [] := hD.sub [] (by decide) rfl
      rcases hw_104 with ⟨he_104, hv_104⟩ | ⟨he_104, hv_104⟩
      · subst he_104
        refine lv_if_eq (tgt := 114) hx hb de_B_isInstruction_107 (by decide) (fun hc => absurd hc (by decide)) (fun _ => ?_)
        refine lv_iconst (v := 1) hx hb de_B_isInstruction_110 (by decide) ?_
        refine lv_goto (tgt := 115) hx hb de_B_isInstruction_111 (by decide) ?_
        exact bc_zret F hr hlocks rfl (()) (by simp [bc_si, hs_1_0, hs_1_1, hs_1_2, hs_1_3, hs_1_4, hs_1_5, hv_97, hv_104]) hP hD hS de_B_isInstruction_115
      · subst he_104
        refine lv_if_eq (tgt := 114) hx hb de_B_isInstruction_107 (by decide) (fun _ => ?_) (fun hc => absurd (by decide) hc)
        refine lv_iconst (v := 0) hx hb de_B_isInstruction_114 (by decide) ?_
        exact bc_zret F hr hlocks rfl (()) (by simp [bc_si, hs_1_0, hs_1_1, hs_1_2, hs_1_3, hs_1_4, hs_1_5, hv_97, hv_104]) hP hD hS de_B_isInstruction_115
    · subst he_97
      refine lv_if_eq (tgt := 114) hx hb de_B_isInstruction_100 (by decide) (fun _ => ?_) (fun hc => absurd (by decide) hc)
      refine lv_iconst (v := 0) hx hb de_B_isInstruction_114 (by decide) ?_
      exact bc_zret F hr hlocks rfl (()) (by simp [bc_si, hs_1_0, hs_1_1, hs_1_2, hs_1_3, hs_1_4, hs_1_5, hv_97]) hP hD hS de_B_isInstruction_115
  by_cases hs_1_6 : k = 6
  · refine bc_ti hs_1_6 ?_
    refine lv_tableIn (off := 115) (tgt := 116) hx hb de_B_isInstruction_1 (by decide) (by decide) rfl (by decide) ?_
    refine lv_iload_n hx hb de_B_isInstruction_116 rfl (lv_at hl 2 rfl) ?_
    refine bc_call_s_i (As := [.int t]) (rest := []) (wr := []) F (co_B_isTarget) wm_189 wm_1 wm_187 wm_188 pd_B_isTarget rfl rfl ⟨Nat.le_of_ble_eq_true rfl, Nat.le_of_ble_eq_true rfl⟩ hP hD hS hA [] [] rfl rfl rfl rfl (by decide) rfl hl.1 rfl (Nat.le_of_ble_eq_true rfl) de_B_isInstruction_117 ⟨Nat.le_of_ble_eq_true rfl, Nat.le_of_ble_eq_true rfl⟩ (fun r_117 u_117 H locs hw_117 hP hD hS => ?_)
    have hP : va_P (dC, dI) classes [] H := hP.sub [] rfl
    have hD : va_D A [] := hD.sub [] (by decide) rfl
    rcases hw_117 with ⟨he_117, hv_117⟩ | ⟨he_117, hv_117⟩
    · subst he_117
      exact bc_zret F hr hlocks rfl (()) (by simp [bc_si, hs_1_0, hs_1_1, hs_1_2, hs_1_3, hs_1_4, hs_1_5, hs_1_6, hv_117]) hP hD hS de_B_isInstruction_120
    · subst he_117
      exact bc_zret F hr hlocks rfl (()) (by simp [bc_si, hs_1_0, hs_1_1, hs_1_2, hs_1_3, hs_1_4, hs_1_5, hs_1_6, hv_117]) hP hD hS de_B_isInstruction_120
  refine lv_tableOut (tgt := 121) hx hb de_B_isInstruction_1 (bc_to_0_6 hs_1_0 hs_1_1 hs_1_2 hs_1_3 hs_1_4 hs_1_5 hs_1_6) (by decide) ?_
  refine lv_iload_n hx hb de_B_isInstruction_121 rfl (lv_at hl 0 rfl) ?_
  refine lv_bipush (v := 7) hx hb de_B_isInstruction_122 (by decide) ?_
  refine lv_icmp_ne (tgt := 131) hx hb de_B_isInstruction_124 (by decide) (fun hc_124 => ?_) (fun hc_124 => ?_)
  · refine lv_iconst (v := 0) hx hb de_B_isInstruction_131 (by decide) ?_
    exact bc_zret F hr hlocks rfl (()) (by simp [bc_si, hs_1_0, hs_1_1, hs_1_2, hs_1_3, hs_1_4, hs_1_5, hs_1_6, hc_124]) hP hD hS de_B_isInstruction_132
  · refine lv_iconst (v := 1) hx hb de_B_isInstruction_127 (by decide) ?_
    refine lv_goto (tgt := 132) hx hb de_B_isInstruction_128 (by decide) ?_
    exact bc_zret F hr hlocks rfl (()) (by simp [bc_si, hs_1_0, hs_1_1, hs_1_2, hs_1_3, hs_1_4, hs_1_5, hs_1_6, hc_124]) hP hD hS de_B_isInstruction_132

theorem bc_all4 {i : Nat} {K1 O1 T1 Z1 a b d e : bc_F} (h : ∀ j, j < i → K1 j = a j ∧ O1 j = b j ∧ T1 j = d j ∧ Z1 j = e j) : ∀ j, j < i + 1 → upd K1 i (a i) j = a j ∧ upd O1 i (b i) j = b j ∧ upd T1 i (d i) j = d j ∧ upd Z1 i (e i) j = e j := by
  intro j hj
  by_cases c : j = i
  · subst c
    rw [pk_us, pk_us, pk_us, pk_us]
    exact ⟨rfl, rfl, rfl, rfl⟩
  · rw [pk_un c, pk_un c, pk_un c, pk_un c]
    exact h j (by omega)
set_option maxHeartbeats 4000000 in
set_option maxRecDepth 100000 in
/-- all of the other program -/
theorem co_C_putAllOf {l : Launch} {dC : Nat → ClassId} {dI : Nat → Nat → Nat} {cI cZ : ClassId} {sz : Nat} {h0 q1 q2 q3 q4 g0 q5 q6 q7 q8 n n2 : Nat} {K O T Z K2 O2 T2 Z2 : bc_F} (hn2 : n2 ≤ 40) : Met l yn_C_putAllOf (Cond.code yn_C_putAllOf by_C_putAllOf 3 none :: wd_all) ({ frames := 1, cells := 0, slots := 0, locals := 25 } : Room) (bc_Pre (dC, dI) classes [(cI, .int), (cZ, .boolean)] [.ref h0, .ref g0] [(h0, .inr (1, [.ref q1, .ref q2, .ref q3, .ref q4, .int (nI n)])), (q1, .inl (cI, 40, .inl K)), (q2, .inl (cI, 40, .inl O)), (q3, .inl (cI, 40, .inl T)), (q4, .inl (cI, 40, .inl Z)), (g0, .inr (1, [.ref q5, .ref q6, .ref q7, .ref q8, .int (nI n2)])), (q5, .inl (cI, 40, .inl K2)), (q6, .inl (cI, 40, .inl O2)), (q7, .inl (cI, 40, .inl T2)), (q8, .inl (cI, 40, .inl Z2))] sz) (va_Qv (fun (u : bc_F × bc_F × bc_F × bc_F) => ∀ j, j < n2 → u.1 j = K2 j ∧ u.2.1 j = bc_p1 (K2 j) (O2 j) ∧ u.2.2.1 j = bc_p2 (K2 j) (T2 j) ∧ u.2.2.2 j = bc_p3 (K2 j) (Z2 j)) (fun (u : bc_F × bc_F × bc_F × bc_F) t => bc_B (dC, dI) classes [(cI, .int), (cZ, .boolean)] (va_A [(h0, .inr (1, [.ref q1, .ref q2, .ref q3, .ref q4, .int (nI n)])), (q1, .inl (cI, 40, .inl K)), (q2, .inl (cI, 40, .inl O)), (q3, .inl (cI, 40, .inl T)), (q4, .inl (cI, 40, .inl Z)), (g0, .inr (1, [.ref q5, .ref q6, .ref q7, .ref q8, .int (nI n2)])), (q5, .inl (cI, 40, .inl K2)), (q6, .inl (cI, 40, .inl O2)), (q7, .inl (cI, 40, .inl T2)), (q8, .inl (cI, 40, .inl Z2))] sz) [(h0, .inr (1, [.ref q1, .ref q2, .ref q3, .ref q4, .int (nI n2)])), (q1, .inl (cI, 40, .inl u.1)), (q2, .inl (cI, 40, .inl u.2.1)), (q3, .inl (cI, 40, .inl u.2.2.1)), (q4, .inl (cI, 40, .inl u.2.2.2)), (g0, .inr (1, [.ref q5, .ref q6, .ref q7, .ref q8, .int (nI n2)])), (q5, .inl (cI, 40, .inl K2)), (q6, .inl (cI, 40, .inl O2)), (q7, .inl (cI, 40, .inl T2)), (q8, .inl (cI, 40, .inl Z2))] t) ((va_A [(h0, .inr (1, [.ref q1, .ref q2, .ref q3, .ref q4, .int (nI n)])), (q1, .inl (cI, 40, .inl K)), (q2, .inl (cI, 40, .inl O)), (q3, .inl (cI, 40, .inl T)), (q4, .inl (cI, 40, .inl Z)), (g0, .inr (1, [.ref q5, .ref q6, .ref q7, .ref q8, .int (nI n2)])), (q5, .inl (cI, 40, .inl K2)), (q6, .inl (cI, 40, .inl O2)), (q7, .inl (cI, 40, .inl T2)), (q8, .inl (cI, 40, .inl Z2))] sz))) 0 0 (va_A [(h0, .inr (1, [.ref q1, .ref q2, .ref q3, .ref q4, .int (nI n)])), (q1, .inl (cI, 40, .inl K)), (q2, .inl (cI, 40, .inl O)), (q3, .inl (cI, 40, .inl T)), (q4, .inl (cI, 40, .inl Z)), (g0, .inr (1, [.ref q5, .ref q6, .ref q7, .ref q8, .int (nI n2)])), (q5, .inl (cI, 40, .inl K2)), (q6, .inl (cI, 40, .inl O2)), (q7, .inl (cI, 40, .inl T2)), (q8, .inl (cI, 40, .inl Z2))] sz) := by
  refine bc_met (fun A => va_Qv (fun (u : bc_F × bc_F × bc_F × bc_F) => ∀ j, j < n2 → u.1 j = K2 j ∧ u.2.1 j = bc_p1 (K2 j) (O2 j) ∧ u.2.2.1 j = bc_p2 (K2 j) (T2 j) ∧ u.2.2.2 j = bc_p3 (K2 j) (Z2 j)) (fun (u : bc_F × bc_F × bc_F × bc_F) t => bc_B (dC, dI) classes [(cI, .int), (cZ, .boolean)] A [(h0, .inr (1, [.ref q1, .ref q2, .ref q3, .ref q4, .int (nI n2)])), (q1, .inl (cI, 40, .inl u.1)), (q2, .inl (cI, 40, .inl u.2.1)), (q3, .inl (cI, 40, .inl u.2.2.1)), (q4, .inl (cI, 40, .inl u.2.2.2)), (g0, .inr (1, [.ref q5, .ref q6, .ref q7, .ref q8, .int (nI n2)])), (q5, .inl (cI, 40, .inl K2)), (q6, .inl (cI, 40, .inl O2)), (q7, .inl (cI, 40, .inl T2)), (q8, .inl (cI, 40, .inl Z2))] t) A) (by decide) (Nat.le_of_ble_eq_true rfl) ?_
  intro p e s m args below meth c A ls F hr hlocks hin hA hP hD hl hS
  have hx := F.1
  have hb := F.2.1
  have hml := F.2.2.1
  have hown : s.vm.findClass "BranchConstants$Code" = some m.cls := F.2.2.2.1
  have htw := F.2.2.2.2.1
  have hN := F.2.2.2.2.2.1
  have hK := F.2.2.2.2.2.2
  have hl : lv_has ls 3 [(0, .ref h0), (1, .ref g0)] := hl
  refine lv_aload_n hx hb de_C_putAllOf_0 rfl (lv_at hl 0 rfl) ?_
  refine lv_aload_n hx hb de_C_putAllOf_1 rfl (lv_at hl 1 rfl) ?_
  refine va_get (D := (dC, dI)) (ci := 1) (v := .int (nI n2)) (C := rc_C) (T := fc_C) (N := 5) hx hb htw wi_C hown hK hP 5 rfl rfl 4 (by decide) (htw _ wm_32) (fun _ h9 => h9) rfl de_C_putAllOf_2 ?_
  refine va_put (D := (dC, dI)) (ci := 1) (v := .int (nI n2)) (ty := .int) (C := rc_C) (T := fc_C) (N := 5) hx hb htw wi_C tc_C tc_C_ok nc_C hown hK hP hD hS 0 rfl rfl 4 (by decide) (htw _ wm_32) (fun _ h9 => h9) rfl (by decide +kernel) rfl rfl (Nat.le_of_ble_eq_true rfl) de_C_putAllOf_5 (fun H locs hP hD hS => ?_)
  have hP : va_P (dC, dI) classes [(h0, .inr (1, [.ref q1, .ref q2, .ref q3, .ref q4, .int (nI n2)])), (q1, .inl (cI, 40, .inl K)), (q2, .inl (cI, 40, .inl O)), (q3, .inl (cI, 40, .inl T)), (q4, .inl (cI, 40, .inl Z)), (g0, .inr (1, [.ref q5, .ref q6, .ref q7, .ref q8, .int (nI n2)])), (q5, .inl (cI, 40, .inl K2)), (q6, .inl (cI, 40, .inl O2)), (q7, .inl (cI, 40, .inl T2)), (q8, .inl (cI, 40, .inl Z2))] H := hP
  have hD : va_D A [(h0, .inr (1, [.ref q1, .ref q2, .ref q3, .ref q4, .int (nI n2)])), (q1, .inl (cI, 40, .inl K)), (q2, .inl (cI, 40, .inl O)), (q3, .inl (cI, 40, .inl T)), (q4, .inl (cI, 40, .inl Z)), (g0, .inr (1, [.ref q5, .ref q6, .ref q7, .ref q8, .int (nI n2)])), (q5, .inl (cI, 40, .inl K2)), (q6, .inl (cI, 40, .inl O2)), (q7, .inl (cI, 40, .inl T2)), (q8, .inl (cI, 40, .inl Z2))] := hD
  refine lv_iconst (v := 0) hx hb de_C_putAllOf_8 (by decide) ?_
  refine bc_ti (y := nI 0) nI_0.symm ?_
  refine lv_istore_n (lv' := [(2, .int (nI 0)), (0, .ref h0), (1, .ref g0)]) hx hb de_C_putAllOf_9 rfl hl (by decide) rfl (fun ls hl => ?_)
  refine bc_loop (fun k_10 H locs ls => ∃ (i : Nat) (K1 : bc_F) (O1 : bc_F) (T1 : bc_F) (Z1 : bc_F), lv_has ls 3 [(2, .int (nI i)), (0, .ref h0), (1, .ref g0)] ∧ va_P (dC, dI) classes [(h0, .inr (1, [.ref q1, .ref q2, .ref q3, .ref q4, .int (nI n2)])), (q1, .inl (cI, 40, .inl K1)), (q2, .inl (cI, 40, .inl O1)), (q3, .inl (cI, 40, .inl T1)), (q4, .inl (cI, 40, .inl Z1)), (g0, .inr (1, [.ref q5, .ref q6, .ref q7, .ref q8, .int (nI n2)])), (q5, .inl (cI, 40, .inl K2)), (q6, .inl (cI, 40, .inl O2)), (q7, .inl (cI, 40, .inl T2)), (q8, .inl (cI, 40, .inl Z2))] H ∧ va_D A [(h0, .inr (1, [.ref q1, .ref q2, .ref q3, .ref q4, .int (nI n2)])), (q1, .inl (cI, 40, .inl K1)), (q2, .inl (cI, 40, .inl O1)), (q3, .inl (cI, 40, .inl T1)), (q4, .inl (cI, 40, .inl Z1)), (g0, .inr (1, [.ref q5, .ref q6, .ref q7, .ref q8, .int (nI n2)])), (q5, .inl (cI, 40, .inl K2)), (q6, .inl (cI, 40, .inl O2)), (q7, .inl (cI, 40, .inl T2)), (q8, .inl (cI, 40, .inl Z2))] ∧ va_S A s.heap H locs ∧ k_10 = n2 - i ∧ (i ≤ n2) ∧ (∀ j, j < i → K1 j = K2 j ∧ O1 j = bc_p1 (K2 j) (O2 j) ∧ T1 j = bc_p2 (K2 j) (T2 j) ∧ Z1 j = bc_p3 (K2 j) (Z2 j))) ?_ ?_
  · rintro k_10 H locs ls ⟨i, K1, O1, T1, Z1, hl, hP, hD, hS, hk_10, hi, hJ⟩ ih_10
    refine lv_iload_n hx hb de_C_putAllOf_10 rfl (lv_at hl 0 rfl) ?_
    refine lv_aload_n hx hb de_C_putAllOf_11 rfl (lv_at hl 1 rfl) ?_
    refine va_get (D := (dC, dI)) (ci := 1) (v := .int (nI n2)) (C := rc_C) (T := fc_C) (N := 5) hx hb htw wi_C hown hK hP 0 rfl rfl 4 (by decide) (htw _ wm_32) (fun _ h9 => h9) rfl de_C_putAllOf_12 ?_
    refine lv_icmp_ge (tgt := 53) hx hb de_C_putAllOf_15 (by decide) (fun hc_15 => ?_) (fun hc_15 => ?_)
    · have heq : i = n2 := by have := bc_ge (by omega) (by omega) hc_15; omega
      subst heq
      exact bc_vret F hr hlocks ((K1, O1, T1, Z1)) hJ hP hD hS de_C_putAllOf_53
    · have hlt : i < n2 := bc_lt (by omega) (by omega) hc_15
      refine lv_aload_n hx hb de_C_putAllOf_18 rfl (lv_at hl 1 rfl) ?_
      refine lv_iload_n hx hb de_C_putAllOf_19 rfl (lv_at hl 0 rfl) ?_
      refine lv_aload_n hx hb de_C_putAllOf_20 rfl (lv_at hl 2 rfl) ?_
      refine va_get (D := (dC, dI)) (ci := 1) (v := .ref q5) (C := rc_C) (T := fc_C) (N := 5) hx hb htw wi_C hown hK hP 5 rfl rfl 0 (by decide) (htw _ wm_28) (fun _ h9 => h9) rfl de_C_putAllOf_21 ?_
      refine lv_iload_n hx hb de_C_putAllOf_24 rfl (lv_at hl 0 rfl) ?_
      refine bc_ild (j := i) hx hb hK hP 6 0 rfl rfl (by omega) (by decide) de_C_putAllOf_25 ?_
      refine lv_aload_n hx hb de_C_putAllOf_26 rfl (lv_at hl 2 rfl) ?_
      refine va_get (D := (dC, dI)) (ci := 1) (v := .ref q6) (C := rc_C) (T := fc_C) (N := 5) hx hb htw wi_C hown hK hP 5 rfl rfl 1 (by decide) (htw _ wm_29) (fun _ h9 => h9) rfl de_C_putAllOf_27 ?_
      refine lv_iload_n hx hb de_C_putAllOf_30 rfl (lv_at hl 0 rfl) ?_
      refine bc_ild (j := i) hx hb hK hP 7 0 rfl rfl (by omega) (by decide) de_C_putAllOf_31 ?_
      refine lv_aload_n hx hb de_C_putAllOf_32 rfl (lv_at hl 2 rfl) ?_
      refine va_get (D := (dC, dI)) (ci := 1) (v := .ref q7) (C := rc_C) (T := fc_C) (N := 5) hx hb htw wi_C hown hK hP 5 rfl rfl 2 (by decide) (htw _ wm_30) (fun _ h9 => h9) rfl de_C_putAllOf_33 ?_
      refine lv_iload_n hx hb de_C_putAllOf_36 rfl (lv_at hl 0 rfl) ?_
      refine bc_ild (j := i) hx hb hK hP 8 0 rfl rfl (by omega) (by decide) de_C_putAllOf_37 ?_
      refine lv_aload_n hx hb de_C_putAllOf_38 rfl (lv_at hl 2 rfl) ?_
      refine va_get (D := (dC, dI)) (ci := 1) (v := .ref q8) (C := rc_C) (T := fc_C) (N := 5) hx hb htw wi_C hown hK hP 5 rfl rfl 3 (by decide) (htw _ wm_31) (fun _ h9 => h9) rfl de_C_putAllOf_39 ?_
      refine lv_iload_n hx hb de_C_putAllOf_42 rfl (lv_at hl 0 rfl) ?_
      refine bc_ild (j := i) hx hb hK hP 9 0 rfl rfl (by omega) (by decide) de_C_putAllOf_43 ?_
      refine bc_call_v_v (As := [.int (nI i), .int (K2 i), .int (O2 i), .int (T2 i), .int (Z2 i)]) (rest := []) (wr := [(g0, .inr (1, [.ref q5, .ref q6, .ref q7, .ref q8, .int (nI n2)])), (q5, .inl (cI, 40, .inl K2)), (q6, .inl (cI, 40, .inl O2)), (q7, .inl (cI, 40, .inl T2)), (q8, .inl (cI, 40, .inl Z2))]) F (co_C_put (by omega)) wm_255 wm_2 wm_317 wm_254 wm_608 0 rfl rfl pd_C_put rfl rfl ⟨Nat.le_of_ble_eq_true rfl, Nat.le_of_ble_eq_true rfl⟩ hP hD hS hA [0, 1, 2, 3, 4] [5, 6, 7, 8, 9] rfl rfl rfl rfl (by decide) rfl hl.1 rfl (Nat.le_of_ble_eq_true rfl) de_C_putAllOf_44 ⟨Nat.le_of_ble_eq_true rfl, Nat.le_of_ble_eq_true rfl⟩ (fun u_44 H locs hw_44 hP hD hS => ?_)
      subst hw_44
      have hP : va_P (dC, dI) classes [(h0, .inr (1, [.ref q1, .ref q2, .ref q3, .ref q4, .int (nI n2)])), (q1, .inl (cI, 40, .inl (upd K1 i (K2 i)))), (q2, .inl (cI, 40, .inl (upd O1 i (bc_p1 (K2 i) (O2 i))))), (q3, .inl (cI, 40, .inl (upd T1 i (bc_p2 (K2 i) (T2 i))))), (q4, .inl (cI, 40, .inl (upd Z1 i (bc_p3 (K2 i) (Z2 i))))), (g0, .inr (1, [.ref q5, .ref q6, .ref q7, .ref q8, .int (nI n2)])), (q5, .inl (cI, 40, .inl K2)), (q6, .inl (cI, 40, .inl O2)), (q7, .inl (cI, 40, .inl T2)), (q8, .inl (cI, 40, .inl Z2))] H := hP.sub [5, 6, 7, 8, 9, 0, 1, 2, 3, 4] rfl
      have hD : va_D A [(h0, .inr (1, [.ref q1, .ref q2, .ref q3, .ref q4, .int (nI n2)])), (q1, .inl (cI, 40, .inl (upd K1 i (K2 i)))), (q2, .inl (cI, 40, .inl (upd O1 i (bc_p1 (K2 i) (O2 i))))), (q3, .inl (cI, 40, .inl (upd T1 i (bc_p2 (K2 i) (T2 i))))), (q4, .inl (cI, 40, .inl (upd Z1 i (bc_p3 (K2 i) (Z2 i))))), (g0, .inr (1, [.ref q5, .ref q6, .ref q7, .ref q8, .int (nI n2)])), (q5, .inl (cI, 40, .inl K2)), (q6, .inl (cI, 40, .inl O2)), (q7, .inl (cI, 40, .inl T2)), (q8, .inl (cI, 40, .inl Z2))] := hD.sub [5, 6, 7, 8, 9, 0, 1, 2, 3, 4] (by decide) rfl
      refine lv_iinc (k := 0) (v := nI (i + 1)) (lv' := [(2, .int (nI (i + 1))), (0, .ref h0), (1, .ref g0)]) hx hb de_C_putAllOf_47 hl rfl (bc_inc _) (by decide) rfl (fun ls hl => ?_)
      refine lv_goto (tgt := 10) hx hb de_C_putAllOf_50 (by decide) ?_
      exact ih_10 _ _ _ _ (by omega) ⟨(i + 1), upd K1 i (K2 i), upd O1 i (bc_p1 (K2 i) (O2 i)), upd T1 i (bc_p2 (K2 i) (T2 i)), upd Z1 i (bc_p3 (K2 i) (Z2 i)), lv_sub hl [0, 1, 2] rfl, hP, hD, hS, rfl, (by omega), bc_all4 hJ⟩
  · exact ⟨_, 0, K, O, T, Z, lv_sub hl [0, 1, 2] rfl, hP, hD, hS, rfl, Nat.zero_le _, fun j hj => absurd hj (Nat.not_lt_zero j)⟩

theorem bc_all1 {i : Nat} {f : bc_F} {x : Int32} (h : ∀ j, j < i → f j = x) : ∀ j, j < i + 1 → upd f i x j = x := by
  intro j hj
  by_cases c : j = i
  · subst c; rw [pk_us]
  · rw [pk_un c]; exact h j (by omega)
theorem de_J_fill_0 : decode by_J_fill 0 = .ok (.iconst 0, 1) := by decide +kernel
theorem de_J_fill_1 : decode by_J_fill 1 = .ok (.istore_n 2, 1) := by decide +kernel
theorem de_J_fill_2 : decode by_J_fill 2 = .ok (.aload_n 0, 1) := by decide +kernel
theorem de_J_fill_3 : decode by_J_fill 3 = .ok (.arraylength, 1) := by decide +kernel
theorem de_J_fill_4 : decode by_J_fill 4 = .ok (.istore_n 3, 1) := by decide +kernel
theorem de_J_fill_5 : decode by_J_fill 5 = .ok (.iload_n 2, 1) := by decide +kernel
theorem de_J_fill_6 : decode by_J_fill 6 = .ok (.iload_n 3, 1) := by decide +kernel
theorem de_J_fill_7 : decode by_J_fill 7 = .ok (.if_icmp .ge 13, 3) := by decide +kernel
theorem de_J_fill_10 : decode by_J_fill 10 = .ok (.aload_n 0, 1) := by decide +kernel
theorem de_J_fill_11 : decode by_J_fill 11 = .ok (.iload_n 2, 1) := by decide +kernel
theorem de_J_fill_12 : decode by_J_fill 12 = .ok (.iload_n 1, 1) := by decide +kernel
theorem de_J_fill_13 : decode by_J_fill 13 = .ok (.iastore, 1) := by decide +kernel
theorem de_J_fill_14 : decode by_J_fill 14 = .ok (.iinc 2 1, 3) := by decide +kernel
theorem de_J_fill_17 : decode by_J_fill 17 = .ok (.goto (-12), 3) := by decide +kernel
theorem de_J_fill_20 : decode by_J_fill 20 = .ok (.return_, 1) := by decide +kernel
set_option maxHeartbeats 4000000 in
set_option maxRecDepth 100000 in
/-- Arrays.fill -/
theorem co_J_fill {l : Launch} {dC : Nat → ClassId} {dI : Nat → Nat → Nat} {cI cZ : ClassId} {sz : Nat} {q1 n : Nat} {f : bc_F} {x : Int32} (hn : n < 2 ^ 31) : Met l yn_J_fill (Cond.code yn_J_fill by_J_fill 4 none :: wd_all) ({ frames := 0, cells := 0, slots := 0, locals := 0 } : Room) (bc_Pre (dC, dI) classes [(cI, .int), (cZ, .boolean)] [.ref q1, .int x] [(q1, .inl (cI, n, .inl f))] sz) (va_Qv (fun (u : bc_F) => ∀ j, j < n → u j = x) (fun (u : bc_F) t => bc_B (dC, dI) classes [(cI, .int), (cZ, .boolean)] (va_A [(q1, .inl (cI, n, .inl f))] sz) [(q1, .inl (cI, n, .inl u))] t) ((va_A [(q1, .inl (cI, n, .inl f))] sz))) 0 0 (va_A [(q1, .inl (cI, n, .inl f))] sz) := by
  refine bc_met (fun A => va_Qv (fun (u : bc_F) => ∀ j, j < n → u j = x) (fun (u : bc_F) t => bc_B (dC, dI) classes [(cI, .int), (cZ, .boolean)] A [(q1, .inl (cI, n, .inl u))] t) A) (by decide) (Nat.le_of_ble_eq_true rfl) ?_
  intro p e s m args below meth c A ls F hr hlocks hin hA hP hD hl hS
  have hx := F.1
  have hb := F.2.1
  have hml := F.2.2.1
  have hown : s.vm.findClass "java/util/Arrays" = some m.cls := F.2.2.2.1
  have htw := F.2.2.2.2.1
  have hN := F.2.2.2.2.2.1
  have hK := F.2.2.2.2.2.2
  have hl : lv_has ls 4 [(0, .ref q1), (1, .int x)] := hl
  refine lv_iconst (v := 0) hx hb de_J_fill_0 (by decide) ?_
  refine bc_ti (y := nI 0) nI_0.symm ?_
  refine lv_istore_n (lv' := [(2, .int (nI 0)), (0, .ref q1), (1, .int x)]) hx hb de_J_fill_1 rfl hl (by decide) rfl (fun ls hl => ?_)
  refine lv_aload_n hx hb de_J_fill_2 rfl (lv_at hl 1 rfl) ?_
  refine va_alen (v := nI n) hx hb hK hP 0 0 rfl rfl rfl de_J_fill_3 ?_
  refine lv_istore_n (lv' := [(3, .int (nI n)), (2, .int (nI 0)), (0, .ref q1), (1, .int x)]) hx hb de_J_fill_4 rfl hl (by decide) rfl (fun ls hl => ?_)
  refine bc_loop (fun k_5 H locs ls => ∃ (i : Nat) (f1 : bc_F), lv_has ls 4 [(3, .int (nI n)), (2, .int (nI i)), (0, .ref q1), (1, .int x)] ∧ va_P (dC, dI) classes [(q1, .inl (cI, n, .inl f1))] H ∧ va_D A [(q1, .inl (cI, n, .inl f1))] ∧ va_S A s.heap H locs ∧ k_5 = n - i ∧ (i ≤ n) ∧ (∀ j, j < i → f1 j = x)) ?_ ?_
  · rintro k_5 H locs ls ⟨i, f1, hl, hP, hD, hS, hk_5, hi, hJ⟩ ih_5
    refine lv_iload_n hx hb de_J_fill_5 rfl (lv_at hl 1 rfl) ?_
    refine lv_iload_n hx hb de_J_fill_6 rfl (lv_at hl 0 rfl) ?_
    refine lv_icmp_ge (tgt := 20) hx hb de_J_fill_7 (by decide) (fun hc_7 => ?_) (fun hc_7 => ?_)
    · have heq : i = n := by have := bc_ge (by omega) (by omega) hc_7; omega
      subst heq
      exact bc_vret F hr hlocks f1 hJ hP hD hS de_J_fill_20
    · have hlt : i < n := bc_lt (by omega) (by omega) hc_7
      refine lv_aload_n hx hb de_J_fill_10 rfl (lv_at hl 2 rfl) ?_
      refine lv_iload_n hx hb de_J_fill_11 rfl (lv_at hl 1 rfl) ?_
      refine lv_iload_n hx hb de_J_fill_12 rfl (lv_at hl 3 rfl) ?_
      refine bc_ist (j := i) hx hb hK hP hD hS 0 0 rfl rfl hlt hn de_J_fill_13 (fun H locs hP hD hS => ?_)
      have hP : va_P (dC, dI) classes [(q1, .inl (cI, n, .inl (upd f1 i x)))] H := hP
      have hD : va_D A [(q1, .inl (cI, n, .inl (upd f1 i x)))] := hD
      refine lv_iinc (k := 1) (v := nI (i + 1)) (lv' := [(2, .int (nI (i + 1))), (3, .int (nI n)), (0, .ref q1), (1, .int x)]) hx hb de_J_fill_14 hl rfl (bc_inc _) (by decide) rfl (fun ls hl => ?_)
      refine lv_goto (tgt := 5) hx hb de_J_fill_17 (by decide) ?_
      exact ih_5 _ _ _ _ (by omega) ⟨(i + 1), upd f1 i x, lv_sub hl [1, 0, 2, 3] rfl, hP, hD, hS, rfl, (by omega), bc_all1 hJ⟩
  · exact ⟨_, 0, f, lv_sub hl [0, 1, 2, 3] rfl, hP, hD, hS, rfl, Nat.zero_le _, fun j hj => absurd hj (Nat.not_lt_zero j)⟩

