/-! Analysis: the small methods (by program: wip/whole/gen/modA.py) -/
theorem bc_wi_t {k o t z : Int32} (hw : bc_wi k o t z) (h4 : k ≤ 4) (h0 : ¬ k = 0) : bc_vr t := by
  rcases hw with ⟨e, _⟩ | ⟨_, _, e, _⟩ | ⟨_, _, e, _⟩ | ⟨e, _⟩ | ⟨e, _⟩ | ⟨e, _⟩
  · exact absurd e h0
  · exact e
  · exact e
  · rw [e] at h4; exact absurd h4 (by decide)
  · rw [e] at h4; exact absurd h4 (by decide)
  · rw [e] at h4; exact absurd h4 (by decide)
theorem bc_wi_z {k o t z : Int32} (hw : bc_wi k o t z) (h4 : k ≤ 4) (h0 : ¬ k = 0) (h1 : ¬ k = 1) : bc_vr z := by
  rcases hw with ⟨e, _⟩ | ⟨e, _⟩ | ⟨_, _, _, e⟩ | ⟨e, _⟩ | ⟨e, _⟩ | ⟨e, _⟩
  · exact absurd e h0
  · exact absurd e h1
  · exact e
  · rw [e] at h4; exact absurd h4 (by decide)
  · rw [e] at h4; exact absurd h4 (by decide)
  · rw [e] at h4; exact absurd h4 (by decide)
theorem bc_wi_5 {k o t z : Int32} (hw : bc_wi k o t z) (h5 : k = 5) : bc_vr o ∧ bc_tr t := by
  rcases hw with ⟨e, _⟩ | ⟨e, _⟩ | ⟨e, _⟩ | ⟨_, e, e2, _⟩ | ⟨e, _⟩ | ⟨e, _⟩
  · rw [h5] at e; exact absurd e (by decide)
  · rw [h5] at e; exact absurd e (by decide)
  · rw [h5] at e; exact absurd e (by decide)
  · exact ⟨e, e2⟩
  · rw [h5] at e; exact absurd e (by decide)
  · rw [h5] at e; exact absurd e (by decide)
theorem bc_wi_6 {k o t z : Int32} (hw : bc_wi k o t z) (h6 : k = 6) : bc_tr t := by
  rcases hw with ⟨e, _⟩ | ⟨e, _⟩ | ⟨e, _⟩ | ⟨e, _⟩ | ⟨_, _, e, _⟩ | ⟨e, _⟩
  · rw [h6] at e; exact absurd e (by decide)
  · rw [h6] at e; exact absurd e (by decide)
  · rw [h6] at e; exact absurd e (by decide)
  · rw [h6] at e; exact absurd e (by decide)
  · exact e
  · rw [h6] at e; exact absurd e (by decide)
theorem bc_cl6 {x : Int32} {j : Nat} (h : x = nI j) (hj : j < 6) : x.toNatClampNeg = j := by rw [h]; exact nI_clamp (by omega)
theorem bc_rs_0 {K T Z : bc_F} {i : Nat} {r : bc_R} (h : K i = 0) : bc_rs K T Z i r = some (T i) := by unfold bc_rs; rw [if_pos h]
theorem bc_rs_1 {K T Z : bc_F} {i tt : Nat} {r : bc_R} (h : K i = 1) (eT : T i = nI tt) (ht : tt < 6) : bc_rs K T Z i r = r tt := by
  unfold bc_rs
  rw [if_neg (by rw [h]; decide), if_pos h, bc_cl6 eT ht]
theorem bc_rs_m {K T Z : bc_F} {i tt zz : Nat} {r : bc_R} (h : K i = 4) (eT : T i = nI tt) (ht : tt < 6) (eZ : Z i = nI zz) (hz : zz < 6) (h0 : r tt = some 0 ∨ r zz = some 0) : bc_rs K T Z i r = some 0 := by
  unfold bc_rs
  rw [if_neg (by rw [h]; decide), if_neg (by rw [h]; decide), bc_cl6 eT ht, bc_cl6 eZ hz, if_pos ⟨h, h0⟩]
theorem bc_rs_g {K T Z : bc_F} {i tt zz : Nat} {r : bc_R} (h0 : ¬ K i = 0) (h1 : ¬ K i = 1) (eT : T i = nI tt) (ht : tt < 6) (eZ : Z i = nI zz) (hz : zz < 6) (h4 : ¬ (K i = 4 ∧ (r tt = some 0 ∨ r zz = some 0))) : bc_rs K T Z i r = (match r tt, r zz with | some a, some b => some (bc_ar (K i) a b) | _, _ => none) := by
  unfold bc_rs
  rw [if_neg h0, if_neg h1, bc_cl6 eT ht, bc_cl6 eZ hz, if_neg h4]
  cases r tt <;> cases r zz <;> rfl
theorem bc_z0 {r : bc_R} {v : Nat} : (bc_s0 (some r) v = 2 ∧ bc_c0 (some r) v = 0) ↔ r v = some 0 := by
  constructor
  · rintro ⟨h1, h2⟩
    rw [bc_s0_is2 h1, h2]
  · intro h
    exact bc_s0_2 h
/-- the last road of a result: both known, or not -/
theorem bc_rs_2 {K T Z S C : bc_F} {i tt zz : Nat} {r : bc_R} (h0 : ¬ K i = 0) (h1 : ¬ K i = 1) (eT : T i = nI tt) (ht : tt < 6) (eZ : Z i = nI zz) (hz : zz < 6) (h4 : ¬ (K i = 4 ∧ (r tt = some 0 ∨ r zz = some 0)))
    (hrow : ∀ v, v < 6 → S (6 * i + v) = bc_s0 (some r) v ∧ C (6 * i + v) = bc_c0 (some r) v) : ((S (6 * i + tt) = 2 ∧ S (6 * i + zz) = 2) → bc_rs K T Z i r = some (bc_ar (K i) (C (6 * i + tt)) (C (6 * i + zz)))) ∧ (¬ (S (6 * i + tt) = 2 ∧ S (6 * i + zz) = 2) → bc_rs K T Z i r = none) := by
  rw [bc_rs_g h0 h1 eT ht eZ hz h4]
  obtain ⟨a1, a2⟩ := hrow tt ht
  obtain ⟨b1, b2⟩ := hrow zz hz
  rw [a1, a2, b1, b2]
  constructor
  · rintro ⟨c1, c2⟩
    rw [bc_s0_is2 c1, bc_s0_is2 c2]
  · intro h
    by_cases c1 : bc_s0 (some r) tt = 2
    · have c2 : ¬ bc_s0 (some r) zz = 2 := fun z => h ⟨c1, z⟩
      rw [bc_s0_n2 c2]
      cases r tt <;> rfl
    · rw [bc_s0_n2 c1]
set_option maxHeartbeats 4000000 in
set_option maxRecDepth 100000 in
/-- is this constant behind -/
theorem co_A_isBehind {l : Launch} {dC : Nat → ClassId} {dI : Nat → Nat → Nat} {cI cZ : ClassId} {sz : Nat} {a0 s1 s2 s3 s4 s5 : Nat} {S C Wt SB CB : bc_F} {res : Int32} {v : Nat} {x : Int32} (hv : v < 6) : Met l yn_A_isBehind (Cond.code yn_A_isBehind by_A_isBehind 3 (some FieldType.boolean) :: wd_all) ({ frames := 0, cells := 0, slots := 0, locals := 0 } : Room) (bc_Pre (dC, dI) classes [(cI, .int), (cZ, .boolean)] [.ref a0, .int (nI v), .int x] [(a0, .inr (0, [.ref s1, .ref s2, .ref s3, .ref s4, .ref s5, .int res])), (s1, .inl (cI, 240, .inl S)), (s2, .inl (cI, 240, .inl C)), (s3, .inl (cZ, 40, .inl Wt)), (s4, .inl (cI, 6, .inl SB)), (s5, .inl (cI, 6, .inl CB))] sz) (va_Qi (fun (r : Int32) (u : Unit) => (r = 1 ∧ (SB v = 2 ∧ CB v = x)) ∨ (r = 0 ∧ ¬ (SB v = 2 ∧ CB v = x))) (fun (u : Unit) t => bc_B (dC, dI) classes [(cI, .int), (cZ, .boolean)] (va_A [(a0, .inr (0, [.ref s1, .ref s2, .ref s3, .ref s4, .ref s5, .int res])), (s1, .inl (cI, 240, .inl S)), (s2, .inl (cI, 240, .inl C)), (s3, .inl (cZ, 40, .inl Wt)), (s4, .inl (cI, 6, .inl SB)), (s5, .inl (cI, 6, .inl CB))] sz) [(a0, .inr (0, [.ref s1, .ref s2, .ref s3, .ref s4, .ref s5, .int res])), (s1, .inl (cI, 240, .inl S)), (s2, .inl (cI, 240, .inl C)), (s3, .inl (cZ, 40, .inl Wt)), (s4, .inl (cI, 6, .inl SB)), (s5, .inl (cI, 6, .inl CB))] t) ((va_A [(a0, .inr (0, [.ref s1, .ref s2, .ref s3, .ref s4, .ref s5, .int res])), (s1, .inl (cI, 240, .inl S)), (s2, .inl (cI, 240, .inl C)), (s3, .inl (cZ, 40, .inl Wt)), (s4, .inl (cI, 6, .inl SB)), (s5, .inl (cI, 6, .inl CB))] sz))) 0 0 (va_A [(a0, .inr (0, [.ref s1, .ref s2, .ref s3, .ref s4, .ref s5, .int res])), (s1, .inl (cI, 240, .inl S)), (s2, .inl (cI, 240, .inl C)), (s3, .inl (cZ, 40, .inl Wt)), (s4, .inl (cI, 6, .inl SB)), (s5, .inl (cI, 6, .inl CB))] sz) := by
  refine bc_met (fun A => va_Qi (fun (r : Int32) (u : Unit) => (r = 1 ∧ (SB v = 2 ∧ CB v = x)) ∨ (r = 0 ∧ ¬ (SB v = 2 ∧ CB v = x))) (fun (u : Unit) t => bc_B (dC, dI) classes [(cI, .int), (cZ, .boolean)] A [(a0, .inr (0, [.ref s1, .ref s2, .ref s3, .ref s4, .ref s5, .int res])), (s1, .inl (cI, 240, .inl S)), (s2, .inl (cI, 240, .inl C)), (s3, .inl (cZ, 40, .inl Wt)), (s4, .inl (cI, 6, .inl SB)), (s5, .inl (cI, 6, .inl CB))] t) A) (by decide) (Nat.le_of_ble_eq_true rfl) ?_
  intro p e s m args below meth c A ls F hr hlocks hin hA hP hD hl hS
  have hx := F.1
  have hb := F.2.1
  have hml := F.2.2.1
  have hown : s.vm.findClass "BranchConstants$Analysis" = some m.cls := F.2.2.2.1
  have htw := F.2.2.2.2.1
  have hN := F.2.2.2.2.2.1
  have hK := F.2.2.2.2.2.2
  have hl : lv_has ls 3 [(0, .ref a0), (1, .int (nI v)), (2, .int x)] := hl
  refine lv_aload_n hx hb de_A_isBehind_0 rfl (lv_at hl 0 rfl) ?_
  refine va_get (D := (dC, dI)) (ci := 0) (v := .ref s4) (C := rc_A) (T := fc_A) (N := 6) hx hb htw wi_A hown hK hP 0 rfl rfl 3 (by decide) (htw _ wm_48) (fun _ h9 => h9) rfl de_A_isBehind_1 ?_
  refine lv_iload_n hx hb de_A_isBehind_4 rfl (lv_at hl 1 rfl) ?_
  refine bc_ild (j := v) hx hb hK hP 4 0 rfl rfl (by omega) (by decide) de_A_isBehind_5 ?_
  refine lv_iconst (v := 2) hx hb de_A_isBehind_6 (by decide) ?_
  refine lv_icmp_ne (tgt := 24) hx hb de_A_isBehind_7 (by decide) (fun hc_7 => ?_) (fun hc_7 => ?_)
  · refine lv_iconst (v := 0) hx hb de_A_isBehind_24 (by decide) ?_
    exact bc_zret F hr hlocks rfl (()) (Or.inr ⟨rfl, fun z => hc_7 z.1⟩) hP hD hS de_A_isBehind_25
  · refine lv_aload_n hx hb de_A_isBehind_10 rfl (lv_at hl 0 rfl) ?_
    refine va_get (D := (dC, dI)) (ci := 0) (v := .ref s5) (C := rc_A) (T := fc_A) (N := 6) hx hb htw wi_A hown hK hP 0 rfl rfl 4 (by decide) (htw _ wm_49) (fun _ h9 => h9) rfl de_A_isBehind_11 ?_
    refine lv_iload_n hx hb de_A_isBehind_14 rfl (lv_at hl 1 rfl) ?_
    refine bc_ild (j := v) hx hb hK hP 5 0 rfl rfl (by omega) (by decide) de_A_isBehind_15 ?_
    refine lv_iload_n hx hb de_A_isBehind_16 rfl (lv_at hl 2 rfl) ?_
    refine lv_icmp_ne (tgt := 24) hx hb de_A_isBehind_17 (by decide) (fun hc_17 => ?_) (fun hc_17 => ?_)
    · refine lv_iconst (v := 0) hx hb de_A_isBehind_24 (by decide) ?_
      exact bc_zret F hr hlocks rfl (()) (Or.inr ⟨rfl, fun z => hc_17 z.2⟩) hP hD hS de_A_isBehind_25
    · refine lv_iconst (v := 1) hx hb de_A_isBehind_20 (by decide) ?_
      refine lv_goto (tgt := 25) hx hb de_A_isBehind_21 (by decide) ?_
      exact bc_zret F hr hlocks rfl (()) (Or.inl ⟨rfl, hc_7, hc_17⟩) hP hD hS de_A_isBehind_25

set_option maxHeartbeats 4000000 in
set_option maxRecDepth 100000 in
/-- a constant behind -/
theorem co_A_setConstantBehind {l : Launch} {dC : Nat → ClassId} {dI : Nat → Nat → Nat} {cI cZ : ClassId} {sz : Nat} {a0 s1 s2 s3 s4 s5 : Nat} {S C Wt SB CB : bc_F} {res : Int32} {v : Nat} {x : Int32} (hv : v < 6) : Met l yn_A_setConstantBehind (Cond.code yn_A_setConstantBehind by_A_setConstantBehind 3 none :: wd_all) ({ frames := 0, cells := 0, slots := 0, locals := 0 } : Room) (bc_Pre (dC, dI) classes [(cI, .int), (cZ, .boolean)] [.ref a0, .int (nI v), .int x] [(a0, .inr (0, [.ref s1, .ref s2, .ref s3, .ref s4, .ref s5, .int res])), (s1, .inl (cI, 240, .inl S)), (s2, .inl (cI, 240, .inl C)), (s3, .inl (cZ, 40, .inl Wt)), (s4, .inl (cI, 6, .inl SB)), (s5, .inl (cI, 6, .inl CB))] sz) (va_Qv (fun (u : bc_F × bc_F) => u = (upd SB v 2, upd CB v x)) (fun (u : bc_F × bc_F) t => bc_B (dC, dI) classes [(cI, .int), (cZ, .boolean)] (va_A [(a0, .inr (0, [.ref s1, .ref s2, .ref s3, .ref s4, .ref s5, .int res])), (s1, .inl (cI, 240, .inl S)), (s2, .inl (cI, 240, .inl C)), (s3, .inl (cZ, 40, .inl Wt)), (s4, .inl (cI, 6, .inl SB)), (s5, .inl (cI, 6, .inl CB))] sz) [(a0, .inr (0, [.ref s1, .ref s2, .ref s3, .ref s4, .ref s5, .int res])), (s1, .inl (cI, 240, .inl S)), (s2, .inl (cI, 240, .inl C)), (s3, .inl (cZ, 40, .inl Wt)), (s4, .inl (cI, 6, .inl u.1)), (s5, .inl (cI, 6, .inl u.2))] t) ((va_A [(a0, .inr (0, [.ref s1, .ref s2, .ref s3, .ref s4, .ref s5, .int res])), (s1, .inl (cI, 240, .inl S)), (s2, .inl (cI, 240, .inl C)), (s3, .inl (cZ, 40, .inl Wt)), (s4, .inl (cI, 6, .inl SB)), (s5, .inl (cI, 6, .inl CB))] sz))) 0 0 (va_A [(a0, .inr (0, [.ref s1, .ref s2, .ref s3, .ref s4, .ref s5, .int res])), (s1, .inl (cI, 240, .inl S)), (s2, .inl (cI, 240, .inl C)), (s3, .inl (cZ, 40, .inl Wt)), (s4, .inl (cI, 6, .inl SB)), (s5, .inl (cI, 6, .inl CB))] sz) := by
  refine bc_met (fun A => va_Qv (fun (u : bc_F × bc_F) => u = (upd SB v 2, upd CB v x)) (fun (u : bc_F × bc_F) t => bc_B (dC, dI) classes [(cI, .int), (cZ, .boolean)] A [(a0, .inr (0, [.ref s1, .ref s2, .ref s3, .ref s4, .ref s5, .int res])), (s1, .inl (cI, 240, .inl S)), (s2, .inl (cI, 240, .inl C)), (s3, .inl (cZ, 40, .inl Wt)), (s4, .inl (cI, 6, .inl u.1)), (s5, .inl (cI, 6, .inl u.2))] t) A) (by decide) (Nat.le_of_ble_eq_true rfl) ?_
  intro p e s m args below meth c A ls F hr hlocks hin hA hP hD hl hS
  have hx := F.1
  have hb := F.2.1
  have hml := F.2.2.1
  have hown : s.vm.findClass "BranchConstants$Analysis" = some m.cls := F.2.2.2.1
  have htw := F.2.2.2.2.1
  have hN := F.2.2.2.2.2.1
  have hK := F.2.2.2.2.2.2
  have hl : lv_has ls 3 [(0, .ref a0), (1, .int (nI v)), (2, .int x)] := hl
  refine lv_aload_n hx hb de_A_setConstantBehind_0 rfl (lv_at hl 0 rfl) ?_
  refine va_get (D := (dC, dI)) (ci := 0) (v := .ref s4) (C := rc_A) (T := fc_A) (N := 6) hx hb htw wi_A hown hK hP 0 rfl rfl 3 (by decide) (htw _ wm_48) (fun _ h9 => h9) rfl de_A_setConstantBehind_1 ?_
  refine lv_iload_n hx hb de_A_setConstantBehind_4 rfl (lv_at hl 1 rfl) ?_
  refine lv_iconst (v := 2) hx hb de_A_setConstantBehind_5 (by decide) ?_
  refine bc_ist (j := v) hx hb hK hP hD hS 4 0 rfl rfl (by omega) (by decide) de_A_setConstantBehind_6 (fun H locs hP hD hS => ?_)
  have hP : va_P (dC, dI) classes [(a0, .inr (0, [.ref s1, .ref s2, .ref s3, .ref s4, .ref s5, .int res])), (s1, .inl (cI, 240, .inl S)), (s2, .inl (cI, 240, .inl C)), (s3, .inl (cZ, 40, .inl Wt)), (s4, .inl (cI, 6, .inl (upd SB v 2))), (s5, .inl (cI, 6, .inl CB))] H := hP
  have hD : va_D A [(a0, .inr (0, [.ref s1, .ref s2, .ref s3, .ref s4, .ref s5, .int res])), (s1, .inl (cI, 240, .inl S)), (s2, .inl (cI, 240, .inl C)), (s3, .inl (cZ, 40, .inl Wt)), (s4, .inl (cI, 6, .inl (upd SB v 2))), (s5, .inl (cI, 6, .inl CB))] := hD
  refine lv_aload_n hx hb de_A_setConstantBehind_7 rfl (lv_at hl 0 rfl) ?_
  refine va_get (D := (dC, dI)) (ci := 0) (v := .ref s5) (C := rc_A) (T := fc_A) (N := 6) hx hb htw wi_A hown hK hP 0 rfl rfl 4 (by decide) (htw _ wm_49) (fun _ h9 => h9) rfl de_A_setConstantBehind_8 ?_
  refine lv_iload_n hx hb de_A_setConstantBehind_11 rfl (lv_at hl 1 rfl) ?_
  refine lv_iload_n hx hb de_A_setConstantBehind_12 rfl (lv_at hl 2 rfl) ?_
  refine bc_ist (j := v) hx hb hK hP hD hS 5 0 rfl rfl (by omega) (by decide) de_A_setConstantBehind_13 (fun H locs hP hD hS => ?_)
  have hP : va_P (dC, dI) classes [(a0, .inr (0, [.ref s1, .ref s2, .ref s3, .ref s4, .ref s5, .int res])), (s1, .inl (cI, 240, .inl S)), (s2, .inl (cI, 240, .inl C)), (s3, .inl (cZ, 40, .inl Wt)), (s4, .inl (cI, 6, .inl (upd SB v 2))), (s5, .inl (cI, 6, .inl (upd CB v x)))] H := hP
  have hD : va_D A [(a0, .inr (0, [.ref s1, .ref s2, .ref s3, .ref s4, .ref s5, .int res])), (s1, .inl (cI, 240, .inl S)), (s2, .inl (cI, 240, .inl C)), (s3, .inl (cZ, 40, .inl Wt)), (s4, .inl (cI, 6, .inl (upd SB v 2))), (s5, .inl (cI, 6, .inl (upd CB v x)))] := hD
  exact bc_vret F hr hlocks ((upd SB v 2, upd CB v x)) rfl hP hD hS de_A_setConstantBehind_14

set_option maxHeartbeats 4000000 in
set_option maxRecDepth 100000 in
/-- varies behind -/
theorem co_A_setVaryingBehind {l : Launch} {dC : Nat → ClassId} {dI : Nat → Nat → Nat} {cI cZ : ClassId} {sz : Nat} {a0 s1 s2 s3 s4 s5 : Nat} {S C Wt SB CB : bc_F} {res : Int32} {v : Nat} (hv : v < 6) : Met l yn_A_setVaryingBehind (Cond.code yn_A_setVaryingBehind by_A_setVaryingBehind 2 none :: wd_all) ({ frames := 0, cells := 0, slots := 0, locals := 0 } : Room) (bc_Pre (dC, dI) classes [(cI, .int), (cZ, .boolean)] [.ref a0, .int (nI v)] [(a0, .inr (0, [.ref s1, .ref s2, .ref s3, .ref s4, .ref s5, .int res])), (s1, .inl (cI, 240, .inl S)), (s2, .inl (cI, 240, .inl C)), (s3, .inl (cZ, 40, .inl Wt)), (s4, .inl (cI, 6, .inl SB)), (s5, .inl (cI, 6, .inl CB))] sz) (va_Qv (fun (u : bc_F × bc_F) => u = (upd SB v 1, upd CB v 0)) (fun (u : bc_F × bc_F) t => bc_B (dC, dI) classes [(cI, .int), (cZ, .boolean)] (va_A [(a0, .inr (0, [.ref s1, .ref s2, .ref s3, .ref s4, .ref s5, .int res])), (s1, .inl (cI, 240, .inl S)), (s2, .inl (cI, 240, .inl C)), (s3, .inl (cZ, 40, .inl Wt)), (s4, .inl (cI, 6, .inl SB)), (s5, .inl (cI, 6, .inl CB))] sz) [(a0, .inr (0, [.ref s1, .ref s2, .ref s3, .ref s4, .ref s5, .int res])), (s1, .inl (cI, 240, .inl S)), (s2, .inl (cI, 240, .inl C)), (s3, .inl (cZ, 40, .inl Wt)), (s4, .inl (cI, 6, .inl u.1)), (s5, .inl (cI, 6, .inl u.2))] t) ((va_A [(a0, .inr (0, [.ref s1, .ref s2, .ref s3, .ref s4, .ref s5, .int res])), (s1, .inl (cI, 240, .inl S)), (s2, .inl (cI, 240, .inl C)), (s3, .inl (cZ, 40, .inl Wt)), (s4, .inl (cI, 6, .inl SB)), (s5, .inl (cI, 6, .inl CB))] sz))) 0 0 (va_A [(a0, .inr (0, [.ref s1, .ref s2, .ref s3, .ref s4, .ref s5, .int res])), (s1, .inl (cI, 240, .inl S)), (s2, .inl (cI, 240, .inl C)), (s3, .inl (cZ, 40, .inl Wt)), (s4, .inl (cI, 6, .inl SB)), (s5, .inl (cI, 6, .inl CB))] sz) := by
  refine bc_met (fun A => va_Qv (fun (u : bc_F × bc_F) => u = (upd SB v 1, upd CB v 0)) (fun (u : bc_F × bc_F) t => bc_B (dC, dI) classes [(cI, .int), (cZ, .boolean)] A [(a0, .inr (0, [.ref s1, .ref s2, .ref s3, .ref s4, .ref s5, .int res])), (s1, .inl (cI, 240, .inl S)), (s2, .inl (cI, 240, .inl C)), (s3, .inl (cZ, 40, .inl Wt)), (s4, .inl (cI, 6, .inl u.1)), (s5, .inl (cI, 6, .inl u.2))] t) A) (by decide) (Nat.le_of_ble_eq_true rfl) ?_
  intro p e s m args below meth c A ls F hr hlocks hin hA hP hD hl hS
  have hx := F.1
  have hb := F.2.1
  have hml := F.2.2.1
  have hown : s.vm.findClass "BranchConstants$Analysis" = some m.cls := F.2.2.2.1
  have htw := F.2.2.2.2.1
  have hN := F.2.2.2.2.2.1
  have hK := F.2.2.2.2.2.2
  have hl : lv_has ls 2 [(0, .ref a0), (1, .int (nI v))] := hl
  refine lv_aload_n hx hb de_A_setVaryingBehind_0 rfl (lv_at hl 0 rfl) ?_
  refine va_get (D := (dC, dI)) (ci := 0) (v := .ref s4) (C := rc_A) (T := fc_A) (N := 6) hx hb htw wi_A hown hK hP 0 rfl rfl 3 (by decide) (htw _ wm_48) (fun _ h9 => h9) rfl de_A_setVaryingBehind_1 ?_
  refine lv_iload_n hx hb de_A_setVaryingBehind_4 rfl (lv_at hl 1 rfl) ?_
  refine lv_iconst (v := 1) hx hb de_A_setVaryingBehind_5 (by decide) ?_
  refine bc_ist (j := v) hx hb hK hP hD hS 4 0 rfl rfl (by omega) (by decide) de_A_setVaryingBehind_6 (fun H locs hP hD hS => ?_)
  have hP : va_P (dC, dI) classes [(a0, .inr (0, [.ref s1, .ref s2, .ref s3, .ref s4, .ref s5, .int res])), (s1, .inl (cI, 240, .inl S)), (s2, .inl (cI, 240, .inl C)), (s3, .inl (cZ, 40, .inl Wt)), (s4, .inl (cI, 6, .inl (upd SB v 1))), (s5, .inl (cI, 6, .inl CB))] H := hP
  have hD : va_D A [(a0, .inr (0, [.ref s1, .ref s2, .ref s3, .ref s4, .ref s5, .int res])), (s1, .inl (cI, 240, .inl S)), (s2, .inl (cI, 240, .inl C)), (s3, .inl (cZ, 40, .inl Wt)), (s4, .inl (cI, 6, .inl (upd SB v 1))), (s5, .inl (cI, 6, .inl CB))] := hD
  refine lv_aload_n hx hb de_A_setVaryingBehind_7 rfl (lv_at hl 0 rfl) ?_
  refine va_get (D := (dC, dI)) (ci := 0) (v := .ref s5) (C := rc_A) (T := fc_A) (N := 6) hx hb htw wi_A hown hK hP 0 rfl rfl 4 (by decide) (htw _ wm_49) (fun _ h9 => h9) rfl de_A_setVaryingBehind_8 ?_
  refine lv_iload_n hx hb de_A_setVaryingBehind_11 rfl (lv_at hl 1 rfl) ?_
  refine lv_iconst (v := 0) hx hb de_A_setVaryingBehind_12 (by decide) ?_
  refine bc_ist (j := v) hx hb hK hP hD hS 5 0 rfl rfl (by omega) (by decide) de_A_setVaryingBehind_13 (fun H locs hP hD hS => ?_)
  have hP : va_P (dC, dI) classes [(a0, .inr (0, [.ref s1, .ref s2, .ref s3, .ref s4, .ref s5, .int res])), (s1, .inl (cI, 240, .inl S)), (s2, .inl (cI, 240, .inl C)), (s3, .inl (cZ, 40, .inl Wt)), (s4, .inl (cI, 6, .inl (upd SB v 1))), (s5, .inl (cI, 6, .inl (upd CB v 0)))] H := hP
  have hD : va_D A [(a0, .inr (0, [.ref s1, .ref s2, .ref s3, .ref s4, .ref s5, .int res])), (s1, .inl (cI, 240, .inl S)), (s2, .inl (cI, 240, .inl C)), (s3, .inl (cZ, 40, .inl Wt)), (s4, .inl (cI, 6, .inl (upd SB v 1))), (s5, .inl (cI, 6, .inl (upd CB v 0)))] := hD
  exact bc_vret F hr hlocks ((upd SB v 1, upd CB v 0)) rfl hP hD hS de_A_setVaryingBehind_14

set_option maxHeartbeats 4000000 in
set_option maxRecDepth 100000 in
/-- is it the constant 0 -/
theorem co_A_isConstantZero {l : Launch} {dC : Nat → ClassId} {dI : Nat → Nat → Nat} {cI cZ : ClassId} {sz : Nat} {a0 s1 s2 s3 s4 s5 : Nat} {S C Wt SB CB : bc_F} {res : Int32} {a : Nat} (ha : a < 240) : Met l yn_A_isConstantZero (Cond.code yn_A_isConstantZero by_A_isConstantZero 2 (some FieldType.boolean) :: wd_all) ({ frames := 0, cells := 0, slots := 0, locals := 0 } : Room) (bc_Pre (dC, dI) classes [(cI, .int), (cZ, .boolean)] [.ref a0, .int (nI a)] [(a0, .inr (0, [.ref s1, .ref s2, .ref s3, .ref s4, .ref s5, .int res])), (s1, .inl (cI, 240, .inl S)), (s2, .inl (cI, 240, .inl C)), (s3, .inl (cZ, 40, .inl Wt)), (s4, .inl (cI, 6, .inl SB)), (s5, .inl (cI, 6, .inl CB))] sz) (va_Qi (fun (r : Int32) (u : Unit) => (r = 1 ∧ (S a = 2 ∧ C a = 0)) ∨ (r = 0 ∧ ¬ (S a = 2 ∧ C a = 0))) (fun (u : Unit) t => bc_B (dC, dI) classes [(cI, .int), (cZ, .boolean)] (va_A [(a0, .inr (0, [.ref s1, .ref s2, .ref s3, .ref s4, .ref s5, .int res])), (s1, .inl (cI, 240, .inl S)), (s2, .inl (cI, 240, .inl C)), (s3, .inl (cZ, 40, .inl Wt)), (s4, .inl (cI, 6, .inl SB)), (s5, .inl (cI, 6, .inl CB))] sz) [(a0, .inr (0, [.ref s1, .ref s2, .ref s3, .ref s4, .ref s5, .int res])), (s1, .inl (cI, 240, .inl S)), (s2, .inl (cI, 240, .inl C)), (s3, .inl (cZ, 40, .inl Wt)), (s4, .inl (cI, 6, .inl SB)), (s5, .inl (cI, 6, .inl CB))] t) ((va_A [(a0, .inr (0, [.ref s1, .ref s2, .ref s3, .ref s4, .ref s5, .int res])), (s1, .inl (cI, 240, .inl S)), (s2, .inl (cI, 240, .inl C)), (s3, .inl (cZ, 40, .inl Wt)), (s4, .inl (cI, 6, .inl SB)), (s5, .inl (cI, 6, .inl CB))] sz))) 0 0 (va_A [(a0, .inr (0, [.ref s1, .ref s2, .ref s3, .ref s4, .ref s5, .int res])), (s1, .inl (cI, 240, .inl S)), (s2, .inl (cI, 240, .inl C)), (s3, .inl (cZ, 40, .inl Wt)), (s4, .inl (cI, 6, .inl SB)), (s5, .inl (cI, 6, .inl CB))] sz) := by
  refine bc_met (fun A => va_Qi (fun (r : Int32) (u : Unit) => (r = 1 ∧ (S a = 2 ∧ C a = 0)) ∨ (r = 0 ∧ ¬ (S a = 2 ∧ C a = 0))) (fun (u : Unit) t => bc_B (dC, dI) classes [(cI, .int), (cZ, .boolean)] A [(a0, .inr (0, [.ref s1, .ref s2, .ref s3, .ref s4, .ref s5, .int res])), (s1, .inl (cI, 240, .inl S)), (s2, .inl (cI, 240, .inl C)), (s3, .inl (cZ, 40, .inl Wt)), (s4, .inl (cI, 6, .inl SB)), (s5, .inl (cI, 6, .inl CB))] t) A) (by decide) (Nat.le_of_ble_eq_true rfl) ?_
  intro p e s m args below meth c A ls F hr hlocks hin hA hP hD hl hS
  have hx := F.1
  have hb := F.2.1
  have hml := F.2.2.1
  have hown : s.vm.findClass "BranchConstants$Analysis" = some m.cls := F.2.2.2.1
  have htw := F.2.2.2.2.1
  have hN := F.2.2.2.2.2.1
  have hK := F.2.2.2.2.2.2
  have hl : lv_has ls 2 [(0, .ref a0), (1, .int (nI a))] := hl
  refine lv_aload_n hx hb de_A_isConstantZero_0 rfl (lv_at hl 0 rfl) ?_
  refine va_get (D := (dC, dI)) (ci := 0) (v := .ref s1) (C := rc_A) (T := fc_A) (N := 6) hx hb htw wi_A hown hK hP 0 rfl rfl 0 (by decide) (htw _ wm_45) (fun _ h9 => h9) rfl de_A_isConstantZero_1 ?_
  refine lv_iload_n hx hb de_A_isConstantZero_4 rfl (lv_at hl 1 rfl) ?_
  refine bc_ild (j := a) hx hb hK hP 1 0 rfl rfl (by omega) (by decide) de_A_isConstantZero_5 ?_
  refine lv_iconst (v := 2) hx hb de_A_isConstantZero_6 (by decide) ?_
  refine lv_icmp_ne (tgt := 23) hx hb de_A_isConstantZero_7 (by decide) (fun hc_7 => ?_) (fun hc_7 => ?_)
  · refine lv_iconst (v := 0) hx hb de_A_isConstantZero_23 (by decide) ?_
    exact bc_zret F hr hlocks rfl (()) (Or.inr ⟨rfl, fun z => hc_7 z.1⟩) hP hD hS de_A_isConstantZero_24
  · refine lv_aload_n hx hb de_A_isConstantZero_10 rfl (lv_at hl 0 rfl) ?_
    refine va_get (D := (dC, dI)) (ci := 0) (v := .ref s2) (C := rc_A) (T := fc_A) (N := 6) hx hb htw wi_A hown hK hP 0 rfl rfl 1 (by decide) (htw _ wm_46) (fun _ h9 => h9) rfl de_A_isConstantZero_11 ?_
    refine lv_iload_n hx hb de_A_isConstantZero_14 rfl (lv_at hl 1 rfl) ?_
    refine bc_ild (j := a) hx hb hK hP 2 0 rfl rfl (by omega) (by decide) de_A_isConstantZero_15 ?_
    refine lv_if_ne (tgt := 23) hx hb de_A_isConstantZero_16 (by decide) (fun hc_16 => ?_) (fun hc_16 => ?_)
    · refine lv_iconst (v := 0) hx hb de_A_isConstantZero_23 (by decide) ?_
      exact bc_zret F hr hlocks rfl (()) (Or.inr ⟨rfl, fun z => hc_16 z.2⟩) hP hD hS de_A_isConstantZero_24
    · refine lv_iconst (v := 1) hx hb de_A_isConstantZero_19 (by decide) ?_
      refine lv_goto (tgt := 24) hx hb de_A_isConstantZero_20 (by decide) ?_
      exact bc_zret F hr hlocks rfl (()) (Or.inl ⟨rfl, hc_7, hc_16⟩) hP hD hS de_A_isConstantZero_24

set_option maxHeartbeats 4000000 in
set_option maxRecDepth 100000 in
/-- is the tested variable a constant -/
theorem co_A_hasConstantTest {l : Launch} {dC : Nat → ClassId} {dI : Nat → Nat → Nat} {cI cZ : ClassId} {sz : Nat} {a0 s1 s2 s3 s4 s5 : Nat} {S C Wt SB CB : bc_F} {res : Int32}{h0 q1 q2 q3 q4 n : Nat} {K O T Z : bc_F} {i o : Nat} (hi : i < 40) (eO : O i = nI o) (ho : o < 6) : Met l yn_A_hasConstantTest (Cond.code yn_A_hasConstantTest by_A_hasConstantTest 3 (some FieldType.boolean) :: wd_all) ({ frames := 1, cells := 0, slots := 0, locals := 21 } : Room) (bc_Pre (dC, dI) classes [(cI, .int), (cZ, .boolean)] [.ref a0, .ref h0, .int (nI i)] [(a0, .inr (0, [.ref s1, .ref s2, .ref s3, .ref s4, .ref s5, .int res])), (s1, .inl (cI, 240, .inl S)), (s2, .inl (cI, 240, .inl C)), (s3, .inl (cZ, 40, .inl Wt)), (s4, .inl (cI, 6, .inl SB)), (s5, .inl (cI, 6, .inl CB)), (h0, .inr (1, [.ref q1, .ref q2, .ref q3, .ref q4, .int (nI n)])), (q1, .inl (cI, 40, .inl K)), (q2, .inl (cI, 40, .inl O)), (q3, .inl (cI, 40, .inl T)), (q4, .inl (cI, 40, .inl Z))] sz) (va_Qi (fun (r : Int32) (u : Unit) => (r = 1 ∧ S (6 * i + o) = 2) ∨ (r = 0 ∧ ¬ S (6 * i + o) = 2)) (fun (u : Unit) t => bc_B (dC, dI) classes [(cI, .int), (cZ, .boolean)] (va_A [(a0, .inr (0, [.ref s1, .ref s2, .ref s3, .ref s4, .ref s5, .int res])), (s1, .inl (cI, 240, .inl S)), (s2, .inl (cI, 240, .inl C)), (s3, .inl (cZ, 40, .inl Wt)), (s4, .inl (cI, 6, .inl SB)), (s5, .inl (cI, 6, .inl CB)), (h0, .inr (1, [.ref q1, .ref q2, .ref q3, .ref q4, .int (nI n)])), (q1, .inl (cI, 40, .inl K)), (q2, .inl (cI, 40, .inl O)), (q3, .inl (cI, 40, .inl T)), (q4, .inl (cI, 40, .inl Z))] sz) [(a0, .inr (0, [.ref s1, .ref s2, .ref s3, .ref s4, .ref s5, .int res])), (s1, .inl (cI, 240, .inl S)), (s2, .inl (cI, 240, .inl C)), (s3, .inl (cZ, 40, .inl Wt)), (s4, .inl (cI, 6, .inl SB)), (s5, .inl (cI, 6, .inl CB)), (h0, .inr (1, [.ref q1, .ref q2, .ref q3, .ref q4, .int (nI n)])), (q1, .inl (cI, 40, .inl K)), (q2, .inl (cI, 40, .inl O)), (q3, .inl (cI, 40, .inl T)), (q4, .inl (cI, 40, .inl Z))] t) ((va_A [(a0, .inr (0, [.ref s1, .ref s2, .ref s3, .ref s4, .ref s5, .int res])), (s1, .inl (cI, 240, .inl S)), (s2, .inl (cI, 240, .inl C)), (s3, .inl (cZ, 40, .inl Wt)), (s4, .inl (cI, 6, .inl SB)), (s5, .inl (cI, 6, .inl CB)), (h0, .inr (1, [.ref q1, .ref q2, .ref q3, .ref q4, .int (nI n)])), (q1, .inl (cI, 40, .inl K)), (q2, .inl (cI, 40, .inl O)), (q3, .inl (cI, 40, .inl T)), (q4, .inl (cI, 40, .inl Z))] sz))) 0 0 (va_A [(a0, .inr (0, [.ref s1, .ref s2, .ref s3, .ref s4, .ref s5, .int res])), (s1, .inl (cI, 240, .inl S)), (s2, .inl (cI, 240, .inl C)), (s3, .inl (cZ, 40, .inl Wt)), (s4, .inl (cI, 6, .inl SB)), (s5, .inl (cI, 6, .inl CB)), (h0, .inr (1, [.ref q1, .ref q2, .ref q3, .ref q4, .int (nI n)])), (q1, .inl (cI, 40, .inl K)), (q2, .inl (cI, 40, .inl O)), (q3, .inl (cI, 40, .inl T)), (q4, .inl (cI, 40, .inl Z))] sz) := by
  refine bc_met (fun A => va_Qi (fun (r : Int32) (u : Unit) => (r = 1 ∧ S (6 * i + o) = 2) ∨ (r = 0 ∧ ¬ S (6 * i + o) = 2)) (fun (u : Unit) t => bc_B (dC, dI) classes [(cI, .int), (cZ, .boolean)] A [(a0, .inr (0, [.ref s1, .ref s2, .ref s3, .ref s4, .ref s5, .int res])), (s1, .inl (cI, 240, .inl S)), (s2, .inl (cI, 240, .inl C)), (s3, .inl (cZ, 40, .inl Wt)), (s4, .inl (cI, 6, .inl SB)), (s5, .inl (cI, 6, .inl CB)), (h0, .inr (1, [.ref q1, .ref q2, .ref q3, .ref q4, .int (nI n)])), (q1, .inl (cI, 40, .inl K)), (q2, .inl (cI, 40, .inl O)), (q3, .inl (cI, 40, .inl T)), (q4, .inl (cI, 40, .inl Z))] t) A) (by decide) (Nat.le_of_ble_eq_true rfl) ?_
  intro p e s m args below meth c A ls F hr hlocks hin hA hP hD hl hS
  have hx := F.1
  have hb := F.2.1
  have hml := F.2.2.1
  have hown : s.vm.findClass "BranchConstants$Analysis" = some m.cls := F.2.2.2.1
  have htw := F.2.2.2.2.1
  have hN := F.2.2.2.2.2.1
  have hK := F.2.2.2.2.2.2
  have hl : lv_has ls 3 [(0, .ref a0), (1, .ref h0), (2, .int (nI i))] := hl
  refine lv_aload_n hx hb de_A_hasConstantTest_0 rfl (lv_at hl 0 rfl) ?_
  refine va_get (D := (dC, dI)) (ci := 0) (v := .ref s1) (C := rc_A) (T := fc_A) (N := 6) hx hb htw wi_A hown hK hP 0 rfl rfl 0 (by decide) (htw _ wm_45) (fun _ h9 => h9) rfl de_A_hasConstantTest_1 ?_
  refine lv_iload_n hx hb de_A_hasConstantTest_4 rfl (lv_at hl 2 rfl) ?_
  refine lv_aload_n hx hb de_A_hasConstantTest_5 rfl (lv_at hl 1 rfl) ?_
  refine va_getN (D := (dC, dI)) (ci := 1) (v := .ref q2) (C := rc_C) (T := fc_C) (N := 5) hx hb htw wi_C hown hK hP 6 rfl rfl 1 (by decide) (va_Nw.use rfl (hN _ nm_5)) (fun _ h9 => h9) rfl de_A_hasConstantTest_6 ?_
  refine lv_iload_n hx hb de_A_hasConstantTest_9 rfl (lv_at hl 2 rfl) ?_
  refine bc_ild (j := i) hx hb hK hP 8 0 rfl rfl (by omega) (by decide) de_A_hasConstantTest_10 ?_
  refine bc_ti (y := nI o) eO ?_
  refine bc_call_ns_i (As := [.int (nI i), .int (nI o)]) (rest := [.ref s1]) (wr := [(a0, .inr (0, [.ref s1, .ref s2, .ref s3, .ref s4, .ref s5, .int res])), (s1, .inl (cI, 240, .inl S)), (s2, .inl (cI, 240, .inl C)), (s3, .inl (cZ, 40, .inl Wt)), (s4, .inl (cI, 6, .inl SB)), (s5, .inl (cI, 6, .inl CB)), (h0, .inr (1, [.ref q1, .ref q2, .ref q3, .ref q4, .int (nI n)])), (q1, .inl (cI, 40, .inl K)), (q2, .inl (cI, 40, .inl O)), (q3, .inl (cI, 40, .inl T)), (q4, .inl (cI, 40, .inl Z))]) F (co_B_cell) wm_127 wm_1 nm_28 wm_126 pd_B_cell rfl rfl ⟨Nat.le_of_ble_eq_true rfl, Nat.le_of_ble_eq_true rfl⟩ hP hD hS hA [] [0, 1, 2, 3, 4, 5, 6, 7, 8, 9, 10] rfl rfl rfl rfl (by decide) rfl hl.1 rfl (Nat.le_of_ble_eq_true rfl) de_A_hasConstantTest_11 ⟨Nat.le_of_ble_eq_true rfl, Nat.le_of_ble_eq_true rfl⟩ (fun r_11 u_11 H locs hw_11 hP hD hS => ?_)
  have hP : va_P (dC, dI) classes [(a0, .inr (0, [.ref s1, .ref s2, .ref s3, .ref s4, .ref s5, .int res])), (s1, .inl (cI, 240, .inl S)), (s2, .inl (cI, 240, .inl C)), (s3, .inl (cZ, 40, .inl Wt)), (s4, .inl (cI, 6, .inl SB)), (s5, .inl (cI, 6, .inl CB)), (h0, .inr (1, [.ref q1, .ref q2, .ref q3, .ref q4, .int (nI n)])), (q1, .inl (cI, 40, .inl K)), (q2, .inl (cI, 40, .inl O)), (q3, .inl (cI, 40, .inl T)), (q4, .inl (cI, 40, .inl Z))] H := hP.sub [0, 1, 2, 3, 4, 5, 6, 7, 8, 9, 10] rfl
  have hD : va_D A [(a0, .inr (0, [.ref s1, .ref s2, .ref s3, .ref s4, .ref s5, .int res])), (s1, .inl (cI, 240, .inl S)), (s2, .inl (cI, 240, .inl C)), (s3, .inl (cZ, 40, .inl Wt)), (s4, .inl (cI, 6, .inl SB)), (s5, .inl (cI, 6, .inl CB)), (h0, .inr (1, [.ref q1, .ref q2, .ref q3, .ref q4, .int (nI n)])), (q1, .inl (cI, 40, .inl K)), (q2, .inl (cI, 40, .inl O)), (q3, .inl (cI, 40, .inl T)), (q4, .inl (cI, 40, .inl Z))] := hD.sub [0, 1, 2, 3, 4, 5, 6, 7, 8, 9, 10] (by decide) rfl
  subst hw_11
  refine bc_ild (j := 6 * i + o) hx hb hK hP 1 0 rfl rfl (by omega) (by decide) de_A_hasConstantTest_14 ?_
  refine lv_iconst (v := 2) hx hb de_A_hasConstantTest_15 (by decide) ?_
  refine lv_icmp_ne (tgt := 23) hx hb de_A_hasConstantTest_16 (by decide) (fun hc_16 => ?_) (fun hc_16 => ?_)
  · refine lv_iconst (v := 0) hx hb de_A_hasConstantTest_23 (by decide) ?_
    exact bc_zret F hr hlocks rfl (()) (Or.inr ⟨rfl, hc_16⟩) hP hD hS de_A_hasConstantTest_24
  · refine lv_iconst (v := 1) hx hb de_A_hasConstantTest_19 (by decide) ?_
    refine lv_goto (tgt := 24) hx hb de_A_hasConstantTest_20 (by decide) ?_
    exact bc_zret F hr hlocks rfl (()) (Or.inl ⟨rfl, hc_16⟩) hP hD hS de_A_hasConstantTest_24

set_option maxHeartbeats 4000000 in
set_option maxRecDepth 100000 in
/-- where a constant test goes -/
theorem co_A_wayOfConstantTest {l : Launch} {dC : Nat → ClassId} {dI : Nat → Nat → Nat} {cI cZ : ClassId} {sz : Nat} {a0 s1 s2 s3 s4 s5 : Nat} {S C Wt SB CB : bc_F} {res : Int32}{h0 q1 q2 q3 q4 n : Nat} {K O T Z : bc_F} {i o : Nat} (hi : i < 40) (hn : n ≤ 40) (eO : O i = nI o) (ho : o < 6) (ht : bc_tr (T i)) : Met l yn_A_wayOfConstantTest (Cond.code yn_A_wayOfConstantTest by_A_wayOfConstantTest 3 (some FieldType.int) :: wd_all) ({ frames := 1, cells := 0, slots := 0, locals := 21 } : Room) (bc_Pre (dC, dI) classes [(cI, .int), (cZ, .boolean)] [.ref a0, .ref h0, .int (nI i)] [(a0, .inr (0, [.ref s1, .ref s2, .ref s3, .ref s4, .ref s5, .int res])), (s1, .inl (cI, 240, .inl S)), (s2, .inl (cI, 240, .inl C)), (s3, .inl (cZ, 40, .inl Wt)), (s4, .inl (cI, 6, .inl SB)), (s5, .inl (cI, 6, .inl CB)), (h0, .inr (1, [.ref q1, .ref q2, .ref q3, .ref q4, .int (nI n)])), (q1, .inl (cI, 40, .inl K)), (q2, .inl (cI, 40, .inl O)), (q3, .inl (cI, 40, .inl T)), (q4, .inl (cI, 40, .inl Z))] sz) (va_Qi (fun (r : Int32) (u : Unit) => (C (6 * i + o) = 0 → r = nI (bc_tn n (T i))) ∧ (¬ C (6 * i + o) = 0 → r = nI (i + 1))) (fun (u : Unit) t => bc_B (dC, dI) classes [(cI, .int), (cZ, .boolean)] (va_A [(a0, .inr (0, [.ref s1, .ref s2, .ref s3, .ref s4, .ref s5, .int res])), (s1, .inl (cI, 240, .inl S)), (s2, .inl (cI, 240, .inl C)), (s3, .inl (cZ, 40, .inl Wt)), (s4, .inl (cI, 6, .inl SB)), (s5, .inl (cI, 6, .inl CB)), (h0, .inr (1, [.ref q1, .ref q2, .ref q3, .ref q4, .int (nI n)])), (q1, .inl (cI, 40, .inl K)), (q2, .inl (cI, 40, .inl O)), (q3, .inl (cI, 40, .inl T)), (q4, .inl (cI, 40, .inl Z))] sz) [(a0, .inr (0, [.ref s1, .ref s2, .ref s3, .ref s4, .ref s5, .int res])), (s1, .inl (cI, 240, .inl S)), (s2, .inl (cI, 240, .inl C)), (s3, .inl (cZ, 40, .inl Wt)), (s4, .inl (cI, 6, .inl SB)), (s5, .inl (cI, 6, .inl CB)), (h0, .inr (1, [.ref q1, .ref q2, .ref q3, .ref q4, .int (nI n)])), (q1, .inl (cI, 40, .inl K)), (q2, .inl (cI, 40, .inl O)), (q3, .inl (cI, 40, .inl T)), (q4, .inl (cI, 40, .inl Z))] t) ((va_A [(a0, .inr (0, [.ref s1, .ref s2, .ref s3, .ref s4, .ref s5, .int res])), (s1, .inl (cI, 240, .inl S)), (s2, .inl (cI, 240, .inl C)), (s3, .inl (cZ, 40, .inl Wt)), (s4, .inl (cI, 6, .inl SB)), (s5, .inl (cI, 6, .inl CB)), (h0, .inr (1, [.ref q1, .ref q2, .ref q3, .ref q4, .int (nI n)])), (q1, .inl (cI, 40, .inl K)), (q2, .inl (cI, 40, .inl O)), (q3, .inl (cI, 40, .inl T)), (q4, .inl (cI, 40, .inl Z))] sz))) 0 0 (va_A [(a0, .inr (0, [.ref s1, .ref s2, .ref s3, .ref s4, .ref s5, .int res])), (s1, .inl (cI, 240, .inl S)), (s2, .inl (cI, 240, .inl C)), (s3, .inl (cZ, 40, .inl Wt)), (s4, .inl (cI, 6, .inl SB)), (s5, .inl (cI, 6, .inl CB)), (h0, .inr (1, [.ref q1, .ref q2, .ref q3, .ref q4, .int (nI n)])), (q1, .inl (cI, 40, .inl K)), (q2, .inl (cI, 40, .inl O)), (q3, .inl (cI, 40, .inl T)), (q4, .inl (cI, 40, .inl Z))] sz) := by
  refine bc_met (fun A => va_Qi (fun (r : Int32) (u : Unit) => (C (6 * i + o) = 0 → r = nI (bc_tn n (T i))) ∧ (¬ C (6 * i + o) = 0 → r = nI (i + 1))) (fun (u : Unit) t => bc_B (dC, dI) classes [(cI, .int), (cZ, .boolean)] A [(a0, .inr (0, [.ref s1, .ref s2, .ref s3, .ref s4, .ref s5, .int res])), (s1, .inl (cI, 240, .inl S)), (s2, .inl (cI, 240, .inl C)), (s3, .inl (cZ, 40, .inl Wt)), (s4, .inl (cI, 6, .inl SB)), (s5, .inl (cI, 6, .inl CB)), (h0, .inr (1, [.ref q1, .ref q2, .ref q3, .ref q4, .int (nI n)])), (q1, .inl (cI, 40, .inl K)), (q2, .inl (cI, 40, .inl O)), (q3, .inl (cI, 40, .inl T)), (q4, .inl (cI, 40, .inl Z))] t) A) (by decide) (Nat.le_of_ble_eq_true rfl) ?_
  intro p e s m args below meth c A ls F hr hlocks hin hA hP hD hl hS
  have hx := F.1
  have hb := F.2.1
  have hml := F.2.2.1
  have hown : s.vm.findClass "BranchConstants$Analysis" = some m.cls := F.2.2.2.1
  have htw := F.2.2.2.2.1
  have hN := F.2.2.2.2.2.1
  have hK := F.2.2.2.2.2.2
  have hl : lv_has ls 3 [(0, .ref a0), (1, .ref h0), (2, .int (nI i))] := hl
  refine lv_aload_n hx hb de_A_wayOfConstantTest_0 rfl (lv_at hl 0 rfl) ?_
  refine va_get (D := (dC, dI)) (ci := 0) (v := .ref s2) (C := rc_A) (T := fc_A) (N := 6) hx hb htw wi_A hown hK hP 0 rfl rfl 1 (by decide) (htw _ wm_46) (fun _ h9 => h9) rfl de_A_wayOfConstantTest_1 ?_
  refine lv_iload_n hx hb de_A_wayOfConstantTest_4 rfl (lv_at hl 2 rfl) ?_
  refine lv_aload_n hx hb de_A_wayOfConstantTest_5 rfl (lv_at hl 1 rfl) ?_
  refine va_getN (D := (dC, dI)) (ci := 1) (v := .ref q2) (C := rc_C) (T := fc_C) (N := 5) hx hb htw wi_C hown hK hP 6 rfl rfl 1 (by decide) (va_Nw.use rfl (hN _ nm_5)) (fun _ h9 => h9) rfl de_A_wayOfConstantTest_6 ?_
  refine lv_iload_n hx hb de_A_wayOfConstantTest_9 rfl (lv_at hl 2 rfl) ?_
  refine bc_ild (j := i) hx hb hK hP 8 0 rfl rfl (by omega) (by decide) de_A_wayOfConstantTest_10 ?_
  refine bc_ti (y := nI o) eO ?_
  refine bc_call_ns_i (As := [.int (nI i), .int (nI o)]) (rest := [.ref s2]) (wr := [(a0, .inr (0, [.ref s1, .ref s2, .ref s3, .ref s4, .ref s5, .int res])), (s1, .inl (cI, 240, .inl S)), (s2, .inl (cI, 240, .inl C)), (s3, .inl (cZ, 40, .inl Wt)), (s4, .inl (cI, 6, .inl SB)), (s5, .inl (cI, 6, .inl CB)), (h0, .inr (1, [.ref q1, .ref q2, .ref q3, .ref q4, .int (nI n)])), (q1, .inl (cI, 40, .inl K)), (q2, .inl (cI, 40, .inl O)), (q3, .inl (cI, 40, .inl T)), (q4, .inl (cI, 40, .inl Z))]) F (co_B_cell) wm_127 wm_1 nm_28 wm_126 pd_B_cell rfl rfl ⟨Nat.le_of_ble_eq_true rfl, Nat.le_of_ble_eq_true rfl⟩ hP hD hS hA [] [0, 1, 2, 3, 4, 5, 6, 7, 8, 9, 10] rfl rfl rfl rfl (by decide) rfl hl.1 rfl (Nat.le_of_ble_eq_true rfl) de_A_wayOfConstantTest_11 ⟨Nat.le_of_ble_eq_true rfl, Nat.le_of_ble_eq_true rfl⟩ (fun r_11 u_11 H locs hw_11 hP hD hS => ?_)
  have hP : va_P (dC, dI) classes [(a0, .inr (0, [.ref s1, .ref s2, .ref s3, .ref s4, .ref s5, .int res])), (s1, .inl (cI, 240, .inl S)), (s2, .inl (cI, 240, .inl C)), (s3, .inl (cZ, 40, .inl Wt)), (s4, .inl (cI, 6, .inl SB)), (s5, .inl (cI, 6, .inl CB)), (h0, .inr (1, [.ref q1, .ref q2, .ref q3, .ref q4, .int (nI n)])), (q1, .inl (cI, 40, .inl K)), (q2, .inl (cI, 40, .inl O)), (q3, .inl (cI, 40, .inl T)), (q4, .inl (cI, 40, .inl Z))] H := hP.sub [0, 1, 2, 3, 4, 5, 6, 7, 8, 9, 10] rfl
  have hD : va_D A [(a0, .inr (0, [.ref s1, .ref s2, .ref s3, .ref s4, .ref s5, .int res])), (s1, .inl (cI, 240, .inl S)), (s2, .inl (cI, 240, .inl C)), (s3, .inl (cZ, 40, .inl Wt)), (s4, .inl (cI, 6, .inl SB)), (s5, .inl (cI, 6, .inl CB)), (h0, .inr (1, [.ref q1, .ref q2, .ref q3, .ref q4, .int (nI n)])), (q1, .inl (cI, 40, .inl K)), (q2, .inl (cI, 40, .inl O)), (q3, .inl (cI, 40, .inl T)), (q4, .inl (cI, 40, .inl Z))] := hD.sub [0, 1, 2, 3, 4, 5, 6, 7, 8, 9, 10] (by decide) rfl
  subst hw_11
  refine bc_ild (j := 6 * i + o) hx hb hK hP 2 0 rfl rfl (by omega) (by decide) de_A_wayOfConstantTest_14 ?_
  refine lv_if_ne (tgt := 26) hx hb de_A_wayOfConstantTest_15 (by decide) (fun hc_15 => ?_) (fun hc_15 => ?_)
  · refine lv_iload_n hx hb de_A_wayOfConstantTest_26 rfl (lv_at hl 2 rfl) ?_
    refine lv_iconst (v := 1) hx hb de_A_wayOfConstantTest_27 (by decide) ?_
    refine lv_iadd hx hb de_A_wayOfConstantTest_28 ?_
    refine bc_ti (y := nI (i + 1)) (nI_1 i) ?_
    exact bc_iret F hr hlocks (()) ⟨fun z => absurd z hc_15, fun _ => rfl⟩ hP hD hS de_A_wayOfConstantTest_29
  · refine lv_aload_n hx hb de_A_wayOfConstantTest_18 rfl (lv_at hl 1 rfl) ?_
    refine lv_iload_n hx hb de_A_wayOfConstantTest_19 rfl (lv_at hl 2 rfl) ?_
    refine bc_call_nv_i (As := [.int (nI i)]) (rest := []) (wr := [(a0, .inr (0, [.ref s1, .ref s2, .ref s3, .ref s4, .ref s5, .int res])), (s1, .inl (cI, 240, .inl S)), (s2, .inl (cI, 240, .inl C)), (s3, .inl (cZ, 40, .inl Wt)), (s4, .inl (cI, 6, .inl SB)), (s5, .inl (cI, 6, .inl CB))]) F (co_C_target hi hn ht) wm_154 wm_2 nm_31 wm_153 wm_601 6 rfl rfl pd_C_target rfl rfl ⟨Nat.le_of_ble_eq_true rfl, Nat.le_of_ble_eq_true rfl⟩ hP hD hS hA [6, 7, 8, 9, 10] [0, 1, 2, 3, 4, 5] rfl rfl rfl rfl (by decide) rfl hl.1 rfl (Nat.le_of_ble_eq_true rfl) de_A_wayOfConstantTest_20 ⟨Nat.le_of_ble_eq_true rfl, Nat.le_of_ble_eq_true rfl⟩ (fun r_20 u_20 H locs hw_20 hP hD hS => ?_)
    have hP : va_P (dC, dI) classes [(a0, .inr (0, [.ref s1, .ref s2, .ref s3, .ref s4, .ref s5, .int res])), (s1, .inl (cI, 240, .inl S)), (s2, .inl (cI, 240, .inl C)), (s3, .inl (cZ, 40, .inl Wt)), (s4, .inl (cI, 6, .inl SB)), (s5, .inl (cI, 6, .inl CB)), (h0, .inr (1, [.ref q1, .ref q2, .ref q3, .ref q4, .int (nI n)])), (q1, .inl (cI, 40, .inl K)), (q2, .inl (cI, 40, .inl O)), (q3, .inl (cI, 40, .inl T)), (q4, .inl (cI, 40, .inl Z))] H := hP.sub [0, 1, 2, 3, 4, 5, 6, 7, 8, 9, 10] rfl
    have hD : va_D A [(a0, .inr (0, [.ref s1, .ref s2, .ref s3, .ref s4, .ref s5, .int res])), (s1, .inl (cI, 240, .inl S)), (s2, .inl (cI, 240, .inl C)), (s3, .inl (cZ, 40, .inl Wt)), (s4, .inl (cI, 6, .inl SB)), (s5, .inl (cI, 6, .inl CB)), (h0, .inr (1, [.ref q1, .ref q2, .ref q3, .ref q4, .int (nI n)])), (q1, .inl (cI, 40, .inl K)), (q2, .inl (cI, 40, .inl O)), (q3, .inl (cI, 40, .inl T)), (q4, .inl (cI, 40, .inl Z))] := hD.sub [0, 1, 2, 3, 4, 5, 6, 7, 8, 9, 10] (by decide) rfl
    subst hw_20
    refine lv_goto (tgt := 29) hx hb de_A_wayOfConstantTest_23 (by decide) ?_
    exact bc_iret F hr hlocks (()) ⟨fun _ => rfl, fun z => absurd hc_15 z⟩ hP hD hS de_A_wayOfConstantTest_29

set_option maxHeartbeats 4000000 in
set_option maxRecDepth 100000 in
/-- is it reached -/
theorem co_A_isReached {l : Launch} {dC : Nat → ClassId} {dI : Nat → Nat → Nat} {cI cZ : ClassId} {sz : Nat} {a0 s1 s2 s3 s4 s5 : Nat} {S C Wt SB CB : bc_F} {res : Int32} {i : Nat} (hi : i < 40) : Met l yn_A_isReached (Cond.code yn_A_isReached by_A_isReached 2 (some FieldType.boolean) :: wd_all) ({ frames := 1, cells := 0, slots := 0, locals := 21 } : Room) (bc_Pre (dC, dI) classes [(cI, .int), (cZ, .boolean)] [.ref a0, .int (nI i)] [(a0, .inr (0, [.ref s1, .ref s2, .ref s3, .ref s4, .ref s5, .int res])), (s1, .inl (cI, 240, .inl S)), (s2, .inl (cI, 240, .inl C)), (s3, .inl (cZ, 40, .inl Wt)), (s4, .inl (cI, 6, .inl SB)), (s5, .inl (cI, 6, .inl CB))] sz) (va_Qi (fun (r : Int32) (u : Unit) => (r = 1 ∧ ¬ S (6 * i + 0) = 0) ∨ (r = 0 ∧ S (6 * i + 0) = 0)) (fun (u : Unit) t => bc_B (dC, dI) classes [(cI, .int), (cZ, .boolean)] (va_A [(a0, .inr (0, [.ref s1, .ref s2, .ref s3, .ref s4, .ref s5, .int res])), (s1, .inl (cI, 240, .inl S)), (s2, .inl (cI, 240, .inl C)), (s3, .inl (cZ, 40, .inl Wt)), (s4, .inl (cI, 6, .inl SB)), (s5, .inl (cI, 6, .inl CB))] sz) [(a0, .inr (0, [.ref s1, .ref s2, .ref s3, .ref s4, .ref s5, .int res])), (s1, .inl (cI, 240, .inl S)), (s2, .inl (cI, 240, .inl C)), (s3, .inl (cZ, 40, .inl Wt)), (s4, .inl (cI, 6, .inl SB)), (s5, .inl (cI, 6, .inl CB))] t) ((va_A [(a0, .inr (0, [.ref s1, .ref s2, .ref s3, .ref s4, .ref s5, .int res])), (s1, .inl (cI, 240, .inl S)), (s2, .inl (cI, 240, .inl C)), (s3, .inl (cZ, 40, .inl Wt)), (s4, .inl (cI, 6, .inl SB)), (s5, .inl (cI, 6, .inl CB))] sz))) 0 0 (va_A [(a0, .inr (0, [.ref s1, .ref s2, .ref s3, .ref s4, .ref s5, .int res])), (s1, .inl (cI, 240, .inl S)), (s2, .inl (cI, 240, .inl C)), (s3, .inl (cZ, 40, .inl Wt)), (s4, .inl (cI, 6, .inl SB)), (s5, .inl (cI, 6, .inl CB))] sz) := by
  refine bc_met (fun A => va_Qi (fun (r : Int32) (u : Unit) => (r = 1 ∧ ¬ S (6 * i + 0) = 0) ∨ (r = 0 ∧ S (6 * i + 0) = 0)) (fun (u : Unit) t => bc_B (dC, dI) classes [(cI, .int), (cZ, .boolean)] A [(a0, .inr (0, [.ref s1, .ref s2, .ref s3, .ref s4, .ref s5, .int res])), (s1, .inl (cI, 240, .inl S)), (s2, .inl (cI, 240, .inl C)), (s3, .inl (cZ, 40, .inl Wt)), (s4, .inl (cI, 6, .inl SB)), (s5, .inl (cI, 6, .inl CB))] t) A) (by decide) (Nat.le_of_ble_eq_true rfl) ?_
  intro p e s m args below meth c A ls F hr hlocks hin hA hP hD hl hS
  have hx := F.1
  have hb := F.2.1
  have hml := F.2.2.1
  have hown : s.vm.findClass "BranchConstants$Analysis" = some m.cls := F.2.2.2.1
  have htw := F.2.2.2.2.1
  have hN := F.2.2.2.2.2.1
  have hK := F.2.2.2.2.2.2
  have hl : lv_has ls 2 [(0, .ref a0), (1, .int (nI i))] := hl
  refine lv_aload_n hx hb de_A_isReached_0 rfl (lv_at hl 0 rfl) ?_
  refine va_get (D := (dC, dI)) (ci := 0) (v := .ref s1) (C := rc_A) (T := fc_A) (N := 6) hx hb htw wi_A hown hK hP 0 rfl rfl 0 (by decide) (htw _ wm_45) (fun _ h9 => h9) rfl de_A_isReached_1 ?_
  refine lv_iload_n hx hb de_A_isReached_4 rfl (lv_at hl 1 rfl) ?_
  refine lv_iconst (v := 0) hx hb de_A_isReached_5 (by decide) ?_
  refine bc_ti (y := nI 0) nI_0.symm ?_
  refine bc_call_ns_i (As := [.int (nI i), .int (nI 0)]) (rest := [.ref s1]) (wr := [(a0, .inr (0, [.ref s1, .ref s2, .ref s3, .ref s4, .ref s5, .int res])), (s1, .inl (cI, 240, .inl S)), (s2, .inl (cI, 240, .inl C)), (s3, .inl (cZ, 40, .inl Wt)), (s4, .inl (cI, 6, .inl SB)), (s5, .inl (cI, 6, .inl CB))]) F (co_B_cell) wm_127 wm_1 nm_28 wm_126 pd_B_cell rfl rfl ⟨Nat.le_of_ble_eq_true rfl, Nat.le_of_ble_eq_true rfl⟩ hP hD hS hA [] [0, 1, 2, 3, 4, 5] rfl rfl rfl rfl (by decide) rfl hl.1 rfl (Nat.le_of_ble_eq_true rfl) de_A_isReached_6 ⟨Nat.le_of_ble_eq_true rfl, Nat.le_of_ble_eq_true rfl⟩ (fun r_6 u_6 H locs hw_6 hP hD hS => ?_)
  have hP : va_P (dC, dI) classes [(a0, .inr (0, [.ref s1, .ref s2, .ref s3, .ref s4, .ref s5, .int res])), (s1, .inl (cI, 240, .inl S)), (s2, .inl (cI, 240, .inl C)), (s3, .inl (cZ, 40, .inl Wt)), (s4, .inl (cI, 6, .inl SB)), (s5, .inl (cI, 6, .inl CB))] H := hP.sub [0, 1, 2, 3, 4, 5] rfl
  have hD : va_D A [(a0, .inr (0, [.ref s1, .ref s2, .ref s3, .ref s4, .ref s5, .int res])), (s1, .inl (cI, 240, .inl S)), (s2, .inl (cI, 240, .inl C)), (s3, .inl (cZ, 40, .inl Wt)), (s4, .inl (cI, 6, .inl SB)), (s5, .inl (cI, 6, .inl CB))] := hD.sub [0, 1, 2, 3, 4, 5] (by decide) rfl
  subst hw_6
  refine bc_ild (j := 6 * i + 0) hx hb hK hP 1 0 rfl rfl (by omega) (by decide) de_A_isReached_9 ?_
  refine lv_if_eq (tgt := 17) hx hb de_A_isReached_10 (by decide) (fun hc_10 => ?_) (fun hc_10 => ?_)
  · refine lv_iconst (v := 0) hx hb de_A_isReached_17 (by decide) ?_
    exact bc_zret F hr hlocks rfl (()) (Or.inr ⟨rfl, hc_10⟩) hP hD hS de_A_isReached_18
  · refine lv_iconst (v := 1) hx hb de_A_isReached_13 (by decide) ?_
    refine lv_goto (tgt := 18) hx hb de_A_isReached_14 (by decide) ?_
    exact bc_zret F hr hlocks rfl (()) (Or.inl ⟨rfl, hc_10⟩) hP hD hS de_A_isReached_18

set_option maxHeartbeats 4000000 in
set_option maxRecDepth 100000 in
/-- the constant that an instruction makes, if it makes one -/
theorem co_A_hasConstantResult {l : Launch} {dC : Nat → ClassId} {dI : Nat → Nat → Nat} {cI cZ : ClassId} {sz : Nat} {a0 s1 s2 s3 s4 s5 : Nat} {S C Wt SB CB : bc_F} {res : Int32}{h0 q1 q2 q3 q4 n : Nat} {K O T Z : bc_F} {i : Nat} {rr : bc_R} (hi : i < 40) (hw : bc_wi (K i) (O i) (T i) (Z i)) (h4 : K i ≤ 4) (hrow : ∀ v, v < 6 → S (6 * i + v) = bc_s0 (some rr) v ∧ C (6 * i + v) = bc_c0 (some rr) v) : Met l yn_A_hasConstantResult (Cond.code yn_A_hasConstantResult by_A_hasConstantResult 6 (some FieldType.boolean) :: wd_all) ({ frames := 1, cells := 0, slots := 0, locals := 22 } : Room) (bc_Pre (dC, dI) classes [(cI, .int), (cZ, .boolean)] [.ref a0, .ref h0, .int (nI i)] [(a0, .inr (0, [.ref s1, .ref s2, .ref s3, .ref s4, .ref s5, .int res])), (s1, .inl (cI, 240, .inl S)), (s2, .inl (cI, 240, .inl C)), (s3, .inl (cZ, 40, .inl Wt)), (s4, .inl (cI, 6, .inl SB)), (s5, .inl (cI, 6, .inl CB)), (h0, .inr (1, [.ref q1, .ref q2, .ref q3, .ref q4, .int (nI n)])), (q1, .inl (cI, 40, .inl K)), (q2, .inl (cI, 40, .inl O)), (q3, .inl (cI, 40, .inl T)), (q4, .inl (cI, 40, .inl Z))] sz) (va_Qi (fun (r : Int32) (u : Int32) => (r = 1 ∧ bc_rs K T Z i rr = some u) ∨ (r = 0 ∧ bc_rs K T Z i rr = none)) (fun (u : Int32) t => bc_B (dC, dI) classes [(cI, .int), (cZ, .boolean)] (va_A [(a0, .inr (0, [.ref s1, .ref s2, .ref s3, .ref s4, .ref s5, .int res])), (s1, .inl (cI, 240, .inl S)), (s2, .inl (cI, 240, .inl C)), (s3, .inl (cZ, 40, .inl Wt)), (s4, .inl (cI, 6, .inl SB)), (s5, .inl (cI, 6, .inl CB)), (h0, .inr (1, [.ref q1, .ref q2, .ref q3, .ref q4, .int (nI n)])), (q1, .inl (cI, 40, .inl K)), (q2, .inl (cI, 40, .inl O)), (q3, .inl (cI, 40, .inl T)), (q4, .inl (cI, 40, .inl Z))] sz) [(a0, .inr (0, [.ref s1, .ref s2, .ref s3, .ref s4, .ref s5, .int u])), (s1, .inl (cI, 240, .inl S)), (s2, .inl (cI, 240, .inl C)), (s3, .inl (cZ, 40, .inl Wt)), (s4, .inl (cI, 6, .inl SB)), (s5, .inl (cI, 6, .inl CB)), (h0, .inr (1, [.ref q1, .ref q2, .ref q3, .ref q4, .int (nI n)])), (q1, .inl (cI, 40, .inl K)), (q2, .inl (cI, 40, .inl O)), (q3, .inl (cI, 40, .inl T)), (q4, .inl (cI, 40, .inl Z))] t) ((va_A [(a0, .inr (0, [.ref s1, .ref s2, .ref s3, .ref s4, .ref s5, .int res])), (s1, .inl (cI, 240, .inl S)), (s2, .inl (cI, 240, .inl C)), (s3, .inl (cZ, 40, .inl Wt)), (s4, .inl (cI, 6, .inl SB)), (s5, .inl (cI, 6, .inl CB)), (h0, .inr (1, [.ref q1, .ref q2, .ref q3, .ref q4, .int (nI n)])), (q1, .inl (cI, 40, .inl K)), (q2, .inl (cI, 40, .inl O)), (q3, .inl (cI, 40, .inl T)), (q4, .inl (cI, 40, .inl Z))] sz))) 0 0 (va_A [(a0, .inr (0, [.ref s1, .ref s2, .ref s3, .ref s4, .ref s5, .int res])), (s1, .inl (cI, 240, .inl S)), (s2, .inl (cI, 240, .inl C)), (s3, .inl (cZ, 40, .inl Wt)), (s4, .inl (cI, 6, .inl SB)), (s5, .inl (cI, 6, .inl CB)), (h0, .inr (1, [.ref q1, .ref q2, .ref q3, .ref q4, .int (nI n)])), (q1, .inl (cI, 40, .inl K)), (q2, .inl (cI, 40, .inl O)), (q3, .inl (cI, 40, .inl T)), (q4, .inl (cI, 40, .inl Z))] sz) := by
  refine bc_met (fun A => va_Qi (fun (r : Int32) (u : Int32) => (r = 1 ∧ bc_rs K T Z i rr = some u) ∨ (r = 0 ∧ bc_rs K T Z i rr = none)) (fun (u : Int32) t => bc_B (dC, dI) classes [(cI, .int), (cZ, .boolean)] A [(a0, .inr (0, [.ref s1, .ref s2, .ref s3, .ref s4, .ref s5, .int u])), (s1, .inl (cI, 240, .inl S)), (s2, .inl (cI, 240, .inl C)), (s3, .inl (cZ, 40, .inl Wt)), (s4, .inl (cI, 6, .inl SB)), (s5, .inl (cI, 6, .inl CB)), (h0, .inr (1, [.ref q1, .ref q2, .ref q3, .ref q4, .int (nI n)])), (q1, .inl (cI, 40, .inl K)), (q2, .inl (cI, 40, .inl O)), (q3, .inl (cI, 40, .inl T)), (q4, .inl (cI, 40, .inl Z))] t) A) (by decide) (Nat.le_of_ble_eq_true rfl) ?_
  intro p e s m args below meth c A ls F hr hlocks hin hA hP hD hl hS
  have hx := F.1
  have hb := F.2.1
  have hml := F.2.2.1
  have hown : s.vm.findClass "BranchConstants$Analysis" = some m.cls := F.2.2.2.1
  have htw := F.2.2.2.2.1
  have hN := F.2.2.2.2.2.1
  have hK := F.2.2.2.2.2.2
  have hl : lv_has ls 6 [(0, .ref a0), (1, .ref h0), (2, .int (nI i))] := hl
  refine lv_aload_n hx hb de_A_hasConstantResult_0 rfl (lv_at hl 1 rfl) ?_
  refine va_getN (D := (dC, dI)) (ci := 1) (v := .ref q1) (C := rc_C) (T := fc_C) (N := 5) hx hb htw wi_C hown hK hP 6 rfl rfl 0 (by decide) (va_Nw.use rfl (hN _ nm_2)) (fun _ h9 => h9) rfl de_A_hasConstantResult_1 ?_
  refine lv_iload_n hx hb de_A_hasConstantResult_4 rfl (lv_at hl 2 rfl) ?_
  refine bc_ild (j := i) hx hb hK hP 7 0 rfl rfl (by omega) (by decide) de_A_hasConstantResult_5 ?_
  refine lv_istore_n (lv' := [(3, .int (K i)), (0, .ref a0), (1, .ref h0), (2, .int (nI i))]) hx hb de_A_hasConstantResult_6 rfl hl (by decide) rfl (fun ls hl => ?_)
  refine lv_iload_n hx hb de_A_hasConstantResult_7 rfl (lv_at hl 0 rfl) ?_
  refine lv_if_ne (tgt := 23) hx hb de_A_hasConstantResult_8 (by decide) (fun hc_8 => ?_) (fun hc_8 => ?_)
  · obtain ⟨tt, htt, eT⟩ : bc_vr (T i) := bc_wi_t hw h4 hc_8
    refine lv_iload_n hx hb de_A_hasConstantResult_23 rfl (lv_at hl 3 rfl) ?_
    refine lv_aload_n hx hb de_A_hasConstantResult_24 rfl (lv_at hl 2 rfl) ?_
    refine va_getN (D := (dC, dI)) (ci := 1) (v := .ref q3) (C := rc_C) (T := fc_C) (N := 5) hx hb htw wi_C hown hK hP 6 rfl rfl 2 (by decide) (va_Nw.use rfl (hN _ nm_9)) (fun _ h9 => h9) rfl de_A_hasConstantResult_25 ?_
    refine lv_iload_n hx hb de_A_hasConstantResult_28 rfl (lv_at hl 3 rfl) ?_
    refine bc_ild (j := i) hx hb hK hP 9 0 rfl rfl (by omega) (by decide) de_A_hasConstantResult_29 ?_
    refine bc_ti (y := nI tt) eT ?_
    refine bc_call_ns_i (As := [.int (nI i), .int (nI tt)]) (rest := []) (wr := [(a0, .inr (0, [.ref s1, .ref s2, .ref s3, .ref s4, .ref s5, .int res])), (s1, .inl (cI, 240, .inl S)), (s2, .inl (cI, 240, .inl C)), (s3, .inl (cZ, 40, .inl Wt)), (s4, .inl (cI, 6, .inl SB)), (s5, .inl (cI, 6, .inl CB)), (h0, .inr (1, [.ref q1, .ref q2, .ref q3, .ref q4, .int (nI n)])), (q1, .inl (cI, 40, .inl K)), (q2, .inl (cI, 40, .inl O)), (q3, .inl (cI, 40, .inl T)), (q4, .inl (cI, 40, .inl Z))]) F (co_B_cell) wm_127 wm_1 nm_28 wm_126 pd_B_cell rfl rfl ⟨Nat.le_of_ble_eq_true rfl, Nat.le_of_ble_eq_true rfl⟩ hP hD hS hA [] [0, 1, 2, 3, 4, 5, 6, 7, 8, 9, 10] rfl rfl rfl rfl (by decide) rfl hl.1 rfl (Nat.le_of_ble_eq_true rfl) de_A_hasConstantResult_30 ⟨Nat.le_of_ble_eq_true rfl, Nat.le_of_ble_eq_true rfl⟩ (fun r_30 u_30 H locs hw_30 hP hD hS => ?_)
    have hP : va_P (dC, dI) classes [(a0, .inr (0, [.ref s1, .ref s2, .ref s3, .ref s4, .ref s5, .int res])), (s1, .inl (cI, 240, .inl S)), (s2, .inl (cI, 240, .inl C)), (s3, .inl (cZ, 40, .inl Wt)), (s4, .inl (cI, 6, .inl SB)), (s5, .inl (cI, 6, .inl CB)), (h0, .inr (1, [.ref q1, .ref q2, .ref q3, .ref q4, .int (nI n)])), (q1, .inl (cI, 40, .inl K)), (q2, .inl (cI, 40, .inl O)), (q3, .inl (cI, 40, .inl T)), (q4, .inl (cI, 40, .inl Z))] H := hP.sub [0, 1, 2, 3, 4, 5, 6, 7, 8, 9, 10] rfl
    have hD : va_D A [(a0, .inr (0, [.ref s1, .ref s2, .ref s3, .ref s4, .ref s5, .int res])), (s1, .inl (cI, 240, .inl S)), (s2, .inl (cI, 240, .inl C)), (s3, .inl (cZ, 40, .inl Wt)), (s4, .inl (cI, 6, .inl SB)), (s5, .inl (cI, 6, .inl CB)), (h0, .inr (1, [.ref q1, .ref q2, .ref q3, .ref q4, .int (nI n)])), (q1, .inl (cI, 40, .inl K)), (q2, .inl (cI, 40, .inl O)), (q3, .inl (cI, 40, .inl T)), (q4, .inl (cI, 40, .inl Z))] := hD.sub [0, 1, 2, 3, 4, 5, 6, 7, 8, 9, 10] (by decide) rfl
    subst hw_30
    refine lv_istore (lv' := [(4, .int (nI (6 * i + tt))), (3, .int (K i)), (0, .ref a0), (1, .ref h0), (2, .int (nI i))]) hx hb de_A_hasConstantResult_33 hl (by decide) rfl (fun ls hl => ?_)
    refine lv_iload_n hx hb de_A_hasConstantResult_35 rfl (lv_at hl 1 rfl) ?_
    refine lv_iconst (v := 1) hx hb de_A_hasConstantResult_36 (by decide) ?_
    refine lv_icmp_ne (tgt := 68) hx hb de_A_hasConstantResult_37 (by decide) (fun hc_37 => ?_) (fun hc_37 => ?_)
    · obtain ⟨zz, hzz, eZ⟩ : bc_vr (Z i) := bc_wi_z hw h4 hc_8 hc_37
      refine lv_iload_n hx hb de_A_hasConstantResult_68 rfl (lv_at hl 4 rfl) ?_
      refine lv_aload_n hx hb de_A_hasConstantResult_69 rfl (lv_at hl 3 rfl) ?_
      refine va_getN (D := (dC, dI)) (ci := 1) (v := .ref q4) (C := rc_C) (T := fc_C) (N := 5) hx hb htw wi_C hown hK hP 6 rfl rfl 3 (by decide) (va_Nw.use rfl (hN _ nm_11)) (fun _ h9 => h9) rfl de_A_hasConstantResult_70 ?_
      refine lv_iload_n hx hb de_A_hasConstantResult_73 rfl (lv_at hl 4 rfl) ?_
      refine bc_ild (j := i) hx hb hK hP 10 0 rfl rfl (by omega) (by decide) de_A_hasConstantResult_74 ?_
      refine bc_ti (y := nI zz) eZ ?_
      refine bc_call_ns_i (As := [.int (nI i), .int (nI zz)]) (rest := []) (wr := [(a0, .inr (0, [.ref s1, .ref s2, .ref s3, .ref s4, .ref s5, .int res])), (s1, .inl (cI, 240, .inl S)), (s2, .inl (cI, 240, .inl C)), (s3, .inl (cZ, 40, .inl Wt)), (s4, .inl (cI, 6, .inl SB)), (s5, .inl (cI, 6, .inl CB)), (h0, .inr (1, [.ref q1, .ref q2, .ref q3, .ref q4, .int (nI n)])), (q1, .inl (cI, 40, .inl K)), (q2, .inl (cI, 40, .inl O)), (q3, .inl (cI, 40, .inl T)), (q4, .inl (cI, 40, .inl Z))]) F (co_B_cell) wm_127 wm_1 nm_28 wm_126 pd_B_cell rfl rfl ⟨Nat.le_of_ble_eq_true rfl, Nat.le_of_ble_eq_true rfl⟩ hP hD hS hA [] [0, 1, 2, 3, 4, 5, 6, 7, 8, 9, 10] rfl rfl rfl rfl (by decide) rfl hl.1 rfl (Nat.le_of_ble_eq_true rfl) de_A_hasConstantResult_75 ⟨Nat.le_of_ble_eq_true rfl, Nat.le_of_ble_eq_true rfl⟩ (fun r_75 u_75 H locs hw_75 hP hD hS => ?_)
      have hP : va_P (dC, dI) classes [(a0, .inr (0, [.ref s1, .ref s2, .ref s3, .ref s4, .ref s5, .int res])), (s1, .inl (cI, 240, .inl S)), (s2, .inl (cI, 240, .inl C)), (s3, .inl (cZ, 40, .inl Wt)), (s4, .inl (cI, 6, .inl SB)), (s5, .inl (cI, 6, .inl CB)), (h0, .inr (1, [.ref q1, .ref q2, .ref q3, .ref q4, .int (nI n)])), (q1, .inl (cI, 40, .inl K)), (q2, .inl (cI, 40, .inl O)), (q3, .inl (cI, 40, .inl T)), (q4, .inl (cI, 40, .inl Z))] H := hP.sub [0, 1, 2, 3, 4, 5, 6, 7, 8, 9, 10] rfl
      have hD : va_D A [(a0, .inr (0, [.ref s1, .ref s2, .ref s3, .ref s4, .ref s5, .int res])), (s1, .inl (cI, 240, .inl S)), (s2, .inl (cI, 240, .inl C)), (s3, .inl (cZ, 40, .inl Wt)), (s4, .inl (cI, 6, .inl SB)), (s5, .inl (cI, 6, .inl CB)), (h0, .inr (1, [.ref q1, .ref q2, .ref q3, .ref q4, .int (nI n)])), (q1, .inl (cI, 40, .inl K)), (q2, .inl (cI, 40, .inl O)), (q3, .inl (cI, 40, .inl T)), (q4, .inl (cI, 40, .inl Z))] := hD.sub [0, 1, 2, 3, 4, 5, 6, 7, 8, 9, 10] (by decide) rfl
      subst hw_75
      refine lv_istore (lv' := [(5, .int (nI (6 * i + zz))), (4, .int (nI (6 * i + tt))), (3, .int (K i)), (0, .ref a0), (1, .ref h0), (2, .int (nI i))]) hx hb de_A_hasConstantResult_78 hl (by decide) rfl (fun ls hl => ?_)
      refine lv_iload_n hx hb de_A_hasConstantResult_80 rfl (lv_at hl 2 rfl) ?_
      refine lv_iconst (v := 4) hx hb de_A_hasConstantResult_81 (by decide) ?_
      refine lv_icmp_ne (tgt := 110) hx hb de_A_hasConstantResult_82 (by decide) (fun hc_82 => ?_) (fun hc_82 => ?_)
      · refine lv_aload_n hx hb de_A_hasConstantResult_110 rfl (lv_at hl 3 rfl) ?_
        refine lv_iload_n hx hb de_A_hasConstantResult_111 rfl (lv_at hl 2 rfl) ?_
        refine lv_aload_n hx hb de_A_hasConstantResult_112 rfl (lv_at hl 3 rfl) ?_
        refine va_get (D := (dC, dI)) (ci := 0) (v := .ref s2) (C := rc_A) (T := fc_A) (N := 6) hx hb htw wi_A hown hK hP 0 rfl rfl 1 (by decide) (htw _ wm_46) (fun _ h9 => h9) rfl de_A_hasConstantResult_113 ?_
        refine lv_iload hx hb de_A_hasConstantResult_116 (lv_at hl 1 rfl) ?_
        refine bc_ild (j := 6 * i + tt) hx hb hK hP 2 0 rfl rfl (by omega) (by decide) de_A_hasConstantResult_118 ?_
        refine lv_aload_n hx hb de_A_hasConstantResult_119 rfl (lv_at hl 3 rfl) ?_
        refine va_get (D := (dC, dI)) (ci := 0) (v := .ref s2) (C := rc_A) (T := fc_A) (N := 6) hx hb htw wi_A hown hK hP 0 rfl rfl 1 (by decide) (htw _ wm_46) (fun _ h9 => h9) rfl de_A_hasConstantResult_120 ?_
        refine lv_iload hx hb de_A_hasConstantResult_123 (lv_at hl 0 rfl) ?_
        refine bc_ild (j := 6 * i + zz) hx hb hK hP 2 0 rfl rfl (by omega) (by decide) de_A_hasConstantResult_125 ?_
        refine bc_call_ns_i (As := [.int (K i), .int (C (6 * i + tt)), .int (C (6 * i + zz))]) (rest := [.ref a0]) (wr := [(a0, .inr (0, [.ref s1, .ref s2, .ref s3, .ref s4, .ref s5, .int res])), (s1, .inl (cI, 240, .inl S)), (s2, .inl (cI, 240, .inl C)), (s3, .inl (cZ, 40, .inl Wt)), (s4, .inl (cI, 6, .inl SB)), (s5, .inl (cI, 6, .inl CB)), (h0, .inr (1, [.ref q1, .ref q2, .ref q3, .ref q4, .int (nI n)])), (q1, .inl (cI, 40, .inl K)), (q2, .inl (cI, 40, .inl O)), (q3, .inl (cI, 40, .inl T)), (q4, .inl (cI, 40, .inl Z))]) F (co_B_calculate) wm_146 wm_1 nm_30 wm_145 pd_B_calculate rfl rfl ⟨Nat.le_of_ble_eq_true rfl, Nat.le_of_ble_eq_true rfl⟩ hP hD hS hA [] [0, 1, 2, 3, 4, 5, 6, 7, 8, 9, 10] rfl rfl rfl rfl (by decide) rfl hl.1 rfl (Nat.le_of_ble_eq_true rfl) de_A_hasConstantResult_126 ⟨Nat.le_of_ble_eq_true rfl, Nat.le_of_ble_eq_true rfl⟩ (fun r_126 u_126 H locs hw_126 hP hD hS => ?_)
        have hP : va_P (dC, dI) classes [(a0, .inr (0, [.ref s1, .ref s2, .ref s3, .ref s4, .ref s5, .int res])), (s1, .inl (cI, 240, .inl S)), (s2, .inl (cI, 240, .inl C)), (s3, .inl (cZ, 40, .inl Wt)), (s4, .inl (cI, 6, .inl SB)), (s5, .inl (cI, 6, .inl CB)), (h0, .inr (1, [.ref q1, .ref q2, .ref q3, .ref q4, .int (nI n)])), (q1, .inl (cI, 40, .inl K)), (q2, .inl (cI, 40, .inl O)), (q3, .inl (cI, 40, .inl T)), (q4, .inl (cI, 40, .inl Z))] H := hP.sub [0, 1, 2, 3, 4, 5, 6, 7, 8, 9, 10] rfl
        have hD : va_D A [(a0, .inr (0, [.ref s1, .ref s2, .ref s3, .ref s4, .ref s5, .int res])), (s1, .inl (cI, 240, .inl S)), (s2, .inl (cI, 240, .inl C)), (s3, .inl (cZ, 40, .inl Wt)), (s4, .inl (cI, 6, .inl SB)), (s5, .inl (cI, 6, .inl CB)), (h0, .inr (1, [.ref q1, .ref q2, .ref q3, .ref q4, .int (nI n)])), (q1, .inl (cI, 40, .inl K)), (q2, .inl (cI, 40, .inl O)), (q3, .inl (cI, 40, .inl T)), (q4, .inl (cI, 40, .inl Z))] := hD.sub [0, 1, 2, 3, 4, 5, 6, 7, 8, 9, 10] (by decide) rfl
        subst hw_126
        refine va_put (D := (dC, dI)) (ci := 0) (v := .int (bc_ar (K i) (C (6 * i + tt)) (C (6 * i + zz)))) (ty := .int) (C := rc_A) (T := fc_A) (N := 6) hx hb htw wi_A tc_A tc_A_ok nc_A hown hK hP hD hS 0 rfl rfl 5 (by decide) (htw _ wm_50) (fun _ h9 => h9) rfl (by decide +kernel) rfl rfl (Nat.le_of_ble_eq_true rfl) de_A_hasConstantResult_129 (fun H locs hP hD hS => ?_)
        have hP : va_P (dC, dI) classes [(a0, .inr (0, [.ref s1, .ref s2, .ref s3, .ref s4, .ref s5, .int (bc_ar (K i) (C (6 * i + tt)) (C (6 * i + zz)))])), (s1, .inl (cI, 240, .inl S)), (s2, .inl (cI, 240, .inl C)), (s3, .inl (cZ, 40, .inl Wt)), (s4, .inl (cI, 6, .inl SB)), (s5, .inl (cI, 6, .inl CB)), (h0, .inr (1, [.ref q1, .ref q2, .ref q3, .ref q4, .int (nI n)])), (q1, .inl (cI, 40, .inl K)), (q2, .inl (cI, 40, .inl O)), (q3, .inl (cI, 40, .inl T)), (q4, .inl (cI, 40, .inl Z))] H := hP
        have hD : va_D A [(a0, .inr (0, [.ref s1, .ref s2, .ref s3, .ref s4, .ref s5, .int (bc_ar (K i) (C (6 * i + tt)) (C (6 * i + zz)))])), (s1, .inl (cI, 240, .inl S)), (s2, .inl (cI, 240, .inl C)), (s3, .inl (cZ, 40, .inl Wt)), (s4, .inl (cI, 6, .inl SB)), (s5, .inl (cI, 6, .inl CB)), (h0, .inr (1, [.ref q1, .ref q2, .ref q3, .ref q4, .int (nI n)])), (q1, .inl (cI, 40, .inl K)), (q2, .inl (cI, 40, .inl O)), (q3, .inl (cI, 40, .inl T)), (q4, .inl (cI, 40, .inl Z))] := hD
        refine lv_aload_n hx hb de_A_hasConstantResult_132 rfl (lv_at hl 3 rfl) ?_
        refine va_get (D := (dC, dI)) (ci := 0) (v := .ref s1) (C := rc_A) (T := fc_A) (N := 6) hx hb htw wi_A hown hK hP 0 rfl rfl 0 (by decide) (htw _ wm_45) (fun _ h9 => h9) rfl de_A_hasConstantResult_133 ?_
        refine lv_iload hx hb de_A_hasConstantResult_136 (lv_at hl 1 rfl) ?_
        refine bc_ild (j := 6 * i + tt) hx hb hK hP 1 0 rfl rfl (by omega) (by decide) de_A_hasConstantResult_138 ?_
        refine lv_iconst (v := 2) hx hb de_A_hasConstantResult_139 (by decide) ?_
        refine lv_icmp_ne (tgt := 158) hx hb de_A_hasConstantResult_140 (by decide) (fun hc_140 => ?_) (fun hc_140 => ?_)
        · refine lv_iconst (v := 0) hx hb de_A_hasConstantResult_158 (by decide) ?_
          exact bc_zret F hr hlocks rfl (bc_ar (K i) (C (6 * i + tt)) (C (6 * i + zz))) (Or.inr ⟨rfl, (bc_rs_2 hc_8 hc_37 eT htt eZ hzz (fun z => hc_82 z.1) hrow).2 (fun z => hc_140 z.1)⟩) hP hD hS de_A_hasConstantResult_159
        · refine lv_aload_n hx hb de_A_hasConstantResult_143 rfl (lv_at hl 3 rfl) ?_
          refine va_get (D := (dC, dI)) (ci := 0) (v := .ref s1) (C := rc_A) (T := fc_A) (N := 6) hx hb htw wi_A hown hK hP 0 rfl rfl 0 (by decide) (htw _ wm_45) (fun _ h9 => h9) rfl de_A_hasConstantResult_144 ?_
          refine lv_iload hx hb de_A_hasConstantResult_147 (lv_at hl 0 rfl) ?_
          refine bc_ild (j := 6 * i + zz) hx hb hK hP 1 0 rfl rfl (by omega) (by decide) de_A_hasConstantResult_149 ?_
          refine lv_iconst (v := 2) hx hb de_A_hasConstantResult_150 (by decide) ?_
          refine lv_icmp_ne (tgt := 158) hx hb de_A_hasConstantResult_151 (by decide) (fun hc_151 => ?_) (fun hc_151 => ?_)
          · refine lv_iconst (v := 0) hx hb de_A_hasConstantResult_158 (by decide) ?_
            exact bc_zret F hr hlocks rfl (bc_ar (K i) (C (6 * i + tt)) (C (6 * i + zz))) (Or.inr ⟨rfl, (bc_rs_2 hc_8 hc_37 eT htt eZ hzz (fun z => hc_82 z.1) hrow).2 (fun z => hc_151 z.2)⟩) hP hD hS de_A_hasConstantResult_159
          · refine lv_iconst (v := 1) hx hb de_A_hasConstantResult_154 (by decide) ?_
            refine lv_goto (tgt := 159) hx hb de_A_hasConstantResult_155 (by decide) ?_
            exact bc_zret F hr hlocks rfl (bc_ar (K i) (C (6 * i + tt)) (C (6 * i + zz))) (Or.inl ⟨rfl, (bc_rs_2 hc_8 hc_37 eT htt eZ hzz (fun z => hc_82 z.1) hrow).1 ⟨hc_140, hc_151⟩⟩) hP hD hS de_A_hasConstantResult_159
      · refine lv_aload_n hx hb de_A_hasConstantResult_85 rfl (lv_at hl 3 rfl) ?_
        refine lv_iload hx hb de_A_hasConstantResult_86 (lv_at hl 1 rfl) ?_
        refine bc_call_v_i (As := [.int (nI (6 * i + tt))]) (rest := []) (wr := [(h0, .inr (1, [.ref q1, .ref q2, .ref q3, .ref q4, .int (nI n)])), (q1, .inl (cI, 40, .inl K)), (q2, .inl (cI, 40, .inl O)), (q3, .inl (cI, 40, .inl T)), (q4, .inl (cI, 40, .inl Z))]) F (co_A_isConstantZero (by omega)) wm_144 wm_3 wm_142 wm_143 wm_598 0 rfl rfl pd_A_isConstantZero rfl rfl ⟨Nat.le_of_ble_eq_true rfl, Nat.le_of_ble_eq_true rfl⟩ hP hD hS hA [0, 1, 2, 3, 4, 5] [6, 7, 8, 9, 10] rfl rfl rfl rfl (by decide) rfl hl.1 rfl (Nat.le_of_ble_eq_true rfl) de_A_hasConstantResult_88 ⟨Nat.le_of_ble_eq_true rfl, Nat.le_of_ble_eq_true rfl⟩ (fun r_88 u_88 H locs hw_88 hP hD hS => ?_)
        have hP : va_P (dC, dI) classes [(a0, .inr (0, [.ref s1, .ref s2, .ref s3, .ref s4, .ref s5, .int res])), (s1, .inl (cI, 240, .inl S)), (s2, .inl (cI, 240, .inl C)), (s3, .inl (cZ, 40, .inl Wt)), (s4, .inl (cI, 6, .inl SB)), (s5, .inl (cI, 6, .inl CB)), (h0, .inr (1, [.ref q1, .ref q2, .ref q3, .ref q4, .int (nI n)])), (q1, .inl (cI, 40, .inl K)), (q2, .inl (cI, 40, .inl O)), (q3, .inl (cI, 40, .inl T)), (q4, .inl (cI, 40, .inl Z))] H := hP.sub [5, 6, 7, 8, 9, 10, 0, 1, 2, 3, 4] rfl
        have hD : va_D A [(a0, .inr (0, [.ref s1, .ref s2, .ref s3, .ref s4, .ref s5, .int res])), (s1, .inl (cI, 240, .inl S)), (s2, .inl (cI, 240, .inl C)), (s3, .inl (cZ, 40, .inl Wt)), (s4, .inl (cI, 6, .inl SB)), (s5, .inl (cI, 6, .inl CB)), (h0, .inr (1, [.ref q1, .ref q2, .ref q3, .ref q4, .int (nI n)])), (q1, .inl (cI, 40, .inl K)), (q2, .inl (cI, 40, .inl O)), (q3, .inl (cI, 40, .inl T)), (q4, .inl (cI, 40, .inl Z))] := hD.sub [5, 6, 7, 8, 9, 10, 0, 1, 2, 3, 4] (by decide) rfl
        rcases hw_88 with ⟨he_88, hv_88⟩ | ⟨he_88, hv_88⟩
        · subst he_88
          refine lv_if_ne (tgt := 103) hx hb de_A_hasConstantResult_91 (by decide) (fun _ => ?_) (fun hc => absurd hc (by decide))
          refine lv_aload_n hx hb de_A_hasConstantResult_103 rfl (lv_at hl 3 rfl) ?_
          refine lv_iconst (v := 0) hx hb de_A_hasConstantResult_104 (by decide) ?_
          refine va_put (D := (dC, dI)) (ci := 0) (v := .int 0) (ty := .int) (C := rc_A) (T := fc_A) (N := 6) hx hb htw wi_A tc_A tc_A_ok nc_A hown hK hP hD hS 0 rfl rfl 5 (by decide) (htw _ wm_50) (fun _ h9 => h9) rfl (by decide +kernel) rfl rfl (Nat.le_of_ble_eq_true rfl) de_A_hasConstantResult_105 (fun H locs hP hD hS => ?_)
          have hP : va_P (dC, dI) classes [(a0, .inr (0, [.ref s1, .ref s2, .ref s3, .ref s4, .ref s5, .int 0])), (s1, .inl (cI, 240, .inl S)), (s2, .inl (cI, 240, .inl C)), (s3, .inl (cZ, 40, .inl Wt)), (s4, .inl (cI, 6, .inl SB)), (s5, .inl (cI, 6, .inl CB)), (h0, .inr (1, [.ref q1, .ref q2, .ref q3, .ref q4, .int (nI n)])), (q1, .inl (cI, 40, .inl K)), (q2, .inl (cI, 40, .inl O)), (q3, .inl (cI, 40, .inl T)), (q4, .inl (cI, 40, .inl Z))] H := hP
          have hD : va_D A [(a0, .inr (0, [.ref s1, .ref s2, .ref s3, .ref s4, .ref s5, .int 0])), (s1, .inl (cI, 240, .inl S)), (s2, .inl (cI, 240, .inl C)), (s3, .inl (cZ, 40, .inl Wt)), (s4, .inl (cI, 6, .inl SB)), (s5, .inl (cI, 6, .inl CB)), (h0, .inr (1, [.ref q1, .ref q2, .ref q3, .ref q4, .int (nI n)])), (q1, .inl (cI, 40, .inl K)), (q2, .inl (cI, 40, .inl O)), (q3, .inl (cI, 40, .inl T)), (q4, .inl (cI, 40, .inl Z))] := hD
          refine lv_iconst (v := 1) hx hb de_A_hasConstantResult_108 (by decide) ?_
          exact bc_zret F hr hlocks rfl 0 (Or.inl ⟨rfl, bc_rs_m hc_82 eT htt eZ hzz (Or.inl (bc_z0.mp (by rw [← (hrow tt htt).1, ← (hrow tt htt).2]; exact hv_88)))⟩) hP hD hS de_A_hasConstantResult_109
        · subst he_88
          refine lv_if_ne (tgt := 103) hx hb de_A_hasConstantResult_91 (by decide) (fun hc => absurd (by decide) hc) (fun _ => ?_)
          refine lv_aload_n hx hb de_A_hasConstantResult_94 rfl (lv_at hl 3 rfl) ?_
          refine lv_iload hx hb de_A_hasConstantResult_95 (lv_at hl 0 rfl) ?_
          refine bc_call_v_i (As := [.int (nI (6 * i + zz))]) (rest := []) (wr := [(h0, .inr (1, [.ref q1, .ref q2, .ref q3, .ref q4, .int (nI n)])), (q1, .inl (cI, 40, .inl K)), (q2, .inl (cI, 40, .inl O)), (q3, .inl (cI, 40, .inl T)), (q4, .inl (cI, 40, .inl Z))]) F (co_A_isConstantZero (by omega)) wm_144 wm_3 wm_142 wm_143 wm_598 0 rfl rfl pd_A_isConstantZero rfl rfl ⟨Nat.le_of_ble_eq_true rfl, Nat.le_of_ble_eq_true rfl⟩ hP hD hS hA [0, 1, 2, 3, 4, 5] [6, 7, 8, 9, 10] rfl rfl rfl rfl (by decide) rfl hl.1 rfl (Nat.le_of_ble_eq_true rfl) de_A_hasConstantResult_97 ⟨Nat.le_of_ble_eq_true rfl, Nat.le_of_ble_eq_true rfl⟩ (fun r_97 u_97 H locs hw_97 hP hD hS => ?_)
          have hP : va_P (dC, dI) classes [(a0, .inr (0, [.ref s1, .ref s2, .ref s3, .ref s4, .ref s5, .int res])), (s1, .inl (cI, 240, .inl S)), (s2, .inl (cI, 240, .inl C)), (s3, .inl (cZ, 40, .inl Wt)), (s4, .inl (cI, 6, .inl SB)), (s5, .inl (cI, 6, .inl CB)), (h0, .inr (1, [.ref q1, .ref q2, .ref q3, .ref q4, .int (nI n)])), (q1, .inl (cI, 40, .inl K)), (q2, .inl (cI, 40, .inl O)), (q3, .inl (cI, 40, .inl T)), (q4, .inl (cI, 40, .inl Z))] H := hP.sub [5, 6, 7, 8, 9, 10, 0, 1, 2, 3, 4] rfl
          have hD : va_D A [(a0, .inr (0, [.ref s1, .ref s2, .ref s3, .ref s4, .ref s5, .int res])), (s1, .inl (cI, 240, .inl S)), (s2, .inl (cI, 240, .inl C)), (s3, .inl (cZ, 40, .inl Wt)), (s4, .inl (cI, 6, .inl SB)), (s5, .inl (cI, 6, .inl CB)), (h0, .inr (1, [.ref q1, .ref q2, .ref q3, .ref q4, .int (nI n)])), (q1, .inl (cI, 40, .inl K)), (q2, .inl (cI, 40, .inl O)), (q3, .inl (cI, 40, .inl T)), (q4, .inl (cI, 40, .inl Z))] := hD.sub [5, 6, 7, 8, 9, 10, 0, 1, 2, 3, 4] (by decide) rfl
          rcases hw_97 with ⟨he_97, hv_97⟩ | ⟨he_97, hv_97⟩
          · subst he_97
            refine lv_if_eq (tgt := 110) hx hb de_A_hasConstantResult_100 (by decide) (fun hc => absurd hc (by decide)) (fun _ => ?_)
            refine lv_aload_n hx hb de_A_hasConstantResult_103 rfl (lv_at hl 3 rfl) ?_
            refine lv_iconst (v := 0) hx hb de_A_hasConstantResult_104 (by decide) ?_
            refine va_put (D := (dC, dI)) (ci := 0) (v := .int 0) (ty := .int) (C := rc_A) (T := fc_A) (N := 6) hx hb htw wi_A tc_A tc_A_ok nc_A hown hK hP hD hS 0 rfl rfl 5 (by decide) (htw _ wm_50) (fun _ h9 => h9) rfl (by decide +kernel) rfl rfl (Nat.le_of_ble_eq_true rfl) de_A_hasConstantResult_105 (fun H locs hP hD hS => ?_)
            have hP : va_P (dC, dI) classes [(a0, .inr (0, [.ref s1, .ref s2, .ref s3, .ref s4, .ref s5, .int 0])), (s1, .inl (cI, 240, .inl S)), (s2, .inl (cI, 240, .inl C)), (s3, .inl (cZ, 40, .inl Wt)), (s4, .inl (cI, 6, .inl SB)), (s5, .inl (cI, 6, .inl CB)), (h0, .inr (1, [.ref q1, .ref q2, .ref q3, .ref q4, .int (nI n)])), (q1, .inl (cI, 40, .inl K)), (q2, .inl (cI, 40, .inl O)), (q3, .inl (cI, 40, .inl T)), (q4, .inl (cI, 40, .inl Z))] H := hP
            have hD : va_D A [(a0, .inr (0, [.ref s1, .ref s2, .ref s3, .ref s4, .ref s5, .int 0])), (s1, .inl (cI, 240, .inl S)), (s2, .inl (cI, 240, .inl C)), (s3, .inl (cZ, 40, .inl Wt)), (s4, .inl (cI, 6, .inl SB)), (s5, .inl (cI, 6, .inl CB)), (h0, .inr (1, [.ref q1, .ref q2, .ref q3, .ref q4, .int (nI n)])), (q1, .inl (cI, 40, .inl K)), (q2, .inl (cI, 40, .inl O)), (q3, .inl (cI, 40, .inl T)), (q4, .inl (cI, 40, .inl Z))] := hD
            refine lv_iconst (v := 1) hx hb de_A_hasConstantResult_108 (by decide) ?_
            exact bc_zret F hr hlocks rfl 0 (Or.inl ⟨rfl, bc_rs_m hc_82 eT htt eZ hzz (Or.inr (bc_z0.mp (by rw [← (hrow zz hzz).1, ← (hrow zz hzz).2]; exact hv_97)))⟩) hP hD hS de_A_hasConstantResult_109
          · subst he_97
            refine lv_if_eq (tgt := 110) hx hb de_A_hasConstantResult_100 (by decide) (fun _ => ?_) (fun hc => absurd (by decide) hc)
            refine lv_aload_n hx hb de_A_hasConstantResult_110 rfl (lv_at hl 3 rfl) ?_
            refine lv_iload_n hx hb de_A_hasConstantResult_111 rfl (lv_at hl 2 rfl) ?_
            refine lv_aload_n hx hb de_A_hasConstantResult_112 rfl (lv_at hl 3 rfl) ?_
            refine va_get (D := (dC, dI)) (ci := 0) (v := .ref s2) (C := rc_A) (T := fc_A) (N := 6) hx hb htw wi_A hown hK hP 0 rfl rfl 1 (by decide) (htw _ wm_46) (fun _ h9 => h9) rfl de_A_hasConstantResult_113 ?_
            refine lv_iload hx hb de_A_hasConstantResult_116 (lv_at hl 1 rfl) ?_
            refine bc_ild (j := 6 * i + tt) hx hb hK hP 2 0 rfl rfl (by omega) (by decide) de_A_hasConstantResult_118 ?_
            refine lv_aload_n hx hb de_A_hasConstantResult_119 rfl (lv_at hl 3 rfl) ?_
            refine va_get (D := (dC, dI)) (ci := 0) (v := .ref s2) (C := rc_A) (T := fc_A) (N := 6) hx hb htw wi_A hown hK hP 0 rfl rfl 1 (by decide) (htw _ wm_46) (fun _ h9 => h9) rfl de_A_hasConstantResult_120 ?_
            refine lv_iload hx hb de_A_hasConstantResult_123 (lv_at hl 0 rfl) ?_
            refine bc_ild (j := 6 * i + zz) hx hb hK hP 2 0 rfl rfl (by omega) (by decide) de_A_hasConstantResult_125 ?_
            refine bc_call_ns_i (As := [.int (K i), .int (C (6 * i + tt)), .int (C (6 * i + zz))]) (rest := [.ref a0]) (wr := [(a0, .inr (0, [.ref s1, .ref s2, .ref s3, .ref s4, .ref s5, .int res])), (s1, .inl (cI, 240, .inl S)), (s2, .inl (cI, 240, .inl C)), (s3, .inl (cZ, 40, .inl Wt)), (s4, .inl (cI, 6, .inl SB)), (s5, .inl (cI, 6, .inl CB)), (h0, .inr (1, [.ref q1, .ref q2, .ref q3, .ref q4, .int (nI n)])), (q1, .inl (cI, 40, .inl K)), (q2, .inl (cI, 40, .inl O)), (q3, .inl (cI, 40, .inl T)), (q4, .inl (cI, 40, .inl Z))]) F (co_B_calculate) wm_146 wm_1 nm_30 wm_145 pd_B_calculate rfl rfl ⟨Nat.le_of_ble_eq_true rfl, Nat.le_of_ble_eq_true rfl⟩ hP hD hS hA [] [0, 1, 2, 3, 4, 5, 6, 7, 8, 9, 10] rfl rfl rfl rfl (by decide) rfl hl.1 rfl (Nat.le_of_ble_eq_true rfl) de_A_hasConstantResult_126 ⟨Nat.le_of_ble_eq_true rfl, Nat.le_of_ble_eq_true rfl⟩ (fun r_126 u_126 H locs hw_126 hP hD hS => ?_)
            have hP : va_P (dC, dI) classes [(a0, .inr (0, [.ref s1, .ref s2, .ref s3, .ref s4, .ref s5, .int res])), (s1, .inl (cI, 240, .inl S)), (s2, .inl (cI, 240, .inl C)), (s3, .inl (cZ, 40, .inl Wt)), (s4, .inl (cI, 6, .inl SB)), (s5, .inl (cI, 6, .inl CB)), (h0, .inr (1, [.ref q1, .ref q2, .ref q3, .ref q4, .int (nI n)])), (q1, .inl (cI, 40, .inl K)), (q2, .inl (cI, 40, .inl O)), (q3, .inl (cI, 40, .inl T)), (q4, .inl (cI, 40, .inl Z))] H := hP.sub [0, 1, 2, 3, 4, 5, 6, 7, 8, 9, 10] rfl
            have hD : va_D A [(a0, .inr (0, [.ref s1, .ref s2, .ref s3, .ref s4, .ref s5, .int res])), (s1, .inl (cI, 240, .inl S)), (s2, .inl (cI, 240, .inl C)), (s3, .inl (cZ, 40, .inl Wt)), (s4, .inl (cI, 6, .inl SB)), (s5, .inl (cI, 6, .inl CB)), (h0, .inr (1, [.ref q1, .ref q2, .ref q3, .ref q4, .int (nI n)])), (q1, .inl (cI, 40, .inl K)), (q2, .inl (cI, 40, .inl O)), (q3, .inl (cI, 40, .inl T)), (q4, .inl (cI, 40, .inl Z))] := hD.sub [0, 1, 2, 3, 4, 5, 6, 7, 8, 9, 10] (by decide) rfl
            subst hw_126
            refine va_put (D := (dC, dI)) (ci := 0) (v := .int (bc_ar (K i) (C (6 * i + tt)) (C (6 * i + zz)))) (ty := .int) (C := rc_A) (T := fc_A) (N := 6) hx hb htw wi_A tc_A tc_A_ok nc_A hown hK hP hD hS 0 rfl rfl 5 (by decide) (htw _ wm_50) (fun _ h9 => h9) rfl (by decide +kernel) rfl rfl (Nat.le_of_ble_eq_true rfl) de_A_hasConstantResult_129 (fun H locs hP hD hS => ?_)
            have hP : va_P (dC, dI) classes [(a0, .inr (0, [.ref s1, .ref s2, .ref s3, .ref s4, .ref s5, .int (bc_ar (K i) (C (6 * i + tt)) (C (6 * i + zz)))])), (s1, .inl (cI, 240, .inl S)), (s2, .inl (cI, 240, .inl C)), (s3, .inl (cZ, 40, .inl Wt)), (s4, .inl (cI, 6, .inl SB)), (s5, .inl (cI, 6, .inl CB)), (h0, .inr (1, [.ref q1, .ref q2, .ref q3, .ref q4, .int (nI n)])), (q1, .inl (cI, 40, .inl K)), (q2, .inl (cI, 40, .inl O)), (q3, .inl (cI, 40, .inl T)), (q4, .inl (cI, 40, .inl Z))] H := hP
            have hD : va_D A [(a0, .inr (0, [.ref s1, .ref s2, .ref s3, .ref s4, .ref s5, .int (bc_ar (K i) (C (6 * i + tt)) (C (6 * i + zz)))])), (s1, .inl (cI, 240, .inl S)), (s2, .inl (cI, 240, .inl C)), (s3, .inl (cZ, 40, .inl Wt)), (s4, .inl (cI, 6, .inl SB)), (s5, .inl (cI, 6, .inl CB)), (h0, .inr (1, [.ref q1, .ref q2, .ref q3, .ref q4, .int (nI n)])), (q1, .inl (cI, 40, .inl K)), (q2, .inl (cI, 40, .inl O)), (q3, .inl (cI, 40, .inl T)), (q4, .inl (cI, 40, .inl Z))] := hD
            refine lv_aload_n hx hb de_A_hasConstantResult_132 rfl (lv_at hl 3 rfl) ?_
            refine va_get (D := (dC, dI)) (ci := 0) (v := .ref s1) (C := rc_A) (T := fc_A) (N := 6) hx hb htw wi_A hown hK hP 0 rfl rfl 0 (by decide) (htw _ wm_45) (fun _ h9 => h9) rfl de_A_hasConstantResult_133 ?_
            refine lv_iload hx hb de_A_hasConstantResult_136 (lv_at hl 1 rfl) ?_
            refine bc_ild (j := 6 * i + tt) hx hb hK hP 1 0 rfl rfl (by omega) (by decide) de_A_hasConstantResult_138 ?_
            refine lv_iconst (v := 2) hx hb de_A_hasConstantResult_139 (by decide) ?_
            refine lv_icmp_ne (tgt := 158) hx hb de_A_hasConstantResult_140 (by decide) (fun hc_140 => ?_) (fun hc_140 => ?_)
            · refine lv_iconst (v := 0) hx hb de_A_hasConstantResult_158 (by decide) ?_
              exact bc_zret F hr hlocks rfl (bc_ar (K i) (C (6 * i + tt)) (C (6 * i + zz))) (Or.inr ⟨rfl, (bc_rs_2 hc_8 hc_37 eT htt eZ hzz (fun z => z.2.elim (fun y => hv_88 (by rw [(hrow tt htt).1, (hrow tt htt).2]; exact bc_z0.mpr y)) (fun y => hv_97 (by rw [(hrow zz hzz).1, (hrow zz hzz).2]; exact bc_z0.mpr y))) hrow).2 (fun z => hc_140 z.1)⟩) hP hD hS de_A_hasConstantResult_159
            · refine lv_aload_n hx hb de_A_hasConstantResult_143 rfl (lv_at hl 3 rfl) ?_
              refine va_get (D := (dC, dI)) (ci := 0) (v := .ref s1) (C := rc_A) (T := fc_A) (N := 6) hx hb htw wi_A hown hK hP 0 rfl rfl 0 (by decide) (htw _ wm_45) (fun _ h9 => h9) rfl de_A_hasConstantResult_144 ?_
              refine lv_iload hx hb de_A_hasConstantResult_147 (lv_at hl 0 rfl) ?_
              refine bc_ild (j := 6 * i + zz) hx hb hK hP 1 0 rfl rfl (by omega) (by decide) de_A_hasConstantResult_149 ?_
              refine lv_iconst (v := 2) hx hb de_A_hasConstantResult_150 (by decide) ?_
              refine lv_icmp_ne (tgt := 158) hx hb de_A_hasConstantResult_151 (by decide) (fun hc_151 => ?_) (fun hc_151 => ?_)
              · refine lv_iconst (v := 0) hx hb de_A_hasConstantResult_158 (by decide) ?_
                exact bc_zret F hr hlocks rfl (bc_ar (K i) (C (6 * i + tt)) (C (6 * i + zz))) (Or.inr ⟨rfl, (bc_rs_2 hc_8 hc_37 eT htt eZ hzz (fun z => z.2.elim (fun y => hv_88 (by rw [(hrow tt htt).1, (hrow tt htt).2]; exact bc_z0.mpr y)) (fun y => hv_97 (by rw [(hrow zz hzz).1, (hrow zz hzz).2]; exact bc_z0.mpr y))) hrow).2 (fun z => hc_151 z.2)⟩) hP hD hS de_A_hasConstantResult_159
              · refine lv_iconst (v := 1) hx hb de_A_hasConstantResult_154 (by decide) ?_
                refine lv_goto (tgt := 159) hx hb de_A_hasConstantResult_155 (by decide) ?_
                exact bc_zret F hr hlocks rfl (bc_ar (K i) (C (6 * i + tt)) (C (6 * i + zz))) (Or.inl ⟨rfl, (bc_rs_2 hc_8 hc_37 eT htt eZ hzz (fun z => z.2.elim (fun y => hv_88 (by rw [(hrow tt htt).1, (hrow tt htt).2]; exact bc_z0.mpr y)) (fun y => hv_97 (by rw [(hrow zz hzz).1, (hrow zz hzz).2]; exact bc_z0.mpr y))) hrow).1 ⟨hc_140, hc_151⟩⟩) hP hD hS de_A_hasConstantResult_159
    · refine lv_aload_n hx hb de_A_hasConstantResult_40 rfl (lv_at hl 2 rfl) ?_
      refine lv_aload_n hx hb de_A_hasConstantResult_41 rfl (lv_at hl 2 rfl) ?_
      refine va_get (D := (dC, dI)) (ci := 0) (v := .ref s2) (C := rc_A) (T := fc_A) (N := 6) hx hb htw wi_A hown hK hP 0 rfl rfl 1 (by decide) (htw _ wm_46) (fun _ h9 => h9) rfl de_A_hasConstantResult_42 ?_
      refine lv_iload hx hb de_A_hasConstantResult_45 (lv_at hl 0 rfl) ?_
      refine bc_ild (j := 6 * i + tt) hx hb hK hP 2 0 rfl rfl (by omega) (by decide) de_A_hasConstantResult_47 ?_
      refine va_put (D := (dC, dI)) (ci := 0) (v := .int (C (6 * i + tt))) (ty := .int) (C := rc_A) (T := fc_A) (N := 6) hx hb htw wi_A tc_A tc_A_ok nc_A hown hK hP hD hS 0 rfl rfl 5 (by decide) (htw _ wm_50) (fun _ h9 => h9) rfl (by decide +kernel) rfl rfl (Nat.le_of_ble_eq_true rfl) de_A_hasConstantResult_48 (fun H locs hP hD hS => ?_)
      have hP : va_P (dC, dI) classes [(a0, .inr (0, [.ref s1, .ref s2, .ref s3, .ref s4, .ref s5, .int (C (6 * i + tt))])), (s1, .inl (cI, 240, .inl S)), (s2, .inl (cI, 240, .inl C)), (s3, .inl (cZ, 40, .inl Wt)), (s4, .inl (cI, 6, .inl SB)), (s5, .inl (cI, 6, .inl CB)), (h0, .inr (1, [.ref q1, .ref q2, .ref q3, .ref q4, .int (nI n)])), (q1, .inl (cI, 40, .inl K)), (q2, .inl (cI, 40, .inl O)), (q3, .inl (cI, 40, .inl T)), (q4, .inl (cI, 40, .inl Z))] H := hP
      have hD : va_D A [(a0, .inr (0, [.ref s1, .ref s2, .ref s3, .ref s4, .ref s5, .int (C (6 * i + tt))])), (s1, .inl (cI, 240, .inl S)), (s2, .inl (cI, 240, .inl C)), (s3, .inl (cZ, 40, .inl Wt)), (s4, .inl (cI, 6, .inl SB)), (s5, .inl (cI, 6, .inl CB)), (h0, .inr (1, [.ref q1, .ref q2, .ref q3, .ref q4, .int (nI n)])), (q1, .inl (cI, 40, .inl K)), (q2, .inl (cI, 40, .inl O)), (q3, .inl (cI, 40, .inl T)), (q4, .inl (cI, 40, .inl Z))] := hD
      refine lv_aload_n hx hb de_A_hasConstantResult_51 rfl (lv_at hl 2 rfl) ?_
      refine va_get (D := (dC, dI)) (ci := 0) (v := .ref s1) (C := rc_A) (T := fc_A) (N := 6) hx hb htw wi_A hown hK hP 0 rfl rfl 0 (by decide) (htw _ wm_45) (fun _ h9 => h9) rfl de_A_hasConstantResult_52 ?_
      refine lv_iload hx hb de_A_hasConstantResult_55 (lv_at hl 0 rfl) ?_
      refine bc_ild (j := 6 * i + tt) hx hb hK hP 1 0 rfl rfl (by omega) (by decide) de_A_hasConstantResult_57 ?_
      refine lv_iconst (v := 2) hx hb de_A_hasConstantResult_58 (by decide) ?_
      refine lv_icmp_ne (tgt := 66) hx hb de_A_hasConstantResult_59 (by decide) (fun hc_59 => ?_) (fun hc_59 => ?_)
      · refine lv_iconst (v := 0) hx hb de_A_hasConstantResult_66 (by decide) ?_
        exact bc_zret F hr hlocks rfl (C (6 * i + tt)) (Or.inr ⟨rfl, by rw [bc_rs_1 hc_37 eT htt]; exact bc_s0_n2 (by rw [← (hrow tt htt).1]; exact hc_59)⟩) hP hD hS de_A_hasConstantResult_67
      · refine lv_iconst (v := 1) hx hb de_A_hasConstantResult_62 (by decide) ?_
        refine lv_goto (tgt := 67) hx hb de_A_hasConstantResult_63 (by decide) ?_
        exact bc_zret F hr hlocks rfl (C (6 * i + tt)) (Or.inl ⟨rfl, by rw [bc_rs_1 hc_37 eT htt, (hrow tt htt).2]; exact bc_s0_is2 (by rw [← (hrow tt htt).1]; exact hc_59)⟩) hP hD hS de_A_hasConstantResult_67
  · refine lv_aload_n hx hb de_A_hasConstantResult_11 rfl (lv_at hl 1 rfl) ?_
    refine lv_aload_n hx hb de_A_hasConstantResult_12 rfl (lv_at hl 2 rfl) ?_
    refine va_getN (D := (dC, dI)) (ci := 1) (v := .ref q3) (C := rc_C) (T := fc_C) (N := 5) hx hb htw wi_C hown hK hP 6 rfl rfl 2 (by decide) (va_Nw.use rfl (hN _ nm_9)) (fun _ h9 => h9) rfl de_A_hasConstantResult_13 ?_
    refine lv_iload_n hx hb de_A_hasConstantResult_16 rfl (lv_at hl 3 rfl) ?_
    refine bc_ild (j := i) hx hb hK hP 9 0 rfl rfl (by omega) (by decide) de_A_hasConstantResult_17 ?_
    refine va_put (D := (dC, dI)) (ci := 0) (v := .int (T i)) (ty := .int) (C := rc_A) (T := fc_A) (N := 6) hx hb htw wi_A tc_A tc_A_ok nc_A hown hK hP hD hS 0 rfl rfl 5 (by decide) (htw _ wm_50) (fun _ h9 => h9) rfl (by decide +kernel) rfl rfl (Nat.le_of_ble_eq_true rfl) de_A_hasConstantResult_18 (fun H locs hP hD hS => ?_)
    have hP : va_P (dC, dI) classes [(a0, .inr (0, [.ref s1, .ref s2, .ref s3, .ref s4, .ref s5, .int (T i)])), (s1, .inl (cI, 240, .inl S)), (s2, .inl (cI, 240, .inl C)), (s3, .inl (cZ, 40, .inl Wt)), (s4, .inl (cI, 6, .inl SB)), (s5, .inl (cI, 6, .inl CB)), (h0, .inr (1, [.ref q1, .ref q2, .ref q3, .ref q4, .int (nI n)])), (q1, .inl (cI, 40, .inl K)), (q2, .inl (cI, 40, .inl O)), (q3, .inl (cI, 40, .inl T)), (q4, .inl (cI, 40, .inl Z))] H := hP
    have hD : va_D A [(a0, .inr (0, [.ref s1, .ref s2, .ref s3, .ref s4, .ref s5, .int (T i)])), (s1, .inl (cI, 240, .inl S)), (s2, .inl (cI, 240, .inl C)), (s3, .inl (cZ, 40, .inl Wt)), (s4, .inl (cI, 6, .inl SB)), (s5, .inl (cI, 6, .inl CB)), (h0, .inr (1, [.ref q1, .ref q2, .ref q3, .ref q4, .int (nI n)])), (q1, .inl (cI, 40, .inl K)), (q2, .inl (cI, 40, .inl O)), (q3, .inl (cI, 40, .inl T)), (q4, .inl (cI, 40, .inl Z))] := hD
    refine lv_iconst (v := 1) hx hb de_A_hasConstantResult_21 (by decide) ?_
    exact bc_zret F hr hlocks rfl (T i) (Or.inl ⟨rfl, bc_rs_0 hc_8⟩) hP hD hS de_A_hasConstantResult_22

theorem bc_cnt_1 {f : Nat → Nat} {i : Nat} (h : f i = 1) : nI (bc_sm f i) + Int32.ofInt 1 = nI (bc_sm f (i + 1)) := by
  rw [bc_inc]
  show nI (bc_sm f i + 1) = nI (bc_sm f i + f i)
  rw [h]
theorem bc_cnt_0 {f : Nat → Nat} {i : Nat} (h : f i = 0) : nI (bc_sm f i) = nI (bc_sm f (i + 1)) := by
  show nI (bc_sm f i) = nI (bc_sm f i + f i)
  rw [h, Nat.add_zero]
set_option maxHeartbeats 4000000 in
set_option maxRecDepth 100000 in
/-- how many are reached -/
theorem co_A_countReached {l : Launch} {dC : Nat → ClassId} {dI : Nat → Nat → Nat} {cI cZ : ClassId} {sz : Nat} {a0 s1 s2 s3 s4 s5 : Nat} {S C Wt SB CB : bc_F} {res : Int32}{h0 q1 q2 q3 q4 n : Nat} {K O T Z : bc_F} (hn : n ≤ 40) : Met l yn_A_countReached (Cond.code yn_A_countReached by_A_countReached 4 (some FieldType.int) :: wd_all) ({ frames := 2, cells := 0, slots := 0, locals := 42 } : Room) (bc_Pre (dC, dI) classes [(cI, .int), (cZ, .boolean)] [.ref a0, .ref h0] [(a0, .inr (0, [.ref s1, .ref s2, .ref s3, .ref s4, .ref s5, .int res])), (s1, .inl (cI, 240, .inl S)), (s2, .inl (cI, 240, .inl C)), (s3, .inl (cZ, 40, .inl Wt)), (s4, .inl (cI, 6, .inl SB)), (s5, .inl (cI, 6, .inl CB)), (h0, .inr (1, [.ref q1, .ref q2, .ref q3, .ref q4, .int (nI n)]))] sz) (va_Qi (fun (r : Int32) (u : Unit) => r = nI (bc_sm (fun j => if S (6 * j + 0) = 0 then 0 else 1) n)) (fun (u : Unit) t => bc_B (dC, dI) classes [(cI, .int), (cZ, .boolean)] (va_A [(a0, .inr (0, [.ref s1, .ref s2, .ref s3, .ref s4, .ref s5, .int res])), (s1, .inl (cI, 240, .inl S)), (s2, .inl (cI, 240, .inl C)), (s3, .inl (cZ, 40, .inl Wt)), (s4, .inl (cI, 6, .inl SB)), (s5, .inl (cI, 6, .inl CB)), (h0, .inr (1, [.ref q1, .ref q2, .ref q3, .ref q4, .int (nI n)]))] sz) [(a0, .inr (0, [.ref s1, .ref s2, .ref s3, .ref s4, .ref s5, .int res])), (s1, .inl (cI, 240, .inl S)), (s2, .inl (cI, 240, .inl C)), (s3, .inl (cZ, 40, .inl Wt)), (s4, .inl (cI, 6, .inl SB)), (s5, .inl (cI, 6, .inl CB)), (h0, .inr (1, [.ref q1, .ref q2, .ref q3, .ref q4, .int (nI n)]))] t) ((va_A [(a0, .inr (0, [.ref s1, .ref s2, .ref s3, .ref s4, .ref s5, .int res])), (s1, .inl (cI, 240, .inl S)), (s2, .inl (cI, 240, .inl C)), (s3, .inl (cZ, 40, .inl Wt)), (s4, .inl (cI, 6, .inl SB)), (s5, .inl (cI, 6, .inl CB)), (h0, .inr (1, [.ref q1, .ref q2, .ref q3, .ref q4, .int (nI n)]))] sz))) 0 0 (va_A [(a0, .inr (0, [.ref s1, .ref s2, .ref s3, .ref s4, .ref s5, .int res])), (s1, .inl (cI, 240, .inl S)), (s2, .inl (cI, 240, .inl C)), (s3, .inl (cZ, 40, .inl Wt)), (s4, .inl (cI, 6, .inl SB)), (s5, .inl (cI, 6, .inl CB)), (h0, .inr (1, [.ref q1, .ref q2, .ref q3, .ref q4, .int (nI n)]))] sz) := by
  refine bc_met (fun A => va_Qi (fun (r : Int32) (u : Unit) => r = nI (bc_sm (fun j => if S (6 * j + 0) = 0 then 0 else 1) n)) (fun (u : Unit) t => bc_B (dC, dI) classes [(cI, .int), (cZ, .boolean)] A [(a0, .inr (0, [.ref s1, .ref s2, .ref s3, .ref s4, .ref s5, .int res])), (s1, .inl (cI, 240, .inl S)), (s2, .inl (cI, 240, .inl C)), (s3, .inl (cZ, 40, .inl Wt)), (s4, .inl (cI, 6, .inl SB)), (s5, .inl (cI, 6, .inl CB)), (h0, .inr (1, [.ref q1, .ref q2, .ref q3, .ref q4, .int (nI n)]))] t) A) (by decide) (Nat.le_of_ble_eq_true rfl) ?_
  intro p e s m args below meth c A ls F hr hlocks hin hA hP hD hl hS
  have hx := F.1
  have hb := F.2.1
  have hml := F.2.2.1
  have hown : s.vm.findClass "BranchConstants$Analysis" = some m.cls := F.2.2.2.1
  have htw := F.2.2.2.2.1
  have hN := F.2.2.2.2.2.1
  have hK := F.2.2.2.2.2.2
  have hl : lv_has ls 4 [(0, .ref a0), (1, .ref h0)] := hl
  refine lv_iconst (v := 0) hx hb de_A_countReached_0 (by decide) ?_
  refine bc_ti (y := nI (bc_sm (fun j => if S (6 * j + 0) = 0 then 0 else 1) 0)) nI_0.symm ?_
  refine lv_istore_n (lv' := [(2, .int (nI (bc_sm (fun j => if S (6 * j + 0) = 0 then 0 else 1) 0))), (0, .ref a0), (1, .ref h0)]) hx hb de_A_countReached_1 rfl hl (by decide) rfl (fun ls hl => ?_)
  refine lv_iconst (v := 0) hx hb de_A_countReached_2 (by decide) ?_
  refine bc_ti (y := nI 0) nI_0.symm ?_
  refine lv_istore_n (lv' := [(3, .int (nI 0)), (2, .int (nI (bc_sm (fun j => if S (6 * j + 0) = 0 then 0 else 1) 0))), (0, .ref a0), (1, .ref h0)]) hx hb de_A_countReached_3 rfl hl (by decide) rfl (fun ls hl => ?_)
  refine bc_loop (fun k_4 H locs ls => ∃ (i : Nat), lv_has ls 4 [(3, .int (nI i)), (2, .int (nI (bc_sm (fun j => if S (6 * j + 0) = 0 then 0 else 1) i))), (0, .ref a0), (1, .ref h0)] ∧ va_P (dC, dI) classes [(a0, .inr (0, [.ref s1, .ref s2, .ref s3, .ref s4, .ref s5, .int res])), (s1, .inl (cI, 240, .inl S)), (s2, .inl (cI, 240, .inl C)), (s3, .inl (cZ, 40, .inl Wt)), (s4, .inl (cI, 6, .inl SB)), (s5, .inl (cI, 6, .inl CB)), (h0, .inr (1, [.ref q1, .ref q2, .ref q3, .ref q4, .int (nI n)]))] H ∧ va_D A [(a0, .inr (0, [.ref s1, .ref s2, .ref s3, .ref s4, .ref s5, .int res])), (s1, .inl (cI, 240, .inl S)), (s2, .inl (cI, 240, .inl C)), (s3, .inl (cZ, 40, .inl Wt)), (s4, .inl (cI, 6, .inl SB)), (s5, .inl (cI, 6, .inl CB)), (h0, .inr (1, [.ref q1, .ref q2, .ref q3, .ref q4, .int (nI n)]))] ∧ va_S A s.heap H locs ∧ k_4 = n - i ∧ (i ≤ n)) ?_ ?_
  · rintro k_4 H locs ls ⟨i, hl, hP, hD, hS, hk_4, hi⟩ ih_4
    refine lv_iload_n hx hb de_A_countReached_4 rfl (lv_at hl 0 rfl) ?_
    refine lv_aload_n hx hb de_A_countReached_5 rfl (lv_at hl 3 rfl) ?_
    refine va_getN (D := (dC, dI)) (ci := 1) (v := .int (nI n)) (C := rc_C) (T := fc_C) (N := 5) hx hb htw wi_C hown hK hP 6 rfl rfl 4 (by decide) (va_Nw.use rfl (hN _ nm_14)) (fun _ h9 => h9) rfl de_A_countReached_6 ?_
    refine lv_icmp_ge (tgt := 29) hx hb de_A_countReached_9 (by decide) (fun hc_9 => ?_) (fun hc_9 => ?_)
    · have heq : i = n := by have := bc_ge (by omega) (by omega) hc_9; omega
      subst heq
      refine lv_iload_n hx hb de_A_countReached_29 rfl (lv_at hl 1 rfl) ?_
      exact bc_iret F hr hlocks (()) rfl hP hD hS de_A_countReached_30
    · have hlt : i < n := bc_lt (by omega) (by omega) hc_9
      refine lv_aload_n hx hb de_A_countReached_12 rfl (lv_at hl 2 rfl) ?_
      refine lv_iload_n hx hb de_A_countReached_13 rfl (lv_at hl 0 rfl) ?_
      refine bc_call_v_i (As := [.int (nI i)]) (rest := []) (wr := [(h0, .inr (1, [.ref q1, .ref q2, .ref q3, .ref q4, .int (nI n)]))]) F (co_A_isReached (by omega)) wm_168 wm_3 wm_166 wm_167 wm_606 0 rfl rfl pd_A_isReached rfl rfl ⟨Nat.le_of_ble_eq_true rfl, Nat.le_of_ble_eq_true rfl⟩ hP hD hS hA [0, 1, 2, 3, 4, 5] [6] rfl rfl rfl rfl (by decide) rfl hl.1 rfl (Nat.le_of_ble_eq_true rfl) de_A_countReached_14 ⟨Nat.le_of_ble_eq_true rfl, Nat.le_of_ble_eq_true rfl⟩ (fun r_14 u_14 H locs hw_14 hP hD hS => ?_)
      have hP : va_P (dC, dI) classes [(a0, .inr (0, [.ref s1, .ref s2, .ref s3, .ref s4, .ref s5, .int res])), (s1, .inl (cI, 240, .inl S)), (s2, .inl (cI, 240, .inl C)), (s3, .inl (cZ, 40, .inl Wt)), (s4, .inl (cI, 6, .inl SB)), (s5, .inl (cI, 6, .inl CB)), (h0, .inr (1, [.ref q1, .ref q2, .ref q3, .ref q4, .int (nI n)]))] H := hP.sub [1, 2, 3, 4, 5, 6, 0] rfl
      have hD : va_D A [(a0, .inr (0, [.ref s1, .ref s2, .ref s3, .ref s4, .ref s5, .int res])), (s1, .inl (cI, 240, .inl S)), (s2, .inl (cI, 240, .inl C)), (s3, .inl (cZ, 40, .inl Wt)), (s4, .inl (cI, 6, .inl SB)), (s5, .inl (cI, 6, .inl CB)), (h0, .inr (1, [.ref q1, .ref q2, .ref q3, .ref q4, .int (nI n)]))] := hD.sub [1, 2, 3, 4, 5, 6, 0] (by decide) rfl
      rcases hw_14 with ⟨he_14, hv_14⟩ | ⟨he_14, hv_14⟩
      · subst he_14
        refine lv_if_eq (tgt := 23) hx hb de_A_countReached_17 (by decide) (fun hc => absurd hc (by decide)) (fun _ => ?_)
        refine lv_iinc (k := 1) (v := nI (bc_sm (fun j => if S (6 * j + 0) = 0 then 0 else 1) (i + 1))) (lv' := [(2, .int (nI (bc_sm (fun j => if S (6 * j + 0) = 0 then 0 else 1) (i + 1)))), (3, .int (nI i)), (0, .ref a0), (1, .ref h0)]) hx hb de_A_countReached_20 hl rfl (bc_cnt_1 (if_neg hv_14)) (by decide) rfl (fun ls hl => ?_)
        refine lv_iinc (k := 1) (v := nI (i + 1)) (lv' := [(3, .int (nI (i + 1))), (2, .int (nI (bc_sm (fun j => if S (6 * j + 0) = 0 then 0 else 1) (i + 1)))), (0, .ref a0), (1, .ref h0)]) hx hb de_A_countReached_23 hl rfl (bc_inc _) (by decide) rfl (fun ls hl => ?_)
        refine lv_goto (tgt := 4) hx hb de_A_countReached_26 (by decide) ?_
        exact ih_4 _ _ _ _ (by omega) ⟨(i + 1), lv_sub hl [0, 1, 2, 3] rfl, hP, hD, hS, rfl, (by omega)⟩
      · subst he_14
        refine lv_if_eq (tgt := 23) hx hb de_A_countReached_17 (by decide) (fun _ => ?_) (fun hc => absurd (by decide) hc)
        rw [bc_cnt_0 (f := fun j => if S (6 * j + 0) = 0 then 0 else 1) (i := i) (if_pos hv_14)] at hl
        refine lv_iinc (k := 0) (v := nI (i + 1)) (lv' := [(3, .int (nI (i + 1))), (2, .int (nI (bc_sm (fun j => if S (6 * j + 0) = 0 then 0 else 1) (i + 1)))), (0, .ref a0), (1, .ref h0)]) hx hb de_A_countReached_23 hl rfl (bc_inc _) (by decide) rfl (fun ls hl => ?_)
        refine lv_goto (tgt := 4) hx hb de_A_countReached_26 (by decide) ?_
        exact ih_4 _ _ _ _ (by omega) ⟨(i + 1), lv_sub hl [0, 1, 2, 3] rfl, hP, hD, hS, rfl, (by omega)⟩
  · exact ⟨_, 0, lv_sub hl [0, 1, 2, 3] rfl, hP, hD, hS, rfl, Nat.zero_le _⟩

