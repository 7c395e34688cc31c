/-! the law's helpers (by program: wip/whole/gen/modL.py) -/
set_option maxHeartbeats 4000000 in
set_option maxRecDepth 100000 in
theorem co_L_add {l : Launch} {dC : Nat → ClassId} {dI : Nat → Nat → Nat} {cI cZ cL : ClassId} {sz : Nat} (hl0 : l.stackTraces = false) {b0 h0 q1 q2 q3 q4 g0 a0 w0 e0 v1 f0 v2 n : Nat} {P : Nat → bc_F} {an ra pl0 pl1 sp0 sp1 on0 on1 : Int32} {o9 : Nat} {Ou : Nat → Int64}  {k o tt z : Int32} (hn40 : n < 40) (hsi : bc_si k o tt z) : Met l yn_L_add (Cond.codeWith yn_L_add by_L_add 7 (some FieldType.int) [(0, 14, 17, 13), (0, 14, 21, 15)] :: wd_all) ({ frames := 4, cells := 0, slots := 0, locals := 91 } : Room) (bc_PreX (dC, dI) classes [(cI, .int), (cZ, .boolean), (cL, .long)] [.ref b0, .int k, .int o, .int tt, .int z, .ref o9] [(b0, .inr (4, [.ref h0, .ref g0, .ref a0, .ref w0, .ref e0, .ref f0, .int an, .int ra])), (h0, .inr (1, [.ref q1, .ref q2, .ref q3, .ref q4, .int (nI n)])), (q1, .inl (cI, 40, .inl (P 1))), (q2, .inl (cI, 40, .inl (P 2))), (q3, .inl (cI, 40, .inl (P 3))), (q4, .inl (cI, 40, .inl (P 4))), (e0, .inr (2, [.ref v1, .int pl0, .int sp0, .int on0])), (f0, .inr (2, [.ref v2, .int pl1, .int sp1, .int on1])), (o9, .inl (cL, 1, .inr (.inl Ou)))] sz) (va_Qi (fun (r : Int32) (u : Unit) => r = 0) (fun (u : Unit) t => bc_B (dC, dI) classes [(cI, .int), (cZ, .boolean), (cL, .long)] (va_A [(b0, .inr (4, [.ref h0, .ref g0, .ref a0, .ref w0, .ref e0, .ref f0, .int an, .int ra])), (h0, .inr (1, [.ref q1, .ref q2, .ref q3, .ref q4, .int (nI n)])), (q1, .inl (cI, 40, .inl (P 1))), (q2, .inl (cI, 40, .inl (P 2))), (q3, .inl (cI, 40, .inl (P 3))), (q4, .inl (cI, 40, .inl (P 4))), (e0, .inr (2, [.ref v1, .int pl0, .int sp0, .int on0])), (f0, .inr (2, [.ref v2, .int pl1, .int sp1, .int on1])), (o9, .inl (cL, 1, .inr (.inl Ou)))] sz) [(b0, .inr (4, [.ref h0, .ref g0, .ref a0, .ref w0, .ref e0, .ref f0, .int 0, .int 0])), (h0, .inr (1, [.ref q1, .ref q2, .ref q3, .ref q4, .int (nI (n + 1))])), (q1, .inl (cI, 40, .inl ((bc_pu P n k o tt z) 1))), (q2, .inl (cI, 40, .inl ((bc_pu P n k o tt z) 2))), (q3, .inl (cI, 40, .inl ((bc_pu P n k o tt z) 3))), (q4, .inl (cI, 40, .inl ((bc_pu P n k o tt z) 4))), (e0, .inr (2, [.ref v1, .int pl0, .int sp0, .int 0])), (f0, .inr (2, [.ref v2, .int pl1, .int sp1, .int 0])), (o9, .inl (cL, 1, .inr (.inl (vp_updL Ou 0 ((nI (n + 1)).toInt64)))))] t) ((va_A [(b0, .inr (4, [.ref h0, .ref g0, .ref a0, .ref w0, .ref e0, .ref f0, .int an, .int ra])), (h0, .inr (1, [.ref q1, .ref q2, .ref q3, .ref q4, .int (nI n)])), (q1, .inl (cI, 40, .inl (P 1))), (q2, .inl (cI, 40, .inl (P 2))), (q3, .inl (cI, 40, .inl (P 3))), (q4, .inl (cI, 40, .inl (P 4))), (e0, .inr (2, [.ref v1, .int pl0, .int sp0, .int on0])), (f0, .inr (2, [.ref v2, .int pl1, .int sp1, .int on1])), (o9, .inl (cL, 1, .inr (.inl Ou)))] sz))) 0 0 (va_A [(b0, .inr (4, [.ref h0, .ref g0, .ref a0, .ref w0, .ref e0, .ref f0, .int an, .int ra])), (h0, .inr (1, [.ref q1, .ref q2, .ref q3, .ref q4, .int (nI n)])), (q1, .inl (cI, 40, .inl (P 1))), (q2, .inl (cI, 40, .inl (P 2))), (q3, .inl (cI, 40, .inl (P 3))), (q4, .inl (cI, 40, .inl (P 4))), (e0, .inr (2, [.ref v1, .int pl0, .int sp0, .int on0])), (f0, .inr (2, [.ref v2, .int pl1, .int sp1, .int on1])), (o9, .inl (cL, 1, .inr (.inl Ou)))] sz) := by
  refine bc_metW (fun A => va_Qi (fun (r : Int32) (u : Unit) => r = 0) (fun (u : Unit) t => bc_B (dC, dI) classes [(cI, .int), (cZ, .boolean), (cL, .long)] A [(b0, .inr (4, [.ref h0, .ref g0, .ref a0, .ref w0, .ref e0, .ref f0, .int 0, .int 0])), (h0, .inr (1, [.ref q1, .ref q2, .ref q3, .ref q4, .int (nI (n + 1))])), (q1, .inl (cI, 40, .inl ((bc_pu P n k o tt z) 1))), (q2, .inl (cI, 40, .inl ((bc_pu P n k o tt z) 2))), (q3, .inl (cI, 40, .inl ((bc_pu P n k o tt z) 3))), (q4, .inl (cI, 40, .inl ((bc_pu P n k o tt z) 4))), (e0, .inr (2, [.ref v1, .int pl0, .int sp0, .int 0])), (f0, .inr (2, [.ref v2, .int pl1, .int sp1, .int 0])), (o9, .inl (cL, 1, .inr (.inl (vp_updL Ou 0 ((nI (n + 1)).toInt64)))))] t) A) (by decide) (Nat.le_of_ble_eq_true rfl) ?_
  intro p e s m args below meth c A ls F3 hr hlocks hA hP hD hl hS hT9 htab
  have F : bc_Fx p m c by_L_add 7 s args "BranchConstantsLaw" (dC, dI) classes [(cI, .int), (cZ, .boolean)] := ⟨F3.1, F3.2.1, F3.2.2.1, F3.2.2.2.1, F3.2.2.2.2.1, F3.2.2.2.2.2.1, va_K.sub F3.2.2.2.2.2.2 [0, 1] rfl⟩
  have hx := F.1
  have hb := F.2.1
  have hml := F.2.2.1
  have hown : s.vm.findClass "BranchConstantsLaw" = some m.cls := F.2.2.2.1
  have htw := F.2.2.2.2.1
  have hN := F.2.2.2.2.2.1
  have hK := F.2.2.2.2.2.2
  have hK3 := F3.2.2.2.2.2.2
  have hl : lv_has ls 7 [(0, .ref b0), (1, .int k), (2, .int o), (3, .int tt), (4, .int z), (5, .ref o9)] := hl
  refine lv_aload hx hb de_L_add_0 (lv_at hl 5 rfl) ?_
  refine lv_iconst (v := 0) hx hb de_L_add_2 (by decide) ?_
  refine lv_aload_n hx hb de_L_add_3 rfl (lv_at hl 0 rfl) ?_
  refine lv_iload_n hx hb de_L_add_4 rfl (lv_at hl 1 rfl) ?_
  refine lv_iload_n hx hb de_L_add_5 rfl (lv_at hl 2 rfl) ?_
  refine lv_iload_n hx hb de_L_add_6 rfl (lv_at hl 3 rfl) ?_
  refine lv_iload hx hb de_L_add_7 (lv_at hl 4 rfl) ?_
  refine bc_call_v_i (As := [.int k, .int o, .int tt, .int z]) (rest := [.int 0, .ref o9]) (wr := [(o9, .inl (cL, 1, .inr (.inl Ou)))]) F (co_B_add hn40 hsi) wm_177 wm_1 wm_174 wm_175 wm_176 0 rfl rfl pd_B_add rfl rfl ⟨Nat.le_of_ble_eq_true rfl, Nat.le_of_ble_eq_true rfl⟩ hP hD hS hA [0, 1, 2, 3, 4, 5, 6, 7] [8] rfl rfl rfl rfl (by decide) rfl hl.1 rfl (Nat.le_of_ble_eq_true rfl) de_L_add_9 ⟨Nat.le_of_ble_eq_true rfl, Nat.le_of_ble_eq_true rfl⟩ (fun r_9 u_9 H locs hw_9 hP hD hS => ?_)
  have hP : va_P (dC, dI) classes [(b0, .inr (4, [.ref h0, .ref g0, .ref a0, .ref w0, .ref e0, .ref f0, .int 0, .int 0])), (h0, .inr (1, [.ref q1, .ref q2, .ref q3, .ref q4, .int (nI (n + 1))])), (q1, .inl (cI, 40, .inl ((bc_pu P n k o tt z) 1))), (q2, .inl (cI, 40, .inl ((bc_pu P n k o tt z) 2))), (q3, .inl (cI, 40, .inl ((bc_pu P n k o tt z) 3))), (q4, .inl (cI, 40, .inl ((bc_pu P n k o tt z) 4))), (e0, .inr (2, [.ref v1, .int pl0, .int sp0, .int 0])), (f0, .inr (2, [.ref v2, .int pl1, .int sp1, .int 0])), (o9, .inl (cL, 1, .inr (.inl Ou)))] H := hP.sub [1, 2, 3, 4, 5, 6, 7, 8, 0] rfl
  have hD : va_D A [(b0, .inr (4, [.ref h0, .ref g0, .ref a0, .ref w0, .ref e0, .ref f0, .int 0, .int 0])), (h0, .inr (1, [.ref q1, .ref q2, .ref q3, .ref q4, .int (nI (n + 1))])), (q1, .inl (cI, 40, .inl ((bc_pu P n k o tt z) 1))), (q2, .inl (cI, 40, .inl ((bc_pu P n k o tt z) 2))), (q3, .inl (cI, 40, .inl ((bc_pu P n k o tt z) 3))), (q4, .inl (cI, 40, .inl ((bc_pu P n k o tt z) 4))), (e0, .inr (2, [.ref v1, .int pl0, .int sp0, .int 0])), (f0, .inr (2, [.ref v2, .int pl1, .int sp1, .int 0])), (o9, .inl (cL, 1, .inr (.inl Ou)))] := hD.sub [1, 2, 3, 4, 5, 6, 7, 8, 0] (by decide) rfl
  subst hw_9
  refine lv_i2l (v := (nI (n + 1)).toInt64) hx hb de_L_add_12 rfl ?_
  refine va_last (i := 0) hx hb hK3 hP hD hS 8 2 rfl rfl (by unfold vp_in; decide) de_L_add_13 (fun H locs hP hD hS => ?_)
  have hP : va_P (dC, dI) classes [(b0, .inr (4, [.ref h0, .ref g0, .ref a0, .ref w0, .ref e0, .ref f0, .int 0, .int 0])), (h0, .inr (1, [.ref q1, .ref q2, .ref q3, .ref q4, .int (nI (n + 1))])), (q1, .inl (cI, 40, .inl ((bc_pu P n k o tt z) 1))), (q2, .inl (cI, 40, .inl ((bc_pu P n k o tt z) 2))), (q3, .inl (cI, 40, .inl ((bc_pu P n k o tt z) 3))), (q4, .inl (cI, 40, .inl ((bc_pu P n k o tt z) 4))), (e0, .inr (2, [.ref v1, .int pl0, .int sp0, .int 0])), (f0, .inr (2, [.ref v2, .int pl1, .int sp1, .int 0])), (o9, .inl (cL, 1, .inr (.inl (vp_updL Ou 0 ((nI (n + 1)).toInt64)))))] H := hP
  have hD : va_D A [(b0, .inr (4, [.ref h0, .ref g0, .ref a0, .ref w0, .ref e0, .ref f0, .int 0, .int 0])), (h0, .inr (1, [.ref q1, .ref q2, .ref q3, .ref q4, .int (nI (n + 1))])), (q1, .inl (cI, 40, .inl ((bc_pu P n k o tt z) 1))), (q2, .inl (cI, 40, .inl ((bc_pu P n k o tt z) 2))), (q3, .inl (cI, 40, .inl ((bc_pu P n k o tt z) 3))), (q4, .inl (cI, 40, .inl ((bc_pu P n k o tt z) 4))), (e0, .inr (2, [.ref v1, .int pl0, .int sp0, .int 0])), (f0, .inr (2, [.ref v2, .int pl1, .int sp1, .int 0])), (o9, .inl (cL, 1, .inr (.inl (vp_updL Ou 0 ((nI (n + 1)).toInt64)))))] := hD
  refine lv_goto (tgt := 25) hx hb de_L_add_14 (by decide) ?_
  refine lv_iconst (v := 0) hx hb de_L_add_25 (by decide) ?_
  exact bc_iret F3 hr hlocks (()) rfl hP hD hS de_L_add_26

set_option maxHeartbeats 4000000 in
set_option maxRecDepth 100000 in
theorem co_L_change {l : Launch} {dC : Nat → ClassId} {dI : Nat → Nat → Nat} {cI cZ cL : ClassId} {sz : Nat} (hl0 : l.stackTraces = false) {b0 h0 q1 q2 q3 q4 g0 a0 w0 e0 v1 f0 v2 n : Nat} {P : Nat → bc_F} {an ra pl0 pl1 sp0 sp1 on0 on1 : Int32}  {j : Nat} {k o tt z : Int32} (hn : n ≤ 40) (hj : j < n) (hsi : bc_si k o tt z) : Met l yn_L_change (Cond.codeWith yn_L_change by_L_change 7 (some FieldType.int) [(0, 11, 14, 21), (0, 11, 18, 13)] :: wd_all) ({ frames := 4, cells := 0, slots := 0, locals := 92 } : Room) (bc_PreX (dC, dI) classes [(cI, .int), (cZ, .boolean), (cL, .long)] [.ref b0, .int (nI j), .int k, .int o, .int tt, .int z] [(b0, .inr (4, [.ref h0, .ref g0, .ref a0, .ref w0, .ref e0, .ref f0, .int an, .int ra])), (h0, .inr (1, [.ref q1, .ref q2, .ref q3, .ref q4, .int (nI n)])), (q1, .inl (cI, 40, .inl (P 1))), (q2, .inl (cI, 40, .inl (P 2))), (q3, .inl (cI, 40, .inl (P 3))), (q4, .inl (cI, 40, .inl (P 4))), (e0, .inr (2, [.ref v1, .int pl0, .int sp0, .int on0])), (f0, .inr (2, [.ref v2, .int pl1, .int sp1, .int on1]))] sz) (va_Qi (fun (r : Int32) (u : Unit) => r = 0) (fun (u : Unit) t => bc_B (dC, dI) classes [(cI, .int), (cZ, .boolean), (cL, .long)] (va_A [(b0, .inr (4, [.ref h0, .ref g0, .ref a0, .ref w0, .ref e0, .ref f0, .int an, .int ra])), (h0, .inr (1, [.ref q1, .ref q2, .ref q3, .ref q4, .int (nI n)])), (q1, .inl (cI, 40, .inl (P 1))), (q2, .inl (cI, 40, .inl (P 2))), (q3, .inl (cI, 40, .inl (P 3))), (q4, .inl (cI, 40, .inl (P 4))), (e0, .inr (2, [.ref v1, .int pl0, .int sp0, .int on0])), (f0, .inr (2, [.ref v2, .int pl1, .int sp1, .int on1]))] sz) [(b0, .inr (4, [.ref h0, .ref g0, .ref a0, .ref w0, .ref e0, .ref f0, .int 0, .int 0])), (h0, .inr (1, [.ref q1, .ref q2, .ref q3, .ref q4, .int (nI n)])), (q1, .inl (cI, 40, .inl ((bc_pu P j k o tt z) 1))), (q2, .inl (cI, 40, .inl ((bc_pu P j k o tt z) 2))), (q3, .inl (cI, 40, .inl ((bc_pu P j k o tt z) 3))), (q4, .inl (cI, 40, .inl ((bc_pu P j k o tt z) 4))), (e0, .inr (2, [.ref v1, .int pl0, .int sp0, .int 0])), (f0, .inr (2, [.ref v2, .int pl1, .int sp1, .int 0]))] t) ((va_A [(b0, .inr (4, [.ref h0, .ref g0, .ref a0, .ref w0, .ref e0, .ref f0, .int an, .int ra])), (h0, .inr (1, [.ref q1, .ref q2, .ref q3, .ref q4, .int (nI n)])), (q1, .inl (cI, 40, .inl (P 1))), (q2, .inl (cI, 40, .inl (P 2))), (q3, .inl (cI, 40, .inl (P 3))), (q4, .inl (cI, 40, .inl (P 4))), (e0, .inr (2, [.ref v1, .int pl0, .int sp0, .int on0])), (f0, .inr (2, [.ref v2, .int pl1, .int sp1, .int on1]))] sz))) 0 0 (va_A [(b0, .inr (4, [.ref h0, .ref g0, .ref a0, .ref w0, .ref e0, .ref f0, .int an, .int ra])), (h0, .inr (1, [.ref q1, .ref q2, .ref q3, .ref q4, .int (nI n)])), (q1, .inl (cI, 40, .inl (P 1))), (q2, .inl (cI, 40, .inl (P 2))), (q3, .inl (cI, 40, .inl (P 3))), (q4, .inl (cI, 40, .inl (P 4))), (e0, .inr (2, [.ref v1, .int pl0, .int sp0, .int on0])), (f0, .inr (2, [.ref v2, .int pl1, .int sp1, .int on1]))] sz) := by
  refine bc_metW (fun A => va_Qi (fun (r : Int32) (u : Unit) => r = 0) (fun (u : Unit) t => bc_B (dC, dI) classes [(cI, .int), (cZ, .boolean), (cL, .long)] A [(b0, .inr (4, [.ref h0, .ref g0, .ref a0, .ref w0, .ref e0, .ref f0, .int 0, .int 0])), (h0, .inr (1, [.ref q1, .ref q2, .ref q3, .ref q4, .int (nI n)])), (q1, .inl (cI, 40, .inl ((bc_pu P j k o tt z) 1))), (q2, .inl (cI, 40, .inl ((bc_pu P j k o tt z) 2))), (q3, .inl (cI, 40, .inl ((bc_pu P j k o tt z) 3))), (q4, .inl (cI, 40, .inl ((bc_pu P j k o tt z) 4))), (e0, .inr (2, [.ref v1, .int pl0, .int sp0, .int 0])), (f0, .inr (2, [.ref v2, .int pl1, .int sp1, .int 0]))] t) A) (by decide) (Nat.le_of_ble_eq_true rfl) ?_
  intro p e s m args below meth c A ls F3 hr hlocks hA hP hD hl hS hT9 htab
  have F : bc_Fx p m c by_L_change 7 s args "BranchConstantsLaw" (dC, dI) classes [(cI, .int), (cZ, .boolean)] := ⟨F3.1, F3.2.1, F3.2.2.1, F3.2.2.2.1, F3.2.2.2.2.1, F3.2.2.2.2.2.1, va_K.sub F3.2.2.2.2.2.2 [0, 1] rfl⟩
  have hx := F.1
  have hb := F.2.1
  have hml := F.2.2.1
  have hown : s.vm.findClass "BranchConstantsLaw" = some m.cls := F.2.2.2.1
  have htw := F.2.2.2.2.1
  have hN := F.2.2.2.2.2.1
  have hK := F.2.2.2.2.2.2
  have hK3 := F3.2.2.2.2.2.2
  have hl : lv_has ls 7 [(0, .ref b0), (1, .int (nI j)), (2, .int k), (3, .int o), (4, .int tt), (5, .int z)] := hl
  refine lv_aload_n hx hb de_L_change_0 rfl (lv_at hl 0 rfl) ?_
  refine lv_iload_n hx hb de_L_change_1 rfl (lv_at hl 1 rfl) ?_
  refine lv_iload_n hx hb de_L_change_2 rfl (lv_at hl 2 rfl) ?_
  refine lv_iload_n hx hb de_L_change_3 rfl (lv_at hl 3 rfl) ?_
  refine lv_iload hx hb de_L_change_4 (lv_at hl 4 rfl) ?_
  refine lv_iload hx hb de_L_change_6 (lv_at hl 5 rfl) ?_
  refine bc_call_v_v (As := [.int (nI j), .int k, .int o, .int tt, .int z]) (rest := []) (wr := []) F (co_B_change hn hj hsi) wm_263 wm_1 wm_260 wm_261 wm_262 0 rfl rfl pd_B_change rfl rfl ⟨Nat.le_of_ble_eq_true rfl, Nat.le_of_ble_eq_true rfl⟩ hP hD hS hA [0, 1, 2, 3, 4, 5, 6, 7] [] rfl rfl rfl rfl (by decide) rfl hl.1 rfl (Nat.le_of_ble_eq_true rfl) de_L_change_8 ⟨Nat.le_of_ble_eq_true rfl, Nat.le_of_ble_eq_true rfl⟩ (fun u_8 H locs hw_8 hP hD hS => ?_)
  have hP : va_P (dC, dI) classes [(b0, .inr (4, [.ref h0, .ref g0, .ref a0, .ref w0, .ref e0, .ref f0, .int 0, .int 0])), (h0, .inr (1, [.ref q1, .ref q2, .ref q3, .ref q4, .int (nI n)])), (q1, .inl (cI, 40, .inl ((bc_pu P j k o tt z) 1))), (q2, .inl (cI, 40, .inl ((bc_pu P j k o tt z) 2))), (q3, .inl (cI, 40, .inl ((bc_pu P j k o tt z) 3))), (q4, .inl (cI, 40, .inl ((bc_pu P j k o tt z) 4))), (e0, .inr (2, [.ref v1, .int pl0, .int sp0, .int 0])), (f0, .inr (2, [.ref v2, .int pl1, .int sp1, .int 0]))] H := hP.sub [0, 1, 2, 3, 4, 5, 6, 7] rfl
  have hD : va_D A [(b0, .inr (4, [.ref h0, .ref g0, .ref a0, .ref w0, .ref e0, .ref f0, .int 0, .int 0])), (h0, .inr (1, [.ref q1, .ref q2, .ref q3, .ref q4, .int (nI n)])), (q1, .inl (cI, 40, .inl ((bc_pu P j k o tt z) 1))), (q2, .inl (cI, 40, .inl ((bc_pu P j k o tt z) 2))), (q3, .inl (cI, 40, .inl ((bc_pu P j k o tt z) 3))), (q4, .inl (cI, 40, .inl ((bc_pu P j k o tt z) 4))), (e0, .inr (2, [.ref v1, .int pl0, .int sp0, .int 0])), (f0, .inr (2, [.ref v2, .int pl1, .int sp1, .int 0]))] := hD.sub [0, 1, 2, 3, 4, 5, 6, 7] (by decide) rfl
  refine lv_goto (tgt := 22) hx hb de_L_change_11 (by decide) ?_
  refine lv_iconst (v := 0) hx hb de_L_change_22 (by decide) ?_
  exact bc_iret F3 hr hlocks (()) rfl hP hD hS de_L_change_23

set_option maxHeartbeats 4000000 in
set_option maxRecDepth 100000 in
theorem co_L_addxa {l : Launch} {dC : Nat → ClassId} {dI : Nat → Nat → Nat} {cI cZ cL : ClassId} {sz : Nat} (hl0 : l.stackTraces = false) {b0 h0 g0 a0 w0 e0 f0 : Nat} {an ra : Int32} {o9 : Nat}  {k o tt z : Int32} (hsi : ¬ bc_si k o tt z) : Met l yn_L_add (Cond.codeWith yn_L_add by_L_add 7 (some FieldType.int) [(0, 14, 17, 13), (0, 14, 21, 15)] :: wd_all) ({ frames := 8, cells := 1, slots := 6, locals := 130 } : Room) (bc_PreX (dC, dI) classes [(cI, .int), (cZ, .boolean), (cL, .long)] [.ref b0, .int k, .int o, .int tt, .int z, .ref o9] [(b0, .inr (4, [.ref h0, .ref g0, .ref a0, .ref w0, .ref e0, .ref f0, .int an, .int ra]))] sz) (va_Qi (fun (r : Int32) (u : Unit) => r = 1) (fun (u : Unit) t => bc_B (dC, dI) classes [(cI, .int), (cZ, .boolean), (cL, .long)] (va_A [(b0, .inr (4, [.ref h0, .ref g0, .ref a0, .ref w0, .ref e0, .ref f0, .int an, .int ra]))] sz) [(b0, .inr (4, [.ref h0, .ref g0, .ref a0, .ref w0, .ref e0, .ref f0, .int an, .int ra]))] t) ((va_A [(b0, .inr (4, [.ref h0, .ref g0, .ref a0, .ref w0, .ref e0, .ref f0, .int an, .int ra]))] sz))) 1 6 (va_A [(b0, .inr (4, [.ref h0, .ref g0, .ref a0, .ref w0, .ref e0, .ref f0, .int an, .int ra]))] sz) := by
  refine bc_metW (fun A => va_Qi (fun (r : Int32) (u : Unit) => r = 1) (fun (u : Unit) t => bc_B (dC, dI) classes [(cI, .int), (cZ, .boolean), (cL, .long)] A [(b0, .inr (4, [.ref h0, .ref g0, .ref a0, .ref w0, .ref e0, .ref f0, .int an, .int ra]))] t) A) (by decide) (Nat.le_of_ble_eq_true rfl) ?_
  intro p e s m args below meth c A ls F3 hr hlocks hA hP hD hl hS hT9 htab
  have F : bc_Fx p m c by_L_add 7 s args "BranchConstantsLaw" (dC, dI) classes [(cI, .int), (cZ, .boolean)] := ⟨F3.1, F3.2.1, F3.2.2.1, F3.2.2.2.1, F3.2.2.2.2.1, F3.2.2.2.2.2.1, va_K.sub F3.2.2.2.2.2.2 [0, 1] rfl⟩
  have hx := F.1
  have hb := F.2.1
  have hml := F.2.2.1
  have hown : s.vm.findClass "BranchConstantsLaw" = some m.cls := F.2.2.2.1
  have htw := F.2.2.2.2.1
  have hN := F.2.2.2.2.2.1
  have hK := F.2.2.2.2.2.2
  have hK3 := F3.2.2.2.2.2.2
  have hl : lv_has ls 7 [(0, .ref b0), (1, .int k), (2, .int o), (3, .int tt), (4, .int z), (5, .ref o9)] := hl
  refine lv_aload hx hb de_L_add_0 (lv_at hl 5 rfl) ?_
  refine lv_iconst (v := 0) hx hb de_L_add_2 (by decide) ?_
  refine lv_aload_n hx hb de_L_add_3 rfl (lv_at hl 0 rfl) ?_
  refine lv_iload_n hx hb de_L_add_4 rfl (lv_at hl 1 rfl) ?_
  refine lv_iload_n hx hb de_L_add_5 rfl (lv_at hl 2 rfl) ?_
  refine lv_iload_n hx hb de_L_add_6 rfl (lv_at hl 3 rfl) ?_
  refine lv_iload hx hb de_L_add_7 (lv_at hl 4 rfl) ?_
  refine bc_xcatch (As := [.int k, .int o, .int tt, .int z]) (rest := [.int 0, .ref o9]) (pre := []) (post := [(0, 14, 21, 15)]) (sp := 0) (ep := 14) (hp := 17) (ct := 13) F hT9 (cx_B_adda hl0 hsi) wm_177 wm_1 wm_174 wm_175 wm_176 0 rfl rfl pd_B_add rfl rfl ⟨Nat.le_of_ble_eq_true rfl, Nat.le_of_ble_eq_true rfl⟩ hP (hD.weaken (fun _ _ _ _ => trivial)) [0] rfl rfl rfl hl.1 rfl (Nat.le_of_ble_eq_true rfl) de_L_add_9 ⟨Nat.le_of_ble_eq_true rfl, Nat.le_of_ble_eq_true rfl⟩ htab rfl (fun z hz => absurd hz List.not_mem_nil) (by decide) (by decide) wm_172 (List.mem_of_getElem? (i := 3) rfl) (fun q9 H hk hz => ?_)
  have hS : va_S A s.heap H [] := ⟨hz, fun q h1 _ => hk q h1, fun q hq => absurd hq List.not_mem_nil⟩
  have hP : va_P (dC, dI) classes [(b0, .inr (4, [.ref h0, .ref g0, .ref a0, .ref w0, .ref e0, .ref f0, .int an, .int ra]))] H := hP.kept (fun k x hx => hk x.1 ((hP k x hx).lt))
  refine lv_astore (lv' := [(6, .ref q9), (0, .ref b0), (1, .int k), (2, .int o), (3, .int tt), (4, .int z), (5, .ref o9)]) hx hb de_L_add_17 hl (by decide) rfl (fun ls hl => ?_)
  refine lv_iconst (v := 1) hx hb de_L_add_19 (by decide) ?_
  exact bc_iret F3 hr hlocks (()) rfl hP hD hS de_L_add_20

set_option maxHeartbeats 4000000 in
set_option maxRecDepth 100000 in
theorem co_L_addxb {l : Launch} {dC : Nat → ClassId} {dI : Nat → Nat → Nat} {cI cZ cL : ClassId} {sz : Nat} (hl0 : l.stackTraces = false) {b0 h0 q1 q2 q3 q4 g0 a0 w0 e0 f0 n : Nat} {an ra : Int32} {o9 : Nat}  {k o tt z : Int32} (hsi : bc_si k o tt z) (h40 : n = 40) : Met l yn_L_add (Cond.codeWith yn_L_add by_L_add 7 (some FieldType.int) [(0, 14, 17, 13), (0, 14, 21, 15)] :: wd_all) ({ frames := 8, cells := 1, slots := 6, locals := 130 } : Room) (bc_PreX (dC, dI) classes [(cI, .int), (cZ, .boolean), (cL, .long)] [.ref b0, .int k, .int o, .int tt, .int z, .ref o9] [(b0, .inr (4, [.ref h0, .ref g0, .ref a0, .ref w0, .ref e0, .ref f0, .int an, .int ra])), (h0, .inr (1, [.ref q1, .ref q2, .ref q3, .ref q4, .int (nI n)]))] sz) (va_Qi (fun (r : Int32) (u : Unit) => r = 2) (fun (u : Unit) t => bc_B (dC, dI) classes [(cI, .int), (cZ, .boolean), (cL, .long)] (va_A [(b0, .inr (4, [.ref h0, .ref g0, .ref a0, .ref w0, .ref e0, .ref f0, .int an, .int ra])), (h0, .inr (1, [.ref q1, .ref q2, .ref q3, .ref q4, .int (nI n)]))] sz) [(b0, .inr (4, [.ref h0, .ref g0, .ref a0, .ref w0, .ref e0, .ref f0, .int an, .int ra])), (h0, .inr (1, [.ref q1, .ref q2, .ref q3, .ref q4, .int (nI n)]))] t) ((va_A [(b0, .inr (4, [.ref h0, .ref g0, .ref a0, .ref w0, .ref e0, .ref f0, .int an, .int ra])), (h0, .inr (1, [.ref q1, .ref q2, .ref q3, .ref q4, .int (nI n)]))] sz))) 1 6 (va_A [(b0, .inr (4, [.ref h0, .ref g0, .ref a0, .ref w0, .ref e0, .ref f0, .int an, .int ra])), (h0, .inr (1, [.ref q1, .ref q2, .ref q3, .ref q4, .int (nI n)]))] sz) := by
  refine bc_metW (fun A => va_Qi (fun (r : Int32) (u : Unit) => r = 2) (fun (u : Unit) t => bc_B (dC, dI) classes [(cI, .int), (cZ, .boolean), (cL, .long)] A [(b0, .inr (4, [.ref h0, .ref g0, .ref a0, .ref w0, .ref e0, .ref f0, .int an, .int ra])), (h0, .inr (1, [.ref q1, .ref q2, .ref q3, .ref q4, .int (nI n)]))] t) A) (by decide) (Nat.le_of_ble_eq_true rfl) ?_
  intro p e s m args below meth c A ls F3 hr hlocks hA hP hD hl hS hT9 htab
  have F : bc_Fx p m c by_L_add 7 s args "BranchConstantsLaw" (dC, dI) classes [(cI, .int), (cZ, .boolean)] := ⟨F3.1, F3.2.1, F3.2.2.1, F3.2.2.2.1, F3.2.2.2.2.1, F3.2.2.2.2.2.1, va_K.sub F3.2.2.2.2.2.2 [0, 1] rfl⟩
  have hx := F.1
  have hb := F.2.1
  have hml := F.2.2.1
  have hown : s.vm.findClass "BranchConstantsLaw" = some m.cls := F.2.2.2.1
  have htw := F.2.2.2.2.1
  have hN := F.2.2.2.2.2.1
  have hK := F.2.2.2.2.2.2
  have hK3 := F3.2.2.2.2.2.2
  have hl : lv_has ls 7 [(0, .ref b0), (1, .int k), (2, .int o), (3, .int tt), (4, .int z), (5, .ref o9)] := hl
  refine lv_aload hx hb de_L_add_0 (lv_at hl 5 rfl) ?_
  refine lv_iconst (v := 0) hx hb de_L_add_2 (by decide) ?_
  refine lv_aload_n hx hb de_L_add_3 rfl (lv_at hl 0 rfl) ?_
  refine lv_iload_n hx hb de_L_add_4 rfl (lv_at hl 1 rfl) ?_
  refine lv_iload_n hx hb de_L_add_5 rfl (lv_at hl 2 rfl) ?_
  refine lv_iload_n hx hb de_L_add_6 rfl (lv_at hl 3 rfl) ?_
  refine lv_iload hx hb de_L_add_7 (lv_at hl 4 rfl) ?_
  refine bc_xcatch (As := [.int k, .int o, .int tt, .int z]) (rest := [.int 0, .ref o9]) (pre := [(0, 14, 17, 13)]) (post := []) (sp := 0) (ep := 14) (hp := 21) (ct := 15) F hT9 (cx_B_addb hl0 hsi h40) wm_177 wm_1 wm_174 wm_175 wm_176 0 rfl rfl pd_B_add rfl rfl ⟨Nat.le_of_ble_eq_true rfl, Nat.le_of_ble_eq_true rfl⟩ hP (hD.weaken (fun _ _ _ _ => trivial)) [0, 1] rfl rfl rfl hl.1 rfl (Nat.le_of_ble_eq_true rfl) de_L_add_9 ⟨Nat.le_of_ble_eq_true rfl, Nat.le_of_ble_eq_true rfl⟩ htab rfl (List.forall_mem_cons.mpr ⟨⟨"java/lang/IllegalArgumentException", by decide, wm_172, List.mem_of_getElem? (i := 8) rfl⟩, (fun z hz => absurd hz List.not_mem_nil)⟩) (by decide) (by decide) wm_173 (List.mem_of_getElem? (i := 4) rfl) (fun q9 H hk hz => ?_)
  have hS : va_S A s.heap H [] := ⟨hz, fun q h1 _ => hk q h1, fun q hq => absurd hq List.not_mem_nil⟩
  have hP : va_P (dC, dI) classes [(b0, .inr (4, [.ref h0, .ref g0, .ref a0, .ref w0, .ref e0, .ref f0, .int an, .int ra])), (h0, .inr (1, [.ref q1, .ref q2, .ref q3, .ref q4, .int (nI n)]))] H := hP.kept (fun k x hx => hk x.1 ((hP k x hx).lt))
  refine lv_astore (lv' := [(6, .ref q9), (0, .ref b0), (1, .int k), (2, .int o), (3, .int tt), (4, .int z), (5, .ref o9)]) hx hb de_L_add_21 hl (by decide) rfl (fun ls hl => ?_)
  refine lv_iconst (v := 2) hx hb de_L_add_23 (by decide) ?_
  exact bc_iret F3 hr hlocks (()) rfl hP hD hS de_L_add_24

set_option maxHeartbeats 4000000 in
set_option maxRecDepth 100000 in
theorem co_L_changexa {l : Launch} {dC : Nat → ClassId} {dI : Nat → Nat → Nat} {cI cZ cL : ClassId} {sz : Nat} (hl0 : l.stackTraces = false) {b0 h0 q1 q2 q3 q4 g0 a0 w0 e0 f0 n : Nat} {an ra : Int32}  {x k o tt z : Int32} (hn : n ≤ 40) (hix : ¬ bc_ix n x) : Met l yn_L_change (Cond.codeWith yn_L_change by_L_change 7 (some FieldType.int) [(0, 11, 14, 21), (0, 11, 18, 13)] :: wd_all) ({ frames := 8, cells := 1, slots := 6, locals := 131 } : Room) (bc_PreX (dC, dI) classes [(cI, .int), (cZ, .boolean), (cL, .long)] [.ref b0, .int x, .int k, .int o, .int tt, .int z] [(b0, .inr (4, [.ref h0, .ref g0, .ref a0, .ref w0, .ref e0, .ref f0, .int an, .int ra])), (h0, .inr (1, [.ref q1, .ref q2, .ref q3, .ref q4, .int (nI n)]))] sz) (va_Qi (fun (r : Int32) (u : Unit) => r = 1) (fun (u : Unit) t => bc_B (dC, dI) classes [(cI, .int), (cZ, .boolean), (cL, .long)] (va_A [(b0, .inr (4, [.ref h0, .ref g0, .ref a0, .ref w0, .ref e0, .ref f0, .int an, .int ra])), (h0, .inr (1, [.ref q1, .ref q2, .ref q3, .ref q4, .int (nI n)]))] sz) [(b0, .inr (4, [.ref h0, .ref g0, .ref a0, .ref w0, .ref e0, .ref f0, .int an, .int ra])), (h0, .inr (1, [.ref q1, .ref q2, .ref q3, .ref q4, .int (nI n)]))] t) ((va_A [(b0, .inr (4, [.ref h0, .ref g0, .ref a0, .ref w0, .ref e0, .ref f0, .int an, .int ra])), (h0, .inr (1, [.ref q1, .ref q2, .ref q3, .ref q4, .int (nI n)]))] sz))) 1 6 (va_A [(b0, .inr (4, [.ref h0, .ref g0, .ref a0, .ref w0, .ref e0, .ref f0, .int an, .int ra])), (h0, .inr (1, [.ref q1, .ref q2, .ref q3, .ref q4, .int (nI n)]))] sz) := by
  refine bc_metW (fun A => va_Qi (fun (r : Int32) (u : Unit) => r = 1) (fun (u : Unit) t => bc_B (dC, dI) classes [(cI, .int), (cZ, .boolean), (cL, .long)] A [(b0, .inr (4, [.ref h0, .ref g0, .ref a0, .ref w0, .ref e0, .ref f0, .int an, .int ra])), (h0, .inr (1, [.ref q1, .ref q2, .ref q3, .ref q4, .int (nI n)]))] t) A) (by decide) (Nat.le_of_ble_eq_true rfl) ?_
  intro p e s m args below meth c A ls F3 hr hlocks hA hP hD hl hS hT9 htab
  have F : bc_Fx p m c by_L_change 7 s args "BranchConstantsLaw" (dC, dI) classes [(cI, .int), (cZ, .boolean)] := ⟨F3.1, F3.2.1, F3.2.2.1, F3.2.2.2.1, F3.2.2.2.2.1, F3.2.2.2.2.2.1, va_K.sub F3.2.2.2.2.2.2 [0, 1] rfl⟩
  have hx := F.1
  have hb := F.2.1
  have hml := F.2.2.1
  have hown : s.vm.findClass "BranchConstantsLaw" = some m.cls := F.2.2.2.1
  have htw := F.2.2.2.2.1
  have hN := F.2.2.2.2.2.1
  have hK := F.2.2.2.2.2.2
  have hK3 := F3.2.2.2.2.2.2
  have hl : lv_has ls 7 [(0, .ref b0), (1, .int x), (2, .int k), (3, .int o), (4, .int tt), (5, .int z)] := hl
  refine lv_aload_n hx hb de_L_change_0 rfl (lv_at hl 0 rfl) ?_
  refine lv_iload_n hx hb de_L_change_1 rfl (lv_at hl 1 rfl) ?_
  refine lv_iload_n hx hb de_L_change_2 rfl (lv_at hl 2 rfl) ?_
  refine lv_iload_n hx hb de_L_change_3 rfl (lv_at hl 3 rfl) ?_
  refine lv_iload hx hb de_L_change_4 (lv_at hl 4 rfl) ?_
  refine lv_iload hx hb de_L_change_6 (lv_at hl 5 rfl) ?_
  refine bc_xcatch (As := [.int x, .int k, .int o, .int tt, .int z]) (rest := []) (pre := []) (post := [(0, 11, 18, 13)]) (sp := 0) (ep := 11) (hp := 14) (ct := 21) F hT9 (cx_B_changea hl0 hn hix) wm_263 wm_1 wm_260 wm_261 wm_262 0 rfl rfl pd_B_change rfl rfl ⟨Nat.le_of_ble_eq_true rfl, Nat.le_of_ble_eq_true rfl⟩ hP (hD.weaken (fun _ _ _ _ => trivial)) [0, 1] rfl rfl rfl hl.1 rfl (Nat.le_of_ble_eq_true rfl) de_L_change_8 ⟨Nat.le_of_ble_eq_true rfl, Nat.le_of_ble_eq_true rfl⟩ htab rfl (fun z hz => absurd hz List.not_mem_nil) (by decide) (by decide) wm_259 (List.mem_of_getElem? (i := 5) rfl) (fun q9 H hk hz => ?_)
  have hS : va_S A s.heap H [] := ⟨hz, fun q h1 _ => hk q h1, fun q hq => absurd hq List.not_mem_nil⟩
  have hP : va_P (dC, dI) classes [(b0, .inr (4, [.ref h0, .ref g0, .ref a0, .ref w0, .ref e0, .ref f0, .int an, .int ra])), (h0, .inr (1, [.ref q1, .ref q2, .ref q3, .ref q4, .int (nI n)]))] H := hP.kept (fun k x hx => hk x.1 ((hP k x hx).lt))
  refine lv_astore (lv' := [(6, .ref q9), (0, .ref b0), (1, .int x), (2, .int k), (3, .int o), (4, .int tt), (5, .int z)]) hx hb de_L_change_14 hl (by decide) rfl (fun ls hl => ?_)
  refine lv_iconst (v := 1) hx hb de_L_change_16 (by decide) ?_
  exact bc_iret F3 hr hlocks (()) rfl hP hD hS de_L_change_17

set_option maxHeartbeats 4000000 in
set_option maxRecDepth 100000 in
theorem co_L_changexb {l : Launch} {dC : Nat → ClassId} {dI : Nat → Nat → Nat} {cI cZ cL : ClassId} {sz : Nat} (hl0 : l.stackTraces = false) {b0 h0 q1 q2 q3 q4 g0 a0 w0 e0 f0 n : Nat} {an ra : Int32}  {j : Nat} {k o tt z : Int32} (hn : n ≤ 40) (hj : j < n) (hsi : ¬ bc_si k o tt z) : Met l yn_L_change (Cond.codeWith yn_L_change by_L_change 7 (some FieldType.int) [(0, 11, 14, 21), (0, 11, 18, 13)] :: wd_all) ({ frames := 8, cells := 1, slots := 6, locals := 131 } : Room) (bc_PreX (dC, dI) classes [(cI, .int), (cZ, .boolean), (cL, .long)] [.ref b0, .int (nI j), .int k, .int o, .int tt, .int z] [(b0, .inr (4, [.ref h0, .ref g0, .ref a0, .ref w0, .ref e0, .ref f0, .int an, .int ra])), (h0, .inr (1, [.ref q1, .ref q2, .ref q3, .ref q4, .int (nI n)]))] sz) (va_Qi (fun (r : Int32) (u : Unit) => r = 2) (fun (u : Unit) t => bc_B (dC, dI) classes [(cI, .int), (cZ, .boolean), (cL, .long)] (va_A [(b0, .inr (4, [.ref h0, .ref g0, .ref a0, .ref w0, .ref e0, .ref f0, .int an, .int ra])), (h0, .inr (1, [.ref q1, .ref q2, .ref q3, .ref q4, .int (nI n)]))] sz) [(b0, .inr (4, [.ref h0, .ref g0, .ref a0, .ref w0, .ref e0, .ref f0, .int an, .int ra])), (h0, .inr (1, [.ref q1, .ref q2, .ref q3, .ref q4, .int (nI n)]))] t) ((va_A [(b0, .inr (4, [.ref h0, .ref g0, .ref a0, .ref w0, .ref e0, .ref f0, .int an, .int ra])), (h0, .inr (1, [.ref q1, .ref q2, .ref q3, .ref q4, .int (nI n)]))] sz))) 1 6 (va_A [(b0, .inr (4, [.ref h0, .ref g0, .ref a0, .ref w0, .ref e0, .ref f0, .int an, .int ra])), (h0, .inr (1, [.ref q1, .ref q2, .ref q3, .ref q4, .int (nI n)]))] sz) := by
  refine bc_metW (fun A => va_Qi (fun (r : Int32) (u : Unit) => r = 2) (fun (u : Unit) t => bc_B (dC, dI) classes [(cI, .int), (cZ, .boolean), (cL, .long)] A [(b0, .inr (4, [.ref h0, .ref g0, .ref a0, .ref w0, .ref e0, .ref f0, .int an, .int ra])), (h0, .inr (1, [.ref q1, .ref q2, .ref q3, .ref q4, .int (nI n)]))] t) A) (by decide) (Nat.le_of_ble_eq_true rfl) ?_
  intro p e s m args below meth c A ls F3 hr hlocks hA hP hD hl hS hT9 htab
  have F : bc_Fx p m c by_L_change 7 s args "BranchConstantsLaw" (dC, dI) classes [(cI, .int), (cZ, .boolean)] := ⟨F3.1, F3.2.1, F3.2.2.1, F3.2.2.2.1, F3.2.2.2.2.1, F3.2.2.2.2.2.1, va_K.sub F3.2.2.2.2.2.2 [0, 1] rfl⟩
  have hx := F.1
  have hb := F.2.1
  have hml := F.2.2.1
  have hown : s.vm.findClass "BranchConstantsLaw" = some m.cls := F.2.2.2.1
  have htw := F.2.2.2.2.1
  have hN := F.2.2.2.2.2.1
  have hK := F.2.2.2.2.2.2
  have hK3 := F3.2.2.2.2.2.2
  have hl : lv_has ls 7 [(0, .ref b0), (1, .int (nI j)), (2, .int k), (3, .int o), (4, .int tt), (5, .int z)] := hl
  refine lv_aload_n hx hb de_L_change_0 rfl (lv_at hl 0 rfl) ?_
  refine lv_iload_n hx hb de_L_change_1 rfl (lv_at hl 1 rfl) ?_
  refine lv_iload_n hx hb de_L_change_2 rfl (lv_at hl 2 rfl) ?_
  refine lv_iload_n hx hb de_L_change_3 rfl (lv_at hl 3 rfl) ?_
  refine lv_iload hx hb de_L_change_4 (lv_at hl 4 rfl) ?_
  refine lv_iload hx hb de_L_change_6 (lv_at hl 5 rfl) ?_
  refine bc_xcatch (As := [.int (nI j), .int k, .int o, .int tt, .int z]) (rest := []) (pre := [(0, 11, 14, 21)]) (post := []) (sp := 0) (ep := 11) (hp := 18) (ct := 13) F hT9 (cx_B_changeb hl0 hn hj hsi) wm_263 wm_1 wm_260 wm_261 wm_262 0 rfl rfl pd_B_change rfl rfl ⟨Nat.le_of_ble_eq_true rfl, Nat.le_of_ble_eq_true rfl⟩ hP (hD.weaken (fun _ _ _ _ => trivial)) [0, 1] rfl rfl rfl hl.1 rfl (Nat.le_of_ble_eq_true rfl) de_L_change_8 ⟨Nat.le_of_ble_eq_true rfl, Nat.le_of_ble_eq_true rfl⟩ htab rfl (List.forall_mem_cons.mpr ⟨⟨"java/lang/IndexOutOfBoundsException", by decide, wm_259, List.mem_of_getElem? (i := 7) rfl⟩, (fun z hz => absurd hz List.not_mem_nil)⟩) (by decide) (by decide) wm_172 (List.mem_of_getElem? (i := 3) rfl) (fun q9 H hk hz => ?_)
  have hS : va_S A s.heap H [] := ⟨hz, fun q h1 _ => hk q h1, fun q hq => absurd hq List.not_mem_nil⟩
  have hP : va_P (dC, dI) classes [(b0, .inr (4, [.ref h0, .ref g0, .ref a0, .ref w0, .ref e0, .ref f0, .int an, .int ra])), (h0, .inr (1, [.ref q1, .ref q2, .ref q3, .ref q4, .int (nI n)]))] H := hP.kept (fun k x hx => hk x.1 ((hP k x hx).lt))
  refine lv_astore (lv' := [(6, .ref q9), (0, .ref b0), (1, .int (nI j)), (2, .int k), (3, .int o), (4, .int tt), (5, .int z)]) hx hb de_L_change_18 hl (by decide) rfl (fun ls hl => ?_)
  refine lv_iconst (v := 2) hx hb de_L_change_20 (by decide) ?_
  exact bc_iret F3 hr hlocks (()) rfl hP hD hS de_L_change_21

set_option maxHeartbeats 4000000 in
set_option maxRecDepth 100000 in
theorem co_L_reached {l : Launch} {dC : Nat → ClassId} {dI : Nat → Nat → Nat} {cI cZ cL : ClassId} {sz : Nat} (hl0 : l.stackTraces = false) {b0 h0 q1 q2 q3 q4 g0 a0 s1 s2 s3 s4 s5 w0 e0 f0 n : Nat} {P : Nat → bc_F} {S C Wt SB CB : bc_F} {res an ra : Int32} {o9 : Nat} {Ou : Nat → Int64}  {j : Nat} (hn : n ≤ 40) (hw : bc_wf n (P 1) (P 2) (P 3) (P 4)) (hCI : bc_CI an n P S C Wt) (hj : j < n) : Met l yn_L_reached (Cond.codeWith yn_L_reached by_L_reached 4 (some FieldType.int) [(0, 16, 19, 21)] :: wd_all) ({ frames := 7, cells := 0, slots := 0, locals := 155 } : Room) (bc_PreX (dC, dI) classes [(cI, .int), (cZ, .boolean), (cL, .long)] [.ref b0, .int (nI j), .ref o9] [(b0, .inr (4, [.ref h0, .ref g0, .ref a0, .ref w0, .ref e0, .ref f0, .int an, .int ra])), (a0, .inr (0, [.ref s1, .ref s2, .ref s3, .ref s4, .ref s5, .int res])), (s1, .inl (cI, 240, .inl S)), (s2, .inl (cI, 240, .inl C)), (s3, .inl (cZ, 40, .inl Wt)), (s4, .inl (cI, 6, .inl SB)), (s5, .inl (cI, 6, .inl CB)), (h0, .inr (1, [.ref q1, .ref q2, .ref q3, .ref q4, .int (nI n)])), (q1, .inl (cI, 40, .inl (P 1))), (q2, .inl (cI, 40, .inl (P 2))), (q3, .inl (cI, 40, .inl (P 3))), (q4, .inl (cI, 40, .inl (P 4))), (o9, .inl (cL, 1, .inr (.inl Ou)))] sz) (va_Qi (fun (r : Int32) (u : (bc_F × bc_F × bc_F × bc_F × bc_F × Int32) × Int64) => r = 0 ∧ (∃ g, bc_en u.1.1 u.1.2.1 g ∧ bc_Lst n (P 1) (P 2) (P 3) (P 4) g ∧ u.2 = (if bc_b (g j) = 0 then 0 else 1)) ∧ ∀ j, j < 40 → u.1.2.2.1 j = 0) (fun (u : (bc_F × bc_F × bc_F × bc_F × bc_F × Int32) × Int64) t => bc_B (dC, dI) classes [(cI, .int), (cZ, .boolean), (cL, .long)] (va_A [(b0, .inr (4, [.ref h0, .ref g0, .ref a0, .ref w0, .ref e0, .ref f0, .int an, .int ra])), (a0, .inr (0, [.ref s1, .ref s2, .ref s3, .ref s4, .ref s5, .int res])), (s1, .inl (cI, 240, .inl S)), (s2, .inl (cI, 240, .inl C)), (s3, .inl (cZ, 40, .inl Wt)), (s4, .inl (cI, 6, .inl SB)), (s5, .inl (cI, 6, .inl CB)), (h0, .inr (1, [.ref q1, .ref q2, .ref q3, .ref q4, .int (nI n)])), (q1, .inl (cI, 40, .inl (P 1))), (q2, .inl (cI, 40, .inl (P 2))), (q3, .inl (cI, 40, .inl (P 3))), (q4, .inl (cI, 40, .inl (P 4))), (o9, .inl (cL, 1, .inr (.inl Ou)))] sz) [(b0, .inr (4, [.ref h0, .ref g0, .ref a0, .ref w0, .ref e0, .ref f0, .int 1, .int ra])), (a0, .inr (0, [.ref s1, .ref s2, .ref s3, .ref s4, .ref s5, .int u.1.2.2.2.2.2])), (s1, .inl (cI, 240, .inl u.1.1)), (s2, .inl (cI, 240, .inl u.1.2.1)), (s3, .inl (cZ, 40, .inl u.1.2.2.1)), (s4, .inl (cI, 6, .inl u.1.2.2.2.1)), (s5, .inl (cI, 6, .inl u.1.2.2.2.2.1)), (h0, .inr (1, [.ref q1, .ref q2, .ref q3, .ref q4, .int (nI n)])), (q1, .inl (cI, 40, .inl (P 1))), (q2, .inl (cI, 40, .inl (P 2))), (q3, .inl (cI, 40, .inl (P 3))), (q4, .inl (cI, 40, .inl (P 4))), (o9, .inl (cL, 1, .inr (.inl (vp_updL Ou 0 u.2))))] t) ((va_A [(b0, .inr (4, [.ref h0, .ref g0, .ref a0, .ref w0, .ref e0, .ref f0, .int an, .int ra])), (a0, .inr (0, [.ref s1, .ref s2, .ref s3, .ref s4, .ref s5, .int res])), (s1, .inl (cI, 240, .inl S)), (s2, .inl (cI, 240, .inl C)), (s3, .inl (cZ, 40, .inl Wt)), (s4, .inl (cI, 6, .inl SB)), (s5, .inl (cI, 6, .inl CB)), (h0, .inr (1, [.ref q1, .ref q2, .ref q3, .ref q4, .int (nI n)])), (q1, .inl (cI, 40, .inl (P 1))), (q2, .inl (cI, 40, .inl (P 2))), (q3, .inl (cI, 40, .inl (P 3))), (q4, .inl (cI, 40, .inl (P 4))), (o9, .inl (cL, 1, .inr (.inl Ou)))] sz))) 0 0 (va_A [(b0, .inr (4, [.ref h0, .ref g0, .ref a0, .ref w0, .ref e0, .ref f0, .int an, .int ra])), (a0, .inr (0, [.ref s1, .ref s2, .ref s3, .ref s4, .ref s5, .int res])), (s1, .inl (cI, 240, .inl S)), (s2, .inl (cI, 240, .inl C)), (s3, .inl (cZ, 40, .inl Wt)), (s4, .inl (cI, 6, .inl SB)), (s5, .inl (cI, 6, .inl CB)), (h0, .inr (1, [.ref q1, .ref q2, .ref q3, .ref q4, .int (nI n)])), (q1, .inl (cI, 40, .inl (P 1))), (q2, .inl (cI, 40, .inl (P 2))), (q3, .inl (cI, 40, .inl (P 3))), (q4, .inl (cI, 40, .inl (P 4))), (o9, .inl (cL, 1, .inr (.inl Ou)))] sz) := by
  refine bc_metW (fun A => va_Qi (fun (r : Int32) (u : (bc_F × bc_F × bc_F × bc_F × bc_F × Int32) × Int64) => r = 0 ∧ (∃ g, bc_en u.1.1 u.1.2.1 g ∧ bc_Lst n (P 1) (P 2) (P 3) (P 4) g ∧ u.2 = (if bc_b (g j) = 0 then 0 else 1)) ∧ ∀ j, j < 40 → u.1.2.2.1 j = 0) (fun (u : (bc_F × bc_F × bc_F × bc_F × bc_F × Int32) × Int64) t => bc_B (dC, dI) classes [(cI, .int), (cZ, .boolean), (cL, .long)] A [(b0, .inr (4, [.ref h0, .ref g0, .ref a0, .ref w0, .ref e0, .ref f0, .int 1, .int ra])), (a0, .inr (0, [.ref s1, .ref s2, .ref s3, .ref s4, .ref s5, .int u.1.2.2.2.2.2])), (s1, .inl (cI, 240, .inl u.1.1)), (s2, .inl (cI, 240, .inl u.1.2.1)), (s3, .inl (cZ, 40, .inl u.1.2.2.1)), (s4, .inl (cI, 6, .inl u.1.2.2.2.1)), (s5, .inl (cI, 6, .inl u.1.2.2.2.2.1)), (h0, .inr (1, [.ref q1, .ref q2, .ref q3, .ref q4, .int (nI n)])), (q1, .inl (cI, 40, .inl (P 1))), (q2, .inl (cI, 40, .inl (P 2))), (q3, .inl (cI, 40, .inl (P 3))), (q4, .inl (cI, 40, .inl (P 4))), (o9, .inl (cL, 1, .inr (.inl (vp_updL Ou 0 u.2))))] t) A) (by decide) (Nat.le_of_ble_eq_true rfl) ?_
  intro p e s m args below meth c A ls F3 hr hlocks hA hP hD hl hS hT9 htab
  have F : bc_Fx p m c by_L_reached 4 s args "BranchConstantsLaw" (dC, dI) classes [(cI, .int), (cZ, .boolean)] := ⟨F3.1, F3.2.1, F3.2.2.1, F3.2.2.2.1, F3.2.2.2.2.1, F3.2.2.2.2.2.1, va_K.sub F3.2.2.2.2.2.2 [0, 1] rfl⟩
  have hx := F.1
  have hb := F.2.1
  have hml := F.2.2.1
  have hown : s.vm.findClass "BranchConstantsLaw" = some m.cls := F.2.2.2.1
  have htw := F.2.2.2.2.1
  have hN := F.2.2.2.2.2.1
  have hK := F.2.2.2.2.2.2
  have hK3 := F3.2.2.2.2.2.2
  have hl : lv_has ls 4 [(0, .ref b0), (1, .int (nI j)), (2, .ref o9)] := hl
  refine lv_aload_n hx hb de_L_reached_0 rfl (lv_at hl 2 rfl) ?_
  refine lv_iconst (v := 0) hx hb de_L_reached_1 (by decide) ?_
  refine lv_aload_n hx hb de_L_reached_2 rfl (lv_at hl 0 rfl) ?_
  refine lv_iload_n hx hb de_L_reached_3 rfl (lv_at hl 1 rfl) ?_
  refine bc_call_v_i (As := [.int (nI j)]) (rest := [.int 0, .ref o9]) (wr := [(o9, .inl (cL, 1, .inr (.inl Ou)))]) F (co_B_reached hn hw hCI hj) wm_287 wm_1 wm_284 wm_285 wm_286 0 rfl rfl pd_B_reached rfl rfl ⟨Nat.le_of_ble_eq_true rfl, Nat.le_of_ble_eq_true rfl⟩ hP hD hS hA [0, 1, 2, 3, 4, 5, 6, 7, 8, 9, 10, 11] [12] rfl rfl rfl rfl (by decide) rfl hl.1 rfl (Nat.le_of_ble_eq_true rfl) de_L_reached_4 ⟨Nat.le_of_ble_eq_true rfl, Nat.le_of_ble_eq_true rfl⟩ (fun r_4 u_4 H locs hw_4 hP hD hS => ?_)
  obtain ⟨S1, C1, W1, SB1, CB1, x1⟩ := u_4
  try dsimp only at hw_4
  obtain ⟨⟨g1, hen1, hL1, hr1⟩, hW1⟩ := hw_4
  have hP : va_P (dC, dI) classes [(b0, .inr (4, [.ref h0, .ref g0, .ref a0, .ref w0, .ref e0, .ref f0, .int 1, .int ra])), (a0, .inr (0, [.ref s1, .ref s2, .ref s3, .ref s4, .ref s5, .int x1])), (s1, .inl (cI, 240, .inl S1)), (s2, .inl (cI, 240, .inl C1)), (s3, .inl (cZ, 40, .inl W1)), (s4, .inl (cI, 6, .inl SB1)), (s5, .inl (cI, 6, .inl CB1)), (h0, .inr (1, [.ref q1, .ref q2, .ref q3, .ref q4, .int (nI n)])), (q1, .inl (cI, 40, .inl (P 1))), (q2, .inl (cI, 40, .inl (P 2))), (q3, .inl (cI, 40, .inl (P 3))), (q4, .inl (cI, 40, .inl (P 4))), (o9, .inl (cL, 1, .inr (.inl Ou)))] H := hP.sub [1, 2, 3, 4, 5, 6, 7, 8, 9, 10, 11, 12, 0] rfl
  have hD : va_D A [(b0, .inr (4, [.ref h0, .ref g0, .ref a0, .ref w0, .ref e0, .ref f0, .int 1, .int ra])), (a0, .inr (0, [.ref s1, .ref s2, .ref s3, .ref s4, .ref s5, .int x1])), (s1, .inl (cI, 240, .inl S1)), (s2, .inl (cI, 240, .inl C1)), (s3, .inl (cZ, 40, .inl W1)), (s4, .inl (cI, 6, .inl SB1)), (s5, .inl (cI, 6, .inl CB1)), (h0, .inr (1, [.ref q1, .ref q2, .ref q3, .ref q4, .int (nI n)])), (q1, .inl (cI, 40, .inl (P 1))), (q2, .inl (cI, 40, .inl (P 2))), (q3, .inl (cI, 40, .inl (P 3))), (q4, .inl (cI, 40, .inl (P 4))), (o9, .inl (cL, 1, .inr (.inl Ou)))] := hD.sub [1, 2, 3, 4, 5, 6, 7, 8, 9, 10, 11, 12, 0] (by decide) rfl
  refine lv_if_eq (tgt := 14) hx hb de_L_reached_7 (by decide) (fun hc_7 => ?_) (fun hc_7 => ?_)
  · refine lv_lconst (v := 0) hx hb de_L_reached_14 (by decide) ?_
    refine va_last (i := 0) hx hb hK3 hP hD hS 12 2 rfl rfl (by unfold vp_in; decide) de_L_reached_15 (fun H locs hP hD hS => ?_)
    have hP : va_P (dC, dI) classes [(b0, .inr (4, [.ref h0, .ref g0, .ref a0, .ref w0, .ref e0, .ref f0, .int 1, .int ra])), (a0, .inr (0, [.ref s1, .ref s2, .ref s3, .ref s4, .ref s5, .int x1])), (s1, .inl (cI, 240, .inl S1)), (s2, .inl (cI, 240, .inl C1)), (s3, .inl (cZ, 40, .inl W1)), (s4, .inl (cI, 6, .inl SB1)), (s5, .inl (cI, 6, .inl CB1)), (h0, .inr (1, [.ref q1, .ref q2, .ref q3, .ref q4, .int (nI n)])), (q1, .inl (cI, 40, .inl (P 1))), (q2, .inl (cI, 40, .inl (P 2))), (q3, .inl (cI, 40, .inl (P 3))), (q4, .inl (cI, 40, .inl (P 4))), (o9, .inl (cL, 1, .inr (.inl (vp_updL Ou 0 0))))] H := hP
    have hD : va_D A [(b0, .inr (4, [.ref h0, .ref g0, .ref a0, .ref w0, .ref e0, .ref f0, .int 1, .int ra])), (a0, .inr (0, [.ref s1, .ref s2, .ref s3, .ref s4, .ref s5, .int x1])), (s1, .inl (cI, 240, .inl S1)), (s2, .inl (cI, 240, .inl C1)), (s3, .inl (cZ, 40, .inl W1)), (s4, .inl (cI, 6, .inl SB1)), (s5, .inl (cI, 6, .inl CB1)), (h0, .inr (1, [.ref q1, .ref q2, .ref q3, .ref q4, .int (nI n)])), (q1, .inl (cI, 40, .inl (P 1))), (q2, .inl (cI, 40, .inl (P 2))), (q3, .inl (cI, 40, .inl (P 3))), (q4, .inl (cI, 40, .inl (P 4))), (o9, .inl (cL, 1, .inr (.inl (vp_updL Ou 0 0))))] := hD
    refine lv_goto (tgt := 22) hx hb de_L_reached_16 (by decide) ?_
    refine lv_iconst (v := 0) hx hb de_L_reached_22 (by decide) ?_
    exact bc_iret F3 hr hlocks (((S1, C1, W1, SB1, CB1, x1), 0)) ⟨rfl, ⟨g1, hen1, hL1, by rw [← hr1]; exact (if_pos hc_7).symm⟩, hW1⟩ hP hD hS de_L_reached_23
  · refine lv_lconst (v := 1) hx hb de_L_reached_10 (by decide) ?_
    refine lv_goto (tgt := 15) hx hb de_L_reached_11 (by decide) ?_
    refine va_last (i := 0) hx hb hK3 hP hD hS 12 2 rfl rfl (by unfold vp_in; decide) de_L_reached_15 (fun H locs hP hD hS => ?_)
    have hP : va_P (dC, dI) classes [(b0, .inr (4, [.ref h0, .ref g0, .ref a0, .ref w0, .ref e0, .ref f0, .int 1, .int ra])), (a0, .inr (0, [.ref s1, .ref s2, .ref s3, .ref s4, .ref s5, .int x1])), (s1, .inl (cI, 240, .inl S1)), (s2, .inl (cI, 240, .inl C1)), (s3, .inl (cZ, 40, .inl W1)), (s4, .inl (cI, 6, .inl SB1)), (s5, .inl (cI, 6, .inl CB1)), (h0, .inr (1, [.ref q1, .ref q2, .ref q3, .ref q4, .int (nI n)])), (q1, .inl (cI, 40, .inl (P 1))), (q2, .inl (cI, 40, .inl (P 2))), (q3, .inl (cI, 40, .inl (P 3))), (q4, .inl (cI, 40, .inl (P 4))), (o9, .inl (cL, 1, .inr (.inl (vp_updL Ou 0 1))))] H := hP
    have hD : va_D A [(b0, .inr (4, [.ref h0, .ref g0, .ref a0, .ref w0, .ref e0, .ref f0, .int 1, .int ra])), (a0, .inr (0, [.ref s1, .ref s2, .ref s3, .ref s4, .ref s5, .int x1])), (s1, .inl (cI, 240, .inl S1)), (s2, .inl (cI, 240, .inl C1)), (s3, .inl (cZ, 40, .inl W1)), (s4, .inl (cI, 6, .inl SB1)), (s5, .inl (cI, 6, .inl CB1)), (h0, .inr (1, [.ref q1, .ref q2, .ref q3, .ref q4, .int (nI n)])), (q1, .inl (cI, 40, .inl (P 1))), (q2, .inl (cI, 40, .inl (P 2))), (q3, .inl (cI, 40, .inl (P 3))), (q4, .inl (cI, 40, .inl (P 4))), (o9, .inl (cL, 1, .inr (.inl (vp_updL Ou 0 1))))] := hD
    refine lv_goto (tgt := 22) hx hb de_L_reached_16 (by decide) ?_
    refine lv_iconst (v := 0) hx hb de_L_reached_22 (by decide) ?_
    exact bc_iret F3 hr hlocks (((S1, C1, W1, SB1, CB1, x1), 1)) ⟨rfl, ⟨g1, hen1, hL1, by rw [← hr1]; exact (if_neg hc_7).symm⟩, hW1⟩ hP hD hS de_L_reached_23

set_option maxHeartbeats 4000000 in
set_option maxRecDepth 100000 in
theorem co_L_known {l : Launch} {dC : Nat → ClassId} {dI : Nat → Nat → Nat} {cI cZ cL : ClassId} {sz : Nat} (hl0 : l.stackTraces = false) {b0 h0 q1 q2 q3 q4 g0 a0 s1 s2 s3 s4 s5 w0 e0 f0 n : Nat} {P : Nat → bc_F} {S C Wt SB CB : bc_F} {res an ra : Int32} {o9 : Nat} {Ou : Nat → Int64}  {j v : Nat} (hn : n ≤ 40) (hw : bc_wf n (P 1) (P 2) (P 3) (P 4)) (hCI : bc_CI an n P S C Wt) (hj : j < n) (hv : v < 6) : Met l yn_L_known (Cond.codeWith yn_L_known by_L_known 5 (some FieldType.int) [(0, 10, 13, 21)] :: wd_all) ({ frames := 7, cells := 0, slots := 0, locals := 156 } : Room) (bc_PreX (dC, dI) classes [(cI, .int), (cZ, .boolean), (cL, .long)] [.ref b0, .int (nI j), .int (nI v), .ref o9] [(b0, .inr (4, [.ref h0, .ref g0, .ref a0, .ref w0, .ref e0, .ref f0, .int an, .int ra])), (a0, .inr (0, [.ref s1, .ref s2, .ref s3, .ref s4, .ref s5, .int res])), (s1, .inl (cI, 240, .inl S)), (s2, .inl (cI, 240, .inl C)), (s3, .inl (cZ, 40, .inl Wt)), (s4, .inl (cI, 6, .inl SB)), (s5, .inl (cI, 6, .inl CB)), (h0, .inr (1, [.ref q1, .ref q2, .ref q3, .ref q4, .int (nI n)])), (q1, .inl (cI, 40, .inl (P 1))), (q2, .inl (cI, 40, .inl (P 2))), (q3, .inl (cI, 40, .inl (P 3))), (q4, .inl (cI, 40, .inl (P 4))), (o9, .inl (cL, 1, .inr (.inl Ou)))] sz) (va_Qi (fun (r : Int32) (u : (bc_F × bc_F × bc_F × bc_F × bc_F × Int32) × Int32) => r = 0 ∧ (∃ g, bc_en u.1.1 u.1.2.1 g ∧ bc_Lst n (P 1) (P 2) (P 3) (P 4) g ∧ u.2 = bc_s0 (g j) v) ∧ ∀ j, j < 40 → u.1.2.2.1 j = 0) (fun (u : (bc_F × bc_F × bc_F × bc_F × bc_F × Int32) × Int32) t => bc_B (dC, dI) classes [(cI, .int), (cZ, .boolean), (cL, .long)] (va_A [(b0, .inr (4, [.ref h0, .ref g0, .ref a0, .ref w0, .ref e0, .ref f0, .int an, .int ra])), (a0, .inr (0, [.ref s1, .ref s2, .ref s3, .ref s4, .ref s5, .int res])), (s1, .inl (cI, 240, .inl S)), (s2, .inl (cI, 240, .inl C)), (s3, .inl (cZ, 40, .inl Wt)), (s4, .inl (cI, 6, .inl SB)), (s5, .inl (cI, 6, .inl CB)), (h0, .inr (1, [.ref q1, .ref q2, .ref q3, .ref q4, .int (nI n)])), (q1, .inl (cI, 40, .inl (P 1))), (q2, .inl (cI, 40, .inl (P 2))), (q3, .inl (cI, 40, .inl (P 3))), (q4, .inl (cI, 40, .inl (P 4))), (o9, .inl (cL, 1, .inr (.inl Ou)))] sz) [(b0, .inr (4, [.ref h0, .ref g0, .ref a0, .ref w0, .ref e0, .ref f0, .int 1, .int ra])), (a0, .inr (0, [.ref s1, .ref s2, .ref s3, .ref s4, .ref s5, .int u.1.2.2.2.2.2])), (s1, .inl (cI, 240, .inl u.1.1)), (s2, .inl (cI, 240, .inl u.1.2.1)), (s3, .inl (cZ, 40, .inl u.1.2.2.1)), (s4, .inl (cI, 6, .inl u.1.2.2.2.1)), (s5, .inl (cI, 6, .inl u.1.2.2.2.2.1)), (h0, .inr (1, [.ref q1, .ref q2, .ref q3, .ref q4, .int (nI n)])), (q1, .inl (cI, 40, .inl (P 1))), (q2, .inl (cI, 40, .inl (P 2))), (q3, .inl (cI, 40, .inl (P 3))), (q4, .inl (cI, 40, .inl (P 4))), (o9, .inl (cL, 1, .inr (.inl (vp_updL Ou 0 u.2.toInt64))))] t) ((va_A [(b0, .inr (4, [.ref h0, .ref g0, .ref a0, .ref w0, .ref e0, .ref f0, .int an, .int ra])), (a0, .inr (0, [.ref s1, .ref s2, .ref s3, .ref s4, .ref s5, .int res])), (s1, .inl (cI, 240, .inl S)), (s2, .inl (cI, 240, .inl C)), (s3, .inl (cZ, 40, .inl Wt)), (s4, .inl (cI, 6, .inl SB)), (s5, .inl (cI, 6, .inl CB)), (h0, .inr (1, [.ref q1, .ref q2, .ref q3, .ref q4, .int (nI n)])), (q1, .inl (cI, 40, .inl (P 1))), (q2, .inl (cI, 40, .inl (P 2))), (q3, .inl (cI, 40, .inl (P 3))), (q4, .inl (cI, 40, .inl (P 4))), (o9, .inl (cL, 1, .inr (.inl Ou)))] sz))) 0 0 (va_A [(b0, .inr (4, [.ref h0, .ref g0, .ref a0, .ref w0, .ref e0, .ref f0, .int an, .int ra])), (a0, .inr (0, [.ref s1, .ref s2, .ref s3, .ref s4, .ref s5, .int res])), (s1, .inl (cI, 240, .inl S)), (s2, .inl (cI, 240, .inl C)), (s3, .inl (cZ, 40, .inl Wt)), (s4, .inl (cI, 6, .inl SB)), (s5, .inl (cI, 6, .inl CB)), (h0, .inr (1, [.ref q1, .ref q2, .ref q3, .ref q4, .int (nI n)])), (q1, .inl (cI, 40, .inl (P 1))), (q2, .inl (cI, 40, .inl (P 2))), (q3, .inl (cI, 40, .inl (P 3))), (q4, .inl (cI, 40, .inl (P 4))), (o9, .inl (cL, 1, .inr (.inl Ou)))] sz) := by
  refine bc_metW (fun A => va_Qi (fun (r : Int32) (u : (bc_F × bc_F × bc_F × bc_F × bc_F × Int32) × Int32) => r = 0 ∧ (∃ g, bc_en u.1.1 u.1.2.1 g ∧ bc_Lst n (P 1) (P 2) (P 3) (P 4) g ∧ u.2 = bc_s0 (g j) v) ∧ ∀ j, j < 40 → u.1.2.2.1 j = 0) (fun (u : (bc_F × bc_F × bc_F × bc_F × bc_F × Int32) × Int32) t => bc_B (dC, dI) classes [(cI, .int), (cZ, .boolean), (cL, .long)] A [(b0, .inr (4, [.ref h0, .ref g0, .ref a0, .ref w0, .ref e0, .ref f0, .int 1, .int ra])), (a0, .inr (0, [.ref s1, .ref s2, .ref s3, .ref s4, .ref s5, .int u.1.2.2.2.2.2])), (s1, .inl (cI, 240, .inl u.1.1)), (s2, .inl (cI, 240, .inl u.1.2.1)), (s3, .inl (cZ, 40, .inl u.1.2.2.1)), (s4, .inl (cI, 6, .inl u.1.2.2.2.1)), (s5, .inl (cI, 6, .inl u.1.2.2.2.2.1)), (h0, .inr (1, [.ref q1, .ref q2, .ref q3, .ref q4, .int (nI n)])), (q1, .inl (cI, 40, .inl (P 1))), (q2, .inl (cI, 40, .inl (P 2))), (q3, .inl (cI, 40, .inl (P 3))), (q4, .inl (cI, 40, .inl (P 4))), (o9, .inl (cL, 1, .inr (.inl (vp_updL Ou 0 u.2.toInt64))))] t) A) (by decide) (Nat.le_of_ble_eq_true rfl) ?_
  intro p e s m args below meth c A ls F3 hr hlocks hA hP hD hl hS hT9 htab
  have F : bc_Fx p m c by_L_known 5 s args "BranchConstantsLaw" (dC, dI) classes [(cI, .int), (cZ, .boolean)] := ⟨F3.1, F3.2.1, F3.2.2.1, F3.2.2.2.1, F3.2.2.2.2.1, F3.2.2.2.2.2.1, va_K.sub F3.2.2.2.2.2.2 [0, 1] rfl⟩
  have hx := F.1
  have hb := F.2.1
  have hml := F.2.2.1
  have hown : s.vm.findClass "BranchConstantsLaw" = some m.cls := F.2.2.2.1
  have htw := F.2.2.2.2.1
  have hN := F.2.2.2.2.2.1
  have hK := F.2.2.2.2.2.2
  have hK3 := F3.2.2.2.2.2.2
  have hl : lv_has ls 5 [(0, .ref b0), (1, .int (nI j)), (2, .int (nI v)), (3, .ref o9)] := hl
  refine lv_aload_n hx hb de_L_known_0 rfl (lv_at hl 3 rfl) ?_
  refine lv_iconst (v := 0) hx hb de_L_known_1 (by decide) ?_
  refine lv_aload_n hx hb de_L_known_2 rfl (lv_at hl 0 rfl) ?_
  refine lv_iload_n hx hb de_L_known_3 rfl (lv_at hl 1 rfl) ?_
  refine lv_iload_n hx hb de_L_known_4 rfl (lv_at hl 2 rfl) ?_
  refine bc_call_v_i (As := [.int (nI j), .int (nI v)]) (rest := [.int 0, .ref o9]) (wr := [(o9, .inl (cL, 1, .inr (.inl Ou)))]) F (co_B_known hn hw hCI hj hv) wm_294 wm_1 wm_291 wm_292 wm_293 0 rfl rfl pd_B_known rfl rfl ⟨Nat.le_of_ble_eq_true rfl, Nat.le_of_ble_eq_true rfl⟩ hP hD hS hA [0, 1, 2, 3, 4, 5, 6, 7, 8, 9, 10, 11] [12] rfl rfl rfl rfl (by decide) rfl hl.1 rfl (Nat.le_of_ble_eq_true rfl) de_L_known_5 ⟨Nat.le_of_ble_eq_true rfl, Nat.le_of_ble_eq_true rfl⟩ (fun r_5 u_5 H locs hw_5 hP hD hS => ?_)
  obtain ⟨S1, C1, W1, SB1, CB1, x1⟩ := u_5
  try dsimp only at hw_5
  have hP : va_P (dC, dI) classes [(b0, .inr (4, [.ref h0, .ref g0, .ref a0, .ref w0, .ref e0, .ref f0, .int 1, .int ra])), (a0, .inr (0, [.ref s1, .ref s2, .ref s3, .ref s4, .ref s5, .int x1])), (s1, .inl (cI, 240, .inl S1)), (s2, .inl (cI, 240, .inl C1)), (s3, .inl (cZ, 40, .inl W1)), (s4, .inl (cI, 6, .inl SB1)), (s5, .inl (cI, 6, .inl CB1)), (h0, .inr (1, [.ref q1, .ref q2, .ref q3, .ref q4, .int (nI n)])), (q1, .inl (cI, 40, .inl (P 1))), (q2, .inl (cI, 40, .inl (P 2))), (q3, .inl (cI, 40, .inl (P 3))), (q4, .inl (cI, 40, .inl (P 4))), (o9, .inl (cL, 1, .inr (.inl Ou)))] H := hP.sub [1, 2, 3, 4, 5, 6, 7, 8, 9, 10, 11, 12, 0] rfl
  have hD : va_D A [(b0, .inr (4, [.ref h0, .ref g0, .ref a0, .ref w0, .ref e0, .ref f0, .int 1, .int ra])), (a0, .inr (0, [.ref s1, .ref s2, .ref s3, .ref s4, .ref s5, .int x1])), (s1, .inl (cI, 240, .inl S1)), (s2, .inl (cI, 240, .inl C1)), (s3, .inl (cZ, 40, .inl W1)), (s4, .inl (cI, 6, .inl SB1)), (s5, .inl (cI, 6, .inl CB1)), (h0, .inr (1, [.ref q1, .ref q2, .ref q3, .ref q4, .int (nI n)])), (q1, .inl (cI, 40, .inl (P 1))), (q2, .inl (cI, 40, .inl (P 2))), (q3, .inl (cI, 40, .inl (P 3))), (q4, .inl (cI, 40, .inl (P 4))), (o9, .inl (cL, 1, .inr (.inl Ou)))] := hD.sub [1, 2, 3, 4, 5, 6, 7, 8, 9, 10, 11, 12, 0] (by decide) rfl
  refine lv_i2l (v := r_5.toInt64) hx hb de_L_known_8 rfl ?_
  refine va_last (i := 0) hx hb hK3 hP hD hS 12 2 rfl rfl (by unfold vp_in; decide) de_L_known_9 (fun H locs hP hD hS => ?_)
  have hP : va_P (dC, dI) classes [(b0, .inr (4, [.ref h0, .ref g0, .ref a0, .ref w0, .ref e0, .ref f0, .int 1, .int ra])), (a0, .inr (0, [.ref s1, .ref s2, .ref s3, .ref s4, .ref s5, .int x1])), (s1, .inl (cI, 240, .inl S1)), (s2, .inl (cI, 240, .inl C1)), (s3, .inl (cZ, 40, .inl W1)), (s4, .inl (cI, 6, .inl SB1)), (s5, .inl (cI, 6, .inl CB1)), (h0, .inr (1, [.ref q1, .ref q2, .ref q3, .ref q4, .int (nI n)])), (q1, .inl (cI, 40, .inl (P 1))), (q2, .inl (cI, 40, .inl (P 2))), (q3, .inl (cI, 40, .inl (P 3))), (q4, .inl (cI, 40, .inl (P 4))), (o9, .inl (cL, 1, .inr (.inl (vp_updL Ou 0 r_5.toInt64))))] H := hP
  have hD : va_D A [(b0, .inr (4, [.ref h0, .ref g0, .ref a0, .ref w0, .ref e0, .ref f0, .int 1, .int ra])), (a0, .inr (0, [.ref s1, .ref s2, .ref s3, .ref s4, .ref s5, .int x1])), (s1, .inl (cI, 240, .inl S1)), (s2, .inl (cI, 240, .inl C1)), (s3, .inl (cZ, 40, .inl W1)), (s4, .inl (cI, 6, .inl SB1)), (s5, .inl (cI, 6, .inl CB1)), (h0, .inr (1, [.ref q1, .ref q2, .ref q3, .ref q4, .int (nI n)])), (q1, .inl (cI, 40, .inl (P 1))), (q2, .inl (cI, 40, .inl (P 2))), (q3, .inl (cI, 40, .inl (P 3))), (q4, .inl (cI, 40, .inl (P 4))), (o9, .inl (cL, 1, .inr (.inl (vp_updL Ou 0 r_5.toInt64))))] := hD
  refine lv_goto (tgt := 17) hx hb de_L_known_10 (by decide) ?_
  refine lv_iconst (v := 0) hx hb de_L_known_17 (by decide) ?_
  exact bc_iret F3 hr hlocks (((S1, C1, W1, SB1, CB1, x1), r_5)) ⟨rfl, hw_5⟩ hP hD hS de_L_known_18

set_option maxHeartbeats 4000000 in
set_option maxRecDepth 100000 in
theorem co_L_constant {l : Launch} {dC : Nat → ClassId} {dI : Nat → Nat → Nat} {cI cZ cL : ClassId} {sz : Nat} (hl0 : l.stackTraces = false) {b0 h0 q1 q2 q3 q4 g0 a0 s1 s2 s3 s4 s5 w0 e0 f0 n : Nat} {P : Nat → bc_F} {S C Wt SB CB : bc_F} {res an ra : Int32} {o9 : Nat} {Ou : Nat → Int64}  {j v : Nat} (hn : n ≤ 40) (hw : bc_wf n (P 1) (P 2) (P 3) (P 4)) (hCI : bc_CI an n P S C Wt) (hj : j < n) (hv : v < 6) : Met l yn_L_constant (Cond.codeWith yn_L_constant by_L_constant 5 (some FieldType.int) [(0, 10, 13, 21)] :: wd_all) ({ frames := 7, cells := 0, slots := 0, locals := 156 } : Room) (bc_PreX (dC, dI) classes [(cI, .int), (cZ, .boolean), (cL, .long)] [.ref b0, .int (nI j), .int (nI v), .ref o9] [(b0, .inr (4, [.ref h0, .ref g0, .ref a0, .ref w0, .ref e0, .ref f0, .int an, .int ra])), (a0, .inr (0, [.ref s1, .ref s2, .ref s3, .ref s4, .ref s5, .int res])), (s1, .inl (cI, 240, .inl S)), (s2, .inl (cI, 240, .inl C)), (s3, .inl (cZ, 40, .inl Wt)), (s4, .inl (cI, 6, .inl SB)), (s5, .inl (cI, 6, .inl CB)), (h0, .inr (1, [.ref q1, .ref q2, .ref q3, .ref q4, .int (nI n)])), (q1, .inl (cI, 40, .inl (P 1))), (q2, .inl (cI, 40, .inl (P 2))), (q3, .inl (cI, 40, .inl (P 3))), (q4, .inl (cI, 40, .inl (P 4))), (o9, .inl (cL, 1, .inr (.inl Ou)))] sz) (va_Qi (fun (r : Int32) (u : (bc_F × bc_F × bc_F × bc_F × bc_F × Int32) × Int32) => r = 0 ∧ (∃ g, bc_en u.1.1 u.1.2.1 g ∧ bc_Lst n (P 1) (P 2) (P 3) (P 4) g ∧ u.2 = bc_c0 (g j) v) ∧ ∀ j, j < 40 → u.1.2.2.1 j = 0) (fun (u : (bc_F × bc_F × bc_F × bc_F × bc_F × Int32) × Int32) t => bc_B (dC, dI) classes [(cI, .int), (cZ, .boolean), (cL, .long)] (va_A [(b0, .inr (4, [.ref h0, .ref g0, .ref a0, .ref w0, .ref e0, .ref f0, .int an, .int ra])), (a0, .inr (0, [.ref s1, .ref s2, .ref s3, .ref s4, .ref s5, .int res])), (s1, .inl (cI, 240, .inl S)), (s2, .inl (cI, 240, .inl C)), (s3, .inl (cZ, 40, .inl Wt)), (s4, .inl (cI, 6, .inl SB)), (s5, .inl (cI, 6, .inl CB)), (h0, .inr (1, [.ref q1, .ref q2, .ref q3, .ref q4, .int (nI n)])), (q1, .inl (cI, 40, .inl (P 1))), (q2, .inl (cI, 40, .inl (P 2))), (q3, .inl (cI, 40, .inl (P 3))), (q4, .inl (cI, 40, .inl (P 4))), (o9, .inl (cL, 1, .inr (.inl Ou)))] sz) [(b0, .inr (4, [.ref h0, .ref g0, .ref a0, .ref w0, .ref e0, .ref f0, .int 1, .int ra])), (a0, .inr (0, [.ref s1, .ref s2, .ref s3, .ref s4, .ref s5, .int u.1.2.2.2.2.2])), (s1, .inl (cI, 240, .inl u.1.1)), (s2, .inl (cI, 240, .inl u.1.2.1)), (s3, .inl (cZ, 40, .inl u.1.2.2.1)), (s4, .inl (cI, 6, .inl u.1.2.2.2.1)), (s5, .inl (cI, 6, .inl u.1.2.2.2.2.1)), (h0, .inr (1, [.ref q1, .ref q2, .ref q3, .ref q4, .int (nI n)])), (q1, .inl (cI, 40, .inl (P 1))), (q2, .inl (cI, 40, .inl (P 2))), (q3, .inl (cI, 40, .inl (P 3))), (q4, .inl (cI, 40, .inl (P 4))), (o9, .inl (cL, 1, .inr (.inl (vp_updL Ou 0 u.2.toInt64))))] t) ((va_A [(b0, .inr (4, [.ref h0, .ref g0, .ref a0, .ref w0, .ref e0, .ref f0, .int an, .int ra])), (a0, .inr (0, [.ref s1, .ref s2, .ref s3, .ref s4, .ref s5, .int res])), (s1, .inl (cI, 240, .inl S)), (s2, .inl (cI, 240, .inl C)), (s3, .inl (cZ, 40, .inl Wt)), (s4, .inl (cI, 6, .inl SB)), (s5, .inl (cI, 6, .inl CB)), (h0, .inr (1, [.ref q1, .ref q2, .ref q3, .ref q4, .int (nI n)])), (q1, .inl (cI, 40, .inl (P 1))), (q2, .inl (cI, 40, .inl (P 2))), (q3, .inl (cI, 40, .inl (P 3))), (q4, .inl (cI, 40, .inl (P 4))), (o9, .inl (cL, 1, .inr (.inl Ou)))] sz))) 0 0 (va_A [(b0, .inr (4, [.ref h0, .ref g0, .ref a0, .ref w0, .ref e0, .ref f0, .int an, .int ra])), (a0, .inr (0, [.ref s1, .ref s2, .ref s3, .ref s4, .ref s5, .int res])), (s1, .inl (cI, 240, .inl S)), (s2, .inl (cI, 240, .inl C)), (s3, .inl (cZ, 40, .inl Wt)), (s4, .inl (cI, 6, .inl SB)), (s5, .inl (cI, 6, .inl CB)), (h0, .inr (1, [.ref q1, .ref q2, .ref q3, .ref q4, .int (nI n)])), (q1, .inl (cI, 40, .inl (P 1))), (q2, .inl (cI, 40, .inl (P 2))), (q3, .inl (cI, 40, .inl (P 3))), (q4, .inl (cI, 40, .inl (P 4))), (o9, .inl (cL, 1, .inr (.inl Ou)))] sz) := by
  refine bc_metW (fun A => va_Qi (fun (r : Int32) (u : (bc_F × bc_F × bc_F × bc_F × bc_F × Int32) × Int32) => r = 0 ∧ (∃ g, bc_en u.1.1 u.1.2.1 g ∧ bc_Lst n (P 1) (P 2) (P 3) (P 4) g ∧ u.2 = bc_c0 (g j) v) ∧ ∀ j, j < 40 → u.1.2.2.1 j = 0) (fun (u : (bc_F × bc_F × bc_F × bc_F × bc_F × Int32) × Int32) t => bc_B (dC, dI) classes [(cI, .int), (cZ, .boolean), (cL, .long)] A [(b0, .inr (4, [.ref h0, .ref g0, .ref a0, .ref w0, .ref e0, .ref f0, .int 1, .int ra])), (a0, .inr (0, [.ref s1, .ref s2, .ref s3, .ref s4, .ref s5, .int u.1.2.2.2.2.2])), (s1, .inl (cI, 240, .inl u.1.1)), (s2, .inl (cI, 240, .inl u.1.2.1)), (s3, .inl (cZ, 40, .inl u.1.2.2.1)), (s4, .inl (cI, 6, .inl u.1.2.2.2.1)), (s5, .inl (cI, 6, .inl u.1.2.2.2.2.1)), (h0, .inr (1, [.ref q1, .ref q2, .ref q3, .ref q4, .int (nI n)])), (q1, .inl (cI, 40, .inl (P 1))), (q2, .inl (cI, 40, .inl (P 2))), (q3, .inl (cI, 40, .inl (P 3))), (q4, .inl (cI, 40, .inl (P 4))), (o9, .inl (cL, 1, .inr (.inl (vp_updL Ou 0 u.2.toInt64))))] t) A) (by decide) (Nat.le_of_ble_eq_true rfl) ?_
  intro p e s m args below meth c A ls F3 hr hlocks hA hP hD hl hS hT9 htab
  have F : bc_Fx p m c by_L_constant 5 s args "BranchConstantsLaw" (dC, dI) classes [(cI, .int), (cZ, .boolean)] := ⟨F3.1, F3.2.1, F3.2.2.1, F3.2.2.2.1, F3.2.2.2.2.1, F3.2.2.2.2.2.1, va_K.sub F3.2.2.2.2.2.2 [0, 1] rfl⟩
  have hx := F.1
  have hb := F.2.1
  have hml := F.2.2.1
  have hown : s.vm.findClass "BranchConstantsLaw" = some m.cls := F.2.2.2.1
  have htw := F.2.2.2.2.1
  have hN := F.2.2.2.2.2.1
  have hK := F.2.2.2.2.2.2
  have hK3 := F3.2.2.2.2.2.2
  have hl : lv_has ls 5 [(0, .ref b0), (1, .int (nI j)), (2, .int (nI v)), (3, .ref o9)] := hl
  refine lv_aload_n hx hb de_L_constant_0 rfl (lv_at hl 3 rfl) ?_
  refine lv_iconst (v := 0) hx hb de_L_constant_1 (by decide) ?_
  refine lv_aload_n hx hb de_L_constant_2 rfl (lv_at hl 0 rfl) ?_
  refine lv_iload_n hx hb de_L_constant_3 rfl (lv_at hl 1 rfl) ?_
  refine lv_iload_n hx hb de_L_constant_4 rfl (lv_at hl 2 rfl) ?_
  refine bc_call_v_i (As := [.int (nI j), .int (nI v)]) (rest := [.int 0, .ref o9]) (wr := [(o9, .inl (cL, 1, .inr (.inl Ou)))]) F (co_B_constant hn hw hCI hj hv) wm_305 wm_1 wm_302 wm_303 wm_304 0 rfl rfl pd_B_constant rfl rfl ⟨Nat.le_of_ble_eq_true rfl, Nat.le_of_ble_eq_true rfl⟩ hP hD hS hA [0, 1, 2, 3, 4, 5, 6, 7, 8, 9, 10, 11] [12] rfl rfl rfl rfl (by decide) rfl hl.1 rfl (Nat.le_of_ble_eq_true rfl) de_L_constant_5 ⟨Nat.le_of_ble_eq_true rfl, Nat.le_of_ble_eq_true rfl⟩ (fun r_5 u_5 H locs hw_5 hP hD hS => ?_)
  obtain ⟨S1, C1, W1, SB1, CB1, x1⟩ := u_5
  try dsimp only at hw_5
  have hP : va_P (dC, dI) classes [(b0, .inr (4, [.ref h0, .ref g0, .ref a0, .ref w0, .ref e0, .ref f0, .int 1, .int ra])), (a0, .inr (0, [.ref s1, .ref s2, .ref s3, .ref s4, .ref s5, .int x1])), (s1, .inl (cI, 240, .inl S1)), (s2, .inl (cI, 240, .inl C1)), (s3, .inl (cZ, 40, .inl W1)), (s4, .inl (cI, 6, .inl SB1)), (s5, .inl (cI, 6, .inl CB1)), (h0, .inr (1, [.ref q1, .ref q2, .ref q3, .ref q4, .int (nI n)])), (q1, .inl (cI, 40, .inl (P 1))), (q2, .inl (cI, 40, .inl (P 2))), (q3, .inl (cI, 40, .inl (P 3))), (q4, .inl (cI, 40, .inl (P 4))), (o9, .inl (cL, 1, .inr (.inl Ou)))] H := hP.sub [1, 2, 3, 4, 5, 6, 7, 8, 9, 10, 11, 12, 0] rfl
  have hD : va_D A [(b0, .inr (4, [.ref h0, .ref g0, .ref a0, .ref w0, .ref e0, .ref f0, .int 1, .int ra])), (a0, .inr (0, [.ref s1, .ref s2, .ref s3, .ref s4, .ref s5, .int x1])), (s1, .inl (cI, 240, .inl S1)), (s2, .inl (cI, 240, .inl C1)), (s3, .inl (cZ, 40, .inl W1)), (s4, .inl (cI, 6, .inl SB1)), (s5, .inl (cI, 6, .inl CB1)), (h0, .inr (1, [.ref q1, .ref q2, .ref q3, .ref q4, .int (nI n)])), (q1, .inl (cI, 40, .inl (P 1))), (q2, .inl (cI, 40, .inl (P 2))), (q3, .inl (cI, 40, .inl (P 3))), (q4, .inl (cI, 40, .inl (P 4))), (o9, .inl (cL, 1, .inr (.inl Ou)))] := hD.sub [1, 2, 3, 4, 5, 6, 7, 8, 9, 10, 11, 12, 0] (by decide) rfl
  refine lv_i2l (v := r_5.toInt64) hx hb de_L_constant_8 rfl ?_
  refine va_last (i := 0) hx hb hK3 hP hD hS 12 2 rfl rfl (by unfold vp_in; decide) de_L_constant_9 (fun H locs hP hD hS => ?_)
  have hP : va_P (dC, dI) classes [(b0, .inr (4, [.ref h0, .ref g0, .ref a0, .ref w0, .ref e0, .ref f0, .int 1, .int ra])), (a0, .inr (0, [.ref s1, .ref s2, .ref s3, .ref s4, .ref s5, .int x1])), (s1, .inl (cI, 240, .inl S1)), (s2, .inl (cI, 240, .inl C1)), (s3, .inl (cZ, 40, .inl W1)), (s4, .inl (cI, 6, .inl SB1)), (s5, .inl (cI, 6, .inl CB1)), (h0, .inr (1, [.ref q1, .ref q2, .ref q3, .ref q4, .int (nI n)])), (q1, .inl (cI, 40, .inl (P 1))), (q2, .inl (cI, 40, .inl (P 2))), (q3, .inl (cI, 40, .inl (P 3))), (q4, .inl (cI, 40, .inl (P 4))), (o9, .inl (cL, 1, .inr (.inl (vp_updL Ou 0 r_5.toInt64))))] H := hP
  have hD : va_D A [(b0, .inr (4, [.ref h0, .ref g0, .ref a0, .ref w0, .ref e0, .ref f0, .int 1, .int ra])), (a0, .inr (0, [.ref s1, .ref s2, .ref s3, .ref s4, .ref s5, .int x1])), (s1, .inl (cI, 240, .inl S1)), (s2, .inl (cI, 240, .inl C1)), (s3, .inl (cZ, 40, .inl W1)), (s4, .inl (cI, 6, .inl SB1)), (s5, .inl (cI, 6, .inl CB1)), (h0, .inr (1, [.ref q1, .ref q2, .ref q3, .ref q4, .int (nI n)])), (q1, .inl (cI, 40, .inl (P 1))), (q2, .inl (cI, 40, .inl (P 2))), (q3, .inl (cI, 40, .inl (P 3))), (q4, .inl (cI, 40, .inl (P 4))), (o9, .inl (cL, 1, .inr (.inl (vp_updL Ou 0 r_5.toInt64))))] := hD
  refine lv_goto (tgt := 17) hx hb de_L_constant_10 (by decide) ?_
  refine lv_iconst (v := 0) hx hb de_L_constant_17 (by decide) ?_
  exact bc_iret F3 hr hlocks (((S1, C1, W1, SB1, CB1, x1), r_5)) ⟨rfl, hw_5⟩ hP hD hS de_L_constant_18

set_option maxHeartbeats 4000000 in
set_option maxRecDepth 100000 in
theorem co_L_rewrite {l : Launch} {dC : Nat → ClassId} {dI : Nat → Nat → Nat} {cI cZ cL : ClassId} {sz : Nat} (hl0 : l.stackTraces = false) {b0 h0 q1 q2 q3 q4 g0 q5 q6 q7 q8 a0 s1 s2 s3 s4 s5 w0 w1 w2 w3 e0 f0 v2 n n2 cq : Nat} {P Q : Nat → bc_F} {S C Wt SB CB B U Nn : bc_F} {res an ra pl1 sp1 on1 : Int32} {o9 : Nat} {Ou : Nat → Int64}   (hn : n ≤ 40) (hw : bc_wf n (P 1) (P 2) (P 3) (P 4)) (hCI : bc_CI an n P S C Wt) (h0n : 0 < n) : Met l yn_L_rewrite (Cond.codeWith yn_L_rewrite by_L_rewrite 3 (some FieldType.int) [(0, 8, 11, 15)] :: wd_all) ({ frames := 7, cells := 0, slots := 0, locals := 154 } : Room) (bc_PreX (dC, dI) classes [(cI, .int), (cZ, .boolean), (cL, .long)] [.ref b0, .ref o9] [(b0, .inr (4, [.ref h0, .ref g0, .ref a0, .ref w0, .ref e0, .ref f0, .int an, .int ra])), (h0, .inr (1, [.ref q1, .ref q2, .ref q3, .ref q4, .int (nI n)])), (q1, .inl (cI, 40, .inl (P 1))), (q2, .inl (cI, 40, .inl (P 2))), (q3, .inl (cI, 40, .inl (P 3))), (q4, .inl (cI, 40, .inl (P 4))), (g0, .inr (1, [.ref q5, .ref q6, .ref q7, .ref q8, .int (nI n2)])), (q5, .inl (cI, 40, .inl (Q 1))), (q6, .inl (cI, 40, .inl (Q 2))), (q7, .inl (cI, 40, .inl (Q 3))), (q8, .inl (cI, 40, .inl (Q 4))), (a0, .inr (0, [.ref s1, .ref s2, .ref s3, .ref s4, .ref s5, .int res])), (s1, .inl (cI, 240, .inl S)), (s2, .inl (cI, 240, .inl C)), (s3, .inl (cZ, 40, .inl Wt)), (s4, .inl (cI, 6, .inl SB)), (s5, .inl (cI, 6, .inl CB)), (w0, .inr (3, [.ref w1, .ref w2, .ref w3, .int (nI cq)])), (w1, .inl (cZ, 40, .inl B)), (w2, .inl (cI, 40, .inl U)), (w3, .inl (cI, 41, .inl Nn)), (f0, .inr (2, [.ref v2, .int pl1, .int sp1, .int on1])), (o9, .inl (cL, 1, .inr (.inl Ou)))] sz) (va_Qi (fun (r : Int32) (u : (bc_F × bc_F × bc_F × bc_F × bc_F × Int32) × (bc_F × bc_F × bc_F × Nat) × Nat × (Nat → bc_F)) => r = 0 ∧ u.2.2.1 ≤ n ∧ (∀ j, j < 40 → u.1.2.2.1 j = 0) ∧ ∃ g, bc_en u.1.1 u.1.2.1 g ∧ bc_Lst n (P 1) (P 2) (P 3) (P 4) g ∧ bc_RW n (bc_f1 n (P 1) (P 2) (P 3) (P 4) g) u.2.2.1 (u.2.2.2 1) (u.2.2.2 2) (u.2.2.2 3) (u.2.2.2 4)) (fun (u : (bc_F × bc_F × bc_F × bc_F × bc_F × Int32) × (bc_F × bc_F × bc_F × Nat) × Nat × (Nat → bc_F)) t => bc_B (dC, dI) classes [(cI, .int), (cZ, .boolean), (cL, .long)] (va_A [(b0, .inr (4, [.ref h0, .ref g0, .ref a0, .ref w0, .ref e0, .ref f0, .int an, .int ra])), (h0, .inr (1, [.ref q1, .ref q2, .ref q3, .ref q4, .int (nI n)])), (q1, .inl (cI, 40, .inl (P 1))), (q2, .inl (cI, 40, .inl (P 2))), (q3, .inl (cI, 40, .inl (P 3))), (q4, .inl (cI, 40, .inl (P 4))), (g0, .inr (1, [.ref q5, .ref q6, .ref q7, .ref q8, .int (nI n2)])), (q5, .inl (cI, 40, .inl (Q 1))), (q6, .inl (cI, 40, .inl (Q 2))), (q7, .inl (cI, 40, .inl (Q 3))), (q8, .inl (cI, 40, .inl (Q 4))), (a0, .inr (0, [.ref s1, .ref s2, .ref s3, .ref s4, .ref s5, .int res])), (s1, .inl (cI, 240, .inl S)), (s2, .inl (cI, 240, .inl C)), (s3, .inl (cZ, 40, .inl Wt)), (s4, .inl (cI, 6, .inl SB)), (s5, .inl (cI, 6, .inl CB)), (w0, .inr (3, [.ref w1, .ref w2, .ref w3, .int (nI cq)])), (w1, .inl (cZ, 40, .inl B)), (w2, .inl (cI, 40, .inl U)), (w3, .inl (cI, 41, .inl Nn)), (f0, .inr (2, [.ref v2, .int pl1, .int sp1, .int on1])), (o9, .inl (cL, 1, .inr (.inl Ou)))] sz) [(b0, .inr (4, [.ref h0, .ref g0, .ref a0, .ref w0, .ref e0, .ref f0, .int 1, .int 1])), (h0, .inr (1, [.ref q1, .ref q2, .ref q3, .ref q4, .int (nI n)])), (q1, .inl (cI, 40, .inl (P 1))), (q2, .inl (cI, 40, .inl (P 2))), (q3, .inl (cI, 40, .inl (P 3))), (q4, .inl (cI, 40, .inl (P 4))), (g0, .inr (1, [.ref q5, .ref q6, .ref q7, .ref q8, .int (nI u.2.2.1)])), (q5, .inl (cI, 40, .inl (u.2.2.2 1))), (q6, .inl (cI, 40, .inl (u.2.2.2 2))), (q7, .inl (cI, 40, .inl (u.2.2.2 3))), (q8, .inl (cI, 40, .inl (u.2.2.2 4))), (a0, .inr (0, [.ref s1, .ref s2, .ref s3, .ref s4, .ref s5, .int u.1.2.2.2.2.2])), (s1, .inl (cI, 240, .inl u.1.1)), (s2, .inl (cI, 240, .inl u.1.2.1)), (s3, .inl (cZ, 40, .inl u.1.2.2.1)), (s4, .inl (cI, 6, .inl u.1.2.2.2.1)), (s5, .inl (cI, 6, .inl u.1.2.2.2.2.1)), (w0, .inr (3, [.ref w1, .ref w2, .ref w3, .int (nI u.2.1.2.2.2)])), (w1, .inl (cZ, 40, .inl u.2.1.1)), (w2, .inl (cI, 40, .inl u.2.1.2.1)), (w3, .inl (cI, 41, .inl u.2.1.2.2.1)), (f0, .inr (2, [.ref v2, .int pl1, .int sp1, .int 0])), (o9, .inl (cL, 1, .inr (.inl (vp_updL Ou 0 ((nI u.2.2.1).toInt64)))))] t) ((va_A [(b0, .inr (4, [.ref h0, .ref g0, .ref a0, .ref w0, .ref e0, .ref f0, .int an, .int ra])), (h0, .inr (1, [.ref q1, .ref q2, .ref q3, .ref q4, .int (nI n)])), (q1, .inl (cI, 40, .inl (P 1))), (q2, .inl (cI, 40, .inl (P 2))), (q3, .inl (cI, 40, .inl (P 3))), (q4, .inl (cI, 40, .inl (P 4))), (g0, .inr (1, [.ref q5, .ref q6, .ref q7, .ref q8, .int (nI n2)])), (q5, .inl (cI, 40, .inl (Q 1))), (q6, .inl (cI, 40, .inl (Q 2))), (q7, .inl (cI, 40, .inl (Q 3))), (q8, .inl (cI, 40, .inl (Q 4))), (a0, .inr (0, [.ref s1, .ref s2, .ref s3, .ref s4, .ref s5, .int res])), (s1, .inl (cI, 240, .inl S)), (s2, .inl (cI, 240, .inl C)), (s3, .inl (cZ, 40, .inl Wt)), (s4, .inl (cI, 6, .inl SB)), (s5, .inl (cI, 6, .inl CB)), (w0, .inr (3, [.ref w1, .ref w2, .ref w3, .int (nI cq)])), (w1, .inl (cZ, 40, .inl B)), (w2, .inl (cI, 40, .inl U)), (w3, .inl (cI, 41, .inl Nn)), (f0, .inr (2, [.ref v2, .int pl1, .int sp1, .int on1])), (o9, .inl (cL, 1, .inr (.inl Ou)))] sz))) 0 0 (va_A [(b0, .inr (4, [.ref h0, .ref g0, .ref a0, .ref w0, .ref e0, .ref f0, .int an, .int ra])), (h0, .inr (1, [.ref q1, .ref q2, .ref q3, .ref q4, .int (nI n)])), (q1, .inl (cI, 40, .inl (P 1))), (q2, .inl (cI, 40, .inl (P 2))), (q3, .inl (cI, 40, .inl (P 3))), (q4, .inl (cI, 40, .inl (P 4))), (g0, .inr (1, [.ref q5, .ref q6, .ref q7, .ref q8, .int (nI n2)])), (q5, .inl (cI, 40, .inl (Q 1))), (q6, .inl (cI, 40, .inl (Q 2))), (q7, .inl (cI, 40, .inl (Q 3))), (q8, .inl (cI, 40, .inl (Q 4))), (a0, .inr (0, [.ref s1, .ref s2, .ref s3, .ref s4, .ref s5, .int res])), (s1, .inl (cI, 240, .inl S)), (s2, .inl (cI, 240, .inl C)), (s3, .inl (cZ, 40, .inl Wt)), (s4, .inl (cI, 6, .inl SB)), (s5, .inl (cI, 6, .inl CB)), (w0, .inr (3, [.ref w1, .ref w2, .ref w3, .int (nI cq)])), (w1, .inl (cZ, 40, .inl B)), (w2, .inl (cI, 40, .inl U)), (w3, .inl (cI, 41, .inl Nn)), (f0, .inr (2, [.ref v2, .int pl1, .int sp1, .int on1])), (o9, .inl (cL, 1, .inr (.inl Ou)))] sz) := by
  refine bc_metW (fun A => va_Qi (fun (r : Int32) (u : (bc_F × bc_F × bc_F × bc_F × bc_F × Int32) × (bc_F × bc_F × bc_F × Nat) × Nat × (Nat → bc_F)) => r = 0 ∧ u.2.2.1 ≤ n ∧ (∀ j, j < 40 → u.1.2.2.1 j = 0) ∧ ∃ g, bc_en u.1.1 u.1.2.1 g ∧ bc_Lst n (P 1) (P 2) (P 3) (P 4) g ∧ bc_RW n (bc_f1 n (P 1) (P 2) (P 3) (P 4) g) u.2.2.1 (u.2.2.2 1) (u.2.2.2 2) (u.2.2.2 3) (u.2.2.2 4)) (fun (u : (bc_F × bc_F × bc_F × bc_F × bc_F × Int32) × (bc_F × bc_F × bc_F × Nat) × Nat × (Nat → bc_F)) t => bc_B (dC, dI) classes [(cI, .int), (cZ, .boolean), (cL, .long)] A [(b0, .inr (4, [.ref h0, .ref g0, .ref a0, .ref w0, .ref e0, .ref f0, .int 1, .int 1])), (h0, .inr (1, [.ref q1, .ref q2, .ref q3, .ref q4, .int (nI n)])), (q1, .inl (cI, 40, .inl (P 1))), (q2, .inl (cI, 40, .inl (P 2))), (q3, .inl (cI, 40, .inl (P 3))), (q4, .inl (cI, 40, .inl (P 4))), (g0, .inr (1, [.ref q5, .ref q6, .ref q7, .ref q8, .int (nI u.2.2.1)])), (q5, .inl (cI, 40, .inl (u.2.2.2 1))), (q6, .inl (cI, 40, .inl (u.2.2.2 2))), (q7, .inl (cI, 40, .inl (u.2.2.2 3))), (q8, .inl (cI, 40, .inl (u.2.2.2 4))), (a0, .inr (0, [.ref s1, .ref s2, .ref s3, .ref s4, .ref s5, .int u.1.2.2.2.2.2])), (s1, .inl (cI, 240, .inl u.1.1)), (s2, .inl (cI, 240, .inl u.1.2.1)), (s3, .inl (cZ, 40, .inl u.1.2.2.1)), (s4, .inl (cI, 6, .inl u.1.2.2.2.1)), (s5, .inl (cI, 6, .inl u.1.2.2.2.2.1)), (w0, .inr (3, [.ref w1, .ref w2, .ref w3, .int (nI u.2.1.2.2.2)])), (w1, .inl (cZ, 40, .inl u.2.1.1)), (w2, .inl (cI, 40, .inl u.2.1.2.1)), (w3, .inl (cI, 41, .inl u.2.1.2.2.1)), (f0, .inr (2, [.ref v2, .int pl1, .int sp1, .int 0])), (o9, .inl (cL, 1, .inr (.inl (vp_updL Ou 0 ((nI u.2.2.1).toInt64)))))] t) A) (by decide) (Nat.le_of_ble_eq_true rfl) ?_
  intro p e s m args below meth c A ls F3 hr hlocks hA hP hD hl hS hT9 htab
  have F : bc_Fx p m c by_L_rewrite 3 s args "BranchConstantsLaw" (dC, dI) classes [(cI, .int), (cZ, .boolean)] := ⟨F3.1, F3.2.1, F3.2.2.1, F3.2.2.2.1, F3.2.2.2.2.1, F3.2.2.2.2.2.1, va_K.sub F3.2.2.2.2.2.2 [0, 1] rfl⟩
  have hx := F.1
  have hb := F.2.1
  have hml := F.2.2.1
  have hown : s.vm.findClass "BranchConstantsLaw" = some m.cls := F.2.2.2.1
  have htw := F.2.2.2.2.1
  have hN := F.2.2.2.2.2.1
  have hK := F.2.2.2.2.2.2
  have hK3 := F3.2.2.2.2.2.2
  have hl : lv_has ls 3 [(0, .ref b0), (1, .ref o9)] := hl
  refine lv_aload_n hx hb de_L_rewrite_0 rfl (lv_at hl 1 rfl) ?_
  refine lv_iconst (v := 0) hx hb de_L_rewrite_1 (by decide) ?_
  refine lv_aload_n hx hb de_L_rewrite_2 rfl (lv_at hl 0 rfl) ?_
  refine bc_call_v_i (As := []) (rest := [.int 0, .ref o9]) (wr := [(o9, .inl (cL, 1, .inr (.inl Ou)))]) F (co_B_rewrite hn hw hCI h0n) wm_312 wm_1 wm_309 wm_310 wm_311 0 rfl rfl pd_B_rewrite rfl rfl ⟨Nat.le_of_ble_eq_true rfl, Nat.le_of_ble_eq_true rfl⟩ hP hD hS hA [0, 1, 2, 3, 4, 5, 6, 7, 8, 9, 10, 11, 12, 13, 14, 15, 16, 17, 18, 19, 20, 21] [22] rfl rfl rfl rfl (by decide) rfl hl.1 rfl (Nat.le_of_ble_eq_true rfl) de_L_rewrite_3 ⟨Nat.le_of_ble_eq_true rfl, Nat.le_of_ble_eq_true rfl⟩ (fun r_3 u_3 H locs hw_3 hP hD hS => ?_)
  obtain ⟨e9, hw9⟩ := hw_3
  have hw_3 : r_3 = nI u_3.2.2.1 := e9
  have hP : va_P (dC, dI) classes [(b0, .inr (4, [.ref h0, .ref g0, .ref a0, .ref w0, .ref e0, .ref f0, .int 1, .int 1])), (h0, .inr (1, [.ref q1, .ref q2, .ref q3, .ref q4, .int (nI n)])), (q1, .inl (cI, 40, .inl (P 1))), (q2, .inl (cI, 40, .inl (P 2))), (q3, .inl (cI, 40, .inl (P 3))), (q4, .inl (cI, 40, .inl (P 4))), (g0, .inr (1, [.ref q5, .ref q6, .ref q7, .ref q8, .int (nI u_3.2.2.1)])), (q5, .inl (cI, 40, .inl (u_3.2.2.2 1))), (q6, .inl (cI, 40, .inl (u_3.2.2.2 2))), (q7, .inl (cI, 40, .inl (u_3.2.2.2 3))), (q8, .inl (cI, 40, .inl (u_3.2.2.2 4))), (a0, .inr (0, [.ref s1, .ref s2, .ref s3, .ref s4, .ref s5, .int u_3.1.2.2.2.2.2])), (s1, .inl (cI, 240, .inl u_3.1.1)), (s2, .inl (cI, 240, .inl u_3.1.2.1)), (s3, .inl (cZ, 40, .inl u_3.1.2.2.1)), (s4, .inl (cI, 6, .inl u_3.1.2.2.2.1)), (s5, .inl (cI, 6, .inl u_3.1.2.2.2.2.1)), (w0, .inr (3, [.ref w1, .ref w2, .ref w3, .int (nI u_3.2.1.2.2.2)])), (w1, .inl (cZ, 40, .inl u_3.2.1.1)), (w2, .inl (cI, 40, .inl u_3.2.1.2.1)), (w3, .inl (cI, 41, .inl u_3.2.1.2.2.1)), (f0, .inr (2, [.ref v2, .int pl1, .int sp1, .int 0])), (o9, .inl (cL, 1, .inr (.inl Ou)))] H := hP.sub [1, 2, 3, 4, 5, 6, 7, 8, 9, 10, 11, 12, 13, 14, 15, 16, 17, 18, 19, 20, 21, 22, 0] rfl
  have hD : va_D A [(b0, .inr (4, [.ref h0, .ref g0, .ref a0, .ref w0, .ref e0, .ref f0, .int 1, .int 1])), (h0, .inr (1, [.ref q1, .ref q2, .ref q3, .ref q4, .int (nI n)])), (q1, .inl (cI, 40, .inl (P 1))), (q2, .inl (cI, 40, .inl (P 2))), (q3, .inl (cI, 40, .inl (P 3))), (q4, .inl (cI, 40, .inl (P 4))), (g0, .inr (1, [.ref q5, .ref q6, .ref q7, .ref q8, .int (nI u_3.2.2.1)])), (q5, .inl (cI, 40, .inl (u_3.2.2.2 1))), (q6, .inl (cI, 40, .inl (u_3.2.2.2 2))), (q7, .inl (cI, 40, .inl (u_3.2.2.2 3))), (q8, .inl (cI, 40, .inl (u_3.2.2.2 4))), (a0, .inr (0, [.ref s1, .ref s2, .ref s3, .ref s4, .ref s5, .int u_3.1.2.2.2.2.2])), (s1, .inl (cI, 240, .inl u_3.1.1)), (s2, .inl (cI, 240, .inl u_3.1.2.1)), (s3, .inl (cZ, 40, .inl u_3.1.2.2.1)), (s4, .inl (cI, 6, .inl u_3.1.2.2.2.1)), (s5, .inl (cI, 6, .inl u_3.1.2.2.2.2.1)), (w0, .inr (3, [.ref w1, .ref w2, .ref w3, .int (nI u_3.2.1.2.2.2)])), (w1, .inl (cZ, 40, .inl u_3.2.1.1)), (w2, .inl (cI, 40, .inl u_3.2.1.2.1)), (w3, .inl (cI, 41, .inl u_3.2.1.2.2.1)), (f0, .inr (2, [.ref v2, .int pl1, .int sp1, .int 0])), (o9, .inl (cL, 1, .inr (.inl Ou)))] := hD.sub [1, 2, 3, 4, 5, 6, 7, 8, 9, 10, 11, 12, 13, 14, 15, 16, 17, 18, 19, 20, 21, 22, 0] (by decide) rfl
  subst hw_3
  refine lv_i2l (v := (nI u_3.2.2.1).toInt64) hx hb de_L_rewrite_6 rfl ?_
  refine va_last (i := 0) hx hb hK3 hP hD hS 22 2 rfl rfl (by unfold vp_in; decide) de_L_rewrite_7 (fun H locs hP hD hS => ?_)
  have hP : va_P (dC, dI) classes [(b0, .inr (4, [.ref h0, .ref g0, .ref a0, .ref w0, .ref e0, .ref f0, .int 1, .int 1])), (h0, .inr (1, [.ref q1, .ref q2, .ref q3, .ref q4, .int (nI n)])), (q1, .inl (cI, 40, .inl (P 1))), (q2, .inl (cI, 40, .inl (P 2))), (q3, .inl (cI, 40, .inl (P 3))), (q4, .inl (cI, 40, .inl (P 4))), (g0, .inr (1, [.ref q5, .ref q6, .ref q7, .ref q8, .int (nI u_3.2.2.1)])), (q5, .inl (cI, 40, .inl (u_3.2.2.2 1))), (q6, .inl (cI, 40, .inl (u_3.2.2.2 2))), (q7, .inl (cI, 40, .inl (u_3.2.2.2 3))), (q8, .inl (cI, 40, .inl (u_3.2.2.2 4))), (a0, .inr (0, [.ref s1, .ref s2, .ref s3, .ref s4, .ref s5, .int u_3.1.2.2.2.2.2])), (s1, .inl (cI, 240, .inl u_3.1.1)), (s2, .inl (cI, 240, .inl u_3.1.2.1)), (s3, .inl (cZ, 40, .inl u_3.1.2.2.1)), (s4, .inl (cI, 6, .inl u_3.1.2.2.2.1)), (s5, .inl (cI, 6, .inl u_3.1.2.2.2.2.1)), (w0, .inr (3, [.ref w1, .ref w2, .ref w3, .int (nI u_3.2.1.2.2.2)])), (w1, .inl (cZ, 40, .inl u_3.2.1.1)), (w2, .inl (cI, 40, .inl u_3.2.1.2.1)), (w3, .inl (cI, 41, .inl u_3.2.1.2.2.1)), (f0, .inr (2, [.ref v2, .int pl1, .int sp1, .int 0])), (o9, .inl (cL, 1, .inr (.inl (vp_updL Ou 0 ((nI u_3.2.2.1).toInt64)))))] H := hP
  have hD : va_D A [(b0, .inr (4, [.ref h0, .ref g0, .ref a0, .ref w0, .ref e0, .ref f0, .int 1, .int 1])), (h0, .inr (1, [.ref q1, .ref q2, .ref q3, .ref q4, .int (nI n)])), (q1, .inl (cI, 40, .inl (P 1))), (q2, .inl (cI, 40, .inl (P 2))), (q3, .inl (cI, 40, .inl (P 3))), (q4, .inl (cI, 40, .inl (P 4))), (g0, .inr (1, [.ref q5, .ref q6, .ref q7, .ref q8, .int (nI u_3.2.2.1)])), (q5, .inl (cI, 40, .inl (u_3.2.2.2 1))), (q6, .inl (cI, 40, .inl (u_3.2.2.2 2))), (q7, .inl (cI, 40, .inl (u_3.2.2.2 3))), (q8, .inl (cI, 40, .inl (u_3.2.2.2 4))), (a0, .inr (0, [.ref s1, .ref s2, .ref s3, .ref s4, .ref s5, .int u_3.1.2.2.2.2.2])), (s1, .inl (cI, 240, .inl u_3.1.1)), (s2, .inl (cI, 240, .inl u_3.1.2.1)), (s3, .inl (cZ, 40, .inl u_3.1.2.2.1)), (s4, .inl (cI, 6, .inl u_3.1.2.2.2.1)), (s5, .inl (cI, 6, .inl u_3.1.2.2.2.2.1)), (w0, .inr (3, [.ref w1, .ref w2, .ref w3, .int (nI u_3.2.1.2.2.2)])), (w1, .inl (cZ, 40, .inl u_3.2.1.1)), (w2, .inl (cI, 40, .inl u_3.2.1.2.1)), (w3, .inl (cI, 41, .inl u_3.2.1.2.2.1)), (f0, .inr (2, [.ref v2, .int pl1, .int sp1, .int 0])), (o9, .inl (cL, 1, .inr (.inl (vp_updL Ou 0 ((nI u_3.2.2.1).toInt64)))))] := hD
  refine lv_goto (tgt := 14) hx hb de_L_rewrite_8 (by decide) ?_
  refine lv_iconst (v := 0) hx hb de_L_rewrite_14 (by decide) ?_
  exact bc_iret F3 hr hlocks u_3 ⟨rfl, hw9⟩ hP hD hS de_L_rewrite_15

set_option maxHeartbeats 4000000 in
set_option maxRecDepth 100000 in
theorem co_L_code0 {l : Launch} {dC : Nat → ClassId} {dI : Nat → Nat → Nat} {cI cZ cL : ClassId} {sz : Nat} (hl0 : l.stackTraces = false) {b0 h0 q1 q2 q3 q4 g0 a0 w0 e0 f0 n : Nat} {P : Nat → bc_F} {an ra : Int32} {o9 : Nat} {Ou : Nat → Int64}  {j w : Nat} (hn : n ≤ 40) (hj : j < n) (hw4 : w < 4) : Met l yn_L_code (Cond.codeWith yn_L_code by_L_code 6 (some FieldType.int) [(0, 12, 15, 15), (0, 12, 19, 21)] :: wd_all) ({ frames := 2, cells := 0, slots := 0, locals := 46 } : Room) (bc_PreX (dC, dI) classes [(cI, .int), (cZ, .boolean), (cL, .long)] [.ref b0, .int 0, .int (nI j), .int (nI w), .ref o9] [(b0, .inr (4, [.ref h0, .ref g0, .ref a0, .ref w0, .ref e0, .ref f0, .int an, .int ra])), (h0, .inr (1, [.ref q1, .ref q2, .ref q3, .ref q4, .int (nI n)])), (q1, .inl (cI, 40, .inl (P 1))), (q2, .inl (cI, 40, .inl (P 2))), (q3, .inl (cI, 40, .inl (P 3))), (q4, .inl (cI, 40, .inl (P 4))), (o9, .inl (cL, 1, .inr (.inl Ou)))] sz) (va_Qi (fun (r : Int32) (u : Unit) => r = 0) (fun (u : Unit) t => bc_B (dC, dI) classes [(cI, .int), (cZ, .boolean), (cL, .long)] (va_A [(b0, .inr (4, [.ref h0, .ref g0, .ref a0, .ref w0, .ref e0, .ref f0, .int an, .int ra])), (h0, .inr (1, [.ref q1, .ref q2, .ref q3, .ref q4, .int (nI n)])), (q1, .inl (cI, 40, .inl (P 1))), (q2, .inl (cI, 40, .inl (P 2))), (q3, .inl (cI, 40, .inl (P 3))), (q4, .inl (cI, 40, .inl (P 4))), (o9, .inl (cL, 1, .inr (.inl Ou)))] sz) [(b0, .inr (4, [.ref h0, .ref g0, .ref a0, .ref w0, .ref e0, .ref f0, .int an, .int ra])), (h0, .inr (1, [.ref q1, .ref q2, .ref q3, .ref q4, .int (nI n)])), (q1, .inl (cI, 40, .inl (P 1))), (q2, .inl (cI, 40, .inl (P 2))), (q3, .inl (cI, 40, .inl (P 3))), (q4, .inl (cI, 40, .inl (P 4))), (o9, .inl (cL, 1, .inr (.inl (vp_updL Ou 0 ((P (w + 1) j).toInt64)))))] t) ((va_A [(b0, .inr (4, [.ref h0, .ref g0, .ref a0, .ref w0, .ref e0, .ref f0, .int an, .int ra])), (h0, .inr (1, [.ref q1, .ref q2, .ref q3, .ref q4, .int (nI n)])), (q1, .inl (cI, 40, .inl (P 1))), (q2, .inl (cI, 40, .inl (P 2))), (q3, .inl (cI, 40, .inl (P 3))), (q4, .inl (cI, 40, .inl (P 4))), (o9, .inl (cL, 1, .inr (.inl Ou)))] sz))) 0 0 (va_A [(b0, .inr (4, [.ref h0, .ref g0, .ref a0, .ref w0, .ref e0, .ref f0, .int an, .int ra])), (h0, .inr (1, [.ref q1, .ref q2, .ref q3, .ref q4, .int (nI n)])), (q1, .inl (cI, 40, .inl (P 1))), (q2, .inl (cI, 40, .inl (P 2))), (q3, .inl (cI, 40, .inl (P 3))), (q4, .inl (cI, 40, .inl (P 4))), (o9, .inl (cL, 1, .inr (.inl Ou)))] sz) := by
  refine bc_metW (fun A => va_Qi (fun (r : Int32) (u : Unit) => r = 0) (fun (u : Unit) t => bc_B (dC, dI) classes [(cI, .int), (cZ, .boolean), (cL, .long)] A [(b0, .inr (4, [.ref h0, .ref g0, .ref a0, .ref w0, .ref e0, .ref f0, .int an, .int ra])), (h0, .inr (1, [.ref q1, .ref q2, .ref q3, .ref q4, .int (nI n)])), (q1, .inl (cI, 40, .inl (P 1))), (q2, .inl (cI, 40, .inl (P 2))), (q3, .inl (cI, 40, .inl (P 3))), (q4, .inl (cI, 40, .inl (P 4))), (o9, .inl (cL, 1, .inr (.inl (vp_updL Ou 0 ((P (w + 1) j).toInt64)))))] t) A) (by decide) (Nat.le_of_ble_eq_true rfl) ?_
  intro p e s m args below meth c A ls F3 hr hlocks hA hP hD hl hS hT9 htab
  have F : bc_Fx p m c by_L_code 6 s args "BranchConstantsLaw" (dC, dI) classes [(cI, .int), (cZ, .boolean)] := ⟨F3.1, F3.2.1, F3.2.2.1, F3.2.2.2.1, F3.2.2.2.2.1, F3.2.2.2.2.2.1, va_K.sub F3.2.2.2.2.2.2 [0, 1] rfl⟩
  have hx := F.1
  have hb := F.2.1
  have hml := F.2.2.1
  have hown : s.vm.findClass "BranchConstantsLaw" = some m.cls := F.2.2.2.1
  have htw := F.2.2.2.2.1
  have hN := F.2.2.2.2.2.1
  have hK := F.2.2.2.2.2.2
  have hK3 := F3.2.2.2.2.2.2
  have hl : lv_has ls 6 [(0, .ref b0), (1, .int 0), (2, .int (nI j)), (3, .int (nI w)), (4, .ref o9)] := hl
  refine lv_aload hx hb de_L_code_0 (lv_at hl 4 rfl) ?_
  refine lv_iconst (v := 0) hx hb de_L_code_2 (by decide) ?_
  refine lv_aload_n hx hb de_L_code_3 rfl (lv_at hl 0 rfl) ?_
  refine lv_iload_n hx hb de_L_code_4 rfl (lv_at hl 1 rfl) ?_
  refine lv_iload_n hx hb de_L_code_5 rfl (lv_at hl 2 rfl) ?_
  refine lv_iload_n hx hb de_L_code_6 rfl (lv_at hl 3 rfl) ?_
  refine bc_call_v_i (As := [.int 0, .int (nI j), .int (nI w)]) (rest := [.int 0, .ref o9]) (wr := [(o9, .inl (cL, 1, .inr (.inl Ou)))]) F (co_B_code0 hn hj hw4) wm_350 wm_1 wm_347 wm_348 wm_349 0 rfl rfl pd_B_code rfl rfl ⟨Nat.le_of_ble_eq_true rfl, Nat.le_of_ble_eq_true rfl⟩ hP hD hS hA [0, 1, 2, 3, 4, 5] [6] rfl rfl rfl rfl (by decide) rfl hl.1 rfl (Nat.le_of_ble_eq_true rfl) de_L_code_7 ⟨Nat.le_of_ble_eq_true rfl, Nat.le_of_ble_eq_true rfl⟩ (fun r_7 u_7 H locs hw_7 hP hD hS => ?_)
  have hP : va_P (dC, dI) classes [(b0, .inr (4, [.ref h0, .ref g0, .ref a0, .ref w0, .ref e0, .ref f0, .int an, .int ra])), (h0, .inr (1, [.ref q1, .ref q2, .ref q3, .ref q4, .int (nI n)])), (q1, .inl (cI, 40, .inl (P 1))), (q2, .inl (cI, 40, .inl (P 2))), (q3, .inl (cI, 40, .inl (P 3))), (q4, .inl (cI, 40, .inl (P 4))), (o9, .inl (cL, 1, .inr (.inl Ou)))] H := hP.sub [1, 2, 3, 4, 5, 6, 0] rfl
  have hD : va_D A [(b0, .inr (4, [.ref h0, .ref g0, .ref a0, .ref w0, .ref e0, .ref f0, .int an, .int ra])), (h0, .inr (1, [.ref q1, .ref q2, .ref q3, .ref q4, .int (nI n)])), (q1, .inl (cI, 40, .inl (P 1))), (q2, .inl (cI, 40, .inl (P 2))), (q3, .inl (cI, 40, .inl (P 3))), (q4, .inl (cI, 40, .inl (P 4))), (o9, .inl (cL, 1, .inr (.inl Ou)))] := hD.sub [1, 2, 3, 4, 5, 6, 0] (by decide) rfl
  subst hw_7
  refine lv_i2l (v := (P (w + 1) j).toInt64) hx hb de_L_code_10 rfl ?_
  refine va_last (i := 0) hx hb hK3 hP hD hS 6 2 rfl rfl (by unfold vp_in; decide) de_L_code_11 (fun H locs hP hD hS => ?_)
  have hP : va_P (dC, dI) classes [(b0, .inr (4, [.ref h0, .ref g0, .ref a0, .ref w0, .ref e0, .ref f0, .int an, .int ra])), (h0, .inr (1, [.ref q1, .ref q2, .ref q3, .ref q4, .int (nI n)])), (q1, .inl (cI, 40, .inl (P 1))), (q2, .inl (cI, 40, .inl (P 2))), (q3, .inl (cI, 40, .inl (P 3))), (q4, .inl (cI, 40, .inl (P 4))), (o9, .inl (cL, 1, .inr (.inl (vp_updL Ou 0 ((P (w + 1) j).toInt64)))))] H := hP
  have hD : va_D A [(b0, .inr (4, [.ref h0, .ref g0, .ref a0, .ref w0, .ref e0, .ref f0, .int an, .int ra])), (h0, .inr (1, [.ref q1, .ref q2, .ref q3, .ref q4, .int (nI n)])), (q1, .inl (cI, 40, .inl (P 1))), (q2, .inl (cI, 40, .inl (P 2))), (q3, .inl (cI, 40, .inl (P 3))), (q4, .inl (cI, 40, .inl (P 4))), (o9, .inl (cL, 1, .inr (.inl (vp_updL Ou 0 ((P (w + 1) j).toInt64)))))] := hD
  refine lv_goto (tgt := 23) hx hb de_L_code_12 (by decide) ?_
  refine lv_iconst (v := 0) hx hb de_L_code_23 (by decide) ?_
  exact bc_iret F3 hr hlocks (()) rfl hP hD hS de_L_code_24

set_option maxHeartbeats 4000000 in
set_option maxRecDepth 100000 in
theorem co_L_start0 {l : Launch} {dC : Nat → ClassId} {dI : Nat → Nat → Nat} {cI cZ cL : ClassId} {sz : Nat} (hl0 : l.stackTraces = false) {b0 h0 q1 q2 q3 q4 g0 a0 w0 e0 v1 f0 n : Nat} {X0 : bc_F} {an ra pl0 sp0 on0 : Int32}  {a1 b1 c1 d1 : Int32} (hn : n ≤ 40) : Met l yn_L_start (Cond.codeWith yn_L_start by_L_start 7 (some FieldType.int) [(0, 11, 14, 21), (0, 11, 18, 15)] :: wd_all) ({ frames := 3, cells := 0, slots := 0, locals := 73 } : Room) (bc_PreX (dC, dI) classes [(cI, .int), (cZ, .boolean), (cL, .long)] [.ref b0, .int 0, .int a1, .int b1, .int c1, .int d1] [(b0, .inr (4, [.ref h0, .ref g0, .ref a0, .ref w0, .ref e0, .ref f0, .int an, .int ra])), (h0, .inr (1, [.ref q1, .ref q2, .ref q3, .ref q4, .int (nI n)])), (e0, .inr (2, [.ref v1, .int pl0, .int sp0, .int on0])), (v1, .inl (cI, 6, .inl X0))] sz) (va_Qi (fun (r : Int32) (u : bc_F) => r = 0 ∧ u 0 = a1 ∧ u 1 = b1 ∧ u 2 = c1 ∧ u 3 = d1 ∧ u 4 = 0 ∧ u 5 = 0) (fun (u : bc_F) t => bc_B (dC, dI) classes [(cI, .int), (cZ, .boolean), (cL, .long)] (va_A [(b0, .inr (4, [.ref h0, .ref g0, .ref a0, .ref w0, .ref e0, .ref f0, .int an, .int ra])), (h0, .inr (1, [.ref q1, .ref q2, .ref q3, .ref q4, .int (nI n)])), (e0, .inr (2, [.ref v1, .int pl0, .int sp0, .int on0])), (v1, .inl (cI, 6, .inl X0))] sz) [(b0, .inr (4, [.ref h0, .ref g0, .ref a0, .ref w0, .ref e0, .ref f0, .int an, .int ra])), (h0, .inr (1, [.ref q1, .ref q2, .ref q3, .ref q4, .int (nI n)])), (e0, .inr (2, [.ref v1, .int (bc_pl n 0), .int 0, .int 1])), (v1, .inl (cI, 6, .inl u))] t) ((va_A [(b0, .inr (4, [.ref h0, .ref g0, .ref a0, .ref w0, .ref e0, .ref f0, .int an, .int ra])), (h0, .inr (1, [.ref q1, .ref q2, .ref q3, .ref q4, .int (nI n)])), (e0, .inr (2, [.ref v1, .int pl0, .int sp0, .int on0])), (v1, .inl (cI, 6, .inl X0))] sz))) 0 0 (va_A [(b0, .inr (4, [.ref h0, .ref g0, .ref a0, .ref w0, .ref e0, .ref f0, .int an, .int ra])), (h0, .inr (1, [.ref q1, .ref q2, .ref q3, .ref q4, .int (nI n)])), (e0, .inr (2, [.ref v1, .int pl0, .int sp0, .int on0])), (v1, .inl (cI, 6, .inl X0))] sz) := by
  refine bc_metW (fun A => va_Qi (fun (r : Int32) (u : bc_F) => r = 0 ∧ u 0 = a1 ∧ u 1 = b1 ∧ u 2 = c1 ∧ u 3 = d1 ∧ u 4 = 0 ∧ u 5 = 0) (fun (u : bc_F) t => bc_B (dC, dI) classes [(cI, .int), (cZ, .boolean), (cL, .long)] A [(b0, .inr (4, [.ref h0, .ref g0, .ref a0, .ref w0, .ref e0, .ref f0, .int an, .int ra])), (h0, .inr (1, [.ref q1, .ref q2, .ref q3, .ref q4, .int (nI n)])), (e0, .inr (2, [.ref v1, .int (bc_pl n 0), .int 0, .int 1])), (v1, .inl (cI, 6, .inl u))] t) A) (by decide) (Nat.le_of_ble_eq_true rfl) ?_
  intro p e s m args below meth c A ls F3 hr hlocks hA hP hD hl hS hT9 htab
  have F : bc_Fx p m c by_L_start 7 s args "BranchConstantsLaw" (dC, dI) classes [(cI, .int), (cZ, .boolean)] := ⟨F3.1, F3.2.1, F3.2.2.1, F3.2.2.2.1, F3.2.2.2.2.1, F3.2.2.2.2.2.1, va_K.sub F3.2.2.2.2.2.2 [0, 1] rfl⟩
  have hx := F.1
  have hb := F.2.1
  have hml := F.2.2.1
  have hown : s.vm.findClass "BranchConstantsLaw" = some m.cls := F.2.2.2.1
  have htw := F.2.2.2.2.1
  have hN := F.2.2.2.2.2.1
  have hK := F.2.2.2.2.2.2
  have hK3 := F3.2.2.2.2.2.2
  have hl : lv_has ls 7 [(0, .ref b0), (1, .int 0), (2, .int a1), (3, .int b1), (4, .int c1), (5, .int d1)] := hl
  refine lv_aload_n hx hb de_L_start_0 rfl (lv_at hl 0 rfl) ?_
  refine lv_iload_n hx hb de_L_start_1 rfl (lv_at hl 1 rfl) ?_
  refine lv_iload_n hx hb de_L_start_2 rfl (lv_at hl 2 rfl) ?_
  refine lv_iload_n hx hb de_L_start_3 rfl (lv_at hl 3 rfl) ?_
  refine lv_iload hx hb de_L_start_4 (lv_at hl 4 rfl) ?_
  refine lv_iload hx hb de_L_start_6 (lv_at hl 5 rfl) ?_
  refine bc_call_v_v (As := [.int 0, .int a1, .int b1, .int c1, .int d1]) (rest := []) (wr := []) F (co_B_start0 hn) wm_368 wm_1 wm_365 wm_366 wm_367 0 rfl rfl pd_B_start rfl rfl ⟨Nat.le_of_ble_eq_true rfl, Nat.le_of_ble_eq_true rfl⟩ hP hD hS hA [0, 1, 2, 3] [] rfl rfl rfl rfl (by decide) rfl hl.1 rfl (Nat.le_of_ble_eq_true rfl) de_L_start_8 ⟨Nat.le_of_ble_eq_true rfl, Nat.le_of_ble_eq_true rfl⟩ (fun u_8 H locs hw_8 hP hD hS => ?_)
  have hP : va_P (dC, dI) classes [(b0, .inr (4, [.ref h0, .ref g0, .ref a0, .ref w0, .ref e0, .ref f0, .int an, .int ra])), (h0, .inr (1, [.ref q1, .ref q2, .ref q3, .ref q4, .int (nI n)])), (e0, .inr (2, [.ref v1, .int (bc_pl n 0), .int 0, .int 1])), (v1, .inl (cI, 6, .inl u_8))] H := hP.sub [0, 1, 2, 3] rfl
  have hD : va_D A [(b0, .inr (4, [.ref h0, .ref g0, .ref a0, .ref w0, .ref e0, .ref f0, .int an, .int ra])), (h0, .inr (1, [.ref q1, .ref q2, .ref q3, .ref q4, .int (nI n)])), (e0, .inr (2, [.ref v1, .int (bc_pl n 0), .int 0, .int 1])), (v1, .inl (cI, 6, .inl u_8))] := hD.sub [0, 1, 2, 3] (by decide) rfl
  refine lv_goto (tgt := 22) hx hb de_L_start_11 (by decide) ?_
  refine lv_iconst (v := 0) hx hb de_L_start_22 (by decide) ?_
  exact bc_iret F3 hr hlocks u_8 ⟨rfl, hw_8⟩ hP hD hS de_L_start_23

set_option maxHeartbeats 4000000 in
set_option maxRecDepth 100000 in
theorem co_L_run0 {l : Launch} {dC : Nat → ClassId} {dI : Nat → Nat → Nat} {cI cZ cL : ClassId} {sz : Nat} (hl0 : l.stackTraces = false) {b0 h0 q1 q2 q3 q4 g0 a0 w0 e0 v1 f0 n : Nat} {P : Nat → bc_F} {X0 : bc_F} {an ra pl0 sp0 on0 : Int32} {o9 : Nat} {Ou : Nat → Int64}  {mx : Nat} (hn : n ≤ 40) (hw : bc_wf n (P 1) (P 2) (P 3) (P 4)) (hpl : bc_ok n pl0) (hon : on0 ≠ 0) (hmx : mx ≤ 10000) : Met l yn_L_run (Cond.codeWith yn_L_run by_L_run 5 (some FieldType.int) [(0, 10, 13, 21), (0, 10, 17, 13), (0, 10, 21, 15)] :: wd_all) ({ frames := 5, cells := 0, slots := 0, locals := 112 } : Room) (bc_PreX (dC, dI) classes [(cI, .int), (cZ, .boolean), (cL, .long)] [.ref b0, .int 0, .int (nI mx), .ref o9] [(b0, .inr (4, [.ref h0, .ref g0, .ref a0, .ref w0, .ref e0, .ref f0, .int an, .int ra])), (h0, .inr (1, [.ref q1, .ref q2, .ref q3, .ref q4, .int (nI n)])), (q1, .inl (cI, 40, .inl (P 1))), (q2, .inl (cI, 40, .inl (P 2))), (q3, .inl (cI, 40, .inl (P 3))), (q4, .inl (cI, 40, .inl (P 4))), (e0, .inr (2, [.ref v1, .int pl0, .int sp0, .int on0])), (v1, .inl (cI, 6, .inl X0)), (o9, .inl (cL, 1, .inr (.inl Ou)))] sz) (va_Qi (fun (r : Int32) (u : Unit) => r = 0) (fun (u : Unit) t => bc_B (dC, dI) classes [(cI, .int), (cZ, .boolean), (cL, .long)] (va_A [(b0, .inr (4, [.ref h0, .ref g0, .ref a0, .ref w0, .ref e0, .ref f0, .int an, .int ra])), (h0, .inr (1, [.ref q1, .ref q2, .ref q3, .ref q4, .int (nI n)])), (q1, .inl (cI, 40, .inl (P 1))), (q2, .inl (cI, 40, .inl (P 2))), (q3, .inl (cI, 40, .inl (P 3))), (q4, .inl (cI, 40, .inl (P 4))), (e0, .inr (2, [.ref v1, .int pl0, .int sp0, .int on0])), (v1, .inl (cI, 6, .inl X0)), (o9, .inl (cL, 1, .inr (.inl Ou)))] sz) [(b0, .inr (4, [.ref h0, .ref g0, .ref a0, .ref w0, .ref e0, .ref f0, .int an, .int ra])), (h0, .inr (1, [.ref q1, .ref q2, .ref q3, .ref q4, .int (nI n)])), (q1, .inl (cI, 40, .inl (P 1))), (q2, .inl (cI, 40, .inl (P 2))), (q3, .inl (cI, 40, .inl (P 3))), (q4, .inl (cI, 40, .inl (P 4))), (e0, .inr (2, [.ref v1, .int ((bc_rn n (P 1) (P 2) (P 3) (P 4) mx (X0, pl0)).1.2), .int (sp0 + nI (bc_rn n (P 1) (P 2) (P 3) (P 4) mx (X0, pl0)).2), .int on0])), (v1, .inl (cI, 6, .inl ((bc_rn n (P 1) (P 2) (P 3) (P 4) mx (X0, pl0)).1.1))), (o9, .inl (cL, 1, .inr (.inl (vp_updL Ou 0 ((nI (bc_rn n (P 1) (P 2) (P 3) (P 4) mx (X0, pl0)).2).toInt64)))))] t) ((va_A [(b0, .inr (4, [.ref h0, .ref g0, .ref a0, .ref w0, .ref e0, .ref f0, .int an, .int ra])), (h0, .inr (1, [.ref q1, .ref q2, .ref q3, .ref q4, .int (nI n)])), (q1, .inl (cI, 40, .inl (P 1))), (q2, .inl (cI, 40, .inl (P 2))), (q3, .inl (cI, 40, .inl (P 3))), (q4, .inl (cI, 40, .inl (P 4))), (e0, .inr (2, [.ref v1, .int pl0, .int sp0, .int on0])), (v1, .inl (cI, 6, .inl X0)), (o9, .inl (cL, 1, .inr (.inl Ou)))] sz))) 0 0 (va_A [(b0, .inr (4, [.ref h0, .ref g0, .ref a0, .ref w0, .ref e0, .ref f0, .int an, .int ra])), (h0, .inr (1, [.ref q1, .ref q2, .ref q3, .ref q4, .int (nI n)])), (q1, .inl (cI, 40, .inl (P 1))), (q2, .inl (cI, 40, .inl (P 2))), (q3, .inl (cI, 40, .inl (P 3))), (q4, .inl (cI, 40, .inl (P 4))), (e0, .inr (2, [.ref v1, .int pl0, .int sp0, .int on0])), (v1, .inl (cI, 6, .inl X0)), (o9, .inl (cL, 1, .inr (.inl Ou)))] sz) := by
  refine bc_metW (fun A => va_Qi (fun (r : Int32) (u : Unit) => r = 0) (fun (u : Unit) t => bc_B (dC, dI) classes [(cI, .int), (cZ, .boolean), (cL, .long)] A [(b0, .inr (4, [.ref h0, .ref g0, .ref a0, .ref w0, .ref e0, .ref f0, .int an, .int ra])), (h0, .inr (1, [.ref q1, .ref q2, .ref q3, .ref q4, .int (nI n)])), (q1, .inl (cI, 40, .inl (P 1))), (q2, .inl (cI, 40, .inl (P 2))), (q3, .inl (cI, 40, .inl (P 3))), (q4, .inl (cI, 40, .inl (P 4))), (e0, .inr (2, [.ref v1, .int ((bc_rn n (P 1) (P 2) (P 3) (P 4) mx (X0, pl0)).1.2), .int (sp0 + nI (bc_rn n (P 1) (P 2) (P 3) (P 4) mx (X0, pl0)).2), .int on0])), (v1, .inl (cI, 6, .inl ((bc_rn n (P 1) (P 2) (P 3) (P 4) mx (X0, pl0)).1.1))), (o9, .inl (cL, 1, .inr (.inl (vp_updL Ou 0 ((nI (bc_rn n (P 1) (P 2) (P 3) (P 4) mx (X0, pl0)).2).toInt64)))))] t) A) (by decide) (Nat.le_of_ble_eq_true rfl) ?_
  intro p e s m args below meth c A ls F3 hr hlocks hA hP hD hl hS hT9 htab
  have F : bc_Fx p m c by_L_run 5 s args "BranchConstantsLaw" (dC, dI) classes [(cI, .int), (cZ, .boolean)] := ⟨F3.1, F3.2.1, F3.2.2.1, F3.2.2.2.1, F3.2.2.2.2.1, F3.2.2.2.2.2.1, va_K.sub F3.2.2.2.2.2.2 [0, 1] rfl⟩
  have hx := F.1
  have hb := F.2.1
  have hml := F.2.2.1
  have hown : s.vm.findClass "BranchConstantsLaw" = some m.cls := F.2.2.2.1
  have htw := F.2.2.2.2.1
  have hN := F.2.2.2.2.2.1
  have hK := F.2.2.2.2.2.2
  have hK3 := F3.2.2.2.2.2.2
  have hl : lv_has ls 5 [(0, .ref b0), (1, .int 0), (2, .int (nI mx)), (3, .ref o9)] := hl
  refine lv_aload_n hx hb de_L_run_0 rfl (lv_at hl 3 rfl) ?_
  refine lv_iconst (v := 0) hx hb de_L_run_1 (by decide) ?_
  refine lv_aload_n hx hb de_L_run_2 rfl (lv_at hl 0 rfl) ?_
  refine lv_iload_n hx hb de_L_run_3 rfl (lv_at hl 1 rfl) ?_
  refine lv_iload_n hx hb de_L_run_4 rfl (lv_at hl 2 rfl) ?_
  refine bc_call_v_i (As := [.int 0, .int (nI mx)]) (rest := [.int 0, .ref o9]) (wr := [(o9, .inl (cL, 1, .inr (.inl Ou)))]) F (co_B_run0 hn hw hpl hon hmx) wm_384 wm_1 wm_381 wm_382 wm_383 0 rfl rfl pd_B_run rfl rfl ⟨Nat.le_of_ble_eq_true rfl, Nat.le_of_ble_eq_true rfl⟩ hP hD hS hA [0, 1, 2, 3, 4, 5, 6, 7] [8] rfl rfl rfl rfl (by decide) rfl hl.1 rfl (Nat.le_of_ble_eq_true rfl) de_L_run_5 ⟨Nat.le_of_ble_eq_true rfl, Nat.le_of_ble_eq_true rfl⟩ (fun r_5 u_5 H locs hw_5 hP hD hS => ?_)
  have hP : va_P (dC, dI) classes [(b0, .inr (4, [.ref h0, .ref g0, .ref a0, .ref w0, .ref e0, .ref f0, .int an, .int ra])), (h0, .inr (1, [.ref q1, .ref q2, .ref q3, .ref q4, .int (nI n)])), (q1, .inl (cI, 40, .inl (P 1))), (q2, .inl (cI, 40, .inl (P 2))), (q3, .inl (cI, 40, .inl (P 3))), (q4, .inl (cI, 40, .inl (P 4))), (e0, .inr (2, [.ref v1, .int ((bc_rn n (P 1) (P 2) (P 3) (P 4) mx (X0, pl0)).1.2), .int (sp0 + nI (bc_rn n (P 1) (P 2) (P 3) (P 4) mx (X0, pl0)).2), .int on0])), (v1, .inl (cI, 6, .inl ((bc_rn n (P 1) (P 2) (P 3) (P 4) mx (X0, pl0)).1.1))), (o9, .inl (cL, 1, .inr (.inl Ou)))] H := hP.sub [1, 2, 3, 4, 5, 6, 7, 8, 0] rfl
  have hD : va_D A [(b0, .inr (4, [.ref h0, .ref g0, .ref a0, .ref w0, .ref e0, .ref f0, .int an, .int ra])), (h0, .inr (1, [.ref q1, .ref q2, .ref q3, .ref q4, .int (nI n)])), (q1, .inl (cI, 40, .inl (P 1))), (q2, .inl (cI, 40, .inl (P 2))), (q3, .inl (cI, 40, .inl (P 3))), (q4, .inl (cI, 40, .inl (P 4))), (e0, .inr (2, [.ref v1, .int ((bc_rn n (P 1) (P 2) (P 3) (P 4) mx (X0, pl0)).1.2), .int (sp0 + nI (bc_rn n (P 1) (P 2) (P 3) (P 4) mx (X0, pl0)).2), .int on0])), (v1, .inl (cI, 6, .inl ((bc_rn n (P 1) (P 2) (P 3) (P 4) mx (X0, pl0)).1.1))), (o9, .inl (cL, 1, .inr (.inl Ou)))] := hD.sub [1, 2, 3, 4, 5, 6, 7, 8, 0] (by decide) rfl
  subst hw_5
  refine lv_i2l (v := (nI (bc_rn n (P 1) (P 2) (P 3) (P 4) mx (X0, pl0)).2).toInt64) hx hb de_L_run_8 rfl ?_
  refine va_last (i := 0) hx hb hK3 hP hD hS 8 2 rfl rfl (by unfold vp_in; decide) de_L_run_9 (fun H locs hP hD hS => ?_)
  have hP : va_P (dC, dI) classes [(b0, .inr (4, [.ref h0, .ref g0, .ref a0, .ref w0, .ref e0, .ref f0, .int an, .int ra])), (h0, .inr (1, [.ref q1, .ref q2, .ref q3, .ref q4, .int (nI n)])), (q1, .inl (cI, 40, .inl (P 1))), (q2, .inl (cI, 40, .inl (P 2))), (q3, .inl (cI, 40, .inl (P 3))), (q4, .inl (cI, 40, .inl (P 4))), (e0, .inr (2, [.ref v1, .int ((bc_rn n (P 1) (P 2) (P 3) (P 4) mx (X0, pl0)).1.2), .int (sp0 + nI (bc_rn n (P 1) (P 2) (P 3) (P 4) mx (X0, pl0)).2), .int on0])), (v1, .inl (cI, 6, .inl ((bc_rn n (P 1) (P 2) (P 3) (P 4) mx (X0, pl0)).1.1))), (o9, .inl (cL, 1, .inr (.inl (vp_updL Ou 0 ((nI (bc_rn n (P 1) (P 2) (P 3) (P 4) mx (X0, pl0)).2).toInt64)))))] H := hP
  have hD : va_D A [(b0, .inr (4, [.ref h0, .ref g0, .ref a0, .ref w0, .ref e0, .ref f0, .int an, .int ra])), (h0, .inr (1, [.ref q1, .ref q2, .ref q3, .ref q4, .int (nI n)])), (q1, .inl (cI, 40, .inl (P 1))), (q2, .inl (cI, 40, .inl (P 2))), (q3, .inl (cI, 40, .inl (P 3))), (q4, .inl (cI, 40, .inl (P 4))), (e0, .inr (2, [.ref v1, .int ((bc_rn n (P 1) (P 2) (P 3) (P 4) mx (X0, pl0)).1.2), .int (sp0 + nI (bc_rn n (P 1) (P 2) (P 3) (P 4) mx (X0, pl0)).2), .int on0])), (v1, .inl (cI, 6, .inl ((bc_rn n (P 1) (P 2) (P 3) (P 4) mx (X0, pl0)).1.1))), (o9, .inl (cL, 1, .inr (.inl (vp_updL Ou 0 ((nI (bc_rn n (P 1) (P 2) (P 3) (P 4) mx (X0, pl0)).2).toInt64)))))] := hD
  refine lv_goto (tgt := 25) hx hb de_L_run_10 (by decide) ?_
  refine lv_iconst (v := 0) hx hb de_L_run_25 (by decide) ?_
  exact bc_iret F3 hr hlocks (()) rfl hP hD hS de_L_run_26

set_option maxHeartbeats 4000000 in
set_option maxRecDepth 100000 in
theorem co_L_place0 {l : Launch} {dC : Nat → ClassId} {dI : Nat → Nat → Nat} {cI cZ cL : ClassId} {sz : Nat} (hl0 : l.stackTraces = false) {b0 h0 g0 a0 w0 e0 v1 f0 : Nat} {an ra pl0 sp0 on0 : Int32} {o9 : Nat} {Ou : Nat → Int64}   (hon : on0 ≠ 0) : Met l yn_L_place (Cond.codeWith yn_L_place by_L_place 4 (some FieldType.int) [(0, 9, 12, 21), (0, 9, 15, 15)] :: wd_all) ({ frames := 3, cells := 0, slots := 0, locals := 63 } : Room) (bc_PreX (dC, dI) classes [(cI, .int), (cZ, .boolean), (cL, .long)] [.ref b0, .int 0, .ref o9] [(b0, .inr (4, [.ref h0, .ref g0, .ref a0, .ref w0, .ref e0, .ref f0, .int an, .int ra])), (e0, .inr (2, [.ref v1, .int pl0, .int sp0, .int on0])), (o9, .inl (cL, 1, .inr (.inl Ou)))] sz) (va_Qi (fun (r : Int32) (u : Unit) => r = 0) (fun (u : Unit) t => bc_B (dC, dI) classes [(cI, .int), (cZ, .boolean), (cL, .long)] (va_A [(b0, .inr (4, [.ref h0, .ref g0, .ref a0, .ref w0, .ref e0, .ref f0, .int an, .int ra])), (e0, .inr (2, [.ref v1, .int pl0, .int sp0, .int on0])), (o9, .inl (cL, 1, .inr (.inl Ou)))] sz) [(b0, .inr (4, [.ref h0, .ref g0, .ref a0, .ref w0, .ref e0, .ref f0, .int an, .int ra])), (e0, .inr (2, [.ref v1, .int pl0, .int sp0, .int on0])), (o9, .inl (cL, 1, .inr (.inl (vp_updL Ou 0 pl0.toInt64))))] t) ((va_A [(b0, .inr (4, [.ref h0, .ref g0, .ref a0, .ref w0, .ref e0, .ref f0, .int an, .int ra])), (e0, .inr (2, [.ref v1, .int pl0, .int sp0, .int on0])), (o9, .inl (cL, 1, .inr (.inl Ou)))] sz))) 0 0 (va_A [(b0, .inr (4, [.ref h0, .ref g0, .ref a0, .ref w0, .ref e0, .ref f0, .int an, .int ra])), (e0, .inr (2, [.ref v1, .int pl0, .int sp0, .int on0])), (o9, .inl (cL, 1, .inr (.inl Ou)))] sz) := by
  refine bc_metW (fun A => va_Qi (fun (r : Int32) (u : Unit) => r = 0) (fun (u : Unit) t => bc_B (dC, dI) classes [(cI, .int), (cZ, .boolean), (cL, .long)] A [(b0, .inr (4, [.ref h0, .ref g0, .ref a0, .ref w0, .ref e0, .ref f0, .int an, .int ra])), (e0, .inr (2, [.ref v1, .int pl0, .int sp0, .int on0])), (o9, .inl (cL, 1, .inr (.inl (vp_updL Ou 0 pl0.toInt64))))] t) A) (by decide) (Nat.le_of_ble_eq_true rfl) ?_
  intro p e s m args below meth c A ls F3 hr hlocks hA hP hD hl hS hT9 htab
  have F : bc_Fx p m c by_L_place 4 s args "BranchConstantsLaw" (dC, dI) classes [(cI, .int), (cZ, .boolean)] := ⟨F3.1, F3.2.1, F3.2.2.1, F3.2.2.2.1, F3.2.2.2.2.1, F3.2.2.2.2.2.1, va_K.sub F3.2.2.2.2.2.2 [0, 1] rfl⟩
  have hx := F.1
  have hb := F.2.1
  have hml := F.2.2.1
  have hown : s.vm.findClass "BranchConstantsLaw" = some m.cls := F.2.2.2.1
  have htw := F.2.2.2.2.1
  have hN := F.2.2.2.2.2.1
  have hK := F.2.2.2.2.2.2
  have hK3 := F3.2.2.2.2.2.2
  have hl : lv_has ls 4 [(0, .ref b0), (1, .int 0), (2, .ref o9)] := hl
  refine lv_aload_n hx hb de_L_place_0 rfl (lv_at hl 2 rfl) ?_
  refine lv_iconst (v := 0) hx hb de_L_place_1 (by decide) ?_
  refine lv_aload_n hx hb de_L_place_2 rfl (lv_at hl 0 rfl) ?_
  refine lv_iload_n hx hb de_L_place_3 rfl (lv_at hl 1 rfl) ?_
  refine bc_call_v_i (As := [.int 0]) (rest := [.int 0, .ref o9]) (wr := [(o9, .inl (cL, 1, .inr (.inl Ou)))]) F (co_B_place0 hon) wm_402 wm_1 wm_399 wm_400 wm_401 0 rfl rfl pd_B_place rfl rfl ⟨Nat.le_of_ble_eq_true rfl, Nat.le_of_ble_eq_true rfl⟩ hP hD hS hA [0, 1] [2] rfl rfl rfl rfl (by decide) rfl hl.1 rfl (Nat.le_of_ble_eq_true rfl) de_L_place_4 ⟨Nat.le_of_ble_eq_true rfl, Nat.le_of_ble_eq_true rfl⟩ (fun r_4 u_4 H locs hw_4 hP hD hS => ?_)
  have hP : va_P (dC, dI) classes [(b0, .inr (4, [.ref h0, .ref g0, .ref a0, .ref w0, .ref e0, .ref f0, .int an, .int ra])), (e0, .inr (2, [.ref v1, .int pl0, .int sp0, .int on0])), (o9, .inl (cL, 1, .inr (.inl Ou)))] H := hP.sub [1, 2, 0] rfl
  have hD : va_D A [(b0, .inr (4, [.ref h0, .ref g0, .ref a0, .ref w0, .ref e0, .ref f0, .int an, .int ra])), (e0, .inr (2, [.ref v1, .int pl0, .int sp0, .int on0])), (o9, .inl (cL, 1, .inr (.inl Ou)))] := hD.sub [1, 2, 0] (by decide) rfl
  refine bc_ti (y := pl0) hw_4 ?_
  refine lv_i2l (v := pl0.toInt64) hx hb de_L_place_7 rfl ?_
  refine va_last (i := 0) hx hb hK3 hP hD hS 2 2 rfl rfl (by unfold vp_in; decide) de_L_place_8 (fun H locs hP hD hS => ?_)
  have hP : va_P (dC, dI) classes [(b0, .inr (4, [.ref h0, .ref g0, .ref a0, .ref w0, .ref e0, .ref f0, .int an, .int ra])), (e0, .inr (2, [.ref v1, .int pl0, .int sp0, .int on0])), (o9, .inl (cL, 1, .inr (.inl (vp_updL Ou 0 pl0.toInt64))))] H := hP
  have hD : va_D A [(b0, .inr (4, [.ref h0, .ref g0, .ref a0, .ref w0, .ref e0, .ref f0, .int an, .int ra])), (e0, .inr (2, [.ref v1, .int pl0, .int sp0, .int on0])), (o9, .inl (cL, 1, .inr (.inl (vp_updL Ou 0 pl0.toInt64))))] := hD
  refine lv_goto (tgt := 18) hx hb de_L_place_9 (by decide) ?_
  refine lv_iconst (v := 0) hx hb de_L_place_18 (by decide) ?_
  exact bc_iret F3 hr hlocks (()) rfl hP hD hS de_L_place_19

set_option maxHeartbeats 4000000 in
set_option maxRecDepth 100000 in
theorem co_L_steps0 {l : Launch} {dC : Nat → ClassId} {dI : Nat → Nat → Nat} {cI cZ cL : ClassId} {sz : Nat} (hl0 : l.stackTraces = false) {b0 h0 g0 a0 w0 e0 v1 f0 : Nat} {an ra pl0 sp0 on0 : Int32} {o9 : Nat} {Ou : Nat → Int64}   (hon : on0 ≠ 0) : Met l yn_L_steps (Cond.codeWith yn_L_steps by_L_steps 4 (some FieldType.int) [(0, 9, 12, 21), (0, 9, 15, 15)] :: wd_all) ({ frames := 3, cells := 0, slots := 0, locals := 63 } : Room) (bc_PreX (dC, dI) classes [(cI, .int), (cZ, .boolean), (cL, .long)] [.ref b0, .int 0, .ref o9] [(b0, .inr (4, [.ref h0, .ref g0, .ref a0, .ref w0, .ref e0, .ref f0, .int an, .int ra])), (e0, .inr (2, [.ref v1, .int pl0, .int sp0, .int on0])), (o9, .inl (cL, 1, .inr (.inl Ou)))] sz) (va_Qi (fun (r : Int32) (u : Unit) => r = 0) (fun (u : Unit) t => bc_B (dC, dI) classes [(cI, .int), (cZ, .boolean), (cL, .long)] (va_A [(b0, .inr (4, [.ref h0, .ref g0, .ref a0, .ref w0, .ref e0, .ref f0, .int an, .int ra])), (e0, .inr (2, [.ref v1, .int pl0, .int sp0, .int on0])), (o9, .inl (cL, 1, .inr (.inl Ou)))] sz) [(b0, .inr (4, [.ref h0, .ref g0, .ref a0, .ref w0, .ref e0, .ref f0, .int an, .int ra])), (e0, .inr (2, [.ref v1, .int pl0, .int sp0, .int on0])), (o9, .inl (cL, 1, .inr (.inl (vp_updL Ou 0 sp0.toInt64))))] t) ((va_A [(b0, .inr (4, [.ref h0, .ref g0, .ref a0, .ref w0, .ref e0, .ref f0, .int an, .int ra])), (e0, .inr (2, [.ref v1, .int pl0, .int sp0, .int on0])), (o9, .inl (cL, 1, .inr (.inl Ou)))] sz))) 0 0 (va_A [(b0, .inr (4, [.ref h0, .ref g0, .ref a0, .ref w0, .ref e0, .ref f0, .int an, .int ra])), (e0, .inr (2, [.ref v1, .int pl0, .int sp0, .int on0])), (o9, .inl (cL, 1, .inr (.inl Ou)))] sz) := by
  refine bc_metW (fun A => va_Qi (fun (r : Int32) (u : Unit) => r = 0) (fun (u : Unit) t => bc_B (dC, dI) classes [(cI, .int), (cZ, .boolean), (cL, .long)] A [(b0, .inr (4, [.ref h0, .ref g0, .ref a0, .ref w0, .ref e0, .ref f0, .int an, .int ra])), (e0, .inr (2, [.ref v1, .int pl0, .int sp0, .int on0])), (o9, .inl (cL, 1, .inr (.inl (vp_updL Ou 0 sp0.toInt64))))] t) A) (by decide) (Nat.le_of_ble_eq_true rfl) ?_
  intro p e s m args below meth c A ls F3 hr hlocks hA hP hD hl hS hT9 htab
  have F : bc_Fx p m c by_L_steps 4 s args "BranchConstantsLaw" (dC, dI) classes [(cI, .int), (cZ, .boolean)] := ⟨F3.1, F3.2.1, F3.2.2.1, F3.2.2.2.1, F3.2.2.2.2.1, F3.2.2.2.2.2.1, va_K.sub F3.2.2.2.2.2.2 [0, 1] rfl⟩
  have hx := F.1
  have hb := F.2.1
  have hml := F.2.2.1
  have hown : s.vm.findClass "BranchConstantsLaw" = some m.cls := F.2.2.2.1
  have htw := F.2.2.2.2.1
  have hN := F.2.2.2.2.2.1
  have hK := F.2.2.2.2.2.2
  have hK3 := F3.2.2.2.2.2.2
  have hl : lv_has ls 4 [(0, .ref b0), (1, .int 0), (2, .ref o9)] := hl
  refine lv_aload_n hx hb de_L_steps_0 rfl (lv_at hl 2 rfl) ?_
  refine lv_iconst (v := 0) hx hb de_L_steps_1 (by decide) ?_
  refine lv_aload_n hx hb de_L_steps_2 rfl (lv_at hl 0 rfl) ?_
  refine lv_iload_n hx hb de_L_steps_3 rfl (lv_at hl 1 rfl) ?_
  refine bc_call_v_i (As := [.int 0]) (rest := [.int 0, .ref o9]) (wr := [(o9, .inl (cL, 1, .inr (.inl Ou)))]) F (co_B_steps0 hon) wm_416 wm_1 wm_413 wm_414 wm_415 0 rfl rfl pd_B_steps rfl rfl ⟨Nat.le_of_ble_eq_true rfl, Nat.le_of_ble_eq_true rfl⟩ hP hD hS hA [0, 1] [2] rfl rfl rfl rfl (by decide) rfl hl.1 rfl (Nat.le_of_ble_eq_true rfl) de_L_steps_4 ⟨Nat.le_of_ble_eq_true rfl, Nat.le_of_ble_eq_true rfl⟩ (fun r_4 u_4 H locs hw_4 hP hD hS => ?_)
  have hP : va_P (dC, dI) classes [(b0, .inr (4, [.ref h0, .ref g0, .ref a0, .ref w0, .ref e0, .ref f0, .int an, .int ra])), (e0, .inr (2, [.ref v1, .int pl0, .int sp0, .int on0])), (o9, .inl (cL, 1, .inr (.inl Ou)))] H := hP.sub [1, 2, 0] rfl
  have hD : va_D A [(b0, .inr (4, [.ref h0, .ref g0, .ref a0, .ref w0, .ref e0, .ref f0, .int an, .int ra])), (e0, .inr (2, [.ref v1, .int pl0, .int sp0, .int on0])), (o9, .inl (cL, 1, .inr (.inl Ou)))] := hD.sub [1, 2, 0] (by decide) rfl
  refine bc_ti (y := sp0) hw_4 ?_
  refine lv_i2l (v := sp0.toInt64) hx hb de_L_steps_7 rfl ?_
  refine va_last (i := 0) hx hb hK3 hP hD hS 2 2 rfl rfl (by unfold vp_in; decide) de_L_steps_8 (fun H locs hP hD hS => ?_)
  have hP : va_P (dC, dI) classes [(b0, .inr (4, [.ref h0, .ref g0, .ref a0, .ref w0, .ref e0, .ref f0, .int an, .int ra])), (e0, .inr (2, [.ref v1, .int pl0, .int sp0, .int on0])), (o9, .inl (cL, 1, .inr (.inl (vp_updL Ou 0 sp0.toInt64))))] H := hP
  have hD : va_D A [(b0, .inr (4, [.ref h0, .ref g0, .ref a0, .ref w0, .ref e0, .ref f0, .int an, .int ra])), (e0, .inr (2, [.ref v1, .int pl0, .int sp0, .int on0])), (o9, .inl (cL, 1, .inr (.inl (vp_updL Ou 0 sp0.toInt64))))] := hD
  refine lv_goto (tgt := 18) hx hb de_L_steps_9 (by decide) ?_
  refine lv_iconst (v := 0) hx hb de_L_steps_18 (by decide) ?_
  exact bc_iret F3 hr hlocks (()) rfl hP hD hS de_L_steps_19

set_option maxHeartbeats 4000000 in
set_option maxRecDepth 100000 in
theorem co_L_value0 {l : Launch} {dC : Nat → ClassId} {dI : Nat → Nat → Nat} {cI cZ cL : ClassId} {sz : Nat} (hl0 : l.stackTraces = false) {b0 h0 g0 a0 w0 e0 v1 f0 : Nat} {X0 : bc_F} {an ra pl0 sp0 on0 : Int32} {o9 : Nat} {Ou : Nat → Int64}  {v : Nat} (hon : on0 ≠ 0) (hv : v < 6) : Met l yn_L_value (Cond.codeWith yn_L_value by_L_value 5 (some FieldType.int) [(0, 10, 13, 21), (0, 10, 17, 15)] :: wd_all) ({ frames := 3, cells := 0, slots := 0, locals := 64 } : Room) (bc_PreX (dC, dI) classes [(cI, .int), (cZ, .boolean), (cL, .long)] [.ref b0, .int 0, .int (nI v), .ref o9] [(b0, .inr (4, [.ref h0, .ref g0, .ref a0, .ref w0, .ref e0, .ref f0, .int an, .int ra])), (e0, .inr (2, [.ref v1, .int pl0, .int sp0, .int on0])), (v1, .inl (cI, 6, .inl X0)), (o9, .inl (cL, 1, .inr (.inl Ou)))] sz) (va_Qi (fun (r : Int32) (u : Unit) => r = 0) (fun (u : Unit) t => bc_B (dC, dI) classes [(cI, .int), (cZ, .boolean), (cL, .long)] (va_A [(b0, .inr (4, [.ref h0, .ref g0, .ref a0, .ref w0, .ref e0, .ref f0, .int an, .int ra])), (e0, .inr (2, [.ref v1, .int pl0, .int sp0, .int on0])), (v1, .inl (cI, 6, .inl X0)), (o9, .inl (cL, 1, .inr (.inl Ou)))] sz) [(b0, .inr (4, [.ref h0, .ref g0, .ref a0, .ref w0, .ref e0, .ref f0, .int an, .int ra])), (e0, .inr (2, [.ref v1, .int pl0, .int sp0, .int on0])), (v1, .inl (cI, 6, .inl X0)), (o9, .inl (cL, 1, .inr (.inl (vp_updL Ou 0 ((X0 v).toInt64)))))] t) ((va_A [(b0, .inr (4, [.ref h0, .ref g0, .ref a0, .ref w0, .ref e0, .ref f0, .int an, .int ra])), (e0, .inr (2, [.ref v1, .int pl0, .int sp0, .int on0])), (v1, .inl (cI, 6, .inl X0)), (o9, .inl (cL, 1, .inr (.inl Ou)))] sz))) 0 0 (va_A [(b0, .inr (4, [.ref h0, .ref g0, .ref a0, .ref w0, .ref e0, .ref f0, .int an, .int ra])), (e0, .inr (2, [.ref v1, .int pl0, .int sp0, .int on0])), (v1, .inl (cI, 6, .inl X0)), (o9, .inl (cL, 1, .inr (.inl Ou)))] sz) := by
  refine bc_metW (fun A => va_Qi (fun (r : Int32) (u : Unit) => r = 0) (fun (u : Unit) t => bc_B (dC, dI) classes [(cI, .int), (cZ, .boolean), (cL, .long)] A [(b0, .inr (4, [.ref h0, .ref g0, .ref a0, .ref w0, .ref e0, .ref f0, .int an, .int ra])), (e0, .inr (2, [.ref v1, .int pl0, .int sp0, .int on0])), (v1, .inl (cI, 6, .inl X0)), (o9, .inl (cL, 1, .inr (.inl (vp_updL Ou 0 ((X0 v).toInt64)))))] t) A) (by decide) (Nat.le_of_ble_eq_true rfl) ?_
  intro p e s m args below meth c A ls F3 hr hlocks hA hP hD hl hS hT9 htab
  have F : bc_Fx p m c by_L_value 5 s args "BranchConstantsLaw" (dC, dI) classes [(cI, .int), (cZ, .boolean)] := ⟨F3.1, F3.2.1, F3.2.2.1, F3.2.2.2.1, F3.2.2.2.2.1, F3.2.2.2.2.2.1, va_K.sub F3.2.2.2.2.2.2 [0, 1] rfl⟩
  have hx := F.1
  have hb := F.2.1
  have hml := F.2.2.1
  have hown : s.vm.findClass "BranchConstantsLaw" = some m.cls := F.2.2.2.1
  have htw := F.2.2.2.2.1
  have hN := F.2.2.2.2.2.1
  have hK := F.2.2.2.2.2.2
  have hK3 := F3.2.2.2.2.2.2
  have hl : lv_has ls 5 [(0, .ref b0), (1, .int 0), (2, .int (nI v)), (3, .ref o9)] := hl
  refine lv_aload_n hx hb de_L_value_0 rfl (lv_at hl 3 rfl) ?_
  refine lv_iconst (v := 0) hx hb de_L_value_1 (by decide) ?_
  refine lv_aload_n hx hb de_L_value_2 rfl (lv_at hl 0 rfl) ?_
  refine lv_iload_n hx hb de_L_value_3 rfl (lv_at hl 1 rfl) ?_
  refine lv_iload_n hx hb de_L_value_4 rfl (lv_at hl 2 rfl) ?_
  refine bc_call_v_i (As := [.int 0, .int (nI v)]) (rest := [.int 0, .ref o9]) (wr := [(o9, .inl (cL, 1, .inr (.inl Ou)))]) F (co_B_value0 hon hv) wm_409 wm_1 wm_406 wm_407 wm_408 0 rfl rfl pd_B_value rfl rfl ⟨Nat.le_of_ble_eq_true rfl, Nat.le_of_ble_eq_true rfl⟩ hP hD hS hA [0, 1, 2] [3] rfl rfl rfl rfl (by decide) rfl hl.1 rfl (Nat.le_of_ble_eq_true rfl) de_L_value_5 ⟨Nat.le_of_ble_eq_true rfl, Nat.le_of_ble_eq_true rfl⟩ (fun r_5 u_5 H locs hw_5 hP hD hS => ?_)
  have hP : va_P (dC, dI) classes [(b0, .inr (4, [.ref h0, .ref g0, .ref a0, .ref w0, .ref e0, .ref f0, .int an, .int ra])), (e0, .inr (2, [.ref v1, .int pl0, .int sp0, .int on0])), (v1, .inl (cI, 6, .inl X0)), (o9, .inl (cL, 1, .inr (.inl Ou)))] H := hP.sub [1, 2, 3, 0] rfl
  have hD : va_D A [(b0, .inr (4, [.ref h0, .ref g0, .ref a0, .ref w0, .ref e0, .ref f0, .int an, .int ra])), (e0, .inr (2, [.ref v1, .int pl0, .int sp0, .int on0])), (v1, .inl (cI, 6, .inl X0)), (o9, .inl (cL, 1, .inr (.inl Ou)))] := hD.sub [1, 2, 3, 0] (by decide) rfl
  subst hw_5
  refine lv_i2l (v := (X0 v).toInt64) hx hb de_L_value_8 rfl ?_
  refine va_last (i := 0) hx hb hK3 hP hD hS 3 2 rfl rfl (by unfold vp_in; decide) de_L_value_9 (fun H locs hP hD hS => ?_)
  have hP : va_P (dC, dI) classes [(b0, .inr (4, [.ref h0, .ref g0, .ref a0, .ref w0, .ref e0, .ref f0, .int an, .int ra])), (e0, .inr (2, [.ref v1, .int pl0, .int sp0, .int on0])), (v1, .inl (cI, 6, .inl X0)), (o9, .inl (cL, 1, .inr (.inl (vp_updL Ou 0 ((X0 v).toInt64)))))] H := hP
  have hD : va_D A [(b0, .inr (4, [.ref h0, .ref g0, .ref a0, .ref w0, .ref e0, .ref f0, .int an, .int ra])), (e0, .inr (2, [.ref v1, .int pl0, .int sp0, .int on0])), (v1, .inl (cI, 6, .inl X0)), (o9, .inl (cL, 1, .inr (.inl (vp_updL Ou 0 ((X0 v).toInt64)))))] := hD
  refine lv_goto (tgt := 21) hx hb de_L_value_10 (by decide) ?_
  refine lv_iconst (v := 0) hx hb de_L_value_21 (by decide) ?_
  exact bc_iret F3 hr hlocks (()) rfl hP hD hS de_L_value_22

set_option maxHeartbeats 4000000 in
set_option maxRecDepth 100000 in
theorem co_L_code1 {l : Launch} {dC : Nat → ClassId} {dI : Nat → Nat → Nat} {cI cZ cL : ClassId} {sz : Nat} (hl0 : l.stackTraces = false) {b0 h0 g0 q5 q6 q7 q8 a0 w0 e0 f0 n2 : Nat} {Q : Nat → bc_F} {an ra : Int32} {o9 : Nat} {Ou : Nat → Int64}  {j w : Nat} (hra : ra ≠ 0) (hn : n2 ≤ 40) (hj : j < n2) (hw4 : w < 4) : Met l yn_L_code (Cond.codeWith yn_L_code by_L_code 6 (some FieldType.int) [(0, 12, 15, 15), (0, 12, 19, 21)] :: wd_all) ({ frames := 2, cells := 0, slots := 0, locals := 46 } : Room) (bc_PreX (dC, dI) classes [(cI, .int), (cZ, .boolean), (cL, .long)] [.ref b0, .int 1, .int (nI j), .int (nI w), .ref o9] [(b0, .inr (4, [.ref h0, .ref g0, .ref a0, .ref w0, .ref e0, .ref f0, .int an, .int ra])), (g0, .inr (1, [.ref q5, .ref q6, .ref q7, .ref q8, .int (nI n2)])), (q5, .inl (cI, 40, .inl (Q 1))), (q6, .inl (cI, 40, .inl (Q 2))), (q7, .inl (cI, 40, .inl (Q 3))), (q8, .inl (cI, 40, .inl (Q 4))), (o9, .inl (cL, 1, .inr (.inl Ou)))] sz) (va_Qi (fun (r : Int32) (u : Unit) => r = 0) (fun (u : Unit) t => bc_B (dC, dI) classes [(cI, .int), (cZ, .boolean), (cL, .long)] (va_A [(b0, .inr (4, [.ref h0, .ref g0, .ref a0, .ref w0, .ref e0, .ref f0, .int an, .int ra])), (g0, .inr (1, [.ref q5, .ref q6, .ref q7, .ref q8, .int (nI n2)])), (q5, .inl (cI, 40, .inl (Q 1))), (q6, .inl (cI, 40, .inl (Q 2))), (q7, .inl (cI, 40, .inl (Q 3))), (q8, .inl (cI, 40, .inl (Q 4))), (o9, .inl (cL, 1, .inr (.inl Ou)))] sz) [(b0, .inr (4, [.ref h0, .ref g0, .ref a0, .ref w0, .ref e0, .ref f0, .int an, .int ra])), (g0, .inr (1, [.ref q5, .ref q6, .ref q7, .ref q8, .int (nI n2)])), (q5, .inl (cI, 40, .inl (Q 1))), (q6, .inl (cI, 40, .inl (Q 2))), (q7, .inl (cI, 40, .inl (Q 3))), (q8, .inl (cI, 40, .inl (Q 4))), (o9, .inl (cL, 1, .inr (.inl (vp_updL Ou 0 ((Q (w + 1) j).toInt64)))))] t) ((va_A [(b0, .inr (4, [.ref h0, .ref g0, .ref a0, .ref w0, .ref e0, .ref f0, .int an, .int ra])), (g0, .inr (1, [.ref q5, .ref q6, .ref q7, .ref q8, .int (nI n2)])), (q5, .inl (cI, 40, .inl (Q 1))), (q6, .inl (cI, 40, .inl (Q 2))), (q7, .inl (cI, 40, .inl (Q 3))), (q8, .inl (cI, 40, .inl (Q 4))), (o9, .inl (cL, 1, .inr (.inl Ou)))] sz))) 0 0 (va_A [(b0, .inr (4, [.ref h0, .ref g0, .ref a0, .ref w0, .ref e0, .ref f0, .int an, .int ra])), (g0, .inr (1, [.ref q5, .ref q6, .ref q7, .ref q8, .int (nI n2)])), (q5, .inl (cI, 40, .inl (Q 1))), (q6, .inl (cI, 40, .inl (Q 2))), (q7, .inl (cI, 40, .inl (Q 3))), (q8, .inl (cI, 40, .inl (Q 4))), (o9, .inl (cL, 1, .inr (.inl Ou)))] sz) := by
  refine bc_metW (fun A => va_Qi (fun (r : Int32) (u : Unit) => r = 0) (fun (u : Unit) t => bc_B (dC, dI) classes [(cI, .int), (cZ, .boolean), (cL, .long)] A [(b0, .inr (4, [.ref h0, .ref g0, .ref a0, .ref w0, .ref e0, .ref f0, .int an, .int ra])), (g0, .inr (1, [.ref q5, .ref q6, .ref q7, .ref q8, .int (nI n2)])), (q5, .inl (cI, 40, .inl (Q 1))), (q6, .inl (cI, 40, .inl (Q 2))), (q7, .inl (cI, 40, .inl (Q 3))), (q8, .inl (cI, 40, .inl (Q 4))), (o9, .inl (cL, 1, .inr (.inl (vp_updL Ou 0 ((Q (w + 1) j).toInt64)))))] t) A) (by decide) (Nat.le_of_ble_eq_true rfl) ?_
  intro p e s m args below meth c A ls F3 hr hlocks hA hP hD hl hS hT9 htab
  have F : bc_Fx p m c by_L_code 6 s args "BranchConstantsLaw" (dC, dI) classes [(cI, .int), (cZ, .boolean)] := ⟨F3.1, F3.2.1, F3.2.2.1, F3.2.2.2.1, F3.2.2.2.2.1, F3.2.2.2.2.2.1, va_K.sub F3.2.2.2.2.2.2 [0, 1] rfl⟩
  have hx := F.1
  have hb := F.2.1
  have hml := F.2.2.1
  have hown : s.vm.findClass "BranchConstantsLaw" = some m.cls := F.2.2.2.1
  have htw := F.2.2.2.2.1
  have hN := F.2.2.2.2.2.1
  have hK := F.2.2.2.2.2.2
  have hK3 := F3.2.2.2.2.2.2
  have hl : lv_has ls 6 [(0, .ref b0), (1, .int 1), (2, .int (nI j)), (3, .int (nI w)), (4, .ref o9)] := hl
  refine lv_aload hx hb de_L_code_0 (lv_at hl 4 rfl) ?_
  refine lv_iconst (v := 0) hx hb de_L_code_2 (by decide) ?_
  refine lv_aload_n hx hb de_L_code_3 rfl (lv_at hl 0 rfl) ?_
  refine lv_iload_n hx hb de_L_code_4 rfl (lv_at hl 1 rfl) ?_
  refine lv_iload_n hx hb de_L_code_5 rfl (lv_at hl 2 rfl) ?_
  refine lv_iload_n hx hb de_L_code_6 rfl (lv_at hl 3 rfl) ?_
  refine bc_call_v_i (As := [.int 1, .int (nI j), .int (nI w)]) (rest := [.int 0, .ref o9]) (wr := [(o9, .inl (cL, 1, .inr (.inl Ou)))]) F (co_B_code1 hra hn hj hw4) wm_350 wm_1 wm_347 wm_348 wm_349 0 rfl rfl pd_B_code rfl rfl ⟨Nat.le_of_ble_eq_true rfl, Nat.le_of_ble_eq_true rfl⟩ hP hD hS hA [0, 1, 2, 3, 4, 5] [6] rfl rfl rfl rfl (by decide) rfl hl.1 rfl (Nat.le_of_ble_eq_true rfl) de_L_code_7 ⟨Nat.le_of_ble_eq_true rfl, Nat.le_of_ble_eq_true rfl⟩ (fun r_7 u_7 H locs hw_7 hP hD hS => ?_)
  have hP : va_P (dC, dI) classes [(b0, .inr (4, [.ref h0, .ref g0, .ref a0, .ref w0, .ref e0, .ref f0, .int an, .int ra])), (g0, .inr (1, [.ref q5, .ref q6, .ref q7, .ref q8, .int (nI n2)])), (q5, .inl (cI, 40, .inl (Q 1))), (q6, .inl (cI, 40, .inl (Q 2))), (q7, .inl (cI, 40, .inl (Q 3))), (q8, .inl (cI, 40, .inl (Q 4))), (o9, .inl (cL, 1, .inr (.inl Ou)))] H := hP.sub [1, 2, 3, 4, 5, 6, 0] rfl
  have hD : va_D A [(b0, .inr (4, [.ref h0, .ref g0, .ref a0, .ref w0, .ref e0, .ref f0, .int an, .int ra])), (g0, .inr (1, [.ref q5, .ref q6, .ref q7, .ref q8, .int (nI n2)])), (q5, .inl (cI, 40, .inl (Q 1))), (q6, .inl (cI, 40, .inl (Q 2))), (q7, .inl (cI, 40, .inl (Q 3))), (q8, .inl (cI, 40, .inl (Q 4))), (o9, .inl (cL, 1, .inr (.inl Ou)))] := hD.sub [1, 2, 3, 4, 5, 6, 0] (by decide) rfl
  subst hw_7
  refine lv_i2l (v := (Q (w + 1) j).toInt64) hx hb de_L_code_10 rfl ?_
  refine va_last (i := 0) hx hb hK3 hP hD hS 6 2 rfl rfl (by unfold vp_in; decide) de_L_code_11 (fun H locs hP hD hS => ?_)
  have hP : va_P (dC, dI) classes [(b0, .inr (4, [.ref h0, .ref g0, .ref a0, .ref w0, .ref e0, .ref f0, .int an, .int ra])), (g0, .inr (1, [.ref q5, .ref q6, .ref q7, .ref q8, .int (nI n2)])), (q5, .inl (cI, 40, .inl (Q 1))), (q6, .inl (cI, 40, .inl (Q 2))), (q7, .inl (cI, 40, .inl (Q 3))), (q8, .inl (cI, 40, .inl (Q 4))), (o9, .inl (cL, 1, .inr (.inl (vp_updL Ou 0 ((Q (w + 1) j).toInt64)))))] H := hP
  have hD : va_D A [(b0, .inr (4, [.ref h0, .ref g0, .ref a0, .ref w0, .ref e0, .ref f0, .int an, .int ra])), (g0, .inr (1, [.ref q5, .ref q6, .ref q7, .ref q8, .int (nI n2)])), (q5, .inl (cI, 40, .inl (Q 1))), (q6, .inl (cI, 40, .inl (Q 2))), (q7, .inl (cI, 40, .inl (Q 3))), (q8, .inl (cI, 40, .inl (Q 4))), (o9, .inl (cL, 1, .inr (.inl (vp_updL Ou 0 ((Q (w + 1) j).toInt64)))))] := hD
  refine lv_goto (tgt := 23) hx hb de_L_code_12 (by decide) ?_
  refine lv_iconst (v := 0) hx hb de_L_code_23 (by decide) ?_
  exact bc_iret F3 hr hlocks (()) rfl hP hD hS de_L_code_24

set_option maxHeartbeats 4000000 in
set_option maxRecDepth 100000 in
theorem co_L_start1 {l : Launch} {dC : Nat → ClassId} {dI : Nat → Nat → Nat} {cI cZ cL : ClassId} {sz : Nat} (hl0 : l.stackTraces = false) {b0 h0 g0 q5 q6 q7 q8 a0 w0 e0 f0 v2 n2 : Nat} {X1 : bc_F} {an ra pl1 sp1 on1 : Int32}  {a1 b1 c1 d1 : Int32} (hra : ra ≠ 0) (hn : n2 ≤ 40) : Met l yn_L_start (Cond.codeWith yn_L_start by_L_start 7 (some FieldType.int) [(0, 11, 14, 21), (0, 11, 18, 15)] :: wd_all) ({ frames := 3, cells := 0, slots := 0, locals := 73 } : Room) (bc_PreX (dC, dI) classes [(cI, .int), (cZ, .boolean), (cL, .long)] [.ref b0, .int 1, .int a1, .int b1, .int c1, .int d1] [(b0, .inr (4, [.ref h0, .ref g0, .ref a0, .ref w0, .ref e0, .ref f0, .int an, .int ra])), (g0, .inr (1, [.ref q5, .ref q6, .ref q7, .ref q8, .int (nI n2)])), (f0, .inr (2, [.ref v2, .int pl1, .int sp1, .int on1])), (v2, .inl (cI, 6, .inl X1))] sz) (va_Qi (fun (r : Int32) (u : bc_F) => r = 0 ∧ u 0 = a1 ∧ u 1 = b1 ∧ u 2 = c1 ∧ u 3 = d1 ∧ u 4 = 0 ∧ u 5 = 0) (fun (u : bc_F) t => bc_B (dC, dI) classes [(cI, .int), (cZ, .boolean), (cL, .long)] (va_A [(b0, .inr (4, [.ref h0, .ref g0, .ref a0, .ref w0, .ref e0, .ref f0, .int an, .int ra])), (g0, .inr (1, [.ref q5, .ref q6, .ref q7, .ref q8, .int (nI n2)])), (f0, .inr (2, [.ref v2, .int pl1, .int sp1, .int on1])), (v2, .inl (cI, 6, .inl X1))] sz) [(b0, .inr (4, [.ref h0, .ref g0, .ref a0, .ref w0, .ref e0, .ref f0, .int an, .int ra])), (g0, .inr (1, [.ref q5, .ref q6, .ref q7, .ref q8, .int (nI n2)])), (f0, .inr (2, [.ref v2, .int (bc_pl n2 0), .int 0, .int 1])), (v2, .inl (cI, 6, .inl u))] t) ((va_A [(b0, .inr (4, [.ref h0, .ref g0, .ref a0, .ref w0, .ref e0, .ref f0, .int an, .int ra])), (g0, .inr (1, [.ref q5, .ref q6, .ref q7, .ref q8, .int (nI n2)])), (f0, .inr (2, [.ref v2, .int pl1, .int sp1, .int on1])), (v2, .inl (cI, 6, .inl X1))] sz))) 0 0 (va_A [(b0, .inr (4, [.ref h0, .ref g0, .ref a0, .ref w0, .ref e0, .ref f0, .int an, .int ra])), (g0, .inr (1, [.ref q5, .ref q6, .ref q7, .ref q8, .int (nI n2)])), (f0, .inr (2, [.ref v2, .int pl1, .int sp1, .int on1])), (v2, .inl (cI, 6, .inl X1))] sz) := by
  refine bc_metW (fun A => va_Qi (fun (r : Int32) (u : bc_F) => r = 0 ∧ u 0 = a1 ∧ u 1 = b1 ∧ u 2 = c1 ∧ u 3 = d1 ∧ u 4 = 0 ∧ u 5 = 0) (fun (u : bc_F) t => bc_B (dC, dI) classes [(cI, .int), (cZ, .boolean), (cL, .long)] A [(b0, .inr (4, [.ref h0, .ref g0, .ref a0, .ref w0, .ref e0, .ref f0, .int an, .int ra])), (g0, .inr (1, [.ref q5, .ref q6, .ref q7, .ref q8, .int (nI n2)])), (f0, .inr (2, [.ref v2, .int (bc_pl n2 0), .int 0, .int 1])), (v2, .inl (cI, 6, .inl u))] t) A) (by decide) (Nat.le_of_ble_eq_true rfl) ?_
  intro p e s m args below meth c A ls F3 hr hlocks hA hP hD hl hS hT9 htab
  have F : bc_Fx p m c by_L_start 7 s args "BranchConstantsLaw" (dC, dI) classes [(cI, .int), (cZ, .boolean)] := ⟨F3.1, F3.2.1, F3.2.2.1, F3.2.2.2.1, F3.2.2.2.2.1, F3.2.2.2.2.2.1, va_K.sub F3.2.2.2.2.2.2 [0, 1] rfl⟩
  have hx := F.1
  have hb := F.2.1
  have hml := F.2.2.1
  have hown : s.vm.findClass "BranchConstantsLaw" = some m.cls := F.2.2.2.1
  have htw := F.2.2.2.2.1
  have hN := F.2.2.2.2.2.1
  have hK := F.2.2.2.2.2.2
  have hK3 := F3.2.2.2.2.2.2
  have hl : lv_has ls 7 [(0, .ref b0), (1, .int 1), (2, .int a1), (3, .int b1), (4, .int c1), (5, .int d1)] := hl
  refine lv_aload_n hx hb de_L_start_0 rfl (lv_at hl 0 rfl) ?_
  refine lv_iload_n hx hb de_L_start_1 rfl (lv_at hl 1 rfl) ?_
  refine lv_iload_n hx hb de_L_start_2 rfl (lv_at hl 2 rfl) ?_
  refine lv_iload_n hx hb de_L_start_3 rfl (lv_at hl 3 rfl) ?_
  refine lv_iload hx hb de_L_start_4 (lv_at hl 4 rfl) ?_
  refine lv_iload hx hb de_L_start_6 (lv_at hl 5 rfl) ?_
  refine bc_call_v_v (As := [.int 1, .int a1, .int b1, .int c1, .int d1]) (rest := []) (wr := []) F (co_B_start1 hra hn) wm_368 wm_1 wm_365 wm_366 wm_367 0 rfl rfl pd_B_start rfl rfl ⟨Nat.le_of_ble_eq_true rfl, Nat.le_of_ble_eq_true rfl⟩ hP hD hS hA [0, 1, 2, 3] [] rfl rfl rfl rfl (by decide) rfl hl.1 rfl (Nat.le_of_ble_eq_true rfl) de_L_start_8 ⟨Nat.le_of_ble_eq_true rfl, Nat.le_of_ble_eq_true rfl⟩ (fun u_8 H locs hw_8 hP hD hS => ?_)
  have hP : va_P (dC, dI) classes [(b0, .inr (4, [.ref h0, .ref g0, .ref a0, .ref w0, .ref e0, .ref f0, .int an, .int ra])), (g0, .inr (1, [.ref q5, .ref q6, .ref q7, .ref q8, .int (nI n2)])), (f0, .inr (2, [.ref v2, .int (bc_pl n2 0), .int 0, .int 1])), (v2, .inl (cI, 6, .inl u_8))] H := hP.sub [0, 1, 2, 3] rfl
  have hD : va_D A [(b0, .inr (4, [.ref h0, .ref g0, .ref a0, .ref w0, .ref e0, .ref f0, .int an, .int ra])), (g0, .inr (1, [.ref q5, .ref q6, .ref q7, .ref q8, .int (nI n2)])), (f0, .inr (2, [.ref v2, .int (bc_pl n2 0), .int 0, .int 1])), (v2, .inl (cI, 6, .inl u_8))] := hD.sub [0, 1, 2, 3] (by decide) rfl
  refine lv_goto (tgt := 22) hx hb de_L_start_11 (by decide) ?_
  refine lv_iconst (v := 0) hx hb de_L_start_22 (by decide) ?_
  exact bc_iret F3 hr hlocks u_8 ⟨rfl, hw_8⟩ hP hD hS de_L_start_23

set_option maxHeartbeats 4000000 in
set_option maxRecDepth 100000 in
theorem co_L_run1 {l : Launch} {dC : Nat → ClassId} {dI : Nat → Nat → Nat} {cI cZ cL : ClassId} {sz : Nat} (hl0 : l.stackTraces = false) {b0 h0 g0 q5 q6 q7 q8 a0 w0 e0 f0 v2 n2 : Nat} {Q : Nat → bc_F} {X1 : bc_F} {an ra pl1 sp1 on1 : Int32} {o9 : Nat} {Ou : Nat → Int64}  {mx : Nat} (hn : n2 ≤ 40) (hw : bc_wf n2 (Q 1) (Q 2) (Q 3) (Q 4)) (hpl : bc_ok n2 pl1) (hon : on1 ≠ 0) (hmx : mx ≤ 10000) : Met l yn_L_run (Cond.codeWith yn_L_run by_L_run 5 (some FieldType.int) [(0, 10, 13, 21), (0, 10, 17, 13), (0, 10, 21, 15)] :: wd_all) ({ frames := 5, cells := 0, slots := 0, locals := 112 } : Room) (bc_PreX (dC, dI) classes [(cI, .int), (cZ, .boolean), (cL, .long)] [.ref b0, .int 1, .int (nI mx), .ref o9] [(b0, .inr (4, [.ref h0, .ref g0, .ref a0, .ref w0, .ref e0, .ref f0, .int an, .int ra])), (g0, .inr (1, [.ref q5, .ref q6, .ref q7, .ref q8, .int (nI n2)])), (q5, .inl (cI, 40, .inl (Q 1))), (q6, .inl (cI, 40, .inl (Q 2))), (q7, .inl (cI, 40, .inl (Q 3))), (q8, .inl (cI, 40, .inl (Q 4))), (f0, .inr (2, [.ref v2, .int pl1, .int sp1, .int on1])), (v2, .inl (cI, 6, .inl X1)), (o9, .inl (cL, 1, .inr (.inl Ou)))] sz) (va_Qi (fun (r : Int32) (u : Unit) => r = 0) (fun (u : Unit) t => bc_B (dC, dI) classes [(cI, .int), (cZ, .boolean), (cL, .long)] (va_A [(b0, .inr (4, [.ref h0, .ref g0, .ref a0, .ref w0, .ref e0, .ref f0, .int an, .int ra])), (g0, .inr (1, [.ref q5, .ref q6, .ref q7, .ref q8, .int (nI n2)])), (q5, .inl (cI, 40, .inl (Q 1))), (q6, .inl (cI, 40, .inl (Q 2))), (q7, .inl (cI, 40, .inl (Q 3))), (q8, .inl (cI, 40, .inl (Q 4))), (f0, .inr (2, [.ref v2, .int pl1, .int sp1, .int on1])), (v2, .inl (cI, 6, .inl X1)), (o9, .inl (cL, 1, .inr (.inl Ou)))] sz) [(b0, .inr (4, [.ref h0, .ref g0, .ref a0, .ref w0, .ref e0, .ref f0, .int an, .int ra])), (g0, .inr (1, [.ref q5, .ref q6, .ref q7, .ref q8, .int (nI n2)])), (q5, .inl (cI, 40, .inl (Q 1))), (q6, .inl (cI, 40, .inl (Q 2))), (q7, .inl (cI, 40, .inl (Q 3))), (q8, .inl (cI, 40, .inl (Q 4))), (f0, .inr (2, [.ref v2, .int ((bc_rn n2 (Q 1) (Q 2) (Q 3) (Q 4) mx (X1, pl1)).1.2), .int (sp1 + nI (bc_rn n2 (Q 1) (Q 2) (Q 3) (Q 4) mx (X1, pl1)).2), .int on1])), (v2, .inl (cI, 6, .inl ((bc_rn n2 (Q 1) (Q 2) (Q 3) (Q 4) mx (X1, pl1)).1.1))), (o9, .inl (cL, 1, .inr (.inl (vp_updL Ou 0 ((nI (bc_rn n2 (Q 1) (Q 2) (Q 3) (Q 4) mx (X1, pl1)).2).toInt64)))))] t) ((va_A [(b0, .inr (4, [.ref h0, .ref g0, .ref a0, .ref w0, .ref e0, .ref f0, .int an, .int ra])), (g0, .inr (1, [.ref q5, .ref q6, .ref q7, .ref q8, .int (nI n2)])), (q5, .inl (cI, 40, .inl (Q 1))), (q6, .inl (cI, 40, .inl (Q 2))), (q7, .inl (cI, 40, .inl (Q 3))), (q8, .inl (cI, 40, .inl (Q 4))), (f0, .inr (2, [.ref v2, .int pl1, .int sp1, .int on1])), (v2, .inl (cI, 6, .inl X1)), (o9, .inl (cL, 1, .inr (.inl Ou)))] sz))) 0 0 (va_A [(b0, .inr (4, [.ref h0, .ref g0, .ref a0, .ref w0, .ref e0, .ref f0, .int an, .int ra])), (g0, .inr (1, [.ref q5, .ref q6, .ref q7, .ref q8, .int (nI n2)])), (q5, .inl (cI, 40, .inl (Q 1))), (q6, .inl (cI, 40, .inl (Q 2))), (q7, .inl (cI, 40, .inl (Q 3))), (q8, .inl (cI, 40, .inl (Q 4))), (f0, .inr (2, [.ref v2, .int pl1, .int sp1, .int on1])), (v2, .inl (cI, 6, .inl X1)), (o9, .inl (cL, 1, .inr (.inl Ou)))] sz) := by
  refine bc_metW (fun A => va_Qi (fun (r : Int32) (u : Unit) => r = 0) (fun (u : Unit) t => bc_B (dC, dI) classes [(cI, .int), (cZ, .boolean), (cL, .long)] A [(b0, .inr (4, [.ref h0, .ref g0, .ref a0, .ref w0, .ref e0, .ref f0, .int an, .int ra])), (g0, .inr (1, [.ref q5, .ref q6, .ref q7, .ref q8, .int (nI n2)])), (q5, .inl (cI, 40, .inl (Q 1))), (q6, .inl (cI, 40, .inl (Q 2))), (q7, .inl (cI, 40, .inl (Q 3))), (q8, .inl (cI, 40, .inl (Q 4))), (f0, .inr (2, [.ref v2, .int ((bc_rn n2 (Q 1) (Q 2) (Q 3) (Q 4) mx (X1, pl1)).1.2), .int (sp1 + nI (bc_rn n2 (Q 1) (Q 2) (Q 3) (Q 4) mx (X1, pl1)).2), .int on1])), (v2, .inl (cI, 6, .inl ((bc_rn n2 (Q 1) (Q 2) (Q 3) (Q 4) mx (X1, pl1)).1.1))), (o9, .inl (cL, 1, .inr (.inl (vp_updL Ou 0 ((nI (bc_rn n2 (Q 1) (Q 2) (Q 3) (Q 4) mx (X1, pl1)).2).toInt64)))))] t) A) (by decide) (Nat.le_of_ble_eq_true rfl) ?_
  intro p e s m args below meth c A ls F3 hr hlocks hA hP hD hl hS hT9 htab
  have F : bc_Fx p m c by_L_run 5 s args "BranchConstantsLaw" (dC, dI) classes [(cI, .int), (cZ, .boolean)] := ⟨F3.1, F3.2.1, F3.2.2.1, F3.2.2.2.1, F3.2.2.2.2.1, F3.2.2.2.2.2.1, va_K.sub F3.2.2.2.2.2.2 [0, 1] rfl⟩
  have hx := F.1
  have hb := F.2.1
  have hml := F.2.2.1
  have hown : s.vm.findClass "BranchConstantsLaw" = some m.cls := F.2.2.2.1
  have htw := F.2.2.2.2.1
  have hN := F.2.2.2.2.2.1
  have hK := F.2.2.2.2.2.2
  have hK3 := F3.2.2.2.2.2.2
  have hl : lv_has ls 5 [(0, .ref b0), (1, .int 1), (2, .int (nI mx)), (3, .ref o9)] := hl
  refine lv_aload_n hx hb de_L_run_0 rfl (lv_at hl 3 rfl) ?_
  refine lv_iconst (v := 0) hx hb de_L_run_1 (by decide) ?_
  refine lv_aload_n hx hb de_L_run_2 rfl (lv_at hl 0 rfl) ?_
  refine lv_iload_n hx hb de_L_run_3 rfl (lv_at hl 1 rfl) ?_
  refine lv_iload_n hx hb de_L_run_4 rfl (lv_at hl 2 rfl) ?_
  refine bc_call_v_i (As := [.int 1, .int (nI mx)]) (rest := [.int 0, .ref o9]) (wr := [(o9, .inl (cL, 1, .inr (.inl Ou)))]) F (co_B_run1 hn hw hpl hon hmx) wm_384 wm_1 wm_381 wm_382 wm_383 0 rfl rfl pd_B_run rfl rfl ⟨Nat.le_of_ble_eq_true rfl, Nat.le_of_ble_eq_true rfl⟩ hP hD hS hA [0, 1, 2, 3, 4, 5, 6, 7] [8] rfl rfl rfl rfl (by decide) rfl hl.1 rfl (Nat.le_of_ble_eq_true rfl) de_L_run_5 ⟨Nat.le_of_ble_eq_true rfl, Nat.le_of_ble_eq_true rfl⟩ (fun r_5 u_5 H locs hw_5 hP hD hS => ?_)
  have hP : va_P (dC, dI) classes [(b0, .inr (4, [.ref h0, .ref g0, .ref a0, .ref w0, .ref e0, .ref f0, .int an, .int ra])), (g0, .inr (1, [.ref q5, .ref q6, .ref q7, .ref q8, .int (nI n2)])), (q5, .inl (cI, 40, .inl (Q 1))), (q6, .inl (cI, 40, .inl (Q 2))), (q7, .inl (cI, 40, .inl (Q 3))), (q8, .inl (cI, 40, .inl (Q 4))), (f0, .inr (2, [.ref v2, .int ((bc_rn n2 (Q 1) (Q 2) (Q 3) (Q 4) mx (X1, pl1)).1.2), .int (sp1 + nI (bc_rn n2 (Q 1) (Q 2) (Q 3) (Q 4) mx (X1, pl1)).2), .int on1])), (v2, .inl (cI, 6, .inl ((bc_rn n2 (Q 1) (Q 2) (Q 3) (Q 4) mx (X1, pl1)).1.1))), (o9, .inl (cL, 1, .inr (.inl Ou)))] H := hP.sub [1, 2, 3, 4, 5, 6, 7, 8, 0] rfl
  have hD : va_D A [(b0, .inr (4, [.ref h0, .ref g0, .ref a0, .ref w0, .ref e0, .ref f0, .int an, .int ra])), (g0, .inr (1, [.ref q5, .ref q6, .ref q7, .ref q8, .int (nI n2)])), (q5, .inl (cI, 40, .inl (Q 1))), (q6, .inl (cI, 40, .inl (Q 2))), (q7, .inl (cI, 40, .inl (Q 3))), (q8, .inl (cI, 40, .inl (Q 4))), (f0, .inr (2, [.ref v2, .int ((bc_rn n2 (Q 1) (Q 2) (Q 3) (Q 4) mx (X1, pl1)).1.2), .int (sp1 + nI (bc_rn n2 (Q 1) (Q 2) (Q 3) (Q 4) mx (X1, pl1)).2), .int on1])), (v2, .inl (cI, 6, .inl ((bc_rn n2 (Q 1) (Q 2) (Q 3) (Q 4) mx (X1, pl1)).1.1))), (o9, .inl (cL, 1, .inr (.inl Ou)))] := hD.sub [1, 2, 3, 4, 5, 6, 7, 8, 0] (by decide) rfl
  subst hw_5
  refine lv_i2l (v := (nI (bc_rn n2 (Q 1) (Q 2) (Q 3) (Q 4) mx (X1, pl1)).2).toInt64) hx hb de_L_run_8 rfl ?_
  refine va_last (i := 0) hx hb hK3 hP hD hS 8 2 rfl rfl (by unfold vp_in; decide) de_L_run_9 (fun H locs hP hD hS => ?_)
  have hP : va_P (dC, dI) classes [(b0, .inr (4, [.ref h0, .ref g0, .ref a0, .ref w0, .ref e0, .ref f0, .int an, .int ra])), (g0, .inr (1, [.ref q5, .ref q6, .ref q7, .ref q8, .int (nI n2)])), (q5, .inl (cI, 40, .inl (Q 1))), (q6, .inl (cI, 40, .inl (Q 2))), (q7, .inl (cI, 40, .inl (Q 3))), (q8, .inl (cI, 40, .inl (Q 4))), (f0, .inr (2, [.ref v2, .int ((bc_rn n2 (Q 1) (Q 2) (Q 3) (Q 4) mx (X1, pl1)).1.2), .int (sp1 + nI (bc_rn n2 (Q 1) (Q 2) (Q 3) (Q 4) mx (X1, pl1)).2), .int on1])), (v2, .inl (cI, 6, .inl ((bc_rn n2 (Q 1) (Q 2) (Q 3) (Q 4) mx (X1, pl1)).1.1))), (o9, .inl (cL, 1, .inr (.inl (vp_updL Ou 0 ((nI (bc_rn n2 (Q 1) (Q 2) (Q 3) (Q 4) mx (X1, pl1)).2).toInt64)))))] H := hP
  have hD : va_D A [(b0, .inr (4, [.ref h0, .ref g0, .ref a0, .ref w0, .ref e0, .ref f0, .int an, .int ra])), (g0, .inr (1, [.ref q5, .ref q6, .ref q7, .ref q8, .int (nI n2)])), (q5, .inl (cI, 40, .inl (Q 1))), (q6, .inl (cI, 40, .inl (Q 2))), (q7, .inl (cI, 40, .inl (Q 3))), (q8, .inl (cI, 40, .inl (Q 4))), (f0, .inr (2, [.ref v2, .int ((bc_rn n2 (Q 1) (Q 2) (Q 3) (Q 4) mx (X1, pl1)).1.2), .int (sp1 + nI (bc_rn n2 (Q 1) (Q 2) (Q 3) (Q 4) mx (X1, pl1)).2), .int on1])), (v2, .inl (cI, 6, .inl ((bc_rn n2 (Q 1) (Q 2) (Q 3) (Q 4) mx (X1, pl1)).1.1))), (o9, .inl (cL, 1, .inr (.inl (vp_updL Ou 0 ((nI (bc_rn n2 (Q 1) (Q 2) (Q 3) (Q 4) mx (X1, pl1)).2).toInt64)))))] := hD
  refine lv_goto (tgt := 25) hx hb de_L_run_10 (by decide) ?_
  refine lv_iconst (v := 0) hx hb de_L_run_25 (by decide) ?_
  exact bc_iret F3 hr hlocks (()) rfl hP hD hS de_L_run_26

set_option maxHeartbeats 4000000 in
set_option maxRecDepth 100000 in
theorem co_L_place1 {l : Launch} {dC : Nat → ClassId} {dI : Nat → Nat → Nat} {cI cZ cL : ClassId} {sz : Nat} (hl0 : l.stackTraces = false) {b0 h0 g0 a0 w0 e0 f0 v2 : Nat} {an ra pl1 sp1 on1 : Int32} {o9 : Nat} {Ou : Nat → Int64}   (hon : on1 ≠ 0) : Met l yn_L_place (Cond.codeWith yn_L_place by_L_place 4 (some FieldType.int) [(0, 9, 12, 21), (0, 9, 15, 15)] :: wd_all) ({ frames := 3, cells := 0, slots := 0, locals := 63 } : Room) (bc_PreX (dC, dI) classes [(cI, .int), (cZ, .boolean), (cL, .long)] [.ref b0, .int 1, .ref o9] [(b0, .inr (4, [.ref h0, .ref g0, .ref a0, .ref w0, .ref e0, .ref f0, .int an, .int ra])), (f0, .inr (2, [.ref v2, .int pl1, .int sp1, .int on1])), (o9, .inl (cL, 1, .inr (.inl Ou)))] sz) (va_Qi (fun (r : Int32) (u : Unit) => r = 0) (fun (u : Unit) t => bc_B (dC, dI) classes [(cI, .int), (cZ, .boolean), (cL, .long)] (va_A [(b0, .inr (4, [.ref h0, .ref g0, .ref a0, .ref w0, .ref e0, .ref f0, .int an, .int ra])), (f0, .inr (2, [.ref v2, .int pl1, .int sp1, .int on1])), (o9, .inl (cL, 1, .inr (.inl Ou)))] sz) [(b0, .inr (4, [.ref h0, .ref g0, .ref a0, .ref w0, .ref e0, .ref f0, .int an, .int ra])), (f0, .inr (2, [.ref v2, .int pl1, .int sp1, .int on1])), (o9, .inl (cL, 1, .inr (.inl (vp_updL Ou 0 pl1.toInt64))))] t) ((va_A [(b0, .inr (4, [.ref h0, .ref g0, .ref a0, .ref w0, .ref e0, .ref f0, .int an, .int ra])), (f0, .inr (2, [.ref v2, .int pl1, .int sp1, .int on1])), (o9, .inl (cL, 1, .inr (.inl Ou)))] sz))) 0 0 (va_A [(b0, .inr (4, [.ref h0, .ref g0, .ref a0, .ref w0, .ref e0, .ref f0, .int an, .int ra])), (f0, .inr (2, [.ref v2, .int pl1, .int sp1, .int on1])), (o9, .inl (cL, 1, .inr (.inl Ou)))] sz) := by
  refine bc_metW (fun A => va_Qi (fun (r : Int32) (u : Unit) => r = 0) (fun (u : Unit) t => bc_B (dC, dI) classes [(cI, .int), (cZ, .boolean), (cL, .long)] A [(b0, .inr (4, [.ref h0, .ref g0, .ref a0, .ref w0, .ref e0, .ref f0, .int an, .int ra])), (f0, .inr (2, [.ref v2, .int pl1, .int sp1, .int on1])), (o9, .inl (cL, 1, .inr (.inl (vp_updL Ou 0 pl1.toInt64))))] t) A) (by decide) (Nat.le_of_ble_eq_true rfl) ?_
  intro p e s m args below meth c A ls F3 hr hlocks hA hP hD hl hS hT9 htab
  have F : bc_Fx p m c by_L_place 4 s args "BranchConstantsLaw" (dC, dI) classes [(cI, .int), (cZ, .boolean)] := ⟨F3.1, F3.2.1, F3.2.2.1, F3.2.2.2.1, F3.2.2.2.2.1, F3.2.2.2.2.2.1, va_K.sub F3.2.2.2.2.2.2 [0, 1] rfl⟩
  have hx := F.1
  have hb := F.2.1
  have hml := F.2.2.1
  have hown : s.vm.findClass "BranchConstantsLaw" = some m.cls := F.2.2.2.1
  have htw := F.2.2.2.2.1
  have hN := F.2.2.2.2.2.1
  have hK := F.2.2.2.2.2.2
  have hK3 := F3.2.2.2.2.2.2
  have hl : lv_has ls 4 [(0, .ref b0), (1, .int 1), (2, .ref o9)] := hl
  refine lv_aload_n hx hb de_L_place_0 rfl (lv_at hl 2 rfl) ?_
  refine lv_iconst (v := 0) hx hb de_L_place_1 (by decide) ?_
  refine lv_aload_n hx hb de_L_place_2 rfl (lv_at hl 0 rfl) ?_
  refine lv_iload_n hx hb de_L_place_3 rfl (lv_at hl 1 rfl) ?_
  refine bc_call_v_i (As := [.int 1]) (rest := [.int 0, .ref o9]) (wr := [(o9, .inl (cL, 1, .inr (.inl Ou)))]) F (co_B_place1 hon) wm_402 wm_1 wm_399 wm_400 wm_401 0 rfl rfl pd_B_place rfl rfl ⟨Nat.le_of_ble_eq_true rfl, Nat.le_of_ble_eq_true rfl⟩ hP hD hS hA [0, 1] [2] rfl rfl rfl rfl (by decide) rfl hl.1 rfl (Nat.le_of_ble_eq_true rfl) de_L_place_4 ⟨Nat.le_of_ble_eq_true rfl, Nat.le_of_ble_eq_true rfl⟩ (fun r_4 u_4 H locs hw_4 hP hD hS => ?_)
  have hP : va_P (dC, dI) classes [(b0, .inr (4, [.ref h0, .ref g0, .ref a0, .ref w0, .ref e0, .ref f0, .int an, .int ra])), (f0, .inr (2, [.ref v2, .int pl1, .int sp1, .int on1])), (o9, .inl (cL, 1, .inr (.inl Ou)))] H := hP.sub [1, 2, 0] rfl
  have hD : va_D A [(b0, .inr (4, [.ref h0, .ref g0, .ref a0, .ref w0, .ref e0, .ref f0, .int an, .int ra])), (f0, .inr (2, [.ref v2, .int pl1, .int sp1, .int on1])), (o9, .inl (cL, 1, .inr (.inl Ou)))] := hD.sub [1, 2, 0] (by decide) rfl
  refine bc_ti (y := pl1) hw_4 ?_
  refine lv_i2l (v := pl1.toInt64) hx hb de_L_place_7 rfl ?_
  refine va_last (i := 0) hx hb hK3 hP hD hS 2 2 rfl rfl (by unfold vp_in; decide) de_L_place_8 (fun H locs hP hD hS => ?_)
  have hP : va_P (dC, dI) classes [(b0, .inr (4, [.ref h0, .ref g0, .ref a0, .ref w0, .ref e0, .ref f0, .int an, .int ra])), (f0, .inr (2, [.ref v2, .int pl1, .int sp1, .int on1])), (o9, .inl (cL, 1, .inr (.inl (vp_updL Ou 0 pl1.toInt64))))] H := hP
  have hD : va_D A [(b0, .inr (4, [.ref h0, .ref g0, .ref a0, .ref w0, .ref e0, .ref f0, .int an, .int ra])), (f0, .inr (2, [.ref v2, .int pl1, .int sp1, .int on1])), (o9, .inl (cL, 1, .inr (.inl (vp_updL Ou 0 pl1.toInt64))))] := hD
  refine lv_goto (tgt := 18) hx hb de_L_place_9 (by decide) ?_
  refine lv_iconst (v := 0) hx hb de_L_place_18 (by decide) ?_
  exact bc_iret F3 hr hlocks (()) rfl hP hD hS de_L_place_19

set_option maxHeartbeats 4000000 in
set_option maxRecDepth 100000 in
theorem co_L_steps1 {l : Launch} {dC : Nat → ClassId} {dI : Nat → Nat → Nat} {cI cZ cL : ClassId} {sz : Nat} (hl0 : l.stackTraces = false) {b0 h0 g0 a0 w0 e0 f0 v2 : Nat} {an ra pl1 sp1 on1 : Int32} {o9 : Nat} {Ou : Nat → Int64}   (hon : on1 ≠ 0) : Met l yn_L_steps (Cond.codeWith yn_L_steps by_L_steps 4 (some FieldType.int) [(0, 9, 12, 21), (0, 9, 15, 15)] :: wd_all) ({ frames := 3, cells := 0, slots := 0, locals := 63 } : Room) (bc_PreX (dC, dI) classes [(cI, .int), (cZ, .boolean), (cL, .long)] [.ref b0, .int 1, .ref o9] [(b0, .inr (4, [.ref h0, .ref g0, .ref a0, .ref w0, .ref e0, .ref f0, .int an, .int ra])), (f0, .inr (2, [.ref v2, .int pl1, .int sp1, .int on1])), (o9, .inl (cL, 1, .inr (.inl Ou)))] sz) (va_Qi (fun (r : Int32) (u : Unit) => r = 0) (fun (u : Unit) t => bc_B (dC, dI) classes [(cI, .int), (cZ, .boolean), (cL, .long)] (va_A [(b0, .inr (4, [.ref h0, .ref g0, .ref a0, .ref w0, .ref e0, .ref f0, .int an, .int ra])), (f0, .inr (2, [.ref v2, .int pl1, .int sp1, .int on1])), (o9, .inl (cL, 1, .inr (.inl Ou)))] sz) [(b0, .inr (4, [.ref h0, .ref g0, .ref a0, .ref w0, .ref e0, .ref f0, .int an, .int ra])), (f0, .inr (2, [.ref v2, .int pl1, .int sp1, .int on1])), (o9, .inl (cL, 1, .inr (.inl (vp_updL Ou 0 sp1.toInt64))))] t) ((va_A [(b0, .inr (4, [.ref h0, .ref g0, .ref a0, .ref w0, .ref e0, .ref f0, .int an, .int ra])), (f0, .inr (2, [.ref v2, .int pl1, .int sp1, .int on1])), (o9, .inl (cL, 1, .inr (.inl Ou)))] sz))) 0 0 (va_A [(b0, .inr (4, [.ref h0, .ref g0, .ref a0, .ref w0, .ref e0, .ref f0, .int an, .int ra])), (f0, .inr (2, [.ref v2, .int pl1, .int sp1, .int on1])), (o9, .inl (cL, 1, .inr (.inl Ou)))] sz) := by
  refine bc_metW (fun A => va_Qi (fun (r : Int32) (u : Unit) => r = 0) (fun (u : Unit) t => bc_B (dC, dI) classes [(cI, .int), (cZ, .boolean), (cL, .long)] A [(b0, .inr (4, [.ref h0, .ref g0, .ref a0, .ref w0, .ref e0, .ref f0, .int an, .int ra])), (f0, .inr (2, [.ref v2, .int pl1, .int sp1, .int on1])), (o9, .inl (cL, 1, .inr (.inl (vp_updL Ou 0 sp1.toInt64))))] t) A) (by decide) (Nat.le_of_ble_eq_true rfl) ?_
  intro p e s m args below meth c A ls F3 hr hlocks hA hP hD hl hS hT9 htab
  have F : bc_Fx p m c by_L_steps 4 s args "BranchConstantsLaw" (dC, dI) classes [(cI, .int), (cZ, .boolean)] := ⟨F3.1, F3.2.1, F3.2.2.1, F3.2.2.2.1, F3.2.2.2.2.1, F3.2.2.2.2.2.1, va_K.sub F3.2.2.2.2.2.2 [0, 1] rfl⟩
  have hx := F.1
  have hb := F.2.1
  have hml := F.2.2.1
  have hown : s.vm.findClass "BranchConstantsLaw" = some m.cls := F.2.2.2.1
  have htw := F.2.2.2.2.1
  have hN := F.2.2.2.2.2.1
  have hK := F.2.2.2.2.2.2
  have hK3 := F3.2.2.2.2.2.2
  have hl : lv_has ls 4 [(0, .ref b0), (1, .int 1), (2, .ref o9)] := hl
  refine lv_aload_n hx hb de_L_steps_0 rfl (lv_at hl 2 rfl) ?_
  refine lv_iconst (v := 0) hx hb de_L_steps_1 (by decide) ?_
  refine lv_aload_n hx hb de_L_steps_2 rfl (lv_at hl 0 rfl) ?_
  refine lv_iload_n hx hb de_L_steps_3 rfl (lv_at hl 1 rfl) ?_
  refine bc_call_v_i (As := [.int 1]) (rest := [.int 0, .ref o9]) (wr := [(o9, .inl (cL, 1, .inr (.inl Ou)))]) F (co_B_steps1 hon) wm_416 wm_1 wm_413 wm_414 wm_415 0 rfl rfl pd_B_steps rfl rfl ⟨Nat.le_of_ble_eq_true rfl, Nat.le_of_ble_eq_true rfl⟩ hP hD hS hA [0, 1] [2] rfl rfl rfl rfl (by decide) rfl hl.1 rfl (Nat.le_of_ble_eq_true rfl) de_L_steps_4 ⟨Nat.le_of_ble_eq_true rfl, Nat.le_of_ble_eq_true rfl⟩ (fun r_4 u_4 H locs hw_4 hP hD hS => ?_)
  have hP : va_P (dC, dI) classes [(b0, .inr (4, [.ref h0, .ref g0, .ref a0, .ref w0, .ref e0, .ref f0, .int an, .int ra])), (f0, .inr (2, [.ref v2, .int pl1, .int sp1, .int on1])), (o9, .inl (cL, 1, .inr (.inl Ou)))] H := hP.sub [1, 2, 0] rfl
  have hD : va_D A [(b0, .inr (4, [.ref h0, .ref g0, .ref a0, .ref w0, .ref e0, .ref f0, .int an, .int ra])), (f0, .inr (2, [.ref v2, .int pl1, .int sp1, .int on1])), (o9, .inl (cL, 1, .inr (.inl Ou)))] := hD.sub [1, 2, 0] (by decide) rfl
  refine bc_ti (y := sp1) hw_4 ?_
  refine lv_i2l (v := sp1.toInt64) hx hb de_L_steps_7 rfl ?_
  refine va_last (i := 0) hx hb hK3 hP hD hS 2 2 rfl rfl (by unfold vp_in; decide) de_L_steps_8 (fun H locs hP hD hS => ?_)
  have hP : va_P (dC, dI) classes [(b0, .inr (4, [.ref h0, .ref g0, .ref a0, .ref w0, .ref e0, .ref f0, .int an, .int ra])), (f0, .inr (2, [.ref v2, .int pl1, .int sp1, .int on1])), (o9, .inl (cL, 1, .inr (.inl (vp_updL Ou 0 sp1.toInt64))))] H := hP
  have hD : va_D A [(b0, .inr (4, [.ref h0, .ref g0, .ref a0, .ref w0, .ref e0, .ref f0, .int an, .int ra])), (f0, .inr (2, [.ref v2, .int pl1, .int sp1, .int on1])), (o9, .inl (cL, 1, .inr (.inl (vp_updL Ou 0 sp1.toInt64))))] := hD
  refine lv_goto (tgt := 18) hx hb de_L_steps_9 (by decide) ?_
  refine lv_iconst (v := 0) hx hb de_L_steps_18 (by decide) ?_
  exact bc_iret F3 hr hlocks (()) rfl hP hD hS de_L_steps_19

set_option maxHeartbeats 4000000 in
set_option maxRecDepth 100000 in
theorem co_L_value1 {l : Launch} {dC : Nat → ClassId} {dI : Nat → Nat → Nat} {cI cZ cL : ClassId} {sz : Nat} (hl0 : l.stackTraces = false) {b0 h0 g0 a0 w0 e0 f0 v2 : Nat} {X1 : bc_F} {an ra pl1 sp1 on1 : Int32} {o9 : Nat} {Ou : Nat → Int64}  {v : Nat} (hon : on1 ≠ 0) (hv : v < 6) : Met l yn_L_value (Cond.codeWith yn_L_value by_L_value 5 (some FieldType.int) [(0, 10, 13, 21), (0, 10, 17, 15)] :: wd_all) ({ frames := 3, cells := 0, slots := 0, locals := 64 } : Room) (bc_PreX (dC, dI) classes [(cI, .int), (cZ, .boolean), (cL, .long)] [.ref b0, .int 1, .int (nI v), .ref o9] [(b0, .inr (4, [.ref h0, .ref g0, .ref a0, .ref w0, .ref e0, .ref f0, .int an, .int ra])), (f0, .inr (2, [.ref v2, .int pl1, .int sp1, .int on1])), (v2, .inl (cI, 6, .inl X1)), (o9, .inl (cL, 1, .inr (.inl Ou)))] sz) (va_Qi (fun (r : Int32) (u : Unit) => r = 0) (fun (u : Unit) t => bc_B (dC, dI) classes [(cI, .int), (cZ, .boolean), (cL, .long)] (va_A [(b0, .inr (4, [.ref h0, .ref g0, .ref a0, .ref w0, .ref e0, .ref f0, .int an, .int ra])), (f0, .inr (2, [.ref v2, .int pl1, .int sp1, .int on1])), (v2, .inl (cI, 6, .inl X1)), (o9, .inl (cL, 1, .inr (.inl Ou)))] sz) [(b0, .inr (4, [.ref h0, .ref g0, .ref a0, .ref w0, .ref e0, .ref f0, .int an, .int ra])), (f0, .inr (2, [.ref v2, .int pl1, .int sp1, .int on1])), (v2, .inl (cI, 6, .inl X1)), (o9, .inl (cL, 1, .inr (.inl (vp_updL Ou 0 ((X1 v).toInt64)))))] t) ((va_A [(b0, .inr (4, [.ref h0, .ref g0, .ref a0, .ref w0, .ref e0, .ref f0, .int an, .int ra])), (f0, .inr (2, [.ref v2, .int pl1, .int sp1, .int on1])), (v2, .inl (cI, 6, .inl X1)), (o9, .inl (cL, 1, .inr (.inl Ou)))] sz))) 0 0 (va_A [(b0, .inr (4, [.ref h0, .ref g0, .ref a0, .ref w0, .ref e0, .ref f0, .int an, .int ra])), (f0, .inr (2, [.ref v2, .int pl1, .int sp1, .int on1])), (v2, .inl (cI, 6, .inl X1)), (o9, .inl (cL, 1, .inr (.inl Ou)))] sz) := by
  refine bc_metW (fun A => va_Qi (fun (r : Int32) (u : Unit) => r = 0) (fun (u : Unit) t => bc_B (dC, dI) classes [(cI, .int), (cZ, .boolean), (cL, .long)] A [(b0, .inr (4, [.ref h0, .ref g0, .ref a0, .ref w0, .ref e0, .ref f0, .int an, .int ra])), (f0, .inr (2, [.ref v2, .int pl1, .int sp1, .int on1])), (v2, .inl (cI, 6, .inl X1)), (o9, .inl (cL, 1, .inr (.inl (vp_updL Ou 0 ((X1 v).toInt64)))))] t) A) (by decide) (Nat.le_of_ble_eq_true rfl) ?_
  intro p e s m args below meth c A ls F3 hr hlocks hA hP hD hl hS hT9 htab
  have F : bc_Fx p m c by_L_value 5 s args "BranchConstantsLaw" (dC, dI) classes [(cI, .int), (cZ, .boolean)] := ⟨F3.1, F3.2.1, F3.2.2.1, F3.2.2.2.1, F3.2.2.2.2.1, F3.2.2.2.2.2.1, va_K.sub F3.2.2.2.2.2.2 [0, 1] rfl⟩
  have hx := F.1
  have hb := F.2.1
  have hml := F.2.2.1
  have hown : s.vm.findClass "BranchConstantsLaw" = some m.cls := F.2.2.2.1
  have htw := F.2.2.2.2.1
  have hN := F.2.2.2.2.2.1
  have hK := F.2.2.2.2.2.2
  have hK3 := F3.2.2.2.2.2.2
  have hl : lv_has ls 5 [(0, .ref b0), (1, .int 1), (2, .int (nI v)), (3, .ref o9)] := hl
  refine lv_aload_n hx hb de_L_value_0 rfl (lv_at hl 3 rfl) ?_
  refine lv_iconst (v := 0) hx hb de_L_value_1 (by decide) ?_
  refine lv_aload_n hx hb de_L_value_2 rfl (lv_at hl 0 rfl) ?_
  refine lv_iload_n hx hb de_L_value_3 rfl (lv_at hl 1 rfl) ?_
  refine lv_iload_n hx hb de_L_value_4 rfl (lv_at hl 2 rfl) ?_
  refine bc_call_v_i (As := [.int 1, .int (nI v)]) (rest := [.int 0, .ref o9]) (wr := [(o9, .inl (cL, 1, .inr (.inl Ou)))]) F (co_B_value1 hon hv) wm_409 wm_1 wm_406 wm_407 wm_408 0 rfl rfl pd_B_value rfl rfl ⟨Nat.le_of_ble_eq_true rfl, Nat.le_of_ble_eq_true rfl⟩ hP hD hS hA [0, 1, 2] [3] rfl rfl rfl rfl (by decide) rfl hl.1 rfl (Nat.le_of_ble_eq_true rfl) de_L_value_5 ⟨Nat.le_of_ble_eq_true rfl, Nat.le_of_ble_eq_true rfl⟩ (fun r_5 u_5 H locs hw_5 hP hD hS => ?_)
  have hP : va_P (dC, dI) classes [(b0, .inr (4, [.ref h0, .ref g0, .ref a0, .ref w0, .ref e0, .ref f0, .int an, .int ra])), (f0, .inr (2, [.ref v2, .int pl1, .int sp1, .int on1])), (v2, .inl (cI, 6, .inl X1)), (o9, .inl (cL, 1, .inr (.inl Ou)))] H := hP.sub [1, 2, 3, 0] rfl
  have hD : va_D A [(b0, .inr (4, [.ref h0, .ref g0, .ref a0, .ref w0, .ref e0, .ref f0, .int an, .int ra])), (f0, .inr (2, [.ref v2, .int pl1, .int sp1, .int on1])), (v2, .inl (cI, 6, .inl X1)), (o9, .inl (cL, 1, .inr (.inl Ou)))] := hD.sub [1, 2, 3, 0] (by decide) rfl
  subst hw_5
  refine lv_i2l (v := (X1 v).toInt64) hx hb de_L_value_8 rfl ?_
  refine va_last (i := 0) hx hb hK3 hP hD hS 3 2 rfl rfl (by unfold vp_in; decide) de_L_value_9 (fun H locs hP hD hS => ?_)
  have hP : va_P (dC, dI) classes [(b0, .inr (4, [.ref h0, .ref g0, .ref a0, .ref w0, .ref e0, .ref f0, .int an, .int ra])), (f0, .inr (2, [.ref v2, .int pl1, .int sp1, .int on1])), (v2, .inl (cI, 6, .inl X1)), (o9, .inl (cL, 1, .inr (.inl (vp_updL Ou 0 ((X1 v).toInt64)))))] H := hP
  have hD : va_D A [(b0, .inr (4, [.ref h0, .ref g0, .ref a0, .ref w0, .ref e0, .ref f0, .int an, .int ra])), (f0, .inr (2, [.ref v2, .int pl1, .int sp1, .int on1])), (v2, .inl (cI, 6, .inl X1)), (o9, .inl (cL, 1, .inr (.inl (vp_updL Ou 0 ((X1 v).toInt64)))))] := hD
  refine lv_goto (tgt := 21) hx hb de_L_value_10 (by decide) ?_
  refine lv_iconst (v := 0) hx hb de_L_value_21 (by decide) ?_
  exact bc_iret F3 hr hlocks (()) rfl hP hD hS de_L_value_22

set_option maxHeartbeats 4000000 in
set_option maxRecDepth 100000 in
theorem co_L_reachedx {l : Launch} {dC : Nat → ClassId} {dI : Nat → Nat → Nat} {cI cZ cL : ClassId} {sz : Nat} (hl0 : l.stackTraces = false) {b0 h0 q1 q2 q3 q4 g0 a0 w0 e0 f0 n : Nat} {an ra : Int32} {o9 : Nat}  {x : Int32} (hn : n ≤ 40) (hix : ¬ bc_ix n x) : Met l yn_L_reached (Cond.codeWith yn_L_reached by_L_reached 4 (some FieldType.int) [(0, 16, 19, 21)] :: wd_all) ({ frames := 8, cells := 1, slots := 6, locals := 124 } : Room) (bc_PreX (dC, dI) classes [(cI, .int), (cZ, .boolean), (cL, .long)] [.ref b0, .int x, .ref o9] [(b0, .inr (4, [.ref h0, .ref g0, .ref a0, .ref w0, .ref e0, .ref f0, .int an, .int ra])), (h0, .inr (1, [.ref q1, .ref q2, .ref q3, .ref q4, .int (nI n)]))] sz) (va_Qi (fun (r : Int32) (u : Unit) => r = 1) (fun (u : Unit) t => bc_B (dC, dI) classes [(cI, .int), (cZ, .boolean), (cL, .long)] (va_A [(b0, .inr (4, [.ref h0, .ref g0, .ref a0, .ref w0, .ref e0, .ref f0, .int an, .int ra])), (h0, .inr (1, [.ref q1, .ref q2, .ref q3, .ref q4, .int (nI n)]))] sz) [(b0, .inr (4, [.ref h0, .ref g0, .ref a0, .ref w0, .ref e0, .ref f0, .int an, .int ra])), (h0, .inr (1, [.ref q1, .ref q2, .ref q3, .ref q4, .int (nI n)]))] t) ((va_A [(b0, .inr (4, [.ref h0, .ref g0, .ref a0, .ref w0, .ref e0, .ref f0, .int an, .int ra])), (h0, .inr (1, [.ref q1, .ref q2, .ref q3, .ref q4, .int (nI n)]))] sz))) 1 6 (va_A [(b0, .inr (4, [.ref h0, .ref g0, .ref a0, .ref w0, .ref e0, .ref f0, .int an, .int ra])), (h0, .inr (1, [.ref q1, .ref q2, .ref q3, .ref q4, .int (nI n)]))] sz) := by
  refine bc_metW (fun A => va_Qi (fun (r : Int32) (u : Unit) => r = 1) (fun (u : Unit) t => bc_B (dC, dI) classes [(cI, .int), (cZ, .boolean), (cL, .long)] A [(b0, .inr (4, [.ref h0, .ref g0, .ref a0, .ref w0, .ref e0, .ref f0, .int an, .int ra])), (h0, .inr (1, [.ref q1, .ref q2, .ref q3, .ref q4, .int (nI n)]))] t) A) (by decide) (Nat.le_of_ble_eq_true rfl) ?_
  intro p e s m args below meth c A ls F3 hr hlocks hA hP hD hl hS hT9 htab
  have F : bc_Fx p m c by_L_reached 4 s args "BranchConstantsLaw" (dC, dI) classes [(cI, .int), (cZ, .boolean)] := ⟨F3.1, F3.2.1, F3.2.2.1, F3.2.2.2.1, F3.2.2.2.2.1, F3.2.2.2.2.2.1, va_K.sub F3.2.2.2.2.2.2 [0, 1] rfl⟩
  have hx := F.1
  have hb := F.2.1
  have hml := F.2.2.1
  have hown : s.vm.findClass "BranchConstantsLaw" = some m.cls := F.2.2.2.1
  have htw := F.2.2.2.2.1
  have hN := F.2.2.2.2.2.1
  have hK := F.2.2.2.2.2.2
  have hK3 := F3.2.2.2.2.2.2
  have hl : lv_has ls 4 [(0, .ref b0), (1, .int x), (2, .ref o9)] := hl
  refine lv_aload_n hx hb de_L_reached_0 rfl (lv_at hl 2 rfl) ?_
  refine lv_iconst (v := 0) hx hb de_L_reached_1 (by decide) ?_
  refine lv_aload_n hx hb de_L_reached_2 rfl (lv_at hl 0 rfl) ?_
  refine lv_iload_n hx hb de_L_reached_3 rfl (lv_at hl 1 rfl) ?_
  refine bc_xcatch (As := [.int x]) (rest := [.int 0, .ref o9]) (pre := []) (post := []) (sp := 0) (ep := 16) (hp := 19) (ct := 21) F hT9 (cx_B_reached hl0 hn hix) wm_287 wm_1 wm_284 wm_285 wm_286 0 rfl rfl pd_B_reached rfl rfl ⟨Nat.le_of_ble_eq_true rfl, Nat.le_of_ble_eq_true rfl⟩ hP (hD.weaken (fun _ _ _ _ => trivial)) [0, 1] rfl rfl rfl hl.1 rfl (Nat.le_of_ble_eq_true rfl) de_L_reached_4 ⟨Nat.le_of_ble_eq_true rfl, Nat.le_of_ble_eq_true rfl⟩ htab rfl (fun z hz => absurd hz List.not_mem_nil) (by decide) (by decide) wm_259 (List.mem_of_getElem? (i := 5) rfl) (fun q9 H hk hz => ?_)
  have hS : va_S A s.heap H [] := ⟨hz, fun q h1 _ => hk q h1, fun q hq => absurd hq List.not_mem_nil⟩
  have hP : va_P (dC, dI) classes [(b0, .inr (4, [.ref h0, .ref g0, .ref a0, .ref w0, .ref e0, .ref f0, .int an, .int ra])), (h0, .inr (1, [.ref q1, .ref q2, .ref q3, .ref q4, .int (nI n)]))] H := hP.kept (fun k x hx => hk x.1 ((hP k x hx).lt))
  refine lv_astore_n (lv' := [(3, .ref q9), (0, .ref b0), (1, .int x), (2, .ref o9)]) hx hb de_L_reached_19 rfl hl (by decide) rfl (fun ls hl => ?_)
  refine lv_iconst (v := 1) hx hb de_L_reached_20 (by decide) ?_
  exact bc_iret F3 hr hlocks (()) rfl hP hD hS de_L_reached_21

set_option maxHeartbeats 4000000 in
set_option maxRecDepth 100000 in
theorem co_L_knownxa {l : Launch} {dC : Nat → ClassId} {dI : Nat → Nat → Nat} {cI cZ cL : ClassId} {sz : Nat} (hl0 : l.stackTraces = false) {b0 h0 q1 q2 q3 q4 g0 a0 w0 e0 f0 n : Nat} {an ra : Int32} {o9 : Nat}  {x y : Int32} (hn : n ≤ 40) (hix : ¬ bc_ix n x) : Met l yn_L_known (Cond.codeWith yn_L_known by_L_known 5 (some FieldType.int) [(0, 10, 13, 21)] :: wd_all) ({ frames := 8, cells := 1, slots := 6, locals := 125 } : Room) (bc_PreX (dC, dI) classes [(cI, .int), (cZ, .boolean), (cL, .long)] [.ref b0, .int x, .int y, .ref o9] [(b0, .inr (4, [.ref h0, .ref g0, .ref a0, .ref w0, .ref e0, .ref f0, .int an, .int ra])), (h0, .inr (1, [.ref q1, .ref q2, .ref q3, .ref q4, .int (nI n)]))] sz) (va_Qi (fun (r : Int32) (u : Unit) => r = 1) (fun (u : Unit) t => bc_B (dC, dI) classes [(cI, .int), (cZ, .boolean), (cL, .long)] (va_A [(b0, .inr (4, [.ref h0, .ref g0, .ref a0, .ref w0, .ref e0, .ref f0, .int an, .int ra])), (h0, .inr (1, [.ref q1, .ref q2, .ref q3, .ref q4, .int (nI n)]))] sz) [(b0, .inr (4, [.ref h0, .ref g0, .ref a0, .ref w0, .ref e0, .ref f0, .int an, .int ra])), (h0, .inr (1, [.ref q1, .ref q2, .ref q3, .ref q4, .int (nI n)]))] t) ((va_A [(b0, .inr (4, [.ref h0, .ref g0, .ref a0, .ref w0, .ref e0, .ref f0, .int an, .int ra])), (h0, .inr (1, [.ref q1, .ref q2, .ref q3, .ref q4, .int (nI n)]))] sz))) 1 6 (va_A [(b0, .inr (4, [.ref h0, .ref g0, .ref a0, .ref w0, .ref e0, .ref f0, .int an, .int ra])), (h0, .inr (1, [.ref q1, .ref q2, .ref q3, .ref q4, .int (nI n)]))] sz) := by
  refine bc_metW (fun A => va_Qi (fun (r : Int32) (u : Unit) => r = 1) (fun (u : Unit) t => bc_B (dC, dI) classes [(cI, .int), (cZ, .boolean), (cL, .long)] A [(b0, .inr (4, [.ref h0, .ref g0, .ref a0, .ref w0, .ref e0, .ref f0, .int an, .int ra])), (h0, .inr (1, [.ref q1, .ref q2, .ref q3, .ref q4, .int (nI n)]))] t) A) (by decide) (Nat.le_of_ble_eq_true rfl) ?_
  intro p e s m args below meth c A ls F3 hr hlocks hA hP hD hl hS hT9 htab
  have F : bc_Fx p m c by_L_known 5 s args "BranchConstantsLaw" (dC, dI) classes [(cI, .int), (cZ, .boolean)] := ⟨F3.1, F3.2.1, F3.2.2.1, F3.2.2.2.1, F3.2.2.2.2.1, F3.2.2.2.2.2.1, va_K.sub F3.2.2.2.2.2.2 [0, 1] rfl⟩
  have hx := F.1
  have hb := F.2.1
  have hml := F.2.2.1
  have hown : s.vm.findClass "BranchConstantsLaw" = some m.cls := F.2.2.2.1
  have htw := F.2.2.2.2.1
  have hN := F.2.2.2.2.2.1
  have hK := F.2.2.2.2.2.2
  have hK3 := F3.2.2.2.2.2.2
  have hl : lv_has ls 5 [(0, .ref b0), (1, .int x), (2, .int y), (3, .ref o9)] := hl
  refine lv_aload_n hx hb de_L_known_0 rfl (lv_at hl 3 rfl) ?_
  refine lv_iconst (v := 0) hx hb de_L_known_1 (by decide) ?_
  refine lv_aload_n hx hb de_L_known_2 rfl (lv_at hl 0 rfl) ?_
  refine lv_iload_n hx hb de_L_known_3 rfl (lv_at hl 1 rfl) ?_
  refine lv_iload_n hx hb de_L_known_4 rfl (lv_at hl 2 rfl) ?_
  refine bc_xcatch (As := [.int x, .int y]) (rest := [.int 0, .ref o9]) (pre := []) (post := []) (sp := 0) (ep := 10) (hp := 13) (ct := 21) F hT9 (cx_B_knowna hl0 hn hix) wm_294 wm_1 wm_291 wm_292 wm_293 0 rfl rfl pd_B_known rfl rfl ⟨Nat.le_of_ble_eq_true rfl, Nat.le_of_ble_eq_true rfl⟩ hP (hD.weaken (fun _ _ _ _ => trivial)) [0, 1] rfl rfl rfl hl.1 rfl (Nat.le_of_ble_eq_true rfl) de_L_known_5 ⟨Nat.le_of_ble_eq_true rfl, Nat.le_of_ble_eq_true rfl⟩ htab rfl (fun z hz => absurd hz List.not_mem_nil) (by decide) (by decide) wm_259 (List.mem_of_getElem? (i := 5) rfl) (fun q9 H hk hz => ?_)
  have hS : va_S A s.heap H [] := ⟨hz, fun q h1 _ => hk q h1, fun q hq => absurd hq List.not_mem_nil⟩
  have hP : va_P (dC, dI) classes [(b0, .inr (4, [.ref h0, .ref g0, .ref a0, .ref w0, .ref e0, .ref f0, .int an, .int ra])), (h0, .inr (1, [.ref q1, .ref q2, .ref q3, .ref q4, .int (nI n)]))] H := hP.kept (fun k x hx => hk x.1 ((hP k x hx).lt))
  refine lv_astore (lv' := [(4, .ref q9), (0, .ref b0), (1, .int x), (2, .int y), (3, .ref o9)]) hx hb de_L_known_13 hl (by decide) rfl (fun ls hl => ?_)
  refine lv_iconst (v := 1) hx hb de_L_known_15 (by decide) ?_
  exact bc_iret F3 hr hlocks (()) rfl hP hD hS de_L_known_16

set_option maxHeartbeats 4000000 in
set_option maxRecDepth 100000 in
theorem co_L_knownxb {l : Launch} {dC : Nat → ClassId} {dI : Nat → Nat → Nat} {cI cZ cL : ClassId} {sz : Nat} (hl0 : l.stackTraces = false) {b0 h0 q1 q2 q3 q4 g0 a0 w0 e0 f0 n : Nat} {an ra : Int32} {o9 : Nat}  {j : Nat} {y : Int32} (hn : n ≤ 40) (hj : j < n) (hvx : ¬ bc_vr y) : Met l yn_L_known (Cond.codeWith yn_L_known by_L_known 5 (some FieldType.int) [(0, 10, 13, 21)] :: wd_all) ({ frames := 8, cells := 1, slots := 6, locals := 125 } : Room) (bc_PreX (dC, dI) classes [(cI, .int), (cZ, .boolean), (cL, .long)] [.ref b0, .int (nI j), .int y, .ref o9] [(b0, .inr (4, [.ref h0, .ref g0, .ref a0, .ref w0, .ref e0, .ref f0, .int an, .int ra])), (h0, .inr (1, [.ref q1, .ref q2, .ref q3, .ref q4, .int (nI n)]))] sz) (va_Qi (fun (r : Int32) (u : Unit) => r = 1) (fun (u : Unit) t => bc_B (dC, dI) classes [(cI, .int), (cZ, .boolean), (cL, .long)] (va_A [(b0, .inr (4, [.ref h0, .ref g0, .ref a0, .ref w0, .ref e0, .ref f0, .int an, .int ra])), (h0, .inr (1, [.ref q1, .ref q2, .ref q3, .ref q4, .int (nI n)]))] sz) [(b0, .inr (4, [.ref h0, .ref g0, .ref a0, .ref w0, .ref e0, .ref f0, .int an, .int ra])), (h0, .inr (1, [.ref q1, .ref q2, .ref q3, .ref q4, .int (nI n)]))] t) ((va_A [(b0, .inr (4, [.ref h0, .ref g0, .ref a0, .ref w0, .ref e0, .ref f0, .int an, .int ra])), (h0, .inr (1, [.ref q1, .ref q2, .ref q3, .ref q4, .int (nI n)]))] sz))) 1 6 (va_A [(b0, .inr (4, [.ref h0, .ref g0, .ref a0, .ref w0, .ref e0, .ref f0, .int an, .int ra])), (h0, .inr (1, [.ref q1, .ref q2, .ref q3, .ref q4, .int (nI n)]))] sz) := by
  refine bc_metW (fun A => va_Qi (fun (r : Int32) (u : Unit) => r = 1) (fun (u : Unit) t => bc_B (dC, dI) classes [(cI, .int), (cZ, .boolean), (cL, .long)] A [(b0, .inr (4, [.ref h0, .ref g0, .ref a0, .ref w0, .ref e0, .ref f0, .int an, .int ra])), (h0, .inr (1, [.ref q1, .ref q2, .ref q3, .ref q4, .int (nI n)]))] t) A) (by decide) (Nat.le_of_ble_eq_true rfl) ?_
  intro p e s m args below meth c A ls F3 hr hlocks hA hP hD hl hS hT9 htab
  have F : bc_Fx p m c by_L_known 5 s args "BranchConstantsLaw" (dC, dI) classes [(cI, .int), (cZ, .boolean)] := ⟨F3.1, F3.2.1, F3.2.2.1, F3.2.2.2.1, F3.2.2.2.2.1, F3.2.2.2.2.2.1, va_K.sub F3.2.2.2.2.2.2 [0, 1] rfl⟩
  have hx := F.1
  have hb := F.2.1
  have hml := F.2.2.1
  have hown : s.vm.findClass "BranchConstantsLaw" = some m.cls := F.2.2.2.1
  have htw := F.2.2.2.2.1
  have hN := F.2.2.2.2.2.1
  have hK := F.2.2.2.2.2.2
  have hK3 := F3.2.2.2.2.2.2
  have hl : lv_has ls 5 [(0, .ref b0), (1, .int (nI j)), (2, .int y), (3, .ref o9)] := hl
  refine lv_aload_n hx hb de_L_known_0 rfl (lv_at hl 3 rfl) ?_
  refine lv_iconst (v := 0) hx hb de_L_known_1 (by decide) ?_
  refine lv_aload_n hx hb de_L_known_2 rfl (lv_at hl 0 rfl) ?_
  refine lv_iload_n hx hb de_L_known_3 rfl (lv_at hl 1 rfl) ?_
  refine lv_iload_n hx hb de_L_known_4 rfl (lv_at hl 2 rfl) ?_
  refine bc_xcatch (As := [.int (nI j), .int y]) (rest := [.int 0, .ref o9]) (pre := []) (post := []) (sp := 0) (ep := 10) (hp := 13) (ct := 21) F hT9 (cx_B_knownb hl0 hn hj hvx) wm_294 wm_1 wm_291 wm_292 wm_293 0 rfl rfl pd_B_known rfl rfl ⟨Nat.le_of_ble_eq_true rfl, Nat.le_of_ble_eq_true rfl⟩ hP (hD.weaken (fun _ _ _ _ => trivial)) [0, 1] rfl rfl rfl hl.1 rfl (Nat.le_of_ble_eq_true rfl) de_L_known_5 ⟨Nat.le_of_ble_eq_true rfl, Nat.le_of_ble_eq_true rfl⟩ htab rfl (fun z hz => absurd hz List.not_mem_nil) (by decide) (by decide) wm_259 (List.mem_of_getElem? (i := 5) rfl) (fun q9 H hk hz => ?_)
  have hS : va_S A s.heap H [] := ⟨hz, fun q h1 _ => hk q h1, fun q hq => absurd hq List.not_mem_nil⟩
  have hP : va_P (dC, dI) classes [(b0, .inr (4, [.ref h0, .ref g0, .ref a0, .ref w0, .ref e0, .ref f0, .int an, .int ra])), (h0, .inr (1, [.ref q1, .ref q2, .ref q3, .ref q4, .int (nI n)]))] H := hP.kept (fun k x hx => hk x.1 ((hP k x hx).lt))
  refine lv_astore (lv' := [(4, .ref q9), (0, .ref b0), (1, .int (nI j)), (2, .int y), (3, .ref o9)]) hx hb de_L_known_13 hl (by decide) rfl (fun ls hl => ?_)
  refine lv_iconst (v := 1) hx hb de_L_known_15 (by decide) ?_
  exact bc_iret F3 hr hlocks (()) rfl hP hD hS de_L_known_16

set_option maxHeartbeats 4000000 in
set_option maxRecDepth 100000 in
theorem co_L_constantxa {l : Launch} {dC : Nat → ClassId} {dI : Nat → Nat → Nat} {cI cZ cL : ClassId} {sz : Nat} (hl0 : l.stackTraces = false) {b0 h0 q1 q2 q3 q4 g0 a0 w0 e0 f0 n : Nat} {an ra : Int32} {o9 : Nat}  {x y : Int32} (hn : n ≤ 40) (hix : ¬ bc_ix n x) : Met l yn_L_constant (Cond.codeWith yn_L_constant by_L_constant 5 (some FieldType.int) [(0, 10, 13, 21)] :: wd_all) ({ frames := 8, cells := 1, slots := 6, locals := 125 } : Room) (bc_PreX (dC, dI) classes [(cI, .int), (cZ, .boolean), (cL, .long)] [.ref b0, .int x, .int y, .ref o9] [(b0, .inr (4, [.ref h0, .ref g0, .ref a0, .ref w0, .ref e0, .ref f0, .int an, .int ra])), (h0, .inr (1, [.ref q1, .ref q2, .ref q3, .ref q4, .int (nI n)]))] sz) (va_Qi (fun (r : Int32) (u : Unit) => r = 1) (fun (u : Unit) t => bc_B (dC, dI) classes [(cI, .int), (cZ, .boolean), (cL, .long)] (va_A [(b0, .inr (4, [.ref h0, .ref g0, .ref a0, .ref w0, .ref e0, .ref f0, .int an, .int ra])), (h0, .inr (1, [.ref q1, .ref q2, .ref q3, .ref q4, .int (nI n)]))] sz) [(b0, .inr (4, [.ref h0, .ref g0, .ref a0, .ref w0, .ref e0, .ref f0, .int an, .int ra])), (h0, .inr (1, [.ref q1, .ref q2, .ref q3, .ref q4, .int (nI n)]))] t) ((va_A [(b0, .inr (4, [.ref h0, .ref g0, .ref a0, .ref w0, .ref e0, .ref f0, .int an, .int ra])), (h0, .inr (1, [.ref q1, .ref q2, .ref q3, .ref q4, .int (nI n)]))] sz))) 1 6 (va_A [(b0, .inr (4, [.ref h0, .ref g0, .ref a0, .ref w0, .ref e0, .ref f0, .int an, .int ra])), (h0, .inr (1, [.ref q1, .ref q2, .ref q3, .ref q4, .int (nI n)]))] sz) := by
  refine bc_metW (fun A => va_Qi (fun (r : Int32) (u : Unit) => r = 1) (fun (u : Unit) t => bc_B (dC, dI) classes [(cI, .int), (cZ, .boolean), (cL, .long)] A [(b0, .inr (4, [.ref h0, .ref g0, .ref a0, .ref w0, .ref e0, .ref f0, .int an, .int ra])), (h0, .inr (1, [.ref q1, .ref q2, .ref q3, .ref q4, .int (nI n)]))] t) A) (by decide) (Nat.le_of_ble_eq_true rfl) ?_
  intro p e s m args below meth c A ls F3 hr hlocks hA hP hD hl hS hT9 htab
  have F : bc_Fx p m c by_L_constant 5 s args "BranchConstantsLaw" (dC, dI) classes [(cI, .int), (cZ, .boolean)] := ⟨F3.1, F3.2.1, F3.2.2.1, F3.2.2.2.1, F3.2.2.2.2.1, F3.2.2.2.2.2.1, va_K.sub F3.2.2.2.2.2.2 [0, 1] rfl⟩
  have hx := F.1
  have hb := F.2.1
  have hml := F.2.2.1
  have hown : s.vm.findClass "BranchConstantsLaw" = some m.cls := F.2.2.2.1
  have htw := F.2.2.2.2.1
  have hN := F.2.2.2.2.2.1
  have hK := F.2.2.2.2.2.2
  have hK3 := F3.2.2.2.2.2.2
  have hl : lv_has ls 5 [(0, .ref b0), (1, .int x), (2, .int y), (3, .ref o9)] := hl
  refine lv_aload_n hx hb de_L_constant_0 rfl (lv_at hl 3 rfl) ?_
  refine lv_iconst (v := 0) hx hb de_L_constant_1 (by decide) ?_
  refine lv_aload_n hx hb de_L_constant_2 rfl (lv_at hl 0 rfl) ?_
  refine lv_iload_n hx hb de_L_constant_3 rfl (lv_at hl 1 rfl) ?_
  refine lv_iload_n hx hb de_L_constant_4 rfl (lv_at hl 2 rfl) ?_
  refine bc_xcatch (As := [.int x, .int y]) (rest := [.int 0, .ref o9]) (pre := []) (post := []) (sp := 0) (ep := 10) (hp := 13) (ct := 21) F hT9 (cx_B_constanta hl0 hn hix) wm_305 wm_1 wm_302 wm_303 wm_304 0 rfl rfl pd_B_constant rfl rfl ⟨Nat.le_of_ble_eq_true rfl, Nat.le_of_ble_eq_true rfl⟩ hP (hD.weaken (fun _ _ _ _ => trivial)) [0, 1] rfl rfl rfl hl.1 rfl (Nat.le_of_ble_eq_true rfl) de_L_constant_5 ⟨Nat.le_of_ble_eq_true rfl, Nat.le_of_ble_eq_true rfl⟩ htab rfl (fun z hz => absurd hz List.not_mem_nil) (by decide) (by decide) wm_259 (List.mem_of_getElem? (i := 5) rfl) (fun q9 H hk hz => ?_)
  have hS : va_S A s.heap H [] := ⟨hz, fun q h1 _ => hk q h1, fun q hq => absurd hq List.not_mem_nil⟩
  have hP : va_P (dC, dI) classes [(b0, .inr (4, [.ref h0, .ref g0, .ref a0, .ref w0, .ref e0, .ref f0, .int an, .int ra])), (h0, .inr (1, [.ref q1, .ref q2, .ref q3, .ref q4, .int (nI n)]))] H := hP.kept (fun k x hx => hk x.1 ((hP k x hx).lt))
  refine lv_astore (lv' := [(4, .ref q9), (0, .ref b0), (1, .int x), (2, .int y), (3, .ref o9)]) hx hb de_L_constant_13 hl (by decide) rfl (fun ls hl => ?_)
  refine lv_iconst (v := 1) hx hb de_L_constant_15 (by decide) ?_
  exact bc_iret F3 hr hlocks (()) rfl hP hD hS de_L_constant_16

set_option maxHeartbeats 4000000 in
set_option maxRecDepth 100000 in
theorem co_L_constantxb {l : Launch} {dC : Nat → ClassId} {dI : Nat → Nat → Nat} {cI cZ cL : ClassId} {sz : Nat} (hl0 : l.stackTraces = false) {b0 h0 q1 q2 q3 q4 g0 a0 w0 e0 f0 n : Nat} {an ra : Int32} {o9 : Nat}  {j : Nat} {y : Int32} (hn : n ≤ 40) (hj : j < n) (hvx : ¬ bc_vr y) : Met l yn_L_constant (Cond.codeWith yn_L_constant by_L_constant 5 (some FieldType.int) [(0, 10, 13, 21)] :: wd_all) ({ frames := 8, cells := 1, slots := 6, locals := 125 } : Room) (bc_PreX (dC, dI) classes [(cI, .int), (cZ, .boolean), (cL, .long)] [.ref b0, .int (nI j), .int y, .ref o9] [(b0, .inr (4, [.ref h0, .ref g0, .ref a0, .ref w0, .ref e0, .ref f0, .int an, .int ra])), (h0, .inr (1, [.ref q1, .ref q2, .ref q3, .ref q4, .int (nI n)]))] sz) (va_Qi (fun (r : Int32) (u : Unit) => r = 1) (fun (u : Unit) t => bc_B (dC, dI) classes [(cI, .int), (cZ, .boolean), (cL, .long)] (va_A [(b0, .inr (4, [.ref h0, .ref g0, .ref a0, .ref w0, .ref e0, .ref f0, .int an, .int ra])), (h0, .inr (1, [.ref q1, .ref q2, .ref q3, .ref q4, .int (nI n)]))] sz) [(b0, .inr (4, [.ref h0, .ref g0, .ref a0, .ref w0, .ref e0, .ref f0, .int an, .int ra])), (h0, .inr (1, [.ref q1, .ref q2, .ref q3, .ref q4, .int (nI n)]))] t) ((va_A [(b0, .inr (4, [.ref h0, .ref g0, .ref a0, .ref w0, .ref e0, .ref f0, .int an, .int ra])), (h0, .inr (1, [.ref q1, .ref q2, .ref q3, .ref q4, .int (nI n)]))] sz))) 1 6 (va_A [(b0, .inr (4, [.ref h0, .ref g0, .ref a0, .ref w0, .ref e0, .ref f0, .int an, .int ra])), (h0, .inr (1, [.ref q1, .ref q2, .ref q3, .ref q4, .int (nI n)]))] sz) := by
  refine bc_metW (fun A => va_Qi (fun (r : Int32) (u : Unit) => r = 1) (fun (u : Unit) t => bc_B (dC, dI) classes [(cI, .int), (cZ, .boolean), (cL, .long)] A [(b0, .inr (4, [.ref h0, .ref g0, .ref a0, .ref w0, .ref e0, .ref f0, .int an, .int ra])), (h0, .inr (1, [.ref q1, .ref q2, .ref q3, .ref q4, .int (nI n)]))] t) A) (by decide) (Nat.le_of_ble_eq_true rfl) ?_
  intro p e s m args below meth c A ls F3 hr hlocks hA hP hD hl hS hT9 htab
  have F : bc_Fx p m c by_L_constant 5 s args "BranchConstantsLaw" (dC, dI) classes [(cI, .int), (cZ, .boolean)] := ⟨F3.1, F3.2.1, F3.2.2.1, F3.2.2.2.1, F3.2.2.2.2.1, F3.2.2.2.2.2.1, va_K.sub F3.2.2.2.2.2.2 [0, 1] rfl⟩
  have hx := F.1
  have hb := F.2.1
  have hml := F.2.2.1
  have hown : s.vm.findClass "BranchConstantsLaw" = some m.cls := F.2.2.2.1
  have htw := F.2.2.2.2.1
  have hN := F.2.2.2.2.2.1
  have hK := F.2.2.2.2.2.2
  have hK3 := F3.2.2.2.2.2.2
  have hl : lv_has ls 5 [(0, .ref b0), (1, .int (nI j)), (2, .int y), (3, .ref o9)] := hl
  refine lv_aload_n hx hb de_L_constant_0 rfl (lv_at hl 3 rfl) ?_
  refine lv_iconst (v := 0) hx hb de_L_constant_1 (by decide) ?_
  refine lv_aload_n hx hb de_L_constant_2 rfl (lv_at hl 0 rfl) ?_
  refine lv_iload_n hx hb de_L_constant_3 rfl (lv_at hl 1 rfl) ?_
  refine lv_iload_n hx hb de_L_constant_4 rfl (lv_at hl 2 rfl) ?_
  refine bc_xcatch (As := [.int (nI j), .int y]) (rest := [.int 0, .ref o9]) (pre := []) (post := []) (sp := 0) (ep := 10) (hp := 13) (ct := 21) F hT9 (cx_B_constantb hl0 hn hj hvx) wm_305 wm_1 wm_302 wm_303 wm_304 0 rfl rfl pd_B_constant rfl rfl ⟨Nat.le_of_ble_eq_true rfl, Nat.le_of_ble_eq_true rfl⟩ hP (hD.weaken (fun _ _ _ _ => trivial)) [0, 1] rfl rfl rfl hl.1 rfl (Nat.le_of_ble_eq_true rfl) de_L_constant_5 ⟨Nat.le_of_ble_eq_true rfl, Nat.le_of_ble_eq_true rfl⟩ htab rfl (fun z hz => absurd hz List.not_mem_nil) (by decide) (by decide) wm_259 (List.mem_of_getElem? (i := 5) rfl) (fun q9 H hk hz => ?_)
  have hS : va_S A s.heap H [] := ⟨hz, fun q h1 _ => hk q h1, fun q hq => absurd hq List.not_mem_nil⟩
  have hP : va_P (dC, dI) classes [(b0, .inr (4, [.ref h0, .ref g0, .ref a0, .ref w0, .ref e0, .ref f0, .int an, .int ra])), (h0, .inr (1, [.ref q1, .ref q2, .ref q3, .ref q4, .int (nI n)]))] H := hP.kept (fun k x hx => hk x.1 ((hP k x hx).lt))
  refine lv_astore (lv' := [(4, .ref q9), (0, .ref b0), (1, .int (nI j)), (2, .int y), (3, .ref o9)]) hx hb de_L_constant_13 hl (by decide) rfl (fun ls hl => ?_)
  refine lv_iconst (v := 1) hx hb de_L_constant_15 (by decide) ?_
  exact bc_iret F3 hr hlocks (()) rfl hP hD hS de_L_constant_16

set_option maxHeartbeats 4000000 in
set_option maxRecDepth 100000 in
theorem co_L_rewritex {l : Launch} {dC : Nat → ClassId} {dI : Nat → Nat → Nat} {cI cZ cL : ClassId} {sz : Nat} (hl0 : l.stackTraces = false) {b0 h0 q1 q2 q3 q4 g0 a0 w0 e0 f0 n : Nat} {an ra : Int32} {o9 : Nat}   (hn0 : n = 0) : Met l yn_L_rewrite (Cond.codeWith yn_L_rewrite by_L_rewrite 3 (some FieldType.int) [(0, 8, 11, 15)] :: wd_all) ({ frames := 7, cells := 1, slots := 6, locals := 102 } : Room) (bc_PreX (dC, dI) classes [(cI, .int), (cZ, .boolean), (cL, .long)] [.ref b0, .ref o9] [(b0, .inr (4, [.ref h0, .ref g0, .ref a0, .ref w0, .ref e0, .ref f0, .int an, .int ra])), (h0, .inr (1, [.ref q1, .ref q2, .ref q3, .ref q4, .int (nI n)]))] sz) (va_Qi (fun (r : Int32) (u : Unit) => r = 1) (fun (u : Unit) t => bc_B (dC, dI) classes [(cI, .int), (cZ, .boolean), (cL, .long)] (va_A [(b0, .inr (4, [.ref h0, .ref g0, .ref a0, .ref w0, .ref e0, .ref f0, .int an, .int ra])), (h0, .inr (1, [.ref q1, .ref q2, .ref q3, .ref q4, .int (nI n)]))] sz) [(b0, .inr (4, [.ref h0, .ref g0, .ref a0, .ref w0, .ref e0, .ref f0, .int an, .int ra])), (h0, .inr (1, [.ref q1, .ref q2, .ref q3, .ref q4, .int (nI n)]))] t) ((va_A [(b0, .inr (4, [.ref h0, .ref g0, .ref a0, .ref w0, .ref e0, .ref f0, .int an, .int ra])), (h0, .inr (1, [.ref q1, .ref q2, .ref q3, .ref q4, .int (nI n)]))] sz))) 1 6 (va_A [(b0, .inr (4, [.ref h0, .ref g0, .ref a0, .ref w0, .ref e0, .ref f0, .int an, .int ra])), (h0, .inr (1, [.ref q1, .ref q2, .ref q3, .ref q4, .int (nI n)]))] sz) := by
  refine bc_metW (fun A => va_Qi (fun (r : Int32) (u : Unit) => r = 1) (fun (u : Unit) t => bc_B (dC, dI) classes [(cI, .int), (cZ, .boolean), (cL, .long)] A [(b0, .inr (4, [.ref h0, .ref g0, .ref a0, .ref w0, .ref e0, .ref f0, .int an, .int ra])), (h0, .inr (1, [.ref q1, .ref q2, .ref q3, .ref q4, .int (nI n)]))] t) A) (by decide) (Nat.le_of_ble_eq_true rfl) ?_
  intro p e s m args below meth c A ls F3 hr hlocks hA hP hD hl hS hT9 htab
  have F : bc_Fx p m c by_L_rewrite 3 s args "BranchConstantsLaw" (dC, dI) classes [(cI, .int), (cZ, .boolean)] := ⟨F3.1, F3.2.1, F3.2.2.1, F3.2.2.2.1, F3.2.2.2.2.1, F3.2.2.2.2.2.1, va_K.sub F3.2.2.2.2.2.2 [0, 1] rfl⟩
  have hx := F.1
  have hb := F.2.1
  have hml := F.2.2.1
  have hown : s.vm.findClass "BranchConstantsLaw" = some m.cls := F.2.2.2.1
  have htw := F.2.2.2.2.1
  have hN := F.2.2.2.2.2.1
  have hK := F.2.2.2.2.2.2
  have hK3 := F3.2.2.2.2.2.2
  have hl : lv_has ls 3 [(0, .ref b0), (1, .ref o9)] := hl
  refine lv_aload_n hx hb de_L_rewrite_0 rfl (lv_at hl 1 rfl) ?_
  refine lv_iconst (v := 0) hx hb de_L_rewrite_1 (by decide) ?_
  refine lv_aload_n hx hb de_L_rewrite_2 rfl (lv_at hl 0 rfl) ?_
  refine bc_xcatch (As := []) (rest := [.int 0, .ref o9]) (pre := []) (post := []) (sp := 0) (ep := 8) (hp := 11) (ct := 15) F hT9 (cx_B_rewrite hl0 hn0) wm_312 wm_1 wm_309 wm_310 wm_311 0 rfl rfl pd_B_rewrite rfl rfl ⟨Nat.le_of_ble_eq_true rfl, Nat.le_of_ble_eq_true rfl⟩ hP (hD.weaken (fun _ _ _ _ => trivial)) [0, 1] rfl rfl rfl hl.1 rfl (Nat.le_of_ble_eq_true rfl) de_L_rewrite_3 ⟨Nat.le_of_ble_eq_true rfl, Nat.le_of_ble_eq_true rfl⟩ htab rfl (fun z hz => absurd hz List.not_mem_nil) (by decide) (by decide) wm_173 (List.mem_of_getElem? (i := 4) rfl) (fun q9 H hk hz => ?_)
  have hS : va_S A s.heap H [] := ⟨hz, fun q h1 _ => hk q h1, fun q hq => absurd hq List.not_mem_nil⟩
  have hP : va_P (dC, dI) classes [(b0, .inr (4, [.ref h0, .ref g0, .ref a0, .ref w0, .ref e0, .ref f0, .int an, .int ra])), (h0, .inr (1, [.ref q1, .ref q2, .ref q3, .ref q4, .int (nI n)]))] H := hP.kept (fun k x hx => hk x.1 ((hP k x hx).lt))
  refine lv_astore_n (lv' := [(2, .ref q9), (0, .ref b0), (1, .ref o9)]) hx hb de_L_rewrite_11 rfl hl (by decide) rfl (fun ls hl => ?_)
  refine lv_iconst (v := 1) hx hb de_L_rewrite_12 (by decide) ?_
  exact bc_iret F3 hr hlocks (()) rfl hP hD hS de_L_rewrite_13

set_option maxHeartbeats 4000000 in
set_option maxRecDepth 100000 in
theorem co_L_codexa {l : Launch} {dC : Nat → ClassId} {dI : Nat → Nat → Nat} {cI cZ cL : ClassId} {sz : Nat} (hl0 : l.stackTraces = false) {b0 h0 g0 a0 w0 e0 f0 : Nat} {an ra : Int32} {o9 : Nat}  {y z : Int32} (hra : ra = 0) : Met l yn_L_code (Cond.codeWith yn_L_code by_L_code 6 (some FieldType.int) [(0, 12, 15, 15), (0, 12, 19, 21)] :: wd_all) ({ frames := 8, cells := 1, slots := 6, locals := 127 } : Room) (bc_PreX (dC, dI) classes [(cI, .int), (cZ, .boolean), (cL, .long)] [.ref b0, .int 1, .int y, .int z, .ref o9] [(b0, .inr (4, [.ref h0, .ref g0, .ref a0, .ref w0, .ref e0, .ref f0, .int an, .int ra]))] sz) (va_Qi (fun (r : Int32) (u : Unit) => r = 1) (fun (u : Unit) t => bc_B (dC, dI) classes [(cI, .int), (cZ, .boolean), (cL, .long)] (va_A [(b0, .inr (4, [.ref h0, .ref g0, .ref a0, .ref w0, .ref e0, .ref f0, .int an, .int ra]))] sz) [(b0, .inr (4, [.ref h0, .ref g0, .ref a0, .ref w0, .ref e0, .ref f0, .int an, .int ra]))] t) ((va_A [(b0, .inr (4, [.ref h0, .ref g0, .ref a0, .ref w0, .ref e0, .ref f0, .int an, .int ra]))] sz))) 1 6 (va_A [(b0, .inr (4, [.ref h0, .ref g0, .ref a0, .ref w0, .ref e0, .ref f0, .int an, .int ra]))] sz) := by
  refine bc_metW (fun A => va_Qi (fun (r : Int32) (u : Unit) => r = 1) (fun (u : Unit) t => bc_B (dC, dI) classes [(cI, .int), (cZ, .boolean), (cL, .long)] A [(b0, .inr (4, [.ref h0, .ref g0, .ref a0, .ref w0, .ref e0, .ref f0, .int an, .int ra]))] t) A) (by decide) (Nat.le_of_ble_eq_true rfl) ?_
  intro p e s m args below meth c A ls F3 hr hlocks hA hP hD hl hS hT9 htab
  have F : bc_Fx p m c by_L_code 6 s args "BranchConstantsLaw" (dC, dI) classes [(cI, .int), (cZ, .boolean)] := ⟨F3.1, F3.2.1, F3.2.2.1, F3.2.2.2.1, F3.2.2.2.2.1, F3.2.2.2.2.2.1, va_K.sub F3.2.2.2.2.2.2 [0, 1] rfl⟩
  have hx := F.1
  have hb := F.2.1
  have hml := F.2.2.1
  have hown : s.vm.findClass "BranchConstantsLaw" = some m.cls := F.2.2.2.1
  have htw := F.2.2.2.2.1
  have hN := F.2.2.2.2.2.1
  have hK := F.2.2.2.2.2.2
  have hK3 := F3.2.2.2.2.2.2
  have hl : lv_has ls 6 [(0, .ref b0), (1, .int 1), (2, .int y), (3, .int z), (4, .ref o9)] := hl
  refine lv_aload hx hb de_L_code_0 (lv_at hl 4 rfl) ?_
  refine lv_iconst (v := 0) hx hb de_L_code_2 (by decide) ?_
  refine lv_aload_n hx hb de_L_code_3 rfl (lv_at hl 0 rfl) ?_
  refine lv_iload_n hx hb de_L_code_4 rfl (lv_at hl 1 rfl) ?_
  refine lv_iload_n hx hb de_L_code_5 rfl (lv_at hl 2 rfl) ?_
  refine lv_iload_n hx hb de_L_code_6 rfl (lv_at hl 3 rfl) ?_
  refine bc_xcatch (As := [.int 1, .int y, .int z]) (rest := [.int 0, .ref o9]) (pre := []) (post := [(0, 12, 19, 21)]) (sp := 0) (ep := 12) (hp := 15) (ct := 15) F hT9 (cx_B_codea hl0 hra) wm_350 wm_1 wm_347 wm_348 wm_349 0 rfl rfl pd_B_code rfl rfl ⟨Nat.le_of_ble_eq_true rfl, Nat.le_of_ble_eq_true rfl⟩ hP (hD.weaken (fun _ _ _ _ => trivial)) [0] rfl rfl rfl hl.1 rfl (Nat.le_of_ble_eq_true rfl) de_L_code_7 ⟨Nat.le_of_ble_eq_true rfl, Nat.le_of_ble_eq_true rfl⟩ htab rfl (fun z hz => absurd hz List.not_mem_nil) (by decide) (by decide) wm_173 (List.mem_of_getElem? (i := 4) rfl) (fun q9 H hk hz => ?_)
  have hS : va_S A s.heap H [] := ⟨hz, fun q h1 _ => hk q h1, fun q hq => absurd hq List.not_mem_nil⟩
  have hP : va_P (dC, dI) classes [(b0, .inr (4, [.ref h0, .ref g0, .ref a0, .ref w0, .ref e0, .ref f0, .int an, .int ra]))] H := hP.kept (fun k x hx => hk x.1 ((hP k x hx).lt))
  refine lv_astore (lv' := [(5, .ref q9), (0, .ref b0), (1, .int 1), (2, .int y), (3, .int z), (4, .ref o9)]) hx hb de_L_code_15 hl (by decide) rfl (fun ls hl => ?_)
  refine lv_iconst (v := 1) hx hb de_L_code_17 (by decide) ?_
  exact bc_iret F3 hr hlocks (()) rfl hP hD hS de_L_code_18

set_option maxHeartbeats 4000000 in
set_option maxRecDepth 100000 in
theorem co_L_codexb {l : Launch} {dC : Nat → ClassId} {dI : Nat → Nat → Nat} {cI cZ cL : ClassId} {sz : Nat} (hl0 : l.stackTraces = false) {b0 h0 g0 a0 w0 e0 f0 : Nat} {an ra : Int32} {o9 : Nat}  {x y z : Int32} (hsd : ¬ bc_sd x) : Met l yn_L_code (Cond.codeWith yn_L_code by_L_code 6 (some FieldType.int) [(0, 12, 15, 15), (0, 12, 19, 21)] :: wd_all) ({ frames := 8, cells := 1, slots := 6, locals := 127 } : Room) (bc_PreX (dC, dI) classes [(cI, .int), (cZ, .boolean), (cL, .long)] [.ref b0, .int x, .int y, .int z, .ref o9] [(b0, .inr (4, [.ref h0, .ref g0, .ref a0, .ref w0, .ref e0, .ref f0, .int an, .int ra]))] sz) (va_Qi (fun (r : Int32) (u : Unit) => r = 2) (fun (u : Unit) t => bc_B (dC, dI) classes [(cI, .int), (cZ, .boolean), (cL, .long)] (va_A [(b0, .inr (4, [.ref h0, .ref g0, .ref a0, .ref w0, .ref e0, .ref f0, .int an, .int ra]))] sz) [(b0, .inr (4, [.ref h0, .ref g0, .ref a0, .ref w0, .ref e0, .ref f0, .int an, .int ra]))] t) ((va_A [(b0, .inr (4, [.ref h0, .ref g0, .ref a0, .ref w0, .ref e0, .ref f0, .int an, .int ra]))] sz))) 1 6 (va_A [(b0, .inr (4, [.ref h0, .ref g0, .ref a0, .ref w0, .ref e0, .ref f0, .int an, .int ra]))] sz) := by
  refine bc_metW (fun A => va_Qi (fun (r : Int32) (u : Unit) => r = 2) (fun (u : Unit) t => bc_B (dC, dI) classes [(cI, .int), (cZ, .boolean), (cL, .long)] A [(b0, .inr (4, [.ref h0, .ref g0, .ref a0, .ref w0, .ref e0, .ref f0, .int an, .int ra]))] t) A) (by decide) (Nat.le_of_ble_eq_true rfl) ?_
  intro p e s m args below meth c A ls F3 hr hlocks hA hP hD hl hS hT9 htab
  have F : bc_Fx p m c by_L_code 6 s args "BranchConstantsLaw" (dC, dI) classes [(cI, .int), (cZ, .boolean)] := ⟨F3.1, F3.2.1, F3.2.2.1, F3.2.2.2.1, F3.2.2.2.2.1, F3.2.2.2.2.2.1, va_K.sub F3.2.2.2.2.2.2 [0, 1] rfl⟩
  have hx := F.1
  have hb := F.2.1
  have hml := F.2.2.1
  have hown : s.vm.findClass "BranchConstantsLaw" = some m.cls := F.2.2.2.1
  have htw := F.2.2.2.2.1
  have hN := F.2.2.2.2.2.1
  have hK := F.2.2.2.2.2.2
  have hK3 := F3.2.2.2.2.2.2
  have hl : lv_has ls 6 [(0, .ref b0), (1, .int x), (2, .int y), (3, .int z), (4, .ref o9)] := hl
  refine lv_aload hx hb de_L_code_0 (lv_at hl 4 rfl) ?_
  refine lv_iconst (v := 0) hx hb de_L_code_2 (by decide) ?_
  refine lv_aload_n hx hb de_L_code_3 rfl (lv_at hl 0 rfl) ?_
  refine lv_iload_n hx hb de_L_code_4 rfl (lv_at hl 1 rfl) ?_
  refine lv_iload_n hx hb de_L_code_5 rfl (lv_at hl 2 rfl) ?_
  refine lv_iload_n hx hb de_L_code_6 rfl (lv_at hl 3 rfl) ?_
  refine bc_xcatch (As := [.int x, .int y, .int z]) (rest := [.int 0, .ref o9]) (pre := [(0, 12, 15, 15)]) (post := []) (sp := 0) (ep := 12) (hp := 19) (ct := 21) F hT9 (cx_B_codeb hl0 hsd) wm_350 wm_1 wm_347 wm_348 wm_349 0 rfl rfl pd_B_code rfl rfl ⟨Nat.le_of_ble_eq_true rfl, Nat.le_of_ble_eq_true rfl⟩ hP (hD.weaken (fun _ _ _ _ => trivial)) [0] rfl rfl rfl hl.1 rfl (Nat.le_of_ble_eq_true rfl) de_L_code_7 ⟨Nat.le_of_ble_eq_true rfl, Nat.le_of_ble_eq_true rfl⟩ htab rfl (List.forall_mem_cons.mpr ⟨⟨"java/lang/IllegalStateException", by decide, wm_173, List.mem_of_getElem? (i := 11) rfl⟩, (fun z hz => absurd hz List.not_mem_nil)⟩) (by decide) (by decide) wm_259 (List.mem_of_getElem? (i := 5) rfl) (fun q9 H hk hz => ?_)
  have hS : va_S A s.heap H [] := ⟨hz, fun q h1 _ => hk q h1, fun q hq => absurd hq List.not_mem_nil⟩
  have hP : va_P (dC, dI) classes [(b0, .inr (4, [.ref h0, .ref g0, .ref a0, .ref w0, .ref e0, .ref f0, .int an, .int ra]))] H := hP.kept (fun k x hx => hk x.1 ((hP k x hx).lt))
  refine lv_astore (lv' := [(5, .ref q9), (0, .ref b0), (1, .int x), (2, .int y), (3, .int z), (4, .ref o9)]) hx hb de_L_code_19 hl (by decide) rfl (fun ls hl => ?_)
  refine lv_iconst (v := 2) hx hb de_L_code_21 (by decide) ?_
  exact bc_iret F3 hr hlocks (()) rfl hP hD hS de_L_code_22

set_option maxHeartbeats 4000000 in
set_option maxRecDepth 100000 in
theorem co_L_codexc0 {l : Launch} {dC : Nat → ClassId} {dI : Nat → Nat → Nat} {cI cZ cL : ClassId} {sz : Nat} (hl0 : l.stackTraces = false) {b0 h0 q1 q2 q3 q4 g0 a0 w0 e0 f0 n : Nat} {an ra : Int32} {o9 : Nat}  {y z : Int32} (hn : n ≤ 40) (hce : ¬ bc_ce n y z) : Met l yn_L_code (Cond.codeWith yn_L_code by_L_code 6 (some FieldType.int) [(0, 12, 15, 15), (0, 12, 19, 21)] :: wd_all) ({ frames := 8, cells := 1, slots := 6, locals := 127 } : Room) (bc_PreX (dC, dI) classes [(cI, .int), (cZ, .boolean), (cL, .long)] [.ref b0, .int 0, .int y, .int z, .ref o9] [(b0, .inr (4, [.ref h0, .ref g0, .ref a0, .ref w0, .ref e0, .ref f0, .int an, .int ra])), (h0, .inr (1, [.ref q1, .ref q2, .ref q3, .ref q4, .int (nI n)]))] sz) (va_Qi (fun (r : Int32) (u : Unit) => r = 2) (fun (u : Unit) t => bc_B (dC, dI) classes [(cI, .int), (cZ, .boolean), (cL, .long)] (va_A [(b0, .inr (4, [.ref h0, .ref g0, .ref a0, .ref w0, .ref e0, .ref f0, .int an, .int ra])), (h0, .inr (1, [.ref q1, .ref q2, .ref q3, .ref q4, .int (nI n)]))] sz) [(b0, .inr (4, [.ref h0, .ref g0, .ref a0, .ref w0, .ref e0, .ref f0, .int an, .int ra])), (h0, .inr (1, [.ref q1, .ref q2, .ref q3, .ref q4, .int (nI n)]))] t) ((va_A [(b0, .inr (4, [.ref h0, .ref g0, .ref a0, .ref w0, .ref e0, .ref f0, .int an, .int ra])), (h0, .inr (1, [.ref q1, .ref q2, .ref q3, .ref q4, .int (nI n)]))] sz))) 1 6 (va_A [(b0, .inr (4, [.ref h0, .ref g0, .ref a0, .ref w0, .ref e0, .ref f0, .int an, .int ra])), (h0, .inr (1, [.ref q1, .ref q2, .ref q3, .ref q4, .int (nI n)]))] sz) := by
  refine bc_metW (fun A => va_Qi (fun (r : Int32) (u : Unit) => r = 2) (fun (u : Unit) t => bc_B (dC, dI) classes [(cI, .int), (cZ, .boolean), (cL, .long)] A [(b0, .inr (4, [.ref h0, .ref g0, .ref a0, .ref w0, .ref e0, .ref f0, .int an, .int ra])), (h0, .inr (1, [.ref q1, .ref q2, .ref q3, .ref q4, .int (nI n)]))] t) A) (by decide) (Nat.le_of_ble_eq_true rfl) ?_
  intro p e s m args below meth c A ls F3 hr hlocks hA hP hD hl hS hT9 htab
  have F : bc_Fx p m c by_L_code 6 s args "BranchConstantsLaw" (dC, dI) classes [(cI, .int), (cZ, .boolean)] := ⟨F3.1, F3.2.1, F3.2.2.1, F3.2.2.2.1, F3.2.2.2.2.1, F3.2.2.2.2.2.1, va_K.sub F3.2.2.2.2.2.2 [0, 1] rfl⟩
  have hx := F.1
  have hb := F.2.1
  have hml := F.2.2.1
  have hown : s.vm.findClass "BranchConstantsLaw" = some m.cls := F.2.2.2.1
  have htw := F.2.2.2.2.1
  have hN := F.2.2.2.2.2.1
  have hK := F.2.2.2.2.2.2
  have hK3 := F3.2.2.2.2.2.2
  have hl : lv_has ls 6 [(0, .ref b0), (1, .int 0), (2, .int y), (3, .int z), (4, .ref o9)] := hl
  refine lv_aload hx hb de_L_code_0 (lv_at hl 4 rfl) ?_
  refine lv_iconst (v := 0) hx hb de_L_code_2 (by decide) ?_
  refine lv_aload_n hx hb de_L_code_3 rfl (lv_at hl 0 rfl) ?_
  refine lv_iload_n hx hb de_L_code_4 rfl (lv_at hl 1 rfl) ?_
  refine lv_iload_n hx hb de_L_code_5 rfl (lv_at hl 2 rfl) ?_
  refine lv_iload_n hx hb de_L_code_6 rfl (lv_at hl 3 rfl) ?_
  refine bc_xcatch (As := [.int 0, .int y, .int z]) (rest := [.int 0, .ref o9]) (pre := [(0, 12, 15, 15)]) (post := []) (sp := 0) (ep := 12) (hp := 19) (ct := 21) F hT9 (cx_B_codec0 hl0 hn hce) wm_350 wm_1 wm_347 wm_348 wm_349 0 rfl rfl pd_B_code rfl rfl ⟨Nat.le_of_ble_eq_true rfl, Nat.le_of_ble_eq_true rfl⟩ hP (hD.weaken (fun _ _ _ _ => trivial)) [0, 1] rfl rfl rfl hl.1 rfl (Nat.le_of_ble_eq_true rfl) de_L_code_7 ⟨Nat.le_of_ble_eq_true rfl, Nat.le_of_ble_eq_true rfl⟩ htab rfl (List.forall_mem_cons.mpr ⟨⟨"java/lang/IllegalStateException", by decide, wm_173, List.mem_of_getElem? (i := 11) rfl⟩, (fun z hz => absurd hz List.not_mem_nil)⟩) (by decide) (by decide) wm_259 (List.mem_of_getElem? (i := 5) rfl) (fun q9 H hk hz => ?_)
  have hS : va_S A s.heap H [] := ⟨hz, fun q h1 _ => hk q h1, fun q hq => absurd hq List.not_mem_nil⟩
  have hP : va_P (dC, dI) classes [(b0, .inr (4, [.ref h0, .ref g0, .ref a0, .ref w0, .ref e0, .ref f0, .int an, .int ra])), (h0, .inr (1, [.ref q1, .ref q2, .ref q3, .ref q4, .int (nI n)]))] H := hP.kept (fun k x hx => hk x.1 ((hP k x hx).lt))
  refine lv_astore (lv' := [(5, .ref q9), (0, .ref b0), (1, .int 0), (2, .int y), (3, .int z), (4, .ref o9)]) hx hb de_L_code_19 hl (by decide) rfl (fun ls hl => ?_)
  refine lv_iconst (v := 2) hx hb de_L_code_21 (by decide) ?_
  exact bc_iret F3 hr hlocks (()) rfl hP hD hS de_L_code_22

set_option maxHeartbeats 4000000 in
set_option maxRecDepth 100000 in
theorem co_L_codexc1 {l : Launch} {dC : Nat → ClassId} {dI : Nat → Nat → Nat} {cI cZ cL : ClassId} {sz : Nat} (hl0 : l.stackTraces = false) {b0 h0 g0 q5 q6 q7 q8 a0 w0 e0 f0 n2 : Nat} {an ra : Int32} {o9 : Nat}  {y z : Int32} (hra : ra ≠ 0) (hn : n2 ≤ 40) (hce : ¬ bc_ce n2 y z) : Met l yn_L_code (Cond.codeWith yn_L_code by_L_code 6 (some FieldType.int) [(0, 12, 15, 15), (0, 12, 19, 21)] :: wd_all) ({ frames := 8, cells := 1, slots := 6, locals := 127 } : Room) (bc_PreX (dC, dI) classes [(cI, .int), (cZ, .boolean), (cL, .long)] [.ref b0, .int 1, .int y, .int z, .ref o9] [(b0, .inr (4, [.ref h0, .ref g0, .ref a0, .ref w0, .ref e0, .ref f0, .int an, .int ra])), (g0, .inr (1, [.ref q5, .ref q6, .ref q7, .ref q8, .int (nI n2)]))] sz) (va_Qi (fun (r : Int32) (u : Unit) => r = 2) (fun (u : Unit) t => bc_B (dC, dI) classes [(cI, .int), (cZ, .boolean), (cL, .long)] (va_A [(b0, .inr (4, [.ref h0, .ref g0, .ref a0, .ref w0, .ref e0, .ref f0, .int an, .int ra])), (g0, .inr (1, [.ref q5, .ref q6, .ref q7, .ref q8, .int (nI n2)]))] sz) [(b0, .inr (4, [.ref h0, .ref g0, .ref a0, .ref w0, .ref e0, .ref f0, .int an, .int ra])), (g0, .inr (1, [.ref q5, .ref q6, .ref q7, .ref q8, .int (nI n2)]))] t) ((va_A [(b0, .inr (4, [.ref h0, .ref g0, .ref a0, .ref w0, .ref e0, .ref f0, .int an, .int ra])), (g0, .inr (1, [.ref q5, .ref q6, .ref q7, .ref q8, .int (nI n2)]))] sz))) 1 6 (va_A [(b0, .inr (4, [.ref h0, .ref g0, .ref a0, .ref w0, .ref e0, .ref f0, .int an, .int ra])), (g0, .inr (1, [.ref q5, .ref q6, .ref q7, .ref q8, .int (nI n2)]))] sz) := by
  refine bc_metW (fun A => va_Qi (fun (r : Int32) (u : Unit) => r = 2) (fun (u : Unit) t => bc_B (dC, dI) classes [(cI, .int), (cZ, .boolean), (cL, .long)] A [(b0, .inr (4, [.ref h0, .ref g0, .ref a0, .ref w0, .ref e0, .ref f0, .int an, .int ra])), (g0, .inr (1, [.ref q5, .ref q6, .ref q7, .ref q8, .int (nI n2)]))] t) A) (by decide) (Nat.le_of_ble_eq_true rfl) ?_
  intro p e s m args below meth c A ls F3 hr hlocks hA hP hD hl hS hT9 htab
  have F : bc_Fx p m c by_L_code 6 s args "BranchConstantsLaw" (dC, dI) classes [(cI, .int), (cZ, .boolean)] := ⟨F3.1, F3.2.1, F3.2.2.1, F3.2.2.2.1, F3.2.2.2.2.1, F3.2.2.2.2.2.1, va_K.sub F3.2.2.2.2.2.2 [0, 1] rfl⟩
  have hx := F.1
  have hb := F.2.1
  have hml := F.2.2.1
  have hown : s.vm.findClass "BranchConstantsLaw" = some m.cls := F.2.2.2.1
  have htw := F.2.2.2.2.1
  have hN := F.2.2.2.2.2.1
  have hK := F.2.2.2.2.2.2
  have hK3 := F3.2.2.2.2.2.2
  have hl : lv_has ls 6 [(0, .ref b0), (1, .int 1), (2, .int y), (3, .int z), (4, .ref o9)] := hl
  refine lv_aload hx hb de_L_code_0 (lv_at hl 4 rfl) ?_
  refine lv_iconst (v := 0) hx hb de_L_code_2 (by decide) ?_
  refine lv_aload_n hx hb de_L_code_3 rfl (lv_at hl 0 rfl) ?_
  refine lv_iload_n hx hb de_L_code_4 rfl (lv_at hl 1 rfl) ?_
  refine lv_iload_n hx hb de_L_code_5 rfl (lv_at hl 2 rfl) ?_
  refine lv_iload_n hx hb de_L_code_6 rfl (lv_at hl 3 rfl) ?_
  refine bc_xcatch (As := [.int 1, .int y, .int z]) (rest := [.int 0, .ref o9]) (pre := [(0, 12, 15, 15)]) (post := []) (sp := 0) (ep := 12) (hp := 19) (ct := 21) F hT9 (cx_B_codec1 hl0 hra hn hce) wm_350 wm_1 wm_347 wm_348 wm_349 0 rfl rfl pd_B_code rfl rfl ⟨Nat.le_of_ble_eq_true rfl, Nat.le_of_ble_eq_true rfl⟩ hP (hD.weaken (fun _ _ _ _ => trivial)) [0, 1] rfl rfl rfl hl.1 rfl (Nat.le_of_ble_eq_true rfl) de_L_code_7 ⟨Nat.le_of_ble_eq_true rfl, Nat.le_of_ble_eq_true rfl⟩ htab rfl (List.forall_mem_cons.mpr ⟨⟨"java/lang/IllegalStateException", by decide, wm_173, List.mem_of_getElem? (i := 11) rfl⟩, (fun z hz => absurd hz List.not_mem_nil)⟩) (by decide) (by decide) wm_259 (List.mem_of_getElem? (i := 5) rfl) (fun q9 H hk hz => ?_)
  have hS : va_S A s.heap H [] := ⟨hz, fun q h1 _ => hk q h1, fun q hq => absurd hq List.not_mem_nil⟩
  have hP : va_P (dC, dI) classes [(b0, .inr (4, [.ref h0, .ref g0, .ref a0, .ref w0, .ref e0, .ref f0, .int an, .int ra])), (g0, .inr (1, [.ref q5, .ref q6, .ref q7, .ref q8, .int (nI n2)]))] H := hP.kept (fun k x hx => hk x.1 ((hP k x hx).lt))
  refine lv_astore (lv' := [(5, .ref q9), (0, .ref b0), (1, .int 1), (2, .int y), (3, .int z), (4, .ref o9)]) hx hb de_L_code_19 hl (by decide) rfl (fun ls hl => ?_)
  refine lv_iconst (v := 2) hx hb de_L_code_21 (by decide) ?_
  exact bc_iret F3 hr hlocks (()) rfl hP hD hS de_L_code_22

set_option maxHeartbeats 4000000 in
set_option maxRecDepth 100000 in
theorem co_L_startxa {l : Launch} {dC : Nat → ClassId} {dI : Nat → Nat → Nat} {cI cZ cL : ClassId} {sz : Nat} (hl0 : l.stackTraces = false) {b0 h0 g0 a0 w0 e0 f0 : Nat} {an ra : Int32}  {x a1 b1 c1 d1 : Int32} (hsd : ¬ bc_sd x) : Met l yn_L_start (Cond.codeWith yn_L_start by_L_start 7 (some FieldType.int) [(0, 11, 14, 21), (0, 11, 18, 15)] :: wd_all) ({ frames := 8, cells := 1, slots := 6, locals := 128 } : Room) (bc_PreX (dC, dI) classes [(cI, .int), (cZ, .boolean), (cL, .long)] [.ref b0, .int x, .int a1, .int b1, .int c1, .int d1] [(b0, .inr (4, [.ref h0, .ref g0, .ref a0, .ref w0, .ref e0, .ref f0, .int an, .int ra]))] sz) (va_Qi (fun (r : Int32) (u : Unit) => r = 1) (fun (u : Unit) t => bc_B (dC, dI) classes [(cI, .int), (cZ, .boolean), (cL, .long)] (va_A [(b0, .inr (4, [.ref h0, .ref g0, .ref a0, .ref w0, .ref e0, .ref f0, .int an, .int ra]))] sz) [(b0, .inr (4, [.ref h0, .ref g0, .ref a0, .ref w0, .ref e0, .ref f0, .int an, .int ra]))] t) ((va_A [(b0, .inr (4, [.ref h0, .ref g0, .ref a0, .ref w0, .ref e0, .ref f0, .int an, .int ra]))] sz))) 1 6 (va_A [(b0, .inr (4, [.ref h0, .ref g0, .ref a0, .ref w0, .ref e0, .ref f0, .int an, .int ra]))] sz) := by
  refine bc_metW (fun A => va_Qi (fun (r : Int32) (u : Unit) => r = 1) (fun (u : Unit) t => bc_B (dC, dI) classes [(cI, .int), (cZ, .boolean), (cL, .long)] A [(b0, .inr (4, [.ref h0, .ref g0, .ref a0, .ref w0, .ref e0, .ref f0, .int an, .int ra]))] t) A) (by decide) (Nat.le_of_ble_eq_true rfl) ?_
  intro p e s m args below meth c A ls F3 hr hlocks hA hP hD hl hS hT9 htab
  have F : bc_Fx p m c by_L_start 7 s args "BranchConstantsLaw" (dC, dI) classes [(cI, .int), (cZ, .boolean)] := ⟨F3.1, F3.2.1, F3.2.2.1, F3.2.2.2.1, F3.2.2.2.2.1, F3.2.2.2.2.2.1, va_K.sub F3.2.2.2.2.2.2 [0, 1] rfl⟩
  have hx := F.1
  have hb := F.2.1
  have hml := F.2.2.1
  have hown : s.vm.findClass "BranchConstantsLaw" = some m.cls := F.2.2.2.1
  have htw := F.2.2.2.2.1
  have hN := F.2.2.2.2.2.1
  have hK := F.2.2.2.2.2.2
  have hK3 := F3.2.2.2.2.2.2
  have hl : lv_has ls 7 [(0, .ref b0), (1, .int x), (2, .int a1), (3, .int b1), (4, .int c1), (5, .int d1)] := hl
  refine lv_aload_n hx hb de_L_start_0 rfl (lv_at hl 0 rfl) ?_
  refine lv_iload_n hx hb de_L_start_1 rfl (lv_at hl 1 rfl) ?_
  refine lv_iload_n hx hb de_L_start_2 rfl (lv_at hl 2 rfl) ?_
  refine lv_iload_n hx hb de_L_start_3 rfl (lv_at hl 3 rfl) ?_
  refine lv_iload hx hb de_L_start_4 (lv_at hl 4 rfl) ?_
  refine lv_iload hx hb de_L_start_6 (lv_at hl 5 rfl) ?_
  refine bc_xcatch (As := [.int x, .int a1, .int b1, .int c1, .int d1]) (rest := []) (pre := []) (post := [(0, 11, 18, 15)]) (sp := 0) (ep := 11) (hp := 14) (ct := 21) F hT9 (cx_B_starta hl0 hsd) wm_368 wm_1 wm_365 wm_366 wm_367 0 rfl rfl pd_B_start rfl rfl ⟨Nat.le_of_ble_eq_true rfl, Nat.le_of_ble_eq_true rfl⟩ hP (hD.weaken (fun _ _ _ _ => trivial)) [0] rfl rfl rfl hl.1 rfl (Nat.le_of_ble_eq_true rfl) de_L_start_8 ⟨Nat.le_of_ble_eq_true rfl, Nat.le_of_ble_eq_true rfl⟩ htab rfl (fun z hz => absurd hz List.not_mem_nil) (by decide) (by decide) wm_259 (List.mem_of_getElem? (i := 5) rfl) (fun q9 H hk hz => ?_)
  have hS : va_S A s.heap H [] := ⟨hz, fun q h1 _ => hk q h1, fun q hq => absurd hq List.not_mem_nil⟩
  have hP : va_P (dC, dI) classes [(b0, .inr (4, [.ref h0, .ref g0, .ref a0, .ref w0, .ref e0, .ref f0, .int an, .int ra]))] H := hP.kept (fun k x hx => hk x.1 ((hP k x hx).lt))
  refine lv_astore (lv' := [(6, .ref q9), (0, .ref b0), (1, .int x), (2, .int a1), (3, .int b1), (4, .int c1), (5, .int d1)]) hx hb de_L_start_14 hl (by decide) rfl (fun ls hl => ?_)
  refine lv_iconst (v := 1) hx hb de_L_start_16 (by decide) ?_
  exact bc_iret F3 hr hlocks (()) rfl hP hD hS de_L_start_17

set_option maxHeartbeats 4000000 in
set_option maxRecDepth 100000 in
theorem co_L_startxb {l : Launch} {dC : Nat → ClassId} {dI : Nat → Nat → Nat} {cI cZ cL : ClassId} {sz : Nat} (hl0 : l.stackTraces = false) {b0 h0 g0 a0 w0 e0 f0 : Nat} {an ra : Int32}  {a1 b1 c1 d1 : Int32} (hra : ra = 0) : Met l yn_L_start (Cond.codeWith yn_L_start by_L_start 7 (some FieldType.int) [(0, 11, 14, 21), (0, 11, 18, 15)] :: wd_all) ({ frames := 8, cells := 1, slots := 6, locals := 128 } : Room) (bc_PreX (dC, dI) classes [(cI, .int), (cZ, .boolean), (cL, .long)] [.ref b0, .int 1, .int a1, .int b1, .int c1, .int d1] [(b0, .inr (4, [.ref h0, .ref g0, .ref a0, .ref w0, .ref e0, .ref f0, .int an, .int ra]))] sz) (va_Qi (fun (r : Int32) (u : Unit) => r = 2) (fun (u : Unit) t => bc_B (dC, dI) classes [(cI, .int), (cZ, .boolean), (cL, .long)] (va_A [(b0, .inr (4, [.ref h0, .ref g0, .ref a0, .ref w0, .ref e0, .ref f0, .int an, .int ra]))] sz) [(b0, .inr (4, [.ref h0, .ref g0, .ref a0, .ref w0, .ref e0, .ref f0, .int an, .int ra]))] t) ((va_A [(b0, .inr (4, [.ref h0, .ref g0, .ref a0, .ref w0, .ref e0, .ref f0, .int an, .int ra]))] sz))) 1 6 (va_A [(b0, .inr (4, [.ref h0, .ref g0, .ref a0, .ref w0, .ref e0, .ref f0, .int an, .int ra]))] sz) := by
  refine bc_metW (fun A => va_Qi (fun (r : Int32) (u : Unit) => r = 2) (fun (u : Unit) t => bc_B (dC, dI) classes [(cI, .int), (cZ, .boolean), (cL, .long)] A [(b0, .inr (4, [.ref h0, .ref g0, .ref a0, .ref w0, .ref e0, .ref f0, .int an, .int ra]))] t) A) (by decide) (Nat.le_of_ble_eq_true rfl) ?_
  intro p e s m args below meth c A ls F3 hr hlocks hA hP hD hl hS hT9 htab
  have F : bc_Fx p m c by_L_start 7 s args "BranchConstantsLaw" (dC, dI) classes [(cI, .int), (cZ, .boolean)] := ⟨F3.1, F3.2.1, F3.2.2.1, F3.2.2.2.1, F3.2.2.2.2.1, F3.2.2.2.2.2.1, va_K.sub F3.2.2.2.2.2.2 [0, 1] rfl⟩
  have hx := F.1
  have hb := F.2.1
  have hml := F.2.2.1
  have hown : s.vm.findClass "BranchConstantsLaw" = some m.cls := F.2.2.2.1
  have htw := F.2.2.2.2.1
  have hN := F.2.2.2.2.2.1
  have hK := F.2.2.2.2.2.2
  have hK3 := F3.2.2.2.2.2.2
  have hl : lv_has ls 7 [(0, .ref b0), (1, .int 1), (2, .int a1), (3, .int b1), (4, .int c1), (5, .int d1)] := hl
  refine lv_aload_n hx hb de_L_start_0 rfl (lv_at hl 0 rfl) ?_
  refine lv_iload_n hx hb de_L_start_1 rfl (lv_at hl 1 rfl) ?_
  refine lv_iload_n hx hb de_L_start_2 rfl (lv_at hl 2 rfl) ?_
  refine lv_iload_n hx hb de_L_start_3 rfl (lv_at hl 3 rfl) ?_
  refine lv_iload hx hb de_L_start_4 (lv_at hl 4 rfl) ?_
  refine lv_iload hx hb de_L_start_6 (lv_at hl 5 rfl) ?_
  refine bc_xcatch (As := [.int 1, .int a1, .int b1, .int c1, .int d1]) (rest := []) (pre := [(0, 11, 14, 21)]) (post := []) (sp := 0) (ep := 11) (hp := 18) (ct := 15) F hT9 (cx_B_startb hl0 hra) wm_368 wm_1 wm_365 wm_366 wm_367 0 rfl rfl pd_B_start rfl rfl ⟨Nat.le_of_ble_eq_true rfl, Nat.le_of_ble_eq_true rfl⟩ hP (hD.weaken (fun _ _ _ _ => trivial)) [0] rfl rfl rfl hl.1 rfl (Nat.le_of_ble_eq_true rfl) de_L_start_8 ⟨Nat.le_of_ble_eq_true rfl, Nat.le_of_ble_eq_true rfl⟩ htab rfl (List.forall_mem_cons.mpr ⟨⟨"java/lang/IndexOutOfBoundsException", by decide, wm_259, List.mem_of_getElem? (i := 9) rfl⟩, (fun z hz => absurd hz List.not_mem_nil)⟩) (by decide) (by decide) wm_173 (List.mem_of_getElem? (i := 4) rfl) (fun q9 H hk hz => ?_)
  have hS : va_S A s.heap H [] := ⟨hz, fun q h1 _ => hk q h1, fun q hq => absurd hq List.not_mem_nil⟩
  have hP : va_P (dC, dI) classes [(b0, .inr (4, [.ref h0, .ref g0, .ref a0, .ref w0, .ref e0, .ref f0, .int an, .int ra]))] H := hP.kept (fun k x hx => hk x.1 ((hP k x hx).lt))
  refine lv_astore (lv' := [(6, .ref q9), (0, .ref b0), (1, .int 1), (2, .int a1), (3, .int b1), (4, .int c1), (5, .int d1)]) hx hb de_L_start_18 hl (by decide) rfl (fun ls hl => ?_)
  refine lv_iconst (v := 2) hx hb de_L_start_20 (by decide) ?_
  exact bc_iret F3 hr hlocks (()) rfl hP hD hS de_L_start_21

set_option maxHeartbeats 4000000 in
set_option maxRecDepth 100000 in
theorem co_L_runxa {l : Launch} {dC : Nat → ClassId} {dI : Nat → Nat → Nat} {cI cZ cL : ClassId} {sz : Nat} (hl0 : l.stackTraces = false) {b0 h0 g0 a0 w0 e0 f0 : Nat} {an ra : Int32} {o9 : Nat}  {x mm : Int32} (hsd : ¬ bc_sd x) : Met l yn_L_run (Cond.codeWith yn_L_run by_L_run 5 (some FieldType.int) [(0, 10, 13, 21), (0, 10, 17, 13), (0, 10, 21, 15)] :: wd_all) ({ frames := 8, cells := 1, slots := 6, locals := 125 } : Room) (bc_PreX (dC, dI) classes [(cI, .int), (cZ, .boolean), (cL, .long)] [.ref b0, .int x, .int mm, .ref o9] [(b0, .inr (4, [.ref h0, .ref g0, .ref a0, .ref w0, .ref e0, .ref f0, .int an, .int ra]))] sz) (va_Qi (fun (r : Int32) (u : Unit) => r = 1) (fun (u : Unit) t => bc_B (dC, dI) classes [(cI, .int), (cZ, .boolean), (cL, .long)] (va_A [(b0, .inr (4, [.ref h0, .ref g0, .ref a0, .ref w0, .ref e0, .ref f0, .int an, .int ra]))] sz) [(b0, .inr (4, [.ref h0, .ref g0, .ref a0, .ref w0, .ref e0, .ref f0, .int an, .int ra]))] t) ((va_A [(b0, .inr (4, [.ref h0, .ref g0, .ref a0, .ref w0, .ref e0, .ref f0, .int an, .int ra]))] sz))) 1 6 (va_A [(b0, .inr (4, [.ref h0, .ref g0, .ref a0, .ref w0, .ref e0, .ref f0, .int an, .int ra]))] sz) := by
  refine bc_metW (fun A => va_Qi (fun (r : Int32) (u : Unit) => r = 1) (fun (u : Unit) t => bc_B (dC, dI) classes [(cI, .int), (cZ, .boolean), (cL, .long)] A [(b0, .inr (4, [.ref h0, .ref g0, .ref a0, .ref w0, .ref e0, .ref f0, .int an, .int ra]))] t) A) (by decide) (Nat.le_of_ble_eq_true rfl) ?_
  intro p e s m args below meth c A ls F3 hr hlocks hA hP hD hl hS hT9 htab
  have F : bc_Fx p m c by_L_run 5 s args "BranchConstantsLaw" (dC, dI) classes [(cI, .int), (cZ, .boolean)] := ⟨F3.1, F3.2.1, F3.2.2.1, F3.2.2.2.1, F3.2.2.2.2.1, F3.2.2.2.2.2.1, va_K.sub F3.2.2.2.2.2.2 [0, 1] rfl⟩
  have hx := F.1
  have hb := F.2.1
  have hml := F.2.2.1
  have hown : s.vm.findClass "BranchConstantsLaw" = some m.cls := F.2.2.2.1
  have htw := F.2.2.2.2.1
  have hN := F.2.2.2.2.2.1
  have hK := F.2.2.2.2.2.2
  have hK3 := F3.2.2.2.2.2.2
  have hl : lv_has ls 5 [(0, .ref b0), (1, .int x), (2, .int mm), (3, .ref o9)] := hl
  refine lv_aload_n hx hb de_L_run_0 rfl (lv_at hl 3 rfl) ?_
  refine lv_iconst (v := 0) hx hb de_L_run_1 (by decide) ?_
  refine lv_aload_n hx hb de_L_run_2 rfl (lv_at hl 0 rfl) ?_
  refine lv_iload_n hx hb de_L_run_3 rfl (lv_at hl 1 rfl) ?_
  refine lv_iload_n hx hb de_L_run_4 rfl (lv_at hl 2 rfl) ?_
  refine bc_xcatch (As := [.int x, .int mm]) (rest := [.int 0, .ref o9]) (pre := []) (post := [(0, 10, 17, 13), (0, 10, 21, 15)]) (sp := 0) (ep := 10) (hp := 13) (ct := 21) F hT9 (cx_B_runa hl0 hsd) wm_384 wm_1 wm_381 wm_382 wm_383 0 rfl rfl pd_B_run rfl rfl ⟨Nat.le_of_ble_eq_true rfl, Nat.le_of_ble_eq_true rfl⟩ hP (hD.weaken (fun _ _ _ _ => trivial)) [0] rfl rfl rfl hl.1 rfl (Nat.le_of_ble_eq_true rfl) de_L_run_5 ⟨Nat.le_of_ble_eq_true rfl, Nat.le_of_ble_eq_true rfl⟩ htab rfl (fun z hz => absurd hz List.not_mem_nil) (by decide) (by decide) wm_259 (List.mem_of_getElem? (i := 5) rfl) (fun q9 H hk hz => ?_)
  have hS : va_S A s.heap H [] := ⟨hz, fun q h1 _ => hk q h1, fun q hq => absurd hq List.not_mem_nil⟩
  have hP : va_P (dC, dI) classes [(b0, .inr (4, [.ref h0, .ref g0, .ref a0, .ref w0, .ref e0, .ref f0, .int an, .int ra]))] H := hP.kept (fun k x hx => hk x.1 ((hP k x hx).lt))
  refine lv_astore (lv' := [(4, .ref q9), (0, .ref b0), (1, .int x), (2, .int mm), (3, .ref o9)]) hx hb de_L_run_13 hl (by decide) rfl (fun ls hl => ?_)
  refine lv_iconst (v := 1) hx hb de_L_run_15 (by decide) ?_
  exact bc_iret F3 hr hlocks (()) rfl hP hD hS de_L_run_16

set_option maxHeartbeats 4000000 in
set_option maxRecDepth 100000 in
theorem co_L_placexa {l : Launch} {dC : Nat → ClassId} {dI : Nat → Nat → Nat} {cI cZ cL : ClassId} {sz : Nat} (hl0 : l.stackTraces = false) {b0 h0 g0 a0 w0 e0 f0 : Nat} {an ra : Int32} {o9 : Nat}  {x : Int32} (hsd : ¬ bc_sd x) : Met l yn_L_place (Cond.codeWith yn_L_place by_L_place 4 (some FieldType.int) [(0, 9, 12, 21), (0, 9, 15, 15)] :: wd_all) ({ frames := 8, cells := 1, slots := 6, locals := 124 } : Room) (bc_PreX (dC, dI) classes [(cI, .int), (cZ, .boolean), (cL, .long)] [.ref b0, .int x, .ref o9] [(b0, .inr (4, [.ref h0, .ref g0, .ref a0, .ref w0, .ref e0, .ref f0, .int an, .int ra]))] sz) (va_Qi (fun (r : Int32) (u : Unit) => r = 1) (fun (u : Unit) t => bc_B (dC, dI) classes [(cI, .int), (cZ, .boolean), (cL, .long)] (va_A [(b0, .inr (4, [.ref h0, .ref g0, .ref a0, .ref w0, .ref e0, .ref f0, .int an, .int ra]))] sz) [(b0, .inr (4, [.ref h0, .ref g0, .ref a0, .ref w0, .ref e0, .ref f0, .int an, .int ra]))] t) ((va_A [(b0, .inr (4, [.ref h0, .ref g0, .ref a0, .ref w0, .ref e0, .ref f0, .int an, .int ra]))] sz))) 1 6 (va_A [(b0, .inr (4, [.ref h0, .ref g0, .ref a0, .ref w0, .ref e0, .ref f0, .int an, .int ra]))] sz) := by
  refine bc_metW (fun A => va_Qi (fun (r : Int32) (u : Unit) => r = 1) (fun (u : Unit) t => bc_B (dC, dI) classes [(cI, .int), (cZ, .boolean), (cL, .long)] A [(b0, .inr (4, [.ref h0, .ref g0, .ref a0, .ref w0, .ref e0, .ref f0, .int an, .int ra]))] t) A) (by decide) (Nat.le_of_ble_eq_true rfl) ?_
  intro p e s m args below meth c A ls F3 hr hlocks hA hP hD hl hS hT9 htab
  have F : bc_Fx p m c by_L_place 4 s args "BranchConstantsLaw" (dC, dI) classes [(cI, .int), (cZ, .boolean)] := ⟨F3.1, F3.2.1, F3.2.2.1, F3.2.2.2.1, F3.2.2.2.2.1, F3.2.2.2.2.2.1, va_K.sub F3.2.2.2.2.2.2 [0, 1] rfl⟩
  have hx := F.1
  have hb := F.2.1
  have hml := F.2.2.1
  have hown : s.vm.findClass "BranchConstantsLaw" = some m.cls := F.2.2.2.1
  have htw := F.2.2.2.2.1
  have hN := F.2.2.2.2.2.1
  have hK := F.2.2.2.2.2.2
  have hK3 := F3.2.2.2.2.2.2
  have hl : lv_has ls 4 [(0, .ref b0), (1, .int x), (2, .ref o9)] := hl
  refine lv_aload_n hx hb de_L_place_0 rfl (lv_at hl 2 rfl) ?_
  refine lv_iconst (v := 0) hx hb de_L_place_1 (by decide) ?_
  refine lv_aload_n hx hb de_L_place_2 rfl (lv_at hl 0 rfl) ?_
  refine lv_iload_n hx hb de_L_place_3 rfl (lv_at hl 1 rfl) ?_
  refine bc_xcatch (As := [.int x]) (rest := [.int 0, .ref o9]) (pre := []) (post := [(0, 9, 15, 15)]) (sp := 0) (ep := 9) (hp := 12) (ct := 21) F hT9 (cx_B_placea hl0 hsd) wm_402 wm_1 wm_399 wm_400 wm_401 0 rfl rfl pd_B_place rfl rfl ⟨Nat.le_of_ble_eq_true rfl, Nat.le_of_ble_eq_true rfl⟩ hP (hD.weaken (fun _ _ _ _ => trivial)) [0] rfl rfl rfl hl.1 rfl (Nat.le_of_ble_eq_true rfl) de_L_place_4 ⟨Nat.le_of_ble_eq_true rfl, Nat.le_of_ble_eq_true rfl⟩ htab rfl (fun z hz => absurd hz List.not_mem_nil) (by decide) (by decide) wm_259 (List.mem_of_getElem? (i := 5) rfl) (fun q9 H hk hz => ?_)
  have hS : va_S A s.heap H [] := ⟨hz, fun q h1 _ => hk q h1, fun q hq => absurd hq List.not_mem_nil⟩
  have hP : va_P (dC, dI) classes [(b0, .inr (4, [.ref h0, .ref g0, .ref a0, .ref w0, .ref e0, .ref f0, .int an, .int ra]))] H := hP.kept (fun k x hx => hk x.1 ((hP k x hx).lt))
  refine lv_astore_n (lv' := [(3, .ref q9), (0, .ref b0), (1, .int x), (2, .ref o9)]) hx hb de_L_place_12 rfl hl (by decide) rfl (fun ls hl => ?_)
  refine lv_iconst (v := 1) hx hb de_L_place_13 (by decide) ?_
  exact bc_iret F3 hr hlocks (()) rfl hP hD hS de_L_place_14

set_option maxHeartbeats 4000000 in
set_option maxRecDepth 100000 in
theorem co_L_stepsxa {l : Launch} {dC : Nat → ClassId} {dI : Nat → Nat → Nat} {cI cZ cL : ClassId} {sz : Nat} (hl0 : l.stackTraces = false) {b0 h0 g0 a0 w0 e0 f0 : Nat} {an ra : Int32} {o9 : Nat}  {x : Int32} (hsd : ¬ bc_sd x) : Met l yn_L_steps (Cond.codeWith yn_L_steps by_L_steps 4 (some FieldType.int) [(0, 9, 12, 21), (0, 9, 15, 15)] :: wd_all) ({ frames := 8, cells := 1, slots := 6, locals := 124 } : Room) (bc_PreX (dC, dI) classes [(cI, .int), (cZ, .boolean), (cL, .long)] [.ref b0, .int x, .ref o9] [(b0, .inr (4, [.ref h0, .ref g0, .ref a0, .ref w0, .ref e0, .ref f0, .int an, .int ra]))] sz) (va_Qi (fun (r : Int32) (u : Unit) => r = 1) (fun (u : Unit) t => bc_B (dC, dI) classes [(cI, .int), (cZ, .boolean), (cL, .long)] (va_A [(b0, .inr (4, [.ref h0, .ref g0, .ref a0, .ref w0, .ref e0, .ref f0, .int an, .int ra]))] sz) [(b0, .inr (4, [.ref h0, .ref g0, .ref a0, .ref w0, .ref e0, .ref f0, .int an, .int ra]))] t) ((va_A [(b0, .inr (4, [.ref h0, .ref g0, .ref a0, .ref w0, .ref e0, .ref f0, .int an, .int ra]))] sz))) 1 6 (va_A [(b0, .inr (4, [.ref h0, .ref g0, .ref a0, .ref w0, .ref e0, .ref f0, .int an, .int ra]))] sz) := by
  refine bc_metW (fun A => va_Qi (fun (r : Int32) (u : Unit) => r = 1) (fun (u : Unit) t => bc_B (dC, dI) classes [(cI, .int), (cZ, .boolean), (cL, .long)] A [(b0, .inr (4, [.ref h0, .ref g0, .ref a0, .ref w0, .ref e0, .ref f0, .int an, .int ra]))] t) A) (by decide) (Nat.le_of_ble_eq_true rfl) ?_
  intro p e s m args below meth c A ls F3 hr hlocks hA hP hD hl hS hT9 htab
  have F : bc_Fx p m c by_L_steps 4 s args "BranchConstantsLaw" (dC, dI) classes [(cI, .int), (cZ, .boolean)] := ⟨F3.1, F3.2.1, F3.2.2.1, F3.2.2.2.1, F3.2.2.2.2.1, F3.2.2.2.2.2.1, va_K.sub F3.2.2.2.2.2.2 [0, 1] rfl⟩
  have hx := F.1
  have hb := F.2.1
  have hml := F.2.2.1
  have hown : s.vm.findClass "BranchConstantsLaw" = some m.cls := F.2.2.2.1
  have htw := F.2.2.2.2.1
  have hN := F.2.2.2.2.2.1
  have hK := F.2.2.2.2.2.2
  have hK3 := F3.2.2.2.2.2.2
  have hl : lv_has ls 4 [(0, .ref b0), (1, .int x), (2, .ref o9)] := hl
  refine lv_aload_n hx hb de_L_steps_0 rfl (lv_at hl 2 rfl) ?_
  refine lv_iconst (v := 0) hx hb de_L_steps_1 (by decide) ?_
  refine lv_aload_n hx hb de_L_steps_2 rfl (lv_at hl 0 rfl) ?_
  refine lv_iload_n hx hb de_L_steps_3 rfl (lv_at hl 1 rfl) ?_
  refine bc_xcatch (As := [.int x]) (rest := [.int 0, .ref o9]) (pre := []) (post := [(0, 9, 15, 15)]) (sp := 0) (ep := 9) (hp := 12) (ct := 21) F hT9 (cx_B_stepsa hl0 hsd) wm_416 wm_1 wm_413 wm_414 wm_415 0 rfl rfl pd_B_steps rfl rfl ⟨Nat.le_of_ble_eq_true rfl, Nat.le_of_ble_eq_true rfl⟩ hP (hD.weaken (fun _ _ _ _ => trivial)) [0] rfl rfl rfl hl.1 rfl (Nat.le_of_ble_eq_true rfl) de_L_steps_4 ⟨Nat.le_of_ble_eq_true rfl, Nat.le_of_ble_eq_true rfl⟩ htab rfl (fun z hz => absurd hz List.not_mem_nil) (by decide) (by decide) wm_259 (List.mem_of_getElem? (i := 5) rfl) (fun q9 H hk hz => ?_)
  have hS : va_S A s.heap H [] := ⟨hz, fun q h1 _ => hk q h1, fun q hq => absurd hq List.not_mem_nil⟩
  have hP : va_P (dC, dI) classes [(b0, .inr (4, [.ref h0, .ref g0, .ref a0, .ref w0, .ref e0, .ref f0, .int an, .int ra]))] H := hP.kept (fun k x hx => hk x.1 ((hP k x hx).lt))
  refine lv_astore_n (lv' := [(3, .ref q9), (0, .ref b0), (1, .int x), (2, .ref o9)]) hx hb de_L_steps_12 rfl hl (by decide) rfl (fun ls hl => ?_)
  refine lv_iconst (v := 1) hx hb de_L_steps_13 (by decide) ?_
  exact bc_iret F3 hr hlocks (()) rfl hP hD hS de_L_steps_14

set_option maxHeartbeats 4000000 in
set_option maxRecDepth 100000 in
theorem co_L_valuexa {l : Launch} {dC : Nat → ClassId} {dI : Nat → Nat → Nat} {cI cZ cL : ClassId} {sz : Nat} (hl0 : l.stackTraces = false) {b0 h0 g0 a0 w0 e0 f0 : Nat} {an ra : Int32} {o9 : Nat}  {x y : Int32} (hsd : ¬ bc_sd x) : Met l yn_L_value (Cond.codeWith yn_L_value by_L_value 5 (some FieldType.int) [(0, 10, 13, 21), (0, 10, 17, 15)] :: wd_all) ({ frames := 8, cells := 1, slots := 6, locals := 125 } : Room) (bc_PreX (dC, dI) classes [(cI, .int), (cZ, .boolean), (cL, .long)] [.ref b0, .int x, .int y, .ref o9] [(b0, .inr (4, [.ref h0, .ref g0, .ref a0, .ref w0, .ref e0, .ref f0, .int an, .int ra]))] sz) (va_Qi (fun (r : Int32) (u : Unit) => r = 1) (fun (u : Unit) t => bc_B (dC, dI) classes [(cI, .int), (cZ, .boolean), (cL, .long)] (va_A [(b0, .inr (4, [.ref h0, .ref g0, .ref a0, .ref w0, .ref e0, .ref f0, .int an, .int ra]))] sz) [(b0, .inr (4, [.ref h0, .ref g0, .ref a0, .ref w0, .ref e0, .ref f0, .int an, .int ra]))] t) ((va_A [(b0, .inr (4, [.ref h0, .ref g0, .ref a0, .ref w0, .ref e0, .ref f0, .int an, .int ra]))] sz))) 1 6 (va_A [(b0, .inr (4, [.ref h0, .ref g0, .ref a0, .ref w0, .ref e0, .ref f0, .int an, .int ra]))] sz) := by
  refine bc_metW (fun A => va_Qi (fun (r : Int32) (u : Unit) => r = 1) (fun (u : Unit) t => bc_B (dC, dI) classes [(cI, .int), (cZ, .boolean), (cL, .long)] A [(b0, .inr (4, [.ref h0, .ref g0, .ref a0, .ref w0, .ref e0, .ref f0, .int an, .int ra]))] t) A) (by decide) (Nat.le_of_ble_eq_true rfl) ?_
  intro p e s m args below meth c A ls F3 hr hlocks hA hP hD hl hS hT9 htab
  have F : bc_Fx p m c by_L_value 5 s args "BranchConstantsLaw" (dC, dI) classes [(cI, .int), (cZ, .boolean)] := ⟨F3.1, F3.2.1, F3.2.2.1, F3.2.2.2.1, F3.2.2.2.2.1, F3.2.2.2.2.2.1, va_K.sub F3.2.2.2.2.2.2 [0, 1] rfl⟩
  have hx := F.1
  have hb := F.2.1
  have hml := F.2.2.1
  have hown : s.vm.findClass "BranchConstantsLaw" = some m.cls := F.2.2.2.1
  have htw := F.2.2.2.2.1
  have hN := F.2.2.2.2.2.1
  have hK := F.2.2.2.2.2.2
  have hK3 := F3.2.2.2.2.2.2
  have hl : lv_has ls 5 [(0, .ref b0), (1, .int x), (2, .int y), (3, .ref o9)] := hl
  refine lv_aload_n hx hb de_L_value_0 rfl (lv_at hl 3 rfl) ?_
  refine lv_iconst (v := 0) hx hb de_L_value_1 (by decide) ?_
  refine lv_aload_n hx hb de_L_value_2 rfl (lv_at hl 0 rfl) ?_
  refine lv_iload_n hx hb de_L_value_3 rfl (lv_at hl 1 rfl) ?_
  refine lv_iload_n hx hb de_L_value_4 rfl (lv_at hl 2 rfl) ?_
  refine bc_xcatch (As := [.int x, .int y]) (rest := [.int 0, .ref o9]) (pre := []) (post := [(0, 10, 17, 15)]) (sp := 0) (ep := 10) (hp := 13) (ct := 21) F hT9 (cx_B_valuea hl0 hsd) wm_409 wm_1 wm_406 wm_407 wm_408 0 rfl rfl pd_B_value rfl rfl ⟨Nat.le_of_ble_eq_true rfl, Nat.le_of_ble_eq_true rfl⟩ hP (hD.weaken (fun _ _ _ _ => trivial)) [0] rfl rfl rfl hl.1 rfl (Nat.le_of_ble_eq_true rfl) de_L_value_5 ⟨Nat.le_of_ble_eq_true rfl, Nat.le_of_ble_eq_true rfl⟩ htab rfl (fun z hz => absurd hz List.not_mem_nil) (by decide) (by decide) wm_259 (List.mem_of_getElem? (i := 5) rfl) (fun q9 H hk hz => ?_)
  have hS : va_S A s.heap H [] := ⟨hz, fun q h1 _ => hk q h1, fun q hq => absurd hq List.not_mem_nil⟩
  have hP : va_P (dC, dI) classes [(b0, .inr (4, [.ref h0, .ref g0, .ref a0, .ref w0, .ref e0, .ref f0, .int an, .int ra]))] H := hP.kept (fun k x hx => hk x.1 ((hP k x hx).lt))
  refine lv_astore (lv' := [(4, .ref q9), (0, .ref b0), (1, .int x), (2, .int y), (3, .ref o9)]) hx hb de_L_value_13 hl (by decide) rfl (fun ls hl => ?_)
  refine lv_iconst (v := 1) hx hb de_L_value_15 (by decide) ?_
  exact bc_iret F3 hr hlocks (()) rfl hP hD hS de_L_value_16

set_option maxHeartbeats 4000000 in
set_option maxRecDepth 100000 in
theorem co_L_runxb0 {l : Launch} {dC : Nat → ClassId} {dI : Nat → Nat → Nat} {cI cZ cL : ClassId} {sz : Nat} (hl0 : l.stackTraces = false) {b0 h0 g0 a0 w0 e0 f0 : Nat} {an ra : Int32} {o9 : Nat}  {mm : Int32} (hmx : ¬ bc_mx mm) : Met l yn_L_run (Cond.codeWith yn_L_run by_L_run 5 (some FieldType.int) [(0, 10, 13, 21), (0, 10, 17, 13), (0, 10, 21, 15)] :: wd_all) ({ frames := 8, cells := 1, slots := 6, locals := 125 } : Room) (bc_PreX (dC, dI) classes [(cI, .int), (cZ, .boolean), (cL, .long)] [.ref b0, .int 0, .int mm, .ref o9] [(b0, .inr (4, [.ref h0, .ref g0, .ref a0, .ref w0, .ref e0, .ref f0, .int an, .int ra]))] sz) (va_Qi (fun (r : Int32) (u : Unit) => r = 2) (fun (u : Unit) t => bc_B (dC, dI) classes [(cI, .int), (cZ, .boolean), (cL, .long)] (va_A [(b0, .inr (4, [.ref h0, .ref g0, .ref a0, .ref w0, .ref e0, .ref f0, .int an, .int ra]))] sz) [(b0, .inr (4, [.ref h0, .ref g0, .ref a0, .ref w0, .ref e0, .ref f0, .int an, .int ra]))] t) ((va_A [(b0, .inr (4, [.ref h0, .ref g0, .ref a0, .ref w0, .ref e0, .ref f0, .int an, .int ra]))] sz))) 1 6 (va_A [(b0, .inr (4, [.ref h0, .ref g0, .ref a0, .ref w0, .ref e0, .ref f0, .int an, .int ra]))] sz) := by
  refine bc_metW (fun A => va_Qi (fun (r : Int32) (u : Unit) => r = 2) (fun (u : Unit) t => bc_B (dC, dI) classes [(cI, .int), (cZ, .boolean), (cL, .long)] A [(b0, .inr (4, [.ref h0, .ref g0, .ref a0, .ref w0, .ref e0, .ref f0, .int an, .int ra]))] t) A) (by decide) (Nat.le_of_ble_eq_true rfl) ?_
  intro p e s m args below meth c A ls F3 hr hlocks hA hP hD hl hS hT9 htab
  have F : bc_Fx p m c by_L_run 5 s args "BranchConstantsLaw" (dC, dI) classes [(cI, .int), (cZ, .boolean)] := ⟨F3.1, F3.2.1, F3.2.2.1, F3.2.2.2.1, F3.2.2.2.2.1, F3.2.2.2.2.2.1, va_K.sub F3.2.2.2.2.2.2 [0, 1] rfl⟩
  have hx := F.1
  have hb := F.2.1
  have hml := F.2.2.1
  have hown : s.vm.findClass "BranchConstantsLaw" = some m.cls := F.2.2.2.1
  have htw := F.2.2.2.2.1
  have hN := F.2.2.2.2.2.1
  have hK := F.2.2.2.2.2.2
  have hK3 := F3.2.2.2.2.2.2
  have hl : lv_has ls 5 [(0, .ref b0), (1, .int 0), (2, .int mm), (3, .ref o9)] := hl
  refine lv_aload_n hx hb de_L_run_0 rfl (lv_at hl 3 rfl) ?_
  refine lv_iconst (v := 0) hx hb de_L_run_1 (by decide) ?_
  refine lv_aload_n hx hb de_L_run_2 rfl (lv_at hl 0 rfl) ?_
  refine lv_iload_n hx hb de_L_run_3 rfl (lv_at hl 1 rfl) ?_
  refine lv_iload_n hx hb de_L_run_4 rfl (lv_at hl 2 rfl) ?_
  refine bc_xcatch (As := [.int 0, .int mm]) (rest := [.int 0, .ref o9]) (pre := [(0, 10, 13, 21)]) (post := [(0, 10, 21, 15)]) (sp := 0) (ep := 10) (hp := 17) (ct := 13) F hT9 (cx_B_runb0 hl0 hmx) wm_384 wm_1 wm_381 wm_382 wm_383 0 rfl rfl pd_B_run rfl rfl ⟨Nat.le_of_ble_eq_true rfl, Nat.le_of_ble_eq_true rfl⟩ hP (hD.weaken (fun _ _ _ _ => trivial)) [0] rfl rfl rfl hl.1 rfl (Nat.le_of_ble_eq_true rfl) de_L_run_5 ⟨Nat.le_of_ble_eq_true rfl, Nat.le_of_ble_eq_true rfl⟩ htab rfl (List.forall_mem_cons.mpr ⟨⟨"java/lang/IndexOutOfBoundsException", by decide, wm_259, List.mem_of_getElem? (i := 7) rfl⟩, (fun z hz => absurd hz List.not_mem_nil)⟩) (by decide) (by decide) wm_172 (List.mem_of_getElem? (i := 3) rfl) (fun q9 H hk hz => ?_)
  have hS : va_S A s.heap H [] := ⟨hz, fun q h1 _ => hk q h1, fun q hq => absurd hq List.not_mem_nil⟩
  have hP : va_P (dC, dI) classes [(b0, .inr (4, [.ref h0, .ref g0, .ref a0, .ref w0, .ref e0, .ref f0, .int an, .int ra]))] H := hP.kept (fun k x hx => hk x.1 ((hP k x hx).lt))
  refine lv_astore (lv' := [(4, .ref q9), (0, .ref b0), (1, .int 0), (2, .int mm), (3, .ref o9)]) hx hb de_L_run_17 hl (by decide) rfl (fun ls hl => ?_)
  refine lv_iconst (v := 2) hx hb de_L_run_19 (by decide) ?_
  exact bc_iret F3 hr hlocks (()) rfl hP hD hS de_L_run_20

set_option maxHeartbeats 4000000 in
set_option maxRecDepth 100000 in
theorem co_L_runxc0 {l : Launch} {dC : Nat → ClassId} {dI : Nat → Nat → Nat} {cI cZ cL : ClassId} {sz : Nat} (hl0 : l.stackTraces = false) {b0 h0 g0 a0 w0 e0 v1 f0 : Nat} {an ra pl0 sp0 on0 : Int32} {o9 : Nat}  {mx : Nat} (hmx : mx ≤ 10000) (hon : on0 = 0) : Met l yn_L_run (Cond.codeWith yn_L_run by_L_run 5 (some FieldType.int) [(0, 10, 13, 21), (0, 10, 17, 13), (0, 10, 21, 15)] :: wd_all) ({ frames := 8, cells := 1, slots := 6, locals := 125 } : Room) (bc_PreX (dC, dI) classes [(cI, .int), (cZ, .boolean), (cL, .long)] [.ref b0, .int 0, .int (nI mx), .ref o9] [(b0, .inr (4, [.ref h0, .ref g0, .ref a0, .ref w0, .ref e0, .ref f0, .int an, .int ra])), (e0, .inr (2, [.ref v1, .int pl0, .int sp0, .int on0]))] sz) (va_Qi (fun (r : Int32) (u : Unit) => r = 3) (fun (u : Unit) t => bc_B (dC, dI) classes [(cI, .int), (cZ, .boolean), (cL, .long)] (va_A [(b0, .inr (4, [.ref h0, .ref g0, .ref a0, .ref w0, .ref e0, .ref f0, .int an, .int ra])), (e0, .inr (2, [.ref v1, .int pl0, .int sp0, .int on0]))] sz) [(b0, .inr (4, [.ref h0, .ref g0, .ref a0, .ref w0, .ref e0, .ref f0, .int an, .int ra])), (e0, .inr (2, [.ref v1, .int pl0, .int sp0, .int on0]))] t) ((va_A [(b0, .inr (4, [.ref h0, .ref g0, .ref a0, .ref w0, .ref e0, .ref f0, .int an, .int ra])), (e0, .inr (2, [.ref v1, .int pl0, .int sp0, .int on0]))] sz))) 1 6 (va_A [(b0, .inr (4, [.ref h0, .ref g0, .ref a0, .ref w0, .ref e0, .ref f0, .int an, .int ra])), (e0, .inr (2, [.ref v1, .int pl0, .int sp0, .int on0]))] sz) := by
  refine bc_metW (fun A => va_Qi (fun (r : Int32) (u : Unit) => r = 3) (fun (u : Unit) t => bc_B (dC, dI) classes [(cI, .int), (cZ, .boolean), (cL, .long)] A [(b0, .inr (4, [.ref h0, .ref g0, .ref a0, .ref w0, .ref e0, .ref f0, .int an, .int ra])), (e0, .inr (2, [.ref v1, .int pl0, .int sp0, .int on0]))] t) A) (by decide) (Nat.le_of_ble_eq_true rfl) ?_
  intro p e s m args below meth c A ls F3 hr hlocks hA hP hD hl hS hT9 htab
  have F : bc_Fx p m c by_L_run 5 s args "BranchConstantsLaw" (dC, dI) classes [(cI, .int), (cZ, .boolean)] := ⟨F3.1, F3.2.1, F3.2.2.1, F3.2.2.2.1, F3.2.2.2.2.1, F3.2.2.2.2.2.1, va_K.sub F3.2.2.2.2.2.2 [0, 1] rfl⟩
  have hx := F.1
  have hb := F.2.1
  have hml := F.2.2.1
  have hown : s.vm.findClass "BranchConstantsLaw" = some m.cls := F.2.2.2.1
  have htw := F.2.2.2.2.1
  have hN := F.2.2.2.2.2.1
  have hK := F.2.2.2.2.2.2
  have hK3 := F3.2.2.2.2.2.2
  have hl : lv_has ls 5 [(0, .ref b0), (1, .int 0), (2, .int (nI mx)), (3, .ref o9)] := hl
  refine lv_aload_n hx hb de_L_run_0 rfl (lv_at hl 3 rfl) ?_
  refine lv_iconst (v := 0) hx hb de_L_run_1 (by decide) ?_
  refine lv_aload_n hx hb de_L_run_2 rfl (lv_at hl 0 rfl) ?_
  refine lv_iload_n hx hb de_L_run_3 rfl (lv_at hl 1 rfl) ?_
  refine lv_iload_n hx hb de_L_run_4 rfl (lv_at hl 2 rfl) ?_
  refine bc_xcatch (As := [.int 0, .int (nI mx)]) (rest := [.int 0, .ref o9]) (pre := [(0, 10, 13, 21), (0, 10, 17, 13)]) (post := []) (sp := 0) (ep := 10) (hp := 21) (ct := 15) F hT9 (cx_B_runc0 hl0 hmx hon) wm_384 wm_1 wm_381 wm_382 wm_383 0 rfl rfl pd_B_run rfl rfl ⟨Nat.le_of_ble_eq_true rfl, Nat.le_of_ble_eq_true rfl⟩ hP (hD.weaken (fun _ _ _ _ => trivial)) [0, 1] rfl rfl rfl hl.1 rfl (Nat.le_of_ble_eq_true rfl) de_L_run_5 ⟨Nat.le_of_ble_eq_true rfl, Nat.le_of_ble_eq_true rfl⟩ htab rfl (List.forall_mem_cons.mpr ⟨⟨"java/lang/IndexOutOfBoundsException", by decide, wm_259, List.mem_of_getElem? (i := 9) rfl⟩, (List.forall_mem_cons.mpr ⟨⟨"java/lang/IllegalArgumentException", by decide, wm_172, List.mem_of_getElem? (i := 8) rfl⟩, (fun z hz => absurd hz List.not_mem_nil)⟩)⟩) (by decide) (by decide) wm_173 (List.mem_of_getElem? (i := 4) rfl) (fun q9 H hk hz => ?_)
  have hS : va_S A s.heap H [] := ⟨hz, fun q h1 _ => hk q h1, fun q hq => absurd hq List.not_mem_nil⟩
  have hP : va_P (dC, dI) classes [(b0, .inr (4, [.ref h0, .ref g0, .ref a0, .ref w0, .ref e0, .ref f0, .int an, .int ra])), (e0, .inr (2, [.ref v1, .int pl0, .int sp0, .int on0]))] H := hP.kept (fun k x hx => hk x.1 ((hP k x hx).lt))
  refine lv_astore (lv' := [(4, .ref q9), (0, .ref b0), (1, .int 0), (2, .int (nI mx)), (3, .ref o9)]) hx hb de_L_run_21 hl (by decide) rfl (fun ls hl => ?_)
  refine lv_iconst (v := 3) hx hb de_L_run_23 (by decide) ?_
  exact bc_iret F3 hr hlocks (()) rfl hP hD hS de_L_run_24

set_option maxHeartbeats 4000000 in
set_option maxRecDepth 100000 in
theorem co_L_placexb0 {l : Launch} {dC : Nat → ClassId} {dI : Nat → Nat → Nat} {cI cZ cL : ClassId} {sz : Nat} (hl0 : l.stackTraces = false) {b0 h0 g0 a0 w0 e0 v1 f0 : Nat} {an ra pl0 sp0 on0 : Int32} {o9 : Nat}   (hon : on0 = 0) : Met l yn_L_place (Cond.codeWith yn_L_place by_L_place 4 (some FieldType.int) [(0, 9, 12, 21), (0, 9, 15, 15)] :: wd_all) ({ frames := 8, cells := 1, slots := 6, locals := 124 } : Room) (bc_PreX (dC, dI) classes [(cI, .int), (cZ, .boolean), (cL, .long)] [.ref b0, .int 0, .ref o9] [(b0, .inr (4, [.ref h0, .ref g0, .ref a0, .ref w0, .ref e0, .ref f0, .int an, .int ra])), (e0, .inr (2, [.ref v1, .int pl0, .int sp0, .int on0]))] sz) (va_Qi (fun (r : Int32) (u : Unit) => r = 2) (fun (u : Unit) t => bc_B (dC, dI) classes [(cI, .int), (cZ, .boolean), (cL, .long)] (va_A [(b0, .inr (4, [.ref h0, .ref g0, .ref a0, .ref w0, .ref e0, .ref f0, .int an, .int ra])), (e0, .inr (2, [.ref v1, .int pl0, .int sp0, .int on0]))] sz) [(b0, .inr (4, [.ref h0, .ref g0, .ref a0, .ref w0, .ref e0, .ref f0, .int an, .int ra])), (e0, .inr (2, [.ref v1, .int pl0, .int sp0, .int on0]))] t) ((va_A [(b0, .inr (4, [.ref h0, .ref g0, .ref a0, .ref w0, .ref e0, .ref f0, .int an, .int ra])), (e0, .inr (2, [.ref v1, .int pl0, .int sp0, .int on0]))] sz))) 1 6 (va_A [(b0, .inr (4, [.ref h0, .ref g0, .ref a0, .ref w0, .ref e0, .ref f0, .int an, .int ra])), (e0, .inr (2, [.ref v1, .int pl0, .int sp0, .int on0]))] sz) := by
  refine bc_metW (fun A => va_Qi (fun (r : Int32) (u : Unit) => r = 2) (fun (u : Unit) t => bc_B (dC, dI) classes [(cI, .int), (cZ, .boolean), (cL, .long)] A [(b0, .inr (4, [.ref h0, .ref g0, .ref a0, .ref w0, .ref e0, .ref f0, .int an, .int ra])), (e0, .inr (2, [.ref v1, .int pl0, .int sp0, .int on0]))] t) A) (by decide) (Nat.le_of_ble_eq_true rfl) ?_
  intro p e s m args below meth c A ls F3 hr hlocks hA hP hD hl hS hT9 htab
  have F : bc_Fx p m c by_L_place 4 s args "BranchConstantsLaw" (dC, dI) classes [(cI, .int), (cZ, .boolean)] := ⟨F3.1, F3.2.1, F3.2.2.1, F3.2.2.2.1, F3.2.2.2.2.1, F3.2.2.2.2.2.1, va_K.sub F3.2.2.2.2.2.2 [0, 1] rfl⟩
  have hx := F.1
  have hb := F.2.1
  have hml := F.2.2.1
  have hown : s.vm.findClass "BranchConstantsLaw" = some m.cls := F.2.2.2.1
  have htw := F.2.2.2.2.1
  have hN := F.2.2.2.2.2.1
  have hK := F.2.2.2.2.2.2
  have hK3 := F3.2.2.2.2.2.2
  have hl : lv_has ls 4 [(0, .ref b0), (1, .int 0), (2, .ref o9)] := hl
  refine lv_aload_n hx hb de_L_place_0 rfl (lv_at hl 2 rfl) ?_
  refine lv_iconst (v := 0) hx hb de_L_place_1 (by decide) ?_
  refine lv_aload_n hx hb de_L_place_2 rfl (lv_at hl 0 rfl) ?_
  refine lv_iload_n hx hb de_L_place_3 rfl (lv_at hl 1 rfl) ?_
  refine bc_xcatch (As := [.int 0]) (rest := [.int 0, .ref o9]) (pre := [(0, 9, 12, 21)]) (post := []) (sp := 0) (ep := 9) (hp := 15) (ct := 15) F hT9 (cx_B_placeb0 hl0 hon) wm_402 wm_1 wm_399 wm_400 wm_401 0 rfl rfl pd_B_place rfl rfl ⟨Nat.le_of_ble_eq_true rfl, Nat.le_of_ble_eq_true rfl⟩ hP (hD.weaken (fun _ _ _ _ => trivial)) [0, 1] rfl rfl rfl hl.1 rfl (Nat.le_of_ble_eq_true rfl) de_L_place_4 ⟨Nat.le_of_ble_eq_true rfl, Nat.le_of_ble_eq_true rfl⟩ htab rfl (List.forall_mem_cons.mpr ⟨⟨"java/lang/IndexOutOfBoundsException", by decide, wm_259, List.mem_of_getElem? (i := 9) rfl⟩, (fun z hz => absurd hz List.not_mem_nil)⟩) (by decide) (by decide) wm_173 (List.mem_of_getElem? (i := 4) rfl) (fun q9 H hk hz => ?_)
  have hS : va_S A s.heap H [] := ⟨hz, fun q h1 _ => hk q h1, fun q hq => absurd hq List.not_mem_nil⟩
  have hP : va_P (dC, dI) classes [(b0, .inr (4, [.ref h0, .ref g0, .ref a0, .ref w0, .ref e0, .ref f0, .int an, .int ra])), (e0, .inr (2, [.ref v1, .int pl0, .int sp0, .int on0]))] H := hP.kept (fun k x hx => hk x.1 ((hP k x hx).lt))
  refine lv_astore_n (lv' := [(3, .ref q9), (0, .ref b0), (1, .int 0), (2, .ref o9)]) hx hb de_L_place_15 rfl hl (by decide) rfl (fun ls hl => ?_)
  refine lv_iconst (v := 2) hx hb de_L_place_16 (by decide) ?_
  exact bc_iret F3 hr hlocks (()) rfl hP hD hS de_L_place_17

set_option maxHeartbeats 4000000 in
set_option maxRecDepth 100000 in
theorem co_L_stepsxb0 {l : Launch} {dC : Nat → ClassId} {dI : Nat → Nat → Nat} {cI cZ cL : ClassId} {sz : Nat} (hl0 : l.stackTraces = false) {b0 h0 g0 a0 w0 e0 v1 f0 : Nat} {an ra pl0 sp0 on0 : Int32} {o9 : Nat}   (hon : on0 = 0) : Met l yn_L_steps (Cond.codeWith yn_L_steps by_L_steps 4 (some FieldType.int) [(0, 9, 12, 21), (0, 9, 15, 15)] :: wd_all) ({ frames := 8, cells := 1, slots := 6, locals := 124 } : Room) (bc_PreX (dC, dI) classes [(cI, .int), (cZ, .boolean), (cL, .long)] [.ref b0, .int 0, .ref o9] [(b0, .inr (4, [.ref h0, .ref g0, .ref a0, .ref w0, .ref e0, .ref f0, .int an, .int ra])), (e0, .inr (2, [.ref v1, .int pl0, .int sp0, .int on0]))] sz) (va_Qi (fun (r : Int32) (u : Unit) => r = 2) (fun (u : Unit) t => bc_B (dC, dI) classes [(cI, .int), (cZ, .boolean), (cL, .long)] (va_A [(b0, .inr (4, [.ref h0, .ref g0, .ref a0, .ref w0, .ref e0, .ref f0, .int an, .int ra])), (e0, .inr (2, [.ref v1, .int pl0, .int sp0, .int on0]))] sz) [(b0, .inr (4, [.ref h0, .ref g0, .ref a0, .ref w0, .ref e0, .ref f0, .int an, .int ra])), (e0, .inr (2, [.ref v1, .int pl0, .int sp0, .int on0]))] t) ((va_A [(b0, .inr (4, [.ref h0, .ref g0, .ref a0, .ref w0, .ref e0, .ref f0, .int an, .int ra])), (e0, .inr (2, [.ref v1, .int pl0, .int sp0, .int on0]))] sz))) 1 6 (va_A [(b0, .inr (4, [.ref h0, .ref g0, .ref a0, .ref w0, .ref e0, .ref f0, .int an, .int ra])), (e0, .inr (2, [.ref v1, .int pl0, .int sp0, .int on0]))] sz) := by
  refine bc_metW (fun A => va_Qi (fun (r : Int32) (u : Unit) => r = 2) (fun (u : Unit) t => bc_B (dC, dI) classes [(cI, .int), (cZ, .boolean), (cL, .long)] A [(b0, .inr (4, [.ref h0, .ref g0, .ref a0, .ref w0, .ref e0, .ref f0, .int an, .int ra])), (e0, .inr (2, [.ref v1, .int pl0, .int sp0, .int on0]))] t) A) (by decide) (Nat.le_of_ble_eq_true rfl) ?_
  intro p e s m args below meth c A ls F3 hr hlocks hA hP hD hl hS hT9 htab
  have F : bc_Fx p m c by_L_steps 4 s args "BranchConstantsLaw" (dC, dI) classes [(cI, .int), (cZ, .boolean)] := ⟨F3.1, F3.2.1, F3.2.2.1, F3.2.2.2.1, F3.2.2.2.2.1, F3.2.2.2.2.2.1, va_K.sub F3.2.2.2.2.2.2 [0, 1] rfl⟩
  have hx := F.1
  have hb := F.2.1
  have hml := F.2.2.1
  have hown : s.vm.findClass "BranchConstantsLaw" = some m.cls := F.2.2.2.1
  have htw := F.2.2.2.2.1
  have hN := F.2.2.2.2.2.1
  have hK := F.2.2.2.2.2.2
  have hK3 := F3.2.2.2.2.2.2
  have hl : lv_has ls 4 [(0, .ref b0), (1, .int 0), (2, .ref o9)] := hl
  refine lv_aload_n hx hb de_L_steps_0 rfl (lv_at hl 2 rfl) ?_
  refine lv_iconst (v := 0) hx hb de_L_steps_1 (by decide) ?_
  refine lv_aload_n hx hb de_L_steps_2 rfl (lv_at hl 0 rfl) ?_
  refine lv_iload_n hx hb de_L_steps_3 rfl (lv_at hl 1 rfl) ?_
  refine bc_xcatch (As := [.int 0]) (rest := [.int 0, .ref o9]) (pre := [(0, 9, 12, 21)]) (post := []) (sp := 0) (ep := 9) (hp := 15) (ct := 15) F hT9 (cx_B_stepsb0 hl0 hon) wm_416 wm_1 wm_413 wm_414 wm_415 0 rfl rfl pd_B_steps rfl rfl ⟨Nat.le_of_ble_eq_true rfl, Nat.le_of_ble_eq_true rfl⟩ hP (hD.weaken (fun _ _ _ _ => trivial)) [0, 1] rfl rfl rfl hl.1 rfl (Nat.le_of_ble_eq_true rfl) de_L_steps_4 ⟨Nat.le_of_ble_eq_true rfl, Nat.le_of_ble_eq_true rfl⟩ htab rfl (List.forall_mem_cons.mpr ⟨⟨"java/lang/IndexOutOfBoundsException", by decide, wm_259, List.mem_of_getElem? (i := 9) rfl⟩, (fun z hz => absurd hz List.not_mem_nil)⟩) (by decide) (by decide) wm_173 (List.mem_of_getElem? (i := 4) rfl) (fun q9 H hk hz => ?_)
  have hS : va_S A s.heap H [] := ⟨hz, fun q h1 _ => hk q h1, fun q hq => absurd hq List.not_mem_nil⟩
  have hP : va_P (dC, dI) classes [(b0, .inr (4, [.ref h0, .ref g0, .ref a0, .ref w0, .ref e0, .ref f0, .int an, .int ra])), (e0, .inr (2, [.ref v1, .int pl0, .int sp0, .int on0]))] H := hP.kept (fun k x hx => hk x.1 ((hP k x hx).lt))
  refine lv_astore_n (lv' := [(3, .ref q9), (0, .ref b0), (1, .int 0), (2, .ref o9)]) hx hb de_L_steps_15 rfl hl (by decide) rfl (fun ls hl => ?_)
  refine lv_iconst (v := 2) hx hb de_L_steps_16 (by decide) ?_
  exact bc_iret F3 hr hlocks (()) rfl hP hD hS de_L_steps_17

set_option maxHeartbeats 4000000 in
set_option maxRecDepth 100000 in
theorem co_L_valuexb0 {l : Launch} {dC : Nat → ClassId} {dI : Nat → Nat → Nat} {cI cZ cL : ClassId} {sz : Nat} (hl0 : l.stackTraces = false) {b0 h0 g0 a0 w0 e0 f0 : Nat} {an ra : Int32} {o9 : Nat}  {y : Int32} (hvx : ¬ bc_vr y) : Met l yn_L_value (Cond.codeWith yn_L_value by_L_value 5 (some FieldType.int) [(0, 10, 13, 21), (0, 10, 17, 15)] :: wd_all) ({ frames := 8, cells := 1, slots := 6, locals := 125 } : Room) (bc_PreX (dC, dI) classes [(cI, .int), (cZ, .boolean), (cL, .long)] [.ref b0, .int 0, .int y, .ref o9] [(b0, .inr (4, [.ref h0, .ref g0, .ref a0, .ref w0, .ref e0, .ref f0, .int an, .int ra]))] sz) (va_Qi (fun (r : Int32) (u : Unit) => r = 1) (fun (u : Unit) t => bc_B (dC, dI) classes [(cI, .int), (cZ, .boolean), (cL, .long)] (va_A [(b0, .inr (4, [.ref h0, .ref g0, .ref a0, .ref w0, .ref e0, .ref f0, .int an, .int ra]))] sz) [(b0, .inr (4, [.ref h0, .ref g0, .ref a0, .ref w0, .ref e0, .ref f0, .int an, .int ra]))] t) ((va_A [(b0, .inr (4, [.ref h0, .ref g0, .ref a0, .ref w0, .ref e0, .ref f0, .int an, .int ra]))] sz))) 1 6 (va_A [(b0, .inr (4, [.ref h0, .ref g0, .ref a0, .ref w0, .ref e0, .ref f0, .int an, .int ra]))] sz) := by
  refine bc_metW (fun A => va_Qi (fun (r : Int32) (u : Unit) => r = 1) (fun (u : Unit) t => bc_B (dC, dI) classes [(cI, .int), (cZ, .boolean), (cL, .long)] A [(b0, .inr (4, [.ref h0, .ref g0, .ref a0, .ref w0, .ref e0, .ref f0, .int an, .int ra]))] t) A) (by decide) (Nat.le_of_ble_eq_true rfl) ?_
  intro p e s m args below meth c A ls F3 hr hlocks hA hP hD hl hS hT9 htab
  have F : bc_Fx p m c by_L_value 5 s args "BranchConstantsLaw" (dC, dI) classes [(cI, .int), (cZ, .boolean)] := ⟨F3.1, F3.2.1, F3.2.2.1, F3.2.2.2.1, F3.2.2.2.2.1, F3.2.2.2.2.2.1, va_K.sub F3.2.2.2.2.2.2 [0, 1] rfl⟩
  have hx := F.1
  have hb := F.2.1
  have hml := F.2.2.1
  have hown : s.vm.findClass "BranchConstantsLaw" = some m.cls := F.2.2.2.1
  have htw := F.2.2.2.2.1
  have hN := F.2.2.2.2.2.1
  have hK := F.2.2.2.2.2.2
  have hK3 := F3.2.2.2.2.2.2
  have hl : lv_has ls 5 [(0, .ref b0), (1, .int 0), (2, .int y), (3, .ref o9)] := hl
  refine lv_aload_n hx hb de_L_value_0 rfl (lv_at hl 3 rfl) ?_
  refine lv_iconst (v := 0) hx hb de_L_value_1 (by decide) ?_
  refine lv_aload_n hx hb de_L_value_2 rfl (lv_at hl 0 rfl) ?_
  refine lv_iload_n hx hb de_L_value_3 rfl (lv_at hl 1 rfl) ?_
  refine lv_iload_n hx hb de_L_value_4 rfl (lv_at hl 2 rfl) ?_
  refine bc_xcatch (As := [.int 0, .int y]) (rest := [.int 0, .ref o9]) (pre := []) (post := [(0, 10, 17, 15)]) (sp := 0) (ep := 10) (hp := 13) (ct := 21) F hT9 (cx_B_valueb0 hl0 hvx) wm_409 wm_1 wm_406 wm_407 wm_408 0 rfl rfl pd_B_value rfl rfl ⟨Nat.le_of_ble_eq_true rfl, Nat.le_of_ble_eq_true rfl⟩ hP (hD.weaken (fun _ _ _ _ => trivial)) [0] rfl rfl rfl hl.1 rfl (Nat.le_of_ble_eq_true rfl) de_L_value_5 ⟨Nat.le_of_ble_eq_true rfl, Nat.le_of_ble_eq_true rfl⟩ htab rfl (fun z hz => absurd hz List.not_mem_nil) (by decide) (by decide) wm_259 (List.mem_of_getElem? (i := 5) rfl) (fun q9 H hk hz => ?_)
  have hS : va_S A s.heap H [] := ⟨hz, fun q h1 _ => hk q h1, fun q hq => absurd hq List.not_mem_nil⟩
  have hP : va_P (dC, dI) classes [(b0, .inr (4, [.ref h0, .ref g0, .ref a0, .ref w0, .ref e0, .ref f0, .int an, .int ra]))] H := hP.kept (fun k x hx => hk x.1 ((hP k x hx).lt))
  refine lv_astore (lv' := [(4, .ref q9), (0, .ref b0), (1, .int 0), (2, .int y), (3, .ref o9)]) hx hb de_L_value_13 hl (by decide) rfl (fun ls hl => ?_)
  refine lv_iconst (v := 1) hx hb de_L_value_15 (by decide) ?_
  exact bc_iret F3 hr hlocks (()) rfl hP hD hS de_L_value_16

set_option maxHeartbeats 4000000 in
set_option maxRecDepth 100000 in
theorem co_L_valuexc0 {l : Launch} {dC : Nat → ClassId} {dI : Nat → Nat → Nat} {cI cZ cL : ClassId} {sz : Nat} (hl0 : l.stackTraces = false) {b0 h0 g0 a0 w0 e0 v1 f0 : Nat} {an ra pl0 sp0 on0 : Int32} {o9 : Nat}  {w : Nat} (hv : w < 6) (hon : on0 = 0) : Met l yn_L_value (Cond.codeWith yn_L_value by_L_value 5 (some FieldType.int) [(0, 10, 13, 21), (0, 10, 17, 15)] :: wd_all) ({ frames := 8, cells := 1, slots := 6, locals := 125 } : Room) (bc_PreX (dC, dI) classes [(cI, .int), (cZ, .boolean), (cL, .long)] [.ref b0, .int 0, .int (nI w), .ref o9] [(b0, .inr (4, [.ref h0, .ref g0, .ref a0, .ref w0, .ref e0, .ref f0, .int an, .int ra])), (e0, .inr (2, [.ref v1, .int pl0, .int sp0, .int on0]))] sz) (va_Qi (fun (r : Int32) (u : Unit) => r = 2) (fun (u : Unit) t => bc_B (dC, dI) classes [(cI, .int), (cZ, .boolean), (cL, .long)] (va_A [(b0, .inr (4, [.ref h0, .ref g0, .ref a0, .ref w0, .ref e0, .ref f0, .int an, .int ra])), (e0, .inr (2, [.ref v1, .int pl0, .int sp0, .int on0]))] sz) [(b0, .inr (4, [.ref h0, .ref g0, .ref a0, .ref w0, .ref e0, .ref f0, .int an, .int ra])), (e0, .inr (2, [.ref v1, .int pl0, .int sp0, .int on0]))] t) ((va_A [(b0, .inr (4, [.ref h0, .ref g0, .ref a0, .ref w0, .ref e0, .ref f0, .int an, .int ra])), (e0, .inr (2, [.ref v1, .int pl0, .int sp0, .int on0]))] sz))) 1 6 (va_A [(b0, .inr (4, [.ref h0, .ref g0, .ref a0, .ref w0, .ref e0, .ref f0, .int an, .int ra])), (e0, .inr (2, [.ref v1, .int pl0, .int sp0, .int on0]))] sz) := by
  refine bc_metW (fun A => va_Qi (fun (r : Int32) (u : Unit) => r = 2) (fun (u : Unit) t => bc_B (dC, dI) classes [(cI, .int), (cZ, .boolean), (cL, .long)] A [(b0, .inr (4, [.ref h0, .ref g0, .ref a0, .ref w0, .ref e0, .ref f0, .int an, .int ra])), (e0, .inr (2, [.ref v1, .int pl0, .int sp0, .int on0]))] t) A) (by decide) (Nat.le_of_ble_eq_true rfl) ?_
  intro p e s m args below meth c A ls F3 hr hlocks hA hP hD hl hS hT9 htab
  have F : bc_Fx p m c by_L_value 5 s args "BranchConstantsLaw" (dC, dI) classes [(cI, .int), (cZ, .boolean)] := ⟨F3.1, F3.2.1, F3.2.2.1, F3.2.2.2.1, F3.2.2.2.2.1, F3.2.2.2.2.2.1, va_K.sub F3.2.2.2.2.2.2 [0, 1] rfl⟩
  have hx := F.1
  have hb := F.2.1
  have hml := F.2.2.1
  have hown : s.vm.findClass "BranchConstantsLaw" = some m.cls := F.2.2.2.1
  have htw := F.2.2.2.2.1
  have hN := F.2.2.2.2.2.1
  have hK := F.2.2.2.2.2.2
  have hK3 := F3.2.2.2.2.2.2
  have hl : lv_has ls 5 [(0, .ref b0), (1, .int 0), (2, .int (nI w)), (3, .ref o9)] := hl
  refine lv_aload_n hx hb de_L_value_0 rfl (lv_at hl 3 rfl) ?_
  refine lv_iconst (v := 0) hx hb de_L_value_1 (by decide) ?_
  refine lv_aload_n hx hb de_L_value_2 rfl (lv_at hl 0 rfl) ?_
  refine lv_iload_n hx hb de_L_value_3 rfl (lv_at hl 1 rfl) ?_
  refine lv_iload_n hx hb de_L_value_4 rfl (lv_at hl 2 rfl) ?_
  refine bc_xcatch (As := [.int 0, .int (nI w)]) (rest := [.int 0, .ref o9]) (pre := [(0, 10, 13, 21)]) (post := []) (sp := 0) (ep := 10) (hp := 17) (ct := 15) F hT9 (cx_B_valuec0 hl0 hv hon) wm_409 wm_1 wm_406 wm_407 wm_408 0 rfl rfl pd_B_value rfl rfl ⟨Nat.le_of_ble_eq_true rfl, Nat.le_of_ble_eq_true rfl⟩ hP (hD.weaken (fun _ _ _ _ => trivial)) [0, 1] rfl rfl rfl hl.1 rfl (Nat.le_of_ble_eq_true rfl) de_L_value_5 ⟨Nat.le_of_ble_eq_true rfl, Nat.le_of_ble_eq_true rfl⟩ htab rfl (List.forall_mem_cons.mpr ⟨⟨"java/lang/IndexOutOfBoundsException", by decide, wm_259, List.mem_of_getElem? (i := 9) rfl⟩, (fun z hz => absurd hz List.not_mem_nil)⟩) (by decide) (by decide) wm_173 (List.mem_of_getElem? (i := 4) rfl) (fun q9 H hk hz => ?_)
  have hS : va_S A s.heap H [] := ⟨hz, fun q h1 _ => hk q h1, fun q hq => absurd hq List.not_mem_nil⟩
  have hP : va_P (dC, dI) classes [(b0, .inr (4, [.ref h0, .ref g0, .ref a0, .ref w0, .ref e0, .ref f0, .int an, .int ra])), (e0, .inr (2, [.ref v1, .int pl0, .int sp0, .int on0]))] H := hP.kept (fun k x hx => hk x.1 ((hP k x hx).lt))
  refine lv_astore (lv' := [(4, .ref q9), (0, .ref b0), (1, .int 0), (2, .int (nI w)), (3, .ref o9)]) hx hb de_L_value_17 hl (by decide) rfl (fun ls hl => ?_)
  refine lv_iconst (v := 2) hx hb de_L_value_19 (by decide) ?_
  exact bc_iret F3 hr hlocks (()) rfl hP hD hS de_L_value_20

set_option maxHeartbeats 4000000 in
set_option maxRecDepth 100000 in
theorem co_L_runxb1 {l : Launch} {dC : Nat → ClassId} {dI : Nat → Nat → Nat} {cI cZ cL : ClassId} {sz : Nat} (hl0 : l.stackTraces = false) {b0 h0 g0 a0 w0 e0 f0 : Nat} {an ra : Int32} {o9 : Nat}  {mm : Int32} (hmx : ¬ bc_mx mm) : Met l yn_L_run (Cond.codeWith yn_L_run by_L_run 5 (some FieldType.int) [(0, 10, 13, 21), (0, 10, 17, 13), (0, 10, 21, 15)] :: wd_all) ({ frames := 8, cells := 1, slots := 6, locals := 125 } : Room) (bc_PreX (dC, dI) classes [(cI, .int), (cZ, .boolean), (cL, .long)] [.ref b0, .int 1, .int mm, .ref o9] [(b0, .inr (4, [.ref h0, .ref g0, .ref a0, .ref w0, .ref e0, .ref f0, .int an, .int ra]))] sz) (va_Qi (fun (r : Int32) (u : Unit) => r = 2) (fun (u : Unit) t => bc_B (dC, dI) classes [(cI, .int), (cZ, .boolean), (cL, .long)] (va_A [(b0, .inr (4, [.ref h0, .ref g0, .ref a0, .ref w0, .ref e0, .ref f0, .int an, .int ra]))] sz) [(b0, .inr (4, [.ref h0, .ref g0, .ref a0, .ref w0, .ref e0, .ref f0, .int an, .int ra]))] t) ((va_A [(b0, .inr (4, [.ref h0, .ref g0, .ref a0, .ref w0, .ref e0, .ref f0, .int an, .int ra]))] sz))) 1 6 (va_A [(b0, .inr (4, [.ref h0, .ref g0, .ref a0, .ref w0, .ref e0, .ref f0, .int an, .int ra]))] sz) := by
  refine bc_metW (fun A => va_Qi (fun (r : Int32) (u : Unit) => r = 2) (fun (u : Unit) t => bc_B (dC, dI) classes [(cI, .int), (cZ, .boolean), (cL, .long)] A [(b0, .inr (4, [.ref h0, .ref g0, .ref a0, .ref w0, .ref e0, .ref f0, .int an, .int ra]))] t) A) (by decide) (Nat.le_of_ble_eq_true rfl) ?_
  intro p e s m args below meth c A ls F3 hr hlocks hA hP hD hl hS hT9 htab
  have F : bc_Fx p m c by_L_run 5 s args "BranchConstantsLaw" (dC, dI) classes [(cI, .int), (cZ, .boolean)] := ⟨F3.1, F3.2.1, F3.2.2.1, F3.2.2.2.1, F3.2.2.2.2.1, F3.2.2.2.2.2.1, va_K.sub F3.2.2.2.2.2.2 [0, 1] rfl⟩
  have hx := F.1
  have hb := F.2.1
  have hml := F.2.2.1
  have hown : s.vm.findClass "BranchConstantsLaw" = some m.cls := F.2.2.2.1
  have htw := F.2.2.2.2.1
  have hN := F.2.2.2.2.2.1
  have hK := F.2.2.2.2.2.2
  have hK3 := F3.2.2.2.2.2.2
  have hl : lv_has ls 5 [(0, .ref b0), (1, .int 1), (2, .int mm), (3, .ref o9)] := hl
  refine lv_aload_n hx hb de_L_run_0 rfl (lv_at hl 3 rfl) ?_
  refine lv_iconst (v := 0) hx hb de_L_run_1 (by decide) ?_
  refine lv_aload_n hx hb de_L_run_2 rfl (lv_at hl 0 rfl) ?_
  refine lv_iload_n hx hb de_L_run_3 rfl (lv_at hl 1 rfl) ?_
  refine lv_iload_n hx hb de_L_run_4 rfl (lv_at hl 2 rfl) ?_
  refine bc_xcatch (As := [.int 1, .int mm]) (rest := [.int 0, .ref o9]) (pre := [(0, 10, 13, 21)]) (post := [(0, 10, 21, 15)]) (sp := 0) (ep := 10) (hp := 17) (ct := 13) F hT9 (cx_B_runb1 hl0 hmx) wm_384 wm_1 wm_381 wm_382 wm_383 0 rfl rfl pd_B_run rfl rfl ⟨Nat.le_of_ble_eq_true rfl, Nat.le_of_ble_eq_true rfl⟩ hP (hD.weaken (fun _ _ _ _ => trivial)) [0] rfl rfl rfl hl.1 rfl (Nat.le_of_ble_eq_true rfl) de_L_run_5 ⟨Nat.le_of_ble_eq_true rfl, Nat.le_of_ble_eq_true rfl⟩ htab rfl (List.forall_mem_cons.mpr ⟨⟨"java/lang/IndexOutOfBoundsException", by decide, wm_259, List.mem_of_getElem? (i := 7) rfl⟩, (fun z hz => absurd hz List.not_mem_nil)⟩) (by decide) (by decide) wm_172 (List.mem_of_getElem? (i := 3) rfl) (fun q9 H hk hz => ?_)
  have hS : va_S A s.heap H [] := ⟨hz, fun q h1 _ => hk q h1, fun q hq => absurd hq List.not_mem_nil⟩
  have hP : va_P (dC, dI) classes [(b0, .inr (4, [.ref h0, .ref g0, .ref a0, .ref w0, .ref e0, .ref f0, .int an, .int ra]))] H := hP.kept (fun k x hx => hk x.1 ((hP k x hx).lt))
  refine lv_astore (lv' := [(4, .ref q9), (0, .ref b0), (1, .int 1), (2, .int mm), (3, .ref o9)]) hx hb de_L_run_17 hl (by decide) rfl (fun ls hl => ?_)
  refine lv_iconst (v := 2) hx hb de_L_run_19 (by decide) ?_
  exact bc_iret F3 hr hlocks (()) rfl hP hD hS de_L_run_20

set_option maxHeartbeats 4000000 in
set_option maxRecDepth 100000 in
theorem co_L_runxc1 {l : Launch} {dC : Nat → ClassId} {dI : Nat → Nat → Nat} {cI cZ cL : ClassId} {sz : Nat} (hl0 : l.stackTraces = false) {b0 h0 g0 a0 w0 e0 f0 v2 : Nat} {an ra pl1 sp1 on1 : Int32} {o9 : Nat}  {mx : Nat} (hmx : mx ≤ 10000) (hon : on1 = 0) : Met l yn_L_run (Cond.codeWith yn_L_run by_L_run 5 (some FieldType.int) [(0, 10, 13, 21), (0, 10, 17, 13), (0, 10, 21, 15)] :: wd_all) ({ frames := 8, cells := 1, slots := 6, locals := 125 } : Room) (bc_PreX (dC, dI) classes [(cI, .int), (cZ, .boolean), (cL, .long)] [.ref b0, .int 1, .int (nI mx), .ref o9] [(b0, .inr (4, [.ref h0, .ref g0, .ref a0, .ref w0, .ref e0, .ref f0, .int an, .int ra])), (f0, .inr (2, [.ref v2, .int pl1, .int sp1, .int on1]))] sz) (va_Qi (fun (r : Int32) (u : Unit) => r = 3) (fun (u : Unit) t => bc_B (dC, dI) classes [(cI, .int), (cZ, .boolean), (cL, .long)] (va_A [(b0, .inr (4, [.ref h0, .ref g0, .ref a0, .ref w0, .ref e0, .ref f0, .int an, .int ra])), (f0, .inr (2, [.ref v2, .int pl1, .int sp1, .int on1]))] sz) [(b0, .inr (4, [.ref h0, .ref g0, .ref a0, .ref w0, .ref e0, .ref f0, .int an, .int ra])), (f0, .inr (2, [.ref v2, .int pl1, .int sp1, .int on1]))] t) ((va_A [(b0, .inr (4, [.ref h0, .ref g0, .ref a0, .ref w0, .ref e0, .ref f0, .int an, .int ra])), (f0, .inr (2, [.ref v2, .int pl1, .int sp1, .int on1]))] sz))) 1 6 (va_A [(b0, .inr (4, [.ref h0, .ref g0, .ref a0, .ref w0, .ref e0, .ref f0, .int an, .int ra])), (f0, .inr (2, [.ref v2, .int pl1, .int sp1, .int on1]))] sz) := by
  refine bc_metW (fun A => va_Qi (fun (r : Int32) (u : Unit) => r = 3) (fun (u : Unit) t => bc_B (dC, dI) classes [(cI, .int), (cZ, .boolean), (cL, .long)] A [(b0, .inr (4, [.ref h0, .ref g0, .ref a0, .ref w0, .ref e0, .ref f0, .int an, .int ra])), (f0, .inr (2, [.ref v2, .int pl1, .int sp1, .int on1]))] t) A) (by decide) (Nat.le_of_ble_eq_true rfl) ?_
  intro p e s m args below meth c A ls F3 hr hlocks hA hP hD hl hS hT9 htab
  have F : bc_Fx p m c by_L_run 5 s args "BranchConstantsLaw" (dC, dI) classes [(cI, .int), (cZ, .boolean)] := ⟨F3.1, F3.2.1, F3.2.2.1, F3.2.2.2.1, F3.2.2.2.2.1, F3.2.2.2.2.2.1, va_K.sub F3.2.2.2.2.2.2 [0, 1] rfl⟩
  have hx := F.1
  have hb := F.2.1
  have hml := F.2.2.1
  have hown : s.vm.findClass "BranchConstantsLaw" = some m.cls := F.2.2.2.1
  have htw := F.2.2.2.2.1
  have hN := F.2.2.2.2.2.1
  have hK := F.2.2.2.2.2.2
  have hK3 := F3.2.2.2.2.2.2
  have hl : lv_has ls 5 [(0, .ref b0), (1, .int 1), (2, .int (nI mx)), (3, .ref o9)] := hl
  refine lv_aload_n hx hb de_L_run_0 rfl (lv_at hl 3 rfl) ?_
  refine lv_iconst (v := 0) hx hb de_L_run_1 (by decide) ?_
  refine lv_aload_n hx hb de_L_run_2 rfl (lv_at hl 0 rfl) ?_
  refine lv_iload_n hx hb de_L_run_3 rfl (lv_at hl 1 rfl) ?_
  refine lv_iload_n hx hb de_L_run_4 rfl (lv_at hl 2 rfl) ?_
  refine bc_xcatch (As := [.int 1, .int (nI mx)]) (rest := [.int 0, .ref o9]) (pre := [(0, 10, 13, 21), (0, 10, 17, 13)]) (post := []) (sp := 0) (ep := 10) (hp := 21) (ct := 15) F hT9 (cx_B_runc1 hl0 hmx hon) wm_384 wm_1 wm_381 wm_382 wm_383 0 rfl rfl pd_B_run rfl rfl ⟨Nat.le_of_ble_eq_true rfl, Nat.le_of_ble_eq_true rfl⟩ hP (hD.weaken (fun _ _ _ _ => trivial)) [0, 1] rfl rfl rfl hl.1 rfl (Nat.le_of_ble_eq_true rfl) de_L_run_5 ⟨Nat.le_of_ble_eq_true rfl, Nat.le_of_ble_eq_true rfl⟩ htab rfl (List.forall_mem_cons.mpr ⟨⟨"java/lang/IndexOutOfBoundsException", by decide, wm_259, List.mem_of_getElem? (i := 9) rfl⟩, (List.forall_mem_cons.mpr ⟨⟨"java/lang/IllegalArgumentException", by decide, wm_172, List.mem_of_getElem? (i := 8) rfl⟩, (fun z hz => absurd hz List.not_mem_nil)⟩)⟩) (by decide) (by decide) wm_173 (List.mem_of_getElem? (i := 4) rfl) (fun q9 H hk hz => ?_)
  have hS : va_S A s.heap H [] := ⟨hz, fun q h1 _ => hk q h1, fun q hq => absurd hq List.not_mem_nil⟩
  have hP : va_P (dC, dI) classes [(b0, .inr (4, [.ref h0, .ref g0, .ref a0, .ref w0, .ref e0, .ref f0, .int an, .int ra])), (f0, .inr (2, [.ref v2, .int pl1, .int sp1, .int on1]))] H := hP.kept (fun k x hx => hk x.1 ((hP k x hx).lt))
  refine lv_astore (lv' := [(4, .ref q9), (0, .ref b0), (1, .int 1), (2, .int (nI mx)), (3, .ref o9)]) hx hb de_L_run_21 hl (by decide) rfl (fun ls hl => ?_)
  refine lv_iconst (v := 3) hx hb de_L_run_23 (by decide) ?_
  exact bc_iret F3 hr hlocks (()) rfl hP hD hS de_L_run_24

set_option maxHeartbeats 4000000 in
set_option maxRecDepth 100000 in
theorem co_L_placexb1 {l : Launch} {dC : Nat → ClassId} {dI : Nat → Nat → Nat} {cI cZ cL : ClassId} {sz : Nat} (hl0 : l.stackTraces = false) {b0 h0 g0 a0 w0 e0 f0 v2 : Nat} {an ra pl1 sp1 on1 : Int32} {o9 : Nat}   (hon : on1 = 0) : Met l yn_L_place (Cond.codeWith yn_L_place by_L_place 4 (some FieldType.int) [(0, 9, 12, 21), (0, 9, 15, 15)] :: wd_all) ({ frames := 8, cells := 1, slots := 6, locals := 124 } : Room) (bc_PreX (dC, dI) classes [(cI, .int), (cZ, .boolean), (cL, .long)] [.ref b0, .int 1, .ref o9] [(b0, .inr (4, [.ref h0, .ref g0, .ref a0, .ref w0, .ref e0, .ref f0, .int an, .int ra])), (f0, .inr (2, [.ref v2, .int pl1, .int sp1, .int on1]))] sz) (va_Qi (fun (r : Int32) (u : Unit) => r = 2) (fun (u : Unit) t => bc_B (dC, dI) classes [(cI, .int), (cZ, .boolean), (cL, .long)] (va_A [(b0, .inr (4, [.ref h0, .ref g0, .ref a0, .ref w0, .ref e0, .ref f0, .int an, .int ra])), (f0, .inr (2, [.ref v2, .int pl1, .int sp1, .int on1]))] sz) [(b0, .inr (4, [.ref h0, .ref g0, .ref a0, .ref w0, .ref e0, .ref f0, .int an, .int ra])), (f0, .inr (2, [.ref v2, .int pl1, .int sp1, .int on1]))] t) ((va_A [(b0, .inr (4, [.ref h0, .ref g0, .ref a0, .ref w0, .ref e0, .ref f0, .int an, .int ra])), (f0, .inr (2, [.ref v2, .int pl1, .int sp1, .int on1]))] sz))) 1 6 (va_A [(b0, .inr (4, [.ref h0, .ref g0, .ref a0, .ref w0, .ref e0, .ref f0, .int an, .int ra])), (f0, .inr (2, [.ref v2, .int pl1, .int sp1, .int on1]))] sz) := by
  refine bc_metW (fun A => va_Qi (fun (r : Int32) (u : Unit) => r = 2) (fun (u : Unit) t => bc_B (dC, dI) classes [(cI, .int), (cZ, .boolean), (cL, .long)] A [(b0, .inr (4, [.ref h0, .ref g0, .ref a0, .ref w0, .ref e0, .ref f0, .int an, .int ra])), (f0, .inr (2, [.ref v2, .int pl1, .int sp1, .int on1]))] t) A) (by decide) (Nat.le_of_ble_eq_true rfl) ?_
  intro p e s m args below meth c A ls F3 hr hlocks hA hP hD hl hS hT9 htab
  have F : bc_Fx p m c by_L_place 4 s args "BranchConstantsLaw" (dC, dI) classes [(cI, .int), (cZ, .boolean)] := ⟨F3.1, F3.2.1, F3.2.2.1, F3.2.2.2.1, F3.2.2.2.2.1, F3.2.2.2.2.2.1, va_K.sub F3.2.2.2.2.2.2 [0, 1] rfl⟩
  have hx := F.1
  have hb := F.2.1
  have hml := F.2.2.1
  have hown : s.vm.findClass "BranchConstantsLaw" = some m.cls := F.2.2.2.1
  have htw := F.2.2.2.2.1
  have hN := F.2.2.2.2.2.1
  have hK := F.2.2.2.2.2.2
  have hK3 := F3.2.2.2.2.2.2
  have hl : lv_has ls 4 [(0, .ref b0), (1, .int 1), (2, .ref o9)] := hl
  refine lv_aload_n hx hb de_L_place_0 rfl (lv_at hl 2 rfl) ?_
  refine lv_iconst (v := 0) hx hb de_L_place_1 (by decide) ?_
  refine lv_aload_n hx hb de_L_place_2 rfl (lv_at hl 0 rfl) ?_
  refine lv_iload_n hx hb de_L_place_3 rfl (lv_at hl 1 rfl) ?_
  refine bc_xcatch (As := [.int 1]) (rest := [.int 0, .ref o9]) (pre := [(0, 9, 12, 21)]) (post := []) (sp := 0) (ep := 9) (hp := 15) (ct := 15) F hT9 (cx_B_placeb1 hl0 hon) wm_402 wm_1 wm_399 wm_400 wm_401 0 rfl rfl pd_B_place rfl rfl ⟨Nat.le_of_ble_eq_true rfl, Nat.le_of_ble_eq_true rfl⟩ hP (hD.weaken (fun _ _ _ _ => trivial)) [0, 1] rfl rfl rfl hl.1 rfl (Nat.le_of_ble_eq_true rfl) de_L_place_4 ⟨Nat.le_of_ble_eq_true rfl, Nat.le_of_ble_eq_true rfl⟩ htab rfl (List.forall_mem_cons.mpr ⟨⟨"java/lang/IndexOutOfBoundsException", by decide, wm_259, List.mem_of_getElem? (i := 9) rfl⟩, (fun z hz => absurd hz List.not_mem_nil)⟩) (by decide) (by decide) wm_173 (List.mem_of_getElem? (i := 4) rfl) (fun q9 H hk hz => ?_)
  have hS : va_S A s.heap H [] := ⟨hz, fun q h1 _ => hk q h1, fun q hq => absurd hq List.not_mem_nil⟩
  have hP : va_P (dC, dI) classes [(b0, .inr (4, [.ref h0, .ref g0, .ref a0, .ref w0, .ref e0, .ref f0, .int an, .int ra])), (f0, .inr (2, [.ref v2, .int pl1, .int sp1, .int on1]))] H := hP.kept (fun k x hx => hk x.1 ((hP k x hx).lt))
  refine lv_astore_n (lv' := [(3, .ref q9), (0, .ref b0), (1, .int 1), (2, .ref o9)]) hx hb de_L_place_15 rfl hl (by decide) rfl (fun ls hl => ?_)
  refine lv_iconst (v := 2) hx hb de_L_place_16 (by decide) ?_
  exact bc_iret F3 hr hlocks (()) rfl hP hD hS de_L_place_17

set_option maxHeartbeats 4000000 in
set_option maxRecDepth 100000 in
theorem co_L_stepsxb1 {l : Launch} {dC : Nat → ClassId} {dI : Nat → Nat → Nat} {cI cZ cL : ClassId} {sz : Nat} (hl0 : l.stackTraces = false) {b0 h0 g0 a0 w0 e0 f0 v2 : Nat} {an ra pl1 sp1 on1 : Int32} {o9 : Nat}   (hon : on1 = 0) : Met l yn_L_steps (Cond.codeWith yn_L_steps by_L_steps 4 (some FieldType.int) [(0, 9, 12, 21), (0, 9, 15, 15)] :: wd_all) ({ frames := 8, cells := 1, slots := 6, locals := 124 } : Room) (bc_PreX (dC, dI) classes [(cI, .int), (cZ, .boolean), (cL, .long)] [.ref b0, .int 1, .ref o9] [(b0, .inr (4, [.ref h0, .ref g0, .ref a0, .ref w0, .ref e0, .ref f0, .int an, .int ra])), (f0, .inr (2, [.ref v2, .int pl1, .int sp1, .int on1]))] sz) (va_Qi (fun (r : Int32) (u : Unit) => r = 2) (fun (u : Unit) t => bc_B (dC, dI) classes [(cI, .int), (cZ, .boolean), (cL, .long)] (va_A [(b0, .inr (4, [.ref h0, .ref g0, .ref a0, .ref w0, .ref e0, .ref f0, .int an, .int ra])), (f0, .inr (2, [.ref v2, .int pl1, .int sp1, .int on1]))] sz) [(b0, .inr (4, [.ref h0, .ref g0, .ref a0, .ref w0, .ref e0, .ref f0, .int an, .int ra])), (f0, .inr (2, [.ref v2, .int pl1, .int sp1, .int on1]))] t) ((va_A [(b0, .inr (4, [.ref h0, .ref g0, .ref a0, .ref w0, .ref e0, .ref f0, .int an, .int ra])), (f0, .inr (2, [.ref v2, .int pl1, .int sp1, .int on1]))] sz))) 1 6 (va_A [(b0, .inr (4, [.ref h0, .ref g0, .ref a0, .ref w0, .ref e0, .ref f0, .int an, .int ra])), (f0, .inr (2, [.ref v2, .int pl1, .int sp1, .int on1]))] sz) := by
  refine bc_metW (fun A => va_Qi (fun (r : Int32) (u : Unit) => r = 2) (fun (u : Unit) t => bc_B (dC, dI) classes [(cI, .int), (cZ, .boolean), (cL, .long)] A [(b0, .inr (4, [.ref h0, .ref g0, .ref a0, .ref w0, .ref e0, .ref f0, .int an, .int ra])), (f0, .inr (2, [.ref v2, .int pl1, .int sp1, .int on1]))] t) A) (by decide) (Nat.le_of_ble_eq_true rfl) ?_
  intro p e s m args below meth c A ls F3 hr hlocks hA hP hD hl hS hT9 htab
  have F : bc_Fx p m c by_L_steps 4 s args "BranchConstantsLaw" (dC, dI) classes [(cI, .int), (cZ, .boolean)] := ⟨F3.1, F3.2.1, F3.2.2.1, F3.2.2.2.1, F3.2.2.2.2.1, F3.2.2.2.2.2.1, va_K.sub F3.2.2.2.2.2.2 [0, 1] rfl⟩
  have hx := F.1
  have hb := F.2.1
  have hml := F.2.2.1
  have hown : s.vm.findClass "BranchConstantsLaw" = some m.cls := F.2.2.2.1
  have htw := F.2.2.2.2.1
  have hN := F.2.2.2.2.2.1
  have hK := F.2.2.2.2.2.2
  have hK3 := F3.2.2.2.2.2.2
  have hl : lv_has ls 4 [(0, .ref b0), (1, .int 1), (2, .ref o9)] := hl
  refine lv_aload_n hx hb de_L_steps_0 rfl (lv_at hl 2 rfl) ?_
  refine lv_iconst (v := 0) hx hb de_L_steps_1 (by decide) ?_
  refine lv_aload_n hx hb de_L_steps_2 rfl (lv_at hl 0 rfl) ?_
  refine lv_iload_n hx hb de_L_steps_3 rfl (lv_at hl 1 rfl) ?_
  refine bc_xcatch (As := [.int 1]) (rest := [.int 0, .ref o9]) (pre := [(0, 9, 12, 21)]) (post := []) (sp := 0) (ep := 9) (hp := 15) (ct := 15) F hT9 (cx_B_stepsb1 hl0 hon) wm_416 wm_1 wm_413 wm_414 wm_415 0 rfl rfl pd_B_steps rfl rfl ⟨Nat.le_of_ble_eq_true rfl, Nat.le_of_ble_eq_true rfl⟩ hP (hD.weaken (fun _ _ _ _ => trivial)) [0, 1] rfl rfl rfl hl.1 rfl (Nat.le_of_ble_eq_true rfl) de_L_steps_4 ⟨Nat.le_of_ble_eq_true rfl, Nat.le_of_ble_eq_true rfl⟩ htab rfl (List.forall_mem_cons.mpr ⟨⟨"java/lang/IndexOutOfBoundsException", by decide, wm_259, List.mem_of_getElem? (i := 9) rfl⟩, (fun z hz => absurd hz List.not_mem_nil)⟩) (by decide) (by decide) wm_173 (List.mem_of_getElem? (i := 4) rfl) (fun q9 H hk hz => ?_)
  have hS : va_S A s.heap H [] := ⟨hz, fun q h1 _ => hk q h1, fun q hq => absurd hq List.not_mem_nil⟩
  have hP : va_P (dC, dI) classes [(b0, .inr (4, [.ref h0, .ref g0, .ref a0, .ref w0, .ref e0, .ref f0, .int an, .int ra])), (f0, .inr (2, [.ref v2, .int pl1, .int sp1, .int on1]))] H := hP.kept (fun k x hx => hk x.1 ((hP k x hx).lt))
  refine lv_astore_n (lv' := [(3, .ref q9), (0, .ref b0), (1, .int 1), (2, .ref o9)]) hx hb de_L_steps_15 rfl hl (by decide) rfl (fun ls hl => ?_)
  refine lv_iconst (v := 2) hx hb de_L_steps_16 (by decide) ?_
  exact bc_iret F3 hr hlocks (()) rfl hP hD hS de_L_steps_17

set_option maxHeartbeats 4000000 in
set_option maxRecDepth 100000 in
theorem co_L_valuexb1 {l : Launch} {dC : Nat → ClassId} {dI : Nat → Nat → Nat} {cI cZ cL : ClassId} {sz : Nat} (hl0 : l.stackTraces = false) {b0 h0 g0 a0 w0 e0 f0 : Nat} {an ra : Int32} {o9 : Nat}  {y : Int32} (hvx : ¬ bc_vr y) : Met l yn_L_value (Cond.codeWith yn_L_value by_L_value 5 (some FieldType.int) [(0, 10, 13, 21), (0, 10, 17, 15)] :: wd_all) ({ frames := 8, cells := 1, slots := 6, locals := 125 } : Room) (bc_PreX (dC, dI) classes [(cI, .int), (cZ, .boolean), (cL, .long)] [.ref b0, .int 1, .int y, .ref o9] [(b0, .inr (4, [.ref h0, .ref g0, .ref a0, .ref w0, .ref e0, .ref f0, .int an, .int ra]))] sz) (va_Qi (fun (r : Int32) (u : Unit) => r = 1) (fun (u : Unit) t => bc_B (dC, dI) classes [(cI, .int), (cZ, .boolean), (cL, .long)] (va_A [(b0, .inr (4, [.ref h0, .ref g0, .ref a0, .ref w0, .ref e0, .ref f0, .int an, .int ra]))] sz) [(b0, .inr (4, [.ref h0, .ref g0, .ref a0, .ref w0, .ref e0, .ref f0, .int an, .int ra]))] t) ((va_A [(b0, .inr (4, [.ref h0, .ref g0, .ref a0, .ref w0, .ref e0, .ref f0, .int an, .int ra]))] sz))) 1 6 (va_A [(b0, .inr (4, [.ref h0, .ref g0, .ref a0, .ref w0, .ref e0, .ref f0, .int an, .int ra]))] sz) := by
  refine bc_metW (fun A => va_Qi (fun (r : Int32) (u : Unit) => r = 1) (fun (u : Unit) t => bc_B (dC, dI) classes [(cI, .int), (cZ, .boolean), (cL, .long)] A [(b0, .inr (4, [.ref h0, .ref g0, .ref a0, .ref w0, .ref e0, .ref f0, .int an, .int ra]))] t) A) (by decide) (Nat.le_of_ble_eq_true rfl) ?_
  intro p e s m args below meth c A ls F3 hr hlocks hA hP hD hl hS hT9 htab
  have F : bc_Fx p m c by_L_value 5 s args "BranchConstantsLaw" (dC, dI) classes [(cI, .int), (cZ, .boolean)] := ⟨F3.1, F3.2.1, F3.2.2.1, F3.2.2.2.1, F3.2.2.2.2.1, F3.2.2.2.2.2.1, va_K.sub F3.2.2.2.2.2.2 [0, 1] rfl⟩
  have hx := F.1
  have hb := F.2.1
  have hml := F.2.2.1
  have hown : s.vm.findClass "BranchConstantsLaw" = some m.cls := F.2.2.2.1
  have htw := F.2.2.2.2.1
  have hN := F.2.2.2.2.2.1
  have hK := F.2.2.2.2.2.2
  have hK3 := F3.2.2.2.2.2.2
  have hl : lv_has ls 5 [(0, .ref b0), (1, .int 1), (2, .int y), (3, .ref o9)] := hl
  refine lv_aload_n hx hb de_L_value_0 rfl (lv_at hl 3 rfl) ?_
  refine lv_iconst (v := 0) hx hb de_L_value_1 (by decide) ?_
  refine lv_aload_n hx hb de_L_value_2 rfl (lv_at hl 0 rfl) ?_
  refine lv_iload_n hx hb de_L_value_3 rfl (lv_at hl 1 rfl) ?_
  refine lv_iload_n hx hb de_L_value_4 rfl (lv_at hl 2 rfl) ?_
  refine bc_xcatch (As := [.int 1, .int y]) (rest := [.int 0, .ref o9]) (pre := []) (post := [(0, 10, 17, 15)]) (sp := 0) (ep := 10) (hp := 13) (ct := 21) F hT9 (cx_B_valueb1 hl0 hvx) wm_409 wm_1 wm_406 wm_407 wm_408 0 rfl rfl pd_B_value rfl rfl ⟨Nat.le_of_ble_eq_true rfl, Nat.le_of_ble_eq_true rfl⟩ hP (hD.weaken (fun _ _ _ _ => trivial)) [0] rfl rfl rfl hl.1 rfl (Nat.le_of_ble_eq_true rfl) de_L_value_5 ⟨Nat.le_of_ble_eq_true rfl, Nat.le_of_ble_eq_true rfl⟩ htab rfl (fun z hz => absurd hz List.not_mem_nil) (by decide) (by decide) wm_259 (List.mem_of_getElem? (i := 5) rfl) (fun q9 H hk hz => ?_)
  have hS : va_S A s.heap H [] := ⟨hz, fun q h1 _ => hk q h1, fun q hq => absurd hq List.not_mem_nil⟩
  have hP : va_P (dC, dI) classes [(b0, .inr (4, [.ref h0, .ref g0, .ref a0, .ref w0, .ref e0, .ref f0, .int an, .int ra]))] H := hP.kept (fun k x hx => hk x.1 ((hP k x hx).lt))
  refine lv_astore (lv' := [(4, .ref q9), (0, .ref b0), (1, .int 1), (2, .int y), (3, .ref o9)]) hx hb de_L_value_13 hl (by decide) rfl (fun ls hl => ?_)
  refine lv_iconst (v := 1) hx hb de_L_value_15 (by decide) ?_
  exact bc_iret F3 hr hlocks (()) rfl hP hD hS de_L_value_16

set_option maxHeartbeats 4000000 in
set_option maxRecDepth 100000 in
theorem co_L_valuexc1 {l : Launch} {dC : Nat → ClassId} {dI : Nat → Nat → Nat} {cI cZ cL : ClassId} {sz : Nat} (hl0 : l.stackTraces = false) {b0 h0 g0 a0 w0 e0 f0 v2 : Nat} {an ra pl1 sp1 on1 : Int32} {o9 : Nat}  {w : Nat} (hv : w < 6) (hon : on1 = 0) : Met l yn_L_value (Cond.codeWith yn_L_value by_L_value 5 (some FieldType.int) [(0, 10, 13, 21), (0, 10, 17, 15)] :: wd_all) ({ frames := 8, cells := 1, slots := 6, locals := 125 } : Room) (bc_PreX (dC, dI) classes [(cI, .int), (cZ, .boolean), (cL, .long)] [.ref b0, .int 1, .int (nI w), .ref o9] [(b0, .inr (4, [.ref h0, .ref g0, .ref a0, .ref w0, .ref e0, .ref f0, .int an, .int ra])), (f0, .inr (2, [.ref v2, .int pl1, .int sp1, .int on1]))] sz) (va_Qi (fun (r : Int32) (u : Unit) => r = 2) (fun (u : Unit) t => bc_B (dC, dI) classes [(cI, .int), (cZ, .boolean), (cL, .long)] (va_A [(b0, .inr (4, [.ref h0, .ref g0, .ref a0, .ref w0, .ref e0, .ref f0, .int an, .int ra])), (f0, .inr (2, [.ref v2, .int pl1, .int sp1, .int on1]))] sz) [(b0, .inr (4, [.ref h0, .ref g0, .ref a0, .ref w0, .ref e0, .ref f0, .int an, .int ra])), (f0, .inr (2, [.ref v2, .int pl1, .int sp1, .int on1]))] t) ((va_A [(b0, .inr (4, [.ref h0, .ref g0, .ref a0, .ref w0, .ref e0, .ref f0, .int an, .int ra])), (f0, .inr (2, [.ref v2, .int pl1, .int sp1, .int on1]))] sz))) 1 6 (va_A [(b0, .inr (4, [.ref h0, .ref g0, .ref a0, .ref w0, .ref e0, .ref f0, .int an, .int ra])), (f0, .inr (2, [.ref v2, .int pl1, .int sp1, .int on1]))] sz) := by
  refine bc_metW (fun A => va_Qi (fun (r : Int32) (u : Unit) => r = 2) (fun (u : Unit) t => bc_B (dC, dI) classes [(cI, .int), (cZ, .boolean), (cL, .long)] A [(b0, .inr (4, [.ref h0, .ref g0, .ref a0, .ref w0, .ref e0, .ref f0, .int an, .int ra])), (f0, .inr (2, [.ref v2, .int pl1, .int sp1, .int on1]))] t) A) (by decide) (Nat.le_of_ble_eq_true rfl) ?_
  intro p e s m args below meth c A ls F3 hr hlocks hA hP hD hl hS hT9 htab
  have F : bc_Fx p m c by_L_value 5 s args "BranchConstantsLaw" (dC, dI) classes [(cI, .int), (cZ, .boolean)] := ⟨F3.1, F3.2.1, F3.2.2.1, F3.2.2.2.1, F3.2.2.2.2.1, F3.2.2.2.2.2.1, va_K.sub F3.2.2.2.2.2.2 [0, 1] rfl⟩
  have hx := F.1
  have hb := F.2.1
  have hml := F.2.2.1
  have hown : s.vm.findClass "BranchConstantsLaw" = some m.cls := F.2.2.2.1
  have htw := F.2.2.2.2.1
  have hN := F.2.2.2.2.2.1
  have hK := F.2.2.2.2.2.2
  have hK3 := F3.2.2.2.2.2.2
  have hl : lv_has ls 5 [(0, .ref b0), (1, .int 1), (2, .int (nI w)), (3, .ref o9)] := hl
  refine lv_aload_n hx hb de_L_value_0 rfl (lv_at hl 3 rfl) ?_
  refine lv_iconst (v := 0) hx hb de_L_value_1 (by decide) ?_
  refine lv_aload_n hx hb de_L_value_2 rfl (lv_at hl 0 rfl) ?_
  refine lv_iload_n hx hb de_L_value_3 rfl (lv_at hl 1 rfl) ?_
  refine lv_iload_n hx hb de_L_value_4 rfl (lv_at hl 2 rfl) ?_
  refine bc_xcatch (As := [.int 1, .int (nI w)]) (rest := [.int 0, .ref o9]) (pre := [(0, 10, 13, 21)]) (post := []) (sp := 0) (ep := 10) (hp := 17) (ct := 15) F hT9 (cx_B_valuec1 hl0 hv hon) wm_409 wm_1 wm_406 wm_407 wm_408 0 rfl rfl pd_B_value rfl rfl ⟨Nat.le_of_ble_eq_true rfl, Nat.le_of_ble_eq_true rfl⟩ hP (hD.weaken (fun _ _ _ _ => trivial)) [0, 1] rfl rfl rfl hl.1 rfl (Nat.le_of_ble_eq_true rfl) de_L_value_5 ⟨Nat.le_of_ble_eq_true rfl, Nat.le_of_ble_eq_true rfl⟩ htab rfl (List.forall_mem_cons.mpr ⟨⟨"java/lang/IndexOutOfBoundsException", by decide, wm_259, List.mem_of_getElem? (i := 9) rfl⟩, (fun z hz => absurd hz List.not_mem_nil)⟩) (by decide) (by decide) wm_173 (List.mem_of_getElem? (i := 4) rfl) (fun q9 H hk hz => ?_)
  have hS : va_S A s.heap H [] := ⟨hz, fun q h1 _ => hk q h1, fun q hq => absurd hq List.not_mem_nil⟩
  have hP : va_P (dC, dI) classes [(b0, .inr (4, [.ref h0, .ref g0, .ref a0, .ref w0, .ref e0, .ref f0, .int an, .int ra])), (f0, .inr (2, [.ref v2, .int pl1, .int sp1, .int on1]))] H := hP.kept (fun k x hx => hk x.1 ((hP k x hx).lt))
  refine lv_astore (lv' := [(4, .ref q9), (0, .ref b0), (1, .int 1), (2, .int (nI w)), (3, .ref o9)]) hx hb de_L_value_17 hl (by decide) rfl (fun ls hl => ?_)
  refine lv_iconst (v := 2) hx hb de_L_value_19 (by decide) ?_
  exact bc_iret F3 hr hlocks (()) rfl hP hD hS de_L_value_20

