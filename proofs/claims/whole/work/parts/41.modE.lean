/-! Execution (by program: wip/whole/gen/modE.py) -/
theorem bc_pl_ge {n t : Nat} (hn : n < 2 ^ 31) (ht : t < 2 ^ 31) (h : nI n ≤ nI t) : -1 = bc_pl n t := by
  unfold bc_pl
  rw [if_neg (by have := bc_ge hn ht h; omega)]
theorem bc_pl_lt {n t : Nat} (hn : n < 2 ^ 31) (ht : t < 2 ^ 31) (h : ¬ nI n ≤ nI t) : nI t = bc_pl n t := by
  unfold bc_pl
  rw [if_pos (bc_lt hn ht h)]
theorem bc_pl_n (n : Nat) : bc_pl n n = -1 := if_neg (by omega)
theorem bc_pl_tn (n : Nat) (x : Int32) : bc_pl n (bc_tn n x) = bc_pl n x.toNatClampNeg := by
  unfold bc_tn
  by_cases h : x.toNatClampNeg < n
  · rw [if_pos h]
  · rw [if_neg h, bc_pl_n]; exact (if_neg h).symm
theorem bc_k4 {k o t z : Int32} (hw : bc_wi k o t z) (h5 : ¬ k = 5) (h6 : ¬ k = 6) (h7 : ¬ k = 7) : k ≤ 4 := by
  rcases hw with ⟨e, _⟩ | ⟨e, _⟩ | ⟨e, _⟩ | ⟨e, _⟩ | ⟨e, _⟩ | ⟨e, _⟩
  · rw [e]; decide
  · rw [e]; decide
  · rcases e with e | e | e <;> (rw [e]; decide)
  · exact absurd e h5
  · exact absurd e h6
  · exact absurd e h7
theorem bc_as_0 {K T Z X : bc_F} {i : Nat} (h : K i = 0) : T i = bc_as K T Z i X := by unfold bc_as; rw [if_pos h]
theorem bc_as_1 {K T Z X : bc_F} {i tt : Nat} (h0 : ¬ K i = 0) (h : K i = 1) (eT : T i = nI tt) (ht : tt < 6) : X tt = bc_as K T Z i X := by unfold bc_as; rw [if_neg h0, if_pos h, bc_cl6 eT ht]
theorem bc_as_2 {K T Z X : bc_F} {i tt zz : Nat} (h0 : ¬ K i = 0) (h1 : ¬ K i = 1) (eT : T i = nI tt) (ht : tt < 6) (eZ : Z i = nI zz) (hz : zz < 6) : bc_ar (K i) (X tt) (X zz) = bc_as K T Z i X := by unfold bc_as; rw [if_neg h0, if_neg h1, bc_cl6 eT ht, bc_cl6 eZ hz]
theorem bc_st_7 {n i : Nat} {K O T Z X : bc_F} (h : K i = 7) : bc_st n K O T Z i X = (X, bc_pl n n) := by unfold bc_st; rw [if_pos h, bc_pl_n]
theorem bc_st_6 {n i : Nat} {K O T Z X : bc_F} (h : K i = 6) : bc_st n K O T Z i X = (X, bc_pl n (bc_tn n (T i))) := by unfold bc_st; rw [if_neg (by rw [h]; decide), if_pos h, bc_pl_tn]
theorem bc_st_5z {n i o : Nat} {K O T Z X : bc_F} (h : K i = 5) (eO : O i = nI o) (ho : o < 6) (h0 : X o = 0) : bc_st n K O T Z i X = (X, bc_pl n (bc_tn n (T i))) := by unfold bc_st; rw [if_neg (by rw [h]; decide), if_neg (by rw [h]; decide), if_pos h, bc_cl6 eO ho, if_pos h0, bc_pl_tn]
theorem bc_st_5n {n i o : Nat} {K O T Z X : bc_F} (h : K i = 5) (eO : O i = nI o) (ho : o < 6) (h0 : ¬ X o = 0) : bc_st n K O T Z i X = (X, bc_pl n (i + 1)) := by unfold bc_st; rw [if_neg (by rw [h]; decide), if_neg (by rw [h]; decide), if_pos h, bc_cl6 eO ho, if_neg h0]
theorem bc_st_4 {n i o : Nat} {K O T Z X : bc_F} (h5 : ¬ K i = 5) (h6 : ¬ K i = 6) (h7 : ¬ K i = 7) (eO : O i = nI o) (ho : o < 6) : bc_st n K O T Z i X = (upd X o (bc_as K T Z i X), bc_pl n (i + 1)) := by unfold bc_st; rw [if_neg h7, if_neg h6, if_neg h5, bc_cl6 eO ho]
theorem bc_ad (a d : Nat) : a + (d + 1) = a + 1 + d := by omega
theorem bc_rn_stop {n : Nat} {K O T Z X : bc_F} (k : Nat) {p : Int32} (h : p = -1) : bc_rn n K O T Z k (X, p) = ((X, p), 0) := by
  cases k with
  | zero => rfl
  | succ k => unfold bc_rn; rw [if_pos h]
theorem bc_rn_go {n : Nat} {K O T Z X : bc_F} {k j : Nat} {p : Int32} (h : ¬ p = -1) (hp : p = nI j) (hj : j < 2 ^ 31) : bc_rn n K O T Z (k + 1) (X, p) = ((bc_rn n K O T Z k (bc_st n K O T Z j X)).1, (bc_rn n K O T Z k (bc_st n K O T Z j X)).2 + 1) := by
  have e : p.toNatClampNeg = j := by rw [hp]; exact nI_clamp hj
  rw [show bc_rn n K O T Z (k + 1) (X, p) = (if p = -1 then ((X, p), 0) else ((bc_rn n K O T Z k (bc_st n K O T Z p.toNatClampNeg X)).1, (bc_rn n K O T Z k (bc_st n K O T Z p.toNatClampNeg X)).2 + 1)) from rfl, if_neg h, e]
set_option maxHeartbeats 4000000 in
set_option maxRecDepth 100000 in
/-- the next place -/
theorem co_E_goTo {l : Launch} {dC : Nat → ClassId} {dI : Nat → Nat → Nat} {cI cZ : ClassId} {sz : Nat} {e0 v1 : Nat} {X : bc_F} {pl stp on : Int32}{h0 q1 q2 q3 q4 n t : Nat} (hn : n ≤ 40) (ht : t < 2 ^ 31) : Met l yn_E_goTo (Cond.code yn_E_goTo by_E_goTo 3 none :: wd_all) ({ frames := 0, cells := 0, slots := 0, locals := 0 } : Room) (bc_Pre (dC, dI) classes [(cI, .int), (cZ, .boolean)] [.ref e0, .ref h0, .int (nI t)] [(e0, .inr (2, [.ref v1, .int pl, .int stp, .int on])), (v1, .inl (cI, 6, .inl X)), (h0, .inr (1, [.ref q1, .ref q2, .ref q3, .ref q4, .int (nI n)]))] sz) (va_Qv (fun (u : Int32) => u = bc_pl n t) (fun (u : Int32) t => bc_B (dC, dI) classes [(cI, .int), (cZ, .boolean)] (va_A [(e0, .inr (2, [.ref v1, .int pl, .int stp, .int on])), (v1, .inl (cI, 6, .inl X)), (h0, .inr (1, [.ref q1, .ref q2, .ref q3, .ref q4, .int (nI n)]))] sz) [(e0, .inr (2, [.ref v1, .int u, .int stp, .int on])), (v1, .inl (cI, 6, .inl X)), (h0, .inr (1, [.ref q1, .ref q2, .ref q3, .ref q4, .int (nI n)]))] t) ((va_A [(e0, .inr (2, [.ref v1, .int pl, .int stp, .int on])), (v1, .inl (cI, 6, .inl X)), (h0, .inr (1, [.ref q1, .ref q2, .ref q3, .ref q4, .int (nI n)]))] sz))) 0 0 (va_A [(e0, .inr (2, [.ref v1, .int pl, .int stp, .int on])), (v1, .inl (cI, 6, .inl X)), (h0, .inr (1, [.ref q1, .ref q2, .ref q3, .ref q4, .int (nI n)]))] sz) := by
  refine bc_met (fun A => va_Qv (fun (u : Int32) => u = bc_pl n t) (fun (u : Int32) t => bc_B (dC, dI) classes [(cI, .int), (cZ, .boolean)] A [(e0, .inr (2, [.ref v1, .int u, .int stp, .int on])), (v1, .inl (cI, 6, .inl X)), (h0, .inr (1, [.ref q1, .ref q2, .ref q3, .ref q4, .int (nI n)]))] t) A) (by decide) (Nat.le_of_ble_eq_true rfl) ?_
  intro p e s m args below meth c A ls F hr hlocks hin hA hP hD hl hS
  have hx := F.1
  have hb := F.2.1
  have hml := F.2.2.1
  have hown : s.vm.findClass "BranchConstants$Execution" = some m.cls := F.2.2.2.1
  have htw := F.2.2.2.2.1
  have hN := F.2.2.2.2.2.1
  have hK := F.2.2.2.2.2.2
  have hl : lv_has ls 3 [(0, .ref e0), (1, .ref h0), (2, .int (nI t))] := hl
  refine lv_aload_n hx hb de_E_goTo_0 rfl (lv_at hl 0 rfl) ?_
  refine lv_iload_n hx hb de_E_goTo_1 rfl (lv_at hl 2 rfl) ?_
  refine lv_aload_n hx hb de_E_goTo_2 rfl (lv_at hl 1 rfl) ?_
  refine va_getN (D := (dC, dI)) (ci := 1) (v := .int (nI n)) (C := rc_C) (T := fc_C) (N := 5) hx hb htw wi_C hown hK hP 2 rfl rfl 4 (by decide) (va_Nw.use rfl (hN _ nm_16)) (fun _ h9 => h9) rfl de_E_goTo_3 ?_
  refine lv_icmp_ge (tgt := 13) hx hb de_E_goTo_6 (by decide) (fun hc_6 => ?_) (fun hc_6 => ?_)
  · refine lv_iconst (v := (-1)) hx hb de_E_goTo_13 (by decide) ?_
    refine va_put (D := (dC, dI)) (ci := 2) (v := .int ((-1))) (ty := .int) (C := rc_E) (T := fc_E) (N := 4) hx hb htw wi_E tc_E tc_E_ok nc_E hown hK hP hD hS 0 rfl rfl 1 (by decide) (htw _ wm_79) (fun _ h9 => h9) rfl (by decide +kernel) rfl rfl (Nat.le_of_ble_eq_true rfl) de_E_goTo_14 (fun H locs hP hD hS => ?_)
    have hP : va_P (dC, dI) classes [(e0, .inr (2, [.ref v1, .int ((-1)), .int stp, .int on])), (v1, .inl (cI, 6, .inl X)), (h0, .inr (1, [.ref q1, .ref q2, .ref q3, .ref q4, .int (nI n)]))] H := hP
    have hD : va_D A [(e0, .inr (2, [.ref v1, .int ((-1)), .int stp, .int on])), (v1, .inl (cI, 6, .inl X)), (h0, .inr (1, [.ref q1, .ref q2, .ref q3, .ref q4, .int (nI n)]))] := hD
    exact bc_vret F hr hlocks ((-1)) (bc_pl_ge (by omega) ht hc_6) hP hD hS de_E_goTo_17
  · refine lv_iload_n hx hb de_E_goTo_9 rfl (lv_at hl 2 rfl) ?_
    refine lv_goto (tgt := 14) hx hb de_E_goTo_10 (by decide) ?_
    refine va_put (D := (dC, dI)) (ci := 2) (v := .int (nI t)) (ty := .int) (C := rc_E) (T := fc_E) (N := 4) hx hb htw wi_E tc_E tc_E_ok nc_E hown hK hP hD hS 0 rfl rfl 1 (by decide) (htw _ wm_79) (fun _ h9 => h9) rfl (by decide +kernel) rfl rfl (Nat.le_of_ble_eq_true rfl) de_E_goTo_14 (fun H locs hP hD hS => ?_)
    have hP : va_P (dC, dI) classes [(e0, .inr (2, [.ref v1, .int (nI t), .int stp, .int on])), (v1, .inl (cI, 6, .inl X)), (h0, .inr (1, [.ref q1, .ref q2, .ref q3, .ref q4, .int (nI n)]))] H := hP
    have hD : va_D A [(e0, .inr (2, [.ref v1, .int (nI t), .int stp, .int on])), (v1, .inl (cI, 6, .inl X)), (h0, .inr (1, [.ref q1, .ref q2, .ref q3, .ref q4, .int (nI n)]))] := hD
    exact bc_vret F hr hlocks ((nI t)) (bc_pl_lt (by omega) ht hc_6) hP hD hS de_E_goTo_17

set_option maxHeartbeats 4000000 in
set_option maxRecDepth 100000 in
/-- what is assigned -/
theorem co_E_assigned {l : Launch} {dC : Nat → ClassId} {dI : Nat → Nat → Nat} {cI cZ : ClassId} {sz : Nat} {e0 v1 : Nat} {X : bc_F} {pl stp on : Int32}{h0 q1 q2 q3 q4 n : Nat} {K O T Z : bc_F}{i : Nat} (hi : i < 40) (hw : bc_wi (K i) (O i) (T i) (Z i)) (h4 : K i ≤ 4) : Met l yn_E_assigned (Cond.code yn_E_assigned by_E_assigned 4 (some FieldType.int) :: wd_all) ({ frames := 1, cells := 0, slots := 0, locals := 22 } : Room) (bc_Pre (dC, dI) classes [(cI, .int), (cZ, .boolean)] [.ref e0, .ref h0, .int (nI i)] [(e0, .inr (2, [.ref v1, .int pl, .int stp, .int on])), (v1, .inl (cI, 6, .inl X)), (h0, .inr (1, [.ref q1, .ref q2, .ref q3, .ref q4, .int (nI n)])), (q1, .inl (cI, 40, .inl K)), (q2, .inl (cI, 40, .inl O)), (q3, .inl (cI, 40, .inl T)), (q4, .inl (cI, 40, .inl Z))] sz) (va_Qi (fun (r : Int32) (u : Unit) => r = bc_as K T Z i X) (fun (u : Unit) t => bc_B (dC, dI) classes [(cI, .int), (cZ, .boolean)] (va_A [(e0, .inr (2, [.ref v1, .int pl, .int stp, .int on])), (v1, .inl (cI, 6, .inl X)), (h0, .inr (1, [.ref q1, .ref q2, .ref q3, .ref q4, .int (nI n)])), (q1, .inl (cI, 40, .inl K)), (q2, .inl (cI, 40, .inl O)), (q3, .inl (cI, 40, .inl T)), (q4, .inl (cI, 40, .inl Z))] sz) [(e0, .inr (2, [.ref v1, .int pl, .int stp, .int on])), (v1, .inl (cI, 6, .inl X)), (h0, .inr (1, [.ref q1, .ref q2, .ref q3, .ref q4, .int (nI n)])), (q1, .inl (cI, 40, .inl K)), (q2, .inl (cI, 40, .inl O)), (q3, .inl (cI, 40, .inl T)), (q4, .inl (cI, 40, .inl Z))] t) ((va_A [(e0, .inr (2, [.ref v1, .int pl, .int stp, .int on])), (v1, .inl (cI, 6, .inl X)), (h0, .inr (1, [.ref q1, .ref q2, .ref q3, .ref q4, .int (nI n)])), (q1, .inl (cI, 40, .inl K)), (q2, .inl (cI, 40, .inl O)), (q3, .inl (cI, 40, .inl T)), (q4, .inl (cI, 40, .inl Z))] sz))) 0 0 (va_A [(e0, .inr (2, [.ref v1, .int pl, .int stp, .int on])), (v1, .inl (cI, 6, .inl X)), (h0, .inr (1, [.ref q1, .ref q2, .ref q3, .ref q4, .int (nI n)])), (q1, .inl (cI, 40, .inl K)), (q2, .inl (cI, 40, .inl O)), (q3, .inl (cI, 40, .inl T)), (q4, .inl (cI, 40, .inl Z))] sz) := by
  refine bc_met (fun A => va_Qi (fun (r : Int32) (u : Unit) => r = bc_as K T Z i X) (fun (u : Unit) t => bc_B (dC, dI) classes [(cI, .int), (cZ, .boolean)] A [(e0, .inr (2, [.ref v1, .int pl, .int stp, .int on])), (v1, .inl (cI, 6, .inl X)), (h0, .inr (1, [.ref q1, .ref q2, .ref q3, .ref q4, .int (nI n)])), (q1, .inl (cI, 40, .inl K)), (q2, .inl (cI, 40, .inl O)), (q3, .inl (cI, 40, .inl T)), (q4, .inl (cI, 40, .inl Z))] t) A) (by decide) (Nat.le_of_ble_eq_true rfl) ?_
  intro p e s m args below meth c A ls F hr hlocks hin hA hP hD hl hS
  have hx := F.1
  have hb := F.2.1
  have hml := F.2.2.1
  have hown : s.vm.findClass "BranchConstants$Execution" = some m.cls := F.2.2.2.1
  have htw := F.2.2.2.2.1
  have hN := F.2.2.2.2.2.1
  have hK := F.2.2.2.2.2.2
  have hl : lv_has ls 4 [(0, .ref e0), (1, .ref h0), (2, .int (nI i))] := hl
  refine lv_aload_n hx hb de_E_assigned_0 rfl (lv_at hl 1 rfl) ?_
  refine va_getN (D := (dC, dI)) (ci := 1) (v := .ref q1) (C := rc_C) (T := fc_C) (N := 5) hx hb htw wi_C hown hK hP 2 rfl rfl 0 (by decide) (va_Nw.use rfl (hN _ nm_3)) (fun _ h9 => h9) rfl de_E_assigned_1 ?_
  refine lv_iload_n hx hb de_E_assigned_4 rfl (lv_at hl 2 rfl) ?_
  refine bc_ild (j := i) hx hb hK hP 3 0 rfl rfl (by omega) (by decide) de_E_assigned_5 ?_
  refine lv_istore_n (lv' := [(3, .int (K i)), (0, .ref e0), (1, .ref h0), (2, .int (nI i))]) hx hb de_E_assigned_6 rfl hl (by decide) rfl (fun ls hl => ?_)
  refine lv_iload_n hx hb de_E_assigned_7 rfl (lv_at hl 0 rfl) ?_
  refine lv_if_ne (tgt := 18) hx hb de_E_assigned_8 (by decide) (fun hc_8 => ?_) (fun hc_8 => ?_)
  · obtain ⟨tt, htt, eT⟩ := bc_wi_t hw h4 hc_8
    refine lv_iload_n hx hb de_E_assigned_18 rfl (lv_at hl 0 rfl) ?_
    refine lv_iconst (v := 1) hx hb de_E_assigned_19 (by decide) ?_
    refine lv_icmp_ne (tgt := 35) hx hb de_E_assigned_20 (by decide) (fun hc_20 => ?_) (fun hc_20 => ?_)
    · obtain ⟨zz, hzz, eZ⟩ := bc_wi_z hw h4 hc_8 hc_20
      refine lv_iload_n hx hb de_E_assigned_35 rfl (lv_at hl 0 rfl) ?_
      refine lv_aload_n hx hb de_E_assigned_36 rfl (lv_at hl 1 rfl) ?_
      refine va_get (D := (dC, dI)) (ci := 2) (v := .ref v1) (C := rc_E) (T := fc_E) (N := 4) hx hb htw wi_E hown hK hP 0 rfl rfl 0 (by decide) (htw _ wm_78) (fun _ h9 => h9) rfl de_E_assigned_37 ?_
      refine lv_aload_n hx hb de_E_assigned_40 rfl (lv_at hl 2 rfl) ?_
      refine va_getN (D := (dC, dI)) (ci := 1) (v := .ref q3) (C := rc_C) (T := fc_C) (N := 5) hx hb htw wi_C hown hK hP 2 rfl rfl 2 (by decide) (va_Nw.use rfl (hN _ nm_8)) (fun _ h9 => h9) rfl de_E_assigned_41 ?_
      refine lv_iload_n hx hb de_E_assigned_44 rfl (lv_at hl 3 rfl) ?_
      refine bc_ild (j := i) hx hb hK hP 5 0 rfl rfl (by omega) (by decide) de_E_assigned_45 ?_
      refine bc_ti (y := nI tt) eT ?_
      refine bc_ild (j := tt) hx hb hK hP 1 0 rfl rfl (by omega) (by decide) de_E_assigned_46 ?_
      refine lv_aload_n hx hb de_E_assigned_47 rfl (lv_at hl 1 rfl) ?_
      refine va_get (D := (dC, dI)) (ci := 2) (v := .ref v1) (C := rc_E) (T := fc_E) (N := 4) hx hb htw wi_E hown hK hP 0 rfl rfl 0 (by decide) (htw _ wm_78) (fun _ h9 => h9) rfl de_E_assigned_48 ?_
      refine lv_aload_n hx hb de_E_assigned_51 rfl (lv_at hl 2 rfl) ?_
      refine va_getN (D := (dC, dI)) (ci := 1) (v := .ref q4) (C := rc_C) (T := fc_C) (N := 5) hx hb htw wi_C hown hK hP 2 rfl rfl 3 (by decide) (va_Nw.use rfl (hN _ nm_10)) (fun _ h9 => h9) rfl de_E_assigned_52 ?_
      refine lv_iload_n hx hb de_E_assigned_55 rfl (lv_at hl 3 rfl) ?_
      refine bc_ild (j := i) hx hb hK hP 6 0 rfl rfl (by omega) (by decide) de_E_assigned_56 ?_
      refine bc_ti (y := nI zz) eZ ?_
      refine bc_ild (j := zz) hx hb hK hP 1 0 rfl rfl (by omega) (by decide) de_E_assigned_57 ?_
      refine bc_call_ns_i (As := [.int (K i), .int (X tt), .int (X zz)]) (rest := []) (wr := [(e0, .inr (2, [.ref v1, .int pl, .int stp, .int on])), (v1, .inl (cI, 6, .inl X)), (h0, .inr (1, [.ref q1, .ref q2, .ref q3, .ref q4, .int (nI n)])), (q1, .inl (cI, 40, .inl K)), (q2, .inl (cI, 40, .inl O)), (q3, .inl (cI, 40, .inl T)), (q4, .inl (cI, 40, .inl Z))]) F (co_B_calculate) wm_146 wm_1 nm_49 wm_145 pd_B_calculate rfl rfl ⟨Nat.le_of_ble_eq_true rfl, Nat.le_of_ble_eq_true rfl⟩ hP hD hS hA [] [0, 1, 2, 3, 4, 5, 6] rfl rfl rfl rfl (by decide) rfl hl.1 rfl (Nat.le_of_ble_eq_true rfl) de_E_assigned_58 ⟨Nat.le_of_ble_eq_true rfl, Nat.le_of_ble_eq_true rfl⟩ (fun r_58 u_58 H locs hw_58 hP hD hS => ?_)
      have hP : va_P (dC, dI) classes [(e0, .inr (2, [.ref v1, .int pl, .int stp, .int on])), (v1, .inl (cI, 6, .inl X)), (h0, .inr (1, [.ref q1, .ref q2, .ref q3, .ref q4, .int (nI n)])), (q1, .inl (cI, 40, .inl K)), (q2, .inl (cI, 40, .inl O)), (q3, .inl (cI, 40, .inl T)), (q4, .inl (cI, 40, .inl Z))] H := hP.sub [0, 1, 2, 3, 4, 5, 6] rfl
      have hD : va_D A [(e0, .inr (2, [.ref v1, .int pl, .int stp, .int on])), (v1, .inl (cI, 6, .inl X)), (h0, .inr (1, [.ref q1, .ref q2, .ref q3, .ref q4, .int (nI n)])), (q1, .inl (cI, 40, .inl K)), (q2, .inl (cI, 40, .inl O)), (q3, .inl (cI, 40, .inl T)), (q4, .inl (cI, 40, .inl Z))] := hD.sub [0, 1, 2, 3, 4, 5, 6] (by decide) rfl
      subst hw_58
      exact bc_iret F hr hlocks (()) (bc_as_2 hc_8 hc_20 eT htt eZ hzz) hP hD hS de_E_assigned_61
    · refine lv_aload_n hx hb de_E_assigned_23 rfl (lv_at hl 1 rfl) ?_
      refine va_get (D := (dC, dI)) (ci := 2) (v := .ref v1) (C := rc_E) (T := fc_E) (N := 4) hx hb htw wi_E hown hK hP 0 rfl rfl 0 (by decide) (htw _ wm_78) (fun _ h9 => h9) rfl de_E_assigned_24 ?_
      refine lv_aload_n hx hb de_E_assigned_27 rfl (lv_at hl 2 rfl) ?_
      refine va_getN (D := (dC, dI)) (ci := 1) (v := .ref q3) (C := rc_C) (T := fc_C) (N := 5) hx hb htw wi_C hown hK hP 2 rfl rfl 2 (by decide) (va_Nw.use rfl (hN _ nm_8)) (fun _ h9 => h9) rfl de_E_assigned_28 ?_
      refine lv_iload_n hx hb de_E_assigned_31 rfl (lv_at hl 3 rfl) ?_
      refine bc_ild (j := i) hx hb hK hP 5 0 rfl rfl (by omega) (by decide) de_E_assigned_32 ?_
      refine bc_ti (y := nI tt) eT ?_
      refine bc_ild (j := tt) hx hb hK hP 1 0 rfl rfl (by omega) (by decide) de_E_assigned_33 ?_
      exact bc_iret F hr hlocks (()) (bc_as_1 hc_8 hc_20 eT htt) hP hD hS de_E_assigned_34
  · refine lv_aload_n hx hb de_E_assigned_11 rfl (lv_at hl 2 rfl) ?_
    refine va_getN (D := (dC, dI)) (ci := 1) (v := .ref q3) (C := rc_C) (T := fc_C) (N := 5) hx hb htw wi_C hown hK hP 2 rfl rfl 2 (by decide) (va_Nw.use rfl (hN _ nm_8)) (fun _ h9 => h9) rfl de_E_assigned_12 ?_
    refine lv_iload_n hx hb de_E_assigned_15 rfl (lv_at hl 3 rfl) ?_
    refine bc_ild (j := i) hx hb hK hP 5 0 rfl rfl (by omega) (by decide) de_E_assigned_16 ?_
    exact bc_iret F hr hlocks (()) (bc_as_0 hc_8) hP hD hS de_E_assigned_17

set_option maxHeartbeats 4000000 in
set_option maxRecDepth 100000 in
/-- a step -/
theorem co_E_step {l : Launch} {dC : Nat → ClassId} {dI : Nat → Nat → Nat} {cI cZ : ClassId} {sz : Nat} {e0 v1 : Nat} {X : bc_F} {pl stp on : Int32}{h0 q1 q2 q3 q4 n : Nat} {K O T Z : bc_F}{i : Nat} (hn : n ≤ 40) (hi : i < n) (hw : bc_wf n K O T Z) : Met l yn_E_step (Cond.code yn_E_step by_E_step 3 none :: wd_all) ({ frames := 2, cells := 0, slots := 0, locals := 45 } : Room) (bc_Pre (dC, dI) classes [(cI, .int), (cZ, .boolean)] [.ref e0, .ref h0, .int (nI i)] [(e0, .inr (2, [.ref v1, .int pl, .int stp, .int on])), (v1, .inl (cI, 6, .inl X)), (h0, .inr (1, [.ref q1, .ref q2, .ref q3, .ref q4, .int (nI n)])), (q1, .inl (cI, 40, .inl K)), (q2, .inl (cI, 40, .inl O)), (q3, .inl (cI, 40, .inl T)), (q4, .inl (cI, 40, .inl Z))] sz) (va_Qv (fun (u : bc_F × Int32) => u = bc_st n K O T Z i X) (fun (u : bc_F × Int32) t => bc_B (dC, dI) classes [(cI, .int), (cZ, .boolean)] (va_A [(e0, .inr (2, [.ref v1, .int pl, .int stp, .int on])), (v1, .inl (cI, 6, .inl X)), (h0, .inr (1, [.ref q1, .ref q2, .ref q3, .ref q4, .int (nI n)])), (q1, .inl (cI, 40, .inl K)), (q2, .inl (cI, 40, .inl O)), (q3, .inl (cI, 40, .inl T)), (q4, .inl (cI, 40, .inl Z))] sz) [(e0, .inr (2, [.ref v1, .int u.2, .int stp, .int on])), (v1, .inl (cI, 6, .inl u.1)), (h0, .inr (1, [.ref q1, .ref q2, .ref q3, .ref q4, .int (nI n)])), (q1, .inl (cI, 40, .inl K)), (q2, .inl (cI, 40, .inl O)), (q3, .inl (cI, 40, .inl T)), (q4, .inl (cI, 40, .inl Z))] t) ((va_A [(e0, .inr (2, [.ref v1, .int pl, .int stp, .int on])), (v1, .inl (cI, 6, .inl X)), (h0, .inr (1, [.ref q1, .ref q2, .ref q3, .ref q4, .int (nI n)])), (q1, .inl (cI, 40, .inl K)), (q2, .inl (cI, 40, .inl O)), (q3, .inl (cI, 40, .inl T)), (q4, .inl (cI, 40, .inl Z))] sz))) 0 0 (va_A [(e0, .inr (2, [.ref v1, .int pl, .int stp, .int on])), (v1, .inl (cI, 6, .inl X)), (h0, .inr (1, [.ref q1, .ref q2, .ref q3, .ref q4, .int (nI n)])), (q1, .inl (cI, 40, .inl K)), (q2, .inl (cI, 40, .inl O)), (q3, .inl (cI, 40, .inl T)), (q4, .inl (cI, 40, .inl Z))] sz) := by
  refine bc_met (fun A => va_Qv (fun (u : bc_F × Int32) => u = bc_st n K O T Z i X) (fun (u : bc_F × Int32) t => bc_B (dC, dI) classes [(cI, .int), (cZ, .boolean)] A [(e0, .inr (2, [.ref v1, .int u.2, .int stp, .int on])), (v1, .inl (cI, 6, .inl u.1)), (h0, .inr (1, [.ref q1, .ref q2, .ref q3, .ref q4, .int (nI n)])), (q1, .inl (cI, 40, .inl K)), (q2, .inl (cI, 40, .inl O)), (q3, .inl (cI, 40, .inl T)), (q4, .inl (cI, 40, .inl Z))] t) A) (by decide) (Nat.le_of_ble_eq_true rfl) ?_
  intro p e s m args below meth c A ls F hr hlocks hin hA hP hD hl hS
  have hx := F.1
  have hb := F.2.1
  have hml := F.2.2.1
  have hown : s.vm.findClass "BranchConstants$Execution" = some m.cls := F.2.2.2.1
  have htw := F.2.2.2.2.1
  have hN := F.2.2.2.2.2.1
  have hK := F.2.2.2.2.2.2
  have hl : lv_has ls 3 [(0, .ref e0), (1, .ref h0), (2, .int (nI i))] := hl
  refine lv_aload_n hx hb de_E_step_0 rfl (lv_at hl 1 rfl) ?_
  refine va_getN (D := (dC, dI)) (ci := 1) (v := .ref q1) (C := rc_C) (T := fc_C) (N := 5) hx hb htw wi_C hown hK hP 2 rfl rfl 0 (by decide) (va_Nw.use rfl (hN _ nm_3)) (fun _ h9 => h9) rfl de_E_step_1 ?_
  refine lv_iload_n hx hb de_E_step_4 rfl (lv_at hl 2 rfl) ?_
  refine bc_ild (j := i) hx hb hK hP 3 0 rfl rfl (by omega) (by decide) de_E_step_5 ?_
  by_cases hs_6_5 : K i = 5
  · refine bc_ti hs_6_5 ?_
    refine lv_tableIn (off := 51) (tgt := 57) hx hb de_E_step_6 (by decide) (by decide) rfl (by decide) ?_
    obtain ⟨⟨o, ho, eO⟩, htr⟩ := bc_wi_5 (hw i hi) hs_6_5
    refine lv_aload_n hx hb de_E_step_57 rfl (lv_at hl 0 rfl) ?_
    refine lv_aload_n hx hb de_E_step_58 rfl (lv_at hl 1 rfl) ?_
    refine lv_aload_n hx hb de_E_step_59 rfl (lv_at hl 0 rfl) ?_
    refine va_get (D := (dC, dI)) (ci := 2) (v := .ref v1) (C := rc_E) (T := fc_E) (N := 4) hx hb htw wi_E hown hK hP 0 rfl rfl 0 (by decide) (htw _ wm_78) (fun _ h9 => h9) rfl de_E_step_60 ?_
    refine lv_aload_n hx hb de_E_step_63 rfl (lv_at hl 1 rfl) ?_
    refine va_getN (D := (dC, dI)) (ci := 1) (v := .ref q2) (C := rc_C) (T := fc_C) (N := 5) hx hb htw wi_C hown hK hP 2 rfl rfl 1 (by decide) (va_Nw.use rfl (hN _ nm_6)) (fun _ h9 => h9) rfl de_E_step_64 ?_
    refine lv_iload_n hx hb de_E_step_67 rfl (lv_at hl 2 rfl) ?_
    refine bc_ild (j := i) hx hb hK hP 4 0 rfl rfl (by omega) (by decide) de_E_step_68 ?_
    refine bc_ti (y := nI o) eO ?_
    refine bc_ild (j := o) hx hb hK hP 1 0 rfl rfl (by omega) (by decide) de_E_step_69 ?_
    refine lv_if_ne (tgt := 81) hx hb de_E_step_70 (by decide) (fun hc_70 => ?_) (fun hc_70 => ?_)
    · refine lv_iload_n hx hb de_E_step_81 rfl (lv_at hl 2 rfl) ?_
      refine lv_iconst (v := 1) hx hb de_E_step_82 (by decide) ?_
      refine lv_iadd hx hb de_E_step_83 ?_
      refine bc_ti (y := nI (i + 1)) (nI_1 i) ?_
      refine bc_call_v_v (As := [.ref h0, .int (nI (i + 1))]) (rest := []) (wr := [(q1, .inl (cI, 40, .inl K)), (q2, .inl (cI, 40, .inl O)), (q3, .inl (cI, 40, .inl T)), (q4, .inl (cI, 40, .inl Z))]) F (co_E_goTo hn (by omega)) wm_377 wm_5 wm_375 wm_376 wm_625 0 rfl rfl pd_E_goTo rfl rfl ⟨Nat.le_of_ble_eq_true rfl, Nat.le_of_ble_eq_true rfl⟩ hP hD hS hA [0, 1, 2] [3, 4, 5, 6] rfl rfl rfl rfl (by decide) rfl hl.1 rfl (Nat.le_of_ble_eq_true rfl) de_E_step_84 ⟨Nat.le_of_ble_eq_true rfl, Nat.le_of_ble_eq_true rfl⟩ (fun u_84 H locs hw_84 hP hD hS => ?_)
      subst hw_84
      have hP : va_P (dC, dI) classes [(e0, .inr (2, [.ref v1, .int (bc_pl n (i + 1)), .int stp, .int on])), (v1, .inl (cI, 6, .inl X)), (h0, .inr (1, [.ref q1, .ref q2, .ref q3, .ref q4, .int (nI n)])), (q1, .inl (cI, 40, .inl K)), (q2, .inl (cI, 40, .inl O)), (q3, .inl (cI, 40, .inl T)), (q4, .inl (cI, 40, .inl Z))] H := hP.sub [4, 5, 6, 0, 1, 2, 3] rfl
      have hD : va_D A [(e0, .inr (2, [.ref v1, .int (bc_pl n (i + 1)), .int stp, .int on])), (v1, .inl (cI, 6, .inl X)), (h0, .inr (1, [.ref q1, .ref q2, .ref q3, .ref q4, .int (nI n)])), (q1, .inl (cI, 40, .inl K)), (q2, .inl (cI, 40, .inl O)), (q3, .inl (cI, 40, .inl T)), (q4, .inl (cI, 40, .inl Z))] := hD.sub [4, 5, 6, 0, 1, 2, 3] (by decide) rfl
      refine lv_goto (tgt := 115) hx hb de_E_step_87 (by decide) ?_
      exact bc_vret F hr hlocks ((X, bc_pl n (i + 1))) (Eq.symm (bc_st_5n hs_6_5 eO ho hc_70)) hP hD hS de_E_step_115
    · refine lv_aload_n hx hb de_E_step_73 rfl (lv_at hl 1 rfl) ?_
      refine lv_iload_n hx hb de_E_step_74 rfl (lv_at hl 2 rfl) ?_
      refine bc_call_nv_i (As := [.int (nI i)]) (rest := [.ref h0, .ref e0]) (wr := [(e0, .inr (2, [.ref v1, .int pl, .int stp, .int on])), (v1, .inl (cI, 6, .inl X))]) F (co_C_target (by omega) hn htr) wm_154 wm_2 nm_48 wm_153 wm_601 2 rfl rfl pd_C_target rfl rfl ⟨Nat.le_of_ble_eq_true rfl, Nat.le_of_ble_eq_true rfl⟩ hP hD hS hA [2, 3, 4, 5, 6] [0, 1] rfl rfl rfl rfl (by decide) rfl hl.1 rfl (Nat.le_of_ble_eq_true rfl) de_E_step_75 ⟨Nat.le_of_ble_eq_true rfl, Nat.le_of_ble_eq_true rfl⟩ (fun r_75 u_75 H locs hw_75 hP hD hS => ?_)
      have hP : va_P (dC, dI) classes [(e0, .inr (2, [.ref v1, .int pl, .int stp, .int on])), (v1, .inl (cI, 6, .inl X)), (h0, .inr (1, [.ref q1, .ref q2, .ref q3, .ref q4, .int (nI n)])), (q1, .inl (cI, 40, .inl K)), (q2, .inl (cI, 40, .inl O)), (q3, .inl (cI, 40, .inl T)), (q4, .inl (cI, 40, .inl Z))] H := hP.sub [0, 1, 2, 3, 4, 5, 6] rfl
      have hD : va_D A [(e0, .inr (2, [.ref v1, .int pl, .int stp, .int on])), (v1, .inl (cI, 6, .inl X)), (h0, .inr (1, [.ref q1, .ref q2, .ref q3, .ref q4, .int (nI n)])), (q1, .inl (cI, 40, .inl K)), (q2, .inl (cI, 40, .inl O)), (q3, .inl (cI, 40, .inl T)), (q4, .inl (cI, 40, .inl Z))] := hD.sub [0, 1, 2, 3, 4, 5, 6] (by decide) rfl
      subst hw_75
      refine lv_goto (tgt := 84) hx hb de_E_step_78 (by decide) ?_
      refine bc_call_v_v (As := [.ref h0, .int (nI (bc_tn n (T i)))]) (rest := []) (wr := [(q1, .inl (cI, 40, .inl K)), (q2, .inl (cI, 40, .inl O)), (q3, .inl (cI, 40, .inl T)), (q4, .inl (cI, 40, .inl Z))]) F (co_E_goTo hn (by have := bc_tn_le n (T i); omega)) wm_377 wm_5 wm_375 wm_376 wm_625 0 rfl rfl pd_E_goTo rfl rfl ⟨Nat.le_of_ble_eq_true rfl, Nat.le_of_ble_eq_true rfl⟩ hP hD hS hA [0, 1, 2] [3, 4, 5, 6] rfl rfl rfl rfl (by decide) rfl hl.1 rfl (Nat.le_of_ble_eq_true rfl) de_E_step_84 ⟨Nat.le_of_ble_eq_true rfl, Nat.le_of_ble_eq_true rfl⟩ (fun u_84 H locs hw_84 hP hD hS => ?_)
      subst hw_84
      have hP : va_P (dC, dI) classes [(e0, .inr (2, [.ref v1, .int (bc_pl n (bc_tn n (T i))), .int stp, .int on])), (v1, .inl (cI, 6, .inl X)), (h0, .inr (1, [.ref q1, .ref q2, .ref q3, .ref q4, .int (nI n)])), (q1, .inl (cI, 40, .inl K)), (q2, .inl (cI, 40, .inl O)), (q3, .inl (cI, 40, .inl T)), (q4, .inl (cI, 40, .inl Z))] H := hP.sub [4, 5, 6, 0, 1, 2, 3] rfl
      have hD : va_D A [(e0, .inr (2, [.ref v1, .int (bc_pl n (bc_tn n (T i))), .int stp, .int on])), (v1, .inl (cI, 6, .inl X)), (h0, .inr (1, [.ref q1, .ref q2, .ref q3, .ref q4, .int (nI n)])), (q1, .inl (cI, 40, .inl K)), (q2, .inl (cI, 40, .inl O)), (q3, .inl (cI, 40, .inl T)), (q4, .inl (cI, 40, .inl Z))] := hD.sub [4, 5, 6, 0, 1, 2, 3] (by decide) rfl
      refine lv_goto (tgt := 115) hx hb de_E_step_87 (by decide) ?_
      exact bc_vret F hr hlocks ((X, bc_pl n (bc_tn n (T i)))) (Eq.symm (bc_st_5z hs_6_5 eO ho hc_70)) hP hD hS de_E_step_115
  by_cases hs_6_6 : K i = 6
  · refine bc_ti hs_6_6 ?_
    refine lv_tableIn (off := 38) (tgt := 44) hx hb de_E_step_6 (by decide) (by decide) rfl (by decide) ?_
    refine lv_aload_n hx hb de_E_step_44 rfl (lv_at hl 0 rfl) ?_
    refine lv_aload_n hx hb de_E_step_45 rfl (lv_at hl 1 rfl) ?_
    refine lv_aload_n hx hb de_E_step_46 rfl (lv_at hl 1 rfl) ?_
    refine lv_iload_n hx hb de_E_step_47 rfl (lv_at hl 2 rfl) ?_
    refine bc_call_nv_i (As := [.int (nI i)]) (rest := [.ref h0, .ref e0]) (wr := [(e0, .inr (2, [.ref v1, .int pl, .int stp, .int on])), (v1, .inl (cI, 6, .inl X))]) F (co_C_target (by omega) hn (bc_wi_6 (hw i hi) hs_6_6)) wm_154 wm_2 nm_48 wm_153 wm_601 2 rfl rfl pd_C_target rfl rfl ⟨Nat.le_of_ble_eq_true rfl, Nat.le_of_ble_eq_true rfl⟩ hP hD hS hA [2, 3, 4, 5, 6] [0, 1] rfl rfl rfl rfl (by decide) rfl hl.1 rfl (Nat.le_of_ble_eq_true rfl) de_E_step_48 ⟨Nat.le_of_ble_eq_true rfl, Nat.le_of_ble_eq_true rfl⟩ (fun r_48 u_48 H locs hw_48 hP hD hS => ?_)
    have hP : va_P (dC, dI) classes [(e0, .inr (2, [.ref v1, .int pl, .int stp, .int on])), (v1, .inl (cI, 6, .inl X)), (h0, .inr (1, [.ref q1, .ref q2, .ref q3, .ref q4, .int (nI n)])), (q1, .inl (cI, 40, .inl K)), (q2, .inl (cI, 40, .inl O)), (q3, .inl (cI, 40, .inl T)), (q4, .inl (cI, 40, .inl Z))] H := hP.sub [0, 1, 2, 3, 4, 5, 6] rfl
    have hD : va_D A [(e0, .inr (2, [.ref v1, .int pl, .int stp, .int on])), (v1, .inl (cI, 6, .inl X)), (h0, .inr (1, [.ref q1, .ref q2, .ref q3, .ref q4, .int (nI n)])), (q1, .inl (cI, 40, .inl K)), (q2, .inl (cI, 40, .inl O)), (q3, .inl (cI, 40, .inl T)), (q4, .inl (cI, 40, .inl Z))] := hD.sub [0, 1, 2, 3, 4, 5, 6] (by decide) rfl
    subst hw_48
    refine bc_call_v_v (As := [.ref h0, .int (nI (bc_tn n (T i)))]) (rest := []) (wr := [(q1, .inl (cI, 40, .inl K)), (q2, .inl (cI, 40, .inl O)), (q3, .inl (cI, 40, .inl T)), (q4, .inl (cI, 40, .inl Z))]) F (co_E_goTo hn (by have := bc_tn_le n (T i); omega)) wm_377 wm_5 wm_375 wm_376 wm_625 0 rfl rfl pd_E_goTo rfl rfl ⟨Nat.le_of_ble_eq_true rfl, Nat.le_of_ble_eq_true rfl⟩ hP hD hS hA [0, 1, 2] [3, 4, 5, 6] rfl rfl rfl rfl (by decide) rfl hl.1 rfl (Nat.le_of_ble_eq_true rfl) de_E_step_51 ⟨Nat.le_of_ble_eq_true rfl, Nat.le_of_ble_eq_true rfl⟩ (fun u_51 H locs hw_51 hP hD hS => ?_)
    subst hw_51
    have hP : va_P (dC, dI) classes [(e0, .inr (2, [.ref v1, .int (bc_pl n (bc_tn n (T i))), .int stp, .int on])), (v1, .inl (cI, 6, .inl X)), (h0, .inr (1, [.ref q1, .ref q2, .ref q3, .ref q4, .int (nI n)])), (q1, .inl (cI, 40, .inl K)), (q2, .inl (cI, 40, .inl O)), (q3, .inl (cI, 40, .inl T)), (q4, .inl (cI, 40, .inl Z))] H := hP.sub [4, 5, 6, 0, 1, 2, 3] rfl
    have hD : va_D A [(e0, .inr (2, [.ref v1, .int (bc_pl n (bc_tn n (T i))), .int stp, .int on])), (v1, .inl (cI, 6, .inl X)), (h0, .inr (1, [.ref q1, .ref q2, .ref q3, .ref q4, .int (nI n)])), (q1, .inl (cI, 40, .inl K)), (q2, .inl (cI, 40, .inl O)), (q3, .inl (cI, 40, .inl T)), (q4, .inl (cI, 40, .inl Z))] := hD.sub [4, 5, 6, 0, 1, 2, 3] (by decide) rfl
    refine lv_goto (tgt := 115) hx hb de_E_step_54 (by decide) ?_
    exact bc_vret F hr hlocks ((X, bc_pl n (bc_tn n (T i)))) (Eq.symm (bc_st_6 hs_6_6)) hP hD hS de_E_step_115
  by_cases hs_6_7 : K i = 7
  · refine bc_ti hs_6_7 ?_
    refine lv_tableIn (off := 26) (tgt := 32) hx hb de_E_step_6 (by decide) (by decide) rfl (by decide) ?_
    refine lv_aload_n hx hb de_E_step_32 rfl (lv_at hl 0 rfl) ?_
    refine lv_aload_n hx hb de_E_step_33 rfl (lv_at hl 1 rfl) ?_
    refine lv_aload_n hx hb de_E_step_34 rfl (lv_at hl 1 rfl) ?_
    refine va_getN (D := (dC, dI)) (ci := 1) (v := .int (nI n)) (C := rc_C) (T := fc_C) (N := 5) hx hb htw wi_C hown hK hP 2 rfl rfl 4 (by decide) (va_Nw.use rfl (hN _ nm_16)) (fun _ h9 => h9) rfl de_E_step_35 ?_
    refine bc_call_v_v (As := [.ref h0, .int (nI n)]) (rest := []) (wr := [(q1, .inl (cI, 40, .inl K)), (q2, .inl (cI, 40, .inl O)), (q3, .inl (cI, 40, .inl T)), (q4, .inl (cI, 40, .inl Z))]) F (co_E_goTo hn (by omega)) wm_377 wm_5 wm_375 wm_376 wm_625 0 rfl rfl pd_E_goTo rfl rfl ⟨Nat.le_of_ble_eq_true rfl, Nat.le_of_ble_eq_true rfl⟩ hP hD hS hA [0, 1, 2] [3, 4, 5, 6] rfl rfl rfl rfl (by decide) rfl hl.1 rfl (Nat.le_of_ble_eq_true rfl) de_E_step_38 ⟨Nat.le_of_ble_eq_true rfl, Nat.le_of_ble_eq_true rfl⟩ (fun u_38 H locs hw_38 hP hD hS => ?_)
    subst hw_38
    have hP : va_P (dC, dI) classes [(e0, .inr (2, [.ref v1, .int (bc_pl n n), .int stp, .int on])), (v1, .inl (cI, 6, .inl X)), (h0, .inr (1, [.ref q1, .ref q2, .ref q3, .ref q4, .int (nI n)])), (q1, .inl (cI, 40, .inl K)), (q2, .inl (cI, 40, .inl O)), (q3, .inl (cI, 40, .inl T)), (q4, .inl (cI, 40, .inl Z))] H := hP.sub [4, 5, 6, 0, 1, 2, 3] rfl
    have hD : va_D A [(e0, .inr (2, [.ref v1, .int (bc_pl n n), .int stp, .int on])), (v1, .inl (cI, 6, .inl X)), (h0, .inr (1, [.ref q1, .ref q2, .ref q3, .ref q4, .int (nI n)])), (q1, .inl (cI, 40, .inl K)), (q2, .inl (cI, 40, .inl O)), (q3, .inl (cI, 40, .inl T)), (q4, .inl (cI, 40, .inl Z))] := hD.sub [4, 5, 6, 0, 1, 2, 3] (by decide) rfl
    refine lv_goto (tgt := 115) hx hb de_E_step_41 (by decide) ?_
    exact bc_vret F hr hlocks ((X, bc_pl n n)) (Eq.symm (bc_st_7 hs_6_7)) hP hD hS de_E_step_115
  refine lv_tableOut (tgt := 90) hx hb de_E_step_6 (bc_to_5_7 hs_6_5 hs_6_6 hs_6_7) (by decide) ?_
  have h4 := bc_k4 (hw i hi) hs_6_5 hs_6_6 hs_6_7
  obtain ⟨o, ho, eO⟩ := bc_wi_o (hw i hi) h4
  refine lv_aload_n hx hb de_E_step_90 rfl (lv_at hl 0 rfl) ?_
  refine va_get (D := (dC, dI)) (ci := 2) (v := .ref v1) (C := rc_E) (T := fc_E) (N := 4) hx hb htw wi_E hown hK hP 0 rfl rfl 0 (by decide) (htw _ wm_78) (fun _ h9 => h9) rfl de_E_step_91 ?_
  refine lv_aload_n hx hb de_E_step_94 rfl (lv_at hl 1 rfl) ?_
  refine va_getN (D := (dC, dI)) (ci := 1) (v := .ref q2) (C := rc_C) (T := fc_C) (N := 5) hx hb htw wi_C hown hK hP 2 rfl rfl 1 (by decide) (va_Nw.use rfl (hN _ nm_6)) (fun _ h9 => h9) rfl de_E_step_95 ?_
  refine lv_iload_n hx hb de_E_step_98 rfl (lv_at hl 2 rfl) ?_
  refine bc_ild (j := i) hx hb hK hP 4 0 rfl rfl (by omega) (by decide) de_E_step_99 ?_
  refine bc_ti (y := nI o) eO ?_
  refine lv_aload_n hx hb de_E_step_100 rfl (lv_at hl 0 rfl) ?_
  refine lv_aload_n hx hb de_E_step_101 rfl (lv_at hl 1 rfl) ?_
  refine lv_iload_n hx hb de_E_step_102 rfl (lv_at hl 2 rfl) ?_
  refine bc_call_v_i (As := [.ref h0, .int (nI i)]) (rest := [.int (nI o), .ref v1]) (wr := []) F (co_E_assigned (by omega) (hw i hi) h4) wm_395 wm_5 wm_393 wm_394 wm_629 0 rfl rfl pd_E_assigned rfl rfl ⟨Nat.le_of_ble_eq_true rfl, Nat.le_of_ble_eq_true rfl⟩ hP hD hS hA [0, 1, 2, 3, 4, 5, 6] [] rfl rfl rfl rfl (by decide) rfl hl.1 rfl (Nat.le_of_ble_eq_true rfl) de_E_step_103 ⟨Nat.le_of_ble_eq_true rfl, Nat.le_of_ble_eq_true rfl⟩ (fun r_103 u_103 H locs hw_103 hP hD hS => ?_)
  have hP : va_P (dC, dI) classes [(e0, .inr (2, [.ref v1, .int pl, .int stp, .int on])), (v1, .inl (cI, 6, .inl X)), (h0, .inr (1, [.ref q1, .ref q2, .ref q3, .ref q4, .int (nI n)])), (q1, .inl (cI, 40, .inl K)), (q2, .inl (cI, 40, .inl O)), (q3, .inl (cI, 40, .inl T)), (q4, .inl (cI, 40, .inl Z))] H := hP.sub [0, 1, 2, 3, 4, 5, 6] rfl
  have hD : va_D A [(e0, .inr (2, [.ref v1, .int pl, .int stp, .int on])), (v1, .inl (cI, 6, .inl X)), (h0, .inr (1, [.ref q1, .ref q2, .ref q3, .ref q4, .int (nI n)])), (q1, .inl (cI, 40, .inl K)), (q2, .inl (cI, 40, .inl O)), (q3, .inl (cI, 40, .inl T)), (q4, .inl (cI, 40, .inl Z))] := hD.sub [0, 1, 2, 3, 4, 5, 6] (by decide) rfl
  subst hw_103
  refine bc_ist (j := o) hx hb hK hP hD hS 1 0 rfl rfl (by omega) (by decide) de_E_step_106 (fun H locs hP hD hS => ?_)
  have hP : va_P (dC, dI) classes [(e0, .inr (2, [.ref v1, .int pl, .int stp, .int on])), (v1, .inl (cI, 6, .inl (upd X o (bc_as K T Z i X)))), (h0, .inr (1, [.ref q1, .ref q2, .ref q3, .ref q4, .int (nI n)])), (q1, .inl (cI, 40, .inl K)), (q2, .inl (cI, 40, .inl O)), (q3, .inl (cI, 40, .inl T)), (q4, .inl (cI, 40, .inl Z))] H := hP
  have hD : va_D A [(e0, .inr (2, [.ref v1, .int pl, .int stp, .int on])), (v1, .inl (cI, 6, .inl (upd X o (bc_as K T Z i X)))), (h0, .inr (1, [.ref q1, .ref q2, .ref q3, .ref q4, .int (nI n)])), (q1, .inl (cI, 40, .inl K)), (q2, .inl (cI, 40, .inl O)), (q3, .inl (cI, 40, .inl T)), (q4, .inl (cI, 40, .inl Z))] := hD
  refine lv_aload_n hx hb de_E_step_107 rfl (lv_at hl 0 rfl) ?_
  refine lv_aload_n hx hb de_E_step_108 rfl (lv_at hl 1 rfl) ?_
  refine lv_iload_n hx hb de_E_step_109 rfl (lv_at hl 2 rfl) ?_
  refine lv_iconst (v := 1) hx hb de_E_step_110 (by decide) ?_
  refine lv_iadd hx hb de_E_step_111 ?_
  refine bc_ti (y := nI (i + 1)) (nI_1 i) ?_
  refine bc_call_v_v (As := [.ref h0, .int (nI (i + 1))]) (rest := []) (wr := [(q1, .inl (cI, 40, .inl K)), (q2, .inl (cI, 40, .inl O)), (q3, .inl (cI, 40, .inl T)), (q4, .inl (cI, 40, .inl Z))]) F (co_E_goTo hn (by omega)) wm_377 wm_5 wm_375 wm_376 wm_625 0 rfl rfl pd_E_goTo rfl rfl ⟨Nat.le_of_ble_eq_true rfl, Nat.le_of_ble_eq_true rfl⟩ hP hD hS hA [0, 1, 2] [3, 4, 5, 6] rfl rfl rfl rfl (by decide) rfl hl.1 rfl (Nat.le_of_ble_eq_true rfl) de_E_step_112 ⟨Nat.le_of_ble_eq_true rfl, Nat.le_of_ble_eq_true rfl⟩ (fun u_112 H locs hw_112 hP hD hS => ?_)
  subst hw_112
  have hP : va_P (dC, dI) classes [(e0, .inr (2, [.ref v1, .int (bc_pl n (i + 1)), .int stp, .int on])), (v1, .inl (cI, 6, .inl (upd X o (bc_as K T Z i X)))), (h0, .inr (1, [.ref q1, .ref q2, .ref q3, .ref q4, .int (nI n)])), (q1, .inl (cI, 40, .inl K)), (q2, .inl (cI, 40, .inl O)), (q3, .inl (cI, 40, .inl T)), (q4, .inl (cI, 40, .inl Z))] H := hP.sub [4, 5, 6, 0, 1, 2, 3] rfl
  have hD : va_D A [(e0, .inr (2, [.ref v1, .int (bc_pl n (i + 1)), .int stp, .int on])), (v1, .inl (cI, 6, .inl (upd X o (bc_as K T Z i X)))), (h0, .inr (1, [.ref q1, .ref q2, .ref q3, .ref q4, .int (nI n)])), (q1, .inl (cI, 40, .inl K)), (q2, .inl (cI, 40, .inl O)), (q3, .inl (cI, 40, .inl T)), (q4, .inl (cI, 40, .inl Z))] := hD.sub [4, 5, 6, 0, 1, 2, 3] (by decide) rfl
  exact bc_vret F hr hlocks ((upd X o (bc_as K T Z i X), bc_pl n (i + 1))) (Eq.symm (bc_st_4 hs_6_5 hs_6_6 hs_6_7 eO ho)) hP hD hS de_E_step_115

set_option maxHeartbeats 4000000 in
set_option maxRecDepth 100000 in
/-- a run goes on -/
theorem co_E_advance {l : Launch} {dC : Nat → ClassId} {dI : Nat → Nat → Nat} {cI cZ : ClassId} {sz : Nat} {e0 v1 : Nat} {X : bc_F} {pl stp on : Int32}{h0 q1 q2 q3 q4 n : Nat} {K O T Z : bc_F}{mx : Nat} (hn : n ≤ 40) (hmx : mx < 2 ^ 31) (hw : bc_wf n K O T Z) (hpl : bc_ok n pl) : Met l yn_E_advance (Cond.code yn_E_advance by_E_advance 4 (some FieldType.int) :: wd_all) ({ frames := 3, cells := 0, slots := 0, locals := 67 } : Room) (bc_Pre (dC, dI) classes [(cI, .int), (cZ, .boolean)] [.ref e0, .ref h0, .int (nI mx)] [(e0, .inr (2, [.ref v1, .int pl, .int stp, .int on])), (v1, .inl (cI, 6, .inl X)), (h0, .inr (1, [.ref q1, .ref q2, .ref q3, .ref q4, .int (nI n)])), (q1, .inl (cI, 40, .inl K)), (q2, .inl (cI, 40, .inl O)), (q3, .inl (cI, 40, .inl T)), (q4, .inl (cI, 40, .inl Z))] sz) (va_Qi (fun (r : Int32) (u : bc_F × Int32 × Int32) => r = nI (bc_rn n K O T Z mx (X, pl)).2 ∧ u.1 = (bc_rn n K O T Z mx (X, pl)).1.1 ∧ u.2.1 = (bc_rn n K O T Z mx (X, pl)).1.2 ∧ u.2.2 = stp + nI (bc_rn n K O T Z mx (X, pl)).2) (fun (u : bc_F × Int32 × Int32) t => bc_B (dC, dI) classes [(cI, .int), (cZ, .boolean)] (va_A [(e0, .inr (2, [.ref v1, .int pl, .int stp, .int on])), (v1, .inl (cI, 6, .inl X)), (h0, .inr (1, [.ref q1, .ref q2, .ref q3, .ref q4, .int (nI n)])), (q1, .inl (cI, 40, .inl K)), (q2, .inl (cI, 40, .inl O)), (q3, .inl (cI, 40, .inl T)), (q4, .inl (cI, 40, .inl Z))] sz) [(e0, .inr (2, [.ref v1, .int u.2.1, .int u.2.2, .int on])), (v1, .inl (cI, 6, .inl u.1)), (h0, .inr (1, [.ref q1, .ref q2, .ref q3, .ref q4, .int (nI n)])), (q1, .inl (cI, 40, .inl K)), (q2, .inl (cI, 40, .inl O)), (q3, .inl (cI, 40, .inl T)), (q4, .inl (cI, 40, .inl Z))] t) ((va_A [(e0, .inr (2, [.ref v1, .int pl, .int stp, .int on])), (v1, .inl (cI, 6, .inl X)), (h0, .inr (1, [.ref q1, .ref q2, .ref q3, .ref q4, .int (nI n)])), (q1, .inl (cI, 40, .inl K)), (q2, .inl (cI, 40, .inl O)), (q3, .inl (cI, 40, .inl T)), (q4, .inl (cI, 40, .inl Z))] sz))) 0 0 (va_A [(e0, .inr (2, [.ref v1, .int pl, .int stp, .int on])), (v1, .inl (cI, 6, .inl X)), (h0, .inr (1, [.ref q1, .ref q2, .ref q3, .ref q4, .int (nI n)])), (q1, .inl (cI, 40, .inl K)), (q2, .inl (cI, 40, .inl O)), (q3, .inl (cI, 40, .inl T)), (q4, .inl (cI, 40, .inl Z))] sz) := by
  refine bc_met (fun A => va_Qi (fun (r : Int32) (u : bc_F × Int32 × Int32) => r = nI (bc_rn n K O T Z mx (X, pl)).2 ∧ u.1 = (bc_rn n K O T Z mx (X, pl)).1.1 ∧ u.2.1 = (bc_rn n K O T Z mx (X, pl)).1.2 ∧ u.2.2 = stp + nI (bc_rn n K O T Z mx (X, pl)).2) (fun (u : bc_F × Int32 × Int32) t => bc_B (dC, dI) classes [(cI, .int), (cZ, .boolean)] A [(e0, .inr (2, [.ref v1, .int u.2.1, .int u.2.2, .int on])), (v1, .inl (cI, 6, .inl u.1)), (h0, .inr (1, [.ref q1, .ref q2, .ref q3, .ref q4, .int (nI n)])), (q1, .inl (cI, 40, .inl K)), (q2, .inl (cI, 40, .inl O)), (q3, .inl (cI, 40, .inl T)), (q4, .inl (cI, 40, .inl Z))] t) A) (by decide) (Nat.le_of_ble_eq_true rfl) ?_
  intro p e s m args below meth c A ls F hr hlocks hin hA hP hD hl hS
  have hx := F.1
  have hb := F.2.1
  have hml := F.2.2.1
  have hown : s.vm.findClass "BranchConstants$Execution" = some m.cls := F.2.2.2.1
  have htw := F.2.2.2.2.1
  have hN := F.2.2.2.2.2.1
  have hK := F.2.2.2.2.2.2
  have hl : lv_has ls 4 [(0, .ref e0), (1, .ref h0), (2, .int (nI mx))] := hl
  refine lv_iconst (v := 0) hx hb de_E_advance_0 (by decide) ?_
  refine bc_ti (y := nI 0) nI_0.symm ?_
  refine lv_istore_n (lv' := [(3, .int (nI 0)), (0, .ref e0), (1, .ref h0), (2, .int (nI mx))]) hx hb de_E_advance_1 rfl hl (by decide) rfl (fun ls hl => ?_)
  refine bc_loop (fun k_2 H locs ls => ∃ (d : Nat) (X1 : bc_F) (p1 : Int32), lv_has ls 4 [(3, .int (nI d)), (0, .ref e0), (1, .ref h0), (2, .int (nI mx))] ∧ va_P (dC, dI) classes [(e0, .inr (2, [.ref v1, .int p1, .int stp, .int on])), (v1, .inl (cI, 6, .inl X1)), (h0, .inr (1, [.ref q1, .ref q2, .ref q3, .ref q4, .int (nI n)])), (q1, .inl (cI, 40, .inl K)), (q2, .inl (cI, 40, .inl O)), (q3, .inl (cI, 40, .inl T)), (q4, .inl (cI, 40, .inl Z))] H ∧ va_D A [(e0, .inr (2, [.ref v1, .int p1, .int stp, .int on])), (v1, .inl (cI, 6, .inl X1)), (h0, .inr (1, [.ref q1, .ref q2, .ref q3, .ref q4, .int (nI n)])), (q1, .inl (cI, 40, .inl K)), (q2, .inl (cI, 40, .inl O)), (q3, .inl (cI, 40, .inl T)), (q4, .inl (cI, 40, .inl Z))] ∧ va_S A s.heap H locs ∧ k_2 = mx - d ∧ (d ≤ mx) ∧ (bc_ok n p1) ∧ ((bc_rn n K O T Z (mx - d) (X1, p1)).1 = (bc_rn n K O T Z mx (X, pl)).1) ∧ ((bc_rn n K O T Z (mx - d) (X1, p1)).2 + d = (bc_rn n K O T Z mx (X, pl)).2)) ?_ ?_
  · rintro k_2 H locs ls ⟨d, X1, p1, hl, hP, hD, hS, hk_2, hd, hok, hf1, hf2⟩ ih_2
    refine lv_iload_n hx hb de_E_advance_2 rfl (lv_at hl 0 rfl) ?_
    refine lv_iload_n hx hb de_E_advance_3 rfl (lv_at hl 3 rfl) ?_
    refine lv_icmp_ge (tgt := 30) hx hb de_E_advance_4 (by decide) (fun hc_4 => ?_) (fun hc_4 => ?_)
    · have hend : bc_rn n K O T Z (mx - d) (X1, p1) = ((X1, p1), 0) := by
        rw [show mx - d = 0 by have := bc_ge (by omega) (by omega) hc_4; omega]
        rfl
      rw [hend] at hf1 hf2
      have hf2 : d = (bc_rn n K O T Z mx (X, pl)).2 := by simpa using hf2
      refine lv_aload_n hx hb de_E_advance_30 rfl (lv_at hl 1 rfl) ?_
      refine lv_dup hx hb de_E_advance_31 rfl ?_
      refine va_get (D := (dC, dI)) (ci := 2) (v := .int stp) (C := rc_E) (T := fc_E) (N := 4) hx hb htw wi_E hown hK hP 0 rfl rfl 2 (by decide) (htw _ wm_80) (fun _ h9 => h9) rfl de_E_advance_32 ?_
      refine lv_iload_n hx hb de_E_advance_35 rfl (lv_at hl 0 rfl) ?_
      refine lv_iadd hx hb de_E_advance_36 ?_
      refine va_put (D := (dC, dI)) (ci := 2) (v := .int (stp + (nI d))) (ty := .int) (C := rc_E) (T := fc_E) (N := 4) hx hb htw wi_E tc_E tc_E_ok nc_E hown hK hP hD hS 0 rfl rfl 2 (by decide) (htw _ wm_80) (fun _ h9 => h9) rfl (by decide +kernel) rfl rfl (Nat.le_of_ble_eq_true rfl) de_E_advance_37 (fun H locs hP hD hS => ?_)
      have hP : va_P (dC, dI) classes [(e0, .inr (2, [.ref v1, .int p1, .int (stp + (nI d)), .int on])), (v1, .inl (cI, 6, .inl X1)), (h0, .inr (1, [.ref q1, .ref q2, .ref q3, .ref q4, .int (nI n)])), (q1, .inl (cI, 40, .inl K)), (q2, .inl (cI, 40, .inl O)), (q3, .inl (cI, 40, .inl T)), (q4, .inl (cI, 40, .inl Z))] H := hP
      have hD : va_D A [(e0, .inr (2, [.ref v1, .int p1, .int (stp + (nI d)), .int on])), (v1, .inl (cI, 6, .inl X1)), (h0, .inr (1, [.ref q1, .ref q2, .ref q3, .ref q4, .int (nI n)])), (q1, .inl (cI, 40, .inl K)), (q2, .inl (cI, 40, .inl O)), (q3, .inl (cI, 40, .inl T)), (q4, .inl (cI, 40, .inl Z))] := hD
      refine lv_iload_n hx hb de_E_advance_40 rfl (lv_at hl 0 rfl) ?_
      exact bc_iret F hr hlocks ((X1, p1, stp + nI d)) ⟨congrArg nI hf2, congrArg Prod.fst hf1, congrArg Prod.snd hf1, by rw [← hf2]⟩ hP hD hS de_E_advance_41
    · have hlt : d < mx := bc_lt (by omega) (by omega) hc_4
      refine lv_aload_n hx hb de_E_advance_7 rfl (lv_at hl 1 rfl) ?_
      refine va_get (D := (dC, dI)) (ci := 2) (v := .int p1) (C := rc_E) (T := fc_E) (N := 4) hx hb htw wi_E hown hK hP 0 rfl rfl 1 (by decide) (htw _ wm_79) (fun _ h9 => h9) rfl de_E_advance_8 ?_
      refine lv_iconst (v := (-1)) hx hb de_E_advance_11 (by decide) ?_
      refine lv_icmp_eq (tgt := 30) hx hb de_E_advance_12 (by decide) (fun hc_12 => ?_) (fun hc_12 => ?_)
      · have hend : bc_rn n K O T Z (mx - d) (X1, p1) = ((X1, p1), 0) := bc_rn_stop _ hc_12
        rw [hend] at hf1 hf2
        have hf2 : d = (bc_rn n K O T Z mx (X, pl)).2 := by simpa using hf2
        refine lv_aload_n hx hb de_E_advance_30 rfl (lv_at hl 1 rfl) ?_
        refine lv_dup hx hb de_E_advance_31 rfl ?_
        refine va_get (D := (dC, dI)) (ci := 2) (v := .int stp) (C := rc_E) (T := fc_E) (N := 4) hx hb htw wi_E hown hK hP 0 rfl rfl 2 (by decide) (htw _ wm_80) (fun _ h9 => h9) rfl de_E_advance_32 ?_
        refine lv_iload_n hx hb de_E_advance_35 rfl (lv_at hl 0 rfl) ?_
        refine lv_iadd hx hb de_E_advance_36 ?_
        refine va_put (D := (dC, dI)) (ci := 2) (v := .int (stp + (nI d))) (ty := .int) (C := rc_E) (T := fc_E) (N := 4) hx hb htw wi_E tc_E tc_E_ok nc_E hown hK hP hD hS 0 rfl rfl 2 (by decide) (htw _ wm_80) (fun _ h9 => h9) rfl (by decide +kernel) rfl rfl (Nat.le_of_ble_eq_true rfl) de_E_advance_37 (fun H locs hP hD hS => ?_)
        have hP : va_P (dC, dI) classes [(e0, .inr (2, [.ref v1, .int p1, .int (stp + (nI d)), .int on])), (v1, .inl (cI, 6, .inl X1)), (h0, .inr (1, [.ref q1, .ref q2, .ref q3, .ref q4, .int (nI n)])), (q1, .inl (cI, 40, .inl K)), (q2, .inl (cI, 40, .inl O)), (q3, .inl (cI, 40, .inl T)), (q4, .inl (cI, 40, .inl Z))] H := hP
        have hD : va_D A [(e0, .inr (2, [.ref v1, .int p1, .int (stp + (nI d)), .int on])), (v1, .inl (cI, 6, .inl X1)), (h0, .inr (1, [.ref q1, .ref q2, .ref q3, .ref q4, .int (nI n)])), (q1, .inl (cI, 40, .inl K)), (q2, .inl (cI, 40, .inl O)), (q3, .inl (cI, 40, .inl T)), (q4, .inl (cI, 40, .inl Z))] := hD
        refine lv_iload_n hx hb de_E_advance_40 rfl (lv_at hl 0 rfl) ?_
        exact bc_iret F hr hlocks ((X1, p1, stp + nI d)) ⟨congrArg nI hf2, congrArg Prod.fst hf1, congrArg Prod.snd hf1, by rw [← hf2]⟩ hP hD hS de_E_advance_41
      · obtain ⟨j, hj, hpj⟩ : ∃ j : Nat, j < n ∧ p1 = nI j := hok.resolve_left hc_12
        have hgo := bc_rn_go (n := n) (K := K) (O := O) (T := T) (Z := Z) (X := X1) (k := mx - (d + 1)) hc_12 hpj (by omega)
        rw [show mx - (d + 1) + 1 = mx - d by omega] at hgo
        refine lv_aload_n hx hb de_E_advance_15 rfl (lv_at hl 1 rfl) ?_
        refine lv_aload_n hx hb de_E_advance_16 rfl (lv_at hl 2 rfl) ?_
        refine lv_aload_n hx hb de_E_advance_17 rfl (lv_at hl 1 rfl) ?_
        refine va_get (D := (dC, dI)) (ci := 2) (v := .int p1) (C := rc_E) (T := fc_E) (N := 4) hx hb htw wi_E hown hK hP 0 rfl rfl 1 (by decide) (htw _ wm_79) (fun _ h9 => h9) rfl de_E_advance_18 ?_
        refine bc_ti (y := nI j) hpj ?_
        refine bc_call_v_v (As := [.ref h0, .int (nI j)]) (rest := []) (wr := []) F (co_E_step hn hj hw) wm_392 wm_5 wm_390 wm_391 wm_628 0 rfl rfl pd_E_step rfl rfl ⟨Nat.le_of_ble_eq_true rfl, Nat.le_of_ble_eq_true rfl⟩ hP hD hS hA [0, 1, 2, 3, 4, 5, 6] [] rfl rfl rfl rfl (by decide) rfl hl.1 rfl (Nat.le_of_ble_eq_true rfl) de_E_advance_21 ⟨Nat.le_of_ble_eq_true rfl, Nat.le_of_ble_eq_true rfl⟩ (fun u_21 H locs hw_21 hP hD hS => ?_)
        subst hw_21
        have hP : va_P (dC, dI) classes [(e0, .inr (2, [.ref v1, .int ((bc_st n K O T Z j X1).2), .int stp, .int on])), (v1, .inl (cI, 6, .inl ((bc_st n K O T Z j X1).1))), (h0, .inr (1, [.ref q1, .ref q2, .ref q3, .ref q4, .int (nI n)])), (q1, .inl (cI, 40, .inl K)), (q2, .inl (cI, 40, .inl O)), (q3, .inl (cI, 40, .inl T)), (q4, .inl (cI, 40, .inl Z))] H := hP.sub [0, 1, 2, 3, 4, 5, 6] rfl
        have hD : va_D A [(e0, .inr (2, [.ref v1, .int ((bc_st n K O T Z j X1).2), .int stp, .int on])), (v1, .inl (cI, 6, .inl ((bc_st n K O T Z j X1).1))), (h0, .inr (1, [.ref q1, .ref q2, .ref q3, .ref q4, .int (nI n)])), (q1, .inl (cI, 40, .inl K)), (q2, .inl (cI, 40, .inl O)), (q3, .inl (cI, 40, .inl T)), (q4, .inl (cI, 40, .inl Z))] := hD.sub [0, 1, 2, 3, 4, 5, 6] (by decide) rfl
        refine lv_iinc (k := 0) (v := nI (d + 1)) (lv' := [(3, .int (nI (d + 1))), (0, .ref e0), (1, .ref h0), (2, .int (nI mx))]) hx hb de_E_advance_24 hl rfl (bc_inc _) (by decide) rfl (fun ls hl => ?_)
        refine lv_goto (tgt := 2) hx hb de_E_advance_27 (by decide) ?_
        exact ih_2 _ _ _ _ (by omega) ⟨(d + 1), (bc_st n K O T Z j X1).1, (bc_st n K O T Z j X1).2, lv_sub hl [0, 1, 2, 3] rfl, hP, hD, hS, rfl, (by omega), bc_st_ok _ _ _ _ _ _ _, by rw [← hf1, hgo], by rw [← hf2, hgo]; exact bc_ad _ _⟩
  · exact ⟨_, 0, X, pl, lv_sub hl [0, 1, 2, 3] rfl, hP, hD, hS, rfl, Nat.zero_le _, hpl, rfl, rfl⟩

set_option maxHeartbeats 4000000 in
set_option maxRecDepth 100000 in
/-- a run begins -/
theorem co_E_begin {l : Launch} {dC : Nat → ClassId} {dI : Nat → Nat → Nat} {cI cZ : ClassId} {sz : Nat} {e0 v1 : Nat} {X : bc_F} {pl stp on : Int32}{h0 q1 q2 q3 q4 n : Nat} {a1 b1 c1 d1 : Int32} (hn : n ≤ 40) : Met l yn_E_begin (Cond.code yn_E_begin by_E_begin 6 none :: wd_all) ({ frames := 1, cells := 0, slots := 0, locals := 23 } : Room) (bc_Pre (dC, dI) classes [(cI, .int), (cZ, .boolean)] [.ref e0, .ref h0, .int a1, .int b1, .int c1, .int d1] [(e0, .inr (2, [.ref v1, .int pl, .int stp, .int on])), (v1, .inl (cI, 6, .inl X)), (h0, .inr (1, [.ref q1, .ref q2, .ref q3, .ref q4, .int (nI n)]))] sz) (va_Qv (fun (u : bc_F × Int32) => (u.1 0 = a1 ∧ u.1 1 = b1 ∧ u.1 2 = c1 ∧ u.1 3 = d1 ∧ u.1 4 = 0 ∧ u.1 5 = 0) ∧ u.2 = bc_pl n 0) (fun (u : bc_F × Int32) t => bc_B (dC, dI) classes [(cI, .int), (cZ, .boolean)] (va_A [(e0, .inr (2, [.ref v1, .int pl, .int stp, .int on])), (v1, .inl (cI, 6, .inl X)), (h0, .inr (1, [.ref q1, .ref q2, .ref q3, .ref q4, .int (nI n)]))] sz) [(e0, .inr (2, [.ref v1, .int u.2, .int 0, .int 1])), (v1, .inl (cI, 6, .inl u.1)), (h0, .inr (1, [.ref q1, .ref q2, .ref q3, .ref q4, .int (nI n)]))] t) ((va_A [(e0, .inr (2, [.ref v1, .int pl, .int stp, .int on])), (v1, .inl (cI, 6, .inl X)), (h0, .inr (1, [.ref q1, .ref q2, .ref q3, .ref q4, .int (nI n)]))] sz))) 0 0 (va_A [(e0, .inr (2, [.ref v1, .int pl, .int stp, .int on])), (v1, .inl (cI, 6, .inl X)), (h0, .inr (1, [.ref q1, .ref q2, .ref q3, .ref q4, .int (nI n)]))] sz) := by
  refine bc_met (fun A => va_Qv (fun (u : bc_F × Int32) => (u.1 0 = a1 ∧ u.1 1 = b1 ∧ u.1 2 = c1 ∧ u.1 3 = d1 ∧ u.1 4 = 0 ∧ u.1 5 = 0) ∧ u.2 = bc_pl n 0) (fun (u : bc_F × Int32) t => bc_B (dC, dI) classes [(cI, .int), (cZ, .boolean)] A [(e0, .inr (2, [.ref v1, .int u.2, .int 0, .int 1])), (v1, .inl (cI, 6, .inl u.1)), (h0, .inr (1, [.ref q1, .ref q2, .ref q3, .ref q4, .int (nI n)]))] t) A) (by decide) (Nat.le_of_ble_eq_true rfl) ?_
  intro p e s m args below meth c A ls F hr hlocks hin hA hP hD hl hS
  have hx := F.1
  have hb := F.2.1
  have hml := F.2.2.1
  have hown : s.vm.findClass "BranchConstants$Execution" = some m.cls := F.2.2.2.1
  have htw := F.2.2.2.2.1
  have hN := F.2.2.2.2.2.1
  have hK := F.2.2.2.2.2.2
  have hl : lv_has ls 6 [(0, .ref e0), (1, .ref h0), (2, .int a1), (3, .int b1), (4, .int c1), (5, .int d1)] := hl
  refine lv_aload_n hx hb de_E_begin_0 rfl (lv_at hl 0 rfl) ?_
  refine va_get (D := (dC, dI)) (ci := 2) (v := .ref v1) (C := rc_E) (T := fc_E) (N := 4) hx hb htw wi_E hown hK hP 0 rfl rfl 0 (by decide) (htw _ wm_78) (fun _ h9 => h9) rfl de_E_begin_1 ?_
  refine lv_iconst (v := 0) hx hb de_E_begin_4 (by decide) ?_
  refine bc_call_s_v (As := [.ref v1, .int 0]) (rest := []) (wr := [(e0, .inr (2, [.ref v1, .int pl, .int stp, .int on])), (h0, .inr (1, [.ref q1, .ref q2, .ref q3, .ref q4, .int (nI n)]))]) F (co_J_fill (by decide)) wm_122 wm_13 wm_374 wm_121 pd_J_fill rfl rfl ⟨Nat.le_of_ble_eq_true rfl, Nat.le_of_ble_eq_true rfl⟩ hP hD hS hA [1] [0, 2] rfl rfl rfl rfl (by decide) rfl hl.1 rfl (Nat.le_of_ble_eq_true rfl) de_E_begin_5 ⟨Nat.le_of_ble_eq_true rfl, Nat.le_of_ble_eq_true rfl⟩ (fun u_5 H locs hw_5 hP hD hS => ?_)
  have hP : va_P (dC, dI) classes [(e0, .inr (2, [.ref v1, .int pl, .int stp, .int on])), (v1, .inl (cI, 6, .inl u_5)), (h0, .inr (1, [.ref q1, .ref q2, .ref q3, .ref q4, .int (nI n)]))] H := hP.sub [0, 2, 1] rfl
  have hD : va_D A [(e0, .inr (2, [.ref v1, .int pl, .int stp, .int on])), (v1, .inl (cI, 6, .inl u_5)), (h0, .inr (1, [.ref q1, .ref q2, .ref q3, .ref q4, .int (nI n)]))] := hD.sub [0, 2, 1] (by decide) rfl
  refine lv_aload_n hx hb de_E_begin_8 rfl (lv_at hl 0 rfl) ?_
  refine va_get (D := (dC, dI)) (ci := 2) (v := .ref v1) (C := rc_E) (T := fc_E) (N := 4) hx hb htw wi_E hown hK hP 0 rfl rfl 0 (by decide) (htw _ wm_78) (fun _ h9 => h9) rfl de_E_begin_9 ?_
  refine lv_iconst (v := 0) hx hb de_E_begin_12 (by decide) ?_
  refine bc_ti (y := nI 0) (by decide) ?_
  refine lv_iload_n hx hb de_E_begin_13 rfl (lv_at hl 2 rfl) ?_
  refine bc_ist (j := 0) hx hb hK hP hD hS 1 0 rfl rfl (by omega) (by decide) de_E_begin_14 (fun H locs hP hD hS => ?_)
  have hP : va_P (dC, dI) classes [(e0, .inr (2, [.ref v1, .int pl, .int stp, .int on])), (v1, .inl (cI, 6, .inl (upd u_5 0 a1))), (h0, .inr (1, [.ref q1, .ref q2, .ref q3, .ref q4, .int (nI n)]))] H := hP
  have hD : va_D A [(e0, .inr (2, [.ref v1, .int pl, .int stp, .int on])), (v1, .inl (cI, 6, .inl (upd u_5 0 a1))), (h0, .inr (1, [.ref q1, .ref q2, .ref q3, .ref q4, .int (nI n)]))] := hD
  refine lv_aload_n hx hb de_E_begin_15 rfl (lv_at hl 0 rfl) ?_
  refine va_get (D := (dC, dI)) (ci := 2) (v := .ref v1) (C := rc_E) (T := fc_E) (N := 4) hx hb htw wi_E hown hK hP 0 rfl rfl 0 (by decide) (htw _ wm_78) (fun _ h9 => h9) rfl de_E_begin_16 ?_
  refine lv_iconst (v := 1) hx hb de_E_begin_19 (by decide) ?_
  refine bc_ti (y := nI 1) (by decide) ?_
  refine lv_iload_n hx hb de_E_begin_20 rfl (lv_at hl 3 rfl) ?_
  refine bc_ist (j := 1) hx hb hK hP hD hS 1 0 rfl rfl (by omega) (by decide) de_E_begin_21 (fun H locs hP hD hS => ?_)
  have hP : va_P (dC, dI) classes [(e0, .inr (2, [.ref v1, .int pl, .int stp, .int on])), (v1, .inl (cI, 6, .inl (upd (upd u_5 0 a1) 1 b1))), (h0, .inr (1, [.ref q1, .ref q2, .ref q3, .ref q4, .int (nI n)]))] H := hP
  have hD : va_D A [(e0, .inr (2, [.ref v1, .int pl, .int stp, .int on])), (v1, .inl (cI, 6, .inl (upd (upd u_5 0 a1) 1 b1))), (h0, .inr (1, [.ref q1, .ref q2, .ref q3, .ref q4, .int (nI n)]))] := hD
  refine lv_aload_n hx hb de_E_begin_22 rfl (lv_at hl 0 rfl) ?_
  refine va_get (D := (dC, dI)) (ci := 2) (v := .ref v1) (C := rc_E) (T := fc_E) (N := 4) hx hb htw wi_E hown hK hP 0 rfl rfl 0 (by decide) (htw _ wm_78) (fun _ h9 => h9) rfl de_E_begin_23 ?_
  refine lv_iconst (v := 2) hx hb de_E_begin_26 (by decide) ?_
  refine bc_ti (y := nI 2) (by decide) ?_
  refine lv_iload hx hb de_E_begin_27 (lv_at hl 4 rfl) ?_
  refine bc_ist (j := 2) hx hb hK hP hD hS 1 0 rfl rfl (by omega) (by decide) de_E_begin_29 (fun H locs hP hD hS => ?_)
  have hP : va_P (dC, dI) classes [(e0, .inr (2, [.ref v1, .int pl, .int stp, .int on])), (v1, .inl (cI, 6, .inl (upd (upd (upd u_5 0 a1) 1 b1) 2 c1))), (h0, .inr (1, [.ref q1, .ref q2, .ref q3, .ref q4, .int (nI n)]))] H := hP
  have hD : va_D A [(e0, .inr (2, [.ref v1, .int pl, .int stp, .int on])), (v1, .inl (cI, 6, .inl (upd (upd (upd u_5 0 a1) 1 b1) 2 c1))), (h0, .inr (1, [.ref q1, .ref q2, .ref q3, .ref q4, .int (nI n)]))] := hD
  refine lv_aload_n hx hb de_E_begin_30 rfl (lv_at hl 0 rfl) ?_
  refine va_get (D := (dC, dI)) (ci := 2) (v := .ref v1) (C := rc_E) (T := fc_E) (N := 4) hx hb htw wi_E hown hK hP 0 rfl rfl 0 (by decide) (htw _ wm_78) (fun _ h9 => h9) rfl de_E_begin_31 ?_
  refine lv_iconst (v := 3) hx hb de_E_begin_34 (by decide) ?_
  refine bc_ti (y := nI 3) (by decide) ?_
  refine lv_iload hx hb de_E_begin_35 (lv_at hl 5 rfl) ?_
  refine bc_ist (j := 3) hx hb hK hP hD hS 1 0 rfl rfl (by omega) (by decide) de_E_begin_37 (fun H locs hP hD hS => ?_)
  have hP : va_P (dC, dI) classes [(e0, .inr (2, [.ref v1, .int pl, .int stp, .int on])), (v1, .inl (cI, 6, .inl (upd (upd (upd (upd u_5 0 a1) 1 b1) 2 c1) 3 d1))), (h0, .inr (1, [.ref q1, .ref q2, .ref q3, .ref q4, .int (nI n)]))] H := hP
  have hD : va_D A [(e0, .inr (2, [.ref v1, .int pl, .int stp, .int on])), (v1, .inl (cI, 6, .inl (upd (upd (upd (upd u_5 0 a1) 1 b1) 2 c1) 3 d1))), (h0, .inr (1, [.ref q1, .ref q2, .ref q3, .ref q4, .int (nI n)]))] := hD
  refine lv_aload_n hx hb de_E_begin_38 rfl (lv_at hl 0 rfl) ?_
  refine lv_iconst (v := 0) hx hb de_E_begin_39 (by decide) ?_
  refine va_put (D := (dC, dI)) (ci := 2) (v := .int 0) (ty := .int) (C := rc_E) (T := fc_E) (N := 4) hx hb htw wi_E tc_E tc_E_ok nc_E hown hK hP hD hS 0 rfl rfl 2 (by decide) (htw _ wm_80) (fun _ h9 => h9) rfl (by decide +kernel) rfl rfl (Nat.le_of_ble_eq_true rfl) de_E_begin_40 (fun H locs hP hD hS => ?_)
  have hP : va_P (dC, dI) classes [(e0, .inr (2, [.ref v1, .int pl, .int 0, .int on])), (v1, .inl (cI, 6, .inl (upd (upd (upd (upd u_5 0 a1) 1 b1) 2 c1) 3 d1))), (h0, .inr (1, [.ref q1, .ref q2, .ref q3, .ref q4, .int (nI n)]))] H := hP
  have hD : va_D A [(e0, .inr (2, [.ref v1, .int pl, .int 0, .int on])), (v1, .inl (cI, 6, .inl (upd (upd (upd (upd u_5 0 a1) 1 b1) 2 c1) 3 d1))), (h0, .inr (1, [.ref q1, .ref q2, .ref q3, .ref q4, .int (nI n)]))] := hD
  refine lv_aload_n hx hb de_E_begin_43 rfl (lv_at hl 0 rfl) ?_
  refine lv_iconst (v := 1) hx hb de_E_begin_44 (by decide) ?_
  refine va_put (D := (dC, dI)) (ci := 2) (v := .int 1) (ty := .boolean) (C := rc_E) (T := fc_E) (N := 4) hx hb htw wi_E tc_E tc_E_ok nc_E hown hK hP hD hS 0 rfl rfl 3 (by decide) (htw _ wm_81) (fun _ h9 => h9) rfl (by decide +kernel) rfl rfl (Nat.le_of_ble_eq_true rfl) de_E_begin_45 (fun H locs hP hD hS => ?_)
  have hP : va_P (dC, dI) classes [(e0, .inr (2, [.ref v1, .int pl, .int 0, .int 1])), (v1, .inl (cI, 6, .inl (upd (upd (upd (upd u_5 0 a1) 1 b1) 2 c1) 3 d1))), (h0, .inr (1, [.ref q1, .ref q2, .ref q3, .ref q4, .int (nI n)]))] H := hP
  have hD : va_D A [(e0, .inr (2, [.ref v1, .int pl, .int 0, .int 1])), (v1, .inl (cI, 6, .inl (upd (upd (upd (upd u_5 0 a1) 1 b1) 2 c1) 3 d1))), (h0, .inr (1, [.ref q1, .ref q2, .ref q3, .ref q4, .int (nI n)]))] := hD
  refine lv_aload_n hx hb de_E_begin_48 rfl (lv_at hl 0 rfl) ?_
  refine lv_aload_n hx hb de_E_begin_49 rfl (lv_at hl 1 rfl) ?_
  refine lv_iconst (v := 0) hx hb de_E_begin_50 (by decide) ?_
  refine bc_ti (y := nI 0) nI_0.symm ?_
  refine bc_call_v_v (As := [.ref h0, .int (nI 0)]) (rest := []) (wr := []) F (co_E_goTo hn (by omega)) wm_377 wm_5 wm_375 wm_376 wm_625 0 rfl rfl pd_E_goTo rfl rfl ⟨Nat.le_of_ble_eq_true rfl, Nat.le_of_ble_eq_true rfl⟩ hP hD hS hA [0, 1, 2] [] rfl rfl rfl rfl (by decide) rfl hl.1 rfl (Nat.le_of_ble_eq_true rfl) de_E_begin_51 ⟨Nat.le_of_ble_eq_true rfl, Nat.le_of_ble_eq_true rfl⟩ (fun u_51 H locs hw_51 hP hD hS => ?_)
  subst hw_51
  have hP : va_P (dC, dI) classes [(e0, .inr (2, [.ref v1, .int (bc_pl n 0), .int 0, .int 1])), (v1, .inl (cI, 6, .inl (upd (upd (upd (upd u_5 0 a1) 1 b1) 2 c1) 3 d1))), (h0, .inr (1, [.ref q1, .ref q2, .ref q3, .ref q4, .int (nI n)]))] H := hP.sub [0, 1, 2] rfl
  have hD : va_D A [(e0, .inr (2, [.ref v1, .int (bc_pl n 0), .int 0, .int 1])), (v1, .inl (cI, 6, .inl (upd (upd (upd (upd u_5 0 a1) 1 b1) 2 c1) 3 d1))), (h0, .inr (1, [.ref q1, .ref q2, .ref q3, .ref q4, .int (nI n)]))] := hD.sub [0, 1, 2] (by decide) rfl
  exact bc_vret F hr hlocks ((upd (upd (upd (upd u_5 0 a1) 1 b1) 2 c1) 3 d1, bc_pl n 0)) ⟨⟨rfl, rfl, rfl, rfl, hw_5 4 (by omega), hw_5 5 (by omega)⟩, rfl⟩ hP hD hS de_E_begin_54

