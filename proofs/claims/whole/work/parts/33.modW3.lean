/-! Rewriting: jumps to the next, new numbers, the whole (by program: wip/whole/gen/modW3.py) -/
set_option maxHeartbeats 4000000 in
set_option maxRecDepth 100000 in
/-- jumps to the next are dropped -/
theorem co_W_dropJumpsToTheNext {l : Launch} {dC : Nat → ClassId} {dI : Nat → Nat → Nat} {cI cZ : ClassId} {sz : Nat} {w0 w1 w2 w3 cq : Nat} {B U Nn : bc_F}{h0 q1 q2 q3 q4 n : Nat} {K O T Z : bc_F}(hn : n ≤ 40) (htr : ∀ j, j < n → bc_gs (K j) → bc_tr (T j)) : Met l yn_W_dropJumpsToTheNext (Cond.code yn_W_dropJumpsToTheNext by_W_dropJumpsToTheNext 4 none :: wd_all) ({ frames := 1, cells := 0, slots := 0, locals := 21 } : Room) (bc_Pre (dC, dI) classes [(cI, .int), (cZ, .boolean)] [.ref w0, .ref h0] [(w0, .inr (3, [.ref w1, .ref w2, .ref w3, .int (nI cq)])), (w1, .inl (cZ, 40, .inl B)), (w2, .inl (cI, 40, .inl U)), (w3, .inl (cI, 41, .inl Nn)), (h0, .inr (1, [.ref q1, .ref q2, .ref q3, .ref q4, .int (nI n)])), (q1, .inl (cI, 40, .inl K)), (q2, .inl (cI, 40, .inl O)), (q3, .inl (cI, 40, .inl T)), (q4, .inl (cI, 40, .inl Z))] sz) (va_Qv (fun (u : bc_F) => ∀ i, i < n → bc_DJ n K (fun j => bc_tn n (T j)) B u i) (fun (u : bc_F) t => bc_B (dC, dI) classes [(cI, .int), (cZ, .boolean)] (va_A [(w0, .inr (3, [.ref w1, .ref w2, .ref w3, .int (nI cq)])), (w1, .inl (cZ, 40, .inl B)), (w2, .inl (cI, 40, .inl U)), (w3, .inl (cI, 41, .inl Nn)), (h0, .inr (1, [.ref q1, .ref q2, .ref q3, .ref q4, .int (nI n)])), (q1, .inl (cI, 40, .inl K)), (q2, .inl (cI, 40, .inl O)), (q3, .inl (cI, 40, .inl T)), (q4, .inl (cI, 40, .inl Z))] sz) [(w0, .inr (3, [.ref w1, .ref w2, .ref w3, .int (nI cq)])), (w1, .inl (cZ, 40, .inl u)), (w2, .inl (cI, 40, .inl U)), (w3, .inl (cI, 41, .inl Nn)), (h0, .inr (1, [.ref q1, .ref q2, .ref q3, .ref q4, .int (nI n)])), (q1, .inl (cI, 40, .inl K)), (q2, .inl (cI, 40, .inl O)), (q3, .inl (cI, 40, .inl T)), (q4, .inl (cI, 40, .inl Z))] t) ((va_A [(w0, .inr (3, [.ref w1, .ref w2, .ref w3, .int (nI cq)])), (w1, .inl (cZ, 40, .inl B)), (w2, .inl (cI, 40, .inl U)), (w3, .inl (cI, 41, .inl Nn)), (h0, .inr (1, [.ref q1, .ref q2, .ref q3, .ref q4, .int (nI n)])), (q1, .inl (cI, 40, .inl K)), (q2, .inl (cI, 40, .inl O)), (q3, .inl (cI, 40, .inl T)), (q4, .inl (cI, 40, .inl Z))] sz))) 0 0 (va_A [(w0, .inr (3, [.ref w1, .ref w2, .ref w3, .int (nI cq)])), (w1, .inl (cZ, 40, .inl B)), (w2, .inl (cI, 40, .inl U)), (w3, .inl (cI, 41, .inl Nn)), (h0, .inr (1, [.ref q1, .ref q2, .ref q3, .ref q4, .int (nI n)])), (q1, .inl (cI, 40, .inl K)), (q2, .inl (cI, 40, .inl O)), (q3, .inl (cI, 40, .inl T)), (q4, .inl (cI, 40, .inl Z))] sz) := by
  refine bc_met (fun A => va_Qv (fun (u : bc_F) => ∀ i, i < n → bc_DJ n K (fun j => bc_tn n (T j)) B u i) (fun (u : bc_F) t => bc_B (dC, dI) classes [(cI, .int), (cZ, .boolean)] A [(w0, .inr (3, [.ref w1, .ref w2, .ref w3, .int (nI cq)])), (w1, .inl (cZ, 40, .inl u)), (w2, .inl (cI, 40, .inl U)), (w3, .inl (cI, 41, .inl Nn)), (h0, .inr (1, [.ref q1, .ref q2, .ref q3, .ref q4, .int (nI n)])), (q1, .inl (cI, 40, .inl K)), (q2, .inl (cI, 40, .inl O)), (q3, .inl (cI, 40, .inl T)), (q4, .inl (cI, 40, .inl Z))] t) A) (by decide) (Nat.le_of_ble_eq_true rfl) ?_
  intro p e s m args below meth c A ls F hr hlocks hin hA hP hD hl hS
  have hx := F.1
  have hb := F.2.1
  have hml := F.2.2.1
  have hown : s.vm.findClass "BranchConstants$Rewriting" = some m.cls := F.2.2.2.1
  have htw := F.2.2.2.2.1
  have hN := F.2.2.2.2.2.1
  have hK := F.2.2.2.2.2.2
  have hl : lv_has ls 4 [(0, .ref w0), (1, .ref h0)] := hl
  refine lv_aload_n hx hb de_W_dropJumpsToTheNext_0 rfl (lv_at hl 1 rfl) ?_
  refine va_getN (D := (dC, dI)) (ci := 1) (v := .int (nI n)) (C := rc_C) (T := fc_C) (N := 5) hx hb htw wi_C hown hK hP 4 rfl rfl 4 (by decide) (va_Nw.use rfl (hN _ nm_15)) (fun _ h9 => h9) rfl de_W_dropJumpsToTheNext_1 ?_
  refine lv_istore_n (lv' := [(2, .int (nI n)), (0, .ref w0), (1, .ref h0)]) hx hb de_W_dropJumpsToTheNext_4 rfl hl (by decide) rfl (fun ls hl => ?_)
  refine lv_aload_n hx hb de_W_dropJumpsToTheNext_5 rfl (lv_at hl 2 rfl) ?_
  refine va_getN (D := (dC, dI)) (ci := 1) (v := .int (nI n)) (C := rc_C) (T := fc_C) (N := 5) hx hb htw wi_C hown hK hP 4 rfl rfl 4 (by decide) (va_Nw.use rfl (hN _ nm_15)) (fun _ h9 => h9) rfl de_W_dropJumpsToTheNext_6 ?_
  refine lv_iconst (v := 1) hx hb de_W_dropJumpsToTheNext_9 (by decide) ?_
  refine lv_isub hx hb de_W_dropJumpsToTheNext_10 ?_
  refine lv_istore_n (lv' := [(3, .int ((nI n) - 1)), (2, .int (nI n)), (0, .ref w0), (1, .ref h0)]) hx hb de_W_dropJumpsToTheNext_11 rfl hl (by decide) rfl (fun ls hl => ?_)
  refine bc_loop (fun k_12 H locs ls => ∃ (k : Nat) (x : Nat) (B1 : bc_F), lv_has ls 4 [(3, .int (nI k - 1)), (2, .int (nI x)), (0, .ref w0), (1, .ref h0)] ∧ va_P (dC, dI) classes [(w0, .inr (3, [.ref w1, .ref w2, .ref w3, .int (nI cq)])), (w1, .inl (cZ, 40, .inl B1)), (w2, .inl (cI, 40, .inl U)), (w3, .inl (cI, 41, .inl Nn)), (h0, .inr (1, [.ref q1, .ref q2, .ref q3, .ref q4, .int (nI n)])), (q1, .inl (cI, 40, .inl K)), (q2, .inl (cI, 40, .inl O)), (q3, .inl (cI, 40, .inl T)), (q4, .inl (cI, 40, .inl Z))] H ∧ va_D A [(w0, .inr (3, [.ref w1, .ref w2, .ref w3, .int (nI cq)])), (w1, .inl (cZ, 40, .inl B1)), (w2, .inl (cI, 40, .inl U)), (w3, .inl (cI, 41, .inl Nn)), (h0, .inr (1, [.ref q1, .ref q2, .ref q3, .ref q4, .int (nI n)])), (q1, .inl (cI, 40, .inl K)), (q2, .inl (cI, 40, .inl O)), (q3, .inl (cI, 40, .inl T)), (q4, .inl (cI, 40, .inl Z))] ∧ va_S A s.heap H locs ∧ k_12 = k ∧ (bc_DI n K (fun j => bc_tn n (T j)) B k x B1)) ?_ ?_
  · rintro k_12 H locs ls ⟨k, x, B1, hl, hP, hD, hS, hk_12, hJ⟩ ih_12
    refine lv_iload_n hx hb de_W_dropJumpsToTheNext_12 rfl (lv_at hl 0 rfl) ?_
    refine lv_if_lt (tgt := 72) hx hb de_W_dropJumpsToTheNext_13 (by decide) (fun hc_13 => ?_) (fun hc_13 => ?_)
    · have hk0 : k = 0 := bc_km0 (by have := hJ.2.2.2; omega) hc_13
      exact bc_vret F hr hlocks B1 (fun i hi => hJ.1 i (by omega) hi) hP hD hS de_W_dropJumpsToTheNext_72
    · obtain ⟨j, rfl⟩ := bc_km1 hc_13
      have hjn : j < n := by have := hJ.2.2.2; omega
      rw [nI_pred] at hl
      refine lv_aload_n hx hb de_W_dropJumpsToTheNext_16 rfl (lv_at hl 2 rfl) ?_
      refine va_get (D := (dC, dI)) (ci := 3) (v := .ref w1) (C := rc_W) (T := fc_W) (N := 4) hx hb htw wi_W hown hK hP 0 rfl rfl 0 (by decide) (htw _ wm_64) (fun _ h9 => h9) rfl de_W_dropJumpsToTheNext_17 ?_
      refine lv_iload_n hx hb de_W_dropJumpsToTheNext_20 rfl (lv_at hl 0 rfl) ?_
      refine bc_zld (j := j) hx hb hK hP 1 1 rfl rfl (by omega) (by decide) de_W_dropJumpsToTheNext_21 ?_
      refine lv_if_eq (tgt := 55) hx hb de_W_dropJumpsToTheNext_22 (by decide) (fun hc_22 => ?_) (fun hc_22 => ?_)
      · refine lv_aload_n hx hb de_W_dropJumpsToTheNext_55 rfl (lv_at hl 2 rfl) ?_
        refine va_get (D := (dC, dI)) (ci := 3) (v := .ref w1) (C := rc_W) (T := fc_W) (N := 4) hx hb htw wi_W hown hK hP 0 rfl rfl 0 (by decide) (htw _ wm_64) (fun _ h9 => h9) rfl de_W_dropJumpsToTheNext_56 ?_
        refine lv_iload_n hx hb de_W_dropJumpsToTheNext_59 rfl (lv_at hl 0 rfl) ?_
        refine bc_zld (j := j) hx hb hK hP 1 1 rfl rfl (by omega) (by decide) de_W_dropJumpsToTheNext_60 ?_
        refine lv_if_eq (tgt := 66) hx hb de_W_dropJumpsToTheNext_61 (by decide) (fun _ => ?_) (fun hc => absurd hc_22 hc)
        refine lv_iinc (k := 0) (v := nI j - 1) (lv' := [(3, .int (nI j - 1)), (2, .int (nI x)), (0, .ref w0), (1, .ref h0)]) hx hb de_W_dropJumpsToTheNext_66 hl rfl (bc_dec1 _) (by decide) rfl (fun ls hl => ?_)
        refine lv_goto (tgt := 12) hx hb de_W_dropJumpsToTheNext_69 (by decide) ?_
        exact ih_12 _ _ _ _ (by omega) ⟨j, x, B1, lv_sub hl [0, 1, 2, 3] rfl, hP, hD, hS, rfl, bc_DI_c hJ hc_22⟩
      · refine lv_aload_n hx hb de_W_dropJumpsToTheNext_25 rfl (lv_at hl 3 rfl) ?_
        refine va_getN (D := (dC, dI)) (ci := 1) (v := .ref q1) (C := rc_C) (T := fc_C) (N := 5) hx hb htw wi_C hown hK hP 4 rfl rfl 0 (by decide) (va_Nw.use rfl (hN _ nm_1)) (fun _ h9 => h9) rfl de_W_dropJumpsToTheNext_26 ?_
        refine lv_iload_n hx hb de_W_dropJumpsToTheNext_29 rfl (lv_at hl 0 rfl) ?_
        refine bc_ild (j := j) hx hb hK hP 5 0 rfl rfl (by omega) (by decide) de_W_dropJumpsToTheNext_30 ?_
        refine lv_bipush (v := 6) hx hb de_W_dropJumpsToTheNext_31 (by decide) ?_
        refine lv_icmp_ne (tgt := 55) hx hb de_W_dropJumpsToTheNext_33 (by decide) (fun hc_33 => ?_) (fun hc_33 => ?_)
        · refine lv_aload_n hx hb de_W_dropJumpsToTheNext_55 rfl (lv_at hl 2 rfl) ?_
          refine va_get (D := (dC, dI)) (ci := 3) (v := .ref w1) (C := rc_W) (T := fc_W) (N := 4) hx hb htw wi_W hown hK hP 0 rfl rfl 0 (by decide) (htw _ wm_64) (fun _ h9 => h9) rfl de_W_dropJumpsToTheNext_56 ?_
          refine lv_iload_n hx hb de_W_dropJumpsToTheNext_59 rfl (lv_at hl 0 rfl) ?_
          refine bc_zld (j := j) hx hb hK hP 1 1 rfl rfl (by omega) (by decide) de_W_dropJumpsToTheNext_60 ?_
          refine lv_if_eq (tgt := 66) hx hb de_W_dropJumpsToTheNext_61 (by decide) (fun hc => absurd hc hc_22) (fun _ => ?_)
          refine lv_iload_n hx hb de_W_dropJumpsToTheNext_64 rfl (lv_at hl 0 rfl) ?_
          refine lv_istore_n (lv' := [(2, .int (nI j)), (3, .int (nI j)), (0, .ref w0), (1, .ref h0)]) hx hb de_W_dropJumpsToTheNext_65 rfl hl (by decide) rfl (fun ls hl => ?_)
          refine lv_iinc (k := 1) (v := nI j - 1) (lv' := [(3, .int (nI j - 1)), (2, .int (nI j)), (0, .ref w0), (1, .ref h0)]) hx hb de_W_dropJumpsToTheNext_66 hl rfl (bc_dec1 _) (by decide) rfl (fun ls hl => ?_)
          refine lv_goto (tgt := 12) hx hb de_W_dropJumpsToTheNext_69 (by decide) ?_
          exact ih_12 _ _ _ _ (by omega) ⟨j, j, B1, lv_sub hl [0, 1, 2, 3] rfl, hP, hD, hS, rfl, bc_DI_b hJ hc_22 (fun z => hc_33 z.1)⟩
        · refine lv_aload_n hx hb de_W_dropJumpsToTheNext_36 rfl (lv_at hl 3 rfl) ?_
          refine lv_iload_n hx hb de_W_dropJumpsToTheNext_37 rfl (lv_at hl 0 rfl) ?_
          refine bc_call_nv_i (As := [.int (nI j)]) (rest := []) (wr := [(w0, .inr (3, [.ref w1, .ref w2, .ref w3, .int (nI cq)])), (w1, .inl (cZ, 40, .inl B1)), (w2, .inl (cI, 40, .inl U)), (w3, .inl (cI, 41, .inl Nn))]) F (co_C_target (by omega) hn (htr j hjn (Or.inl hc_33))) wm_154 wm_2 nm_44 wm_153 wm_601 4 rfl rfl pd_C_target rfl rfl ⟨Nat.le_of_ble_eq_true rfl, Nat.le_of_ble_eq_true rfl⟩ hP hD hS hA [4, 5, 6, 7, 8] [0, 1, 2, 3] rfl rfl rfl rfl (by decide) rfl hl.1 rfl (Nat.le_of_ble_eq_true rfl) de_W_dropJumpsToTheNext_38 ⟨Nat.le_of_ble_eq_true rfl, Nat.le_of_ble_eq_true rfl⟩ (fun r_38 u_38 H locs hw_38 hP hD hS => ?_)
          have hP : va_P (dC, dI) classes [(w0, .inr (3, [.ref w1, .ref w2, .ref w3, .int (nI cq)])), (w1, .inl (cZ, 40, .inl B1)), (w2, .inl (cI, 40, .inl U)), (w3, .inl (cI, 41, .inl Nn)), (h0, .inr (1, [.ref q1, .ref q2, .ref q3, .ref q4, .int (nI n)])), (q1, .inl (cI, 40, .inl K)), (q2, .inl (cI, 40, .inl O)), (q3, .inl (cI, 40, .inl T)), (q4, .inl (cI, 40, .inl Z))] H := hP.sub [0, 1, 2, 3, 4, 5, 6, 7, 8] rfl
          have hD : va_D A [(w0, .inr (3, [.ref w1, .ref w2, .ref w3, .int (nI cq)])), (w1, .inl (cZ, 40, .inl B1)), (w2, .inl (cI, 40, .inl U)), (w3, .inl (cI, 41, .inl Nn)), (h0, .inr (1, [.ref q1, .ref q2, .ref q3, .ref q4, .int (nI n)])), (q1, .inl (cI, 40, .inl K)), (q2, .inl (cI, 40, .inl O)), (q3, .inl (cI, 40, .inl T)), (q4, .inl (cI, 40, .inl Z))] := hD.sub [0, 1, 2, 3, 4, 5, 6, 7, 8] (by decide) rfl
          subst hw_38
          refine lv_iload_n hx hb de_W_dropJumpsToTheNext_41 rfl (lv_at hl 1 rfl) ?_
          refine lv_icmp_ne (tgt := 55) hx hb de_W_dropJumpsToTheNext_42 (by decide) (fun hc_42 => ?_) (fun hc_42 => ?_)
          · refine lv_aload_n hx hb de_W_dropJumpsToTheNext_55 rfl (lv_at hl 2 rfl) ?_
            refine va_get (D := (dC, dI)) (ci := 3) (v := .ref w1) (C := rc_W) (T := fc_W) (N := 4) hx hb htw wi_W hown hK hP 0 rfl rfl 0 (by decide) (htw _ wm_64) (fun _ h9 => h9) rfl de_W_dropJumpsToTheNext_56 ?_
            refine lv_iload_n hx hb de_W_dropJumpsToTheNext_59 rfl (lv_at hl 0 rfl) ?_
            refine bc_zld (j := j) hx hb hK hP 1 1 rfl rfl (by omega) (by decide) de_W_dropJumpsToTheNext_60 ?_
            refine lv_if_eq (tgt := 66) hx hb de_W_dropJumpsToTheNext_61 (by decide) (fun hc => absurd hc hc_22) (fun _ => ?_)
            refine lv_iload_n hx hb de_W_dropJumpsToTheNext_64 rfl (lv_at hl 0 rfl) ?_
            refine lv_istore_n (lv' := [(2, .int (nI j)), (3, .int (nI j)), (0, .ref w0), (1, .ref h0)]) hx hb de_W_dropJumpsToTheNext_65 rfl hl (by decide) rfl (fun ls hl => ?_)
            refine lv_iinc (k := 1) (v := nI j - 1) (lv' := [(3, .int (nI j - 1)), (2, .int (nI j)), (0, .ref w0), (1, .ref h0)]) hx hb de_W_dropJumpsToTheNext_66 hl rfl (bc_dec1 _) (by decide) rfl (fun ls hl => ?_)
            refine lv_goto (tgt := 12) hx hb de_W_dropJumpsToTheNext_69 (by decide) ?_
            exact ih_12 _ _ _ _ (by omega) ⟨j, j, B1, lv_sub hl [0, 1, 2, 3] rfl, hP, hD, hS, rfl, bc_DI_b hJ hc_22 (fun z => hc_42 (congrArg nI z.2))⟩
          · have hqx : bc_tn n (T j) = x := (nI_eq (by have := bc_tn_le n (T j); omega) (by have := hJ.2.2.1.2.1; omega)).mp hc_42
            refine lv_aload_n hx hb de_W_dropJumpsToTheNext_45 rfl (lv_at hl 2 rfl) ?_
            refine va_get (D := (dC, dI)) (ci := 3) (v := .ref w1) (C := rc_W) (T := fc_W) (N := 4) hx hb htw wi_W hown hK hP 0 rfl rfl 0 (by decide) (htw _ wm_64) (fun _ h9 => h9) rfl de_W_dropJumpsToTheNext_46 ?_
            refine lv_iload_n hx hb de_W_dropJumpsToTheNext_49 rfl (lv_at hl 0 rfl) ?_
            refine lv_iconst (v := 0) hx hb de_W_dropJumpsToTheNext_50 (by decide) ?_
            refine bc_zst (j := j) hx hb hK hP hD hS 1 1 rfl rfl (by decide) (by omega) (by decide) de_W_dropJumpsToTheNext_51 (fun H locs hP hD hS => ?_)
            have hP : va_P (dC, dI) classes [(w0, .inr (3, [.ref w1, .ref w2, .ref w3, .int (nI cq)])), (w1, .inl (cZ, 40, .inl (upd B1 j 0))), (w2, .inl (cI, 40, .inl U)), (w3, .inl (cI, 41, .inl Nn)), (h0, .inr (1, [.ref q1, .ref q2, .ref q3, .ref q4, .int (nI n)])), (q1, .inl (cI, 40, .inl K)), (q2, .inl (cI, 40, .inl O)), (q3, .inl (cI, 40, .inl T)), (q4, .inl (cI, 40, .inl Z))] H := hP
            have hD : va_D A [(w0, .inr (3, [.ref w1, .ref w2, .ref w3, .int (nI cq)])), (w1, .inl (cZ, 40, .inl (upd B1 j 0))), (w2, .inl (cI, 40, .inl U)), (w3, .inl (cI, 41, .inl Nn)), (h0, .inr (1, [.ref q1, .ref q2, .ref q3, .ref q4, .int (nI n)])), (q1, .inl (cI, 40, .inl K)), (q2, .inl (cI, 40, .inl O)), (q3, .inl (cI, 40, .inl T)), (q4, .inl (cI, 40, .inl Z))] := hD
            refine lv_goto (tgt := 66) hx hb de_W_dropJumpsToTheNext_52 (by decide) ?_
            refine lv_iinc (k := 0) (v := nI j - 1) (lv' := [(3, .int (nI j - 1)), (2, .int (nI x)), (0, .ref w0), (1, .ref h0)]) hx hb de_W_dropJumpsToTheNext_66 hl rfl (bc_dec1 _) (by decide) rfl (fun ls hl => ?_)
            refine lv_goto (tgt := 12) hx hb de_W_dropJumpsToTheNext_69 (by decide) ?_
            exact ih_12 _ _ _ _ (by omega) ⟨j, x, upd B1 j 0, lv_sub hl [0, 1, 2, 3] rfl, hP, hD, hS, rfl, bc_DI_a hJ hc_22 hc_33 hqx⟩
  · exact ⟨_, n, n, B, lv_sub hl [0, 1, 2, 3] rfl, hP, hD, hS, rfl, bc_DI_0 n K (fun j => bc_tn n (T j)) B⟩

set_option maxHeartbeats 4000000 in
set_option maxRecDepth 100000 in
/-- an instruction goes to its new number -/
theorem co_W_moveToNewNumber {l : Launch} {dC : Nat → ClassId} {dI : Nat → Nat → Nat} {cI cZ : ClassId} {sz : Nat} {w0 w1 w2 w3 cq : Nat} {B U Nn : bc_F}{h0 q1 q2 q3 q4 n : Nat} {K O T Z : bc_F}{i a : Nat} (hn : n ≤ 40) (hi : i < n) (ha : a < 40) (eN : Nn i = nI a) (htr : bc_gs (K i) → bc_tr (T i)) : Met l yn_W_moveToNewNumber (Cond.code yn_W_moveToNewNumber by_W_moveToNewNumber 4 none :: wd_all) ({ frames := 1, cells := 0, slots := 0, locals := 25 } : Room) (bc_Pre (dC, dI) classes [(cI, .int), (cZ, .boolean)] [.ref w0, .ref h0, .int (nI i)] [(w0, .inr (3, [.ref w1, .ref w2, .ref w3, .int (nI cq)])), (w1, .inl (cZ, 40, .inl B)), (w2, .inl (cI, 40, .inl U)), (w3, .inl (cI, 41, .inl Nn)), (h0, .inr (1, [.ref q1, .ref q2, .ref q3, .ref q4, .int (nI n)])), (q1, .inl (cI, 40, .inl K)), (q2, .inl (cI, 40, .inl O)), (q3, .inl (cI, 40, .inl T)), (q4, .inl (cI, 40, .inl Z))] sz) (va_Qv (fun (u : bc_F × bc_F × bc_F × bc_F) => u.1 = upd K a (K i) ∧ u.2.1 = upd O a (bc_p1 (K i) (O i)) ∧ u.2.2.2 = upd Z a (bc_p3 (K i) (Z i)) ∧ (bc_gs (K i) → u.2.2.1 = upd T a (bc_p2 (K i) (Nn (bc_tn n (T i))))) ∧ (¬ bc_gs (K i) → u.2.2.1 = upd T a (bc_p2 (K i) (T i)))) (fun (u : bc_F × bc_F × bc_F × bc_F) t => bc_B (dC, dI) classes [(cI, .int), (cZ, .boolean)] (va_A [(w0, .inr (3, [.ref w1, .ref w2, .ref w3, .int (nI cq)])), (w1, .inl (cZ, 40, .inl B)), (w2, .inl (cI, 40, .inl U)), (w3, .inl (cI, 41, .inl Nn)), (h0, .inr (1, [.ref q1, .ref q2, .ref q3, .ref q4, .int (nI n)])), (q1, .inl (cI, 40, .inl K)), (q2, .inl (cI, 40, .inl O)), (q3, .inl (cI, 40, .inl T)), (q4, .inl (cI, 40, .inl Z))] sz) [(w0, .inr (3, [.ref w1, .ref w2, .ref w3, .int (nI cq)])), (w1, .inl (cZ, 40, .inl B)), (w2, .inl (cI, 40, .inl U)), (w3, .inl (cI, 41, .inl Nn)), (h0, .inr (1, [.ref q1, .ref q2, .ref q3, .ref q4, .int (nI n)])), (q1, .inl (cI, 40, .inl u.1)), (q2, .inl (cI, 40, .inl u.2.1)), (q3, .inl (cI, 40, .inl u.2.2.1)), (q4, .inl (cI, 40, .inl u.2.2.2))] t) ((va_A [(w0, .inr (3, [.ref w1, .ref w2, .ref w3, .int (nI cq)])), (w1, .inl (cZ, 40, .inl B)), (w2, .inl (cI, 40, .inl U)), (w3, .inl (cI, 41, .inl Nn)), (h0, .inr (1, [.ref q1, .ref q2, .ref q3, .ref q4, .int (nI n)])), (q1, .inl (cI, 40, .inl K)), (q2, .inl (cI, 40, .inl O)), (q3, .inl (cI, 40, .inl T)), (q4, .inl (cI, 40, .inl Z))] sz))) 0 0 (va_A [(w0, .inr (3, [.ref w1, .ref w2, .ref w3, .int (nI cq)])), (w1, .inl (cZ, 40, .inl B)), (w2, .inl (cI, 40, .inl U)), (w3, .inl (cI, 41, .inl Nn)), (h0, .inr (1, [.ref q1, .ref q2, .ref q3, .ref q4, .int (nI n)])), (q1, .inl (cI, 40, .inl K)), (q2, .inl (cI, 40, .inl O)), (q3, .inl (cI, 40, .inl T)), (q4, .inl (cI, 40, .inl Z))] sz) := by
  refine bc_met (fun A => va_Qv (fun (u : bc_F × bc_F × bc_F × bc_F) => u.1 = upd K a (K i) ∧ u.2.1 = upd O a (bc_p1 (K i) (O i)) ∧ u.2.2.2 = upd Z a (bc_p3 (K i) (Z i)) ∧ (bc_gs (K i) → u.2.2.1 = upd T a (bc_p2 (K i) (Nn (bc_tn n (T i))))) ∧ (¬ bc_gs (K i) → u.2.2.1 = upd T a (bc_p2 (K i) (T i)))) (fun (u : bc_F × bc_F × bc_F × bc_F) t => bc_B (dC, dI) classes [(cI, .int), (cZ, .boolean)] A [(w0, .inr (3, [.ref w1, .ref w2, .ref w3, .int (nI cq)])), (w1, .inl (cZ, 40, .inl B)), (w2, .inl (cI, 40, .inl U)), (w3, .inl (cI, 41, .inl Nn)), (h0, .inr (1, [.ref q1, .ref q2, .ref q3, .ref q4, .int (nI n)])), (q1, .inl (cI, 40, .inl u.1)), (q2, .inl (cI, 40, .inl u.2.1)), (q3, .inl (cI, 40, .inl u.2.2.1)), (q4, .inl (cI, 40, .inl u.2.2.2))] t) A) (by decide) (Nat.le_of_ble_eq_true rfl) ?_
  intro p e s m args below meth c A ls F hr hlocks hin hA hP hD hl hS
  have hx := F.1
  have hb := F.2.1
  have hml := F.2.2.1
  have hown : s.vm.findClass "BranchConstants$Rewriting" = some m.cls := F.2.2.2.1
  have htw := F.2.2.2.2.1
  have hN := F.2.2.2.2.2.1
  have hK := F.2.2.2.2.2.2
  have hl : lv_has ls 4 [(0, .ref w0), (1, .ref h0), (2, .int (nI i))] := hl
  refine lv_aload_n hx hb de_W_moveToNewNumber_0 rfl (lv_at hl 1 rfl) ?_
  refine lv_iload_n hx hb de_W_moveToNewNumber_1 rfl (lv_at hl 2 rfl) ?_
  refine bc_call_nv_i (As := [.int (nI i)]) (rest := []) (wr := [(w0, .inr (3, [.ref w1, .ref w2, .ref w3, .int (nI cq)])), (w1, .inl (cZ, 40, .inl B)), (w2, .inl (cI, 40, .inl U)), (w3, .inl (cI, 41, .inl Nn))]) F (co_C_hasTarget (by omega)) wm_325 wm_2 nm_43 wm_324 wm_613 4 rfl rfl pd_C_hasTarget rfl rfl ⟨Nat.le_of_ble_eq_true rfl, Nat.le_of_ble_eq_true rfl⟩ hP hD hS hA [4, 5, 6, 7, 8] [0, 1, 2, 3] rfl rfl rfl rfl (by decide) rfl hl.1 rfl (Nat.le_of_ble_eq_true rfl) de_W_moveToNewNumber_2 ⟨Nat.le_of_ble_eq_true rfl, Nat.le_of_ble_eq_true rfl⟩ (fun r_2 u_2 H locs hw_2 hP hD hS => ?_)
  have hP : va_P (dC, dI) classes [(w0, .inr (3, [.ref w1, .ref w2, .ref w3, .int (nI cq)])), (w1, .inl (cZ, 40, .inl B)), (w2, .inl (cI, 40, .inl U)), (w3, .inl (cI, 41, .inl Nn)), (h0, .inr (1, [.ref q1, .ref q2, .ref q3, .ref q4, .int (nI n)])), (q1, .inl (cI, 40, .inl K)), (q2, .inl (cI, 40, .inl O)), (q3, .inl (cI, 40, .inl T)), (q4, .inl (cI, 40, .inl Z))] H := hP.sub [0, 1, 2, 3, 4, 5, 6, 7, 8] rfl
  have hD : va_D A [(w0, .inr (3, [.ref w1, .ref w2, .ref w3, .int (nI cq)])), (w1, .inl (cZ, 40, .inl B)), (w2, .inl (cI, 40, .inl U)), (w3, .inl (cI, 41, .inl Nn)), (h0, .inr (1, [.ref q1, .ref q2, .ref q3, .ref q4, .int (nI n)])), (q1, .inl (cI, 40, .inl K)), (q2, .inl (cI, 40, .inl O)), (q3, .inl (cI, 40, .inl T)), (q4, .inl (cI, 40, .inl Z))] := hD.sub [0, 1, 2, 3, 4, 5, 6, 7, 8] (by decide) rfl
  rcases hw_2 with ⟨he_2, hv_2⟩ | ⟨he_2, hv_2⟩
  · subst he_2
    refine lv_if_eq (tgt := 21) hx hb de_W_moveToNewNumber_5 (by decide) (fun hc => absurd hc (by decide)) (fun _ => ?_)
    refine lv_aload_n hx hb de_W_moveToNewNumber_8 rfl (lv_at hl 0 rfl) ?_
    refine va_get (D := (dC, dI)) (ci := 3) (v := .ref w3) (C := rc_W) (T := fc_W) (N := 4) hx hb htw wi_W hown hK hP 0 rfl rfl 2 (by decide) (htw _ wm_66) (fun _ h9 => h9) rfl de_W_moveToNewNumber_9 ?_
    refine lv_aload_n hx hb de_W_moveToNewNumber_12 rfl (lv_at hl 1 rfl) ?_
    refine lv_iload_n hx hb de_W_moveToNewNumber_13 rfl (lv_at hl 2 rfl) ?_
    refine bc_call_nv_i (As := [.int (nI i)]) (rest := [.ref w3]) (wr := [(w0, .inr (3, [.ref w1, .ref w2, .ref w3, .int (nI cq)])), (w1, .inl (cZ, 40, .inl B)), (w2, .inl (cI, 40, .inl U)), (w3, .inl (cI, 41, .inl Nn))]) F (co_C_target (by omega) hn (htr hv_2)) wm_154 wm_2 nm_44 wm_153 wm_601 4 rfl rfl pd_C_target rfl rfl ⟨Nat.le_of_ble_eq_true rfl, Nat.le_of_ble_eq_true rfl⟩ hP hD hS hA [4, 5, 6, 7, 8] [0, 1, 2, 3] rfl rfl rfl rfl (by decide) rfl hl.1 rfl (Nat.le_of_ble_eq_true rfl) de_W_moveToNewNumber_14 ⟨Nat.le_of_ble_eq_true rfl, Nat.le_of_ble_eq_true rfl⟩ (fun r_14 u_14 H locs hw_14 hP hD hS => ?_)
    have hP : va_P (dC, dI) classes [(w0, .inr (3, [.ref w1, .ref w2, .ref w3, .int (nI cq)])), (w1, .inl (cZ, 40, .inl B)), (w2, .inl (cI, 40, .inl U)), (w3, .inl (cI, 41, .inl Nn)), (h0, .inr (1, [.ref q1, .ref q2, .ref q3, .ref q4, .int (nI n)])), (q1, .inl (cI, 40, .inl K)), (q2, .inl (cI, 40, .inl O)), (q3, .inl (cI, 40, .inl T)), (q4, .inl (cI, 40, .inl Z))] H := hP.sub [0, 1, 2, 3, 4, 5, 6, 7, 8] rfl
    have hD : va_D A [(w0, .inr (3, [.ref w1, .ref w2, .ref w3, .int (nI cq)])), (w1, .inl (cZ, 40, .inl B)), (w2, .inl (cI, 40, .inl U)), (w3, .inl (cI, 41, .inl Nn)), (h0, .inr (1, [.ref q1, .ref q2, .ref q3, .ref q4, .int (nI n)])), (q1, .inl (cI, 40, .inl K)), (q2, .inl (cI, 40, .inl O)), (q3, .inl (cI, 40, .inl T)), (q4, .inl (cI, 40, .inl Z))] := hD.sub [0, 1, 2, 3, 4, 5, 6, 7, 8] (by decide) rfl
    subst hw_14
    refine bc_ild (j := bc_tn n (T i)) hx hb hK hP 3 0 rfl rfl (by have := bc_tn_le n (T i); omega) (by decide) de_W_moveToNewNumber_17 ?_
    refine lv_goto (tgt := 27) hx hb de_W_moveToNewNumber_18 (by decide) ?_
    refine lv_istore_n (lv' := [(3, .int (Nn (bc_tn n (T i)))), (0, .ref w0), (1, .ref h0), (2, .int (nI i))]) hx hb de_W_moveToNewNumber_27 rfl hl (by decide) rfl (fun ls hl => ?_)
    refine lv_aload_n hx hb de_W_moveToNewNumber_28 rfl (lv_at hl 2 rfl) ?_
    refine lv_aload_n hx hb de_W_moveToNewNumber_29 rfl (lv_at hl 1 rfl) ?_
    refine va_get (D := (dC, dI)) (ci := 3) (v := .ref w3) (C := rc_W) (T := fc_W) (N := 4) hx hb htw wi_W hown hK hP 0 rfl rfl 2 (by decide) (htw _ wm_66) (fun _ h9 => h9) rfl de_W_moveToNewNumber_30 ?_
    refine lv_iload_n hx hb de_W_moveToNewNumber_33 rfl (lv_at hl 3 rfl) ?_
    refine bc_ild (j := i) hx hb hK hP 3 0 rfl rfl (by omega) (by decide) de_W_moveToNewNumber_34 ?_
    refine bc_ti (y := nI a) eN ?_
    refine lv_aload_n hx hb de_W_moveToNewNumber_35 rfl (lv_at hl 2 rfl) ?_
    refine va_getN (D := (dC, dI)) (ci := 1) (v := .ref q1) (C := rc_C) (T := fc_C) (N := 5) hx hb htw wi_C hown hK hP 4 rfl rfl 0 (by decide) (va_Nw.use rfl (hN _ nm_1)) (fun _ h9 => h9) rfl de_W_moveToNewNumber_36 ?_
    refine lv_iload_n hx hb de_W_moveToNewNumber_39 rfl (lv_at hl 3 rfl) ?_
    refine bc_ild (j := i) hx hb hK hP 5 0 rfl rfl (by omega) (by decide) de_W_moveToNewNumber_40 ?_
    refine lv_aload_n hx hb de_W_moveToNewNumber_41 rfl (lv_at hl 2 rfl) ?_
    refine va_getN (D := (dC, dI)) (ci := 1) (v := .ref q2) (C := rc_C) (T := fc_C) (N := 5) hx hb htw wi_C hown hK hP 4 rfl rfl 1 (by decide) (va_Nw.use rfl (hN _ nm_4)) (fun _ h9 => h9) rfl de_W_moveToNewNumber_42 ?_
    refine lv_iload_n hx hb de_W_moveToNewNumber_45 rfl (lv_at hl 3 rfl) ?_
    refine bc_ild (j := i) hx hb hK hP 6 0 rfl rfl (by omega) (by decide) de_W_moveToNewNumber_46 ?_
    refine lv_iload_n hx hb de_W_moveToNewNumber_47 rfl (lv_at hl 0 rfl) ?_
    refine lv_aload_n hx hb de_W_moveToNewNumber_48 rfl (lv_at hl 2 rfl) ?_
    refine va_getN (D := (dC, dI)) (ci := 1) (v := .ref q4) (C := rc_C) (T := fc_C) (N := 5) hx hb htw wi_C hown hK hP 4 rfl rfl 3 (by decide) (va_Nw.use rfl (hN _ nm_12)) (fun _ h9 => h9) rfl de_W_moveToNewNumber_49 ?_
    refine lv_iload_n hx hb de_W_moveToNewNumber_52 rfl (lv_at hl 3 rfl) ?_
    refine bc_ild (j := i) hx hb hK hP 8 0 rfl rfl (by omega) (by decide) de_W_moveToNewNumber_53 ?_
    refine bc_call_nv_v (As := [.int (nI a), .int (K i), .int (O i), .int (Nn (bc_tn n (T i))), .int (Z i)]) (rest := []) (wr := [(w0, .inr (3, [.ref w1, .ref w2, .ref w3, .int (nI cq)])), (w1, .inl (cZ, 40, .inl B)), (w2, .inl (cI, 40, .inl U)), (w3, .inl (cI, 41, .inl Nn))]) F (co_C_put ha) wm_255 wm_2 nm_40 wm_254 wm_608 4 rfl rfl pd_C_put rfl rfl ⟨Nat.le_of_ble_eq_true rfl, Nat.le_of_ble_eq_true rfl⟩ hP hD hS hA [4, 5, 6, 7, 8] [0, 1, 2, 3] rfl rfl rfl rfl (by decide) rfl hl.1 rfl (Nat.le_of_ble_eq_true rfl) de_W_moveToNewNumber_54 ⟨Nat.le_of_ble_eq_true rfl, Nat.le_of_ble_eq_true rfl⟩ (fun u_54 H locs hw_54 hP hD hS => ?_)
    subst hw_54
    have hP : va_P (dC, dI) classes [(w0, .inr (3, [.ref w1, .ref w2, .ref w3, .int (nI cq)])), (w1, .inl (cZ, 40, .inl B)), (w2, .inl (cI, 40, .inl U)), (w3, .inl (cI, 41, .inl Nn)), (h0, .inr (1, [.ref q1, .ref q2, .ref q3, .ref q4, .int (nI n)])), (q1, .inl (cI, 40, .inl (upd K a (K i)))), (q2, .inl (cI, 40, .inl (upd O a (bc_p1 (K i) (O i))))), (q3, .inl (cI, 40, .inl (upd T a (bc_p2 (K i) (Nn (bc_tn n (T i))))))), (q4, .inl (cI, 40, .inl (upd Z a (bc_p3 (K i) (Z i)))))] H := hP.sub [0, 1, 2, 3, 4, 5, 6, 7, 8] rfl
    have hD : va_D A [(w0, .inr (3, [.ref w1, .ref w2, .ref w3, .int (nI cq)])), (w1, .inl (cZ, 40, .inl B)), (w2, .inl (cI, 40, .inl U)), (w3, .inl (cI, 41, .inl Nn)), (h0, .inr (1, [.ref q1, .ref q2, .ref q3, .ref q4, .int (nI n)])), (q1, .inl (cI, 40, .inl (upd K a (K i)))), (q2, .inl (cI, 40, .inl (upd O a (bc_p1 (K i) (O i))))), (q3, .inl (cI, 40, .inl (upd T a (bc_p2 (K i) (Nn (bc_tn n (T i))))))), (q4, .inl (cI, 40, .inl (upd Z a (bc_p3 (K i) (Z i)))))] := hD.sub [0, 1, 2, 3, 4, 5, 6, 7, 8] (by decide) rfl
    exact bc_vret F hr hlocks ((upd K a (K i), upd O a (bc_p1 (K i) (O i)), upd T a (bc_p2 (K i) (Nn (bc_tn n (T i)))), upd Z a (bc_p3 (K i) (Z i)))) ⟨rfl, rfl, rfl, fun _ => rfl, fun z => absurd hv_2 z⟩ hP hD hS de_W_moveToNewNumber_57
  · subst he_2
    refine lv_if_eq (tgt := 21) hx hb de_W_moveToNewNumber_5 (by decide) (fun _ => ?_) (fun hc => absurd (by decide) hc)
    refine lv_aload_n hx hb de_W_moveToNewNumber_21 rfl (lv_at hl 1 rfl) ?_
    refine va_getN (D := (dC, dI)) (ci := 1) (v := .ref q3) (C := rc_C) (T := fc_C) (N := 5) hx hb htw wi_C hown hK hP 4 rfl rfl 2 (by decide) (va_Nw.use rfl (hN _ nm_7)) (fun _ h9 => h9) rfl de_W_moveToNewNumber_22 ?_
    refine lv_iload_n hx hb de_W_moveToNewNumber_25 rfl (lv_at hl 2 rfl) ?_
    refine bc_ild (j := i) hx hb hK hP 7 0 rfl rfl (by omega) (by decide) de_W_moveToNewNumber_26 ?_
    refine lv_istore_n (lv' := [(3, .int (T i)), (0, .ref w0), (1, .ref h0), (2, .int (nI i))]) hx hb de_W_moveToNewNumber_27 rfl hl (by decide) rfl (fun ls hl => ?_)
    refine lv_aload_n hx hb de_W_moveToNewNumber_28 rfl (lv_at hl 2 rfl) ?_
    refine lv_aload_n hx hb de_W_moveToNewNumber_29 rfl (lv_at hl 1 rfl) ?_
    refine va_get (D := (dC, dI)) (ci := 3) (v := .ref w3) (C := rc_W) (T := fc_W) (N := 4) hx hb htw wi_W hown hK hP 0 rfl rfl 2 (by decide) (htw _ wm_66) (fun _ h9 => h9) rfl de_W_moveToNewNumber_30 ?_
    refine lv_iload_n hx hb de_W_moveToNewNumber_33 rfl (lv_at hl 3 rfl) ?_
    refine bc_ild (j := i) hx hb hK hP 3 0 rfl rfl (by omega) (by decide) de_W_moveToNewNumber_34 ?_
    refine bc_ti (y := nI a) eN ?_
    refine lv_aload_n hx hb de_W_moveToNewNumber_35 rfl (lv_at hl 2 rfl) ?_
    refine va_getN (D := (dC, dI)) (ci := 1) (v := .ref q1) (C := rc_C) (T := fc_C) (N := 5) hx hb htw wi_C hown hK hP 4 rfl rfl 0 (by decide) (va_Nw.use rfl (hN _ nm_1)) (fun _ h9 => h9) rfl de_W_moveToNewNumber_36 ?_
    refine lv_iload_n hx hb de_W_moveToNewNumber_39 rfl (lv_at hl 3 rfl) ?_
    refine bc_ild (j := i) hx hb hK hP 5 0 rfl rfl (by omega) (by decide) de_W_moveToNewNumber_40 ?_
    refine lv_aload_n hx hb de_W_moveToNewNumber_41 rfl (lv_at hl 2 rfl) ?_
    refine va_getN (D := (dC, dI)) (ci := 1) (v := .ref q2) (C := rc_C) (T := fc_C) (N := 5) hx hb htw wi_C hown hK hP 4 rfl rfl 1 (by decide) (va_Nw.use rfl (hN _ nm_4)) (fun _ h9 => h9) rfl de_W_moveToNewNumber_42 ?_
    refine lv_iload_n hx hb de_W_moveToNewNumber_45 rfl (lv_at hl 3 rfl) ?_
    refine bc_ild (j := i) hx hb hK hP 6 0 rfl rfl (by omega) (by decide) de_W_moveToNewNumber_46 ?_
    refine lv_iload_n hx hb de_W_moveToNewNumber_47 rfl (lv_at hl 0 rfl) ?_
    refine lv_aload_n hx hb de_W_moveToNewNumber_48 rfl (lv_at hl 2 rfl) ?_
    refine va_getN (D := (dC, dI)) (ci := 1) (v := .ref q4) (C := rc_C) (T := fc_C) (N := 5) hx hb htw wi_C hown hK hP 4 rfl rfl 3 (by decide) (va_Nw.use rfl (hN _ nm_12)) (fun _ h9 => h9) rfl de_W_moveToNewNumber_49 ?_
    refine lv_iload_n hx hb de_W_moveToNewNumber_52 rfl (lv_at hl 3 rfl) ?_
    refine bc_ild (j := i) hx hb hK hP 8 0 rfl rfl (by omega) (by decide) de_W_moveToNewNumber_53 ?_
    refine bc_call_nv_v (As := [.int (nI a), .int (K i), .int (O i), .int (T i), .int (Z i)]) (rest := []) (wr := [(w0, .inr (3, [.ref w1, .ref w2, .ref w3, .int (nI cq)])), (w1, .inl (cZ, 40, .inl B)), (w2, .inl (cI, 40, .inl U)), (w3, .inl (cI, 41, .inl Nn))]) F (co_C_put ha) wm_255 wm_2 nm_40 wm_254 wm_608 4 rfl rfl pd_C_put rfl rfl ⟨Nat.le_of_ble_eq_true rfl, Nat.le_of_ble_eq_true rfl⟩ hP hD hS hA [4, 5, 6, 7, 8] [0, 1, 2, 3] rfl rfl rfl rfl (by decide) rfl hl.1 rfl (Nat.le_of_ble_eq_true rfl) de_W_moveToNewNumber_54 ⟨Nat.le_of_ble_eq_true rfl, Nat.le_of_ble_eq_true rfl⟩ (fun u_54 H locs hw_54 hP hD hS => ?_)
    subst hw_54
    have hP : va_P (dC, dI) classes [(w0, .inr (3, [.ref w1, .ref w2, .ref w3, .int (nI cq)])), (w1, .inl (cZ, 40, .inl B)), (w2, .inl (cI, 40, .inl U)), (w3, .inl (cI, 41, .inl Nn)), (h0, .inr (1, [.ref q1, .ref q2, .ref q3, .ref q4, .int (nI n)])), (q1, .inl (cI, 40, .inl (upd K a (K i)))), (q2, .inl (cI, 40, .inl (upd O a (bc_p1 (K i) (O i))))), (q3, .inl (cI, 40, .inl (upd T a (bc_p2 (K i) (T i))))), (q4, .inl (cI, 40, .inl (upd Z a (bc_p3 (K i) (Z i)))))] H := hP.sub [0, 1, 2, 3, 4, 5, 6, 7, 8] rfl
    have hD : va_D A [(w0, .inr (3, [.ref w1, .ref w2, .ref w3, .int (nI cq)])), (w1, .inl (cZ, 40, .inl B)), (w2, .inl (cI, 40, .inl U)), (w3, .inl (cI, 41, .inl Nn)), (h0, .inr (1, [.ref q1, .ref q2, .ref q3, .ref q4, .int (nI n)])), (q1, .inl (cI, 40, .inl (upd K a (K i)))), (q2, .inl (cI, 40, .inl (upd O a (bc_p1 (K i) (O i))))), (q3, .inl (cI, 40, .inl (upd T a (bc_p2 (K i) (T i))))), (q4, .inl (cI, 40, .inl (upd Z a (bc_p3 (K i) (Z i)))))] := hD.sub [0, 1, 2, 3, 4, 5, 6, 7, 8] (by decide) rfl
    exact bc_vret F hr hlocks ((upd K a (K i), upd O a (bc_p1 (K i) (O i)), upd T a (bc_p2 (K i) (T i)), upd Z a (bc_p3 (K i) (Z i)))) ⟨rfl, rfl, rfl, fun z => absurd z hv_2, fun _ => rfl⟩ hP hD hS de_W_moveToNewNumber_57

theorem bc_allf {i : Nat} {f : bc_F} {a : Nat → Int32} (h : ∀ j, j < i → f j = a j) : ∀ j, j < i + 1 → upd f i (a i) j = a j := by
  intro j hj
  by_cases c : j = i
  · subst c; rw [pk_us]
  · rw [pk_un c]; exact h j (by omega)
theorem bc_mv_step {n i : Nat} {K O T Z B N2 K3 O3 T3 Z3 K4 O4 T4 Z4 : bc_F} (hi : i < n) (hJ : bc_MV n K O T Z B i K3 O3 T3 Z3) (hB : B i ≠ 0) (hN : ∀ j, j < n + 1 → N2 j = nI (bc_ct B j))
    (h : K4 = upd K3 (bc_ct B i) (K3 i) ∧ O4 = upd O3 (bc_ct B i) (bc_p1 (K3 i) (O3 i)) ∧ Z4 = upd Z3 (bc_ct B i) (bc_p3 (K3 i) (Z3 i)) ∧ (bc_gs (K3 i) → T4 = upd T3 (bc_ct B i) (bc_p2 (K3 i) (N2 (bc_tn n (T3 i))))) ∧ (¬ bc_gs (K3 i) → T4 = upd T3 (bc_ct B i) (bc_p2 (K3 i) (T3 i)))) : bc_MV n K O T Z B (i + 1) K4 O4 T4 Z4 := by
  obtain ⟨e1, e2, e3, e4⟩ := hJ.2 i (Nat.le_refl _) hi
  obtain ⟨a1, a2, a3, a4, a5⟩ := h
  rw [e1, e2] at a2
  rw [e1, e4] at a3
  rw [e1, e3] at a4 a5
  rw [e1] at a1
  subst a1 a2 a3
  by_cases hg : bc_gs (K i)
  · rw [a4 hg]
    exact bc_MV_put hJ hi hB ⟨rfl, rfl, rfl, fun _ => by rw [hN _ (by have := bc_tn_le n (T i); omega)], fun z => absurd hg z⟩
  · rw [a5 hg]
    exact bc_MV_put hJ hi hB ⟨rfl, rfl, rfl, fun z => absurd z hg, fun _ => rfl⟩
set_option maxHeartbeats 4000000 in
set_option maxRecDepth 100000 in
/-- NUMBER -/
theorem co_W_numberAnew {l : Launch} {dC : Nat → ClassId} {dI : Nat → Nat → Nat} {cI cZ : ClassId} {sz : Nat} {w0 w1 w2 w3 cq : Nat} {B U Nn : bc_F}{h0 q1 q2 q3 q4 n : Nat} {K O T Z : bc_F}(hn : n ≤ 40) (htr : ∀ j, j < n → bc_gs (K j) → bc_tr (T j)) : Met l yn_W_numberAnew (Cond.code yn_W_numberAnew by_W_numberAnew 4 none :: wd_all) ({ frames := 2, cells := 0, slots := 0, locals := 48 } : Room) (bc_Pre (dC, dI) classes [(cI, .int), (cZ, .boolean)] [.ref w0, .ref h0] [(w0, .inr (3, [.ref w1, .ref w2, .ref w3, .int (nI cq)])), (w1, .inl (cZ, 40, .inl B)), (w2, .inl (cI, 40, .inl U)), (w3, .inl (cI, 41, .inl Nn)), (h0, .inr (1, [.ref q1, .ref q2, .ref q3, .ref q4, .int (nI n)])), (q1, .inl (cI, 40, .inl K)), (q2, .inl (cI, 40, .inl O)), (q3, .inl (cI, 40, .inl T)), (q4, .inl (cI, 40, .inl Z))] sz) (va_Qv (fun (u : bc_F × bc_F × bc_F × bc_F × bc_F) => ∀ j, j < n → B j ≠ 0 → bc_MVa n K O T Z B j (u.1 (bc_ct B j)) (u.2.1 (bc_ct B j)) (u.2.2.1 (bc_ct B j)) (u.2.2.2.1 (bc_ct B j))) (fun (u : bc_F × bc_F × bc_F × bc_F × bc_F) t => bc_B (dC, dI) classes [(cI, .int), (cZ, .boolean)] (va_A [(w0, .inr (3, [.ref w1, .ref w2, .ref w3, .int (nI cq)])), (w1, .inl (cZ, 40, .inl B)), (w2, .inl (cI, 40, .inl U)), (w3, .inl (cI, 41, .inl Nn)), (h0, .inr (1, [.ref q1, .ref q2, .ref q3, .ref q4, .int (nI n)])), (q1, .inl (cI, 40, .inl K)), (q2, .inl (cI, 40, .inl O)), (q3, .inl (cI, 40, .inl T)), (q4, .inl (cI, 40, .inl Z))] sz) [(w0, .inr (3, [.ref w1, .ref w2, .ref w3, .int (nI cq)])), (w1, .inl (cZ, 40, .inl B)), (w2, .inl (cI, 40, .inl U)), (w3, .inl (cI, 41, .inl u.2.2.2.2)), (h0, .inr (1, [.ref q1, .ref q2, .ref q3, .ref q4, .int (nI (bc_ct B n))])), (q1, .inl (cI, 40, .inl u.1)), (q2, .inl (cI, 40, .inl u.2.1)), (q3, .inl (cI, 40, .inl u.2.2.1)), (q4, .inl (cI, 40, .inl u.2.2.2.1))] t) ((va_A [(w0, .inr (3, [.ref w1, .ref w2, .ref w3, .int (nI cq)])), (w1, .inl (cZ, 40, .inl B)), (w2, .inl (cI, 40, .inl U)), (w3, .inl (cI, 41, .inl Nn)), (h0, .inr (1, [.ref q1, .ref q2, .ref q3, .ref q4, .int (nI n)])), (q1, .inl (cI, 40, .inl K)), (q2, .inl (cI, 40, .inl O)), (q3, .inl (cI, 40, .inl T)), (q4, .inl (cI, 40, .inl Z))] sz))) 0 0 (va_A [(w0, .inr (3, [.ref w1, .ref w2, .ref w3, .int (nI cq)])), (w1, .inl (cZ, 40, .inl B)), (w2, .inl (cI, 40, .inl U)), (w3, .inl (cI, 41, .inl Nn)), (h0, .inr (1, [.ref q1, .ref q2, .ref q3, .ref q4, .int (nI n)])), (q1, .inl (cI, 40, .inl K)), (q2, .inl (cI, 40, .inl O)), (q3, .inl (cI, 40, .inl T)), (q4, .inl (cI, 40, .inl Z))] sz) := by
  refine bc_met (fun A => va_Qv (fun (u : bc_F × bc_F × bc_F × bc_F × bc_F) => ∀ j, j < n → B j ≠ 0 → bc_MVa n K O T Z B j (u.1 (bc_ct B j)) (u.2.1 (bc_ct B j)) (u.2.2.1 (bc_ct B j)) (u.2.2.2.1 (bc_ct B j))) (fun (u : bc_F × bc_F × bc_F × bc_F × bc_F) t => bc_B (dC, dI) classes [(cI, .int), (cZ, .boolean)] A [(w0, .inr (3, [.ref w1, .ref w2, .ref w3, .int (nI cq)])), (w1, .inl (cZ, 40, .inl B)), (w2, .inl (cI, 40, .inl U)), (w3, .inl (cI, 41, .inl u.2.2.2.2)), (h0, .inr (1, [.ref q1, .ref q2, .ref q3, .ref q4, .int (nI (bc_ct B n))])), (q1, .inl (cI, 40, .inl u.1)), (q2, .inl (cI, 40, .inl u.2.1)), (q3, .inl (cI, 40, .inl u.2.2.1)), (q4, .inl (cI, 40, .inl u.2.2.2.1))] t) A) (by decide) (Nat.le_of_ble_eq_true rfl) ?_
  intro p e s m args below meth c A ls F hr hlocks hin hA hP hD hl hS
  have hx := F.1
  have hb := F.2.1
  have hml := F.2.2.1
  have hown : s.vm.findClass "BranchConstants$Rewriting" = some m.cls := F.2.2.2.1
  have htw := F.2.2.2.2.1
  have hN := F.2.2.2.2.2.1
  have hK := F.2.2.2.2.2.2
  have hl : lv_has ls 4 [(0, .ref w0), (1, .ref h0)] := hl
  refine lv_iconst (v := 0) hx hb de_W_numberAnew_0 (by decide) ?_
  refine bc_ti (y := nI (bc_ct B 0)) nI_0.symm ?_
  refine lv_istore_n (lv' := [(2, .int (nI (bc_ct B 0))), (0, .ref w0), (1, .ref h0)]) hx hb de_W_numberAnew_1 rfl hl (by decide) rfl (fun ls hl => ?_)
  refine lv_iconst (v := 0) hx hb de_W_numberAnew_2 (by decide) ?_
  refine bc_ti (y := nI 0) nI_0.symm ?_
  refine lv_istore_n (lv' := [(3, .int (nI 0)), (2, .int (nI (bc_ct B 0))), (0, .ref w0), (1, .ref h0)]) hx hb de_W_numberAnew_3 rfl hl (by decide) rfl (fun ls hl => ?_)
  refine bc_loop (fun k_4 H locs ls => ∃ (i : Nat) (N1 : bc_F), lv_has ls 4 [(3, .int (nI i)), (2, .int (nI (bc_ct B i))), (0, .ref w0), (1, .ref h0)] ∧ va_P (dC, dI) classes [(w0, .inr (3, [.ref w1, .ref w2, .ref w3, .int (nI cq)])), (w1, .inl (cZ, 40, .inl B)), (w2, .inl (cI, 40, .inl U)), (w3, .inl (cI, 41, .inl N1)), (h0, .inr (1, [.ref q1, .ref q2, .ref q3, .ref q4, .int (nI n)])), (q1, .inl (cI, 40, .inl K)), (q2, .inl (cI, 40, .inl O)), (q3, .inl (cI, 40, .inl T)), (q4, .inl (cI, 40, .inl Z))] H ∧ va_D A [(w0, .inr (3, [.ref w1, .ref w2, .ref w3, .int (nI cq)])), (w1, .inl (cZ, 40, .inl B)), (w2, .inl (cI, 40, .inl U)), (w3, .inl (cI, 41, .inl N1)), (h0, .inr (1, [.ref q1, .ref q2, .ref q3, .ref q4, .int (nI n)])), (q1, .inl (cI, 40, .inl K)), (q2, .inl (cI, 40, .inl O)), (q3, .inl (cI, 40, .inl T)), (q4, .inl (cI, 40, .inl Z))] ∧ va_S A s.heap H locs ∧ k_4 = n - i ∧ (i ≤ n) ∧ (∀ j, j < i → N1 j = nI (bc_ct B j))) ?_ ?_
  · rintro k_4 H locs ls ⟨i, N1, hl, hP, hD, hS, hk_4, hi, hN1⟩ ih_4
    refine lv_iload_n hx hb de_W_numberAnew_4 rfl (lv_at hl 0 rfl) ?_
    refine lv_aload_n hx hb de_W_numberAnew_5 rfl (lv_at hl 3 rfl) ?_
    refine va_getN (D := (dC, dI)) (ci := 1) (v := .int (nI n)) (C := rc_C) (T := fc_C) (N := 5) hx hb htw wi_C hown hK hP 4 rfl rfl 4 (by decide) (va_Nw.use rfl (hN _ nm_15)) (fun _ h9 => h9) rfl de_W_numberAnew_6 ?_
    refine lv_icmp_ge (tgt := 37) hx hb de_W_numberAnew_9 (by decide) (fun hc_9 => ?_) (fun hc_9 => ?_)
    · have heq : i = n := by have := bc_ge (by omega) (by omega) hc_9; omega
      rw [heq] at hl hN1
      refine lv_aload_n hx hb de_W_numberAnew_37 rfl (lv_at hl 2 rfl) ?_
      refine va_get (D := (dC, dI)) (ci := 3) (v := .ref w3) (C := rc_W) (T := fc_W) (N := 4) hx hb htw wi_W hown hK hP 0 rfl rfl 2 (by decide) (htw _ wm_66) (fun _ h9 => h9) rfl de_W_numberAnew_38 ?_
      refine lv_aload_n hx hb de_W_numberAnew_41 rfl (lv_at hl 3 rfl) ?_
      refine va_getN (D := (dC, dI)) (ci := 1) (v := .int (nI n)) (C := rc_C) (T := fc_C) (N := 5) hx hb htw wi_C hown hK hP 4 rfl rfl 4 (by decide) (va_Nw.use rfl (hN _ nm_15)) (fun _ h9 => h9) rfl de_W_numberAnew_42 ?_
      refine lv_iload_n hx hb de_W_numberAnew_45 rfl (lv_at hl 1 rfl) ?_
      refine bc_ist (j := n) hx hb hK hP hD hS 3 0 rfl rfl (by omega) (by decide) de_W_numberAnew_46 (fun H locs hP hD hS => ?_)
      have hP : va_P (dC, dI) classes [(w0, .inr (3, [.ref w1, .ref w2, .ref w3, .int (nI cq)])), (w1, .inl (cZ, 40, .inl B)), (w2, .inl (cI, 40, .inl U)), (w3, .inl (cI, 41, .inl (upd N1 n (nI (bc_ct B n))))), (h0, .inr (1, [.ref q1, .ref q2, .ref q3, .ref q4, .int (nI n)])), (q1, .inl (cI, 40, .inl K)), (q2, .inl (cI, 40, .inl O)), (q3, .inl (cI, 40, .inl T)), (q4, .inl (cI, 40, .inl Z))] H := hP
      have hD : va_D A [(w0, .inr (3, [.ref w1, .ref w2, .ref w3, .int (nI cq)])), (w1, .inl (cZ, 40, .inl B)), (w2, .inl (cI, 40, .inl U)), (w3, .inl (cI, 41, .inl (upd N1 n (nI (bc_ct B n))))), (h0, .inr (1, [.ref q1, .ref q2, .ref q3, .ref q4, .int (nI n)])), (q1, .inl (cI, 40, .inl K)), (q2, .inl (cI, 40, .inl O)), (q3, .inl (cI, 40, .inl T)), (q4, .inl (cI, 40, .inl Z))] := hD
      obtain ⟨N2, hN2e⟩ : ∃ z, z = upd N1 n (nI (bc_ct B n)) := ⟨_, rfl⟩
      have hN2 : ∀ j, j < n + 1 → N2 j = nI (bc_ct B j) := by rw [hN2e]; exact bc_allf hN1
      rw [← hN2e] at hP hD
      refine lv_iconst (v := 0) hx hb de_W_numberAnew_47 (by decide) ?_
      refine bc_ti (y := nI 0) nI_0.symm ?_
      refine lv_istore_n (lv' := [(3, .int (nI 0)), (2, .int (nI (bc_ct B n))), (0, .ref w0), (1, .ref h0)]) hx hb de_W_numberAnew_48 rfl hl (by decide) rfl (fun ls hl => ?_)
      refine bc_loop (fun k_49 H locs ls => ∃ (i2 : Nat) (K3 : bc_F) (O3 : bc_F) (T3 : bc_F) (Z3 : bc_F), lv_has ls 4 [(3, .int (nI i2)), (2, .int (nI (bc_ct B n))), (0, .ref w0), (1, .ref h0)] ∧ va_P (dC, dI) classes [(w0, .inr (3, [.ref w1, .ref w2, .ref w3, .int (nI cq)])), (w1, .inl (cZ, 40, .inl B)), (w2, .inl (cI, 40, .inl U)), (w3, .inl (cI, 41, .inl N2)), (h0, .inr (1, [.ref q1, .ref q2, .ref q3, .ref q4, .int (nI n)])), (q1, .inl (cI, 40, .inl K3)), (q2, .inl (cI, 40, .inl O3)), (q3, .inl (cI, 40, .inl T3)), (q4, .inl (cI, 40, .inl Z3))] H ∧ va_D A [(w0, .inr (3, [.ref w1, .ref w2, .ref w3, .int (nI cq)])), (w1, .inl (cZ, 40, .inl B)), (w2, .inl (cI, 40, .inl U)), (w3, .inl (cI, 41, .inl N2)), (h0, .inr (1, [.ref q1, .ref q2, .ref q3, .ref q4, .int (nI n)])), (q1, .inl (cI, 40, .inl K3)), (q2, .inl (cI, 40, .inl O3)), (q3, .inl (cI, 40, .inl T3)), (q4, .inl (cI, 40, .inl Z3))] ∧ va_S A s.heap H locs ∧ k_49 = n - i2 ∧ (i2 ≤ n) ∧ (bc_MV n K O T Z B i2 K3 O3 T3 Z3)) ?_ ?_
      · rintro k_49 H locs ls ⟨i2, K3, O3, T3, Z3, hl, hP, hD, hS, hk_49, hi2, hJ⟩ ih_49
        refine lv_iload_n hx hb de_W_numberAnew_49 rfl (lv_at hl 0 rfl) ?_
        refine lv_aload_n hx hb de_W_numberAnew_50 rfl (lv_at hl 3 rfl) ?_
        refine va_getN (D := (dC, dI)) (ci := 1) (v := .int (nI n)) (C := rc_C) (T := fc_C) (N := 5) hx hb htw wi_C hown hK hP 4 rfl rfl 4 (by decide) (va_Nw.use rfl (hN _ nm_15)) (fun _ h9 => h9) rfl de_W_numberAnew_51 ?_
        refine lv_icmp_ge (tgt := 78) hx hb de_W_numberAnew_54 (by decide) (fun hc_54 => ?_) (fun hc_54 => ?_)
        · have heq2 : i2 = n := by have := bc_ge (by omega) (by omega) hc_54; omega
          refine lv_aload_n hx hb de_W_numberAnew_78 rfl (lv_at hl 3 rfl) ?_
          refine lv_iload_n hx hb de_W_numberAnew_79 rfl (lv_at hl 1 rfl) ?_
          refine va_putN (D := (dC, dI)) (ci := 1) (v := .int (nI (bc_ct B n))) (ty := .int) (C := rc_C) (T := fc_C) (N := 5) hx hb htw wi_C tc_C tc_C_ok nc_C hown hK hP hD hS 4 rfl rfl 4 (by decide) (va_Nw.use rfl (hN _ nm_15)) (fun _ h9 => h9) rfl (by decide +kernel) rfl rfl (Nat.le_of_ble_eq_true rfl) de_W_numberAnew_80 (fun H locs hP hD hS => ?_)
          have hP : va_P (dC, dI) classes [(w0, .inr (3, [.ref w1, .ref w2, .ref w3, .int (nI cq)])), (w1, .inl (cZ, 40, .inl B)), (w2, .inl (cI, 40, .inl U)), (w3, .inl (cI, 41, .inl N2)), (h0, .inr (1, [.ref q1, .ref q2, .ref q3, .ref q4, .int (nI (bc_ct B n))])), (q1, .inl (cI, 40, .inl K3)), (q2, .inl (cI, 40, .inl O3)), (q3, .inl (cI, 40, .inl T3)), (q4, .inl (cI, 40, .inl Z3))] H := hP
          have hD : va_D A [(w0, .inr (3, [.ref w1, .ref w2, .ref w3, .int (nI cq)])), (w1, .inl (cZ, 40, .inl B)), (w2, .inl (cI, 40, .inl U)), (w3, .inl (cI, 41, .inl N2)), (h0, .inr (1, [.ref q1, .ref q2, .ref q3, .ref q4, .int (nI (bc_ct B n))])), (q1, .inl (cI, 40, .inl K3)), (q2, .inl (cI, 40, .inl O3)), (q3, .inl (cI, 40, .inl T3)), (q4, .inl (cI, 40, .inl Z3))] := hD
          exact bc_vret F hr hlocks ((K3, O3, T3, Z3, N2)) (fun j hj hB => hJ.1 j (by omega) hj hB) hP hD hS de_W_numberAnew_83
        · have hlt2 : i2 < n := bc_lt (by omega) (by omega) hc_54
          refine lv_aload_n hx hb de_W_numberAnew_57 rfl (lv_at hl 2 rfl) ?_
          refine va_get (D := (dC, dI)) (ci := 3) (v := .ref w1) (C := rc_W) (T := fc_W) (N := 4) hx hb htw wi_W hown hK hP 0 rfl rfl 0 (by decide) (htw _ wm_64) (fun _ h9 => h9) rfl de_W_numberAnew_58 ?_
          refine lv_iload_n hx hb de_W_numberAnew_61 rfl (lv_at hl 0 rfl) ?_
          refine bc_zld (j := i2) hx hb hK hP 1 1 rfl rfl (by omega) (by decide) de_W_numberAnew_62 ?_
          refine lv_if_eq (tgt := 72) hx hb de_W_numberAnew_63 (by decide) (fun hc_63 => ?_) (fun hc_63 => ?_)
          · refine lv_iinc (k := 0) (v := nI (i2 + 1)) (lv' := [(3, .int (nI (i2 + 1))), (2, .int (nI (bc_ct B n))), (0, .ref w0), (1, .ref h0)]) hx hb de_W_numberAnew_72 hl rfl (bc_inc _) (by decide) rfl (fun ls hl => ?_)
            refine lv_goto (tgt := 49) hx hb de_W_numberAnew_75 (by decide) ?_
            exact ih_49 _ _ _ _ (by omega) ⟨(i2 + 1), K3, O3, T3, Z3, lv_sub hl [0, 1, 2, 3] rfl, hP, hD, hS, rfl, (by omega), bc_MV_skip hJ hc_63⟩
          · refine lv_aload_n hx hb de_W_numberAnew_66 rfl (lv_at hl 2 rfl) ?_
            refine lv_aload_n hx hb de_W_numberAnew_67 rfl (lv_at hl 3 rfl) ?_
            refine lv_iload_n hx hb de_W_numberAnew_68 rfl (lv_at hl 0 rfl) ?_
            refine bc_call_v_v (As := [.ref h0, .int (nI i2)]) (rest := []) (wr := []) F (co_W_moveToNewNumber (a := bc_ct B i2) hn hlt2 (by have := bc_ct_le B i2; omega) (hN2 i2 (by omega)) (fun z => by rw [(hJ.2 i2 (Nat.le_refl _) hlt2).2.2.1]; rw [(hJ.2 i2 (Nat.le_refl _) hlt2).1] at z; exact htr i2 hlt2 z)) wm_343 wm_4 wm_341 wm_342 wm_618 0 rfl rfl pd_W_moveToNewNumber rfl rfl ⟨Nat.le_of_ble_eq_true rfl, Nat.le_of_ble_eq_true rfl⟩ hP hD hS hA [0, 1, 2, 3, 4, 5, 6, 7, 8] [] rfl rfl rfl rfl (by decide) rfl hl.1 rfl (Nat.le_of_ble_eq_true rfl) de_W_numberAnew_69 ⟨Nat.le_of_ble_eq_true rfl, Nat.le_of_ble_eq_true rfl⟩ (fun u_69 H locs hw_69 hP hD hS => ?_)
            obtain ⟨K4, O4, T4, Z4⟩ := u_69
            dsimp only at hw_69
            have hP : va_P (dC, dI) classes [(w0, .inr (3, [.ref w1, .ref w2, .ref w3, .int (nI cq)])), (w1, .inl (cZ, 40, .inl B)), (w2, .inl (cI, 40, .inl U)), (w3, .inl (cI, 41, .inl N2)), (h0, .inr (1, [.ref q1, .ref q2, .ref q3, .ref q4, .int (nI n)])), (q1, .inl (cI, 40, .inl K4)), (q2, .inl (cI, 40, .inl O4)), (q3, .inl (cI, 40, .inl T4)), (q4, .inl (cI, 40, .inl Z4))] H := hP.sub [0, 1, 2, 3, 4, 5, 6, 7, 8] rfl
            have hD : va_D A [(w0, .inr (3, [.ref w1, .ref w2, .ref w3, .int (nI cq)])), (w1, .inl (cZ, 40, .inl B)), (w2, .inl (cI, 40, .inl U)), (w3, .inl (cI, 41, .inl N2)), (h0, .inr (1, [.ref q1, .ref q2, .ref q3, .ref q4, .int (nI n)])), (q1, .inl (cI, 40, .inl K4)), (q2, .inl (cI, 40, .inl O4)), (q3, .inl (cI, 40, .inl T4)), (q4, .inl (cI, 40, .inl Z4))] := hD.sub [0, 1, 2, 3, 4, 5, 6, 7, 8] (by decide) rfl
            refine lv_iinc (k := 0) (v := nI (i2 + 1)) (lv' := [(3, .int (nI (i2 + 1))), (2, .int (nI (bc_ct B n))), (0, .ref w0), (1, .ref h0)]) hx hb de_W_numberAnew_72 hl rfl (bc_inc _) (by decide) rfl (fun ls hl => ?_)
            refine lv_goto (tgt := 49) hx hb de_W_numberAnew_75 (by decide) ?_
            exact ih_49 _ _ _ _ (by omega) ⟨(i2 + 1), K4, O4, T4, Z4, lv_sub hl [0, 1, 2, 3] rfl, hP, hD, hS, rfl, (by omega), bc_mv_step hlt2 hJ hc_63 hN2 hw_69⟩
      · exact ⟨_, 0, K, O, T, Z, lv_sub hl [0, 1, 2, 3] rfl, hP, hD, hS, rfl, Nat.zero_le _, ⟨fun j hj => absurd hj (Nat.not_lt_zero j), fun j _ _ => ⟨rfl, rfl, rfl, rfl⟩⟩⟩
    · have hlt : i < n := bc_lt (by omega) (by omega) hc_9
      refine lv_aload_n hx hb de_W_numberAnew_12 rfl (lv_at hl 2 rfl) ?_
      refine va_get (D := (dC, dI)) (ci := 3) (v := .ref w3) (C := rc_W) (T := fc_W) (N := 4) hx hb htw wi_W hown hK hP 0 rfl rfl 2 (by decide) (htw _ wm_66) (fun _ h9 => h9) rfl de_W_numberAnew_13 ?_
      refine lv_iload_n hx hb de_W_numberAnew_16 rfl (lv_at hl 0 rfl) ?_
      refine lv_iload_n hx hb de_W_numberAnew_17 rfl (lv_at hl 1 rfl) ?_
      refine bc_ist (j := i) hx hb hK hP hD hS 3 0 rfl rfl (by omega) (by decide) de_W_numberAnew_18 (fun H locs hP hD hS => ?_)
      have hP : va_P (dC, dI) classes [(w0, .inr (3, [.ref w1, .ref w2, .ref w3, .int (nI cq)])), (w1, .inl (cZ, 40, .inl B)), (w2, .inl (cI, 40, .inl U)), (w3, .inl (cI, 41, .inl (upd N1 i (nI (bc_ct B i))))), (h0, .inr (1, [.ref q1, .ref q2, .ref q3, .ref q4, .int (nI n)])), (q1, .inl (cI, 40, .inl K)), (q2, .inl (cI, 40, .inl O)), (q3, .inl (cI, 40, .inl T)), (q4, .inl (cI, 40, .inl Z))] H := hP
      have hD : va_D A [(w0, .inr (3, [.ref w1, .ref w2, .ref w3, .int (nI cq)])), (w1, .inl (cZ, 40, .inl B)), (w2, .inl (cI, 40, .inl U)), (w3, .inl (cI, 41, .inl (upd N1 i (nI (bc_ct B i))))), (h0, .inr (1, [.ref q1, .ref q2, .ref q3, .ref q4, .int (nI n)])), (q1, .inl (cI, 40, .inl K)), (q2, .inl (cI, 40, .inl O)), (q3, .inl (cI, 40, .inl T)), (q4, .inl (cI, 40, .inl Z))] := hD
      refine lv_aload_n hx hb de_W_numberAnew_19 rfl (lv_at hl 2 rfl) ?_
      refine va_get (D := (dC, dI)) (ci := 3) (v := .ref w1) (C := rc_W) (T := fc_W) (N := 4) hx hb htw wi_W hown hK hP 0 rfl rfl 0 (by decide) (htw _ wm_64) (fun _ h9 => h9) rfl de_W_numberAnew_20 ?_
      refine lv_iload_n hx hb de_W_numberAnew_23 rfl (lv_at hl 0 rfl) ?_
      refine bc_zld (j := i) hx hb hK hP 1 1 rfl rfl (by omega) (by decide) de_W_numberAnew_24 ?_
      refine lv_if_eq (tgt := 31) hx hb de_W_numberAnew_25 (by decide) (fun hc_25 => ?_) (fun hc_25 => ?_)
      · rw [← bc_ct_0 hc_25] at hl
        refine lv_iinc (k := 0) (v := nI (i + 1)) (lv' := [(3, .int (nI (i + 1))), (2, .int (nI (bc_ct B (i + 1)))), (0, .ref w0), (1, .ref h0)]) hx hb de_W_numberAnew_31 hl rfl (bc_inc _) (by decide) rfl (fun ls hl => ?_)
        refine lv_goto (tgt := 4) hx hb de_W_numberAnew_34 (by decide) ?_
        exact ih_4 _ _ _ _ (by omega) ⟨(i + 1), upd N1 i (nI (bc_ct B i)), lv_sub hl [0, 1, 2, 3] rfl, hP, hD, hS, rfl, (by omega), bc_allf hN1⟩
      · refine lv_iinc (k := 1) (v := nI (bc_ct B (i + 1))) (lv' := [(2, .int (nI (bc_ct B (i + 1)))), (3, .int (nI i)), (0, .ref w0), (1, .ref h0)]) hx hb de_W_numberAnew_28 hl rfl (by rw [bc_inc, bc_ct_1 hc_25]) (by decide) rfl (fun ls hl => ?_)
        refine lv_iinc (k := 1) (v := nI (i + 1)) (lv' := [(3, .int (nI (i + 1))), (2, .int (nI (bc_ct B (i + 1)))), (0, .ref w0), (1, .ref h0)]) hx hb de_W_numberAnew_31 hl rfl (bc_inc _) (by decide) rfl (fun ls hl => ?_)
        refine lv_goto (tgt := 4) hx hb de_W_numberAnew_34 (by decide) ?_
        exact ih_4 _ _ _ _ (by omega) ⟨(i + 1), upd N1 i (nI (bc_ct B i)), lv_sub hl [0, 1, 2, 3] rfl, hP, hD, hS, rfl, (by omega), bc_allf hN1⟩
  · exact ⟨_, 0, Nn, lv_sub hl [0, 1, 2, 3] rfl, hP, hD, hS, rfl, Nat.zero_le _, fun j hj => absurd hj (Nat.not_lt_zero j)⟩

theorem bc_p_id {k o t z : Int32} (hw : bc_wi k o t z) : bc_p1 k o = o ∧ bc_p2 k t = t ∧ bc_p3 k z = z := by
  unfold bc_p1 bc_p2 bc_p3
  rcases hw with ⟨e, _, e2⟩ | ⟨e, _, _, e2⟩ | ⟨e, _, _, _⟩ | ⟨e, _, _, e2⟩ | ⟨e, e1, _, e2⟩ | ⟨e, e1, e3, e2⟩
  · subst e; subst e2; exact ⟨rfl, rfl, rfl⟩
  · subst e; subst e2; exact ⟨rfl, rfl, rfl⟩
  · rcases e with e | e | e <;> (subst e; exact ⟨rfl, rfl, rfl⟩)
  · subst e; subst e2; exact ⟨rfl, rfl, rfl⟩
  · subst e; subst e1; subst e2; exact ⟨rfl, rfl, rfl⟩
  · subst e; subst e1; subst e2; subst e3; exact ⟨rfl, rfl, rfl⟩
theorem bc_p2_gs {k x : Int32} (h : bc_gs k) : bc_p2 k x = x := by
  unfold bc_p2
  rcases h with e | e <;> (subst e; rfl)
theorem bc_sc_cg {n : Nat} {K K' : bc_F} {q q' : Nat → Nat} (hK : ∀ j, j < n → K j = K' j) (hq : ∀ j, j < n → bc_gs (K j) → q j = q' j) {i t : Nat} (hi : i < n) (h : bc_sc n K q i t) : bc_sc n K' q' i t := by
  refine ⟨h.1, ?_⟩
  rw [← hK i hi]
  rcases h.2 with ⟨a, b⟩ | z
  · exact Or.inl ⟨a, by rw [b]; exact hq i hi a⟩
  · exact Or.inr z
theorem bc_sty_cg {n : Nat} {K K' : bc_F} {q q' : Nat → Nat} (hK : ∀ j, j < n → K j = K' j) (hq : ∀ j, j < n → bc_gs (K j) → q j = q' j) (i : Nat) : bc_sty n K q i ↔ bc_sty n K' q' i := by
  have hK' : ∀ j, j < n → K' j = K j := fun j hj => (hK j hj).symm
  have hq' : ∀ j, j < n → bc_gs (K' j) → q' j = q j := fun j hj hg => (hq j hj (by rw [hK j hj]; exact hg)).symm
  exact ⟨fun h P hP => h P ⟨hP.1, fun i t hi hPi hs => hP.2 i t hi hPi (bc_sc_cg hK hq hi hs)⟩, fun h P hP => h P ⟨hP.1, fun i t hi hPi hs => hP.2 i t hi hPi (bc_sc_cg hK' hq' hi hs)⟩⟩
theorem bc_RW_of {n : Nat} {F : Nat → Int32 × Int32 × Int32 × Int32 × Nat} {K3 O3 T3 Z3 T4 A B K5 O5 T5 Z5 : bc_F} (hF : ∀ i, i < n → bc_Fa n (F i) (K3 i) (O3 i) (T3 i) (Z3 i)) (hfw : ∀ i, i < n → bc_fw (F i)) (hT : bc_TI n K3 T3 n T4)
    (hA : ∀ j, j < n → (A j ≠ 0 ↔ bc_sty n K3 (fun j => bc_tn n (T4 j)) j)) (hD : ∀ i, i < n → bc_DJ n K3 (fun j => bc_tn n (T4 j)) A B i) (hM : ∀ j, j < n → B j ≠ 0 → bc_MVa n K3 O3 T4 Z3 B j (K5 (bc_ct B j)) (O5 (bc_ct B j)) (T5 (bc_ct B j)) (Z5 (bc_ct B j))) : bc_RW n F (bc_ct B n) K5 O5 T5 Z5 := by
  have hK : ∀ j, j < n → K3 j = (fun j => (F j).1) j := fun j hj => (hF j hj).1
  have hq : ∀ j, j < n → bc_gs (K3 j) → bc_tn n (T4 j) = bc_q2 n F j := by
    intro j hj hg
    rw [((hT j hj).1 hg).2.1 hj, ((hF j hj).2.2.2.1 (by rw [← (hF j hj).1]; exact hg)).2]
    exact bc_end_cg hK (fun i hi h6 => ((hF i hi).2.2.2.1 (by rw [← (hF i hi).1]; exact Or.inl h6)).2) _
  refine ⟨A, B, fun i hi => (hA i hi).trans (bc_sty_cg hK hq i), fun i hi k hk => ?_, rfl, fun i hi hB => ?_⟩
  · rw [hD i hi k hk]
    refine and_congr Iff.rfl (not_congr ?_)
    constructor
    · rintro ⟨a, b⟩
      exact ⟨by rw [← hK i hi]; exact a, by rw [← b]; exact (hq i hi (Or.inl a)).symm⟩
    · rintro ⟨a, b⟩
      have a' : K3 i = 6 := (hK i hi).trans a
      exact ⟨a', by rw [← b]; exact hq i hi (Or.inl a')⟩
  · obtain ⟨m1, m2, m3, m4, m5⟩ := hM i hi hB
    obtain ⟨f1, f2, f3, f4, f5⟩ := hF i hi
    rw [f1] at m1 m2 m3 m4 m5
    rw [f2] at m2
    rw [f3] at m3
    by_cases hg : bc_gs (F i).1
    · have hid := bc_p_id ((hfw i hi).2 hg (nI 0) ⟨0, by omega, rfl⟩)
      refine ⟨m1, by rw [m2, hid.1], by rw [m3, hid.2.2], fun _ => ?_, fun z => absurd hg z⟩
      rw [m4 hg, bc_p2_gs hg, hq i hi (by rw [f1]; exact hg)]
    · have hid := bc_p_id ((hfw i hi).1 hg)
      refine ⟨m1, by rw [m2, hid.1], by rw [m3, hid.2.2], fun z => absurd z hg, fun _ => ?_⟩
      rw [m5 hg, (hT i hi).2 (by rw [f1]; exact hg), f5 hg, hid.2.1]
set_option maxHeartbeats 4000000 in
set_option maxRecDepth 100000 in
/-- REWRITING -/
theorem co_W_perform {l : Launch} {dC : Nat → ClassId} {dI : Nat → Nat → Nat} {cI cZ : ClassId} {sz : Nat} {w0 w1 w2 w3 cq : Nat} {B U Nn : bc_F}{a0 s1 s2 s3 s4 s5 : Nat} {S C Wt SB CB : bc_F} {res : Int32}{h0 q1 q2 q3 q4 n : Nat} {K O T Z : bc_F}{g0 q5 q6 q7 q8 : Nat} {K2 O2 T2 Z2 : bc_F}{n0 : Nat} {g : bc_G} (hn : n ≤ 40) (hw : bc_wf n K O T Z) (hen : bc_en S C g) : Met l yn_W_perform (Cond.code yn_W_perform by_W_perform 4 none :: wd_all) ({ frames := 3, cells := 0, slots := 0, locals := 71 } : Room) (bc_Pre (dC, dI) classes [(cI, .int), (cZ, .boolean)] [.ref w0, .ref h0, .ref a0, .ref g0] [(w0, .inr (3, [.ref w1, .ref w2, .ref w3, .int (nI cq)])), (w1, .inl (cZ, 40, .inl B)), (w2, .inl (cI, 40, .inl U)), (w3, .inl (cI, 41, .inl Nn)), (h0, .inr (1, [.ref q1, .ref q2, .ref q3, .ref q4, .int (nI n)])), (q1, .inl (cI, 40, .inl K)), (q2, .inl (cI, 40, .inl O)), (q3, .inl (cI, 40, .inl T)), (q4, .inl (cI, 40, .inl Z)), (a0, .inr (0, [.ref s1, .ref s2, .ref s3, .ref s4, .ref s5, .int res])), (s1, .inl (cI, 240, .inl S)), (s2, .inl (cI, 240, .inl C)), (s3, .inl (cZ, 40, .inl Wt)), (s4, .inl (cI, 6, .inl SB)), (s5, .inl (cI, 6, .inl CB)), (g0, .inr (1, [.ref q5, .ref q6, .ref q7, .ref q8, .int (nI n0)])), (q5, .inl (cI, 40, .inl K2)), (q6, .inl (cI, 40, .inl O2)), (q7, .inl (cI, 40, .inl T2)), (q8, .inl (cI, 40, .inl Z2))] sz) (va_Qv (fun (u : (bc_F × bc_F × bc_F × bc_F) × Nat × (bc_F × bc_F × bc_F × Nat) × Int32) => bc_RW n (bc_f1 n K O T Z g) u.2.1 u.1.1 u.1.2.1 u.1.2.2.1 u.1.2.2.2 ∧ u.2.1 ≤ n) (fun (u : (bc_F × bc_F × bc_F × bc_F) × Nat × (bc_F × bc_F × bc_F × Nat) × Int32) t => bc_B (dC, dI) classes [(cI, .int), (cZ, .boolean)] (va_A [(w0, .inr (3, [.ref w1, .ref w2, .ref w3, .int (nI cq)])), (w1, .inl (cZ, 40, .inl B)), (w2, .inl (cI, 40, .inl U)), (w3, .inl (cI, 41, .inl Nn)), (h0, .inr (1, [.ref q1, .ref q2, .ref q3, .ref q4, .int (nI n)])), (q1, .inl (cI, 40, .inl K)), (q2, .inl (cI, 40, .inl O)), (q3, .inl (cI, 40, .inl T)), (q4, .inl (cI, 40, .inl Z)), (a0, .inr (0, [.ref s1, .ref s2, .ref s3, .ref s4, .ref s5, .int res])), (s1, .inl (cI, 240, .inl S)), (s2, .inl (cI, 240, .inl C)), (s3, .inl (cZ, 40, .inl Wt)), (s4, .inl (cI, 6, .inl SB)), (s5, .inl (cI, 6, .inl CB)), (g0, .inr (1, [.ref q5, .ref q6, .ref q7, .ref q8, .int (nI n0)])), (q5, .inl (cI, 40, .inl K2)), (q6, .inl (cI, 40, .inl O2)), (q7, .inl (cI, 40, .inl T2)), (q8, .inl (cI, 40, .inl Z2))] sz) [(w0, .inr (3, [.ref w1, .ref w2, .ref w3, .int (nI u.2.2.1.2.2.2)])), (w1, .inl (cZ, 40, .inl u.2.2.1.1)), (w2, .inl (cI, 40, .inl u.2.2.1.2.1)), (w3, .inl (cI, 41, .inl u.2.2.1.2.2.1)), (h0, .inr (1, [.ref q1, .ref q2, .ref q3, .ref q4, .int (nI n)])), (q1, .inl (cI, 40, .inl K)), (q2, .inl (cI, 40, .inl O)), (q3, .inl (cI, 40, .inl T)), (q4, .inl (cI, 40, .inl Z)), (a0, .inr (0, [.ref s1, .ref s2, .ref s3, .ref s4, .ref s5, .int u.2.2.2])), (s1, .inl (cI, 240, .inl S)), (s2, .inl (cI, 240, .inl C)), (s3, .inl (cZ, 40, .inl Wt)), (s4, .inl (cI, 6, .inl SB)), (s5, .inl (cI, 6, .inl CB)), (g0, .inr (1, [.ref q5, .ref q6, .ref q7, .ref q8, .int (nI u.2.1)])), (q5, .inl (cI, 40, .inl u.1.1)), (q6, .inl (cI, 40, .inl u.1.2.1)), (q7, .inl (cI, 40, .inl u.1.2.2.1)), (q8, .inl (cI, 40, .inl u.1.2.2.2))] t) ((va_A [(w0, .inr (3, [.ref w1, .ref w2, .ref w3, .int (nI cq)])), (w1, .inl (cZ, 40, .inl B)), (w2, .inl (cI, 40, .inl U)), (w3, .inl (cI, 41, .inl Nn)), (h0, .inr (1, [.ref q1, .ref q2, .ref q3, .ref q4, .int (nI n)])), (q1, .inl (cI, 40, .inl K)), (q2, .inl (cI, 40, .inl O)), (q3, .inl (cI, 40, .inl T)), (q4, .inl (cI, 40, .inl Z)), (a0, .inr (0, [.ref s1, .ref s2, .ref s3, .ref s4, .ref s5, .int res])), (s1, .inl (cI, 240, .inl S)), (s2, .inl (cI, 240, .inl C)), (s3, .inl (cZ, 40, .inl Wt)), (s4, .inl (cI, 6, .inl SB)), (s5, .inl (cI, 6, .inl CB)), (g0, .inr (1, [.ref q5, .ref q6, .ref q7, .ref q8, .int (nI n0)])), (q5, .inl (cI, 40, .inl K2)), (q6, .inl (cI, 40, .inl O2)), (q7, .inl (cI, 40, .inl T2)), (q8, .inl (cI, 40, .inl Z2))] sz))) 0 0 (va_A [(w0, .inr (3, [.ref w1, .ref w2, .ref w3, .int (nI cq)])), (w1, .inl (cZ, 40, .inl B)), (w2, .inl (cI, 40, .inl U)), (w3, .inl (cI, 41, .inl Nn)), (h0, .inr (1, [.ref q1, .ref q2, .ref q3, .ref q4, .int (nI n)])), (q1, .inl (cI, 40, .inl K)), (q2, .inl (cI, 40, .inl O)), (q3, .inl (cI, 40, .inl T)), (q4, .inl (cI, 40, .inl Z)), (a0, .inr (0, [.ref s1, .ref s2, .ref s3, .ref s4, .ref s5, .int res])), (s1, .inl (cI, 240, .inl S)), (s2, .inl (cI, 240, .inl C)), (s3, .inl (cZ, 40, .inl Wt)), (s4, .inl (cI, 6, .inl SB)), (s5, .inl (cI, 6, .inl CB)), (g0, .inr (1, [.ref q5, .ref q6, .ref q7, .ref q8, .int (nI n0)])), (q5, .inl (cI, 40, .inl K2)), (q6, .inl (cI, 40, .inl O2)), (q7, .inl (cI, 40, .inl T2)), (q8, .inl (cI, 40, .inl Z2))] sz) := by
  refine bc_met (fun A => va_Qv (fun (u : (bc_F × bc_F × bc_F × bc_F) × Nat × (bc_F × bc_F × bc_F × Nat) × Int32) => bc_RW n (bc_f1 n K O T Z g) u.2.1 u.1.1 u.1.2.1 u.1.2.2.1 u.1.2.2.2 ∧ u.2.1 ≤ n) (fun (u : (bc_F × bc_F × bc_F × bc_F) × Nat × (bc_F × bc_F × bc_F × Nat) × Int32) t => bc_B (dC, dI) classes [(cI, .int), (cZ, .boolean)] A [(w0, .inr (3, [.ref w1, .ref w2, .ref w3, .int (nI u.2.2.1.2.2.2)])), (w1, .inl (cZ, 40, .inl u.2.2.1.1)), (w2, .inl (cI, 40, .inl u.2.2.1.2.1)), (w3, .inl (cI, 41, .inl u.2.2.1.2.2.1)), (h0, .inr (1, [.ref q1, .ref q2, .ref q3, .ref q4, .int (nI n)])), (q1, .inl (cI, 40, .inl K)), (q2, .inl (cI, 40, .inl O)), (q3, .inl (cI, 40, .inl T)), (q4, .inl (cI, 40, .inl Z)), (a0, .inr (0, [.ref s1, .ref s2, .ref s3, .ref s4, .ref s5, .int u.2.2.2])), (s1, .inl (cI, 240, .inl S)), (s2, .inl (cI, 240, .inl C)), (s3, .inl (cZ, 40, .inl Wt)), (s4, .inl (cI, 6, .inl SB)), (s5, .inl (cI, 6, .inl CB)), (g0, .inr (1, [.ref q5, .ref q6, .ref q7, .ref q8, .int (nI u.2.1)])), (q5, .inl (cI, 40, .inl u.1.1)), (q6, .inl (cI, 40, .inl u.1.2.1)), (q7, .inl (cI, 40, .inl u.1.2.2.1)), (q8, .inl (cI, 40, .inl u.1.2.2.2))] t) A) (by decide) (Nat.le_of_ble_eq_true rfl) ?_
  intro p e s m args below meth c A ls F hr hlocks hin hA hP hD hl hS
  have hx := F.1
  have hb := F.2.1
  have hml := F.2.2.1
  have hown : s.vm.findClass "BranchConstants$Rewriting" = some m.cls := F.2.2.2.1
  have htw := F.2.2.2.2.1
  have hN := F.2.2.2.2.2.1
  have hK := F.2.2.2.2.2.2
  have hl : lv_has ls 4 [(0, .ref w0), (1, .ref h0), (2, .ref a0), (3, .ref g0)] := hl
  refine lv_aload_n hx hb de_W_perform_0 rfl (lv_at hl 3 rfl) ?_
  refine lv_aload_n hx hb de_W_perform_1 rfl (lv_at hl 1 rfl) ?_
  refine bc_call_nv_v (As := [.ref h0]) (rest := []) (wr := [(w0, .inr (3, [.ref w1, .ref w2, .ref w3, .int (nI cq)])), (w1, .inl (cZ, 40, .inl B)), (w2, .inl (cI, 40, .inl U)), (w3, .inl (cI, 41, .inl Nn)), (a0, .inr (0, [.ref s1, .ref s2, .ref s3, .ref s4, .ref s5, .int res])), (s1, .inl (cI, 240, .inl S)), (s2, .inl (cI, 240, .inl C)), (s3, .inl (cZ, 40, .inl Wt)), (s4, .inl (cI, 6, .inl SB)), (s5, .inl (cI, 6, .inl CB))]) F (co_C_putAllOf hn) wm_316 wm_2 nm_36 wm_315 wm_612 15 rfl rfl pd_C_putAllOf rfl rfl ⟨Nat.le_of_ble_eq_true rfl, Nat.le_of_ble_eq_true rfl⟩ hP hD hS hA [15, 16, 17, 18, 19, 4, 5, 6, 7, 8] [0, 1, 2, 3, 9, 10, 11, 12, 13, 14] rfl rfl rfl rfl (by decide) rfl hl.1 rfl (Nat.le_of_ble_eq_true rfl) de_W_perform_2 ⟨Nat.le_of_ble_eq_true rfl, Nat.le_of_ble_eq_true rfl⟩ (fun u_2 H locs hw_2 hP hD hS => ?_)
  obtain ⟨K3, O3, T3, Z3⟩ := u_2
  dsimp only at hw_2
  have hcp : ∀ j, j < n → K3 j = K j ∧ O3 j = O j ∧ T3 j = T j ∧ Z3 j = Z j := fun j hj => by
    have h9 := hw_2 j hj
    have h8 := bc_p_id (hw j hj)
    rw [h8.1, h8.2.1, h8.2.2] at h9
    exact h9
  have hP : va_P (dC, dI) classes [(w0, .inr (3, [.ref w1, .ref w2, .ref w3, .int (nI cq)])), (w1, .inl (cZ, 40, .inl B)), (w2, .inl (cI, 40, .inl U)), (w3, .inl (cI, 41, .inl Nn)), (h0, .inr (1, [.ref q1, .ref q2, .ref q3, .ref q4, .int (nI n)])), (q1, .inl (cI, 40, .inl K)), (q2, .inl (cI, 40, .inl O)), (q3, .inl (cI, 40, .inl T)), (q4, .inl (cI, 40, .inl Z)), (a0, .inr (0, [.ref s1, .ref s2, .ref s3, .ref s4, .ref s5, .int res])), (s1, .inl (cI, 240, .inl S)), (s2, .inl (cI, 240, .inl C)), (s3, .inl (cZ, 40, .inl Wt)), (s4, .inl (cI, 6, .inl SB)), (s5, .inl (cI, 6, .inl CB)), (g0, .inr (1, [.ref q5, .ref q6, .ref q7, .ref q8, .int (nI n)])), (q5, .inl (cI, 40, .inl K3)), (q6, .inl (cI, 40, .inl O3)), (q7, .inl (cI, 40, .inl T3)), (q8, .inl (cI, 40, .inl Z3))] H := hP.sub [0, 1, 2, 3, 15, 16, 17, 18, 19, 4, 5, 6, 7, 8, 9, 10, 11, 12, 13, 14] rfl
  have hD : va_D A [(w0, .inr (3, [.ref w1, .ref w2, .ref w3, .int (nI cq)])), (w1, .inl (cZ, 40, .inl B)), (w2, .inl (cI, 40, .inl U)), (w3, .inl (cI, 41, .inl Nn)), (h0, .inr (1, [.ref q1, .ref q2, .ref q3, .ref q4, .int (nI n)])), (q1, .inl (cI, 40, .inl K)), (q2, .inl (cI, 40, .inl O)), (q3, .inl (cI, 40, .inl T)), (q4, .inl (cI, 40, .inl Z)), (a0, .inr (0, [.ref s1, .ref s2, .ref s3, .ref s4, .ref s5, .int res])), (s1, .inl (cI, 240, .inl S)), (s2, .inl (cI, 240, .inl C)), (s3, .inl (cZ, 40, .inl Wt)), (s4, .inl (cI, 6, .inl SB)), (s5, .inl (cI, 6, .inl CB)), (g0, .inr (1, [.ref q5, .ref q6, .ref q7, .ref q8, .int (nI n)])), (q5, .inl (cI, 40, .inl K3)), (q6, .inl (cI, 40, .inl O3)), (q7, .inl (cI, 40, .inl T3)), (q8, .inl (cI, 40, .inl Z3))] := hD.sub [0, 1, 2, 3, 15, 16, 17, 18, 19, 4, 5, 6, 7, 8, 9, 10, 11, 12, 13, 14] (by decide) rfl
  refine lv_aload_n hx hb de_W_perform_5 rfl (lv_at hl 1 rfl) ?_
  refine lv_aload_n hx hb de_W_perform_6 rfl (lv_at hl 2 rfl) ?_
  refine lv_aload_n hx hb de_W_perform_7 rfl (lv_at hl 3 rfl) ?_
  refine bc_call_s_v (As := [.ref h0, .ref a0, .ref g0]) (rest := []) (wr := [(w0, .inr (3, [.ref w1, .ref w2, .ref w3, .int (nI cq)])), (w1, .inl (cZ, 40, .inl B)), (w2, .inl (cI, 40, .inl U)), (w3, .inl (cI, 41, .inl Nn))]) F (co_W_fold hn hw hen hcp) wm_320 wm_4 wm_318 wm_319 pd_W_fold rfl rfl ⟨Nat.le_of_ble_eq_true rfl, Nat.le_of_ble_eq_true rfl⟩ hP hD hS hA [4, 5, 6, 7, 8, 9, 10, 11, 12, 13, 14, 15, 16, 17, 18, 19] [0, 1, 2, 3] rfl rfl rfl rfl (by decide) rfl hl.1 rfl (Nat.le_of_ble_eq_true rfl) de_W_perform_8 ⟨Nat.le_of_ble_eq_true rfl, Nat.le_of_ble_eq_true rfl⟩ (fun u_8 H locs hw_8 hP hD hS => ?_)
  obtain ⟨K4, O4, T4, Z4, x4⟩ := u_8
  dsimp only at hw_8
  have hP : va_P (dC, dI) classes [(w0, .inr (3, [.ref w1, .ref w2, .ref w3, .int (nI cq)])), (w1, .inl (cZ, 40, .inl B)), (w2, .inl (cI, 40, .inl U)), (w3, .inl (cI, 41, .inl Nn)), (h0, .inr (1, [.ref q1, .ref q2, .ref q3, .ref q4, .int (nI n)])), (q1, .inl (cI, 40, .inl K)), (q2, .inl (cI, 40, .inl O)), (q3, .inl (cI, 40, .inl T)), (q4, .inl (cI, 40, .inl Z)), (a0, .inr (0, [.ref s1, .ref s2, .ref s3, .ref s4, .ref s5, .int x4])), (s1, .inl (cI, 240, .inl S)), (s2, .inl (cI, 240, .inl C)), (s3, .inl (cZ, 40, .inl Wt)), (s4, .inl (cI, 6, .inl SB)), (s5, .inl (cI, 6, .inl CB)), (g0, .inr (1, [.ref q5, .ref q6, .ref q7, .ref q8, .int (nI n)])), (q5, .inl (cI, 40, .inl K4)), (q6, .inl (cI, 40, .inl O4)), (q7, .inl (cI, 40, .inl T4)), (q8, .inl (cI, 40, .inl Z4))] H := hP.sub [0, 1, 2, 3, 4, 5, 6, 7, 8, 9, 10, 11, 12, 13, 14, 15, 16, 17, 18, 19] rfl
  have hD : va_D A [(w0, .inr (3, [.ref w1, .ref w2, .ref w3, .int (nI cq)])), (w1, .inl (cZ, 40, .inl B)), (w2, .inl (cI, 40, .inl U)), (w3, .inl (cI, 41, .inl Nn)), (h0, .inr (1, [.ref q1, .ref q2, .ref q3, .ref q4, .int (nI n)])), (q1, .inl (cI, 40, .inl K)), (q2, .inl (cI, 40, .inl O)), (q3, .inl (cI, 40, .inl T)), (q4, .inl (cI, 40, .inl Z)), (a0, .inr (0, [.ref s1, .ref s2, .ref s3, .ref s4, .ref s5, .int x4])), (s1, .inl (cI, 240, .inl S)), (s2, .inl (cI, 240, .inl C)), (s3, .inl (cZ, 40, .inl Wt)), (s4, .inl (cI, 6, .inl SB)), (s5, .inl (cI, 6, .inl CB)), (g0, .inr (1, [.ref q5, .ref q6, .ref q7, .ref q8, .int (nI n)])), (q5, .inl (cI, 40, .inl K4)), (q6, .inl (cI, 40, .inl O4)), (q7, .inl (cI, 40, .inl T4)), (q8, .inl (cI, 40, .inl Z4))] := hD.sub [0, 1, 2, 3, 4, 5, 6, 7, 8, 9, 10, 11, 12, 13, 14, 15, 16, 17, 18, 19] (by decide) rfl
  refine lv_aload_n hx hb de_W_perform_11 rfl (lv_at hl 3 rfl) ?_
  refine bc_call_s_v (As := [.ref g0]) (rest := []) (wr := [(w0, .inr (3, [.ref w1, .ref w2, .ref w3, .int (nI cq)])), (w1, .inl (cZ, 40, .inl B)), (w2, .inl (cI, 40, .inl U)), (w3, .inl (cI, 41, .inl Nn)), (h0, .inr (1, [.ref q1, .ref q2, .ref q3, .ref q4, .int (nI n)])), (q1, .inl (cI, 40, .inl K)), (q2, .inl (cI, 40, .inl O)), (q3, .inl (cI, 40, .inl T)), (q4, .inl (cI, 40, .inl Z)), (a0, .inr (0, [.ref s1, .ref s2, .ref s3, .ref s4, .ref s5, .int x4])), (s1, .inl (cI, 240, .inl S)), (s2, .inl (cI, 240, .inl C)), (s3, .inl (cZ, 40, .inl Wt)), (s4, .inl (cI, 6, .inl SB)), (s5, .inl (cI, 6, .inl CB))]) F (co_W_thread hn (fun j hj hg => ((hw_8 j hj).2.2.2.1 (by rw [← (hw_8 j hj).1]; exact hg)).1)) wm_323 wm_4 wm_321 wm_322 pd_W_thread rfl rfl ⟨Nat.le_of_ble_eq_true rfl, Nat.le_of_ble_eq_true rfl⟩ hP hD hS hA [15, 16, 17, 18, 19] [0, 1, 2, 3, 4, 5, 6, 7, 8, 9, 10, 11, 12, 13, 14] rfl rfl rfl rfl (by decide) rfl hl.1 rfl (Nat.le_of_ble_eq_true rfl) de_W_perform_12 ⟨Nat.le_of_ble_eq_true rfl, Nat.le_of_ble_eq_true rfl⟩ (fun u_12 H locs hw_12 hP hD hS => ?_)
  have hP : va_P (dC, dI) classes [(w0, .inr (3, [.ref w1, .ref w2, .ref w3, .int (nI cq)])), (w1, .inl (cZ, 40, .inl B)), (w2, .inl (cI, 40, .inl U)), (w3, .inl (cI, 41, .inl Nn)), (h0, .inr (1, [.ref q1, .ref q2, .ref q3, .ref q4, .int (nI n)])), (q1, .inl (cI, 40, .inl K)), (q2, .inl (cI, 40, .inl O)), (q3, .inl (cI, 40, .inl T)), (q4, .inl (cI, 40, .inl Z)), (a0, .inr (0, [.ref s1, .ref s2, .ref s3, .ref s4, .ref s5, .int x4])), (s1, .inl (cI, 240, .inl S)), (s2, .inl (cI, 240, .inl C)), (s3, .inl (cZ, 40, .inl Wt)), (s4, .inl (cI, 6, .inl SB)), (s5, .inl (cI, 6, .inl CB)), (g0, .inr (1, [.ref q5, .ref q6, .ref q7, .ref q8, .int (nI n)])), (q5, .inl (cI, 40, .inl K4)), (q6, .inl (cI, 40, .inl O4)), (q7, .inl (cI, 40, .inl u_12)), (q8, .inl (cI, 40, .inl Z4))] H := hP.sub [0, 1, 2, 3, 4, 5, 6, 7, 8, 9, 10, 11, 12, 13, 14, 15, 16, 17, 18, 19] rfl
  have hD : va_D A [(w0, .inr (3, [.ref w1, .ref w2, .ref w3, .int (nI cq)])), (w1, .inl (cZ, 40, .inl B)), (w2, .inl (cI, 40, .inl U)), (w3, .inl (cI, 41, .inl Nn)), (h0, .inr (1, [.ref q1, .ref q2, .ref q3, .ref q4, .int (nI n)])), (q1, .inl (cI, 40, .inl K)), (q2, .inl (cI, 40, .inl O)), (q3, .inl (cI, 40, .inl T)), (q4, .inl (cI, 40, .inl Z)), (a0, .inr (0, [.ref s1, .ref s2, .ref s3, .ref s4, .ref s5, .int x4])), (s1, .inl (cI, 240, .inl S)), (s2, .inl (cI, 240, .inl C)), (s3, .inl (cZ, 40, .inl Wt)), (s4, .inl (cI, 6, .inl SB)), (s5, .inl (cI, 6, .inl CB)), (g0, .inr (1, [.ref q5, .ref q6, .ref q7, .ref q8, .int (nI n)])), (q5, .inl (cI, 40, .inl K4)), (q6, .inl (cI, 40, .inl O4)), (q7, .inl (cI, 40, .inl u_12)), (q8, .inl (cI, 40, .inl Z4))] := hD.sub [0, 1, 2, 3, 4, 5, 6, 7, 8, 9, 10, 11, 12, 13, 14, 15, 16, 17, 18, 19] (by decide) rfl
  refine lv_aload_n hx hb de_W_perform_15 rfl (lv_at hl 0 rfl) ?_
  refine lv_aload_n hx hb de_W_perform_16 rfl (lv_at hl 3 rfl) ?_
  refine bc_call_v_v (As := [.ref g0]) (rest := []) (wr := [(h0, .inr (1, [.ref q1, .ref q2, .ref q3, .ref q4, .int (nI n)])), (q1, .inl (cI, 40, .inl K)), (q2, .inl (cI, 40, .inl O)), (q3, .inl (cI, 40, .inl T)), (q4, .inl (cI, 40, .inl Z)), (a0, .inr (0, [.ref s1, .ref s2, .ref s3, .ref s4, .ref s5, .int x4])), (s1, .inl (cI, 240, .inl S)), (s2, .inl (cI, 240, .inl C)), (s3, .inl (cZ, 40, .inl Wt)), (s4, .inl (cI, 6, .inl SB)), (s5, .inl (cI, 6, .inl CB))]) F (co_W_keepWhatCanBeComeTo hn (fun j hj hg => ((hw_12 j hj).1 hg).1)) wm_331 wm_4 wm_329 wm_330 wm_614 0 rfl rfl pd_W_keepWhatCanBeComeTo rfl rfl ⟨Nat.le_of_ble_eq_true rfl, Nat.le_of_ble_eq_true rfl⟩ hP hD hS hA [0, 1, 2, 3, 15, 16, 17, 18, 19] [4, 5, 6, 7, 8, 9, 10, 11, 12, 13, 14] rfl rfl rfl rfl (by decide) rfl hl.1 rfl (Nat.le_of_ble_eq_true rfl) de_W_perform_17 ⟨Nat.le_of_ble_eq_true rfl, Nat.le_of_ble_eq_true rfl⟩ (fun u_17 H locs hw_17 hP hD hS => ?_)
  obtain ⟨B5, U5, c5⟩ := u_17
  dsimp only at hw_17
  have hP : va_P (dC, dI) classes [(w0, .inr (3, [.ref w1, .ref w2, .ref w3, .int (nI c5)])), (w1, .inl (cZ, 40, .inl B5)), (w2, .inl (cI, 40, .inl U5)), (w3, .inl (cI, 41, .inl Nn)), (h0, .inr (1, [.ref q1, .ref q2, .ref q3, .ref q4, .int (nI n)])), (q1, .inl (cI, 40, .inl K)), (q2, .inl (cI, 40, .inl O)), (q3, .inl (cI, 40, .inl T)), (q4, .inl (cI, 40, .inl Z)), (a0, .inr (0, [.ref s1, .ref s2, .ref s3, .ref s4, .ref s5, .int x4])), (s1, .inl (cI, 240, .inl S)), (s2, .inl (cI, 240, .inl C)), (s3, .inl (cZ, 40, .inl Wt)), (s4, .inl (cI, 6, .inl SB)), (s5, .inl (cI, 6, .inl CB)), (g0, .inr (1, [.ref q5, .ref q6, .ref q7, .ref q8, .int (nI n)])), (q5, .inl (cI, 40, .inl K4)), (q6, .inl (cI, 40, .inl O4)), (q7, .inl (cI, 40, .inl u_12)), (q8, .inl (cI, 40, .inl Z4))] H := hP.sub [11, 12, 13, 14, 0, 1, 2, 3, 4, 5, 6, 7, 8, 9, 10, 15, 16, 17, 18, 19] rfl
  have hD : va_D A [(w0, .inr (3, [.ref w1, .ref w2, .ref w3, .int (nI c5)])), (w1, .inl (cZ, 40, .inl B5)), (w2, .inl (cI, 40, .inl U5)), (w3, .inl (cI, 41, .inl Nn)), (h0, .inr (1, [.ref q1, .ref q2, .ref q3, .ref q4, .int (nI n)])), (q1, .inl (cI, 40, .inl K)), (q2, .inl (cI, 40, .inl O)), (q3, .inl (cI, 40, .inl T)), (q4, .inl (cI, 40, .inl Z)), (a0, .inr (0, [.ref s1, .ref s2, .ref s3, .ref s4, .ref s5, .int x4])), (s1, .inl (cI, 240, .inl S)), (s2, .inl (cI, 240, .inl C)), (s3, .inl (cZ, 40, .inl Wt)), (s4, .inl (cI, 6, .inl SB)), (s5, .inl (cI, 6, .inl CB)), (g0, .inr (1, [.ref q5, .ref q6, .ref q7, .ref q8, .int (nI n)])), (q5, .inl (cI, 40, .inl K4)), (q6, .inl (cI, 40, .inl O4)), (q7, .inl (cI, 40, .inl u_12)), (q8, .inl (cI, 40, .inl Z4))] := hD.sub [11, 12, 13, 14, 0, 1, 2, 3, 4, 5, 6, 7, 8, 9, 10, 15, 16, 17, 18, 19] (by decide) rfl
  refine lv_aload_n hx hb de_W_perform_20 rfl (lv_at hl 0 rfl) ?_
  refine lv_aload_n hx hb de_W_perform_21 rfl (lv_at hl 3 rfl) ?_
  refine bc_call_v_v (As := [.ref g0]) (rest := []) (wr := [(h0, .inr (1, [.ref q1, .ref q2, .ref q3, .ref q4, .int (nI n)])), (q1, .inl (cI, 40, .inl K)), (q2, .inl (cI, 40, .inl O)), (q3, .inl (cI, 40, .inl T)), (q4, .inl (cI, 40, .inl Z)), (a0, .inr (0, [.ref s1, .ref s2, .ref s3, .ref s4, .ref s5, .int x4])), (s1, .inl (cI, 240, .inl S)), (s2, .inl (cI, 240, .inl C)), (s3, .inl (cZ, 40, .inl Wt)), (s4, .inl (cI, 6, .inl SB)), (s5, .inl (cI, 6, .inl CB))]) F (co_W_dropJumpsToTheNext hn (fun j hj hg => ((hw_12 j hj).1 hg).1)) wm_337 wm_4 wm_335 wm_336 wm_616 0 rfl rfl pd_W_dropJumpsToTheNext rfl rfl ⟨Nat.le_of_ble_eq_true rfl, Nat.le_of_ble_eq_true rfl⟩ hP hD hS hA [0, 1, 2, 3, 15, 16, 17, 18, 19] [4, 5, 6, 7, 8, 9, 10, 11, 12, 13, 14] rfl rfl rfl rfl (by decide) rfl hl.1 rfl (Nat.le_of_ble_eq_true rfl) de_W_perform_22 ⟨Nat.le_of_ble_eq_true rfl, Nat.le_of_ble_eq_true rfl⟩ (fun u_22 H locs hw_22 hP hD hS => ?_)
  have hP : va_P (dC, dI) classes [(w0, .inr (3, [.ref w1, .ref w2, .ref w3, .int (nI c5)])), (w1, .inl (cZ, 40, .inl u_22)), (w2, .inl (cI, 40, .inl U5)), (w3, .inl (cI, 41, .inl Nn)), (h0, .inr (1, [.ref q1, .ref q2, .ref q3, .ref q4, .int (nI n)])), (q1, .inl (cI, 40, .inl K)), (q2, .inl (cI, 40, .inl O)), (q3, .inl (cI, 40, .inl T)), (q4, .inl (cI, 40, .inl Z)), (a0, .inr (0, [.ref s1, .ref s2, .ref s3, .ref s4, .ref s5, .int x4])), (s1, .inl (cI, 240, .inl S)), (s2, .inl (cI, 240, .inl C)), (s3, .inl (cZ, 40, .inl Wt)), (s4, .inl (cI, 6, .inl SB)), (s5, .inl (cI, 6, .inl CB)), (g0, .inr (1, [.ref q5, .ref q6, .ref q7, .ref q8, .int (nI n)])), (q5, .inl (cI, 40, .inl K4)), (q6, .inl (cI, 40, .inl O4)), (q7, .inl (cI, 40, .inl u_12)), (q8, .inl (cI, 40, .inl Z4))] H := hP.sub [11, 12, 13, 14, 0, 1, 2, 3, 4, 5, 6, 7, 8, 9, 10, 15, 16, 17, 18, 19] rfl
  have hD : va_D A [(w0, .inr (3, [.ref w1, .ref w2, .ref w3, .int (nI c5)])), (w1, .inl (cZ, 40, .inl u_22)), (w2, .inl (cI, 40, .inl U5)), (w3, .inl (cI, 41, .inl Nn)), (h0, .inr (1, [.ref q1, .ref q2, .ref q3, .ref q4, .int (nI n)])), (q1, .inl (cI, 40, .inl K)), (q2, .inl (cI, 40, .inl O)), (q3, .inl (cI, 40, .inl T)), (q4, .inl (cI, 40, .inl Z)), (a0, .inr (0, [.ref s1, .ref s2, .ref s3, .ref s4, .ref s5, .int x4])), (s1, .inl (cI, 240, .inl S)), (s2, .inl (cI, 240, .inl C)), (s3, .inl (cZ, 40, .inl Wt)), (s4, .inl (cI, 6, .inl SB)), (s5, .inl (cI, 6, .inl CB)), (g0, .inr (1, [.ref q5, .ref q6, .ref q7, .ref q8, .int (nI n)])), (q5, .inl (cI, 40, .inl K4)), (q6, .inl (cI, 40, .inl O4)), (q7, .inl (cI, 40, .inl u_12)), (q8, .inl (cI, 40, .inl Z4))] := hD.sub [11, 12, 13, 14, 0, 1, 2, 3, 4, 5, 6, 7, 8, 9, 10, 15, 16, 17, 18, 19] (by decide) rfl
  refine lv_aload_n hx hb de_W_perform_25 rfl (lv_at hl 0 rfl) ?_
  refine lv_aload_n hx hb de_W_perform_26 rfl (lv_at hl 3 rfl) ?_
  refine bc_call_v_v (As := [.ref g0]) (rest := []) (wr := [(h0, .inr (1, [.ref q1, .ref q2, .ref q3, .ref q4, .int (nI n)])), (q1, .inl (cI, 40, .inl K)), (q2, .inl (cI, 40, .inl O)), (q3, .inl (cI, 40, .inl T)), (q4, .inl (cI, 40, .inl Z)), (a0, .inr (0, [.ref s1, .ref s2, .ref s3, .ref s4, .ref s5, .int x4])), (s1, .inl (cI, 240, .inl S)), (s2, .inl (cI, 240, .inl C)), (s3, .inl (cZ, 40, .inl Wt)), (s4, .inl (cI, 6, .inl SB)), (s5, .inl (cI, 6, .inl CB))]) F (co_W_numberAnew hn (fun j hj hg => ((hw_12 j hj).1 hg).1)) wm_340 wm_4 wm_338 wm_339 wm_617 0 rfl rfl pd_W_numberAnew rfl rfl ⟨Nat.le_of_ble_eq_true rfl, Nat.le_of_ble_eq_true rfl⟩ hP hD hS hA [0, 1, 2, 3, 15, 16, 17, 18, 19] [4, 5, 6, 7, 8, 9, 10, 11, 12, 13, 14] rfl rfl rfl rfl (by decide) rfl hl.1 rfl (Nat.le_of_ble_eq_true rfl) de_W_perform_27 ⟨Nat.le_of_ble_eq_true rfl, Nat.le_of_ble_eq_true rfl⟩ (fun u_27 H locs hw_27 hP hD hS => ?_)
  obtain ⟨K6, O6, T6, Z6, N6⟩ := u_27
  dsimp only at hw_27
  have hP : va_P (dC, dI) classes [(w0, .inr (3, [.ref w1, .ref w2, .ref w3, .int (nI c5)])), (w1, .inl (cZ, 40, .inl u_22)), (w2, .inl (cI, 40, .inl U5)), (w3, .inl (cI, 41, .inl N6)), (h0, .inr (1, [.ref q1, .ref q2, .ref q3, .ref q4, .int (nI n)])), (q1, .inl (cI, 40, .inl K)), (q2, .inl (cI, 40, .inl O)), (q3, .inl (cI, 40, .inl T)), (q4, .inl (cI, 40, .inl Z)), (a0, .inr (0, [.ref s1, .ref s2, .ref s3, .ref s4, .ref s5, .int x4])), (s1, .inl (cI, 240, .inl S)), (s2, .inl (cI, 240, .inl C)), (s3, .inl (cZ, 40, .inl Wt)), (s4, .inl (cI, 6, .inl SB)), (s5, .inl (cI, 6, .inl CB)), (g0, .inr (1, [.ref q5, .ref q6, .ref q7, .ref q8, .int (nI (bc_ct u_22 n))])), (q5, .inl (cI, 40, .inl K6)), (q6, .inl (cI, 40, .inl O6)), (q7, .inl (cI, 40, .inl T6)), (q8, .inl (cI, 40, .inl Z6))] H := hP.sub [11, 12, 13, 14, 0, 1, 2, 3, 4, 5, 6, 7, 8, 9, 10, 15, 16, 17, 18, 19] rfl
  have hD : va_D A [(w0, .inr (3, [.ref w1, .ref w2, .ref w3, .int (nI c5)])), (w1, .inl (cZ, 40, .inl u_22)), (w2, .inl (cI, 40, .inl U5)), (w3, .inl (cI, 41, .inl N6)), (h0, .inr (1, [.ref q1, .ref q2, .ref q3, .ref q4, .int (nI n)])), (q1, .inl (cI, 40, .inl K)), (q2, .inl (cI, 40, .inl O)), (q3, .inl (cI, 40, .inl T)), (q4, .inl (cI, 40, .inl Z)), (a0, .inr (0, [.ref s1, .ref s2, .ref s3, .ref s4, .ref s5, .int x4])), (s1, .inl (cI, 240, .inl S)), (s2, .inl (cI, 240, .inl C)), (s3, .inl (cZ, 40, .inl Wt)), (s4, .inl (cI, 6, .inl SB)), (s5, .inl (cI, 6, .inl CB)), (g0, .inr (1, [.ref q5, .ref q6, .ref q7, .ref q8, .int (nI (bc_ct u_22 n))])), (q5, .inl (cI, 40, .inl K6)), (q6, .inl (cI, 40, .inl O6)), (q7, .inl (cI, 40, .inl T6)), (q8, .inl (cI, 40, .inl Z6))] := hD.sub [11, 12, 13, 14, 0, 1, 2, 3, 4, 5, 6, 7, 8, 9, 10, 15, 16, 17, 18, 19] (by decide) rfl
  exact bc_vret F hr hlocks (((K6, O6, T6, Z6), bc_ct u_22 n, (u_22, U5, N6, c5), x4)) ⟨bc_RW_of hw_8 (fun i hi => bc_f1_wf hw i hi) hw_12 hw_17 hw_22 hw_27, bc_ct_le _ _⟩ hP hD hS de_W_perform_30

