/-! the reference: step, run (by program: wip/whole/gen/modM12.py) -/
def bc_vs (y : Nat) (Vr x Vr' : bc_F) : Prop := (∀ v, v < 6 → Vr' (6 * y + v) = x v) ∧ ∀ q, (q < 6 * y ∨ 6 * y + 6 ≤ q) → Vr' q = Vr q
theorem bc_vs_id (y : Nat) (Vr : bc_F) : bc_vs y Vr (fun v => Vr (6 * y + v)) Vr := ⟨fun _ _ => rfl, fun _ _ => rfl⟩
theorem bc_vs_up {y o : Nat} {Vr : bc_F} {x : Int32} (ho : o < 6) : bc_vs y Vr (upd (fun v => Vr (6 * y + v)) o x) (upd Vr (6 * y + o) x) := by
  refine ⟨fun v hv => ?_, fun q hq => pk_un (by omega)⟩
  by_cases c : v = o
  · subst c; rw [pk_us, pk_us]
  · rw [pk_un c, pk_un (by omega)]
theorem bc_st_a {nn i o : Nat} {K O T Z X : bc_F} {x : Int32} (h5 : ¬ K i = 5) (h6 : ¬ K i = 6) (h7 : ¬ K i = 7) (eO : O i = nI o) (ho : o < 6) (hx : x = bc_as K T Z i X) : bc_st nn K O T Z i X = (upd X o x, bc_pl nn (i + 1)) := by
  rw [bc_st_4 h5 h6 h7 eO ho, hx]
theorem bc_st_t {nn i t : Nat} {K O T Z X : bc_F} (h6 : K i = 6) (eT : T i = nI t) (ht : t ≤ 40) : bc_st nn K O T Z i X = (X, bc_pl nn t) := by
  rw [bc_st_6 h6, bc_pl_tn, eT, nI_clamp (by omega)]
theorem bc_st_z {nn i t o : Nat} {K O T Z X : bc_F} (h5 : K i = 5) (eO : O i = nI o) (ho : o < 6) (h0 : X o = 0) (eT : T i = nI t) (ht : t ≤ 40) : bc_st nn K O T Z i X = (X, bc_pl nn t) := by
  rw [bc_st_5z h5 eO ho h0, bc_pl_tn, eT, nI_clamp (by omega)]
theorem bc_st_h {nn i : Nat} {K O T Z X : bc_F} (h7 : K i = 7) (hnn : nn ≤ 40) : bc_st nn K O T Z i X = (X, bc_pl nn 99) := by
  rw [bc_st_7 h7, bc_pl_n]
  unfold bc_pl
  rw [if_neg (by omega)]
set_option maxHeartbeats 4000000 in
set_option maxRecDepth 100000 in
/-- a step -/
theorem co_M_step {l : Launch} {dC : Nat → ClassId} {dI : Nat → Nat → Nat} {cI cZ : ClassId} {sz : Nat} {m0 r1 r2 r3 r4 r5 r6 r7 r8 r9 r10 r11 r12 r13 r14 r15 r16 : Nat} {K O T Z Sz Pl Sp Vr : bc_F} {fa rw gw : Int32} {y i nn : Nat} (hy : y < 2) (hi : i < nn) (hnn : nn ≤ 40) (hSy : Sz y = nI nn) (hPl : Pl y = nI i) (hw : bc_wi (K (40 * y + i)) (O (40 * y + i)) (T (40 * y + i)) (Z (40 * y + i))) : Met l yn_M_step (Cond.code yn_M_step by_M_step 5 none :: wd_all) ({ frames := 1, cells := 0, slots := 0, locals := 22 } : Room) (bc_Pre (dC, dI) classes [(cI, .int), (cZ, .boolean)] [.ref m0, .int (nI y)] [(m0, .inr (5, [.int fa, .ref r1, .ref r2, .ref r3, .ref r4, .ref r5, .int rw, .ref r6, .ref r7, .ref r8, .int gw, .ref r9, .ref r10, .ref r11, .ref r12, .ref r13, .ref r14, .ref r15, .ref r16])), (r1, .inl (cI, 80, .inl K)), (r2, .inl (cI, 80, .inl O)), (r3, .inl (cI, 80, .inl T)), (r4, .inl (cI, 80, .inl Z)), (r5, .inl (cI, 2, .inl Sz)), (r14, .inl (cI, 2, .inl Pl)), (r15, .inl (cI, 2, .inl Sp)), (r16, .inl (cI, 12, .inl Vr))] sz) (va_Qv (fun (u : bc_F × bc_F × bc_F) => u.1 = upd Pl y (bc_st nn (fun j => K (40 * y + j)) (fun j => O (40 * y + j)) (fun j => T (40 * y + j)) (fun j => Z (40 * y + j)) i (fun v => Vr (6 * y + v))).2 ∧ u.2.1 = upd Sp y (Sp y + 1) ∧ bc_vs y Vr (bc_st nn (fun j => K (40 * y + j)) (fun j => O (40 * y + j)) (fun j => T (40 * y + j)) (fun j => Z (40 * y + j)) i (fun v => Vr (6 * y + v))).1 u.2.2) (fun (u : bc_F × bc_F × bc_F) t => bc_B (dC, dI) classes [(cI, .int), (cZ, .boolean)] (va_A [(m0, .inr (5, [.int fa, .ref r1, .ref r2, .ref r3, .ref r4, .ref r5, .int rw, .ref r6, .ref r7, .ref r8, .int gw, .ref r9, .ref r10, .ref r11, .ref r12, .ref r13, .ref r14, .ref r15, .ref r16])), (r1, .inl (cI, 80, .inl K)), (r2, .inl (cI, 80, .inl O)), (r3, .inl (cI, 80, .inl T)), (r4, .inl (cI, 80, .inl Z)), (r5, .inl (cI, 2, .inl Sz)), (r14, .inl (cI, 2, .inl Pl)), (r15, .inl (cI, 2, .inl Sp)), (r16, .inl (cI, 12, .inl Vr))] sz) [(m0, .inr (5, [.int fa, .ref r1, .ref r2, .ref r3, .ref r4, .ref r5, .int rw, .ref r6, .ref r7, .ref r8, .int gw, .ref r9, .ref r10, .ref r11, .ref r12, .ref r13, .ref r14, .ref r15, .ref r16])), (r1, .inl (cI, 80, .inl K)), (r2, .inl (cI, 80, .inl O)), (r3, .inl (cI, 80, .inl T)), (r4, .inl (cI, 80, .inl Z)), (r5, .inl (cI, 2, .inl Sz)), (r14, .inl (cI, 2, .inl u.1)), (r15, .inl (cI, 2, .inl u.2.1)), (r16, .inl (cI, 12, .inl u.2.2))] t) ((va_A [(m0, .inr (5, [.int fa, .ref r1, .ref r2, .ref r3, .ref r4, .ref r5, .int rw, .ref r6, .ref r7, .ref r8, .int gw, .ref r9, .ref r10, .ref r11, .ref r12, .ref r13, .ref r14, .ref r15, .ref r16])), (r1, .inl (cI, 80, .inl K)), (r2, .inl (cI, 80, .inl O)), (r3, .inl (cI, 80, .inl T)), (r4, .inl (cI, 80, .inl Z)), (r5, .inl (cI, 2, .inl Sz)), (r14, .inl (cI, 2, .inl Pl)), (r15, .inl (cI, 2, .inl Sp)), (r16, .inl (cI, 12, .inl Vr))] sz))) 0 0 (va_A [(m0, .inr (5, [.int fa, .ref r1, .ref r2, .ref r3, .ref r4, .ref r5, .int rw, .ref r6, .ref r7, .ref r8, .int gw, .ref r9, .ref r10, .ref r11, .ref r12, .ref r13, .ref r14, .ref r15, .ref r16])), (r1, .inl (cI, 80, .inl K)), (r2, .inl (cI, 80, .inl O)), (r3, .inl (cI, 80, .inl T)), (r4, .inl (cI, 80, .inl Z)), (r5, .inl (cI, 2, .inl Sz)), (r14, .inl (cI, 2, .inl Pl)), (r15, .inl (cI, 2, .inl Sp)), (r16, .inl (cI, 12, .inl Vr))] sz) := by
  refine bc_met (fun A => va_Qv (fun (u : bc_F × bc_F × bc_F) => u.1 = upd Pl y (bc_st nn (fun j => K (40 * y + j)) (fun j => O (40 * y + j)) (fun j => T (40 * y + j)) (fun j => Z (40 * y + j)) i (fun v => Vr (6 * y + v))).2 ∧ u.2.1 = upd Sp y (Sp y + 1) ∧ bc_vs y Vr (bc_st nn (fun j => K (40 * y + j)) (fun j => O (40 * y + j)) (fun j => T (40 * y + j)) (fun j => Z (40 * y + j)) i (fun v => Vr (6 * y + v))).1 u.2.2) (fun (u : bc_F × bc_F × bc_F) t => bc_B (dC, dI) classes [(cI, .int), (cZ, .boolean)] A [(m0, .inr (5, [.int fa, .ref r1, .ref r2, .ref r3, .ref r4, .ref r5, .int rw, .ref r6, .ref r7, .ref r8, .int gw, .ref r9, .ref r10, .ref r11, .ref r12, .ref r13, .ref r14, .ref r15, .ref r16])), (r1, .inl (cI, 80, .inl K)), (r2, .inl (cI, 80, .inl O)), (r3, .inl (cI, 80, .inl T)), (r4, .inl (cI, 80, .inl Z)), (r5, .inl (cI, 2, .inl Sz)), (r14, .inl (cI, 2, .inl u.1)), (r15, .inl (cI, 2, .inl u.2.1)), (r16, .inl (cI, 12, .inl u.2.2))] t) A) (by decide) (Nat.le_of_ble_eq_true rfl) ?_
  intro p e s m args below meth c A ls F hr hlocks hin hA hP hD hl hS
  have hx := F.1
  have hb := F.2.1
  have hml := F.2.2.1
  have hown : s.vm.findClass "BranchConstantsModel" = some m.cls := F.2.2.2.1
  have htw := F.2.2.2.2.1
  have hN := F.2.2.2.2.2.1
  have hK := F.2.2.2.2.2.2
  have hl : lv_has ls 5 [(0, .ref m0), (1, .int (nI y))] := hl
  obtain ⟨o, ho, eO⟩ := bc_wi_oo hw
  refine lv_bipush (v := 40) hx hb de_M_step_0 (by decide) ?_
  refine lv_iload_n hx hb de_M_step_2 rfl (lv_at hl 1 rfl) ?_
  refine lv_imul hx hb de_M_step_3 ?_
  refine bc_ti (y := nI (40 * y)) (pk_mul 40 y) ?_
  refine lv_aload_n hx hb de_M_step_4 rfl (lv_at hl 0 rfl) ?_
  refine va_get (D := (dC, dI)) (ci := 5) (v := .ref r14) (C := rc_M) (T := fc_M) (N := 19) hx hb htw wi_M hown hK hP 0 rfl rfl 16 (by decide) (htw _ wm_439) (fun _ h9 => h9) rfl de_M_step_5 ?_
  refine lv_iload_n hx hb de_M_step_8 rfl (lv_at hl 1 rfl) ?_
  refine bc_ild (j := y) hx hb hK hP 6 0 rfl rfl (by omega) (by decide) de_M_step_9 ?_
  refine bc_ti (y := nI i) hPl ?_
  refine lv_iadd hx hb de_M_step_10 ?_
  refine bc_ti (y := nI ((40 * y) + i)) (nI_add (40 * y) i) ?_
  refine lv_istore_n (lv' := [(2, .int (nI ((40 * y) + i))), (0, .ref m0), (1, .int (nI y))]) hx hb de_M_step_11 rfl hl (by decide) rfl (fun ls hl => ?_)
  refine lv_bipush (v := 6) hx hb de_M_step_12 (by decide) ?_
  refine lv_iload_n hx hb de_M_step_14 rfl (lv_at hl 2 rfl) ?_
  refine lv_imul hx hb de_M_step_15 ?_
  refine bc_ti (y := nI (6 * y)) (pk_mul 6 y) ?_
  refine lv_aload_n hx hb de_M_step_16 rfl (lv_at hl 1 rfl) ?_
  refine va_get (D := (dC, dI)) (ci := 5) (v := .ref r2) (C := rc_M) (T := fc_M) (N := 19) hx hb htw wi_M hown hK hP 0 rfl rfl 2 (by decide) (htw _ wm_425) (fun _ h9 => h9) rfl de_M_step_17 ?_
  refine lv_iload_n hx hb de_M_step_20 rfl (lv_at hl 0 rfl) ?_
  refine bc_ild (j := (40 * y) + i) hx hb hK hP 2 0 rfl rfl (by omega) (by decide) de_M_step_21 ?_
  refine bc_ti (y := nI o) eO ?_
  refine lv_iadd hx hb de_M_step_22 ?_
  refine bc_ti (y := nI ((6 * y) + o)) (nI_add (6 * y) o) ?_
  refine lv_istore_n (lv' := [(3, .int (nI ((6 * y) + o))), (2, .int (nI ((40 * y) + i))), (0, .ref m0), (1, .int (nI y))]) hx hb de_M_step_23 rfl hl (by decide) rfl (fun ls hl => ?_)
  refine lv_aload_n hx hb de_M_step_24 rfl (lv_at hl 2 rfl) ?_
  refine va_get (D := (dC, dI)) (ci := 5) (v := .ref r14) (C := rc_M) (T := fc_M) (N := 19) hx hb htw wi_M hown hK hP 0 rfl rfl 16 (by decide) (htw _ wm_439) (fun _ h9 => h9) rfl de_M_step_25 ?_
  refine lv_iload_n hx hb de_M_step_28 rfl (lv_at hl 3 rfl) ?_
  refine bc_ild (j := y) hx hb hK hP 6 0 rfl rfl (by omega) (by decide) de_M_step_29 ?_
  refine bc_ti (y := nI i) hPl ?_
  refine lv_iconst (v := 1) hx hb de_M_step_30 (by decide) ?_
  refine lv_iadd hx hb de_M_step_31 ?_
  refine bc_ti (y := nI (i + 1)) (nI_add i 1) ?_
  refine lv_istore (lv' := [(4, .int (nI (i + 1))), (3, .int (nI ((6 * y) + o))), (2, .int (nI ((40 * y) + i))), (0, .ref m0), (1, .int (nI y))]) hx hb de_M_step_32 hl (by decide) rfl (fun ls hl => ?_)
  refine lv_aload_n hx hb de_M_step_34 rfl (lv_at hl 3 rfl) ?_
  refine va_get (D := (dC, dI)) (ci := 5) (v := .ref r1) (C := rc_M) (T := fc_M) (N := 19) hx hb htw wi_M hown hK hP 0 rfl rfl 1 (by decide) (htw _ wm_424) (fun _ h9 => h9) rfl de_M_step_35 ?_
  refine lv_iload_n hx hb de_M_step_38 rfl (lv_at hl 2 rfl) ?_
  refine bc_ild (j := (40 * y) + i) hx hb hK hP 1 0 rfl rfl (by omega) (by decide) de_M_step_39 ?_
  by_cases hs_40_0 : K ((40 * y) + i) = 0
  · refine bc_ti hs_40_0 ?_
    refine lv_tableIn (off := 48) (tgt := 88) hx hb de_M_step_40 (by decide) (by decide) rfl (by decide) ?_
    refine lv_aload_n hx hb de_M_step_88 rfl (lv_at hl 3 rfl) ?_
    refine va_get (D := (dC, dI)) (ci := 5) (v := .ref r16) (C := rc_M) (T := fc_M) (N := 19) hx hb htw wi_M hown hK hP 0 rfl rfl 18 (by decide) (htw _ wm_441) (fun _ h9 => h9) rfl de_M_step_89 ?_
    refine lv_iload_n hx hb de_M_step_92 rfl (lv_at hl 1 rfl) ?_
    refine lv_aload_n hx hb de_M_step_93 rfl (lv_at hl 3 rfl) ?_
    refine va_get (D := (dC, dI)) (ci := 5) (v := .ref r3) (C := rc_M) (T := fc_M) (N := 19) hx hb htw wi_M hown hK hP 0 rfl rfl 3 (by decide) (htw _ wm_426) (fun _ h9 => h9) rfl de_M_step_94 ?_
    refine lv_iload_n hx hb de_M_step_97 rfl (lv_at hl 2 rfl) ?_
    refine bc_ild (j := (40 * y) + i) hx hb hK hP 3 0 rfl rfl (by omega) (by decide) de_M_step_98 ?_
    refine bc_ist (j := (6 * y) + o) hx hb hK hP hD hS 8 0 rfl rfl (by omega) (by decide) de_M_step_99 (fun H locs hP hD hS => ?_)
    have hP : va_P (dC, dI) classes [(m0, .inr (5, [.int fa, .ref r1, .ref r2, .ref r3, .ref r4, .ref r5, .int rw, .ref r6, .ref r7, .ref r8, .int gw, .ref r9, .ref r10, .ref r11, .ref r12, .ref r13, .ref r14, .ref r15, .ref r16])), (r1, .inl (cI, 80, .inl K)), (r2, .inl (cI, 80, .inl O)), (r3, .inl (cI, 80, .inl T)), (r4, .inl (cI, 80, .inl Z)), (r5, .inl (cI, 2, .inl Sz)), (r14, .inl (cI, 2, .inl Pl)), (r15, .inl (cI, 2, .inl Sp)), (r16, .inl (cI, 12, .inl (upd Vr ((6 * y) + o) (T ((40 * y) + i)))))] H := hP
    have hD : va_D A [(m0, .inr (5, [.int fa, .ref r1, .ref r2, .ref r3, .ref r4, .ref r5, .int rw, .ref r6, .ref r7, .ref r8, .int gw, .ref r9, .ref r10, .ref r11, .ref r12, .ref r13, .ref r14, .ref r15, .ref r16])), (r1, .inl (cI, 80, .inl K)), (r2, .inl (cI, 80, .inl O)), (r3, .inl (cI, 80, .inl T)), (r4, .inl (cI, 80, .inl Z)), (r5, .inl (cI, 2, .inl Sz)), (r14, .inl (cI, 2, .inl Pl)), (r15, .inl (cI, 2, .inl Sp)), (r16, .inl (cI, 12, .inl (upd Vr ((6 * y) + o) (T ((40 * y) + i)))))] := hD
    refine lv_goto (tgt := 218) hx hb de_M_step_100 (by decide) ?_
    refine lv_aload_n hx hb de_M_step_218 rfl (lv_at hl 3 rfl) ?_
    refine va_get (D := (dC, dI)) (ci := 5) (v := .ref r14) (C := rc_M) (T := fc_M) (N := 19) hx hb htw wi_M hown hK hP 0 rfl rfl 16 (by decide) (htw _ wm_439) (fun _ h9 => h9) rfl de_M_step_219 ?_
    refine lv_iload_n hx hb de_M_step_222 rfl (lv_at hl 4 rfl) ?_
    refine lv_iload hx hb de_M_step_223 (lv_at hl 0 rfl) ?_
    refine lv_aload_n hx hb de_M_step_225 rfl (lv_at hl 3 rfl) ?_
    refine va_get (D := (dC, dI)) (ci := 5) (v := .ref r5) (C := rc_M) (T := fc_M) (N := 19) hx hb htw wi_M hown hK hP 0 rfl rfl 5 (by decide) (htw _ wm_428) (fun _ h9 => h9) rfl de_M_step_226 ?_
    refine lv_iload_n hx hb de_M_step_229 rfl (lv_at hl 4 rfl) ?_
    refine bc_ild (j := y) hx hb hK hP 5 0 rfl rfl (by omega) (by decide) de_M_step_230 ?_
    refine bc_ti (y := nI nn) hSy ?_
    refine lv_icmp_ge (tgt := 239) hx hb de_M_step_231 (by decide) (fun hc_231 => ?_) (fun hc_231 => ?_)
    · refine lv_iconst (v := (-1)) hx hb de_M_step_239 (by decide) ?_
      refine bc_ti (y := bc_pl nn (i + 1)) (bc_pl_ge (by omega) (by omega) hc_231) ?_
      refine bc_ist (j := y) hx hb hK hP hD hS 6 0 rfl rfl (by omega) (by decide) de_M_step_240 (fun H locs hP hD hS => ?_)
      have hP : va_P (dC, dI) classes [(m0, .inr (5, [.int fa, .ref r1, .ref r2, .ref r3, .ref r4, .ref r5, .int rw, .ref r6, .ref r7, .ref r8, .int gw, .ref r9, .ref r10, .ref r11, .ref r12, .ref r13, .ref r14, .ref r15, .ref r16])), (r1, .inl (cI, 80, .inl K)), (r2, .inl (cI, 80, .inl O)), (r3, .inl (cI, 80, .inl T)), (r4, .inl (cI, 80, .inl Z)), (r5, .inl (cI, 2, .inl Sz)), (r14, .inl (cI, 2, .inl (upd Pl y (bc_pl nn (i + 1))))), (r15, .inl (cI, 2, .inl Sp)), (r16, .inl (cI, 12, .inl (upd Vr ((6 * y) + o) (T ((40 * y) + i)))))] H := hP
      have hD : va_D A [(m0, .inr (5, [.int fa, .ref r1, .ref r2, .ref r3, .ref r4, .ref r5, .int rw, .ref r6, .ref r7, .ref r8, .int gw, .ref r9, .ref r10, .ref r11, .ref r12, .ref r13, .ref r14, .ref r15, .ref r16])), (r1, .inl (cI, 80, .inl K)), (r2, .inl (cI, 80, .inl O)), (r3, .inl (cI, 80, .inl T)), (r4, .inl (cI, 80, .inl Z)), (r5, .inl (cI, 2, .inl Sz)), (r14, .inl (cI, 2, .inl (upd Pl y (bc_pl nn (i + 1))))), (r15, .inl (cI, 2, .inl Sp)), (r16, .inl (cI, 12, .inl (upd Vr ((6 * y) + o) (T ((40 * y) + i)))))] := hD
      refine lv_aload_n hx hb de_M_step_241 rfl (lv_at hl 3 rfl) ?_
      refine va_get (D := (dC, dI)) (ci := 5) (v := .ref r15) (C := rc_M) (T := fc_M) (N := 19) hx hb htw wi_M hown hK hP 0 rfl rfl 17 (by decide) (htw _ wm_440) (fun _ h9 => h9) rfl de_M_step_242 ?_
      refine lv_iload_n hx hb de_M_step_245 rfl (lv_at hl 4 rfl) ?_
      refine lv_dup2_11 hx hb de_M_step_246 rfl rfl ?_
      refine bc_ild (j := y) hx hb hK hP 7 0 rfl rfl (by omega) (by decide) de_M_step_247 ?_
      refine lv_iconst (v := 1) hx hb de_M_step_248 (by decide) ?_
      refine lv_iadd hx hb de_M_step_249 ?_
      refine bc_ist (j := y) hx hb hK hP hD hS 7 0 rfl rfl (by omega) (by decide) de_M_step_250 (fun H locs hP hD hS => ?_)
      have hP : va_P (dC, dI) classes [(m0, .inr (5, [.int fa, .ref r1, .ref r2, .ref r3, .ref r4, .ref r5, .int rw, .ref r6, .ref r7, .ref r8, .int gw, .ref r9, .ref r10, .ref r11, .ref r12, .ref r13, .ref r14, .ref r15, .ref r16])), (r1, .inl (cI, 80, .inl K)), (r2, .inl (cI, 80, .inl O)), (r3, .inl (cI, 80, .inl T)), (r4, .inl (cI, 80, .inl Z)), (r5, .inl (cI, 2, .inl Sz)), (r14, .inl (cI, 2, .inl (upd Pl y (bc_pl nn (i + 1))))), (r15, .inl (cI, 2, .inl (upd Sp y ((Sp y) + 1)))), (r16, .inl (cI, 12, .inl (upd Vr ((6 * y) + o) (T ((40 * y) + i)))))] H := hP
      have hD : va_D A [(m0, .inr (5, [.int fa, .ref r1, .ref r2, .ref r3, .ref r4, .ref r5, .int rw, .ref r6, .ref r7, .ref r8, .int gw, .ref r9, .ref r10, .ref r11, .ref r12, .ref r13, .ref r14, .ref r15, .ref r16])), (r1, .inl (cI, 80, .inl K)), (r2, .inl (cI, 80, .inl O)), (r3, .inl (cI, 80, .inl T)), (r4, .inl (cI, 80, .inl Z)), (r5, .inl (cI, 2, .inl Sz)), (r14, .inl (cI, 2, .inl (upd Pl y (bc_pl nn (i + 1))))), (r15, .inl (cI, 2, .inl (upd Sp y ((Sp y) + 1)))), (r16, .inl (cI, 12, .inl (upd Vr ((6 * y) + o) (T ((40 * y) + i)))))] := hD
      have hst := bc_st_a (K := (fun j => K (40 * y + j))) (O := (fun j => O (40 * y + j))) (T := (fun j => T (40 * y + j))) (Z := (fun j => Z (40 * y + j))) (X := (fun v => Vr (6 * y + v))) (i := i) (nn := nn) (fun z => absurd (hs_40_0.symm.trans z) (by decide)) (fun z => absurd (hs_40_0.symm.trans z) (by decide)) (fun z => absurd (hs_40_0.symm.trans z) (by decide)) eO ho (bc_as_0 (K := (fun j => K (40 * y + j))) (T := (fun j => T (40 * y + j))) (Z := (fun j => Z (40 * y + j))) (X := (fun v => Vr (6 * y + v))) (i := i) hs_40_0)
      exact bc_vret F hr hlocks ((upd Pl y (bc_pl nn (i + 1)), upd Sp y ((Sp y) + 1), upd Vr ((6 * y) + o) (T ((40 * y) + i)))) ⟨by rw [hst], rfl, by rw [hst]; exact bc_vs_up ho⟩ hP hD hS de_M_step_251
    · refine lv_iload hx hb de_M_step_234 (lv_at hl 0 rfl) ?_
      refine bc_ti (y := bc_pl nn (i + 1)) (bc_pl_lt (by omega) (by omega) hc_231) ?_
      refine lv_goto (tgt := 240) hx hb de_M_step_236 (by decide) ?_
      refine bc_ist (j := y) hx hb hK hP hD hS 6 0 rfl rfl (by omega) (by decide) de_M_step_240 (fun H locs hP hD hS => ?_)
      have hP : va_P (dC, dI) classes [(m0, .inr (5, [.int fa, .ref r1, .ref r2, .ref r3, .ref r4, .ref r5, .int rw, .ref r6, .ref r7, .ref r8, .int gw, .ref r9, .ref r10, .ref r11, .ref r12, .ref r13, .ref r14, .ref r15, .ref r16])), (r1, .inl (cI, 80, .inl K)), (r2, .inl (cI, 80, .inl O)), (r3, .inl (cI, 80, .inl T)), (r4, .inl (cI, 80, .inl Z)), (r5, .inl (cI, 2, .inl Sz)), (r14, .inl (cI, 2, .inl (upd Pl y (bc_pl nn (i + 1))))), (r15, .inl (cI, 2, .inl Sp)), (r16, .inl (cI, 12, .inl (upd Vr ((6 * y) + o) (T ((40 * y) + i)))))] H := hP
      have hD : va_D A [(m0, .inr (5, [.int fa, .ref r1, .ref r2, .ref r3, .ref r4, .ref r5, .int rw, .ref r6, .ref r7, .ref r8, .int gw, .ref r9, .ref r10, .ref r11, .ref r12, .ref r13, .ref r14, .ref r15, .ref r16])), (r1, .inl (cI, 80, .inl K)), (r2, .inl (cI, 80, .inl O)), (r3, .inl (cI, 80, .inl T)), (r4, .inl (cI, 80, .inl Z)), (r5, .inl (cI, 2, .inl Sz)), (r14, .inl (cI, 2, .inl (upd Pl y (bc_pl nn (i + 1))))), (r15, .inl (cI, 2, .inl Sp)), (r16, .inl (cI, 12, .inl (upd Vr ((6 * y) + o) (T ((40 * y) + i)))))] := hD
      refine lv_aload_n hx hb de_M_step_241 rfl (lv_at hl 3 rfl) ?_
      refine va_get (D := (dC, dI)) (ci := 5) (v := .ref r15) (C := rc_M) (T := fc_M) (N := 19) hx hb htw wi_M hown hK hP 0 rfl rfl 17 (by decide) (htw _ wm_440) (fun _ h9 => h9) rfl de_M_step_242 ?_
      refine lv_iload_n hx hb de_M_step_245 rfl (lv_at hl 4 rfl) ?_
      refine lv_dup2_11 hx hb de_M_step_246 rfl rfl ?_
      refine bc_ild (j := y) hx hb hK hP 7 0 rfl rfl (by omega) (by decide) de_M_step_247 ?_
      refine lv_iconst (v := 1) hx hb de_M_step_248 (by decide) ?_
      refine lv_iadd hx hb de_M_step_249 ?_
      refine bc_ist (j := y) hx hb hK hP hD hS 7 0 rfl rfl (by omega) (by decide) de_M_step_250 (fun H locs hP hD hS => ?_)
      have hP : va_P (dC, dI) classes [(m0, .inr (5, [.int fa, .ref r1, .ref r2, .ref r3, .ref r4, .ref r5, .int rw, .ref r6, .ref r7, .ref r8, .int gw, .ref r9, .ref r10, .ref r11, .ref r12, .ref r13, .ref r14, .ref r15, .ref r16])), (r1, .inl (cI, 80, .inl K)), (r2, .inl (cI, 80, .inl O)), (r3, .inl (cI, 80, .inl T)), (r4, .inl (cI, 80, .inl Z)), (r5, .inl (cI, 2, .inl Sz)), (r14, .inl (cI, 2, .inl (upd Pl y (bc_pl nn (i + 1))))), (r15, .inl (cI, 2, .inl (upd Sp y ((Sp y) + 1)))), (r16, .inl (cI, 12, .inl (upd Vr ((6 * y) + o) (T ((40 * y) + i)))))] H := hP
      have hD : va_D A [(m0, .inr (5, [.int fa, .ref r1, .ref r2, .ref r3, .ref r4, .ref r5, .int rw, .ref r6, .ref r7, .ref r8, .int gw, .ref r9, .ref r10, .ref r11, .ref r12, .ref r13, .ref r14, .ref r15, .ref r16])), (r1, .inl (cI, 80, .inl K)), (r2, .inl (cI, 80, .inl O)), (r3, .inl (cI, 80, .inl T)), (r4, .inl (cI, 80, .inl Z)), (r5, .inl (cI, 2, .inl Sz)), (r14, .inl (cI, 2, .inl (upd Pl y (bc_pl nn (i + 1))))), (r15, .inl (cI, 2, .inl (upd Sp y ((Sp y) + 1)))), (r16, .inl (cI, 12, .inl (upd Vr ((6 * y) + o) (T ((40 * y) + i)))))] := hD
      have hst := bc_st_a (K := (fun j => K (40 * y + j))) (O := (fun j => O (40 * y + j))) (T := (fun j => T (40 * y + j))) (Z := (fun j => Z (40 * y + j))) (X := (fun v => Vr (6 * y + v))) (i := i) (nn := nn) (fun z => absurd (hs_40_0.symm.trans z) (by decide)) (fun z => absurd (hs_40_0.symm.trans z) (by decide)) (fun z => absurd (hs_40_0.symm.trans z) (by decide)) eO ho (bc_as_0 (K := (fun j => K (40 * y + j))) (T := (fun j => T (40 * y + j))) (Z := (fun j => Z (40 * y + j))) (X := (fun v => Vr (6 * y + v))) (i := i) hs_40_0)
      exact bc_vret F hr hlocks ((upd Pl y (bc_pl nn (i + 1)), upd Sp y ((Sp y) + 1), upd Vr ((6 * y) + o) (T ((40 * y) + i)))) ⟨by rw [hst], rfl, by rw [hst]; exact bc_vs_up ho⟩ hP hD hS de_M_step_251
  by_cases hs_40_1 : K ((40 * y) + i) = 1
  · refine bc_ti hs_40_1 ?_
    refine lv_tableIn (off := 63) (tgt := 103) hx hb de_M_step_40 (by decide) (by decide) rfl (by decide) ?_
    obtain ⟨tt, htt, eT⟩ := bc_wi_t hw (by rw [hs_40_1]; decide) (by rw [hs_40_1]; decide)
    refine lv_aload_n hx hb de_M_step_103 rfl (lv_at hl 3 rfl) ?_
    refine va_get (D := (dC, dI)) (ci := 5) (v := .ref r16) (C := rc_M) (T := fc_M) (N := 19) hx hb htw wi_M hown hK hP 0 rfl rfl 18 (by decide) (htw _ wm_441) (fun _ h9 => h9) rfl de_M_step_104 ?_
    refine lv_iload_n hx hb de_M_step_107 rfl (lv_at hl 1 rfl) ?_
    refine lv_aload_n hx hb de_M_step_108 rfl (lv_at hl 3 rfl) ?_
    refine va_get (D := (dC, dI)) (ci := 5) (v := .ref r16) (C := rc_M) (T := fc_M) (N := 19) hx hb htw wi_M hown hK hP 0 rfl rfl 18 (by decide) (htw _ wm_441) (fun _ h9 => h9) rfl de_M_step_109 ?_
    refine lv_bipush (v := 6) hx hb de_M_step_112 (by decide) ?_
    refine lv_iload_n hx hb de_M_step_114 rfl (lv_at hl 4 rfl) ?_
    refine lv_imul hx hb de_M_step_115 ?_
    refine bc_ti (y := nI (6 * y)) (pk_mul 6 y) ?_
    refine lv_aload_n hx hb de_M_step_116 rfl (lv_at hl 3 rfl) ?_
    refine va_get (D := (dC, dI)) (ci := 5) (v := .ref r3) (C := rc_M) (T := fc_M) (N := 19) hx hb htw wi_M hown hK hP 0 rfl rfl 3 (by decide) (htw _ wm_426) (fun _ h9 => h9) rfl de_M_step_117 ?_
    refine lv_iload_n hx hb de_M_step_120 rfl (lv_at hl 2 rfl) ?_
    refine bc_ild (j := (40 * y) + i) hx hb hK hP 3 0 rfl rfl (by omega) (by decide) de_M_step_121 ?_
    refine bc_ti (y := nI tt) eT ?_
    refine lv_iadd hx hb de_M_step_122 ?_
    refine bc_ti (y := nI ((6 * y) + tt)) (nI_add (6 * y) tt) ?_
    refine bc_ild (j := (6 * y) + tt) hx hb hK hP 8 0 rfl rfl (by omega) (by decide) de_M_step_123 ?_
    refine bc_ist (j := (6 * y) + o) hx hb hK hP hD hS 8 0 rfl rfl (by omega) (by decide) de_M_step_124 (fun H locs hP hD hS => ?_)
    have hP : va_P (dC, dI) classes [(m0, .inr (5, [.int fa, .ref r1, .ref r2, .ref r3, .ref r4, .ref r5, .int rw, .ref r6, .ref r7, .ref r8, .int gw, .ref r9, .ref r10, .ref r11, .ref r12, .ref r13, .ref r14, .ref r15, .ref r16])), (r1, .inl (cI, 80, .inl K)), (r2, .inl (cI, 80, .inl O)), (r3, .inl (cI, 80, .inl T)), (r4, .inl (cI, 80, .inl Z)), (r5, .inl (cI, 2, .inl Sz)), (r14, .inl (cI, 2, .inl Pl)), (r15, .inl (cI, 2, .inl Sp)), (r16, .inl (cI, 12, .inl (upd Vr ((6 * y) + o) (Vr ((6 * y) + tt)))))] H := hP
    have hD : va_D A [(m0, .inr (5, [.int fa, .ref r1, .ref r2, .ref r3, .ref r4, .ref r5, .int rw, .ref r6, .ref r7, .ref r8, .int gw, .ref r9, .ref r10, .ref r11, .ref r12, .ref r13, .ref r14, .ref r15, .ref r16])), (r1, .inl (cI, 80, .inl K)), (r2, .inl (cI, 80, .inl O)), (r3, .inl (cI, 80, .inl T)), (r4, .inl (cI, 80, .inl Z)), (r5, .inl (cI, 2, .inl Sz)), (r14, .inl (cI, 2, .inl Pl)), (r15, .inl (cI, 2, .inl Sp)), (r16, .inl (cI, 12, .inl (upd Vr ((6 * y) + o) (Vr ((6 * y) + tt)))))] := hD
    refine lv_goto (tgt := 218) hx hb de_M_step_125 (by decide) ?_
    refine lv_aload_n hx hb de_M_step_218 rfl (lv_at hl 3 rfl) ?_
    refine va_get (D := (dC, dI)) (ci := 5) (v := .ref r14) (C := rc_M) (T := fc_M) (N := 19) hx hb htw wi_M hown hK hP 0 rfl rfl 16 (by decide) (htw _ wm_439) (fun _ h9 => h9) rfl de_M_step_219 ?_
    refine lv_iload_n hx hb de_M_step_222 rfl (lv_at hl 4 rfl) ?_
    refine lv_iload hx hb de_M_step_223 (lv_at hl 0 rfl) ?_
    refine lv_aload_n hx hb de_M_step_225 rfl (lv_at hl 3 rfl) ?_
    refine va_get (D := (dC, dI)) (ci := 5) (v := .ref r5) (C := rc_M) (T := fc_M) (N := 19) hx hb htw wi_M hown hK hP 0 rfl rfl 5 (by decide) (htw _ wm_428) (fun _ h9 => h9) rfl de_M_step_226 ?_
    refine lv_iload_n hx hb de_M_step_229 rfl (lv_at hl 4 rfl) ?_
    refine bc_ild (j := y) hx hb hK hP 5 0 rfl rfl (by omega) (by decide) de_M_step_230 ?_
    refine bc_ti (y := nI nn) hSy ?_
    refine lv_icmp_ge (tgt := 239) hx hb de_M_step_231 (by decide) (fun hc_231 => ?_) (fun hc_231 => ?_)
    · refine lv_iconst (v := (-1)) hx hb de_M_step_239 (by decide) ?_
      refine bc_ti (y := bc_pl nn (i + 1)) (bc_pl_ge (by omega) (by omega) hc_231) ?_
      refine bc_ist (j := y) hx hb hK hP hD hS 6 0 rfl rfl (by omega) (by decide) de_M_step_240 (fun H locs hP hD hS => ?_)
      have hP : va_P (dC, dI) classes [(m0, .inr (5, [.int fa, .ref r1, .ref r2, .ref r3, .ref r4, .ref r5, .int rw, .ref r6, .ref r7, .ref r8, .int gw, .ref r9, .ref r10, .ref r11, .ref r12, .ref r13, .ref r14, .ref r15, .ref r16])), (r1, .inl (cI, 80, .inl K)), (r2, .inl (cI, 80, .inl O)), (r3, .inl (cI, 80, .inl T)), (r4, .inl (cI, 80, .inl Z)), (r5, .inl (cI, 2, .inl Sz)), (r14, .inl (cI, 2, .inl (upd Pl y (bc_pl nn (i + 1))))), (r15, .inl (cI, 2, .inl Sp)), (r16, .inl (cI, 12, .inl (upd Vr ((6 * y) + o) (Vr ((6 * y) + tt)))))] H := hP
      have hD : va_D A [(m0, .inr (5, [.int fa, .ref r1, .ref r2, .ref r3, .ref r4, .ref r5, .int rw, .ref r6, .ref r7, .ref r8, .int gw, .ref r9, .ref r10, .ref r11, .ref r12, .ref r13, .ref r14, .ref r15, .ref r16])), (r1, .inl (cI, 80, .inl K)), (r2, .inl (cI, 80, .inl O)), (r3, .inl (cI, 80, .inl T)), (r4, .inl (cI, 80, .inl Z)), (r5, .inl (cI, 2, .inl Sz)), (r14, .inl (cI, 2, .inl (upd Pl y (bc_pl nn (i + 1))))), (r15, .inl (cI, 2, .inl Sp)), (r16, .inl (cI, 12, .inl (upd Vr ((6 * y) + o) (Vr ((6 * y) + tt)))))] := hD
      refine lv_aload_n hx hb de_M_step_241 rfl (lv_at hl 3 rfl) ?_
      refine va_get (D := (dC, dI)) (ci := 5) (v := .ref r15) (C := rc_M) (T := fc_M) (N := 19) hx hb htw wi_M hown hK hP 0 rfl rfl 17 (by decide) (htw _ wm_440) (fun _ h9 => h9) rfl de_M_step_242 ?_
      refine lv_iload_n hx hb de_M_step_245 rfl (lv_at hl 4 rfl) ?_
      refine lv_dup2_11 hx hb de_M_step_246 rfl rfl ?_
      refine bc_ild (j := y) hx hb hK hP 7 0 rfl rfl (by omega) (by decide) de_M_step_247 ?_
      refine lv_iconst (v := 1) hx hb de_M_step_248 (by decide) ?_
      refine lv_iadd hx hb de_M_step_249 ?_
      refine bc_ist (j := y) hx hb hK hP hD hS 7 0 rfl rfl (by omega) (by decide) de_M_step_250 (fun H locs hP hD hS => ?_)
      have hP : va_P (dC, dI) classes [(m0, .inr (5, [.int fa, .ref r1, .ref r2, .ref r3, .ref r4, .ref r5, .int rw, .ref r6, .ref r7, .ref r8, .int gw, .ref r9, .ref r10, .ref r11, .ref r12, .ref r13, .ref r14, .ref r15, .ref r16])), (r1, .inl (cI, 80, .inl K)), (r2, .inl (cI, 80, .inl O)), (r3, .inl (cI, 80, .inl T)), (r4, .inl (cI, 80, .inl Z)), (r5, .inl (cI, 2, .inl Sz)), (r14, .inl (cI, 2, .inl (upd Pl y (bc_pl nn (i + 1))))), (r15, .inl (cI, 2, .inl (upd Sp y ((Sp y) + 1)))), (r16, .inl (cI, 12, .inl (upd Vr ((6 * y) + o) (Vr ((6 * y) + tt)))))] H := hP
      have hD : va_D A [(m0, .inr (5, [.int fa, .ref r1, .ref r2, .ref r3, .ref r4, .ref r5, .int rw, .ref r6, .ref r7, .ref r8, .int gw, .ref r9, .ref r10, .ref r11, .ref r12, .ref r13, .ref r14, .ref r15, .ref r16])), (r1, .inl (cI, 80, .inl K)), (r2, .inl (cI, 80, .inl O)), (r3, .inl (cI, 80, .inl T)), (r4, .inl (cI, 80, .inl Z)), (r5, .inl (cI, 2, .inl Sz)), (r14, .inl (cI, 2, .inl (upd Pl y (bc_pl nn (i + 1))))), (r15, .inl (cI, 2, .inl (upd Sp y ((Sp y) + 1)))), (r16, .inl (cI, 12, .inl (upd Vr ((6 * y) + o) (Vr ((6 * y) + tt)))))] := hD
      have hst := bc_st_a (K := (fun j => K (40 * y + j))) (O := (fun j => O (40 * y + j))) (T := (fun j => T (40 * y + j))) (Z := (fun j => Z (40 * y + j))) (X := (fun v => Vr (6 * y + v))) (i := i) (nn := nn) (fun z => absurd (hs_40_1.symm.trans z) (by decide)) (fun z => absurd (hs_40_1.symm.trans z) (by decide)) (fun z => absurd (hs_40_1.symm.trans z) (by decide)) eO ho (bc_as_1 (K := (fun j => K (40 * y + j))) (T := (fun j => T (40 * y + j))) (Z := (fun j => Z (40 * y + j))) (X := (fun v => Vr (6 * y + v))) (i := i) hs_40_0 hs_40_1 eT htt)
      exact bc_vret F hr hlocks ((upd Pl y (bc_pl nn (i + 1)), upd Sp y ((Sp y) + 1), upd Vr ((6 * y) + o) (Vr ((6 * y) + tt)))) ⟨by rw [hst], rfl, by rw [hst]; exact bc_vs_up ho⟩ hP hD hS de_M_step_251
    · refine lv_iload hx hb de_M_step_234 (lv_at hl 0 rfl) ?_
      refine bc_ti (y := bc_pl nn (i + 1)) (bc_pl_lt (by omega) (by omega) hc_231) ?_
      refine lv_goto (tgt := 240) hx hb de_M_step_236 (by decide) ?_
      refine bc_ist (j := y) hx hb hK hP hD hS 6 0 rfl rfl (by omega) (by decide) de_M_step_240 (fun H locs hP hD hS => ?_)
      have hP : va_P (dC, dI) classes [(m0, .inr (5, [.int fa, .ref r1, .ref r2, .ref r3, .ref r4, .ref r5, .int rw, .ref r6, .ref r7, .ref r8, .int gw, .ref r9, .ref r10, .ref r11, .ref r12, .ref r13, .ref r14, .ref r15, .ref r16])), (r1, .inl (cI, 80, .inl K)), (r2, .inl (cI, 80, .inl O)), (r3, .inl (cI, 80, .inl T)), (r4, .inl (cI, 80, .inl Z)), (r5, .inl (cI, 2, .inl Sz)), (r14, .inl (cI, 2, .inl (upd Pl y (bc_pl nn (i + 1))))), (r15, .inl (cI, 2, .inl Sp)), (r16, .inl (cI, 12, .inl (upd Vr ((6 * y) + o) (Vr ((6 * y) + tt)))))] H := hP
      have hD : va_D A [(m0, .inr (5, [.int fa, .ref r1, .ref r2, .ref r3, .ref r4, .ref r5, .int rw, .ref r6, .ref r7, .ref r8, .int gw, .ref r9, .ref r10, .ref r11, .ref r12, .ref r13, .ref r14, .ref r15, .ref r16])), (r1, .inl (cI, 80, .inl K)), (r2, .inl (cI, 80, .inl O)), (r3, .inl (cI, 80, .inl T)), (r4, .inl (cI, 80, .inl Z)), (r5, .inl (cI, 2, .inl Sz)), (r14, .inl (cI, 2, .inl (upd Pl y (bc_pl nn (i + 1))))), (r15, .inl (cI, 2, .inl Sp)), (r16, .inl (cI, 12, .inl (upd Vr ((6 * y) + o) (Vr ((6 * y) + tt)))))] := hD
      refine lv_aload_n hx hb de_M_step_241 rfl (lv_at hl 3 rfl) ?_
      refine va_get (D := (dC, dI)) (ci := 5) (v := .ref r15) (C := rc_M) (T := fc_M) (N := 19) hx hb htw wi_M hown hK hP 0 rfl rfl 17 (by decide) (htw _ wm_440) (fun _ h9 => h9) rfl de_M_step_242 ?_
      refine lv_iload_n hx hb de_M_step_245 rfl (lv_at hl 4 rfl) ?_
      refine lv_dup2_11 hx hb de_M_step_246 rfl rfl ?_
      refine bc_ild (j := y) hx hb hK hP 7 0 rfl rfl (by omega) (by decide) de_M_step_247 ?_
      refine lv_iconst (v := 1) hx hb de_M_step_248 (by decide) ?_
      refine lv_iadd hx hb de_M_step_249 ?_
      refine bc_ist (j := y) hx hb hK hP hD hS 7 0 rfl rfl (by omega) (by decide) de_M_step_250 (fun H locs hP hD hS => ?_)
      have hP : va_P (dC, dI) classes [(m0, .inr (5, [.int fa, .ref r1, .ref r2, .ref r3, .ref r4, .ref r5, .int rw, .ref r6, .ref r7, .ref r8, .int gw, .ref r9, .ref r10, .ref r11, .ref r12, .ref r13, .ref r14, .ref r15, .ref r16])), (r1, .inl (cI, 80, .inl K)), (r2, .inl (cI, 80, .inl O)), (r3, .inl (cI, 80, .inl T)), (r4, .inl (cI, 80, .inl Z)), (r5, .inl (cI, 2, .inl Sz)), (r14, .inl (cI, 2, .inl (upd Pl y (bc_pl nn (i + 1))))), (r15, .inl (cI, 2, .inl (upd Sp y ((Sp y) + 1)))), (r16, .inl (cI, 12, .inl (upd Vr ((6 * y) + o) (Vr ((6 * y) + tt)))))] H := hP
      have hD : va_D A [(m0, .inr (5, [.int fa, .ref r1, .ref r2, .ref r3, .ref r4, .ref r5, .int rw, .ref r6, .ref r7, .ref r8, .int gw, .ref r9, .ref r10, .ref r11, .ref r12, .ref r13, .ref r14, .ref r15, .ref r16])), (r1, .inl (cI, 80, .inl K)), (r2, .inl (cI, 80, .inl O)), (r3, .inl (cI, 80, .inl T)), (r4, .inl (cI, 80, .inl Z)), (r5, .inl (cI, 2, .inl Sz)), (r14, .inl (cI, 2, .inl (upd Pl y (bc_pl nn (i + 1))))), (r15, .inl (cI, 2, .inl (upd Sp y ((Sp y) + 1)))), (r16, .inl (cI, 12, .inl (upd Vr ((6 * y) + o) (Vr ((6 * y) + tt)))))] := hD
      have hst := bc_st_a (K := (fun j => K (40 * y + j))) (O := (fun j => O (40 * y + j))) (T := (fun j => T (40 * y + j))) (Z := (fun j => Z (40 * y + j))) (X := (fun v => Vr (6 * y + v))) (i := i) (nn := nn) (fun z => absurd (hs_40_1.symm.trans z) (by decide)) (fun z => absurd (hs_40_1.symm.trans z) (by decide)) (fun z => absurd (hs_40_1.symm.trans z) (by decide)) eO ho (bc_as_1 (K := (fun j => K (40 * y + j))) (T := (fun j => T (40 * y + j))) (Z := (fun j => Z (40 * y + j))) (X := (fun v => Vr (6 * y + v))) (i := i) hs_40_0 hs_40_1 eT htt)
      exact bc_vret F hr hlocks ((upd Pl y (bc_pl nn (i + 1)), upd Sp y ((Sp y) + 1), upd Vr ((6 * y) + o) (Vr ((6 * y) + tt)))) ⟨by rw [hst], rfl, by rw [hst]; exact bc_vs_up ho⟩ hP hD hS de_M_step_251
  by_cases hs_40_2 : K ((40 * y) + i) = 2
  · refine bc_ti hs_40_2 ?_
    refine lv_tableIn (off := 131) (tgt := 171) hx hb de_M_step_40 (by decide) (by decide) rfl (by decide) ?_
    have h4 : K (40 * y + i) ≤ 4 := by rw [hs_40_2]; decide
    obtain ⟨tt, htt, eT⟩ := bc_wi_t hw h4 hs_40_0
    obtain ⟨zz, hzz, eZ⟩ := bc_wi_z hw h4 hs_40_0 hs_40_1
    refine lv_aload_n hx hb de_M_step_171 rfl (lv_at hl 3 rfl) ?_
    refine va_get (D := (dC, dI)) (ci := 5) (v := .ref r16) (C := rc_M) (T := fc_M) (N := 19) hx hb htw wi_M hown hK hP 0 rfl rfl 18 (by decide) (htw _ wm_441) (fun _ h9 => h9) rfl de_M_step_172 ?_
    refine lv_iload_n hx hb de_M_step_175 rfl (lv_at hl 1 rfl) ?_
    refine lv_aload_n hx hb de_M_step_176 rfl (lv_at hl 3 rfl) ?_
    refine va_get (D := (dC, dI)) (ci := 5) (v := .ref r1) (C := rc_M) (T := fc_M) (N := 19) hx hb htw wi_M hown hK hP 0 rfl rfl 1 (by decide) (htw _ wm_424) (fun _ h9 => h9) rfl de_M_step_177 ?_
    refine lv_iload_n hx hb de_M_step_180 rfl (lv_at hl 2 rfl) ?_
    refine bc_ild (j := (40 * y) + i) hx hb hK hP 1 0 rfl rfl (by omega) (by decide) de_M_step_181 ?_
    refine lv_aload_n hx hb de_M_step_182 rfl (lv_at hl 3 rfl) ?_
    refine va_get (D := (dC, dI)) (ci := 5) (v := .ref r16) (C := rc_M) (T := fc_M) (N := 19) hx hb htw wi_M hown hK hP 0 rfl rfl 18 (by decide) (htw _ wm_441) (fun _ h9 => h9) rfl de_M_step_183 ?_
    refine lv_bipush (v := 6) hx hb de_M_step_186 (by decide) ?_
    refine lv_iload_n hx hb de_M_step_188 rfl (lv_at hl 4 rfl) ?_
    refine lv_imul hx hb de_M_step_189 ?_
    refine bc_ti (y := nI (6 * y)) (pk_mul 6 y) ?_
    refine lv_aload_n hx hb de_M_step_190 rfl (lv_at hl 3 rfl) ?_
    refine va_get (D := (dC, dI)) (ci := 5) (v := .ref r3) (C := rc_M) (T := fc_M) (N := 19) hx hb htw wi_M hown hK hP 0 rfl rfl 3 (by decide) (htw _ wm_426) (fun _ h9 => h9) rfl de_M_step_191 ?_
    refine lv_iload_n hx hb de_M_step_194 rfl (lv_at hl 2 rfl) ?_
    refine bc_ild (j := (40 * y) + i) hx hb hK hP 3 0 rfl rfl (by omega) (by decide) de_M_step_195 ?_
    refine bc_ti (y := nI tt) eT ?_
    refine lv_iadd hx hb de_M_step_196 ?_
    refine bc_ti (y := nI ((6 * y) + tt)) (nI_add (6 * y) tt) ?_
    refine bc_ild (j := (6 * y) + tt) hx hb hK hP 8 0 rfl rfl (by omega) (by decide) de_M_step_197 ?_
    refine lv_aload_n hx hb de_M_step_198 rfl (lv_at hl 3 rfl) ?_
    refine va_get (D := (dC, dI)) (ci := 5) (v := .ref r16) (C := rc_M) (T := fc_M) (N := 19) hx hb htw wi_M hown hK hP 0 rfl rfl 18 (by decide) (htw _ wm_441) (fun _ h9 => h9) rfl de_M_step_199 ?_
    refine lv_bipush (v := 6) hx hb de_M_step_202 (by decide) ?_
    refine lv_iload_n hx hb de_M_step_204 rfl (lv_at hl 4 rfl) ?_
    refine lv_imul hx hb de_M_step_205 ?_
    refine bc_ti (y := nI (6 * y)) (pk_mul 6 y) ?_
    refine lv_aload_n hx hb de_M_step_206 rfl (lv_at hl 3 rfl) ?_
    refine va_get (D := (dC, dI)) (ci := 5) (v := .ref r4) (C := rc_M) (T := fc_M) (N := 19) hx hb htw wi_M hown hK hP 0 rfl rfl 4 (by decide) (htw _ wm_427) (fun _ h9 => h9) rfl de_M_step_207 ?_
    refine lv_iload_n hx hb de_M_step_210 rfl (lv_at hl 2 rfl) ?_
    refine bc_ild (j := (40 * y) + i) hx hb hK hP 4 0 rfl rfl (by omega) (by decide) de_M_step_211 ?_
    refine bc_ti (y := nI zz) eZ ?_
    refine lv_iadd hx hb de_M_step_212 ?_
    refine bc_ti (y := nI ((6 * y) + zz)) (nI_add (6 * y) zz) ?_
    refine bc_ild (j := (6 * y) + zz) hx hb hK hP 8 0 rfl rfl (by omega) (by decide) de_M_step_213 ?_
    refine bc_call_s_i (As := [.int (K ((40 * y) + i)), .int (Vr ((6 * y) + tt)), .int (Vr ((6 * y) + zz))]) (rest := [.int (nI ((6 * y) + o)), .ref r16]) (wr := [(m0, .inr (5, [.int fa, .ref r1, .ref r2, .ref r3, .ref r4, .ref r5, .int rw, .ref r6, .ref r7, .ref r8, .int gw, .ref r9, .ref r10, .ref r11, .ref r12, .ref r13, .ref r14, .ref r15, .ref r16])), (r1, .inl (cI, 80, .inl K)), (r2, .inl (cI, 80, .inl O)), (r3, .inl (cI, 80, .inl T)), (r4, .inl (cI, 80, .inl Z)), (r5, .inl (cI, 2, .inl Sz)), (r14, .inl (cI, 2, .inl Pl)), (r15, .inl (cI, 2, .inl Sp)), (r16, .inl (cI, 12, .inl Vr))]) F (co_M_reckon) wm_517 wm_6 wm_515 wm_516 pd_M_reckon rfl rfl ⟨Nat.le_of_ble_eq_true rfl, Nat.le_of_ble_eq_true rfl⟩ hP hD hS hA [] [0, 1, 2, 3, 4, 5, 6, 7, 8] rfl rfl rfl rfl (by decide) rfl hl.1 rfl (Nat.le_of_ble_eq_true rfl) de_M_step_214 ⟨Nat.le_of_ble_eq_true rfl, Nat.le_of_ble_eq_true rfl⟩ (fun r_214 u_214 H locs hw_214 hP hD hS => ?_)
    have hP : va_P (dC, dI) classes [(m0, .inr (5, [.int fa, .ref r1, .ref r2, .ref r3, .ref r4, .ref r5, .int rw, .ref r6, .ref r7, .ref r8, .int gw, .ref r9, .ref r10, .ref r11, .ref r12, .ref r13, .ref r14, .ref r15, .ref r16])), (r1, .inl (cI, 80, .inl K)), (r2, .inl (cI, 80, .inl O)), (r3, .inl (cI, 80, .inl T)), (r4, .inl (cI, 80, .inl Z)), (r5, .inl (cI, 2, .inl Sz)), (r14, .inl (cI, 2, .inl Pl)), (r15, .inl (cI, 2, .inl Sp)), (r16, .inl (cI, 12, .inl Vr))] H := hP.sub [0, 1, 2, 3, 4, 5, 6, 7, 8] rfl
    have hD : va_D A [(m0, .inr (5, [.int fa, .ref r1, .ref r2, .ref r3, .ref r4, .ref r5, .int rw, .ref r6, .ref r7, .ref r8, .int gw, .ref r9, .ref r10, .ref r11, .ref r12, .ref r13, .ref r14, .ref r15, .ref r16])), (r1, .inl (cI, 80, .inl K)), (r2, .inl (cI, 80, .inl O)), (r3, .inl (cI, 80, .inl T)), (r4, .inl (cI, 80, .inl Z)), (r5, .inl (cI, 2, .inl Sz)), (r14, .inl (cI, 2, .inl Pl)), (r15, .inl (cI, 2, .inl Sp)), (r16, .inl (cI, 12, .inl Vr))] := hD.sub [0, 1, 2, 3, 4, 5, 6, 7, 8] (by decide) rfl
    subst hw_214
    refine bc_ist (j := (6 * y) + o) hx hb hK hP hD hS 8 0 rfl rfl (by omega) (by decide) de_M_step_217 (fun H locs hP hD hS => ?_)
    have hP : va_P (dC, dI) classes [(m0, .inr (5, [.int fa, .ref r1, .ref r2, .ref r3, .ref r4, .ref r5, .int rw, .ref r6, .ref r7, .ref r8, .int gw, .ref r9, .ref r10, .ref r11, .ref r12, .ref r13, .ref r14, .ref r15, .ref r16])), (r1, .inl (cI, 80, .inl K)), (r2, .inl (cI, 80, .inl O)), (r3, .inl (cI, 80, .inl T)), (r4, .inl (cI, 80, .inl Z)), (r5, .inl (cI, 2, .inl Sz)), (r14, .inl (cI, 2, .inl Pl)), (r15, .inl (cI, 2, .inl Sp)), (r16, .inl (cI, 12, .inl (upd Vr ((6 * y) + o) (bc_ar (K (40 * y + i)) (Vr (6 * y + tt)) (Vr (6 * y + zz))))))] H := hP
    have hD : va_D A [(m0, .inr (5, [.int fa, .ref r1, .ref r2, .ref r3, .ref r4, .ref r5, .int rw, .ref r6, .ref r7, .ref r8, .int gw, .ref r9, .ref r10, .ref r11, .ref r12, .ref r13, .ref r14, .ref r15, .ref r16])), (r1, .inl (cI, 80, .inl K)), (r2, .inl (cI, 80, .inl O)), (r3, .inl (cI, 80, .inl T)), (r4, .inl (cI, 80, .inl Z)), (r5, .inl (cI, 2, .inl Sz)), (r14, .inl (cI, 2, .inl Pl)), (r15, .inl (cI, 2, .inl Sp)), (r16, .inl (cI, 12, .inl (upd Vr ((6 * y) + o) (bc_ar (K (40 * y + i)) (Vr (6 * y + tt)) (Vr (6 * y + zz))))))] := hD
    refine lv_aload_n hx hb de_M_step_218 rfl (lv_at hl 3 rfl) ?_
    refine va_get (D := (dC, dI)) (ci := 5) (v := .ref r14) (C := rc_M) (T := fc_M) (N := 19) hx hb htw wi_M hown hK hP 0 rfl rfl 16 (by decide) (htw _ wm_439) (fun _ h9 => h9) rfl de_M_step_219 ?_
    refine lv_iload_n hx hb de_M_step_222 rfl (lv_at hl 4 rfl) ?_
    refine lv_iload hx hb de_M_step_223 (lv_at hl 0 rfl) ?_
    refine lv_aload_n hx hb de_M_step_225 rfl (lv_at hl 3 rfl) ?_
    refine va_get (D := (dC, dI)) (ci := 5) (v := .ref r5) (C := rc_M) (T := fc_M) (N := 19) hx hb htw wi_M hown hK hP 0 rfl rfl 5 (by decide) (htw _ wm_428) (fun _ h9 => h9) rfl de_M_step_226 ?_
    refine lv_iload_n hx hb de_M_step_229 rfl (lv_at hl 4 rfl) ?_
    refine bc_ild (j := y) hx hb hK hP 5 0 rfl rfl (by omega) (by decide) de_M_step_230 ?_
    refine bc_ti (y := nI nn) hSy ?_
    refine lv_icmp_ge (tgt := 239) hx hb de_M_step_231 (by decide) (fun hc_231 => ?_) (fun hc_231 => ?_)
    · refine lv_iconst (v := (-1)) hx hb de_M_step_239 (by decide) ?_
      refine bc_ti (y := bc_pl nn (i + 1)) (bc_pl_ge (by omega) (by omega) hc_231) ?_
      refine bc_ist (j := y) hx hb hK hP hD hS 6 0 rfl rfl (by omega) (by decide) de_M_step_240 (fun H locs hP hD hS => ?_)
      have hP : va_P (dC, dI) classes [(m0, .inr (5, [.int fa, .ref r1, .ref r2, .ref r3, .ref r4, .ref r5, .int rw, .ref r6, .ref r7, .ref r8, .int gw, .ref r9, .ref r10, .ref r11, .ref r12, .ref r13, .ref r14, .ref r15, .ref r16])), (r1, .inl (cI, 80, .inl K)), (r2, .inl (cI, 80, .inl O)), (r3, .inl (cI, 80, .inl T)), (r4, .inl (cI, 80, .inl Z)), (r5, .inl (cI, 2, .inl Sz)), (r14, .inl (cI, 2, .inl (upd Pl y (bc_pl nn (i + 1))))), (r15, .inl (cI, 2, .inl Sp)), (r16, .inl (cI, 12, .inl (upd Vr ((6 * y) + o) (bc_ar (K (40 * y + i)) (Vr (6 * y + tt)) (Vr (6 * y + zz))))))] H := hP
      have hD : va_D A [(m0, .inr (5, [.int fa, .ref r1, .ref r2, .ref r3, .ref r4, .ref r5, .int rw, .ref r6, .ref r7, .ref r8, .int gw, .ref r9, .ref r10, .ref r11, .ref r12, .ref r13, .ref r14, .ref r15, .ref r16])), (r1, .inl (cI, 80, .inl K)), (r2, .inl (cI, 80, .inl O)), (r3, .inl (cI, 80, .inl T)), (r4, .inl (cI, 80, .inl Z)), (r5, .inl (cI, 2, .inl Sz)), (r14, .inl (cI, 2, .inl (upd Pl y (bc_pl nn (i + 1))))), (r15, .inl (cI, 2, .inl Sp)), (r16, .inl (cI, 12, .inl (upd Vr ((6 * y) + o) (bc_ar (K (40 * y + i)) (Vr (6 * y + tt)) (Vr (6 * y + zz))))))] := hD
      refine lv_aload_n hx hb de_M_step_241 rfl (lv_at hl 3 rfl) ?_
      refine va_get (D := (dC, dI)) (ci := 5) (v := .ref r15) (C := rc_M) (T := fc_M) (N := 19) hx hb htw wi_M hown hK hP 0 rfl rfl 17 (by decide) (htw _ wm_440) (fun _ h9 => h9) rfl de_M_step_242 ?_
      refine lv_iload_n hx hb de_M_step_245 rfl (lv_at hl 4 rfl) ?_
      refine lv_dup2_11 hx hb de_M_step_246 rfl rfl ?_
      refine bc_ild (j := y) hx hb hK hP 7 0 rfl rfl (by omega) (by decide) de_M_step_247 ?_
      refine lv_iconst (v := 1) hx hb de_M_step_248 (by decide) ?_
      refine lv_iadd hx hb de_M_step_249 ?_
      refine bc_ist (j := y) hx hb hK hP hD hS 7 0 rfl rfl (by omega) (by decide) de_M_step_250 (fun H locs hP hD hS => ?_)
      have hP : va_P (dC, dI) classes [(m0, .inr (5, [.int fa, .ref r1, .ref r2, .ref r3, .ref r4, .ref r5, .int rw, .ref r6, .ref r7, .ref r8, .int gw, .ref r9, .ref r10, .ref r11, .ref r12, .ref r13, .ref r14, .ref r15, .ref r16])), (r1, .inl (cI, 80, .inl K)), (r2, .inl (cI, 80, .inl O)), (r3, .inl (cI, 80, .inl T)), (r4, .inl (cI, 80, .inl Z)), (r5, .inl (cI, 2, .inl Sz)), (r14, .inl (cI, 2, .inl (upd Pl y (bc_pl nn (i + 1))))), (r15, .inl (cI, 2, .inl (upd Sp y ((Sp y) + 1)))), (r16, .inl (cI, 12, .inl (upd Vr ((6 * y) + o) (bc_ar (K (40 * y + i)) (Vr (6 * y + tt)) (Vr (6 * y + zz))))))] H := hP
      have hD : va_D A [(m0, .inr (5, [.int fa, .ref r1, .ref r2, .ref r3, .ref r4, .ref r5, .int rw, .ref r6, .ref r7, .ref r8, .int gw, .ref r9, .ref r10, .ref r11, .ref r12, .ref r13, .ref r14, .ref r15, .ref r16])), (r1, .inl (cI, 80, .inl K)), (r2, .inl (cI, 80, .inl O)), (r3, .inl (cI, 80, .inl T)), (r4, .inl (cI, 80, .inl Z)), (r5, .inl (cI, 2, .inl Sz)), (r14, .inl (cI, 2, .inl (upd Pl y (bc_pl nn (i + 1))))), (r15, .inl (cI, 2, .inl (upd Sp y ((Sp y) + 1)))), (r16, .inl (cI, 12, .inl (upd Vr ((6 * y) + o) (bc_ar (K (40 * y + i)) (Vr (6 * y + tt)) (Vr (6 * y + zz))))))] := hD
      have hst := bc_st_a (K := (fun j => K (40 * y + j))) (O := (fun j => O (40 * y + j))) (T := (fun j => T (40 * y + j))) (Z := (fun j => Z (40 * y + j))) (X := (fun v => Vr (6 * y + v))) (i := i) (nn := nn) (fun z => absurd (hs_40_2.symm.trans z) (by decide)) (fun z => absurd (hs_40_2.symm.trans z) (by decide)) (fun z => absurd (hs_40_2.symm.trans z) (by decide)) eO ho (bc_as_2 (K := (fun j => K (40 * y + j))) (T := (fun j => T (40 * y + j))) (Z := (fun j => Z (40 * y + j))) (X := (fun v => Vr (6 * y + v))) (i := i) hs_40_0 hs_40_1 eT htt eZ hzz)
      exact bc_vret F hr hlocks ((upd Pl y (bc_pl nn (i + 1)), upd Sp y ((Sp y) + 1), upd Vr ((6 * y) + o) (bc_ar (K (40 * y + i)) (Vr (6 * y + tt)) (Vr (6 * y + zz))))) ⟨by rw [hst], rfl, by rw [hst]; exact bc_vs_up ho⟩ hP hD hS de_M_step_251
    · refine lv_iload hx hb de_M_step_234 (lv_at hl 0 rfl) ?_
      refine bc_ti (y := bc_pl nn (i + 1)) (bc_pl_lt (by omega) (by omega) hc_231) ?_
      refine lv_goto (tgt := 240) hx hb de_M_step_236 (by decide) ?_
      refine bc_ist (j := y) hx hb hK hP hD hS 6 0 rfl rfl (by omega) (by decide) de_M_step_240 (fun H locs hP hD hS => ?_)
      have hP : va_P (dC, dI) classes [(m0, .inr (5, [.int fa, .ref r1, .ref r2, .ref r3, .ref r4, .ref r5, .int rw, .ref r6, .ref r7, .ref r8, .int gw, .ref r9, .ref r10, .ref r11, .ref r12, .ref r13, .ref r14, .ref r15, .ref r16])), (r1, .inl (cI, 80, .inl K)), (r2, .inl (cI, 80, .inl O)), (r3, .inl (cI, 80, .inl T)), (r4, .inl (cI, 80, .inl Z)), (r5, .inl (cI, 2, .inl Sz)), (r14, .inl (cI, 2, .inl (upd Pl y (bc_pl nn (i + 1))))), (r15, .inl (cI, 2, .inl Sp)), (r16, .inl (cI, 12, .inl (upd Vr ((6 * y) + o) (bc_ar (K (40 * y + i)) (Vr (6 * y + tt)) (Vr (6 * y + zz))))))] H := hP
      have hD : va_D A [(m0, .inr (5, [.int fa, .ref r1, .ref r2, .ref r3, .ref r4, .ref r5, .int rw, .ref r6, .ref r7, .ref r8, .int gw, .ref r9, .ref r10, .ref r11, .ref r12, .ref r13, .ref r14, .ref r15, .ref r16])), (r1, .inl (cI, 80, .inl K)), (r2, .inl (cI, 80, .inl O)), (r3, .inl (cI, 80, .inl T)), (r4, .inl (cI, 80, .inl Z)), (r5, .inl (cI, 2, .inl Sz)), (r14, .inl (cI, 2, .inl (upd Pl y (bc_pl nn (i + 1))))), (r15, .inl (cI, 2, .inl Sp)), (r16, .inl (cI, 12, .inl (upd Vr ((6 * y) + o) (bc_ar (K (40 * y + i)) (Vr (6 * y + tt)) (Vr (6 * y + zz))))))] := hD
      refine lv_aload_n hx hb de_M_step_241 rfl (lv_at hl 3 rfl) ?_
      refine va_get (D := (dC, dI)) (ci := 5) (v := .ref r15) (C := rc_M) (T := fc_M) (N := 19) hx hb htw wi_M hown hK hP 0 rfl rfl 17 (by decide) (htw _ wm_440) (fun _ h9 => h9) rfl de_M_step_242 ?_
      refine lv_iload_n hx hb de_M_step_245 rfl (lv_at hl 4 rfl) ?_
      refine lv_dup2_11 hx hb de_M_step_246 rfl rfl ?_
      refine bc_ild (j := y) hx hb hK hP 7 0 rfl rfl (by omega) (by decide) de_M_step_247 ?_
      refine lv_iconst (v := 1) hx hb de_M_step_248 (by decide) ?_
      refine lv_iadd hx hb de_M_step_249 ?_
      refine bc_ist (j := y) hx hb hK hP hD hS 7 0 rfl rfl (by omega) (by decide) de_M_step_250 (fun H locs hP hD hS => ?_)
      have hP : va_P (dC, dI) classes [(m0, .inr (5, [.int fa, .ref r1, .ref r2, .ref r3, .ref r4, .ref r5, .int rw, .ref r6, .ref r7, .ref r8, .int gw, .ref r9, .ref r10, .ref r11, .ref r12, .ref r13, .ref r14, .ref r15, .ref r16])), (r1, .inl (cI, 80, .inl K)), (r2, .inl (cI, 80, .inl O)), (r3, .inl (cI, 80, .inl T)), (r4, .inl (cI, 80, .inl Z)), (r5, .inl (cI, 2, .inl Sz)), (r14, .inl (cI, 2, .inl (upd Pl y (bc_pl nn (i + 1))))), (r15, .inl (cI, 2, .inl (upd Sp y ((Sp y) + 1)))), (r16, .inl (cI, 12, .inl (upd Vr ((6 * y) + o) (bc_ar (K (40 * y + i)) (Vr (6 * y + tt)) (Vr (6 * y + zz))))))] H := hP
      have hD : va_D A [(m0, .inr (5, [.int fa, .ref r1, .ref r2, .ref r3, .ref r4, .ref r5, .int rw, .ref r6, .ref r7, .ref r8, .int gw, .ref r9, .ref r10, .ref r11, .ref r12, .ref r13, .ref r14, .ref r15, .ref r16])), (r1, .inl (cI, 80, .inl K)), (r2, .inl (cI, 80, .inl O)), (r3, .inl (cI, 80, .inl T)), (r4, .inl (cI, 80, .inl Z)), (r5, .inl (cI, 2, .inl Sz)), (r14, .inl (cI, 2, .inl (upd Pl y (bc_pl nn (i + 1))))), (r15, .inl (cI, 2, .inl (upd Sp y ((Sp y) + 1)))), (r16, .inl (cI, 12, .inl (upd Vr ((6 * y) + o) (bc_ar (K (40 * y + i)) (Vr (6 * y + tt)) (Vr (6 * y + zz))))))] := hD
      have hst := bc_st_a (K := (fun j => K (40 * y + j))) (O := (fun j => O (40 * y + j))) (T := (fun j => T (40 * y + j))) (Z := (fun j => Z (40 * y + j))) (X := (fun v => Vr (6 * y + v))) (i := i) (nn := nn) (fun z => absurd (hs_40_2.symm.trans z) (by decide)) (fun z => absurd (hs_40_2.symm.trans z) (by decide)) (fun z => absurd (hs_40_2.symm.trans z) (by decide)) eO ho (bc_as_2 (K := (fun j => K (40 * y + j))) (T := (fun j => T (40 * y + j))) (Z := (fun j => Z (40 * y + j))) (X := (fun v => Vr (6 * y + v))) (i := i) hs_40_0 hs_40_1 eT htt eZ hzz)
      exact bc_vret F hr hlocks ((upd Pl y (bc_pl nn (i + 1)), upd Sp y ((Sp y) + 1), upd Vr ((6 * y) + o) (bc_ar (K (40 * y + i)) (Vr (6 * y + tt)) (Vr (6 * y + zz))))) ⟨by rw [hst], rfl, by rw [hst]; exact bc_vs_up ho⟩ hP hD hS de_M_step_251
  by_cases hs_40_3 : K ((40 * y) + i) = 3
  · refine bc_ti hs_40_3 ?_
    refine lv_tableIn (off := 131) (tgt := 171) hx hb de_M_step_40 (by decide) (by decide) rfl (by decide) ?_
    have h4 : K (40 * y + i) ≤ 4 := by rw [hs_40_3]; decide
    obtain ⟨tt, htt, eT⟩ := bc_wi_t hw h4 hs_40_0
    obtain ⟨zz, hzz, eZ⟩ := bc_wi_z hw h4 hs_40_0 hs_40_1
    refine lv_aload_n hx hb de_M_step_171 rfl (lv_at hl 3 rfl) ?_
    refine va_get (D := (dC, dI)) (ci := 5) (v := .ref r16) (C := rc_M) (T := fc_M) (N := 19) hx hb htw wi_M hown hK hP 0 rfl rfl 18 (by decide) (htw _ wm_441) (fun _ h9 => h9) rfl de_M_step_172 ?_
    refine lv_iload_n hx hb de_M_step_175 rfl (lv_at hl 1 rfl) ?_
    refine lv_aload_n hx hb de_M_step_176 rfl (lv_at hl 3 rfl) ?_
    refine va_get (D := (dC, dI)) (ci := 5) (v := .ref r1) (C := rc_M) (T := fc_M) (N := 19) hx hb htw wi_M hown hK hP 0 rfl rfl 1 (by decide) (htw _ wm_424) (fun _ h9 => h9) rfl de_M_step_177 ?_
    refine lv_iload_n hx hb de_M_step_180 rfl (lv_at hl 2 rfl) ?_
    refine bc_ild (j := (40 * y) + i) hx hb hK hP 1 0 rfl rfl (by omega) (by decide) de_M_step_181 ?_
    refine lv_aload_n hx hb de_M_step_182 rfl (lv_at hl 3 rfl) ?_
    refine va_get (D := (dC, dI)) (ci := 5) (v := .ref r16) (C := rc_M) (T := fc_M) (N := 19) hx hb htw wi_M hown hK hP 0 rfl rfl 18 (by decide) (htw _ wm_441) (fun _ h9 => h9) rfl de_M_step_183 ?_
    refine lv_bipush (v := 6) hx hb de_M_step_186 (by decide) ?_
    refine lv_iload_n hx hb de_M_step_188 rfl (lv_at hl 4 rfl) ?_
    refine lv_imul hx hb de_M_step_189 ?_
    refine bc_ti (y := nI (6 * y)) (pk_mul 6 y) ?_
    refine lv_aload_n hx hb de_M_step_190 rfl (lv_at hl 3 rfl) ?_
    refine va_get (D := (dC, dI)) (ci := 5) (v := .ref r3) (C := rc_M) (T := fc_M) (N := 19) hx hb htw wi_M hown hK hP 0 rfl rfl 3 (by decide) (htw _ wm_426) (fun _ h9 => h9) rfl de_M_step_191 ?_
    refine lv_iload_n hx hb de_M_step_194 rfl (lv_at hl 2 rfl) ?_
    refine bc_ild (j := (40 * y) + i) hx hb hK hP 3 0 rfl rfl (by omega) (by decide) de_M_step_195 ?_
    refine bc_ti (y := nI tt) eT ?_
    refine lv_iadd hx hb de_M_step_196 ?_
    refine bc_ti (y := nI ((6 * y) + tt)) (nI_add (6 * y) tt) ?_
    refine bc_ild (j := (6 * y) + tt) hx hb hK hP 8 0 rfl rfl (by omega) (by decide) de_M_step_197 ?_
    refine lv_aload_n hx hb de_M_step_198 rfl (lv_at hl 3 rfl) ?_
    refine va_get (D := (dC, dI)) (ci := 5) (v := .ref r16) (C := rc_M) (T := fc_M) (N := 19) hx hb htw wi_M hown hK hP 0 rfl rfl 18 (by decide) (htw _ wm_441) (fun _ h9 => h9) rfl de_M_step_199 ?_
    refine lv_bipush (v := 6) hx hb de_M_step_202 (by decide) ?_
    refine lv_iload_n hx hb de_M_step_204 rfl (lv_at hl 4 rfl) ?_
    refine lv_imul hx hb de_M_step_205 ?_
    refine bc_ti (y := nI (6 * y)) (pk_mul 6 y) ?_
    refine lv_aload_n hx hb de_M_step_206 rfl (lv_at hl 3 rfl) ?_
    refine va_get (D := (dC, dI)) (ci := 5) (v := .ref r4) (C := rc_M) (T := fc_M) (N := 19) hx hb htw wi_M hown hK hP 0 rfl rfl 4 (by decide) (htw _ wm_427) (fun _ h9 => h9) rfl de_M_step_207 ?_
    refine lv_iload_n hx hb de_M_step_210 rfl (lv_at hl 2 rfl) ?_
    refine bc_ild (j := (40 * y) + i) hx hb hK hP 4 0 rfl rfl (by omega) (by decide) de_M_step_211 ?_
    refine bc_ti (y := nI zz) eZ ?_
    refine lv_iadd hx hb de_M_step_212 ?_
    refine bc_ti (y := nI ((6 * y) + zz)) (nI_add (6 * y) zz) ?_
    refine bc_ild (j := (6 * y) + zz) hx hb hK hP 8 0 rfl rfl (by omega) (by decide) de_M_step_213 ?_
    refine bc_call_s_i (As := [.int (K ((40 * y) + i)), .int (Vr ((6 * y) + tt)), .int (Vr ((6 * y) + zz))]) (rest := [.int (nI ((6 * y) + o)), .ref r16]) (wr := [(m0, .inr (5, [.int fa, .ref r1, .ref r2, .ref r3, .ref r4, .ref r5, .int rw, .ref r6, .ref r7, .ref r8, .int gw, .ref r9, .ref r10, .ref r11, .ref r12, .ref r13, .ref r14, .ref r15, .ref r16])), (r1, .inl (cI, 80, .inl K)), (r2, .inl (cI, 80, .inl O)), (r3, .inl (cI, 80, .inl T)), (r4, .inl (cI, 80, .inl Z)), (r5, .inl (cI, 2, .inl Sz)), (r14, .inl (cI, 2, .inl Pl)), (r15, .inl (cI, 2, .inl Sp)), (r16, .inl (cI, 12, .inl Vr))]) F (co_M_reckon) wm_517 wm_6 wm_515 wm_516 pd_M_reckon rfl rfl ⟨Nat.le_of_ble_eq_true rfl, Nat.le_of_ble_eq_true rfl⟩ hP hD hS hA [] [0, 1, 2, 3, 4, 5, 6, 7, 8] rfl rfl rfl rfl (by decide) rfl hl.1 rfl (Nat.le_of_ble_eq_true rfl) de_M_step_214 ⟨Nat.le_of_ble_eq_true rfl, Nat.le_of_ble_eq_true rfl⟩ (fun r_214 u_214 H locs hw_214 hP hD hS => ?_)
    have hP : va_P (dC, dI) classes [(m0, .inr (5, [.int fa, .ref r1, .ref r2, .ref r3, .ref r4, .ref r5, .int rw, .ref r6, .ref r7, .ref r8, .int gw, .ref r9, .ref r10, .ref r11, .ref r12, .ref r13, .ref r14, .ref r15, .ref r16])), (r1, .inl (cI, 80, .inl K)), (r2, .inl (cI, 80, .inl O)), (r3, .inl (cI, 80, .inl T)), (r4, .inl (cI, 80, .inl Z)), (r5, .inl (cI, 2, .inl Sz)), (r14, .inl (cI, 2, .inl Pl)), (r15, .inl (cI, 2, .inl Sp)), (r16, .inl (cI, 12, .inl Vr))] H := hP.sub [0, 1, 2, 3, 4, 5, 6, 7, 8] rfl
    have hD : va_D A [(m0, .inr (5, [.int fa, .ref r1, .ref r2, .ref r3, .ref r4, .ref r5, .int rw, .ref r6, .ref r7, .ref r8, .int gw, .ref r9, .ref r10, .ref r11, .ref r12, .ref r13, .ref r14, .ref r15, .ref r16])), (r1, .inl (cI, 80, .inl K)), (r2, .inl (cI, 80, .inl O)), (r3, .inl (cI, 80, .inl T)), (r4, .inl (cI, 80, .inl Z)), (r5, .inl (cI, 2, .inl Sz)), (r14, .inl (cI, 2, .inl Pl)), (r15, .inl (cI, 2, .inl Sp)), (r16, .inl (cI, 12, .inl Vr))] := hD.sub [0, 1, 2, 3, 4, 5, 6, 7, 8] (by decide) rfl
    subst hw_214
    refine bc_ist (j := (6 * y) + o) hx hb hK hP hD hS 8 0 rfl rfl (by omega) (by decide) de_M_step_217 (fun H locs hP hD hS => ?_)
    have hP : va_P (dC, dI) classes [(m0, .inr (5, [.int fa, .ref r1, .ref r2, .ref r3, .ref r4, .ref r5, .int rw, .ref r6, .ref r7, .ref r8, .int gw, .ref r9, .ref r10, .ref r11, .ref r12, .ref r13, .ref r14, .ref r15, .ref r16])), (r1, .inl (cI, 80, .inl K)), (r2, .inl (cI, 80, .inl O)), (r3, .inl (cI, 80, .inl T)), (r4, .inl (cI, 80, .inl Z)), (r5, .inl (cI, 2, .inl Sz)), (r14, .inl (cI, 2, .inl Pl)), (r15, .inl (cI, 2, .inl Sp)), (r16, .inl (cI, 12, .inl (upd Vr ((6 * y) + o) (bc_ar (K (40 * y + i)) (Vr (6 * y + tt)) (Vr (6 * y + zz))))))] H := hP
    have hD : va_D A [(m0, .inr (5, [.int fa, .ref r1, .ref r2, .ref r3, .ref r4, .ref r5, .int rw, .ref r6, .ref r7, .ref r8, .int gw, .ref r9, .ref r10, .ref r11, .ref r12, .ref r13, .ref r14, .ref r15, .ref r16])), (r1, .inl (cI, 80, .inl K)), (r2, .inl (cI, 80, .inl O)), (r3, .inl (cI, 80, .inl T)), (r4, .inl (cI, 80, .inl Z)), (r5, .inl (cI, 2, .inl Sz)), (r14, .inl (cI, 2, .inl Pl)), (r15, .inl (cI, 2, .inl Sp)), (r16, .inl (cI, 12, .inl (upd Vr ((6 * y) + o) (bc_ar (K (40 * y + i)) (Vr (6 * y + tt)) (Vr (6 * y + zz))))))] := hD
    refine lv_aload_n hx hb de_M_step_218 rfl (lv_at hl 3 rfl) ?_
    refine va_get (D := (dC, dI)) (ci := 5) (v := .ref r14) (C := rc_M) (T := fc_M) (N := 19) hx hb htw wi_M hown hK hP 0 rfl rfl 16 (by decide) (htw _ wm_439) (fun _ h9 => h9) rfl de_M_step_219 ?_
    refine lv_iload_n hx hb de_M_step_222 rfl (lv_at hl 4 rfl) ?_
    refine lv_iload hx hb de_M_step_223 (lv_at hl 0 rfl) ?_
    refine lv_aload_n hx hb de_M_step_225 rfl (lv_at hl 3 rfl) ?_
    refine va_get (D := (dC, dI)) (ci := 5) (v := .ref r5) (C := rc_M) (T := fc_M) (N := 19) hx hb htw wi_M hown hK hP 0 rfl rfl 5 (by decide) (htw _ wm_428) (fun _ h9 => h9) rfl de_M_step_226 ?_
    refine lv_iload_n hx hb de_M_step_229 rfl (lv_at hl 4 rfl) ?_
    refine bc_ild (j := y) hx hb hK hP 5 0 rfl rfl (by omega) (by decide) de_M_step_230 ?_
    refine bc_ti (y := nI nn) hSy ?_
    refine lv_icmp_ge (tgt := 239) hx hb de_M_step_231 (by decide) (fun hc_231 => ?_) (fun hc_231 => ?_)
    · refine lv_iconst (v := (-1)) hx hb de_M_step_239 (by decide) ?_
      refine bc_ti (y := bc_pl nn (i + 1)) (bc_pl_ge (by omega) (by omega) hc_231) ?_
      refine bc_ist (j := y) hx hb hK hP hD hS 6 0 rfl rfl (by omega) (by decide) de_M_step_240 (fun H locs hP hD hS => ?_)
      have hP : va_P (dC, dI) classes [(m0, .inr (5, [.int fa, .ref r1, .ref r2, .ref r3, .ref r4, .ref r5, .int rw, .ref r6, .ref r7, .ref r8, .int gw, .ref r9, .ref r10, .ref r11, .ref r12, .ref r13, .ref r14, .ref r15, .ref r16])), (r1, .inl (cI, 80, .inl K)), (r2, .inl (cI, 80, .inl O)), (r3, .inl (cI, 80, .inl T)), (r4, .inl (cI, 80, .inl Z)), (r5, .inl (cI, 2, .inl Sz)), (r14, .inl (cI, 2, .inl (upd Pl y (bc_pl nn (i + 1))))), (r15, .inl (cI, 2, .inl Sp)), (r16, .inl (cI, 12, .inl (upd Vr ((6 * y) + o) (bc_ar (K (40 * y + i)) (Vr (6 * y + tt)) (Vr (6 * y + zz))))))] H := hP
      have hD : va_D A [(m0, .inr (5, [.int fa, .ref r1, .ref r2, .ref r3, .ref r4, .ref r5, .int rw, .ref r6, .ref r7, .ref r8, .int gw, .ref r9, .ref r10, .ref r11, .ref r12, .ref r13, .ref r14, .ref r15, .ref r16])), (r1, .inl (cI, 80, .inl K)), (r2, .inl (cI, 80, .inl O)), (r3, .inl (cI, 80, .inl T)), (r4, .inl (cI, 80, .inl Z)), (r5, .inl (cI, 2, .inl Sz)), (r14, .inl (cI, 2, .inl (upd Pl y (bc_pl nn (i + 1))))), (r15, .inl (cI, 2, .inl Sp)), (r16, .inl (cI, 12, .inl (upd Vr ((6 * y) + o) (bc_ar (K (40 * y + i)) (Vr (6 * y + tt)) (Vr (6 * y + zz))))))] := hD
      refine lv_aload_n hx hb de_M_step_241 rfl (lv_at hl 3 rfl) ?_
      refine va_get (D := (dC, dI)) (ci := 5) (v := .ref r15) (C := rc_M) (T := fc_M) (N := 19) hx hb htw wi_M hown hK hP 0 rfl rfl 17 (by decide) (htw _ wm_440) (fun _ h9 => h9) rfl de_M_step_242 ?_
      refine lv_iload_n hx hb de_M_step_245 rfl (lv_at hl 4 rfl) ?_
      refine lv_dup2_11 hx hb de_M_step_246 rfl rfl ?_
      refine bc_ild (j := y) hx hb hK hP 7 0 rfl rfl (by omega) (by decide) de_M_step_247 ?_
      refine lv_iconst (v := 1) hx hb de_M_step_248 (by decide) ?_
      refine lv_iadd hx hb de_M_step_249 ?_
      refine bc_ist (j := y) hx hb hK hP hD hS 7 0 rfl rfl (by omega) (by decide) de_M_step_250 (fun H locs hP hD hS => ?_)
      have hP : va_P (dC, dI) classes [(m0, .inr (5, [.int fa, .ref r1, .ref r2, .ref r3, .ref r4, .ref r5, .int rw, .ref r6, .ref r7, .ref r8, .int gw, .ref r9, .ref r10, .ref r11, .ref r12, .ref r13, .ref r14, .ref r15, .ref r16])), (r1, .inl (cI, 80, .inl K)), (r2, .inl (cI, 80, .inl O)), (r3, .inl (cI, 80, .inl T)), (r4, .inl (cI, 80, .inl Z)), (r5, .inl (cI, 2, .inl Sz)), (r14, .inl (cI, 2, .inl (upd Pl y (bc_pl nn (i + 1))))), (r15, .inl (cI, 2, .inl (upd Sp y ((Sp y) + 1)))), (r16, .inl (cI, 12, .inl (upd Vr ((6 * y) + o) (bc_ar (K (40 * y + i)) (Vr (6 * y + tt)) (Vr (6 * y + zz))))))] H := hP
      have hD : va_D A [(m0, .inr (5, [.int fa, .ref r1, .ref r2, .ref r3, .ref r4, .ref r5, .int rw, .ref r6, .ref r7, .ref r8, .int gw, .ref r9, .ref r10, .ref r11, .ref r12, .ref r13, .ref r14, .ref r15, .ref r16])), (r1, .inl (cI, 80, .inl K)), (r2, .inl (cI, 80, .inl O)), (r3, .inl (cI, 80, .inl T)), (r4, .inl (cI, 80, .inl Z)), (r5, .inl (cI, 2, .inl Sz)), (r14, .inl (cI, 2, .inl (upd Pl y (bc_pl nn (i + 1))))), (r15, .inl (cI, 2, .inl (upd Sp y ((Sp y) + 1)))), (r16, .inl (cI, 12, .inl (upd Vr ((6 * y) + o) (bc_ar (K (40 * y + i)) (Vr (6 * y + tt)) (Vr (6 * y + zz))))))] := hD
      have hst := bc_st_a (K := (fun j => K (40 * y + j))) (O := (fun j => O (40 * y + j))) (T := (fun j => T (40 * y + j))) (Z := (fun j => Z (40 * y + j))) (X := (fun v => Vr (6 * y + v))) (i := i) (nn := nn) (fun z => absurd (hs_40_3.symm.trans z) (by decide)) (fun z => absurd (hs_40_3.symm.trans z) (by decide)) (fun z => absurd (hs_40_3.symm.trans z) (by decide)) eO ho (bc_as_2 (K := (fun j => K (40 * y + j))) (T := (fun j => T (40 * y + j))) (Z := (fun j => Z (40 * y + j))) (X := (fun v => Vr (6 * y + v))) (i := i) hs_40_0 hs_40_1 eT htt eZ hzz)
      exact bc_vret F hr hlocks ((upd Pl y (bc_pl nn (i + 1)), upd Sp y ((Sp y) + 1), upd Vr ((6 * y) + o) (bc_ar (K (40 * y + i)) (Vr (6 * y + tt)) (Vr (6 * y + zz))))) ⟨by rw [hst], rfl, by rw [hst]; exact bc_vs_up ho⟩ hP hD hS de_M_step_251
    · refine lv_iload hx hb de_M_step_234 (lv_at hl 0 rfl) ?_
      refine bc_ti (y := bc_pl nn (i + 1)) (bc_pl_lt (by omega) (by omega) hc_231) ?_
      refine lv_goto (tgt := 240) hx hb de_M_step_236 (by decide) ?_
      refine bc_ist (j := y) hx hb hK hP hD hS 6 0 rfl rfl (by omega) (by decide) de_M_step_240 (fun H locs hP hD hS => ?_)
      have hP : va_P (dC, dI) classes [(m0, .inr (5, [.int fa, .ref r1, .ref r2, .ref r3, .ref r4, .ref r5, .int rw, .ref r6, .ref r7, .ref r8, .int gw, .ref r9, .ref r10, .ref r11, .ref r12, .ref r13, .ref r14, .ref r15, .ref r16])), (r1, .inl (cI, 80, .inl K)), (r2, .inl (cI, 80, .inl O)), (r3, .inl (cI, 80, .inl T)), (r4, .inl (cI, 80, .inl Z)), (r5, .inl (cI, 2, .inl Sz)), (r14, .inl (cI, 2, .inl (upd Pl y (bc_pl nn (i + 1))))), (r15, .inl (cI, 2, .inl Sp)), (r16, .inl (cI, 12, .inl (upd Vr ((6 * y) + o) (bc_ar (K (40 * y + i)) (Vr (6 * y + tt)) (Vr (6 * y + zz))))))] H := hP
      have hD : va_D A [(m0, .inr (5, [.int fa, .ref r1, .ref r2, .ref r3, .ref r4, .ref r5, .int rw, .ref r6, .ref r7, .ref r8, .int gw, .ref r9, .ref r10, .ref r11, .ref r12, .ref r13, .ref r14, .ref r15, .ref r16])), (r1, .inl (cI, 80, .inl K)), (r2, .inl (cI, 80, .inl O)), (r3, .inl (cI, 80, .inl T)), (r4, .inl (cI, 80, .inl Z)), (r5, .inl (cI, 2, .inl Sz)), (r14, .inl (cI, 2, .inl (upd Pl y (bc_pl nn (i + 1))))), (r15, .inl (cI, 2, .inl Sp)), (r16, .inl (cI, 12, .inl (upd Vr ((6 * y) + o) (bc_ar (K (40 * y + i)) (Vr (6 * y + tt)) (Vr (6 * y + zz))))))] := hD
      refine lv_aload_n hx hb de_M_step_241 rfl (lv_at hl 3 rfl) ?_
      refine va_get (D := (dC, dI)) (ci := 5) (v := .ref r15) (C := rc_M) (T := fc_M) (N := 19) hx hb htw wi_M hown hK hP 0 rfl rfl 17 (by decide) (htw _ wm_440) (fun _ h9 => h9) rfl de_M_step_242 ?_
      refine lv_iload_n hx hb de_M_step_245 rfl (lv_at hl 4 rfl) ?_
      refine lv_dup2_11 hx hb de_M_step_246 rfl rfl ?_
      refine bc_ild (j := y) hx hb hK hP 7 0 rfl rfl (by omega) (by decide) de_M_step_247 ?_
      refine lv_iconst (v := 1) hx hb de_M_step_248 (by decide) ?_
      refine lv_iadd hx hb de_M_step_249 ?_
      refine bc_ist (j := y) hx hb hK hP hD hS 7 0 rfl rfl (by omega) (by decide) de_M_step_250 (fun H locs hP hD hS => ?_)
      have hP : va_P (dC, dI) classes [(m0, .inr (5, [.int fa, .ref r1, .ref r2, .ref r3, .ref r4, .ref r5, .int rw, .ref r6, .ref r7, .ref r8, .int gw, .ref r9, .ref r10, .ref r11, .ref r12, .ref r13, .ref r14, .ref r15, .ref r16])), (r1, .inl (cI, 80, .inl K)), (r2, .inl (cI, 80, .inl O)), (r3, .inl (cI, 80, .inl T)), (r4, .inl (cI, 80, .inl Z)), (r5, .inl (cI, 2, .inl Sz)), (r14, .inl (cI, 2, .inl (upd Pl y (bc_pl nn (i + 1))))), (r15, .inl (cI, 2, .inl (upd Sp y ((Sp y) + 1)))), (r16, .inl (cI, 12, .inl (upd Vr ((6 * y) + o) (bc_ar (K (40 * y + i)) (Vr (6 * y + tt)) (Vr (6 * y + zz))))))] H := hP
      have hD : va_D A [(m0, .inr (5, [.int fa, .ref r1, .ref r2, .ref r3, .ref r4, .ref r5, .int rw, .ref r6, .ref r7, .ref r8, .int gw, .ref r9, .ref r10, .ref r11, .ref r12, .ref r13, .ref r14, .ref r15, .ref r16])), (r1, .inl (cI, 80, .inl K)), (r2, .inl (cI, 80, .inl O)), (r3, .inl (cI, 80, .inl T)), (r4, .inl (cI, 80, .inl Z)), (r5, .inl (cI, 2, .inl Sz)), (r14, .inl (cI, 2, .inl (upd Pl y (bc_pl nn (i + 1))))), (r15, .inl (cI, 2, .inl (upd Sp y ((Sp y) + 1)))), (r16, .inl (cI, 12, .inl (upd Vr ((6 * y) + o) (bc_ar (K (40 * y + i)) (Vr (6 * y + tt)) (Vr (6 * y + zz))))))] := hD
      have hst := bc_st_a (K := (fun j => K (40 * y + j))) (O := (fun j => O (40 * y + j))) (T := (fun j => T (40 * y + j))) (Z := (fun j => Z (40 * y + j))) (X := (fun v => Vr (6 * y + v))) (i := i) (nn := nn) (fun z => absurd (hs_40_3.symm.trans z) (by decide)) (fun z => absurd (hs_40_3.symm.trans z) (by decide)) (fun z => absurd (hs_40_3.symm.trans z) (by decide)) eO ho (bc_as_2 (K := (fun j => K (40 * y + j))) (T := (fun j => T (40 * y + j))) (Z := (fun j => Z (40 * y + j))) (X := (fun v => Vr (6 * y + v))) (i := i) hs_40_0 hs_40_1 eT htt eZ hzz)
      exact bc_vret F hr hlocks ((upd Pl y (bc_pl nn (i + 1)), upd Sp y ((Sp y) + 1), upd Vr ((6 * y) + o) (bc_ar (K (40 * y + i)) (Vr (6 * y + tt)) (Vr (6 * y + zz))))) ⟨by rw [hst], rfl, by rw [hst]; exact bc_vs_up ho⟩ hP hD hS de_M_step_251
  by_cases hs_40_4 : K ((40 * y) + i) = 4
  · refine bc_ti hs_40_4 ?_
    refine lv_tableIn (off := 131) (tgt := 171) hx hb de_M_step_40 (by decide) (by decide) rfl (by decide) ?_
    have h4 : K (40 * y + i) ≤ 4 := by rw [hs_40_4]; decide
    obtain ⟨tt, htt, eT⟩ := bc_wi_t hw h4 hs_40_0
    obtain ⟨zz, hzz, eZ⟩ := bc_wi_z hw h4 hs_40_0 hs_40_1
    refine lv_aload_n hx hb de_M_step_171 rfl (lv_at hl 3 rfl) ?_
    refine va_get (D := (dC, dI)) (ci := 5) (v := .ref r16) (C := rc_M) (T := fc_M) (N := 19) hx hb htw wi_M hown hK hP 0 rfl rfl 18 (by decide) (htw _ wm_441) (fun _ h9 => h9) rfl de_M_step_172 ?_
    refine lv_iload_n hx hb de_M_step_175 rfl (lv_at hl 1 rfl) ?_
    refine lv_aload_n hx hb de_M_step_176 rfl (lv_at hl 3 rfl) ?_
    refine va_get (D := (dC, dI)) (ci := 5) (v := .ref r1) (C := rc_M) (T := fc_M) (N := 19) hx hb htw wi_M hown hK hP 0 rfl rfl 1 (by decide) (htw _ wm_424) (fun _ h9 => h9) rfl de_M_step_177 ?_
    refine lv_iload_n hx hb de_M_step_180 rfl (lv_at hl 2 rfl) ?_
    refine bc_ild (j := (40 * y) + i) hx hb hK hP 1 0 rfl rfl (by omega) (by decide) de_M_step_181 ?_
    refine lv_aload_n hx hb de_M_step_182 rfl (lv_at hl 3 rfl) ?_
    refine va_get (D := (dC, dI)) (ci := 5) (v := .ref r16) (C := rc_M) (T := fc_M) (N := 19) hx hb htw wi_M hown hK hP 0 rfl rfl 18 (by decide) (htw _ wm_441) (fun _ h9 => h9) rfl de_M_step_183 ?_
    refine lv_bipush (v := 6) hx hb de_M_step_186 (by decide) ?_
    refine lv_iload_n hx hb de_M_step_188 rfl (lv_at hl 4 rfl) ?_
    refine lv_imul hx hb de_M_step_189 ?_
    refine bc_ti (y := nI (6 * y)) (pk_mul 6 y) ?_
    refine lv_aload_n hx hb de_M_step_190 rfl (lv_at hl 3 rfl) ?_
    refine va_get (D := (dC, dI)) (ci := 5) (v := .ref r3) (C := rc_M) (T := fc_M) (N := 19) hx hb htw wi_M hown hK hP 0 rfl rfl 3 (by decide) (htw _ wm_426) (fun _ h9 => h9) rfl de_M_step_191 ?_
    refine lv_iload_n hx hb de_M_step_194 rfl (lv_at hl 2 rfl) ?_
    refine bc_ild (j := (40 * y) + i) hx hb hK hP 3 0 rfl rfl (by omega) (by decide) de_M_step_195 ?_
    refine bc_ti (y := nI tt) eT ?_
    refine lv_iadd hx hb de_M_step_196 ?_
    refine bc_ti (y := nI ((6 * y) + tt)) (nI_add (6 * y) tt) ?_
    refine bc_ild (j := (6 * y) + tt) hx hb hK hP 8 0 rfl rfl (by omega) (by decide) de_M_step_197 ?_
    refine lv_aload_n hx hb de_M_step_198 rfl (lv_at hl 3 rfl) ?_
    refine va_get (D := (dC, dI)) (ci := 5) (v := .ref r16) (C := rc_M) (T := fc_M) (N := 19) hx hb htw wi_M hown hK hP 0 rfl rfl 18 (by decide) (htw _ wm_441) (fun _ h9 => h9) rfl de_M_step_199 ?_
    refine lv_bipush (v := 6) hx hb de_M_step_202 (by decide) ?_
    refine lv_iload_n hx hb de_M_step_204 rfl (lv_at hl 4 rfl) ?_
    refine lv_imul hx hb de_M_step_205 ?_
    refine bc_ti (y := nI (6 * y)) (pk_mul 6 y) ?_
    refine lv_aload_n hx hb de_M_step_206 rfl (lv_at hl 3 rfl) ?_
    refine va_get (D := (dC, dI)) (ci := 5) (v := .ref r4) (C := rc_M) (T := fc_M) (N := 19) hx hb htw wi_M hown hK hP 0 rfl rfl 4 (by decide) (htw _ wm_427) (fun _ h9 => h9) rfl de_M_step_207 ?_
    refine lv_iload_n hx hb de_M_step_210 rfl (lv_at hl 2 rfl) ?_
    refine bc_ild (j := (40 * y) + i) hx hb hK hP 4 0 rfl rfl (by omega) (by decide) de_M_step_211 ?_
    refine bc_ti (y := nI zz) eZ ?_
    refine lv_iadd hx hb de_M_step_212 ?_
    refine bc_ti (y := nI ((6 * y) + zz)) (nI_add (6 * y) zz) ?_
    refine bc_ild (j := (6 * y) + zz) hx hb hK hP 8 0 rfl rfl (by omega) (by decide) de_M_step_213 ?_
    refine bc_call_s_i (As := [.int (K ((40 * y) + i)), .int (Vr ((6 * y) + tt)), .int (Vr ((6 * y) + zz))]) (rest := [.int (nI ((6 * y) + o)), .ref r16]) (wr := [(m0, .inr (5, [.int fa, .ref r1, .ref r2, .ref r3, .ref r4, .ref r5, .int rw, .ref r6, .ref r7, .ref r8, .int gw, .ref r9, .ref r10, .ref r11, .ref r12, .ref r13, .ref r14, .ref r15, .ref r16])), (r1, .inl (cI, 80, .inl K)), (r2, .inl (cI, 80, .inl O)), (r3, .inl (cI, 80, .inl T)), (r4, .inl (cI, 80, .inl Z)), (r5, .inl (cI, 2, .inl Sz)), (r14, .inl (cI, 2, .inl Pl)), (r15, .inl (cI, 2, .inl Sp)), (r16, .inl (cI, 12, .inl Vr))]) F (co_M_reckon) wm_517 wm_6 wm_515 wm_516 pd_M_reckon rfl rfl ⟨Nat.le_of_ble_eq_true rfl, Nat.le_of_ble_eq_true rfl⟩ hP hD hS hA [] [0, 1, 2, 3, 4, 5, 6, 7, 8] rfl rfl rfl rfl (by decide) rfl hl.1 rfl (Nat.le_of_ble_eq_true rfl) de_M_step_214 ⟨Nat.le_of_ble_eq_true rfl, Nat.le_of_ble_eq_true rfl⟩ (fun r_214 u_214 H locs hw_214 hP hD hS => ?_)
    have hP : va_P (dC, dI) classes [(m0, .inr (5, [.int fa, .ref r1, .ref r2, .ref r3, .ref r4, .ref r5, .int rw, .ref r6, .ref r7, .ref r8, .int gw, .ref r9, .ref r10, .ref r11, .ref r12, .ref r13, .ref r14, .ref r15, .ref r16])), (r1, .inl (cI, 80, .inl K)), (r2, .inl (cI, 80, .inl O)), (r3, .inl (cI, 80, .inl T)), (r4, .inl (cI, 80, .inl Z)), (r5, .inl (cI, 2, .inl Sz)), (r14, .inl (cI, 2, .inl Pl)), (r15, .inl (cI, 2, .inl Sp)), (r16, .inl (cI, 12, .inl Vr))] H := hP.sub [0, 1, 2, 3, 4, 5, 6, 7, 8] rfl
    have hD : va_D A [(m0, .inr (5, [.int fa, .ref r1, .ref r2, .ref r3, .ref r4, .ref r5, .int rw, .ref r6, .ref r7, .ref r8, .int gw, .ref r9, .ref r10, .ref r11, .ref r12, .ref r13, .ref r14, .ref r15, .ref r16])), (r1, .inl (cI, 80, .inl K)), (r2, .inl (cI, 80, .inl O)), (r3, .inl (cI, 80, .inl T)), (r4, .inl (cI, 80, .inl Z)), (r5, .inl (cI, 2, .inl Sz)), (r14, .inl (cI, 2, .inl Pl)), (r15, .inl (cI, 2, .inl Sp)), (r16, .inl (cI, 12, .inl Vr))] := hD.sub [0, 1, 2, 3, 4, 5, 6, 7, 8] (by decide) rfl
    subst hw_214
    refine bc_ist (j := (6 * y) + o) hx hb hK hP hD hS 8 0 rfl rfl (by omega) (by decide) de_M_step_217 (fun H locs hP hD hS => ?_)
    have hP : va_P (dC, dI) classes [(m0, .inr (5, [.int fa, .ref r1, .ref r2, .ref r3, .ref r4, .ref r5, .int rw, .ref r6, .ref r7, .ref r8, .int gw, .ref r9, .ref r10, .ref r11, .ref r12, .ref r13, .ref r14, .ref r15, .ref r16])), (r1, .inl (cI, 80, .inl K)), (r2, .inl (cI, 80, .inl O)), (r3, .inl (cI, 80, .inl T)), (r4, .inl (cI, 80, .inl Z)), (r5, .inl (cI, 2, .inl Sz)), (r14, .inl (cI, 2, .inl Pl)), (r15, .inl (cI, 2, .inl Sp)), (r16, .inl (cI, 12, .inl (upd Vr ((6 * y) + o) (bc_ar (K (40 * y + i)) (Vr (6 * y + tt)) (Vr (6 * y + zz))))))] H := hP
    have hD : va_D A [(m0, .inr (5, [.int fa, .ref r1, .ref r2, .ref r3, .ref r4, .ref r5, .int rw, .ref r6, .ref r7, .ref r8, .int gw, .ref r9, .ref r10, .ref r11, .ref r12, .ref r13, .ref r14, .ref r15, .ref r16])), (r1, .inl (cI, 80, .inl K)), (r2, .inl (cI, 80, .inl O)), (r3, .inl (cI, 80, .inl T)), (r4, .inl (cI, 80, .inl Z)), (r5, .inl (cI, 2, .inl Sz)), (r14, .inl (cI, 2, .inl Pl)), (r15, .inl (cI, 2, .inl Sp)), (r16, .inl (cI, 12, .inl (upd Vr ((6 * y) + o) (bc_ar (K (40 * y + i)) (Vr (6 * y + tt)) (Vr (6 * y + zz))))))] := hD
    refine lv_aload_n hx hb de_M_step_218 rfl (lv_at hl 3 rfl) ?_
    refine va_get (D := (dC, dI)) (ci := 5) (v := .ref r14) (C := rc_M) (T := fc_M) (N := 19) hx hb htw wi_M hown hK hP 0 rfl rfl 16 (by decide) (htw _ wm_439) (fun _ h9 => h9) rfl de_M_step_219 ?_
    refine lv_iload_n hx hb de_M_step_222 rfl (lv_at hl 4 rfl) ?_
    refine lv_iload hx hb de_M_step_223 (lv_at hl 0 rfl) ?_
    refine lv_aload_n hx hb de_M_step_225 rfl (lv_at hl 3 rfl) ?_
    refine va_get (D := (dC, dI)) (ci := 5) (v := .ref r5) (C := rc_M) (T := fc_M) (N := 19) hx hb htw wi_M hown hK hP 0 rfl rfl 5 (by decide) (htw _ wm_428) (fun _ h9 => h9) rfl de_M_step_226 ?_
    refine lv_iload_n hx hb de_M_step_229 rfl (lv_at hl 4 rfl) ?_
    refine bc_ild (j := y) hx hb hK hP 5 0 rfl rfl (by omega) (by decide) de_M_step_230 ?_
    refine bc_ti (y := nI nn) hSy ?_
    refine lv_icmp_ge (tgt := 239) hx hb de_M_step_231 (by decide) (fun hc_231 => ?_) (fun hc_231 => ?_)
    · refine lv_iconst (v := (-1)) hx hb de_M_step_239 (by decide) ?_
      refine bc_ti (y := bc_pl nn (i + 1)) (bc_pl_ge (by omega) (by omega) hc_231) ?_
      refine bc_ist (j := y) hx hb hK hP hD hS 6 0 rfl rfl (by omega) (by decide) de_M_step_240 (fun H locs hP hD hS => ?_)
      have hP : va_P (dC, dI) classes [(m0, .inr (5, [.int fa, .ref r1, .ref r2, .ref r3, .ref r4, .ref r5, .int rw, .ref r6, .ref r7, .ref r8, .int gw, .ref r9, .ref r10, .ref r11, .ref r12, .ref r13, .ref r14, .ref r15, .ref r16])), (r1, .inl (cI, 80, .inl K)), (r2, .inl (cI, 80, .inl O)), (r3, .inl (cI, 80, .inl T)), (r4, .inl (cI, 80, .inl Z)), (r5, .inl (cI, 2, .inl Sz)), (r14, .inl (cI, 2, .inl (upd Pl y (bc_pl nn (i + 1))))), (r15, .inl (cI, 2, .inl Sp)), (r16, .inl (cI, 12, .inl (upd Vr ((6 * y) + o) (bc_ar (K (40 * y + i)) (Vr (6 * y + tt)) (Vr (6 * y + zz))))))] H := hP
      have hD : va_D A [(m0, .inr (5, [.int fa, .ref r1, .ref r2, .ref r3, .ref r4, .ref r5, .int rw, .ref r6, .ref r7, .ref r8, .int gw, .ref r9, .ref r10, .ref r11, .ref r12, .ref r13, .ref r14, .ref r15, .ref r16])), (r1, .inl (cI, 80, .inl K)), (r2, .inl (cI, 80, .inl O)), (r3, .inl (cI, 80, .inl T)), (r4, .inl (cI, 80, .inl Z)), (r5, .inl (cI, 2, .inl Sz)), (r14, .inl (cI, 2, .inl (upd Pl y (bc_pl nn (i + 1))))), (r15, .inl (cI, 2, .inl Sp)), (r16, .inl (cI, 12, .inl (upd Vr ((6 * y) + o) (bc_ar (K (40 * y + i)) (Vr (6 * y + tt)) (Vr (6 * y + zz))))))] := hD
      refine lv_aload_n hx hb de_M_step_241 rfl (lv_at hl 3 rfl) ?_
      refine va_get (D := (dC, dI)) (ci := 5) (v := .ref r15) (C := rc_M) (T := fc_M) (N := 19) hx hb htw wi_M hown hK hP 0 rfl rfl 17 (by decide) (htw _ wm_440) (fun _ h9 => h9) rfl de_M_step_242 ?_
      refine lv_iload_n hx hb de_M_step_245 rfl (lv_at hl 4 rfl) ?_
      refine lv_dup2_11 hx hb de_M_step_246 rfl rfl ?_
      refine bc_ild (j := y) hx hb hK hP 7 0 rfl rfl (by omega) (by decide) de_M_step_247 ?_
      refine lv_iconst (v := 1) hx hb de_M_step_248 (by decide) ?_
      refine lv_iadd hx hb de_M_step_249 ?_
      refine bc_ist (j := y) hx hb hK hP hD hS 7 0 rfl rfl (by omega) (by decide) de_M_step_250 (fun H locs hP hD hS => ?_)
      have hP : va_P (dC, dI) classes [(m0, .inr (5, [.int fa, .ref r1, .ref r2, .ref r3, .ref r4, .ref r5, .int rw, .ref r6, .ref r7, .ref r8, .int gw, .ref r9, .ref r10, .ref r11, .ref r12, .ref r13, .ref r14, .ref r15, .ref r16])), (r1, .inl (cI, 80, .inl K)), (r2, .inl (cI, 80, .inl O)), (r3, .inl (cI, 80, .inl T)), (r4, .inl (cI, 80, .inl Z)), (r5, .inl (cI, 2, .inl Sz)), (r14, .inl (cI, 2, .inl (upd Pl y (bc_pl nn (i + 1))))), (r15, .inl (cI, 2, .inl (upd Sp y ((Sp y) + 1)))), (r16, .inl (cI, 12, .inl (upd Vr ((6 * y) + o) (bc_ar (K (40 * y + i)) (Vr (6 * y + tt)) (Vr (6 * y + zz))))))] H := hP
      have hD : va_D A [(m0, .inr (5, [.int fa, .ref r1, .ref r2, .ref r3, .ref r4, .ref r5, .int rw, .ref r6, .ref r7, .ref r8, .int gw, .ref r9, .ref r10, .ref r11, .ref r12, .ref r13, .ref r14, .ref r15, .ref r16])), (r1, .inl (cI, 80, .inl K)), (r2, .inl (cI, 80, .inl O)), (r3, .inl (cI, 80, .inl T)), (r4, .inl (cI, 80, .inl Z)), (r5, .inl (cI, 2, .inl Sz)), (r14, .inl (cI, 2, .inl (upd Pl y (bc_pl nn (i + 1))))), (r15, .inl (cI, 2, .inl (upd Sp y ((Sp y) + 1)))), (r16, .inl (cI, 12, .inl (upd Vr ((6 * y) + o) (bc_ar (K (40 * y + i)) (Vr (6 * y + tt)) (Vr (6 * y + zz))))))] := hD
      have hst := bc_st_a (K := (fun j => K (40 * y + j))) (O := (fun j => O (40 * y + j))) (T := (fun j => T (40 * y + j))) (Z := (fun j => Z (40 * y + j))) (X := (fun v => Vr (6 * y + v))) (i := i) (nn := nn) (fun z => absurd (hs_40_4.symm.trans z) (by decide)) (fun z => absurd (hs_40_4.symm.trans z) (by decide)) (fun z => absurd (hs_40_4.symm.trans z) (by decide)) eO ho (bc_as_2 (K := (fun j => K (40 * y + j))) (T := (fun j => T (40 * y + j))) (Z := (fun j => Z (40 * y + j))) (X := (fun v => Vr (6 * y + v))) (i := i) hs_40_0 hs_40_1 eT htt eZ hzz)
      exact bc_vret F hr hlocks ((upd Pl y (bc_pl nn (i + 1)), upd Sp y ((Sp y) + 1), upd Vr ((6 * y) + o) (bc_ar (K (40 * y + i)) (Vr (6 * y + tt)) (Vr (6 * y + zz))))) ⟨by rw [hst], rfl, by rw [hst]; exact bc_vs_up ho⟩ hP hD hS de_M_step_251
    · refine lv_iload hx hb de_M_step_234 (lv_at hl 0 rfl) ?_
      refine bc_ti (y := bc_pl nn (i + 1)) (bc_pl_lt (by omega) (by omega) hc_231) ?_
      refine lv_goto (tgt := 240) hx hb de_M_step_236 (by decide) ?_
      refine bc_ist (j := y) hx hb hK hP hD hS 6 0 rfl rfl (by omega) (by decide) de_M_step_240 (fun H locs hP hD hS => ?_)
      have hP : va_P (dC, dI) classes [(m0, .inr (5, [.int fa, .ref r1, .ref r2, .ref r3, .ref r4, .ref r5, .int rw, .ref r6, .ref r7, .ref r8, .int gw, .ref r9, .ref r10, .ref r11, .ref r12, .ref r13, .ref r14, .ref r15, .ref r16])), (r1, .inl (cI, 80, .inl K)), (r2, .inl (cI, 80, .inl O)), (r3, .inl (cI, 80, .inl T)), (r4, .inl (cI, 80, .inl Z)), (r5, .inl (cI, 2, .inl Sz)), (r14, .inl (cI, 2, .inl (upd Pl y (bc_pl nn (i + 1))))), (r15, .inl (cI, 2, .inl Sp)), (r16, .inl (cI, 12, .inl (upd Vr ((6 * y) + o) (bc_ar (K (40 * y + i)) (Vr (6 * y + tt)) (Vr (6 * y + zz))))))] H := hP
      have hD : va_D A [(m0, .inr (5, [.int fa, .ref r1, .ref r2, .ref r3, .ref r4, .ref r5, .int rw, .ref r6, .ref r7, .ref r8, .int gw, .ref r9, .ref r10, .ref r11, .ref r12, .ref r13, .ref r14, .ref r15, .ref r16])), (r1, .inl (cI, 80, .inl K)), (r2, .inl (cI, 80, .inl O)), (r3, .inl (cI, 80, .inl T)), (r4, .inl (cI, 80, .inl Z)), (r5, .inl (cI, 2, .inl Sz)), (r14, .inl (cI, 2, .inl (upd Pl y (bc_pl nn (i + 1))))), (r15, .inl (cI, 2, .inl Sp)), (r16, .inl (cI, 12, .inl (upd Vr ((6 * y) + o) (bc_ar (K (40 * y + i)) (Vr (6 * y + tt)) (Vr (6 * y + zz))))))] := hD
      refine lv_aload_n hx hb de_M_step_241 rfl (lv_at hl 3 rfl) ?_
      refine va_get (D := (dC, dI)) (ci := 5) (v := .ref r15) (C := rc_M) (T := fc_M) (N := 19) hx hb htw wi_M hown hK hP 0 rfl rfl 17 (by decide) (htw _ wm_440) (fun _ h9 => h9) rfl de_M_step_242 ?_
      refine lv_iload_n hx hb de_M_step_245 rfl (lv_at hl 4 rfl) ?_
      refine lv_dup2_11 hx hb de_M_step_246 rfl rfl ?_
      refine bc_ild (j := y) hx hb hK hP 7 0 rfl rfl (by omega) (by decide) de_M_step_247 ?_
      refine lv_iconst (v := 1) hx hb de_M_step_248 (by decide) ?_
      refine lv_iadd hx hb de_M_step_249 ?_
      refine bc_ist (j := y) hx hb hK hP hD hS 7 0 rfl rfl (by omega) (by decide) de_M_step_250 (fun H locs hP hD hS => ?_)
      have hP : va_P (dC, dI) classes [(m0, .inr (5, [.int fa, .ref r1, .ref r2, .ref r3, .ref r4, .ref r5, .int rw, .ref r6, .ref r7, .ref r8, .int gw, .ref r9, .ref r10, .ref r11, .ref r12, .ref r13, .ref r14, .ref r15, .ref r16])), (r1, .inl (cI, 80, .inl K)), (r2, .inl (cI, 80, .inl O)), (r3, .inl (cI, 80, .inl T)), (r4, .inl (cI, 80, .inl Z)), (r5, .inl (cI, 2, .inl Sz)), (r14, .inl (cI, 2, .inl (upd Pl y (bc_pl nn (i + 1))))), (r15, .inl (cI, 2, .inl (upd Sp y ((Sp y) + 1)))), (r16, .inl (cI, 12, .inl (upd Vr ((6 * y) + o) (bc_ar (K (40 * y + i)) (Vr (6 * y + tt)) (Vr (6 * y + zz))))))] H := hP
      have hD : va_D A [(m0, .inr (5, [.int fa, .ref r1, .ref r2, .ref r3, .ref r4, .ref r5, .int rw, .ref r6, .ref r7, .ref r8, .int gw, .ref r9, .ref r10, .ref r11, .ref r12, .ref r13, .ref r14, .ref r15, .ref r16])), (r1, .inl (cI, 80, .inl K)), (r2, .inl (cI, 80, .inl O)), (r3, .inl (cI, 80, .inl T)), (r4, .inl (cI, 80, .inl Z)), (r5, .inl (cI, 2, .inl Sz)), (r14, .inl (cI, 2, .inl (upd Pl y (bc_pl nn (i + 1))))), (r15, .inl (cI, 2, .inl (upd Sp y ((Sp y) + 1)))), (r16, .inl (cI, 12, .inl (upd Vr ((6 * y) + o) (bc_ar (K (40 * y + i)) (Vr (6 * y + tt)) (Vr (6 * y + zz))))))] := hD
      have hst := bc_st_a (K := (fun j => K (40 * y + j))) (O := (fun j => O (40 * y + j))) (T := (fun j => T (40 * y + j))) (Z := (fun j => Z (40 * y + j))) (X := (fun v => Vr (6 * y + v))) (i := i) (nn := nn) (fun z => absurd (hs_40_4.symm.trans z) (by decide)) (fun z => absurd (hs_40_4.symm.trans z) (by decide)) (fun z => absurd (hs_40_4.symm.trans z) (by decide)) eO ho (bc_as_2 (K := (fun j => K (40 * y + j))) (T := (fun j => T (40 * y + j))) (Z := (fun j => Z (40 * y + j))) (X := (fun v => Vr (6 * y + v))) (i := i) hs_40_0 hs_40_1 eT htt eZ hzz)
      exact bc_vret F hr hlocks ((upd Pl y (bc_pl nn (i + 1)), upd Sp y ((Sp y) + 1), upd Vr ((6 * y) + o) (bc_ar (K (40 * y + i)) (Vr (6 * y + tt)) (Vr (6 * y + zz))))) ⟨by rw [hst], rfl, by rw [hst]; exact bc_vs_up ho⟩ hP hD hS de_M_step_251
  by_cases hs_40_5 : K ((40 * y) + i) = 5
  · refine bc_ti hs_40_5 ?_
    refine lv_tableIn (off := 88) (tgt := 128) hx hb de_M_step_40 (by decide) (by decide) rfl (by decide) ?_
    obtain ⟨_, t5, ht5, eT5⟩ := bc_wi_5 hw hs_40_5
    refine lv_aload_n hx hb de_M_step_128 rfl (lv_at hl 3 rfl) ?_
    refine va_get (D := (dC, dI)) (ci := 5) (v := .ref r16) (C := rc_M) (T := fc_M) (N := 19) hx hb htw wi_M hown hK hP 0 rfl rfl 18 (by decide) (htw _ wm_441) (fun _ h9 => h9) rfl de_M_step_129 ?_
    refine lv_iload_n hx hb de_M_step_132 rfl (lv_at hl 1 rfl) ?_
    refine bc_ild (j := (6 * y) + o) hx hb hK hP 8 0 rfl rfl (by omega) (by decide) de_M_step_133 ?_
    refine lv_if_ne (tgt := 146) hx hb de_M_step_134 (by decide) (fun hc_134 => ?_) (fun hc_134 => ?_)
    · refine lv_iload hx hb de_M_step_146 (lv_at hl 0 rfl) ?_
      refine lv_istore (lv' := [(4, .int (nI (i + 1))), (3, .int (nI ((6 * y) + o))), (2, .int (nI ((40 * y) + i))), (0, .ref m0), (1, .int (nI y))]) hx hb de_M_step_148 hl (by decide) rfl (fun ls hl => ?_)
      refine lv_goto (tgt := 218) hx hb de_M_step_150 (by decide) ?_
      refine lv_aload_n hx hb de_M_step_218 rfl (lv_at hl 3 rfl) ?_
      refine va_get (D := (dC, dI)) (ci := 5) (v := .ref r14) (C := rc_M) (T := fc_M) (N := 19) hx hb htw wi_M hown hK hP 0 rfl rfl 16 (by decide) (htw _ wm_439) (fun _ h9 => h9) rfl de_M_step_219 ?_
      refine lv_iload_n hx hb de_M_step_222 rfl (lv_at hl 4 rfl) ?_
      refine lv_iload hx hb de_M_step_223 (lv_at hl 0 rfl) ?_
      refine lv_aload_n hx hb de_M_step_225 rfl (lv_at hl 3 rfl) ?_
      refine va_get (D := (dC, dI)) (ci := 5) (v := .ref r5) (C := rc_M) (T := fc_M) (N := 19) hx hb htw wi_M hown hK hP 0 rfl rfl 5 (by decide) (htw _ wm_428) (fun _ h9 => h9) rfl de_M_step_226 ?_
      refine lv_iload_n hx hb de_M_step_229 rfl (lv_at hl 4 rfl) ?_
      refine bc_ild (j := y) hx hb hK hP 5 0 rfl rfl (by omega) (by decide) de_M_step_230 ?_
      refine bc_ti (y := nI nn) hSy ?_
      refine lv_icmp_ge (tgt := 239) hx hb de_M_step_231 (by decide) (fun hc_231 => ?_) (fun hc_231 => ?_)
      · refine lv_iconst (v := (-1)) hx hb de_M_step_239 (by decide) ?_
        refine bc_ti (y := bc_pl nn (i + 1)) (bc_pl_ge (by omega) (by omega) hc_231) ?_
        refine bc_ist (j := y) hx hb hK hP hD hS 6 0 rfl rfl (by omega) (by decide) de_M_step_240 (fun H locs hP hD hS => ?_)
        have hP : va_P (dC, dI) classes [(m0, .inr (5, [.int fa, .ref r1, .ref r2, .ref r3, .ref r4, .ref r5, .int rw, .ref r6, .ref r7, .ref r8, .int gw, .ref r9, .ref r10, .ref r11, .ref r12, .ref r13, .ref r14, .ref r15, .ref r16])), (r1, .inl (cI, 80, .inl K)), (r2, .inl (cI, 80, .inl O)), (r3, .inl (cI, 80, .inl T)), (r4, .inl (cI, 80, .inl Z)), (r5, .inl (cI, 2, .inl Sz)), (r14, .inl (cI, 2, .inl (upd Pl y (bc_pl nn (i + 1))))), (r15, .inl (cI, 2, .inl Sp)), (r16, .inl (cI, 12, .inl Vr))] H := hP
        have hD : va_D A [(m0, .inr (5, [.int fa, .ref r1, .ref r2, .ref r3, .ref r4, .ref r5, .int rw, .ref r6, .ref r7, .ref r8, .int gw, .ref r9, .ref r10, .ref r11, .ref r12, .ref r13, .ref r14, .ref r15, .ref r16])), (r1, .inl (cI, 80, .inl K)), (r2, .inl (cI, 80, .inl O)), (r3, .inl (cI, 80, .inl T)), (r4, .inl (cI, 80, .inl Z)), (r5, .inl (cI, 2, .inl Sz)), (r14, .inl (cI, 2, .inl (upd Pl y (bc_pl nn (i + 1))))), (r15, .inl (cI, 2, .inl Sp)), (r16, .inl (cI, 12, .inl Vr))] := hD
        refine lv_aload_n hx hb de_M_step_241 rfl (lv_at hl 3 rfl) ?_
        refine va_get (D := (dC, dI)) (ci := 5) (v := .ref r15) (C := rc_M) (T := fc_M) (N := 19) hx hb htw wi_M hown hK hP 0 rfl rfl 17 (by decide) (htw _ wm_440) (fun _ h9 => h9) rfl de_M_step_242 ?_
        refine lv_iload_n hx hb de_M_step_245 rfl (lv_at hl 4 rfl) ?_
        refine lv_dup2_11 hx hb de_M_step_246 rfl rfl ?_
        refine bc_ild (j := y) hx hb hK hP 7 0 rfl rfl (by omega) (by decide) de_M_step_247 ?_
        refine lv_iconst (v := 1) hx hb de_M_step_248 (by decide) ?_
        refine lv_iadd hx hb de_M_step_249 ?_
        refine bc_ist (j := y) hx hb hK hP hD hS 7 0 rfl rfl (by omega) (by decide) de_M_step_250 (fun H locs hP hD hS => ?_)
        have hP : va_P (dC, dI) classes [(m0, .inr (5, [.int fa, .ref r1, .ref r2, .ref r3, .ref r4, .ref r5, .int rw, .ref r6, .ref r7, .ref r8, .int gw, .ref r9, .ref r10, .ref r11, .ref r12, .ref r13, .ref r14, .ref r15, .ref r16])), (r1, .inl (cI, 80, .inl K)), (r2, .inl (cI, 80, .inl O)), (r3, .inl (cI, 80, .inl T)), (r4, .inl (cI, 80, .inl Z)), (r5, .inl (cI, 2, .inl Sz)), (r14, .inl (cI, 2, .inl (upd Pl y (bc_pl nn (i + 1))))), (r15, .inl (cI, 2, .inl (upd Sp y ((Sp y) + 1)))), (r16, .inl (cI, 12, .inl Vr))] H := hP
        have hD : va_D A [(m0, .inr (5, [.int fa, .ref r1, .ref r2, .ref r3, .ref r4, .ref r5, .int rw, .ref r6, .ref r7, .ref r8, .int gw, .ref r9, .ref r10, .ref r11, .ref r12, .ref r13, .ref r14, .ref r15, .ref r16])), (r1, .inl (cI, 80, .inl K)), (r2, .inl (cI, 80, .inl O)), (r3, .inl (cI, 80, .inl T)), (r4, .inl (cI, 80, .inl Z)), (r5, .inl (cI, 2, .inl Sz)), (r14, .inl (cI, 2, .inl (upd Pl y (bc_pl nn (i + 1))))), (r15, .inl (cI, 2, .inl (upd Sp y ((Sp y) + 1)))), (r16, .inl (cI, 12, .inl Vr))] := hD
        have hst := bc_st_5n (n := nn) (K := (fun j => K (40 * y + j))) (O := (fun j => O (40 * y + j))) (T := (fun j => T (40 * y + j))) (Z := (fun j => Z (40 * y + j))) (X := (fun v => Vr (6 * y + v))) (i := i) hs_40_5 eO ho hc_134
        exact bc_vret F hr hlocks ((upd Pl y (bc_pl nn (i + 1)), upd Sp y ((Sp y) + 1), Vr)) ⟨by rw [hst], rfl, by rw [hst]; exact bc_vs_id y Vr⟩ hP hD hS de_M_step_251
      · refine lv_iload hx hb de_M_step_234 (lv_at hl 0 rfl) ?_
        refine bc_ti (y := bc_pl nn (i + 1)) (bc_pl_lt (by omega) (by omega) hc_231) ?_
        refine lv_goto (tgt := 240) hx hb de_M_step_236 (by decide) ?_
        refine bc_ist (j := y) hx hb hK hP hD hS 6 0 rfl rfl (by omega) (by decide) de_M_step_240 (fun H locs hP hD hS => ?_)
        have hP : va_P (dC, dI) classes [(m0, .inr (5, [.int fa, .ref r1, .ref r2, .ref r3, .ref r4, .ref r5, .int rw, .ref r6, .ref r7, .ref r8, .int gw, .ref r9, .ref r10, .ref r11, .ref r12, .ref r13, .ref r14, .ref r15, .ref r16])), (r1, .inl (cI, 80, .inl K)), (r2, .inl (cI, 80, .inl O)), (r3, .inl (cI, 80, .inl T)), (r4, .inl (cI, 80, .inl Z)), (r5, .inl (cI, 2, .inl Sz)), (r14, .inl (cI, 2, .inl (upd Pl y (bc_pl nn (i + 1))))), (r15, .inl (cI, 2, .inl Sp)), (r16, .inl (cI, 12, .inl Vr))] H := hP
        have hD : va_D A [(m0, .inr (5, [.int fa, .ref r1, .ref r2, .ref r3, .ref r4, .ref r5, .int rw, .ref r6, .ref r7, .ref r8, .int gw, .ref r9, .ref r10, .ref r11, .ref r12, .ref r13, .ref r14, .ref r15, .ref r16])), (r1, .inl (cI, 80, .inl K)), (r2, .inl (cI, 80, .inl O)), (r3, .inl (cI, 80, .inl T)), (r4, .inl (cI, 80, .inl Z)), (r5, .inl (cI, 2, .inl Sz)), (r14, .inl (cI, 2, .inl (upd Pl y (bc_pl nn (i + 1))))), (r15, .inl (cI, 2, .inl Sp)), (r16, .inl (cI, 12, .inl Vr))] := hD
        refine lv_aload_n hx hb de_M_step_241 rfl (lv_at hl 3 rfl) ?_
        refine va_get (D := (dC, dI)) (ci := 5) (v := .ref r15) (C := rc_M) (T := fc_M) (N := 19) hx hb htw wi_M hown hK hP 0 rfl rfl 17 (by decide) (htw _ wm_440) (fun _ h9 => h9) rfl de_M_step_242 ?_
        refine lv_iload_n hx hb de_M_step_245 rfl (lv_at hl 4 rfl) ?_
        refine lv_dup2_11 hx hb de_M_step_246 rfl rfl ?_
        refine bc_ild (j := y) hx hb hK hP 7 0 rfl rfl (by omega) (by decide) de_M_step_247 ?_
        refine lv_iconst (v := 1) hx hb de_M_step_248 (by decide) ?_
        refine lv_iadd hx hb de_M_step_249 ?_
        refine bc_ist (j := y) hx hb hK hP hD hS 7 0 rfl rfl (by omega) (by decide) de_M_step_250 (fun H locs hP hD hS => ?_)
        have hP : va_P (dC, dI) classes [(m0, .inr (5, [.int fa, .ref r1, .ref r2, .ref r3, .ref r4, .ref r5, .int rw, .ref r6, .ref r7, .ref r8, .int gw, .ref r9, .ref r10, .ref r11, .ref r12, .ref r13, .ref r14, .ref r15, .ref r16])), (r1, .inl (cI, 80, .inl K)), (r2, .inl (cI, 80, .inl O)), (r3, .inl (cI, 80, .inl T)), (r4, .inl (cI, 80, .inl Z)), (r5, .inl (cI, 2, .inl Sz)), (r14, .inl (cI, 2, .inl (upd Pl y (bc_pl nn (i + 1))))), (r15, .inl (cI, 2, .inl (upd Sp y ((Sp y) + 1)))), (r16, .inl (cI, 12, .inl Vr))] H := hP
        have hD : va_D A [(m0, .inr (5, [.int fa, .ref r1, .ref r2, .ref r3, .ref r4, .ref r5, .int rw, .ref r6, .ref r7, .ref r8, .int gw, .ref r9, .ref r10, .ref r11, .ref r12, .ref r13, .ref r14, .ref r15, .ref r16])), (r1, .inl (cI, 80, .inl K)), (r2, .inl (cI, 80, .inl O)), (r3, .inl (cI, 80, .inl T)), (r4, .inl (cI, 80, .inl Z)), (r5, .inl (cI, 2, .inl Sz)), (r14, .inl (cI, 2, .inl (upd Pl y (bc_pl nn (i + 1))))), (r15, .inl (cI, 2, .inl (upd Sp y ((Sp y) + 1)))), (r16, .inl (cI, 12, .inl Vr))] := hD
        have hst := bc_st_5n (n := nn) (K := (fun j => K (40 * y + j))) (O := (fun j => O (40 * y + j))) (T := (fun j => T (40 * y + j))) (Z := (fun j => Z (40 * y + j))) (X := (fun v => Vr (6 * y + v))) (i := i) hs_40_5 eO ho hc_134
        exact bc_vret F hr hlocks ((upd Pl y (bc_pl nn (i + 1)), upd Sp y ((Sp y) + 1), Vr)) ⟨by rw [hst], rfl, by rw [hst]; exact bc_vs_id y Vr⟩ hP hD hS de_M_step_251
    · refine lv_aload_n hx hb de_M_step_137 rfl (lv_at hl 3 rfl) ?_
      refine va_get (D := (dC, dI)) (ci := 5) (v := .ref r3) (C := rc_M) (T := fc_M) (N := 19) hx hb htw wi_M hown hK hP 0 rfl rfl 3 (by decide) (htw _ wm_426) (fun _ h9 => h9) rfl de_M_step_138 ?_
      refine lv_iload_n hx hb de_M_step_141 rfl (lv_at hl 2 rfl) ?_
      refine bc_ild (j := (40 * y) + i) hx hb hK hP 3 0 rfl rfl (by omega) (by decide) de_M_step_142 ?_
      refine bc_ti (y := nI t5) eT5 ?_
      refine lv_goto (tgt := 148) hx hb de_M_step_143 (by decide) ?_
      refine lv_istore (lv' := [(4, .int (nI t5)), (3, .int (nI ((6 * y) + o))), (2, .int (nI ((40 * y) + i))), (0, .ref m0), (1, .int (nI y))]) hx hb de_M_step_148 hl (by decide) rfl (fun ls hl => ?_)
      refine lv_goto (tgt := 218) hx hb de_M_step_150 (by decide) ?_
      refine lv_aload_n hx hb de_M_step_218 rfl (lv_at hl 3 rfl) ?_
      refine va_get (D := (dC, dI)) (ci := 5) (v := .ref r14) (C := rc_M) (T := fc_M) (N := 19) hx hb htw wi_M hown hK hP 0 rfl rfl 16 (by decide) (htw _ wm_439) (fun _ h9 => h9) rfl de_M_step_219 ?_
      refine lv_iload_n hx hb de_M_step_222 rfl (lv_at hl 4 rfl) ?_
      refine lv_iload hx hb de_M_step_223 (lv_at hl 0 rfl) ?_
      refine lv_aload_n hx hb de_M_step_225 rfl (lv_at hl 3 rfl) ?_
      refine va_get (D := (dC, dI)) (ci := 5) (v := .ref r5) (C := rc_M) (T := fc_M) (N := 19) hx hb htw wi_M hown hK hP 0 rfl rfl 5 (by decide) (htw _ wm_428) (fun _ h9 => h9) rfl de_M_step_226 ?_
      refine lv_iload_n hx hb de_M_step_229 rfl (lv_at hl 4 rfl) ?_
      refine bc_ild (j := y) hx hb hK hP 5 0 rfl rfl (by omega) (by decide) de_M_step_230 ?_
      refine bc_ti (y := nI nn) hSy ?_
      refine lv_icmp_ge (tgt := 239) hx hb de_M_step_231 (by decide) (fun hc_231 => ?_) (fun hc_231 => ?_)
      · refine lv_iconst (v := (-1)) hx hb de_M_step_239 (by decide) ?_
        refine bc_ti (y := bc_pl nn t5) (bc_pl_ge (by omega) (by omega) hc_231) ?_
        refine bc_ist (j := y) hx hb hK hP hD hS 6 0 rfl rfl (by omega) (by decide) de_M_step_240 (fun H locs hP hD hS => ?_)
        have hP : va_P (dC, dI) classes [(m0, .inr (5, [.int fa, .ref r1, .ref r2, .ref r3, .ref r4, .ref r5, .int rw, .ref r6, .ref r7, .ref r8, .int gw, .ref r9, .ref r10, .ref r11, .ref r12, .ref r13, .ref r14, .ref r15, .ref r16])), (r1, .inl (cI, 80, .inl K)), (r2, .inl (cI, 80, .inl O)), (r3, .inl (cI, 80, .inl T)), (r4, .inl (cI, 80, .inl Z)), (r5, .inl (cI, 2, .inl Sz)), (r14, .inl (cI, 2, .inl (upd Pl y (bc_pl nn t5)))), (r15, .inl (cI, 2, .inl Sp)), (r16, .inl (cI, 12, .inl Vr))] H := hP
        have hD : va_D A [(m0, .inr (5, [.int fa, .ref r1, .ref r2, .ref r3, .ref r4, .ref r5, .int rw, .ref r6, .ref r7, .ref r8, .int gw, .ref r9, .ref r10, .ref r11, .ref r12, .ref r13, .ref r14, .ref r15, .ref r16])), (r1, .inl (cI, 80, .inl K)), (r2, .inl (cI, 80, .inl O)), (r3, .inl (cI, 80, .inl T)), (r4, .inl (cI, 80, .inl Z)), (r5, .inl (cI, 2, .inl Sz)), (r14, .inl (cI, 2, .inl (upd Pl y (bc_pl nn t5)))), (r15, .inl (cI, 2, .inl Sp)), (r16, .inl (cI, 12, .inl Vr))] := hD
        refine lv_aload_n hx hb de_M_step_241 rfl (lv_at hl 3 rfl) ?_
        refine va_get (D := (dC, dI)) (ci := 5) (v := .ref r15) (C := rc_M) (T := fc_M) (N := 19) hx hb htw wi_M hown hK hP 0 rfl rfl 17 (by decide) (htw _ wm_440) (fun _ h9 => h9) rfl de_M_step_242 ?_
        refine lv_iload_n hx hb de_M_step_245 rfl (lv_at hl 4 rfl) ?_
        refine lv_dup2_11 hx hb de_M_step_246 rfl rfl ?_
        refine bc_ild (j := y) hx hb hK hP 7 0 rfl rfl (by omega) (by decide) de_M_step_247 ?_
        refine lv_iconst (v := 1) hx hb de_M_step_248 (by decide) ?_
        refine lv_iadd hx hb de_M_step_249 ?_
        refine bc_ist (j := y) hx hb hK hP hD hS 7 0 rfl rfl (by omega) (by decide) de_M_step_250 (fun H locs hP hD hS => ?_)
        have hP : va_P (dC, dI) classes [(m0, .inr (5, [.int fa, .ref r1, .ref r2, .ref r3, .ref r4, .ref r5, .int rw, .ref r6, .ref r7, .ref r8, .int gw, .ref r9, .ref r10, .ref r11, .ref r12, .ref r13, .ref r14, .ref r15, .ref r16])), (r1, .inl (cI, 80, .inl K)), (r2, .inl (cI, 80, .inl O)), (r3, .inl (cI, 80, .inl T)), (r4, .inl (cI, 80, .inl Z)), (r5, .inl (cI, 2, .inl Sz)), (r14, .inl (cI, 2, .inl (upd Pl y (bc_pl nn t5)))), (r15, .inl (cI, 2, .inl (upd Sp y ((Sp y) + 1)))), (r16, .inl (cI, 12, .inl Vr))] H := hP
        have hD : va_D A [(m0, .inr (5, [.int fa, .ref r1, .ref r2, .ref r3, .ref r4, .ref r5, .int rw, .ref r6, .ref r7, .ref r8, .int gw, .ref r9, .ref r10, .ref r11, .ref r12, .ref r13, .ref r14, .ref r15, .ref r16])), (r1, .inl (cI, 80, .inl K)), (r2, .inl (cI, 80, .inl O)), (r3, .inl (cI, 80, .inl T)), (r4, .inl (cI, 80, .inl Z)), (r5, .inl (cI, 2, .inl Sz)), (r14, .inl (cI, 2, .inl (upd Pl y (bc_pl nn t5)))), (r15, .inl (cI, 2, .inl (upd Sp y ((Sp y) + 1)))), (r16, .inl (cI, 12, .inl Vr))] := hD
        have hst := bc_st_z (K := (fun j => K (40 * y + j))) (O := (fun j => O (40 * y + j))) (T := (fun j => T (40 * y + j))) (Z := (fun j => Z (40 * y + j))) (X := (fun v => Vr (6 * y + v))) (i := i) (nn := nn) hs_40_5 eO ho hc_134 eT5 ht5
        exact bc_vret F hr hlocks ((upd Pl y (bc_pl nn t5), upd Sp y ((Sp y) + 1), Vr)) ⟨by rw [hst], rfl, by rw [hst]; exact bc_vs_id y Vr⟩ hP hD hS de_M_step_251
      · refine lv_iload hx hb de_M_step_234 (lv_at hl 0 rfl) ?_
        refine bc_ti (y := bc_pl nn t5) (bc_pl_lt (by omega) (by omega) hc_231) ?_
        refine lv_goto (tgt := 240) hx hb de_M_step_236 (by decide) ?_
        refine bc_ist (j := y) hx hb hK hP hD hS 6 0 rfl rfl (by omega) (by decide) de_M_step_240 (fun H locs hP hD hS => ?_)
        have hP : va_P (dC, dI) classes [(m0, .inr (5, [.int fa, .ref r1, .ref r2, .ref r3, .ref r4, .ref r5, .int rw, .ref r6, .ref r7, .ref r8, .int gw, .ref r9, .ref r10, .ref r11, .ref r12, .ref r13, .ref r14, .ref r15, .ref r16])), (r1, .inl (cI, 80, .inl K)), (r2, .inl (cI, 80, .inl O)), (r3, .inl (cI, 80, .inl T)), (r4, .inl (cI, 80, .inl Z)), (r5, .inl (cI, 2, .inl Sz)), (r14, .inl (cI, 2, .inl (upd Pl y (bc_pl nn t5)))), (r15, .inl (cI, 2, .inl Sp)), (r16, .inl (cI, 12, .inl Vr))] H := hP
        have hD : va_D A [(m0, .inr (5, [.int fa, .ref r1, .ref r2, .ref r3, .ref r4, .ref r5, .int rw, .ref r6, .ref r7, .ref r8, .int gw, .ref r9, .ref r10, .ref r11, .ref r12, .ref r13, .ref r14, .ref r15, .ref r16])), (r1, .inl (cI, 80, .inl K)), (r2, .inl (cI, 80, .inl O)), (r3, .inl (cI, 80, .inl T)), (r4, .inl (cI, 80, .inl Z)), (r5, .inl (cI, 2, .inl Sz)), (r14, .inl (cI, 2, .inl (upd Pl y (bc_pl nn t5)))), (r15, .inl (cI, 2, .inl Sp)), (r16, .inl (cI, 12, .inl Vr))] := hD
        refine lv_aload_n hx hb de_M_step_241 rfl (lv_at hl 3 rfl) ?_
        refine va_get (D := (dC, dI)) (ci := 5) (v := .ref r15) (C := rc_M) (T := fc_M) (N := 19) hx hb htw wi_M hown hK hP 0 rfl rfl 17 (by decide) (htw _ wm_440) (fun _ h9 => h9) rfl de_M_step_242 ?_
        refine lv_iload_n hx hb de_M_step_245 rfl (lv_at hl 4 rfl) ?_
        refine lv_dup2_11 hx hb de_M_step_246 rfl rfl ?_
        refine bc_ild (j := y) hx hb hK hP 7 0 rfl rfl (by omega) (by decide) de_M_step_247 ?_
        refine lv_iconst (v := 1) hx hb de_M_step_248 (by decide) ?_
        refine lv_iadd hx hb de_M_step_249 ?_
        refine bc_ist (j := y) hx hb hK hP hD hS 7 0 rfl rfl (by omega) (by decide) de_M_step_250 (fun H locs hP hD hS => ?_)
        have hP : va_P (dC, dI) classes [(m0, .inr (5, [.int fa, .ref r1, .ref r2, .ref r3, .ref r4, .ref r5, .int rw, .ref r6, .ref r7, .ref r8, .int gw, .ref r9, .ref r10, .ref r11, .ref r12, .ref r13, .ref r14, .ref r15, .ref r16])), (r1, .inl (cI, 80, .inl K)), (r2, .inl (cI, 80, .inl O)), (r3, .inl (cI, 80, .inl T)), (r4, .inl (cI, 80, .inl Z)), (r5, .inl (cI, 2, .inl Sz)), (r14, .inl (cI, 2, .inl (upd Pl y (bc_pl nn t5)))), (r15, .inl (cI, 2, .inl (upd Sp y ((Sp y) + 1)))), (r16, .inl (cI, 12, .inl Vr))] H := hP
        have hD : va_D A [(m0, .inr (5, [.int fa, .ref r1, .ref r2, .ref r3, .ref r4, .ref r5, .int rw, .ref r6, .ref r7, .ref r8, .int gw, .ref r9, .ref r10, .ref r11, .ref r12, .ref r13, .ref r14, .ref r15, .ref r16])), (r1, .inl (cI, 80, .inl K)), (r2, .inl (cI, 80, .inl O)), (r3, .inl (cI, 80, .inl T)), (r4, .inl (cI, 80, .inl Z)), (r5, .inl (cI, 2, .inl Sz)), (r14, .inl (cI, 2, .inl (upd Pl y (bc_pl nn t5)))), (r15, .inl (cI, 2, .inl (upd Sp y ((Sp y) + 1)))), (r16, .inl (cI, 12, .inl Vr))] := hD
        have hst := bc_st_z (K := (fun j => K (40 * y + j))) (O := (fun j => O (40 * y + j))) (T := (fun j => T (40 * y + j))) (Z := (fun j => Z (40 * y + j))) (X := (fun v => Vr (6 * y + v))) (i := i) (nn := nn) hs_40_5 eO ho hc_134 eT5 ht5
        exact bc_vret F hr hlocks ((upd Pl y (bc_pl nn t5), upd Sp y ((Sp y) + 1), Vr)) ⟨by rw [hst], rfl, by rw [hst]; exact bc_vs_id y Vr⟩ hP hD hS de_M_step_251
  by_cases hs_40_6 : K ((40 * y) + i) = 6
  · refine bc_ti hs_40_6 ?_
    refine lv_tableIn (off := 113) (tgt := 153) hx hb de_M_step_40 (by decide) (by decide) rfl (by decide) ?_
    obtain ⟨t6, ht6, eT6⟩ := bc_wi_6 hw hs_40_6
    refine lv_aload_n hx hb de_M_step_153 rfl (lv_at hl 3 rfl) ?_
    refine va_get (D := (dC, dI)) (ci := 5) (v := .ref r3) (C := rc_M) (T := fc_M) (N := 19) hx hb htw wi_M hown hK hP 0 rfl rfl 3 (by decide) (htw _ wm_426) (fun _ h9 => h9) rfl de_M_step_154 ?_
    refine lv_iload_n hx hb de_M_step_157 rfl (lv_at hl 2 rfl) ?_
    refine bc_ild (j := (40 * y) + i) hx hb hK hP 3 0 rfl rfl (by omega) (by decide) de_M_step_158 ?_
    refine bc_ti (y := nI t6) eT6 ?_
    refine lv_istore (lv' := [(4, .int (nI t6)), (3, .int (nI ((6 * y) + o))), (2, .int (nI ((40 * y) + i))), (0, .ref m0), (1, .int (nI y))]) hx hb de_M_step_159 hl (by decide) rfl (fun ls hl => ?_)
    refine lv_goto (tgt := 218) hx hb de_M_step_161 (by decide) ?_
    refine lv_aload_n hx hb de_M_step_218 rfl (lv_at hl 3 rfl) ?_
    refine va_get (D := (dC, dI)) (ci := 5) (v := .ref r14) (C := rc_M) (T := fc_M) (N := 19) hx hb htw wi_M hown hK hP 0 rfl rfl 16 (by decide) (htw _ wm_439) (fun _ h9 => h9) rfl de_M_step_219 ?_
    refine lv_iload_n hx hb de_M_step_222 rfl (lv_at hl 4 rfl) ?_
    refine lv_iload hx hb de_M_step_223 (lv_at hl 0 rfl) ?_
    refine lv_aload_n hx hb de_M_step_225 rfl (lv_at hl 3 rfl) ?_
    refine va_get (D := (dC, dI)) (ci := 5) (v := .ref r5) (C := rc_M) (T := fc_M) (N := 19) hx hb htw wi_M hown hK hP 0 rfl rfl 5 (by decide) (htw _ wm_428) (fun _ h9 => h9) rfl de_M_step_226 ?_
    refine lv_iload_n hx hb de_M_step_229 rfl (lv_at hl 4 rfl) ?_
    refine bc_ild (j := y) hx hb hK hP 5 0 rfl rfl (by omega) (by decide) de_M_step_230 ?_
    refine bc_ti (y := nI nn) hSy ?_
    refine lv_icmp_ge (tgt := 239) hx hb de_M_step_231 (by decide) (fun hc_231 => ?_) (fun hc_231 => ?_)
    · refine lv_iconst (v := (-1)) hx hb de_M_step_239 (by decide) ?_
      refine bc_ti (y := bc_pl nn t6) (bc_pl_ge (by omega) (by omega) hc_231) ?_
      refine bc_ist (j := y) hx hb hK hP hD hS 6 0 rfl rfl (by omega) (by decide) de_M_step_240 (fun H locs hP hD hS => ?_)
      have hP : va_P (dC, dI) classes [(m0, .inr (5, [.int fa, .ref r1, .ref r2, .ref r3, .ref r4, .ref r5, .int rw, .ref r6, .ref r7, .ref r8, .int gw, .ref r9, .ref r10, .ref r11, .ref r12, .ref r13, .ref r14, .ref r15, .ref r16])), (r1, .inl (cI, 80, .inl K)), (r2, .inl (cI, 80, .inl O)), (r3, .inl (cI, 80, .inl T)), (r4, .inl (cI, 80, .inl Z)), (r5, .inl (cI, 2, .inl Sz)), (r14, .inl (cI, 2, .inl (upd Pl y (bc_pl nn t6)))), (r15, .inl (cI, 2, .inl Sp)), (r16, .inl (cI, 12, .inl Vr))] H := hP
      have hD : va_D A [(m0, .inr (5, [.int fa, .ref r1, .ref r2, .ref r3, .ref r4, .ref r5, .int rw, .ref r6, .ref r7, .ref r8, .int gw, .ref r9, .ref r10, .ref r11, .ref r12, .ref r13, .ref r14, .ref r15, .ref r16])), (r1, .inl (cI, 80, .inl K)), (r2, .inl (cI, 80, .inl O)), (r3, .inl (cI, 80, .inl T)), (r4, .inl (cI, 80, .inl Z)), (r5, .inl (cI, 2, .inl Sz)), (r14, .inl (cI, 2, .inl (upd Pl y (bc_pl nn t6)))), (r15, .inl (cI, 2, .inl Sp)), (r16, .inl (cI, 12, .inl Vr))] := hD
      refine lv_aload_n hx hb de_M_step_241 rfl (lv_at hl 3 rfl) ?_
      refine va_get (D := (dC, dI)) (ci := 5) (v := .ref r15) (C := rc_M) (T := fc_M) (N := 19) hx hb htw wi_M hown hK hP 0 rfl rfl 17 (by decide) (htw _ wm_440) (fun _ h9 => h9) rfl de_M_step_242 ?_
      refine lv_iload_n hx hb de_M_step_245 rfl (lv_at hl 4 rfl) ?_
      refine lv_dup2_11 hx hb de_M_step_246 rfl rfl ?_
      refine bc_ild (j := y) hx hb hK hP 7 0 rfl rfl (by omega) (by decide) de_M_step_247 ?_
      refine lv_iconst (v := 1) hx hb de_M_step_248 (by decide) ?_
      refine lv_iadd hx hb de_M_step_249 ?_
      refine bc_ist (j := y) hx hb hK hP hD hS 7 0 rfl rfl (by omega) (by decide) de_M_step_250 (fun H locs hP hD hS => ?_)
      have hP : va_P (dC, dI) classes [(m0, .inr (5, [.int fa, .ref r1, .ref r2, .ref r3, .ref r4, .ref r5, .int rw, .ref r6, .ref r7, .ref r8, .int gw, .ref r9, .ref r10, .ref r11, .ref r12, .ref r13, .ref r14, .ref r15, .ref r16])), (r1, .inl (cI, 80, .inl K)), (r2, .inl (cI, 80, .inl O)), (r3, .inl (cI, 80, .inl T)), (r4, .inl (cI, 80, .inl Z)), (r5, .inl (cI, 2, .inl Sz)), (r14, .inl (cI, 2, .inl (upd Pl y (bc_pl nn t6)))), (r15, .inl (cI, 2, .inl (upd Sp y ((Sp y) + 1)))), (r16, .inl (cI, 12, .inl Vr))] H := hP
      have hD : va_D A [(m0, .inr (5, [.int fa, .ref r1, .ref r2, .ref r3, .ref r4, .ref r5, .int rw, .ref r6, .ref r7, .ref r8, .int gw, .ref r9, .ref r10, .ref r11, .ref r12, .ref r13, .ref r14, .ref r15, .ref r16])), (r1, .inl (cI, 80, .inl K)), (r2, .inl (cI, 80, .inl O)), (r3, .inl (cI, 80, .inl T)), (r4, .inl (cI, 80, .inl Z)), (r5, .inl (cI, 2, .inl Sz)), (r14, .inl (cI, 2, .inl (upd Pl y (bc_pl nn t6)))), (r15, .inl (cI, 2, .inl (upd Sp y ((Sp y) + 1)))), (r16, .inl (cI, 12, .inl Vr))] := hD
      have hst := bc_st_t (K := (fun j => K (40 * y + j))) (O := (fun j => O (40 * y + j))) (T := (fun j => T (40 * y + j))) (Z := (fun j => Z (40 * y + j))) (X := (fun v => Vr (6 * y + v))) (i := i) (nn := nn) hs_40_6 eT6 ht6
      exact bc_vret F hr hlocks ((upd Pl y (bc_pl nn t6), upd Sp y ((Sp y) + 1), Vr)) ⟨by rw [hst], rfl, by rw [hst]; exact bc_vs_id y Vr⟩ hP hD hS de_M_step_251
    · refine lv_iload hx hb de_M_step_234 (lv_at hl 0 rfl) ?_
      refine bc_ti (y := bc_pl nn t6) (bc_pl_lt (by omega) (by omega) hc_231) ?_
      refine lv_goto (tgt := 240) hx hb de_M_step_236 (by decide) ?_
      refine bc_ist (j := y) hx hb hK hP hD hS 6 0 rfl rfl (by omega) (by decide) de_M_step_240 (fun H locs hP hD hS => ?_)
      have hP : va_P (dC, dI) classes [(m0, .inr (5, [.int fa, .ref r1, .ref r2, .ref r3, .ref r4, .ref r5, .int rw, .ref r6, .ref r7, .ref r8, .int gw, .ref r9, .ref r10, .ref r11, .ref r12, .ref r13, .ref r14, .ref r15, .ref r16])), (r1, .inl (cI, 80, .inl K)), (r2, .inl (cI, 80, .inl O)), (r3, .inl (cI, 80, .inl T)), (r4, .inl (cI, 80, .inl Z)), (r5, .inl (cI, 2, .inl Sz)), (r14, .inl (cI, 2, .inl (upd Pl y (bc_pl nn t6)))), (r15, .inl (cI, 2, .inl Sp)), (r16, .inl (cI, 12, .inl Vr))] H := hP
      have hD : va_D A [(m0, .inr (5, [.int fa, .ref r1, .ref r2, .ref r3, .ref r4, .ref r5, .int rw, .ref r6, .ref r7, .ref r8, .int gw, .ref r9, .ref r10, .ref r11, .ref r12, .ref r13, .ref r14, .ref r15, .ref r16])), (r1, .inl (cI, 80, .inl K)), (r2, .inl (cI, 80, .inl O)), (r3, .inl (cI, 80, .inl T)), (r4, .inl (cI, 80, .inl Z)), (r5, .inl (cI, 2, .inl Sz)), (r14, .inl (cI, 2, .inl (upd Pl y (bc_pl nn t6)))), (r15, .inl (cI, 2, .inl Sp)), (r16, .inl (cI, 12, .inl Vr))] := hD
      refine lv_aload_n hx hb de_M_step_241 rfl (lv_at hl 3 rfl) ?_
      refine va_get (D := (dC, dI)) (ci := 5) (v := .ref r15) (C := rc_M) (T := fc_M) (N := 19) hx hb htw wi_M hown hK hP 0 rfl rfl 17 (by decide) (htw _ wm_440) (fun _ h9 => h9) rfl de_M_step_242 ?_
      refine lv_iload_n hx hb de_M_step_245 rfl (lv_at hl 4 rfl) ?_
      refine lv_dup2_11 hx hb de_M_step_246 rfl rfl ?_
      refine bc_ild (j := y) hx hb hK hP 7 0 rfl rfl (by omega) (by decide) de_M_step_247 ?_
      refine lv_iconst (v := 1) hx hb de_M_step_248 (by decide) ?_
      refine lv_iadd hx hb de_M_step_249 ?_
      refine bc_ist (j := y) hx hb hK hP hD hS 7 0 rfl rfl (by omega) (by decide) de_M_step_250 (fun H locs hP hD hS => ?_)
      have hP : va_P (dC, dI) classes [(m0, .inr (5, [.int fa, .ref r1, .ref r2, .ref r3, .ref r4, .ref r5, .int rw, .ref r6, .ref r7, .ref r8, .int gw, .ref r9, .ref r10, .ref r11, .ref r12, .ref r13, .ref r14, .ref r15, .ref r16])), (r1, .inl (cI, 80, .inl K)), (r2, .inl (cI, 80, .inl O)), (r3, .inl (cI, 80, .inl T)), (r4, .inl (cI, 80, .inl Z)), (r5, .inl (cI, 2, .inl Sz)), (r14, .inl (cI, 2, .inl (upd Pl y (bc_pl nn t6)))), (r15, .inl (cI, 2, .inl (upd Sp y ((Sp y) + 1)))), (r16, .inl (cI, 12, .inl Vr))] H := hP
      have hD : va_D A [(m0, .inr (5, [.int fa, .ref r1, .ref r2, .ref r3, .ref r4, .ref r5, .int rw, .ref r6, .ref r7, .ref r8, .int gw, .ref r9, .ref r10, .ref r11, .ref r12, .ref r13, .ref r14, .ref r15, .ref r16])), (r1, .inl (cI, 80, .inl K)), (r2, .inl (cI, 80, .inl O)), (r3, .inl (cI, 80, .inl T)), (r4, .inl (cI, 80, .inl Z)), (r5, .inl (cI, 2, .inl Sz)), (r14, .inl (cI, 2, .inl (upd Pl y (bc_pl nn t6)))), (r15, .inl (cI, 2, .inl (upd Sp y ((Sp y) + 1)))), (r16, .inl (cI, 12, .inl Vr))] := hD
      have hst := bc_st_t (K := (fun j => K (40 * y + j))) (O := (fun j => O (40 * y + j))) (T := (fun j => T (40 * y + j))) (Z := (fun j => Z (40 * y + j))) (X := (fun v => Vr (6 * y + v))) (i := i) (nn := nn) hs_40_6 eT6 ht6
      exact bc_vret F hr hlocks ((upd Pl y (bc_pl nn t6), upd Sp y ((Sp y) + 1), Vr)) ⟨by rw [hst], rfl, by rw [hst]; exact bc_vs_id y Vr⟩ hP hD hS de_M_step_251
  by_cases hs_40_7 : K ((40 * y) + i) = 7
  · refine bc_ti hs_40_7 ?_
    refine lv_tableIn (off := 124) (tgt := 164) hx hb de_M_step_40 (by decide) (by decide) rfl (by decide) ?_
    refine lv_bipush (v := 99) hx hb de_M_step_164 (by decide) ?_
    refine bc_ti (y := nI 99) (by decide) ?_
    refine lv_istore (lv' := [(4, .int (nI 99)), (3, .int (nI ((6 * y) + o))), (2, .int (nI ((40 * y) + i))), (0, .ref m0), (1, .int (nI y))]) hx hb de_M_step_166 hl (by decide) rfl (fun ls hl => ?_)
    refine lv_goto (tgt := 218) hx hb de_M_step_168 (by decide) ?_
    refine lv_aload_n hx hb de_M_step_218 rfl (lv_at hl 3 rfl) ?_
    refine va_get (D := (dC, dI)) (ci := 5) (v := .ref r14) (C := rc_M) (T := fc_M) (N := 19) hx hb htw wi_M hown hK hP 0 rfl rfl 16 (by decide) (htw _ wm_439) (fun _ h9 => h9) rfl de_M_step_219 ?_
    refine lv_iload_n hx hb de_M_step_222 rfl (lv_at hl 4 rfl) ?_
    refine lv_iload hx hb de_M_step_223 (lv_at hl 0 rfl) ?_
    refine lv_aload_n hx hb de_M_step_225 rfl (lv_at hl 3 rfl) ?_
    refine va_get (D := (dC, dI)) (ci := 5) (v := .ref r5) (C := rc_M) (T := fc_M) (N := 19) hx hb htw wi_M hown hK hP 0 rfl rfl 5 (by decide) (htw _ wm_428) (fun _ h9 => h9) rfl de_M_step_226 ?_
    refine lv_iload_n hx hb de_M_step_229 rfl (lv_at hl 4 rfl) ?_
    refine bc_ild (j := y) hx hb hK hP 5 0 rfl rfl (by omega) (by decide) de_M_step_230 ?_
    refine bc_ti (y := nI nn) hSy ?_
    refine lv_icmp_ge (tgt := 239) hx hb de_M_step_231 (by decide) (fun hc_231 => ?_) (fun hc_231 => ?_)
    · refine lv_iconst (v := (-1)) hx hb de_M_step_239 (by decide) ?_
      refine bc_ti (y := bc_pl nn 99) (bc_pl_ge (by omega) (by omega) hc_231) ?_
      refine bc_ist (j := y) hx hb hK hP hD hS 6 0 rfl rfl (by omega) (by decide) de_M_step_240 (fun H locs hP hD hS => ?_)
      have hP : va_P (dC, dI) classes [(m0, .inr (5, [.int fa, .ref r1, .ref r2, .ref r3, .ref r4, .ref r5, .int rw, .ref r6, .ref r7, .ref r8, .int gw, .ref r9, .ref r10, .ref r11, .ref r12, .ref r13, .ref r14, .ref r15, .ref r16])), (r1, .inl (cI, 80, .inl K)), (r2, .inl (cI, 80, .inl O)), (r3, .inl (cI, 80, .inl T)), (r4, .inl (cI, 80, .inl Z)), (r5, .inl (cI, 2, .inl Sz)), (r14, .inl (cI, 2, .inl (upd Pl y (bc_pl nn 99)))), (r15, .inl (cI, 2, .inl Sp)), (r16, .inl (cI, 12, .inl Vr))] H := hP
      have hD : va_D A [(m0, .inr (5, [.int fa, .ref r1, .ref r2, .ref r3, .ref r4, .ref r5, .int rw, .ref r6, .ref r7, .ref r8, .int gw, .ref r9, .ref r10, .ref r11, .ref r12, .ref r13, .ref r14, .ref r15, .ref r16])), (r1, .inl (cI, 80, .inl K)), (r2, .inl (cI, 80, .inl O)), (r3, .inl (cI, 80, .inl T)), (r4, .inl (cI, 80, .inl Z)), (r5, .inl (cI, 2, .inl Sz)), (r14, .inl (cI, 2, .inl (upd Pl y (bc_pl nn 99)))), (r15, .inl (cI, 2, .inl Sp)), (r16, .inl (cI, 12, .inl Vr))] := hD
      refine lv_aload_n hx hb de_M_step_241 rfl (lv_at hl 3 rfl) ?_
      refine va_get (D := (dC, dI)) (ci := 5) (v := .ref r15) (C := rc_M) (T := fc_M) (N := 19) hx hb htw wi_M hown hK hP 0 rfl rfl 17 (by decide) (htw _ wm_440) (fun _ h9 => h9) rfl de_M_step_242 ?_
      refine lv_iload_n hx hb de_M_step_245 rfl (lv_at hl 4 rfl) ?_
      refine lv_dup2_11 hx hb de_M_step_246 rfl rfl ?_
      refine bc_ild (j := y) hx hb hK hP 7 0 rfl rfl (by omega) (by decide) de_M_step_247 ?_
      refine lv_iconst (v := 1) hx hb de_M_step_248 (by decide) ?_
      refine lv_iadd hx hb de_M_step_249 ?_
      refine bc_ist (j := y) hx hb hK hP hD hS 7 0 rfl rfl (by omega) (by decide) de_M_step_250 (fun H locs hP hD hS => ?_)
      have hP : va_P (dC, dI) classes [(m0, .inr (5, [.int fa, .ref r1, .ref r2, .ref r3, .ref r4, .ref r5, .int rw, .ref r6, .ref r7, .ref r8, .int gw, .ref r9, .ref r10, .ref r11, .ref r12, .ref r13, .ref r14, .ref r15, .ref r16])), (r1, .inl (cI, 80, .inl K)), (r2, .inl (cI, 80, .inl O)), (r3, .inl (cI, 80, .inl T)), (r4, .inl (cI, 80, .inl Z)), (r5, .inl (cI, 2, .inl Sz)), (r14, .inl (cI, 2, .inl (upd Pl y (bc_pl nn 99)))), (r15, .inl (cI, 2, .inl (upd Sp y ((Sp y) + 1)))), (r16, .inl (cI, 12, .inl Vr))] H := hP
      have hD : va_D A [(m0, .inr (5, [.int fa, .ref r1, .ref r2, .ref r3, .ref r4, .ref r5, .int rw, .ref r6, .ref r7, .ref r8, .int gw, .ref r9, .ref r10, .ref r11, .ref r12, .ref r13, .ref r14, .ref r15, .ref r16])), (r1, .inl (cI, 80, .inl K)), (r2, .inl (cI, 80, .inl O)), (r3, .inl (cI, 80, .inl T)), (r4, .inl (cI, 80, .inl Z)), (r5, .inl (cI, 2, .inl Sz)), (r14, .inl (cI, 2, .inl (upd Pl y (bc_pl nn 99)))), (r15, .inl (cI, 2, .inl (upd Sp y ((Sp y) + 1)))), (r16, .inl (cI, 12, .inl Vr))] := hD
      have hst := bc_st_h (K := (fun j => K (40 * y + j))) (O := (fun j => O (40 * y + j))) (T := (fun j => T (40 * y + j))) (Z := (fun j => Z (40 * y + j))) (X := (fun v => Vr (6 * y + v))) (i := i) (nn := nn) hs_40_7 hnn
      exact bc_vret F hr hlocks ((upd Pl y (bc_pl nn 99), upd Sp y ((Sp y) + 1), Vr)) ⟨by rw [hst], rfl, by rw [hst]; exact bc_vs_id y Vr⟩ hP hD hS de_M_step_251
    · refine lv_iload hx hb de_M_step_234 (lv_at hl 0 rfl) ?_
      refine bc_ti (y := bc_pl nn 99) (bc_pl_lt (by omega) (by omega) hc_231) ?_
      refine lv_goto (tgt := 240) hx hb de_M_step_236 (by decide) ?_
      refine bc_ist (j := y) hx hb hK hP hD hS 6 0 rfl rfl (by omega) (by decide) de_M_step_240 (fun H locs hP hD hS => ?_)
      have hP : va_P (dC, dI) classes [(m0, .inr (5, [.int fa, .ref r1, .ref r2, .ref r3, .ref r4, .ref r5, .int rw, .ref r6, .ref r7, .ref r8, .int gw, .ref r9, .ref r10, .ref r11, .ref r12, .ref r13, .ref r14, .ref r15, .ref r16])), (r1, .inl (cI, 80, .inl K)), (r2, .inl (cI, 80, .inl O)), (r3, .inl (cI, 80, .inl T)), (r4, .inl (cI, 80, .inl Z)), (r5, .inl (cI, 2, .inl Sz)), (r14, .inl (cI, 2, .inl (upd Pl y (bc_pl nn 99)))), (r15, .inl (cI, 2, .inl Sp)), (r16, .inl (cI, 12, .inl Vr))] H := hP
      have hD : va_D A [(m0, .inr (5, [.int fa, .ref r1, .ref r2, .ref r3, .ref r4, .ref r5, .int rw, .ref r6, .ref r7, .ref r8, .int gw, .ref r9, .ref r10, .ref r11, .ref r12, .ref r13, .ref r14, .ref r15, .ref r16])), (r1, .inl (cI, 80, .inl K)), (r2, .inl (cI, 80, .inl O)), (r3, .inl (cI, 80, .inl T)), (r4, .inl (cI, 80, .inl Z)), (r5, .inl (cI, 2, .inl Sz)), (r14, .inl (cI, 2, .inl (upd Pl y (bc_pl nn 99)))), (r15, .inl (cI, 2, .inl Sp)), (r16, .inl (cI, 12, .inl Vr))] := hD
      refine lv_aload_n hx hb de_M_step_241 rfl (lv_at hl 3 rfl) ?_
      refine va_get (D := (dC, dI)) (ci := 5) (v := .ref r15) (C := rc_M) (T := fc_M) (N := 19) hx hb htw wi_M hown hK hP 0 rfl rfl 17 (by decide) (htw _ wm_440) (fun _ h9 => h9) rfl de_M_step_242 ?_
      refine lv_iload_n hx hb de_M_step_245 rfl (lv_at hl 4 rfl) ?_
      refine lv_dup2_11 hx hb de_M_step_246 rfl rfl ?_
      refine bc_ild (j := y) hx hb hK hP 7 0 rfl rfl (by omega) (by decide) de_M_step_247 ?_
      refine lv_iconst (v := 1) hx hb de_M_step_248 (by decide) ?_
      refine lv_iadd hx hb de_M_step_249 ?_
      refine bc_ist (j := y) hx hb hK hP hD hS 7 0 rfl rfl (by omega) (by decide) de_M_step_250 (fun H locs hP hD hS => ?_)
      have hP : va_P (dC, dI) classes [(m0, .inr (5, [.int fa, .ref r1, .ref r2, .ref r3, .ref r4, .ref r5, .int rw, .ref r6, .ref r7, .ref r8, .int gw, .ref r9, .ref r10, .ref r11, .ref r12, .ref r13, .ref r14, .ref r15, .ref r16])), (r1, .inl (cI, 80, .inl K)), (r2, .inl (cI, 80, .inl O)), (r3, .inl (cI, 80, .inl T)), (r4, .inl (cI, 80, .inl Z)), (r5, .inl (cI, 2, .inl Sz)), (r14, .inl (cI, 2, .inl (upd Pl y (bc_pl nn 99)))), (r15, .inl (cI, 2, .inl (upd Sp y ((Sp y) + 1)))), (r16, .inl (cI, 12, .inl Vr))] H := hP
      have hD : va_D A [(m0, .inr (5, [.int fa, .ref r1, .ref r2, .ref r3, .ref r4, .ref r5, .int rw, .ref r6, .ref r7, .ref r8, .int gw, .ref r9, .ref r10, .ref r11, .ref r12, .ref r13, .ref r14, .ref r15, .ref r16])), (r1, .inl (cI, 80, .inl K)), (r2, .inl (cI, 80, .inl O)), (r3, .inl (cI, 80, .inl T)), (r4, .inl (cI, 80, .inl Z)), (r5, .inl (cI, 2, .inl Sz)), (r14, .inl (cI, 2, .inl (upd Pl y (bc_pl nn 99)))), (r15, .inl (cI, 2, .inl (upd Sp y ((Sp y) + 1)))), (r16, .inl (cI, 12, .inl Vr))] := hD
      have hst := bc_st_h (K := (fun j => K (40 * y + j))) (O := (fun j => O (40 * y + j))) (T := (fun j => T (40 * y + j))) (Z := (fun j => Z (40 * y + j))) (X := (fun v => Vr (6 * y + v))) (i := i) (nn := nn) hs_40_7 hnn
      exact bc_vret F hr hlocks ((upd Pl y (bc_pl nn 99), upd Sp y ((Sp y) + 1), Vr)) ⟨by rw [hst], rfl, by rw [hst]; exact bc_vs_id y Vr⟩ hP hD hS de_M_step_251
  refine lv_tableOut (tgt := 171) hx hb de_M_step_40 (bc_to_0_7 hs_40_0 hs_40_1 hs_40_2 hs_40_3 hs_40_4 hs_40_5 hs_40_6 hs_40_7) (by decide) ?_
  have h4 := bc_k4 hw hs_40_5 hs_40_6 hs_40_7
  obtain ⟨tt, htt, eT⟩ := bc_wi_t hw h4 hs_40_0
  obtain ⟨zz, hzz, eZ⟩ := bc_wi_z hw h4 hs_40_0 hs_40_1
  refine lv_aload_n hx hb de_M_step_171 rfl (lv_at hl 3 rfl) ?_
  refine va_get (D := (dC, dI)) (ci := 5) (v := .ref r16) (C := rc_M) (T := fc_M) (N := 19) hx hb htw wi_M hown hK hP 0 rfl rfl 18 (by decide) (htw _ wm_441) (fun _ h9 => h9) rfl de_M_step_172 ?_
  refine lv_iload_n hx hb de_M_step_175 rfl (lv_at hl 1 rfl) ?_
  refine lv_aload_n hx hb de_M_step_176 rfl (lv_at hl 3 rfl) ?_
  refine va_get (D := (dC, dI)) (ci := 5) (v := .ref r1) (C := rc_M) (T := fc_M) (N := 19) hx hb htw wi_M hown hK hP 0 rfl rfl 1 (by decide) (htw _ wm_424) (fun _ h9 => h9) rfl de_M_step_177 ?_
  refine lv_iload_n hx hb de_M_step_180 rfl (lv_at hl 2 rfl) ?_
  refine bc_ild (j := (40 * y) + i) hx hb hK hP 1 0 rfl rfl (by omega) (by decide) de_M_step_181 ?_
  refine lv_aload_n hx hb de_M_step_182 rfl (lv_at hl 3 rfl) ?_
  refine va_get (D := (dC, dI)) (ci := 5) (v := .ref r16) (C := rc_M) (T := fc_M) (N := 19) hx hb htw wi_M hown hK hP 0 rfl rfl 18 (by decide) (htw _ wm_441) (fun _ h9 => h9) rfl de_M_step_183 ?_
  refine lv_bipush (v := 6) hx hb de_M_step_186 (by decide) ?_
  refine lv_iload_n hx hb de_M_step_188 rfl (lv_at hl 4 rfl) ?_
  refine lv_imul hx hb de_M_step_189 ?_
  refine bc_ti (y := nI (6 * y)) (pk_mul 6 y) ?_
  refine lv_aload_n hx hb de_M_step_190 rfl (lv_at hl 3 rfl) ?_
  refine va_get (D := (dC, dI)) (ci := 5) (v := .ref r3) (C := rc_M) (T := fc_M) (N := 19) hx hb htw wi_M hown hK hP 0 rfl rfl 3 (by decide) (htw _ wm_426) (fun _ h9 => h9) rfl de_M_step_191 ?_
  refine lv_iload_n hx hb de_M_step_194 rfl (lv_at hl 2 rfl) ?_
  refine bc_ild (j := (40 * y) + i) hx hb hK hP 3 0 rfl rfl (by omega) (by decide) de_M_step_195 ?_
  refine bc_ti (y := nI tt) eT ?_
  refine lv_iadd hx hb de_M_step_196 ?_
  refine bc_ti (y := nI ((6 * y) + tt)) (nI_add (6 * y) tt) ?_
  refine bc_ild (j := (6 * y) + tt) hx hb hK hP 8 0 rfl rfl (by omega) (by decide) de_M_step_197 ?_
  refine lv_aload_n hx hb de_M_step_198 rfl (lv_at hl 3 rfl) ?_
  refine va_get (D := (dC, dI)) (ci := 5) (v := .ref r16) (C := rc_M) (T := fc_M) (N := 19) hx hb htw wi_M hown hK hP 0 rfl rfl 18 (by decide) (htw _ wm_441) (fun _ h9 => h9) rfl de_M_step_199 ?_
  refine lv_bipush (v := 6) hx hb de_M_step_202 (by decide) ?_
  refine lv_iload_n hx hb de_M_step_204 rfl (lv_at hl 4 rfl) ?_
  refine lv_imul hx hb de_M_step_205 ?_
  refine bc_ti (y := nI (6 * y)) (pk_mul 6 y) ?_
  refine lv_aload_n hx hb de_M_step_206 rfl (lv_at hl 3 rfl) ?_
  refine va_get (D := (dC, dI)) (ci := 5) (v := .ref r4) (C := rc_M) (T := fc_M) (N := 19) hx hb htw wi_M hown hK hP 0 rfl rfl 4 (by decide) (htw _ wm_427) (fun _ h9 => h9) rfl de_M_step_207 ?_
  refine lv_iload_n hx hb de_M_step_210 rfl (lv_at hl 2 rfl) ?_
  refine bc_ild (j := (40 * y) + i) hx hb hK hP 4 0 rfl rfl (by omega) (by decide) de_M_step_211 ?_
  refine bc_ti (y := nI zz) eZ ?_
  refine lv_iadd hx hb de_M_step_212 ?_
  refine bc_ti (y := nI ((6 * y) + zz)) (nI_add (6 * y) zz) ?_
  refine bc_ild (j := (6 * y) + zz) hx hb hK hP 8 0 rfl rfl (by omega) (by decide) de_M_step_213 ?_
  refine bc_call_s_i (As := [.int (K ((40 * y) + i)), .int (Vr ((6 * y) + tt)), .int (Vr ((6 * y) + zz))]) (rest := [.int (nI ((6 * y) + o)), .ref r16]) (wr := [(m0, .inr (5, [.int fa, .ref r1, .ref r2, .ref r3, .ref r4, .ref r5, .int rw, .ref r6, .ref r7, .ref r8, .int gw, .ref r9, .ref r10, .ref r11, .ref r12, .ref r13, .ref r14, .ref r15, .ref r16])), (r1, .inl (cI, 80, .inl K)), (r2, .inl (cI, 80, .inl O)), (r3, .inl (cI, 80, .inl T)), (r4, .inl (cI, 80, .inl Z)), (r5, .inl (cI, 2, .inl Sz)), (r14, .inl (cI, 2, .inl Pl)), (r15, .inl (cI, 2, .inl Sp)), (r16, .inl (cI, 12, .inl Vr))]) F (co_M_reckon) wm_517 wm_6 wm_515 wm_516 pd_M_reckon rfl rfl ⟨Nat.le_of_ble_eq_true rfl, Nat.le_of_ble_eq_true rfl⟩ hP hD hS hA [] [0, 1, 2, 3, 4, 5, 6, 7, 8] rfl rfl rfl rfl (by decide) rfl hl.1 rfl (Nat.le_of_ble_eq_true rfl) de_M_step_214 ⟨Nat.le_of_ble_eq_true rfl, Nat.le_of_ble_eq_true rfl⟩ (fun r_214 u_214 H locs hw_214 hP hD hS => ?_)
  have hP : va_P (dC, dI) classes [(m0, .inr (5, [.int fa, .ref r1, .ref r2, .ref r3, .ref r4, .ref r5, .int rw, .ref r6, .ref r7, .ref r8, .int gw, .ref r9, .ref r10, .ref r11, .ref r12, .ref r13, .ref r14, .ref r15, .ref r16])), (r1, .inl (cI, 80, .inl K)), (r2, .inl (cI, 80, .inl O)), (r3, .inl (cI, 80, .inl T)), (r4, .inl (cI, 80, .inl Z)), (r5, .inl (cI, 2, .inl Sz)), (r14, .inl (cI, 2, .inl Pl)), (r15, .inl (cI, 2, .inl Sp)), (r16, .inl (cI, 12, .inl Vr))] H := hP.sub [0, 1, 2, 3, 4, 5, 6, 7, 8] rfl
  have hD : va_D A [(m0, .inr (5, [.int fa, .ref r1, .ref r2, .ref r3, .ref r4, .ref r5, .int rw, .ref r6, .ref r7, .ref r8, .int gw, .ref r9, .ref r10, .ref r11, .ref r12, .ref r13, .ref r14, .ref r15, .ref r16])), (r1, .inl (cI, 80, .inl K)), (r2, .inl (cI, 80, .inl O)), (r3, .inl (cI, 80, .inl T)), (r4, .inl (cI, 80, .inl Z)), (r5, .inl (cI, 2, .inl Sz)), (r14, .inl (cI, 2, .inl Pl)), (r15, .inl (cI, 2, .inl Sp)), (r16, .inl (cI, 12, .inl Vr))] := hD.sub [0, 1, 2, 3, 4, 5, 6, 7, 8] (by decide) rfl
  subst hw_214
  refine bc_ist (j := (6 * y) + o) hx hb hK hP hD hS 8 0 rfl rfl (by omega) (by decide) de_M_step_217 (fun H locs hP hD hS => ?_)
  have hP : va_P (dC, dI) classes [(m0, .inr (5, [.int fa, .ref r1, .ref r2, .ref r3, .ref r4, .ref r5, .int rw, .ref r6, .ref r7, .ref r8, .int gw, .ref r9, .ref r10, .ref r11, .ref r12, .ref r13, .ref r14, .ref r15, .ref r16])), (r1, .inl (cI, 80, .inl K)), (r2, .inl (cI, 80, .inl O)), (r3, .inl (cI, 80, .inl T)), (r4, .inl (cI, 80, .inl Z)), (r5, .inl (cI, 2, .inl Sz)), (r14, .inl (cI, 2, .inl Pl)), (r15, .inl (cI, 2, .inl Sp)), (r16, .inl (cI, 12, .inl (upd Vr ((6 * y) + o) (bc_ar (K (40 * y + i)) (Vr (6 * y + tt)) (Vr (6 * y + zz))))))] H := hP
  have hD : va_D A [(m0, .inr (5, [.int fa, .ref r1, .ref r2, .ref r3, .ref r4, .ref r5, .int rw, .ref r6, .ref r7, .ref r8, .int gw, .ref r9, .ref r10, .ref r11, .ref r12, .ref r13, .ref r14, .ref r15, .ref r16])), (r1, .inl (cI, 80, .inl K)), (r2, .inl (cI, 80, .inl O)), (r3, .inl (cI, 80, .inl T)), (r4, .inl (cI, 80, .inl Z)), (r5, .inl (cI, 2, .inl Sz)), (r14, .inl (cI, 2, .inl Pl)), (r15, .inl (cI, 2, .inl Sp)), (r16, .inl (cI, 12, .inl (upd Vr ((6 * y) + o) (bc_ar (K (40 * y + i)) (Vr (6 * y + tt)) (Vr (6 * y + zz))))))] := hD
  refine lv_aload_n hx hb de_M_step_218 rfl (lv_at hl 3 rfl) ?_
  refine va_get (D := (dC, dI)) (ci := 5) (v := .ref r14) (C := rc_M) (T := fc_M) (N := 19) hx hb htw wi_M hown hK hP 0 rfl rfl 16 (by decide) (htw _ wm_439) (fun _ h9 => h9) rfl de_M_step_219 ?_
  refine lv_iload_n hx hb de_M_step_222 rfl (lv_at hl 4 rfl) ?_
  refine lv_iload hx hb de_M_step_223 (lv_at hl 0 rfl) ?_
  refine lv_aload_n hx hb de_M_step_225 rfl (lv_at hl 3 rfl) ?_
  refine va_get (D := (dC, dI)) (ci := 5) (v := .ref r5) (C := rc_M) (T := fc_M) (N := 19) hx hb htw wi_M hown hK hP 0 rfl rfl 5 (by decide) (htw _ wm_428) (fun _ h9 => h9) rfl de_M_step_226 ?_
  refine lv_iload_n hx hb de_M_step_229 rfl (lv_at hl 4 rfl) ?_
  refine bc_ild (j := y) hx hb hK hP 5 0 rfl rfl (by omega) (by decide) de_M_step_230 ?_
  refine bc_ti (y := nI nn) hSy ?_
  refine lv_icmp_ge (tgt := 239) hx hb de_M_step_231 (by decide) (fun hc_231 => ?_) (fun hc_231 => ?_)
  · refine lv_iconst (v := (-1)) hx hb de_M_step_239 (by decide) ?_
    refine bc_ti (y := bc_pl nn (i + 1)) (bc_pl_ge (by omega) (by omega) hc_231) ?_
    refine bc_ist (j := y) hx hb hK hP hD hS 6 0 rfl rfl (by omega) (by decide) de_M_step_240 (fun H locs hP hD hS => ?_)
    have hP : va_P (dC, dI) classes [(m0, .inr (5, [.int fa, .ref r1, .ref r2, .ref r3, .ref r4, .ref r5, .int rw, .ref r6, .ref r7, .ref r8, .int gw, .ref r9, .ref r10, .ref r11, .ref r12, .ref r13, .ref r14, .ref r15, .ref r16])), (r1, .inl (cI, 80, .inl K)), (r2, .inl (cI, 80, .inl O)), (r3, .inl (cI, 80, .inl T)), (r4, .inl (cI, 80, .inl Z)), (r5, .inl (cI, 2, .inl Sz)), (r14, .inl (cI, 2, .inl (upd Pl y (bc_pl nn (i + 1))))), (r15, .inl (cI, 2, .inl Sp)), (r16, .inl (cI, 12, .inl (upd Vr ((6 * y) + o) (bc_ar (K (40 * y + i)) (Vr (6 * y + tt)) (Vr (6 * y + zz))))))] H := hP
    have hD : va_D A [(m0, .inr (5, [.int fa, .ref r1, .ref r2, .ref r3, .ref r4, .ref r5, .int rw, .ref r6, .ref r7, .ref r8, .int gw, .ref r9, .ref r10, .ref r11, .ref r12, .ref r13, .ref r14, .ref r15, .ref r16])), (r1, .inl (cI, 80, .inl K)), (r2, .inl (cI, 80, .inl O)), (r3, .inl (cI, 80, .inl T)), (r4, .inl (cI, 80, .inl Z)), (r5, .inl (cI, 2, .inl Sz)), (r14, .inl (cI, 2, .inl (upd Pl y (bc_pl nn (i + 1))))), (r15, .inl (cI, 2, .inl Sp)), (r16, .inl (cI, 12, .inl (upd Vr ((6 * y) + o) (bc_ar (K (40 * y + i)) (Vr (6 * y + tt)) (Vr (6 * y + zz))))))] := hD
    refine lv_aload_n hx hb de_M_step_241 rfl (lv_at hl 3 rfl) ?_
    refine va_get (D := (dC, dI)) (ci := 5) (v := .ref r15) (C := rc_M) (T := fc_M) (N := 19) hx hb htw wi_M hown hK hP 0 rfl rfl 17 (by decide) (htw _ wm_440) (fun _ h9 => h9) rfl de_M_step_242 ?_
    refine lv_iload_n hx hb de_M_step_245 rfl (lv_at hl 4 rfl) ?_
    refine lv_dup2_11 hx hb de_M_step_246 rfl rfl ?_
    refine bc_ild (j := y) hx hb hK hP 7 0 rfl rfl (by omega) (by decide) de_M_step_247 ?_
    refine lv_iconst (v := 1) hx hb de_M_step_248 (by decide) ?_
    refine lv_iadd hx hb de_M_step_249 ?_
    refine bc_ist (j := y) hx hb hK hP hD hS 7 0 rfl rfl (by omega) (by decide) de_M_step_250 (fun H locs hP hD hS => ?_)
    have hP : va_P (dC, dI) classes [(m0, .inr (5, [.int fa, .ref r1, .ref r2, .ref r3, .ref r4, .ref r5, .int rw, .ref r6, .ref r7, .ref r8, .int gw, .ref r9, .ref r10, .ref r11, .ref r12, .ref r13, .ref r14, .ref r15, .ref r16])), (r1, .inl (cI, 80, .inl K)), (r2, .inl (cI, 80, .inl O)), (r3, .inl (cI, 80, .inl T)), (r4, .inl (cI, 80, .inl Z)), (r5, .inl (cI, 2, .inl Sz)), (r14, .inl (cI, 2, .inl (upd Pl y (bc_pl nn (i + 1))))), (r15, .inl (cI, 2, .inl (upd Sp y ((Sp y) + 1)))), (r16, .inl (cI, 12, .inl (upd Vr ((6 * y) + o) (bc_ar (K (40 * y + i)) (Vr (6 * y + tt)) (Vr (6 * y + zz))))))] H := hP
    have hD : va_D A [(m0, .inr (5, [.int fa, .ref r1, .ref r2, .ref r3, .ref r4, .ref r5, .int rw, .ref r6, .ref r7, .ref r8, .int gw, .ref r9, .ref r10, .ref r11, .ref r12, .ref r13, .ref r14, .ref r15, .ref r16])), (r1, .inl (cI, 80, .inl K)), (r2, .inl (cI, 80, .inl O)), (r3, .inl (cI, 80, .inl T)), (r4, .inl (cI, 80, .inl Z)), (r5, .inl (cI, 2, .inl Sz)), (r14, .inl (cI, 2, .inl (upd Pl y (bc_pl nn (i + 1))))), (r15, .inl (cI, 2, .inl (upd Sp y ((Sp y) + 1)))), (r16, .inl (cI, 12, .inl (upd Vr ((6 * y) + o) (bc_ar (K (40 * y + i)) (Vr (6 * y + tt)) (Vr (6 * y + zz))))))] := hD
    have hst := bc_st_a (K := (fun j => K (40 * y + j))) (O := (fun j => O (40 * y + j))) (T := (fun j => T (40 * y + j))) (Z := (fun j => Z (40 * y + j))) (X := (fun v => Vr (6 * y + v))) (i := i) (nn := nn) hs_40_5 hs_40_6 hs_40_7 eO ho (bc_as_2 (K := (fun j => K (40 * y + j))) (T := (fun j => T (40 * y + j))) (Z := (fun j => Z (40 * y + j))) (X := (fun v => Vr (6 * y + v))) (i := i) hs_40_0 hs_40_1 eT htt eZ hzz)
    exact bc_vret F hr hlocks ((upd Pl y (bc_pl nn (i + 1)), upd Sp y ((Sp y) + 1), upd Vr ((6 * y) + o) (bc_ar (K (40 * y + i)) (Vr (6 * y + tt)) (Vr (6 * y + zz))))) ⟨by rw [hst], rfl, by rw [hst]; exact bc_vs_up ho⟩ hP hD hS de_M_step_251
  · refine lv_iload hx hb de_M_step_234 (lv_at hl 0 rfl) ?_
    refine bc_ti (y := bc_pl nn (i + 1)) (bc_pl_lt (by omega) (by omega) hc_231) ?_
    refine lv_goto (tgt := 240) hx hb de_M_step_236 (by decide) ?_
    refine bc_ist (j := y) hx hb hK hP hD hS 6 0 rfl rfl (by omega) (by decide) de_M_step_240 (fun H locs hP hD hS => ?_)
    have hP : va_P (dC, dI) classes [(m0, .inr (5, [.int fa, .ref r1, .ref r2, .ref r3, .ref r4, .ref r5, .int rw, .ref r6, .ref r7, .ref r8, .int gw, .ref r9, .ref r10, .ref r11, .ref r12, .ref r13, .ref r14, .ref r15, .ref r16])), (r1, .inl (cI, 80, .inl K)), (r2, .inl (cI, 80, .inl O)), (r3, .inl (cI, 80, .inl T)), (r4, .inl (cI, 80, .inl Z)), (r5, .inl (cI, 2, .inl Sz)), (r14, .inl (cI, 2, .inl (upd Pl y (bc_pl nn (i + 1))))), (r15, .inl (cI, 2, .inl Sp)), (r16, .inl (cI, 12, .inl (upd Vr ((6 * y) + o) (bc_ar (K (40 * y + i)) (Vr (6 * y + tt)) (Vr (6 * y + zz))))))] H := hP
    have hD : va_D A [(m0, .inr (5, [.int fa, .ref r1, .ref r2, .ref r3, .ref r4, .ref r5, .int rw, .ref r6, .ref r7, .ref r8, .int gw, .ref r9, .ref r10, .ref r11, .ref r12, .ref r13, .ref r14, .ref r15, .ref r16])), (r1, .inl (cI, 80, .inl K)), (r2, .inl (cI, 80, .inl O)), (r3, .inl (cI, 80, .inl T)), (r4, .inl (cI, 80, .inl Z)), (r5, .inl (cI, 2, .inl Sz)), (r14, .inl (cI, 2, .inl (upd Pl y (bc_pl nn (i + 1))))), (r15, .inl (cI, 2, .inl Sp)), (r16, .inl (cI, 12, .inl (upd Vr ((6 * y) + o) (bc_ar (K (40 * y + i)) (Vr (6 * y + tt)) (Vr (6 * y + zz))))))] := hD
    refine lv_aload_n hx hb de_M_step_241 rfl (lv_at hl 3 rfl) ?_
    refine va_get (D := (dC, dI)) (ci := 5) (v := .ref r15) (C := rc_M) (T := fc_M) (N := 19) hx hb htw wi_M hown hK hP 0 rfl rfl 17 (by decide) (htw _ wm_440) (fun _ h9 => h9) rfl de_M_step_242 ?_
    refine lv_iload_n hx hb de_M_step_245 rfl (lv_at hl 4 rfl) ?_
    refine lv_dup2_11 hx hb de_M_step_246 rfl rfl ?_
    refine bc_ild (j := y) hx hb hK hP 7 0 rfl rfl (by omega) (by decide) de_M_step_247 ?_
    refine lv_iconst (v := 1) hx hb de_M_step_248 (by decide) ?_
    refine lv_iadd hx hb de_M_step_249 ?_
    refine bc_ist (j := y) hx hb hK hP hD hS 7 0 rfl rfl (by omega) (by decide) de_M_step_250 (fun H locs hP hD hS => ?_)
    have hP : va_P (dC, dI) classes [(m0, .inr (5, [.int fa, .ref r1, .ref r2, .ref r3, .ref r4, .ref r5, .int rw, .ref r6, .ref r7, .ref r8, .int gw, .ref r9, .ref r10, .ref r11, .ref r12, .ref r13, .ref r14, .ref r15, .ref r16])), (r1, .inl (cI, 80, .inl K)), (r2, .inl (cI, 80, .inl O)), (r3, .inl (cI, 80, .inl T)), (r4, .inl (cI, 80, .inl Z)), (r5, .inl (cI, 2, .inl Sz)), (r14, .inl (cI, 2, .inl (upd Pl y (bc_pl nn (i + 1))))), (r15, .inl (cI, 2, .inl (upd Sp y ((Sp y) + 1)))), (r16, .inl (cI, 12, .inl (upd Vr ((6 * y) + o) (bc_ar (K (40 * y + i)) (Vr (6 * y + tt)) (Vr (6 * y + zz))))))] H := hP
    have hD : va_D A [(m0, .inr (5, [.int fa, .ref r1, .ref r2, .ref r3, .ref r4, .ref r5, .int rw, .ref r6, .ref r7, .ref r8, .int gw, .ref r9, .ref r10, .ref r11, .ref r12, .ref r13, .ref r14, .ref r15, .ref r16])), (r1, .inl (cI, 80, .inl K)), (r2, .inl (cI, 80, .inl O)), (r3, .inl (cI, 80, .inl T)), (r4, .inl (cI, 80, .inl Z)), (r5, .inl (cI, 2, .inl Sz)), (r14, .inl (cI, 2, .inl (upd Pl y (bc_pl nn (i + 1))))), (r15, .inl (cI, 2, .inl (upd Sp y ((Sp y) + 1)))), (r16, .inl (cI, 12, .inl (upd Vr ((6 * y) + o) (bc_ar (K (40 * y + i)) (Vr (6 * y + tt)) (Vr (6 * y + zz))))))] := hD
    have hst := bc_st_a (K := (fun j => K (40 * y + j))) (O := (fun j => O (40 * y + j))) (T := (fun j => T (40 * y + j))) (Z := (fun j => Z (40 * y + j))) (X := (fun v => Vr (6 * y + v))) (i := i) (nn := nn) hs_40_5 hs_40_6 hs_40_7 eO ho (bc_as_2 (K := (fun j => K (40 * y + j))) (T := (fun j => T (40 * y + j))) (Z := (fun j => Z (40 * y + j))) (X := (fun v => Vr (6 * y + v))) (i := i) hs_40_0 hs_40_1 eT htt eZ hzz)
    exact bc_vret F hr hlocks ((upd Pl y (bc_pl nn (i + 1)), upd Sp y ((Sp y) + 1), upd Vr ((6 * y) + o) (bc_ar (K (40 * y + i)) (Vr (6 * y + tt)) (Vr (6 * y + zz))))) ⟨by rw [hst], rfl, by rw [hst]; exact bc_vs_up ho⟩ hP hD hS de_M_step_251

