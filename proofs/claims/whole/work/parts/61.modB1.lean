/-! the class: what throws nothing (by program: wip/whole/gen/modB1.py) -/
section BCQ
variable {p : Program} {l : Launch} {e : Env} {R : Room} {s : State} {m : MethodId} {args : Array Value} {below : List Frame} {meth : Method} {c : Code} {H : Heap} {locs : List Loc} {cells slots : Nat} {Q : State → Prop}
variable {cc bytes : ByteArray} {pc nL maxL n index : Nat} {ls : Array Slot} {rest st0 As : List Value} {b : Addr} {own host C : String} {y : MethodName} {ret : Option FieldType} {rm : Room} {D : va_G} {cl : List vw_C} {A : Nat → Prop} {tys : List (ClassId × FieldType)} {ws wc wr : va_W} {H0 : Heap} {mc ms : Nat}
theorem bc_call_v_q {w1 : va_W} {a9 : Nat} (F : bc_Fx p m c cc nL s args own D cl tys) (hM : Met l y (Cond.code y bytes maxL ret :: wd_all) rm (bc_Pre D cl tys (.ref b :: As) wc H.size) (va_Qr (fun (_ : Unit) => True) (fun (_ : Unit) (a : Nat) t => a = a9 ∧ bc_B D cl tys (va_A wc H.size) w1 t) (va_A wc H.size)) mc ms (va_A wc H.size))
    (k1 : Cond.code y bytes maxL ret ∈ wd_all) (k2 : Cond.initialized y.cls ∈ wd_all) (k3 : Cond.methodLink own index y ∈ wd_all) (k4 : Cond.instanceMethod y ∈ wd_all) (k5 : Cond.selects C y y ∈ wd_all) (q0 : Nat) {ci : Nat} {fs : List Value} {T0 : u_T} {N0 : Nat} (he : ws[q0]? = some (b, .inr (ci, fs))) (hc : cl[ci]? = some (C, T0, N0))
    (hd : y.cls ≠ "java/lang/invoke/MethodHandle" ∧ y.cls ≠ "java/lang/invoke/VarHandle" ∧ (parseMethodDescriptor y.desc).map (fun d => d.parameters.length) = some n) (hrc : rm.cells = mc) (hrs : rm.slots = ms) (hR : rm.frames + 1 ≤ R.frames ∧ 8 + (maxL + 11) + rm.locals ≤ R.locals)
    (hP : va_P D cl ws H) (hD : va_D A ws) (hS : va_S A H0 H locs) (hA : ∀ q, H0.size ≤ q → A q) (isC isR : List Nat) (hC : isC.map (fun i => ws[i]?) = wc.map some) (hRr : isR.map (fun i => ws[i]?) = wr.map some) (hnC : va_nd isC = true) (hn : va_nd isR = true) (hdis : ∀ i ∈ isR, i ∉ isC)
    (hlen : As.length = n) (hsize : ls.size = nL) (hstack : st0 = As.reverse ++ .ref b :: rest) (hW : (rest.map fun v => v.category).sum ≤ 8) (hdg : decode cc pc = .ok (.invokevirtual index, 3)) (hf : cells + mc ≤ R.cells ∧ slots + ms ≤ R.slots)
    (kk : ∀ (H1 : Heap) (locs1 : List Loc), va_P D cl (wr ++ w1) H1 → va_D A (wr ++ w1) → va_S A H0 H1 locs1 → W p l e R s m args below meth c H1 locs1 (cells + mc) (slots + ms) Q (F0 m (pc + 3) ls (.ref a9 :: rest))) : W p l e R s m args below meth c H locs cells slots Q (F0 m pc ls st0) := by
  obtain ⟨hx, hb, hml, ho, htw, hN, hK⟩ := F
  have hFr := va_free (wc := wc) hD hS hA isC hC
  have hPc : va_P D cl wc H := bc_sub hP isC hC
  have hDc : va_D A wc := hD.sub isC hnC hC
  refine va_callr (va_runV (C := C) (As := As) (rest := rest) ⟨hx, hb, hml, ho, htw⟩ hM ⟨callB_of n htw (bc_good k1) rfl hrc hrs (htw _ k2) (htw _ k3) hd hR, htw _ k4, htw _ k5⟩ (bc_preV hPc hK hDc hN (va_recv hK hP hc he)) rfl hlen hsize hstack (lv_room hW) hdg hf) hS (fun q _ h => hFr q h) hFr (fun u ra t H1 locs1 ht hvm hp hB hz hk hS1 => ?_)
  obtain ⟨e9, hP1, hK1, hD1⟩ := hB
  subst e9
  rw [ht] at hP1
  obtain ⟨hP2, hD2⟩ := va_join hP hD isC isR hC hRr hn hdis hk hFr hP1 hD1
  exact kk H1 locs1 hP2 hD2 hS1
theorem bc_aretq {w1 : va_W} {a : Nat} {rt : FieldType} (F : bc_Fx p m c cc nL s args own D cl tys) (hr : meth.sig.returnType = some rt) (hrt : (∃ n, rt = .object n) ∨ ∃ t, rt = .array t) (hlocks : meth.locks = false) (hP : va_P D cl w1 H) (hD : va_D A w1) (hS : va_S A s.heap H locs) (hdg : decode cc pc = .ok (.areturn, 1)) :
    W p l e R s m args below meth c H locs cells slots (MQ below (va_Qr (fun (_ : Unit) => True) (fun (_ : Unit) (a' : Nat) t => a' = a ∧ bc_B D cl tys A w1 t) A) args s cells slots A) (F0 m pc ls [.ref a]) :=
  W.aret F.1 F.2.1 hr hrt (Or.inr ⟨a, rfl⟩) (fun t ht hW => ⟨⟨(), a, rfl, trivial, rfl, by rw [ht]; exact hP, va_K.moved hW.alike F.2.2.2.2.2.2, hD⟩, hS.F ht⟩) hS.2.2 hdg hlocks
end BCQ
def bc_CI (an : Int32) (n : Nat) (P : Nat → bc_F) (S C Wt : bc_F) : Prop := (∀ j, j < 40 → Wt j = 0) ∧ (an = 0 ∨ (an = 1 ∧ ∃ g, bc_en S C g ∧ bc_Lst n (P 1) (P 2) (P 3) (P 4) g))
theorem bc_nb_S {n : Nat} {S C : bc_F} {g : bc_G} (hn : n ≤ 40) (h : bc_en S C g) : bc_sm (fun j => if S (6 * j + 0) = 0 then 0 else 1) n = bc_nb g n := by
  unfold bc_nb
  have main : ∀ m, m ≤ n → bc_sm (fun j => if S (6 * j + 0) = 0 then 0 else 1) m = bc_sm (fun j => if bc_b (g j) = 0 then 0 else 1) m := by
    intro m
    induction m with
    | zero => intro _; rfl
    | succ m ih =>
      intro hm
      have e : (S (6 * m + 0) = 0) = (bc_b (g m) = 0) := by
        rw [(h m (by omega) 0 (by omega)).1]
        cases g m with
        | none => rfl
        | some r =>
          refine propext ⟨fun z => ?_, fun z => absurd z (by show ¬ (1 : Int32) = 0; decide)⟩
          have := bc_s0_0 z
          cases this
      show bc_sm _ m + (if S (6 * m + 0) = 0 then 0 else 1) = bc_sm _ m + (if bc_b (g m) = 0 then 0 else 1)
      rw [ih (by omega)]
      simp only [e]
  exact main n (Nat.le_refl _)
set_option maxHeartbeats 4000000 in
set_option maxRecDepth 100000 in
/-- what followed is forgotten -/
theorem co_B_forgetWhatFollowed {l : Launch} {dC : Nat → ClassId} {dI : Nat → Nat → Nat} {cI cZ : ClassId} {sz : Nat} {b0 h0 g0 a0 w0 e0 v1 f0 v2 : Nat} {an ra pl0 pl1 sp0 sp1 on0 on1 : Int32}   : Met l yn_B_forgetWhatFollowed (Cond.code yn_B_forgetWhatFollowed by_B_forgetWhatFollowed 1 none :: wd_all) ({ frames := 0, cells := 0, slots := 0, locals := 0 } : Room) (bc_Pre (dC, dI) classes [(cI, .int), (cZ, .boolean)] [.ref b0] [(b0, .inr (4, [.ref h0, .ref g0, .ref a0, .ref w0, .ref e0, .ref f0, .int an, .int ra])), (e0, .inr (2, [.ref v1, .int pl0, .int sp0, .int on0])), (f0, .inr (2, [.ref v2, .int pl1, .int sp1, .int on1]))] sz) (va_Qv (fun (u : Unit) => True) (fun (u : Unit) t => bc_B (dC, dI) classes [(cI, .int), (cZ, .boolean)] (va_A [(b0, .inr (4, [.ref h0, .ref g0, .ref a0, .ref w0, .ref e0, .ref f0, .int an, .int ra])), (e0, .inr (2, [.ref v1, .int pl0, .int sp0, .int on0])), (f0, .inr (2, [.ref v2, .int pl1, .int sp1, .int on1]))] sz) [(b0, .inr (4, [.ref h0, .ref g0, .ref a0, .ref w0, .ref e0, .ref f0, .int 0, .int 0])), (e0, .inr (2, [.ref v1, .int pl0, .int sp0, .int 0])), (f0, .inr (2, [.ref v2, .int pl1, .int sp1, .int 0]))] t) ((va_A [(b0, .inr (4, [.ref h0, .ref g0, .ref a0, .ref w0, .ref e0, .ref f0, .int an, .int ra])), (e0, .inr (2, [.ref v1, .int pl0, .int sp0, .int on0])), (f0, .inr (2, [.ref v2, .int pl1, .int sp1, .int on1]))] sz))) 0 0 (va_A [(b0, .inr (4, [.ref h0, .ref g0, .ref a0, .ref w0, .ref e0, .ref f0, .int an, .int ra])), (e0, .inr (2, [.ref v1, .int pl0, .int sp0, .int on0])), (f0, .inr (2, [.ref v2, .int pl1, .int sp1, .int on1]))] sz) := by
  refine bc_met (fun A => va_Qv (fun (u : Unit) => True) (fun (u : Unit) t => bc_B (dC, dI) classes [(cI, .int), (cZ, .boolean)] A [(b0, .inr (4, [.ref h0, .ref g0, .ref a0, .ref w0, .ref e0, .ref f0, .int 0, .int 0])), (e0, .inr (2, [.ref v1, .int pl0, .int sp0, .int 0])), (f0, .inr (2, [.ref v2, .int pl1, .int sp1, .int 0]))] t) A) (by decide) (Nat.le_of_ble_eq_true rfl) ?_
  intro p e s m args below meth c A ls F hr hlocks hin hA hP hD hl hS
  have hx := F.1
  have hb := F.2.1
  have hml := F.2.2.1
  have hown : s.vm.findClass "BranchConstants" = some m.cls := F.2.2.2.1
  have htw := F.2.2.2.2.1
  have hN := F.2.2.2.2.2.1
  have hK := F.2.2.2.2.2.2
  have hl : lv_has ls 1 [(0, .ref b0)] := hl
  refine lv_aload_n hx hb de_B_forgetWhatFollowed_0 rfl (lv_at hl 0 rfl) ?_
  refine lv_iconst (v := 0) hx hb de_B_forgetWhatFollowed_1 (by decide) ?_
  refine va_put (D := (dC, dI)) (ci := 4) (v := .int 0) (ty := .boolean) (C := rc_B) (T := fc_B) (N := 8) hx hb htw wi_B tc_B tc_B_ok nc_B hown hK hP hD hS 0 rfl rfl 6 (by decide) (htw _ wm_93) (fun _ h9 => h9) rfl (by decide +kernel) rfl rfl (Nat.le_of_ble_eq_true rfl) de_B_forgetWhatFollowed_2 (fun H locs hP hD hS => ?_)
  have hP : va_P (dC, dI) classes [(b0, .inr (4, [.ref h0, .ref g0, .ref a0, .ref w0, .ref e0, .ref f0, .int 0, .int ra])), (e0, .inr (2, [.ref v1, .int pl0, .int sp0, .int on0])), (f0, .inr (2, [.ref v2, .int pl1, .int sp1, .int on1]))] H := hP
  have hD : va_D A [(b0, .inr (4, [.ref h0, .ref g0, .ref a0, .ref w0, .ref e0, .ref f0, .int 0, .int ra])), (e0, .inr (2, [.ref v1, .int pl0, .int sp0, .int on0])), (f0, .inr (2, [.ref v2, .int pl1, .int sp1, .int on1]))] := hD
  refine lv_aload_n hx hb de_B_forgetWhatFollowed_5 rfl (lv_at hl 0 rfl) ?_
  refine lv_iconst (v := 0) hx hb de_B_forgetWhatFollowed_6 (by decide) ?_
  refine va_put (D := (dC, dI)) (ci := 4) (v := .int 0) (ty := .boolean) (C := rc_B) (T := fc_B) (N := 8) hx hb htw wi_B tc_B tc_B_ok nc_B hown hK hP hD hS 0 rfl rfl 7 (by decide) (htw _ wm_94) (fun _ h9 => h9) rfl (by decide +kernel) rfl rfl (Nat.le_of_ble_eq_true rfl) de_B_forgetWhatFollowed_7 (fun H locs hP hD hS => ?_)
  have hP : va_P (dC, dI) classes [(b0, .inr (4, [.ref h0, .ref g0, .ref a0, .ref w0, .ref e0, .ref f0, .int 0, .int 0])), (e0, .inr (2, [.ref v1, .int pl0, .int sp0, .int on0])), (f0, .inr (2, [.ref v2, .int pl1, .int sp1, .int on1]))] H := hP
  have hD : va_D A [(b0, .inr (4, [.ref h0, .ref g0, .ref a0, .ref w0, .ref e0, .ref f0, .int 0, .int 0])), (e0, .inr (2, [.ref v1, .int pl0, .int sp0, .int on0])), (f0, .inr (2, [.ref v2, .int pl1, .int sp1, .int on1]))] := hD
  refine lv_aload_n hx hb de_B_forgetWhatFollowed_10 rfl (lv_at hl 0 rfl) ?_
  refine va_get (D := (dC, dI)) (ci := 4) (v := .ref e0) (C := rc_B) (T := fc_B) (N := 8) hx hb htw wi_B hown hK hP 0 rfl rfl 4 (by decide) (htw _ wm_91) (fun _ h9 => h9) rfl de_B_forgetWhatFollowed_11 ?_
  refine lv_iconst (v := 0) hx hb de_B_forgetWhatFollowed_14 (by decide) ?_
  refine va_putN (D := (dC, dI)) (ci := 2) (v := .int 0) (ty := .boolean) (C := rc_E) (T := fc_E) (N := 4) hx hb htw wi_E tc_E tc_E_ok nc_E hown hK hP hD hS 1 rfl rfl 3 (by decide) (va_Nw.use rfl (hN _ nm_26)) (fun _ h9 => h9) rfl (by decide +kernel) rfl rfl (Nat.le_of_ble_eq_true rfl) de_B_forgetWhatFollowed_15 (fun H locs hP hD hS => ?_)
  have hP : va_P (dC, dI) classes [(b0, .inr (4, [.ref h0, .ref g0, .ref a0, .ref w0, .ref e0, .ref f0, .int 0, .int 0])), (e0, .inr (2, [.ref v1, .int pl0, .int sp0, .int 0])), (f0, .inr (2, [.ref v2, .int pl1, .int sp1, .int on1]))] H := hP
  have hD : va_D A [(b0, .inr (4, [.ref h0, .ref g0, .ref a0, .ref w0, .ref e0, .ref f0, .int 0, .int 0])), (e0, .inr (2, [.ref v1, .int pl0, .int sp0, .int 0])), (f0, .inr (2, [.ref v2, .int pl1, .int sp1, .int on1]))] := hD
  refine lv_aload_n hx hb de_B_forgetWhatFollowed_18 rfl (lv_at hl 0 rfl) ?_
  refine va_get (D := (dC, dI)) (ci := 4) (v := .ref f0) (C := rc_B) (T := fc_B) (N := 8) hx hb htw wi_B hown hK hP 0 rfl rfl 5 (by decide) (htw _ wm_92) (fun _ h9 => h9) rfl de_B_forgetWhatFollowed_19 ?_
  refine lv_iconst (v := 0) hx hb de_B_forgetWhatFollowed_22 (by decide) ?_
  refine va_putN (D := (dC, dI)) (ci := 2) (v := .int 0) (ty := .boolean) (C := rc_E) (T := fc_E) (N := 4) hx hb htw wi_E tc_E tc_E_ok nc_E hown hK hP hD hS 2 rfl rfl 3 (by decide) (va_Nw.use rfl (hN _ nm_26)) (fun _ h9 => h9) rfl (by decide +kernel) rfl rfl (Nat.le_of_ble_eq_true rfl) de_B_forgetWhatFollowed_23 (fun H locs hP hD hS => ?_)
  have hP : va_P (dC, dI) classes [(b0, .inr (4, [.ref h0, .ref g0, .ref a0, .ref w0, .ref e0, .ref f0, .int 0, .int 0])), (e0, .inr (2, [.ref v1, .int pl0, .int sp0, .int 0])), (f0, .inr (2, [.ref v2, .int pl1, .int sp1, .int 0]))] H := hP
  have hD : va_D A [(b0, .inr (4, [.ref h0, .ref g0, .ref a0, .ref w0, .ref e0, .ref f0, .int 0, .int 0])), (e0, .inr (2, [.ref v1, .int pl0, .int sp0, .int 0])), (f0, .inr (2, [.ref v2, .int pl1, .int sp1, .int 0]))] := hD
  exact bc_vret F hr hlocks (()) trivial hP hD hS de_B_forgetWhatFollowed_26

set_option maxHeartbeats 4000000 in
set_option maxRecDepth 100000 in
/-- the analysis, once -/
theorem co_B_analyseOnce {l : Launch} {dC : Nat → ClassId} {dI : Nat → Nat → Nat} {cI cZ : ClassId} {sz : Nat} {b0 h0 q1 q2 q3 q4 g0 a0 s1 s2 s3 s4 s5 w0 e0 f0 n : Nat} {P : Nat → bc_F} {S C Wt SB CB : bc_F} {res an ra : Int32}  (hn : n ≤ 40) (hw : bc_wf n (P 1) (P 2) (P 3) (P 4)) (hCI : bc_CI an n P S C Wt) : Met l yn_B_analyseOnce (Cond.code yn_B_analyseOnce by_B_analyseOnce 1 none :: wd_all) ({ frames := 5, cells := 0, slots := 0, locals := 114 } : Room) (bc_Pre (dC, dI) classes [(cI, .int), (cZ, .boolean)] [.ref b0] [(b0, .inr (4, [.ref h0, .ref g0, .ref a0, .ref w0, .ref e0, .ref f0, .int an, .int ra])), (a0, .inr (0, [.ref s1, .ref s2, .ref s3, .ref s4, .ref s5, .int res])), (s1, .inl (cI, 240, .inl S)), (s2, .inl (cI, 240, .inl C)), (s3, .inl (cZ, 40, .inl Wt)), (s4, .inl (cI, 6, .inl SB)), (s5, .inl (cI, 6, .inl CB)), (h0, .inr (1, [.ref q1, .ref q2, .ref q3, .ref q4, .int (nI n)])), (q1, .inl (cI, 40, .inl (P 1))), (q2, .inl (cI, 40, .inl (P 2))), (q3, .inl (cI, 40, .inl (P 3))), (q4, .inl (cI, 40, .inl (P 4)))] sz) (va_Qv (fun (u : bc_F × bc_F × bc_F × bc_F × bc_F × Int32) => (∃ g, bc_en u.1 u.2.1 g ∧ bc_Lst n (P 1) (P 2) (P 3) (P 4) g) ∧ ∀ j, j < 40 → u.2.2.1 j = 0) (fun (u : bc_F × bc_F × bc_F × bc_F × bc_F × Int32) t => bc_B (dC, dI) classes [(cI, .int), (cZ, .boolean)] (va_A [(b0, .inr (4, [.ref h0, .ref g0, .ref a0, .ref w0, .ref e0, .ref f0, .int an, .int ra])), (a0, .inr (0, [.ref s1, .ref s2, .ref s3, .ref s4, .ref s5, .int res])), (s1, .inl (cI, 240, .inl S)), (s2, .inl (cI, 240, .inl C)), (s3, .inl (cZ, 40, .inl Wt)), (s4, .inl (cI, 6, .inl SB)), (s5, .inl (cI, 6, .inl CB)), (h0, .inr (1, [.ref q1, .ref q2, .ref q3, .ref q4, .int (nI n)])), (q1, .inl (cI, 40, .inl (P 1))), (q2, .inl (cI, 40, .inl (P 2))), (q3, .inl (cI, 40, .inl (P 3))), (q4, .inl (cI, 40, .inl (P 4)))] sz) [(b0, .inr (4, [.ref h0, .ref g0, .ref a0, .ref w0, .ref e0, .ref f0, .int 1, .int ra])), (a0, .inr (0, [.ref s1, .ref s2, .ref s3, .ref s4, .ref s5, .int u.2.2.2.2.2])), (s1, .inl (cI, 240, .inl u.1)), (s2, .inl (cI, 240, .inl u.2.1)), (s3, .inl (cZ, 40, .inl u.2.2.1)), (s4, .inl (cI, 6, .inl u.2.2.2.1)), (s5, .inl (cI, 6, .inl u.2.2.2.2.1)), (h0, .inr (1, [.ref q1, .ref q2, .ref q3, .ref q4, .int (nI n)])), (q1, .inl (cI, 40, .inl (P 1))), (q2, .inl (cI, 40, .inl (P 2))), (q3, .inl (cI, 40, .inl (P 3))), (q4, .inl (cI, 40, .inl (P 4)))] t) ((va_A [(b0, .inr (4, [.ref h0, .ref g0, .ref a0, .ref w0, .ref e0, .ref f0, .int an, .int ra])), (a0, .inr (0, [.ref s1, .ref s2, .ref s3, .ref s4, .ref s5, .int res])), (s1, .inl (cI, 240, .inl S)), (s2, .inl (cI, 240, .inl C)), (s3, .inl (cZ, 40, .inl Wt)), (s4, .inl (cI, 6, .inl SB)), (s5, .inl (cI, 6, .inl CB)), (h0, .inr (1, [.ref q1, .ref q2, .ref q3, .ref q4, .int (nI n)])), (q1, .inl (cI, 40, .inl (P 1))), (q2, .inl (cI, 40, .inl (P 2))), (q3, .inl (cI, 40, .inl (P 3))), (q4, .inl (cI, 40, .inl (P 4)))] sz))) 0 0 (va_A [(b0, .inr (4, [.ref h0, .ref g0, .ref a0, .ref w0, .ref e0, .ref f0, .int an, .int ra])), (a0, .inr (0, [.ref s1, .ref s2, .ref s3, .ref s4, .ref s5, .int res])), (s1, .inl (cI, 240, .inl S)), (s2, .inl (cI, 240, .inl C)), (s3, .inl (cZ, 40, .inl Wt)), (s4, .inl (cI, 6, .inl SB)), (s5, .inl (cI, 6, .inl CB)), (h0, .inr (1, [.ref q1, .ref q2, .ref q3, .ref q4, .int (nI n)])), (q1, .inl (cI, 40, .inl (P 1))), (q2, .inl (cI, 40, .inl (P 2))), (q3, .inl (cI, 40, .inl (P 3))), (q4, .inl (cI, 40, .inl (P 4)))] sz) := by
  refine bc_met (fun A => va_Qv (fun (u : bc_F × bc_F × bc_F × bc_F × bc_F × Int32) => (∃ g, bc_en u.1 u.2.1 g ∧ bc_Lst n (P 1) (P 2) (P 3) (P 4) g) ∧ ∀ j, j < 40 → u.2.2.1 j = 0) (fun (u : bc_F × bc_F × bc_F × bc_F × bc_F × Int32) t => bc_B (dC, dI) classes [(cI, .int), (cZ, .boolean)] A [(b0, .inr (4, [.ref h0, .ref g0, .ref a0, .ref w0, .ref e0, .ref f0, .int 1, .int ra])), (a0, .inr (0, [.ref s1, .ref s2, .ref s3, .ref s4, .ref s5, .int u.2.2.2.2.2])), (s1, .inl (cI, 240, .inl u.1)), (s2, .inl (cI, 240, .inl u.2.1)), (s3, .inl (cZ, 40, .inl u.2.2.1)), (s4, .inl (cI, 6, .inl u.2.2.2.1)), (s5, .inl (cI, 6, .inl u.2.2.2.2.1)), (h0, .inr (1, [.ref q1, .ref q2, .ref q3, .ref q4, .int (nI n)])), (q1, .inl (cI, 40, .inl (P 1))), (q2, .inl (cI, 40, .inl (P 2))), (q3, .inl (cI, 40, .inl (P 3))), (q4, .inl (cI, 40, .inl (P 4)))] t) A) (by decide) (Nat.le_of_ble_eq_true rfl) ?_
  intro p e s m args below meth c A ls F hr hlocks hin hA hP hD hl hS
  have hx := F.1
  have hb := F.2.1
  have hml := F.2.2.1
  have hown : s.vm.findClass "BranchConstants" = some m.cls := F.2.2.2.1
  have htw := F.2.2.2.2.1
  have hN := F.2.2.2.2.2.1
  have hK := F.2.2.2.2.2.2
  have hl : lv_has ls 1 [(0, .ref b0)] := hl
  rcases hCI with ⟨hW, e9 | ⟨e9, hg⟩⟩
  · subst e9
    refine lv_aload_n hx hb de_B_analyseOnce_0 rfl (lv_at hl 0 rfl) ?_
    refine va_get (D := (dC, dI)) (ci := 4) (v := .int 0) (C := rc_B) (T := fc_B) (N := 8) hx hb htw wi_B hown hK hP 0 rfl rfl 6 (by decide) (htw _ wm_93) (fun _ h9 => h9) rfl de_B_analyseOnce_1 ?_
    refine lv_if_ne (tgt := 23) hx hb de_B_analyseOnce_4 (by decide) (fun hc => absurd (by decide) hc) (fun _ => ?_)
    refine lv_aload_n hx hb de_B_analyseOnce_7 rfl (lv_at hl 0 rfl) ?_
    refine va_get (D := (dC, dI)) (ci := 4) (v := .ref a0) (C := rc_B) (T := fc_B) (N := 8) hx hb htw wi_B hown hK hP 0 rfl rfl 2 (by decide) (htw _ wm_89) (fun _ h9 => h9) rfl de_B_analyseOnce_8 ?_
    refine lv_aload_n hx hb de_B_analyseOnce_11 rfl (lv_at hl 0 rfl) ?_
    refine va_get (D := (dC, dI)) (ci := 4) (v := .ref h0) (C := rc_B) (T := fc_B) (N := 8) hx hb htw wi_B hown hK hP 0 rfl rfl 0 (by decide) (htw _ wm_87) (fun _ h9 => h9) rfl de_B_analyseOnce_12 ?_
    refine bc_call_nv_v (As := [.ref h0]) (rest := []) (wr := [(b0, .inr (4, [.ref h0, .ref g0, .ref a0, .ref w0, .ref e0, .ref f0, .int 0, .int ra]))]) F (co_A_perform hn hw hW) wm_119 wm_3 nm_27 wm_118 wm_592 1 rfl rfl pd_A_perform rfl rfl ⟨Nat.le_of_ble_eq_true rfl, Nat.le_of_ble_eq_true rfl⟩ hP hD hS hA [1, 2, 3, 4, 5, 6, 7, 8, 9, 10, 11] [0] rfl rfl rfl rfl (by decide) rfl hl.1 rfl (Nat.le_of_ble_eq_true rfl) de_B_analyseOnce_15 ⟨Nat.le_of_ble_eq_true rfl, Nat.le_of_ble_eq_true rfl⟩ (fun u_15 H locs hw_15 hP hD hS => ?_)
    obtain ⟨S1, C1, W1, SB1, CB1, x1⟩ := u_15
    try dsimp only at hw_15
    have hP : va_P (dC, dI) classes [(b0, .inr (4, [.ref h0, .ref g0, .ref a0, .ref w0, .ref e0, .ref f0, .int 0, .int ra])), (a0, .inr (0, [.ref s1, .ref s2, .ref s3, .ref s4, .ref s5, .int x1])), (s1, .inl (cI, 240, .inl S1)), (s2, .inl (cI, 240, .inl C1)), (s3, .inl (cZ, 40, .inl W1)), (s4, .inl (cI, 6, .inl SB1)), (s5, .inl (cI, 6, .inl CB1)), (h0, .inr (1, [.ref q1, .ref q2, .ref q3, .ref q4, .int (nI n)])), (q1, .inl (cI, 40, .inl (P 1))), (q2, .inl (cI, 40, .inl (P 2))), (q3, .inl (cI, 40, .inl (P 3))), (q4, .inl (cI, 40, .inl (P 4)))] H := hP.sub [0, 1, 2, 3, 4, 5, 6, 7, 8, 9, 10, 11] rfl
    have hD : va_D A [(b0, .inr (4, [.ref h0, .ref g0, .ref a0, .ref w0, .ref e0, .ref f0, .int 0, .int ra])), (a0, .inr (0, [.ref s1, .ref s2, .ref s3, .ref s4, .ref s5, .int x1])), (s1, .inl (cI, 240, .inl S1)), (s2, .inl (cI, 240, .inl C1)), (s3, .inl (cZ, 40, .inl W1)), (s4, .inl (cI, 6, .inl SB1)), (s5, .inl (cI, 6, .inl CB1)), (h0, .inr (1, [.ref q1, .ref q2, .ref q3, .ref q4, .int (nI n)])), (q1, .inl (cI, 40, .inl (P 1))), (q2, .inl (cI, 40, .inl (P 2))), (q3, .inl (cI, 40, .inl (P 3))), (q4, .inl (cI, 40, .inl (P 4)))] := hD.sub [0, 1, 2, 3, 4, 5, 6, 7, 8, 9, 10, 11] (by decide) rfl
    refine lv_aload_n hx hb de_B_analyseOnce_18 rfl (lv_at hl 0 rfl) ?_
    refine lv_iconst (v := 1) hx hb de_B_analyseOnce_19 (by decide) ?_
    refine va_put (D := (dC, dI)) (ci := 4) (v := .int 1) (ty := .boolean) (C := rc_B) (T := fc_B) (N := 8) hx hb htw wi_B tc_B tc_B_ok nc_B hown hK hP hD hS 0 rfl rfl 6 (by decide) (htw _ wm_93) (fun _ h9 => h9) rfl (by decide +kernel) rfl rfl (Nat.le_of_ble_eq_true rfl) de_B_analyseOnce_20 (fun H locs hP hD hS => ?_)
    have hP : va_P (dC, dI) classes [(b0, .inr (4, [.ref h0, .ref g0, .ref a0, .ref w0, .ref e0, .ref f0, .int 1, .int ra])), (a0, .inr (0, [.ref s1, .ref s2, .ref s3, .ref s4, .ref s5, .int x1])), (s1, .inl (cI, 240, .inl S1)), (s2, .inl (cI, 240, .inl C1)), (s3, .inl (cZ, 40, .inl W1)), (s4, .inl (cI, 6, .inl SB1)), (s5, .inl (cI, 6, .inl CB1)), (h0, .inr (1, [.ref q1, .ref q2, .ref q3, .ref q4, .int (nI n)])), (q1, .inl (cI, 40, .inl (P 1))), (q2, .inl (cI, 40, .inl (P 2))), (q3, .inl (cI, 40, .inl (P 3))), (q4, .inl (cI, 40, .inl (P 4)))] H := hP
    have hD : va_D A [(b0, .inr (4, [.ref h0, .ref g0, .ref a0, .ref w0, .ref e0, .ref f0, .int 1, .int ra])), (a0, .inr (0, [.ref s1, .ref s2, .ref s3, .ref s4, .ref s5, .int x1])), (s1, .inl (cI, 240, .inl S1)), (s2, .inl (cI, 240, .inl C1)), (s3, .inl (cZ, 40, .inl W1)), (s4, .inl (cI, 6, .inl SB1)), (s5, .inl (cI, 6, .inl CB1)), (h0, .inr (1, [.ref q1, .ref q2, .ref q3, .ref q4, .int (nI n)])), (q1, .inl (cI, 40, .inl (P 1))), (q2, .inl (cI, 40, .inl (P 2))), (q3, .inl (cI, 40, .inl (P 3))), (q4, .inl (cI, 40, .inl (P 4)))] := hD
    exact bc_vret F hr hlocks ((S1, C1, W1, SB1, CB1, x1)) hw_15 hP hD hS de_B_analyseOnce_23
  · subst e9
    refine lv_aload_n hx hb de_B_analyseOnce_0 rfl (lv_at hl 0 rfl) ?_
    refine va_get (D := (dC, dI)) (ci := 4) (v := .int 1) (C := rc_B) (T := fc_B) (N := 8) hx hb htw wi_B hown hK hP 0 rfl rfl 6 (by decide) (htw _ wm_93) (fun _ h9 => h9) rfl de_B_analyseOnce_1 ?_
    refine lv_if_ne (tgt := 23) hx hb de_B_analyseOnce_4 (by decide) (fun _ => ?_) (fun hc => absurd hc (by decide))
    exact bc_vret F hr hlocks ((S, C, Wt, SB, CB, res)) ⟨hg, hW⟩ hP hD hS de_B_analyseOnce_23

set_option maxHeartbeats 4000000 in
set_option maxRecDepth 100000 in
/-- clear -/
theorem co_B_clear {l : Launch} {dC : Nat → ClassId} {dI : Nat → Nat → Nat} {cI cZ : ClassId} {sz : Nat} {b0 h0 q1 q2 q3 q4 g0 a0 w0 e0 v1 f0 v2 n : Nat} {an ra pl0 pl1 sp0 sp1 on0 on1 : Int32}   : Met l yn_B_clear (Cond.code yn_B_clear by_B_clear 2 (some FieldType.int) :: wd_all) ({ frames := 1, cells := 0, slots := 0, locals := 20 } : Room) (bc_Pre (dC, dI) classes [(cI, .int), (cZ, .boolean)] [.ref b0] [(b0, .inr (4, [.ref h0, .ref g0, .ref a0, .ref w0, .ref e0, .ref f0, .int an, .int ra])), (h0, .inr (1, [.ref q1, .ref q2, .ref q3, .ref q4, .int (nI n)])), (e0, .inr (2, [.ref v1, .int pl0, .int sp0, .int on0])), (f0, .inr (2, [.ref v2, .int pl1, .int sp1, .int on1]))] sz) (va_Qi (fun (r : Int32) (u : Unit) => r = nI n) (fun (u : Unit) t => bc_B (dC, dI) classes [(cI, .int), (cZ, .boolean)] (va_A [(b0, .inr (4, [.ref h0, .ref g0, .ref a0, .ref w0, .ref e0, .ref f0, .int an, .int ra])), (h0, .inr (1, [.ref q1, .ref q2, .ref q3, .ref q4, .int (nI n)])), (e0, .inr (2, [.ref v1, .int pl0, .int sp0, .int on0])), (f0, .inr (2, [.ref v2, .int pl1, .int sp1, .int on1]))] sz) [(b0, .inr (4, [.ref h0, .ref g0, .ref a0, .ref w0, .ref e0, .ref f0, .int 0, .int 0])), (h0, .inr (1, [.ref q1, .ref q2, .ref q3, .ref q4, .int (nI 0)])), (e0, .inr (2, [.ref v1, .int pl0, .int sp0, .int 0])), (f0, .inr (2, [.ref v2, .int pl1, .int sp1, .int 0]))] t) ((va_A [(b0, .inr (4, [.ref h0, .ref g0, .ref a0, .ref w0, .ref e0, .ref f0, .int an, .int ra])), (h0, .inr (1, [.ref q1, .ref q2, .ref q3, .ref q4, .int (nI n)])), (e0, .inr (2, [.ref v1, .int pl0, .int sp0, .int on0])), (f0, .inr (2, [.ref v2, .int pl1, .int sp1, .int on1]))] sz))) 0 0 (va_A [(b0, .inr (4, [.ref h0, .ref g0, .ref a0, .ref w0, .ref e0, .ref f0, .int an, .int ra])), (h0, .inr (1, [.ref q1, .ref q2, .ref q3, .ref q4, .int (nI n)])), (e0, .inr (2, [.ref v1, .int pl0, .int sp0, .int on0])), (f0, .inr (2, [.ref v2, .int pl1, .int sp1, .int on1]))] sz) := by
  refine bc_met (fun A => va_Qi (fun (r : Int32) (u : Unit) => r = nI n) (fun (u : Unit) t => bc_B (dC, dI) classes [(cI, .int), (cZ, .boolean)] A [(b0, .inr (4, [.ref h0, .ref g0, .ref a0, .ref w0, .ref e0, .ref f0, .int 0, .int 0])), (h0, .inr (1, [.ref q1, .ref q2, .ref q3, .ref q4, .int (nI 0)])), (e0, .inr (2, [.ref v1, .int pl0, .int sp0, .int 0])), (f0, .inr (2, [.ref v2, .int pl1, .int sp1, .int 0]))] t) A) (by decide) (Nat.le_of_ble_eq_true rfl) ?_
  intro p e s m args below meth c A ls F hr hlocks hin hA hP hD hl hS
  have hx := F.1
  have hb := F.2.1
  have hml := F.2.2.1
  have hown : s.vm.findClass "BranchConstants" = some m.cls := F.2.2.2.1
  have htw := F.2.2.2.2.1
  have hN := F.2.2.2.2.2.1
  have hK := F.2.2.2.2.2.2
  have hl : lv_has ls 2 [(0, .ref b0)] := hl
  refine lv_aload_n hx hb de_B_clear_0 rfl (lv_at hl 0 rfl) ?_
  refine va_get (D := (dC, dI)) (ci := 4) (v := .ref h0) (C := rc_B) (T := fc_B) (N := 8) hx hb htw wi_B hown hK hP 0 rfl rfl 0 (by decide) (htw _ wm_87) (fun _ h9 => h9) rfl de_B_clear_1 ?_
  refine va_getN (D := (dC, dI)) (ci := 1) (v := .int (nI n)) (C := rc_C) (T := fc_C) (N := 5) hx hb htw wi_C hown hK hP 1 rfl rfl 4 (by decide) (va_Nw.use rfl (hN _ nm_13)) (fun _ h9 => h9) rfl de_B_clear_4 ?_
  refine lv_istore_n (lv' := [(1, .int (nI n)), (0, .ref b0)]) hx hb de_B_clear_7 rfl hl (by decide) rfl (fun ls hl => ?_)
  refine lv_aload_n hx hb de_B_clear_8 rfl (lv_at hl 1 rfl) ?_
  refine va_get (D := (dC, dI)) (ci := 4) (v := .ref h0) (C := rc_B) (T := fc_B) (N := 8) hx hb htw wi_B hown hK hP 0 rfl rfl 0 (by decide) (htw _ wm_87) (fun _ h9 => h9) rfl de_B_clear_9 ?_
  refine lv_iconst (v := 0) hx hb de_B_clear_12 (by decide) ?_
  refine va_putN (D := (dC, dI)) (ci := 1) (v := .int 0) (ty := .int) (C := rc_C) (T := fc_C) (N := 5) hx hb htw wi_C tc_C tc_C_ok nc_C hown hK hP hD hS 1 rfl rfl 4 (by decide) (va_Nw.use rfl (hN _ nm_13)) (fun _ h9 => h9) rfl (by decide +kernel) rfl rfl (Nat.le_of_ble_eq_true rfl) de_B_clear_13 (fun H locs hP hD hS => ?_)
  have hP : va_P (dC, dI) classes [(b0, .inr (4, [.ref h0, .ref g0, .ref a0, .ref w0, .ref e0, .ref f0, .int an, .int ra])), (h0, .inr (1, [.ref q1, .ref q2, .ref q3, .ref q4, .int 0])), (e0, .inr (2, [.ref v1, .int pl0, .int sp0, .int on0])), (f0, .inr (2, [.ref v2, .int pl1, .int sp1, .int on1]))] H := hP
  have hD : va_D A [(b0, .inr (4, [.ref h0, .ref g0, .ref a0, .ref w0, .ref e0, .ref f0, .int an, .int ra])), (h0, .inr (1, [.ref q1, .ref q2, .ref q3, .ref q4, .int 0])), (e0, .inr (2, [.ref v1, .int pl0, .int sp0, .int on0])), (f0, .inr (2, [.ref v2, .int pl1, .int sp1, .int on1]))] := hD
  refine lv_aload_n hx hb de_B_clear_16 rfl (lv_at hl 1 rfl) ?_
  refine bc_call_v_v (As := []) (rest := []) (wr := [(h0, .inr (1, [.ref q1, .ref q2, .ref q3, .ref q4, .int 0]))]) F (co_B_forgetWhatFollowed) wm_110 wm_1 wm_108 wm_109 wm_590 0 rfl rfl pd_B_forgetWhatFollowed rfl rfl ⟨Nat.le_of_ble_eq_true rfl, Nat.le_of_ble_eq_true rfl⟩ hP hD hS hA [0, 2, 3] [1] rfl rfl rfl rfl (by decide) rfl hl.1 rfl (Nat.le_of_ble_eq_true rfl) de_B_clear_17 ⟨Nat.le_of_ble_eq_true rfl, Nat.le_of_ble_eq_true rfl⟩ (fun u_17 H locs hw_17 hP hD hS => ?_)
  have hP : va_P (dC, dI) classes [(b0, .inr (4, [.ref h0, .ref g0, .ref a0, .ref w0, .ref e0, .ref f0, .int 0, .int 0])), (h0, .inr (1, [.ref q1, .ref q2, .ref q3, .ref q4, .int 0])), (e0, .inr (2, [.ref v1, .int pl0, .int sp0, .int 0])), (f0, .inr (2, [.ref v2, .int pl1, .int sp1, .int 0]))] H := hP.sub [1, 0, 2, 3] rfl
  have hD : va_D A [(b0, .inr (4, [.ref h0, .ref g0, .ref a0, .ref w0, .ref e0, .ref f0, .int 0, .int 0])), (h0, .inr (1, [.ref q1, .ref q2, .ref q3, .ref q4, .int 0])), (e0, .inr (2, [.ref v1, .int pl0, .int sp0, .int 0])), (f0, .inr (2, [.ref v2, .int pl1, .int sp1, .int 0]))] := hD.sub [1, 0, 2, 3] (by decide) rfl
  refine lv_iload_n hx hb de_B_clear_20 rfl (lv_at hl 0 rfl) ?_
  exact bc_iret F hr hlocks (()) rfl hP hD hS de_B_clear_21

set_option maxHeartbeats 4000000 in
set_option maxRecDepth 100000 in
/-- reachedAll -/
theorem co_B_reachedAll {l : Launch} {dC : Nat → ClassId} {dI : Nat → Nat → Nat} {cI cZ : ClassId} {sz : Nat} {b0 h0 q1 q2 q3 q4 g0 a0 s1 s2 s3 s4 s5 w0 e0 f0 n : Nat} {P : Nat → bc_F} {S C Wt SB CB : bc_F} {res an ra : Int32}  (hn : n ≤ 40) (hw : bc_wf n (P 1) (P 2) (P 3) (P 4)) (hCI : bc_CI an n P S C Wt) : Met l yn_B_reachedAll (Cond.code yn_B_reachedAll by_B_reachedAll 1 (some FieldType.int) :: wd_all) ({ frames := 6, cells := 0, slots := 0, locals := 134 } : Room) (bc_Pre (dC, dI) classes [(cI, .int), (cZ, .boolean)] [.ref b0] [(b0, .inr (4, [.ref h0, .ref g0, .ref a0, .ref w0, .ref e0, .ref f0, .int an, .int ra])), (a0, .inr (0, [.ref s1, .ref s2, .ref s3, .ref s4, .ref s5, .int res])), (s1, .inl (cI, 240, .inl S)), (s2, .inl (cI, 240, .inl C)), (s3, .inl (cZ, 40, .inl Wt)), (s4, .inl (cI, 6, .inl SB)), (s5, .inl (cI, 6, .inl CB)), (h0, .inr (1, [.ref q1, .ref q2, .ref q3, .ref q4, .int (nI n)])), (q1, .inl (cI, 40, .inl (P 1))), (q2, .inl (cI, 40, .inl (P 2))), (q3, .inl (cI, 40, .inl (P 3))), (q4, .inl (cI, 40, .inl (P 4)))] sz) (va_Qi (fun (r : Int32) (u : bc_F × bc_F × bc_F × bc_F × bc_F × Int32) => (∃ g, bc_en u.1 u.2.1 g ∧ bc_Lst n (P 1) (P 2) (P 3) (P 4) g ∧ r = nI (bc_nb g n)) ∧ ∀ j, j < 40 → u.2.2.1 j = 0) (fun (u : bc_F × bc_F × bc_F × bc_F × bc_F × Int32) t => bc_B (dC, dI) classes [(cI, .int), (cZ, .boolean)] (va_A [(b0, .inr (4, [.ref h0, .ref g0, .ref a0, .ref w0, .ref e0, .ref f0, .int an, .int ra])), (a0, .inr (0, [.ref s1, .ref s2, .ref s3, .ref s4, .ref s5, .int res])), (s1, .inl (cI, 240, .inl S)), (s2, .inl (cI, 240, .inl C)), (s3, .inl (cZ, 40, .inl Wt)), (s4, .inl (cI, 6, .inl SB)), (s5, .inl (cI, 6, .inl CB)), (h0, .inr (1, [.ref q1, .ref q2, .ref q3, .ref q4, .int (nI n)])), (q1, .inl (cI, 40, .inl (P 1))), (q2, .inl (cI, 40, .inl (P 2))), (q3, .inl (cI, 40, .inl (P 3))), (q4, .inl (cI, 40, .inl (P 4)))] sz) [(b0, .inr (4, [.ref h0, .ref g0, .ref a0, .ref w0, .ref e0, .ref f0, .int 1, .int ra])), (a0, .inr (0, [.ref s1, .ref s2, .ref s3, .ref s4, .ref s5, .int u.2.2.2.2.2])), (s1, .inl (cI, 240, .inl u.1)), (s2, .inl (cI, 240, .inl u.2.1)), (s3, .inl (cZ, 40, .inl u.2.2.1)), (s4, .inl (cI, 6, .inl u.2.2.2.1)), (s5, .inl (cI, 6, .inl u.2.2.2.2.1)), (h0, .inr (1, [.ref q1, .ref q2, .ref q3, .ref q4, .int (nI n)])), (q1, .inl (cI, 40, .inl (P 1))), (q2, .inl (cI, 40, .inl (P 2))), (q3, .inl (cI, 40, .inl (P 3))), (q4, .inl (cI, 40, .inl (P 4)))] t) ((va_A [(b0, .inr (4, [.ref h0, .ref g0, .ref a0, .ref w0, .ref e0, .ref f0, .int an, .int ra])), (a0, .inr (0, [.ref s1, .ref s2, .ref s3, .ref s4, .ref s5, .int res])), (s1, .inl (cI, 240, .inl S)), (s2, .inl (cI, 240, .inl C)), (s3, .inl (cZ, 40, .inl Wt)), (s4, .inl (cI, 6, .inl SB)), (s5, .inl (cI, 6, .inl CB)), (h0, .inr (1, [.ref q1, .ref q2, .ref q3, .ref q4, .int (nI n)])), (q1, .inl (cI, 40, .inl (P 1))), (q2, .inl (cI, 40, .inl (P 2))), (q3, .inl (cI, 40, .inl (P 3))), (q4, .inl (cI, 40, .inl (P 4)))] sz))) 0 0 (va_A [(b0, .inr (4, [.ref h0, .ref g0, .ref a0, .ref w0, .ref e0, .ref f0, .int an, .int ra])), (a0, .inr (0, [.ref s1, .ref s2, .ref s3, .ref s4, .ref s5, .int res])), (s1, .inl (cI, 240, .inl S)), (s2, .inl (cI, 240, .inl C)), (s3, .inl (cZ, 40, .inl Wt)), (s4, .inl (cI, 6, .inl SB)), (s5, .inl (cI, 6, .inl CB)), (h0, .inr (1, [.ref q1, .ref q2, .ref q3, .ref q4, .int (nI n)])), (q1, .inl (cI, 40, .inl (P 1))), (q2, .inl (cI, 40, .inl (P 2))), (q3, .inl (cI, 40, .inl (P 3))), (q4, .inl (cI, 40, .inl (P 4)))] sz) := by
  refine bc_met (fun A => va_Qi (fun (r : Int32) (u : bc_F × bc_F × bc_F × bc_F × bc_F × Int32) => (∃ g, bc_en u.1 u.2.1 g ∧ bc_Lst n (P 1) (P 2) (P 3) (P 4) g ∧ r = nI (bc_nb g n)) ∧ ∀ j, j < 40 → u.2.2.1 j = 0) (fun (u : bc_F × bc_F × bc_F × bc_F × bc_F × Int32) t => bc_B (dC, dI) classes [(cI, .int), (cZ, .boolean)] A [(b0, .inr (4, [.ref h0, .ref g0, .ref a0, .ref w0, .ref e0, .ref f0, .int 1, .int ra])), (a0, .inr (0, [.ref s1, .ref s2, .ref s3, .ref s4, .ref s5, .int u.2.2.2.2.2])), (s1, .inl (cI, 240, .inl u.1)), (s2, .inl (cI, 240, .inl u.2.1)), (s3, .inl (cZ, 40, .inl u.2.2.1)), (s4, .inl (cI, 6, .inl u.2.2.2.1)), (s5, .inl (cI, 6, .inl u.2.2.2.2.1)), (h0, .inr (1, [.ref q1, .ref q2, .ref q3, .ref q4, .int (nI n)])), (q1, .inl (cI, 40, .inl (P 1))), (q2, .inl (cI, 40, .inl (P 2))), (q3, .inl (cI, 40, .inl (P 3))), (q4, .inl (cI, 40, .inl (P 4)))] t) A) (by decide) (Nat.le_of_ble_eq_true rfl) ?_
  intro p e s m args below meth c A ls F hr hlocks hin hA hP hD hl hS
  have hx := F.1
  have hb := F.2.1
  have hml := F.2.2.1
  have hown : s.vm.findClass "BranchConstants" = some m.cls := F.2.2.2.1
  have htw := F.2.2.2.2.1
  have hN := F.2.2.2.2.2.1
  have hK := F.2.2.2.2.2.2
  have hl : lv_has ls 1 [(0, .ref b0)] := hl
  refine lv_aload_n hx hb de_B_reachedAll_0 rfl (lv_at hl 0 rfl) ?_
  refine bc_call_v_v (As := []) (rest := []) (wr := []) F (co_B_analyseOnce hn hw hCI) wm_117 wm_1 wm_115 wm_116 wm_591 0 rfl rfl pd_B_analyseOnce rfl rfl ⟨Nat.le_of_ble_eq_true rfl, Nat.le_of_ble_eq_true rfl⟩ hP hD hS hA [0, 1, 2, 3, 4, 5, 6, 7, 8, 9, 10, 11] [] rfl rfl rfl rfl (by decide) rfl hl.1 rfl (Nat.le_of_ble_eq_true rfl) de_B_reachedAll_1 ⟨Nat.le_of_ble_eq_true rfl, Nat.le_of_ble_eq_true rfl⟩ (fun u_1 H locs hw_1 hP hD hS => ?_)
  obtain ⟨S1, C1, W1, SB1, CB1, x1⟩ := u_1
  try dsimp only at hw_1
  obtain ⟨⟨g1, hen1, hL1⟩, hW1⟩ := hw_1
  have hP : va_P (dC, dI) classes [(b0, .inr (4, [.ref h0, .ref g0, .ref a0, .ref w0, .ref e0, .ref f0, .int 1, .int ra])), (a0, .inr (0, [.ref s1, .ref s2, .ref s3, .ref s4, .ref s5, .int x1])), (s1, .inl (cI, 240, .inl S1)), (s2, .inl (cI, 240, .inl C1)), (s3, .inl (cZ, 40, .inl W1)), (s4, .inl (cI, 6, .inl SB1)), (s5, .inl (cI, 6, .inl CB1)), (h0, .inr (1, [.ref q1, .ref q2, .ref q3, .ref q4, .int (nI n)])), (q1, .inl (cI, 40, .inl (P 1))), (q2, .inl (cI, 40, .inl (P 2))), (q3, .inl (cI, 40, .inl (P 3))), (q4, .inl (cI, 40, .inl (P 4)))] H := hP.sub [0, 1, 2, 3, 4, 5, 6, 7, 8, 9, 10, 11] rfl
  have hD : va_D A [(b0, .inr (4, [.ref h0, .ref g0, .ref a0, .ref w0, .ref e0, .ref f0, .int 1, .int ra])), (a0, .inr (0, [.ref s1, .ref s2, .ref s3, .ref s4, .ref s5, .int x1])), (s1, .inl (cI, 240, .inl S1)), (s2, .inl (cI, 240, .inl C1)), (s3, .inl (cZ, 40, .inl W1)), (s4, .inl (cI, 6, .inl SB1)), (s5, .inl (cI, 6, .inl CB1)), (h0, .inr (1, [.ref q1, .ref q2, .ref q3, .ref q4, .int (nI n)])), (q1, .inl (cI, 40, .inl (P 1))), (q2, .inl (cI, 40, .inl (P 2))), (q3, .inl (cI, 40, .inl (P 3))), (q4, .inl (cI, 40, .inl (P 4)))] := hD.sub [0, 1, 2, 3, 4, 5, 6, 7, 8, 9, 10, 11] (by decide) rfl
  refine lv_aload_n hx hb de_B_reachedAll_4 rfl (lv_at hl 0 rfl) ?_
  refine va_get (D := (dC, dI)) (ci := 4) (v := .ref a0) (C := rc_B) (T := fc_B) (N := 8) hx hb htw wi_B hown hK hP 0 rfl rfl 2 (by decide) (htw _ wm_89) (fun _ h9 => h9) rfl de_B_reachedAll_5 ?_
  refine lv_aload_n hx hb de_B_reachedAll_8 rfl (lv_at hl 0 rfl) ?_
  refine va_get (D := (dC, dI)) (ci := 4) (v := .ref h0) (C := rc_B) (T := fc_B) (N := 8) hx hb htw wi_B hown hK hP 0 rfl rfl 0 (by decide) (htw _ wm_87) (fun _ h9 => h9) rfl de_B_reachedAll_9 ?_
  refine bc_call_nv_i (As := [.ref h0]) (rest := []) (wr := [(b0, .inr (4, [.ref h0, .ref g0, .ref a0, .ref w0, .ref e0, .ref f0, .int 1, .int ra])), (q1, .inl (cI, 40, .inl (P 1))), (q2, .inl (cI, 40, .inl (P 2))), (q3, .inl (cI, 40, .inl (P 3))), (q4, .inl (cI, 40, .inl (P 4)))]) F (co_A_countReached (K := P 1) (O := P 1) (T := P 1) (Z := P 1) hn) wm_165 wm_3 nm_32 wm_164 wm_605 1 rfl rfl pd_A_countReached rfl rfl ⟨Nat.le_of_ble_eq_true rfl, Nat.le_of_ble_eq_true rfl⟩ hP hD hS hA [1, 2, 3, 4, 5, 6, 7] [0, 8, 9, 10, 11] rfl rfl rfl rfl (by decide) rfl hl.1 rfl (Nat.le_of_ble_eq_true rfl) de_B_reachedAll_12 ⟨Nat.le_of_ble_eq_true rfl, Nat.le_of_ble_eq_true rfl⟩ (fun r_12 u_12 H locs hw_12 hP hD hS => ?_)
  have hP : va_P (dC, dI) classes [(b0, .inr (4, [.ref h0, .ref g0, .ref a0, .ref w0, .ref e0, .ref f0, .int 1, .int ra])), (a0, .inr (0, [.ref s1, .ref s2, .ref s3, .ref s4, .ref s5, .int x1])), (s1, .inl (cI, 240, .inl S1)), (s2, .inl (cI, 240, .inl C1)), (s3, .inl (cZ, 40, .inl W1)), (s4, .inl (cI, 6, .inl SB1)), (s5, .inl (cI, 6, .inl CB1)), (h0, .inr (1, [.ref q1, .ref q2, .ref q3, .ref q4, .int (nI n)])), (q1, .inl (cI, 40, .inl (P 1))), (q2, .inl (cI, 40, .inl (P 2))), (q3, .inl (cI, 40, .inl (P 3))), (q4, .inl (cI, 40, .inl (P 4)))] H := hP.sub [0, 5, 6, 7, 8, 9, 10, 11, 1, 2, 3, 4] rfl
  have hD : va_D A [(b0, .inr (4, [.ref h0, .ref g0, .ref a0, .ref w0, .ref e0, .ref f0, .int 1, .int ra])), (a0, .inr (0, [.ref s1, .ref s2, .ref s3, .ref s4, .ref s5, .int x1])), (s1, .inl (cI, 240, .inl S1)), (s2, .inl (cI, 240, .inl C1)), (s3, .inl (cZ, 40, .inl W1)), (s4, .inl (cI, 6, .inl SB1)), (s5, .inl (cI, 6, .inl CB1)), (h0, .inr (1, [.ref q1, .ref q2, .ref q3, .ref q4, .int (nI n)])), (q1, .inl (cI, 40, .inl (P 1))), (q2, .inl (cI, 40, .inl (P 2))), (q3, .inl (cI, 40, .inl (P 3))), (q4, .inl (cI, 40, .inl (P 4)))] := hD.sub [0, 5, 6, 7, 8, 9, 10, 11, 1, 2, 3, 4] (by decide) rfl
  subst hw_12
  exact bc_iret F hr hlocks ((S1, C1, W1, SB1, CB1, x1)) ⟨⟨g1, hen1, hL1, congrArg nI (bc_nb_S hn hen1)⟩, hW1⟩ hP hD hS de_B_reachedAll_15

set_option maxHeartbeats 4000000 in
set_option maxRecDepth 100000 in
/-- the code of a side -/
theorem co_B_codeOf0 {l : Launch} {dC : Nat → ClassId} {dI : Nat → Nat → Nat} {cI cZ : ClassId} {sz : Nat} {b0 h0 g0 a0 w0 e0 f0 : Nat} {an ra : Int32}   : Met l yn_B_codeOf (Cond.code yn_B_codeOf by_B_codeOf 2 (some (FieldType.object "BranchConstants$Code")) :: wd_all) ({ frames := 0, cells := 0, slots := 0, locals := 0 } : Room) (bc_Pre (dC, dI) classes [(cI, .int), (cZ, .boolean)] [.ref b0, .int 0] [(b0, .inr (4, [.ref h0, .ref g0, .ref a0, .ref w0, .ref e0, .ref f0, .int an, .int ra]))] sz) (va_Qr (fun (_ : Unit) => True) (fun (_ : Unit) (a : Nat) t => a = h0 ∧ bc_B (dC, dI) classes [(cI, .int), (cZ, .boolean)] (va_A [(b0, .inr (4, [.ref h0, .ref g0, .ref a0, .ref w0, .ref e0, .ref f0, .int an, .int ra]))] sz) [(b0, .inr (4, [.ref h0, .ref g0, .ref a0, .ref w0, .ref e0, .ref f0, .int an, .int ra]))] t) ((va_A [(b0, .inr (4, [.ref h0, .ref g0, .ref a0, .ref w0, .ref e0, .ref f0, .int an, .int ra]))] sz))) 0 0 (va_A [(b0, .inr (4, [.ref h0, .ref g0, .ref a0, .ref w0, .ref e0, .ref f0, .int an, .int ra]))] sz) := by
  refine bc_met (fun A => va_Qr (fun (_ : Unit) => True) (fun (_ : Unit) (a : Nat) t => a = h0 ∧ bc_B (dC, dI) classes [(cI, .int), (cZ, .boolean)] A [(b0, .inr (4, [.ref h0, .ref g0, .ref a0, .ref w0, .ref e0, .ref f0, .int an, .int ra]))] t) A) (by decide) (Nat.le_of_ble_eq_true rfl) ?_
  intro p e s m args below meth c A ls F hr hlocks hin hA hP hD hl hS
  have hx := F.1
  have hb := F.2.1
  have hml := F.2.2.1
  have hown : s.vm.findClass "BranchConstants" = some m.cls := F.2.2.2.1
  have htw := F.2.2.2.2.1
  have hN := F.2.2.2.2.2.1
  have hK := F.2.2.2.2.2.2
  have hl : lv_has ls 2 [(0, .ref b0), (1, .int 0)] := hl
  refine lv_iload_n hx hb de_B_codeOf_0 rfl (lv_at hl 1 rfl) ?_
  refine lv_if_ne (tgt := 11) hx hb de_B_codeOf_1 (by decide) (fun hc => absurd (by decide) hc) (fun _ => ?_)
  refine lv_aload_n hx hb de_B_codeOf_4 rfl (lv_at hl 0 rfl) ?_
  refine va_get (D := (dC, dI)) (ci := 4) (v := .ref h0) (C := rc_B) (T := fc_B) (N := 8) hx hb htw wi_B hown hK hP 0 rfl rfl 0 (by decide) (htw _ wm_87) (fun _ h9 => h9) rfl de_B_codeOf_5 ?_
  refine lv_goto (tgt := 15) hx hb de_B_codeOf_8 (by decide) ?_
  exact bc_aretq F hr (Or.inl ⟨_, rfl⟩) hlocks hP hD hS de_B_codeOf_15

set_option maxHeartbeats 4000000 in
set_option maxRecDepth 100000 in
/-- the code of a side -/
theorem co_B_codeOf1 {l : Launch} {dC : Nat → ClassId} {dI : Nat → Nat → Nat} {cI cZ : ClassId} {sz : Nat} {b0 h0 g0 a0 w0 e0 f0 : Nat} {an ra : Int32}   : Met l yn_B_codeOf (Cond.code yn_B_codeOf by_B_codeOf 2 (some (FieldType.object "BranchConstants$Code")) :: wd_all) ({ frames := 0, cells := 0, slots := 0, locals := 0 } : Room) (bc_Pre (dC, dI) classes [(cI, .int), (cZ, .boolean)] [.ref b0, .int 1] [(b0, .inr (4, [.ref h0, .ref g0, .ref a0, .ref w0, .ref e0, .ref f0, .int an, .int ra]))] sz) (va_Qr (fun (_ : Unit) => True) (fun (_ : Unit) (a : Nat) t => a = g0 ∧ bc_B (dC, dI) classes [(cI, .int), (cZ, .boolean)] (va_A [(b0, .inr (4, [.ref h0, .ref g0, .ref a0, .ref w0, .ref e0, .ref f0, .int an, .int ra]))] sz) [(b0, .inr (4, [.ref h0, .ref g0, .ref a0, .ref w0, .ref e0, .ref f0, .int an, .int ra]))] t) ((va_A [(b0, .inr (4, [.ref h0, .ref g0, .ref a0, .ref w0, .ref e0, .ref f0, .int an, .int ra]))] sz))) 0 0 (va_A [(b0, .inr (4, [.ref h0, .ref g0, .ref a0, .ref w0, .ref e0, .ref f0, .int an, .int ra]))] sz) := by
  refine bc_met (fun A => va_Qr (fun (_ : Unit) => True) (fun (_ : Unit) (a : Nat) t => a = g0 ∧ bc_B (dC, dI) classes [(cI, .int), (cZ, .boolean)] A [(b0, .inr (4, [.ref h0, .ref g0, .ref a0, .ref w0, .ref e0, .ref f0, .int an, .int ra]))] t) A) (by decide) (Nat.le_of_ble_eq_true rfl) ?_
  intro p e s m args below meth c A ls F hr hlocks hin hA hP hD hl hS
  have hx := F.1
  have hb := F.2.1
  have hml := F.2.2.1
  have hown : s.vm.findClass "BranchConstants" = some m.cls := F.2.2.2.1
  have htw := F.2.2.2.2.1
  have hN := F.2.2.2.2.2.1
  have hK := F.2.2.2.2.2.2
  have hl : lv_has ls 2 [(0, .ref b0), (1, .int 1)] := hl
  refine lv_iload_n hx hb de_B_codeOf_0 rfl (lv_at hl 1 rfl) ?_
  refine lv_if_ne (tgt := 11) hx hb de_B_codeOf_1 (by decide) (fun _ => ?_) (fun hc => absurd hc (by decide))
  refine lv_aload_n hx hb de_B_codeOf_11 rfl (lv_at hl 0 rfl) ?_
  refine va_get (D := (dC, dI)) (ci := 4) (v := .ref g0) (C := rc_B) (T := fc_B) (N := 8) hx hb htw wi_B hown hK hP 0 rfl rfl 1 (by decide) (htw _ wm_88) (fun _ h9 => h9) rfl de_B_codeOf_12 ?_
  exact bc_aretq F hr (Or.inl ⟨_, rfl⟩) hlocks hP hD hS de_B_codeOf_15

set_option maxHeartbeats 4000000 in
set_option maxRecDepth 100000 in
/-- the run of a side -/
theorem co_B_runOf0 {l : Launch} {dC : Nat → ClassId} {dI : Nat → Nat → Nat} {cI cZ : ClassId} {sz : Nat} {b0 h0 g0 a0 w0 e0 f0 : Nat} {an ra : Int32}   : Met l yn_B_runOf (Cond.code yn_B_runOf by_B_runOf 2 (some (FieldType.object "BranchConstants$Execution")) :: wd_all) ({ frames := 0, cells := 0, slots := 0, locals := 0 } : Room) (bc_Pre (dC, dI) classes [(cI, .int), (cZ, .boolean)] [.ref b0, .int 0] [(b0, .inr (4, [.ref h0, .ref g0, .ref a0, .ref w0, .ref e0, .ref f0, .int an, .int ra]))] sz) (va_Qr (fun (_ : Unit) => True) (fun (_ : Unit) (a : Nat) t => a = e0 ∧ bc_B (dC, dI) classes [(cI, .int), (cZ, .boolean)] (va_A [(b0, .inr (4, [.ref h0, .ref g0, .ref a0, .ref w0, .ref e0, .ref f0, .int an, .int ra]))] sz) [(b0, .inr (4, [.ref h0, .ref g0, .ref a0, .ref w0, .ref e0, .ref f0, .int an, .int ra]))] t) ((va_A [(b0, .inr (4, [.ref h0, .ref g0, .ref a0, .ref w0, .ref e0, .ref f0, .int an, .int ra]))] sz))) 0 0 (va_A [(b0, .inr (4, [.ref h0, .ref g0, .ref a0, .ref w0, .ref e0, .ref f0, .int an, .int ra]))] sz) := by
  refine bc_met (fun A => va_Qr (fun (_ : Unit) => True) (fun (_ : Unit) (a : Nat) t => a = e0 ∧ bc_B (dC, dI) classes [(cI, .int), (cZ, .boolean)] A [(b0, .inr (4, [.ref h0, .ref g0, .ref a0, .ref w0, .ref e0, .ref f0, .int an, .int ra]))] t) A) (by decide) (Nat.le_of_ble_eq_true rfl) ?_
  intro p e s m args below meth c A ls F hr hlocks hin hA hP hD hl hS
  have hx := F.1
  have hb := F.2.1
  have hml := F.2.2.1
  have hown : s.vm.findClass "BranchConstants" = some m.cls := F.2.2.2.1
  have htw := F.2.2.2.2.1
  have hN := F.2.2.2.2.2.1
  have hK := F.2.2.2.2.2.2
  have hl : lv_has ls 2 [(0, .ref b0), (1, .int 0)] := hl
  refine lv_iload_n hx hb de_B_runOf_0 rfl (lv_at hl 1 rfl) ?_
  refine lv_if_ne (tgt := 11) hx hb de_B_runOf_1 (by decide) (fun hc => absurd (by decide) hc) (fun _ => ?_)
  refine lv_aload_n hx hb de_B_runOf_4 rfl (lv_at hl 0 rfl) ?_
  refine va_get (D := (dC, dI)) (ci := 4) (v := .ref e0) (C := rc_B) (T := fc_B) (N := 8) hx hb htw wi_B hown hK hP 0 rfl rfl 4 (by decide) (htw _ wm_91) (fun _ h9 => h9) rfl de_B_runOf_5 ?_
  refine lv_goto (tgt := 15) hx hb de_B_runOf_8 (by decide) ?_
  exact bc_aretq F hr (Or.inl ⟨_, rfl⟩) hlocks hP hD hS de_B_runOf_15

set_option maxHeartbeats 4000000 in
set_option maxRecDepth 100000 in
/-- the run of a side -/
theorem co_B_runOf1 {l : Launch} {dC : Nat → ClassId} {dI : Nat → Nat → Nat} {cI cZ : ClassId} {sz : Nat} {b0 h0 g0 a0 w0 e0 f0 : Nat} {an ra : Int32}   : Met l yn_B_runOf (Cond.code yn_B_runOf by_B_runOf 2 (some (FieldType.object "BranchConstants$Execution")) :: wd_all) ({ frames := 0, cells := 0, slots := 0, locals := 0 } : Room) (bc_Pre (dC, dI) classes [(cI, .int), (cZ, .boolean)] [.ref b0, .int 1] [(b0, .inr (4, [.ref h0, .ref g0, .ref a0, .ref w0, .ref e0, .ref f0, .int an, .int ra]))] sz) (va_Qr (fun (_ : Unit) => True) (fun (_ : Unit) (a : Nat) t => a = f0 ∧ bc_B (dC, dI) classes [(cI, .int), (cZ, .boolean)] (va_A [(b0, .inr (4, [.ref h0, .ref g0, .ref a0, .ref w0, .ref e0, .ref f0, .int an, .int ra]))] sz) [(b0, .inr (4, [.ref h0, .ref g0, .ref a0, .ref w0, .ref e0, .ref f0, .int an, .int ra]))] t) ((va_A [(b0, .inr (4, [.ref h0, .ref g0, .ref a0, .ref w0, .ref e0, .ref f0, .int an, .int ra]))] sz))) 0 0 (va_A [(b0, .inr (4, [.ref h0, .ref g0, .ref a0, .ref w0, .ref e0, .ref f0, .int an, .int ra]))] sz) := by
  refine bc_met (fun A => va_Qr (fun (_ : Unit) => True) (fun (_ : Unit) (a : Nat) t => a = f0 ∧ bc_B (dC, dI) classes [(cI, .int), (cZ, .boolean)] A [(b0, .inr (4, [.ref h0, .ref g0, .ref a0, .ref w0, .ref e0, .ref f0, .int an, .int ra]))] t) A) (by decide) (Nat.le_of_ble_eq_true rfl) ?_
  intro p e s m args below meth c A ls F hr hlocks hin hA hP hD hl hS
  have hx := F.1
  have hb := F.2.1
  have hml := F.2.2.1
  have hown : s.vm.findClass "BranchConstants" = some m.cls := F.2.2.2.1
  have htw := F.2.2.2.2.1
  have hN := F.2.2.2.2.2.1
  have hK := F.2.2.2.2.2.2
  have hl : lv_has ls 2 [(0, .ref b0), (1, .int 1)] := hl
  refine lv_iload_n hx hb de_B_runOf_0 rfl (lv_at hl 1 rfl) ?_
  refine lv_if_ne (tgt := 11) hx hb de_B_runOf_1 (by decide) (fun _ => ?_) (fun hc => absurd hc (by decide))
  refine lv_aload_n hx hb de_B_runOf_11 rfl (lv_at hl 0 rfl) ?_
  refine va_get (D := (dC, dI)) (ci := 4) (v := .ref f0) (C := rc_B) (T := fc_B) (N := 8) hx hb htw wi_B hown hK hP 0 rfl rfl 5 (by decide) (htw _ wm_92) (fun _ h9 => h9) rfl de_B_runOf_12 ?_
  exact bc_aretq F hr (Or.inl ⟨_, rfl⟩) hlocks hP hD hS de_B_runOf_15

