/-! contracts: one form of start and end; nest words go with the start (by program: wip/whole/gen/form.py) -/
def bc_isN : Cond → Bool
  | .fieldLinkNest .. => true
  | .methodLinkNest .. => true
  | _ => false
theorem nw_kind : nw_all.all bc_isN = true := by decide +kernel
def bc_N (U : State) : Prop := ∀ w ∈ nw_all, va_Nw w U
theorem bc_N.warm {s U : State} (hW : s.WarmedH U.vm) (h : bc_N s) : bc_N U := by
  intro w hw
  have h1 := h w hw
  have h2 := List.all_eq_true.mp nw_kind w hw
  cases w <;> first | exact va_Nw.warmF hW h1 | exact va_Nw.warmM hW h1 | exact absurd h2 (by simp [bc_isN])
theorem bc_N.same {s U : State} (hv : s.vm = U.vm) (h : bc_N s) : bc_N U := by
  intro w hw
  have h1 := h w hw
  have h2 := List.all_eq_true.mp nw_kind w hw
  cases w <;> first | exact va_Nw.same rfl hv h1 | exact absurd h2 (by simp [bc_isN])
def bc_Pre (D : va_G) (cl : List vw_C) (tys : List (ClassId × FieldType)) (av : List Value) (ws : va_W) (sz : Nat) : Array Value → State → Prop := va_Pc av (fun U => U.heap.size = sz ∧ va_P D cl ws U.heap ∧ va_K D cl tys U ∧ va_D (fun _ => True) ws ∧ bc_N U)
def bc_B (D : va_G) (cl : List vw_C) (tys : List (ClassId × FieldType)) (A : Nat → Prop) (ws : va_W) (t : State) : Prop := va_P D cl ws t.heap ∧ va_K D cl tys t ∧ va_D A ws
theorem bc_blind {D : va_G} {cl : List vw_C} {tys : List (ClassId × FieldType)} {av : List Value} {ws : va_W} {sz : Nat} : FrameBlind (bc_Pre D cl tys av ws sz) := by
  intro a U g mk q
  obtain ⟨q0, q1, qP, qK, qD, qN⟩ := q
  exact ⟨q0, q1, qP, va_K.moved (u := U) (U := U.calling g mk a) (Vm.Alike.refl U.vm) qK, qD, bc_N.same (s := U) (U := U.calling g mk a) rfl qN⟩
theorem bc_preS {s : State} {H : Heap} {D : va_G} {cl : List vw_C} {tys : List (ClassId × FieldType)} {As : List Value} {ws : va_W} {A : Nat → Prop} (hP : va_P D cl ws H) (hK : va_K D cl tys s) (hD : va_D A ws) (hN : bc_N s) : PreS s H (bc_Pre D cl tys As ws H.size) As :=
  ⟨bc_blind, fun U hU hW => ⟨rfl, by rw [hU], by rw [hU]; exact hP, va_K.moved hW.alike hK, hD.weaken (fun _ _ _ _ => trivial), hN.warm hW⟩⟩
theorem bc_preV {s : State} {H : Heap} {D : va_G} {cl : List vw_C} {tys : List (ClassId × FieldType)} {b : Addr} {As : List Value} {ws : va_W} {A : Nat → Prop} {C : String} (hP : va_P D cl ws H) (hK : va_K D cl tys s) (hD : va_D A ws) (hN : bc_N s) (hrv : ∃ cellB : Cell, H[b]? = some cellB ∧ cellB.vm.isStatics = false ∧ s.vm.findClass C = some cellB.cls) : PreV s H C b (bc_Pre D cl tys (.ref b :: As) ws H.size) As :=
  ⟨bc_blind, hrv, fun U hU hW => ⟨rfl, by rw [hU], by rw [hU]; exact hP, va_K.moved hW.alike hK, hD.weaken (fun _ _ _ _ => trivial), hN.warm hW⟩⟩
theorem bc_good {d : Cond} (hd : d ∈ wd_all) : GoodIn wd_all (d :: wd_all) := by
  intro w hw
  rcases List.mem_cons.mp hw with e | h
  · rw [e]; exact ⟨hd, good_of_word (List.all_eq_true.mp wd_good _ hd)⟩
  · exact ⟨h, good_of_word (List.all_eq_true.mp wd_good _ h)⟩
/-- what stays the same through a method: the machine, its code, its class, the tables' words, nest words, classes -/
def bc_Fx (p : Program) (m : MethodId) (c : Code) (cc : ByteArray) (nL : Nat) (s : State) (args : Array Value) (own : String) (D : va_G) (cl : List vw_C) (tys : List (ClassId × FieldType)) : Prop :=
  p.tables.exec = Jvm.exec ∧ c.code = cc ∧ c.maxLocals = nL ∧ s.vm.findClass own = some m.cls ∧ (∀ w ∈ wd_all, w.before args s = true) ∧ bc_N s ∧ va_K D cl tys s
theorem bc_met {l : Launch} {y : MethodName} {rm : Room} {cc : ByteArray} {maxL : Nat} {ret : Option FieldType} {D : va_G} {cl : List vw_C} {tys : List (ClassId × FieldType)} {av : List Value} {wc : va_W} {sz : Nat} (Qc : (Nat → Prop) → Array Value → State → Outcome → State → Prop) {mc ms : Nat}
    (hy : plainName y.cls = true) (hlen : (lg_sl av).length ≤ maxL)
    (body : ∀ (p : Program) (e : Env) (s : State) (m : MethodId) (args : Array Value) (below : List Frame) (meth : Method) (c : Code) (A : Nat → Prop) (ls : Array Slot), bc_Fx p m c cc maxL s args y.cls D cl tys → meth.sig.returnType = ret → meth.locks = false → meth.name = y.name → (∀ q : Nat, s.heap.size ≤ q → A q) → va_P D cl wc s.heap → va_D A wc → lv_has ls maxL (lv_args 0 av) → va_S A s.heap s.heap [] → W p l e rm s m args below meth c s.heap [] 0 0 (MQ below (Qc A) args s mc ms A) (F0 m 0 ls [])) :
    Met l y (Cond.code y cc maxL ret :: wd_all) rm (bc_Pre D cl tys av wc sz) (Qc (va_A wc sz)) mc ms (va_A wc sz) := by
  refine Met.ofW (cc := cc) (maxL := maxL) (ret := ret) hy rfl ?_
  intro p e s m args below meth c s₁ B hml hv
  obtain ⟨rfl, hsz, hP, hK, hD0, hN⟩ := hv
  subst hsz
  have hl := lv_entry av (n := maxL) hlen
  rw [lg_entry_eq]
  have hts := atoms_spec (ws := Cond.code y cc maxL ret :: wd_all) B.pre
  exact body p e s m _ below meth c _ _ ⟨B.exec, B.bytes, hml, findClass_of_methodNamed B.named, fun w h => hts w (List.mem_cons_of_mem _ h), hN, hK⟩ B.returns B.notSynchronized (name_of_methodNamed B.named B.method).1 (fun q h => Or.inr h) hP hD0.self hl va_S.rf
theorem bc_sub {D : va_G} {cl : List vw_C} {ws wc : va_W} {H : Heap} (hP : va_P D cl ws H) (isC : List Nat) (hC : isC.map (fun i => ws[i]?) = wc.map some) : va_P D cl wc H := by
  intro k q hq
  have h1 : (isC.map (fun i => ws[i]?))[k]? = some (some q) := by rw [hC, List.getElem?_map, hq]; rfl
  rw [List.getElem?_map] at h1
  cases hi : isC[k]? with
  | none => rw [hi] at h1; cases h1
  | some i => rw [hi] at h1; exact hP i q (Option.some.inj h1)
section BCC
variable {p : Program} {l : Launch} {e : Env} {R : Room} {s : State} {m : MethodId} {args : Array Value} {below : List Frame} {meth : Method} {c : Code} {H : Heap} {locs : List Loc} {cells slots : Nat} {Q : State → Prop}
variable {cc bytes : ByteArray} {pc nL maxL n index : Nat} {ls : Array Slot} {rest st0 As : List Value} {b : Addr} {own host C : String} {y : MethodName} {ret : Option FieldType} {rm : Room} {D : va_G} {cl : List vw_C} {A : Nat → Prop} {tys : List (ClassId × FieldType)} {ws wc wr : va_W} {H0 : Heap} {mc ms : Nat}
theorem bc_call_s_v {S : Type} {post : S → Prop} {w1 : S → va_W} (F : bc_Fx p m c cc nL s args own D cl tys) (hM : Met l y (Cond.code y bytes maxL ret :: wd_all) rm (bc_Pre D cl tys As wc H.size) (va_Qv post (fun u t => bc_B D cl tys (va_A wc H.size) (w1 u) t) (va_A wc H.size)) mc ms (va_A wc H.size))
    (k1 : Cond.code y bytes maxL ret ∈ wd_all) (k2 : Cond.initialized y.cls ∈ wd_all) (k3 : Cond.methodLink own index y ∈ wd_all) (k4 : Cond.static y ∈ wd_all)
    (hd : y.cls ≠ "java/lang/invoke/MethodHandle" ∧ y.cls ≠ "java/lang/invoke/VarHandle" ∧ (parseMethodDescriptor y.desc).map (fun d => d.parameters.length) = some n) (hrc : rm.cells = mc) (hrs : rm.slots = ms) (hR : rm.frames + 1 ≤ R.frames ∧ 8 + (maxL + 11) + rm.locals ≤ R.locals)
    (hP : va_P D cl ws H) (hD : va_D A ws) (hS : va_S A H0 H locs) (hA : ∀ q, H0.size ≤ q → A q) (isC isR : List Nat) (hC : isC.map (fun i => ws[i]?) = wc.map some) (hRr : isR.map (fun i => ws[i]?) = wr.map some) (hnC : va_nd isC = true) (hn : va_nd isR = true) (hdis : ∀ i ∈ isR, i ∉ isC)
    (hlen : As.length = n) (hsize : ls.size = nL) (hstack : st0 = As.reverse ++ rest) (hW : (rest.map fun v => v.category).sum ≤ 8) (hdg : decode cc pc = .ok (.invokestatic index, 3)) (hf : cells + mc ≤ R.cells ∧ slots + ms ≤ R.slots)
    (kk : ∀ (u : S) (H1 : Heap) (locs1 : List Loc), post u → va_P D cl (wr ++ w1 u) H1 → va_D A (wr ++ w1 u) → va_S A H0 H1 locs1 → W p l e R s m args below meth c H1 locs1 (cells + mc) (slots + ms) Q (F0 m (pc + 3) ls rest)) : W p l e R s m args below meth c H locs cells slots Q (F0 m pc ls st0) := by
  obtain ⟨hx, hb, hml, ho, htw, hN, hK⟩ := F
  have hFr := va_free (wc := wc) hD hS hA isC hC
  have hPc : va_P D cl wc H := bc_sub hP isC hC
  have hDc : va_D A wc := hD.sub isC hnC hC
  refine va_callv (va_runS (As := As) (rest := rest) ⟨hx, hb, hml, ho, htw⟩ hM ⟨callB_of n htw (bc_good k1) rfl hrc hrs (htw _ k2) (htw _ k3) hd hR, htw _ k4⟩ (bc_preS hPc hK hDc hN) rfl hlen hsize hstack (lv_room hW) hdg hf) hS (fun q _ h => hFr q h) hFr (fun u t H1 locs1 ht hvm hp hB hz hk hS1 => ?_)
  obtain ⟨hP1, hK1, hD1⟩ := hB
  rw [ht] at hP1
  obtain ⟨hP2, hD2⟩ := va_join hP hD isC isR hC hRr hn hdis hk hFr hP1 hD1
  exact kk u H1 locs1 hp hP2 hD2 hS1
theorem bc_call_s_i {S : Type} {post : Int32 → S → Prop} {w1 : S → va_W} (F : bc_Fx p m c cc nL s args own D cl tys) (hM : Met l y (Cond.code y bytes maxL ret :: wd_all) rm (bc_Pre D cl tys As wc H.size) (va_Qi post (fun u t => bc_B D cl tys (va_A wc H.size) (w1 u) t) (va_A wc H.size)) mc ms (va_A wc H.size))
    (k1 : Cond.code y bytes maxL ret ∈ wd_all) (k2 : Cond.initialized y.cls ∈ wd_all) (k3 : Cond.methodLink own index y ∈ wd_all) (k4 : Cond.static y ∈ wd_all)
    (hd : y.cls ≠ "java/lang/invoke/MethodHandle" ∧ y.cls ≠ "java/lang/invoke/VarHandle" ∧ (parseMethodDescriptor y.desc).map (fun d => d.parameters.length) = some n) (hrc : rm.cells = mc) (hrs : rm.slots = ms) (hR : rm.frames + 1 ≤ R.frames ∧ 8 + (maxL + 11) + rm.locals ≤ R.locals)
    (hP : va_P D cl ws H) (hD : va_D A ws) (hS : va_S A H0 H locs) (hA : ∀ q, H0.size ≤ q → A q) (isC isR : List Nat) (hC : isC.map (fun i => ws[i]?) = wc.map some) (hRr : isR.map (fun i => ws[i]?) = wr.map some) (hnC : va_nd isC = true) (hn : va_nd isR = true) (hdis : ∀ i ∈ isR, i ∉ isC)
    (hlen : As.length = n) (hsize : ls.size = nL) (hstack : st0 = As.reverse ++ rest) (hW : (rest.map fun v => v.category).sum ≤ 8) (hdg : decode cc pc = .ok (.invokestatic index, 3)) (hf : cells + mc ≤ R.cells ∧ slots + ms ≤ R.slots)
    (kk : ∀ (r : Int32) (u : S) (H1 : Heap) (locs1 : List Loc), post r u → va_P D cl (wr ++ w1 u) H1 → va_D A (wr ++ w1 u) → va_S A H0 H1 locs1 → W p l e R s m args below meth c H1 locs1 (cells + mc) (slots + ms) Q (F0 m (pc + 3) ls (.int r :: rest))) : W p l e R s m args below meth c H locs cells slots Q (F0 m pc ls st0) := by
  obtain ⟨hx, hb, hml, ho, htw, hN, hK⟩ := F
  have hFr := va_free (wc := wc) hD hS hA isC hC
  have hPc : va_P D cl wc H := bc_sub hP isC hC
  have hDc : va_D A wc := hD.sub isC hnC hC
  refine va_calli (va_runS (As := As) (rest := rest) ⟨hx, hb, hml, ho, htw⟩ hM ⟨callB_of n htw (bc_good k1) rfl hrc hrs (htw _ k2) (htw _ k3) hd hR, htw _ k4⟩ (bc_preS hPc hK hDc hN) rfl hlen hsize hstack (lv_room hW) hdg hf) hS (fun q _ h => hFr q h) hFr (fun r u t H1 locs1 ht hvm hp hB hz hk hS1 => ?_)
  obtain ⟨hP1, hK1, hD1⟩ := hB
  rw [ht] at hP1
  obtain ⟨hP2, hD2⟩ := va_join hP hD isC isR hC hRr hn hdis hk hFr hP1 hD1
  exact kk r u H1 locs1 hp hP2 hD2 hS1
theorem bc_call_v_v {S : Type} {post : S → Prop} {w1 : S → va_W} (F : bc_Fx p m c cc nL s args own D cl tys) (hM : Met l y (Cond.code y bytes maxL ret :: wd_all) rm (bc_Pre D cl tys (.ref b :: As) wc H.size) (va_Qv post (fun u t => bc_B D cl tys (va_A wc H.size) (w1 u) t) (va_A wc H.size)) mc ms (va_A wc H.size))
    (k1 : Cond.code y bytes maxL ret ∈ wd_all) (k2 : Cond.initialized y.cls ∈ wd_all) (k3 : Cond.methodLink own index y ∈ wd_all) (k4 : Cond.instanceMethod y ∈ wd_all) (k5 : Cond.selects C y y ∈ wd_all) (q0 : Nat) {ci : Nat} {fs : List Value} {T0 : u_T} {N0 : Nat} (he : ws[q0]? = some (b, .inr (ci, fs))) (hc : cl[ci]? = some (C, T0, N0))
    (hd : y.cls ≠ "java/lang/invoke/MethodHandle" ∧ y.cls ≠ "java/lang/invoke/VarHandle" ∧ (parseMethodDescriptor y.desc).map (fun d => d.parameters.length) = some n) (hrc : rm.cells = mc) (hrs : rm.slots = ms) (hR : rm.frames + 1 ≤ R.frames ∧ 8 + (maxL + 11) + rm.locals ≤ R.locals)
    (hP : va_P D cl ws H) (hD : va_D A ws) (hS : va_S A H0 H locs) (hA : ∀ q, H0.size ≤ q → A q) (isC isR : List Nat) (hC : isC.map (fun i => ws[i]?) = wc.map some) (hRr : isR.map (fun i => ws[i]?) = wr.map some) (hnC : va_nd isC = true) (hn : va_nd isR = true) (hdis : ∀ i ∈ isR, i ∉ isC)
    (hlen : As.length = n) (hsize : ls.size = nL) (hstack : st0 = As.reverse ++ .ref b :: rest) (hW : (rest.map fun v => v.category).sum ≤ 8) (hdg : decode cc pc = .ok (.invokevirtual index, 3)) (hf : cells + mc ≤ R.cells ∧ slots + ms ≤ R.slots)
    (kk : ∀ (u : S) (H1 : Heap) (locs1 : List Loc), post u → va_P D cl (wr ++ w1 u) H1 → va_D A (wr ++ w1 u) → va_S A H0 H1 locs1 → W p l e R s m args below meth c H1 locs1 (cells + mc) (slots + ms) Q (F0 m (pc + 3) ls rest)) : W p l e R s m args below meth c H locs cells slots Q (F0 m pc ls st0) := by
  obtain ⟨hx, hb, hml, ho, htw, hN, hK⟩ := F
  have hFr := va_free (wc := wc) hD hS hA isC hC
  have hPc : va_P D cl wc H := bc_sub hP isC hC
  have hDc : va_D A wc := hD.sub isC hnC hC
  refine va_callv (va_runV (C := C) (As := As) (rest := rest) ⟨hx, hb, hml, ho, htw⟩ hM ⟨callB_of n htw (bc_good k1) rfl hrc hrs (htw _ k2) (htw _ k3) hd hR, htw _ k4, htw _ k5⟩ (bc_preV hPc hK hDc hN (va_recv hK hP hc he)) rfl hlen hsize hstack (lv_room hW) hdg hf) hS (fun q _ h => hFr q h) hFr (fun u t H1 locs1 ht hvm hp hB hz hk hS1 => ?_)
  obtain ⟨hP1, hK1, hD1⟩ := hB
  rw [ht] at hP1
  obtain ⟨hP2, hD2⟩ := va_join hP hD isC isR hC hRr hn hdis hk hFr hP1 hD1
  exact kk u H1 locs1 hp hP2 hD2 hS1
theorem bc_call_v_i {S : Type} {post : Int32 → S → Prop} {w1 : S → va_W} (F : bc_Fx p m c cc nL s args own D cl tys) (hM : Met l y (Cond.code y bytes maxL ret :: wd_all) rm (bc_Pre D cl tys (.ref b :: As) wc H.size) (va_Qi post (fun u t => bc_B D cl tys (va_A wc H.size) (w1 u) t) (va_A wc H.size)) mc ms (va_A wc H.size))
    (k1 : Cond.code y bytes maxL ret ∈ wd_all) (k2 : Cond.initialized y.cls ∈ wd_all) (k3 : Cond.methodLink own index y ∈ wd_all) (k4 : Cond.instanceMethod y ∈ wd_all) (k5 : Cond.selects C y y ∈ wd_all) (q0 : Nat) {ci : Nat} {fs : List Value} {T0 : u_T} {N0 : Nat} (he : ws[q0]? = some (b, .inr (ci, fs))) (hc : cl[ci]? = some (C, T0, N0))
    (hd : y.cls ≠ "java/lang/invoke/MethodHandle" ∧ y.cls ≠ "java/lang/invoke/VarHandle" ∧ (parseMethodDescriptor y.desc).map (fun d => d.parameters.length) = some n) (hrc : rm.cells = mc) (hrs : rm.slots = ms) (hR : rm.frames + 1 ≤ R.frames ∧ 8 + (maxL + 11) + rm.locals ≤ R.locals)
    (hP : va_P D cl ws H) (hD : va_D A ws) (hS : va_S A H0 H locs) (hA : ∀ q, H0.size ≤ q → A q) (isC isR : List Nat) (hC : isC.map (fun i => ws[i]?) = wc.map some) (hRr : isR.map (fun i => ws[i]?) = wr.map some) (hnC : va_nd isC = true) (hn : va_nd isR = true) (hdis : ∀ i ∈ isR, i ∉ isC)
    (hlen : As.length = n) (hsize : ls.size = nL) (hstack : st0 = As.reverse ++ .ref b :: rest) (hW : (rest.map fun v => v.category).sum ≤ 8) (hdg : decode cc pc = .ok (.invokevirtual index, 3)) (hf : cells + mc ≤ R.cells ∧ slots + ms ≤ R.slots)
    (kk : ∀ (r : Int32) (u : S) (H1 : Heap) (locs1 : List Loc), post r u → va_P D cl (wr ++ w1 u) H1 → va_D A (wr ++ w1 u) → va_S A H0 H1 locs1 → W p l e R s m args below meth c H1 locs1 (cells + mc) (slots + ms) Q (F0 m (pc + 3) ls (.int r :: rest))) : W p l e R s m args below meth c H locs cells slots Q (F0 m pc ls st0) := by
  obtain ⟨hx, hb, hml, ho, htw, hN, hK⟩ := F
  have hFr := va_free (wc := wc) hD hS hA isC hC
  have hPc : va_P D cl wc H := bc_sub hP isC hC
  have hDc : va_D A wc := hD.sub isC hnC hC
  refine va_calli (va_runV (C := C) (As := As) (rest := rest) ⟨hx, hb, hml, ho, htw⟩ hM ⟨callB_of n htw (bc_good k1) rfl hrc hrs (htw _ k2) (htw _ k3) hd hR, htw _ k4, htw _ k5⟩ (bc_preV hPc hK hDc hN (va_recv hK hP hc he)) rfl hlen hsize hstack (lv_room hW) hdg hf) hS (fun q _ h => hFr q h) hFr (fun r u t H1 locs1 ht hvm hp hB hz hk hS1 => ?_)
  obtain ⟨hP1, hK1, hD1⟩ := hB
  rw [ht] at hP1
  obtain ⟨hP2, hD2⟩ := va_join hP hD isC isR hC hRr hn hdis hk hFr hP1 hD1
  exact kk r u H1 locs1 hp hP2 hD2 hS1
theorem bc_call_v_r {S : Type} {post : S → Prop} {w1 : S → Nat → va_W} (F : bc_Fx p m c cc nL s args own D cl tys) (hM : Met l y (Cond.code y bytes maxL ret :: wd_all) rm (bc_Pre D cl tys (.ref b :: As) wc H.size) (va_Qr post (fun u a t => bc_B D cl tys (va_A wc H.size) (w1 u a) t) (va_A wc H.size)) mc ms (va_A wc H.size))
    (k1 : Cond.code y bytes maxL ret ∈ wd_all) (k2 : Cond.initialized y.cls ∈ wd_all) (k3 : Cond.methodLink own index y ∈ wd_all) (k4 : Cond.instanceMethod y ∈ wd_all) (k5 : Cond.selects C y y ∈ wd_all) (q0 : Nat) {ci : Nat} {fs : List Value} {T0 : u_T} {N0 : Nat} (he : ws[q0]? = some (b, .inr (ci, fs))) (hc : cl[ci]? = some (C, T0, N0))
    (hd : y.cls ≠ "java/lang/invoke/MethodHandle" ∧ y.cls ≠ "java/lang/invoke/VarHandle" ∧ (parseMethodDescriptor y.desc).map (fun d => d.parameters.length) = some n) (hrc : rm.cells = mc) (hrs : rm.slots = ms) (hR : rm.frames + 1 ≤ R.frames ∧ 8 + (maxL + 11) + rm.locals ≤ R.locals)
    (hP : va_P D cl ws H) (hD : va_D A ws) (hS : va_S A H0 H locs) (hA : ∀ q, H0.size ≤ q → A q) (isC isR : List Nat) (hC : isC.map (fun i => ws[i]?) = wc.map some) (hRr : isR.map (fun i => ws[i]?) = wr.map some) (hnC : va_nd isC = true) (hn : va_nd isR = true) (hdis : ∀ i ∈ isR, i ∉ isC)
    (hlen : As.length = n) (hsize : ls.size = nL) (hstack : st0 = As.reverse ++ .ref b :: rest) (hW : (rest.map fun v => v.category).sum ≤ 8) (hdg : decode cc pc = .ok (.invokevirtual index, 3)) (hf : cells + mc ≤ R.cells ∧ slots + ms ≤ R.slots)
    (kk : ∀ (u : S) (ra : Nat) (H1 : Heap) (locs1 : List Loc), post u → va_P D cl (wr ++ w1 u ra) H1 → va_D A (wr ++ w1 u ra) → va_S A H0 H1 locs1 → W p l e R s m args below meth c H1 locs1 (cells + mc) (slots + ms) Q (F0 m (pc + 3) ls (.ref ra :: rest))) : W p l e R s m args below meth c H locs cells slots Q (F0 m pc ls st0) := by
  obtain ⟨hx, hb, hml, ho, htw, hN, hK⟩ := F
  have hFr := va_free (wc := wc) hD hS hA isC hC
  have hPc : va_P D cl wc H := bc_sub hP isC hC
  have hDc : va_D A wc := hD.sub isC hnC hC
  refine va_callr (va_runV (C := C) (As := As) (rest := rest) ⟨hx, hb, hml, ho, htw⟩ hM ⟨callB_of n htw (bc_good k1) rfl hrc hrs (htw _ k2) (htw _ k3) hd hR, htw _ k4, htw _ k5⟩ (bc_preV hPc hK hDc hN (va_recv hK hP hc he)) rfl hlen hsize hstack (lv_room hW) hdg hf) hS (fun q _ h => hFr q h) hFr (fun u ra t H1 locs1 ht hvm hp hB hz hk hS1 => ?_)
  obtain ⟨hP1, hK1, hD1⟩ := hB
  rw [ht] at hP1
  obtain ⟨hP2, hD2⟩ := va_join hP hD isC isR hC hRr hn hdis hk hFr hP1 hD1
  exact kk u ra H1 locs1 hp hP2 hD2 hS1
theorem bc_call_i_v {S : Type} {post : S → Prop} {w1 : S → va_W} (F : bc_Fx p m c cc nL s args own D cl tys) (hM : Met l y (Cond.code y bytes maxL none :: wd_all) rm (bc_Pre D cl tys (.ref b :: As) wc H.size) (va_Qv post (fun u t => bc_B D cl tys (va_A wc H.size) (w1 u) t) (va_A wc H.size)) mc ms (va_A wc H.size))
    (k1 : Cond.code y bytes maxL none ∈ wd_all) (k2 : Cond.initialized y.cls ∈ wd_all) (k3 : Cond.methodLink own index y ∈ wd_all) (k4 : Cond.instanceMethod y ∈ wd_all) (k5 : y.name = "<init>")
    (hd : y.cls ≠ "java/lang/invoke/MethodHandle" ∧ y.cls ≠ "java/lang/invoke/VarHandle" ∧ (parseMethodDescriptor y.desc).map (fun d => d.parameters.length) = some n) (hrc : rm.cells = mc) (hrs : rm.slots = ms) (hR : rm.frames + 1 ≤ R.frames ∧ 8 + (maxL + 11) + rm.locals ≤ R.locals)
    (hP : va_P D cl ws H) (hD : va_D A ws) (hS : va_S A H0 H locs) (hA : ∀ q, H0.size ≤ q → A q) (isC isR : List Nat) (hC : isC.map (fun i => ws[i]?) = wc.map some) (hRr : isR.map (fun i => ws[i]?) = wr.map some) (hnC : va_nd isC = true) (hn : va_nd isR = true) (hdis : ∀ i ∈ isR, i ∉ isC)
    (hlen : As.length = n) (hsize : ls.size = nL) (hstack : st0 = As.reverse ++ .ref b :: rest) (hW : (rest.map fun v => v.category).sum ≤ 8) (hdg : decode cc pc = .ok (.invokespecial index, 3)) (hf : cells + mc ≤ R.cells ∧ slots + ms ≤ R.slots)
    (kk : ∀ (u : S) (H1 : Heap) (locs1 : List Loc), post u → va_P D cl (wr ++ w1 u) H1 → va_D A (wr ++ w1 u) → va_S A H0 H1 locs1 → W p l e R s m args below meth c H1 locs1 (cells + mc) (slots + ms) Q (F0 m (pc + 3) ls rest)) : W p l e R s m args below meth c H locs cells slots Q (F0 m pc ls st0) := by
  obtain ⟨hx, hb, hml, ho, htw, hN, hK⟩ := F
  have hFr := va_free (wc := wc) hD hS hA isC hC
  have hPc : va_P D cl wc H := bc_sub hP isC hC
  have hDc : va_D A wc := hD.sub isC hnC hC
  refine va_callv (va_runI (As := As) (rest := rest) ⟨hx, hb, hml, ho, htw⟩ hM ⟨callB_of n htw (bc_good k1) rfl hrc hrs (htw _ k2) (htw _ k3) hd hR, k5, htw _ k4⟩ (bc_preS hPc hK hDc hN) rfl hlen hsize hstack (lv_room hW) hdg hf) hS (fun q _ h => hFr q h) hFr (fun u t H1 locs1 ht hvm hp hB hz hk hS1 => ?_)
  obtain ⟨hP1, hK1, hD1⟩ := hB
  rw [ht] at hP1
  obtain ⟨hP2, hD2⟩ := va_join hP hD isC isR hC hRr hn hdis hk hFr hP1 hD1
  exact kk u H1 locs1 hp hP2 hD2 hS1
theorem bc_call_nv_v {S : Type} {post : S → Prop} {w1 : S → va_W} (F : bc_Fx p m c cc nL s args own D cl tys) (hM : Met l y (Cond.code y bytes maxL ret :: wd_all) rm (bc_Pre D cl tys (.ref b :: As) wc H.size) (va_Qv post (fun u t => bc_B D cl tys (va_A wc H.size) (w1 u) t) (va_A wc H.size)) mc ms (va_A wc H.size))
    (k1 : Cond.code y bytes maxL ret ∈ wd_all) (k2 : Cond.initialized y.cls ∈ wd_all) (k3 : Cond.methodLinkNest own index y host ∈ nw_all) (k4 : Cond.instanceMethod y ∈ wd_all) (k5 : Cond.selects C y y ∈ wd_all) (q0 : Nat) {ci : Nat} {fs : List Value} {T0 : u_T} {N0 : Nat} (he : ws[q0]? = some (b, .inr (ci, fs))) (hc : cl[ci]? = some (C, T0, N0))
    (hd : y.cls ≠ "java/lang/invoke/MethodHandle" ∧ y.cls ≠ "java/lang/invoke/VarHandle" ∧ (parseMethodDescriptor y.desc).map (fun d => d.parameters.length) = some n) (hrc : rm.cells = mc) (hrs : rm.slots = ms) (hR : rm.frames + 1 ≤ R.frames ∧ 8 + (maxL + 11) + rm.locals ≤ R.locals)
    (hP : va_P D cl ws H) (hD : va_D A ws) (hS : va_S A H0 H locs) (hA : ∀ q, H0.size ≤ q → A q) (isC isR : List Nat) (hC : isC.map (fun i => ws[i]?) = wc.map some) (hRr : isR.map (fun i => ws[i]?) = wr.map some) (hnC : va_nd isC = true) (hn : va_nd isR = true) (hdis : ∀ i ∈ isR, i ∉ isC)
    (hlen : As.length = n) (hsize : ls.size = nL) (hstack : st0 = As.reverse ++ .ref b :: rest) (hW : (rest.map fun v => v.category).sum ≤ 8) (hdg : decode cc pc = .ok (.invokevirtual index, 3)) (hf : cells + mc ≤ R.cells ∧ slots + ms ≤ R.slots)
    (kk : ∀ (u : S) (H1 : Heap) (locs1 : List Loc), post u → va_P D cl (wr ++ w1 u) H1 → va_D A (wr ++ w1 u) → va_S A H0 H1 locs1 → W p l e R s m args below meth c H1 locs1 (cells + mc) (slots + ms) Q (F0 m (pc + 3) ls rest)) : W p l e R s m args below meth c H locs cells slots Q (F0 m pc ls st0) := by
  obtain ⟨hx, hb, hml, ho, htw, hN, hK⟩ := F
  have hFr := va_free (wc := wc) hD hS hA isC hC
  have hPc : va_P D cl wc H := bc_sub hP isC hC
  have hDc : va_D A wc := hD.sub isC hnC hC
  refine va_callv (va_runVN (C := C) (As := As) (rest := rest) ⟨hx, hb, hml, ho, htw⟩ hM ⟨va_cnB n htw (bc_good k1) rfl hrc hrs (hN _ k3) (htw _ k2) hd hR, htw _ k4, htw _ k5⟩ (bc_preV hPc hK hDc hN (va_recv hK hP hc he)) rfl hlen hsize hstack (lv_room hW) hdg hf) hS (fun q _ h => hFr q h) hFr (fun u t H1 locs1 ht hvm hp hB hz hk hS1 => ?_)
  obtain ⟨hP1, hK1, hD1⟩ := hB
  rw [ht] at hP1
  obtain ⟨hP2, hD2⟩ := va_join hP hD isC isR hC hRr hn hdis hk hFr hP1 hD1
  exact kk u H1 locs1 hp hP2 hD2 hS1
theorem bc_call_nv_i {S : Type} {post : Int32 → S → Prop} {w1 : S → va_W} (F : bc_Fx p m c cc nL s args own D cl tys) (hM : Met l y (Cond.code y bytes maxL ret :: wd_all) rm (bc_Pre D cl tys (.ref b :: As) wc H.size) (va_Qi post (fun u t => bc_B D cl tys (va_A wc H.size) (w1 u) t) (va_A wc H.size)) mc ms (va_A wc H.size))
    (k1 : Cond.code y bytes maxL ret ∈ wd_all) (k2 : Cond.initialized y.cls ∈ wd_all) (k3 : Cond.methodLinkNest own index y host ∈ nw_all) (k4 : Cond.instanceMethod y ∈ wd_all) (k5 : Cond.selects C y y ∈ wd_all) (q0 : Nat) {ci : Nat} {fs : List Value} {T0 : u_T} {N0 : Nat} (he : ws[q0]? = some (b, .inr (ci, fs))) (hc : cl[ci]? = some (C, T0, N0))
    (hd : y.cls ≠ "java/lang/invoke/MethodHandle" ∧ y.cls ≠ "java/lang/invoke/VarHandle" ∧ (parseMethodDescriptor y.desc).map (fun d => d.parameters.length) = some n) (hrc : rm.cells = mc) (hrs : rm.slots = ms) (hR : rm.frames + 1 ≤ R.frames ∧ 8 + (maxL + 11) + rm.locals ≤ R.locals)
    (hP : va_P D cl ws H) (hD : va_D A ws) (hS : va_S A H0 H locs) (hA : ∀ q, H0.size ≤ q → A q) (isC isR : List Nat) (hC : isC.map (fun i => ws[i]?) = wc.map some) (hRr : isR.map (fun i => ws[i]?) = wr.map some) (hnC : va_nd isC = true) (hn : va_nd isR = true) (hdis : ∀ i ∈ isR, i ∉ isC)
    (hlen : As.length = n) (hsize : ls.size = nL) (hstack : st0 = As.reverse ++ .ref b :: rest) (hW : (rest.map fun v => v.category).sum ≤ 8) (hdg : decode cc pc = .ok (.invokevirtual index, 3)) (hf : cells + mc ≤ R.cells ∧ slots + ms ≤ R.slots)
    (kk : ∀ (r : Int32) (u : S) (H1 : Heap) (locs1 : List Loc), post r u → va_P D cl (wr ++ w1 u) H1 → va_D A (wr ++ w1 u) → va_S A H0 H1 locs1 → W p l e R s m args below meth c H1 locs1 (cells + mc) (slots + ms) Q (F0 m (pc + 3) ls (.int r :: rest))) : W p l e R s m args below meth c H locs cells slots Q (F0 m pc ls st0) := by
  obtain ⟨hx, hb, hml, ho, htw, hN, hK⟩ := F
  have hFr := va_free (wc := wc) hD hS hA isC hC
  have hPc : va_P D cl wc H := bc_sub hP isC hC
  have hDc : va_D A wc := hD.sub isC hnC hC
  refine va_calli (va_runVN (C := C) (As := As) (rest := rest) ⟨hx, hb, hml, ho, htw⟩ hM ⟨va_cnB n htw (bc_good k1) rfl hrc hrs (hN _ k3) (htw _ k2) hd hR, htw _ k4, htw _ k5⟩ (bc_preV hPc hK hDc hN (va_recv hK hP hc he)) rfl hlen hsize hstack (lv_room hW) hdg hf) hS (fun q _ h => hFr q h) hFr (fun r u t H1 locs1 ht hvm hp hB hz hk hS1 => ?_)
  obtain ⟨hP1, hK1, hD1⟩ := hB
  rw [ht] at hP1
  obtain ⟨hP2, hD2⟩ := va_join hP hD isC isR hC hRr hn hdis hk hFr hP1 hD1
  exact kk r u H1 locs1 hp hP2 hD2 hS1
theorem bc_call_ns_v {S : Type} {post : S → Prop} {w1 : S → va_W} (F : bc_Fx p m c cc nL s args own D cl tys) (hM : Met l y (Cond.code y bytes maxL ret :: wd_all) rm (bc_Pre D cl tys As wc H.size) (va_Qv post (fun u t => bc_B D cl tys (va_A wc H.size) (w1 u) t) (va_A wc H.size)) mc ms (va_A wc H.size))
    (k1 : Cond.code y bytes maxL ret ∈ wd_all) (k2 : Cond.initialized y.cls ∈ wd_all) (k3 : Cond.methodLinkNest own index y host ∈ nw_all) (k4 : Cond.static y ∈ wd_all)
    (hd : y.cls ≠ "java/lang/invoke/MethodHandle" ∧ y.cls ≠ "java/lang/invoke/VarHandle" ∧ (parseMethodDescriptor y.desc).map (fun d => d.parameters.length) = some n) (hrc : rm.cells = mc) (hrs : rm.slots = ms) (hR : rm.frames + 1 ≤ R.frames ∧ 8 + (maxL + 11) + rm.locals ≤ R.locals)
    (hP : va_P D cl ws H) (hD : va_D A ws) (hS : va_S A H0 H locs) (hA : ∀ q, H0.size ≤ q → A q) (isC isR : List Nat) (hC : isC.map (fun i => ws[i]?) = wc.map some) (hRr : isR.map (fun i => ws[i]?) = wr.map some) (hnC : va_nd isC = true) (hn : va_nd isR = true) (hdis : ∀ i ∈ isR, i ∉ isC)
    (hlen : As.length = n) (hsize : ls.size = nL) (hstack : st0 = As.reverse ++ rest) (hW : (rest.map fun v => v.category).sum ≤ 8) (hdg : decode cc pc = .ok (.invokestatic index, 3)) (hf : cells + mc ≤ R.cells ∧ slots + ms ≤ R.slots)
    (kk : ∀ (u : S) (H1 : Heap) (locs1 : List Loc), post u → va_P D cl (wr ++ w1 u) H1 → va_D A (wr ++ w1 u) → va_S A H0 H1 locs1 → W p l e R s m args below meth c H1 locs1 (cells + mc) (slots + ms) Q (F0 m (pc + 3) ls rest)) : W p l e R s m args below meth c H locs cells slots Q (F0 m pc ls st0) := by
  obtain ⟨hx, hb, hml, ho, htw, hN, hK⟩ := F
  have hFr := va_free (wc := wc) hD hS hA isC hC
  have hPc : va_P D cl wc H := bc_sub hP isC hC
  have hDc : va_D A wc := hD.sub isC hnC hC
  refine va_callv (va_runSN (As := As) (rest := rest) ⟨hx, hb, hml, ho, htw⟩ hM ⟨va_cnB n htw (bc_good k1) rfl hrc hrs (hN _ k3) (htw _ k2) hd hR, htw _ k4, trivial⟩ (bc_preS hPc hK hDc hN) rfl hlen hsize hstack (lv_room hW) hdg hf) hS (fun q _ h => hFr q h) hFr (fun u t H1 locs1 ht hvm hp hB hz hk hS1 => ?_)
  obtain ⟨hP1, hK1, hD1⟩ := hB
  rw [ht] at hP1
  obtain ⟨hP2, hD2⟩ := va_join hP hD isC isR hC hRr hn hdis hk hFr hP1 hD1
  exact kk u H1 locs1 hp hP2 hD2 hS1
theorem bc_call_ns_i {S : Type} {post : Int32 → S → Prop} {w1 : S → va_W} (F : bc_Fx p m c cc nL s args own D cl tys) (hM : Met l y (Cond.code y bytes maxL ret :: wd_all) rm (bc_Pre D cl tys As wc H.size) (va_Qi post (fun u t => bc_B D cl tys (va_A wc H.size) (w1 u) t) (va_A wc H.size)) mc ms (va_A wc H.size))
    (k1 : Cond.code y bytes maxL ret ∈ wd_all) (k2 : Cond.initialized y.cls ∈ wd_all) (k3 : Cond.methodLinkNest own index y host ∈ nw_all) (k4 : Cond.static y ∈ wd_all)
    (hd : y.cls ≠ "java/lang/invoke/MethodHandle" ∧ y.cls ≠ "java/lang/invoke/VarHandle" ∧ (parseMethodDescriptor y.desc).map (fun d => d.parameters.length) = some n) (hrc : rm.cells = mc) (hrs : rm.slots = ms) (hR : rm.frames + 1 ≤ R.frames ∧ 8 + (maxL + 11) + rm.locals ≤ R.locals)
    (hP : va_P D cl ws H) (hD : va_D A ws) (hS : va_S A H0 H locs) (hA : ∀ q, H0.size ≤ q → A q) (isC isR : List Nat) (hC : isC.map (fun i => ws[i]?) = wc.map some) (hRr : isR.map (fun i => ws[i]?) = wr.map some) (hnC : va_nd isC = true) (hn : va_nd isR = true) (hdis : ∀ i ∈ isR, i ∉ isC)
    (hlen : As.length = n) (hsize : ls.size = nL) (hstack : st0 = As.reverse ++ rest) (hW : (rest.map fun v => v.category).sum ≤ 8) (hdg : decode cc pc = .ok (.invokestatic index, 3)) (hf : cells + mc ≤ R.cells ∧ slots + ms ≤ R.slots)
    (kk : ∀ (r : Int32) (u : S) (H1 : Heap) (locs1 : List Loc), post r u → va_P D cl (wr ++ w1 u) H1 → va_D A (wr ++ w1 u) → va_S A H0 H1 locs1 → W p l e R s m args below meth c H1 locs1 (cells + mc) (slots + ms) Q (F0 m (pc + 3) ls (.int r :: rest))) : W p l e R s m args below meth c H locs cells slots Q (F0 m pc ls st0) := by
  obtain ⟨hx, hb, hml, ho, htw, hN, hK⟩ := F
  have hFr := va_free (wc := wc) hD hS hA isC hC
  have hPc : va_P D cl wc H := bc_sub hP isC hC
  have hDc : va_D A wc := hD.sub isC hnC hC
  refine va_calli (va_runSN (As := As) (rest := rest) ⟨hx, hb, hml, ho, htw⟩ hM ⟨va_cnB n htw (bc_good k1) rfl hrc hrs (hN _ k3) (htw _ k2) hd hR, htw _ k4, trivial⟩ (bc_preS hPc hK hDc hN) rfl hlen hsize hstack (lv_room hW) hdg hf) hS (fun q _ h => hFr q h) hFr (fun r u t H1 locs1 ht hvm hp hB hz hk hS1 => ?_)
  obtain ⟨hP1, hK1, hD1⟩ := hB
  rw [ht] at hP1
  obtain ⟨hP2, hD2⟩ := va_join hP hD isC isR hC hRr hn hdis hk hFr hP1 hD1
  exact kk r u H1 locs1 hp hP2 hD2 hS1
theorem bc_call_ni_v {S : Type} {post : S → Prop} {w1 : S → va_W} (F : bc_Fx p m c cc nL s args own D cl tys) (hM : Met l y (Cond.code y bytes maxL none :: wd_all) rm (bc_Pre D cl tys (.ref b :: As) wc H.size) (va_Qv post (fun u t => bc_B D cl tys (va_A wc H.size) (w1 u) t) (va_A wc H.size)) mc ms (va_A wc H.size))
    (k1 : Cond.code y bytes maxL none ∈ wd_all) (k2 : Cond.initialized y.cls ∈ wd_all) (k3 : Cond.methodLinkNest own index y host ∈ nw_all) (k4 : Cond.instanceMethod y ∈ wd_all) (k5 : y.name = "<init>")
    (hd : y.cls ≠ "java/lang/invoke/MethodHandle" ∧ y.cls ≠ "java/lang/invoke/VarHandle" ∧ (parseMethodDescriptor y.desc).map (fun d => d.parameters.length) = some n) (hrc : rm.cells = mc) (hrs : rm.slots = ms) (hR : rm.frames + 1 ≤ R.frames ∧ 8 + (maxL + 11) + rm.locals ≤ R.locals)
    (hP : va_P D cl ws H) (hD : va_D A ws) (hS : va_S A H0 H locs) (hA : ∀ q, H0.size ≤ q → A q) (isC isR : List Nat) (hC : isC.map (fun i => ws[i]?) = wc.map some) (hRr : isR.map (fun i => ws[i]?) = wr.map some) (hnC : va_nd isC = true) (hn : va_nd isR = true) (hdis : ∀ i ∈ isR, i ∉ isC)
    (hlen : As.length = n) (hsize : ls.size = nL) (hstack : st0 = As.reverse ++ .ref b :: rest) (hW : (rest.map fun v => v.category).sum ≤ 8) (hdg : decode cc pc = .ok (.invokespecial index, 3)) (hf : cells + mc ≤ R.cells ∧ slots + ms ≤ R.slots)
    (kk : ∀ (u : S) (H1 : Heap) (locs1 : List Loc), post u → va_P D cl (wr ++ w1 u) H1 → va_D A (wr ++ w1 u) → va_S A H0 H1 locs1 → W p l e R s m args below meth c H1 locs1 (cells + mc) (slots + ms) Q (F0 m (pc + 3) ls rest)) : W p l e R s m args below meth c H locs cells slots Q (F0 m pc ls st0) := by
  obtain ⟨hx, hb, hml, ho, htw, hN, hK⟩ := F
  have hFr := va_free (wc := wc) hD hS hA isC hC
  have hPc : va_P D cl wc H := bc_sub hP isC hC
  have hDc : va_D A wc := hD.sub isC hnC hC
  refine va_callv (va_runIN (As := As) (rest := rest) ⟨hx, hb, hml, ho, htw⟩ hM ⟨va_cnB n htw (bc_good k1) rfl hrc hrs (hN _ k3) (htw _ k2) hd hR, k5, htw _ k4⟩ (bc_preS hPc hK hDc hN) rfl hlen hsize hstack (lv_room hW) hdg hf) hS (fun q _ h => hFr q h) hFr (fun u t H1 locs1 ht hvm hp hB hz hk hS1 => ?_)
  obtain ⟨hP1, hK1, hD1⟩ := hB
  rw [ht] at hP1
  obtain ⟨hP2, hD2⟩ := va_join hP hD isC isR hC hRr hn hdis hk hFr hP1 hD1
  exact kk u H1 locs1 hp hP2 hD2 hS1
/-- ends -/
theorem bc_vret {S : Type} {post : S → Prop} {w1 : S → va_W} (F : bc_Fx p m c cc nL s args own D cl tys) (hr : meth.sig.returnType = none) (hlocks : meth.locks = false) (u : S) (hp : post u) (hP : va_P D cl (w1 u) H) (hD : va_D A (w1 u)) (hS : va_S A s.heap H locs) (hdg : decode cc pc = .ok (.return_, 1)) :
    W p l e R s m args below meth c H locs cells slots (MQ below (va_Qv post (fun u t => bc_B D cl tys A (w1 u) t) A) args s cells slots A) (F0 m pc ls []) :=
  W.vret F.1 F.2.1 hr (fun t ht hW => ⟨⟨u, rfl, hp, by rw [ht]; exact hP, va_K.moved hW.alike F.2.2.2.2.2.2, hD⟩, hS.F ht⟩) hS.2.2 hdg hlocks
theorem bc_iret {S : Type} {post : Int32 → S → Prop} {w1 : S → va_W} {v : Int32} (F : bc_Fx p m c cc nL s args own D cl tys) (hr : meth.sig.returnType = some .int) (hlocks : meth.locks = false) (u : S) (hp : post v u) (hP : va_P D cl (w1 u) H) (hD : va_D A (w1 u)) (hS : va_S A s.heap H locs) (hdg : decode cc pc = .ok (.ireturn, 1)) :
    W p l e R s m args below meth c H locs cells slots (MQ below (va_Qi post (fun u t => bc_B D cl tys A (w1 u) t) A) args s cells slots A) (F0 m pc ls [.int v]) :=
  W.iret F.1 F.2.1 hr (fun t ht hW => ⟨⟨v, u, rfl, hp, by rw [ht]; exact hP, va_K.moved hW.alike F.2.2.2.2.2.2, hD⟩, hS.F ht⟩) hS.2.2 hdg hlocks
theorem bc_zret {S : Type} {post : Int32 → S → Prop} {w1 : S → va_W} {v : Int32} (F : bc_Fx p m c cc nL s args own D cl tys) (hr : meth.sig.returnType = some .boolean) (hlocks : meth.locks = false) (hn : narrow .boolean (.int v) = .int v) (u : S) (hp : post v u) (hP : va_P D cl (w1 u) H) (hD : va_D A (w1 u)) (hS : va_S A s.heap H locs) (hdg : decode cc pc = .ok (.ireturn, 1)) :
    W p l e R s m args below meth c H locs cells slots (MQ below (va_Qi post (fun u t => bc_B D cl tys A (w1 u) t) A) args s cells slots A) (F0 m pc ls [.int v]) :=
  W.zret F.1 F.2.1 hr hn (fun t ht hW => ⟨⟨v, u, rfl, hp, by rw [ht]; exact hP, va_K.moved hW.alike F.2.2.2.2.2.2, hD⟩, hS.F ht⟩) hS.2.2 hdg hlocks
theorem bc_aret {S : Type} {post : S → Prop} {w1 : S → Nat → va_W} {a : Nat} {rt : FieldType} (F : bc_Fx p m c cc nL s args own D cl tys) (hr : meth.sig.returnType = some rt) (hrt : (∃ n, rt = .object n) ∨ ∃ t, rt = .array t) (hlocks : meth.locks = false) (u : S) (hp : post u) (hP : va_P D cl (w1 u a) H) (hD : va_D A (w1 u a)) (hS : va_S A s.heap H locs) (hdg : decode cc pc = .ok (.areturn, 1)) :
    W p l e R s m args below meth c H locs cells slots (MQ below (va_Qr post (fun u a t => bc_B D cl tys A (w1 u a) t) A) args s cells slots A) (F0 m pc ls [.ref a]) :=
  W.aret F.1 F.2.1 hr hrt (Or.inr ⟨a, rfl⟩) (fun t ht hW => ⟨⟨u, a, rfl, hp, by rw [ht]; exact hP, va_K.moved hW.alike F.2.2.2.2.2.2, hD⟩, hS.F ht⟩) hS.2.2 hdg hlocks
end BCC
