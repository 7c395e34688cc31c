/-! the roads that throw: what they need of the start, pure callees, throwing callees -/
def tw_all : List Cond := [.declares ⟨"java/lang/RuntimeException", "<init>", "(Ljava/lang/String;)V"⟩, .declares ⟨"java/lang/Exception", "<init>", "(Ljava/lang/String;)V"⟩, .declares ⟨"java/lang/Throwable", "<init>", "(Ljava/lang/String;)V"⟩,
  .castable "java/lang/IllegalArgumentException" "java/lang/IllegalArgumentException", .castable "java/lang/IllegalStateException" "java/lang/IllegalStateException", .castable "java/lang/IndexOutOfBoundsException" "java/lang/IndexOutOfBoundsException",
  .not (.castable "java/lang/IllegalArgumentException" "java/lang/IllegalStateException"), .not (.castable "java/lang/IllegalArgumentException" "java/lang/IndexOutOfBoundsException"), .not (.castable "java/lang/IllegalStateException" "java/lang/IllegalArgumentException"), .not (.castable "java/lang/IllegalStateException" "java/lang/IndexOutOfBoundsException"), .not (.castable "java/lang/IndexOutOfBoundsException" "java/lang/IllegalArgumentException"), .not (.castable "java/lang/IndexOutOfBoundsException" "java/lang/IllegalStateException"),
  .stringRef "BranchConstants" 53 "the program is full", .stringRef "BranchConstants" 94 "the program is empty", .stringRef "BranchConstants" 119 "no such instruction or number of it", .stringRef "BranchConstants" 135 "no such number of steps", .stringRef "BranchConstants" 164 "no such kind, variable or target", .stringRef "BranchConstants" 166 "no such instruction", .stringRef "BranchConstants" 171 "no such variable", .stringRef "BranchConstants" 173 "no such side", .stringRef "BranchConstants" 175 "there is no rewritten program", .stringRef "BranchConstants" 177 "the run was not started, or not since the last change"]
def bc_isT : Cond → Bool
  | .declares _ => true
  | .castable _ _ => true
  | .stringRef _ _ _ => true
  | .not (.castable _ _) => true
  | _ => false
theorem tw_kind : tw_all.all bc_isT = true := rfl
theorem bc_tv_c {a b : String} {args a' : Array Value} {s U : State} (hW : s.WarmedH U.vm) (h : (Cond.castable a b).before args s = true) : (Cond.castable a b).before a' U = true := by
  have h1 : (Cond.castable a b).before args (s.setVm U.vm) = true := Cond.before_shiftedFace (State.Shifted.of_warmed hW) _ rfl h
  exact h1
theorem bc_tv_d {a : MethodName} {args a' : Array Value} {s U : State} (hW : s.WarmedH U.vm) (h : (Cond.declares a).before args s = true) : (Cond.declares a).before a' U = true := by
  have h1 : (Cond.declares a).before args (s.setVm U.vm) = true := Cond.before_shiftedFace (State.Shifted.of_warmed hW) _ rfl h
  exact h1
theorem bc_tv_s {a c : String} {k : Nat} {args a' : Array Value} {s U : State} (hW : s.WarmedH U.vm) (h : (Cond.stringRef a k c).before args s = true) : (Cond.stringRef a k c).before a' U = true := by
  have h1 : (Cond.stringRef a k c).before args (s.setVm U.vm) = true := Cond.stringRef_warmed hW h
  exact h1
theorem bc_tv_n {a b : String} {args a' : Array Value} {s U : State} (hW : s.WarmedH U.vm) (h : (Cond.not (Cond.castable a b)).before args s = true) : (Cond.not (Cond.castable a b)).before a' U = true := by
  have h1 : (Cond.not (Cond.castable a b)).before args (s.setVm U.vm) = true := by
    have hv := Cond.holds_not_iff.mp h
    refine Cond.holds_not_iff.mpr ?_
    simp only [Cond.value] at hv ⊢
    rw [← hv]
    simp only [State.setVm, hW.alike.findClass, hW.alike.assignable]
  exact h1
theorem bc_t_mv {w : Cond} (hk : bc_isT w = true) {args a' : Array Value} {s U : State} (hW : s.WarmedH U.vm) (h : w.before args s = true) : w.before a' U = true := by
  unfold bc_isT at hk
  split at hk
  · exact bc_tv_d hW h
  · exact bc_tv_c hW h
  · exact bc_tv_s hW h
  · exact bc_tv_n hW h
  · cases hk
/-- a static of Throwable that holds a reference or null -/
def bc_Z1 (n d : String) (U : State) : Prop := ∃ (c : Nat) (k : Class) (i : Nat) (f : Field) (a : Nat) (cell : Cell) (v : Value), U.vm.findClass "java/lang/Throwable" = some c ∧ U.fieldFound? "java/lang/Throwable" n d = some (c, k, i, f) ∧ f.isStatic = true ∧ k.statics = some a ∧ U.heap[a]? = some cell ∧ cell.vm.isStatics = true ∧ cell.cls = c ∧ f.slot < cell.slots.size ∧ k.staticTypes[f.slot]? = some f.type ∧ cell.slots[f.slot]? = some v ∧ v.isRef = true
theorem bc_Z1.mv {n d : String} {u U : State} (hvm : u.vm.Alike U.vm) (hh : ∀ (a : Nat) (cell : Cell), u.heap[a]? = some cell → cell.vm.isStatics = true → U.heap[a]? = some cell) (h : bc_Z1 n d u) : bc_Z1 n d U := by
  obtain ⟨c, k, i, f, a, cell, v, h1, h2, h3, h4, h5, h6, h7, h8, h9, h10, h11⟩ := h
  obtain ⟨k', hi', he⟩ := State.fieldFound?_setVm hvm h2
  exact ⟨c, k', i, f, a, cell, v, by rw [hvm.findClass]; exact h1, hi', h3, by rw [he]; exact h4, hh a cell h5 h6, h6, h7, h8, by rw [he]; exact h9, h10, h11⟩
theorem bc_Z1.lay {n d : String} {U : State} {args : Array Value} (h : bc_Z1 n d U) : (Cond.laysStatic "java/lang/Throwable" n d).before args U = true := by
  obtain ⟨c, k, i, f, a, cell, v, h1, h2, h3, h4, h5, h6, h7, h8, h9, h10, h11⟩ := h
  exact Cond.laysStatic_of (args := args) (first := U) (o := none) (idx := []) h1 h2 h3 h4 h5 h6 h7 h8 h9
theorem bc_Z1.ref {n d : String} {U : State} {args : Array Value} (h : bc_Z1 n d U) : (Cond.isRef (.static "java/lang/Throwable" n d)).before args U = true := by
  obtain ⟨c, k, i, f, a, cell, v, h1, h2, h3, h4, h5, h6, h7, h8, h9, h10, h11⟩ := h
  have he : (Term.static "java/lang/Throwable" n d).eval args U none [] U = some v := by
    simp [Term.eval, State.fieldNamed?, h2, h3, h4, h5, h6, h10]
  simp only [Cond.before, Cond.holds, Cond.value, he]
  cases v <;> simp_all [Value.isRef]
theorem bc_Z1.of {n d : String} {U : State} {args : Array Value} (hl : (Cond.laysStatic "java/lang/Throwable" n d).before args U = true) (h : (Cond.isRef (.static "java/lang/Throwable" n d)).before args U = true) : bc_Z1 n d U := by
  obtain ⟨c, k, i, f, a, cell, h1, h2, h3, h4, h5, h6, h7, h8, h9⟩ := Cond.laysStatic_spec hl
  cases hv : (Term.static "java/lang/Throwable" n d).eval args U none [] U with
  | none => simp [Cond.before, Cond.holds, Cond.value, hv] at h
  | some w =>
    obtain ⟨-, a', cell', ha', hcell', -, hslot⟩ := Term.static_spec h2 hv
    cases h4.symm.trans ha'
    cases h5.symm.trans hcell'
    refine ⟨c, k, i, f, a, cell, w, h1, h2, h3, h4, h5, h6, h7, h8, h9, hslot, ?_⟩
    simp only [Cond.before, Cond.holds, Cond.value, hv] at h
    cases w <;> simp_all [Value.isRef]
def bc_T (U : State) : Prop := (∀ w ∈ tw_all, ∀ a : Array Value, w.before a U = true) ∧ bc_Z1 "UNASSIGNED_STACK" "[Ljava/lang/StackTraceElement;" U ∧ bc_Z1 "SUPPRESSED_SENTINEL" "Ljava/util/List;" U
theorem bc_T.mv {s U : State} (hW : s.WarmedH U.vm) (hh : ∀ (a : Nat) (cell : Cell), s.heap[a]? = some cell → cell.vm.isStatics = true → U.heap[a]? = some cell) (h : bc_T s) : bc_T U :=
  ⟨fun w hw a => bc_t_mv (List.all_eq_true.mp tw_kind w hw) hW (h.1 w hw #[]), bc_Z1.mv hW.alike hh h.2.1, bc_Z1.mv hW.alike hh h.2.2⟩
theorem bc_T.same {s U : State} (hv : U.vm = s.vm) (hh : U.heap = s.heap) (h : bc_T s) : bc_T U :=
  bc_T.mv (by rw [hv]; exact State.WarmedH.refl s) (fun a cell h1 _ => by rw [hh]; exact h1) h
/-! pure callees: they return, and the heap is as it was -/
def bc_pq (po : Option Value → Prop) : Array Value → State → Outcome → State → Prop := fun _ st o t => ∃ v, o = .returned v ∧ po v ∧ t.heap = st.heap
def bc_no : Addr → Prop := fun _ => False
section BCP
variable {p : Program} {l : Launch} {e : Env} {R : Room} {s : State} {m : MethodId} {args : Array Value} {below : List Frame} {meth : Method} {c : Code} {H : Heap} {locs : List Loc} {cells slots : Nat} {Q : State → Prop}
variable {cc bytes : ByteArray} {pc nL maxL n index : Nat} {ls : Array Slot} {rest st0 As : List Value} {b : Addr} {own host C : String} {y : MethodName} {ret : Option FieldType} {rm : Room} {D : va_G} {cl : List vw_C} {tys : List (ClassId × FieldType)} {ws wc wr : va_W} {po : Option Value → Prop}
theorem bc_metP {av : List Value} {sz : Nat} (hy : plainName y.cls = true) (hlen : (lg_sl av).length ≤ maxL)
    (body : ∀ (p : Program) (e : Env) (s : State) (m : MethodId) (args : Array Value) (below : List Frame) (meth : Method) (c : Code) (ls : Array Slot), bc_Fx p m c cc maxL s args y.cls D cl tys → meth.sig.returnType = ret → meth.locks = false → va_P D cl wc s.heap → va_D (fun _ => True) wc → lv_has ls maxL (lv_args 0 av) → W p l e rm s m args below meth c s.heap [] 0 0 (MQ below (bc_pq po) args s 0 0 bc_no) (F0 m 0 ls [])) :
    Met l y (Cond.code y cc maxL ret :: wd_all) rm (bc_Pre D cl tys av wc sz) (bc_pq po) 0 0 bc_no := by
  refine Met.ofW (cc := cc) (maxL := maxL) (ret := ret) hy rfl ?_
  intro p e s m args below meth c s₁ B hml hv
  obtain ⟨rfl, hsz, hP, hK, hD0, hN⟩ := hv
  have hl := lv_entry av (n := maxL) hlen
  rw [lg_entry_eq]
  have hts := atoms_spec (ws := Cond.code y cc maxL ret :: wd_all) B.pre
  exact body p e s m _ below meth c _ ⟨B.exec, B.bytes, hml, findClass_of_methodNamed B.named, fun w h => hts w (List.mem_cons_of_mem _ h), hN, hK⟩ B.returns B.notSynchronized hP hD0 hl
theorem bc_pv (F : bc_Fx p m c cc nL s args own D cl tys) (hr : meth.sig.returnType = none) (hlocks : meth.locks = false) (hpo : po none) (hdg : decode cc pc = .ok (.return_, 1)) : W p l e R s m args below meth c s.heap [] 0 0 (MQ below (bc_pq po) args s 0 0 bc_no) (F0 m pc ls []) :=
  W.vret F.1 F.2.1 hr (fun t ht _ => ⟨_, rfl, hpo, ht⟩) (fun q hq => absurd hq (List.not_mem_nil)) hdg hlocks
theorem bc_pz {x : Int32} (F : bc_Fx p m c cc nL s args own D cl tys) (hr : meth.sig.returnType = some .boolean) (hlocks : meth.locks = false) (hn : narrow .boolean (.int x) = .int x) (hpo : po (some (.int x))) (hdg : decode cc pc = .ok (.ireturn, 1)) : W p l e R s m args below meth c s.heap [] 0 0 (MQ below (bc_pq po) args s 0 0 bc_no) (F0 m pc ls [.int x]) :=
  W.zret F.1 F.2.1 hr hn (fun t ht _ => ⟨_, rfl, hpo, ht⟩) (fun q hq => absurd hq (List.not_mem_nil)) hdg hlocks
theorem bc_pa {a : Nat} {rt : FieldType} (F : bc_Fx p m c cc nL s args own D cl tys) (hr : meth.sig.returnType = some rt) (hrt : (∃ n, rt = .object n) ∨ ∃ t, rt = .array t) (hlocks : meth.locks = false) (hpo : po (some (.ref a))) (hdg : decode cc pc = .ok (.areturn, 1)) : W p l e R s m args below meth c s.heap [] 0 0 (MQ below (bc_pq po) args s 0 0 bc_no) (F0 m pc ls [.ref a]) :=
  W.aret F.1 F.2.1 hr hrt (Or.inr ⟨a, rfl⟩) (fun t ht _ => ⟨_, rfl, hpo, ht⟩) (fun q hq => absurd hq (List.not_mem_nil)) hdg hlocks
theorem bc_prun (hr : va_Run p l e R s m args below meth c H locs cells slots 0 0 (F0 m pc ls st0) rest (bc_pq po #[]) bc_no) (kk : ∀ v : Option Value, po v → W p l e R s m args below meth c H locs cells slots Q (F0 m (pc + 3) ls (v.toList ++ rest))) : W p l e R s m args below meth c H locs cells slots Q (F0 m pc ls st0) := by
  intro T hT X
  obtain ⟨v9, st₀, t, T', L, h0, X', hL, e1, e2, ⟨v8, hv, hpv, hh⟩, st⟩ := hr T hT X
  cases hv
  have hLe : L = [] := by
    cases L with
    | nil => rfl
    | cons q r => exact absurd (hL q List.mem_cons_self) (fun z => z)
  subst hLe
  rw [List.append_nil] at X'
  obtain ⟨t2, a1, b1⟩ := kk _ hpv T' (by rw [e1, hh, h0]) X'
  exact ⟨t2, st t2 a1, b1⟩
theorem bc_pcall_s (F : bc_Fx p m c cc nL s args own D cl tys) (hM : Met l y (Cond.code y bytes maxL ret :: wd_all) rm (bc_Pre D cl tys As [] H.size) (bc_pq po) 0 0 bc_no)
    (k1 : Cond.code y bytes maxL ret ∈ wd_all) (k2 : Cond.initialized y.cls ∈ wd_all) (k3 : Cond.methodLink own index y ∈ wd_all) (k4 : Cond.static y ∈ wd_all)
    (hd : y.cls ≠ "java/lang/invoke/MethodHandle" ∧ y.cls ≠ "java/lang/invoke/VarHandle" ∧ (parseMethodDescriptor y.desc).map (fun d => d.parameters.length) = some n) (hrc : rm.cells = 0) (hrs : rm.slots = 0) (hR : rm.frames + 1 ≤ R.frames ∧ 8 + (maxL + 11) + rm.locals ≤ R.locals)
    (hlen : As.length = n) (hsize : ls.size = nL) (hstack : st0 = As.reverse ++ rest) (hW : (rest.map fun v => v.category).sum ≤ 8) (hdg : decode cc pc = .ok (.invokestatic index, 3)) (hf : cells + 0 ≤ R.cells ∧ slots + 0 ≤ R.slots)
    (kk : ∀ v : Option Value, po v → W p l e R s m args below meth c H locs cells slots Q (F0 m (pc + 3) ls (v.toList ++ rest))) : W p l e R s m args below meth c H locs cells slots Q (F0 m pc ls st0) := by
  obtain ⟨hx, hb, hml, ho, htw, hN, hK⟩ := F
  exact bc_prun (va_runS (As := As) (rest := rest) ⟨hx, hb, hml, ho, htw⟩ hM ⟨callB_of n htw (bc_good k1) rfl hrc hrs (htw _ k2) (htw _ k3) hd hR, htw _ k4⟩ (bc_preS (A := fun _ => True) (fun k q h => absurd h (by simp)) hK ⟨fun i j p q h => absurd h (by simp), fun k q h => absurd h (by simp)⟩ hN) rfl hlen hsize hstack (lv_room hW) hdg hf) kk
theorem bc_pcall_v (F : bc_Fx p m c cc nL s args own D cl tys) (hM : Met l y (Cond.code y bytes maxL ret :: wd_all) rm (bc_Pre D cl tys (.ref b :: As) wc H.size) (bc_pq po) 0 0 bc_no)
    (k1 : Cond.code y bytes maxL ret ∈ wd_all) (k2 : Cond.initialized y.cls ∈ wd_all) (k3 : Cond.methodLink own index y ∈ wd_all) (k4 : Cond.instanceMethod y ∈ wd_all) (k5 : Cond.selects C y y ∈ wd_all) (q0 : Nat) {ci : Nat} {fs : List Value} {T0 : u_T} {N0 : Nat} (he : ws[q0]? = some (b, .inr (ci, fs))) (hc : cl[ci]? = some (C, T0, N0))
    (hd : y.cls ≠ "java/lang/invoke/MethodHandle" ∧ y.cls ≠ "java/lang/invoke/VarHandle" ∧ (parseMethodDescriptor y.desc).map (fun d => d.parameters.length) = some n) (hrc : rm.cells = 0) (hrs : rm.slots = 0) (hR : rm.frames + 1 ≤ R.frames ∧ 8 + (maxL + 11) + rm.locals ≤ R.locals)
    (hP : va_P D cl ws H) (hD : va_D (fun _ => True) ws) (isC : List Nat) (hC : isC.map (fun i => ws[i]?) = wc.map some) (hnC : va_nd isC = true)
    (hlen : As.length = n) (hsize : ls.size = nL) (hstack : st0 = As.reverse ++ .ref b :: rest) (hW : (rest.map fun v => v.category).sum ≤ 8) (hdg : decode cc pc = .ok (.invokevirtual index, 3)) (hf : cells + 0 ≤ R.cells ∧ slots + 0 ≤ R.slots)
    (kk : ∀ v : Option Value, po v → W p l e R s m args below meth c H locs cells slots Q (F0 m (pc + 3) ls (v.toList ++ rest))) : W p l e R s m args below meth c H locs cells slots Q (F0 m pc ls st0) := by
  obtain ⟨hx, hb, hml, ho, htw, hN, hK⟩ := F
  exact bc_prun (va_runV (C := C) (As := As) (rest := rest) ⟨hx, hb, hml, ho, htw⟩ hM ⟨callB_of n htw (bc_good k1) rfl hrc hrs (htw _ k2) (htw _ k3) hd hR, htw _ k4, htw _ k5⟩ (bc_preV (bc_sub hP isC hC) hK (hD.sub isC hnC hC) hN (va_recv hK hP hc he)) rfl hlen hsize hstack (lv_room hW) hdg hf) kk
end BCP
