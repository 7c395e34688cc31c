/-! methods that catch -/
section BCW
variable {p : Program} {l : Launch} {e : Env} {R : Room} {s : State} {m : MethodId} {args : Array Value} {below : List Frame} {meth : Method} {c : Code} {Q : State → Prop}
variable {cc bytes : ByteArray} {pc nL maxL n index : Nat} {ls : Array Slot} {rest st0 As : List Value} {b : Addr} {own host C E : String} {y : MethodName} {ret : Option FieldType} {rm : Room} {D : va_G} {cl : List vw_C} {tys : List (ClassId × FieldType)} {ws wc wr : va_W}
theorem bc_metW {av : List Value} {sz : Nat} {hh : List (Nat × Nat × Nat × Nat)} (Qc : (Nat → Prop) → Array Value → State → Outcome → State → Prop) {mc ms : Nat} (hy : plainName y.cls = true) (hlen : (lg_sl av).length ≤ maxL)
    (body : ∀ (p : Program) (e : Env) (s : State) (m : MethodId) (args : Array Value) (below : List Frame) (meth : Method) (c : Code) (A : Nat → Prop) (ls : Array Slot), bc_Fx p m c cc maxL s args y.cls D cl tys → meth.sig.returnType = ret → meth.locks = false → (∀ q : Nat, s.heap.size ≤ q → A q) → va_P D cl wc s.heap → va_D A wc → lv_has ls maxL (lv_args 0 av) → va_S A s.heap s.heap [] → bc_T s → c.exceptionTable.toList.map (fun h => (h.startPc, h.endPc, h.handlerPc, h.catchType)) = hh → W p l e rm s m args below meth c s.heap [] 0 0 (MQ below (Qc A) args s mc ms A) (F0 m 0 ls [])) :
    Met l y (Cond.codeWith y cc maxL ret hh :: wd_all) rm (bc_PreX D cl tys av wc sz) (Qc (va_A wc sz)) mc ms (va_A wc sz) := by
  refine va_MetW (cc := cc) (maxL := maxL) (ret := ret) (hh := hh) hy rfl ?_
  intro p e s m args below meth c s₁ B hml hv
  obtain ⟨⟨rfl, hsz, hP, hK, hD0, hN⟩, hT⟩ := hv
  subst hsz
  have hl := lv_entry av (n := maxL) hlen
  rw [lg_entry_eq]
  have hts := atoms_spec (ws := Cond.codeWith y cc maxL ret hh :: wd_all) B.pre
  obtain ⟨m9, meth9, c9, g1, g2, g3, -, -, g4, -⟩ := Cond.codeWith_spec (hts _ List.mem_cons_self)
  cases B.named.symm.trans g1
  cases B.method.symm.trans g2
  cases (Stand.of_body B).code.symm.trans g3
  exact body p e s m _ below meth c _ _ ⟨B.exec, B.bytes, hml, findClass_of_methodNamed B.named, fun w h => hts w (List.mem_cons_of_mem _ h), hN, hK⟩ B.returns B.notSynchronized (fun q h => Or.inr h) hP hD0.self hl va_S.rf hT g4
theorem bc_xcatch (F : bc_Fx p m c cc nL s args own D cl tys) (hT9 : bc_T s) (hM : bc_XM l y (Cond.code y bytes maxL ret :: wd_all) rm (bc_PreX D cl tys (.ref b :: As) wc s.heap.size) E)
    (k1 : Cond.code y bytes maxL ret ∈ wd_all) (k2 : Cond.initialized y.cls ∈ wd_all) (k3 : Cond.methodLink own index y ∈ wd_all) (k4 : Cond.instanceMethod y ∈ wd_all) (k5 : Cond.selects C y y ∈ wd_all) (q0 : Nat) {ci : Nat} {fs : List Value} {T0 : u_T} {N0 : Nat} (he : ws[q0]? = some (b, .inr (ci, fs))) (hc : cl[ci]? = some (C, T0, N0))
    (hd : y.cls ≠ "java/lang/invoke/MethodHandle" ∧ y.cls ≠ "java/lang/invoke/VarHandle" ∧ (parseMethodDescriptor y.desc).map (fun d => d.parameters.length) = some n) (hrc : rm.cells = 1) (hrs : rm.slots = 6) (hR : rm.frames + 1 ≤ R.frames ∧ 8 + (maxL + 11) + rm.locals ≤ R.locals)
    (hP : va_P D cl ws s.heap) (hD : va_D (fun _ => True) ws) (isC : List Nat) (hC : isC.map (fun i => ws[i]?) = wc.map some) (hnC : va_nd isC = true)
    (hlen : As.length = n) (hsize : ls.size = nL) (hstack : st0 = As.reverse ++ .ref b :: rest) (hW : (rest.map fun v => v.category).sum ≤ 8) (hdg : decode cc pc = .ok (.invokevirtual index, 3)) (hf : 0 + 1 ≤ R.cells ∧ 0 + 6 ≤ R.slots)
    {hh pre post : List (Nat × Nat × Nat × Nat)} {sp ep hp ct : Nat} (htab : c.exceptionTable.toList.map (fun h => (h.startPc, h.endPc, h.handlerPc, h.catchType)) = hh) (hsp : hh = pre ++ (sp, ep, hp, ct) :: post)
    (hpre : ∀ z ∈ pre, ∃ name, z.2.2.2 ≠ 0 ∧ Cond.classLink own z.2.2.2 name ∈ wd_all ∧ Cond.not (.castable E name) ∈ tw_all) (hcov : sp ≤ pc ∧ pc < ep) (hct : ct ≠ 0) (hlk : Cond.classLink own ct E ∈ wd_all) (hca : Cond.castable E E ∈ tw_all)
    (kk : ∀ (q : Addr) (H1 : Heap), (∀ z : Nat, z < s.heap.size → H1[z]? = s.heap[z]?) → s.heap.size ≤ H1.size → W p l e R s m args below meth c H1 [] 1 6 Q (F0 m hp ls [.ref q])) : W p l e R s m args below meth c s.heap [] 0 0 Q (F0 m pc ls st0) := by
  intro T hT X
  obtain ⟨x, B, X', hk, ⟨ce, cE, h5, h6, h7, h8⟩, hst⟩ := bc_xgo F hT9 hM k1 k2 k3 k4 k5 q0 he hc hd hrc hrs hR hP hD isC hC hnC hlen hsize hstack hW hdg hf hT X
  obtain ⟨hx, hb, hml, ho, htw, hN, hK⟩ := F
  rw [hsp] at htab
  obtain ⟨preE, restE, t1, t2, t3⟩ := List.map_eq_append_iff.mp htab
  obtain ⟨xE, postE, t4, t5, t6⟩ := List.map_eq_cons_iff.mp t3
  rw [t4] at t1
  simp only [Prod.mk.injEq] at t5
  obtain ⟨u1, u2, u3, u4⟩ := t5
  have hpl : e.platform.magicAccessors = ({} : Platform).magicAccessors := by rw [X'.admits.platform]
  subst h7
  obtain ⟨c3, cT, hc3, hcT, hasg⟩ := Cond.castable_spec (hT9.1 _ hca args)
  cases h6.symm.trans hc3
  obtain ⟨hend, hk0⟩ := X'.catches_of_link ho (by rw [u4]; exact hct) (by rw [u4]; exact htw _ hlk) hcT hasg
  have hpass : ∀ z ∈ preE, RowPassed e.platform s m.cls pc ce.cls z := by
    intro z hz
    obtain ⟨name, g1, g2, g3⟩ := hpre _ (by rw [← t2]; exact List.mem_map_of_mem hz)
    exact RowPassed.of_words hpl ho g1 (htw _ g2) h6 (hT9.1 _ g3 args)
  obtain ⟨vm', XV, st⟩ := X'.thenCaughtThrough x (g := F0 m pc ls rest) rfl hst h5 h8 hk0 preE xE postE t1 hpass (by simp [covers, u1, u2, hcov.1, hcov.2]) hend
  have hz : s.heap.size ≤ B.heap.size := X'.same.2.1
  obtain ⟨t, a1, b1⟩ := kk x B.heap hk hz (B.setVm vm') rfl XV
  rw [u3] at st
  exact ⟨t, st.trans a1, b1⟩
end BCW
