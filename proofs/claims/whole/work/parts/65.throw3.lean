/-! calls of callees that throw -/
def bc_xpre (R : Room) (Pc : Array Value → State → Prop) : Jvm.Free.Pt → Array Value → Prop := fun A a => A.2.2.1 + 1 ≤ R.cells ∧ A.2.2.2 + 6 ≤ R.slots ∧ Pc a A.1
def bc_xpost (E : String) : Jvm.Free.Pt → Array Value → Addr → Jvm.Free.Pt → Prop := fun A _ x B => B.2.1 = A.2.1 ∧ B.2.2.1 = A.2.2.1 + 1 ∧ B.2.2.2 = A.2.2.2 + 6 ∧ (∀ q : Nat, q < A.1.heap.size → B.1.heap[q]? = A.1.heap[q]?) ∧ ∃ (ce : Cell) (cE : ClassId), B.1.heap[x]? = some ce ∧ A.1.vm.findClass E = some cE ∧ ce.cls = cE ∧ ce.vm.isStatics = false
section BCY
variable {p : Program} {l : Launch} {e : Env} {R : Room} {s : State} {m : MethodId} {args : Array Value} {below : List Frame} {meth : Method} {c : Code} {Q : State → Prop}
variable {cc bytes : ByteArray} {pc nL maxL n index : Nat} {ls : Array Slot} {rest st0 As : List Value} {b : Addr} {own host C E : String} {y : MethodName} {ret : Option FieldType} {rm : Room} {D : va_G} {cl : List vw_C} {tys : List (ClassId × FieldType)} {ws wc wr : va_W}
theorem bc_back {Pc : Array Value → State → Prop} (hM : bc_XM l y (Cond.code y bytes maxL ret :: wd_all) rm Pc E) (hbl : FrameBlind Pc) (htw : ∀ w ∈ wd_all, w.before args s = true) (k1 : Cond.code y bytes maxL ret ∈ wd_all) (k2 : Cond.initialized y.cls ∈ wd_all) (hrc : rm.cells = 1) (hrs : rm.slots = 6) (hR : rm.frames + 1 ≤ R.frames ∧ 8 + (maxL + 11) + rm.locals ≤ R.locals) :
    Jvm.Free.BackT l R p e below s args y 3 8 (bc_xpre R Pc) (bc_xpost E) := by
  have hws : ∀ w ∈ wd_all, ∀ a' U, s.WarmedH U.vm → w.before a' U = true := fun w hw a' U hW => word_at hW (good_of_word (List.all_eq_true.mp wd_good _ hw)) (htw w hw)
  refine Jvm.Free.BackT.of_free (bytes := bytes) (maxL := maxL) (ret := ret) (E := fun _ _ _ _ L k n => L = [] ∧ k = 1 ∧ n = 6) hM hR.1 hR.2 ?_ ?_ (fun _ _ _ _ _ _ _ _ _ => trivial) ?_ ?_
  · intro m meth c A a X hp
    refine ⟨atoms_intro fun w hw => ?_, hws _ k1 _ _ X.warmed, hws _ k2 _ _ X.warmed, ?_, ?_⟩
    · rcases List.mem_cons.mp hw with e9 | h
      · rw [e9]; exact hws _ k1 _ _ X.warmed
      · exact hws w h _ _ X.warmed
    · rw [show (headSpec (Cond.code y bytes maxL ret :: wd_all) rm).room.cells = 1 from hrc]; exact hp.1
    · rw [show (headSpec (Cond.code y bytes maxL ret :: wd_all) rm).room.slots = 6 from hrs]; exact hp.2.1
  · intro m meth c A a g mk X hp
    exact hbl _ _ _ _ hp.2.2
  · intro a st o t h
    exact ⟨[], 1, 6, h.2, rfl, rfl, rfl⟩
  · intro m meth c A a g mk v t L k n X hp hq hF hE
    obtain ⟨rfl, rfl, rfl⟩ := hE
    obtain ⟨⟨q, e9, hk, ce, cE, h1, h2, h3, h4⟩, -⟩ := hq
    cases e9
    exact ⟨List.append_nil _, rfl, rfl, hk, ce, cE, h1, h2, h3, h4⟩
theorem bc_xgo (F : bc_Fx p m c cc nL s args own D cl tys) (hT9 : bc_T s) (hM : bc_XM l y (Cond.code y bytes maxL ret :: wd_all) rm (bc_PreX D cl tys (.ref b :: As) wc s.heap.size) E)
    (k1 : Cond.code y bytes maxL ret ∈ wd_all) (k2 : Cond.initialized y.cls ∈ wd_all) (k3 : Cond.methodLink own index y ∈ wd_all) (k4 : Cond.instanceMethod y ∈ wd_all) (k5 : Cond.selects C y y ∈ wd_all) (q0 : Nat) {ci : Nat} {fs : List Value} {T0 : u_T} {N0 : Nat} (he : ws[q0]? = some (b, .inr (ci, fs))) (hc : cl[ci]? = some (C, T0, N0))
    (hd : y.cls ≠ "java/lang/invoke/MethodHandle" ∧ y.cls ≠ "java/lang/invoke/VarHandle" ∧ (parseMethodDescriptor y.desc).map (fun d => d.parameters.length) = some n) (hrc : rm.cells = 1) (hrs : rm.slots = 6) (hR : rm.frames + 1 ≤ R.frames ∧ 8 + (maxL + 11) + rm.locals ≤ R.locals)
    (hP : va_P D cl ws s.heap) (hD : va_D (fun _ => True) ws) (isC : List Nat) (hC : isC.map (fun i => ws[i]?) = wc.map some) (hnC : va_nd isC = true)
    (hlen : As.length = n) (hsize : ls.size = nL) (hstack : st0 = As.reverse ++ .ref b :: rest) (hW : (rest.map fun v => v.category).sum ≤ 8) (hdg : decode cc pc = .ok (.invokevirtual index, 3)) (hf : 0 + 1 ≤ R.cells ∧ 0 + 6 ≤ R.slots)
    {T : State} (hT : T.heap = s.heap) (X : Stand p l e R s m args below meth c T [] 0 0) :
    ∃ (x : Addr) (B : State), Stand p l e R s m args below meth c B [] 1 6 ∧ (∀ q : Nat, q < s.heap.size → B.heap[q]? = s.heap[q]?) ∧ (∃ (ce : Cell) (cE : ClassId), B.heap[x]? = some ce ∧ s.vm.findClass E = some cE ∧ ce.cls = cE ∧ ce.vm.isStatics = false) ∧ Steps p.tables e below (T.setTop (F0 m pc ls st0)) ((B.setTop (F0 m pc ls rest)).pushFrame (.throwing x)) := by
  obtain ⟨hx, hb, hml, ho, htw, hN, hK⟩ := F
  have hBk := bc_back (p := p) (e := e) (R := R) (below := below) hM bc_blindX htw k1 k2 hrc hrs hR
  obtain ⟨-, ⟨cellB, hcB, hoB, hclB⟩, hPc⟩ := bc_preV (As := As) (b := b) (C := C) (bc_sub hP isC hC) hK (hD.sub isC hnC hC) hN (va_recv hK hP hc he)
  obtain ⟨mk, methM, hnamed, hmethM, hstM, habM⟩ := Cond.instanceMethod_spec (htw _ k4)
  obtain ⟨methM', cM, hmethM', -, -, -, -, -, -, hsigM⟩ := Cond.code_spec hnamed (htw _ k1)
  cases hmethM.symm.trans hmethM'
  obtain ⟨c2, r2, m2, q1, q2, q3, q4, kP, hkP, hkPi⟩ := Cond.selects_spec (htw _ k5)
  cases hclB.symm.trans q1
  cases (State.methodFound?_of_named hnamed ⟨hd.1, hd.2.1⟩).symm.trans q2
  cases hnamed.symm.trans q3
  have hselP : selectMethod e.platform s.vm cellB.cls mk = .method mk := by rw [Launch.admits_selectMethod X.admits]; exact q4
  have hl9 : As.length = methM.sig.parameters.length := by
    have h2 := hd.2.2
    rw [hsigM] at h2
    rw [hlen]
    exact (Option.some.inj h2).symm
  obtain ⟨vm₁, X₁, hstep₁⟩ := X.invokevirtual hx ho (htw _ k3) hnamed hmethM hstM hkP hkPi ⟨hd.1, hd.2.1⟩ (a := b) (cell := cellB) (by rw [hT]; exact hcB)
    (fun z h => by rw [h] at hoB; cases hoB) hselP hmethM habM hkP hkPi (g := F0 m pc ls st0) rfl (argsL := As) (rest := rest) hl9 hstack (by rw [hb]; exact hdg)
  obtain ⟨x, B, X', hpost, hsteps⟩ := hBk m meth c ⟨T.setVm vm₁, [], 0, 0⟩ (F0 m pc ls rest) (.invokevirtual index) mk (Value.ref b :: As).toArray X₁ rfl (hsize.trans hml.symm) (by rw [hb]; exact hdg) (lv_room hW) (X₁.named hnamed)
    ⟨hf.1, hf.2, hPc (T.setVm vm₁) hT X₁.warmed, bc_T.mv X₁.warmed (fun a cell h1 _ => by show T.heap[a]? = some cell; rw [hT]; exact h1) hT9⟩
  obtain ⟨U', l2, c2', s2⟩ := B
  obtain ⟨h1, h2, h3, h4, ce, cE, h5, h6, h7, h8⟩ := hpost
  dsimp only at h1 h2 h3 h4 h5 h6
  subst h1
  subst h2
  subst h3
  refine ⟨x, U', X', fun q hq => ?_, ⟨ce, cE, h5, ?_, h7, h8⟩, hstep₁ _ fun acts => by rw [doInvoke_state]; exact hsteps⟩
  · have h9 := h4 q (by show q < T.heap.size; rw [hT]; exact hq)
    rw [h9]
    show T.heap[q]? = s.heap[q]?
    rw [hT]
  · rw [← X₁.warmed.alike.findClass]; exact h6
theorem bc_xcall (F : bc_Fx p m c cc nL s args own D cl tys) (hlocks : meth.locks = false) (hT9 : bc_T s) (hex : ∀ x ∈ c.exceptionTable.toList, ∀ pc, covers x pc = false) (hM : bc_XM l y (Cond.code y bytes maxL ret :: wd_all) rm (bc_PreX D cl tys (.ref b :: As) wc s.heap.size) E)
    (k1 : Cond.code y bytes maxL ret ∈ wd_all) (k2 : Cond.initialized y.cls ∈ wd_all) (k3 : Cond.methodLink own index y ∈ wd_all) (k4 : Cond.instanceMethod y ∈ wd_all) (k5 : Cond.selects C y y ∈ wd_all) (q0 : Nat) {ci : Nat} {fs : List Value} {T0 : u_T} {N0 : Nat} (he : ws[q0]? = some (b, .inr (ci, fs))) (hc : cl[ci]? = some (C, T0, N0))
    (hd : y.cls ≠ "java/lang/invoke/MethodHandle" ∧ y.cls ≠ "java/lang/invoke/VarHandle" ∧ (parseMethodDescriptor y.desc).map (fun d => d.parameters.length) = some n) (hrc : rm.cells = 1) (hrs : rm.slots = 6) (hR : rm.frames + 1 ≤ R.frames ∧ 8 + (maxL + 11) + rm.locals ≤ R.locals)
    (hP : va_P D cl ws s.heap) (hD : va_D (fun _ => True) ws) (isC : List Nat) (hC : isC.map (fun i => ws[i]?) = wc.map some) (hnC : va_nd isC = true)
    (hlen : As.length = n) (hsize : ls.size = nL) (hstack : st0 = As.reverse ++ .ref b :: rest) (hW : (rest.map fun v => v.category).sum ≤ 8) (hdg : decode cc pc = .ok (.invokevirtual index, 3)) (hf : 0 + 1 ≤ R.cells ∧ 0 + 6 ≤ R.slots) :
    W p l e R s m args below meth c s.heap [] 0 0 (bc_XQ below E args s) (F0 m pc ls st0) := by
  intro T hT X
  obtain ⟨x, B, X', hk, hcl, hst⟩ := bc_xgo F hT9 hM k1 k2 k3 k4 k5 q0 he hc hd hrc hrs hR hP hD isC hC hnC hlen hsize hstack hW hdg hf hT X
  obtain ⟨w1, w2, w3, w4, w5⟩ := X'.leaveThrown x (g := F0 m pc ls rest) rfl rfl rfl (fun x hx => hex x hx _) hlocks
  exact ⟨_, hst.trans w1, .threw x, w2, w3, ⟨x, rfl, hk, hcl⟩, ⟨_, rfl⟩, w4, w5⟩
end BCY
