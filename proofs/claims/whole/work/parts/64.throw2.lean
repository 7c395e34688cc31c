/-! callees that throw -/
def bc_xq (E : String) : Array Value → State → Outcome → State → Prop := fun _ st o t => ∃ q, o = .threw q ∧ (∀ x : Nat, x < st.heap.size → t.heap[x]? = st.heap[x]?) ∧ ∃ (ce : Cell) (cE : ClassId), t.heap[q]? = some ce ∧ st.vm.findClass E = some cE ∧ ce.cls = cE ∧ ce.vm.isStatics = false
def bc_XM (l : Launch) (y : MethodName) (ws : List Cond) (rm : Room) (Pc : Array Value → State → Prop) (E : String) : Prop :=
  Jvm.Free.MetFree l y (headSpec ws rm) Pc (fun _ _ _ _ _ => True) (fun a st o t => bc_xq E a st o t ∧ Jvm.Free.FrameEndT st o t [] 1 6)
def bc_XQ (below : List Frame) (E : String) (a : Array Value) (s : State) : State → Prop := fun t => ∃ o, t.status = .running ∧ Ended t below o ∧ bc_xq E a s o t ∧ Jvm.Free.FrameEndT s o t [] 1 6
def bc_PreX (D : va_G) (cl : List vw_C) (tys : List (ClassId × FieldType)) (av : List Value) (ws : va_W) (sz : Nat) : Array Value → State → Prop := fun a U => bc_Pre D cl tys av ws sz a U ∧ bc_T U
def bc_ups : List String := ["java/lang/RuntimeException", "java/lang/Exception"]
theorem bc_blindX {D : va_G} {cl : List vw_C} {tys : List (ClassId × FieldType)} {av : List Value} {ws : va_W} {sz : Nat} : FrameBlind (bc_PreX D cl tys av ws sz) :=
  fun a U g mk h => ⟨bc_blind a U g mk h.1, bc_T.same (s := U) rfl rfl h.2⟩
theorem bc_sbn {s U : State} {k n : Nat} (h : s.sameButNew U [] k n) : ∀ x : Nat, x < s.heap.size → U.heap[x]? = s.heap[x]? := by
  intro x hx
  obtain ⟨cell, hc⟩ : ∃ cell, s.heap[x]? = some cell := ⟨s.heap[x], Array.getElem?_eq_getElem hx⟩
  obtain ⟨c', h1, h2, h3, h4⟩ := h.2.2.2.2.2 x cell hc
  rw [h1, hc]
  have e : c'.slots = cell.slots := Array.ext_getElem? (fun i => h4 i (List.not_mem_nil))
  rw [h2, e]
section BCX
variable {p : Program} {l : Launch} {e : Env} {R : Room} {s : State} {m : MethodId} {args : Array Value} {below : List Frame} {meth : Method} {c : Code} {Q : State → Prop}
variable {cc bytes : ByteArray} {pc nL maxL n index : Nat} {ls : Array Slot} {rest st0 As : List Value} {b : Addr} {own host C E : String} {y : MethodName} {ret : Option FieldType} {rm : Room} {D : va_G} {cl : List vw_C} {tys : List (ClassId × FieldType)} {ws wc wr : va_W}
theorem bc_metX {av : List Value} {sz : Nat} (hy : plainName y.cls = true) (hlen : (lg_sl av).length ≤ maxL)
    (body : ∀ (p : Program) (e : Env) (s : State) (m : MethodId) (args : Array Value) (below : List Frame) (meth : Method) (c : Code) (ls : Array Slot), bc_Fx p m c cc maxL s args y.cls D cl tys → meth.locks = false → va_P D cl wc s.heap → va_D (fun _ => True) wc → lv_has ls maxL (lv_args 0 av) → bc_T s → (∀ x ∈ c.exceptionTable.toList, ∀ pc, covers x pc = false) → W p l e rm s m args below meth c s.heap [] 0 0 (bc_XQ below E args s) (F0 m 0 ls [])) :
    bc_XM l y (Cond.code y cc maxL ret :: wd_all) rm (bc_PreX D cl tys av wc sz) E := by
  refine Jvm.Free.MetFree.of_bodyS (code := cc) (maxLocals := maxL) (ret := ret) hy ?_ ?_
  · intro args s m h hn
    obtain ⟨meth, c, h1, h2, h3, h4, h5, h6, -, -⟩ := Cond.code_spec hn (atoms_spec (ws := Cond.code y cc maxL ret :: wd_all) h _ List.mem_cons_self)
    exact ⟨meth, c, h1, h2, h3, h4, h5, h6⟩
  · intro p e s m args below meth c s₁ B hml hPx _
    have hh0 : s₁.heap = s.heap := by rw [B.state]; rfl
    obtain ⟨⟨rfl, hsz, hP, hK, hD0, hN⟩, hT⟩ := hPx
    have hl := lv_entry av (n := maxL) hlen
    have hts := atoms_spec (ws := Cond.code y cc maxL ret :: wd_all) B.pre
    have hemp := B.noHandlers (hts _ List.mem_cons_self)
    have h9 := body p e s m _ below meth c _ ⟨B.exec, B.bytes, hml, findClass_of_methodNamed B.named, fun w h => hts w (List.mem_cons_of_mem _ h), hN, hK⟩ B.notSynchronized hP hD0 hl hT (fun x hx pc => covers_of_empty hemp pc x hx)
    obtain ⟨t, a1, o, b1, b2, b3⟩ := h9 s₁ hh0 (Stand.of_body B)
    rw [lg_entry_eq]
    exact ⟨t, o, a1, b1, b2, b3⟩
theorem bc_throw {iN iL iC : Nat} {tx : String} (hl0 : l.stackTraces = false) (F : bc_Fx p m c cc nL s args "BranchConstants" D cl tys) (hlocks : meth.locks = false) (hT9 : bc_T s) (hex : ∀ x ∈ c.exceptionTable.toList, ∀ pc, covers x pc = false)
    (hE : Bundle.fit E = true) (hAt : ∀ w ∈ Bundle.ownAtoms "BranchConstants" iC E bc_ups, w ∈ wd_all ∨ w ∈ tw_all ∨ w = .laysStatic "java/lang/Throwable" "UNASSIGNED_STACK" "[Ljava/lang/StackTraceElement;" ∨ w = .laysStatic "java/lang/Throwable" "SUPPRESSED_SENTINEL" "Ljava/util/List;" ∨ w = .isRef (.static "java/lang/Throwable" "UNASSIGNED_STACK" "[Ljava/lang/StackTraceElement;") ∨ w = .isRef (.static "java/lang/Throwable" "SUPPRESSED_SENTINEL" "Ljava/util/List;"))
    (k1 : Cond.classLink "BranchConstants" iN E ∈ wd_all) (k2 : Cond.instantiable E 6 ∈ wd_all) (k3 : Cond.initialized E ∈ wd_all) (k4 : Cond.stringRef "BranchConstants" iL tx ∈ tw_all)
    (hsize : ls.size = nL) (d0 : decode cc pc = .ok (.new iN, 3)) (d1 : decode cc (pc + 3) = .ok (.dup, 1)) (d2 : decode cc (pc + 4) = .ok (.ldc iL, 2)) (d3 : decode cc (pc + 6) = .ok (.invokespecial iC, 3)) (d4 : decode cc (pc + 9) = .ok (.athrow, 1))
    (hc : 0 + 1 ≤ R.cells) (hs : 0 + 6 ≤ R.slots) (hf : 5 < R.frames) (hlo : 82 ≤ R.locals) : W p l e R s m args below meth c s.heap [] 0 0 (bc_XQ below E args s) (F0 m pc ls []) := by
  intro T hT X
  have htr : e.platform.stackTraces = false := by rw [X.admits.platform]; exact hl0
  obtain ⟨hx, hb, hml, hown, htw, hN, hK⟩ := F
  obtain ⟨vm₁, cX, kX, hfX, hkX, -, -, X₁, st1⟩ := X.newCold hx (own := "BranchConstants") (C := E) (index := iN) (n := 6) hown (htw _ k1) (htw _ k2) (htw _ k3) (g := F0 m pc ls []) rfl (by rw [hb]; exact d0) hc hs
  generalize hT1 : (T.setVm vm₁).pushCell { cls := cX, slots := kX.instanceTypes.map defaultValue, vm := .none } = T1 at X₁ st1
  have hcellA : T1.heap[T.heap.size]? = some (freshCell cX kX) := by rw [← hT1]; exact State.heap_pushCell_size _ _
  have hconst := hT9.1 _ k4 args
  obtain ⟨-, -, -, sa, -, -, -, -, -, hev⟩ := Cond.stringRef_spec hown hconst
  have hat : ∀ w ∈ Bundle.ownAtoms "BranchConstants" iC E bc_ups, w.before args s = true := by
    intro w hw
    rcases hAt w hw with h | h | h | h | h | h
    · exact htw w h
    · exact hT9.1 w h args
    · rw [h]; exact hT9.2.1.lay
    · rw [h]; exact hT9.2.2.lay
    · rw [h]; exact hT9.2.1.ref
    · rw [h]; exact hT9.2.2.ref
  obtain ⟨U, hsteps, hrun, hend, hW, hsame, ce, hce, K⟩ := X₁.ctorThrowS hx htr (own := "BranchConstants") (cls := E) (names := bc_ups) (ic := iC) hown hE (by decide +kernel) hat (fun y hy => by cases hy) hfX hkX hcellA (by rw [hT]; exact Nat.le_refl _) (msg := .ref sa) rfl
    (g := F0 m (pc + 6) ls [.ref sa, .ref T.heap.size, .ref T.heap.size]) rfl (by rw [hml]; exact hsize) rfl rfl (rest := []) rfl (by rw [hb]; exact d3) (by rw [hb]; exact d4) (fun x hx => hex x hx _) hf hlo hlocks
  refine ⟨U, ?_, .threw T.heap.size, hrun, hend, ⟨T.heap.size, rfl, fun x hx => bc_sbn hsame x hx, ce, ce.cls, hce, K.cls, rfl, by rw [K.vm]; rfl⟩, ⟨_, rfl⟩, hW, hsame⟩
  refine st1 _ ?_
  show Steps p.tables e below (T1.setTop (F0 m (pc + 3) ls [.ref T.heap.size])) _
  jvm_step X₁.here [X₁.here.top, hx, hb, d1, Value.category]
  exact X₁.ldcString hx (own := "BranchConstants") (text := tx) (index := iL) (a := sa) hown hconst hev (g := F0 m (pc + 4) ls [.ref T.heap.size, .ref T.heap.size]) rfl (by rw [hb]; exact d2) _ hsteps
end BCX
