/-! rows for the law's own walk -/
section BCL
variable {p : Program} {l : Launch} {e : Env} {R : Room} {s : State} {m : MethodId} {args : Array Value} {below : List Frame} {meth : Method} {c : Code} {H : Heap} {locs : List Loc} {cells slots : Nat} {Q : State → Prop}
variable {cc bytes : ByteArray} {pc nL maxL n index : Nat} {ls : Array Slot} {rest st0 As : List Value} {own : String} {y : MethodName} {ret : Option FieldType} {rm : Room} {D : va_G} {cl : List vw_C} {A : Nat → Prop} {tys : List (ClassId × FieldType)} {ws wc wr : va_W} {H0 : Heap} {mc ms : Nat} {hh : List (Nat × Nat × Nat × Nat)}
theorem bc_runW {Pc : Array Value → State → Prop} {Qc : Array Value → State → Outcome → State → Prop} {free : Addr → Prop} (F : bc_Fx p m c cc nL s args own D cl tys) (hM : Met l y (Cond.codeWith y bytes maxL ret hh :: wd_all) rm Pc Qc mc ms free) (hbl : FrameBlind Pc)
    (k1 : Cond.codeWith y bytes maxL ret hh ∈ wd_all) (k2 : Cond.initialized y.cls ∈ wd_all) (k3 : Cond.methodLink own index y ∈ wd_all) (k4 : Cond.static y ∈ wd_all)
    (hd : y.cls ≠ "java/lang/invoke/MethodHandle" ∧ y.cls ≠ "java/lang/invoke/VarHandle" ∧ (parseMethodDescriptor y.desc).map (fun d => d.parameters.length) = some n) (hrc : rm.cells = mc) (hrs : rm.slots = ms) (hR : rm.frames + 1 ≤ R.frames ∧ 8 + (maxL + 11) + rm.locals ≤ R.locals)
    (hPc : ∀ U : State, U.heap = H → s.WarmedH U.vm → Pc As.toArray U) (hlen : As.length = n) (hsize : ls.size = nL) (hstack : st0 = As.reverse ++ rest) (hW : (rest.map fun v => v.category).sum ≤ 8) (hdg : decode cc pc = .ok (.invokestatic index, 3)) (hf : cells + mc ≤ R.cells ∧ slots + ms ≤ R.slots) :
    va_Run p l e R s m args below meth c H locs cells slots mc ms (F0 m pc ls st0) rest (Qc As.toArray) free := by
  obtain ⟨hx, hb, hml, ho, htw, hN, hK⟩ := F
  have hws : ∀ w ∈ wd_all, ∀ a' U, s.WarmedH U.vm → w.before a' U = true := fun w hw a' U hW => word_at hW (good_of_word (List.all_eq_true.mp wd_good _ hw)) (htw w hw)
  have hBk : Jvm.Free.Back l R p e below s args y 3 8 (PreOf R mc ms Pc) (PostOf Qc mc ms free) := va_backW (bytes := bytes) (maxL := maxL) (ret := ret) (hh := hh) hM hbl hrc hrs hR.1 hR.2 (fun w hw => by
    rcases List.mem_cons.mp hw with e9 | h
    · rw [e9]; exact hws _ k1
    · exact hws w h) List.mem_cons_self (hws _ k2)
  intro T hT X
  obtain ⟨mk, methM, cM, hnamed, hmethM, -, -, -, -, -, -, hsigM⟩ := Cond.codeWith_spec (htw _ k1)
  have hstatic : methM.isStatic = true := Cond.static_spec hnamed hmethM (htw _ k4)
  obtain ⟨kP, hkP, -⟩ := className_of_methodNamed hnamed
  have hinitP : kP.init = .initialized := Cond.initialized_spec (findClass_of_methodNamed hnamed) hkP (htw _ k2)
  have hl9 : As.length = methM.sig.parameters.length := by
    have h2 := hd.2.2
    rw [hsigM] at h2
    rw [hlen]
    exact (Option.some.inj h2).symm
  obtain ⟨vm₁, X₁, hstep₁⟩ := X.invokestatic hx ho (htw _ k3) hnamed hmethM hstatic hkP hinitP ⟨hd.1, hd.2.1⟩ (g := F0 m pc ls st0) rfl (argsL := As) (rest := rest) hl9 hstack (by rw [hb]; exact hdg)
  obtain ⟨v, B, X', hpost, hsteps⟩ := hBk m meth c ⟨T.setVm vm₁, locs, cells, slots⟩ (F0 m pc ls rest) (.invokestatic index) mk As.toArray X₁ rfl (hsize.trans hml.symm) (by rw [hb]; exact hdg) (lv_room hW) (X₁.named hnamed) ⟨hf.1, hf.2, hPc (T.setVm vm₁) hT X₁.warmed⟩
  obtain ⟨U', l2, c2, s2⟩ := B
  obtain ⟨g', mk', t, L, e1, e2, hq, h1, hL, h2, h3⟩ := hpost
  dsimp only [Jvm.Free.Pt.U, Jvm.Free.Pt.locs, Jvm.Free.Pt.cells, Jvm.Free.Pt.slots] at e1 e2 hq h1 h2 h3 X' hsteps
  subst h1
  subst h2
  subst h3
  exact ⟨v, (T.setVm vm₁).calling g' mk' As.toArray, t, U', L, hT, X', hL, e1, e2, hq, fun target h => hstep₁ _ fun acts => by rw [doInvoke_state]; exact hsteps.trans h⟩
theorem bc_lcall {S : Type} {post : Int32 → S → Prop} {w1 : S → va_W} (F : bc_Fx p m c cc nL s args own D cl tys) (hT9 : bc_T s) (hA2 : ∀ q, A q → s.heap.size ≤ q) (hM : Met l y (Cond.codeWith y bytes maxL ret hh :: wd_all) rm (bc_PreX D cl tys As wc H.size) (va_Qi post (fun u t => bc_B D cl tys (va_A wc H.size) (w1 u) t) (va_A wc H.size)) mc ms (va_A wc H.size))
    (k1 : Cond.codeWith y bytes maxL ret hh ∈ wd_all) (k2 : Cond.initialized y.cls ∈ wd_all) (k3 : Cond.methodLink own index y ∈ wd_all) (k4 : Cond.static y ∈ wd_all)
    (hd : y.cls ≠ "java/lang/invoke/MethodHandle" ∧ y.cls ≠ "java/lang/invoke/VarHandle" ∧ (parseMethodDescriptor y.desc).map (fun d => d.parameters.length) = some n) (hrc : rm.cells = mc) (hrs : rm.slots = ms) (hR : rm.frames + 1 ≤ R.frames ∧ 8 + (maxL + 11) + rm.locals ≤ R.locals)
    (hP : va_P D cl ws H) (hD : va_D A ws) (hS : va_S A s.heap H locs) (hA : ∀ q, s.heap.size ≤ q → A q) (isC isR : List Nat) (hC : isC.map (fun i => ws[i]?) = wc.map some) (hRr : isR.map (fun i => ws[i]?) = wr.map some) (hnC : va_nd isC = true) (hn : va_nd isR = true) (hdis : ∀ i ∈ isR, i ∉ isC)
    (hlen : As.length = n) (hsize : ls.size = nL) (hstack : st0 = As.reverse ++ rest) (hW : (rest.map fun v => v.category).sum ≤ 8) (hdg : decode cc pc = .ok (.invokestatic index, 3)) (hf : cells + mc ≤ R.cells ∧ slots + ms ≤ R.slots)
    (kk : ∀ (r : Int32) (u : S) (H1 : Heap) (locs1 : List Loc), post r u → va_P D cl (wr ++ w1 u) H1 → va_D A (wr ++ w1 u) → va_S A s.heap H1 locs1 → W p l e R s m args below meth c H1 locs1 (cells + mc) (slots + ms) Q (F0 m (pc + 3) ls (.int r :: rest))) : W p l e R s m args below meth c H locs cells slots Q (F0 m pc ls st0) := by
  have hFr := va_free (wc := wc) hD hS hA isC hC
  have hPc : va_P D cl wc H := bc_sub hP isC hC
  have hDc : va_D A wc := hD.sub isC hnC hC
  have hz : ∀ (a : Nat) (cell : Cell), s.heap[a]? = some cell → cell.vm.isStatics = true → H[a]? = some cell := fun a cell h1 _ => by
    have hlt : a < s.heap.size := (Array.getElem?_eq_some_iff.mp h1).1
    rw [hS.2.1 a hlt (fun z => absurd (hA2 a z) (by omega))]
    exact h1
  have hpre : ∀ U : State, U.heap = H → s.WarmedH U.vm → bc_PreX D cl tys As wc H.size As.toArray U := fun U hU hW9 => ⟨(bc_preS (As := As) hPc F.2.2.2.2.2.2 hDc F.2.2.2.2.2.1).2 U hU hW9, bc_T.mv hW9 (fun a cell h1 h2 => by rw [hU]; exact hz a cell h1 h2) hT9⟩
  refine va_calli (bc_runW F hM bc_blindX k1 k2 k3 k4 hd hrc hrs hR hpre hlen hsize hstack hW hdg hf) hS (fun q _ h => hFr q h) hFr (fun r u t H1 locs1 ht hvm hp hB hz1 hk hS1 => ?_)
  obtain ⟨hP1, hK1, hD1⟩ := hB
  rw [ht] at hP1
  obtain ⟨hP2, hD2⟩ := va_join hP hD isC isR hC hRr hn hdis hk hFr hP1 hD1
  exact kk r u H1 locs1 hp hP2 hD2 hS1
/-- a loop whose turns may make cells -/
theorem bc_loopV {st : List Value} (I : Nat → Heap → List Loc → Array Slot → Nat → Nat → Prop)
    (step : ∀ (k : Nat) (H : Heap) (locs : List Loc) (ls : Array Slot) (cells slots : Nat), I k H locs ls cells slots → (∀ (k' : Nat) (H' : Heap) (locs' : List Loc) (ls' : Array Slot) (cells' slots' : Nat), k' < k → I k' H' locs' ls' cells' slots' → W p l e R s m args below meth c H' locs' cells' slots' Q (F0 m pc ls' st)) → W p l e R s m args below meth c H locs cells slots Q (F0 m pc ls st))
    (h : ∃ k, I k H locs ls cells slots) : W p l e R s m args below meth c H locs cells slots Q (F0 m pc ls st) := by
  obtain ⟨k, h⟩ := h
  induction k using Nat.strongRecOn generalizing H locs ls cells slots with
  | _ k ih => exact step k H locs ls cells slots h (fun k' H' locs' ls' c' s' hk hI => ih k' hk hI)
end BCL
