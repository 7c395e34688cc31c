/-! the law's entry: the classes and the arrays' classes are known; a row for long[] -/
def bc_dC (a b c d e f : ClassId) : Nat → ClassId
  | 0 => a
  | 1 => b
  | 2 => c
  | 3 => d
  | 4 => e
  | _ => f
def bc_dI (a b c d e f : Nat → Nat) : Nat → Nat → Nat
  | 0 => a
  | 1 => b
  | 2 => c
  | 3 => d
  | 4 => e
  | _ => f
theorem bc_arr {s : State} {args : Array Value} {ty : FieldType} (h : (Cond.arrayClass ty).before args s = true) : ∃ (cA : ClassId), ArrOfT s cA ty ∧ s.vm.findClass ("[" ++ ty.toString) = some cA := by
  obtain ⟨cA, kA, comp, h1, h2, h3⟩ := Cond.arrayClass_spec h
  exact ⟨cA, fun n z => ⟨fun k h => (by cases h), kA, h2, comp, h3⟩, h1⟩
theorem bc_known {s : State} {args : Array Value} (htw : ∀ w ∈ wd_all, w.before args s = true) : ∃ (dC : Nat → ClassId) (dI : Nat → Nat → Nat) (cI cZ : ClassId), va_K (dC, dI) classes [(cI, .int), (cZ, .boolean)] s := by
  obtain ⟨c0, i0, h0⟩ := u_known htw wi_A (htw _ wm_41)
  obtain ⟨c1, i1, h1⟩ := u_known htw wi_C (htw _ wm_24)
  obtain ⟨c2, i2, h2⟩ := u_known htw wi_E (htw _ wm_74)
  obtain ⟨c3, i3, h3⟩ := u_known htw wi_W (htw _ wm_60)
  obtain ⟨c4, i4, h4⟩ := u_known htw wi_B (htw _ wm_16)
  obtain ⟨c5, i5, h5⟩ := u_known htw wi_M (htw _ wm_418)
  obtain ⟨cI, a1, a2⟩ := bc_arr (htw _ wm_39)
  obtain ⟨cZ, b1, b2⟩ := bc_arr (htw _ wm_58)
  refine ⟨bc_dC c0 c1 c2 c3 c4 c5, bc_dI i0 i1 i2 i3 i4 i5, cI, cZ, fun k q hq => ?_, fun k q hq => ?_⟩
  · have hk : k < 6 := (List.getElem?_eq_some_iff.mp hq).1
    have hc : k = 0 ∨ k = 1 ∨ k = 2 ∨ k = 3 ∨ k = 4 ∨ k = 5 := by omega
    rcases hc with e | e | e | e | e | e <;> subst e <;> cases hq
    · exact h0
    · exact h1
    · exact h2
    · exact h3
    · exact h4
    · exact h5
  · have hk : k < 2 := (List.getElem?_eq_some_iff.mp hq).1
    have hc : k = 0 ∨ k = 1 := by omega
    rcases hc with e | e <;> subst e <;> cases hq
    · exact ⟨a1, a2⟩
    · exact ⟨b1, b2⟩
section BCV
variable {p : Program} {l : Launch} {e : Env} {R : Room} {s : State} {m : MethodId} {args : Array Value} {below : List Frame} {meth : Method} {H : Heap} {locs : List Loc} {cells slots : Nat} {Q : State → Prop}
variable {cc : ByteArray} {pc : Nat} {ls : Array Slot} {rest : List Value} {D : va_G} {cl : List vw_C} {A : Nat → Prop} {ws : va_W} {H0 : Heap}
theorem bc_newl {c : Code} (hexec : p.tables.exec = Jvm.exec) (hb : c.code = cc) (harr : (Cond.arrayClass FieldType.long).before args s = true) {cI cZ : ClassId} (hK : va_K D cl [(cI, .int), (cZ, .boolean)] s) (hP : va_P D cl ws H) (hD : va_D A ws) (hS : va_S A H0 H locs) (hA : ∀ q, H0.size ≤ q → A q)
    {n : Int32} {N : Nat} (hn : ¬ n < 0) (hN : n.toNatClampNeg = N) (hbytes : N * componentBytes FieldType.long ≤ 536870912) (hcells : cells + 1 ≤ R.cells) (hslots : slots + N ≤ R.slots) (hdg : decode cc pc = .ok (.newarray .long, 2))
    (kk : ∀ (q : Nat) (cL : ClassId) (H1 : Heap), va_K D cl [(cI, .int), (cZ, .boolean), (cL, .long)] s → va_P D cl (ws ++ [(q, .inl (cL, N, .inr (.inl (fun _ => 0))))]) H1 → va_D A (ws ++ [(q, .inl (cL, N, .inr (.inl (fun _ => 0))))]) → va_S A H0 H1 locs →
      W p l e R s m args below meth c H1 locs (cells + 1) (slots + N) Q (F0 m (pc + 2) ls (.ref q :: rest))) : W p l e R s m args below meth c H locs cells slots Q (F0 m pc ls (.int n :: rest)) := by
  refine va_newa (atype := .long) (a0 := (N, .inr (.inl (fun _ => 0)))) hexec hb harr rfl hK hP hD hS hA (fun _ => rfl) hn hN hbytes hcells hslots hdg (fun q cA H1 hK1 hP1 hD1 hS1 => ?_)
  exact kk q cA H1 hK1 hP1 hD1 hS1
end BCV
