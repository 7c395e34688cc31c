/-! the law's loop and entry (by program: wip/whole/gen/modLaw3.py) -/
theorem lz_small : ∀ x : Nat, x < 6 → ∀ y : Nat, y < 6 → Int32.ofNat x - 6 < nI y := by decide +kernel
theorem lz_cmp {i L : Nat} (hL : L ≤ 3072) (hi : i ≤ L) (h : ¬ Int32.ofNat L - 6 < nI i) : i + 6 ≤ L := by
  by_cases c : L < 6
  · exact absurd (lz_small L c i (by omega)) h
  · have e : Int32.ofNat L - 6 = nI (L - 6) := by
      have e1 : Int32.ofNat L = nI (L - 6) + 6 := by
        have e2 := nI_add (L - 6) 6
        rw [show L - 6 + 6 = L by omega] at e2
        exact e2.symm
      rw [e1]
      exact Int32.add_sub_cancel _ _
    rw [e] at h
    have h2 := mt (nI_ltI (a := L - 6) (b := i) (by omega) (by omega)).mpr h
    omega
theorem lz_i6 (i : Nat) : nI i + Int32.ofInt 6 = nI (i + 6) := by
  rw [show Int32.ofInt 6 = nI 6 by decide +kernel]
  exact nI_add i 6
section LZ5
variable {p : Program} {l : Launch} {e : Env} {s : State} {m : MethodId} {args : Array Value} {below : List Frame} {meth : Method} {c : Code} {H : Heap} {locs : List Loc} {cells slots : Nat} {Q : State → Prop} {ls : Array Slot}
variable {dC : Nat → ClassId} {dI : Nat → Nat → Nat} {cI cZ cL : ClassId} {a : Nat → Nat} {b i L : Nat} {xs : Nat → Int32} {k k0 : lz_C} {r : lz_M}
set_option maxHeartbeats 4000000 in
set_option maxRecDepth 100000 in
theorem lz_loop (E : lz_E p l s m args c dC dI cI cZ cL b L xs) (hend : ∀ (H : Heap) (locs : List Loc) (ls : Array Slot) (c9 s9 : Nat), c9 ≤ 1077 → s9 ≤ 10246 → va_S (lz_A s) s.heap H locs → W p l e room_1 s m args below meth c H locs c9 s9 Q (F0 m 975 ls [])) (I : lz_I s dC dI cI cZ cL a b 0 H locs ls k r) (hR : lz_R k r) (hc : 6 * cells ≤ 258) (hs : slots ≤ 1994) : W p l e room_1 s m args below meth c H locs cells slots Q (F0 m 23 ls []) := by
  have F3 := E.1
  have hT9 : bc_T s := E.2.1
  have hl0 : l.stackTraces = false := E.2.2.1
  have hX := E.2.2.2.1
  have hbl := E.2.2.2.2.1
  have hL : L ≤ 3072 := E.2.2.2.2.2
  have F : bc_Fx p m c by_L_law 7 s args "BranchConstantsLaw" (dC, dI) classes [(cI, .int), (cZ, .boolean)] := ⟨F3.1, F3.2.1, F3.2.2.1, F3.2.2.2.1, F3.2.2.2.2.1, F3.2.2.2.2.2.1, va_K.sub F3.2.2.2.2.2.2 [0, 1] rfl⟩
  have hx := F.1
  have hb := F.2.1
  have hK3 := F3.2.2.2.2.2.2
  have hA : ∀ q, s.heap.size ≤ q → lz_A s q := fun _ h => h
  have hA2 : ∀ q, lz_A s q → s.heap.size ≤ q := fun _ h => h
  have hbA : ¬ lz_A s b := Nat.not_le.mpr hbl
  refine bc_loopV (fun k9 H locs ls cells slots => ∃ (i : Nat) (k : lz_C) (r : lz_M), k9 = L - i ∧ i ≤ L ∧ 6 * cells ≤ 258 + i ∧ slots ≤ 1994 + i ∧ lz_R k r ∧ lz_I s dC dI cI cZ cL a b i H locs ls k r) ?_ ⟨L - 0, 0, k, r, rfl, Nat.zero_le L, hc, hs, hR, I⟩
  clear I hR hc hs
  rintro k9 H locs ls cells slots ⟨i, k, r, ek, hiL, hc, hs, hR, I⟩ ih
  have hl := I.1
  have hS := I.2.2.2
  refine lv_iload hx hb de_L_law_23 (lv_at hl 0 rfl) ?_
  refine lv_aload_n hx hb de_L_law_25 rfl (lv_at hl 4 rfl) ?_
  refine va_slen hx hb hX hbl hbA hS de_L_law_26 ?_
  refine lv_bipush (v := 6) hx hb de_L_law_27 (by decide) ?_
  refine lv_isub hx hb de_L_law_29 ?_
  refine lv_icmp_gt (tgt := 975) hx hb de_L_law_30 (by decide) (fun _ => ?_) (fun hg => ?_)
  · exact hend H locs ls cells slots (by omega) (by omega) hS
  have hi : i + 6 ≤ L := lz_cmp hL hiL hg
  have kk : ∀ (k9 : lz_C) (r9 : lz_M) (H : Heap) (locs : List Loc) (ls : Array Slot) (c9 s9 : Nat), lz_R k9 r9 → lz_I s dC dI cI cZ cL a b i H locs ls k9 r9 → 6 * c9 ≤ 258 + (i + 6) → s9 ≤ 1994 + (i + 6) → W p l e room_1 s m args below meth c H locs c9 s9 Q (F0 m 969 ls []) := by
    intro k8 r8 H locs ls c9 s9 hR9 I9 h1 h2
    refine lv_iinc (k := 0) (v := nI (i + 6)) (lv' := [(4, .int (nI (i + 6))), (3, .ref (a 42)), (2, .ref (a 25)), (1, .ref (a 0)), (0, .ref b)]) hx hb de_L_law_969 I9.1 rfl (lz_i6 i) (by decide) rfl (fun ls hl => ?_)
    refine lv_goto (tgt := 23) hx hb de_L_law_972 (by decide) ?_
    exact ih (L - (i + 6)) _ _ _ _ _ (by omega) ⟨i + 6, k8, r8, rfl, hi, h1, h2, hR9, hl, I9.2⟩
  refine lv_aload_n hx hb de_L_law_33 rfl (lv_at hl 4 rfl) ?_
  refine lv_iload hx hb de_L_law_34 (lv_at hl 0 rfl) ?_
  refine va_sld hx hb hX hbl hbA hS (nI_in (show i < L by omega) (by omega)) de_L_law_36 ?_
  refine lv_bipush (v := 15) hx hb de_L_law_37 (by decide) ?_
  refine lv_iand hx hb de_L_law_39 ?_
  generalize (xs (nI i).toNatClampNeg &&& 15) = x9
  by_cases g0 : x9 = 0
  · refine bc_ti g0 ?_
    refine lv_tableIn (off := 72) (tgt := 112) hx hb de_L_law_40 (by decide) (by decide) rfl (by decide) ?_
    exact lz_h_add E I hR hi hc hs kk
  by_cases g1 : x9 = 1
  · refine bc_ti g1 ?_
    refine lv_tableIn (off := 164) (tgt := 204) hx hb de_L_law_40 (by decide) (by decide) rfl (by decide) ?_
    exact lz_h_change E I hR hi hc hs kk
  by_cases g2 : x9 = 2
  · refine bc_ti g2 ?_
    refine lv_tableIn (off := 248) (tgt := 288) hx hb de_L_law_40 (by decide) (by decide) rfl (by decide) ?_
    exact lz_h_clear E I hR hi hc hs kk
  by_cases g3 : x9 = 3
  · refine bc_ti g3 ?_
    refine lv_tableIn (off := 261) (tgt := 301) hx hb de_L_law_40 (by decide) (by decide) rfl (by decide) ?_
    exact lz_h_reached E I hR hi hc hs kk
  by_cases g4 : x9 = 4
  · refine bc_ti g4 ?_
    refine lv_tableIn (off := 324) (tgt := 364) hx hb de_L_law_40 (by decide) (by decide) rfl (by decide) ?_
    exact lz_h_reachedAll E I hR hi hc hs kk
  by_cases g5 : x9 = 5
  · refine bc_ti g5 ?_
    refine lv_tableIn (off := 337) (tgt := 377) hx hb de_L_law_40 (by decide) (by decide) rfl (by decide) ?_
    exact lz_h_known E I hR hi hc hs kk
  by_cases g6 : x9 = 6
  · refine bc_ti g6 ?_
    refine lv_tableIn (off := 405) (tgt := 445) hx hb de_L_law_40 (by decide) (by decide) rfl (by decide) ?_
    exact lz_h_constant E I hR hi hc hs kk
  by_cases g7 : x9 = 7
  · refine bc_ti g7 ?_
    refine lv_tableIn (off := 473) (tgt := 513) hx hb de_L_law_40 (by decide) (by decide) rfl (by decide) ?_
    exact lz_h_rewrite E I hR hi hc hs kk
  by_cases g8 : x9 = 8
  · refine bc_ti g8 ?_
    refine lv_tableIn (off := 517) (tgt := 557) hx hb de_L_law_40 (by decide) (by decide) rfl (by decide) ?_
    exact lz_h_code E I hR hi hc hs kk
  by_cases g9 : x9 = 9
  · refine bc_ti g9 ?_
    refine lv_tableIn (off := 597) (tgt := 637) hx hb de_L_law_40 (by decide) (by decide) rfl (by decide) ?_
    exact lz_h_start E I hR hi hc hs kk
  by_cases g10 : x9 = 10
  · refine bc_ti g10 ?_
    refine lv_tableIn (off := 681) (tgt := 721) hx hb de_L_law_40 (by decide) (by decide) rfl (by decide) ?_
    exact lz_h_run E I hR hi hc hs kk
  by_cases g11 : x9 = 11
  · refine bc_ti g11 ?_
    refine lv_tableIn (off := 749) (tgt := 789) hx hb de_L_law_40 (by decide) (by decide) rfl (by decide) ?_
    exact lz_h_place E I hR hi hc hs kk
  by_cases g12 : x9 = 12
  · refine bc_ti g12 ?_
    refine lv_tableIn (off := 805) (tgt := 845) hx hb de_L_law_40 (by decide) (by decide) rfl (by decide) ?_
    exact lz_h_value E I hR hi hc hs kk
  by_cases g13 : x9 = 13
  · refine bc_ti g13 ?_
    refine lv_tableIn (off := 873) (tgt := 913) hx hb de_L_law_40 (by decide) (by decide) rfl (by decide) ?_
    exact lz_h_steps E I hR hi hc hs kk
  refine lv_tableOut (tgt := 969) hx hb de_L_law_40 (bc_to_0_13 g0 g1 g2 g3 g4 g5 g6 g7 g8 g9 g10 g11 g12 g13) (by decide) ?_
  exact kk k r H locs ls cells slots hR I (by omega) (by omega)
end LZ5
theorem lz_R0 : lz_R (lz_C.mk 0 0 0 (fun _ _ => 0) (fun _ _ => 0) 0 0 (fun _ => 0) (fun _ => 0) (fun _ => 0) (fun _ => 0) (fun _ => 0) 0 (fun _ => 0) (fun _ => 0) (fun _ => 0) 0 0 0 (fun _ => 0) 0 0 0 (fun _ => 0) (fun _ => 0)) (lz_M.mk (fun _ => 0) (fun _ => 0) (fun _ => 0) (fun _ => 0) (fun _ => 0) (fun _ => 0) (fun _ => 0) (fun _ => 0) (fun _ => 0) (fun _ => 0) (fun _ => 0) (fun _ => 0) (fun _ => 0) (fun _ => 0) (fun _ => 0) (fun _ => 0) 0 0 0) := ⟨bc_AB_cg (bc_AB_clear (P := fun _ _ => 0) (Q := fun _ _ => 0) (n2 := 0) (PL := bc_2 0 0) (SP := bc_2 0 0)) bc_200 (fun _ _ z => absurd rfl z), ⟨nI_0.symm, fun j hj => absurd hj (Nat.not_lt_zero j), rfl, fun z => absurd rfl z, fun y hy => ⟨bc_200 y hy, fun z => absurd (bc_200 y hy).symm z⟩⟩, fun _ _ => rfl, Or.inl rfl⟩
