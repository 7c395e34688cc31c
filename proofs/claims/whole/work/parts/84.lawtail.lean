/-! the law: behind a helper of its own (by program: wip/whole/gen/modLaw.py) -/
section LZ3
variable {p : Program} {l : Launch} {e : Env} {s : State} {m : MethodId} {args : Array Value} {below : List Frame} {meth : Method} {c : Code} {H : Heap} {locs : List Loc} {cells slots : Nat} {Q : State → Prop} {ls : Array Slot}
variable {dC : Nat → ClassId} {dI : Nat → Nat → Nat} {cI cZ cL : ClassId} {a : Nat → Nat} {b i L : Nat} {xs : Nat → Int32} {k k0 : lz_C} {r : lz_M}
set_option maxHeartbeats 4000000 in
set_option maxRecDepth 100000 in
theorem lz_t_add {kv : Int32} (E : lz_E p l s m args c dC dI cI cZ cL b L xs) (I : lz_I s dC dI cI cZ cL a b i H locs ls k r) (hi : i + 6 ≤ L) (hf : cells + 0 ≤ room_1.cells ∧ slots + 0 ≤ room_1.slots) (hR : lz_R k0 r) (hk : ∀ (v9 : Int32) (u : Int32 × Int32 × bc_F × bc_F × bc_F × bc_F × bc_F × bc_F), lm_add k0 r (xs (i + 1)) (xs (i + 2)) (xs (i + 3)) (xs (i + 4)) v9 u → (lr_add r u).fa = kv ∧ (kv = 0 → k.Ou 0 = v9.toInt64) ∧ lz_R k (lr_add r u))
    (kk : ∀ (r9 : lz_M) (H : Heap) (locs : List Loc) (ls : Array Slot), lz_R k r9 → lz_I s dC dI cI cZ cL a b i H locs ls k r9 → W p l e room_1 s m args below meth c H locs cells slots Q (F0 m 969 ls [])) : W p l e room_1 s m args below meth c H locs cells slots Q (F0 m 141 ls [.int kv]) := by
  have F3 := E.1
  have hT9 : bc_T s := E.2.1
  have hl0 : l.stackTraces = false := E.2.2.1
  have hX := E.2.2.2.1
  have hbl := E.2.2.2.2.1
  have hL : L ≤ 3072 := E.2.2.2.2.2
  have F : bc_Fx p m c by_L_law 7 s args "BranchConstantsLaw" (dC, dI) classes [(cI, .int), (cZ, .boolean)] := ⟨F3.1, F3.2.1, F3.2.2.1, F3.2.2.2.1, F3.2.2.2.2.1, F3.2.2.2.2.2.1, va_K.sub F3.2.2.2.2.2.2 [0, 1] rfl⟩
  have hx := F.1
  have hb := F.2.1
  have hK3 := F3.2.2.2.2.2.2
  have hA : ∀ q, s.heap.size ≤ q → lz_A s q := fun _ h => h
  have hA2 : ∀ q, lz_A s q → s.heap.size ≤ q := fun _ h => h
  have hbA : ¬ lz_A s b := Nat.not_le.mpr hbl
  have hl := I.1
  have hP := I.2.1
  have hD := I.2.2.1
  have hS := I.2.2.2
  have hAB := hR.1
  have hMR := hR.2.1
  refine lv_istore (lv' := [(5, .int kv), (4, .int (nI i)), (3, .ref (a 42)), (2, .ref (a 25)), (1, .ref (a 0)), (0, .ref b)]) hx hb de_L_law_141 hl (by decide) rfl (fun ls hl => ?_)
  refine lv_aload_n hx hb de_L_law_143 rfl (lv_at hl 3 rfl) ?_
  refine lz_arg (k := 1) hx hb hX hbl hbA hS (lv_at hl 5 rfl) (lv_at hl 1 rfl) (by decide +kernel) (by omega) hL de_L_law_144 de_L_law_145 de_L_law_147 de_L_law_148 de_L_law_149 ?_
  refine lz_arg (k := 2) hx hb hX hbl hbA hS (lv_at hl 5 rfl) (lv_at hl 1 rfl) (by decide +kernel) (by omega) hL de_L_law_150 de_L_law_151 de_L_law_153 de_L_law_154 de_L_law_155 ?_
  refine lz_arg (k := 3) hx hb hX hbl hbA hS (lv_at hl 5 rfl) (lv_at hl 1 rfl) (by decide +kernel) (by omega) hL de_L_law_156 de_L_law_157 de_L_law_159 de_L_law_160 de_L_law_161 ?_
  refine lz_arg (k := 4) hx hb hX hbl hbA hS (lv_at hl 5 rfl) (lv_at hl 1 rfl) (by decide +kernel) (by omega) hL de_L_law_162 de_L_law_163 de_L_law_165 de_L_law_166 de_L_law_167 ?_
  refine bc_call_v_i (As := [.int (xs (i + 1)), .int (xs (i + 2)), .int (xs (i + 3)), .int (xs (i + 4))]) (rest := []) (wr := [(a 0, .inr (4, [.ref (a 1), .ref (a 6), .ref (a 11), .ref (a 17), .ref (a 21), .ref (a 23), .int k.an, .int k.ra])), (a 1, .inr (1, [.ref (a 2), .ref (a 3), .ref (a 4), .ref (a 5), .int (nI k.n)])), (a 2, .inl (cI, 40, .inl (k.P 1))), (a 3, .inl (cI, 40, .inl (k.P 2))), (a 4, .inl (cI, 40, .inl (k.P 3))), (a 5, .inl (cI, 40, .inl (k.P 4))), (a 6, .inr (1, [.ref (a 7), .ref (a 8), .ref (a 9), .ref (a 10), .int (nI k.n2)])), (a 7, .inl (cI, 40, .inl (k.Q 1))), (a 8, .inl (cI, 40, .inl (k.Q 2))), (a 9, .inl (cI, 40, .inl (k.Q 3))), (a 10, .inl (cI, 40, .inl (k.Q 4))), (a 11, .inr (0, [.ref (a 12), .ref (a 13), .ref (a 14), .ref (a 15), .ref (a 16), .int k.res])), (a 12, .inl (cI, 240, .inl k.S)), (a 13, .inl (cI, 240, .inl k.C)), (a 14, .inl (cZ, 40, .inl k.Wt)), (a 15, .inl (cI, 6, .inl k.SB)), (a 16, .inl (cI, 6, .inl k.CB)), (a 17, .inr (3, [.ref (a 18), .ref (a 19), .ref (a 20), .int (nI k.cq)])), (a 18, .inl (cZ, 40, .inl k.B)), (a 19, .inl (cI, 40, .inl k.U)), (a 20, .inl (cI, 41, .inl k.Nn)), (a 21, .inr (2, [.ref (a 22), .int k.pl0, .int k.sp0, .int k.on0])), (a 22, .inl (cI, 6, .inl k.X0)), (a 23, .inr (2, [.ref (a 24), .int k.pl1, .int k.sp1, .int k.on1])), (a 24, .inl (cI, 6, .inl k.X1)), (a 31, .inl (cZ, 40, .inl r.Re)), (a 32, .inl (cI, 240, .inl r.Fa)), (a 33, .inl (cI, 240, .inl r.Va)), (a 34, .inl (cI, 6, .inl r.Nf)), (a 35, .inl (cI, 6, .inl r.Nv)), (a 36, .inl (cZ, 41, .inl r.St)), (a 37, .inl (cI, 40, .inl r.Ld)), (a 39, .inl (cI, 2, .inl r.Pl)), (a 40, .inl (cI, 2, .inl r.Sp)), (a 41, .inl (cI, 12, .inl r.Vr)), (a 42, .inl (cL, 1, .inr (.inl k.Ou)))]) F (co_M_add hAB hMR) wm_469 wm_6 wm_466 wm_467 wm_468 25 rfl rfl pd_M_add rfl rfl ⟨Nat.le_of_ble_eq_true rfl, Nat.le_of_ble_eq_true rfl⟩ hP hD hS hA [25, 26, 27, 28, 29, 30, 38] [0, 1, 2, 3, 4, 5, 6, 7, 8, 9, 10, 11, 12, 13, 14, 15, 16, 17, 18, 19, 20, 21, 22, 23, 24, 31, 32, 33, 34, 35, 36, 37, 39, 40, 41, 42] rfl rfl rfl rfl (by decide) rfl hl.1 rfl (Nat.le_of_ble_eq_true rfl) de_L_law_168 hf (fun v9 u H locs hw hP hD hS => ?_)
  have hP : va_P (dC, dI) classes (lz_ws a cI cZ cL k (lr_add r u)) H := hP.sub [0, 1, 2, 3, 4, 5, 6, 7, 8, 9, 10, 11, 12, 13, 14, 15, 16, 17, 18, 19, 20, 21, 22, 23, 24, 36, 37, 38, 39, 40, 41, 25, 26, 27, 28, 29, 30, 31, 42, 32, 33, 34, 35] rfl
  have hD : va_D (lz_A s) (lz_ws a cI cZ cL k (lr_add r u)) := hD.sub [0, 1, 2, 3, 4, 5, 6, 7, 8, 9, 10, 11, 12, 13, 14, 15, 16, 17, 18, 19, 20, 21, 22, 23, 24, 36, 37, 38, 39, 40, 41, 25, 26, 27, 28, 29, 30, 31, 42, 32, 33, 34, 35] (by decide) rfl
  obtain ⟨e1, e2, e3⟩ := hk v9 u hw
  refine lv_istore (lv' := [(6, .int v9), (5, .int kv), (4, .int (nI i)), (3, .ref (a 42)), (2, .ref (a 25)), (1, .ref (a 0)), (0, .ref b)]) hx hb de_L_law_171 hl (by decide) rfl (fun ls hl => ?_)
  exact lz_end (k := k) (r := lr_add r u) E hl hP hD hS e1 e2 hf de_L_law_173 de_L_law_174 de_L_law_177 de_L_law_179 de_L_law_184 de_L_law_186 de_L_law_189 de_L_law_190 de_L_law_191 de_L_law_192 de_L_law_194 de_L_law_195 de_L_law_196 de_L_law_201 (by decide) (fun H locs hP hD hS => kk _ H locs ls e3 ⟨lv_sub hl [2, 3, 4, 5, 6] rfl, hP, hD, hS⟩)

set_option maxHeartbeats 4000000 in
set_option maxRecDepth 100000 in
theorem lz_t_change {kv : Int32} (E : lz_E p l s m args c dC dI cI cZ cL b L xs) (I : lz_I s dC dI cI cZ cL a b i H locs ls k r) (hi : i + 6 ≤ L) (hf : cells + 0 ≤ room_1.cells ∧ slots + 0 ≤ room_1.slots) (hR : lz_R k0 r) (hk : ∀ (u : Int32 × Int32 × bc_F × bc_F × bc_F × bc_F × bc_F × bc_F), lm_change k0 r (xs (i + 1)) (xs (i + 2)) (xs (i + 3)) (xs (i + 4)) (xs (i + 5)) u → (lr_change r u).fa = kv ∧ lz_R k (lr_change r u))
    (kk : ∀ (r9 : lz_M) (H : Heap) (locs : List Loc) (ls : Array Slot), lz_R k r9 → lz_I s dC dI cI cZ cL a b i H locs ls k r9 → W p l e room_1 s m args below meth c H locs cells slots Q (F0 m 969 ls [])) : W p l e room_1 s m args below meth c H locs cells slots Q (F0 m 238 ls [.int kv]) := by
  have F3 := E.1
  have hT9 : bc_T s := E.2.1
  have hl0 : l.stackTraces = false := E.2.2.1
  have hX := E.2.2.2.1
  have hbl := E.2.2.2.2.1
  have hL : L ≤ 3072 := E.2.2.2.2.2
  have F : bc_Fx p m c by_L_law 7 s args "BranchConstantsLaw" (dC, dI) classes [(cI, .int), (cZ, .boolean)] := ⟨F3.1, F3.2.1, F3.2.2.1, F3.2.2.2.1, F3.2.2.2.2.1, F3.2.2.2.2.2.1, va_K.sub F3.2.2.2.2.2.2 [0, 1] rfl⟩
  have hx := F.1
  have hb := F.2.1
  have hK3 := F3.2.2.2.2.2.2
  have hA : ∀ q, s.heap.size ≤ q → lz_A s q := fun _ h => h
  have hA2 : ∀ q, lz_A s q → s.heap.size ≤ q := fun _ h => h
  have hbA : ¬ lz_A s b := Nat.not_le.mpr hbl
  have hl := I.1
  have hP := I.2.1
  have hD := I.2.2.1
  have hS := I.2.2.2
  have hAB := hR.1
  have hMR := hR.2.1
  refine lv_istore (lv' := [(5, .int kv), (4, .int (nI i)), (3, .ref (a 42)), (2, .ref (a 25)), (1, .ref (a 0)), (0, .ref b)]) hx hb de_L_law_238 hl (by decide) rfl (fun ls hl => ?_)
  refine lv_aload_n hx hb de_L_law_240 rfl (lv_at hl 3 rfl) ?_
  refine lz_arg (k := 1) hx hb hX hbl hbA hS (lv_at hl 5 rfl) (lv_at hl 1 rfl) (by decide +kernel) (by omega) hL de_L_law_241 de_L_law_242 de_L_law_244 de_L_law_245 de_L_law_246 ?_
  refine lz_arg (k := 2) hx hb hX hbl hbA hS (lv_at hl 5 rfl) (lv_at hl 1 rfl) (by decide +kernel) (by omega) hL de_L_law_247 de_L_law_248 de_L_law_250 de_L_law_251 de_L_law_252 ?_
  refine lz_arg (k := 3) hx hb hX hbl hbA hS (lv_at hl 5 rfl) (lv_at hl 1 rfl) (by decide +kernel) (by omega) hL de_L_law_253 de_L_law_254 de_L_law_256 de_L_law_257 de_L_law_258 ?_
  refine lz_arg (k := 4) hx hb hX hbl hbA hS (lv_at hl 5 rfl) (lv_at hl 1 rfl) (by decide +kernel) (by omega) hL de_L_law_259 de_L_law_260 de_L_law_262 de_L_law_263 de_L_law_264 ?_
  refine lz_arg (k := 5) hx hb hX hbl hbA hS (lv_at hl 5 rfl) (lv_at hl 1 rfl) (by decide +kernel) (by omega) hL de_L_law_265 de_L_law_266 de_L_law_268 de_L_law_269 de_L_law_270 ?_
  refine bc_call_v_v (As := [.int (xs (i + 1)), .int (xs (i + 2)), .int (xs (i + 3)), .int (xs (i + 4)), .int (xs (i + 5))]) (rest := []) (wr := [(a 0, .inr (4, [.ref (a 1), .ref (a 6), .ref (a 11), .ref (a 17), .ref (a 21), .ref (a 23), .int k.an, .int k.ra])), (a 1, .inr (1, [.ref (a 2), .ref (a 3), .ref (a 4), .ref (a 5), .int (nI k.n)])), (a 2, .inl (cI, 40, .inl (k.P 1))), (a 3, .inl (cI, 40, .inl (k.P 2))), (a 4, .inl (cI, 40, .inl (k.P 3))), (a 5, .inl (cI, 40, .inl (k.P 4))), (a 6, .inr (1, [.ref (a 7), .ref (a 8), .ref (a 9), .ref (a 10), .int (nI k.n2)])), (a 7, .inl (cI, 40, .inl (k.Q 1))), (a 8, .inl (cI, 40, .inl (k.Q 2))), (a 9, .inl (cI, 40, .inl (k.Q 3))), (a 10, .inl (cI, 40, .inl (k.Q 4))), (a 11, .inr (0, [.ref (a 12), .ref (a 13), .ref (a 14), .ref (a 15), .ref (a 16), .int k.res])), (a 12, .inl (cI, 240, .inl k.S)), (a 13, .inl (cI, 240, .inl k.C)), (a 14, .inl (cZ, 40, .inl k.Wt)), (a 15, .inl (cI, 6, .inl k.SB)), (a 16, .inl (cI, 6, .inl k.CB)), (a 17, .inr (3, [.ref (a 18), .ref (a 19), .ref (a 20), .int (nI k.cq)])), (a 18, .inl (cZ, 40, .inl k.B)), (a 19, .inl (cI, 40, .inl k.U)), (a 20, .inl (cI, 41, .inl k.Nn)), (a 21, .inr (2, [.ref (a 22), .int k.pl0, .int k.sp0, .int k.on0])), (a 22, .inl (cI, 6, .inl k.X0)), (a 23, .inr (2, [.ref (a 24), .int k.pl1, .int k.sp1, .int k.on1])), (a 24, .inl (cI, 6, .inl k.X1)), (a 31, .inl (cZ, 40, .inl r.Re)), (a 32, .inl (cI, 240, .inl r.Fa)), (a 33, .inl (cI, 240, .inl r.Va)), (a 34, .inl (cI, 6, .inl r.Nf)), (a 35, .inl (cI, 6, .inl r.Nv)), (a 36, .inl (cZ, 41, .inl r.St)), (a 37, .inl (cI, 40, .inl r.Ld)), (a 39, .inl (cI, 2, .inl r.Pl)), (a 40, .inl (cI, 2, .inl r.Sp)), (a 41, .inl (cI, 12, .inl r.Vr)), (a 42, .inl (cL, 1, .inr (.inl k.Ou)))]) F (co_M_change hAB hMR) wm_488 wm_6 wm_485 wm_486 wm_487 25 rfl rfl pd_M_change rfl rfl ⟨Nat.le_of_ble_eq_true rfl, Nat.le_of_ble_eq_true rfl⟩ hP hD hS hA [25, 26, 27, 28, 29, 30, 38] [0, 1, 2, 3, 4, 5, 6, 7, 8, 9, 10, 11, 12, 13, 14, 15, 16, 17, 18, 19, 20, 21, 22, 23, 24, 31, 32, 33, 34, 35, 36, 37, 39, 40, 41, 42] rfl rfl rfl rfl (by decide) rfl hl.1 rfl (Nat.le_of_ble_eq_true rfl) de_L_law_271 hf (fun u H locs hw hP hD hS => ?_)
  have hP : va_P (dC, dI) classes (lz_ws a cI cZ cL k (lr_change r u)) H := hP.sub [0, 1, 2, 3, 4, 5, 6, 7, 8, 9, 10, 11, 12, 13, 14, 15, 16, 17, 18, 19, 20, 21, 22, 23, 24, 36, 37, 38, 39, 40, 41, 25, 26, 27, 28, 29, 30, 31, 42, 32, 33, 34, 35] rfl
  have hD : va_D (lz_A s) (lz_ws a cI cZ cL k (lr_change r u)) := hD.sub [0, 1, 2, 3, 4, 5, 6, 7, 8, 9, 10, 11, 12, 13, 14, 15, 16, 17, 18, 19, 20, 21, 22, 23, 24, 36, 37, 38, 39, 40, 41, 25, 26, 27, 28, 29, 30, 31, 42, 32, 33, 34, 35] (by decide) rfl
  obtain ⟨e1, e3⟩ := hk u hw
  exact lz_end0 (k := k) (r := lr_change r u) E hl hP hD hS e1 hf de_L_law_274 de_L_law_275 de_L_law_278 de_L_law_280 de_L_law_285 (by decide) (fun H locs hP hD hS => kk _ H locs ls e3 ⟨lv_sub hl [1, 2, 3, 4, 5] rfl, hP, hD, hS⟩)

set_option maxHeartbeats 4000000 in
set_option maxRecDepth 100000 in
theorem lz_t_reached {kv : Int32} (E : lz_E p l s m args c dC dI cI cZ cL b L xs) (I : lz_I s dC dI cI cZ cL a b i H locs ls k r) (hi : i + 6 ≤ L) (hf : cells + 0 ≤ room_1.cells ∧ slots + 0 ≤ room_1.slots) (hR : lz_R k0 r) (hk : ∀ (v9 : Int32) (u : Int32 × Int32 × bc_F × bc_F × bc_F × bc_F × bc_F), lm_reached k0 r (xs (i + 1)) v9 u → (lr_reached r u).fa = kv ∧ (kv = 0 → k.Ou 0 = (if v9 = 0 then 0 else 1)) ∧ lz_R k (lr_reached r u))
    (kk : ∀ (r9 : lz_M) (H : Heap) (locs : List Loc) (ls : Array Slot), lz_R k r9 → lz_I s dC dI cI cZ cL a b i H locs ls k r9 → W p l e room_1 s m args below meth c H locs cells slots Q (F0 m 969 ls [])) : W p l e room_1 s m args below meth c H locs cells slots Q (F0 m 312 ls [.int kv]) := by
  have F3 := E.1
  have hT9 : bc_T s := E.2.1
  have hl0 : l.stackTraces = false := E.2.2.1
  have hX := E.2.2.2.1
  have hbl := E.2.2.2.2.1
  have hL : L ≤ 3072 := E.2.2.2.2.2
  have F : bc_Fx p m c by_L_law 7 s args "BranchConstantsLaw" (dC, dI) classes [(cI, .int), (cZ, .boolean)] := ⟨F3.1, F3.2.1, F3.2.2.1, F3.2.2.2.1, F3.2.2.2.2.1, F3.2.2.2.2.2.1, va_K.sub F3.2.2.2.2.2.2 [0, 1] rfl⟩
  have hx := F.1
  have hb := F.2.1
  have hK3 := F3.2.2.2.2.2.2
  have hA : ∀ q, s.heap.size ≤ q → lz_A s q := fun _ h => h
  have hA2 : ∀ q, lz_A s q → s.heap.size ≤ q := fun _ h => h
  have hbA : ¬ lz_A s b := Nat.not_le.mpr hbl
  have hl := I.1
  have hP := I.2.1
  have hD := I.2.2.1
  have hS := I.2.2.2
  have hAB := hR.1
  have hMR := hR.2.1
  refine lv_istore (lv' := [(5, .int kv), (4, .int (nI i)), (3, .ref (a 42)), (2, .ref (a 25)), (1, .ref (a 0)), (0, .ref b)]) hx hb de_L_law_312 hl (by decide) rfl (fun ls hl => ?_)
  refine lv_aload_n hx hb de_L_law_314 rfl (lv_at hl 3 rfl) ?_
  refine lz_arg (k := 1) hx hb hX hbl hbA hS (lv_at hl 5 rfl) (lv_at hl 1 rfl) (by decide +kernel) (by omega) hL de_L_law_315 de_L_law_316 de_L_law_318 de_L_law_319 de_L_law_320 ?_
  refine bc_call_v_i (As := [.int (xs (i + 1))]) (rest := []) (wr := [(a 0, .inr (4, [.ref (a 1), .ref (a 6), .ref (a 11), .ref (a 17), .ref (a 21), .ref (a 23), .int k.an, .int k.ra])), (a 1, .inr (1, [.ref (a 2), .ref (a 3), .ref (a 4), .ref (a 5), .int (nI k.n)])), (a 2, .inl (cI, 40, .inl (k.P 1))), (a 3, .inl (cI, 40, .inl (k.P 2))), (a 4, .inl (cI, 40, .inl (k.P 3))), (a 5, .inl (cI, 40, .inl (k.P 4))), (a 6, .inr (1, [.ref (a 7), .ref (a 8), .ref (a 9), .ref (a 10), .int (nI k.n2)])), (a 7, .inl (cI, 40, .inl (k.Q 1))), (a 8, .inl (cI, 40, .inl (k.Q 2))), (a 9, .inl (cI, 40, .inl (k.Q 3))), (a 10, .inl (cI, 40, .inl (k.Q 4))), (a 11, .inr (0, [.ref (a 12), .ref (a 13), .ref (a 14), .ref (a 15), .ref (a 16), .int k.res])), (a 12, .inl (cI, 240, .inl k.S)), (a 13, .inl (cI, 240, .inl k.C)), (a 14, .inl (cZ, 40, .inl k.Wt)), (a 15, .inl (cI, 6, .inl k.SB)), (a 16, .inl (cI, 6, .inl k.CB)), (a 17, .inr (3, [.ref (a 18), .ref (a 19), .ref (a 20), .int (nI k.cq)])), (a 18, .inl (cZ, 40, .inl k.B)), (a 19, .inl (cI, 40, .inl k.U)), (a 20, .inl (cI, 41, .inl k.Nn)), (a 21, .inr (2, [.ref (a 22), .int k.pl0, .int k.sp0, .int k.on0])), (a 22, .inl (cI, 6, .inl k.X0)), (a 23, .inr (2, [.ref (a 24), .int k.pl1, .int k.sp1, .int k.on1])), (a 24, .inl (cI, 6, .inl k.X1)), (a 36, .inl (cZ, 41, .inl r.St)), (a 37, .inl (cI, 40, .inl r.Ld)), (a 38, .inl (cZ, 2, .inl r.On)), (a 39, .inl (cI, 2, .inl r.Pl)), (a 40, .inl (cI, 2, .inl r.Sp)), (a 41, .inl (cI, 12, .inl r.Vr)), (a 42, .inl (cL, 1, .inr (.inl k.Ou)))]) F (co_M_reached hAB hMR) wm_496 wm_6 wm_493 wm_494 wm_495 25 rfl rfl pd_M_reached rfl rfl ⟨Nat.le_of_ble_eq_true rfl, Nat.le_of_ble_eq_true rfl⟩ hP hD hS hA [25, 26, 27, 28, 29, 30, 31, 32, 33, 34, 35] [0, 1, 2, 3, 4, 5, 6, 7, 8, 9, 10, 11, 12, 13, 14, 15, 16, 17, 18, 19, 20, 21, 22, 23, 24, 36, 37, 38, 39, 40, 41, 42] rfl rfl rfl rfl (by decide) rfl hl.1 rfl (Nat.le_of_ble_eq_true rfl) de_L_law_321 hf (fun v9 u H locs hw hP hD hS => ?_)
  have hP : va_P (dC, dI) classes (lz_ws a cI cZ cL k (lr_reached r u)) H := hP.sub [0, 1, 2, 3, 4, 5, 6, 7, 8, 9, 10, 11, 12, 13, 14, 15, 16, 17, 18, 19, 20, 21, 22, 23, 24, 32, 33, 34, 35, 36, 37, 38, 39, 40, 41, 42, 25, 26, 27, 28, 29, 30, 31] rfl
  have hD : va_D (lz_A s) (lz_ws a cI cZ cL k (lr_reached r u)) := hD.sub [0, 1, 2, 3, 4, 5, 6, 7, 8, 9, 10, 11, 12, 13, 14, 15, 16, 17, 18, 19, 20, 21, 22, 23, 24, 32, 33, 34, 35, 36, 37, 38, 39, 40, 41, 42, 25, 26, 27, 28, 29, 30, 31] (by decide) rfl
  obtain ⟨e1, e2, e3⟩ := hk v9 u hw
  refine lv_istore (lv' := [(6, .int v9), (5, .int kv), (4, .int (nI i)), (3, .ref (a 42)), (2, .ref (a 25)), (1, .ref (a 0)), (0, .ref b)]) hx hb de_L_law_324 hl (by decide) rfl (fun ls hl => ?_)
  exact lz_endR (k := k) (r := lr_reached r u) E hl hP hD hS e1 e2 hf (fun H locs hP hD hS => kk _ H locs ls e3 ⟨lv_sub hl [2, 3, 4, 5, 6] rfl, hP, hD, hS⟩)

set_option maxHeartbeats 4000000 in
set_option maxRecDepth 100000 in
theorem lz_t_known {kv : Int32} (E : lz_E p l s m args c dC dI cI cZ cL b L xs) (I : lz_I s dC dI cI cZ cL a b i H locs ls k r) (hi : i + 6 ≤ L) (hf : cells + 0 ≤ room_1.cells ∧ slots + 0 ≤ room_1.slots) (hR : lz_R k0 r) (hk : ∀ (v9 : Int32) (u : Int32 × Int32 × bc_F × bc_F × bc_F × bc_F × bc_F), lm_known k0 r (xs (i + 1)) (xs (i + 2)) v9 u → (lr_known r u).fa = kv ∧ (kv = 0 → k.Ou 0 = v9.toInt64) ∧ lz_R k (lr_known r u))
    (kk : ∀ (r9 : lz_M) (H : Heap) (locs : List Loc) (ls : Array Slot), lz_R k r9 → lz_I s dC dI cI cZ cL a b i H locs ls k r9 → W p l e room_1 s m args below meth c H locs cells slots Q (F0 m 969 ls [])) : W p l e room_1 s m args below meth c H locs cells slots Q (F0 m 394 ls [.int kv]) := by
  have F3 := E.1
  have hT9 : bc_T s := E.2.1
  have hl0 : l.stackTraces = false := E.2.2.1
  have hX := E.2.2.2.1
  have hbl := E.2.2.2.2.1
  have hL : L ≤ 3072 := E.2.2.2.2.2
  have F : bc_Fx p m c by_L_law 7 s args "BranchConstantsLaw" (dC, dI) classes [(cI, .int), (cZ, .boolean)] := ⟨F3.1, F3.2.1, F3.2.2.1, F3.2.2.2.1, F3.2.2.2.2.1, F3.2.2.2.2.2.1, va_K.sub F3.2.2.2.2.2.2 [0, 1] rfl⟩
  have hx := F.1
  have hb := F.2.1
  have hK3 := F3.2.2.2.2.2.2
  have hA : ∀ q, s.heap.size ≤ q → lz_A s q := fun _ h => h
  have hA2 : ∀ q, lz_A s q → s.heap.size ≤ q := fun _ h => h
  have hbA : ¬ lz_A s b := Nat.not_le.mpr hbl
  have hl := I.1
  have hP := I.2.1
  have hD := I.2.2.1
  have hS := I.2.2.2
  have hAB := hR.1
  have hMR := hR.2.1
  refine lv_istore (lv' := [(5, .int kv), (4, .int (nI i)), (3, .ref (a 42)), (2, .ref (a 25)), (1, .ref (a 0)), (0, .ref b)]) hx hb de_L_law_394 hl (by decide) rfl (fun ls hl => ?_)
  refine lv_aload_n hx hb de_L_law_396 rfl (lv_at hl 3 rfl) ?_
  refine lz_arg (k := 1) hx hb hX hbl hbA hS (lv_at hl 5 rfl) (lv_at hl 1 rfl) (by decide +kernel) (by omega) hL de_L_law_397 de_L_law_398 de_L_law_400 de_L_law_401 de_L_law_402 ?_
  refine lz_arg (k := 2) hx hb hX hbl hbA hS (lv_at hl 5 rfl) (lv_at hl 1 rfl) (by decide +kernel) (by omega) hL de_L_law_403 de_L_law_404 de_L_law_406 de_L_law_407 de_L_law_408 ?_
  refine bc_call_v_i (As := [.int (xs (i + 1)), .int (xs (i + 2))]) (rest := []) (wr := [(a 0, .inr (4, [.ref (a 1), .ref (a 6), .ref (a 11), .ref (a 17), .ref (a 21), .ref (a 23), .int k.an, .int k.ra])), (a 1, .inr (1, [.ref (a 2), .ref (a 3), .ref (a 4), .ref (a 5), .int (nI k.n)])), (a 2, .inl (cI, 40, .inl (k.P 1))), (a 3, .inl (cI, 40, .inl (k.P 2))), (a 4, .inl (cI, 40, .inl (k.P 3))), (a 5, .inl (cI, 40, .inl (k.P 4))), (a 6, .inr (1, [.ref (a 7), .ref (a 8), .ref (a 9), .ref (a 10), .int (nI k.n2)])), (a 7, .inl (cI, 40, .inl (k.Q 1))), (a 8, .inl (cI, 40, .inl (k.Q 2))), (a 9, .inl (cI, 40, .inl (k.Q 3))), (a 10, .inl (cI, 40, .inl (k.Q 4))), (a 11, .inr (0, [.ref (a 12), .ref (a 13), .ref (a 14), .ref (a 15), .ref (a 16), .int k.res])), (a 12, .inl (cI, 240, .inl k.S)), (a 13, .inl (cI, 240, .inl k.C)), (a 14, .inl (cZ, 40, .inl k.Wt)), (a 15, .inl (cI, 6, .inl k.SB)), (a 16, .inl (cI, 6, .inl k.CB)), (a 17, .inr (3, [.ref (a 18), .ref (a 19), .ref (a 20), .int (nI k.cq)])), (a 18, .inl (cZ, 40, .inl k.B)), (a 19, .inl (cI, 40, .inl k.U)), (a 20, .inl (cI, 41, .inl k.Nn)), (a 21, .inr (2, [.ref (a 22), .int k.pl0, .int k.sp0, .int k.on0])), (a 22, .inl (cI, 6, .inl k.X0)), (a 23, .inr (2, [.ref (a 24), .int k.pl1, .int k.sp1, .int k.on1])), (a 24, .inl (cI, 6, .inl k.X1)), (a 36, .inl (cZ, 41, .inl r.St)), (a 37, .inl (cI, 40, .inl r.Ld)), (a 38, .inl (cZ, 2, .inl r.On)), (a 39, .inl (cI, 2, .inl r.Pl)), (a 40, .inl (cI, 2, .inl r.Sp)), (a 41, .inl (cI, 12, .inl r.Vr)), (a 42, .inl (cL, 1, .inr (.inl k.Ou)))]) F (co_M_known hAB hMR) wm_525 wm_6 wm_522 wm_523 wm_524 25 rfl rfl pd_M_known rfl rfl ⟨Nat.le_of_ble_eq_true rfl, Nat.le_of_ble_eq_true rfl⟩ hP hD hS hA [25, 26, 27, 28, 29, 30, 31, 32, 33, 34, 35] [0, 1, 2, 3, 4, 5, 6, 7, 8, 9, 10, 11, 12, 13, 14, 15, 16, 17, 18, 19, 20, 21, 22, 23, 24, 36, 37, 38, 39, 40, 41, 42] rfl rfl rfl rfl (by decide) rfl hl.1 rfl (Nat.le_of_ble_eq_true rfl) de_L_law_409 hf (fun v9 u H locs hw hP hD hS => ?_)
  have hP : va_P (dC, dI) classes (lz_ws a cI cZ cL k (lr_known r u)) H := hP.sub [0, 1, 2, 3, 4, 5, 6, 7, 8, 9, 10, 11, 12, 13, 14, 15, 16, 17, 18, 19, 20, 21, 22, 23, 24, 32, 33, 34, 35, 36, 37, 38, 39, 40, 41, 42, 25, 26, 27, 28, 29, 30, 31] rfl
  have hD : va_D (lz_A s) (lz_ws a cI cZ cL k (lr_known r u)) := hD.sub [0, 1, 2, 3, 4, 5, 6, 7, 8, 9, 10, 11, 12, 13, 14, 15, 16, 17, 18, 19, 20, 21, 22, 23, 24, 32, 33, 34, 35, 36, 37, 38, 39, 40, 41, 42, 25, 26, 27, 28, 29, 30, 31] (by decide) rfl
  obtain ⟨e1, e2, e3⟩ := hk v9 u hw
  refine lv_istore (lv' := [(6, .int v9), (5, .int kv), (4, .int (nI i)), (3, .ref (a 42)), (2, .ref (a 25)), (1, .ref (a 0)), (0, .ref b)]) hx hb de_L_law_412 hl (by decide) rfl (fun ls hl => ?_)
  exact lz_end (k := k) (r := lr_known r u) E hl hP hD hS e1 e2 hf de_L_law_414 de_L_law_415 de_L_law_418 de_L_law_420 de_L_law_425 de_L_law_427 de_L_law_430 de_L_law_431 de_L_law_432 de_L_law_433 de_L_law_435 de_L_law_436 de_L_law_437 de_L_law_442 (by decide) (fun H locs hP hD hS => kk _ H locs ls e3 ⟨lv_sub hl [2, 3, 4, 5, 6] rfl, hP, hD, hS⟩)

set_option maxHeartbeats 4000000 in
set_option maxRecDepth 100000 in
theorem lz_t_constant {kv : Int32} (E : lz_E p l s m args c dC dI cI cZ cL b L xs) (I : lz_I s dC dI cI cZ cL a b i H locs ls k r) (hi : i + 6 ≤ L) (hf : cells + 0 ≤ room_1.cells ∧ slots + 0 ≤ room_1.slots) (hR : lz_R k0 r) (hk : ∀ (v9 : Int32) (u : Int32 × Int32 × bc_F × bc_F × bc_F × bc_F × bc_F), lm_constant k0 r (xs (i + 1)) (xs (i + 2)) v9 u → (lr_constant r u).fa = kv ∧ (kv = 0 → k.Ou 0 = v9.toInt64) ∧ lz_R k (lr_constant r u))
    (kk : ∀ (r9 : lz_M) (H : Heap) (locs : List Loc) (ls : Array Slot), lz_R k r9 → lz_I s dC dI cI cZ cL a b i H locs ls k r9 → W p l e room_1 s m args below meth c H locs cells slots Q (F0 m 969 ls [])) : W p l e room_1 s m args below meth c H locs cells slots Q (F0 m 462 ls [.int kv]) := by
  have F3 := E.1
  have hT9 : bc_T s := E.2.1
  have hl0 : l.stackTraces = false := E.2.2.1
  have hX := E.2.2.2.1
  have hbl := E.2.2.2.2.1
  have hL : L ≤ 3072 := E.2.2.2.2.2
  have F : bc_Fx p m c by_L_law 7 s args "BranchConstantsLaw" (dC, dI) classes [(cI, .int), (cZ, .boolean)] := ⟨F3.1, F3.2.1, F3.2.2.1, F3.2.2.2.1, F3.2.2.2.2.1, F3.2.2.2.2.2.1, va_K.sub F3.2.2.2.2.2.2 [0, 1] rfl⟩
  have hx := F.1
  have hb := F.2.1
  have hK3 := F3.2.2.2.2.2.2
  have hA : ∀ q, s.heap.size ≤ q → lz_A s q := fun _ h => h
  have hA2 : ∀ q, lz_A s q → s.heap.size ≤ q := fun _ h => h
  have hbA : ¬ lz_A s b := Nat.not_le.mpr hbl
  have hl := I.1
  have hP := I.2.1
  have hD := I.2.2.1
  have hS := I.2.2.2
  have hAB := hR.1
  have hMR := hR.2.1
  refine lv_istore (lv' := [(5, .int kv), (4, .int (nI i)), (3, .ref (a 42)), (2, .ref (a 25)), (1, .ref (a 0)), (0, .ref b)]) hx hb de_L_law_462 hl (by decide) rfl (fun ls hl => ?_)
  refine lv_aload_n hx hb de_L_law_464 rfl (lv_at hl 3 rfl) ?_
  refine lz_arg (k := 1) hx hb hX hbl hbA hS (lv_at hl 5 rfl) (lv_at hl 1 rfl) (by decide +kernel) (by omega) hL de_L_law_465 de_L_law_466 de_L_law_468 de_L_law_469 de_L_law_470 ?_
  refine lz_arg (k := 2) hx hb hX hbl hbA hS (lv_at hl 5 rfl) (lv_at hl 1 rfl) (by decide +kernel) (by omega) hL de_L_law_471 de_L_law_472 de_L_law_474 de_L_law_475 de_L_law_476 ?_
  refine bc_call_v_i (As := [.int (xs (i + 1)), .int (xs (i + 2))]) (rest := []) (wr := [(a 0, .inr (4, [.ref (a 1), .ref (a 6), .ref (a 11), .ref (a 17), .ref (a 21), .ref (a 23), .int k.an, .int k.ra])), (a 1, .inr (1, [.ref (a 2), .ref (a 3), .ref (a 4), .ref (a 5), .int (nI k.n)])), (a 2, .inl (cI, 40, .inl (k.P 1))), (a 3, .inl (cI, 40, .inl (k.P 2))), (a 4, .inl (cI, 40, .inl (k.P 3))), (a 5, .inl (cI, 40, .inl (k.P 4))), (a 6, .inr (1, [.ref (a 7), .ref (a 8), .ref (a 9), .ref (a 10), .int (nI k.n2)])), (a 7, .inl (cI, 40, .inl (k.Q 1))), (a 8, .inl (cI, 40, .inl (k.Q 2))), (a 9, .inl (cI, 40, .inl (k.Q 3))), (a 10, .inl (cI, 40, .inl (k.Q 4))), (a 11, .inr (0, [.ref (a 12), .ref (a 13), .ref (a 14), .ref (a 15), .ref (a 16), .int k.res])), (a 12, .inl (cI, 240, .inl k.S)), (a 13, .inl (cI, 240, .inl k.C)), (a 14, .inl (cZ, 40, .inl k.Wt)), (a 15, .inl (cI, 6, .inl k.SB)), (a 16, .inl (cI, 6, .inl k.CB)), (a 17, .inr (3, [.ref (a 18), .ref (a 19), .ref (a 20), .int (nI k.cq)])), (a 18, .inl (cZ, 40, .inl k.B)), (a 19, .inl (cI, 40, .inl k.U)), (a 20, .inl (cI, 41, .inl k.Nn)), (a 21, .inr (2, [.ref (a 22), .int k.pl0, .int k.sp0, .int k.on0])), (a 22, .inl (cI, 6, .inl k.X0)), (a 23, .inr (2, [.ref (a 24), .int k.pl1, .int k.sp1, .int k.on1])), (a 24, .inl (cI, 6, .inl k.X1)), (a 36, .inl (cZ, 41, .inl r.St)), (a 37, .inl (cI, 40, .inl r.Ld)), (a 38, .inl (cZ, 2, .inl r.On)), (a 39, .inl (cI, 2, .inl r.Pl)), (a 40, .inl (cI, 2, .inl r.Sp)), (a 41, .inl (cI, 12, .inl r.Vr)), (a 42, .inl (cL, 1, .inr (.inl k.Ou)))]) F (co_M_constant hAB hMR) wm_529 wm_6 wm_526 wm_527 wm_528 25 rfl rfl pd_M_constant rfl rfl ⟨Nat.le_of_ble_eq_true rfl, Nat.le_of_ble_eq_true rfl⟩ hP hD hS hA [25, 26, 27, 28, 29, 30, 31, 32, 33, 34, 35] [0, 1, 2, 3, 4, 5, 6, 7, 8, 9, 10, 11, 12, 13, 14, 15, 16, 17, 18, 19, 20, 21, 22, 23, 24, 36, 37, 38, 39, 40, 41, 42] rfl rfl rfl rfl (by decide) rfl hl.1 rfl (Nat.le_of_ble_eq_true rfl) de_L_law_477 hf (fun v9 u H locs hw hP hD hS => ?_)
  have hP : va_P (dC, dI) classes (lz_ws a cI cZ cL k (lr_constant r u)) H := hP.sub [0, 1, 2, 3, 4, 5, 6, 7, 8, 9, 10, 11, 12, 13, 14, 15, 16, 17, 18, 19, 20, 21, 22, 23, 24, 32, 33, 34, 35, 36, 37, 38, 39, 40, 41, 42, 25, 26, 27, 28, 29, 30, 31] rfl
  have hD : va_D (lz_A s) (lz_ws a cI cZ cL k (lr_constant r u)) := hD.sub [0, 1, 2, 3, 4, 5, 6, 7, 8, 9, 10, 11, 12, 13, 14, 15, 16, 17, 18, 19, 20, 21, 22, 23, 24, 32, 33, 34, 35, 36, 37, 38, 39, 40, 41, 42, 25, 26, 27, 28, 29, 30, 31] (by decide) rfl
  obtain ⟨e1, e2, e3⟩ := hk v9 u hw
  refine lv_istore (lv' := [(6, .int v9), (5, .int kv), (4, .int (nI i)), (3, .ref (a 42)), (2, .ref (a 25)), (1, .ref (a 0)), (0, .ref b)]) hx hb de_L_law_480 hl (by decide) rfl (fun ls hl => ?_)
  exact lz_end (k := k) (r := lr_constant r u) E hl hP hD hS e1 e2 hf de_L_law_482 de_L_law_483 de_L_law_486 de_L_law_488 de_L_law_493 de_L_law_495 de_L_law_498 de_L_law_499 de_L_law_500 de_L_law_501 de_L_law_503 de_L_law_504 de_L_law_505 de_L_law_510 (by decide) (fun H locs hP hD hS => kk _ H locs ls e3 ⟨lv_sub hl [2, 3, 4, 5, 6] rfl, hP, hD, hS⟩)

set_option maxHeartbeats 4000000 in
set_option maxRecDepth 100000 in
theorem lz_t_rewrite {kv : Int32} (E : lz_E p l s m args c dC dI cI cZ cL b L xs) (I : lz_I s dC dI cI cZ cL a b i H locs ls k r) (hi : i + 6 ≤ L) (hf : cells + 0 ≤ room_1.cells ∧ slots + 0 ≤ room_1.slots) (hR : lz_R k0 r) (hk : ∀ (v9 : Int32) (u : Int32 × Int32 × Int32 × bc_F × bc_F × bc_F × bc_F × bc_F × bc_F × bc_F × bc_F × bc_F × bc_F × bc_F × bc_F × bc_F), lm_rewrite k0 r  v9 u → (lr_rewrite r u).fa = kv ∧ (kv = 0 → k.Ou 0 = v9.toInt64) ∧ lz_R k (lr_rewrite r u))
    (kk : ∀ (r9 : lz_M) (H : Heap) (locs : List Loc) (ls : Array Slot), lz_R k r9 → lz_I s dC dI cI cZ cL a b i H locs ls k r9 → W p l e room_1 s m args below meth c H locs cells slots Q (F0 m 969 ls [])) : W p l e room_1 s m args below meth c H locs cells slots Q (F0 m 518 ls [.int kv]) := by
  have F3 := E.1
  have hT9 : bc_T s := E.2.1
  have hl0 : l.stackTraces = false := E.2.2.1
  have hX := E.2.2.2.1
  have hbl := E.2.2.2.2.1
  have hL : L ≤ 3072 := E.2.2.2.2.2
  have F : bc_Fx p m c by_L_law 7 s args "BranchConstantsLaw" (dC, dI) classes [(cI, .int), (cZ, .boolean)] := ⟨F3.1, F3.2.1, F3.2.2.1, F3.2.2.2.1, F3.2.2.2.2.1, F3.2.2.2.2.2.1, va_K.sub F3.2.2.2.2.2.2 [0, 1] rfl⟩
  have hx := F.1
  have hb := F.2.1
  have hK3 := F3.2.2.2.2.2.2
  have hA : ∀ q, s.heap.size ≤ q → lz_A s q := fun _ h => h
  have hA2 : ∀ q, lz_A s q → s.heap.size ≤ q := fun _ h => h
  have hbA : ¬ lz_A s b := Nat.not_le.mpr hbl
  have hl := I.1
  have hP := I.2.1
  have hD := I.2.2.1
  have hS := I.2.2.2
  have hAB := hR.1
  have hMR := hR.2.1
  refine lv_istore (lv' := [(5, .int kv), (4, .int (nI i)), (3, .ref (a 42)), (2, .ref (a 25)), (1, .ref (a 0)), (0, .ref b)]) hx hb de_L_law_518 hl (by decide) rfl (fun ls hl => ?_)
  refine lv_aload_n hx hb de_L_law_520 rfl (lv_at hl 3 rfl) ?_
  refine bc_call_v_i (As := []) (rest := []) (wr := [(a 0, .inr (4, [.ref (a 1), .ref (a 6), .ref (a 11), .ref (a 17), .ref (a 21), .ref (a 23), .int k.an, .int k.ra])), (a 1, .inr (1, [.ref (a 2), .ref (a 3), .ref (a 4), .ref (a 5), .int (nI k.n)])), (a 2, .inl (cI, 40, .inl (k.P 1))), (a 3, .inl (cI, 40, .inl (k.P 2))), (a 4, .inl (cI, 40, .inl (k.P 3))), (a 5, .inl (cI, 40, .inl (k.P 4))), (a 6, .inr (1, [.ref (a 7), .ref (a 8), .ref (a 9), .ref (a 10), .int (nI k.n2)])), (a 7, .inl (cI, 40, .inl (k.Q 1))), (a 8, .inl (cI, 40, .inl (k.Q 2))), (a 9, .inl (cI, 40, .inl (k.Q 3))), (a 10, .inl (cI, 40, .inl (k.Q 4))), (a 11, .inr (0, [.ref (a 12), .ref (a 13), .ref (a 14), .ref (a 15), .ref (a 16), .int k.res])), (a 12, .inl (cI, 240, .inl k.S)), (a 13, .inl (cI, 240, .inl k.C)), (a 14, .inl (cZ, 40, .inl k.Wt)), (a 15, .inl (cI, 6, .inl k.SB)), (a 16, .inl (cI, 6, .inl k.CB)), (a 17, .inr (3, [.ref (a 18), .ref (a 19), .ref (a 20), .int (nI k.cq)])), (a 18, .inl (cZ, 40, .inl k.B)), (a 19, .inl (cI, 40, .inl k.U)), (a 20, .inl (cI, 41, .inl k.Nn)), (a 21, .inr (2, [.ref (a 22), .int k.pl0, .int k.sp0, .int k.on0])), (a 22, .inl (cI, 6, .inl k.X0)), (a 23, .inr (2, [.ref (a 24), .int k.pl1, .int k.sp1, .int k.on1])), (a 24, .inl (cI, 6, .inl k.X1)), (a 39, .inl (cI, 2, .inl r.Pl)), (a 40, .inl (cI, 2, .inl r.Sp)), (a 41, .inl (cI, 12, .inl r.Vr)), (a 42, .inl (cL, 1, .inr (.inl k.Ou)))]) F (co_M_rewrite hAB hMR) wm_533 wm_6 wm_530 wm_531 wm_532 25 rfl rfl pd_M_rewrite rfl rfl ⟨Nat.le_of_ble_eq_true rfl, Nat.le_of_ble_eq_true rfl⟩ hP hD hS hA [25, 26, 27, 28, 29, 30, 31, 32, 33, 34, 35, 36, 37, 38] [0, 1, 2, 3, 4, 5, 6, 7, 8, 9, 10, 11, 12, 13, 14, 15, 16, 17, 18, 19, 20, 21, 22, 23, 24, 39, 40, 41, 42] rfl rfl rfl rfl (by decide) rfl hl.1 rfl (Nat.le_of_ble_eq_true rfl) de_L_law_521 hf (fun v9 u H locs hw hP hD hS => ?_)
  have hP : va_P (dC, dI) classes (lz_ws a cI cZ cL k (lr_rewrite r u)) H := hP.sub [0, 1, 2, 3, 4, 5, 6, 7, 8, 9, 10, 11, 12, 13, 14, 15, 16, 17, 18, 19, 20, 21, 22, 23, 24, 29, 30, 31, 32, 33, 34, 35, 36, 37, 38, 39, 40, 41, 42, 25, 26, 27, 28] rfl
  have hD : va_D (lz_A s) (lz_ws a cI cZ cL k (lr_rewrite r u)) := hD.sub [0, 1, 2, 3, 4, 5, 6, 7, 8, 9, 10, 11, 12, 13, 14, 15, 16, 17, 18, 19, 20, 21, 22, 23, 24, 29, 30, 31, 32, 33, 34, 35, 36, 37, 38, 39, 40, 41, 42, 25, 26, 27, 28] (by decide) rfl
  obtain ⟨e1, e2, e3⟩ := hk v9 u hw
  refine lv_istore (lv' := [(6, .int v9), (5, .int kv), (4, .int (nI i)), (3, .ref (a 42)), (2, .ref (a 25)), (1, .ref (a 0)), (0, .ref b)]) hx hb de_L_law_524 hl (by decide) rfl (fun ls hl => ?_)
  exact lz_end (k := k) (r := lr_rewrite r u) E hl hP hD hS e1 e2 hf de_L_law_526 de_L_law_527 de_L_law_530 de_L_law_532 de_L_law_537 de_L_law_539 de_L_law_542 de_L_law_543 de_L_law_544 de_L_law_545 de_L_law_547 de_L_law_548 de_L_law_549 de_L_law_554 (by decide) (fun H locs hP hD hS => kk _ H locs ls e3 ⟨lv_sub hl [2, 3, 4, 5, 6] rfl, hP, hD, hS⟩)

set_option maxHeartbeats 4000000 in
set_option maxRecDepth 100000 in
theorem lz_t_code {kv : Int32} (E : lz_E p l s m args c dC dI cI cZ cL b L xs) (I : lz_I s dC dI cI cZ cL a b i H locs ls k r) (hi : i + 6 ≤ L) (hf : cells + 0 ≤ room_1.cells ∧ slots + 0 ≤ room_1.slots) (hR : lz_R k0 r) (hk : ∀ (v9 : Int32) (u : Int32), lm_code k0 r (xs (i + 1)) (xs (i + 2)) (xs (i + 3)) v9 u → (lr_code r u).fa = kv ∧ (kv = 0 → k.Ou 0 = v9.toInt64) ∧ lz_R k (lr_code r u))
    (kk : ∀ (r9 : lz_M) (H : Heap) (locs : List Loc) (ls : Array Slot), lz_R k r9 → lz_I s dC dI cI cZ cL a b i H locs ls k r9 → W p l e room_1 s m args below meth c H locs cells slots Q (F0 m 969 ls [])) : W p l e room_1 s m args below meth c H locs cells slots Q (F0 m 580 ls [.int kv]) := by
  have F3 := E.1
  have hT9 : bc_T s := E.2.1
  have hl0 : l.stackTraces = false := E.2.2.1
  have hX := E.2.2.2.1
  have hbl := E.2.2.2.2.1
  have hL : L ≤ 3072 := E.2.2.2.2.2
  have F : bc_Fx p m c by_L_law 7 s args "BranchConstantsLaw" (dC, dI) classes [(cI, .int), (cZ, .boolean)] := ⟨F3.1, F3.2.1, F3.2.2.1, F3.2.2.2.1, F3.2.2.2.2.1, F3.2.2.2.2.2.1, va_K.sub F3.2.2.2.2.2.2 [0, 1] rfl⟩
  have hx := F.1
  have hb := F.2.1
  have hK3 := F3.2.2.2.2.2.2
  have hA : ∀ q, s.heap.size ≤ q → lz_A s q := fun _ h => h
  have hA2 : ∀ q, lz_A s q → s.heap.size ≤ q := fun _ h => h
  have hbA : ¬ lz_A s b := Nat.not_le.mpr hbl
  have hl := I.1
  have hP := I.2.1
  have hD := I.2.2.1
  have hS := I.2.2.2
  have hAB := hR.1
  have hMR := hR.2.1
  refine lv_istore (lv' := [(5, .int kv), (4, .int (nI i)), (3, .ref (a 42)), (2, .ref (a 25)), (1, .ref (a 0)), (0, .ref b)]) hx hb de_L_law_580 hl (by decide) rfl (fun ls hl => ?_)
  refine lv_aload_n hx hb de_L_law_582 rfl (lv_at hl 3 rfl) ?_
  refine lz_arg (k := 1) hx hb hX hbl hbA hS (lv_at hl 5 rfl) (lv_at hl 1 rfl) (by decide +kernel) (by omega) hL de_L_law_583 de_L_law_584 de_L_law_586 de_L_law_587 de_L_law_588 ?_
  refine lz_arg (k := 2) hx hb hX hbl hbA hS (lv_at hl 5 rfl) (lv_at hl 1 rfl) (by decide +kernel) (by omega) hL de_L_law_589 de_L_law_590 de_L_law_592 de_L_law_593 de_L_law_594 ?_
  refine lz_arg (k := 3) hx hb hX hbl hbA hS (lv_at hl 5 rfl) (lv_at hl 1 rfl) (by decide +kernel) (by omega) hL de_L_law_595 de_L_law_596 de_L_law_598 de_L_law_599 de_L_law_600 ?_
  refine bc_call_v_i (As := [.int (xs (i + 1)), .int (xs (i + 2)), .int (xs (i + 3))]) (rest := []) (wr := [(a 0, .inr (4, [.ref (a 1), .ref (a 6), .ref (a 11), .ref (a 17), .ref (a 21), .ref (a 23), .int k.an, .int k.ra])), (a 1, .inr (1, [.ref (a 2), .ref (a 3), .ref (a 4), .ref (a 5), .int (nI k.n)])), (a 2, .inl (cI, 40, .inl (k.P 1))), (a 3, .inl (cI, 40, .inl (k.P 2))), (a 4, .inl (cI, 40, .inl (k.P 3))), (a 5, .inl (cI, 40, .inl (k.P 4))), (a 6, .inr (1, [.ref (a 7), .ref (a 8), .ref (a 9), .ref (a 10), .int (nI k.n2)])), (a 7, .inl (cI, 40, .inl (k.Q 1))), (a 8, .inl (cI, 40, .inl (k.Q 2))), (a 9, .inl (cI, 40, .inl (k.Q 3))), (a 10, .inl (cI, 40, .inl (k.Q 4))), (a 11, .inr (0, [.ref (a 12), .ref (a 13), .ref (a 14), .ref (a 15), .ref (a 16), .int k.res])), (a 12, .inl (cI, 240, .inl k.S)), (a 13, .inl (cI, 240, .inl k.C)), (a 14, .inl (cZ, 40, .inl k.Wt)), (a 15, .inl (cI, 6, .inl k.SB)), (a 16, .inl (cI, 6, .inl k.CB)), (a 17, .inr (3, [.ref (a 18), .ref (a 19), .ref (a 20), .int (nI k.cq)])), (a 18, .inl (cZ, 40, .inl k.B)), (a 19, .inl (cI, 40, .inl k.U)), (a 20, .inl (cI, 41, .inl k.Nn)), (a 21, .inr (2, [.ref (a 22), .int k.pl0, .int k.sp0, .int k.on0])), (a 22, .inl (cI, 6, .inl k.X0)), (a 23, .inr (2, [.ref (a 24), .int k.pl1, .int k.sp1, .int k.on1])), (a 24, .inl (cI, 6, .inl k.X1)), (a 31, .inl (cZ, 40, .inl r.Re)), (a 32, .inl (cI, 240, .inl r.Fa)), (a 33, .inl (cI, 240, .inl r.Va)), (a 34, .inl (cI, 6, .inl r.Nf)), (a 35, .inl (cI, 6, .inl r.Nv)), (a 36, .inl (cZ, 41, .inl r.St)), (a 37, .inl (cI, 40, .inl r.Ld)), (a 38, .inl (cZ, 2, .inl r.On)), (a 39, .inl (cI, 2, .inl r.Pl)), (a 40, .inl (cI, 2, .inl r.Sp)), (a 41, .inl (cI, 12, .inl r.Vr)), (a 42, .inl (cL, 1, .inr (.inl k.Ou)))]) F (co_M_code hAB hMR) wm_558 wm_6 wm_555 wm_556 wm_557 25 rfl rfl pd_M_code rfl rfl ⟨Nat.le_of_ble_eq_true rfl, Nat.le_of_ble_eq_true rfl⟩ hP hD hS hA [25, 26, 27, 28, 29, 30] [0, 1, 2, 3, 4, 5, 6, 7, 8, 9, 10, 11, 12, 13, 14, 15, 16, 17, 18, 19, 20, 21, 22, 23, 24, 31, 32, 33, 34, 35, 36, 37, 38, 39, 40, 41, 42] rfl rfl rfl rfl (by decide) rfl hl.1 rfl (Nat.le_of_ble_eq_true rfl) de_L_law_601 hf (fun v9 u H locs hw hP hD hS => ?_)
  have hP : va_P (dC, dI) classes (lz_ws a cI cZ cL k (lr_code r u)) H := hP.sub [0, 1, 2, 3, 4, 5, 6, 7, 8, 9, 10, 11, 12, 13, 14, 15, 16, 17, 18, 19, 20, 21, 22, 23, 24, 37, 38, 39, 40, 41, 42, 25, 26, 27, 28, 29, 30, 31, 32, 33, 34, 35, 36] rfl
  have hD : va_D (lz_A s) (lz_ws a cI cZ cL k (lr_code r u)) := hD.sub [0, 1, 2, 3, 4, 5, 6, 7, 8, 9, 10, 11, 12, 13, 14, 15, 16, 17, 18, 19, 20, 21, 22, 23, 24, 37, 38, 39, 40, 41, 42, 25, 26, 27, 28, 29, 30, 31, 32, 33, 34, 35, 36] (by decide) rfl
  obtain ⟨e1, e2, e3⟩ := hk v9 u hw
  refine lv_istore (lv' := [(6, .int v9), (5, .int kv), (4, .int (nI i)), (3, .ref (a 42)), (2, .ref (a 25)), (1, .ref (a 0)), (0, .ref b)]) hx hb de_L_law_604 hl (by decide) rfl (fun ls hl => ?_)
  exact lz_end (k := k) (r := lr_code r u) E hl hP hD hS e1 e2 hf de_L_law_606 de_L_law_607 de_L_law_610 de_L_law_612 de_L_law_617 de_L_law_619 de_L_law_622 de_L_law_623 de_L_law_624 de_L_law_625 de_L_law_627 de_L_law_628 de_L_law_629 de_L_law_634 (by decide) (fun H locs hP hD hS => kk _ H locs ls e3 ⟨lv_sub hl [2, 3, 4, 5, 6] rfl, hP, hD, hS⟩)

set_option maxHeartbeats 4000000 in
set_option maxRecDepth 100000 in
theorem lz_t_start {kv : Int32} (E : lz_E p l s m args c dC dI cI cZ cL b L xs) (I : lz_I s dC dI cI cZ cL a b i H locs ls k r) (hi : i + 6 ≤ L) (hf : cells + 0 ≤ room_1.cells ∧ slots + 0 ≤ room_1.slots) (hR : lz_R k0 r) (hk : ∀ (u : Int32 × bc_F × bc_F × bc_F × bc_F), lm_start k0 r (xs (i + 1)) (xs (i + 2)) (xs (i + 3)) (xs (i + 4)) (xs (i + 5)) u → (lr_start r u).fa = kv ∧ lz_R k (lr_start r u))
    (kk : ∀ (r9 : lz_M) (H : Heap) (locs : List Loc) (ls : Array Slot), lz_R k r9 → lz_I s dC dI cI cZ cL a b i H locs ls k r9 → W p l e room_1 s m args below meth c H locs cells slots Q (F0 m 969 ls [])) : W p l e room_1 s m args below meth c H locs cells slots Q (F0 m 671 ls [.int kv]) := by
  have F3 := E.1
  have hT9 : bc_T s := E.2.1
  have hl0 : l.stackTraces = false := E.2.2.1
  have hX := E.2.2.2.1
  have hbl := E.2.2.2.2.1
  have hL : L ≤ 3072 := E.2.2.2.2.2
  have F : bc_Fx p m c by_L_law 7 s args "BranchConstantsLaw" (dC, dI) classes [(cI, .int), (cZ, .boolean)] := ⟨F3.1, F3.2.1, F3.2.2.1, F3.2.2.2.1, F3.2.2.2.2.1, F3.2.2.2.2.2.1, va_K.sub F3.2.2.2.2.2.2 [0, 1] rfl⟩
  have hx := F.1
  have hb := F.2.1
  have hK3 := F3.2.2.2.2.2.2
  have hA : ∀ q, s.heap.size ≤ q → lz_A s q := fun _ h => h
  have hA2 : ∀ q, lz_A s q → s.heap.size ≤ q := fun _ h => h
  have hbA : ¬ lz_A s b := Nat.not_le.mpr hbl
  have hl := I.1
  have hP := I.2.1
  have hD := I.2.2.1
  have hS := I.2.2.2
  have hAB := hR.1
  have hMR := hR.2.1
  refine lv_istore (lv' := [(5, .int kv), (4, .int (nI i)), (3, .ref (a 42)), (2, .ref (a 25)), (1, .ref (a 0)), (0, .ref b)]) hx hb de_L_law_671 hl (by decide) rfl (fun ls hl => ?_)
  refine lv_aload_n hx hb de_L_law_673 rfl (lv_at hl 3 rfl) ?_
  refine lz_arg (k := 1) hx hb hX hbl hbA hS (lv_at hl 5 rfl) (lv_at hl 1 rfl) (by decide +kernel) (by omega) hL de_L_law_674 de_L_law_675 de_L_law_677 de_L_law_678 de_L_law_679 ?_
  refine lz_arg (k := 2) hx hb hX hbl hbA hS (lv_at hl 5 rfl) (lv_at hl 1 rfl) (by decide +kernel) (by omega) hL de_L_law_680 de_L_law_681 de_L_law_683 de_L_law_684 de_L_law_685 ?_
  refine lz_arg (k := 3) hx hb hX hbl hbA hS (lv_at hl 5 rfl) (lv_at hl 1 rfl) (by decide +kernel) (by omega) hL de_L_law_686 de_L_law_687 de_L_law_689 de_L_law_690 de_L_law_691 ?_
  refine lz_arg (k := 4) hx hb hX hbl hbA hS (lv_at hl 5 rfl) (lv_at hl 1 rfl) (by decide +kernel) (by omega) hL de_L_law_692 de_L_law_693 de_L_law_695 de_L_law_696 de_L_law_697 ?_
  refine lz_arg (k := 5) hx hb hX hbl hbA hS (lv_at hl 5 rfl) (lv_at hl 1 rfl) (by decide +kernel) (by omega) hL de_L_law_698 de_L_law_699 de_L_law_701 de_L_law_702 de_L_law_703 ?_
  refine bc_call_v_v (As := [.int (xs (i + 1)), .int (xs (i + 2)), .int (xs (i + 3)), .int (xs (i + 4)), .int (xs (i + 5))]) (rest := []) (wr := [(a 0, .inr (4, [.ref (a 1), .ref (a 6), .ref (a 11), .ref (a 17), .ref (a 21), .ref (a 23), .int k.an, .int k.ra])), (a 1, .inr (1, [.ref (a 2), .ref (a 3), .ref (a 4), .ref (a 5), .int (nI k.n)])), (a 2, .inl (cI, 40, .inl (k.P 1))), (a 3, .inl (cI, 40, .inl (k.P 2))), (a 4, .inl (cI, 40, .inl (k.P 3))), (a 5, .inl (cI, 40, .inl (k.P 4))), (a 6, .inr (1, [.ref (a 7), .ref (a 8), .ref (a 9), .ref (a 10), .int (nI k.n2)])), (a 7, .inl (cI, 40, .inl (k.Q 1))), (a 8, .inl (cI, 40, .inl (k.Q 2))), (a 9, .inl (cI, 40, .inl (k.Q 3))), (a 10, .inl (cI, 40, .inl (k.Q 4))), (a 11, .inr (0, [.ref (a 12), .ref (a 13), .ref (a 14), .ref (a 15), .ref (a 16), .int k.res])), (a 12, .inl (cI, 240, .inl k.S)), (a 13, .inl (cI, 240, .inl k.C)), (a 14, .inl (cZ, 40, .inl k.Wt)), (a 15, .inl (cI, 6, .inl k.SB)), (a 16, .inl (cI, 6, .inl k.CB)), (a 17, .inr (3, [.ref (a 18), .ref (a 19), .ref (a 20), .int (nI k.cq)])), (a 18, .inl (cZ, 40, .inl k.B)), (a 19, .inl (cI, 40, .inl k.U)), (a 20, .inl (cI, 41, .inl k.Nn)), (a 21, .inr (2, [.ref (a 22), .int k.pl0, .int k.sp0, .int k.on0])), (a 22, .inl (cI, 6, .inl k.X0)), (a 23, .inr (2, [.ref (a 24), .int k.pl1, .int k.sp1, .int k.on1])), (a 24, .inl (cI, 6, .inl k.X1)), (a 26, .inl (cI, 80, .inl r.K)), (a 27, .inl (cI, 80, .inl r.O)), (a 28, .inl (cI, 80, .inl r.T)), (a 29, .inl (cI, 80, .inl r.Z)), (a 31, .inl (cZ, 40, .inl r.Re)), (a 32, .inl (cI, 240, .inl r.Fa)), (a 33, .inl (cI, 240, .inl r.Va)), (a 34, .inl (cI, 6, .inl r.Nf)), (a 35, .inl (cI, 6, .inl r.Nv)), (a 36, .inl (cZ, 41, .inl r.St)), (a 37, .inl (cI, 40, .inl r.Ld)), (a 42, .inl (cL, 1, .inr (.inl k.Ou)))]) F (co_M_start hAB hMR) wm_562 wm_6 wm_559 wm_560 wm_561 25 rfl rfl pd_M_start rfl rfl ⟨Nat.le_of_ble_eq_true rfl, Nat.le_of_ble_eq_true rfl⟩ hP hD hS hA [25, 30, 38, 39, 40, 41] [0, 1, 2, 3, 4, 5, 6, 7, 8, 9, 10, 11, 12, 13, 14, 15, 16, 17, 18, 19, 20, 21, 22, 23, 24, 26, 27, 28, 29, 31, 32, 33, 34, 35, 36, 37, 42] rfl rfl rfl rfl (by decide) rfl hl.1 rfl (Nat.le_of_ble_eq_true rfl) de_L_law_704 hf (fun u H locs hw hP hD hS => ?_)
  have hP : va_P (dC, dI) classes (lz_ws a cI cZ cL k (lr_start r u)) H := hP.sub [0, 1, 2, 3, 4, 5, 6, 7, 8, 9, 10, 11, 12, 13, 14, 15, 16, 17, 18, 19, 20, 21, 22, 23, 24, 37, 25, 26, 27, 28, 38, 29, 30, 31, 32, 33, 34, 35, 39, 40, 41, 42, 36] rfl
  have hD : va_D (lz_A s) (lz_ws a cI cZ cL k (lr_start r u)) := hD.sub [0, 1, 2, 3, 4, 5, 6, 7, 8, 9, 10, 11, 12, 13, 14, 15, 16, 17, 18, 19, 20, 21, 22, 23, 24, 37, 25, 26, 27, 28, 38, 29, 30, 31, 32, 33, 34, 35, 39, 40, 41, 42, 36] (by decide) rfl
  obtain ⟨e1, e3⟩ := hk u hw
  exact lz_end0 (k := k) (r := lr_start r u) E hl hP hD hS e1 hf de_L_law_707 de_L_law_708 de_L_law_711 de_L_law_713 de_L_law_718 (by decide) (fun H locs hP hD hS => kk _ H locs ls e3 ⟨lv_sub hl [1, 2, 3, 4, 5] rfl, hP, hD, hS⟩)

set_option maxHeartbeats 4000000 in
set_option maxRecDepth 100000 in
theorem lz_t_run {kv : Int32} (E : lz_E p l s m args c dC dI cI cZ cL b L xs) (I : lz_I s dC dI cI cZ cL a b i H locs ls k r) (hi : i + 6 ≤ L) (hf : cells + 0 ≤ room_1.cells ∧ slots + 0 ≤ room_1.slots) (hR : lz_R k0 r) (hk : ∀ (v9 : Int32) (u : Int32 × bc_F × bc_F × bc_F), lm_run k0 r (xs (i + 1)) (xs (i + 2)) v9 u → (lr_run r u).fa = kv ∧ (kv = 0 → k.Ou 0 = v9.toInt64) ∧ lz_R k (lr_run r u))
    (kk : ∀ (r9 : lz_M) (H : Heap) (locs : List Loc) (ls : Array Slot), lz_R k r9 → lz_I s dC dI cI cZ cL a b i H locs ls k r9 → W p l e room_1 s m args below meth c H locs cells slots Q (F0 m 969 ls [])) : W p l e room_1 s m args below meth c H locs cells slots Q (F0 m 738 ls [.int kv]) := by
  have F3 := E.1
  have hT9 : bc_T s := E.2.1
  have hl0 : l.stackTraces = false := E.2.2.1
  have hX := E.2.2.2.1
  have hbl := E.2.2.2.2.1
  have hL : L ≤ 3072 := E.2.2.2.2.2
  have F : bc_Fx p m c by_L_law 7 s args "BranchConstantsLaw" (dC, dI) classes [(cI, .int), (cZ, .boolean)] := ⟨F3.1, F3.2.1, F3.2.2.1, F3.2.2.2.1, F3.2.2.2.2.1, F3.2.2.2.2.2.1, va_K.sub F3.2.2.2.2.2.2 [0, 1] rfl⟩
  have hx := F.1
  have hb := F.2.1
  have hK3 := F3.2.2.2.2.2.2
  have hA : ∀ q, s.heap.size ≤ q → lz_A s q := fun _ h => h
  have hA2 : ∀ q, lz_A s q → s.heap.size ≤ q := fun _ h => h
  have hbA : ¬ lz_A s b := Nat.not_le.mpr hbl
  have hl := I.1
  have hP := I.2.1
  have hD := I.2.2.1
  have hS := I.2.2.2
  have hAB := hR.1
  have hMR := hR.2.1
  refine lv_istore (lv' := [(5, .int kv), (4, .int (nI i)), (3, .ref (a 42)), (2, .ref (a 25)), (1, .ref (a 0)), (0, .ref b)]) hx hb de_L_law_738 hl (by decide) rfl (fun ls hl => ?_)
  refine lv_aload_n hx hb de_L_law_740 rfl (lv_at hl 3 rfl) ?_
  refine lz_arg (k := 1) hx hb hX hbl hbA hS (lv_at hl 5 rfl) (lv_at hl 1 rfl) (by decide +kernel) (by omega) hL de_L_law_741 de_L_law_742 de_L_law_744 de_L_law_745 de_L_law_746 ?_
  refine lz_arg (k := 2) hx hb hX hbl hbA hS (lv_at hl 5 rfl) (lv_at hl 1 rfl) (by decide +kernel) (by omega) hL de_L_law_747 de_L_law_748 de_L_law_750 de_L_law_751 de_L_law_752 ?_
  refine bc_call_v_i (As := [.int (xs (i + 1)), .int (xs (i + 2))]) (rest := []) (wr := [(a 0, .inr (4, [.ref (a 1), .ref (a 6), .ref (a 11), .ref (a 17), .ref (a 21), .ref (a 23), .int k.an, .int k.ra])), (a 1, .inr (1, [.ref (a 2), .ref (a 3), .ref (a 4), .ref (a 5), .int (nI k.n)])), (a 2, .inl (cI, 40, .inl (k.P 1))), (a 3, .inl (cI, 40, .inl (k.P 2))), (a 4, .inl (cI, 40, .inl (k.P 3))), (a 5, .inl (cI, 40, .inl (k.P 4))), (a 6, .inr (1, [.ref (a 7), .ref (a 8), .ref (a 9), .ref (a 10), .int (nI k.n2)])), (a 7, .inl (cI, 40, .inl (k.Q 1))), (a 8, .inl (cI, 40, .inl (k.Q 2))), (a 9, .inl (cI, 40, .inl (k.Q 3))), (a 10, .inl (cI, 40, .inl (k.Q 4))), (a 11, .inr (0, [.ref (a 12), .ref (a 13), .ref (a 14), .ref (a 15), .ref (a 16), .int k.res])), (a 12, .inl (cI, 240, .inl k.S)), (a 13, .inl (cI, 240, .inl k.C)), (a 14, .inl (cZ, 40, .inl k.Wt)), (a 15, .inl (cI, 6, .inl k.SB)), (a 16, .inl (cI, 6, .inl k.CB)), (a 17, .inr (3, [.ref (a 18), .ref (a 19), .ref (a 20), .int (nI k.cq)])), (a 18, .inl (cZ, 40, .inl k.B)), (a 19, .inl (cI, 40, .inl k.U)), (a 20, .inl (cI, 41, .inl k.Nn)), (a 21, .inr (2, [.ref (a 22), .int k.pl0, .int k.sp0, .int k.on0])), (a 22, .inl (cI, 6, .inl k.X0)), (a 23, .inr (2, [.ref (a 24), .int k.pl1, .int k.sp1, .int k.on1])), (a 24, .inl (cI, 6, .inl k.X1)), (a 31, .inl (cZ, 40, .inl r.Re)), (a 32, .inl (cI, 240, .inl r.Fa)), (a 33, .inl (cI, 240, .inl r.Va)), (a 34, .inl (cI, 6, .inl r.Nf)), (a 35, .inl (cI, 6, .inl r.Nv)), (a 36, .inl (cZ, 41, .inl r.St)), (a 37, .inl (cI, 40, .inl r.Ld)), (a 42, .inl (cL, 1, .inr (.inl k.Ou)))]) F (co_M_run hAB hMR) wm_569 wm_6 wm_566 wm_567 wm_568 25 rfl rfl pd_M_run rfl rfl ⟨Nat.le_of_ble_eq_true rfl, Nat.le_of_ble_eq_true rfl⟩ hP hD hS hA [25, 26, 27, 28, 29, 30, 38, 39, 40, 41] [0, 1, 2, 3, 4, 5, 6, 7, 8, 9, 10, 11, 12, 13, 14, 15, 16, 17, 18, 19, 20, 21, 22, 23, 24, 31, 32, 33, 34, 35, 36, 37, 42] rfl rfl rfl rfl (by decide) rfl hl.1 rfl (Nat.le_of_ble_eq_true rfl) de_L_law_753 hf (fun v9 u H locs hw hP hD hS => ?_)
  have hP : va_P (dC, dI) classes (lz_ws a cI cZ cL k (lr_run r u)) H := hP.sub [0, 1, 2, 3, 4, 5, 6, 7, 8, 9, 10, 11, 12, 13, 14, 15, 16, 17, 18, 19, 20, 21, 22, 23, 24, 33, 34, 35, 36, 37, 38, 25, 26, 27, 28, 29, 30, 31, 39, 40, 41, 42, 32] rfl
  have hD : va_D (lz_A s) (lz_ws a cI cZ cL k (lr_run r u)) := hD.sub [0, 1, 2, 3, 4, 5, 6, 7, 8, 9, 10, 11, 12, 13, 14, 15, 16, 17, 18, 19, 20, 21, 22, 23, 24, 33, 34, 35, 36, 37, 38, 25, 26, 27, 28, 29, 30, 31, 39, 40, 41, 42, 32] (by decide) rfl
  obtain ⟨e1, e2, e3⟩ := hk v9 u hw
  refine lv_istore (lv' := [(6, .int v9), (5, .int kv), (4, .int (nI i)), (3, .ref (a 42)), (2, .ref (a 25)), (1, .ref (a 0)), (0, .ref b)]) hx hb de_L_law_756 hl (by decide) rfl (fun ls hl => ?_)
  exact lz_end (k := k) (r := lr_run r u) E hl hP hD hS e1 e2 hf de_L_law_758 de_L_law_759 de_L_law_762 de_L_law_764 de_L_law_769 de_L_law_771 de_L_law_774 de_L_law_775 de_L_law_776 de_L_law_777 de_L_law_779 de_L_law_780 de_L_law_781 de_L_law_786 (by decide) (fun H locs hP hD hS => kk _ H locs ls e3 ⟨lv_sub hl [2, 3, 4, 5, 6] rfl, hP, hD, hS⟩)

set_option maxHeartbeats 4000000 in
set_option maxRecDepth 100000 in
theorem lz_t_place {kv : Int32} (E : lz_E p l s m args c dC dI cI cZ cL b L xs) (I : lz_I s dC dI cI cZ cL a b i H locs ls k r) (hi : i + 6 ≤ L) (hf : cells + 0 ≤ room_1.cells ∧ slots + 0 ≤ room_1.slots) (hR : lz_R k0 r) (hk : ∀ (v9 : Int32) (u : Int32), lm_place k0 r (xs (i + 1)) v9 u → (lr_place r u).fa = kv ∧ (kv = 0 → k.Ou 0 = v9.toInt64) ∧ lz_R k (lr_place r u))
    (kk : ∀ (r9 : lz_M) (H : Heap) (locs : List Loc) (ls : Array Slot), lz_R k r9 → lz_I s dC dI cI cZ cL a b i H locs ls k r9 → W p l e room_1 s m args below meth c H locs cells slots Q (F0 m 969 ls [])) : W p l e room_1 s m args below meth c H locs cells slots Q (F0 m 800 ls [.int kv]) := by
  have F3 := E.1
  have hT9 : bc_T s := E.2.1
  have hl0 : l.stackTraces = false := E.2.2.1
  have hX := E.2.2.2.1
  have hbl := E.2.2.2.2.1
  have hL : L ≤ 3072 := E.2.2.2.2.2
  have F : bc_Fx p m c by_L_law 7 s args "BranchConstantsLaw" (dC, dI) classes [(cI, .int), (cZ, .boolean)] := ⟨F3.1, F3.2.1, F3.2.2.1, F3.2.2.2.1, F3.2.2.2.2.1, F3.2.2.2.2.2.1, va_K.sub F3.2.2.2.2.2.2 [0, 1] rfl⟩
  have hx := F.1
  have hb := F.2.1
  have hK3 := F3.2.2.2.2.2.2
  have hA : ∀ q, s.heap.size ≤ q → lz_A s q := fun _ h => h
  have hA2 : ∀ q, lz_A s q → s.heap.size ≤ q := fun _ h => h
  have hbA : ¬ lz_A s b := Nat.not_le.mpr hbl
  have hl := I.1
  have hP := I.2.1
  have hD := I.2.2.1
  have hS := I.2.2.2
  have hAB := hR.1
  have hMR := hR.2.1
  refine lv_istore (lv' := [(5, .int kv), (4, .int (nI i)), (3, .ref (a 42)), (2, .ref (a 25)), (1, .ref (a 0)), (0, .ref b)]) hx hb de_L_law_800 hl (by decide) rfl (fun ls hl => ?_)
  refine lv_aload_n hx hb de_L_law_802 rfl (lv_at hl 3 rfl) ?_
  refine lz_arg (k := 1) hx hb hX hbl hbA hS (lv_at hl 5 rfl) (lv_at hl 1 rfl) (by decide +kernel) (by omega) hL de_L_law_803 de_L_law_804 de_L_law_806 de_L_law_807 de_L_law_808 ?_
  refine bc_call_v_i (As := [.int (xs (i + 1))]) (rest := []) (wr := [(a 0, .inr (4, [.ref (a 1), .ref (a 6), .ref (a 11), .ref (a 17), .ref (a 21), .ref (a 23), .int k.an, .int k.ra])), (a 1, .inr (1, [.ref (a 2), .ref (a 3), .ref (a 4), .ref (a 5), .int (nI k.n)])), (a 2, .inl (cI, 40, .inl (k.P 1))), (a 3, .inl (cI, 40, .inl (k.P 2))), (a 4, .inl (cI, 40, .inl (k.P 3))), (a 5, .inl (cI, 40, .inl (k.P 4))), (a 6, .inr (1, [.ref (a 7), .ref (a 8), .ref (a 9), .ref (a 10), .int (nI k.n2)])), (a 7, .inl (cI, 40, .inl (k.Q 1))), (a 8, .inl (cI, 40, .inl (k.Q 2))), (a 9, .inl (cI, 40, .inl (k.Q 3))), (a 10, .inl (cI, 40, .inl (k.Q 4))), (a 11, .inr (0, [.ref (a 12), .ref (a 13), .ref (a 14), .ref (a 15), .ref (a 16), .int k.res])), (a 12, .inl (cI, 240, .inl k.S)), (a 13, .inl (cI, 240, .inl k.C)), (a 14, .inl (cZ, 40, .inl k.Wt)), (a 15, .inl (cI, 6, .inl k.SB)), (a 16, .inl (cI, 6, .inl k.CB)), (a 17, .inr (3, [.ref (a 18), .ref (a 19), .ref (a 20), .int (nI k.cq)])), (a 18, .inl (cZ, 40, .inl k.B)), (a 19, .inl (cI, 40, .inl k.U)), (a 20, .inl (cI, 41, .inl k.Nn)), (a 21, .inr (2, [.ref (a 22), .int k.pl0, .int k.sp0, .int k.on0])), (a 22, .inl (cI, 6, .inl k.X0)), (a 23, .inr (2, [.ref (a 24), .int k.pl1, .int k.sp1, .int k.on1])), (a 24, .inl (cI, 6, .inl k.X1)), (a 26, .inl (cI, 80, .inl r.K)), (a 27, .inl (cI, 80, .inl r.O)), (a 28, .inl (cI, 80, .inl r.T)), (a 29, .inl (cI, 80, .inl r.Z)), (a 30, .inl (cI, 2, .inl r.Sz)), (a 31, .inl (cZ, 40, .inl r.Re)), (a 32, .inl (cI, 240, .inl r.Fa)), (a 33, .inl (cI, 240, .inl r.Va)), (a 34, .inl (cI, 6, .inl r.Nf)), (a 35, .inl (cI, 6, .inl r.Nv)), (a 36, .inl (cZ, 41, .inl r.St)), (a 37, .inl (cI, 40, .inl r.Ld)), (a 40, .inl (cI, 2, .inl r.Sp)), (a 41, .inl (cI, 12, .inl r.Vr)), (a 42, .inl (cL, 1, .inr (.inl k.Ou)))]) F (co_M_place hAB hMR) wm_576 wm_6 wm_573 wm_574 wm_575 25 rfl rfl pd_M_place rfl rfl ⟨Nat.le_of_ble_eq_true rfl, Nat.le_of_ble_eq_true rfl⟩ hP hD hS hA [25, 38, 39] [0, 1, 2, 3, 4, 5, 6, 7, 8, 9, 10, 11, 12, 13, 14, 15, 16, 17, 18, 19, 20, 21, 22, 23, 24, 26, 27, 28, 29, 30, 31, 32, 33, 34, 35, 36, 37, 40, 41, 42] rfl rfl rfl rfl (by decide) rfl hl.1 rfl (Nat.le_of_ble_eq_true rfl) de_L_law_809 hf (fun v9 u H locs hw hP hD hS => ?_)
  have hP : va_P (dC, dI) classes (lz_ws a cI cZ cL k (lr_place r u)) H := hP.sub [0, 1, 2, 3, 4, 5, 6, 7, 8, 9, 10, 11, 12, 13, 14, 15, 16, 17, 18, 19, 20, 21, 22, 23, 24, 40, 25, 26, 27, 28, 29, 30, 31, 32, 33, 34, 35, 36, 41, 42, 37, 38, 39] rfl
  have hD : va_D (lz_A s) (lz_ws a cI cZ cL k (lr_place r u)) := hD.sub [0, 1, 2, 3, 4, 5, 6, 7, 8, 9, 10, 11, 12, 13, 14, 15, 16, 17, 18, 19, 20, 21, 22, 23, 24, 40, 25, 26, 27, 28, 29, 30, 31, 32, 33, 34, 35, 36, 41, 42, 37, 38, 39] (by decide) rfl
  obtain ⟨e1, e2, e3⟩ := hk v9 u hw
  refine lv_istore (lv' := [(6, .int v9), (5, .int kv), (4, .int (nI i)), (3, .ref (a 42)), (2, .ref (a 25)), (1, .ref (a 0)), (0, .ref b)]) hx hb de_L_law_812 hl (by decide) rfl (fun ls hl => ?_)
  exact lz_end (k := k) (r := lr_place r u) E hl hP hD hS e1 e2 hf de_L_law_814 de_L_law_815 de_L_law_818 de_L_law_820 de_L_law_825 de_L_law_827 de_L_law_830 de_L_law_831 de_L_law_832 de_L_law_833 de_L_law_835 de_L_law_836 de_L_law_837 de_L_law_842 (by decide) (fun H locs hP hD hS => kk _ H locs ls e3 ⟨lv_sub hl [2, 3, 4, 5, 6] rfl, hP, hD, hS⟩)

set_option maxHeartbeats 4000000 in
set_option maxRecDepth 100000 in
theorem lz_t_value {kv : Int32} (E : lz_E p l s m args c dC dI cI cZ cL b L xs) (I : lz_I s dC dI cI cZ cL a b i H locs ls k r) (hi : i + 6 ≤ L) (hf : cells + 0 ≤ room_1.cells ∧ slots + 0 ≤ room_1.slots) (hR : lz_R k0 r) (hk : ∀ (v9 : Int32) (u : Int32), lm_value k0 r (xs (i + 1)) (xs (i + 2)) v9 u → (lr_value r u).fa = kv ∧ (kv = 0 → k.Ou 0 = v9.toInt64) ∧ lz_R k (lr_value r u))
    (kk : ∀ (r9 : lz_M) (H : Heap) (locs : List Loc) (ls : Array Slot), lz_R k r9 → lz_I s dC dI cI cZ cL a b i H locs ls k r9 → W p l e room_1 s m args below meth c H locs cells slots Q (F0 m 969 ls [])) : W p l e room_1 s m args below meth c H locs cells slots Q (F0 m 862 ls [.int kv]) := by
  have F3 := E.1
  have hT9 : bc_T s := E.2.1
  have hl0 : l.stackTraces = false := E.2.2.1
  have hX := E.2.2.2.1
  have hbl := E.2.2.2.2.1
  have hL : L ≤ 3072 := E.2.2.2.2.2
  have F : bc_Fx p m c by_L_law 7 s args "BranchConstantsLaw" (dC, dI) classes [(cI, .int), (cZ, .boolean)] := ⟨F3.1, F3.2.1, F3.2.2.1, F3.2.2.2.1, F3.2.2.2.2.1, F3.2.2.2.2.2.1, va_K.sub F3.2.2.2.2.2.2 [0, 1] rfl⟩
  have hx := F.1
  have hb := F.2.1
  have hK3 := F3.2.2.2.2.2.2
  have hA : ∀ q, s.heap.size ≤ q → lz_A s q := fun _ h => h
  have hA2 : ∀ q, lz_A s q → s.heap.size ≤ q := fun _ h => h
  have hbA : ¬ lz_A s b := Nat.not_le.mpr hbl
  have hl := I.1
  have hP := I.2.1
  have hD := I.2.2.1
  have hS := I.2.2.2
  have hAB := hR.1
  have hMR := hR.2.1
  refine lv_istore (lv' := [(5, .int kv), (4, .int (nI i)), (3, .ref (a 42)), (2, .ref (a 25)), (1, .ref (a 0)), (0, .ref b)]) hx hb de_L_law_862 hl (by decide) rfl (fun ls hl => ?_)
  refine lv_aload_n hx hb de_L_law_864 rfl (lv_at hl 3 rfl) ?_
  refine lz_arg (k := 1) hx hb hX hbl hbA hS (lv_at hl 5 rfl) (lv_at hl 1 rfl) (by decide +kernel) (by omega) hL de_L_law_865 de_L_law_866 de_L_law_868 de_L_law_869 de_L_law_870 ?_
  refine lz_arg (k := 2) hx hb hX hbl hbA hS (lv_at hl 5 rfl) (lv_at hl 1 rfl) (by decide +kernel) (by omega) hL de_L_law_871 de_L_law_872 de_L_law_874 de_L_law_875 de_L_law_876 ?_
  refine bc_call_v_i (As := [.int (xs (i + 1)), .int (xs (i + 2))]) (rest := []) (wr := [(a 0, .inr (4, [.ref (a 1), .ref (a 6), .ref (a 11), .ref (a 17), .ref (a 21), .ref (a 23), .int k.an, .int k.ra])), (a 1, .inr (1, [.ref (a 2), .ref (a 3), .ref (a 4), .ref (a 5), .int (nI k.n)])), (a 2, .inl (cI, 40, .inl (k.P 1))), (a 3, .inl (cI, 40, .inl (k.P 2))), (a 4, .inl (cI, 40, .inl (k.P 3))), (a 5, .inl (cI, 40, .inl (k.P 4))), (a 6, .inr (1, [.ref (a 7), .ref (a 8), .ref (a 9), .ref (a 10), .int (nI k.n2)])), (a 7, .inl (cI, 40, .inl (k.Q 1))), (a 8, .inl (cI, 40, .inl (k.Q 2))), (a 9, .inl (cI, 40, .inl (k.Q 3))), (a 10, .inl (cI, 40, .inl (k.Q 4))), (a 11, .inr (0, [.ref (a 12), .ref (a 13), .ref (a 14), .ref (a 15), .ref (a 16), .int k.res])), (a 12, .inl (cI, 240, .inl k.S)), (a 13, .inl (cI, 240, .inl k.C)), (a 14, .inl (cZ, 40, .inl k.Wt)), (a 15, .inl (cI, 6, .inl k.SB)), (a 16, .inl (cI, 6, .inl k.CB)), (a 17, .inr (3, [.ref (a 18), .ref (a 19), .ref (a 20), .int (nI k.cq)])), (a 18, .inl (cZ, 40, .inl k.B)), (a 19, .inl (cI, 40, .inl k.U)), (a 20, .inl (cI, 41, .inl k.Nn)), (a 21, .inr (2, [.ref (a 22), .int k.pl0, .int k.sp0, .int k.on0])), (a 22, .inl (cI, 6, .inl k.X0)), (a 23, .inr (2, [.ref (a 24), .int k.pl1, .int k.sp1, .int k.on1])), (a 24, .inl (cI, 6, .inl k.X1)), (a 26, .inl (cI, 80, .inl r.K)), (a 27, .inl (cI, 80, .inl r.O)), (a 28, .inl (cI, 80, .inl r.T)), (a 29, .inl (cI, 80, .inl r.Z)), (a 30, .inl (cI, 2, .inl r.Sz)), (a 31, .inl (cZ, 40, .inl r.Re)), (a 32, .inl (cI, 240, .inl r.Fa)), (a 33, .inl (cI, 240, .inl r.Va)), (a 34, .inl (cI, 6, .inl r.Nf)), (a 35, .inl (cI, 6, .inl r.Nv)), (a 36, .inl (cZ, 41, .inl r.St)), (a 37, .inl (cI, 40, .inl r.Ld)), (a 39, .inl (cI, 2, .inl r.Pl)), (a 40, .inl (cI, 2, .inl r.Sp)), (a 42, .inl (cL, 1, .inr (.inl k.Ou)))]) F (co_M_value hAB hMR) wm_583 wm_6 wm_580 wm_581 wm_582 25 rfl rfl pd_M_value rfl rfl ⟨Nat.le_of_ble_eq_true rfl, Nat.le_of_ble_eq_true rfl⟩ hP hD hS hA [25, 38, 41] [0, 1, 2, 3, 4, 5, 6, 7, 8, 9, 10, 11, 12, 13, 14, 15, 16, 17, 18, 19, 20, 21, 22, 23, 24, 26, 27, 28, 29, 30, 31, 32, 33, 34, 35, 36, 37, 39, 40, 42] rfl rfl rfl rfl (by decide) rfl hl.1 rfl (Nat.le_of_ble_eq_true rfl) de_L_law_877 hf (fun v9 u H locs hw hP hD hS => ?_)
  have hP : va_P (dC, dI) classes (lz_ws a cI cZ cL k (lr_value r u)) H := hP.sub [0, 1, 2, 3, 4, 5, 6, 7, 8, 9, 10, 11, 12, 13, 14, 15, 16, 17, 18, 19, 20, 21, 22, 23, 24, 40, 25, 26, 27, 28, 29, 30, 31, 32, 33, 34, 35, 36, 41, 37, 38, 42, 39] rfl
  have hD : va_D (lz_A s) (lz_ws a cI cZ cL k (lr_value r u)) := hD.sub [0, 1, 2, 3, 4, 5, 6, 7, 8, 9, 10, 11, 12, 13, 14, 15, 16, 17, 18, 19, 20, 21, 22, 23, 24, 40, 25, 26, 27, 28, 29, 30, 31, 32, 33, 34, 35, 36, 41, 37, 38, 42, 39] (by decide) rfl
  obtain ⟨e1, e2, e3⟩ := hk v9 u hw
  refine lv_istore (lv' := [(6, .int v9), (5, .int kv), (4, .int (nI i)), (3, .ref (a 42)), (2, .ref (a 25)), (1, .ref (a 0)), (0, .ref b)]) hx hb de_L_law_880 hl (by decide) rfl (fun ls hl => ?_)
  exact lz_end (k := k) (r := lr_value r u) E hl hP hD hS e1 e2 hf de_L_law_882 de_L_law_883 de_L_law_886 de_L_law_888 de_L_law_893 de_L_law_895 de_L_law_898 de_L_law_899 de_L_law_900 de_L_law_901 de_L_law_903 de_L_law_904 de_L_law_905 de_L_law_910 (by decide) (fun H locs hP hD hS => kk _ H locs ls e3 ⟨lv_sub hl [2, 3, 4, 5, 6] rfl, hP, hD, hS⟩)

set_option maxHeartbeats 4000000 in
set_option maxRecDepth 100000 in
theorem lz_t_steps {kv : Int32} (E : lz_E p l s m args c dC dI cI cZ cL b L xs) (I : lz_I s dC dI cI cZ cL a b i H locs ls k r) (hi : i + 6 ≤ L) (hf : cells + 0 ≤ room_1.cells ∧ slots + 0 ≤ room_1.slots) (hR : lz_R k0 r) (hk : ∀ (v9 : Int32) (u : Int32), lm_steps k0 r (xs (i + 1)) v9 u → (lr_steps r u).fa = kv ∧ (kv = 0 → k.Ou 0 = v9.toInt64) ∧ lz_R k (lr_steps r u))
    (kk : ∀ (r9 : lz_M) (H : Heap) (locs : List Loc) (ls : Array Slot), lz_R k r9 → lz_I s dC dI cI cZ cL a b i H locs ls k r9 → W p l e room_1 s m args below meth c H locs cells slots Q (F0 m 969 ls [])) : W p l e room_1 s m args below meth c H locs cells slots Q (F0 m 924 ls [.int kv]) := by
  have F3 := E.1
  have hT9 : bc_T s := E.2.1
  have hl0 : l.stackTraces = false := E.2.2.1
  have hX := E.2.2.2.1
  have hbl := E.2.2.2.2.1
  have hL : L ≤ 3072 := E.2.2.2.2.2
  have F : bc_Fx p m c by_L_law 7 s args "BranchConstantsLaw" (dC, dI) classes [(cI, .int), (cZ, .boolean)] := ⟨F3.1, F3.2.1, F3.2.2.1, F3.2.2.2.1, F3.2.2.2.2.1, F3.2.2.2.2.2.1, va_K.sub F3.2.2.2.2.2.2 [0, 1] rfl⟩
  have hx := F.1
  have hb := F.2.1
  have hK3 := F3.2.2.2.2.2.2
  have hA : ∀ q, s.heap.size ≤ q → lz_A s q := fun _ h => h
  have hA2 : ∀ q, lz_A s q → s.heap.size ≤ q := fun _ h => h
  have hbA : ¬ lz_A s b := Nat.not_le.mpr hbl
  have hl := I.1
  have hP := I.2.1
  have hD := I.2.2.1
  have hS := I.2.2.2
  have hAB := hR.1
  have hMR := hR.2.1
  refine lv_istore (lv' := [(5, .int kv), (4, .int (nI i)), (3, .ref (a 42)), (2, .ref (a 25)), (1, .ref (a 0)), (0, .ref b)]) hx hb de_L_law_924 hl (by decide) rfl (fun ls hl => ?_)
  refine lv_aload_n hx hb de_L_law_926 rfl (lv_at hl 3 rfl) ?_
  refine lz_arg (k := 1) hx hb hX hbl hbA hS (lv_at hl 5 rfl) (lv_at hl 1 rfl) (by decide +kernel) (by omega) hL de_L_law_927 de_L_law_928 de_L_law_930 de_L_law_931 de_L_law_932 ?_
  refine bc_call_v_i (As := [.int (xs (i + 1))]) (rest := []) (wr := [(a 0, .inr (4, [.ref (a 1), .ref (a 6), .ref (a 11), .ref (a 17), .ref (a 21), .ref (a 23), .int k.an, .int k.ra])), (a 1, .inr (1, [.ref (a 2), .ref (a 3), .ref (a 4), .ref (a 5), .int (nI k.n)])), (a 2, .inl (cI, 40, .inl (k.P 1))), (a 3, .inl (cI, 40, .inl (k.P 2))), (a 4, .inl (cI, 40, .inl (k.P 3))), (a 5, .inl (cI, 40, .inl (k.P 4))), (a 6, .inr (1, [.ref (a 7), .ref (a 8), .ref (a 9), .ref (a 10), .int (nI k.n2)])), (a 7, .inl (cI, 40, .inl (k.Q 1))), (a 8, .inl (cI, 40, .inl (k.Q 2))), (a 9, .inl (cI, 40, .inl (k.Q 3))), (a 10, .inl (cI, 40, .inl (k.Q 4))), (a 11, .inr (0, [.ref (a 12), .ref (a 13), .ref (a 14), .ref (a 15), .ref (a 16), .int k.res])), (a 12, .inl (cI, 240, .inl k.S)), (a 13, .inl (cI, 240, .inl k.C)), (a 14, .inl (cZ, 40, .inl k.Wt)), (a 15, .inl (cI, 6, .inl k.SB)), (a 16, .inl (cI, 6, .inl k.CB)), (a 17, .inr (3, [.ref (a 18), .ref (a 19), .ref (a 20), .int (nI k.cq)])), (a 18, .inl (cZ, 40, .inl k.B)), (a 19, .inl (cI, 40, .inl k.U)), (a 20, .inl (cI, 41, .inl k.Nn)), (a 21, .inr (2, [.ref (a 22), .int k.pl0, .int k.sp0, .int k.on0])), (a 22, .inl (cI, 6, .inl k.X0)), (a 23, .inr (2, [.ref (a 24), .int k.pl1, .int k.sp1, .int k.on1])), (a 24, .inl (cI, 6, .inl k.X1)), (a 26, .inl (cI, 80, .inl r.K)), (a 27, .inl (cI, 80, .inl r.O)), (a 28, .inl (cI, 80, .inl r.T)), (a 29, .inl (cI, 80, .inl r.Z)), (a 30, .inl (cI, 2, .inl r.Sz)), (a 31, .inl (cZ, 40, .inl r.Re)), (a 32, .inl (cI, 240, .inl r.Fa)), (a 33, .inl (cI, 240, .inl r.Va)), (a 34, .inl (cI, 6, .inl r.Nf)), (a 35, .inl (cI, 6, .inl r.Nv)), (a 36, .inl (cZ, 41, .inl r.St)), (a 37, .inl (cI, 40, .inl r.Ld)), (a 39, .inl (cI, 2, .inl r.Pl)), (a 41, .inl (cI, 12, .inl r.Vr)), (a 42, .inl (cL, 1, .inr (.inl k.Ou)))]) F (co_M_steps hAB hMR) wm_587 wm_6 wm_584 wm_585 wm_586 25 rfl rfl pd_M_steps rfl rfl ⟨Nat.le_of_ble_eq_true rfl, Nat.le_of_ble_eq_true rfl⟩ hP hD hS hA [25, 38, 40] [0, 1, 2, 3, 4, 5, 6, 7, 8, 9, 10, 11, 12, 13, 14, 15, 16, 17, 18, 19, 20, 21, 22, 23, 24, 26, 27, 28, 29, 30, 31, 32, 33, 34, 35, 36, 37, 39, 41, 42] rfl rfl rfl rfl (by decide) rfl hl.1 rfl (Nat.le_of_ble_eq_true rfl) de_L_law_933 hf (fun v9 u H locs hw hP hD hS => ?_)
  have hP : va_P (dC, dI) classes (lz_ws a cI cZ cL k (lr_steps r u)) H := hP.sub [0, 1, 2, 3, 4, 5, 6, 7, 8, 9, 10, 11, 12, 13, 14, 15, 16, 17, 18, 19, 20, 21, 22, 23, 24, 40, 25, 26, 27, 28, 29, 30, 31, 32, 33, 34, 35, 36, 41, 37, 42, 38, 39] rfl
  have hD : va_D (lz_A s) (lz_ws a cI cZ cL k (lr_steps r u)) := hD.sub [0, 1, 2, 3, 4, 5, 6, 7, 8, 9, 10, 11, 12, 13, 14, 15, 16, 17, 18, 19, 20, 21, 22, 23, 24, 40, 25, 26, 27, 28, 29, 30, 31, 32, 33, 34, 35, 36, 41, 37, 42, 38, 39] (by decide) rfl
  obtain ⟨e1, e2, e3⟩ := hk v9 u hw
  refine lv_istore (lv' := [(6, .int v9), (5, .int kv), (4, .int (nI i)), (3, .ref (a 42)), (2, .ref (a 25)), (1, .ref (a 0)), (0, .ref b)]) hx hb de_L_law_936 hl (by decide) rfl (fun ls hl => ?_)
  exact lz_end (k := k) (r := lr_steps r u) E hl hP hD hS e1 e2 hf de_L_law_938 de_L_law_939 de_L_law_942 de_L_law_944 de_L_law_949 de_L_law_951 de_L_law_954 de_L_law_955 de_L_law_956 de_L_law_957 de_L_law_959 de_L_law_960 de_L_law_961 de_L_law_966 (by decide) (fun H locs hP hD hS => kk _ H locs ls e3 ⟨lv_sub hl [2, 3, 4, 5, 6] rfl, hP, hD, hS⟩)

end LZ3
