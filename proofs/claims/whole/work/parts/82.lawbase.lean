/-! the law: its state, rows of its own (by program: wip/whole/gen/modLaw.py) -/
abbrev lz_C : Type := Nat × Nat × Nat × (Nat → bc_F) × (Nat → bc_F) × Int32 × Int32 × bc_F × bc_F × bc_F × bc_F × bc_F × Int32 × bc_F × bc_F × bc_F × Int32 × Int32 × Int32 × bc_F × Int32 × Int32 × Int32 × bc_F × (Nat → Int64)
def lz_C.mk (n : Nat) (n2 : Nat) (cq : Nat) (P : Nat → bc_F) (Q : Nat → bc_F) (an : Int32) (ra : Int32) (S : bc_F) (C : bc_F) (Wt : bc_F) (SB : bc_F) (CB : bc_F) (res : Int32) (B : bc_F) (U : bc_F) (Nn : bc_F) (pl0 : Int32) (sp0 : Int32) (on0 : Int32) (X0 : bc_F) (pl1 : Int32) (sp1 : Int32) (on1 : Int32) (X1 : bc_F) (Ou : Nat → Int64) : lz_C := (n, n2, cq, P, Q, an, ra, S, C, Wt, SB, CB, res, B, U, Nn, pl0, sp0, on0, X0, pl1, sp1, on1, X1, Ou)
def lz_C.n (k : lz_C) : Nat := k.1
def lz_C.n2 (k : lz_C) : Nat := k.2.1
def lz_C.cq (k : lz_C) : Nat := k.2.2.1
def lz_C.P (k : lz_C) : Nat → bc_F := k.2.2.2.1
def lz_C.Q (k : lz_C) : Nat → bc_F := k.2.2.2.2.1
def lz_C.an (k : lz_C) : Int32 := k.2.2.2.2.2.1
def lz_C.ra (k : lz_C) : Int32 := k.2.2.2.2.2.2.1
def lz_C.S (k : lz_C) : bc_F := k.2.2.2.2.2.2.2.1
def lz_C.C (k : lz_C) : bc_F := k.2.2.2.2.2.2.2.2.1
def lz_C.Wt (k : lz_C) : bc_F := k.2.2.2.2.2.2.2.2.2.1
def lz_C.SB (k : lz_C) : bc_F := k.2.2.2.2.2.2.2.2.2.2.1
def lz_C.CB (k : lz_C) : bc_F := k.2.2.2.2.2.2.2.2.2.2.2.1
def lz_C.res (k : lz_C) : Int32 := k.2.2.2.2.2.2.2.2.2.2.2.2.1
def lz_C.B (k : lz_C) : bc_F := k.2.2.2.2.2.2.2.2.2.2.2.2.2.1
def lz_C.U (k : lz_C) : bc_F := k.2.2.2.2.2.2.2.2.2.2.2.2.2.2.1
def lz_C.Nn (k : lz_C) : bc_F := k.2.2.2.2.2.2.2.2.2.2.2.2.2.2.2.1
def lz_C.pl0 (k : lz_C) : Int32 := k.2.2.2.2.2.2.2.2.2.2.2.2.2.2.2.2.1
def lz_C.sp0 (k : lz_C) : Int32 := k.2.2.2.2.2.2.2.2.2.2.2.2.2.2.2.2.2.1
def lz_C.on0 (k : lz_C) : Int32 := k.2.2.2.2.2.2.2.2.2.2.2.2.2.2.2.2.2.2.1
def lz_C.X0 (k : lz_C) : bc_F := k.2.2.2.2.2.2.2.2.2.2.2.2.2.2.2.2.2.2.2.1
def lz_C.pl1 (k : lz_C) : Int32 := k.2.2.2.2.2.2.2.2.2.2.2.2.2.2.2.2.2.2.2.2.1
def lz_C.sp1 (k : lz_C) : Int32 := k.2.2.2.2.2.2.2.2.2.2.2.2.2.2.2.2.2.2.2.2.2.1
def lz_C.on1 (k : lz_C) : Int32 := k.2.2.2.2.2.2.2.2.2.2.2.2.2.2.2.2.2.2.2.2.2.2.1
def lz_C.X1 (k : lz_C) : bc_F := k.2.2.2.2.2.2.2.2.2.2.2.2.2.2.2.2.2.2.2.2.2.2.2.1
def lz_C.Ou (k : lz_C) : Nat → Int64 := k.2.2.2.2.2.2.2.2.2.2.2.2.2.2.2.2.2.2.2.2.2.2.2.2
abbrev lz_M : Type := bc_F × bc_F × bc_F × bc_F × bc_F × bc_F × bc_F × bc_F × bc_F × bc_F × bc_F × bc_F × bc_F × bc_F × bc_F × bc_F × Int32 × Int32 × Int32
def lz_M.mk (K : bc_F) (O : bc_F) (T : bc_F) (Z : bc_F) (Sz : bc_F) (Re : bc_F) (Fa : bc_F) (Va : bc_F) (Nf : bc_F) (Nv : bc_F) (St : bc_F) (Ld : bc_F) (On : bc_F) (Pl : bc_F) (Sp : bc_F) (Vr : bc_F) (fa : Int32) (rw : Int32) (gw : Int32) : lz_M := (K, O, T, Z, Sz, Re, Fa, Va, Nf, Nv, St, Ld, On, Pl, Sp, Vr, fa, rw, gw)
def lz_M.K (r : lz_M) : bc_F := r.1
def lz_M.O (r : lz_M) : bc_F := r.2.1
def lz_M.T (r : lz_M) : bc_F := r.2.2.1
def lz_M.Z (r : lz_M) : bc_F := r.2.2.2.1
def lz_M.Sz (r : lz_M) : bc_F := r.2.2.2.2.1
def lz_M.Re (r : lz_M) : bc_F := r.2.2.2.2.2.1
def lz_M.Fa (r : lz_M) : bc_F := r.2.2.2.2.2.2.1
def lz_M.Va (r : lz_M) : bc_F := r.2.2.2.2.2.2.2.1
def lz_M.Nf (r : lz_M) : bc_F := r.2.2.2.2.2.2.2.2.1
def lz_M.Nv (r : lz_M) : bc_F := r.2.2.2.2.2.2.2.2.2.1
def lz_M.St (r : lz_M) : bc_F := r.2.2.2.2.2.2.2.2.2.2.1
def lz_M.Ld (r : lz_M) : bc_F := r.2.2.2.2.2.2.2.2.2.2.2.1
def lz_M.On (r : lz_M) : bc_F := r.2.2.2.2.2.2.2.2.2.2.2.2.1
def lz_M.Pl (r : lz_M) : bc_F := r.2.2.2.2.2.2.2.2.2.2.2.2.2.1
def lz_M.Sp (r : lz_M) : bc_F := r.2.2.2.2.2.2.2.2.2.2.2.2.2.2.1
def lz_M.Vr (r : lz_M) : bc_F := r.2.2.2.2.2.2.2.2.2.2.2.2.2.2.2.1
def lz_M.fa (r : lz_M) : Int32 := r.2.2.2.2.2.2.2.2.2.2.2.2.2.2.2.2.1
def lz_M.rw (r : lz_M) : Int32 := r.2.2.2.2.2.2.2.2.2.2.2.2.2.2.2.2.2.1
def lz_M.gw (r : lz_M) : Int32 := r.2.2.2.2.2.2.2.2.2.2.2.2.2.2.2.2.2.2
def lz_ws (a : Nat → Nat) (cI cZ cL : ClassId) (k : lz_C) (r : lz_M) : va_W := [(a 0, .inr (4, [.ref (a 1), .ref (a 6), .ref (a 11), .ref (a 17), .ref (a 21), .ref (a 23), .int k.an, .int k.ra])), (a 1, .inr (1, [.ref (a 2), .ref (a 3), .ref (a 4), .ref (a 5), .int (nI k.n)])), (a 2, .inl (cI, 40, .inl (k.P 1))), (a 3, .inl (cI, 40, .inl (k.P 2))), (a 4, .inl (cI, 40, .inl (k.P 3))), (a 5, .inl (cI, 40, .inl (k.P 4))), (a 6, .inr (1, [.ref (a 7), .ref (a 8), .ref (a 9), .ref (a 10), .int (nI k.n2)])), (a 7, .inl (cI, 40, .inl (k.Q 1))), (a 8, .inl (cI, 40, .inl (k.Q 2))), (a 9, .inl (cI, 40, .inl (k.Q 3))), (a 10, .inl (cI, 40, .inl (k.Q 4))), (a 11, .inr (0, [.ref (a 12), .ref (a 13), .ref (a 14), .ref (a 15), .ref (a 16), .int k.res])), (a 12, .inl (cI, 240, .inl k.S)), (a 13, .inl (cI, 240, .inl k.C)), (a 14, .inl (cZ, 40, .inl k.Wt)), (a 15, .inl (cI, 6, .inl k.SB)), (a 16, .inl (cI, 6, .inl k.CB)), (a 17, .inr (3, [.ref (a 18), .ref (a 19), .ref (a 20), .int (nI k.cq)])), (a 18, .inl (cZ, 40, .inl k.B)), (a 19, .inl (cI, 40, .inl k.U)), (a 20, .inl (cI, 41, .inl k.Nn)), (a 21, .inr (2, [.ref (a 22), .int k.pl0, .int k.sp0, .int k.on0])), (a 22, .inl (cI, 6, .inl k.X0)), (a 23, .inr (2, [.ref (a 24), .int k.pl1, .int k.sp1, .int k.on1])), (a 24, .inl (cI, 6, .inl k.X1)), (a 25, .inr (5, [.int r.fa, .ref (a 26), .ref (a 27), .ref (a 28), .ref (a 29), .ref (a 30), .int r.rw, .ref (a 31), .ref (a 32), .ref (a 33), .int r.gw, .ref (a 34), .ref (a 35), .ref (a 36), .ref (a 37), .ref (a 38), .ref (a 39), .ref (a 40), .ref (a 41)])), (a 26, .inl (cI, 80, .inl r.K)), (a 27, .inl (cI, 80, .inl r.O)), (a 28, .inl (cI, 80, .inl r.T)), (a 29, .inl (cI, 80, .inl r.Z)), (a 30, .inl (cI, 2, .inl r.Sz)), (a 31, .inl (cZ, 40, .inl r.Re)), (a 32, .inl (cI, 240, .inl r.Fa)), (a 33, .inl (cI, 240, .inl r.Va)), (a 34, .inl (cI, 6, .inl r.Nf)), (a 35, .inl (cI, 6, .inl r.Nv)), (a 36, .inl (cZ, 41, .inl r.St)), (a 37, .inl (cI, 40, .inl r.Ld)), (a 38, .inl (cZ, 2, .inl r.On)), (a 39, .inl (cI, 2, .inl r.Pl)), (a 40, .inl (cI, 2, .inl r.Sp)), (a 41, .inl (cI, 12, .inl r.Vr)), (a 42, .inl (cL, 1, .inr (.inl k.Ou)))]
def lz_R (k : lz_C) (r : lz_M) : Prop := bc_AB k.n k.P k.ra k.n2 k.Q (bc_2 k.on0 k.on1) (bc_2 k.pl0 k.pl1) (bc_2 k.sp0 k.sp1) ∧ bc_MR k.n k.P k.ra k.n2 k.Q (bc_2 k.on0 k.on1) (bc_2 k.pl0 k.pl1) (bc_2 k.sp0 k.sp1) (bc_X2 k.X0 k.X1) r.K r.O r.T r.Z r.Sz r.On r.Pl r.Sp r.Vr r.rw ∧ bc_CI k.an k.n k.P k.S k.C k.Wt
def lz_A (s : State) : Nat → Prop := fun q => s.heap.size ≤ q
def lz_I (s : State) (dC : Nat → ClassId) (dI : Nat → Nat → Nat) (cI cZ cL : ClassId) (a : Nat → Nat) (b i : Nat) (H : Heap) (locs : List Loc) (ls : Array Slot) (k : lz_C) (r : lz_M) : Prop := lv_has ls 7 [(4, .int (nI i)), (3, .ref (a 42)), (2, .ref (a 25)), (1, .ref (a 0)), (0, .ref b)] ∧ va_P (dC, dI) classes (lz_ws a cI cZ cL k r) H ∧ va_D (lz_A s) (lz_ws a cI cZ cL k r) ∧ va_S (lz_A s) s.heap H locs
def lz_E (p : Program) (l : Launch) (s : State) (m : MethodId) (args : Array Value) (c : Code) (dC : Nat → ClassId) (dI : Nat → Nat → Nat) (cI cZ cL : ClassId) (b L : Nat) (xs : Nat → Int32) : Prop := bc_Fx p m c by_L_law 7 s args "BranchConstantsLaw" (dC, dI) classes [(cI, .int), (cZ, .boolean), (cL, .long)] ∧ bc_T s ∧ l.stackTraces = false ∧ va_X b L xs s s.heap ∧ b < s.heap.size ∧ L ≤ 3072
theorem lz_fit1 {cells slots i L : Nat} (h1 : 6 * cells ≤ 258 + i) (h2 : slots ≤ 1994 + i) (h3 : i + 6 ≤ L) (h4 : L ≤ 3072) : cells + 1 ≤ room_1.cells ∧ slots + 6 ≤ room_1.slots := ⟨show cells + 1 ≤ 1077 by omega, show slots + 6 ≤ 10246 by omega⟩
theorem lz_fit0 {cells slots i L : Nat} (h1 : 6 * cells ≤ 258 + i) (h2 : slots ≤ 1994 + i) (h3 : i + 6 ≤ L) (h4 : L ≤ 3072) : cells + 0 ≤ room_1.cells ∧ slots + 0 ≤ room_1.slots := ⟨show cells + 0 ≤ 1077 by omega, show slots + 0 ≤ 10246 by omega⟩
theorem lz_fit2 {cells slots i L : Nat} (h1 : 6 * cells ≤ 258 + i) (h2 : slots ≤ 1994 + i) (h3 : i + 6 ≤ L) (h4 : L ≤ 3072) : cells + 1 + 0 ≤ room_1.cells ∧ slots + 6 + 0 ≤ room_1.slots := ⟨show cells + 1 + 0 ≤ 1077 by omega, show slots + 6 + 0 ≤ 10246 by omega⟩
theorem lz_up {f : Nat → Int64} {x : Int64} : vp_updL f 0 x 0 = x := if_pos rfl
section LZ
variable {p : Program} {l : Launch} {e : Env} {R : Room} {s : State} {m : MethodId} {args : Array Value} {below : List Frame} {meth : Method} {c : Code} {H : Heap} {locs : List Loc} {cells slots : Nat} {Q : State → Prop}
variable {cc : ByteArray} {pc : Nat} {ls : Array Slot} {rest : List Value} {A : Nat → Prop}
theorem lz_arg {b L i k : Nat} {xs : Nat → Int32} {kI : Int} (hx : p.tables.exec = Jvm.exec) (hb : c.code = cc) (hX : va_X b L xs s s.heap) (hbl : b < s.heap.size) (hbA : ¬ A b) (hS : va_S A s.heap H locs) (h0 : ls[0]? = some (.val (.ref b))) (h4 : ls[4]? = some (.val (.int (nI i)))) (hk : Int32.ofInt kI = nI k) (hi : i + k < L) (hL : L ≤ 3072)
    (d0 : decode cc pc = .ok (.aload_n 0, 1)) (d1 : decode cc (pc + 1) = .ok (.iload 4, 2)) (d2 : decode cc (pc + 1 + 2) = .ok (.iconst kI, 1)) (d3 : decode cc (pc + 1 + 2 + 1) = .ok (.iadd, 1)) (d4 : decode cc (pc + 1 + 2 + 1 + 1) = .ok (.iaload, 1))
    (kk : W p l e R s m args below meth c H locs cells slots Q (F0 m (pc + 6) ls (.int (xs (i + k)) :: rest))) : W p l e R s m args below meth c H locs cells slots Q (F0 m pc ls rest) := by
  refine lv_aload_n hx hb d0 rfl h0 ?_
  refine lv_iload hx hb d1 h4 ?_
  refine lv_iconst hx hb d2 hk ?_
  refine lv_iadd hx hb d3 ?_
  refine bc_ti (nI_add i k) ?_
  refine va_sld hx hb hX hbl hbA hS (nI_in hi (by omega)) d4 ?_
  rw [nI_clamp (by omega)]
  exact kk
end LZ
section LZ2
variable {p : Program} {l : Launch} {e : Env} {s : State} {m : MethodId} {args : Array Value} {below : List Frame} {meth : Method} {c : Code} {H : Heap} {locs : List Loc} {cells slots : Nat} {Q : State → Prop} {ls : Array Slot}
variable {dC : Nat → ClassId} {dI : Nat → Nat → Nat} {cI cZ cL : ClassId} {a : Nat → Nat} {b i L : Nat} {xs : Nat → Int32} {k k0 : lz_C} {r : lz_M}
set_option maxHeartbeats 4000000 in
set_option maxRecDepth 100000 in
theorem lz_end {p0 : Nat} {g9 : Int} {bv kv : Int32} (E : lz_E p l s m args c dC dI cI cZ cL b L xs) (hl : lv_has ls 7 [(6, .int bv), (5, .int kv), (4, .int (nI i)), (3, .ref (a 42)), (2, .ref (a 25)), (1, .ref (a 0)), (0, .ref b)]) (hP : va_P (dC, dI) classes (lz_ws a cI cZ cL k r) H) (hD : va_D (lz_A s) (lz_ws a cI cZ cL k r)) (hS : va_S (lz_A s) s.heap H locs) (h1 : r.fa = kv) (h2 : kv = 0 → k.Ou 0 = bv.toInt64) (hf : cells + 0 ≤ room_1.cells ∧ slots + 0 ≤ room_1.slots) (d0 : decode by_L_law p0 = .ok (.aload_n 2, 1)) (d1 : decode by_L_law (p0 + 1) = .ok (.invokevirtual 68, 3)) (d2 : decode by_L_law (p0 + 1 + 3) = .ok (.iload 5, 2)) (d3 : decode by_L_law (p0 + 1 + 3 + 2) = .ok (.if_icmp .eq 5, 3)) (d4 : decode by_L_law (p0 + 11) = .ok (.iload 5, 2)) (d5 : decode by_L_law (p0 + 11 + 2) = .ok (.ifCond .ne 15, 3)) (d6 : decode by_L_law (p0 + 11 + 2 + 3) = .ok (.aload_n 3, 1)) (d7 : decode by_L_law (p0 + 11 + 2 + 3 + 1) = .ok (.iconst 0, 1)) (d8 : decode by_L_law (p0 + 11 + 2 + 3 + 1 + 1) = .ok (.laload, 1)) (d9 : decode by_L_law (p0 + 11 + 2 + 3 + 1 + 1 + 1) = .ok (.iload 6, 2)) (d10 : decode by_L_law (p0 + 11 + 2 + 3 + 1 + 1 + 1 + 2) = .ok (.i2l, 1)) (d11 : decode by_L_law (p0 + 11 + 2 + 3 + 1 + 1 + 1 + 2 + 1) = .ok (.lcmp, 1)) (d12 : decode by_L_law (p0 + 11 + 2 + 3 + 1 + 1 + 1 + 2 + 1 + 1) = .ok (.ifCond .eq 5, 3)) (d13 : decode by_L_law (p0 + 28) = .ok (.goto g9, 3)) (hg : ((p0 + 28 : Nat) : Int) + g9 = ((969 : Nat) : Int))
    (kk : ∀ (H : Heap) (locs : List Loc), va_P (dC, dI) classes (lz_ws a cI cZ cL k r) H → va_D (lz_A s) (lz_ws a cI cZ cL k r) → va_S (lz_A s) s.heap H locs → W p l e room_1 s m args below meth c H locs cells slots Q (F0 m 969 ls [])) : W p l e room_1 s m args below meth c H locs cells slots Q (F0 m p0 ls []) := by
  have F3 := E.1
  have hT9 : bc_T s := E.2.1
  have hl0 : l.stackTraces = false := E.2.2.1
  have hX := E.2.2.2.1
  have hbl := E.2.2.2.2.1
  have hL : L ≤ 3072 := E.2.2.2.2.2
  have F : bc_Fx p m c by_L_law 7 s args "BranchConstantsLaw" (dC, dI) classes [(cI, .int), (cZ, .boolean)] := ⟨F3.1, F3.2.1, F3.2.2.1, F3.2.2.2.1, F3.2.2.2.2.1, F3.2.2.2.2.2.1, va_K.sub F3.2.2.2.2.2.2 [0, 1] rfl⟩
  have hx := F.1
  have hb := F.2.1
  have hK3 := F3.2.2.2.2.2.2
  have hA : ∀ q, s.heap.size ≤ q → lz_A s q := fun _ h => h
  have hA2 : ∀ q, lz_A s q → s.heap.size ≤ q := fun _ h => h
  have hbA : ¬ lz_A s b := Nat.not_le.mpr hbl
  refine lv_aload_n hx hb d0 rfl (lv_at hl 4 rfl) ?_
  refine bc_call_v_i (As := []) (rest := []) (wr := [(a 0, .inr (4, [.ref (a 1), .ref (a 6), .ref (a 11), .ref (a 17), .ref (a 21), .ref (a 23), .int k.an, .int k.ra])), (a 1, .inr (1, [.ref (a 2), .ref (a 3), .ref (a 4), .ref (a 5), .int (nI k.n)])), (a 2, .inl (cI, 40, .inl (k.P 1))), (a 3, .inl (cI, 40, .inl (k.P 2))), (a 4, .inl (cI, 40, .inl (k.P 3))), (a 5, .inl (cI, 40, .inl (k.P 4))), (a 6, .inr (1, [.ref (a 7), .ref (a 8), .ref (a 9), .ref (a 10), .int (nI k.n2)])), (a 7, .inl (cI, 40, .inl (k.Q 1))), (a 8, .inl (cI, 40, .inl (k.Q 2))), (a 9, .inl (cI, 40, .inl (k.Q 3))), (a 10, .inl (cI, 40, .inl (k.Q 4))), (a 11, .inr (0, [.ref (a 12), .ref (a 13), .ref (a 14), .ref (a 15), .ref (a 16), .int k.res])), (a 12, .inl (cI, 240, .inl k.S)), (a 13, .inl (cI, 240, .inl k.C)), (a 14, .inl (cZ, 40, .inl k.Wt)), (a 15, .inl (cI, 6, .inl k.SB)), (a 16, .inl (cI, 6, .inl k.CB)), (a 17, .inr (3, [.ref (a 18), .ref (a 19), .ref (a 20), .int (nI k.cq)])), (a 18, .inl (cZ, 40, .inl k.B)), (a 19, .inl (cI, 40, .inl k.U)), (a 20, .inl (cI, 41, .inl k.Nn)), (a 21, .inr (2, [.ref (a 22), .int k.pl0, .int k.sp0, .int k.on0])), (a 22, .inl (cI, 6, .inl k.X0)), (a 23, .inr (2, [.ref (a 24), .int k.pl1, .int k.sp1, .int k.on1])), (a 24, .inl (cI, 6, .inl k.X1)), (a 26, .inl (cI, 80, .inl r.K)), (a 27, .inl (cI, 80, .inl r.O)), (a 28, .inl (cI, 80, .inl r.T)), (a 29, .inl (cI, 80, .inl r.Z)), (a 30, .inl (cI, 2, .inl r.Sz)), (a 31, .inl (cZ, 40, .inl r.Re)), (a 32, .inl (cI, 240, .inl r.Fa)), (a 33, .inl (cI, 240, .inl r.Va)), (a 34, .inl (cI, 6, .inl r.Nf)), (a 35, .inl (cI, 6, .inl r.Nv)), (a 36, .inl (cZ, 41, .inl r.St)), (a 37, .inl (cI, 40, .inl r.Ld)), (a 38, .inl (cZ, 2, .inl r.On)), (a 39, .inl (cI, 2, .inl r.Pl)), (a 40, .inl (cI, 2, .inl r.Sp)), (a 41, .inl (cI, 12, .inl r.Vr)), (a 42, .inl (cL, 1, .inr (.inl k.Ou)))]) F (co_M_thrown) wm_465 wm_6 wm_462 wm_463 wm_464 25 rfl rfl pd_M_thrown rfl rfl ⟨Nat.le_of_ble_eq_true rfl, Nat.le_of_ble_eq_true rfl⟩ hP hD hS hA [25] [0, 1, 2, 3, 4, 5, 6, 7, 8, 9, 10, 11, 12, 13, 14, 15, 16, 17, 18, 19, 20, 21, 22, 23, 24, 26, 27, 28, 29, 30, 31, 32, 33, 34, 35, 36, 37, 38, 39, 40, 41, 42] rfl rfl rfl rfl (by decide) rfl hl.1 rfl (Nat.le_of_ble_eq_true rfl) d1 hf (fun r9 _u H locs hw hP hD hS => ?_)
  have hP : va_P (dC, dI) classes (lz_ws a cI cZ cL k r) H := hP.sub [0, 1, 2, 3, 4, 5, 6, 7, 8, 9, 10, 11, 12, 13, 14, 15, 16, 17, 18, 19, 20, 21, 22, 23, 24, 42, 25, 26, 27, 28, 29, 30, 31, 32, 33, 34, 35, 36, 37, 38, 39, 40, 41] rfl
  have hD : va_D (lz_A s) (lz_ws a cI cZ cL k r) := hD.sub [0, 1, 2, 3, 4, 5, 6, 7, 8, 9, 10, 11, 12, 13, 14, 15, 16, 17, 18, 19, 20, 21, 22, 23, 24, 42, 25, 26, 27, 28, 29, 30, 31, 32, 33, 34, 35, 36, 37, 38, 39, 40, 41] (by decide) rfl
  refine lv_iload hx hb d2 (lv_at hl 1 rfl) ?_
  refine lv_icmp_eq (tgt := p0 + 11) hx hb d3 (by omega) (fun _ => ?_) (fun hc => absurd (hw.trans h1) hc)
  refine lv_iload hx hb d4 (lv_at hl 1 rfl) ?_
  refine lv_if_ne (tgt := p0 + 28) hx hb d5 (by omega) (fun _ => ?_) (fun hc0 => ?_)
  · exact lv_goto (tgt := 969) hx hb d13 hg (kk H locs hP hD hS)
  · refine lv_aload_n hx hb d6 rfl (lv_at hl 3 rfl) ?_
    refine lv_iconst (v := 0) hx hb d7 (by decide) ?_
    refine va_lald hx hb hK3 hP 42 2 rfl rfl (by unfold vp_in; decide) d8 ?_
    refine lv_iload hx hb d9 (lv_at hl 0 rfl) ?_
    refine lv_i2l hx hb d10 rfl ?_
    refine W.lcmp hx hb d11 ?_
    refine lv_if_eq (tgt := p0 + 28) hx hb d12 (by omega) (fun _ => ?_) (fun hc => absurd ((lg_cmp_eq _ _).mpr (h2 hc0)) hc)
    exact lv_goto (tgt := 969) hx hb d13 hg (kk H locs hP hD hS)

set_option maxHeartbeats 4000000 in
set_option maxRecDepth 100000 in
theorem lz_end0 {p0 : Nat} {g9 : Int} {kv : Int32} (E : lz_E p l s m args c dC dI cI cZ cL b L xs) (hl : lv_has ls 7 [(5, .int kv), (4, .int (nI i)), (3, .ref (a 42)), (2, .ref (a 25)), (1, .ref (a 0)), (0, .ref b)]) (hP : va_P (dC, dI) classes (lz_ws a cI cZ cL k r) H) (hD : va_D (lz_A s) (lz_ws a cI cZ cL k r)) (hS : va_S (lz_A s) s.heap H locs) (h1 : r.fa = kv) (hf : cells + 0 ≤ room_1.cells ∧ slots + 0 ≤ room_1.slots) (d0 : decode by_L_law p0 = .ok (.aload_n 2, 1)) (d1 : decode by_L_law (p0 + 1) = .ok (.invokevirtual 68, 3)) (d2 : decode by_L_law (p0 + 1 + 3) = .ok (.iload 5, 2)) (d3 : decode by_L_law (p0 + 1 + 3 + 2) = .ok (.if_icmp .eq 5, 3)) (d4 : decode by_L_law (p0 + 11) = .ok (.goto g9, 3)) (hg : ((p0 + 11 : Nat) : Int) + g9 = ((969 : Nat) : Int))
    (kk : ∀ (H : Heap) (locs : List Loc), va_P (dC, dI) classes (lz_ws a cI cZ cL k r) H → va_D (lz_A s) (lz_ws a cI cZ cL k r) → va_S (lz_A s) s.heap H locs → W p l e room_1 s m args below meth c H locs cells slots Q (F0 m 969 ls [])) : W p l e room_1 s m args below meth c H locs cells slots Q (F0 m p0 ls []) := by
  have F3 := E.1
  have hT9 : bc_T s := E.2.1
  have hl0 : l.stackTraces = false := E.2.2.1
  have hX := E.2.2.2.1
  have hbl := E.2.2.2.2.1
  have hL : L ≤ 3072 := E.2.2.2.2.2
  have F : bc_Fx p m c by_L_law 7 s args "BranchConstantsLaw" (dC, dI) classes [(cI, .int), (cZ, .boolean)] := ⟨F3.1, F3.2.1, F3.2.2.1, F3.2.2.2.1, F3.2.2.2.2.1, F3.2.2.2.2.2.1, va_K.sub F3.2.2.2.2.2.2 [0, 1] rfl⟩
  have hx := F.1
  have hb := F.2.1
  have hK3 := F3.2.2.2.2.2.2
  have hA : ∀ q, s.heap.size ≤ q → lz_A s q := fun _ h => h
  have hA2 : ∀ q, lz_A s q → s.heap.size ≤ q := fun _ h => h
  have hbA : ¬ lz_A s b := Nat.not_le.mpr hbl
  refine lv_aload_n hx hb d0 rfl (lv_at hl 3 rfl) ?_
  refine bc_call_v_i (As := []) (rest := []) (wr := [(a 0, .inr (4, [.ref (a 1), .ref (a 6), .ref (a 11), .ref (a 17), .ref (a 21), .ref (a 23), .int k.an, .int k.ra])), (a 1, .inr (1, [.ref (a 2), .ref (a 3), .ref (a 4), .ref (a 5), .int (nI k.n)])), (a 2, .inl (cI, 40, .inl (k.P 1))), (a 3, .inl (cI, 40, .inl (k.P 2))), (a 4, .inl (cI, 40, .inl (k.P 3))), (a 5, .inl (cI, 40, .inl (k.P 4))), (a 6, .inr (1, [.ref (a 7), .ref (a 8), .ref (a 9), .ref (a 10), .int (nI k.n2)])), (a 7, .inl (cI, 40, .inl (k.Q 1))), (a 8, .inl (cI, 40, .inl (k.Q 2))), (a 9, .inl (cI, 40, .inl (k.Q 3))), (a 10, .inl (cI, 40, .inl (k.Q 4))), (a 11, .inr (0, [.ref (a 12), .ref (a 13), .ref (a 14), .ref (a 15), .ref (a 16), .int k.res])), (a 12, .inl (cI, 240, .inl k.S)), (a 13, .inl (cI, 240, .inl k.C)), (a 14, .inl (cZ, 40, .inl k.Wt)), (a 15, .inl (cI, 6, .inl k.SB)), (a 16, .inl (cI, 6, .inl k.CB)), (a 17, .inr (3, [.ref (a 18), .ref (a 19), .ref (a 20), .int (nI k.cq)])), (a 18, .inl (cZ, 40, .inl k.B)), (a 19, .inl (cI, 40, .inl k.U)), (a 20, .inl (cI, 41, .inl k.Nn)), (a 21, .inr (2, [.ref (a 22), .int k.pl0, .int k.sp0, .int k.on0])), (a 22, .inl (cI, 6, .inl k.X0)), (a 23, .inr (2, [.ref (a 24), .int k.pl1, .int k.sp1, .int k.on1])), (a 24, .inl (cI, 6, .inl k.X1)), (a 26, .inl (cI, 80, .inl r.K)), (a 27, .inl (cI, 80, .inl r.O)), (a 28, .inl (cI, 80, .inl r.T)), (a 29, .inl (cI, 80, .inl r.Z)), (a 30, .inl (cI, 2, .inl r.Sz)), (a 31, .inl (cZ, 40, .inl r.Re)), (a 32, .inl (cI, 240, .inl r.Fa)), (a 33, .inl (cI, 240, .inl r.Va)), (a 34, .inl (cI, 6, .inl r.Nf)), (a 35, .inl (cI, 6, .inl r.Nv)), (a 36, .inl (cZ, 41, .inl r.St)), (a 37, .inl (cI, 40, .inl r.Ld)), (a 38, .inl (cZ, 2, .inl r.On)), (a 39, .inl (cI, 2, .inl r.Pl)), (a 40, .inl (cI, 2, .inl r.Sp)), (a 41, .inl (cI, 12, .inl r.Vr)), (a 42, .inl (cL, 1, .inr (.inl k.Ou)))]) F (co_M_thrown) wm_465 wm_6 wm_462 wm_463 wm_464 25 rfl rfl pd_M_thrown rfl rfl ⟨Nat.le_of_ble_eq_true rfl, Nat.le_of_ble_eq_true rfl⟩ hP hD hS hA [25] [0, 1, 2, 3, 4, 5, 6, 7, 8, 9, 10, 11, 12, 13, 14, 15, 16, 17, 18, 19, 20, 21, 22, 23, 24, 26, 27, 28, 29, 30, 31, 32, 33, 34, 35, 36, 37, 38, 39, 40, 41, 42] rfl rfl rfl rfl (by decide) rfl hl.1 rfl (Nat.le_of_ble_eq_true rfl) d1 hf (fun r9 _u H locs hw hP hD hS => ?_)
  have hP : va_P (dC, dI) classes (lz_ws a cI cZ cL k r) H := hP.sub [0, 1, 2, 3, 4, 5, 6, 7, 8, 9, 10, 11, 12, 13, 14, 15, 16, 17, 18, 19, 20, 21, 22, 23, 24, 42, 25, 26, 27, 28, 29, 30, 31, 32, 33, 34, 35, 36, 37, 38, 39, 40, 41] rfl
  have hD : va_D (lz_A s) (lz_ws a cI cZ cL k r) := hD.sub [0, 1, 2, 3, 4, 5, 6, 7, 8, 9, 10, 11, 12, 13, 14, 15, 16, 17, 18, 19, 20, 21, 22, 23, 24, 42, 25, 26, 27, 28, 29, 30, 31, 32, 33, 34, 35, 36, 37, 38, 39, 40, 41] (by decide) rfl
  refine lv_iload hx hb d2 (lv_at hl 0 rfl) ?_
  refine lv_icmp_eq (tgt := p0 + 11) hx hb d3 (by omega) (fun _ => ?_) (fun hc => absurd (hw.trans h1) hc)
  exact lv_goto (tgt := 969) hx hb d4 hg (kk H locs hP hD hS)

set_option maxHeartbeats 4000000 in
set_option maxRecDepth 100000 in
theorem lz_endR {bv kv : Int32} (E : lz_E p l s m args c dC dI cI cZ cL b L xs) (hl : lv_has ls 7 [(6, .int bv), (5, .int kv), (4, .int (nI i)), (3, .ref (a 42)), (2, .ref (a 25)), (1, .ref (a 0)), (0, .ref b)]) (hP : va_P (dC, dI) classes (lz_ws a cI cZ cL k r) H) (hD : va_D (lz_A s) (lz_ws a cI cZ cL k r)) (hS : va_S (lz_A s) s.heap H locs) (h1 : r.fa = kv) (h2 : kv = 0 → k.Ou 0 = (if bv = 0 then 0 else 1)) (hf : cells + 0 ≤ room_1.cells ∧ slots + 0 ≤ room_1.slots)
    (kk : ∀ (H : Heap) (locs : List Loc), va_P (dC, dI) classes (lz_ws a cI cZ cL k r) H → va_D (lz_A s) (lz_ws a cI cZ cL k r) → va_S (lz_A s) s.heap H locs → W p l e room_1 s m args below meth c H locs cells slots Q (F0 m 969 ls [])) : W p l e room_1 s m args below meth c H locs cells slots Q (F0 m 326 ls []) := by
  have F3 := E.1
  have hT9 : bc_T s := E.2.1
  have hl0 : l.stackTraces = false := E.2.2.1
  have hX := E.2.2.2.1
  have hbl := E.2.2.2.2.1
  have hL : L ≤ 3072 := E.2.2.2.2.2
  have F : bc_Fx p m c by_L_law 7 s args "BranchConstantsLaw" (dC, dI) classes [(cI, .int), (cZ, .boolean)] := ⟨F3.1, F3.2.1, F3.2.2.1, F3.2.2.2.1, F3.2.2.2.2.1, F3.2.2.2.2.2.1, va_K.sub F3.2.2.2.2.2.2 [0, 1] rfl⟩
  have hx := F.1
  have hb := F.2.1
  have hK3 := F3.2.2.2.2.2.2
  have hA : ∀ q, s.heap.size ≤ q → lz_A s q := fun _ h => h
  have hA2 : ∀ q, lz_A s q → s.heap.size ≤ q := fun _ h => h
  have hbA : ¬ lz_A s b := Nat.not_le.mpr hbl
  refine lv_aload_n hx hb de_L_law_326 rfl (lv_at hl 4 rfl) ?_
  refine bc_call_v_i (As := []) (rest := []) (wr := [(a 0, .inr (4, [.ref (a 1), .ref (a 6), .ref (a 11), .ref (a 17), .ref (a 21), .ref (a 23), .int k.an, .int k.ra])), (a 1, .inr (1, [.ref (a 2), .ref (a 3), .ref (a 4), .ref (a 5), .int (nI k.n)])), (a 2, .inl (cI, 40, .inl (k.P 1))), (a 3, .inl (cI, 40, .inl (k.P 2))), (a 4, .inl (cI, 40, .inl (k.P 3))), (a 5, .inl (cI, 40, .inl (k.P 4))), (a 6, .inr (1, [.ref (a 7), .ref (a 8), .ref (a 9), .ref (a 10), .int (nI k.n2)])), (a 7, .inl (cI, 40, .inl (k.Q 1))), (a 8, .inl (cI, 40, .inl (k.Q 2))), (a 9, .inl (cI, 40, .inl (k.Q 3))), (a 10, .inl (cI, 40, .inl (k.Q 4))), (a 11, .inr (0, [.ref (a 12), .ref (a 13), .ref (a 14), .ref (a 15), .ref (a 16), .int k.res])), (a 12, .inl (cI, 240, .inl k.S)), (a 13, .inl (cI, 240, .inl k.C)), (a 14, .inl (cZ, 40, .inl k.Wt)), (a 15, .inl (cI, 6, .inl k.SB)), (a 16, .inl (cI, 6, .inl k.CB)), (a 17, .inr (3, [.ref (a 18), .ref (a 19), .ref (a 20), .int (nI k.cq)])), (a 18, .inl (cZ, 40, .inl k.B)), (a 19, .inl (cI, 40, .inl k.U)), (a 20, .inl (cI, 41, .inl k.Nn)), (a 21, .inr (2, [.ref (a 22), .int k.pl0, .int k.sp0, .int k.on0])), (a 22, .inl (cI, 6, .inl k.X0)), (a 23, .inr (2, [.ref (a 24), .int k.pl1, .int k.sp1, .int k.on1])), (a 24, .inl (cI, 6, .inl k.X1)), (a 26, .inl (cI, 80, .inl r.K)), (a 27, .inl (cI, 80, .inl r.O)), (a 28, .inl (cI, 80, .inl r.T)), (a 29, .inl (cI, 80, .inl r.Z)), (a 30, .inl (cI, 2, .inl r.Sz)), (a 31, .inl (cZ, 40, .inl r.Re)), (a 32, .inl (cI, 240, .inl r.Fa)), (a 33, .inl (cI, 240, .inl r.Va)), (a 34, .inl (cI, 6, .inl r.Nf)), (a 35, .inl (cI, 6, .inl r.Nv)), (a 36, .inl (cZ, 41, .inl r.St)), (a 37, .inl (cI, 40, .inl r.Ld)), (a 38, .inl (cZ, 2, .inl r.On)), (a 39, .inl (cI, 2, .inl r.Pl)), (a 40, .inl (cI, 2, .inl r.Sp)), (a 41, .inl (cI, 12, .inl r.Vr)), (a 42, .inl (cL, 1, .inr (.inl k.Ou)))]) F (co_M_thrown) wm_465 wm_6 wm_462 wm_463 wm_464 25 rfl rfl pd_M_thrown rfl rfl ⟨Nat.le_of_ble_eq_true rfl, Nat.le_of_ble_eq_true rfl⟩ hP hD hS hA [25] [0, 1, 2, 3, 4, 5, 6, 7, 8, 9, 10, 11, 12, 13, 14, 15, 16, 17, 18, 19, 20, 21, 22, 23, 24, 26, 27, 28, 29, 30, 31, 32, 33, 34, 35, 36, 37, 38, 39, 40, 41, 42] rfl rfl rfl rfl (by decide) rfl hl.1 rfl (Nat.le_of_ble_eq_true rfl) de_L_law_327 hf (fun r9 _u H locs hw hP hD hS => ?_)
  have hP : va_P (dC, dI) classes (lz_ws a cI cZ cL k r) H := hP.sub [0, 1, 2, 3, 4, 5, 6, 7, 8, 9, 10, 11, 12, 13, 14, 15, 16, 17, 18, 19, 20, 21, 22, 23, 24, 42, 25, 26, 27, 28, 29, 30, 31, 32, 33, 34, 35, 36, 37, 38, 39, 40, 41] rfl
  have hD : va_D (lz_A s) (lz_ws a cI cZ cL k r) := hD.sub [0, 1, 2, 3, 4, 5, 6, 7, 8, 9, 10, 11, 12, 13, 14, 15, 16, 17, 18, 19, 20, 21, 22, 23, 24, 42, 25, 26, 27, 28, 29, 30, 31, 32, 33, 34, 35, 36, 37, 38, 39, 40, 41] (by decide) rfl
  refine lv_iload hx hb de_L_law_330 (lv_at hl 1 rfl) ?_
  refine lv_icmp_eq (tgt := 337) hx hb de_L_law_332 (by decide) (fun _ => ?_) (fun hc => absurd (hw.trans h1) hc)
  refine lv_iload hx hb de_L_law_337 (lv_at hl 1 rfl) ?_
  refine lv_if_ne (tgt := 361) hx hb de_L_law_339 (by decide) (fun _ => ?_) (fun hc0 => ?_)
  · exact lv_goto (tgt := 969) hx hb de_L_law_361 (by decide) (kk H locs hP hD hS)
  · refine lv_aload_n hx hb de_L_law_342 rfl (lv_at hl 3 rfl) ?_
    refine lv_iconst (v := 0) hx hb de_L_law_343 (by decide) ?_
    refine va_lald hx hb hK3 hP 42 2 rfl rfl (by unfold vp_in; decide) de_L_law_344 ?_
    refine lv_iload hx hb de_L_law_345 (lv_at hl 0 rfl) ?_
    refine lv_if_eq (tgt := 354) hx hb de_L_law_347 (by decide) (fun hb0 => ?_) (fun hb0 => ?_)
    · refine lv_lconst (v := 0) hx hb de_L_law_354 (by decide) ?_
      refine W.lcmp hx hb de_L_law_355 ?_
      refine lv_if_eq (tgt := 361) hx hb de_L_law_356 (by decide) (fun _ => ?_) (fun hc => absurd ((lg_cmp_eq _ _).mpr ((h2 hc0).trans (if_pos hb0))) hc)
      exact lv_goto (tgt := 969) hx hb de_L_law_361 (by decide) (kk H locs hP hD hS)
    · refine lv_lconst (v := 1) hx hb de_L_law_350 (by decide) ?_
      refine lv_goto (tgt := 355) hx hb de_L_law_351 (by decide) ?_
      refine W.lcmp hx hb de_L_law_355 ?_
      refine lv_if_eq (tgt := 361) hx hb de_L_law_356 (by decide) (fun _ => ?_) (fun hc => absurd ((lg_cmp_eq _ _).mpr ((h2 hc0).trans (if_neg hb0))) hc)
      exact lv_goto (tgt := 969) hx hb de_L_law_361 (by decide) (kk H locs hP hD hS)
end LZ2
