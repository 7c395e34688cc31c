/-! the reference: goOn, analyse (by program: wip/whole/gen/modM3.py) -/
theorem bc_runR_1 {n t : Nat} {g : bc_G} {q : bc_R} {w w' : Int32} (h : bc_gr n g t q w w') : bc_runR n [(t, q)] g w (bc_come n g t q) w' := ⟨w', h, rfl, rfl⟩
theorem bc_runR_2 {n t t' : Nat} {g : bc_G} {q q' : bc_R} {w w1 w' : Int32} (h : bc_gr n g t q w w1) (h' : bc_gr n (bc_come n g t q) t' q' w1 w') : bc_runR n [(t, q), (t', q')] g w (bc_come n (bc_come n g t q) t' q') w' := ⟨w1, h, bc_runR_1 h'⟩
theorem bc_er_row {S C N1 N2 : bc_F} {i : Nat} {rr : bc_R} (hrow : ∀ v, v < 6 → S (6 * i + v) = bc_s0 (some rr) v ∧ C (6 * i + v) = bc_c0 (some rr) v) (h : ∀ j, j < 6 → N1 j = S (6 * i + j) ∧ N2 j = C (6 * i + j)) : bc_er N1 N2 rr := fun v hv => ⟨(h v hv).1.trans (hrow v hv).1, (h v hv).2.trans (hrow v hv).2⟩
theorem bc_all2 {i : Nat} {f1 f2 : bc_F} {a b : Nat → Int32} (h : ∀ j, j < i → f1 j = a j ∧ f2 j = b j) : ∀ j, j < i + 1 → upd f1 i (a i) j = a j ∧ upd f2 i (b i) j = b j := by
  intro j hj
  by_cases c : j = i
  · subst c; rw [pk_us, pk_us]; exact ⟨rfl, rfl⟩
  · rw [pk_un c, pk_un c]; exact h j (by omega)
theorem bc_er_z {S C : bc_F} {r : bc_R} {o : Nat} (h : bc_er S C r) (ho : r o = some 0) : bc_er (upd S o 2) (upd C o 0) r := by
  intro v hv
  by_cases e : v = o
  · subst e
    rw [pk_us, pk_us, (bc_s0_2 ho).1, (bc_s0_2 ho).2]
    exact ⟨rfl, rfl⟩
  · rw [pk_un e, pk_un e]; exact h v hv
theorem bc_7k {k o t z : Int32} (hw : bc_wi k o t z) (h5 : ¬ k = 5) (h6 : ¬ k = 6) (h7 : ¬ k = 7) : k ≤ 4 := by
  rcases hw with ⟨e, _⟩ | ⟨e, _⟩ | ⟨e, _⟩ | ⟨e, _⟩ | ⟨e, _⟩ | ⟨e, _⟩
  · rw [e]; decide
  · rw [e]; decide
  · rcases e with e | e | e <;> (rw [e]; decide)
  · exact absurd e h5
  · exact absurd e h6
  · exact absurd e h7
set_option maxHeartbeats 4000000 in
set_option maxRecDepth 100000 in
/-- on from an instruction -/
theorem co_M_goOn {l : Launch} {dC : Nat → ClassId} {dI : Nat → Nat → Nat} {cI cZ : ClassId} {sz : Nat} {m0 r1 r2 r3 r4 r5 r6 r7 r8 r9 r10 r11 r12 r13 r14 r15 r16 : Nat} {K O T Z Sz Re Fa Va Nf Nv : bc_F} {fa rw gw : Int32} {n i : Nat} {g : bc_G} {rr : bc_R} (hn : n ≤ 40) (hi : i < n) (hSz : Sz 0 = nI n) (hw : bc_wi (K i) (O i) (T i) (Z i)) (hen : bc_en Fa Va g) (hre : bc_re Re g) (hg : g i = some rr) : Met l yn_M_goOn (Cond.code yn_M_goOn by_M_goOn 4 none :: wd_all) ({ frames := 2, cells := 0, slots := 0, locals := 48 } : Room) (bc_Pre (dC, dI) classes [(cI, .int), (cZ, .boolean)] [.ref m0, .int (nI i)] [(m0, .inr (5, [.int fa, .ref r1, .ref r2, .ref r3, .ref r4, .ref r5, .int rw, .ref r6, .ref r7, .ref r8, .int gw, .ref r9, .ref r10, .ref r11, .ref r12, .ref r13, .ref r14, .ref r15, .ref r16])), (r1, .inl (cI, 80, .inl K)), (r2, .inl (cI, 80, .inl O)), (r3, .inl (cI, 80, .inl T)), (r4, .inl (cI, 80, .inl Z)), (r5, .inl (cI, 2, .inl Sz)), (r6, .inl (cZ, 40, .inl Re)), (r7, .inl (cI, 240, .inl Fa)), (r8, .inl (cI, 240, .inl Va)), (r9, .inl (cI, 6, .inl Nf)), (r10, .inl (cI, 6, .inl Nv))] sz) (va_Qv (fun (u : bc_F × bc_F × bc_F × bc_F × bc_F × Int32) => ∃ g', bc_en u.2.1 u.2.2.1 g' ∧ bc_re u.1 g' ∧ bc_runR n (bc_out K O T Z i rr) g gw g' u.2.2.2.2.2) (fun (u : bc_F × bc_F × bc_F × bc_F × bc_F × Int32) t => bc_B (dC, dI) classes [(cI, .int), (cZ, .boolean)] (va_A [(m0, .inr (5, [.int fa, .ref r1, .ref r2, .ref r3, .ref r4, .ref r5, .int rw, .ref r6, .ref r7, .ref r8, .int gw, .ref r9, .ref r10, .ref r11, .ref r12, .ref r13, .ref r14, .ref r15, .ref r16])), (r1, .inl (cI, 80, .inl K)), (r2, .inl (cI, 80, .inl O)), (r3, .inl (cI, 80, .inl T)), (r4, .inl (cI, 80, .inl Z)), (r5, .inl (cI, 2, .inl Sz)), (r6, .inl (cZ, 40, .inl Re)), (r7, .inl (cI, 240, .inl Fa)), (r8, .inl (cI, 240, .inl Va)), (r9, .inl (cI, 6, .inl Nf)), (r10, .inl (cI, 6, .inl Nv))] sz) [(m0, .inr (5, [.int fa, .ref r1, .ref r2, .ref r3, .ref r4, .ref r5, .int rw, .ref r6, .ref r7, .ref r8, .int u.2.2.2.2.2, .ref r9, .ref r10, .ref r11, .ref r12, .ref r13, .ref r14, .ref r15, .ref r16])), (r1, .inl (cI, 80, .inl K)), (r2, .inl (cI, 80, .inl O)), (r3, .inl (cI, 80, .inl T)), (r4, .inl (cI, 80, .inl Z)), (r5, .inl (cI, 2, .inl Sz)), (r6, .inl (cZ, 40, .inl u.1)), (r7, .inl (cI, 240, .inl u.2.1)), (r8, .inl (cI, 240, .inl u.2.2.1)), (r9, .inl (cI, 6, .inl u.2.2.2.1)), (r10, .inl (cI, 6, .inl u.2.2.2.2.1))] t) ((va_A [(m0, .inr (5, [.int fa, .ref r1, .ref r2, .ref r3, .ref r4, .ref r5, .int rw, .ref r6, .ref r7, .ref r8, .int gw, .ref r9, .ref r10, .ref r11, .ref r12, .ref r13, .ref r14, .ref r15, .ref r16])), (r1, .inl (cI, 80, .inl K)), (r2, .inl (cI, 80, .inl O)), (r3, .inl (cI, 80, .inl T)), (r4, .inl (cI, 80, .inl Z)), (r5, .inl (cI, 2, .inl Sz)), (r6, .inl (cZ, 40, .inl Re)), (r7, .inl (cI, 240, .inl Fa)), (r8, .inl (cI, 240, .inl Va)), (r9, .inl (cI, 6, .inl Nf)), (r10, .inl (cI, 6, .inl Nv))] sz))) 0 0 (va_A [(m0, .inr (5, [.int fa, .ref r1, .ref r2, .ref r3, .ref r4, .ref r5, .int rw, .ref r6, .ref r7, .ref r8, .int gw, .ref r9, .ref r10, .ref r11, .ref r12, .ref r13, .ref r14, .ref r15, .ref r16])), (r1, .inl (cI, 80, .inl K)), (r2, .inl (cI, 80, .inl O)), (r3, .inl (cI, 80, .inl T)), (r4, .inl (cI, 80, .inl Z)), (r5, .inl (cI, 2, .inl Sz)), (r6, .inl (cZ, 40, .inl Re)), (r7, .inl (cI, 240, .inl Fa)), (r8, .inl (cI, 240, .inl Va)), (r9, .inl (cI, 6, .inl Nf)), (r10, .inl (cI, 6, .inl Nv))] sz) := by
  refine bc_met (fun A => va_Qv (fun (u : bc_F × bc_F × bc_F × bc_F × bc_F × Int32) => ∃ g', bc_en u.2.1 u.2.2.1 g' ∧ bc_re u.1 g' ∧ bc_runR n (bc_out K O T Z i rr) g gw g' u.2.2.2.2.2) (fun (u : bc_F × bc_F × bc_F × bc_F × bc_F × Int32) t => bc_B (dC, dI) classes [(cI, .int), (cZ, .boolean)] A [(m0, .inr (5, [.int fa, .ref r1, .ref r2, .ref r3, .ref r4, .ref r5, .int rw, .ref r6, .ref r7, .ref r8, .int u.2.2.2.2.2, .ref r9, .ref r10, .ref r11, .ref r12, .ref r13, .ref r14, .ref r15, .ref r16])), (r1, .inl (cI, 80, .inl K)), (r2, .inl (cI, 80, .inl O)), (r3, .inl (cI, 80, .inl T)), (r4, .inl (cI, 80, .inl Z)), (r5, .inl (cI, 2, .inl Sz)), (r6, .inl (cZ, 40, .inl u.1)), (r7, .inl (cI, 240, .inl u.2.1)), (r8, .inl (cI, 240, .inl u.2.2.1)), (r9, .inl (cI, 6, .inl u.2.2.2.1)), (r10, .inl (cI, 6, .inl u.2.2.2.2.1))] t) A) (by decide) (Nat.le_of_ble_eq_true rfl) ?_
  intro p e s m args below meth c A ls F hr hlocks hin hA hP hD hl hS
  have hx := F.1
  have hb := F.2.1
  have hml := F.2.2.1
  have hown : s.vm.findClass "BranchConstantsModel" = some m.cls := F.2.2.2.1
  have htw := F.2.2.2.2.1
  have hN := F.2.2.2.2.2.1
  have hK := F.2.2.2.2.2.2
  have hl : lv_has ls 4 [(0, .ref m0), (1, .int (nI i))] := hl
  have hrow := bc_row hen (by omega) hg
  obtain ⟨o, ho, eO⟩ := bc_wi_oo hw
  refine lv_iconst (v := 0) hx hb de_M_goOn_0 (by decide) ?_
  refine bc_ti (y := nI 0) nI_0.symm ?_
  refine lv_istore_n (lv' := [(2, .int (nI 0)), (0, .ref m0), (1, .int (nI i))]) hx hb de_M_goOn_1 rfl hl (by decide) rfl (fun ls hl => ?_)
  refine bc_loop (fun k_2 H locs ls => ∃ (v : Nat) (N1 : bc_F) (N2 : bc_F), lv_has ls 4 [(2, .int (nI v)), (0, .ref m0), (1, .int (nI i))] ∧ va_P (dC, dI) classes [(m0, .inr (5, [.int fa, .ref r1, .ref r2, .ref r3, .ref r4, .ref r5, .int rw, .ref r6, .ref r7, .ref r8, .int gw, .ref r9, .ref r10, .ref r11, .ref r12, .ref r13, .ref r14, .ref r15, .ref r16])), (r1, .inl (cI, 80, .inl K)), (r2, .inl (cI, 80, .inl O)), (r3, .inl (cI, 80, .inl T)), (r4, .inl (cI, 80, .inl Z)), (r5, .inl (cI, 2, .inl Sz)), (r6, .inl (cZ, 40, .inl Re)), (r7, .inl (cI, 240, .inl Fa)), (r8, .inl (cI, 240, .inl Va)), (r9, .inl (cI, 6, .inl N1)), (r10, .inl (cI, 6, .inl N2))] H ∧ va_D A [(m0, .inr (5, [.int fa, .ref r1, .ref r2, .ref r3, .ref r4, .ref r5, .int rw, .ref r6, .ref r7, .ref r8, .int gw, .ref r9, .ref r10, .ref r11, .ref r12, .ref r13, .ref r14, .ref r15, .ref r16])), (r1, .inl (cI, 80, .inl K)), (r2, .inl (cI, 80, .inl O)), (r3, .inl (cI, 80, .inl T)), (r4, .inl (cI, 80, .inl Z)), (r5, .inl (cI, 2, .inl Sz)), (r6, .inl (cZ, 40, .inl Re)), (r7, .inl (cI, 240, .inl Fa)), (r8, .inl (cI, 240, .inl Va)), (r9, .inl (cI, 6, .inl N1)), (r10, .inl (cI, 6, .inl N2))] ∧ va_S A s.heap H locs ∧ k_2 = 6 - v ∧ (v ≤ 6) ∧ (∀ j, j < v → N1 j = Fa (6 * i + j) ∧ N2 j = Va (6 * i + j))) ?_ ?_
  · rintro k_2 H locs ls ⟨v, N1, N2, hl, hP, hD, hS, hk_2, hv, hJ⟩ ih_2
    refine lv_iload_n hx hb de_M_goOn_2 rfl (lv_at hl 0 rfl) ?_
    refine lv_bipush (v := 6) hx hb de_M_goOn_3 (by decide) ?_
    refine lv_icmp_ge (tgt := 48) hx hb de_M_goOn_5 (by decide) (fun hc_5 => ?_) (fun hc_5 => ?_)
    · have heq : v = 6 := by have := bc_ge (b := 6) (by omega) (by omega) hc_5; omega
      subst heq
      have her := bc_er_row hrow hJ
      refine lv_aload_n hx hb de_M_goOn_48 rfl (lv_at hl 1 rfl) ?_
      refine va_get (D := (dC, dI)) (ci := 5) (v := .ref r2) (C := rc_M) (T := fc_M) (N := 19) hx hb htw wi_M hown hK hP 0 rfl rfl 2 (by decide) (htw _ wm_425) (fun _ h9 => h9) rfl de_M_goOn_49 ?_
      refine lv_iload_n hx hb de_M_goOn_52 rfl (lv_at hl 2 rfl) ?_
      refine bc_ild (j := i) hx hb hK hP 2 0 rfl rfl (by omega) (by decide) de_M_goOn_53 ?_
      refine bc_ti (y := nI o) eO ?_
      refine lv_istore_n (lv' := [(2, .int (nI o)), (0, .ref m0), (1, .int (nI i))]) hx hb de_M_goOn_54 rfl hl (by decide) rfl (fun ls hl => ?_)
      refine bc_meet (σ := Int32) 80 (fun x => [.int x]) (fun x H locs ls => ((x = 1 ∧ (K i = 5 ∧ N1 o = 1)) ∨ (x = 0 ∧ ¬ (K i = 5 ∧ N1 o = 1))) ∧ lv_has ls 4 [(2, .int (nI o)), (0, .ref m0), (1, .int (nI i))] ∧ va_P (dC, dI) classes [(m0, .inr (5, [.int fa, .ref r1, .ref r2, .ref r3, .ref r4, .ref r5, .int rw, .ref r6, .ref r7, .ref r8, .int gw, .ref r9, .ref r10, .ref r11, .ref r12, .ref r13, .ref r14, .ref r15, .ref r16])), (r1, .inl (cI, 80, .inl K)), (r2, .inl (cI, 80, .inl O)), (r3, .inl (cI, 80, .inl T)), (r4, .inl (cI, 80, .inl Z)), (r5, .inl (cI, 2, .inl Sz)), (r6, .inl (cZ, 40, .inl Re)), (r7, .inl (cI, 240, .inl Fa)), (r8, .inl (cI, 240, .inl Va)), (r9, .inl (cI, 6, .inl N1)), (r10, .inl (cI, 6, .inl N2))] H ∧ va_D A [(m0, .inr (5, [.int fa, .ref r1, .ref r2, .ref r3, .ref r4, .ref r5, .int rw, .ref r6, .ref r7, .ref r8, .int gw, .ref r9, .ref r10, .ref r11, .ref r12, .ref r13, .ref r14, .ref r15, .ref r16])), (r1, .inl (cI, 80, .inl K)), (r2, .inl (cI, 80, .inl O)), (r3, .inl (cI, 80, .inl T)), (r4, .inl (cI, 80, .inl Z)), (r5, .inl (cI, 2, .inl Sz)), (r6, .inl (cZ, 40, .inl Re)), (r7, .inl (cI, 240, .inl Fa)), (r8, .inl (cI, 240, .inl Va)), (r9, .inl (cI, 6, .inl N1)), (r10, .inl (cI, 6, .inl N2))] ∧ va_S A s.heap H locs) ?_ ?_
      · rintro x_80 H locs ls ⟨hm_80, hl, hP, hD, hS⟩
        refine lv_istore_n (lv' := [(3, .int x_80), (2, .int (nI o)), (0, .ref m0), (1, .int (nI i))]) hx hb de_M_goOn_80 rfl hl (by decide) rfl (fun ls hl => ?_)
        refine lv_aload_n hx hb de_M_goOn_81 rfl (lv_at hl 2 rfl) ?_
        refine va_get (D := (dC, dI)) (ci := 5) (v := .ref r1) (C := rc_M) (T := fc_M) (N := 19) hx hb htw wi_M hown hK hP 0 rfl rfl 1 (by decide) (htw _ wm_424) (fun _ h9 => h9) rfl de_M_goOn_82 ?_
        refine lv_iload_n hx hb de_M_goOn_85 rfl (lv_at hl 3 rfl) ?_
        refine bc_ild (j := i) hx hb hK hP 1 0 rfl rfl (by omega) (by decide) de_M_goOn_86 ?_
        by_cases hs_87_5 : K i = 5
        · refine bc_ti hs_87_5 ?_
          refine lv_tableIn (off := 41) (tgt := 128) hx hb de_M_goOn_87 (by decide) (by decide) rfl (by decide) ?_
          have htr := (bc_wi_5 hw hs_87_5).2
          refine lv_iload_n hx hb de_M_goOn_128 rfl (lv_at hl 0 rfl) ?_
          refine lv_if_ne (tgt := 141) hx hb de_M_goOn_129 (by decide) (fun hc_129 => ?_) (fun hc_129 => ?_)
          · refine lv_aload_n hx hb de_M_goOn_141 rfl (lv_at hl 2 rfl) ?_
            refine lv_iload_n hx hb de_M_goOn_142 rfl (lv_at hl 3 rfl) ?_
            refine lv_iconst (v := 1) hx hb de_M_goOn_143 (by decide) ?_
            refine lv_iadd hx hb de_M_goOn_144 ?_
            refine bc_ti (y := nI (i + 1)) (nI_add i 1) ?_
            refine bc_call_v_v (As := [.int (nI (i + 1))]) (rest := []) (wr := [(r1, .inl (cI, 80, .inl K)), (r2, .inl (cI, 80, .inl O)), (r3, .inl (cI, 80, .inl T)), (r4, .inl (cI, 80, .inl Z))]) F (co_M_come hn (by omega) hSz hen hre her) wm_508 wm_6 wm_506 wm_507 wm_636 0 rfl rfl pd_M_come rfl rfl ⟨Nat.le_of_ble_eq_true rfl, Nat.le_of_ble_eq_true rfl⟩ hP hD hS hA [0, 5, 6, 7, 8, 9, 10] [1, 2, 3, 4] rfl rfl rfl rfl (by decide) rfl hl.1 rfl (Nat.le_of_ble_eq_true rfl) de_M_goOn_145 ⟨Nat.le_of_ble_eq_true rfl, Nat.le_of_ble_eq_true rfl⟩ (fun u_145 H locs hw_145 hP hD hS => ?_)
            obtain ⟨R1, F1, V1, w1⟩ := u_145
            try dsimp only at hw_145
            obtain ⟨⟨hen1, hre1⟩, hgr1⟩ := hw_145
            have hP : va_P (dC, dI) classes [(m0, .inr (5, [.int fa, .ref r1, .ref r2, .ref r3, .ref r4, .ref r5, .int rw, .ref r6, .ref r7, .ref r8, .int w1, .ref r9, .ref r10, .ref r11, .ref r12, .ref r13, .ref r14, .ref r15, .ref r16])), (r1, .inl (cI, 80, .inl K)), (r2, .inl (cI, 80, .inl O)), (r3, .inl (cI, 80, .inl T)), (r4, .inl (cI, 80, .inl Z)), (r5, .inl (cI, 2, .inl Sz)), (r6, .inl (cZ, 40, .inl R1)), (r7, .inl (cI, 240, .inl F1)), (r8, .inl (cI, 240, .inl V1)), (r9, .inl (cI, 6, .inl N1)), (r10, .inl (cI, 6, .inl N2))] H := hP.sub [4, 0, 1, 2, 3, 5, 6, 7, 8, 9, 10] rfl
            have hD : va_D A [(m0, .inr (5, [.int fa, .ref r1, .ref r2, .ref r3, .ref r4, .ref r5, .int rw, .ref r6, .ref r7, .ref r8, .int w1, .ref r9, .ref r10, .ref r11, .ref r12, .ref r13, .ref r14, .ref r15, .ref r16])), (r1, .inl (cI, 80, .inl K)), (r2, .inl (cI, 80, .inl O)), (r3, .inl (cI, 80, .inl T)), (r4, .inl (cI, 80, .inl Z)), (r5, .inl (cI, 2, .inl Sz)), (r6, .inl (cZ, 40, .inl R1)), (r7, .inl (cI, 240, .inl F1)), (r8, .inl (cI, 240, .inl V1)), (r9, .inl (cI, 6, .inl N1)), (r10, .inl (cI, 6, .inl N2))] := hD.sub [4, 0, 1, 2, 3, 5, 6, 7, 8, 9, 10] (by decide) rfl
            refine lv_iload_n hx hb de_M_goOn_148 rfl (lv_at hl 0 rfl) ?_
            refine lv_if_ne (tgt := 161) hx hb de_M_goOn_149 (by decide) (fun _ => ?_) (fun hc => absurd hc hc_129)
            refine lv_aload_n hx hb de_M_goOn_161 rfl (lv_at hl 2 rfl) ?_
            refine lv_iload_n hx hb de_M_goOn_162 rfl (lv_at hl 1 rfl) ?_
            refine lv_iconst (v := 1) hx hb de_M_goOn_163 (by decide) ?_
            refine lv_iconst (v := 0) hx hb de_M_goOn_164 (by decide) ?_
            refine bc_call_v_v (As := [.int (nI o), .int 1, .int 0]) (rest := []) (wr := [(r1, .inl (cI, 80, .inl K)), (r2, .inl (cI, 80, .inl O)), (r3, .inl (cI, 80, .inl T)), (r4, .inl (cI, 80, .inl Z)), (r5, .inl (cI, 2, .inl Sz)), (r6, .inl (cZ, 40, .inl R1)), (r7, .inl (cI, 240, .inl F1)), (r8, .inl (cI, 240, .inl V1))]) F (co_M_know ho) wm_511 wm_6 wm_509 wm_510 wm_637 0 rfl rfl pd_M_know rfl rfl ⟨Nat.le_of_ble_eq_true rfl, Nat.le_of_ble_eq_true rfl⟩ hP hD hS hA [0, 9, 10] [1, 2, 3, 4, 5, 6, 7, 8] rfl rfl rfl rfl (by decide) rfl hl.1 rfl (Nat.le_of_ble_eq_true rfl) de_M_goOn_165 ⟨Nat.le_of_ble_eq_true rfl, Nat.le_of_ble_eq_true rfl⟩ (fun u_165 H locs hw_165 hP hD hS => ?_)
            have e9 := hw_165.1 (by decide)
            subst e9
            have hP : va_P (dC, dI) classes [(m0, .inr (5, [.int fa, .ref r1, .ref r2, .ref r3, .ref r4, .ref r5, .int rw, .ref r6, .ref r7, .ref r8, .int w1, .ref r9, .ref r10, .ref r11, .ref r12, .ref r13, .ref r14, .ref r15, .ref r16])), (r1, .inl (cI, 80, .inl K)), (r2, .inl (cI, 80, .inl O)), (r3, .inl (cI, 80, .inl T)), (r4, .inl (cI, 80, .inl Z)), (r5, .inl (cI, 2, .inl Sz)), (r6, .inl (cZ, 40, .inl R1)), (r7, .inl (cI, 240, .inl F1)), (r8, .inl (cI, 240, .inl V1)), (r9, .inl (cI, 6, .inl (upd N1 o 2))), (r10, .inl (cI, 6, .inl (upd N2 o 0)))] H := hP.sub [8, 0, 1, 2, 3, 4, 5, 6, 7, 9, 10] rfl
            have hD : va_D A [(m0, .inr (5, [.int fa, .ref r1, .ref r2, .ref r3, .ref r4, .ref r5, .int rw, .ref r6, .ref r7, .ref r8, .int w1, .ref r9, .ref r10, .ref r11, .ref r12, .ref r13, .ref r14, .ref r15, .ref r16])), (r1, .inl (cI, 80, .inl K)), (r2, .inl (cI, 80, .inl O)), (r3, .inl (cI, 80, .inl T)), (r4, .inl (cI, 80, .inl Z)), (r5, .inl (cI, 2, .inl Sz)), (r6, .inl (cZ, 40, .inl R1)), (r7, .inl (cI, 240, .inl F1)), (r8, .inl (cI, 240, .inl V1)), (r9, .inl (cI, 6, .inl (upd N1 o 2))), (r10, .inl (cI, 6, .inl (upd N2 o 0)))] := hD.sub [8, 0, 1, 2, 3, 4, 5, 6, 7, 9, 10] (by decide) rfl
            refine lv_aload_n hx hb de_M_goOn_168 rfl (lv_at hl 2 rfl) ?_
            refine lv_aload_n hx hb de_M_goOn_169 rfl (lv_at hl 2 rfl) ?_
            refine va_get (D := (dC, dI)) (ci := 5) (v := .ref r3) (C := rc_M) (T := fc_M) (N := 19) hx hb htw wi_M hown hK hP 0 rfl rfl 3 (by decide) (htw _ wm_426) (fun _ h9 => h9) rfl de_M_goOn_170 ?_
            refine lv_iload_n hx hb de_M_goOn_173 rfl (lv_at hl 3 rfl) ?_
            refine bc_ild (j := i) hx hb hK hP 3 0 rfl rfl (by omega) (by decide) de_M_goOn_174 ?_
            refine bc_ti (y := nI ((T i).toNatClampNeg)) (bc_tr_eq htr) ?_
            refine bc_call_v_v (As := [.int (nI ((T i).toNatClampNeg))]) (rest := []) (wr := [(r1, .inl (cI, 80, .inl K)), (r2, .inl (cI, 80, .inl O)), (r3, .inl (cI, 80, .inl T)), (r4, .inl (cI, 80, .inl Z))]) F (co_M_come hn (by have := bc_tr_le htr; omega) hSz hen1 hre1 (bc_er_up (x := some 0) her rfl rfl)) wm_508 wm_6 wm_506 wm_507 wm_636 0 rfl rfl pd_M_come rfl rfl ⟨Nat.le_of_ble_eq_true rfl, Nat.le_of_ble_eq_true rfl⟩ hP hD hS hA [0, 5, 6, 7, 8, 9, 10] [1, 2, 3, 4] rfl rfl rfl rfl (by decide) rfl hl.1 rfl (Nat.le_of_ble_eq_true rfl) de_M_goOn_175 ⟨Nat.le_of_ble_eq_true rfl, Nat.le_of_ble_eq_true rfl⟩ (fun u_175 H locs hw_175 hP hD hS => ?_)
            obtain ⟨R2, F2, V2, w2⟩ := u_175
            try dsimp only at hw_175
            obtain ⟨⟨hen2, hre2⟩, hgr2⟩ := hw_175
            have hP : va_P (dC, dI) classes [(m0, .inr (5, [.int fa, .ref r1, .ref r2, .ref r3, .ref r4, .ref r5, .int rw, .ref r6, .ref r7, .ref r8, .int w2, .ref r9, .ref r10, .ref r11, .ref r12, .ref r13, .ref r14, .ref r15, .ref r16])), (r1, .inl (cI, 80, .inl K)), (r2, .inl (cI, 80, .inl O)), (r3, .inl (cI, 80, .inl T)), (r4, .inl (cI, 80, .inl Z)), (r5, .inl (cI, 2, .inl Sz)), (r6, .inl (cZ, 40, .inl R2)), (r7, .inl (cI, 240, .inl F2)), (r8, .inl (cI, 240, .inl V2)), (r9, .inl (cI, 6, .inl (upd N1 o 2))), (r10, .inl (cI, 6, .inl (upd N2 o 0)))] H := hP.sub [4, 0, 1, 2, 3, 5, 6, 7, 8, 9, 10] rfl
            have hD : va_D A [(m0, .inr (5, [.int fa, .ref r1, .ref r2, .ref r3, .ref r4, .ref r5, .int rw, .ref r6, .ref r7, .ref r8, .int w2, .ref r9, .ref r10, .ref r11, .ref r12, .ref r13, .ref r14, .ref r15, .ref r16])), (r1, .inl (cI, 80, .inl K)), (r2, .inl (cI, 80, .inl O)), (r3, .inl (cI, 80, .inl T)), (r4, .inl (cI, 80, .inl Z)), (r5, .inl (cI, 2, .inl Sz)), (r6, .inl (cZ, 40, .inl R2)), (r7, .inl (cI, 240, .inl F2)), (r8, .inl (cI, 240, .inl V2)), (r9, .inl (cI, 6, .inl (upd N1 o 2))), (r10, .inl (cI, 6, .inl (upd N2 o 0)))] := hD.sub [4, 0, 1, 2, 3, 5, 6, 7, 8, 9, 10] (by decide) rfl
            refine lv_goto (tgt := 193) hx hb de_M_goOn_178 (by decide) ?_
            exact bc_vret F hr hlocks ((R2, F2, V2, upd N1 o 2, upd N2 o 0, w2)) ⟨_, hen2, hre2, by rw [bc_out_5v hs_87_5 eO ho (bc_s0_is1 (by rw [← (her o ho).1]; exact hm_80.elim (fun y => y.2.2) (fun y => absurd y.1 hc_129)))]; exact bc_runR_2 hgr1 hgr2⟩ hP hD hS de_M_goOn_193
          · refine lv_aload_n hx hb de_M_goOn_132 rfl (lv_at hl 2 rfl) ?_
            refine va_get (D := (dC, dI)) (ci := 5) (v := .ref r10) (C := rc_M) (T := fc_M) (N := 19) hx hb htw wi_M hown hK hP 0 rfl rfl 12 (by decide) (htw _ wm_435) (fun _ h9 => h9) rfl de_M_goOn_133 ?_
            refine lv_iload_n hx hb de_M_goOn_136 rfl (lv_at hl 1 rfl) ?_
            refine bc_ild (j := o) hx hb hK hP 10 0 rfl rfl (by omega) (by decide) de_M_goOn_137 ?_
            refine lv_if_eq (tgt := 148) hx hb de_M_goOn_138 (by decide) (fun hc_138 => ?_) (fun hc_138 => ?_)
            · refine lv_iload_n hx hb de_M_goOn_148 rfl (lv_at hl 0 rfl) ?_
              refine lv_if_ne (tgt := 161) hx hb de_M_goOn_149 (by decide) (fun hc => absurd hc_129 hc) (fun _ => ?_)
              refine lv_aload_n hx hb de_M_goOn_152 rfl (lv_at hl 2 rfl) ?_
              refine va_get (D := (dC, dI)) (ci := 5) (v := .ref r10) (C := rc_M) (T := fc_M) (N := 19) hx hb htw wi_M hown hK hP 0 rfl rfl 12 (by decide) (htw _ wm_435) (fun _ h9 => h9) rfl de_M_goOn_153 ?_
              refine lv_iload_n hx hb de_M_goOn_156 rfl (lv_at hl 1 rfl) ?_
              refine bc_ild (j := o) hx hb hK hP 10 0 rfl rfl (by omega) (by decide) de_M_goOn_157 ?_
              refine lv_if_ne (tgt := 193) hx hb de_M_goOn_158 (by decide) (fun hc => absurd hc_138 hc) (fun _ => ?_)
              refine lv_aload_n hx hb de_M_goOn_161 rfl (lv_at hl 2 rfl) ?_
              refine lv_iload_n hx hb de_M_goOn_162 rfl (lv_at hl 1 rfl) ?_
              refine lv_iconst (v := 1) hx hb de_M_goOn_163 (by decide) ?_
              refine lv_iconst (v := 0) hx hb de_M_goOn_164 (by decide) ?_
              have hro : rr o = some 0 := by have h9 := bc_s0_n1 (r := rr) (v := o) (by rw [← (her o ho).1]; exact fun z => hm_80.elim (fun y => absurd hc_129 (by rw [y.1]; decide)) (fun y => y.2 ⟨hs_87_5, z⟩)); rw [h9, ← (her o ho).2, hc_138]
              refine bc_call_v_v (As := [.int (nI o), .int 1, .int 0]) (rest := []) (wr := [(r1, .inl (cI, 80, .inl K)), (r2, .inl (cI, 80, .inl O)), (r3, .inl (cI, 80, .inl T)), (r4, .inl (cI, 80, .inl Z)), (r5, .inl (cI, 2, .inl Sz)), (r6, .inl (cZ, 40, .inl Re)), (r7, .inl (cI, 240, .inl Fa)), (r8, .inl (cI, 240, .inl Va))]) F (co_M_know ho) wm_511 wm_6 wm_509 wm_510 wm_637 0 rfl rfl pd_M_know rfl rfl ⟨Nat.le_of_ble_eq_true rfl, Nat.le_of_ble_eq_true rfl⟩ hP hD hS hA [0, 9, 10] [1, 2, 3, 4, 5, 6, 7, 8] rfl rfl rfl rfl (by decide) rfl hl.1 rfl (Nat.le_of_ble_eq_true rfl) de_M_goOn_165 ⟨Nat.le_of_ble_eq_true rfl, Nat.le_of_ble_eq_true rfl⟩ (fun u_165 H locs hw_165 hP hD hS => ?_)
              have e9 := hw_165.1 (by decide)
              subst e9
              have hP : va_P (dC, dI) classes [(m0, .inr (5, [.int fa, .ref r1, .ref r2, .ref r3, .ref r4, .ref r5, .int rw, .ref r6, .ref r7, .ref r8, .int gw, .ref r9, .ref r10, .ref r11, .ref r12, .ref r13, .ref r14, .ref r15, .ref r16])), (r1, .inl (cI, 80, .inl K)), (r2, .inl (cI, 80, .inl O)), (r3, .inl (cI, 80, .inl T)), (r4, .inl (cI, 80, .inl Z)), (r5, .inl (cI, 2, .inl Sz)), (r6, .inl (cZ, 40, .inl Re)), (r7, .inl (cI, 240, .inl Fa)), (r8, .inl (cI, 240, .inl Va)), (r9, .inl (cI, 6, .inl (upd N1 o 2))), (r10, .inl (cI, 6, .inl (upd N2 o 0)))] H := hP.sub [8, 0, 1, 2, 3, 4, 5, 6, 7, 9, 10] rfl
              have hD : va_D A [(m0, .inr (5, [.int fa, .ref r1, .ref r2, .ref r3, .ref r4, .ref r5, .int rw, .ref r6, .ref r7, .ref r8, .int gw, .ref r9, .ref r10, .ref r11, .ref r12, .ref r13, .ref r14, .ref r15, .ref r16])), (r1, .inl (cI, 80, .inl K)), (r2, .inl (cI, 80, .inl O)), (r3, .inl (cI, 80, .inl T)), (r4, .inl (cI, 80, .inl Z)), (r5, .inl (cI, 2, .inl Sz)), (r6, .inl (cZ, 40, .inl Re)), (r7, .inl (cI, 240, .inl Fa)), (r8, .inl (cI, 240, .inl Va)), (r9, .inl (cI, 6, .inl (upd N1 o 2))), (r10, .inl (cI, 6, .inl (upd N2 o 0)))] := hD.sub [8, 0, 1, 2, 3, 4, 5, 6, 7, 9, 10] (by decide) rfl
              refine lv_aload_n hx hb de_M_goOn_168 rfl (lv_at hl 2 rfl) ?_
              refine lv_aload_n hx hb de_M_goOn_169 rfl (lv_at hl 2 rfl) ?_
              refine va_get (D := (dC, dI)) (ci := 5) (v := .ref r3) (C := rc_M) (T := fc_M) (N := 19) hx hb htw wi_M hown hK hP 0 rfl rfl 3 (by decide) (htw _ wm_426) (fun _ h9 => h9) rfl de_M_goOn_170 ?_
              refine lv_iload_n hx hb de_M_goOn_173 rfl (lv_at hl 3 rfl) ?_
              refine bc_ild (j := i) hx hb hK hP 3 0 rfl rfl (by omega) (by decide) de_M_goOn_174 ?_
              refine bc_ti (y := nI ((T i).toNatClampNeg)) (bc_tr_eq htr) ?_
              refine bc_call_v_v (As := [.int (nI ((T i).toNatClampNeg))]) (rest := []) (wr := [(r1, .inl (cI, 80, .inl K)), (r2, .inl (cI, 80, .inl O)), (r3, .inl (cI, 80, .inl T)), (r4, .inl (cI, 80, .inl Z))]) F (co_M_come hn (by have := bc_tr_le htr; omega) hSz hen hre (bc_er_z her hro)) wm_508 wm_6 wm_506 wm_507 wm_636 0 rfl rfl pd_M_come rfl rfl ⟨Nat.le_of_ble_eq_true rfl, Nat.le_of_ble_eq_true rfl⟩ hP hD hS hA [0, 5, 6, 7, 8, 9, 10] [1, 2, 3, 4] rfl rfl rfl rfl (by decide) rfl hl.1 rfl (Nat.le_of_ble_eq_true rfl) de_M_goOn_175 ⟨Nat.le_of_ble_eq_true rfl, Nat.le_of_ble_eq_true rfl⟩ (fun u_175 H locs hw_175 hP hD hS => ?_)
              obtain ⟨R2, F2, V2, w2⟩ := u_175
              try dsimp only at hw_175
              obtain ⟨⟨hen2, hre2⟩, hgr2⟩ := hw_175
              have hP : va_P (dC, dI) classes [(m0, .inr (5, [.int fa, .ref r1, .ref r2, .ref r3, .ref r4, .ref r5, .int rw, .ref r6, .ref r7, .ref r8, .int w2, .ref r9, .ref r10, .ref r11, .ref r12, .ref r13, .ref r14, .ref r15, .ref r16])), (r1, .inl (cI, 80, .inl K)), (r2, .inl (cI, 80, .inl O)), (r3, .inl (cI, 80, .inl T)), (r4, .inl (cI, 80, .inl Z)), (r5, .inl (cI, 2, .inl Sz)), (r6, .inl (cZ, 40, .inl R2)), (r7, .inl (cI, 240, .inl F2)), (r8, .inl (cI, 240, .inl V2)), (r9, .inl (cI, 6, .inl (upd N1 o 2))), (r10, .inl (cI, 6, .inl (upd N2 o 0)))] H := hP.sub [4, 0, 1, 2, 3, 5, 6, 7, 8, 9, 10] rfl
              have hD : va_D A [(m0, .inr (5, [.int fa, .ref r1, .ref r2, .ref r3, .ref r4, .ref r5, .int rw, .ref r6, .ref r7, .ref r8, .int w2, .ref r9, .ref r10, .ref r11, .ref r12, .ref r13, .ref r14, .ref r15, .ref r16])), (r1, .inl (cI, 80, .inl K)), (r2, .inl (cI, 80, .inl O)), (r3, .inl (cI, 80, .inl T)), (r4, .inl (cI, 80, .inl Z)), (r5, .inl (cI, 2, .inl Sz)), (r6, .inl (cZ, 40, .inl R2)), (r7, .inl (cI, 240, .inl F2)), (r8, .inl (cI, 240, .inl V2)), (r9, .inl (cI, 6, .inl (upd N1 o 2))), (r10, .inl (cI, 6, .inl (upd N2 o 0)))] := hD.sub [4, 0, 1, 2, 3, 5, 6, 7, 8, 9, 10] (by decide) rfl
              refine lv_goto (tgt := 193) hx hb de_M_goOn_178 (by decide) ?_
              exact bc_vret F hr hlocks ((R2, F2, V2, upd N1 o 2, upd N2 o 0, w2)) ⟨_, hen2, hre2, by rw [bc_out_5z hs_87_5 eO ho hro rfl]; exact bc_runR_1 hgr2⟩ hP hD hS de_M_goOn_193
            · have hrn : rr o = some (bc_c0 (some rr) o) := bc_s0_n1 (by rw [← (her o ho).1]; exact fun z => hm_80.elim (fun y => absurd hc_129 (by rw [y.1]; decide)) (fun y => y.2 ⟨hs_87_5, z⟩))
              refine lv_aload_n hx hb de_M_goOn_141 rfl (lv_at hl 2 rfl) ?_
              refine lv_iload_n hx hb de_M_goOn_142 rfl (lv_at hl 3 rfl) ?_
              refine lv_iconst (v := 1) hx hb de_M_goOn_143 (by decide) ?_
              refine lv_iadd hx hb de_M_goOn_144 ?_
              refine bc_ti (y := nI (i + 1)) (nI_add i 1) ?_
              refine bc_call_v_v (As := [.int (nI (i + 1))]) (rest := []) (wr := [(r1, .inl (cI, 80, .inl K)), (r2, .inl (cI, 80, .inl O)), (r3, .inl (cI, 80, .inl T)), (r4, .inl (cI, 80, .inl Z))]) F (co_M_come hn (by omega) hSz hen hre her) wm_508 wm_6 wm_506 wm_507 wm_636 0 rfl rfl pd_M_come rfl rfl ⟨Nat.le_of_ble_eq_true rfl, Nat.le_of_ble_eq_true rfl⟩ hP hD hS hA [0, 5, 6, 7, 8, 9, 10] [1, 2, 3, 4] rfl rfl rfl rfl (by decide) rfl hl.1 rfl (Nat.le_of_ble_eq_true rfl) de_M_goOn_145 ⟨Nat.le_of_ble_eq_true rfl, Nat.le_of_ble_eq_true rfl⟩ (fun u_145 H locs hw_145 hP hD hS => ?_)
              obtain ⟨R1, F1, V1, w1⟩ := u_145
              try dsimp only at hw_145
              obtain ⟨⟨hen1, hre1⟩, hgr1⟩ := hw_145
              have hP : va_P (dC, dI) classes [(m0, .inr (5, [.int fa, .ref r1, .ref r2, .ref r3, .ref r4, .ref r5, .int rw, .ref r6, .ref r7, .ref r8, .int w1, .ref r9, .ref r10, .ref r11, .ref r12, .ref r13, .ref r14, .ref r15, .ref r16])), (r1, .inl (cI, 80, .inl K)), (r2, .inl (cI, 80, .inl O)), (r3, .inl (cI, 80, .inl T)), (r4, .inl (cI, 80, .inl Z)), (r5, .inl (cI, 2, .inl Sz)), (r6, .inl (cZ, 40, .inl R1)), (r7, .inl (cI, 240, .inl F1)), (r8, .inl (cI, 240, .inl V1)), (r9, .inl (cI, 6, .inl N1)), (r10, .inl (cI, 6, .inl N2))] H := hP.sub [4, 0, 1, 2, 3, 5, 6, 7, 8, 9, 10] rfl
              have hD : va_D A [(m0, .inr (5, [.int fa, .ref r1, .ref r2, .ref r3, .ref r4, .ref r5, .int rw, .ref r6, .ref r7, .ref r8, .int w1, .ref r9, .ref r10, .ref r11, .ref r12, .ref r13, .ref r14, .ref r15, .ref r16])), (r1, .inl (cI, 80, .inl K)), (r2, .inl (cI, 80, .inl O)), (r3, .inl (cI, 80, .inl T)), (r4, .inl (cI, 80, .inl Z)), (r5, .inl (cI, 2, .inl Sz)), (r6, .inl (cZ, 40, .inl R1)), (r7, .inl (cI, 240, .inl F1)), (r8, .inl (cI, 240, .inl V1)), (r9, .inl (cI, 6, .inl N1)), (r10, .inl (cI, 6, .inl N2))] := hD.sub [4, 0, 1, 2, 3, 5, 6, 7, 8, 9, 10] (by decide) rfl
              refine lv_iload_n hx hb de_M_goOn_148 rfl (lv_at hl 0 rfl) ?_
              refine lv_if_ne (tgt := 161) hx hb de_M_goOn_149 (by decide) (fun hc => absurd hc_129 hc) (fun _ => ?_)
              refine lv_aload_n hx hb de_M_goOn_152 rfl (lv_at hl 2 rfl) ?_
              refine va_get (D := (dC, dI)) (ci := 5) (v := .ref r10) (C := rc_M) (T := fc_M) (N := 19) hx hb htw wi_M hown hK hP 0 rfl rfl 12 (by decide) (htw _ wm_435) (fun _ h9 => h9) rfl de_M_goOn_153 ?_
              refine lv_iload_n hx hb de_M_goOn_156 rfl (lv_at hl 1 rfl) ?_
              refine bc_ild (j := o) hx hb hK hP 10 0 rfl rfl (by omega) (by decide) de_M_goOn_157 ?_
              refine lv_if_ne (tgt := 193) hx hb de_M_goOn_158 (by decide) (fun _ => ?_) (fun hc => absurd hc hc_138)
              exact bc_vret F hr hlocks ((R1, F1, V1, N1, N2, w1)) ⟨_, hen1, hre1, by rw [bc_out_5n hs_87_5 eO ho hrn (by rw [← (her o ho).2]; exact hc_138)]; exact bc_runR_1 hgr1⟩ hP hD hS de_M_goOn_193
        by_cases hs_87_6 : K i = 6
        · refine bc_ti hs_87_6 ?_
          refine lv_tableIn (off := 25) (tgt := 112) hx hb de_M_goOn_87 (by decide) (by decide) rfl (by decide) ?_
          refine lv_aload_n hx hb de_M_goOn_112 rfl (lv_at hl 2 rfl) ?_
          refine lv_aload_n hx hb de_M_goOn_113 rfl (lv_at hl 2 rfl) ?_
          refine va_get (D := (dC, dI)) (ci := 5) (v := .ref r3) (C := rc_M) (T := fc_M) (N := 19) hx hb htw wi_M hown hK hP 0 rfl rfl 3 (by decide) (htw _ wm_426) (fun _ h9 => h9) rfl de_M_goOn_114 ?_
          refine lv_iload_n hx hb de_M_goOn_117 rfl (lv_at hl 3 rfl) ?_
          refine bc_ild (j := i) hx hb hK hP 3 0 rfl rfl (by omega) (by decide) de_M_goOn_118 ?_
          refine bc_ti (y := nI ((T i).toNatClampNeg)) (bc_tr_eq (bc_wi_6 hw hs_87_6)) ?_
          refine bc_call_v_v (As := [.int (nI ((T i).toNatClampNeg))]) (rest := []) (wr := [(r1, .inl (cI, 80, .inl K)), (r2, .inl (cI, 80, .inl O)), (r3, .inl (cI, 80, .inl T)), (r4, .inl (cI, 80, .inl Z))]) F (co_M_come hn (by have := bc_tr_le (bc_wi_6 hw hs_87_6); omega) hSz hen hre her) wm_508 wm_6 wm_506 wm_507 wm_636 0 rfl rfl pd_M_come rfl rfl ⟨Nat.le_of_ble_eq_true rfl, Nat.le_of_ble_eq_true rfl⟩ hP hD hS hA [0, 5, 6, 7, 8, 9, 10] [1, 2, 3, 4] rfl rfl rfl rfl (by decide) rfl hl.1 rfl (Nat.le_of_ble_eq_true rfl) de_M_goOn_119 ⟨Nat.le_of_ble_eq_true rfl, Nat.le_of_ble_eq_true rfl⟩ (fun u_119 H locs hw_119 hP hD hS => ?_)
          obtain ⟨R1, F1, V1, w1⟩ := u_119
          try dsimp only at hw_119
          obtain ⟨⟨hen1, hre1⟩, hgr1⟩ := hw_119
          have hP : va_P (dC, dI) classes [(m0, .inr (5, [.int fa, .ref r1, .ref r2, .ref r3, .ref r4, .ref r5, .int rw, .ref r6, .ref r7, .ref r8, .int w1, .ref r9, .ref r10, .ref r11, .ref r12, .ref r13, .ref r14, .ref r15, .ref r16])), (r1, .inl (cI, 80, .inl K)), (r2, .inl (cI, 80, .inl O)), (r3, .inl (cI, 80, .inl T)), (r4, .inl (cI, 80, .inl Z)), (r5, .inl (cI, 2, .inl Sz)), (r6, .inl (cZ, 40, .inl R1)), (r7, .inl (cI, 240, .inl F1)), (r8, .inl (cI, 240, .inl V1)), (r9, .inl (cI, 6, .inl N1)), (r10, .inl (cI, 6, .inl N2))] H := hP.sub [4, 0, 1, 2, 3, 5, 6, 7, 8, 9, 10] rfl
          have hD : va_D A [(m0, .inr (5, [.int fa, .ref r1, .ref r2, .ref r3, .ref r4, .ref r5, .int rw, .ref r6, .ref r7, .ref r8, .int w1, .ref r9, .ref r10, .ref r11, .ref r12, .ref r13, .ref r14, .ref r15, .ref r16])), (r1, .inl (cI, 80, .inl K)), (r2, .inl (cI, 80, .inl O)), (r3, .inl (cI, 80, .inl T)), (r4, .inl (cI, 80, .inl Z)), (r5, .inl (cI, 2, .inl Sz)), (r6, .inl (cZ, 40, .inl R1)), (r7, .inl (cI, 240, .inl F1)), (r8, .inl (cI, 240, .inl V1)), (r9, .inl (cI, 6, .inl N1)), (r10, .inl (cI, 6, .inl N2))] := hD.sub [4, 0, 1, 2, 3, 5, 6, 7, 8, 9, 10] (by decide) rfl
          refine lv_goto (tgt := 193) hx hb de_M_goOn_122 (by decide) ?_
          exact bc_vret F hr hlocks ((R1, F1, V1, N1, N2, w1)) ⟨_, hen1, hre1, by rw [bc_out_6 (by rw [hs_87_6]; decide) hs_87_6]; exact bc_runR_1 hgr1⟩ hP hD hS de_M_goOn_193
        by_cases hs_87_7 : K i = 7
        · refine bc_ti hs_87_7 ?_
          refine lv_tableIn (off := 38) (tgt := 125) hx hb de_M_goOn_87 (by decide) (by decide) rfl (by decide) ?_
          refine lv_goto (tgt := 193) hx hb de_M_goOn_125 (by decide) ?_
          exact bc_vret F hr hlocks ((Re, Fa, Va, N1, N2, gw)) ⟨g, hen, hre, by rw [bc_out_7 (by rw [hs_87_7]; decide) (by rw [hs_87_7]; decide) (by rw [hs_87_7]; decide)]; exact ⟨rfl, rfl⟩⟩ hP hD hS de_M_goOn_193
        refine lv_tableOut (tgt := 181) hx hb de_M_goOn_87 (bc_to_5_7 hs_87_5 hs_87_6 hs_87_7) (by decide) ?_
        have h4 := bc_7k hw hs_87_5 hs_87_6 hs_87_7
        refine lv_aload_n hx hb de_M_goOn_181 rfl (lv_at hl 2 rfl) ?_
        refine lv_iload_n hx hb de_M_goOn_182 rfl (lv_at hl 3 rfl) ?_
        refine bc_call_v_v (As := [.int (nI i)]) (rest := []) (wr := [(r5, .inl (cI, 2, .inl Sz)), (r6, .inl (cZ, 40, .inl Re))]) F (co_M_pass (by omega) hw h4 eO ho hrow) wm_514 wm_6 wm_512 wm_513 wm_638 0 rfl rfl pd_M_pass rfl rfl ⟨Nat.le_of_ble_eq_true rfl, Nat.le_of_ble_eq_true rfl⟩ hP hD hS hA [0, 1, 2, 3, 4, 7, 8, 9, 10] [5, 6] rfl rfl rfl rfl (by decide) rfl hl.1 rfl (Nat.le_of_ble_eq_true rfl) de_M_goOn_183 ⟨Nat.le_of_ble_eq_true rfl, Nat.le_of_ble_eq_true rfl⟩ (fun u_183 H locs hw_183 hP hD hS => ?_)
        have hP : va_P (dC, dI) classes [(m0, .inr (5, [.int fa, .ref r1, .ref r2, .ref r3, .ref r4, .ref r5, .int rw, .ref r6, .ref r7, .ref r8, .int gw, .ref r9, .ref r10, .ref r11, .ref r12, .ref r13, .ref r14, .ref r15, .ref r16])), (r1, .inl (cI, 80, .inl K)), (r2, .inl (cI, 80, .inl O)), (r3, .inl (cI, 80, .inl T)), (r4, .inl (cI, 80, .inl Z)), (r5, .inl (cI, 2, .inl Sz)), (r6, .inl (cZ, 40, .inl Re)), (r7, .inl (cI, 240, .inl Fa)), (r8, .inl (cI, 240, .inl Va)), (r9, .inl (cI, 6, .inl u_183.1)), (r10, .inl (cI, 6, .inl u_183.2))] H := hP.sub [2, 3, 4, 5, 6, 0, 1, 7, 8, 9, 10] rfl
        have hD : va_D A [(m0, .inr (5, [.int fa, .ref r1, .ref r2, .ref r3, .ref r4, .ref r5, .int rw, .ref r6, .ref r7, .ref r8, .int gw, .ref r9, .ref r10, .ref r11, .ref r12, .ref r13, .ref r14, .ref r15, .ref r16])), (r1, .inl (cI, 80, .inl K)), (r2, .inl (cI, 80, .inl O)), (r3, .inl (cI, 80, .inl T)), (r4, .inl (cI, 80, .inl Z)), (r5, .inl (cI, 2, .inl Sz)), (r6, .inl (cZ, 40, .inl Re)), (r7, .inl (cI, 240, .inl Fa)), (r8, .inl (cI, 240, .inl Va)), (r9, .inl (cI, 6, .inl u_183.1)), (r10, .inl (cI, 6, .inl u_183.2))] := hD.sub [2, 3, 4, 5, 6, 0, 1, 7, 8, 9, 10] (by decide) rfl
        refine lv_aload_n hx hb de_M_goOn_186 rfl (lv_at hl 2 rfl) ?_
        refine lv_iload_n hx hb de_M_goOn_187 rfl (lv_at hl 3 rfl) ?_
        refine lv_iconst (v := 1) hx hb de_M_goOn_188 (by decide) ?_
        refine lv_iadd hx hb de_M_goOn_189 ?_
        refine bc_ti (y := nI (i + 1)) (nI_add i 1) ?_
        refine bc_call_v_v (As := [.int (nI (i + 1))]) (rest := []) (wr := [(r1, .inl (cI, 80, .inl K)), (r2, .inl (cI, 80, .inl O)), (r3, .inl (cI, 80, .inl T)), (r4, .inl (cI, 80, .inl Z))]) F (co_M_come hn (by omega) hSz hen hre (bc_pp_er hw_183 her)) wm_508 wm_6 wm_506 wm_507 wm_636 0 rfl rfl pd_M_come rfl rfl ⟨Nat.le_of_ble_eq_true rfl, Nat.le_of_ble_eq_true rfl⟩ hP hD hS hA [0, 5, 6, 7, 8, 9, 10] [1, 2, 3, 4] rfl rfl rfl rfl (by decide) rfl hl.1 rfl (Nat.le_of_ble_eq_true rfl) de_M_goOn_190 ⟨Nat.le_of_ble_eq_true rfl, Nat.le_of_ble_eq_true rfl⟩ (fun u_190 H locs hw_190 hP hD hS => ?_)
        obtain ⟨R1, F1, V1, w1⟩ := u_190
        try dsimp only at hw_190
        obtain ⟨⟨hen1, hre1⟩, hgr1⟩ := hw_190
        have hP : va_P (dC, dI) classes [(m0, .inr (5, [.int fa, .ref r1, .ref r2, .ref r3, .ref r4, .ref r5, .int rw, .ref r6, .ref r7, .ref r8, .int w1, .ref r9, .ref r10, .ref r11, .ref r12, .ref r13, .ref r14, .ref r15, .ref r16])), (r1, .inl (cI, 80, .inl K)), (r2, .inl (cI, 80, .inl O)), (r3, .inl (cI, 80, .inl T)), (r4, .inl (cI, 80, .inl Z)), (r5, .inl (cI, 2, .inl Sz)), (r6, .inl (cZ, 40, .inl R1)), (r7, .inl (cI, 240, .inl F1)), (r8, .inl (cI, 240, .inl V1)), (r9, .inl (cI, 6, .inl u_183.1)), (r10, .inl (cI, 6, .inl u_183.2))] H := hP.sub [4, 0, 1, 2, 3, 5, 6, 7, 8, 9, 10] rfl
        have hD : va_D A [(m0, .inr (5, [.int fa, .ref r1, .ref r2, .ref r3, .ref r4, .ref r5, .int rw, .ref r6, .ref r7, .ref r8, .int w1, .ref r9, .ref r10, .ref r11, .ref r12, .ref r13, .ref r14, .ref r15, .ref r16])), (r1, .inl (cI, 80, .inl K)), (r2, .inl (cI, 80, .inl O)), (r3, .inl (cI, 80, .inl T)), (r4, .inl (cI, 80, .inl Z)), (r5, .inl (cI, 2, .inl Sz)), (r6, .inl (cZ, 40, .inl R1)), (r7, .inl (cI, 240, .inl F1)), (r8, .inl (cI, 240, .inl V1)), (r9, .inl (cI, 6, .inl u_183.1)), (r10, .inl (cI, 6, .inl u_183.2))] := hD.sub [4, 0, 1, 2, 3, 5, 6, 7, 8, 9, 10] (by decide) rfl
        exact bc_vret F hr hlocks ((R1, F1, V1, u_183.1, u_183.2, w1)) ⟨_, hen1, hre1, by rw [bc_out_4 h4 eO ho]; exact bc_runR_1 hgr1⟩ hP hD hS de_M_goOn_193
      · intro km_80
        refine lv_aload_n hx hb de_M_goOn_55 rfl (lv_at hl 1 rfl) ?_
        refine va_get (D := (dC, dI)) (ci := 5) (v := .ref r1) (C := rc_M) (T := fc_M) (N := 19) hx hb htw wi_M hown hK hP 0 rfl rfl 1 (by decide) (htw _ wm_424) (fun _ h9 => h9) rfl de_M_goOn_56 ?_
        refine lv_iload_n hx hb de_M_goOn_59 rfl (lv_at hl 2 rfl) ?_
        refine bc_ild (j := i) hx hb hK hP 1 0 rfl rfl (by omega) (by decide) de_M_goOn_60 ?_
        refine lv_iconst (v := 5) hx hb de_M_goOn_61 (by decide) ?_
        refine lv_icmp_ne (tgt := 79) hx hb de_M_goOn_62 (by decide) (fun hc_62 => ?_) (fun hc_62 => ?_)
        · refine lv_iconst (v := 0) hx hb de_M_goOn_79 (by decide) ?_
          exact km_80 0 _ _ _ ⟨(Or.inr ⟨rfl, fun z => hc_62 z.1⟩), hl, hP, hD, hS⟩
        · refine lv_aload_n hx hb de_M_goOn_65 rfl (lv_at hl 1 rfl) ?_
          refine va_get (D := (dC, dI)) (ci := 5) (v := .ref r9) (C := rc_M) (T := fc_M) (N := 19) hx hb htw wi_M hown hK hP 0 rfl rfl 11 (by decide) (htw _ wm_434) (fun _ h9 => h9) rfl de_M_goOn_66 ?_
          refine lv_iload_n hx hb de_M_goOn_69 rfl (lv_at hl 0 rfl) ?_
          refine bc_ild (j := o) hx hb hK hP 9 0 rfl rfl (by omega) (by decide) de_M_goOn_70 ?_
          refine lv_iconst (v := 1) hx hb de_M_goOn_71 (by decide) ?_
          refine lv_icmp_ne (tgt := 79) hx hb de_M_goOn_72 (by decide) (fun hc_72 => ?_) (fun hc_72 => ?_)
          · refine lv_iconst (v := 0) hx hb de_M_goOn_79 (by decide) ?_
            exact km_80 0 _ _ _ ⟨(Or.inr ⟨rfl, fun z => hc_72 z.2⟩), hl, hP, hD, hS⟩
          · refine lv_iconst (v := 1) hx hb de_M_goOn_75 (by decide) ?_
            refine lv_goto (tgt := 80) hx hb de_M_goOn_76 (by decide) ?_
            exact km_80 1 _ _ _ ⟨(Or.inl ⟨rfl, hc_62, hc_72⟩), hl, hP, hD, hS⟩
    · have hv6 : v < 6 := bc_lt (b := 6) (by omega) (by omega) hc_5
      refine lv_aload_n hx hb de_M_goOn_8 rfl (lv_at hl 1 rfl) ?_
      refine va_get (D := (dC, dI)) (ci := 5) (v := .ref r9) (C := rc_M) (T := fc_M) (N := 19) hx hb htw wi_M hown hK hP 0 rfl rfl 11 (by decide) (htw _ wm_434) (fun _ h9 => h9) rfl de_M_goOn_9 ?_
      refine lv_iload_n hx hb de_M_goOn_12 rfl (lv_at hl 0 rfl) ?_
      refine lv_aload_n hx hb de_M_goOn_13 rfl (lv_at hl 1 rfl) ?_
      refine va_get (D := (dC, dI)) (ci := 5) (v := .ref r7) (C := rc_M) (T := fc_M) (N := 19) hx hb htw wi_M hown hK hP 0 rfl rfl 8 (by decide) (htw _ wm_431) (fun _ h9 => h9) rfl de_M_goOn_14 ?_
      refine lv_bipush (v := 6) hx hb de_M_goOn_17 (by decide) ?_
      refine lv_iload_n hx hb de_M_goOn_19 rfl (lv_at hl 2 rfl) ?_
      refine lv_imul hx hb de_M_goOn_20 ?_
      refine bc_ti (y := nI (6 * i)) (pk_mul 6 i) ?_
      refine lv_iload_n hx hb de_M_goOn_21 rfl (lv_at hl 0 rfl) ?_
      refine lv_iadd hx hb de_M_goOn_22 ?_
      refine bc_ti (y := nI ((6 * i) + v)) (nI_add (6 * i) v) ?_
      refine bc_ild (j := (6 * i) + v) hx hb hK hP 7 0 rfl rfl (by omega) (by decide) de_M_goOn_23 ?_
      refine bc_ist (j := v) hx hb hK hP hD hS 9 0 rfl rfl (by omega) (by decide) de_M_goOn_24 (fun H locs hP hD hS => ?_)
      have hP : va_P (dC, dI) classes [(m0, .inr (5, [.int fa, .ref r1, .ref r2, .ref r3, .ref r4, .ref r5, .int rw, .ref r6, .ref r7, .ref r8, .int gw, .ref r9, .ref r10, .ref r11, .ref r12, .ref r13, .ref r14, .ref r15, .ref r16])), (r1, .inl (cI, 80, .inl K)), (r2, .inl (cI, 80, .inl O)), (r3, .inl (cI, 80, .inl T)), (r4, .inl (cI, 80, .inl Z)), (r5, .inl (cI, 2, .inl Sz)), (r6, .inl (cZ, 40, .inl Re)), (r7, .inl (cI, 240, .inl Fa)), (r8, .inl (cI, 240, .inl Va)), (r9, .inl (cI, 6, .inl (upd N1 v (Fa ((6 * i) + v))))), (r10, .inl (cI, 6, .inl N2))] H := hP
      have hD : va_D A [(m0, .inr (5, [.int fa, .ref r1, .ref r2, .ref r3, .ref r4, .ref r5, .int rw, .ref r6, .ref r7, .ref r8, .int gw, .ref r9, .ref r10, .ref r11, .ref r12, .ref r13, .ref r14, .ref r15, .ref r16])), (r1, .inl (cI, 80, .inl K)), (r2, .inl (cI, 80, .inl O)), (r3, .inl (cI, 80, .inl T)), (r4, .inl (cI, 80, .inl Z)), (r5, .inl (cI, 2, .inl Sz)), (r6, .inl (cZ, 40, .inl Re)), (r7, .inl (cI, 240, .inl Fa)), (r8, .inl (cI, 240, .inl Va)), (r9, .inl (cI, 6, .inl (upd N1 v (Fa ((6 * i) + v))))), (r10, .inl (cI, 6, .inl N2))] := hD
      refine lv_aload_n hx hb de_M_goOn_25 rfl (lv_at hl 1 rfl) ?_
      refine va_get (D := (dC, dI)) (ci := 5) (v := .ref r10) (C := rc_M) (T := fc_M) (N := 19) hx hb htw wi_M hown hK hP 0 rfl rfl 12 (by decide) (htw _ wm_435) (fun _ h9 => h9) rfl de_M_goOn_26 ?_
      refine lv_iload_n hx hb de_M_goOn_29 rfl (lv_at hl 0 rfl) ?_
      refine lv_aload_n hx hb de_M_goOn_30 rfl (lv_at hl 1 rfl) ?_
      refine va_get (D := (dC, dI)) (ci := 5) (v := .ref r8) (C := rc_M) (T := fc_M) (N := 19) hx hb htw wi_M hown hK hP 0 rfl rfl 9 (by decide) (htw _ wm_432) (fun _ h9 => h9) rfl de_M_goOn_31 ?_
      refine lv_bipush (v := 6) hx hb de_M_goOn_34 (by decide) ?_
      refine lv_iload_n hx hb de_M_goOn_36 rfl (lv_at hl 2 rfl) ?_
      refine lv_imul hx hb de_M_goOn_37 ?_
      refine bc_ti (y := nI (6 * i)) (pk_mul 6 i) ?_
      refine lv_iload_n hx hb de_M_goOn_38 rfl (lv_at hl 0 rfl) ?_
      refine lv_iadd hx hb de_M_goOn_39 ?_
      refine bc_ti (y := nI ((6 * i) + v)) (nI_add (6 * i) v) ?_
      refine bc_ild (j := (6 * i) + v) hx hb hK hP 8 0 rfl rfl (by omega) (by decide) de_M_goOn_40 ?_
      refine bc_ist (j := v) hx hb hK hP hD hS 10 0 rfl rfl (by omega) (by decide) de_M_goOn_41 (fun H locs hP hD hS => ?_)
      have hP : va_P (dC, dI) classes [(m0, .inr (5, [.int fa, .ref r1, .ref r2, .ref r3, .ref r4, .ref r5, .int rw, .ref r6, .ref r7, .ref r8, .int gw, .ref r9, .ref r10, .ref r11, .ref r12, .ref r13, .ref r14, .ref r15, .ref r16])), (r1, .inl (cI, 80, .inl K)), (r2, .inl (cI, 80, .inl O)), (r3, .inl (cI, 80, .inl T)), (r4, .inl (cI, 80, .inl Z)), (r5, .inl (cI, 2, .inl Sz)), (r6, .inl (cZ, 40, .inl Re)), (r7, .inl (cI, 240, .inl Fa)), (r8, .inl (cI, 240, .inl Va)), (r9, .inl (cI, 6, .inl (upd N1 v (Fa ((6 * i) + v))))), (r10, .inl (cI, 6, .inl (upd N2 v (Va ((6 * i) + v)))))] H := hP
      have hD : va_D A [(m0, .inr (5, [.int fa, .ref r1, .ref r2, .ref r3, .ref r4, .ref r5, .int rw, .ref r6, .ref r7, .ref r8, .int gw, .ref r9, .ref r10, .ref r11, .ref r12, .ref r13, .ref r14, .ref r15, .ref r16])), (r1, .inl (cI, 80, .inl K)), (r2, .inl (cI, 80, .inl O)), (r3, .inl (cI, 80, .inl T)), (r4, .inl (cI, 80, .inl Z)), (r5, .inl (cI, 2, .inl Sz)), (r6, .inl (cZ, 40, .inl Re)), (r7, .inl (cI, 240, .inl Fa)), (r8, .inl (cI, 240, .inl Va)), (r9, .inl (cI, 6, .inl (upd N1 v (Fa ((6 * i) + v))))), (r10, .inl (cI, 6, .inl (upd N2 v (Va ((6 * i) + v)))))] := hD
      refine lv_iinc (k := 0) (v := nI (v + 1)) (lv' := [(2, .int (nI (v + 1))), (0, .ref m0), (1, .int (nI i))]) hx hb de_M_goOn_42 hl rfl (bc_inc _) (by decide) rfl (fun ls hl => ?_)
      refine lv_goto (tgt := 2) hx hb de_M_goOn_45 (by decide) ?_
      exact ih_2 _ _ _ _ (by omega) ⟨(v + 1), upd N1 v (Fa (6 * i + v)), upd N2 v (Va (6 * i + v)), lv_sub hl [0, 1, 2] rfl, hP, hD, hS, rfl, (by omega), bc_all2 hJ⟩
  · exact ⟨_, 0, Nf, Nv, lv_sub hl [0, 1, 2] rfl, hP, hD, hS, rfl, Nat.zero_le _, fun j hj => absurd hj (Nat.not_lt_zero j)⟩

