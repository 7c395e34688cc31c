/-! the reference: its analysis (by program: wip/whole/gen/modM2.py) -/
def bc_re (Re : bc_F) (g : bc_G) : Prop := ∀ i, i < 40 → (Re i = 0 ↔ g i = none) ∧ (Re i = 0 ∨ Re i = 1)
theorem bc_ceA {S C SB CB : bc_F} {g : bc_G} {t v : Nat} {q : bc_R} (hep : bc_ep S C g t q v) (hv : v < 6) (hg : g t = none) (her : bc_er SB CB q) : bc_ep (upd S (6 * t + v) (SB v)) (upd C (6 * t + v) (CB v)) g t q (v + 1) ∧ bc_chv (g t) q (v + 1) := by
  refine ⟨bc_ep_up hep hv ?_ ?_, ?_⟩
  · rw [hg]; exact (her v hv).1
  · rw [hg]; exact (her v hv).2
  · rw [hg]; exact (show 0 < v + 1 by omega)
theorem bc_ceB {S C SB CB : bc_F} {g : bc_G} {t v : Nat} {q r : bc_R} (hep : bc_ep S C g t q v) (ht : t < 40) (hv : v < 6) (hr : g t = some r) (h1 : ¬ S (6 * t + v) = 1) (hb : ¬ (SB v = 2 ∧ C (6 * t + v) = CB v)) (her : bc_er SB CB q) : bc_ep (upd S (6 * t + v) 1) (upd C (6 * t + v) 0) g t q (v + 1) ∧ bc_chv (g t) q (v + 1) := by
  have e1 := bc_ep_at hep ht hv
  rw [hr] at e1
  have hrv : r v = some (bc_c0 (some r) v) := bc_s0_n1 (by rw [← e1.1]; exact h1)
  have hne : r v ≠ q v := by
    intro z
    have z2 : q v = some (bc_c0 (some r) v) := by rw [← z]; exact hrv
    exact hb ⟨(her v hv).1.trans (bc_s0_2 z2).1, e1.2.trans ((her v hv).2.trans (bc_s0_2 z2).2).symm⟩
  have hj : bc_jo (some r) q v = none := bc_jo_diff hne
  refine ⟨bc_ep_up hep hv ?_ ?_, ?_⟩
  · rw [hr]; exact (bc_s0_1 hj).1.symm
  · rw [hr]; exact (bc_s0_1 hj).2.symm
  · rw [hr]; exact bc_chv_at (by rw [hrv]; exact fun z => by cases z) hne
theorem bc_ceC {S C SB CB : bc_F} {g : bc_G} {t v : Nat} {q r : bc_R} (hep : bc_ep S C g t q v) (ht : t < 40) (hv : v < 6) (hr : g t = some r) (hc : S (6 * t + v) = 1 ∨ (SB v = 2 ∧ C (6 * t + v) = CB v)) (her : bc_er SB CB q) : bc_ep S C g t q (v + 1) ∧ (bc_chv (g t) q (v + 1) → bc_chv (g t) q v) := by
  have e1 := bc_ep_at hep ht hv
  rw [hr] at e1
  have hsame : r v = none ∨ r v = q v := by
    by_cases h1 : S (6 * t + v) = 1
    · left
      exact bc_s0_is1 (by rw [← e1.1]; exact h1)
    · right
      rcases hc with h | ⟨h, h'⟩
      · exact absurd h h1
      · have a1 : r v = some (bc_c0 (some r) v) := bc_s0_n1 (by rw [← e1.1]; exact h1)
        have a2 : q v = some (bc_c0 (some q) v) := bc_s0_is2 (by rw [← (her v hv).1]; exact h)
        rw [a1, a2, ← e1.2, h', (her v hv).2]
  have hj := bc_jo_same hsame
  refine ⟨bc_ep_id hep ?_ ?_, ?_⟩
  · rw [hr]; exact (bc_s0_cg hj.symm).1
  · rw [hr]; exact (bc_s0_cg hj.symm).2
  · rw [hr]; exact fun z => bc_chv_no z hsame
def bc_gv (a : Option bc_R) (q : bc_R) (v : Nat) (w w' : Int32) : Prop := (bc_chv a q v → w' = 1) ∧ (¬ bc_chv a q v → w' = w)
theorem bc_gv_0 (a : Option bc_R) (q : bc_R) (w : Int32) : bc_gv a q 0 w w := ⟨fun h => absurd h (bc_chv_0 a q), fun _ => rfl⟩
theorem bc_gv_1 {a : Option bc_R} {q : bc_R} {v : Nat} {w : Int32} (hc : bc_chv a q (v + 1)) : bc_gv a q (v + 1) w 1 := ⟨fun _ => rfl, fun z => absurd hc z⟩
theorem bc_gv_n {a : Option bc_R} {q : bc_R} {v : Nat} {w w' : Int32} (h : bc_gv a q v w w') (hc : bc_chv a q (v + 1) → bc_chv a q v) : bc_gv a q (v + 1) w w' := ⟨fun z => h.1 (hc z), fun z => h.2 (fun y => z (bc_chv_s y))⟩
theorem bc_gv_6 {n t : Nat} {g : bc_G} {q : bc_R} {w w' : Int32} (ht : t < n) (h : bc_gv (g t) q 6 w w') : bc_gr n g t q w w' := ⟨fun _ hc => h.1 ((bc_chv_6 _ _).mpr hc), fun z => h.2 (fun y => by
  rcases z with z | z
  · exact z ht
  · exact z ((bc_chv_6 _ _).mp y))⟩
theorem bc_re_come {n t : Nat} {g : bc_G} {q : bc_R} {Re : bc_F} (h : bc_re Re g) (ht : t < n) : bc_re (upd Re t 1) (bc_come n g t q) := by
  intro i hi
  by_cases e : i = t
  · subst e
    rw [pk_us, bc_come_at ht]
    exact ⟨⟨fun z => absurd z (by decide), fun z => (by cases z)⟩, Or.inr rfl⟩
  · rw [pk_un e, bc_come_ne e]
    exact h i hi
theorem bc_re_n {Re : bc_F} {g : bc_G} {i : Nat} (h : bc_re Re g) (hi : i < 40) (h0 : ¬ Re i = 0) : ∃ r, g i = some r := by
  cases hg : g i with
  | none => exact absurd ((h i hi).1.mpr hg) h0
  | some r => exact ⟨r, rfl⟩
set_option maxHeartbeats 4000000 in
set_option maxRecDepth 100000 in
/-- what is now is joined with what is held -/
theorem co_M_come {l : Launch} {dC : Nat → ClassId} {dI : Nat → Nat → Nat} {cI cZ : ClassId} {sz : Nat} {m0 r1 r2 r3 r4 r5 r6 r7 r8 r9 r10 r11 r12 r13 r14 r15 r16 : Nat} {Sz Re Fa Va Nf Nv : bc_F} {fa rw gw : Int32} {n t : Nat} {g : bc_G} {q : bc_R} (hn : n ≤ 40) (ht : t < 2 ^ 31) (hSz : Sz 0 = nI n) (hen : bc_en Fa Va g) (hre : bc_re Re g) (her : bc_er Nf Nv q) : Met l yn_M_come (Cond.code yn_M_come by_M_come 5 none :: wd_all) ({ frames := 0, cells := 0, slots := 0, locals := 0 } : Room) (bc_Pre (dC, dI) classes [(cI, .int), (cZ, .boolean)] [.ref m0, .int (nI t)] [(m0, .inr (5, [.int fa, .ref r1, .ref r2, .ref r3, .ref r4, .ref r5, .int rw, .ref r6, .ref r7, .ref r8, .int gw, .ref r9, .ref r10, .ref r11, .ref r12, .ref r13, .ref r14, .ref r15, .ref r16])), (r5, .inl (cI, 2, .inl Sz)), (r6, .inl (cZ, 40, .inl Re)), (r7, .inl (cI, 240, .inl Fa)), (r8, .inl (cI, 240, .inl Va)), (r9, .inl (cI, 6, .inl Nf)), (r10, .inl (cI, 6, .inl Nv))] sz) (va_Qv (fun (u : bc_F × bc_F × bc_F × Int32) => (bc_en u.2.1 u.2.2.1 (bc_come n g t q) ∧ bc_re u.1 (bc_come n g t q)) ∧ bc_gr n g t q gw u.2.2.2) (fun (u : bc_F × bc_F × bc_F × Int32) t => bc_B (dC, dI) classes [(cI, .int), (cZ, .boolean)] (va_A [(m0, .inr (5, [.int fa, .ref r1, .ref r2, .ref r3, .ref r4, .ref r5, .int rw, .ref r6, .ref r7, .ref r8, .int gw, .ref r9, .ref r10, .ref r11, .ref r12, .ref r13, .ref r14, .ref r15, .ref r16])), (r5, .inl (cI, 2, .inl Sz)), (r6, .inl (cZ, 40, .inl Re)), (r7, .inl (cI, 240, .inl Fa)), (r8, .inl (cI, 240, .inl Va)), (r9, .inl (cI, 6, .inl Nf)), (r10, .inl (cI, 6, .inl Nv))] sz) [(m0, .inr (5, [.int fa, .ref r1, .ref r2, .ref r3, .ref r4, .ref r5, .int rw, .ref r6, .ref r7, .ref r8, .int u.2.2.2, .ref r9, .ref r10, .ref r11, .ref r12, .ref r13, .ref r14, .ref r15, .ref r16])), (r5, .inl (cI, 2, .inl Sz)), (r6, .inl (cZ, 40, .inl u.1)), (r7, .inl (cI, 240, .inl u.2.1)), (r8, .inl (cI, 240, .inl u.2.2.1)), (r9, .inl (cI, 6, .inl Nf)), (r10, .inl (cI, 6, .inl Nv))] t) ((va_A [(m0, .inr (5, [.int fa, .ref r1, .ref r2, .ref r3, .ref r4, .ref r5, .int rw, .ref r6, .ref r7, .ref r8, .int gw, .ref r9, .ref r10, .ref r11, .ref r12, .ref r13, .ref r14, .ref r15, .ref r16])), (r5, .inl (cI, 2, .inl Sz)), (r6, .inl (cZ, 40, .inl Re)), (r7, .inl (cI, 240, .inl Fa)), (r8, .inl (cI, 240, .inl Va)), (r9, .inl (cI, 6, .inl Nf)), (r10, .inl (cI, 6, .inl Nv))] sz))) 0 0 (va_A [(m0, .inr (5, [.int fa, .ref r1, .ref r2, .ref r3, .ref r4, .ref r5, .int rw, .ref r6, .ref r7, .ref r8, .int gw, .ref r9, .ref r10, .ref r11, .ref r12, .ref r13, .ref r14, .ref r15, .ref r16])), (r5, .inl (cI, 2, .inl Sz)), (r6, .inl (cZ, 40, .inl Re)), (r7, .inl (cI, 240, .inl Fa)), (r8, .inl (cI, 240, .inl Va)), (r9, .inl (cI, 6, .inl Nf)), (r10, .inl (cI, 6, .inl Nv))] sz) := by
  refine bc_met (fun A => va_Qv (fun (u : bc_F × bc_F × bc_F × Int32) => (bc_en u.2.1 u.2.2.1 (bc_come n g t q) ∧ bc_re u.1 (bc_come n g t q)) ∧ bc_gr n g t q gw u.2.2.2) (fun (u : bc_F × bc_F × bc_F × Int32) t => bc_B (dC, dI) classes [(cI, .int), (cZ, .boolean)] A [(m0, .inr (5, [.int fa, .ref r1, .ref r2, .ref r3, .ref r4, .ref r5, .int rw, .ref r6, .ref r7, .ref r8, .int u.2.2.2, .ref r9, .ref r10, .ref r11, .ref r12, .ref r13, .ref r14, .ref r15, .ref r16])), (r5, .inl (cI, 2, .inl Sz)), (r6, .inl (cZ, 40, .inl u.1)), (r7, .inl (cI, 240, .inl u.2.1)), (r8, .inl (cI, 240, .inl u.2.2.1)), (r9, .inl (cI, 6, .inl Nf)), (r10, .inl (cI, 6, .inl Nv))] t) A) (by decide) (Nat.le_of_ble_eq_true rfl) ?_
  intro p e s m args below meth c A ls F hr hlocks hin hA hP hD hl hS
  have hx := F.1
  have hb := F.2.1
  have hml := F.2.2.1
  have hown : s.vm.findClass "BranchConstantsModel" = some m.cls := F.2.2.2.1
  have htw := F.2.2.2.2.1
  have hN := F.2.2.2.2.2.1
  have hK := F.2.2.2.2.2.2
  have hl : lv_has ls 5 [(0, .ref m0), (1, .int (nI t))] := hl
  refine lv_iload_n hx hb de_M_come_0 rfl (lv_at hl 1 rfl) ?_
  refine lv_aload_n hx hb de_M_come_1 rfl (lv_at hl 0 rfl) ?_
  refine va_get (D := (dC, dI)) (ci := 5) (v := .ref r5) (C := rc_M) (T := fc_M) (N := 19) hx hb htw wi_M hown hK hP 0 rfl rfl 5 (by decide) (htw _ wm_428) (fun _ h9 => h9) rfl de_M_come_2 ?_
  refine lv_iconst (v := 0) hx hb de_M_come_5 (by decide) ?_
  refine bc_ildE (by decide) (j := 0) hx hb hK hP 1 0 rfl rfl (by omega) (by decide) de_M_come_6 ?_
  refine bc_ti (y := nI n) hSz ?_
  refine lv_icmp_lt (tgt := 11) hx hb de_M_come_7 (by decide) (fun hc_7 => ?_) (fun hc_7 => ?_)
  · have hlt : t < n := (nI_ltI ht (by omega)).mp hc_7
    refine lv_iconst (v := 0) hx hb de_M_come_11 (by decide) ?_
    refine bc_ti (y := nI 0) nI_0.symm ?_
    refine lv_istore_n (lv' := [(2, .int (nI 0)), (0, .ref m0), (1, .int (nI t))]) hx hb de_M_come_12 rfl hl (by decide) rfl (fun ls hl => ?_)
    refine bc_loop (fun k_13 H locs ls => ∃ (v : Nat) (F1 : bc_F) (V1 : bc_F) (g1 : Int32), lv_has ls 5 [(2, .int (nI v)), (0, .ref m0), (1, .int (nI t))] ∧ va_P (dC, dI) classes [(m0, .inr (5, [.int fa, .ref r1, .ref r2, .ref r3, .ref r4, .ref r5, .int rw, .ref r6, .ref r7, .ref r8, .int g1, .ref r9, .ref r10, .ref r11, .ref r12, .ref r13, .ref r14, .ref r15, .ref r16])), (r5, .inl (cI, 2, .inl Sz)), (r6, .inl (cZ, 40, .inl Re)), (r7, .inl (cI, 240, .inl F1)), (r8, .inl (cI, 240, .inl V1)), (r9, .inl (cI, 6, .inl Nf)), (r10, .inl (cI, 6, .inl Nv))] H ∧ va_D A [(m0, .inr (5, [.int fa, .ref r1, .ref r2, .ref r3, .ref r4, .ref r5, .int rw, .ref r6, .ref r7, .ref r8, .int g1, .ref r9, .ref r10, .ref r11, .ref r12, .ref r13, .ref r14, .ref r15, .ref r16])), (r5, .inl (cI, 2, .inl Sz)), (r6, .inl (cZ, 40, .inl Re)), (r7, .inl (cI, 240, .inl F1)), (r8, .inl (cI, 240, .inl V1)), (r9, .inl (cI, 6, .inl Nf)), (r10, .inl (cI, 6, .inl Nv))] ∧ va_S A s.heap H locs ∧ k_13 = 6 - v ∧ (v ≤ 6) ∧ (bc_ep F1 V1 g t q v) ∧ (bc_gv (g t) q v gw g1)) ?_ ?_
    · rintro k_13 H locs ls ⟨v, F1, V1, g1, hl, hP, hD, hS, hk_13, hv, hep, hgv⟩ ih_13
      refine lv_iload_n hx hb de_M_come_13 rfl (lv_at hl 0 rfl) ?_
      refine lv_bipush (v := 6) hx hb de_M_come_14 (by decide) ?_
      refine lv_icmp_ge (tgt := 148) hx hb de_M_come_16 (by decide) (fun hc_16 => ?_) (fun hc_16 => ?_)
      · have heq : v = 6 := by have := bc_ge (b := 6) (by omega) (by omega) hc_16; omega
        subst heq
        refine lv_aload_n hx hb de_M_come_148 rfl (lv_at hl 1 rfl) ?_
        refine va_get (D := (dC, dI)) (ci := 5) (v := .ref r6) (C := rc_M) (T := fc_M) (N := 19) hx hb htw wi_M hown hK hP 0 rfl rfl 7 (by decide) (htw _ wm_430) (fun _ h9 => h9) rfl de_M_come_149 ?_
        refine lv_iload_n hx hb de_M_come_152 rfl (lv_at hl 2 rfl) ?_
        refine lv_iconst (v := 1) hx hb de_M_come_153 (by decide) ?_
        refine bc_zst (j := t) hx hb hK hP hD hS 2 1 rfl rfl (by decide) (by omega) (by decide) de_M_come_154 (fun H locs hP hD hS => ?_)
        have hP : va_P (dC, dI) classes [(m0, .inr (5, [.int fa, .ref r1, .ref r2, .ref r3, .ref r4, .ref r5, .int rw, .ref r6, .ref r7, .ref r8, .int g1, .ref r9, .ref r10, .ref r11, .ref r12, .ref r13, .ref r14, .ref r15, .ref r16])), (r5, .inl (cI, 2, .inl Sz)), (r6, .inl (cZ, 40, .inl (upd Re t 1))), (r7, .inl (cI, 240, .inl F1)), (r8, .inl (cI, 240, .inl V1)), (r9, .inl (cI, 6, .inl Nf)), (r10, .inl (cI, 6, .inl Nv))] H := hP
        have hD : va_D A [(m0, .inr (5, [.int fa, .ref r1, .ref r2, .ref r3, .ref r4, .ref r5, .int rw, .ref r6, .ref r7, .ref r8, .int g1, .ref r9, .ref r10, .ref r11, .ref r12, .ref r13, .ref r14, .ref r15, .ref r16])), (r5, .inl (cI, 2, .inl Sz)), (r6, .inl (cZ, 40, .inl (upd Re t 1))), (r7, .inl (cI, 240, .inl F1)), (r8, .inl (cI, 240, .inl V1)), (r9, .inl (cI, 6, .inl Nf)), (r10, .inl (cI, 6, .inl Nv))] := hD
        exact bc_vret F hr hlocks ((upd Re t 1, F1, V1, g1)) ⟨⟨bc_ep_6 hep hlt, bc_re_come hre hlt⟩, bc_gv_6 hlt hgv⟩ hP hD hS de_M_come_155
      · have hv6 : v < 6 := bc_lt (b := 6) (by omega) (by omega) hc_16
        refine lv_bipush (v := 6) hx hb de_M_come_19 (by decide) ?_
        refine lv_iload_n hx hb de_M_come_21 rfl (lv_at hl 2 rfl) ?_
        refine lv_imul hx hb de_M_come_22 ?_
        refine bc_ti (y := nI (6 * t)) (pk_mul 6 t) ?_
        refine lv_iload_n hx hb de_M_come_23 rfl (lv_at hl 0 rfl) ?_
        refine lv_iadd hx hb de_M_come_24 ?_
        refine bc_ti (y := nI ((6 * t) + v)) (nI_add (6 * t) v) ?_
        refine lv_istore_n (lv' := [(3, .int (nI ((6 * t) + v))), (2, .int (nI v)), (0, .ref m0), (1, .int (nI t))]) hx hb de_M_come_25 rfl hl (by decide) rfl (fun ls hl => ?_)
        refine lv_aload_n hx hb de_M_come_26 rfl (lv_at hl 2 rfl) ?_
        refine va_get (D := (dC, dI)) (ci := 5) (v := .ref r6) (C := rc_M) (T := fc_M) (N := 19) hx hb htw wi_M hown hK hP 0 rfl rfl 7 (by decide) (htw _ wm_430) (fun _ h9 => h9) rfl de_M_come_27 ?_
        refine lv_iload_n hx hb de_M_come_30 rfl (lv_at hl 3 rfl) ?_
        refine bc_zld (j := t) hx hb hK hP 2 1 rfl rfl (by omega) (by decide) de_M_come_31 ?_
        refine lv_if_eq (tgt := 74) hx hb de_M_come_32 (by decide) (fun hc_32 => ?_) (fun hc_32 => ?_)
        · refine lv_iconst (v := 0) hx hb de_M_come_74 (by decide) ?_
          refine lv_istore (lv' := [(4, .int 0), (3, .int (nI ((6 * t) + v))), (2, .int (nI v)), (0, .ref m0), (1, .int (nI t))]) hx hb de_M_come_75 hl (by decide) rfl (fun ls hl => ?_)
          refine lv_aload_n hx hb de_M_come_77 rfl (lv_at hl 3 rfl) ?_
          refine va_get (D := (dC, dI)) (ci := 5) (v := .ref r6) (C := rc_M) (T := fc_M) (N := 19) hx hb htw wi_M hown hK hP 0 rfl rfl 7 (by decide) (htw _ wm_430) (fun _ h9 => h9) rfl de_M_come_78 ?_
          refine lv_iload_n hx hb de_M_come_81 rfl (lv_at hl 4 rfl) ?_
          refine bc_zld (j := t) hx hb hK hP 2 1 rfl rfl (by omega) (by decide) de_M_come_82 ?_
          refine lv_if_ne (tgt := 118) hx hb de_M_come_83 (by decide) (fun hc => absurd hc_32 hc) (fun _ => ?_)
          refine lv_aload_n hx hb de_M_come_86 rfl (lv_at hl 3 rfl) ?_
          refine va_get (D := (dC, dI)) (ci := 5) (v := .ref r7) (C := rc_M) (T := fc_M) (N := 19) hx hb htw wi_M hown hK hP 0 rfl rfl 8 (by decide) (htw _ wm_431) (fun _ h9 => h9) rfl de_M_come_87 ?_
          refine lv_iload_n hx hb de_M_come_90 rfl (lv_at hl 1 rfl) ?_
          refine lv_aload_n hx hb de_M_come_91 rfl (lv_at hl 3 rfl) ?_
          refine va_get (D := (dC, dI)) (ci := 5) (v := .ref r9) (C := rc_M) (T := fc_M) (N := 19) hx hb htw wi_M hown hK hP 0 rfl rfl 11 (by decide) (htw _ wm_434) (fun _ h9 => h9) rfl de_M_come_92 ?_
          refine lv_iload_n hx hb de_M_come_95 rfl (lv_at hl 2 rfl) ?_
          refine bc_ild (j := v) hx hb hK hP 5 0 rfl rfl (by omega) (by decide) de_M_come_96 ?_
          refine bc_ist (j := (6 * t) + v) hx hb hK hP hD hS 3 0 rfl rfl (by omega) (by decide) de_M_come_97 (fun H locs hP hD hS => ?_)
          have hP : va_P (dC, dI) classes [(m0, .inr (5, [.int fa, .ref r1, .ref r2, .ref r3, .ref r4, .ref r5, .int rw, .ref r6, .ref r7, .ref r8, .int g1, .ref r9, .ref r10, .ref r11, .ref r12, .ref r13, .ref r14, .ref r15, .ref r16])), (r5, .inl (cI, 2, .inl Sz)), (r6, .inl (cZ, 40, .inl Re)), (r7, .inl (cI, 240, .inl (upd F1 ((6 * t) + v) (Nf v)))), (r8, .inl (cI, 240, .inl V1)), (r9, .inl (cI, 6, .inl Nf)), (r10, .inl (cI, 6, .inl Nv))] H := hP
          have hD : va_D A [(m0, .inr (5, [.int fa, .ref r1, .ref r2, .ref r3, .ref r4, .ref r5, .int rw, .ref r6, .ref r7, .ref r8, .int g1, .ref r9, .ref r10, .ref r11, .ref r12, .ref r13, .ref r14, .ref r15, .ref r16])), (r5, .inl (cI, 2, .inl Sz)), (r6, .inl (cZ, 40, .inl Re)), (r7, .inl (cI, 240, .inl (upd F1 ((6 * t) + v) (Nf v)))), (r8, .inl (cI, 240, .inl V1)), (r9, .inl (cI, 6, .inl Nf)), (r10, .inl (cI, 6, .inl Nv))] := hD
          refine lv_aload_n hx hb de_M_come_98 rfl (lv_at hl 3 rfl) ?_
          refine va_get (D := (dC, dI)) (ci := 5) (v := .ref r8) (C := rc_M) (T := fc_M) (N := 19) hx hb htw wi_M hown hK hP 0 rfl rfl 9 (by decide) (htw _ wm_432) (fun _ h9 => h9) rfl de_M_come_99 ?_
          refine lv_iload_n hx hb de_M_come_102 rfl (lv_at hl 1 rfl) ?_
          refine lv_aload_n hx hb de_M_come_103 rfl (lv_at hl 3 rfl) ?_
          refine va_get (D := (dC, dI)) (ci := 5) (v := .ref r10) (C := rc_M) (T := fc_M) (N := 19) hx hb htw wi_M hown hK hP 0 rfl rfl 12 (by decide) (htw _ wm_435) (fun _ h9 => h9) rfl de_M_come_104 ?_
          refine lv_iload_n hx hb de_M_come_107 rfl (lv_at hl 2 rfl) ?_
          refine bc_ild (j := v) hx hb hK hP 6 0 rfl rfl (by omega) (by decide) de_M_come_108 ?_
          refine bc_ist (j := (6 * t) + v) hx hb hK hP hD hS 4 0 rfl rfl (by omega) (by decide) de_M_come_109 (fun H locs hP hD hS => ?_)
          have hP : va_P (dC, dI) classes [(m0, .inr (5, [.int fa, .ref r1, .ref r2, .ref r3, .ref r4, .ref r5, .int rw, .ref r6, .ref r7, .ref r8, .int g1, .ref r9, .ref r10, .ref r11, .ref r12, .ref r13, .ref r14, .ref r15, .ref r16])), (r5, .inl (cI, 2, .inl Sz)), (r6, .inl (cZ, 40, .inl Re)), (r7, .inl (cI, 240, .inl (upd F1 ((6 * t) + v) (Nf v)))), (r8, .inl (cI, 240, .inl (upd V1 ((6 * t) + v) (Nv v)))), (r9, .inl (cI, 6, .inl Nf)), (r10, .inl (cI, 6, .inl Nv))] H := hP
          have hD : va_D A [(m0, .inr (5, [.int fa, .ref r1, .ref r2, .ref r3, .ref r4, .ref r5, .int rw, .ref r6, .ref r7, .ref r8, .int g1, .ref r9, .ref r10, .ref r11, .ref r12, .ref r13, .ref r14, .ref r15, .ref r16])), (r5, .inl (cI, 2, .inl Sz)), (r6, .inl (cZ, 40, .inl Re)), (r7, .inl (cI, 240, .inl (upd F1 ((6 * t) + v) (Nf v)))), (r8, .inl (cI, 240, .inl (upd V1 ((6 * t) + v) (Nv v)))), (r9, .inl (cI, 6, .inl Nf)), (r10, .inl (cI, 6, .inl Nv))] := hD
          refine lv_aload_n hx hb de_M_come_110 rfl (lv_at hl 3 rfl) ?_
          refine lv_iconst (v := 1) hx hb de_M_come_111 (by decide) ?_
          refine va_put (D := (dC, dI)) (ci := 5) (v := .int 1) (ty := .boolean) (C := rc_M) (T := fc_M) (N := 19) hx hb htw wi_M tc_M tc_M_ok nc_M hown hK hP hD hS 0 rfl rfl 10 (by decide) (htw _ wm_433) (fun _ h9 => h9) rfl (by decide +kernel) rfl rfl (Nat.le_of_ble_eq_true rfl) de_M_come_112 (fun H locs hP hD hS => ?_)
          have hP : va_P (dC, dI) classes [(m0, .inr (5, [.int fa, .ref r1, .ref r2, .ref r3, .ref r4, .ref r5, .int rw, .ref r6, .ref r7, .ref r8, .int 1, .ref r9, .ref r10, .ref r11, .ref r12, .ref r13, .ref r14, .ref r15, .ref r16])), (r5, .inl (cI, 2, .inl Sz)), (r6, .inl (cZ, 40, .inl Re)), (r7, .inl (cI, 240, .inl (upd F1 ((6 * t) + v) (Nf v)))), (r8, .inl (cI, 240, .inl (upd V1 ((6 * t) + v) (Nv v)))), (r9, .inl (cI, 6, .inl Nf)), (r10, .inl (cI, 6, .inl Nv))] H := hP
          have hD : va_D A [(m0, .inr (5, [.int fa, .ref r1, .ref r2, .ref r3, .ref r4, .ref r5, .int rw, .ref r6, .ref r7, .ref r8, .int 1, .ref r9, .ref r10, .ref r11, .ref r12, .ref r13, .ref r14, .ref r15, .ref r16])), (r5, .inl (cI, 2, .inl Sz)), (r6, .inl (cZ, 40, .inl Re)), (r7, .inl (cI, 240, .inl (upd F1 ((6 * t) + v) (Nf v)))), (r8, .inl (cI, 240, .inl (upd V1 ((6 * t) + v) (Nv v)))), (r9, .inl (cI, 6, .inl Nf)), (r10, .inl (cI, 6, .inl Nv))] := hD
          refine lv_goto (tgt := 142) hx hb de_M_come_115 (by decide) ?_
          refine lv_iinc (k := 2) (v := nI (v + 1)) (lv' := [(2, .int (nI (v + 1))), (4, .int 0), (3, .int (nI ((6 * t) + v))), (0, .ref m0), (1, .int (nI t))]) hx hb de_M_come_142 hl rfl (bc_inc _) (by decide) rfl (fun ls hl => ?_)
          refine lv_goto (tgt := 13) hx hb de_M_come_145 (by decide) ?_
          exact ih_13 _ _ _ _ (by omega) ⟨(v + 1), upd F1 (6 * t + v) (Nf v), upd V1 (6 * t + v) (Nv v), 1, lv_sub hl [0, 3, 4] rfl, hP, hD, hS, rfl, (by omega), (bc_ceA hep (by omega) ((hre t (by omega)).1.mp hc_32) her).1, bc_gv_1 (bc_ceA hep (by omega) ((hre t (by omega)).1.mp hc_32) her).2⟩
        · obtain ⟨rr, hrr⟩ := bc_re_n hre (by omega) hc_32
          refine lv_aload_n hx hb de_M_come_35 rfl (lv_at hl 2 rfl) ?_
          refine va_get (D := (dC, dI)) (ci := 5) (v := .ref r7) (C := rc_M) (T := fc_M) (N := 19) hx hb htw wi_M hown hK hP 0 rfl rfl 8 (by decide) (htw _ wm_431) (fun _ h9 => h9) rfl de_M_come_36 ?_
          refine lv_iload_n hx hb de_M_come_39 rfl (lv_at hl 0 rfl) ?_
          refine bc_ild (j := (6 * t) + v) hx hb hK hP 3 0 rfl rfl (by omega) (by decide) de_M_come_40 ?_
          refine lv_iconst (v := 1) hx hb de_M_come_41 (by decide) ?_
          refine lv_icmp_eq (tgt := 70) hx hb de_M_come_42 (by decide) (fun hc_42 => ?_) (fun hc_42 => ?_)
          · refine lv_iconst (v := 1) hx hb de_M_come_70 (by decide) ?_
            refine lv_goto (tgt := 75) hx hb de_M_come_71 (by decide) ?_
            refine lv_istore (lv' := [(4, .int 1), (3, .int (nI ((6 * t) + v))), (2, .int (nI v)), (0, .ref m0), (1, .int (nI t))]) hx hb de_M_come_75 hl (by decide) rfl (fun ls hl => ?_)
            refine lv_aload_n hx hb de_M_come_77 rfl (lv_at hl 3 rfl) ?_
            refine va_get (D := (dC, dI)) (ci := 5) (v := .ref r6) (C := rc_M) (T := fc_M) (N := 19) hx hb htw wi_M hown hK hP 0 rfl rfl 7 (by decide) (htw _ wm_430) (fun _ h9 => h9) rfl de_M_come_78 ?_
            refine lv_iload_n hx hb de_M_come_81 rfl (lv_at hl 4 rfl) ?_
            refine bc_zld (j := t) hx hb hK hP 2 1 rfl rfl (by omega) (by decide) de_M_come_82 ?_
            refine lv_if_ne (tgt := 118) hx hb de_M_come_83 (by decide) (fun _ => ?_) (fun hc => absurd hc hc_32)
            refine lv_iload hx hb de_M_come_118 (lv_at hl 0 rfl) ?_
            refine lv_if_ne (tgt := 142) hx hb de_M_come_120 (by decide) (fun _ => ?_) (fun hc => absurd hc (by decide))
            refine lv_iinc (k := 2) (v := nI (v + 1)) (lv' := [(2, .int (nI (v + 1))), (4, .int 1), (3, .int (nI ((6 * t) + v))), (0, .ref m0), (1, .int (nI t))]) hx hb de_M_come_142 hl rfl (bc_inc _) (by decide) rfl (fun ls hl => ?_)
            refine lv_goto (tgt := 13) hx hb de_M_come_145 (by decide) ?_
            exact ih_13 _ _ _ _ (by omega) ⟨(v + 1), F1, V1, g1, lv_sub hl [0, 3, 4] rfl, hP, hD, hS, rfl, (by omega), (bc_ceC hep (by omega) (by omega) hrr (Or.inl hc_42) her).1, bc_gv_n hgv (bc_ceC hep (by omega) (by omega) hrr (Or.inl hc_42) her).2⟩
          · refine lv_aload_n hx hb de_M_come_45 rfl (lv_at hl 2 rfl) ?_
            refine va_get (D := (dC, dI)) (ci := 5) (v := .ref r9) (C := rc_M) (T := fc_M) (N := 19) hx hb htw wi_M hown hK hP 0 rfl rfl 11 (by decide) (htw _ wm_434) (fun _ h9 => h9) rfl de_M_come_46 ?_
            refine lv_iload_n hx hb de_M_come_49 rfl (lv_at hl 1 rfl) ?_
            refine bc_ild (j := v) hx hb hK hP 5 0 rfl rfl (by omega) (by decide) de_M_come_50 ?_
            refine lv_iconst (v := 2) hx hb de_M_come_51 (by decide) ?_
            refine lv_icmp_ne (tgt := 74) hx hb de_M_come_52 (by decide) (fun hc_52 => ?_) (fun hc_52 => ?_)
            · refine lv_iconst (v := 0) hx hb de_M_come_74 (by decide) ?_
              refine lv_istore (lv' := [(4, .int 0), (3, .int (nI ((6 * t) + v))), (2, .int (nI v)), (0, .ref m0), (1, .int (nI t))]) hx hb de_M_come_75 hl (by decide) rfl (fun ls hl => ?_)
              refine lv_aload_n hx hb de_M_come_77 rfl (lv_at hl 3 rfl) ?_
              refine va_get (D := (dC, dI)) (ci := 5) (v := .ref r6) (C := rc_M) (T := fc_M) (N := 19) hx hb htw wi_M hown hK hP 0 rfl rfl 7 (by decide) (htw _ wm_430) (fun _ h9 => h9) rfl de_M_come_78 ?_
              refine lv_iload_n hx hb de_M_come_81 rfl (lv_at hl 4 rfl) ?_
              refine bc_zld (j := t) hx hb hK hP 2 1 rfl rfl (by omega) (by decide) de_M_come_82 ?_
              refine lv_if_ne (tgt := 118) hx hb de_M_come_83 (by decide) (fun _ => ?_) (fun hc => absurd hc hc_32)
              refine lv_iload hx hb de_M_come_118 (lv_at hl 0 rfl) ?_
              refine lv_if_ne (tgt := 142) hx hb de_M_come_120 (by decide) (fun hc => absurd (by decide) hc) (fun _ => ?_)
              refine lv_aload_n hx hb de_M_come_123 rfl (lv_at hl 3 rfl) ?_
              refine va_get (D := (dC, dI)) (ci := 5) (v := .ref r7) (C := rc_M) (T := fc_M) (N := 19) hx hb htw wi_M hown hK hP 0 rfl rfl 8 (by decide) (htw _ wm_431) (fun _ h9 => h9) rfl de_M_come_124 ?_
              refine lv_iload_n hx hb de_M_come_127 rfl (lv_at hl 1 rfl) ?_
              refine lv_iconst (v := 1) hx hb de_M_come_128 (by decide) ?_
              refine bc_ist (j := (6 * t) + v) hx hb hK hP hD hS 3 0 rfl rfl (by omega) (by decide) de_M_come_129 (fun H locs hP hD hS => ?_)
              have hP : va_P (dC, dI) classes [(m0, .inr (5, [.int fa, .ref r1, .ref r2, .ref r3, .ref r4, .ref r5, .int rw, .ref r6, .ref r7, .ref r8, .int g1, .ref r9, .ref r10, .ref r11, .ref r12, .ref r13, .ref r14, .ref r15, .ref r16])), (r5, .inl (cI, 2, .inl Sz)), (r6, .inl (cZ, 40, .inl Re)), (r7, .inl (cI, 240, .inl (upd F1 ((6 * t) + v) 1))), (r8, .inl (cI, 240, .inl V1)), (r9, .inl (cI, 6, .inl Nf)), (r10, .inl (cI, 6, .inl Nv))] H := hP
              have hD : va_D A [(m0, .inr (5, [.int fa, .ref r1, .ref r2, .ref r3, .ref r4, .ref r5, .int rw, .ref r6, .ref r7, .ref r8, .int g1, .ref r9, .ref r10, .ref r11, .ref r12, .ref r13, .ref r14, .ref r15, .ref r16])), (r5, .inl (cI, 2, .inl Sz)), (r6, .inl (cZ, 40, .inl Re)), (r7, .inl (cI, 240, .inl (upd F1 ((6 * t) + v) 1))), (r8, .inl (cI, 240, .inl V1)), (r9, .inl (cI, 6, .inl Nf)), (r10, .inl (cI, 6, .inl Nv))] := hD
              refine lv_aload_n hx hb de_M_come_130 rfl (lv_at hl 3 rfl) ?_
              refine va_get (D := (dC, dI)) (ci := 5) (v := .ref r8) (C := rc_M) (T := fc_M) (N := 19) hx hb htw wi_M hown hK hP 0 rfl rfl 9 (by decide) (htw _ wm_432) (fun _ h9 => h9) rfl de_M_come_131 ?_
              refine lv_iload_n hx hb de_M_come_134 rfl (lv_at hl 1 rfl) ?_
              refine lv_iconst (v := 0) hx hb de_M_come_135 (by decide) ?_
              refine bc_ist (j := (6 * t) + v) hx hb hK hP hD hS 4 0 rfl rfl (by omega) (by decide) de_M_come_136 (fun H locs hP hD hS => ?_)
              have hP : va_P (dC, dI) classes [(m0, .inr (5, [.int fa, .ref r1, .ref r2, .ref r3, .ref r4, .ref r5, .int rw, .ref r6, .ref r7, .ref r8, .int g1, .ref r9, .ref r10, .ref r11, .ref r12, .ref r13, .ref r14, .ref r15, .ref r16])), (r5, .inl (cI, 2, .inl Sz)), (r6, .inl (cZ, 40, .inl Re)), (r7, .inl (cI, 240, .inl (upd F1 ((6 * t) + v) 1))), (r8, .inl (cI, 240, .inl (upd V1 ((6 * t) + v) 0))), (r9, .inl (cI, 6, .inl Nf)), (r10, .inl (cI, 6, .inl Nv))] H := hP
              have hD : va_D A [(m0, .inr (5, [.int fa, .ref r1, .ref r2, .ref r3, .ref r4, .ref r5, .int rw, .ref r6, .ref r7, .ref r8, .int g1, .ref r9, .ref r10, .ref r11, .ref r12, .ref r13, .ref r14, .ref r15, .ref r16])), (r5, .inl (cI, 2, .inl Sz)), (r6, .inl (cZ, 40, .inl Re)), (r7, .inl (cI, 240, .inl (upd F1 ((6 * t) + v) 1))), (r8, .inl (cI, 240, .inl (upd V1 ((6 * t) + v) 0))), (r9, .inl (cI, 6, .inl Nf)), (r10, .inl (cI, 6, .inl Nv))] := hD
              refine lv_aload_n hx hb de_M_come_137 rfl (lv_at hl 3 rfl) ?_
              refine lv_iconst (v := 1) hx hb de_M_come_138 (by decide) ?_
              refine va_put (D := (dC, dI)) (ci := 5) (v := .int 1) (ty := .boolean) (C := rc_M) (T := fc_M) (N := 19) hx hb htw wi_M tc_M tc_M_ok nc_M hown hK hP hD hS 0 rfl rfl 10 (by decide) (htw _ wm_433) (fun _ h9 => h9) rfl (by decide +kernel) rfl rfl (Nat.le_of_ble_eq_true rfl) de_M_come_139 (fun H locs hP hD hS => ?_)
              have hP : va_P (dC, dI) classes [(m0, .inr (5, [.int fa, .ref r1, .ref r2, .ref r3, .ref r4, .ref r5, .int rw, .ref r6, .ref r7, .ref r8, .int 1, .ref r9, .ref r10, .ref r11, .ref r12, .ref r13, .ref r14, .ref r15, .ref r16])), (r5, .inl (cI, 2, .inl Sz)), (r6, .inl (cZ, 40, .inl Re)), (r7, .inl (cI, 240, .inl (upd F1 ((6 * t) + v) 1))), (r8, .inl (cI, 240, .inl (upd V1 ((6 * t) + v) 0))), (r9, .inl (cI, 6, .inl Nf)), (r10, .inl (cI, 6, .inl Nv))] H := hP
              have hD : va_D A [(m0, .inr (5, [.int fa, .ref r1, .ref r2, .ref r3, .ref r4, .ref r5, .int rw, .ref r6, .ref r7, .ref r8, .int 1, .ref r9, .ref r10, .ref r11, .ref r12, .ref r13, .ref r14, .ref r15, .ref r16])), (r5, .inl (cI, 2, .inl Sz)), (r6, .inl (cZ, 40, .inl Re)), (r7, .inl (cI, 240, .inl (upd F1 ((6 * t) + v) 1))), (r8, .inl (cI, 240, .inl (upd V1 ((6 * t) + v) 0))), (r9, .inl (cI, 6, .inl Nf)), (r10, .inl (cI, 6, .inl Nv))] := hD
              refine lv_iinc (k := 2) (v := nI (v + 1)) (lv' := [(2, .int (nI (v + 1))), (4, .int 0), (3, .int (nI ((6 * t) + v))), (0, .ref m0), (1, .int (nI t))]) hx hb de_M_come_142 hl rfl (bc_inc _) (by decide) rfl (fun ls hl => ?_)
              refine lv_goto (tgt := 13) hx hb de_M_come_145 (by decide) ?_
              exact ih_13 _ _ _ _ (by omega) ⟨(v + 1), upd F1 (6 * t + v) 1, upd V1 (6 * t + v) 0, 1, lv_sub hl [0, 3, 4] rfl, hP, hD, hS, rfl, (by omega), (bc_ceB hep (by omega) (by omega) hrr hc_42 (fun z => hc_52 z.1) her).1, bc_gv_1 (bc_ceB hep (by omega) (by omega) hrr hc_42 (fun z => hc_52 z.1) her).2⟩
            · refine lv_aload_n hx hb de_M_come_55 rfl (lv_at hl 2 rfl) ?_
              refine va_get (D := (dC, dI)) (ci := 5) (v := .ref r8) (C := rc_M) (T := fc_M) (N := 19) hx hb htw wi_M hown hK hP 0 rfl rfl 9 (by decide) (htw _ wm_432) (fun _ h9 => h9) rfl de_M_come_56 ?_
              refine lv_iload_n hx hb de_M_come_59 rfl (lv_at hl 0 rfl) ?_
              refine bc_ild (j := (6 * t) + v) hx hb hK hP 4 0 rfl rfl (by omega) (by decide) de_M_come_60 ?_
              refine lv_aload_n hx hb de_M_come_61 rfl (lv_at hl 2 rfl) ?_
              refine va_get (D := (dC, dI)) (ci := 5) (v := .ref r10) (C := rc_M) (T := fc_M) (N := 19) hx hb htw wi_M hown hK hP 0 rfl rfl 12 (by decide) (htw _ wm_435) (fun _ h9 => h9) rfl de_M_come_62 ?_
              refine lv_iload_n hx hb de_M_come_65 rfl (lv_at hl 1 rfl) ?_
              refine bc_ild (j := v) hx hb hK hP 6 0 rfl rfl (by omega) (by decide) de_M_come_66 ?_
              refine lv_icmp_ne (tgt := 74) hx hb de_M_come_67 (by decide) (fun hc_67 => ?_) (fun hc_67 => ?_)
              · refine lv_iconst (v := 0) hx hb de_M_come_74 (by decide) ?_
                refine lv_istore (lv' := [(4, .int 0), (3, .int (nI ((6 * t) + v))), (2, .int (nI v)), (0, .ref m0), (1, .int (nI t))]) hx hb de_M_come_75 hl (by decide) rfl (fun ls hl => ?_)
                refine lv_aload_n hx hb de_M_come_77 rfl (lv_at hl 3 rfl) ?_
                refine va_get (D := (dC, dI)) (ci := 5) (v := .ref r6) (C := rc_M) (T := fc_M) (N := 19) hx hb htw wi_M hown hK hP 0 rfl rfl 7 (by decide) (htw _ wm_430) (fun _ h9 => h9) rfl de_M_come_78 ?_
                refine lv_iload_n hx hb de_M_come_81 rfl (lv_at hl 4 rfl) ?_
                refine bc_zld (j := t) hx hb hK hP 2 1 rfl rfl (by omega) (by decide) de_M_come_82 ?_
                refine lv_if_ne (tgt := 118) hx hb de_M_come_83 (by decide) (fun _ => ?_) (fun hc => absurd hc hc_32)
                refine lv_iload hx hb de_M_come_118 (lv_at hl 0 rfl) ?_
                refine lv_if_ne (tgt := 142) hx hb de_M_come_120 (by decide) (fun hc => absurd (by decide) hc) (fun _ => ?_)
                refine lv_aload_n hx hb de_M_come_123 rfl (lv_at hl 3 rfl) ?_
                refine va_get (D := (dC, dI)) (ci := 5) (v := .ref r7) (C := rc_M) (T := fc_M) (N := 19) hx hb htw wi_M hown hK hP 0 rfl rfl 8 (by decide) (htw _ wm_431) (fun _ h9 => h9) rfl de_M_come_124 ?_
                refine lv_iload_n hx hb de_M_come_127 rfl (lv_at hl 1 rfl) ?_
                refine lv_iconst (v := 1) hx hb de_M_come_128 (by decide) ?_
                refine bc_ist (j := (6 * t) + v) hx hb hK hP hD hS 3 0 rfl rfl (by omega) (by decide) de_M_come_129 (fun H locs hP hD hS => ?_)
                have hP : va_P (dC, dI) classes [(m0, .inr (5, [.int fa, .ref r1, .ref r2, .ref r3, .ref r4, .ref r5, .int rw, .ref r6, .ref r7, .ref r8, .int g1, .ref r9, .ref r10, .ref r11, .ref r12, .ref r13, .ref r14, .ref r15, .ref r16])), (r5, .inl (cI, 2, .inl Sz)), (r6, .inl (cZ, 40, .inl Re)), (r7, .inl (cI, 240, .inl (upd F1 ((6 * t) + v) 1))), (r8, .inl (cI, 240, .inl V1)), (r9, .inl (cI, 6, .inl Nf)), (r10, .inl (cI, 6, .inl Nv))] H := hP
                have hD : va_D A [(m0, .inr (5, [.int fa, .ref r1, .ref r2, .ref r3, .ref r4, .ref r5, .int rw, .ref r6, .ref r7, .ref r8, .int g1, .ref r9, .ref r10, .ref r11, .ref r12, .ref r13, .ref r14, .ref r15, .ref r16])), (r5, .inl (cI, 2, .inl Sz)), (r6, .inl (cZ, 40, .inl Re)), (r7, .inl (cI, 240, .inl (upd F1 ((6 * t) + v) 1))), (r8, .inl (cI, 240, .inl V1)), (r9, .inl (cI, 6, .inl Nf)), (r10, .inl (cI, 6, .inl Nv))] := hD
                refine lv_aload_n hx hb de_M_come_130 rfl (lv_at hl 3 rfl) ?_
                refine va_get (D := (dC, dI)) (ci := 5) (v := .ref r8) (C := rc_M) (T := fc_M) (N := 19) hx hb htw wi_M hown hK hP 0 rfl rfl 9 (by decide) (htw _ wm_432) (fun _ h9 => h9) rfl de_M_come_131 ?_
                refine lv_iload_n hx hb de_M_come_134 rfl (lv_at hl 1 rfl) ?_
                refine lv_iconst (v := 0) hx hb de_M_come_135 (by decide) ?_
                refine bc_ist (j := (6 * t) + v) hx hb hK hP hD hS 4 0 rfl rfl (by omega) (by decide) de_M_come_136 (fun H locs hP hD hS => ?_)
                have hP : va_P (dC, dI) classes [(m0, .inr (5, [.int fa, .ref r1, .ref r2, .ref r3, .ref r4, .ref r5, .int rw, .ref r6, .ref r7, .ref r8, .int g1, .ref r9, .ref r10, .ref r11, .ref r12, .ref r13, .ref r14, .ref r15, .ref r16])), (r5, .inl (cI, 2, .inl Sz)), (r6, .inl (cZ, 40, .inl Re)), (r7, .inl (cI, 240, .inl (upd F1 ((6 * t) + v) 1))), (r8, .inl (cI, 240, .inl (upd V1 ((6 * t) + v) 0))), (r9, .inl (cI, 6, .inl Nf)), (r10, .inl (cI, 6, .inl Nv))] H := hP
                have hD : va_D A [(m0, .inr (5, [.int fa, .ref r1, .ref r2, .ref r3, .ref r4, .ref r5, .int rw, .ref r6, .ref r7, .ref r8, .int g1, .ref r9, .ref r10, .ref r11, .ref r12, .ref r13, .ref r14, .ref r15, .ref r16])), (r5, .inl (cI, 2, .inl Sz)), (r6, .inl (cZ, 40, .inl Re)), (r7, .inl (cI, 240, .inl (upd F1 ((6 * t) + v) 1))), (r8, .inl (cI, 240, .inl (upd V1 ((6 * t) + v) 0))), (r9, .inl (cI, 6, .inl Nf)), (r10, .inl (cI, 6, .inl Nv))] := hD
                refine lv_aload_n hx hb de_M_come_137 rfl (lv_at hl 3 rfl) ?_
                refine lv_iconst (v := 1) hx hb de_M_come_138 (by decide) ?_
                refine va_put (D := (dC, dI)) (ci := 5) (v := .int 1) (ty := .boolean) (C := rc_M) (T := fc_M) (N := 19) hx hb htw wi_M tc_M tc_M_ok nc_M hown hK hP hD hS 0 rfl rfl 10 (by decide) (htw _ wm_433) (fun _ h9 => h9) rfl (by decide +kernel) rfl rfl (Nat.le_of_ble_eq_true rfl) de_M_come_139 (fun H locs hP hD hS => ?_)
                have hP : va_P (dC, dI) classes [(m0, .inr (5, [.int fa, .ref r1, .ref r2, .ref r3, .ref r4, .ref r5, .int rw, .ref r6, .ref r7, .ref r8, .int 1, .ref r9, .ref r10, .ref r11, .ref r12, .ref r13, .ref r14, .ref r15, .ref r16])), (r5, .inl (cI, 2, .inl Sz)), (r6, .inl (cZ, 40, .inl Re)), (r7, .inl (cI, 240, .inl (upd F1 ((6 * t) + v) 1))), (r8, .inl (cI, 240, .inl (upd V1 ((6 * t) + v) 0))), (r9, .inl (cI, 6, .inl Nf)), (r10, .inl (cI, 6, .inl Nv))] H := hP
                have hD : va_D A [(m0, .inr (5, [.int fa, .ref r1, .ref r2, .ref r3, .ref r4, .ref r5, .int rw, .ref r6, .ref r7, .ref r8, .int 1, .ref r9, .ref r10, .ref r11, .ref r12, .ref r13, .ref r14, .ref r15, .ref r16])), (r5, .inl (cI, 2, .inl Sz)), (r6, .inl (cZ, 40, .inl Re)), (r7, .inl (cI, 240, .inl (upd F1 ((6 * t) + v) 1))), (r8, .inl (cI, 240, .inl (upd V1 ((6 * t) + v) 0))), (r9, .inl (cI, 6, .inl Nf)), (r10, .inl (cI, 6, .inl Nv))] := hD
                refine lv_iinc (k := 2) (v := nI (v + 1)) (lv' := [(2, .int (nI (v + 1))), (4, .int 0), (3, .int (nI ((6 * t) + v))), (0, .ref m0), (1, .int (nI t))]) hx hb de_M_come_142 hl rfl (bc_inc _) (by decide) rfl (fun ls hl => ?_)
                refine lv_goto (tgt := 13) hx hb de_M_come_145 (by decide) ?_
                exact ih_13 _ _ _ _ (by omega) ⟨(v + 1), upd F1 (6 * t + v) 1, upd V1 (6 * t + v) 0, 1, lv_sub hl [0, 3, 4] rfl, hP, hD, hS, rfl, (by omega), (bc_ceB hep (by omega) (by omega) hrr hc_42 (fun z => hc_67 z.2) her).1, bc_gv_1 (bc_ceB hep (by omega) (by omega) hrr hc_42 (fun z => hc_67 z.2) her).2⟩
              · refine lv_iconst (v := 1) hx hb de_M_come_70 (by decide) ?_
                refine lv_goto (tgt := 75) hx hb de_M_come_71 (by decide) ?_
                refine lv_istore (lv' := [(4, .int 1), (3, .int (nI ((6 * t) + v))), (2, .int (nI v)), (0, .ref m0), (1, .int (nI t))]) hx hb de_M_come_75 hl (by decide) rfl (fun ls hl => ?_)
                refine lv_aload_n hx hb de_M_come_77 rfl (lv_at hl 3 rfl) ?_
                refine va_get (D := (dC, dI)) (ci := 5) (v := .ref r6) (C := rc_M) (T := fc_M) (N := 19) hx hb htw wi_M hown hK hP 0 rfl rfl 7 (by decide) (htw _ wm_430) (fun _ h9 => h9) rfl de_M_come_78 ?_
                refine lv_iload_n hx hb de_M_come_81 rfl (lv_at hl 4 rfl) ?_
                refine bc_zld (j := t) hx hb hK hP 2 1 rfl rfl (by omega) (by decide) de_M_come_82 ?_
                refine lv_if_ne (tgt := 118) hx hb de_M_come_83 (by decide) (fun _ => ?_) (fun hc => absurd hc hc_32)
                refine lv_iload hx hb de_M_come_118 (lv_at hl 0 rfl) ?_
                refine lv_if_ne (tgt := 142) hx hb de_M_come_120 (by decide) (fun _ => ?_) (fun hc => absurd hc (by decide))
                refine lv_iinc (k := 2) (v := nI (v + 1)) (lv' := [(2, .int (nI (v + 1))), (4, .int 1), (3, .int (nI ((6 * t) + v))), (0, .ref m0), (1, .int (nI t))]) hx hb de_M_come_142 hl rfl (bc_inc _) (by decide) rfl (fun ls hl => ?_)
                refine lv_goto (tgt := 13) hx hb de_M_come_145 (by decide) ?_
                exact ih_13 _ _ _ _ (by omega) ⟨(v + 1), F1, V1, g1, lv_sub hl [0, 3, 4] rfl, hP, hD, hS, rfl, (by omega), (bc_ceC hep (by omega) (by omega) hrr (Or.inr ⟨hc_52, hc_67⟩) her).1, bc_gv_n hgv (bc_ceC hep (by omega) (by omega) hrr (Or.inr ⟨hc_52, hc_67⟩) her).2⟩
    · exact ⟨_, 0, Fa, Va, gw, lv_sub hl [0, 1, 2] rfl, hP, hD, hS, rfl, Nat.zero_le _, bc_ep_0 hen, bc_gv_0 _ _ _⟩
  · have hge : ¬ t < n := fun z => hc_7 ((nI_ltI ht (by omega)).mpr z)
    exact bc_vret F hr hlocks ((Re, Fa, Va, gw)) ⟨⟨by rw [bc_come_out hge]; exact hen, by rw [bc_come_out hge]; exact hre⟩, fun z => absurd z hge, fun _ => rfl⟩ hP hD hS de_M_come_10

theorem bc_wi_zz {k o t z : Int32} (hw : bc_wi k o t z) (h4 : k ≤ 4) : ∃ zz : Nat, zz < 6 ∧ z = nI zz := by
  rcases hw with ⟨_, _, e⟩ | ⟨_, _, _, e⟩ | ⟨_, _, _, e⟩ | ⟨e, _⟩ | ⟨e, _⟩ | ⟨e, _⟩
  · exact ⟨0, by omega, by rw [e]; rfl⟩
  · exact ⟨0, by omega, by rw [e]; rfl⟩
  · exact e
  · rw [e] at h4; exact absurd h4 (by decide)
  · rw [e] at h4; exact absurd h4 (by decide)
  · rw [e] at h4; exact absurd h4 (by decide)
theorem bc_wi_oo {k o t z : Int32} (hw : bc_wi k o t z) : ∃ oo : Nat, oo < 6 ∧ o = nI oo := by
  rcases hw with ⟨_, e, _⟩ | ⟨_, e, _⟩ | ⟨_, e, _⟩ | ⟨_, e, _⟩ | ⟨_, e, _⟩ | ⟨_, e, _⟩
  · exact e
  · exact e
  · exact e
  · exact e
  · exact ⟨0, by omega, by rw [e]; rfl⟩
  · exact ⟨0, by omega, by rw [e]; rfl⟩
/-- what 'pass' makes of the now-rows -/
def bc_pp (K T Z : bc_F) (i o : Nat) (rr : bc_R) (Nf Nv : bc_F) (u : bc_F × bc_F) : Prop := (∀ x, bc_rs K T Z i rr = some x → u = (upd Nf o 2, upd Nv o x)) ∧ (bc_rs K T Z i rr = none → u = (upd Nf o 1, upd Nv o 0))
theorem bc_pp_s {K T Z Nf Nv : bc_F} {i o : Nat} {rr : bc_R} {x : Int32} (h : bc_rs K T Z i rr = some x) : bc_pp K T Z i o rr Nf Nv (upd Nf o 2, upd Nv o x) := ⟨fun y hy => by rw [h] at hy; rw [Option.some.inj hy], fun z => by rw [h] at z; cases z⟩
theorem bc_pp_n {K T Z Nf Nv : bc_F} {i o : Nat} {rr : bc_R} (h : bc_rs K T Z i rr = none) : bc_pp K T Z i o rr Nf Nv (upd Nf o 1, upd Nv o 0) := ⟨fun y hy => (by rw [h] at hy; cases hy), fun _ => rfl⟩
theorem bc_pp_er {K T Z Nf Nv : bc_F} {i o : Nat} {rr : bc_R} {u : bc_F × bc_F} (h : bc_pp K T Z i o rr Nf Nv u) (her : bc_er Nf Nv rr) : bc_er u.1 u.2 (bc_up rr o (bc_rs K T Z i rr)) := by
  cases hr : bc_rs K T Z i rr with
  | none => rw [h.2 hr]; exact bc_er_up (x := none) her rfl rfl
  | some x => rw [h.1 x hr]; exact bc_er_up (x := some x) her rfl rfl
set_option maxHeartbeats 4000000 in
set_option maxRecDepth 100000 in
/-- what an assignment makes -/
theorem co_M_pass {l : Launch} {dC : Nat → ClassId} {dI : Nat → Nat → Nat} {cI cZ : ClassId} {sz : Nat} {m0 r1 r2 r3 r4 r5 r6 r7 r8 r9 r10 r11 r12 r13 r14 r15 r16 : Nat} {K O T Z Fa Va Nf Nv : bc_F} {fa rw gw : Int32} {i : Nat} {rr : bc_R} {o : Nat} (hi : i < 40) (hw : bc_wi (K i) (O i) (T i) (Z i)) (h4 : K i ≤ 4) (eO : O i = nI o) (ho : o < 6) (hrow : ∀ v, v < 6 → Fa (6 * i + v) = bc_s0 (some rr) v ∧ Va (6 * i + v) = bc_c0 (some rr) v) : Met l yn_M_pass (Cond.code yn_M_pass by_M_pass 6 none :: wd_all) ({ frames := 1, cells := 0, slots := 0, locals := 23 } : Room) (bc_Pre (dC, dI) classes [(cI, .int), (cZ, .boolean)] [.ref m0, .int (nI i)] [(m0, .inr (5, [.int fa, .ref r1, .ref r2, .ref r3, .ref r4, .ref r5, .int rw, .ref r6, .ref r7, .ref r8, .int gw, .ref r9, .ref r10, .ref r11, .ref r12, .ref r13, .ref r14, .ref r15, .ref r16])), (r1, .inl (cI, 80, .inl K)), (r2, .inl (cI, 80, .inl O)), (r3, .inl (cI, 80, .inl T)), (r4, .inl (cI, 80, .inl Z)), (r7, .inl (cI, 240, .inl Fa)), (r8, .inl (cI, 240, .inl Va)), (r9, .inl (cI, 6, .inl Nf)), (r10, .inl (cI, 6, .inl Nv))] sz) (va_Qv (fun (u : bc_F × bc_F) => bc_pp K T Z i o rr Nf Nv u) (fun (u : bc_F × bc_F) t => bc_B (dC, dI) classes [(cI, .int), (cZ, .boolean)] (va_A [(m0, .inr (5, [.int fa, .ref r1, .ref r2, .ref r3, .ref r4, .ref r5, .int rw, .ref r6, .ref r7, .ref r8, .int gw, .ref r9, .ref r10, .ref r11, .ref r12, .ref r13, .ref r14, .ref r15, .ref r16])), (r1, .inl (cI, 80, .inl K)), (r2, .inl (cI, 80, .inl O)), (r3, .inl (cI, 80, .inl T)), (r4, .inl (cI, 80, .inl Z)), (r7, .inl (cI, 240, .inl Fa)), (r8, .inl (cI, 240, .inl Va)), (r9, .inl (cI, 6, .inl Nf)), (r10, .inl (cI, 6, .inl Nv))] sz) [(m0, .inr (5, [.int fa, .ref r1, .ref r2, .ref r3, .ref r4, .ref r5, .int rw, .ref r6, .ref r7, .ref r8, .int gw, .ref r9, .ref r10, .ref r11, .ref r12, .ref r13, .ref r14, .ref r15, .ref r16])), (r1, .inl (cI, 80, .inl K)), (r2, .inl (cI, 80, .inl O)), (r3, .inl (cI, 80, .inl T)), (r4, .inl (cI, 80, .inl Z)), (r7, .inl (cI, 240, .inl Fa)), (r8, .inl (cI, 240, .inl Va)), (r9, .inl (cI, 6, .inl u.1)), (r10, .inl (cI, 6, .inl u.2))] t) ((va_A [(m0, .inr (5, [.int fa, .ref r1, .ref r2, .ref r3, .ref r4, .ref r5, .int rw, .ref r6, .ref r7, .ref r8, .int gw, .ref r9, .ref r10, .ref r11, .ref r12, .ref r13, .ref r14, .ref r15, .ref r16])), (r1, .inl (cI, 80, .inl K)), (r2, .inl (cI, 80, .inl O)), (r3, .inl (cI, 80, .inl T)), (r4, .inl (cI, 80, .inl Z)), (r7, .inl (cI, 240, .inl Fa)), (r8, .inl (cI, 240, .inl Va)), (r9, .inl (cI, 6, .inl Nf)), (r10, .inl (cI, 6, .inl Nv))] sz))) 0 0 (va_A [(m0, .inr (5, [.int fa, .ref r1, .ref r2, .ref r3, .ref r4, .ref r5, .int rw, .ref r6, .ref r7, .ref r8, .int gw, .ref r9, .ref r10, .ref r11, .ref r12, .ref r13, .ref r14, .ref r15, .ref r16])), (r1, .inl (cI, 80, .inl K)), (r2, .inl (cI, 80, .inl O)), (r3, .inl (cI, 80, .inl T)), (r4, .inl (cI, 80, .inl Z)), (r7, .inl (cI, 240, .inl Fa)), (r8, .inl (cI, 240, .inl Va)), (r9, .inl (cI, 6, .inl Nf)), (r10, .inl (cI, 6, .inl Nv))] sz) := by
  refine bc_met (fun A => va_Qv (fun (u : bc_F × bc_F) => bc_pp K T Z i o rr Nf Nv u) (fun (u : bc_F × bc_F) t => bc_B (dC, dI) classes [(cI, .int), (cZ, .boolean)] A [(m0, .inr (5, [.int fa, .ref r1, .ref r2, .ref r3, .ref r4, .ref r5, .int rw, .ref r6, .ref r7, .ref r8, .int gw, .ref r9, .ref r10, .ref r11, .ref r12, .ref r13, .ref r14, .ref r15, .ref r16])), (r1, .inl (cI, 80, .inl K)), (r2, .inl (cI, 80, .inl O)), (r3, .inl (cI, 80, .inl T)), (r4, .inl (cI, 80, .inl Z)), (r7, .inl (cI, 240, .inl Fa)), (r8, .inl (cI, 240, .inl Va)), (r9, .inl (cI, 6, .inl u.1)), (r10, .inl (cI, 6, .inl u.2))] t) A) (by decide) (Nat.le_of_ble_eq_true rfl) ?_
  intro p e s m args below meth c A ls F hr hlocks hin hA hP hD hl hS
  have hx := F.1
  have hb := F.2.1
  have hml := F.2.2.1
  have hown : s.vm.findClass "BranchConstantsModel" = some m.cls := F.2.2.2.1
  have htw := F.2.2.2.2.1
  have hN := F.2.2.2.2.2.1
  have hK := F.2.2.2.2.2.2
  have hl : lv_has ls 6 [(0, .ref m0), (1, .int (nI i))] := hl
  obtain ⟨zz, hzz, eZ⟩ := bc_wi_zz hw h4
  refine bc_meet (σ := Int32) 27 (fun x => [.int x]) (fun x H locs ls => (∃ ww : Nat, ww < 240 ∧ x = nI ww ∧ (¬ K i = 0 → ∃ tt : Nat, tt < 6 ∧ T i = nI tt ∧ ww = 6 * i + tt)) ∧ lv_has ls 6 [(0, .ref m0), (1, .int (nI i))] ∧ va_P (dC, dI) classes [(m0, .inr (5, [.int fa, .ref r1, .ref r2, .ref r3, .ref r4, .ref r5, .int rw, .ref r6, .ref r7, .ref r8, .int gw, .ref r9, .ref r10, .ref r11, .ref r12, .ref r13, .ref r14, .ref r15, .ref r16])), (r1, .inl (cI, 80, .inl K)), (r2, .inl (cI, 80, .inl O)), (r3, .inl (cI, 80, .inl T)), (r4, .inl (cI, 80, .inl Z)), (r7, .inl (cI, 240, .inl Fa)), (r8, .inl (cI, 240, .inl Va)), (r9, .inl (cI, 6, .inl Nf)), (r10, .inl (cI, 6, .inl Nv))] H ∧ va_D A [(m0, .inr (5, [.int fa, .ref r1, .ref r2, .ref r3, .ref r4, .ref r5, .int rw, .ref r6, .ref r7, .ref r8, .int gw, .ref r9, .ref r10, .ref r11, .ref r12, .ref r13, .ref r14, .ref r15, .ref r16])), (r1, .inl (cI, 80, .inl K)), (r2, .inl (cI, 80, .inl O)), (r3, .inl (cI, 80, .inl T)), (r4, .inl (cI, 80, .inl Z)), (r7, .inl (cI, 240, .inl Fa)), (r8, .inl (cI, 240, .inl Va)), (r9, .inl (cI, 6, .inl Nf)), (r10, .inl (cI, 6, .inl Nv))] ∧ va_S A s.heap H locs) ?_ ?_
  · rintro x_27 H locs ls ⟨hm_27, hl, hP, hD, hS⟩
    obtain ⟨ww, hww, hm27, hwt⟩ := hm_27
    subst hm27
    refine lv_istore_n (lv' := [(2, .int (nI ww)), (0, .ref m0), (1, .int (nI i))]) hx hb de_M_pass_27 rfl hl (by decide) rfl (fun ls hl => ?_)
    refine lv_bipush (v := 6) hx hb de_M_pass_28 (by decide) ?_
    refine lv_iload_n hx hb de_M_pass_30 rfl (lv_at hl 2 rfl) ?_
    refine lv_imul hx hb de_M_pass_31 ?_
    refine bc_ti (y := nI (6 * i)) (pk_mul 6 i) ?_
    refine lv_aload_n hx hb de_M_pass_32 rfl (lv_at hl 1 rfl) ?_
    refine va_get (D := (dC, dI)) (ci := 5) (v := .ref r4) (C := rc_M) (T := fc_M) (N := 19) hx hb htw wi_M hown hK hP 0 rfl rfl 4 (by decide) (htw _ wm_427) (fun _ h9 => h9) rfl de_M_pass_33 ?_
    refine lv_iload_n hx hb de_M_pass_36 rfl (lv_at hl 2 rfl) ?_
    refine bc_ild (j := i) hx hb hK hP 4 0 rfl rfl (by omega) (by decide) de_M_pass_37 ?_
    refine bc_ti (y := nI zz) eZ ?_
    refine lv_iadd hx hb de_M_pass_38 ?_
    refine bc_ti (y := nI ((6 * i) + zz)) (nI_add (6 * i) zz) ?_
    refine lv_istore_n (lv' := [(3, .int (nI ((6 * i) + zz))), (2, .int (nI ww)), (0, .ref m0), (1, .int (nI i))]) hx hb de_M_pass_39 rfl hl (by decide) rfl (fun ls hl => ?_)
    refine bc_meet (σ := Int32) 65 (fun x => [.int x]) (fun x H locs ls => ((x = 1 ∧ (Fa ww = 2 ∧ Fa (6 * i + zz) = 2)) ∨ (x = 0 ∧ ¬ (Fa ww = 2 ∧ Fa (6 * i + zz) = 2))) ∧ lv_has ls 6 [(3, .int (nI ((6 * i) + zz))), (2, .int (nI ww)), (0, .ref m0), (1, .int (nI i))] ∧ va_P (dC, dI) classes [(m0, .inr (5, [.int fa, .ref r1, .ref r2, .ref r3, .ref r4, .ref r5, .int rw, .ref r6, .ref r7, .ref r8, .int gw, .ref r9, .ref r10, .ref r11, .ref r12, .ref r13, .ref r14, .ref r15, .ref r16])), (r1, .inl (cI, 80, .inl K)), (r2, .inl (cI, 80, .inl O)), (r3, .inl (cI, 80, .inl T)), (r4, .inl (cI, 80, .inl Z)), (r7, .inl (cI, 240, .inl Fa)), (r8, .inl (cI, 240, .inl Va)), (r9, .inl (cI, 6, .inl Nf)), (r10, .inl (cI, 6, .inl Nv))] H ∧ va_D A [(m0, .inr (5, [.int fa, .ref r1, .ref r2, .ref r3, .ref r4, .ref r5, .int rw, .ref r6, .ref r7, .ref r8, .int gw, .ref r9, .ref r10, .ref r11, .ref r12, .ref r13, .ref r14, .ref r15, .ref r16])), (r1, .inl (cI, 80, .inl K)), (r2, .inl (cI, 80, .inl O)), (r3, .inl (cI, 80, .inl T)), (r4, .inl (cI, 80, .inl Z)), (r7, .inl (cI, 240, .inl Fa)), (r8, .inl (cI, 240, .inl Va)), (r9, .inl (cI, 6, .inl Nf)), (r10, .inl (cI, 6, .inl Nv))] ∧ va_S A s.heap H locs) ?_ ?_
    · rintro x_65 H locs ls ⟨hm_65, hl, hP, hD, hS⟩
      refine lv_istore (lv' := [(4, .int x_65), (3, .int (nI ((6 * i) + zz))), (2, .int (nI ww)), (0, .ref m0), (1, .int (nI i))]) hx hb de_M_pass_65 hl (by decide) rfl (fun ls hl => ?_)
      refine bc_meet (σ := Int32) 120 (fun x => [.int x]) (fun x H locs ls => ((x = 1 ∧ (K i = 4 ∧ ((Fa ww = 2 ∧ Va ww = 0) ∨ (Fa (6 * i + zz) = 2 ∧ Va (6 * i + zz) = 0)))) ∨ (x = 0 ∧ ¬ (K i = 4 ∧ ((Fa ww = 2 ∧ Va ww = 0) ∨ (Fa (6 * i + zz) = 2 ∧ Va (6 * i + zz) = 0))))) ∧ lv_has ls 6 [(4, .int x_65), (3, .int (nI ((6 * i) + zz))), (2, .int (nI ww)), (0, .ref m0), (1, .int (nI i))] ∧ va_P (dC, dI) classes [(m0, .inr (5, [.int fa, .ref r1, .ref r2, .ref r3, .ref r4, .ref r5, .int rw, .ref r6, .ref r7, .ref r8, .int gw, .ref r9, .ref r10, .ref r11, .ref r12, .ref r13, .ref r14, .ref r15, .ref r16])), (r1, .inl (cI, 80, .inl K)), (r2, .inl (cI, 80, .inl O)), (r3, .inl (cI, 80, .inl T)), (r4, .inl (cI, 80, .inl Z)), (r7, .inl (cI, 240, .inl Fa)), (r8, .inl (cI, 240, .inl Va)), (r9, .inl (cI, 6, .inl Nf)), (r10, .inl (cI, 6, .inl Nv))] H ∧ va_D A [(m0, .inr (5, [.int fa, .ref r1, .ref r2, .ref r3, .ref r4, .ref r5, .int rw, .ref r6, .ref r7, .ref r8, .int gw, .ref r9, .ref r10, .ref r11, .ref r12, .ref r13, .ref r14, .ref r15, .ref r16])), (r1, .inl (cI, 80, .inl K)), (r2, .inl (cI, 80, .inl O)), (r3, .inl (cI, 80, .inl T)), (r4, .inl (cI, 80, .inl Z)), (r7, .inl (cI, 240, .inl Fa)), (r8, .inl (cI, 240, .inl Va)), (r9, .inl (cI, 6, .inl Nf)), (r10, .inl (cI, 6, .inl Nv))] ∧ va_S A s.heap H locs) ?_ ?_
      · rintro x_120 H locs ls ⟨hm_120, hl, hP, hD, hS⟩
        refine lv_istore (lv' := [(5, .int x_120), (4, .int x_65), (3, .int (nI ((6 * i) + zz))), (2, .int (nI ww)), (0, .ref m0), (1, .int (nI i))]) hx hb de_M_pass_120 hl (by decide) rfl (fun ls hl => ?_)
        refine lv_aload_n hx hb de_M_pass_122 rfl (lv_at hl 4 rfl) ?_
        refine va_get (D := (dC, dI)) (ci := 5) (v := .ref r1) (C := rc_M) (T := fc_M) (N := 19) hx hb htw wi_M hown hK hP 0 rfl rfl 1 (by decide) (htw _ wm_424) (fun _ h9 => h9) rfl de_M_pass_123 ?_
        refine lv_iload_n hx hb de_M_pass_126 rfl (lv_at hl 5 rfl) ?_
        refine bc_ild (j := i) hx hb hK hP 1 0 rfl rfl (by omega) (by decide) de_M_pass_127 ?_
        by_cases hs_128_0 : K i = 0
        · refine bc_ti hs_128_0 ?_
          refine lv_lookup (off := 28) (tgt := 156) hx hb de_M_pass_128 (by decide) (by decide) (by decide) ?_
          refine lv_aload_n hx hb de_M_pass_156 rfl (lv_at hl 4 rfl) ?_
          refine lv_aload_n hx hb de_M_pass_157 rfl (lv_at hl 4 rfl) ?_
          refine va_get (D := (dC, dI)) (ci := 5) (v := .ref r2) (C := rc_M) (T := fc_M) (N := 19) hx hb htw wi_M hown hK hP 0 rfl rfl 2 (by decide) (htw _ wm_425) (fun _ h9 => h9) rfl de_M_pass_158 ?_
          refine lv_iload_n hx hb de_M_pass_161 rfl (lv_at hl 5 rfl) ?_
          refine bc_ild (j := i) hx hb hK hP 2 0 rfl rfl (by omega) (by decide) de_M_pass_162 ?_
          refine bc_ti (y := nI o) eO ?_
          refine lv_iconst (v := 1) hx hb de_M_pass_163 (by decide) ?_
          refine lv_aload_n hx hb de_M_pass_164 rfl (lv_at hl 4 rfl) ?_
          refine va_get (D := (dC, dI)) (ci := 5) (v := .ref r3) (C := rc_M) (T := fc_M) (N := 19) hx hb htw wi_M hown hK hP 0 rfl rfl 3 (by decide) (htw _ wm_426) (fun _ h9 => h9) rfl de_M_pass_165 ?_
          refine lv_iload_n hx hb de_M_pass_168 rfl (lv_at hl 5 rfl) ?_
          refine bc_ild (j := i) hx hb hK hP 3 0 rfl rfl (by omega) (by decide) de_M_pass_169 ?_
          refine bc_call_v_v (As := [.int (nI o), .int 1, .int (T i)]) (rest := []) (wr := [(r1, .inl (cI, 80, .inl K)), (r2, .inl (cI, 80, .inl O)), (r3, .inl (cI, 80, .inl T)), (r4, .inl (cI, 80, .inl Z)), (r7, .inl (cI, 240, .inl Fa)), (r8, .inl (cI, 240, .inl Va))]) F (co_M_know ho) wm_511 wm_6 wm_509 wm_510 wm_637 0 rfl rfl pd_M_know rfl rfl ⟨Nat.le_of_ble_eq_true rfl, Nat.le_of_ble_eq_true rfl⟩ hP hD hS hA [0, 7, 8] [1, 2, 3, 4, 5, 6] rfl rfl rfl rfl (by decide) rfl hl.1 rfl (Nat.le_of_ble_eq_true rfl) de_M_pass_170 ⟨Nat.le_of_ble_eq_true rfl, Nat.le_of_ble_eq_true rfl⟩ (fun u_170 H locs hw_170 hP hD hS => ?_)
          have e9 := hw_170.1 (by decide)
          subst e9
          have hP : va_P (dC, dI) classes [(m0, .inr (5, [.int fa, .ref r1, .ref r2, .ref r3, .ref r4, .ref r5, .int rw, .ref r6, .ref r7, .ref r8, .int gw, .ref r9, .ref r10, .ref r11, .ref r12, .ref r13, .ref r14, .ref r15, .ref r16])), (r1, .inl (cI, 80, .inl K)), (r2, .inl (cI, 80, .inl O)), (r3, .inl (cI, 80, .inl T)), (r4, .inl (cI, 80, .inl Z)), (r7, .inl (cI, 240, .inl Fa)), (r8, .inl (cI, 240, .inl Va)), (r9, .inl (cI, 6, .inl (upd Nf o 2))), (r10, .inl (cI, 6, .inl (upd Nv o (T i))))] H := hP.sub [6, 0, 1, 2, 3, 4, 5, 7, 8] rfl
          have hD : va_D A [(m0, .inr (5, [.int fa, .ref r1, .ref r2, .ref r3, .ref r4, .ref r5, .int rw, .ref r6, .ref r7, .ref r8, .int gw, .ref r9, .ref r10, .ref r11, .ref r12, .ref r13, .ref r14, .ref r15, .ref r16])), (r1, .inl (cI, 80, .inl K)), (r2, .inl (cI, 80, .inl O)), (r3, .inl (cI, 80, .inl T)), (r4, .inl (cI, 80, .inl Z)), (r7, .inl (cI, 240, .inl Fa)), (r8, .inl (cI, 240, .inl Va)), (r9, .inl (cI, 6, .inl (upd Nf o 2))), (r10, .inl (cI, 6, .inl (upd Nv o (T i))))] := hD.sub [6, 0, 1, 2, 3, 4, 5, 7, 8] (by decide) rfl
          refine lv_goto (tgt := 265) hx hb de_M_pass_173 (by decide) ?_
          exact bc_vret F hr hlocks ((upd Nf o 2, upd Nv o (T i))) (bc_pp_s (bc_rs_0 hs_128_0)) hP hD hS de_M_pass_265
        by_cases hs_128_1 : K i = 1
        · refine bc_ti hs_128_1 ?_
          refine lv_lookup (off := 48) (tgt := 176) hx hb de_M_pass_128 (by decide) (by decide) (by decide) ?_
          obtain ⟨tt, htt, eT, ew⟩ := hwt (by rw [hs_128_1]; decide)
          subst ew
          refine lv_aload_n hx hb de_M_pass_176 rfl (lv_at hl 4 rfl) ?_
          refine lv_aload_n hx hb de_M_pass_177 rfl (lv_at hl 4 rfl) ?_
          refine va_get (D := (dC, dI)) (ci := 5) (v := .ref r2) (C := rc_M) (T := fc_M) (N := 19) hx hb htw wi_M hown hK hP 0 rfl rfl 2 (by decide) (htw _ wm_425) (fun _ h9 => h9) rfl de_M_pass_178 ?_
          refine lv_iload_n hx hb de_M_pass_181 rfl (lv_at hl 5 rfl) ?_
          refine bc_ild (j := i) hx hb hK hP 2 0 rfl rfl (by omega) (by decide) de_M_pass_182 ?_
          refine bc_ti (y := nI o) eO ?_
          refine lv_aload_n hx hb de_M_pass_183 rfl (lv_at hl 4 rfl) ?_
          refine va_get (D := (dC, dI)) (ci := 5) (v := .ref r7) (C := rc_M) (T := fc_M) (N := 19) hx hb htw wi_M hown hK hP 0 rfl rfl 8 (by decide) (htw _ wm_431) (fun _ h9 => h9) rfl de_M_pass_184 ?_
          refine lv_iload_n hx hb de_M_pass_187 rfl (lv_at hl 3 rfl) ?_
          refine bc_ild (j := 6 * i + tt) hx hb hK hP 5 0 rfl rfl (by omega) (by decide) de_M_pass_188 ?_
          refine lv_iconst (v := 2) hx hb de_M_pass_189 (by decide) ?_
          refine lv_icmp_ne (tgt := 197) hx hb de_M_pass_190 (by decide) (fun hc_190 => ?_) (fun hc_190 => ?_)
          · refine lv_iconst (v := 0) hx hb de_M_pass_197 (by decide) ?_
            refine lv_aload_n hx hb de_M_pass_198 rfl (lv_at hl 4 rfl) ?_
            refine va_get (D := (dC, dI)) (ci := 5) (v := .ref r8) (C := rc_M) (T := fc_M) (N := 19) hx hb htw wi_M hown hK hP 0 rfl rfl 9 (by decide) (htw _ wm_432) (fun _ h9 => h9) rfl de_M_pass_199 ?_
            refine lv_iload_n hx hb de_M_pass_202 rfl (lv_at hl 3 rfl) ?_
            refine bc_ild (j := 6 * i + tt) hx hb hK hP 6 0 rfl rfl (by omega) (by decide) de_M_pass_203 ?_
            refine bc_call_v_v (As := [.int (nI o), .int 0, .int (Va (6 * i + tt))]) (rest := []) (wr := [(r1, .inl (cI, 80, .inl K)), (r2, .inl (cI, 80, .inl O)), (r3, .inl (cI, 80, .inl T)), (r4, .inl (cI, 80, .inl Z)), (r7, .inl (cI, 240, .inl Fa)), (r8, .inl (cI, 240, .inl Va))]) F (co_M_know ho) wm_511 wm_6 wm_509 wm_510 wm_637 0 rfl rfl pd_M_know rfl rfl ⟨Nat.le_of_ble_eq_true rfl, Nat.le_of_ble_eq_true rfl⟩ hP hD hS hA [0, 7, 8] [1, 2, 3, 4, 5, 6] rfl rfl rfl rfl (by decide) rfl hl.1 rfl (Nat.le_of_ble_eq_true rfl) de_M_pass_204 ⟨Nat.le_of_ble_eq_true rfl, Nat.le_of_ble_eq_true rfl⟩ (fun u_204 H locs hw_204 hP hD hS => ?_)
            have e9 := hw_204.2 rfl
            subst e9
            have hP : va_P (dC, dI) classes [(m0, .inr (5, [.int fa, .ref r1, .ref r2, .ref r3, .ref r4, .ref r5, .int rw, .ref r6, .ref r7, .ref r8, .int gw, .ref r9, .ref r10, .ref r11, .ref r12, .ref r13, .ref r14, .ref r15, .ref r16])), (r1, .inl (cI, 80, .inl K)), (r2, .inl (cI, 80, .inl O)), (r3, .inl (cI, 80, .inl T)), (r4, .inl (cI, 80, .inl Z)), (r7, .inl (cI, 240, .inl Fa)), (r8, .inl (cI, 240, .inl Va)), (r9, .inl (cI, 6, .inl (upd Nf o 1))), (r10, .inl (cI, 6, .inl (upd Nv o 0)))] H := hP.sub [6, 0, 1, 2, 3, 4, 5, 7, 8] rfl
            have hD : va_D A [(m0, .inr (5, [.int fa, .ref r1, .ref r2, .ref r3, .ref r4, .ref r5, .int rw, .ref r6, .ref r7, .ref r8, .int gw, .ref r9, .ref r10, .ref r11, .ref r12, .ref r13, .ref r14, .ref r15, .ref r16])), (r1, .inl (cI, 80, .inl K)), (r2, .inl (cI, 80, .inl O)), (r3, .inl (cI, 80, .inl T)), (r4, .inl (cI, 80, .inl Z)), (r7, .inl (cI, 240, .inl Fa)), (r8, .inl (cI, 240, .inl Va)), (r9, .inl (cI, 6, .inl (upd Nf o 1))), (r10, .inl (cI, 6, .inl (upd Nv o 0)))] := hD.sub [6, 0, 1, 2, 3, 4, 5, 7, 8] (by decide) rfl
            refine lv_goto (tgt := 265) hx hb de_M_pass_207 (by decide) ?_
            exact bc_vret F hr hlocks ((upd Nf o 1, upd Nv o 0)) (bc_pp_n (by rw [bc_rs_1 hs_128_1 eT htt]; exact bc_s0_n2 (by rw [← (hrow tt htt).1]; exact hc_190))) hP hD hS de_M_pass_265
          · refine lv_iconst (v := 1) hx hb de_M_pass_193 (by decide) ?_
            refine lv_goto (tgt := 198) hx hb de_M_pass_194 (by decide) ?_
            refine lv_aload_n hx hb de_M_pass_198 rfl (lv_at hl 4 rfl) ?_
            refine va_get (D := (dC, dI)) (ci := 5) (v := .ref r8) (C := rc_M) (T := fc_M) (N := 19) hx hb htw wi_M hown hK hP 0 rfl rfl 9 (by decide) (htw _ wm_432) (fun _ h9 => h9) rfl de_M_pass_199 ?_
            refine lv_iload_n hx hb de_M_pass_202 rfl (lv_at hl 3 rfl) ?_
            refine bc_ild (j := 6 * i + tt) hx hb hK hP 6 0 rfl rfl (by omega) (by decide) de_M_pass_203 ?_
            refine bc_call_v_v (As := [.int (nI o), .int 1, .int (Va (6 * i + tt))]) (rest := []) (wr := [(r1, .inl (cI, 80, .inl K)), (r2, .inl (cI, 80, .inl O)), (r3, .inl (cI, 80, .inl T)), (r4, .inl (cI, 80, .inl Z)), (r7, .inl (cI, 240, .inl Fa)), (r8, .inl (cI, 240, .inl Va))]) F (co_M_know ho) wm_511 wm_6 wm_509 wm_510 wm_637 0 rfl rfl pd_M_know rfl rfl ⟨Nat.le_of_ble_eq_true rfl, Nat.le_of_ble_eq_true rfl⟩ hP hD hS hA [0, 7, 8] [1, 2, 3, 4, 5, 6] rfl rfl rfl rfl (by decide) rfl hl.1 rfl (Nat.le_of_ble_eq_true rfl) de_M_pass_204 ⟨Nat.le_of_ble_eq_true rfl, Nat.le_of_ble_eq_true rfl⟩ (fun u_204 H locs hw_204 hP hD hS => ?_)
            have e9 := hw_204.1 (by decide)
            subst e9
            have hP : va_P (dC, dI) classes [(m0, .inr (5, [.int fa, .ref r1, .ref r2, .ref r3, .ref r4, .ref r5, .int rw, .ref r6, .ref r7, .ref r8, .int gw, .ref r9, .ref r10, .ref r11, .ref r12, .ref r13, .ref r14, .ref r15, .ref r16])), (r1, .inl (cI, 80, .inl K)), (r2, .inl (cI, 80, .inl O)), (r3, .inl (cI, 80, .inl T)), (r4, .inl (cI, 80, .inl Z)), (r7, .inl (cI, 240, .inl Fa)), (r8, .inl (cI, 240, .inl Va)), (r9, .inl (cI, 6, .inl (upd Nf o 2))), (r10, .inl (cI, 6, .inl (upd Nv o (Va (6 * i + tt)))))] H := hP.sub [6, 0, 1, 2, 3, 4, 5, 7, 8] rfl
            have hD : va_D A [(m0, .inr (5, [.int fa, .ref r1, .ref r2, .ref r3, .ref r4, .ref r5, .int rw, .ref r6, .ref r7, .ref r8, .int gw, .ref r9, .ref r10, .ref r11, .ref r12, .ref r13, .ref r14, .ref r15, .ref r16])), (r1, .inl (cI, 80, .inl K)), (r2, .inl (cI, 80, .inl O)), (r3, .inl (cI, 80, .inl T)), (r4, .inl (cI, 80, .inl Z)), (r7, .inl (cI, 240, .inl Fa)), (r8, .inl (cI, 240, .inl Va)), (r9, .inl (cI, 6, .inl (upd Nf o 2))), (r10, .inl (cI, 6, .inl (upd Nv o (Va (6 * i + tt)))))] := hD.sub [6, 0, 1, 2, 3, 4, 5, 7, 8] (by decide) rfl
            refine lv_goto (tgt := 265) hx hb de_M_pass_207 (by decide) ?_
            exact bc_vret F hr hlocks ((upd Nf o 2, upd Nv o (Va (6 * i + tt)))) (bc_pp_s (by rw [bc_rs_1 hs_128_1 eT htt, (hrow tt htt).2]; exact bc_s0_is2 (by rw [← (hrow tt htt).1]; exact hc_190))) hP hD hS de_M_pass_265
        refine lv_lookup (off := 82) (tgt := 210) hx hb de_M_pass_128 (by decide) (show Op.lookupswitch.offset [(0, 28), (1, 48)] 82 (K i).toInt = 82 by rw [lv_osw hs_128_0 (by decide), lv_osw hs_128_1 (by decide)]; rfl) (by decide) ?_
        obtain ⟨tt, htt, eT, ew⟩ := hwt hs_128_0
        subst ew
        refine lv_aload_n hx hb de_M_pass_210 rfl (lv_at hl 4 rfl) ?_
        refine lv_aload_n hx hb de_M_pass_211 rfl (lv_at hl 4 rfl) ?_
        refine va_get (D := (dC, dI)) (ci := 5) (v := .ref r2) (C := rc_M) (T := fc_M) (N := 19) hx hb htw wi_M hown hK hP 0 rfl rfl 2 (by decide) (htw _ wm_425) (fun _ h9 => h9) rfl de_M_pass_212 ?_
        refine lv_iload_n hx hb de_M_pass_215 rfl (lv_at hl 5 rfl) ?_
        refine bc_ild (j := i) hx hb hK hP 2 0 rfl rfl (by omega) (by decide) de_M_pass_216 ?_
        refine bc_ti (y := nI o) eO ?_
        refine lv_iload hx hb de_M_pass_217 (lv_at hl 1 rfl) ?_
        refine lv_if_ne (tgt := 227) hx hb de_M_pass_219 (by decide) (fun hc_219 => ?_) (fun hc_219 => ?_)
        · refine lv_iconst (v := 1) hx hb de_M_pass_227 (by decide) ?_
          refine lv_goto (tgt := 232) hx hb de_M_pass_228 (by decide) ?_
          refine lv_iload hx hb de_M_pass_232 (lv_at hl 0 rfl) ?_
          refine lv_if_eq (tgt := 241) hx hb de_M_pass_234 (by decide) (fun hc_234 => ?_) (fun hc_234 => ?_)
          · have hn4 : ¬ (K i = 4 ∧ (rr tt = some 0 ∨ rr zz = some 0)) := fun z => hm_120.elim (fun y => absurd hc_234 (by rw [y.1]; decide)) (fun y => y.2 ⟨z.1, z.2.elim (fun x => Or.inl (by rw [(hrow tt htt).1, (hrow tt htt).2]; exact bc_z0.mpr x)) (fun x => Or.inr (by rw [(hrow zz hzz).1, (hrow zz hzz).2]; exact bc_z0.mpr x))⟩)
            have hbo : Fa (6 * i + tt) = 2 ∧ Fa (6 * i + zz) = 2 := hm_65.elim (fun z => z.2) (fun z => absurd z.1 hc_219)
            refine lv_aload_n hx hb de_M_pass_241 rfl (lv_at hl 4 rfl) ?_
            refine va_get (D := (dC, dI)) (ci := 5) (v := .ref r1) (C := rc_M) (T := fc_M) (N := 19) hx hb htw wi_M hown hK hP 0 rfl rfl 1 (by decide) (htw _ wm_424) (fun _ h9 => h9) rfl de_M_pass_242 ?_
            refine lv_iload_n hx hb de_M_pass_245 rfl (lv_at hl 5 rfl) ?_
            refine bc_ild (j := i) hx hb hK hP 1 0 rfl rfl (by omega) (by decide) de_M_pass_246 ?_
            refine lv_aload_n hx hb de_M_pass_247 rfl (lv_at hl 4 rfl) ?_
            refine va_get (D := (dC, dI)) (ci := 5) (v := .ref r8) (C := rc_M) (T := fc_M) (N := 19) hx hb htw wi_M hown hK hP 0 rfl rfl 9 (by decide) (htw _ wm_432) (fun _ h9 => h9) rfl de_M_pass_248 ?_
            refine lv_iload_n hx hb de_M_pass_251 rfl (lv_at hl 3 rfl) ?_
            refine bc_ild (j := 6 * i + tt) hx hb hK hP 6 0 rfl rfl (by omega) (by decide) de_M_pass_252 ?_
            refine lv_aload_n hx hb de_M_pass_253 rfl (lv_at hl 4 rfl) ?_
            refine va_get (D := (dC, dI)) (ci := 5) (v := .ref r8) (C := rc_M) (T := fc_M) (N := 19) hx hb htw wi_M hown hK hP 0 rfl rfl 9 (by decide) (htw _ wm_432) (fun _ h9 => h9) rfl de_M_pass_254 ?_
            refine lv_iload_n hx hb de_M_pass_257 rfl (lv_at hl 2 rfl) ?_
            refine bc_ild (j := (6 * i) + zz) hx hb hK hP 6 0 rfl rfl (by omega) (by decide) de_M_pass_258 ?_
            refine bc_call_s_i (As := [.int (K i), .int (Va (6 * i + tt)), .int (Va ((6 * i) + zz))]) (rest := [.int 1, .int (nI o), .ref m0]) (wr := [(m0, .inr (5, [.int fa, .ref r1, .ref r2, .ref r3, .ref r4, .ref r5, .int rw, .ref r6, .ref r7, .ref r8, .int gw, .ref r9, .ref r10, .ref r11, .ref r12, .ref r13, .ref r14, .ref r15, .ref r16])), (r1, .inl (cI, 80, .inl K)), (r2, .inl (cI, 80, .inl O)), (r3, .inl (cI, 80, .inl T)), (r4, .inl (cI, 80, .inl Z)), (r7, .inl (cI, 240, .inl Fa)), (r8, .inl (cI, 240, .inl Va)), (r9, .inl (cI, 6, .inl Nf)), (r10, .inl (cI, 6, .inl Nv))]) F (co_M_reckon) wm_517 wm_6 wm_515 wm_516 pd_M_reckon rfl rfl ⟨Nat.le_of_ble_eq_true rfl, Nat.le_of_ble_eq_true rfl⟩ hP hD hS hA [] [0, 1, 2, 3, 4, 5, 6, 7, 8] rfl rfl rfl rfl (by decide) rfl hl.1 rfl (Nat.le_of_ble_eq_true rfl) de_M_pass_259 ⟨Nat.le_of_ble_eq_true rfl, Nat.le_of_ble_eq_true rfl⟩ (fun r_259 u_259 H locs hw_259 hP hD hS => ?_)
            have hP : va_P (dC, dI) classes [(m0, .inr (5, [.int fa, .ref r1, .ref r2, .ref r3, .ref r4, .ref r5, .int rw, .ref r6, .ref r7, .ref r8, .int gw, .ref r9, .ref r10, .ref r11, .ref r12, .ref r13, .ref r14, .ref r15, .ref r16])), (r1, .inl (cI, 80, .inl K)), (r2, .inl (cI, 80, .inl O)), (r3, .inl (cI, 80, .inl T)), (r4, .inl (cI, 80, .inl Z)), (r7, .inl (cI, 240, .inl Fa)), (r8, .inl (cI, 240, .inl Va)), (r9, .inl (cI, 6, .inl Nf)), (r10, .inl (cI, 6, .inl Nv))] H := hP.sub [0, 1, 2, 3, 4, 5, 6, 7, 8] rfl
            have hD : va_D A [(m0, .inr (5, [.int fa, .ref r1, .ref r2, .ref r3, .ref r4, .ref r5, .int rw, .ref r6, .ref r7, .ref r8, .int gw, .ref r9, .ref r10, .ref r11, .ref r12, .ref r13, .ref r14, .ref r15, .ref r16])), (r1, .inl (cI, 80, .inl K)), (r2, .inl (cI, 80, .inl O)), (r3, .inl (cI, 80, .inl T)), (r4, .inl (cI, 80, .inl Z)), (r7, .inl (cI, 240, .inl Fa)), (r8, .inl (cI, 240, .inl Va)), (r9, .inl (cI, 6, .inl Nf)), (r10, .inl (cI, 6, .inl Nv))] := hD.sub [0, 1, 2, 3, 4, 5, 6, 7, 8] (by decide) rfl
            subst hw_259
            refine bc_call_v_v (As := [.int (nI o), .int 1, .int (bc_ar (K i) (Va (6 * i + tt)) (Va (6 * i + zz)))]) (rest := []) (wr := [(r1, .inl (cI, 80, .inl K)), (r2, .inl (cI, 80, .inl O)), (r3, .inl (cI, 80, .inl T)), (r4, .inl (cI, 80, .inl Z)), (r7, .inl (cI, 240, .inl Fa)), (r8, .inl (cI, 240, .inl Va))]) F (co_M_know ho) wm_511 wm_6 wm_509 wm_510 wm_637 0 rfl rfl pd_M_know rfl rfl ⟨Nat.le_of_ble_eq_true rfl, Nat.le_of_ble_eq_true rfl⟩ hP hD hS hA [0, 7, 8] [1, 2, 3, 4, 5, 6] rfl rfl rfl rfl (by decide) rfl hl.1 rfl (Nat.le_of_ble_eq_true rfl) de_M_pass_262 ⟨Nat.le_of_ble_eq_true rfl, Nat.le_of_ble_eq_true rfl⟩ (fun u_262 H locs hw_262 hP hD hS => ?_)
            have e9 := hw_262.1 (by decide)
            subst e9
            have hP : va_P (dC, dI) classes [(m0, .inr (5, [.int fa, .ref r1, .ref r2, .ref r3, .ref r4, .ref r5, .int rw, .ref r6, .ref r7, .ref r8, .int gw, .ref r9, .ref r10, .ref r11, .ref r12, .ref r13, .ref r14, .ref r15, .ref r16])), (r1, .inl (cI, 80, .inl K)), (r2, .inl (cI, 80, .inl O)), (r3, .inl (cI, 80, .inl T)), (r4, .inl (cI, 80, .inl Z)), (r7, .inl (cI, 240, .inl Fa)), (r8, .inl (cI, 240, .inl Va)), (r9, .inl (cI, 6, .inl (upd Nf o 2))), (r10, .inl (cI, 6, .inl (upd Nv o (bc_ar (K i) (Va (6 * i + tt)) (Va (6 * i + zz))))))] H := hP.sub [6, 0, 1, 2, 3, 4, 5, 7, 8] rfl
            have hD : va_D A [(m0, .inr (5, [.int fa, .ref r1, .ref r2, .ref r3, .ref r4, .ref r5, .int rw, .ref r6, .ref r7, .ref r8, .int gw, .ref r9, .ref r10, .ref r11, .ref r12, .ref r13, .ref r14, .ref r15, .ref r16])), (r1, .inl (cI, 80, .inl K)), (r2, .inl (cI, 80, .inl O)), (r3, .inl (cI, 80, .inl T)), (r4, .inl (cI, 80, .inl Z)), (r7, .inl (cI, 240, .inl Fa)), (r8, .inl (cI, 240, .inl Va)), (r9, .inl (cI, 6, .inl (upd Nf o 2))), (r10, .inl (cI, 6, .inl (upd Nv o (bc_ar (K i) (Va (6 * i + tt)) (Va (6 * i + zz))))))] := hD.sub [6, 0, 1, 2, 3, 4, 5, 7, 8] (by decide) rfl
            exact bc_vret F hr hlocks ((upd Nf o 2, upd Nv o (bc_ar (K i) (Va (6 * i + tt)) (Va (6 * i + zz))))) (bc_pp_s ((bc_rs_2 hs_128_0 hs_128_1 eT htt eZ hzz hn4 hrow).1 hbo)) hP hD hS de_M_pass_265
          · have hn4 : K i = 4 ∧ ((Fa (6 * i + tt) = 2 ∧ Va (6 * i + tt) = 0) ∨ (Fa (6 * i + zz) = 2 ∧ Va (6 * i + zz) = 0)) := hm_120.elim (fun z => z.2) (fun z => absurd z.1 hc_234)
            have hz0 : rr tt = some 0 ∨ rr zz = some 0 := hn4.2.elim (fun y => Or.inl (bc_z0.mp (by rw [← (hrow tt htt).1, ← (hrow tt htt).2]; exact y))) (fun y => Or.inr (bc_z0.mp (by rw [← (hrow zz hzz).1, ← (hrow zz hzz).2]; exact y)))
            refine lv_iconst (v := 0) hx hb de_M_pass_237 (by decide) ?_
            refine lv_goto (tgt := 262) hx hb de_M_pass_238 (by decide) ?_
            refine bc_call_v_v (As := [.int (nI o), .int 1, .int 0]) (rest := []) (wr := [(r1, .inl (cI, 80, .inl K)), (r2, .inl (cI, 80, .inl O)), (r3, .inl (cI, 80, .inl T)), (r4, .inl (cI, 80, .inl Z)), (r7, .inl (cI, 240, .inl Fa)), (r8, .inl (cI, 240, .inl Va))]) F (co_M_know ho) wm_511 wm_6 wm_509 wm_510 wm_637 0 rfl rfl pd_M_know rfl rfl ⟨Nat.le_of_ble_eq_true rfl, Nat.le_of_ble_eq_true rfl⟩ hP hD hS hA [0, 7, 8] [1, 2, 3, 4, 5, 6] rfl rfl rfl rfl (by decide) rfl hl.1 rfl (Nat.le_of_ble_eq_true rfl) de_M_pass_262 ⟨Nat.le_of_ble_eq_true rfl, Nat.le_of_ble_eq_true rfl⟩ (fun u_262 H locs hw_262 hP hD hS => ?_)
            have e9 := hw_262.1 (by decide)
            subst e9
            have hP : va_P (dC, dI) classes [(m0, .inr (5, [.int fa, .ref r1, .ref r2, .ref r3, .ref r4, .ref r5, .int rw, .ref r6, .ref r7, .ref r8, .int gw, .ref r9, .ref r10, .ref r11, .ref r12, .ref r13, .ref r14, .ref r15, .ref r16])), (r1, .inl (cI, 80, .inl K)), (r2, .inl (cI, 80, .inl O)), (r3, .inl (cI, 80, .inl T)), (r4, .inl (cI, 80, .inl Z)), (r7, .inl (cI, 240, .inl Fa)), (r8, .inl (cI, 240, .inl Va)), (r9, .inl (cI, 6, .inl (upd Nf o 2))), (r10, .inl (cI, 6, .inl (upd Nv o 0)))] H := hP.sub [6, 0, 1, 2, 3, 4, 5, 7, 8] rfl
            have hD : va_D A [(m0, .inr (5, [.int fa, .ref r1, .ref r2, .ref r3, .ref r4, .ref r5, .int rw, .ref r6, .ref r7, .ref r8, .int gw, .ref r9, .ref r10, .ref r11, .ref r12, .ref r13, .ref r14, .ref r15, .ref r16])), (r1, .inl (cI, 80, .inl K)), (r2, .inl (cI, 80, .inl O)), (r3, .inl (cI, 80, .inl T)), (r4, .inl (cI, 80, .inl Z)), (r7, .inl (cI, 240, .inl Fa)), (r8, .inl (cI, 240, .inl Va)), (r9, .inl (cI, 6, .inl (upd Nf o 2))), (r10, .inl (cI, 6, .inl (upd Nv o 0)))] := hD.sub [6, 0, 1, 2, 3, 4, 5, 7, 8] (by decide) rfl
            exact bc_vret F hr hlocks ((upd Nf o 2, upd Nv o 0)) (bc_pp_s (bc_rs_m hn4.1 eT htt eZ hzz hz0)) hP hD hS de_M_pass_265
        · refine lv_iload hx hb de_M_pass_222 (lv_at hl 0 rfl) ?_
          refine lv_if_eq (tgt := 231) hx hb de_M_pass_224 (by decide) (fun hc_224 => ?_) (fun hc_224 => ?_)
          · refine lv_iconst (v := 0) hx hb de_M_pass_231 (by decide) ?_
            refine lv_iload hx hb de_M_pass_232 (lv_at hl 0 rfl) ?_
            refine lv_if_eq (tgt := 241) hx hb de_M_pass_234 (by decide) (fun _ => ?_) (fun hc => absurd hc_224 hc)
            have hn4 : ¬ (K i = 4 ∧ (rr tt = some 0 ∨ rr zz = some 0)) := fun z => hm_120.elim (fun y => absurd hc_224 (by rw [y.1]; decide)) (fun y => y.2 ⟨z.1, z.2.elim (fun x => Or.inl (by rw [(hrow tt htt).1, (hrow tt htt).2]; exact bc_z0.mpr x)) (fun x => Or.inr (by rw [(hrow zz hzz).1, (hrow zz hzz).2]; exact bc_z0.mpr x))⟩)
            have hbo : ¬ (Fa (6 * i + tt) = 2 ∧ Fa (6 * i + zz) = 2) := hm_65.elim (fun z => absurd hc_219 (by rw [z.1]; decide)) (fun z => z.2)
            refine lv_aload_n hx hb de_M_pass_241 rfl (lv_at hl 4 rfl) ?_
            refine va_get (D := (dC, dI)) (ci := 5) (v := .ref r1) (C := rc_M) (T := fc_M) (N := 19) hx hb htw wi_M hown hK hP 0 rfl rfl 1 (by decide) (htw _ wm_424) (fun _ h9 => h9) rfl de_M_pass_242 ?_
            refine lv_iload_n hx hb de_M_pass_245 rfl (lv_at hl 5 rfl) ?_
            refine bc_ild (j := i) hx hb hK hP 1 0 rfl rfl (by omega) (by decide) de_M_pass_246 ?_
            refine lv_aload_n hx hb de_M_pass_247 rfl (lv_at hl 4 rfl) ?_
            refine va_get (D := (dC, dI)) (ci := 5) (v := .ref r8) (C := rc_M) (T := fc_M) (N := 19) hx hb htw wi_M hown hK hP 0 rfl rfl 9 (by decide) (htw _ wm_432) (fun _ h9 => h9) rfl de_M_pass_248 ?_
            refine lv_iload_n hx hb de_M_pass_251 rfl (lv_at hl 3 rfl) ?_
            refine bc_ild (j := 6 * i + tt) hx hb hK hP 6 0 rfl rfl (by omega) (by decide) de_M_pass_252 ?_
            refine lv_aload_n hx hb de_M_pass_253 rfl (lv_at hl 4 rfl) ?_
            refine va_get (D := (dC, dI)) (ci := 5) (v := .ref r8) (C := rc_M) (T := fc_M) (N := 19) hx hb htw wi_M hown hK hP 0 rfl rfl 9 (by decide) (htw _ wm_432) (fun _ h9 => h9) rfl de_M_pass_254 ?_
            refine lv_iload_n hx hb de_M_pass_257 rfl (lv_at hl 2 rfl) ?_
            refine bc_ild (j := (6 * i) + zz) hx hb hK hP 6 0 rfl rfl (by omega) (by decide) de_M_pass_258 ?_
            refine bc_call_s_i (As := [.int (K i), .int (Va (6 * i + tt)), .int (Va ((6 * i) + zz))]) (rest := [.int 0, .int (nI o), .ref m0]) (wr := [(m0, .inr (5, [.int fa, .ref r1, .ref r2, .ref r3, .ref r4, .ref r5, .int rw, .ref r6, .ref r7, .ref r8, .int gw, .ref r9, .ref r10, .ref r11, .ref r12, .ref r13, .ref r14, .ref r15, .ref r16])), (r1, .inl (cI, 80, .inl K)), (r2, .inl (cI, 80, .inl O)), (r3, .inl (cI, 80, .inl T)), (r4, .inl (cI, 80, .inl Z)), (r7, .inl (cI, 240, .inl Fa)), (r8, .inl (cI, 240, .inl Va)), (r9, .inl (cI, 6, .inl Nf)), (r10, .inl (cI, 6, .inl Nv))]) F (co_M_reckon) wm_517 wm_6 wm_515 wm_516 pd_M_reckon rfl rfl ⟨Nat.le_of_ble_eq_true rfl, Nat.le_of_ble_eq_true rfl⟩ hP hD hS hA [] [0, 1, 2, 3, 4, 5, 6, 7, 8] rfl rfl rfl rfl (by decide) rfl hl.1 rfl (Nat.le_of_ble_eq_true rfl) de_M_pass_259 ⟨Nat.le_of_ble_eq_true rfl, Nat.le_of_ble_eq_true rfl⟩ (fun r_259 u_259 H locs hw_259 hP hD hS => ?_)
            have hP : va_P (dC, dI) classes [(m0, .inr (5, [.int fa, .ref r1, .ref r2, .ref r3, .ref r4, .ref r5, .int rw, .ref r6, .ref r7, .ref r8, .int gw, .ref r9, .ref r10, .ref r11, .ref r12, .ref r13, .ref r14, .ref r15, .ref r16])), (r1, .inl (cI, 80, .inl K)), (r2, .inl (cI, 80, .inl O)), (r3, .inl (cI, 80, .inl T)), (r4, .inl (cI, 80, .inl Z)), (r7, .inl (cI, 240, .inl Fa)), (r8, .inl (cI, 240, .inl Va)), (r9, .inl (cI, 6, .inl Nf)), (r10, .inl (cI, 6, .inl Nv))] H := hP.sub [0, 1, 2, 3, 4, 5, 6, 7, 8] rfl
            have hD : va_D A [(m0, .inr (5, [.int fa, .ref r1, .ref r2, .ref r3, .ref r4, .ref r5, .int rw, .ref r6, .ref r7, .ref r8, .int gw, .ref r9, .ref r10, .ref r11, .ref r12, .ref r13, .ref r14, .ref r15, .ref r16])), (r1, .inl (cI, 80, .inl K)), (r2, .inl (cI, 80, .inl O)), (r3, .inl (cI, 80, .inl T)), (r4, .inl (cI, 80, .inl Z)), (r7, .inl (cI, 240, .inl Fa)), (r8, .inl (cI, 240, .inl Va)), (r9, .inl (cI, 6, .inl Nf)), (r10, .inl (cI, 6, .inl Nv))] := hD.sub [0, 1, 2, 3, 4, 5, 6, 7, 8] (by decide) rfl
            subst hw_259
            refine bc_call_v_v (As := [.int (nI o), .int 0, .int (bc_ar (K i) (Va (6 * i + tt)) (Va (6 * i + zz)))]) (rest := []) (wr := [(r1, .inl (cI, 80, .inl K)), (r2, .inl (cI, 80, .inl O)), (r3, .inl (cI, 80, .inl T)), (r4, .inl (cI, 80, .inl Z)), (r7, .inl (cI, 240, .inl Fa)), (r8, .inl (cI, 240, .inl Va))]) F (co_M_know ho) wm_511 wm_6 wm_509 wm_510 wm_637 0 rfl rfl pd_M_know rfl rfl ⟨Nat.le_of_ble_eq_true rfl, Nat.le_of_ble_eq_true rfl⟩ hP hD hS hA [0, 7, 8] [1, 2, 3, 4, 5, 6] rfl rfl rfl rfl (by decide) rfl hl.1 rfl (Nat.le_of_ble_eq_true rfl) de_M_pass_262 ⟨Nat.le_of_ble_eq_true rfl, Nat.le_of_ble_eq_true rfl⟩ (fun u_262 H locs hw_262 hP hD hS => ?_)
            have e9 := hw_262.2 rfl
            subst e9
            have hP : va_P (dC, dI) classes [(m0, .inr (5, [.int fa, .ref r1, .ref r2, .ref r3, .ref r4, .ref r5, .int rw, .ref r6, .ref r7, .ref r8, .int gw, .ref r9, .ref r10, .ref r11, .ref r12, .ref r13, .ref r14, .ref r15, .ref r16])), (r1, .inl (cI, 80, .inl K)), (r2, .inl (cI, 80, .inl O)), (r3, .inl (cI, 80, .inl T)), (r4, .inl (cI, 80, .inl Z)), (r7, .inl (cI, 240, .inl Fa)), (r8, .inl (cI, 240, .inl Va)), (r9, .inl (cI, 6, .inl (upd Nf o 1))), (r10, .inl (cI, 6, .inl (upd Nv o 0)))] H := hP.sub [6, 0, 1, 2, 3, 4, 5, 7, 8] rfl
            have hD : va_D A [(m0, .inr (5, [.int fa, .ref r1, .ref r2, .ref r3, .ref r4, .ref r5, .int rw, .ref r6, .ref r7, .ref r8, .int gw, .ref r9, .ref r10, .ref r11, .ref r12, .ref r13, .ref r14, .ref r15, .ref r16])), (r1, .inl (cI, 80, .inl K)), (r2, .inl (cI, 80, .inl O)), (r3, .inl (cI, 80, .inl T)), (r4, .inl (cI, 80, .inl Z)), (r7, .inl (cI, 240, .inl Fa)), (r8, .inl (cI, 240, .inl Va)), (r9, .inl (cI, 6, .inl (upd Nf o 1))), (r10, .inl (cI, 6, .inl (upd Nv o 0)))] := hD.sub [6, 0, 1, 2, 3, 4, 5, 7, 8] (by decide) rfl
            exact bc_vret F hr hlocks ((upd Nf o 1, upd Nv o 0)) (bc_pp_n ((bc_rs_2 hs_128_0 hs_128_1 eT htt eZ hzz hn4 hrow).2 hbo)) hP hD hS de_M_pass_265
          · refine lv_iconst (v := 1) hx hb de_M_pass_227 (by decide) ?_
            refine lv_goto (tgt := 232) hx hb de_M_pass_228 (by decide) ?_
            refine lv_iload hx hb de_M_pass_232 (lv_at hl 0 rfl) ?_
            refine lv_if_eq (tgt := 241) hx hb de_M_pass_234 (by decide) (fun hc => absurd hc hc_224) (fun _ => ?_)
            have hn4 : K i = 4 ∧ ((Fa (6 * i + tt) = 2 ∧ Va (6 * i + tt) = 0) ∨ (Fa (6 * i + zz) = 2 ∧ Va (6 * i + zz) = 0)) := hm_120.elim (fun z => z.2) (fun z => absurd z.1 hc_224)
            have hz0 : rr tt = some 0 ∨ rr zz = some 0 := hn4.2.elim (fun y => Or.inl (bc_z0.mp (by rw [← (hrow tt htt).1, ← (hrow tt htt).2]; exact y))) (fun y => Or.inr (bc_z0.mp (by rw [← (hrow zz hzz).1, ← (hrow zz hzz).2]; exact y)))
            refine lv_iconst (v := 0) hx hb de_M_pass_237 (by decide) ?_
            refine lv_goto (tgt := 262) hx hb de_M_pass_238 (by decide) ?_
            refine bc_call_v_v (As := [.int (nI o), .int 1, .int 0]) (rest := []) (wr := [(r1, .inl (cI, 80, .inl K)), (r2, .inl (cI, 80, .inl O)), (r3, .inl (cI, 80, .inl T)), (r4, .inl (cI, 80, .inl Z)), (r7, .inl (cI, 240, .inl Fa)), (r8, .inl (cI, 240, .inl Va))]) F (co_M_know ho) wm_511 wm_6 wm_509 wm_510 wm_637 0 rfl rfl pd_M_know rfl rfl ⟨Nat.le_of_ble_eq_true rfl, Nat.le_of_ble_eq_true rfl⟩ hP hD hS hA [0, 7, 8] [1, 2, 3, 4, 5, 6] rfl rfl rfl rfl (by decide) rfl hl.1 rfl (Nat.le_of_ble_eq_true rfl) de_M_pass_262 ⟨Nat.le_of_ble_eq_true rfl, Nat.le_of_ble_eq_true rfl⟩ (fun u_262 H locs hw_262 hP hD hS => ?_)
            have e9 := hw_262.1 (by decide)
            subst e9
            have hP : va_P (dC, dI) classes [(m0, .inr (5, [.int fa, .ref r1, .ref r2, .ref r3, .ref r4, .ref r5, .int rw, .ref r6, .ref r7, .ref r8, .int gw, .ref r9, .ref r10, .ref r11, .ref r12, .ref r13, .ref r14, .ref r15, .ref r16])), (r1, .inl (cI, 80, .inl K)), (r2, .inl (cI, 80, .inl O)), (r3, .inl (cI, 80, .inl T)), (r4, .inl (cI, 80, .inl Z)), (r7, .inl (cI, 240, .inl Fa)), (r8, .inl (cI, 240, .inl Va)), (r9, .inl (cI, 6, .inl (upd Nf o 2))), (r10, .inl (cI, 6, .inl (upd Nv o 0)))] H := hP.sub [6, 0, 1, 2, 3, 4, 5, 7, 8] rfl
            have hD : va_D A [(m0, .inr (5, [.int fa, .ref r1, .ref r2, .ref r3, .ref r4, .ref r5, .int rw, .ref r6, .ref r7, .ref r8, .int gw, .ref r9, .ref r10, .ref r11, .ref r12, .ref r13, .ref r14, .ref r15, .ref r16])), (r1, .inl (cI, 80, .inl K)), (r2, .inl (cI, 80, .inl O)), (r3, .inl (cI, 80, .inl T)), (r4, .inl (cI, 80, .inl Z)), (r7, .inl (cI, 240, .inl Fa)), (r8, .inl (cI, 240, .inl Va)), (r9, .inl (cI, 6, .inl (upd Nf o 2))), (r10, .inl (cI, 6, .inl (upd Nv o 0)))] := hD.sub [6, 0, 1, 2, 3, 4, 5, 7, 8] (by decide) rfl
            exact bc_vret F hr hlocks ((upd Nf o 2, upd Nv o 0)) (bc_pp_s (bc_rs_m hn4.1 eT htt eZ hzz hz0)) hP hD hS de_M_pass_265
      · intro km_120
        refine lv_aload_n hx hb de_M_pass_67 rfl (lv_at hl 3 rfl) ?_
        refine va_get (D := (dC, dI)) (ci := 5) (v := .ref r1) (C := rc_M) (T := fc_M) (N := 19) hx hb htw wi_M hown hK hP 0 rfl rfl 1 (by decide) (htw _ wm_424) (fun _ h9 => h9) rfl de_M_pass_68 ?_
        refine lv_iload_n hx hb de_M_pass_71 rfl (lv_at hl 4 rfl) ?_
        refine bc_ild (j := i) hx hb hK hP 1 0 rfl rfl (by omega) (by decide) de_M_pass_72 ?_
        refine lv_iconst (v := 4) hx hb de_M_pass_73 (by decide) ?_
        refine lv_icmp_ne (tgt := 119) hx hb de_M_pass_74 (by decide) (fun hc_74 => ?_) (fun hc_74 => ?_)
        · refine lv_iconst (v := 0) hx hb de_M_pass_119 (by decide) ?_
          exact km_120 0 _ _ _ ⟨(Or.inr ⟨rfl, fun z => hc_74 z.1⟩), hl, hP, hD, hS⟩
        · refine lv_aload_n hx hb de_M_pass_77 rfl (lv_at hl 3 rfl) ?_
          refine va_get (D := (dC, dI)) (ci := 5) (v := .ref r7) (C := rc_M) (T := fc_M) (N := 19) hx hb htw wi_M hown hK hP 0 rfl rfl 8 (by decide) (htw _ wm_431) (fun _ h9 => h9) rfl de_M_pass_78 ?_
          refine lv_iload_n hx hb de_M_pass_81 rfl (lv_at hl 2 rfl) ?_
          refine bc_ild (j := ww) hx hb hK hP 5 0 rfl rfl (by omega) (by decide) de_M_pass_82 ?_
          refine lv_iconst (v := 2) hx hb de_M_pass_83 (by decide) ?_
          refine lv_icmp_ne (tgt := 96) hx hb de_M_pass_84 (by decide) (fun hc_84 => ?_) (fun hc_84 => ?_)
          · refine lv_aload_n hx hb de_M_pass_96 rfl (lv_at hl 3 rfl) ?_
            refine va_get (D := (dC, dI)) (ci := 5) (v := .ref r7) (C := rc_M) (T := fc_M) (N := 19) hx hb htw wi_M hown hK hP 0 rfl rfl 8 (by decide) (htw _ wm_431) (fun _ h9 => h9) rfl de_M_pass_97 ?_
            refine lv_iload_n hx hb de_M_pass_100 rfl (lv_at hl 1 rfl) ?_
            refine bc_ild (j := (6 * i) + zz) hx hb hK hP 5 0 rfl rfl (by omega) (by decide) de_M_pass_101 ?_
            refine lv_iconst (v := 2) hx hb de_M_pass_102 (by decide) ?_
            refine lv_icmp_ne (tgt := 119) hx hb de_M_pass_103 (by decide) (fun hc_103 => ?_) (fun hc_103 => ?_)
            · refine lv_iconst (v := 0) hx hb de_M_pass_119 (by decide) ?_
              exact km_120 0 _ _ _ ⟨(Or.inr ⟨rfl, fun z => z.2.elim (fun y => hc_84 y.1) (fun y => hc_103 y.1)⟩), hl, hP, hD, hS⟩
            · refine lv_aload_n hx hb de_M_pass_106 rfl (lv_at hl 3 rfl) ?_
              refine va_get (D := (dC, dI)) (ci := 5) (v := .ref r8) (C := rc_M) (T := fc_M) (N := 19) hx hb htw wi_M hown hK hP 0 rfl rfl 9 (by decide) (htw _ wm_432) (fun _ h9 => h9) rfl de_M_pass_107 ?_
              refine lv_iload_n hx hb de_M_pass_110 rfl (lv_at hl 1 rfl) ?_
              refine bc_ild (j := (6 * i) + zz) hx hb hK hP 6 0 rfl rfl (by omega) (by decide) de_M_pass_111 ?_
              refine lv_if_ne (tgt := 119) hx hb de_M_pass_112 (by decide) (fun hc_112 => ?_) (fun hc_112 => ?_)
              · refine lv_iconst (v := 0) hx hb de_M_pass_119 (by decide) ?_
                exact km_120 0 _ _ _ ⟨(Or.inr ⟨rfl, fun z => z.2.elim (fun y => hc_84 y.1) (fun y => hc_112 y.2)⟩), hl, hP, hD, hS⟩
              · refine lv_iconst (v := 1) hx hb de_M_pass_115 (by decide) ?_
                refine lv_goto (tgt := 120) hx hb de_M_pass_116 (by decide) ?_
                exact km_120 1 _ _ _ ⟨(Or.inl ⟨rfl, hc_74, Or.inr ⟨hc_103, hc_112⟩⟩), hl, hP, hD, hS⟩
          · refine lv_aload_n hx hb de_M_pass_87 rfl (lv_at hl 3 rfl) ?_
            refine va_get (D := (dC, dI)) (ci := 5) (v := .ref r8) (C := rc_M) (T := fc_M) (N := 19) hx hb htw wi_M hown hK hP 0 rfl rfl 9 (by decide) (htw _ wm_432) (fun _ h9 => h9) rfl de_M_pass_88 ?_
            refine lv_iload_n hx hb de_M_pass_91 rfl (lv_at hl 2 rfl) ?_
            refine bc_ild (j := ww) hx hb hK hP 6 0 rfl rfl (by omega) (by decide) de_M_pass_92 ?_
            refine lv_if_eq (tgt := 115) hx hb de_M_pass_93 (by decide) (fun hc_93 => ?_) (fun hc_93 => ?_)
            · refine lv_iconst (v := 1) hx hb de_M_pass_115 (by decide) ?_
              refine lv_goto (tgt := 120) hx hb de_M_pass_116 (by decide) ?_
              exact km_120 1 _ _ _ ⟨(Or.inl ⟨rfl, hc_74, Or.inl ⟨hc_84, hc_93⟩⟩), hl, hP, hD, hS⟩
            · refine lv_aload_n hx hb de_M_pass_96 rfl (lv_at hl 3 rfl) ?_
              refine va_get (D := (dC, dI)) (ci := 5) (v := .ref r7) (C := rc_M) (T := fc_M) (N := 19) hx hb htw wi_M hown hK hP 0 rfl rfl 8 (by decide) (htw _ wm_431) (fun _ h9 => h9) rfl de_M_pass_97 ?_
              refine lv_iload_n hx hb de_M_pass_100 rfl (lv_at hl 1 rfl) ?_
              refine bc_ild (j := (6 * i) + zz) hx hb hK hP 5 0 rfl rfl (by omega) (by decide) de_M_pass_101 ?_
              refine lv_iconst (v := 2) hx hb de_M_pass_102 (by decide) ?_
              refine lv_icmp_ne (tgt := 119) hx hb de_M_pass_103 (by decide) (fun hc_103 => ?_) (fun hc_103 => ?_)
              · refine lv_iconst (v := 0) hx hb de_M_pass_119 (by decide) ?_
                exact km_120 0 _ _ _ ⟨(Or.inr ⟨rfl, fun z => z.2.elim (fun y => hc_93 y.2) (fun y => hc_103 y.1)⟩), hl, hP, hD, hS⟩
              · refine lv_aload_n hx hb de_M_pass_106 rfl (lv_at hl 3 rfl) ?_
                refine va_get (D := (dC, dI)) (ci := 5) (v := .ref r8) (C := rc_M) (T := fc_M) (N := 19) hx hb htw wi_M hown hK hP 0 rfl rfl 9 (by decide) (htw _ wm_432) (fun _ h9 => h9) rfl de_M_pass_107 ?_
                refine lv_iload_n hx hb de_M_pass_110 rfl (lv_at hl 1 rfl) ?_
                refine bc_ild (j := (6 * i) + zz) hx hb hK hP 6 0 rfl rfl (by omega) (by decide) de_M_pass_111 ?_
                refine lv_if_ne (tgt := 119) hx hb de_M_pass_112 (by decide) (fun hc_112 => ?_) (fun hc_112 => ?_)
                · refine lv_iconst (v := 0) hx hb de_M_pass_119 (by decide) ?_
                  exact km_120 0 _ _ _ ⟨(Or.inr ⟨rfl, fun z => z.2.elim (fun y => hc_93 y.2) (fun y => hc_112 y.2)⟩), hl, hP, hD, hS⟩
                · refine lv_iconst (v := 1) hx hb de_M_pass_115 (by decide) ?_
                  refine lv_goto (tgt := 120) hx hb de_M_pass_116 (by decide) ?_
                  exact km_120 1 _ _ _ ⟨(Or.inl ⟨rfl, hc_74, Or.inr ⟨hc_103, hc_112⟩⟩), hl, hP, hD, hS⟩
    · intro km_65
      refine lv_aload_n hx hb de_M_pass_40 rfl (lv_at hl 2 rfl) ?_
      refine va_get (D := (dC, dI)) (ci := 5) (v := .ref r7) (C := rc_M) (T := fc_M) (N := 19) hx hb htw wi_M hown hK hP 0 rfl rfl 8 (by decide) (htw _ wm_431) (fun _ h9 => h9) rfl de_M_pass_41 ?_
      refine lv_iload_n hx hb de_M_pass_44 rfl (lv_at hl 1 rfl) ?_
      refine bc_ild (j := ww) hx hb hK hP 5 0 rfl rfl (by omega) (by decide) de_M_pass_45 ?_
      refine lv_iconst (v := 2) hx hb de_M_pass_46 (by decide) ?_
      refine lv_icmp_ne (tgt := 64) hx hb de_M_pass_47 (by decide) (fun hc_47 => ?_) (fun hc_47 => ?_)
      · refine lv_iconst (v := 0) hx hb de_M_pass_64 (by decide) ?_
        exact km_65 0 _ _ _ ⟨(Or.inr ⟨rfl, fun z => hc_47 z.1⟩), hl, hP, hD, hS⟩
      · refine lv_aload_n hx hb de_M_pass_50 rfl (lv_at hl 2 rfl) ?_
        refine va_get (D := (dC, dI)) (ci := 5) (v := .ref r7) (C := rc_M) (T := fc_M) (N := 19) hx hb htw wi_M hown hK hP 0 rfl rfl 8 (by decide) (htw _ wm_431) (fun _ h9 => h9) rfl de_M_pass_51 ?_
        refine lv_iload_n hx hb de_M_pass_54 rfl (lv_at hl 0 rfl) ?_
        refine bc_ild (j := (6 * i) + zz) hx hb hK hP 5 0 rfl rfl (by omega) (by decide) de_M_pass_55 ?_
        refine lv_iconst (v := 2) hx hb de_M_pass_56 (by decide) ?_
        refine lv_icmp_ne (tgt := 64) hx hb de_M_pass_57 (by decide) (fun hc_57 => ?_) (fun hc_57 => ?_)
        · refine lv_iconst (v := 0) hx hb de_M_pass_64 (by decide) ?_
          exact km_65 0 _ _ _ ⟨(Or.inr ⟨rfl, fun z => hc_57 z.2⟩), hl, hP, hD, hS⟩
        · refine lv_iconst (v := 1) hx hb de_M_pass_60 (by decide) ?_
          refine lv_goto (tgt := 65) hx hb de_M_pass_61 (by decide) ?_
          exact km_65 1 _ _ _ ⟨(Or.inl ⟨rfl, hc_47, hc_57⟩), hl, hP, hD, hS⟩
  · intro km_27
    refine lv_aload_n hx hb de_M_pass_0 rfl (lv_at hl 0 rfl) ?_
    refine va_get (D := (dC, dI)) (ci := 5) (v := .ref r1) (C := rc_M) (T := fc_M) (N := 19) hx hb htw wi_M hown hK hP 0 rfl rfl 1 (by decide) (htw _ wm_424) (fun _ h9 => h9) rfl de_M_pass_1 ?_
    refine lv_iload_n hx hb de_M_pass_4 rfl (lv_at hl 1 rfl) ?_
    refine bc_ild (j := i) hx hb hK hP 1 0 rfl rfl (by omega) (by decide) de_M_pass_5 ?_
    refine lv_if_ne (tgt := 16) hx hb de_M_pass_6 (by decide) (fun hc_6 => ?_) (fun hc_6 => ?_)
    · obtain ⟨tt, htt, eT⟩ := bc_wi_t hw h4 hc_6
      refine lv_bipush (v := 6) hx hb de_M_pass_16 (by decide) ?_
      refine lv_iload_n hx hb de_M_pass_18 rfl (lv_at hl 1 rfl) ?_
      refine lv_imul hx hb de_M_pass_19 ?_
      refine bc_ti (y := nI (6 * i)) (pk_mul 6 i) ?_
      refine lv_aload_n hx hb de_M_pass_20 rfl (lv_at hl 0 rfl) ?_
      refine va_get (D := (dC, dI)) (ci := 5) (v := .ref r3) (C := rc_M) (T := fc_M) (N := 19) hx hb htw wi_M hown hK hP 0 rfl rfl 3 (by decide) (htw _ wm_426) (fun _ h9 => h9) rfl de_M_pass_21 ?_
      refine lv_iload_n hx hb de_M_pass_24 rfl (lv_at hl 1 rfl) ?_
      refine bc_ild (j := i) hx hb hK hP 3 0 rfl rfl (by omega) (by decide) de_M_pass_25 ?_
      refine bc_ti (y := nI tt) eT ?_
      refine lv_iadd hx hb de_M_pass_26 ?_
      refine bc_ti (y := nI ((6 * i) + tt)) (nI_add (6 * i) tt) ?_
      exact km_27 (nI ((6 * i) + tt)) _ _ _ ⟨⟨6 * i + tt, by omega, rfl, fun _ => ⟨tt, htt, eT, rfl⟩⟩, hl, hP, hD, hS⟩
    · refine lv_bipush (v := 6) hx hb de_M_pass_9 (by decide) ?_
      refine lv_iload_n hx hb de_M_pass_11 rfl (lv_at hl 1 rfl) ?_
      refine lv_imul hx hb de_M_pass_12 ?_
      refine bc_ti (y := nI (6 * i)) (pk_mul 6 i) ?_
      refine lv_goto (tgt := 27) hx hb de_M_pass_13 (by decide) ?_
      exact km_27 (nI (6 * i)) _ _ _ ⟨⟨6 * i, by omega, rfl, fun z => absurd hc_6 z⟩, hl, hP, hD, hS⟩

