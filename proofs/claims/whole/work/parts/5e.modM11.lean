/-! the reference: code, start (by program: wip/whole/gen/modM11.py) -/
def bc_ce (n : Nat) (y z : Int32) : Prop := bc_ix n y ∧ bc_ix 4 z
def bc_cd (n n2 : Nat) (x y z : Int32) : Prop := (x = 0 ∧ bc_ce n y z) ∨ (x = 1 ∧ bc_ce n2 y z)
def bc_rc (n : Nat) (P : Nat → bc_F) (y z r : Int32) : Prop := ∃ j : Nat, j < n ∧ y = nI j ∧ ∃ w : Nat, w < 4 ∧ z = nI w ∧ r = P (w + 1) j
theorem bc_gt3 {z : Int32} (h : (3 : Int32) < z) : nI 4 ≤ z := by
  rw [Int32.lt_iff_toInt_lt] at h
  rw [Int32.le_iff_toInt_le]
  have e3 : (3 : Int32).toInt = 3 := by decide
  have e4 : (nI 4).toInt = 4 := by decide
  omega
theorem bc_z3 {z : Int32} (h0 : ¬ z < 0) (h3 : ¬ (3 : Int32) < z) (n0 : ¬ z = 0) (n1 : ¬ z = 1) (n2 : ¬ z = 2) : z = nI 3 := by
  obtain ⟨w, hw, e⟩ := bc_isn (n := 4) (x := z) (by omega) h0 (fun q => by
    rw [Int32.lt_iff_toInt_lt] at h3
    rw [Int32.le_iff_toInt_le] at q
    have e3 : (3 : Int32).toInt = 3 := by decide
    have e4 : (nI 4).toInt = 4 := by decide
    omega)
  have : w = 0 ∨ w = 1 ∨ w = 2 ∨ w = 3 := by omega
  rcases this with f | f | f | f <;> subst f
  · exact absurd e n0
  · exact absurd e n1
  · exact absurd e n2
  · exact e
def bc_nn (n n2 y : Nat) : Nat := if y = 0 then n else n2
def bc_PQ (P Q : Nat → bc_F) (y : Nat) : Nat → bc_F := if y = 0 then P else Q
theorem bc_Sy {n n2 : Nat} {P Q X : Nat → bc_F} {ra : Int32} {ON PL SP K O T Z Sz On Pl Sp Vr : bc_F} {rw : Int32} (hR : bc_MR n P ra n2 Q ON PL SP X K O T Z Sz On Pl Sp Vr rw) {y : Nat} (hy : y < 2) (h1 : y = 1 → ra ≠ 0) : Sz y = nI (bc_nn n n2 y) ∧ bc_rq (bc_nn n n2 y) (bc_PQ P Q y) (fun j => K (40 * y + j)) (fun j => O (40 * y + j)) (fun j => T (40 * y + j)) (fun j => Z (40 * y + j)) := by
  have h : y = 0 ∨ y = 1 := by omega
  rcases h with e | e
  · subst e
    refine ⟨hR.1, fun j hj => ?_⟩
    show K (40 * 0 + j) = P 1 j ∧ O (40 * 0 + j) = P 2 j ∧ T (40 * 0 + j) = P 3 j ∧ Z (40 * 0 + j) = P 4 j
    rw [show 40 * 0 + j = j by omega]
    exact hR.2.1 j hj
  · subst e
    exact ⟨(hR.2.2.2.1 (h1 rfl)).1, fun j hj => (hR.2.2.2.1 (h1 rfl)).2 j hj⟩
theorem bc_nn_le {n n2 : Nat} {P Q : Nat → bc_F} {ra : Int32} {ON PL SP : bc_F} (hAB : bc_AB n P ra n2 Q ON PL SP) {y : Nat} (hy : y < 2) (h1 : y = 1 → ra ≠ 0) : bc_nn n n2 y ≤ 40 ∧ bc_wf (bc_nn n n2 y) (bc_PQ P Q y 1) (bc_PQ P Q y 2) (bc_PQ P Q y 3) (bc_PQ P Q y 4) := by
  have h : y = 0 ∨ y = 1 := by omega
  rcases h with e | e
  · subst e; exact ⟨hAB.1, hAB.2.1⟩
  · subst e; exact hAB.2.2.2.1 (h1 rfl)
theorem bc_pl0 {n : Nat} (hn : n ≤ 40) (h : nI n = 0) : -1 = bc_pl n 0 := by
  have : n = 0 := bc_i1 (by omega) h
  subst this
  rfl
theorem bc_pl1 {n : Nat} (hn : n ≤ 40) (h : ¬ nI n = 0) : 0 = bc_pl n 0 := by
  have := bc_i0 (by omega) h
  unfold bc_pl
  rw [if_pos (by omega)]
  rfl
def bc_vx (Vr : bc_F) (y : Nat) (a b c d : Int32) : bc_F := upd (upd (upd (upd (upd (upd Vr (6 * y) a) (6 * y + 1) b) (6 * y + 2) c) (6 * y + 3) d) (6 * y + 4) 0) (6 * y + 5) 0
theorem bc_vx_at {Vr X1 : bc_F} {y : Nat} {a b c d : Int32} (h : X1 0 = a ∧ X1 1 = b ∧ X1 2 = c ∧ X1 3 = d ∧ X1 4 = 0 ∧ X1 5 = 0) : ∀ v, v < 6 → bc_vx Vr y a b c d (6 * y + v) = X1 v := by
  intro v hv
  obtain ⟨h0, h1, h2, h3, h4, h5⟩ := h
  unfold bc_vx
  have hc : v = 0 ∨ v = 1 ∨ v = 2 ∨ v = 3 ∨ v = 4 ∨ v = 5 := by omega
  rcases hc with e | e | e | e | e | e <;> subst e
  · rw [pk_un (by omega), pk_un (by omega), pk_un (by omega), pk_un (by omega), pk_un (by omega), h0]; exact pk_us
  · rw [pk_un (by omega), pk_un (by omega), pk_un (by omega), pk_un (by omega), pk_us, h1]
  · rw [pk_un (by omega), pk_un (by omega), pk_un (by omega), pk_us, h2]
  · rw [pk_un (by omega), pk_un (by omega), pk_us, h3]
  · rw [pk_un (by omega), pk_us, h4]
  · rw [pk_us, h5]
theorem bc_vx_ne {Vr : bc_F} {y q : Nat} {a b c d : Int32} (h : q < 6 * y ∨ 6 * y + 6 ≤ q) : bc_vx Vr y a b c d q = Vr q := by
  unfold bc_vx
  rw [pk_un (by omega), pk_un (by omega), pk_un (by omega), pk_un (by omega), pk_un (by omega), pk_un (by omega)]
theorem bc_MR_start {n n2 : Nat} {P Q X : Nat → bc_F} {ra : Int32} {ON PL SP K O T Z Sz On Pl Sp Vr : bc_F} {rw : Int32} {y : Nat} {a b c d p : Int32} (hR : bc_MR n P ra n2 Q ON PL SP X K O T Z Sz On Pl Sp Vr rw) (hy : y < 2) (X1 : bc_F) (h : X1 0 = a ∧ X1 1 = b ∧ X1 2 = c ∧ X1 3 = d ∧ X1 4 = 0 ∧ X1 5 = 0) :
    bc_MR n P ra n2 Q (upd ON y 1) (upd PL y p) (upd SP y 0) (fun w => if w = y then X1 else X w) K O T Z Sz (upd On y 1) (upd Pl y p) (upd Sp y 0) (bc_vx Vr y a b c d) rw := by
  refine ⟨hR.1, hR.2.1, hR.2.2.1, hR.2.2.2.1, fun w hw => ?_⟩
  by_cases e : w = y
  · subst e
    rw [pk_us, pk_us, pk_us, pk_us, pk_us, pk_us]
    refine ⟨rfl, fun _ => ⟨rfl, rfl, fun v hv => ?_⟩⟩
    show _ = (if w = w then X1 else X w) v
    rw [if_pos rfl]; exact bc_vx_at h v hv
  · rw [pk_un e, pk_un e, pk_un e, pk_un e, pk_un e, pk_un e]
    refine ⟨(hR.2.2.2.2 w hw).1, fun z => ⟨((hR.2.2.2.2 w hw).2 z).1, ((hR.2.2.2.2 w hw).2 z).2.1, fun v hv => ?_⟩⟩
    show _ = (if w = y then X1 else X w) v
    rw [if_neg e, bc_vx_ne (by omega)]; exact ((hR.2.2.2.2 w hw).2 z).2.2 v hv
set_option maxHeartbeats 4000000 in
set_option maxRecDepth 100000 in
/-- code -/
theorem co_M_code {l : Launch} {dC : Nat → ClassId} {dI : Nat → Nat → Nat} {cI cZ : ClassId} {sz : Nat} {m0 r1 r2 r3 r4 r5 r6 r7 r8 r9 r10 r11 r12 r13 r14 r15 r16 : Nat} {K O T Z Sz On Pl Sp Vr : bc_F} {fa rw gw : Int32} {n n2 : Nat} {P Q X : Nat → bc_F} {ON PL SP : bc_F} {ra : Int32} (hAB : bc_AB n P ra n2 Q ON PL SP) (hR : bc_MR n P ra n2 Q ON PL SP X K O T Z Sz On Pl Sp Vr rw) {x y z : Int32} : Met l yn_M_code (Cond.code yn_M_code by_M_code 6 (some FieldType.int) :: wd_all) ({ frames := 1, cells := 0, slots := 0, locals := 21 } : Room) (bc_Pre (dC, dI) classes [(cI, .int), (cZ, .boolean)] [.ref m0, .int x, .int y, .int z] [(m0, .inr (5, [.int fa, .ref r1, .ref r2, .ref r3, .ref r4, .ref r5, .int rw, .ref r6, .ref r7, .ref r8, .int gw, .ref r9, .ref r10, .ref r11, .ref r12, .ref r13, .ref r14, .ref r15, .ref r16])), (r1, .inl (cI, 80, .inl K)), (r2, .inl (cI, 80, .inl O)), (r3, .inl (cI, 80, .inl T)), (r4, .inl (cI, 80, .inl Z)), (r5, .inl (cI, 2, .inl Sz))] sz) (va_Qi (fun (r : Int32) (u : Int32) => (x = 1 ∧ ra = 0 ∧ u = 1) ∨ (¬ (x = 1 ∧ ra = 0) ∧ ¬ bc_cd n n2 x y z ∧ u = 2) ∨ (u = 0 ∧ ((x = 0 ∧ bc_rc n P y z r) ∨ (x = 1 ∧ ra ≠ 0 ∧ bc_rc n2 Q y z r)))) (fun (u : Int32) t => bc_B (dC, dI) classes [(cI, .int), (cZ, .boolean)] (va_A [(m0, .inr (5, [.int fa, .ref r1, .ref r2, .ref r3, .ref r4, .ref r5, .int rw, .ref r6, .ref r7, .ref r8, .int gw, .ref r9, .ref r10, .ref r11, .ref r12, .ref r13, .ref r14, .ref r15, .ref r16])), (r1, .inl (cI, 80, .inl K)), (r2, .inl (cI, 80, .inl O)), (r3, .inl (cI, 80, .inl T)), (r4, .inl (cI, 80, .inl Z)), (r5, .inl (cI, 2, .inl Sz))] sz) [(m0, .inr (5, [.int u, .ref r1, .ref r2, .ref r3, .ref r4, .ref r5, .int rw, .ref r6, .ref r7, .ref r8, .int gw, .ref r9, .ref r10, .ref r11, .ref r12, .ref r13, .ref r14, .ref r15, .ref r16])), (r1, .inl (cI, 80, .inl K)), (r2, .inl (cI, 80, .inl O)), (r3, .inl (cI, 80, .inl T)), (r4, .inl (cI, 80, .inl Z)), (r5, .inl (cI, 2, .inl Sz))] t) ((va_A [(m0, .inr (5, [.int fa, .ref r1, .ref r2, .ref r3, .ref r4, .ref r5, .int rw, .ref r6, .ref r7, .ref r8, .int gw, .ref r9, .ref r10, .ref r11, .ref r12, .ref r13, .ref r14, .ref r15, .ref r16])), (r1, .inl (cI, 80, .inl K)), (r2, .inl (cI, 80, .inl O)), (r3, .inl (cI, 80, .inl T)), (r4, .inl (cI, 80, .inl Z)), (r5, .inl (cI, 2, .inl Sz))] sz))) 0 0 (va_A [(m0, .inr (5, [.int fa, .ref r1, .ref r2, .ref r3, .ref r4, .ref r5, .int rw, .ref r6, .ref r7, .ref r8, .int gw, .ref r9, .ref r10, .ref r11, .ref r12, .ref r13, .ref r14, .ref r15, .ref r16])), (r1, .inl (cI, 80, .inl K)), (r2, .inl (cI, 80, .inl O)), (r3, .inl (cI, 80, .inl T)), (r4, .inl (cI, 80, .inl Z)), (r5, .inl (cI, 2, .inl Sz))] sz) := by
  refine bc_met (fun A => va_Qi (fun (r : Int32) (u : Int32) => (x = 1 ∧ ra = 0 ∧ u = 1) ∨ (¬ (x = 1 ∧ ra = 0) ∧ ¬ bc_cd n n2 x y z ∧ u = 2) ∨ (u = 0 ∧ ((x = 0 ∧ bc_rc n P y z r) ∨ (x = 1 ∧ ra ≠ 0 ∧ bc_rc n2 Q y z r)))) (fun (u : Int32) t => bc_B (dC, dI) classes [(cI, .int), (cZ, .boolean)] A [(m0, .inr (5, [.int u, .ref r1, .ref r2, .ref r3, .ref r4, .ref r5, .int rw, .ref r6, .ref r7, .ref r8, .int gw, .ref r9, .ref r10, .ref r11, .ref r12, .ref r13, .ref r14, .ref r15, .ref r16])), (r1, .inl (cI, 80, .inl K)), (r2, .inl (cI, 80, .inl O)), (r3, .inl (cI, 80, .inl T)), (r4, .inl (cI, 80, .inl Z)), (r5, .inl (cI, 2, .inl Sz))] t) A) (by decide) (Nat.le_of_ble_eq_true rfl) ?_
  intro p e s m args below meth c A ls F hr hlocks hin hA hP hD hl hS
  have hx := F.1
  have hb := F.2.1
  have hml := F.2.2.1
  have hown : s.vm.findClass "BranchConstantsModel" = some m.cls := F.2.2.2.1
  have htw := F.2.2.2.2.1
  have hN := F.2.2.2.2.2.1
  have hK := F.2.2.2.2.2.2
  have hl : lv_has ls 6 [(0, .ref m0), (1, .int x), (2, .int y), (3, .int z)] := hl
  have hn := hAB.1
  have hSz := hR.1
  refine lv_iload_n hx hb de_M_code_0 rfl (lv_at hl 1 rfl) ?_
  refine lv_if_eq (tgt := 9) hx hb de_M_code_1 (by decide) (fun hc_1 => ?_) (fun hc_1 => ?_)
  · subst hc_1
    refine lv_iload_n hx hb de_M_code_9 rfl (lv_at hl 2 rfl) ?_
    refine lv_if_lt (tgt := 45) hx hb de_M_code_10 (by decide) (fun hc_10 => ?_) (fun hc_10 => ?_)
    · refine lv_iconst (v := 0) hx hb de_M_code_45 (by decide) ?_
      refine lv_istore (lv' := [(4, .int 0), (0, .ref m0), (1, .int 0), (2, .int y), (3, .int z)]) hx hb de_M_code_46 hl (by decide) rfl (fun ls hl => ?_)
      refine lv_aload_n hx hb de_M_code_48 rfl (lv_at hl 1 rfl) ?_
      refine lv_iload_n hx hb de_M_code_49 rfl (lv_at hl 2 rfl) ?_
      refine lv_iconst (v := 1) hx hb de_M_code_50 (by decide) ?_
      refine lv_icmp_ne (tgt := 65) hx hb de_M_code_51 (by decide) (fun _ => ?_) (fun hc => absurd hc (by decide))
      refine lv_iload hx hb de_M_code_65 (lv_at hl 0 rfl) ?_
      refine lv_if_ne (tgt := 74) hx hb de_M_code_67 (by decide) (fun hc => absurd (by decide) hc) (fun _ => ?_)
      refine lv_iconst (v := 2) hx hb de_M_code_70 (by decide) ?_
      refine lv_goto (tgt := 75) hx hb de_M_code_71 (by decide) ?_
      refine bc_call_v_i (As := [.int 2]) (rest := []) (wr := [(r1, .inl (cI, 80, .inl K)), (r2, .inl (cI, 80, .inl O)), (r3, .inl (cI, 80, .inl T)), (r4, .inl (cI, 80, .inl Z)), (r5, .inl (cI, 2, .inl Sz))]) F (co_M_refused) wm_478 wm_6 wm_476 wm_477 wm_630 0 rfl rfl pd_M_refused rfl rfl ⟨Nat.le_of_ble_eq_true rfl, Nat.le_of_ble_eq_true rfl⟩ hP hD hS hA [0] [1, 2, 3, 4, 5] rfl rfl rfl rfl (by decide) rfl hl.1 rfl (Nat.le_of_ble_eq_true rfl) de_M_code_75 ⟨Nat.le_of_ble_eq_true rfl, Nat.le_of_ble_eq_true rfl⟩ (fun r_75 u_75 H locs hw_75 hP hD hS => ?_)
      have hP : va_P (dC, dI) classes [(m0, .inr (5, [.int 2, .ref r1, .ref r2, .ref r3, .ref r4, .ref r5, .int rw, .ref r6, .ref r7, .ref r8, .int gw, .ref r9, .ref r10, .ref r11, .ref r12, .ref r13, .ref r14, .ref r15, .ref r16])), (r1, .inl (cI, 80, .inl K)), (r2, .inl (cI, 80, .inl O)), (r3, .inl (cI, 80, .inl T)), (r4, .inl (cI, 80, .inl Z)), (r5, .inl (cI, 2, .inl Sz))] H := hP.sub [5, 0, 1, 2, 3, 4] rfl
      have hD : va_D A [(m0, .inr (5, [.int 2, .ref r1, .ref r2, .ref r3, .ref r4, .ref r5, .int rw, .ref r6, .ref r7, .ref r8, .int gw, .ref r9, .ref r10, .ref r11, .ref r12, .ref r13, .ref r14, .ref r15, .ref r16])), (r1, .inl (cI, 80, .inl K)), (r2, .inl (cI, 80, .inl O)), (r3, .inl (cI, 80, .inl T)), (r4, .inl (cI, 80, .inl Z)), (r5, .inl (cI, 2, .inl Sz))] := hD.sub [5, 0, 1, 2, 3, 4] (by decide) rfl
      rcases hw_75 with ⟨he_75, hv_75⟩ | ⟨he_75, hv_75⟩
      · subst he_75
        refine lv_if_eq (tgt := 83) hx hb de_M_code_78 (by decide) (fun hc => absurd hc (by decide)) (fun _ => ?_)
        refine lv_iconst (v := 0) hx hb de_M_code_81 (by decide) ?_
        exact bc_iret F hr hlocks 2 (Or.inr (Or.inl ⟨(fun z => absurd z.1 (by decide)), (fun z => z.elim (fun z => bc_isn0 (n := n) (by omega) hc_10 z.2.1) (fun z => absurd z.1 (by decide))), rfl⟩)) hP hD hS de_M_code_82
      · subst he_75
        exact absurd hv_75 (by decide)
    · refine lv_iload_n hx hb de_M_code_13 rfl (lv_at hl 3 rfl) ?_
      refine lv_if_lt (tgt := 45) hx hb de_M_code_14 (by decide) (fun hc_14 => ?_) (fun hc_14 => ?_)
      · refine lv_iconst (v := 0) hx hb de_M_code_45 (by decide) ?_
        refine lv_istore (lv' := [(4, .int 0), (0, .ref m0), (1, .int 0), (2, .int y), (3, .int z)]) hx hb de_M_code_46 hl (by decide) rfl (fun ls hl => ?_)
        refine lv_aload_n hx hb de_M_code_48 rfl (lv_at hl 1 rfl) ?_
        refine lv_iload_n hx hb de_M_code_49 rfl (lv_at hl 2 rfl) ?_
        refine lv_iconst (v := 1) hx hb de_M_code_50 (by decide) ?_
        refine lv_icmp_ne (tgt := 65) hx hb de_M_code_51 (by decide) (fun _ => ?_) (fun hc => absurd hc (by decide))
        refine lv_iload hx hb de_M_code_65 (lv_at hl 0 rfl) ?_
        refine lv_if_ne (tgt := 74) hx hb de_M_code_67 (by decide) (fun hc => absurd (by decide) hc) (fun _ => ?_)
        refine lv_iconst (v := 2) hx hb de_M_code_70 (by decide) ?_
        refine lv_goto (tgt := 75) hx hb de_M_code_71 (by decide) ?_
        refine bc_call_v_i (As := [.int 2]) (rest := []) (wr := [(r1, .inl (cI, 80, .inl K)), (r2, .inl (cI, 80, .inl O)), (r3, .inl (cI, 80, .inl T)), (r4, .inl (cI, 80, .inl Z)), (r5, .inl (cI, 2, .inl Sz))]) F (co_M_refused) wm_478 wm_6 wm_476 wm_477 wm_630 0 rfl rfl pd_M_refused rfl rfl ⟨Nat.le_of_ble_eq_true rfl, Nat.le_of_ble_eq_true rfl⟩ hP hD hS hA [0] [1, 2, 3, 4, 5] rfl rfl rfl rfl (by decide) rfl hl.1 rfl (Nat.le_of_ble_eq_true rfl) de_M_code_75 ⟨Nat.le_of_ble_eq_true rfl, Nat.le_of_ble_eq_true rfl⟩ (fun r_75 u_75 H locs hw_75 hP hD hS => ?_)
        have hP : va_P (dC, dI) classes [(m0, .inr (5, [.int 2, .ref r1, .ref r2, .ref r3, .ref r4, .ref r5, .int rw, .ref r6, .ref r7, .ref r8, .int gw, .ref r9, .ref r10, .ref r11, .ref r12, .ref r13, .ref r14, .ref r15, .ref r16])), (r1, .inl (cI, 80, .inl K)), (r2, .inl (cI, 80, .inl O)), (r3, .inl (cI, 80, .inl T)), (r4, .inl (cI, 80, .inl Z)), (r5, .inl (cI, 2, .inl Sz))] H := hP.sub [5, 0, 1, 2, 3, 4] rfl
        have hD : va_D A [(m0, .inr (5, [.int 2, .ref r1, .ref r2, .ref r3, .ref r4, .ref r5, .int rw, .ref r6, .ref r7, .ref r8, .int gw, .ref r9, .ref r10, .ref r11, .ref r12, .ref r13, .ref r14, .ref r15, .ref r16])), (r1, .inl (cI, 80, .inl K)), (r2, .inl (cI, 80, .inl O)), (r3, .inl (cI, 80, .inl T)), (r4, .inl (cI, 80, .inl Z)), (r5, .inl (cI, 2, .inl Sz))] := hD.sub [5, 0, 1, 2, 3, 4] (by decide) rfl
        rcases hw_75 with ⟨he_75, hv_75⟩ | ⟨he_75, hv_75⟩
        · subst he_75
          refine lv_if_eq (tgt := 83) hx hb de_M_code_78 (by decide) (fun hc => absurd hc (by decide)) (fun _ => ?_)
          refine lv_iconst (v := 0) hx hb de_M_code_81 (by decide) ?_
          exact bc_iret F hr hlocks 2 (Or.inr (Or.inl ⟨(fun z => absurd z.1 (by decide)), (fun z => z.elim (fun z => bc_isn0 (n := 4) (by omega) hc_14 z.2.2) (fun z => absurd z.1 (by decide))), rfl⟩)) hP hD hS de_M_code_82
        · subst he_75
          exact absurd hv_75 (by decide)
      · refine lv_iload_n hx hb de_M_code_17 rfl (lv_at hl 3 rfl) ?_
        refine lv_iconst (v := 3) hx hb de_M_code_18 (by decide) ?_
        refine lv_icmp_gt (tgt := 45) hx hb de_M_code_19 (by decide) (fun hc_19 => ?_) (fun hc_19 => ?_)
        · refine lv_iconst (v := 0) hx hb de_M_code_45 (by decide) ?_
          refine lv_istore (lv' := [(4, .int 0), (0, .ref m0), (1, .int 0), (2, .int y), (3, .int z)]) hx hb de_M_code_46 hl (by decide) rfl (fun ls hl => ?_)
          refine lv_aload_n hx hb de_M_code_48 rfl (lv_at hl 1 rfl) ?_
          refine lv_iload_n hx hb de_M_code_49 rfl (lv_at hl 2 rfl) ?_
          refine lv_iconst (v := 1) hx hb de_M_code_50 (by decide) ?_
          refine lv_icmp_ne (tgt := 65) hx hb de_M_code_51 (by decide) (fun _ => ?_) (fun hc => absurd hc (by decide))
          refine lv_iload hx hb de_M_code_65 (lv_at hl 0 rfl) ?_
          refine lv_if_ne (tgt := 74) hx hb de_M_code_67 (by decide) (fun hc => absurd (by decide) hc) (fun _ => ?_)
          refine lv_iconst (v := 2) hx hb de_M_code_70 (by decide) ?_
          refine lv_goto (tgt := 75) hx hb de_M_code_71 (by decide) ?_
          refine bc_call_v_i (As := [.int 2]) (rest := []) (wr := [(r1, .inl (cI, 80, .inl K)), (r2, .inl (cI, 80, .inl O)), (r3, .inl (cI, 80, .inl T)), (r4, .inl (cI, 80, .inl Z)), (r5, .inl (cI, 2, .inl Sz))]) F (co_M_refused) wm_478 wm_6 wm_476 wm_477 wm_630 0 rfl rfl pd_M_refused rfl rfl ⟨Nat.le_of_ble_eq_true rfl, Nat.le_of_ble_eq_true rfl⟩ hP hD hS hA [0] [1, 2, 3, 4, 5] rfl rfl rfl rfl (by decide) rfl hl.1 rfl (Nat.le_of_ble_eq_true rfl) de_M_code_75 ⟨Nat.le_of_ble_eq_true rfl, Nat.le_of_ble_eq_true rfl⟩ (fun r_75 u_75 H locs hw_75 hP hD hS => ?_)
          have hP : va_P (dC, dI) classes [(m0, .inr (5, [.int 2, .ref r1, .ref r2, .ref r3, .ref r4, .ref r5, .int rw, .ref r6, .ref r7, .ref r8, .int gw, .ref r9, .ref r10, .ref r11, .ref r12, .ref r13, .ref r14, .ref r15, .ref r16])), (r1, .inl (cI, 80, .inl K)), (r2, .inl (cI, 80, .inl O)), (r3, .inl (cI, 80, .inl T)), (r4, .inl (cI, 80, .inl Z)), (r5, .inl (cI, 2, .inl Sz))] H := hP.sub [5, 0, 1, 2, 3, 4] rfl
          have hD : va_D A [(m0, .inr (5, [.int 2, .ref r1, .ref r2, .ref r3, .ref r4, .ref r5, .int rw, .ref r6, .ref r7, .ref r8, .int gw, .ref r9, .ref r10, .ref r11, .ref r12, .ref r13, .ref r14, .ref r15, .ref r16])), (r1, .inl (cI, 80, .inl K)), (r2, .inl (cI, 80, .inl O)), (r3, .inl (cI, 80, .inl T)), (r4, .inl (cI, 80, .inl Z)), (r5, .inl (cI, 2, .inl Sz))] := hD.sub [5, 0, 1, 2, 3, 4] (by decide) rfl
          rcases hw_75 with ⟨he_75, hv_75⟩ | ⟨he_75, hv_75⟩
          · subst he_75
            refine lv_if_eq (tgt := 83) hx hb de_M_code_78 (by decide) (fun hc => absurd hc (by decide)) (fun _ => ?_)
            refine lv_iconst (v := 0) hx hb de_M_code_81 (by decide) ?_
            exact bc_iret F hr hlocks 2 (Or.inr (Or.inl ⟨(fun z => absurd z.1 (by decide)), (fun z => z.elim (fun z => bc_isn1 (n := 4) (by omega) (bc_gt3 hc_19) z.2.2) (fun z => absurd z.1 (by decide))), rfl⟩)) hP hD hS de_M_code_82
          · subst he_75
            exact absurd hv_75 (by decide)
        · refine lv_iload_n hx hb de_M_code_22 rfl (lv_at hl 2 rfl) ?_
          refine lv_aload_n hx hb de_M_code_23 rfl (lv_at hl 0 rfl) ?_
          refine va_get (D := (dC, dI)) (ci := 5) (v := .ref r5) (C := rc_M) (T := fc_M) (N := 19) hx hb htw wi_M hown hK hP 0 rfl rfl 5 (by decide) (htw _ wm_428) (fun _ h9 => h9) rfl de_M_code_24 ?_
          refine lv_iload_n hx hb de_M_code_27 rfl (lv_at hl 1 rfl) ?_
          refine lv_iconst (v := 1) hx hb de_M_code_28 (by decide) ?_
          refine lv_icmp_ne (tgt := 36) hx hb de_M_code_29 (by decide) (fun _ => ?_) (fun hc => absurd hc (by decide))
          refine lv_iconst (v := 0) hx hb de_M_code_36 (by decide) ?_
          refine bc_ildE (by decide) (j := 0) hx hb hK hP 5 0 rfl rfl (by omega) (by decide) de_M_code_37 ?_
          refine bc_ti (y := nI n) hSz ?_
          refine lv_icmp_ge (tgt := 45) hx hb de_M_code_38 (by decide) (fun hc_38 => ?_) (fun hc_38 => ?_)
          · refine lv_iconst (v := 0) hx hb de_M_code_45 (by decide) ?_
            refine lv_istore (lv' := [(4, .int 0), (0, .ref m0), (1, .int 0), (2, .int y), (3, .int z)]) hx hb de_M_code_46 hl (by decide) rfl (fun ls hl => ?_)
            refine lv_aload_n hx hb de_M_code_48 rfl (lv_at hl 1 rfl) ?_
            refine lv_iload_n hx hb de_M_code_49 rfl (lv_at hl 2 rfl) ?_
            refine lv_iconst (v := 1) hx hb de_M_code_50 (by decide) ?_
            refine lv_icmp_ne (tgt := 65) hx hb de_M_code_51 (by decide) (fun _ => ?_) (fun hc => absurd hc (by decide))
            refine lv_iload hx hb de_M_code_65 (lv_at hl 0 rfl) ?_
            refine lv_if_ne (tgt := 74) hx hb de_M_code_67 (by decide) (fun hc => absurd (by decide) hc) (fun _ => ?_)
            refine lv_iconst (v := 2) hx hb de_M_code_70 (by decide) ?_
            refine lv_goto (tgt := 75) hx hb de_M_code_71 (by decide) ?_
            refine bc_call_v_i (As := [.int 2]) (rest := []) (wr := [(r1, .inl (cI, 80, .inl K)), (r2, .inl (cI, 80, .inl O)), (r3, .inl (cI, 80, .inl T)), (r4, .inl (cI, 80, .inl Z)), (r5, .inl (cI, 2, .inl Sz))]) F (co_M_refused) wm_478 wm_6 wm_476 wm_477 wm_630 0 rfl rfl pd_M_refused rfl rfl ⟨Nat.le_of_ble_eq_true rfl, Nat.le_of_ble_eq_true rfl⟩ hP hD hS hA [0] [1, 2, 3, 4, 5] rfl rfl rfl rfl (by decide) rfl hl.1 rfl (Nat.le_of_ble_eq_true rfl) de_M_code_75 ⟨Nat.le_of_ble_eq_true rfl, Nat.le_of_ble_eq_true rfl⟩ (fun r_75 u_75 H locs hw_75 hP hD hS => ?_)
            have hP : va_P (dC, dI) classes [(m0, .inr (5, [.int 2, .ref r1, .ref r2, .ref r3, .ref r4, .ref r5, .int rw, .ref r6, .ref r7, .ref r8, .int gw, .ref r9, .ref r10, .ref r11, .ref r12, .ref r13, .ref r14, .ref r15, .ref r16])), (r1, .inl (cI, 80, .inl K)), (r2, .inl (cI, 80, .inl O)), (r3, .inl (cI, 80, .inl T)), (r4, .inl (cI, 80, .inl Z)), (r5, .inl (cI, 2, .inl Sz))] H := hP.sub [5, 0, 1, 2, 3, 4] rfl
            have hD : va_D A [(m0, .inr (5, [.int 2, .ref r1, .ref r2, .ref r3, .ref r4, .ref r5, .int rw, .ref r6, .ref r7, .ref r8, .int gw, .ref r9, .ref r10, .ref r11, .ref r12, .ref r13, .ref r14, .ref r15, .ref r16])), (r1, .inl (cI, 80, .inl K)), (r2, .inl (cI, 80, .inl O)), (r3, .inl (cI, 80, .inl T)), (r4, .inl (cI, 80, .inl Z)), (r5, .inl (cI, 2, .inl Sz))] := hD.sub [5, 0, 1, 2, 3, 4] (by decide) rfl
            rcases hw_75 with ⟨he_75, hv_75⟩ | ⟨he_75, hv_75⟩
            · subst he_75
              refine lv_if_eq (tgt := 83) hx hb de_M_code_78 (by decide) (fun hc => absurd hc (by decide)) (fun _ => ?_)
              refine lv_iconst (v := 0) hx hb de_M_code_81 (by decide) ?_
              exact bc_iret F hr hlocks 2 (Or.inr (Or.inl ⟨(fun z => absurd z.1 (by decide)), (fun z => z.elim (fun z => bc_isn1 (n := n) (by omega) hc_38 z.2.1) (fun z => absurd z.1 (by decide))), rfl⟩)) hP hD hS de_M_code_82
            · subst he_75
              exact absurd hv_75 (by decide)
          · obtain ⟨j, hj, ej⟩ := bc_isn (n := n) (by omega) hc_10 hc_38
            subst ej
            refine lv_iconst (v := 1) hx hb de_M_code_41 (by decide) ?_
            refine lv_goto (tgt := 46) hx hb de_M_code_42 (by decide) ?_
            refine lv_istore (lv' := [(4, .int 1), (0, .ref m0), (1, .int 0), (2, .int (nI j)), (3, .int z)]) hx hb de_M_code_46 hl (by decide) rfl (fun ls hl => ?_)
            refine lv_aload_n hx hb de_M_code_48 rfl (lv_at hl 1 rfl) ?_
            refine lv_iload_n hx hb de_M_code_49 rfl (lv_at hl 2 rfl) ?_
            refine lv_iconst (v := 1) hx hb de_M_code_50 (by decide) ?_
            refine lv_icmp_ne (tgt := 65) hx hb de_M_code_51 (by decide) (fun _ => ?_) (fun hc => absurd hc (by decide))
            refine lv_iload hx hb de_M_code_65 (lv_at hl 0 rfl) ?_
            refine lv_if_ne (tgt := 74) hx hb de_M_code_67 (by decide) (fun _ => ?_) (fun hc => absurd hc (by decide))
            refine lv_iconst (v := 0) hx hb de_M_code_74 (by decide) ?_
            refine bc_call_v_i (As := [.int 0]) (rest := []) (wr := [(r1, .inl (cI, 80, .inl K)), (r2, .inl (cI, 80, .inl O)), (r3, .inl (cI, 80, .inl T)), (r4, .inl (cI, 80, .inl Z)), (r5, .inl (cI, 2, .inl Sz))]) F (co_M_refused) wm_478 wm_6 wm_476 wm_477 wm_630 0 rfl rfl pd_M_refused rfl rfl ⟨Nat.le_of_ble_eq_true rfl, Nat.le_of_ble_eq_true rfl⟩ hP hD hS hA [0] [1, 2, 3, 4, 5] rfl rfl rfl rfl (by decide) rfl hl.1 rfl (Nat.le_of_ble_eq_true rfl) de_M_code_75 ⟨Nat.le_of_ble_eq_true rfl, Nat.le_of_ble_eq_true rfl⟩ (fun r_75 u_75 H locs hw_75 hP hD hS => ?_)
            have hP : va_P (dC, dI) classes [(m0, .inr (5, [.int 0, .ref r1, .ref r2, .ref r3, .ref r4, .ref r5, .int rw, .ref r6, .ref r7, .ref r8, .int gw, .ref r9, .ref r10, .ref r11, .ref r12, .ref r13, .ref r14, .ref r15, .ref r16])), (r1, .inl (cI, 80, .inl K)), (r2, .inl (cI, 80, .inl O)), (r3, .inl (cI, 80, .inl T)), (r4, .inl (cI, 80, .inl Z)), (r5, .inl (cI, 2, .inl Sz))] H := hP.sub [5, 0, 1, 2, 3, 4] rfl
            have hD : va_D A [(m0, .inr (5, [.int 0, .ref r1, .ref r2, .ref r3, .ref r4, .ref r5, .int rw, .ref r6, .ref r7, .ref r8, .int gw, .ref r9, .ref r10, .ref r11, .ref r12, .ref r13, .ref r14, .ref r15, .ref r16])), (r1, .inl (cI, 80, .inl K)), (r2, .inl (cI, 80, .inl O)), (r3, .inl (cI, 80, .inl T)), (r4, .inl (cI, 80, .inl Z)), (r5, .inl (cI, 2, .inl Sz))] := hD.sub [5, 0, 1, 2, 3, 4] (by decide) rfl
            rcases hw_75 with ⟨he_75, hv_75⟩ | ⟨he_75, hv_75⟩
            · subst he_75
              exact absurd (by decide) hv_75
            · subst he_75
              refine lv_if_eq (tgt := 83) hx hb de_M_code_78 (by decide) (fun _ => ?_) (fun hc => absurd (by decide) hc)
              refine lv_bipush (v := 40) hx hb de_M_code_83 (by decide) ?_
              refine lv_iload_n hx hb de_M_code_85 rfl (lv_at hl 2 rfl) ?_
              refine lv_imul hx hb de_M_code_86 ?_
              refine bc_ti (y := nI (40 * 0)) (pk_mul 40 0) ?_
              refine lv_iload_n hx hb de_M_code_87 rfl (lv_at hl 3 rfl) ?_
              refine lv_iadd hx hb de_M_code_88 ?_
              refine bc_ti (y := nI ((40 * 0) + j)) (nI_add (40 * 0) j) ?_
              refine lv_istore (lv' := [(5, .int (nI ((40 * 0) + j))), (4, .int 1), (0, .ref m0), (1, .int 0), (2, .int (nI j)), (3, .int z)]) hx hb de_M_code_89 hl (by decide) rfl (fun ls hl => ?_)
              refine lv_iload_n hx hb de_M_code_91 rfl (lv_at hl 5 rfl) ?_
              refine lv_if_ne (tgt := 105) hx hb de_M_code_92 (by decide) (fun hc_92 => ?_) (fun hc_92 => ?_)
              · refine lv_iload_n hx hb de_M_code_105 rfl (lv_at hl 5 rfl) ?_
                refine lv_iconst (v := 1) hx hb de_M_code_106 (by decide) ?_
                refine lv_icmp_ne (tgt := 120) hx hb de_M_code_107 (by decide) (fun hc_107 => ?_) (fun hc_107 => ?_)
                · refine lv_iload_n hx hb de_M_code_120 rfl (lv_at hl 5 rfl) ?_
                  refine lv_iconst (v := 2) hx hb de_M_code_121 (by decide) ?_
                  refine lv_icmp_ne (tgt := 135) hx hb de_M_code_122 (by decide) (fun hc_122 => ?_) (fun hc_122 => ?_)
                  · refine lv_aload_n hx hb de_M_code_135 rfl (lv_at hl 2 rfl) ?_
                    refine va_get (D := (dC, dI)) (ci := 5) (v := .ref r4) (C := rc_M) (T := fc_M) (N := 19) hx hb htw wi_M hown hK hP 0 rfl rfl 4 (by decide) (htw _ wm_427) (fun _ h9 => h9) rfl de_M_code_136 ?_
                    refine lv_iload hx hb de_M_code_139 (lv_at hl 0 rfl) ?_
                    refine bc_ild (j := (40 * 0) + j) hx hb hK hP 4 0 rfl rfl (by omega) (by decide) de_M_code_141 ?_
                    exact bc_iret F hr hlocks 0 (Or.inr (Or.inr ⟨rfl, Or.inl ⟨rfl, ⟨j, hj, rfl, 3, by omega, (bc_z3 hc_14 hc_19 hc_92 hc_107 hc_122), (by rw [show 40 * 0 + j = j by omega]; exact (hR.2.1 j hj).2.2.2)⟩⟩⟩)) hP hD hS de_M_code_142
                  · refine lv_aload_n hx hb de_M_code_125 rfl (lv_at hl 2 rfl) ?_
                    refine va_get (D := (dC, dI)) (ci := 5) (v := .ref r3) (C := rc_M) (T := fc_M) (N := 19) hx hb htw wi_M hown hK hP 0 rfl rfl 3 (by decide) (htw _ wm_426) (fun _ h9 => h9) rfl de_M_code_126 ?_
                    refine lv_iload hx hb de_M_code_129 (lv_at hl 0 rfl) ?_
                    refine bc_ild (j := (40 * 0) + j) hx hb hK hP 3 0 rfl rfl (by omega) (by decide) de_M_code_131 ?_
                    refine lv_goto (tgt := 142) hx hb de_M_code_132 (by decide) ?_
                    exact bc_iret F hr hlocks 0 (Or.inr (Or.inr ⟨rfl, Or.inl ⟨rfl, ⟨j, hj, rfl, 2, by omega, hc_122, (by rw [show 40 * 0 + j = j by omega]; exact (hR.2.1 j hj).2.2.1)⟩⟩⟩)) hP hD hS de_M_code_142
                · refine lv_aload_n hx hb de_M_code_110 rfl (lv_at hl 2 rfl) ?_
                  refine va_get (D := (dC, dI)) (ci := 5) (v := .ref r2) (C := rc_M) (T := fc_M) (N := 19) hx hb htw wi_M hown hK hP 0 rfl rfl 2 (by decide) (htw _ wm_425) (fun _ h9 => h9) rfl de_M_code_111 ?_
                  refine lv_iload hx hb de_M_code_114 (lv_at hl 0 rfl) ?_
                  refine bc_ild (j := (40 * 0) + j) hx hb hK hP 2 0 rfl rfl (by omega) (by decide) de_M_code_116 ?_
                  refine lv_goto (tgt := 142) hx hb de_M_code_117 (by decide) ?_
                  exact bc_iret F hr hlocks 0 (Or.inr (Or.inr ⟨rfl, Or.inl ⟨rfl, ⟨j, hj, rfl, 1, by omega, hc_107, (by rw [show 40 * 0 + j = j by omega]; exact (hR.2.1 j hj).2.1)⟩⟩⟩)) hP hD hS de_M_code_142
              · refine lv_aload_n hx hb de_M_code_95 rfl (lv_at hl 2 rfl) ?_
                refine va_get (D := (dC, dI)) (ci := 5) (v := .ref r1) (C := rc_M) (T := fc_M) (N := 19) hx hb htw wi_M hown hK hP 0 rfl rfl 1 (by decide) (htw _ wm_424) (fun _ h9 => h9) rfl de_M_code_96 ?_
                refine lv_iload hx hb de_M_code_99 (lv_at hl 0 rfl) ?_
                refine bc_ild (j := (40 * 0) + j) hx hb hK hP 1 0 rfl rfl (by omega) (by decide) de_M_code_101 ?_
                refine lv_goto (tgt := 142) hx hb de_M_code_102 (by decide) ?_
                exact bc_iret F hr hlocks 0 (Or.inr (Or.inr ⟨rfl, Or.inl ⟨rfl, ⟨j, hj, rfl, 0, by omega, hc_92, (by rw [show 40 * 0 + j = j by omega]; exact (hR.2.1 j hj).1)⟩⟩⟩)) hP hD hS de_M_code_142
  · refine lv_iload_n hx hb de_M_code_4 rfl (lv_at hl 1 rfl) ?_
    refine lv_iconst (v := 1) hx hb de_M_code_5 (by decide) ?_
    refine lv_icmp_ne (tgt := 45) hx hb de_M_code_6 (by decide) (fun hc_6 => ?_) (fun hc_6 => ?_)
    · refine lv_iconst (v := 0) hx hb de_M_code_45 (by decide) ?_
      refine lv_istore (lv' := [(4, .int 0), (0, .ref m0), (1, .int x), (2, .int y), (3, .int z)]) hx hb de_M_code_46 hl (by decide) rfl (fun ls hl => ?_)
      refine lv_aload_n hx hb de_M_code_48 rfl (lv_at hl 1 rfl) ?_
      refine lv_iload_n hx hb de_M_code_49 rfl (lv_at hl 2 rfl) ?_
      refine lv_iconst (v := 1) hx hb de_M_code_50 (by decide) ?_
      refine lv_icmp_ne (tgt := 65) hx hb de_M_code_51 (by decide) (fun _ => ?_) (fun hc => absurd hc hc_6)
      refine lv_iload hx hb de_M_code_65 (lv_at hl 0 rfl) ?_
      refine lv_if_ne (tgt := 74) hx hb de_M_code_67 (by decide) (fun hc => absurd (by decide) hc) (fun _ => ?_)
      refine lv_iconst (v := 2) hx hb de_M_code_70 (by decide) ?_
      refine lv_goto (tgt := 75) hx hb de_M_code_71 (by decide) ?_
      refine bc_call_v_i (As := [.int 2]) (rest := []) (wr := [(r1, .inl (cI, 80, .inl K)), (r2, .inl (cI, 80, .inl O)), (r3, .inl (cI, 80, .inl T)), (r4, .inl (cI, 80, .inl Z)), (r5, .inl (cI, 2, .inl Sz))]) F (co_M_refused) wm_478 wm_6 wm_476 wm_477 wm_630 0 rfl rfl pd_M_refused rfl rfl ⟨Nat.le_of_ble_eq_true rfl, Nat.le_of_ble_eq_true rfl⟩ hP hD hS hA [0] [1, 2, 3, 4, 5] rfl rfl rfl rfl (by decide) rfl hl.1 rfl (Nat.le_of_ble_eq_true rfl) de_M_code_75 ⟨Nat.le_of_ble_eq_true rfl, Nat.le_of_ble_eq_true rfl⟩ (fun r_75 u_75 H locs hw_75 hP hD hS => ?_)
      have hP : va_P (dC, dI) classes [(m0, .inr (5, [.int 2, .ref r1, .ref r2, .ref r3, .ref r4, .ref r5, .int rw, .ref r6, .ref r7, .ref r8, .int gw, .ref r9, .ref r10, .ref r11, .ref r12, .ref r13, .ref r14, .ref r15, .ref r16])), (r1, .inl (cI, 80, .inl K)), (r2, .inl (cI, 80, .inl O)), (r3, .inl (cI, 80, .inl T)), (r4, .inl (cI, 80, .inl Z)), (r5, .inl (cI, 2, .inl Sz))] H := hP.sub [5, 0, 1, 2, 3, 4] rfl
      have hD : va_D A [(m0, .inr (5, [.int 2, .ref r1, .ref r2, .ref r3, .ref r4, .ref r5, .int rw, .ref r6, .ref r7, .ref r8, .int gw, .ref r9, .ref r10, .ref r11, .ref r12, .ref r13, .ref r14, .ref r15, .ref r16])), (r1, .inl (cI, 80, .inl K)), (r2, .inl (cI, 80, .inl O)), (r3, .inl (cI, 80, .inl T)), (r4, .inl (cI, 80, .inl Z)), (r5, .inl (cI, 2, .inl Sz))] := hD.sub [5, 0, 1, 2, 3, 4] (by decide) rfl
      rcases hw_75 with ⟨he_75, hv_75⟩ | ⟨he_75, hv_75⟩
      · subst he_75
        refine lv_if_eq (tgt := 83) hx hb de_M_code_78 (by decide) (fun hc => absurd hc (by decide)) (fun _ => ?_)
        refine lv_iconst (v := 0) hx hb de_M_code_81 (by decide) ?_
        exact bc_iret F hr hlocks 2 (Or.inr (Or.inl ⟨(fun z => hc_6 z.1), (fun z => z.elim (fun z => hc_1 z.1) (fun z => hc_6 z.1)), rfl⟩)) hP hD hS de_M_code_82
      · subst he_75
        exact absurd hv_75 (by decide)
    · subst hc_6
      refine lv_iload_n hx hb de_M_code_9 rfl (lv_at hl 2 rfl) ?_
      refine lv_if_lt (tgt := 45) hx hb de_M_code_10 (by decide) (fun hc_10 => ?_) (fun hc_10 => ?_)
      · refine lv_iconst (v := 0) hx hb de_M_code_45 (by decide) ?_
        refine lv_istore (lv' := [(4, .int 0), (0, .ref m0), (1, .int 1), (2, .int y), (3, .int z)]) hx hb de_M_code_46 hl (by decide) rfl (fun ls hl => ?_)
        refine lv_aload_n hx hb de_M_code_48 rfl (lv_at hl 1 rfl) ?_
        refine lv_iload_n hx hb de_M_code_49 rfl (lv_at hl 2 rfl) ?_
        refine lv_iconst (v := 1) hx hb de_M_code_50 (by decide) ?_
        refine lv_icmp_ne (tgt := 65) hx hb de_M_code_51 (by decide) (fun hc => absurd (by decide) hc) (fun _ => ?_)
        refine lv_aload_n hx hb de_M_code_54 rfl (lv_at hl 1 rfl) ?_
        refine va_get (D := (dC, dI)) (ci := 5) (v := .int rw) (C := rc_M) (T := fc_M) (N := 19) hx hb htw wi_M hown hK hP 0 rfl rfl 6 (by decide) (htw _ wm_429) (fun _ h9 => h9) rfl de_M_code_55 ?_
        refine lv_if_ne (tgt := 65) hx hb de_M_code_58 (by decide) (fun hc_58 => ?_) (fun hc_58 => ?_)
        · refine lv_iload hx hb de_M_code_65 (lv_at hl 0 rfl) ?_
          refine lv_if_ne (tgt := 74) hx hb de_M_code_67 (by decide) (fun hc => absurd (by decide) hc) (fun _ => ?_)
          refine lv_iconst (v := 2) hx hb de_M_code_70 (by decide) ?_
          refine lv_goto (tgt := 75) hx hb de_M_code_71 (by decide) ?_
          refine bc_call_v_i (As := [.int 2]) (rest := []) (wr := [(r1, .inl (cI, 80, .inl K)), (r2, .inl (cI, 80, .inl O)), (r3, .inl (cI, 80, .inl T)), (r4, .inl (cI, 80, .inl Z)), (r5, .inl (cI, 2, .inl Sz))]) F (co_M_refused) wm_478 wm_6 wm_476 wm_477 wm_630 0 rfl rfl pd_M_refused rfl rfl ⟨Nat.le_of_ble_eq_true rfl, Nat.le_of_ble_eq_true rfl⟩ hP hD hS hA [0] [1, 2, 3, 4, 5] rfl rfl rfl rfl (by decide) rfl hl.1 rfl (Nat.le_of_ble_eq_true rfl) de_M_code_75 ⟨Nat.le_of_ble_eq_true rfl, Nat.le_of_ble_eq_true rfl⟩ (fun r_75 u_75 H locs hw_75 hP hD hS => ?_)
          have hP : va_P (dC, dI) classes [(m0, .inr (5, [.int 2, .ref r1, .ref r2, .ref r3, .ref r4, .ref r5, .int rw, .ref r6, .ref r7, .ref r8, .int gw, .ref r9, .ref r10, .ref r11, .ref r12, .ref r13, .ref r14, .ref r15, .ref r16])), (r1, .inl (cI, 80, .inl K)), (r2, .inl (cI, 80, .inl O)), (r3, .inl (cI, 80, .inl T)), (r4, .inl (cI, 80, .inl Z)), (r5, .inl (cI, 2, .inl Sz))] H := hP.sub [5, 0, 1, 2, 3, 4] rfl
          have hD : va_D A [(m0, .inr (5, [.int 2, .ref r1, .ref r2, .ref r3, .ref r4, .ref r5, .int rw, .ref r6, .ref r7, .ref r8, .int gw, .ref r9, .ref r10, .ref r11, .ref r12, .ref r13, .ref r14, .ref r15, .ref r16])), (r1, .inl (cI, 80, .inl K)), (r2, .inl (cI, 80, .inl O)), (r3, .inl (cI, 80, .inl T)), (r4, .inl (cI, 80, .inl Z)), (r5, .inl (cI, 2, .inl Sz))] := hD.sub [5, 0, 1, 2, 3, 4] (by decide) rfl
          rcases hw_75 with ⟨he_75, hv_75⟩ | ⟨he_75, hv_75⟩
          · subst he_75
            refine lv_if_eq (tgt := 83) hx hb de_M_code_78 (by decide) (fun hc => absurd hc (by decide)) (fun _ => ?_)
            refine lv_iconst (v := 0) hx hb de_M_code_81 (by decide) ?_
            exact bc_iret F hr hlocks 2 (Or.inr (Or.inl ⟨(fun z => hc_58 (hR.2.2.1.trans z.2)), (fun z => z.elim (fun z => absurd z.1 (by decide)) (fun z => bc_isn0 (n := n2) (by have := (hAB.2.2.2.1 (fun z => hc_58 (hR.2.2.1.trans z))).1; omega) hc_10 z.2.1)), rfl⟩)) hP hD hS de_M_code_82
          · subst he_75
            exact absurd hv_75 (by decide)
        · refine lv_iconst (v := 1) hx hb de_M_code_61 (by decide) ?_
          refine lv_goto (tgt := 75) hx hb de_M_code_62 (by decide) ?_
          refine bc_call_v_i (As := [.int 1]) (rest := []) (wr := [(r1, .inl (cI, 80, .inl K)), (r2, .inl (cI, 80, .inl O)), (r3, .inl (cI, 80, .inl T)), (r4, .inl (cI, 80, .inl Z)), (r5, .inl (cI, 2, .inl Sz))]) F (co_M_refused) wm_478 wm_6 wm_476 wm_477 wm_630 0 rfl rfl pd_M_refused rfl rfl ⟨Nat.le_of_ble_eq_true rfl, Nat.le_of_ble_eq_true rfl⟩ hP hD hS hA [0] [1, 2, 3, 4, 5] rfl rfl rfl rfl (by decide) rfl hl.1 rfl (Nat.le_of_ble_eq_true rfl) de_M_code_75 ⟨Nat.le_of_ble_eq_true rfl, Nat.le_of_ble_eq_true rfl⟩ (fun r_75 u_75 H locs hw_75 hP hD hS => ?_)
          have hP : va_P (dC, dI) classes [(m0, .inr (5, [.int 1, .ref r1, .ref r2, .ref r3, .ref r4, .ref r5, .int rw, .ref r6, .ref r7, .ref r8, .int gw, .ref r9, .ref r10, .ref r11, .ref r12, .ref r13, .ref r14, .ref r15, .ref r16])), (r1, .inl (cI, 80, .inl K)), (r2, .inl (cI, 80, .inl O)), (r3, .inl (cI, 80, .inl T)), (r4, .inl (cI, 80, .inl Z)), (r5, .inl (cI, 2, .inl Sz))] H := hP.sub [5, 0, 1, 2, 3, 4] rfl
          have hD : va_D A [(m0, .inr (5, [.int 1, .ref r1, .ref r2, .ref r3, .ref r4, .ref r5, .int rw, .ref r6, .ref r7, .ref r8, .int gw, .ref r9, .ref r10, .ref r11, .ref r12, .ref r13, .ref r14, .ref r15, .ref r16])), (r1, .inl (cI, 80, .inl K)), (r2, .inl (cI, 80, .inl O)), (r3, .inl (cI, 80, .inl T)), (r4, .inl (cI, 80, .inl Z)), (r5, .inl (cI, 2, .inl Sz))] := hD.sub [5, 0, 1, 2, 3, 4] (by decide) rfl
          rcases hw_75 with ⟨he_75, hv_75⟩ | ⟨he_75, hv_75⟩
          · subst he_75
            refine lv_if_eq (tgt := 83) hx hb de_M_code_78 (by decide) (fun hc => absurd hc (by decide)) (fun _ => ?_)
            refine lv_iconst (v := 0) hx hb de_M_code_81 (by decide) ?_
            exact bc_iret F hr hlocks 1 (Or.inl ⟨rfl, (hR.2.2.1.symm.trans hc_58), rfl⟩) hP hD hS de_M_code_82
          · subst he_75
            exact absurd hv_75 (by decide)
      · refine lv_iload_n hx hb de_M_code_13 rfl (lv_at hl 3 rfl) ?_
        refine lv_if_lt (tgt := 45) hx hb de_M_code_14 (by decide) (fun hc_14 => ?_) (fun hc_14 => ?_)
        · refine lv_iconst (v := 0) hx hb de_M_code_45 (by decide) ?_
          refine lv_istore (lv' := [(4, .int 0), (0, .ref m0), (1, .int 1), (2, .int y), (3, .int z)]) hx hb de_M_code_46 hl (by decide) rfl (fun ls hl => ?_)
          refine lv_aload_n hx hb de_M_code_48 rfl (lv_at hl 1 rfl) ?_
          refine lv_iload_n hx hb de_M_code_49 rfl (lv_at hl 2 rfl) ?_
          refine lv_iconst (v := 1) hx hb de_M_code_50 (by decide) ?_
          refine lv_icmp_ne (tgt := 65) hx hb de_M_code_51 (by decide) (fun hc => absurd (by decide) hc) (fun _ => ?_)
          refine lv_aload_n hx hb de_M_code_54 rfl (lv_at hl 1 rfl) ?_
          refine va_get (D := (dC, dI)) (ci := 5) (v := .int rw) (C := rc_M) (T := fc_M) (N := 19) hx hb htw wi_M hown hK hP 0 rfl rfl 6 (by decide) (htw _ wm_429) (fun _ h9 => h9) rfl de_M_code_55 ?_
          refine lv_if_ne (tgt := 65) hx hb de_M_code_58 (by decide) (fun hc_58 => ?_) (fun hc_58 => ?_)
          · refine lv_iload hx hb de_M_code_65 (lv_at hl 0 rfl) ?_
            refine lv_if_ne (tgt := 74) hx hb de_M_code_67 (by decide) (fun hc => absurd (by decide) hc) (fun _ => ?_)
            refine lv_iconst (v := 2) hx hb de_M_code_70 (by decide) ?_
            refine lv_goto (tgt := 75) hx hb de_M_code_71 (by decide) ?_
            refine bc_call_v_i (As := [.int 2]) (rest := []) (wr := [(r1, .inl (cI, 80, .inl K)), (r2, .inl (cI, 80, .inl O)), (r3, .inl (cI, 80, .inl T)), (r4, .inl (cI, 80, .inl Z)), (r5, .inl (cI, 2, .inl Sz))]) F (co_M_refused) wm_478 wm_6 wm_476 wm_477 wm_630 0 rfl rfl pd_M_refused rfl rfl ⟨Nat.le_of_ble_eq_true rfl, Nat.le_of_ble_eq_true rfl⟩ hP hD hS hA [0] [1, 2, 3, 4, 5] rfl rfl rfl rfl (by decide) rfl hl.1 rfl (Nat.le_of_ble_eq_true rfl) de_M_code_75 ⟨Nat.le_of_ble_eq_true rfl, Nat.le_of_ble_eq_true rfl⟩ (fun r_75 u_75 H locs hw_75 hP hD hS => ?_)
            have hP : va_P (dC, dI) classes [(m0, .inr (5, [.int 2, .ref r1, .ref r2, .ref r3, .ref r4, .ref r5, .int rw, .ref r6, .ref r7, .ref r8, .int gw, .ref r9, .ref r10, .ref r11, .ref r12, .ref r13, .ref r14, .ref r15, .ref r16])), (r1, .inl (cI, 80, .inl K)), (r2, .inl (cI, 80, .inl O)), (r3, .inl (cI, 80, .inl T)), (r4, .inl (cI, 80, .inl Z)), (r5, .inl (cI, 2, .inl Sz))] H := hP.sub [5, 0, 1, 2, 3, 4] rfl
            have hD : va_D A [(m0, .inr (5, [.int 2, .ref r1, .ref r2, .ref r3, .ref r4, .ref r5, .int rw, .ref r6, .ref r7, .ref r8, .int gw, .ref r9, .ref r10, .ref r11, .ref r12, .ref r13, .ref r14, .ref r15, .ref r16])), (r1, .inl (cI, 80, .inl K)), (r2, .inl (cI, 80, .inl O)), (r3, .inl (cI, 80, .inl T)), (r4, .inl (cI, 80, .inl Z)), (r5, .inl (cI, 2, .inl Sz))] := hD.sub [5, 0, 1, 2, 3, 4] (by decide) rfl
            rcases hw_75 with ⟨he_75, hv_75⟩ | ⟨he_75, hv_75⟩
            · subst he_75
              refine lv_if_eq (tgt := 83) hx hb de_M_code_78 (by decide) (fun hc => absurd hc (by decide)) (fun _ => ?_)
              refine lv_iconst (v := 0) hx hb de_M_code_81 (by decide) ?_
              exact bc_iret F hr hlocks 2 (Or.inr (Or.inl ⟨(fun z => hc_58 (hR.2.2.1.trans z.2)), (fun z => z.elim (fun z => absurd z.1 (by decide)) (fun z => bc_isn0 (n := 4) (by omega) hc_14 z.2.2)), rfl⟩)) hP hD hS de_M_code_82
            · subst he_75
              exact absurd hv_75 (by decide)
          · refine lv_iconst (v := 1) hx hb de_M_code_61 (by decide) ?_
            refine lv_goto (tgt := 75) hx hb de_M_code_62 (by decide) ?_
            refine bc_call_v_i (As := [.int 1]) (rest := []) (wr := [(r1, .inl (cI, 80, .inl K)), (r2, .inl (cI, 80, .inl O)), (r3, .inl (cI, 80, .inl T)), (r4, .inl (cI, 80, .inl Z)), (r5, .inl (cI, 2, .inl Sz))]) F (co_M_refused) wm_478 wm_6 wm_476 wm_477 wm_630 0 rfl rfl pd_M_refused rfl rfl ⟨Nat.le_of_ble_eq_true rfl, Nat.le_of_ble_eq_true rfl⟩ hP hD hS hA [0] [1, 2, 3, 4, 5] rfl rfl rfl rfl (by decide) rfl hl.1 rfl (Nat.le_of_ble_eq_true rfl) de_M_code_75 ⟨Nat.le_of_ble_eq_true rfl, Nat.le_of_ble_eq_true rfl⟩ (fun r_75 u_75 H locs hw_75 hP hD hS => ?_)
            have hP : va_P (dC, dI) classes [(m0, .inr (5, [.int 1, .ref r1, .ref r2, .ref r3, .ref r4, .ref r5, .int rw, .ref r6, .ref r7, .ref r8, .int gw, .ref r9, .ref r10, .ref r11, .ref r12, .ref r13, .ref r14, .ref r15, .ref r16])), (r1, .inl (cI, 80, .inl K)), (r2, .inl (cI, 80, .inl O)), (r3, .inl (cI, 80, .inl T)), (r4, .inl (cI, 80, .inl Z)), (r5, .inl (cI, 2, .inl Sz))] H := hP.sub [5, 0, 1, 2, 3, 4] rfl
            have hD : va_D A [(m0, .inr (5, [.int 1, .ref r1, .ref r2, .ref r3, .ref r4, .ref r5, .int rw, .ref r6, .ref r7, .ref r8, .int gw, .ref r9, .ref r10, .ref r11, .ref r12, .ref r13, .ref r14, .ref r15, .ref r16])), (r1, .inl (cI, 80, .inl K)), (r2, .inl (cI, 80, .inl O)), (r3, .inl (cI, 80, .inl T)), (r4, .inl (cI, 80, .inl Z)), (r5, .inl (cI, 2, .inl Sz))] := hD.sub [5, 0, 1, 2, 3, 4] (by decide) rfl
            rcases hw_75 with ⟨he_75, hv_75⟩ | ⟨he_75, hv_75⟩
            · subst he_75
              refine lv_if_eq (tgt := 83) hx hb de_M_code_78 (by decide) (fun hc => absurd hc (by decide)) (fun _ => ?_)
              refine lv_iconst (v := 0) hx hb de_M_code_81 (by decide) ?_
              exact bc_iret F hr hlocks 1 (Or.inl ⟨rfl, (hR.2.2.1.symm.trans hc_58), rfl⟩) hP hD hS de_M_code_82
            · subst he_75
              exact absurd hv_75 (by decide)
        · refine lv_iload_n hx hb de_M_code_17 rfl (lv_at hl 3 rfl) ?_
          refine lv_iconst (v := 3) hx hb de_M_code_18 (by decide) ?_
          refine lv_icmp_gt (tgt := 45) hx hb de_M_code_19 (by decide) (fun hc_19 => ?_) (fun hc_19 => ?_)
          · refine lv_iconst (v := 0) hx hb de_M_code_45 (by decide) ?_
            refine lv_istore (lv' := [(4, .int 0), (0, .ref m0), (1, .int 1), (2, .int y), (3, .int z)]) hx hb de_M_code_46 hl (by decide) rfl (fun ls hl => ?_)
            refine lv_aload_n hx hb de_M_code_48 rfl (lv_at hl 1 rfl) ?_
            refine lv_iload_n hx hb de_M_code_49 rfl (lv_at hl 2 rfl) ?_
            refine lv_iconst (v := 1) hx hb de_M_code_50 (by decide) ?_
            refine lv_icmp_ne (tgt := 65) hx hb de_M_code_51 (by decide) (fun hc => absurd (by decide) hc) (fun _ => ?_)
            refine lv_aload_n hx hb de_M_code_54 rfl (lv_at hl 1 rfl) ?_
            refine va_get (D := (dC, dI)) (ci := 5) (v := .int rw) (C := rc_M) (T := fc_M) (N := 19) hx hb htw wi_M hown hK hP 0 rfl rfl 6 (by decide) (htw _ wm_429) (fun _ h9 => h9) rfl de_M_code_55 ?_
            refine lv_if_ne (tgt := 65) hx hb de_M_code_58 (by decide) (fun hc_58 => ?_) (fun hc_58 => ?_)
            · refine lv_iload hx hb de_M_code_65 (lv_at hl 0 rfl) ?_
              refine lv_if_ne (tgt := 74) hx hb de_M_code_67 (by decide) (fun hc => absurd (by decide) hc) (fun _ => ?_)
              refine lv_iconst (v := 2) hx hb de_M_code_70 (by decide) ?_
              refine lv_goto (tgt := 75) hx hb de_M_code_71 (by decide) ?_
              refine bc_call_v_i (As := [.int 2]) (rest := []) (wr := [(r1, .inl (cI, 80, .inl K)), (r2, .inl (cI, 80, .inl O)), (r3, .inl (cI, 80, .inl T)), (r4, .inl (cI, 80, .inl Z)), (r5, .inl (cI, 2, .inl Sz))]) F (co_M_refused) wm_478 wm_6 wm_476 wm_477 wm_630 0 rfl rfl pd_M_refused rfl rfl ⟨Nat.le_of_ble_eq_true rfl, Nat.le_of_ble_eq_true rfl⟩ hP hD hS hA [0] [1, 2, 3, 4, 5] rfl rfl rfl rfl (by decide) rfl hl.1 rfl (Nat.le_of_ble_eq_true rfl) de_M_code_75 ⟨Nat.le_of_ble_eq_true rfl, Nat.le_of_ble_eq_true rfl⟩ (fun r_75 u_75 H locs hw_75 hP hD hS => ?_)
              have hP : va_P (dC, dI) classes [(m0, .inr (5, [.int 2, .ref r1, .ref r2, .ref r3, .ref r4, .ref r5, .int rw, .ref r6, .ref r7, .ref r8, .int gw, .ref r9, .ref r10, .ref r11, .ref r12, .ref r13, .ref r14, .ref r15, .ref r16])), (r1, .inl (cI, 80, .inl K)), (r2, .inl (cI, 80, .inl O)), (r3, .inl (cI, 80, .inl T)), (r4, .inl (cI, 80, .inl Z)), (r5, .inl (cI, 2, .inl Sz))] H := hP.sub [5, 0, 1, 2, 3, 4] rfl
              have hD : va_D A [(m0, .inr (5, [.int 2, .ref r1, .ref r2, .ref r3, .ref r4, .ref r5, .int rw, .ref r6, .ref r7, .ref r8, .int gw, .ref r9, .ref r10, .ref r11, .ref r12, .ref r13, .ref r14, .ref r15, .ref r16])), (r1, .inl (cI, 80, .inl K)), (r2, .inl (cI, 80, .inl O)), (r3, .inl (cI, 80, .inl T)), (r4, .inl (cI, 80, .inl Z)), (r5, .inl (cI, 2, .inl Sz))] := hD.sub [5, 0, 1, 2, 3, 4] (by decide) rfl
              rcases hw_75 with ⟨he_75, hv_75⟩ | ⟨he_75, hv_75⟩
              · subst he_75
                refine lv_if_eq (tgt := 83) hx hb de_M_code_78 (by decide) (fun hc => absurd hc (by decide)) (fun _ => ?_)
                refine lv_iconst (v := 0) hx hb de_M_code_81 (by decide) ?_
                exact bc_iret F hr hlocks 2 (Or.inr (Or.inl ⟨(fun z => hc_58 (hR.2.2.1.trans z.2)), (fun z => z.elim (fun z => absurd z.1 (by decide)) (fun z => bc_isn1 (n := 4) (by omega) (bc_gt3 hc_19) z.2.2)), rfl⟩)) hP hD hS de_M_code_82
              · subst he_75
                exact absurd hv_75 (by decide)
            · refine lv_iconst (v := 1) hx hb de_M_code_61 (by decide) ?_
              refine lv_goto (tgt := 75) hx hb de_M_code_62 (by decide) ?_
              refine bc_call_v_i (As := [.int 1]) (rest := []) (wr := [(r1, .inl (cI, 80, .inl K)), (r2, .inl (cI, 80, .inl O)), (r3, .inl (cI, 80, .inl T)), (r4, .inl (cI, 80, .inl Z)), (r5, .inl (cI, 2, .inl Sz))]) F (co_M_refused) wm_478 wm_6 wm_476 wm_477 wm_630 0 rfl rfl pd_M_refused rfl rfl ⟨Nat.le_of_ble_eq_true rfl, Nat.le_of_ble_eq_true rfl⟩ hP hD hS hA [0] [1, 2, 3, 4, 5] rfl rfl rfl rfl (by decide) rfl hl.1 rfl (Nat.le_of_ble_eq_true rfl) de_M_code_75 ⟨Nat.le_of_ble_eq_true rfl, Nat.le_of_ble_eq_true rfl⟩ (fun r_75 u_75 H locs hw_75 hP hD hS => ?_)
              have hP : va_P (dC, dI) classes [(m0, .inr (5, [.int 1, .ref r1, .ref r2, .ref r3, .ref r4, .ref r5, .int rw, .ref r6, .ref r7, .ref r8, .int gw, .ref r9, .ref r10, .ref r11, .ref r12, .ref r13, .ref r14, .ref r15, .ref r16])), (r1, .inl (cI, 80, .inl K)), (r2, .inl (cI, 80, .inl O)), (r3, .inl (cI, 80, .inl T)), (r4, .inl (cI, 80, .inl Z)), (r5, .inl (cI, 2, .inl Sz))] H := hP.sub [5, 0, 1, 2, 3, 4] rfl
              have hD : va_D A [(m0, .inr (5, [.int 1, .ref r1, .ref r2, .ref r3, .ref r4, .ref r5, .int rw, .ref r6, .ref r7, .ref r8, .int gw, .ref r9, .ref r10, .ref r11, .ref r12, .ref r13, .ref r14, .ref r15, .ref r16])), (r1, .inl (cI, 80, .inl K)), (r2, .inl (cI, 80, .inl O)), (r3, .inl (cI, 80, .inl T)), (r4, .inl (cI, 80, .inl Z)), (r5, .inl (cI, 2, .inl Sz))] := hD.sub [5, 0, 1, 2, 3, 4] (by decide) rfl
              rcases hw_75 with ⟨he_75, hv_75⟩ | ⟨he_75, hv_75⟩
              · subst he_75
                refine lv_if_eq (tgt := 83) hx hb de_M_code_78 (by decide) (fun hc => absurd hc (by decide)) (fun _ => ?_)
                refine lv_iconst (v := 0) hx hb de_M_code_81 (by decide) ?_
                exact bc_iret F hr hlocks 1 (Or.inl ⟨rfl, (hR.2.2.1.symm.trans hc_58), rfl⟩) hP hD hS de_M_code_82
              · subst he_75
                exact absurd hv_75 (by decide)
          · by_cases hra : ra = 0
            · refine lv_iload_n hx hb de_M_code_22 rfl (lv_at hl 2 rfl) ?_
              refine lv_aload_n hx hb de_M_code_23 rfl (lv_at hl 0 rfl) ?_
              refine va_get (D := (dC, dI)) (ci := 5) (v := .ref r5) (C := rc_M) (T := fc_M) (N := 19) hx hb htw wi_M hown hK hP 0 rfl rfl 5 (by decide) (htw _ wm_428) (fun _ h9 => h9) rfl de_M_code_24 ?_
              refine lv_iload_n hx hb de_M_code_27 rfl (lv_at hl 1 rfl) ?_
              refine lv_iconst (v := 1) hx hb de_M_code_28 (by decide) ?_
              refine lv_icmp_ne (tgt := 36) hx hb de_M_code_29 (by decide) (fun hc => absurd (by decide) hc) (fun _ => ?_)
              refine lv_iconst (v := 1) hx hb de_M_code_32 (by decide) ?_
              refine lv_goto (tgt := 37) hx hb de_M_code_33 (by decide) ?_
              refine bc_ildE (by decide) (j := 1) hx hb hK hP 5 0 rfl rfl (by omega) (by decide) de_M_code_37 ?_
              refine lv_icmp_ge (tgt := 45) hx hb de_M_code_38 (by decide) (fun hc_38 => ?_) (fun hc_38 => ?_)
              · refine lv_iconst (v := 0) hx hb de_M_code_45 (by decide) ?_
                refine lv_istore (lv' := [(4, .int 0), (0, .ref m0), (1, .int 1), (2, .int y), (3, .int z)]) hx hb de_M_code_46 hl (by decide) rfl (fun ls hl => ?_)
                refine lv_aload_n hx hb de_M_code_48 rfl (lv_at hl 1 rfl) ?_
                refine lv_iload_n hx hb de_M_code_49 rfl (lv_at hl 2 rfl) ?_
                refine lv_iconst (v := 1) hx hb de_M_code_50 (by decide) ?_
                refine lv_icmp_ne (tgt := 65) hx hb de_M_code_51 (by decide) (fun hc => absurd (by decide) hc) (fun _ => ?_)
                refine lv_aload_n hx hb de_M_code_54 rfl (lv_at hl 1 rfl) ?_
                refine va_get (D := (dC, dI)) (ci := 5) (v := .int rw) (C := rc_M) (T := fc_M) (N := 19) hx hb htw wi_M hown hK hP 0 rfl rfl 6 (by decide) (htw _ wm_429) (fun _ h9 => h9) rfl de_M_code_55 ?_
                refine lv_if_ne (tgt := 65) hx hb de_M_code_58 (by decide) (fun hc => absurd (hR.2.2.1.trans hra) hc) (fun _ => ?_)
                refine lv_iconst (v := 1) hx hb de_M_code_61 (by decide) ?_
                refine lv_goto (tgt := 75) hx hb de_M_code_62 (by decide) ?_
                refine bc_call_v_i (As := [.int 1]) (rest := []) (wr := [(r1, .inl (cI, 80, .inl K)), (r2, .inl (cI, 80, .inl O)), (r3, .inl (cI, 80, .inl T)), (r4, .inl (cI, 80, .inl Z)), (r5, .inl (cI, 2, .inl Sz))]) F (co_M_refused) wm_478 wm_6 wm_476 wm_477 wm_630 0 rfl rfl pd_M_refused rfl rfl ⟨Nat.le_of_ble_eq_true rfl, Nat.le_of_ble_eq_true rfl⟩ hP hD hS hA [0] [1, 2, 3, 4, 5] rfl rfl rfl rfl (by decide) rfl hl.1 rfl (Nat.le_of_ble_eq_true rfl) de_M_code_75 ⟨Nat.le_of_ble_eq_true rfl, Nat.le_of_ble_eq_true rfl⟩ (fun r_75 u_75 H locs hw_75 hP hD hS => ?_)
                have hP : va_P (dC, dI) classes [(m0, .inr (5, [.int 1, .ref r1, .ref r2, .ref r3, .ref r4, .ref r5, .int rw, .ref r6, .ref r7, .ref r8, .int gw, .ref r9, .ref r10, .ref r11, .ref r12, .ref r13, .ref r14, .ref r15, .ref r16])), (r1, .inl (cI, 80, .inl K)), (r2, .inl (cI, 80, .inl O)), (r3, .inl (cI, 80, .inl T)), (r4, .inl (cI, 80, .inl Z)), (r5, .inl (cI, 2, .inl Sz))] H := hP.sub [5, 0, 1, 2, 3, 4] rfl
                have hD : va_D A [(m0, .inr (5, [.int 1, .ref r1, .ref r2, .ref r3, .ref r4, .ref r5, .int rw, .ref r6, .ref r7, .ref r8, .int gw, .ref r9, .ref r10, .ref r11, .ref r12, .ref r13, .ref r14, .ref r15, .ref r16])), (r1, .inl (cI, 80, .inl K)), (r2, .inl (cI, 80, .inl O)), (r3, .inl (cI, 80, .inl T)), (r4, .inl (cI, 80, .inl Z)), (r5, .inl (cI, 2, .inl Sz))] := hD.sub [5, 0, 1, 2, 3, 4] (by decide) rfl
                rcases hw_75 with ⟨he_75, hv_75⟩ | ⟨he_75, hv_75⟩
                · subst he_75
                  refine lv_if_eq (tgt := 83) hx hb de_M_code_78 (by decide) (fun hc => absurd hc (by decide)) (fun _ => ?_)
                  refine lv_iconst (v := 0) hx hb de_M_code_81 (by decide) ?_
                  exact bc_iret F hr hlocks 1 (Or.inl ⟨rfl, hra, rfl⟩) hP hD hS de_M_code_82
                · subst he_75
                  exact absurd hv_75 (by decide)
              · refine lv_iconst (v := 1) hx hb de_M_code_41 (by decide) ?_
                refine lv_goto (tgt := 46) hx hb de_M_code_42 (by decide) ?_
                refine lv_istore (lv' := [(4, .int 1), (0, .ref m0), (1, .int 1), (2, .int y), (3, .int z)]) hx hb de_M_code_46 hl (by decide) rfl (fun ls hl => ?_)
                refine lv_aload_n hx hb de_M_code_48 rfl (lv_at hl 1 rfl) ?_
                refine lv_iload_n hx hb de_M_code_49 rfl (lv_at hl 2 rfl) ?_
                refine lv_iconst (v := 1) hx hb de_M_code_50 (by decide) ?_
                refine lv_icmp_ne (tgt := 65) hx hb de_M_code_51 (by decide) (fun hc => absurd (by decide) hc) (fun _ => ?_)
                refine lv_aload_n hx hb de_M_code_54 rfl (lv_at hl 1 rfl) ?_
                refine va_get (D := (dC, dI)) (ci := 5) (v := .int rw) (C := rc_M) (T := fc_M) (N := 19) hx hb htw wi_M hown hK hP 0 rfl rfl 6 (by decide) (htw _ wm_429) (fun _ h9 => h9) rfl de_M_code_55 ?_
                refine lv_if_ne (tgt := 65) hx hb de_M_code_58 (by decide) (fun hc => absurd (hR.2.2.1.trans hra) hc) (fun _ => ?_)
                refine lv_iconst (v := 1) hx hb de_M_code_61 (by decide) ?_
                refine lv_goto (tgt := 75) hx hb de_M_code_62 (by decide) ?_
                refine bc_call_v_i (As := [.int 1]) (rest := []) (wr := [(r1, .inl (cI, 80, .inl K)), (r2, .inl (cI, 80, .inl O)), (r3, .inl (cI, 80, .inl T)), (r4, .inl (cI, 80, .inl Z)), (r5, .inl (cI, 2, .inl Sz))]) F (co_M_refused) wm_478 wm_6 wm_476 wm_477 wm_630 0 rfl rfl pd_M_refused rfl rfl ⟨Nat.le_of_ble_eq_true rfl, Nat.le_of_ble_eq_true rfl⟩ hP hD hS hA [0] [1, 2, 3, 4, 5] rfl rfl rfl rfl (by decide) rfl hl.1 rfl (Nat.le_of_ble_eq_true rfl) de_M_code_75 ⟨Nat.le_of_ble_eq_true rfl, Nat.le_of_ble_eq_true rfl⟩ (fun r_75 u_75 H locs hw_75 hP hD hS => ?_)
                have hP : va_P (dC, dI) classes [(m0, .inr (5, [.int 1, .ref r1, .ref r2, .ref r3, .ref r4, .ref r5, .int rw, .ref r6, .ref r7, .ref r8, .int gw, .ref r9, .ref r10, .ref r11, .ref r12, .ref r13, .ref r14, .ref r15, .ref r16])), (r1, .inl (cI, 80, .inl K)), (r2, .inl (cI, 80, .inl O)), (r3, .inl (cI, 80, .inl T)), (r4, .inl (cI, 80, .inl Z)), (r5, .inl (cI, 2, .inl Sz))] H := hP.sub [5, 0, 1, 2, 3, 4] rfl
                have hD : va_D A [(m0, .inr (5, [.int 1, .ref r1, .ref r2, .ref r3, .ref r4, .ref r5, .int rw, .ref r6, .ref r7, .ref r8, .int gw, .ref r9, .ref r10, .ref r11, .ref r12, .ref r13, .ref r14, .ref r15, .ref r16])), (r1, .inl (cI, 80, .inl K)), (r2, .inl (cI, 80, .inl O)), (r3, .inl (cI, 80, .inl T)), (r4, .inl (cI, 80, .inl Z)), (r5, .inl (cI, 2, .inl Sz))] := hD.sub [5, 0, 1, 2, 3, 4] (by decide) rfl
                rcases hw_75 with ⟨he_75, hv_75⟩ | ⟨he_75, hv_75⟩
                · subst he_75
                  refine lv_if_eq (tgt := 83) hx hb de_M_code_78 (by decide) (fun hc => absurd hc (by decide)) (fun _ => ?_)
                  refine lv_iconst (v := 0) hx hb de_M_code_81 (by decide) ?_
                  exact bc_iret F hr hlocks 1 (Or.inl ⟨rfl, hra, rfl⟩) hP hD hS de_M_code_82
                · subst he_75
                  exact absurd hv_75 (by decide)
            · have hS1 : Sz 1 = nI n2 := (hR.2.2.2.1 hra).1
              have hn2 : n2 ≤ 40 := (hAB.2.2.2.1 hra).1
              refine lv_iload_n hx hb de_M_code_22 rfl (lv_at hl 2 rfl) ?_
              refine lv_aload_n hx hb de_M_code_23 rfl (lv_at hl 0 rfl) ?_
              refine va_get (D := (dC, dI)) (ci := 5) (v := .ref r5) (C := rc_M) (T := fc_M) (N := 19) hx hb htw wi_M hown hK hP 0 rfl rfl 5 (by decide) (htw _ wm_428) (fun _ h9 => h9) rfl de_M_code_24 ?_
              refine lv_iload_n hx hb de_M_code_27 rfl (lv_at hl 1 rfl) ?_
              refine lv_iconst (v := 1) hx hb de_M_code_28 (by decide) ?_
              refine lv_icmp_ne (tgt := 36) hx hb de_M_code_29 (by decide) (fun hc => absurd (by decide) hc) (fun _ => ?_)
              refine lv_iconst (v := 1) hx hb de_M_code_32 (by decide) ?_
              refine lv_goto (tgt := 37) hx hb de_M_code_33 (by decide) ?_
              refine bc_ildE (by decide) (j := 1) hx hb hK hP 5 0 rfl rfl (by omega) (by decide) de_M_code_37 ?_
              refine bc_ti (y := nI n2) hS1 ?_
              refine lv_icmp_ge (tgt := 45) hx hb de_M_code_38 (by decide) (fun hc_38 => ?_) (fun hc_38 => ?_)
              · refine lv_iconst (v := 0) hx hb de_M_code_45 (by decide) ?_
                refine lv_istore (lv' := [(4, .int 0), (0, .ref m0), (1, .int 1), (2, .int y), (3, .int z)]) hx hb de_M_code_46 hl (by decide) rfl (fun ls hl => ?_)
                refine lv_aload_n hx hb de_M_code_48 rfl (lv_at hl 1 rfl) ?_
                refine lv_iload_n hx hb de_M_code_49 rfl (lv_at hl 2 rfl) ?_
                refine lv_iconst (v := 1) hx hb de_M_code_50 (by decide) ?_
                refine lv_icmp_ne (tgt := 65) hx hb de_M_code_51 (by decide) (fun hc => absurd (by decide) hc) (fun _ => ?_)
                refine lv_aload_n hx hb de_M_code_54 rfl (lv_at hl 1 rfl) ?_
                refine va_get (D := (dC, dI)) (ci := 5) (v := .int rw) (C := rc_M) (T := fc_M) (N := 19) hx hb htw wi_M hown hK hP 0 rfl rfl 6 (by decide) (htw _ wm_429) (fun _ h9 => h9) rfl de_M_code_55 ?_
                refine lv_if_ne (tgt := 65) hx hb de_M_code_58 (by decide) (fun _ => ?_) (fun hc => absurd hc (fun z => hra (hR.2.2.1.symm.trans z)))
                refine lv_iload hx hb de_M_code_65 (lv_at hl 0 rfl) ?_
                refine lv_if_ne (tgt := 74) hx hb de_M_code_67 (by decide) (fun hc => absurd (by decide) hc) (fun _ => ?_)
                refine lv_iconst (v := 2) hx hb de_M_code_70 (by decide) ?_
                refine lv_goto (tgt := 75) hx hb de_M_code_71 (by decide) ?_
                refine bc_call_v_i (As := [.int 2]) (rest := []) (wr := [(r1, .inl (cI, 80, .inl K)), (r2, .inl (cI, 80, .inl O)), (r3, .inl (cI, 80, .inl T)), (r4, .inl (cI, 80, .inl Z)), (r5, .inl (cI, 2, .inl Sz))]) F (co_M_refused) wm_478 wm_6 wm_476 wm_477 wm_630 0 rfl rfl pd_M_refused rfl rfl ⟨Nat.le_of_ble_eq_true rfl, Nat.le_of_ble_eq_true rfl⟩ hP hD hS hA [0] [1, 2, 3, 4, 5] rfl rfl rfl rfl (by decide) rfl hl.1 rfl (Nat.le_of_ble_eq_true rfl) de_M_code_75 ⟨Nat.le_of_ble_eq_true rfl, Nat.le_of_ble_eq_true rfl⟩ (fun r_75 u_75 H locs hw_75 hP hD hS => ?_)
                have hP : va_P (dC, dI) classes [(m0, .inr (5, [.int 2, .ref r1, .ref r2, .ref r3, .ref r4, .ref r5, .int rw, .ref r6, .ref r7, .ref r8, .int gw, .ref r9, .ref r10, .ref r11, .ref r12, .ref r13, .ref r14, .ref r15, .ref r16])), (r1, .inl (cI, 80, .inl K)), (r2, .inl (cI, 80, .inl O)), (r3, .inl (cI, 80, .inl T)), (r4, .inl (cI, 80, .inl Z)), (r5, .inl (cI, 2, .inl Sz))] H := hP.sub [5, 0, 1, 2, 3, 4] rfl
                have hD : va_D A [(m0, .inr (5, [.int 2, .ref r1, .ref r2, .ref r3, .ref r4, .ref r5, .int rw, .ref r6, .ref r7, .ref r8, .int gw, .ref r9, .ref r10, .ref r11, .ref r12, .ref r13, .ref r14, .ref r15, .ref r16])), (r1, .inl (cI, 80, .inl K)), (r2, .inl (cI, 80, .inl O)), (r3, .inl (cI, 80, .inl T)), (r4, .inl (cI, 80, .inl Z)), (r5, .inl (cI, 2, .inl Sz))] := hD.sub [5, 0, 1, 2, 3, 4] (by decide) rfl
                rcases hw_75 with ⟨he_75, hv_75⟩ | ⟨he_75, hv_75⟩
                · subst he_75
                  refine lv_if_eq (tgt := 83) hx hb de_M_code_78 (by decide) (fun hc => absurd hc (by decide)) (fun _ => ?_)
                  refine lv_iconst (v := 0) hx hb de_M_code_81 (by decide) ?_
                  exact bc_iret F hr hlocks 2 (Or.inr (Or.inl ⟨(fun z => hra z.2), (fun z => z.elim (fun z => absurd z.1 (by decide)) (fun z => bc_isn1 (n := n2) (by omega) hc_38 z.2.1)), rfl⟩)) hP hD hS de_M_code_82
                · subst he_75
                  exact absurd hv_75 (by decide)
              · obtain ⟨j, hj, ej⟩ := bc_isn (n := n2) (by omega) hc_10 hc_38
                subst ej
                refine lv_iconst (v := 1) hx hb de_M_code_41 (by decide) ?_
                refine lv_goto (tgt := 46) hx hb de_M_code_42 (by decide) ?_
                refine lv_istore (lv' := [(4, .int 1), (0, .ref m0), (1, .int 1), (2, .int (nI j)), (3, .int z)]) hx hb de_M_code_46 hl (by decide) rfl (fun ls hl => ?_)
                refine lv_aload_n hx hb de_M_code_48 rfl (lv_at hl 1 rfl) ?_
                refine lv_iload_n hx hb de_M_code_49 rfl (lv_at hl 2 rfl) ?_
                refine lv_iconst (v := 1) hx hb de_M_code_50 (by decide) ?_
                refine lv_icmp_ne (tgt := 65) hx hb de_M_code_51 (by decide) (fun hc => absurd (by decide) hc) (fun _ => ?_)
                refine lv_aload_n hx hb de_M_code_54 rfl (lv_at hl 1 rfl) ?_
                refine va_get (D := (dC, dI)) (ci := 5) (v := .int rw) (C := rc_M) (T := fc_M) (N := 19) hx hb htw wi_M hown hK hP 0 rfl rfl 6 (by decide) (htw _ wm_429) (fun _ h9 => h9) rfl de_M_code_55 ?_
                refine lv_if_ne (tgt := 65) hx hb de_M_code_58 (by decide) (fun _ => ?_) (fun hc => absurd hc (fun z => hra (hR.2.2.1.symm.trans z)))
                refine lv_iload hx hb de_M_code_65 (lv_at hl 0 rfl) ?_
                refine lv_if_ne (tgt := 74) hx hb de_M_code_67 (by decide) (fun _ => ?_) (fun hc => absurd hc (by decide))
                refine lv_iconst (v := 0) hx hb de_M_code_74 (by decide) ?_
                refine bc_call_v_i (As := [.int 0]) (rest := []) (wr := [(r1, .inl (cI, 80, .inl K)), (r2, .inl (cI, 80, .inl O)), (r3, .inl (cI, 80, .inl T)), (r4, .inl (cI, 80, .inl Z)), (r5, .inl (cI, 2, .inl Sz))]) F (co_M_refused) wm_478 wm_6 wm_476 wm_477 wm_630 0 rfl rfl pd_M_refused rfl rfl ⟨Nat.le_of_ble_eq_true rfl, Nat.le_of_ble_eq_true rfl⟩ hP hD hS hA [0] [1, 2, 3, 4, 5] rfl rfl rfl rfl (by decide) rfl hl.1 rfl (Nat.le_of_ble_eq_true rfl) de_M_code_75 ⟨Nat.le_of_ble_eq_true rfl, Nat.le_of_ble_eq_true rfl⟩ (fun r_75 u_75 H locs hw_75 hP hD hS => ?_)
                have hP : va_P (dC, dI) classes [(m0, .inr (5, [.int 0, .ref r1, .ref r2, .ref r3, .ref r4, .ref r5, .int rw, .ref r6, .ref r7, .ref r8, .int gw, .ref r9, .ref r10, .ref r11, .ref r12, .ref r13, .ref r14, .ref r15, .ref r16])), (r1, .inl (cI, 80, .inl K)), (r2, .inl (cI, 80, .inl O)), (r3, .inl (cI, 80, .inl T)), (r4, .inl (cI, 80, .inl Z)), (r5, .inl (cI, 2, .inl Sz))] H := hP.sub [5, 0, 1, 2, 3, 4] rfl
                have hD : va_D A [(m0, .inr (5, [.int 0, .ref r1, .ref r2, .ref r3, .ref r4, .ref r5, .int rw, .ref r6, .ref r7, .ref r8, .int gw, .ref r9, .ref r10, .ref r11, .ref r12, .ref r13, .ref r14, .ref r15, .ref r16])), (r1, .inl (cI, 80, .inl K)), (r2, .inl (cI, 80, .inl O)), (r3, .inl (cI, 80, .inl T)), (r4, .inl (cI, 80, .inl Z)), (r5, .inl (cI, 2, .inl Sz))] := hD.sub [5, 0, 1, 2, 3, 4] (by decide) rfl
                rcases hw_75 with ⟨he_75, hv_75⟩ | ⟨he_75, hv_75⟩
                · subst he_75
                  exact absurd (by decide) hv_75
                · subst he_75
                  refine lv_if_eq (tgt := 83) hx hb de_M_code_78 (by decide) (fun _ => ?_) (fun hc => absurd (by decide) hc)
                  refine lv_bipush (v := 40) hx hb de_M_code_83 (by decide) ?_
                  refine lv_iload_n hx hb de_M_code_85 rfl (lv_at hl 2 rfl) ?_
                  refine lv_imul hx hb de_M_code_86 ?_
                  refine bc_ti (y := nI (40 * 1)) (pk_mul 40 1) ?_
                  refine lv_iload_n hx hb de_M_code_87 rfl (lv_at hl 3 rfl) ?_
                  refine lv_iadd hx hb de_M_code_88 ?_
                  refine bc_ti (y := nI ((40 * 1) + j)) (nI_add (40 * 1) j) ?_
                  refine lv_istore (lv' := [(5, .int (nI ((40 * 1) + j))), (4, .int 1), (0, .ref m0), (1, .int 1), (2, .int (nI j)), (3, .int z)]) hx hb de_M_code_89 hl (by decide) rfl (fun ls hl => ?_)
                  refine lv_iload_n hx hb de_M_code_91 rfl (lv_at hl 5 rfl) ?_
                  refine lv_if_ne (tgt := 105) hx hb de_M_code_92 (by decide) (fun hc_92 => ?_) (fun hc_92 => ?_)
                  · refine lv_iload_n hx hb de_M_code_105 rfl (lv_at hl 5 rfl) ?_
                    refine lv_iconst (v := 1) hx hb de_M_code_106 (by decide) ?_
                    refine lv_icmp_ne (tgt := 120) hx hb de_M_code_107 (by decide) (fun hc_107 => ?_) (fun hc_107 => ?_)
                    · refine lv_iload_n hx hb de_M_code_120 rfl (lv_at hl 5 rfl) ?_
                      refine lv_iconst (v := 2) hx hb de_M_code_121 (by decide) ?_
                      refine lv_icmp_ne (tgt := 135) hx hb de_M_code_122 (by decide) (fun hc_122 => ?_) (fun hc_122 => ?_)
                      · refine lv_aload_n hx hb de_M_code_135 rfl (lv_at hl 2 rfl) ?_
                        refine va_get (D := (dC, dI)) (ci := 5) (v := .ref r4) (C := rc_M) (T := fc_M) (N := 19) hx hb htw wi_M hown hK hP 0 rfl rfl 4 (by decide) (htw _ wm_427) (fun _ h9 => h9) rfl de_M_code_136 ?_
                        refine lv_iload hx hb de_M_code_139 (lv_at hl 0 rfl) ?_
                        refine bc_ild (j := (40 * 1) + j) hx hb hK hP 4 0 rfl rfl (by omega) (by decide) de_M_code_141 ?_
                        exact bc_iret F hr hlocks 0 (Or.inr (Or.inr ⟨rfl, Or.inr ⟨rfl, hra, ⟨j, hj, rfl, 3, by omega, (bc_z3 hc_14 hc_19 hc_92 hc_107 hc_122), ((hR.2.2.2.1 hra).2 j hj).2.2.2⟩⟩⟩)) hP hD hS de_M_code_142
                      · refine lv_aload_n hx hb de_M_code_125 rfl (lv_at hl 2 rfl) ?_
                        refine va_get (D := (dC, dI)) (ci := 5) (v := .ref r3) (C := rc_M) (T := fc_M) (N := 19) hx hb htw wi_M hown hK hP 0 rfl rfl 3 (by decide) (htw _ wm_426) (fun _ h9 => h9) rfl de_M_code_126 ?_
                        refine lv_iload hx hb de_M_code_129 (lv_at hl 0 rfl) ?_
                        refine bc_ild (j := (40 * 1) + j) hx hb hK hP 3 0 rfl rfl (by omega) (by decide) de_M_code_131 ?_
                        refine lv_goto (tgt := 142) hx hb de_M_code_132 (by decide) ?_
                        exact bc_iret F hr hlocks 0 (Or.inr (Or.inr ⟨rfl, Or.inr ⟨rfl, hra, ⟨j, hj, rfl, 2, by omega, hc_122, ((hR.2.2.2.1 hra).2 j hj).2.2.1⟩⟩⟩)) hP hD hS de_M_code_142
                    · refine lv_aload_n hx hb de_M_code_110 rfl (lv_at hl 2 rfl) ?_
                      refine va_get (D := (dC, dI)) (ci := 5) (v := .ref r2) (C := rc_M) (T := fc_M) (N := 19) hx hb htw wi_M hown hK hP 0 rfl rfl 2 (by decide) (htw _ wm_425) (fun _ h9 => h9) rfl de_M_code_111 ?_
                      refine lv_iload hx hb de_M_code_114 (lv_at hl 0 rfl) ?_
                      refine bc_ild (j := (40 * 1) + j) hx hb hK hP 2 0 rfl rfl (by omega) (by decide) de_M_code_116 ?_
                      refine lv_goto (tgt := 142) hx hb de_M_code_117 (by decide) ?_
                      exact bc_iret F hr hlocks 0 (Or.inr (Or.inr ⟨rfl, Or.inr ⟨rfl, hra, ⟨j, hj, rfl, 1, by omega, hc_107, ((hR.2.2.2.1 hra).2 j hj).2.1⟩⟩⟩)) hP hD hS de_M_code_142
                  · refine lv_aload_n hx hb de_M_code_95 rfl (lv_at hl 2 rfl) ?_
                    refine va_get (D := (dC, dI)) (ci := 5) (v := .ref r1) (C := rc_M) (T := fc_M) (N := 19) hx hb htw wi_M hown hK hP 0 rfl rfl 1 (by decide) (htw _ wm_424) (fun _ h9 => h9) rfl de_M_code_96 ?_
                    refine lv_iload hx hb de_M_code_99 (lv_at hl 0 rfl) ?_
                    refine bc_ild (j := (40 * 1) + j) hx hb hK hP 1 0 rfl rfl (by omega) (by decide) de_M_code_101 ?_
                    refine lv_goto (tgt := 142) hx hb de_M_code_102 (by decide) ?_
                    exact bc_iret F hr hlocks 0 (Or.inr (Or.inr ⟨rfl, Or.inr ⟨rfl, hra, ⟨j, hj, rfl, 0, by omega, hc_92, ((hR.2.2.2.1 hra).2 j hj).1⟩⟩⟩)) hP hD hS de_M_code_142

set_option maxHeartbeats 4000000 in
set_option maxRecDepth 100000 in
/-- start -/
theorem co_M_start {l : Launch} {dC : Nat → ClassId} {dI : Nat → Nat → Nat} {cI cZ : ClassId} {sz : Nat} {m0 r1 r2 r3 r4 r5 r6 r7 r8 r9 r10 r11 r12 r13 r14 r15 r16 : Nat} {K O T Z Sz On Pl Sp Vr : bc_F} {fa rw gw : Int32} {n n2 : Nat} {P Q X : Nat → bc_F} {ON PL SP : bc_F} {ra : Int32} (hAB : bc_AB n P ra n2 Q ON PL SP) (hR : bc_MR n P ra n2 Q ON PL SP X K O T Z Sz On Pl Sp Vr rw) {x a1 b1 c1 d1 : Int32} : Met l yn_M_start (Cond.code yn_M_start by_M_start 6 none :: wd_all) ({ frames := 1, cells := 0, slots := 0, locals := 21 } : Room) (bc_Pre (dC, dI) classes [(cI, .int), (cZ, .boolean)] [.ref m0, .int x, .int a1, .int b1, .int c1, .int d1] [(m0, .inr (5, [.int fa, .ref r1, .ref r2, .ref r3, .ref r4, .ref r5, .int rw, .ref r6, .ref r7, .ref r8, .int gw, .ref r9, .ref r10, .ref r11, .ref r12, .ref r13, .ref r14, .ref r15, .ref r16])), (r5, .inl (cI, 2, .inl Sz)), (r13, .inl (cZ, 2, .inl On)), (r14, .inl (cI, 2, .inl Pl)), (r15, .inl (cI, 2, .inl Sp)), (r16, .inl (cI, 12, .inl Vr))] sz) (va_Qv (fun (u : Int32 × bc_F × bc_F × bc_F × bc_F) => (¬ bc_sd x ∧ u.1 = 1 ∧ bc_MR n P ra n2 Q ON PL SP X K O T Z Sz u.2.1 u.2.2.1 u.2.2.2.1 u.2.2.2.2 rw) ∨ (x = 1 ∧ ra = 0 ∧ u.1 = 2 ∧ bc_MR n P ra n2 Q ON PL SP X K O T Z Sz u.2.1 u.2.2.1 u.2.2.2.1 u.2.2.2.2 rw) ∨ (∃ y : Nat, y < 2 ∧ x = nI y ∧ (y = 1 → ra ≠ 0) ∧ u.1 = 0 ∧ ∀ X1 : bc_F, (X1 0 = a1 ∧ X1 1 = b1 ∧ X1 2 = c1 ∧ X1 3 = d1 ∧ X1 4 = 0 ∧ X1 5 = 0) → bc_MR n P ra n2 Q (upd ON y 1) (upd PL y (bc_pl (bc_nn n n2 y) 0)) (upd SP y 0) (fun w => if w = y then X1 else X w) K O T Z Sz u.2.1 u.2.2.1 u.2.2.2.1 u.2.2.2.2 rw)) (fun (u : Int32 × bc_F × bc_F × bc_F × bc_F) t => bc_B (dC, dI) classes [(cI, .int), (cZ, .boolean)] (va_A [(m0, .inr (5, [.int fa, .ref r1, .ref r2, .ref r3, .ref r4, .ref r5, .int rw, .ref r6, .ref r7, .ref r8, .int gw, .ref r9, .ref r10, .ref r11, .ref r12, .ref r13, .ref r14, .ref r15, .ref r16])), (r5, .inl (cI, 2, .inl Sz)), (r13, .inl (cZ, 2, .inl On)), (r14, .inl (cI, 2, .inl Pl)), (r15, .inl (cI, 2, .inl Sp)), (r16, .inl (cI, 12, .inl Vr))] sz) [(m0, .inr (5, [.int u.1, .ref r1, .ref r2, .ref r3, .ref r4, .ref r5, .int rw, .ref r6, .ref r7, .ref r8, .int gw, .ref r9, .ref r10, .ref r11, .ref r12, .ref r13, .ref r14, .ref r15, .ref r16])), (r5, .inl (cI, 2, .inl Sz)), (r13, .inl (cZ, 2, .inl u.2.1)), (r14, .inl (cI, 2, .inl u.2.2.1)), (r15, .inl (cI, 2, .inl u.2.2.2.1)), (r16, .inl (cI, 12, .inl u.2.2.2.2))] t) ((va_A [(m0, .inr (5, [.int fa, .ref r1, .ref r2, .ref r3, .ref r4, .ref r5, .int rw, .ref r6, .ref r7, .ref r8, .int gw, .ref r9, .ref r10, .ref r11, .ref r12, .ref r13, .ref r14, .ref r15, .ref r16])), (r5, .inl (cI, 2, .inl Sz)), (r13, .inl (cZ, 2, .inl On)), (r14, .inl (cI, 2, .inl Pl)), (r15, .inl (cI, 2, .inl Sp)), (r16, .inl (cI, 12, .inl Vr))] sz))) 0 0 (va_A [(m0, .inr (5, [.int fa, .ref r1, .ref r2, .ref r3, .ref r4, .ref r5, .int rw, .ref r6, .ref r7, .ref r8, .int gw, .ref r9, .ref r10, .ref r11, .ref r12, .ref r13, .ref r14, .ref r15, .ref r16])), (r5, .inl (cI, 2, .inl Sz)), (r13, .inl (cZ, 2, .inl On)), (r14, .inl (cI, 2, .inl Pl)), (r15, .inl (cI, 2, .inl Sp)), (r16, .inl (cI, 12, .inl Vr))] sz) := by
  refine bc_met (fun A => va_Qv (fun (u : Int32 × bc_F × bc_F × bc_F × bc_F) => (¬ bc_sd x ∧ u.1 = 1 ∧ bc_MR n P ra n2 Q ON PL SP X K O T Z Sz u.2.1 u.2.2.1 u.2.2.2.1 u.2.2.2.2 rw) ∨ (x = 1 ∧ ra = 0 ∧ u.1 = 2 ∧ bc_MR n P ra n2 Q ON PL SP X K O T Z Sz u.2.1 u.2.2.1 u.2.2.2.1 u.2.2.2.2 rw) ∨ (∃ y : Nat, y < 2 ∧ x = nI y ∧ (y = 1 → ra ≠ 0) ∧ u.1 = 0 ∧ ∀ X1 : bc_F, (X1 0 = a1 ∧ X1 1 = b1 ∧ X1 2 = c1 ∧ X1 3 = d1 ∧ X1 4 = 0 ∧ X1 5 = 0) → bc_MR n P ra n2 Q (upd ON y 1) (upd PL y (bc_pl (bc_nn n n2 y) 0)) (upd SP y 0) (fun w => if w = y then X1 else X w) K O T Z Sz u.2.1 u.2.2.1 u.2.2.2.1 u.2.2.2.2 rw)) (fun (u : Int32 × bc_F × bc_F × bc_F × bc_F) t => bc_B (dC, dI) classes [(cI, .int), (cZ, .boolean)] A [(m0, .inr (5, [.int u.1, .ref r1, .ref r2, .ref r3, .ref r4, .ref r5, .int rw, .ref r6, .ref r7, .ref r8, .int gw, .ref r9, .ref r10, .ref r11, .ref r12, .ref r13, .ref r14, .ref r15, .ref r16])), (r5, .inl (cI, 2, .inl Sz)), (r13, .inl (cZ, 2, .inl u.2.1)), (r14, .inl (cI, 2, .inl u.2.2.1)), (r15, .inl (cI, 2, .inl u.2.2.2.1)), (r16, .inl (cI, 12, .inl u.2.2.2.2))] t) A) (by decide) (Nat.le_of_ble_eq_true rfl) ?_
  intro p e s m args below meth c A ls F hr hlocks hin hA hP hD hl hS
  have hx := F.1
  have hb := F.2.1
  have hml := F.2.2.1
  have hown : s.vm.findClass "BranchConstantsModel" = some m.cls := F.2.2.2.1
  have htw := F.2.2.2.2.1
  have hN := F.2.2.2.2.2.1
  have hK := F.2.2.2.2.2.2
  have hl : lv_has ls 6 [(0, .ref m0), (1, .int x), (2, .int a1), (3, .int b1), (4, .int c1), (5, .int d1)] := hl
  have hn := hAB.1
  have hSz := hR.1
  refine lv_aload_n hx hb de_M_start_0 rfl (lv_at hl 0 rfl) ?_
  refine lv_iload_n hx hb de_M_start_1 rfl (lv_at hl 1 rfl) ?_
  refine bc_call_s_i (As := [.int x]) (rest := [.ref m0]) (wr := [(m0, .inr (5, [.int fa, .ref r1, .ref r2, .ref r3, .ref r4, .ref r5, .int rw, .ref r6, .ref r7, .ref r8, .int gw, .ref r9, .ref r10, .ref r11, .ref r12, .ref r13, .ref r14, .ref r15, .ref r16])), (r5, .inl (cI, 2, .inl Sz)), (r13, .inl (cZ, 2, .inl On)), (r14, .inl (cI, 2, .inl Pl)), (r15, .inl (cI, 2, .inl Sp)), (r16, .inl (cI, 12, .inl Vr))]) F (co_M_isSide) wm_565 wm_6 wm_563 wm_564 pd_M_isSide rfl rfl ⟨Nat.le_of_ble_eq_true rfl, Nat.le_of_ble_eq_true rfl⟩ hP hD hS hA [] [0, 1, 2, 3, 4, 5] rfl rfl rfl rfl (by decide) rfl hl.1 rfl (Nat.le_of_ble_eq_true rfl) de_M_start_2 ⟨Nat.le_of_ble_eq_true rfl, Nat.le_of_ble_eq_true rfl⟩ (fun r_2 u_2 H locs hw_2 hP hD hS => ?_)
  have hP : va_P (dC, dI) classes [(m0, .inr (5, [.int fa, .ref r1, .ref r2, .ref r3, .ref r4, .ref r5, .int rw, .ref r6, .ref r7, .ref r8, .int gw, .ref r9, .ref r10, .ref r11, .ref r12, .ref r13, .ref r14, .ref r15, .ref r16])), (r5, .inl (cI, 2, .inl Sz)), (r13, .inl (cZ, 2, .inl On)), (r14, .inl (cI, 2, .inl Pl)), (r15, .inl (cI, 2, .inl Sp)), (r16, .inl (cI, 12, .inl Vr))] H := hP.sub [0, 1, 2, 3, 4, 5] rfl
  have hD : va_D A [(m0, .inr (5, [.int fa, .ref r1, .ref r2, .ref r3, .ref r4, .ref r5, .int rw, .ref r6, .ref r7, .ref r8, .int gw, .ref r9, .ref r10, .ref r11, .ref r12, .ref r13, .ref r14, .ref r15, .ref r16])), (r5, .inl (cI, 2, .inl Sz)), (r13, .inl (cZ, 2, .inl On)), (r14, .inl (cI, 2, .inl Pl)), (r15, .inl (cI, 2, .inl Sp)), (r16, .inl (cI, 12, .inl Vr))] := hD.sub [0, 1, 2, 3, 4, 5] (by decide) rfl
  rcases hw_2 with ⟨he_2, hv_2⟩ | ⟨he_2, hv_2⟩
  · subst he_2
    refine lv_if_ne (tgt := 12) hx hb de_M_start_5 (by decide) (fun _ => ?_) (fun hc => absurd hc (by decide))
    obtain ⟨y, hy, ey⟩ := bc_side hv_2
    subst ey
    refine lv_iload_n hx hb de_M_start_12 rfl (lv_at hl 1 rfl) ?_
    refine lv_iconst (v := 1) hx hb de_M_start_13 (by decide) ?_
    refine lv_icmp_ne (tgt := 28) hx hb de_M_start_14 (by decide) (fun hc_14 => ?_) (fun hc_14 => ?_)
    · refine lv_iconst (v := 0) hx hb de_M_start_28 (by decide) ?_
      refine bc_call_v_i (As := [.int 0]) (rest := []) (wr := [(r5, .inl (cI, 2, .inl Sz)), (r13, .inl (cZ, 2, .inl On)), (r14, .inl (cI, 2, .inl Pl)), (r15, .inl (cI, 2, .inl Sp)), (r16, .inl (cI, 12, .inl Vr))]) F (co_M_refused) wm_478 wm_6 wm_476 wm_477 wm_630 0 rfl rfl pd_M_refused rfl rfl ⟨Nat.le_of_ble_eq_true rfl, Nat.le_of_ble_eq_true rfl⟩ hP hD hS hA [0] [1, 2, 3, 4, 5] rfl rfl rfl rfl (by decide) rfl hl.1 rfl (Nat.le_of_ble_eq_true rfl) de_M_start_29 ⟨Nat.le_of_ble_eq_true rfl, Nat.le_of_ble_eq_true rfl⟩ (fun r_29 u_29 H locs hw_29 hP hD hS => ?_)
      have hP : va_P (dC, dI) classes [(m0, .inr (5, [.int 0, .ref r1, .ref r2, .ref r3, .ref r4, .ref r5, .int rw, .ref r6, .ref r7, .ref r8, .int gw, .ref r9, .ref r10, .ref r11, .ref r12, .ref r13, .ref r14, .ref r15, .ref r16])), (r5, .inl (cI, 2, .inl Sz)), (r13, .inl (cZ, 2, .inl On)), (r14, .inl (cI, 2, .inl Pl)), (r15, .inl (cI, 2, .inl Sp)), (r16, .inl (cI, 12, .inl Vr))] H := hP.sub [5, 0, 1, 2, 3, 4] rfl
      have hD : va_D A [(m0, .inr (5, [.int 0, .ref r1, .ref r2, .ref r3, .ref r4, .ref r5, .int rw, .ref r6, .ref r7, .ref r8, .int gw, .ref r9, .ref r10, .ref r11, .ref r12, .ref r13, .ref r14, .ref r15, .ref r16])), (r5, .inl (cI, 2, .inl Sz)), (r13, .inl (cZ, 2, .inl On)), (r14, .inl (cI, 2, .inl Pl)), (r15, .inl (cI, 2, .inl Sp)), (r16, .inl (cI, 12, .inl Vr))] := hD.sub [5, 0, 1, 2, 3, 4] (by decide) rfl
      rcases hw_29 with ⟨he_29, hv_29⟩ | ⟨he_29, hv_29⟩
      · subst he_29
        exact absurd (by decide) hv_29
      · subst he_29
        refine lv_if_eq (tgt := 36) hx hb de_M_start_32 (by decide) (fun _ => ?_) (fun hc => absurd (by decide) hc)
        have hy1 : y = 1 → ra ≠ 0 := fun z => absurd (by rw [z]; rfl) hc_14
        have hSy := (bc_Sy hR hy hy1).1
        have hnn := (bc_nn_le hAB hy hy1).1
        refine lv_aload_n hx hb de_M_start_36 rfl (lv_at hl 0 rfl) ?_
        refine va_get (D := (dC, dI)) (ci := 5) (v := .ref r13) (C := rc_M) (T := fc_M) (N := 19) hx hb htw wi_M hown hK hP 0 rfl rfl 15 (by decide) (htw _ wm_438) (fun _ h9 => h9) rfl de_M_start_37 ?_
        refine lv_iload_n hx hb de_M_start_40 rfl (lv_at hl 1 rfl) ?_
        refine lv_iconst (v := 1) hx hb de_M_start_41 (by decide) ?_
        refine bc_zst (j := y) hx hb hK hP hD hS 2 1 rfl rfl (by decide) (by omega) (by decide) de_M_start_42 (fun H locs hP hD hS => ?_)
        have hP : va_P (dC, dI) classes [(m0, .inr (5, [.int 0, .ref r1, .ref r2, .ref r3, .ref r4, .ref r5, .int rw, .ref r6, .ref r7, .ref r8, .int gw, .ref r9, .ref r10, .ref r11, .ref r12, .ref r13, .ref r14, .ref r15, .ref r16])), (r5, .inl (cI, 2, .inl Sz)), (r13, .inl (cZ, 2, .inl (upd On y 1))), (r14, .inl (cI, 2, .inl Pl)), (r15, .inl (cI, 2, .inl Sp)), (r16, .inl (cI, 12, .inl Vr))] H := hP
        have hD : va_D A [(m0, .inr (5, [.int 0, .ref r1, .ref r2, .ref r3, .ref r4, .ref r5, .int rw, .ref r6, .ref r7, .ref r8, .int gw, .ref r9, .ref r10, .ref r11, .ref r12, .ref r13, .ref r14, .ref r15, .ref r16])), (r5, .inl (cI, 2, .inl Sz)), (r13, .inl (cZ, 2, .inl (upd On y 1))), (r14, .inl (cI, 2, .inl Pl)), (r15, .inl (cI, 2, .inl Sp)), (r16, .inl (cI, 12, .inl Vr))] := hD
        refine lv_aload_n hx hb de_M_start_43 rfl (lv_at hl 0 rfl) ?_
        refine va_get (D := (dC, dI)) (ci := 5) (v := .ref r14) (C := rc_M) (T := fc_M) (N := 19) hx hb htw wi_M hown hK hP 0 rfl rfl 16 (by decide) (htw _ wm_439) (fun _ h9 => h9) rfl de_M_start_44 ?_
        refine lv_iload_n hx hb de_M_start_47 rfl (lv_at hl 1 rfl) ?_
        refine lv_aload_n hx hb de_M_start_48 rfl (lv_at hl 0 rfl) ?_
        refine va_get (D := (dC, dI)) (ci := 5) (v := .ref r5) (C := rc_M) (T := fc_M) (N := 19) hx hb htw wi_M hown hK hP 0 rfl rfl 5 (by decide) (htw _ wm_428) (fun _ h9 => h9) rfl de_M_start_49 ?_
        refine lv_iload_n hx hb de_M_start_52 rfl (lv_at hl 1 rfl) ?_
        refine bc_ild (j := y) hx hb hK hP 1 0 rfl rfl (by omega) (by decide) de_M_start_53 ?_
        refine bc_ti (y := nI (bc_nn n n2 y)) hSy ?_
        refine lv_if_ne (tgt := 61) hx hb de_M_start_54 (by decide) (fun hc_54 => ?_) (fun hc_54 => ?_)
        · refine lv_iconst (v := 0) hx hb de_M_start_61 (by decide) ?_
          refine bc_ti (y := bc_pl (bc_nn n n2 y) 0) (bc_pl1 hnn hc_54) ?_
          refine bc_ist (j := y) hx hb hK hP hD hS 3 0 rfl rfl (by omega) (by decide) de_M_start_62 (fun H locs hP hD hS => ?_)
          have hP : va_P (dC, dI) classes [(m0, .inr (5, [.int 0, .ref r1, .ref r2, .ref r3, .ref r4, .ref r5, .int rw, .ref r6, .ref r7, .ref r8, .int gw, .ref r9, .ref r10, .ref r11, .ref r12, .ref r13, .ref r14, .ref r15, .ref r16])), (r5, .inl (cI, 2, .inl Sz)), (r13, .inl (cZ, 2, .inl (upd On y 1))), (r14, .inl (cI, 2, .inl (upd Pl y (bc_pl (bc_nn n n2 y) 0)))), (r15, .inl (cI, 2, .inl Sp)), (r16, .inl (cI, 12, .inl Vr))] H := hP
          have hD : va_D A [(m0, .inr (5, [.int 0, .ref r1, .ref r2, .ref r3, .ref r4, .ref r5, .int rw, .ref r6, .ref r7, .ref r8, .int gw, .ref r9, .ref r10, .ref r11, .ref r12, .ref r13, .ref r14, .ref r15, .ref r16])), (r5, .inl (cI, 2, .inl Sz)), (r13, .inl (cZ, 2, .inl (upd On y 1))), (r14, .inl (cI, 2, .inl (upd Pl y (bc_pl (bc_nn n n2 y) 0)))), (r15, .inl (cI, 2, .inl Sp)), (r16, .inl (cI, 12, .inl Vr))] := hD
          refine lv_aload_n hx hb de_M_start_63 rfl (lv_at hl 0 rfl) ?_
          refine va_get (D := (dC, dI)) (ci := 5) (v := .ref r15) (C := rc_M) (T := fc_M) (N := 19) hx hb htw wi_M hown hK hP 0 rfl rfl 17 (by decide) (htw _ wm_440) (fun _ h9 => h9) rfl de_M_start_64 ?_
          refine lv_iload_n hx hb de_M_start_67 rfl (lv_at hl 1 rfl) ?_
          refine lv_iconst (v := 0) hx hb de_M_start_68 (by decide) ?_
          refine bc_ist (j := y) hx hb hK hP hD hS 4 0 rfl rfl (by omega) (by decide) de_M_start_69 (fun H locs hP hD hS => ?_)
          have hP : va_P (dC, dI) classes [(m0, .inr (5, [.int 0, .ref r1, .ref r2, .ref r3, .ref r4, .ref r5, .int rw, .ref r6, .ref r7, .ref r8, .int gw, .ref r9, .ref r10, .ref r11, .ref r12, .ref r13, .ref r14, .ref r15, .ref r16])), (r5, .inl (cI, 2, .inl Sz)), (r13, .inl (cZ, 2, .inl (upd On y 1))), (r14, .inl (cI, 2, .inl (upd Pl y (bc_pl (bc_nn n n2 y) 0)))), (r15, .inl (cI, 2, .inl (upd Sp y 0))), (r16, .inl (cI, 12, .inl Vr))] H := hP
          have hD : va_D A [(m0, .inr (5, [.int 0, .ref r1, .ref r2, .ref r3, .ref r4, .ref r5, .int rw, .ref r6, .ref r7, .ref r8, .int gw, .ref r9, .ref r10, .ref r11, .ref r12, .ref r13, .ref r14, .ref r15, .ref r16])), (r5, .inl (cI, 2, .inl Sz)), (r13, .inl (cZ, 2, .inl (upd On y 1))), (r14, .inl (cI, 2, .inl (upd Pl y (bc_pl (bc_nn n n2 y) 0)))), (r15, .inl (cI, 2, .inl (upd Sp y 0))), (r16, .inl (cI, 12, .inl Vr))] := hD
          refine lv_aload_n hx hb de_M_start_70 rfl (lv_at hl 0 rfl) ?_
          refine va_get (D := (dC, dI)) (ci := 5) (v := .ref r16) (C := rc_M) (T := fc_M) (N := 19) hx hb htw wi_M hown hK hP 0 rfl rfl 18 (by decide) (htw _ wm_441) (fun _ h9 => h9) rfl de_M_start_71 ?_
          refine lv_bipush (v := 6) hx hb de_M_start_74 (by decide) ?_
          refine lv_iload_n hx hb de_M_start_76 rfl (lv_at hl 1 rfl) ?_
          refine lv_imul hx hb de_M_start_77 ?_
          refine bc_ti (y := nI (6 * y)) (pk_mul 6 y) ?_
          refine lv_iload_n hx hb de_M_start_78 rfl (lv_at hl 2 rfl) ?_
          refine bc_ist (j := 6 * y) hx hb hK hP hD hS 5 0 rfl rfl (by omega) (by decide) de_M_start_79 (fun H locs hP hD hS => ?_)
          have hP : va_P (dC, dI) classes [(m0, .inr (5, [.int 0, .ref r1, .ref r2, .ref r3, .ref r4, .ref r5, .int rw, .ref r6, .ref r7, .ref r8, .int gw, .ref r9, .ref r10, .ref r11, .ref r12, .ref r13, .ref r14, .ref r15, .ref r16])), (r5, .inl (cI, 2, .inl Sz)), (r13, .inl (cZ, 2, .inl (upd On y 1))), (r14, .inl (cI, 2, .inl (upd Pl y (bc_pl (bc_nn n n2 y) 0)))), (r15, .inl (cI, 2, .inl (upd Sp y 0))), (r16, .inl (cI, 12, .inl (upd Vr (6 * y) a1)))] H := hP
          have hD : va_D A [(m0, .inr (5, [.int 0, .ref r1, .ref r2, .ref r3, .ref r4, .ref r5, .int rw, .ref r6, .ref r7, .ref r8, .int gw, .ref r9, .ref r10, .ref r11, .ref r12, .ref r13, .ref r14, .ref r15, .ref r16])), (r5, .inl (cI, 2, .inl Sz)), (r13, .inl (cZ, 2, .inl (upd On y 1))), (r14, .inl (cI, 2, .inl (upd Pl y (bc_pl (bc_nn n n2 y) 0)))), (r15, .inl (cI, 2, .inl (upd Sp y 0))), (r16, .inl (cI, 12, .inl (upd Vr (6 * y) a1)))] := hD
          refine lv_aload_n hx hb de_M_start_80 rfl (lv_at hl 0 rfl) ?_
          refine va_get (D := (dC, dI)) (ci := 5) (v := .ref r16) (C := rc_M) (T := fc_M) (N := 19) hx hb htw wi_M hown hK hP 0 rfl rfl 18 (by decide) (htw _ wm_441) (fun _ h9 => h9) rfl de_M_start_81 ?_
          refine lv_bipush (v := 6) hx hb de_M_start_84 (by decide) ?_
          refine lv_iload_n hx hb de_M_start_86 rfl (lv_at hl 1 rfl) ?_
          refine lv_imul hx hb de_M_start_87 ?_
          refine bc_ti (y := nI (6 * y)) (pk_mul 6 y) ?_
          refine lv_iconst (v := 1) hx hb de_M_start_88 (by decide) ?_
          refine lv_iadd hx hb de_M_start_89 ?_
          refine bc_ti (y := nI ((6 * y) + 1)) (nI_add (6 * y) 1) ?_
          refine lv_iload_n hx hb de_M_start_90 rfl (lv_at hl 3 rfl) ?_
          refine bc_ist (j := (6 * y) + 1) hx hb hK hP hD hS 5 0 rfl rfl (by omega) (by decide) de_M_start_91 (fun H locs hP hD hS => ?_)
          have hP : va_P (dC, dI) classes [(m0, .inr (5, [.int 0, .ref r1, .ref r2, .ref r3, .ref r4, .ref r5, .int rw, .ref r6, .ref r7, .ref r8, .int gw, .ref r9, .ref r10, .ref r11, .ref r12, .ref r13, .ref r14, .ref r15, .ref r16])), (r5, .inl (cI, 2, .inl Sz)), (r13, .inl (cZ, 2, .inl (upd On y 1))), (r14, .inl (cI, 2, .inl (upd Pl y (bc_pl (bc_nn n n2 y) 0)))), (r15, .inl (cI, 2, .inl (upd Sp y 0))), (r16, .inl (cI, 12, .inl (upd (upd Vr (6 * y) a1) ((6 * y) + 1) b1)))] H := hP
          have hD : va_D A [(m0, .inr (5, [.int 0, .ref r1, .ref r2, .ref r3, .ref r4, .ref r5, .int rw, .ref r6, .ref r7, .ref r8, .int gw, .ref r9, .ref r10, .ref r11, .ref r12, .ref r13, .ref r14, .ref r15, .ref r16])), (r5, .inl (cI, 2, .inl Sz)), (r13, .inl (cZ, 2, .inl (upd On y 1))), (r14, .inl (cI, 2, .inl (upd Pl y (bc_pl (bc_nn n n2 y) 0)))), (r15, .inl (cI, 2, .inl (upd Sp y 0))), (r16, .inl (cI, 12, .inl (upd (upd Vr (6 * y) a1) ((6 * y) + 1) b1)))] := hD
          refine lv_aload_n hx hb de_M_start_92 rfl (lv_at hl 0 rfl) ?_
          refine va_get (D := (dC, dI)) (ci := 5) (v := .ref r16) (C := rc_M) (T := fc_M) (N := 19) hx hb htw wi_M hown hK hP 0 rfl rfl 18 (by decide) (htw _ wm_441) (fun _ h9 => h9) rfl de_M_start_93 ?_
          refine lv_bipush (v := 6) hx hb de_M_start_96 (by decide) ?_
          refine lv_iload_n hx hb de_M_start_98 rfl (lv_at hl 1 rfl) ?_
          refine lv_imul hx hb de_M_start_99 ?_
          refine bc_ti (y := nI (6 * y)) (pk_mul 6 y) ?_
          refine lv_iconst (v := 2) hx hb de_M_start_100 (by decide) ?_
          refine lv_iadd hx hb de_M_start_101 ?_
          refine bc_ti (y := nI ((6 * y) + 2)) (nI_add (6 * y) 2) ?_
          refine lv_iload hx hb de_M_start_102 (lv_at hl 4 rfl) ?_
          refine bc_ist (j := (6 * y) + 2) hx hb hK hP hD hS 5 0 rfl rfl (by omega) (by decide) de_M_start_104 (fun H locs hP hD hS => ?_)
          have hP : va_P (dC, dI) classes [(m0, .inr (5, [.int 0, .ref r1, .ref r2, .ref r3, .ref r4, .ref r5, .int rw, .ref r6, .ref r7, .ref r8, .int gw, .ref r9, .ref r10, .ref r11, .ref r12, .ref r13, .ref r14, .ref r15, .ref r16])), (r5, .inl (cI, 2, .inl Sz)), (r13, .inl (cZ, 2, .inl (upd On y 1))), (r14, .inl (cI, 2, .inl (upd Pl y (bc_pl (bc_nn n n2 y) 0)))), (r15, .inl (cI, 2, .inl (upd Sp y 0))), (r16, .inl (cI, 12, .inl (upd (upd (upd Vr (6 * y) a1) ((6 * y) + 1) b1) ((6 * y) + 2) c1)))] H := hP
          have hD : va_D A [(m0, .inr (5, [.int 0, .ref r1, .ref r2, .ref r3, .ref r4, .ref r5, .int rw, .ref r6, .ref r7, .ref r8, .int gw, .ref r9, .ref r10, .ref r11, .ref r12, .ref r13, .ref r14, .ref r15, .ref r16])), (r5, .inl (cI, 2, .inl Sz)), (r13, .inl (cZ, 2, .inl (upd On y 1))), (r14, .inl (cI, 2, .inl (upd Pl y (bc_pl (bc_nn n n2 y) 0)))), (r15, .inl (cI, 2, .inl (upd Sp y 0))), (r16, .inl (cI, 12, .inl (upd (upd (upd Vr (6 * y) a1) ((6 * y) + 1) b1) ((6 * y) + 2) c1)))] := hD
          refine lv_aload_n hx hb de_M_start_105 rfl (lv_at hl 0 rfl) ?_
          refine va_get (D := (dC, dI)) (ci := 5) (v := .ref r16) (C := rc_M) (T := fc_M) (N := 19) hx hb htw wi_M hown hK hP 0 rfl rfl 18 (by decide) (htw _ wm_441) (fun _ h9 => h9) rfl de_M_start_106 ?_
          refine lv_bipush (v := 6) hx hb de_M_start_109 (by decide) ?_
          refine lv_iload_n hx hb de_M_start_111 rfl (lv_at hl 1 rfl) ?_
          refine lv_imul hx hb de_M_start_112 ?_
          refine bc_ti (y := nI (6 * y)) (pk_mul 6 y) ?_
          refine lv_iconst (v := 3) hx hb de_M_start_113 (by decide) ?_
          refine lv_iadd hx hb de_M_start_114 ?_
          refine bc_ti (y := nI ((6 * y) + 3)) (nI_add (6 * y) 3) ?_
          refine lv_iload hx hb de_M_start_115 (lv_at hl 5 rfl) ?_
          refine bc_ist (j := (6 * y) + 3) hx hb hK hP hD hS 5 0 rfl rfl (by omega) (by decide) de_M_start_117 (fun H locs hP hD hS => ?_)
          have hP : va_P (dC, dI) classes [(m0, .inr (5, [.int 0, .ref r1, .ref r2, .ref r3, .ref r4, .ref r5, .int rw, .ref r6, .ref r7, .ref r8, .int gw, .ref r9, .ref r10, .ref r11, .ref r12, .ref r13, .ref r14, .ref r15, .ref r16])), (r5, .inl (cI, 2, .inl Sz)), (r13, .inl (cZ, 2, .inl (upd On y 1))), (r14, .inl (cI, 2, .inl (upd Pl y (bc_pl (bc_nn n n2 y) 0)))), (r15, .inl (cI, 2, .inl (upd Sp y 0))), (r16, .inl (cI, 12, .inl (upd (upd (upd (upd Vr (6 * y) a1) ((6 * y) + 1) b1) ((6 * y) + 2) c1) ((6 * y) + 3) d1)))] H := hP
          have hD : va_D A [(m0, .inr (5, [.int 0, .ref r1, .ref r2, .ref r3, .ref r4, .ref r5, .int rw, .ref r6, .ref r7, .ref r8, .int gw, .ref r9, .ref r10, .ref r11, .ref r12, .ref r13, .ref r14, .ref r15, .ref r16])), (r5, .inl (cI, 2, .inl Sz)), (r13, .inl (cZ, 2, .inl (upd On y 1))), (r14, .inl (cI, 2, .inl (upd Pl y (bc_pl (bc_nn n n2 y) 0)))), (r15, .inl (cI, 2, .inl (upd Sp y 0))), (r16, .inl (cI, 12, .inl (upd (upd (upd (upd Vr (6 * y) a1) ((6 * y) + 1) b1) ((6 * y) + 2) c1) ((6 * y) + 3) d1)))] := hD
          refine lv_aload_n hx hb de_M_start_118 rfl (lv_at hl 0 rfl) ?_
          refine va_get (D := (dC, dI)) (ci := 5) (v := .ref r16) (C := rc_M) (T := fc_M) (N := 19) hx hb htw wi_M hown hK hP 0 rfl rfl 18 (by decide) (htw _ wm_441) (fun _ h9 => h9) rfl de_M_start_119 ?_
          refine lv_bipush (v := 6) hx hb de_M_start_122 (by decide) ?_
          refine lv_iload_n hx hb de_M_start_124 rfl (lv_at hl 1 rfl) ?_
          refine lv_imul hx hb de_M_start_125 ?_
          refine bc_ti (y := nI (6 * y)) (pk_mul 6 y) ?_
          refine lv_iconst (v := 4) hx hb de_M_start_126 (by decide) ?_
          refine lv_iadd hx hb de_M_start_127 ?_
          refine bc_ti (y := nI ((6 * y) + 4)) (nI_add (6 * y) 4) ?_
          refine lv_iconst (v := 0) hx hb de_M_start_128 (by decide) ?_
          refine bc_ist (j := (6 * y) + 4) hx hb hK hP hD hS 5 0 rfl rfl (by omega) (by decide) de_M_start_129 (fun H locs hP hD hS => ?_)
          have hP : va_P (dC, dI) classes [(m0, .inr (5, [.int 0, .ref r1, .ref r2, .ref r3, .ref r4, .ref r5, .int rw, .ref r6, .ref r7, .ref r8, .int gw, .ref r9, .ref r10, .ref r11, .ref r12, .ref r13, .ref r14, .ref r15, .ref r16])), (r5, .inl (cI, 2, .inl Sz)), (r13, .inl (cZ, 2, .inl (upd On y 1))), (r14, .inl (cI, 2, .inl (upd Pl y (bc_pl (bc_nn n n2 y) 0)))), (r15, .inl (cI, 2, .inl (upd Sp y 0))), (r16, .inl (cI, 12, .inl (upd (upd (upd (upd (upd Vr (6 * y) a1) ((6 * y) + 1) b1) ((6 * y) + 2) c1) ((6 * y) + 3) d1) ((6 * y) + 4) 0)))] H := hP
          have hD : va_D A [(m0, .inr (5, [.int 0, .ref r1, .ref r2, .ref r3, .ref r4, .ref r5, .int rw, .ref r6, .ref r7, .ref r8, .int gw, .ref r9, .ref r10, .ref r11, .ref r12, .ref r13, .ref r14, .ref r15, .ref r16])), (r5, .inl (cI, 2, .inl Sz)), (r13, .inl (cZ, 2, .inl (upd On y 1))), (r14, .inl (cI, 2, .inl (upd Pl y (bc_pl (bc_nn n n2 y) 0)))), (r15, .inl (cI, 2, .inl (upd Sp y 0))), (r16, .inl (cI, 12, .inl (upd (upd (upd (upd (upd Vr (6 * y) a1) ((6 * y) + 1) b1) ((6 * y) + 2) c1) ((6 * y) + 3) d1) ((6 * y) + 4) 0)))] := hD
          refine lv_aload_n hx hb de_M_start_130 rfl (lv_at hl 0 rfl) ?_
          refine va_get (D := (dC, dI)) (ci := 5) (v := .ref r16) (C := rc_M) (T := fc_M) (N := 19) hx hb htw wi_M hown hK hP 0 rfl rfl 18 (by decide) (htw _ wm_441) (fun _ h9 => h9) rfl de_M_start_131 ?_
          refine lv_bipush (v := 6) hx hb de_M_start_134 (by decide) ?_
          refine lv_iload_n hx hb de_M_start_136 rfl (lv_at hl 1 rfl) ?_
          refine lv_imul hx hb de_M_start_137 ?_
          refine bc_ti (y := nI (6 * y)) (pk_mul 6 y) ?_
          refine lv_iconst (v := 5) hx hb de_M_start_138 (by decide) ?_
          refine lv_iadd hx hb de_M_start_139 ?_
          refine bc_ti (y := nI ((6 * y) + 5)) (nI_add (6 * y) 5) ?_
          refine lv_iconst (v := 0) hx hb de_M_start_140 (by decide) ?_
          refine bc_ist (j := (6 * y) + 5) hx hb hK hP hD hS 5 0 rfl rfl (by omega) (by decide) de_M_start_141 (fun H locs hP hD hS => ?_)
          have hP : va_P (dC, dI) classes [(m0, .inr (5, [.int 0, .ref r1, .ref r2, .ref r3, .ref r4, .ref r5, .int rw, .ref r6, .ref r7, .ref r8, .int gw, .ref r9, .ref r10, .ref r11, .ref r12, .ref r13, .ref r14, .ref r15, .ref r16])), (r5, .inl (cI, 2, .inl Sz)), (r13, .inl (cZ, 2, .inl (upd On y 1))), (r14, .inl (cI, 2, .inl (upd Pl y (bc_pl (bc_nn n n2 y) 0)))), (r15, .inl (cI, 2, .inl (upd Sp y 0))), (r16, .inl (cI, 12, .inl (upd (upd (upd (upd (upd (upd Vr (6 * y) a1) ((6 * y) + 1) b1) ((6 * y) + 2) c1) ((6 * y) + 3) d1) ((6 * y) + 4) 0) ((6 * y) + 5) 0)))] H := hP
          have hD : va_D A [(m0, .inr (5, [.int 0, .ref r1, .ref r2, .ref r3, .ref r4, .ref r5, .int rw, .ref r6, .ref r7, .ref r8, .int gw, .ref r9, .ref r10, .ref r11, .ref r12, .ref r13, .ref r14, .ref r15, .ref r16])), (r5, .inl (cI, 2, .inl Sz)), (r13, .inl (cZ, 2, .inl (upd On y 1))), (r14, .inl (cI, 2, .inl (upd Pl y (bc_pl (bc_nn n n2 y) 0)))), (r15, .inl (cI, 2, .inl (upd Sp y 0))), (r16, .inl (cI, 12, .inl (upd (upd (upd (upd (upd (upd Vr (6 * y) a1) ((6 * y) + 1) b1) ((6 * y) + 2) c1) ((6 * y) + 3) d1) ((6 * y) + 4) 0) ((6 * y) + 5) 0)))] := hD
          exact bc_vret F hr hlocks ((0, upd On y 1, upd Pl y (bc_pl (bc_nn n n2 y) 0), upd Sp y 0, bc_vx Vr y a1 b1 c1 d1)) (Or.inr (Or.inr ⟨y, hy, rfl, hy1, rfl, fun X1 hX => bc_MR_start hR hy X1 hX⟩)) hP hD hS de_M_start_142
        · refine lv_iconst (v := (-1)) hx hb de_M_start_57 (by decide) ?_
          refine bc_ti (y := bc_pl (bc_nn n n2 y) 0) (bc_pl0 hnn hc_54) ?_
          refine lv_goto (tgt := 62) hx hb de_M_start_58 (by decide) ?_
          refine bc_ist (j := y) hx hb hK hP hD hS 3 0 rfl rfl (by omega) (by decide) de_M_start_62 (fun H locs hP hD hS => ?_)
          have hP : va_P (dC, dI) classes [(m0, .inr (5, [.int 0, .ref r1, .ref r2, .ref r3, .ref r4, .ref r5, .int rw, .ref r6, .ref r7, .ref r8, .int gw, .ref r9, .ref r10, .ref r11, .ref r12, .ref r13, .ref r14, .ref r15, .ref r16])), (r5, .inl (cI, 2, .inl Sz)), (r13, .inl (cZ, 2, .inl (upd On y 1))), (r14, .inl (cI, 2, .inl (upd Pl y (bc_pl (bc_nn n n2 y) 0)))), (r15, .inl (cI, 2, .inl Sp)), (r16, .inl (cI, 12, .inl Vr))] H := hP
          have hD : va_D A [(m0, .inr (5, [.int 0, .ref r1, .ref r2, .ref r3, .ref r4, .ref r5, .int rw, .ref r6, .ref r7, .ref r8, .int gw, .ref r9, .ref r10, .ref r11, .ref r12, .ref r13, .ref r14, .ref r15, .ref r16])), (r5, .inl (cI, 2, .inl Sz)), (r13, .inl (cZ, 2, .inl (upd On y 1))), (r14, .inl (cI, 2, .inl (upd Pl y (bc_pl (bc_nn n n2 y) 0)))), (r15, .inl (cI, 2, .inl Sp)), (r16, .inl (cI, 12, .inl Vr))] := hD
          refine lv_aload_n hx hb de_M_start_63 rfl (lv_at hl 0 rfl) ?_
          refine va_get (D := (dC, dI)) (ci := 5) (v := .ref r15) (C := rc_M) (T := fc_M) (N := 19) hx hb htw wi_M hown hK hP 0 rfl rfl 17 (by decide) (htw _ wm_440) (fun _ h9 => h9) rfl de_M_start_64 ?_
          refine lv_iload_n hx hb de_M_start_67 rfl (lv_at hl 1 rfl) ?_
          refine lv_iconst (v := 0) hx hb de_M_start_68 (by decide) ?_
          refine bc_ist (j := y) hx hb hK hP hD hS 4 0 rfl rfl (by omega) (by decide) de_M_start_69 (fun H locs hP hD hS => ?_)
          have hP : va_P (dC, dI) classes [(m0, .inr (5, [.int 0, .ref r1, .ref r2, .ref r3, .ref r4, .ref r5, .int rw, .ref r6, .ref r7, .ref r8, .int gw, .ref r9, .ref r10, .ref r11, .ref r12, .ref r13, .ref r14, .ref r15, .ref r16])), (r5, .inl (cI, 2, .inl Sz)), (r13, .inl (cZ, 2, .inl (upd On y 1))), (r14, .inl (cI, 2, .inl (upd Pl y (bc_pl (bc_nn n n2 y) 0)))), (r15, .inl (cI, 2, .inl (upd Sp y 0))), (r16, .inl (cI, 12, .inl Vr))] H := hP
          have hD : va_D A [(m0, .inr (5, [.int 0, .ref r1, .ref r2, .ref r3, .ref r4, .ref r5, .int rw, .ref r6, .ref r7, .ref r8, .int gw, .ref r9, .ref r10, .ref r11, .ref r12, .ref r13, .ref r14, .ref r15, .ref r16])), (r5, .inl (cI, 2, .inl Sz)), (r13, .inl (cZ, 2, .inl (upd On y 1))), (r14, .inl (cI, 2, .inl (upd Pl y (bc_pl (bc_nn n n2 y) 0)))), (r15, .inl (cI, 2, .inl (upd Sp y 0))), (r16, .inl (cI, 12, .inl Vr))] := hD
          refine lv_aload_n hx hb de_M_start_70 rfl (lv_at hl 0 rfl) ?_
          refine va_get (D := (dC, dI)) (ci := 5) (v := .ref r16) (C := rc_M) (T := fc_M) (N := 19) hx hb htw wi_M hown hK hP 0 rfl rfl 18 (by decide) (htw _ wm_441) (fun _ h9 => h9) rfl de_M_start_71 ?_
          refine lv_bipush (v := 6) hx hb de_M_start_74 (by decide) ?_
          refine lv_iload_n hx hb de_M_start_76 rfl (lv_at hl 1 rfl) ?_
          refine lv_imul hx hb de_M_start_77 ?_
          refine bc_ti (y := nI (6 * y)) (pk_mul 6 y) ?_
          refine lv_iload_n hx hb de_M_start_78 rfl (lv_at hl 2 rfl) ?_
          refine bc_ist (j := 6 * y) hx hb hK hP hD hS 5 0 rfl rfl (by omega) (by decide) de_M_start_79 (fun H locs hP hD hS => ?_)
          have hP : va_P (dC, dI) classes [(m0, .inr (5, [.int 0, .ref r1, .ref r2, .ref r3, .ref r4, .ref r5, .int rw, .ref r6, .ref r7, .ref r8, .int gw, .ref r9, .ref r10, .ref r11, .ref r12, .ref r13, .ref r14, .ref r15, .ref r16])), (r5, .inl (cI, 2, .inl Sz)), (r13, .inl (cZ, 2, .inl (upd On y 1))), (r14, .inl (cI, 2, .inl (upd Pl y (bc_pl (bc_nn n n2 y) 0)))), (r15, .inl (cI, 2, .inl (upd Sp y 0))), (r16, .inl (cI, 12, .inl (upd Vr (6 * y) a1)))] H := hP
          have hD : va_D A [(m0, .inr (5, [.int 0, .ref r1, .ref r2, .ref r3, .ref r4, .ref r5, .int rw, .ref r6, .ref r7, .ref r8, .int gw, .ref r9, .ref r10, .ref r11, .ref r12, .ref r13, .ref r14, .ref r15, .ref r16])), (r5, .inl (cI, 2, .inl Sz)), (r13, .inl (cZ, 2, .inl (upd On y 1))), (r14, .inl (cI, 2, .inl (upd Pl y (bc_pl (bc_nn n n2 y) 0)))), (r15, .inl (cI, 2, .inl (upd Sp y 0))), (r16, .inl (cI, 12, .inl (upd Vr (6 * y) a1)))] := hD
          refine lv_aload_n hx hb de_M_start_80 rfl (lv_at hl 0 rfl) ?_
          refine va_get (D := (dC, dI)) (ci := 5) (v := .ref r16) (C := rc_M) (T := fc_M) (N := 19) hx hb htw wi_M hown hK hP 0 rfl rfl 18 (by decide) (htw _ wm_441) (fun _ h9 => h9) rfl de_M_start_81 ?_
          refine lv_bipush (v := 6) hx hb de_M_start_84 (by decide) ?_
          refine lv_iload_n hx hb de_M_start_86 rfl (lv_at hl 1 rfl) ?_
          refine lv_imul hx hb de_M_start_87 ?_
          refine bc_ti (y := nI (6 * y)) (pk_mul 6 y) ?_
          refine lv_iconst (v := 1) hx hb de_M_start_88 (by decide) ?_
          refine lv_iadd hx hb de_M_start_89 ?_
          refine bc_ti (y := nI ((6 * y) + 1)) (nI_add (6 * y) 1) ?_
          refine lv_iload_n hx hb de_M_start_90 rfl (lv_at hl 3 rfl) ?_
          refine bc_ist (j := (6 * y) + 1) hx hb hK hP hD hS 5 0 rfl rfl (by omega) (by decide) de_M_start_91 (fun H locs hP hD hS => ?_)
          have hP : va_P (dC, dI) classes [(m0, .inr (5, [.int 0, .ref r1, .ref r2, .ref r3, .ref r4, .ref r5, .int rw, .ref r6, .ref r7, .ref r8, .int gw, .ref r9, .ref r10, .ref r11, .ref r12, .ref r13, .ref r14, .ref r15, .ref r16])), (r5, .inl (cI, 2, .inl Sz)), (r13, .inl (cZ, 2, .inl (upd On y 1))), (r14, .inl (cI, 2, .inl (upd Pl y (bc_pl (bc_nn n n2 y) 0)))), (r15, .inl (cI, 2, .inl (upd Sp y 0))), (r16, .inl (cI, 12, .inl (upd (upd Vr (6 * y) a1) ((6 * y) + 1) b1)))] H := hP
          have hD : va_D A [(m0, .inr (5, [.int 0, .ref r1, .ref r2, .ref r3, .ref r4, .ref r5, .int rw, .ref r6, .ref r7, .ref r8, .int gw, .ref r9, .ref r10, .ref r11, .ref r12, .ref r13, .ref r14, .ref r15, .ref r16])), (r5, .inl (cI, 2, .inl Sz)), (r13, .inl (cZ, 2, .inl (upd On y 1))), (r14, .inl (cI, 2, .inl (upd Pl y (bc_pl (bc_nn n n2 y) 0)))), (r15, .inl (cI, 2, .inl (upd Sp y 0))), (r16, .inl (cI, 12, .inl (upd (upd Vr (6 * y) a1) ((6 * y) + 1) b1)))] := hD
          refine lv_aload_n hx hb de_M_start_92 rfl (lv_at hl 0 rfl) ?_
          refine va_get (D := (dC, dI)) (ci := 5) (v := .ref r16) (C := rc_M) (T := fc_M) (N := 19) hx hb htw wi_M hown hK hP 0 rfl rfl 18 (by decide) (htw _ wm_441) (fun _ h9 => h9) rfl de_M_start_93 ?_
          refine lv_bipush (v := 6) hx hb de_M_start_96 (by decide) ?_
          refine lv_iload_n hx hb de_M_start_98 rfl (lv_at hl 1 rfl) ?_
          refine lv_imul hx hb de_M_start_99 ?_
          refine bc_ti (y := nI (6 * y)) (pk_mul 6 y) ?_
          refine lv_iconst (v := 2) hx hb de_M_start_100 (by decide) ?_
          refine lv_iadd hx hb de_M_start_101 ?_
          refine bc_ti (y := nI ((6 * y) + 2)) (nI_add (6 * y) 2) ?_
          refine lv_iload hx hb de_M_start_102 (lv_at hl 4 rfl) ?_
          refine bc_ist (j := (6 * y) + 2) hx hb hK hP hD hS 5 0 rfl rfl (by omega) (by decide) de_M_start_104 (fun H locs hP hD hS => ?_)
          have hP : va_P (dC, dI) classes [(m0, .inr (5, [.int 0, .ref r1, .ref r2, .ref r3, .ref r4, .ref r5, .int rw, .ref r6, .ref r7, .ref r8, .int gw, .ref r9, .ref r10, .ref r11, .ref r12, .ref r13, .ref r14, .ref r15, .ref r16])), (r5, .inl (cI, 2, .inl Sz)), (r13, .inl (cZ, 2, .inl (upd On y 1))), (r14, .inl (cI, 2, .inl (upd Pl y (bc_pl (bc_nn n n2 y) 0)))), (r15, .inl (cI, 2, .inl (upd Sp y 0))), (r16, .inl (cI, 12, .inl (upd (upd (upd Vr (6 * y) a1) ((6 * y) + 1) b1) ((6 * y) + 2) c1)))] H := hP
          have hD : va_D A [(m0, .inr (5, [.int 0, .ref r1, .ref r2, .ref r3, .ref r4, .ref r5, .int rw, .ref r6, .ref r7, .ref r8, .int gw, .ref r9, .ref r10, .ref r11, .ref r12, .ref r13, .ref r14, .ref r15, .ref r16])), (r5, .inl (cI, 2, .inl Sz)), (r13, .inl (cZ, 2, .inl (upd On y 1))), (r14, .inl (cI, 2, .inl (upd Pl y (bc_pl (bc_nn n n2 y) 0)))), (r15, .inl (cI, 2, .inl (upd Sp y 0))), (r16, .inl (cI, 12, .inl (upd (upd (upd Vr (6 * y) a1) ((6 * y) + 1) b1) ((6 * y) + 2) c1)))] := hD
          refine lv_aload_n hx hb de_M_start_105 rfl (lv_at hl 0 rfl) ?_
          refine va_get (D := (dC, dI)) (ci := 5) (v := .ref r16) (C := rc_M) (T := fc_M) (N := 19) hx hb htw wi_M hown hK hP 0 rfl rfl 18 (by decide) (htw _ wm_441) (fun _ h9 => h9) rfl de_M_start_106 ?_
          refine lv_bipush (v := 6) hx hb de_M_start_109 (by decide) ?_
          refine lv_iload_n hx hb de_M_start_111 rfl (lv_at hl 1 rfl) ?_
          refine lv_imul hx hb de_M_start_112 ?_
          refine bc_ti (y := nI (6 * y)) (pk_mul 6 y) ?_
          refine lv_iconst (v := 3) hx hb de_M_start_113 (by decide) ?_
          refine lv_iadd hx hb de_M_start_114 ?_
          refine bc_ti (y := nI ((6 * y) + 3)) (nI_add (6 * y) 3) ?_
          refine lv_iload hx hb de_M_start_115 (lv_at hl 5 rfl) ?_
          refine bc_ist (j := (6 * y) + 3) hx hb hK hP hD hS 5 0 rfl rfl (by omega) (by decide) de_M_start_117 (fun H locs hP hD hS => ?_)
          have hP : va_P (dC, dI) classes [(m0, .inr (5, [.int 0, .ref r1, .ref r2, .ref r3, .ref r4, .ref r5, .int rw, .ref r6, .ref r7, .ref r8, .int gw, .ref r9, .ref r10, .ref r11, .ref r12, .ref r13, .ref r14, .ref r15, .ref r16])), (r5, .inl (cI, 2, .inl Sz)), (r13, .inl (cZ, 2, .inl (upd On y 1))), (r14, .inl (cI, 2, .inl (upd Pl y (bc_pl (bc_nn n n2 y) 0)))), (r15, .inl (cI, 2, .inl (upd Sp y 0))), (r16, .inl (cI, 12, .inl (upd (upd (upd (upd Vr (6 * y) a1) ((6 * y) + 1) b1) ((6 * y) + 2) c1) ((6 * y) + 3) d1)))] H := hP
          have hD : va_D A [(m0, .inr (5, [.int 0, .ref r1, .ref r2, .ref r3, .ref r4, .ref r5, .int rw, .ref r6, .ref r7, .ref r8, .int gw, .ref r9, .ref r10, .ref r11, .ref r12, .ref r13, .ref r14, .ref r15, .ref r16])), (r5, .inl (cI, 2, .inl Sz)), (r13, .inl (cZ, 2, .inl (upd On y 1))), (r14, .inl (cI, 2, .inl (upd Pl y (bc_pl (bc_nn n n2 y) 0)))), (r15, .inl (cI, 2, .inl (upd Sp y 0))), (r16, .inl (cI, 12, .inl (upd (upd (upd (upd Vr (6 * y) a1) ((6 * y) + 1) b1) ((6 * y) + 2) c1) ((6 * y) + 3) d1)))] := hD
          refine lv_aload_n hx hb de_M_start_118 rfl (lv_at hl 0 rfl) ?_
          refine va_get (D := (dC, dI)) (ci := 5) (v := .ref r16) (C := rc_M) (T := fc_M) (N := 19) hx hb htw wi_M hown hK hP 0 rfl rfl 18 (by decide) (htw _ wm_441) (fun _ h9 => h9) rfl de_M_start_119 ?_
          refine lv_bipush (v := 6) hx hb de_M_start_122 (by decide) ?_
          refine lv_iload_n hx hb de_M_start_124 rfl (lv_at hl 1 rfl) ?_
          refine lv_imul hx hb de_M_start_125 ?_
          refine bc_ti (y := nI (6 * y)) (pk_mul 6 y) ?_
          refine lv_iconst (v := 4) hx hb de_M_start_126 (by decide) ?_
          refine lv_iadd hx hb de_M_start_127 ?_
          refine bc_ti (y := nI ((6 * y) + 4)) (nI_add (6 * y) 4) ?_
          refine lv_iconst (v := 0) hx hb de_M_start_128 (by decide) ?_
          refine bc_ist (j := (6 * y) + 4) hx hb hK hP hD hS 5 0 rfl rfl (by omega) (by decide) de_M_start_129 (fun H locs hP hD hS => ?_)
          have hP : va_P (dC, dI) classes [(m0, .inr (5, [.int 0, .ref r1, .ref r2, .ref r3, .ref r4, .ref r5, .int rw, .ref r6, .ref r7, .ref r8, .int gw, .ref r9, .ref r10, .ref r11, .ref r12, .ref r13, .ref r14, .ref r15, .ref r16])), (r5, .inl (cI, 2, .inl Sz)), (r13, .inl (cZ, 2, .inl (upd On y 1))), (r14, .inl (cI, 2, .inl (upd Pl y (bc_pl (bc_nn n n2 y) 0)))), (r15, .inl (cI, 2, .inl (upd Sp y 0))), (r16, .inl (cI, 12, .inl (upd (upd (upd (upd (upd Vr (6 * y) a1) ((6 * y) + 1) b1) ((6 * y) + 2) c1) ((6 * y) + 3) d1) ((6 * y) + 4) 0)))] H := hP
          have hD : va_D A [(m0, .inr (5, [.int 0, .ref r1, .ref r2, .ref r3, .ref r4, .ref r5, .int rw, .ref r6, .ref r7, .ref r8, .int gw, .ref r9, .ref r10, .ref r11, .ref r12, .ref r13, .ref r14, .ref r15, .ref r16])), (r5, .inl (cI, 2, .inl Sz)), (r13, .inl (cZ, 2, .inl (upd On y 1))), (r14, .inl (cI, 2, .inl (upd Pl y (bc_pl (bc_nn n n2 y) 0)))), (r15, .inl (cI, 2, .inl (upd Sp y 0))), (r16, .inl (cI, 12, .inl (upd (upd (upd (upd (upd Vr (6 * y) a1) ((6 * y) + 1) b1) ((6 * y) + 2) c1) ((6 * y) + 3) d1) ((6 * y) + 4) 0)))] := hD
          refine lv_aload_n hx hb de_M_start_130 rfl (lv_at hl 0 rfl) ?_
          refine va_get (D := (dC, dI)) (ci := 5) (v := .ref r16) (C := rc_M) (T := fc_M) (N := 19) hx hb htw wi_M hown hK hP 0 rfl rfl 18 (by decide) (htw _ wm_441) (fun _ h9 => h9) rfl de_M_start_131 ?_
          refine lv_bipush (v := 6) hx hb de_M_start_134 (by decide) ?_
          refine lv_iload_n hx hb de_M_start_136 rfl (lv_at hl 1 rfl) ?_
          refine lv_imul hx hb de_M_start_137 ?_
          refine bc_ti (y := nI (6 * y)) (pk_mul 6 y) ?_
          refine lv_iconst (v := 5) hx hb de_M_start_138 (by decide) ?_
          refine lv_iadd hx hb de_M_start_139 ?_
          refine bc_ti (y := nI ((6 * y) + 5)) (nI_add (6 * y) 5) ?_
          refine lv_iconst (v := 0) hx hb de_M_start_140 (by decide) ?_
          refine bc_ist (j := (6 * y) + 5) hx hb hK hP hD hS 5 0 rfl rfl (by omega) (by decide) de_M_start_141 (fun H locs hP hD hS => ?_)
          have hP : va_P (dC, dI) classes [(m0, .inr (5, [.int 0, .ref r1, .ref r2, .ref r3, .ref r4, .ref r5, .int rw, .ref r6, .ref r7, .ref r8, .int gw, .ref r9, .ref r10, .ref r11, .ref r12, .ref r13, .ref r14, .ref r15, .ref r16])), (r5, .inl (cI, 2, .inl Sz)), (r13, .inl (cZ, 2, .inl (upd On y 1))), (r14, .inl (cI, 2, .inl (upd Pl y (bc_pl (bc_nn n n2 y) 0)))), (r15, .inl (cI, 2, .inl (upd Sp y 0))), (r16, .inl (cI, 12, .inl (upd (upd (upd (upd (upd (upd Vr (6 * y) a1) ((6 * y) + 1) b1) ((6 * y) + 2) c1) ((6 * y) + 3) d1) ((6 * y) + 4) 0) ((6 * y) + 5) 0)))] H := hP
          have hD : va_D A [(m0, .inr (5, [.int 0, .ref r1, .ref r2, .ref r3, .ref r4, .ref r5, .int rw, .ref r6, .ref r7, .ref r8, .int gw, .ref r9, .ref r10, .ref r11, .ref r12, .ref r13, .ref r14, .ref r15, .ref r16])), (r5, .inl (cI, 2, .inl Sz)), (r13, .inl (cZ, 2, .inl (upd On y 1))), (r14, .inl (cI, 2, .inl (upd Pl y (bc_pl (bc_nn n n2 y) 0)))), (r15, .inl (cI, 2, .inl (upd Sp y 0))), (r16, .inl (cI, 12, .inl (upd (upd (upd (upd (upd (upd Vr (6 * y) a1) ((6 * y) + 1) b1) ((6 * y) + 2) c1) ((6 * y) + 3) d1) ((6 * y) + 4) 0) ((6 * y) + 5) 0)))] := hD
          exact bc_vret F hr hlocks ((0, upd On y 1, upd Pl y (bc_pl (bc_nn n n2 y) 0), upd Sp y 0, bc_vx Vr y a1 b1 c1 d1)) (Or.inr (Or.inr ⟨y, hy, rfl, hy1, rfl, fun X1 hX => bc_MR_start hR hy X1 hX⟩)) hP hD hS de_M_start_142
    · refine lv_aload_n hx hb de_M_start_17 rfl (lv_at hl 0 rfl) ?_
      refine va_get (D := (dC, dI)) (ci := 5) (v := .int rw) (C := rc_M) (T := fc_M) (N := 19) hx hb htw wi_M hown hK hP 0 rfl rfl 6 (by decide) (htw _ wm_429) (fun _ h9 => h9) rfl de_M_start_18 ?_
      refine lv_if_ne (tgt := 28) hx hb de_M_start_21 (by decide) (fun hc_21 => ?_) (fun hc_21 => ?_)
      · refine lv_iconst (v := 0) hx hb de_M_start_28 (by decide) ?_
        refine bc_call_v_i (As := [.int 0]) (rest := []) (wr := [(r5, .inl (cI, 2, .inl Sz)), (r13, .inl (cZ, 2, .inl On)), (r14, .inl (cI, 2, .inl Pl)), (r15, .inl (cI, 2, .inl Sp)), (r16, .inl (cI, 12, .inl Vr))]) F (co_M_refused) wm_478 wm_6 wm_476 wm_477 wm_630 0 rfl rfl pd_M_refused rfl rfl ⟨Nat.le_of_ble_eq_true rfl, Nat.le_of_ble_eq_true rfl⟩ hP hD hS hA [0] [1, 2, 3, 4, 5] rfl rfl rfl rfl (by decide) rfl hl.1 rfl (Nat.le_of_ble_eq_true rfl) de_M_start_29 ⟨Nat.le_of_ble_eq_true rfl, Nat.le_of_ble_eq_true rfl⟩ (fun r_29 u_29 H locs hw_29 hP hD hS => ?_)
        have hP : va_P (dC, dI) classes [(m0, .inr (5, [.int 0, .ref r1, .ref r2, .ref r3, .ref r4, .ref r5, .int rw, .ref r6, .ref r7, .ref r8, .int gw, .ref r9, .ref r10, .ref r11, .ref r12, .ref r13, .ref r14, .ref r15, .ref r16])), (r5, .inl (cI, 2, .inl Sz)), (r13, .inl (cZ, 2, .inl On)), (r14, .inl (cI, 2, .inl Pl)), (r15, .inl (cI, 2, .inl Sp)), (r16, .inl (cI, 12, .inl Vr))] H := hP.sub [5, 0, 1, 2, 3, 4] rfl
        have hD : va_D A [(m0, .inr (5, [.int 0, .ref r1, .ref r2, .ref r3, .ref r4, .ref r5, .int rw, .ref r6, .ref r7, .ref r8, .int gw, .ref r9, .ref r10, .ref r11, .ref r12, .ref r13, .ref r14, .ref r15, .ref r16])), (r5, .inl (cI, 2, .inl Sz)), (r13, .inl (cZ, 2, .inl On)), (r14, .inl (cI, 2, .inl Pl)), (r15, .inl (cI, 2, .inl Sp)), (r16, .inl (cI, 12, .inl Vr))] := hD.sub [5, 0, 1, 2, 3, 4] (by decide) rfl
        rcases hw_29 with ⟨he_29, hv_29⟩ | ⟨he_29, hv_29⟩
        · subst he_29
          exact absurd (by decide) hv_29
        · subst he_29
          refine lv_if_eq (tgt := 36) hx hb de_M_start_32 (by decide) (fun _ => ?_) (fun hc => absurd (by decide) hc)
          have hy1 : y = 1 → ra ≠ 0 := fun _ z => hc_21 (hR.2.2.1.trans z)
          have hSy := (bc_Sy hR hy hy1).1
          have hnn := (bc_nn_le hAB hy hy1).1
          refine lv_aload_n hx hb de_M_start_36 rfl (lv_at hl 0 rfl) ?_
          refine va_get (D := (dC, dI)) (ci := 5) (v := .ref r13) (C := rc_M) (T := fc_M) (N := 19) hx hb htw wi_M hown hK hP 0 rfl rfl 15 (by decide) (htw _ wm_438) (fun _ h9 => h9) rfl de_M_start_37 ?_
          refine lv_iload_n hx hb de_M_start_40 rfl (lv_at hl 1 rfl) ?_
          refine lv_iconst (v := 1) hx hb de_M_start_41 (by decide) ?_
          refine bc_zst (j := y) hx hb hK hP hD hS 2 1 rfl rfl (by decide) (by omega) (by decide) de_M_start_42 (fun H locs hP hD hS => ?_)
          have hP : va_P (dC, dI) classes [(m0, .inr (5, [.int 0, .ref r1, .ref r2, .ref r3, .ref r4, .ref r5, .int rw, .ref r6, .ref r7, .ref r8, .int gw, .ref r9, .ref r10, .ref r11, .ref r12, .ref r13, .ref r14, .ref r15, .ref r16])), (r5, .inl (cI, 2, .inl Sz)), (r13, .inl (cZ, 2, .inl (upd On y 1))), (r14, .inl (cI, 2, .inl Pl)), (r15, .inl (cI, 2, .inl Sp)), (r16, .inl (cI, 12, .inl Vr))] H := hP
          have hD : va_D A [(m0, .inr (5, [.int 0, .ref r1, .ref r2, .ref r3, .ref r4, .ref r5, .int rw, .ref r6, .ref r7, .ref r8, .int gw, .ref r9, .ref r10, .ref r11, .ref r12, .ref r13, .ref r14, .ref r15, .ref r16])), (r5, .inl (cI, 2, .inl Sz)), (r13, .inl (cZ, 2, .inl (upd On y 1))), (r14, .inl (cI, 2, .inl Pl)), (r15, .inl (cI, 2, .inl Sp)), (r16, .inl (cI, 12, .inl Vr))] := hD
          refine lv_aload_n hx hb de_M_start_43 rfl (lv_at hl 0 rfl) ?_
          refine va_get (D := (dC, dI)) (ci := 5) (v := .ref r14) (C := rc_M) (T := fc_M) (N := 19) hx hb htw wi_M hown hK hP 0 rfl rfl 16 (by decide) (htw _ wm_439) (fun _ h9 => h9) rfl de_M_start_44 ?_
          refine lv_iload_n hx hb de_M_start_47 rfl (lv_at hl 1 rfl) ?_
          refine lv_aload_n hx hb de_M_start_48 rfl (lv_at hl 0 rfl) ?_
          refine va_get (D := (dC, dI)) (ci := 5) (v := .ref r5) (C := rc_M) (T := fc_M) (N := 19) hx hb htw wi_M hown hK hP 0 rfl rfl 5 (by decide) (htw _ wm_428) (fun _ h9 => h9) rfl de_M_start_49 ?_
          refine lv_iload_n hx hb de_M_start_52 rfl (lv_at hl 1 rfl) ?_
          refine bc_ild (j := y) hx hb hK hP 1 0 rfl rfl (by omega) (by decide) de_M_start_53 ?_
          refine bc_ti (y := nI (bc_nn n n2 y)) hSy ?_
          refine lv_if_ne (tgt := 61) hx hb de_M_start_54 (by decide) (fun hc_54 => ?_) (fun hc_54 => ?_)
          · refine lv_iconst (v := 0) hx hb de_M_start_61 (by decide) ?_
            refine bc_ti (y := bc_pl (bc_nn n n2 y) 0) (bc_pl1 hnn hc_54) ?_
            refine bc_ist (j := y) hx hb hK hP hD hS 3 0 rfl rfl (by omega) (by decide) de_M_start_62 (fun H locs hP hD hS => ?_)
            have hP : va_P (dC, dI) classes [(m0, .inr (5, [.int 0, .ref r1, .ref r2, .ref r3, .ref r4, .ref r5, .int rw, .ref r6, .ref r7, .ref r8, .int gw, .ref r9, .ref r10, .ref r11, .ref r12, .ref r13, .ref r14, .ref r15, .ref r16])), (r5, .inl (cI, 2, .inl Sz)), (r13, .inl (cZ, 2, .inl (upd On y 1))), (r14, .inl (cI, 2, .inl (upd Pl y (bc_pl (bc_nn n n2 y) 0)))), (r15, .inl (cI, 2, .inl Sp)), (r16, .inl (cI, 12, .inl Vr))] H := hP
            have hD : va_D A [(m0, .inr (5, [.int 0, .ref r1, .ref r2, .ref r3, .ref r4, .ref r5, .int rw, .ref r6, .ref r7, .ref r8, .int gw, .ref r9, .ref r10, .ref r11, .ref r12, .ref r13, .ref r14, .ref r15, .ref r16])), (r5, .inl (cI, 2, .inl Sz)), (r13, .inl (cZ, 2, .inl (upd On y 1))), (r14, .inl (cI, 2, .inl (upd Pl y (bc_pl (bc_nn n n2 y) 0)))), (r15, .inl (cI, 2, .inl Sp)), (r16, .inl (cI, 12, .inl Vr))] := hD
            refine lv_aload_n hx hb de_M_start_63 rfl (lv_at hl 0 rfl) ?_
            refine va_get (D := (dC, dI)) (ci := 5) (v := .ref r15) (C := rc_M) (T := fc_M) (N := 19) hx hb htw wi_M hown hK hP 0 rfl rfl 17 (by decide) (htw _ wm_440) (fun _ h9 => h9) rfl de_M_start_64 ?_
            refine lv_iload_n hx hb de_M_start_67 rfl (lv_at hl 1 rfl) ?_
            refine lv_iconst (v := 0) hx hb de_M_start_68 (by decide) ?_
            refine bc_ist (j := y) hx hb hK hP hD hS 4 0 rfl rfl (by omega) (by decide) de_M_start_69 (fun H locs hP hD hS => ?_)
            have hP : va_P (dC, dI) classes [(m0, .inr (5, [.int 0, .ref r1, .ref r2, .ref r3, .ref r4, .ref r5, .int rw, .ref r6, .ref r7, .ref r8, .int gw, .ref r9, .ref r10, .ref r11, .ref r12, .ref r13, .ref r14, .ref r15, .ref r16])), (r5, .inl (cI, 2, .inl Sz)), (r13, .inl (cZ, 2, .inl (upd On y 1))), (r14, .inl (cI, 2, .inl (upd Pl y (bc_pl (bc_nn n n2 y) 0)))), (r15, .inl (cI, 2, .inl (upd Sp y 0))), (r16, .inl (cI, 12, .inl Vr))] H := hP
            have hD : va_D A [(m0, .inr (5, [.int 0, .ref r1, .ref r2, .ref r3, .ref r4, .ref r5, .int rw, .ref r6, .ref r7, .ref r8, .int gw, .ref r9, .ref r10, .ref r11, .ref r12, .ref r13, .ref r14, .ref r15, .ref r16])), (r5, .inl (cI, 2, .inl Sz)), (r13, .inl (cZ, 2, .inl (upd On y 1))), (r14, .inl (cI, 2, .inl (upd Pl y (bc_pl (bc_nn n n2 y) 0)))), (r15, .inl (cI, 2, .inl (upd Sp y 0))), (r16, .inl (cI, 12, .inl Vr))] := hD
            refine lv_aload_n hx hb de_M_start_70 rfl (lv_at hl 0 rfl) ?_
            refine va_get (D := (dC, dI)) (ci := 5) (v := .ref r16) (C := rc_M) (T := fc_M) (N := 19) hx hb htw wi_M hown hK hP 0 rfl rfl 18 (by decide) (htw _ wm_441) (fun _ h9 => h9) rfl de_M_start_71 ?_
            refine lv_bipush (v := 6) hx hb de_M_start_74 (by decide) ?_
            refine lv_iload_n hx hb de_M_start_76 rfl (lv_at hl 1 rfl) ?_
            refine lv_imul hx hb de_M_start_77 ?_
            refine bc_ti (y := nI (6 * y)) (pk_mul 6 y) ?_
            refine lv_iload_n hx hb de_M_start_78 rfl (lv_at hl 2 rfl) ?_
            refine bc_ist (j := 6 * y) hx hb hK hP hD hS 5 0 rfl rfl (by omega) (by decide) de_M_start_79 (fun H locs hP hD hS => ?_)
            have hP : va_P (dC, dI) classes [(m0, .inr (5, [.int 0, .ref r1, .ref r2, .ref r3, .ref r4, .ref r5, .int rw, .ref r6, .ref r7, .ref r8, .int gw, .ref r9, .ref r10, .ref r11, .ref r12, .ref r13, .ref r14, .ref r15, .ref r16])), (r5, .inl (cI, 2, .inl Sz)), (r13, .inl (cZ, 2, .inl (upd On y 1))), (r14, .inl (cI, 2, .inl (upd Pl y (bc_pl (bc_nn n n2 y) 0)))), (r15, .inl (cI, 2, .inl (upd Sp y 0))), (r16, .inl (cI, 12, .inl (upd Vr (6 * y) a1)))] H := hP
            have hD : va_D A [(m0, .inr (5, [.int 0, .ref r1, .ref r2, .ref r3, .ref r4, .ref r5, .int rw, .ref r6, .ref r7, .ref r8, .int gw, .ref r9, .ref r10, .ref r11, .ref r12, .ref r13, .ref r14, .ref r15, .ref r16])), (r5, .inl (cI, 2, .inl Sz)), (r13, .inl (cZ, 2, .inl (upd On y 1))), (r14, .inl (cI, 2, .inl (upd Pl y (bc_pl (bc_nn n n2 y) 0)))), (r15, .inl (cI, 2, .inl (upd Sp y 0))), (r16, .inl (cI, 12, .inl (upd Vr (6 * y) a1)))] := hD
            refine lv_aload_n hx hb de_M_start_80 rfl (lv_at hl 0 rfl) ?_
            refine va_get (D := (dC, dI)) (ci := 5) (v := .ref r16) (C := rc_M) (T := fc_M) (N := 19) hx hb htw wi_M hown hK hP 0 rfl rfl 18 (by decide) (htw _ wm_441) (fun _ h9 => h9) rfl de_M_start_81 ?_
            refine lv_bipush (v := 6) hx hb de_M_start_84 (by decide) ?_
            refine lv_iload_n hx hb de_M_start_86 rfl (lv_at hl 1 rfl) ?_
            refine lv_imul hx hb de_M_start_87 ?_
            refine bc_ti (y := nI (6 * y)) (pk_mul 6 y) ?_
            refine lv_iconst (v := 1) hx hb de_M_start_88 (by decide) ?_
            refine lv_iadd hx hb de_M_start_89 ?_
            refine bc_ti (y := nI ((6 * y) + 1)) (nI_add (6 * y) 1) ?_
            refine lv_iload_n hx hb de_M_start_90 rfl (lv_at hl 3 rfl) ?_
            refine bc_ist (j := (6 * y) + 1) hx hb hK hP hD hS 5 0 rfl rfl (by omega) (by decide) de_M_start_91 (fun H locs hP hD hS => ?_)
            have hP : va_P (dC, dI) classes [(m0, .inr (5, [.int 0, .ref r1, .ref r2, .ref r3, .ref r4, .ref r5, .int rw, .ref r6, .ref r7, .ref r8, .int gw, .ref r9, .ref r10, .ref r11, .ref r12, .ref r13, .ref r14, .ref r15, .ref r16])), (r5, .inl (cI, 2, .inl Sz)), (r13, .inl (cZ, 2, .inl (upd On y 1))), (r14, .inl (cI, 2, .inl (upd Pl y (bc_pl (bc_nn n n2 y) 0)))), (r15, .inl (cI, 2, .inl (upd Sp y 0))), (r16, .inl (cI, 12, .inl (upd (upd Vr (6 * y) a1) ((6 * y) + 1) b1)))] H := hP
            have hD : va_D A [(m0, .inr (5, [.int 0, .ref r1, .ref r2, .ref r3, .ref r4, .ref r5, .int rw, .ref r6, .ref r7, .ref r8, .int gw, .ref r9, .ref r10, .ref r11, .ref r12, .ref r13, .ref r14, .ref r15, .ref r16])), (r5, .inl (cI, 2, .inl Sz)), (r13, .inl (cZ, 2, .inl (upd On y 1))), (r14, .inl (cI, 2, .inl (upd Pl y (bc_pl (bc_nn n n2 y) 0)))), (r15, .inl (cI, 2, .inl (upd Sp y 0))), (r16, .inl (cI, 12, .inl (upd (upd Vr (6 * y) a1) ((6 * y) + 1) b1)))] := hD
            refine lv_aload_n hx hb de_M_start_92 rfl (lv_at hl 0 rfl) ?_
            refine va_get (D := (dC, dI)) (ci := 5) (v := .ref r16) (C := rc_M) (T := fc_M) (N := 19) hx hb htw wi_M hown hK hP 0 rfl rfl 18 (by decide) (htw _ wm_441) (fun _ h9 => h9) rfl de_M_start_93 ?_
            refine lv_bipush (v := 6) hx hb de_M_start_96 (by decide) ?_
            refine lv_iload_n hx hb de_M_start_98 rfl (lv_at hl 1 rfl) ?_
            refine lv_imul hx hb de_M_start_99 ?_
            refine bc_ti (y := nI (6 * y)) (pk_mul 6 y) ?_
            refine lv_iconst (v := 2) hx hb de_M_start_100 (by decide) ?_
            refine lv_iadd hx hb de_M_start_101 ?_
            refine bc_ti (y := nI ((6 * y) + 2)) (nI_add (6 * y) 2) ?_
            refine lv_iload hx hb de_M_start_102 (lv_at hl 4 rfl) ?_
            refine bc_ist (j := (6 * y) + 2) hx hb hK hP hD hS 5 0 rfl rfl (by omega) (by decide) de_M_start_104 (fun H locs hP hD hS => ?_)
            have hP : va_P (dC, dI) classes [(m0, .inr (5, [.int 0, .ref r1, .ref r2, .ref r3, .ref r4, .ref r5, .int rw, .ref r6, .ref r7, .ref r8, .int gw, .ref r9, .ref r10, .ref r11, .ref r12, .ref r13, .ref r14, .ref r15, .ref r16])), (r5, .inl (cI, 2, .inl Sz)), (r13, .inl (cZ, 2, .inl (upd On y 1))), (r14, .inl (cI, 2, .inl (upd Pl y (bc_pl (bc_nn n n2 y) 0)))), (r15, .inl (cI, 2, .inl (upd Sp y 0))), (r16, .inl (cI, 12, .inl (upd (upd (upd Vr (6 * y) a1) ((6 * y) + 1) b1) ((6 * y) + 2) c1)))] H := hP
            have hD : va_D A [(m0, .inr (5, [.int 0, .ref r1, .ref r2, .ref r3, .ref r4, .ref r5, .int rw, .ref r6, .ref r7, .ref r8, .int gw, .ref r9, .ref r10, .ref r11, .ref r12, .ref r13, .ref r14, .ref r15, .ref r16])), (r5, .inl (cI, 2, .inl Sz)), (r13, .inl (cZ, 2, .inl (upd On y 1))), (r14, .inl (cI, 2, .inl (upd Pl y (bc_pl (bc_nn n n2 y) 0)))), (r15, .inl (cI, 2, .inl (upd Sp y 0))), (r16, .inl (cI, 12, .inl (upd (upd (upd Vr (6 * y) a1) ((6 * y) + 1) b1) ((6 * y) + 2) c1)))] := hD
            refine lv_aload_n hx hb de_M_start_105 rfl (lv_at hl 0 rfl) ?_
            refine va_get (D := (dC, dI)) (ci := 5) (v := .ref r16) (C := rc_M) (T := fc_M) (N := 19) hx hb htw wi_M hown hK hP 0 rfl rfl 18 (by decide) (htw _ wm_441) (fun _ h9 => h9) rfl de_M_start_106 ?_
            refine lv_bipush (v := 6) hx hb de_M_start_109 (by decide) ?_
            refine lv_iload_n hx hb de_M_start_111 rfl (lv_at hl 1 rfl) ?_
            refine lv_imul hx hb de_M_start_112 ?_
            refine bc_ti (y := nI (6 * y)) (pk_mul 6 y) ?_
            refine lv_iconst (v := 3) hx hb de_M_start_113 (by decide) ?_
            refine lv_iadd hx hb de_M_start_114 ?_
            refine bc_ti (y := nI ((6 * y) + 3)) (nI_add (6 * y) 3) ?_
            refine lv_iload hx hb de_M_start_115 (lv_at hl 5 rfl) ?_
            refine bc_ist (j := (6 * y) + 3) hx hb hK hP hD hS 5 0 rfl rfl (by omega) (by decide) de_M_start_117 (fun H locs hP hD hS => ?_)
            have hP : va_P (dC, dI) classes [(m0, .inr (5, [.int 0, .ref r1, .ref r2, .ref r3, .ref r4, .ref r5, .int rw, .ref r6, .ref r7, .ref r8, .int gw, .ref r9, .ref r10, .ref r11, .ref r12, .ref r13, .ref r14, .ref r15, .ref r16])), (r5, .inl (cI, 2, .inl Sz)), (r13, .inl (cZ, 2, .inl (upd On y 1))), (r14, .inl (cI, 2, .inl (upd Pl y (bc_pl (bc_nn n n2 y) 0)))), (r15, .inl (cI, 2, .inl (upd Sp y 0))), (r16, .inl (cI, 12, .inl (upd (upd (upd (upd Vr (6 * y) a1) ((6 * y) + 1) b1) ((6 * y) + 2) c1) ((6 * y) + 3) d1)))] H := hP
            have hD : va_D A [(m0, .inr (5, [.int 0, .ref r1, .ref r2, .ref r3, .ref r4, .ref r5, .int rw, .ref r6, .ref r7, .ref r8, .int gw, .ref r9, .ref r10, .ref r11, .ref r12, .ref r13, .ref r14, .ref r15, .ref r16])), (r5, .inl (cI, 2, .inl Sz)), (r13, .inl (cZ, 2, .inl (upd On y 1))), (r14, .inl (cI, 2, .inl (upd Pl y (bc_pl (bc_nn n n2 y) 0)))), (r15, .inl (cI, 2, .inl (upd Sp y 0))), (r16, .inl (cI, 12, .inl (upd (upd (upd (upd Vr (6 * y) a1) ((6 * y) + 1) b1) ((6 * y) + 2) c1) ((6 * y) + 3) d1)))] := hD
            refine lv_aload_n hx hb de_M_start_118 rfl (lv_at hl 0 rfl) ?_
            refine va_get (D := (dC, dI)) (ci := 5) (v := .ref r16) (C := rc_M) (T := fc_M) (N := 19) hx hb htw wi_M hown hK hP 0 rfl rfl 18 (by decide) (htw _ wm_441) (fun _ h9 => h9) rfl de_M_start_119 ?_
            refine lv_bipush (v := 6) hx hb de_M_start_122 (by decide) ?_
            refine lv_iload_n hx hb de_M_start_124 rfl (lv_at hl 1 rfl) ?_
            refine lv_imul hx hb de_M_start_125 ?_
            refine bc_ti (y := nI (6 * y)) (pk_mul 6 y) ?_
            refine lv_iconst (v := 4) hx hb de_M_start_126 (by decide) ?_
            refine lv_iadd hx hb de_M_start_127 ?_
            refine bc_ti (y := nI ((6 * y) + 4)) (nI_add (6 * y) 4) ?_
            refine lv_iconst (v := 0) hx hb de_M_start_128 (by decide) ?_
            refine bc_ist (j := (6 * y) + 4) hx hb hK hP hD hS 5 0 rfl rfl (by omega) (by decide) de_M_start_129 (fun H locs hP hD hS => ?_)
            have hP : va_P (dC, dI) classes [(m0, .inr (5, [.int 0, .ref r1, .ref r2, .ref r3, .ref r4, .ref r5, .int rw, .ref r6, .ref r7, .ref r8, .int gw, .ref r9, .ref r10, .ref r11, .ref r12, .ref r13, .ref r14, .ref r15, .ref r16])), (r5, .inl (cI, 2, .inl Sz)), (r13, .inl (cZ, 2, .inl (upd On y 1))), (r14, .inl (cI, 2, .inl (upd Pl y (bc_pl (bc_nn n n2 y) 0)))), (r15, .inl (cI, 2, .inl (upd Sp y 0))), (r16, .inl (cI, 12, .inl (upd (upd (upd (upd (upd Vr (6 * y) a1) ((6 * y) + 1) b1) ((6 * y) + 2) c1) ((6 * y) + 3) d1) ((6 * y) + 4) 0)))] H := hP
            have hD : va_D A [(m0, .inr (5, [.int 0, .ref r1, .ref r2, .ref r3, .ref r4, .ref r5, .int rw, .ref r6, .ref r7, .ref r8, .int gw, .ref r9, .ref r10, .ref r11, .ref r12, .ref r13, .ref r14, .ref r15, .ref r16])), (r5, .inl (cI, 2, .inl Sz)), (r13, .inl (cZ, 2, .inl (upd On y 1))), (r14, .inl (cI, 2, .inl (upd Pl y (bc_pl (bc_nn n n2 y) 0)))), (r15, .inl (cI, 2, .inl (upd Sp y 0))), (r16, .inl (cI, 12, .inl (upd (upd (upd (upd (upd Vr (6 * y) a1) ((6 * y) + 1) b1) ((6 * y) + 2) c1) ((6 * y) + 3) d1) ((6 * y) + 4) 0)))] := hD
            refine lv_aload_n hx hb de_M_start_130 rfl (lv_at hl 0 rfl) ?_
            refine va_get (D := (dC, dI)) (ci := 5) (v := .ref r16) (C := rc_M) (T := fc_M) (N := 19) hx hb htw wi_M hown hK hP 0 rfl rfl 18 (by decide) (htw _ wm_441) (fun _ h9 => h9) rfl de_M_start_131 ?_
            refine lv_bipush (v := 6) hx hb de_M_start_134 (by decide) ?_
            refine lv_iload_n hx hb de_M_start_136 rfl (lv_at hl 1 rfl) ?_
            refine lv_imul hx hb de_M_start_137 ?_
            refine bc_ti (y := nI (6 * y)) (pk_mul 6 y) ?_
            refine lv_iconst (v := 5) hx hb de_M_start_138 (by decide) ?_
            refine lv_iadd hx hb de_M_start_139 ?_
            refine bc_ti (y := nI ((6 * y) + 5)) (nI_add (6 * y) 5) ?_
            refine lv_iconst (v := 0) hx hb de_M_start_140 (by decide) ?_
            refine bc_ist (j := (6 * y) + 5) hx hb hK hP hD hS 5 0 rfl rfl (by omega) (by decide) de_M_start_141 (fun H locs hP hD hS => ?_)
            have hP : va_P (dC, dI) classes [(m0, .inr (5, [.int 0, .ref r1, .ref r2, .ref r3, .ref r4, .ref r5, .int rw, .ref r6, .ref r7, .ref r8, .int gw, .ref r9, .ref r10, .ref r11, .ref r12, .ref r13, .ref r14, .ref r15, .ref r16])), (r5, .inl (cI, 2, .inl Sz)), (r13, .inl (cZ, 2, .inl (upd On y 1))), (r14, .inl (cI, 2, .inl (upd Pl y (bc_pl (bc_nn n n2 y) 0)))), (r15, .inl (cI, 2, .inl (upd Sp y 0))), (r16, .inl (cI, 12, .inl (upd (upd (upd (upd (upd (upd Vr (6 * y) a1) ((6 * y) + 1) b1) ((6 * y) + 2) c1) ((6 * y) + 3) d1) ((6 * y) + 4) 0) ((6 * y) + 5) 0)))] H := hP
            have hD : va_D A [(m0, .inr (5, [.int 0, .ref r1, .ref r2, .ref r3, .ref r4, .ref r5, .int rw, .ref r6, .ref r7, .ref r8, .int gw, .ref r9, .ref r10, .ref r11, .ref r12, .ref r13, .ref r14, .ref r15, .ref r16])), (r5, .inl (cI, 2, .inl Sz)), (r13, .inl (cZ, 2, .inl (upd On y 1))), (r14, .inl (cI, 2, .inl (upd Pl y (bc_pl (bc_nn n n2 y) 0)))), (r15, .inl (cI, 2, .inl (upd Sp y 0))), (r16, .inl (cI, 12, .inl (upd (upd (upd (upd (upd (upd Vr (6 * y) a1) ((6 * y) + 1) b1) ((6 * y) + 2) c1) ((6 * y) + 3) d1) ((6 * y) + 4) 0) ((6 * y) + 5) 0)))] := hD
            exact bc_vret F hr hlocks ((0, upd On y 1, upd Pl y (bc_pl (bc_nn n n2 y) 0), upd Sp y 0, bc_vx Vr y a1 b1 c1 d1)) (Or.inr (Or.inr ⟨y, hy, rfl, hy1, rfl, fun X1 hX => bc_MR_start hR hy X1 hX⟩)) hP hD hS de_M_start_142
          · refine lv_iconst (v := (-1)) hx hb de_M_start_57 (by decide) ?_
            refine bc_ti (y := bc_pl (bc_nn n n2 y) 0) (bc_pl0 hnn hc_54) ?_
            refine lv_goto (tgt := 62) hx hb de_M_start_58 (by decide) ?_
            refine bc_ist (j := y) hx hb hK hP hD hS 3 0 rfl rfl (by omega) (by decide) de_M_start_62 (fun H locs hP hD hS => ?_)
            have hP : va_P (dC, dI) classes [(m0, .inr (5, [.int 0, .ref r1, .ref r2, .ref r3, .ref r4, .ref r5, .int rw, .ref r6, .ref r7, .ref r8, .int gw, .ref r9, .ref r10, .ref r11, .ref r12, .ref r13, .ref r14, .ref r15, .ref r16])), (r5, .inl (cI, 2, .inl Sz)), (r13, .inl (cZ, 2, .inl (upd On y 1))), (r14, .inl (cI, 2, .inl (upd Pl y (bc_pl (bc_nn n n2 y) 0)))), (r15, .inl (cI, 2, .inl Sp)), (r16, .inl (cI, 12, .inl Vr))] H := hP
            have hD : va_D A [(m0, .inr (5, [.int 0, .ref r1, .ref r2, .ref r3, .ref r4, .ref r5, .int rw, .ref r6, .ref r7, .ref r8, .int gw, .ref r9, .ref r10, .ref r11, .ref r12, .ref r13, .ref r14, .ref r15, .ref r16])), (r5, .inl (cI, 2, .inl Sz)), (r13, .inl (cZ, 2, .inl (upd On y 1))), (r14, .inl (cI, 2, .inl (upd Pl y (bc_pl (bc_nn n n2 y) 0)))), (r15, .inl (cI, 2, .inl Sp)), (r16, .inl (cI, 12, .inl Vr))] := hD
            refine lv_aload_n hx hb de_M_start_63 rfl (lv_at hl 0 rfl) ?_
            refine va_get (D := (dC, dI)) (ci := 5) (v := .ref r15) (C := rc_M) (T := fc_M) (N := 19) hx hb htw wi_M hown hK hP 0 rfl rfl 17 (by decide) (htw _ wm_440) (fun _ h9 => h9) rfl de_M_start_64 ?_
            refine lv_iload_n hx hb de_M_start_67 rfl (lv_at hl 1 rfl) ?_
            refine lv_iconst (v := 0) hx hb de_M_start_68 (by decide) ?_
            refine bc_ist (j := y) hx hb hK hP hD hS 4 0 rfl rfl (by omega) (by decide) de_M_start_69 (fun H locs hP hD hS => ?_)
            have hP : va_P (dC, dI) classes [(m0, .inr (5, [.int 0, .ref r1, .ref r2, .ref r3, .ref r4, .ref r5, .int rw, .ref r6, .ref r7, .ref r8, .int gw, .ref r9, .ref r10, .ref r11, .ref r12, .ref r13, .ref r14, .ref r15, .ref r16])), (r5, .inl (cI, 2, .inl Sz)), (r13, .inl (cZ, 2, .inl (upd On y 1))), (r14, .inl (cI, 2, .inl (upd Pl y (bc_pl (bc_nn n n2 y) 0)))), (r15, .inl (cI, 2, .inl (upd Sp y 0))), (r16, .inl (cI, 12, .inl Vr))] H := hP
            have hD : va_D A [(m0, .inr (5, [.int 0, .ref r1, .ref r2, .ref r3, .ref r4, .ref r5, .int rw, .ref r6, .ref r7, .ref r8, .int gw, .ref r9, .ref r10, .ref r11, .ref r12, .ref r13, .ref r14, .ref r15, .ref r16])), (r5, .inl (cI, 2, .inl Sz)), (r13, .inl (cZ, 2, .inl (upd On y 1))), (r14, .inl (cI, 2, .inl (upd Pl y (bc_pl (bc_nn n n2 y) 0)))), (r15, .inl (cI, 2, .inl (upd Sp y 0))), (r16, .inl (cI, 12, .inl Vr))] := hD
            refine lv_aload_n hx hb de_M_start_70 rfl (lv_at hl 0 rfl) ?_
            refine va_get (D := (dC, dI)) (ci := 5) (v := .ref r16) (C := rc_M) (T := fc_M) (N := 19) hx hb htw wi_M hown hK hP 0 rfl rfl 18 (by decide) (htw _ wm_441) (fun _ h9 => h9) rfl de_M_start_71 ?_
            refine lv_bipush (v := 6) hx hb de_M_start_74 (by decide) ?_
            refine lv_iload_n hx hb de_M_start_76 rfl (lv_at hl 1 rfl) ?_
            refine lv_imul hx hb de_M_start_77 ?_
            refine bc_ti (y := nI (6 * y)) (pk_mul 6 y) ?_
            refine lv_iload_n hx hb de_M_start_78 rfl (lv_at hl 2 rfl) ?_
            refine bc_ist (j := 6 * y) hx hb hK hP hD hS 5 0 rfl rfl (by omega) (by decide) de_M_start_79 (fun H locs hP hD hS => ?_)
            have hP : va_P (dC, dI) classes [(m0, .inr (5, [.int 0, .ref r1, .ref r2, .ref r3, .ref r4, .ref r5, .int rw, .ref r6, .ref r7, .ref r8, .int gw, .ref r9, .ref r10, .ref r11, .ref r12, .ref r13, .ref r14, .ref r15, .ref r16])), (r5, .inl (cI, 2, .inl Sz)), (r13, .inl (cZ, 2, .inl (upd On y 1))), (r14, .inl (cI, 2, .inl (upd Pl y (bc_pl (bc_nn n n2 y) 0)))), (r15, .inl (cI, 2, .inl (upd Sp y 0))), (r16, .inl (cI, 12, .inl (upd Vr (6 * y) a1)))] H := hP
            have hD : va_D A [(m0, .inr (5, [.int 0, .ref r1, .ref r2, .ref r3, .ref r4, .ref r5, .int rw, .ref r6, .ref r7, .ref r8, .int gw, .ref r9, .ref r10, .ref r11, .ref r12, .ref r13, .ref r14, .ref r15, .ref r16])), (r5, .inl (cI, 2, .inl Sz)), (r13, .inl (cZ, 2, .inl (upd On y 1))), (r14, .inl (cI, 2, .inl (upd Pl y (bc_pl (bc_nn n n2 y) 0)))), (r15, .inl (cI, 2, .inl (upd Sp y 0))), (r16, .inl (cI, 12, .inl (upd Vr (6 * y) a1)))] := hD
            refine lv_aload_n hx hb de_M_start_80 rfl (lv_at hl 0 rfl) ?_
            refine va_get (D := (dC, dI)) (ci := 5) (v := .ref r16) (C := rc_M) (T := fc_M) (N := 19) hx hb htw wi_M hown hK hP 0 rfl rfl 18 (by decide) (htw _ wm_441) (fun _ h9 => h9) rfl de_M_start_81 ?_
            refine lv_bipush (v := 6) hx hb de_M_start_84 (by decide) ?_
            refine lv_iload_n hx hb de_M_start_86 rfl (lv_at hl 1 rfl) ?_
            refine lv_imul hx hb de_M_start_87 ?_
            refine bc_ti (y := nI (6 * y)) (pk_mul 6 y) ?_
            refine lv_iconst (v := 1) hx hb de_M_start_88 (by decide) ?_
            refine lv_iadd hx hb de_M_start_89 ?_
            refine bc_ti (y := nI ((6 * y) + 1)) (nI_add (6 * y) 1) ?_
            refine lv_iload_n hx hb de_M_start_90 rfl (lv_at hl 3 rfl) ?_
            refine bc_ist (j := (6 * y) + 1) hx hb hK hP hD hS 5 0 rfl rfl (by omega) (by decide) de_M_start_91 (fun H locs hP hD hS => ?_)
            have hP : va_P (dC, dI) classes [(m0, .inr (5, [.int 0, .ref r1, .ref r2, .ref r3, .ref r4, .ref r5, .int rw, .ref r6, .ref r7, .ref r8, .int gw, .ref r9, .ref r10, .ref r11, .ref r12, .ref r13, .ref r14, .ref r15, .ref r16])), (r5, .inl (cI, 2, .inl Sz)), (r13, .inl (cZ, 2, .inl (upd On y 1))), (r14, .inl (cI, 2, .inl (upd Pl y (bc_pl (bc_nn n n2 y) 0)))), (r15, .inl (cI, 2, .inl (upd Sp y 0))), (r16, .inl (cI, 12, .inl (upd (upd Vr (6 * y) a1) ((6 * y) + 1) b1)))] H := hP
            have hD : va_D A [(m0, .inr (5, [.int 0, .ref r1, .ref r2, .ref r3, .ref r4, .ref r5, .int rw, .ref r6, .ref r7, .ref r8, .int gw, .ref r9, .ref r10, .ref r11, .ref r12, .ref r13, .ref r14, .ref r15, .ref r16])), (r5, .inl (cI, 2, .inl Sz)), (r13, .inl (cZ, 2, .inl (upd On y 1))), (r14, .inl (cI, 2, .inl (upd Pl y (bc_pl (bc_nn n n2 y) 0)))), (r15, .inl (cI, 2, .inl (upd Sp y 0))), (r16, .inl (cI, 12, .inl (upd (upd Vr (6 * y) a1) ((6 * y) + 1) b1)))] := hD
            refine lv_aload_n hx hb de_M_start_92 rfl (lv_at hl 0 rfl) ?_
            refine va_get (D := (dC, dI)) (ci := 5) (v := .ref r16) (C := rc_M) (T := fc_M) (N := 19) hx hb htw wi_M hown hK hP 0 rfl rfl 18 (by decide) (htw _ wm_441) (fun _ h9 => h9) rfl de_M_start_93 ?_
            refine lv_bipush (v := 6) hx hb de_M_start_96 (by decide) ?_
            refine lv_iload_n hx hb de_M_start_98 rfl (lv_at hl 1 rfl) ?_
            refine lv_imul hx hb de_M_start_99 ?_
            refine bc_ti (y := nI (6 * y)) (pk_mul 6 y) ?_
            refine lv_iconst (v := 2) hx hb de_M_start_100 (by decide) ?_
            refine lv_iadd hx hb de_M_start_101 ?_
            refine bc_ti (y := nI ((6 * y) + 2)) (nI_add (6 * y) 2) ?_
            refine lv_iload hx hb de_M_start_102 (lv_at hl 4 rfl) ?_
            refine bc_ist (j := (6 * y) + 2) hx hb hK hP hD hS 5 0 rfl rfl (by omega) (by decide) de_M_start_104 (fun H locs hP hD hS => ?_)
            have hP : va_P (dC, dI) classes [(m0, .inr (5, [.int 0, .ref r1, .ref r2, .ref r3, .ref r4, .ref r5, .int rw, .ref r6, .ref r7, .ref r8, .int gw, .ref r9, .ref r10, .ref r11, .ref r12, .ref r13, .ref r14, .ref r15, .ref r16])), (r5, .inl (cI, 2, .inl Sz)), (r13, .inl (cZ, 2, .inl (upd On y 1))), (r14, .inl (cI, 2, .inl (upd Pl y (bc_pl (bc_nn n n2 y) 0)))), (r15, .inl (cI, 2, .inl (upd Sp y 0))), (r16, .inl (cI, 12, .inl (upd (upd (upd Vr (6 * y) a1) ((6 * y) + 1) b1) ((6 * y) + 2) c1)))] H := hP
            have hD : va_D A [(m0, .inr (5, [.int 0, .ref r1, .ref r2, .ref r3, .ref r4, .ref r5, .int rw, .ref r6, .ref r7, .ref r8, .int gw, .ref r9, .ref r10, .ref r11, .ref r12, .ref r13, .ref r14, .ref r15, .ref r16])), (r5, .inl (cI, 2, .inl Sz)), (r13, .inl (cZ, 2, .inl (upd On y 1))), (r14, .inl (cI, 2, .inl (upd Pl y (bc_pl (bc_nn n n2 y) 0)))), (r15, .inl (cI, 2, .inl (upd Sp y 0))), (r16, .inl (cI, 12, .inl (upd (upd (upd Vr (6 * y) a1) ((6 * y) + 1) b1) ((6 * y) + 2) c1)))] := hD
            refine lv_aload_n hx hb de_M_start_105 rfl (lv_at hl 0 rfl) ?_
            refine va_get (D := (dC, dI)) (ci := 5) (v := .ref r16) (C := rc_M) (T := fc_M) (N := 19) hx hb htw wi_M hown hK hP 0 rfl rfl 18 (by decide) (htw _ wm_441) (fun _ h9 => h9) rfl de_M_start_106 ?_
            refine lv_bipush (v := 6) hx hb de_M_start_109 (by decide) ?_
            refine lv_iload_n hx hb de_M_start_111 rfl (lv_at hl 1 rfl) ?_
            refine lv_imul hx hb de_M_start_112 ?_
            refine bc_ti (y := nI (6 * y)) (pk_mul 6 y) ?_
            refine lv_iconst (v := 3) hx hb de_M_start_113 (by decide) ?_
            refine lv_iadd hx hb de_M_start_114 ?_
            refine bc_ti (y := nI ((6 * y) + 3)) (nI_add (6 * y) 3) ?_
            refine lv_iload hx hb de_M_start_115 (lv_at hl 5 rfl) ?_
            refine bc_ist (j := (6 * y) + 3) hx hb hK hP hD hS 5 0 rfl rfl (by omega) (by decide) de_M_start_117 (fun H locs hP hD hS => ?_)
            have hP : va_P (dC, dI) classes [(m0, .inr (5, [.int 0, .ref r1, .ref r2, .ref r3, .ref r4, .ref r5, .int rw, .ref r6, .ref r7, .ref r8, .int gw, .ref r9, .ref r10, .ref r11, .ref r12, .ref r13, .ref r14, .ref r15, .ref r16])), (r5, .inl (cI, 2, .inl Sz)), (r13, .inl (cZ, 2, .inl (upd On y 1))), (r14, .inl (cI, 2, .inl (upd Pl y (bc_pl (bc_nn n n2 y) 0)))), (r15, .inl (cI, 2, .inl (upd Sp y 0))), (r16, .inl (cI, 12, .inl (upd (upd (upd (upd Vr (6 * y) a1) ((6 * y) + 1) b1) ((6 * y) + 2) c1) ((6 * y) + 3) d1)))] H := hP
            have hD : va_D A [(m0, .inr (5, [.int 0, .ref r1, .ref r2, .ref r3, .ref r4, .ref r5, .int rw, .ref r6, .ref r7, .ref r8, .int gw, .ref r9, .ref r10, .ref r11, .ref r12, .ref r13, .ref r14, .ref r15, .ref r16])), (r5, .inl (cI, 2, .inl Sz)), (r13, .inl (cZ, 2, .inl (upd On y 1))), (r14, .inl (cI, 2, .inl (upd Pl y (bc_pl (bc_nn n n2 y) 0)))), (r15, .inl (cI, 2, .inl (upd Sp y 0))), (r16, .inl (cI, 12, .inl (upd (upd (upd (upd Vr (6 * y) a1) ((6 * y) + 1) b1) ((6 * y) + 2) c1) ((6 * y) + 3) d1)))] := hD
            refine lv_aload_n hx hb de_M_start_118 rfl (lv_at hl 0 rfl) ?_
            refine va_get (D := (dC, dI)) (ci := 5) (v := .ref r16) (C := rc_M) (T := fc_M) (N := 19) hx hb htw wi_M hown hK hP 0 rfl rfl 18 (by decide) (htw _ wm_441) (fun _ h9 => h9) rfl de_M_start_119 ?_
            refine lv_bipush (v := 6) hx hb de_M_start_122 (by decide) ?_
            refine lv_iload_n hx hb de_M_start_124 rfl (lv_at hl 1 rfl) ?_
            refine lv_imul hx hb de_M_start_125 ?_
            refine bc_ti (y := nI (6 * y)) (pk_mul 6 y) ?_
            refine lv_iconst (v := 4) hx hb de_M_start_126 (by decide) ?_
            refine lv_iadd hx hb de_M_start_127 ?_
            refine bc_ti (y := nI ((6 * y) + 4)) (nI_add (6 * y) 4) ?_
            refine lv_iconst (v := 0) hx hb de_M_start_128 (by decide) ?_
            refine bc_ist (j := (6 * y) + 4) hx hb hK hP hD hS 5 0 rfl rfl (by omega) (by decide) de_M_start_129 (fun H locs hP hD hS => ?_)
            have hP : va_P (dC, dI) classes [(m0, .inr (5, [.int 0, .ref r1, .ref r2, .ref r3, .ref r4, .ref r5, .int rw, .ref r6, .ref r7, .ref r8, .int gw, .ref r9, .ref r10, .ref r11, .ref r12, .ref r13, .ref r14, .ref r15, .ref r16])), (r5, .inl (cI, 2, .inl Sz)), (r13, .inl (cZ, 2, .inl (upd On y 1))), (r14, .inl (cI, 2, .inl (upd Pl y (bc_pl (bc_nn n n2 y) 0)))), (r15, .inl (cI, 2, .inl (upd Sp y 0))), (r16, .inl (cI, 12, .inl (upd (upd (upd (upd (upd Vr (6 * y) a1) ((6 * y) + 1) b1) ((6 * y) + 2) c1) ((6 * y) + 3) d1) ((6 * y) + 4) 0)))] H := hP
            have hD : va_D A [(m0, .inr (5, [.int 0, .ref r1, .ref r2, .ref r3, .ref r4, .ref r5, .int rw, .ref r6, .ref r7, .ref r8, .int gw, .ref r9, .ref r10, .ref r11, .ref r12, .ref r13, .ref r14, .ref r15, .ref r16])), (r5, .inl (cI, 2, .inl Sz)), (r13, .inl (cZ, 2, .inl (upd On y 1))), (r14, .inl (cI, 2, .inl (upd Pl y (bc_pl (bc_nn n n2 y) 0)))), (r15, .inl (cI, 2, .inl (upd Sp y 0))), (r16, .inl (cI, 12, .inl (upd (upd (upd (upd (upd Vr (6 * y) a1) ((6 * y) + 1) b1) ((6 * y) + 2) c1) ((6 * y) + 3) d1) ((6 * y) + 4) 0)))] := hD
            refine lv_aload_n hx hb de_M_start_130 rfl (lv_at hl 0 rfl) ?_
            refine va_get (D := (dC, dI)) (ci := 5) (v := .ref r16) (C := rc_M) (T := fc_M) (N := 19) hx hb htw wi_M hown hK hP 0 rfl rfl 18 (by decide) (htw _ wm_441) (fun _ h9 => h9) rfl de_M_start_131 ?_
            refine lv_bipush (v := 6) hx hb de_M_start_134 (by decide) ?_
            refine lv_iload_n hx hb de_M_start_136 rfl (lv_at hl 1 rfl) ?_
            refine lv_imul hx hb de_M_start_137 ?_
            refine bc_ti (y := nI (6 * y)) (pk_mul 6 y) ?_
            refine lv_iconst (v := 5) hx hb de_M_start_138 (by decide) ?_
            refine lv_iadd hx hb de_M_start_139 ?_
            refine bc_ti (y := nI ((6 * y) + 5)) (nI_add (6 * y) 5) ?_
            refine lv_iconst (v := 0) hx hb de_M_start_140 (by decide) ?_
            refine bc_ist (j := (6 * y) + 5) hx hb hK hP hD hS 5 0 rfl rfl (by omega) (by decide) de_M_start_141 (fun H locs hP hD hS => ?_)
            have hP : va_P (dC, dI) classes [(m0, .inr (5, [.int 0, .ref r1, .ref r2, .ref r3, .ref r4, .ref r5, .int rw, .ref r6, .ref r7, .ref r8, .int gw, .ref r9, .ref r10, .ref r11, .ref r12, .ref r13, .ref r14, .ref r15, .ref r16])), (r5, .inl (cI, 2, .inl Sz)), (r13, .inl (cZ, 2, .inl (upd On y 1))), (r14, .inl (cI, 2, .inl (upd Pl y (bc_pl (bc_nn n n2 y) 0)))), (r15, .inl (cI, 2, .inl (upd Sp y 0))), (r16, .inl (cI, 12, .inl (upd (upd (upd (upd (upd (upd Vr (6 * y) a1) ((6 * y) + 1) b1) ((6 * y) + 2) c1) ((6 * y) + 3) d1) ((6 * y) + 4) 0) ((6 * y) + 5) 0)))] H := hP
            have hD : va_D A [(m0, .inr (5, [.int 0, .ref r1, .ref r2, .ref r3, .ref r4, .ref r5, .int rw, .ref r6, .ref r7, .ref r8, .int gw, .ref r9, .ref r10, .ref r11, .ref r12, .ref r13, .ref r14, .ref r15, .ref r16])), (r5, .inl (cI, 2, .inl Sz)), (r13, .inl (cZ, 2, .inl (upd On y 1))), (r14, .inl (cI, 2, .inl (upd Pl y (bc_pl (bc_nn n n2 y) 0)))), (r15, .inl (cI, 2, .inl (upd Sp y 0))), (r16, .inl (cI, 12, .inl (upd (upd (upd (upd (upd (upd Vr (6 * y) a1) ((6 * y) + 1) b1) ((6 * y) + 2) c1) ((6 * y) + 3) d1) ((6 * y) + 4) 0) ((6 * y) + 5) 0)))] := hD
            exact bc_vret F hr hlocks ((0, upd On y 1, upd Pl y (bc_pl (bc_nn n n2 y) 0), upd Sp y 0, bc_vx Vr y a1 b1 c1 d1)) (Or.inr (Or.inr ⟨y, hy, rfl, hy1, rfl, fun X1 hX => bc_MR_start hR hy X1 hX⟩)) hP hD hS de_M_start_142
      · refine lv_iconst (v := 2) hx hb de_M_start_24 (by decide) ?_
        refine lv_goto (tgt := 29) hx hb de_M_start_25 (by decide) ?_
        refine bc_call_v_i (As := [.int 2]) (rest := []) (wr := [(r5, .inl (cI, 2, .inl Sz)), (r13, .inl (cZ, 2, .inl On)), (r14, .inl (cI, 2, .inl Pl)), (r15, .inl (cI, 2, .inl Sp)), (r16, .inl (cI, 12, .inl Vr))]) F (co_M_refused) wm_478 wm_6 wm_476 wm_477 wm_630 0 rfl rfl pd_M_refused rfl rfl ⟨Nat.le_of_ble_eq_true rfl, Nat.le_of_ble_eq_true rfl⟩ hP hD hS hA [0] [1, 2, 3, 4, 5] rfl rfl rfl rfl (by decide) rfl hl.1 rfl (Nat.le_of_ble_eq_true rfl) de_M_start_29 ⟨Nat.le_of_ble_eq_true rfl, Nat.le_of_ble_eq_true rfl⟩ (fun r_29 u_29 H locs hw_29 hP hD hS => ?_)
        have hP : va_P (dC, dI) classes [(m0, .inr (5, [.int 2, .ref r1, .ref r2, .ref r3, .ref r4, .ref r5, .int rw, .ref r6, .ref r7, .ref r8, .int gw, .ref r9, .ref r10, .ref r11, .ref r12, .ref r13, .ref r14, .ref r15, .ref r16])), (r5, .inl (cI, 2, .inl Sz)), (r13, .inl (cZ, 2, .inl On)), (r14, .inl (cI, 2, .inl Pl)), (r15, .inl (cI, 2, .inl Sp)), (r16, .inl (cI, 12, .inl Vr))] H := hP.sub [5, 0, 1, 2, 3, 4] rfl
        have hD : va_D A [(m0, .inr (5, [.int 2, .ref r1, .ref r2, .ref r3, .ref r4, .ref r5, .int rw, .ref r6, .ref r7, .ref r8, .int gw, .ref r9, .ref r10, .ref r11, .ref r12, .ref r13, .ref r14, .ref r15, .ref r16])), (r5, .inl (cI, 2, .inl Sz)), (r13, .inl (cZ, 2, .inl On)), (r14, .inl (cI, 2, .inl Pl)), (r15, .inl (cI, 2, .inl Sp)), (r16, .inl (cI, 12, .inl Vr))] := hD.sub [5, 0, 1, 2, 3, 4] (by decide) rfl
        rcases hw_29 with ⟨he_29, hv_29⟩ | ⟨he_29, hv_29⟩
        · subst he_29
          refine lv_if_eq (tgt := 36) hx hb de_M_start_32 (by decide) (fun hc => absurd hc (by decide)) (fun _ => ?_)
          exact bc_vret F hr hlocks ((2, On, Pl, Sp, Vr)) (Or.inr (Or.inl ⟨hc_14, hR.2.2.1.symm.trans hc_21, rfl, hR⟩)) hP hD hS de_M_start_35
        · subst he_29
          exact absurd hv_29 (by decide)
  · subst he_2
    refine lv_if_ne (tgt := 12) hx hb de_M_start_5 (by decide) (fun hc => absurd (by decide) hc) (fun _ => ?_)
    refine lv_iconst (v := 1) hx hb de_M_start_8 (by decide) ?_
    refine lv_goto (tgt := 29) hx hb de_M_start_9 (by decide) ?_
    refine bc_call_v_i (As := [.int 1]) (rest := []) (wr := [(r5, .inl (cI, 2, .inl Sz)), (r13, .inl (cZ, 2, .inl On)), (r14, .inl (cI, 2, .inl Pl)), (r15, .inl (cI, 2, .inl Sp)), (r16, .inl (cI, 12, .inl Vr))]) F (co_M_refused) wm_478 wm_6 wm_476 wm_477 wm_630 0 rfl rfl pd_M_refused rfl rfl ⟨Nat.le_of_ble_eq_true rfl, Nat.le_of_ble_eq_true rfl⟩ hP hD hS hA [0] [1, 2, 3, 4, 5] rfl rfl rfl rfl (by decide) rfl hl.1 rfl (Nat.le_of_ble_eq_true rfl) de_M_start_29 ⟨Nat.le_of_ble_eq_true rfl, Nat.le_of_ble_eq_true rfl⟩ (fun r_29 u_29 H locs hw_29 hP hD hS => ?_)
    have hP : va_P (dC, dI) classes [(m0, .inr (5, [.int 1, .ref r1, .ref r2, .ref r3, .ref r4, .ref r5, .int rw, .ref r6, .ref r7, .ref r8, .int gw, .ref r9, .ref r10, .ref r11, .ref r12, .ref r13, .ref r14, .ref r15, .ref r16])), (r5, .inl (cI, 2, .inl Sz)), (r13, .inl (cZ, 2, .inl On)), (r14, .inl (cI, 2, .inl Pl)), (r15, .inl (cI, 2, .inl Sp)), (r16, .inl (cI, 12, .inl Vr))] H := hP.sub [5, 0, 1, 2, 3, 4] rfl
    have hD : va_D A [(m0, .inr (5, [.int 1, .ref r1, .ref r2, .ref r3, .ref r4, .ref r5, .int rw, .ref r6, .ref r7, .ref r8, .int gw, .ref r9, .ref r10, .ref r11, .ref r12, .ref r13, .ref r14, .ref r15, .ref r16])), (r5, .inl (cI, 2, .inl Sz)), (r13, .inl (cZ, 2, .inl On)), (r14, .inl (cI, 2, .inl Pl)), (r15, .inl (cI, 2, .inl Sp)), (r16, .inl (cI, 12, .inl Vr))] := hD.sub [5, 0, 1, 2, 3, 4] (by decide) rfl
    rcases hw_29 with ⟨he_29, hv_29⟩ | ⟨he_29, hv_29⟩
    · subst he_29
      refine lv_if_eq (tgt := 36) hx hb de_M_start_32 (by decide) (fun hc => absurd hc (by decide)) (fun _ => ?_)
      exact bc_vret F hr hlocks ((1, On, Pl, Sp, Vr)) (Or.inl ⟨hv_2, rfl, hR⟩) hP hD hS de_M_start_35
    · subst he_29
      exact absurd hv_29 (by decide)

