/-! the reference: what is asked of it (by program: wip/whole/gen/modM9.py) -/
def bc_rq (n : Nat) (P : Nat → bc_F) (K O T Z : bc_F) : Prop := ∀ j, j < n → K j = P 1 j ∧ O j = P 2 j ∧ T j = P 3 j ∧ Z j = P 4 j
def bc_MR (n : Nat) (P : Nat → bc_F) (ra : Int32) (n2 : Nat) (Q : Nat → bc_F) (ON PL SP : bc_F) (X : Nat → bc_F) (K O T Z Sz On Pl Sp Vr : bc_F) (rw : Int32) : Prop :=
  Sz 0 = nI n ∧ bc_rq n P K O T Z ∧ rw = ra ∧ (ra ≠ 0 → Sz 1 = nI n2 ∧ bc_rq n2 Q (fun j => K (40 + j)) (fun j => O (40 + j)) (fun j => T (40 + j)) (fun j => Z (40 + j))) ∧ ∀ y, y < 2 → On y = ON y ∧ (ON y ≠ 0 → Pl y = PL y ∧ Sp y = SP y ∧ ∀ v, v < 6 → Vr (6 * y + v) = X y v)
def bc_AB (n : Nat) (P : Nat → bc_F) (ra : Int32) (n2 : Nat) (Q : Nat → bc_F) (ON PL SP : bc_F) : Prop :=
  n ≤ 40 ∧ bc_wf n (P 1) (P 2) (P 3) (P 4) ∧ (ra = 0 ∨ ra = 1) ∧ (ra ≠ 0 → n2 ≤ 40 ∧ bc_wf n2 (Q 1) (Q 2) (Q 3) (Q 4)) ∧ (∀ y, y < 2 → ON y = 0 ∨ ON y = 1) ∧ (ON 0 ≠ 0 → bc_ok n (PL 0)) ∧ (ON 1 ≠ 0 → ra ≠ 0 ∧ bc_ok n2 (PL 1))
def bc_pu (P : Nat → bc_F) (i : Nat) (k o t z : Int32) : Nat → bc_F
  | 1 => upd (P 1) i k
  | 2 => upd (P 2) i (bc_p1 k o)
  | 3 => upd (P 3) i (bc_p2 k t)
  | _ => upd (P 4) i (bc_p3 k z)
theorem bc_rq_wf {n : Nat} {P : Nat → bc_F} {K O T Z : bc_F} (h : bc_rq n P K O T Z) (hw : bc_wf n (P 1) (P 2) (P 3) (P 4)) : bc_wf n K O T Z := by
  intro i hi
  obtain ⟨e1, e2, e3, e4⟩ := h i hi
  rw [e1, e2, e3, e4]; exact hw i hi
theorem bc_rq_put {n n' i : Nat} {P : Nat → bc_F} {K O T Z : bc_F} {k o t z : Int32} (h : bc_rq n P K O T Z) (hi : ∀ j, j < n' → j ≠ i → j < n) : bc_rq n' (bc_pu P i k o t z) (upd K i k) (upd O i (bc_p1 k o)) (upd T i (bc_p2 k t)) (upd Z i (bc_p3 k z)) := by
  intro j hj
  show upd K i k j = upd (P 1) i k j ∧ upd O i (bc_p1 k o) j = upd (P 2) i (bc_p1 k o) j ∧ upd T i (bc_p2 k t) j = upd (P 3) i (bc_p2 k t) j ∧ upd Z i (bc_p3 k z) j = upd (P 4) i (bc_p3 k z) j
  by_cases c : j = i
  · subst c
    refine ⟨?_, ?_, ?_, ?_⟩ <;> rw [pk_us, pk_us]
  · rw [pk_un c, pk_un c, pk_un c, pk_un c, pk_un c, pk_un c, pk_un c, pk_un c]
    exact h j (hi j hj c)
theorem bc_on0 {On : bc_F} {y : Nat} (hy : y < 2) : upd (upd On 0 0) 1 0 y = 0 := by
  by_cases c : y = 1
  · subst c; exact pk_us
  · have e : y = 0 := by omega
    subst e
    rw [pk_un (by omega), pk_us]
theorem bc_MR_put {n n' i n2 : Nat} {P Q X : Nat → bc_F} {ra : Int32} {ON PL SP K O T Z Sz Sz' On Pl Sp Vr : bc_F} {rw k o t z : Int32} (h : bc_MR n P ra n2 Q ON PL SP X K O T Z Sz On Pl Sp Vr rw) (hi : ∀ j, j < n' → j ≠ i → j < n) (hz : Sz' 0 = nI n') :
    bc_MR n' (bc_pu P i k o t z) 0 n2 Q (fun _ => 0) PL SP X (upd K i k) (upd O i (bc_p1 k o)) (upd T i (bc_p2 k t)) (upd Z i (bc_p3 k z)) Sz' (upd (upd On 0 0) 1 0) Pl Sp Vr 0 :=
  ⟨hz, bc_rq_put h.2.1 hi, rfl, fun z => absurd rfl z, fun y hy => ⟨bc_on0 hy, fun z => absurd rfl z⟩⟩
theorem bc_MR_clear {n n2 : Nat} {P Q X : Nat → bc_F} {ra : Int32} {ON PL SP K O T Z Sz Sz' On Pl Sp Vr : bc_F} {rw : Int32} (h : bc_MR n P ra n2 Q ON PL SP X K O T Z Sz On Pl Sp Vr rw) (hz : Sz' 0 = nI 0) :
    bc_MR 0 P 0 n2 Q (fun _ => 0) PL SP X K O T Z Sz' (upd (upd On 0 0) 1 0) Pl Sp Vr 0 :=
  ⟨hz, fun j hj => absurd hj (Nat.not_lt_zero j), rfl, fun z => absurd rfl z, fun y hy => ⟨bc_on0 hy, fun z => absurd rfl z⟩⟩
def bc_ix (n : Nat) (x : Int32) : Prop := ∃ j : Nat, j < n ∧ x = nI j
def bc_sd (x : Int32) : Prop := x = 0 ∨ x = 1
theorem bc_side {x : Int32} (h : x = 0 ∨ x = 1) : ∃ y : Nat, y < 2 ∧ x = nI y := by
  rcases h with e | e
  · exact ⟨0, by omega, e⟩
  · exact ⟨1, by omega, e⟩
theorem bc_sd_of {y : Nat} (h : y < 2) : bc_sd (nI y) := by
  have : y = 0 ∨ y = 1 := by omega
  rcases this with e | e <;> subst e
  · exact Or.inl rfl
  · exact Or.inr rfl
theorem bc_ltle {a b : Int32} (h : a < b) : ¬ b ≤ a := by
  rw [Int32.lt_iff_toInt_lt] at h
  rw [Int32.le_iff_toInt_le]
  omega
theorem bc_ltle' {a b : Int32} (h : ¬ a < b) : b ≤ a := by
  rw [Int32.lt_iff_toInt_lt] at h
  rw [Int32.le_iff_toInt_le]
  omega
theorem bc_n40 {n : Nat} (hn : n ≤ 40) (h : ¬ nI n = 40) : n < 40 := by
  have : n ≠ 40 := fun z => h (by rw [z]; rfl)
  omega
theorem bc_e40 {n : Nat} (hn : n ≤ 40) (h : nI n = 40) : n = 40 := (nI_eq (b := 40) (by omega) (by omega)).mp h
def bc_w1 (x b : Int32) (On : bc_F) (u : Int32) : Prop := ((¬ bc_sd x ∨ b = 0) ∧ u = 1) ∨ (∃ y : Nat, y < 2 ∧ x = nI y ∧ b ≠ 0 ∧ On y = 0 ∧ u = 2)
def bc_w0 (x b : Int32) (On : bc_F) (u : Int32) : Prop := ∃ y : Nat, y < 2 ∧ x = nI y ∧ b ≠ 0 ∧ On y ≠ 0 ∧ u = 0
theorem bc_w0_b {x b u : Int32} {On : bc_F} (h : bc_w0 x b On u) : b ≠ 0 := by
  obtain ⟨_, _, _, e, _⟩ := h
  exact e
set_option maxHeartbeats 4000000 in
set_option maxRecDepth 100000 in
/-- add -/
theorem co_M_add {l : Launch} {dC : Nat → ClassId} {dI : Nat → Nat → Nat} {cI cZ : ClassId} {sz : Nat} {m0 r1 r2 r3 r4 r5 r6 r7 r8 r9 r10 r11 r12 r13 r14 r15 r16 : Nat} {K O T Z Sz On Pl Sp Vr : bc_F} {fa rw gw : Int32} {n n2 : Nat} {P Q X : Nat → bc_F} {ON PL SP : bc_F} {ra : Int32} (hAB : bc_AB n P ra n2 Q ON PL SP) (hR : bc_MR n P ra n2 Q ON PL SP X K O T Z Sz On Pl Sp Vr rw) {k o t z : Int32} : Met l yn_M_add (Cond.code yn_M_add by_M_add 5 (some FieldType.int) :: wd_all) ({ frames := 2, cells := 0, slots := 0, locals := 43 } : Room) (bc_Pre (dC, dI) classes [(cI, .int), (cZ, .boolean)] [.ref m0, .int k, .int o, .int t, .int z] [(m0, .inr (5, [.int fa, .ref r1, .ref r2, .ref r3, .ref r4, .ref r5, .int rw, .ref r6, .ref r7, .ref r8, .int gw, .ref r9, .ref r10, .ref r11, .ref r12, .ref r13, .ref r14, .ref r15, .ref r16])), (r1, .inl (cI, 80, .inl K)), (r2, .inl (cI, 80, .inl O)), (r3, .inl (cI, 80, .inl T)), (r4, .inl (cI, 80, .inl Z)), (r5, .inl (cI, 2, .inl Sz)), (r13, .inl (cZ, 2, .inl On))] sz) (va_Qi (fun (r : Int32) (u : Int32 × Int32 × bc_F × bc_F × bc_F × bc_F × bc_F × bc_F) => (¬ bc_si k o t z ∧ u.1 = 1 ∧ bc_MR n P ra n2 Q ON PL SP X u.2.2.1 u.2.2.2.1 u.2.2.2.2.1 u.2.2.2.2.2.1 u.2.2.2.2.2.2.1 u.2.2.2.2.2.2.2 Pl Sp Vr u.2.1) ∨ (bc_si k o t z ∧ n = 40 ∧ u.1 = 2 ∧ bc_MR n P ra n2 Q ON PL SP X u.2.2.1 u.2.2.2.1 u.2.2.2.2.1 u.2.2.2.2.2.1 u.2.2.2.2.2.2.1 u.2.2.2.2.2.2.2 Pl Sp Vr u.2.1) ∨ (bc_si k o t z ∧ n < 40 ∧ u.1 = 0 ∧ r = nI (n + 1) ∧ bc_MR (n + 1) (bc_pu P n k o t z) 0 n2 Q (fun _ => 0) PL SP X u.2.2.1 u.2.2.2.1 u.2.2.2.2.1 u.2.2.2.2.2.1 u.2.2.2.2.2.2.1 u.2.2.2.2.2.2.2 Pl Sp Vr u.2.1)) (fun (u : Int32 × Int32 × bc_F × bc_F × bc_F × bc_F × bc_F × bc_F) t => bc_B (dC, dI) classes [(cI, .int), (cZ, .boolean)] (va_A [(m0, .inr (5, [.int fa, .ref r1, .ref r2, .ref r3, .ref r4, .ref r5, .int rw, .ref r6, .ref r7, .ref r8, .int gw, .ref r9, .ref r10, .ref r11, .ref r12, .ref r13, .ref r14, .ref r15, .ref r16])), (r1, .inl (cI, 80, .inl K)), (r2, .inl (cI, 80, .inl O)), (r3, .inl (cI, 80, .inl T)), (r4, .inl (cI, 80, .inl Z)), (r5, .inl (cI, 2, .inl Sz)), (r13, .inl (cZ, 2, .inl On))] sz) [(m0, .inr (5, [.int u.1, .ref r1, .ref r2, .ref r3, .ref r4, .ref r5, .int u.2.1, .ref r6, .ref r7, .ref r8, .int gw, .ref r9, .ref r10, .ref r11, .ref r12, .ref r13, .ref r14, .ref r15, .ref r16])), (r1, .inl (cI, 80, .inl u.2.2.1)), (r2, .inl (cI, 80, .inl u.2.2.2.1)), (r3, .inl (cI, 80, .inl u.2.2.2.2.1)), (r4, .inl (cI, 80, .inl u.2.2.2.2.2.1)), (r5, .inl (cI, 2, .inl u.2.2.2.2.2.2.1)), (r13, .inl (cZ, 2, .inl u.2.2.2.2.2.2.2))] t) ((va_A [(m0, .inr (5, [.int fa, .ref r1, .ref r2, .ref r3, .ref r4, .ref r5, .int rw, .ref r6, .ref r7, .ref r8, .int gw, .ref r9, .ref r10, .ref r11, .ref r12, .ref r13, .ref r14, .ref r15, .ref r16])), (r1, .inl (cI, 80, .inl K)), (r2, .inl (cI, 80, .inl O)), (r3, .inl (cI, 80, .inl T)), (r4, .inl (cI, 80, .inl Z)), (r5, .inl (cI, 2, .inl Sz)), (r13, .inl (cZ, 2, .inl On))] sz))) 0 0 (va_A [(m0, .inr (5, [.int fa, .ref r1, .ref r2, .ref r3, .ref r4, .ref r5, .int rw, .ref r6, .ref r7, .ref r8, .int gw, .ref r9, .ref r10, .ref r11, .ref r12, .ref r13, .ref r14, .ref r15, .ref r16])), (r1, .inl (cI, 80, .inl K)), (r2, .inl (cI, 80, .inl O)), (r3, .inl (cI, 80, .inl T)), (r4, .inl (cI, 80, .inl Z)), (r5, .inl (cI, 2, .inl Sz)), (r13, .inl (cZ, 2, .inl On))] sz) := by
  refine bc_met (fun A => va_Qi (fun (r : Int32) (u : Int32 × Int32 × bc_F × bc_F × bc_F × bc_F × bc_F × bc_F) => (¬ bc_si k o t z ∧ u.1 = 1 ∧ bc_MR n P ra n2 Q ON PL SP X u.2.2.1 u.2.2.2.1 u.2.2.2.2.1 u.2.2.2.2.2.1 u.2.2.2.2.2.2.1 u.2.2.2.2.2.2.2 Pl Sp Vr u.2.1) ∨ (bc_si k o t z ∧ n = 40 ∧ u.1 = 2 ∧ bc_MR n P ra n2 Q ON PL SP X u.2.2.1 u.2.2.2.1 u.2.2.2.2.1 u.2.2.2.2.2.1 u.2.2.2.2.2.2.1 u.2.2.2.2.2.2.2 Pl Sp Vr u.2.1) ∨ (bc_si k o t z ∧ n < 40 ∧ u.1 = 0 ∧ r = nI (n + 1) ∧ bc_MR (n + 1) (bc_pu P n k o t z) 0 n2 Q (fun _ => 0) PL SP X u.2.2.1 u.2.2.2.1 u.2.2.2.2.1 u.2.2.2.2.2.1 u.2.2.2.2.2.2.1 u.2.2.2.2.2.2.2 Pl Sp Vr u.2.1)) (fun (u : Int32 × Int32 × bc_F × bc_F × bc_F × bc_F × bc_F × bc_F) t => bc_B (dC, dI) classes [(cI, .int), (cZ, .boolean)] A [(m0, .inr (5, [.int u.1, .ref r1, .ref r2, .ref r3, .ref r4, .ref r5, .int u.2.1, .ref r6, .ref r7, .ref r8, .int gw, .ref r9, .ref r10, .ref r11, .ref r12, .ref r13, .ref r14, .ref r15, .ref r16])), (r1, .inl (cI, 80, .inl u.2.2.1)), (r2, .inl (cI, 80, .inl u.2.2.2.1)), (r3, .inl (cI, 80, .inl u.2.2.2.2.1)), (r4, .inl (cI, 80, .inl u.2.2.2.2.2.1)), (r5, .inl (cI, 2, .inl u.2.2.2.2.2.2.1)), (r13, .inl (cZ, 2, .inl u.2.2.2.2.2.2.2))] t) A) (by decide) (Nat.le_of_ble_eq_true rfl) ?_
  intro p e s m args below meth c A ls F hr hlocks hin hA hP hD hl hS
  have hx := F.1
  have hb := F.2.1
  have hml := F.2.2.1
  have hown : s.vm.findClass "BranchConstantsModel" = some m.cls := F.2.2.2.1
  have htw := F.2.2.2.2.1
  have hN := F.2.2.2.2.2.1
  have hK := F.2.2.2.2.2.2
  have hl : lv_has ls 5 [(0, .ref m0), (1, .int k), (2, .int o), (3, .int t), (4, .int z)] := hl
  have hn := hAB.1
  have hSz := hR.1
  refine lv_aload_n hx hb de_M_add_0 rfl (lv_at hl 0 rfl) ?_
  refine lv_iload_n hx hb de_M_add_1 rfl (lv_at hl 1 rfl) ?_
  refine lv_iload_n hx hb de_M_add_2 rfl (lv_at hl 2 rfl) ?_
  refine lv_iload_n hx hb de_M_add_3 rfl (lv_at hl 3 rfl) ?_
  refine lv_iload hx hb de_M_add_4 (lv_at hl 4 rfl) ?_
  refine bc_call_s_i (As := [.int k, .int o, .int t, .int z]) (rest := [.ref m0]) (wr := [(m0, .inr (5, [.int fa, .ref r1, .ref r2, .ref r3, .ref r4, .ref r5, .int rw, .ref r6, .ref r7, .ref r8, .int gw, .ref r9, .ref r10, .ref r11, .ref r12, .ref r13, .ref r14, .ref r15, .ref r16])), (r1, .inl (cI, 80, .inl K)), (r2, .inl (cI, 80, .inl O)), (r3, .inl (cI, 80, .inl T)), (r4, .inl (cI, 80, .inl Z)), (r5, .inl (cI, 2, .inl Sz)), (r13, .inl (cZ, 2, .inl On))]) F (co_M_isSound) wm_472 wm_6 wm_470 wm_471 pd_M_isSound rfl rfl ⟨Nat.le_of_ble_eq_true rfl, Nat.le_of_ble_eq_true rfl⟩ hP hD hS hA [] [0, 1, 2, 3, 4, 5, 6] rfl rfl rfl rfl (by decide) rfl hl.1 rfl (Nat.le_of_ble_eq_true rfl) de_M_add_6 ⟨Nat.le_of_ble_eq_true rfl, Nat.le_of_ble_eq_true rfl⟩ (fun r_6 u_6 H locs hw_6 hP hD hS => ?_)
  have hP : va_P (dC, dI) classes [(m0, .inr (5, [.int fa, .ref r1, .ref r2, .ref r3, .ref r4, .ref r5, .int rw, .ref r6, .ref r7, .ref r8, .int gw, .ref r9, .ref r10, .ref r11, .ref r12, .ref r13, .ref r14, .ref r15, .ref r16])), (r1, .inl (cI, 80, .inl K)), (r2, .inl (cI, 80, .inl O)), (r3, .inl (cI, 80, .inl T)), (r4, .inl (cI, 80, .inl Z)), (r5, .inl (cI, 2, .inl Sz)), (r13, .inl (cZ, 2, .inl On))] H := hP.sub [0, 1, 2, 3, 4, 5, 6] rfl
  have hD : va_D A [(m0, .inr (5, [.int fa, .ref r1, .ref r2, .ref r3, .ref r4, .ref r5, .int rw, .ref r6, .ref r7, .ref r8, .int gw, .ref r9, .ref r10, .ref r11, .ref r12, .ref r13, .ref r14, .ref r15, .ref r16])), (r1, .inl (cI, 80, .inl K)), (r2, .inl (cI, 80, .inl O)), (r3, .inl (cI, 80, .inl T)), (r4, .inl (cI, 80, .inl Z)), (r5, .inl (cI, 2, .inl Sz)), (r13, .inl (cZ, 2, .inl On))] := hD.sub [0, 1, 2, 3, 4, 5, 6] (by decide) rfl
  rcases hw_6 with ⟨he_6, hv_6⟩ | ⟨he_6, hv_6⟩
  · subst he_6
    refine lv_if_ne (tgt := 16) hx hb de_M_add_9 (by decide) (fun _ => ?_) (fun hc => absurd hc (by decide))
    refine lv_aload_n hx hb de_M_add_16 rfl (lv_at hl 0 rfl) ?_
    refine va_get (D := (dC, dI)) (ci := 5) (v := .ref r5) (C := rc_M) (T := fc_M) (N := 19) hx hb htw wi_M hown hK hP 0 rfl rfl 5 (by decide) (htw _ wm_428) (fun _ h9 => h9) rfl de_M_add_17 ?_
    refine lv_iconst (v := 0) hx hb de_M_add_20 (by decide) ?_
    refine bc_ildE (by decide) (j := 0) hx hb hK hP 5 0 rfl rfl (by omega) (by decide) de_M_add_21 ?_
    refine bc_ti (y := nI n) hSz ?_
    refine lv_bipush (v := 40) hx hb de_M_add_22 (by decide) ?_
    refine lv_icmp_ne (tgt := 31) hx hb de_M_add_24 (by decide) (fun hc_24 => ?_) (fun hc_24 => ?_)
    · refine lv_iconst (v := 0) hx hb de_M_add_31 (by decide) ?_
      refine bc_call_v_i (As := [.int 0]) (rest := []) (wr := [(r1, .inl (cI, 80, .inl K)), (r2, .inl (cI, 80, .inl O)), (r3, .inl (cI, 80, .inl T)), (r4, .inl (cI, 80, .inl Z)), (r5, .inl (cI, 2, .inl Sz)), (r13, .inl (cZ, 2, .inl On))]) F (co_M_refused) wm_478 wm_6 wm_476 wm_477 wm_630 0 rfl rfl pd_M_refused rfl rfl ⟨Nat.le_of_ble_eq_true rfl, Nat.le_of_ble_eq_true rfl⟩ hP hD hS hA [0] [1, 2, 3, 4, 5, 6] rfl rfl rfl rfl (by decide) rfl hl.1 rfl (Nat.le_of_ble_eq_true rfl) de_M_add_32 ⟨Nat.le_of_ble_eq_true rfl, Nat.le_of_ble_eq_true rfl⟩ (fun r_32 u_32 H locs hw_32 hP hD hS => ?_)
      have hP : va_P (dC, dI) classes [(m0, .inr (5, [.int 0, .ref r1, .ref r2, .ref r3, .ref r4, .ref r5, .int rw, .ref r6, .ref r7, .ref r8, .int gw, .ref r9, .ref r10, .ref r11, .ref r12, .ref r13, .ref r14, .ref r15, .ref r16])), (r1, .inl (cI, 80, .inl K)), (r2, .inl (cI, 80, .inl O)), (r3, .inl (cI, 80, .inl T)), (r4, .inl (cI, 80, .inl Z)), (r5, .inl (cI, 2, .inl Sz)), (r13, .inl (cZ, 2, .inl On))] H := hP.sub [6, 0, 1, 2, 3, 4, 5] rfl
      have hD : va_D A [(m0, .inr (5, [.int 0, .ref r1, .ref r2, .ref r3, .ref r4, .ref r5, .int rw, .ref r6, .ref r7, .ref r8, .int gw, .ref r9, .ref r10, .ref r11, .ref r12, .ref r13, .ref r14, .ref r15, .ref r16])), (r1, .inl (cI, 80, .inl K)), (r2, .inl (cI, 80, .inl O)), (r3, .inl (cI, 80, .inl T)), (r4, .inl (cI, 80, .inl Z)), (r5, .inl (cI, 2, .inl Sz)), (r13, .inl (cZ, 2, .inl On))] := hD.sub [6, 0, 1, 2, 3, 4, 5] (by decide) rfl
      rcases hw_32 with ⟨he_32, hv_32⟩ | ⟨he_32, hv_32⟩
      · subst he_32
        exact absurd (by decide) hv_32
      · subst he_32
        refine lv_if_eq (tgt := 40) hx hb de_M_add_35 (by decide) (fun _ => ?_) (fun hc => absurd (by decide) hc)
        have hn40 : n < 40 := bc_n40 hn hc_24
        refine lv_aload_n hx hb de_M_add_40 rfl (lv_at hl 0 rfl) ?_
        refine lv_aload_n hx hb de_M_add_41 rfl (lv_at hl 0 rfl) ?_
        refine va_get (D := (dC, dI)) (ci := 5) (v := .ref r5) (C := rc_M) (T := fc_M) (N := 19) hx hb htw wi_M hown hK hP 0 rfl rfl 5 (by decide) (htw _ wm_428) (fun _ h9 => h9) rfl de_M_add_42 ?_
        refine lv_iconst (v := 0) hx hb de_M_add_45 (by decide) ?_
        refine bc_ildE (by decide) (j := 0) hx hb hK hP 5 0 rfl rfl (by omega) (by decide) de_M_add_46 ?_
        refine bc_ti (y := nI n) hSz ?_
        refine lv_iload_n hx hb de_M_add_47 rfl (lv_at hl 1 rfl) ?_
        refine lv_iload_n hx hb de_M_add_48 rfl (lv_at hl 2 rfl) ?_
        refine lv_iload_n hx hb de_M_add_49 rfl (lv_at hl 3 rfl) ?_
        refine lv_iload hx hb de_M_add_50 (lv_at hl 4 rfl) ?_
        refine bc_call_v_v (As := [.int (nI n), .int k, .int o, .int t, .int z]) (rest := []) (wr := [(r5, .inl (cI, 2, .inl Sz)), (r13, .inl (cZ, 2, .inl On))]) F (co_M_put (i := n) (by omega) (bc_si_kk hv_6)) wm_481 wm_6 wm_479 wm_480 wm_631 0 rfl rfl pd_M_put rfl rfl ⟨Nat.le_of_ble_eq_true rfl, Nat.le_of_ble_eq_true rfl⟩ hP hD hS hA [0, 1, 2, 3, 4] [5, 6] rfl rfl rfl rfl (by decide) rfl hl.1 rfl (Nat.le_of_ble_eq_true rfl) de_M_add_52 ⟨Nat.le_of_ble_eq_true rfl, Nat.le_of_ble_eq_true rfl⟩ (fun u_52 H locs hw_52 hP hD hS => ?_)
        obtain ⟨K4, O4, T4, Z4⟩ := u_52
        try dsimp only at hw_52
        simp only [Prod.mk.injEq] at hw_52
        obtain ⟨rfl, rfl, rfl, rfl⟩ := hw_52
        have hP : va_P (dC, dI) classes [(m0, .inr (5, [.int 0, .ref r1, .ref r2, .ref r3, .ref r4, .ref r5, .int rw, .ref r6, .ref r7, .ref r8, .int gw, .ref r9, .ref r10, .ref r11, .ref r12, .ref r13, .ref r14, .ref r15, .ref r16])), (r1, .inl (cI, 80, .inl (upd K n k))), (r2, .inl (cI, 80, .inl (upd O n (bc_p1 k o)))), (r3, .inl (cI, 80, .inl (upd T n (bc_p2 k t)))), (r4, .inl (cI, 80, .inl (upd Z n (bc_p3 k z)))), (r5, .inl (cI, 2, .inl Sz)), (r13, .inl (cZ, 2, .inl On))] H := hP.sub [2, 3, 4, 5, 6, 0, 1] rfl
        have hD : va_D A [(m0, .inr (5, [.int 0, .ref r1, .ref r2, .ref r3, .ref r4, .ref r5, .int rw, .ref r6, .ref r7, .ref r8, .int gw, .ref r9, .ref r10, .ref r11, .ref r12, .ref r13, .ref r14, .ref r15, .ref r16])), (r1, .inl (cI, 80, .inl (upd K n k))), (r2, .inl (cI, 80, .inl (upd O n (bc_p1 k o)))), (r3, .inl (cI, 80, .inl (upd T n (bc_p2 k t)))), (r4, .inl (cI, 80, .inl (upd Z n (bc_p3 k z)))), (r5, .inl (cI, 2, .inl Sz)), (r13, .inl (cZ, 2, .inl On))] := hD.sub [2, 3, 4, 5, 6, 0, 1] (by decide) rfl
        refine lv_aload_n hx hb de_M_add_55 rfl (lv_at hl 0 rfl) ?_
        refine va_get (D := (dC, dI)) (ci := 5) (v := .ref r5) (C := rc_M) (T := fc_M) (N := 19) hx hb htw wi_M hown hK hP 0 rfl rfl 5 (by decide) (htw _ wm_428) (fun _ h9 => h9) rfl de_M_add_56 ?_
        refine lv_iconst (v := 0) hx hb de_M_add_59 (by decide) ?_
        refine lv_dup2_11 hx hb de_M_add_60 rfl rfl ?_
        refine bc_ildE (by decide) (j := 0) hx hb hK hP 5 0 rfl rfl (by omega) (by decide) de_M_add_61 ?_
        refine bc_ti (y := nI n) hSz ?_
        refine lv_iconst (v := 1) hx hb de_M_add_62 (by decide) ?_
        refine lv_iadd hx hb de_M_add_63 ?_
        refine bc_ti (y := nI (n + 1)) (nI_add n 1) ?_
        refine bc_istE (by decide) (j := 0) hx hb hK hP hD hS 5 0 rfl rfl (by omega) (by decide) de_M_add_64 (fun H locs hP hD hS => ?_)
        have hP : va_P (dC, dI) classes [(m0, .inr (5, [.int 0, .ref r1, .ref r2, .ref r3, .ref r4, .ref r5, .int rw, .ref r6, .ref r7, .ref r8, .int gw, .ref r9, .ref r10, .ref r11, .ref r12, .ref r13, .ref r14, .ref r15, .ref r16])), (r1, .inl (cI, 80, .inl (upd K n k))), (r2, .inl (cI, 80, .inl (upd O n (bc_p1 k o)))), (r3, .inl (cI, 80, .inl (upd T n (bc_p2 k t)))), (r4, .inl (cI, 80, .inl (upd Z n (bc_p3 k z)))), (r5, .inl (cI, 2, .inl (upd Sz 0 (nI (n + 1))))), (r13, .inl (cZ, 2, .inl On))] H := hP
        have hD : va_D A [(m0, .inr (5, [.int 0, .ref r1, .ref r2, .ref r3, .ref r4, .ref r5, .int rw, .ref r6, .ref r7, .ref r8, .int gw, .ref r9, .ref r10, .ref r11, .ref r12, .ref r13, .ref r14, .ref r15, .ref r16])), (r1, .inl (cI, 80, .inl (upd K n k))), (r2, .inl (cI, 80, .inl (upd O n (bc_p1 k o)))), (r3, .inl (cI, 80, .inl (upd T n (bc_p2 k t)))), (r4, .inl (cI, 80, .inl (upd Z n (bc_p3 k z)))), (r5, .inl (cI, 2, .inl (upd Sz 0 (nI (n + 1))))), (r13, .inl (cZ, 2, .inl On))] := hD
        refine lv_aload_n hx hb de_M_add_65 rfl (lv_at hl 0 rfl) ?_
        refine bc_call_v_v (As := []) (rest := []) (wr := [(r1, .inl (cI, 80, .inl (upd K n k))), (r2, .inl (cI, 80, .inl (upd O n (bc_p1 k o)))), (r3, .inl (cI, 80, .inl (upd T n (bc_p2 k t)))), (r4, .inl (cI, 80, .inl (upd Z n (bc_p3 k z)))), (r5, .inl (cI, 2, .inl (upd Sz 0 (nI (n + 1)))))]) F (co_M_changed) wm_484 wm_6 wm_482 wm_483 wm_632 0 rfl rfl pd_M_changed rfl rfl ⟨Nat.le_of_ble_eq_true rfl, Nat.le_of_ble_eq_true rfl⟩ hP hD hS hA [0, 6] [1, 2, 3, 4, 5] rfl rfl rfl rfl (by decide) rfl hl.1 rfl (Nat.le_of_ble_eq_true rfl) de_M_add_66 ⟨Nat.le_of_ble_eq_true rfl, Nat.le_of_ble_eq_true rfl⟩ (fun u_66 H locs hw_66 hP hD hS => ?_)
        have hP : va_P (dC, dI) classes [(m0, .inr (5, [.int 0, .ref r1, .ref r2, .ref r3, .ref r4, .ref r5, .int 0, .ref r6, .ref r7, .ref r8, .int gw, .ref r9, .ref r10, .ref r11, .ref r12, .ref r13, .ref r14, .ref r15, .ref r16])), (r1, .inl (cI, 80, .inl (upd K n k))), (r2, .inl (cI, 80, .inl (upd O n (bc_p1 k o)))), (r3, .inl (cI, 80, .inl (upd T n (bc_p2 k t)))), (r4, .inl (cI, 80, .inl (upd Z n (bc_p3 k z)))), (r5, .inl (cI, 2, .inl (upd Sz 0 (nI (n + 1))))), (r13, .inl (cZ, 2, .inl (upd (upd On 0 0) 1 0)))] H := hP.sub [5, 0, 1, 2, 3, 4, 6] rfl
        have hD : va_D A [(m0, .inr (5, [.int 0, .ref r1, .ref r2, .ref r3, .ref r4, .ref r5, .int 0, .ref r6, .ref r7, .ref r8, .int gw, .ref r9, .ref r10, .ref r11, .ref r12, .ref r13, .ref r14, .ref r15, .ref r16])), (r1, .inl (cI, 80, .inl (upd K n k))), (r2, .inl (cI, 80, .inl (upd O n (bc_p1 k o)))), (r3, .inl (cI, 80, .inl (upd T n (bc_p2 k t)))), (r4, .inl (cI, 80, .inl (upd Z n (bc_p3 k z)))), (r5, .inl (cI, 2, .inl (upd Sz 0 (nI (n + 1))))), (r13, .inl (cZ, 2, .inl (upd (upd On 0 0) 1 0)))] := hD.sub [5, 0, 1, 2, 3, 4, 6] (by decide) rfl
        refine lv_aload_n hx hb de_M_add_69 rfl (lv_at hl 0 rfl) ?_
        refine va_get (D := (dC, dI)) (ci := 5) (v := .ref r5) (C := rc_M) (T := fc_M) (N := 19) hx hb htw wi_M hown hK hP 0 rfl rfl 5 (by decide) (htw _ wm_428) (fun _ h9 => h9) rfl de_M_add_70 ?_
        refine lv_iconst (v := 0) hx hb de_M_add_73 (by decide) ?_
        refine bc_ildE (by decide) (j := 0) hx hb hK hP 5 0 rfl rfl (by omega) (by decide) de_M_add_74 ?_
        refine bc_ti (y := nI (n + 1)) pk_us ?_
        exact bc_iret F hr hlocks ((0, 0, upd K n k, upd O n (bc_p1 k o), upd T n (bc_p2 k t), upd Z n (bc_p3 k z), upd Sz 0 (nI (n + 1)), upd (upd On 0 0) 1 0)) (Or.inr (Or.inr ⟨hv_6, hn40, rfl, rfl, bc_MR_put hR (fun j h1 h2 => by omega) (show upd Sz 0 (nI (n + 1)) 0 = nI (n + 1) from pk_us)⟩)) hP hD hS de_M_add_75
    · refine lv_iconst (v := 2) hx hb de_M_add_27 (by decide) ?_
      refine lv_goto (tgt := 32) hx hb de_M_add_28 (by decide) ?_
      refine bc_call_v_i (As := [.int 2]) (rest := []) (wr := [(r1, .inl (cI, 80, .inl K)), (r2, .inl (cI, 80, .inl O)), (r3, .inl (cI, 80, .inl T)), (r4, .inl (cI, 80, .inl Z)), (r5, .inl (cI, 2, .inl Sz)), (r13, .inl (cZ, 2, .inl On))]) F (co_M_refused) wm_478 wm_6 wm_476 wm_477 wm_630 0 rfl rfl pd_M_refused rfl rfl ⟨Nat.le_of_ble_eq_true rfl, Nat.le_of_ble_eq_true rfl⟩ hP hD hS hA [0] [1, 2, 3, 4, 5, 6] rfl rfl rfl rfl (by decide) rfl hl.1 rfl (Nat.le_of_ble_eq_true rfl) de_M_add_32 ⟨Nat.le_of_ble_eq_true rfl, Nat.le_of_ble_eq_true rfl⟩ (fun r_32 u_32 H locs hw_32 hP hD hS => ?_)
      have hP : va_P (dC, dI) classes [(m0, .inr (5, [.int 2, .ref r1, .ref r2, .ref r3, .ref r4, .ref r5, .int rw, .ref r6, .ref r7, .ref r8, .int gw, .ref r9, .ref r10, .ref r11, .ref r12, .ref r13, .ref r14, .ref r15, .ref r16])), (r1, .inl (cI, 80, .inl K)), (r2, .inl (cI, 80, .inl O)), (r3, .inl (cI, 80, .inl T)), (r4, .inl (cI, 80, .inl Z)), (r5, .inl (cI, 2, .inl Sz)), (r13, .inl (cZ, 2, .inl On))] H := hP.sub [6, 0, 1, 2, 3, 4, 5] rfl
      have hD : va_D A [(m0, .inr (5, [.int 2, .ref r1, .ref r2, .ref r3, .ref r4, .ref r5, .int rw, .ref r6, .ref r7, .ref r8, .int gw, .ref r9, .ref r10, .ref r11, .ref r12, .ref r13, .ref r14, .ref r15, .ref r16])), (r1, .inl (cI, 80, .inl K)), (r2, .inl (cI, 80, .inl O)), (r3, .inl (cI, 80, .inl T)), (r4, .inl (cI, 80, .inl Z)), (r5, .inl (cI, 2, .inl Sz)), (r13, .inl (cZ, 2, .inl On))] := hD.sub [6, 0, 1, 2, 3, 4, 5] (by decide) rfl
      rcases hw_32 with ⟨he_32, hv_32⟩ | ⟨he_32, hv_32⟩
      · subst he_32
        refine lv_if_eq (tgt := 40) hx hb de_M_add_35 (by decide) (fun hc => absurd hc (by decide)) (fun _ => ?_)
        refine lv_iconst (v := 0) hx hb de_M_add_38 (by decide) ?_
        exact bc_iret F hr hlocks ((2, rw, K, O, T, Z, Sz, On)) (Or.inr (Or.inl ⟨hv_6, bc_e40 hn hc_24, rfl, hR⟩)) hP hD hS de_M_add_39
      · subst he_32
        exact absurd hv_32 (by decide)
  · subst he_6
    refine lv_if_ne (tgt := 16) hx hb de_M_add_9 (by decide) (fun hc => absurd (by decide) hc) (fun _ => ?_)
    refine lv_iconst (v := 1) hx hb de_M_add_12 (by decide) ?_
    refine lv_goto (tgt := 32) hx hb de_M_add_13 (by decide) ?_
    refine bc_call_v_i (As := [.int 1]) (rest := []) (wr := [(r1, .inl (cI, 80, .inl K)), (r2, .inl (cI, 80, .inl O)), (r3, .inl (cI, 80, .inl T)), (r4, .inl (cI, 80, .inl Z)), (r5, .inl (cI, 2, .inl Sz)), (r13, .inl (cZ, 2, .inl On))]) F (co_M_refused) wm_478 wm_6 wm_476 wm_477 wm_630 0 rfl rfl pd_M_refused rfl rfl ⟨Nat.le_of_ble_eq_true rfl, Nat.le_of_ble_eq_true rfl⟩ hP hD hS hA [0] [1, 2, 3, 4, 5, 6] rfl rfl rfl rfl (by decide) rfl hl.1 rfl (Nat.le_of_ble_eq_true rfl) de_M_add_32 ⟨Nat.le_of_ble_eq_true rfl, Nat.le_of_ble_eq_true rfl⟩ (fun r_32 u_32 H locs hw_32 hP hD hS => ?_)
    have hP : va_P (dC, dI) classes [(m0, .inr (5, [.int 1, .ref r1, .ref r2, .ref r3, .ref r4, .ref r5, .int rw, .ref r6, .ref r7, .ref r8, .int gw, .ref r9, .ref r10, .ref r11, .ref r12, .ref r13, .ref r14, .ref r15, .ref r16])), (r1, .inl (cI, 80, .inl K)), (r2, .inl (cI, 80, .inl O)), (r3, .inl (cI, 80, .inl T)), (r4, .inl (cI, 80, .inl Z)), (r5, .inl (cI, 2, .inl Sz)), (r13, .inl (cZ, 2, .inl On))] H := hP.sub [6, 0, 1, 2, 3, 4, 5] rfl
    have hD : va_D A [(m0, .inr (5, [.int 1, .ref r1, .ref r2, .ref r3, .ref r4, .ref r5, .int rw, .ref r6, .ref r7, .ref r8, .int gw, .ref r9, .ref r10, .ref r11, .ref r12, .ref r13, .ref r14, .ref r15, .ref r16])), (r1, .inl (cI, 80, .inl K)), (r2, .inl (cI, 80, .inl O)), (r3, .inl (cI, 80, .inl T)), (r4, .inl (cI, 80, .inl Z)), (r5, .inl (cI, 2, .inl Sz)), (r13, .inl (cZ, 2, .inl On))] := hD.sub [6, 0, 1, 2, 3, 4, 5] (by decide) rfl
    rcases hw_32 with ⟨he_32, hv_32⟩ | ⟨he_32, hv_32⟩
    · subst he_32
      refine lv_if_eq (tgt := 40) hx hb de_M_add_35 (by decide) (fun hc => absurd hc (by decide)) (fun _ => ?_)
      refine lv_iconst (v := 0) hx hb de_M_add_38 (by decide) ?_
      exact bc_iret F hr hlocks ((1, rw, K, O, T, Z, Sz, On)) (Or.inl ⟨hv_6, rfl, hR⟩) hP hD hS de_M_add_39
    · subst he_32
      exact absurd hv_32 (by decide)

set_option maxHeartbeats 4000000 in
set_option maxRecDepth 100000 in
/-- change -/
theorem co_M_change {l : Launch} {dC : Nat → ClassId} {dI : Nat → Nat → Nat} {cI cZ : ClassId} {sz : Nat} {m0 r1 r2 r3 r4 r5 r6 r7 r8 r9 r10 r11 r12 r13 r14 r15 r16 : Nat} {K O T Z Sz On Pl Sp Vr : bc_F} {fa rw gw : Int32} {n n2 : Nat} {P Q X : Nat → bc_F} {ON PL SP : bc_F} {ra : Int32} (hAB : bc_AB n P ra n2 Q ON PL SP) (hR : bc_MR n P ra n2 Q ON PL SP X K O T Z Sz On Pl Sp Vr rw) {x k o t z : Int32} : Met l yn_M_change (Cond.code yn_M_change by_M_change 6 none :: wd_all) ({ frames := 2, cells := 0, slots := 0, locals := 43 } : Room) (bc_Pre (dC, dI) classes [(cI, .int), (cZ, .boolean)] [.ref m0, .int x, .int k, .int o, .int t, .int z] [(m0, .inr (5, [.int fa, .ref r1, .ref r2, .ref r3, .ref r4, .ref r5, .int rw, .ref r6, .ref r7, .ref r8, .int gw, .ref r9, .ref r10, .ref r11, .ref r12, .ref r13, .ref r14, .ref r15, .ref r16])), (r1, .inl (cI, 80, .inl K)), (r2, .inl (cI, 80, .inl O)), (r3, .inl (cI, 80, .inl T)), (r4, .inl (cI, 80, .inl Z)), (r5, .inl (cI, 2, .inl Sz)), (r13, .inl (cZ, 2, .inl On))] sz) (va_Qv (fun (u : Int32 × Int32 × bc_F × bc_F × bc_F × bc_F × bc_F × bc_F) => (¬ bc_ix n x ∧ u.1 = 1 ∧ bc_MR n P ra n2 Q ON PL SP X u.2.2.1 u.2.2.2.1 u.2.2.2.2.1 u.2.2.2.2.2.1 u.2.2.2.2.2.2.1 u.2.2.2.2.2.2.2 Pl Sp Vr u.2.1) ∨ (∃ j : Nat, j < n ∧ x = nI j ∧ ((¬ bc_si k o t z ∧ u.1 = 2 ∧ bc_MR n P ra n2 Q ON PL SP X u.2.2.1 u.2.2.2.1 u.2.2.2.2.1 u.2.2.2.2.2.1 u.2.2.2.2.2.2.1 u.2.2.2.2.2.2.2 Pl Sp Vr u.2.1) ∨ (bc_si k o t z ∧ u.1 = 0 ∧ bc_MR n (bc_pu P j k o t z) 0 n2 Q (fun _ => 0) PL SP X u.2.2.1 u.2.2.2.1 u.2.2.2.2.1 u.2.2.2.2.2.1 u.2.2.2.2.2.2.1 u.2.2.2.2.2.2.2 Pl Sp Vr u.2.1)))) (fun (u : Int32 × Int32 × bc_F × bc_F × bc_F × bc_F × bc_F × bc_F) t => bc_B (dC, dI) classes [(cI, .int), (cZ, .boolean)] (va_A [(m0, .inr (5, [.int fa, .ref r1, .ref r2, .ref r3, .ref r4, .ref r5, .int rw, .ref r6, .ref r7, .ref r8, .int gw, .ref r9, .ref r10, .ref r11, .ref r12, .ref r13, .ref r14, .ref r15, .ref r16])), (r1, .inl (cI, 80, .inl K)), (r2, .inl (cI, 80, .inl O)), (r3, .inl (cI, 80, .inl T)), (r4, .inl (cI, 80, .inl Z)), (r5, .inl (cI, 2, .inl Sz)), (r13, .inl (cZ, 2, .inl On))] sz) [(m0, .inr (5, [.int u.1, .ref r1, .ref r2, .ref r3, .ref r4, .ref r5, .int u.2.1, .ref r6, .ref r7, .ref r8, .int gw, .ref r9, .ref r10, .ref r11, .ref r12, .ref r13, .ref r14, .ref r15, .ref r16])), (r1, .inl (cI, 80, .inl u.2.2.1)), (r2, .inl (cI, 80, .inl u.2.2.2.1)), (r3, .inl (cI, 80, .inl u.2.2.2.2.1)), (r4, .inl (cI, 80, .inl u.2.2.2.2.2.1)), (r5, .inl (cI, 2, .inl u.2.2.2.2.2.2.1)), (r13, .inl (cZ, 2, .inl u.2.2.2.2.2.2.2))] t) ((va_A [(m0, .inr (5, [.int fa, .ref r1, .ref r2, .ref r3, .ref r4, .ref r5, .int rw, .ref r6, .ref r7, .ref r8, .int gw, .ref r9, .ref r10, .ref r11, .ref r12, .ref r13, .ref r14, .ref r15, .ref r16])), (r1, .inl (cI, 80, .inl K)), (r2, .inl (cI, 80, .inl O)), (r3, .inl (cI, 80, .inl T)), (r4, .inl (cI, 80, .inl Z)), (r5, .inl (cI, 2, .inl Sz)), (r13, .inl (cZ, 2, .inl On))] sz))) 0 0 (va_A [(m0, .inr (5, [.int fa, .ref r1, .ref r2, .ref r3, .ref r4, .ref r5, .int rw, .ref r6, .ref r7, .ref r8, .int gw, .ref r9, .ref r10, .ref r11, .ref r12, .ref r13, .ref r14, .ref r15, .ref r16])), (r1, .inl (cI, 80, .inl K)), (r2, .inl (cI, 80, .inl O)), (r3, .inl (cI, 80, .inl T)), (r4, .inl (cI, 80, .inl Z)), (r5, .inl (cI, 2, .inl Sz)), (r13, .inl (cZ, 2, .inl On))] sz) := by
  refine bc_met (fun A => va_Qv (fun (u : Int32 × Int32 × bc_F × bc_F × bc_F × bc_F × bc_F × bc_F) => (¬ bc_ix n x ∧ u.1 = 1 ∧ bc_MR n P ra n2 Q ON PL SP X u.2.2.1 u.2.2.2.1 u.2.2.2.2.1 u.2.2.2.2.2.1 u.2.2.2.2.2.2.1 u.2.2.2.2.2.2.2 Pl Sp Vr u.2.1) ∨ (∃ j : Nat, j < n ∧ x = nI j ∧ ((¬ bc_si k o t z ∧ u.1 = 2 ∧ bc_MR n P ra n2 Q ON PL SP X u.2.2.1 u.2.2.2.1 u.2.2.2.2.1 u.2.2.2.2.2.1 u.2.2.2.2.2.2.1 u.2.2.2.2.2.2.2 Pl Sp Vr u.2.1) ∨ (bc_si k o t z ∧ u.1 = 0 ∧ bc_MR n (bc_pu P j k o t z) 0 n2 Q (fun _ => 0) PL SP X u.2.2.1 u.2.2.2.1 u.2.2.2.2.1 u.2.2.2.2.2.1 u.2.2.2.2.2.2.1 u.2.2.2.2.2.2.2 Pl Sp Vr u.2.1)))) (fun (u : Int32 × Int32 × bc_F × bc_F × bc_F × bc_F × bc_F × bc_F) t => bc_B (dC, dI) classes [(cI, .int), (cZ, .boolean)] A [(m0, .inr (5, [.int u.1, .ref r1, .ref r2, .ref r3, .ref r4, .ref r5, .int u.2.1, .ref r6, .ref r7, .ref r8, .int gw, .ref r9, .ref r10, .ref r11, .ref r12, .ref r13, .ref r14, .ref r15, .ref r16])), (r1, .inl (cI, 80, .inl u.2.2.1)), (r2, .inl (cI, 80, .inl u.2.2.2.1)), (r3, .inl (cI, 80, .inl u.2.2.2.2.1)), (r4, .inl (cI, 80, .inl u.2.2.2.2.2.1)), (r5, .inl (cI, 2, .inl u.2.2.2.2.2.2.1)), (r13, .inl (cZ, 2, .inl u.2.2.2.2.2.2.2))] t) A) (by decide) (Nat.le_of_ble_eq_true rfl) ?_
  intro p e s m args below meth c A ls F hr hlocks hin hA hP hD hl hS
  have hx := F.1
  have hb := F.2.1
  have hml := F.2.2.1
  have hown : s.vm.findClass "BranchConstantsModel" = some m.cls := F.2.2.2.1
  have htw := F.2.2.2.2.1
  have hN := F.2.2.2.2.2.1
  have hK := F.2.2.2.2.2.2
  have hl : lv_has ls 6 [(0, .ref m0), (1, .int x), (2, .int k), (3, .int o), (4, .int t), (5, .int z)] := hl
  have hn := hAB.1
  have hSz := hR.1
  refine lv_aload_n hx hb de_M_change_0 rfl (lv_at hl 0 rfl) ?_
  refine lv_iload_n hx hb de_M_change_1 rfl (lv_at hl 1 rfl) ?_
  refine lv_if_lt (tgt := 15) hx hb de_M_change_2 (by decide) (fun hc_2 => ?_) (fun hc_2 => ?_)
  · refine lv_iconst (v := 1) hx hb de_M_change_15 (by decide) ?_
    refine lv_goto (tgt := 36) hx hb de_M_change_16 (by decide) ?_
    refine bc_call_v_i (As := [.int 1]) (rest := []) (wr := [(r1, .inl (cI, 80, .inl K)), (r2, .inl (cI, 80, .inl O)), (r3, .inl (cI, 80, .inl T)), (r4, .inl (cI, 80, .inl Z)), (r5, .inl (cI, 2, .inl Sz)), (r13, .inl (cZ, 2, .inl On))]) F (co_M_refused) wm_478 wm_6 wm_476 wm_477 wm_630 0 rfl rfl pd_M_refused rfl rfl ⟨Nat.le_of_ble_eq_true rfl, Nat.le_of_ble_eq_true rfl⟩ hP hD hS hA [0] [1, 2, 3, 4, 5, 6] rfl rfl rfl rfl (by decide) rfl hl.1 rfl (Nat.le_of_ble_eq_true rfl) de_M_change_36 ⟨Nat.le_of_ble_eq_true rfl, Nat.le_of_ble_eq_true rfl⟩ (fun r_36 u_36 H locs hw_36 hP hD hS => ?_)
    have hP : va_P (dC, dI) classes [(m0, .inr (5, [.int 1, .ref r1, .ref r2, .ref r3, .ref r4, .ref r5, .int rw, .ref r6, .ref r7, .ref r8, .int gw, .ref r9, .ref r10, .ref r11, .ref r12, .ref r13, .ref r14, .ref r15, .ref r16])), (r1, .inl (cI, 80, .inl K)), (r2, .inl (cI, 80, .inl O)), (r3, .inl (cI, 80, .inl T)), (r4, .inl (cI, 80, .inl Z)), (r5, .inl (cI, 2, .inl Sz)), (r13, .inl (cZ, 2, .inl On))] H := hP.sub [6, 0, 1, 2, 3, 4, 5] rfl
    have hD : va_D A [(m0, .inr (5, [.int 1, .ref r1, .ref r2, .ref r3, .ref r4, .ref r5, .int rw, .ref r6, .ref r7, .ref r8, .int gw, .ref r9, .ref r10, .ref r11, .ref r12, .ref r13, .ref r14, .ref r15, .ref r16])), (r1, .inl (cI, 80, .inl K)), (r2, .inl (cI, 80, .inl O)), (r3, .inl (cI, 80, .inl T)), (r4, .inl (cI, 80, .inl Z)), (r5, .inl (cI, 2, .inl Sz)), (r13, .inl (cZ, 2, .inl On))] := hD.sub [6, 0, 1, 2, 3, 4, 5] (by decide) rfl
    rcases hw_36 with ⟨he_36, hv_36⟩ | ⟨he_36, hv_36⟩
    · subst he_36
      refine lv_if_ne (tgt := 57) hx hb de_M_change_39 (by decide) (fun _ => ?_) (fun hc => absurd hc (by decide))
      exact bc_vret F hr hlocks ((1, rw, K, O, T, Z, Sz, On)) (Or.inl ⟨bc_isn0 (by omega) hc_2, rfl, hR⟩) hP hD hS de_M_change_57
    · subst he_36
      exact absurd hv_36 (by decide)
  · refine lv_iload_n hx hb de_M_change_5 rfl (lv_at hl 1 rfl) ?_
    refine lv_aload_n hx hb de_M_change_6 rfl (lv_at hl 0 rfl) ?_
    refine va_get (D := (dC, dI)) (ci := 5) (v := .ref r5) (C := rc_M) (T := fc_M) (N := 19) hx hb htw wi_M hown hK hP 0 rfl rfl 5 (by decide) (htw _ wm_428) (fun _ h9 => h9) rfl de_M_change_7 ?_
    refine lv_iconst (v := 0) hx hb de_M_change_10 (by decide) ?_
    refine bc_ildE (by decide) (j := 0) hx hb hK hP 5 0 rfl rfl (by omega) (by decide) de_M_change_11 ?_
    refine bc_ti (y := nI n) hSz ?_
    refine lv_icmp_lt (tgt := 19) hx hb de_M_change_12 (by decide) (fun hc_12 => ?_) (fun hc_12 => ?_)
    · obtain ⟨j, hj, ej⟩ := bc_isn (n := n) (by omega) hc_2 (bc_ltle hc_12)
      subst ej
      refine lv_iload_n hx hb de_M_change_19 rfl (lv_at hl 2 rfl) ?_
      refine lv_iload_n hx hb de_M_change_20 rfl (lv_at hl 3 rfl) ?_
      refine lv_iload hx hb de_M_change_21 (lv_at hl 4 rfl) ?_
      refine lv_iload hx hb de_M_change_23 (lv_at hl 5 rfl) ?_
      refine bc_call_s_i (As := [.int k, .int o, .int t, .int z]) (rest := [.ref m0]) (wr := [(m0, .inr (5, [.int fa, .ref r1, .ref r2, .ref r3, .ref r4, .ref r5, .int rw, .ref r6, .ref r7, .ref r8, .int gw, .ref r9, .ref r10, .ref r11, .ref r12, .ref r13, .ref r14, .ref r15, .ref r16])), (r1, .inl (cI, 80, .inl K)), (r2, .inl (cI, 80, .inl O)), (r3, .inl (cI, 80, .inl T)), (r4, .inl (cI, 80, .inl Z)), (r5, .inl (cI, 2, .inl Sz)), (r13, .inl (cZ, 2, .inl On))]) F (co_M_isSound) wm_472 wm_6 wm_470 wm_471 pd_M_isSound rfl rfl ⟨Nat.le_of_ble_eq_true rfl, Nat.le_of_ble_eq_true rfl⟩ hP hD hS hA [] [0, 1, 2, 3, 4, 5, 6] rfl rfl rfl rfl (by decide) rfl hl.1 rfl (Nat.le_of_ble_eq_true rfl) de_M_change_25 ⟨Nat.le_of_ble_eq_true rfl, Nat.le_of_ble_eq_true rfl⟩ (fun r_25 u_25 H locs hw_25 hP hD hS => ?_)
      have hP : va_P (dC, dI) classes [(m0, .inr (5, [.int fa, .ref r1, .ref r2, .ref r3, .ref r4, .ref r5, .int rw, .ref r6, .ref r7, .ref r8, .int gw, .ref r9, .ref r10, .ref r11, .ref r12, .ref r13, .ref r14, .ref r15, .ref r16])), (r1, .inl (cI, 80, .inl K)), (r2, .inl (cI, 80, .inl O)), (r3, .inl (cI, 80, .inl T)), (r4, .inl (cI, 80, .inl Z)), (r5, .inl (cI, 2, .inl Sz)), (r13, .inl (cZ, 2, .inl On))] H := hP.sub [0, 1, 2, 3, 4, 5, 6] rfl
      have hD : va_D A [(m0, .inr (5, [.int fa, .ref r1, .ref r2, .ref r3, .ref r4, .ref r5, .int rw, .ref r6, .ref r7, .ref r8, .int gw, .ref r9, .ref r10, .ref r11, .ref r12, .ref r13, .ref r14, .ref r15, .ref r16])), (r1, .inl (cI, 80, .inl K)), (r2, .inl (cI, 80, .inl O)), (r3, .inl (cI, 80, .inl T)), (r4, .inl (cI, 80, .inl Z)), (r5, .inl (cI, 2, .inl Sz)), (r13, .inl (cZ, 2, .inl On))] := hD.sub [0, 1, 2, 3, 4, 5, 6] (by decide) rfl
      rcases hw_25 with ⟨he_25, hv_25⟩ | ⟨he_25, hv_25⟩
      · subst he_25
        refine lv_if_ne (tgt := 35) hx hb de_M_change_28 (by decide) (fun _ => ?_) (fun hc => absurd hc (by decide))
        refine lv_iconst (v := 0) hx hb de_M_change_35 (by decide) ?_
        refine bc_call_v_i (As := [.int 0]) (rest := []) (wr := [(r1, .inl (cI, 80, .inl K)), (r2, .inl (cI, 80, .inl O)), (r3, .inl (cI, 80, .inl T)), (r4, .inl (cI, 80, .inl Z)), (r5, .inl (cI, 2, .inl Sz)), (r13, .inl (cZ, 2, .inl On))]) F (co_M_refused) wm_478 wm_6 wm_476 wm_477 wm_630 0 rfl rfl pd_M_refused rfl rfl ⟨Nat.le_of_ble_eq_true rfl, Nat.le_of_ble_eq_true rfl⟩ hP hD hS hA [0] [1, 2, 3, 4, 5, 6] rfl rfl rfl rfl (by decide) rfl hl.1 rfl (Nat.le_of_ble_eq_true rfl) de_M_change_36 ⟨Nat.le_of_ble_eq_true rfl, Nat.le_of_ble_eq_true rfl⟩ (fun r_36 u_36 H locs hw_36 hP hD hS => ?_)
        have hP : va_P (dC, dI) classes [(m0, .inr (5, [.int 0, .ref r1, .ref r2, .ref r3, .ref r4, .ref r5, .int rw, .ref r6, .ref r7, .ref r8, .int gw, .ref r9, .ref r10, .ref r11, .ref r12, .ref r13, .ref r14, .ref r15, .ref r16])), (r1, .inl (cI, 80, .inl K)), (r2, .inl (cI, 80, .inl O)), (r3, .inl (cI, 80, .inl T)), (r4, .inl (cI, 80, .inl Z)), (r5, .inl (cI, 2, .inl Sz)), (r13, .inl (cZ, 2, .inl On))] H := hP.sub [6, 0, 1, 2, 3, 4, 5] rfl
        have hD : va_D A [(m0, .inr (5, [.int 0, .ref r1, .ref r2, .ref r3, .ref r4, .ref r5, .int rw, .ref r6, .ref r7, .ref r8, .int gw, .ref r9, .ref r10, .ref r11, .ref r12, .ref r13, .ref r14, .ref r15, .ref r16])), (r1, .inl (cI, 80, .inl K)), (r2, .inl (cI, 80, .inl O)), (r3, .inl (cI, 80, .inl T)), (r4, .inl (cI, 80, .inl Z)), (r5, .inl (cI, 2, .inl Sz)), (r13, .inl (cZ, 2, .inl On))] := hD.sub [6, 0, 1, 2, 3, 4, 5] (by decide) rfl
        rcases hw_36 with ⟨he_36, hv_36⟩ | ⟨he_36, hv_36⟩
        · subst he_36
          exact absurd (by decide) hv_36
        · subst he_36
          refine lv_if_ne (tgt := 57) hx hb de_M_change_39 (by decide) (fun hc => absurd (by decide) hc) (fun _ => ?_)
          refine lv_aload_n hx hb de_M_change_42 rfl (lv_at hl 0 rfl) ?_
          refine lv_iload_n hx hb de_M_change_43 rfl (lv_at hl 1 rfl) ?_
          refine lv_iload_n hx hb de_M_change_44 rfl (lv_at hl 2 rfl) ?_
          refine lv_iload_n hx hb de_M_change_45 rfl (lv_at hl 3 rfl) ?_
          refine lv_iload hx hb de_M_change_46 (lv_at hl 4 rfl) ?_
          refine lv_iload hx hb de_M_change_48 (lv_at hl 5 rfl) ?_
          refine bc_call_v_v (As := [.int (nI j), .int k, .int o, .int t, .int z]) (rest := []) (wr := [(r5, .inl (cI, 2, .inl Sz)), (r13, .inl (cZ, 2, .inl On))]) F (co_M_put (i := j) (by omega) (bc_si_kk hv_25)) wm_481 wm_6 wm_479 wm_480 wm_631 0 rfl rfl pd_M_put rfl rfl ⟨Nat.le_of_ble_eq_true rfl, Nat.le_of_ble_eq_true rfl⟩ hP hD hS hA [0, 1, 2, 3, 4] [5, 6] rfl rfl rfl rfl (by decide) rfl hl.1 rfl (Nat.le_of_ble_eq_true rfl) de_M_change_50 ⟨Nat.le_of_ble_eq_true rfl, Nat.le_of_ble_eq_true rfl⟩ (fun u_50 H locs hw_50 hP hD hS => ?_)
          obtain ⟨K4, O4, T4, Z4⟩ := u_50
          try dsimp only at hw_50
          simp only [Prod.mk.injEq] at hw_50
          obtain ⟨rfl, rfl, rfl, rfl⟩ := hw_50
          have hP : va_P (dC, dI) classes [(m0, .inr (5, [.int 0, .ref r1, .ref r2, .ref r3, .ref r4, .ref r5, .int rw, .ref r6, .ref r7, .ref r8, .int gw, .ref r9, .ref r10, .ref r11, .ref r12, .ref r13, .ref r14, .ref r15, .ref r16])), (r1, .inl (cI, 80, .inl (upd K j k))), (r2, .inl (cI, 80, .inl (upd O j (bc_p1 k o)))), (r3, .inl (cI, 80, .inl (upd T j (bc_p2 k t)))), (r4, .inl (cI, 80, .inl (upd Z j (bc_p3 k z)))), (r5, .inl (cI, 2, .inl Sz)), (r13, .inl (cZ, 2, .inl On))] H := hP.sub [2, 3, 4, 5, 6, 0, 1] rfl
          have hD : va_D A [(m0, .inr (5, [.int 0, .ref r1, .ref r2, .ref r3, .ref r4, .ref r5, .int rw, .ref r6, .ref r7, .ref r8, .int gw, .ref r9, .ref r10, .ref r11, .ref r12, .ref r13, .ref r14, .ref r15, .ref r16])), (r1, .inl (cI, 80, .inl (upd K j k))), (r2, .inl (cI, 80, .inl (upd O j (bc_p1 k o)))), (r3, .inl (cI, 80, .inl (upd T j (bc_p2 k t)))), (r4, .inl (cI, 80, .inl (upd Z j (bc_p3 k z)))), (r5, .inl (cI, 2, .inl Sz)), (r13, .inl (cZ, 2, .inl On))] := hD.sub [2, 3, 4, 5, 6, 0, 1] (by decide) rfl
          refine lv_aload_n hx hb de_M_change_53 rfl (lv_at hl 0 rfl) ?_
          refine bc_call_v_v (As := []) (rest := []) (wr := [(r1, .inl (cI, 80, .inl (upd K j k))), (r2, .inl (cI, 80, .inl (upd O j (bc_p1 k o)))), (r3, .inl (cI, 80, .inl (upd T j (bc_p2 k t)))), (r4, .inl (cI, 80, .inl (upd Z j (bc_p3 k z)))), (r5, .inl (cI, 2, .inl Sz))]) F (co_M_changed) wm_484 wm_6 wm_482 wm_483 wm_632 0 rfl rfl pd_M_changed rfl rfl ⟨Nat.le_of_ble_eq_true rfl, Nat.le_of_ble_eq_true rfl⟩ hP hD hS hA [0, 6] [1, 2, 3, 4, 5] rfl rfl rfl rfl (by decide) rfl hl.1 rfl (Nat.le_of_ble_eq_true rfl) de_M_change_54 ⟨Nat.le_of_ble_eq_true rfl, Nat.le_of_ble_eq_true rfl⟩ (fun u_54 H locs hw_54 hP hD hS => ?_)
          have hP : va_P (dC, dI) classes [(m0, .inr (5, [.int 0, .ref r1, .ref r2, .ref r3, .ref r4, .ref r5, .int 0, .ref r6, .ref r7, .ref r8, .int gw, .ref r9, .ref r10, .ref r11, .ref r12, .ref r13, .ref r14, .ref r15, .ref r16])), (r1, .inl (cI, 80, .inl (upd K j k))), (r2, .inl (cI, 80, .inl (upd O j (bc_p1 k o)))), (r3, .inl (cI, 80, .inl (upd T j (bc_p2 k t)))), (r4, .inl (cI, 80, .inl (upd Z j (bc_p3 k z)))), (r5, .inl (cI, 2, .inl Sz)), (r13, .inl (cZ, 2, .inl (upd (upd On 0 0) 1 0)))] H := hP.sub [5, 0, 1, 2, 3, 4, 6] rfl
          have hD : va_D A [(m0, .inr (5, [.int 0, .ref r1, .ref r2, .ref r3, .ref r4, .ref r5, .int 0, .ref r6, .ref r7, .ref r8, .int gw, .ref r9, .ref r10, .ref r11, .ref r12, .ref r13, .ref r14, .ref r15, .ref r16])), (r1, .inl (cI, 80, .inl (upd K j k))), (r2, .inl (cI, 80, .inl (upd O j (bc_p1 k o)))), (r3, .inl (cI, 80, .inl (upd T j (bc_p2 k t)))), (r4, .inl (cI, 80, .inl (upd Z j (bc_p3 k z)))), (r5, .inl (cI, 2, .inl Sz)), (r13, .inl (cZ, 2, .inl (upd (upd On 0 0) 1 0)))] := hD.sub [5, 0, 1, 2, 3, 4, 6] (by decide) rfl
          exact bc_vret F hr hlocks ((0, 0, upd K j k, upd O j (bc_p1 k o), upd T j (bc_p2 k t), upd Z j (bc_p3 k z), Sz, upd (upd On 0 0) 1 0)) (Or.inr ⟨j, hj, rfl, Or.inr ⟨hv_25, rfl, bc_MR_put hR (fun _ h1 _ => h1) hSz⟩⟩) hP hD hS de_M_change_57
      · subst he_25
        refine lv_if_ne (tgt := 35) hx hb de_M_change_28 (by decide) (fun hc => absurd (by decide) hc) (fun _ => ?_)
        refine lv_iconst (v := 2) hx hb de_M_change_31 (by decide) ?_
        refine lv_goto (tgt := 36) hx hb de_M_change_32 (by decide) ?_
        refine bc_call_v_i (As := [.int 2]) (rest := []) (wr := [(r1, .inl (cI, 80, .inl K)), (r2, .inl (cI, 80, .inl O)), (r3, .inl (cI, 80, .inl T)), (r4, .inl (cI, 80, .inl Z)), (r5, .inl (cI, 2, .inl Sz)), (r13, .inl (cZ, 2, .inl On))]) F (co_M_refused) wm_478 wm_6 wm_476 wm_477 wm_630 0 rfl rfl pd_M_refused rfl rfl ⟨Nat.le_of_ble_eq_true rfl, Nat.le_of_ble_eq_true rfl⟩ hP hD hS hA [0] [1, 2, 3, 4, 5, 6] rfl rfl rfl rfl (by decide) rfl hl.1 rfl (Nat.le_of_ble_eq_true rfl) de_M_change_36 ⟨Nat.le_of_ble_eq_true rfl, Nat.le_of_ble_eq_true rfl⟩ (fun r_36 u_36 H locs hw_36 hP hD hS => ?_)
        have hP : va_P (dC, dI) classes [(m0, .inr (5, [.int 2, .ref r1, .ref r2, .ref r3, .ref r4, .ref r5, .int rw, .ref r6, .ref r7, .ref r8, .int gw, .ref r9, .ref r10, .ref r11, .ref r12, .ref r13, .ref r14, .ref r15, .ref r16])), (r1, .inl (cI, 80, .inl K)), (r2, .inl (cI, 80, .inl O)), (r3, .inl (cI, 80, .inl T)), (r4, .inl (cI, 80, .inl Z)), (r5, .inl (cI, 2, .inl Sz)), (r13, .inl (cZ, 2, .inl On))] H := hP.sub [6, 0, 1, 2, 3, 4, 5] rfl
        have hD : va_D A [(m0, .inr (5, [.int 2, .ref r1, .ref r2, .ref r3, .ref r4, .ref r5, .int rw, .ref r6, .ref r7, .ref r8, .int gw, .ref r9, .ref r10, .ref r11, .ref r12, .ref r13, .ref r14, .ref r15, .ref r16])), (r1, .inl (cI, 80, .inl K)), (r2, .inl (cI, 80, .inl O)), (r3, .inl (cI, 80, .inl T)), (r4, .inl (cI, 80, .inl Z)), (r5, .inl (cI, 2, .inl Sz)), (r13, .inl (cZ, 2, .inl On))] := hD.sub [6, 0, 1, 2, 3, 4, 5] (by decide) rfl
        rcases hw_36 with ⟨he_36, hv_36⟩ | ⟨he_36, hv_36⟩
        · subst he_36
          refine lv_if_ne (tgt := 57) hx hb de_M_change_39 (by decide) (fun _ => ?_) (fun hc => absurd hc (by decide))
          exact bc_vret F hr hlocks ((2, rw, K, O, T, Z, Sz, On)) (Or.inr ⟨j, hj, rfl, Or.inl ⟨hv_25, rfl, hR⟩⟩) hP hD hS de_M_change_57
        · subst he_36
          exact absurd hv_36 (by decide)
    · refine lv_iconst (v := 1) hx hb de_M_change_15 (by decide) ?_
      refine lv_goto (tgt := 36) hx hb de_M_change_16 (by decide) ?_
      refine bc_call_v_i (As := [.int 1]) (rest := []) (wr := [(r1, .inl (cI, 80, .inl K)), (r2, .inl (cI, 80, .inl O)), (r3, .inl (cI, 80, .inl T)), (r4, .inl (cI, 80, .inl Z)), (r5, .inl (cI, 2, .inl Sz)), (r13, .inl (cZ, 2, .inl On))]) F (co_M_refused) wm_478 wm_6 wm_476 wm_477 wm_630 0 rfl rfl pd_M_refused rfl rfl ⟨Nat.le_of_ble_eq_true rfl, Nat.le_of_ble_eq_true rfl⟩ hP hD hS hA [0] [1, 2, 3, 4, 5, 6] rfl rfl rfl rfl (by decide) rfl hl.1 rfl (Nat.le_of_ble_eq_true rfl) de_M_change_36 ⟨Nat.le_of_ble_eq_true rfl, Nat.le_of_ble_eq_true rfl⟩ (fun r_36 u_36 H locs hw_36 hP hD hS => ?_)
      have hP : va_P (dC, dI) classes [(m0, .inr (5, [.int 1, .ref r1, .ref r2, .ref r3, .ref r4, .ref r5, .int rw, .ref r6, .ref r7, .ref r8, .int gw, .ref r9, .ref r10, .ref r11, .ref r12, .ref r13, .ref r14, .ref r15, .ref r16])), (r1, .inl (cI, 80, .inl K)), (r2, .inl (cI, 80, .inl O)), (r3, .inl (cI, 80, .inl T)), (r4, .inl (cI, 80, .inl Z)), (r5, .inl (cI, 2, .inl Sz)), (r13, .inl (cZ, 2, .inl On))] H := hP.sub [6, 0, 1, 2, 3, 4, 5] rfl
      have hD : va_D A [(m0, .inr (5, [.int 1, .ref r1, .ref r2, .ref r3, .ref r4, .ref r5, .int rw, .ref r6, .ref r7, .ref r8, .int gw, .ref r9, .ref r10, .ref r11, .ref r12, .ref r13, .ref r14, .ref r15, .ref r16])), (r1, .inl (cI, 80, .inl K)), (r2, .inl (cI, 80, .inl O)), (r3, .inl (cI, 80, .inl T)), (r4, .inl (cI, 80, .inl Z)), (r5, .inl (cI, 2, .inl Sz)), (r13, .inl (cZ, 2, .inl On))] := hD.sub [6, 0, 1, 2, 3, 4, 5] (by decide) rfl
      rcases hw_36 with ⟨he_36, hv_36⟩ | ⟨he_36, hv_36⟩
      · subst he_36
        refine lv_if_ne (tgt := 57) hx hb de_M_change_39 (by decide) (fun _ => ?_) (fun hc => absurd hc (by decide))
        exact bc_vret F hr hlocks ((1, rw, K, O, T, Z, Sz, On)) (Or.inl ⟨bc_isn1 (by omega) (bc_ltle' hc_12), rfl, hR⟩) hP hD hS de_M_change_57
      · subst he_36
        exact absurd hv_36 (by decide)

set_option maxHeartbeats 4000000 in
set_option maxRecDepth 100000 in
/-- clear -/
theorem co_M_clear {l : Launch} {dC : Nat → ClassId} {dI : Nat → Nat → Nat} {cI cZ : ClassId} {sz : Nat} {m0 r1 r2 r3 r4 r5 r6 r7 r8 r9 r10 r11 r12 r13 r14 r15 r16 : Nat} {K O T Z Sz On Pl Sp Vr : bc_F} {fa rw gw : Int32} {n n2 : Nat} {P Q X : Nat → bc_F} {ON PL SP : bc_F} {ra : Int32} (hAB : bc_AB n P ra n2 Q ON PL SP) (hR : bc_MR n P ra n2 Q ON PL SP X K O T Z Sz On Pl Sp Vr rw) : Met l yn_M_clear (Cond.code yn_M_clear by_M_clear 2 (some FieldType.int) :: wd_all) ({ frames := 1, cells := 0, slots := 0, locals := 20 } : Room) (bc_Pre (dC, dI) classes [(cI, .int), (cZ, .boolean)] [.ref m0] [(m0, .inr (5, [.int fa, .ref r1, .ref r2, .ref r3, .ref r4, .ref r5, .int rw, .ref r6, .ref r7, .ref r8, .int gw, .ref r9, .ref r10, .ref r11, .ref r12, .ref r13, .ref r14, .ref r15, .ref r16])), (r5, .inl (cI, 2, .inl Sz)), (r13, .inl (cZ, 2, .inl On))] sz) (va_Qi (fun (r : Int32) (u : Unit) => r = nI n ∧ bc_MR 0 P 0 n2 Q (fun _ => 0) PL SP X K O T Z (upd Sz 0 0) (upd (upd On 0 0) 1 0) Pl Sp Vr 0) (fun (u : Unit) t => bc_B (dC, dI) classes [(cI, .int), (cZ, .boolean)] (va_A [(m0, .inr (5, [.int fa, .ref r1, .ref r2, .ref r3, .ref r4, .ref r5, .int rw, .ref r6, .ref r7, .ref r8, .int gw, .ref r9, .ref r10, .ref r11, .ref r12, .ref r13, .ref r14, .ref r15, .ref r16])), (r5, .inl (cI, 2, .inl Sz)), (r13, .inl (cZ, 2, .inl On))] sz) [(m0, .inr (5, [.int 0, .ref r1, .ref r2, .ref r3, .ref r4, .ref r5, .int 0, .ref r6, .ref r7, .ref r8, .int gw, .ref r9, .ref r10, .ref r11, .ref r12, .ref r13, .ref r14, .ref r15, .ref r16])), (r5, .inl (cI, 2, .inl (upd Sz 0 0))), (r13, .inl (cZ, 2, .inl (upd (upd On 0 0) 1 0)))] t) ((va_A [(m0, .inr (5, [.int fa, .ref r1, .ref r2, .ref r3, .ref r4, .ref r5, .int rw, .ref r6, .ref r7, .ref r8, .int gw, .ref r9, .ref r10, .ref r11, .ref r12, .ref r13, .ref r14, .ref r15, .ref r16])), (r5, .inl (cI, 2, .inl Sz)), (r13, .inl (cZ, 2, .inl On))] sz))) 0 0 (va_A [(m0, .inr (5, [.int fa, .ref r1, .ref r2, .ref r3, .ref r4, .ref r5, .int rw, .ref r6, .ref r7, .ref r8, .int gw, .ref r9, .ref r10, .ref r11, .ref r12, .ref r13, .ref r14, .ref r15, .ref r16])), (r5, .inl (cI, 2, .inl Sz)), (r13, .inl (cZ, 2, .inl On))] sz) := by
  refine bc_met (fun A => va_Qi (fun (r : Int32) (u : Unit) => r = nI n ∧ bc_MR 0 P 0 n2 Q (fun _ => 0) PL SP X K O T Z (upd Sz 0 0) (upd (upd On 0 0) 1 0) Pl Sp Vr 0) (fun (u : Unit) t => bc_B (dC, dI) classes [(cI, .int), (cZ, .boolean)] A [(m0, .inr (5, [.int 0, .ref r1, .ref r2, .ref r3, .ref r4, .ref r5, .int 0, .ref r6, .ref r7, .ref r8, .int gw, .ref r9, .ref r10, .ref r11, .ref r12, .ref r13, .ref r14, .ref r15, .ref r16])), (r5, .inl (cI, 2, .inl (upd Sz 0 0))), (r13, .inl (cZ, 2, .inl (upd (upd On 0 0) 1 0)))] t) A) (by decide) (Nat.le_of_ble_eq_true rfl) ?_
  intro p e s m args below meth c A ls F hr hlocks hin hA hP hD hl hS
  have hx := F.1
  have hb := F.2.1
  have hml := F.2.2.1
  have hown : s.vm.findClass "BranchConstantsModel" = some m.cls := F.2.2.2.1
  have htw := F.2.2.2.2.1
  have hN := F.2.2.2.2.2.1
  have hK := F.2.2.2.2.2.2
  have hl : lv_has ls 2 [(0, .ref m0)] := hl
  have hn := hAB.1
  have hSz := hR.1
  refine lv_aload_n hx hb de_M_clear_0 rfl (lv_at hl 0 rfl) ?_
  refine lv_iconst (v := 0) hx hb de_M_clear_1 (by decide) ?_
  refine va_put (D := (dC, dI)) (ci := 5) (v := .int 0) (ty := .int) (C := rc_M) (T := fc_M) (N := 19) hx hb htw wi_M tc_M tc_M_ok nc_M hown hK hP hD hS 0 rfl rfl 0 (by decide) (htw _ wm_423) (fun _ h9 => h9) rfl (by decide +kernel) rfl rfl (Nat.le_of_ble_eq_true rfl) de_M_clear_2 (fun H locs hP hD hS => ?_)
  have hP : va_P (dC, dI) classes [(m0, .inr (5, [.int 0, .ref r1, .ref r2, .ref r3, .ref r4, .ref r5, .int rw, .ref r6, .ref r7, .ref r8, .int gw, .ref r9, .ref r10, .ref r11, .ref r12, .ref r13, .ref r14, .ref r15, .ref r16])), (r5, .inl (cI, 2, .inl Sz)), (r13, .inl (cZ, 2, .inl On))] H := hP
  have hD : va_D A [(m0, .inr (5, [.int 0, .ref r1, .ref r2, .ref r3, .ref r4, .ref r5, .int rw, .ref r6, .ref r7, .ref r8, .int gw, .ref r9, .ref r10, .ref r11, .ref r12, .ref r13, .ref r14, .ref r15, .ref r16])), (r5, .inl (cI, 2, .inl Sz)), (r13, .inl (cZ, 2, .inl On))] := hD
  refine lv_aload_n hx hb de_M_clear_5 rfl (lv_at hl 0 rfl) ?_
  refine va_get (D := (dC, dI)) (ci := 5) (v := .ref r5) (C := rc_M) (T := fc_M) (N := 19) hx hb htw wi_M hown hK hP 0 rfl rfl 5 (by decide) (htw _ wm_428) (fun _ h9 => h9) rfl de_M_clear_6 ?_
  refine lv_iconst (v := 0) hx hb de_M_clear_9 (by decide) ?_
  refine bc_ildE (by decide) (j := 0) hx hb hK hP 1 0 rfl rfl (by omega) (by decide) de_M_clear_10 ?_
  refine bc_ti (y := nI n) hSz ?_
  refine lv_istore_n (lv' := [(1, .int (nI n)), (0, .ref m0)]) hx hb de_M_clear_11 rfl hl (by decide) rfl (fun ls hl => ?_)
  refine lv_aload_n hx hb de_M_clear_12 rfl (lv_at hl 1 rfl) ?_
  refine va_get (D := (dC, dI)) (ci := 5) (v := .ref r5) (C := rc_M) (T := fc_M) (N := 19) hx hb htw wi_M hown hK hP 0 rfl rfl 5 (by decide) (htw _ wm_428) (fun _ h9 => h9) rfl de_M_clear_13 ?_
  refine lv_iconst (v := 0) hx hb de_M_clear_16 (by decide) ?_
  refine lv_iconst (v := 0) hx hb de_M_clear_17 (by decide) ?_
  refine bc_istE (by decide) (j := 0) hx hb hK hP hD hS 1 0 rfl rfl (by omega) (by decide) de_M_clear_18 (fun H locs hP hD hS => ?_)
  have hP : va_P (dC, dI) classes [(m0, .inr (5, [.int 0, .ref r1, .ref r2, .ref r3, .ref r4, .ref r5, .int rw, .ref r6, .ref r7, .ref r8, .int gw, .ref r9, .ref r10, .ref r11, .ref r12, .ref r13, .ref r14, .ref r15, .ref r16])), (r5, .inl (cI, 2, .inl (upd Sz 0 0))), (r13, .inl (cZ, 2, .inl On))] H := hP
  have hD : va_D A [(m0, .inr (5, [.int 0, .ref r1, .ref r2, .ref r3, .ref r4, .ref r5, .int rw, .ref r6, .ref r7, .ref r8, .int gw, .ref r9, .ref r10, .ref r11, .ref r12, .ref r13, .ref r14, .ref r15, .ref r16])), (r5, .inl (cI, 2, .inl (upd Sz 0 0))), (r13, .inl (cZ, 2, .inl On))] := hD
  refine lv_aload_n hx hb de_M_clear_19 rfl (lv_at hl 1 rfl) ?_
  refine bc_call_v_v (As := []) (rest := []) (wr := [(r5, .inl (cI, 2, .inl (upd Sz 0 0)))]) F (co_M_changed) wm_484 wm_6 wm_482 wm_483 wm_632 0 rfl rfl pd_M_changed rfl rfl ⟨Nat.le_of_ble_eq_true rfl, Nat.le_of_ble_eq_true rfl⟩ hP hD hS hA [0, 2] [1] rfl rfl rfl rfl (by decide) rfl hl.1 rfl (Nat.le_of_ble_eq_true rfl) de_M_clear_20 ⟨Nat.le_of_ble_eq_true rfl, Nat.le_of_ble_eq_true rfl⟩ (fun u_20 H locs hw_20 hP hD hS => ?_)
  have hP : va_P (dC, dI) classes [(m0, .inr (5, [.int 0, .ref r1, .ref r2, .ref r3, .ref r4, .ref r5, .int 0, .ref r6, .ref r7, .ref r8, .int gw, .ref r9, .ref r10, .ref r11, .ref r12, .ref r13, .ref r14, .ref r15, .ref r16])), (r5, .inl (cI, 2, .inl (upd Sz 0 0))), (r13, .inl (cZ, 2, .inl (upd (upd On 0 0) 1 0)))] H := hP.sub [1, 0, 2] rfl
  have hD : va_D A [(m0, .inr (5, [.int 0, .ref r1, .ref r2, .ref r3, .ref r4, .ref r5, .int 0, .ref r6, .ref r7, .ref r8, .int gw, .ref r9, .ref r10, .ref r11, .ref r12, .ref r13, .ref r14, .ref r15, .ref r16])), (r5, .inl (cI, 2, .inl (upd Sz 0 0))), (r13, .inl (cZ, 2, .inl (upd (upd On 0 0) 1 0)))] := hD.sub [1, 0, 2] (by decide) rfl
  refine lv_iload_n hx hb de_M_clear_23 rfl (lv_at hl 0 rfl) ?_
  exact bc_iret F hr hlocks (()) ⟨rfl, bc_MR_clear hR (by rw [pk_us]; rfl)⟩ hP hD hS de_M_clear_24

set_option maxHeartbeats 4000000 in
set_option maxRecDepth 100000 in
/-- is the side wrong -/
theorem co_M_isWrong {l : Launch} {dC : Nat → ClassId} {dI : Nat → Nat → Nat} {cI cZ : ClassId} {sz : Nat} {m0 r1 r2 r3 r4 r5 r6 r7 r8 r9 r10 r11 r12 r13 r14 r15 r16 : Nat} {On : bc_F} {fa rw gw : Int32} {x b : Int32} : Met l yn_M_isWrong (Cond.code yn_M_isWrong by_M_isWrong 3 (some FieldType.boolean) :: wd_all) ({ frames := 1, cells := 0, slots := 0, locals := 21 } : Room) (bc_Pre (dC, dI) classes [(cI, .int), (cZ, .boolean)] [.ref m0, .int x, .int b] [(m0, .inr (5, [.int fa, .ref r1, .ref r2, .ref r3, .ref r4, .ref r5, .int rw, .ref r6, .ref r7, .ref r8, .int gw, .ref r9, .ref r10, .ref r11, .ref r12, .ref r13, .ref r14, .ref r15, .ref r16])), (r13, .inl (cZ, 2, .inl On))] sz) (va_Qi (fun (r : Int32) (u : Int32) => (r = 1 ∧ bc_w1 x b On u) ∨ (r = 0 ∧ bc_w0 x b On u)) (fun (u : Int32) t => bc_B (dC, dI) classes [(cI, .int), (cZ, .boolean)] (va_A [(m0, .inr (5, [.int fa, .ref r1, .ref r2, .ref r3, .ref r4, .ref r5, .int rw, .ref r6, .ref r7, .ref r8, .int gw, .ref r9, .ref r10, .ref r11, .ref r12, .ref r13, .ref r14, .ref r15, .ref r16])), (r13, .inl (cZ, 2, .inl On))] sz) [(m0, .inr (5, [.int u, .ref r1, .ref r2, .ref r3, .ref r4, .ref r5, .int rw, .ref r6, .ref r7, .ref r8, .int gw, .ref r9, .ref r10, .ref r11, .ref r12, .ref r13, .ref r14, .ref r15, .ref r16])), (r13, .inl (cZ, 2, .inl On))] t) ((va_A [(m0, .inr (5, [.int fa, .ref r1, .ref r2, .ref r3, .ref r4, .ref r5, .int rw, .ref r6, .ref r7, .ref r8, .int gw, .ref r9, .ref r10, .ref r11, .ref r12, .ref r13, .ref r14, .ref r15, .ref r16])), (r13, .inl (cZ, 2, .inl On))] sz))) 0 0 (va_A [(m0, .inr (5, [.int fa, .ref r1, .ref r2, .ref r3, .ref r4, .ref r5, .int rw, .ref r6, .ref r7, .ref r8, .int gw, .ref r9, .ref r10, .ref r11, .ref r12, .ref r13, .ref r14, .ref r15, .ref r16])), (r13, .inl (cZ, 2, .inl On))] sz) := by
  refine bc_met (fun A => va_Qi (fun (r : Int32) (u : Int32) => (r = 1 ∧ bc_w1 x b On u) ∨ (r = 0 ∧ bc_w0 x b On u)) (fun (u : Int32) t => bc_B (dC, dI) classes [(cI, .int), (cZ, .boolean)] A [(m0, .inr (5, [.int u, .ref r1, .ref r2, .ref r3, .ref r4, .ref r5, .int rw, .ref r6, .ref r7, .ref r8, .int gw, .ref r9, .ref r10, .ref r11, .ref r12, .ref r13, .ref r14, .ref r15, .ref r16])), (r13, .inl (cZ, 2, .inl On))] t) A) (by decide) (Nat.le_of_ble_eq_true rfl) ?_
  intro p e s m args below meth c A ls F hr hlocks hin hA hP hD hl hS
  have hx := F.1
  have hb := F.2.1
  have hml := F.2.2.1
  have hown : s.vm.findClass "BranchConstantsModel" = some m.cls := F.2.2.2.1
  have htw := F.2.2.2.2.1
  have hN := F.2.2.2.2.2.1
  have hK := F.2.2.2.2.2.2
  have hl : lv_has ls 3 [(0, .ref m0), (1, .int x), (2, .int b)] := hl
  refine lv_aload_n hx hb de_M_isWrong_0 rfl (lv_at hl 0 rfl) ?_
  refine lv_iload_n hx hb de_M_isWrong_1 rfl (lv_at hl 1 rfl) ?_
  refine bc_call_s_i (As := [.int x]) (rest := [.ref m0]) (wr := [(m0, .inr (5, [.int fa, .ref r1, .ref r2, .ref r3, .ref r4, .ref r5, .int rw, .ref r6, .ref r7, .ref r8, .int gw, .ref r9, .ref r10, .ref r11, .ref r12, .ref r13, .ref r14, .ref r15, .ref r16])), (r13, .inl (cZ, 2, .inl On))]) F (co_M_isSide) wm_565 wm_6 wm_563 wm_564 pd_M_isSide rfl rfl ⟨Nat.le_of_ble_eq_true rfl, Nat.le_of_ble_eq_true rfl⟩ hP hD hS hA [] [0, 1] rfl rfl rfl rfl (by decide) rfl hl.1 rfl (Nat.le_of_ble_eq_true rfl) de_M_isWrong_2 ⟨Nat.le_of_ble_eq_true rfl, Nat.le_of_ble_eq_true rfl⟩ (fun r_2 u_2 H locs hw_2 hP hD hS => ?_)
  have hP : va_P (dC, dI) classes [(m0, .inr (5, [.int fa, .ref r1, .ref r2, .ref r3, .ref r4, .ref r5, .int rw, .ref r6, .ref r7, .ref r8, .int gw, .ref r9, .ref r10, .ref r11, .ref r12, .ref r13, .ref r14, .ref r15, .ref r16])), (r13, .inl (cZ, 2, .inl On))] H := hP.sub [0, 1] rfl
  have hD : va_D A [(m0, .inr (5, [.int fa, .ref r1, .ref r2, .ref r3, .ref r4, .ref r5, .int rw, .ref r6, .ref r7, .ref r8, .int gw, .ref r9, .ref r10, .ref r11, .ref r12, .ref r13, .ref r14, .ref r15, .ref r16])), (r13, .inl (cZ, 2, .inl On))] := hD.sub [0, 1] (by decide) rfl
  rcases hw_2 with ⟨he_2, hv_2⟩ | ⟨he_2, hv_2⟩
  · subst he_2
    refine lv_if_eq (tgt := 12) hx hb de_M_isWrong_5 (by decide) (fun hc => absurd hc (by decide)) (fun _ => ?_)
    obtain ⟨y, hy, ey⟩ := bc_side hv_2
    subst ey
    refine lv_iload_n hx hb de_M_isWrong_8 rfl (lv_at hl 2 rfl) ?_
    refine lv_if_ne (tgt := 16) hx hb de_M_isWrong_9 (by decide) (fun hc_9 => ?_) (fun hc_9 => ?_)
    · refine lv_aload_n hx hb de_M_isWrong_16 rfl (lv_at hl 0 rfl) ?_
      refine va_get (D := (dC, dI)) (ci := 5) (v := .ref r13) (C := rc_M) (T := fc_M) (N := 19) hx hb htw wi_M hown hK hP 0 rfl rfl 15 (by decide) (htw _ wm_438) (fun _ h9 => h9) rfl de_M_isWrong_17 ?_
      refine lv_iload_n hx hb de_M_isWrong_20 rfl (lv_at hl 1 rfl) ?_
      refine bc_zld (j := y) hx hb hK hP 1 1 rfl rfl (by omega) (by decide) de_M_isWrong_21 ?_
      refine lv_if_ne (tgt := 29) hx hb de_M_isWrong_22 (by decide) (fun hc_22 => ?_) (fun hc_22 => ?_)
      · refine lv_iconst (v := 0) hx hb de_M_isWrong_29 (by decide) ?_
        refine bc_call_v_i (As := [.int 0]) (rest := []) (wr := [(r13, .inl (cZ, 2, .inl On))]) F (co_M_refused) wm_478 wm_6 wm_476 wm_477 wm_630 0 rfl rfl pd_M_refused rfl rfl ⟨Nat.le_of_ble_eq_true rfl, Nat.le_of_ble_eq_true rfl⟩ hP hD hS hA [0] [1] rfl rfl rfl rfl (by decide) rfl hl.1 rfl (Nat.le_of_ble_eq_true rfl) de_M_isWrong_30 ⟨Nat.le_of_ble_eq_true rfl, Nat.le_of_ble_eq_true rfl⟩ (fun r_30 u_30 H locs hw_30 hP hD hS => ?_)
        have hP : va_P (dC, dI) classes [(m0, .inr (5, [.int 0, .ref r1, .ref r2, .ref r3, .ref r4, .ref r5, .int rw, .ref r6, .ref r7, .ref r8, .int gw, .ref r9, .ref r10, .ref r11, .ref r12, .ref r13, .ref r14, .ref r15, .ref r16])), (r13, .inl (cZ, 2, .inl On))] H := hP.sub [1, 0] rfl
        have hD : va_D A [(m0, .inr (5, [.int 0, .ref r1, .ref r2, .ref r3, .ref r4, .ref r5, .int rw, .ref r6, .ref r7, .ref r8, .int gw, .ref r9, .ref r10, .ref r11, .ref r12, .ref r13, .ref r14, .ref r15, .ref r16])), (r13, .inl (cZ, 2, .inl On))] := hD.sub [1, 0] (by decide) rfl
        rcases hw_30 with ⟨he_30, hv_30⟩ | ⟨he_30, hv_30⟩
        · subst he_30
          exact absurd (by decide) hv_30
        · subst he_30
          exact bc_zret F hr hlocks rfl 0 (Or.inr ⟨rfl, y, hy, rfl, hc_9, hc_22, rfl⟩) hP hD hS de_M_isWrong_33
      · refine lv_iconst (v := 2) hx hb de_M_isWrong_25 (by decide) ?_
        refine lv_goto (tgt := 30) hx hb de_M_isWrong_26 (by decide) ?_
        refine bc_call_v_i (As := [.int 2]) (rest := []) (wr := [(r13, .inl (cZ, 2, .inl On))]) F (co_M_refused) wm_478 wm_6 wm_476 wm_477 wm_630 0 rfl rfl pd_M_refused rfl rfl ⟨Nat.le_of_ble_eq_true rfl, Nat.le_of_ble_eq_true rfl⟩ hP hD hS hA [0] [1] rfl rfl rfl rfl (by decide) rfl hl.1 rfl (Nat.le_of_ble_eq_true rfl) de_M_isWrong_30 ⟨Nat.le_of_ble_eq_true rfl, Nat.le_of_ble_eq_true rfl⟩ (fun r_30 u_30 H locs hw_30 hP hD hS => ?_)
        have hP : va_P (dC, dI) classes [(m0, .inr (5, [.int 2, .ref r1, .ref r2, .ref r3, .ref r4, .ref r5, .int rw, .ref r6, .ref r7, .ref r8, .int gw, .ref r9, .ref r10, .ref r11, .ref r12, .ref r13, .ref r14, .ref r15, .ref r16])), (r13, .inl (cZ, 2, .inl On))] H := hP.sub [1, 0] rfl
        have hD : va_D A [(m0, .inr (5, [.int 2, .ref r1, .ref r2, .ref r3, .ref r4, .ref r5, .int rw, .ref r6, .ref r7, .ref r8, .int gw, .ref r9, .ref r10, .ref r11, .ref r12, .ref r13, .ref r14, .ref r15, .ref r16])), (r13, .inl (cZ, 2, .inl On))] := hD.sub [1, 0] (by decide) rfl
        rcases hw_30 with ⟨he_30, hv_30⟩ | ⟨he_30, hv_30⟩
        · subst he_30
          exact bc_zret F hr hlocks rfl 2 (Or.inl ⟨rfl, Or.inr ⟨y, hy, rfl, hc_9, hc_22, rfl⟩⟩) hP hD hS de_M_isWrong_33
        · subst he_30
          exact absurd hv_30 (by decide)
    · refine lv_iconst (v := 1) hx hb de_M_isWrong_12 (by decide) ?_
      refine lv_goto (tgt := 30) hx hb de_M_isWrong_13 (by decide) ?_
      refine bc_call_v_i (As := [.int 1]) (rest := []) (wr := [(r13, .inl (cZ, 2, .inl On))]) F (co_M_refused) wm_478 wm_6 wm_476 wm_477 wm_630 0 rfl rfl pd_M_refused rfl rfl ⟨Nat.le_of_ble_eq_true rfl, Nat.le_of_ble_eq_true rfl⟩ hP hD hS hA [0] [1] rfl rfl rfl rfl (by decide) rfl hl.1 rfl (Nat.le_of_ble_eq_true rfl) de_M_isWrong_30 ⟨Nat.le_of_ble_eq_true rfl, Nat.le_of_ble_eq_true rfl⟩ (fun r_30 u_30 H locs hw_30 hP hD hS => ?_)
      have hP : va_P (dC, dI) classes [(m0, .inr (5, [.int 1, .ref r1, .ref r2, .ref r3, .ref r4, .ref r5, .int rw, .ref r6, .ref r7, .ref r8, .int gw, .ref r9, .ref r10, .ref r11, .ref r12, .ref r13, .ref r14, .ref r15, .ref r16])), (r13, .inl (cZ, 2, .inl On))] H := hP.sub [1, 0] rfl
      have hD : va_D A [(m0, .inr (5, [.int 1, .ref r1, .ref r2, .ref r3, .ref r4, .ref r5, .int rw, .ref r6, .ref r7, .ref r8, .int gw, .ref r9, .ref r10, .ref r11, .ref r12, .ref r13, .ref r14, .ref r15, .ref r16])), (r13, .inl (cZ, 2, .inl On))] := hD.sub [1, 0] (by decide) rfl
      rcases hw_30 with ⟨he_30, hv_30⟩ | ⟨he_30, hv_30⟩
      · subst he_30
        exact bc_zret F hr hlocks rfl 1 (Or.inl ⟨rfl, Or.inl ⟨Or.inr hc_9, rfl⟩⟩) hP hD hS de_M_isWrong_33
      · subst he_30
        exact absurd hv_30 (by decide)
  · subst he_2
    refine lv_if_eq (tgt := 12) hx hb de_M_isWrong_5 (by decide) (fun _ => ?_) (fun hc => absurd (by decide) hc)
    refine lv_iconst (v := 1) hx hb de_M_isWrong_12 (by decide) ?_
    refine lv_goto (tgt := 30) hx hb de_M_isWrong_13 (by decide) ?_
    refine bc_call_v_i (As := [.int 1]) (rest := []) (wr := [(r13, .inl (cZ, 2, .inl On))]) F (co_M_refused) wm_478 wm_6 wm_476 wm_477 wm_630 0 rfl rfl pd_M_refused rfl rfl ⟨Nat.le_of_ble_eq_true rfl, Nat.le_of_ble_eq_true rfl⟩ hP hD hS hA [0] [1] rfl rfl rfl rfl (by decide) rfl hl.1 rfl (Nat.le_of_ble_eq_true rfl) de_M_isWrong_30 ⟨Nat.le_of_ble_eq_true rfl, Nat.le_of_ble_eq_true rfl⟩ (fun r_30 u_30 H locs hw_30 hP hD hS => ?_)
    have hP : va_P (dC, dI) classes [(m0, .inr (5, [.int 1, .ref r1, .ref r2, .ref r3, .ref r4, .ref r5, .int rw, .ref r6, .ref r7, .ref r8, .int gw, .ref r9, .ref r10, .ref r11, .ref r12, .ref r13, .ref r14, .ref r15, .ref r16])), (r13, .inl (cZ, 2, .inl On))] H := hP.sub [1, 0] rfl
    have hD : va_D A [(m0, .inr (5, [.int 1, .ref r1, .ref r2, .ref r3, .ref r4, .ref r5, .int rw, .ref r6, .ref r7, .ref r8, .int gw, .ref r9, .ref r10, .ref r11, .ref r12, .ref r13, .ref r14, .ref r15, .ref r16])), (r13, .inl (cZ, 2, .inl On))] := hD.sub [1, 0] (by decide) rfl
    rcases hw_30 with ⟨he_30, hv_30⟩ | ⟨he_30, hv_30⟩
    · subst he_30
      exact bc_zret F hr hlocks rfl 1 (Or.inl ⟨rfl, Or.inl ⟨Or.inl hv_2, rfl⟩⟩) hP hD hS de_M_isWrong_33
    · subst he_30
      exact absurd hv_30 (by decide)

theorem bc_w1_M {x b u : Int32} {On ON : bc_F} (hb : b ≠ 0) (h : bc_w1 x b On u) (hO : ∀ y, y < 2 → On y = ON y) : (¬ bc_sd x ∧ u = 1) ∨ (∃ y : Nat, y < 2 ∧ x = nI y ∧ ON y = 0 ∧ u = 2) := by
  rcases h with ⟨e | e, f⟩ | ⟨y, hy, e, _, e2, f⟩
  · exact Or.inl ⟨e, f⟩
  · exact absurd e hb
  · exact Or.inr ⟨y, hy, e, by rw [← hO y hy]; exact e2, f⟩
set_option maxHeartbeats 4000000 in
set_option maxRecDepth 100000 in
/-- place -/
theorem co_M_place {l : Launch} {dC : Nat → ClassId} {dI : Nat → Nat → Nat} {cI cZ : ClassId} {sz : Nat} {m0 r1 r2 r3 r4 r5 r6 r7 r8 r9 r10 r11 r12 r13 r14 r15 r16 : Nat} {K O T Z Sz On Pl Sp Vr : bc_F} {fa rw gw : Int32} {n n2 : Nat} {P Q X : Nat → bc_F} {ON PL SP : bc_F} {ra : Int32} (hAB : bc_AB n P ra n2 Q ON PL SP) (hR : bc_MR n P ra n2 Q ON PL SP X K O T Z Sz On Pl Sp Vr rw) {x : Int32} : Met l yn_M_place (Cond.code yn_M_place by_M_place 2 (some FieldType.int) :: wd_all) ({ frames := 2, cells := 0, slots := 0, locals := 43 } : Room) (bc_Pre (dC, dI) classes [(cI, .int), (cZ, .boolean)] [.ref m0, .int x] [(m0, .inr (5, [.int fa, .ref r1, .ref r2, .ref r3, .ref r4, .ref r5, .int rw, .ref r6, .ref r7, .ref r8, .int gw, .ref r9, .ref r10, .ref r11, .ref r12, .ref r13, .ref r14, .ref r15, .ref r16])), (r13, .inl (cZ, 2, .inl On)), (r14, .inl (cI, 2, .inl Pl))] sz) (va_Qi (fun (r : Int32) (u : Int32) => (¬ bc_sd x ∧ u = 1) ∨ (∃ y : Nat, y < 2 ∧ x = nI y ∧ ON y = 0 ∧ u = 2) ∨ (∃ y : Nat, y < 2 ∧ x = nI y ∧ ON y ≠ 0 ∧ u = 0 ∧ r = PL y)) (fun (u : Int32) t => bc_B (dC, dI) classes [(cI, .int), (cZ, .boolean)] (va_A [(m0, .inr (5, [.int fa, .ref r1, .ref r2, .ref r3, .ref r4, .ref r5, .int rw, .ref r6, .ref r7, .ref r8, .int gw, .ref r9, .ref r10, .ref r11, .ref r12, .ref r13, .ref r14, .ref r15, .ref r16])), (r13, .inl (cZ, 2, .inl On)), (r14, .inl (cI, 2, .inl Pl))] sz) [(m0, .inr (5, [.int u, .ref r1, .ref r2, .ref r3, .ref r4, .ref r5, .int rw, .ref r6, .ref r7, .ref r8, .int gw, .ref r9, .ref r10, .ref r11, .ref r12, .ref r13, .ref r14, .ref r15, .ref r16])), (r13, .inl (cZ, 2, .inl On)), (r14, .inl (cI, 2, .inl Pl))] t) ((va_A [(m0, .inr (5, [.int fa, .ref r1, .ref r2, .ref r3, .ref r4, .ref r5, .int rw, .ref r6, .ref r7, .ref r8, .int gw, .ref r9, .ref r10, .ref r11, .ref r12, .ref r13, .ref r14, .ref r15, .ref r16])), (r13, .inl (cZ, 2, .inl On)), (r14, .inl (cI, 2, .inl Pl))] sz))) 0 0 (va_A [(m0, .inr (5, [.int fa, .ref r1, .ref r2, .ref r3, .ref r4, .ref r5, .int rw, .ref r6, .ref r7, .ref r8, .int gw, .ref r9, .ref r10, .ref r11, .ref r12, .ref r13, .ref r14, .ref r15, .ref r16])), (r13, .inl (cZ, 2, .inl On)), (r14, .inl (cI, 2, .inl Pl))] sz) := by
  refine bc_met (fun A => va_Qi (fun (r : Int32) (u : Int32) => (¬ bc_sd x ∧ u = 1) ∨ (∃ y : Nat, y < 2 ∧ x = nI y ∧ ON y = 0 ∧ u = 2) ∨ (∃ y : Nat, y < 2 ∧ x = nI y ∧ ON y ≠ 0 ∧ u = 0 ∧ r = PL y)) (fun (u : Int32) t => bc_B (dC, dI) classes [(cI, .int), (cZ, .boolean)] A [(m0, .inr (5, [.int u, .ref r1, .ref r2, .ref r3, .ref r4, .ref r5, .int rw, .ref r6, .ref r7, .ref r8, .int gw, .ref r9, .ref r10, .ref r11, .ref r12, .ref r13, .ref r14, .ref r15, .ref r16])), (r13, .inl (cZ, 2, .inl On)), (r14, .inl (cI, 2, .inl Pl))] t) A) (by decide) (Nat.le_of_ble_eq_true rfl) ?_
  intro p e s m args below meth c A ls F hr hlocks hin hA hP hD hl hS
  have hx := F.1
  have hb := F.2.1
  have hml := F.2.2.1
  have hown : s.vm.findClass "BranchConstantsModel" = some m.cls := F.2.2.2.1
  have htw := F.2.2.2.2.1
  have hN := F.2.2.2.2.2.1
  have hK := F.2.2.2.2.2.2
  have hl : lv_has ls 2 [(0, .ref m0), (1, .int x)] := hl
  have hn := hAB.1
  have hSz := hR.1
  refine lv_aload_n hx hb de_M_place_0 rfl (lv_at hl 0 rfl) ?_
  refine lv_iload_n hx hb de_M_place_1 rfl (lv_at hl 1 rfl) ?_
  refine lv_iconst (v := 1) hx hb de_M_place_2 (by decide) ?_
  refine bc_call_v_i (As := [.int x, .int 1]) (rest := []) (wr := [(r14, .inl (cI, 2, .inl Pl))]) F (co_M_isWrong) wm_579 wm_6 wm_577 wm_578 wm_647 0 rfl rfl pd_M_isWrong rfl rfl ⟨Nat.le_of_ble_eq_true rfl, Nat.le_of_ble_eq_true rfl⟩ hP hD hS hA [0, 1] [2] rfl rfl rfl rfl (by decide) rfl hl.1 rfl (Nat.le_of_ble_eq_true rfl) de_M_place_3 ⟨Nat.le_of_ble_eq_true rfl, Nat.le_of_ble_eq_true rfl⟩ (fun r_3 u_3 H locs hw_3 hP hD hS => ?_)
  have hP : va_P (dC, dI) classes [(m0, .inr (5, [.int u_3, .ref r1, .ref r2, .ref r3, .ref r4, .ref r5, .int rw, .ref r6, .ref r7, .ref r8, .int gw, .ref r9, .ref r10, .ref r11, .ref r12, .ref r13, .ref r14, .ref r15, .ref r16])), (r13, .inl (cZ, 2, .inl On)), (r14, .inl (cI, 2, .inl Pl))] H := hP.sub [1, 2, 0] rfl
  have hD : va_D A [(m0, .inr (5, [.int u_3, .ref r1, .ref r2, .ref r3, .ref r4, .ref r5, .int rw, .ref r6, .ref r7, .ref r8, .int gw, .ref r9, .ref r10, .ref r11, .ref r12, .ref r13, .ref r14, .ref r15, .ref r16])), (r13, .inl (cZ, 2, .inl On)), (r14, .inl (cI, 2, .inl Pl))] := hD.sub [1, 2, 0] (by decide) rfl
  rcases hw_3 with ⟨he_3, hv_3⟩ | ⟨he_3, hv_3⟩
  · subst he_3
    refine lv_if_eq (tgt := 13) hx hb de_M_place_6 (by decide) (fun hc => absurd hc (by decide)) (fun _ => ?_)
    refine lv_iconst (v := 0) hx hb de_M_place_9 (by decide) ?_
    refine lv_goto (tgt := 19) hx hb de_M_place_10 (by decide) ?_
    exact bc_iret F hr hlocks u_3 ((bc_w1_M (by decide) hv_3 (fun y hy => (hR.2.2.2.2 y hy).1)).elim Or.inl (fun z => Or.inr (Or.inl z))) hP hD hS de_M_place_19
  · subst he_3
    refine lv_if_eq (tgt := 13) hx hb de_M_place_6 (by decide) (fun _ => ?_) (fun hc => absurd (by decide) hc)
    obtain ⟨y, hy, ey, _, hon, eu⟩ := hv_3
    subst ey
    subst eu
    have hm := (hR.2.2.2.2 y hy).2 (by rw [← (hR.2.2.2.2 y hy).1]; exact hon)
    have hON : ON y ≠ 0 := by rw [← (hR.2.2.2.2 y hy).1]; exact hon
    refine lv_aload_n hx hb de_M_place_13 rfl (lv_at hl 0 rfl) ?_
    refine va_get (D := (dC, dI)) (ci := 5) (v := .ref r14) (C := rc_M) (T := fc_M) (N := 19) hx hb htw wi_M hown hK hP 0 rfl rfl 16 (by decide) (htw _ wm_439) (fun _ h9 => h9) rfl de_M_place_14 ?_
    refine lv_iload_n hx hb de_M_place_17 rfl (lv_at hl 1 rfl) ?_
    refine bc_ild (j := y) hx hb hK hP 2 0 rfl rfl (by omega) (by decide) de_M_place_18 ?_
    exact bc_iret F hr hlocks 0 (Or.inr (Or.inr ⟨y, hy, rfl, hON, rfl, hm.1⟩)) hP hD hS de_M_place_19

set_option maxHeartbeats 4000000 in
set_option maxRecDepth 100000 in
/-- steps -/
theorem co_M_steps {l : Launch} {dC : Nat → ClassId} {dI : Nat → Nat → Nat} {cI cZ : ClassId} {sz : Nat} {m0 r1 r2 r3 r4 r5 r6 r7 r8 r9 r10 r11 r12 r13 r14 r15 r16 : Nat} {K O T Z Sz On Pl Sp Vr : bc_F} {fa rw gw : Int32} {n n2 : Nat} {P Q X : Nat → bc_F} {ON PL SP : bc_F} {ra : Int32} (hAB : bc_AB n P ra n2 Q ON PL SP) (hR : bc_MR n P ra n2 Q ON PL SP X K O T Z Sz On Pl Sp Vr rw) {x : Int32} : Met l yn_M_steps (Cond.code yn_M_steps by_M_steps 2 (some FieldType.int) :: wd_all) ({ frames := 2, cells := 0, slots := 0, locals := 43 } : Room) (bc_Pre (dC, dI) classes [(cI, .int), (cZ, .boolean)] [.ref m0, .int x] [(m0, .inr (5, [.int fa, .ref r1, .ref r2, .ref r3, .ref r4, .ref r5, .int rw, .ref r6, .ref r7, .ref r8, .int gw, .ref r9, .ref r10, .ref r11, .ref r12, .ref r13, .ref r14, .ref r15, .ref r16])), (r13, .inl (cZ, 2, .inl On)), (r15, .inl (cI, 2, .inl Sp))] sz) (va_Qi (fun (r : Int32) (u : Int32) => (¬ bc_sd x ∧ u = 1) ∨ (∃ y : Nat, y < 2 ∧ x = nI y ∧ ON y = 0 ∧ u = 2) ∨ (∃ y : Nat, y < 2 ∧ x = nI y ∧ ON y ≠ 0 ∧ u = 0 ∧ r = SP y)) (fun (u : Int32) t => bc_B (dC, dI) classes [(cI, .int), (cZ, .boolean)] (va_A [(m0, .inr (5, [.int fa, .ref r1, .ref r2, .ref r3, .ref r4, .ref r5, .int rw, .ref r6, .ref r7, .ref r8, .int gw, .ref r9, .ref r10, .ref r11, .ref r12, .ref r13, .ref r14, .ref r15, .ref r16])), (r13, .inl (cZ, 2, .inl On)), (r15, .inl (cI, 2, .inl Sp))] sz) [(m0, .inr (5, [.int u, .ref r1, .ref r2, .ref r3, .ref r4, .ref r5, .int rw, .ref r6, .ref r7, .ref r8, .int gw, .ref r9, .ref r10, .ref r11, .ref r12, .ref r13, .ref r14, .ref r15, .ref r16])), (r13, .inl (cZ, 2, .inl On)), (r15, .inl (cI, 2, .inl Sp))] t) ((va_A [(m0, .inr (5, [.int fa, .ref r1, .ref r2, .ref r3, .ref r4, .ref r5, .int rw, .ref r6, .ref r7, .ref r8, .int gw, .ref r9, .ref r10, .ref r11, .ref r12, .ref r13, .ref r14, .ref r15, .ref r16])), (r13, .inl (cZ, 2, .inl On)), (r15, .inl (cI, 2, .inl Sp))] sz))) 0 0 (va_A [(m0, .inr (5, [.int fa, .ref r1, .ref r2, .ref r3, .ref r4, .ref r5, .int rw, .ref r6, .ref r7, .ref r8, .int gw, .ref r9, .ref r10, .ref r11, .ref r12, .ref r13, .ref r14, .ref r15, .ref r16])), (r13, .inl (cZ, 2, .inl On)), (r15, .inl (cI, 2, .inl Sp))] sz) := by
  refine bc_met (fun A => va_Qi (fun (r : Int32) (u : Int32) => (¬ bc_sd x ∧ u = 1) ∨ (∃ y : Nat, y < 2 ∧ x = nI y ∧ ON y = 0 ∧ u = 2) ∨ (∃ y : Nat, y < 2 ∧ x = nI y ∧ ON y ≠ 0 ∧ u = 0 ∧ r = SP y)) (fun (u : Int32) t => bc_B (dC, dI) classes [(cI, .int), (cZ, .boolean)] A [(m0, .inr (5, [.int u, .ref r1, .ref r2, .ref r3, .ref r4, .ref r5, .int rw, .ref r6, .ref r7, .ref r8, .int gw, .ref r9, .ref r10, .ref r11, .ref r12, .ref r13, .ref r14, .ref r15, .ref r16])), (r13, .inl (cZ, 2, .inl On)), (r15, .inl (cI, 2, .inl Sp))] t) A) (by decide) (Nat.le_of_ble_eq_true rfl) ?_
  intro p e s m args below meth c A ls F hr hlocks hin hA hP hD hl hS
  have hx := F.1
  have hb := F.2.1
  have hml := F.2.2.1
  have hown : s.vm.findClass "BranchConstantsModel" = some m.cls := F.2.2.2.1
  have htw := F.2.2.2.2.1
  have hN := F.2.2.2.2.2.1
  have hK := F.2.2.2.2.2.2
  have hl : lv_has ls 2 [(0, .ref m0), (1, .int x)] := hl
  have hn := hAB.1
  have hSz := hR.1
  refine lv_aload_n hx hb de_M_steps_0 rfl (lv_at hl 0 rfl) ?_
  refine lv_iload_n hx hb de_M_steps_1 rfl (lv_at hl 1 rfl) ?_
  refine lv_iconst (v := 1) hx hb de_M_steps_2 (by decide) ?_
  refine bc_call_v_i (As := [.int x, .int 1]) (rest := []) (wr := [(r15, .inl (cI, 2, .inl Sp))]) F (co_M_isWrong) wm_579 wm_6 wm_577 wm_578 wm_647 0 rfl rfl pd_M_isWrong rfl rfl ⟨Nat.le_of_ble_eq_true rfl, Nat.le_of_ble_eq_true rfl⟩ hP hD hS hA [0, 1] [2] rfl rfl rfl rfl (by decide) rfl hl.1 rfl (Nat.le_of_ble_eq_true rfl) de_M_steps_3 ⟨Nat.le_of_ble_eq_true rfl, Nat.le_of_ble_eq_true rfl⟩ (fun r_3 u_3 H locs hw_3 hP hD hS => ?_)
  have hP : va_P (dC, dI) classes [(m0, .inr (5, [.int u_3, .ref r1, .ref r2, .ref r3, .ref r4, .ref r5, .int rw, .ref r6, .ref r7, .ref r8, .int gw, .ref r9, .ref r10, .ref r11, .ref r12, .ref r13, .ref r14, .ref r15, .ref r16])), (r13, .inl (cZ, 2, .inl On)), (r15, .inl (cI, 2, .inl Sp))] H := hP.sub [1, 2, 0] rfl
  have hD : va_D A [(m0, .inr (5, [.int u_3, .ref r1, .ref r2, .ref r3, .ref r4, .ref r5, .int rw, .ref r6, .ref r7, .ref r8, .int gw, .ref r9, .ref r10, .ref r11, .ref r12, .ref r13, .ref r14, .ref r15, .ref r16])), (r13, .inl (cZ, 2, .inl On)), (r15, .inl (cI, 2, .inl Sp))] := hD.sub [1, 2, 0] (by decide) rfl
  rcases hw_3 with ⟨he_3, hv_3⟩ | ⟨he_3, hv_3⟩
  · subst he_3
    refine lv_if_eq (tgt := 13) hx hb de_M_steps_6 (by decide) (fun hc => absurd hc (by decide)) (fun _ => ?_)
    refine lv_iconst (v := 0) hx hb de_M_steps_9 (by decide) ?_
    refine lv_goto (tgt := 19) hx hb de_M_steps_10 (by decide) ?_
    exact bc_iret F hr hlocks u_3 ((bc_w1_M (by decide) hv_3 (fun y hy => (hR.2.2.2.2 y hy).1)).elim Or.inl (fun z => Or.inr (Or.inl z))) hP hD hS de_M_steps_19
  · subst he_3
    refine lv_if_eq (tgt := 13) hx hb de_M_steps_6 (by decide) (fun _ => ?_) (fun hc => absurd (by decide) hc)
    obtain ⟨y, hy, ey, _, hon, eu⟩ := hv_3
    subst ey
    subst eu
    have hm := (hR.2.2.2.2 y hy).2 (by rw [← (hR.2.2.2.2 y hy).1]; exact hon)
    have hON : ON y ≠ 0 := by rw [← (hR.2.2.2.2 y hy).1]; exact hon
    refine lv_aload_n hx hb de_M_steps_13 rfl (lv_at hl 0 rfl) ?_
    refine va_get (D := (dC, dI)) (ci := 5) (v := .ref r15) (C := rc_M) (T := fc_M) (N := 19) hx hb htw wi_M hown hK hP 0 rfl rfl 17 (by decide) (htw _ wm_440) (fun _ h9 => h9) rfl de_M_steps_14 ?_
    refine lv_iload_n hx hb de_M_steps_17 rfl (lv_at hl 1 rfl) ?_
    refine bc_ild (j := y) hx hb hK hP 2 0 rfl rfl (by omega) (by decide) de_M_steps_18 ?_
    exact bc_iret F hr hlocks 0 (Or.inr (Or.inr ⟨y, hy, rfl, hON, rfl, hm.2.1⟩)) hP hD hS de_M_steps_19

theorem bc_w1_V {x v u r : Int32} {On ON : bc_F} {X : Nat → bc_F} (hv : ¬ bc_vr v) (h : bc_w1 x 0 On u) : ((¬ bc_sd x ∨ ¬ bc_vr v) ∧ u = 1) ∨ (∃ y : Nat, y < 2 ∧ x = nI y ∧ bc_vr v ∧ ON y = 0 ∧ u = 2) ∨ (∃ y : Nat, y < 2 ∧ x = nI y ∧ ON y ≠ 0 ∧ ∃ w : Nat, w < 6 ∧ v = nI w ∧ u = 0 ∧ r = X y w) := by
  rcases h with ⟨_, f⟩ | ⟨y, hy, e, e2, _, f⟩
  · exact Or.inl ⟨Or.inr hv, f⟩
  · exact absurd rfl e2
theorem bc_w1_U {x v u r : Int32} {ON : bc_F} {X : Nat → bc_F} (hv : bc_vr v) (h : (¬ bc_sd x ∧ u = 1) ∨ (∃ y : Nat, y < 2 ∧ x = nI y ∧ ON y = 0 ∧ u = 2)) : ((¬ bc_sd x ∨ ¬ bc_vr v) ∧ u = 1) ∨ (∃ y : Nat, y < 2 ∧ x = nI y ∧ bc_vr v ∧ ON y = 0 ∧ u = 2) ∨ (∃ y : Nat, y < 2 ∧ x = nI y ∧ ON y ≠ 0 ∧ ∃ w : Nat, w < 6 ∧ v = nI w ∧ u = 0 ∧ r = X y w) := by
  rcases h with ⟨a, b⟩ | ⟨y, a, b, d, e⟩
  · exact Or.inl ⟨Or.inl a, b⟩
  · exact Or.inr (Or.inl ⟨y, a, b, hv, d, e⟩)
set_option maxHeartbeats 4000000 in
set_option maxRecDepth 100000 in
/-- value -/
theorem co_M_value {l : Launch} {dC : Nat → ClassId} {dI : Nat → Nat → Nat} {cI cZ : ClassId} {sz : Nat} {m0 r1 r2 r3 r4 r5 r6 r7 r8 r9 r10 r11 r12 r13 r14 r15 r16 : Nat} {K O T Z Sz On Pl Sp Vr : bc_F} {fa rw gw : Int32} {n n2 : Nat} {P Q X : Nat → bc_F} {ON PL SP : bc_F} {ra : Int32} (hAB : bc_AB n P ra n2 Q ON PL SP) (hR : bc_MR n P ra n2 Q ON PL SP X K O T Z Sz On Pl Sp Vr rw) {x v : Int32} : Met l yn_M_value (Cond.code yn_M_value by_M_value 3 (some FieldType.int) :: wd_all) ({ frames := 2, cells := 0, slots := 0, locals := 43 } : Room) (bc_Pre (dC, dI) classes [(cI, .int), (cZ, .boolean)] [.ref m0, .int x, .int v] [(m0, .inr (5, [.int fa, .ref r1, .ref r2, .ref r3, .ref r4, .ref r5, .int rw, .ref r6, .ref r7, .ref r8, .int gw, .ref r9, .ref r10, .ref r11, .ref r12, .ref r13, .ref r14, .ref r15, .ref r16])), (r13, .inl (cZ, 2, .inl On)), (r16, .inl (cI, 12, .inl Vr))] sz) (va_Qi (fun (r : Int32) (u : Int32) => ((¬ bc_sd x ∨ ¬ bc_vr v) ∧ u = 1) ∨ (∃ y : Nat, y < 2 ∧ x = nI y ∧ bc_vr v ∧ ON y = 0 ∧ u = 2) ∨ (∃ y : Nat, y < 2 ∧ x = nI y ∧ ON y ≠ 0 ∧ ∃ w : Nat, w < 6 ∧ v = nI w ∧ u = 0 ∧ r = X y w)) (fun (u : Int32) t => bc_B (dC, dI) classes [(cI, .int), (cZ, .boolean)] (va_A [(m0, .inr (5, [.int fa, .ref r1, .ref r2, .ref r3, .ref r4, .ref r5, .int rw, .ref r6, .ref r7, .ref r8, .int gw, .ref r9, .ref r10, .ref r11, .ref r12, .ref r13, .ref r14, .ref r15, .ref r16])), (r13, .inl (cZ, 2, .inl On)), (r16, .inl (cI, 12, .inl Vr))] sz) [(m0, .inr (5, [.int u, .ref r1, .ref r2, .ref r3, .ref r4, .ref r5, .int rw, .ref r6, .ref r7, .ref r8, .int gw, .ref r9, .ref r10, .ref r11, .ref r12, .ref r13, .ref r14, .ref r15, .ref r16])), (r13, .inl (cZ, 2, .inl On)), (r16, .inl (cI, 12, .inl Vr))] t) ((va_A [(m0, .inr (5, [.int fa, .ref r1, .ref r2, .ref r3, .ref r4, .ref r5, .int rw, .ref r6, .ref r7, .ref r8, .int gw, .ref r9, .ref r10, .ref r11, .ref r12, .ref r13, .ref r14, .ref r15, .ref r16])), (r13, .inl (cZ, 2, .inl On)), (r16, .inl (cI, 12, .inl Vr))] sz))) 0 0 (va_A [(m0, .inr (5, [.int fa, .ref r1, .ref r2, .ref r3, .ref r4, .ref r5, .int rw, .ref r6, .ref r7, .ref r8, .int gw, .ref r9, .ref r10, .ref r11, .ref r12, .ref r13, .ref r14, .ref r15, .ref r16])), (r13, .inl (cZ, 2, .inl On)), (r16, .inl (cI, 12, .inl Vr))] sz) := by
  refine bc_met (fun A => va_Qi (fun (r : Int32) (u : Int32) => ((¬ bc_sd x ∨ ¬ bc_vr v) ∧ u = 1) ∨ (∃ y : Nat, y < 2 ∧ x = nI y ∧ bc_vr v ∧ ON y = 0 ∧ u = 2) ∨ (∃ y : Nat, y < 2 ∧ x = nI y ∧ ON y ≠ 0 ∧ ∃ w : Nat, w < 6 ∧ v = nI w ∧ u = 0 ∧ r = X y w)) (fun (u : Int32) t => bc_B (dC, dI) classes [(cI, .int), (cZ, .boolean)] A [(m0, .inr (5, [.int u, .ref r1, .ref r2, .ref r3, .ref r4, .ref r5, .int rw, .ref r6, .ref r7, .ref r8, .int gw, .ref r9, .ref r10, .ref r11, .ref r12, .ref r13, .ref r14, .ref r15, .ref r16])), (r13, .inl (cZ, 2, .inl On)), (r16, .inl (cI, 12, .inl Vr))] t) A) (by decide) (Nat.le_of_ble_eq_true rfl) ?_
  intro p e s m args below meth c A ls F hr hlocks hin hA hP hD hl hS
  have hx := F.1
  have hb := F.2.1
  have hml := F.2.2.1
  have hown : s.vm.findClass "BranchConstantsModel" = some m.cls := F.2.2.2.1
  have htw := F.2.2.2.2.1
  have hN := F.2.2.2.2.2.1
  have hK := F.2.2.2.2.2.2
  have hl : lv_has ls 3 [(0, .ref m0), (1, .int x), (2, .int v)] := hl
  have hn := hAB.1
  have hSz := hR.1
  refine lv_aload_n hx hb de_M_value_0 rfl (lv_at hl 0 rfl) ?_
  refine lv_iload_n hx hb de_M_value_1 rfl (lv_at hl 1 rfl) ?_
  refine lv_iload_n hx hb de_M_value_2 rfl (lv_at hl 2 rfl) ?_
  refine bc_call_s_i (As := [.int v]) (rest := [.int x, .ref m0]) (wr := [(m0, .inr (5, [.int fa, .ref r1, .ref r2, .ref r3, .ref r4, .ref r5, .int rw, .ref r6, .ref r7, .ref r8, .int gw, .ref r9, .ref r10, .ref r11, .ref r12, .ref r13, .ref r14, .ref r15, .ref r16])), (r13, .inl (cZ, 2, .inl On)), (r16, .inl (cI, 12, .inl Vr))]) F (co_M_isVariable) wm_475 wm_6 wm_473 wm_474 pd_M_isVariable rfl rfl ⟨Nat.le_of_ble_eq_true rfl, Nat.le_of_ble_eq_true rfl⟩ hP hD hS hA [] [0, 1, 2] rfl rfl rfl rfl (by decide) rfl hl.1 rfl (Nat.le_of_ble_eq_true rfl) de_M_value_3 ⟨Nat.le_of_ble_eq_true rfl, Nat.le_of_ble_eq_true rfl⟩ (fun r_3 u_3 H locs hw_3 hP hD hS => ?_)
  have hP : va_P (dC, dI) classes [(m0, .inr (5, [.int fa, .ref r1, .ref r2, .ref r3, .ref r4, .ref r5, .int rw, .ref r6, .ref r7, .ref r8, .int gw, .ref r9, .ref r10, .ref r11, .ref r12, .ref r13, .ref r14, .ref r15, .ref r16])), (r13, .inl (cZ, 2, .inl On)), (r16, .inl (cI, 12, .inl Vr))] H := hP.sub [0, 1, 2] rfl
  have hD : va_D A [(m0, .inr (5, [.int fa, .ref r1, .ref r2, .ref r3, .ref r4, .ref r5, .int rw, .ref r6, .ref r7, .ref r8, .int gw, .ref r9, .ref r10, .ref r11, .ref r12, .ref r13, .ref r14, .ref r15, .ref r16])), (r13, .inl (cZ, 2, .inl On)), (r16, .inl (cI, 12, .inl Vr))] := hD.sub [0, 1, 2] (by decide) rfl
  rcases hw_3 with ⟨he_3, hv_3⟩ | ⟨he_3, hv_3⟩
  · subst he_3
    refine bc_call_v_i (As := [.int x, .int 1]) (rest := []) (wr := [(r16, .inl (cI, 12, .inl Vr))]) F (co_M_isWrong) wm_579 wm_6 wm_577 wm_578 wm_647 0 rfl rfl pd_M_isWrong rfl rfl ⟨Nat.le_of_ble_eq_true rfl, Nat.le_of_ble_eq_true rfl⟩ hP hD hS hA [0, 1] [2] rfl rfl rfl rfl (by decide) rfl hl.1 rfl (Nat.le_of_ble_eq_true rfl) de_M_value_6 ⟨Nat.le_of_ble_eq_true rfl, Nat.le_of_ble_eq_true rfl⟩ (fun r_6 u_6 H locs hw_6 hP hD hS => ?_)
    have hP : va_P (dC, dI) classes [(m0, .inr (5, [.int u_6, .ref r1, .ref r2, .ref r3, .ref r4, .ref r5, .int rw, .ref r6, .ref r7, .ref r8, .int gw, .ref r9, .ref r10, .ref r11, .ref r12, .ref r13, .ref r14, .ref r15, .ref r16])), (r13, .inl (cZ, 2, .inl On)), (r16, .inl (cI, 12, .inl Vr))] H := hP.sub [1, 2, 0] rfl
    have hD : va_D A [(m0, .inr (5, [.int u_6, .ref r1, .ref r2, .ref r3, .ref r4, .ref r5, .int rw, .ref r6, .ref r7, .ref r8, .int gw, .ref r9, .ref r10, .ref r11, .ref r12, .ref r13, .ref r14, .ref r15, .ref r16])), (r13, .inl (cZ, 2, .inl On)), (r16, .inl (cI, 12, .inl Vr))] := hD.sub [1, 2, 0] (by decide) rfl
    rcases hw_6 with ⟨he_6, hv_6⟩ | ⟨he_6, hv_6⟩
    · subst he_6
      refine lv_if_eq (tgt := 16) hx hb de_M_value_9 (by decide) (fun hc => absurd hc (by decide)) (fun _ => ?_)
      refine lv_iconst (v := 0) hx hb de_M_value_12 (by decide) ?_
      refine lv_goto (tgt := 27) hx hb de_M_value_13 (by decide) ?_
      exact bc_iret F hr hlocks u_6 (bc_w1_U hv_3 (bc_w1_M (by decide) hv_6 (fun y hy => (hR.2.2.2.2 y hy).1))) hP hD hS de_M_value_27
    · subst he_6
      refine lv_if_eq (tgt := 16) hx hb de_M_value_9 (by decide) (fun _ => ?_) (fun hc => absurd (by decide) hc)
      obtain ⟨y, hy, ey, _, hon, eu⟩ := hv_6
      subst ey
      subst eu
      have hm := (hR.2.2.2.2 y hy).2 (by rw [← (hR.2.2.2.2 y hy).1]; exact hon)
      have hON : ON y ≠ 0 := by rw [← (hR.2.2.2.2 y hy).1]; exact hon
      obtain ⟨v, hv, ev⟩ := hv_3
      subst ev
      refine lv_aload_n hx hb de_M_value_16 rfl (lv_at hl 0 rfl) ?_
      refine va_get (D := (dC, dI)) (ci := 5) (v := .ref r16) (C := rc_M) (T := fc_M) (N := 19) hx hb htw wi_M hown hK hP 0 rfl rfl 18 (by decide) (htw _ wm_441) (fun _ h9 => h9) rfl de_M_value_17 ?_
      refine lv_bipush (v := 6) hx hb de_M_value_20 (by decide) ?_
      refine lv_iload_n hx hb de_M_value_22 rfl (lv_at hl 1 rfl) ?_
      refine lv_imul hx hb de_M_value_23 ?_
      refine bc_ti (y := nI (6 * y)) (pk_mul 6 y) ?_
      refine lv_iload_n hx hb de_M_value_24 rfl (lv_at hl 2 rfl) ?_
      refine lv_iadd hx hb de_M_value_25 ?_
      refine bc_ti (y := nI ((6 * y) + v)) (nI_add (6 * y) v) ?_
      refine bc_ild (j := (6 * y) + v) hx hb hK hP 2 0 rfl rfl (by omega) (by decide) de_M_value_26 ?_
      exact bc_iret F hr hlocks 0 (Or.inr (Or.inr ⟨y, hy, rfl, hON, v, hv, rfl, rfl, hm.2.2 v hv⟩)) hP hD hS de_M_value_27
  · subst he_3
    refine bc_call_v_i (As := [.int x, .int 0]) (rest := []) (wr := [(r16, .inl (cI, 12, .inl Vr))]) F (co_M_isWrong) wm_579 wm_6 wm_577 wm_578 wm_647 0 rfl rfl pd_M_isWrong rfl rfl ⟨Nat.le_of_ble_eq_true rfl, Nat.le_of_ble_eq_true rfl⟩ hP hD hS hA [0, 1] [2] rfl rfl rfl rfl (by decide) rfl hl.1 rfl (Nat.le_of_ble_eq_true rfl) de_M_value_6 ⟨Nat.le_of_ble_eq_true rfl, Nat.le_of_ble_eq_true rfl⟩ (fun r_6 u_6 H locs hw_6 hP hD hS => ?_)
    have hP : va_P (dC, dI) classes [(m0, .inr (5, [.int u_6, .ref r1, .ref r2, .ref r3, .ref r4, .ref r5, .int rw, .ref r6, .ref r7, .ref r8, .int gw, .ref r9, .ref r10, .ref r11, .ref r12, .ref r13, .ref r14, .ref r15, .ref r16])), (r13, .inl (cZ, 2, .inl On)), (r16, .inl (cI, 12, .inl Vr))] H := hP.sub [1, 2, 0] rfl
    have hD : va_D A [(m0, .inr (5, [.int u_6, .ref r1, .ref r2, .ref r3, .ref r4, .ref r5, .int rw, .ref r6, .ref r7, .ref r8, .int gw, .ref r9, .ref r10, .ref r11, .ref r12, .ref r13, .ref r14, .ref r15, .ref r16])), (r13, .inl (cZ, 2, .inl On)), (r16, .inl (cI, 12, .inl Vr))] := hD.sub [1, 2, 0] (by decide) rfl
    rcases hw_6 with ⟨he_6, hv_6⟩ | ⟨he_6, hv_6⟩
    · subst he_6
      refine lv_if_eq (tgt := 16) hx hb de_M_value_9 (by decide) (fun hc => absurd hc (by decide)) (fun _ => ?_)
      refine lv_iconst (v := 0) hx hb de_M_value_12 (by decide) ?_
      refine lv_goto (tgt := 27) hx hb de_M_value_13 (by decide) ?_
      exact bc_iret F hr hlocks u_6 (bc_w1_V hv_3 hv_6) hP hD hS de_M_value_27
    · subst he_6
      exact absurd rfl (bc_w0_b hv_6)

