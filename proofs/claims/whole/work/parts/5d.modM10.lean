/-! the reference: questions of the analysis, and the rewriting (by program: wip/whole/gen/modM10.py) -/
def bc_b (a : Option bc_R) : Int32 := match a with
  | none => 0
  | some _ => 1
theorem bc_nar {v : Int32} (h : v = 0 ∨ v = 1) : narrow .boolean (.int v) = .int v := by
  rcases h with e | e <;> (subst e; rfl)
theorem bc_out_cg {K O T H K' O' T' H' : bc_F} {i : Nat} {r : bc_R} (hk : K i = K' i) (ho : O i = O' i) (ht : T i = T' i) (hh : H i = H' i) : bc_out K O T H i r = bc_out K' O' T' H' i r := by
  unfold bc_out bc_rs
  rw [hk, ho, ht, hh]
theorem bc_Lst_cg {n : Nat} {K O T H K' O' T' H' : bc_F} {g : bc_G} (hc : ∀ i, i < n → K i = K' i ∧ O i = O' i ∧ T i = T' i ∧ H i = H' i) (h : bc_Lst n K O T H g) : bc_Lst n K' O' T' H' g := by
  have hcl : ∀ (h : bc_G) (i : Nat), i < n → (bc_cl n K O T H h i ↔ bc_cl n K' O' T' H' h i) := by
    intro h i hi
    obtain ⟨e1, e2, e3, e4⟩ := hc i hi
    unfold bc_cl
    constructor
    · intro z r hr p hp
      rw [← bc_out_cg e1 e2 e3 e4] at hp
      exact z r hr p hp
    · intro z r hr p hp
      rw [bc_out_cg e1 e2 e3 e4] at hp
      exact z r hr p hp
  exact ⟨⟨h.1.1, fun i hi => (hcl g i hi).mp (h.1.2 i hi)⟩, fun g' hg => h.2 g' ⟨hg.1, fun i hi => (hcl g' i hi).mpr (hg.2 i hi)⟩⟩
theorem bc_f1_cg {n : Nat} {K O T H K' O' T' H' : bc_F} {g : bc_G} (hc : ∀ i, i < n → K i = K' i ∧ O i = O' i ∧ T i = T' i ∧ H i = H' i) : bc_f1 n K O T H g = bc_f1 n K' O' T' H' g := by
  funext i
  unfold bc_f1
  by_cases hi : i < n
  · obtain ⟨e1, e2, e3, e4⟩ := hc i hi
    unfold bc_rs
    rw [if_pos hi, if_pos hi, e1, e2, e3, e4]
  · rw [if_neg hi, if_neg hi]
theorem bc_sim_q {a b : Option bc_R} (h : bc_sim a b) : bc_b a = bc_b b ∧ ∀ v, v < 6 → bc_s0 a v = bc_s0 b v ∧ bc_c0 a v = bc_c0 b v := by
  cases a with
  | none =>
    cases b with
    | none => exact ⟨rfl, fun _ _ => ⟨rfl, rfl⟩⟩
    | some q => exact False.elim h
  | some r =>
    cases b with
    | none => exact False.elim h
    | some q => exact ⟨rfl, fun v hv => bc_s0_cg ((show ∀ v, v < 6 → r v = q v from h) v hv)⟩
theorem bc_q_all {n : Nat} {P : Nat → bc_F} {K O T Z : bc_F} {g g' : bc_G} (hq : bc_rq n P K O T Z) (h : bc_Lst n K O T Z g) (h' : bc_Lst n (P 1) (P 2) (P 3) (P 4) g') : ∀ j, j < n → bc_sim (g j) (g' j) := bc_Lst_uniq (bc_Lst_cg hq h) h'
theorem bc_re_b {Re : bc_F} {g : bc_G} {j : Nat} (h : bc_re Re g) (hj : j < 40) : Re j = bc_b (g j) := by
  obtain ⟨h1, h2⟩ := h j hj
  cases hg : g j with
  | none => exact h1.mpr hg
  | some r =>
    rcases h2 with e | e
    · rw [hg] at h1; exact absurd (h1.mp e) (by intro z; cases z)
    · exact e
theorem bc_s0_no {a : Option bc_R} {v : Nat} (h : bc_b a = 0) : 0 = bc_s0 a v ∧ 0 = bc_c0 a v := by
  cases a with
  | none => exact ⟨rfl, rfl⟩
  | some r => exact absurd h (by show ¬ (1 : Int32) = 0; decide)
theorem bc_c0_n2 {a : Option bc_R} {v : Nat} (h : ¬ bc_s0 a v = 2) : 0 = bc_c0 a v := by
  cases a with
  | none => rfl
  | some r => exact (bc_s0_1 (bc_s0_n2 h)).2.symm
def bc_nb (g : bc_G) (n : Nat) : Nat := bc_sm (fun j => if bc_b (g j) = 0 then 0 else 1) n
theorem bc_nb_cg {g g' : bc_G} : ∀ (n : Nat), (∀ j, j < n → bc_sim (g j) (g' j)) → bc_nb g n = bc_nb g' n
  | 0, _ => rfl
  | n + 1, h => by
    have ih := bc_nb_cg n (fun j hj => h j (by omega))
    have e : bc_b (g n) = bc_b (g' n) := (bc_sim_q (h n (by omega))).1
    show bc_nb g n + (if bc_b (g n) = 0 then 0 else 1) = bc_nb g' n + (if bc_b (g' n) = 0 then 0 else 1)
    rw [ih, e]
theorem bc_nb_0 {g : bc_G} {i : Nat} (h : bc_b (g i) = 0) : bc_nb g (i + 1) = bc_nb g i := by
  show bc_nb g i + (if bc_b (g i) = 0 then 0 else 1) = bc_nb g i
  rw [if_pos h]; rfl
theorem bc_nb_1 {g : bc_G} {i : Nat} (h : ¬ bc_b (g i) = 0) : bc_nb g (i + 1) = bc_nb g i + 1 := by
  show bc_nb g i + (if bc_b (g i) = 0 then 0 else 1) = bc_nb g i + 1
  rw [if_neg h]
theorem bc_fw_kk {F : Int32 × Int32 × Int32 × Int32 × Nat} (h : bc_fw F) : bc_kk F.1 := by
  by_cases c : bc_gs F.1
  · rcases c with e | e <;> simp [bc_kk, e]
  · exact bc_wi_kk (h.1 c)
theorem bc_MR_rw {n n2 m : Nat} {P Q X : Nat → bc_F} {ra : Int32} {ON PL SP K O T Z Sz On Pl Sp Vr K6 O6 T6 Z6 : bc_F} {rw : Int32} {g : bc_G} (hAB : bc_AB n P ra n2 Q ON PL SP) (hR : bc_MR n P ra n2 Q ON PL SP X K O T Z Sz On Pl Sp Vr rw) (hL : bc_Lst n K O T Z g) (hs : bc_s40 K O T Z K6 O6 T6 Z6)
    (hW : bc_RW n (bc_f1 n K O T Z g) m (fun j => K6 (40 + j)) (fun j => O6 (40 + j)) (fun j => T6 (40 + j)) (fun j => Z6 (40 + j))) : ∀ (m2 : Nat) (Q' : Nat → bc_F), (∃ g', bc_Lst n (P 1) (P 2) (P 3) (P 4) g' ∧ bc_RW n (bc_f1 n (P 1) (P 2) (P 3) (P 4) g') m2 (Q' 1) (Q' 2) (Q' 3) (Q' 4)) → nI m = nI m2 ∧ bc_MR n P 1 m2 Q' (upd ON 1 0) PL SP X K6 O6 T6 Z6 (upd Sz 1 (nI m)) (upd On 1 0) Pl Sp Vr 1 := by
  rintro m2 Q' ⟨g', hL', hW'⟩
  rw [bc_f1_cg hR.2.1, bc_f1_sim hAB.2.1 (bc_q_all hR.2.1 hL hL')] at hW
  obtain ⟨e, hq⟩ := bc_RW_uniq (fun i hi => bc_f1_q i hi) hW hW'
  subst e
  have hn := hAB.1
  refine ⟨rfl, ⟨by rw [pk_un (by omega)]; exact hR.1, fun j hj => ?_, rfl, fun _ => ⟨pk_us, hq⟩, fun y hy => ?_⟩⟩
  · obtain ⟨a1, a2, a3, a4⟩ := hs j (by omega)
    rw [a1, a2, a3, a4]; exact hR.2.1 j hj
  · by_cases c : y = 1
    · subst c; rw [pk_us, pk_us]; exact ⟨rfl, fun z => absurd rfl z⟩
    · rw [pk_un c, pk_un c]; exact hR.2.2.2.2 y hy
theorem bc_s40_tr {K O T Z K3 O3 T3 Z3 T4 K6 O6 T6 Z6 : bc_F} (h1 : bc_s40 K O T Z K3 O3 T3 Z3) (h2 : ∀ j, j < 40 → T4 j = T3 j) (h3 : bc_s40 K3 O3 T4 Z3 K6 O6 T6 Z6) : bc_s40 K O T Z K6 O6 T6 Z6 := by
  intro j hj
  obtain ⟨a1, a2, a3, a4⟩ := h1 j hj
  obtain ⟨b1, b2, b3, b4⟩ := h3 j hj
  exact ⟨b1.trans a1, b2.trans a2, (b3.trans (h2 j hj)).trans a3, b4.trans a4⟩
set_option maxHeartbeats 4000000 in
set_option maxRecDepth 100000 in
/-- reached -/
theorem co_M_reached {l : Launch} {dC : Nat → ClassId} {dI : Nat → Nat → Nat} {cI cZ : ClassId} {sz : Nat} {m0 r1 r2 r3 r4 r5 r6 r7 r8 r9 r10 r11 r12 r13 r14 r15 r16 : Nat} {K O T Z Sz On Pl Sp Vr Re Fa Va Nf Nv : bc_F} {fa rw gw : Int32} {n n2 : Nat} {P Q X : Nat → bc_F} {ON PL SP : bc_F} {ra : Int32} (hAB : bc_AB n P ra n2 Q ON PL SP) (hR : bc_MR n P ra n2 Q ON PL SP X K O T Z Sz On Pl Sp Vr rw) {x : Int32} : Met l yn_M_reached (Cond.code yn_M_reached by_M_reached 2 (some FieldType.boolean) :: wd_all) ({ frames := 4, cells := 0, slots := 0, locals := 93 } : Room) (bc_Pre (dC, dI) classes [(cI, .int), (cZ, .boolean)] [.ref m0, .int x] [(m0, .inr (5, [.int fa, .ref r1, .ref r2, .ref r3, .ref r4, .ref r5, .int rw, .ref r6, .ref r7, .ref r8, .int gw, .ref r9, .ref r10, .ref r11, .ref r12, .ref r13, .ref r14, .ref r15, .ref r16])), (r1, .inl (cI, 80, .inl K)), (r2, .inl (cI, 80, .inl O)), (r3, .inl (cI, 80, .inl T)), (r4, .inl (cI, 80, .inl Z)), (r5, .inl (cI, 2, .inl Sz)), (r6, .inl (cZ, 40, .inl Re)), (r7, .inl (cI, 240, .inl Fa)), (r8, .inl (cI, 240, .inl Va)), (r9, .inl (cI, 6, .inl Nf)), (r10, .inl (cI, 6, .inl Nv))] sz) (va_Qi (fun (r : Int32) (u : Int32 × Int32 × bc_F × bc_F × bc_F × bc_F × bc_F) => (¬ bc_ix n x ∧ u.1 = 1) ∨ (∃ j : Nat, j < n ∧ x = nI j ∧ u.1 = 0 ∧ ∀ g, bc_Lst n (P 1) (P 2) (P 3) (P 4) g → r = bc_b (g j))) (fun (u : Int32 × Int32 × bc_F × bc_F × bc_F × bc_F × bc_F) t => bc_B (dC, dI) classes [(cI, .int), (cZ, .boolean)] (va_A [(m0, .inr (5, [.int fa, .ref r1, .ref r2, .ref r3, .ref r4, .ref r5, .int rw, .ref r6, .ref r7, .ref r8, .int gw, .ref r9, .ref r10, .ref r11, .ref r12, .ref r13, .ref r14, .ref r15, .ref r16])), (r1, .inl (cI, 80, .inl K)), (r2, .inl (cI, 80, .inl O)), (r3, .inl (cI, 80, .inl T)), (r4, .inl (cI, 80, .inl Z)), (r5, .inl (cI, 2, .inl Sz)), (r6, .inl (cZ, 40, .inl Re)), (r7, .inl (cI, 240, .inl Fa)), (r8, .inl (cI, 240, .inl Va)), (r9, .inl (cI, 6, .inl Nf)), (r10, .inl (cI, 6, .inl Nv))] sz) [(m0, .inr (5, [.int u.1, .ref r1, .ref r2, .ref r3, .ref r4, .ref r5, .int rw, .ref r6, .ref r7, .ref r8, .int u.2.1, .ref r9, .ref r10, .ref r11, .ref r12, .ref r13, .ref r14, .ref r15, .ref r16])), (r1, .inl (cI, 80, .inl K)), (r2, .inl (cI, 80, .inl O)), (r3, .inl (cI, 80, .inl T)), (r4, .inl (cI, 80, .inl Z)), (r5, .inl (cI, 2, .inl Sz)), (r6, .inl (cZ, 40, .inl u.2.2.1)), (r7, .inl (cI, 240, .inl u.2.2.2.1)), (r8, .inl (cI, 240, .inl u.2.2.2.2.1)), (r9, .inl (cI, 6, .inl u.2.2.2.2.2.1)), (r10, .inl (cI, 6, .inl u.2.2.2.2.2.2))] t) ((va_A [(m0, .inr (5, [.int fa, .ref r1, .ref r2, .ref r3, .ref r4, .ref r5, .int rw, .ref r6, .ref r7, .ref r8, .int gw, .ref r9, .ref r10, .ref r11, .ref r12, .ref r13, .ref r14, .ref r15, .ref r16])), (r1, .inl (cI, 80, .inl K)), (r2, .inl (cI, 80, .inl O)), (r3, .inl (cI, 80, .inl T)), (r4, .inl (cI, 80, .inl Z)), (r5, .inl (cI, 2, .inl Sz)), (r6, .inl (cZ, 40, .inl Re)), (r7, .inl (cI, 240, .inl Fa)), (r8, .inl (cI, 240, .inl Va)), (r9, .inl (cI, 6, .inl Nf)), (r10, .inl (cI, 6, .inl Nv))] sz))) 0 0 (va_A [(m0, .inr (5, [.int fa, .ref r1, .ref r2, .ref r3, .ref r4, .ref r5, .int rw, .ref r6, .ref r7, .ref r8, .int gw, .ref r9, .ref r10, .ref r11, .ref r12, .ref r13, .ref r14, .ref r15, .ref r16])), (r1, .inl (cI, 80, .inl K)), (r2, .inl (cI, 80, .inl O)), (r3, .inl (cI, 80, .inl T)), (r4, .inl (cI, 80, .inl Z)), (r5, .inl (cI, 2, .inl Sz)), (r6, .inl (cZ, 40, .inl Re)), (r7, .inl (cI, 240, .inl Fa)), (r8, .inl (cI, 240, .inl Va)), (r9, .inl (cI, 6, .inl Nf)), (r10, .inl (cI, 6, .inl Nv))] sz) := by
  refine bc_met (fun A => va_Qi (fun (r : Int32) (u : Int32 × Int32 × bc_F × bc_F × bc_F × bc_F × bc_F) => (¬ bc_ix n x ∧ u.1 = 1) ∨ (∃ j : Nat, j < n ∧ x = nI j ∧ u.1 = 0 ∧ ∀ g, bc_Lst n (P 1) (P 2) (P 3) (P 4) g → r = bc_b (g j))) (fun (u : Int32 × Int32 × bc_F × bc_F × bc_F × bc_F × bc_F) t => bc_B (dC, dI) classes [(cI, .int), (cZ, .boolean)] A [(m0, .inr (5, [.int u.1, .ref r1, .ref r2, .ref r3, .ref r4, .ref r5, .int rw, .ref r6, .ref r7, .ref r8, .int u.2.1, .ref r9, .ref r10, .ref r11, .ref r12, .ref r13, .ref r14, .ref r15, .ref r16])), (r1, .inl (cI, 80, .inl K)), (r2, .inl (cI, 80, .inl O)), (r3, .inl (cI, 80, .inl T)), (r4, .inl (cI, 80, .inl Z)), (r5, .inl (cI, 2, .inl Sz)), (r6, .inl (cZ, 40, .inl u.2.2.1)), (r7, .inl (cI, 240, .inl u.2.2.2.1)), (r8, .inl (cI, 240, .inl u.2.2.2.2.1)), (r9, .inl (cI, 6, .inl u.2.2.2.2.2.1)), (r10, .inl (cI, 6, .inl u.2.2.2.2.2.2))] t) A) (by decide) (Nat.le_of_ble_eq_true rfl) ?_
  intro p e s m args below meth c A ls F hr hlocks hin hA hP hD hl hS
  have hx := F.1
  have hb := F.2.1
  have hml := F.2.2.1
  have hown : s.vm.findClass "BranchConstantsModel" = some m.cls := F.2.2.2.1
  have htw := F.2.2.2.2.1
  have hN := F.2.2.2.2.2.1
  have hK := F.2.2.2.2.2.2
  have hl : lv_has ls 2 [(0, .ref m0), (1, .int x)] := hl
  have hn := hAB.1
  have hSz := hR.1
  refine lv_aload_n hx hb de_M_reached_0 rfl (lv_at hl 0 rfl) ?_
  refine lv_aload_n hx hb de_M_reached_1 rfl (lv_at hl 0 rfl) ?_
  refine lv_iload_n hx hb de_M_reached_2 rfl (lv_at hl 1 rfl) ?_
  refine bc_call_v_i (As := [.int x]) (rest := [.ref m0]) (wr := [(r1, .inl (cI, 80, .inl K)), (r2, .inl (cI, 80, .inl O)), (r3, .inl (cI, 80, .inl T)), (r4, .inl (cI, 80, .inl Z)), (r6, .inl (cZ, 40, .inl Re)), (r7, .inl (cI, 240, .inl Fa)), (r8, .inl (cI, 240, .inl Va)), (r9, .inl (cI, 6, .inl Nf)), (r10, .inl (cI, 6, .inl Nv))]) F (co_M_isThere hn hSz) wm_499 wm_6 wm_497 wm_498 wm_633 0 rfl rfl pd_M_isThere rfl rfl ⟨Nat.le_of_ble_eq_true rfl, Nat.le_of_ble_eq_true rfl⟩ hP hD hS hA [0, 5] [1, 2, 3, 4, 6, 7, 8, 9, 10] rfl rfl rfl rfl (by decide) rfl hl.1 rfl (Nat.le_of_ble_eq_true rfl) de_M_reached_3 ⟨Nat.le_of_ble_eq_true rfl, Nat.le_of_ble_eq_true rfl⟩ (fun r_3 u_3 H locs hw_3 hP hD hS => ?_)
  have hP : va_P (dC, dI) classes [(m0, .inr (5, [.int fa, .ref r1, .ref r2, .ref r3, .ref r4, .ref r5, .int rw, .ref r6, .ref r7, .ref r8, .int gw, .ref r9, .ref r10, .ref r11, .ref r12, .ref r13, .ref r14, .ref r15, .ref r16])), (r1, .inl (cI, 80, .inl K)), (r2, .inl (cI, 80, .inl O)), (r3, .inl (cI, 80, .inl T)), (r4, .inl (cI, 80, .inl Z)), (r5, .inl (cI, 2, .inl Sz)), (r6, .inl (cZ, 40, .inl Re)), (r7, .inl (cI, 240, .inl Fa)), (r8, .inl (cI, 240, .inl Va)), (r9, .inl (cI, 6, .inl Nf)), (r10, .inl (cI, 6, .inl Nv))] H := hP.sub [9, 0, 1, 2, 3, 10, 4, 5, 6, 7, 8] rfl
  have hD : va_D A [(m0, .inr (5, [.int fa, .ref r1, .ref r2, .ref r3, .ref r4, .ref r5, .int rw, .ref r6, .ref r7, .ref r8, .int gw, .ref r9, .ref r10, .ref r11, .ref r12, .ref r13, .ref r14, .ref r15, .ref r16])), (r1, .inl (cI, 80, .inl K)), (r2, .inl (cI, 80, .inl O)), (r3, .inl (cI, 80, .inl T)), (r4, .inl (cI, 80, .inl Z)), (r5, .inl (cI, 2, .inl Sz)), (r6, .inl (cZ, 40, .inl Re)), (r7, .inl (cI, 240, .inl Fa)), (r8, .inl (cI, 240, .inl Va)), (r9, .inl (cI, 6, .inl Nf)), (r10, .inl (cI, 6, .inl Nv))] := hD.sub [9, 0, 1, 2, 3, 10, 4, 5, 6, 7, 8] (by decide) rfl
  rcases hw_3 with ⟨he_3, hv_3⟩ | ⟨he_3, hv_3⟩
  · subst he_3
    refine lv_if_eq (tgt := 13) hx hb de_M_reached_6 (by decide) (fun hc => absurd hc (by decide)) (fun _ => ?_)
    refine lv_iconst (v := 0) hx hb de_M_reached_9 (by decide) ?_
    refine lv_goto (tgt := 14) hx hb de_M_reached_10 (by decide) ?_
    refine bc_call_v_i (As := [.int 0]) (rest := []) (wr := [(r1, .inl (cI, 80, .inl K)), (r2, .inl (cI, 80, .inl O)), (r3, .inl (cI, 80, .inl T)), (r4, .inl (cI, 80, .inl Z)), (r5, .inl (cI, 2, .inl Sz)), (r6, .inl (cZ, 40, .inl Re)), (r7, .inl (cI, 240, .inl Fa)), (r8, .inl (cI, 240, .inl Va)), (r9, .inl (cI, 6, .inl Nf)), (r10, .inl (cI, 6, .inl Nv))]) F (co_M_refused) wm_478 wm_6 wm_476 wm_477 wm_630 0 rfl rfl pd_M_refused rfl rfl ⟨Nat.le_of_ble_eq_true rfl, Nat.le_of_ble_eq_true rfl⟩ hP hD hS hA [0] [1, 2, 3, 4, 5, 6, 7, 8, 9, 10] rfl rfl rfl rfl (by decide) rfl hl.1 rfl (Nat.le_of_ble_eq_true rfl) de_M_reached_14 ⟨Nat.le_of_ble_eq_true rfl, Nat.le_of_ble_eq_true rfl⟩ (fun r_14 u_14 H locs hw_14 hP hD hS => ?_)
    have hP : va_P (dC, dI) classes [(m0, .inr (5, [.int 0, .ref r1, .ref r2, .ref r3, .ref r4, .ref r5, .int rw, .ref r6, .ref r7, .ref r8, .int gw, .ref r9, .ref r10, .ref r11, .ref r12, .ref r13, .ref r14, .ref r15, .ref r16])), (r1, .inl (cI, 80, .inl K)), (r2, .inl (cI, 80, .inl O)), (r3, .inl (cI, 80, .inl T)), (r4, .inl (cI, 80, .inl Z)), (r5, .inl (cI, 2, .inl Sz)), (r6, .inl (cZ, 40, .inl Re)), (r7, .inl (cI, 240, .inl Fa)), (r8, .inl (cI, 240, .inl Va)), (r9, .inl (cI, 6, .inl Nf)), (r10, .inl (cI, 6, .inl Nv))] H := hP.sub [10, 0, 1, 2, 3, 4, 5, 6, 7, 8, 9] rfl
    have hD : va_D A [(m0, .inr (5, [.int 0, .ref r1, .ref r2, .ref r3, .ref r4, .ref r5, .int rw, .ref r6, .ref r7, .ref r8, .int gw, .ref r9, .ref r10, .ref r11, .ref r12, .ref r13, .ref r14, .ref r15, .ref r16])), (r1, .inl (cI, 80, .inl K)), (r2, .inl (cI, 80, .inl O)), (r3, .inl (cI, 80, .inl T)), (r4, .inl (cI, 80, .inl Z)), (r5, .inl (cI, 2, .inl Sz)), (r6, .inl (cZ, 40, .inl Re)), (r7, .inl (cI, 240, .inl Fa)), (r8, .inl (cI, 240, .inl Va)), (r9, .inl (cI, 6, .inl Nf)), (r10, .inl (cI, 6, .inl Nv))] := hD.sub [10, 0, 1, 2, 3, 4, 5, 6, 7, 8, 9] (by decide) rfl
    rcases hw_14 with ⟨he_14, hv_14⟩ | ⟨he_14, hv_14⟩
    · subst he_14
      exact absurd (by decide) hv_14
    · subst he_14
      refine lv_if_eq (tgt := 22) hx hb de_M_reached_17 (by decide) (fun _ => ?_) (fun hc => absurd (by decide) hc)
      obtain ⟨j, hj, ej⟩ := hv_3
      subst ej
      refine lv_aload_n hx hb de_M_reached_22 rfl (lv_at hl 0 rfl) ?_
      refine bc_call_v_v (As := []) (rest := []) (wr := []) F (co_M_analyse hn (by omega) hSz (bc_rq_wf hR.2.1 hAB.2.1)) wm_502 wm_6 wm_500 wm_501 wm_634 0 rfl rfl pd_M_analyse rfl rfl ⟨Nat.le_of_ble_eq_true rfl, Nat.le_of_ble_eq_true rfl⟩ hP hD hS hA [0, 1, 2, 3, 4, 5, 6, 7, 8, 9, 10] [] rfl rfl rfl rfl (by decide) rfl hl.1 rfl (Nat.le_of_ble_eq_true rfl) de_M_reached_23 ⟨Nat.le_of_ble_eq_true rfl, Nat.le_of_ble_eq_true rfl⟩ (fun u_23 H locs hw_23 hP hD hS => ?_)
      obtain ⟨R1, F1, V1, A1, B1, w1⟩ := u_23
      try dsimp only at hw_23
      obtain ⟨g1, hen, hre, hL⟩ := hw_23
      have hP : va_P (dC, dI) classes [(m0, .inr (5, [.int 0, .ref r1, .ref r2, .ref r3, .ref r4, .ref r5, .int rw, .ref r6, .ref r7, .ref r8, .int w1, .ref r9, .ref r10, .ref r11, .ref r12, .ref r13, .ref r14, .ref r15, .ref r16])), (r1, .inl (cI, 80, .inl K)), (r2, .inl (cI, 80, .inl O)), (r3, .inl (cI, 80, .inl T)), (r4, .inl (cI, 80, .inl Z)), (r5, .inl (cI, 2, .inl Sz)), (r6, .inl (cZ, 40, .inl R1)), (r7, .inl (cI, 240, .inl F1)), (r8, .inl (cI, 240, .inl V1)), (r9, .inl (cI, 6, .inl A1)), (r10, .inl (cI, 6, .inl B1))] H := hP.sub [0, 1, 2, 3, 4, 5, 6, 7, 8, 9, 10] rfl
      have hD : va_D A [(m0, .inr (5, [.int 0, .ref r1, .ref r2, .ref r3, .ref r4, .ref r5, .int rw, .ref r6, .ref r7, .ref r8, .int w1, .ref r9, .ref r10, .ref r11, .ref r12, .ref r13, .ref r14, .ref r15, .ref r16])), (r1, .inl (cI, 80, .inl K)), (r2, .inl (cI, 80, .inl O)), (r3, .inl (cI, 80, .inl T)), (r4, .inl (cI, 80, .inl Z)), (r5, .inl (cI, 2, .inl Sz)), (r6, .inl (cZ, 40, .inl R1)), (r7, .inl (cI, 240, .inl F1)), (r8, .inl (cI, 240, .inl V1)), (r9, .inl (cI, 6, .inl A1)), (r10, .inl (cI, 6, .inl B1))] := hD.sub [0, 1, 2, 3, 4, 5, 6, 7, 8, 9, 10] (by decide) rfl
      refine lv_aload_n hx hb de_M_reached_26 rfl (lv_at hl 0 rfl) ?_
      refine va_get (D := (dC, dI)) (ci := 5) (v := .ref r6) (C := rc_M) (T := fc_M) (N := 19) hx hb htw wi_M hown hK hP 0 rfl rfl 7 (by decide) (htw _ wm_430) (fun _ h9 => h9) rfl de_M_reached_27 ?_
      refine lv_iload_n hx hb de_M_reached_30 rfl (lv_at hl 1 rfl) ?_
      refine bc_zld (j := j) hx hb hK hP 6 1 rfl rfl (by omega) (by decide) de_M_reached_31 ?_
      exact bc_zret F hr hlocks (bc_nar (hre j (by omega)).2) ((0, w1, R1, F1, V1, A1, B1)) (Or.inr ⟨j, hj, rfl, rfl, fun g hg => (bc_re_b hre (by omega)).trans (bc_sim_q (bc_q_all hR.2.1 hL hg j hj)).1⟩) hP hD hS de_M_reached_32
  · subst he_3
    refine lv_if_eq (tgt := 13) hx hb de_M_reached_6 (by decide) (fun _ => ?_) (fun hc => absurd (by decide) hc)
    refine lv_iconst (v := 1) hx hb de_M_reached_13 (by decide) ?_
    refine bc_call_v_i (As := [.int 1]) (rest := []) (wr := [(r1, .inl (cI, 80, .inl K)), (r2, .inl (cI, 80, .inl O)), (r3, .inl (cI, 80, .inl T)), (r4, .inl (cI, 80, .inl Z)), (r5, .inl (cI, 2, .inl Sz)), (r6, .inl (cZ, 40, .inl Re)), (r7, .inl (cI, 240, .inl Fa)), (r8, .inl (cI, 240, .inl Va)), (r9, .inl (cI, 6, .inl Nf)), (r10, .inl (cI, 6, .inl Nv))]) F (co_M_refused) wm_478 wm_6 wm_476 wm_477 wm_630 0 rfl rfl pd_M_refused rfl rfl ⟨Nat.le_of_ble_eq_true rfl, Nat.le_of_ble_eq_true rfl⟩ hP hD hS hA [0] [1, 2, 3, 4, 5, 6, 7, 8, 9, 10] rfl rfl rfl rfl (by decide) rfl hl.1 rfl (Nat.le_of_ble_eq_true rfl) de_M_reached_14 ⟨Nat.le_of_ble_eq_true rfl, Nat.le_of_ble_eq_true rfl⟩ (fun r_14 u_14 H locs hw_14 hP hD hS => ?_)
    have hP : va_P (dC, dI) classes [(m0, .inr (5, [.int 1, .ref r1, .ref r2, .ref r3, .ref r4, .ref r5, .int rw, .ref r6, .ref r7, .ref r8, .int gw, .ref r9, .ref r10, .ref r11, .ref r12, .ref r13, .ref r14, .ref r15, .ref r16])), (r1, .inl (cI, 80, .inl K)), (r2, .inl (cI, 80, .inl O)), (r3, .inl (cI, 80, .inl T)), (r4, .inl (cI, 80, .inl Z)), (r5, .inl (cI, 2, .inl Sz)), (r6, .inl (cZ, 40, .inl Re)), (r7, .inl (cI, 240, .inl Fa)), (r8, .inl (cI, 240, .inl Va)), (r9, .inl (cI, 6, .inl Nf)), (r10, .inl (cI, 6, .inl Nv))] H := hP.sub [10, 0, 1, 2, 3, 4, 5, 6, 7, 8, 9] rfl
    have hD : va_D A [(m0, .inr (5, [.int 1, .ref r1, .ref r2, .ref r3, .ref r4, .ref r5, .int rw, .ref r6, .ref r7, .ref r8, .int gw, .ref r9, .ref r10, .ref r11, .ref r12, .ref r13, .ref r14, .ref r15, .ref r16])), (r1, .inl (cI, 80, .inl K)), (r2, .inl (cI, 80, .inl O)), (r3, .inl (cI, 80, .inl T)), (r4, .inl (cI, 80, .inl Z)), (r5, .inl (cI, 2, .inl Sz)), (r6, .inl (cZ, 40, .inl Re)), (r7, .inl (cI, 240, .inl Fa)), (r8, .inl (cI, 240, .inl Va)), (r9, .inl (cI, 6, .inl Nf)), (r10, .inl (cI, 6, .inl Nv))] := hD.sub [10, 0, 1, 2, 3, 4, 5, 6, 7, 8, 9] (by decide) rfl
    rcases hw_14 with ⟨he_14, hv_14⟩ | ⟨he_14, hv_14⟩
    · subst he_14
      refine lv_if_eq (tgt := 22) hx hb de_M_reached_17 (by decide) (fun hc => absurd hc (by decide)) (fun _ => ?_)
      refine lv_iconst (v := 0) hx hb de_M_reached_20 (by decide) ?_
      exact bc_zret F hr hlocks rfl ((1, gw, Re, Fa, Va, Nf, Nv)) (Or.inl ⟨hv_3, rfl⟩) hP hD hS de_M_reached_21
    · subst he_14
      exact absurd hv_14 (by decide)

set_option maxHeartbeats 4000000 in
set_option maxRecDepth 100000 in
/-- known -/
theorem co_M_known {l : Launch} {dC : Nat → ClassId} {dI : Nat → Nat → Nat} {cI cZ : ClassId} {sz : Nat} {m0 r1 r2 r3 r4 r5 r6 r7 r8 r9 r10 r11 r12 r13 r14 r15 r16 : Nat} {K O T Z Sz On Pl Sp Vr Re Fa Va Nf Nv : bc_F} {fa rw gw : Int32} {n n2 : Nat} {P Q X : Nat → bc_F} {ON PL SP : bc_F} {ra : Int32} (hAB : bc_AB n P ra n2 Q ON PL SP) (hR : bc_MR n P ra n2 Q ON PL SP X K O T Z Sz On Pl Sp Vr rw) {x v : Int32} : Met l yn_M_known (Cond.code yn_M_known by_M_known 3 (some FieldType.int) :: wd_all) ({ frames := 4, cells := 0, slots := 0, locals := 93 } : Room) (bc_Pre (dC, dI) classes [(cI, .int), (cZ, .boolean)] [.ref m0, .int x, .int v] [(m0, .inr (5, [.int fa, .ref r1, .ref r2, .ref r3, .ref r4, .ref r5, .int rw, .ref r6, .ref r7, .ref r8, .int gw, .ref r9, .ref r10, .ref r11, .ref r12, .ref r13, .ref r14, .ref r15, .ref r16])), (r1, .inl (cI, 80, .inl K)), (r2, .inl (cI, 80, .inl O)), (r3, .inl (cI, 80, .inl T)), (r4, .inl (cI, 80, .inl Z)), (r5, .inl (cI, 2, .inl Sz)), (r6, .inl (cZ, 40, .inl Re)), (r7, .inl (cI, 240, .inl Fa)), (r8, .inl (cI, 240, .inl Va)), (r9, .inl (cI, 6, .inl Nf)), (r10, .inl (cI, 6, .inl Nv))] sz) (va_Qi (fun (r : Int32) (u : Int32 × Int32 × bc_F × bc_F × bc_F × bc_F × bc_F) => (¬ (bc_ix n x ∧ bc_vr v) ∧ u.1 = 1) ∨ (∃ j : Nat, j < n ∧ x = nI j ∧ ∃ w : Nat, w < 6 ∧ v = nI w ∧ u.1 = 0 ∧ ∀ g, bc_Lst n (P 1) (P 2) (P 3) (P 4) g → r = bc_s0 (g j) w)) (fun (u : Int32 × Int32 × bc_F × bc_F × bc_F × bc_F × bc_F) t => bc_B (dC, dI) classes [(cI, .int), (cZ, .boolean)] (va_A [(m0, .inr (5, [.int fa, .ref r1, .ref r2, .ref r3, .ref r4, .ref r5, .int rw, .ref r6, .ref r7, .ref r8, .int gw, .ref r9, .ref r10, .ref r11, .ref r12, .ref r13, .ref r14, .ref r15, .ref r16])), (r1, .inl (cI, 80, .inl K)), (r2, .inl (cI, 80, .inl O)), (r3, .inl (cI, 80, .inl T)), (r4, .inl (cI, 80, .inl Z)), (r5, .inl (cI, 2, .inl Sz)), (r6, .inl (cZ, 40, .inl Re)), (r7, .inl (cI, 240, .inl Fa)), (r8, .inl (cI, 240, .inl Va)), (r9, .inl (cI, 6, .inl Nf)), (r10, .inl (cI, 6, .inl Nv))] sz) [(m0, .inr (5, [.int u.1, .ref r1, .ref r2, .ref r3, .ref r4, .ref r5, .int rw, .ref r6, .ref r7, .ref r8, .int u.2.1, .ref r9, .ref r10, .ref r11, .ref r12, .ref r13, .ref r14, .ref r15, .ref r16])), (r1, .inl (cI, 80, .inl K)), (r2, .inl (cI, 80, .inl O)), (r3, .inl (cI, 80, .inl T)), (r4, .inl (cI, 80, .inl Z)), (r5, .inl (cI, 2, .inl Sz)), (r6, .inl (cZ, 40, .inl u.2.2.1)), (r7, .inl (cI, 240, .inl u.2.2.2.1)), (r8, .inl (cI, 240, .inl u.2.2.2.2.1)), (r9, .inl (cI, 6, .inl u.2.2.2.2.2.1)), (r10, .inl (cI, 6, .inl u.2.2.2.2.2.2))] t) ((va_A [(m0, .inr (5, [.int fa, .ref r1, .ref r2, .ref r3, .ref r4, .ref r5, .int rw, .ref r6, .ref r7, .ref r8, .int gw, .ref r9, .ref r10, .ref r11, .ref r12, .ref r13, .ref r14, .ref r15, .ref r16])), (r1, .inl (cI, 80, .inl K)), (r2, .inl (cI, 80, .inl O)), (r3, .inl (cI, 80, .inl T)), (r4, .inl (cI, 80, .inl Z)), (r5, .inl (cI, 2, .inl Sz)), (r6, .inl (cZ, 40, .inl Re)), (r7, .inl (cI, 240, .inl Fa)), (r8, .inl (cI, 240, .inl Va)), (r9, .inl (cI, 6, .inl Nf)), (r10, .inl (cI, 6, .inl Nv))] sz))) 0 0 (va_A [(m0, .inr (5, [.int fa, .ref r1, .ref r2, .ref r3, .ref r4, .ref r5, .int rw, .ref r6, .ref r7, .ref r8, .int gw, .ref r9, .ref r10, .ref r11, .ref r12, .ref r13, .ref r14, .ref r15, .ref r16])), (r1, .inl (cI, 80, .inl K)), (r2, .inl (cI, 80, .inl O)), (r3, .inl (cI, 80, .inl T)), (r4, .inl (cI, 80, .inl Z)), (r5, .inl (cI, 2, .inl Sz)), (r6, .inl (cZ, 40, .inl Re)), (r7, .inl (cI, 240, .inl Fa)), (r8, .inl (cI, 240, .inl Va)), (r9, .inl (cI, 6, .inl Nf)), (r10, .inl (cI, 6, .inl Nv))] sz) := by
  refine bc_met (fun A => va_Qi (fun (r : Int32) (u : Int32 × Int32 × bc_F × bc_F × bc_F × bc_F × bc_F) => (¬ (bc_ix n x ∧ bc_vr v) ∧ u.1 = 1) ∨ (∃ j : Nat, j < n ∧ x = nI j ∧ ∃ w : Nat, w < 6 ∧ v = nI w ∧ u.1 = 0 ∧ ∀ g, bc_Lst n (P 1) (P 2) (P 3) (P 4) g → r = bc_s0 (g j) w)) (fun (u : Int32 × Int32 × bc_F × bc_F × bc_F × bc_F × bc_F) t => bc_B (dC, dI) classes [(cI, .int), (cZ, .boolean)] A [(m0, .inr (5, [.int u.1, .ref r1, .ref r2, .ref r3, .ref r4, .ref r5, .int rw, .ref r6, .ref r7, .ref r8, .int u.2.1, .ref r9, .ref r10, .ref r11, .ref r12, .ref r13, .ref r14, .ref r15, .ref r16])), (r1, .inl (cI, 80, .inl K)), (r2, .inl (cI, 80, .inl O)), (r3, .inl (cI, 80, .inl T)), (r4, .inl (cI, 80, .inl Z)), (r5, .inl (cI, 2, .inl Sz)), (r6, .inl (cZ, 40, .inl u.2.2.1)), (r7, .inl (cI, 240, .inl u.2.2.2.1)), (r8, .inl (cI, 240, .inl u.2.2.2.2.1)), (r9, .inl (cI, 6, .inl u.2.2.2.2.2.1)), (r10, .inl (cI, 6, .inl u.2.2.2.2.2.2))] t) A) (by decide) (Nat.le_of_ble_eq_true rfl) ?_
  intro p e s m args below meth c A ls F hr hlocks hin hA hP hD hl hS
  have hx := F.1
  have hb := F.2.1
  have hml := F.2.2.1
  have hown : s.vm.findClass "BranchConstantsModel" = some m.cls := F.2.2.2.1
  have htw := F.2.2.2.2.1
  have hN := F.2.2.2.2.2.1
  have hK := F.2.2.2.2.2.2
  have hl : lv_has ls 3 [(0, .ref m0), (1, .int x), (2, .int v)] := hl
  have hn := hAB.1
  have hSz := hR.1
  refine lv_aload_n hx hb de_M_known_0 rfl (lv_at hl 0 rfl) ?_
  refine lv_aload_n hx hb de_M_known_1 rfl (lv_at hl 0 rfl) ?_
  refine lv_iload_n hx hb de_M_known_2 rfl (lv_at hl 1 rfl) ?_
  refine bc_call_v_i (As := [.int x]) (rest := [.ref m0]) (wr := [(r1, .inl (cI, 80, .inl K)), (r2, .inl (cI, 80, .inl O)), (r3, .inl (cI, 80, .inl T)), (r4, .inl (cI, 80, .inl Z)), (r6, .inl (cZ, 40, .inl Re)), (r7, .inl (cI, 240, .inl Fa)), (r8, .inl (cI, 240, .inl Va)), (r9, .inl (cI, 6, .inl Nf)), (r10, .inl (cI, 6, .inl Nv))]) F (co_M_isThere hn hSz) wm_499 wm_6 wm_497 wm_498 wm_633 0 rfl rfl pd_M_isThere rfl rfl ⟨Nat.le_of_ble_eq_true rfl, Nat.le_of_ble_eq_true rfl⟩ hP hD hS hA [0, 5] [1, 2, 3, 4, 6, 7, 8, 9, 10] rfl rfl rfl rfl (by decide) rfl hl.1 rfl (Nat.le_of_ble_eq_true rfl) de_M_known_3 ⟨Nat.le_of_ble_eq_true rfl, Nat.le_of_ble_eq_true rfl⟩ (fun r_3 u_3 H locs hw_3 hP hD hS => ?_)
  have hP : va_P (dC, dI) classes [(m0, .inr (5, [.int fa, .ref r1, .ref r2, .ref r3, .ref r4, .ref r5, .int rw, .ref r6, .ref r7, .ref r8, .int gw, .ref r9, .ref r10, .ref r11, .ref r12, .ref r13, .ref r14, .ref r15, .ref r16])), (r1, .inl (cI, 80, .inl K)), (r2, .inl (cI, 80, .inl O)), (r3, .inl (cI, 80, .inl T)), (r4, .inl (cI, 80, .inl Z)), (r5, .inl (cI, 2, .inl Sz)), (r6, .inl (cZ, 40, .inl Re)), (r7, .inl (cI, 240, .inl Fa)), (r8, .inl (cI, 240, .inl Va)), (r9, .inl (cI, 6, .inl Nf)), (r10, .inl (cI, 6, .inl Nv))] H := hP.sub [9, 0, 1, 2, 3, 10, 4, 5, 6, 7, 8] rfl
  have hD : va_D A [(m0, .inr (5, [.int fa, .ref r1, .ref r2, .ref r3, .ref r4, .ref r5, .int rw, .ref r6, .ref r7, .ref r8, .int gw, .ref r9, .ref r10, .ref r11, .ref r12, .ref r13, .ref r14, .ref r15, .ref r16])), (r1, .inl (cI, 80, .inl K)), (r2, .inl (cI, 80, .inl O)), (r3, .inl (cI, 80, .inl T)), (r4, .inl (cI, 80, .inl Z)), (r5, .inl (cI, 2, .inl Sz)), (r6, .inl (cZ, 40, .inl Re)), (r7, .inl (cI, 240, .inl Fa)), (r8, .inl (cI, 240, .inl Va)), (r9, .inl (cI, 6, .inl Nf)), (r10, .inl (cI, 6, .inl Nv))] := hD.sub [9, 0, 1, 2, 3, 10, 4, 5, 6, 7, 8] (by decide) rfl
  rcases hw_3 with ⟨he_3, hv_3⟩ | ⟨he_3, hv_3⟩
  · subst he_3
    refine lv_if_eq (tgt := 20) hx hb de_M_known_6 (by decide) (fun hc => absurd hc (by decide)) (fun _ => ?_)
    refine lv_iload_n hx hb de_M_known_9 rfl (lv_at hl 2 rfl) ?_
    refine bc_call_s_i (As := [.int v]) (rest := [.ref m0]) (wr := [(m0, .inr (5, [.int fa, .ref r1, .ref r2, .ref r3, .ref r4, .ref r5, .int rw, .ref r6, .ref r7, .ref r8, .int gw, .ref r9, .ref r10, .ref r11, .ref r12, .ref r13, .ref r14, .ref r15, .ref r16])), (r1, .inl (cI, 80, .inl K)), (r2, .inl (cI, 80, .inl O)), (r3, .inl (cI, 80, .inl T)), (r4, .inl (cI, 80, .inl Z)), (r5, .inl (cI, 2, .inl Sz)), (r6, .inl (cZ, 40, .inl Re)), (r7, .inl (cI, 240, .inl Fa)), (r8, .inl (cI, 240, .inl Va)), (r9, .inl (cI, 6, .inl Nf)), (r10, .inl (cI, 6, .inl Nv))]) F (co_M_isVariable) wm_475 wm_6 wm_473 wm_474 pd_M_isVariable rfl rfl ⟨Nat.le_of_ble_eq_true rfl, Nat.le_of_ble_eq_true rfl⟩ hP hD hS hA [] [0, 1, 2, 3, 4, 5, 6, 7, 8, 9, 10] rfl rfl rfl rfl (by decide) rfl hl.1 rfl (Nat.le_of_ble_eq_true rfl) de_M_known_10 ⟨Nat.le_of_ble_eq_true rfl, Nat.le_of_ble_eq_true rfl⟩ (fun r_10 u_10 H locs hw_10 hP hD hS => ?_)
    have hP : va_P (dC, dI) classes [(m0, .inr (5, [.int fa, .ref r1, .ref r2, .ref r3, .ref r4, .ref r5, .int rw, .ref r6, .ref r7, .ref r8, .int gw, .ref r9, .ref r10, .ref r11, .ref r12, .ref r13, .ref r14, .ref r15, .ref r16])), (r1, .inl (cI, 80, .inl K)), (r2, .inl (cI, 80, .inl O)), (r3, .inl (cI, 80, .inl T)), (r4, .inl (cI, 80, .inl Z)), (r5, .inl (cI, 2, .inl Sz)), (r6, .inl (cZ, 40, .inl Re)), (r7, .inl (cI, 240, .inl Fa)), (r8, .inl (cI, 240, .inl Va)), (r9, .inl (cI, 6, .inl Nf)), (r10, .inl (cI, 6, .inl Nv))] H := hP.sub [0, 1, 2, 3, 4, 5, 6, 7, 8, 9, 10] rfl
    have hD : va_D A [(m0, .inr (5, [.int fa, .ref r1, .ref r2, .ref r3, .ref r4, .ref r5, .int rw, .ref r6, .ref r7, .ref r8, .int gw, .ref r9, .ref r10, .ref r11, .ref r12, .ref r13, .ref r14, .ref r15, .ref r16])), (r1, .inl (cI, 80, .inl K)), (r2, .inl (cI, 80, .inl O)), (r3, .inl (cI, 80, .inl T)), (r4, .inl (cI, 80, .inl Z)), (r5, .inl (cI, 2, .inl Sz)), (r6, .inl (cZ, 40, .inl Re)), (r7, .inl (cI, 240, .inl Fa)), (r8, .inl (cI, 240, .inl Va)), (r9, .inl (cI, 6, .inl Nf)), (r10, .inl (cI, 6, .inl Nv))] := hD.sub [0, 1, 2, 3, 4, 5, 6, 7, 8, 9, 10] (by decide) rfl
    rcases hw_10 with ⟨he_10, hv_10⟩ | ⟨he_10, hv_10⟩
    · subst he_10
      refine lv_if_eq (tgt := 20) hx hb de_M_known_13 (by decide) (fun hc => absurd hc (by decide)) (fun _ => ?_)
      refine lv_iconst (v := 0) hx hb de_M_known_16 (by decide) ?_
      refine lv_goto (tgt := 21) hx hb de_M_known_17 (by decide) ?_
      refine bc_call_v_i (As := [.int 0]) (rest := []) (wr := [(r1, .inl (cI, 80, .inl K)), (r2, .inl (cI, 80, .inl O)), (r3, .inl (cI, 80, .inl T)), (r4, .inl (cI, 80, .inl Z)), (r5, .inl (cI, 2, .inl Sz)), (r6, .inl (cZ, 40, .inl Re)), (r7, .inl (cI, 240, .inl Fa)), (r8, .inl (cI, 240, .inl Va)), (r9, .inl (cI, 6, .inl Nf)), (r10, .inl (cI, 6, .inl Nv))]) F (co_M_refused) wm_478 wm_6 wm_476 wm_477 wm_630 0 rfl rfl pd_M_refused rfl rfl ⟨Nat.le_of_ble_eq_true rfl, Nat.le_of_ble_eq_true rfl⟩ hP hD hS hA [0] [1, 2, 3, 4, 5, 6, 7, 8, 9, 10] rfl rfl rfl rfl (by decide) rfl hl.1 rfl (Nat.le_of_ble_eq_true rfl) de_M_known_21 ⟨Nat.le_of_ble_eq_true rfl, Nat.le_of_ble_eq_true rfl⟩ (fun r_21 u_21 H locs hw_21 hP hD hS => ?_)
      have hP : va_P (dC, dI) classes [(m0, .inr (5, [.int 0, .ref r1, .ref r2, .ref r3, .ref r4, .ref r5, .int rw, .ref r6, .ref r7, .ref r8, .int gw, .ref r9, .ref r10, .ref r11, .ref r12, .ref r13, .ref r14, .ref r15, .ref r16])), (r1, .inl (cI, 80, .inl K)), (r2, .inl (cI, 80, .inl O)), (r3, .inl (cI, 80, .inl T)), (r4, .inl (cI, 80, .inl Z)), (r5, .inl (cI, 2, .inl Sz)), (r6, .inl (cZ, 40, .inl Re)), (r7, .inl (cI, 240, .inl Fa)), (r8, .inl (cI, 240, .inl Va)), (r9, .inl (cI, 6, .inl Nf)), (r10, .inl (cI, 6, .inl Nv))] H := hP.sub [10, 0, 1, 2, 3, 4, 5, 6, 7, 8, 9] rfl
      have hD : va_D A [(m0, .inr (5, [.int 0, .ref r1, .ref r2, .ref r3, .ref r4, .ref r5, .int rw, .ref r6, .ref r7, .ref r8, .int gw, .ref r9, .ref r10, .ref r11, .ref r12, .ref r13, .ref r14, .ref r15, .ref r16])), (r1, .inl (cI, 80, .inl K)), (r2, .inl (cI, 80, .inl O)), (r3, .inl (cI, 80, .inl T)), (r4, .inl (cI, 80, .inl Z)), (r5, .inl (cI, 2, .inl Sz)), (r6, .inl (cZ, 40, .inl Re)), (r7, .inl (cI, 240, .inl Fa)), (r8, .inl (cI, 240, .inl Va)), (r9, .inl (cI, 6, .inl Nf)), (r10, .inl (cI, 6, .inl Nv))] := hD.sub [10, 0, 1, 2, 3, 4, 5, 6, 7, 8, 9] (by decide) rfl
      rcases hw_21 with ⟨he_21, hv_21⟩ | ⟨he_21, hv_21⟩
      · subst he_21
        exact absurd (by decide) hv_21
      · subst he_21
        refine lv_if_eq (tgt := 29) hx hb de_M_known_24 (by decide) (fun _ => ?_) (fun hc => absurd (by decide) hc)
        obtain ⟨j, hj, ej⟩ := hv_3
        subst ej
        obtain ⟨v, hv, ev⟩ := hv_10
        subst ev
        refine lv_aload_n hx hb de_M_known_29 rfl (lv_at hl 0 rfl) ?_
        refine bc_call_v_v (As := []) (rest := []) (wr := []) F (co_M_analyse hn (by omega) hSz (bc_rq_wf hR.2.1 hAB.2.1)) wm_502 wm_6 wm_500 wm_501 wm_634 0 rfl rfl pd_M_analyse rfl rfl ⟨Nat.le_of_ble_eq_true rfl, Nat.le_of_ble_eq_true rfl⟩ hP hD hS hA [0, 1, 2, 3, 4, 5, 6, 7, 8, 9, 10] [] rfl rfl rfl rfl (by decide) rfl hl.1 rfl (Nat.le_of_ble_eq_true rfl) de_M_known_30 ⟨Nat.le_of_ble_eq_true rfl, Nat.le_of_ble_eq_true rfl⟩ (fun u_30 H locs hw_30 hP hD hS => ?_)
        obtain ⟨R1, F1, V1, A1, B1, w1⟩ := u_30
        try dsimp only at hw_30
        obtain ⟨g1, hen, hre, hL⟩ := hw_30
        have hP : va_P (dC, dI) classes [(m0, .inr (5, [.int 0, .ref r1, .ref r2, .ref r3, .ref r4, .ref r5, .int rw, .ref r6, .ref r7, .ref r8, .int w1, .ref r9, .ref r10, .ref r11, .ref r12, .ref r13, .ref r14, .ref r15, .ref r16])), (r1, .inl (cI, 80, .inl K)), (r2, .inl (cI, 80, .inl O)), (r3, .inl (cI, 80, .inl T)), (r4, .inl (cI, 80, .inl Z)), (r5, .inl (cI, 2, .inl Sz)), (r6, .inl (cZ, 40, .inl R1)), (r7, .inl (cI, 240, .inl F1)), (r8, .inl (cI, 240, .inl V1)), (r9, .inl (cI, 6, .inl A1)), (r10, .inl (cI, 6, .inl B1))] H := hP.sub [0, 1, 2, 3, 4, 5, 6, 7, 8, 9, 10] rfl
        have hD : va_D A [(m0, .inr (5, [.int 0, .ref r1, .ref r2, .ref r3, .ref r4, .ref r5, .int rw, .ref r6, .ref r7, .ref r8, .int w1, .ref r9, .ref r10, .ref r11, .ref r12, .ref r13, .ref r14, .ref r15, .ref r16])), (r1, .inl (cI, 80, .inl K)), (r2, .inl (cI, 80, .inl O)), (r3, .inl (cI, 80, .inl T)), (r4, .inl (cI, 80, .inl Z)), (r5, .inl (cI, 2, .inl Sz)), (r6, .inl (cZ, 40, .inl R1)), (r7, .inl (cI, 240, .inl F1)), (r8, .inl (cI, 240, .inl V1)), (r9, .inl (cI, 6, .inl A1)), (r10, .inl (cI, 6, .inl B1))] := hD.sub [0, 1, 2, 3, 4, 5, 6, 7, 8, 9, 10] (by decide) rfl
        refine lv_aload_n hx hb de_M_known_33 rfl (lv_at hl 0 rfl) ?_
        refine va_get (D := (dC, dI)) (ci := 5) (v := .ref r6) (C := rc_M) (T := fc_M) (N := 19) hx hb htw wi_M hown hK hP 0 rfl rfl 7 (by decide) (htw _ wm_430) (fun _ h9 => h9) rfl de_M_known_34 ?_
        refine lv_iload_n hx hb de_M_known_37 rfl (lv_at hl 1 rfl) ?_
        refine bc_zld (j := j) hx hb hK hP 6 1 rfl rfl (by omega) (by decide) de_M_known_38 ?_
        refine lv_if_eq (tgt := 56) hx hb de_M_known_39 (by decide) (fun hc_39 => ?_) (fun hc_39 => ?_)
        · refine lv_iconst (v := 0) hx hb de_M_known_56 (by decide) ?_
          exact bc_iret F hr hlocks ((0, w1, R1, F1, V1, A1, B1)) (Or.inr ⟨j, hj, rfl, v, hv, rfl, rfl, fun g hg => ((bc_s0_no ((bc_re_b hre (by omega)).symm.trans hc_39)).1).trans ((bc_sim_q (bc_q_all hR.2.1 hL hg j hj)).2 v hv).1⟩) hP hD hS de_M_known_57
        · refine lv_aload_n hx hb de_M_known_42 rfl (lv_at hl 0 rfl) ?_
          refine va_get (D := (dC, dI)) (ci := 5) (v := .ref r7) (C := rc_M) (T := fc_M) (N := 19) hx hb htw wi_M hown hK hP 0 rfl rfl 8 (by decide) (htw _ wm_431) (fun _ h9 => h9) rfl de_M_known_43 ?_
          refine lv_bipush (v := 6) hx hb de_M_known_46 (by decide) ?_
          refine lv_iload_n hx hb de_M_known_48 rfl (lv_at hl 1 rfl) ?_
          refine lv_imul hx hb de_M_known_49 ?_
          refine bc_ti (y := nI (6 * j)) (pk_mul 6 j) ?_
          refine lv_iload_n hx hb de_M_known_50 rfl (lv_at hl 2 rfl) ?_
          refine lv_iadd hx hb de_M_known_51 ?_
          refine bc_ti (y := nI ((6 * j) + v)) (nI_add (6 * j) v) ?_
          refine bc_ild (j := (6 * j) + v) hx hb hK hP 7 0 rfl rfl (by omega) (by decide) de_M_known_52 ?_
          refine lv_goto (tgt := 57) hx hb de_M_known_53 (by decide) ?_
          exact bc_iret F hr hlocks ((0, w1, R1, F1, V1, A1, B1)) (Or.inr ⟨j, hj, rfl, v, hv, rfl, rfl, fun g hg => ((hen j (by omega) v hv).1).trans ((bc_sim_q (bc_q_all hR.2.1 hL hg j hj)).2 v hv).1⟩) hP hD hS de_M_known_57
    · subst he_10
      refine lv_if_eq (tgt := 20) hx hb de_M_known_13 (by decide) (fun _ => ?_) (fun hc => absurd (by decide) hc)
      refine lv_iconst (v := 1) hx hb de_M_known_20 (by decide) ?_
      refine bc_call_v_i (As := [.int 1]) (rest := []) (wr := [(r1, .inl (cI, 80, .inl K)), (r2, .inl (cI, 80, .inl O)), (r3, .inl (cI, 80, .inl T)), (r4, .inl (cI, 80, .inl Z)), (r5, .inl (cI, 2, .inl Sz)), (r6, .inl (cZ, 40, .inl Re)), (r7, .inl (cI, 240, .inl Fa)), (r8, .inl (cI, 240, .inl Va)), (r9, .inl (cI, 6, .inl Nf)), (r10, .inl (cI, 6, .inl Nv))]) F (co_M_refused) wm_478 wm_6 wm_476 wm_477 wm_630 0 rfl rfl pd_M_refused rfl rfl ⟨Nat.le_of_ble_eq_true rfl, Nat.le_of_ble_eq_true rfl⟩ hP hD hS hA [0] [1, 2, 3, 4, 5, 6, 7, 8, 9, 10] rfl rfl rfl rfl (by decide) rfl hl.1 rfl (Nat.le_of_ble_eq_true rfl) de_M_known_21 ⟨Nat.le_of_ble_eq_true rfl, Nat.le_of_ble_eq_true rfl⟩ (fun r_21 u_21 H locs hw_21 hP hD hS => ?_)
      have hP : va_P (dC, dI) classes [(m0, .inr (5, [.int 1, .ref r1, .ref r2, .ref r3, .ref r4, .ref r5, .int rw, .ref r6, .ref r7, .ref r8, .int gw, .ref r9, .ref r10, .ref r11, .ref r12, .ref r13, .ref r14, .ref r15, .ref r16])), (r1, .inl (cI, 80, .inl K)), (r2, .inl (cI, 80, .inl O)), (r3, .inl (cI, 80, .inl T)), (r4, .inl (cI, 80, .inl Z)), (r5, .inl (cI, 2, .inl Sz)), (r6, .inl (cZ, 40, .inl Re)), (r7, .inl (cI, 240, .inl Fa)), (r8, .inl (cI, 240, .inl Va)), (r9, .inl (cI, 6, .inl Nf)), (r10, .inl (cI, 6, .inl Nv))] H := hP.sub [10, 0, 1, 2, 3, 4, 5, 6, 7, 8, 9] rfl
      have hD : va_D A [(m0, .inr (5, [.int 1, .ref r1, .ref r2, .ref r3, .ref r4, .ref r5, .int rw, .ref r6, .ref r7, .ref r8, .int gw, .ref r9, .ref r10, .ref r11, .ref r12, .ref r13, .ref r14, .ref r15, .ref r16])), (r1, .inl (cI, 80, .inl K)), (r2, .inl (cI, 80, .inl O)), (r3, .inl (cI, 80, .inl T)), (r4, .inl (cI, 80, .inl Z)), (r5, .inl (cI, 2, .inl Sz)), (r6, .inl (cZ, 40, .inl Re)), (r7, .inl (cI, 240, .inl Fa)), (r8, .inl (cI, 240, .inl Va)), (r9, .inl (cI, 6, .inl Nf)), (r10, .inl (cI, 6, .inl Nv))] := hD.sub [10, 0, 1, 2, 3, 4, 5, 6, 7, 8, 9] (by decide) rfl
      rcases hw_21 with ⟨he_21, hv_21⟩ | ⟨he_21, hv_21⟩
      · subst he_21
        refine lv_if_eq (tgt := 29) hx hb de_M_known_24 (by decide) (fun hc => absurd hc (by decide)) (fun _ => ?_)
        refine lv_iconst (v := 0) hx hb de_M_known_27 (by decide) ?_
        exact bc_iret F hr hlocks ((1, gw, Re, Fa, Va, Nf, Nv)) (Or.inl ⟨fun z => hv_10 z.2, rfl⟩) hP hD hS de_M_known_28
      · subst he_21
        exact absurd hv_21 (by decide)
  · subst he_3
    refine lv_if_eq (tgt := 20) hx hb de_M_known_6 (by decide) (fun _ => ?_) (fun hc => absurd (by decide) hc)
    refine lv_iconst (v := 1) hx hb de_M_known_20 (by decide) ?_
    refine bc_call_v_i (As := [.int 1]) (rest := []) (wr := [(r1, .inl (cI, 80, .inl K)), (r2, .inl (cI, 80, .inl O)), (r3, .inl (cI, 80, .inl T)), (r4, .inl (cI, 80, .inl Z)), (r5, .inl (cI, 2, .inl Sz)), (r6, .inl (cZ, 40, .inl Re)), (r7, .inl (cI, 240, .inl Fa)), (r8, .inl (cI, 240, .inl Va)), (r9, .inl (cI, 6, .inl Nf)), (r10, .inl (cI, 6, .inl Nv))]) F (co_M_refused) wm_478 wm_6 wm_476 wm_477 wm_630 0 rfl rfl pd_M_refused rfl rfl ⟨Nat.le_of_ble_eq_true rfl, Nat.le_of_ble_eq_true rfl⟩ hP hD hS hA [0] [1, 2, 3, 4, 5, 6, 7, 8, 9, 10] rfl rfl rfl rfl (by decide) rfl hl.1 rfl (Nat.le_of_ble_eq_true rfl) de_M_known_21 ⟨Nat.le_of_ble_eq_true rfl, Nat.le_of_ble_eq_true rfl⟩ (fun r_21 u_21 H locs hw_21 hP hD hS => ?_)
    have hP : va_P (dC, dI) classes [(m0, .inr (5, [.int 1, .ref r1, .ref r2, .ref r3, .ref r4, .ref r5, .int rw, .ref r6, .ref r7, .ref r8, .int gw, .ref r9, .ref r10, .ref r11, .ref r12, .ref r13, .ref r14, .ref r15, .ref r16])), (r1, .inl (cI, 80, .inl K)), (r2, .inl (cI, 80, .inl O)), (r3, .inl (cI, 80, .inl T)), (r4, .inl (cI, 80, .inl Z)), (r5, .inl (cI, 2, .inl Sz)), (r6, .inl (cZ, 40, .inl Re)), (r7, .inl (cI, 240, .inl Fa)), (r8, .inl (cI, 240, .inl Va)), (r9, .inl (cI, 6, .inl Nf)), (r10, .inl (cI, 6, .inl Nv))] H := hP.sub [10, 0, 1, 2, 3, 4, 5, 6, 7, 8, 9] rfl
    have hD : va_D A [(m0, .inr (5, [.int 1, .ref r1, .ref r2, .ref r3, .ref r4, .ref r5, .int rw, .ref r6, .ref r7, .ref r8, .int gw, .ref r9, .ref r10, .ref r11, .ref r12, .ref r13, .ref r14, .ref r15, .ref r16])), (r1, .inl (cI, 80, .inl K)), (r2, .inl (cI, 80, .inl O)), (r3, .inl (cI, 80, .inl T)), (r4, .inl (cI, 80, .inl Z)), (r5, .inl (cI, 2, .inl Sz)), (r6, .inl (cZ, 40, .inl Re)), (r7, .inl (cI, 240, .inl Fa)), (r8, .inl (cI, 240, .inl Va)), (r9, .inl (cI, 6, .inl Nf)), (r10, .inl (cI, 6, .inl Nv))] := hD.sub [10, 0, 1, 2, 3, 4, 5, 6, 7, 8, 9] (by decide) rfl
    rcases hw_21 with ⟨he_21, hv_21⟩ | ⟨he_21, hv_21⟩
    · subst he_21
      refine lv_if_eq (tgt := 29) hx hb de_M_known_24 (by decide) (fun hc => absurd hc (by decide)) (fun _ => ?_)
      refine lv_iconst (v := 0) hx hb de_M_known_27 (by decide) ?_
      exact bc_iret F hr hlocks ((1, gw, Re, Fa, Va, Nf, Nv)) (Or.inl ⟨fun z => hv_3 z.1, rfl⟩) hP hD hS de_M_known_28
    · subst he_21
      exact absurd hv_21 (by decide)

set_option maxHeartbeats 4000000 in
set_option maxRecDepth 100000 in
/-- constant -/
theorem co_M_constant {l : Launch} {dC : Nat → ClassId} {dI : Nat → Nat → Nat} {cI cZ : ClassId} {sz : Nat} {m0 r1 r2 r3 r4 r5 r6 r7 r8 r9 r10 r11 r12 r13 r14 r15 r16 : Nat} {K O T Z Sz On Pl Sp Vr Re Fa Va Nf Nv : bc_F} {fa rw gw : Int32} {n n2 : Nat} {P Q X : Nat → bc_F} {ON PL SP : bc_F} {ra : Int32} (hAB : bc_AB n P ra n2 Q ON PL SP) (hR : bc_MR n P ra n2 Q ON PL SP X K O T Z Sz On Pl Sp Vr rw) {x v : Int32} : Met l yn_M_constant (Cond.code yn_M_constant by_M_constant 3 (some FieldType.int) :: wd_all) ({ frames := 4, cells := 0, slots := 0, locals := 93 } : Room) (bc_Pre (dC, dI) classes [(cI, .int), (cZ, .boolean)] [.ref m0, .int x, .int v] [(m0, .inr (5, [.int fa, .ref r1, .ref r2, .ref r3, .ref r4, .ref r5, .int rw, .ref r6, .ref r7, .ref r8, .int gw, .ref r9, .ref r10, .ref r11, .ref r12, .ref r13, .ref r14, .ref r15, .ref r16])), (r1, .inl (cI, 80, .inl K)), (r2, .inl (cI, 80, .inl O)), (r3, .inl (cI, 80, .inl T)), (r4, .inl (cI, 80, .inl Z)), (r5, .inl (cI, 2, .inl Sz)), (r6, .inl (cZ, 40, .inl Re)), (r7, .inl (cI, 240, .inl Fa)), (r8, .inl (cI, 240, .inl Va)), (r9, .inl (cI, 6, .inl Nf)), (r10, .inl (cI, 6, .inl Nv))] sz) (va_Qi (fun (r : Int32) (u : Int32 × Int32 × bc_F × bc_F × bc_F × bc_F × bc_F) => (¬ (bc_ix n x ∧ bc_vr v) ∧ u.1 = 1) ∨ (∃ j : Nat, j < n ∧ x = nI j ∧ ∃ w : Nat, w < 6 ∧ v = nI w ∧ u.1 = 0 ∧ ∀ g, bc_Lst n (P 1) (P 2) (P 3) (P 4) g → r = bc_c0 (g j) w)) (fun (u : Int32 × Int32 × bc_F × bc_F × bc_F × bc_F × bc_F) t => bc_B (dC, dI) classes [(cI, .int), (cZ, .boolean)] (va_A [(m0, .inr (5, [.int fa, .ref r1, .ref r2, .ref r3, .ref r4, .ref r5, .int rw, .ref r6, .ref r7, .ref r8, .int gw, .ref r9, .ref r10, .ref r11, .ref r12, .ref r13, .ref r14, .ref r15, .ref r16])), (r1, .inl (cI, 80, .inl K)), (r2, .inl (cI, 80, .inl O)), (r3, .inl (cI, 80, .inl T)), (r4, .inl (cI, 80, .inl Z)), (r5, .inl (cI, 2, .inl Sz)), (r6, .inl (cZ, 40, .inl Re)), (r7, .inl (cI, 240, .inl Fa)), (r8, .inl (cI, 240, .inl Va)), (r9, .inl (cI, 6, .inl Nf)), (r10, .inl (cI, 6, .inl Nv))] sz) [(m0, .inr (5, [.int u.1, .ref r1, .ref r2, .ref r3, .ref r4, .ref r5, .int rw, .ref r6, .ref r7, .ref r8, .int u.2.1, .ref r9, .ref r10, .ref r11, .ref r12, .ref r13, .ref r14, .ref r15, .ref r16])), (r1, .inl (cI, 80, .inl K)), (r2, .inl (cI, 80, .inl O)), (r3, .inl (cI, 80, .inl T)), (r4, .inl (cI, 80, .inl Z)), (r5, .inl (cI, 2, .inl Sz)), (r6, .inl (cZ, 40, .inl u.2.2.1)), (r7, .inl (cI, 240, .inl u.2.2.2.1)), (r8, .inl (cI, 240, .inl u.2.2.2.2.1)), (r9, .inl (cI, 6, .inl u.2.2.2.2.2.1)), (r10, .inl (cI, 6, .inl u.2.2.2.2.2.2))] t) ((va_A [(m0, .inr (5, [.int fa, .ref r1, .ref r2, .ref r3, .ref r4, .ref r5, .int rw, .ref r6, .ref r7, .ref r8, .int gw, .ref r9, .ref r10, .ref r11, .ref r12, .ref r13, .ref r14, .ref r15, .ref r16])), (r1, .inl (cI, 80, .inl K)), (r2, .inl (cI, 80, .inl O)), (r3, .inl (cI, 80, .inl T)), (r4, .inl (cI, 80, .inl Z)), (r5, .inl (cI, 2, .inl Sz)), (r6, .inl (cZ, 40, .inl Re)), (r7, .inl (cI, 240, .inl Fa)), (r8, .inl (cI, 240, .inl Va)), (r9, .inl (cI, 6, .inl Nf)), (r10, .inl (cI, 6, .inl Nv))] sz))) 0 0 (va_A [(m0, .inr (5, [.int fa, .ref r1, .ref r2, .ref r3, .ref r4, .ref r5, .int rw, .ref r6, .ref r7, .ref r8, .int gw, .ref r9, .ref r10, .ref r11, .ref r12, .ref r13, .ref r14, .ref r15, .ref r16])), (r1, .inl (cI, 80, .inl K)), (r2, .inl (cI, 80, .inl O)), (r3, .inl (cI, 80, .inl T)), (r4, .inl (cI, 80, .inl Z)), (r5, .inl (cI, 2, .inl Sz)), (r6, .inl (cZ, 40, .inl Re)), (r7, .inl (cI, 240, .inl Fa)), (r8, .inl (cI, 240, .inl Va)), (r9, .inl (cI, 6, .inl Nf)), (r10, .inl (cI, 6, .inl Nv))] sz) := by
  refine bc_met (fun A => va_Qi (fun (r : Int32) (u : Int32 × Int32 × bc_F × bc_F × bc_F × bc_F × bc_F) => (¬ (bc_ix n x ∧ bc_vr v) ∧ u.1 = 1) ∨ (∃ j : Nat, j < n ∧ x = nI j ∧ ∃ w : Nat, w < 6 ∧ v = nI w ∧ u.1 = 0 ∧ ∀ g, bc_Lst n (P 1) (P 2) (P 3) (P 4) g → r = bc_c0 (g j) w)) (fun (u : Int32 × Int32 × bc_F × bc_F × bc_F × bc_F × bc_F) t => bc_B (dC, dI) classes [(cI, .int), (cZ, .boolean)] A [(m0, .inr (5, [.int u.1, .ref r1, .ref r2, .ref r3, .ref r4, .ref r5, .int rw, .ref r6, .ref r7, .ref r8, .int u.2.1, .ref r9, .ref r10, .ref r11, .ref r12, .ref r13, .ref r14, .ref r15, .ref r16])), (r1, .inl (cI, 80, .inl K)), (r2, .inl (cI, 80, .inl O)), (r3, .inl (cI, 80, .inl T)), (r4, .inl (cI, 80, .inl Z)), (r5, .inl (cI, 2, .inl Sz)), (r6, .inl (cZ, 40, .inl u.2.2.1)), (r7, .inl (cI, 240, .inl u.2.2.2.1)), (r8, .inl (cI, 240, .inl u.2.2.2.2.1)), (r9, .inl (cI, 6, .inl u.2.2.2.2.2.1)), (r10, .inl (cI, 6, .inl u.2.2.2.2.2.2))] t) A) (by decide) (Nat.le_of_ble_eq_true rfl) ?_
  intro p e s m args below meth c A ls F hr hlocks hin hA hP hD hl hS
  have hx := F.1
  have hb := F.2.1
  have hml := F.2.2.1
  have hown : s.vm.findClass "BranchConstantsModel" = some m.cls := F.2.2.2.1
  have htw := F.2.2.2.2.1
  have hN := F.2.2.2.2.2.1
  have hK := F.2.2.2.2.2.2
  have hl : lv_has ls 3 [(0, .ref m0), (1, .int x), (2, .int v)] := hl
  have hn := hAB.1
  have hSz := hR.1
  refine lv_aload_n hx hb de_M_constant_0 rfl (lv_at hl 0 rfl) ?_
  refine lv_aload_n hx hb de_M_constant_1 rfl (lv_at hl 0 rfl) ?_
  refine lv_iload_n hx hb de_M_constant_2 rfl (lv_at hl 1 rfl) ?_
  refine bc_call_v_i (As := [.int x]) (rest := [.ref m0]) (wr := [(r1, .inl (cI, 80, .inl K)), (r2, .inl (cI, 80, .inl O)), (r3, .inl (cI, 80, .inl T)), (r4, .inl (cI, 80, .inl Z)), (r6, .inl (cZ, 40, .inl Re)), (r7, .inl (cI, 240, .inl Fa)), (r8, .inl (cI, 240, .inl Va)), (r9, .inl (cI, 6, .inl Nf)), (r10, .inl (cI, 6, .inl Nv))]) F (co_M_isThere hn hSz) wm_499 wm_6 wm_497 wm_498 wm_633 0 rfl rfl pd_M_isThere rfl rfl ⟨Nat.le_of_ble_eq_true rfl, Nat.le_of_ble_eq_true rfl⟩ hP hD hS hA [0, 5] [1, 2, 3, 4, 6, 7, 8, 9, 10] rfl rfl rfl rfl (by decide) rfl hl.1 rfl (Nat.le_of_ble_eq_true rfl) de_M_constant_3 ⟨Nat.le_of_ble_eq_true rfl, Nat.le_of_ble_eq_true rfl⟩ (fun r_3 u_3 H locs hw_3 hP hD hS => ?_)
  have hP : va_P (dC, dI) classes [(m0, .inr (5, [.int fa, .ref r1, .ref r2, .ref r3, .ref r4, .ref r5, .int rw, .ref r6, .ref r7, .ref r8, .int gw, .ref r9, .ref r10, .ref r11, .ref r12, .ref r13, .ref r14, .ref r15, .ref r16])), (r1, .inl (cI, 80, .inl K)), (r2, .inl (cI, 80, .inl O)), (r3, .inl (cI, 80, .inl T)), (r4, .inl (cI, 80, .inl Z)), (r5, .inl (cI, 2, .inl Sz)), (r6, .inl (cZ, 40, .inl Re)), (r7, .inl (cI, 240, .inl Fa)), (r8, .inl (cI, 240, .inl Va)), (r9, .inl (cI, 6, .inl Nf)), (r10, .inl (cI, 6, .inl Nv))] H := hP.sub [9, 0, 1, 2, 3, 10, 4, 5, 6, 7, 8] rfl
  have hD : va_D A [(m0, .inr (5, [.int fa, .ref r1, .ref r2, .ref r3, .ref r4, .ref r5, .int rw, .ref r6, .ref r7, .ref r8, .int gw, .ref r9, .ref r10, .ref r11, .ref r12, .ref r13, .ref r14, .ref r15, .ref r16])), (r1, .inl (cI, 80, .inl K)), (r2, .inl (cI, 80, .inl O)), (r3, .inl (cI, 80, .inl T)), (r4, .inl (cI, 80, .inl Z)), (r5, .inl (cI, 2, .inl Sz)), (r6, .inl (cZ, 40, .inl Re)), (r7, .inl (cI, 240, .inl Fa)), (r8, .inl (cI, 240, .inl Va)), (r9, .inl (cI, 6, .inl Nf)), (r10, .inl (cI, 6, .inl Nv))] := hD.sub [9, 0, 1, 2, 3, 10, 4, 5, 6, 7, 8] (by decide) rfl
  rcases hw_3 with ⟨he_3, hv_3⟩ | ⟨he_3, hv_3⟩
  · subst he_3
    refine lv_if_eq (tgt := 20) hx hb de_M_constant_6 (by decide) (fun hc => absurd hc (by decide)) (fun _ => ?_)
    refine lv_iload_n hx hb de_M_constant_9 rfl (lv_at hl 2 rfl) ?_
    refine bc_call_s_i (As := [.int v]) (rest := [.ref m0]) (wr := [(m0, .inr (5, [.int fa, .ref r1, .ref r2, .ref r3, .ref r4, .ref r5, .int rw, .ref r6, .ref r7, .ref r8, .int gw, .ref r9, .ref r10, .ref r11, .ref r12, .ref r13, .ref r14, .ref r15, .ref r16])), (r1, .inl (cI, 80, .inl K)), (r2, .inl (cI, 80, .inl O)), (r3, .inl (cI, 80, .inl T)), (r4, .inl (cI, 80, .inl Z)), (r5, .inl (cI, 2, .inl Sz)), (r6, .inl (cZ, 40, .inl Re)), (r7, .inl (cI, 240, .inl Fa)), (r8, .inl (cI, 240, .inl Va)), (r9, .inl (cI, 6, .inl Nf)), (r10, .inl (cI, 6, .inl Nv))]) F (co_M_isVariable) wm_475 wm_6 wm_473 wm_474 pd_M_isVariable rfl rfl ⟨Nat.le_of_ble_eq_true rfl, Nat.le_of_ble_eq_true rfl⟩ hP hD hS hA [] [0, 1, 2, 3, 4, 5, 6, 7, 8, 9, 10] rfl rfl rfl rfl (by decide) rfl hl.1 rfl (Nat.le_of_ble_eq_true rfl) de_M_constant_10 ⟨Nat.le_of_ble_eq_true rfl, Nat.le_of_ble_eq_true rfl⟩ (fun r_10 u_10 H locs hw_10 hP hD hS => ?_)
    have hP : va_P (dC, dI) classes [(m0, .inr (5, [.int fa, .ref r1, .ref r2, .ref r3, .ref r4, .ref r5, .int rw, .ref r6, .ref r7, .ref r8, .int gw, .ref r9, .ref r10, .ref r11, .ref r12, .ref r13, .ref r14, .ref r15, .ref r16])), (r1, .inl (cI, 80, .inl K)), (r2, .inl (cI, 80, .inl O)), (r3, .inl (cI, 80, .inl T)), (r4, .inl (cI, 80, .inl Z)), (r5, .inl (cI, 2, .inl Sz)), (r6, .inl (cZ, 40, .inl Re)), (r7, .inl (cI, 240, .inl Fa)), (r8, .inl (cI, 240, .inl Va)), (r9, .inl (cI, 6, .inl Nf)), (r10, .inl (cI, 6, .inl Nv))] H := hP.sub [0, 1, 2, 3, 4, 5, 6, 7, 8, 9, 10] rfl
    have hD : va_D A [(m0, .inr (5, [.int fa, .ref r1, .ref r2, .ref r3, .ref r4, .ref r5, .int rw, .ref r6, .ref r7, .ref r8, .int gw, .ref r9, .ref r10, .ref r11, .ref r12, .ref r13, .ref r14, .ref r15, .ref r16])), (r1, .inl (cI, 80, .inl K)), (r2, .inl (cI, 80, .inl O)), (r3, .inl (cI, 80, .inl T)), (r4, .inl (cI, 80, .inl Z)), (r5, .inl (cI, 2, .inl Sz)), (r6, .inl (cZ, 40, .inl Re)), (r7, .inl (cI, 240, .inl Fa)), (r8, .inl (cI, 240, .inl Va)), (r9, .inl (cI, 6, .inl Nf)), (r10, .inl (cI, 6, .inl Nv))] := hD.sub [0, 1, 2, 3, 4, 5, 6, 7, 8, 9, 10] (by decide) rfl
    rcases hw_10 with ⟨he_10, hv_10⟩ | ⟨he_10, hv_10⟩
    · subst he_10
      refine lv_if_eq (tgt := 20) hx hb de_M_constant_13 (by decide) (fun hc => absurd hc (by decide)) (fun _ => ?_)
      refine lv_iconst (v := 0) hx hb de_M_constant_16 (by decide) ?_
      refine lv_goto (tgt := 21) hx hb de_M_constant_17 (by decide) ?_
      refine bc_call_v_i (As := [.int 0]) (rest := []) (wr := [(r1, .inl (cI, 80, .inl K)), (r2, .inl (cI, 80, .inl O)), (r3, .inl (cI, 80, .inl T)), (r4, .inl (cI, 80, .inl Z)), (r5, .inl (cI, 2, .inl Sz)), (r6, .inl (cZ, 40, .inl Re)), (r7, .inl (cI, 240, .inl Fa)), (r8, .inl (cI, 240, .inl Va)), (r9, .inl (cI, 6, .inl Nf)), (r10, .inl (cI, 6, .inl Nv))]) F (co_M_refused) wm_478 wm_6 wm_476 wm_477 wm_630 0 rfl rfl pd_M_refused rfl rfl ⟨Nat.le_of_ble_eq_true rfl, Nat.le_of_ble_eq_true rfl⟩ hP hD hS hA [0] [1, 2, 3, 4, 5, 6, 7, 8, 9, 10] rfl rfl rfl rfl (by decide) rfl hl.1 rfl (Nat.le_of_ble_eq_true rfl) de_M_constant_21 ⟨Nat.le_of_ble_eq_true rfl, Nat.le_of_ble_eq_true rfl⟩ (fun r_21 u_21 H locs hw_21 hP hD hS => ?_)
      have hP : va_P (dC, dI) classes [(m0, .inr (5, [.int 0, .ref r1, .ref r2, .ref r3, .ref r4, .ref r5, .int rw, .ref r6, .ref r7, .ref r8, .int gw, .ref r9, .ref r10, .ref r11, .ref r12, .ref r13, .ref r14, .ref r15, .ref r16])), (r1, .inl (cI, 80, .inl K)), (r2, .inl (cI, 80, .inl O)), (r3, .inl (cI, 80, .inl T)), (r4, .inl (cI, 80, .inl Z)), (r5, .inl (cI, 2, .inl Sz)), (r6, .inl (cZ, 40, .inl Re)), (r7, .inl (cI, 240, .inl Fa)), (r8, .inl (cI, 240, .inl Va)), (r9, .inl (cI, 6, .inl Nf)), (r10, .inl (cI, 6, .inl Nv))] H := hP.sub [10, 0, 1, 2, 3, 4, 5, 6, 7, 8, 9] rfl
      have hD : va_D A [(m0, .inr (5, [.int 0, .ref r1, .ref r2, .ref r3, .ref r4, .ref r5, .int rw, .ref r6, .ref r7, .ref r8, .int gw, .ref r9, .ref r10, .ref r11, .ref r12, .ref r13, .ref r14, .ref r15, .ref r16])), (r1, .inl (cI, 80, .inl K)), (r2, .inl (cI, 80, .inl O)), (r3, .inl (cI, 80, .inl T)), (r4, .inl (cI, 80, .inl Z)), (r5, .inl (cI, 2, .inl Sz)), (r6, .inl (cZ, 40, .inl Re)), (r7, .inl (cI, 240, .inl Fa)), (r8, .inl (cI, 240, .inl Va)), (r9, .inl (cI, 6, .inl Nf)), (r10, .inl (cI, 6, .inl Nv))] := hD.sub [10, 0, 1, 2, 3, 4, 5, 6, 7, 8, 9] (by decide) rfl
      rcases hw_21 with ⟨he_21, hv_21⟩ | ⟨he_21, hv_21⟩
      · subst he_21
        exact absurd (by decide) hv_21
      · subst he_21
        refine lv_if_eq (tgt := 29) hx hb de_M_constant_24 (by decide) (fun _ => ?_) (fun hc => absurd (by decide) hc)
        obtain ⟨j, hj, ej⟩ := hv_3
        subst ej
        obtain ⟨v, hv, ev⟩ := hv_10
        subst ev
        refine lv_aload_n hx hb de_M_constant_29 rfl (lv_at hl 0 rfl) ?_
        refine bc_call_v_v (As := []) (rest := []) (wr := []) F (co_M_analyse hn (by omega) hSz (bc_rq_wf hR.2.1 hAB.2.1)) wm_502 wm_6 wm_500 wm_501 wm_634 0 rfl rfl pd_M_analyse rfl rfl ⟨Nat.le_of_ble_eq_true rfl, Nat.le_of_ble_eq_true rfl⟩ hP hD hS hA [0, 1, 2, 3, 4, 5, 6, 7, 8, 9, 10] [] rfl rfl rfl rfl (by decide) rfl hl.1 rfl (Nat.le_of_ble_eq_true rfl) de_M_constant_30 ⟨Nat.le_of_ble_eq_true rfl, Nat.le_of_ble_eq_true rfl⟩ (fun u_30 H locs hw_30 hP hD hS => ?_)
        obtain ⟨R1, F1, V1, A1, B1, w1⟩ := u_30
        try dsimp only at hw_30
        obtain ⟨g1, hen, hre, hL⟩ := hw_30
        have hP : va_P (dC, dI) classes [(m0, .inr (5, [.int 0, .ref r1, .ref r2, .ref r3, .ref r4, .ref r5, .int rw, .ref r6, .ref r7, .ref r8, .int w1, .ref r9, .ref r10, .ref r11, .ref r12, .ref r13, .ref r14, .ref r15, .ref r16])), (r1, .inl (cI, 80, .inl K)), (r2, .inl (cI, 80, .inl O)), (r3, .inl (cI, 80, .inl T)), (r4, .inl (cI, 80, .inl Z)), (r5, .inl (cI, 2, .inl Sz)), (r6, .inl (cZ, 40, .inl R1)), (r7, .inl (cI, 240, .inl F1)), (r8, .inl (cI, 240, .inl V1)), (r9, .inl (cI, 6, .inl A1)), (r10, .inl (cI, 6, .inl B1))] H := hP.sub [0, 1, 2, 3, 4, 5, 6, 7, 8, 9, 10] rfl
        have hD : va_D A [(m0, .inr (5, [.int 0, .ref r1, .ref r2, .ref r3, .ref r4, .ref r5, .int rw, .ref r6, .ref r7, .ref r8, .int w1, .ref r9, .ref r10, .ref r11, .ref r12, .ref r13, .ref r14, .ref r15, .ref r16])), (r1, .inl (cI, 80, .inl K)), (r2, .inl (cI, 80, .inl O)), (r3, .inl (cI, 80, .inl T)), (r4, .inl (cI, 80, .inl Z)), (r5, .inl (cI, 2, .inl Sz)), (r6, .inl (cZ, 40, .inl R1)), (r7, .inl (cI, 240, .inl F1)), (r8, .inl (cI, 240, .inl V1)), (r9, .inl (cI, 6, .inl A1)), (r10, .inl (cI, 6, .inl B1))] := hD.sub [0, 1, 2, 3, 4, 5, 6, 7, 8, 9, 10] (by decide) rfl
        refine lv_aload_n hx hb de_M_constant_33 rfl (lv_at hl 0 rfl) ?_
        refine va_get (D := (dC, dI)) (ci := 5) (v := .ref r6) (C := rc_M) (T := fc_M) (N := 19) hx hb htw wi_M hown hK hP 0 rfl rfl 7 (by decide) (htw _ wm_430) (fun _ h9 => h9) rfl de_M_constant_34 ?_
        refine lv_iload_n hx hb de_M_constant_37 rfl (lv_at hl 1 rfl) ?_
        refine bc_zld (j := j) hx hb hK hP 6 1 rfl rfl (by omega) (by decide) de_M_constant_38 ?_
        refine lv_if_eq (tgt := 71) hx hb de_M_constant_39 (by decide) (fun hc_39 => ?_) (fun hc_39 => ?_)
        · refine lv_iconst (v := 0) hx hb de_M_constant_71 (by decide) ?_
          exact bc_iret F hr hlocks ((0, w1, R1, F1, V1, A1, B1)) (Or.inr ⟨j, hj, rfl, v, hv, rfl, rfl, fun g hg => ((bc_s0_no ((bc_re_b hre (by omega)).symm.trans hc_39)).2).trans ((bc_sim_q (bc_q_all hR.2.1 hL hg j hj)).2 v hv).2⟩) hP hD hS de_M_constant_72
        · refine lv_aload_n hx hb de_M_constant_42 rfl (lv_at hl 0 rfl) ?_
          refine va_get (D := (dC, dI)) (ci := 5) (v := .ref r7) (C := rc_M) (T := fc_M) (N := 19) hx hb htw wi_M hown hK hP 0 rfl rfl 8 (by decide) (htw _ wm_431) (fun _ h9 => h9) rfl de_M_constant_43 ?_
          refine lv_bipush (v := 6) hx hb de_M_constant_46 (by decide) ?_
          refine lv_iload_n hx hb de_M_constant_48 rfl (lv_at hl 1 rfl) ?_
          refine lv_imul hx hb de_M_constant_49 ?_
          refine bc_ti (y := nI (6 * j)) (pk_mul 6 j) ?_
          refine lv_iload_n hx hb de_M_constant_50 rfl (lv_at hl 2 rfl) ?_
          refine lv_iadd hx hb de_M_constant_51 ?_
          refine bc_ti (y := nI ((6 * j) + v)) (nI_add (6 * j) v) ?_
          refine bc_ild (j := (6 * j) + v) hx hb hK hP 7 0 rfl rfl (by omega) (by decide) de_M_constant_52 ?_
          refine lv_iconst (v := 2) hx hb de_M_constant_53 (by decide) ?_
          refine lv_icmp_ne (tgt := 71) hx hb de_M_constant_54 (by decide) (fun hc_54 => ?_) (fun hc_54 => ?_)
          · refine lv_iconst (v := 0) hx hb de_M_constant_71 (by decide) ?_
            exact bc_iret F hr hlocks ((0, w1, R1, F1, V1, A1, B1)) (Or.inr ⟨j, hj, rfl, v, hv, rfl, rfl, fun g hg => ((bc_c0_n2 (by rw [← (hen j (by omega) v hv).1]; exact hc_54))).trans ((bc_sim_q (bc_q_all hR.2.1 hL hg j hj)).2 v hv).2⟩) hP hD hS de_M_constant_72
          · refine lv_aload_n hx hb de_M_constant_57 rfl (lv_at hl 0 rfl) ?_
            refine va_get (D := (dC, dI)) (ci := 5) (v := .ref r8) (C := rc_M) (T := fc_M) (N := 19) hx hb htw wi_M hown hK hP 0 rfl rfl 9 (by decide) (htw _ wm_432) (fun _ h9 => h9) rfl de_M_constant_58 ?_
            refine lv_bipush (v := 6) hx hb de_M_constant_61 (by decide) ?_
            refine lv_iload_n hx hb de_M_constant_63 rfl (lv_at hl 1 rfl) ?_
            refine lv_imul hx hb de_M_constant_64 ?_
            refine bc_ti (y := nI (6 * j)) (pk_mul 6 j) ?_
            refine lv_iload_n hx hb de_M_constant_65 rfl (lv_at hl 2 rfl) ?_
            refine lv_iadd hx hb de_M_constant_66 ?_
            refine bc_ti (y := nI ((6 * j) + v)) (nI_add (6 * j) v) ?_
            refine bc_ild (j := (6 * j) + v) hx hb hK hP 8 0 rfl rfl (by omega) (by decide) de_M_constant_67 ?_
            refine lv_goto (tgt := 72) hx hb de_M_constant_68 (by decide) ?_
            exact bc_iret F hr hlocks ((0, w1, R1, F1, V1, A1, B1)) (Or.inr ⟨j, hj, rfl, v, hv, rfl, rfl, fun g hg => ((hen j (by omega) v hv).2).trans ((bc_sim_q (bc_q_all hR.2.1 hL hg j hj)).2 v hv).2⟩) hP hD hS de_M_constant_72
    · subst he_10
      refine lv_if_eq (tgt := 20) hx hb de_M_constant_13 (by decide) (fun _ => ?_) (fun hc => absurd (by decide) hc)
      refine lv_iconst (v := 1) hx hb de_M_constant_20 (by decide) ?_
      refine bc_call_v_i (As := [.int 1]) (rest := []) (wr := [(r1, .inl (cI, 80, .inl K)), (r2, .inl (cI, 80, .inl O)), (r3, .inl (cI, 80, .inl T)), (r4, .inl (cI, 80, .inl Z)), (r5, .inl (cI, 2, .inl Sz)), (r6, .inl (cZ, 40, .inl Re)), (r7, .inl (cI, 240, .inl Fa)), (r8, .inl (cI, 240, .inl Va)), (r9, .inl (cI, 6, .inl Nf)), (r10, .inl (cI, 6, .inl Nv))]) F (co_M_refused) wm_478 wm_6 wm_476 wm_477 wm_630 0 rfl rfl pd_M_refused rfl rfl ⟨Nat.le_of_ble_eq_true rfl, Nat.le_of_ble_eq_true rfl⟩ hP hD hS hA [0] [1, 2, 3, 4, 5, 6, 7, 8, 9, 10] rfl rfl rfl rfl (by decide) rfl hl.1 rfl (Nat.le_of_ble_eq_true rfl) de_M_constant_21 ⟨Nat.le_of_ble_eq_true rfl, Nat.le_of_ble_eq_true rfl⟩ (fun r_21 u_21 H locs hw_21 hP hD hS => ?_)
      have hP : va_P (dC, dI) classes [(m0, .inr (5, [.int 1, .ref r1, .ref r2, .ref r3, .ref r4, .ref r5, .int rw, .ref r6, .ref r7, .ref r8, .int gw, .ref r9, .ref r10, .ref r11, .ref r12, .ref r13, .ref r14, .ref r15, .ref r16])), (r1, .inl (cI, 80, .inl K)), (r2, .inl (cI, 80, .inl O)), (r3, .inl (cI, 80, .inl T)), (r4, .inl (cI, 80, .inl Z)), (r5, .inl (cI, 2, .inl Sz)), (r6, .inl (cZ, 40, .inl Re)), (r7, .inl (cI, 240, .inl Fa)), (r8, .inl (cI, 240, .inl Va)), (r9, .inl (cI, 6, .inl Nf)), (r10, .inl (cI, 6, .inl Nv))] H := hP.sub [10, 0, 1, 2, 3, 4, 5, 6, 7, 8, 9] rfl
      have hD : va_D A [(m0, .inr (5, [.int 1, .ref r1, .ref r2, .ref r3, .ref r4, .ref r5, .int rw, .ref r6, .ref r7, .ref r8, .int gw, .ref r9, .ref r10, .ref r11, .ref r12, .ref r13, .ref r14, .ref r15, .ref r16])), (r1, .inl (cI, 80, .inl K)), (r2, .inl (cI, 80, .inl O)), (r3, .inl (cI, 80, .inl T)), (r4, .inl (cI, 80, .inl Z)), (r5, .inl (cI, 2, .inl Sz)), (r6, .inl (cZ, 40, .inl Re)), (r7, .inl (cI, 240, .inl Fa)), (r8, .inl (cI, 240, .inl Va)), (r9, .inl (cI, 6, .inl Nf)), (r10, .inl (cI, 6, .inl Nv))] := hD.sub [10, 0, 1, 2, 3, 4, 5, 6, 7, 8, 9] (by decide) rfl
      rcases hw_21 with ⟨he_21, hv_21⟩ | ⟨he_21, hv_21⟩
      · subst he_21
        refine lv_if_eq (tgt := 29) hx hb de_M_constant_24 (by decide) (fun hc => absurd hc (by decide)) (fun _ => ?_)
        refine lv_iconst (v := 0) hx hb de_M_constant_27 (by decide) ?_
        exact bc_iret F hr hlocks ((1, gw, Re, Fa, Va, Nf, Nv)) (Or.inl ⟨fun z => hv_10 z.2, rfl⟩) hP hD hS de_M_constant_28
      · subst he_21
        exact absurd hv_21 (by decide)
  · subst he_3
    refine lv_if_eq (tgt := 20) hx hb de_M_constant_6 (by decide) (fun _ => ?_) (fun hc => absurd (by decide) hc)
    refine lv_iconst (v := 1) hx hb de_M_constant_20 (by decide) ?_
    refine bc_call_v_i (As := [.int 1]) (rest := []) (wr := [(r1, .inl (cI, 80, .inl K)), (r2, .inl (cI, 80, .inl O)), (r3, .inl (cI, 80, .inl T)), (r4, .inl (cI, 80, .inl Z)), (r5, .inl (cI, 2, .inl Sz)), (r6, .inl (cZ, 40, .inl Re)), (r7, .inl (cI, 240, .inl Fa)), (r8, .inl (cI, 240, .inl Va)), (r9, .inl (cI, 6, .inl Nf)), (r10, .inl (cI, 6, .inl Nv))]) F (co_M_refused) wm_478 wm_6 wm_476 wm_477 wm_630 0 rfl rfl pd_M_refused rfl rfl ⟨Nat.le_of_ble_eq_true rfl, Nat.le_of_ble_eq_true rfl⟩ hP hD hS hA [0] [1, 2, 3, 4, 5, 6, 7, 8, 9, 10] rfl rfl rfl rfl (by decide) rfl hl.1 rfl (Nat.le_of_ble_eq_true rfl) de_M_constant_21 ⟨Nat.le_of_ble_eq_true rfl, Nat.le_of_ble_eq_true rfl⟩ (fun r_21 u_21 H locs hw_21 hP hD hS => ?_)
    have hP : va_P (dC, dI) classes [(m0, .inr (5, [.int 1, .ref r1, .ref r2, .ref r3, .ref r4, .ref r5, .int rw, .ref r6, .ref r7, .ref r8, .int gw, .ref r9, .ref r10, .ref r11, .ref r12, .ref r13, .ref r14, .ref r15, .ref r16])), (r1, .inl (cI, 80, .inl K)), (r2, .inl (cI, 80, .inl O)), (r3, .inl (cI, 80, .inl T)), (r4, .inl (cI, 80, .inl Z)), (r5, .inl (cI, 2, .inl Sz)), (r6, .inl (cZ, 40, .inl Re)), (r7, .inl (cI, 240, .inl Fa)), (r8, .inl (cI, 240, .inl Va)), (r9, .inl (cI, 6, .inl Nf)), (r10, .inl (cI, 6, .inl Nv))] H := hP.sub [10, 0, 1, 2, 3, 4, 5, 6, 7, 8, 9] rfl
    have hD : va_D A [(m0, .inr (5, [.int 1, .ref r1, .ref r2, .ref r3, .ref r4, .ref r5, .int rw, .ref r6, .ref r7, .ref r8, .int gw, .ref r9, .ref r10, .ref r11, .ref r12, .ref r13, .ref r14, .ref r15, .ref r16])), (r1, .inl (cI, 80, .inl K)), (r2, .inl (cI, 80, .inl O)), (r3, .inl (cI, 80, .inl T)), (r4, .inl (cI, 80, .inl Z)), (r5, .inl (cI, 2, .inl Sz)), (r6, .inl (cZ, 40, .inl Re)), (r7, .inl (cI, 240, .inl Fa)), (r8, .inl (cI, 240, .inl Va)), (r9, .inl (cI, 6, .inl Nf)), (r10, .inl (cI, 6, .inl Nv))] := hD.sub [10, 0, 1, 2, 3, 4, 5, 6, 7, 8, 9] (by decide) rfl
    rcases hw_21 with ⟨he_21, hv_21⟩ | ⟨he_21, hv_21⟩
    · subst he_21
      refine lv_if_eq (tgt := 29) hx hb de_M_constant_24 (by decide) (fun hc => absurd hc (by decide)) (fun _ => ?_)
      refine lv_iconst (v := 0) hx hb de_M_constant_27 (by decide) ?_
      exact bc_iret F hr hlocks ((1, gw, Re, Fa, Va, Nf, Nv)) (Or.inl ⟨fun z => hv_3 z.1, rfl⟩) hP hD hS de_M_constant_28
    · subst he_21
      exact absurd hv_21 (by decide)

set_option maxHeartbeats 4000000 in
set_option maxRecDepth 100000 in
/-- reachedAll -/
theorem co_M_reachedAll {l : Launch} {dC : Nat → ClassId} {dI : Nat → Nat → Nat} {cI cZ : ClassId} {sz : Nat} {m0 r1 r2 r3 r4 r5 r6 r7 r8 r9 r10 r11 r12 r13 r14 r15 r16 : Nat} {K O T Z Sz On Pl Sp Vr Re Fa Va Nf Nv : bc_F} {fa rw gw : Int32} {n n2 : Nat} {P Q X : Nat → bc_F} {ON PL SP : bc_F} {ra : Int32} (hAB : bc_AB n P ra n2 Q ON PL SP) (hR : bc_MR n P ra n2 Q ON PL SP X K O T Z Sz On Pl Sp Vr rw) (h0 : 0 < n) : Met l yn_M_reachedAll (Cond.code yn_M_reachedAll by_M_reachedAll 3 (some FieldType.int) :: wd_all) ({ frames := 4, cells := 0, slots := 0, locals := 93 } : Room) (bc_Pre (dC, dI) classes [(cI, .int), (cZ, .boolean)] [.ref m0] [(m0, .inr (5, [.int fa, .ref r1, .ref r2, .ref r3, .ref r4, .ref r5, .int rw, .ref r6, .ref r7, .ref r8, .int gw, .ref r9, .ref r10, .ref r11, .ref r12, .ref r13, .ref r14, .ref r15, .ref r16])), (r1, .inl (cI, 80, .inl K)), (r2, .inl (cI, 80, .inl O)), (r3, .inl (cI, 80, .inl T)), (r4, .inl (cI, 80, .inl Z)), (r5, .inl (cI, 2, .inl Sz)), (r6, .inl (cZ, 40, .inl Re)), (r7, .inl (cI, 240, .inl Fa)), (r8, .inl (cI, 240, .inl Va)), (r9, .inl (cI, 6, .inl Nf)), (r10, .inl (cI, 6, .inl Nv))] sz) (va_Qi (fun (r : Int32) (u : Int32 × Int32 × bc_F × bc_F × bc_F × bc_F × bc_F) => u.1 = 0 ∧ ∀ g, bc_Lst n (P 1) (P 2) (P 3) (P 4) g → r = nI (bc_nb g n)) (fun (u : Int32 × Int32 × bc_F × bc_F × bc_F × bc_F × bc_F) t => bc_B (dC, dI) classes [(cI, .int), (cZ, .boolean)] (va_A [(m0, .inr (5, [.int fa, .ref r1, .ref r2, .ref r3, .ref r4, .ref r5, .int rw, .ref r6, .ref r7, .ref r8, .int gw, .ref r9, .ref r10, .ref r11, .ref r12, .ref r13, .ref r14, .ref r15, .ref r16])), (r1, .inl (cI, 80, .inl K)), (r2, .inl (cI, 80, .inl O)), (r3, .inl (cI, 80, .inl T)), (r4, .inl (cI, 80, .inl Z)), (r5, .inl (cI, 2, .inl Sz)), (r6, .inl (cZ, 40, .inl Re)), (r7, .inl (cI, 240, .inl Fa)), (r8, .inl (cI, 240, .inl Va)), (r9, .inl (cI, 6, .inl Nf)), (r10, .inl (cI, 6, .inl Nv))] sz) [(m0, .inr (5, [.int u.1, .ref r1, .ref r2, .ref r3, .ref r4, .ref r5, .int rw, .ref r6, .ref r7, .ref r8, .int u.2.1, .ref r9, .ref r10, .ref r11, .ref r12, .ref r13, .ref r14, .ref r15, .ref r16])), (r1, .inl (cI, 80, .inl K)), (r2, .inl (cI, 80, .inl O)), (r3, .inl (cI, 80, .inl T)), (r4, .inl (cI, 80, .inl Z)), (r5, .inl (cI, 2, .inl Sz)), (r6, .inl (cZ, 40, .inl u.2.2.1)), (r7, .inl (cI, 240, .inl u.2.2.2.1)), (r8, .inl (cI, 240, .inl u.2.2.2.2.1)), (r9, .inl (cI, 6, .inl u.2.2.2.2.2.1)), (r10, .inl (cI, 6, .inl u.2.2.2.2.2.2))] t) ((va_A [(m0, .inr (5, [.int fa, .ref r1, .ref r2, .ref r3, .ref r4, .ref r5, .int rw, .ref r6, .ref r7, .ref r8, .int gw, .ref r9, .ref r10, .ref r11, .ref r12, .ref r13, .ref r14, .ref r15, .ref r16])), (r1, .inl (cI, 80, .inl K)), (r2, .inl (cI, 80, .inl O)), (r3, .inl (cI, 80, .inl T)), (r4, .inl (cI, 80, .inl Z)), (r5, .inl (cI, 2, .inl Sz)), (r6, .inl (cZ, 40, .inl Re)), (r7, .inl (cI, 240, .inl Fa)), (r8, .inl (cI, 240, .inl Va)), (r9, .inl (cI, 6, .inl Nf)), (r10, .inl (cI, 6, .inl Nv))] sz))) 0 0 (va_A [(m0, .inr (5, [.int fa, .ref r1, .ref r2, .ref r3, .ref r4, .ref r5, .int rw, .ref r6, .ref r7, .ref r8, .int gw, .ref r9, .ref r10, .ref r11, .ref r12, .ref r13, .ref r14, .ref r15, .ref r16])), (r1, .inl (cI, 80, .inl K)), (r2, .inl (cI, 80, .inl O)), (r3, .inl (cI, 80, .inl T)), (r4, .inl (cI, 80, .inl Z)), (r5, .inl (cI, 2, .inl Sz)), (r6, .inl (cZ, 40, .inl Re)), (r7, .inl (cI, 240, .inl Fa)), (r8, .inl (cI, 240, .inl Va)), (r9, .inl (cI, 6, .inl Nf)), (r10, .inl (cI, 6, .inl Nv))] sz) := by
  refine bc_met (fun A => va_Qi (fun (r : Int32) (u : Int32 × Int32 × bc_F × bc_F × bc_F × bc_F × bc_F) => u.1 = 0 ∧ ∀ g, bc_Lst n (P 1) (P 2) (P 3) (P 4) g → r = nI (bc_nb g n)) (fun (u : Int32 × Int32 × bc_F × bc_F × bc_F × bc_F × bc_F) t => bc_B (dC, dI) classes [(cI, .int), (cZ, .boolean)] A [(m0, .inr (5, [.int u.1, .ref r1, .ref r2, .ref r3, .ref r4, .ref r5, .int rw, .ref r6, .ref r7, .ref r8, .int u.2.1, .ref r9, .ref r10, .ref r11, .ref r12, .ref r13, .ref r14, .ref r15, .ref r16])), (r1, .inl (cI, 80, .inl K)), (r2, .inl (cI, 80, .inl O)), (r3, .inl (cI, 80, .inl T)), (r4, .inl (cI, 80, .inl Z)), (r5, .inl (cI, 2, .inl Sz)), (r6, .inl (cZ, 40, .inl u.2.2.1)), (r7, .inl (cI, 240, .inl u.2.2.2.1)), (r8, .inl (cI, 240, .inl u.2.2.2.2.1)), (r9, .inl (cI, 6, .inl u.2.2.2.2.2.1)), (r10, .inl (cI, 6, .inl u.2.2.2.2.2.2))] t) A) (by decide) (Nat.le_of_ble_eq_true rfl) ?_
  intro p e s m args below meth c A ls F hr hlocks hin hA hP hD hl hS
  have hx := F.1
  have hb := F.2.1
  have hml := F.2.2.1
  have hown : s.vm.findClass "BranchConstantsModel" = some m.cls := F.2.2.2.1
  have htw := F.2.2.2.2.1
  have hN := F.2.2.2.2.2.1
  have hK := F.2.2.2.2.2.2
  have hl : lv_has ls 3 [(0, .ref m0)] := hl
  have hn := hAB.1
  have hSz := hR.1
  refine lv_aload_n hx hb de_M_reachedAll_0 rfl (lv_at hl 0 rfl) ?_
  refine lv_iconst (v := 0) hx hb de_M_reachedAll_1 (by decide) ?_
  refine va_put (D := (dC, dI)) (ci := 5) (v := .int 0) (ty := .int) (C := rc_M) (T := fc_M) (N := 19) hx hb htw wi_M tc_M tc_M_ok nc_M hown hK hP hD hS 0 rfl rfl 0 (by decide) (htw _ wm_423) (fun _ h9 => h9) rfl (by decide +kernel) rfl rfl (Nat.le_of_ble_eq_true rfl) de_M_reachedAll_2 (fun H locs hP hD hS => ?_)
  have hP : va_P (dC, dI) classes [(m0, .inr (5, [.int 0, .ref r1, .ref r2, .ref r3, .ref r4, .ref r5, .int rw, .ref r6, .ref r7, .ref r8, .int gw, .ref r9, .ref r10, .ref r11, .ref r12, .ref r13, .ref r14, .ref r15, .ref r16])), (r1, .inl (cI, 80, .inl K)), (r2, .inl (cI, 80, .inl O)), (r3, .inl (cI, 80, .inl T)), (r4, .inl (cI, 80, .inl Z)), (r5, .inl (cI, 2, .inl Sz)), (r6, .inl (cZ, 40, .inl Re)), (r7, .inl (cI, 240, .inl Fa)), (r8, .inl (cI, 240, .inl Va)), (r9, .inl (cI, 6, .inl Nf)), (r10, .inl (cI, 6, .inl Nv))] H := hP
  have hD : va_D A [(m0, .inr (5, [.int 0, .ref r1, .ref r2, .ref r3, .ref r4, .ref r5, .int rw, .ref r6, .ref r7, .ref r8, .int gw, .ref r9, .ref r10, .ref r11, .ref r12, .ref r13, .ref r14, .ref r15, .ref r16])), (r1, .inl (cI, 80, .inl K)), (r2, .inl (cI, 80, .inl O)), (r3, .inl (cI, 80, .inl T)), (r4, .inl (cI, 80, .inl Z)), (r5, .inl (cI, 2, .inl Sz)), (r6, .inl (cZ, 40, .inl Re)), (r7, .inl (cI, 240, .inl Fa)), (r8, .inl (cI, 240, .inl Va)), (r9, .inl (cI, 6, .inl Nf)), (r10, .inl (cI, 6, .inl Nv))] := hD
  refine lv_aload_n hx hb de_M_reachedAll_5 rfl (lv_at hl 0 rfl) ?_
  refine bc_call_v_v (As := []) (rest := []) (wr := []) F (co_M_analyse hn h0 hSz (bc_rq_wf hR.2.1 hAB.2.1)) wm_502 wm_6 wm_500 wm_501 wm_634 0 rfl rfl pd_M_analyse rfl rfl ⟨Nat.le_of_ble_eq_true rfl, Nat.le_of_ble_eq_true rfl⟩ hP hD hS hA [0, 1, 2, 3, 4, 5, 6, 7, 8, 9, 10] [] rfl rfl rfl rfl (by decide) rfl hl.1 rfl (Nat.le_of_ble_eq_true rfl) de_M_reachedAll_6 ⟨Nat.le_of_ble_eq_true rfl, Nat.le_of_ble_eq_true rfl⟩ (fun u_6 H locs hw_6 hP hD hS => ?_)
  obtain ⟨R1, F1, V1, A1, B1, w1⟩ := u_6
  try dsimp only at hw_6
  obtain ⟨g1, hen, hre, hL⟩ := hw_6
  have hP : va_P (dC, dI) classes [(m0, .inr (5, [.int 0, .ref r1, .ref r2, .ref r3, .ref r4, .ref r5, .int rw, .ref r6, .ref r7, .ref r8, .int w1, .ref r9, .ref r10, .ref r11, .ref r12, .ref r13, .ref r14, .ref r15, .ref r16])), (r1, .inl (cI, 80, .inl K)), (r2, .inl (cI, 80, .inl O)), (r3, .inl (cI, 80, .inl T)), (r4, .inl (cI, 80, .inl Z)), (r5, .inl (cI, 2, .inl Sz)), (r6, .inl (cZ, 40, .inl R1)), (r7, .inl (cI, 240, .inl F1)), (r8, .inl (cI, 240, .inl V1)), (r9, .inl (cI, 6, .inl A1)), (r10, .inl (cI, 6, .inl B1))] H := hP.sub [0, 1, 2, 3, 4, 5, 6, 7, 8, 9, 10] rfl
  have hD : va_D A [(m0, .inr (5, [.int 0, .ref r1, .ref r2, .ref r3, .ref r4, .ref r5, .int rw, .ref r6, .ref r7, .ref r8, .int w1, .ref r9, .ref r10, .ref r11, .ref r12, .ref r13, .ref r14, .ref r15, .ref r16])), (r1, .inl (cI, 80, .inl K)), (r2, .inl (cI, 80, .inl O)), (r3, .inl (cI, 80, .inl T)), (r4, .inl (cI, 80, .inl Z)), (r5, .inl (cI, 2, .inl Sz)), (r6, .inl (cZ, 40, .inl R1)), (r7, .inl (cI, 240, .inl F1)), (r8, .inl (cI, 240, .inl V1)), (r9, .inl (cI, 6, .inl A1)), (r10, .inl (cI, 6, .inl B1))] := hD.sub [0, 1, 2, 3, 4, 5, 6, 7, 8, 9, 10] (by decide) rfl
  refine lv_iconst (v := 0) hx hb de_M_reachedAll_9 (by decide) ?_
  refine bc_ti (y := nI (bc_nb g1 0)) nI_0.symm ?_
  refine lv_istore_n (lv' := [(1, .int (nI (bc_nb g1 0))), (0, .ref m0)]) hx hb de_M_reachedAll_10 rfl hl (by decide) rfl (fun ls hl => ?_)
  refine lv_iconst (v := 0) hx hb de_M_reachedAll_11 (by decide) ?_
  refine bc_ti (y := nI 0) nI_0.symm ?_
  refine lv_istore_n (lv' := [(2, .int (nI 0)), (1, .int (nI (bc_nb g1 0))), (0, .ref m0)]) hx hb de_M_reachedAll_12 rfl hl (by decide) rfl (fun ls hl => ?_)
  refine bc_loop (fun k_13 H locs ls => ∃ (i : Nat), lv_has ls 3 [(2, .int (nI i)), (1, .int (nI (bc_nb g1 i))), (0, .ref m0)] ∧ va_P (dC, dI) classes [(m0, .inr (5, [.int 0, .ref r1, .ref r2, .ref r3, .ref r4, .ref r5, .int rw, .ref r6, .ref r7, .ref r8, .int w1, .ref r9, .ref r10, .ref r11, .ref r12, .ref r13, .ref r14, .ref r15, .ref r16])), (r1, .inl (cI, 80, .inl K)), (r2, .inl (cI, 80, .inl O)), (r3, .inl (cI, 80, .inl T)), (r4, .inl (cI, 80, .inl Z)), (r5, .inl (cI, 2, .inl Sz)), (r6, .inl (cZ, 40, .inl R1)), (r7, .inl (cI, 240, .inl F1)), (r8, .inl (cI, 240, .inl V1)), (r9, .inl (cI, 6, .inl A1)), (r10, .inl (cI, 6, .inl B1))] H ∧ va_D A [(m0, .inr (5, [.int 0, .ref r1, .ref r2, .ref r3, .ref r4, .ref r5, .int rw, .ref r6, .ref r7, .ref r8, .int w1, .ref r9, .ref r10, .ref r11, .ref r12, .ref r13, .ref r14, .ref r15, .ref r16])), (r1, .inl (cI, 80, .inl K)), (r2, .inl (cI, 80, .inl O)), (r3, .inl (cI, 80, .inl T)), (r4, .inl (cI, 80, .inl Z)), (r5, .inl (cI, 2, .inl Sz)), (r6, .inl (cZ, 40, .inl R1)), (r7, .inl (cI, 240, .inl F1)), (r8, .inl (cI, 240, .inl V1)), (r9, .inl (cI, 6, .inl A1)), (r10, .inl (cI, 6, .inl B1))] ∧ va_S A s.heap H locs ∧ k_13 = n - i ∧ (i ≤ n)) ?_ ?_
  · rintro k_13 H locs ls ⟨i, hl, hP, hD, hS, hk_13, hi⟩ ih_13
    refine lv_iload_n hx hb de_M_reachedAll_13 rfl (lv_at hl 0 rfl) ?_
    refine lv_aload_n hx hb de_M_reachedAll_14 rfl (lv_at hl 2 rfl) ?_
    refine va_get (D := (dC, dI)) (ci := 5) (v := .ref r5) (C := rc_M) (T := fc_M) (N := 19) hx hb htw wi_M hown hK hP 0 rfl rfl 5 (by decide) (htw _ wm_428) (fun _ h9 => h9) rfl de_M_reachedAll_15 ?_
    refine lv_iconst (v := 0) hx hb de_M_reachedAll_18 (by decide) ?_
    refine bc_ildE (by decide) (j := 0) hx hb hK hP 5 0 rfl rfl (by omega) (by decide) de_M_reachedAll_19 ?_
    refine bc_ti (y := nI n) hSz ?_
    refine lv_icmp_ge (tgt := 46) hx hb de_M_reachedAll_20 (by decide) (fun hc_20 => ?_) (fun hc_20 => ?_)
    · have heq : i = n := by have := bc_ge (by omega) (by omega) hc_20; omega
      refine lv_iload_n hx hb de_M_reachedAll_46 rfl (lv_at hl 1 rfl) ?_
      exact bc_iret F hr hlocks ((0, w1, R1, F1, V1, A1, B1)) ⟨rfl, fun g hg => by rw [heq]; exact congrArg nI (bc_nb_cg n (bc_q_all hR.2.1 hL hg))⟩ hP hD hS de_M_reachedAll_47
    · have hlt : i < n := bc_lt (by omega) (by omega) hc_20
      refine lv_aload_n hx hb de_M_reachedAll_23 rfl (lv_at hl 2 rfl) ?_
      refine va_get (D := (dC, dI)) (ci := 5) (v := .ref r6) (C := rc_M) (T := fc_M) (N := 19) hx hb htw wi_M hown hK hP 0 rfl rfl 7 (by decide) (htw _ wm_430) (fun _ h9 => h9) rfl de_M_reachedAll_24 ?_
      refine lv_iload_n hx hb de_M_reachedAll_27 rfl (lv_at hl 0 rfl) ?_
      refine bc_zld (j := i) hx hb hK hP 6 1 rfl rfl (by omega) (by decide) de_M_reachedAll_28 ?_
      refine lv_if_eq (tgt := 38) hx hb de_M_reachedAll_29 (by decide) (fun hc_29 => ?_) (fun hc_29 => ?_)
      · refine lv_iload_n hx hb de_M_reachedAll_38 rfl (lv_at hl 1 rfl) ?_
        refine bc_ti (y := nI (bc_nb g1 (i + 1))) (congrArg nI (bc_nb_0 (by rw [← bc_re_b hre (by omega)]; exact hc_29)).symm) ?_
        refine lv_istore_n (lv' := [(1, .int (nI (bc_nb g1 (i + 1)))), (2, .int (nI i)), (0, .ref m0)]) hx hb de_M_reachedAll_39 rfl hl (by decide) rfl (fun ls hl => ?_)
        refine lv_iinc (k := 1) (v := nI (i + 1)) (lv' := [(2, .int (nI (i + 1))), (1, .int (nI (bc_nb g1 (i + 1)))), (0, .ref m0)]) hx hb de_M_reachedAll_40 hl rfl (bc_inc _) (by decide) rfl (fun ls hl => ?_)
        refine lv_goto (tgt := 13) hx hb de_M_reachedAll_43 (by decide) ?_
        exact ih_13 _ _ _ _ (by omega) ⟨(i + 1), lv_sub hl [0, 1, 2] rfl, hP, hD, hS, rfl, (by omega)⟩
      · refine lv_iload_n hx hb de_M_reachedAll_32 rfl (lv_at hl 1 rfl) ?_
        refine lv_iconst (v := 1) hx hb de_M_reachedAll_33 (by decide) ?_
        refine lv_iadd hx hb de_M_reachedAll_34 ?_
        refine bc_ti (y := nI (bc_nb g1 (i + 1))) ((nI_1 _).trans (congrArg nI (bc_nb_1 (by rw [← bc_re_b hre (by omega)]; exact hc_29)).symm)) ?_
        refine lv_goto (tgt := 39) hx hb de_M_reachedAll_35 (by decide) ?_
        refine lv_istore_n (lv' := [(1, .int (nI (bc_nb g1 (i + 1)))), (2, .int (nI i)), (0, .ref m0)]) hx hb de_M_reachedAll_39 rfl hl (by decide) rfl (fun ls hl => ?_)
        refine lv_iinc (k := 1) (v := nI (i + 1)) (lv' := [(2, .int (nI (i + 1))), (1, .int (nI (bc_nb g1 (i + 1)))), (0, .ref m0)]) hx hb de_M_reachedAll_40 hl rfl (bc_inc _) (by decide) rfl (fun ls hl => ?_)
        refine lv_goto (tgt := 13) hx hb de_M_reachedAll_43 (by decide) ?_
        exact ih_13 _ _ _ _ (by omega) ⟨(i + 1), lv_sub hl [0, 1, 2] rfl, hP, hD, hS, rfl, (by omega)⟩
  · exact ⟨_, 0, lv_sub hl [0, 1, 2] rfl, hP, hD, hS, rfl, Nat.zero_le _⟩

set_option maxHeartbeats 4000000 in
set_option maxRecDepth 100000 in
/-- reachedAll of an empty program -/
theorem co_M_reachedAll0 {l : Launch} {dC : Nat → ClassId} {dI : Nat → Nat → Nat} {cI cZ : ClassId} {sz : Nat} {m0 r1 r2 r3 r4 r5 r6 r7 r8 r9 r10 r11 r12 r13 r14 r15 r16 : Nat} {K O T Z Sz Re Fa Va Nf Nv : bc_F} {fa rw gw : Int32} (hSz : Sz 0 = nI 0) : Met l yn_M_reachedAll (Cond.code yn_M_reachedAll by_M_reachedAll 3 (some FieldType.int) :: wd_all) ({ frames := 4, cells := 0, slots := 0, locals := 93 } : Room) (bc_Pre (dC, dI) classes [(cI, .int), (cZ, .boolean)] [.ref m0] [(m0, .inr (5, [.int fa, .ref r1, .ref r2, .ref r3, .ref r4, .ref r5, .int rw, .ref r6, .ref r7, .ref r8, .int gw, .ref r9, .ref r10, .ref r11, .ref r12, .ref r13, .ref r14, .ref r15, .ref r16])), (r1, .inl (cI, 80, .inl K)), (r2, .inl (cI, 80, .inl O)), (r3, .inl (cI, 80, .inl T)), (r4, .inl (cI, 80, .inl Z)), (r5, .inl (cI, 2, .inl Sz)), (r6, .inl (cZ, 40, .inl Re)), (r7, .inl (cI, 240, .inl Fa)), (r8, .inl (cI, 240, .inl Va)), (r9, .inl (cI, 6, .inl Nf)), (r10, .inl (cI, 6, .inl Nv))] sz) (va_Qi (fun (r : Int32) (u : Int32 × Int32 × bc_F × bc_F × bc_F × bc_F × bc_F) => u.1 = 0 ∧ r = nI 0) (fun (u : Int32 × Int32 × bc_F × bc_F × bc_F × bc_F × bc_F) t => bc_B (dC, dI) classes [(cI, .int), (cZ, .boolean)] (va_A [(m0, .inr (5, [.int fa, .ref r1, .ref r2, .ref r3, .ref r4, .ref r5, .int rw, .ref r6, .ref r7, .ref r8, .int gw, .ref r9, .ref r10, .ref r11, .ref r12, .ref r13, .ref r14, .ref r15, .ref r16])), (r1, .inl (cI, 80, .inl K)), (r2, .inl (cI, 80, .inl O)), (r3, .inl (cI, 80, .inl T)), (r4, .inl (cI, 80, .inl Z)), (r5, .inl (cI, 2, .inl Sz)), (r6, .inl (cZ, 40, .inl Re)), (r7, .inl (cI, 240, .inl Fa)), (r8, .inl (cI, 240, .inl Va)), (r9, .inl (cI, 6, .inl Nf)), (r10, .inl (cI, 6, .inl Nv))] sz) [(m0, .inr (5, [.int u.1, .ref r1, .ref r2, .ref r3, .ref r4, .ref r5, .int rw, .ref r6, .ref r7, .ref r8, .int u.2.1, .ref r9, .ref r10, .ref r11, .ref r12, .ref r13, .ref r14, .ref r15, .ref r16])), (r1, .inl (cI, 80, .inl K)), (r2, .inl (cI, 80, .inl O)), (r3, .inl (cI, 80, .inl T)), (r4, .inl (cI, 80, .inl Z)), (r5, .inl (cI, 2, .inl Sz)), (r6, .inl (cZ, 40, .inl u.2.2.1)), (r7, .inl (cI, 240, .inl u.2.2.2.1)), (r8, .inl (cI, 240, .inl u.2.2.2.2.1)), (r9, .inl (cI, 6, .inl u.2.2.2.2.2.1)), (r10, .inl (cI, 6, .inl u.2.2.2.2.2.2))] t) ((va_A [(m0, .inr (5, [.int fa, .ref r1, .ref r2, .ref r3, .ref r4, .ref r5, .int rw, .ref r6, .ref r7, .ref r8, .int gw, .ref r9, .ref r10, .ref r11, .ref r12, .ref r13, .ref r14, .ref r15, .ref r16])), (r1, .inl (cI, 80, .inl K)), (r2, .inl (cI, 80, .inl O)), (r3, .inl (cI, 80, .inl T)), (r4, .inl (cI, 80, .inl Z)), (r5, .inl (cI, 2, .inl Sz)), (r6, .inl (cZ, 40, .inl Re)), (r7, .inl (cI, 240, .inl Fa)), (r8, .inl (cI, 240, .inl Va)), (r9, .inl (cI, 6, .inl Nf)), (r10, .inl (cI, 6, .inl Nv))] sz))) 0 0 (va_A [(m0, .inr (5, [.int fa, .ref r1, .ref r2, .ref r3, .ref r4, .ref r5, .int rw, .ref r6, .ref r7, .ref r8, .int gw, .ref r9, .ref r10, .ref r11, .ref r12, .ref r13, .ref r14, .ref r15, .ref r16])), (r1, .inl (cI, 80, .inl K)), (r2, .inl (cI, 80, .inl O)), (r3, .inl (cI, 80, .inl T)), (r4, .inl (cI, 80, .inl Z)), (r5, .inl (cI, 2, .inl Sz)), (r6, .inl (cZ, 40, .inl Re)), (r7, .inl (cI, 240, .inl Fa)), (r8, .inl (cI, 240, .inl Va)), (r9, .inl (cI, 6, .inl Nf)), (r10, .inl (cI, 6, .inl Nv))] sz) := by
  refine bc_met (fun A => va_Qi (fun (r : Int32) (u : Int32 × Int32 × bc_F × bc_F × bc_F × bc_F × bc_F) => u.1 = 0 ∧ r = nI 0) (fun (u : Int32 × Int32 × bc_F × bc_F × bc_F × bc_F × bc_F) t => bc_B (dC, dI) classes [(cI, .int), (cZ, .boolean)] A [(m0, .inr (5, [.int u.1, .ref r1, .ref r2, .ref r3, .ref r4, .ref r5, .int rw, .ref r6, .ref r7, .ref r8, .int u.2.1, .ref r9, .ref r10, .ref r11, .ref r12, .ref r13, .ref r14, .ref r15, .ref r16])), (r1, .inl (cI, 80, .inl K)), (r2, .inl (cI, 80, .inl O)), (r3, .inl (cI, 80, .inl T)), (r4, .inl (cI, 80, .inl Z)), (r5, .inl (cI, 2, .inl Sz)), (r6, .inl (cZ, 40, .inl u.2.2.1)), (r7, .inl (cI, 240, .inl u.2.2.2.1)), (r8, .inl (cI, 240, .inl u.2.2.2.2.1)), (r9, .inl (cI, 6, .inl u.2.2.2.2.2.1)), (r10, .inl (cI, 6, .inl u.2.2.2.2.2.2))] t) A) (by decide) (Nat.le_of_ble_eq_true rfl) ?_
  intro p e s m args below meth c A ls F hr hlocks hin hA hP hD hl hS
  have hx := F.1
  have hb := F.2.1
  have hml := F.2.2.1
  have hown : s.vm.findClass "BranchConstantsModel" = some m.cls := F.2.2.2.1
  have htw := F.2.2.2.2.1
  have hN := F.2.2.2.2.2.1
  have hK := F.2.2.2.2.2.2
  have hl : lv_has ls 3 [(0, .ref m0)] := hl
  refine lv_aload_n hx hb de_M_reachedAll_0 rfl (lv_at hl 0 rfl) ?_
  refine lv_iconst (v := 0) hx hb de_M_reachedAll_1 (by decide) ?_
  refine va_put (D := (dC, dI)) (ci := 5) (v := .int 0) (ty := .int) (C := rc_M) (T := fc_M) (N := 19) hx hb htw wi_M tc_M tc_M_ok nc_M hown hK hP hD hS 0 rfl rfl 0 (by decide) (htw _ wm_423) (fun _ h9 => h9) rfl (by decide +kernel) rfl rfl (Nat.le_of_ble_eq_true rfl) de_M_reachedAll_2 (fun H locs hP hD hS => ?_)
  have hP : va_P (dC, dI) classes [(m0, .inr (5, [.int 0, .ref r1, .ref r2, .ref r3, .ref r4, .ref r5, .int rw, .ref r6, .ref r7, .ref r8, .int gw, .ref r9, .ref r10, .ref r11, .ref r12, .ref r13, .ref r14, .ref r15, .ref r16])), (r1, .inl (cI, 80, .inl K)), (r2, .inl (cI, 80, .inl O)), (r3, .inl (cI, 80, .inl T)), (r4, .inl (cI, 80, .inl Z)), (r5, .inl (cI, 2, .inl Sz)), (r6, .inl (cZ, 40, .inl Re)), (r7, .inl (cI, 240, .inl Fa)), (r8, .inl (cI, 240, .inl Va)), (r9, .inl (cI, 6, .inl Nf)), (r10, .inl (cI, 6, .inl Nv))] H := hP
  have hD : va_D A [(m0, .inr (5, [.int 0, .ref r1, .ref r2, .ref r3, .ref r4, .ref r5, .int rw, .ref r6, .ref r7, .ref r8, .int gw, .ref r9, .ref r10, .ref r11, .ref r12, .ref r13, .ref r14, .ref r15, .ref r16])), (r1, .inl (cI, 80, .inl K)), (r2, .inl (cI, 80, .inl O)), (r3, .inl (cI, 80, .inl T)), (r4, .inl (cI, 80, .inl Z)), (r5, .inl (cI, 2, .inl Sz)), (r6, .inl (cZ, 40, .inl Re)), (r7, .inl (cI, 240, .inl Fa)), (r8, .inl (cI, 240, .inl Va)), (r9, .inl (cI, 6, .inl Nf)), (r10, .inl (cI, 6, .inl Nv))] := hD
  refine lv_aload_n hx hb de_M_reachedAll_5 rfl (lv_at hl 0 rfl) ?_
  refine bc_call_v_v (As := []) (rest := []) (wr := []) F (co_M_analyse0 hSz) wm_502 wm_6 wm_500 wm_501 wm_634 0 rfl rfl pd_M_analyse rfl rfl ⟨Nat.le_of_ble_eq_true rfl, Nat.le_of_ble_eq_true rfl⟩ hP hD hS hA [0, 1, 2, 3, 4, 5, 6, 7, 8, 9, 10] [] rfl rfl rfl rfl (by decide) rfl hl.1 rfl (Nat.le_of_ble_eq_true rfl) de_M_reachedAll_6 ⟨Nat.le_of_ble_eq_true rfl, Nat.le_of_ble_eq_true rfl⟩ (fun u_6 H locs hw_6 hP hD hS => ?_)
  obtain ⟨R1, F1, V1, A1, B1, w1⟩ := u_6
  try dsimp only at hw_6
  have hP : va_P (dC, dI) classes [(m0, .inr (5, [.int 0, .ref r1, .ref r2, .ref r3, .ref r4, .ref r5, .int rw, .ref r6, .ref r7, .ref r8, .int w1, .ref r9, .ref r10, .ref r11, .ref r12, .ref r13, .ref r14, .ref r15, .ref r16])), (r1, .inl (cI, 80, .inl K)), (r2, .inl (cI, 80, .inl O)), (r3, .inl (cI, 80, .inl T)), (r4, .inl (cI, 80, .inl Z)), (r5, .inl (cI, 2, .inl Sz)), (r6, .inl (cZ, 40, .inl R1)), (r7, .inl (cI, 240, .inl F1)), (r8, .inl (cI, 240, .inl V1)), (r9, .inl (cI, 6, .inl A1)), (r10, .inl (cI, 6, .inl B1))] H := hP.sub [0, 1, 2, 3, 4, 5, 6, 7, 8, 9, 10] rfl
  have hD : va_D A [(m0, .inr (5, [.int 0, .ref r1, .ref r2, .ref r3, .ref r4, .ref r5, .int rw, .ref r6, .ref r7, .ref r8, .int w1, .ref r9, .ref r10, .ref r11, .ref r12, .ref r13, .ref r14, .ref r15, .ref r16])), (r1, .inl (cI, 80, .inl K)), (r2, .inl (cI, 80, .inl O)), (r3, .inl (cI, 80, .inl T)), (r4, .inl (cI, 80, .inl Z)), (r5, .inl (cI, 2, .inl Sz)), (r6, .inl (cZ, 40, .inl R1)), (r7, .inl (cI, 240, .inl F1)), (r8, .inl (cI, 240, .inl V1)), (r9, .inl (cI, 6, .inl A1)), (r10, .inl (cI, 6, .inl B1))] := hD.sub [0, 1, 2, 3, 4, 5, 6, 7, 8, 9, 10] (by decide) rfl
  refine lv_iconst (v := 0) hx hb de_M_reachedAll_9 (by decide) ?_
  refine bc_ti (y := nI 0) nI_0.symm ?_
  refine lv_istore_n (lv' := [(1, .int (nI 0)), (0, .ref m0)]) hx hb de_M_reachedAll_10 rfl hl (by decide) rfl (fun ls hl => ?_)
  refine lv_iconst (v := 0) hx hb de_M_reachedAll_11 (by decide) ?_
  refine bc_ti (y := nI 0) nI_0.symm ?_
  refine lv_istore_n (lv' := [(2, .int (nI 0)), (1, .int (nI 0)), (0, .ref m0)]) hx hb de_M_reachedAll_12 rfl hl (by decide) rfl (fun ls hl => ?_)
  refine lv_iload_n hx hb de_M_reachedAll_13 rfl (lv_at hl 0 rfl) ?_
  refine lv_aload_n hx hb de_M_reachedAll_14 rfl (lv_at hl 2 rfl) ?_
  refine va_get (D := (dC, dI)) (ci := 5) (v := .ref r5) (C := rc_M) (T := fc_M) (N := 19) hx hb htw wi_M hown hK hP 0 rfl rfl 5 (by decide) (htw _ wm_428) (fun _ h9 => h9) rfl de_M_reachedAll_15 ?_
  refine lv_iconst (v := 0) hx hb de_M_reachedAll_18 (by decide) ?_
  refine bc_ildE (by decide) (j := 0) hx hb hK hP 5 0 rfl rfl (by omega) (by decide) de_M_reachedAll_19 ?_
  refine bc_ti (y := nI 0) hSz ?_
  refine lv_icmp_ge (tgt := 46) hx hb de_M_reachedAll_20 (by decide) (fun _ => ?_) (fun hc => absurd (by decide) hc)
  refine lv_iload_n hx hb de_M_reachedAll_46 rfl (lv_at hl 1 rfl) ?_
  exact bc_iret F hr hlocks ((0, w1, R1, F1, V1, A1, B1)) ⟨rfl, rfl⟩ hP hD hS de_M_reachedAll_47

set_option maxHeartbeats 4000000 in
set_option maxRecDepth 100000 in
/-- rewrite -/
theorem co_M_rewrite {l : Launch} {dC : Nat → ClassId} {dI : Nat → Nat → Nat} {cI cZ : ClassId} {sz : Nat} {m0 r1 r2 r3 r4 r5 r6 r7 r8 r9 r10 r11 r12 r13 r14 r15 r16 : Nat} {K O T Z Sz On Pl Sp Vr Re Fa Va Nf Nv St Ld : bc_F} {fa rw gw : Int32} {n n2 : Nat} {P Q X : Nat → bc_F} {ON PL SP : bc_F} {ra : Int32} (hAB : bc_AB n P ra n2 Q ON PL SP) (hR : bc_MR n P ra n2 Q ON PL SP X K O T Z Sz On Pl Sp Vr rw) : Met l yn_M_rewrite (Cond.code yn_M_rewrite by_M_rewrite 1 (some FieldType.int) :: wd_all) ({ frames := 4, cells := 0, slots := 0, locals := 93 } : Room) (bc_Pre (dC, dI) classes [(cI, .int), (cZ, .boolean)] [.ref m0] [(m0, .inr (5, [.int fa, .ref r1, .ref r2, .ref r3, .ref r4, .ref r5, .int rw, .ref r6, .ref r7, .ref r8, .int gw, .ref r9, .ref r10, .ref r11, .ref r12, .ref r13, .ref r14, .ref r15, .ref r16])), (r1, .inl (cI, 80, .inl K)), (r2, .inl (cI, 80, .inl O)), (r3, .inl (cI, 80, .inl T)), (r4, .inl (cI, 80, .inl Z)), (r5, .inl (cI, 2, .inl Sz)), (r6, .inl (cZ, 40, .inl Re)), (r7, .inl (cI, 240, .inl Fa)), (r8, .inl (cI, 240, .inl Va)), (r9, .inl (cI, 6, .inl Nf)), (r10, .inl (cI, 6, .inl Nv)), (r11, .inl (cZ, 41, .inl St)), (r12, .inl (cI, 40, .inl Ld)), (r13, .inl (cZ, 2, .inl On))] sz) (va_Qi (fun (r : Int32) (u : Int32 × Int32 × Int32 × bc_F × bc_F × bc_F × bc_F × bc_F × bc_F × bc_F × bc_F × bc_F × bc_F × bc_F × bc_F × bc_F) => (n = 0 ∧ u.1 = 1 ∧ bc_MR n P ra n2 Q ON PL SP X u.2.2.2.1 u.2.2.2.2.1 u.2.2.2.2.2.1 u.2.2.2.2.2.2.1 u.2.2.2.2.2.2.2.1 u.2.2.2.2.2.2.2.2.2.2.2.2.2.2.2 Pl Sp Vr u.2.1) ∨ (0 < n ∧ u.1 = 0 ∧ ∀ (m2 : Nat) (Q9 : Nat → bc_F), (∃ g, bc_Lst n (P 1) (P 2) (P 3) (P 4) g ∧ bc_RW n (bc_f1 n (P 1) (P 2) (P 3) (P 4) g) m2 (Q9 1) (Q9 2) (Q9 3) (Q9 4)) → r = nI m2 ∧ bc_MR n P 1 m2 Q9 (upd ON 1 0) PL SP X u.2.2.2.1 u.2.2.2.2.1 u.2.2.2.2.2.1 u.2.2.2.2.2.2.1 u.2.2.2.2.2.2.2.1 u.2.2.2.2.2.2.2.2.2.2.2.2.2.2.2 Pl Sp Vr u.2.1)) (fun (u : Int32 × Int32 × Int32 × bc_F × bc_F × bc_F × bc_F × bc_F × bc_F × bc_F × bc_F × bc_F × bc_F × bc_F × bc_F × bc_F) t => bc_B (dC, dI) classes [(cI, .int), (cZ, .boolean)] (va_A [(m0, .inr (5, [.int fa, .ref r1, .ref r2, .ref r3, .ref r4, .ref r5, .int rw, .ref r6, .ref r7, .ref r8, .int gw, .ref r9, .ref r10, .ref r11, .ref r12, .ref r13, .ref r14, .ref r15, .ref r16])), (r1, .inl (cI, 80, .inl K)), (r2, .inl (cI, 80, .inl O)), (r3, .inl (cI, 80, .inl T)), (r4, .inl (cI, 80, .inl Z)), (r5, .inl (cI, 2, .inl Sz)), (r6, .inl (cZ, 40, .inl Re)), (r7, .inl (cI, 240, .inl Fa)), (r8, .inl (cI, 240, .inl Va)), (r9, .inl (cI, 6, .inl Nf)), (r10, .inl (cI, 6, .inl Nv)), (r11, .inl (cZ, 41, .inl St)), (r12, .inl (cI, 40, .inl Ld)), (r13, .inl (cZ, 2, .inl On))] sz) [(m0, .inr (5, [.int u.1, .ref r1, .ref r2, .ref r3, .ref r4, .ref r5, .int u.2.1, .ref r6, .ref r7, .ref r8, .int u.2.2.1, .ref r9, .ref r10, .ref r11, .ref r12, .ref r13, .ref r14, .ref r15, .ref r16])), (r1, .inl (cI, 80, .inl u.2.2.2.1)), (r2, .inl (cI, 80, .inl u.2.2.2.2.1)), (r3, .inl (cI, 80, .inl u.2.2.2.2.2.1)), (r4, .inl (cI, 80, .inl u.2.2.2.2.2.2.1)), (r5, .inl (cI, 2, .inl u.2.2.2.2.2.2.2.1)), (r6, .inl (cZ, 40, .inl u.2.2.2.2.2.2.2.2.1)), (r7, .inl (cI, 240, .inl u.2.2.2.2.2.2.2.2.2.1)), (r8, .inl (cI, 240, .inl u.2.2.2.2.2.2.2.2.2.2.1)), (r9, .inl (cI, 6, .inl u.2.2.2.2.2.2.2.2.2.2.2.1)), (r10, .inl (cI, 6, .inl u.2.2.2.2.2.2.2.2.2.2.2.2.1)), (r11, .inl (cZ, 41, .inl u.2.2.2.2.2.2.2.2.2.2.2.2.2.1)), (r12, .inl (cI, 40, .inl u.2.2.2.2.2.2.2.2.2.2.2.2.2.2.1)), (r13, .inl (cZ, 2, .inl u.2.2.2.2.2.2.2.2.2.2.2.2.2.2.2))] t) ((va_A [(m0, .inr (5, [.int fa, .ref r1, .ref r2, .ref r3, .ref r4, .ref r5, .int rw, .ref r6, .ref r7, .ref r8, .int gw, .ref r9, .ref r10, .ref r11, .ref r12, .ref r13, .ref r14, .ref r15, .ref r16])), (r1, .inl (cI, 80, .inl K)), (r2, .inl (cI, 80, .inl O)), (r3, .inl (cI, 80, .inl T)), (r4, .inl (cI, 80, .inl Z)), (r5, .inl (cI, 2, .inl Sz)), (r6, .inl (cZ, 40, .inl Re)), (r7, .inl (cI, 240, .inl Fa)), (r8, .inl (cI, 240, .inl Va)), (r9, .inl (cI, 6, .inl Nf)), (r10, .inl (cI, 6, .inl Nv)), (r11, .inl (cZ, 41, .inl St)), (r12, .inl (cI, 40, .inl Ld)), (r13, .inl (cZ, 2, .inl On))] sz))) 0 0 (va_A [(m0, .inr (5, [.int fa, .ref r1, .ref r2, .ref r3, .ref r4, .ref r5, .int rw, .ref r6, .ref r7, .ref r8, .int gw, .ref r9, .ref r10, .ref r11, .ref r12, .ref r13, .ref r14, .ref r15, .ref r16])), (r1, .inl (cI, 80, .inl K)), (r2, .inl (cI, 80, .inl O)), (r3, .inl (cI, 80, .inl T)), (r4, .inl (cI, 80, .inl Z)), (r5, .inl (cI, 2, .inl Sz)), (r6, .inl (cZ, 40, .inl Re)), (r7, .inl (cI, 240, .inl Fa)), (r8, .inl (cI, 240, .inl Va)), (r9, .inl (cI, 6, .inl Nf)), (r10, .inl (cI, 6, .inl Nv)), (r11, .inl (cZ, 41, .inl St)), (r12, .inl (cI, 40, .inl Ld)), (r13, .inl (cZ, 2, .inl On))] sz) := by
  refine bc_met (fun A => va_Qi (fun (r : Int32) (u : Int32 × Int32 × Int32 × bc_F × bc_F × bc_F × bc_F × bc_F × bc_F × bc_F × bc_F × bc_F × bc_F × bc_F × bc_F × bc_F) => (n = 0 ∧ u.1 = 1 ∧ bc_MR n P ra n2 Q ON PL SP X u.2.2.2.1 u.2.2.2.2.1 u.2.2.2.2.2.1 u.2.2.2.2.2.2.1 u.2.2.2.2.2.2.2.1 u.2.2.2.2.2.2.2.2.2.2.2.2.2.2.2 Pl Sp Vr u.2.1) ∨ (0 < n ∧ u.1 = 0 ∧ ∀ (m2 : Nat) (Q9 : Nat → bc_F), (∃ g, bc_Lst n (P 1) (P 2) (P 3) (P 4) g ∧ bc_RW n (bc_f1 n (P 1) (P 2) (P 3) (P 4) g) m2 (Q9 1) (Q9 2) (Q9 3) (Q9 4)) → r = nI m2 ∧ bc_MR n P 1 m2 Q9 (upd ON 1 0) PL SP X u.2.2.2.1 u.2.2.2.2.1 u.2.2.2.2.2.1 u.2.2.2.2.2.2.1 u.2.2.2.2.2.2.2.1 u.2.2.2.2.2.2.2.2.2.2.2.2.2.2.2 Pl Sp Vr u.2.1)) (fun (u : Int32 × Int32 × Int32 × bc_F × bc_F × bc_F × bc_F × bc_F × bc_F × bc_F × bc_F × bc_F × bc_F × bc_F × bc_F × bc_F) t => bc_B (dC, dI) classes [(cI, .int), (cZ, .boolean)] A [(m0, .inr (5, [.int u.1, .ref r1, .ref r2, .ref r3, .ref r4, .ref r5, .int u.2.1, .ref r6, .ref r7, .ref r8, .int u.2.2.1, .ref r9, .ref r10, .ref r11, .ref r12, .ref r13, .ref r14, .ref r15, .ref r16])), (r1, .inl (cI, 80, .inl u.2.2.2.1)), (r2, .inl (cI, 80, .inl u.2.2.2.2.1)), (r3, .inl (cI, 80, .inl u.2.2.2.2.2.1)), (r4, .inl (cI, 80, .inl u.2.2.2.2.2.2.1)), (r5, .inl (cI, 2, .inl u.2.2.2.2.2.2.2.1)), (r6, .inl (cZ, 40, .inl u.2.2.2.2.2.2.2.2.1)), (r7, .inl (cI, 240, .inl u.2.2.2.2.2.2.2.2.2.1)), (r8, .inl (cI, 240, .inl u.2.2.2.2.2.2.2.2.2.2.1)), (r9, .inl (cI, 6, .inl u.2.2.2.2.2.2.2.2.2.2.2.1)), (r10, .inl (cI, 6, .inl u.2.2.2.2.2.2.2.2.2.2.2.2.1)), (r11, .inl (cZ, 41, .inl u.2.2.2.2.2.2.2.2.2.2.2.2.2.1)), (r12, .inl (cI, 40, .inl u.2.2.2.2.2.2.2.2.2.2.2.2.2.2.1)), (r13, .inl (cZ, 2, .inl u.2.2.2.2.2.2.2.2.2.2.2.2.2.2.2))] t) A) (by decide) (Nat.le_of_ble_eq_true rfl) ?_
  intro p e s m args below meth c A ls F hr hlocks hin hA hP hD hl hS
  have hx := F.1
  have hb := F.2.1
  have hml := F.2.2.1
  have hown : s.vm.findClass "BranchConstantsModel" = some m.cls := F.2.2.2.1
  have htw := F.2.2.2.2.1
  have hN := F.2.2.2.2.2.1
  have hK := F.2.2.2.2.2.2
  have hl : lv_has ls 1 [(0, .ref m0)] := hl
  have hn := hAB.1
  have hSz := hR.1
  have hwf := bc_rq_wf hR.2.1 hAB.2.1
  refine lv_aload_n hx hb de_M_rewrite_0 rfl (lv_at hl 0 rfl) ?_
  refine lv_aload_n hx hb de_M_rewrite_1 rfl (lv_at hl 0 rfl) ?_
  refine va_get (D := (dC, dI)) (ci := 5) (v := .ref r5) (C := rc_M) (T := fc_M) (N := 19) hx hb htw wi_M hown hK hP 0 rfl rfl 5 (by decide) (htw _ wm_428) (fun _ h9 => h9) rfl de_M_rewrite_2 ?_
  refine lv_iconst (v := 0) hx hb de_M_rewrite_5 (by decide) ?_
  refine bc_ildE (by decide) (j := 0) hx hb hK hP 5 0 rfl rfl (by omega) (by decide) de_M_rewrite_6 ?_
  refine bc_ti (y := nI n) hSz ?_
  refine lv_if_ne (tgt := 14) hx hb de_M_rewrite_7 (by decide) (fun hc_7 => ?_) (fun hc_7 => ?_)
  · refine lv_iconst (v := 0) hx hb de_M_rewrite_14 (by decide) ?_
    refine bc_call_v_i (As := [.int 0]) (rest := []) (wr := [(r1, .inl (cI, 80, .inl K)), (r2, .inl (cI, 80, .inl O)), (r3, .inl (cI, 80, .inl T)), (r4, .inl (cI, 80, .inl Z)), (r5, .inl (cI, 2, .inl Sz)), (r6, .inl (cZ, 40, .inl Re)), (r7, .inl (cI, 240, .inl Fa)), (r8, .inl (cI, 240, .inl Va)), (r9, .inl (cI, 6, .inl Nf)), (r10, .inl (cI, 6, .inl Nv)), (r11, .inl (cZ, 41, .inl St)), (r12, .inl (cI, 40, .inl Ld)), (r13, .inl (cZ, 2, .inl On))]) F (co_M_refused) wm_478 wm_6 wm_476 wm_477 wm_630 0 rfl rfl pd_M_refused rfl rfl ⟨Nat.le_of_ble_eq_true rfl, Nat.le_of_ble_eq_true rfl⟩ hP hD hS hA [0] [1, 2, 3, 4, 5, 6, 7, 8, 9, 10, 11, 12, 13] rfl rfl rfl rfl (by decide) rfl hl.1 rfl (Nat.le_of_ble_eq_true rfl) de_M_rewrite_15 ⟨Nat.le_of_ble_eq_true rfl, Nat.le_of_ble_eq_true rfl⟩ (fun r_15 u_15 H locs hw_15 hP hD hS => ?_)
    have hP : va_P (dC, dI) classes [(m0, .inr (5, [.int 0, .ref r1, .ref r2, .ref r3, .ref r4, .ref r5, .int rw, .ref r6, .ref r7, .ref r8, .int gw, .ref r9, .ref r10, .ref r11, .ref r12, .ref r13, .ref r14, .ref r15, .ref r16])), (r1, .inl (cI, 80, .inl K)), (r2, .inl (cI, 80, .inl O)), (r3, .inl (cI, 80, .inl T)), (r4, .inl (cI, 80, .inl Z)), (r5, .inl (cI, 2, .inl Sz)), (r6, .inl (cZ, 40, .inl Re)), (r7, .inl (cI, 240, .inl Fa)), (r8, .inl (cI, 240, .inl Va)), (r9, .inl (cI, 6, .inl Nf)), (r10, .inl (cI, 6, .inl Nv)), (r11, .inl (cZ, 41, .inl St)), (r12, .inl (cI, 40, .inl Ld)), (r13, .inl (cZ, 2, .inl On))] H := hP.sub [13, 0, 1, 2, 3, 4, 5, 6, 7, 8, 9, 10, 11, 12] rfl
    have hD : va_D A [(m0, .inr (5, [.int 0, .ref r1, .ref r2, .ref r3, .ref r4, .ref r5, .int rw, .ref r6, .ref r7, .ref r8, .int gw, .ref r9, .ref r10, .ref r11, .ref r12, .ref r13, .ref r14, .ref r15, .ref r16])), (r1, .inl (cI, 80, .inl K)), (r2, .inl (cI, 80, .inl O)), (r3, .inl (cI, 80, .inl T)), (r4, .inl (cI, 80, .inl Z)), (r5, .inl (cI, 2, .inl Sz)), (r6, .inl (cZ, 40, .inl Re)), (r7, .inl (cI, 240, .inl Fa)), (r8, .inl (cI, 240, .inl Va)), (r9, .inl (cI, 6, .inl Nf)), (r10, .inl (cI, 6, .inl Nv)), (r11, .inl (cZ, 41, .inl St)), (r12, .inl (cI, 40, .inl Ld)), (r13, .inl (cZ, 2, .inl On))] := hD.sub [13, 0, 1, 2, 3, 4, 5, 6, 7, 8, 9, 10, 11, 12] (by decide) rfl
    rcases hw_15 with ⟨he_15, hv_15⟩ | ⟨he_15, hv_15⟩
    · subst he_15
      exact absurd (by decide) hv_15
    · subst he_15
      refine lv_if_eq (tgt := 23) hx hb de_M_rewrite_18 (by decide) (fun _ => ?_) (fun hc => absurd (by decide) hc)
      have h0 : 0 < n := Nat.pos_of_ne_zero (bc_i0 (by omega) hc_7)
      refine lv_aload_n hx hb de_M_rewrite_23 rfl (lv_at hl 0 rfl) ?_
      refine bc_call_v_v (As := []) (rest := []) (wr := [(r11, .inl (cZ, 41, .inl St)), (r12, .inl (cI, 40, .inl Ld)), (r13, .inl (cZ, 2, .inl On))]) F (co_M_analyse hn h0 hSz (bc_rq_wf hR.2.1 hAB.2.1)) wm_502 wm_6 wm_500 wm_501 wm_634 0 rfl rfl pd_M_analyse rfl rfl ⟨Nat.le_of_ble_eq_true rfl, Nat.le_of_ble_eq_true rfl⟩ hP hD hS hA [0, 1, 2, 3, 4, 5, 6, 7, 8, 9, 10] [11, 12, 13] rfl rfl rfl rfl (by decide) rfl hl.1 rfl (Nat.le_of_ble_eq_true rfl) de_M_rewrite_24 ⟨Nat.le_of_ble_eq_true rfl, Nat.le_of_ble_eq_true rfl⟩ (fun u_24 H locs hw_24 hP hD hS => ?_)
      obtain ⟨R1, F1, V1, A1, B1, w1⟩ := u_24
      try dsimp only at hw_24
      obtain ⟨g1, hen, hre, hL⟩ := hw_24
      have hP : va_P (dC, dI) classes [(m0, .inr (5, [.int 0, .ref r1, .ref r2, .ref r3, .ref r4, .ref r5, .int rw, .ref r6, .ref r7, .ref r8, .int w1, .ref r9, .ref r10, .ref r11, .ref r12, .ref r13, .ref r14, .ref r15, .ref r16])), (r1, .inl (cI, 80, .inl K)), (r2, .inl (cI, 80, .inl O)), (r3, .inl (cI, 80, .inl T)), (r4, .inl (cI, 80, .inl Z)), (r5, .inl (cI, 2, .inl Sz)), (r6, .inl (cZ, 40, .inl R1)), (r7, .inl (cI, 240, .inl F1)), (r8, .inl (cI, 240, .inl V1)), (r9, .inl (cI, 6, .inl A1)), (r10, .inl (cI, 6, .inl B1)), (r11, .inl (cZ, 41, .inl St)), (r12, .inl (cI, 40, .inl Ld)), (r13, .inl (cZ, 2, .inl On))] H := hP.sub [3, 4, 5, 6, 7, 8, 9, 10, 11, 12, 13, 0, 1, 2] rfl
      have hD : va_D A [(m0, .inr (5, [.int 0, .ref r1, .ref r2, .ref r3, .ref r4, .ref r5, .int rw, .ref r6, .ref r7, .ref r8, .int w1, .ref r9, .ref r10, .ref r11, .ref r12, .ref r13, .ref r14, .ref r15, .ref r16])), (r1, .inl (cI, 80, .inl K)), (r2, .inl (cI, 80, .inl O)), (r3, .inl (cI, 80, .inl T)), (r4, .inl (cI, 80, .inl Z)), (r5, .inl (cI, 2, .inl Sz)), (r6, .inl (cZ, 40, .inl R1)), (r7, .inl (cI, 240, .inl F1)), (r8, .inl (cI, 240, .inl V1)), (r9, .inl (cI, 6, .inl A1)), (r10, .inl (cI, 6, .inl B1)), (r11, .inl (cZ, 41, .inl St)), (r12, .inl (cI, 40, .inl Ld)), (r13, .inl (cZ, 2, .inl On))] := hD.sub [3, 4, 5, 6, 7, 8, 9, 10, 11, 12, 13, 0, 1, 2] (by decide) rfl
      refine lv_aload_n hx hb de_M_rewrite_27 rfl (lv_at hl 0 rfl) ?_
      refine bc_call_v_v (As := []) (rest := []) (wr := [(r11, .inl (cZ, 41, .inl St)), (r12, .inl (cI, 40, .inl Ld)), (r13, .inl (cZ, 2, .inl On))]) F (co_M_fold (g := g1) hn hSz hwf hen hre) wm_536 wm_6 wm_534 wm_535 wm_639 0 rfl rfl pd_M_fold rfl rfl ⟨Nat.le_of_ble_eq_true rfl, Nat.le_of_ble_eq_true rfl⟩ hP hD hS hA [0, 1, 2, 3, 4, 5, 6, 7, 8, 9, 10] [11, 12, 13] rfl rfl rfl rfl (by decide) rfl hl.1 rfl (Nat.le_of_ble_eq_true rfl) de_M_rewrite_28 ⟨Nat.le_of_ble_eq_true rfl, Nat.le_of_ble_eq_true rfl⟩ (fun u_28 H locs hw_28 hP hD hS => ?_)
      obtain ⟨⟨K3, O3, T3, Z3⟩, A3, B3⟩ := u_28
      try dsimp only at hw_28
      have hf2 := hw_28.2
      have htr3 : ∀ j, j < n → bc_gs (K3 (40 + j)) → bc_tr (T3 (40 + j)) := fun j hj hg => ((hf2 j hj).2.2.2.1 (by rw [← (hf2 j hj).1]; exact hg)).1
      have hkk : ∀ j, j < n → bc_kk (K3 (40 + j)) := fun j hj => by rw [(hf2 j hj).1]; exact bc_fw_kk (bc_f1_wf hwf j hj)
      have hP : va_P (dC, dI) classes [(m0, .inr (5, [.int 0, .ref r1, .ref r2, .ref r3, .ref r4, .ref r5, .int rw, .ref r6, .ref r7, .ref r8, .int w1, .ref r9, .ref r10, .ref r11, .ref r12, .ref r13, .ref r14, .ref r15, .ref r16])), (r1, .inl (cI, 80, .inl K3)), (r2, .inl (cI, 80, .inl O3)), (r3, .inl (cI, 80, .inl T3)), (r4, .inl (cI, 80, .inl Z3)), (r5, .inl (cI, 2, .inl Sz)), (r6, .inl (cZ, 40, .inl R1)), (r7, .inl (cI, 240, .inl F1)), (r8, .inl (cI, 240, .inl V1)), (r9, .inl (cI, 6, .inl A3)), (r10, .inl (cI, 6, .inl B3)), (r11, .inl (cZ, 41, .inl St)), (r12, .inl (cI, 40, .inl Ld)), (r13, .inl (cZ, 2, .inl On))] H := hP.sub [3, 4, 5, 6, 7, 8, 9, 10, 11, 12, 13, 0, 1, 2] rfl
      have hD : va_D A [(m0, .inr (5, [.int 0, .ref r1, .ref r2, .ref r3, .ref r4, .ref r5, .int rw, .ref r6, .ref r7, .ref r8, .int w1, .ref r9, .ref r10, .ref r11, .ref r12, .ref r13, .ref r14, .ref r15, .ref r16])), (r1, .inl (cI, 80, .inl K3)), (r2, .inl (cI, 80, .inl O3)), (r3, .inl (cI, 80, .inl T3)), (r4, .inl (cI, 80, .inl Z3)), (r5, .inl (cI, 2, .inl Sz)), (r6, .inl (cZ, 40, .inl R1)), (r7, .inl (cI, 240, .inl F1)), (r8, .inl (cI, 240, .inl V1)), (r9, .inl (cI, 6, .inl A3)), (r10, .inl (cI, 6, .inl B3)), (r11, .inl (cZ, 41, .inl St)), (r12, .inl (cI, 40, .inl Ld)), (r13, .inl (cZ, 2, .inl On))] := hD.sub [3, 4, 5, 6, 7, 8, 9, 10, 11, 12, 13, 0, 1, 2] (by decide) rfl
      refine lv_aload_n hx hb de_M_rewrite_31 rfl (lv_at hl 0 rfl) ?_
      refine bc_call_v_v (As := []) (rest := []) (wr := [(r2, .inl (cI, 80, .inl O3)), (r4, .inl (cI, 80, .inl Z3)), (r6, .inl (cZ, 40, .inl R1)), (r7, .inl (cI, 240, .inl F1)), (r8, .inl (cI, 240, .inl V1)), (r9, .inl (cI, 6, .inl A3)), (r10, .inl (cI, 6, .inl B3)), (r11, .inl (cZ, 41, .inl St)), (r13, .inl (cZ, 2, .inl On))]) F (co_M_thread hn hSz htr3) wm_539 wm_6 wm_537 wm_538 wm_640 0 rfl rfl pd_M_thread rfl rfl ⟨Nat.le_of_ble_eq_true rfl, Nat.le_of_ble_eq_true rfl⟩ hP hD hS hA [0, 1, 3, 5, 12] [2, 4, 6, 7, 8, 9, 10, 11, 13] rfl rfl rfl rfl (by decide) rfl hl.1 rfl (Nat.le_of_ble_eq_true rfl) de_M_rewrite_32 ⟨Nat.le_of_ble_eq_true rfl, Nat.le_of_ble_eq_true rfl⟩ (fun u_32 H locs hw_32 hP hD hS => ?_)
      obtain ⟨T4, L4⟩ := u_32
      try dsimp only at hw_32
      have htr4 : ∀ j, j < n → bc_gs (K3 (40 + j)) → bc_tr (T4 (40 + j)) := fun j hj hg => ((hw_32.2 j hj).1 hg).1
      have hP : va_P (dC, dI) classes [(m0, .inr (5, [.int 0, .ref r1, .ref r2, .ref r3, .ref r4, .ref r5, .int rw, .ref r6, .ref r7, .ref r8, .int w1, .ref r9, .ref r10, .ref r11, .ref r12, .ref r13, .ref r14, .ref r15, .ref r16])), (r1, .inl (cI, 80, .inl K3)), (r2, .inl (cI, 80, .inl O3)), (r3, .inl (cI, 80, .inl T4)), (r4, .inl (cI, 80, .inl Z3)), (r5, .inl (cI, 2, .inl Sz)), (r6, .inl (cZ, 40, .inl R1)), (r7, .inl (cI, 240, .inl F1)), (r8, .inl (cI, 240, .inl V1)), (r9, .inl (cI, 6, .inl A3)), (r10, .inl (cI, 6, .inl B3)), (r11, .inl (cZ, 41, .inl St)), (r12, .inl (cI, 40, .inl L4)), (r13, .inl (cZ, 2, .inl On))] H := hP.sub [9, 10, 0, 11, 1, 12, 2, 3, 4, 5, 6, 7, 13, 8] rfl
      have hD : va_D A [(m0, .inr (5, [.int 0, .ref r1, .ref r2, .ref r3, .ref r4, .ref r5, .int rw, .ref r6, .ref r7, .ref r8, .int w1, .ref r9, .ref r10, .ref r11, .ref r12, .ref r13, .ref r14, .ref r15, .ref r16])), (r1, .inl (cI, 80, .inl K3)), (r2, .inl (cI, 80, .inl O3)), (r3, .inl (cI, 80, .inl T4)), (r4, .inl (cI, 80, .inl Z3)), (r5, .inl (cI, 2, .inl Sz)), (r6, .inl (cZ, 40, .inl R1)), (r7, .inl (cI, 240, .inl F1)), (r8, .inl (cI, 240, .inl V1)), (r9, .inl (cI, 6, .inl A3)), (r10, .inl (cI, 6, .inl B3)), (r11, .inl (cZ, 41, .inl St)), (r12, .inl (cI, 40, .inl L4)), (r13, .inl (cZ, 2, .inl On))] := hD.sub [9, 10, 0, 11, 1, 12, 2, 3, 4, 5, 6, 7, 13, 8] (by decide) rfl
      refine lv_aload_n hx hb de_M_rewrite_35 rfl (lv_at hl 0 rfl) ?_
      refine bc_call_v_v (As := []) (rest := []) (wr := [(r2, .inl (cI, 80, .inl O3)), (r4, .inl (cI, 80, .inl Z3)), (r6, .inl (cZ, 40, .inl R1)), (r7, .inl (cI, 240, .inl F1)), (r8, .inl (cI, 240, .inl V1)), (r9, .inl (cI, 6, .inl A3)), (r10, .inl (cI, 6, .inl B3)), (r12, .inl (cI, 40, .inl L4)), (r13, .inl (cZ, 2, .inl On))]) F (co_M_drop hn hSz htr4) wm_545 wm_6 wm_543 wm_544 wm_642 0 rfl rfl pd_M_drop rfl rfl ⟨Nat.le_of_ble_eq_true rfl, Nat.le_of_ble_eq_true rfl⟩ hP hD hS hA [0, 1, 3, 5, 11] [2, 4, 6, 7, 8, 9, 10, 12, 13] rfl rfl rfl rfl (by decide) rfl hl.1 rfl (Nat.le_of_ble_eq_true rfl) de_M_rewrite_36 ⟨Nat.le_of_ble_eq_true rfl, Nat.le_of_ble_eq_true rfl⟩ (fun u_36 H locs hw_36 hP hD hS => ?_)
      obtain ⟨S5, w5⟩ := u_36
      try dsimp only at hw_36
      obtain ⟨A5, hA5, hD5⟩ := hw_36
      have hP : va_P (dC, dI) classes [(m0, .inr (5, [.int 0, .ref r1, .ref r2, .ref r3, .ref r4, .ref r5, .int rw, .ref r6, .ref r7, .ref r8, .int w5, .ref r9, .ref r10, .ref r11, .ref r12, .ref r13, .ref r14, .ref r15, .ref r16])), (r1, .inl (cI, 80, .inl K3)), (r2, .inl (cI, 80, .inl O3)), (r3, .inl (cI, 80, .inl T4)), (r4, .inl (cI, 80, .inl Z3)), (r5, .inl (cI, 2, .inl Sz)), (r6, .inl (cZ, 40, .inl R1)), (r7, .inl (cI, 240, .inl F1)), (r8, .inl (cI, 240, .inl V1)), (r9, .inl (cI, 6, .inl A3)), (r10, .inl (cI, 6, .inl B3)), (r11, .inl (cZ, 41, .inl S5)), (r12, .inl (cI, 40, .inl L4)), (r13, .inl (cZ, 2, .inl On))] H := hP.sub [9, 10, 0, 11, 1, 12, 2, 3, 4, 5, 6, 13, 7, 8] rfl
      have hD : va_D A [(m0, .inr (5, [.int 0, .ref r1, .ref r2, .ref r3, .ref r4, .ref r5, .int rw, .ref r6, .ref r7, .ref r8, .int w5, .ref r9, .ref r10, .ref r11, .ref r12, .ref r13, .ref r14, .ref r15, .ref r16])), (r1, .inl (cI, 80, .inl K3)), (r2, .inl (cI, 80, .inl O3)), (r3, .inl (cI, 80, .inl T4)), (r4, .inl (cI, 80, .inl Z3)), (r5, .inl (cI, 2, .inl Sz)), (r6, .inl (cZ, 40, .inl R1)), (r7, .inl (cI, 240, .inl F1)), (r8, .inl (cI, 240, .inl V1)), (r9, .inl (cI, 6, .inl A3)), (r10, .inl (cI, 6, .inl B3)), (r11, .inl (cZ, 41, .inl S5)), (r12, .inl (cI, 40, .inl L4)), (r13, .inl (cZ, 2, .inl On))] := hD.sub [9, 10, 0, 11, 1, 12, 2, 3, 4, 5, 6, 13, 7, 8] (by decide) rfl
      refine lv_aload_n hx hb de_M_rewrite_39 rfl (lv_at hl 0 rfl) ?_
      refine bc_call_v_v (As := []) (rest := []) (wr := [(r6, .inl (cZ, 40, .inl R1)), (r7, .inl (cI, 240, .inl F1)), (r8, .inl (cI, 240, .inl V1)), (r9, .inl (cI, 6, .inl A3)), (r10, .inl (cI, 6, .inl B3)), (r13, .inl (cZ, 2, .inl On))]) F (co_M_number hn hSz hkk htr4) wm_554 wm_6 wm_552 wm_553 wm_645 0 rfl rfl pd_M_number rfl rfl ⟨Nat.le_of_ble_eq_true rfl, Nat.le_of_ble_eq_true rfl⟩ hP hD hS hA [0, 1, 2, 3, 4, 5, 11, 12] [6, 7, 8, 9, 10, 13] rfl rfl rfl rfl (by decide) rfl hl.1 rfl (Nat.le_of_ble_eq_true rfl) de_M_rewrite_40 ⟨Nat.le_of_ble_eq_true rfl, Nat.le_of_ble_eq_true rfl⟩ (fun u_40 H locs hw_40 hP hD hS => ?_)
      obtain ⟨⟨K6, O6, T6, Z6⟩, L6⟩ := u_40
      try dsimp only at hw_40
      have hW : bc_RW n (bc_f1 n K O T Z g1) (bc_ct S5 n) (fun j => K6 (40 + j)) (fun j => O6 (40 + j)) (fun j => T6 (40 + j)) (fun j => Z6 (40 + j)) := bc_RW_of (K3 := fun j => K3 (40 + j)) (O3 := fun j => O3 (40 + j)) (T3 := fun j => T3 (40 + j)) (Z3 := fun j => Z3 (40 + j)) (T4 := fun j => T4 (40 + j)) hf2 (fun i hi => bc_f1_wf hwf i hi) hw_32.2 hA5 hD5 hw_40.2
      have hs6 := bc_s40_tr hw_28.1 hw_32.1 hw_40.1
      have hP : va_P (dC, dI) classes [(m0, .inr (5, [.int 0, .ref r1, .ref r2, .ref r3, .ref r4, .ref r5, .int rw, .ref r6, .ref r7, .ref r8, .int w5, .ref r9, .ref r10, .ref r11, .ref r12, .ref r13, .ref r14, .ref r15, .ref r16])), (r1, .inl (cI, 80, .inl K6)), (r2, .inl (cI, 80, .inl O6)), (r3, .inl (cI, 80, .inl T6)), (r4, .inl (cI, 80, .inl Z6)), (r5, .inl (cI, 2, .inl (upd Sz 1 (nI (bc_ct S5 n))))), (r6, .inl (cZ, 40, .inl R1)), (r7, .inl (cI, 240, .inl F1)), (r8, .inl (cI, 240, .inl V1)), (r9, .inl (cI, 6, .inl A3)), (r10, .inl (cI, 6, .inl B3)), (r11, .inl (cZ, 41, .inl S5)), (r12, .inl (cI, 40, .inl L6)), (r13, .inl (cZ, 2, .inl On))] H := hP.sub [6, 7, 8, 9, 10, 11, 0, 1, 2, 3, 4, 12, 13, 5] rfl
      have hD : va_D A [(m0, .inr (5, [.int 0, .ref r1, .ref r2, .ref r3, .ref r4, .ref r5, .int rw, .ref r6, .ref r7, .ref r8, .int w5, .ref r9, .ref r10, .ref r11, .ref r12, .ref r13, .ref r14, .ref r15, .ref r16])), (r1, .inl (cI, 80, .inl K6)), (r2, .inl (cI, 80, .inl O6)), (r3, .inl (cI, 80, .inl T6)), (r4, .inl (cI, 80, .inl Z6)), (r5, .inl (cI, 2, .inl (upd Sz 1 (nI (bc_ct S5 n))))), (r6, .inl (cZ, 40, .inl R1)), (r7, .inl (cI, 240, .inl F1)), (r8, .inl (cI, 240, .inl V1)), (r9, .inl (cI, 6, .inl A3)), (r10, .inl (cI, 6, .inl B3)), (r11, .inl (cZ, 41, .inl S5)), (r12, .inl (cI, 40, .inl L6)), (r13, .inl (cZ, 2, .inl On))] := hD.sub [6, 7, 8, 9, 10, 11, 0, 1, 2, 3, 4, 12, 13, 5] (by decide) rfl
      refine lv_aload_n hx hb de_M_rewrite_43 rfl (lv_at hl 0 rfl) ?_
      refine lv_iconst (v := 1) hx hb de_M_rewrite_44 (by decide) ?_
      refine va_put (D := (dC, dI)) (ci := 5) (v := .int 1) (ty := .boolean) (C := rc_M) (T := fc_M) (N := 19) hx hb htw wi_M tc_M tc_M_ok nc_M hown hK hP hD hS 0 rfl rfl 6 (by decide) (htw _ wm_429) (fun _ h9 => h9) rfl (by decide +kernel) rfl rfl (Nat.le_of_ble_eq_true rfl) de_M_rewrite_45 (fun H locs hP hD hS => ?_)
      have hP : va_P (dC, dI) classes [(m0, .inr (5, [.int 0, .ref r1, .ref r2, .ref r3, .ref r4, .ref r5, .int 1, .ref r6, .ref r7, .ref r8, .int w5, .ref r9, .ref r10, .ref r11, .ref r12, .ref r13, .ref r14, .ref r15, .ref r16])), (r1, .inl (cI, 80, .inl K6)), (r2, .inl (cI, 80, .inl O6)), (r3, .inl (cI, 80, .inl T6)), (r4, .inl (cI, 80, .inl Z6)), (r5, .inl (cI, 2, .inl (upd Sz 1 (nI (bc_ct S5 n))))), (r6, .inl (cZ, 40, .inl R1)), (r7, .inl (cI, 240, .inl F1)), (r8, .inl (cI, 240, .inl V1)), (r9, .inl (cI, 6, .inl A3)), (r10, .inl (cI, 6, .inl B3)), (r11, .inl (cZ, 41, .inl S5)), (r12, .inl (cI, 40, .inl L6)), (r13, .inl (cZ, 2, .inl On))] H := hP
      have hD : va_D A [(m0, .inr (5, [.int 0, .ref r1, .ref r2, .ref r3, .ref r4, .ref r5, .int 1, .ref r6, .ref r7, .ref r8, .int w5, .ref r9, .ref r10, .ref r11, .ref r12, .ref r13, .ref r14, .ref r15, .ref r16])), (r1, .inl (cI, 80, .inl K6)), (r2, .inl (cI, 80, .inl O6)), (r3, .inl (cI, 80, .inl T6)), (r4, .inl (cI, 80, .inl Z6)), (r5, .inl (cI, 2, .inl (upd Sz 1 (nI (bc_ct S5 n))))), (r6, .inl (cZ, 40, .inl R1)), (r7, .inl (cI, 240, .inl F1)), (r8, .inl (cI, 240, .inl V1)), (r9, .inl (cI, 6, .inl A3)), (r10, .inl (cI, 6, .inl B3)), (r11, .inl (cZ, 41, .inl S5)), (r12, .inl (cI, 40, .inl L6)), (r13, .inl (cZ, 2, .inl On))] := hD
      refine lv_aload_n hx hb de_M_rewrite_48 rfl (lv_at hl 0 rfl) ?_
      refine va_get (D := (dC, dI)) (ci := 5) (v := .ref r13) (C := rc_M) (T := fc_M) (N := 19) hx hb htw wi_M hown hK hP 0 rfl rfl 15 (by decide) (htw _ wm_438) (fun _ h9 => h9) rfl de_M_rewrite_49 ?_
      refine lv_iconst (v := 1) hx hb de_M_rewrite_52 (by decide) ?_
      refine lv_iconst (v := 0) hx hb de_M_rewrite_53 (by decide) ?_
      refine bc_zstE (by decide) (j := 1) hx hb hK hP hD hS 13 1 rfl rfl (by decide) (by omega) (by decide) de_M_rewrite_54 (fun H locs hP hD hS => ?_)
      have hP : va_P (dC, dI) classes [(m0, .inr (5, [.int 0, .ref r1, .ref r2, .ref r3, .ref r4, .ref r5, .int 1, .ref r6, .ref r7, .ref r8, .int w5, .ref r9, .ref r10, .ref r11, .ref r12, .ref r13, .ref r14, .ref r15, .ref r16])), (r1, .inl (cI, 80, .inl K6)), (r2, .inl (cI, 80, .inl O6)), (r3, .inl (cI, 80, .inl T6)), (r4, .inl (cI, 80, .inl Z6)), (r5, .inl (cI, 2, .inl (upd Sz 1 (nI (bc_ct S5 n))))), (r6, .inl (cZ, 40, .inl R1)), (r7, .inl (cI, 240, .inl F1)), (r8, .inl (cI, 240, .inl V1)), (r9, .inl (cI, 6, .inl A3)), (r10, .inl (cI, 6, .inl B3)), (r11, .inl (cZ, 41, .inl S5)), (r12, .inl (cI, 40, .inl L6)), (r13, .inl (cZ, 2, .inl (upd On 1 0)))] H := hP
      have hD : va_D A [(m0, .inr (5, [.int 0, .ref r1, .ref r2, .ref r3, .ref r4, .ref r5, .int 1, .ref r6, .ref r7, .ref r8, .int w5, .ref r9, .ref r10, .ref r11, .ref r12, .ref r13, .ref r14, .ref r15, .ref r16])), (r1, .inl (cI, 80, .inl K6)), (r2, .inl (cI, 80, .inl O6)), (r3, .inl (cI, 80, .inl T6)), (r4, .inl (cI, 80, .inl Z6)), (r5, .inl (cI, 2, .inl (upd Sz 1 (nI (bc_ct S5 n))))), (r6, .inl (cZ, 40, .inl R1)), (r7, .inl (cI, 240, .inl F1)), (r8, .inl (cI, 240, .inl V1)), (r9, .inl (cI, 6, .inl A3)), (r10, .inl (cI, 6, .inl B3)), (r11, .inl (cZ, 41, .inl S5)), (r12, .inl (cI, 40, .inl L6)), (r13, .inl (cZ, 2, .inl (upd On 1 0)))] := hD
      refine lv_aload_n hx hb de_M_rewrite_55 rfl (lv_at hl 0 rfl) ?_
      refine va_get (D := (dC, dI)) (ci := 5) (v := .ref r5) (C := rc_M) (T := fc_M) (N := 19) hx hb htw wi_M hown hK hP 0 rfl rfl 5 (by decide) (htw _ wm_428) (fun _ h9 => h9) rfl de_M_rewrite_56 ?_
      refine lv_iconst (v := 1) hx hb de_M_rewrite_59 (by decide) ?_
      refine bc_ildE (by decide) (j := 1) hx hb hK hP 5 0 rfl rfl (by omega) (by decide) de_M_rewrite_60 ?_
      refine bc_ti (y := nI (bc_ct S5 n)) pk_us ?_
      exact bc_iret F hr hlocks ((0, 1, w5, K6, O6, T6, Z6, upd Sz 1 (nI (bc_ct S5 n)), R1, F1, V1, A3, B3, S5, L6, upd On 1 0)) (Or.inr ⟨h0, rfl, bc_MR_rw hAB hR hL hs6 hW⟩) hP hD hS de_M_rewrite_61
  · refine lv_iconst (v := 1) hx hb de_M_rewrite_10 (by decide) ?_
    refine lv_goto (tgt := 15) hx hb de_M_rewrite_11 (by decide) ?_
    refine bc_call_v_i (As := [.int 1]) (rest := []) (wr := [(r1, .inl (cI, 80, .inl K)), (r2, .inl (cI, 80, .inl O)), (r3, .inl (cI, 80, .inl T)), (r4, .inl (cI, 80, .inl Z)), (r5, .inl (cI, 2, .inl Sz)), (r6, .inl (cZ, 40, .inl Re)), (r7, .inl (cI, 240, .inl Fa)), (r8, .inl (cI, 240, .inl Va)), (r9, .inl (cI, 6, .inl Nf)), (r10, .inl (cI, 6, .inl Nv)), (r11, .inl (cZ, 41, .inl St)), (r12, .inl (cI, 40, .inl Ld)), (r13, .inl (cZ, 2, .inl On))]) F (co_M_refused) wm_478 wm_6 wm_476 wm_477 wm_630 0 rfl rfl pd_M_refused rfl rfl ⟨Nat.le_of_ble_eq_true rfl, Nat.le_of_ble_eq_true rfl⟩ hP hD hS hA [0] [1, 2, 3, 4, 5, 6, 7, 8, 9, 10, 11, 12, 13] rfl rfl rfl rfl (by decide) rfl hl.1 rfl (Nat.le_of_ble_eq_true rfl) de_M_rewrite_15 ⟨Nat.le_of_ble_eq_true rfl, Nat.le_of_ble_eq_true rfl⟩ (fun r_15 u_15 H locs hw_15 hP hD hS => ?_)
    have hP : va_P (dC, dI) classes [(m0, .inr (5, [.int 1, .ref r1, .ref r2, .ref r3, .ref r4, .ref r5, .int rw, .ref r6, .ref r7, .ref r8, .int gw, .ref r9, .ref r10, .ref r11, .ref r12, .ref r13, .ref r14, .ref r15, .ref r16])), (r1, .inl (cI, 80, .inl K)), (r2, .inl (cI, 80, .inl O)), (r3, .inl (cI, 80, .inl T)), (r4, .inl (cI, 80, .inl Z)), (r5, .inl (cI, 2, .inl Sz)), (r6, .inl (cZ, 40, .inl Re)), (r7, .inl (cI, 240, .inl Fa)), (r8, .inl (cI, 240, .inl Va)), (r9, .inl (cI, 6, .inl Nf)), (r10, .inl (cI, 6, .inl Nv)), (r11, .inl (cZ, 41, .inl St)), (r12, .inl (cI, 40, .inl Ld)), (r13, .inl (cZ, 2, .inl On))] H := hP.sub [13, 0, 1, 2, 3, 4, 5, 6, 7, 8, 9, 10, 11, 12] rfl
    have hD : va_D A [(m0, .inr (5, [.int 1, .ref r1, .ref r2, .ref r3, .ref r4, .ref r5, .int rw, .ref r6, .ref r7, .ref r8, .int gw, .ref r9, .ref r10, .ref r11, .ref r12, .ref r13, .ref r14, .ref r15, .ref r16])), (r1, .inl (cI, 80, .inl K)), (r2, .inl (cI, 80, .inl O)), (r3, .inl (cI, 80, .inl T)), (r4, .inl (cI, 80, .inl Z)), (r5, .inl (cI, 2, .inl Sz)), (r6, .inl (cZ, 40, .inl Re)), (r7, .inl (cI, 240, .inl Fa)), (r8, .inl (cI, 240, .inl Va)), (r9, .inl (cI, 6, .inl Nf)), (r10, .inl (cI, 6, .inl Nv)), (r11, .inl (cZ, 41, .inl St)), (r12, .inl (cI, 40, .inl Ld)), (r13, .inl (cZ, 2, .inl On))] := hD.sub [13, 0, 1, 2, 3, 4, 5, 6, 7, 8, 9, 10, 11, 12] (by decide) rfl
    rcases hw_15 with ⟨he_15, hv_15⟩ | ⟨he_15, hv_15⟩
    · subst he_15
      refine lv_if_eq (tgt := 23) hx hb de_M_rewrite_18 (by decide) (fun hc => absurd hc (by decide)) (fun _ => ?_)
      refine lv_iconst (v := 0) hx hb de_M_rewrite_21 (by decide) ?_
      exact bc_iret F hr hlocks ((1, rw, gw, K, O, T, Z, Sz, Re, Fa, Va, Nf, Nv, St, Ld, On)) (Or.inl ⟨bc_i1 (by omega) hc_7, rfl, hR⟩) hP hD hS de_M_rewrite_22
    · subst he_15
      exact absurd hv_15 (by decide)

