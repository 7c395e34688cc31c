/-! Rewriting: what stays, jumps to the next, new numbers (by program: wip/whole/gen/modW2.py) -/
theorem bc_kp_U {n c t c' d : Nat} {A U A' U' : bc_F} (h : bc_kp n A U c t A' U' c') (hd : d < c) : U' d = U d := by
  by_cases z : t < n ∧ A t = 0
  · rw [(h.1 z.1 z.2).2.1, pk_un (by omega)]
  · rw [(h.2 z).2.1]
theorem bc_kp_c {n c t c' : Nat} {A U A' U' : bc_F} (h : bc_kp n A U c t A' U' c') : c ≤ c' := by
  by_cases z : t < n ∧ A t = 0
  · rw [(h.1 z.1 z.2).2.2]; omega
  · rw [(h.2 z).2.2]; exact Nat.le_refl _
theorem bc_ct_zero {A : bc_F} {n : Nat} (h : ∀ j, j < n → A j = 0) : bc_ct A n = 0 := by
  have h1 := bc_sm_bound (f := fun j => if A j = 0 then 0 else 1) (b := 0) (k := n) (fun j hj => by
    show (if A j = 0 then 0 else 1) ≤ 0
    rw [if_pos (h j hj)]
    exact Nat.le_refl _)
  have h2 : bc_ct A n ≤ 0 * n := h1
  omega
theorem bc_QI_0 {n : Nat} {K : bc_F} {q : Nat → Nat} {A U : bc_F} (h : ∀ j, j < n → A j = 0) : bc_QI n K q A U 0 0 :=
  ⟨(bc_ct_zero h).symm, fun j hj z => absurd (h j hj) z, fun x hx => absurd hx (Nat.not_lt_zero x), fun j hj z => absurd (h j hj) z, fun x hx => absurd hx (Nat.not_lt_zero x)⟩
theorem bc_QI_c {n : Nat} {K : bc_F} {q : Nat → Nat} {A U : bc_F} {c d : Nat} (h : bc_QI n K q A U c d) : c ≤ n := by
  rw [h.1]; exact bc_ct_le A n
theorem bc_QI_lt {n : Nat} {K : bc_F} {q : Nat → Nat} {A U : bc_F} {c d t : Nat} (h : bc_QI n K q A U c d) (ht : t < n) (h0 : A t = 0) : c < n := by
  rw [h.1]; exact bc_ct_full A n t ht h0
theorem bc_dec1 (j : Nat) : nI j + Int32.ofInt (-1) = nI j - 1 := by
  rw [Int32.sub_eq_add_neg]
  rfl
theorem bc_km1 {k : Nat} (h : ¬ nI k - 1 < 0) : ∃ j, k = j + 1 := by
  cases k with
  | zero => exact absurd (by decide) h
  | succ j => exact ⟨j, rfl⟩
theorem bc_km0 {k : Nat} (hk : k ≤ 40) (h : nI k - 1 < 0) : k = 0 := by
  cases k with
  | zero => rfl
  | succ j => rw [nI_pred] at h; exact absurd h (nI_pos (by omega))
theorem bc_DJ_up {n : Nat} {K : bc_F} {q : Nat → Nat} {A B : bc_F} {i j : Nat} {x : Int32} (hji : j < i) (h : bc_DJ n K q A B i) : bc_DJ n K q A (upd B j x) i := by
  intro k hk
  have hk' : bc_nx n B (i + 1) k := bc_nx_cg hk (fun m h1 _ => by rw [pk_un (by omega)])
  rw [pk_un (by omega)]
  exact h k hk'
def bc_DI (n : Nat) (K : bc_F) (q : Nat → Nat) (A0 : bc_F) (k x : Nat) (B : bc_F) : Prop := (∀ i, k ≤ i → i < n → bc_DJ n K q A0 B i) ∧ (∀ i, i < k → B i = A0 i) ∧ bc_nx n B k x ∧ k ≤ n
theorem bc_DI_0 (n : Nat) (K : bc_F) (q : Nat → Nat) (A0 : bc_F) : bc_DI n K q A0 n n A0 := ⟨fun i h1 h2 => by omega, fun _ _ => rfl, bc_nx_n n A0, Nat.le_refl _⟩
theorem bc_DI_a {n : Nat} {K : bc_F} {q : Nat → Nat} {A0 : bc_F} {j x : Nat} {B : bc_F} (h : bc_DI n K q A0 (j + 1) x B) (hB : ¬ B j = 0) (h6 : K j = 6) (hq : q j = x) : bc_DI n K q A0 j x (upd B j 0) := by
  obtain ⟨h1, h2, h3, h4⟩ := h
  have hx : bc_nx n (upd B j 0) (j + 1) x := bc_nx_cg h3 (fun m hm _ => by rw [pk_un (by omega)])
  refine ⟨fun i hi hin => ?_, fun i hi => by rw [pk_un (by omega)]; exact h2 i (by omega), bc_nx_on pk_us hx, by omega⟩
  by_cases e : i = j
  · subst e
    intro k hk
    have e2 := bc_nx_uniq hk hx
    rw [pk_us]
    exact ⟨fun z => absurd rfl z, fun z => absurd ⟨h6, by rw [e2]; exact hq⟩ z.2⟩
  · exact bc_DJ_up (by omega) (h1 i (by omega) hin)
theorem bc_DI_b {n : Nat} {K : bc_F} {q : Nat → Nat} {A0 : bc_F} {j x : Nat} {B : bc_F} (h : bc_DI n K q A0 (j + 1) x B) (hB : ¬ B j = 0) (hn : ¬ (K j = 6 ∧ q j = x)) : bc_DI n K q A0 j j B := by
  obtain ⟨h1, h2, h3, h4⟩ := h
  refine ⟨fun i hi hin => ?_, fun i hi => h2 i (by omega), bc_nx_at (by omega) hB, by omega⟩
  by_cases e : i = j
  · subst e
    intro k hk
    have e2 := bc_nx_uniq hk h3
    rw [e2]
    exact ⟨fun z => ⟨by rw [← h2 i (by omega)]; exact z, hn⟩, fun _ => hB⟩
  · exact h1 i (by omega) hin
theorem bc_DI_c {n : Nat} {K : bc_F} {q : Nat → Nat} {A0 : bc_F} {j x : Nat} {B : bc_F} (h : bc_DI n K q A0 (j + 1) x B) (hB : B j = 0) : bc_DI n K q A0 j x B := by
  obtain ⟨h1, h2, h3, h4⟩ := h
  refine ⟨fun i hi hin => ?_, fun i hi => h2 i (by omega), bc_nx_on hB h3, by omega⟩
  by_cases e : i = j
  · subst e
    intro k hk
    exact ⟨fun z => absurd hB z, fun z => absurd (by rw [← h2 i (by omega)]; exact hB) z.1⟩
  · exact h1 i (by omega) hin
def bc_MVa (n : Nat) (K O T Z B : bc_F) (j : Nat) (k o t z : Int32) : Prop := k = K j ∧ o = bc_p1 (K j) (O j) ∧ z = bc_p3 (K j) (Z j) ∧ (bc_gs (K j) → t = bc_p2 (K j) (nI (bc_ct B (bc_tn n (T j))))) ∧ (¬ bc_gs (K j) → t = bc_p2 (K j) (T j))
def bc_MV (n : Nat) (K O T Z B : bc_F) (i : Nat) (K3 O3 T3 Z3 : bc_F) : Prop := (∀ j, j < i → j < n → B j ≠ 0 → bc_MVa n K O T Z B j (K3 (bc_ct B j)) (O3 (bc_ct B j)) (T3 (bc_ct B j)) (Z3 (bc_ct B j))) ∧ ∀ j, i ≤ j → j < n → K3 j = K j ∧ O3 j = O j ∧ T3 j = T j ∧ Z3 j = Z j
theorem bc_MV_put {n : Nat} {K O T Z B K3 O3 T3 Z3 : bc_F} {i : Nat} {a b d e : Int32} (h : bc_MV n K O T Z B i K3 O3 T3 Z3) (hi : i < n) (hB : B i ≠ 0) (hf : bc_MVa n K O T Z B i a b d e) : bc_MV n K O T Z B (i + 1) (upd K3 (bc_ct B i) a) (upd O3 (bc_ct B i) b) (upd T3 (bc_ct B i) d) (upd Z3 (bc_ct B i) e) := by
  refine ⟨fun j hj hjn hBj => ?_, fun j hj hjn => ?_⟩
  · by_cases c : j = i
    · subst c; rw [pk_us, pk_us, pk_us, pk_us]; exact hf
    · have hlt := bc_ct_lt hBj (show j < i by omega)
      have hne : bc_ct B j ≠ bc_ct B i := by omega
      rw [pk_un hne, pk_un hne, pk_un hne, pk_un hne]; exact h.1 j (by omega) hjn hBj
  · have hle := bc_ct_le B i
    have hne : j ≠ bc_ct B i := by omega
    rw [pk_un hne, pk_un hne, pk_un hne, pk_un hne]; exact h.2 j (by omega) hjn
theorem bc_MV_skip {n : Nat} {K O T Z B K3 O3 T3 Z3 : bc_F} {i : Nat} (h : bc_MV n K O T Z B i K3 O3 T3 Z3) (hB : B i = 0) : bc_MV n K O T Z B (i + 1) K3 O3 T3 Z3 := by
  refine ⟨fun j hj hjn hBj => ?_, fun j hj hjn => h.2 j (by omega) hjn⟩
  by_cases c : j = i
  · subst c; exact absurd hB hBj
  · exact h.1 j (by omega) hjn hBj
set_option maxHeartbeats 4000000 in
set_option maxRecDepth 100000 in
/-- one more stays -/
theorem co_W_keep {l : Launch} {dC : Nat → ClassId} {dI : Nat → Nat → Nat} {cI cZ : ClassId} {sz : Nat} {w0 w1 w2 w3 cq : Nat} {B U Nn : bc_F}{h0 q1 q2 q3 q4 n : Nat} {t : Nat} (hn : n ≤ 40) (ht : t < 2 ^ 31) (hcq : t < n → B t = 0 → cq < 40) : Met l yn_W_keep (Cond.code yn_W_keep by_W_keep 3 none :: wd_all) ({ frames := 0, cells := 0, slots := 0, locals := 0 } : Room) (bc_Pre (dC, dI) classes [(cI, .int), (cZ, .boolean)] [.ref w0, .ref h0, .int (nI t)] [(w0, .inr (3, [.ref w1, .ref w2, .ref w3, .int (nI cq)])), (w1, .inl (cZ, 40, .inl B)), (w2, .inl (cI, 40, .inl U)), (w3, .inl (cI, 41, .inl Nn)), (h0, .inr (1, [.ref q1, .ref q2, .ref q3, .ref q4, .int (nI n)]))] sz) (va_Qv (fun (u : bc_F × bc_F × Nat) => bc_kp n B U cq t u.1 u.2.1 u.2.2) (fun (u : bc_F × bc_F × Nat) t => bc_B (dC, dI) classes [(cI, .int), (cZ, .boolean)] (va_A [(w0, .inr (3, [.ref w1, .ref w2, .ref w3, .int (nI cq)])), (w1, .inl (cZ, 40, .inl B)), (w2, .inl (cI, 40, .inl U)), (w3, .inl (cI, 41, .inl Nn)), (h0, .inr (1, [.ref q1, .ref q2, .ref q3, .ref q4, .int (nI n)]))] sz) [(w0, .inr (3, [.ref w1, .ref w2, .ref w3, .int (nI u.2.2)])), (w1, .inl (cZ, 40, .inl u.1)), (w2, .inl (cI, 40, .inl u.2.1)), (w3, .inl (cI, 41, .inl Nn)), (h0, .inr (1, [.ref q1, .ref q2, .ref q3, .ref q4, .int (nI n)]))] t) ((va_A [(w0, .inr (3, [.ref w1, .ref w2, .ref w3, .int (nI cq)])), (w1, .inl (cZ, 40, .inl B)), (w2, .inl (cI, 40, .inl U)), (w3, .inl (cI, 41, .inl Nn)), (h0, .inr (1, [.ref q1, .ref q2, .ref q3, .ref q4, .int (nI n)]))] sz))) 0 0 (va_A [(w0, .inr (3, [.ref w1, .ref w2, .ref w3, .int (nI cq)])), (w1, .inl (cZ, 40, .inl B)), (w2, .inl (cI, 40, .inl U)), (w3, .inl (cI, 41, .inl Nn)), (h0, .inr (1, [.ref q1, .ref q2, .ref q3, .ref q4, .int (nI n)]))] sz) := by
  refine bc_met (fun A => va_Qv (fun (u : bc_F × bc_F × Nat) => bc_kp n B U cq t u.1 u.2.1 u.2.2) (fun (u : bc_F × bc_F × Nat) t => bc_B (dC, dI) classes [(cI, .int), (cZ, .boolean)] A [(w0, .inr (3, [.ref w1, .ref w2, .ref w3, .int (nI u.2.2)])), (w1, .inl (cZ, 40, .inl u.1)), (w2, .inl (cI, 40, .inl u.2.1)), (w3, .inl (cI, 41, .inl Nn)), (h0, .inr (1, [.ref q1, .ref q2, .ref q3, .ref q4, .int (nI n)]))] t) A) (by decide) (Nat.le_of_ble_eq_true rfl) ?_
  intro p e s m args below meth c A ls F hr hlocks hin hA hP hD hl hS
  have hx := F.1
  have hb := F.2.1
  have hml := F.2.2.1
  have hown : s.vm.findClass "BranchConstants$Rewriting" = some m.cls := F.2.2.2.1
  have htw := F.2.2.2.2.1
  have hN := F.2.2.2.2.2.1
  have hK := F.2.2.2.2.2.2
  have hl : lv_has ls 3 [(0, .ref w0), (1, .ref h0), (2, .int (nI t))] := hl
  refine lv_iload_n hx hb de_W_keep_0 rfl (lv_at hl 2 rfl) ?_
  refine lv_aload_n hx hb de_W_keep_1 rfl (lv_at hl 1 rfl) ?_
  refine va_getN (D := (dC, dI)) (ci := 1) (v := .int (nI n)) (C := rc_C) (T := fc_C) (N := 5) hx hb htw wi_C hown hK hP 4 rfl rfl 4 (by decide) (va_Nw.use rfl (hN _ nm_15)) (fun _ h9 => h9) rfl de_W_keep_2 ?_
  refine lv_icmp_ge (tgt := 44) hx hb de_W_keep_5 (by decide) (fun hc_5 => ?_) (fun hc_5 => ?_)
  · exact bc_vret F hr hlocks ((B, U, cq)) ⟨fun z => absurd z (by have := bc_ge (by omega) ht hc_5; omega), fun _ => ⟨rfl, rfl, rfl⟩⟩ hP hD hS de_W_keep_44
  · have hlt : t < n := bc_lt (by omega) ht hc_5
    refine lv_aload_n hx hb de_W_keep_8 rfl (lv_at hl 0 rfl) ?_
    refine va_get (D := (dC, dI)) (ci := 3) (v := .ref w1) (C := rc_W) (T := fc_W) (N := 4) hx hb htw wi_W hown hK hP 0 rfl rfl 0 (by decide) (htw _ wm_64) (fun _ h9 => h9) rfl de_W_keep_9 ?_
    refine lv_iload_n hx hb de_W_keep_12 rfl (lv_at hl 2 rfl) ?_
    refine bc_zld (j := t) hx hb hK hP 1 1 rfl rfl (by omega) (by decide) de_W_keep_13 ?_
    refine lv_if_ne (tgt := 44) hx hb de_W_keep_14 (by decide) (fun hc_14 => ?_) (fun hc_14 => ?_)
    · exact bc_vret F hr hlocks ((B, U, cq)) ⟨fun _ z => absurd z hc_14, fun _ => ⟨rfl, rfl, rfl⟩⟩ hP hD hS de_W_keep_44
    · have hq9 : cq < 40 := hcq hlt hc_14
      refine lv_aload_n hx hb de_W_keep_17 rfl (lv_at hl 0 rfl) ?_
      refine va_get (D := (dC, dI)) (ci := 3) (v := .ref w1) (C := rc_W) (T := fc_W) (N := 4) hx hb htw wi_W hown hK hP 0 rfl rfl 0 (by decide) (htw _ wm_64) (fun _ h9 => h9) rfl de_W_keep_18 ?_
      refine lv_iload_n hx hb de_W_keep_21 rfl (lv_at hl 2 rfl) ?_
      refine lv_iconst (v := 1) hx hb de_W_keep_22 (by decide) ?_
      refine bc_zst (j := t) hx hb hK hP hD hS 1 1 rfl rfl (by decide) (by omega) (by decide) de_W_keep_23 (fun H locs hP hD hS => ?_)
      have hP : va_P (dC, dI) classes [(w0, .inr (3, [.ref w1, .ref w2, .ref w3, .int (nI cq)])), (w1, .inl (cZ, 40, .inl (upd B t 1))), (w2, .inl (cI, 40, .inl U)), (w3, .inl (cI, 41, .inl Nn)), (h0, .inr (1, [.ref q1, .ref q2, .ref q3, .ref q4, .int (nI n)]))] H := hP
      have hD : va_D A [(w0, .inr (3, [.ref w1, .ref w2, .ref w3, .int (nI cq)])), (w1, .inl (cZ, 40, .inl (upd B t 1))), (w2, .inl (cI, 40, .inl U)), (w3, .inl (cI, 41, .inl Nn)), (h0, .inr (1, [.ref q1, .ref q2, .ref q3, .ref q4, .int (nI n)]))] := hD
      refine lv_aload_n hx hb de_W_keep_24 rfl (lv_at hl 0 rfl) ?_
      refine va_get (D := (dC, dI)) (ci := 3) (v := .ref w2) (C := rc_W) (T := fc_W) (N := 4) hx hb htw wi_W hown hK hP 0 rfl rfl 1 (by decide) (htw _ wm_65) (fun _ h9 => h9) rfl de_W_keep_25 ?_
      refine lv_aload_n hx hb de_W_keep_28 rfl (lv_at hl 0 rfl) ?_
      refine va_get (D := (dC, dI)) (ci := 3) (v := .int (nI cq)) (C := rc_W) (T := fc_W) (N := 4) hx hb htw wi_W hown hK hP 0 rfl rfl 3 (by decide) (htw _ wm_67) (fun _ h9 => h9) rfl de_W_keep_29 ?_
      refine lv_iload_n hx hb de_W_keep_32 rfl (lv_at hl 2 rfl) ?_
      refine bc_ist (j := cq) hx hb hK hP hD hS 2 0 rfl rfl hq9 (by decide) de_W_keep_33 (fun H locs hP hD hS => ?_)
      have hP : va_P (dC, dI) classes [(w0, .inr (3, [.ref w1, .ref w2, .ref w3, .int (nI cq)])), (w1, .inl (cZ, 40, .inl (upd B t 1))), (w2, .inl (cI, 40, .inl (upd U cq (nI t)))), (w3, .inl (cI, 41, .inl Nn)), (h0, .inr (1, [.ref q1, .ref q2, .ref q3, .ref q4, .int (nI n)]))] H := hP
      have hD : va_D A [(w0, .inr (3, [.ref w1, .ref w2, .ref w3, .int (nI cq)])), (w1, .inl (cZ, 40, .inl (upd B t 1))), (w2, .inl (cI, 40, .inl (upd U cq (nI t)))), (w3, .inl (cI, 41, .inl Nn)), (h0, .inr (1, [.ref q1, .ref q2, .ref q3, .ref q4, .int (nI n)]))] := hD
      refine lv_aload_n hx hb de_W_keep_34 rfl (lv_at hl 0 rfl) ?_
      refine lv_dup hx hb de_W_keep_35 rfl ?_
      refine va_get (D := (dC, dI)) (ci := 3) (v := .int (nI cq)) (C := rc_W) (T := fc_W) (N := 4) hx hb htw wi_W hown hK hP 0 rfl rfl 3 (by decide) (htw _ wm_67) (fun _ h9 => h9) rfl de_W_keep_36 ?_
      refine lv_iconst (v := 1) hx hb de_W_keep_39 (by decide) ?_
      refine lv_iadd hx hb de_W_keep_40 ?_
      refine bc_ti (y := nI (cq + 1)) (nI_1 cq) ?_
      refine va_put (D := (dC, dI)) (ci := 3) (v := .int (nI (cq + 1))) (ty := .int) (C := rc_W) (T := fc_W) (N := 4) hx hb htw wi_W tc_W tc_W_ok nc_W hown hK hP hD hS 0 rfl rfl 3 (by decide) (htw _ wm_67) (fun _ h9 => h9) rfl (by decide +kernel) rfl rfl (Nat.le_of_ble_eq_true rfl) de_W_keep_41 (fun H locs hP hD hS => ?_)
      have hP : va_P (dC, dI) classes [(w0, .inr (3, [.ref w1, .ref w2, .ref w3, .int (nI (cq + 1))])), (w1, .inl (cZ, 40, .inl (upd B t 1))), (w2, .inl (cI, 40, .inl (upd U cq (nI t)))), (w3, .inl (cI, 41, .inl Nn)), (h0, .inr (1, [.ref q1, .ref q2, .ref q3, .ref q4, .int (nI n)]))] H := hP
      have hD : va_D A [(w0, .inr (3, [.ref w1, .ref w2, .ref w3, .int (nI (cq + 1))])), (w1, .inl (cZ, 40, .inl (upd B t 1))), (w2, .inl (cI, 40, .inl (upd U cq (nI t)))), (w3, .inl (cI, 41, .inl Nn)), (h0, .inr (1, [.ref q1, .ref q2, .ref q3, .ref q4, .int (nI n)]))] := hD
      exact bc_vret F hr hlocks ((upd B t 1, upd U cq (nI t), cq + 1)) ⟨fun _ _ => ⟨rfl, rfl, rfl⟩, fun z => absurd ⟨hlt, hc_14⟩ z⟩ hP hD hS de_W_keep_44

set_option maxHeartbeats 4000000 in
set_option maxRecDepth 100000 in
/-- what can be come to stays -/
theorem co_W_keepWhatCanBeComeTo {l : Launch} {dC : Nat → ClassId} {dI : Nat → Nat → Nat} {cI cZ : ClassId} {sz : Nat} {w0 w1 w2 w3 cq : Nat} {B U Nn : bc_F}{h0 q1 q2 q3 q4 n : Nat} {K O T Z : bc_F}(hn : n ≤ 40) (htr : ∀ j, j < n → bc_gs (K j) → bc_tr (T j)) : Met l yn_W_keepWhatCanBeComeTo (Cond.code yn_W_keepWhatCanBeComeTo by_W_keepWhatCanBeComeTo 4 none :: wd_all) ({ frames := 1, cells := 0, slots := 0, locals := 22 } : Room) (bc_Pre (dC, dI) classes [(cI, .int), (cZ, .boolean)] [.ref w0, .ref h0] [(w0, .inr (3, [.ref w1, .ref w2, .ref w3, .int (nI cq)])), (w1, .inl (cZ, 40, .inl B)), (w2, .inl (cI, 40, .inl U)), (w3, .inl (cI, 41, .inl Nn)), (h0, .inr (1, [.ref q1, .ref q2, .ref q3, .ref q4, .int (nI n)])), (q1, .inl (cI, 40, .inl K)), (q2, .inl (cI, 40, .inl O)), (q3, .inl (cI, 40, .inl T)), (q4, .inl (cI, 40, .inl Z))] sz) (va_Qv (fun (u : bc_F × bc_F × Nat) => ∀ j, j < n → (u.1 j ≠ 0 ↔ bc_sty n K (fun j => bc_tn n (T j)) j)) (fun (u : bc_F × bc_F × Nat) t => bc_B (dC, dI) classes [(cI, .int), (cZ, .boolean)] (va_A [(w0, .inr (3, [.ref w1, .ref w2, .ref w3, .int (nI cq)])), (w1, .inl (cZ, 40, .inl B)), (w2, .inl (cI, 40, .inl U)), (w3, .inl (cI, 41, .inl Nn)), (h0, .inr (1, [.ref q1, .ref q2, .ref q3, .ref q4, .int (nI n)])), (q1, .inl (cI, 40, .inl K)), (q2, .inl (cI, 40, .inl O)), (q3, .inl (cI, 40, .inl T)), (q4, .inl (cI, 40, .inl Z))] sz) [(w0, .inr (3, [.ref w1, .ref w2, .ref w3, .int (nI u.2.2)])), (w1, .inl (cZ, 40, .inl u.1)), (w2, .inl (cI, 40, .inl u.2.1)), (w3, .inl (cI, 41, .inl Nn)), (h0, .inr (1, [.ref q1, .ref q2, .ref q3, .ref q4, .int (nI n)])), (q1, .inl (cI, 40, .inl K)), (q2, .inl (cI, 40, .inl O)), (q3, .inl (cI, 40, .inl T)), (q4, .inl (cI, 40, .inl Z))] t) ((va_A [(w0, .inr (3, [.ref w1, .ref w2, .ref w3, .int (nI cq)])), (w1, .inl (cZ, 40, .inl B)), (w2, .inl (cI, 40, .inl U)), (w3, .inl (cI, 41, .inl Nn)), (h0, .inr (1, [.ref q1, .ref q2, .ref q3, .ref q4, .int (nI n)])), (q1, .inl (cI, 40, .inl K)), (q2, .inl (cI, 40, .inl O)), (q3, .inl (cI, 40, .inl T)), (q4, .inl (cI, 40, .inl Z))] sz))) 0 0 (va_A [(w0, .inr (3, [.ref w1, .ref w2, .ref w3, .int (nI cq)])), (w1, .inl (cZ, 40, .inl B)), (w2, .inl (cI, 40, .inl U)), (w3, .inl (cI, 41, .inl Nn)), (h0, .inr (1, [.ref q1, .ref q2, .ref q3, .ref q4, .int (nI n)])), (q1, .inl (cI, 40, .inl K)), (q2, .inl (cI, 40, .inl O)), (q3, .inl (cI, 40, .inl T)), (q4, .inl (cI, 40, .inl Z))] sz) := by
  refine bc_met (fun A => va_Qv (fun (u : bc_F × bc_F × Nat) => ∀ j, j < n → (u.1 j ≠ 0 ↔ bc_sty n K (fun j => bc_tn n (T j)) j)) (fun (u : bc_F × bc_F × Nat) t => bc_B (dC, dI) classes [(cI, .int), (cZ, .boolean)] A [(w0, .inr (3, [.ref w1, .ref w2, .ref w3, .int (nI u.2.2)])), (w1, .inl (cZ, 40, .inl u.1)), (w2, .inl (cI, 40, .inl u.2.1)), (w3, .inl (cI, 41, .inl Nn)), (h0, .inr (1, [.ref q1, .ref q2, .ref q3, .ref q4, .int (nI n)])), (q1, .inl (cI, 40, .inl K)), (q2, .inl (cI, 40, .inl O)), (q3, .inl (cI, 40, .inl T)), (q4, .inl (cI, 40, .inl Z))] t) A) (by decide) (Nat.le_of_ble_eq_true rfl) ?_
  intro p e s m args below meth c A ls F hr hlocks hin hA hP hD hl hS
  have hx := F.1
  have hb := F.2.1
  have hml := F.2.2.1
  have hown : s.vm.findClass "BranchConstants$Rewriting" = some m.cls := F.2.2.2.1
  have htw := F.2.2.2.2.1
  have hN := F.2.2.2.2.2.1
  have hK := F.2.2.2.2.2.2
  have hl : lv_has ls 4 [(0, .ref w0), (1, .ref h0)] := hl
  refine lv_iconst (v := 0) hx hb de_W_keepWhatCanBeComeTo_0 (by decide) ?_
  refine bc_ti (y := nI 0) nI_0.symm ?_
  refine lv_istore_n (lv' := [(2, .int (nI 0)), (0, .ref w0), (1, .ref h0)]) hx hb de_W_keepWhatCanBeComeTo_1 rfl hl (by decide) rfl (fun ls hl => ?_)
  refine bc_loop (fun k_2 H locs ls => ∃ (i : Nat) (B1 : bc_F), lv_has ls 4 [(2, .int (nI i)), (0, .ref w0), (1, .ref h0)] ∧ va_P (dC, dI) classes [(w0, .inr (3, [.ref w1, .ref w2, .ref w3, .int (nI cq)])), (w1, .inl (cZ, 40, .inl B1)), (w2, .inl (cI, 40, .inl U)), (w3, .inl (cI, 41, .inl Nn)), (h0, .inr (1, [.ref q1, .ref q2, .ref q3, .ref q4, .int (nI n)])), (q1, .inl (cI, 40, .inl K)), (q2, .inl (cI, 40, .inl O)), (q3, .inl (cI, 40, .inl T)), (q4, .inl (cI, 40, .inl Z))] H ∧ va_D A [(w0, .inr (3, [.ref w1, .ref w2, .ref w3, .int (nI cq)])), (w1, .inl (cZ, 40, .inl B1)), (w2, .inl (cI, 40, .inl U)), (w3, .inl (cI, 41, .inl Nn)), (h0, .inr (1, [.ref q1, .ref q2, .ref q3, .ref q4, .int (nI n)])), (q1, .inl (cI, 40, .inl K)), (q2, .inl (cI, 40, .inl O)), (q3, .inl (cI, 40, .inl T)), (q4, .inl (cI, 40, .inl Z))] ∧ va_S A s.heap H locs ∧ k_2 = n - i ∧ (i ≤ n) ∧ (∀ j, j < i → B1 j = 0)) ?_ ?_
  · rintro k_2 H locs ls ⟨i, B1, hl, hP, hD, hS, hk_2, hi, hz⟩ ih_2
    refine lv_iload_n hx hb de_W_keepWhatCanBeComeTo_2 rfl (lv_at hl 0 rfl) ?_
    refine lv_aload_n hx hb de_W_keepWhatCanBeComeTo_3 rfl (lv_at hl 2 rfl) ?_
    refine va_getN (D := (dC, dI)) (ci := 1) (v := .int (nI n)) (C := rc_C) (T := fc_C) (N := 5) hx hb htw wi_C hown hK hP 4 rfl rfl 4 (by decide) (va_Nw.use rfl (hN _ nm_15)) (fun _ h9 => h9) rfl de_W_keepWhatCanBeComeTo_4 ?_
    refine lv_icmp_ge (tgt := 23) hx hb de_W_keepWhatCanBeComeTo_7 (by decide) (fun hc_7 => ?_) (fun hc_7 => ?_)
    · have heq : i = n := by have := bc_ge (by omega) (by omega) hc_7; omega
      have hz : ∀ j, j < n → B1 j = 0 := fun j hj => hz j (by omega)
      refine lv_aload_n hx hb de_W_keepWhatCanBeComeTo_23 rfl (lv_at hl 1 rfl) ?_
      refine lv_iconst (v := 0) hx hb de_W_keepWhatCanBeComeTo_24 (by decide) ?_
      refine bc_ti (y := nI 0) nI_0.symm ?_
      refine va_put (D := (dC, dI)) (ci := 3) (v := .int (nI 0)) (ty := .int) (C := rc_W) (T := fc_W) (N := 4) hx hb htw wi_W tc_W tc_W_ok nc_W hown hK hP hD hS 0 rfl rfl 3 (by decide) (htw _ wm_67) (fun _ h9 => h9) rfl (by decide +kernel) rfl rfl (Nat.le_of_ble_eq_true rfl) de_W_keepWhatCanBeComeTo_25 (fun H locs hP hD hS => ?_)
      have hP : va_P (dC, dI) classes [(w0, .inr (3, [.ref w1, .ref w2, .ref w3, .int (nI 0)])), (w1, .inl (cZ, 40, .inl B1)), (w2, .inl (cI, 40, .inl U)), (w3, .inl (cI, 41, .inl Nn)), (h0, .inr (1, [.ref q1, .ref q2, .ref q3, .ref q4, .int (nI n)])), (q1, .inl (cI, 40, .inl K)), (q2, .inl (cI, 40, .inl O)), (q3, .inl (cI, 40, .inl T)), (q4, .inl (cI, 40, .inl Z))] H := hP
      have hD : va_D A [(w0, .inr (3, [.ref w1, .ref w2, .ref w3, .int (nI 0)])), (w1, .inl (cZ, 40, .inl B1)), (w2, .inl (cI, 40, .inl U)), (w3, .inl (cI, 41, .inl Nn)), (h0, .inr (1, [.ref q1, .ref q2, .ref q3, .ref q4, .int (nI n)])), (q1, .inl (cI, 40, .inl K)), (q2, .inl (cI, 40, .inl O)), (q3, .inl (cI, 40, .inl T)), (q4, .inl (cI, 40, .inl Z))] := hD
      refine lv_aload_n hx hb de_W_keepWhatCanBeComeTo_28 rfl (lv_at hl 1 rfl) ?_
      refine lv_aload_n hx hb de_W_keepWhatCanBeComeTo_29 rfl (lv_at hl 2 rfl) ?_
      refine lv_iconst (v := 0) hx hb de_W_keepWhatCanBeComeTo_30 (by decide) ?_
      refine bc_ti (y := nI 0) nI_0.symm ?_
      refine bc_call_v_v (As := [.ref h0, .int (nI 0)]) (rest := []) (wr := [(q1, .inl (cI, 40, .inl K)), (q2, .inl (cI, 40, .inl O)), (q3, .inl (cI, 40, .inl T)), (q4, .inl (cI, 40, .inl Z))]) F (co_W_keep (cq := 0) hn (by omega) (fun _ _ => by omega)) wm_334 wm_4 wm_332 wm_333 wm_615 0 rfl rfl pd_W_keep rfl rfl ⟨Nat.le_of_ble_eq_true rfl, Nat.le_of_ble_eq_true rfl⟩ hP hD hS hA [0, 1, 2, 3, 4] [5, 6, 7, 8] rfl rfl rfl rfl (by decide) rfl hl.1 rfl (Nat.le_of_ble_eq_true rfl) de_W_keepWhatCanBeComeTo_31 ⟨Nat.le_of_ble_eq_true rfl, Nat.le_of_ble_eq_true rfl⟩ (fun u_31 H locs hw_31 hP hD hS => ?_)
      obtain ⟨B2, U2, c2⟩ := u_31
      dsimp only at hw_31
      have hP : va_P (dC, dI) classes [(w0, .inr (3, [.ref w1, .ref w2, .ref w3, .int (nI c2)])), (w1, .inl (cZ, 40, .inl B2)), (w2, .inl (cI, 40, .inl U2)), (w3, .inl (cI, 41, .inl Nn)), (h0, .inr (1, [.ref q1, .ref q2, .ref q3, .ref q4, .int (nI n)])), (q1, .inl (cI, 40, .inl K)), (q2, .inl (cI, 40, .inl O)), (q3, .inl (cI, 40, .inl T)), (q4, .inl (cI, 40, .inl Z))] H := hP.sub [4, 5, 6, 7, 8, 0, 1, 2, 3] rfl
      have hD : va_D A [(w0, .inr (3, [.ref w1, .ref w2, .ref w3, .int (nI c2)])), (w1, .inl (cZ, 40, .inl B2)), (w2, .inl (cI, 40, .inl U2)), (w3, .inl (cI, 41, .inl Nn)), (h0, .inr (1, [.ref q1, .ref q2, .ref q3, .ref q4, .int (nI n)])), (q1, .inl (cI, 40, .inl K)), (q2, .inl (cI, 40, .inl O)), (q3, .inl (cI, 40, .inl T)), (q4, .inl (cI, 40, .inl Z))] := hD.sub [4, 5, 6, 7, 8, 0, 1, 2, 3] (by decide) rfl
      refine lv_iconst (v := 0) hx hb de_W_keepWhatCanBeComeTo_34 (by decide) ?_
      refine bc_ti (y := nI 0) nI_0.symm ?_
      refine lv_istore_n (lv' := [(2, .int (nI 0)), (0, .ref w0), (1, .ref h0)]) hx hb de_W_keepWhatCanBeComeTo_35 rfl hl (by decide) rfl (fun ls hl => ?_)
      have hQ0 := bc_QI_kp (bc_QI_0 (K := K) (q := (fun j => bc_tn n (T j))) (U := U) hz) (Nat.le_refl 0) hw_31 (fun z => bc_sty_0 z)
      refine bc_loop (fun k_36 H locs ls => ∃ (d : Nat) (B2 : bc_F) (U2 : bc_F) (c2 : Nat), lv_has ls 4 [(2, .int (nI d)), (0, .ref w0), (1, .ref h0)] ∧ va_P (dC, dI) classes [(w0, .inr (3, [.ref w1, .ref w2, .ref w3, .int (nI c2)])), (w1, .inl (cZ, 40, .inl B2)), (w2, .inl (cI, 40, .inl U2)), (w3, .inl (cI, 41, .inl Nn)), (h0, .inr (1, [.ref q1, .ref q2, .ref q3, .ref q4, .int (nI n)])), (q1, .inl (cI, 40, .inl K)), (q2, .inl (cI, 40, .inl O)), (q3, .inl (cI, 40, .inl T)), (q4, .inl (cI, 40, .inl Z))] H ∧ va_D A [(w0, .inr (3, [.ref w1, .ref w2, .ref w3, .int (nI c2)])), (w1, .inl (cZ, 40, .inl B2)), (w2, .inl (cI, 40, .inl U2)), (w3, .inl (cI, 41, .inl Nn)), (h0, .inr (1, [.ref q1, .ref q2, .ref q3, .ref q4, .int (nI n)])), (q1, .inl (cI, 40, .inl K)), (q2, .inl (cI, 40, .inl O)), (q3, .inl (cI, 40, .inl T)), (q4, .inl (cI, 40, .inl Z))] ∧ va_S A s.heap H locs ∧ k_36 = n - d ∧ (d ≤ c2) ∧ (bc_QI n K (fun j => bc_tn n (T j)) B2 U2 c2 d) ∧ (0 < n → B2 0 ≠ 0)) ?_ ?_
      · rintro k_36 H locs ls ⟨d, B2, U2, c2, hl, hP, hD, hS, hk_36, hd, hQ, h0B⟩ ih_36
        refine lv_iload_n hx hb de_W_keepWhatCanBeComeTo_36 rfl (lv_at hl 0 rfl) ?_
        refine lv_aload_n hx hb de_W_keepWhatCanBeComeTo_37 rfl (lv_at hl 1 rfl) ?_
        refine va_get (D := (dC, dI)) (ci := 3) (v := .int (nI c2)) (C := rc_W) (T := fc_W) (N := 4) hx hb htw wi_W hown hK hP 0 rfl rfl 3 (by decide) (htw _ wm_67) (fun _ h9 => h9) rfl de_W_keepWhatCanBeComeTo_38 ?_
        refine lv_icmp_ge (tgt := 113) hx hb de_W_keepWhatCanBeComeTo_41 (by decide) (fun hc_41 => ?_) (fun hc_41 => ?_)
        · have hend : c2 ≤ d := by have := bc_QI_c hQ; have := bc_ge (by omega) (by omega) hc_41; omega
          exact bc_vret F hr hlocks ((B2, U2, c2)) (bc_QI_end hQ h0B hend) hP hD hS de_W_keepWhatCanBeComeTo_113
        · have hcn := bc_QI_c hQ
          have hdc : d < c2 := bc_lt (by omega) (by omega) hc_41
          refine lv_iload_n hx hb de_W_keepWhatCanBeComeTo_44 rfl (lv_at hl 0 rfl) ?_
          refine lv_aload_n hx hb de_W_keepWhatCanBeComeTo_45 rfl (lv_at hl 2 rfl) ?_
          refine va_getN (D := (dC, dI)) (ci := 1) (v := .int (nI n)) (C := rc_C) (T := fc_C) (N := 5) hx hb htw wi_C hown hK hP 4 rfl rfl 4 (by decide) (va_Nw.use rfl (hN _ nm_15)) (fun _ h9 => h9) rfl de_W_keepWhatCanBeComeTo_46 ?_
          refine lv_icmp_ge (tgt := 113) hx hb de_W_keepWhatCanBeComeTo_49 (by decide) (fun hc_49 => ?_) (fun hc_49 => ?_)
          · have hend : c2 ≤ d := by have := bc_QI_c hQ; have := bc_ge (by omega) (by omega) hc_49; omega
            exact bc_vret F hr hlocks ((B2, U2, c2)) (bc_QI_end hQ h0B hend) hP hD hS de_W_keepWhatCanBeComeTo_113
          · obtain ⟨j, hj, hU, hB⟩ := hQ.2.2.1 d hdc
            refine lv_aload_n hx hb de_W_keepWhatCanBeComeTo_52 rfl (lv_at hl 1 rfl) ?_
            refine va_get (D := (dC, dI)) (ci := 3) (v := .ref w2) (C := rc_W) (T := fc_W) (N := 4) hx hb htw wi_W hown hK hP 0 rfl rfl 1 (by decide) (htw _ wm_65) (fun _ h9 => h9) rfl de_W_keepWhatCanBeComeTo_53 ?_
            refine lv_iload_n hx hb de_W_keepWhatCanBeComeTo_56 rfl (lv_at hl 0 rfl) ?_
            refine bc_ild (j := d) hx hb hK hP 2 0 rfl rfl (by omega) (by decide) de_W_keepWhatCanBeComeTo_57 ?_
            refine bc_ti (y := nI j) hU ?_
            refine lv_istore_n (lv' := [(3, .int (nI j)), (2, .int (nI d)), (0, .ref w0), (1, .ref h0)]) hx hb de_W_keepWhatCanBeComeTo_58 rfl hl (by decide) rfl (fun ls hl => ?_)
            refine lv_aload_n hx hb de_W_keepWhatCanBeComeTo_59 rfl (lv_at hl 3 rfl) ?_
            refine lv_iload_n hx hb de_W_keepWhatCanBeComeTo_60 rfl (lv_at hl 0 rfl) ?_
            refine bc_call_nv_i (As := [.int (nI j)]) (rest := []) (wr := [(w0, .inr (3, [.ref w1, .ref w2, .ref w3, .int (nI c2)])), (w1, .inl (cZ, 40, .inl B2)), (w2, .inl (cI, 40, .inl U2)), (w3, .inl (cI, 41, .inl Nn))]) F (co_C_hasTarget (by omega)) wm_325 wm_2 nm_43 wm_324 wm_613 4 rfl rfl pd_C_hasTarget rfl rfl ⟨Nat.le_of_ble_eq_true rfl, Nat.le_of_ble_eq_true rfl⟩ hP hD hS hA [4, 5, 6, 7, 8] [0, 1, 2, 3] rfl rfl rfl rfl (by decide) rfl hl.1 rfl (Nat.le_of_ble_eq_true rfl) de_W_keepWhatCanBeComeTo_61 ⟨Nat.le_of_ble_eq_true rfl, Nat.le_of_ble_eq_true rfl⟩ (fun r_61 u_61 H locs hw_61 hP hD hS => ?_)
            have hP : va_P (dC, dI) classes [(w0, .inr (3, [.ref w1, .ref w2, .ref w3, .int (nI c2)])), (w1, .inl (cZ, 40, .inl B2)), (w2, .inl (cI, 40, .inl U2)), (w3, .inl (cI, 41, .inl Nn)), (h0, .inr (1, [.ref q1, .ref q2, .ref q3, .ref q4, .int (nI n)])), (q1, .inl (cI, 40, .inl K)), (q2, .inl (cI, 40, .inl O)), (q3, .inl (cI, 40, .inl T)), (q4, .inl (cI, 40, .inl Z))] H := hP.sub [0, 1, 2, 3, 4, 5, 6, 7, 8] rfl
            have hD : va_D A [(w0, .inr (3, [.ref w1, .ref w2, .ref w3, .int (nI c2)])), (w1, .inl (cZ, 40, .inl B2)), (w2, .inl (cI, 40, .inl U2)), (w3, .inl (cI, 41, .inl Nn)), (h0, .inr (1, [.ref q1, .ref q2, .ref q3, .ref q4, .int (nI n)])), (q1, .inl (cI, 40, .inl K)), (q2, .inl (cI, 40, .inl O)), (q3, .inl (cI, 40, .inl T)), (q4, .inl (cI, 40, .inl Z))] := hD.sub [0, 1, 2, 3, 4, 5, 6, 7, 8] (by decide) rfl
            rcases hw_61 with ⟨he_61, hv_61⟩ | ⟨he_61, hv_61⟩
            · subst he_61
              refine lv_if_eq (tgt := 77) hx hb de_W_keepWhatCanBeComeTo_64 (by decide) (fun hc => absurd hc (by decide)) (fun _ => ?_)
              refine lv_aload_n hx hb de_W_keepWhatCanBeComeTo_67 rfl (lv_at hl 2 rfl) ?_
              refine lv_aload_n hx hb de_W_keepWhatCanBeComeTo_68 rfl (lv_at hl 3 rfl) ?_
              refine lv_aload_n hx hb de_W_keepWhatCanBeComeTo_69 rfl (lv_at hl 3 rfl) ?_
              refine lv_iload_n hx hb de_W_keepWhatCanBeComeTo_70 rfl (lv_at hl 0 rfl) ?_
              refine bc_call_nv_i (As := [.int (nI j)]) (rest := [.ref h0, .ref w0]) (wr := [(w0, .inr (3, [.ref w1, .ref w2, .ref w3, .int (nI c2)])), (w1, .inl (cZ, 40, .inl B2)), (w2, .inl (cI, 40, .inl U2)), (w3, .inl (cI, 41, .inl Nn))]) F (co_C_target (by omega) hn (htr j hj hv_61)) wm_154 wm_2 nm_44 wm_153 wm_601 4 rfl rfl pd_C_target rfl rfl ⟨Nat.le_of_ble_eq_true rfl, Nat.le_of_ble_eq_true rfl⟩ hP hD hS hA [4, 5, 6, 7, 8] [0, 1, 2, 3] rfl rfl rfl rfl (by decide) rfl hl.1 rfl (Nat.le_of_ble_eq_true rfl) de_W_keepWhatCanBeComeTo_71 ⟨Nat.le_of_ble_eq_true rfl, Nat.le_of_ble_eq_true rfl⟩ (fun r_71 u_71 H locs hw_71 hP hD hS => ?_)
              have hP : va_P (dC, dI) classes [(w0, .inr (3, [.ref w1, .ref w2, .ref w3, .int (nI c2)])), (w1, .inl (cZ, 40, .inl B2)), (w2, .inl (cI, 40, .inl U2)), (w3, .inl (cI, 41, .inl Nn)), (h0, .inr (1, [.ref q1, .ref q2, .ref q3, .ref q4, .int (nI n)])), (q1, .inl (cI, 40, .inl K)), (q2, .inl (cI, 40, .inl O)), (q3, .inl (cI, 40, .inl T)), (q4, .inl (cI, 40, .inl Z))] H := hP.sub [0, 1, 2, 3, 4, 5, 6, 7, 8] rfl
              have hD : va_D A [(w0, .inr (3, [.ref w1, .ref w2, .ref w3, .int (nI c2)])), (w1, .inl (cZ, 40, .inl B2)), (w2, .inl (cI, 40, .inl U2)), (w3, .inl (cI, 41, .inl Nn)), (h0, .inr (1, [.ref q1, .ref q2, .ref q3, .ref q4, .int (nI n)])), (q1, .inl (cI, 40, .inl K)), (q2, .inl (cI, 40, .inl O)), (q3, .inl (cI, 40, .inl T)), (q4, .inl (cI, 40, .inl Z))] := hD.sub [0, 1, 2, 3, 4, 5, 6, 7, 8] (by decide) rfl
              subst hw_71
              refine bc_call_v_v (As := [.ref h0, .int (nI (bc_tn n (T j)))]) (rest := []) (wr := [(q1, .inl (cI, 40, .inl K)), (q2, .inl (cI, 40, .inl O)), (q3, .inl (cI, 40, .inl T)), (q4, .inl (cI, 40, .inl Z))]) F (co_W_keep hn (by have := bc_tn_le n (T j); omega) (fun a b => by have := bc_QI_lt hQ a b; omega)) wm_334 wm_4 wm_332 wm_333 wm_615 0 rfl rfl pd_W_keep rfl rfl ⟨Nat.le_of_ble_eq_true rfl, Nat.le_of_ble_eq_true rfl⟩ hP hD hS hA [0, 1, 2, 3, 4] [5, 6, 7, 8] rfl rfl rfl rfl (by decide) rfl hl.1 rfl (Nat.le_of_ble_eq_true rfl) de_W_keepWhatCanBeComeTo_74 ⟨Nat.le_of_ble_eq_true rfl, Nat.le_of_ble_eq_true rfl⟩ (fun u_74 H locs hw_74 hP hD hS => ?_)
              obtain ⟨B3, U3, c3⟩ := u_74
              dsimp only at hw_74
              have hm3 := bc_kp_mk hw_74
              obtain ⟨hQ3, hd3⟩ := bc_QI_kp hQ hd hw_74 (fun z => bc_sty_s hj (hQ.2.1 j hj hB) ⟨z, Or.inl ⟨hv_61, rfl⟩⟩)
              have hU3 := (bc_kp_U hw_74 hdc).trans hU
              have hP : va_P (dC, dI) classes [(w0, .inr (3, [.ref w1, .ref w2, .ref w3, .int (nI c3)])), (w1, .inl (cZ, 40, .inl B3)), (w2, .inl (cI, 40, .inl U3)), (w3, .inl (cI, 41, .inl Nn)), (h0, .inr (1, [.ref q1, .ref q2, .ref q3, .ref q4, .int (nI n)])), (q1, .inl (cI, 40, .inl K)), (q2, .inl (cI, 40, .inl O)), (q3, .inl (cI, 40, .inl T)), (q4, .inl (cI, 40, .inl Z))] H := hP.sub [4, 5, 6, 7, 8, 0, 1, 2, 3] rfl
              have hD : va_D A [(w0, .inr (3, [.ref w1, .ref w2, .ref w3, .int (nI c3)])), (w1, .inl (cZ, 40, .inl B3)), (w2, .inl (cI, 40, .inl U3)), (w3, .inl (cI, 41, .inl Nn)), (h0, .inr (1, [.ref q1, .ref q2, .ref q3, .ref q4, .int (nI n)])), (q1, .inl (cI, 40, .inl K)), (q2, .inl (cI, 40, .inl O)), (q3, .inl (cI, 40, .inl T)), (q4, .inl (cI, 40, .inl Z))] := hD.sub [4, 5, 6, 7, 8, 0, 1, 2, 3] (by decide) rfl
              refine lv_aload_n hx hb de_W_keepWhatCanBeComeTo_77 rfl (lv_at hl 3 rfl) ?_
              refine va_getN (D := (dC, dI)) (ci := 1) (v := .ref q1) (C := rc_C) (T := fc_C) (N := 5) hx hb htw wi_C hown hK hP 4 rfl rfl 0 (by decide) (va_Nw.use rfl (hN _ nm_1)) (fun _ h9 => h9) rfl de_W_keepWhatCanBeComeTo_78 ?_
              refine lv_iload_n hx hb de_W_keepWhatCanBeComeTo_81 rfl (lv_at hl 0 rfl) ?_
              refine bc_ild (j := j) hx hb hK hP 5 0 rfl rfl (by omega) (by decide) de_W_keepWhatCanBeComeTo_82 ?_
              refine lv_bipush (v := 6) hx hb de_W_keepWhatCanBeComeTo_83 (by decide) ?_
              refine lv_icmp_eq (tgt := 107) hx hb de_W_keepWhatCanBeComeTo_85 (by decide) (fun hc_85 => ?_) (fun hc_85 => ?_)
              · refine lv_iinc (k := 1) (v := nI (d + 1)) (lv' := [(2, .int (nI (d + 1))), (3, .int (nI j)), (0, .ref w0), (1, .ref h0)]) hx hb de_W_keepWhatCanBeComeTo_107 hl rfl (bc_inc _) (by decide) rfl (fun ls hl => ?_)
                refine lv_goto (tgt := 36) hx hb de_W_keepWhatCanBeComeTo_110 (by decide) ?_
                exact ih_36 _ _ _ _ (by omega) ⟨(d + 1), B3, U3, c3, lv_sub hl [0, 2, 3] rfl, hP, hD, hS, rfl, by have := bc_kp_c hw_74; omega, bc_QI_step (c := c3) (d := d) (A := B3) (U := U3) (by omega) hQ3 hj hU3 (fun t hs => hs.2.elim (fun z => by have e9 := z.2; subst e9; exact (bc_mk_at hm3 hs.1)) (fun z => absurd hc_85 z.1)), fun z => bc_mk_ge hm3 (h0B z)⟩
              · refine lv_aload_n hx hb de_W_keepWhatCanBeComeTo_88 rfl (lv_at hl 3 rfl) ?_
                refine va_getN (D := (dC, dI)) (ci := 1) (v := .ref q1) (C := rc_C) (T := fc_C) (N := 5) hx hb htw wi_C hown hK hP 4 rfl rfl 0 (by decide) (va_Nw.use rfl (hN _ nm_1)) (fun _ h9 => h9) rfl de_W_keepWhatCanBeComeTo_89 ?_
                refine lv_iload_n hx hb de_W_keepWhatCanBeComeTo_92 rfl (lv_at hl 0 rfl) ?_
                refine bc_ild (j := j) hx hb hK hP 5 0 rfl rfl (by omega) (by decide) de_W_keepWhatCanBeComeTo_93 ?_
                refine lv_bipush (v := 7) hx hb de_W_keepWhatCanBeComeTo_94 (by decide) ?_
                refine lv_icmp_eq (tgt := 107) hx hb de_W_keepWhatCanBeComeTo_96 (by decide) (fun hc_96 => ?_) (fun hc_96 => ?_)
                · refine lv_iinc (k := 1) (v := nI (d + 1)) (lv' := [(2, .int (nI (d + 1))), (3, .int (nI j)), (0, .ref w0), (1, .ref h0)]) hx hb de_W_keepWhatCanBeComeTo_107 hl rfl (bc_inc _) (by decide) rfl (fun ls hl => ?_)
                  refine lv_goto (tgt := 36) hx hb de_W_keepWhatCanBeComeTo_110 (by decide) ?_
                  exact ih_36 _ _ _ _ (by omega) ⟨(d + 1), B3, U3, c3, lv_sub hl [0, 2, 3] rfl, hP, hD, hS, rfl, by have := bc_kp_c hw_74; omega, bc_QI_step (c := c3) (d := d) (A := B3) (U := U3) (by omega) hQ3 hj hU3 (fun t hs => hs.2.elim (fun z => by have e9 := z.2; subst e9; exact (bc_mk_at hm3 hs.1)) (fun z => absurd hc_96 z.2.1)), fun z => bc_mk_ge hm3 (h0B z)⟩
                · refine lv_aload_n hx hb de_W_keepWhatCanBeComeTo_99 rfl (lv_at hl 2 rfl) ?_
                  refine lv_aload_n hx hb de_W_keepWhatCanBeComeTo_100 rfl (lv_at hl 3 rfl) ?_
                  refine lv_iload_n hx hb de_W_keepWhatCanBeComeTo_101 rfl (lv_at hl 0 rfl) ?_
                  refine lv_iconst (v := 1) hx hb de_W_keepWhatCanBeComeTo_102 (by decide) ?_
                  refine lv_iadd hx hb de_W_keepWhatCanBeComeTo_103 ?_
                  refine bc_ti (y := nI (j + 1)) (nI_1 j) ?_
                  refine bc_call_v_v (As := [.ref h0, .int (nI (j + 1))]) (rest := []) (wr := [(q1, .inl (cI, 40, .inl K)), (q2, .inl (cI, 40, .inl O)), (q3, .inl (cI, 40, .inl T)), (q4, .inl (cI, 40, .inl Z))]) F (co_W_keep hn (by omega) (fun a b => by have := bc_QI_lt hQ3 a b; omega)) wm_334 wm_4 wm_332 wm_333 wm_615 0 rfl rfl pd_W_keep rfl rfl ⟨Nat.le_of_ble_eq_true rfl, Nat.le_of_ble_eq_true rfl⟩ hP hD hS hA [0, 1, 2, 3, 4] [5, 6, 7, 8] rfl rfl rfl rfl (by decide) rfl hl.1 rfl (Nat.le_of_ble_eq_true rfl) de_W_keepWhatCanBeComeTo_104 ⟨Nat.le_of_ble_eq_true rfl, Nat.le_of_ble_eq_true rfl⟩ (fun u_104 H locs hw_104 hP hD hS => ?_)
                  obtain ⟨B4, U4, c4⟩ := u_104
                  dsimp only at hw_104
                  have hm4 := bc_kp_mk hw_104
                  obtain ⟨hQ4, hd4⟩ := bc_QI_kp hQ3 hd3 hw_104 (fun z => bc_sty_s hj (hQ3.2.1 j hj (bc_mk_ge hm3 hB)) ⟨z, Or.inr ⟨hc_85, hc_96, rfl⟩⟩)
                  have hU4 := (bc_kp_U hw_104 (by have := bc_kp_c hw_74; omega)).trans hU3
                  have hP : va_P (dC, dI) classes [(w0, .inr (3, [.ref w1, .ref w2, .ref w3, .int (nI c4)])), (w1, .inl (cZ, 40, .inl B4)), (w2, .inl (cI, 40, .inl U4)), (w3, .inl (cI, 41, .inl Nn)), (h0, .inr (1, [.ref q1, .ref q2, .ref q3, .ref q4, .int (nI n)])), (q1, .inl (cI, 40, .inl K)), (q2, .inl (cI, 40, .inl O)), (q3, .inl (cI, 40, .inl T)), (q4, .inl (cI, 40, .inl Z))] H := hP.sub [4, 5, 6, 7, 8, 0, 1, 2, 3] rfl
                  have hD : va_D A [(w0, .inr (3, [.ref w1, .ref w2, .ref w3, .int (nI c4)])), (w1, .inl (cZ, 40, .inl B4)), (w2, .inl (cI, 40, .inl U4)), (w3, .inl (cI, 41, .inl Nn)), (h0, .inr (1, [.ref q1, .ref q2, .ref q3, .ref q4, .int (nI n)])), (q1, .inl (cI, 40, .inl K)), (q2, .inl (cI, 40, .inl O)), (q3, .inl (cI, 40, .inl T)), (q4, .inl (cI, 40, .inl Z))] := hD.sub [4, 5, 6, 7, 8, 0, 1, 2, 3] (by decide) rfl
                  refine lv_iinc (k := 1) (v := nI (d + 1)) (lv' := [(2, .int (nI (d + 1))), (3, .int (nI j)), (0, .ref w0), (1, .ref h0)]) hx hb de_W_keepWhatCanBeComeTo_107 hl rfl (bc_inc _) (by decide) rfl (fun ls hl => ?_)
                  refine lv_goto (tgt := 36) hx hb de_W_keepWhatCanBeComeTo_110 (by decide) ?_
                  exact ih_36 _ _ _ _ (by omega) ⟨(d + 1), B4, U4, c4, lv_sub hl [0, 2, 3] rfl, hP, hD, hS, rfl, by have := bc_kp_c hw_74; have := bc_kp_c hw_104; omega, bc_QI_step (c := c4) (d := d) (A := B4) (U := U4) (by omega) hQ4 hj hU4 (fun t hs => hs.2.elim (fun z => by have e9 := z.2; subst e9; exact (bc_mk_ge hm4 (bc_mk_at hm3 hs.1))) (fun z => by have e9 := z.2.2; subst e9; exact bc_mk_at hm4 hs.1)), fun z => bc_mk_ge hm4 (bc_mk_ge hm3 (h0B z))⟩
            · subst he_61
              refine lv_if_eq (tgt := 77) hx hb de_W_keepWhatCanBeComeTo_64 (by decide) (fun _ => ?_) (fun hc => absurd (by decide) hc)
              refine lv_aload_n hx hb de_W_keepWhatCanBeComeTo_77 rfl (lv_at hl 3 rfl) ?_
              refine va_getN (D := (dC, dI)) (ci := 1) (v := .ref q1) (C := rc_C) (T := fc_C) (N := 5) hx hb htw wi_C hown hK hP 4 rfl rfl 0 (by decide) (va_Nw.use rfl (hN _ nm_1)) (fun _ h9 => h9) rfl de_W_keepWhatCanBeComeTo_78 ?_
              refine lv_iload_n hx hb de_W_keepWhatCanBeComeTo_81 rfl (lv_at hl 0 rfl) ?_
              refine bc_ild (j := j) hx hb hK hP 5 0 rfl rfl (by omega) (by decide) de_W_keepWhatCanBeComeTo_82 ?_
              refine lv_bipush (v := 6) hx hb de_W_keepWhatCanBeComeTo_83 (by decide) ?_
              refine lv_icmp_eq (tgt := 107) hx hb de_W_keepWhatCanBeComeTo_85 (by decide) (fun hc_85 => ?_) (fun hc_85 => ?_)
              · refine lv_iinc (k := 1) (v := nI (d + 1)) (lv' := [(2, .int (nI (d + 1))), (3, .int (nI j)), (0, .ref w0), (1, .ref h0)]) hx hb de_W_keepWhatCanBeComeTo_107 hl rfl (bc_inc _) (by decide) rfl (fun ls hl => ?_)
                refine lv_goto (tgt := 36) hx hb de_W_keepWhatCanBeComeTo_110 (by decide) ?_
                exact ih_36 _ _ _ _ (by omega) ⟨(d + 1), B2, U2, c2, lv_sub hl [0, 2, 3] rfl, hP, hD, hS, rfl, by omega, bc_QI_step (c := c2) (d := d) (A := B2) (U := U2) (by omega) hQ hj hU (fun t hs => hs.2.elim (fun z => absurd z.1 hv_61) (fun z => absurd hc_85 z.1)), h0B⟩
              · refine lv_aload_n hx hb de_W_keepWhatCanBeComeTo_88 rfl (lv_at hl 3 rfl) ?_
                refine va_getN (D := (dC, dI)) (ci := 1) (v := .ref q1) (C := rc_C) (T := fc_C) (N := 5) hx hb htw wi_C hown hK hP 4 rfl rfl 0 (by decide) (va_Nw.use rfl (hN _ nm_1)) (fun _ h9 => h9) rfl de_W_keepWhatCanBeComeTo_89 ?_
                refine lv_iload_n hx hb de_W_keepWhatCanBeComeTo_92 rfl (lv_at hl 0 rfl) ?_
                refine bc_ild (j := j) hx hb hK hP 5 0 rfl rfl (by omega) (by decide) de_W_keepWhatCanBeComeTo_93 ?_
                refine lv_bipush (v := 7) hx hb de_W_keepWhatCanBeComeTo_94 (by decide) ?_
                refine lv_icmp_eq (tgt := 107) hx hb de_W_keepWhatCanBeComeTo_96 (by decide) (fun hc_96 => ?_) (fun hc_96 => ?_)
                · refine lv_iinc (k := 1) (v := nI (d + 1)) (lv' := [(2, .int (nI (d + 1))), (3, .int (nI j)), (0, .ref w0), (1, .ref h0)]) hx hb de_W_keepWhatCanBeComeTo_107 hl rfl (bc_inc _) (by decide) rfl (fun ls hl => ?_)
                  refine lv_goto (tgt := 36) hx hb de_W_keepWhatCanBeComeTo_110 (by decide) ?_
                  exact ih_36 _ _ _ _ (by omega) ⟨(d + 1), B2, U2, c2, lv_sub hl [0, 2, 3] rfl, hP, hD, hS, rfl, by omega, bc_QI_step (c := c2) (d := d) (A := B2) (U := U2) (by omega) hQ hj hU (fun t hs => hs.2.elim (fun z => absurd z.1 hv_61) (fun z => absurd hc_96 z.2.1)), h0B⟩
                · refine lv_aload_n hx hb de_W_keepWhatCanBeComeTo_99 rfl (lv_at hl 2 rfl) ?_
                  refine lv_aload_n hx hb de_W_keepWhatCanBeComeTo_100 rfl (lv_at hl 3 rfl) ?_
                  refine lv_iload_n hx hb de_W_keepWhatCanBeComeTo_101 rfl (lv_at hl 0 rfl) ?_
                  refine lv_iconst (v := 1) hx hb de_W_keepWhatCanBeComeTo_102 (by decide) ?_
                  refine lv_iadd hx hb de_W_keepWhatCanBeComeTo_103 ?_
                  refine bc_ti (y := nI (j + 1)) (nI_1 j) ?_
                  refine bc_call_v_v (As := [.ref h0, .int (nI (j + 1))]) (rest := []) (wr := [(q1, .inl (cI, 40, .inl K)), (q2, .inl (cI, 40, .inl O)), (q3, .inl (cI, 40, .inl T)), (q4, .inl (cI, 40, .inl Z))]) F (co_W_keep hn (by omega) (fun a b => by have := bc_QI_lt hQ a b; omega)) wm_334 wm_4 wm_332 wm_333 wm_615 0 rfl rfl pd_W_keep rfl rfl ⟨Nat.le_of_ble_eq_true rfl, Nat.le_of_ble_eq_true rfl⟩ hP hD hS hA [0, 1, 2, 3, 4] [5, 6, 7, 8] rfl rfl rfl rfl (by decide) rfl hl.1 rfl (Nat.le_of_ble_eq_true rfl) de_W_keepWhatCanBeComeTo_104 ⟨Nat.le_of_ble_eq_true rfl, Nat.le_of_ble_eq_true rfl⟩ (fun u_104 H locs hw_104 hP hD hS => ?_)
                  obtain ⟨B4, U4, c4⟩ := u_104
                  dsimp only at hw_104
                  have hm4 := bc_kp_mk hw_104
                  obtain ⟨hQ4, hd4⟩ := bc_QI_kp hQ hd hw_104 (fun z => bc_sty_s hj (hQ.2.1 j hj hB) ⟨z, Or.inr ⟨hc_85, hc_96, rfl⟩⟩)
                  have hU4 := (bc_kp_U hw_104 hdc).trans hU
                  have hP : va_P (dC, dI) classes [(w0, .inr (3, [.ref w1, .ref w2, .ref w3, .int (nI c4)])), (w1, .inl (cZ, 40, .inl B4)), (w2, .inl (cI, 40, .inl U4)), (w3, .inl (cI, 41, .inl Nn)), (h0, .inr (1, [.ref q1, .ref q2, .ref q3, .ref q4, .int (nI n)])), (q1, .inl (cI, 40, .inl K)), (q2, .inl (cI, 40, .inl O)), (q3, .inl (cI, 40, .inl T)), (q4, .inl (cI, 40, .inl Z))] H := hP.sub [4, 5, 6, 7, 8, 0, 1, 2, 3] rfl
                  have hD : va_D A [(w0, .inr (3, [.ref w1, .ref w2, .ref w3, .int (nI c4)])), (w1, .inl (cZ, 40, .inl B4)), (w2, .inl (cI, 40, .inl U4)), (w3, .inl (cI, 41, .inl Nn)), (h0, .inr (1, [.ref q1, .ref q2, .ref q3, .ref q4, .int (nI n)])), (q1, .inl (cI, 40, .inl K)), (q2, .inl (cI, 40, .inl O)), (q3, .inl (cI, 40, .inl T)), (q4, .inl (cI, 40, .inl Z))] := hD.sub [4, 5, 6, 7, 8, 0, 1, 2, 3] (by decide) rfl
                  refine lv_iinc (k := 1) (v := nI (d + 1)) (lv' := [(2, .int (nI (d + 1))), (3, .int (nI j)), (0, .ref w0), (1, .ref h0)]) hx hb de_W_keepWhatCanBeComeTo_107 hl rfl (bc_inc _) (by decide) rfl (fun ls hl => ?_)
                  refine lv_goto (tgt := 36) hx hb de_W_keepWhatCanBeComeTo_110 (by decide) ?_
                  exact ih_36 _ _ _ _ (by omega) ⟨(d + 1), B4, U4, c4, lv_sub hl [0, 2, 3] rfl, hP, hD, hS, rfl, by have := bc_kp_c hw_104; omega, bc_QI_step (c := c4) (d := d) (A := B4) (U := U4) (by omega) hQ4 hj hU4 (fun t hs => hs.2.elim (fun z => absurd z.1 hv_61) (fun z => by have e9 := z.2.2; subst e9; exact bc_mk_at hm4 hs.1)), fun z => bc_mk_ge hm4 (h0B z)⟩
      · exact ⟨_, 0, B2, U2, c2, lv_sub hl [0, 1, 2] rfl, hP, hD, hS, rfl, Nat.zero_le _, hQ0.1, fun z => bc_mk_at (bc_kp_mk hw_31) z⟩
    · have hlt : i < n := bc_lt (by omega) (by omega) hc_7
      refine lv_aload_n hx hb de_W_keepWhatCanBeComeTo_10 rfl (lv_at hl 1 rfl) ?_
      refine va_get (D := (dC, dI)) (ci := 3) (v := .ref w1) (C := rc_W) (T := fc_W) (N := 4) hx hb htw wi_W hown hK hP 0 rfl rfl 0 (by decide) (htw _ wm_64) (fun _ h9 => h9) rfl de_W_keepWhatCanBeComeTo_11 ?_
      refine lv_iload_n hx hb de_W_keepWhatCanBeComeTo_14 rfl (lv_at hl 0 rfl) ?_
      refine lv_iconst (v := 0) hx hb de_W_keepWhatCanBeComeTo_15 (by decide) ?_
      refine bc_zst (j := i) hx hb hK hP hD hS 1 1 rfl rfl (by decide) (by omega) (by decide) de_W_keepWhatCanBeComeTo_16 (fun H locs hP hD hS => ?_)
      have hP : va_P (dC, dI) classes [(w0, .inr (3, [.ref w1, .ref w2, .ref w3, .int (nI cq)])), (w1, .inl (cZ, 40, .inl (upd B1 i 0))), (w2, .inl (cI, 40, .inl U)), (w3, .inl (cI, 41, .inl Nn)), (h0, .inr (1, [.ref q1, .ref q2, .ref q3, .ref q4, .int (nI n)])), (q1, .inl (cI, 40, .inl K)), (q2, .inl (cI, 40, .inl O)), (q3, .inl (cI, 40, .inl T)), (q4, .inl (cI, 40, .inl Z))] H := hP
      have hD : va_D A [(w0, .inr (3, [.ref w1, .ref w2, .ref w3, .int (nI cq)])), (w1, .inl (cZ, 40, .inl (upd B1 i 0))), (w2, .inl (cI, 40, .inl U)), (w3, .inl (cI, 41, .inl Nn)), (h0, .inr (1, [.ref q1, .ref q2, .ref q3, .ref q4, .int (nI n)])), (q1, .inl (cI, 40, .inl K)), (q2, .inl (cI, 40, .inl O)), (q3, .inl (cI, 40, .inl T)), (q4, .inl (cI, 40, .inl Z))] := hD
      refine lv_iinc (k := 0) (v := nI (i + 1)) (lv' := [(2, .int (nI (i + 1))), (0, .ref w0), (1, .ref h0)]) hx hb de_W_keepWhatCanBeComeTo_17 hl rfl (bc_inc _) (by decide) rfl (fun ls hl => ?_)
      refine lv_goto (tgt := 2) hx hb de_W_keepWhatCanBeComeTo_20 (by decide) ?_
      exact ih_2 _ _ _ _ (by omega) ⟨(i + 1), upd B1 i 0, lv_sub hl [0, 1, 2] rfl, hP, hD, hS, rfl, (by omega), bc_all1 hz⟩
  · exact ⟨_, 0, B, lv_sub hl [0, 1, 2] rfl, hP, hD, hS, rfl, Nat.zero_le _, fun j hj => absurd hj (Nat.not_lt_zero j)⟩

