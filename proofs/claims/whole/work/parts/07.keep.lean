/-! what stays: the class's queue and the reference's sweeps -/
theorem bc_ct_up {A : bc_F} {t : Nat} (h0 : A t = 0) : ∀ n, bc_ct (upd A t 1) n = if t < n then bc_ct A n + 1 else bc_ct A n
  | 0 => by rw [if_neg (by omega)]; rfl
  | n + 1 => by
    have ih := bc_ct_up h0 n
    by_cases e : n = t
    · subst e
      rw [if_neg (by omega)] at ih
      rw [if_pos (by omega), bc_ct_1 (by rw [pk_us]; decide), bc_ct_0 h0, ih]
    · by_cases z : A n = 0
      · rw [bc_ct_0 (by rw [pk_un e]; exact z), bc_ct_0 z, ih]
        by_cases c : t < n
        · rw [if_pos c, if_pos (by omega)]
        · rw [if_neg c, if_neg (by omega)]
      · rw [bc_ct_1 (by rw [pk_un e]; exact z), bc_ct_1 z, ih]
        by_cases c : t < n
        · rw [if_pos c, if_pos (by omega)]
        · rw [if_neg c, if_neg (by omega)]
/-- A' is A with t marked, where t is an instruction -/
def bc_mk (n : Nat) (A : bc_F) (t : Nat) (A' : bc_F) : Prop := (t < n → A t = 0 → A' = upd A t 1) ∧ (¬ (t < n ∧ A t = 0) → A' = A)
theorem bc_mk_ge {n t : Nat} {A A' : bc_F} (h : bc_mk n A t A') {j : Nat} (hj : A j ≠ 0) : A' j ≠ 0 := by
  by_cases c : t < n ∧ A t = 0
  · rw [h.1 c.1 c.2]
    by_cases e : j = t
    · subst e; rw [pk_us]; decide
    · rw [pk_un e]; exact hj
  · rw [h.2 c]; exact hj
theorem bc_mk_at {n t : Nat} {A A' : bc_F} (h : bc_mk n A t A') (ht : t < n) : A' t ≠ 0 := by
  by_cases c : A t = 0
  · rw [h.1 ht c, pk_us]; decide
  · rw [h.2 (fun z => c z.2)]; exact c
theorem bc_mk_low {n t : Nat} {A A' : bc_F} {K : bc_F} {q : Nat → Nat} (h : bc_mk n A t A') (hl : ∀ j, j < n → A j ≠ 0 → bc_sty n K q j) (ht : t < n → bc_sty n K q t) : ∀ j, j < n → A' j ≠ 0 → bc_sty n K q j := by
  intro j hj hA
  by_cases c : t < n ∧ A t = 0
  · rw [h.1 c.1 c.2] at hA
    by_cases e : j = t
    · subst e; exact ht hj
    · rw [pk_un e] at hA; exact hl j hj hA
  · rw [h.2 c] at hA; exact hl j hj hA
/-- the queue's invariant: c are queued, d of them are done -/
def bc_QI (n : Nat) (K : bc_F) (q : Nat → Nat) (A U : bc_F) (c d : Nat) : Prop :=
  c = bc_ct A n ∧ (∀ j, j < n → A j ≠ 0 → bc_sty n K q j) ∧ (∀ x, x < c → ∃ j, j < n ∧ U x = nI j ∧ A j ≠ 0) ∧ (∀ j, j < n → A j ≠ 0 → ∃ x, x < c ∧ U x = nI j) ∧ (∀ x, x < d → x < c → ∀ j, j < n → U x = nI j → ∀ t, bc_sc n K q j t → A t ≠ 0)
def bc_kp (n : Nat) (A U : bc_F) (c t : Nat) (A' U' : bc_F) (c' : Nat) : Prop := (t < n → A t = 0 → A' = upd A t 1 ∧ U' = upd U c (nI t) ∧ c' = c + 1) ∧ (¬ (t < n ∧ A t = 0) → A' = A ∧ U' = U ∧ c' = c)
theorem bc_kp_mk {n c t c' : Nat} {A U A' U' : bc_F} (h : bc_kp n A U c t A' U' c') : bc_mk n A t A' := ⟨fun a b => (h.1 a b).1, fun a => (h.2 a).1⟩
theorem bc_QI_kp {n : Nat} {K : bc_F} {q : Nat → Nat} {A U A' U' : bc_F} {c d t c' : Nat} (h : bc_QI n K q A U c d) (hd : d ≤ c) (hk : bc_kp n A U c t A' U' c') (ht : t < n → bc_sty n K q t) : bc_QI n K q A' U' c' d ∧ d ≤ c' := by
  by_cases z : t < n ∧ A t = 0
  · obtain ⟨e1, e2, e3⟩ := hk.1 z.1 z.2
    obtain ⟨h1, h2, h3, h4, h5⟩ := h
    have hm := bc_kp_mk hk
    refine ⟨⟨?_, bc_mk_low hm h2 ht, ?_, ?_, ?_⟩, by omega⟩
    · rw [e3, e1, bc_ct_up z.2, if_pos z.1, h1]
    · intro x hx
      by_cases e : x = c
      · exact ⟨t, z.1, by rw [e2, e, pk_us], bc_mk_at hm z.1⟩
      · obtain ⟨j, a1, a2, a3⟩ := h3 x (by omega)
        exact ⟨j, a1, by rw [e2, pk_un e]; exact a2, bc_mk_ge hm a3⟩
    · intro j hj hA
      by_cases e : j = t
      · exact ⟨c, by omega, by rw [e2, pk_us, e]⟩
      · rw [e1, pk_un e] at hA
        obtain ⟨x, a1, a2⟩ := h4 j hj hA
        exact ⟨x, by omega, by rw [e2, pk_un (by omega)]; exact a2⟩
    · intro x hx hxc j hj hU t' hs
      rw [e2, pk_un (by omega)] at hU
      exact bc_mk_ge hm (h5 x hx (by omega) j hj hU t' hs)
  · obtain ⟨e1, e2, e3⟩ := hk.2 z
    rw [e1, e2, e3]
    exact ⟨h, hd⟩
theorem bc_ct_full (A : bc_F) (n t : Nat) (ht : t < n) (h0 : A t = 0) : bc_ct A n < n := by
  have h1 := bc_ct_up h0 n
  rw [if_pos ht] at h1
  have h2 := bc_ct_le (upd A t 1) n
  omega
theorem bc_QI_step {n : Nat} {K : bc_F} {q : Nat → Nat} {A U A' U' : bc_F} {c d c' j : Nat} (hn : n < 2 ^ 31) (h : bc_QI n K q A' U' c' d) (hj : j < n) (hU : U' d = nI j) (hc : ∀ t, bc_sc n K q j t → A' t ≠ 0) : bc_QI n K q A' U' c' (d + 1) := by
  obtain ⟨h1, h2, h3, h4, h5⟩ := h
  refine ⟨h1, h2, h3, h4, fun x hx hxc j' hj' hU' t hs => ?_⟩
  by_cases e : x = d
  · subst e
    have e2 : j = j' := (nI_eq (Nat.lt_trans hj hn) (Nat.lt_trans hj' hn)).mp (hU.symm.trans hU')
    subst e2
    exact hc t hs
  · exact h5 x (by omega) hxc j' hj' hU' t hs
theorem bc_QI_end {n : Nat} {K : bc_F} {q : Nat → Nat} {A U : bc_F} {c d : Nat} (h : bc_QI n K q A U c d) (h0 : 0 < n → A 0 ≠ 0) (hd : c ≤ d) : ∀ j, j < n → (A j ≠ 0 ↔ bc_sty n K q j) := by
  obtain ⟨h1, h2, h3, h4, h5⟩ := h
  refine bc_sty_of h0 h2 (fun i t hi hA hs => ?_)
  obtain ⟨x, a1, a2⟩ := h4 i hi hA
  exact h5 x (by omega) a1 i hi a2 t hs
/-! sweeps -/
def bc_MI (n : Nat) (K : bc_F) (q : Nat → Nat) (c0 i : Nat) (A : bc_F) (u : Int32) : Prop :=
  (0 < n → A 0 ≠ 0) ∧ (∀ j, j < n → A j ≠ 0 → bc_sty n K q j) ∧ (u = 0 → ∀ j, j < i → j < n → A j ≠ 0 → ∀ t, bc_sc n K q j t → A t ≠ 0) ∧ c0 ≤ bc_ct A n ∧ (u ≠ 0 → c0 < bc_ct A n)
def bc_mu (n : Nat) (A : bc_F) (t : Nat) (u : Int32) (A' : bc_F) (u' : Int32) : Prop := (t < n → A t = 0 → A' = upd A t 1 ∧ u' = 1) ∧ (¬ (t < n ∧ A t = 0) → A' = A ∧ u' = u)
theorem bc_mu_mk {n t : Nat} {A A' : bc_F} {u u' : Int32} (h : bc_mu n A t u A' u') : bc_mk n A t A' := ⟨fun a b => (h.1 a b).1, fun a => (h.2 a).1⟩
theorem bc_MI_mu {n : Nat} {K : bc_F} {q : Nat → Nat} {c0 i t : Nat} {A A' : bc_F} {u u' : Int32} (h : bc_MI n K q c0 i A u) (hm : bc_mu n A t u A' u') (ht : t < n → bc_sty n K q t) : bc_MI n K q c0 i A' u' := by
  obtain ⟨h1, h2, h3, h4, h5⟩ := h
  by_cases z : t < n ∧ A t = 0
  · obtain ⟨e1, e2⟩ := hm.1 z.1 z.2
    have hk := bc_mu_mk hm
    have hc : bc_ct A' n = bc_ct A n + 1 := by rw [e1, bc_ct_up z.2, if_pos z.1]
    refine ⟨fun a => bc_mk_ge hk (h1 a), bc_mk_low hk h2 ht, fun a => ?_, by omega, fun _ => by omega⟩
    rw [e2] at a
    exact absurd a (by decide)
  · obtain ⟨e1, e2⟩ := hm.2 z
    rw [e1, e2]
    exact ⟨h1, h2, h3, h4, h5⟩
theorem bc_MI_step {n : Nat} {K : bc_F} {q : Nat → Nat} {c0 i : Nat} {A : bc_F} {u : Int32} (h : bc_MI n K q c0 i A u) (hc : A i ≠ 0 → ∀ t, bc_sc n K q i t → A t ≠ 0) : bc_MI n K q c0 (i + 1) A u := by
  obtain ⟨h1, h2, h3, h4, h5⟩ := h
  refine ⟨h1, h2, fun z j hj hjn hA t hs => ?_, h4, h5⟩
  by_cases e : j = i
  · subst e; exact hc hA t hs
  · exact h3 z j (by omega) hjn hA t hs
theorem bc_MI_end {n : Nat} {K : bc_F} {q : Nat → Nat} {c0 : Nat} {A : bc_F} (h : bc_MI n K q c0 n A 0) : ∀ j, j < n → (A j ≠ 0 ↔ bc_sty n K q j) :=
  bc_sty_of h.1 h.2.1 (fun i t hi hA hs => h.2.2.1 rfl i hi hi hA t hs)
