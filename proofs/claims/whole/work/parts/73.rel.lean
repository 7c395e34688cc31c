/-! the abstract state, purely: what stays true -/
def bc_2 (a b : Int32) : bc_F
  | 0 => a
  | _ => b
def bc_X2 (a b : bc_F) : Nat → bc_F
  | 0 => a
  | _ => b
theorem bc_lt2 {y : Nat} (h : y < 2) : y = 0 ∨ y = 1 := by omega
theorem bc_MR_cg {n n2 : Nat} {P Q X X' : Nat → bc_F} {ra : Int32} {ON PL SP ON' PL' SP' K O T Z Sz On Pl Sp Vr : bc_F} {rw : Int32} (h : bc_MR n P ra n2 Q ON PL SP X K O T Z Sz On Pl Sp Vr rw) (h1 : ∀ y, y < 2 → ON y = ON' y) (h2 : ∀ y, y < 2 → ON y ≠ 0 → PL y = PL' y ∧ SP y = SP' y ∧ ∀ v, v < 6 → X y v = X' y v) :
    bc_MR n P ra n2 Q ON' PL' SP' X' K O T Z Sz On Pl Sp Vr rw := by
  refine ⟨h.1, h.2.1, h.2.2.1, h.2.2.2.1, fun y hy => ⟨(h.2.2.2.2 y hy).1.trans (h1 y hy), fun z => ?_⟩⟩
  rw [← h1 y hy] at z
  obtain ⟨a, b, d⟩ := (h.2.2.2.2 y hy).2 z
  obtain ⟨a', b', d'⟩ := h2 y hy z
  exact ⟨a.trans a', b.trans b', fun v hv => (d v hv).trans (d' v hv)⟩
theorem bc_AB_cg {n n2 : Nat} {P Q : Nat → bc_F} {ra : Int32} {ON PL SP ON' PL' SP' : bc_F} (h : bc_AB n P ra n2 Q ON PL SP) (h1 : ∀ y, y < 2 → ON y = ON' y) (h2 : ∀ y, y < 2 → ON y ≠ 0 → PL y = PL' y) : bc_AB n P ra n2 Q ON' PL' SP' := by
  obtain ⟨a1, a2, a3, a4, a5, a6, a7⟩ := h
  refine ⟨a1, a2, a3, a4, fun y hy => by rw [← h1 y hy]; exact a5 y hy, fun z => ?_, fun z => ?_⟩
  · rw [← h1 0 (by omega)] at z
    rw [← h2 0 (by omega) z]; exact a6 z
  · rw [← h1 1 (by omega)] at z
    rw [← h2 1 (by omega) z]; exact a7 z
theorem bc_si_wi {k o t z : Int32} (h : bc_si k o t z) : bc_wi k (bc_p1 k o) (bc_p2 k t) (bc_p3 k z) := by
  unfold bc_p1 bc_p2 bc_p3
  rcases h with ⟨e, h1⟩ | ⟨e, h1⟩ | ⟨e, h1⟩ | ⟨e, h1⟩ | ⟨e, h1⟩ | e
  · subst e; simp [bc_wi, h1]
  · subst e; simp [bc_wi, h1]
  · rcases e with e | e | e <;> (subst e; simp [bc_wi, h1])
  · subst e; simp [bc_wi, h1]
  · subst e; simp [bc_wi, h1]
  · subst e; simp [bc_wi]
theorem bc_pu_wf {n n' i : Nat} {P : Nat → bc_F} {k o t z : Int32} (hw : bc_wf n (P 1) (P 2) (P 3) (P 4)) (hs : bc_si k o t z) (hi : ∀ j, j < n' → j ≠ i → j < n) : bc_wf n' (bc_pu P i k o t z 1) (bc_pu P i k o t z 2) (bc_pu P i k o t z 3) (bc_pu P i k o t z 4) := by
  intro j hj
  show bc_wi (upd (P 1) i k j) (upd (P 2) i (bc_p1 k o) j) (upd (P 3) i (bc_p2 k t) j) (upd (P 4) i (bc_p3 k z) j)
  by_cases c : j = i
  · subst c; rw [pk_us, pk_us, pk_us, pk_us]; exact bc_si_wi hs
  · rw [pk_un c, pk_un c, pk_un c, pk_un c]; exact hw j (hi j hj c)
theorem bc_AB_off {n' n2 : Nat} {P' Q : Nat → bc_F} {PL SP : bc_F} (hn : n' ≤ 40) (hw : bc_wf n' (P' 1) (P' 2) (P' 3) (P' 4)) : bc_AB n' P' 0 n2 Q (fun _ => 0) PL SP :=
  ⟨hn, hw, Or.inl rfl, fun z => absurd rfl z, fun _ _ => Or.inl rfl, fun z => absurd rfl z, fun z => absurd rfl z⟩
theorem bc_AB_add {n n2 : Nat} {P Q : Nat → bc_F} {ra : Int32} {ON PL SP : bc_F} {k o t z : Int32} (h : bc_AB n P ra n2 Q ON PL SP) (hn : n < 40) (hs : bc_si k o t z) : bc_AB (n + 1) (bc_pu P n k o t z) 0 n2 Q (fun _ => 0) PL SP :=
  bc_AB_off (by omega) (bc_pu_wf h.2.1 hs (fun j h1 h2 => by omega))
theorem bc_AB_change {n n2 j : Nat} {P Q : Nat → bc_F} {ra : Int32} {ON PL SP : bc_F} {k o t z : Int32} (h : bc_AB n P ra n2 Q ON PL SP) (hs : bc_si k o t z) : bc_AB n (bc_pu P j k o t z) 0 n2 Q (fun _ => 0) PL SP :=
  bc_AB_off h.1 (bc_pu_wf h.2.1 hs (fun _ h1 _ => h1))
theorem bc_AB_clear {n2 : Nat} {P Q : Nat → bc_F} {PL SP : bc_F} : bc_AB 0 P 0 n2 Q (fun _ => 0) PL SP :=
  bc_AB_off (by omega) (fun j hj => absurd hj (Nat.not_lt_zero j))
theorem bc_AB_rw {n n2 m2 : Nat} {P Q Q' : Nat → bc_F} {ra : Int32} {ON PL SP : bc_F} {g : bc_G} (h : bc_AB n P ra n2 Q ON PL SP) (hW : bc_RW n (bc_f1 n (P 1) (P 2) (P 3) (P 4) g) m2 (Q' 1) (Q' 2) (Q' 3) (Q' 4)) : bc_AB n P 1 m2 Q' (upd ON 1 0) PL SP := by
  obtain ⟨a1, a2, a3, a4, a5, a6, a7⟩ := h
  obtain ⟨b1, b2⟩ := bc_RW_wf a1 (fun i hi => bc_f1_q i hi) (fun i hi => bc_f1_wf a2 i hi) hW
  refine ⟨a1, a2, Or.inr rfl, fun _ => ⟨by omega, b2⟩, fun y hy => ?_, fun z => ?_, fun z => absurd pk_us z⟩
  · by_cases c : y = 1
    · subst c; rw [pk_us]; exact Or.inl rfl
    · rw [pk_un c]; exact a5 y hy
  · rw [pk_un (by omega)] at z; exact a6 z
theorem bc_rn_ok {n : Nat} {K O T H : bc_F} : ∀ (k : Nat) (q : bc_F × Int32), bc_ok n q.2 → bc_ok n (bc_rn n K O T H k q).1.2
  | 0, _, h => h
  | k + 1, q, h => by
    unfold bc_rn
    by_cases e : q.2 = -1
    · rw [if_pos e]; exact h
    · rw [if_neg e]; exact bc_rn_ok k _ (bc_st_ok _ _ _ _ _ _ _)
theorem bc_AB_run {n n2 y : Nat} {P Q : Nat → bc_F} {ra : Int32} {ON PL SP SP' : bc_F} {p1 : Int32} (h : bc_AB n P ra n2 Q ON PL SP) (hy : y < 2) (hok : bc_ok (bc_nn n n2 y) p1) : bc_AB n P ra n2 Q ON (upd PL y p1) SP' := by
  obtain ⟨a1, a2, a3, a4, a5, a6, a7⟩ := h
  refine ⟨a1, a2, a3, a4, a5, fun z => ?_, fun z => ⟨(a7 z).1, ?_⟩⟩
  · by_cases c : y = 0
    · subst c; rw [pk_us]; exact hok
    · rw [pk_un (by omega)]; exact a6 z
  · by_cases c : y = 1
    · subst c; rw [pk_us]; exact hok
    · rw [pk_un (by omega)]; exact (a7 z).2
theorem bc_AB_start {n n2 y : Nat} {P Q : Nat → bc_F} {ra : Int32} {ON PL SP SP' : bc_F} (h : bc_AB n P ra n2 Q ON PL SP) (hy : y < 2) (h1 : y = 1 → ra ≠ 0) : bc_AB n P ra n2 Q (upd ON y 1) (upd PL y (bc_pl (bc_nn n n2 y) 0)) SP' := by
  obtain ⟨a1, a2, a3, a4, a5, a6, a7⟩ := h
  refine ⟨a1, a2, a3, a4, fun w hw => ?_, fun z => ?_, fun z => ?_⟩
  · by_cases c : w = y
    · subst c; rw [pk_us]; exact Or.inr rfl
    · rw [pk_un c]; exact a5 w hw
  · by_cases c : y = 0
    · subst c; rw [pk_us]; exact bc_pl_ok _ _
    · rw [pk_un (by omega)] at z ⊢; exact a6 z
  · by_cases c : y = 1
    · subst c; rw [pk_us]; exact ⟨h1 rfl, bc_pl_ok _ _⟩
    · rw [pk_un (by omega)] at z ⊢; exact a7 z
