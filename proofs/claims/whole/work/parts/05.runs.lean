/-! runs, purely -/
def bc_as (K T H : bc_F) (i : Nat) (x : bc_F) : Int32 := if K i = 0 then T i else if K i = 1 then x (T i).toNatClampNeg else bc_ar (K i) (x (T i).toNatClampNeg) (x (H i).toNatClampNeg)
def bc_pl (n t : Nat) : Int32 := if t < n then nI t else -1
def bc_st (n : Nat) (K O T H : bc_F) (i : Nat) (x : bc_F) : bc_F × Int32 :=
  if K i = 7 then (x, -1) else if K i = 6 then (x, bc_pl n (T i).toNatClampNeg)
  else if K i = 5 then (x, if x (O i).toNatClampNeg = 0 then bc_pl n (T i).toNatClampNeg else bc_pl n (i + 1))
  else (upd x (O i).toNatClampNeg (bc_as K T H i x), bc_pl n (i + 1))
def bc_rn (n : Nat) (K O T H : bc_F) : Nat → bc_F × Int32 → (bc_F × Int32) × Nat
  | 0, s => (s, 0)
  | k + 1, s => if s.2 = -1 then (s, 0) else ((bc_rn n K O T H k (bc_st n K O T H s.2.toNatClampNeg s.1)).1, (bc_rn n K O T H k (bc_st n K O T H s.2.toNatClampNeg s.1)).2 + 1)
/-- a place: none, or an instruction -/
def bc_ok (n : Nat) (p : Int32) : Prop := p = -1 ∨ ∃ j : Nat, j < n ∧ p = nI j
theorem bc_pl_ok (n t : Nat) : bc_ok n (bc_pl n t) := by
  unfold bc_pl
  by_cases h : t < n
  · rw [if_pos h]; exact Or.inr ⟨t, h, rfl⟩
  · rw [if_neg h]; exact Or.inl rfl
theorem bc_st_ok (n : Nat) (K O T H : bc_F) (i : Nat) (x : bc_F) : bc_ok n (bc_st n K O T H i x).2 := by
  unfold bc_st
  by_cases h7 : K i = 7
  · rw [if_pos h7]; exact Or.inl rfl
  · rw [if_neg h7]
    by_cases h6 : K i = 6
    · rw [if_pos h6]; exact bc_pl_ok _ _
    · rw [if_neg h6]
      by_cases h5 : K i = 5
      · rw [if_pos h5]
        show bc_ok n (if x (O i).toNatClampNeg = 0 then _ else _)
        by_cases h0 : x (O i).toNatClampNeg = 0
        · rw [if_pos h0]; exact bc_pl_ok _ _
        · rw [if_neg h0]; exact bc_pl_ok _ _
      · rw [if_neg h5]; exact bc_pl_ok _ _
theorem bc_as_cg {K T H K' T' H' : bc_F} {i : Nat} {x y : bc_F} {o : Int32} (hk : K' i = K i) (ht : T' i = T i) (hh : H' i = H i) (hw : bc_wi (K i) o (T i) (H i)) (h4 : ¬ K i = 5 ∧ ¬ K i = 6 ∧ ¬ K i = 7) (h : ∀ v, v < 6 → x v = y v) : bc_as K T H i x = bc_as K' T' H' i y := by
  unfold bc_as
  rw [hk, ht, hh]
  by_cases k0 : K i = 0
  · rw [if_pos k0, if_pos k0]
  · rw [if_neg k0, if_neg k0]
    rcases hw with ⟨e, _⟩ | ⟨e, _, e2, _⟩ | ⟨e, _, e2, e3⟩ | ⟨e, _⟩ | ⟨e, _⟩ | ⟨e, _⟩
    · exact absurd e k0
    · rw [if_pos e, if_pos e]; exact h _ (bc_vr_lt e2)
    · have k1 : ¬ K i = 1 := by
        intro z
        rw [z] at e
        exact absurd e (by decide)
      rw [if_neg k1, if_neg k1, h _ (bc_vr_lt e2), h _ (bc_vr_lt e3)]
    · exact absurd e h4.1
    · exact absurd e h4.2.1
    · exact absurd e h4.2.2
theorem bc_st_cg {n : Nat} {K O T H K' O' T' H' : bc_F} {i : Nat} {x y : bc_F} (hk : K' i = K i) (ho : O' i = O i) (ht : T' i = T i) (hh : H' i = H i) (hw : bc_wi (K i) (O i) (T i) (H i)) (h : ∀ v, v < 6 → x v = y v) : (∀ v, v < 6 → (bc_st n K O T H i x).1 v = (bc_st n K' O' T' H' i y).1 v) ∧ (bc_st n K O T H i x).2 = (bc_st n K' O' T' H' i y).2 := by
  unfold bc_st
  rw [hk, ho, ht]
  by_cases h7 : K i = 7
  · rw [if_pos h7, if_pos h7]; exact ⟨h, rfl⟩
  · rw [if_neg h7, if_neg h7]
    by_cases h6 : K i = 6
    · rw [if_pos h6, if_pos h6]; exact ⟨h, rfl⟩
    · rw [if_neg h6, if_neg h6]
      by_cases h5 : K i = 5
      · rw [if_pos h5, if_pos h5]
        have hv : (O i).toNatClampNeg < 6 := by
          rcases hw with ⟨e, _⟩ | ⟨e, _⟩ | ⟨e, _⟩ | ⟨_, e, _⟩ | ⟨e, _⟩ | ⟨e, _⟩
          · rw [h5] at e; exact absurd e (by decide)
          · rw [h5] at e; exact absurd e (by decide)
          · rw [h5] at e; exact absurd e (by decide)
          · exact bc_vr_lt e
          · exact absurd e h6
          · exact absurd e h7
        refine ⟨h, ?_⟩
        show (if x (O i).toNatClampNeg = 0 then _ else _) = (if y (O i).toNatClampNeg = 0 then _ else _)
        rw [h _ hv]
      · rw [if_neg h5, if_neg h5]
        refine ⟨fun v hv => ?_, rfl⟩
        show upd x _ _ v = upd y _ _ v
        rw [bc_as_cg hk ht hh hw ⟨h5, h6, h7⟩ h]
        by_cases e : v = (O i).toNatClampNeg
        · subst e; rw [pk_us, pk_us]
        · rw [pk_un e, pk_un e]; exact h v hv
theorem bc_rn_cg {n : Nat} {K O T H K' O' T' H' : bc_F} (hn : n < 2 ^ 31) (hc : ∀ i, i < n → K' i = K i ∧ O' i = O i ∧ T' i = T i ∧ H' i = H i) (hw : bc_wf n K O T H) : ∀ (k : Nat) (x y : bc_F) (p : Int32), bc_ok n p → (∀ v, v < 6 → x v = y v) →
    (∀ v, v < 6 → (bc_rn n K O T H k (x, p)).1.1 v = (bc_rn n K' O' T' H' k (y, p)).1.1 v) ∧ (bc_rn n K O T H k (x, p)).1.2 = (bc_rn n K' O' T' H' k (y, p)).1.2 ∧ (bc_rn n K O T H k (x, p)).2 = (bc_rn n K' O' T' H' k (y, p)).2
  | 0, x, y, p, _, h => ⟨h, rfl, rfl⟩
  | k + 1, x, y, p, hp, h => by
    unfold bc_rn
    by_cases e : p = -1
    · simp only [if_pos e]; refine ⟨h, ?_, ?_⟩ <;> first | rfl | trivial
    · simp only [if_neg e]
      rcases hp with z | ⟨j, hj, z⟩
      · exact absurd z e
      · have ej : p.toNatClampNeg = j := by rw [z]; exact nI_clamp (Nat.lt_trans hj hn)
        rw [ej]
        obtain ⟨c1, c2, c3, c4⟩ := hc j hj
        obtain ⟨s1, s2⟩ := bc_st_cg (n := n) c1 c2 c3 c4 (hw j hj) h
        have hok := bc_st_ok n K O T H j x
        have main := bc_rn_cg hn hc hw k (bc_st n K O T H j x).1 (bc_st n K' O' T' H' j y).1 (bc_st n K O T H j x).2 hok s1
        have e2 : bc_st n K' O' T' H' j y = ((bc_st n K' O' T' H' j y).1, (bc_st n K O T H j x).2) := by rw [s2]
        rw [e2]
        exact ⟨main.1, main.2.1, by rw [main.2.2]⟩
