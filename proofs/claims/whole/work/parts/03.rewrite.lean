/-! REWRITING, purely: what fold, thread, drop and number make, as one relation that decides its answer -/
def bc_tn (n : Nat) (x : Int32) : Nat := if x.toNatClampNeg < n then x.toNatClampNeg else n
def bc_gs (k : Int32) : Prop := k = 6 ∨ k = 5
/-- an instruction behind FOLD: kind, one, two where it is no target, three, and the target where it is one (END is n) -/
def bc_f1 (n : Nat) (K O T H : bc_F) (g : bc_G) (i : Nat) : Int32 × Int32 × Int32 × Int32 × Nat :=
  if i < n then
    match g i with
    | none => if K i ≤ 4 ∨ K i = 7 then (K i, O i, T i, H i, 0) else (K i, O i, 0, H i, bc_tn n (T i))
    | some r =>
      if K i ≤ 4 then (match bc_rs K T H i r with
        | some x => (0, O i, x, 0, 0)
        | none => (K i, O i, T i, H i, 0))
      else if K i = 5 then (match r (O i).toNatClampNeg with
        | some x => (6, 0, 0, 0, if x = 0 then bc_tn n (T i) else i + 1)
        | none => (K i, O i, 0, H i, bc_tn n (T i)))
      else if K i = 7 then (K i, O i, T i, H i, 0) else (K i, O i, 0, H i, bc_tn n (T i))
  else (0, 0, 0, 0, 0)
theorem bc_rs_sim {K O T H : bc_F} {i : Nat} {r q : bc_R} (hw : bc_wi (K i) (O i) (T i) (H i)) (h4 : K i ≤ 4) (h : ∀ v, v < 6 → r v = q v) : bc_rs K T H i r = bc_rs K T H i q := by
  rcases bc_rs_le hw h4 (r := r) (q := q) (fun v hv => Or.inr (h v hv)) with e | e
  · rcases bc_rs_le hw h4 (r := q) (q := r) (fun v hv => Or.inr (h v hv).symm) with f | f
    · rw [e, f]
    · exact f.symm
  · exact e
theorem bc_f1_sim {n : Nat} {K O T H : bc_F} {g g' : bc_G} (hw : bc_wf n K O T H) (h : ∀ i, i < n → bc_sim (g i) (g' i)) : bc_f1 n K O T H g = bc_f1 n K O T H g' := by
  funext i
  unfold bc_f1
  by_cases hi : i < n
  · rw [if_pos hi, if_pos hi]
    have hs := h i hi
    cases hg : g i with
    | none =>
      cases hg' : g' i with
      | none => rfl
      | some q => rw [hg, hg'] at hs; exact False.elim hs
    | some r =>
      cases hg' : g' i with
      | none => rw [hg, hg'] at hs; exact False.elim hs
      | some q =>
        rw [hg, hg'] at hs
        have hs : ∀ v, v < 6 → r v = q v := hs
        show (if K i ≤ 4 then _ else _) = (if K i ≤ 4 then _ else _)
        by_cases h4 : K i ≤ 4
        · rw [if_pos h4, if_pos h4, bc_rs_sim (hw i hi) h4 hs]
        · rw [if_neg h4, if_neg h4]
          by_cases h5 : K i = 5
          · rw [if_pos h5, if_pos h5]
            have ho : (O i).toNatClampNeg < 6 := by
              rcases hw i hi with ⟨e, _⟩ | ⟨e, _⟩ | ⟨e, _⟩ | ⟨_, e, _⟩ | ⟨e, _⟩ | ⟨e, _⟩
              · rw [h5] at e; exact absurd e (by decide)
              · rw [h5] at e; exact absurd e (by decide)
              · rw [h5] at e; exact absurd e (by decide)
              · exact bc_vr_lt e
              · rw [h5] at e; exact absurd e (by decide)
              · rw [h5] at e; exact absurd e (by decide)
            rw [hs _ ho]
          · rw [if_neg h5, if_neg h5]
  · rw [if_neg hi, if_neg hi]
/-! chains -/
def bc_J (n : Nat) (K : bc_F) (t : Nat) : Prop := t < n ∧ K t = 6
def bc_hop (n : Nat) (K : bc_F) (q : Nat → Nat) (t : Nat) : Nat := if t < n ∧ K t = 6 then q t else t
def bc_it (f : Nat → Nat) : Nat → Nat → Nat
  | 0, t => t
  | k + 1, t => bc_it f k (f t)
def bc_end (n : Nat) (K : bc_F) (q : Nat → Nat) (t : Nat) : Nat := if bc_it (bc_hop n K q) (n + 1) t < n ∧ K (bc_it (bc_hop n K q) (n + 1) t) = 6 then t else bc_it (bc_hop n K q) (n + 1) t
def bc_fin (n : Nat) (K : bc_F) (q : Nat → Nat) (t e : Nat) : Prop := ∃ k, bc_it (bc_hop n K q) k t = e ∧ ¬ bc_J n K e
theorem bc_it_s (f : Nat → Nat) : ∀ (k t : Nat), bc_it f (k + 1) t = f (bc_it f k t)
  | 0, t => rfl
  | k + 1, t => by
    show bc_it f (k + 1) (f t) = f (bc_it f k (f t))
    exact bc_it_s f k (f t)
theorem bc_it_add (f : Nat → Nat) (a : Nat) : ∀ (b t : Nat), bc_it f (a + b) t = bc_it f b (bc_it f a t)
  | 0, t => rfl
  | b + 1, t => by
    rw [← Nat.add_assoc, bc_it_s, bc_it_add f a b t, bc_it_s f b]
theorem bc_hop_stop {n : Nat} {K : bc_F} {q : Nat → Nat} {t : Nat} (h : ¬ bc_J n K t) : bc_hop n K q t = t := if_neg h
theorem bc_hop_go {n : Nat} {K : bc_F} {q : Nat → Nat} {t : Nat} (h : bc_J n K t) : bc_hop n K q t = q t := if_pos h
theorem bc_it_stop {n : Nat} {K : bc_F} {q : Nat → Nat} {t : Nat} (h : ¬ bc_J n K t) : ∀ k, bc_it (bc_hop n K q) k t = t
  | 0 => rfl
  | k + 1 => by
    rw [bc_it_s, bc_it_stop h k, bc_hop_stop h]
/-- n + 1 numbers below n: two are equal -/
theorem bc_pigeon : ∀ (n : Nat) (f : Nat → Nat), (∀ k, k ≤ n → f k < n) → ∃ a b, a < b ∧ b ≤ n ∧ f a = f b
  | 0, f, h => by have := h 0 (Nat.le_refl _); omega
  | n + 1, f, h => by
    by_cases hx : ∃ a, a ≤ n ∧ f a = f (n + 1)
    · obtain ⟨a, h1, h2⟩ := hx
      exact ⟨a, n + 1, by omega, Nat.le_refl _, h2⟩
    · have hne : ∀ a, a ≤ n → f a ≠ f (n + 1) := fun a ha e => hx ⟨a, ha, e⟩
      have hl : f (n + 1) < n + 1 := h (n + 1) (Nat.le_refl _)
      obtain ⟨a, b, h1, h2, h3⟩ := bc_pigeon n (fun k => if f k = n then f (n + 1) else f k) (fun k hk => by
        show (if f k = n then f (n + 1) else f k) < n
        by_cases e : f k = n
        · rw [if_pos e]
          have := hne k hk
          omega
        · rw [if_neg e]
          have := h k (by omega)
          omega)
      refine ⟨a, b, h1, by omega, ?_⟩
      have h3 : (if f a = n then f (n + 1) else f a) = (if f b = n then f (n + 1) else f b) := h3
      by_cases ea : f a = n
      · by_cases eb : f b = n
        · rw [ea, eb]
        · rw [if_pos ea, if_neg eb] at h3
          exact absurd h3.symm (hne b h2)
      · by_cases eb : f b = n
        · rw [if_neg ea, if_pos eb] at h3
          exact absurd h3 (hne a (by omega))
        · rw [if_neg ea, if_neg eb] at h3
          exact h3
theorem bc_round {n : Nat} {K : bc_F} {q : Nat → Nat} {t : Nat} (h : ∀ k, k ≤ n → bc_J n K (bc_it (bc_hop n K q) k t)) : ∀ k, bc_J n K (bc_it (bc_hop n K q) k t) := by
  obtain ⟨a, b, h1, h2, h3⟩ := bc_pigeon n (fun k => bc_it (bc_hop n K q) k t) (fun k hk => (h k hk).1)
  have h3 : bc_it (bc_hop n K q) a t = bc_it (bc_hop n K q) b t := h3
  intro k
  induction k using Nat.strongRecOn with
  | _ k ih =>
    by_cases hk : k ≤ n
    · exact h k hk
    · have e1 : k = b + (k - b) := by omega
      have e2 : bc_it (bc_hop n K q) k t = bc_it (bc_hop n K q) (a + (k - b)) t := by
        rw [e1, bc_it_add, ← h3, ← bc_it_add]
        congr 1
        omega
      rw [e2]
      exact ih _ (by omega)
theorem bc_end_fin {n : Nat} {K : bc_F} {q : Nat → Nat} {t e : Nat} (h : bc_fin n K q t e) : bc_end n K q t = e := by
  obtain ⟨k, h1, h2⟩ := h
  have hx : ∃ k, k ≤ n ∧ ¬ bc_J n K (bc_it (bc_hop n K q) k t) := by
    apply Classical.byContradiction
    intro hno
    have := bc_round (n := n) (K := K) (q := q) (t := t) (fun k hk => Classical.byContradiction (fun z => hno ⟨k, hk, z⟩)) k
    rw [h1] at this
    exact h2 this
  obtain ⟨a, ha, hb⟩ := hx
  have e1 : bc_it (bc_hop n K q) (n + 1) t = bc_it (bc_hop n K q) a t := by
    rw [show n + 1 = a + (n + 1 - a) by omega, bc_it_add, bc_it_stop hb]
  have e2 : bc_it (bc_hop n K q) a t = e := by
    by_cases hak : a ≤ k
    · rw [← h1, show k = a + (k - a) by omega, bc_it_add, bc_it_stop hb]
    · have : bc_it (bc_hop n K q) a t = bc_it (bc_hop n K q) k t := by
        rw [show a = k + (a - k) by omega, bc_it_add]
        rw [h1, bc_it_stop h2]
      rw [this, h1]
  unfold bc_end
  rw [e1, e2]
  exact if_neg h2
theorem bc_end_no {n : Nat} {K : bc_F} {q : Nat → Nat} {t : Nat} (h : ¬ ∃ e, bc_fin n K q t e) : bc_end n K q t = t := by
  unfold bc_end
  by_cases hj : bc_it (bc_hop n K q) (n + 1) t < n ∧ K (bc_it (bc_hop n K q) (n + 1) t) = 6
  · exact if_pos hj
  · exact absurd ⟨_, n + 1, rfl, hj⟩ h
theorem bc_fin_step {n : Nat} {K : bc_F} {q : Nat → Nat} {t e : Nat} (hj : bc_J n K t) (h : bc_fin n K q (q t) e) : bc_fin n K q t e := by
  obtain ⟨k, h1, h2⟩ := h
  exact ⟨k + 1, by show bc_it _ k (bc_hop n K q t) = e; rw [bc_hop_go hj]; exact h1, h2⟩
/-- some targets put to their chains' ends: each chain's end is as it was -/
theorem bc_fin_mod {n : Nat} {K : bc_F} {q q' : Nat → Nat} (h : ∀ j, j < n → q' j = q j ∨ q' j = bc_end n K q (q j)) (t e : Nat) : bc_fin n K q' t e ↔ bc_fin n K q t e := by
  constructor
  · rintro ⟨k, h1, h2⟩
    induction k generalizing t with
    | zero => exact ⟨0, h1, h2⟩
    | succ k ih =>
      by_cases hj : bc_J n K t
      · have h1 : bc_it (bc_hop n K q') k (bc_hop n K q' t) = e := h1
        rw [bc_hop_go hj] at h1
        have h3 := ih (q' t) h1
        rcases h t hj.1 with e1 | e1
        · rw [e1] at h3; exact bc_fin_step hj h3
        · rw [e1] at h3
          by_cases hx : ∃ e', bc_fin n K q (q t) e'
          · obtain ⟨e', hx⟩ := hx
            have e2 := bc_end_fin hx
            rw [e2] at h3
            obtain ⟨k3, h4, h5⟩ := h3
            obtain ⟨k4, h6, h7⟩ := hx
            rw [bc_it_stop h7] at h4
            exact bc_fin_step hj ⟨k4, by rw [h6, h4], h5⟩
          · rw [bc_end_no hx] at h3
            exact bc_fin_step hj h3
      · have h1 : bc_it (bc_hop n K q') (k + 1) t = e := h1
        rw [bc_it_stop hj] at h1
        exact ⟨0, h1, h2⟩
  · rintro ⟨k, h1, h2⟩
    induction k generalizing t with
    | zero => exact ⟨0, h1, h2⟩
    | succ k ih =>
      by_cases hj : bc_J n K t
      · have h1 : bc_it (bc_hop n K q) k (bc_hop n K q t) = e := h1
        rw [bc_hop_go hj] at h1
        rcases h t hj.1 with e1 | e1
        · exact bc_fin_step hj (by rw [e1]; exact ih (q t) h1)
        · have e2 := bc_end_fin (n := n) (K := K) (q := q) (t := q t) (e := e) ⟨k, h1, h2⟩
          exact bc_fin_step hj (by rw [e1, e2]; exact ⟨0, rfl, h2⟩)
      · have h1 : bc_it (bc_hop n K q) (k + 1) t = e := h1
        rw [bc_it_stop hj] at h1
        exact ⟨0, h1, h2⟩
theorem bc_end_mod {n : Nat} {K : bc_F} {q q' : Nat → Nat} (h : ∀ j, j < n → q' j = q j ∨ q' j = bc_end n K q (q j)) (t : Nat) : bc_end n K q' t = bc_end n K q t := by
  by_cases hx : ∃ e, bc_fin n K q t e
  · obtain ⟨e, hx⟩ := hx
    rw [bc_end_fin hx, bc_end_fin ((bc_fin_mod h t e).mpr hx)]
  · rw [bc_end_no hx, bc_end_no (fun ⟨e, z⟩ => hx ⟨e, (bc_fin_mod h t e).mp z⟩)]
/-- the class's way: n + 1 looks -/
theorem bc_end_round {n : Nat} {K : bc_F} {q : Nat → Nat} {t : Nat} (h : ∀ k, k ≤ n → bc_J n K (bc_it (bc_hop n K q) k t)) : bc_end n K q t = t := bc_end_no (fun ⟨e, k, h1, h2⟩ => h2 (by rw [← h1]; exact bc_round h k))
theorem bc_hop_le {n : Nat} {K : bc_F} {q : Nat → Nat} (hq : ∀ j, j < n → q j ≤ n) {t : Nat} (ht : t ≤ n) : bc_hop n K q t ≤ n := by
  unfold bc_hop
  by_cases h : t < n ∧ K t = 6
  · rw [if_pos h]; exact hq t h.1
  · rw [if_neg h]; exact ht
theorem bc_it_le {n : Nat} {K : bc_F} {q : Nat → Nat} (hq : ∀ j, j < n → q j ≤ n) : ∀ (k t : Nat), t ≤ n → bc_it (bc_hop n K q) k t ≤ n
  | 0, t, ht => ht
  | k + 1, t, ht => bc_it_le hq k _ (bc_hop_le hq ht)
theorem bc_end_le {n : Nat} {K : bc_F} {q : Nat → Nat} (hq : ∀ j, j < n → q j ≤ n) {t : Nat} (ht : t ≤ n) : bc_end n K q t ≤ n := by
  unfold bc_end
  by_cases h : bc_it (bc_hop n K q) (n + 1) t < n ∧ K (bc_it (bc_hop n K q) (n + 1) t) = 6
  · rw [if_pos h]; exact ht
  · rw [if_neg h]; exact bc_it_le hq _ _ ht
/-! what stays -/
def bc_sc (n : Nat) (K : bc_F) (q : Nat → Nat) (i t : Nat) : Prop := t < n ∧ ((bc_gs (K i) ∧ t = q i) ∨ (K i ≠ 6 ∧ K i ≠ 7 ∧ t = i + 1))
def bc_cs (n : Nat) (K : bc_F) (q : Nat → Nat) (P : Nat → Prop) : Prop := (0 < n → P 0) ∧ ∀ i t, i < n → P i → bc_sc n K q i t → P t
def bc_sty (n : Nat) (K : bc_F) (q : Nat → Nat) (i : Nat) : Prop := ∀ P, bc_cs n K q P → P i
theorem bc_sty_0 {n : Nat} {K : bc_F} {q : Nat → Nat} (h : 0 < n) : bc_sty n K q 0 := fun _ hP => hP.1 h
theorem bc_sty_s {n : Nat} {K : bc_F} {q : Nat → Nat} {i t : Nat} (hi : i < n) (h : bc_sty n K q i) (hs : bc_sc n K q i t) : bc_sty n K q t := fun P hP => hP.2 i t hi (h P hP) hs
theorem bc_sty_of {n : Nat} {K : bc_F} {q : Nat → Nat} {A : bc_F} (h0 : 0 < n → A 0 ≠ 0) (hl : ∀ j, j < n → A j ≠ 0 → bc_sty n K q j) (hc : ∀ i t, i < n → A i ≠ 0 → bc_sc n K q i t → A t ≠ 0) : ∀ j, j < n → (A j ≠ 0 ↔ bc_sty n K q j) :=
  fun j hj => ⟨hl j hj, fun h => h (fun j => A j ≠ 0) ⟨h0, fun i t hi hA hs => hc i t hi hA hs⟩⟩
/-- the next that stays, or the END -/
def bc_nx (n : Nat) (A : bc_F) (j k : Nat) : Prop := j ≤ k ∧ k ≤ n ∧ (k < n → A k ≠ 0) ∧ ∀ m, j ≤ m → m < k → A m = 0
theorem bc_nx_uniq {n : Nat} {A : bc_F} {j k k' : Nat} (h : bc_nx n A j k) (h' : bc_nx n A j k') : k = k' := by
  obtain ⟨a1, a2, a3, a4⟩ := h
  obtain ⟨b1, b2, b3, b4⟩ := h'
  by_cases c1 : k < k'
  · exact absurd (b4 k a1 c1) (a3 (by omega))
  · by_cases c2 : k' < k
    · exact absurd (a4 k' b1 c2) (b3 (by omega))
    · omega
theorem bc_nx_at {n : Nat} {A : bc_F} {j : Nat} (hj : j < n) (h : A j ≠ 0) : bc_nx n A j j := ⟨Nat.le_refl _, by omega, fun _ => h, fun m h1 h2 => by omega⟩
theorem bc_nx_on {n : Nat} {A : bc_F} {j k : Nat} (h : A j = 0) (hk : bc_nx n A (j + 1) k) : bc_nx n A j k := by
  obtain ⟨a1, a2, a3, a4⟩ := hk
  refine ⟨by omega, a2, a3, fun m h1 h2 => ?_⟩
  by_cases e : m = j
  · rw [e]; exact h
  · exact a4 m (by omega) h2
theorem bc_nx_n (n : Nat) (A : bc_F) : bc_nx n A n n := ⟨Nat.le_refl _, Nat.le_refl _, fun h => by omega, fun m h1 h2 => by omega⟩
theorem bc_nx_ex {n : Nat} {A : bc_F} : ∀ (d j : Nat), j + d = n → ∃ k, bc_nx n A j k
  | 0, j, h => by
    have e : j = n := by omega
    subst e
    exact ⟨j, bc_nx_n j A⟩
  | d + 1, j, h => by
    by_cases e : A j = 0
    · obtain ⟨k, hk⟩ := bc_nx_ex (n := n) (A := A) d (j + 1) (by omega)
      exact ⟨k, bc_nx_on e hk⟩
    · exact ⟨j, bc_nx_at (by omega) e⟩
theorem bc_nx_cg {n : Nat} {A B : bc_F} {j k : Nat} (h : bc_nx n A j k) (hAB : ∀ m, j ≤ m → m < n → (A m ≠ 0 ↔ B m ≠ 0)) : bc_nx n B j k := by
  obtain ⟨a1, a2, a3, a4⟩ := h
  refine ⟨a1, a2, fun hk => (hAB k a1 hk).mp (a3 hk), fun m h1 h2 => ?_⟩
  apply Classical.byContradiction
  intro z
  exact (hAB m h1 (by omega)).mpr z (a4 m h1 h2)
/-- jumps to the next are dropped, from the last on -/
def bc_DJ (n : Nat) (K : bc_F) (q : Nat → Nat) (A B : bc_F) (i : Nat) : Prop := ∀ k, bc_nx n B (i + 1) k → (B i ≠ 0 ↔ A i ≠ 0 ∧ ¬ (K i = 6 ∧ q i = k))
theorem bc_DJ_uniq {n : Nat} {K : bc_F} {q : Nat → Nat} {A B A' B' : bc_F} (hA : ∀ j, j < n → (A j ≠ 0 ↔ A' j ≠ 0)) (h : ∀ i, i < n → bc_DJ n K q A B i) (h' : ∀ i, i < n → bc_DJ n K q A' B' i) : ∀ j, j < n → (B j ≠ 0 ↔ B' j ≠ 0) := by
  have main : ∀ d i, i + d + 1 = n → ∀ m, i ≤ m → m < n → (B m ≠ 0 ↔ B' m ≠ 0) := by
    intro d
    induction d with
    | zero =>
      intro i hi m h1 h2
      have e : m = i := by omega
      subst e
      obtain ⟨k, hk⟩ := bc_nx_ex (n := n) (A := B) 0 (m + 1) (by omega)
      have hk' : bc_nx n B' (m + 1) k := bc_nx_cg hk (fun z z1 z2 => by omega)
      rw [h m h2 k hk, h' m h2 k hk', hA m h2]
    | succ d ih =>
      intro i hi m h1 h2
      have up := ih (i + 1) (by omega)
      by_cases e : m = i
      · subst e
        obtain ⟨k, hk⟩ := bc_nx_ex (n := n) (A := B) (d + 1) (m + 1) (by omega)
        have hk' : bc_nx n B' (m + 1) k := bc_nx_cg hk up
        rw [h m h2 k hk, h' m h2 k hk', hA m h2]
      · exact up m (by omega) h2
  intro j hj
  exact main (n - 1 - j) j (by omega) j (Nat.le_refl _) hj
/-! new numbers -/
def bc_ct (A : bc_F) (i : Nat) : Nat := bc_sm (fun j => if A j = 0 then 0 else 1) i
theorem bc_ct_0 {A : bc_F} {i : Nat} (h : A i = 0) : bc_ct A (i + 1) = bc_ct A i := by
  show bc_ct A i + (if A i = 0 then 0 else 1) = bc_ct A i
  rw [if_pos h]; omega
theorem bc_ct_1 {A : bc_F} {i : Nat} (h : A i ≠ 0) : bc_ct A (i + 1) = bc_ct A i + 1 := by
  show bc_ct A i + (if A i = 0 then 0 else 1) = bc_ct A i + 1
  rw [if_neg h]
theorem bc_ct_le (A : bc_F) : ∀ i, bc_ct A i ≤ i
  | 0 => Nat.le_refl _
  | i + 1 => by
    have := bc_ct_le A i
    by_cases h : A i = 0
    · rw [bc_ct_0 h]; omega
    · rw [bc_ct_1 h]; omega
theorem bc_ct_mono (A : bc_F) (i : Nat) : ∀ d, bc_ct A i ≤ bc_ct A (i + d)
  | 0 => Nat.le_refl _
  | d + 1 => by
    have := bc_ct_mono A i d
    by_cases h : A (i + d) = 0
    · rw [← Nat.add_assoc, bc_ct_0 h]; omega
    · rw [← Nat.add_assoc, bc_ct_1 h]; omega
theorem bc_ct_lt {A : bc_F} {i j : Nat} (hi : A i ≠ 0) (h : i < j) : bc_ct A i < bc_ct A j := by
  have h1 := bc_ct_mono A (i + 1) (j - (i + 1))
  rw [bc_ct_1 hi, show i + 1 + (j - (i + 1)) = j by omega] at h1
  omega
theorem bc_ct_inj {A : bc_F} {i j : Nat} (hi : A i ≠ 0) (hj : A j ≠ 0) (h : bc_ct A i = bc_ct A j) : i = j := by
  by_cases c1 : i < j
  · have := bc_ct_lt hi c1; omega
  · by_cases c2 : j < i
    · have := bc_ct_lt hj c2; omega
    · omega
theorem bc_ct_sur {A : bc_F} : ∀ (n j : Nat), j < bc_ct A n → ∃ i, i < n ∧ A i ≠ 0 ∧ bc_ct A i = j
  | 0, j, h => by
    have : bc_ct A 0 = 0 := rfl
    omega
  | n + 1, j, h => by
    by_cases e : A n = 0
    · rw [bc_ct_0 e] at h
      obtain ⟨i, h1, h2⟩ := bc_ct_sur n j h
      exact ⟨i, by omega, h2⟩
    · rw [bc_ct_1 e] at h
      by_cases c : j < bc_ct A n
      · obtain ⟨i, h1, h2⟩ := bc_ct_sur n j c
        exact ⟨i, by omega, h2⟩
      · exact ⟨n, by omega, e, by omega⟩
theorem bc_ct_cg {A B : bc_F} : ∀ {i : Nat}, (∀ j, j < i → (A j ≠ 0 ↔ B j ≠ 0)) → bc_ct A i = bc_ct B i
  | 0, _ => rfl
  | i + 1, h => by
    have h1 := bc_ct_cg (A := A) (B := B) (i := i) (fun j hj => h j (by omega))
    have h2 := h i (by omega)
    by_cases e : A i = 0
    · have e2 : B i = 0 := Classical.byContradiction (fun z => (h2.mpr z) e)
      rw [bc_ct_0 e, bc_ct_0 e2, h1]
    · rw [bc_ct_1 e, bc_ct_1 (h2.mp e), h1]
theorem bc_ct_nx {n : Nat} {A : bc_F} {j k : Nat} (h : bc_nx n A j k) : bc_ct A k = bc_ct A j := by
  obtain ⟨h1, h2, h3, h4⟩ := h
  have main : ∀ d, j + d ≤ k → bc_ct A (j + d) = bc_ct A j := by
    intro d
    induction d with
    | zero => intro _; rfl
    | succ d ih =>
      intro hd
      rw [← Nat.add_assoc, bc_ct_0 (h4 (j + d) (by omega) (by omega)), ih (by omega)]
  have := main (k - j) (by omega)
  rw [show j + (k - j) = k by omega] at this
  exact this
/-- the whole of REWRITING -/
def bc_q2 (n : Nat) (F : Nat → Int32 × Int32 × Int32 × Int32 × Nat) (i : Nat) : Nat := bc_end n (fun j => (F j).1) (fun j => (F j).2.2.2.2) ((F i).2.2.2.2)
def bc_RW (n : Nat) (F : Nat → Int32 × Int32 × Int32 × Int32 × Nat) (n2 : Nat) (K3 O3 T3 H3 : bc_F) : Prop :=
  ∃ A B : bc_F, (∀ i, i < n → (A i ≠ 0 ↔ bc_sty n (fun j => (F j).1) (bc_q2 n F) i)) ∧ (∀ i, i < n → bc_DJ n (fun j => (F j).1) (bc_q2 n F) A B i) ∧ n2 = bc_ct B n ∧
    ∀ i, i < n → B i ≠ 0 → K3 (bc_ct B i) = (F i).1 ∧ O3 (bc_ct B i) = (F i).2.1 ∧ H3 (bc_ct B i) = (F i).2.2.2.1 ∧ (bc_gs (F i).1 → T3 (bc_ct B i) = nI (bc_ct B (bc_q2 n F i))) ∧ (¬ bc_gs (F i).1 → T3 (bc_ct B i) = (F i).2.2.1)
theorem bc_RW_uniq {n : Nat} {F : Nat → Int32 × Int32 × Int32 × Int32 × Nat} {n2 m2 : Nat} {K3 O3 T3 H3 K4 O4 T4 H4 : bc_F} (hq : ∀ i, i < n → (F i).2.2.2.2 ≤ n) (h : bc_RW n F n2 K3 O3 T3 H3) (h' : bc_RW n F m2 K4 O4 T4 H4) : n2 = m2 ∧ ∀ j, j < n2 → K3 j = K4 j ∧ O3 j = O4 j ∧ T3 j = T4 j ∧ H3 j = H4 j := by
  obtain ⟨A, B, h1, h2, h3, h4⟩ := h
  obtain ⟨A', B', k1, k2, k3, k4⟩ := h'
  have hA : ∀ j, j < n → (A j ≠ 0 ↔ A' j ≠ 0) := fun j hj => (h1 j hj).trans (k1 j hj).symm
  have hB := bc_DJ_uniq hA h2 k2
  have hc : ∀ i, i ≤ n → bc_ct B i = bc_ct B' i := fun i hi => bc_ct_cg (fun j hj => hB j (by omega))
  refine ⟨by rw [h3, k3]; exact hc n (Nat.le_refl _), fun j hj => ?_⟩
  rw [h3] at hj
  obtain ⟨i, i1, i2, i3⟩ := bc_ct_sur n j hj
  obtain ⟨a1, a2, a3, a4, a5⟩ := h4 i i1 i2
  obtain ⟨b1, b2, b3, b4, b5⟩ := k4 i i1 ((hB i i1).mp i2)
  rw [← hc i (by omega)] at b1 b2 b3 b4 b5
  rw [i3] at a1 a2 a3 a4 a5 b1 b2 b3 b4 b5
  refine ⟨by rw [a1, b1], by rw [a2, b2], ?_, by rw [a3, b3]⟩
  by_cases e : bc_gs (F i).1
  · rw [a4 e, b4 e, hc (bc_q2 n F i) (bc_end_le hq (hq i i1))]
  · rw [a5 e, b5 e]
