section
/-! The pure picture of BranchConstants: rows of what is known before an instruction, closed answers, the least one -/
abbrev bc_R : Type := Nat → Option Int32
abbrev bc_G : Type := Nat → Option bc_R
abbrev bc_F : Type := Nat → Int32
def bc_le (r q : bc_R) : Prop := ∀ v, v < 6 → q v = none ∨ r v = q v
def bc_leO (a b : Option bc_R) : Prop := match a, b with
  | none, _ => True
  | some _, none => False
  | some r, some q => bc_le r q
def bc_jn (r q : bc_R) : bc_R := fun v => if r v = q v then r v else none
def bc_jo (a : Option bc_R) (q : bc_R) : bc_R := match a with
  | none => q
  | some r => bc_jn r q
def bc_up (r : bc_R) (o : Nat) (x : Option Int32) : bc_R := fun v => if v = o then x else r v
/-- something changes where q comes to what is held -/
def bc_chg (a : Option bc_R) (q : bc_R) : Prop := match a with
  | none => True
  | some r => ∃ v, v < 6 ∧ r v ≠ none ∧ r v ≠ q v
def bc_come (n : Nat) (g : bc_G) (t : Nat) (q : bc_R) : bc_G := if t < n then (fun j => if j = t then some (bc_jo (g t) q) else g j) else g
theorem bc_le_rfl (r : bc_R) : bc_le r r := fun _ _ => Or.inr rfl
theorem bc_le_tr {r q s : bc_R} (h : bc_le r q) (k : bc_le q s) : bc_le r s := by
  intro v hv
  rcases k v hv with e | e
  · exact Or.inl e
  · rcases h v hv with f | f
    · exact Or.inl (by rw [← e]; exact f)
    · exact Or.inr (f.trans e)
theorem bc_leO_rfl (a : Option bc_R) : bc_leO a a := by
  cases a with
  | none => trivial
  | some r => exact bc_le_rfl r
theorem bc_leO_tr {a b c : Option bc_R} (h : bc_leO a b) (k : bc_leO b c) : bc_leO a c := by
  cases a with
  | none => trivial
  | some r =>
    cases b with
    | none => exact False.elim h
    | some q =>
      cases c with
      | none => exact False.elim k
      | some s => exact bc_le_tr (r := r) (q := q) (s := s) h k
theorem bc_leO_some {r : bc_R} {a : Option bc_R} (h : bc_leO (some r) a) : ∃ q, a = some q ∧ bc_le r q := by
  cases a with
  | none => exact False.elim h
  | some q => exact ⟨q, rfl, h⟩
theorem bc_jo_l (a : Option bc_R) (q : bc_R) : bc_leO a (some (bc_jo a q)) := by
  cases a with
  | none => trivial
  | some r =>
    intro v hv
    show bc_jn r q v = none ∨ r v = bc_jn r q v
    unfold bc_jn
    by_cases e : r v = q v
    · right; rw [if_pos e]
    · left; rw [if_neg e]
theorem bc_jo_r (a : Option bc_R) (q : bc_R) : bc_le q (bc_jo a q) := by
  cases a with
  | none => exact bc_le_rfl q
  | some r =>
    intro v hv
    show bc_jn r q v = none ∨ q v = bc_jn r q v
    unfold bc_jn
    by_cases e : r v = q v
    · right; rw [if_pos e, e]
    · left; rw [if_neg e]
theorem bc_jo_least {a b : Option bc_R} {q : bc_R} (h : bc_leO a b) (k : bc_leO (some q) b) : bc_leO (some (bc_jo a q)) b := by
  obtain ⟨s, rfl, k⟩ := bc_leO_some k
  cases a with
  | none => exact k
  | some r =>
    intro v hv
    show s v = none ∨ bc_jn r q v = s v
    rcases k v hv with e | e
    · exact Or.inl e
    · rcases (show bc_le r s from h) v hv with f | f
      · exact Or.inl f
      · right
        unfold bc_jn
        rw [if_pos (f.trans e.symm), f]
theorem bc_nchg {a : Option bc_R} {q : bc_R} (h : ¬ bc_chg a q) : ∃ r, a = some r ∧ ∀ v, v < 6 → bc_jn r q v = r v := by
  cases a with
  | none => exact absurd trivial h
  | some r =>
    refine ⟨r, rfl, fun v hv => ?_⟩
    unfold bc_jn
    by_cases e : r v = q v
    · rw [if_pos e]
    · rw [if_neg e]
      by_cases f : r v = none
      · exact f.symm
      · exact absurd ⟨v, hv, f, e⟩ h
theorem bc_come_out {n t : Nat} {g : bc_G} {q : bc_R} (h : ¬ t < n) : bc_come n g t q = g := if_neg h
theorem bc_come_at {n t : Nat} {g : bc_G} {q : bc_R} (h : t < n) : bc_come n g t q t = some (bc_jo (g t) q) := by
  unfold bc_come
  rw [if_pos h]
  exact if_pos rfl
theorem bc_come_ne {n t j : Nat} {g : bc_G} {q : bc_R} (h : j ≠ t) : bc_come n g t q j = g j := by
  unfold bc_come
  by_cases ht : t < n
  · rw [if_pos ht]; exact if_neg h
  · rw [if_neg ht]
theorem bc_come_ge (n t : Nat) (g : bc_G) (q : bc_R) (j : Nat) : bc_leO (g j) (bc_come n g t q j) := by
  by_cases ht : t < n
  · by_cases hj : j = t
    · subst hj; rw [bc_come_at ht]; exact bc_jo_l _ _
    · rw [bc_come_ne hj]; exact bc_leO_rfl _
  · rw [bc_come_out ht]; exact bc_leO_rfl _
theorem bc_come_has {n t : Nat} (g : bc_G) (q : bc_R) (h : t < n) : bc_leO (some q) (bc_come n g t q t) := by
  rw [bc_come_at h]; exact bc_jo_r _ _
/-! instructions -/
def bc_ar (k x y : Int32) : Int32 := if k = 2 then x + y else if k = 3 then x - y else x * y
def bc_vr (x : Int32) : Prop := ∃ j : Nat, j < 6 ∧ x = nI j
def bc_tr (x : Int32) : Prop := ∃ j : Nat, j ≤ 40 ∧ x = nI j
def bc_wi (k o t h : Int32) : Prop := (k = 0 ∧ bc_vr o ∧ h = 0) ∨ (k = 1 ∧ bc_vr o ∧ bc_vr t ∧ h = 0) ∨ ((k = 2 ∨ k = 3 ∨ k = 4) ∧ bc_vr o ∧ bc_vr t ∧ bc_vr h) ∨ (k = 5 ∧ bc_vr o ∧ bc_tr t ∧ h = 0) ∨ (k = 6 ∧ o = 0 ∧ bc_tr t ∧ h = 0) ∨ (k = 7 ∧ o = 0 ∧ t = 0 ∧ h = 0)
def bc_wf (n : Nat) (K O T H : bc_F) : Prop := ∀ i, i < n → bc_wi (K i) (O i) (T i) (H i)
def bc_rs (K T H : bc_F) (i : Nat) (r : bc_R) : Option Int32 :=
  if K i = 0 then some (T i) else if K i = 1 then r (T i).toNatClampNeg
  else if K i = 4 ∧ (r (T i).toNatClampNeg = some 0 ∨ r (H i).toNatClampNeg = some 0) then some 0
  else match r (T i).toNatClampNeg, r (H i).toNatClampNeg with
    | some a, some b => some (bc_ar (K i) a b)
    | _, _ => none
def bc_out (K O T H : bc_F) (i : Nat) (r : bc_R) : List (Nat × bc_R) :=
  if K i ≤ 4 then [(i + 1, bc_up r (O i).toNatClampNeg (bc_rs K T H i r))]
  else if K i = 6 then [((T i).toNatClampNeg, r)]
  else if K i = 5 then (match r (O i).toNatClampNeg with
    | some x => if x = 0 then [((T i).toNatClampNeg, r)] else [(i + 1, r)]
    | none => [(i + 1, r), ((T i).toNatClampNeg, bc_up r (O i).toNatClampNeg (some 0))])
  else []
theorem bc_vr_lt {x : Int32} (h : bc_vr x) : x.toNatClampNeg < 6 := by
  obtain ⟨j, hj, rfl⟩ := h
  rw [nI_clamp (by omega)]; exact hj
theorem bc_tr_le {x : Int32} (h : bc_tr x) : x.toNatClampNeg ≤ 40 := by
  obtain ⟨j, hj, rfl⟩ := h
  rw [nI_clamp (by omega)]; exact hj
theorem bc_vr_eq {x : Int32} (h : bc_vr x) : x = nI x.toNatClampNeg := by
  obtain ⟨j, hj, rfl⟩ := h
  rw [nI_clamp (by omega)]
theorem bc_tr_eq {x : Int32} (h : bc_tr x) : x = nI x.toNatClampNeg := by
  obtain ⟨j, hj, rfl⟩ := h
  rw [nI_clamp (by omega)]
theorem bc_up_le {r q : bc_R} {x y : Option Int32} {o : Nat} (h : bc_le r q) (k : y = none ∨ x = y) : bc_le (bc_up r o x) (bc_up q o y) := by
  intro v hv
  unfold bc_up
  by_cases e : v = o
  · simp only [if_pos e]; exact k
  · simp only [if_neg e]; exact h v hv
theorem bc_rs_le {K O T H : bc_F} {i : Nat} {r q : bc_R} (hw : bc_wi (K i) (O i) (T i) (H i)) (h4 : K i ≤ 4) (h : bc_le r q) : bc_rs K T H i q = none ∨ bc_rs K T H i r = bc_rs K T H i q := by
  unfold bc_rs
  by_cases k0 : K i = 0
  · right; rw [if_pos k0, if_pos k0]
  · rw [if_neg k0, if_neg k0]
    by_cases k1 : K i = 1
    · rw [if_pos k1, if_pos k1]
      have ht : (T i).toNatClampNeg < 6 := by
        rcases hw with ⟨e, _⟩ | ⟨_, _, e, _⟩ | ⟨e, _⟩ | ⟨e, _⟩ | ⟨e, _⟩ | ⟨e, _⟩
        · exact absurd e k0
        · exact bc_vr_lt e
        · rw [k1] at e; exact absurd e (by decide)
        · rw [k1] at e; exact absurd e (by decide)
        · rw [k1] at e; exact absurd e (by decide)
        · rw [k1] at e; exact absurd e (by decide)
      exact h _ ht
    · rw [if_neg k1, if_neg k1]
      have hth : (T i).toNatClampNeg < 6 ∧ (H i).toNatClampNeg < 6 := by
        rcases hw with ⟨e, _⟩ | ⟨e, _⟩ | ⟨_, _, e, f⟩ | ⟨e, _⟩ | ⟨e, _⟩ | ⟨e, _⟩
        · exact absurd e k0
        · exact absurd e k1
        · exact ⟨bc_vr_lt e, bc_vr_lt f⟩
        · rw [e] at h4; exact absurd h4 (by decide)
        · rw [e] at h4; exact absurd h4 (by decide)
        · rw [e] at h4; exact absurd h4 (by decide)
      have hx := h _ hth.1
      have hy := h _ hth.2
      generalize r (T i).toNatClampNeg = rx at hx ⊢
      generalize q (T i).toNatClampNeg = qx at hx ⊢
      generalize r (H i).toNatClampNeg = ry at hy ⊢
      generalize q (H i).toNatClampNeg = qy at hy ⊢
      by_cases k4 : K i = 4
      · by_cases z : qx = some 0 ∨ qy = some 0
        · have z2 : rx = some 0 ∨ ry = some 0 := by
            rcases z with z | z
            · rcases hx with e | e
              · rw [e] at z; cases z
              · exact Or.inl (e.trans z)
            · rcases hy with e | e
              · rw [e] at z; cases z
              · exact Or.inr (e.trans z)
          right
          rw [if_pos ⟨k4, z2⟩, if_pos ⟨k4, z⟩]
        · rw [if_neg (fun u => z u.2)]
          rcases hx with e | e
          · left; subst e; rfl
          · rcases hy with f | f
            · left; subst f; cases qx <;> rfl
            · subst e; subst f
              right
              rw [if_neg (fun u => z u.2)]
      · rw [if_neg (fun u => k4 u.1), if_neg (fun u => k4 u.1)]
        rcases hx with e | e
        · left; subst e; rfl
        · rcases hy with f | f
          · left; subst f; cases qx <;> rfl
          · right; subst e; subst f; rfl
theorem bc_out_le {K O T H : bc_F} {i : Nat} {r q : bc_R} (hw : bc_wi (K i) (O i) (T i) (H i)) (h : bc_le r q) : ∀ p ∈ bc_out K O T H i r, ∃ p' ∈ bc_out K O T H i q, p'.1 = p.1 ∧ bc_le p.2 p'.2 := by
  intro p hp
  unfold bc_out at hp ⊢
  by_cases h4 : K i ≤ 4
  · rw [if_pos h4] at hp ⊢
    rw [List.mem_singleton] at hp
    subst hp
    exact ⟨_, List.mem_singleton.mpr rfl, rfl, bc_up_le h (bc_rs_le hw h4 h)⟩
  · rw [if_neg h4] at hp ⊢
    by_cases h6 : K i = 6
    · rw [if_pos h6] at hp ⊢
      rw [List.mem_singleton] at hp
      subst hp
      exact ⟨_, List.mem_singleton.mpr rfl, rfl, h⟩
    · rw [if_neg h6] at hp ⊢
      by_cases h5 : K i = 5
      · rw [if_pos h5] at hp ⊢
        have ho : (O i).toNatClampNeg < 6 := by
          rcases hw with ⟨e, _⟩ | ⟨e, _⟩ | ⟨e, _⟩ | ⟨_, e, _⟩ | ⟨e, _⟩ | ⟨e, _⟩
          · rw [h5] at e; exact absurd e (by decide)
          · rw [h5] at e; exact absurd e (by decide)
          · rw [h5] at e; exact absurd e (by decide)
          · exact bc_vr_lt e
          · rw [h5] at e; exact absurd e (by decide)
          · rw [h5] at e; exact absurd e (by decide)
        have hx := h _ ho
        generalize hrx : r (O i).toNatClampNeg = rx at hp hx
        generalize hqx : q (O i).toNatClampNeg = qx at hx ⊢
        rcases hx with e | e
        · subst e
          have hz : bc_le r (bc_up q (O i).toNatClampNeg (some 0)) ∨ rx ≠ some 0 := by
            by_cases z : rx = some 0
            · left
              intro v hv
              unfold bc_up
              by_cases ev : v = (O i).toNatClampNeg
              · subst ev; rw [if_pos rfl]; right; rw [hrx, z]
              · rw [if_neg ev]; exact h v hv
            · exact Or.inr z
          cases rx with
          | none =>
            rcases List.mem_cons.mp hp with hp | hp
            · subst hp; exact ⟨_, List.mem_cons_self, rfl, h⟩
            · rw [List.mem_singleton] at hp
              subst hp
              exact ⟨_, List.mem_cons_of_mem _ (List.mem_singleton.mpr rfl), rfl, bc_up_le h (Or.inr rfl)⟩
          | some x =>
            by_cases x0 : x = 0
            · simp only [if_pos x0] at hp
              rw [List.mem_singleton] at hp
              subst hp
              refine ⟨_, List.mem_cons_of_mem _ (List.mem_singleton.mpr rfl), rfl, ?_⟩
              rcases hz with z | z
              · exact z
              · exact absurd (by rw [x0]) z
            · simp only [if_neg x0] at hp
              rw [List.mem_singleton] at hp
              subst hp
              exact ⟨_, List.mem_cons_self, rfl, h⟩
        · subst e
          cases rx with
          | none =>
            rcases List.mem_cons.mp hp with hp | hp
            · subst hp; exact ⟨_, List.mem_cons_self, rfl, h⟩
            · rw [List.mem_singleton] at hp
              subst hp
              exact ⟨_, List.mem_cons_of_mem _ (List.mem_singleton.mpr rfl), rfl, bc_up_le h (Or.inr rfl)⟩
          | some x =>
            by_cases x0 : x = 0
            · simp only [if_pos x0] at hp ⊢
              rw [List.mem_singleton] at hp
              subst hp
              exact ⟨_, List.mem_singleton.mpr rfl, rfl, h⟩
            · simp only [if_neg x0] at hp ⊢
              rw [List.mem_singleton] at hp
              subst hp
              exact ⟨_, List.mem_singleton.mpr rfl, rfl, h⟩
      · rw [if_neg h5] at hp
        cases hp
/-! closed answers -/
def bc_cl (n : Nat) (K O T H : bc_F) (g : bc_G) (i : Nat) : Prop := ∀ r, g i = some r → ∀ p ∈ bc_out K O T H i r, p.1 < n → bc_leO (some p.2) (g p.1)
def bc_top : bc_R := fun _ => none
def bc_cld (n : Nat) (K O T H : bc_F) (g : bc_G) : Prop := (0 < n → bc_leO (some bc_top) (g 0)) ∧ ∀ i, i < n → bc_cl n K O T H g i
def bc_bel (n : Nat) (g h : bc_G) : Prop := ∀ i, i < n → bc_leO (g i) (h i)
def bc_low (n : Nat) (K O T H : bc_F) (g : bc_G) : Prop := ∀ h, bc_cld n K O T H h → bc_bel n g h
def bc_Lst (n : Nat) (K O T H : bc_F) (g : bc_G) : Prop := bc_cld n K O T H g ∧ bc_low n K O T H g
/-- equal where it matters -/
def bc_sim (a b : Option bc_R) : Prop := match a, b with
  | none, none => True
  | some r, some q => ∀ v, v < 6 → r v = q v
  | _, _ => False
theorem bc_sim_of {a b : Option bc_R} (h : bc_leO a b) (k : bc_leO b a) : bc_sim a b := by
  cases a with
  | none =>
    cases b with
    | none => trivial
    | some q => exact False.elim k
  | some r =>
    cases b with
    | none => exact False.elim h
    | some q =>
      intro v hv
      rcases (show bc_le r q from h) v hv with e | e
      · rcases (show bc_le q r from k) v hv with f | f
        · rw [e, f]
        · exact f.symm
      · exact e
theorem bc_Lst_uniq {n : Nat} {K O T H : bc_F} {g g' : bc_G} (h : bc_Lst n K O T H g) (h' : bc_Lst n K O T H g') : ∀ i, i < n → bc_sim (g i) (g' i) :=
  fun i hi => bc_sim_of (h.2 g' h'.1 i hi) (h'.2 g h.1 i hi)
theorem bc_low_come {n : Nat} {K O T H : bc_F} {g : bc_G} {i : Nat} {r : bc_R} {p : Nat × bc_R} (hw : bc_wf n K O T H) (hi : i < n) (hg : bc_low n K O T H g) (hr : ∀ h, bc_cld n K O T H h → bc_leO (some r) (h i)) (hp : p ∈ bc_out K O T H i r) : bc_low n K O T H (bc_come n g p.1 p.2) := by
  intro h hc j hj
  by_cases ht : p.1 < n
  · by_cases e : j = p.1
    · subst e
      rw [bc_come_at ht]
      refine bc_jo_least (hg h hc _ hj) ?_
      obtain ⟨q, hq, hle⟩ := bc_leO_some (hr h hc)
      obtain ⟨p', hp', e1, e2⟩ := bc_out_le (hw i hi) hle p hp
      have := hc.2 i hi q hq p' hp' (by rw [e1]; exact ht)
      rw [e1] at this
      exact bc_leO_tr (a := some p.2) (b := some p'.2) e2 this
    · rw [bc_come_ne e]; exact hg h hc j hj
  · rw [bc_come_out ht]; exact hg h hc j hj
theorem bc_cl_ne {n : Nat} {K O T H : bc_F} {g : bc_G} {j t : Nat} {q : bc_R} (h : bc_cl n K O T H g j) (hj : j ≠ t) : bc_cl n K O T H (bc_come n g t q) j := by
  intro r hr p hp hn
  rw [bc_come_ne hj] at hr
  exact bc_leO_tr (h r hr p hp hn) (bc_come_ge _ _ _ _ _)
theorem bc_cl_same {n : Nat} {K O T H : bc_F} {g : bc_G} {j t : Nat} {q : bc_R} (hw : bc_wf n K O T H) (hjn : j < n) (h : bc_cl n K O T H g j) (hc : ¬ bc_chg (g t) q) : bc_cl n K O T H (bc_come n g t q) j := by
  by_cases e : j = t
  · subst e
    intro r hr p hp hn
    rw [bc_come_at hjn] at hr
    obtain ⟨r0, h0, h1⟩ := bc_nchg hc
    rw [h0] at hr
    have hr' : bc_jn r0 q = r := Option.some.inj hr
    have hle : bc_le r r0 := fun v hv => Or.inr (by rw [← hr']; exact h1 v hv)
    obtain ⟨p', hp', e1, e2⟩ := bc_out_le (hw j hjn) hle p hp
    have := h r0 h0 p' hp' (by rw [e1]; exact hn)
    rw [e1] at this
    exact bc_leO_tr (a := some p.2) (b := some p'.2) e2 (bc_leO_tr this (bc_come_ge _ _ _ _ _))
  · exact bc_cl_ne h e
/-! how far an answer still can rise -/
def bc_sm (f : Nat → Nat) : Nat → Nat
  | 0 => 0
  | k + 1 => bc_sm f k + f k
theorem bc_sm_le {f g : Nat → Nat} : ∀ {k : Nat}, (∀ j, j < k → f j ≤ g j) → bc_sm f k ≤ bc_sm g k
  | 0, _ => Nat.le_refl _
  | k + 1, h => Nat.add_le_add (bc_sm_le (fun j hj => h j (by omega))) (h k (by omega))
theorem bc_sm_lt {f g : Nat → Nat} : ∀ {k : Nat}, (∀ j, j < k → f j ≤ g j) → (t : Nat) → t < k → f t < g t → bc_sm f k < bc_sm g k
  | 0, _, t, ht, _ => by omega
  | k + 1, h, t, ht, hl => by
    show bc_sm f k + f k < bc_sm g k + g k
    by_cases e : t = k
    · subst e
      have := bc_sm_le (f := f) (g := g) (k := t) (fun j hj => h j (by omega))
      omega
    · have := bc_sm_lt (f := f) (g := g) (k := k) (fun j hj => h j (by omega)) t (by omega) hl
      have := h k (by omega)
      omega
theorem bc_sm_bound {f : Nat → Nat} {b : Nat} : ∀ {k : Nat}, (∀ j, j < k → f j ≤ b) → bc_sm f k ≤ b * k
  | 0, _ => Nat.le_refl _
  | k + 1, h => by
    have h1 := bc_sm_bound (f := f) (b := b) (k := k) (fun j hj => h j (by omega))
    have h2 := h k (by omega)
    show bc_sm f k + f k ≤ b * (k + 1)
    rw [Nat.mul_add, Nat.mul_one]
    omega
def bc_wt (a : Option bc_R) : Nat := match a with
  | none => 7
  | some r => bc_sm (fun v => if r v = none then 0 else 1) 6
def bc_pot (n : Nat) (g : bc_G) : Nat := bc_sm (fun i => bc_wt (g i)) n
theorem bc_wt_some (r : bc_R) : bc_wt (some r) ≤ 6 := by
  have := bc_sm_bound (f := fun v => if r v = none then 0 else 1) (b := 1) (k := 6) (fun j _ => by
    show (if r j = none then 0 else 1) ≤ 1
    by_cases e : r j = none
    · rw [if_pos e]; omega
    · rw [if_neg e]; omega)
  exact this
theorem bc_wt_7 (a : Option bc_R) : bc_wt a ≤ 7 := by
  cases a with
  | none => exact Nat.le_refl _
  | some r => exact Nat.le_trans (bc_wt_some r) (by omega)
theorem bc_wt_jo (a : Option bc_R) (q : bc_R) : bc_wt (some (bc_jo a q)) ≤ bc_wt a := by
  cases a with
  | none => exact bc_wt_7 _
  | some r =>
    refine bc_sm_le (fun v _ => ?_)
    show (if bc_jn r q v = none then 0 else 1) ≤ (if r v = none then 0 else 1)
    by_cases e : bc_jn r q v = none
    · rw [if_pos e]; omega
    · rw [if_neg e]
      have : r v ≠ none := by
        intro z
        apply e
        unfold bc_jn
        by_cases f : r v = q v
        · rw [if_pos f]; exact z
        · rw [if_neg f]
      rw [if_neg this]; omega
theorem bc_wt_lt {a : Option bc_R} {q : bc_R} (h : bc_chg a q) : bc_wt (some (bc_jo a q)) < bc_wt a := by
  cases a with
  | none => exact Nat.lt_of_le_of_lt (bc_wt_some _) (by show 6 < 7; omega)
  | some r =>
    obtain ⟨v, hv, h1, h2⟩ := h
    refine bc_sm_lt (fun u _ => ?_) v hv ?_
    · show (if bc_jn r q u = none then 0 else 1) ≤ (if r u = none then 0 else 1)
      by_cases e : bc_jn r q u = none
      · rw [if_pos e]; omega
      · rw [if_neg e]
        have : r u ≠ none := by
          intro z
          apply e
          unfold bc_jn
          by_cases f : r u = q u
          · rw [if_pos f]; exact z
          · rw [if_neg f]
        rw [if_neg this]; omega
    · show (if bc_jn r q v = none then 0 else 1) < (if r v = none then 0 else 1)
      have : bc_jn r q v = none := by unfold bc_jn; rw [if_neg h2]
      rw [if_pos this, if_neg h1]; omega
theorem bc_pot_le (n : Nat) (g : bc_G) (t : Nat) (q : bc_R) : bc_pot n (bc_come n g t q) ≤ bc_pot n g := by
  refine bc_sm_le (fun j _ => ?_)
  show bc_wt (bc_come n g t q j) ≤ bc_wt (g j)
  by_cases ht : t < n
  · by_cases e : j = t
    · subst e; rw [bc_come_at ht]; exact bc_wt_jo _ _
    · rw [bc_come_ne e]; exact Nat.le_refl _
  · rw [bc_come_out ht]; exact Nat.le_refl _
theorem bc_pot_lt {n : Nat} {g : bc_G} {t : Nat} {q : bc_R} (ht : t < n) (h : bc_chg (g t) q) : bc_pot n (bc_come n g t q) < bc_pot n g := by
  refine bc_sm_lt (fun j _ => ?_) t ht ?_
  · show bc_wt (bc_come n g t q j) ≤ bc_wt (g j)
    by_cases e : j = t
    · subst e; rw [bc_come_at ht]; exact bc_wt_jo _ _
    · rw [bc_come_ne e]; exact Nat.le_refl _
  · show bc_wt (bc_come n g t q t) < bc_wt (g t)
    rw [bc_come_at ht]; exact bc_wt_lt h
end
section
/-! the class's worklist and the reference's sweeps keep their invariants -/
def bc_wr (n : Nat) (g : bc_G) (W : bc_F) (t : Nat) (q : bc_R) (W' : bc_F) : Prop := (∀ j, j ≠ t → W' j = W j) ∧ (t < n → bc_chg (g t) q → W' t = 1) ∧ ((¬ t < n ∨ ¬ bc_chg (g t) q) → W' t = W t)
def bc_run (n : Nat) : List (Nat × bc_R) → bc_G → bc_F → bc_G → bc_F → Prop
  | [], g, W, g', W' => g' = g ∧ W' = W
  | p :: L, g, W, g', W' => ∃ W1, bc_wr n g W p.1 p.2 W1 ∧ bc_run n L (bc_come n g p.1 p.2) W1 g' W'
def bc_nw (n : Nat) (W : bc_F) : Nat := bc_sm (fun i => if W i = 0 then 0 else 1) n
theorem bc_sm_one {f g : Nat → Nat} (t : Nat) : ∀ {k : Nat}, (∀ j, j < k → j ≠ t → f j ≤ g j) → f t ≤ g t + 1 → bc_sm f k ≤ bc_sm g k + 1
  | 0, _, _ => by show 0 ≤ 0 + 1; omega
  | k + 1, h, ht => by
    show bc_sm f k + f k ≤ bc_sm g k + g k + 1
    by_cases e : k = t
    · subst e
      have := bc_sm_le (f := f) (g := g) (k := k) (fun j hj => h j (by omega) (by omega))
      omega
    · have := bc_sm_one (f := f) (g := g) t (k := k) (fun j hj hne => h j (by omega) hne) ht
      have := h k (by omega) e
      omega
def bc_IC (n : Nat) (K O T H : bc_F) (g : bc_G) (W : bc_F) : Prop :=
  (0 < n → bc_leO (some bc_top) (g 0)) ∧ (∀ j, j < n → W j = 0 → bc_cl n K O T H g j) ∧ bc_low n K O T H g ∧ ∀ j, j < 40 → W j ≠ 0 → j < n ∧ ∃ r, g j = some r
def bc_IX (n : Nat) (K O T H : bc_F) (i : Nat) (r : bc_R) (D : List (Nat × bc_R)) (g : bc_G) (W : bc_F) : Prop :=
  (0 < n → bc_leO (some bc_top) (g 0)) ∧ (∀ j, j < n → j ≠ i → W j = 0 → bc_cl n K O T H g j) ∧ (W i = 0 → ∃ r', g i = some r' ∧ bc_le r' r) ∧ (∀ p ∈ D, p.1 < n → bc_leO (some p.2) (g p.1)) ∧ bc_low n K O T H g ∧ ∀ j, j < 40 → W j ≠ 0 → j < n ∧ ∃ r, g j = some r
theorem bc_IX_come {n : Nat} {K O T H : bc_F} {i : Nat} {r : bc_R} {D : List (Nat × bc_R)} {g : bc_G} {W W1 : bc_F} {p : Nat × bc_R} (hw : bc_wf n K O T H) (hi : i < n) (hr : ∀ h, bc_cld n K O T H h → bc_leO (some r) (h i)) (h : bc_IX n K O T H i r D g W) (hp : p ∈ bc_out K O T H i r) (hW : bc_wr n g W p.1 p.2 W1) :
    bc_IX n K O T H i r (p :: D) (bc_come n g p.1 p.2) W1 ∧ bc_pot n (bc_come n g p.1 p.2) + bc_nw n W1 ≤ bc_pot n g + bc_nw n W := by
  obtain ⟨hz, ha, hb, hc, hd, he⟩ := h
  obtain ⟨w1, w2, w3⟩ := hW
  have hno : p.1 < n → W1 p.1 = 0 → ¬ bc_chg (g p.1) p.2 := by
    intro ht h0 hch
    rw [w2 ht hch] at h0
    exact absurd h0 (by decide)
  refine ⟨⟨fun h0 => bc_leO_tr (hz h0) (bc_come_ge _ _ _ _ _), ?_, ?_, ?_, bc_low_come hw hi hd hr hp, ?_⟩, ?_⟩
  · intro j hj hne h0
    by_cases e : j = p.1
    · have h0' : W1 p.1 = 0 := by rw [← e]; exact h0
      have hn := hno (by rw [← e]; exact hj) h0'
      have : W p.1 = 0 := by rw [← w3 (Or.inr hn)]; exact h0'
      exact bc_cl_same hw hj (ha j hj hne (by rw [e]; exact this)) hn
    · exact bc_cl_ne (ha j hj hne (by rw [← w1 j e]; exact h0)) e
  · intro h0
    by_cases e : i = p.1
    · have h0' : W1 p.1 = 0 := by rw [← e]; exact h0
      have hin : p.1 < n := by rw [← e]; exact hi
      have hn := hno hin h0'
      have : W p.1 = 0 := by rw [← w3 (Or.inr hn)]; exact h0'
      obtain ⟨r', h1, h2⟩ := hb (by rw [e]; exact this)
      obtain ⟨r0, h3, h4⟩ := bc_nchg hn
      have h5 : r' = r0 := by
        rw [← e] at h3
        exact Option.some.inj (h1.symm.trans h3)
      refine ⟨bc_jn r0 p.2, ?_, ?_⟩
      · rw [e, bc_come_at hin, h3]
        rfl
      · refine bc_le_tr (q := r0) (fun v hv => Or.inr (h4 v hv)) ?_
        rw [← h5]; exact h2
    · obtain ⟨r', h1, h2⟩ := hb (by rw [← w1 i e]; exact h0)
      exact ⟨r', by rw [bc_come_ne e]; exact h1, h2⟩
  · intro p' hp' hn
    rcases List.mem_cons.mp hp' with e | e
    · subst e; exact bc_come_has _ _ hn
    · exact bc_leO_tr (hc p' e hn) (bc_come_ge _ _ _ _ _)
  · intro j hj h0
    by_cases e : j = p.1
    · by_cases ht : p.1 < n
      · refine ⟨by rw [e]; exact ht, bc_jo (g p.1) p.2, by rw [e]; exact bc_come_at ht⟩
      · have : W j ≠ 0 := by rw [e, ← w3 (Or.inl ht), ← e]; exact h0
        obtain ⟨h1, h2⟩ := he j hj this
        rw [e] at h1
        exact absurd h1 ht
    · obtain ⟨h1, h2⟩ := he j hj (by rw [← w1 j e]; exact h0)
      exact ⟨h1, by rw [bc_come_ne e]; exact h2⟩
  · by_cases hch : p.1 < n ∧ bc_chg (g p.1) p.2
    · have q1 := bc_pot_lt hch.1 hch.2
      have q2 : bc_nw n W1 ≤ bc_nw n W + 1 := by
        refine bc_sm_one p.1 (fun j _ hne => ?_) ?_
        · show (if W1 j = 0 then 0 else 1) ≤ (if W j = 0 then 0 else 1)
          rw [w1 j hne]
          exact Nat.le_refl _
        · show (if W1 p.1 = 0 then 0 else 1) ≤ (if W p.1 = 0 then 0 else 1) + 1
          by_cases z : W1 p.1 = 0
          · rw [if_pos z]; omega
          · rw [if_neg z]; omega
      omega
    · have q1 := bc_pot_le n g p.1 p.2
      have q2 : bc_nw n W1 ≤ bc_nw n W := by
        refine bc_sm_le (fun j _ => ?_)
        show (if W1 j = 0 then 0 else 1) ≤ (if W j = 0 then 0 else 1)
        by_cases e : j = p.1
        · have hor : ¬ p.1 < n ∨ ¬ bc_chg (g p.1) p.2 := by
            by_cases ht : p.1 < n
            · exact Or.inr (fun z => hch ⟨ht, z⟩)
            · exact Or.inl ht
          rw [e, w3 hor]
          exact Nat.le_refl _
        · rw [w1 j e]
          exact Nat.le_refl _
      omega
theorem bc_IX_run {n : Nat} {K O T H : bc_F} {i : Nat} {r : bc_R} (hw : bc_wf n K O T H) (hi : i < n) (hr : ∀ h, bc_cld n K O T H h → bc_leO (some r) (h i)) : ∀ (L D : List (Nat × bc_R)) (g : bc_G) (W : bc_F) (g' : bc_G) (W' : bc_F), (∀ p ∈ L, p ∈ bc_out K O T H i r) → bc_IX n K O T H i r D g W → bc_run n L g W g' W' →
    ∃ D', (∀ p, p ∈ L ∨ p ∈ D → p ∈ D') ∧ bc_IX n K O T H i r D' g' W' ∧ bc_pot n g' + bc_nw n W' ≤ bc_pot n g + bc_nw n W
  | [], D, g, W, g', W', _, h, hrun => by
    obtain ⟨rfl, rfl⟩ := hrun
    exact ⟨D, fun p hp => by rcases hp with hp | hp; · cases hp
                             · exact hp, h, Nat.le_refl _⟩
  | p :: L, D, g, W, g', W', hL, h, hrun => by
    obtain ⟨W1, h1, h2⟩ := hrun
    obtain ⟨h3, h4⟩ := bc_IX_come hw hi hr h (hL p List.mem_cons_self) h1
    obtain ⟨D', h5, h6, h7⟩ := bc_IX_run hw hi hr L (p :: D) _ W1 g' W' (fun p' hp' => hL p' (List.mem_cons_of_mem _ hp')) h3 h2
    refine ⟨D', fun p' hp' => ?_, h6, by omega⟩
    rcases hp' with hp' | hp'
    · rcases List.mem_cons.mp hp' with e | e
      · exact h5 p' (Or.inr (by rw [e]; exact List.mem_cons_self))
      · exact h5 p' (Or.inl e)
    · exact h5 p' (Or.inr (List.mem_cons_of_mem _ hp'))
/-- one instruction that waited is gone on from -/
theorem bc_IC_step {n : Nat} {K O T H : bc_F} {i : Nat} {r : bc_R} {g g' : bc_G} {W W' : bc_F} (hw : bc_wf n K O T H) (hi : i < n) (h : bc_IC n K O T H g W) (hg : g i = some r) (hWi : W i ≠ 0) (hrun : bc_run n (bc_out K O T H i r) g (upd W i 0) g' W') :
    bc_IC n K O T H g' W' ∧ bc_pot n g' + bc_nw n W' < bc_pot n g + bc_nw n W := by
  obtain ⟨hz, ha, hd, he⟩ := h
  have hr : ∀ h, bc_cld n K O T H h → bc_leO (some r) (h i) := fun k hk => by rw [← hg]; exact hd k hk i hi
  have hX : bc_IX n K O T H i r [] g (upd W i 0) := by
    refine ⟨hz, fun j hj hne h0 => ha j hj ?_, fun _ => ⟨r, hg, bc_le_rfl r⟩, (fun p hp => by cases hp), hd, fun j hj h0 => ?_⟩
    · rw [pk_un hne] at h0; exact h0
    · by_cases e : j = i
      · subst e; rw [pk_us] at h0; exact absurd rfl h0
      · rw [pk_un e] at h0; exact he j hj h0
  obtain ⟨D', h1, ⟨q1, q2, q3, q4, q5, q6⟩, h3⟩ := bc_IX_run hw hi hr _ [] g _ g' W' (fun p hp => hp) hX hrun
  have hlt : bc_nw n (upd W i 0) < bc_nw n W := by
    refine bc_sm_lt (fun j _ => ?_) i hi ?_
    · show (if upd W i 0 j = 0 then 0 else 1) ≤ (if W j = 0 then 0 else 1)
      by_cases e : j = i
      · subst e; rw [pk_us, if_pos rfl]; omega
      · rw [pk_un e]; exact Nat.le_refl _
    · show (if upd W i 0 i = 0 then 0 else 1) < (if W i = 0 then 0 else 1)
      rw [pk_us, if_pos rfl, if_neg hWi]; omega
  refine ⟨⟨q1, fun j hj h0 => ?_, q5, q6⟩, by omega⟩
  by_cases e : j = i
  · subst e
    obtain ⟨r', h5, h6⟩ := q3 h0
    intro r2 hr2 p hp hn
    have e2 : r' = r2 := Option.some.inj (h5.symm.trans hr2)
    subst e2
    obtain ⟨p', hp', e1, e3⟩ := bc_out_le (hw j hi) h6 p hp
    have := q4 p' (h1 p' (Or.inl hp')) (by rw [e1]; exact hn)
    rw [e1] at this
    exact bc_leO_tr (a := some p.2) (b := some p'.2) e3 this
  · exact q2 j hj e h0
theorem bc_IC_end {n : Nat} {K O T H : bc_F} {g : bc_G} {W : bc_F} (h : bc_IC n K O T H g W) (h0 : ∀ j, j < n → W j = 0) : bc_Lst n K O T H g := ⟨⟨h.1, fun i hi => h.2.1 i hi (h0 i hi)⟩, h.2.2.1⟩
theorem bc_IC_0 {n : Nat} {K O T H : bc_F} {W W' : bc_F} (hW0 : ∀ j, j < 40 → W j = 0) (h : bc_wr n (fun _ => none) W 0 bc_top W') (hn : n ≤ 40) : bc_IC n K O T H (bc_come n (fun _ => none) 0 bc_top) W' := by
  obtain ⟨w1, w2, w3⟩ := h
  refine ⟨fun h0 => by rw [bc_come_at h0]; exact bc_le_rfl _, fun j hj h0 r hr => ?_, fun k hk j hj => ?_, fun j hj h0 => ?_⟩
  · by_cases e : j = 0
    · subst e
      rw [w2 hj trivial] at h0
      exact absurd h0 (by decide)
    · rw [bc_come_ne e] at hr; cases hr
  · by_cases e : j = 0
    · subst e
      rw [bc_come_at hj]
      exact hk.1 hj
    · rw [bc_come_ne e]; trivial
  · by_cases e : j = 0
    · subst e
      by_cases ht : 0 < n
      · exact ⟨ht, bc_top, by rw [bc_come_at ht]; rfl⟩
      · rw [w3 (Or.inl ht)] at h0
        exact absurd (hW0 0 hj) h0
    · rw [w1 j e] at h0
      exact absurd (hW0 j hj) h0
theorem bc_pot_0 {n : Nat} {W W' : bc_F} (hW0 : ∀ j, j < 40 → W j = 0) (h : bc_wr n (fun _ => none) W 0 bc_top W') (hn : n ≤ 40) : bc_pot n (bc_come n (fun _ => none) 0 bc_top) + bc_nw n W' ≤ 280 := by
  obtain ⟨w1, w2, w3⟩ := h
  have q1 : bc_nw n W' ≤ 0 * n + 1 := by
    have h1 : bc_nw n W' ≤ bc_sm (fun _ => 0) n + 1 := by
      refine bc_sm_one 0 (fun j hj hne => ?_) ?_
      · show (if W' j = 0 then 0 else 1) ≤ 0
        rw [w1 j hne, hW0 j (by omega), if_pos rfl]
        exact Nat.le_refl _
      · show (if W' 0 = 0 then 0 else 1) ≤ 0 + 1
        by_cases z : W' 0 = 0
        · rw [if_pos z]; omega
        · rw [if_neg z]; omega
    have h2 := bc_sm_bound (f := fun _ => 0) (b := 0) (k := n) (fun _ _ => Nat.le_refl _)
    omega
  by_cases ht : 0 < n
  · have q2 := bc_pot_lt (n := n) (g := fun _ => none) (t := 0) (q := bc_top) ht trivial
    have q3 : bc_pot n (fun _ => none) ≤ 7 * n := bc_sm_bound (fun j _ => Nat.le_refl _)
    omega
  · have e : n = 0 := by omega
    subst e
    show bc_sm _ 0 + bc_sm _ 0 ≤ 280
    show 0 + 0 ≤ 280
    omega
/-! the reference's sweeps -/
def bc_gr (n : Nat) (g : bc_G) (t : Nat) (q : bc_R) (u u' : Int32) : Prop := (t < n → bc_chg (g t) q → u' = 1) ∧ ((¬ t < n ∨ ¬ bc_chg (g t) q) → u' = u)
def bc_runR (n : Nat) : List (Nat × bc_R) → bc_G → Int32 → bc_G → Int32 → Prop
  | [], g, u, g', u' => g' = g ∧ u' = u
  | p :: L, g, u, g', u' => ∃ u1, bc_gr n g p.1 p.2 u u1 ∧ bc_runR n L (bc_come n g p.1 p.2) u1 g' u'
def bc_IR (n : Nat) (K O T H : bc_F) (m0 : Nat) (i : Nat) (g : bc_G) (u : Int32) : Prop :=
  (0 < n → bc_leO (some bc_top) (g 0)) ∧ bc_low n K O T H g ∧ (u = 0 → ∀ j, j < i → j < n → bc_cl n K O T H g j) ∧ bc_pot n g ≤ m0 ∧ (u ≠ 0 → bc_pot n g < m0)
def bc_IRX (n : Nat) (K O T H : bc_F) (m0 : Nat) (i : Nat) (r : bc_R) (D : List (Nat × bc_R)) (g : bc_G) (u : Int32) : Prop :=
  bc_IR n K O T H m0 i g u ∧ (u = 0 → ∃ r', g i = some r' ∧ bc_le r' r) ∧ ∀ p ∈ D, p.1 < n → bc_leO (some p.2) (g p.1)
theorem bc_IRX_come {n : Nat} {K O T H : bc_F} {m0 i : Nat} {r : bc_R} {D : List (Nat × bc_R)} {g : bc_G} {u u1 : Int32} {p : Nat × bc_R} (hw : bc_wf n K O T H) (hi : i < n) (hr : ∀ h, bc_cld n K O T H h → bc_leO (some r) (h i)) (h : bc_IRX n K O T H m0 i r D g u) (hp : p ∈ bc_out K O T H i r) (hu : bc_gr n g p.1 p.2 u u1) :
    bc_IRX n K O T H m0 i r (p :: D) (bc_come n g p.1 p.2) u1 := by
  obtain ⟨⟨hz, hd, ha, hm, hl⟩, hb, hc⟩ := h
  obtain ⟨w2, w3⟩ := hu
  by_cases hch : p.1 < n ∧ bc_chg (g p.1) p.2
  · have e1 : u1 = 1 := w2 hch.1 hch.2
    have q1 := bc_pot_lt hch.1 hch.2
    subst e1
    refine ⟨⟨fun h0 => bc_leO_tr (hz h0) (bc_come_ge _ _ _ _ _), bc_low_come hw hi hd hr hp, fun z => absurd z (by decide), by omega, fun _ => by omega⟩, fun z => absurd z (by decide), fun p' hp' hn => ?_⟩
    rcases List.mem_cons.mp hp' with e | e
    · subst e; exact bc_come_has _ _ hn
    · exact bc_leO_tr (hc p' e hn) (bc_come_ge _ _ _ _ _)
  · have hor : ¬ p.1 < n ∨ ¬ bc_chg (g p.1) p.2 := by
      by_cases ht : p.1 < n
      · exact Or.inr (fun z => hch ⟨ht, z⟩)
      · exact Or.inl ht
    have e1 := w3 hor
    subst e1
    have q1 := bc_pot_le n g p.1 p.2
    have hcl : ∀ j, j < n → bc_cl n K O T H g j → bc_cl n K O T H (bc_come n g p.1 p.2) j := by
      intro j hj hcj
      rcases hor with z | z
      · rw [bc_come_out z]; exact hcj
      · exact bc_cl_same hw hj hcj z
    refine ⟨⟨fun h0 => bc_leO_tr (hz h0) (bc_come_ge _ _ _ _ _), bc_low_come hw hi hd hr hp, fun z j hj hjn => hcl j hjn (ha z j hj hjn), by omega, fun z => Nat.lt_of_le_of_lt q1 (hl z)⟩, fun z => ?_, fun p' hp' hn => ?_⟩
    · obtain ⟨r', h1, h2⟩ := hb z
      by_cases e : i = p.1
      · have hin : p.1 < n := by rw [← e]; exact hi
        have hn : ¬ bc_chg (g p.1) p.2 := fun z => hch ⟨hin, z⟩
        obtain ⟨r0, h3, h4⟩ := bc_nchg hn
        have h5 : r' = r0 := by
          rw [← e] at h3
          exact Option.some.inj (h1.symm.trans h3)
        refine ⟨bc_jn r0 p.2, ?_, ?_⟩
        · rw [e, bc_come_at hin, h3]
          rfl
        · refine bc_le_tr (q := r0) (fun v hv => Or.inr (h4 v hv)) ?_
          rw [← h5]; exact h2
      · exact ⟨r', by rw [bc_come_ne e]; exact h1, h2⟩
    · rcases List.mem_cons.mp hp' with e | e
      · subst e; exact bc_come_has _ _ hn
      · exact bc_leO_tr (hc p' e hn) (bc_come_ge _ _ _ _ _)
theorem bc_IRX_run {n : Nat} {K O T H : bc_F} {m0 i : Nat} {r : bc_R} (hw : bc_wf n K O T H) (hi : i < n) (hr : ∀ h, bc_cld n K O T H h → bc_leO (some r) (h i)) : ∀ (L D : List (Nat × bc_R)) (g : bc_G) (u : Int32) (g' : bc_G) (u' : Int32), (∀ p ∈ L, p ∈ bc_out K O T H i r) → bc_IRX n K O T H m0 i r D g u → bc_runR n L g u g' u' →
    ∃ D', (∀ p, p ∈ L ∨ p ∈ D → p ∈ D') ∧ bc_IRX n K O T H m0 i r D' g' u'
  | [], D, g, u, g', u', _, h, hrun => by
    obtain ⟨rfl, rfl⟩ := hrun
    exact ⟨D, fun p hp => by rcases hp with hp | hp; · cases hp
                             · exact hp, h⟩
  | p :: L, D, g, u, g', u', hL, h, hrun => by
    obtain ⟨u1, h1, h2⟩ := hrun
    have h3 := bc_IRX_come hw hi hr h (hL p List.mem_cons_self) h1
    obtain ⟨D', h5, h6⟩ := bc_IRX_run hw hi hr L (p :: D) _ u1 g' u' (fun p' hp' => hL p' (List.mem_cons_of_mem _ hp')) h3 h2
    refine ⟨D', fun p' hp' => ?_, h6⟩
    rcases hp' with hp' | hp'
    · rcases List.mem_cons.mp hp' with e | e
      · exact h5 p' (Or.inr (by rw [e]; exact List.mem_cons_self))
      · exact h5 p' (Or.inl e)
    · exact h5 p' (Or.inr (List.mem_cons_of_mem _ hp'))
theorem bc_IR_step {n : Nat} {K O T H : bc_F} {m0 i : Nat} {r : bc_R} {g g' : bc_G} {u u' : Int32} (hw : bc_wf n K O T H) (hi : i < n) (h : bc_IR n K O T H m0 i g u) (hg : g i = some r) (hrun : bc_runR n (bc_out K O T H i r) g u g' u') : bc_IR n K O T H m0 (i + 1) g' u' := by
  have hr : ∀ h, bc_cld n K O T H h → bc_leO (some r) (h i) := fun k hk => by rw [← hg]; exact h.2.1 k hk i hi
  obtain ⟨D', h1, ⟨⟨q1, q2, q3, q4, q5⟩, q6, q7⟩⟩ := bc_IRX_run hw hi hr _ [] g u g' u' (fun p hp => hp) ⟨h, fun _ => ⟨r, hg, bc_le_rfl r⟩, fun p hp => by cases hp⟩ hrun
  refine ⟨q1, q2, fun z j hj hjn => ?_, q4, q5⟩
  by_cases e : j = i
  · subst e
    obtain ⟨r', h5, h6⟩ := q6 z
    intro r2 hr2 p hp hn
    have e2 : r' = r2 := Option.some.inj (h5.symm.trans hr2)
    subst e2
    obtain ⟨p', hp', e1, e3⟩ := bc_out_le (hw j hi) h6 p hp
    have := q7 p' (h1 p' (Or.inl hp')) (by rw [e1]; exact hn)
    rw [e1] at this
    exact bc_leO_tr (a := some p.2) (b := some p'.2) e3 this
  · exact q3 z j (by omega) hjn
theorem bc_IR_skip {n : Nat} {K O T H : bc_F} {m0 i : Nat} {g : bc_G} {u : Int32} (h : bc_IR n K O T H m0 i g u) (hg : g i = none) : bc_IR n K O T H m0 (i + 1) g u := by
  obtain ⟨q1, q2, q3, q4, q5⟩ := h
  refine ⟨q1, q2, fun z j hj hjn => ?_, q4, q5⟩
  by_cases e : j = i
  · subst e
    intro r hr
    rw [hg] at hr
    cases hr
  · exact q3 z j (by omega) hjn
theorem bc_IR_end {n : Nat} {K O T H : bc_F} {m0 : Nat} {g : bc_G} (h : bc_IR n K O T H m0 n g 0) : bc_Lst n K O T H g := ⟨⟨h.1, fun i hi => h.2.2.1 rfl i hi hi⟩, h.2.1⟩
end
section
/-! REWRITING, purely: what fold, thread, drop and number make, as one relation that decides its answer -/
def bc_tn (n : Nat) (x : Int32) : Nat := if x.toNatClampNeg < n then x.toNatClampNeg else n
def bc_gs (k : Int32) : Prop := k = 6 ∨ k = 5
/-- an instruction behind FOLD: kind, one, two where it is no target, three, and the target where it is one (END is n) -/
def bc_f1 (n : Nat) (K O T H : bc_F) (g : bc_G) (i : Nat) : Int32 × Int32 × Int32 × Int32 × Nat :=
  if i < n then
    match g i with
    | none => if K i ≤ 4 ∨ K i = 7 then (K i, O i, T i, H i, 0) else (K i, O i, 0, H i, bc_tn n (T i))
    | some r =>
      if K i ≤ 4 then (match bc_rs K T H i r with
        | some x => (0, O i, x, 0, 0)
        | none => (K i, O i, T i, H i, 0))
      else if K i = 5 then (match r (O i).toNatClampNeg with
        | some x => (6, 0, 0, 0, if x = 0 then bc_tn n (T i) else i + 1)
        | none => (K i, O i, 0, H i, bc_tn n (T i)))
      else if K i = 7 then (K i, O i, T i, H i, 0) else (K i, O i, 0, H i, bc_tn n (T i))
  else (0, 0, 0, 0, 0)
theorem bc_rs_sim {K O T H : bc_F} {i : Nat} {r q : bc_R} (hw : bc_wi (K i) (O i) (T i) (H i)) (h4 : K i ≤ 4) (h : ∀ v, v < 6 → r v = q v) : bc_rs K T H i r = bc_rs K T H i q := by
  rcases bc_rs_le hw h4 (r := r) (q := q) (fun v hv => Or.inr (h v hv)) with e | e
  · rcases bc_rs_le hw h4 (r := q) (q := r) (fun v hv => Or.inr (h v hv).symm) with f | f
    · rw [e, f]
    · exact f.symm
  · exact e
theorem bc_f1_sim {n : Nat} {K O T H : bc_F} {g g' : bc_G} (hw : bc_wf n K O T H) (h : ∀ i, i < n → bc_sim (g i) (g' i)) : bc_f1 n K O T H g = bc_f1 n K O T H g' := by
  funext i
  unfold bc_f1
  by_cases hi : i < n
  · rw [if_pos hi, if_pos hi]
    have hs := h i hi
    cases hg : g i with
    | none =>
      cases hg' : g' i with
      | none => rfl
      | some q => rw [hg, hg'] at hs; exact False.elim hs
    | some r =>
      cases hg' : g' i with
      | none => rw [hg, hg'] at hs; exact False.elim hs
      | some q =>
        rw [hg, hg'] at hs
        have hs : ∀ v, v < 6 → r v = q v := hs
        show (if K i ≤ 4 then _ else _) = (if K i ≤ 4 then _ else _)
        by_cases h4 : K i ≤ 4
        · rw [if_pos h4, if_pos h4, bc_rs_sim (hw i hi) h4 hs]
        · rw [if_neg h4, if_neg h4]
          by_cases h5 : K i = 5
          · rw [if_pos h5, if_pos h5]
            have ho : (O i).toNatClampNeg < 6 := by
              rcases hw i hi with ⟨e, _⟩ | ⟨e, _⟩ | ⟨e, _⟩ | ⟨_, e, _⟩ | ⟨e, _⟩ | ⟨e, _⟩
              · rw [h5] at e; exact absurd e (by decide)
              · rw [h5] at e; exact absurd e (by decide)
              · rw [h5] at e; exact absurd e (by decide)
              · exact bc_vr_lt e
              · rw [h5] at e; exact absurd e (by decide)
              · rw [h5] at e; exact absurd e (by decide)
            rw [hs _ ho]
          · rw [if_neg h5, if_neg h5]
  · rw [if_neg hi, if_neg hi]
/-! chains -/
def bc_J (n : Nat) (K : bc_F) (t : Nat) : Prop := t < n ∧ K t = 6
def bc_hop (n : Nat) (K : bc_F) (q : Nat → Nat) (t : Nat) : Nat := if t < n ∧ K t = 6 then q t else t
def bc_it (f : Nat → Nat) : Nat → Nat → Nat
  | 0, t => t
  | k + 1, t => bc_it f k (f t)
def bc_end (n : Nat) (K : bc_F) (q : Nat → Nat) (t : Nat) : Nat := if bc_it (bc_hop n K q) (n + 1) t < n ∧ K (bc_it (bc_hop n K q) (n + 1) t) = 6 then t else bc_it (bc_hop n K q) (n + 1) t
def bc_fin (n : Nat) (K : bc_F) (q : Nat → Nat) (t e : Nat) : Prop := ∃ k, bc_it (bc_hop n K q) k t = e ∧ ¬ bc_J n K e
theorem bc_it_s (f : Nat → Nat) : ∀ (k t : Nat), bc_it f (k + 1) t = f (bc_it f k t)
  | 0, t => rfl
  | k + 1, t => by
    show bc_it f (k + 1) (f t) = f (bc_it f k (f t))
    exact bc_it_s f k (f t)
theorem bc_it_add (f : Nat → Nat) (a : Nat) : ∀ (b t : Nat), bc_it f (a + b) t = bc_it f b (bc_it f a t)
  | 0, t => rfl
  | b + 1, t => by
    rw [← Nat.add_assoc, bc_it_s, bc_it_add f a b t, bc_it_s f b]
theorem bc_hop_stop {n : Nat} {K : bc_F} {q : Nat → Nat} {t : Nat} (h : ¬ bc_J n K t) : bc_hop n K q t = t := if_neg h
theorem bc_hop_go {n : Nat} {K : bc_F} {q : Nat → Nat} {t : Nat} (h : bc_J n K t) : bc_hop n K q t = q t := if_pos h
theorem bc_it_stop {n : Nat} {K : bc_F} {q : Nat → Nat} {t : Nat} (h : ¬ bc_J n K t) : ∀ k, bc_it (bc_hop n K q) k t = t
  | 0 => rfl
  | k + 1 => by
    rw [bc_it_s, bc_it_stop h k, bc_hop_stop h]
/-- n + 1 numbers below n: two are equal -/
theorem bc_pigeon : ∀ (n : Nat) (f : Nat → Nat), (∀ k, k ≤ n → f k < n) → ∃ a b, a < b ∧ b ≤ n ∧ f a = f b
  | 0, f, h => by have := h 0 (Nat.le_refl _); omega
  | n + 1, f, h => by
    by_cases hx : ∃ a, a ≤ n ∧ f a = f (n + 1)
    · obtain ⟨a, h1, h2⟩ := hx
      exact ⟨a, n + 1, by omega, Nat.le_refl _, h2⟩
    · have hne : ∀ a, a ≤ n → f a ≠ f (n + 1) := fun a ha e => hx ⟨a, ha, e⟩
      have hl : f (n + 1) < n + 1 := h (n + 1) (Nat.le_refl _)
      obtain ⟨a, b, h1, h2, h3⟩ := bc_pigeon n (fun k => if f k = n then f (n + 1) else f k) (fun k hk => by
        show (if f k = n then f (n + 1) else f k) < n
        by_cases e : f k = n
        · rw [if_pos e]
          have := hne k hk
          omega
        · rw [if_neg e]
          have := h k (by omega)
          omega)
      refine ⟨a, b, h1, by omega, ?_⟩
      have h3 : (if f a = n then f (n + 1) else f a) = (if f b = n then f (n + 1) else f b) := h3
      by_cases ea : f a = n
      · by_cases eb : f b = n
        · rw [ea, eb]
        · rw [if_pos ea, if_neg eb] at h3
          exact absurd h3.symm (hne b h2)
      · by_cases eb : f b = n
        · rw [if_neg ea, if_pos eb] at h3
          exact absurd h3 (hne a (by omega))
        · rw [if_neg ea, if_neg eb] at h3
          exact h3
theorem bc_round {n : Nat} {K : bc_F} {q : Nat → Nat} {t : Nat} (h : ∀ k, k ≤ n → bc_J n K (bc_it (bc_hop n K q) k t)) : ∀ k, bc_J n K (bc_it (bc_hop n K q) k t) := by
  obtain ⟨a, b, h1, h2, h3⟩ := bc_pigeon n (fun k => bc_it (bc_hop n K q) k t) (fun k hk => (h k hk).1)
  have h3 : bc_it (bc_hop n K q) a t = bc_it (bc_hop n K q) b t := h3
  intro k
  induction k using Nat.strongRecOn with
  | _ k ih =>
    by_cases hk : k ≤ n
    · exact h k hk
    · have e1 : k = b + (k - b) := by omega
      have e2 : bc_it (bc_hop n K q) k t = bc_it (bc_hop n K q) (a + (k - b)) t := by
        rw [e1, bc_it_add, ← h3, ← bc_it_add]
        congr 1
        omega
      rw [e2]
      exact ih _ (by omega)
theorem bc_end_fin {n : Nat} {K : bc_F} {q : Nat → Nat} {t e : Nat} (h : bc_fin n K q t e) : bc_end n K q t = e := by
  obtain ⟨k, h1, h2⟩ := h
  have hx : ∃ k, k ≤ n ∧ ¬ bc_J n K (bc_it (bc_hop n K q) k t) := by
    apply Classical.byContradiction
    intro hno
    have := bc_round (n := n) (K := K) (q := q) (t := t) (fun k hk => Classical.byContradiction (fun z => hno ⟨k, hk, z⟩)) k
    rw [h1] at this
    exact h2 this
  obtain ⟨a, ha, hb⟩ := hx
  have e1 : bc_it (bc_hop n K q) (n + 1) t = bc_it (bc_hop n K q) a t := by
    rw [show n + 1 = a + (n + 1 - a) by omega, bc_it_add, bc_it_stop hb]
  have e2 : bc_it (bc_hop n K q) a t = e := by
    by_cases hak : a ≤ k
    · rw [← h1, show k = a + (k - a) by omega, bc_it_add, bc_it_stop hb]
    · have : bc_it (bc_hop n K q) a t = bc_it (bc_hop n K q) k t := by
        rw [show a = k + (a - k) by omega, bc_it_add]
        rw [h1, bc_it_stop h2]
      rw [this, h1]
  unfold bc_end
  rw [e1, e2]
  exact if_neg h2
theorem bc_end_no {n : Nat} {K : bc_F} {q : Nat → Nat} {t : Nat} (h : ¬ ∃ e, bc_fin n K q t e) : bc_end n K q t = t := by
  unfold bc_end
  by_cases hj : bc_it (bc_hop n K q) (n + 1) t < n ∧ K (bc_it (bc_hop n K q) (n + 1) t) = 6
  · exact if_pos hj
  · exact absurd ⟨_, n + 1, rfl, hj⟩ h
theorem bc_fin_step {n : Nat} {K : bc_F} {q : Nat → Nat} {t e : Nat} (hj : bc_J n K t) (h : bc_fin n K q (q t) e) : bc_fin n K q t e := by
  obtain ⟨k, h1, h2⟩ := h
  exact ⟨k + 1, by show bc_it _ k (bc_hop n K q t) = e; rw [bc_hop_go hj]; exact h1, h2⟩
/-- some targets put to their chains' ends: each chain's end is as it was -/
theorem bc_fin_mod {n : Nat} {K : bc_F} {q q' : Nat → Nat} (h : ∀ j, j < n → q' j = q j ∨ q' j = bc_end n K q (q j)) (t e : Nat) : bc_fin n K q' t e ↔ bc_fin n K q t e := by
  constructor
  · rintro ⟨k, h1, h2⟩
    induction k generalizing t with
    | zero => exact ⟨0, h1, h2⟩
    | succ k ih =>
      by_cases hj : bc_J n K t
      · have h1 : bc_it (bc_hop n K q') k (bc_hop n K q' t) = e := h1
        rw [bc_hop_go hj] at h1
        have h3 := ih (q' t) h1
        rcases h t hj.1 with e1 | e1
        · rw [e1] at h3; exact bc_fin_step hj h3
        · rw [e1] at h3
          by_cases hx : ∃ e', bc_fin n K q (q t) e'
          · obtain ⟨e', hx⟩ := hx
            have e2 := bc_end_fin hx
            rw [e2] at h3
            obtain ⟨k3, h4, h5⟩ := h3
            obtain ⟨k4, h6, h7⟩ := hx
            rw [bc_it_stop h7] at h4
            exact bc_fin_step hj ⟨k4, by rw [h6, h4], h5⟩
          · rw [bc_end_no hx] at h3
            exact bc_fin_step hj h3
      · have h1 : bc_it (bc_hop n K q') (k + 1) t = e := h1
        rw [bc_it_stop hj] at h1
        exact ⟨0, h1, h2⟩
  · rintro ⟨k, h1, h2⟩
    induction k generalizing t with
    | zero => exact ⟨0, h1, h2⟩
    | succ k ih =>
      by_cases hj : bc_J n K t
      · have h1 : bc_it (bc_hop n K q) k (bc_hop n K q t) = e := h1
        rw [bc_hop_go hj] at h1
        rcases h t hj.1 with e1 | e1
        · exact bc_fin_step hj (by rw [e1]; exact ih (q t) h1)
        · have e2 := bc_end_fin (n := n) (K := K) (q := q) (t := q t) (e := e) ⟨k, h1, h2⟩
          exact bc_fin_step hj (by rw [e1, e2]; exact ⟨0, rfl, h2⟩)
      · have h1 : bc_it (bc_hop n K q) (k + 1) t = e := h1
        rw [bc_it_stop hj] at h1
        exact ⟨0, h1, h2⟩
theorem bc_end_mod {n : Nat} {K : bc_F} {q q' : Nat → Nat} (h : ∀ j, j < n → q' j = q j ∨ q' j = bc_end n K q (q j)) (t : Nat) : bc_end n K q' t = bc_end n K q t := by
  by_cases hx : ∃ e, bc_fin n K q t e
  · obtain ⟨e, hx⟩ := hx
    rw [bc_end_fin hx, bc_end_fin ((bc_fin_mod h t e).mpr hx)]
  · rw [bc_end_no hx, bc_end_no (fun ⟨e, z⟩ => hx ⟨e, (bc_fin_mod h t e).mp z⟩)]
/-- the class's way: n + 1 looks -/
theorem bc_end_round {n : Nat} {K : bc_F} {q : Nat → Nat} {t : Nat} (h : ∀ k, k ≤ n → bc_J n K (bc_it (bc_hop n K q) k t)) : bc_end n K q t = t := bc_end_no (fun ⟨e, k, h1, h2⟩ => h2 (by rw [← h1]; exact bc_round h k))
theorem bc_hop_le {n : Nat} {K : bc_F} {q : Nat → Nat} (hq : ∀ j, j < n → q j ≤ n) {t : Nat} (ht : t ≤ n) : bc_hop n K q t ≤ n := by
  unfold bc_hop
  by_cases h : t < n ∧ K t = 6
  · rw [if_pos h]; exact hq t h.1
  · rw [if_neg h]; exact ht
theorem bc_it_le {n : Nat} {K : bc_F} {q : Nat → Nat} (hq : ∀ j, j < n → q j ≤ n) : ∀ (k t : Nat), t ≤ n → bc_it (bc_hop n K q) k t ≤ n
  | 0, t, ht => ht
  | k + 1, t, ht => bc_it_le hq k _ (bc_hop_le hq ht)
theorem bc_end_le {n : Nat} {K : bc_F} {q : Nat → Nat} (hq : ∀ j, j < n → q j ≤ n) {t : Nat} (ht : t ≤ n) : bc_end n K q t ≤ n := by
  unfold bc_end
  by_cases h : bc_it (bc_hop n K q) (n + 1) t < n ∧ K (bc_it (bc_hop n K q) (n + 1) t) = 6
  · rw [if_pos h]; exact ht
  · rw [if_neg h]; exact bc_it_le hq _ _ ht
/-! what stays -/
def bc_sc (n : Nat) (K : bc_F) (q : Nat → Nat) (i t : Nat) : Prop := t < n ∧ ((bc_gs (K i) ∧ t = q i) ∨ (K i ≠ 6 ∧ K i ≠ 7 ∧ t = i + 1))
def bc_cs (n : Nat) (K : bc_F) (q : Nat → Nat) (P : Nat → Prop) : Prop := (0 < n → P 0) ∧ ∀ i t, i < n → P i → bc_sc n K q i t → P t
def bc_sty (n : Nat) (K : bc_F) (q : Nat → Nat) (i : Nat) : Prop := ∀ P, bc_cs n K q P → P i
theorem bc_sty_0 {n : Nat} {K : bc_F} {q : Nat → Nat} (h : 0 < n) : bc_sty n K q 0 := fun _ hP => hP.1 h
theorem bc_sty_s {n : Nat} {K : bc_F} {q : Nat → Nat} {i t : Nat} (hi : i < n) (h : bc_sty n K q i) (hs : bc_sc n K q i t) : bc_sty n K q t := fun P hP => hP.2 i t hi (h P hP) hs
theorem bc_sty_of {n : Nat} {K : bc_F} {q : Nat → Nat} {A : bc_F} (h0 : 0 < n → A 0 ≠ 0) (hl : ∀ j, j < n → A j ≠ 0 → bc_sty n K q j) (hc : ∀ i t, i < n → A i ≠ 0 → bc_sc n K q i t → A t ≠ 0) : ∀ j, j < n → (A j ≠ 0 ↔ bc_sty n K q j) :=
  fun j hj => ⟨hl j hj, fun h => h (fun j => A j ≠ 0) ⟨h0, fun i t hi hA hs => hc i t hi hA hs⟩⟩
/-- the next that stays, or the END -/
def bc_nx (n : Nat) (A : bc_F) (j k : Nat) : Prop := j ≤ k ∧ k ≤ n ∧ (k < n → A k ≠ 0) ∧ ∀ m, j ≤ m → m < k → A m = 0
theorem bc_nx_uniq {n : Nat} {A : bc_F} {j k k' : Nat} (h : bc_nx n A j k) (h' : bc_nx n A j k') : k = k' := by
  obtain ⟨a1, a2, a3, a4⟩ := h
  obtain ⟨b1, b2, b3, b4⟩ := h'
  by_cases c1 : k < k'
  · exact absurd (b4 k a1 c1) (a3 (by omega))
  · by_cases c2 : k' < k
    · exact absurd (a4 k' b1 c2) (b3 (by omega))
    · omega
theorem bc_nx_at {n : Nat} {A : bc_F} {j : Nat} (hj : j < n) (h : A j ≠ 0) : bc_nx n A j j := ⟨Nat.le_refl _, by omega, fun _ => h, fun m h1 h2 => by omega⟩
theorem bc_nx_on {n : Nat} {A : bc_F} {j k : Nat} (h : A j = 0) (hk : bc_nx n A (j + 1) k) : bc_nx n A j k := by
  obtain ⟨a1, a2, a3, a4⟩ := hk
  refine ⟨by omega, a2, a3, fun m h1 h2 => ?_⟩
  by_cases e : m = j
  · rw [e]; exact h
  · exact a4 m (by omega) h2
theorem bc_nx_n (n : Nat) (A : bc_F) : bc_nx n A n n := ⟨Nat.le_refl _, Nat.le_refl _, fun h => by omega, fun m h1 h2 => by omega⟩
theorem bc_nx_ex {n : Nat} {A : bc_F} : ∀ (d j : Nat), j + d = n → ∃ k, bc_nx n A j k
  | 0, j, h => by
    have e : j = n := by omega
    subst e
    exact ⟨j, bc_nx_n j A⟩
  | d + 1, j, h => by
    by_cases e : A j = 0
    · obtain ⟨k, hk⟩ := bc_nx_ex (n := n) (A := A) d (j + 1) (by omega)
      exact ⟨k, bc_nx_on e hk⟩
    · exact ⟨j, bc_nx_at (by omega) e⟩
theorem bc_nx_cg {n : Nat} {A B : bc_F} {j k : Nat} (h : bc_nx n A j k) (hAB : ∀ m, j ≤ m → m < n → (A m ≠ 0 ↔ B m ≠ 0)) : bc_nx n B j k := by
  obtain ⟨a1, a2, a3, a4⟩ := h
  refine ⟨a1, a2, fun hk => (hAB k a1 hk).mp (a3 hk), fun m h1 h2 => ?_⟩
  apply Classical.byContradiction
  intro z
  exact (hAB m h1 (by omega)).mpr z (a4 m h1 h2)
/-- jumps to the next are dropped, from the last on -/
def bc_DJ (n : Nat) (K : bc_F) (q : Nat → Nat) (A B : bc_F) (i : Nat) : Prop := ∀ k, bc_nx n B (i + 1) k → (B i ≠ 0 ↔ A i ≠ 0 ∧ ¬ (K i = 6 ∧ q i = k))
theorem bc_DJ_uniq {n : Nat} {K : bc_F} {q : Nat → Nat} {A B A' B' : bc_F} (hA : ∀ j, j < n → (A j ≠ 0 ↔ A' j ≠ 0)) (h : ∀ i, i < n → bc_DJ n K q A B i) (h' : ∀ i, i < n → bc_DJ n K q A' B' i) : ∀ j, j < n → (B j ≠ 0 ↔ B' j ≠ 0) := by
  have main : ∀ d i, i + d + 1 = n → ∀ m, i ≤ m → m < n → (B m ≠ 0 ↔ B' m ≠ 0) := by
    intro d
    induction d with
    | zero =>
      intro i hi m h1 h2
      have e : m = i := by omega
      subst e
      obtain ⟨k, hk⟩ := bc_nx_ex (n := n) (A := B) 0 (m + 1) (by omega)
      have hk' : bc_nx n B' (m + 1) k := bc_nx_cg hk (fun z z1 z2 => by omega)
      rw [h m h2 k hk, h' m h2 k hk', hA m h2]
    | succ d ih =>
      intro i hi m h1 h2
      have up := ih (i + 1) (by omega)
      by_cases e : m = i
      · subst e
        obtain ⟨k, hk⟩ := bc_nx_ex (n := n) (A := B) (d + 1) (m + 1) (by omega)
        have hk' : bc_nx n B' (m + 1) k := bc_nx_cg hk up
        rw [h m h2 k hk, h' m h2 k hk', hA m h2]
      · exact up m (by omega) h2
  intro j hj
  exact main (n - 1 - j) j (by omega) j (Nat.le_refl _) hj
/-! new numbers -/
def bc_ct (A : bc_F) (i : Nat) : Nat := bc_sm (fun j => if A j = 0 then 0 else 1) i
theorem bc_ct_0 {A : bc_F} {i : Nat} (h : A i = 0) : bc_ct A (i + 1) = bc_ct A i := by
  show bc_ct A i + (if A i = 0 then 0 else 1) = bc_ct A i
  rw [if_pos h]; omega
theorem bc_ct_1 {A : bc_F} {i : Nat} (h : A i ≠ 0) : bc_ct A (i + 1) = bc_ct A i + 1 := by
  show bc_ct A i + (if A i = 0 then 0 else 1) = bc_ct A i + 1
  rw [if_neg h]
theorem bc_ct_le (A : bc_F) : ∀ i, bc_ct A i ≤ i
  | 0 => Nat.le_refl _
  | i + 1 => by
    have := bc_ct_le A i
    by_cases h : A i = 0
    · rw [bc_ct_0 h]; omega
    · rw [bc_ct_1 h]; omega
theorem bc_ct_mono (A : bc_F) (i : Nat) : ∀ d, bc_ct A i ≤ bc_ct A (i + d)
  | 0 => Nat.le_refl _
  | d + 1 => by
    have := bc_ct_mono A i d
    by_cases h : A (i + d) = 0
    · rw [← Nat.add_assoc, bc_ct_0 h]; omega
    · rw [← Nat.add_assoc, bc_ct_1 h]; omega
theorem bc_ct_lt {A : bc_F} {i j : Nat} (hi : A i ≠ 0) (h : i < j) : bc_ct A i < bc_ct A j := by
  have h1 := bc_ct_mono A (i + 1) (j - (i + 1))
  rw [bc_ct_1 hi, show i + 1 + (j - (i + 1)) = j by omega] at h1
  omega
theorem bc_ct_inj {A : bc_F} {i j : Nat} (hi : A i ≠ 0) (hj : A j ≠ 0) (h : bc_ct A i = bc_ct A j) : i = j := by
  by_cases c1 : i < j
  · have := bc_ct_lt hi c1; omega
  · by_cases c2 : j < i
    · have := bc_ct_lt hj c2; omega
    · omega
theorem bc_ct_sur {A : bc_F} : ∀ (n j : Nat), j < bc_ct A n → ∃ i, i < n ∧ A i ≠ 0 ∧ bc_ct A i = j
  | 0, j, h => by
    have : bc_ct A 0 = 0 := rfl
    omega
  | n + 1, j, h => by
    by_cases e : A n = 0
    · rw [bc_ct_0 e] at h
      obtain ⟨i, h1, h2⟩ := bc_ct_sur n j h
      exact ⟨i, by omega, h2⟩
    · rw [bc_ct_1 e] at h
      by_cases c : j < bc_ct A n
      · obtain ⟨i, h1, h2⟩ := bc_ct_sur n j c
        exact ⟨i, by omega, h2⟩
      · exact ⟨n, by omega, e, by omega⟩
theorem bc_ct_cg {A B : bc_F} : ∀ {i : Nat}, (∀ j, j < i → (A j ≠ 0 ↔ B j ≠ 0)) → bc_ct A i = bc_ct B i
  | 0, _ => rfl
  | i + 1, h => by
    have h1 := bc_ct_cg (A := A) (B := B) (i := i) (fun j hj => h j (by omega))
    have h2 := h i (by omega)
    by_cases e : A i = 0
    · have e2 : B i = 0 := Classical.byContradiction (fun z => (h2.mpr z) e)
      rw [bc_ct_0 e, bc_ct_0 e2, h1]
    · rw [bc_ct_1 e, bc_ct_1 (h2.mp e), h1]
theorem bc_ct_nx {n : Nat} {A : bc_F} {j k : Nat} (h : bc_nx n A j k) : bc_ct A k = bc_ct A j := by
  obtain ⟨h1, h2, h3, h4⟩ := h
  have main : ∀ d, j + d ≤ k → bc_ct A (j + d) = bc_ct A j := by
    intro d
    induction d with
    | zero => intro _; rfl
    | succ d ih =>
      intro hd
      rw [← Nat.add_assoc, bc_ct_0 (h4 (j + d) (by omega) (by omega)), ih (by omega)]
  have := main (k - j) (by omega)
  rw [show j + (k - j) = k by omega] at this
  exact this
/-- the whole of REWRITING -/
def bc_q2 (n : Nat) (F : Nat → Int32 × Int32 × Int32 × Int32 × Nat) (i : Nat) : Nat := bc_end n (fun j => (F j).1) (fun j => (F j).2.2.2.2) ((F i).2.2.2.2)
def bc_RW (n : Nat) (F : Nat → Int32 × Int32 × Int32 × Int32 × Nat) (n2 : Nat) (K3 O3 T3 H3 : bc_F) : Prop :=
  ∃ A B : bc_F, (∀ i, i < n → (A i ≠ 0 ↔ bc_sty n (fun j => (F j).1) (bc_q2 n F) i)) ∧ (∀ i, i < n → bc_DJ n (fun j => (F j).1) (bc_q2 n F) A B i) ∧ n2 = bc_ct B n ∧
    ∀ i, i < n → B i ≠ 0 → K3 (bc_ct B i) = (F i).1 ∧ O3 (bc_ct B i) = (F i).2.1 ∧ H3 (bc_ct B i) = (F i).2.2.2.1 ∧ (bc_gs (F i).1 → T3 (bc_ct B i) = nI (bc_ct B (bc_q2 n F i))) ∧ (¬ bc_gs (F i).1 → T3 (bc_ct B i) = (F i).2.2.1)
theorem bc_RW_uniq {n : Nat} {F : Nat → Int32 × Int32 × Int32 × Int32 × Nat} {n2 m2 : Nat} {K3 O3 T3 H3 K4 O4 T4 H4 : bc_F} (hq : ∀ i, i < n → (F i).2.2.2.2 ≤ n) (h : bc_RW n F n2 K3 O3 T3 H3) (h' : bc_RW n F m2 K4 O4 T4 H4) : n2 = m2 ∧ ∀ j, j < n2 → K3 j = K4 j ∧ O3 j = O4 j ∧ T3 j = T4 j ∧ H3 j = H4 j := by
  obtain ⟨A, B, h1, h2, h3, h4⟩ := h
  obtain ⟨A', B', k1, k2, k3, k4⟩ := h'
  have hA : ∀ j, j < n → (A j ≠ 0 ↔ A' j ≠ 0) := fun j hj => (h1 j hj).trans (k1 j hj).symm
  have hB := bc_DJ_uniq hA h2 k2
  have hc : ∀ i, i ≤ n → bc_ct B i = bc_ct B' i := fun i hi => bc_ct_cg (fun j hj => hB j (by omega))
  refine ⟨by rw [h3, k3]; exact hc n (Nat.le_refl _), fun j hj => ?_⟩
  rw [h3] at hj
  obtain ⟨i, i1, i2, i3⟩ := bc_ct_sur n j hj
  obtain ⟨a1, a2, a3, a4, a5⟩ := h4 i i1 i2
  obtain ⟨b1, b2, b3, b4, b5⟩ := k4 i i1 ((hB i i1).mp i2)
  rw [← hc i (by omega)] at b1 b2 b3 b4 b5
  rw [i3] at a1 a2 a3 a4 a5 b1 b2 b3 b4 b5
  refine ⟨by rw [a1, b1], by rw [a2, b2], ?_, by rw [a3, b3]⟩
  by_cases e : bc_gs (F i).1
  · rw [a4 e, b4 e, hc (bc_q2 n F i) (bc_end_le hq (hq i i1))]
  · rw [a5 e, b5 e]
end
section
/-! rows of my own over the kit's: places by natural numbers, loops, cuts -/
theorem bc_inc (i : Nat) : nI i + Int32.ofInt 1 = nI (i + 1) := nI_1 i
theorem bc_dec (i : Nat) : nI (i + 1) + Int32.ofInt (-1) = nI i := by
  rw [← nI_pred i, Int32.sub_eq_add_neg]
  rfl
section BCR
variable {p : Program} {l : Launch} {e : Env} {R : Room} {s : State} {m : MethodId} {args : Array Value} {below : List Frame} {meth : Method} {c : Code} {H : Heap} {locs : List Loc} {cells slots : Nat} {Q : State → Prop}
variable {cc : ByteArray} {pc : Nat} {ls : Array Slot} {rest : List Value} {D : va_G} {cl : List vw_C} {A : Nat → Prop} {a : Nat} {tys : List (ClassId × FieldType)} {ws : va_W} {H0 : Heap}
theorem bc_ti {x y : Int32} (h : x = y) (k : W p l e R s m args below meth c H locs cells slots Q (F0 m pc ls (.int y :: rest))) : W p l e R s m args below meth c H locs cells slots Q (F0 m pc ls (.int x :: rest)) := by
  subst h; exact k
theorem bc_ild (hexec : p.tables.exec = Jvm.exec) (hb : c.code = cc) (hK : va_K D cl tys s) (hP : va_P D cl ws H) (q0 t0 : Nat) {cA : ClassId} {n : Nat} {f : Nat → Int32} (ha : ws[q0]? = some (a, .inl (cA, n, .inl f))) (ht : tys[t0]? = some (cA, .int)) {j : Nat} (hj : j < n) (hn : n < 2 ^ 31) (hdg : decode cc pc = .ok (.iaload, 1))
    (kk : W p l e R s m args below meth c H locs cells slots Q (F0 m (pc + 1) ls (.int (f j) :: rest))) : W p l e R s m args below meth c H locs cells slots Q (F0 m pc ls (.int (nI j) :: .ref a :: rest)) :=
  va_iald hexec hb hK hP q0 t0 ha ht (vp_in_nI hj hn) hdg (by rw [nI_clamp (Nat.lt_trans hj hn)]; exact kk)
theorem bc_zld (hexec : p.tables.exec = Jvm.exec) (hb : c.code = cc) (hK : va_K D cl tys s) (hP : va_P D cl ws H) (q0 t0 : Nat) {cA : ClassId} {n : Nat} {f : Nat → Int32} (ha : ws[q0]? = some (a, .inl (cA, n, .inl f))) (ht : tys[t0]? = some (cA, .boolean)) {j : Nat} (hj : j < n) (hn : n < 2 ^ 31) (hdg : decode cc pc = .ok (.baload, 1))
    (kk : W p l e R s m args below meth c H locs cells slots Q (F0 m (pc + 1) ls (.int (f j) :: rest))) : W p l e R s m args below meth c H locs cells slots Q (F0 m pc ls (.int (nI j) :: .ref a :: rest)) :=
  va_zald hexec hb hK hP q0 t0 ha ht (vp_in_nI hj hn) hdg (by rw [nI_clamp (Nat.lt_trans hj hn)]; exact kk)
theorem bc_ist (hexec : p.tables.exec = Jvm.exec) (hb : c.code = cc) (hK : va_K D cl tys s) (hP : va_P D cl ws H) (hD : va_D A ws) (hS : va_S A H0 H locs) (q0 t0 : Nat) {cA : ClassId} {n : Nat} {f : Nat → Int32} (ha : ws[q0]? = some (a, .inl (cA, n, .inl f))) (ht : tys[t0]? = some (cA, .int)) {j : Nat} {x : Int32} (hj : j < n) (hn : n < 2 ^ 31) (hdg : decode cc pc = .ok (.iastore, 1))
    (kk : ∀ (H1 : Heap) (locs1 : List Loc), va_P D cl (ws.set q0 (a, .inl (cA, n, .inl (upd f j x)))) H1 → va_D A (ws.set q0 (a, .inl (cA, n, .inl (upd f j x)))) → va_S A H0 H1 locs1 → W p l e R s m args below meth c H1 locs1 cells slots Q (F0 m (pc + 1) ls rest)) : W p l e R s m args below meth c H locs cells slots Q (F0 m pc ls (.int x :: .int (nI j) :: .ref a :: rest)) := by
  refine va_iast hexec hb hK hP hD hS q0 t0 ha ht (vp_in_nI hj hn) hdg ?_
  rw [nI_clamp (Nat.lt_trans hj hn)]
  exact kk
theorem bc_zst (hexec : p.tables.exec = Jvm.exec) (hb : c.code = cc) (hK : va_K D cl tys s) (hP : va_P D cl ws H) (hD : va_D A ws) (hS : va_S A H0 H locs) (q0 t0 : Nat) {cA : ClassId} {n : Nat} {f : Nat → Int32} (ha : ws[q0]? = some (a, .inl (cA, n, .inl f))) (ht : tys[t0]? = some (cA, .boolean)) {j : Nat} {x : Int32} (hx : vp_nar .boolean x = x) (hj : j < n) (hn : n < 2 ^ 31) (hdg : decode cc pc = .ok (.bastore, 1))
    (kk : ∀ (H1 : Heap) (locs1 : List Loc), va_P D cl (ws.set q0 (a, .inl (cA, n, .inl (upd f j x)))) H1 → va_D A (ws.set q0 (a, .inl (cA, n, .inl (upd f j x)))) → va_S A H0 H1 locs1 → W p l e R s m args below meth c H1 locs1 cells slots Q (F0 m (pc + 1) ls rest)) : W p l e R s m args below meth c H locs cells slots Q (F0 m pc ls (.int x :: .int (nI j) :: .ref a :: rest)) := by
  refine va_zast hexec hb hK hP hD hS q0 t0 ha ht (vp_in_nI hj hn) hdg ?_
  rw [nI_clamp (Nat.lt_trans hj hn), hx]
  exact kk
/-- a loop: a measure that falls, an invariant over what changes -/
theorem bc_loop {st : List Value} (I : Nat → Heap → List Loc → Array Slot → Prop)
    (step : ∀ (k : Nat) (H : Heap) (locs : List Loc) (ls : Array Slot), I k H locs ls → (∀ (k' : Nat) (H' : Heap) (locs' : List Loc) (ls' : Array Slot), k' < k → I k' H' locs' ls' → W p l e R s m args below meth c H' locs' cells slots Q (F0 m pc ls' st)) → W p l e R s m args below meth c H locs cells slots Q (F0 m pc ls st))
    (h : ∃ k, I k H locs ls) : W p l e R s m args below meth c H locs cells slots Q (F0 m pc ls st) := by
  obtain ⟨k, h⟩ := h
  induction k using Nat.strongRecOn generalizing H locs ls with
  | _ k ih => exact step k H locs ls h (fun k' H' locs' ls' hk hI => ih k' hk hI)
/-- roads that meet: what holds where they meet -/
theorem bc_meet {σ : Type} {g : JFrame} (pc' : Nat) (st' : σ → List Value) (I : σ → Heap → List Loc → Array Slot → Prop)
    (k : ∀ (x : σ) (H : Heap) (locs : List Loc) (ls : Array Slot), I x H locs ls → W p l e R s m args below meth c H locs cells slots Q (F0 m pc' ls (st' x)))
    (kk : (∀ (x : σ) (H : Heap) (locs : List Loc) (ls : Array Slot), I x H locs ls → W p l e R s m args below meth c H locs cells slots Q (F0 m pc' ls (st' x))) → W p l e R s m args below meth c H locs cells slots Q g) : W p l e R s m args below meth c H locs cells slots Q g := kk k
end BCR
end
section
/-! runs, purely -/
def bc_as (K T H : bc_F) (i : Nat) (x : bc_F) : Int32 := if K i = 0 then T i else if K i = 1 then x (T i).toNatClampNeg else bc_ar (K i) (x (T i).toNatClampNeg) (x (H i).toNatClampNeg)
def bc_pl (n t : Nat) : Int32 := if t < n then nI t else -1
def bc_st (n : Nat) (K O T H : bc_F) (i : Nat) (x : bc_F) : bc_F × Int32 :=
  if K i = 7 then (x, -1) else if K i = 6 then (x, bc_pl n (T i).toNatClampNeg)
  else if K i = 5 then (x, if x (O i).toNatClampNeg = 0 then bc_pl n (T i).toNatClampNeg else bc_pl n (i + 1))
  else (upd x (O i).toNatClampNeg (bc_as K T H i x), bc_pl n (i + 1))
def bc_rn (n : Nat) (K O T H : bc_F) : Nat → bc_F × Int32 → (bc_F × Int32) × Nat
  | 0, s => (s, 0)
  | k + 1, s => if s.2 = -1 then (s, 0) else ((bc_rn n K O T H k (bc_st n K O T H s.2.toNatClampNeg s.1)).1, (bc_rn n K O T H k (bc_st n K O T H s.2.toNatClampNeg s.1)).2 + 1)
/-- a place: none, or an instruction -/
def bc_ok (n : Nat) (p : Int32) : Prop := p = -1 ∨ ∃ j : Nat, j < n ∧ p = nI j
theorem bc_pl_ok (n t : Nat) : bc_ok n (bc_pl n t) := by
  unfold bc_pl
  by_cases h : t < n
  · rw [if_pos h]; exact Or.inr ⟨t, h, rfl⟩
  · rw [if_neg h]; exact Or.inl rfl
theorem bc_st_ok (n : Nat) (K O T H : bc_F) (i : Nat) (x : bc_F) : bc_ok n (bc_st n K O T H i x).2 := by
  unfold bc_st
  by_cases h7 : K i = 7
  · rw [if_pos h7]; exact Or.inl rfl
  · rw [if_neg h7]
    by_cases h6 : K i = 6
    · rw [if_pos h6]; exact bc_pl_ok _ _
    · rw [if_neg h6]
      by_cases h5 : K i = 5
      · rw [if_pos h5]
        show bc_ok n (if x (O i).toNatClampNeg = 0 then _ else _)
        by_cases h0 : x (O i).toNatClampNeg = 0
        · rw [if_pos h0]; exact bc_pl_ok _ _
        · rw [if_neg h0]; exact bc_pl_ok _ _
      · rw [if_neg h5]; exact bc_pl_ok _ _
theorem bc_as_cg {K T H K' T' H' : bc_F} {i : Nat} {x y : bc_F} {o : Int32} (hk : K' i = K i) (ht : T' i = T i) (hh : H' i = H i) (hw : bc_wi (K i) o (T i) (H i)) (h4 : ¬ K i = 5 ∧ ¬ K i = 6 ∧ ¬ K i = 7) (h : ∀ v, v < 6 → x v = y v) : bc_as K T H i x = bc_as K' T' H' i y := by
  unfold bc_as
  rw [hk, ht, hh]
  by_cases k0 : K i = 0
  · rw [if_pos k0, if_pos k0]
  · rw [if_neg k0, if_neg k0]
    rcases hw with ⟨e, _⟩ | ⟨e, _, e2, _⟩ | ⟨e, _, e2, e3⟩ | ⟨e, _⟩ | ⟨e, _⟩ | ⟨e, _⟩
    · exact absurd e k0
    · rw [if_pos e, if_pos e]; exact h _ (bc_vr_lt e2)
    · have k1 : ¬ K i = 1 := by
        intro z
        rw [z] at e
        exact absurd e (by decide)
      rw [if_neg k1, if_neg k1, h _ (bc_vr_lt e2), h _ (bc_vr_lt e3)]
    · exact absurd e h4.1
    · exact absurd e h4.2.1
    · exact absurd e h4.2.2
theorem bc_st_cg {n : Nat} {K O T H K' O' T' H' : bc_F} {i : Nat} {x y : bc_F} (hk : K' i = K i) (ho : O' i = O i) (ht : T' i = T i) (hh : H' i = H i) (hw : bc_wi (K i) (O i) (T i) (H i)) (h : ∀ v, v < 6 → x v = y v) : (∀ v, v < 6 → (bc_st n K O T H i x).1 v = (bc_st n K' O' T' H' i y).1 v) ∧ (bc_st n K O T H i x).2 = (bc_st n K' O' T' H' i y).2 := by
  unfold bc_st
  rw [hk, ho, ht]
  by_cases h7 : K i = 7
  · rw [if_pos h7, if_pos h7]; exact ⟨h, rfl⟩
  · rw [if_neg h7, if_neg h7]
    by_cases h6 : K i = 6
    · rw [if_pos h6, if_pos h6]; exact ⟨h, rfl⟩
    · rw [if_neg h6, if_neg h6]
      by_cases h5 : K i = 5
      · rw [if_pos h5, if_pos h5]
        have hv : (O i).toNatClampNeg < 6 := by
          rcases hw with ⟨e, _⟩ | ⟨e, _⟩ | ⟨e, _⟩ | ⟨_, e, _⟩ | ⟨e, _⟩ | ⟨e, _⟩
          · rw [h5] at e; exact absurd e (by decide)
          · rw [h5] at e; exact absurd e (by decide)
          · rw [h5] at e; exact absurd e (by decide)
          · exact bc_vr_lt e
          · exact absurd e h6
          · exact absurd e h7
        refine ⟨h, ?_⟩
        show (if x (O i).toNatClampNeg = 0 then _ else _) = (if y (O i).toNatClampNeg = 0 then _ else _)
        rw [h _ hv]
      · rw [if_neg h5, if_neg h5]
        refine ⟨fun v hv => ?_, rfl⟩
        show upd x _ _ v = upd y _ _ v
        rw [bc_as_cg hk ht hh hw ⟨h5, h6, h7⟩ h]
        by_cases e : v = (O i).toNatClampNeg
        · subst e; rw [pk_us, pk_us]
        · rw [pk_un e, pk_un e]; exact h v hv
theorem bc_rn_cg {n : Nat} {K O T H K' O' T' H' : bc_F} (hn : n < 2 ^ 31) (hc : ∀ i, i < n → K' i = K i ∧ O' i = O i ∧ T' i = T i ∧ H' i = H i) (hw : bc_wf n K O T H) : ∀ (k : Nat) (x y : bc_F) (p : Int32), bc_ok n p → (∀ v, v < 6 → x v = y v) →
    (∀ v, v < 6 → (bc_rn n K O T H k (x, p)).1.1 v = (bc_rn n K' O' T' H' k (y, p)).1.1 v) ∧ (bc_rn n K O T H k (x, p)).1.2 = (bc_rn n K' O' T' H' k (y, p)).1.2 ∧ (bc_rn n K O T H k (x, p)).2 = (bc_rn n K' O' T' H' k (y, p)).2
  | 0, x, y, p, _, h => ⟨h, rfl, rfl⟩
  | k + 1, x, y, p, hp, h => by
    unfold bc_rn
    by_cases e : p = -1
    · simp only [if_pos e]; refine ⟨h, ?_, ?_⟩ <;> first | rfl | trivial
    · simp only [if_neg e]
      rcases hp with z | ⟨j, hj, z⟩
      · exact absurd z e
      · have ej : p.toNatClampNeg = j := by rw [z]; exact nI_clamp (Nat.lt_trans hj hn)
        rw [ej]
        obtain ⟨c1, c2, c3, c4⟩ := hc j hj
        obtain ⟨s1, s2⟩ := bc_st_cg (n := n) c1 c2 c3 c4 (hw j hj) h
        have hok := bc_st_ok n K O T H j x
        have main := bc_rn_cg hn hc hw k (bc_st n K O T H j x).1 (bc_st n K' O' T' H' j y).1 (bc_st n K O T H j x).2 hok s1
        have e2 : bc_st n K' O' T' H' j y = ((bc_st n K' O' T' H' j y).1, (bc_st n K O T H j x).2) := by rw [s2]
        rw [e2]
        exact ⟨main.1, main.2.1, by rw [main.2.2]⟩
end
section
/-! rows behind FOLD and behind REWRITING are well formed -/
theorem bc_tn_le (n : Nat) (x : Int32) : bc_tn n x ≤ n := by
  unfold bc_tn
  by_cases h : x.toNatClampNeg < n
  · rw [if_pos h]; omega
  · rw [if_neg h]; exact Nat.le_refl _
theorem bc_f1_q {n : Nat} {K O T H : bc_F} {g : bc_G} (i : Nat) (hi : i < n) : (bc_f1 n K O T H g i).2.2.2.2 ≤ n := by
  unfold bc_f1
  rw [if_pos hi]
  cases g i with
  | none =>
    show (if K i ≤ 4 ∨ K i = 7 then _ else _ : Int32 × Int32 × Int32 × Int32 × Nat).2.2.2.2 ≤ n
    by_cases h : K i ≤ 4 ∨ K i = 7
    · rw [if_pos h]; exact Nat.zero_le _
    · rw [if_neg h]; exact bc_tn_le _ _
  | some r =>
    show (if K i ≤ 4 then _ else _ : Int32 × Int32 × Int32 × Int32 × Nat).2.2.2.2 ≤ n
    by_cases h4 : K i ≤ 4
    · rw [if_pos h4]
      cases bc_rs K T H i r with
      | none => exact Nat.zero_le _
      | some x => exact Nat.zero_le _
    · rw [if_neg h4]
      by_cases h5 : K i = 5
      · rw [if_pos h5]
        cases r (O i).toNatClampNeg with
        | none => exact bc_tn_le _ _
        | some x =>
          show (if x = 0 then bc_tn n (T i) else i + 1) ≤ n
          by_cases hx : x = 0
          · rw [if_pos hx]; exact bc_tn_le _ _
          · rw [if_neg hx]; exact hi
      · rw [if_neg h5]
        by_cases h7 : K i = 7
        · rw [if_pos h7]; exact Nat.zero_le _
        · rw [if_neg h7]; exact bc_tn_le _ _
def bc_fw (F : Int32 × Int32 × Int32 × Int32 × Nat) : Prop := (¬ bc_gs F.1 → bc_wi F.1 F.2.1 F.2.2.1 F.2.2.2.1) ∧ (bc_gs F.1 → ∀ t, bc_tr t → bc_wi F.1 F.2.1 t F.2.2.2.1)
theorem bc_fw_no {k o t h : Int32} (q : Nat) (hw : bc_wi k o t h) (hk : k ≤ 4 ∨ k = 7) : bc_fw (k, o, t, h, q) := by
  refine ⟨fun _ => hw, fun hg => ?_⟩
  rcases hg with e | e
  · have e : k = 6 := e
    rw [e] at hk
    exact absurd hk (by decide)
  · have e : k = 5 := e
    rw [e] at hk
    exact absurd hk (by decide)
theorem bc_fw_go {k o t h : Int32} (x : Int32) (q : Nat) (hw : bc_wi k o t h) (hk : ¬ (k ≤ 4 ∨ k = 7)) : bc_fw (k, o, x, h, q) := by
  rcases hw with ⟨e, _⟩ | ⟨e, _⟩ | ⟨e, _⟩ | ⟨e, e2, e3, e4⟩ | ⟨e, e2, e3, e4⟩ | ⟨e, _⟩
  · rw [e] at hk; exact absurd (by decide) hk
  · rw [e] at hk; exact absurd (by decide) hk
  · rcases e with e | e | e <;> (rw [e] at hk; exact absurd (by decide) hk)
  · exact ⟨fun hg => absurd (Or.inr e) hg, fun _ t' ht' => Or.inr (Or.inr (Or.inr (Or.inl ⟨e, e2, ht', e4⟩)))⟩
  · exact ⟨fun hg => absurd (Or.inl e) hg, fun _ t' ht' => Or.inr (Or.inr (Or.inr (Or.inr (Or.inl ⟨e, e2, ht', e4⟩))))⟩
  · exact absurd (Or.inr e) hk
theorem bc_wi_o {k o t h : Int32} (hw : bc_wi k o t h) (h4 : k ≤ 4) : bc_vr o := by
  rcases hw with ⟨_, e, _⟩ | ⟨_, e, _⟩ | ⟨_, e, _⟩ | ⟨_, e, _⟩ | ⟨e, _⟩ | ⟨e, _⟩
  · exact e
  · exact e
  · exact e
  · exact e
  · rw [e] at h4; exact absurd h4 (by decide)
  · rw [e] at h4; exact absurd h4 (by decide)
theorem bc_f1_wf {n : Nat} {K O T H : bc_F} {g : bc_G} (hw : bc_wf n K O T H) (i : Nat) (hi : i < n) : bc_fw (bc_f1 n K O T H g i) := by
  have hwi := hw i hi
  unfold bc_f1
  rw [if_pos hi]
  cases g i with
  | none =>
    show bc_fw (if K i ≤ 4 ∨ K i = 7 then _ else _)
    by_cases h : K i ≤ 4 ∨ K i = 7
    · rw [if_pos h]; exact bc_fw_no _ hwi h
    · rw [if_neg h]; exact bc_fw_go _ _ hwi h
  | some r =>
    show bc_fw (if K i ≤ 4 then _ else _)
    by_cases h4 : K i ≤ 4
    · rw [if_pos h4]
      cases bc_rs K T H i r with
      | none => exact bc_fw_no _ hwi (Or.inl h4)
      | some x => exact bc_fw_no _ (Or.inl ⟨rfl, bc_wi_o hwi h4, rfl⟩) (Or.inl (by decide))
    · rw [if_neg h4]
      by_cases h5 : K i = 5
      · rw [if_pos h5]
        cases r (O i).toNatClampNeg with
        | none => exact bc_fw_go _ _ hwi (by rw [h5]; decide)
        | some x => exact ⟨fun hg => absurd (Or.inl rfl) hg, fun _ t' ht' => Or.inr (Or.inr (Or.inr (Or.inr (Or.inl ⟨rfl, rfl, ht', rfl⟩))))⟩
      · rw [if_neg h5]
        by_cases h7 : K i = 7
        · rw [if_pos h7]; exact bc_fw_no _ hwi (Or.inr h7)
        · rw [if_neg h7]
          exact bc_fw_go _ _ hwi (by
            intro z
            rcases z with z | z
            · exact h4 z
            · exact h7 z)
theorem bc_RW_wf {n : Nat} {F : Nat → Int32 × Int32 × Int32 × Int32 × Nat} {n2 : Nat} {K3 O3 T3 H3 : bc_F} (hn : n ≤ 40) (hq : ∀ i, i < n → (F i).2.2.2.2 ≤ n) (hF : ∀ i, i < n → bc_fw (F i)) (h : bc_RW n F n2 K3 O3 T3 H3) : n2 ≤ n ∧ bc_wf n2 K3 O3 T3 H3 := by
  obtain ⟨A, B, h1, h2, h3, h4⟩ := h
  refine ⟨by rw [h3]; exact bc_ct_le B n, fun j hj => ?_⟩
  rw [h3] at hj
  obtain ⟨i, i1, i2, i3⟩ := bc_ct_sur n j hj
  obtain ⟨a1, a2, a3, a4, a5⟩ := h4 i i1 i2
  rw [i3] at a1 a2 a3 a4 a5
  rw [a1, a2, a3]
  by_cases e : bc_gs (F i).1
  · rw [a4 e]
    refine (hF i i1).2 e _ ⟨_, ?_, rfl⟩
    have q1 := bc_ct_le B (bc_q2 n F i)
    have q2 : bc_q2 n F i ≤ n := bc_end_le hq (hq i i1)
    omega
  · rw [a5 e]
    exact (hF i i1).1 e
end
section
/-! what stays: the class's queue and the reference's sweeps -/
theorem bc_ct_up {A : bc_F} {t : Nat} (h0 : A t = 0) : ∀ n, bc_ct (upd A t 1) n = if t < n then bc_ct A n + 1 else bc_ct A n
  | 0 => by rw [if_neg (by omega)]; rfl
  | n + 1 => by
    have ih := bc_ct_up h0 n
    by_cases e : n = t
    · subst e
      rw [if_neg (by omega)] at ih
      rw [if_pos (by omega), bc_ct_1 (by rw [pk_us]; decide), bc_ct_0 h0, ih]
    · by_cases z : A n = 0
      · rw [bc_ct_0 (by rw [pk_un e]; exact z), bc_ct_0 z, ih]
        by_cases c : t < n
        · rw [if_pos c, if_pos (by omega)]
        · rw [if_neg c, if_neg (by omega)]
      · rw [bc_ct_1 (by rw [pk_un e]; exact z), bc_ct_1 z, ih]
        by_cases c : t < n
        · rw [if_pos c, if_pos (by omega)]
        · rw [if_neg c, if_neg (by omega)]
/-- A' is A with t marked, where t is an instruction -/
def bc_mk (n : Nat) (A : bc_F) (t : Nat) (A' : bc_F) : Prop := (t < n → A t = 0 → A' = upd A t 1) ∧ (¬ (t < n ∧ A t = 0) → A' = A)
theorem bc_mk_ge {n t : Nat} {A A' : bc_F} (h : bc_mk n A t A') {j : Nat} (hj : A j ≠ 0) : A' j ≠ 0 := by
  by_cases c : t < n ∧ A t = 0
  · rw [h.1 c.1 c.2]
    by_cases e : j = t
    · subst e; rw [pk_us]; decide
    · rw [pk_un e]; exact hj
  · rw [h.2 c]; exact hj
theorem bc_mk_at {n t : Nat} {A A' : bc_F} (h : bc_mk n A t A') (ht : t < n) : A' t ≠ 0 := by
  by_cases c : A t = 0
  · rw [h.1 ht c, pk_us]; decide
  · rw [h.2 (fun z => c z.2)]; exact c
theorem bc_mk_low {n t : Nat} {A A' : bc_F} {K : bc_F} {q : Nat → Nat} (h : bc_mk n A t A') (hl : ∀ j, j < n → A j ≠ 0 → bc_sty n K q j) (ht : t < n → bc_sty n K q t) : ∀ j, j < n → A' j ≠ 0 → bc_sty n K q j := by
  intro j hj hA
  by_cases c : t < n ∧ A t = 0
  · rw [h.1 c.1 c.2] at hA
    by_cases e : j = t
    · subst e; exact ht hj
    · rw [pk_un e] at hA; exact hl j hj hA
  · rw [h.2 c] at hA; exact hl j hj hA
/-- the queue's invariant: c are queued, d of them are done -/
def bc_QI (n : Nat) (K : bc_F) (q : Nat → Nat) (A U : bc_F) (c d : Nat) : Prop :=
  c = bc_ct A n ∧ (∀ j, j < n → A j ≠ 0 → bc_sty n K q j) ∧ (∀ x, x < c → ∃ j, j < n ∧ U x = nI j ∧ A j ≠ 0) ∧ (∀ j, j < n → A j ≠ 0 → ∃ x, x < c ∧ U x = nI j) ∧ (∀ x, x < d → x < c → ∀ j, j < n → U x = nI j → ∀ t, bc_sc n K q j t → A t ≠ 0)
def bc_kp (n : Nat) (A U : bc_F) (c t : Nat) (A' U' : bc_F) (c' : Nat) : Prop := (t < n → A t = 0 → A' = upd A t 1 ∧ U' = upd U c (nI t) ∧ c' = c + 1) ∧ (¬ (t < n ∧ A t = 0) → A' = A ∧ U' = U ∧ c' = c)
theorem bc_kp_mk {n c t c' : Nat} {A U A' U' : bc_F} (h : bc_kp n A U c t A' U' c') : bc_mk n A t A' := ⟨fun a b => (h.1 a b).1, fun a => (h.2 a).1⟩
theorem bc_QI_kp {n : Nat} {K : bc_F} {q : Nat → Nat} {A U A' U' : bc_F} {c d t c' : Nat} (h : bc_QI n K q A U c d) (hd : d ≤ c) (hk : bc_kp n A U c t A' U' c') (ht : t < n → bc_sty n K q t) : bc_QI n K q A' U' c' d ∧ d ≤ c' := by
  by_cases z : t < n ∧ A t = 0
  · obtain ⟨e1, e2, e3⟩ := hk.1 z.1 z.2
    obtain ⟨h1, h2, h3, h4, h5⟩ := h
    have hm := bc_kp_mk hk
    refine ⟨⟨?_, bc_mk_low hm h2 ht, ?_, ?_, ?_⟩, by omega⟩
    · rw [e3, e1, bc_ct_up z.2, if_pos z.1, h1]
    · intro x hx
      by_cases e : x = c
      · exact ⟨t, z.1, by rw [e2, e, pk_us], bc_mk_at hm z.1⟩
      · obtain ⟨j, a1, a2, a3⟩ := h3 x (by omega)
        exact ⟨j, a1, by rw [e2, pk_un e]; exact a2, bc_mk_ge hm a3⟩
    · intro j hj hA
      by_cases e : j = t
      · exact ⟨c, by omega, by rw [e2, pk_us, e]⟩
      · rw [e1, pk_un e] at hA
        obtain ⟨x, a1, a2⟩ := h4 j hj hA
        exact ⟨x, by omega, by rw [e2, pk_un (by omega)]; exact a2⟩
    · intro x hx hxc j hj hU t' hs
      rw [e2, pk_un (by omega)] at hU
      exact bc_mk_ge hm (h5 x hx (by omega) j hj hU t' hs)
  · obtain ⟨e1, e2, e3⟩ := hk.2 z
    rw [e1, e2, e3]
    exact ⟨h, hd⟩
theorem bc_ct_full (A : bc_F) (n t : Nat) (ht : t < n) (h0 : A t = 0) : bc_ct A n < n := by
  have h1 := bc_ct_up h0 n
  rw [if_pos ht] at h1
  have h2 := bc_ct_le (upd A t 1) n
  omega
theorem bc_QI_step {n : Nat} {K : bc_F} {q : Nat → Nat} {A U A' U' : bc_F} {c d c' j : Nat} (hn : n < 2 ^ 31) (h : bc_QI n K q A' U' c' d) (hj : j < n) (hU : U' d = nI j) (hc : ∀ t, bc_sc n K q j t → A' t ≠ 0) : bc_QI n K q A' U' c' (d + 1) := by
  obtain ⟨h1, h2, h3, h4, h5⟩ := h
  refine ⟨h1, h2, h3, h4, fun x hx hxc j' hj' hU' t hs => ?_⟩
  by_cases e : x = d
  · subst e
    have e2 : j = j' := (nI_eq (Nat.lt_trans hj hn) (Nat.lt_trans hj' hn)).mp (hU.symm.trans hU')
    subst e2
    exact hc t hs
  · exact h5 x (by omega) hxc j' hj' hU' t hs
theorem bc_QI_end {n : Nat} {K : bc_F} {q : Nat → Nat} {A U : bc_F} {c d : Nat} (h : bc_QI n K q A U c d) (h0 : 0 < n → A 0 ≠ 0) (hd : c ≤ d) : ∀ j, j < n → (A j ≠ 0 ↔ bc_sty n K q j) := by
  obtain ⟨h1, h2, h3, h4, h5⟩ := h
  refine bc_sty_of h0 h2 (fun i t hi hA hs => ?_)
  obtain ⟨x, a1, a2⟩ := h4 i hi hA
  exact h5 x (by omega) a1 i hi a2 t hs
/-! sweeps -/
def bc_MI (n : Nat) (K : bc_F) (q : Nat → Nat) (c0 i : Nat) (A : bc_F) (u : Int32) : Prop :=
  (0 < n → A 0 ≠ 0) ∧ (∀ j, j < n → A j ≠ 0 → bc_sty n K q j) ∧ (u = 0 → ∀ j, j < i → j < n → A j ≠ 0 → ∀ t, bc_sc n K q j t → A t ≠ 0) ∧ c0 ≤ bc_ct A n ∧ (u ≠ 0 → c0 < bc_ct A n)
def bc_mu (n : Nat) (A : bc_F) (t : Nat) (u : Int32) (A' : bc_F) (u' : Int32) : Prop := (t < n → A t = 0 → A' = upd A t 1 ∧ u' = 1) ∧ (¬ (t < n ∧ A t = 0) → A' = A ∧ u' = u)
theorem bc_mu_mk {n t : Nat} {A A' : bc_F} {u u' : Int32} (h : bc_mu n A t u A' u') : bc_mk n A t A' := ⟨fun a b => (h.1 a b).1, fun a => (h.2 a).1⟩
theorem bc_MI_mu {n : Nat} {K : bc_F} {q : Nat → Nat} {c0 i t : Nat} {A A' : bc_F} {u u' : Int32} (h : bc_MI n K q c0 i A u) (hm : bc_mu n A t u A' u') (ht : t < n → bc_sty n K q t) : bc_MI n K q c0 i A' u' := by
  obtain ⟨h1, h2, h3, h4, h5⟩ := h
  by_cases z : t < n ∧ A t = 0
  · obtain ⟨e1, e2⟩ := hm.1 z.1 z.2
    have hk := bc_mu_mk hm
    have hc : bc_ct A' n = bc_ct A n + 1 := by rw [e1, bc_ct_up z.2, if_pos z.1]
    refine ⟨fun a => bc_mk_ge hk (h1 a), bc_mk_low hk h2 ht, fun a => ?_, by omega, fun _ => by omega⟩
    rw [e2] at a
    exact absurd a (by decide)
  · obtain ⟨e1, e2⟩ := hm.2 z
    rw [e1, e2]
    exact ⟨h1, h2, h3, h4, h5⟩
theorem bc_MI_step {n : Nat} {K : bc_F} {q : Nat → Nat} {c0 i : Nat} {A : bc_F} {u : Int32} (h : bc_MI n K q c0 i A u) (hc : A i ≠ 0 → ∀ t, bc_sc n K q i t → A t ≠ 0) : bc_MI n K q c0 (i + 1) A u := by
  obtain ⟨h1, h2, h3, h4, h5⟩ := h
  refine ⟨h1, h2, fun z j hj hjn hA t hs => ?_, h4, h5⟩
  by_cases e : j = i
  · subst e; exact hc hA t hs
  · exact h3 z j (by omega) hjn hA t hs
theorem bc_MI_end {n : Nat} {K : bc_F} {q : Nat → Nat} {c0 : Nat} {A : bc_F} (h : bc_MI n K q c0 n A 0) : ∀ j, j < n → (A j ≠ 0 ↔ bc_sty n K q j) :=
  bc_sty_of h.1 h.2.1 (fun i t hi hA hs => h.2.2.1 rfl i hi hi hA t hs)
end
section
/-! rows of states and constants that hold an answer -/
def bc_s0 (a : Option bc_R) (v : Nat) : Int32 := match a with
  | none => 0
  | some r => match r v with
    | none => 1
    | some _ => 2
def bc_c0 (a : Option bc_R) (v : Nat) : Int32 := match a with
  | none => 0
  | some r => match r v with
    | none => 0
    | some x => x
def bc_en (S C : bc_F) (g : bc_G) : Prop := ∀ i, i < 40 → ∀ v, v < 6 → S (6 * i + v) = bc_s0 (g i) v ∧ C (6 * i + v) = bc_c0 (g i) v
def bc_er (S C : bc_F) (r : bc_R) : Prop := ∀ v, v < 6 → S v = bc_s0 (some r) v ∧ C v = bc_c0 (some r) v
theorem bc_s0_0 {a : Option bc_R} {v : Nat} (h : bc_s0 a v = 0) : a = none := by
  cases a with
  | none => rfl
  | some r =>
    have h : (match r v with | none => (1 : Int32) | some _ => 2) = 0 := h
    cases hr : r v with
    | none => rw [hr] at h; exact absurd (show (1 : Int32) = 0 from h) (by decide)
    | some x => rw [hr] at h; exact absurd (show (2 : Int32) = 0 from h) (by decide)
theorem bc_s0_n0 {a : Option bc_R} {v : Nat} (h : ¬ bc_s0 a v = 0) : ∃ r, a = some r := by
  cases a with
  | none => exact absurd rfl h
  | some r => exact ⟨r, rfl⟩
theorem bc_s0_1 {r : bc_R} {v : Nat} (h : r v = none) : bc_s0 (some r) v = 1 ∧ bc_c0 (some r) v = 0 := by
  unfold bc_s0 bc_c0
  simp only [h]
  exact ⟨trivial, trivial⟩
theorem bc_s0_2 {r : bc_R} {v : Nat} {x : Int32} (h : r v = some x) : bc_s0 (some r) v = 2 ∧ bc_c0 (some r) v = x := by
  unfold bc_s0 bc_c0
  simp only [h]
  exact ⟨trivial, trivial⟩
theorem bc_s0_is2 {r : bc_R} {v : Nat} (h : bc_s0 (some r) v = 2) : r v = some (bc_c0 (some r) v) := by
  cases hr : r v with
  | none => rw [(bc_s0_1 hr).1] at h; exact absurd h (by decide)
  | some x => rw [(bc_s0_2 hr).2]
theorem bc_s0_n2 {r : bc_R} {v : Nat} (h : ¬ bc_s0 (some r) v = 2) : r v = none := by
  cases hr : r v with
  | none => rfl
  | some x => exact absurd (bc_s0_2 hr).1 h
theorem bc_s0_is1 {r : bc_R} {v : Nat} (h : bc_s0 (some r) v = 1) : r v = none := bc_s0_n2 (by rw [h]; decide)
theorem bc_s0_n1 {r : bc_R} {v : Nat} (h : ¬ bc_s0 (some r) v = 1) : r v = some (bc_c0 (some r) v) := by
  cases hr : r v with
  | none => exact absurd (bc_s0_1 hr).1 h
  | some x => rw [(bc_s0_2 hr).2]
/-- the row t, joined up to the variable v -/
def bc_ep (S C : bc_F) (g : bc_G) (t : Nat) (q : bc_R) (v : Nat) : Prop := ∀ i, i < 40 → ∀ u, u < 6 → ((i = t ∧ u < v) → S (6 * i + u) = bc_s0 (some (bc_jo (g t) q)) u ∧ C (6 * i + u) = bc_c0 (some (bc_jo (g t) q)) u) ∧ (¬ (i = t ∧ u < v) → S (6 * i + u) = bc_s0 (g i) u ∧ C (6 * i + u) = bc_c0 (g i) u)
theorem bc_ep_0 {S C : bc_F} {g : bc_G} {t : Nat} {q : bc_R} (h : bc_en S C g) : bc_ep S C g t q 0 := fun i hi u hu => ⟨fun z => absurd z.2 (by omega), fun _ => h i hi u hu⟩
theorem bc_ep_6 {n : Nat} {S C : bc_F} {g : bc_G} {t : Nat} {q : bc_R} (h : bc_ep S C g t q 6) (ht : t < n) : bc_en S C (bc_come n g t q) := by
  intro i hi u hu
  by_cases e : i = t
  · subst e
    rw [bc_come_at ht]
    exact (h i hi u hu).1 ⟨rfl, hu⟩
  · rw [bc_come_ne e]
    exact (h i hi u hu).2 (fun z => e z.1)
theorem bc_ep_at {S C : bc_F} {g : bc_G} {t : Nat} {q : bc_R} {v : Nat} (h : bc_ep S C g t q v) (ht : t < 40) (hv : v < 6) : S (6 * t + v) = bc_s0 (g t) v ∧ C (6 * t + v) = bc_c0 (g t) v := (h t ht v hv).2 (fun z => absurd z.2 (by omega))
theorem bc_ep_up {S C : bc_F} {g : bc_G} {t : Nat} {q : bc_R} {v : Nat} {a b : Int32} (h : bc_ep S C g t q v) (hv : v < 6) (ha : a = bc_s0 (some (bc_jo (g t) q)) v) (hb : b = bc_c0 (some (bc_jo (g t) q)) v) : bc_ep (upd S (6 * t + v) a) (upd C (6 * t + v) b) g t q (v + 1) := by
  intro i hi u hu
  by_cases e : 6 * i + u = 6 * t + v
  · have e1 : i = t := by omega
    have e2 : u = v := by omega
    subst e1; subst e2
    refine ⟨fun _ => ?_, fun z => absurd ⟨rfl, by omega⟩ z⟩
    rw [pk_us, pk_us]
    exact ⟨ha, hb⟩
  · rw [pk_un e, pk_un e]
    refine ⟨fun z => (h i hi u hu).1 ⟨z.1, ?_⟩, fun z => (h i hi u hu).2 (fun y => z ⟨y.1, by omega⟩)⟩
    have : u ≠ v := by
      intro y
      apply e
      rw [z.1, y]
    omega
theorem bc_ep_id {S C : bc_F} {g : bc_G} {t : Nat} {q : bc_R} {v : Nat} (h : bc_ep S C g t q v) (ha : bc_s0 (g t) v = bc_s0 (some (bc_jo (g t) q)) v) (hb : bc_c0 (g t) v = bc_c0 (some (bc_jo (g t) q)) v) : bc_ep S C g t q (v + 1) := by
  intro i hi u hu
  refine ⟨fun z => ?_, fun z => (h i hi u hu).2 (fun y => z ⟨y.1, by omega⟩)⟩
  by_cases e : u = v
  · subst e
    have e1 := z.1
    subst e1
    have := (h i hi u hu).2 (fun y => absurd y.2 (by omega))
    rw [this.1, this.2]
    exact ⟨ha, hb⟩
  · exact (h i hi u hu).1 ⟨z.1, by omega⟩
/-- something has changed, up to the variable v -/
def bc_chv (a : Option bc_R) (q : bc_R) (v : Nat) : Prop := match a with
  | none => 0 < v
  | some r => ∃ u, u < v ∧ r u ≠ none ∧ r u ≠ q u
theorem bc_chv_0 (a : Option bc_R) (q : bc_R) : ¬ bc_chv a q 0 := by
  cases a with
  | none => intro h; exact absurd (show 0 < 0 from h) (by omega)
  | some r => rintro ⟨u, h, _⟩; omega
theorem bc_chv_6 (a : Option bc_R) (q : bc_R) : bc_chv a q 6 ↔ bc_chg a q := by
  cases a with
  | none => exact ⟨fun _ => trivial, fun _ => (by omega : 0 < 6)⟩
  | some r => exact Iff.rfl
theorem bc_chv_s {a : Option bc_R} {q : bc_R} {v : Nat} (h : bc_chv a q v) : bc_chv a q (v + 1) := by
  cases a with
  | none => exact (show 0 < v + 1 by omega)
  | some r =>
    obtain ⟨u, h1, h2⟩ := h
    exact ⟨u, by omega, h2⟩
theorem bc_chv_at {r q : bc_R} {v : Nat} (h1 : r v ≠ none) (h2 : r v ≠ q v) : bc_chv (some r) q (v + 1) := ⟨v, by omega, h1, h2⟩
theorem bc_chv_no {r q : bc_R} {v : Nat} (h : bc_chv (some r) q (v + 1)) (h1 : r v = none ∨ r v = q v) : bc_chv (some r) q v := by
  obtain ⟨u, a1, a2, a3⟩ := h
  by_cases e : u = v
  · subst e
    rcases h1 with z | z
    · exact absurd z a2
    · exact absurd z a3
  · exact ⟨u, by omega, a2, a3⟩
/-- who waits, up to the variable v -/
def bc_wv (a : Option bc_R) (q : bc_R) (W : bc_F) (t v : Nat) (W' : bc_F) : Prop := (∀ j, j ≠ t → W' j = W j) ∧ (bc_chv a q v → W' t = 1) ∧ (¬ bc_chv a q v → W' t = W t)
theorem bc_wv_0 (a : Option bc_R) (q : bc_R) (W : bc_F) (t : Nat) : bc_wv a q W t 0 W := ⟨fun _ _ => rfl, fun h => absurd h (bc_chv_0 a q), fun _ => rfl⟩
theorem bc_wv_1 {a : Option bc_R} {q : bc_R} {W W' : bc_F} {t v : Nat} (h : bc_wv a q W t v W') (hc : bc_chv a q (v + 1)) : bc_wv a q W t (v + 1) (upd W' t 1) := ⟨fun j hj => by rw [pk_un hj]; exact h.1 j hj, fun _ => pk_us, fun z => absurd hc z⟩
theorem bc_wv_n {a : Option bc_R} {q : bc_R} {W W' : bc_F} {t v : Nat} (h : bc_wv a q W t v W') (hc : bc_chv a q (v + 1) → bc_chv a q v) : bc_wv a q W t (v + 1) W' := ⟨h.1, fun z => h.2.1 (hc z), fun z => h.2.2 (fun y => z (bc_chv_s y))⟩
theorem bc_wv_6 {n : Nat} {g : bc_G} {q : bc_R} {W W' : bc_F} {t : Nat} (ht : t < n) (h : bc_wv (g t) q W t 6 W') : bc_wr n g W t q W' := ⟨h.1, fun _ hc => h.2.1 ((bc_chv_6 _ _).mpr hc), fun z => h.2.2 (fun y => by
  rcases z with z | z
  · exact z ht
  · exact z ((bc_chv_6 _ _).mp y))⟩
theorem bc_jo_same {r q : bc_R} {v : Nat} (h : r v = none ∨ r v = q v) : bc_jo (some r) q v = r v := by
  show bc_jn r q v = r v
  unfold bc_jn
  by_cases e : r v = q v
  · rw [if_pos e]
  · rw [if_neg e]
    rcases h with z | z
    · exact z.symm
    · exact absurd z e
theorem bc_jo_diff {r q : bc_R} {v : Nat} (h : r v ≠ q v) : bc_jo (some r) q v = none := by
  show bc_jn r q v = none
  unfold bc_jn
  rw [if_neg h]
theorem bc_s0_cg {a : bc_R} {b : bc_R} {v : Nat} (h : a v = b v) : bc_s0 (some a) v = bc_s0 (some b) v ∧ bc_c0 (some a) v = bc_c0 (some b) v := by
  unfold bc_s0 bc_c0
  simp only [h]
  exact ⟨trivial, trivial⟩
end
section
/-! names, by program (wip/whole/gen/names.py) -/
def rc_B : String := "BranchConstants"
def fc_B : u_T := fun k => match k with
  | 0 => ("BranchConstants", "program", "LBranchConstants$Code;", true)
  | 1 => ("BranchConstants", "rewritten", "LBranchConstants$Code;", true)
  | 2 => ("BranchConstants", "analysis", "LBranchConstants$Analysis;", true)
  | 3 => ("BranchConstants", "rewriting", "LBranchConstants$Rewriting;", true)
  | 4 => ("BranchConstants", "programRun", "LBranchConstants$Execution;", true)
  | 5 => ("BranchConstants", "rewrittenRun", "LBranchConstants$Execution;", true)
  | 6 => ("BranchConstants", "isAnalysed", "Z", false)
  | _ => ("BranchConstants", "isRewritten", "Z", false)
def tc_B : Nat → FieldType := fun k => match k with
  | 0 => .object "BranchConstants$Code"
  | 1 => .object "BranchConstants$Code"
  | 2 => .object "BranchConstants$Analysis"
  | 3 => .object "BranchConstants$Rewriting"
  | 4 => .object "BranchConstants$Execution"
  | 5 => .object "BranchConstants$Execution"
  | 6 => .boolean
  | _ => .boolean
theorem nc_B : ∀ a, a < 8 → ∀ b, b < 8 → a ≠ b → (fc_B a).2.1 ≠ (fc_B b).2.1 := by decide +kernel
theorem tc_B_ok : ∀ k, k < 8 → parseFieldDescriptor (fc_B k).2.2.1 = some (tc_B k) := by decide +kernel
def rc_A : String := "BranchConstants$Analysis"
def fc_A : u_T := fun k => match k with
  | 0 => ("BranchConstants$Analysis", "states", "[I", true)
  | 1 => ("BranchConstants$Analysis", "constants", "[I", true)
  | 2 => ("BranchConstants$Analysis", "isWaiting", "[Z", true)
  | 3 => ("BranchConstants$Analysis", "statesBehind", "[I", true)
  | 4 => ("BranchConstants$Analysis", "constantsBehind", "[I", true)
  | _ => ("BranchConstants$Analysis", "result", "I", false)
def tc_A : Nat → FieldType := fun k => match k with
  | 0 => .array .int
  | 1 => .array .int
  | 2 => .array .boolean
  | 3 => .array .int
  | 4 => .array .int
  | _ => .int
theorem nc_A : ∀ a, a < 6 → ∀ b, b < 6 → a ≠ b → (fc_A a).2.1 ≠ (fc_A b).2.1 := by decide +kernel
theorem tc_A_ok : ∀ k, k < 6 → parseFieldDescriptor (fc_A k).2.2.1 = some (tc_A k) := by decide +kernel
def rc_C : String := "BranchConstants$Code"
def fc_C : u_T := fun k => match k with
  | 0 => ("BranchConstants$Code", "kinds", "[I", true)
  | 1 => ("BranchConstants$Code", "ones", "[I", true)
  | 2 => ("BranchConstants$Code", "twos", "[I", true)
  | 3 => ("BranchConstants$Code", "threes", "[I", true)
  | _ => ("BranchConstants$Code", "count", "I", false)
def tc_C : Nat → FieldType := fun k => match k with
  | 0 => .array .int
  | 1 => .array .int
  | 2 => .array .int
  | 3 => .array .int
  | _ => .int
theorem nc_C : ∀ a, a < 5 → ∀ b, b < 5 → a ≠ b → (fc_C a).2.1 ≠ (fc_C b).2.1 := by decide +kernel
theorem tc_C_ok : ∀ k, k < 5 → parseFieldDescriptor (fc_C k).2.2.1 = some (tc_C k) := by decide +kernel
def rc_E : String := "BranchConstants$Execution"
def fc_E : u_T := fun k => match k with
  | 0 => ("BranchConstants$Execution", "values", "[I", true)
  | 1 => ("BranchConstants$Execution", "place", "I", false)
  | 2 => ("BranchConstants$Execution", "steps", "I", false)
  | _ => ("BranchConstants$Execution", "isStarted", "Z", false)
def tc_E : Nat → FieldType := fun k => match k with
  | 0 => .array .int
  | 1 => .int
  | 2 => .int
  | _ => .boolean
theorem nc_E : ∀ a, a < 4 → ∀ b, b < 4 → a ≠ b → (fc_E a).2.1 ≠ (fc_E b).2.1 := by decide +kernel
theorem tc_E_ok : ∀ k, k < 4 → parseFieldDescriptor (fc_E k).2.2.1 = some (tc_E k) := by decide +kernel
def rc_W : String := "BranchConstants$Rewriting"
def fc_W : u_T := fun k => match k with
  | 0 => ("BranchConstants$Rewriting", "stays", "[Z", true)
  | 1 => ("BranchConstants$Rewriting", "queue", "[I", true)
  | 2 => ("BranchConstants$Rewriting", "newNumbers", "[I", true)
  | _ => ("BranchConstants$Rewriting", "queued", "I", false)
def tc_W : Nat → FieldType := fun k => match k with
  | 0 => .array .boolean
  | 1 => .array .int
  | 2 => .array .int
  | _ => .int
theorem nc_W : ∀ a, a < 4 → ∀ b, b < 4 → a ≠ b → (fc_W a).2.1 ≠ (fc_W b).2.1 := by decide +kernel
theorem tc_W_ok : ∀ k, k < 4 → parseFieldDescriptor (fc_W k).2.2.1 = some (tc_W k) := by decide +kernel
def rc_M : String := "BranchConstantsModel"
def fc_M : u_T := fun k => match k with
  | 0 => ("BranchConstantsModel", "fault", "I", false)
  | 1 => ("BranchConstantsModel", "kinds", "[I", true)
  | 2 => ("BranchConstantsModel", "ones", "[I", true)
  | 3 => ("BranchConstantsModel", "twos", "[I", true)
  | 4 => ("BranchConstantsModel", "threes", "[I", true)
  | 5 => ("BranchConstantsModel", "sizes", "[I", true)
  | 6 => ("BranchConstantsModel", "isRewritten", "Z", false)
  | 7 => ("BranchConstantsModel", "isReached", "[Z", true)
  | 8 => ("BranchConstantsModel", "facts", "[I", true)
  | 9 => ("BranchConstantsModel", "values", "[I", true)
  | 10 => ("BranchConstantsModel", "grew", "Z", false)
  | 11 => ("BranchConstantsModel", "nowFact", "[I", true)
  | 12 => ("BranchConstantsModel", "nowValue", "[I", true)
  | 13 => ("BranchConstantsModel", "stays", "[Z", true)
  | 14 => ("BranchConstantsModel", "leads", "[I", true)
  | 15 => ("BranchConstantsModel", "isOn", "[Z", true)
  | 16 => ("BranchConstantsModel", "places", "[I", true)
  | 17 => ("BranchConstantsModel", "steps", "[I", true)
  | _ => ("BranchConstantsModel", "variables", "[I", true)
def tc_M : Nat → FieldType := fun k => match k with
  | 0 => .int
  | 1 => .array .int
  | 2 => .array .int
  | 3 => .array .int
  | 4 => .array .int
  | 5 => .array .int
  | 6 => .boolean
  | 7 => .array .boolean
  | 8 => .array .int
  | 9 => .array .int
  | 10 => .boolean
  | 11 => .array .int
  | 12 => .array .int
  | 13 => .array .boolean
  | 14 => .array .int
  | 15 => .array .boolean
  | 16 => .array .int
  | 17 => .array .int
  | _ => .array .int
theorem nc_M : ∀ a, a < 19 → ∀ b, b < 19 → a ≠ b → (fc_M a).2.1 ≠ (fc_M b).2.1 := by decide +kernel
theorem tc_M_ok : ∀ k, k < 19 → parseFieldDescriptor (fc_M k).2.2.1 = some (tc_M k) := by decide +kernel
def rc_L : String := "BranchConstantsLaw"
abbrev by_B_init : ByteArray := prog_1_method_1_code
def yn_B_init : MethodName := ⟨"BranchConstants", "<init>", "()V"⟩
abbrev by_C_init : ByteArray := prog_3_method_1_code
def yn_C_init : MethodName := ⟨"BranchConstants$Code", "<init>", "()V"⟩
abbrev by_A_init : ByteArray := prog_2_method_1_code
def yn_A_init : MethodName := ⟨"BranchConstants$Analysis", "<init>", "()V"⟩
abbrev by_W_init : ByteArray := prog_5_method_1_code
def yn_W_init : MethodName := ⟨"BranchConstants$Rewriting", "<init>", "()V"⟩
abbrev by_E_init : ByteArray := prog_4_method_1_code
def yn_E_init : MethodName := ⟨"BranchConstants$Execution", "<init>", "()V"⟩
abbrev by_B_clear : ByteArray := prog_1_method_4_code
def yn_B_clear : MethodName := ⟨"BranchConstants", "clear", "()I"⟩
abbrev by_B_forgetWhatFollowed : ByteArray := prog_1_method_16_code
def yn_B_forgetWhatFollowed : MethodName := ⟨"BranchConstants", "forgetWhatFollowed", "()V"⟩
abbrev by_B_reachedAll : ByteArray := prog_1_method_6_code
def yn_B_reachedAll : MethodName := ⟨"BranchConstants", "reachedAll", "()I"⟩
abbrev by_B_analyseOnce : ByteArray := prog_1_method_17_code
def yn_B_analyseOnce : MethodName := ⟨"BranchConstants", "analyseOnce", "()V"⟩
abbrev by_A_perform : ByteArray := prog_2_method_2_code
def yn_A_perform : MethodName := ⟨"BranchConstants$Analysis", "perform", "(LBranchConstants$Code;)V"⟩
abbrev by_J_fill : ByteArray := prog_16_method_103_code
def yn_J_fill : MethodName := ⟨"java/util/Arrays", "fill", "([II)V"⟩
abbrev by_A_comeTo : ByteArray := prog_2_method_5_code
def yn_A_comeTo : MethodName := ⟨"BranchConstants$Analysis", "comeTo", "(LBranchConstants$Code;I)V"⟩
abbrev by_B_cell : ByteArray := prog_1_method_29_code
def yn_B_cell : MethodName := ⟨"BranchConstants", "cell", "(II)I"⟩
abbrev by_A_isBehind : ByteArray := prog_2_method_6_code
def yn_A_isBehind : MethodName := ⟨"BranchConstants$Analysis", "isBehind", "(II)Z"⟩
abbrev by_A_goOnFrom : ByteArray := prog_2_method_3_code
def yn_A_goOnFrom : MethodName := ⟨"BranchConstants$Analysis", "goOnFrom", "(LBranchConstants$Code;I)V"⟩
abbrev by_C_assigns : ByteArray := prog_3_method_5_code
def yn_C_assigns : MethodName := ⟨"BranchConstants$Code", "assigns", "(I)Z"⟩
abbrev by_A_hasConstantResult : ByteArray := prog_2_method_9_code
def yn_A_hasConstantResult : MethodName := ⟨"BranchConstants$Analysis", "hasConstantResult", "(LBranchConstants$Code;I)Z"⟩
abbrev by_A_isConstantZero : ByteArray := prog_2_method_10_code
def yn_A_isConstantZero : MethodName := ⟨"BranchConstants$Analysis", "isConstantZero", "(I)Z"⟩
abbrev by_B_calculate : ByteArray := prog_1_method_30_code
def yn_B_calculate : MethodName := ⟨"BranchConstants", "calculate", "(III)I"⟩
abbrev by_A_setConstantBehind : ByteArray := prog_2_method_7_code
def yn_A_setConstantBehind : MethodName := ⟨"BranchConstants$Analysis", "setConstantBehind", "(II)V"⟩
abbrev by_A_setVaryingBehind : ByteArray := prog_2_method_8_code
def yn_A_setVaryingBehind : MethodName := ⟨"BranchConstants$Analysis", "setVaryingBehind", "(I)V"⟩
abbrev by_C_target : ByteArray := prog_3_method_7_code
def yn_C_target : MethodName := ⟨"BranchConstants$Code", "target", "(I)I"⟩
abbrev by_A_goOnFromZero : ByteArray := prog_2_method_4_code
def yn_A_goOnFromZero : MethodName := ⟨"BranchConstants$Analysis", "goOnFromZero", "(LBranchConstants$Code;I)V"⟩
abbrev by_A_hasConstantTest : ByteArray := prog_2_method_11_code
def yn_A_hasConstantTest : MethodName := ⟨"BranchConstants$Analysis", "hasConstantTest", "(LBranchConstants$Code;I)Z"⟩
abbrev by_A_wayOfConstantTest : ByteArray := prog_2_method_12_code
def yn_A_wayOfConstantTest : MethodName := ⟨"BranchConstants$Analysis", "wayOfConstantTest", "(LBranchConstants$Code;I)I"⟩
abbrev by_A_countReached : ByteArray := prog_2_method_14_code
def yn_A_countReached : MethodName := ⟨"BranchConstants$Analysis", "countReached", "(LBranchConstants$Code;)I"⟩
abbrev by_A_isReached : ByteArray := prog_2_method_13_code
def yn_A_isReached : MethodName := ⟨"BranchConstants$Analysis", "isReached", "(I)Z"⟩
abbrev by_L_add : ByteArray := method_3_code
def yn_L_add : MethodName := ⟨"BranchConstantsLaw", "add", "(LBranchConstants;IIII[J)I"⟩
abbrev by_B_add : ByteArray := prog_1_method_2_code
def yn_B_add : MethodName := ⟨"BranchConstants", "add", "(IIII)I"⟩
abbrev by_B_refuseWrongInstruction : ByteArray := prog_1_method_20_code
def yn_B_refuseWrongInstruction : MethodName := ⟨"BranchConstants", "refuseWrongInstruction", "(IIII)V"⟩
abbrev by_B_isInstruction : ByteArray := prog_1_method_26_code
def yn_B_isInstruction : MethodName := ⟨"BranchConstants", "isInstruction", "(IIII)Z"⟩
abbrev by_B_isVariable : ByteArray := prog_1_method_27_code
def yn_B_isVariable : MethodName := ⟨"BranchConstants", "isVariable", "(I)Z"⟩
abbrev by_B_isTarget : ByteArray := prog_1_method_28_code
def yn_B_isTarget : MethodName := ⟨"BranchConstants", "isTarget", "(I)Z"⟩
abbrev by_C_put : ByteArray := prog_3_method_2_code
def yn_C_put : MethodName := ⟨"BranchConstants$Code", "put", "(IIIII)V"⟩
abbrev by_L_change : ByteArray := method_4_code
def yn_L_change : MethodName := ⟨"BranchConstantsLaw", "change", "(LBranchConstants;IIIII)I"⟩
abbrev by_B_change : ByteArray := prog_1_method_3_code
def yn_B_change : MethodName := ⟨"BranchConstants", "change", "(IIIII)V"⟩
abbrev by_B_refuseWrongIndex : ByteArray := prog_1_method_21_code
def yn_B_refuseWrongIndex : MethodName := ⟨"BranchConstants", "refuseWrongIndex", "(I)V"⟩
abbrev by_L_reached : ByteArray := method_5_code
def yn_L_reached : MethodName := ⟨"BranchConstantsLaw", "reached", "(LBranchConstants;I[J)I"⟩
abbrev by_B_reached : ByteArray := prog_1_method_5_code
def yn_B_reached : MethodName := ⟨"BranchConstants", "reached", "(I)Z"⟩
abbrev by_L_known : ByteArray := method_6_code
def yn_L_known : MethodName := ⟨"BranchConstantsLaw", "known", "(LBranchConstants;II[J)I"⟩
abbrev by_B_known : ByteArray := prog_1_method_7_code
def yn_B_known : MethodName := ⟨"BranchConstants", "known", "(II)I"⟩
abbrev by_B_refuseWrongVariable : ByteArray := prog_1_method_22_code
def yn_B_refuseWrongVariable : MethodName := ⟨"BranchConstants", "refuseWrongVariable", "(I)V"⟩
abbrev by_L_constant : ByteArray := method_7_code
def yn_L_constant : MethodName := ⟨"BranchConstantsLaw", "constant", "(LBranchConstants;II[J)I"⟩
abbrev by_B_constant : ByteArray := prog_1_method_8_code
def yn_B_constant : MethodName := ⟨"BranchConstants", "constant", "(II)I"⟩
abbrev by_L_rewrite : ByteArray := method_8_code
def yn_L_rewrite : MethodName := ⟨"BranchConstantsLaw", "rewrite", "(LBranchConstants;[J)I"⟩
abbrev by_B_rewrite : ByteArray := prog_1_method_9_code
def yn_B_rewrite : MethodName := ⟨"BranchConstants", "rewrite", "()I"⟩
abbrev by_W_perform : ByteArray := prog_5_method_2_code
def yn_W_perform : MethodName := ⟨"BranchConstants$Rewriting", "perform", "(LBranchConstants$Code;LBranchConstants$Analysis;LBranchConstants$Code;)V"⟩
abbrev by_C_putAllOf : ByteArray := prog_3_method_3_code
def yn_C_putAllOf : MethodName := ⟨"BranchConstants$Code", "putAllOf", "(LBranchConstants$Code;)V"⟩
abbrev by_W_fold : ByteArray := prog_5_method_3_code
def yn_W_fold : MethodName := ⟨"BranchConstants$Rewriting", "fold", "(LBranchConstants$Code;LBranchConstants$Analysis;LBranchConstants$Code;)V"⟩
abbrev by_W_thread : ByteArray := prog_5_method_4_code
def yn_W_thread : MethodName := ⟨"BranchConstants$Rewriting", "thread", "(LBranchConstants$Code;)V"⟩
abbrev by_C_hasTarget : ByteArray := prog_3_method_6_code
def yn_C_hasTarget : MethodName := ⟨"BranchConstants$Code", "hasTarget", "(I)Z"⟩
abbrev by_W_endOfChain : ByteArray := prog_5_method_5_code
def yn_W_endOfChain : MethodName := ⟨"BranchConstants$Rewriting", "endOfChain", "(LBranchConstants$Code;I)I"⟩
abbrev by_W_keepWhatCanBeComeTo : ByteArray := prog_5_method_6_code
def yn_W_keepWhatCanBeComeTo : MethodName := ⟨"BranchConstants$Rewriting", "keepWhatCanBeComeTo", "(LBranchConstants$Code;)V"⟩
abbrev by_W_keep : ByteArray := prog_5_method_7_code
def yn_W_keep : MethodName := ⟨"BranchConstants$Rewriting", "keep", "(LBranchConstants$Code;I)V"⟩
abbrev by_W_dropJumpsToTheNext : ByteArray := prog_5_method_8_code
def yn_W_dropJumpsToTheNext : MethodName := ⟨"BranchConstants$Rewriting", "dropJumpsToTheNext", "(LBranchConstants$Code;)V"⟩
abbrev by_W_numberAnew : ByteArray := prog_5_method_9_code
def yn_W_numberAnew : MethodName := ⟨"BranchConstants$Rewriting", "numberAnew", "(LBranchConstants$Code;)V"⟩
abbrev by_W_moveToNewNumber : ByteArray := prog_5_method_10_code
def yn_W_moveToNewNumber : MethodName := ⟨"BranchConstants$Rewriting", "moveToNewNumber", "(LBranchConstants$Code;I)V"⟩
abbrev by_L_code : ByteArray := method_9_code
def yn_L_code : MethodName := ⟨"BranchConstantsLaw", "code", "(LBranchConstants;III[J)I"⟩
abbrev by_B_code : ByteArray := prog_1_method_10_code
def yn_B_code : MethodName := ⟨"BranchConstants", "code", "(III)I"⟩
abbrev by_B_refuseMissingRewritten : ByteArray := prog_1_method_24_code
def yn_B_refuseMissingRewritten : MethodName := ⟨"BranchConstants", "refuseMissingRewritten", "(I)V"⟩
abbrev by_B_refuseWrongSide : ByteArray := prog_1_method_23_code
def yn_B_refuseWrongSide : MethodName := ⟨"BranchConstants", "refuseWrongSide", "(I)V"⟩
abbrev by_B_codeOf : ByteArray := prog_1_method_18_code
def yn_B_codeOf : MethodName := ⟨"BranchConstants", "codeOf", "(I)LBranchConstants$Code;"⟩
abbrev by_C_number : ByteArray := prog_3_method_4_code
def yn_C_number : MethodName := ⟨"BranchConstants$Code", "number", "(II)I"⟩
abbrev by_L_start : ByteArray := method_10_code
def yn_L_start : MethodName := ⟨"BranchConstantsLaw", "start", "(LBranchConstants;IIIII)I"⟩
abbrev by_B_start : ByteArray := prog_1_method_11_code
def yn_B_start : MethodName := ⟨"BranchConstants", "start", "(IIIII)V"⟩
abbrev by_B_runOf : ByteArray := prog_1_method_19_code
def yn_B_runOf : MethodName := ⟨"BranchConstants", "runOf", "(I)LBranchConstants$Execution;"⟩
abbrev by_E_begin : ByteArray := prog_4_method_2_code
def yn_E_begin : MethodName := ⟨"BranchConstants$Execution", "begin", "(LBranchConstants$Code;IIII)V"⟩
abbrev by_E_goTo : ByteArray := prog_4_method_6_code
def yn_E_goTo : MethodName := ⟨"BranchConstants$Execution", "goTo", "(LBranchConstants$Code;I)V"⟩
abbrev by_L_run : ByteArray := method_11_code
def yn_L_run : MethodName := ⟨"BranchConstantsLaw", "run", "(LBranchConstants;II[J)I"⟩
abbrev by_B_run : ByteArray := prog_1_method_12_code
def yn_B_run : MethodName := ⟨"BranchConstants", "run", "(II)I"⟩
abbrev by_B_refuseUnstarted : ByteArray := prog_1_method_25_code
def yn_B_refuseUnstarted : MethodName := ⟨"BranchConstants", "refuseUnstarted", "(I)V"⟩
abbrev by_E_advance : ByteArray := prog_4_method_3_code
def yn_E_advance : MethodName := ⟨"BranchConstants$Execution", "advance", "(LBranchConstants$Code;I)I"⟩
abbrev by_E_step : ByteArray := prog_4_method_4_code
def yn_E_step : MethodName := ⟨"BranchConstants$Execution", "step", "(LBranchConstants$Code;I)V"⟩
abbrev by_E_assigned : ByteArray := prog_4_method_5_code
def yn_E_assigned : MethodName := ⟨"BranchConstants$Execution", "assigned", "(LBranchConstants$Code;I)I"⟩
abbrev by_L_place : ByteArray := method_12_code
def yn_L_place : MethodName := ⟨"BranchConstantsLaw", "place", "(LBranchConstants;I[J)I"⟩
abbrev by_B_place : ByteArray := prog_1_method_13_code
def yn_B_place : MethodName := ⟨"BranchConstants", "place", "(I)I"⟩
abbrev by_L_value : ByteArray := method_13_code
def yn_L_value : MethodName := ⟨"BranchConstantsLaw", "value", "(LBranchConstants;II[J)I"⟩
abbrev by_B_value : ByteArray := prog_1_method_14_code
def yn_B_value : MethodName := ⟨"BranchConstants", "value", "(II)I"⟩
abbrev by_L_steps : ByteArray := method_14_code
def yn_L_steps : MethodName := ⟨"BranchConstantsLaw", "steps", "(LBranchConstants;I[J)I"⟩
abbrev by_B_steps : ByteArray := prog_1_method_15_code
def yn_B_steps : MethodName := ⟨"BranchConstants", "steps", "(I)I"⟩
abbrev by_M_init : ByteArray := prog_7_method_1_code
def yn_M_init : MethodName := ⟨"BranchConstantsModel", "<init>", "()V"⟩
abbrev by_M_thrown : ByteArray := prog_7_method_2_code
def yn_M_thrown : MethodName := ⟨"BranchConstantsModel", "thrown", "()I"⟩
abbrev by_M_add : ByteArray := prog_7_method_8_code
def yn_M_add : MethodName := ⟨"BranchConstantsModel", "add", "(IIII)I"⟩
abbrev by_M_isSound : ByteArray := prog_7_method_5_code
def yn_M_isSound : MethodName := ⟨"BranchConstantsModel", "isSound", "(IIII)Z"⟩
abbrev by_M_isVariable : ByteArray := prog_7_method_4_code
def yn_M_isVariable : MethodName := ⟨"BranchConstantsModel", "isVariable", "(I)Z"⟩
abbrev by_M_refused : ByteArray := prog_7_method_3_code
def yn_M_refused : MethodName := ⟨"BranchConstantsModel", "refused", "(I)Z"⟩
abbrev by_M_put : ByteArray := prog_7_method_6_code
def yn_M_put : MethodName := ⟨"BranchConstantsModel", "put", "(IIIII)V"⟩
abbrev by_M_changed : ByteArray := prog_7_method_7_code
def yn_M_changed : MethodName := ⟨"BranchConstantsModel", "changed", "()V"⟩
abbrev by_M_change : ByteArray := prog_7_method_9_code
def yn_M_change : MethodName := ⟨"BranchConstantsModel", "change", "(IIIII)V"⟩
abbrev by_M_clear : ByteArray := prog_7_method_10_code
def yn_M_clear : MethodName := ⟨"BranchConstantsModel", "clear", "()I"⟩
abbrev by_M_reached : ByteArray := prog_7_method_18_code
def yn_M_reached : MethodName := ⟨"BranchConstantsModel", "reached", "(I)Z"⟩
abbrev by_M_isThere : ByteArray := prog_7_method_17_code
def yn_M_isThere : MethodName := ⟨"BranchConstantsModel", "isThere", "(I)Z"⟩
abbrev by_M_analyse : ByteArray := prog_7_method_16_code
def yn_M_analyse : MethodName := ⟨"BranchConstantsModel", "analyse", "()V"⟩
abbrev by_M_goOn : ByteArray := prog_7_method_15_code
def yn_M_goOn : MethodName := ⟨"BranchConstantsModel", "goOn", "(I)V"⟩
abbrev by_M_come : ByteArray := prog_7_method_11_code
def yn_M_come : MethodName := ⟨"BranchConstantsModel", "come", "(I)V"⟩
abbrev by_M_know : ByteArray := prog_7_method_13_code
def yn_M_know : MethodName := ⟨"BranchConstantsModel", "know", "(IZI)V"⟩
abbrev by_M_pass : ByteArray := prog_7_method_14_code
def yn_M_pass : MethodName := ⟨"BranchConstantsModel", "pass", "(I)V"⟩
abbrev by_M_reckon : ByteArray := prog_7_method_12_code
def yn_M_reckon : MethodName := ⟨"BranchConstantsModel", "reckon", "(III)I"⟩
abbrev by_M_reachedAll : ByteArray := prog_7_method_19_code
def yn_M_reachedAll : MethodName := ⟨"BranchConstantsModel", "reachedAll", "()I"⟩
abbrev by_M_known : ByteArray := prog_7_method_20_code
def yn_M_known : MethodName := ⟨"BranchConstantsModel", "known", "(II)I"⟩
abbrev by_M_constant : ByteArray := prog_7_method_21_code
def yn_M_constant : MethodName := ⟨"BranchConstantsModel", "constant", "(II)I"⟩
abbrev by_M_rewrite : ByteArray := prog_7_method_29_code
def yn_M_rewrite : MethodName := ⟨"BranchConstantsModel", "rewrite", "()I"⟩
abbrev by_M_fold : ByteArray := prog_7_method_22_code
def yn_M_fold : MethodName := ⟨"BranchConstantsModel", "fold", "()V"⟩
abbrev by_M_thread : ByteArray := prog_7_method_24_code
def yn_M_thread : MethodName := ⟨"BranchConstantsModel", "thread", "()V"⟩
abbrev by_M_goes : ByteArray := prog_7_method_23_code
def yn_M_goes : MethodName := ⟨"BranchConstantsModel", "goes", "(I)Z"⟩
abbrev by_M_drop : ByteArray := prog_7_method_27_code
def yn_M_drop : MethodName := ⟨"BranchConstantsModel", "drop", "()V"⟩
abbrev by_M_mark : ByteArray := prog_7_method_25_code
def yn_M_mark : MethodName := ⟨"BranchConstantsModel", "mark", "(I)V"⟩
abbrev by_M_nextStaying : ByteArray := prog_7_method_26_code
def yn_M_nextStaying : MethodName := ⟨"BranchConstantsModel", "nextStaying", "(I)I"⟩
abbrev by_M_number : ByteArray := prog_7_method_28_code
def yn_M_number : MethodName := ⟨"BranchConstantsModel", "number", "()V"⟩
abbrev by_M_code : ByteArray := prog_7_method_30_code
def yn_M_code : MethodName := ⟨"BranchConstantsModel", "code", "(III)I"⟩
abbrev by_M_start : ByteArray := prog_7_method_32_code
def yn_M_start : MethodName := ⟨"BranchConstantsModel", "start", "(IIIII)V"⟩
abbrev by_M_isSide : ByteArray := prog_7_method_31_code
def yn_M_isSide : MethodName := ⟨"BranchConstantsModel", "isSide", "(I)Z"⟩
abbrev by_M_run : ByteArray := prog_7_method_34_code
def yn_M_run : MethodName := ⟨"BranchConstantsModel", "run", "(II)I"⟩
abbrev by_M_step : ByteArray := prog_7_method_33_code
def yn_M_step : MethodName := ⟨"BranchConstantsModel", "step", "(I)V"⟩
abbrev by_M_place : ByteArray := prog_7_method_36_code
def yn_M_place : MethodName := ⟨"BranchConstantsModel", "place", "(I)I"⟩
abbrev by_M_isWrong : ByteArray := prog_7_method_35_code
def yn_M_isWrong : MethodName := ⟨"BranchConstantsModel", "isWrong", "(IZ)Z"⟩
abbrev by_M_value : ByteArray := prog_7_method_37_code
def yn_M_value : MethodName := ⟨"BranchConstantsModel", "value", "(II)I"⟩
abbrev by_M_steps : ByteArray := prog_7_method_38_code
def yn_M_steps : MethodName := ⟨"BranchConstantsModel", "steps", "(I)I"⟩
abbrev classes : List vw_C := [(rc_A, fc_A, 6), (rc_C, fc_C, 5), (rc_E, fc_E, 4), (rc_W, fc_W, 4), (rc_B, fc_B, 8), (rc_M, fc_M, 19)]
def wd_0 : List Cond := [Cond.initialized "BranchConstantsLaw", Cond.initialized "BranchConstants", Cond.initialized "BranchConstants$Code", Cond.initialized "BranchConstants$Analysis", Cond.initialized "BranchConstants$Rewriting", Cond.initialized "BranchConstants$Execution", Cond.initialized "BranchConstantsModel", Cond.initialized "java/lang/Throwable", Cond.initialized "java/lang/Exception", Cond.initialized "java/lang/RuntimeException", Cond.initialized "java/lang/IllegalArgumentException", Cond.initialized "java/lang/IllegalStateException", Cond.initialized "java/lang/IndexOutOfBoundsException", Cond.initialized "java/util/Arrays", Cond.initialized "java/lang/System", Cond.classLink "BranchConstantsLaw" 8 "BranchConstants", Cond.instantiable "BranchConstants" 8, Cond.methodLink "BranchConstantsLaw" 58 yn_B_init, Cond.instanceMethod yn_B_init, Cond.code yn_B_init prog_1_method_1_code 1 none, Cond.methodLink "BranchConstants" 1 ⟨"java/lang/Object", "<init>", "()V"⟩, Cond.instanceMethod ⟨"java/lang/Object", "<init>", "()V"⟩, Cond.code ⟨"java/lang/Object", "<init>", "()V"⟩ object_method_1_code 1 none, Cond.classLink "BranchConstants" 7 "BranchConstants$Code", Cond.instantiable "BranchConstants$Code" 5, Cond.instanceMethod yn_C_init, Cond.code yn_C_init prog_3_method_1_code 1 none, Cond.methodLink "BranchConstants$Code" 3 ⟨"java/lang/Object", "<init>", "()V"⟩, Cond.fieldLink "BranchConstants$Code" 9 "BranchConstants$Code" "kinds" "[I", Cond.fieldLink "BranchConstants$Code" 15 "BranchConstants$Code" "ones" "[I", Cond.fieldLink "BranchConstants$Code" 18 "BranchConstants$Code" "twos" "[I", Cond.fieldLink "BranchConstants$Code" 21 "BranchConstants$Code" "threes" "[I", Cond.fieldLink "BranchConstants$Code" 24 "BranchConstants$Code" "count" "I", Cond.laysFinal "BranchConstants$Code" "BranchConstants$Code" "kinds" "[I", Cond.laysFinal "BranchConstants$Code" "BranchConstants$Code" "ones" "[I", Cond.laysFinal "BranchConstants$Code" "BranchConstants$Code" "twos" "[I", Cond.laysFinal "BranchConstants$Code" "BranchConstants$Code" "threes" "[I", Cond.lays "BranchConstants$Code" "BranchConstants$Code" "count" "I", Cond.superclass "BranchConstants$Code" "java/lang/Object", Cond.arrayClass FieldType.int, Cond.classLink "BranchConstants" 19 "BranchConstants$Analysis", Cond.instantiable "BranchConstants$Analysis" 6, Cond.instanceMethod yn_A_init, Cond.code yn_A_init prog_2_method_1_code 1 none, Cond.methodLink "BranchConstants$Analysis" 3 ⟨"java/lang/Object", "<init>", "()V"⟩, Cond.fieldLink "BranchConstants$Analysis" 9 "BranchConstants$Analysis" "states" "[I", Cond.fieldLink "BranchConstants$Analysis" 15 "BranchConstants$Analysis" "constants" "[I", Cond.fieldLink "BranchConstants$Analysis" 18 "BranchConstants$Analysis" "isWaiting" "[Z", Cond.fieldLink "BranchConstants$Analysis" 22 "BranchConstants$Analysis" "statesBehind" "[I", Cond.fieldLink "BranchConstants$Analysis" 25 "BranchConstants$Analysis" "constantsBehind" "[I", Cond.fieldLink "BranchConstants$Analysis" 68 "BranchConstants$Analysis" "result" "I", Cond.laysFinal "BranchConstants$Analysis" "BranchConstants$Analysis" "states" "[I", Cond.laysFinal "BranchConstants$Analysis" "BranchConstants$Analysis" "constants" "[I", Cond.laysFinal "BranchConstants$Analysis" "BranchConstants$Analysis" "isWaiting" "[Z", Cond.laysFinal "BranchConstants$Analysis" "BranchConstants$Analysis" "statesBehind" "[I", Cond.laysFinal "BranchConstants$Analysis" "BranchConstants$Analysis" "constantsBehind" "[I", Cond.lays "BranchConstants$Analysis" "BranchConstants$Analysis" "result" "I", Cond.superclass "BranchConstants$Analysis" "java/lang/Object", Cond.arrayClass FieldType.boolean, Cond.classLink "BranchConstants" 26 "BranchConstants$Rewriting", Cond.instantiable "BranchConstants$Rewriting" 4, Cond.instanceMethod yn_W_init, Cond.code yn_W_init prog_5_method_1_code 1 none, Cond.methodLink "BranchConstants$Rewriting" 3 ⟨"java/lang/Object", "<init>", "()V"⟩, Cond.fieldLink "BranchConstants$Rewriting" 9 "BranchConstants$Rewriting" "stays" "[Z", Cond.fieldLink "BranchConstants$Rewriting" 15 "BranchConstants$Rewriting" "queue" "[I", Cond.fieldLink "BranchConstants$Rewriting" 19 "BranchConstants$Rewriting" "newNumbers" "[I", Cond.fieldLink "BranchConstants$Rewriting" 94 "BranchConstants$Rewriting" "queued" "I", Cond.laysFinal "BranchConstants$Rewriting" "BranchConstants$Rewriting" "stays" "[Z", Cond.laysFinal "BranchConstants$Rewriting" "BranchConstants$Rewriting" "queue" "[I", Cond.laysFinal "BranchConstants$Rewriting" "BranchConstants$Rewriting" "newNumbers" "[I", Cond.lays "BranchConstants$Rewriting" "BranchConstants$Rewriting" "queued" "I", Cond.superclass "BranchConstants$Rewriting" "java/lang/Object", Cond.classLink "BranchConstants" 33 "BranchConstants$Execution", Cond.instantiable "BranchConstants$Execution" 4, Cond.instanceMethod yn_E_init, Cond.code yn_E_init prog_4_method_1_code 1 none, Cond.methodLink "BranchConstants$Execution" 3 ⟨"java/lang/Object", "<init>", "()V"⟩, Cond.fieldLink "BranchConstants$Execution" 9 "BranchConstants$Execution" "values" "[I", Cond.fieldLink "BranchConstants$Execution" 33 "BranchConstants$Execution" "place" "I", Cond.fieldLink "BranchConstants$Execution" 21 "BranchConstants$Execution" "steps" "I", Cond.fieldLink "BranchConstants$Execution" 25 "BranchConstants$Execution" "isStarted" "Z", Cond.laysFinal "BranchConstants$Execution" "BranchConstants$Execution" "values" "[I", Cond.lays "BranchConstants$Execution" "BranchConstants$Execution" "place" "I", Cond.lays "BranchConstants$Execution" "BranchConstants$Execution" "steps" "I", Cond.lays "BranchConstants$Execution" "BranchConstants$Execution" "isStarted" "Z", Cond.superclass "BranchConstants$Execution" "java/lang/Object", Cond.fieldLink "BranchConstants" 10 "BranchConstants" "program" "LBranchConstants$Code;", Cond.fieldLink "BranchConstants" 16 "BranchConstants" "rewritten" "LBranchConstants$Code;", Cond.fieldLink "BranchConstants" 22 "BranchConstants" "analysis" "LBranchConstants$Analysis;", Cond.fieldLink "BranchConstants" 29 "BranchConstants" "rewriting" "LBranchConstants$Rewriting;", Cond.fieldLink "BranchConstants" 36 "BranchConstants" "programRun" "LBranchConstants$Execution;", Cond.fieldLink "BranchConstants" 40 "BranchConstants" "rewrittenRun" "LBranchConstants$Execution;", Cond.fieldLink "BranchConstants" 154 "BranchConstants" "isAnalysed" "Z", Cond.fieldLink "BranchConstants" 100 "BranchConstants" "isRewritten" "Z", Cond.laysFinal "BranchConstants" "BranchConstants" "program" "LBranchConstants$Code;", Cond.laysFinal "BranchConstants" "BranchConstants" "rewritten" "LBranchConstants$Code;", Cond.laysFinal "BranchConstants" "BranchConstants" "analysis" "LBranchConstants$Analysis;", Cond.laysFinal "BranchConstants" "BranchConstants" "rewriting" "LBranchConstants$Rewriting;", Cond.laysFinal "BranchConstants" "BranchConstants" "programRun" "LBranchConstants$Execution;"]
def wd_1 : List Cond := [Cond.laysFinal "BranchConstants" "BranchConstants" "rewrittenRun" "LBranchConstants$Execution;", Cond.lays "BranchConstants" "BranchConstants" "isAnalysed" "Z", Cond.lays "BranchConstants" "BranchConstants" "isRewritten" "Z", Cond.superclass "BranchConstants" "java/lang/Object", Cond.methodLink "BranchConstantsLaw" 75 yn_B_clear, Cond.instanceMethod yn_B_clear, Cond.selects "BranchConstants" yn_B_clear yn_B_clear, Cond.code yn_B_clear prog_1_method_4_code 2 (some FieldType.int), Cond.methodLink "BranchConstants" 62 yn_B_forgetWhatFollowed, Cond.instanceMethod yn_B_forgetWhatFollowed, Cond.code yn_B_forgetWhatFollowed prog_1_method_16_code 1 none, Cond.methodLink "BranchConstantsLaw" 83 yn_B_reachedAll, Cond.instanceMethod yn_B_reachedAll, Cond.selects "BranchConstants" yn_B_reachedAll yn_B_reachedAll, Cond.code yn_B_reachedAll prog_1_method_6_code 1 (some FieldType.int), Cond.methodLink "BranchConstants" 69 yn_B_analyseOnce, Cond.instanceMethod yn_B_analyseOnce, Cond.code yn_B_analyseOnce prog_1_method_17_code 1 none, Cond.instanceMethod yn_A_perform, Cond.code yn_A_perform prog_2_method_2_code 5 none, Cond.methodLink "BranchConstants$Analysis" 28 yn_J_fill, Cond.static yn_J_fill, Cond.code yn_J_fill prog_16_method_103_code 4 none, Cond.methodLink "BranchConstants$Analysis" 34 yn_A_comeTo, Cond.instanceMethod yn_A_comeTo, Cond.code yn_A_comeTo prog_2_method_5_code 5 none, Cond.static yn_B_cell, Cond.code yn_B_cell prog_1_method_29_code 2 (some FieldType.int), Cond.methodLink "BranchConstants$Analysis" 96 yn_A_isBehind, Cond.instanceMethod yn_A_isBehind, Cond.code yn_A_isBehind prog_2_method_6_code 3 (some FieldType.boolean), Cond.methodLink "BranchConstants$Analysis" 44 yn_A_goOnFrom, Cond.instanceMethod yn_A_goOnFrom, Cond.code yn_A_goOnFrom prog_2_method_3_code 3 none, Cond.methodLink "BranchConstants$Analysis" 51 ⟨"java/lang/System", "arraycopy", "(Ljava/lang/Object;ILjava/lang/Object;II)V"⟩, Cond.static ⟨"java/lang/System", "arraycopy", "(Ljava/lang/Object;ILjava/lang/Object;II)V"⟩, Cond.native ⟨"java/lang/System", "arraycopy", "(Ljava/lang/Object;ILjava/lang/Object;II)V"⟩, Cond.instanceMethod yn_C_assigns, Cond.code yn_C_assigns prog_3_method_5_code 2 (some FieldType.boolean), Cond.methodLink "BranchConstants$Analysis" 61 yn_A_hasConstantResult, Cond.instanceMethod yn_A_hasConstantResult, Cond.code yn_A_hasConstantResult prog_2_method_9_code 6 (some FieldType.boolean), Cond.methodLink "BranchConstants$Analysis" 106 yn_A_isConstantZero, Cond.instanceMethod yn_A_isConstantZero, Cond.code yn_A_isConstantZero prog_2_method_10_code 2 (some FieldType.boolean), Cond.static yn_B_calculate, Cond.code yn_B_calculate prog_1_method_30_code 3 (some FieldType.int), Cond.methodLink "BranchConstants$Analysis" 71 yn_A_setConstantBehind, Cond.instanceMethod yn_A_setConstantBehind, Cond.code yn_A_setConstantBehind prog_2_method_7_code 3 none, Cond.methodLink "BranchConstants$Analysis" 75 yn_A_setVaryingBehind, Cond.instanceMethod yn_A_setVaryingBehind, Cond.code yn_A_setVaryingBehind prog_2_method_8_code 2 none, Cond.instanceMethod yn_C_target, Cond.code yn_C_target prog_3_method_7_code 2 (some FieldType.int), Cond.methodLink "BranchConstants$Analysis" 86 yn_A_goOnFromZero, Cond.instanceMethod yn_A_goOnFromZero, Cond.code yn_A_goOnFromZero prog_2_method_4_code 3 none, Cond.methodLink "BranchConstants$Analysis" 89 yn_A_hasConstantTest, Cond.instanceMethod yn_A_hasConstantTest, Cond.code yn_A_hasConstantTest prog_2_method_11_code 3 (some FieldType.boolean), Cond.methodLink "BranchConstants$Analysis" 92 yn_A_wayOfConstantTest, Cond.instanceMethod yn_A_wayOfConstantTest, Cond.code yn_A_wayOfConstantTest prog_2_method_12_code 3 (some FieldType.int), Cond.instanceMethod yn_A_countReached, Cond.code yn_A_countReached prog_2_method_14_code 4 (some FieldType.int), Cond.methodLink "BranchConstants$Analysis" 113 yn_A_isReached, Cond.instanceMethod yn_A_isReached, Cond.code yn_A_isReached prog_2_method_13_code 2 (some FieldType.boolean), Cond.methodLink "BranchConstantsLaw" 62 yn_L_add, Cond.static yn_L_add, Cond.codeWith yn_L_add method_3_code 7 (some FieldType.int) [(0, 14, 17, 13), (0, 14, 21, 15)], Cond.classLink "BranchConstantsLaw" 13 "java/lang/IllegalArgumentException", Cond.classLink "BranchConstantsLaw" 15 "java/lang/IllegalStateException", Cond.methodLink "BranchConstantsLaw" 7 yn_B_add, Cond.instanceMethod yn_B_add, Cond.selects "BranchConstants" yn_B_add yn_B_add, Cond.code yn_B_add prog_1_method_2_code 5 (some FieldType.int), Cond.methodLink "BranchConstants" 43 yn_B_refuseWrongInstruction, Cond.instanceMethod yn_B_refuseWrongInstruction, Cond.code yn_B_refuseWrongInstruction prog_1_method_20_code 5 none, Cond.methodLink "BranchConstants" 160 yn_B_isInstruction, Cond.static yn_B_isInstruction, Cond.code yn_B_isInstruction prog_1_method_26_code 4 (some FieldType.boolean), Cond.methodLink "BranchConstants" 168 yn_B_isVariable, Cond.static yn_B_isVariable, Cond.code yn_B_isVariable prog_1_method_27_code 1 (some FieldType.boolean), Cond.methodLink "BranchConstants" 179 yn_B_isTarget, Cond.static yn_B_isTarget, Cond.code yn_B_isTarget prog_1_method_28_code 1 (some FieldType.boolean), Cond.classLink "BranchConstants" 133 "java/lang/IllegalArgumentException", Cond.instantiable "java/lang/IllegalArgumentException" 6, Cond.selects "java/lang/IllegalArgumentException" ⟨"java/lang/Throwable", "fillInStackTrace", "(I)Ljava/lang/Throwable;"⟩ ⟨"java/lang/Throwable", "fillInStackTrace", "(I)Ljava/lang/Throwable;"⟩, Cond.selects "java/lang/IllegalArgumentException" ⟨"java/lang/Throwable", "fillInStackTrace", "()Ljava/lang/Throwable;"⟩ ⟨"java/lang/Throwable", "fillInStackTrace", "()Ljava/lang/Throwable;"⟩, Cond.lays "java/lang/IllegalArgumentException" "java/lang/Throwable" "cause" "Ljava/lang/Throwable;", Cond.lays "java/lang/Throwable" "java/lang/Throwable" "cause" "Ljava/lang/Throwable;", Cond.lays "java/lang/IllegalArgumentException" "java/lang/Throwable" "stackTrace" "[Ljava/lang/StackTraceElement;", Cond.lays "java/lang/Throwable" "java/lang/Throwable" "stackTrace" "[Ljava/lang/StackTraceElement;", Cond.lays "java/lang/IllegalArgumentException" "java/lang/Throwable" "suppressedExceptions" "Ljava/util/List;", Cond.lays "java/lang/Throwable" "java/lang/Throwable" "suppressedExceptions" "Ljava/util/List;"]
def wd_2 : List Cond := [Cond.lays "java/lang/IllegalArgumentException" "java/lang/Throwable" "detailMessage" "Ljava/lang/String;", Cond.lays "java/lang/Throwable" "java/lang/Throwable" "detailMessage" "Ljava/lang/String;", Cond.lays "java/lang/IllegalArgumentException" "java/lang/Throwable" "backtrace" "Ljava/lang/Object;", Cond.lays "java/lang/Throwable" "java/lang/Throwable" "backtrace" "Ljava/lang/Object;", Cond.fieldLink "java/lang/Throwable" 198 "java/lang/Throwable" "backtrace" "Ljava/lang/Object;", Cond.superclass "java/lang/Throwable" "java/lang/Object", Cond.instanceMethod ⟨"java/lang/Throwable", "<init>", "()V"⟩, Cond.code ⟨"java/lang/Throwable", "<init>", "()V"⟩ prog_15_method_1_code 1 none, Cond.methodLink "java/lang/Throwable" 1 ⟨"java/lang/Object", "<init>", "()V"⟩, Cond.fieldLink "java/lang/Throwable" 13 "java/lang/Throwable" "UNASSIGNED_STACK" "[Ljava/lang/StackTraceElement;", Cond.fieldLink "java/lang/Throwable" 20 "java/lang/Throwable" "SUPPRESSED_SENTINEL" "Ljava/util/List;", Cond.methodLink "java/lang/Throwable" 27 ⟨"java/lang/Throwable", "fillInStackTrace", "()Ljava/lang/Throwable;"⟩, Cond.instanceMethod ⟨"java/lang/Throwable", "fillInStackTrace", "()Ljava/lang/Throwable;"⟩, Cond.sameMethod "java/lang/Throwable" "java/lang/Throwable" "fillInStackTrace" "()Ljava/lang/Throwable;", Cond.selects "java/lang/IllegalStateException" ⟨"java/lang/Throwable", "fillInStackTrace", "()Ljava/lang/Throwable;"⟩ ⟨"java/lang/Throwable", "fillInStackTrace", "()Ljava/lang/Throwable;"⟩, Cond.selects "java/lang/IndexOutOfBoundsException" ⟨"java/lang/Throwable", "fillInStackTrace", "()Ljava/lang/Throwable;"⟩ ⟨"java/lang/Throwable", "fillInStackTrace", "()Ljava/lang/Throwable;"⟩, Cond.codeSync ⟨"java/lang/Throwable", "fillInStackTrace", "()Ljava/lang/Throwable;"⟩ prog_15_method_18_code 1 (some (FieldType.object "java/lang/Throwable")), Cond.methodLink "java/lang/Throwable" 202 ⟨"java/lang/Throwable", "fillInStackTrace", "(I)Ljava/lang/Throwable;"⟩, Cond.instanceMethod ⟨"java/lang/Throwable", "fillInStackTrace", "(I)Ljava/lang/Throwable;"⟩, Cond.instantiable "java/lang/Throwable" 6, Cond.native ⟨"java/lang/Throwable", "fillInStackTrace", "(I)Ljava/lang/Throwable;"⟩, Cond.methodLink "BranchConstants" 137 ⟨"java/lang/IllegalArgumentException", "<init>", "(Ljava/lang/String;)V"⟩, Cond.instanceMethod ⟨"java/lang/IllegalArgumentException", "<init>", "(Ljava/lang/String;)V"⟩, Cond.code ⟨"java/lang/IllegalArgumentException", "<init>", "(Ljava/lang/String;)V"⟩ prog_9_method_2_code 2 none, Cond.methodLink "java/lang/IllegalArgumentException" 7 ⟨"java/lang/RuntimeException", "<init>", "(Ljava/lang/String;)V"⟩, Cond.instanceMethod ⟨"java/lang/RuntimeException", "<init>", "(Ljava/lang/String;)V"⟩, Cond.code ⟨"java/lang/RuntimeException", "<init>", "(Ljava/lang/String;)V"⟩ prog_12_method_2_code 2 none, Cond.methodLink "java/lang/RuntimeException" 7 ⟨"java/lang/Exception", "<init>", "(Ljava/lang/String;)V"⟩, Cond.instanceMethod ⟨"java/lang/Exception", "<init>", "(Ljava/lang/String;)V"⟩, Cond.code ⟨"java/lang/Exception", "<init>", "(Ljava/lang/String;)V"⟩ prog_8_method_2_code 2 none, Cond.methodLink "java/lang/Exception" 7 ⟨"java/lang/Throwable", "<init>", "(Ljava/lang/String;)V"⟩, Cond.instanceMethod ⟨"java/lang/Throwable", "<init>", "(Ljava/lang/String;)V"⟩, Cond.code ⟨"java/lang/Throwable", "<init>", "(Ljava/lang/String;)V"⟩ prog_15_method_2_code 2 none, Cond.fieldLink "java/lang/Throwable" 31 "java/lang/Throwable" "detailMessage" "Ljava/lang/String;", Cond.fieldLink "java/lang/Throwable" 7 "java/lang/Throwable" "cause" "Ljava/lang/Throwable;", Cond.fieldLink "java/lang/Throwable" 17 "java/lang/Throwable" "stackTrace" "[Ljava/lang/StackTraceElement;", Cond.fieldLink "java/lang/Throwable" 24 "java/lang/Throwable" "suppressedExceptions" "Ljava/util/List;", Cond.lays "java/lang/IllegalArgumentException" "java/lang/Throwable" "depth" "I", Cond.superclass "java/lang/IllegalArgumentException" "java/lang/RuntimeException", Cond.arrayClass FieldType.byte, Cond.classLink "BranchConstants" 51 "java/lang/IllegalStateException", Cond.instantiable "java/lang/IllegalStateException" 6, Cond.selects "java/lang/IllegalStateException" ⟨"java/lang/Throwable", "fillInStackTrace", "(I)Ljava/lang/Throwable;"⟩ ⟨"java/lang/Throwable", "fillInStackTrace", "(I)Ljava/lang/Throwable;"⟩, Cond.lays "java/lang/IllegalStateException" "java/lang/Throwable" "cause" "Ljava/lang/Throwable;", Cond.lays "java/lang/IllegalStateException" "java/lang/Throwable" "stackTrace" "[Ljava/lang/StackTraceElement;", Cond.lays "java/lang/IllegalStateException" "java/lang/Throwable" "suppressedExceptions" "Ljava/util/List;", Cond.lays "java/lang/IllegalStateException" "java/lang/Throwable" "detailMessage" "Ljava/lang/String;", Cond.lays "java/lang/IllegalStateException" "java/lang/Throwable" "backtrace" "Ljava/lang/Object;", Cond.methodLink "BranchConstants" 55 ⟨"java/lang/IllegalStateException", "<init>", "(Ljava/lang/String;)V"⟩, Cond.instanceMethod ⟨"java/lang/IllegalStateException", "<init>", "(Ljava/lang/String;)V"⟩, Cond.code ⟨"java/lang/IllegalStateException", "<init>", "(Ljava/lang/String;)V"⟩ prog_10_method_2_code 2 none, Cond.methodLink "java/lang/IllegalStateException" 7 ⟨"java/lang/RuntimeException", "<init>", "(Ljava/lang/String;)V"⟩, Cond.lays "java/lang/IllegalStateException" "java/lang/Throwable" "depth" "I", Cond.superclass "java/lang/IllegalStateException" "java/lang/RuntimeException", Cond.instanceMethod yn_C_put, Cond.code yn_C_put prog_3_method_2_code 6 none, Cond.methodLink "BranchConstantsLaw" 71 yn_L_change, Cond.static yn_L_change, Cond.codeWith yn_L_change method_4_code 7 (some FieldType.int) [(0, 11, 14, 21), (0, 11, 18, 13)], Cond.classLink "BranchConstantsLaw" 21 "java/lang/IndexOutOfBoundsException", Cond.methodLink "BranchConstantsLaw" 17 yn_B_change, Cond.instanceMethod yn_B_change, Cond.selects "BranchConstants" yn_B_change yn_B_change, Cond.code yn_B_change prog_1_method_3_code 6 none, Cond.methodLink "BranchConstants" 65 yn_B_refuseWrongIndex, Cond.instanceMethod yn_B_refuseWrongIndex, Cond.code yn_B_refuseWrongIndex prog_1_method_21_code 2 none, Cond.classLink "BranchConstants" 117 "java/lang/IndexOutOfBoundsException", Cond.instantiable "java/lang/IndexOutOfBoundsException" 6, Cond.selects "java/lang/IndexOutOfBoundsException" ⟨"java/lang/Throwable", "fillInStackTrace", "(I)Ljava/lang/Throwable;"⟩ ⟨"java/lang/Throwable", "fillInStackTrace", "(I)Ljava/lang/Throwable;"⟩, Cond.lays "java/lang/IndexOutOfBoundsException" "java/lang/Throwable" "cause" "Ljava/lang/Throwable;", Cond.lays "java/lang/IndexOutOfBoundsException" "java/lang/Throwable" "stackTrace" "[Ljava/lang/StackTraceElement;", Cond.lays "java/lang/IndexOutOfBoundsException" "java/lang/Throwable" "suppressedExceptions" "Ljava/util/List;", Cond.lays "java/lang/IndexOutOfBoundsException" "java/lang/Throwable" "detailMessage" "Ljava/lang/String;", Cond.lays "java/lang/IndexOutOfBoundsException" "java/lang/Throwable" "backtrace" "Ljava/lang/Object;", Cond.methodLink "BranchConstants" 121 ⟨"java/lang/IndexOutOfBoundsException", "<init>", "(Ljava/lang/String;)V"⟩, Cond.instanceMethod ⟨"java/lang/IndexOutOfBoundsException", "<init>", "(Ljava/lang/String;)V"⟩, Cond.code ⟨"java/lang/IndexOutOfBoundsException", "<init>", "(Ljava/lang/String;)V"⟩ prog_11_method_2_code 2 none, Cond.methodLink "java/lang/IndexOutOfBoundsException" 7 ⟨"java/lang/RuntimeException", "<init>", "(Ljava/lang/String;)V"⟩, Cond.lays "java/lang/IndexOutOfBoundsException" "java/lang/Throwable" "depth" "I", Cond.superclass "java/lang/IndexOutOfBoundsException" "java/lang/RuntimeException", Cond.methodLink "BranchConstantsLaw" 79 yn_L_reached, Cond.static yn_L_reached, Cond.codeWith yn_L_reached method_5_code 4 (some FieldType.int) [(0, 16, 19, 21)], Cond.methodLink "BranchConstantsLaw" 23 yn_B_reached, Cond.instanceMethod yn_B_reached, Cond.selects "BranchConstants" yn_B_reached yn_B_reached, Cond.code yn_B_reached prog_1_method_5_code 2 (some FieldType.boolean), Cond.methodLink "BranchConstantsLaw" 87 yn_L_known, Cond.static yn_L_known, Cond.codeWith yn_L_known method_6_code 5 (some FieldType.int) [(0, 10, 13, 21)], Cond.methodLink "BranchConstantsLaw" 27 yn_B_known, Cond.instanceMethod yn_B_known, Cond.selects "BranchConstants" yn_B_known yn_B_known, Cond.code yn_B_known prog_1_method_7_code 3 (some FieldType.int), Cond.methodLink "BranchConstants" 80 yn_B_refuseWrongVariable, Cond.instanceMethod yn_B_refuseWrongVariable, Cond.code yn_B_refuseWrongVariable prog_1_method_22_code 2 none, Cond.methodLink "BranchConstants" 87 yn_B_cell, Cond.methodLink "BranchConstantsLaw" 91 yn_L_constant]
def wd_3 : List Cond := [Cond.static yn_L_constant, Cond.codeWith yn_L_constant method_7_code 5 (some FieldType.int) [(0, 10, 13, 21)], Cond.methodLink "BranchConstantsLaw" 31 yn_B_constant, Cond.instanceMethod yn_B_constant, Cond.selects "BranchConstants" yn_B_constant yn_B_constant, Cond.code yn_B_constant prog_1_method_8_code 3 (some FieldType.int), Cond.methodLink "BranchConstantsLaw" 94 yn_L_rewrite, Cond.static yn_L_rewrite, Cond.codeWith yn_L_rewrite method_8_code 3 (some FieldType.int) [(0, 8, 11, 15)], Cond.methodLink "BranchConstantsLaw" 34 yn_B_rewrite, Cond.instanceMethod yn_B_rewrite, Cond.selects "BranchConstants" yn_B_rewrite yn_B_rewrite, Cond.code yn_B_rewrite prog_1_method_9_code 1 (some FieldType.int), Cond.instanceMethod yn_W_perform, Cond.code yn_W_perform prog_5_method_2_code 4 none, Cond.instanceMethod yn_C_putAllOf, Cond.code yn_C_putAllOf prog_3_method_3_code 3 none, Cond.methodLink "BranchConstants$Code" 28 yn_C_put, Cond.methodLink "BranchConstants$Rewriting" 28 yn_W_fold, Cond.static yn_W_fold, Cond.code yn_W_fold prog_5_method_3_code 4 none, Cond.methodLink "BranchConstants$Rewriting" 32 yn_W_thread, Cond.static yn_W_thread, Cond.code yn_W_thread prog_5_method_4_code 2 none, Cond.instanceMethod yn_C_hasTarget, Cond.code yn_C_hasTarget prog_3_method_6_code 2 (some FieldType.boolean), Cond.methodLink "BranchConstants$Rewriting" 91 yn_W_endOfChain, Cond.static yn_W_endOfChain, Cond.code yn_W_endOfChain prog_5_method_5_code 4 (some FieldType.int), Cond.methodLink "BranchConstants$Rewriting" 35 yn_W_keepWhatCanBeComeTo, Cond.instanceMethod yn_W_keepWhatCanBeComeTo, Cond.code yn_W_keepWhatCanBeComeTo prog_5_method_6_code 4 none, Cond.methodLink "BranchConstants$Rewriting" 97 yn_W_keep, Cond.instanceMethod yn_W_keep, Cond.code yn_W_keep prog_5_method_7_code 3 none, Cond.methodLink "BranchConstants$Rewriting" 38 yn_W_dropJumpsToTheNext, Cond.instanceMethod yn_W_dropJumpsToTheNext, Cond.code yn_W_dropJumpsToTheNext prog_5_method_8_code 4 none, Cond.methodLink "BranchConstants$Rewriting" 41 yn_W_numberAnew, Cond.instanceMethod yn_W_numberAnew, Cond.code yn_W_numberAnew prog_5_method_9_code 4 none, Cond.methodLink "BranchConstants$Rewriting" 101 yn_W_moveToNewNumber, Cond.instanceMethod yn_W_moveToNewNumber, Cond.code yn_W_moveToNewNumber prog_5_method_10_code 4 none, Cond.methodLink "BranchConstantsLaw" 98 yn_L_code, Cond.static yn_L_code, Cond.codeWith yn_L_code method_9_code 6 (some FieldType.int) [(0, 12, 15, 15), (0, 12, 19, 21)], Cond.methodLink "BranchConstantsLaw" 38 yn_B_code, Cond.instanceMethod yn_B_code, Cond.selects "BranchConstants" yn_B_code yn_B_code, Cond.code yn_B_code prog_1_method_10_code 5 (some FieldType.int), Cond.methodLink "BranchConstants" 107 yn_B_refuseMissingRewritten, Cond.instanceMethod yn_B_refuseMissingRewritten, Cond.code yn_B_refuseMissingRewritten prog_1_method_24_code 2 none, Cond.methodLink "BranchConstants" 110 yn_B_refuseWrongSide, Cond.instanceMethod yn_B_refuseWrongSide, Cond.code yn_B_refuseWrongSide prog_1_method_23_code 2 none, Cond.methodLink "BranchConstants" 113 yn_B_codeOf, Cond.instanceMethod yn_B_codeOf, Cond.code yn_B_codeOf prog_1_method_18_code 2 (some (FieldType.object "BranchConstants$Code")), Cond.instanceMethod yn_C_number, Cond.code yn_C_number prog_3_method_4_code 3 (some FieldType.int), Cond.methodLink "BranchConstantsLaw" 102 yn_L_start, Cond.static yn_L_start, Cond.codeWith yn_L_start method_10_code 7 (some FieldType.int) [(0, 11, 14, 21), (0, 11, 18, 15)], Cond.methodLink "BranchConstantsLaw" 42 yn_B_start, Cond.instanceMethod yn_B_start, Cond.selects "BranchConstants" yn_B_start yn_B_start, Cond.code yn_B_start prog_1_method_11_code 6 none, Cond.methodLink "BranchConstants" 125 yn_B_runOf, Cond.instanceMethod yn_B_runOf, Cond.code yn_B_runOf prog_1_method_19_code 2 (some (FieldType.object "BranchConstants$Execution")), Cond.instanceMethod yn_E_begin, Cond.code yn_E_begin prog_4_method_2_code 6 none, Cond.methodLink "BranchConstants$Execution" 15 yn_J_fill, Cond.methodLink "BranchConstants$Execution" 29 yn_E_goTo, Cond.instanceMethod yn_E_goTo, Cond.code yn_E_goTo prog_4_method_6_code 3 none, Cond.methodLink "BranchConstantsLaw" 105 yn_L_run, Cond.static yn_L_run, Cond.codeWith yn_L_run method_11_code 5 (some FieldType.int) [(0, 10, 13, 21), (0, 10, 17, 13), (0, 10, 21, 15)], Cond.methodLink "BranchConstantsLaw" 45 yn_B_run, Cond.instanceMethod yn_B_run, Cond.selects "BranchConstants" yn_B_run yn_B_run, Cond.code yn_B_run prog_1_method_12_code 3 (some FieldType.int), Cond.methodLink "BranchConstants" 138 yn_B_refuseUnstarted, Cond.instanceMethod yn_B_refuseUnstarted, Cond.code yn_B_refuseUnstarted prog_1_method_25_code 2 none, Cond.instanceMethod yn_E_advance, Cond.code yn_E_advance prog_4_method_3_code 4 (some FieldType.int), Cond.methodLink "BranchConstants$Execution" 36 yn_E_step, Cond.instanceMethod yn_E_step, Cond.code yn_E_step prog_4_method_4_code 3 none, Cond.methodLink "BranchConstants$Execution" 54 yn_E_assigned, Cond.instanceMethod yn_E_assigned, Cond.code yn_E_assigned prog_4_method_5_code 4 (some FieldType.int), Cond.methodLink "BranchConstantsLaw" 108 yn_L_place, Cond.static yn_L_place, Cond.codeWith yn_L_place method_12_code 4 (some FieldType.int) [(0, 9, 12, 21), (0, 9, 15, 15)], Cond.methodLink "BranchConstantsLaw" 48 yn_B_place]
def wd_4 : List Cond := [Cond.instanceMethod yn_B_place, Cond.selects "BranchConstants" yn_B_place yn_B_place, Cond.code yn_B_place prog_1_method_13_code 2 (some FieldType.int), Cond.methodLink "BranchConstantsLaw" 111 yn_L_value, Cond.static yn_L_value, Cond.codeWith yn_L_value method_13_code 5 (some FieldType.int) [(0, 10, 13, 21), (0, 10, 17, 15)], Cond.methodLink "BranchConstantsLaw" 52 yn_B_value, Cond.instanceMethod yn_B_value, Cond.selects "BranchConstants" yn_B_value yn_B_value, Cond.code yn_B_value prog_1_method_14_code 3 (some FieldType.int), Cond.methodLink "BranchConstantsLaw" 114 yn_L_steps, Cond.static yn_L_steps, Cond.codeWith yn_L_steps method_14_code 4 (some FieldType.int) [(0, 9, 12, 21), (0, 9, 15, 15)], Cond.methodLink "BranchConstantsLaw" 55 yn_B_steps, Cond.instanceMethod yn_B_steps, Cond.selects "BranchConstants" yn_B_steps yn_B_steps, Cond.code yn_B_steps prog_1_method_15_code 2 (some FieldType.int), Cond.classLink "BranchConstantsLaw" 59 "BranchConstantsModel", Cond.instantiable "BranchConstantsModel" 19, Cond.methodLink "BranchConstantsLaw" 61 yn_M_init, Cond.instanceMethod yn_M_init, Cond.code yn_M_init prog_7_method_1_code 1 none, Cond.methodLink "BranchConstantsModel" 1 ⟨"java/lang/Object", "<init>", "()V"⟩, Cond.fieldLink "BranchConstantsModel" 59 "BranchConstantsModel" "fault" "I", Cond.fieldLink "BranchConstantsModel" 7 "BranchConstantsModel" "kinds" "[I", Cond.fieldLink "BranchConstantsModel" 13 "BranchConstantsModel" "ones" "[I", Cond.fieldLink "BranchConstantsModel" 16 "BranchConstantsModel" "twos" "[I", Cond.fieldLink "BranchConstantsModel" 19 "BranchConstantsModel" "threes" "[I", Cond.fieldLink "BranchConstantsModel" 22 "BranchConstantsModel" "sizes" "[I", Cond.fieldLink "BranchConstantsModel" 67 "BranchConstantsModel" "isRewritten" "Z", Cond.fieldLink "BranchConstantsModel" 25 "BranchConstantsModel" "isReached" "[Z", Cond.fieldLink "BranchConstantsModel" 29 "BranchConstantsModel" "facts" "[I", Cond.fieldLink "BranchConstantsModel" 32 "BranchConstantsModel" "values" "[I", Cond.fieldLink "BranchConstantsModel" 85 "BranchConstantsModel" "grew" "Z", Cond.fieldLink "BranchConstantsModel" 35 "BranchConstantsModel" "nowFact" "[I", Cond.fieldLink "BranchConstantsModel" 38 "BranchConstantsModel" "nowValue" "[I", Cond.fieldLink "BranchConstantsModel" 41 "BranchConstantsModel" "stays" "[Z", Cond.fieldLink "BranchConstantsModel" 44 "BranchConstantsModel" "leads" "[I", Cond.fieldLink "BranchConstantsModel" 47 "BranchConstantsModel" "isOn" "[Z", Cond.fieldLink "BranchConstantsModel" 50 "BranchConstantsModel" "places" "[I", Cond.fieldLink "BranchConstantsModel" 53 "BranchConstantsModel" "steps" "[I", Cond.fieldLink "BranchConstantsModel" 56 "BranchConstantsModel" "variables" "[I", Cond.lays "BranchConstantsModel" "BranchConstantsModel" "fault" "I", Cond.laysFinal "BranchConstantsModel" "BranchConstantsModel" "kinds" "[I", Cond.laysFinal "BranchConstantsModel" "BranchConstantsModel" "ones" "[I", Cond.laysFinal "BranchConstantsModel" "BranchConstantsModel" "twos" "[I", Cond.laysFinal "BranchConstantsModel" "BranchConstantsModel" "threes" "[I", Cond.laysFinal "BranchConstantsModel" "BranchConstantsModel" "sizes" "[I", Cond.lays "BranchConstantsModel" "BranchConstantsModel" "isRewritten" "Z", Cond.laysFinal "BranchConstantsModel" "BranchConstantsModel" "isReached" "[Z", Cond.laysFinal "BranchConstantsModel" "BranchConstantsModel" "facts" "[I", Cond.laysFinal "BranchConstantsModel" "BranchConstantsModel" "values" "[I", Cond.lays "BranchConstantsModel" "BranchConstantsModel" "grew" "Z", Cond.laysFinal "BranchConstantsModel" "BranchConstantsModel" "nowFact" "[I", Cond.laysFinal "BranchConstantsModel" "BranchConstantsModel" "nowValue" "[I", Cond.laysFinal "BranchConstantsModel" "BranchConstantsModel" "stays" "[Z", Cond.laysFinal "BranchConstantsModel" "BranchConstantsModel" "leads" "[I", Cond.laysFinal "BranchConstantsModel" "BranchConstantsModel" "isOn" "[Z", Cond.laysFinal "BranchConstantsModel" "BranchConstantsModel" "places" "[I", Cond.laysFinal "BranchConstantsModel" "BranchConstantsModel" "steps" "[I", Cond.laysFinal "BranchConstantsModel" "BranchConstantsModel" "variables" "[I", Cond.superclass "BranchConstantsModel" "java/lang/Object", Cond.methodLink "BranchConstantsLaw" 68 yn_M_thrown, Cond.instanceMethod yn_M_thrown, Cond.selects "BranchConstantsModel" yn_M_thrown yn_M_thrown, Cond.code yn_M_thrown prog_7_method_2_code 1 (some FieldType.int), Cond.methodLink "BranchConstantsLaw" 67 yn_M_add, Cond.instanceMethod yn_M_add, Cond.selects "BranchConstantsModel" yn_M_add yn_M_add, Cond.code yn_M_add prog_7_method_8_code 5 (some FieldType.int), Cond.methodLink "BranchConstantsModel" 71 yn_M_isSound, Cond.static yn_M_isSound, Cond.code yn_M_isSound prog_7_method_5_code 4 (some FieldType.boolean), Cond.methodLink "BranchConstantsModel" 63 yn_M_isVariable, Cond.static yn_M_isVariable, Cond.code yn_M_isVariable prog_7_method_4_code 1 (some FieldType.boolean), Cond.methodLink "BranchConstantsModel" 75 yn_M_refused, Cond.instanceMethod yn_M_refused, Cond.code yn_M_refused prog_7_method_3_code 2 (some FieldType.boolean), Cond.methodLink "BranchConstantsModel" 78 yn_M_put, Cond.instanceMethod yn_M_put, Cond.code yn_M_put prog_7_method_6_code 6 none, Cond.methodLink "BranchConstantsModel" 82 yn_M_changed, Cond.instanceMethod yn_M_changed, Cond.code yn_M_changed prog_7_method_7_code 1 none, Cond.methodLink "BranchConstantsLaw" 74 yn_M_change, Cond.instanceMethod yn_M_change, Cond.selects "BranchConstantsModel" yn_M_change yn_M_change, Cond.code yn_M_change prog_7_method_9_code 6 none, Cond.methodLink "BranchConstantsLaw" 78 yn_M_clear, Cond.instanceMethod yn_M_clear, Cond.selects "BranchConstantsModel" yn_M_clear yn_M_clear, Cond.code yn_M_clear prog_7_method_10_code 2 (some FieldType.int), Cond.methodLink "BranchConstantsLaw" 82 yn_M_reached, Cond.instanceMethod yn_M_reached, Cond.selects "BranchConstantsModel" yn_M_reached yn_M_reached, Cond.code yn_M_reached prog_7_method_18_code 2 (some FieldType.boolean), Cond.methodLink "BranchConstantsModel" 106 yn_M_isThere, Cond.instanceMethod yn_M_isThere, Cond.code yn_M_isThere prog_7_method_17_code 2 (some FieldType.boolean)]
def wd_5 : List Cond := [Cond.methodLink "BranchConstantsModel" 109 yn_M_analyse, Cond.instanceMethod yn_M_analyse, Cond.code yn_M_analyse prog_7_method_16_code 3 none, Cond.methodLink "BranchConstantsModel" 103 yn_M_goOn, Cond.instanceMethod yn_M_goOn, Cond.code yn_M_goOn prog_7_method_15_code 4 none, Cond.methodLink "BranchConstantsModel" 96 yn_M_come, Cond.instanceMethod yn_M_come, Cond.code yn_M_come prog_7_method_11_code 5 none, Cond.methodLink "BranchConstantsModel" 88 yn_M_know, Cond.instanceMethod yn_M_know, Cond.code yn_M_know prog_7_method_13_code 4 none, Cond.methodLink "BranchConstantsModel" 100 yn_M_pass, Cond.instanceMethod yn_M_pass, Cond.code yn_M_pass prog_7_method_14_code 6 none, Cond.methodLink "BranchConstantsModel" 92 yn_M_reckon, Cond.static yn_M_reckon, Cond.code yn_M_reckon prog_7_method_12_code 3 (some FieldType.int), Cond.methodLink "BranchConstantsLaw" 86 yn_M_reachedAll, Cond.instanceMethod yn_M_reachedAll, Cond.selects "BranchConstantsModel" yn_M_reachedAll yn_M_reachedAll, Cond.code yn_M_reachedAll prog_7_method_19_code 3 (some FieldType.int), Cond.methodLink "BranchConstantsLaw" 90 yn_M_known, Cond.instanceMethod yn_M_known, Cond.selects "BranchConstantsModel" yn_M_known yn_M_known, Cond.code yn_M_known prog_7_method_20_code 3 (some FieldType.int), Cond.methodLink "BranchConstantsLaw" 93 yn_M_constant, Cond.instanceMethod yn_M_constant, Cond.selects "BranchConstantsModel" yn_M_constant yn_M_constant, Cond.code yn_M_constant prog_7_method_21_code 3 (some FieldType.int), Cond.methodLink "BranchConstantsLaw" 97 yn_M_rewrite, Cond.instanceMethod yn_M_rewrite, Cond.selects "BranchConstantsModel" yn_M_rewrite yn_M_rewrite, Cond.code yn_M_rewrite prog_7_method_29_code 1 (some FieldType.int), Cond.methodLink "BranchConstantsModel" 122 yn_M_fold, Cond.instanceMethod yn_M_fold, Cond.code yn_M_fold prog_7_method_22_code 3 none, Cond.methodLink "BranchConstantsModel" 125 yn_M_thread, Cond.instanceMethod yn_M_thread, Cond.code yn_M_thread prog_7_method_24_code 5 none, Cond.methodLink "BranchConstantsModel" 112 yn_M_goes, Cond.instanceMethod yn_M_goes, Cond.code yn_M_goes prog_7_method_23_code 2 (some FieldType.boolean), Cond.methodLink "BranchConstantsModel" 128 yn_M_drop, Cond.instanceMethod yn_M_drop, Cond.code yn_M_drop prog_7_method_27_code 5 none, Cond.methodLink "BranchConstantsModel" 115 yn_M_mark, Cond.instanceMethod yn_M_mark, Cond.code yn_M_mark prog_7_method_25_code 2 none, Cond.methodLink "BranchConstantsModel" 118 yn_M_nextStaying, Cond.instanceMethod yn_M_nextStaying, Cond.code yn_M_nextStaying prog_7_method_26_code 3 (some FieldType.int), Cond.methodLink "BranchConstantsModel" 131 yn_M_number, Cond.instanceMethod yn_M_number, Cond.code yn_M_number prog_7_method_28_code 7 none, Cond.methodLink "BranchConstantsLaw" 101 yn_M_code, Cond.instanceMethod yn_M_code, Cond.selects "BranchConstantsModel" yn_M_code yn_M_code, Cond.code yn_M_code prog_7_method_30_code 6 (some FieldType.int), Cond.methodLink "BranchConstantsLaw" 104 yn_M_start, Cond.instanceMethod yn_M_start, Cond.selects "BranchConstantsModel" yn_M_start yn_M_start, Cond.code yn_M_start prog_7_method_32_code 6 none, Cond.methodLink "BranchConstantsModel" 134 yn_M_isSide, Cond.static yn_M_isSide, Cond.code yn_M_isSide prog_7_method_31_code 1 (some FieldType.boolean), Cond.methodLink "BranchConstantsLaw" 107 yn_M_run, Cond.instanceMethod yn_M_run, Cond.selects "BranchConstantsModel" yn_M_run yn_M_run, Cond.code yn_M_run prog_7_method_34_code 4 (some FieldType.int), Cond.methodLink "BranchConstantsModel" 137 yn_M_step, Cond.instanceMethod yn_M_step, Cond.code yn_M_step prog_7_method_33_code 5 none, Cond.methodLink "BranchConstantsLaw" 110 yn_M_place, Cond.instanceMethod yn_M_place, Cond.selects "BranchConstantsModel" yn_M_place yn_M_place, Cond.code yn_M_place prog_7_method_36_code 2 (some FieldType.int), Cond.methodLink "BranchConstantsModel" 140 yn_M_isWrong, Cond.instanceMethod yn_M_isWrong, Cond.code yn_M_isWrong prog_7_method_35_code 3 (some FieldType.boolean), Cond.methodLink "BranchConstantsLaw" 113 yn_M_value, Cond.instanceMethod yn_M_value, Cond.selects "BranchConstantsModel" yn_M_value yn_M_value, Cond.code yn_M_value prog_7_method_37_code 3 (some FieldType.int), Cond.methodLink "BranchConstantsLaw" 116 yn_M_steps, Cond.instanceMethod yn_M_steps, Cond.selects "BranchConstantsModel" yn_M_steps yn_M_steps, Cond.code yn_M_steps prog_7_method_38_code 2 (some FieldType.int), Cond.arrayClass FieldType.long, Cond.sameMethod "java/lang/Throwable" "java/lang/Throwable" "fillInStackTrace" "(I)Ljava/lang/Throwable;", Cond.selects "BranchConstants" yn_B_forgetWhatFollowed yn_B_forgetWhatFollowed, Cond.selects "BranchConstants" yn_B_analyseOnce yn_B_analyseOnce, Cond.selects "BranchConstants$Analysis" yn_A_perform yn_A_perform, Cond.selects "BranchConstants$Analysis" yn_A_comeTo yn_A_comeTo, Cond.selects "BranchConstants$Analysis" yn_A_isBehind yn_A_isBehind, Cond.selects "BranchConstants$Analysis" yn_A_goOnFrom yn_A_goOnFrom, Cond.selects "BranchConstants$Code" yn_C_assigns yn_C_assigns, Cond.selects "BranchConstants$Analysis" yn_A_hasConstantResult yn_A_hasConstantResult, Cond.selects "BranchConstants$Analysis" yn_A_isConstantZero yn_A_isConstantZero, Cond.selects "BranchConstants$Analysis" yn_A_setConstantBehind yn_A_setConstantBehind]
def wd_6 : List Cond := [Cond.selects "BranchConstants$Analysis" yn_A_setVaryingBehind yn_A_setVaryingBehind, Cond.selects "BranchConstants$Code" yn_C_target yn_C_target, Cond.selects "BranchConstants$Analysis" yn_A_goOnFromZero yn_A_goOnFromZero, Cond.selects "BranchConstants$Analysis" yn_A_hasConstantTest yn_A_hasConstantTest, Cond.selects "BranchConstants$Analysis" yn_A_wayOfConstantTest yn_A_wayOfConstantTest, Cond.selects "BranchConstants$Analysis" yn_A_countReached yn_A_countReached, Cond.selects "BranchConstants$Analysis" yn_A_isReached yn_A_isReached, Cond.selects "BranchConstants" yn_B_refuseWrongInstruction yn_B_refuseWrongInstruction, Cond.selects "BranchConstants$Code" yn_C_put yn_C_put, Cond.selects "BranchConstants" yn_B_refuseWrongIndex yn_B_refuseWrongIndex, Cond.selects "BranchConstants" yn_B_refuseWrongVariable yn_B_refuseWrongVariable, Cond.selects "BranchConstants$Rewriting" yn_W_perform yn_W_perform, Cond.selects "BranchConstants$Code" yn_C_putAllOf yn_C_putAllOf, Cond.selects "BranchConstants$Code" yn_C_hasTarget yn_C_hasTarget, Cond.selects "BranchConstants$Rewriting" yn_W_keepWhatCanBeComeTo yn_W_keepWhatCanBeComeTo, Cond.selects "BranchConstants$Rewriting" yn_W_keep yn_W_keep, Cond.selects "BranchConstants$Rewriting" yn_W_dropJumpsToTheNext yn_W_dropJumpsToTheNext, Cond.selects "BranchConstants$Rewriting" yn_W_numberAnew yn_W_numberAnew, Cond.selects "BranchConstants$Rewriting" yn_W_moveToNewNumber yn_W_moveToNewNumber, Cond.selects "BranchConstants" yn_B_refuseMissingRewritten yn_B_refuseMissingRewritten, Cond.selects "BranchConstants" yn_B_refuseWrongSide yn_B_refuseWrongSide, Cond.selects "BranchConstants" yn_B_codeOf yn_B_codeOf, Cond.selects "BranchConstants$Code" yn_C_number yn_C_number, Cond.selects "BranchConstants" yn_B_runOf yn_B_runOf, Cond.selects "BranchConstants$Execution" yn_E_begin yn_E_begin, Cond.selects "BranchConstants$Execution" yn_E_goTo yn_E_goTo, Cond.selects "BranchConstants" yn_B_refuseUnstarted yn_B_refuseUnstarted, Cond.selects "BranchConstants$Execution" yn_E_advance yn_E_advance, Cond.selects "BranchConstants$Execution" yn_E_step yn_E_step, Cond.selects "BranchConstants$Execution" yn_E_assigned yn_E_assigned, Cond.selects "BranchConstantsModel" yn_M_refused yn_M_refused, Cond.selects "BranchConstantsModel" yn_M_put yn_M_put, Cond.selects "BranchConstantsModel" yn_M_changed yn_M_changed, Cond.selects "BranchConstantsModel" yn_M_isThere yn_M_isThere, Cond.selects "BranchConstantsModel" yn_M_analyse yn_M_analyse, Cond.selects "BranchConstantsModel" yn_M_goOn yn_M_goOn, Cond.selects "BranchConstantsModel" yn_M_come yn_M_come, Cond.selects "BranchConstantsModel" yn_M_know yn_M_know, Cond.selects "BranchConstantsModel" yn_M_pass yn_M_pass, Cond.selects "BranchConstantsModel" yn_M_fold yn_M_fold, Cond.selects "BranchConstantsModel" yn_M_thread yn_M_thread, Cond.selects "BranchConstantsModel" yn_M_goes yn_M_goes, Cond.selects "BranchConstantsModel" yn_M_drop yn_M_drop, Cond.selects "BranchConstantsModel" yn_M_mark yn_M_mark, Cond.selects "BranchConstantsModel" yn_M_nextStaying yn_M_nextStaying, Cond.selects "BranchConstantsModel" yn_M_number yn_M_number, Cond.selects "BranchConstantsModel" yn_M_step yn_M_step, Cond.selects "BranchConstantsModel" yn_M_isWrong yn_M_isWrong]
def wd_all : List Cond := wd_0 ++ (wd_1 ++ (wd_2 ++ (wd_3 ++ (wd_4 ++ (wd_5 ++ (wd_6))))))
theorem wg_0 : wd_0.all goodWord = true := by decide +kernel
theorem wg_1 : wd_1.all goodWord = true := by decide +kernel
theorem wg_2 : wd_2.all goodWord = true := by decide +kernel
theorem wg_3 : wd_3.all goodWord = true := by decide +kernel
theorem wg_4 : wd_4.all goodWord = true := by decide +kernel
theorem wg_5 : wd_5.all goodWord = true := by decide +kernel
theorem wg_6 : wd_6.all goodWord = true := by decide +kernel
theorem wd_good : wd_all.all goodWord = true := by
  simp only [wd_all, List.all_append, Bool.and_eq_true]
  exact ⟨wg_0, ⟨wg_1, ⟨wg_2, ⟨wg_3, ⟨wg_4, ⟨wg_5, wg_6⟩⟩⟩⟩⟩⟩
theorem wm_0 : Cond.initialized "BranchConstantsLaw" ∈ wd_all := List.mem_append_left _ (List.mem_of_getElem? (i := 0) rfl)
theorem wm_1 : Cond.initialized "BranchConstants" ∈ wd_all := List.mem_append_left _ (List.mem_of_getElem? (i := 1) rfl)
theorem wm_2 : Cond.initialized "BranchConstants$Code" ∈ wd_all := List.mem_append_left _ (List.mem_of_getElem? (i := 2) rfl)
theorem wm_3 : Cond.initialized "BranchConstants$Analysis" ∈ wd_all := List.mem_append_left _ (List.mem_of_getElem? (i := 3) rfl)
theorem wm_4 : Cond.initialized "BranchConstants$Rewriting" ∈ wd_all := List.mem_append_left _ (List.mem_of_getElem? (i := 4) rfl)
theorem wm_5 : Cond.initialized "BranchConstants$Execution" ∈ wd_all := List.mem_append_left _ (List.mem_of_getElem? (i := 5) rfl)
theorem wm_6 : Cond.initialized "BranchConstantsModel" ∈ wd_all := List.mem_append_left _ (List.mem_of_getElem? (i := 6) rfl)
theorem wm_7 : Cond.initialized "java/lang/Throwable" ∈ wd_all := List.mem_append_left _ (List.mem_of_getElem? (i := 7) rfl)
theorem wm_8 : Cond.initialized "java/lang/Exception" ∈ wd_all := List.mem_append_left _ (List.mem_of_getElem? (i := 8) rfl)
theorem wm_9 : Cond.initialized "java/lang/RuntimeException" ∈ wd_all := List.mem_append_left _ (List.mem_of_getElem? (i := 9) rfl)
theorem wm_10 : Cond.initialized "java/lang/IllegalArgumentException" ∈ wd_all := List.mem_append_left _ (List.mem_of_getElem? (i := 10) rfl)
theorem wm_11 : Cond.initialized "java/lang/IllegalStateException" ∈ wd_all := List.mem_append_left _ (List.mem_of_getElem? (i := 11) rfl)
theorem wm_12 : Cond.initialized "java/lang/IndexOutOfBoundsException" ∈ wd_all := List.mem_append_left _ (List.mem_of_getElem? (i := 12) rfl)
theorem wm_13 : Cond.initialized "java/util/Arrays" ∈ wd_all := List.mem_append_left _ (List.mem_of_getElem? (i := 13) rfl)
theorem wm_14 : Cond.initialized "java/lang/System" ∈ wd_all := List.mem_append_left _ (List.mem_of_getElem? (i := 14) rfl)
theorem wm_15 : Cond.classLink "BranchConstantsLaw" 8 "BranchConstants" ∈ wd_all := List.mem_append_left _ (List.mem_of_getElem? (i := 15) rfl)
theorem wm_16 : Cond.instantiable "BranchConstants" 8 ∈ wd_all := List.mem_append_left _ (List.mem_of_getElem? (i := 16) rfl)
theorem wm_17 : Cond.methodLink "BranchConstantsLaw" 58 yn_B_init ∈ wd_all := List.mem_append_left _ (List.mem_of_getElem? (i := 17) rfl)
theorem wm_18 : Cond.instanceMethod yn_B_init ∈ wd_all := List.mem_append_left _ (List.mem_of_getElem? (i := 18) rfl)
theorem wm_19 : Cond.code yn_B_init prog_1_method_1_code 1 none ∈ wd_all := List.mem_append_left _ (List.mem_of_getElem? (i := 19) rfl)
theorem wm_20 : Cond.methodLink "BranchConstants" 1 ⟨"java/lang/Object", "<init>", "()V"⟩ ∈ wd_all := List.mem_append_left _ (List.mem_of_getElem? (i := 20) rfl)
theorem wm_21 : Cond.instanceMethod ⟨"java/lang/Object", "<init>", "()V"⟩ ∈ wd_all := List.mem_append_left _ (List.mem_of_getElem? (i := 21) rfl)
theorem wm_22 : Cond.code ⟨"java/lang/Object", "<init>", "()V"⟩ object_method_1_code 1 none ∈ wd_all := List.mem_append_left _ (List.mem_of_getElem? (i := 22) rfl)
theorem wm_23 : Cond.classLink "BranchConstants" 7 "BranchConstants$Code" ∈ wd_all := List.mem_append_left _ (List.mem_of_getElem? (i := 23) rfl)
theorem wm_24 : Cond.instantiable "BranchConstants$Code" 5 ∈ wd_all := List.mem_append_left _ (List.mem_of_getElem? (i := 24) rfl)
theorem wm_25 : Cond.instanceMethod yn_C_init ∈ wd_all := List.mem_append_left _ (List.mem_of_getElem? (i := 25) rfl)
theorem wm_26 : Cond.code yn_C_init prog_3_method_1_code 1 none ∈ wd_all := List.mem_append_left _ (List.mem_of_getElem? (i := 26) rfl)
theorem wm_27 : Cond.methodLink "BranchConstants$Code" 3 ⟨"java/lang/Object", "<init>", "()V"⟩ ∈ wd_all := List.mem_append_left _ (List.mem_of_getElem? (i := 27) rfl)
theorem wm_28 : Cond.fieldLink "BranchConstants$Code" 9 "BranchConstants$Code" "kinds" "[I" ∈ wd_all := List.mem_append_left _ (List.mem_of_getElem? (i := 28) rfl)
theorem wm_29 : Cond.fieldLink "BranchConstants$Code" 15 "BranchConstants$Code" "ones" "[I" ∈ wd_all := List.mem_append_left _ (List.mem_of_getElem? (i := 29) rfl)
theorem wm_30 : Cond.fieldLink "BranchConstants$Code" 18 "BranchConstants$Code" "twos" "[I" ∈ wd_all := List.mem_append_left _ (List.mem_of_getElem? (i := 30) rfl)
theorem wm_31 : Cond.fieldLink "BranchConstants$Code" 21 "BranchConstants$Code" "threes" "[I" ∈ wd_all := List.mem_append_left _ (List.mem_of_getElem? (i := 31) rfl)
theorem wm_32 : Cond.fieldLink "BranchConstants$Code" 24 "BranchConstants$Code" "count" "I" ∈ wd_all := List.mem_append_left _ (List.mem_of_getElem? (i := 32) rfl)
theorem wm_33 : Cond.laysFinal "BranchConstants$Code" "BranchConstants$Code" "kinds" "[I" ∈ wd_all := List.mem_append_left _ (List.mem_of_getElem? (i := 33) rfl)
theorem wm_34 : Cond.laysFinal "BranchConstants$Code" "BranchConstants$Code" "ones" "[I" ∈ wd_all := List.mem_append_left _ (List.mem_of_getElem? (i := 34) rfl)
theorem wm_35 : Cond.laysFinal "BranchConstants$Code" "BranchConstants$Code" "twos" "[I" ∈ wd_all := List.mem_append_left _ (List.mem_of_getElem? (i := 35) rfl)
theorem wm_36 : Cond.laysFinal "BranchConstants$Code" "BranchConstants$Code" "threes" "[I" ∈ wd_all := List.mem_append_left _ (List.mem_of_getElem? (i := 36) rfl)
theorem wm_37 : Cond.lays "BranchConstants$Code" "BranchConstants$Code" "count" "I" ∈ wd_all := List.mem_append_left _ (List.mem_of_getElem? (i := 37) rfl)
theorem wm_38 : Cond.superclass "BranchConstants$Code" "java/lang/Object" ∈ wd_all := List.mem_append_left _ (List.mem_of_getElem? (i := 38) rfl)
theorem wm_39 : Cond.arrayClass FieldType.int ∈ wd_all := List.mem_append_left _ (List.mem_of_getElem? (i := 39) rfl)
theorem wm_40 : Cond.classLink "BranchConstants" 19 "BranchConstants$Analysis" ∈ wd_all := List.mem_append_left _ (List.mem_of_getElem? (i := 40) rfl)
theorem wm_41 : Cond.instantiable "BranchConstants$Analysis" 6 ∈ wd_all := List.mem_append_left _ (List.mem_of_getElem? (i := 41) rfl)
theorem wm_42 : Cond.instanceMethod yn_A_init ∈ wd_all := List.mem_append_left _ (List.mem_of_getElem? (i := 42) rfl)
theorem wm_43 : Cond.code yn_A_init prog_2_method_1_code 1 none ∈ wd_all := List.mem_append_left _ (List.mem_of_getElem? (i := 43) rfl)
theorem wm_44 : Cond.methodLink "BranchConstants$Analysis" 3 ⟨"java/lang/Object", "<init>", "()V"⟩ ∈ wd_all := List.mem_append_left _ (List.mem_of_getElem? (i := 44) rfl)
theorem wm_45 : Cond.fieldLink "BranchConstants$Analysis" 9 "BranchConstants$Analysis" "states" "[I" ∈ wd_all := List.mem_append_left _ (List.mem_of_getElem? (i := 45) rfl)
theorem wm_46 : Cond.fieldLink "BranchConstants$Analysis" 15 "BranchConstants$Analysis" "constants" "[I" ∈ wd_all := List.mem_append_left _ (List.mem_of_getElem? (i := 46) rfl)
theorem wm_47 : Cond.fieldLink "BranchConstants$Analysis" 18 "BranchConstants$Analysis" "isWaiting" "[Z" ∈ wd_all := List.mem_append_left _ (List.mem_of_getElem? (i := 47) rfl)
theorem wm_48 : Cond.fieldLink "BranchConstants$Analysis" 22 "BranchConstants$Analysis" "statesBehind" "[I" ∈ wd_all := List.mem_append_left _ (List.mem_of_getElem? (i := 48) rfl)
theorem wm_49 : Cond.fieldLink "BranchConstants$Analysis" 25 "BranchConstants$Analysis" "constantsBehind" "[I" ∈ wd_all := List.mem_append_left _ (List.mem_of_getElem? (i := 49) rfl)
theorem wm_50 : Cond.fieldLink "BranchConstants$Analysis" 68 "BranchConstants$Analysis" "result" "I" ∈ wd_all := List.mem_append_left _ (List.mem_of_getElem? (i := 50) rfl)
theorem wm_51 : Cond.laysFinal "BranchConstants$Analysis" "BranchConstants$Analysis" "states" "[I" ∈ wd_all := List.mem_append_left _ (List.mem_of_getElem? (i := 51) rfl)
theorem wm_52 : Cond.laysFinal "BranchConstants$Analysis" "BranchConstants$Analysis" "constants" "[I" ∈ wd_all := List.mem_append_left _ (List.mem_of_getElem? (i := 52) rfl)
theorem wm_53 : Cond.laysFinal "BranchConstants$Analysis" "BranchConstants$Analysis" "isWaiting" "[Z" ∈ wd_all := List.mem_append_left _ (List.mem_of_getElem? (i := 53) rfl)
theorem wm_54 : Cond.laysFinal "BranchConstants$Analysis" "BranchConstants$Analysis" "statesBehind" "[I" ∈ wd_all := List.mem_append_left _ (List.mem_of_getElem? (i := 54) rfl)
theorem wm_55 : Cond.laysFinal "BranchConstants$Analysis" "BranchConstants$Analysis" "constantsBehind" "[I" ∈ wd_all := List.mem_append_left _ (List.mem_of_getElem? (i := 55) rfl)
theorem wm_56 : Cond.lays "BranchConstants$Analysis" "BranchConstants$Analysis" "result" "I" ∈ wd_all := List.mem_append_left _ (List.mem_of_getElem? (i := 56) rfl)
theorem wm_57 : Cond.superclass "BranchConstants$Analysis" "java/lang/Object" ∈ wd_all := List.mem_append_left _ (List.mem_of_getElem? (i := 57) rfl)
theorem wm_58 : Cond.arrayClass FieldType.boolean ∈ wd_all := List.mem_append_left _ (List.mem_of_getElem? (i := 58) rfl)
theorem wm_59 : Cond.classLink "BranchConstants" 26 "BranchConstants$Rewriting" ∈ wd_all := List.mem_append_left _ (List.mem_of_getElem? (i := 59) rfl)
theorem wm_60 : Cond.instantiable "BranchConstants$Rewriting" 4 ∈ wd_all := List.mem_append_left _ (List.mem_of_getElem? (i := 60) rfl)
theorem wm_61 : Cond.instanceMethod yn_W_init ∈ wd_all := List.mem_append_left _ (List.mem_of_getElem? (i := 61) rfl)
theorem wm_62 : Cond.code yn_W_init prog_5_method_1_code 1 none ∈ wd_all := List.mem_append_left _ (List.mem_of_getElem? (i := 62) rfl)
theorem wm_63 : Cond.methodLink "BranchConstants$Rewriting" 3 ⟨"java/lang/Object", "<init>", "()V"⟩ ∈ wd_all := List.mem_append_left _ (List.mem_of_getElem? (i := 63) rfl)
theorem wm_64 : Cond.fieldLink "BranchConstants$Rewriting" 9 "BranchConstants$Rewriting" "stays" "[Z" ∈ wd_all := List.mem_append_left _ (List.mem_of_getElem? (i := 64) rfl)
theorem wm_65 : Cond.fieldLink "BranchConstants$Rewriting" 15 "BranchConstants$Rewriting" "queue" "[I" ∈ wd_all := List.mem_append_left _ (List.mem_of_getElem? (i := 65) rfl)
theorem wm_66 : Cond.fieldLink "BranchConstants$Rewriting" 19 "BranchConstants$Rewriting" "newNumbers" "[I" ∈ wd_all := List.mem_append_left _ (List.mem_of_getElem? (i := 66) rfl)
theorem wm_67 : Cond.fieldLink "BranchConstants$Rewriting" 94 "BranchConstants$Rewriting" "queued" "I" ∈ wd_all := List.mem_append_left _ (List.mem_of_getElem? (i := 67) rfl)
theorem wm_68 : Cond.laysFinal "BranchConstants$Rewriting" "BranchConstants$Rewriting" "stays" "[Z" ∈ wd_all := List.mem_append_left _ (List.mem_of_getElem? (i := 68) rfl)
theorem wm_69 : Cond.laysFinal "BranchConstants$Rewriting" "BranchConstants$Rewriting" "queue" "[I" ∈ wd_all := List.mem_append_left _ (List.mem_of_getElem? (i := 69) rfl)
theorem wm_70 : Cond.laysFinal "BranchConstants$Rewriting" "BranchConstants$Rewriting" "newNumbers" "[I" ∈ wd_all := List.mem_append_left _ (List.mem_of_getElem? (i := 70) rfl)
theorem wm_71 : Cond.lays "BranchConstants$Rewriting" "BranchConstants$Rewriting" "queued" "I" ∈ wd_all := List.mem_append_left _ (List.mem_of_getElem? (i := 71) rfl)
theorem wm_72 : Cond.superclass "BranchConstants$Rewriting" "java/lang/Object" ∈ wd_all := List.mem_append_left _ (List.mem_of_getElem? (i := 72) rfl)
theorem wm_73 : Cond.classLink "BranchConstants" 33 "BranchConstants$Execution" ∈ wd_all := List.mem_append_left _ (List.mem_of_getElem? (i := 73) rfl)
theorem wm_74 : Cond.instantiable "BranchConstants$Execution" 4 ∈ wd_all := List.mem_append_left _ (List.mem_of_getElem? (i := 74) rfl)
theorem wm_75 : Cond.instanceMethod yn_E_init ∈ wd_all := List.mem_append_left _ (List.mem_of_getElem? (i := 75) rfl)
theorem wm_76 : Cond.code yn_E_init prog_4_method_1_code 1 none ∈ wd_all := List.mem_append_left _ (List.mem_of_getElem? (i := 76) rfl)
theorem wm_77 : Cond.methodLink "BranchConstants$Execution" 3 ⟨"java/lang/Object", "<init>", "()V"⟩ ∈ wd_all := List.mem_append_left _ (List.mem_of_getElem? (i := 77) rfl)
theorem wm_78 : Cond.fieldLink "BranchConstants$Execution" 9 "BranchConstants$Execution" "values" "[I" ∈ wd_all := List.mem_append_left _ (List.mem_of_getElem? (i := 78) rfl)
theorem wm_79 : Cond.fieldLink "BranchConstants$Execution" 33 "BranchConstants$Execution" "place" "I" ∈ wd_all := List.mem_append_left _ (List.mem_of_getElem? (i := 79) rfl)
theorem wm_80 : Cond.fieldLink "BranchConstants$Execution" 21 "BranchConstants$Execution" "steps" "I" ∈ wd_all := List.mem_append_left _ (List.mem_of_getElem? (i := 80) rfl)
theorem wm_81 : Cond.fieldLink "BranchConstants$Execution" 25 "BranchConstants$Execution" "isStarted" "Z" ∈ wd_all := List.mem_append_left _ (List.mem_of_getElem? (i := 81) rfl)
theorem wm_82 : Cond.laysFinal "BranchConstants$Execution" "BranchConstants$Execution" "values" "[I" ∈ wd_all := List.mem_append_left _ (List.mem_of_getElem? (i := 82) rfl)
theorem wm_83 : Cond.lays "BranchConstants$Execution" "BranchConstants$Execution" "place" "I" ∈ wd_all := List.mem_append_left _ (List.mem_of_getElem? (i := 83) rfl)
theorem wm_84 : Cond.lays "BranchConstants$Execution" "BranchConstants$Execution" "steps" "I" ∈ wd_all := List.mem_append_left _ (List.mem_of_getElem? (i := 84) rfl)
theorem wm_85 : Cond.lays "BranchConstants$Execution" "BranchConstants$Execution" "isStarted" "Z" ∈ wd_all := List.mem_append_left _ (List.mem_of_getElem? (i := 85) rfl)
theorem wm_86 : Cond.superclass "BranchConstants$Execution" "java/lang/Object" ∈ wd_all := List.mem_append_left _ (List.mem_of_getElem? (i := 86) rfl)
theorem wm_87 : Cond.fieldLink "BranchConstants" 10 "BranchConstants" "program" "LBranchConstants$Code;" ∈ wd_all := List.mem_append_left _ (List.mem_of_getElem? (i := 87) rfl)
theorem wm_88 : Cond.fieldLink "BranchConstants" 16 "BranchConstants" "rewritten" "LBranchConstants$Code;" ∈ wd_all := List.mem_append_left _ (List.mem_of_getElem? (i := 88) rfl)
theorem wm_89 : Cond.fieldLink "BranchConstants" 22 "BranchConstants" "analysis" "LBranchConstants$Analysis;" ∈ wd_all := List.mem_append_left _ (List.mem_of_getElem? (i := 89) rfl)
theorem wm_90 : Cond.fieldLink "BranchConstants" 29 "BranchConstants" "rewriting" "LBranchConstants$Rewriting;" ∈ wd_all := List.mem_append_left _ (List.mem_of_getElem? (i := 90) rfl)
theorem wm_91 : Cond.fieldLink "BranchConstants" 36 "BranchConstants" "programRun" "LBranchConstants$Execution;" ∈ wd_all := List.mem_append_left _ (List.mem_of_getElem? (i := 91) rfl)
theorem wm_92 : Cond.fieldLink "BranchConstants" 40 "BranchConstants" "rewrittenRun" "LBranchConstants$Execution;" ∈ wd_all := List.mem_append_left _ (List.mem_of_getElem? (i := 92) rfl)
theorem wm_93 : Cond.fieldLink "BranchConstants" 154 "BranchConstants" "isAnalysed" "Z" ∈ wd_all := List.mem_append_left _ (List.mem_of_getElem? (i := 93) rfl)
theorem wm_94 : Cond.fieldLink "BranchConstants" 100 "BranchConstants" "isRewritten" "Z" ∈ wd_all := List.mem_append_left _ (List.mem_of_getElem? (i := 94) rfl)
theorem wm_95 : Cond.laysFinal "BranchConstants" "BranchConstants" "program" "LBranchConstants$Code;" ∈ wd_all := List.mem_append_left _ (List.mem_of_getElem? (i := 95) rfl)
theorem wm_96 : Cond.laysFinal "BranchConstants" "BranchConstants" "rewritten" "LBranchConstants$Code;" ∈ wd_all := List.mem_append_left _ (List.mem_of_getElem? (i := 96) rfl)
theorem wm_97 : Cond.laysFinal "BranchConstants" "BranchConstants" "analysis" "LBranchConstants$Analysis;" ∈ wd_all := List.mem_append_left _ (List.mem_of_getElem? (i := 97) rfl)
theorem wm_98 : Cond.laysFinal "BranchConstants" "BranchConstants" "rewriting" "LBranchConstants$Rewriting;" ∈ wd_all := List.mem_append_left _ (List.mem_of_getElem? (i := 98) rfl)
theorem wm_99 : Cond.laysFinal "BranchConstants" "BranchConstants" "programRun" "LBranchConstants$Execution;" ∈ wd_all := List.mem_append_left _ (List.mem_of_getElem? (i := 99) rfl)
theorem wm_100 : Cond.laysFinal "BranchConstants" "BranchConstants" "rewrittenRun" "LBranchConstants$Execution;" ∈ wd_all := List.mem_append_right _ (List.mem_append_left _ (List.mem_of_getElem? (i := 0) rfl))
theorem wm_101 : Cond.lays "BranchConstants" "BranchConstants" "isAnalysed" "Z" ∈ wd_all := List.mem_append_right _ (List.mem_append_left _ (List.mem_of_getElem? (i := 1) rfl))
theorem wm_102 : Cond.lays "BranchConstants" "BranchConstants" "isRewritten" "Z" ∈ wd_all := List.mem_append_right _ (List.mem_append_left _ (List.mem_of_getElem? (i := 2) rfl))
theorem wm_103 : Cond.superclass "BranchConstants" "java/lang/Object" ∈ wd_all := List.mem_append_right _ (List.mem_append_left _ (List.mem_of_getElem? (i := 3) rfl))
theorem wm_104 : Cond.methodLink "BranchConstantsLaw" 75 yn_B_clear ∈ wd_all := List.mem_append_right _ (List.mem_append_left _ (List.mem_of_getElem? (i := 4) rfl))
theorem wm_105 : Cond.instanceMethod yn_B_clear ∈ wd_all := List.mem_append_right _ (List.mem_append_left _ (List.mem_of_getElem? (i := 5) rfl))
theorem wm_106 : Cond.selects "BranchConstants" yn_B_clear yn_B_clear ∈ wd_all := List.mem_append_right _ (List.mem_append_left _ (List.mem_of_getElem? (i := 6) rfl))
theorem wm_107 : Cond.code yn_B_clear prog_1_method_4_code 2 (some FieldType.int) ∈ wd_all := List.mem_append_right _ (List.mem_append_left _ (List.mem_of_getElem? (i := 7) rfl))
theorem wm_108 : Cond.methodLink "BranchConstants" 62 yn_B_forgetWhatFollowed ∈ wd_all := List.mem_append_right _ (List.mem_append_left _ (List.mem_of_getElem? (i := 8) rfl))
theorem wm_109 : Cond.instanceMethod yn_B_forgetWhatFollowed ∈ wd_all := List.mem_append_right _ (List.mem_append_left _ (List.mem_of_getElem? (i := 9) rfl))
theorem wm_110 : Cond.code yn_B_forgetWhatFollowed prog_1_method_16_code 1 none ∈ wd_all := List.mem_append_right _ (List.mem_append_left _ (List.mem_of_getElem? (i := 10) rfl))
theorem wm_111 : Cond.methodLink "BranchConstantsLaw" 83 yn_B_reachedAll ∈ wd_all := List.mem_append_right _ (List.mem_append_left _ (List.mem_of_getElem? (i := 11) rfl))
theorem wm_112 : Cond.instanceMethod yn_B_reachedAll ∈ wd_all := List.mem_append_right _ (List.mem_append_left _ (List.mem_of_getElem? (i := 12) rfl))
theorem wm_113 : Cond.selects "BranchConstants" yn_B_reachedAll yn_B_reachedAll ∈ wd_all := List.mem_append_right _ (List.mem_append_left _ (List.mem_of_getElem? (i := 13) rfl))
theorem wm_114 : Cond.code yn_B_reachedAll prog_1_method_6_code 1 (some FieldType.int) ∈ wd_all := List.mem_append_right _ (List.mem_append_left _ (List.mem_of_getElem? (i := 14) rfl))
theorem wm_115 : Cond.methodLink "BranchConstants" 69 yn_B_analyseOnce ∈ wd_all := List.mem_append_right _ (List.mem_append_left _ (List.mem_of_getElem? (i := 15) rfl))
theorem wm_116 : Cond.instanceMethod yn_B_analyseOnce ∈ wd_all := List.mem_append_right _ (List.mem_append_left _ (List.mem_of_getElem? (i := 16) rfl))
theorem wm_117 : Cond.code yn_B_analyseOnce prog_1_method_17_code 1 none ∈ wd_all := List.mem_append_right _ (List.mem_append_left _ (List.mem_of_getElem? (i := 17) rfl))
theorem wm_118 : Cond.instanceMethod yn_A_perform ∈ wd_all := List.mem_append_right _ (List.mem_append_left _ (List.mem_of_getElem? (i := 18) rfl))
theorem wm_119 : Cond.code yn_A_perform prog_2_method_2_code 5 none ∈ wd_all := List.mem_append_right _ (List.mem_append_left _ (List.mem_of_getElem? (i := 19) rfl))
theorem wm_120 : Cond.methodLink "BranchConstants$Analysis" 28 yn_J_fill ∈ wd_all := List.mem_append_right _ (List.mem_append_left _ (List.mem_of_getElem? (i := 20) rfl))
theorem wm_121 : Cond.static yn_J_fill ∈ wd_all := List.mem_append_right _ (List.mem_append_left _ (List.mem_of_getElem? (i := 21) rfl))
theorem wm_122 : Cond.code yn_J_fill prog_16_method_103_code 4 none ∈ wd_all := List.mem_append_right _ (List.mem_append_left _ (List.mem_of_getElem? (i := 22) rfl))
theorem wm_123 : Cond.methodLink "BranchConstants$Analysis" 34 yn_A_comeTo ∈ wd_all := List.mem_append_right _ (List.mem_append_left _ (List.mem_of_getElem? (i := 23) rfl))
theorem wm_124 : Cond.instanceMethod yn_A_comeTo ∈ wd_all := List.mem_append_right _ (List.mem_append_left _ (List.mem_of_getElem? (i := 24) rfl))
theorem wm_125 : Cond.code yn_A_comeTo prog_2_method_5_code 5 none ∈ wd_all := List.mem_append_right _ (List.mem_append_left _ (List.mem_of_getElem? (i := 25) rfl))
theorem wm_126 : Cond.static yn_B_cell ∈ wd_all := List.mem_append_right _ (List.mem_append_left _ (List.mem_of_getElem? (i := 26) rfl))
theorem wm_127 : Cond.code yn_B_cell prog_1_method_29_code 2 (some FieldType.int) ∈ wd_all := List.mem_append_right _ (List.mem_append_left _ (List.mem_of_getElem? (i := 27) rfl))
theorem wm_128 : Cond.methodLink "BranchConstants$Analysis" 96 yn_A_isBehind ∈ wd_all := List.mem_append_right _ (List.mem_append_left _ (List.mem_of_getElem? (i := 28) rfl))
theorem wm_129 : Cond.instanceMethod yn_A_isBehind ∈ wd_all := List.mem_append_right _ (List.mem_append_left _ (List.mem_of_getElem? (i := 29) rfl))
theorem wm_130 : Cond.code yn_A_isBehind prog_2_method_6_code 3 (some FieldType.boolean) ∈ wd_all := List.mem_append_right _ (List.mem_append_left _ (List.mem_of_getElem? (i := 30) rfl))
theorem wm_131 : Cond.methodLink "BranchConstants$Analysis" 44 yn_A_goOnFrom ∈ wd_all := List.mem_append_right _ (List.mem_append_left _ (List.mem_of_getElem? (i := 31) rfl))
theorem wm_132 : Cond.instanceMethod yn_A_goOnFrom ∈ wd_all := List.mem_append_right _ (List.mem_append_left _ (List.mem_of_getElem? (i := 32) rfl))
theorem wm_133 : Cond.code yn_A_goOnFrom prog_2_method_3_code 3 none ∈ wd_all := List.mem_append_right _ (List.mem_append_left _ (List.mem_of_getElem? (i := 33) rfl))
theorem wm_134 : Cond.methodLink "BranchConstants$Analysis" 51 ⟨"java/lang/System", "arraycopy", "(Ljava/lang/Object;ILjava/lang/Object;II)V"⟩ ∈ wd_all := List.mem_append_right _ (List.mem_append_left _ (List.mem_of_getElem? (i := 34) rfl))
theorem wm_135 : Cond.static ⟨"java/lang/System", "arraycopy", "(Ljava/lang/Object;ILjava/lang/Object;II)V"⟩ ∈ wd_all := List.mem_append_right _ (List.mem_append_left _ (List.mem_of_getElem? (i := 35) rfl))
theorem wm_136 : Cond.native ⟨"java/lang/System", "arraycopy", "(Ljava/lang/Object;ILjava/lang/Object;II)V"⟩ ∈ wd_all := List.mem_append_right _ (List.mem_append_left _ (List.mem_of_getElem? (i := 36) rfl))
theorem wm_137 : Cond.instanceMethod yn_C_assigns ∈ wd_all := List.mem_append_right _ (List.mem_append_left _ (List.mem_of_getElem? (i := 37) rfl))
theorem wm_138 : Cond.code yn_C_assigns prog_3_method_5_code 2 (some FieldType.boolean) ∈ wd_all := List.mem_append_right _ (List.mem_append_left _ (List.mem_of_getElem? (i := 38) rfl))
theorem wm_139 : Cond.methodLink "BranchConstants$Analysis" 61 yn_A_hasConstantResult ∈ wd_all := List.mem_append_right _ (List.mem_append_left _ (List.mem_of_getElem? (i := 39) rfl))
theorem wm_140 : Cond.instanceMethod yn_A_hasConstantResult ∈ wd_all := List.mem_append_right _ (List.mem_append_left _ (List.mem_of_getElem? (i := 40) rfl))
theorem wm_141 : Cond.code yn_A_hasConstantResult prog_2_method_9_code 6 (some FieldType.boolean) ∈ wd_all := List.mem_append_right _ (List.mem_append_left _ (List.mem_of_getElem? (i := 41) rfl))
theorem wm_142 : Cond.methodLink "BranchConstants$Analysis" 106 yn_A_isConstantZero ∈ wd_all := List.mem_append_right _ (List.mem_append_left _ (List.mem_of_getElem? (i := 42) rfl))
theorem wm_143 : Cond.instanceMethod yn_A_isConstantZero ∈ wd_all := List.mem_append_right _ (List.mem_append_left _ (List.mem_of_getElem? (i := 43) rfl))
theorem wm_144 : Cond.code yn_A_isConstantZero prog_2_method_10_code 2 (some FieldType.boolean) ∈ wd_all := List.mem_append_right _ (List.mem_append_left _ (List.mem_of_getElem? (i := 44) rfl))
theorem wm_145 : Cond.static yn_B_calculate ∈ wd_all := List.mem_append_right _ (List.mem_append_left _ (List.mem_of_getElem? (i := 45) rfl))
theorem wm_146 : Cond.code yn_B_calculate prog_1_method_30_code 3 (some FieldType.int) ∈ wd_all := List.mem_append_right _ (List.mem_append_left _ (List.mem_of_getElem? (i := 46) rfl))
theorem wm_147 : Cond.methodLink "BranchConstants$Analysis" 71 yn_A_setConstantBehind ∈ wd_all := List.mem_append_right _ (List.mem_append_left _ (List.mem_of_getElem? (i := 47) rfl))
theorem wm_148 : Cond.instanceMethod yn_A_setConstantBehind ∈ wd_all := List.mem_append_right _ (List.mem_append_left _ (List.mem_of_getElem? (i := 48) rfl))
theorem wm_149 : Cond.code yn_A_setConstantBehind prog_2_method_7_code 3 none ∈ wd_all := List.mem_append_right _ (List.mem_append_left _ (List.mem_of_getElem? (i := 49) rfl))
theorem wm_150 : Cond.methodLink "BranchConstants$Analysis" 75 yn_A_setVaryingBehind ∈ wd_all := List.mem_append_right _ (List.mem_append_left _ (List.mem_of_getElem? (i := 50) rfl))
theorem wm_151 : Cond.instanceMethod yn_A_setVaryingBehind ∈ wd_all := List.mem_append_right _ (List.mem_append_left _ (List.mem_of_getElem? (i := 51) rfl))
theorem wm_152 : Cond.code yn_A_setVaryingBehind prog_2_method_8_code 2 none ∈ wd_all := List.mem_append_right _ (List.mem_append_left _ (List.mem_of_getElem? (i := 52) rfl))
theorem wm_153 : Cond.instanceMethod yn_C_target ∈ wd_all := List.mem_append_right _ (List.mem_append_left _ (List.mem_of_getElem? (i := 53) rfl))
theorem wm_154 : Cond.code yn_C_target prog_3_method_7_code 2 (some FieldType.int) ∈ wd_all := List.mem_append_right _ (List.mem_append_left _ (List.mem_of_getElem? (i := 54) rfl))
theorem wm_155 : Cond.methodLink "BranchConstants$Analysis" 86 yn_A_goOnFromZero ∈ wd_all := List.mem_append_right _ (List.mem_append_left _ (List.mem_of_getElem? (i := 55) rfl))
theorem wm_156 : Cond.instanceMethod yn_A_goOnFromZero ∈ wd_all := List.mem_append_right _ (List.mem_append_left _ (List.mem_of_getElem? (i := 56) rfl))
theorem wm_157 : Cond.code yn_A_goOnFromZero prog_2_method_4_code 3 none ∈ wd_all := List.mem_append_right _ (List.mem_append_left _ (List.mem_of_getElem? (i := 57) rfl))
theorem wm_158 : Cond.methodLink "BranchConstants$Analysis" 89 yn_A_hasConstantTest ∈ wd_all := List.mem_append_right _ (List.mem_append_left _ (List.mem_of_getElem? (i := 58) rfl))
theorem wm_159 : Cond.instanceMethod yn_A_hasConstantTest ∈ wd_all := List.mem_append_right _ (List.mem_append_left _ (List.mem_of_getElem? (i := 59) rfl))
theorem wm_160 : Cond.code yn_A_hasConstantTest prog_2_method_11_code 3 (some FieldType.boolean) ∈ wd_all := List.mem_append_right _ (List.mem_append_left _ (List.mem_of_getElem? (i := 60) rfl))
theorem wm_161 : Cond.methodLink "BranchConstants$Analysis" 92 yn_A_wayOfConstantTest ∈ wd_all := List.mem_append_right _ (List.mem_append_left _ (List.mem_of_getElem? (i := 61) rfl))
theorem wm_162 : Cond.instanceMethod yn_A_wayOfConstantTest ∈ wd_all := List.mem_append_right _ (List.mem_append_left _ (List.mem_of_getElem? (i := 62) rfl))
theorem wm_163 : Cond.code yn_A_wayOfConstantTest prog_2_method_12_code 3 (some FieldType.int) ∈ wd_all := List.mem_append_right _ (List.mem_append_left _ (List.mem_of_getElem? (i := 63) rfl))
theorem wm_164 : Cond.instanceMethod yn_A_countReached ∈ wd_all := List.mem_append_right _ (List.mem_append_left _ (List.mem_of_getElem? (i := 64) rfl))
theorem wm_165 : Cond.code yn_A_countReached prog_2_method_14_code 4 (some FieldType.int) ∈ wd_all := List.mem_append_right _ (List.mem_append_left _ (List.mem_of_getElem? (i := 65) rfl))
theorem wm_166 : Cond.methodLink "BranchConstants$Analysis" 113 yn_A_isReached ∈ wd_all := List.mem_append_right _ (List.mem_append_left _ (List.mem_of_getElem? (i := 66) rfl))
theorem wm_167 : Cond.instanceMethod yn_A_isReached ∈ wd_all := List.mem_append_right _ (List.mem_append_left _ (List.mem_of_getElem? (i := 67) rfl))
theorem wm_168 : Cond.code yn_A_isReached prog_2_method_13_code 2 (some FieldType.boolean) ∈ wd_all := List.mem_append_right _ (List.mem_append_left _ (List.mem_of_getElem? (i := 68) rfl))
theorem wm_169 : Cond.methodLink "BranchConstantsLaw" 62 yn_L_add ∈ wd_all := List.mem_append_right _ (List.mem_append_left _ (List.mem_of_getElem? (i := 69) rfl))
theorem wm_170 : Cond.static yn_L_add ∈ wd_all := List.mem_append_right _ (List.mem_append_left _ (List.mem_of_getElem? (i := 70) rfl))
theorem wm_171 : Cond.codeWith yn_L_add method_3_code 7 (some FieldType.int) [(0, 14, 17, 13), (0, 14, 21, 15)] ∈ wd_all := List.mem_append_right _ (List.mem_append_left _ (List.mem_of_getElem? (i := 71) rfl))
theorem wm_172 : Cond.classLink "BranchConstantsLaw" 13 "java/lang/IllegalArgumentException" ∈ wd_all := List.mem_append_right _ (List.mem_append_left _ (List.mem_of_getElem? (i := 72) rfl))
theorem wm_173 : Cond.classLink "BranchConstantsLaw" 15 "java/lang/IllegalStateException" ∈ wd_all := List.mem_append_right _ (List.mem_append_left _ (List.mem_of_getElem? (i := 73) rfl))
theorem wm_174 : Cond.methodLink "BranchConstantsLaw" 7 yn_B_add ∈ wd_all := List.mem_append_right _ (List.mem_append_left _ (List.mem_of_getElem? (i := 74) rfl))
theorem wm_175 : Cond.instanceMethod yn_B_add ∈ wd_all := List.mem_append_right _ (List.mem_append_left _ (List.mem_of_getElem? (i := 75) rfl))
theorem wm_176 : Cond.selects "BranchConstants" yn_B_add yn_B_add ∈ wd_all := List.mem_append_right _ (List.mem_append_left _ (List.mem_of_getElem? (i := 76) rfl))
theorem wm_177 : Cond.code yn_B_add prog_1_method_2_code 5 (some FieldType.int) ∈ wd_all := List.mem_append_right _ (List.mem_append_left _ (List.mem_of_getElem? (i := 77) rfl))
theorem wm_178 : Cond.methodLink "BranchConstants" 43 yn_B_refuseWrongInstruction ∈ wd_all := List.mem_append_right _ (List.mem_append_left _ (List.mem_of_getElem? (i := 78) rfl))
theorem wm_179 : Cond.instanceMethod yn_B_refuseWrongInstruction ∈ wd_all := List.mem_append_right _ (List.mem_append_left _ (List.mem_of_getElem? (i := 79) rfl))
theorem wm_180 : Cond.code yn_B_refuseWrongInstruction prog_1_method_20_code 5 none ∈ wd_all := List.mem_append_right _ (List.mem_append_left _ (List.mem_of_getElem? (i := 80) rfl))
theorem wm_181 : Cond.methodLink "BranchConstants" 160 yn_B_isInstruction ∈ wd_all := List.mem_append_right _ (List.mem_append_left _ (List.mem_of_getElem? (i := 81) rfl))
theorem wm_182 : Cond.static yn_B_isInstruction ∈ wd_all := List.mem_append_right _ (List.mem_append_left _ (List.mem_of_getElem? (i := 82) rfl))
theorem wm_183 : Cond.code yn_B_isInstruction prog_1_method_26_code 4 (some FieldType.boolean) ∈ wd_all := List.mem_append_right _ (List.mem_append_left _ (List.mem_of_getElem? (i := 83) rfl))
theorem wm_184 : Cond.methodLink "BranchConstants" 168 yn_B_isVariable ∈ wd_all := List.mem_append_right _ (List.mem_append_left _ (List.mem_of_getElem? (i := 84) rfl))
theorem wm_185 : Cond.static yn_B_isVariable ∈ wd_all := List.mem_append_right _ (List.mem_append_left _ (List.mem_of_getElem? (i := 85) rfl))
theorem wm_186 : Cond.code yn_B_isVariable prog_1_method_27_code 1 (some FieldType.boolean) ∈ wd_all := List.mem_append_right _ (List.mem_append_left _ (List.mem_of_getElem? (i := 86) rfl))
theorem wm_187 : Cond.methodLink "BranchConstants" 179 yn_B_isTarget ∈ wd_all := List.mem_append_right _ (List.mem_append_left _ (List.mem_of_getElem? (i := 87) rfl))
theorem wm_188 : Cond.static yn_B_isTarget ∈ wd_all := List.mem_append_right _ (List.mem_append_left _ (List.mem_of_getElem? (i := 88) rfl))
theorem wm_189 : Cond.code yn_B_isTarget prog_1_method_28_code 1 (some FieldType.boolean) ∈ wd_all := List.mem_append_right _ (List.mem_append_left _ (List.mem_of_getElem? (i := 89) rfl))
theorem wm_190 : Cond.classLink "BranchConstants" 133 "java/lang/IllegalArgumentException" ∈ wd_all := List.mem_append_right _ (List.mem_append_left _ (List.mem_of_getElem? (i := 90) rfl))
theorem wm_191 : Cond.instantiable "java/lang/IllegalArgumentException" 6 ∈ wd_all := List.mem_append_right _ (List.mem_append_left _ (List.mem_of_getElem? (i := 91) rfl))
theorem wm_192 : Cond.selects "java/lang/IllegalArgumentException" ⟨"java/lang/Throwable", "fillInStackTrace", "(I)Ljava/lang/Throwable;"⟩ ⟨"java/lang/Throwable", "fillInStackTrace", "(I)Ljava/lang/Throwable;"⟩ ∈ wd_all := List.mem_append_right _ (List.mem_append_left _ (List.mem_of_getElem? (i := 92) rfl))
theorem wm_193 : Cond.selects "java/lang/IllegalArgumentException" ⟨"java/lang/Throwable", "fillInStackTrace", "()Ljava/lang/Throwable;"⟩ ⟨"java/lang/Throwable", "fillInStackTrace", "()Ljava/lang/Throwable;"⟩ ∈ wd_all := List.mem_append_right _ (List.mem_append_left _ (List.mem_of_getElem? (i := 93) rfl))
theorem wm_194 : Cond.lays "java/lang/IllegalArgumentException" "java/lang/Throwable" "cause" "Ljava/lang/Throwable;" ∈ wd_all := List.mem_append_right _ (List.mem_append_left _ (List.mem_of_getElem? (i := 94) rfl))
theorem wm_195 : Cond.lays "java/lang/Throwable" "java/lang/Throwable" "cause" "Ljava/lang/Throwable;" ∈ wd_all := List.mem_append_right _ (List.mem_append_left _ (List.mem_of_getElem? (i := 95) rfl))
theorem wm_196 : Cond.lays "java/lang/IllegalArgumentException" "java/lang/Throwable" "stackTrace" "[Ljava/lang/StackTraceElement;" ∈ wd_all := List.mem_append_right _ (List.mem_append_left _ (List.mem_of_getElem? (i := 96) rfl))
theorem wm_197 : Cond.lays "java/lang/Throwable" "java/lang/Throwable" "stackTrace" "[Ljava/lang/StackTraceElement;" ∈ wd_all := List.mem_append_right _ (List.mem_append_left _ (List.mem_of_getElem? (i := 97) rfl))
theorem wm_198 : Cond.lays "java/lang/IllegalArgumentException" "java/lang/Throwable" "suppressedExceptions" "Ljava/util/List;" ∈ wd_all := List.mem_append_right _ (List.mem_append_left _ (List.mem_of_getElem? (i := 98) rfl))
theorem wm_199 : Cond.lays "java/lang/Throwable" "java/lang/Throwable" "suppressedExceptions" "Ljava/util/List;" ∈ wd_all := List.mem_append_right _ (List.mem_append_left _ (List.mem_of_getElem? (i := 99) rfl))
theorem wm_200 : Cond.lays "java/lang/IllegalArgumentException" "java/lang/Throwable" "detailMessage" "Ljava/lang/String;" ∈ wd_all := List.mem_append_right _ (List.mem_append_right _ (List.mem_append_left _ (List.mem_of_getElem? (i := 0) rfl)))
theorem wm_201 : Cond.lays "java/lang/Throwable" "java/lang/Throwable" "detailMessage" "Ljava/lang/String;" ∈ wd_all := List.mem_append_right _ (List.mem_append_right _ (List.mem_append_left _ (List.mem_of_getElem? (i := 1) rfl)))
theorem wm_202 : Cond.lays "java/lang/IllegalArgumentException" "java/lang/Throwable" "backtrace" "Ljava/lang/Object;" ∈ wd_all := List.mem_append_right _ (List.mem_append_right _ (List.mem_append_left _ (List.mem_of_getElem? (i := 2) rfl)))
theorem wm_203 : Cond.lays "java/lang/Throwable" "java/lang/Throwable" "backtrace" "Ljava/lang/Object;" ∈ wd_all := List.mem_append_right _ (List.mem_append_right _ (List.mem_append_left _ (List.mem_of_getElem? (i := 3) rfl)))
theorem wm_204 : Cond.fieldLink "java/lang/Throwable" 198 "java/lang/Throwable" "backtrace" "Ljava/lang/Object;" ∈ wd_all := List.mem_append_right _ (List.mem_append_right _ (List.mem_append_left _ (List.mem_of_getElem? (i := 4) rfl)))
theorem wm_205 : Cond.superclass "java/lang/Throwable" "java/lang/Object" ∈ wd_all := List.mem_append_right _ (List.mem_append_right _ (List.mem_append_left _ (List.mem_of_getElem? (i := 5) rfl)))
theorem wm_206 : Cond.instanceMethod ⟨"java/lang/Throwable", "<init>", "()V"⟩ ∈ wd_all := List.mem_append_right _ (List.mem_append_right _ (List.mem_append_left _ (List.mem_of_getElem? (i := 6) rfl)))
theorem wm_207 : Cond.code ⟨"java/lang/Throwable", "<init>", "()V"⟩ prog_15_method_1_code 1 none ∈ wd_all := List.mem_append_right _ (List.mem_append_right _ (List.mem_append_left _ (List.mem_of_getElem? (i := 7) rfl)))
theorem wm_208 : Cond.methodLink "java/lang/Throwable" 1 ⟨"java/lang/Object", "<init>", "()V"⟩ ∈ wd_all := List.mem_append_right _ (List.mem_append_right _ (List.mem_append_left _ (List.mem_of_getElem? (i := 8) rfl)))
theorem wm_209 : Cond.fieldLink "java/lang/Throwable" 13 "java/lang/Throwable" "UNASSIGNED_STACK" "[Ljava/lang/StackTraceElement;" ∈ wd_all := List.mem_append_right _ (List.mem_append_right _ (List.mem_append_left _ (List.mem_of_getElem? (i := 9) rfl)))
theorem wm_210 : Cond.fieldLink "java/lang/Throwable" 20 "java/lang/Throwable" "SUPPRESSED_SENTINEL" "Ljava/util/List;" ∈ wd_all := List.mem_append_right _ (List.mem_append_right _ (List.mem_append_left _ (List.mem_of_getElem? (i := 10) rfl)))
theorem wm_211 : Cond.methodLink "java/lang/Throwable" 27 ⟨"java/lang/Throwable", "fillInStackTrace", "()Ljava/lang/Throwable;"⟩ ∈ wd_all := List.mem_append_right _ (List.mem_append_right _ (List.mem_append_left _ (List.mem_of_getElem? (i := 11) rfl)))
theorem wm_212 : Cond.instanceMethod ⟨"java/lang/Throwable", "fillInStackTrace", "()Ljava/lang/Throwable;"⟩ ∈ wd_all := List.mem_append_right _ (List.mem_append_right _ (List.mem_append_left _ (List.mem_of_getElem? (i := 12) rfl)))
theorem wm_213 : Cond.sameMethod "java/lang/Throwable" "java/lang/Throwable" "fillInStackTrace" "()Ljava/lang/Throwable;" ∈ wd_all := List.mem_append_right _ (List.mem_append_right _ (List.mem_append_left _ (List.mem_of_getElem? (i := 13) rfl)))
theorem wm_214 : Cond.selects "java/lang/IllegalStateException" ⟨"java/lang/Throwable", "fillInStackTrace", "()Ljava/lang/Throwable;"⟩ ⟨"java/lang/Throwable", "fillInStackTrace", "()Ljava/lang/Throwable;"⟩ ∈ wd_all := List.mem_append_right _ (List.mem_append_right _ (List.mem_append_left _ (List.mem_of_getElem? (i := 14) rfl)))
theorem wm_215 : Cond.selects "java/lang/IndexOutOfBoundsException" ⟨"java/lang/Throwable", "fillInStackTrace", "()Ljava/lang/Throwable;"⟩ ⟨"java/lang/Throwable", "fillInStackTrace", "()Ljava/lang/Throwable;"⟩ ∈ wd_all := List.mem_append_right _ (List.mem_append_right _ (List.mem_append_left _ (List.mem_of_getElem? (i := 15) rfl)))
theorem wm_216 : Cond.codeSync ⟨"java/lang/Throwable", "fillInStackTrace", "()Ljava/lang/Throwable;"⟩ prog_15_method_18_code 1 (some (FieldType.object "java/lang/Throwable")) ∈ wd_all := List.mem_append_right _ (List.mem_append_right _ (List.mem_append_left _ (List.mem_of_getElem? (i := 16) rfl)))
theorem wm_217 : Cond.methodLink "java/lang/Throwable" 202 ⟨"java/lang/Throwable", "fillInStackTrace", "(I)Ljava/lang/Throwable;"⟩ ∈ wd_all := List.mem_append_right _ (List.mem_append_right _ (List.mem_append_left _ (List.mem_of_getElem? (i := 17) rfl)))
theorem wm_218 : Cond.instanceMethod ⟨"java/lang/Throwable", "fillInStackTrace", "(I)Ljava/lang/Throwable;"⟩ ∈ wd_all := List.mem_append_right _ (List.mem_append_right _ (List.mem_append_left _ (List.mem_of_getElem? (i := 18) rfl)))
theorem wm_219 : Cond.instantiable "java/lang/Throwable" 6 ∈ wd_all := List.mem_append_right _ (List.mem_append_right _ (List.mem_append_left _ (List.mem_of_getElem? (i := 19) rfl)))
theorem wm_220 : Cond.native ⟨"java/lang/Throwable", "fillInStackTrace", "(I)Ljava/lang/Throwable;"⟩ ∈ wd_all := List.mem_append_right _ (List.mem_append_right _ (List.mem_append_left _ (List.mem_of_getElem? (i := 20) rfl)))
theorem wm_221 : Cond.methodLink "BranchConstants" 137 ⟨"java/lang/IllegalArgumentException", "<init>", "(Ljava/lang/String;)V"⟩ ∈ wd_all := List.mem_append_right _ (List.mem_append_right _ (List.mem_append_left _ (List.mem_of_getElem? (i := 21) rfl)))
theorem wm_222 : Cond.instanceMethod ⟨"java/lang/IllegalArgumentException", "<init>", "(Ljava/lang/String;)V"⟩ ∈ wd_all := List.mem_append_right _ (List.mem_append_right _ (List.mem_append_left _ (List.mem_of_getElem? (i := 22) rfl)))
theorem wm_223 : Cond.code ⟨"java/lang/IllegalArgumentException", "<init>", "(Ljava/lang/String;)V"⟩ prog_9_method_2_code 2 none ∈ wd_all := List.mem_append_right _ (List.mem_append_right _ (List.mem_append_left _ (List.mem_of_getElem? (i := 23) rfl)))
theorem wm_224 : Cond.methodLink "java/lang/IllegalArgumentException" 7 ⟨"java/lang/RuntimeException", "<init>", "(Ljava/lang/String;)V"⟩ ∈ wd_all := List.mem_append_right _ (List.mem_append_right _ (List.mem_append_left _ (List.mem_of_getElem? (i := 24) rfl)))
theorem wm_225 : Cond.instanceMethod ⟨"java/lang/RuntimeException", "<init>", "(Ljava/lang/String;)V"⟩ ∈ wd_all := List.mem_append_right _ (List.mem_append_right _ (List.mem_append_left _ (List.mem_of_getElem? (i := 25) rfl)))
theorem wm_226 : Cond.code ⟨"java/lang/RuntimeException", "<init>", "(Ljava/lang/String;)V"⟩ prog_12_method_2_code 2 none ∈ wd_all := List.mem_append_right _ (List.mem_append_right _ (List.mem_append_left _ (List.mem_of_getElem? (i := 26) rfl)))
theorem wm_227 : Cond.methodLink "java/lang/RuntimeException" 7 ⟨"java/lang/Exception", "<init>", "(Ljava/lang/String;)V"⟩ ∈ wd_all := List.mem_append_right _ (List.mem_append_right _ (List.mem_append_left _ (List.mem_of_getElem? (i := 27) rfl)))
theorem wm_228 : Cond.instanceMethod ⟨"java/lang/Exception", "<init>", "(Ljava/lang/String;)V"⟩ ∈ wd_all := List.mem_append_right _ (List.mem_append_right _ (List.mem_append_left _ (List.mem_of_getElem? (i := 28) rfl)))
theorem wm_229 : Cond.code ⟨"java/lang/Exception", "<init>", "(Ljava/lang/String;)V"⟩ prog_8_method_2_code 2 none ∈ wd_all := List.mem_append_right _ (List.mem_append_right _ (List.mem_append_left _ (List.mem_of_getElem? (i := 29) rfl)))
theorem wm_230 : Cond.methodLink "java/lang/Exception" 7 ⟨"java/lang/Throwable", "<init>", "(Ljava/lang/String;)V"⟩ ∈ wd_all := List.mem_append_right _ (List.mem_append_right _ (List.mem_append_left _ (List.mem_of_getElem? (i := 30) rfl)))
theorem wm_231 : Cond.instanceMethod ⟨"java/lang/Throwable", "<init>", "(Ljava/lang/String;)V"⟩ ∈ wd_all := List.mem_append_right _ (List.mem_append_right _ (List.mem_append_left _ (List.mem_of_getElem? (i := 31) rfl)))
theorem wm_232 : Cond.code ⟨"java/lang/Throwable", "<init>", "(Ljava/lang/String;)V"⟩ prog_15_method_2_code 2 none ∈ wd_all := List.mem_append_right _ (List.mem_append_right _ (List.mem_append_left _ (List.mem_of_getElem? (i := 32) rfl)))
theorem wm_233 : Cond.fieldLink "java/lang/Throwable" 31 "java/lang/Throwable" "detailMessage" "Ljava/lang/String;" ∈ wd_all := List.mem_append_right _ (List.mem_append_right _ (List.mem_append_left _ (List.mem_of_getElem? (i := 33) rfl)))
theorem wm_234 : Cond.fieldLink "java/lang/Throwable" 7 "java/lang/Throwable" "cause" "Ljava/lang/Throwable;" ∈ wd_all := List.mem_append_right _ (List.mem_append_right _ (List.mem_append_left _ (List.mem_of_getElem? (i := 34) rfl)))
theorem wm_235 : Cond.fieldLink "java/lang/Throwable" 17 "java/lang/Throwable" "stackTrace" "[Ljava/lang/StackTraceElement;" ∈ wd_all := List.mem_append_right _ (List.mem_append_right _ (List.mem_append_left _ (List.mem_of_getElem? (i := 35) rfl)))
theorem wm_236 : Cond.fieldLink "java/lang/Throwable" 24 "java/lang/Throwable" "suppressedExceptions" "Ljava/util/List;" ∈ wd_all := List.mem_append_right _ (List.mem_append_right _ (List.mem_append_left _ (List.mem_of_getElem? (i := 36) rfl)))
theorem wm_237 : Cond.lays "java/lang/IllegalArgumentException" "java/lang/Throwable" "depth" "I" ∈ wd_all := List.mem_append_right _ (List.mem_append_right _ (List.mem_append_left _ (List.mem_of_getElem? (i := 37) rfl)))
theorem wm_238 : Cond.superclass "java/lang/IllegalArgumentException" "java/lang/RuntimeException" ∈ wd_all := List.mem_append_right _ (List.mem_append_right _ (List.mem_append_left _ (List.mem_of_getElem? (i := 38) rfl)))
theorem wm_239 : Cond.arrayClass FieldType.byte ∈ wd_all := List.mem_append_right _ (List.mem_append_right _ (List.mem_append_left _ (List.mem_of_getElem? (i := 39) rfl)))
theorem wm_240 : Cond.classLink "BranchConstants" 51 "java/lang/IllegalStateException" ∈ wd_all := List.mem_append_right _ (List.mem_append_right _ (List.mem_append_left _ (List.mem_of_getElem? (i := 40) rfl)))
theorem wm_241 : Cond.instantiable "java/lang/IllegalStateException" 6 ∈ wd_all := List.mem_append_right _ (List.mem_append_right _ (List.mem_append_left _ (List.mem_of_getElem? (i := 41) rfl)))
theorem wm_242 : Cond.selects "java/lang/IllegalStateException" ⟨"java/lang/Throwable", "fillInStackTrace", "(I)Ljava/lang/Throwable;"⟩ ⟨"java/lang/Throwable", "fillInStackTrace", "(I)Ljava/lang/Throwable;"⟩ ∈ wd_all := List.mem_append_right _ (List.mem_append_right _ (List.mem_append_left _ (List.mem_of_getElem? (i := 42) rfl)))
theorem wm_243 : Cond.lays "java/lang/IllegalStateException" "java/lang/Throwable" "cause" "Ljava/lang/Throwable;" ∈ wd_all := List.mem_append_right _ (List.mem_append_right _ (List.mem_append_left _ (List.mem_of_getElem? (i := 43) rfl)))
theorem wm_244 : Cond.lays "java/lang/IllegalStateException" "java/lang/Throwable" "stackTrace" "[Ljava/lang/StackTraceElement;" ∈ wd_all := List.mem_append_right _ (List.mem_append_right _ (List.mem_append_left _ (List.mem_of_getElem? (i := 44) rfl)))
theorem wm_245 : Cond.lays "java/lang/IllegalStateException" "java/lang/Throwable" "suppressedExceptions" "Ljava/util/List;" ∈ wd_all := List.mem_append_right _ (List.mem_append_right _ (List.mem_append_left _ (List.mem_of_getElem? (i := 45) rfl)))
theorem wm_246 : Cond.lays "java/lang/IllegalStateException" "java/lang/Throwable" "detailMessage" "Ljava/lang/String;" ∈ wd_all := List.mem_append_right _ (List.mem_append_right _ (List.mem_append_left _ (List.mem_of_getElem? (i := 46) rfl)))
theorem wm_247 : Cond.lays "java/lang/IllegalStateException" "java/lang/Throwable" "backtrace" "Ljava/lang/Object;" ∈ wd_all := List.mem_append_right _ (List.mem_append_right _ (List.mem_append_left _ (List.mem_of_getElem? (i := 47) rfl)))
theorem wm_248 : Cond.methodLink "BranchConstants" 55 ⟨"java/lang/IllegalStateException", "<init>", "(Ljava/lang/String;)V"⟩ ∈ wd_all := List.mem_append_right _ (List.mem_append_right _ (List.mem_append_left _ (List.mem_of_getElem? (i := 48) rfl)))
theorem wm_249 : Cond.instanceMethod ⟨"java/lang/IllegalStateException", "<init>", "(Ljava/lang/String;)V"⟩ ∈ wd_all := List.mem_append_right _ (List.mem_append_right _ (List.mem_append_left _ (List.mem_of_getElem? (i := 49) rfl)))
theorem wm_250 : Cond.code ⟨"java/lang/IllegalStateException", "<init>", "(Ljava/lang/String;)V"⟩ prog_10_method_2_code 2 none ∈ wd_all := List.mem_append_right _ (List.mem_append_right _ (List.mem_append_left _ (List.mem_of_getElem? (i := 50) rfl)))
theorem wm_251 : Cond.methodLink "java/lang/IllegalStateException" 7 ⟨"java/lang/RuntimeException", "<init>", "(Ljava/lang/String;)V"⟩ ∈ wd_all := List.mem_append_right _ (List.mem_append_right _ (List.mem_append_left _ (List.mem_of_getElem? (i := 51) rfl)))
theorem wm_252 : Cond.lays "java/lang/IllegalStateException" "java/lang/Throwable" "depth" "I" ∈ wd_all := List.mem_append_right _ (List.mem_append_right _ (List.mem_append_left _ (List.mem_of_getElem? (i := 52) rfl)))
theorem wm_253 : Cond.superclass "java/lang/IllegalStateException" "java/lang/RuntimeException" ∈ wd_all := List.mem_append_right _ (List.mem_append_right _ (List.mem_append_left _ (List.mem_of_getElem? (i := 53) rfl)))
theorem wm_254 : Cond.instanceMethod yn_C_put ∈ wd_all := List.mem_append_right _ (List.mem_append_right _ (List.mem_append_left _ (List.mem_of_getElem? (i := 54) rfl)))
theorem wm_255 : Cond.code yn_C_put prog_3_method_2_code 6 none ∈ wd_all := List.mem_append_right _ (List.mem_append_right _ (List.mem_append_left _ (List.mem_of_getElem? (i := 55) rfl)))
theorem wm_256 : Cond.methodLink "BranchConstantsLaw" 71 yn_L_change ∈ wd_all := List.mem_append_right _ (List.mem_append_right _ (List.mem_append_left _ (List.mem_of_getElem? (i := 56) rfl)))
theorem wm_257 : Cond.static yn_L_change ∈ wd_all := List.mem_append_right _ (List.mem_append_right _ (List.mem_append_left _ (List.mem_of_getElem? (i := 57) rfl)))
theorem wm_258 : Cond.codeWith yn_L_change method_4_code 7 (some FieldType.int) [(0, 11, 14, 21), (0, 11, 18, 13)] ∈ wd_all := List.mem_append_right _ (List.mem_append_right _ (List.mem_append_left _ (List.mem_of_getElem? (i := 58) rfl)))
theorem wm_259 : Cond.classLink "BranchConstantsLaw" 21 "java/lang/IndexOutOfBoundsException" ∈ wd_all := List.mem_append_right _ (List.mem_append_right _ (List.mem_append_left _ (List.mem_of_getElem? (i := 59) rfl)))
theorem wm_260 : Cond.methodLink "BranchConstantsLaw" 17 yn_B_change ∈ wd_all := List.mem_append_right _ (List.mem_append_right _ (List.mem_append_left _ (List.mem_of_getElem? (i := 60) rfl)))
theorem wm_261 : Cond.instanceMethod yn_B_change ∈ wd_all := List.mem_append_right _ (List.mem_append_right _ (List.mem_append_left _ (List.mem_of_getElem? (i := 61) rfl)))
theorem wm_262 : Cond.selects "BranchConstants" yn_B_change yn_B_change ∈ wd_all := List.mem_append_right _ (List.mem_append_right _ (List.mem_append_left _ (List.mem_of_getElem? (i := 62) rfl)))
theorem wm_263 : Cond.code yn_B_change prog_1_method_3_code 6 none ∈ wd_all := List.mem_append_right _ (List.mem_append_right _ (List.mem_append_left _ (List.mem_of_getElem? (i := 63) rfl)))
theorem wm_264 : Cond.methodLink "BranchConstants" 65 yn_B_refuseWrongIndex ∈ wd_all := List.mem_append_right _ (List.mem_append_right _ (List.mem_append_left _ (List.mem_of_getElem? (i := 64) rfl)))
theorem wm_265 : Cond.instanceMethod yn_B_refuseWrongIndex ∈ wd_all := List.mem_append_right _ (List.mem_append_right _ (List.mem_append_left _ (List.mem_of_getElem? (i := 65) rfl)))
theorem wm_266 : Cond.code yn_B_refuseWrongIndex prog_1_method_21_code 2 none ∈ wd_all := List.mem_append_right _ (List.mem_append_right _ (List.mem_append_left _ (List.mem_of_getElem? (i := 66) rfl)))
theorem wm_267 : Cond.classLink "BranchConstants" 117 "java/lang/IndexOutOfBoundsException" ∈ wd_all := List.mem_append_right _ (List.mem_append_right _ (List.mem_append_left _ (List.mem_of_getElem? (i := 67) rfl)))
theorem wm_268 : Cond.instantiable "java/lang/IndexOutOfBoundsException" 6 ∈ wd_all := List.mem_append_right _ (List.mem_append_right _ (List.mem_append_left _ (List.mem_of_getElem? (i := 68) rfl)))
theorem wm_269 : Cond.selects "java/lang/IndexOutOfBoundsException" ⟨"java/lang/Throwable", "fillInStackTrace", "(I)Ljava/lang/Throwable;"⟩ ⟨"java/lang/Throwable", "fillInStackTrace", "(I)Ljava/lang/Throwable;"⟩ ∈ wd_all := List.mem_append_right _ (List.mem_append_right _ (List.mem_append_left _ (List.mem_of_getElem? (i := 69) rfl)))
theorem wm_270 : Cond.lays "java/lang/IndexOutOfBoundsException" "java/lang/Throwable" "cause" "Ljava/lang/Throwable;" ∈ wd_all := List.mem_append_right _ (List.mem_append_right _ (List.mem_append_left _ (List.mem_of_getElem? (i := 70) rfl)))
theorem wm_271 : Cond.lays "java/lang/IndexOutOfBoundsException" "java/lang/Throwable" "stackTrace" "[Ljava/lang/StackTraceElement;" ∈ wd_all := List.mem_append_right _ (List.mem_append_right _ (List.mem_append_left _ (List.mem_of_getElem? (i := 71) rfl)))
theorem wm_272 : Cond.lays "java/lang/IndexOutOfBoundsException" "java/lang/Throwable" "suppressedExceptions" "Ljava/util/List;" ∈ wd_all := List.mem_append_right _ (List.mem_append_right _ (List.mem_append_left _ (List.mem_of_getElem? (i := 72) rfl)))
theorem wm_273 : Cond.lays "java/lang/IndexOutOfBoundsException" "java/lang/Throwable" "detailMessage" "Ljava/lang/String;" ∈ wd_all := List.mem_append_right _ (List.mem_append_right _ (List.mem_append_left _ (List.mem_of_getElem? (i := 73) rfl)))
theorem wm_274 : Cond.lays "java/lang/IndexOutOfBoundsException" "java/lang/Throwable" "backtrace" "Ljava/lang/Object;" ∈ wd_all := List.mem_append_right _ (List.mem_append_right _ (List.mem_append_left _ (List.mem_of_getElem? (i := 74) rfl)))
theorem wm_275 : Cond.methodLink "BranchConstants" 121 ⟨"java/lang/IndexOutOfBoundsException", "<init>", "(Ljava/lang/String;)V"⟩ ∈ wd_all := List.mem_append_right _ (List.mem_append_right _ (List.mem_append_left _ (List.mem_of_getElem? (i := 75) rfl)))
theorem wm_276 : Cond.instanceMethod ⟨"java/lang/IndexOutOfBoundsException", "<init>", "(Ljava/lang/String;)V"⟩ ∈ wd_all := List.mem_append_right _ (List.mem_append_right _ (List.mem_append_left _ (List.mem_of_getElem? (i := 76) rfl)))
theorem wm_277 : Cond.code ⟨"java/lang/IndexOutOfBoundsException", "<init>", "(Ljava/lang/String;)V"⟩ prog_11_method_2_code 2 none ∈ wd_all := List.mem_append_right _ (List.mem_append_right _ (List.mem_append_left _ (List.mem_of_getElem? (i := 77) rfl)))
theorem wm_278 : Cond.methodLink "java/lang/IndexOutOfBoundsException" 7 ⟨"java/lang/RuntimeException", "<init>", "(Ljava/lang/String;)V"⟩ ∈ wd_all := List.mem_append_right _ (List.mem_append_right _ (List.mem_append_left _ (List.mem_of_getElem? (i := 78) rfl)))
theorem wm_279 : Cond.lays "java/lang/IndexOutOfBoundsException" "java/lang/Throwable" "depth" "I" ∈ wd_all := List.mem_append_right _ (List.mem_append_right _ (List.mem_append_left _ (List.mem_of_getElem? (i := 79) rfl)))
theorem wm_280 : Cond.superclass "java/lang/IndexOutOfBoundsException" "java/lang/RuntimeException" ∈ wd_all := List.mem_append_right _ (List.mem_append_right _ (List.mem_append_left _ (List.mem_of_getElem? (i := 80) rfl)))
theorem wm_281 : Cond.methodLink "BranchConstantsLaw" 79 yn_L_reached ∈ wd_all := List.mem_append_right _ (List.mem_append_right _ (List.mem_append_left _ (List.mem_of_getElem? (i := 81) rfl)))
theorem wm_282 : Cond.static yn_L_reached ∈ wd_all := List.mem_append_right _ (List.mem_append_right _ (List.mem_append_left _ (List.mem_of_getElem? (i := 82) rfl)))
theorem wm_283 : Cond.codeWith yn_L_reached method_5_code 4 (some FieldType.int) [(0, 16, 19, 21)] ∈ wd_all := List.mem_append_right _ (List.mem_append_right _ (List.mem_append_left _ (List.mem_of_getElem? (i := 83) rfl)))
theorem wm_284 : Cond.methodLink "BranchConstantsLaw" 23 yn_B_reached ∈ wd_all := List.mem_append_right _ (List.mem_append_right _ (List.mem_append_left _ (List.mem_of_getElem? (i := 84) rfl)))
theorem wm_285 : Cond.instanceMethod yn_B_reached ∈ wd_all := List.mem_append_right _ (List.mem_append_right _ (List.mem_append_left _ (List.mem_of_getElem? (i := 85) rfl)))
theorem wm_286 : Cond.selects "BranchConstants" yn_B_reached yn_B_reached ∈ wd_all := List.mem_append_right _ (List.mem_append_right _ (List.mem_append_left _ (List.mem_of_getElem? (i := 86) rfl)))
theorem wm_287 : Cond.code yn_B_reached prog_1_method_5_code 2 (some FieldType.boolean) ∈ wd_all := List.mem_append_right _ (List.mem_append_right _ (List.mem_append_left _ (List.mem_of_getElem? (i := 87) rfl)))
theorem wm_288 : Cond.methodLink "BranchConstantsLaw" 87 yn_L_known ∈ wd_all := List.mem_append_right _ (List.mem_append_right _ (List.mem_append_left _ (List.mem_of_getElem? (i := 88) rfl)))
theorem wm_289 : Cond.static yn_L_known ∈ wd_all := List.mem_append_right _ (List.mem_append_right _ (List.mem_append_left _ (List.mem_of_getElem? (i := 89) rfl)))
theorem wm_290 : Cond.codeWith yn_L_known method_6_code 5 (some FieldType.int) [(0, 10, 13, 21)] ∈ wd_all := List.mem_append_right _ (List.mem_append_right _ (List.mem_append_left _ (List.mem_of_getElem? (i := 90) rfl)))
theorem wm_291 : Cond.methodLink "BranchConstantsLaw" 27 yn_B_known ∈ wd_all := List.mem_append_right _ (List.mem_append_right _ (List.mem_append_left _ (List.mem_of_getElem? (i := 91) rfl)))
theorem wm_292 : Cond.instanceMethod yn_B_known ∈ wd_all := List.mem_append_right _ (List.mem_append_right _ (List.mem_append_left _ (List.mem_of_getElem? (i := 92) rfl)))
theorem wm_293 : Cond.selects "BranchConstants" yn_B_known yn_B_known ∈ wd_all := List.mem_append_right _ (List.mem_append_right _ (List.mem_append_left _ (List.mem_of_getElem? (i := 93) rfl)))
theorem wm_294 : Cond.code yn_B_known prog_1_method_7_code 3 (some FieldType.int) ∈ wd_all := List.mem_append_right _ (List.mem_append_right _ (List.mem_append_left _ (List.mem_of_getElem? (i := 94) rfl)))
theorem wm_295 : Cond.methodLink "BranchConstants" 80 yn_B_refuseWrongVariable ∈ wd_all := List.mem_append_right _ (List.mem_append_right _ (List.mem_append_left _ (List.mem_of_getElem? (i := 95) rfl)))
theorem wm_296 : Cond.instanceMethod yn_B_refuseWrongVariable ∈ wd_all := List.mem_append_right _ (List.mem_append_right _ (List.mem_append_left _ (List.mem_of_getElem? (i := 96) rfl)))
theorem wm_297 : Cond.code yn_B_refuseWrongVariable prog_1_method_22_code 2 none ∈ wd_all := List.mem_append_right _ (List.mem_append_right _ (List.mem_append_left _ (List.mem_of_getElem? (i := 97) rfl)))
theorem wm_298 : Cond.methodLink "BranchConstants" 87 yn_B_cell ∈ wd_all := List.mem_append_right _ (List.mem_append_right _ (List.mem_append_left _ (List.mem_of_getElem? (i := 98) rfl)))
theorem wm_299 : Cond.methodLink "BranchConstantsLaw" 91 yn_L_constant ∈ wd_all := List.mem_append_right _ (List.mem_append_right _ (List.mem_append_left _ (List.mem_of_getElem? (i := 99) rfl)))
theorem wm_300 : Cond.static yn_L_constant ∈ wd_all := List.mem_append_right _ (List.mem_append_right _ (List.mem_append_right _ (List.mem_append_left _ (List.mem_of_getElem? (i := 0) rfl))))
theorem wm_301 : Cond.codeWith yn_L_constant method_7_code 5 (some FieldType.int) [(0, 10, 13, 21)] ∈ wd_all := List.mem_append_right _ (List.mem_append_right _ (List.mem_append_right _ (List.mem_append_left _ (List.mem_of_getElem? (i := 1) rfl))))
theorem wm_302 : Cond.methodLink "BranchConstantsLaw" 31 yn_B_constant ∈ wd_all := List.mem_append_right _ (List.mem_append_right _ (List.mem_append_right _ (List.mem_append_left _ (List.mem_of_getElem? (i := 2) rfl))))
theorem wm_303 : Cond.instanceMethod yn_B_constant ∈ wd_all := List.mem_append_right _ (List.mem_append_right _ (List.mem_append_right _ (List.mem_append_left _ (List.mem_of_getElem? (i := 3) rfl))))
theorem wm_304 : Cond.selects "BranchConstants" yn_B_constant yn_B_constant ∈ wd_all := List.mem_append_right _ (List.mem_append_right _ (List.mem_append_right _ (List.mem_append_left _ (List.mem_of_getElem? (i := 4) rfl))))
theorem wm_305 : Cond.code yn_B_constant prog_1_method_8_code 3 (some FieldType.int) ∈ wd_all := List.mem_append_right _ (List.mem_append_right _ (List.mem_append_right _ (List.mem_append_left _ (List.mem_of_getElem? (i := 5) rfl))))
theorem wm_306 : Cond.methodLink "BranchConstantsLaw" 94 yn_L_rewrite ∈ wd_all := List.mem_append_right _ (List.mem_append_right _ (List.mem_append_right _ (List.mem_append_left _ (List.mem_of_getElem? (i := 6) rfl))))
theorem wm_307 : Cond.static yn_L_rewrite ∈ wd_all := List.mem_append_right _ (List.mem_append_right _ (List.mem_append_right _ (List.mem_append_left _ (List.mem_of_getElem? (i := 7) rfl))))
theorem wm_308 : Cond.codeWith yn_L_rewrite method_8_code 3 (some FieldType.int) [(0, 8, 11, 15)] ∈ wd_all := List.mem_append_right _ (List.mem_append_right _ (List.mem_append_right _ (List.mem_append_left _ (List.mem_of_getElem? (i := 8) rfl))))
theorem wm_309 : Cond.methodLink "BranchConstantsLaw" 34 yn_B_rewrite ∈ wd_all := List.mem_append_right _ (List.mem_append_right _ (List.mem_append_right _ (List.mem_append_left _ (List.mem_of_getElem? (i := 9) rfl))))
theorem wm_310 : Cond.instanceMethod yn_B_rewrite ∈ wd_all := List.mem_append_right _ (List.mem_append_right _ (List.mem_append_right _ (List.mem_append_left _ (List.mem_of_getElem? (i := 10) rfl))))
theorem wm_311 : Cond.selects "BranchConstants" yn_B_rewrite yn_B_rewrite ∈ wd_all := List.mem_append_right _ (List.mem_append_right _ (List.mem_append_right _ (List.mem_append_left _ (List.mem_of_getElem? (i := 11) rfl))))
theorem wm_312 : Cond.code yn_B_rewrite prog_1_method_9_code 1 (some FieldType.int) ∈ wd_all := List.mem_append_right _ (List.mem_append_right _ (List.mem_append_right _ (List.mem_append_left _ (List.mem_of_getElem? (i := 12) rfl))))
theorem wm_313 : Cond.instanceMethod yn_W_perform ∈ wd_all := List.mem_append_right _ (List.mem_append_right _ (List.mem_append_right _ (List.mem_append_left _ (List.mem_of_getElem? (i := 13) rfl))))
theorem wm_314 : Cond.code yn_W_perform prog_5_method_2_code 4 none ∈ wd_all := List.mem_append_right _ (List.mem_append_right _ (List.mem_append_right _ (List.mem_append_left _ (List.mem_of_getElem? (i := 14) rfl))))
theorem wm_315 : Cond.instanceMethod yn_C_putAllOf ∈ wd_all := List.mem_append_right _ (List.mem_append_right _ (List.mem_append_right _ (List.mem_append_left _ (List.mem_of_getElem? (i := 15) rfl))))
theorem wm_316 : Cond.code yn_C_putAllOf prog_3_method_3_code 3 none ∈ wd_all := List.mem_append_right _ (List.mem_append_right _ (List.mem_append_right _ (List.mem_append_left _ (List.mem_of_getElem? (i := 16) rfl))))
theorem wm_317 : Cond.methodLink "BranchConstants$Code" 28 yn_C_put ∈ wd_all := List.mem_append_right _ (List.mem_append_right _ (List.mem_append_right _ (List.mem_append_left _ (List.mem_of_getElem? (i := 17) rfl))))
theorem wm_318 : Cond.methodLink "BranchConstants$Rewriting" 28 yn_W_fold ∈ wd_all := List.mem_append_right _ (List.mem_append_right _ (List.mem_append_right _ (List.mem_append_left _ (List.mem_of_getElem? (i := 18) rfl))))
theorem wm_319 : Cond.static yn_W_fold ∈ wd_all := List.mem_append_right _ (List.mem_append_right _ (List.mem_append_right _ (List.mem_append_left _ (List.mem_of_getElem? (i := 19) rfl))))
theorem wm_320 : Cond.code yn_W_fold prog_5_method_3_code 4 none ∈ wd_all := List.mem_append_right _ (List.mem_append_right _ (List.mem_append_right _ (List.mem_append_left _ (List.mem_of_getElem? (i := 20) rfl))))
theorem wm_321 : Cond.methodLink "BranchConstants$Rewriting" 32 yn_W_thread ∈ wd_all := List.mem_append_right _ (List.mem_append_right _ (List.mem_append_right _ (List.mem_append_left _ (List.mem_of_getElem? (i := 21) rfl))))
theorem wm_322 : Cond.static yn_W_thread ∈ wd_all := List.mem_append_right _ (List.mem_append_right _ (List.mem_append_right _ (List.mem_append_left _ (List.mem_of_getElem? (i := 22) rfl))))
theorem wm_323 : Cond.code yn_W_thread prog_5_method_4_code 2 none ∈ wd_all := List.mem_append_right _ (List.mem_append_right _ (List.mem_append_right _ (List.mem_append_left _ (List.mem_of_getElem? (i := 23) rfl))))
theorem wm_324 : Cond.instanceMethod yn_C_hasTarget ∈ wd_all := List.mem_append_right _ (List.mem_append_right _ (List.mem_append_right _ (List.mem_append_left _ (List.mem_of_getElem? (i := 24) rfl))))
theorem wm_325 : Cond.code yn_C_hasTarget prog_3_method_6_code 2 (some FieldType.boolean) ∈ wd_all := List.mem_append_right _ (List.mem_append_right _ (List.mem_append_right _ (List.mem_append_left _ (List.mem_of_getElem? (i := 25) rfl))))
theorem wm_326 : Cond.methodLink "BranchConstants$Rewriting" 91 yn_W_endOfChain ∈ wd_all := List.mem_append_right _ (List.mem_append_right _ (List.mem_append_right _ (List.mem_append_left _ (List.mem_of_getElem? (i := 26) rfl))))
theorem wm_327 : Cond.static yn_W_endOfChain ∈ wd_all := List.mem_append_right _ (List.mem_append_right _ (List.mem_append_right _ (List.mem_append_left _ (List.mem_of_getElem? (i := 27) rfl))))
theorem wm_328 : Cond.code yn_W_endOfChain prog_5_method_5_code 4 (some FieldType.int) ∈ wd_all := List.mem_append_right _ (List.mem_append_right _ (List.mem_append_right _ (List.mem_append_left _ (List.mem_of_getElem? (i := 28) rfl))))
theorem wm_329 : Cond.methodLink "BranchConstants$Rewriting" 35 yn_W_keepWhatCanBeComeTo ∈ wd_all := List.mem_append_right _ (List.mem_append_right _ (List.mem_append_right _ (List.mem_append_left _ (List.mem_of_getElem? (i := 29) rfl))))
theorem wm_330 : Cond.instanceMethod yn_W_keepWhatCanBeComeTo ∈ wd_all := List.mem_append_right _ (List.mem_append_right _ (List.mem_append_right _ (List.mem_append_left _ (List.mem_of_getElem? (i := 30) rfl))))
theorem wm_331 : Cond.code yn_W_keepWhatCanBeComeTo prog_5_method_6_code 4 none ∈ wd_all := List.mem_append_right _ (List.mem_append_right _ (List.mem_append_right _ (List.mem_append_left _ (List.mem_of_getElem? (i := 31) rfl))))
theorem wm_332 : Cond.methodLink "BranchConstants$Rewriting" 97 yn_W_keep ∈ wd_all := List.mem_append_right _ (List.mem_append_right _ (List.mem_append_right _ (List.mem_append_left _ (List.mem_of_getElem? (i := 32) rfl))))
theorem wm_333 : Cond.instanceMethod yn_W_keep ∈ wd_all := List.mem_append_right _ (List.mem_append_right _ (List.mem_append_right _ (List.mem_append_left _ (List.mem_of_getElem? (i := 33) rfl))))
theorem wm_334 : Cond.code yn_W_keep prog_5_method_7_code 3 none ∈ wd_all := List.mem_append_right _ (List.mem_append_right _ (List.mem_append_right _ (List.mem_append_left _ (List.mem_of_getElem? (i := 34) rfl))))
theorem wm_335 : Cond.methodLink "BranchConstants$Rewriting" 38 yn_W_dropJumpsToTheNext ∈ wd_all := List.mem_append_right _ (List.mem_append_right _ (List.mem_append_right _ (List.mem_append_left _ (List.mem_of_getElem? (i := 35) rfl))))
theorem wm_336 : Cond.instanceMethod yn_W_dropJumpsToTheNext ∈ wd_all := List.mem_append_right _ (List.mem_append_right _ (List.mem_append_right _ (List.mem_append_left _ (List.mem_of_getElem? (i := 36) rfl))))
theorem wm_337 : Cond.code yn_W_dropJumpsToTheNext prog_5_method_8_code 4 none ∈ wd_all := List.mem_append_right _ (List.mem_append_right _ (List.mem_append_right _ (List.mem_append_left _ (List.mem_of_getElem? (i := 37) rfl))))
theorem wm_338 : Cond.methodLink "BranchConstants$Rewriting" 41 yn_W_numberAnew ∈ wd_all := List.mem_append_right _ (List.mem_append_right _ (List.mem_append_right _ (List.mem_append_left _ (List.mem_of_getElem? (i := 38) rfl))))
theorem wm_339 : Cond.instanceMethod yn_W_numberAnew ∈ wd_all := List.mem_append_right _ (List.mem_append_right _ (List.mem_append_right _ (List.mem_append_left _ (List.mem_of_getElem? (i := 39) rfl))))
theorem wm_340 : Cond.code yn_W_numberAnew prog_5_method_9_code 4 none ∈ wd_all := List.mem_append_right _ (List.mem_append_right _ (List.mem_append_right _ (List.mem_append_left _ (List.mem_of_getElem? (i := 40) rfl))))
theorem wm_341 : Cond.methodLink "BranchConstants$Rewriting" 101 yn_W_moveToNewNumber ∈ wd_all := List.mem_append_right _ (List.mem_append_right _ (List.mem_append_right _ (List.mem_append_left _ (List.mem_of_getElem? (i := 41) rfl))))
theorem wm_342 : Cond.instanceMethod yn_W_moveToNewNumber ∈ wd_all := List.mem_append_right _ (List.mem_append_right _ (List.mem_append_right _ (List.mem_append_left _ (List.mem_of_getElem? (i := 42) rfl))))
theorem wm_343 : Cond.code yn_W_moveToNewNumber prog_5_method_10_code 4 none ∈ wd_all := List.mem_append_right _ (List.mem_append_right _ (List.mem_append_right _ (List.mem_append_left _ (List.mem_of_getElem? (i := 43) rfl))))
theorem wm_344 : Cond.methodLink "BranchConstantsLaw" 98 yn_L_code ∈ wd_all := List.mem_append_right _ (List.mem_append_right _ (List.mem_append_right _ (List.mem_append_left _ (List.mem_of_getElem? (i := 44) rfl))))
theorem wm_345 : Cond.static yn_L_code ∈ wd_all := List.mem_append_right _ (List.mem_append_right _ (List.mem_append_right _ (List.mem_append_left _ (List.mem_of_getElem? (i := 45) rfl))))
theorem wm_346 : Cond.codeWith yn_L_code method_9_code 6 (some FieldType.int) [(0, 12, 15, 15), (0, 12, 19, 21)] ∈ wd_all := List.mem_append_right _ (List.mem_append_right _ (List.mem_append_right _ (List.mem_append_left _ (List.mem_of_getElem? (i := 46) rfl))))
theorem wm_347 : Cond.methodLink "BranchConstantsLaw" 38 yn_B_code ∈ wd_all := List.mem_append_right _ (List.mem_append_right _ (List.mem_append_right _ (List.mem_append_left _ (List.mem_of_getElem? (i := 47) rfl))))
theorem wm_348 : Cond.instanceMethod yn_B_code ∈ wd_all := List.mem_append_right _ (List.mem_append_right _ (List.mem_append_right _ (List.mem_append_left _ (List.mem_of_getElem? (i := 48) rfl))))
theorem wm_349 : Cond.selects "BranchConstants" yn_B_code yn_B_code ∈ wd_all := List.mem_append_right _ (List.mem_append_right _ (List.mem_append_right _ (List.mem_append_left _ (List.mem_of_getElem? (i := 49) rfl))))
theorem wm_350 : Cond.code yn_B_code prog_1_method_10_code 5 (some FieldType.int) ∈ wd_all := List.mem_append_right _ (List.mem_append_right _ (List.mem_append_right _ (List.mem_append_left _ (List.mem_of_getElem? (i := 50) rfl))))
theorem wm_351 : Cond.methodLink "BranchConstants" 107 yn_B_refuseMissingRewritten ∈ wd_all := List.mem_append_right _ (List.mem_append_right _ (List.mem_append_right _ (List.mem_append_left _ (List.mem_of_getElem? (i := 51) rfl))))
theorem wm_352 : Cond.instanceMethod yn_B_refuseMissingRewritten ∈ wd_all := List.mem_append_right _ (List.mem_append_right _ (List.mem_append_right _ (List.mem_append_left _ (List.mem_of_getElem? (i := 52) rfl))))
theorem wm_353 : Cond.code yn_B_refuseMissingRewritten prog_1_method_24_code 2 none ∈ wd_all := List.mem_append_right _ (List.mem_append_right _ (List.mem_append_right _ (List.mem_append_left _ (List.mem_of_getElem? (i := 53) rfl))))
theorem wm_354 : Cond.methodLink "BranchConstants" 110 yn_B_refuseWrongSide ∈ wd_all := List.mem_append_right _ (List.mem_append_right _ (List.mem_append_right _ (List.mem_append_left _ (List.mem_of_getElem? (i := 54) rfl))))
theorem wm_355 : Cond.instanceMethod yn_B_refuseWrongSide ∈ wd_all := List.mem_append_right _ (List.mem_append_right _ (List.mem_append_right _ (List.mem_append_left _ (List.mem_of_getElem? (i := 55) rfl))))
theorem wm_356 : Cond.code yn_B_refuseWrongSide prog_1_method_23_code 2 none ∈ wd_all := List.mem_append_right _ (List.mem_append_right _ (List.mem_append_right _ (List.mem_append_left _ (List.mem_of_getElem? (i := 56) rfl))))
theorem wm_357 : Cond.methodLink "BranchConstants" 113 yn_B_codeOf ∈ wd_all := List.mem_append_right _ (List.mem_append_right _ (List.mem_append_right _ (List.mem_append_left _ (List.mem_of_getElem? (i := 57) rfl))))
theorem wm_358 : Cond.instanceMethod yn_B_codeOf ∈ wd_all := List.mem_append_right _ (List.mem_append_right _ (List.mem_append_right _ (List.mem_append_left _ (List.mem_of_getElem? (i := 58) rfl))))
theorem wm_359 : Cond.code yn_B_codeOf prog_1_method_18_code 2 (some (FieldType.object "BranchConstants$Code")) ∈ wd_all := List.mem_append_right _ (List.mem_append_right _ (List.mem_append_right _ (List.mem_append_left _ (List.mem_of_getElem? (i := 59) rfl))))
theorem wm_360 : Cond.instanceMethod yn_C_number ∈ wd_all := List.mem_append_right _ (List.mem_append_right _ (List.mem_append_right _ (List.mem_append_left _ (List.mem_of_getElem? (i := 60) rfl))))
theorem wm_361 : Cond.code yn_C_number prog_3_method_4_code 3 (some FieldType.int) ∈ wd_all := List.mem_append_right _ (List.mem_append_right _ (List.mem_append_right _ (List.mem_append_left _ (List.mem_of_getElem? (i := 61) rfl))))
theorem wm_362 : Cond.methodLink "BranchConstantsLaw" 102 yn_L_start ∈ wd_all := List.mem_append_right _ (List.mem_append_right _ (List.mem_append_right _ (List.mem_append_left _ (List.mem_of_getElem? (i := 62) rfl))))
theorem wm_363 : Cond.static yn_L_start ∈ wd_all := List.mem_append_right _ (List.mem_append_right _ (List.mem_append_right _ (List.mem_append_left _ (List.mem_of_getElem? (i := 63) rfl))))
theorem wm_364 : Cond.codeWith yn_L_start method_10_code 7 (some FieldType.int) [(0, 11, 14, 21), (0, 11, 18, 15)] ∈ wd_all := List.mem_append_right _ (List.mem_append_right _ (List.mem_append_right _ (List.mem_append_left _ (List.mem_of_getElem? (i := 64) rfl))))
theorem wm_365 : Cond.methodLink "BranchConstantsLaw" 42 yn_B_start ∈ wd_all := List.mem_append_right _ (List.mem_append_right _ (List.mem_append_right _ (List.mem_append_left _ (List.mem_of_getElem? (i := 65) rfl))))
theorem wm_366 : Cond.instanceMethod yn_B_start ∈ wd_all := List.mem_append_right _ (List.mem_append_right _ (List.mem_append_right _ (List.mem_append_left _ (List.mem_of_getElem? (i := 66) rfl))))
theorem wm_367 : Cond.selects "BranchConstants" yn_B_start yn_B_start ∈ wd_all := List.mem_append_right _ (List.mem_append_right _ (List.mem_append_right _ (List.mem_append_left _ (List.mem_of_getElem? (i := 67) rfl))))
theorem wm_368 : Cond.code yn_B_start prog_1_method_11_code 6 none ∈ wd_all := List.mem_append_right _ (List.mem_append_right _ (List.mem_append_right _ (List.mem_append_left _ (List.mem_of_getElem? (i := 68) rfl))))
theorem wm_369 : Cond.methodLink "BranchConstants" 125 yn_B_runOf ∈ wd_all := List.mem_append_right _ (List.mem_append_right _ (List.mem_append_right _ (List.mem_append_left _ (List.mem_of_getElem? (i := 69) rfl))))
theorem wm_370 : Cond.instanceMethod yn_B_runOf ∈ wd_all := List.mem_append_right _ (List.mem_append_right _ (List.mem_append_right _ (List.mem_append_left _ (List.mem_of_getElem? (i := 70) rfl))))
theorem wm_371 : Cond.code yn_B_runOf prog_1_method_19_code 2 (some (FieldType.object "BranchConstants$Execution")) ∈ wd_all := List.mem_append_right _ (List.mem_append_right _ (List.mem_append_right _ (List.mem_append_left _ (List.mem_of_getElem? (i := 71) rfl))))
theorem wm_372 : Cond.instanceMethod yn_E_begin ∈ wd_all := List.mem_append_right _ (List.mem_append_right _ (List.mem_append_right _ (List.mem_append_left _ (List.mem_of_getElem? (i := 72) rfl))))
theorem wm_373 : Cond.code yn_E_begin prog_4_method_2_code 6 none ∈ wd_all := List.mem_append_right _ (List.mem_append_right _ (List.mem_append_right _ (List.mem_append_left _ (List.mem_of_getElem? (i := 73) rfl))))
theorem wm_374 : Cond.methodLink "BranchConstants$Execution" 15 yn_J_fill ∈ wd_all := List.mem_append_right _ (List.mem_append_right _ (List.mem_append_right _ (List.mem_append_left _ (List.mem_of_getElem? (i := 74) rfl))))
theorem wm_375 : Cond.methodLink "BranchConstants$Execution" 29 yn_E_goTo ∈ wd_all := List.mem_append_right _ (List.mem_append_right _ (List.mem_append_right _ (List.mem_append_left _ (List.mem_of_getElem? (i := 75) rfl))))
theorem wm_376 : Cond.instanceMethod yn_E_goTo ∈ wd_all := List.mem_append_right _ (List.mem_append_right _ (List.mem_append_right _ (List.mem_append_left _ (List.mem_of_getElem? (i := 76) rfl))))
theorem wm_377 : Cond.code yn_E_goTo prog_4_method_6_code 3 none ∈ wd_all := List.mem_append_right _ (List.mem_append_right _ (List.mem_append_right _ (List.mem_append_left _ (List.mem_of_getElem? (i := 77) rfl))))
theorem wm_378 : Cond.methodLink "BranchConstantsLaw" 105 yn_L_run ∈ wd_all := List.mem_append_right _ (List.mem_append_right _ (List.mem_append_right _ (List.mem_append_left _ (List.mem_of_getElem? (i := 78) rfl))))
theorem wm_379 : Cond.static yn_L_run ∈ wd_all := List.mem_append_right _ (List.mem_append_right _ (List.mem_append_right _ (List.mem_append_left _ (List.mem_of_getElem? (i := 79) rfl))))
theorem wm_380 : Cond.codeWith yn_L_run method_11_code 5 (some FieldType.int) [(0, 10, 13, 21), (0, 10, 17, 13), (0, 10, 21, 15)] ∈ wd_all := List.mem_append_right _ (List.mem_append_right _ (List.mem_append_right _ (List.mem_append_left _ (List.mem_of_getElem? (i := 80) rfl))))
theorem wm_381 : Cond.methodLink "BranchConstantsLaw" 45 yn_B_run ∈ wd_all := List.mem_append_right _ (List.mem_append_right _ (List.mem_append_right _ (List.mem_append_left _ (List.mem_of_getElem? (i := 81) rfl))))
theorem wm_382 : Cond.instanceMethod yn_B_run ∈ wd_all := List.mem_append_right _ (List.mem_append_right _ (List.mem_append_right _ (List.mem_append_left _ (List.mem_of_getElem? (i := 82) rfl))))
theorem wm_383 : Cond.selects "BranchConstants" yn_B_run yn_B_run ∈ wd_all := List.mem_append_right _ (List.mem_append_right _ (List.mem_append_right _ (List.mem_append_left _ (List.mem_of_getElem? (i := 83) rfl))))
theorem wm_384 : Cond.code yn_B_run prog_1_method_12_code 3 (some FieldType.int) ∈ wd_all := List.mem_append_right _ (List.mem_append_right _ (List.mem_append_right _ (List.mem_append_left _ (List.mem_of_getElem? (i := 84) rfl))))
theorem wm_385 : Cond.methodLink "BranchConstants" 138 yn_B_refuseUnstarted ∈ wd_all := List.mem_append_right _ (List.mem_append_right _ (List.mem_append_right _ (List.mem_append_left _ (List.mem_of_getElem? (i := 85) rfl))))
theorem wm_386 : Cond.instanceMethod yn_B_refuseUnstarted ∈ wd_all := List.mem_append_right _ (List.mem_append_right _ (List.mem_append_right _ (List.mem_append_left _ (List.mem_of_getElem? (i := 86) rfl))))
theorem wm_387 : Cond.code yn_B_refuseUnstarted prog_1_method_25_code 2 none ∈ wd_all := List.mem_append_right _ (List.mem_append_right _ (List.mem_append_right _ (List.mem_append_left _ (List.mem_of_getElem? (i := 87) rfl))))
theorem wm_388 : Cond.instanceMethod yn_E_advance ∈ wd_all := List.mem_append_right _ (List.mem_append_right _ (List.mem_append_right _ (List.mem_append_left _ (List.mem_of_getElem? (i := 88) rfl))))
theorem wm_389 : Cond.code yn_E_advance prog_4_method_3_code 4 (some FieldType.int) ∈ wd_all := List.mem_append_right _ (List.mem_append_right _ (List.mem_append_right _ (List.mem_append_left _ (List.mem_of_getElem? (i := 89) rfl))))
theorem wm_390 : Cond.methodLink "BranchConstants$Execution" 36 yn_E_step ∈ wd_all := List.mem_append_right _ (List.mem_append_right _ (List.mem_append_right _ (List.mem_append_left _ (List.mem_of_getElem? (i := 90) rfl))))
theorem wm_391 : Cond.instanceMethod yn_E_step ∈ wd_all := List.mem_append_right _ (List.mem_append_right _ (List.mem_append_right _ (List.mem_append_left _ (List.mem_of_getElem? (i := 91) rfl))))
theorem wm_392 : Cond.code yn_E_step prog_4_method_4_code 3 none ∈ wd_all := List.mem_append_right _ (List.mem_append_right _ (List.mem_append_right _ (List.mem_append_left _ (List.mem_of_getElem? (i := 92) rfl))))
theorem wm_393 : Cond.methodLink "BranchConstants$Execution" 54 yn_E_assigned ∈ wd_all := List.mem_append_right _ (List.mem_append_right _ (List.mem_append_right _ (List.mem_append_left _ (List.mem_of_getElem? (i := 93) rfl))))
theorem wm_394 : Cond.instanceMethod yn_E_assigned ∈ wd_all := List.mem_append_right _ (List.mem_append_right _ (List.mem_append_right _ (List.mem_append_left _ (List.mem_of_getElem? (i := 94) rfl))))
theorem wm_395 : Cond.code yn_E_assigned prog_4_method_5_code 4 (some FieldType.int) ∈ wd_all := List.mem_append_right _ (List.mem_append_right _ (List.mem_append_right _ (List.mem_append_left _ (List.mem_of_getElem? (i := 95) rfl))))
theorem wm_396 : Cond.methodLink "BranchConstantsLaw" 108 yn_L_place ∈ wd_all := List.mem_append_right _ (List.mem_append_right _ (List.mem_append_right _ (List.mem_append_left _ (List.mem_of_getElem? (i := 96) rfl))))
theorem wm_397 : Cond.static yn_L_place ∈ wd_all := List.mem_append_right _ (List.mem_append_right _ (List.mem_append_right _ (List.mem_append_left _ (List.mem_of_getElem? (i := 97) rfl))))
theorem wm_398 : Cond.codeWith yn_L_place method_12_code 4 (some FieldType.int) [(0, 9, 12, 21), (0, 9, 15, 15)] ∈ wd_all := List.mem_append_right _ (List.mem_append_right _ (List.mem_append_right _ (List.mem_append_left _ (List.mem_of_getElem? (i := 98) rfl))))
theorem wm_399 : Cond.methodLink "BranchConstantsLaw" 48 yn_B_place ∈ wd_all := List.mem_append_right _ (List.mem_append_right _ (List.mem_append_right _ (List.mem_append_left _ (List.mem_of_getElem? (i := 99) rfl))))
theorem wm_400 : Cond.instanceMethod yn_B_place ∈ wd_all := List.mem_append_right _ (List.mem_append_right _ (List.mem_append_right _ (List.mem_append_right _ (List.mem_append_left _ (List.mem_of_getElem? (i := 0) rfl)))))
theorem wm_401 : Cond.selects "BranchConstants" yn_B_place yn_B_place ∈ wd_all := List.mem_append_right _ (List.mem_append_right _ (List.mem_append_right _ (List.mem_append_right _ (List.mem_append_left _ (List.mem_of_getElem? (i := 1) rfl)))))
theorem wm_402 : Cond.code yn_B_place prog_1_method_13_code 2 (some FieldType.int) ∈ wd_all := List.mem_append_right _ (List.mem_append_right _ (List.mem_append_right _ (List.mem_append_right _ (List.mem_append_left _ (List.mem_of_getElem? (i := 2) rfl)))))
theorem wm_403 : Cond.methodLink "BranchConstantsLaw" 111 yn_L_value ∈ wd_all := List.mem_append_right _ (List.mem_append_right _ (List.mem_append_right _ (List.mem_append_right _ (List.mem_append_left _ (List.mem_of_getElem? (i := 3) rfl)))))
theorem wm_404 : Cond.static yn_L_value ∈ wd_all := List.mem_append_right _ (List.mem_append_right _ (List.mem_append_right _ (List.mem_append_right _ (List.mem_append_left _ (List.mem_of_getElem? (i := 4) rfl)))))
theorem wm_405 : Cond.codeWith yn_L_value method_13_code 5 (some FieldType.int) [(0, 10, 13, 21), (0, 10, 17, 15)] ∈ wd_all := List.mem_append_right _ (List.mem_append_right _ (List.mem_append_right _ (List.mem_append_right _ (List.mem_append_left _ (List.mem_of_getElem? (i := 5) rfl)))))
theorem wm_406 : Cond.methodLink "BranchConstantsLaw" 52 yn_B_value ∈ wd_all := List.mem_append_right _ (List.mem_append_right _ (List.mem_append_right _ (List.mem_append_right _ (List.mem_append_left _ (List.mem_of_getElem? (i := 6) rfl)))))
theorem wm_407 : Cond.instanceMethod yn_B_value ∈ wd_all := List.mem_append_right _ (List.mem_append_right _ (List.mem_append_right _ (List.mem_append_right _ (List.mem_append_left _ (List.mem_of_getElem? (i := 7) rfl)))))
theorem wm_408 : Cond.selects "BranchConstants" yn_B_value yn_B_value ∈ wd_all := List.mem_append_right _ (List.mem_append_right _ (List.mem_append_right _ (List.mem_append_right _ (List.mem_append_left _ (List.mem_of_getElem? (i := 8) rfl)))))
theorem wm_409 : Cond.code yn_B_value prog_1_method_14_code 3 (some FieldType.int) ∈ wd_all := List.mem_append_right _ (List.mem_append_right _ (List.mem_append_right _ (List.mem_append_right _ (List.mem_append_left _ (List.mem_of_getElem? (i := 9) rfl)))))
theorem wm_410 : Cond.methodLink "BranchConstantsLaw" 114 yn_L_steps ∈ wd_all := List.mem_append_right _ (List.mem_append_right _ (List.mem_append_right _ (List.mem_append_right _ (List.mem_append_left _ (List.mem_of_getElem? (i := 10) rfl)))))
theorem wm_411 : Cond.static yn_L_steps ∈ wd_all := List.mem_append_right _ (List.mem_append_right _ (List.mem_append_right _ (List.mem_append_right _ (List.mem_append_left _ (List.mem_of_getElem? (i := 11) rfl)))))
theorem wm_412 : Cond.codeWith yn_L_steps method_14_code 4 (some FieldType.int) [(0, 9, 12, 21), (0, 9, 15, 15)] ∈ wd_all := List.mem_append_right _ (List.mem_append_right _ (List.mem_append_right _ (List.mem_append_right _ (List.mem_append_left _ (List.mem_of_getElem? (i := 12) rfl)))))
theorem wm_413 : Cond.methodLink "BranchConstantsLaw" 55 yn_B_steps ∈ wd_all := List.mem_append_right _ (List.mem_append_right _ (List.mem_append_right _ (List.mem_append_right _ (List.mem_append_left _ (List.mem_of_getElem? (i := 13) rfl)))))
theorem wm_414 : Cond.instanceMethod yn_B_steps ∈ wd_all := List.mem_append_right _ (List.mem_append_right _ (List.mem_append_right _ (List.mem_append_right _ (List.mem_append_left _ (List.mem_of_getElem? (i := 14) rfl)))))
theorem wm_415 : Cond.selects "BranchConstants" yn_B_steps yn_B_steps ∈ wd_all := List.mem_append_right _ (List.mem_append_right _ (List.mem_append_right _ (List.mem_append_right _ (List.mem_append_left _ (List.mem_of_getElem? (i := 15) rfl)))))
theorem wm_416 : Cond.code yn_B_steps prog_1_method_15_code 2 (some FieldType.int) ∈ wd_all := List.mem_append_right _ (List.mem_append_right _ (List.mem_append_right _ (List.mem_append_right _ (List.mem_append_left _ (List.mem_of_getElem? (i := 16) rfl)))))
theorem wm_417 : Cond.classLink "BranchConstantsLaw" 59 "BranchConstantsModel" ∈ wd_all := List.mem_append_right _ (List.mem_append_right _ (List.mem_append_right _ (List.mem_append_right _ (List.mem_append_left _ (List.mem_of_getElem? (i := 17) rfl)))))
theorem wm_418 : Cond.instantiable "BranchConstantsModel" 19 ∈ wd_all := List.mem_append_right _ (List.mem_append_right _ (List.mem_append_right _ (List.mem_append_right _ (List.mem_append_left _ (List.mem_of_getElem? (i := 18) rfl)))))
theorem wm_419 : Cond.methodLink "BranchConstantsLaw" 61 yn_M_init ∈ wd_all := List.mem_append_right _ (List.mem_append_right _ (List.mem_append_right _ (List.mem_append_right _ (List.mem_append_left _ (List.mem_of_getElem? (i := 19) rfl)))))
theorem wm_420 : Cond.instanceMethod yn_M_init ∈ wd_all := List.mem_append_right _ (List.mem_append_right _ (List.mem_append_right _ (List.mem_append_right _ (List.mem_append_left _ (List.mem_of_getElem? (i := 20) rfl)))))
theorem wm_421 : Cond.code yn_M_init prog_7_method_1_code 1 none ∈ wd_all := List.mem_append_right _ (List.mem_append_right _ (List.mem_append_right _ (List.mem_append_right _ (List.mem_append_left _ (List.mem_of_getElem? (i := 21) rfl)))))
theorem wm_422 : Cond.methodLink "BranchConstantsModel" 1 ⟨"java/lang/Object", "<init>", "()V"⟩ ∈ wd_all := List.mem_append_right _ (List.mem_append_right _ (List.mem_append_right _ (List.mem_append_right _ (List.mem_append_left _ (List.mem_of_getElem? (i := 22) rfl)))))
theorem wm_423 : Cond.fieldLink "BranchConstantsModel" 59 "BranchConstantsModel" "fault" "I" ∈ wd_all := List.mem_append_right _ (List.mem_append_right _ (List.mem_append_right _ (List.mem_append_right _ (List.mem_append_left _ (List.mem_of_getElem? (i := 23) rfl)))))
theorem wm_424 : Cond.fieldLink "BranchConstantsModel" 7 "BranchConstantsModel" "kinds" "[I" ∈ wd_all := List.mem_append_right _ (List.mem_append_right _ (List.mem_append_right _ (List.mem_append_right _ (List.mem_append_left _ (List.mem_of_getElem? (i := 24) rfl)))))
theorem wm_425 : Cond.fieldLink "BranchConstantsModel" 13 "BranchConstantsModel" "ones" "[I" ∈ wd_all := List.mem_append_right _ (List.mem_append_right _ (List.mem_append_right _ (List.mem_append_right _ (List.mem_append_left _ (List.mem_of_getElem? (i := 25) rfl)))))
theorem wm_426 : Cond.fieldLink "BranchConstantsModel" 16 "BranchConstantsModel" "twos" "[I" ∈ wd_all := List.mem_append_right _ (List.mem_append_right _ (List.mem_append_right _ (List.mem_append_right _ (List.mem_append_left _ (List.mem_of_getElem? (i := 26) rfl)))))
theorem wm_427 : Cond.fieldLink "BranchConstantsModel" 19 "BranchConstantsModel" "threes" "[I" ∈ wd_all := List.mem_append_right _ (List.mem_append_right _ (List.mem_append_right _ (List.mem_append_right _ (List.mem_append_left _ (List.mem_of_getElem? (i := 27) rfl)))))
theorem wm_428 : Cond.fieldLink "BranchConstantsModel" 22 "BranchConstantsModel" "sizes" "[I" ∈ wd_all := List.mem_append_right _ (List.mem_append_right _ (List.mem_append_right _ (List.mem_append_right _ (List.mem_append_left _ (List.mem_of_getElem? (i := 28) rfl)))))
theorem wm_429 : Cond.fieldLink "BranchConstantsModel" 67 "BranchConstantsModel" "isRewritten" "Z" ∈ wd_all := List.mem_append_right _ (List.mem_append_right _ (List.mem_append_right _ (List.mem_append_right _ (List.mem_append_left _ (List.mem_of_getElem? (i := 29) rfl)))))
theorem wm_430 : Cond.fieldLink "BranchConstantsModel" 25 "BranchConstantsModel" "isReached" "[Z" ∈ wd_all := List.mem_append_right _ (List.mem_append_right _ (List.mem_append_right _ (List.mem_append_right _ (List.mem_append_left _ (List.mem_of_getElem? (i := 30) rfl)))))
theorem wm_431 : Cond.fieldLink "BranchConstantsModel" 29 "BranchConstantsModel" "facts" "[I" ∈ wd_all := List.mem_append_right _ (List.mem_append_right _ (List.mem_append_right _ (List.mem_append_right _ (List.mem_append_left _ (List.mem_of_getElem? (i := 31) rfl)))))
theorem wm_432 : Cond.fieldLink "BranchConstantsModel" 32 "BranchConstantsModel" "values" "[I" ∈ wd_all := List.mem_append_right _ (List.mem_append_right _ (List.mem_append_right _ (List.mem_append_right _ (List.mem_append_left _ (List.mem_of_getElem? (i := 32) rfl)))))
theorem wm_433 : Cond.fieldLink "BranchConstantsModel" 85 "BranchConstantsModel" "grew" "Z" ∈ wd_all := List.mem_append_right _ (List.mem_append_right _ (List.mem_append_right _ (List.mem_append_right _ (List.mem_append_left _ (List.mem_of_getElem? (i := 33) rfl)))))
theorem wm_434 : Cond.fieldLink "BranchConstantsModel" 35 "BranchConstantsModel" "nowFact" "[I" ∈ wd_all := List.mem_append_right _ (List.mem_append_right _ (List.mem_append_right _ (List.mem_append_right _ (List.mem_append_left _ (List.mem_of_getElem? (i := 34) rfl)))))
theorem wm_435 : Cond.fieldLink "BranchConstantsModel" 38 "BranchConstantsModel" "nowValue" "[I" ∈ wd_all := List.mem_append_right _ (List.mem_append_right _ (List.mem_append_right _ (List.mem_append_right _ (List.mem_append_left _ (List.mem_of_getElem? (i := 35) rfl)))))
theorem wm_436 : Cond.fieldLink "BranchConstantsModel" 41 "BranchConstantsModel" "stays" "[Z" ∈ wd_all := List.mem_append_right _ (List.mem_append_right _ (List.mem_append_right _ (List.mem_append_right _ (List.mem_append_left _ (List.mem_of_getElem? (i := 36) rfl)))))
theorem wm_437 : Cond.fieldLink "BranchConstantsModel" 44 "BranchConstantsModel" "leads" "[I" ∈ wd_all := List.mem_append_right _ (List.mem_append_right _ (List.mem_append_right _ (List.mem_append_right _ (List.mem_append_left _ (List.mem_of_getElem? (i := 37) rfl)))))
theorem wm_438 : Cond.fieldLink "BranchConstantsModel" 47 "BranchConstantsModel" "isOn" "[Z" ∈ wd_all := List.mem_append_right _ (List.mem_append_right _ (List.mem_append_right _ (List.mem_append_right _ (List.mem_append_left _ (List.mem_of_getElem? (i := 38) rfl)))))
theorem wm_439 : Cond.fieldLink "BranchConstantsModel" 50 "BranchConstantsModel" "places" "[I" ∈ wd_all := List.mem_append_right _ (List.mem_append_right _ (List.mem_append_right _ (List.mem_append_right _ (List.mem_append_left _ (List.mem_of_getElem? (i := 39) rfl)))))
theorem wm_440 : Cond.fieldLink "BranchConstantsModel" 53 "BranchConstantsModel" "steps" "[I" ∈ wd_all := List.mem_append_right _ (List.mem_append_right _ (List.mem_append_right _ (List.mem_append_right _ (List.mem_append_left _ (List.mem_of_getElem? (i := 40) rfl)))))
theorem wm_441 : Cond.fieldLink "BranchConstantsModel" 56 "BranchConstantsModel" "variables" "[I" ∈ wd_all := List.mem_append_right _ (List.mem_append_right _ (List.mem_append_right _ (List.mem_append_right _ (List.mem_append_left _ (List.mem_of_getElem? (i := 41) rfl)))))
theorem wm_442 : Cond.lays "BranchConstantsModel" "BranchConstantsModel" "fault" "I" ∈ wd_all := List.mem_append_right _ (List.mem_append_right _ (List.mem_append_right _ (List.mem_append_right _ (List.mem_append_left _ (List.mem_of_getElem? (i := 42) rfl)))))
theorem wm_443 : Cond.laysFinal "BranchConstantsModel" "BranchConstantsModel" "kinds" "[I" ∈ wd_all := List.mem_append_right _ (List.mem_append_right _ (List.mem_append_right _ (List.mem_append_right _ (List.mem_append_left _ (List.mem_of_getElem? (i := 43) rfl)))))
theorem wm_444 : Cond.laysFinal "BranchConstantsModel" "BranchConstantsModel" "ones" "[I" ∈ wd_all := List.mem_append_right _ (List.mem_append_right _ (List.mem_append_right _ (List.mem_append_right _ (List.mem_append_left _ (List.mem_of_getElem? (i := 44) rfl)))))
theorem wm_445 : Cond.laysFinal "BranchConstantsModel" "BranchConstantsModel" "twos" "[I" ∈ wd_all := List.mem_append_right _ (List.mem_append_right _ (List.mem_append_right _ (List.mem_append_right _ (List.mem_append_left _ (List.mem_of_getElem? (i := 45) rfl)))))
theorem wm_446 : Cond.laysFinal "BranchConstantsModel" "BranchConstantsModel" "threes" "[I" ∈ wd_all := List.mem_append_right _ (List.mem_append_right _ (List.mem_append_right _ (List.mem_append_right _ (List.mem_append_left _ (List.mem_of_getElem? (i := 46) rfl)))))
theorem wm_447 : Cond.laysFinal "BranchConstantsModel" "BranchConstantsModel" "sizes" "[I" ∈ wd_all := List.mem_append_right _ (List.mem_append_right _ (List.mem_append_right _ (List.mem_append_right _ (List.mem_append_left _ (List.mem_of_getElem? (i := 47) rfl)))))
theorem wm_448 : Cond.lays "BranchConstantsModel" "BranchConstantsModel" "isRewritten" "Z" ∈ wd_all := List.mem_append_right _ (List.mem_append_right _ (List.mem_append_right _ (List.mem_append_right _ (List.mem_append_left _ (List.mem_of_getElem? (i := 48) rfl)))))
theorem wm_449 : Cond.laysFinal "BranchConstantsModel" "BranchConstantsModel" "isReached" "[Z" ∈ wd_all := List.mem_append_right _ (List.mem_append_right _ (List.mem_append_right _ (List.mem_append_right _ (List.mem_append_left _ (List.mem_of_getElem? (i := 49) rfl)))))
theorem wm_450 : Cond.laysFinal "BranchConstantsModel" "BranchConstantsModel" "facts" "[I" ∈ wd_all := List.mem_append_right _ (List.mem_append_right _ (List.mem_append_right _ (List.mem_append_right _ (List.mem_append_left _ (List.mem_of_getElem? (i := 50) rfl)))))
theorem wm_451 : Cond.laysFinal "BranchConstantsModel" "BranchConstantsModel" "values" "[I" ∈ wd_all := List.mem_append_right _ (List.mem_append_right _ (List.mem_append_right _ (List.mem_append_right _ (List.mem_append_left _ (List.mem_of_getElem? (i := 51) rfl)))))
theorem wm_452 : Cond.lays "BranchConstantsModel" "BranchConstantsModel" "grew" "Z" ∈ wd_all := List.mem_append_right _ (List.mem_append_right _ (List.mem_append_right _ (List.mem_append_right _ (List.mem_append_left _ (List.mem_of_getElem? (i := 52) rfl)))))
theorem wm_453 : Cond.laysFinal "BranchConstantsModel" "BranchConstantsModel" "nowFact" "[I" ∈ wd_all := List.mem_append_right _ (List.mem_append_right _ (List.mem_append_right _ (List.mem_append_right _ (List.mem_append_left _ (List.mem_of_getElem? (i := 53) rfl)))))
theorem wm_454 : Cond.laysFinal "BranchConstantsModel" "BranchConstantsModel" "nowValue" "[I" ∈ wd_all := List.mem_append_right _ (List.mem_append_right _ (List.mem_append_right _ (List.mem_append_right _ (List.mem_append_left _ (List.mem_of_getElem? (i := 54) rfl)))))
theorem wm_455 : Cond.laysFinal "BranchConstantsModel" "BranchConstantsModel" "stays" "[Z" ∈ wd_all := List.mem_append_right _ (List.mem_append_right _ (List.mem_append_right _ (List.mem_append_right _ (List.mem_append_left _ (List.mem_of_getElem? (i := 55) rfl)))))
theorem wm_456 : Cond.laysFinal "BranchConstantsModel" "BranchConstantsModel" "leads" "[I" ∈ wd_all := List.mem_append_right _ (List.mem_append_right _ (List.mem_append_right _ (List.mem_append_right _ (List.mem_append_left _ (List.mem_of_getElem? (i := 56) rfl)))))
theorem wm_457 : Cond.laysFinal "BranchConstantsModel" "BranchConstantsModel" "isOn" "[Z" ∈ wd_all := List.mem_append_right _ (List.mem_append_right _ (List.mem_append_right _ (List.mem_append_right _ (List.mem_append_left _ (List.mem_of_getElem? (i := 57) rfl)))))
theorem wm_458 : Cond.laysFinal "BranchConstantsModel" "BranchConstantsModel" "places" "[I" ∈ wd_all := List.mem_append_right _ (List.mem_append_right _ (List.mem_append_right _ (List.mem_append_right _ (List.mem_append_left _ (List.mem_of_getElem? (i := 58) rfl)))))
theorem wm_459 : Cond.laysFinal "BranchConstantsModel" "BranchConstantsModel" "steps" "[I" ∈ wd_all := List.mem_append_right _ (List.mem_append_right _ (List.mem_append_right _ (List.mem_append_right _ (List.mem_append_left _ (List.mem_of_getElem? (i := 59) rfl)))))
theorem wm_460 : Cond.laysFinal "BranchConstantsModel" "BranchConstantsModel" "variables" "[I" ∈ wd_all := List.mem_append_right _ (List.mem_append_right _ (List.mem_append_right _ (List.mem_append_right _ (List.mem_append_left _ (List.mem_of_getElem? (i := 60) rfl)))))
theorem wm_461 : Cond.superclass "BranchConstantsModel" "java/lang/Object" ∈ wd_all := List.mem_append_right _ (List.mem_append_right _ (List.mem_append_right _ (List.mem_append_right _ (List.mem_append_left _ (List.mem_of_getElem? (i := 61) rfl)))))
theorem wm_462 : Cond.methodLink "BranchConstantsLaw" 68 yn_M_thrown ∈ wd_all := List.mem_append_right _ (List.mem_append_right _ (List.mem_append_right _ (List.mem_append_right _ (List.mem_append_left _ (List.mem_of_getElem? (i := 62) rfl)))))
theorem wm_463 : Cond.instanceMethod yn_M_thrown ∈ wd_all := List.mem_append_right _ (List.mem_append_right _ (List.mem_append_right _ (List.mem_append_right _ (List.mem_append_left _ (List.mem_of_getElem? (i := 63) rfl)))))
theorem wm_464 : Cond.selects "BranchConstantsModel" yn_M_thrown yn_M_thrown ∈ wd_all := List.mem_append_right _ (List.mem_append_right _ (List.mem_append_right _ (List.mem_append_right _ (List.mem_append_left _ (List.mem_of_getElem? (i := 64) rfl)))))
theorem wm_465 : Cond.code yn_M_thrown prog_7_method_2_code 1 (some FieldType.int) ∈ wd_all := List.mem_append_right _ (List.mem_append_right _ (List.mem_append_right _ (List.mem_append_right _ (List.mem_append_left _ (List.mem_of_getElem? (i := 65) rfl)))))
theorem wm_466 : Cond.methodLink "BranchConstantsLaw" 67 yn_M_add ∈ wd_all := List.mem_append_right _ (List.mem_append_right _ (List.mem_append_right _ (List.mem_append_right _ (List.mem_append_left _ (List.mem_of_getElem? (i := 66) rfl)))))
theorem wm_467 : Cond.instanceMethod yn_M_add ∈ wd_all := List.mem_append_right _ (List.mem_append_right _ (List.mem_append_right _ (List.mem_append_right _ (List.mem_append_left _ (List.mem_of_getElem? (i := 67) rfl)))))
theorem wm_468 : Cond.selects "BranchConstantsModel" yn_M_add yn_M_add ∈ wd_all := List.mem_append_right _ (List.mem_append_right _ (List.mem_append_right _ (List.mem_append_right _ (List.mem_append_left _ (List.mem_of_getElem? (i := 68) rfl)))))
theorem wm_469 : Cond.code yn_M_add prog_7_method_8_code 5 (some FieldType.int) ∈ wd_all := List.mem_append_right _ (List.mem_append_right _ (List.mem_append_right _ (List.mem_append_right _ (List.mem_append_left _ (List.mem_of_getElem? (i := 69) rfl)))))
theorem wm_470 : Cond.methodLink "BranchConstantsModel" 71 yn_M_isSound ∈ wd_all := List.mem_append_right _ (List.mem_append_right _ (List.mem_append_right _ (List.mem_append_right _ (List.mem_append_left _ (List.mem_of_getElem? (i := 70) rfl)))))
theorem wm_471 : Cond.static yn_M_isSound ∈ wd_all := List.mem_append_right _ (List.mem_append_right _ (List.mem_append_right _ (List.mem_append_right _ (List.mem_append_left _ (List.mem_of_getElem? (i := 71) rfl)))))
theorem wm_472 : Cond.code yn_M_isSound prog_7_method_5_code 4 (some FieldType.boolean) ∈ wd_all := List.mem_append_right _ (List.mem_append_right _ (List.mem_append_right _ (List.mem_append_right _ (List.mem_append_left _ (List.mem_of_getElem? (i := 72) rfl)))))
theorem wm_473 : Cond.methodLink "BranchConstantsModel" 63 yn_M_isVariable ∈ wd_all := List.mem_append_right _ (List.mem_append_right _ (List.mem_append_right _ (List.mem_append_right _ (List.mem_append_left _ (List.mem_of_getElem? (i := 73) rfl)))))
theorem wm_474 : Cond.static yn_M_isVariable ∈ wd_all := List.mem_append_right _ (List.mem_append_right _ (List.mem_append_right _ (List.mem_append_right _ (List.mem_append_left _ (List.mem_of_getElem? (i := 74) rfl)))))
theorem wm_475 : Cond.code yn_M_isVariable prog_7_method_4_code 1 (some FieldType.boolean) ∈ wd_all := List.mem_append_right _ (List.mem_append_right _ (List.mem_append_right _ (List.mem_append_right _ (List.mem_append_left _ (List.mem_of_getElem? (i := 75) rfl)))))
theorem wm_476 : Cond.methodLink "BranchConstantsModel" 75 yn_M_refused ∈ wd_all := List.mem_append_right _ (List.mem_append_right _ (List.mem_append_right _ (List.mem_append_right _ (List.mem_append_left _ (List.mem_of_getElem? (i := 76) rfl)))))
theorem wm_477 : Cond.instanceMethod yn_M_refused ∈ wd_all := List.mem_append_right _ (List.mem_append_right _ (List.mem_append_right _ (List.mem_append_right _ (List.mem_append_left _ (List.mem_of_getElem? (i := 77) rfl)))))
theorem wm_478 : Cond.code yn_M_refused prog_7_method_3_code 2 (some FieldType.boolean) ∈ wd_all := List.mem_append_right _ (List.mem_append_right _ (List.mem_append_right _ (List.mem_append_right _ (List.mem_append_left _ (List.mem_of_getElem? (i := 78) rfl)))))
theorem wm_479 : Cond.methodLink "BranchConstantsModel" 78 yn_M_put ∈ wd_all := List.mem_append_right _ (List.mem_append_right _ (List.mem_append_right _ (List.mem_append_right _ (List.mem_append_left _ (List.mem_of_getElem? (i := 79) rfl)))))
theorem wm_480 : Cond.instanceMethod yn_M_put ∈ wd_all := List.mem_append_right _ (List.mem_append_right _ (List.mem_append_right _ (List.mem_append_right _ (List.mem_append_left _ (List.mem_of_getElem? (i := 80) rfl)))))
theorem wm_481 : Cond.code yn_M_put prog_7_method_6_code 6 none ∈ wd_all := List.mem_append_right _ (List.mem_append_right _ (List.mem_append_right _ (List.mem_append_right _ (List.mem_append_left _ (List.mem_of_getElem? (i := 81) rfl)))))
theorem wm_482 : Cond.methodLink "BranchConstantsModel" 82 yn_M_changed ∈ wd_all := List.mem_append_right _ (List.mem_append_right _ (List.mem_append_right _ (List.mem_append_right _ (List.mem_append_left _ (List.mem_of_getElem? (i := 82) rfl)))))
theorem wm_483 : Cond.instanceMethod yn_M_changed ∈ wd_all := List.mem_append_right _ (List.mem_append_right _ (List.mem_append_right _ (List.mem_append_right _ (List.mem_append_left _ (List.mem_of_getElem? (i := 83) rfl)))))
theorem wm_484 : Cond.code yn_M_changed prog_7_method_7_code 1 none ∈ wd_all := List.mem_append_right _ (List.mem_append_right _ (List.mem_append_right _ (List.mem_append_right _ (List.mem_append_left _ (List.mem_of_getElem? (i := 84) rfl)))))
theorem wm_485 : Cond.methodLink "BranchConstantsLaw" 74 yn_M_change ∈ wd_all := List.mem_append_right _ (List.mem_append_right _ (List.mem_append_right _ (List.mem_append_right _ (List.mem_append_left _ (List.mem_of_getElem? (i := 85) rfl)))))
theorem wm_486 : Cond.instanceMethod yn_M_change ∈ wd_all := List.mem_append_right _ (List.mem_append_right _ (List.mem_append_right _ (List.mem_append_right _ (List.mem_append_left _ (List.mem_of_getElem? (i := 86) rfl)))))
theorem wm_487 : Cond.selects "BranchConstantsModel" yn_M_change yn_M_change ∈ wd_all := List.mem_append_right _ (List.mem_append_right _ (List.mem_append_right _ (List.mem_append_right _ (List.mem_append_left _ (List.mem_of_getElem? (i := 87) rfl)))))
theorem wm_488 : Cond.code yn_M_change prog_7_method_9_code 6 none ∈ wd_all := List.mem_append_right _ (List.mem_append_right _ (List.mem_append_right _ (List.mem_append_right _ (List.mem_append_left _ (List.mem_of_getElem? (i := 88) rfl)))))
theorem wm_489 : Cond.methodLink "BranchConstantsLaw" 78 yn_M_clear ∈ wd_all := List.mem_append_right _ (List.mem_append_right _ (List.mem_append_right _ (List.mem_append_right _ (List.mem_append_left _ (List.mem_of_getElem? (i := 89) rfl)))))
theorem wm_490 : Cond.instanceMethod yn_M_clear ∈ wd_all := List.mem_append_right _ (List.mem_append_right _ (List.mem_append_right _ (List.mem_append_right _ (List.mem_append_left _ (List.mem_of_getElem? (i := 90) rfl)))))
theorem wm_491 : Cond.selects "BranchConstantsModel" yn_M_clear yn_M_clear ∈ wd_all := List.mem_append_right _ (List.mem_append_right _ (List.mem_append_right _ (List.mem_append_right _ (List.mem_append_left _ (List.mem_of_getElem? (i := 91) rfl)))))
theorem wm_492 : Cond.code yn_M_clear prog_7_method_10_code 2 (some FieldType.int) ∈ wd_all := List.mem_append_right _ (List.mem_append_right _ (List.mem_append_right _ (List.mem_append_right _ (List.mem_append_left _ (List.mem_of_getElem? (i := 92) rfl)))))
theorem wm_493 : Cond.methodLink "BranchConstantsLaw" 82 yn_M_reached ∈ wd_all := List.mem_append_right _ (List.mem_append_right _ (List.mem_append_right _ (List.mem_append_right _ (List.mem_append_left _ (List.mem_of_getElem? (i := 93) rfl)))))
theorem wm_494 : Cond.instanceMethod yn_M_reached ∈ wd_all := List.mem_append_right _ (List.mem_append_right _ (List.mem_append_right _ (List.mem_append_right _ (List.mem_append_left _ (List.mem_of_getElem? (i := 94) rfl)))))
theorem wm_495 : Cond.selects "BranchConstantsModel" yn_M_reached yn_M_reached ∈ wd_all := List.mem_append_right _ (List.mem_append_right _ (List.mem_append_right _ (List.mem_append_right _ (List.mem_append_left _ (List.mem_of_getElem? (i := 95) rfl)))))
theorem wm_496 : Cond.code yn_M_reached prog_7_method_18_code 2 (some FieldType.boolean) ∈ wd_all := List.mem_append_right _ (List.mem_append_right _ (List.mem_append_right _ (List.mem_append_right _ (List.mem_append_left _ (List.mem_of_getElem? (i := 96) rfl)))))
theorem wm_497 : Cond.methodLink "BranchConstantsModel" 106 yn_M_isThere ∈ wd_all := List.mem_append_right _ (List.mem_append_right _ (List.mem_append_right _ (List.mem_append_right _ (List.mem_append_left _ (List.mem_of_getElem? (i := 97) rfl)))))
theorem wm_498 : Cond.instanceMethod yn_M_isThere ∈ wd_all := List.mem_append_right _ (List.mem_append_right _ (List.mem_append_right _ (List.mem_append_right _ (List.mem_append_left _ (List.mem_of_getElem? (i := 98) rfl)))))
theorem wm_499 : Cond.code yn_M_isThere prog_7_method_17_code 2 (some FieldType.boolean) ∈ wd_all := List.mem_append_right _ (List.mem_append_right _ (List.mem_append_right _ (List.mem_append_right _ (List.mem_append_left _ (List.mem_of_getElem? (i := 99) rfl)))))
theorem wm_500 : Cond.methodLink "BranchConstantsModel" 109 yn_M_analyse ∈ wd_all := List.mem_append_right _ (List.mem_append_right _ (List.mem_append_right _ (List.mem_append_right _ (List.mem_append_right _ (List.mem_append_left _ (List.mem_of_getElem? (i := 0) rfl))))))
theorem wm_501 : Cond.instanceMethod yn_M_analyse ∈ wd_all := List.mem_append_right _ (List.mem_append_right _ (List.mem_append_right _ (List.mem_append_right _ (List.mem_append_right _ (List.mem_append_left _ (List.mem_of_getElem? (i := 1) rfl))))))
theorem wm_502 : Cond.code yn_M_analyse prog_7_method_16_code 3 none ∈ wd_all := List.mem_append_right _ (List.mem_append_right _ (List.mem_append_right _ (List.mem_append_right _ (List.mem_append_right _ (List.mem_append_left _ (List.mem_of_getElem? (i := 2) rfl))))))
theorem wm_503 : Cond.methodLink "BranchConstantsModel" 103 yn_M_goOn ∈ wd_all := List.mem_append_right _ (List.mem_append_right _ (List.mem_append_right _ (List.mem_append_right _ (List.mem_append_right _ (List.mem_append_left _ (List.mem_of_getElem? (i := 3) rfl))))))
theorem wm_504 : Cond.instanceMethod yn_M_goOn ∈ wd_all := List.mem_append_right _ (List.mem_append_right _ (List.mem_append_right _ (List.mem_append_right _ (List.mem_append_right _ (List.mem_append_left _ (List.mem_of_getElem? (i := 4) rfl))))))
theorem wm_505 : Cond.code yn_M_goOn prog_7_method_15_code 4 none ∈ wd_all := List.mem_append_right _ (List.mem_append_right _ (List.mem_append_right _ (List.mem_append_right _ (List.mem_append_right _ (List.mem_append_left _ (List.mem_of_getElem? (i := 5) rfl))))))
theorem wm_506 : Cond.methodLink "BranchConstantsModel" 96 yn_M_come ∈ wd_all := List.mem_append_right _ (List.mem_append_right _ (List.mem_append_right _ (List.mem_append_right _ (List.mem_append_right _ (List.mem_append_left _ (List.mem_of_getElem? (i := 6) rfl))))))
theorem wm_507 : Cond.instanceMethod yn_M_come ∈ wd_all := List.mem_append_right _ (List.mem_append_right _ (List.mem_append_right _ (List.mem_append_right _ (List.mem_append_right _ (List.mem_append_left _ (List.mem_of_getElem? (i := 7) rfl))))))
theorem wm_508 : Cond.code yn_M_come prog_7_method_11_code 5 none ∈ wd_all := List.mem_append_right _ (List.mem_append_right _ (List.mem_append_right _ (List.mem_append_right _ (List.mem_append_right _ (List.mem_append_left _ (List.mem_of_getElem? (i := 8) rfl))))))
theorem wm_509 : Cond.methodLink "BranchConstantsModel" 88 yn_M_know ∈ wd_all := List.mem_append_right _ (List.mem_append_right _ (List.mem_append_right _ (List.mem_append_right _ (List.mem_append_right _ (List.mem_append_left _ (List.mem_of_getElem? (i := 9) rfl))))))
theorem wm_510 : Cond.instanceMethod yn_M_know ∈ wd_all := List.mem_append_right _ (List.mem_append_right _ (List.mem_append_right _ (List.mem_append_right _ (List.mem_append_right _ (List.mem_append_left _ (List.mem_of_getElem? (i := 10) rfl))))))
theorem wm_511 : Cond.code yn_M_know prog_7_method_13_code 4 none ∈ wd_all := List.mem_append_right _ (List.mem_append_right _ (List.mem_append_right _ (List.mem_append_right _ (List.mem_append_right _ (List.mem_append_left _ (List.mem_of_getElem? (i := 11) rfl))))))
theorem wm_512 : Cond.methodLink "BranchConstantsModel" 100 yn_M_pass ∈ wd_all := List.mem_append_right _ (List.mem_append_right _ (List.mem_append_right _ (List.mem_append_right _ (List.mem_append_right _ (List.mem_append_left _ (List.mem_of_getElem? (i := 12) rfl))))))
theorem wm_513 : Cond.instanceMethod yn_M_pass ∈ wd_all := List.mem_append_right _ (List.mem_append_right _ (List.mem_append_right _ (List.mem_append_right _ (List.mem_append_right _ (List.mem_append_left _ (List.mem_of_getElem? (i := 13) rfl))))))
theorem wm_514 : Cond.code yn_M_pass prog_7_method_14_code 6 none ∈ wd_all := List.mem_append_right _ (List.mem_append_right _ (List.mem_append_right _ (List.mem_append_right _ (List.mem_append_right _ (List.mem_append_left _ (List.mem_of_getElem? (i := 14) rfl))))))
theorem wm_515 : Cond.methodLink "BranchConstantsModel" 92 yn_M_reckon ∈ wd_all := List.mem_append_right _ (List.mem_append_right _ (List.mem_append_right _ (List.mem_append_right _ (List.mem_append_right _ (List.mem_append_left _ (List.mem_of_getElem? (i := 15) rfl))))))
theorem wm_516 : Cond.static yn_M_reckon ∈ wd_all := List.mem_append_right _ (List.mem_append_right _ (List.mem_append_right _ (List.mem_append_right _ (List.mem_append_right _ (List.mem_append_left _ (List.mem_of_getElem? (i := 16) rfl))))))
theorem wm_517 : Cond.code yn_M_reckon prog_7_method_12_code 3 (some FieldType.int) ∈ wd_all := List.mem_append_right _ (List.mem_append_right _ (List.mem_append_right _ (List.mem_append_right _ (List.mem_append_right _ (List.mem_append_left _ (List.mem_of_getElem? (i := 17) rfl))))))
theorem wm_518 : Cond.methodLink "BranchConstantsLaw" 86 yn_M_reachedAll ∈ wd_all := List.mem_append_right _ (List.mem_append_right _ (List.mem_append_right _ (List.mem_append_right _ (List.mem_append_right _ (List.mem_append_left _ (List.mem_of_getElem? (i := 18) rfl))))))
theorem wm_519 : Cond.instanceMethod yn_M_reachedAll ∈ wd_all := List.mem_append_right _ (List.mem_append_right _ (List.mem_append_right _ (List.mem_append_right _ (List.mem_append_right _ (List.mem_append_left _ (List.mem_of_getElem? (i := 19) rfl))))))
theorem wm_520 : Cond.selects "BranchConstantsModel" yn_M_reachedAll yn_M_reachedAll ∈ wd_all := List.mem_append_right _ (List.mem_append_right _ (List.mem_append_right _ (List.mem_append_right _ (List.mem_append_right _ (List.mem_append_left _ (List.mem_of_getElem? (i := 20) rfl))))))
theorem wm_521 : Cond.code yn_M_reachedAll prog_7_method_19_code 3 (some FieldType.int) ∈ wd_all := List.mem_append_right _ (List.mem_append_right _ (List.mem_append_right _ (List.mem_append_right _ (List.mem_append_right _ (List.mem_append_left _ (List.mem_of_getElem? (i := 21) rfl))))))
theorem wm_522 : Cond.methodLink "BranchConstantsLaw" 90 yn_M_known ∈ wd_all := List.mem_append_right _ (List.mem_append_right _ (List.mem_append_right _ (List.mem_append_right _ (List.mem_append_right _ (List.mem_append_left _ (List.mem_of_getElem? (i := 22) rfl))))))
theorem wm_523 : Cond.instanceMethod yn_M_known ∈ wd_all := List.mem_append_right _ (List.mem_append_right _ (List.mem_append_right _ (List.mem_append_right _ (List.mem_append_right _ (List.mem_append_left _ (List.mem_of_getElem? (i := 23) rfl))))))
theorem wm_524 : Cond.selects "BranchConstantsModel" yn_M_known yn_M_known ∈ wd_all := List.mem_append_right _ (List.mem_append_right _ (List.mem_append_right _ (List.mem_append_right _ (List.mem_append_right _ (List.mem_append_left _ (List.mem_of_getElem? (i := 24) rfl))))))
theorem wm_525 : Cond.code yn_M_known prog_7_method_20_code 3 (some FieldType.int) ∈ wd_all := List.mem_append_right _ (List.mem_append_right _ (List.mem_append_right _ (List.mem_append_right _ (List.mem_append_right _ (List.mem_append_left _ (List.mem_of_getElem? (i := 25) rfl))))))
theorem wm_526 : Cond.methodLink "BranchConstantsLaw" 93 yn_M_constant ∈ wd_all := List.mem_append_right _ (List.mem_append_right _ (List.mem_append_right _ (List.mem_append_right _ (List.mem_append_right _ (List.mem_append_left _ (List.mem_of_getElem? (i := 26) rfl))))))
theorem wm_527 : Cond.instanceMethod yn_M_constant ∈ wd_all := List.mem_append_right _ (List.mem_append_right _ (List.mem_append_right _ (List.mem_append_right _ (List.mem_append_right _ (List.mem_append_left _ (List.mem_of_getElem? (i := 27) rfl))))))
theorem wm_528 : Cond.selects "BranchConstantsModel" yn_M_constant yn_M_constant ∈ wd_all := List.mem_append_right _ (List.mem_append_right _ (List.mem_append_right _ (List.mem_append_right _ (List.mem_append_right _ (List.mem_append_left _ (List.mem_of_getElem? (i := 28) rfl))))))
theorem wm_529 : Cond.code yn_M_constant prog_7_method_21_code 3 (some FieldType.int) ∈ wd_all := List.mem_append_right _ (List.mem_append_right _ (List.mem_append_right _ (List.mem_append_right _ (List.mem_append_right _ (List.mem_append_left _ (List.mem_of_getElem? (i := 29) rfl))))))
theorem wm_530 : Cond.methodLink "BranchConstantsLaw" 97 yn_M_rewrite ∈ wd_all := List.mem_append_right _ (List.mem_append_right _ (List.mem_append_right _ (List.mem_append_right _ (List.mem_append_right _ (List.mem_append_left _ (List.mem_of_getElem? (i := 30) rfl))))))
theorem wm_531 : Cond.instanceMethod yn_M_rewrite ∈ wd_all := List.mem_append_right _ (List.mem_append_right _ (List.mem_append_right _ (List.mem_append_right _ (List.mem_append_right _ (List.mem_append_left _ (List.mem_of_getElem? (i := 31) rfl))))))
theorem wm_532 : Cond.selects "BranchConstantsModel" yn_M_rewrite yn_M_rewrite ∈ wd_all := List.mem_append_right _ (List.mem_append_right _ (List.mem_append_right _ (List.mem_append_right _ (List.mem_append_right _ (List.mem_append_left _ (List.mem_of_getElem? (i := 32) rfl))))))
theorem wm_533 : Cond.code yn_M_rewrite prog_7_method_29_code 1 (some FieldType.int) ∈ wd_all := List.mem_append_right _ (List.mem_append_right _ (List.mem_append_right _ (List.mem_append_right _ (List.mem_append_right _ (List.mem_append_left _ (List.mem_of_getElem? (i := 33) rfl))))))
theorem wm_534 : Cond.methodLink "BranchConstantsModel" 122 yn_M_fold ∈ wd_all := List.mem_append_right _ (List.mem_append_right _ (List.mem_append_right _ (List.mem_append_right _ (List.mem_append_right _ (List.mem_append_left _ (List.mem_of_getElem? (i := 34) rfl))))))
theorem wm_535 : Cond.instanceMethod yn_M_fold ∈ wd_all := List.mem_append_right _ (List.mem_append_right _ (List.mem_append_right _ (List.mem_append_right _ (List.mem_append_right _ (List.mem_append_left _ (List.mem_of_getElem? (i := 35) rfl))))))
theorem wm_536 : Cond.code yn_M_fold prog_7_method_22_code 3 none ∈ wd_all := List.mem_append_right _ (List.mem_append_right _ (List.mem_append_right _ (List.mem_append_right _ (List.mem_append_right _ (List.mem_append_left _ (List.mem_of_getElem? (i := 36) rfl))))))
theorem wm_537 : Cond.methodLink "BranchConstantsModel" 125 yn_M_thread ∈ wd_all := List.mem_append_right _ (List.mem_append_right _ (List.mem_append_right _ (List.mem_append_right _ (List.mem_append_right _ (List.mem_append_left _ (List.mem_of_getElem? (i := 37) rfl))))))
theorem wm_538 : Cond.instanceMethod yn_M_thread ∈ wd_all := List.mem_append_right _ (List.mem_append_right _ (List.mem_append_right _ (List.mem_append_right _ (List.mem_append_right _ (List.mem_append_left _ (List.mem_of_getElem? (i := 38) rfl))))))
theorem wm_539 : Cond.code yn_M_thread prog_7_method_24_code 5 none ∈ wd_all := List.mem_append_right _ (List.mem_append_right _ (List.mem_append_right _ (List.mem_append_right _ (List.mem_append_right _ (List.mem_append_left _ (List.mem_of_getElem? (i := 39) rfl))))))
theorem wm_540 : Cond.methodLink "BranchConstantsModel" 112 yn_M_goes ∈ wd_all := List.mem_append_right _ (List.mem_append_right _ (List.mem_append_right _ (List.mem_append_right _ (List.mem_append_right _ (List.mem_append_left _ (List.mem_of_getElem? (i := 40) rfl))))))
theorem wm_541 : Cond.instanceMethod yn_M_goes ∈ wd_all := List.mem_append_right _ (List.mem_append_right _ (List.mem_append_right _ (List.mem_append_right _ (List.mem_append_right _ (List.mem_append_left _ (List.mem_of_getElem? (i := 41) rfl))))))
theorem wm_542 : Cond.code yn_M_goes prog_7_method_23_code 2 (some FieldType.boolean) ∈ wd_all := List.mem_append_right _ (List.mem_append_right _ (List.mem_append_right _ (List.mem_append_right _ (List.mem_append_right _ (List.mem_append_left _ (List.mem_of_getElem? (i := 42) rfl))))))
theorem wm_543 : Cond.methodLink "BranchConstantsModel" 128 yn_M_drop ∈ wd_all := List.mem_append_right _ (List.mem_append_right _ (List.mem_append_right _ (List.mem_append_right _ (List.mem_append_right _ (List.mem_append_left _ (List.mem_of_getElem? (i := 43) rfl))))))
theorem wm_544 : Cond.instanceMethod yn_M_drop ∈ wd_all := List.mem_append_right _ (List.mem_append_right _ (List.mem_append_right _ (List.mem_append_right _ (List.mem_append_right _ (List.mem_append_left _ (List.mem_of_getElem? (i := 44) rfl))))))
theorem wm_545 : Cond.code yn_M_drop prog_7_method_27_code 5 none ∈ wd_all := List.mem_append_right _ (List.mem_append_right _ (List.mem_append_right _ (List.mem_append_right _ (List.mem_append_right _ (List.mem_append_left _ (List.mem_of_getElem? (i := 45) rfl))))))
theorem wm_546 : Cond.methodLink "BranchConstantsModel" 115 yn_M_mark ∈ wd_all := List.mem_append_right _ (List.mem_append_right _ (List.mem_append_right _ (List.mem_append_right _ (List.mem_append_right _ (List.mem_append_left _ (List.mem_of_getElem? (i := 46) rfl))))))
theorem wm_547 : Cond.instanceMethod yn_M_mark ∈ wd_all := List.mem_append_right _ (List.mem_append_right _ (List.mem_append_right _ (List.mem_append_right _ (List.mem_append_right _ (List.mem_append_left _ (List.mem_of_getElem? (i := 47) rfl))))))
theorem wm_548 : Cond.code yn_M_mark prog_7_method_25_code 2 none ∈ wd_all := List.mem_append_right _ (List.mem_append_right _ (List.mem_append_right _ (List.mem_append_right _ (List.mem_append_right _ (List.mem_append_left _ (List.mem_of_getElem? (i := 48) rfl))))))
theorem wm_549 : Cond.methodLink "BranchConstantsModel" 118 yn_M_nextStaying ∈ wd_all := List.mem_append_right _ (List.mem_append_right _ (List.mem_append_right _ (List.mem_append_right _ (List.mem_append_right _ (List.mem_append_left _ (List.mem_of_getElem? (i := 49) rfl))))))
theorem wm_550 : Cond.instanceMethod yn_M_nextStaying ∈ wd_all := List.mem_append_right _ (List.mem_append_right _ (List.mem_append_right _ (List.mem_append_right _ (List.mem_append_right _ (List.mem_append_left _ (List.mem_of_getElem? (i := 50) rfl))))))
theorem wm_551 : Cond.code yn_M_nextStaying prog_7_method_26_code 3 (some FieldType.int) ∈ wd_all := List.mem_append_right _ (List.mem_append_right _ (List.mem_append_right _ (List.mem_append_right _ (List.mem_append_right _ (List.mem_append_left _ (List.mem_of_getElem? (i := 51) rfl))))))
theorem wm_552 : Cond.methodLink "BranchConstantsModel" 131 yn_M_number ∈ wd_all := List.mem_append_right _ (List.mem_append_right _ (List.mem_append_right _ (List.mem_append_right _ (List.mem_append_right _ (List.mem_append_left _ (List.mem_of_getElem? (i := 52) rfl))))))
theorem wm_553 : Cond.instanceMethod yn_M_number ∈ wd_all := List.mem_append_right _ (List.mem_append_right _ (List.mem_append_right _ (List.mem_append_right _ (List.mem_append_right _ (List.mem_append_left _ (List.mem_of_getElem? (i := 53) rfl))))))
theorem wm_554 : Cond.code yn_M_number prog_7_method_28_code 7 none ∈ wd_all := List.mem_append_right _ (List.mem_append_right _ (List.mem_append_right _ (List.mem_append_right _ (List.mem_append_right _ (List.mem_append_left _ (List.mem_of_getElem? (i := 54) rfl))))))
theorem wm_555 : Cond.methodLink "BranchConstantsLaw" 101 yn_M_code ∈ wd_all := List.mem_append_right _ (List.mem_append_right _ (List.mem_append_right _ (List.mem_append_right _ (List.mem_append_right _ (List.mem_append_left _ (List.mem_of_getElem? (i := 55) rfl))))))
theorem wm_556 : Cond.instanceMethod yn_M_code ∈ wd_all := List.mem_append_right _ (List.mem_append_right _ (List.mem_append_right _ (List.mem_append_right _ (List.mem_append_right _ (List.mem_append_left _ (List.mem_of_getElem? (i := 56) rfl))))))
theorem wm_557 : Cond.selects "BranchConstantsModel" yn_M_code yn_M_code ∈ wd_all := List.mem_append_right _ (List.mem_append_right _ (List.mem_append_right _ (List.mem_append_right _ (List.mem_append_right _ (List.mem_append_left _ (List.mem_of_getElem? (i := 57) rfl))))))
theorem wm_558 : Cond.code yn_M_code prog_7_method_30_code 6 (some FieldType.int) ∈ wd_all := List.mem_append_right _ (List.mem_append_right _ (List.mem_append_right _ (List.mem_append_right _ (List.mem_append_right _ (List.mem_append_left _ (List.mem_of_getElem? (i := 58) rfl))))))
theorem wm_559 : Cond.methodLink "BranchConstantsLaw" 104 yn_M_start ∈ wd_all := List.mem_append_right _ (List.mem_append_right _ (List.mem_append_right _ (List.mem_append_right _ (List.mem_append_right _ (List.mem_append_left _ (List.mem_of_getElem? (i := 59) rfl))))))
theorem wm_560 : Cond.instanceMethod yn_M_start ∈ wd_all := List.mem_append_right _ (List.mem_append_right _ (List.mem_append_right _ (List.mem_append_right _ (List.mem_append_right _ (List.mem_append_left _ (List.mem_of_getElem? (i := 60) rfl))))))
theorem wm_561 : Cond.selects "BranchConstantsModel" yn_M_start yn_M_start ∈ wd_all := List.mem_append_right _ (List.mem_append_right _ (List.mem_append_right _ (List.mem_append_right _ (List.mem_append_right _ (List.mem_append_left _ (List.mem_of_getElem? (i := 61) rfl))))))
theorem wm_562 : Cond.code yn_M_start prog_7_method_32_code 6 none ∈ wd_all := List.mem_append_right _ (List.mem_append_right _ (List.mem_append_right _ (List.mem_append_right _ (List.mem_append_right _ (List.mem_append_left _ (List.mem_of_getElem? (i := 62) rfl))))))
theorem wm_563 : Cond.methodLink "BranchConstantsModel" 134 yn_M_isSide ∈ wd_all := List.mem_append_right _ (List.mem_append_right _ (List.mem_append_right _ (List.mem_append_right _ (List.mem_append_right _ (List.mem_append_left _ (List.mem_of_getElem? (i := 63) rfl))))))
theorem wm_564 : Cond.static yn_M_isSide ∈ wd_all := List.mem_append_right _ (List.mem_append_right _ (List.mem_append_right _ (List.mem_append_right _ (List.mem_append_right _ (List.mem_append_left _ (List.mem_of_getElem? (i := 64) rfl))))))
theorem wm_565 : Cond.code yn_M_isSide prog_7_method_31_code 1 (some FieldType.boolean) ∈ wd_all := List.mem_append_right _ (List.mem_append_right _ (List.mem_append_right _ (List.mem_append_right _ (List.mem_append_right _ (List.mem_append_left _ (List.mem_of_getElem? (i := 65) rfl))))))
theorem wm_566 : Cond.methodLink "BranchConstantsLaw" 107 yn_M_run ∈ wd_all := List.mem_append_right _ (List.mem_append_right _ (List.mem_append_right _ (List.mem_append_right _ (List.mem_append_right _ (List.mem_append_left _ (List.mem_of_getElem? (i := 66) rfl))))))
theorem wm_567 : Cond.instanceMethod yn_M_run ∈ wd_all := List.mem_append_right _ (List.mem_append_right _ (List.mem_append_right _ (List.mem_append_right _ (List.mem_append_right _ (List.mem_append_left _ (List.mem_of_getElem? (i := 67) rfl))))))
theorem wm_568 : Cond.selects "BranchConstantsModel" yn_M_run yn_M_run ∈ wd_all := List.mem_append_right _ (List.mem_append_right _ (List.mem_append_right _ (List.mem_append_right _ (List.mem_append_right _ (List.mem_append_left _ (List.mem_of_getElem? (i := 68) rfl))))))
theorem wm_569 : Cond.code yn_M_run prog_7_method_34_code 4 (some FieldType.int) ∈ wd_all := List.mem_append_right _ (List.mem_append_right _ (List.mem_append_right _ (List.mem_append_right _ (List.mem_append_right _ (List.mem_append_left _ (List.mem_of_getElem? (i := 69) rfl))))))
theorem wm_570 : Cond.methodLink "BranchConstantsModel" 137 yn_M_step ∈ wd_all := List.mem_append_right _ (List.mem_append_right _ (List.mem_append_right _ (List.mem_append_right _ (List.mem_append_right _ (List.mem_append_left _ (List.mem_of_getElem? (i := 70) rfl))))))
theorem wm_571 : Cond.instanceMethod yn_M_step ∈ wd_all := List.mem_append_right _ (List.mem_append_right _ (List.mem_append_right _ (List.mem_append_right _ (List.mem_append_right _ (List.mem_append_left _ (List.mem_of_getElem? (i := 71) rfl))))))
theorem wm_572 : Cond.code yn_M_step prog_7_method_33_code 5 none ∈ wd_all := List.mem_append_right _ (List.mem_append_right _ (List.mem_append_right _ (List.mem_append_right _ (List.mem_append_right _ (List.mem_append_left _ (List.mem_of_getElem? (i := 72) rfl))))))
theorem wm_573 : Cond.methodLink "BranchConstantsLaw" 110 yn_M_place ∈ wd_all := List.mem_append_right _ (List.mem_append_right _ (List.mem_append_right _ (List.mem_append_right _ (List.mem_append_right _ (List.mem_append_left _ (List.mem_of_getElem? (i := 73) rfl))))))
theorem wm_574 : Cond.instanceMethod yn_M_place ∈ wd_all := List.mem_append_right _ (List.mem_append_right _ (List.mem_append_right _ (List.mem_append_right _ (List.mem_append_right _ (List.mem_append_left _ (List.mem_of_getElem? (i := 74) rfl))))))
theorem wm_575 : Cond.selects "BranchConstantsModel" yn_M_place yn_M_place ∈ wd_all := List.mem_append_right _ (List.mem_append_right _ (List.mem_append_right _ (List.mem_append_right _ (List.mem_append_right _ (List.mem_append_left _ (List.mem_of_getElem? (i := 75) rfl))))))
theorem wm_576 : Cond.code yn_M_place prog_7_method_36_code 2 (some FieldType.int) ∈ wd_all := List.mem_append_right _ (List.mem_append_right _ (List.mem_append_right _ (List.mem_append_right _ (List.mem_append_right _ (List.mem_append_left _ (List.mem_of_getElem? (i := 76) rfl))))))
theorem wm_577 : Cond.methodLink "BranchConstantsModel" 140 yn_M_isWrong ∈ wd_all := List.mem_append_right _ (List.mem_append_right _ (List.mem_append_right _ (List.mem_append_right _ (List.mem_append_right _ (List.mem_append_left _ (List.mem_of_getElem? (i := 77) rfl))))))
theorem wm_578 : Cond.instanceMethod yn_M_isWrong ∈ wd_all := List.mem_append_right _ (List.mem_append_right _ (List.mem_append_right _ (List.mem_append_right _ (List.mem_append_right _ (List.mem_append_left _ (List.mem_of_getElem? (i := 78) rfl))))))
theorem wm_579 : Cond.code yn_M_isWrong prog_7_method_35_code 3 (some FieldType.boolean) ∈ wd_all := List.mem_append_right _ (List.mem_append_right _ (List.mem_append_right _ (List.mem_append_right _ (List.mem_append_right _ (List.mem_append_left _ (List.mem_of_getElem? (i := 79) rfl))))))
theorem wm_580 : Cond.methodLink "BranchConstantsLaw" 113 yn_M_value ∈ wd_all := List.mem_append_right _ (List.mem_append_right _ (List.mem_append_right _ (List.mem_append_right _ (List.mem_append_right _ (List.mem_append_left _ (List.mem_of_getElem? (i := 80) rfl))))))
theorem wm_581 : Cond.instanceMethod yn_M_value ∈ wd_all := List.mem_append_right _ (List.mem_append_right _ (List.mem_append_right _ (List.mem_append_right _ (List.mem_append_right _ (List.mem_append_left _ (List.mem_of_getElem? (i := 81) rfl))))))
theorem wm_582 : Cond.selects "BranchConstantsModel" yn_M_value yn_M_value ∈ wd_all := List.mem_append_right _ (List.mem_append_right _ (List.mem_append_right _ (List.mem_append_right _ (List.mem_append_right _ (List.mem_append_left _ (List.mem_of_getElem? (i := 82) rfl))))))
theorem wm_583 : Cond.code yn_M_value prog_7_method_37_code 3 (some FieldType.int) ∈ wd_all := List.mem_append_right _ (List.mem_append_right _ (List.mem_append_right _ (List.mem_append_right _ (List.mem_append_right _ (List.mem_append_left _ (List.mem_of_getElem? (i := 83) rfl))))))
theorem wm_584 : Cond.methodLink "BranchConstantsLaw" 116 yn_M_steps ∈ wd_all := List.mem_append_right _ (List.mem_append_right _ (List.mem_append_right _ (List.mem_append_right _ (List.mem_append_right _ (List.mem_append_left _ (List.mem_of_getElem? (i := 84) rfl))))))
theorem wm_585 : Cond.instanceMethod yn_M_steps ∈ wd_all := List.mem_append_right _ (List.mem_append_right _ (List.mem_append_right _ (List.mem_append_right _ (List.mem_append_right _ (List.mem_append_left _ (List.mem_of_getElem? (i := 85) rfl))))))
theorem wm_586 : Cond.selects "BranchConstantsModel" yn_M_steps yn_M_steps ∈ wd_all := List.mem_append_right _ (List.mem_append_right _ (List.mem_append_right _ (List.mem_append_right _ (List.mem_append_right _ (List.mem_append_left _ (List.mem_of_getElem? (i := 86) rfl))))))
theorem wm_587 : Cond.code yn_M_steps prog_7_method_38_code 2 (some FieldType.int) ∈ wd_all := List.mem_append_right _ (List.mem_append_right _ (List.mem_append_right _ (List.mem_append_right _ (List.mem_append_right _ (List.mem_append_left _ (List.mem_of_getElem? (i := 87) rfl))))))
theorem wm_588 : Cond.arrayClass FieldType.long ∈ wd_all := List.mem_append_right _ (List.mem_append_right _ (List.mem_append_right _ (List.mem_append_right _ (List.mem_append_right _ (List.mem_append_left _ (List.mem_of_getElem? (i := 88) rfl))))))
theorem wm_589 : Cond.sameMethod "java/lang/Throwable" "java/lang/Throwable" "fillInStackTrace" "(I)Ljava/lang/Throwable;" ∈ wd_all := List.mem_append_right _ (List.mem_append_right _ (List.mem_append_right _ (List.mem_append_right _ (List.mem_append_right _ (List.mem_append_left _ (List.mem_of_getElem? (i := 89) rfl))))))
theorem wm_590 : Cond.selects "BranchConstants" yn_B_forgetWhatFollowed yn_B_forgetWhatFollowed ∈ wd_all := List.mem_append_right _ (List.mem_append_right _ (List.mem_append_right _ (List.mem_append_right _ (List.mem_append_right _ (List.mem_append_left _ (List.mem_of_getElem? (i := 90) rfl))))))
theorem wm_591 : Cond.selects "BranchConstants" yn_B_analyseOnce yn_B_analyseOnce ∈ wd_all := List.mem_append_right _ (List.mem_append_right _ (List.mem_append_right _ (List.mem_append_right _ (List.mem_append_right _ (List.mem_append_left _ (List.mem_of_getElem? (i := 91) rfl))))))
theorem wm_592 : Cond.selects "BranchConstants$Analysis" yn_A_perform yn_A_perform ∈ wd_all := List.mem_append_right _ (List.mem_append_right _ (List.mem_append_right _ (List.mem_append_right _ (List.mem_append_right _ (List.mem_append_left _ (List.mem_of_getElem? (i := 92) rfl))))))
theorem wm_593 : Cond.selects "BranchConstants$Analysis" yn_A_comeTo yn_A_comeTo ∈ wd_all := List.mem_append_right _ (List.mem_append_right _ (List.mem_append_right _ (List.mem_append_right _ (List.mem_append_right _ (List.mem_append_left _ (List.mem_of_getElem? (i := 93) rfl))))))
theorem wm_594 : Cond.selects "BranchConstants$Analysis" yn_A_isBehind yn_A_isBehind ∈ wd_all := List.mem_append_right _ (List.mem_append_right _ (List.mem_append_right _ (List.mem_append_right _ (List.mem_append_right _ (List.mem_append_left _ (List.mem_of_getElem? (i := 94) rfl))))))
theorem wm_595 : Cond.selects "BranchConstants$Analysis" yn_A_goOnFrom yn_A_goOnFrom ∈ wd_all := List.mem_append_right _ (List.mem_append_right _ (List.mem_append_right _ (List.mem_append_right _ (List.mem_append_right _ (List.mem_append_left _ (List.mem_of_getElem? (i := 95) rfl))))))
theorem wm_596 : Cond.selects "BranchConstants$Code" yn_C_assigns yn_C_assigns ∈ wd_all := List.mem_append_right _ (List.mem_append_right _ (List.mem_append_right _ (List.mem_append_right _ (List.mem_append_right _ (List.mem_append_left _ (List.mem_of_getElem? (i := 96) rfl))))))
theorem wm_597 : Cond.selects "BranchConstants$Analysis" yn_A_hasConstantResult yn_A_hasConstantResult ∈ wd_all := List.mem_append_right _ (List.mem_append_right _ (List.mem_append_right _ (List.mem_append_right _ (List.mem_append_right _ (List.mem_append_left _ (List.mem_of_getElem? (i := 97) rfl))))))
theorem wm_598 : Cond.selects "BranchConstants$Analysis" yn_A_isConstantZero yn_A_isConstantZero ∈ wd_all := List.mem_append_right _ (List.mem_append_right _ (List.mem_append_right _ (List.mem_append_right _ (List.mem_append_right _ (List.mem_append_left _ (List.mem_of_getElem? (i := 98) rfl))))))
theorem wm_599 : Cond.selects "BranchConstants$Analysis" yn_A_setConstantBehind yn_A_setConstantBehind ∈ wd_all := List.mem_append_right _ (List.mem_append_right _ (List.mem_append_right _ (List.mem_append_right _ (List.mem_append_right _ (List.mem_append_left _ (List.mem_of_getElem? (i := 99) rfl))))))
theorem wm_600 : Cond.selects "BranchConstants$Analysis" yn_A_setVaryingBehind yn_A_setVaryingBehind ∈ wd_all := List.mem_append_right _ (List.mem_append_right _ (List.mem_append_right _ (List.mem_append_right _ (List.mem_append_right _ (List.mem_append_right _ (List.mem_of_getElem? (i := 0) rfl))))))
theorem wm_601 : Cond.selects "BranchConstants$Code" yn_C_target yn_C_target ∈ wd_all := List.mem_append_right _ (List.mem_append_right _ (List.mem_append_right _ (List.mem_append_right _ (List.mem_append_right _ (List.mem_append_right _ (List.mem_of_getElem? (i := 1) rfl))))))
theorem wm_602 : Cond.selects "BranchConstants$Analysis" yn_A_goOnFromZero yn_A_goOnFromZero ∈ wd_all := List.mem_append_right _ (List.mem_append_right _ (List.mem_append_right _ (List.mem_append_right _ (List.mem_append_right _ (List.mem_append_right _ (List.mem_of_getElem? (i := 2) rfl))))))
theorem wm_603 : Cond.selects "BranchConstants$Analysis" yn_A_hasConstantTest yn_A_hasConstantTest ∈ wd_all := List.mem_append_right _ (List.mem_append_right _ (List.mem_append_right _ (List.mem_append_right _ (List.mem_append_right _ (List.mem_append_right _ (List.mem_of_getElem? (i := 3) rfl))))))
theorem wm_604 : Cond.selects "BranchConstants$Analysis" yn_A_wayOfConstantTest yn_A_wayOfConstantTest ∈ wd_all := List.mem_append_right _ (List.mem_append_right _ (List.mem_append_right _ (List.mem_append_right _ (List.mem_append_right _ (List.mem_append_right _ (List.mem_of_getElem? (i := 4) rfl))))))
theorem wm_605 : Cond.selects "BranchConstants$Analysis" yn_A_countReached yn_A_countReached ∈ wd_all := List.mem_append_right _ (List.mem_append_right _ (List.mem_append_right _ (List.mem_append_right _ (List.mem_append_right _ (List.mem_append_right _ (List.mem_of_getElem? (i := 5) rfl))))))
theorem wm_606 : Cond.selects "BranchConstants$Analysis" yn_A_isReached yn_A_isReached ∈ wd_all := List.mem_append_right _ (List.mem_append_right _ (List.mem_append_right _ (List.mem_append_right _ (List.mem_append_right _ (List.mem_append_right _ (List.mem_of_getElem? (i := 6) rfl))))))
theorem wm_607 : Cond.selects "BranchConstants" yn_B_refuseWrongInstruction yn_B_refuseWrongInstruction ∈ wd_all := List.mem_append_right _ (List.mem_append_right _ (List.mem_append_right _ (List.mem_append_right _ (List.mem_append_right _ (List.mem_append_right _ (List.mem_of_getElem? (i := 7) rfl))))))
theorem wm_608 : Cond.selects "BranchConstants$Code" yn_C_put yn_C_put ∈ wd_all := List.mem_append_right _ (List.mem_append_right _ (List.mem_append_right _ (List.mem_append_right _ (List.mem_append_right _ (List.mem_append_right _ (List.mem_of_getElem? (i := 8) rfl))))))
theorem wm_609 : Cond.selects "BranchConstants" yn_B_refuseWrongIndex yn_B_refuseWrongIndex ∈ wd_all := List.mem_append_right _ (List.mem_append_right _ (List.mem_append_right _ (List.mem_append_right _ (List.mem_append_right _ (List.mem_append_right _ (List.mem_of_getElem? (i := 9) rfl))))))
theorem wm_610 : Cond.selects "BranchConstants" yn_B_refuseWrongVariable yn_B_refuseWrongVariable ∈ wd_all := List.mem_append_right _ (List.mem_append_right _ (List.mem_append_right _ (List.mem_append_right _ (List.mem_append_right _ (List.mem_append_right _ (List.mem_of_getElem? (i := 10) rfl))))))
theorem wm_611 : Cond.selects "BranchConstants$Rewriting" yn_W_perform yn_W_perform ∈ wd_all := List.mem_append_right _ (List.mem_append_right _ (List.mem_append_right _ (List.mem_append_right _ (List.mem_append_right _ (List.mem_append_right _ (List.mem_of_getElem? (i := 11) rfl))))))
theorem wm_612 : Cond.selects "BranchConstants$Code" yn_C_putAllOf yn_C_putAllOf ∈ wd_all := List.mem_append_right _ (List.mem_append_right _ (List.mem_append_right _ (List.mem_append_right _ (List.mem_append_right _ (List.mem_append_right _ (List.mem_of_getElem? (i := 12) rfl))))))
theorem wm_613 : Cond.selects "BranchConstants$Code" yn_C_hasTarget yn_C_hasTarget ∈ wd_all := List.mem_append_right _ (List.mem_append_right _ (List.mem_append_right _ (List.mem_append_right _ (List.mem_append_right _ (List.mem_append_right _ (List.mem_of_getElem? (i := 13) rfl))))))
theorem wm_614 : Cond.selects "BranchConstants$Rewriting" yn_W_keepWhatCanBeComeTo yn_W_keepWhatCanBeComeTo ∈ wd_all := List.mem_append_right _ (List.mem_append_right _ (List.mem_append_right _ (List.mem_append_right _ (List.mem_append_right _ (List.mem_append_right _ (List.mem_of_getElem? (i := 14) rfl))))))
theorem wm_615 : Cond.selects "BranchConstants$Rewriting" yn_W_keep yn_W_keep ∈ wd_all := List.mem_append_right _ (List.mem_append_right _ (List.mem_append_right _ (List.mem_append_right _ (List.mem_append_right _ (List.mem_append_right _ (List.mem_of_getElem? (i := 15) rfl))))))
theorem wm_616 : Cond.selects "BranchConstants$Rewriting" yn_W_dropJumpsToTheNext yn_W_dropJumpsToTheNext ∈ wd_all := List.mem_append_right _ (List.mem_append_right _ (List.mem_append_right _ (List.mem_append_right _ (List.mem_append_right _ (List.mem_append_right _ (List.mem_of_getElem? (i := 16) rfl))))))
theorem wm_617 : Cond.selects "BranchConstants$Rewriting" yn_W_numberAnew yn_W_numberAnew ∈ wd_all := List.mem_append_right _ (List.mem_append_right _ (List.mem_append_right _ (List.mem_append_right _ (List.mem_append_right _ (List.mem_append_right _ (List.mem_of_getElem? (i := 17) rfl))))))
theorem wm_618 : Cond.selects "BranchConstants$Rewriting" yn_W_moveToNewNumber yn_W_moveToNewNumber ∈ wd_all := List.mem_append_right _ (List.mem_append_right _ (List.mem_append_right _ (List.mem_append_right _ (List.mem_append_right _ (List.mem_append_right _ (List.mem_of_getElem? (i := 18) rfl))))))
theorem wm_619 : Cond.selects "BranchConstants" yn_B_refuseMissingRewritten yn_B_refuseMissingRewritten ∈ wd_all := List.mem_append_right _ (List.mem_append_right _ (List.mem_append_right _ (List.mem_append_right _ (List.mem_append_right _ (List.mem_append_right _ (List.mem_of_getElem? (i := 19) rfl))))))
theorem wm_620 : Cond.selects "BranchConstants" yn_B_refuseWrongSide yn_B_refuseWrongSide ∈ wd_all := List.mem_append_right _ (List.mem_append_right _ (List.mem_append_right _ (List.mem_append_right _ (List.mem_append_right _ (List.mem_append_right _ (List.mem_of_getElem? (i := 20) rfl))))))
theorem wm_621 : Cond.selects "BranchConstants" yn_B_codeOf yn_B_codeOf ∈ wd_all := List.mem_append_right _ (List.mem_append_right _ (List.mem_append_right _ (List.mem_append_right _ (List.mem_append_right _ (List.mem_append_right _ (List.mem_of_getElem? (i := 21) rfl))))))
theorem wm_622 : Cond.selects "BranchConstants$Code" yn_C_number yn_C_number ∈ wd_all := List.mem_append_right _ (List.mem_append_right _ (List.mem_append_right _ (List.mem_append_right _ (List.mem_append_right _ (List.mem_append_right _ (List.mem_of_getElem? (i := 22) rfl))))))
theorem wm_623 : Cond.selects "BranchConstants" yn_B_runOf yn_B_runOf ∈ wd_all := List.mem_append_right _ (List.mem_append_right _ (List.mem_append_right _ (List.mem_append_right _ (List.mem_append_right _ (List.mem_append_right _ (List.mem_of_getElem? (i := 23) rfl))))))
theorem wm_624 : Cond.selects "BranchConstants$Execution" yn_E_begin yn_E_begin ∈ wd_all := List.mem_append_right _ (List.mem_append_right _ (List.mem_append_right _ (List.mem_append_right _ (List.mem_append_right _ (List.mem_append_right _ (List.mem_of_getElem? (i := 24) rfl))))))
theorem wm_625 : Cond.selects "BranchConstants$Execution" yn_E_goTo yn_E_goTo ∈ wd_all := List.mem_append_right _ (List.mem_append_right _ (List.mem_append_right _ (List.mem_append_right _ (List.mem_append_right _ (List.mem_append_right _ (List.mem_of_getElem? (i := 25) rfl))))))
theorem wm_626 : Cond.selects "BranchConstants" yn_B_refuseUnstarted yn_B_refuseUnstarted ∈ wd_all := List.mem_append_right _ (List.mem_append_right _ (List.mem_append_right _ (List.mem_append_right _ (List.mem_append_right _ (List.mem_append_right _ (List.mem_of_getElem? (i := 26) rfl))))))
theorem wm_627 : Cond.selects "BranchConstants$Execution" yn_E_advance yn_E_advance ∈ wd_all := List.mem_append_right _ (List.mem_append_right _ (List.mem_append_right _ (List.mem_append_right _ (List.mem_append_right _ (List.mem_append_right _ (List.mem_of_getElem? (i := 27) rfl))))))
theorem wm_628 : Cond.selects "BranchConstants$Execution" yn_E_step yn_E_step ∈ wd_all := List.mem_append_right _ (List.mem_append_right _ (List.mem_append_right _ (List.mem_append_right _ (List.mem_append_right _ (List.mem_append_right _ (List.mem_of_getElem? (i := 28) rfl))))))
theorem wm_629 : Cond.selects "BranchConstants$Execution" yn_E_assigned yn_E_assigned ∈ wd_all := List.mem_append_right _ (List.mem_append_right _ (List.mem_append_right _ (List.mem_append_right _ (List.mem_append_right _ (List.mem_append_right _ (List.mem_of_getElem? (i := 29) rfl))))))
theorem wm_630 : Cond.selects "BranchConstantsModel" yn_M_refused yn_M_refused ∈ wd_all := List.mem_append_right _ (List.mem_append_right _ (List.mem_append_right _ (List.mem_append_right _ (List.mem_append_right _ (List.mem_append_right _ (List.mem_of_getElem? (i := 30) rfl))))))
theorem wm_631 : Cond.selects "BranchConstantsModel" yn_M_put yn_M_put ∈ wd_all := List.mem_append_right _ (List.mem_append_right _ (List.mem_append_right _ (List.mem_append_right _ (List.mem_append_right _ (List.mem_append_right _ (List.mem_of_getElem? (i := 31) rfl))))))
theorem wm_632 : Cond.selects "BranchConstantsModel" yn_M_changed yn_M_changed ∈ wd_all := List.mem_append_right _ (List.mem_append_right _ (List.mem_append_right _ (List.mem_append_right _ (List.mem_append_right _ (List.mem_append_right _ (List.mem_of_getElem? (i := 32) rfl))))))
theorem wm_633 : Cond.selects "BranchConstantsModel" yn_M_isThere yn_M_isThere ∈ wd_all := List.mem_append_right _ (List.mem_append_right _ (List.mem_append_right _ (List.mem_append_right _ (List.mem_append_right _ (List.mem_append_right _ (List.mem_of_getElem? (i := 33) rfl))))))
theorem wm_634 : Cond.selects "BranchConstantsModel" yn_M_analyse yn_M_analyse ∈ wd_all := List.mem_append_right _ (List.mem_append_right _ (List.mem_append_right _ (List.mem_append_right _ (List.mem_append_right _ (List.mem_append_right _ (List.mem_of_getElem? (i := 34) rfl))))))
theorem wm_635 : Cond.selects "BranchConstantsModel" yn_M_goOn yn_M_goOn ∈ wd_all := List.mem_append_right _ (List.mem_append_right _ (List.mem_append_right _ (List.mem_append_right _ (List.mem_append_right _ (List.mem_append_right _ (List.mem_of_getElem? (i := 35) rfl))))))
theorem wm_636 : Cond.selects "BranchConstantsModel" yn_M_come yn_M_come ∈ wd_all := List.mem_append_right _ (List.mem_append_right _ (List.mem_append_right _ (List.mem_append_right _ (List.mem_append_right _ (List.mem_append_right _ (List.mem_of_getElem? (i := 36) rfl))))))
theorem wm_637 : Cond.selects "BranchConstantsModel" yn_M_know yn_M_know ∈ wd_all := List.mem_append_right _ (List.mem_append_right _ (List.mem_append_right _ (List.mem_append_right _ (List.mem_append_right _ (List.mem_append_right _ (List.mem_of_getElem? (i := 37) rfl))))))
theorem wm_638 : Cond.selects "BranchConstantsModel" yn_M_pass yn_M_pass ∈ wd_all := List.mem_append_right _ (List.mem_append_right _ (List.mem_append_right _ (List.mem_append_right _ (List.mem_append_right _ (List.mem_append_right _ (List.mem_of_getElem? (i := 38) rfl))))))
theorem wm_639 : Cond.selects "BranchConstantsModel" yn_M_fold yn_M_fold ∈ wd_all := List.mem_append_right _ (List.mem_append_right _ (List.mem_append_right _ (List.mem_append_right _ (List.mem_append_right _ (List.mem_append_right _ (List.mem_of_getElem? (i := 39) rfl))))))
theorem wm_640 : Cond.selects "BranchConstantsModel" yn_M_thread yn_M_thread ∈ wd_all := List.mem_append_right _ (List.mem_append_right _ (List.mem_append_right _ (List.mem_append_right _ (List.mem_append_right _ (List.mem_append_right _ (List.mem_of_getElem? (i := 40) rfl))))))
theorem wm_641 : Cond.selects "BranchConstantsModel" yn_M_goes yn_M_goes ∈ wd_all := List.mem_append_right _ (List.mem_append_right _ (List.mem_append_right _ (List.mem_append_right _ (List.mem_append_right _ (List.mem_append_right _ (List.mem_of_getElem? (i := 41) rfl))))))
theorem wm_642 : Cond.selects "BranchConstantsModel" yn_M_drop yn_M_drop ∈ wd_all := List.mem_append_right _ (List.mem_append_right _ (List.mem_append_right _ (List.mem_append_right _ (List.mem_append_right _ (List.mem_append_right _ (List.mem_of_getElem? (i := 42) rfl))))))
theorem wm_643 : Cond.selects "BranchConstantsModel" yn_M_mark yn_M_mark ∈ wd_all := List.mem_append_right _ (List.mem_append_right _ (List.mem_append_right _ (List.mem_append_right _ (List.mem_append_right _ (List.mem_append_right _ (List.mem_of_getElem? (i := 43) rfl))))))
theorem wm_644 : Cond.selects "BranchConstantsModel" yn_M_nextStaying yn_M_nextStaying ∈ wd_all := List.mem_append_right _ (List.mem_append_right _ (List.mem_append_right _ (List.mem_append_right _ (List.mem_append_right _ (List.mem_append_right _ (List.mem_of_getElem? (i := 44) rfl))))))
theorem wm_645 : Cond.selects "BranchConstantsModel" yn_M_number yn_M_number ∈ wd_all := List.mem_append_right _ (List.mem_append_right _ (List.mem_append_right _ (List.mem_append_right _ (List.mem_append_right _ (List.mem_append_right _ (List.mem_of_getElem? (i := 45) rfl))))))
theorem wm_646 : Cond.selects "BranchConstantsModel" yn_M_step yn_M_step ∈ wd_all := List.mem_append_right _ (List.mem_append_right _ (List.mem_append_right _ (List.mem_append_right _ (List.mem_append_right _ (List.mem_append_right _ (List.mem_of_getElem? (i := 46) rfl))))))
theorem wm_647 : Cond.selects "BranchConstantsModel" yn_M_isWrong yn_M_isWrong ∈ wd_all := List.mem_append_right _ (List.mem_append_right _ (List.mem_append_right _ (List.mem_append_right _ (List.mem_append_right _ (List.mem_append_right _ (List.mem_of_getElem? (i := 47) rfl))))))
theorem wi_A : ∀ w ∈ u_ws rc_A fc_A 6, w ∈ wd_all := by
  have e : u_ws rc_A fc_A 6 = [Cond.laysFinal "BranchConstants$Analysis" "BranchConstants$Analysis" "states" "[I", Cond.laysFinal "BranchConstants$Analysis" "BranchConstants$Analysis" "constants" "[I", Cond.laysFinal "BranchConstants$Analysis" "BranchConstants$Analysis" "isWaiting" "[Z", Cond.laysFinal "BranchConstants$Analysis" "BranchConstants$Analysis" "statesBehind" "[I", Cond.laysFinal "BranchConstants$Analysis" "BranchConstants$Analysis" "constantsBehind" "[I", Cond.lays "BranchConstants$Analysis" "BranchConstants$Analysis" "result" "I"] := by rfl
  rw [e]
  exact List.forall_mem_cons.mpr ⟨wm_51, List.forall_mem_cons.mpr ⟨wm_52, List.forall_mem_cons.mpr ⟨wm_53, List.forall_mem_cons.mpr ⟨wm_54, List.forall_mem_cons.mpr ⟨wm_55, List.forall_mem_cons.mpr ⟨wm_56, fun _ h => absurd h List.not_mem_nil⟩⟩⟩⟩⟩⟩
theorem wi_C : ∀ w ∈ u_ws rc_C fc_C 5, w ∈ wd_all := by
  have e : u_ws rc_C fc_C 5 = [Cond.laysFinal "BranchConstants$Code" "BranchConstants$Code" "kinds" "[I", Cond.laysFinal "BranchConstants$Code" "BranchConstants$Code" "ones" "[I", Cond.laysFinal "BranchConstants$Code" "BranchConstants$Code" "twos" "[I", Cond.laysFinal "BranchConstants$Code" "BranchConstants$Code" "threes" "[I", Cond.lays "BranchConstants$Code" "BranchConstants$Code" "count" "I"] := by rfl
  rw [e]
  exact List.forall_mem_cons.mpr ⟨wm_33, List.forall_mem_cons.mpr ⟨wm_34, List.forall_mem_cons.mpr ⟨wm_35, List.forall_mem_cons.mpr ⟨wm_36, List.forall_mem_cons.mpr ⟨wm_37, fun _ h => absurd h List.not_mem_nil⟩⟩⟩⟩⟩
theorem wi_E : ∀ w ∈ u_ws rc_E fc_E 4, w ∈ wd_all := by
  have e : u_ws rc_E fc_E 4 = [Cond.laysFinal "BranchConstants$Execution" "BranchConstants$Execution" "values" "[I", Cond.lays "BranchConstants$Execution" "BranchConstants$Execution" "place" "I", Cond.lays "BranchConstants$Execution" "BranchConstants$Execution" "steps" "I", Cond.lays "BranchConstants$Execution" "BranchConstants$Execution" "isStarted" "Z"] := by rfl
  rw [e]
  exact List.forall_mem_cons.mpr ⟨wm_82, List.forall_mem_cons.mpr ⟨wm_83, List.forall_mem_cons.mpr ⟨wm_84, List.forall_mem_cons.mpr ⟨wm_85, fun _ h => absurd h List.not_mem_nil⟩⟩⟩⟩
theorem wi_W : ∀ w ∈ u_ws rc_W fc_W 4, w ∈ wd_all := by
  have e : u_ws rc_W fc_W 4 = [Cond.laysFinal "BranchConstants$Rewriting" "BranchConstants$Rewriting" "stays" "[Z", Cond.laysFinal "BranchConstants$Rewriting" "BranchConstants$Rewriting" "queue" "[I", Cond.laysFinal "BranchConstants$Rewriting" "BranchConstants$Rewriting" "newNumbers" "[I", Cond.lays "BranchConstants$Rewriting" "BranchConstants$Rewriting" "queued" "I"] := by rfl
  rw [e]
  exact List.forall_mem_cons.mpr ⟨wm_68, List.forall_mem_cons.mpr ⟨wm_69, List.forall_mem_cons.mpr ⟨wm_70, List.forall_mem_cons.mpr ⟨wm_71, fun _ h => absurd h List.not_mem_nil⟩⟩⟩⟩
theorem wi_B : ∀ w ∈ u_ws rc_B fc_B 8, w ∈ wd_all := by
  have e : u_ws rc_B fc_B 8 = [Cond.laysFinal "BranchConstants" "BranchConstants" "program" "LBranchConstants$Code;", Cond.laysFinal "BranchConstants" "BranchConstants" "rewritten" "LBranchConstants$Code;", Cond.laysFinal "BranchConstants" "BranchConstants" "analysis" "LBranchConstants$Analysis;", Cond.laysFinal "BranchConstants" "BranchConstants" "rewriting" "LBranchConstants$Rewriting;", Cond.laysFinal "BranchConstants" "BranchConstants" "programRun" "LBranchConstants$Execution;", Cond.laysFinal "BranchConstants" "BranchConstants" "rewrittenRun" "LBranchConstants$Execution;", Cond.lays "BranchConstants" "BranchConstants" "isAnalysed" "Z", Cond.lays "BranchConstants" "BranchConstants" "isRewritten" "Z"] := by rfl
  rw [e]
  exact List.forall_mem_cons.mpr ⟨wm_95, List.forall_mem_cons.mpr ⟨wm_96, List.forall_mem_cons.mpr ⟨wm_97, List.forall_mem_cons.mpr ⟨wm_98, List.forall_mem_cons.mpr ⟨wm_99, List.forall_mem_cons.mpr ⟨wm_100, List.forall_mem_cons.mpr ⟨wm_101, List.forall_mem_cons.mpr ⟨wm_102, fun _ h => absurd h List.not_mem_nil⟩⟩⟩⟩⟩⟩⟩⟩
theorem wi_M : ∀ w ∈ u_ws rc_M fc_M 19, w ∈ wd_all := by
  have e : u_ws rc_M fc_M 19 = [Cond.lays "BranchConstantsModel" "BranchConstantsModel" "fault" "I", Cond.laysFinal "BranchConstantsModel" "BranchConstantsModel" "kinds" "[I", Cond.laysFinal "BranchConstantsModel" "BranchConstantsModel" "ones" "[I", Cond.laysFinal "BranchConstantsModel" "BranchConstantsModel" "twos" "[I", Cond.laysFinal "BranchConstantsModel" "BranchConstantsModel" "threes" "[I", Cond.laysFinal "BranchConstantsModel" "BranchConstantsModel" "sizes" "[I", Cond.lays "BranchConstantsModel" "BranchConstantsModel" "isRewritten" "Z", Cond.laysFinal "BranchConstantsModel" "BranchConstantsModel" "isReached" "[Z", Cond.laysFinal "BranchConstantsModel" "BranchConstantsModel" "facts" "[I", Cond.laysFinal "BranchConstantsModel" "BranchConstantsModel" "values" "[I", Cond.lays "BranchConstantsModel" "BranchConstantsModel" "grew" "Z", Cond.laysFinal "BranchConstantsModel" "BranchConstantsModel" "nowFact" "[I", Cond.laysFinal "BranchConstantsModel" "BranchConstantsModel" "nowValue" "[I", Cond.laysFinal "BranchConstantsModel" "BranchConstantsModel" "stays" "[Z", Cond.laysFinal "BranchConstantsModel" "BranchConstantsModel" "leads" "[I", Cond.laysFinal "BranchConstantsModel" "BranchConstantsModel" "isOn" "[Z", Cond.laysFinal "BranchConstantsModel" "BranchConstantsModel" "places" "[I", Cond.laysFinal "BranchConstantsModel" "BranchConstantsModel" "steps" "[I", Cond.laysFinal "BranchConstantsModel" "BranchConstantsModel" "variables" "[I"] := by rfl
  rw [e]
  exact List.forall_mem_cons.mpr ⟨wm_442, List.forall_mem_cons.mpr ⟨wm_443, List.forall_mem_cons.mpr ⟨wm_444, List.forall_mem_cons.mpr ⟨wm_445, List.forall_mem_cons.mpr ⟨wm_446, List.forall_mem_cons.mpr ⟨wm_447, List.forall_mem_cons.mpr ⟨wm_448, List.forall_mem_cons.mpr ⟨wm_449, List.forall_mem_cons.mpr ⟨wm_450, List.forall_mem_cons.mpr ⟨wm_451, List.forall_mem_cons.mpr ⟨wm_452, List.forall_mem_cons.mpr ⟨wm_453, List.forall_mem_cons.mpr ⟨wm_454, List.forall_mem_cons.mpr ⟨wm_455, List.forall_mem_cons.mpr ⟨wm_456, List.forall_mem_cons.mpr ⟨wm_457, List.forall_mem_cons.mpr ⟨wm_458, List.forall_mem_cons.mpr ⟨wm_459, List.forall_mem_cons.mpr ⟨wm_460, fun _ h => absurd h List.not_mem_nil⟩⟩⟩⟩⟩⟩⟩⟩⟩⟩⟩⟩⟩⟩⟩⟩⟩⟩⟩
def nw_all : List Cond := [Cond.methodLinkNest "BranchConstants" 9 yn_C_init "BranchConstants", Cond.fieldLinkNest "BranchConstants$Rewriting" 71 "BranchConstants$Code" "kinds" "[I" "BranchConstants", Cond.fieldLinkNest "BranchConstants$Analysis" 79 "BranchConstants$Code" "kinds" "[I" "BranchConstants", Cond.fieldLinkNest "BranchConstants$Execution" 39 "BranchConstants$Code" "kinds" "[I" "BranchConstants", Cond.fieldLinkNest "BranchConstants$Rewriting" 61 "BranchConstants$Code" "ones" "[I" "BranchConstants", Cond.fieldLinkNest "BranchConstants$Analysis" 65 "BranchConstants$Code" "ones" "[I" "BranchConstants", Cond.fieldLinkNest "BranchConstants$Execution" 51 "BranchConstants$Code" "ones" "[I" "BranchConstants", Cond.fieldLinkNest "BranchConstants$Rewriting" 84 "BranchConstants$Code" "twos" "[I" "BranchConstants", Cond.fieldLinkNest "BranchConstants$Execution" 58 "BranchConstants$Code" "twos" "[I" "BranchConstants", Cond.fieldLinkNest "BranchConstants$Analysis" 100 "BranchConstants$Code" "twos" "[I" "BranchConstants", Cond.fieldLinkNest "BranchConstants$Execution" 61 "BranchConstants$Code" "threes" "[I" "BranchConstants", Cond.fieldLinkNest "BranchConstants$Analysis" 103 "BranchConstants$Code" "threes" "[I" "BranchConstants", Cond.fieldLinkNest "BranchConstants$Rewriting" 104 "BranchConstants$Code" "threes" "[I" "BranchConstants", Cond.fieldLinkNest "BranchConstants" 47 "BranchConstants$Code" "count" "I" "BranchConstants", Cond.fieldLinkNest "BranchConstants$Analysis" 38 "BranchConstants$Code" "count" "I" "BranchConstants", Cond.fieldLinkNest "BranchConstants$Rewriting" 44 "BranchConstants$Code" "count" "I" "BranchConstants", Cond.fieldLinkNest "BranchConstants$Execution" 44 "BranchConstants$Code" "count" "I" "BranchConstants", Cond.methodLinkNest "BranchConstants" 21 yn_A_init "BranchConstants", Cond.fieldLinkNest "BranchConstants" 83 "BranchConstants$Analysis" "states" "[I" "BranchConstants", Cond.fieldLinkNest "BranchConstants" 91 "BranchConstants$Analysis" "constants" "[I" "BranchConstants", Cond.fieldLinkNest "BranchConstants$Rewriting" 64 "BranchConstants$Analysis" "result" "I" "BranchConstants", Cond.methodLinkNest "BranchConstants" 28 yn_W_init "BranchConstants", Cond.methodLinkNest "BranchConstants" 35 yn_E_init "BranchConstants", Cond.fieldLinkNest "BranchConstants" 148 "BranchConstants$Execution" "values" "[I" "BranchConstants", Cond.fieldLinkNest "BranchConstants" 145 "BranchConstants$Execution" "place" "I" "BranchConstants", Cond.fieldLinkNest "BranchConstants" 151 "BranchConstants$Execution" "steps" "I" "BranchConstants", Cond.fieldLinkNest "BranchConstants" 104 "BranchConstants$Execution" "isStarted" "Z" "BranchConstants", Cond.methodLinkNest "BranchConstants" 157 yn_A_perform "BranchConstants", Cond.methodLinkNest "BranchConstants$Analysis" 47 yn_B_cell "BranchConstants", Cond.methodLinkNest "BranchConstants$Analysis" 57 yn_C_assigns "BranchConstants", Cond.methodLinkNest "BranchConstants$Analysis" 109 yn_B_calculate "BranchConstants", Cond.methodLinkNest "BranchConstants$Analysis" 82 yn_C_target "BranchConstants", Cond.methodLinkNest "BranchConstants" 76 yn_A_countReached "BranchConstants", Cond.methodLinkNest "BranchConstants" 58 yn_C_put "BranchConstants", Cond.methodLinkNest "BranchConstants" 72 yn_A_isReached "BranchConstants", Cond.methodLinkNest "BranchConstants" 96 yn_W_perform "BranchConstants", Cond.methodLinkNest "BranchConstants$Rewriting" 22 yn_C_putAllOf "BranchConstants", Cond.methodLinkNest "BranchConstants$Rewriting" 48 yn_A_isReached "BranchConstants", Cond.methodLinkNest "BranchConstants$Rewriting" 54 yn_C_assigns "BranchConstants", Cond.methodLinkNest "BranchConstants$Rewriting" 57 yn_A_hasConstantResult "BranchConstants", Cond.methodLinkNest "BranchConstants$Rewriting" 67 yn_C_put "BranchConstants", Cond.methodLinkNest "BranchConstants$Rewriting" 74 yn_A_hasConstantTest "BranchConstants", Cond.methodLinkNest "BranchConstants$Rewriting" 77 yn_A_wayOfConstantTest "BranchConstants", Cond.methodLinkNest "BranchConstants$Rewriting" 81 yn_C_hasTarget "BranchConstants", Cond.methodLinkNest "BranchConstants$Rewriting" 87 yn_C_target "BranchConstants", Cond.methodLinkNest "BranchConstants" 122 yn_C_number "BranchConstants", Cond.methodLinkNest "BranchConstants" 129 yn_E_begin "BranchConstants", Cond.methodLinkNest "BranchConstants" 141 yn_E_advance "BranchConstants", Cond.methodLinkNest "BranchConstants$Execution" 47 yn_C_target "BranchConstants", Cond.methodLinkNest "BranchConstants$Execution" 64 yn_B_calculate "BranchConstants"]
theorem nm_0 : Cond.methodLinkNest "BranchConstants" 9 yn_C_init "BranchConstants" ∈ nw_all := List.mem_of_getElem? (i := 0) rfl
theorem nm_1 : Cond.fieldLinkNest "BranchConstants$Rewriting" 71 "BranchConstants$Code" "kinds" "[I" "BranchConstants" ∈ nw_all := List.mem_of_getElem? (i := 1) rfl
theorem nm_2 : Cond.fieldLinkNest "BranchConstants$Analysis" 79 "BranchConstants$Code" "kinds" "[I" "BranchConstants" ∈ nw_all := List.mem_of_getElem? (i := 2) rfl
theorem nm_3 : Cond.fieldLinkNest "BranchConstants$Execution" 39 "BranchConstants$Code" "kinds" "[I" "BranchConstants" ∈ nw_all := List.mem_of_getElem? (i := 3) rfl
theorem nm_4 : Cond.fieldLinkNest "BranchConstants$Rewriting" 61 "BranchConstants$Code" "ones" "[I" "BranchConstants" ∈ nw_all := List.mem_of_getElem? (i := 4) rfl
theorem nm_5 : Cond.fieldLinkNest "BranchConstants$Analysis" 65 "BranchConstants$Code" "ones" "[I" "BranchConstants" ∈ nw_all := List.mem_of_getElem? (i := 5) rfl
theorem nm_6 : Cond.fieldLinkNest "BranchConstants$Execution" 51 "BranchConstants$Code" "ones" "[I" "BranchConstants" ∈ nw_all := List.mem_of_getElem? (i := 6) rfl
theorem nm_7 : Cond.fieldLinkNest "BranchConstants$Rewriting" 84 "BranchConstants$Code" "twos" "[I" "BranchConstants" ∈ nw_all := List.mem_of_getElem? (i := 7) rfl
theorem nm_8 : Cond.fieldLinkNest "BranchConstants$Execution" 58 "BranchConstants$Code" "twos" "[I" "BranchConstants" ∈ nw_all := List.mem_of_getElem? (i := 8) rfl
theorem nm_9 : Cond.fieldLinkNest "BranchConstants$Analysis" 100 "BranchConstants$Code" "twos" "[I" "BranchConstants" ∈ nw_all := List.mem_of_getElem? (i := 9) rfl
theorem nm_10 : Cond.fieldLinkNest "BranchConstants$Execution" 61 "BranchConstants$Code" "threes" "[I" "BranchConstants" ∈ nw_all := List.mem_of_getElem? (i := 10) rfl
theorem nm_11 : Cond.fieldLinkNest "BranchConstants$Analysis" 103 "BranchConstants$Code" "threes" "[I" "BranchConstants" ∈ nw_all := List.mem_of_getElem? (i := 11) rfl
theorem nm_12 : Cond.fieldLinkNest "BranchConstants$Rewriting" 104 "BranchConstants$Code" "threes" "[I" "BranchConstants" ∈ nw_all := List.mem_of_getElem? (i := 12) rfl
theorem nm_13 : Cond.fieldLinkNest "BranchConstants" 47 "BranchConstants$Code" "count" "I" "BranchConstants" ∈ nw_all := List.mem_of_getElem? (i := 13) rfl
theorem nm_14 : Cond.fieldLinkNest "BranchConstants$Analysis" 38 "BranchConstants$Code" "count" "I" "BranchConstants" ∈ nw_all := List.mem_of_getElem? (i := 14) rfl
theorem nm_15 : Cond.fieldLinkNest "BranchConstants$Rewriting" 44 "BranchConstants$Code" "count" "I" "BranchConstants" ∈ nw_all := List.mem_of_getElem? (i := 15) rfl
theorem nm_16 : Cond.fieldLinkNest "BranchConstants$Execution" 44 "BranchConstants$Code" "count" "I" "BranchConstants" ∈ nw_all := List.mem_of_getElem? (i := 16) rfl
theorem nm_17 : Cond.methodLinkNest "BranchConstants" 21 yn_A_init "BranchConstants" ∈ nw_all := List.mem_of_getElem? (i := 17) rfl
theorem nm_18 : Cond.fieldLinkNest "BranchConstants" 83 "BranchConstants$Analysis" "states" "[I" "BranchConstants" ∈ nw_all := List.mem_of_getElem? (i := 18) rfl
theorem nm_19 : Cond.fieldLinkNest "BranchConstants" 91 "BranchConstants$Analysis" "constants" "[I" "BranchConstants" ∈ nw_all := List.mem_of_getElem? (i := 19) rfl
theorem nm_20 : Cond.fieldLinkNest "BranchConstants$Rewriting" 64 "BranchConstants$Analysis" "result" "I" "BranchConstants" ∈ nw_all := List.mem_of_getElem? (i := 20) rfl
theorem nm_21 : Cond.methodLinkNest "BranchConstants" 28 yn_W_init "BranchConstants" ∈ nw_all := List.mem_of_getElem? (i := 21) rfl
theorem nm_22 : Cond.methodLinkNest "BranchConstants" 35 yn_E_init "BranchConstants" ∈ nw_all := List.mem_of_getElem? (i := 22) rfl
theorem nm_23 : Cond.fieldLinkNest "BranchConstants" 148 "BranchConstants$Execution" "values" "[I" "BranchConstants" ∈ nw_all := List.mem_of_getElem? (i := 23) rfl
theorem nm_24 : Cond.fieldLinkNest "BranchConstants" 145 "BranchConstants$Execution" "place" "I" "BranchConstants" ∈ nw_all := List.mem_of_getElem? (i := 24) rfl
theorem nm_25 : Cond.fieldLinkNest "BranchConstants" 151 "BranchConstants$Execution" "steps" "I" "BranchConstants" ∈ nw_all := List.mem_of_getElem? (i := 25) rfl
theorem nm_26 : Cond.fieldLinkNest "BranchConstants" 104 "BranchConstants$Execution" "isStarted" "Z" "BranchConstants" ∈ nw_all := List.mem_of_getElem? (i := 26) rfl
theorem nm_27 : Cond.methodLinkNest "BranchConstants" 157 yn_A_perform "BranchConstants" ∈ nw_all := List.mem_of_getElem? (i := 27) rfl
theorem nm_28 : Cond.methodLinkNest "BranchConstants$Analysis" 47 yn_B_cell "BranchConstants" ∈ nw_all := List.mem_of_getElem? (i := 28) rfl
theorem nm_29 : Cond.methodLinkNest "BranchConstants$Analysis" 57 yn_C_assigns "BranchConstants" ∈ nw_all := List.mem_of_getElem? (i := 29) rfl
theorem nm_30 : Cond.methodLinkNest "BranchConstants$Analysis" 109 yn_B_calculate "BranchConstants" ∈ nw_all := List.mem_of_getElem? (i := 30) rfl
theorem nm_31 : Cond.methodLinkNest "BranchConstants$Analysis" 82 yn_C_target "BranchConstants" ∈ nw_all := List.mem_of_getElem? (i := 31) rfl
theorem nm_32 : Cond.methodLinkNest "BranchConstants" 76 yn_A_countReached "BranchConstants" ∈ nw_all := List.mem_of_getElem? (i := 32) rfl
theorem nm_33 : Cond.methodLinkNest "BranchConstants" 58 yn_C_put "BranchConstants" ∈ nw_all := List.mem_of_getElem? (i := 33) rfl
theorem nm_34 : Cond.methodLinkNest "BranchConstants" 72 yn_A_isReached "BranchConstants" ∈ nw_all := List.mem_of_getElem? (i := 34) rfl
theorem nm_35 : Cond.methodLinkNest "BranchConstants" 96 yn_W_perform "BranchConstants" ∈ nw_all := List.mem_of_getElem? (i := 35) rfl
theorem nm_36 : Cond.methodLinkNest "BranchConstants$Rewriting" 22 yn_C_putAllOf "BranchConstants" ∈ nw_all := List.mem_of_getElem? (i := 36) rfl
theorem nm_37 : Cond.methodLinkNest "BranchConstants$Rewriting" 48 yn_A_isReached "BranchConstants" ∈ nw_all := List.mem_of_getElem? (i := 37) rfl
theorem nm_38 : Cond.methodLinkNest "BranchConstants$Rewriting" 54 yn_C_assigns "BranchConstants" ∈ nw_all := List.mem_of_getElem? (i := 38) rfl
theorem nm_39 : Cond.methodLinkNest "BranchConstants$Rewriting" 57 yn_A_hasConstantResult "BranchConstants" ∈ nw_all := List.mem_of_getElem? (i := 39) rfl
theorem nm_40 : Cond.methodLinkNest "BranchConstants$Rewriting" 67 yn_C_put "BranchConstants" ∈ nw_all := List.mem_of_getElem? (i := 40) rfl
theorem nm_41 : Cond.methodLinkNest "BranchConstants$Rewriting" 74 yn_A_hasConstantTest "BranchConstants" ∈ nw_all := List.mem_of_getElem? (i := 41) rfl
theorem nm_42 : Cond.methodLinkNest "BranchConstants$Rewriting" 77 yn_A_wayOfConstantTest "BranchConstants" ∈ nw_all := List.mem_of_getElem? (i := 42) rfl
theorem nm_43 : Cond.methodLinkNest "BranchConstants$Rewriting" 81 yn_C_hasTarget "BranchConstants" ∈ nw_all := List.mem_of_getElem? (i := 43) rfl
theorem nm_44 : Cond.methodLinkNest "BranchConstants$Rewriting" 87 yn_C_target "BranchConstants" ∈ nw_all := List.mem_of_getElem? (i := 44) rfl
theorem nm_45 : Cond.methodLinkNest "BranchConstants" 122 yn_C_number "BranchConstants" ∈ nw_all := List.mem_of_getElem? (i := 45) rfl
theorem nm_46 : Cond.methodLinkNest "BranchConstants" 129 yn_E_begin "BranchConstants" ∈ nw_all := List.mem_of_getElem? (i := 46) rfl
theorem nm_47 : Cond.methodLinkNest "BranchConstants" 141 yn_E_advance "BranchConstants" ∈ nw_all := List.mem_of_getElem? (i := 47) rfl
theorem nm_48 : Cond.methodLinkNest "BranchConstants$Execution" 47 yn_C_target "BranchConstants" ∈ nw_all := List.mem_of_getElem? (i := 48) rfl
theorem nm_49 : Cond.methodLinkNest "BranchConstants$Execution" 64 yn_B_calculate "BranchConstants" ∈ nw_all := List.mem_of_getElem? (i := 49) rfl
end
section
/-! decode rows, by program -/
theorem de_C_init_0 : decode by_C_init 0 = .ok (.aload_n 0, 1) := by decide +kernel
theorem de_C_init_1 : decode by_C_init 1 = .ok (.invokespecial 3, 3) := by decide +kernel
theorem de_C_init_4 : decode by_C_init 4 = .ok (.aload_n 0, 1) := by decide +kernel
theorem de_C_init_5 : decode by_C_init 5 = .ok (.bipush 40, 2) := by decide +kernel
theorem de_C_init_7 : decode by_C_init 7 = .ok (.newarray .int, 2) := by decide +kernel
theorem de_C_init_9 : decode by_C_init 9 = .ok (.putfield 9, 3) := by decide +kernel
theorem de_C_init_12 : decode by_C_init 12 = .ok (.aload_n 0, 1) := by decide +kernel
theorem de_C_init_13 : decode by_C_init 13 = .ok (.bipush 40, 2) := by decide +kernel
theorem de_C_init_15 : decode by_C_init 15 = .ok (.newarray .int, 2) := by decide +kernel
theorem de_C_init_17 : decode by_C_init 17 = .ok (.putfield 15, 3) := by decide +kernel
theorem de_C_init_20 : decode by_C_init 20 = .ok (.aload_n 0, 1) := by decide +kernel
theorem de_C_init_21 : decode by_C_init 21 = .ok (.bipush 40, 2) := by decide +kernel
theorem de_C_init_23 : decode by_C_init 23 = .ok (.newarray .int, 2) := by decide +kernel
theorem de_C_init_25 : decode by_C_init 25 = .ok (.putfield 18, 3) := by decide +kernel
theorem de_C_init_28 : decode by_C_init 28 = .ok (.aload_n 0, 1) := by decide +kernel
theorem de_C_init_29 : decode by_C_init 29 = .ok (.bipush 40, 2) := by decide +kernel
theorem de_C_init_31 : decode by_C_init 31 = .ok (.newarray .int, 2) := by decide +kernel
theorem de_C_init_33 : decode by_C_init 33 = .ok (.putfield 21, 3) := by decide +kernel
theorem de_C_init_36 : decode by_C_init 36 = .ok (.return_, 1) := by decide +kernel
theorem de_C_put_0 : decode by_C_put 0 = .ok (.aload_n 0, 1) := by decide +kernel
theorem de_C_put_1 : decode by_C_put 1 = .ok (.getfield 9, 3) := by decide +kernel
theorem de_C_put_4 : decode by_C_put 4 = .ok (.iload_n 1, 1) := by decide +kernel
theorem de_C_put_5 : decode by_C_put 5 = .ok (.iload_n 2, 1) := by decide +kernel
theorem de_C_put_6 : decode by_C_put 6 = .ok (.iastore, 1) := by decide +kernel
theorem de_C_put_7 : decode by_C_put 7 = .ok (.aload_n 0, 1) := by decide +kernel
theorem de_C_put_8 : decode by_C_put 8 = .ok (.getfield 15, 3) := by decide +kernel
theorem de_C_put_11 : decode by_C_put 11 = .ok (.iload_n 1, 1) := by decide +kernel
theorem de_C_put_12 : decode by_C_put 12 = .ok (.iload_n 2, 1) := by decide +kernel
theorem de_C_put_13 : decode by_C_put 13 = .ok (.bipush 6, 2) := by decide +kernel
theorem de_C_put_15 : decode by_C_put 15 = .ok (.if_icmp .eq 9, 3) := by decide +kernel
theorem de_C_put_18 : decode by_C_put 18 = .ok (.iload_n 2, 1) := by decide +kernel
theorem de_C_put_19 : decode by_C_put 19 = .ok (.bipush 7, 2) := by decide +kernel
theorem de_C_put_21 : decode by_C_put 21 = .ok (.if_icmp .ne 7, 3) := by decide +kernel
theorem de_C_put_24 : decode by_C_put 24 = .ok (.iconst 0, 1) := by decide +kernel
theorem de_C_put_25 : decode by_C_put 25 = .ok (.goto 4, 3) := by decide +kernel
theorem de_C_put_28 : decode by_C_put 28 = .ok (.iload_n 3, 1) := by decide +kernel
theorem de_C_put_29 : decode by_C_put 29 = .ok (.iastore, 1) := by decide +kernel
theorem de_C_put_30 : decode by_C_put 30 = .ok (.aload_n 0, 1) := by decide +kernel
theorem de_C_put_31 : decode by_C_put 31 = .ok (.getfield 18, 3) := by decide +kernel
theorem de_C_put_34 : decode by_C_put 34 = .ok (.iload_n 1, 1) := by decide +kernel
theorem de_C_put_35 : decode by_C_put 35 = .ok (.iload_n 2, 1) := by decide +kernel
theorem de_C_put_36 : decode by_C_put 36 = .ok (.bipush 7, 2) := by decide +kernel
theorem de_C_put_38 : decode by_C_put 38 = .ok (.if_icmp .ne 7, 3) := by decide +kernel
theorem de_C_put_41 : decode by_C_put 41 = .ok (.iconst 0, 1) := by decide +kernel
theorem de_C_put_42 : decode by_C_put 42 = .ok (.goto 5, 3) := by decide +kernel
theorem de_C_put_45 : decode by_C_put 45 = .ok (.iload 4, 2) := by decide +kernel
theorem de_C_put_47 : decode by_C_put 47 = .ok (.iastore, 1) := by decide +kernel
theorem de_C_put_48 : decode by_C_put 48 = .ok (.aload_n 0, 1) := by decide +kernel
theorem de_C_put_49 : decode by_C_put 49 = .ok (.getfield 21, 3) := by decide +kernel
theorem de_C_put_52 : decode by_C_put 52 = .ok (.iload_n 1, 1) := by decide +kernel
theorem de_C_put_53 : decode by_C_put 53 = .ok (.iload_n 2, 1) := by decide +kernel
theorem de_C_put_54 : decode by_C_put 54 = .ok (.iconst 2, 1) := by decide +kernel
theorem de_C_put_55 : decode by_C_put 55 = .ok (.if_icmp .eq 13, 3) := by decide +kernel
theorem de_C_put_58 : decode by_C_put 58 = .ok (.iload_n 2, 1) := by decide +kernel
theorem de_C_put_59 : decode by_C_put 59 = .ok (.iconst 3, 1) := by decide +kernel
theorem de_C_put_60 : decode by_C_put 60 = .ok (.if_icmp .eq 8, 3) := by decide +kernel
theorem de_C_put_63 : decode by_C_put 63 = .ok (.iload_n 2, 1) := by decide +kernel
theorem de_C_put_64 : decode by_C_put 64 = .ok (.iconst 4, 1) := by decide +kernel
theorem de_C_put_65 : decode by_C_put 65 = .ok (.if_icmp .ne 8, 3) := by decide +kernel
theorem de_C_put_68 : decode by_C_put 68 = .ok (.iload 5, 2) := by decide +kernel
theorem de_C_put_70 : decode by_C_put 70 = .ok (.goto 4, 3) := by decide +kernel
theorem de_C_put_73 : decode by_C_put 73 = .ok (.iconst 0, 1) := by decide +kernel
theorem de_C_put_74 : decode by_C_put 74 = .ok (.iastore, 1) := by decide +kernel
theorem de_C_put_75 : decode by_C_put 75 = .ok (.return_, 1) := by decide +kernel
theorem de_C_putAllOf_0 : decode by_C_putAllOf 0 = .ok (.aload_n 0, 1) := by decide +kernel
theorem de_C_putAllOf_1 : decode by_C_putAllOf 1 = .ok (.aload_n 1, 1) := by decide +kernel
theorem de_C_putAllOf_2 : decode by_C_putAllOf 2 = .ok (.getfield 24, 3) := by decide +kernel
theorem de_C_putAllOf_5 : decode by_C_putAllOf 5 = .ok (.putfield 24, 3) := by decide +kernel
theorem de_C_putAllOf_8 : decode by_C_putAllOf 8 = .ok (.iconst 0, 1) := by decide +kernel
theorem de_C_putAllOf_9 : decode by_C_putAllOf 9 = .ok (.istore_n 2, 1) := by decide +kernel
theorem de_C_putAllOf_10 : decode by_C_putAllOf 10 = .ok (.iload_n 2, 1) := by decide +kernel
theorem de_C_putAllOf_11 : decode by_C_putAllOf 11 = .ok (.aload_n 0, 1) := by decide +kernel
theorem de_C_putAllOf_12 : decode by_C_putAllOf 12 = .ok (.getfield 24, 3) := by decide +kernel
theorem de_C_putAllOf_15 : decode by_C_putAllOf 15 = .ok (.if_icmp .ge 38, 3) := by decide +kernel
theorem de_C_putAllOf_18 : decode by_C_putAllOf 18 = .ok (.aload_n 0, 1) := by decide +kernel
theorem de_C_putAllOf_19 : decode by_C_putAllOf 19 = .ok (.iload_n 2, 1) := by decide +kernel
theorem de_C_putAllOf_20 : decode by_C_putAllOf 20 = .ok (.aload_n 1, 1) := by decide +kernel
theorem de_C_putAllOf_21 : decode by_C_putAllOf 21 = .ok (.getfield 9, 3) := by decide +kernel
theorem de_C_putAllOf_24 : decode by_C_putAllOf 24 = .ok (.iload_n 2, 1) := by decide +kernel
theorem de_C_putAllOf_25 : decode by_C_putAllOf 25 = .ok (.iaload, 1) := by decide +kernel
theorem de_C_putAllOf_26 : decode by_C_putAllOf 26 = .ok (.aload_n 1, 1) := by decide +kernel
theorem de_C_putAllOf_27 : decode by_C_putAllOf 27 = .ok (.getfield 15, 3) := by decide +kernel
theorem de_C_putAllOf_30 : decode by_C_putAllOf 30 = .ok (.iload_n 2, 1) := by decide +kernel
theorem de_C_putAllOf_31 : decode by_C_putAllOf 31 = .ok (.iaload, 1) := by decide +kernel
theorem de_C_putAllOf_32 : decode by_C_putAllOf 32 = .ok (.aload_n 1, 1) := by decide +kernel
theorem de_C_putAllOf_33 : decode by_C_putAllOf 33 = .ok (.getfield 18, 3) := by decide +kernel
theorem de_C_putAllOf_36 : decode by_C_putAllOf 36 = .ok (.iload_n 2, 1) := by decide +kernel
theorem de_C_putAllOf_37 : decode by_C_putAllOf 37 = .ok (.iaload, 1) := by decide +kernel
theorem de_C_putAllOf_38 : decode by_C_putAllOf 38 = .ok (.aload_n 1, 1) := by decide +kernel
theorem de_C_putAllOf_39 : decode by_C_putAllOf 39 = .ok (.getfield 21, 3) := by decide +kernel
theorem de_C_putAllOf_42 : decode by_C_putAllOf 42 = .ok (.iload_n 2, 1) := by decide +kernel
theorem de_C_putAllOf_43 : decode by_C_putAllOf 43 = .ok (.iaload, 1) := by decide +kernel
theorem de_C_putAllOf_44 : decode by_C_putAllOf 44 = .ok (.invokevirtual 28, 3) := by decide +kernel
theorem de_C_putAllOf_47 : decode by_C_putAllOf 47 = .ok (.iinc 2 1, 3) := by decide +kernel
theorem de_C_putAllOf_50 : decode by_C_putAllOf 50 = .ok (.goto (-40), 3) := by decide +kernel
theorem de_C_putAllOf_53 : decode by_C_putAllOf 53 = .ok (.return_, 1) := by decide +kernel
theorem de_C_number_0 : decode by_C_number 0 = .ok (.iload_n 2, 1) := by decide +kernel
theorem de_C_number_1 : decode by_C_number 1 = .ok (.tableswitch 48 0 2 #[27, 34, 41], 27) := by decide +kernel
theorem de_C_number_28 : decode by_C_number 28 = .ok (.aload_n 0, 1) := by decide +kernel
theorem de_C_number_29 : decode by_C_number 29 = .ok (.getfield 9, 3) := by decide +kernel
theorem de_C_number_32 : decode by_C_number 32 = .ok (.iload_n 1, 1) := by decide +kernel
theorem de_C_number_33 : decode by_C_number 33 = .ok (.iaload, 1) := by decide +kernel
theorem de_C_number_34 : decode by_C_number 34 = .ok (.ireturn, 1) := by decide +kernel
theorem de_C_number_35 : decode by_C_number 35 = .ok (.aload_n 0, 1) := by decide +kernel
theorem de_C_number_36 : decode by_C_number 36 = .ok (.getfield 15, 3) := by decide +kernel
theorem de_C_number_39 : decode by_C_number 39 = .ok (.iload_n 1, 1) := by decide +kernel
theorem de_C_number_40 : decode by_C_number 40 = .ok (.iaload, 1) := by decide +kernel
theorem de_C_number_41 : decode by_C_number 41 = .ok (.ireturn, 1) := by decide +kernel
theorem de_C_number_42 : decode by_C_number 42 = .ok (.aload_n 0, 1) := by decide +kernel
theorem de_C_number_43 : decode by_C_number 43 = .ok (.getfield 18, 3) := by decide +kernel
theorem de_C_number_46 : decode by_C_number 46 = .ok (.iload_n 1, 1) := by decide +kernel
theorem de_C_number_47 : decode by_C_number 47 = .ok (.iaload, 1) := by decide +kernel
theorem de_C_number_48 : decode by_C_number 48 = .ok (.ireturn, 1) := by decide +kernel
theorem de_C_number_49 : decode by_C_number 49 = .ok (.aload_n 0, 1) := by decide +kernel
theorem de_C_number_50 : decode by_C_number 50 = .ok (.getfield 21, 3) := by decide +kernel
theorem de_C_number_53 : decode by_C_number 53 = .ok (.iload_n 1, 1) := by decide +kernel
theorem de_C_number_54 : decode by_C_number 54 = .ok (.iaload, 1) := by decide +kernel
theorem de_C_number_55 : decode by_C_number 55 = .ok (.ireturn, 1) := by decide +kernel
theorem de_C_assigns_0 : decode by_C_assigns 0 = .ok (.aload_n 0, 1) := by decide +kernel
theorem de_C_assigns_1 : decode by_C_assigns 1 = .ok (.getfield 9, 3) := by decide +kernel
theorem de_C_assigns_4 : decode by_C_assigns 4 = .ok (.iload_n 1, 1) := by decide +kernel
theorem de_C_assigns_5 : decode by_C_assigns 5 = .ok (.iaload, 1) := by decide +kernel
theorem de_C_assigns_6 : decode by_C_assigns 6 = .ok (.iconst 4, 1) := by decide +kernel
theorem de_C_assigns_7 : decode by_C_assigns 7 = .ok (.if_icmp .gt 7, 3) := by decide +kernel
theorem de_C_assigns_10 : decode by_C_assigns 10 = .ok (.iconst 1, 1) := by decide +kernel
theorem de_C_assigns_11 : decode by_C_assigns 11 = .ok (.goto 4, 3) := by decide +kernel
theorem de_C_assigns_14 : decode by_C_assigns 14 = .ok (.iconst 0, 1) := by decide +kernel
theorem de_C_assigns_15 : decode by_C_assigns 15 = .ok (.ireturn, 1) := by decide +kernel
theorem de_C_hasTarget_0 : decode by_C_hasTarget 0 = .ok (.aload_n 0, 1) := by decide +kernel
theorem de_C_hasTarget_1 : decode by_C_hasTarget 1 = .ok (.getfield 9, 3) := by decide +kernel
theorem de_C_hasTarget_4 : decode by_C_hasTarget 4 = .ok (.iload_n 1, 1) := by decide +kernel
theorem de_C_hasTarget_5 : decode by_C_hasTarget 5 = .ok (.iaload, 1) := by decide +kernel
theorem de_C_hasTarget_6 : decode by_C_hasTarget 6 = .ok (.iconst 5, 1) := by decide +kernel
theorem de_C_hasTarget_7 : decode by_C_hasTarget 7 = .ok (.if_icmp .eq 14, 3) := by decide +kernel
theorem de_C_hasTarget_10 : decode by_C_hasTarget 10 = .ok (.aload_n 0, 1) := by decide +kernel
theorem de_C_hasTarget_11 : decode by_C_hasTarget 11 = .ok (.getfield 9, 3) := by decide +kernel
theorem de_C_hasTarget_14 : decode by_C_hasTarget 14 = .ok (.iload_n 1, 1) := by decide +kernel
theorem de_C_hasTarget_15 : decode by_C_hasTarget 15 = .ok (.iaload, 1) := by decide +kernel
theorem de_C_hasTarget_16 : decode by_C_hasTarget 16 = .ok (.bipush 6, 2) := by decide +kernel
theorem de_C_hasTarget_18 : decode by_C_hasTarget 18 = .ok (.if_icmp .ne 7, 3) := by decide +kernel
theorem de_C_hasTarget_21 : decode by_C_hasTarget 21 = .ok (.iconst 1, 1) := by decide +kernel
theorem de_C_hasTarget_22 : decode by_C_hasTarget 22 = .ok (.goto 4, 3) := by decide +kernel
theorem de_C_hasTarget_25 : decode by_C_hasTarget 25 = .ok (.iconst 0, 1) := by decide +kernel
theorem de_C_hasTarget_26 : decode by_C_hasTarget 26 = .ok (.ireturn, 1) := by decide +kernel
theorem de_C_target_0 : decode by_C_target 0 = .ok (.aload_n 0, 1) := by decide +kernel
theorem de_C_target_1 : decode by_C_target 1 = .ok (.getfield 18, 3) := by decide +kernel
theorem de_C_target_4 : decode by_C_target 4 = .ok (.iload_n 1, 1) := by decide +kernel
theorem de_C_target_5 : decode by_C_target 5 = .ok (.iaload, 1) := by decide +kernel
theorem de_C_target_6 : decode by_C_target 6 = .ok (.aload_n 0, 1) := by decide +kernel
theorem de_C_target_7 : decode by_C_target 7 = .ok (.getfield 24, 3) := by decide +kernel
theorem de_C_target_10 : decode by_C_target 10 = .ok (.if_icmp .ge 12, 3) := by decide +kernel
theorem de_C_target_13 : decode by_C_target 13 = .ok (.aload_n 0, 1) := by decide +kernel
theorem de_C_target_14 : decode by_C_target 14 = .ok (.getfield 18, 3) := by decide +kernel
theorem de_C_target_17 : decode by_C_target 17 = .ok (.iload_n 1, 1) := by decide +kernel
theorem de_C_target_18 : decode by_C_target 18 = .ok (.iaload, 1) := by decide +kernel
theorem de_C_target_19 : decode by_C_target 19 = .ok (.goto 7, 3) := by decide +kernel
theorem de_C_target_22 : decode by_C_target 22 = .ok (.aload_n 0, 1) := by decide +kernel
theorem de_C_target_23 : decode by_C_target 23 = .ok (.getfield 24, 3) := by decide +kernel
theorem de_C_target_26 : decode by_C_target 26 = .ok (.ireturn, 1) := by decide +kernel
end
section
/-! contracts: one form of start and end; nest words go with the start (by program: wip/whole/gen/form.py) -/
def bc_isN : Cond → Bool
  | .fieldLinkNest .. => true
  | .methodLinkNest .. => true
  | _ => false
theorem nw_kind : nw_all.all bc_isN = true := by decide +kernel
def bc_N (U : State) : Prop := ∀ w ∈ nw_all, va_Nw w U
theorem bc_N.warm {s U : State} (hW : s.WarmedH U.vm) (h : bc_N s) : bc_N U := by
  intro w hw
  have h1 := h w hw
  have h2 := List.all_eq_true.mp nw_kind w hw
  cases w <;> first | exact va_Nw.warmF hW h1 | exact va_Nw.warmM hW h1 | exact absurd h2 (by simp [bc_isN])
theorem bc_N.same {s U : State} (hv : s.vm = U.vm) (h : bc_N s) : bc_N U := by
  intro w hw
  have h1 := h w hw
  have h2 := List.all_eq_true.mp nw_kind w hw
  cases w <;> first | exact va_Nw.same rfl hv h1 | exact absurd h2 (by simp [bc_isN])
def bc_Pre (D : va_G) (cl : List vw_C) (tys : List (ClassId × FieldType)) (av : List Value) (ws : va_W) (sz : Nat) : Array Value → State → Prop := va_Pc av (fun U => U.heap.size = sz ∧ va_P D cl ws U.heap ∧ va_K D cl tys U ∧ va_D (fun _ => True) ws ∧ bc_N U)
def bc_B (D : va_G) (cl : List vw_C) (tys : List (ClassId × FieldType)) (A : Nat → Prop) (ws : va_W) (t : State) : Prop := va_P D cl ws t.heap ∧ va_K D cl tys t ∧ va_D A ws
theorem bc_blind {D : va_G} {cl : List vw_C} {tys : List (ClassId × FieldType)} {av : List Value} {ws : va_W} {sz : Nat} : FrameBlind (bc_Pre D cl tys av ws sz) := by
  intro a U g mk q
  obtain ⟨q0, q1, qP, qK, qD, qN⟩ := q
  exact ⟨q0, q1, qP, va_K.moved (u := U) (U := U.calling g mk a) (Vm.Alike.refl U.vm) qK, qD, bc_N.same (s := U) (U := U.calling g mk a) rfl qN⟩
theorem bc_preS {s : State} {H : Heap} {D : va_G} {cl : List vw_C} {tys : List (ClassId × FieldType)} {As : List Value} {ws : va_W} {A : Nat → Prop} (hP : va_P D cl ws H) (hK : va_K D cl tys s) (hD : va_D A ws) (hN : bc_N s) : PreS s H (bc_Pre D cl tys As ws H.size) As :=
  ⟨bc_blind, fun U hU hW => ⟨rfl, by rw [hU], by rw [hU]; exact hP, va_K.moved hW.alike hK, hD.weaken (fun _ _ _ _ => trivial), hN.warm hW⟩⟩
theorem bc_preV {s : State} {H : Heap} {D : va_G} {cl : List vw_C} {tys : List (ClassId × FieldType)} {b : Addr} {As : List Value} {ws : va_W} {A : Nat → Prop} {C : String} (hP : va_P D cl ws H) (hK : va_K D cl tys s) (hD : va_D A ws) (hN : bc_N s) (hrv : ∃ cellB : Cell, H[b]? = some cellB ∧ cellB.vm.isStatics = false ∧ s.vm.findClass C = some cellB.cls) : PreV s H C b (bc_Pre D cl tys (.ref b :: As) ws H.size) As :=
  ⟨bc_blind, hrv, fun U hU hW => ⟨rfl, by rw [hU], by rw [hU]; exact hP, va_K.moved hW.alike hK, hD.weaken (fun _ _ _ _ => trivial), hN.warm hW⟩⟩
theorem bc_good {d : Cond} (hd : d ∈ wd_all) : GoodIn wd_all (d :: wd_all) := by
  intro w hw
  rcases List.mem_cons.mp hw with e | h
  · rw [e]; exact ⟨hd, good_of_word (List.all_eq_true.mp wd_good _ hd)⟩
  · exact ⟨h, good_of_word (List.all_eq_true.mp wd_good _ h)⟩
/-- what stays the same through a method: the machine, its code, its class, the tables' words, nest words, classes -/
def bc_Fx (p : Program) (m : MethodId) (c : Code) (cc : ByteArray) (nL : Nat) (s : State) (args : Array Value) (own : String) (D : va_G) (cl : List vw_C) (tys : List (ClassId × FieldType)) : Prop :=
  p.tables.exec = Jvm.exec ∧ c.code = cc ∧ c.maxLocals = nL ∧ s.vm.findClass own = some m.cls ∧ (∀ w ∈ wd_all, w.before args s = true) ∧ bc_N s ∧ va_K D cl tys s
theorem bc_met {l : Launch} {y : MethodName} {rm : Room} {cc : ByteArray} {maxL : Nat} {ret : Option FieldType} {D : va_G} {cl : List vw_C} {tys : List (ClassId × FieldType)} {av : List Value} {wc : va_W} {sz : Nat} (Qc : (Nat → Prop) → Array Value → State → Outcome → State → Prop) {mc ms : Nat}
    (hy : plainName y.cls = true) (hlen : (lg_sl av).length ≤ maxL)
    (body : ∀ (p : Program) (e : Env) (s : State) (m : MethodId) (args : Array Value) (below : List Frame) (meth : Method) (c : Code) (A : Nat → Prop) (ls : Array Slot), bc_Fx p m c cc maxL s args y.cls D cl tys → meth.sig.returnType = ret → meth.locks = false → meth.name = y.name → (∀ q : Nat, s.heap.size ≤ q → A q) → va_P D cl wc s.heap → va_D A wc → lv_has ls maxL (lv_args 0 av) → va_S A s.heap s.heap [] → W p l e rm s m args below meth c s.heap [] 0 0 (MQ below (Qc A) args s mc ms A) (F0 m 0 ls [])) :
    Met l y (Cond.code y cc maxL ret :: wd_all) rm (bc_Pre D cl tys av wc sz) (Qc (va_A wc sz)) mc ms (va_A wc sz) := by
  refine Met.ofW (cc := cc) (maxL := maxL) (ret := ret) hy rfl ?_
  intro p e s m args below meth c s₁ B hml hv
  obtain ⟨rfl, hsz, hP, hK, hD0, hN⟩ := hv
  subst hsz
  have hl := lv_entry av (n := maxL) hlen
  rw [lg_entry_eq]
  have hts := atoms_spec (ws := Cond.code y cc maxL ret :: wd_all) B.pre
  exact body p e s m _ below meth c _ _ ⟨B.exec, B.bytes, hml, findClass_of_methodNamed B.named, fun w h => hts w (List.mem_cons_of_mem _ h), hN, hK⟩ B.returns B.notSynchronized (name_of_methodNamed B.named B.method).1 (fun q h => Or.inr h) hP hD0.self hl va_S.rf
theorem bc_sub {D : va_G} {cl : List vw_C} {ws wc : va_W} {H : Heap} (hP : va_P D cl ws H) (isC : List Nat) (hC : isC.map (fun i => ws[i]?) = wc.map some) : va_P D cl wc H := by
  intro k q hq
  have h1 : (isC.map (fun i => ws[i]?))[k]? = some (some q) := by rw [hC, List.getElem?_map, hq]; rfl
  rw [List.getElem?_map] at h1
  cases hi : isC[k]? with
  | none => rw [hi] at h1; cases h1
  | some i => rw [hi] at h1; exact hP i q (Option.some.inj h1)
section BCC
variable {p : Program} {l : Launch} {e : Env} {R : Room} {s : State} {m : MethodId} {args : Array Value} {below : List Frame} {meth : Method} {c : Code} {H : Heap} {locs : List Loc} {cells slots : Nat} {Q : State → Prop}
variable {cc bytes : ByteArray} {pc nL maxL n index : Nat} {ls : Array Slot} {rest st0 As : List Value} {b : Addr} {own host C : String} {y : MethodName} {ret : Option FieldType} {rm : Room} {D : va_G} {cl : List vw_C} {A : Nat → Prop} {tys : List (ClassId × FieldType)} {ws wc wr : va_W} {H0 : Heap} {mc ms : Nat}
theorem bc_call_s_v {S : Type} {post : S → Prop} {w1 : S → va_W} (F : bc_Fx p m c cc nL s args own D cl tys) (hM : Met l y (Cond.code y bytes maxL ret :: wd_all) rm (bc_Pre D cl tys As wc H.size) (va_Qv post (fun u t => bc_B D cl tys (va_A wc H.size) (w1 u) t) (va_A wc H.size)) mc ms (va_A wc H.size))
    (k1 : Cond.code y bytes maxL ret ∈ wd_all) (k2 : Cond.initialized y.cls ∈ wd_all) (k3 : Cond.methodLink own index y ∈ wd_all) (k4 : Cond.static y ∈ wd_all)
    (hd : y.cls ≠ "java/lang/invoke/MethodHandle" ∧ y.cls ≠ "java/lang/invoke/VarHandle" ∧ (parseMethodDescriptor y.desc).map (fun d => d.parameters.length) = some n) (hrc : rm.cells = mc) (hrs : rm.slots = ms) (hR : rm.frames + 1 ≤ R.frames ∧ 8 + (maxL + 11) + rm.locals ≤ R.locals)
    (hP : va_P D cl ws H) (hD : va_D A ws) (hS : va_S A H0 H locs) (hA : ∀ q, H0.size ≤ q → A q) (isC isR : List Nat) (hC : isC.map (fun i => ws[i]?) = wc.map some) (hRr : isR.map (fun i => ws[i]?) = wr.map some) (hnC : va_nd isC = true) (hn : va_nd isR = true) (hdis : ∀ i ∈ isR, i ∉ isC)
    (hlen : As.length = n) (hsize : ls.size = nL) (hstack : st0 = As.reverse ++ rest) (hW : (rest.map fun v => v.category).sum ≤ 8) (hdg : decode cc pc = .ok (.invokestatic index, 3)) (hf : cells + mc ≤ R.cells ∧ slots + ms ≤ R.slots)
    (kk : ∀ (u : S) (H1 : Heap) (locs1 : List Loc), post u → va_P D cl (wr ++ w1 u) H1 → va_D A (wr ++ w1 u) → va_S A H0 H1 locs1 → W p l e R s m args below meth c H1 locs1 (cells + mc) (slots + ms) Q (F0 m (pc + 3) ls rest)) : W p l e R s m args below meth c H locs cells slots Q (F0 m pc ls st0) := by
  obtain ⟨hx, hb, hml, ho, htw, hN, hK⟩ := F
  have hFr := va_free (wc := wc) hD hS hA isC hC
  have hPc : va_P D cl wc H := bc_sub hP isC hC
  have hDc : va_D A wc := hD.sub isC hnC hC
  refine va_callv (va_runS (As := As) (rest := rest) ⟨hx, hb, hml, ho, htw⟩ hM ⟨callB_of n htw (bc_good k1) rfl hrc hrs (htw _ k2) (htw _ k3) hd hR, htw _ k4⟩ (bc_preS hPc hK hDc hN) rfl hlen hsize hstack (lv_room hW) hdg hf) hS (fun q _ h => hFr q h) hFr (fun u t H1 locs1 ht hvm hp hB hz hk hS1 => ?_)
  obtain ⟨hP1, hK1, hD1⟩ := hB
  rw [ht] at hP1
  obtain ⟨hP2, hD2⟩ := va_join hP hD isC isR hC hRr hn hdis hk hFr hP1 hD1
  exact kk u H1 locs1 hp hP2 hD2 hS1
theorem bc_call_s_i {S : Type} {post : Int32 → S → Prop} {w1 : S → va_W} (F : bc_Fx p m c cc nL s args own D cl tys) (hM : Met l y (Cond.code y bytes maxL ret :: wd_all) rm (bc_Pre D cl tys As wc H.size) (va_Qi post (fun u t => bc_B D cl tys (va_A wc H.size) (w1 u) t) (va_A wc H.size)) mc ms (va_A wc H.size))
    (k1 : Cond.code y bytes maxL ret ∈ wd_all) (k2 : Cond.initialized y.cls ∈ wd_all) (k3 : Cond.methodLink own index y ∈ wd_all) (k4 : Cond.static y ∈ wd_all)
    (hd : y.cls ≠ "java/lang/invoke/MethodHandle" ∧ y.cls ≠ "java/lang/invoke/VarHandle" ∧ (parseMethodDescriptor y.desc).map (fun d => d.parameters.length) = some n) (hrc : rm.cells = mc) (hrs : rm.slots = ms) (hR : rm.frames + 1 ≤ R.frames ∧ 8 + (maxL + 11) + rm.locals ≤ R.locals)
    (hP : va_P D cl ws H) (hD : va_D A ws) (hS : va_S A H0 H locs) (hA : ∀ q, H0.size ≤ q → A q) (isC isR : List Nat) (hC : isC.map (fun i => ws[i]?) = wc.map some) (hRr : isR.map (fun i => ws[i]?) = wr.map some) (hnC : va_nd isC = true) (hn : va_nd isR = true) (hdis : ∀ i ∈ isR, i ∉ isC)
    (hlen : As.length = n) (hsize : ls.size = nL) (hstack : st0 = As.reverse ++ rest) (hW : (rest.map fun v => v.category).sum ≤ 8) (hdg : decode cc pc = .ok (.invokestatic index, 3)) (hf : cells + mc ≤ R.cells ∧ slots + ms ≤ R.slots)
    (kk : ∀ (r : Int32) (u : S) (H1 : Heap) (locs1 : List Loc), post r u → va_P D cl (wr ++ w1 u) H1 → va_D A (wr ++ w1 u) → va_S A H0 H1 locs1 → W p l e R s m args below meth c H1 locs1 (cells + mc) (slots + ms) Q (F0 m (pc + 3) ls (.int r :: rest))) : W p l e R s m args below meth c H locs cells slots Q (F0 m pc ls st0) := by
  obtain ⟨hx, hb, hml, ho, htw, hN, hK⟩ := F
  have hFr := va_free (wc := wc) hD hS hA isC hC
  have hPc : va_P D cl wc H := bc_sub hP isC hC
  have hDc : va_D A wc := hD.sub isC hnC hC
  refine va_calli (va_runS (As := As) (rest := rest) ⟨hx, hb, hml, ho, htw⟩ hM ⟨callB_of n htw (bc_good k1) rfl hrc hrs (htw _ k2) (htw _ k3) hd hR, htw _ k4⟩ (bc_preS hPc hK hDc hN) rfl hlen hsize hstack (lv_room hW) hdg hf) hS (fun q _ h => hFr q h) hFr (fun r u t H1 locs1 ht hvm hp hB hz hk hS1 => ?_)
  obtain ⟨hP1, hK1, hD1⟩ := hB
  rw [ht] at hP1
  obtain ⟨hP2, hD2⟩ := va_join hP hD isC isR hC hRr hn hdis hk hFr hP1 hD1
  exact kk r u H1 locs1 hp hP2 hD2 hS1
theorem bc_call_v_v {S : Type} {post : S → Prop} {w1 : S → va_W} (F : bc_Fx p m c cc nL s args own D cl tys) (hM : Met l y (Cond.code y bytes maxL ret :: wd_all) rm (bc_Pre D cl tys (.ref b :: As) wc H.size) (va_Qv post (fun u t => bc_B D cl tys (va_A wc H.size) (w1 u) t) (va_A wc H.size)) mc ms (va_A wc H.size))
    (k1 : Cond.code y bytes maxL ret ∈ wd_all) (k2 : Cond.initialized y.cls ∈ wd_all) (k3 : Cond.methodLink own index y ∈ wd_all) (k4 : Cond.instanceMethod y ∈ wd_all) (k5 : Cond.selects C y y ∈ wd_all) (q0 : Nat) {ci : Nat} {fs : List Value} {T0 : u_T} {N0 : Nat} (he : ws[q0]? = some (b, .inr (ci, fs))) (hc : cl[ci]? = some (C, T0, N0))
    (hd : y.cls ≠ "java/lang/invoke/MethodHandle" ∧ y.cls ≠ "java/lang/invoke/VarHandle" ∧ (parseMethodDescriptor y.desc).map (fun d => d.parameters.length) = some n) (hrc : rm.cells = mc) (hrs : rm.slots = ms) (hR : rm.frames + 1 ≤ R.frames ∧ 8 + (maxL + 11) + rm.locals ≤ R.locals)
    (hP : va_P D cl ws H) (hD : va_D A ws) (hS : va_S A H0 H locs) (hA : ∀ q, H0.size ≤ q → A q) (isC isR : List Nat) (hC : isC.map (fun i => ws[i]?) = wc.map some) (hRr : isR.map (fun i => ws[i]?) = wr.map some) (hnC : va_nd isC = true) (hn : va_nd isR = true) (hdis : ∀ i ∈ isR, i ∉ isC)
    (hlen : As.length = n) (hsize : ls.size = nL) (hstack : st0 = As.reverse ++ .ref b :: rest) (hW : (rest.map fun v => v.category).sum ≤ 8) (hdg : decode cc pc = .ok (.invokevirtual index, 3)) (hf : cells + mc ≤ R.cells ∧ slots + ms ≤ R.slots)
    (kk : ∀ (u : S) (H1 : Heap) (locs1 : List Loc), post u → va_P D cl (wr ++ w1 u) H1 → va_D A (wr ++ w1 u) → va_S A H0 H1 locs1 → W p l e R s m args below meth c H1 locs1 (cells + mc) (slots + ms) Q (F0 m (pc + 3) ls rest)) : W p l e R s m args below meth c H locs cells slots Q (F0 m pc ls st0) := by
  obtain ⟨hx, hb, hml, ho, htw, hN, hK⟩ := F
  have hFr := va_free (wc := wc) hD hS hA isC hC
  have hPc : va_P D cl wc H := bc_sub hP isC hC
  have hDc : va_D A wc := hD.sub isC hnC hC
  refine va_callv (va_runV (C := C) (As := As) (rest := rest) ⟨hx, hb, hml, ho, htw⟩ hM ⟨callB_of n htw (bc_good k1) rfl hrc hrs (htw _ k2) (htw _ k3) hd hR, htw _ k4, htw _ k5⟩ (bc_preV hPc hK hDc hN (va_recv hK hP hc he)) rfl hlen hsize hstack (lv_room hW) hdg hf) hS (fun q _ h => hFr q h) hFr (fun u t H1 locs1 ht hvm hp hB hz hk hS1 => ?_)
  obtain ⟨hP1, hK1, hD1⟩ := hB
  rw [ht] at hP1
  obtain ⟨hP2, hD2⟩ := va_join hP hD isC isR hC hRr hn hdis hk hFr hP1 hD1
  exact kk u H1 locs1 hp hP2 hD2 hS1
theorem bc_call_v_i {S : Type} {post : Int32 → S → Prop} {w1 : S → va_W} (F : bc_Fx p m c cc nL s args own D cl tys) (hM : Met l y (Cond.code y bytes maxL ret :: wd_all) rm (bc_Pre D cl tys (.ref b :: As) wc H.size) (va_Qi post (fun u t => bc_B D cl tys (va_A wc H.size) (w1 u) t) (va_A wc H.size)) mc ms (va_A wc H.size))
    (k1 : Cond.code y bytes maxL ret ∈ wd_all) (k2 : Cond.initialized y.cls ∈ wd_all) (k3 : Cond.methodLink own index y ∈ wd_all) (k4 : Cond.instanceMethod y ∈ wd_all) (k5 : Cond.selects C y y ∈ wd_all) (q0 : Nat) {ci : Nat} {fs : List Value} {T0 : u_T} {N0 : Nat} (he : ws[q0]? = some (b, .inr (ci, fs))) (hc : cl[ci]? = some (C, T0, N0))
    (hd : y.cls ≠ "java/lang/invoke/MethodHandle" ∧ y.cls ≠ "java/lang/invoke/VarHandle" ∧ (parseMethodDescriptor y.desc).map (fun d => d.parameters.length) = some n) (hrc : rm.cells = mc) (hrs : rm.slots = ms) (hR : rm.frames + 1 ≤ R.frames ∧ 8 + (maxL + 11) + rm.locals ≤ R.locals)
    (hP : va_P D cl ws H) (hD : va_D A ws) (hS : va_S A H0 H locs) (hA : ∀ q, H0.size ≤ q → A q) (isC isR : List Nat) (hC : isC.map (fun i => ws[i]?) = wc.map some) (hRr : isR.map (fun i => ws[i]?) = wr.map some) (hnC : va_nd isC = true) (hn : va_nd isR = true) (hdis : ∀ i ∈ isR, i ∉ isC)
    (hlen : As.length = n) (hsize : ls.size = nL) (hstack : st0 = As.reverse ++ .ref b :: rest) (hW : (rest.map fun v => v.category).sum ≤ 8) (hdg : decode cc pc = .ok (.invokevirtual index, 3)) (hf : cells + mc ≤ R.cells ∧ slots + ms ≤ R.slots)
    (kk : ∀ (r : Int32) (u : S) (H1 : Heap) (locs1 : List Loc), post r u → va_P D cl (wr ++ w1 u) H1 → va_D A (wr ++ w1 u) → va_S A H0 H1 locs1 → W p l e R s m args below meth c H1 locs1 (cells + mc) (slots + ms) Q (F0 m (pc + 3) ls (.int r :: rest))) : W p l e R s m args below meth c H locs cells slots Q (F0 m pc ls st0) := by
  obtain ⟨hx, hb, hml, ho, htw, hN, hK⟩ := F
  have hFr := va_free (wc := wc) hD hS hA isC hC
  have hPc : va_P D cl wc H := bc_sub hP isC hC
  have hDc : va_D A wc := hD.sub isC hnC hC
  refine va_calli (va_runV (C := C) (As := As) (rest := rest) ⟨hx, hb, hml, ho, htw⟩ hM ⟨callB_of n htw (bc_good k1) rfl hrc hrs (htw _ k2) (htw _ k3) hd hR, htw _ k4, htw _ k5⟩ (bc_preV hPc hK hDc hN (va_recv hK hP hc he)) rfl hlen hsize hstack (lv_room hW) hdg hf) hS (fun q _ h => hFr q h) hFr (fun r u t H1 locs1 ht hvm hp hB hz hk hS1 => ?_)
  obtain ⟨hP1, hK1, hD1⟩ := hB
  rw [ht] at hP1
  obtain ⟨hP2, hD2⟩ := va_join hP hD isC isR hC hRr hn hdis hk hFr hP1 hD1
  exact kk r u H1 locs1 hp hP2 hD2 hS1
theorem bc_call_v_r {S : Type} {post : S → Prop} {w1 : S → Nat → va_W} (F : bc_Fx p m c cc nL s args own D cl tys) (hM : Met l y (Cond.code y bytes maxL ret :: wd_all) rm (bc_Pre D cl tys (.ref b :: As) wc H.size) (va_Qr post (fun u a t => bc_B D cl tys (va_A wc H.size) (w1 u a) t) (va_A wc H.size)) mc ms (va_A wc H.size))
    (k1 : Cond.code y bytes maxL ret ∈ wd_all) (k2 : Cond.initialized y.cls ∈ wd_all) (k3 : Cond.methodLink own index y ∈ wd_all) (k4 : Cond.instanceMethod y ∈ wd_all) (k5 : Cond.selects C y y ∈ wd_all) (q0 : Nat) {ci : Nat} {fs : List Value} {T0 : u_T} {N0 : Nat} (he : ws[q0]? = some (b, .inr (ci, fs))) (hc : cl[ci]? = some (C, T0, N0))
    (hd : y.cls ≠ "java/lang/invoke/MethodHandle" ∧ y.cls ≠ "java/lang/invoke/VarHandle" ∧ (parseMethodDescriptor y.desc).map (fun d => d.parameters.length) = some n) (hrc : rm.cells = mc) (hrs : rm.slots = ms) (hR : rm.frames + 1 ≤ R.frames ∧ 8 + (maxL + 11) + rm.locals ≤ R.locals)
    (hP : va_P D cl ws H) (hD : va_D A ws) (hS : va_S A H0 H locs) (hA : ∀ q, H0.size ≤ q → A q) (isC isR : List Nat) (hC : isC.map (fun i => ws[i]?) = wc.map some) (hRr : isR.map (fun i => ws[i]?) = wr.map some) (hnC : va_nd isC = true) (hn : va_nd isR = true) (hdis : ∀ i ∈ isR, i ∉ isC)
    (hlen : As.length = n) (hsize : ls.size = nL) (hstack : st0 = As.reverse ++ .ref b :: rest) (hW : (rest.map fun v => v.category).sum ≤ 8) (hdg : decode cc pc = .ok (.invokevirtual index, 3)) (hf : cells + mc ≤ R.cells ∧ slots + ms ≤ R.slots)
    (kk : ∀ (u : S) (ra : Nat) (H1 : Heap) (locs1 : List Loc), post u → va_P D cl (wr ++ w1 u ra) H1 → va_D A (wr ++ w1 u ra) → va_S A H0 H1 locs1 → W p l e R s m args below meth c H1 locs1 (cells + mc) (slots + ms) Q (F0 m (pc + 3) ls (.ref ra :: rest))) : W p l e R s m args below meth c H locs cells slots Q (F0 m pc ls st0) := by
  obtain ⟨hx, hb, hml, ho, htw, hN, hK⟩ := F
  have hFr := va_free (wc := wc) hD hS hA isC hC
  have hPc : va_P D cl wc H := bc_sub hP isC hC
  have hDc : va_D A wc := hD.sub isC hnC hC
  refine va_callr (va_runV (C := C) (As := As) (rest := rest) ⟨hx, hb, hml, ho, htw⟩ hM ⟨callB_of n htw (bc_good k1) rfl hrc hrs (htw _ k2) (htw _ k3) hd hR, htw _ k4, htw _ k5⟩ (bc_preV hPc hK hDc hN (va_recv hK hP hc he)) rfl hlen hsize hstack (lv_room hW) hdg hf) hS (fun q _ h => hFr q h) hFr (fun u ra t H1 locs1 ht hvm hp hB hz hk hS1 => ?_)
  obtain ⟨hP1, hK1, hD1⟩ := hB
  rw [ht] at hP1
  obtain ⟨hP2, hD2⟩ := va_join hP hD isC isR hC hRr hn hdis hk hFr hP1 hD1
  exact kk u ra H1 locs1 hp hP2 hD2 hS1
theorem bc_call_i_v {S : Type} {post : S → Prop} {w1 : S → va_W} (F : bc_Fx p m c cc nL s args own D cl tys) (hM : Met l y (Cond.code y bytes maxL none :: wd_all) rm (bc_Pre D cl tys (.ref b :: As) wc H.size) (va_Qv post (fun u t => bc_B D cl tys (va_A wc H.size) (w1 u) t) (va_A wc H.size)) mc ms (va_A wc H.size))
    (k1 : Cond.code y bytes maxL none ∈ wd_all) (k2 : Cond.initialized y.cls ∈ wd_all) (k3 : Cond.methodLink own index y ∈ wd_all) (k4 : Cond.instanceMethod y ∈ wd_all) (k5 : y.name = "<init>")
    (hd : y.cls ≠ "java/lang/invoke/MethodHandle" ∧ y.cls ≠ "java/lang/invoke/VarHandle" ∧ (parseMethodDescriptor y.desc).map (fun d => d.parameters.length) = some n) (hrc : rm.cells = mc) (hrs : rm.slots = ms) (hR : rm.frames + 1 ≤ R.frames ∧ 8 + (maxL + 11) + rm.locals ≤ R.locals)
    (hP : va_P D cl ws H) (hD : va_D A ws) (hS : va_S A H0 H locs) (hA : ∀ q, H0.size ≤ q → A q) (isC isR : List Nat) (hC : isC.map (fun i => ws[i]?) = wc.map some) (hRr : isR.map (fun i => ws[i]?) = wr.map some) (hnC : va_nd isC = true) (hn : va_nd isR = true) (hdis : ∀ i ∈ isR, i ∉ isC)
    (hlen : As.length = n) (hsize : ls.size = nL) (hstack : st0 = As.reverse ++ .ref b :: rest) (hW : (rest.map fun v => v.category).sum ≤ 8) (hdg : decode cc pc = .ok (.invokespecial index, 3)) (hf : cells + mc ≤ R.cells ∧ slots + ms ≤ R.slots)
    (kk : ∀ (u : S) (H1 : Heap) (locs1 : List Loc), post u → va_P D cl (wr ++ w1 u) H1 → va_D A (wr ++ w1 u) → va_S A H0 H1 locs1 → W p l e R s m args below meth c H1 locs1 (cells + mc) (slots + ms) Q (F0 m (pc + 3) ls rest)) : W p l e R s m args below meth c H locs cells slots Q (F0 m pc ls st0) := by
  obtain ⟨hx, hb, hml, ho, htw, hN, hK⟩ := F
  have hFr := va_free (wc := wc) hD hS hA isC hC
  have hPc : va_P D cl wc H := bc_sub hP isC hC
  have hDc : va_D A wc := hD.sub isC hnC hC
  refine va_callv (va_runI (As := As) (rest := rest) ⟨hx, hb, hml, ho, htw⟩ hM ⟨callB_of n htw (bc_good k1) rfl hrc hrs (htw _ k2) (htw _ k3) hd hR, k5, htw _ k4⟩ (bc_preS hPc hK hDc hN) rfl hlen hsize hstack (lv_room hW) hdg hf) hS (fun q _ h => hFr q h) hFr (fun u t H1 locs1 ht hvm hp hB hz hk hS1 => ?_)
  obtain ⟨hP1, hK1, hD1⟩ := hB
  rw [ht] at hP1
  obtain ⟨hP2, hD2⟩ := va_join hP hD isC isR hC hRr hn hdis hk hFr hP1 hD1
  exact kk u H1 locs1 hp hP2 hD2 hS1
theorem bc_call_nv_v {S : Type} {post : S → Prop} {w1 : S → va_W} (F : bc_Fx p m c cc nL s args own D cl tys) (hM : Met l y (Cond.code y bytes maxL ret :: wd_all) rm (bc_Pre D cl tys (.ref b :: As) wc H.size) (va_Qv post (fun u t => bc_B D cl tys (va_A wc H.size) (w1 u) t) (va_A wc H.size)) mc ms (va_A wc H.size))
    (k1 : Cond.code y bytes maxL ret ∈ wd_all) (k2 : Cond.initialized y.cls ∈ wd_all) (k3 : Cond.methodLinkNest own index y host ∈ nw_all) (k4 : Cond.instanceMethod y ∈ wd_all) (k5 : Cond.selects C y y ∈ wd_all) (q0 : Nat) {ci : Nat} {fs : List Value} {T0 : u_T} {N0 : Nat} (he : ws[q0]? = some (b, .inr (ci, fs))) (hc : cl[ci]? = some (C, T0, N0))
    (hd : y.cls ≠ "java/lang/invoke/MethodHandle" ∧ y.cls ≠ "java/lang/invoke/VarHandle" ∧ (parseMethodDescriptor y.desc).map (fun d => d.parameters.length) = some n) (hrc : rm.cells = mc) (hrs : rm.slots = ms) (hR : rm.frames + 1 ≤ R.frames ∧ 8 + (maxL + 11) + rm.locals ≤ R.locals)
    (hP : va_P D cl ws H) (hD : va_D A ws) (hS : va_S A H0 H locs) (hA : ∀ q, H0.size ≤ q → A q) (isC isR : List Nat) (hC : isC.map (fun i => ws[i]?) = wc.map some) (hRr : isR.map (fun i => ws[i]?) = wr.map some) (hnC : va_nd isC = true) (hn : va_nd isR = true) (hdis : ∀ i ∈ isR, i ∉ isC)
    (hlen : As.length = n) (hsize : ls.size = nL) (hstack : st0 = As.reverse ++ .ref b :: rest) (hW : (rest.map fun v => v.category).sum ≤ 8) (hdg : decode cc pc = .ok (.invokevirtual index, 3)) (hf : cells + mc ≤ R.cells ∧ slots + ms ≤ R.slots)
    (kk : ∀ (u : S) (H1 : Heap) (locs1 : List Loc), post u → va_P D cl (wr ++ w1 u) H1 → va_D A (wr ++ w1 u) → va_S A H0 H1 locs1 → W p l e R s m args below meth c H1 locs1 (cells + mc) (slots + ms) Q (F0 m (pc + 3) ls rest)) : W p l e R s m args below meth c H locs cells slots Q (F0 m pc ls st0) := by
  obtain ⟨hx, hb, hml, ho, htw, hN, hK⟩ := F
  have hFr := va_free (wc := wc) hD hS hA isC hC
  have hPc : va_P D cl wc H := bc_sub hP isC hC
  have hDc : va_D A wc := hD.sub isC hnC hC
  refine va_callv (va_runVN (C := C) (As := As) (rest := rest) ⟨hx, hb, hml, ho, htw⟩ hM ⟨va_cnB n htw (bc_good k1) rfl hrc hrs (hN _ k3) (htw _ k2) hd hR, htw _ k4, htw _ k5⟩ (bc_preV hPc hK hDc hN (va_recv hK hP hc he)) rfl hlen hsize hstack (lv_room hW) hdg hf) hS (fun q _ h => hFr q h) hFr (fun u t H1 locs1 ht hvm hp hB hz hk hS1 => ?_)
  obtain ⟨hP1, hK1, hD1⟩ := hB
  rw [ht] at hP1
  obtain ⟨hP2, hD2⟩ := va_join hP hD isC isR hC hRr hn hdis hk hFr hP1 hD1
  exact kk u H1 locs1 hp hP2 hD2 hS1
theorem bc_call_nv_i {S : Type} {post : Int32 → S → Prop} {w1 : S → va_W} (F : bc_Fx p m c cc nL s args own D cl tys) (hM : Met l y (Cond.code y bytes maxL ret :: wd_all) rm (bc_Pre D cl tys (.ref b :: As) wc H.size) (va_Qi post (fun u t => bc_B D cl tys (va_A wc H.size) (w1 u) t) (va_A wc H.size)) mc ms (va_A wc H.size))
    (k1 : Cond.code y bytes maxL ret ∈ wd_all) (k2 : Cond.initialized y.cls ∈ wd_all) (k3 : Cond.methodLinkNest own index y host ∈ nw_all) (k4 : Cond.instanceMethod y ∈ wd_all) (k5 : Cond.selects C y y ∈ wd_all) (q0 : Nat) {ci : Nat} {fs : List Value} {T0 : u_T} {N0 : Nat} (he : ws[q0]? = some (b, .inr (ci, fs))) (hc : cl[ci]? = some (C, T0, N0))
    (hd : y.cls ≠ "java/lang/invoke/MethodHandle" ∧ y.cls ≠ "java/lang/invoke/VarHandle" ∧ (parseMethodDescriptor y.desc).map (fun d => d.parameters.length) = some n) (hrc : rm.cells = mc) (hrs : rm.slots = ms) (hR : rm.frames + 1 ≤ R.frames ∧ 8 + (maxL + 11) + rm.locals ≤ R.locals)
    (hP : va_P D cl ws H) (hD : va_D A ws) (hS : va_S A H0 H locs) (hA : ∀ q, H0.size ≤ q → A q) (isC isR : List Nat) (hC : isC.map (fun i => ws[i]?) = wc.map some) (hRr : isR.map (fun i => ws[i]?) = wr.map some) (hnC : va_nd isC = true) (hn : va_nd isR = true) (hdis : ∀ i ∈ isR, i ∉ isC)
    (hlen : As.length = n) (hsize : ls.size = nL) (hstack : st0 = As.reverse ++ .ref b :: rest) (hW : (rest.map fun v => v.category).sum ≤ 8) (hdg : decode cc pc = .ok (.invokevirtual index, 3)) (hf : cells + mc ≤ R.cells ∧ slots + ms ≤ R.slots)
    (kk : ∀ (r : Int32) (u : S) (H1 : Heap) (locs1 : List Loc), post r u → va_P D cl (wr ++ w1 u) H1 → va_D A (wr ++ w1 u) → va_S A H0 H1 locs1 → W p l e R s m args below meth c H1 locs1 (cells + mc) (slots + ms) Q (F0 m (pc + 3) ls (.int r :: rest))) : W p l e R s m args below meth c H locs cells slots Q (F0 m pc ls st0) := by
  obtain ⟨hx, hb, hml, ho, htw, hN, hK⟩ := F
  have hFr := va_free (wc := wc) hD hS hA isC hC
  have hPc : va_P D cl wc H := bc_sub hP isC hC
  have hDc : va_D A wc := hD.sub isC hnC hC
  refine va_calli (va_runVN (C := C) (As := As) (rest := rest) ⟨hx, hb, hml, ho, htw⟩ hM ⟨va_cnB n htw (bc_good k1) rfl hrc hrs (hN _ k3) (htw _ k2) hd hR, htw _ k4, htw _ k5⟩ (bc_preV hPc hK hDc hN (va_recv hK hP hc he)) rfl hlen hsize hstack (lv_room hW) hdg hf) hS (fun q _ h => hFr q h) hFr (fun r u t H1 locs1 ht hvm hp hB hz hk hS1 => ?_)
  obtain ⟨hP1, hK1, hD1⟩ := hB
  rw [ht] at hP1
  obtain ⟨hP2, hD2⟩ := va_join hP hD isC isR hC hRr hn hdis hk hFr hP1 hD1
  exact kk r u H1 locs1 hp hP2 hD2 hS1
theorem bc_call_ns_v {S : Type} {post : S → Prop} {w1 : S → va_W} (F : bc_Fx p m c cc nL s args own D cl tys) (hM : Met l y (Cond.code y bytes maxL ret :: wd_all) rm (bc_Pre D cl tys As wc H.size) (va_Qv post (fun u t => bc_B D cl tys (va_A wc H.size) (w1 u) t) (va_A wc H.size)) mc ms (va_A wc H.size))
    (k1 : Cond.code y bytes maxL ret ∈ wd_all) (k2 : Cond.initialized y.cls ∈ wd_all) (k3 : Cond.methodLinkNest own index y host ∈ nw_all) (k4 : Cond.static y ∈ wd_all)
    (hd : y.cls ≠ "java/lang/invoke/MethodHandle" ∧ y.cls ≠ "java/lang/invoke/VarHandle" ∧ (parseMethodDescriptor y.desc).map (fun d => d.parameters.length) = some n) (hrc : rm.cells = mc) (hrs : rm.slots = ms) (hR : rm.frames + 1 ≤ R.frames ∧ 8 + (maxL + 11) + rm.locals ≤ R.locals)
    (hP : va_P D cl ws H) (hD : va_D A ws) (hS : va_S A H0 H locs) (hA : ∀ q, H0.size ≤ q → A q) (isC isR : List Nat) (hC : isC.map (fun i => ws[i]?) = wc.map some) (hRr : isR.map (fun i => ws[i]?) = wr.map some) (hnC : va_nd isC = true) (hn : va_nd isR = true) (hdis : ∀ i ∈ isR, i ∉ isC)
    (hlen : As.length = n) (hsize : ls.size = nL) (hstack : st0 = As.reverse ++ rest) (hW : (rest.map fun v => v.category).sum ≤ 8) (hdg : decode cc pc = .ok (.invokestatic index, 3)) (hf : cells + mc ≤ R.cells ∧ slots + ms ≤ R.slots)
    (kk : ∀ (u : S) (H1 : Heap) (locs1 : List Loc), post u → va_P D cl (wr ++ w1 u) H1 → va_D A (wr ++ w1 u) → va_S A H0 H1 locs1 → W p l e R s m args below meth c H1 locs1 (cells + mc) (slots + ms) Q (F0 m (pc + 3) ls rest)) : W p l e R s m args below meth c H locs cells slots Q (F0 m pc ls st0) := by
  obtain ⟨hx, hb, hml, ho, htw, hN, hK⟩ := F
  have hFr := va_free (wc := wc) hD hS hA isC hC
  have hPc : va_P D cl wc H := bc_sub hP isC hC
  have hDc : va_D A wc := hD.sub isC hnC hC
  refine va_callv (va_runSN (As := As) (rest := rest) ⟨hx, hb, hml, ho, htw⟩ hM ⟨va_cnB n htw (bc_good k1) rfl hrc hrs (hN _ k3) (htw _ k2) hd hR, htw _ k4, trivial⟩ (bc_preS hPc hK hDc hN) rfl hlen hsize hstack (lv_room hW) hdg hf) hS (fun q _ h => hFr q h) hFr (fun u t H1 locs1 ht hvm hp hB hz hk hS1 => ?_)
  obtain ⟨hP1, hK1, hD1⟩ := hB
  rw [ht] at hP1
  obtain ⟨hP2, hD2⟩ := va_join hP hD isC isR hC hRr hn hdis hk hFr hP1 hD1
  exact kk u H1 locs1 hp hP2 hD2 hS1
theorem bc_call_ns_i {S : Type} {post : Int32 → S → Prop} {w1 : S → va_W} (F : bc_Fx p m c cc nL s args own D cl tys) (hM : Met l y (Cond.code y bytes maxL ret :: wd_all) rm (bc_Pre D cl tys As wc H.size) (va_Qi post (fun u t => bc_B D cl tys (va_A wc H.size) (w1 u) t) (va_A wc H.size)) mc ms (va_A wc H.size))
    (k1 : Cond.code y bytes maxL ret ∈ wd_all) (k2 : Cond.initialized y.cls ∈ wd_all) (k3 : Cond.methodLinkNest own index y host ∈ nw_all) (k4 : Cond.static y ∈ wd_all)
    (hd : y.cls ≠ "java/lang/invoke/MethodHandle" ∧ y.cls ≠ "java/lang/invoke/VarHandle" ∧ (parseMethodDescriptor y.desc).map (fun d => d.parameters.length) = some n) (hrc : rm.cells = mc) (hrs : rm.slots = ms) (hR : rm.frames + 1 ≤ R.frames ∧ 8 + (maxL + 11) + rm.locals ≤ R.locals)
    (hP : va_P D cl ws H) (hD : va_D A ws) (hS : va_S A H0 H locs) (hA : ∀ q, H0.size ≤ q → A q) (isC isR : List Nat) (hC : isC.map (fun i => ws[i]?) = wc.map some) (hRr : isR.map (fun i => ws[i]?) = wr.map some) (hnC : va_nd isC = true) (hn : va_nd isR = true) (hdis : ∀ i ∈ isR, i ∉ isC)
    (hlen : As.length = n) (hsize : ls.size = nL) (hstack : st0 = As.reverse ++ rest) (hW : (rest.map fun v => v.category).sum ≤ 8) (hdg : decode cc pc = .ok (.invokestatic index, 3)) (hf : cells + mc ≤ R.cells ∧ slots + ms ≤ R.slots)
    (kk : ∀ (r : Int32) (u : S) (H1 : Heap) (locs1 : List Loc), post r u → va_P D cl (wr ++ w1 u) H1 → va_D A (wr ++ w1 u) → va_S A H0 H1 locs1 → W p l e R s m args below meth c H1 locs1 (cells + mc) (slots + ms) Q (F0 m (pc + 3) ls (.int r :: rest))) : W p l e R s m args below meth c H locs cells slots Q (F0 m pc ls st0) := by
  obtain ⟨hx, hb, hml, ho, htw, hN, hK⟩ := F
  have hFr := va_free (wc := wc) hD hS hA isC hC
  have hPc : va_P D cl wc H := bc_sub hP isC hC
  have hDc : va_D A wc := hD.sub isC hnC hC
  refine va_calli (va_runSN (As := As) (rest := rest) ⟨hx, hb, hml, ho, htw⟩ hM ⟨va_cnB n htw (bc_good k1) rfl hrc hrs (hN _ k3) (htw _ k2) hd hR, htw _ k4, trivial⟩ (bc_preS hPc hK hDc hN) rfl hlen hsize hstack (lv_room hW) hdg hf) hS (fun q _ h => hFr q h) hFr (fun r u t H1 locs1 ht hvm hp hB hz hk hS1 => ?_)
  obtain ⟨hP1, hK1, hD1⟩ := hB
  rw [ht] at hP1
  obtain ⟨hP2, hD2⟩ := va_join hP hD isC isR hC hRr hn hdis hk hFr hP1 hD1
  exact kk r u H1 locs1 hp hP2 hD2 hS1
theorem bc_call_ni_v {S : Type} {post : S → Prop} {w1 : S → va_W} (F : bc_Fx p m c cc nL s args own D cl tys) (hM : Met l y (Cond.code y bytes maxL none :: wd_all) rm (bc_Pre D cl tys (.ref b :: As) wc H.size) (va_Qv post (fun u t => bc_B D cl tys (va_A wc H.size) (w1 u) t) (va_A wc H.size)) mc ms (va_A wc H.size))
    (k1 : Cond.code y bytes maxL none ∈ wd_all) (k2 : Cond.initialized y.cls ∈ wd_all) (k3 : Cond.methodLinkNest own index y host ∈ nw_all) (k4 : Cond.instanceMethod y ∈ wd_all) (k5 : y.name = "<init>")
    (hd : y.cls ≠ "java/lang/invoke/MethodHandle" ∧ y.cls ≠ "java/lang/invoke/VarHandle" ∧ (parseMethodDescriptor y.desc).map (fun d => d.parameters.length) = some n) (hrc : rm.cells = mc) (hrs : rm.slots = ms) (hR : rm.frames + 1 ≤ R.frames ∧ 8 + (maxL + 11) + rm.locals ≤ R.locals)
    (hP : va_P D cl ws H) (hD : va_D A ws) (hS : va_S A H0 H locs) (hA : ∀ q, H0.size ≤ q → A q) (isC isR : List Nat) (hC : isC.map (fun i => ws[i]?) = wc.map some) (hRr : isR.map (fun i => ws[i]?) = wr.map some) (hnC : va_nd isC = true) (hn : va_nd isR = true) (hdis : ∀ i ∈ isR, i ∉ isC)
    (hlen : As.length = n) (hsize : ls.size = nL) (hstack : st0 = As.reverse ++ .ref b :: rest) (hW : (rest.map fun v => v.category).sum ≤ 8) (hdg : decode cc pc = .ok (.invokespecial index, 3)) (hf : cells + mc ≤ R.cells ∧ slots + ms ≤ R.slots)
    (kk : ∀ (u : S) (H1 : Heap) (locs1 : List Loc), post u → va_P D cl (wr ++ w1 u) H1 → va_D A (wr ++ w1 u) → va_S A H0 H1 locs1 → W p l e R s m args below meth c H1 locs1 (cells + mc) (slots + ms) Q (F0 m (pc + 3) ls rest)) : W p l e R s m args below meth c H locs cells slots Q (F0 m pc ls st0) := by
  obtain ⟨hx, hb, hml, ho, htw, hN, hK⟩ := F
  have hFr := va_free (wc := wc) hD hS hA isC hC
  have hPc : va_P D cl wc H := bc_sub hP isC hC
  have hDc : va_D A wc := hD.sub isC hnC hC
  refine va_callv (va_runIN (As := As) (rest := rest) ⟨hx, hb, hml, ho, htw⟩ hM ⟨va_cnB n htw (bc_good k1) rfl hrc hrs (hN _ k3) (htw _ k2) hd hR, k5, htw _ k4⟩ (bc_preS hPc hK hDc hN) rfl hlen hsize hstack (lv_room hW) hdg hf) hS (fun q _ h => hFr q h) hFr (fun u t H1 locs1 ht hvm hp hB hz hk hS1 => ?_)
  obtain ⟨hP1, hK1, hD1⟩ := hB
  rw [ht] at hP1
  obtain ⟨hP2, hD2⟩ := va_join hP hD isC isR hC hRr hn hdis hk hFr hP1 hD1
  exact kk u H1 locs1 hp hP2 hD2 hS1
/-- ends -/
theorem bc_vret {S : Type} {post : S → Prop} {w1 : S → va_W} (F : bc_Fx p m c cc nL s args own D cl tys) (hr : meth.sig.returnType = none) (hlocks : meth.locks = false) (u : S) (hp : post u) (hP : va_P D cl (w1 u) H) (hD : va_D A (w1 u)) (hS : va_S A s.heap H locs) (hdg : decode cc pc = .ok (.return_, 1)) :
    W p l e R s m args below meth c H locs cells slots (MQ below (va_Qv post (fun u t => bc_B D cl tys A (w1 u) t) A) args s cells slots A) (F0 m pc ls []) :=
  W.vret F.1 F.2.1 hr (fun t ht hW => ⟨⟨u, rfl, hp, by rw [ht]; exact hP, va_K.moved hW.alike F.2.2.2.2.2.2, hD⟩, hS.F ht⟩) hS.2.2 hdg hlocks
theorem bc_iret {S : Type} {post : Int32 → S → Prop} {w1 : S → va_W} {v : Int32} (F : bc_Fx p m c cc nL s args own D cl tys) (hr : meth.sig.returnType = some .int) (hlocks : meth.locks = false) (u : S) (hp : post v u) (hP : va_P D cl (w1 u) H) (hD : va_D A (w1 u)) (hS : va_S A s.heap H locs) (hdg : decode cc pc = .ok (.ireturn, 1)) :
    W p l e R s m args below meth c H locs cells slots (MQ below (va_Qi post (fun u t => bc_B D cl tys A (w1 u) t) A) args s cells slots A) (F0 m pc ls [.int v]) :=
  W.iret F.1 F.2.1 hr (fun t ht hW => ⟨⟨v, u, rfl, hp, by rw [ht]; exact hP, va_K.moved hW.alike F.2.2.2.2.2.2, hD⟩, hS.F ht⟩) hS.2.2 hdg hlocks
theorem bc_zret {S : Type} {post : Int32 → S → Prop} {w1 : S → va_W} {v : Int32} (F : bc_Fx p m c cc nL s args own D cl tys) (hr : meth.sig.returnType = some .boolean) (hlocks : meth.locks = false) (hn : narrow .boolean (.int v) = .int v) (u : S) (hp : post v u) (hP : va_P D cl (w1 u) H) (hD : va_D A (w1 u)) (hS : va_S A s.heap H locs) (hdg : decode cc pc = .ok (.ireturn, 1)) :
    W p l e R s m args below meth c H locs cells slots (MQ below (va_Qi post (fun u t => bc_B D cl tys A (w1 u) t) A) args s cells slots A) (F0 m pc ls [.int v]) :=
  W.zret F.1 F.2.1 hr hn (fun t ht hW => ⟨⟨v, u, rfl, hp, by rw [ht]; exact hP, va_K.moved hW.alike F.2.2.2.2.2.2, hD⟩, hS.F ht⟩) hS.2.2 hdg hlocks
theorem bc_aret {S : Type} {post : S → Prop} {w1 : S → Nat → va_W} {a : Nat} {rt : FieldType} (F : bc_Fx p m c cc nL s args own D cl tys) (hr : meth.sig.returnType = some rt) (hrt : (∃ n, rt = .object n) ∨ ∃ t, rt = .array t) (hlocks : meth.locks = false) (u : S) (hp : post u) (hP : va_P D cl (w1 u a) H) (hD : va_D A (w1 u a)) (hS : va_S A s.heap H locs) (hdg : decode cc pc = .ok (.areturn, 1)) :
    W p l e R s m args below meth c H locs cells slots (MQ below (va_Qr post (fun u a t => bc_B D cl tys A (w1 u a) t) A) args s cells slots A) (F0 m pc ls [.ref a]) :=
  W.aret F.1 F.2.1 hr hrt (Or.inr ⟨a, rfl⟩) (fun t ht hW => ⟨⟨u, a, rfl, hp, by rw [ht]; exact hP, va_K.moved hW.alike F.2.2.2.2.2.2, hD⟩, hS.F ht⟩) hS.2.2 hdg hlocks
end BCC
end
section
/-! decode rows, by program -/
theorem de_B_init_0 : decode by_B_init 0 = .ok (.aload_n 0, 1) := by decide +kernel
theorem de_B_init_1 : decode by_B_init 1 = .ok (.invokespecial 1, 3) := by decide +kernel
theorem de_B_init_4 : decode by_B_init 4 = .ok (.aload_n 0, 1) := by decide +kernel
theorem de_B_init_5 : decode by_B_init 5 = .ok (.new 7, 3) := by decide +kernel
theorem de_B_init_8 : decode by_B_init 8 = .ok (.dup, 1) := by decide +kernel
theorem de_B_init_9 : decode by_B_init 9 = .ok (.invokespecial 9, 3) := by decide +kernel
theorem de_B_init_12 : decode by_B_init 12 = .ok (.putfield 10, 3) := by decide +kernel
theorem de_B_init_15 : decode by_B_init 15 = .ok (.aload_n 0, 1) := by decide +kernel
theorem de_B_init_16 : decode by_B_init 16 = .ok (.new 7, 3) := by decide +kernel
theorem de_B_init_19 : decode by_B_init 19 = .ok (.dup, 1) := by decide +kernel
theorem de_B_init_20 : decode by_B_init 20 = .ok (.invokespecial 9, 3) := by decide +kernel
theorem de_B_init_23 : decode by_B_init 23 = .ok (.putfield 16, 3) := by decide +kernel
theorem de_B_init_26 : decode by_B_init 26 = .ok (.aload_n 0, 1) := by decide +kernel
theorem de_B_init_27 : decode by_B_init 27 = .ok (.new 19, 3) := by decide +kernel
theorem de_B_init_30 : decode by_B_init 30 = .ok (.dup, 1) := by decide +kernel
theorem de_B_init_31 : decode by_B_init 31 = .ok (.invokespecial 21, 3) := by decide +kernel
theorem de_B_init_34 : decode by_B_init 34 = .ok (.putfield 22, 3) := by decide +kernel
theorem de_B_init_37 : decode by_B_init 37 = .ok (.aload_n 0, 1) := by decide +kernel
theorem de_B_init_38 : decode by_B_init 38 = .ok (.new 26, 3) := by decide +kernel
theorem de_B_init_41 : decode by_B_init 41 = .ok (.dup, 1) := by decide +kernel
theorem de_B_init_42 : decode by_B_init 42 = .ok (.invokespecial 28, 3) := by decide +kernel
theorem de_B_init_45 : decode by_B_init 45 = .ok (.putfield 29, 3) := by decide +kernel
theorem de_B_init_48 : decode by_B_init 48 = .ok (.aload_n 0, 1) := by decide +kernel
theorem de_B_init_49 : decode by_B_init 49 = .ok (.new 33, 3) := by decide +kernel
theorem de_B_init_52 : decode by_B_init 52 = .ok (.dup, 1) := by decide +kernel
theorem de_B_init_53 : decode by_B_init 53 = .ok (.invokespecial 35, 3) := by decide +kernel
theorem de_B_init_56 : decode by_B_init 56 = .ok (.putfield 36, 3) := by decide +kernel
theorem de_B_init_59 : decode by_B_init 59 = .ok (.aload_n 0, 1) := by decide +kernel
theorem de_B_init_60 : decode by_B_init 60 = .ok (.new 33, 3) := by decide +kernel
theorem de_B_init_63 : decode by_B_init 63 = .ok (.dup, 1) := by decide +kernel
theorem de_B_init_64 : decode by_B_init 64 = .ok (.invokespecial 35, 3) := by decide +kernel
theorem de_B_init_67 : decode by_B_init 67 = .ok (.putfield 40, 3) := by decide +kernel
theorem de_B_init_70 : decode by_B_init 70 = .ok (.return_, 1) := by decide +kernel
theorem de_B_add_0 : decode by_B_add 0 = .ok (.aload_n 0, 1) := by decide +kernel
theorem de_B_add_1 : decode by_B_add 1 = .ok (.iload_n 1, 1) := by decide +kernel
theorem de_B_add_2 : decode by_B_add 2 = .ok (.iload_n 2, 1) := by decide +kernel
theorem de_B_add_3 : decode by_B_add 3 = .ok (.iload_n 3, 1) := by decide +kernel
theorem de_B_add_4 : decode by_B_add 4 = .ok (.iload 4, 2) := by decide +kernel
theorem de_B_add_6 : decode by_B_add 6 = .ok (.invokevirtual 43, 3) := by decide +kernel
theorem de_B_add_9 : decode by_B_add 9 = .ok (.aload_n 0, 1) := by decide +kernel
theorem de_B_add_10 : decode by_B_add 10 = .ok (.getfield 10, 3) := by decide +kernel
theorem de_B_add_13 : decode by_B_add 13 = .ok (.getfield 47, 3) := by decide +kernel
theorem de_B_add_16 : decode by_B_add 16 = .ok (.bipush 40, 2) := by decide +kernel
theorem de_B_add_18 : decode by_B_add 18 = .ok (.if_icmp .lt 13, 3) := by decide +kernel
theorem de_B_add_21 : decode by_B_add 21 = .ok (.new 51, 3) := by decide +kernel
theorem de_B_add_24 : decode by_B_add 24 = .ok (.dup, 1) := by decide +kernel
theorem de_B_add_25 : decode by_B_add 25 = .ok (.ldc 53, 2) := by decide +kernel
theorem de_B_add_27 : decode by_B_add 27 = .ok (.invokespecial 55, 3) := by decide +kernel
theorem de_B_add_30 : decode by_B_add 30 = .ok (.athrow, 1) := by decide +kernel
theorem de_B_add_31 : decode by_B_add 31 = .ok (.aload_n 0, 1) := by decide +kernel
theorem de_B_add_32 : decode by_B_add 32 = .ok (.getfield 10, 3) := by decide +kernel
theorem de_B_add_35 : decode by_B_add 35 = .ok (.dup, 1) := by decide +kernel
theorem de_B_add_36 : decode by_B_add 36 = .ok (.getfield 47, 3) := by decide +kernel
theorem de_B_add_39 : decode by_B_add 39 = .ok (.iconst 1, 1) := by decide +kernel
theorem de_B_add_40 : decode by_B_add 40 = .ok (.iadd, 1) := by decide +kernel
theorem de_B_add_41 : decode by_B_add 41 = .ok (.putfield 47, 3) := by decide +kernel
theorem de_B_add_44 : decode by_B_add 44 = .ok (.aload_n 0, 1) := by decide +kernel
theorem de_B_add_45 : decode by_B_add 45 = .ok (.getfield 10, 3) := by decide +kernel
theorem de_B_add_48 : decode by_B_add 48 = .ok (.aload_n 0, 1) := by decide +kernel
theorem de_B_add_49 : decode by_B_add 49 = .ok (.getfield 10, 3) := by decide +kernel
theorem de_B_add_52 : decode by_B_add 52 = .ok (.getfield 47, 3) := by decide +kernel
theorem de_B_add_55 : decode by_B_add 55 = .ok (.iconst 1, 1) := by decide +kernel
theorem de_B_add_56 : decode by_B_add 56 = .ok (.isub, 1) := by decide +kernel
theorem de_B_add_57 : decode by_B_add 57 = .ok (.iload_n 1, 1) := by decide +kernel
theorem de_B_add_58 : decode by_B_add 58 = .ok (.iload_n 2, 1) := by decide +kernel
theorem de_B_add_59 : decode by_B_add 59 = .ok (.iload_n 3, 1) := by decide +kernel
theorem de_B_add_60 : decode by_B_add 60 = .ok (.iload 4, 2) := by decide +kernel
theorem de_B_add_62 : decode by_B_add 62 = .ok (.invokevirtual 58, 3) := by decide +kernel
theorem de_B_add_65 : decode by_B_add 65 = .ok (.aload_n 0, 1) := by decide +kernel
theorem de_B_add_66 : decode by_B_add 66 = .ok (.invokevirtual 62, 3) := by decide +kernel
theorem de_B_add_69 : decode by_B_add 69 = .ok (.aload_n 0, 1) := by decide +kernel
theorem de_B_add_70 : decode by_B_add 70 = .ok (.getfield 10, 3) := by decide +kernel
theorem de_B_add_73 : decode by_B_add 73 = .ok (.getfield 47, 3) := by decide +kernel
theorem de_B_add_76 : decode by_B_add 76 = .ok (.ireturn, 1) := by decide +kernel
theorem de_B_change_0 : decode by_B_change 0 = .ok (.aload_n 0, 1) := by decide +kernel
theorem de_B_change_1 : decode by_B_change 1 = .ok (.iload_n 1, 1) := by decide +kernel
theorem de_B_change_2 : decode by_B_change 2 = .ok (.invokevirtual 65, 3) := by decide +kernel
theorem de_B_change_5 : decode by_B_change 5 = .ok (.aload_n 0, 1) := by decide +kernel
theorem de_B_change_6 : decode by_B_change 6 = .ok (.iload_n 2, 1) := by decide +kernel
theorem de_B_change_7 : decode by_B_change 7 = .ok (.iload_n 3, 1) := by decide +kernel
theorem de_B_change_8 : decode by_B_change 8 = .ok (.iload 4, 2) := by decide +kernel
theorem de_B_change_10 : decode by_B_change 10 = .ok (.iload 5, 2) := by decide +kernel
theorem de_B_change_12 : decode by_B_change 12 = .ok (.invokevirtual 43, 3) := by decide +kernel
theorem de_B_change_15 : decode by_B_change 15 = .ok (.aload_n 0, 1) := by decide +kernel
theorem de_B_change_16 : decode by_B_change 16 = .ok (.getfield 10, 3) := by decide +kernel
theorem de_B_change_19 : decode by_B_change 19 = .ok (.iload_n 1, 1) := by decide +kernel
theorem de_B_change_20 : decode by_B_change 20 = .ok (.iload_n 2, 1) := by decide +kernel
theorem de_B_change_21 : decode by_B_change 21 = .ok (.iload_n 3, 1) := by decide +kernel
theorem de_B_change_22 : decode by_B_change 22 = .ok (.iload 4, 2) := by decide +kernel
theorem de_B_change_24 : decode by_B_change 24 = .ok (.iload 5, 2) := by decide +kernel
theorem de_B_change_26 : decode by_B_change 26 = .ok (.invokevirtual 58, 3) := by decide +kernel
theorem de_B_change_29 : decode by_B_change 29 = .ok (.aload_n 0, 1) := by decide +kernel
theorem de_B_change_30 : decode by_B_change 30 = .ok (.invokevirtual 62, 3) := by decide +kernel
theorem de_B_change_33 : decode by_B_change 33 = .ok (.return_, 1) := by decide +kernel
theorem de_B_clear_0 : decode by_B_clear 0 = .ok (.aload_n 0, 1) := by decide +kernel
theorem de_B_clear_1 : decode by_B_clear 1 = .ok (.getfield 10, 3) := by decide +kernel
theorem de_B_clear_4 : decode by_B_clear 4 = .ok (.getfield 47, 3) := by decide +kernel
theorem de_B_clear_7 : decode by_B_clear 7 = .ok (.istore_n 1, 1) := by decide +kernel
theorem de_B_clear_8 : decode by_B_clear 8 = .ok (.aload_n 0, 1) := by decide +kernel
theorem de_B_clear_9 : decode by_B_clear 9 = .ok (.getfield 10, 3) := by decide +kernel
theorem de_B_clear_12 : decode by_B_clear 12 = .ok (.iconst 0, 1) := by decide +kernel
theorem de_B_clear_13 : decode by_B_clear 13 = .ok (.putfield 47, 3) := by decide +kernel
theorem de_B_clear_16 : decode by_B_clear 16 = .ok (.aload_n 0, 1) := by decide +kernel
theorem de_B_clear_17 : decode by_B_clear 17 = .ok (.invokevirtual 62, 3) := by decide +kernel
theorem de_B_clear_20 : decode by_B_clear 20 = .ok (.iload_n 1, 1) := by decide +kernel
theorem de_B_clear_21 : decode by_B_clear 21 = .ok (.ireturn, 1) := by decide +kernel
theorem de_B_reached_0 : decode by_B_reached 0 = .ok (.aload_n 0, 1) := by decide +kernel
theorem de_B_reached_1 : decode by_B_reached 1 = .ok (.iload_n 1, 1) := by decide +kernel
theorem de_B_reached_2 : decode by_B_reached 2 = .ok (.invokevirtual 65, 3) := by decide +kernel
theorem de_B_reached_5 : decode by_B_reached 5 = .ok (.aload_n 0, 1) := by decide +kernel
theorem de_B_reached_6 : decode by_B_reached 6 = .ok (.invokevirtual 69, 3) := by decide +kernel
theorem de_B_reached_9 : decode by_B_reached 9 = .ok (.aload_n 0, 1) := by decide +kernel
theorem de_B_reached_10 : decode by_B_reached 10 = .ok (.getfield 22, 3) := by decide +kernel
theorem de_B_reached_13 : decode by_B_reached 13 = .ok (.iload_n 1, 1) := by decide +kernel
theorem de_B_reached_14 : decode by_B_reached 14 = .ok (.invokevirtual 72, 3) := by decide +kernel
theorem de_B_reached_17 : decode by_B_reached 17 = .ok (.ireturn, 1) := by decide +kernel
theorem de_B_reachedAll_0 : decode by_B_reachedAll 0 = .ok (.aload_n 0, 1) := by decide +kernel
theorem de_B_reachedAll_1 : decode by_B_reachedAll 1 = .ok (.invokevirtual 69, 3) := by decide +kernel
theorem de_B_reachedAll_4 : decode by_B_reachedAll 4 = .ok (.aload_n 0, 1) := by decide +kernel
theorem de_B_reachedAll_5 : decode by_B_reachedAll 5 = .ok (.getfield 22, 3) := by decide +kernel
theorem de_B_reachedAll_8 : decode by_B_reachedAll 8 = .ok (.aload_n 0, 1) := by decide +kernel
theorem de_B_reachedAll_9 : decode by_B_reachedAll 9 = .ok (.getfield 10, 3) := by decide +kernel
theorem de_B_reachedAll_12 : decode by_B_reachedAll 12 = .ok (.invokevirtual 76, 3) := by decide +kernel
theorem de_B_reachedAll_15 : decode by_B_reachedAll 15 = .ok (.ireturn, 1) := by decide +kernel
theorem de_B_known_0 : decode by_B_known 0 = .ok (.aload_n 0, 1) := by decide +kernel
theorem de_B_known_1 : decode by_B_known 1 = .ok (.iload_n 1, 1) := by decide +kernel
theorem de_B_known_2 : decode by_B_known 2 = .ok (.invokevirtual 65, 3) := by decide +kernel
theorem de_B_known_5 : decode by_B_known 5 = .ok (.aload_n 0, 1) := by decide +kernel
theorem de_B_known_6 : decode by_B_known 6 = .ok (.iload_n 2, 1) := by decide +kernel
theorem de_B_known_7 : decode by_B_known 7 = .ok (.invokevirtual 80, 3) := by decide +kernel
theorem de_B_known_10 : decode by_B_known 10 = .ok (.aload_n 0, 1) := by decide +kernel
theorem de_B_known_11 : decode by_B_known 11 = .ok (.invokevirtual 69, 3) := by decide +kernel
theorem de_B_known_14 : decode by_B_known 14 = .ok (.aload_n 0, 1) := by decide +kernel
theorem de_B_known_15 : decode by_B_known 15 = .ok (.getfield 22, 3) := by decide +kernel
theorem de_B_known_18 : decode by_B_known 18 = .ok (.getfield 83, 3) := by decide +kernel
theorem de_B_known_21 : decode by_B_known 21 = .ok (.iload_n 1, 1) := by decide +kernel
theorem de_B_known_22 : decode by_B_known 22 = .ok (.iload_n 2, 1) := by decide +kernel
theorem de_B_known_23 : decode by_B_known 23 = .ok (.invokestatic 87, 3) := by decide +kernel
theorem de_B_known_26 : decode by_B_known 26 = .ok (.iaload, 1) := by decide +kernel
theorem de_B_known_27 : decode by_B_known 27 = .ok (.ireturn, 1) := by decide +kernel
theorem de_B_constant_0 : decode by_B_constant 0 = .ok (.aload_n 0, 1) := by decide +kernel
theorem de_B_constant_1 : decode by_B_constant 1 = .ok (.iload_n 1, 1) := by decide +kernel
theorem de_B_constant_2 : decode by_B_constant 2 = .ok (.invokevirtual 65, 3) := by decide +kernel
theorem de_B_constant_5 : decode by_B_constant 5 = .ok (.aload_n 0, 1) := by decide +kernel
theorem de_B_constant_6 : decode by_B_constant 6 = .ok (.iload_n 2, 1) := by decide +kernel
theorem de_B_constant_7 : decode by_B_constant 7 = .ok (.invokevirtual 80, 3) := by decide +kernel
theorem de_B_constant_10 : decode by_B_constant 10 = .ok (.aload_n 0, 1) := by decide +kernel
theorem de_B_constant_11 : decode by_B_constant 11 = .ok (.invokevirtual 69, 3) := by decide +kernel
theorem de_B_constant_14 : decode by_B_constant 14 = .ok (.aload_n 0, 1) := by decide +kernel
theorem de_B_constant_15 : decode by_B_constant 15 = .ok (.getfield 22, 3) := by decide +kernel
theorem de_B_constant_18 : decode by_B_constant 18 = .ok (.getfield 91, 3) := by decide +kernel
theorem de_B_constant_21 : decode by_B_constant 21 = .ok (.iload_n 1, 1) := by decide +kernel
theorem de_B_constant_22 : decode by_B_constant 22 = .ok (.iload_n 2, 1) := by decide +kernel
theorem de_B_constant_23 : decode by_B_constant 23 = .ok (.invokestatic 87, 3) := by decide +kernel
theorem de_B_constant_26 : decode by_B_constant 26 = .ok (.iaload, 1) := by decide +kernel
theorem de_B_constant_27 : decode by_B_constant 27 = .ok (.ireturn, 1) := by decide +kernel
theorem de_B_rewrite_0 : decode by_B_rewrite 0 = .ok (.aload_n 0, 1) := by decide +kernel
theorem de_B_rewrite_1 : decode by_B_rewrite 1 = .ok (.getfield 10, 3) := by decide +kernel
theorem de_B_rewrite_4 : decode by_B_rewrite 4 = .ok (.getfield 47, 3) := by decide +kernel
theorem de_B_rewrite_7 : decode by_B_rewrite 7 = .ok (.ifCond .ne 13, 3) := by decide +kernel
theorem de_B_rewrite_10 : decode by_B_rewrite 10 = .ok (.new 51, 3) := by decide +kernel
theorem de_B_rewrite_13 : decode by_B_rewrite 13 = .ok (.dup, 1) := by decide +kernel
theorem de_B_rewrite_14 : decode by_B_rewrite 14 = .ok (.ldc 94, 2) := by decide +kernel
theorem de_B_rewrite_16 : decode by_B_rewrite 16 = .ok (.invokespecial 55, 3) := by decide +kernel
theorem de_B_rewrite_19 : decode by_B_rewrite 19 = .ok (.athrow, 1) := by decide +kernel
theorem de_B_rewrite_20 : decode by_B_rewrite 20 = .ok (.aload_n 0, 1) := by decide +kernel
theorem de_B_rewrite_21 : decode by_B_rewrite 21 = .ok (.invokevirtual 69, 3) := by decide +kernel
theorem de_B_rewrite_24 : decode by_B_rewrite 24 = .ok (.aload_n 0, 1) := by decide +kernel
theorem de_B_rewrite_25 : decode by_B_rewrite 25 = .ok (.getfield 29, 3) := by decide +kernel
theorem de_B_rewrite_28 : decode by_B_rewrite 28 = .ok (.aload_n 0, 1) := by decide +kernel
theorem de_B_rewrite_29 : decode by_B_rewrite 29 = .ok (.getfield 10, 3) := by decide +kernel
theorem de_B_rewrite_32 : decode by_B_rewrite 32 = .ok (.aload_n 0, 1) := by decide +kernel
theorem de_B_rewrite_33 : decode by_B_rewrite 33 = .ok (.getfield 22, 3) := by decide +kernel
theorem de_B_rewrite_36 : decode by_B_rewrite 36 = .ok (.aload_n 0, 1) := by decide +kernel
theorem de_B_rewrite_37 : decode by_B_rewrite 37 = .ok (.getfield 16, 3) := by decide +kernel
theorem de_B_rewrite_40 : decode by_B_rewrite 40 = .ok (.invokevirtual 96, 3) := by decide +kernel
theorem de_B_rewrite_43 : decode by_B_rewrite 43 = .ok (.aload_n 0, 1) := by decide +kernel
theorem de_B_rewrite_44 : decode by_B_rewrite 44 = .ok (.iconst 1, 1) := by decide +kernel
theorem de_B_rewrite_45 : decode by_B_rewrite 45 = .ok (.putfield 100, 3) := by decide +kernel
theorem de_B_rewrite_48 : decode by_B_rewrite 48 = .ok (.aload_n 0, 1) := by decide +kernel
theorem de_B_rewrite_49 : decode by_B_rewrite 49 = .ok (.getfield 40, 3) := by decide +kernel
theorem de_B_rewrite_52 : decode by_B_rewrite 52 = .ok (.iconst 0, 1) := by decide +kernel
theorem de_B_rewrite_53 : decode by_B_rewrite 53 = .ok (.putfield 104, 3) := by decide +kernel
theorem de_B_rewrite_56 : decode by_B_rewrite 56 = .ok (.aload_n 0, 1) := by decide +kernel
theorem de_B_rewrite_57 : decode by_B_rewrite 57 = .ok (.getfield 16, 3) := by decide +kernel
theorem de_B_rewrite_60 : decode by_B_rewrite 60 = .ok (.getfield 47, 3) := by decide +kernel
theorem de_B_rewrite_63 : decode by_B_rewrite 63 = .ok (.ireturn, 1) := by decide +kernel
theorem de_B_code_0 : decode by_B_code 0 = .ok (.aload_n 0, 1) := by decide +kernel
theorem de_B_code_1 : decode by_B_code 1 = .ok (.iload_n 1, 1) := by decide +kernel
theorem de_B_code_2 : decode by_B_code 2 = .ok (.invokevirtual 107, 3) := by decide +kernel
theorem de_B_code_5 : decode by_B_code 5 = .ok (.aload_n 0, 1) := by decide +kernel
theorem de_B_code_6 : decode by_B_code 6 = .ok (.iload_n 1, 1) := by decide +kernel
theorem de_B_code_7 : decode by_B_code 7 = .ok (.invokevirtual 110, 3) := by decide +kernel
theorem de_B_code_10 : decode by_B_code 10 = .ok (.aload_n 0, 1) := by decide +kernel
theorem de_B_code_11 : decode by_B_code 11 = .ok (.iload_n 1, 1) := by decide +kernel
theorem de_B_code_12 : decode by_B_code 12 = .ok (.invokevirtual 113, 3) := by decide +kernel
theorem de_B_code_15 : decode by_B_code 15 = .ok (.astore 4, 2) := by decide +kernel
theorem de_B_code_17 : decode by_B_code 17 = .ok (.iload_n 2, 1) := by decide +kernel
theorem de_B_code_18 : decode by_B_code 18 = .ok (.ifCond .lt 21, 3) := by decide +kernel
theorem de_B_code_21 : decode by_B_code 21 = .ok (.iload_n 2, 1) := by decide +kernel
theorem de_B_code_22 : decode by_B_code 22 = .ok (.aload 4, 2) := by decide +kernel
theorem de_B_code_24 : decode by_B_code 24 = .ok (.getfield 47, 3) := by decide +kernel
theorem de_B_code_27 : decode by_B_code 27 = .ok (.if_icmp .ge 12, 3) := by decide +kernel
theorem de_B_code_30 : decode by_B_code 30 = .ok (.iload_n 3, 1) := by decide +kernel
theorem de_B_code_31 : decode by_B_code 31 = .ok (.ifCond .lt 8, 3) := by decide +kernel
theorem de_B_code_34 : decode by_B_code 34 = .ok (.iload_n 3, 1) := by decide +kernel
theorem de_B_code_35 : decode by_B_code 35 = .ok (.iconst 3, 1) := by decide +kernel
theorem de_B_code_36 : decode by_B_code 36 = .ok (.if_icmp .le 13, 3) := by decide +kernel
theorem de_B_code_39 : decode by_B_code 39 = .ok (.new 117, 3) := by decide +kernel
theorem de_B_code_42 : decode by_B_code 42 = .ok (.dup, 1) := by decide +kernel
theorem de_B_code_43 : decode by_B_code 43 = .ok (.ldc 119, 2) := by decide +kernel
theorem de_B_code_45 : decode by_B_code 45 = .ok (.invokespecial 121, 3) := by decide +kernel
theorem de_B_code_48 : decode by_B_code 48 = .ok (.athrow, 1) := by decide +kernel
theorem de_B_code_49 : decode by_B_code 49 = .ok (.aload 4, 2) := by decide +kernel
theorem de_B_code_51 : decode by_B_code 51 = .ok (.iload_n 2, 1) := by decide +kernel
theorem de_B_code_52 : decode by_B_code 52 = .ok (.iload_n 3, 1) := by decide +kernel
theorem de_B_code_53 : decode by_B_code 53 = .ok (.invokevirtual 122, 3) := by decide +kernel
theorem de_B_code_56 : decode by_B_code 56 = .ok (.ireturn, 1) := by decide +kernel
theorem de_B_start_0 : decode by_B_start 0 = .ok (.aload_n 0, 1) := by decide +kernel
theorem de_B_start_1 : decode by_B_start 1 = .ok (.iload_n 1, 1) := by decide +kernel
theorem de_B_start_2 : decode by_B_start 2 = .ok (.invokevirtual 110, 3) := by decide +kernel
theorem de_B_start_5 : decode by_B_start 5 = .ok (.aload_n 0, 1) := by decide +kernel
theorem de_B_start_6 : decode by_B_start 6 = .ok (.iload_n 1, 1) := by decide +kernel
theorem de_B_start_7 : decode by_B_start 7 = .ok (.invokevirtual 107, 3) := by decide +kernel
theorem de_B_start_10 : decode by_B_start 10 = .ok (.aload_n 0, 1) := by decide +kernel
theorem de_B_start_11 : decode by_B_start 11 = .ok (.iload_n 1, 1) := by decide +kernel
theorem de_B_start_12 : decode by_B_start 12 = .ok (.invokevirtual 125, 3) := by decide +kernel
theorem de_B_start_15 : decode by_B_start 15 = .ok (.aload_n 0, 1) := by decide +kernel
theorem de_B_start_16 : decode by_B_start 16 = .ok (.iload_n 1, 1) := by decide +kernel
theorem de_B_start_17 : decode by_B_start 17 = .ok (.invokevirtual 113, 3) := by decide +kernel
theorem de_B_start_20 : decode by_B_start 20 = .ok (.iload_n 2, 1) := by decide +kernel
theorem de_B_start_21 : decode by_B_start 21 = .ok (.iload_n 3, 1) := by decide +kernel
theorem de_B_start_22 : decode by_B_start 22 = .ok (.iload 4, 2) := by decide +kernel
theorem de_B_start_24 : decode by_B_start 24 = .ok (.iload 5, 2) := by decide +kernel
theorem de_B_start_26 : decode by_B_start 26 = .ok (.invokevirtual 129, 3) := by decide +kernel
theorem de_B_start_29 : decode by_B_start 29 = .ok (.return_, 1) := by decide +kernel
theorem de_B_run_0 : decode by_B_run 0 = .ok (.aload_n 0, 1) := by decide +kernel
theorem de_B_run_1 : decode by_B_run 1 = .ok (.iload_n 1, 1) := by decide +kernel
theorem de_B_run_2 : decode by_B_run 2 = .ok (.invokevirtual 110, 3) := by decide +kernel
theorem de_B_run_5 : decode by_B_run 5 = .ok (.iload_n 2, 1) := by decide +kernel
theorem de_B_run_6 : decode by_B_run 6 = .ok (.ifCond .lt 10, 3) := by decide +kernel
theorem de_B_run_9 : decode by_B_run 9 = .ok (.iload_n 2, 1) := by decide +kernel
theorem de_B_run_10 : decode by_B_run 10 = .ok (.sipush 10000, 3) := by decide +kernel
theorem de_B_run_13 : decode by_B_run 13 = .ok (.if_icmp .le 13, 3) := by decide +kernel
theorem de_B_run_16 : decode by_B_run 16 = .ok (.new 133, 3) := by decide +kernel
theorem de_B_run_19 : decode by_B_run 19 = .ok (.dup, 1) := by decide +kernel
theorem de_B_run_20 : decode by_B_run 20 = .ok (.ldc 135, 2) := by decide +kernel
theorem de_B_run_22 : decode by_B_run 22 = .ok (.invokespecial 137, 3) := by decide +kernel
theorem de_B_run_25 : decode by_B_run 25 = .ok (.athrow, 1) := by decide +kernel
theorem de_B_run_26 : decode by_B_run 26 = .ok (.aload_n 0, 1) := by decide +kernel
theorem de_B_run_27 : decode by_B_run 27 = .ok (.iload_n 1, 1) := by decide +kernel
theorem de_B_run_28 : decode by_B_run 28 = .ok (.invokevirtual 138, 3) := by decide +kernel
theorem de_B_run_31 : decode by_B_run 31 = .ok (.aload_n 0, 1) := by decide +kernel
theorem de_B_run_32 : decode by_B_run 32 = .ok (.iload_n 1, 1) := by decide +kernel
theorem de_B_run_33 : decode by_B_run 33 = .ok (.invokevirtual 125, 3) := by decide +kernel
theorem de_B_run_36 : decode by_B_run 36 = .ok (.aload_n 0, 1) := by decide +kernel
theorem de_B_run_37 : decode by_B_run 37 = .ok (.iload_n 1, 1) := by decide +kernel
theorem de_B_run_38 : decode by_B_run 38 = .ok (.invokevirtual 113, 3) := by decide +kernel
theorem de_B_run_41 : decode by_B_run 41 = .ok (.iload_n 2, 1) := by decide +kernel
theorem de_B_run_42 : decode by_B_run 42 = .ok (.invokevirtual 141, 3) := by decide +kernel
theorem de_B_run_45 : decode by_B_run 45 = .ok (.ireturn, 1) := by decide +kernel
theorem de_B_place_0 : decode by_B_place 0 = .ok (.aload_n 0, 1) := by decide +kernel
theorem de_B_place_1 : decode by_B_place 1 = .ok (.iload_n 1, 1) := by decide +kernel
theorem de_B_place_2 : decode by_B_place 2 = .ok (.invokevirtual 110, 3) := by decide +kernel
theorem de_B_place_5 : decode by_B_place 5 = .ok (.aload_n 0, 1) := by decide +kernel
theorem de_B_place_6 : decode by_B_place 6 = .ok (.iload_n 1, 1) := by decide +kernel
theorem de_B_place_7 : decode by_B_place 7 = .ok (.invokevirtual 138, 3) := by decide +kernel
theorem de_B_place_10 : decode by_B_place 10 = .ok (.aload_n 0, 1) := by decide +kernel
theorem de_B_place_11 : decode by_B_place 11 = .ok (.iload_n 1, 1) := by decide +kernel
theorem de_B_place_12 : decode by_B_place 12 = .ok (.invokevirtual 125, 3) := by decide +kernel
theorem de_B_place_15 : decode by_B_place 15 = .ok (.getfield 145, 3) := by decide +kernel
theorem de_B_place_18 : decode by_B_place 18 = .ok (.ireturn, 1) := by decide +kernel
theorem de_B_value_0 : decode by_B_value 0 = .ok (.aload_n 0, 1) := by decide +kernel
theorem de_B_value_1 : decode by_B_value 1 = .ok (.iload_n 1, 1) := by decide +kernel
theorem de_B_value_2 : decode by_B_value 2 = .ok (.invokevirtual 110, 3) := by decide +kernel
theorem de_B_value_5 : decode by_B_value 5 = .ok (.aload_n 0, 1) := by decide +kernel
theorem de_B_value_6 : decode by_B_value 6 = .ok (.iload_n 2, 1) := by decide +kernel
theorem de_B_value_7 : decode by_B_value 7 = .ok (.invokevirtual 80, 3) := by decide +kernel
theorem de_B_value_10 : decode by_B_value 10 = .ok (.aload_n 0, 1) := by decide +kernel
theorem de_B_value_11 : decode by_B_value 11 = .ok (.iload_n 1, 1) := by decide +kernel
theorem de_B_value_12 : decode by_B_value 12 = .ok (.invokevirtual 138, 3) := by decide +kernel
theorem de_B_value_15 : decode by_B_value 15 = .ok (.aload_n 0, 1) := by decide +kernel
theorem de_B_value_16 : decode by_B_value 16 = .ok (.iload_n 1, 1) := by decide +kernel
theorem de_B_value_17 : decode by_B_value 17 = .ok (.invokevirtual 125, 3) := by decide +kernel
theorem de_B_value_20 : decode by_B_value 20 = .ok (.getfield 148, 3) := by decide +kernel
theorem de_B_value_23 : decode by_B_value 23 = .ok (.iload_n 2, 1) := by decide +kernel
theorem de_B_value_24 : decode by_B_value 24 = .ok (.iaload, 1) := by decide +kernel
theorem de_B_value_25 : decode by_B_value 25 = .ok (.ireturn, 1) := by decide +kernel
theorem de_B_steps_0 : decode by_B_steps 0 = .ok (.aload_n 0, 1) := by decide +kernel
theorem de_B_steps_1 : decode by_B_steps 1 = .ok (.iload_n 1, 1) := by decide +kernel
theorem de_B_steps_2 : decode by_B_steps 2 = .ok (.invokevirtual 110, 3) := by decide +kernel
theorem de_B_steps_5 : decode by_B_steps 5 = .ok (.aload_n 0, 1) := by decide +kernel
theorem de_B_steps_6 : decode by_B_steps 6 = .ok (.iload_n 1, 1) := by decide +kernel
theorem de_B_steps_7 : decode by_B_steps 7 = .ok (.invokevirtual 138, 3) := by decide +kernel
theorem de_B_steps_10 : decode by_B_steps 10 = .ok (.aload_n 0, 1) := by decide +kernel
theorem de_B_steps_11 : decode by_B_steps 11 = .ok (.iload_n 1, 1) := by decide +kernel
theorem de_B_steps_12 : decode by_B_steps 12 = .ok (.invokevirtual 125, 3) := by decide +kernel
theorem de_B_steps_15 : decode by_B_steps 15 = .ok (.getfield 151, 3) := by decide +kernel
theorem de_B_steps_18 : decode by_B_steps 18 = .ok (.ireturn, 1) := by decide +kernel
theorem de_B_forgetWhatFollowed_0 : decode by_B_forgetWhatFollowed 0 = .ok (.aload_n 0, 1) := by decide +kernel
theorem de_B_forgetWhatFollowed_1 : decode by_B_forgetWhatFollowed 1 = .ok (.iconst 0, 1) := by decide +kernel
theorem de_B_forgetWhatFollowed_2 : decode by_B_forgetWhatFollowed 2 = .ok (.putfield 154, 3) := by decide +kernel
theorem de_B_forgetWhatFollowed_5 : decode by_B_forgetWhatFollowed 5 = .ok (.aload_n 0, 1) := by decide +kernel
theorem de_B_forgetWhatFollowed_6 : decode by_B_forgetWhatFollowed 6 = .ok (.iconst 0, 1) := by decide +kernel
theorem de_B_forgetWhatFollowed_7 : decode by_B_forgetWhatFollowed 7 = .ok (.putfield 100, 3) := by decide +kernel
theorem de_B_forgetWhatFollowed_10 : decode by_B_forgetWhatFollowed 10 = .ok (.aload_n 0, 1) := by decide +kernel
theorem de_B_forgetWhatFollowed_11 : decode by_B_forgetWhatFollowed 11 = .ok (.getfield 36, 3) := by decide +kernel
theorem de_B_forgetWhatFollowed_14 : decode by_B_forgetWhatFollowed 14 = .ok (.iconst 0, 1) := by decide +kernel
theorem de_B_forgetWhatFollowed_15 : decode by_B_forgetWhatFollowed 15 = .ok (.putfield 104, 3) := by decide +kernel
theorem de_B_forgetWhatFollowed_18 : decode by_B_forgetWhatFollowed 18 = .ok (.aload_n 0, 1) := by decide +kernel
theorem de_B_forgetWhatFollowed_19 : decode by_B_forgetWhatFollowed 19 = .ok (.getfield 40, 3) := by decide +kernel
theorem de_B_forgetWhatFollowed_22 : decode by_B_forgetWhatFollowed 22 = .ok (.iconst 0, 1) := by decide +kernel
theorem de_B_forgetWhatFollowed_23 : decode by_B_forgetWhatFollowed 23 = .ok (.putfield 104, 3) := by decide +kernel
theorem de_B_forgetWhatFollowed_26 : decode by_B_forgetWhatFollowed 26 = .ok (.return_, 1) := by decide +kernel
theorem de_B_analyseOnce_0 : decode by_B_analyseOnce 0 = .ok (.aload_n 0, 1) := by decide +kernel
theorem de_B_analyseOnce_1 : decode by_B_analyseOnce 1 = .ok (.getfield 154, 3) := by decide +kernel
theorem de_B_analyseOnce_4 : decode by_B_analyseOnce 4 = .ok (.ifCond .ne 19, 3) := by decide +kernel
theorem de_B_analyseOnce_7 : decode by_B_analyseOnce 7 = .ok (.aload_n 0, 1) := by decide +kernel
theorem de_B_analyseOnce_8 : decode by_B_analyseOnce 8 = .ok (.getfield 22, 3) := by decide +kernel
theorem de_B_analyseOnce_11 : decode by_B_analyseOnce 11 = .ok (.aload_n 0, 1) := by decide +kernel
theorem de_B_analyseOnce_12 : decode by_B_analyseOnce 12 = .ok (.getfield 10, 3) := by decide +kernel
theorem de_B_analyseOnce_15 : decode by_B_analyseOnce 15 = .ok (.invokevirtual 157, 3) := by decide +kernel
theorem de_B_analyseOnce_18 : decode by_B_analyseOnce 18 = .ok (.aload_n 0, 1) := by decide +kernel
theorem de_B_analyseOnce_19 : decode by_B_analyseOnce 19 = .ok (.iconst 1, 1) := by decide +kernel
theorem de_B_analyseOnce_20 : decode by_B_analyseOnce 20 = .ok (.putfield 154, 3) := by decide +kernel
theorem de_B_analyseOnce_23 : decode by_B_analyseOnce 23 = .ok (.return_, 1) := by decide +kernel
theorem de_B_codeOf_0 : decode by_B_codeOf 0 = .ok (.iload_n 1, 1) := by decide +kernel
theorem de_B_codeOf_1 : decode by_B_codeOf 1 = .ok (.ifCond .ne 10, 3) := by decide +kernel
theorem de_B_codeOf_4 : decode by_B_codeOf 4 = .ok (.aload_n 0, 1) := by decide +kernel
theorem de_B_codeOf_5 : decode by_B_codeOf 5 = .ok (.getfield 10, 3) := by decide +kernel
theorem de_B_codeOf_8 : decode by_B_codeOf 8 = .ok (.goto 7, 3) := by decide +kernel
theorem de_B_codeOf_11 : decode by_B_codeOf 11 = .ok (.aload_n 0, 1) := by decide +kernel
theorem de_B_codeOf_12 : decode by_B_codeOf 12 = .ok (.getfield 16, 3) := by decide +kernel
theorem de_B_codeOf_15 : decode by_B_codeOf 15 = .ok (.areturn, 1) := by decide +kernel
theorem de_B_runOf_0 : decode by_B_runOf 0 = .ok (.iload_n 1, 1) := by decide +kernel
theorem de_B_runOf_1 : decode by_B_runOf 1 = .ok (.ifCond .ne 10, 3) := by decide +kernel
theorem de_B_runOf_4 : decode by_B_runOf 4 = .ok (.aload_n 0, 1) := by decide +kernel
theorem de_B_runOf_5 : decode by_B_runOf 5 = .ok (.getfield 36, 3) := by decide +kernel
theorem de_B_runOf_8 : decode by_B_runOf 8 = .ok (.goto 7, 3) := by decide +kernel
theorem de_B_runOf_11 : decode by_B_runOf 11 = .ok (.aload_n 0, 1) := by decide +kernel
theorem de_B_runOf_12 : decode by_B_runOf 12 = .ok (.getfield 40, 3) := by decide +kernel
theorem de_B_runOf_15 : decode by_B_runOf 15 = .ok (.areturn, 1) := by decide +kernel
theorem de_B_refuseWrongInstruction_0 : decode by_B_refuseWrongInstruction 0 = .ok (.iload_n 1, 1) := by decide +kernel
theorem de_B_refuseWrongInstruction_1 : decode by_B_refuseWrongInstruction 1 = .ok (.iload_n 2, 1) := by decide +kernel
theorem de_B_refuseWrongInstruction_2 : decode by_B_refuseWrongInstruction 2 = .ok (.iload_n 3, 1) := by decide +kernel
theorem de_B_refuseWrongInstruction_3 : decode by_B_refuseWrongInstruction 3 = .ok (.iload 4, 2) := by decide +kernel
theorem de_B_refuseWrongInstruction_5 : decode by_B_refuseWrongInstruction 5 = .ok (.invokestatic 160, 3) := by decide +kernel
theorem de_B_refuseWrongInstruction_8 : decode by_B_refuseWrongInstruction 8 = .ok (.ifCond .ne 13, 3) := by decide +kernel
theorem de_B_refuseWrongInstruction_11 : decode by_B_refuseWrongInstruction 11 = .ok (.new 133, 3) := by decide +kernel
theorem de_B_refuseWrongInstruction_14 : decode by_B_refuseWrongInstruction 14 = .ok (.dup, 1) := by decide +kernel
theorem de_B_refuseWrongInstruction_15 : decode by_B_refuseWrongInstruction 15 = .ok (.ldc 164, 2) := by decide +kernel
theorem de_B_refuseWrongInstruction_17 : decode by_B_refuseWrongInstruction 17 = .ok (.invokespecial 137, 3) := by decide +kernel
theorem de_B_refuseWrongInstruction_20 : decode by_B_refuseWrongInstruction 20 = .ok (.athrow, 1) := by decide +kernel
theorem de_B_refuseWrongInstruction_21 : decode by_B_refuseWrongInstruction 21 = .ok (.return_, 1) := by decide +kernel
theorem de_B_refuseWrongIndex_0 : decode by_B_refuseWrongIndex 0 = .ok (.iload_n 1, 1) := by decide +kernel
theorem de_B_refuseWrongIndex_1 : decode by_B_refuseWrongIndex 1 = .ok (.ifCond .lt 14, 3) := by decide +kernel
theorem de_B_refuseWrongIndex_4 : decode by_B_refuseWrongIndex 4 = .ok (.iload_n 1, 1) := by decide +kernel
theorem de_B_refuseWrongIndex_5 : decode by_B_refuseWrongIndex 5 = .ok (.aload_n 0, 1) := by decide +kernel
theorem de_B_refuseWrongIndex_6 : decode by_B_refuseWrongIndex 6 = .ok (.getfield 10, 3) := by decide +kernel
theorem de_B_refuseWrongIndex_9 : decode by_B_refuseWrongIndex 9 = .ok (.getfield 47, 3) := by decide +kernel
theorem de_B_refuseWrongIndex_12 : decode by_B_refuseWrongIndex 12 = .ok (.if_icmp .lt 13, 3) := by decide +kernel
theorem de_B_refuseWrongIndex_15 : decode by_B_refuseWrongIndex 15 = .ok (.new 117, 3) := by decide +kernel
theorem de_B_refuseWrongIndex_18 : decode by_B_refuseWrongIndex 18 = .ok (.dup, 1) := by decide +kernel
theorem de_B_refuseWrongIndex_19 : decode by_B_refuseWrongIndex 19 = .ok (.ldc 166, 2) := by decide +kernel
theorem de_B_refuseWrongIndex_21 : decode by_B_refuseWrongIndex 21 = .ok (.invokespecial 121, 3) := by decide +kernel
theorem de_B_refuseWrongIndex_24 : decode by_B_refuseWrongIndex 24 = .ok (.athrow, 1) := by decide +kernel
theorem de_B_refuseWrongIndex_25 : decode by_B_refuseWrongIndex 25 = .ok (.return_, 1) := by decide +kernel
theorem de_B_refuseWrongVariable_0 : decode by_B_refuseWrongVariable 0 = .ok (.iload_n 1, 1) := by decide +kernel
theorem de_B_refuseWrongVariable_1 : decode by_B_refuseWrongVariable 1 = .ok (.invokestatic 168, 3) := by decide +kernel
theorem de_B_refuseWrongVariable_4 : decode by_B_refuseWrongVariable 4 = .ok (.ifCond .ne 13, 3) := by decide +kernel
theorem de_B_refuseWrongVariable_7 : decode by_B_refuseWrongVariable 7 = .ok (.new 117, 3) := by decide +kernel
theorem de_B_refuseWrongVariable_10 : decode by_B_refuseWrongVariable 10 = .ok (.dup, 1) := by decide +kernel
theorem de_B_refuseWrongVariable_11 : decode by_B_refuseWrongVariable 11 = .ok (.ldc 171, 2) := by decide +kernel
theorem de_B_refuseWrongVariable_13 : decode by_B_refuseWrongVariable 13 = .ok (.invokespecial 121, 3) := by decide +kernel
theorem de_B_refuseWrongVariable_16 : decode by_B_refuseWrongVariable 16 = .ok (.athrow, 1) := by decide +kernel
theorem de_B_refuseWrongVariable_17 : decode by_B_refuseWrongVariable 17 = .ok (.return_, 1) := by decide +kernel
theorem de_B_refuseWrongSide_0 : decode by_B_refuseWrongSide 0 = .ok (.iload_n 1, 1) := by decide +kernel
theorem de_B_refuseWrongSide_1 : decode by_B_refuseWrongSide 1 = .ok (.ifCond .eq 18, 3) := by decide +kernel
theorem de_B_refuseWrongSide_4 : decode by_B_refuseWrongSide 4 = .ok (.iload_n 1, 1) := by decide +kernel
theorem de_B_refuseWrongSide_5 : decode by_B_refuseWrongSide 5 = .ok (.iconst 1, 1) := by decide +kernel
theorem de_B_refuseWrongSide_6 : decode by_B_refuseWrongSide 6 = .ok (.if_icmp .eq 13, 3) := by decide +kernel
theorem de_B_refuseWrongSide_9 : decode by_B_refuseWrongSide 9 = .ok (.new 117, 3) := by decide +kernel
theorem de_B_refuseWrongSide_12 : decode by_B_refuseWrongSide 12 = .ok (.dup, 1) := by decide +kernel
theorem de_B_refuseWrongSide_13 : decode by_B_refuseWrongSide 13 = .ok (.ldc 173, 2) := by decide +kernel
theorem de_B_refuseWrongSide_15 : decode by_B_refuseWrongSide 15 = .ok (.invokespecial 121, 3) := by decide +kernel
theorem de_B_refuseWrongSide_18 : decode by_B_refuseWrongSide 18 = .ok (.athrow, 1) := by decide +kernel
theorem de_B_refuseWrongSide_19 : decode by_B_refuseWrongSide 19 = .ok (.return_, 1) := by decide +kernel
theorem de_B_refuseMissingRewritten_0 : decode by_B_refuseMissingRewritten 0 = .ok (.iload_n 1, 1) := by decide +kernel
theorem de_B_refuseMissingRewritten_1 : decode by_B_refuseMissingRewritten 1 = .ok (.iconst 1, 1) := by decide +kernel
theorem de_B_refuseMissingRewritten_2 : decode by_B_refuseMissingRewritten 2 = .ok (.if_icmp .ne 20, 3) := by decide +kernel
theorem de_B_refuseMissingRewritten_5 : decode by_B_refuseMissingRewritten 5 = .ok (.aload_n 0, 1) := by decide +kernel
theorem de_B_refuseMissingRewritten_6 : decode by_B_refuseMissingRewritten 6 = .ok (.getfield 100, 3) := by decide +kernel
theorem de_B_refuseMissingRewritten_9 : decode by_B_refuseMissingRewritten 9 = .ok (.ifCond .ne 13, 3) := by decide +kernel
theorem de_B_refuseMissingRewritten_12 : decode by_B_refuseMissingRewritten 12 = .ok (.new 51, 3) := by decide +kernel
theorem de_B_refuseMissingRewritten_15 : decode by_B_refuseMissingRewritten 15 = .ok (.dup, 1) := by decide +kernel
theorem de_B_refuseMissingRewritten_16 : decode by_B_refuseMissingRewritten 16 = .ok (.ldc 175, 2) := by decide +kernel
theorem de_B_refuseMissingRewritten_18 : decode by_B_refuseMissingRewritten 18 = .ok (.invokespecial 55, 3) := by decide +kernel
theorem de_B_refuseMissingRewritten_21 : decode by_B_refuseMissingRewritten 21 = .ok (.athrow, 1) := by decide +kernel
theorem de_B_refuseMissingRewritten_22 : decode by_B_refuseMissingRewritten 22 = .ok (.return_, 1) := by decide +kernel
theorem de_B_refuseUnstarted_0 : decode by_B_refuseUnstarted 0 = .ok (.aload_n 0, 1) := by decide +kernel
theorem de_B_refuseUnstarted_1 : decode by_B_refuseUnstarted 1 = .ok (.iload_n 1, 1) := by decide +kernel
theorem de_B_refuseUnstarted_2 : decode by_B_refuseUnstarted 2 = .ok (.invokevirtual 125, 3) := by decide +kernel
theorem de_B_refuseUnstarted_5 : decode by_B_refuseUnstarted 5 = .ok (.getfield 104, 3) := by decide +kernel
theorem de_B_refuseUnstarted_8 : decode by_B_refuseUnstarted 8 = .ok (.ifCond .ne 13, 3) := by decide +kernel
theorem de_B_refuseUnstarted_11 : decode by_B_refuseUnstarted 11 = .ok (.new 51, 3) := by decide +kernel
theorem de_B_refuseUnstarted_14 : decode by_B_refuseUnstarted 14 = .ok (.dup, 1) := by decide +kernel
theorem de_B_refuseUnstarted_15 : decode by_B_refuseUnstarted 15 = .ok (.ldc 177, 2) := by decide +kernel
theorem de_B_refuseUnstarted_17 : decode by_B_refuseUnstarted 17 = .ok (.invokespecial 55, 3) := by decide +kernel
theorem de_B_refuseUnstarted_20 : decode by_B_refuseUnstarted 20 = .ok (.athrow, 1) := by decide +kernel
theorem de_B_refuseUnstarted_21 : decode by_B_refuseUnstarted 21 = .ok (.return_, 1) := by decide +kernel
theorem de_B_isInstruction_0 : decode by_B_isInstruction 0 = .ok (.iload_n 0, 1) := by decide +kernel
theorem de_B_isInstruction_1 : decode by_B_isInstruction 1 = .ok (.tableswitch 120 0 6 #[43, 48, 68, 68, 68, 95, 115], 43) := by decide +kernel
theorem de_B_isInstruction_44 : decode by_B_isInstruction 44 = .ok (.iload_n 1, 1) := by decide +kernel
theorem de_B_isInstruction_45 : decode by_B_isInstruction 45 = .ok (.invokestatic 168, 3) := by decide +kernel
theorem de_B_isInstruction_48 : decode by_B_isInstruction 48 = .ok (.ireturn, 1) := by decide +kernel
theorem de_B_isInstruction_49 : decode by_B_isInstruction 49 = .ok (.iload_n 1, 1) := by decide +kernel
theorem de_B_isInstruction_50 : decode by_B_isInstruction 50 = .ok (.invokestatic 168, 3) := by decide +kernel
theorem de_B_isInstruction_53 : decode by_B_isInstruction 53 = .ok (.ifCond .eq 14, 3) := by decide +kernel
theorem de_B_isInstruction_56 : decode by_B_isInstruction 56 = .ok (.iload_n 2, 1) := by decide +kernel
theorem de_B_isInstruction_57 : decode by_B_isInstruction 57 = .ok (.invokestatic 168, 3) := by decide +kernel
theorem de_B_isInstruction_60 : decode by_B_isInstruction 60 = .ok (.ifCond .eq 7, 3) := by decide +kernel
theorem de_B_isInstruction_63 : decode by_B_isInstruction 63 = .ok (.iconst 1, 1) := by decide +kernel
theorem de_B_isInstruction_64 : decode by_B_isInstruction 64 = .ok (.goto 4, 3) := by decide +kernel
theorem de_B_isInstruction_67 : decode by_B_isInstruction 67 = .ok (.iconst 0, 1) := by decide +kernel
theorem de_B_isInstruction_68 : decode by_B_isInstruction 68 = .ok (.ireturn, 1) := by decide +kernel
theorem de_B_isInstruction_69 : decode by_B_isInstruction 69 = .ok (.iload_n 1, 1) := by decide +kernel
theorem de_B_isInstruction_70 : decode by_B_isInstruction 70 = .ok (.invokestatic 168, 3) := by decide +kernel
theorem de_B_isInstruction_73 : decode by_B_isInstruction 73 = .ok (.ifCond .eq 21, 3) := by decide +kernel
theorem de_B_isInstruction_76 : decode by_B_isInstruction 76 = .ok (.iload_n 2, 1) := by decide +kernel
theorem de_B_isInstruction_77 : decode by_B_isInstruction 77 = .ok (.invokestatic 168, 3) := by decide +kernel
theorem de_B_isInstruction_80 : decode by_B_isInstruction 80 = .ok (.ifCond .eq 14, 3) := by decide +kernel
theorem de_B_isInstruction_83 : decode by_B_isInstruction 83 = .ok (.iload_n 3, 1) := by decide +kernel
theorem de_B_isInstruction_84 : decode by_B_isInstruction 84 = .ok (.invokestatic 168, 3) := by decide +kernel
theorem de_B_isInstruction_87 : decode by_B_isInstruction 87 = .ok (.ifCond .eq 7, 3) := by decide +kernel
theorem de_B_isInstruction_90 : decode by_B_isInstruction 90 = .ok (.iconst 1, 1) := by decide +kernel
theorem de_B_isInstruction_91 : decode by_B_isInstruction 91 = .ok (.goto 4, 3) := by decide +kernel
theorem de_B_isInstruction_94 : decode by_B_isInstruction 94 = .ok (.iconst 0, 1) := by decide +kernel
theorem de_B_isInstruction_95 : decode by_B_isInstruction 95 = .ok (.ireturn, 1) := by decide +kernel
theorem de_B_isInstruction_96 : decode by_B_isInstruction 96 = .ok (.iload_n 1, 1) := by decide +kernel
theorem de_B_isInstruction_97 : decode by_B_isInstruction 97 = .ok (.invokestatic 168, 3) := by decide +kernel
theorem de_B_isInstruction_100 : decode by_B_isInstruction 100 = .ok (.ifCond .eq 14, 3) := by decide +kernel
theorem de_B_isInstruction_103 : decode by_B_isInstruction 103 = .ok (.iload_n 2, 1) := by decide +kernel
theorem de_B_isInstruction_104 : decode by_B_isInstruction 104 = .ok (.invokestatic 179, 3) := by decide +kernel
theorem de_B_isInstruction_107 : decode by_B_isInstruction 107 = .ok (.ifCond .eq 7, 3) := by decide +kernel
theorem de_B_isInstruction_110 : decode by_B_isInstruction 110 = .ok (.iconst 1, 1) := by decide +kernel
theorem de_B_isInstruction_111 : decode by_B_isInstruction 111 = .ok (.goto 4, 3) := by decide +kernel
theorem de_B_isInstruction_114 : decode by_B_isInstruction 114 = .ok (.iconst 0, 1) := by decide +kernel
theorem de_B_isInstruction_115 : decode by_B_isInstruction 115 = .ok (.ireturn, 1) := by decide +kernel
theorem de_B_isInstruction_116 : decode by_B_isInstruction 116 = .ok (.iload_n 2, 1) := by decide +kernel
theorem de_B_isInstruction_117 : decode by_B_isInstruction 117 = .ok (.invokestatic 179, 3) := by decide +kernel
theorem de_B_isInstruction_120 : decode by_B_isInstruction 120 = .ok (.ireturn, 1) := by decide +kernel
theorem de_B_isInstruction_121 : decode by_B_isInstruction 121 = .ok (.iload_n 0, 1) := by decide +kernel
theorem de_B_isInstruction_122 : decode by_B_isInstruction 122 = .ok (.bipush 7, 2) := by decide +kernel
theorem de_B_isInstruction_124 : decode by_B_isInstruction 124 = .ok (.if_icmp .ne 7, 3) := by decide +kernel
theorem de_B_isInstruction_127 : decode by_B_isInstruction 127 = .ok (.iconst 1, 1) := by decide +kernel
theorem de_B_isInstruction_128 : decode by_B_isInstruction 128 = .ok (.goto 4, 3) := by decide +kernel
theorem de_B_isInstruction_131 : decode by_B_isInstruction 131 = .ok (.iconst 0, 1) := by decide +kernel
theorem de_B_isInstruction_132 : decode by_B_isInstruction 132 = .ok (.ireturn, 1) := by decide +kernel
theorem de_B_isVariable_0 : decode by_B_isVariable 0 = .ok (.iload_n 0, 1) := by decide +kernel
theorem de_B_isVariable_1 : decode by_B_isVariable 1 = .ok (.ifCond .lt 13, 3) := by decide +kernel
theorem de_B_isVariable_4 : decode by_B_isVariable 4 = .ok (.iload_n 0, 1) := by decide +kernel
theorem de_B_isVariable_5 : decode by_B_isVariable 5 = .ok (.bipush 6, 2) := by decide +kernel
theorem de_B_isVariable_7 : decode by_B_isVariable 7 = .ok (.if_icmp .ge 7, 3) := by decide +kernel
theorem de_B_isVariable_10 : decode by_B_isVariable 10 = .ok (.iconst 1, 1) := by decide +kernel
theorem de_B_isVariable_11 : decode by_B_isVariable 11 = .ok (.goto 4, 3) := by decide +kernel
theorem de_B_isVariable_14 : decode by_B_isVariable 14 = .ok (.iconst 0, 1) := by decide +kernel
theorem de_B_isVariable_15 : decode by_B_isVariable 15 = .ok (.ireturn, 1) := by decide +kernel
theorem de_B_isTarget_0 : decode by_B_isTarget 0 = .ok (.iload_n 0, 1) := by decide +kernel
theorem de_B_isTarget_1 : decode by_B_isTarget 1 = .ok (.ifCond .lt 13, 3) := by decide +kernel
theorem de_B_isTarget_4 : decode by_B_isTarget 4 = .ok (.iload_n 0, 1) := by decide +kernel
theorem de_B_isTarget_5 : decode by_B_isTarget 5 = .ok (.bipush 40, 2) := by decide +kernel
theorem de_B_isTarget_7 : decode by_B_isTarget 7 = .ok (.if_icmp .gt 7, 3) := by decide +kernel
theorem de_B_isTarget_10 : decode by_B_isTarget 10 = .ok (.iconst 1, 1) := by decide +kernel
theorem de_B_isTarget_11 : decode by_B_isTarget 11 = .ok (.goto 4, 3) := by decide +kernel
theorem de_B_isTarget_14 : decode by_B_isTarget 14 = .ok (.iconst 0, 1) := by decide +kernel
theorem de_B_isTarget_15 : decode by_B_isTarget 15 = .ok (.ireturn, 1) := by decide +kernel
theorem de_B_cell_0 : decode by_B_cell 0 = .ok (.iload_n 0, 1) := by decide +kernel
theorem de_B_cell_1 : decode by_B_cell 1 = .ok (.bipush 6, 2) := by decide +kernel
theorem de_B_cell_3 : decode by_B_cell 3 = .ok (.imul, 1) := by decide +kernel
theorem de_B_cell_4 : decode by_B_cell 4 = .ok (.iload_n 1, 1) := by decide +kernel
theorem de_B_cell_5 : decode by_B_cell 5 = .ok (.iadd, 1) := by decide +kernel
theorem de_B_cell_6 : decode by_B_cell 6 = .ok (.ireturn, 1) := by decide +kernel
theorem de_B_calculate_0 : decode by_B_calculate 0 = .ok (.iload_n 0, 1) := by decide +kernel
theorem de_B_calculate_1 : decode by_B_calculate 1 = .ok (.lookupswitch 35 #[(2, 27), (3, 31)], 27) := by decide +kernel
theorem de_B_calculate_28 : decode by_B_calculate 28 = .ok (.iload_n 1, 1) := by decide +kernel
theorem de_B_calculate_29 : decode by_B_calculate 29 = .ok (.iload_n 2, 1) := by decide +kernel
theorem de_B_calculate_30 : decode by_B_calculate 30 = .ok (.iadd, 1) := by decide +kernel
theorem de_B_calculate_31 : decode by_B_calculate 31 = .ok (.ireturn, 1) := by decide +kernel
theorem de_B_calculate_32 : decode by_B_calculate 32 = .ok (.iload_n 1, 1) := by decide +kernel
theorem de_B_calculate_33 : decode by_B_calculate 33 = .ok (.iload_n 2, 1) := by decide +kernel
theorem de_B_calculate_34 : decode by_B_calculate 34 = .ok (.isub, 1) := by decide +kernel
theorem de_B_calculate_35 : decode by_B_calculate 35 = .ok (.ireturn, 1) := by decide +kernel
theorem de_B_calculate_36 : decode by_B_calculate 36 = .ok (.iload_n 1, 1) := by decide +kernel
theorem de_B_calculate_37 : decode by_B_calculate 37 = .ok (.iload_n 2, 1) := by decide +kernel
theorem de_B_calculate_38 : decode by_B_calculate 38 = .ok (.imul, 1) := by decide +kernel
theorem de_B_calculate_39 : decode by_B_calculate 39 = .ok (.ireturn, 1) := by decide +kernel
end
section
/-! what a call asks of a method's name (by program) -/
theorem pd_B_init : yn_B_init.cls ≠ "java/lang/invoke/MethodHandle" ∧ yn_B_init.cls ≠ "java/lang/invoke/VarHandle" ∧ (parseMethodDescriptor yn_B_init.desc).map (fun d => d.parameters.length) = some 0 := by decide +kernel
theorem pd_C_init : yn_C_init.cls ≠ "java/lang/invoke/MethodHandle" ∧ yn_C_init.cls ≠ "java/lang/invoke/VarHandle" ∧ (parseMethodDescriptor yn_C_init.desc).map (fun d => d.parameters.length) = some 0 := by decide +kernel
theorem pd_A_init : yn_A_init.cls ≠ "java/lang/invoke/MethodHandle" ∧ yn_A_init.cls ≠ "java/lang/invoke/VarHandle" ∧ (parseMethodDescriptor yn_A_init.desc).map (fun d => d.parameters.length) = some 0 := by decide +kernel
theorem pd_W_init : yn_W_init.cls ≠ "java/lang/invoke/MethodHandle" ∧ yn_W_init.cls ≠ "java/lang/invoke/VarHandle" ∧ (parseMethodDescriptor yn_W_init.desc).map (fun d => d.parameters.length) = some 0 := by decide +kernel
theorem pd_E_init : yn_E_init.cls ≠ "java/lang/invoke/MethodHandle" ∧ yn_E_init.cls ≠ "java/lang/invoke/VarHandle" ∧ (parseMethodDescriptor yn_E_init.desc).map (fun d => d.parameters.length) = some 0 := by decide +kernel
theorem pd_B_clear : yn_B_clear.cls ≠ "java/lang/invoke/MethodHandle" ∧ yn_B_clear.cls ≠ "java/lang/invoke/VarHandle" ∧ (parseMethodDescriptor yn_B_clear.desc).map (fun d => d.parameters.length) = some 0 := by decide +kernel
theorem pd_B_forgetWhatFollowed : yn_B_forgetWhatFollowed.cls ≠ "java/lang/invoke/MethodHandle" ∧ yn_B_forgetWhatFollowed.cls ≠ "java/lang/invoke/VarHandle" ∧ (parseMethodDescriptor yn_B_forgetWhatFollowed.desc).map (fun d => d.parameters.length) = some 0 := by decide +kernel
theorem pd_B_reachedAll : yn_B_reachedAll.cls ≠ "java/lang/invoke/MethodHandle" ∧ yn_B_reachedAll.cls ≠ "java/lang/invoke/VarHandle" ∧ (parseMethodDescriptor yn_B_reachedAll.desc).map (fun d => d.parameters.length) = some 0 := by decide +kernel
theorem pd_B_analyseOnce : yn_B_analyseOnce.cls ≠ "java/lang/invoke/MethodHandle" ∧ yn_B_analyseOnce.cls ≠ "java/lang/invoke/VarHandle" ∧ (parseMethodDescriptor yn_B_analyseOnce.desc).map (fun d => d.parameters.length) = some 0 := by decide +kernel
theorem pd_A_perform : yn_A_perform.cls ≠ "java/lang/invoke/MethodHandle" ∧ yn_A_perform.cls ≠ "java/lang/invoke/VarHandle" ∧ (parseMethodDescriptor yn_A_perform.desc).map (fun d => d.parameters.length) = some 1 := by decide +kernel
theorem pd_J_fill : yn_J_fill.cls ≠ "java/lang/invoke/MethodHandle" ∧ yn_J_fill.cls ≠ "java/lang/invoke/VarHandle" ∧ (parseMethodDescriptor yn_J_fill.desc).map (fun d => d.parameters.length) = some 2 := by decide +kernel
theorem pd_A_comeTo : yn_A_comeTo.cls ≠ "java/lang/invoke/MethodHandle" ∧ yn_A_comeTo.cls ≠ "java/lang/invoke/VarHandle" ∧ (parseMethodDescriptor yn_A_comeTo.desc).map (fun d => d.parameters.length) = some 2 := by decide +kernel
theorem pd_B_cell : yn_B_cell.cls ≠ "java/lang/invoke/MethodHandle" ∧ yn_B_cell.cls ≠ "java/lang/invoke/VarHandle" ∧ (parseMethodDescriptor yn_B_cell.desc).map (fun d => d.parameters.length) = some 2 := by decide +kernel
theorem pd_A_isBehind : yn_A_isBehind.cls ≠ "java/lang/invoke/MethodHandle" ∧ yn_A_isBehind.cls ≠ "java/lang/invoke/VarHandle" ∧ (parseMethodDescriptor yn_A_isBehind.desc).map (fun d => d.parameters.length) = some 2 := by decide +kernel
theorem pd_A_goOnFrom : yn_A_goOnFrom.cls ≠ "java/lang/invoke/MethodHandle" ∧ yn_A_goOnFrom.cls ≠ "java/lang/invoke/VarHandle" ∧ (parseMethodDescriptor yn_A_goOnFrom.desc).map (fun d => d.parameters.length) = some 2 := by decide +kernel
theorem pd_C_assigns : yn_C_assigns.cls ≠ "java/lang/invoke/MethodHandle" ∧ yn_C_assigns.cls ≠ "java/lang/invoke/VarHandle" ∧ (parseMethodDescriptor yn_C_assigns.desc).map (fun d => d.parameters.length) = some 1 := by decide +kernel
theorem pd_A_hasConstantResult : yn_A_hasConstantResult.cls ≠ "java/lang/invoke/MethodHandle" ∧ yn_A_hasConstantResult.cls ≠ "java/lang/invoke/VarHandle" ∧ (parseMethodDescriptor yn_A_hasConstantResult.desc).map (fun d => d.parameters.length) = some 2 := by decide +kernel
theorem pd_A_isConstantZero : yn_A_isConstantZero.cls ≠ "java/lang/invoke/MethodHandle" ∧ yn_A_isConstantZero.cls ≠ "java/lang/invoke/VarHandle" ∧ (parseMethodDescriptor yn_A_isConstantZero.desc).map (fun d => d.parameters.length) = some 1 := by decide +kernel
theorem pd_B_calculate : yn_B_calculate.cls ≠ "java/lang/invoke/MethodHandle" ∧ yn_B_calculate.cls ≠ "java/lang/invoke/VarHandle" ∧ (parseMethodDescriptor yn_B_calculate.desc).map (fun d => d.parameters.length) = some 3 := by decide +kernel
theorem pd_A_setConstantBehind : yn_A_setConstantBehind.cls ≠ "java/lang/invoke/MethodHandle" ∧ yn_A_setConstantBehind.cls ≠ "java/lang/invoke/VarHandle" ∧ (parseMethodDescriptor yn_A_setConstantBehind.desc).map (fun d => d.parameters.length) = some 2 := by decide +kernel
theorem pd_A_setVaryingBehind : yn_A_setVaryingBehind.cls ≠ "java/lang/invoke/MethodHandle" ∧ yn_A_setVaryingBehind.cls ≠ "java/lang/invoke/VarHandle" ∧ (parseMethodDescriptor yn_A_setVaryingBehind.desc).map (fun d => d.parameters.length) = some 1 := by decide +kernel
theorem pd_C_target : yn_C_target.cls ≠ "java/lang/invoke/MethodHandle" ∧ yn_C_target.cls ≠ "java/lang/invoke/VarHandle" ∧ (parseMethodDescriptor yn_C_target.desc).map (fun d => d.parameters.length) = some 1 := by decide +kernel
theorem pd_A_goOnFromZero : yn_A_goOnFromZero.cls ≠ "java/lang/invoke/MethodHandle" ∧ yn_A_goOnFromZero.cls ≠ "java/lang/invoke/VarHandle" ∧ (parseMethodDescriptor yn_A_goOnFromZero.desc).map (fun d => d.parameters.length) = some 2 := by decide +kernel
theorem pd_A_hasConstantTest : yn_A_hasConstantTest.cls ≠ "java/lang/invoke/MethodHandle" ∧ yn_A_hasConstantTest.cls ≠ "java/lang/invoke/VarHandle" ∧ (parseMethodDescriptor yn_A_hasConstantTest.desc).map (fun d => d.parameters.length) = some 2 := by decide +kernel
theorem pd_A_wayOfConstantTest : yn_A_wayOfConstantTest.cls ≠ "java/lang/invoke/MethodHandle" ∧ yn_A_wayOfConstantTest.cls ≠ "java/lang/invoke/VarHandle" ∧ (parseMethodDescriptor yn_A_wayOfConstantTest.desc).map (fun d => d.parameters.length) = some 2 := by decide +kernel
theorem pd_A_countReached : yn_A_countReached.cls ≠ "java/lang/invoke/MethodHandle" ∧ yn_A_countReached.cls ≠ "java/lang/invoke/VarHandle" ∧ (parseMethodDescriptor yn_A_countReached.desc).map (fun d => d.parameters.length) = some 1 := by decide +kernel
theorem pd_A_isReached : yn_A_isReached.cls ≠ "java/lang/invoke/MethodHandle" ∧ yn_A_isReached.cls ≠ "java/lang/invoke/VarHandle" ∧ (parseMethodDescriptor yn_A_isReached.desc).map (fun d => d.parameters.length) = some 1 := by decide +kernel
theorem pd_L_add : yn_L_add.cls ≠ "java/lang/invoke/MethodHandle" ∧ yn_L_add.cls ≠ "java/lang/invoke/VarHandle" ∧ (parseMethodDescriptor yn_L_add.desc).map (fun d => d.parameters.length) = some 6 := by decide +kernel
theorem pd_B_add : yn_B_add.cls ≠ "java/lang/invoke/MethodHandle" ∧ yn_B_add.cls ≠ "java/lang/invoke/VarHandle" ∧ (parseMethodDescriptor yn_B_add.desc).map (fun d => d.parameters.length) = some 4 := by decide +kernel
theorem pd_B_refuseWrongInstruction : yn_B_refuseWrongInstruction.cls ≠ "java/lang/invoke/MethodHandle" ∧ yn_B_refuseWrongInstruction.cls ≠ "java/lang/invoke/VarHandle" ∧ (parseMethodDescriptor yn_B_refuseWrongInstruction.desc).map (fun d => d.parameters.length) = some 4 := by decide +kernel
theorem pd_B_isInstruction : yn_B_isInstruction.cls ≠ "java/lang/invoke/MethodHandle" ∧ yn_B_isInstruction.cls ≠ "java/lang/invoke/VarHandle" ∧ (parseMethodDescriptor yn_B_isInstruction.desc).map (fun d => d.parameters.length) = some 4 := by decide +kernel
theorem pd_B_isVariable : yn_B_isVariable.cls ≠ "java/lang/invoke/MethodHandle" ∧ yn_B_isVariable.cls ≠ "java/lang/invoke/VarHandle" ∧ (parseMethodDescriptor yn_B_isVariable.desc).map (fun d => d.parameters.length) = some 1 := by decide +kernel
theorem pd_B_isTarget : yn_B_isTarget.cls ≠ "java/lang/invoke/MethodHandle" ∧ yn_B_isTarget.cls ≠ "java/lang/invoke/VarHandle" ∧ (parseMethodDescriptor yn_B_isTarget.desc).map (fun d => d.parameters.length) = some 1 := by decide +kernel
theorem pd_C_put : yn_C_put.cls ≠ "java/lang/invoke/MethodHandle" ∧ yn_C_put.cls ≠ "java/lang/invoke/VarHandle" ∧ (parseMethodDescriptor yn_C_put.desc).map (fun d => d.parameters.length) = some 5 := by decide +kernel
theorem pd_L_change : yn_L_change.cls ≠ "java/lang/invoke/MethodHandle" ∧ yn_L_change.cls ≠ "java/lang/invoke/VarHandle" ∧ (parseMethodDescriptor yn_L_change.desc).map (fun d => d.parameters.length) = some 6 := by decide +kernel
theorem pd_B_change : yn_B_change.cls ≠ "java/lang/invoke/MethodHandle" ∧ yn_B_change.cls ≠ "java/lang/invoke/VarHandle" ∧ (parseMethodDescriptor yn_B_change.desc).map (fun d => d.parameters.length) = some 5 := by decide +kernel
theorem pd_B_refuseWrongIndex : yn_B_refuseWrongIndex.cls ≠ "java/lang/invoke/MethodHandle" ∧ yn_B_refuseWrongIndex.cls ≠ "java/lang/invoke/VarHandle" ∧ (parseMethodDescriptor yn_B_refuseWrongIndex.desc).map (fun d => d.parameters.length) = some 1 := by decide +kernel
theorem pd_L_reached : yn_L_reached.cls ≠ "java/lang/invoke/MethodHandle" ∧ yn_L_reached.cls ≠ "java/lang/invoke/VarHandle" ∧ (parseMethodDescriptor yn_L_reached.desc).map (fun d => d.parameters.length) = some 3 := by decide +kernel
theorem pd_B_reached : yn_B_reached.cls ≠ "java/lang/invoke/MethodHandle" ∧ yn_B_reached.cls ≠ "java/lang/invoke/VarHandle" ∧ (parseMethodDescriptor yn_B_reached.desc).map (fun d => d.parameters.length) = some 1 := by decide +kernel
theorem pd_L_known : yn_L_known.cls ≠ "java/lang/invoke/MethodHandle" ∧ yn_L_known.cls ≠ "java/lang/invoke/VarHandle" ∧ (parseMethodDescriptor yn_L_known.desc).map (fun d => d.parameters.length) = some 4 := by decide +kernel
theorem pd_B_known : yn_B_known.cls ≠ "java/lang/invoke/MethodHandle" ∧ yn_B_known.cls ≠ "java/lang/invoke/VarHandle" ∧ (parseMethodDescriptor yn_B_known.desc).map (fun d => d.parameters.length) = some 2 := by decide +kernel
theorem pd_B_refuseWrongVariable : yn_B_refuseWrongVariable.cls ≠ "java/lang/invoke/MethodHandle" ∧ yn_B_refuseWrongVariable.cls ≠ "java/lang/invoke/VarHandle" ∧ (parseMethodDescriptor yn_B_refuseWrongVariable.desc).map (fun d => d.parameters.length) = some 1 := by decide +kernel
theorem pd_L_constant : yn_L_constant.cls ≠ "java/lang/invoke/MethodHandle" ∧ yn_L_constant.cls ≠ "java/lang/invoke/VarHandle" ∧ (parseMethodDescriptor yn_L_constant.desc).map (fun d => d.parameters.length) = some 4 := by decide +kernel
theorem pd_B_constant : yn_B_constant.cls ≠ "java/lang/invoke/MethodHandle" ∧ yn_B_constant.cls ≠ "java/lang/invoke/VarHandle" ∧ (parseMethodDescriptor yn_B_constant.desc).map (fun d => d.parameters.length) = some 2 := by decide +kernel
theorem pd_L_rewrite : yn_L_rewrite.cls ≠ "java/lang/invoke/MethodHandle" ∧ yn_L_rewrite.cls ≠ "java/lang/invoke/VarHandle" ∧ (parseMethodDescriptor yn_L_rewrite.desc).map (fun d => d.parameters.length) = some 2 := by decide +kernel
theorem pd_B_rewrite : yn_B_rewrite.cls ≠ "java/lang/invoke/MethodHandle" ∧ yn_B_rewrite.cls ≠ "java/lang/invoke/VarHandle" ∧ (parseMethodDescriptor yn_B_rewrite.desc).map (fun d => d.parameters.length) = some 0 := by decide +kernel
theorem pd_W_perform : yn_W_perform.cls ≠ "java/lang/invoke/MethodHandle" ∧ yn_W_perform.cls ≠ "java/lang/invoke/VarHandle" ∧ (parseMethodDescriptor yn_W_perform.desc).map (fun d => d.parameters.length) = some 3 := by decide +kernel
theorem pd_C_putAllOf : yn_C_putAllOf.cls ≠ "java/lang/invoke/MethodHandle" ∧ yn_C_putAllOf.cls ≠ "java/lang/invoke/VarHandle" ∧ (parseMethodDescriptor yn_C_putAllOf.desc).map (fun d => d.parameters.length) = some 1 := by decide +kernel
theorem pd_W_fold : yn_W_fold.cls ≠ "java/lang/invoke/MethodHandle" ∧ yn_W_fold.cls ≠ "java/lang/invoke/VarHandle" ∧ (parseMethodDescriptor yn_W_fold.desc).map (fun d => d.parameters.length) = some 3 := by decide +kernel
theorem pd_W_thread : yn_W_thread.cls ≠ "java/lang/invoke/MethodHandle" ∧ yn_W_thread.cls ≠ "java/lang/invoke/VarHandle" ∧ (parseMethodDescriptor yn_W_thread.desc).map (fun d => d.parameters.length) = some 1 := by decide +kernel
theorem pd_C_hasTarget : yn_C_hasTarget.cls ≠ "java/lang/invoke/MethodHandle" ∧ yn_C_hasTarget.cls ≠ "java/lang/invoke/VarHandle" ∧ (parseMethodDescriptor yn_C_hasTarget.desc).map (fun d => d.parameters.length) = some 1 := by decide +kernel
theorem pd_W_endOfChain : yn_W_endOfChain.cls ≠ "java/lang/invoke/MethodHandle" ∧ yn_W_endOfChain.cls ≠ "java/lang/invoke/VarHandle" ∧ (parseMethodDescriptor yn_W_endOfChain.desc).map (fun d => d.parameters.length) = some 2 := by decide +kernel
theorem pd_W_keepWhatCanBeComeTo : yn_W_keepWhatCanBeComeTo.cls ≠ "java/lang/invoke/MethodHandle" ∧ yn_W_keepWhatCanBeComeTo.cls ≠ "java/lang/invoke/VarHandle" ∧ (parseMethodDescriptor yn_W_keepWhatCanBeComeTo.desc).map (fun d => d.parameters.length) = some 1 := by decide +kernel
theorem pd_W_keep : yn_W_keep.cls ≠ "java/lang/invoke/MethodHandle" ∧ yn_W_keep.cls ≠ "java/lang/invoke/VarHandle" ∧ (parseMethodDescriptor yn_W_keep.desc).map (fun d => d.parameters.length) = some 2 := by decide +kernel
theorem pd_W_dropJumpsToTheNext : yn_W_dropJumpsToTheNext.cls ≠ "java/lang/invoke/MethodHandle" ∧ yn_W_dropJumpsToTheNext.cls ≠ "java/lang/invoke/VarHandle" ∧ (parseMethodDescriptor yn_W_dropJumpsToTheNext.desc).map (fun d => d.parameters.length) = some 1 := by decide +kernel
theorem pd_W_numberAnew : yn_W_numberAnew.cls ≠ "java/lang/invoke/MethodHandle" ∧ yn_W_numberAnew.cls ≠ "java/lang/invoke/VarHandle" ∧ (parseMethodDescriptor yn_W_numberAnew.desc).map (fun d => d.parameters.length) = some 1 := by decide +kernel
theorem pd_W_moveToNewNumber : yn_W_moveToNewNumber.cls ≠ "java/lang/invoke/MethodHandle" ∧ yn_W_moveToNewNumber.cls ≠ "java/lang/invoke/VarHandle" ∧ (parseMethodDescriptor yn_W_moveToNewNumber.desc).map (fun d => d.parameters.length) = some 2 := by decide +kernel
theorem pd_L_code : yn_L_code.cls ≠ "java/lang/invoke/MethodHandle" ∧ yn_L_code.cls ≠ "java/lang/invoke/VarHandle" ∧ (parseMethodDescriptor yn_L_code.desc).map (fun d => d.parameters.length) = some 5 := by decide +kernel
theorem pd_B_code : yn_B_code.cls ≠ "java/lang/invoke/MethodHandle" ∧ yn_B_code.cls ≠ "java/lang/invoke/VarHandle" ∧ (parseMethodDescriptor yn_B_code.desc).map (fun d => d.parameters.length) = some 3 := by decide +kernel
theorem pd_B_refuseMissingRewritten : yn_B_refuseMissingRewritten.cls ≠ "java/lang/invoke/MethodHandle" ∧ yn_B_refuseMissingRewritten.cls ≠ "java/lang/invoke/VarHandle" ∧ (parseMethodDescriptor yn_B_refuseMissingRewritten.desc).map (fun d => d.parameters.length) = some 1 := by decide +kernel
theorem pd_B_refuseWrongSide : yn_B_refuseWrongSide.cls ≠ "java/lang/invoke/MethodHandle" ∧ yn_B_refuseWrongSide.cls ≠ "java/lang/invoke/VarHandle" ∧ (parseMethodDescriptor yn_B_refuseWrongSide.desc).map (fun d => d.parameters.length) = some 1 := by decide +kernel
theorem pd_B_codeOf : yn_B_codeOf.cls ≠ "java/lang/invoke/MethodHandle" ∧ yn_B_codeOf.cls ≠ "java/lang/invoke/VarHandle" ∧ (parseMethodDescriptor yn_B_codeOf.desc).map (fun d => d.parameters.length) = some 1 := by decide +kernel
theorem pd_C_number : yn_C_number.cls ≠ "java/lang/invoke/MethodHandle" ∧ yn_C_number.cls ≠ "java/lang/invoke/VarHandle" ∧ (parseMethodDescriptor yn_C_number.desc).map (fun d => d.parameters.length) = some 2 := by decide +kernel
theorem pd_L_start : yn_L_start.cls ≠ "java/lang/invoke/MethodHandle" ∧ yn_L_start.cls ≠ "java/lang/invoke/VarHandle" ∧ (parseMethodDescriptor yn_L_start.desc).map (fun d => d.parameters.length) = some 6 := by decide +kernel
theorem pd_B_start : yn_B_start.cls ≠ "java/lang/invoke/MethodHandle" ∧ yn_B_start.cls ≠ "java/lang/invoke/VarHandle" ∧ (parseMethodDescriptor yn_B_start.desc).map (fun d => d.parameters.length) = some 5 := by decide +kernel
theorem pd_B_runOf : yn_B_runOf.cls ≠ "java/lang/invoke/MethodHandle" ∧ yn_B_runOf.cls ≠ "java/lang/invoke/VarHandle" ∧ (parseMethodDescriptor yn_B_runOf.desc).map (fun d => d.parameters.length) = some 1 := by decide +kernel
theorem pd_E_begin : yn_E_begin.cls ≠ "java/lang/invoke/MethodHandle" ∧ yn_E_begin.cls ≠ "java/lang/invoke/VarHandle" ∧ (parseMethodDescriptor yn_E_begin.desc).map (fun d => d.parameters.length) = some 5 := by decide +kernel
theorem pd_E_goTo : yn_E_goTo.cls ≠ "java/lang/invoke/MethodHandle" ∧ yn_E_goTo.cls ≠ "java/lang/invoke/VarHandle" ∧ (parseMethodDescriptor yn_E_goTo.desc).map (fun d => d.parameters.length) = some 2 := by decide +kernel
theorem pd_L_run : yn_L_run.cls ≠ "java/lang/invoke/MethodHandle" ∧ yn_L_run.cls ≠ "java/lang/invoke/VarHandle" ∧ (parseMethodDescriptor yn_L_run.desc).map (fun d => d.parameters.length) = some 4 := by decide +kernel
theorem pd_B_run : yn_B_run.cls ≠ "java/lang/invoke/MethodHandle" ∧ yn_B_run.cls ≠ "java/lang/invoke/VarHandle" ∧ (parseMethodDescriptor yn_B_run.desc).map (fun d => d.parameters.length) = some 2 := by decide +kernel
theorem pd_B_refuseUnstarted : yn_B_refuseUnstarted.cls ≠ "java/lang/invoke/MethodHandle" ∧ yn_B_refuseUnstarted.cls ≠ "java/lang/invoke/VarHandle" ∧ (parseMethodDescriptor yn_B_refuseUnstarted.desc).map (fun d => d.parameters.length) = some 1 := by decide +kernel
theorem pd_E_advance : yn_E_advance.cls ≠ "java/lang/invoke/MethodHandle" ∧ yn_E_advance.cls ≠ "java/lang/invoke/VarHandle" ∧ (parseMethodDescriptor yn_E_advance.desc).map (fun d => d.parameters.length) = some 2 := by decide +kernel
theorem pd_E_step : yn_E_step.cls ≠ "java/lang/invoke/MethodHandle" ∧ yn_E_step.cls ≠ "java/lang/invoke/VarHandle" ∧ (parseMethodDescriptor yn_E_step.desc).map (fun d => d.parameters.length) = some 2 := by decide +kernel
theorem pd_E_assigned : yn_E_assigned.cls ≠ "java/lang/invoke/MethodHandle" ∧ yn_E_assigned.cls ≠ "java/lang/invoke/VarHandle" ∧ (parseMethodDescriptor yn_E_assigned.desc).map (fun d => d.parameters.length) = some 2 := by decide +kernel
theorem pd_L_place : yn_L_place.cls ≠ "java/lang/invoke/MethodHandle" ∧ yn_L_place.cls ≠ "java/lang/invoke/VarHandle" ∧ (parseMethodDescriptor yn_L_place.desc).map (fun d => d.parameters.length) = some 3 := by decide +kernel
theorem pd_B_place : yn_B_place.cls ≠ "java/lang/invoke/MethodHandle" ∧ yn_B_place.cls ≠ "java/lang/invoke/VarHandle" ∧ (parseMethodDescriptor yn_B_place.desc).map (fun d => d.parameters.length) = some 1 := by decide +kernel
theorem pd_L_value : yn_L_value.cls ≠ "java/lang/invoke/MethodHandle" ∧ yn_L_value.cls ≠ "java/lang/invoke/VarHandle" ∧ (parseMethodDescriptor yn_L_value.desc).map (fun d => d.parameters.length) = some 4 := by decide +kernel
theorem pd_B_value : yn_B_value.cls ≠ "java/lang/invoke/MethodHandle" ∧ yn_B_value.cls ≠ "java/lang/invoke/VarHandle" ∧ (parseMethodDescriptor yn_B_value.desc).map (fun d => d.parameters.length) = some 2 := by decide +kernel
theorem pd_L_steps : yn_L_steps.cls ≠ "java/lang/invoke/MethodHandle" ∧ yn_L_steps.cls ≠ "java/lang/invoke/VarHandle" ∧ (parseMethodDescriptor yn_L_steps.desc).map (fun d => d.parameters.length) = some 3 := by decide +kernel
theorem pd_B_steps : yn_B_steps.cls ≠ "java/lang/invoke/MethodHandle" ∧ yn_B_steps.cls ≠ "java/lang/invoke/VarHandle" ∧ (parseMethodDescriptor yn_B_steps.desc).map (fun d => d.parameters.length) = some 1 := by decide +kernel
theorem pd_M_init : yn_M_init.cls ≠ "java/lang/invoke/MethodHandle" ∧ yn_M_init.cls ≠ "java/lang/invoke/VarHandle" ∧ (parseMethodDescriptor yn_M_init.desc).map (fun d => d.parameters.length) = some 0 := by decide +kernel
theorem pd_M_thrown : yn_M_thrown.cls ≠ "java/lang/invoke/MethodHandle" ∧ yn_M_thrown.cls ≠ "java/lang/invoke/VarHandle" ∧ (parseMethodDescriptor yn_M_thrown.desc).map (fun d => d.parameters.length) = some 0 := by decide +kernel
theorem pd_M_add : yn_M_add.cls ≠ "java/lang/invoke/MethodHandle" ∧ yn_M_add.cls ≠ "java/lang/invoke/VarHandle" ∧ (parseMethodDescriptor yn_M_add.desc).map (fun d => d.parameters.length) = some 4 := by decide +kernel
theorem pd_M_isSound : yn_M_isSound.cls ≠ "java/lang/invoke/MethodHandle" ∧ yn_M_isSound.cls ≠ "java/lang/invoke/VarHandle" ∧ (parseMethodDescriptor yn_M_isSound.desc).map (fun d => d.parameters.length) = some 4 := by decide +kernel
theorem pd_M_isVariable : yn_M_isVariable.cls ≠ "java/lang/invoke/MethodHandle" ∧ yn_M_isVariable.cls ≠ "java/lang/invoke/VarHandle" ∧ (parseMethodDescriptor yn_M_isVariable.desc).map (fun d => d.parameters.length) = some 1 := by decide +kernel
theorem pd_M_refused : yn_M_refused.cls ≠ "java/lang/invoke/MethodHandle" ∧ yn_M_refused.cls ≠ "java/lang/invoke/VarHandle" ∧ (parseMethodDescriptor yn_M_refused.desc).map (fun d => d.parameters.length) = some 1 := by decide +kernel
theorem pd_M_put : yn_M_put.cls ≠ "java/lang/invoke/MethodHandle" ∧ yn_M_put.cls ≠ "java/lang/invoke/VarHandle" ∧ (parseMethodDescriptor yn_M_put.desc).map (fun d => d.parameters.length) = some 5 := by decide +kernel
theorem pd_M_changed : yn_M_changed.cls ≠ "java/lang/invoke/MethodHandle" ∧ yn_M_changed.cls ≠ "java/lang/invoke/VarHandle" ∧ (parseMethodDescriptor yn_M_changed.desc).map (fun d => d.parameters.length) = some 0 := by decide +kernel
theorem pd_M_change : yn_M_change.cls ≠ "java/lang/invoke/MethodHandle" ∧ yn_M_change.cls ≠ "java/lang/invoke/VarHandle" ∧ (parseMethodDescriptor yn_M_change.desc).map (fun d => d.parameters.length) = some 5 := by decide +kernel
theorem pd_M_clear : yn_M_clear.cls ≠ "java/lang/invoke/MethodHandle" ∧ yn_M_clear.cls ≠ "java/lang/invoke/VarHandle" ∧ (parseMethodDescriptor yn_M_clear.desc).map (fun d => d.parameters.length) = some 0 := by decide +kernel
theorem pd_M_reached : yn_M_reached.cls ≠ "java/lang/invoke/MethodHandle" ∧ yn_M_reached.cls ≠ "java/lang/invoke/VarHandle" ∧ (parseMethodDescriptor yn_M_reached.desc).map (fun d => d.parameters.length) = some 1 := by decide +kernel
theorem pd_M_isThere : yn_M_isThere.cls ≠ "java/lang/invoke/MethodHandle" ∧ yn_M_isThere.cls ≠ "java/lang/invoke/VarHandle" ∧ (parseMethodDescriptor yn_M_isThere.desc).map (fun d => d.parameters.length) = some 1 := by decide +kernel
theorem pd_M_analyse : yn_M_analyse.cls ≠ "java/lang/invoke/MethodHandle" ∧ yn_M_analyse.cls ≠ "java/lang/invoke/VarHandle" ∧ (parseMethodDescriptor yn_M_analyse.desc).map (fun d => d.parameters.length) = some 0 := by decide +kernel
theorem pd_M_goOn : yn_M_goOn.cls ≠ "java/lang/invoke/MethodHandle" ∧ yn_M_goOn.cls ≠ "java/lang/invoke/VarHandle" ∧ (parseMethodDescriptor yn_M_goOn.desc).map (fun d => d.parameters.length) = some 1 := by decide +kernel
theorem pd_M_come : yn_M_come.cls ≠ "java/lang/invoke/MethodHandle" ∧ yn_M_come.cls ≠ "java/lang/invoke/VarHandle" ∧ (parseMethodDescriptor yn_M_come.desc).map (fun d => d.parameters.length) = some 1 := by decide +kernel
theorem pd_M_know : yn_M_know.cls ≠ "java/lang/invoke/MethodHandle" ∧ yn_M_know.cls ≠ "java/lang/invoke/VarHandle" ∧ (parseMethodDescriptor yn_M_know.desc).map (fun d => d.parameters.length) = some 3 := by decide +kernel
theorem pd_M_pass : yn_M_pass.cls ≠ "java/lang/invoke/MethodHandle" ∧ yn_M_pass.cls ≠ "java/lang/invoke/VarHandle" ∧ (parseMethodDescriptor yn_M_pass.desc).map (fun d => d.parameters.length) = some 1 := by decide +kernel
theorem pd_M_reckon : yn_M_reckon.cls ≠ "java/lang/invoke/MethodHandle" ∧ yn_M_reckon.cls ≠ "java/lang/invoke/VarHandle" ∧ (parseMethodDescriptor yn_M_reckon.desc).map (fun d => d.parameters.length) = some 3 := by decide +kernel
theorem pd_M_reachedAll : yn_M_reachedAll.cls ≠ "java/lang/invoke/MethodHandle" ∧ yn_M_reachedAll.cls ≠ "java/lang/invoke/VarHandle" ∧ (parseMethodDescriptor yn_M_reachedAll.desc).map (fun d => d.parameters.length) = some 0 := by decide +kernel
theorem pd_M_known : yn_M_known.cls ≠ "java/lang/invoke/MethodHandle" ∧ yn_M_known.cls ≠ "java/lang/invoke/VarHandle" ∧ (parseMethodDescriptor yn_M_known.desc).map (fun d => d.parameters.length) = some 2 := by decide +kernel
theorem pd_M_constant : yn_M_constant.cls ≠ "java/lang/invoke/MethodHandle" ∧ yn_M_constant.cls ≠ "java/lang/invoke/VarHandle" ∧ (parseMethodDescriptor yn_M_constant.desc).map (fun d => d.parameters.length) = some 2 := by decide +kernel
theorem pd_M_rewrite : yn_M_rewrite.cls ≠ "java/lang/invoke/MethodHandle" ∧ yn_M_rewrite.cls ≠ "java/lang/invoke/VarHandle" ∧ (parseMethodDescriptor yn_M_rewrite.desc).map (fun d => d.parameters.length) = some 0 := by decide +kernel
theorem pd_M_fold : yn_M_fold.cls ≠ "java/lang/invoke/MethodHandle" ∧ yn_M_fold.cls ≠ "java/lang/invoke/VarHandle" ∧ (parseMethodDescriptor yn_M_fold.desc).map (fun d => d.parameters.length) = some 0 := by decide +kernel
theorem pd_M_thread : yn_M_thread.cls ≠ "java/lang/invoke/MethodHandle" ∧ yn_M_thread.cls ≠ "java/lang/invoke/VarHandle" ∧ (parseMethodDescriptor yn_M_thread.desc).map (fun d => d.parameters.length) = some 0 := by decide +kernel
theorem pd_M_goes : yn_M_goes.cls ≠ "java/lang/invoke/MethodHandle" ∧ yn_M_goes.cls ≠ "java/lang/invoke/VarHandle" ∧ (parseMethodDescriptor yn_M_goes.desc).map (fun d => d.parameters.length) = some 1 := by decide +kernel
theorem pd_M_drop : yn_M_drop.cls ≠ "java/lang/invoke/MethodHandle" ∧ yn_M_drop.cls ≠ "java/lang/invoke/VarHandle" ∧ (parseMethodDescriptor yn_M_drop.desc).map (fun d => d.parameters.length) = some 0 := by decide +kernel
theorem pd_M_mark : yn_M_mark.cls ≠ "java/lang/invoke/MethodHandle" ∧ yn_M_mark.cls ≠ "java/lang/invoke/VarHandle" ∧ (parseMethodDescriptor yn_M_mark.desc).map (fun d => d.parameters.length) = some 1 := by decide +kernel
theorem pd_M_nextStaying : yn_M_nextStaying.cls ≠ "java/lang/invoke/MethodHandle" ∧ yn_M_nextStaying.cls ≠ "java/lang/invoke/VarHandle" ∧ (parseMethodDescriptor yn_M_nextStaying.desc).map (fun d => d.parameters.length) = some 1 := by decide +kernel
theorem pd_M_number : yn_M_number.cls ≠ "java/lang/invoke/MethodHandle" ∧ yn_M_number.cls ≠ "java/lang/invoke/VarHandle" ∧ (parseMethodDescriptor yn_M_number.desc).map (fun d => d.parameters.length) = some 0 := by decide +kernel
theorem pd_M_code : yn_M_code.cls ≠ "java/lang/invoke/MethodHandle" ∧ yn_M_code.cls ≠ "java/lang/invoke/VarHandle" ∧ (parseMethodDescriptor yn_M_code.desc).map (fun d => d.parameters.length) = some 3 := by decide +kernel
theorem pd_M_start : yn_M_start.cls ≠ "java/lang/invoke/MethodHandle" ∧ yn_M_start.cls ≠ "java/lang/invoke/VarHandle" ∧ (parseMethodDescriptor yn_M_start.desc).map (fun d => d.parameters.length) = some 5 := by decide +kernel
theorem pd_M_isSide : yn_M_isSide.cls ≠ "java/lang/invoke/MethodHandle" ∧ yn_M_isSide.cls ≠ "java/lang/invoke/VarHandle" ∧ (parseMethodDescriptor yn_M_isSide.desc).map (fun d => d.parameters.length) = some 1 := by decide +kernel
theorem pd_M_run : yn_M_run.cls ≠ "java/lang/invoke/MethodHandle" ∧ yn_M_run.cls ≠ "java/lang/invoke/VarHandle" ∧ (parseMethodDescriptor yn_M_run.desc).map (fun d => d.parameters.length) = some 2 := by decide +kernel
theorem pd_M_step : yn_M_step.cls ≠ "java/lang/invoke/MethodHandle" ∧ yn_M_step.cls ≠ "java/lang/invoke/VarHandle" ∧ (parseMethodDescriptor yn_M_step.desc).map (fun d => d.parameters.length) = some 1 := by decide +kernel
theorem pd_M_place : yn_M_place.cls ≠ "java/lang/invoke/MethodHandle" ∧ yn_M_place.cls ≠ "java/lang/invoke/VarHandle" ∧ (parseMethodDescriptor yn_M_place.desc).map (fun d => d.parameters.length) = some 1 := by decide +kernel
theorem pd_M_isWrong : yn_M_isWrong.cls ≠ "java/lang/invoke/MethodHandle" ∧ yn_M_isWrong.cls ≠ "java/lang/invoke/VarHandle" ∧ (parseMethodDescriptor yn_M_isWrong.desc).map (fun d => d.parameters.length) = some 2 := by decide +kernel
theorem pd_M_value : yn_M_value.cls ≠ "java/lang/invoke/MethodHandle" ∧ yn_M_value.cls ≠ "java/lang/invoke/VarHandle" ∧ (parseMethodDescriptor yn_M_value.desc).map (fun d => d.parameters.length) = some 2 := by decide +kernel
theorem pd_M_steps : yn_M_steps.cls ≠ "java/lang/invoke/MethodHandle" ∧ yn_M_steps.cls ≠ "java/lang/invoke/VarHandle" ∧ (parseMethodDescriptor yn_M_steps.desc).map (fun d => d.parameters.length) = some 1 := by decide +kernel
end
section
/-! small methods of BranchConstants, and Code's (by program: wip/whole/gen/modC.py) -/
theorem bc_vr_of {x : Int32} (h0 : ¬ x < 0) (h6 : ¬ (6 : Int32) ≤ x) : bc_vr x := by
  obtain ⟨j, hj, rfl⟩ := nI_of h0
  refine ⟨j, ?_, rfl⟩
  have h : ¬ nI 6 ≤ nI j := h6
  rw [nI_leI (by omega) hj] at h
  omega
theorem bc_vr_no0 {x : Int32} (h : x < 0) : ¬ bc_vr x := by
  rintro ⟨j, hj, rfl⟩
  exact nI_pos (by omega) h
theorem bc_vr_no6 {x : Int32} (h : (6 : Int32) ≤ x) : ¬ bc_vr x := by
  rintro ⟨j, hj, rfl⟩
  have h : nI 6 ≤ nI j := h
  rw [nI_leI (by omega) (by omega)] at h
  omega
theorem bc_tr_of {x : Int32} (h0 : ¬ x < 0) (h6 : ¬ (40 : Int32) < x) : bc_tr x := by
  obtain ⟨j, hj, rfl⟩ := nI_of h0
  refine ⟨j, ?_, rfl⟩
  have h : ¬ nI 40 < nI j := h6
  rw [nI_ltI (by omega) hj] at h
  omega
theorem bc_tr_no0 {x : Int32} (h : x < 0) : ¬ bc_tr x := by
  rintro ⟨j, hj, rfl⟩
  exact nI_pos (by omega) h
theorem bc_tr_no6 {x : Int32} (h : (40 : Int32) < x) : ¬ bc_tr x := by
  rintro ⟨j, hj, rfl⟩
  have h : nI 40 < nI j := h
  rw [nI_ltI (by omega) (by omega)] at h
  omega
def bc_p1 (k x : Int32) : Int32 := if k = 6 ∨ k = 7 then 0 else x
def bc_p2 (k x : Int32) : Int32 := if k = 7 then 0 else x
def bc_p3 (k x : Int32) : Int32 := if k = 2 ∨ k = 3 ∨ k = 4 then x else 0
theorem bc_tn_ge {n : Nat} {x : Int32} (hn : n < 2 ^ 31) (hx : bc_tr x) (h : nI n ≤ x) : nI n = nI (bc_tn n x) := by
  obtain ⟨j, hj, rfl⟩ := hx
  rw [nI_leI hn (by omega)] at h
  unfold bc_tn
  rw [nI_clamp (by omega), if_neg (by omega)]
theorem bc_tn_lt {n : Nat} {x : Int32} (hn : n < 2 ^ 31) (hx : bc_tr x) (h : ¬ nI n ≤ x) : x = nI (bc_tn n x) := by
  obtain ⟨j, hj, rfl⟩ := hx
  rw [nI_leI hn (by omega)] at h
  unfold bc_tn
  rw [nI_clamp (by omega), if_pos (by omega)]
def bc_nu (K O T H : bc_F) (i : Nat) (w : Int32) : Int32 := if w = 0 then K i else if w = 1 then O i else if w = 2 then T i else H i
theorem bc_gs_no {k : Int32} (h5 : ¬ k = 5) (h6 : ¬ k = 6) : ¬ bc_gs k := by
  rintro (e | e)
  · exact h6 e
  · exact h5 e
theorem bc_cell6 (i v : Nat) : nI i * 6 + nI v = nI (6 * i + v) := by
  have h : nI i * nI 6 = nI (i * 6) := pk_mul i 6
  rw [show nI i * 6 = nI (i * 6) from h, nI_add, Nat.mul_comm]
theorem bc_nle4 {a b : Int32} (h : b < a) : ¬ a ≤ b := by
  rw [Int32.lt_iff_toInt_lt] at h
  rw [Int32.le_iff_toInt_le]
  omega
theorem bc_le4 {a b : Int32} (h : ¬ b < a) : a ≤ b := by
  rw [Int32.lt_iff_toInt_lt] at h
  rw [Int32.le_iff_toInt_le]
  omega
theorem bc_to_0_6 {x : Int32} (h0 : ¬ x = 0) (h1 : ¬ x = 1) (h2 : ¬ x = 2) (h3 : ¬ x = 3) (h4 : ¬ x = 4) (h5 : ¬ x = 5) (h6 : ¬ x = 6) : x.toInt < 0 ∨ 6 < x.toInt := by
  have e0 : x.toInt ≠ 0 := fun e => h0 (Int32.toInt_inj.mp (e.trans (by decide)))
  have e1 : x.toInt ≠ 1 := fun e => h1 (Int32.toInt_inj.mp (e.trans (by decide)))
  have e2 : x.toInt ≠ 2 := fun e => h2 (Int32.toInt_inj.mp (e.trans (by decide)))
  have e3 : x.toInt ≠ 3 := fun e => h3 (Int32.toInt_inj.mp (e.trans (by decide)))
  have e4 : x.toInt ≠ 4 := fun e => h4 (Int32.toInt_inj.mp (e.trans (by decide)))
  have e5 : x.toInt ≠ 5 := fun e => h5 (Int32.toInt_inj.mp (e.trans (by decide)))
  have e6 : x.toInt ≠ 6 := fun e => h6 (Int32.toInt_inj.mp (e.trans (by decide)))
  omega
theorem bc_to_0_2 {x : Int32} (h0 : ¬ x = 0) (h1 : ¬ x = 1) (h2 : ¬ x = 2) : x.toInt < 0 ∨ 2 < x.toInt := by
  have e0 : x.toInt ≠ 0 := fun e => h0 (Int32.toInt_inj.mp (e.trans (by decide)))
  have e1 : x.toInt ≠ 1 := fun e => h1 (Int32.toInt_inj.mp (e.trans (by decide)))
  have e2 : x.toInt ≠ 2 := fun e => h2 (Int32.toInt_inj.mp (e.trans (by decide)))
  omega
theorem bc_to_5_7 {x : Int32} (h5 : ¬ x = 5) (h6 : ¬ x = 6) (h7 : ¬ x = 7) : x.toInt < 5 ∨ 7 < x.toInt := by
  have e5 : x.toInt ≠ 5 := fun e => h5 (Int32.toInt_inj.mp (e.trans (by decide)))
  have e6 : x.toInt ≠ 6 := fun e => h6 (Int32.toInt_inj.mp (e.trans (by decide)))
  have e7 : x.toInt ≠ 7 := fun e => h7 (Int32.toInt_inj.mp (e.trans (by decide)))
  omega
theorem bc_to_0_5 {x : Int32} (h0 : ¬ x = 0) (h1 : ¬ x = 1) (h2 : ¬ x = 2) (h3 : ¬ x = 3) (h4 : ¬ x = 4) (h5 : ¬ x = 5) : x.toInt < 0 ∨ 5 < x.toInt := by
  have e0 : x.toInt ≠ 0 := fun e => h0 (Int32.toInt_inj.mp (e.trans (by decide)))
  have e1 : x.toInt ≠ 1 := fun e => h1 (Int32.toInt_inj.mp (e.trans (by decide)))
  have e2 : x.toInt ≠ 2 := fun e => h2 (Int32.toInt_inj.mp (e.trans (by decide)))
  have e3 : x.toInt ≠ 3 := fun e => h3 (Int32.toInt_inj.mp (e.trans (by decide)))
  have e4 : x.toInt ≠ 4 := fun e => h4 (Int32.toInt_inj.mp (e.trans (by decide)))
  have e5 : x.toInt ≠ 5 := fun e => h5 (Int32.toInt_inj.mp (e.trans (by decide)))
  omega
theorem bc_to_0_1 {x : Int32} (h0 : ¬ x = 0) (h1 : ¬ x = 1) : x.toInt < 0 ∨ 1 < x.toInt := by
  have e0 : x.toInt ≠ 0 := fun e => h0 (Int32.toInt_inj.mp (e.trans (by decide)))
  have e1 : x.toInt ≠ 1 := fun e => h1 (Int32.toInt_inj.mp (e.trans (by decide)))
  omega
theorem bc_to_0_7 {x : Int32} (h0 : ¬ x = 0) (h1 : ¬ x = 1) (h2 : ¬ x = 2) (h3 : ¬ x = 3) (h4 : ¬ x = 4) (h5 : ¬ x = 5) (h6 : ¬ x = 6) (h7 : ¬ x = 7) : x.toInt < 0 ∨ 7 < x.toInt := by
  have e0 : x.toInt ≠ 0 := fun e => h0 (Int32.toInt_inj.mp (e.trans (by decide)))
  have e1 : x.toInt ≠ 1 := fun e => h1 (Int32.toInt_inj.mp (e.trans (by decide)))
  have e2 : x.toInt ≠ 2 := fun e => h2 (Int32.toInt_inj.mp (e.trans (by decide)))
  have e3 : x.toInt ≠ 3 := fun e => h3 (Int32.toInt_inj.mp (e.trans (by decide)))
  have e4 : x.toInt ≠ 4 := fun e => h4 (Int32.toInt_inj.mp (e.trans (by decide)))
  have e5 : x.toInt ≠ 5 := fun e => h5 (Int32.toInt_inj.mp (e.trans (by decide)))
  have e6 : x.toInt ≠ 6 := fun e => h6 (Int32.toInt_inj.mp (e.trans (by decide)))
  have e7 : x.toInt ≠ 7 := fun e => h7 (Int32.toInt_inj.mp (e.trans (by decide)))
  omega
theorem bc_to_0_13 {x : Int32} (h0 : ¬ x = 0) (h1 : ¬ x = 1) (h2 : ¬ x = 2) (h3 : ¬ x = 3) (h4 : ¬ x = 4) (h5 : ¬ x = 5) (h6 : ¬ x = 6) (h7 : ¬ x = 7) (h8 : ¬ x = 8) (h9 : ¬ x = 9) (h10 : ¬ x = 10) (h11 : ¬ x = 11) (h12 : ¬ x = 12) (h13 : ¬ x = 13) : x.toInt < 0 ∨ 13 < x.toInt := by
  have e0 : x.toInt ≠ 0 := fun e => h0 (Int32.toInt_inj.mp (e.trans (by decide)))
  have e1 : x.toInt ≠ 1 := fun e => h1 (Int32.toInt_inj.mp (e.trans (by decide)))
  have e2 : x.toInt ≠ 2 := fun e => h2 (Int32.toInt_inj.mp (e.trans (by decide)))
  have e3 : x.toInt ≠ 3 := fun e => h3 (Int32.toInt_inj.mp (e.trans (by decide)))
  have e4 : x.toInt ≠ 4 := fun e => h4 (Int32.toInt_inj.mp (e.trans (by decide)))
  have e5 : x.toInt ≠ 5 := fun e => h5 (Int32.toInt_inj.mp (e.trans (by decide)))
  have e6 : x.toInt ≠ 6 := fun e => h6 (Int32.toInt_inj.mp (e.trans (by decide)))
  have e7 : x.toInt ≠ 7 := fun e => h7 (Int32.toInt_inj.mp (e.trans (by decide)))
  have e8 : x.toInt ≠ 8 := fun e => h8 (Int32.toInt_inj.mp (e.trans (by decide)))
  have e9 : x.toInt ≠ 9 := fun e => h9 (Int32.toInt_inj.mp (e.trans (by decide)))
  have e10 : x.toInt ≠ 10 := fun e => h10 (Int32.toInt_inj.mp (e.trans (by decide)))
  have e11 : x.toInt ≠ 11 := fun e => h11 (Int32.toInt_inj.mp (e.trans (by decide)))
  have e12 : x.toInt ≠ 12 := fun e => h12 (Int32.toInt_inj.mp (e.trans (by decide)))
  have e13 : x.toInt ≠ 13 := fun e => h13 (Int32.toInt_inj.mp (e.trans (by decide)))
  omega
set_option maxHeartbeats 4000000 in
set_option maxRecDepth 100000 in
/-- is it a variable -/
theorem co_B_isVariable {l : Launch} {dC : Nat → ClassId} {dI : Nat → Nat → Nat} {cI cZ : ClassId} {sz : Nat} {v : Int32} : Met l yn_B_isVariable (Cond.code yn_B_isVariable by_B_isVariable 1 (some FieldType.boolean) :: wd_all) ({ frames := 0, cells := 0, slots := 0, locals := 0 } : Room) (bc_Pre (dC, dI) classes [(cI, .int), (cZ, .boolean)] [.int v] [] sz) (va_Qi (fun (r : Int32) (u : Unit) => (r = 1 ∧ bc_vr v) ∨ (r = 0 ∧ ¬ bc_vr v)) (fun (u : Unit) t => bc_B (dC, dI) classes [(cI, .int), (cZ, .boolean)] (va_A [] sz) [] t) ((va_A [] sz))) 0 0 (va_A [] sz) := by
  refine bc_met (fun A => va_Qi (fun (r : Int32) (u : Unit) => (r = 1 ∧ bc_vr v) ∨ (r = 0 ∧ ¬ bc_vr v)) (fun (u : Unit) t => bc_B (dC, dI) classes [(cI, .int), (cZ, .boolean)] A [] t) A) (by decide) (Nat.le_of_ble_eq_true rfl) ?_
  intro p e s m args below meth c A ls F hr hlocks hin hA hP hD hl hS
  have hx := F.1
  have hb := F.2.1
  have hml := F.2.2.1
  have hown : s.vm.findClass "BranchConstants" = some m.cls := F.2.2.2.1
  have htw := F.2.2.2.2.1
  have hN := F.2.2.2.2.2.1
  have hK := F.2.2.2.2.2.2
  have hl : lv_has ls 1 [(0, .int v)] := hl
  refine lv_iload_n hx hb de_B_isVariable_0 rfl (lv_at hl 0 rfl) ?_
  refine lv_if_lt (tgt := 14) hx hb de_B_isVariable_1 (by decide) (fun hc_1 => ?_) (fun hc_1 => ?_)
  · refine lv_iconst (v := 0) hx hb de_B_isVariable_14 (by decide) ?_
    exact bc_zret F hr hlocks rfl (()) (Or.inr ⟨rfl, bc_vr_no0 hc_1⟩) hP hD hS de_B_isVariable_15
  · refine lv_iload_n hx hb de_B_isVariable_4 rfl (lv_at hl 0 rfl) ?_
    refine lv_bipush (v := 6) hx hb de_B_isVariable_5 (by decide) ?_
    refine lv_icmp_ge (tgt := 14) hx hb de_B_isVariable_7 (by decide) (fun hc_7 => ?_) (fun hc_7 => ?_)
    · refine lv_iconst (v := 0) hx hb de_B_isVariable_14 (by decide) ?_
      exact bc_zret F hr hlocks rfl (()) (Or.inr ⟨rfl, bc_vr_no6 hc_7⟩) hP hD hS de_B_isVariable_15
    · refine lv_iconst (v := 1) hx hb de_B_isVariable_10 (by decide) ?_
      refine lv_goto (tgt := 15) hx hb de_B_isVariable_11 (by decide) ?_
      exact bc_zret F hr hlocks rfl (()) (Or.inl ⟨rfl, bc_vr_of hc_1 hc_7⟩) hP hD hS de_B_isVariable_15

set_option maxHeartbeats 4000000 in
set_option maxRecDepth 100000 in
/-- is it a target -/
theorem co_B_isTarget {l : Launch} {dC : Nat → ClassId} {dI : Nat → Nat → Nat} {cI cZ : ClassId} {sz : Nat} {v : Int32} : Met l yn_B_isTarget (Cond.code yn_B_isTarget by_B_isTarget 1 (some FieldType.boolean) :: wd_all) ({ frames := 0, cells := 0, slots := 0, locals := 0 } : Room) (bc_Pre (dC, dI) classes [(cI, .int), (cZ, .boolean)] [.int v] [] sz) (va_Qi (fun (r : Int32) (u : Unit) => (r = 1 ∧ bc_tr v) ∨ (r = 0 ∧ ¬ bc_tr v)) (fun (u : Unit) t => bc_B (dC, dI) classes [(cI, .int), (cZ, .boolean)] (va_A [] sz) [] t) ((va_A [] sz))) 0 0 (va_A [] sz) := by
  refine bc_met (fun A => va_Qi (fun (r : Int32) (u : Unit) => (r = 1 ∧ bc_tr v) ∨ (r = 0 ∧ ¬ bc_tr v)) (fun (u : Unit) t => bc_B (dC, dI) classes [(cI, .int), (cZ, .boolean)] A [] t) A) (by decide) (Nat.le_of_ble_eq_true rfl) ?_
  intro p e s m args below meth c A ls F hr hlocks hin hA hP hD hl hS
  have hx := F.1
  have hb := F.2.1
  have hml := F.2.2.1
  have hown : s.vm.findClass "BranchConstants" = some m.cls := F.2.2.2.1
  have htw := F.2.2.2.2.1
  have hN := F.2.2.2.2.2.1
  have hK := F.2.2.2.2.2.2
  have hl : lv_has ls 1 [(0, .int v)] := hl
  refine lv_iload_n hx hb de_B_isTarget_0 rfl (lv_at hl 0 rfl) ?_
  refine lv_if_lt (tgt := 14) hx hb de_B_isTarget_1 (by decide) (fun hc_1 => ?_) (fun hc_1 => ?_)
  · refine lv_iconst (v := 0) hx hb de_B_isTarget_14 (by decide) ?_
    exact bc_zret F hr hlocks rfl (()) (Or.inr ⟨rfl, bc_tr_no0 hc_1⟩) hP hD hS de_B_isTarget_15
  · refine lv_iload_n hx hb de_B_isTarget_4 rfl (lv_at hl 0 rfl) ?_
    refine lv_bipush (v := 40) hx hb de_B_isTarget_5 (by decide) ?_
    refine lv_icmp_gt (tgt := 14) hx hb de_B_isTarget_7 (by decide) (fun hc_7 => ?_) (fun hc_7 => ?_)
    · refine lv_iconst (v := 0) hx hb de_B_isTarget_14 (by decide) ?_
      exact bc_zret F hr hlocks rfl (()) (Or.inr ⟨rfl, bc_tr_no6 hc_7⟩) hP hD hS de_B_isTarget_15
    · refine lv_iconst (v := 1) hx hb de_B_isTarget_10 (by decide) ?_
      refine lv_goto (tgt := 15) hx hb de_B_isTarget_11 (by decide) ?_
      exact bc_zret F hr hlocks rfl (()) (Or.inl ⟨rfl, bc_tr_of hc_1 hc_7⟩) hP hD hS de_B_isTarget_15

set_option maxHeartbeats 4000000 in
set_option maxRecDepth 100000 in
/-- a place in the rows -/
theorem co_B_cell {l : Launch} {dC : Nat → ClassId} {dI : Nat → Nat → Nat} {cI cZ : ClassId} {sz : Nat} {i v : Nat} : Met l yn_B_cell (Cond.code yn_B_cell by_B_cell 2 (some FieldType.int) :: wd_all) ({ frames := 0, cells := 0, slots := 0, locals := 0 } : Room) (bc_Pre (dC, dI) classes [(cI, .int), (cZ, .boolean)] [.int (nI i), .int (nI v)] [] sz) (va_Qi (fun (r : Int32) (u : Unit) => r = nI (6 * i + v)) (fun (u : Unit) t => bc_B (dC, dI) classes [(cI, .int), (cZ, .boolean)] (va_A [] sz) [] t) ((va_A [] sz))) 0 0 (va_A [] sz) := by
  refine bc_met (fun A => va_Qi (fun (r : Int32) (u : Unit) => r = nI (6 * i + v)) (fun (u : Unit) t => bc_B (dC, dI) classes [(cI, .int), (cZ, .boolean)] A [] t) A) (by decide) (Nat.le_of_ble_eq_true rfl) ?_
  intro p e s m args below meth c A ls F hr hlocks hin hA hP hD hl hS
  have hx := F.1
  have hb := F.2.1
  have hml := F.2.2.1
  have hown : s.vm.findClass "BranchConstants" = some m.cls := F.2.2.2.1
  have htw := F.2.2.2.2.1
  have hN := F.2.2.2.2.2.1
  have hK := F.2.2.2.2.2.2
  have hl : lv_has ls 2 [(0, .int (nI i)), (1, .int (nI v))] := hl
  refine lv_iload_n hx hb de_B_cell_0 rfl (lv_at hl 0 rfl) ?_
  refine lv_bipush (v := 6) hx hb de_B_cell_1 (by decide) ?_
  refine lv_imul hx hb de_B_cell_3 ?_
  refine lv_iload_n hx hb de_B_cell_4 rfl (lv_at hl 1 rfl) ?_
  refine lv_iadd hx hb de_B_cell_5 ?_
  exact bc_iret F hr hlocks (()) (bc_cell6 i v) hP hD hS de_B_cell_6

set_option maxHeartbeats 4000000 in
set_option maxRecDepth 100000 in
/-- add, subtract, multiply -/
theorem co_B_calculate {l : Launch} {dC : Nat → ClassId} {dI : Nat → Nat → Nat} {cI cZ : ClassId} {sz : Nat} {k x y : Int32} : Met l yn_B_calculate (Cond.code yn_B_calculate by_B_calculate 3 (some FieldType.int) :: wd_all) ({ frames := 0, cells := 0, slots := 0, locals := 0 } : Room) (bc_Pre (dC, dI) classes [(cI, .int), (cZ, .boolean)] [.int k, .int x, .int y] [] sz) (va_Qi (fun (r : Int32) (u : Unit) => r = bc_ar k x y) (fun (u : Unit) t => bc_B (dC, dI) classes [(cI, .int), (cZ, .boolean)] (va_A [] sz) [] t) ((va_A [] sz))) 0 0 (va_A [] sz) := by
  refine bc_met (fun A => va_Qi (fun (r : Int32) (u : Unit) => r = bc_ar k x y) (fun (u : Unit) t => bc_B (dC, dI) classes [(cI, .int), (cZ, .boolean)] A [] t) A) (by decide) (Nat.le_of_ble_eq_true rfl) ?_
  intro p e s m args below meth c A ls F hr hlocks hin hA hP hD hl hS
  have hx := F.1
  have hb := F.2.1
  have hml := F.2.2.1
  have hown : s.vm.findClass "BranchConstants" = some m.cls := F.2.2.2.1
  have htw := F.2.2.2.2.1
  have hN := F.2.2.2.2.2.1
  have hK := F.2.2.2.2.2.2
  have hl : lv_has ls 3 [(0, .int k), (1, .int x), (2, .int y)] := hl
  refine lv_iload_n hx hb de_B_calculate_0 rfl (lv_at hl 0 rfl) ?_
  by_cases hs_1_2 : k = 2
  · refine bc_ti hs_1_2 ?_
    refine lv_lookup (off := 27) (tgt := 28) hx hb de_B_calculate_1 (by decide) (by decide) (by decide) ?_
    refine lv_iload_n hx hb de_B_calculate_28 rfl (lv_at hl 1 rfl) ?_
    refine lv_iload_n hx hb de_B_calculate_29 rfl (lv_at hl 2 rfl) ?_
    refine lv_iadd hx hb de_B_calculate_30 ?_
    exact bc_iret F hr hlocks (()) (by unfold bc_ar; rw [if_pos hs_1_2]) hP hD hS de_B_calculate_31
  by_cases hs_1_3 : k = 3
  · refine bc_ti hs_1_3 ?_
    refine lv_lookup (off := 31) (tgt := 32) hx hb de_B_calculate_1 (by decide) (by decide) (by decide) ?_
    refine lv_iload_n hx hb de_B_calculate_32 rfl (lv_at hl 1 rfl) ?_
    refine lv_iload_n hx hb de_B_calculate_33 rfl (lv_at hl 2 rfl) ?_
    refine lv_isub hx hb de_B_calculate_34 ?_
    exact bc_iret F hr hlocks (()) (by unfold bc_ar; rw [if_neg hs_1_2, if_pos hs_1_3]) hP hD hS de_B_calculate_35
  refine lv_lookup (off := 35) (tgt := 36) hx hb de_B_calculate_1 (by decide) (show Op.lookupswitch.offset [(2, 27), (3, 31)] 35 (k).toInt = 35 by rw [lv_osw hs_1_2 (by decide), lv_osw hs_1_3 (by decide)]; rfl) (by decide) ?_
  refine lv_iload_n hx hb de_B_calculate_36 rfl (lv_at hl 1 rfl) ?_
  refine lv_iload_n hx hb de_B_calculate_37 rfl (lv_at hl 2 rfl) ?_
  refine lv_imul hx hb de_B_calculate_38 ?_
  exact bc_iret F hr hlocks (()) (by unfold bc_ar; rw [if_neg hs_1_2, if_neg hs_1_3]) hP hD hS de_B_calculate_39

set_option maxHeartbeats 4000000 in
set_option maxRecDepth 100000 in
/-- does it assign -/
theorem co_C_assigns {l : Launch} {dC : Nat → ClassId} {dI : Nat → Nat → Nat} {cI cZ : ClassId} {sz : Nat} {h0 q1 q2 q3 q4 n : Nat} {K O T Z : bc_F} {i : Nat} (hi : i < 40) : Met l yn_C_assigns (Cond.code yn_C_assigns by_C_assigns 2 (some FieldType.boolean) :: wd_all) ({ frames := 0, cells := 0, slots := 0, locals := 0 } : Room) (bc_Pre (dC, dI) classes [(cI, .int), (cZ, .boolean)] [.ref h0, .int (nI i)] [(h0, .inr (1, [.ref q1, .ref q2, .ref q3, .ref q4, .int (nI n)])), (q1, .inl (cI, 40, .inl K)), (q2, .inl (cI, 40, .inl O)), (q3, .inl (cI, 40, .inl T)), (q4, .inl (cI, 40, .inl Z))] sz) (va_Qi (fun (r : Int32) (u : Unit) => (r = 1 ∧ K i ≤ 4) ∨ (r = 0 ∧ ¬ K i ≤ 4)) (fun (u : Unit) t => bc_B (dC, dI) classes [(cI, .int), (cZ, .boolean)] (va_A [(h0, .inr (1, [.ref q1, .ref q2, .ref q3, .ref q4, .int (nI n)])), (q1, .inl (cI, 40, .inl K)), (q2, .inl (cI, 40, .inl O)), (q3, .inl (cI, 40, .inl T)), (q4, .inl (cI, 40, .inl Z))] sz) [(h0, .inr (1, [.ref q1, .ref q2, .ref q3, .ref q4, .int (nI n)])), (q1, .inl (cI, 40, .inl K)), (q2, .inl (cI, 40, .inl O)), (q3, .inl (cI, 40, .inl T)), (q4, .inl (cI, 40, .inl Z))] t) ((va_A [(h0, .inr (1, [.ref q1, .ref q2, .ref q3, .ref q4, .int (nI n)])), (q1, .inl (cI, 40, .inl K)), (q2, .inl (cI, 40, .inl O)), (q3, .inl (cI, 40, .inl T)), (q4, .inl (cI, 40, .inl Z))] sz))) 0 0 (va_A [(h0, .inr (1, [.ref q1, .ref q2, .ref q3, .ref q4, .int (nI n)])), (q1, .inl (cI, 40, .inl K)), (q2, .inl (cI, 40, .inl O)), (q3, .inl (cI, 40, .inl T)), (q4, .inl (cI, 40, .inl Z))] sz) := by
  refine bc_met (fun A => va_Qi (fun (r : Int32) (u : Unit) => (r = 1 ∧ K i ≤ 4) ∨ (r = 0 ∧ ¬ K i ≤ 4)) (fun (u : Unit) t => bc_B (dC, dI) classes [(cI, .int), (cZ, .boolean)] A [(h0, .inr (1, [.ref q1, .ref q2, .ref q3, .ref q4, .int (nI n)])), (q1, .inl (cI, 40, .inl K)), (q2, .inl (cI, 40, .inl O)), (q3, .inl (cI, 40, .inl T)), (q4, .inl (cI, 40, .inl Z))] t) A) (by decide) (Nat.le_of_ble_eq_true rfl) ?_
  intro p e s m args below meth c A ls F hr hlocks hin hA hP hD hl hS
  have hx := F.1
  have hb := F.2.1
  have hml := F.2.2.1
  have hown : s.vm.findClass "BranchConstants$Code" = some m.cls := F.2.2.2.1
  have htw := F.2.2.2.2.1
  have hN := F.2.2.2.2.2.1
  have hK := F.2.2.2.2.2.2
  have hl : lv_has ls 2 [(0, .ref h0), (1, .int (nI i))] := hl
  refine lv_aload_n hx hb de_C_assigns_0 rfl (lv_at hl 0 rfl) ?_
  refine va_get (D := (dC, dI)) (ci := 1) (v := .ref q1) (C := rc_C) (T := fc_C) (N := 5) hx hb htw wi_C hown hK hP 0 rfl rfl 0 (by decide) (htw _ wm_28) (fun _ h9 => h9) rfl de_C_assigns_1 ?_
  refine lv_iload_n hx hb de_C_assigns_4 rfl (lv_at hl 1 rfl) ?_
  refine bc_ild (j := i) hx hb hK hP 1 0 rfl rfl (by omega) (by decide) de_C_assigns_5 ?_
  refine lv_iconst (v := 4) hx hb de_C_assigns_6 (by decide) ?_
  refine lv_icmp_gt (tgt := 14) hx hb de_C_assigns_7 (by decide) (fun hc_7 => ?_) (fun hc_7 => ?_)
  · refine lv_iconst (v := 0) hx hb de_C_assigns_14 (by decide) ?_
    exact bc_zret F hr hlocks rfl (()) (Or.inr ⟨rfl, bc_nle4 hc_7⟩) hP hD hS de_C_assigns_15
  · refine lv_iconst (v := 1) hx hb de_C_assigns_10 (by decide) ?_
    refine lv_goto (tgt := 15) hx hb de_C_assigns_11 (by decide) ?_
    exact bc_zret F hr hlocks rfl (()) (Or.inl ⟨rfl, bc_le4 hc_7⟩) hP hD hS de_C_assigns_15

set_option maxHeartbeats 4000000 in
set_option maxRecDepth 100000 in
/-- has it a target -/
theorem co_C_hasTarget {l : Launch} {dC : Nat → ClassId} {dI : Nat → Nat → Nat} {cI cZ : ClassId} {sz : Nat} {h0 q1 q2 q3 q4 n : Nat} {K O T Z : bc_F} {i : Nat} (hi : i < 40) : Met l yn_C_hasTarget (Cond.code yn_C_hasTarget by_C_hasTarget 2 (some FieldType.boolean) :: wd_all) ({ frames := 0, cells := 0, slots := 0, locals := 0 } : Room) (bc_Pre (dC, dI) classes [(cI, .int), (cZ, .boolean)] [.ref h0, .int (nI i)] [(h0, .inr (1, [.ref q1, .ref q2, .ref q3, .ref q4, .int (nI n)])), (q1, .inl (cI, 40, .inl K)), (q2, .inl (cI, 40, .inl O)), (q3, .inl (cI, 40, .inl T)), (q4, .inl (cI, 40, .inl Z))] sz) (va_Qi (fun (r : Int32) (u : Unit) => (r = 1 ∧ bc_gs (K i)) ∨ (r = 0 ∧ ¬ bc_gs (K i))) (fun (u : Unit) t => bc_B (dC, dI) classes [(cI, .int), (cZ, .boolean)] (va_A [(h0, .inr (1, [.ref q1, .ref q2, .ref q3, .ref q4, .int (nI n)])), (q1, .inl (cI, 40, .inl K)), (q2, .inl (cI, 40, .inl O)), (q3, .inl (cI, 40, .inl T)), (q4, .inl (cI, 40, .inl Z))] sz) [(h0, .inr (1, [.ref q1, .ref q2, .ref q3, .ref q4, .int (nI n)])), (q1, .inl (cI, 40, .inl K)), (q2, .inl (cI, 40, .inl O)), (q3, .inl (cI, 40, .inl T)), (q4, .inl (cI, 40, .inl Z))] t) ((va_A [(h0, .inr (1, [.ref q1, .ref q2, .ref q3, .ref q4, .int (nI n)])), (q1, .inl (cI, 40, .inl K)), (q2, .inl (cI, 40, .inl O)), (q3, .inl (cI, 40, .inl T)), (q4, .inl (cI, 40, .inl Z))] sz))) 0 0 (va_A [(h0, .inr (1, [.ref q1, .ref q2, .ref q3, .ref q4, .int (nI n)])), (q1, .inl (cI, 40, .inl K)), (q2, .inl (cI, 40, .inl O)), (q3, .inl (cI, 40, .inl T)), (q4, .inl (cI, 40, .inl Z))] sz) := by
  refine bc_met (fun A => va_Qi (fun (r : Int32) (u : Unit) => (r = 1 ∧ bc_gs (K i)) ∨ (r = 0 ∧ ¬ bc_gs (K i))) (fun (u : Unit) t => bc_B (dC, dI) classes [(cI, .int), (cZ, .boolean)] A [(h0, .inr (1, [.ref q1, .ref q2, .ref q3, .ref q4, .int (nI n)])), (q1, .inl (cI, 40, .inl K)), (q2, .inl (cI, 40, .inl O)), (q3, .inl (cI, 40, .inl T)), (q4, .inl (cI, 40, .inl Z))] t) A) (by decide) (Nat.le_of_ble_eq_true rfl) ?_
  intro p e s m args below meth c A ls F hr hlocks hin hA hP hD hl hS
  have hx := F.1
  have hb := F.2.1
  have hml := F.2.2.1
  have hown : s.vm.findClass "BranchConstants$Code" = some m.cls := F.2.2.2.1
  have htw := F.2.2.2.2.1
  have hN := F.2.2.2.2.2.1
  have hK := F.2.2.2.2.2.2
  have hl : lv_has ls 2 [(0, .ref h0), (1, .int (nI i))] := hl
  refine lv_aload_n hx hb de_C_hasTarget_0 rfl (lv_at hl 0 rfl) ?_
  refine va_get (D := (dC, dI)) (ci := 1) (v := .ref q1) (C := rc_C) (T := fc_C) (N := 5) hx hb htw wi_C hown hK hP 0 rfl rfl 0 (by decide) (htw _ wm_28) (fun _ h9 => h9) rfl de_C_hasTarget_1 ?_
  refine lv_iload_n hx hb de_C_hasTarget_4 rfl (lv_at hl 1 rfl) ?_
  refine bc_ild (j := i) hx hb hK hP 1 0 rfl rfl (by omega) (by decide) de_C_hasTarget_5 ?_
  refine lv_iconst (v := 5) hx hb de_C_hasTarget_6 (by decide) ?_
  refine lv_icmp_eq (tgt := 21) hx hb de_C_hasTarget_7 (by decide) (fun hc_7 => ?_) (fun hc_7 => ?_)
  · refine lv_iconst (v := 1) hx hb de_C_hasTarget_21 (by decide) ?_
    refine lv_goto (tgt := 26) hx hb de_C_hasTarget_22 (by decide) ?_
    exact bc_zret F hr hlocks rfl (()) (Or.inl ⟨rfl, Or.inr hc_7⟩) hP hD hS de_C_hasTarget_26
  · refine lv_aload_n hx hb de_C_hasTarget_10 rfl (lv_at hl 0 rfl) ?_
    refine va_get (D := (dC, dI)) (ci := 1) (v := .ref q1) (C := rc_C) (T := fc_C) (N := 5) hx hb htw wi_C hown hK hP 0 rfl rfl 0 (by decide) (htw _ wm_28) (fun _ h9 => h9) rfl de_C_hasTarget_11 ?_
    refine lv_iload_n hx hb de_C_hasTarget_14 rfl (lv_at hl 1 rfl) ?_
    refine bc_ild (j := i) hx hb hK hP 1 0 rfl rfl (by omega) (by decide) de_C_hasTarget_15 ?_
    refine lv_bipush (v := 6) hx hb de_C_hasTarget_16 (by decide) ?_
    refine lv_icmp_ne (tgt := 25) hx hb de_C_hasTarget_18 (by decide) (fun hc_18 => ?_) (fun hc_18 => ?_)
    · refine lv_iconst (v := 0) hx hb de_C_hasTarget_25 (by decide) ?_
      exact bc_zret F hr hlocks rfl (()) (Or.inr ⟨rfl, bc_gs_no hc_7 hc_18⟩) hP hD hS de_C_hasTarget_26
    · refine lv_iconst (v := 1) hx hb de_C_hasTarget_21 (by decide) ?_
      refine lv_goto (tgt := 26) hx hb de_C_hasTarget_22 (by decide) ?_
      exact bc_zret F hr hlocks rfl (()) (Or.inl ⟨rfl, Or.inl hc_18⟩) hP hD hS de_C_hasTarget_26

set_option maxHeartbeats 4000000 in
set_option maxRecDepth 100000 in
/-- its target, END as count -/
theorem co_C_target {l : Launch} {dC : Nat → ClassId} {dI : Nat → Nat → Nat} {cI cZ : ClassId} {sz : Nat} {h0 q1 q2 q3 q4 n : Nat} {K O T Z : bc_F} {i : Nat} (hi : i < 40) (hn : n ≤ 40) (ht : bc_tr (T i)) : Met l yn_C_target (Cond.code yn_C_target by_C_target 2 (some FieldType.int) :: wd_all) ({ frames := 0, cells := 0, slots := 0, locals := 0 } : Room) (bc_Pre (dC, dI) classes [(cI, .int), (cZ, .boolean)] [.ref h0, .int (nI i)] [(h0, .inr (1, [.ref q1, .ref q2, .ref q3, .ref q4, .int (nI n)])), (q1, .inl (cI, 40, .inl K)), (q2, .inl (cI, 40, .inl O)), (q3, .inl (cI, 40, .inl T)), (q4, .inl (cI, 40, .inl Z))] sz) (va_Qi (fun (r : Int32) (u : Unit) => r = nI (bc_tn n (T i))) (fun (u : Unit) t => bc_B (dC, dI) classes [(cI, .int), (cZ, .boolean)] (va_A [(h0, .inr (1, [.ref q1, .ref q2, .ref q3, .ref q4, .int (nI n)])), (q1, .inl (cI, 40, .inl K)), (q2, .inl (cI, 40, .inl O)), (q3, .inl (cI, 40, .inl T)), (q4, .inl (cI, 40, .inl Z))] sz) [(h0, .inr (1, [.ref q1, .ref q2, .ref q3, .ref q4, .int (nI n)])), (q1, .inl (cI, 40, .inl K)), (q2, .inl (cI, 40, .inl O)), (q3, .inl (cI, 40, .inl T)), (q4, .inl (cI, 40, .inl Z))] t) ((va_A [(h0, .inr (1, [.ref q1, .ref q2, .ref q3, .ref q4, .int (nI n)])), (q1, .inl (cI, 40, .inl K)), (q2, .inl (cI, 40, .inl O)), (q3, .inl (cI, 40, .inl T)), (q4, .inl (cI, 40, .inl Z))] sz))) 0 0 (va_A [(h0, .inr (1, [.ref q1, .ref q2, .ref q3, .ref q4, .int (nI n)])), (q1, .inl (cI, 40, .inl K)), (q2, .inl (cI, 40, .inl O)), (q3, .inl (cI, 40, .inl T)), (q4, .inl (cI, 40, .inl Z))] sz) := by
  refine bc_met (fun A => va_Qi (fun (r : Int32) (u : Unit) => r = nI (bc_tn n (T i))) (fun (u : Unit) t => bc_B (dC, dI) classes [(cI, .int), (cZ, .boolean)] A [(h0, .inr (1, [.ref q1, .ref q2, .ref q3, .ref q4, .int (nI n)])), (q1, .inl (cI, 40, .inl K)), (q2, .inl (cI, 40, .inl O)), (q3, .inl (cI, 40, .inl T)), (q4, .inl (cI, 40, .inl Z))] t) A) (by decide) (Nat.le_of_ble_eq_true rfl) ?_
  intro p e s m args below meth c A ls F hr hlocks hin hA hP hD hl hS
  have hx := F.1
  have hb := F.2.1
  have hml := F.2.2.1
  have hown : s.vm.findClass "BranchConstants$Code" = some m.cls := F.2.2.2.1
  have htw := F.2.2.2.2.1
  have hN := F.2.2.2.2.2.1
  have hK := F.2.2.2.2.2.2
  have hl : lv_has ls 2 [(0, .ref h0), (1, .int (nI i))] := hl
  refine lv_aload_n hx hb de_C_target_0 rfl (lv_at hl 0 rfl) ?_
  refine va_get (D := (dC, dI)) (ci := 1) (v := .ref q3) (C := rc_C) (T := fc_C) (N := 5) hx hb htw wi_C hown hK hP 0 rfl rfl 2 (by decide) (htw _ wm_30) (fun _ h9 => h9) rfl de_C_target_1 ?_
  refine lv_iload_n hx hb de_C_target_4 rfl (lv_at hl 1 rfl) ?_
  refine bc_ild (j := i) hx hb hK hP 3 0 rfl rfl (by omega) (by decide) de_C_target_5 ?_
  refine lv_aload_n hx hb de_C_target_6 rfl (lv_at hl 0 rfl) ?_
  refine va_get (D := (dC, dI)) (ci := 1) (v := .int (nI n)) (C := rc_C) (T := fc_C) (N := 5) hx hb htw wi_C hown hK hP 0 rfl rfl 4 (by decide) (htw _ wm_32) (fun _ h9 => h9) rfl de_C_target_7 ?_
  refine lv_icmp_ge (tgt := 22) hx hb de_C_target_10 (by decide) (fun hc_10 => ?_) (fun hc_10 => ?_)
  · refine lv_aload_n hx hb de_C_target_22 rfl (lv_at hl 0 rfl) ?_
    refine va_get (D := (dC, dI)) (ci := 1) (v := .int (nI n)) (C := rc_C) (T := fc_C) (N := 5) hx hb htw wi_C hown hK hP 0 rfl rfl 4 (by decide) (htw _ wm_32) (fun _ h9 => h9) rfl de_C_target_23 ?_
    exact bc_iret F hr hlocks (()) (bc_tn_ge (by omega) ht hc_10) hP hD hS de_C_target_26
  · refine lv_aload_n hx hb de_C_target_13 rfl (lv_at hl 0 rfl) ?_
    refine va_get (D := (dC, dI)) (ci := 1) (v := .ref q3) (C := rc_C) (T := fc_C) (N := 5) hx hb htw wi_C hown hK hP 0 rfl rfl 2 (by decide) (htw _ wm_30) (fun _ h9 => h9) rfl de_C_target_14 ?_
    refine lv_iload_n hx hb de_C_target_17 rfl (lv_at hl 1 rfl) ?_
    refine bc_ild (j := i) hx hb hK hP 3 0 rfl rfl (by omega) (by decide) de_C_target_18 ?_
    refine lv_goto (tgt := 26) hx hb de_C_target_19 (by decide) ?_
    exact bc_iret F hr hlocks (()) (bc_tn_lt (by omega) ht hc_10) hP hD hS de_C_target_26

set_option maxHeartbeats 4000000 in
set_option maxRecDepth 100000 in
/-- a number of an instruction -/
theorem co_C_number {l : Launch} {dC : Nat → ClassId} {dI : Nat → Nat → Nat} {cI cZ : ClassId} {sz : Nat} {h0 q1 q2 q3 q4 n : Nat} {K O T Z : bc_F} {i : Nat} {w : Int32} (hi : i < 40) : Met l yn_C_number (Cond.code yn_C_number by_C_number 3 (some FieldType.int) :: wd_all) ({ frames := 0, cells := 0, slots := 0, locals := 0 } : Room) (bc_Pre (dC, dI) classes [(cI, .int), (cZ, .boolean)] [.ref h0, .int (nI i), .int w] [(h0, .inr (1, [.ref q1, .ref q2, .ref q3, .ref q4, .int (nI n)])), (q1, .inl (cI, 40, .inl K)), (q2, .inl (cI, 40, .inl O)), (q3, .inl (cI, 40, .inl T)), (q4, .inl (cI, 40, .inl Z))] sz) (va_Qi (fun (r : Int32) (u : Unit) => r = bc_nu K O T Z i w) (fun (u : Unit) t => bc_B (dC, dI) classes [(cI, .int), (cZ, .boolean)] (va_A [(h0, .inr (1, [.ref q1, .ref q2, .ref q3, .ref q4, .int (nI n)])), (q1, .inl (cI, 40, .inl K)), (q2, .inl (cI, 40, .inl O)), (q3, .inl (cI, 40, .inl T)), (q4, .inl (cI, 40, .inl Z))] sz) [(h0, .inr (1, [.ref q1, .ref q2, .ref q3, .ref q4, .int (nI n)])), (q1, .inl (cI, 40, .inl K)), (q2, .inl (cI, 40, .inl O)), (q3, .inl (cI, 40, .inl T)), (q4, .inl (cI, 40, .inl Z))] t) ((va_A [(h0, .inr (1, [.ref q1, .ref q2, .ref q3, .ref q4, .int (nI n)])), (q1, .inl (cI, 40, .inl K)), (q2, .inl (cI, 40, .inl O)), (q3, .inl (cI, 40, .inl T)), (q4, .inl (cI, 40, .inl Z))] sz))) 0 0 (va_A [(h0, .inr (1, [.ref q1, .ref q2, .ref q3, .ref q4, .int (nI n)])), (q1, .inl (cI, 40, .inl K)), (q2, .inl (cI, 40, .inl O)), (q3, .inl (cI, 40, .inl T)), (q4, .inl (cI, 40, .inl Z))] sz) := by
  refine bc_met (fun A => va_Qi (fun (r : Int32) (u : Unit) => r = bc_nu K O T Z i w) (fun (u : Unit) t => bc_B (dC, dI) classes [(cI, .int), (cZ, .boolean)] A [(h0, .inr (1, [.ref q1, .ref q2, .ref q3, .ref q4, .int (nI n)])), (q1, .inl (cI, 40, .inl K)), (q2, .inl (cI, 40, .inl O)), (q3, .inl (cI, 40, .inl T)), (q4, .inl (cI, 40, .inl Z))] t) A) (by decide) (Nat.le_of_ble_eq_true rfl) ?_
  intro p e s m args below meth c A ls F hr hlocks hin hA hP hD hl hS
  have hx := F.1
  have hb := F.2.1
  have hml := F.2.2.1
  have hown : s.vm.findClass "BranchConstants$Code" = some m.cls := F.2.2.2.1
  have htw := F.2.2.2.2.1
  have hN := F.2.2.2.2.2.1
  have hK := F.2.2.2.2.2.2
  have hl : lv_has ls 3 [(0, .ref h0), (1, .int (nI i)), (2, .int w)] := hl
  refine lv_iload_n hx hb de_C_number_0 rfl (lv_at hl 2 rfl) ?_
  by_cases hs_1_0 : w = 0
  · refine bc_ti hs_1_0 ?_
    refine lv_tableIn (off := 27) (tgt := 28) hx hb de_C_number_1 (by decide) (by decide) rfl (by decide) ?_
    refine lv_aload_n hx hb de_C_number_28 rfl (lv_at hl 0 rfl) ?_
    refine va_get (D := (dC, dI)) (ci := 1) (v := .ref q1) (C := rc_C) (T := fc_C) (N := 5) hx hb htw wi_C hown hK hP 0 rfl rfl 0 (by decide) (htw _ wm_28) (fun _ h9 => h9) rfl de_C_number_29 ?_
    refine lv_iload_n hx hb de_C_number_32 rfl (lv_at hl 1 rfl) ?_
    refine bc_ild (j := i) hx hb hK hP 1 0 rfl rfl (by omega) (by decide) de_C_number_33 ?_
    exact bc_iret F hr hlocks (()) (by unfold bc_nu; rw [if_pos hs_1_0]) hP hD hS de_C_number_34
  by_cases hs_1_1 : w = 1
  · refine bc_ti hs_1_1 ?_
    refine lv_tableIn (off := 34) (tgt := 35) hx hb de_C_number_1 (by decide) (by decide) rfl (by decide) ?_
    refine lv_aload_n hx hb de_C_number_35 rfl (lv_at hl 0 rfl) ?_
    refine va_get (D := (dC, dI)) (ci := 1) (v := .ref q2) (C := rc_C) (T := fc_C) (N := 5) hx hb htw wi_C hown hK hP 0 rfl rfl 1 (by decide) (htw _ wm_29) (fun _ h9 => h9) rfl de_C_number_36 ?_
    refine lv_iload_n hx hb de_C_number_39 rfl (lv_at hl 1 rfl) ?_
    refine bc_ild (j := i) hx hb hK hP 2 0 rfl rfl (by omega) (by decide) de_C_number_40 ?_
    exact bc_iret F hr hlocks (()) (by unfold bc_nu; rw [if_neg hs_1_0, if_pos hs_1_1]) hP hD hS de_C_number_41
  by_cases hs_1_2 : w = 2
  · refine bc_ti hs_1_2 ?_
    refine lv_tableIn (off := 41) (tgt := 42) hx hb de_C_number_1 (by decide) (by decide) rfl (by decide) ?_
    refine lv_aload_n hx hb de_C_number_42 rfl (lv_at hl 0 rfl) ?_
    refine va_get (D := (dC, dI)) (ci := 1) (v := .ref q3) (C := rc_C) (T := fc_C) (N := 5) hx hb htw wi_C hown hK hP 0 rfl rfl 2 (by decide) (htw _ wm_30) (fun _ h9 => h9) rfl de_C_number_43 ?_
    refine lv_iload_n hx hb de_C_number_46 rfl (lv_at hl 1 rfl) ?_
    refine bc_ild (j := i) hx hb hK hP 3 0 rfl rfl (by omega) (by decide) de_C_number_47 ?_
    exact bc_iret F hr hlocks (()) (by unfold bc_nu; rw [if_neg hs_1_0, if_neg hs_1_1, if_pos hs_1_2]) hP hD hS de_C_number_48
  refine lv_tableOut (tgt := 49) hx hb de_C_number_1 (bc_to_0_2 hs_1_0 hs_1_1 hs_1_2) (by decide) ?_
  refine lv_aload_n hx hb de_C_number_49 rfl (lv_at hl 0 rfl) ?_
  refine va_get (D := (dC, dI)) (ci := 1) (v := .ref q4) (C := rc_C) (T := fc_C) (N := 5) hx hb htw wi_C hown hK hP 0 rfl rfl 3 (by decide) (htw _ wm_31) (fun _ h9 => h9) rfl de_C_number_50 ?_
  refine lv_iload_n hx hb de_C_number_53 rfl (lv_at hl 1 rfl) ?_
  refine bc_ild (j := i) hx hb hK hP 4 0 rfl rfl (by omega) (by decide) de_C_number_54 ?_
  exact bc_iret F hr hlocks (()) (by unfold bc_nu; rw [if_neg hs_1_0, if_neg hs_1_1, if_neg hs_1_2]) hP hD hS de_C_number_55

set_option maxHeartbeats 4000000 in
set_option maxRecDepth 100000 in
/-- an instruction is put; numbers not needed are 0 -/
theorem co_C_put {l : Launch} {dC : Nat → ClassId} {dI : Nat → Nat → Nat} {cI cZ : ClassId} {sz : Nat} {h0 q1 q2 q3 q4 n : Nat} {K O T Z : bc_F} {i : Nat} {k a b d : Int32} (hi : i < 40) : Met l yn_C_put (Cond.code yn_C_put by_C_put 6 none :: wd_all) ({ frames := 0, cells := 0, slots := 0, locals := 0 } : Room) (bc_Pre (dC, dI) classes [(cI, .int), (cZ, .boolean)] [.ref h0, .int (nI i), .int k, .int a, .int b, .int d] [(h0, .inr (1, [.ref q1, .ref q2, .ref q3, .ref q4, .int (nI n)])), (q1, .inl (cI, 40, .inl K)), (q2, .inl (cI, 40, .inl O)), (q3, .inl (cI, 40, .inl T)), (q4, .inl (cI, 40, .inl Z))] sz) (va_Qv (fun (u : bc_F × bc_F × bc_F × bc_F) => u = (upd K i k, upd O i (bc_p1 k a), upd T i (bc_p2 k b), upd Z i (bc_p3 k d))) (fun (u : bc_F × bc_F × bc_F × bc_F) t => bc_B (dC, dI) classes [(cI, .int), (cZ, .boolean)] (va_A [(h0, .inr (1, [.ref q1, .ref q2, .ref q3, .ref q4, .int (nI n)])), (q1, .inl (cI, 40, .inl K)), (q2, .inl (cI, 40, .inl O)), (q3, .inl (cI, 40, .inl T)), (q4, .inl (cI, 40, .inl Z))] sz) [(h0, .inr (1, [.ref q1, .ref q2, .ref q3, .ref q4, .int (nI n)])), (q1, .inl (cI, 40, .inl u.1)), (q2, .inl (cI, 40, .inl u.2.1)), (q3, .inl (cI, 40, .inl u.2.2.1)), (q4, .inl (cI, 40, .inl u.2.2.2))] t) ((va_A [(h0, .inr (1, [.ref q1, .ref q2, .ref q3, .ref q4, .int (nI n)])), (q1, .inl (cI, 40, .inl K)), (q2, .inl (cI, 40, .inl O)), (q3, .inl (cI, 40, .inl T)), (q4, .inl (cI, 40, .inl Z))] sz))) 0 0 (va_A [(h0, .inr (1, [.ref q1, .ref q2, .ref q3, .ref q4, .int (nI n)])), (q1, .inl (cI, 40, .inl K)), (q2, .inl (cI, 40, .inl O)), (q3, .inl (cI, 40, .inl T)), (q4, .inl (cI, 40, .inl Z))] sz) := by
  refine bc_met (fun A => va_Qv (fun (u : bc_F × bc_F × bc_F × bc_F) => u = (upd K i k, upd O i (bc_p1 k a), upd T i (bc_p2 k b), upd Z i (bc_p3 k d))) (fun (u : bc_F × bc_F × bc_F × bc_F) t => bc_B (dC, dI) classes [(cI, .int), (cZ, .boolean)] A [(h0, .inr (1, [.ref q1, .ref q2, .ref q3, .ref q4, .int (nI n)])), (q1, .inl (cI, 40, .inl u.1)), (q2, .inl (cI, 40, .inl u.2.1)), (q3, .inl (cI, 40, .inl u.2.2.1)), (q4, .inl (cI, 40, .inl u.2.2.2))] t) A) (by decide) (Nat.le_of_ble_eq_true rfl) ?_
  intro p e s m args below meth c A ls F hr hlocks hin hA hP hD hl hS
  have hx := F.1
  have hb := F.2.1
  have hml := F.2.2.1
  have hown : s.vm.findClass "BranchConstants$Code" = some m.cls := F.2.2.2.1
  have htw := F.2.2.2.2.1
  have hN := F.2.2.2.2.2.1
  have hK := F.2.2.2.2.2.2
  have hl : lv_has ls 6 [(0, .ref h0), (1, .int (nI i)), (2, .int k), (3, .int a), (4, .int b), (5, .int d)] := hl
  refine lv_aload_n hx hb de_C_put_0 rfl (lv_at hl 0 rfl) ?_
  refine va_get (D := (dC, dI)) (ci := 1) (v := .ref q1) (C := rc_C) (T := fc_C) (N := 5) hx hb htw wi_C hown hK hP 0 rfl rfl 0 (by decide) (htw _ wm_28) (fun _ h9 => h9) rfl de_C_put_1 ?_
  refine lv_iload_n hx hb de_C_put_4 rfl (lv_at hl 1 rfl) ?_
  refine lv_iload_n hx hb de_C_put_5 rfl (lv_at hl 2 rfl) ?_
  refine bc_ist (j := i) hx hb hK hP hD hS 1 0 rfl rfl (by omega) (by decide) de_C_put_6 (fun H locs hP hD hS => ?_)
  have hP : va_P (dC, dI) classes [(h0, .inr (1, [.ref q1, .ref q2, .ref q3, .ref q4, .int (nI n)])), (q1, .inl (cI, 40, .inl (upd K i k))), (q2, .inl (cI, 40, .inl O)), (q3, .inl (cI, 40, .inl T)), (q4, .inl (cI, 40, .inl Z))] H := hP
  have hD : va_D A [(h0, .inr (1, [.ref q1, .ref q2, .ref q3, .ref q4, .int (nI n)])), (q1, .inl (cI, 40, .inl (upd K i k))), (q2, .inl (cI, 40, .inl O)), (q3, .inl (cI, 40, .inl T)), (q4, .inl (cI, 40, .inl Z))] := hD
  refine lv_aload_n hx hb de_C_put_7 rfl (lv_at hl 0 rfl) ?_
  refine va_get (D := (dC, dI)) (ci := 1) (v := .ref q2) (C := rc_C) (T := fc_C) (N := 5) hx hb htw wi_C hown hK hP 0 rfl rfl 1 (by decide) (htw _ wm_29) (fun _ h9 => h9) rfl de_C_put_8 ?_
  refine lv_iload_n hx hb de_C_put_11 rfl (lv_at hl 1 rfl) ?_
  refine bc_meet (σ := Int32) 29 (fun x => [.int x, .int (nI i), .ref q2]) (fun x H locs ls => (x = bc_p1 k a) ∧ lv_has ls 6 [(0, .ref h0), (1, .int (nI i)), (2, .int k), (3, .int a), (4, .int b), (5, .int d)] ∧ va_P (dC, dI) classes [(h0, .inr (1, [.ref q1, .ref q2, .ref q3, .ref q4, .int (nI n)])), (q1, .inl (cI, 40, .inl (upd K i k))), (q2, .inl (cI, 40, .inl O)), (q3, .inl (cI, 40, .inl T)), (q4, .inl (cI, 40, .inl Z))] H ∧ va_D A [(h0, .inr (1, [.ref q1, .ref q2, .ref q3, .ref q4, .int (nI n)])), (q1, .inl (cI, 40, .inl (upd K i k))), (q2, .inl (cI, 40, .inl O)), (q3, .inl (cI, 40, .inl T)), (q4, .inl (cI, 40, .inl Z))] ∧ va_S A s.heap H locs) ?_ ?_
  · rintro x_29 H locs ls ⟨hm_29, hl, hP, hD, hS⟩
    refine bc_ist (j := i) hx hb hK hP hD hS 2 0 rfl rfl (by omega) (by decide) de_C_put_29 (fun H locs hP hD hS => ?_)
    have hP : va_P (dC, dI) classes [(h0, .inr (1, [.ref q1, .ref q2, .ref q3, .ref q4, .int (nI n)])), (q1, .inl (cI, 40, .inl (upd K i k))), (q2, .inl (cI, 40, .inl (upd O i x_29))), (q3, .inl (cI, 40, .inl T)), (q4, .inl (cI, 40, .inl Z))] H := hP
    have hD : va_D A [(h0, .inr (1, [.ref q1, .ref q2, .ref q3, .ref q4, .int (nI n)])), (q1, .inl (cI, 40, .inl (upd K i k))), (q2, .inl (cI, 40, .inl (upd O i x_29))), (q3, .inl (cI, 40, .inl T)), (q4, .inl (cI, 40, .inl Z))] := hD
    refine lv_aload_n hx hb de_C_put_30 rfl (lv_at hl 0 rfl) ?_
    refine va_get (D := (dC, dI)) (ci := 1) (v := .ref q3) (C := rc_C) (T := fc_C) (N := 5) hx hb htw wi_C hown hK hP 0 rfl rfl 2 (by decide) (htw _ wm_30) (fun _ h9 => h9) rfl de_C_put_31 ?_
    refine lv_iload_n hx hb de_C_put_34 rfl (lv_at hl 1 rfl) ?_
    refine bc_meet (σ := Int32) 47 (fun x => [.int x, .int (nI i), .ref q3]) (fun x H locs ls => (x = bc_p2 k b) ∧ lv_has ls 6 [(0, .ref h0), (1, .int (nI i)), (2, .int k), (3, .int a), (4, .int b), (5, .int d)] ∧ va_P (dC, dI) classes [(h0, .inr (1, [.ref q1, .ref q2, .ref q3, .ref q4, .int (nI n)])), (q1, .inl (cI, 40, .inl (upd K i k))), (q2, .inl (cI, 40, .inl (upd O i x_29))), (q3, .inl (cI, 40, .inl T)), (q4, .inl (cI, 40, .inl Z))] H ∧ va_D A [(h0, .inr (1, [.ref q1, .ref q2, .ref q3, .ref q4, .int (nI n)])), (q1, .inl (cI, 40, .inl (upd K i k))), (q2, .inl (cI, 40, .inl (upd O i x_29))), (q3, .inl (cI, 40, .inl T)), (q4, .inl (cI, 40, .inl Z))] ∧ va_S A s.heap H locs) ?_ ?_
    · rintro x_47 H locs ls ⟨hm_47, hl, hP, hD, hS⟩
      refine bc_ist (j := i) hx hb hK hP hD hS 3 0 rfl rfl (by omega) (by decide) de_C_put_47 (fun H locs hP hD hS => ?_)
      have hP : va_P (dC, dI) classes [(h0, .inr (1, [.ref q1, .ref q2, .ref q3, .ref q4, .int (nI n)])), (q1, .inl (cI, 40, .inl (upd K i k))), (q2, .inl (cI, 40, .inl (upd O i x_29))), (q3, .inl (cI, 40, .inl (upd T i x_47))), (q4, .inl (cI, 40, .inl Z))] H := hP
      have hD : va_D A [(h0, .inr (1, [.ref q1, .ref q2, .ref q3, .ref q4, .int (nI n)])), (q1, .inl (cI, 40, .inl (upd K i k))), (q2, .inl (cI, 40, .inl (upd O i x_29))), (q3, .inl (cI, 40, .inl (upd T i x_47))), (q4, .inl (cI, 40, .inl Z))] := hD
      refine lv_aload_n hx hb de_C_put_48 rfl (lv_at hl 0 rfl) ?_
      refine va_get (D := (dC, dI)) (ci := 1) (v := .ref q4) (C := rc_C) (T := fc_C) (N := 5) hx hb htw wi_C hown hK hP 0 rfl rfl 3 (by decide) (htw _ wm_31) (fun _ h9 => h9) rfl de_C_put_49 ?_
      refine lv_iload_n hx hb de_C_put_52 rfl (lv_at hl 1 rfl) ?_
      refine bc_meet (σ := Int32) 74 (fun x => [.int x, .int (nI i), .ref q4]) (fun x H locs ls => (x = bc_p3 k d) ∧ lv_has ls 6 [(0, .ref h0), (1, .int (nI i)), (2, .int k), (3, .int a), (4, .int b), (5, .int d)] ∧ va_P (dC, dI) classes [(h0, .inr (1, [.ref q1, .ref q2, .ref q3, .ref q4, .int (nI n)])), (q1, .inl (cI, 40, .inl (upd K i k))), (q2, .inl (cI, 40, .inl (upd O i x_29))), (q3, .inl (cI, 40, .inl (upd T i x_47))), (q4, .inl (cI, 40, .inl Z))] H ∧ va_D A [(h0, .inr (1, [.ref q1, .ref q2, .ref q3, .ref q4, .int (nI n)])), (q1, .inl (cI, 40, .inl (upd K i k))), (q2, .inl (cI, 40, .inl (upd O i x_29))), (q3, .inl (cI, 40, .inl (upd T i x_47))), (q4, .inl (cI, 40, .inl Z))] ∧ va_S A s.heap H locs) ?_ ?_
      · rintro x_74 H locs ls ⟨hm_74, hl, hP, hD, hS⟩
        refine bc_ist (j := i) hx hb hK hP hD hS 4 0 rfl rfl (by omega) (by decide) de_C_put_74 (fun H locs hP hD hS => ?_)
        have hP : va_P (dC, dI) classes [(h0, .inr (1, [.ref q1, .ref q2, .ref q3, .ref q4, .int (nI n)])), (q1, .inl (cI, 40, .inl (upd K i k))), (q2, .inl (cI, 40, .inl (upd O i x_29))), (q3, .inl (cI, 40, .inl (upd T i x_47))), (q4, .inl (cI, 40, .inl (upd Z i x_74)))] H := hP
        have hD : va_D A [(h0, .inr (1, [.ref q1, .ref q2, .ref q3, .ref q4, .int (nI n)])), (q1, .inl (cI, 40, .inl (upd K i k))), (q2, .inl (cI, 40, .inl (upd O i x_29))), (q3, .inl (cI, 40, .inl (upd T i x_47))), (q4, .inl (cI, 40, .inl (upd Z i x_74)))] := hD
        exact bc_vret F hr hlocks ((upd K i k, upd O i x_29, upd T i x_47, upd Z i x_74)) (by rw [hm_29, hm_47, hm_74]) hP hD hS de_C_put_75
      · intro km_74
        refine lv_iload_n hx hb de_C_put_53 rfl (lv_at hl 2 rfl) ?_
        refine lv_iconst (v := 2) hx hb de_C_put_54 (by decide) ?_
        refine lv_icmp_eq (tgt := 68) hx hb de_C_put_55 (by decide) (fun hc_55 => ?_) (fun hc_55 => ?_)
        · refine lv_iload hx hb de_C_put_68 (lv_at hl 5 rfl) ?_
          refine lv_goto (tgt := 74) hx hb de_C_put_70 (by decide) ?_
          exact km_74 d _ _ _ ⟨(by unfold bc_p3; rw [if_pos (Or.inl hc_55)]), hl, hP, hD, hS⟩
        · refine lv_iload_n hx hb de_C_put_58 rfl (lv_at hl 2 rfl) ?_
          refine lv_iconst (v := 3) hx hb de_C_put_59 (by decide) ?_
          refine lv_icmp_eq (tgt := 68) hx hb de_C_put_60 (by decide) (fun hc_60 => ?_) (fun hc_60 => ?_)
          · refine lv_iload hx hb de_C_put_68 (lv_at hl 5 rfl) ?_
            refine lv_goto (tgt := 74) hx hb de_C_put_70 (by decide) ?_
            exact km_74 d _ _ _ ⟨(by unfold bc_p3; rw [if_pos (Or.inr (Or.inl hc_60))]), hl, hP, hD, hS⟩
          · refine lv_iload_n hx hb de_C_put_63 rfl (lv_at hl 2 rfl) ?_
            refine lv_iconst (v := 4) hx hb de_C_put_64 (by decide) ?_
            refine lv_icmp_ne (tgt := 73) hx hb de_C_put_65 (by decide) (fun hc_65 => ?_) (fun hc_65 => ?_)
            · refine lv_iconst (v := 0) hx hb de_C_put_73 (by decide) ?_
              exact km_74 0 _ _ _ ⟨(by unfold bc_p3; rw [if_neg (fun z => z.elim hc_55 (fun z => z.elim hc_60 hc_65))]), hl, hP, hD, hS⟩
            · refine lv_iload hx hb de_C_put_68 (lv_at hl 5 rfl) ?_
              refine lv_goto (tgt := 74) hx hb de_C_put_70 (by decide) ?_
              exact km_74 d _ _ _ ⟨(by unfold bc_p3; rw [if_pos (Or.inr (Or.inr hc_65))]), hl, hP, hD, hS⟩
    · intro km_47
      refine lv_iload_n hx hb de_C_put_35 rfl (lv_at hl 2 rfl) ?_
      refine lv_bipush (v := 7) hx hb de_C_put_36 (by decide) ?_
      refine lv_icmp_ne (tgt := 45) hx hb de_C_put_38 (by decide) (fun hc_38 => ?_) (fun hc_38 => ?_)
      · refine lv_iload hx hb de_C_put_45 (lv_at hl 4 rfl) ?_
        exact km_47 b _ _ _ ⟨(by unfold bc_p2; rw [if_neg hc_38]), hl, hP, hD, hS⟩
      · refine lv_iconst (v := 0) hx hb de_C_put_41 (by decide) ?_
        refine lv_goto (tgt := 47) hx hb de_C_put_42 (by decide) ?_
        exact km_47 0 _ _ _ ⟨(by unfold bc_p2; rw [if_pos hc_38]), hl, hP, hD, hS⟩
  · intro km_29
    refine lv_iload_n hx hb de_C_put_12 rfl (lv_at hl 2 rfl) ?_
    refine lv_bipush (v := 6) hx hb de_C_put_13 (by decide) ?_
    refine lv_icmp_eq (tgt := 24) hx hb de_C_put_15 (by decide) (fun hc_15 => ?_) (fun hc_15 => ?_)
    · refine lv_iconst (v := 0) hx hb de_C_put_24 (by decide) ?_
      refine lv_goto (tgt := 29) hx hb de_C_put_25 (by decide) ?_
      exact km_29 0 _ _ _ ⟨(by unfold bc_p1; rw [if_pos (Or.inl hc_15)]), hl, hP, hD, hS⟩
    · refine lv_iload_n hx hb de_C_put_18 rfl (lv_at hl 2 rfl) ?_
      refine lv_bipush (v := 7) hx hb de_C_put_19 (by decide) ?_
      refine lv_icmp_ne (tgt := 28) hx hb de_C_put_21 (by decide) (fun hc_21 => ?_) (fun hc_21 => ?_)
      · refine lv_iload_n hx hb de_C_put_28 rfl (lv_at hl 3 rfl) ?_
        exact km_29 a _ _ _ ⟨(by unfold bc_p1; rw [if_neg (fun z => z.elim hc_15 hc_21)]), hl, hP, hD, hS⟩
      · refine lv_iconst (v := 0) hx hb de_C_put_24 (by decide) ?_
        refine lv_goto (tgt := 29) hx hb de_C_put_25 (by decide) ?_
        exact km_29 0 _ _ _ ⟨(by unfold bc_p1; rw [if_pos (Or.inr hc_21)]), hl, hP, hD, hS⟩
end
section
/-! isInstruction, putAllOf, Arrays.fill (by program: wip/whole/gen/modD.py) -/
def bc_si (k o t z : Int32) : Prop := (k = 0 ∧ bc_vr o) ∨ (k = 1 ∧ bc_vr o ∧ bc_vr t) ∨ ((k = 2 ∨ k = 3 ∨ k = 4) ∧ bc_vr o ∧ bc_vr t ∧ bc_vr z) ∨ (k = 5 ∧ bc_vr o ∧ bc_tr t) ∨ (k = 6 ∧ bc_tr t) ∨ k = 7
theorem bc_lt {a b : Nat} (hb : b < 2 ^ 31) (ha : a < 2 ^ 31) (h : ¬ nI b ≤ nI a) : a < b := by
  rw [nI_leI hb ha] at h
  omega
theorem bc_ge {a b : Nat} (hb : b < 2 ^ 31) (ha : a < 2 ^ 31) (h : nI b ≤ nI a) : b ≤ a := by
  rw [nI_leI hb ha] at h
  exact h
set_option maxHeartbeats 4000000 in
set_option maxRecDepth 100000 in
/-- is it an instruction -/
theorem co_B_isInstruction {l : Launch} {dC : Nat → ClassId} {dI : Nat → Nat → Nat} {cI cZ : ClassId} {sz : Nat} {k o t z : Int32} : Met l yn_B_isInstruction (Cond.code yn_B_isInstruction by_B_isInstruction 4 (some FieldType.boolean) :: wd_all) ({ frames := 1, cells := 0, slots := 0, locals := 20 } : Room) (bc_Pre (dC, dI) classes [(cI, .int), (cZ, .boolean)] [.int k, .int o, .int t, .int z] [] sz) (va_Qi (fun (r : Int32) (u : Unit) => (r = 1 ∧ bc_si k o t z) ∨ (r = 0 ∧ ¬ bc_si k o t z)) (fun (u : Unit) t => bc_B (dC, dI) classes [(cI, .int), (cZ, .boolean)] (va_A [] sz) [] t) ((va_A [] sz))) 0 0 (va_A [] sz) := by
  refine bc_met (fun A => va_Qi (fun (r : Int32) (u : Unit) => (r = 1 ∧ bc_si k o t z) ∨ (r = 0 ∧ ¬ bc_si k o t z)) (fun (u : Unit) t => bc_B (dC, dI) classes [(cI, .int), (cZ, .boolean)] A [] t) A) (by decide) (Nat.le_of_ble_eq_true rfl) ?_
  intro p e s m args below meth c A ls F hr hlocks hin hA hP hD hl hS
  have hx := F.1
  have hb := F.2.1
  have hml := F.2.2.1
  have hown : s.vm.findClass "BranchConstants" = some m.cls := F.2.2.2.1
  have htw := F.2.2.2.2.1
  have hN := F.2.2.2.2.2.1
  have hK := F.2.2.2.2.2.2
  have hl : lv_has ls 4 [(0, .int k), (1, .int o), (2, .int t), (3, .int z)] := hl
  refine lv_iload_n hx hb de_B_isInstruction_0 rfl (lv_at hl 0 rfl) ?_
  by_cases hs_1_0 : k = 0
  · refine bc_ti hs_1_0 ?_
    refine lv_tableIn (off := 43) (tgt := 44) hx hb de_B_isInstruction_1 (by decide) (by decide) rfl (by decide) ?_
    refine lv_iload_n hx hb de_B_isInstruction_44 rfl (lv_at hl 1 rfl) ?_
    refine bc_call_s_i (As := [.int o]) (rest := []) (wr := []) F (co_B_isVariable) wm_186 wm_1 wm_184 wm_185 pd_B_isVariable rfl rfl ⟨Nat.le_of_ble_eq_true rfl, Nat.le_of_ble_eq_true rfl⟩ hP hD hS hA [] [] rfl rfl rfl rfl (by decide) rfl hl.1 rfl (Nat.le_of_ble_eq_true rfl) de_B_isInstruction_45 ⟨Nat.le_of_ble_eq_true rfl, Nat.le_of_ble_eq_true rfl⟩ (fun r_45 u H locs hw_45 hP hD hS => ?_)
    have hP : va_P (dC, dI) classes [] H := hP.sub [] rfl
    have hD : va_D A [] := hD.sub [] (by decide) rfl
    rcases hw_45 with ⟨he_45, hv_45⟩ | ⟨he_45, hv_45⟩
    · subst he_45
      exact bc_zret F hr hlocks rfl (()) (by simp [bc_si, hs_1_0, hv_45]) hP hD hS de_B_isInstruction_48
    · subst he_45
      exact bc_zret F hr hlocks rfl (()) (by simp [bc_si, hs_1_0, hv_45]) hP hD hS de_B_isInstruction_48
  by_cases hs_1_1 : k = 1
  · refine bc_ti hs_1_1 ?_
    refine lv_tableIn (off := 48) (tgt := 49) hx hb de_B_isInstruction_1 (by decide) (by decide) rfl (by decide) ?_
    refine lv_iload_n hx hb de_B_isInstruction_49 rfl (lv_at hl 1 rfl) ?_
    refine bc_call_s_i (As := [.int o]) (rest := []) (wr := []) F (co_B_isVariable) wm_186 wm_1 wm_184 wm_185 pd_B_isVariable rfl rfl ⟨Nat.le_of_ble_eq_true rfl, Nat.le_of_ble_eq_true rfl⟩ hP hD hS hA [] [] rfl rfl rfl rfl (by decide) rfl hl.1 rfl (Nat.le_of_ble_eq_true rfl) de_B_isInstruction_50 ⟨Nat.le_of_ble_eq_true rfl, Nat.le_of_ble_eq_true rfl⟩ (fun r_50 u H locs hw_50 hP hD hS => ?_)
    have hP : va_P (dC, dI) classes [] H := hP.sub [] rfl
    have hD : va_D A [] := hD.sub [] (by decide) rfl
    rcases hw_50 with ⟨he_50, hv_50⟩ | ⟨he_50, hv_50⟩
    · subst he_50
      refine lv_if_eq (tgt := 67) hx hb de_B_isInstruction_53 (by decide) (fun hc => absurd hc (by decide)) (fun _ => ?_)
      refine lv_iload_n hx hb de_B_isInstruction_56 rfl (lv_at hl 2 rfl) ?_
      refine bc_call_s_i (As := [.int t]) (rest := []) (wr := []) F (co_B_isVariable) wm_186 wm_1 wm_184 wm_185 pd_B_isVariable rfl rfl ⟨Nat.le_of_ble_eq_true rfl, Nat.le_of_ble_eq_true rfl⟩ hP hD hS hA [] [] rfl rfl rfl rfl (by decide) rfl hl.1 rfl (Nat.le_of_ble_eq_true rfl) de_B_isInstruction_57 ⟨Nat.le_of_ble_eq_true rfl, Nat.le_of_ble_eq_true rfl⟩ (fun r_57 u H locs hw_57 hP hD hS => ?_)
      have hP : va_P (dC, dI) classes [] H := hP.sub [] rfl
      have hD : va_D A [] := hD.sub [] (by decide) rfl
      rcases hw_57 with ⟨he_57, hv_57⟩ | ⟨he_57, hv_57⟩
      · subst he_57
        refine lv_if_eq (tgt := 67) hx hb de_B_isInstruction_60 (by decide) (fun hc => absurd hc (by decide)) (fun _ => ?_)
        refine lv_iconst (v := 1) hx hb de_B_isInstruction_63 (by decide) ?_
        refine lv_goto (tgt := 68) hx hb de_B_isInstruction_64 (by decide) ?_
        exact bc_zret F hr hlocks rfl (()) (by simp [bc_si, hs_1_0, hs_1_1, hv_50, hv_57]) hP hD hS de_B_isInstruction_68
      · subst he_57
        refine lv_if_eq (tgt := 67) hx hb de_B_isInstruction_60 (by decide) (fun _ => ?_) (fun hc => absurd (by decide) hc)
        refine lv_iconst (v := 0) hx hb de_B_isInstruction_67 (by decide) ?_
        exact bc_zret F hr hlocks rfl (()) (by simp [bc_si, hs_1_0, hs_1_1, hv_50, hv_57]) hP hD hS de_B_isInstruction_68
    · subst he_50
      refine lv_if_eq (tgt := 67) hx hb de_B_isInstruction_53 (by decide) (fun _ => ?_) (fun hc => absurd (by decide) hc)
      refine lv_iconst (v := 0) hx hb de_B_isInstruction_67 (by decide) ?_
      exact bc_zret F hr hlocks rfl (()) (by simp [bc_si, hs_1_0, hs_1_1, hv_50]) hP hD hS de_B_isInstruction_68
  by_cases hs_1_2 : k = 2
  · refine bc_ti hs_1_2 ?_
    refine lv_tableIn (off := 68) (tgt := 69) hx hb de_B_isInstruction_1 (by decide) (by decide) rfl (by decide) ?_
    refine lv_iload_n hx hb de_B_isInstruction_69 rfl (lv_at hl 1 rfl) ?_
    refine bc_call_s_i (As := [.int o]) (rest := []) (wr := []) F (co_B_isVariable) wm_186 wm_1 wm_184 wm_185 pd_B_isVariable rfl rfl ⟨Nat.le_of_ble_eq_true rfl, Nat.le_of_ble_eq_true rfl⟩ hP hD hS hA [] [] rfl rfl rfl rfl (by decide) rfl hl.1 rfl (Nat.le_of_ble_eq_true rfl) de_B_isInstruction_70 ⟨Nat.le_of_ble_eq_true rfl, Nat.le_of_ble_eq_true rfl⟩ (fun r_70 u H locs hw_70 hP hD hS => ?_)
    have hP : va_P (dC, dI) classes [] H := hP.sub [] rfl
    have hD : va_D A [] := hD.sub [] (by decide) rfl
    rcases hw_70 with ⟨he_70, hv_70⟩ | ⟨he_70, hv_70⟩
    · subst he_70
      refine lv_if_eq (tgt := 94) hx hb de_B_isInstruction_73 (by decide) (fun hc => absurd hc (by decide)) (fun _ => ?_)
      refine lv_iload_n hx hb de_B_isInstruction_76 rfl (lv_at hl 2 rfl) ?_
      refine bc_call_s_i (As := [.int t]) (rest := []) (wr := []) F (co_B_isVariable) wm_186 wm_1 wm_184 wm_185 pd_B_isVariable rfl rfl ⟨Nat.le_of_ble_eq_true rfl, Nat.le_of_ble_eq_true rfl⟩ hP hD hS hA [] [] rfl rfl rfl rfl (by decide) rfl hl.1 rfl (Nat.le_of_ble_eq_true rfl) de_B_isInstruction_77 ⟨Nat.le_of_ble_eq_true rfl, Nat.le_of_ble_eq_true rfl⟩ (fun r_77 u H locs hw_77 hP hD hS => ?_)
      have hP : va_P (dC, dI) classes [] H := hP.sub [] rfl
      have hD : va_D A [] := hD.sub [] (by decide) rfl
      rcases hw_77 with ⟨he_77, hv_77⟩ | ⟨he_77, hv_77⟩
      · subst he_77
        refine lv_if_eq (tgt := 94) hx hb de_B_isInstruction_80 (by decide) (fun hc => absurd hc (by decide)) (fun _ => ?_)
        refine lv_iload_n hx hb de_B_isInstruction_83 rfl (lv_at hl 3 rfl) ?_
        refine bc_call_s_i (As := [.int z]) (rest := []) (wr := []) F (co_B_isVariable) wm_186 wm_1 wm_184 wm_185 pd_B_isVariable rfl rfl ⟨Nat.le_of_ble_eq_true rfl, Nat.le_of_ble_eq_true rfl⟩ hP hD hS hA [] [] rfl rfl rfl rfl (by decide) rfl hl.1 rfl (Nat.le_of_ble_eq_true rfl) de_B_isInstruction_84 ⟨Nat.le_of_ble_eq_true rfl, Nat.le_of_ble_eq_true rfl⟩ (fun r_84 u H locs hw_84 hP hD hS => ?_)
        have hP : va_P (dC, dI) classes [] H := hP.sub [] rfl
        have hD : va_D A [] := hD.sub [] (by decide) rfl
        rcases hw_84 with ⟨he_84, hv_84⟩ | ⟨he_84, hv_84⟩
        · subst he_84
          refine lv_if_eq (tgt := 94) hx hb de_B_isInstruction_87 (by decide) (fun hc => absurd hc (by decide)) (fun _ => ?_)
          refine lv_iconst (v := 1) hx hb de_B_isInstruction_90 (by decide) ?_
          refine lv_goto (tgt := 95) hx hb de_B_isInstruction_91 (by decide) ?_
          exact bc_zret F hr hlocks rfl (()) (by simp [bc_si, hs_1_0, hs_1_1, hs_1_2, hv_70, hv_77, hv_84]) hP hD hS de_B_isInstruction_95
        · subst he_84
          refine lv_if_eq (tgt := 94) hx hb de_B_isInstruction_87 (by decide) (fun _ => ?_) (fun hc => absurd (by decide) hc)
          refine lv_iconst (v := 0) hx hb de_B_isInstruction_94 (by decide) ?_
          exact bc_zret F hr hlocks rfl (()) (by simp [bc_si, hs_1_0, hs_1_1, hs_1_2, hv_70, hv_77, hv_84]) hP hD hS de_B_isInstruction_95
      · subst he_77
        refine lv_if_eq (tgt := 94) hx hb de_B_isInstruction_80 (by decide) (fun _ => ?_) (fun hc => absurd (by decide) hc)
        refine lv_iconst (v := 0) hx hb de_B_isInstruction_94 (by decide) ?_
        exact bc_zret F hr hlocks rfl (()) (by simp [bc_si, hs_1_0, hs_1_1, hs_1_2, hv_70, hv_77]) hP hD hS de_B_isInstruction_95
    · subst he_70
      refine lv_if_eq (tgt := 94) hx hb de_B_isInstruction_73 (by decide) (fun _ => ?_) (fun hc => absurd (by decide) hc)
      refine lv_iconst (v := 0) hx hb de_B_isInstruction_94 (by decide) ?_
      exact bc_zret F hr hlocks rfl (()) (by simp [bc_si, hs_1_0, hs_1_1, hs_1_2, hv_70]) hP hD hS de_B_isInstruction_95
  by_cases hs_1_3 : k = 3
  · refine bc_ti hs_1_3 ?_
    refine lv_tableIn (off := 68) (tgt := 69) hx hb de_B_isInstruction_1 (by decide) (by decide) rfl (by decide) ?_
    refine lv_iload_n hx hb de_B_isInstruction_69 rfl (lv_at hl 1 rfl) ?_
    refine bc_call_s_i (As := [.int o]) (rest := []) (wr := []) F (co_B_isVariable) wm_186 wm_1 wm_184 wm_185 pd_B_isVariable rfl rfl ⟨Nat.le_of_ble_eq_true rfl, Nat.le_of_ble_eq_true rfl⟩ hP hD hS hA [] [] rfl rfl rfl rfl (by decide) rfl hl.1 rfl (Nat.le_of_ble_eq_true rfl) de_B_isInstruction_70 ⟨Nat.le_of_ble_eq_true rfl, Nat.le_of_ble_eq_true rfl⟩ (fun r_70 u H locs hw_70 hP hD hS => ?_)
    have hP : va_P (dC, dI) classes [] H := hP.sub [] rfl
    have hD : va_D A [] := hD.sub [] (by decide) rfl
    rcases hw_70 with ⟨he_70, hv_70⟩ | ⟨he_70, hv_70⟩
    · subst he_70
      refine lv_if_eq (tgt := 94) hx hb de_B_isInstruction_73 (by decide) (fun hc => absurd hc (by decide)) (fun _ => ?_)
      refine lv_iload_n hx hb de_B_isInstruction_76 rfl (lv_at hl 2 rfl) ?_
      refine bc_call_s_i (As := [.int t]) (rest := []) (wr := []) F (co_B_isVariable) wm_186 wm_1 wm_184 wm_185 pd_B_isVariable rfl rfl ⟨Nat.le_of_ble_eq_true rfl, Nat.le_of_ble_eq_true rfl⟩ hP hD hS hA [] [] rfl rfl rfl rfl (by decide) rfl hl.1 rfl (Nat.le_of_ble_eq_true rfl) de_B_isInstruction_77 ⟨Nat.le_of_ble_eq_true rfl, Nat.le_of_ble_eq_true rfl⟩ (fun r_77 u H locs hw_77 hP hD hS => ?_)
      have hP : va_P (dC, dI) classes [] H := hP.sub [] rfl
      have hD : va_D A [] := hD.sub [] (by decide) rfl
      rcases hw_77 with ⟨he_77, hv_77⟩ | ⟨he_77, hv_77⟩
      · subst he_77
        refine lv_if_eq (tgt := 94) hx hb de_B_isInstruction_80 (by decide) (fun hc => absurd hc (by decide)) (fun _ => ?_)
        refine lv_iload_n hx hb de_B_isInstruction_83 rfl (lv_at hl 3 rfl) ?_
        refine bc_call_s_i (As := [.int z]) (rest := []) (wr := []) F (co_B_isVariable) wm_186 wm_1 wm_184 wm_185 pd_B_isVariable rfl rfl ⟨Nat.le_of_ble_eq_true rfl, Nat.le_of_ble_eq_true rfl⟩ hP hD hS hA [] [] rfl rfl rfl rfl (by decide) rfl hl.1 rfl (Nat.le_of_ble_eq_true rfl) de_B_isInstruction_84 ⟨Nat.le_of_ble_eq_true rfl, Nat.le_of_ble_eq_true rfl⟩ (fun r_84 u H locs hw_84 hP hD hS => ?_)
        have hP : va_P (dC, dI) classes [] H := hP.sub [] rfl
        have hD : va_D A [] := hD.sub [] (by decide) rfl
        rcases hw_84 with ⟨he_84, hv_84⟩ | ⟨he_84, hv_84⟩
        · subst he_84
          refine lv_if_eq (tgt := 94) hx hb de_B_isInstruction_87 (by decide) (fun hc => absurd hc (by decide)) (fun _ => ?_)
          refine lv_iconst (v := 1) hx hb de_B_isInstruction_90 (by decide) ?_
          refine lv_goto (tgt := 95) hx hb de_B_isInstruction_91 (by decide) ?_
          exact bc_zret F hr hlocks rfl (()) (by simp [bc_si, hs_1_0, hs_1_1, hs_1_2, hs_1_3, hv_70, hv_77, hv_84]) hP hD hS de_B_isInstruction_95
        · subst he_84
          refine lv_if_eq (tgt := 94) hx hb de_B_isInstruction_87 (by decide) (fun _ => ?_) (fun hc => absurd (by decide) hc)
          refine lv_iconst (v := 0) hx hb de_B_isInstruction_94 (by decide) ?_
          exact bc_zret F hr hlocks rfl (()) (by simp [bc_si, hs_1_0, hs_1_1, hs_1_2, hs_1_3, hv_70, hv_77, hv_84]) hP hD hS de_B_isInstruction_95
      · subst he_77
        refine lv_if_eq (tgt := 94) hx hb de_B_isInstruction_80 (by decide) (fun _ => ?_) (fun hc => absurd (by decide) hc)
        refine lv_iconst (v := 0) hx hb de_B_isInstruction_94 (by decide) ?_
        exact bc_zret F hr hlocks rfl (()) (by simp [bc_si, hs_1_0, hs_1_1, hs_1_2, hs_1_3, hv_70, hv_77]) hP hD hS de_B_isInstruction_95
    · subst he_70
      refine lv_if_eq (tgt := 94) hx hb de_B_isInstruction_73 (by decide) (fun _ => ?_) (fun hc => absurd (by decide) hc)
      refine lv_iconst (v := 0) hx hb de_B_isInstruction_94 (by decide) ?_
      exact bc_zret F hr hlocks rfl (()) (by simp [bc_si, hs_1_0, hs_1_1, hs_1_2, hs_1_3, hv_70]) hP hD hS de_B_isInstruction_95
  by_cases hs_1_4 : k = 4
  · refine bc_ti hs_1_4 ?_
    refine lv_tableIn (off := 68) (tgt := 69) hx hb de_B_isInstruction_1 (by decide) (by decide) rfl (by decide) ?_
    refine lv_iload_n hx hb de_B_isInstruction_69 rfl (lv_at hl 1 rfl) ?_
    refine bc_call_s_i (As := [.int o]) (rest := []) (wr := []) F (co_B_isVariable) wm_186 wm_1 wm_184 wm_185 pd_B_isVariable rfl rfl ⟨Nat.le_of_ble_eq_true rfl, Nat.le_of_ble_eq_true rfl⟩ hP hD hS hA [] [] rfl rfl rfl rfl (by decide) rfl hl.1 rfl (Nat.le_of_ble_eq_true rfl) de_B_isInstruction_70 ⟨Nat.le_of_ble_eq_true rfl, Nat.le_of_ble_eq_true rfl⟩ (fun r_70 u H locs hw_70 hP hD hS => ?_)
    have hP : va_P (dC, dI) classes [] H := hP.sub [] rfl
    have hD : va_D A [] := hD.sub [] (by decide) rfl
    rcases hw_70 with ⟨he_70, hv_70⟩ | ⟨he_70, hv_70⟩
    · subst he_70
      refine lv_if_eq (tgt := 94) hx hb de_B_isInstruction_73 (by decide) (fun hc => absurd hc (by decide)) (fun _ => ?_)
      refine lv_iload_n hx hb de_B_isInstruction_76 rfl (lv_at hl 2 rfl) ?_
      refine bc_call_s_i (As := [.int t]) (rest := []) (wr := []) F (co_B_isVariable) wm_186 wm_1 wm_184 wm_185 pd_B_isVariable rfl rfl ⟨Nat.le_of_ble_eq_true rfl, Nat.le_of_ble_eq_true rfl⟩ hP hD hS hA [] [] rfl rfl rfl rfl (by decide) rfl hl.1 rfl (Nat.le_of_ble_eq_true rfl) de_B_isInstruction_77 ⟨Nat.le_of_ble_eq_true rfl, Nat.le_of_ble_eq_true rfl⟩ (fun r_77 u H locs hw_77 hP hD hS => ?_)
      have hP : va_P (dC, dI) classes [] H := hP.sub [] rfl
      have hD : va_D A [] := hD.sub [] (by decide) rfl
      rcases hw_77 with ⟨he_77, hv_77⟩ | ⟨he_77, hv_77⟩
      · subst he_77
        refine lv_if_eq (tgt := 94) hx hb de_B_isInstruction_80 (by decide) (fun hc => absurd hc (by decide)) (fun _ => ?_)
        refine lv_iload_n hx hb de_B_isInstruction_83 rfl (lv_at hl 3 rfl) ?_
        refine bc_call_s_i (As := [.int z]) (rest := []) (wr := []) F (co_B_isVariable) wm_186 wm_1 wm_184 wm_185 pd_B_isVariable rfl rfl ⟨Nat.le_of_ble_eq_true rfl, Nat.le_of_ble_eq_true rfl⟩ hP hD hS hA [] [] rfl rfl rfl rfl (by decide) rfl hl.1 rfl (Nat.le_of_ble_eq_true rfl) de_B_isInstruction_84 ⟨Nat.le_of_ble_eq_true rfl, Nat.le_of_ble_eq_true rfl⟩ (fun r_84 u H locs hw_84 hP hD hS => ?_)
        have hP : va_P (dC, dI) classes [] H := hP.sub [] rfl
        have hD : va_D A [] := hD.sub [] (by decide) rfl
        rcases hw_84 with ⟨he_84, hv_84⟩ | ⟨he_84, hv_84⟩
        · subst he_84
          refine lv_if_eq (tgt := 94) hx hb de_B_isInstruction_87 (by decide) (fun hc => absurd hc (by decide)) (fun _ => ?_)
          refine lv_iconst (v := 1) hx hb de_B_isInstruction_90 (by decide) ?_
          refine lv_goto (tgt := 95) hx hb de_B_isInstruction_91 (by decide) ?_
          exact bc_zret F hr hlocks rfl (()) (by simp [bc_si, hs_1_0, hs_1_1, hs_1_2, hs_1_3, hs_1_4, hv_70, hv_77, hv_84]) hP hD hS de_B_isInstruction_95
        · subst he_84
          refine lv_if_eq (tgt := 94) hx hb de_B_isInstruction_87 (by decide) (fun _ => ?_) (fun hc => absurd (by decide) hc)
          refine lv_iconst (v := 0) hx hb de_B_isInstruction_94 (by decide) ?_
          exact bc_zret F hr hlocks rfl (()) (by simp [bc_si, hs_1_0, hs_1_1, hs_1_2, hs_1_3, hs_1_4, hv_70, hv_77, hv_84]) hP hD hS de_B_isInstruction_95
      · subst he_77
        refine lv_if_eq (tgt := 94) hx hb de_B_isInstruction_80 (by decide) (fun _ => ?_) (fun hc => absurd (by decide) hc)
        refine lv_iconst (v := 0) hx hb de_B_isInstruction_94 (by decide) ?_
        exact bc_zret F hr hlocks rfl (()) (by simp [bc_si, hs_1_0, hs_1_1, hs_1_2, hs_1_3, hs_1_4, hv_70, hv_77]) hP hD hS de_B_isInstruction_95
    · subst he_70
      refine lv_if_eq (tgt := 94) hx hb de_B_isInstruction_73 (by decide) (fun _ => ?_) (fun hc => absurd (by decide) hc)
      refine lv_iconst (v := 0) hx hb de_B_isInstruction_94 (by decide) ?_
      exact bc_zret F hr hlocks rfl (()) (by simp [bc_si, hs_1_0, hs_1_1, hs_1_2, hs_1_3, hs_1_4, hv_70]) hP hD hS de_B_isInstruction_95
  by_cases hs_1_5 : k = 5
  · refine bc_ti hs_1_5 ?_
    refine lv_tableIn (off := 95) (tgt := 96) hx hb de_B_isInstruction_1 (by decide) (by decide) rfl (by decide) ?_
    refine lv_iload_n hx hb de_B_isInstruction_96 rfl (lv_at hl 1 rfl) ?_
    refine bc_call_s_i (As := [.int o]) (rest := []) (wr := []) F (co_B_isVariable) wm_186 wm_1 wm_184 wm_185 pd_B_isVariable rfl rfl ⟨Nat.le_of_ble_eq_true rfl, Nat.le_of_ble_eq_true rfl⟩ hP hD hS hA [] [] rfl rfl rfl rfl (by decide) rfl hl.1 rfl (Nat.le_of_ble_eq_true rfl) de_B_isInstruction_97 ⟨Nat.le_of_ble_eq_true rfl, Nat.le_of_ble_eq_true rfl⟩ (fun r_97 u H locs hw_97 hP hD hS => ?_)
    have hP : va_P (dC, dI) classes [] H := hP.sub [] rfl
    have hD : va_D A [] := hD.sub [] (by decide) rfl
    rcases hw_97 with ⟨he_97, hv_97⟩ | ⟨he_97, hv_97⟩
    · subst he_97
      refine lv_if_eq (tgt := 114) hx hb de_B_isInstruction_100 (by decide) (fun hc => absurd hc (by decide)) (fun _ => ?_)
      refine lv_iload_n hx hb de_B_isInstruction_103 rfl (lv_at hl 2 rfl) ?_
      refine bc_call_s_i (As := [.int t]) (rest := []) (wr := []) F (co_B_isTarget) wm_189 wm_1 wm_187 wm_188 pd_B_isTarget rfl rfl ⟨Nat.le_of_ble_eq_true rfl, Nat.le_of_ble_eq_true rfl⟩ hP hD hS hA [] [] rfl rfl rfl rfl (by decide) rfl hl.1 rfl (Nat.le_of_ble_eq_true rfl) de_B_isInstruction_104 ⟨Nat.le_of_ble_eq_true rfl, Nat.le_of_ble_eq_true rfl⟩ (fun r_104 u H locs hw_104 hP hD hS => ?_)
      have hP : va_P (dC, dI) classes [] H := hP.sub [] rfl
      have hD : va_D A [] := hD.sub [] (by decide) rfl
      rcases hw_104 with ⟨he_104, hv_104⟩ | ⟨he_104, hv_104⟩
      · subst he_104
        refine lv_if_eq (tgt := 114) hx hb de_B_isInstruction_107 (by decide) (fun hc => absurd hc (by decide)) (fun _ => ?_)
        refine lv_iconst (v := 1) hx hb de_B_isInstruction_110 (by decide) ?_
        refine lv_goto (tgt := 115) hx hb de_B_isInstruction_111 (by decide) ?_
        exact bc_zret F hr hlocks rfl (()) (by simp [bc_si, hs_1_0, hs_1_1, hs_1_2, hs_1_3, hs_1_4, hs_1_5, hv_97, hv_104]) hP hD hS de_B_isInstruction_115
      · subst he_104
        refine lv_if_eq (tgt := 114) hx hb de_B_isInstruction_107 (by decide) (fun _ => ?_) (fun hc => absurd (by decide) hc)
        refine lv_iconst (v := 0) hx hb de_B_isInstruction_114 (by decide) ?_
        exact bc_zret F hr hlocks rfl (()) (by simp [bc_si, hs_1_0, hs_1_1, hs_1_2, hs_1_3, hs_1_4, hs_1_5, hv_97, hv_104]) hP hD hS de_B_isInstruction_115
    · subst he_97
      refine lv_if_eq (tgt := 114) hx hb de_B_isInstruction_100 (by decide) (fun _ => ?_) (fun hc => absurd (by decide) hc)
      refine lv_iconst (v := 0) hx hb de_B_isInstruction_114 (by decide) ?_
      exact bc_zret F hr hlocks rfl (()) (by simp [bc_si, hs_1_0, hs_1_1, hs_1_2, hs_1_3, hs_1_4, hs_1_5, hv_97]) hP hD hS de_B_isInstruction_115
  by_cases hs_1_6 : k = 6
  · refine bc_ti hs_1_6 ?_
    refine lv_tableIn (off := 115) (tgt := 116) hx hb de_B_isInstruction_1 (by decide) (by decide) rfl (by decide) ?_
    refine lv_iload_n hx hb de_B_isInstruction_116 rfl (lv_at hl 2 rfl) ?_
    refine bc_call_s_i (As := [.int t]) (rest := []) (wr := []) F (co_B_isTarget) wm_189 wm_1 wm_187 wm_188 pd_B_isTarget rfl rfl ⟨Nat.le_of_ble_eq_true rfl, Nat.le_of_ble_eq_true rfl⟩ hP hD hS hA [] [] rfl rfl rfl rfl (by decide) rfl hl.1 rfl (Nat.le_of_ble_eq_true rfl) de_B_isInstruction_117 ⟨Nat.le_of_ble_eq_true rfl, Nat.le_of_ble_eq_true rfl⟩ (fun r_117 u H locs hw_117 hP hD hS => ?_)
    have hP : va_P (dC, dI) classes [] H := hP.sub [] rfl
    have hD : va_D A [] := hD.sub [] (by decide) rfl
    rcases hw_117 with ⟨he_117, hv_117⟩ | ⟨he_117, hv_117⟩
    · subst he_117
      exact bc_zret F hr hlocks rfl (()) (by simp [bc_si, hs_1_0, hs_1_1, hs_1_2, hs_1_3, hs_1_4, hs_1_5, hs_1_6, hv_117]) hP hD hS de_B_isInstruction_120
    · subst he_117
      exact bc_zret F hr hlocks rfl (()) (by simp [bc_si, hs_1_0, hs_1_1, hs_1_2, hs_1_3, hs_1_4, hs_1_5, hs_1_6, hv_117]) hP hD hS de_B_isInstruction_120
  refine lv_tableOut (tgt := 121) hx hb de_B_isInstruction_1 (bc_to_0_6 hs_1_0 hs_1_1 hs_1_2 hs_1_3 hs_1_4 hs_1_5 hs_1_6) (by decide) ?_
  refine lv_iload_n hx hb de_B_isInstruction_121 rfl (lv_at hl 0 rfl) ?_
  refine lv_bipush (v := 7) hx hb de_B_isInstruction_122 (by decide) ?_
  refine lv_icmp_ne (tgt := 131) hx hb de_B_isInstruction_124 (by decide) (fun hc_124 => ?_) (fun hc_124 => ?_)
  · refine lv_iconst (v := 0) hx hb de_B_isInstruction_131 (by decide) ?_
    exact bc_zret F hr hlocks rfl (()) (by simp [bc_si, hs_1_0, hs_1_1, hs_1_2, hs_1_3, hs_1_4, hs_1_5, hs_1_6, hc_124]) hP hD hS de_B_isInstruction_132
  · refine lv_iconst (v := 1) hx hb de_B_isInstruction_127 (by decide) ?_
    refine lv_goto (tgt := 132) hx hb de_B_isInstruction_128 (by decide) ?_
    exact bc_zret F hr hlocks rfl (()) (by simp [bc_si, hs_1_0, hs_1_1, hs_1_2, hs_1_3, hs_1_4, hs_1_5, hs_1_6, hc_124]) hP hD hS de_B_isInstruction_132

theorem bc_all4 {i : Nat} {K1 O1 T1 Z1 a b d e : bc_F} (h : ∀ j, j < i → K1 j = a j ∧ O1 j = b j ∧ T1 j = d j ∧ Z1 j = e j) : ∀ j, j < i + 1 → upd K1 i (a i) j = a j ∧ upd O1 i (b i) j = b j ∧ upd T1 i (d i) j = d j ∧ upd Z1 i (e i) j = e j := by
  intro j hj
  by_cases c : j = i
  · subst c
    rw [pk_us, pk_us, pk_us, pk_us]
    exact ⟨rfl, rfl, rfl, rfl⟩
  · rw [pk_un c, pk_un c, pk_un c, pk_un c]
    exact h j (by omega)
set_option maxHeartbeats 4000000 in
set_option maxRecDepth 100000 in
/-- all of the other program -/
theorem co_C_putAllOf {l : Launch} {dC : Nat → ClassId} {dI : Nat → Nat → Nat} {cI cZ : ClassId} {sz : Nat} {h0 q1 q2 q3 q4 g0 q5 q6 q7 q8 n n2 : Nat} {K O T Z K2 O2 T2 Z2 : bc_F} (hn2 : n2 ≤ 40) : Met l yn_C_putAllOf (Cond.code yn_C_putAllOf by_C_putAllOf 3 none :: wd_all) ({ frames := 1, cells := 0, slots := 0, locals := 25 } : Room) (bc_Pre (dC, dI) classes [(cI, .int), (cZ, .boolean)] [.ref h0, .ref g0] [(h0, .inr (1, [.ref q1, .ref q2, .ref q3, .ref q4, .int (nI n2)])), (q1, .inl (cI, 40, .inl K)), (q2, .inl (cI, 40, .inl O)), (q3, .inl (cI, 40, .inl T)), (q4, .inl (cI, 40, .inl Z)), (g0, .inr (1, [.ref q5, .ref q6, .ref q7, .ref q8, .int (nI n2)])), (q5, .inl (cI, 40, .inl K2)), (q6, .inl (cI, 40, .inl O2)), (q7, .inl (cI, 40, .inl T2)), (q8, .inl (cI, 40, .inl Z2))] sz) (va_Qv (fun (u : bc_F × bc_F × bc_F × bc_F) => ∀ j, j < n2 → u.1 j = K2 j ∧ u.2.1 j = bc_p1 (K2 j) (O2 j) ∧ u.2.2.1 j = bc_p2 (K2 j) (T2 j) ∧ u.2.2.2 j = bc_p3 (K2 j) (Z2 j)) (fun (u : bc_F × bc_F × bc_F × bc_F) t => bc_B (dC, dI) classes [(cI, .int), (cZ, .boolean)] (va_A [(h0, .inr (1, [.ref q1, .ref q2, .ref q3, .ref q4, .int (nI n2)])), (q1, .inl (cI, 40, .inl K)), (q2, .inl (cI, 40, .inl O)), (q3, .inl (cI, 40, .inl T)), (q4, .inl (cI, 40, .inl Z)), (g0, .inr (1, [.ref q5, .ref q6, .ref q7, .ref q8, .int (nI n2)])), (q5, .inl (cI, 40, .inl K2)), (q6, .inl (cI, 40, .inl O2)), (q7, .inl (cI, 40, .inl T2)), (q8, .inl (cI, 40, .inl Z2))] sz) [(h0, .inr (1, [.ref q1, .ref q2, .ref q3, .ref q4, .int (nI n2)])), (q1, .inl (cI, 40, .inl u.1)), (q2, .inl (cI, 40, .inl u.2.1)), (q3, .inl (cI, 40, .inl u.2.2.1)), (q4, .inl (cI, 40, .inl u.2.2.2)), (g0, .inr (1, [.ref q5, .ref q6, .ref q7, .ref q8, .int (nI n2)])), (q5, .inl (cI, 40, .inl K2)), (q6, .inl (cI, 40, .inl O2)), (q7, .inl (cI, 40, .inl T2)), (q8, .inl (cI, 40, .inl Z2))] t) ((va_A [(h0, .inr (1, [.ref q1, .ref q2, .ref q3, .ref q4, .int (nI n2)])), (q1, .inl (cI, 40, .inl K)), (q2, .inl (cI, 40, .inl O)), (q3, .inl (cI, 40, .inl T)), (q4, .inl (cI, 40, .inl Z)), (g0, .inr (1, [.ref q5, .ref q6, .ref q7, .ref q8, .int (nI n2)])), (q5, .inl (cI, 40, .inl K2)), (q6, .inl (cI, 40, .inl O2)), (q7, .inl (cI, 40, .inl T2)), (q8, .inl (cI, 40, .inl Z2))] sz))) 0 0 (va_A [(h0, .inr (1, [.ref q1, .ref q2, .ref q3, .ref q4, .int (nI n2)])), (q1, .inl (cI, 40, .inl K)), (q2, .inl (cI, 40, .inl O)), (q3, .inl (cI, 40, .inl T)), (q4, .inl (cI, 40, .inl Z)), (g0, .inr (1, [.ref q5, .ref q6, .ref q7, .ref q8, .int (nI n2)])), (q5, .inl (cI, 40, .inl K2)), (q6, .inl (cI, 40, .inl O2)), (q7, .inl (cI, 40, .inl T2)), (q8, .inl (cI, 40, .inl Z2))] sz) := by
  refine bc_met (fun A => va_Qv (fun (u : bc_F × bc_F × bc_F × bc_F) => ∀ j, j < n2 → u.1 j = K2 j ∧ u.2.1 j = bc_p1 (K2 j) (O2 j) ∧ u.2.2.1 j = bc_p2 (K2 j) (T2 j) ∧ u.2.2.2 j = bc_p3 (K2 j) (Z2 j)) (fun (u : bc_F × bc_F × bc_F × bc_F) t => bc_B (dC, dI) classes [(cI, .int), (cZ, .boolean)] A [(h0, .inr (1, [.ref q1, .ref q2, .ref q3, .ref q4, .int (nI n2)])), (q1, .inl (cI, 40, .inl u.1)), (q2, .inl (cI, 40, .inl u.2.1)), (q3, .inl (cI, 40, .inl u.2.2.1)), (q4, .inl (cI, 40, .inl u.2.2.2)), (g0, .inr (1, [.ref q5, .ref q6, .ref q7, .ref q8, .int (nI n2)])), (q5, .inl (cI, 40, .inl K2)), (q6, .inl (cI, 40, .inl O2)), (q7, .inl (cI, 40, .inl T2)), (q8, .inl (cI, 40, .inl Z2))] t) A) (by decide) (Nat.le_of_ble_eq_true rfl) ?_
  intro p e s m args below meth c A ls F hr hlocks hin hA hP hD hl hS
  have hx := F.1
  have hb := F.2.1
  have hml := F.2.2.1
  have hown : s.vm.findClass "BranchConstants$Code" = some m.cls := F.2.2.2.1
  have htw := F.2.2.2.2.1
  have hN := F.2.2.2.2.2.1
  have hK := F.2.2.2.2.2.2
  have hl : lv_has ls 3 [(0, .ref h0), (1, .ref g0)] := hl
  refine lv_aload_n hx hb de_C_putAllOf_0 rfl (lv_at hl 0 rfl) ?_
  refine lv_aload_n hx hb de_C_putAllOf_1 rfl (lv_at hl 1 rfl) ?_
  refine va_get (D := (dC, dI)) (ci := 1) (v := .int (nI n2)) (C := rc_C) (T := fc_C) (N := 5) hx hb htw wi_C hown hK hP 5 rfl rfl 4 (by decide) (htw _ wm_32) (fun _ h9 => h9) rfl de_C_putAllOf_2 ?_
  refine va_put (D := (dC, dI)) (ci := 1) (v := .int (nI n2)) (ty := .int) (C := rc_C) (T := fc_C) (N := 5) hx hb htw wi_C tc_C tc_C_ok nc_C hown hK hP hD hS 0 rfl rfl 4 (by decide) (htw _ wm_32) (fun _ h9 => h9) rfl (by decide +kernel) rfl rfl (Nat.le_of_ble_eq_true rfl) de_C_putAllOf_5 (fun H locs hP hD hS => ?_)
  have hP : va_P (dC, dI) classes [(h0, .inr (1, [.ref q1, .ref q2, .ref q3, .ref q4, .int (nI n2)])), (q1, .inl (cI, 40, .inl K)), (q2, .inl (cI, 40, .inl O)), (q3, .inl (cI, 40, .inl T)), (q4, .inl (cI, 40, .inl Z)), (g0, .inr (1, [.ref q5, .ref q6, .ref q7, .ref q8, .int (nI n2)])), (q5, .inl (cI, 40, .inl K2)), (q6, .inl (cI, 40, .inl O2)), (q7, .inl (cI, 40, .inl T2)), (q8, .inl (cI, 40, .inl Z2))] H := hP
  have hD : va_D A [(h0, .inr (1, [.ref q1, .ref q2, .ref q3, .ref q4, .int (nI n2)])), (q1, .inl (cI, 40, .inl K)), (q2, .inl (cI, 40, .inl O)), (q3, .inl (cI, 40, .inl T)), (q4, .inl (cI, 40, .inl Z)), (g0, .inr (1, [.ref q5, .ref q6, .ref q7, .ref q8, .int (nI n2)])), (q5, .inl (cI, 40, .inl K2)), (q6, .inl (cI, 40, .inl O2)), (q7, .inl (cI, 40, .inl T2)), (q8, .inl (cI, 40, .inl Z2))] := hD
  refine lv_iconst (v := 0) hx hb de_C_putAllOf_8 (by decide) ?_
  refine bc_ti (y := nI 0) nI_0.symm ?_
  refine lv_istore_n (lv' := [(2, .int (nI 0)), (0, .ref h0), (1, .ref g0)]) hx hb de_C_putAllOf_9 rfl hl (by decide) rfl (fun ls hl => ?_)
  refine bc_loop (fun k_10 H locs ls => ∃ (i : Nat) (K1 : bc_F) (O1 : bc_F) (T1 : bc_F) (Z1 : bc_F), lv_has ls 3 [(2, .int (nI i)), (0, .ref h0), (1, .ref g0)] ∧ va_P (dC, dI) classes [(h0, .inr (1, [.ref q1, .ref q2, .ref q3, .ref q4, .int (nI n2)])), (q1, .inl (cI, 40, .inl K1)), (q2, .inl (cI, 40, .inl O1)), (q3, .inl (cI, 40, .inl T1)), (q4, .inl (cI, 40, .inl Z1)), (g0, .inr (1, [.ref q5, .ref q6, .ref q7, .ref q8, .int (nI n2)])), (q5, .inl (cI, 40, .inl K2)), (q6, .inl (cI, 40, .inl O2)), (q7, .inl (cI, 40, .inl T2)), (q8, .inl (cI, 40, .inl Z2))] H ∧ va_D A [(h0, .inr (1, [.ref q1, .ref q2, .ref q3, .ref q4, .int (nI n2)])), (q1, .inl (cI, 40, .inl K1)), (q2, .inl (cI, 40, .inl O1)), (q3, .inl (cI, 40, .inl T1)), (q4, .inl (cI, 40, .inl Z1)), (g0, .inr (1, [.ref q5, .ref q6, .ref q7, .ref q8, .int (nI n2)])), (q5, .inl (cI, 40, .inl K2)), (q6, .inl (cI, 40, .inl O2)), (q7, .inl (cI, 40, .inl T2)), (q8, .inl (cI, 40, .inl Z2))] ∧ va_S A s.heap H locs ∧ k_10 = n2 - i ∧ (i ≤ n2) ∧ (∀ j, j < i → K1 j = K2 j ∧ O1 j = bc_p1 (K2 j) (O2 j) ∧ T1 j = bc_p2 (K2 j) (T2 j) ∧ Z1 j = bc_p3 (K2 j) (Z2 j))) ?_ ?_
  · rintro k_10 H locs ls ⟨i, K1, O1, T1, Z1, hl, hP, hD, hS, hk_10, hi, hJ⟩ ih_10
    refine lv_iload_n hx hb de_C_putAllOf_10 rfl (lv_at hl 0 rfl) ?_
    refine lv_aload_n hx hb de_C_putAllOf_11 rfl (lv_at hl 1 rfl) ?_
    refine va_get (D := (dC, dI)) (ci := 1) (v := .int (nI n2)) (C := rc_C) (T := fc_C) (N := 5) hx hb htw wi_C hown hK hP 0 rfl rfl 4 (by decide) (htw _ wm_32) (fun _ h9 => h9) rfl de_C_putAllOf_12 ?_
    refine lv_icmp_ge (tgt := 53) hx hb de_C_putAllOf_15 (by decide) (fun hc_15 => ?_) (fun hc_15 => ?_)
    · have heq : i = n2 := by have := bc_ge (by omega) (by omega) hc_15; omega
      subst heq
      exact bc_vret F hr hlocks ((K1, O1, T1, Z1)) hJ hP hD hS de_C_putAllOf_53
    · have hlt : i < n2 := bc_lt (by omega) (by omega) hc_15
      refine lv_aload_n hx hb de_C_putAllOf_18 rfl (lv_at hl 1 rfl) ?_
      refine lv_iload_n hx hb de_C_putAllOf_19 rfl (lv_at hl 0 rfl) ?_
      refine lv_aload_n hx hb de_C_putAllOf_20 rfl (lv_at hl 2 rfl) ?_
      refine va_get (D := (dC, dI)) (ci := 1) (v := .ref q5) (C := rc_C) (T := fc_C) (N := 5) hx hb htw wi_C hown hK hP 5 rfl rfl 0 (by decide) (htw _ wm_28) (fun _ h9 => h9) rfl de_C_putAllOf_21 ?_
      refine lv_iload_n hx hb de_C_putAllOf_24 rfl (lv_at hl 0 rfl) ?_
      refine bc_ild (j := i) hx hb hK hP 6 0 rfl rfl (by omega) (by decide) de_C_putAllOf_25 ?_
      refine lv_aload_n hx hb de_C_putAllOf_26 rfl (lv_at hl 2 rfl) ?_
      refine va_get (D := (dC, dI)) (ci := 1) (v := .ref q6) (C := rc_C) (T := fc_C) (N := 5) hx hb htw wi_C hown hK hP 5 rfl rfl 1 (by decide) (htw _ wm_29) (fun _ h9 => h9) rfl de_C_putAllOf_27 ?_
      refine lv_iload_n hx hb de_C_putAllOf_30 rfl (lv_at hl 0 rfl) ?_
      refine bc_ild (j := i) hx hb hK hP 7 0 rfl rfl (by omega) (by decide) de_C_putAllOf_31 ?_
      refine lv_aload_n hx hb de_C_putAllOf_32 rfl (lv_at hl 2 rfl) ?_
      refine va_get (D := (dC, dI)) (ci := 1) (v := .ref q7) (C := rc_C) (T := fc_C) (N := 5) hx hb htw wi_C hown hK hP 5 rfl rfl 2 (by decide) (htw _ wm_30) (fun _ h9 => h9) rfl de_C_putAllOf_33 ?_
      refine lv_iload_n hx hb de_C_putAllOf_36 rfl (lv_at hl 0 rfl) ?_
      refine bc_ild (j := i) hx hb hK hP 8 0 rfl rfl (by omega) (by decide) de_C_putAllOf_37 ?_
      refine lv_aload_n hx hb de_C_putAllOf_38 rfl (lv_at hl 2 rfl) ?_
      refine va_get (D := (dC, dI)) (ci := 1) (v := .ref q8) (C := rc_C) (T := fc_C) (N := 5) hx hb htw wi_C hown hK hP 5 rfl rfl 3 (by decide) (htw _ wm_31) (fun _ h9 => h9) rfl de_C_putAllOf_39 ?_
      refine lv_iload_n hx hb de_C_putAllOf_42 rfl (lv_at hl 0 rfl) ?_
      refine bc_ild (j := i) hx hb hK hP 9 0 rfl rfl (by omega) (by decide) de_C_putAllOf_43 ?_
      refine bc_call_v_v (As := [.int (nI i), .int (K2 i), .int (O2 i), .int (T2 i), .int (Z2 i)]) (rest := []) (wr := [(g0, .inr (1, [.ref q5, .ref q6, .ref q7, .ref q8, .int (nI n2)])), (q5, .inl (cI, 40, .inl K2)), (q6, .inl (cI, 40, .inl O2)), (q7, .inl (cI, 40, .inl T2)), (q8, .inl (cI, 40, .inl Z2))]) F (co_C_put (by omega)) wm_255 wm_2 wm_317 wm_254 wm_608 0 rfl rfl pd_C_put rfl rfl ⟨Nat.le_of_ble_eq_true rfl, Nat.le_of_ble_eq_true rfl⟩ hP hD hS hA [0, 1, 2, 3, 4] [5, 6, 7, 8, 9] rfl rfl rfl rfl (by decide) rfl hl.1 rfl (Nat.le_of_ble_eq_true rfl) de_C_putAllOf_44 ⟨Nat.le_of_ble_eq_true rfl, Nat.le_of_ble_eq_true rfl⟩ (fun u H locs hw_44 hP hD hS => ?_)
      subst hw_44
      have hP : va_P (dC, dI) classes [(h0, .inr (1, [.ref q1, .ref q2, .ref q3, .ref q4, .int (nI n2)])), (q1, .inl (cI, 40, .inl (upd K1 i (K2 i)))), (q2, .inl (cI, 40, .inl (upd O1 i (bc_p1 (K2 i) (O2 i))))), (q3, .inl (cI, 40, .inl (upd T1 i (bc_p2 (K2 i) (T2 i))))), (q4, .inl (cI, 40, .inl (upd Z1 i (bc_p3 (K2 i) (Z2 i))))), (g0, .inr (1, [.ref q5, .ref q6, .ref q7, .ref q8, .int (nI n2)])), (q5, .inl (cI, 40, .inl K2)), (q6, .inl (cI, 40, .inl O2)), (q7, .inl (cI, 40, .inl T2)), (q8, .inl (cI, 40, .inl Z2))] H := hP.sub [5, 6, 7, 8, 9, 0, 1, 2, 3, 4] rfl
      have hD : va_D A [(h0, .inr (1, [.ref q1, .ref q2, .ref q3, .ref q4, .int (nI n2)])), (q1, .inl (cI, 40, .inl (upd K1 i (K2 i)))), (q2, .inl (cI, 40, .inl (upd O1 i (bc_p1 (K2 i) (O2 i))))), (q3, .inl (cI, 40, .inl (upd T1 i (bc_p2 (K2 i) (T2 i))))), (q4, .inl (cI, 40, .inl (upd Z1 i (bc_p3 (K2 i) (Z2 i))))), (g0, .inr (1, [.ref q5, .ref q6, .ref q7, .ref q8, .int (nI n2)])), (q5, .inl (cI, 40, .inl K2)), (q6, .inl (cI, 40, .inl O2)), (q7, .inl (cI, 40, .inl T2)), (q8, .inl (cI, 40, .inl Z2))] := hD.sub [5, 6, 7, 8, 9, 0, 1, 2, 3, 4] (by decide) rfl
      refine lv_iinc (k := 0) (v := nI (i + 1)) (lv' := [(2, .int (nI (i + 1))), (0, .ref h0), (1, .ref g0)]) hx hb de_C_putAllOf_47 hl rfl (bc_inc _) (by decide) rfl (fun ls hl => ?_)
      refine lv_goto (tgt := 10) hx hb de_C_putAllOf_50 (by decide) ?_
      exact ih_10 _ _ _ _ (by omega) ⟨(i + 1), upd K1 i (K2 i), upd O1 i (bc_p1 (K2 i) (O2 i)), upd T1 i (bc_p2 (K2 i) (T2 i)), upd Z1 i (bc_p3 (K2 i) (Z2 i)), lv_sub hl [0, 1, 2] rfl, hP, hD, hS, rfl, (by omega), bc_all4 hJ⟩
  · exact ⟨_, 0, K, O, T, Z, lv_sub hl [0, 1, 2] rfl, hP, hD, hS, rfl, Nat.zero_le _, fun j hj => absurd hj (Nat.not_lt_zero j)⟩

theorem bc_all1 {i : Nat} {f : bc_F} {x : Int32} (h : ∀ j, j < i → f j = x) : ∀ j, j < i + 1 → upd f i x j = x := by
  intro j hj
  by_cases c : j = i
  · subst c; rw [pk_us]
  · rw [pk_un c]; exact h j (by omega)
theorem de_J_fill_0 : decode by_J_fill 0 = .ok (.iconst 0, 1) := by decide +kernel
theorem de_J_fill_1 : decode by_J_fill 1 = .ok (.istore_n 2, 1) := by decide +kernel
theorem de_J_fill_2 : decode by_J_fill 2 = .ok (.aload_n 0, 1) := by decide +kernel
theorem de_J_fill_3 : decode by_J_fill 3 = .ok (.arraylength, 1) := by decide +kernel
theorem de_J_fill_4 : decode by_J_fill 4 = .ok (.istore_n 3, 1) := by decide +kernel
theorem de_J_fill_5 : decode by_J_fill 5 = .ok (.iload_n 2, 1) := by decide +kernel
theorem de_J_fill_6 : decode by_J_fill 6 = .ok (.iload_n 3, 1) := by decide +kernel
theorem de_J_fill_7 : decode by_J_fill 7 = .ok (.if_icmp .ge 13, 3) := by decide +kernel
theorem de_J_fill_10 : decode by_J_fill 10 = .ok (.aload_n 0, 1) := by decide +kernel
theorem de_J_fill_11 : decode by_J_fill 11 = .ok (.iload_n 2, 1) := by decide +kernel
theorem de_J_fill_12 : decode by_J_fill 12 = .ok (.iload_n 1, 1) := by decide +kernel
theorem de_J_fill_13 : decode by_J_fill 13 = .ok (.iastore, 1) := by decide +kernel
theorem de_J_fill_14 : decode by_J_fill 14 = .ok (.iinc 2 1, 3) := by decide +kernel
theorem de_J_fill_17 : decode by_J_fill 17 = .ok (.goto (-12), 3) := by decide +kernel
theorem de_J_fill_20 : decode by_J_fill 20 = .ok (.return_, 1) := by decide +kernel
set_option maxHeartbeats 4000000 in
set_option maxRecDepth 100000 in
/-- Arrays.fill -/
theorem co_J_fill {l : Launch} {dC : Nat → ClassId} {dI : Nat → Nat → Nat} {cI cZ : ClassId} {sz : Nat} {q1 n : Nat} {f : bc_F} {x : Int32} (hn : n < 2 ^ 31) : Met l yn_J_fill (Cond.code yn_J_fill by_J_fill 4 none :: wd_all) ({ frames := 0, cells := 0, slots := 0, locals := 0 } : Room) (bc_Pre (dC, dI) classes [(cI, .int), (cZ, .boolean)] [.ref q1, .int x] [(q1, .inl (cI, n, .inl f))] sz) (va_Qv (fun (u : bc_F) => ∀ j, j < n → u j = x) (fun (u : bc_F) t => bc_B (dC, dI) classes [(cI, .int), (cZ, .boolean)] (va_A [(q1, .inl (cI, n, .inl f))] sz) [(q1, .inl (cI, n, .inl u))] t) ((va_A [(q1, .inl (cI, n, .inl f))] sz))) 0 0 (va_A [(q1, .inl (cI, n, .inl f))] sz) := by
  refine bc_met (fun A => va_Qv (fun (u : bc_F) => ∀ j, j < n → u j = x) (fun (u : bc_F) t => bc_B (dC, dI) classes [(cI, .int), (cZ, .boolean)] A [(q1, .inl (cI, n, .inl u))] t) A) (by decide) (Nat.le_of_ble_eq_true rfl) ?_
  intro p e s m args below meth c A ls F hr hlocks hin hA hP hD hl hS
  have hx := F.1
  have hb := F.2.1
  have hml := F.2.2.1
  have hown : s.vm.findClass "java/util/Arrays" = some m.cls := F.2.2.2.1
  have htw := F.2.2.2.2.1
  have hN := F.2.2.2.2.2.1
  have hK := F.2.2.2.2.2.2
  have hl : lv_has ls 4 [(0, .ref q1), (1, .int x)] := hl
  refine lv_iconst (v := 0) hx hb de_J_fill_0 (by decide) ?_
  refine bc_ti (y := nI 0) nI_0.symm ?_
  refine lv_istore_n (lv' := [(2, .int (nI 0)), (0, .ref q1), (1, .int x)]) hx hb de_J_fill_1 rfl hl (by decide) rfl (fun ls hl => ?_)
  refine lv_aload_n hx hb de_J_fill_2 rfl (lv_at hl 1 rfl) ?_
  refine va_alen (v := nI n) hx hb hK hP 0 0 rfl rfl rfl de_J_fill_3 ?_
  refine lv_istore_n (lv' := [(3, .int (nI n)), (2, .int (nI 0)), (0, .ref q1), (1, .int x)]) hx hb de_J_fill_4 rfl hl (by decide) rfl (fun ls hl => ?_)
  refine bc_loop (fun k_5 H locs ls => ∃ (i : Nat) (f1 : bc_F), lv_has ls 4 [(3, .int (nI n)), (2, .int (nI i)), (0, .ref q1), (1, .int x)] ∧ va_P (dC, dI) classes [(q1, .inl (cI, n, .inl f1))] H ∧ va_D A [(q1, .inl (cI, n, .inl f1))] ∧ va_S A s.heap H locs ∧ k_5 = n - i ∧ (i ≤ n) ∧ (∀ j, j < i → f1 j = x)) ?_ ?_
  · rintro k_5 H locs ls ⟨i, f1, hl, hP, hD, hS, hk_5, hi, hJ⟩ ih_5
    refine lv_iload_n hx hb de_J_fill_5 rfl (lv_at hl 1 rfl) ?_
    refine lv_iload_n hx hb de_J_fill_6 rfl (lv_at hl 0 rfl) ?_
    refine lv_icmp_ge (tgt := 20) hx hb de_J_fill_7 (by decide) (fun hc_7 => ?_) (fun hc_7 => ?_)
    · have heq : i = n := by have := bc_ge (by omega) (by omega) hc_7; omega
      subst heq
      exact bc_vret F hr hlocks f1 hJ hP hD hS de_J_fill_20
    · have hlt : i < n := bc_lt (by omega) (by omega) hc_7
      refine lv_aload_n hx hb de_J_fill_10 rfl (lv_at hl 2 rfl) ?_
      refine lv_iload_n hx hb de_J_fill_11 rfl (lv_at hl 1 rfl) ?_
      refine lv_iload_n hx hb de_J_fill_12 rfl (lv_at hl 3 rfl) ?_
      refine bc_ist (j := i) hx hb hK hP hD hS 0 0 rfl rfl hlt hn de_J_fill_13 (fun H locs hP hD hS => ?_)
      have hP : va_P (dC, dI) classes [(q1, .inl (cI, n, .inl (upd f1 i x)))] H := hP
      have hD : va_D A [(q1, .inl (cI, n, .inl (upd f1 i x)))] := hD
      refine lv_iinc (k := 1) (v := nI (i + 1)) (lv' := [(2, .int (nI (i + 1))), (3, .int (nI n)), (0, .ref q1), (1, .int x)]) hx hb de_J_fill_14 hl rfl (bc_inc _) (by decide) rfl (fun ls hl => ?_)
      refine lv_goto (tgt := 5) hx hb de_J_fill_17 (by decide) ?_
      exact ih_5 _ _ _ _ (by omega) ⟨(i + 1), upd f1 i x, lv_sub hl [1, 0, 2, 3] rfl, hP, hD, hS, rfl, (by omega), bc_all1 hJ⟩
  · exact ⟨_, 0, f, lv_sub hl [0, 1, 2, 3] rfl, hP, hD, hS, rfl, Nat.zero_le _, fun j hj => absurd hj (Nat.not_lt_zero j)⟩
end
section
/-! decode rows, by program -/
theorem de_A_init_0 : decode by_A_init 0 = .ok (.aload_n 0, 1) := by decide +kernel
theorem de_A_init_1 : decode by_A_init 1 = .ok (.invokespecial 3, 3) := by decide +kernel
theorem de_A_init_4 : decode by_A_init 4 = .ok (.aload_n 0, 1) := by decide +kernel
theorem de_A_init_5 : decode by_A_init 5 = .ok (.sipush 240, 3) := by decide +kernel
theorem de_A_init_8 : decode by_A_init 8 = .ok (.newarray .int, 2) := by decide +kernel
theorem de_A_init_10 : decode by_A_init 10 = .ok (.putfield 9, 3) := by decide +kernel
theorem de_A_init_13 : decode by_A_init 13 = .ok (.aload_n 0, 1) := by decide +kernel
theorem de_A_init_14 : decode by_A_init 14 = .ok (.sipush 240, 3) := by decide +kernel
theorem de_A_init_17 : decode by_A_init 17 = .ok (.newarray .int, 2) := by decide +kernel
theorem de_A_init_19 : decode by_A_init 19 = .ok (.putfield 15, 3) := by decide +kernel
theorem de_A_init_22 : decode by_A_init 22 = .ok (.aload_n 0, 1) := by decide +kernel
theorem de_A_init_23 : decode by_A_init 23 = .ok (.bipush 40, 2) := by decide +kernel
theorem de_A_init_25 : decode by_A_init 25 = .ok (.newarray .boolean, 2) := by decide +kernel
theorem de_A_init_27 : decode by_A_init 27 = .ok (.putfield 18, 3) := by decide +kernel
theorem de_A_init_30 : decode by_A_init 30 = .ok (.aload_n 0, 1) := by decide +kernel
theorem de_A_init_31 : decode by_A_init 31 = .ok (.bipush 6, 2) := by decide +kernel
theorem de_A_init_33 : decode by_A_init 33 = .ok (.newarray .int, 2) := by decide +kernel
theorem de_A_init_35 : decode by_A_init 35 = .ok (.putfield 22, 3) := by decide +kernel
theorem de_A_init_38 : decode by_A_init 38 = .ok (.aload_n 0, 1) := by decide +kernel
theorem de_A_init_39 : decode by_A_init 39 = .ok (.bipush 6, 2) := by decide +kernel
theorem de_A_init_41 : decode by_A_init 41 = .ok (.newarray .int, 2) := by decide +kernel
theorem de_A_init_43 : decode by_A_init 43 = .ok (.putfield 25, 3) := by decide +kernel
theorem de_A_init_46 : decode by_A_init 46 = .ok (.return_, 1) := by decide +kernel
theorem de_A_perform_0 : decode by_A_perform 0 = .ok (.aload_n 0, 1) := by decide +kernel
theorem de_A_perform_1 : decode by_A_perform 1 = .ok (.getfield 9, 3) := by decide +kernel
theorem de_A_perform_4 : decode by_A_perform 4 = .ok (.iconst 0, 1) := by decide +kernel
theorem de_A_perform_5 : decode by_A_perform 5 = .ok (.invokestatic 28, 3) := by decide +kernel
theorem de_A_perform_8 : decode by_A_perform 8 = .ok (.aload_n 0, 1) := by decide +kernel
theorem de_A_perform_9 : decode by_A_perform 9 = .ok (.getfield 15, 3) := by decide +kernel
theorem de_A_perform_12 : decode by_A_perform 12 = .ok (.iconst 0, 1) := by decide +kernel
theorem de_A_perform_13 : decode by_A_perform 13 = .ok (.invokestatic 28, 3) := by decide +kernel
theorem de_A_perform_16 : decode by_A_perform 16 = .ok (.aload_n 0, 1) := by decide +kernel
theorem de_A_perform_17 : decode by_A_perform 17 = .ok (.getfield 22, 3) := by decide +kernel
theorem de_A_perform_20 : decode by_A_perform 20 = .ok (.iconst 1, 1) := by decide +kernel
theorem de_A_perform_21 : decode by_A_perform 21 = .ok (.invokestatic 28, 3) := by decide +kernel
theorem de_A_perform_24 : decode by_A_perform 24 = .ok (.aload_n 0, 1) := by decide +kernel
theorem de_A_perform_25 : decode by_A_perform 25 = .ok (.getfield 25, 3) := by decide +kernel
theorem de_A_perform_28 : decode by_A_perform 28 = .ok (.iconst 0, 1) := by decide +kernel
theorem de_A_perform_29 : decode by_A_perform 29 = .ok (.invokestatic 28, 3) := by decide +kernel
theorem de_A_perform_32 : decode by_A_perform 32 = .ok (.aload_n 0, 1) := by decide +kernel
theorem de_A_perform_33 : decode by_A_perform 33 = .ok (.aload_n 1, 1) := by decide +kernel
theorem de_A_perform_34 : decode by_A_perform 34 = .ok (.iconst 0, 1) := by decide +kernel
theorem de_A_perform_35 : decode by_A_perform 35 = .ok (.invokevirtual 34, 3) := by decide +kernel
theorem de_A_perform_38 : decode by_A_perform 38 = .ok (.iconst 1, 1) := by decide +kernel
theorem de_A_perform_39 : decode by_A_perform 39 = .ok (.istore_n 2, 1) := by decide +kernel
theorem de_A_perform_40 : decode by_A_perform 40 = .ok (.iconst 0, 1) := by decide +kernel
theorem de_A_perform_41 : decode by_A_perform 41 = .ok (.istore_n 3, 1) := by decide +kernel
theorem de_A_perform_42 : decode by_A_perform 42 = .ok (.iload_n 2, 1) := by decide +kernel
theorem de_A_perform_43 : decode by_A_perform 43 = .ok (.ifCond .eq 63, 3) := by decide +kernel
theorem de_A_perform_46 : decode by_A_perform 46 = .ok (.iload_n 3, 1) := by decide +kernel
theorem de_A_perform_47 : decode by_A_perform 47 = .ok (.sipush 281, 3) := by decide +kernel
theorem de_A_perform_50 : decode by_A_perform 50 = .ok (.if_icmp .ge 56, 3) := by decide +kernel
theorem de_A_perform_53 : decode by_A_perform 53 = .ok (.iconst 0, 1) := by decide +kernel
theorem de_A_perform_54 : decode by_A_perform 54 = .ok (.istore_n 2, 1) := by decide +kernel
theorem de_A_perform_55 : decode by_A_perform 55 = .ok (.iconst 0, 1) := by decide +kernel
theorem de_A_perform_56 : decode by_A_perform 56 = .ok (.istore 4, 2) := by decide +kernel
theorem de_A_perform_58 : decode by_A_perform 58 = .ok (.iload 4, 2) := by decide +kernel
theorem de_A_perform_60 : decode by_A_perform 60 = .ok (.aload_n 1, 1) := by decide +kernel
theorem de_A_perform_61 : decode by_A_perform 61 = .ok (.getfield 38, 3) := by decide +kernel
theorem de_A_perform_64 : decode by_A_perform 64 = .ok (.if_icmp .ge 36, 3) := by decide +kernel
theorem de_A_perform_67 : decode by_A_perform 67 = .ok (.aload_n 0, 1) := by decide +kernel
theorem de_A_perform_68 : decode by_A_perform 68 = .ok (.getfield 18, 3) := by decide +kernel
theorem de_A_perform_71 : decode by_A_perform 71 = .ok (.iload 4, 2) := by decide +kernel
theorem de_A_perform_73 : decode by_A_perform 73 = .ok (.baload, 1) := by decide +kernel
theorem de_A_perform_74 : decode by_A_perform 74 = .ok (.ifCond .eq 20, 3) := by decide +kernel
theorem de_A_perform_77 : decode by_A_perform 77 = .ok (.aload_n 0, 1) := by decide +kernel
theorem de_A_perform_78 : decode by_A_perform 78 = .ok (.getfield 18, 3) := by decide +kernel
theorem de_A_perform_81 : decode by_A_perform 81 = .ok (.iload 4, 2) := by decide +kernel
theorem de_A_perform_83 : decode by_A_perform 83 = .ok (.iconst 0, 1) := by decide +kernel
theorem de_A_perform_84 : decode by_A_perform 84 = .ok (.bastore, 1) := by decide +kernel
theorem de_A_perform_85 : decode by_A_perform 85 = .ok (.iconst 1, 1) := by decide +kernel
theorem de_A_perform_86 : decode by_A_perform 86 = .ok (.istore_n 2, 1) := by decide +kernel
theorem de_A_perform_87 : decode by_A_perform 87 = .ok (.aload_n 0, 1) := by decide +kernel
theorem de_A_perform_88 : decode by_A_perform 88 = .ok (.aload_n 1, 1) := by decide +kernel
theorem de_A_perform_89 : decode by_A_perform 89 = .ok (.iload 4, 2) := by decide +kernel
theorem de_A_perform_91 : decode by_A_perform 91 = .ok (.invokevirtual 44, 3) := by decide +kernel
theorem de_A_perform_94 : decode by_A_perform 94 = .ok (.iinc 4 1, 3) := by decide +kernel
theorem de_A_perform_97 : decode by_A_perform 97 = .ok (.goto (-39), 3) := by decide +kernel
theorem de_A_perform_100 : decode by_A_perform 100 = .ok (.iinc 3 1, 3) := by decide +kernel
theorem de_A_perform_103 : decode by_A_perform 103 = .ok (.goto (-61), 3) := by decide +kernel
theorem de_A_perform_106 : decode by_A_perform 106 = .ok (.return_, 1) := by decide +kernel
theorem de_A_goOnFrom_0 : decode by_A_goOnFrom 0 = .ok (.aload_n 0, 1) := by decide +kernel
theorem de_A_goOnFrom_1 : decode by_A_goOnFrom 1 = .ok (.getfield 9, 3) := by decide +kernel
theorem de_A_goOnFrom_4 : decode by_A_goOnFrom 4 = .ok (.iload_n 2, 1) := by decide +kernel
theorem de_A_goOnFrom_5 : decode by_A_goOnFrom 5 = .ok (.iconst 0, 1) := by decide +kernel
theorem de_A_goOnFrom_6 : decode by_A_goOnFrom 6 = .ok (.invokestatic 47, 3) := by decide +kernel
theorem de_A_goOnFrom_9 : decode by_A_goOnFrom 9 = .ok (.aload_n 0, 1) := by decide +kernel
theorem de_A_goOnFrom_10 : decode by_A_goOnFrom 10 = .ok (.getfield 22, 3) := by decide +kernel
theorem de_A_goOnFrom_13 : decode by_A_goOnFrom 13 = .ok (.iconst 0, 1) := by decide +kernel
theorem de_A_goOnFrom_14 : decode by_A_goOnFrom 14 = .ok (.bipush 6, 2) := by decide +kernel
theorem de_A_goOnFrom_16 : decode by_A_goOnFrom 16 = .ok (.invokestatic 51, 3) := by decide +kernel
theorem de_A_goOnFrom_19 : decode by_A_goOnFrom 19 = .ok (.aload_n 0, 1) := by decide +kernel
theorem de_A_goOnFrom_20 : decode by_A_goOnFrom 20 = .ok (.getfield 15, 3) := by decide +kernel
theorem de_A_goOnFrom_23 : decode by_A_goOnFrom 23 = .ok (.iload_n 2, 1) := by decide +kernel
theorem de_A_goOnFrom_24 : decode by_A_goOnFrom 24 = .ok (.iconst 0, 1) := by decide +kernel
theorem de_A_goOnFrom_25 : decode by_A_goOnFrom 25 = .ok (.invokestatic 47, 3) := by decide +kernel
theorem de_A_goOnFrom_28 : decode by_A_goOnFrom 28 = .ok (.aload_n 0, 1) := by decide +kernel
theorem de_A_goOnFrom_29 : decode by_A_goOnFrom 29 = .ok (.getfield 25, 3) := by decide +kernel
theorem de_A_goOnFrom_32 : decode by_A_goOnFrom 32 = .ok (.iconst 0, 1) := by decide +kernel
theorem de_A_goOnFrom_33 : decode by_A_goOnFrom 33 = .ok (.bipush 6, 2) := by decide +kernel
theorem de_A_goOnFrom_35 : decode by_A_goOnFrom 35 = .ok (.invokestatic 51, 3) := by decide +kernel
theorem de_A_goOnFrom_38 : decode by_A_goOnFrom 38 = .ok (.aload_n 1, 1) := by decide +kernel
theorem de_A_goOnFrom_39 : decode by_A_goOnFrom 39 = .ok (.iload_n 2, 1) := by decide +kernel
theorem de_A_goOnFrom_40 : decode by_A_goOnFrom 40 = .ok (.invokevirtual 57, 3) := by decide +kernel
theorem de_A_goOnFrom_43 : decode by_A_goOnFrom 43 = .ok (.ifCond .eq 50, 3) := by decide +kernel
theorem de_A_goOnFrom_46 : decode by_A_goOnFrom 46 = .ok (.aload_n 0, 1) := by decide +kernel
theorem de_A_goOnFrom_47 : decode by_A_goOnFrom 47 = .ok (.aload_n 1, 1) := by decide +kernel
theorem de_A_goOnFrom_48 : decode by_A_goOnFrom 48 = .ok (.iload_n 2, 1) := by decide +kernel
theorem de_A_goOnFrom_49 : decode by_A_goOnFrom 49 = .ok (.invokevirtual 61, 3) := by decide +kernel
theorem de_A_goOnFrom_52 : decode by_A_goOnFrom 52 = .ok (.ifCond .eq 20, 3) := by decide +kernel
theorem de_A_goOnFrom_55 : decode by_A_goOnFrom 55 = .ok (.aload_n 0, 1) := by decide +kernel
theorem de_A_goOnFrom_56 : decode by_A_goOnFrom 56 = .ok (.aload_n 1, 1) := by decide +kernel
theorem de_A_goOnFrom_57 : decode by_A_goOnFrom 57 = .ok (.getfield 65, 3) := by decide +kernel
theorem de_A_goOnFrom_60 : decode by_A_goOnFrom 60 = .ok (.iload_n 2, 1) := by decide +kernel
theorem de_A_goOnFrom_61 : decode by_A_goOnFrom 61 = .ok (.iaload, 1) := by decide +kernel
theorem de_A_goOnFrom_62 : decode by_A_goOnFrom 62 = .ok (.aload_n 0, 1) := by decide +kernel
theorem de_A_goOnFrom_63 : decode by_A_goOnFrom 63 = .ok (.getfield 68, 3) := by decide +kernel
theorem de_A_goOnFrom_66 : decode by_A_goOnFrom 66 = .ok (.invokevirtual 71, 3) := by decide +kernel
theorem de_A_goOnFrom_69 : decode by_A_goOnFrom 69 = .ok (.goto 13, 3) := by decide +kernel
theorem de_A_goOnFrom_72 : decode by_A_goOnFrom 72 = .ok (.aload_n 0, 1) := by decide +kernel
theorem de_A_goOnFrom_73 : decode by_A_goOnFrom 73 = .ok (.aload_n 1, 1) := by decide +kernel
theorem de_A_goOnFrom_74 : decode by_A_goOnFrom 74 = .ok (.getfield 65, 3) := by decide +kernel
theorem de_A_goOnFrom_77 : decode by_A_goOnFrom 77 = .ok (.iload_n 2, 1) := by decide +kernel
theorem de_A_goOnFrom_78 : decode by_A_goOnFrom 78 = .ok (.iaload, 1) := by decide +kernel
theorem de_A_goOnFrom_79 : decode by_A_goOnFrom 79 = .ok (.invokevirtual 75, 3) := by decide +kernel
theorem de_A_goOnFrom_82 : decode by_A_goOnFrom 82 = .ok (.aload_n 0, 1) := by decide +kernel
theorem de_A_goOnFrom_83 : decode by_A_goOnFrom 83 = .ok (.aload_n 1, 1) := by decide +kernel
theorem de_A_goOnFrom_84 : decode by_A_goOnFrom 84 = .ok (.iload_n 2, 1) := by decide +kernel
theorem de_A_goOnFrom_85 : decode by_A_goOnFrom 85 = .ok (.iconst 1, 1) := by decide +kernel
theorem de_A_goOnFrom_86 : decode by_A_goOnFrom 86 = .ok (.iadd, 1) := by decide +kernel
theorem de_A_goOnFrom_87 : decode by_A_goOnFrom 87 = .ok (.invokevirtual 34, 3) := by decide +kernel
theorem de_A_goOnFrom_90 : decode by_A_goOnFrom 90 = .ok (.goto 43, 3) := by decide +kernel
theorem de_A_goOnFrom_93 : decode by_A_goOnFrom 93 = .ok (.aload_n 1, 1) := by decide +kernel
theorem de_A_goOnFrom_94 : decode by_A_goOnFrom 94 = .ok (.getfield 79, 3) := by decide +kernel
theorem de_A_goOnFrom_97 : decode by_A_goOnFrom 97 = .ok (.iload_n 2, 1) := by decide +kernel
theorem de_A_goOnFrom_98 : decode by_A_goOnFrom 98 = .ok (.iaload, 1) := by decide +kernel
theorem de_A_goOnFrom_99 : decode by_A_goOnFrom 99 = .ok (.bipush 6, 2) := by decide +kernel
theorem de_A_goOnFrom_101 : decode by_A_goOnFrom 101 = .ok (.if_icmp .ne 16, 3) := by decide +kernel
theorem de_A_goOnFrom_104 : decode by_A_goOnFrom 104 = .ok (.aload_n 0, 1) := by decide +kernel
theorem de_A_goOnFrom_105 : decode by_A_goOnFrom 105 = .ok (.aload_n 1, 1) := by decide +kernel
theorem de_A_goOnFrom_106 : decode by_A_goOnFrom 106 = .ok (.aload_n 1, 1) := by decide +kernel
theorem de_A_goOnFrom_107 : decode by_A_goOnFrom 107 = .ok (.iload_n 2, 1) := by decide +kernel
theorem de_A_goOnFrom_108 : decode by_A_goOnFrom 108 = .ok (.invokevirtual 82, 3) := by decide +kernel
theorem de_A_goOnFrom_111 : decode by_A_goOnFrom 111 = .ok (.invokevirtual 34, 3) := by decide +kernel
theorem de_A_goOnFrom_114 : decode by_A_goOnFrom 114 = .ok (.goto 19, 3) := by decide +kernel
theorem de_A_goOnFrom_117 : decode by_A_goOnFrom 117 = .ok (.aload_n 1, 1) := by decide +kernel
theorem de_A_goOnFrom_118 : decode by_A_goOnFrom 118 = .ok (.getfield 79, 3) := by decide +kernel
theorem de_A_goOnFrom_121 : decode by_A_goOnFrom 121 = .ok (.iload_n 2, 1) := by decide +kernel
theorem de_A_goOnFrom_122 : decode by_A_goOnFrom 122 = .ok (.iaload, 1) := by decide +kernel
theorem de_A_goOnFrom_123 : decode by_A_goOnFrom 123 = .ok (.iconst 5, 1) := by decide +kernel
theorem de_A_goOnFrom_124 : decode by_A_goOnFrom 124 = .ok (.if_icmp .ne 9, 3) := by decide +kernel
theorem de_A_goOnFrom_127 : decode by_A_goOnFrom 127 = .ok (.aload_n 0, 1) := by decide +kernel
theorem de_A_goOnFrom_128 : decode by_A_goOnFrom 128 = .ok (.aload_n 1, 1) := by decide +kernel
theorem de_A_goOnFrom_129 : decode by_A_goOnFrom 129 = .ok (.iload_n 2, 1) := by decide +kernel
theorem de_A_goOnFrom_130 : decode by_A_goOnFrom 130 = .ok (.invokevirtual 86, 3) := by decide +kernel
theorem de_A_goOnFrom_133 : decode by_A_goOnFrom 133 = .ok (.return_, 1) := by decide +kernel
theorem de_A_goOnFromZero_0 : decode by_A_goOnFromZero 0 = .ok (.aload_n 0, 1) := by decide +kernel
theorem de_A_goOnFromZero_1 : decode by_A_goOnFromZero 1 = .ok (.aload_n 1, 1) := by decide +kernel
theorem de_A_goOnFromZero_2 : decode by_A_goOnFromZero 2 = .ok (.iload_n 2, 1) := by decide +kernel
theorem de_A_goOnFromZero_3 : decode by_A_goOnFromZero 3 = .ok (.invokevirtual 89, 3) := by decide +kernel
theorem de_A_goOnFromZero_6 : decode by_A_goOnFromZero 6 = .ok (.ifCond .eq 17, 3) := by decide +kernel
theorem de_A_goOnFromZero_9 : decode by_A_goOnFromZero 9 = .ok (.aload_n 0, 1) := by decide +kernel
theorem de_A_goOnFromZero_10 : decode by_A_goOnFromZero 10 = .ok (.aload_n 1, 1) := by decide +kernel
theorem de_A_goOnFromZero_11 : decode by_A_goOnFromZero 11 = .ok (.aload_n 0, 1) := by decide +kernel
theorem de_A_goOnFromZero_12 : decode by_A_goOnFromZero 12 = .ok (.aload_n 1, 1) := by decide +kernel
theorem de_A_goOnFromZero_13 : decode by_A_goOnFromZero 13 = .ok (.iload_n 2, 1) := by decide +kernel
theorem de_A_goOnFromZero_14 : decode by_A_goOnFromZero 14 = .ok (.invokevirtual 92, 3) := by decide +kernel
theorem de_A_goOnFromZero_17 : decode by_A_goOnFromZero 17 = .ok (.invokevirtual 34, 3) := by decide +kernel
theorem de_A_goOnFromZero_20 : decode by_A_goOnFromZero 20 = .ok (.goto 32, 3) := by decide +kernel
theorem de_A_goOnFromZero_23 : decode by_A_goOnFromZero 23 = .ok (.aload_n 0, 1) := by decide +kernel
theorem de_A_goOnFromZero_24 : decode by_A_goOnFromZero 24 = .ok (.aload_n 1, 1) := by decide +kernel
theorem de_A_goOnFromZero_25 : decode by_A_goOnFromZero 25 = .ok (.iload_n 2, 1) := by decide +kernel
theorem de_A_goOnFromZero_26 : decode by_A_goOnFromZero 26 = .ok (.iconst 1, 1) := by decide +kernel
theorem de_A_goOnFromZero_27 : decode by_A_goOnFromZero 27 = .ok (.iadd, 1) := by decide +kernel
theorem de_A_goOnFromZero_28 : decode by_A_goOnFromZero 28 = .ok (.invokevirtual 34, 3) := by decide +kernel
theorem de_A_goOnFromZero_31 : decode by_A_goOnFromZero 31 = .ok (.aload_n 0, 1) := by decide +kernel
theorem de_A_goOnFromZero_32 : decode by_A_goOnFromZero 32 = .ok (.aload_n 1, 1) := by decide +kernel
theorem de_A_goOnFromZero_33 : decode by_A_goOnFromZero 33 = .ok (.getfield 65, 3) := by decide +kernel
theorem de_A_goOnFromZero_36 : decode by_A_goOnFromZero 36 = .ok (.iload_n 2, 1) := by decide +kernel
theorem de_A_goOnFromZero_37 : decode by_A_goOnFromZero 37 = .ok (.iaload, 1) := by decide +kernel
theorem de_A_goOnFromZero_38 : decode by_A_goOnFromZero 38 = .ok (.iconst 0, 1) := by decide +kernel
theorem de_A_goOnFromZero_39 : decode by_A_goOnFromZero 39 = .ok (.invokevirtual 71, 3) := by decide +kernel
theorem de_A_goOnFromZero_42 : decode by_A_goOnFromZero 42 = .ok (.aload_n 0, 1) := by decide +kernel
theorem de_A_goOnFromZero_43 : decode by_A_goOnFromZero 43 = .ok (.aload_n 1, 1) := by decide +kernel
theorem de_A_goOnFromZero_44 : decode by_A_goOnFromZero 44 = .ok (.aload_n 1, 1) := by decide +kernel
theorem de_A_goOnFromZero_45 : decode by_A_goOnFromZero 45 = .ok (.iload_n 2, 1) := by decide +kernel
theorem de_A_goOnFromZero_46 : decode by_A_goOnFromZero 46 = .ok (.invokevirtual 82, 3) := by decide +kernel
theorem de_A_goOnFromZero_49 : decode by_A_goOnFromZero 49 = .ok (.invokevirtual 34, 3) := by decide +kernel
theorem de_A_goOnFromZero_52 : decode by_A_goOnFromZero 52 = .ok (.return_, 1) := by decide +kernel
theorem de_A_comeTo_0 : decode by_A_comeTo 0 = .ok (.iload_n 2, 1) := by decide +kernel
theorem de_A_comeTo_1 : decode by_A_comeTo 1 = .ok (.aload_n 1, 1) := by decide +kernel
theorem de_A_comeTo_2 : decode by_A_comeTo 2 = .ok (.getfield 38, 3) := by decide +kernel
theorem de_A_comeTo_5 : decode by_A_comeTo 5 = .ok (.if_icmp .lt 4, 3) := by decide +kernel
theorem de_A_comeTo_8 : decode by_A_comeTo 8 = .ok (.return_, 1) := by decide +kernel
theorem de_A_comeTo_9 : decode by_A_comeTo 9 = .ok (.iconst 0, 1) := by decide +kernel
theorem de_A_comeTo_10 : decode by_A_comeTo 10 = .ok (.istore_n 3, 1) := by decide +kernel
theorem de_A_comeTo_11 : decode by_A_comeTo 11 = .ok (.iload_n 3, 1) := by decide +kernel
theorem de_A_comeTo_12 : decode by_A_comeTo 12 = .ok (.bipush 6, 2) := by decide +kernel
theorem de_A_comeTo_14 : decode by_A_comeTo 14 = .ok (.if_icmp .ge 111, 3) := by decide +kernel
theorem de_A_comeTo_17 : decode by_A_comeTo 17 = .ok (.iload_n 2, 1) := by decide +kernel
theorem de_A_comeTo_18 : decode by_A_comeTo 18 = .ok (.iload_n 3, 1) := by decide +kernel
theorem de_A_comeTo_19 : decode by_A_comeTo 19 = .ok (.invokestatic 47, 3) := by decide +kernel
theorem de_A_comeTo_22 : decode by_A_comeTo 22 = .ok (.istore 4, 2) := by decide +kernel
theorem de_A_comeTo_24 : decode by_A_comeTo 24 = .ok (.aload_n 0, 1) := by decide +kernel
theorem de_A_comeTo_25 : decode by_A_comeTo 25 = .ok (.getfield 9, 3) := by decide +kernel
theorem de_A_comeTo_28 : decode by_A_comeTo 28 = .ok (.iload 4, 2) := by decide +kernel
theorem de_A_comeTo_30 : decode by_A_comeTo 30 = .ok (.iaload, 1) := by decide +kernel
theorem de_A_comeTo_31 : decode by_A_comeTo 31 = .ok (.ifCond .ne 39, 3) := by decide +kernel
theorem de_A_comeTo_34 : decode by_A_comeTo 34 = .ok (.aload_n 0, 1) := by decide +kernel
theorem de_A_comeTo_35 : decode by_A_comeTo 35 = .ok (.getfield 9, 3) := by decide +kernel
theorem de_A_comeTo_38 : decode by_A_comeTo 38 = .ok (.iload 4, 2) := by decide +kernel
theorem de_A_comeTo_40 : decode by_A_comeTo 40 = .ok (.aload_n 0, 1) := by decide +kernel
theorem de_A_comeTo_41 : decode by_A_comeTo 41 = .ok (.getfield 22, 3) := by decide +kernel
theorem de_A_comeTo_44 : decode by_A_comeTo 44 = .ok (.iload_n 3, 1) := by decide +kernel
theorem de_A_comeTo_45 : decode by_A_comeTo 45 = .ok (.iaload, 1) := by decide +kernel
theorem de_A_comeTo_46 : decode by_A_comeTo 46 = .ok (.iastore, 1) := by decide +kernel
theorem de_A_comeTo_47 : decode by_A_comeTo 47 = .ok (.aload_n 0, 1) := by decide +kernel
theorem de_A_comeTo_48 : decode by_A_comeTo 48 = .ok (.getfield 15, 3) := by decide +kernel
theorem de_A_comeTo_51 : decode by_A_comeTo 51 = .ok (.iload 4, 2) := by decide +kernel
theorem de_A_comeTo_53 : decode by_A_comeTo 53 = .ok (.aload_n 0, 1) := by decide +kernel
theorem de_A_comeTo_54 : decode by_A_comeTo 54 = .ok (.getfield 25, 3) := by decide +kernel
theorem de_A_comeTo_57 : decode by_A_comeTo 57 = .ok (.iload_n 3, 1) := by decide +kernel
theorem de_A_comeTo_58 : decode by_A_comeTo 58 = .ok (.iaload, 1) := by decide +kernel
theorem de_A_comeTo_59 : decode by_A_comeTo 59 = .ok (.iastore, 1) := by decide +kernel
theorem de_A_comeTo_60 : decode by_A_comeTo 60 = .ok (.aload_n 0, 1) := by decide +kernel
theorem de_A_comeTo_61 : decode by_A_comeTo 61 = .ok (.getfield 18, 3) := by decide +kernel
theorem de_A_comeTo_64 : decode by_A_comeTo 64 = .ok (.iload_n 2, 1) := by decide +kernel
theorem de_A_comeTo_65 : decode by_A_comeTo 65 = .ok (.iconst 1, 1) := by decide +kernel
theorem de_A_comeTo_66 : decode by_A_comeTo 66 = .ok (.bastore, 1) := by decide +kernel
theorem de_A_comeTo_67 : decode by_A_comeTo 67 = .ok (.goto 52, 3) := by decide +kernel
theorem de_A_comeTo_70 : decode by_A_comeTo 70 = .ok (.aload_n 0, 1) := by decide +kernel
theorem de_A_comeTo_71 : decode by_A_comeTo 71 = .ok (.getfield 9, 3) := by decide +kernel
theorem de_A_comeTo_74 : decode by_A_comeTo 74 = .ok (.iload 4, 2) := by decide +kernel
theorem de_A_comeTo_76 : decode by_A_comeTo 76 = .ok (.iaload, 1) := by decide +kernel
theorem de_A_comeTo_77 : decode by_A_comeTo 77 = .ok (.iconst 2, 1) := by decide +kernel
theorem de_A_comeTo_78 : decode by_A_comeTo 78 = .ok (.if_icmp .ne 41, 3) := by decide +kernel
theorem de_A_comeTo_81 : decode by_A_comeTo 81 = .ok (.aload_n 0, 1) := by decide +kernel
theorem de_A_comeTo_82 : decode by_A_comeTo 82 = .ok (.iload_n 3, 1) := by decide +kernel
theorem de_A_comeTo_83 : decode by_A_comeTo 83 = .ok (.aload_n 0, 1) := by decide +kernel
theorem de_A_comeTo_84 : decode by_A_comeTo 84 = .ok (.getfield 15, 3) := by decide +kernel
theorem de_A_comeTo_87 : decode by_A_comeTo 87 = .ok (.iload 4, 2) := by decide +kernel
theorem de_A_comeTo_89 : decode by_A_comeTo 89 = .ok (.iaload, 1) := by decide +kernel
theorem de_A_comeTo_90 : decode by_A_comeTo 90 = .ok (.invokevirtual 96, 3) := by decide +kernel
theorem de_A_comeTo_93 : decode by_A_comeTo 93 = .ok (.ifCond .ne 26, 3) := by decide +kernel
theorem de_A_comeTo_96 : decode by_A_comeTo 96 = .ok (.aload_n 0, 1) := by decide +kernel
theorem de_A_comeTo_97 : decode by_A_comeTo 97 = .ok (.getfield 9, 3) := by decide +kernel
theorem de_A_comeTo_100 : decode by_A_comeTo 100 = .ok (.iload 4, 2) := by decide +kernel
theorem de_A_comeTo_102 : decode by_A_comeTo 102 = .ok (.iconst 1, 1) := by decide +kernel
theorem de_A_comeTo_103 : decode by_A_comeTo 103 = .ok (.iastore, 1) := by decide +kernel
theorem de_A_comeTo_104 : decode by_A_comeTo 104 = .ok (.aload_n 0, 1) := by decide +kernel
theorem de_A_comeTo_105 : decode by_A_comeTo 105 = .ok (.getfield 15, 3) := by decide +kernel
theorem de_A_comeTo_108 : decode by_A_comeTo 108 = .ok (.iload 4, 2) := by decide +kernel
theorem de_A_comeTo_110 : decode by_A_comeTo 110 = .ok (.iconst 0, 1) := by decide +kernel
theorem de_A_comeTo_111 : decode by_A_comeTo 111 = .ok (.iastore, 1) := by decide +kernel
theorem de_A_comeTo_112 : decode by_A_comeTo 112 = .ok (.aload_n 0, 1) := by decide +kernel
theorem de_A_comeTo_113 : decode by_A_comeTo 113 = .ok (.getfield 18, 3) := by decide +kernel
theorem de_A_comeTo_116 : decode by_A_comeTo 116 = .ok (.iload_n 2, 1) := by decide +kernel
theorem de_A_comeTo_117 : decode by_A_comeTo 117 = .ok (.iconst 1, 1) := by decide +kernel
theorem de_A_comeTo_118 : decode by_A_comeTo 118 = .ok (.bastore, 1) := by decide +kernel
theorem de_A_comeTo_119 : decode by_A_comeTo 119 = .ok (.iinc 3 1, 3) := by decide +kernel
theorem de_A_comeTo_122 : decode by_A_comeTo 122 = .ok (.goto (-111), 3) := by decide +kernel
theorem de_A_comeTo_125 : decode by_A_comeTo 125 = .ok (.return_, 1) := by decide +kernel
theorem de_A_isBehind_0 : decode by_A_isBehind 0 = .ok (.aload_n 0, 1) := by decide +kernel
theorem de_A_isBehind_1 : decode by_A_isBehind 1 = .ok (.getfield 22, 3) := by decide +kernel
theorem de_A_isBehind_4 : decode by_A_isBehind 4 = .ok (.iload_n 1, 1) := by decide +kernel
theorem de_A_isBehind_5 : decode by_A_isBehind 5 = .ok (.iaload, 1) := by decide +kernel
theorem de_A_isBehind_6 : decode by_A_isBehind 6 = .ok (.iconst 2, 1) := by decide +kernel
theorem de_A_isBehind_7 : decode by_A_isBehind 7 = .ok (.if_icmp .ne 17, 3) := by decide +kernel
theorem de_A_isBehind_10 : decode by_A_isBehind 10 = .ok (.aload_n 0, 1) := by decide +kernel
theorem de_A_isBehind_11 : decode by_A_isBehind 11 = .ok (.getfield 25, 3) := by decide +kernel
theorem de_A_isBehind_14 : decode by_A_isBehind 14 = .ok (.iload_n 1, 1) := by decide +kernel
theorem de_A_isBehind_15 : decode by_A_isBehind 15 = .ok (.iaload, 1) := by decide +kernel
theorem de_A_isBehind_16 : decode by_A_isBehind 16 = .ok (.iload_n 2, 1) := by decide +kernel
theorem de_A_isBehind_17 : decode by_A_isBehind 17 = .ok (.if_icmp .ne 7, 3) := by decide +kernel
theorem de_A_isBehind_20 : decode by_A_isBehind 20 = .ok (.iconst 1, 1) := by decide +kernel
theorem de_A_isBehind_21 : decode by_A_isBehind 21 = .ok (.goto 4, 3) := by decide +kernel
theorem de_A_isBehind_24 : decode by_A_isBehind 24 = .ok (.iconst 0, 1) := by decide +kernel
theorem de_A_isBehind_25 : decode by_A_isBehind 25 = .ok (.ireturn, 1) := by decide +kernel
theorem de_A_setConstantBehind_0 : decode by_A_setConstantBehind 0 = .ok (.aload_n 0, 1) := by decide +kernel
theorem de_A_setConstantBehind_1 : decode by_A_setConstantBehind 1 = .ok (.getfield 22, 3) := by decide +kernel
theorem de_A_setConstantBehind_4 : decode by_A_setConstantBehind 4 = .ok (.iload_n 1, 1) := by decide +kernel
theorem de_A_setConstantBehind_5 : decode by_A_setConstantBehind 5 = .ok (.iconst 2, 1) := by decide +kernel
theorem de_A_setConstantBehind_6 : decode by_A_setConstantBehind 6 = .ok (.iastore, 1) := by decide +kernel
theorem de_A_setConstantBehind_7 : decode by_A_setConstantBehind 7 = .ok (.aload_n 0, 1) := by decide +kernel
theorem de_A_setConstantBehind_8 : decode by_A_setConstantBehind 8 = .ok (.getfield 25, 3) := by decide +kernel
theorem de_A_setConstantBehind_11 : decode by_A_setConstantBehind 11 = .ok (.iload_n 1, 1) := by decide +kernel
theorem de_A_setConstantBehind_12 : decode by_A_setConstantBehind 12 = .ok (.iload_n 2, 1) := by decide +kernel
theorem de_A_setConstantBehind_13 : decode by_A_setConstantBehind 13 = .ok (.iastore, 1) := by decide +kernel
theorem de_A_setConstantBehind_14 : decode by_A_setConstantBehind 14 = .ok (.return_, 1) := by decide +kernel
theorem de_A_setVaryingBehind_0 : decode by_A_setVaryingBehind 0 = .ok (.aload_n 0, 1) := by decide +kernel
theorem de_A_setVaryingBehind_1 : decode by_A_setVaryingBehind 1 = .ok (.getfield 22, 3) := by decide +kernel
theorem de_A_setVaryingBehind_4 : decode by_A_setVaryingBehind 4 = .ok (.iload_n 1, 1) := by decide +kernel
theorem de_A_setVaryingBehind_5 : decode by_A_setVaryingBehind 5 = .ok (.iconst 1, 1) := by decide +kernel
theorem de_A_setVaryingBehind_6 : decode by_A_setVaryingBehind 6 = .ok (.iastore, 1) := by decide +kernel
theorem de_A_setVaryingBehind_7 : decode by_A_setVaryingBehind 7 = .ok (.aload_n 0, 1) := by decide +kernel
theorem de_A_setVaryingBehind_8 : decode by_A_setVaryingBehind 8 = .ok (.getfield 25, 3) := by decide +kernel
theorem de_A_setVaryingBehind_11 : decode by_A_setVaryingBehind 11 = .ok (.iload_n 1, 1) := by decide +kernel
theorem de_A_setVaryingBehind_12 : decode by_A_setVaryingBehind 12 = .ok (.iconst 0, 1) := by decide +kernel
theorem de_A_setVaryingBehind_13 : decode by_A_setVaryingBehind 13 = .ok (.iastore, 1) := by decide +kernel
theorem de_A_setVaryingBehind_14 : decode by_A_setVaryingBehind 14 = .ok (.return_, 1) := by decide +kernel
theorem de_A_hasConstantResult_0 : decode by_A_hasConstantResult 0 = .ok (.aload_n 1, 1) := by decide +kernel
theorem de_A_hasConstantResult_1 : decode by_A_hasConstantResult 1 = .ok (.getfield 79, 3) := by decide +kernel
theorem de_A_hasConstantResult_4 : decode by_A_hasConstantResult 4 = .ok (.iload_n 2, 1) := by decide +kernel
theorem de_A_hasConstantResult_5 : decode by_A_hasConstantResult 5 = .ok (.iaload, 1) := by decide +kernel
theorem de_A_hasConstantResult_6 : decode by_A_hasConstantResult 6 = .ok (.istore_n 3, 1) := by decide +kernel
theorem de_A_hasConstantResult_7 : decode by_A_hasConstantResult 7 = .ok (.iload_n 3, 1) := by decide +kernel
theorem de_A_hasConstantResult_8 : decode by_A_hasConstantResult 8 = .ok (.ifCond .ne 15, 3) := by decide +kernel
theorem de_A_hasConstantResult_11 : decode by_A_hasConstantResult 11 = .ok (.aload_n 0, 1) := by decide +kernel
theorem de_A_hasConstantResult_12 : decode by_A_hasConstantResult 12 = .ok (.aload_n 1, 1) := by decide +kernel
theorem de_A_hasConstantResult_13 : decode by_A_hasConstantResult 13 = .ok (.getfield 100, 3) := by decide +kernel
theorem de_A_hasConstantResult_16 : decode by_A_hasConstantResult 16 = .ok (.iload_n 2, 1) := by decide +kernel
theorem de_A_hasConstantResult_17 : decode by_A_hasConstantResult 17 = .ok (.iaload, 1) := by decide +kernel
theorem de_A_hasConstantResult_18 : decode by_A_hasConstantResult 18 = .ok (.putfield 68, 3) := by decide +kernel
theorem de_A_hasConstantResult_21 : decode by_A_hasConstantResult 21 = .ok (.iconst 1, 1) := by decide +kernel
theorem de_A_hasConstantResult_22 : decode by_A_hasConstantResult 22 = .ok (.ireturn, 1) := by decide +kernel
theorem de_A_hasConstantResult_23 : decode by_A_hasConstantResult 23 = .ok (.iload_n 2, 1) := by decide +kernel
theorem de_A_hasConstantResult_24 : decode by_A_hasConstantResult 24 = .ok (.aload_n 1, 1) := by decide +kernel
theorem de_A_hasConstantResult_25 : decode by_A_hasConstantResult 25 = .ok (.getfield 100, 3) := by decide +kernel
theorem de_A_hasConstantResult_28 : decode by_A_hasConstantResult 28 = .ok (.iload_n 2, 1) := by decide +kernel
theorem de_A_hasConstantResult_29 : decode by_A_hasConstantResult 29 = .ok (.iaload, 1) := by decide +kernel
theorem de_A_hasConstantResult_30 : decode by_A_hasConstantResult 30 = .ok (.invokestatic 47, 3) := by decide +kernel
theorem de_A_hasConstantResult_33 : decode by_A_hasConstantResult 33 = .ok (.istore 4, 2) := by decide +kernel
theorem de_A_hasConstantResult_35 : decode by_A_hasConstantResult 35 = .ok (.iload_n 3, 1) := by decide +kernel
theorem de_A_hasConstantResult_36 : decode by_A_hasConstantResult 36 = .ok (.iconst 1, 1) := by decide +kernel
theorem de_A_hasConstantResult_37 : decode by_A_hasConstantResult 37 = .ok (.if_icmp .ne 31, 3) := by decide +kernel
theorem de_A_hasConstantResult_40 : decode by_A_hasConstantResult 40 = .ok (.aload_n 0, 1) := by decide +kernel
theorem de_A_hasConstantResult_41 : decode by_A_hasConstantResult 41 = .ok (.aload_n 0, 1) := by decide +kernel
theorem de_A_hasConstantResult_42 : decode by_A_hasConstantResult 42 = .ok (.getfield 15, 3) := by decide +kernel
theorem de_A_hasConstantResult_45 : decode by_A_hasConstantResult 45 = .ok (.iload 4, 2) := by decide +kernel
theorem de_A_hasConstantResult_47 : decode by_A_hasConstantResult 47 = .ok (.iaload, 1) := by decide +kernel
theorem de_A_hasConstantResult_48 : decode by_A_hasConstantResult 48 = .ok (.putfield 68, 3) := by decide +kernel
theorem de_A_hasConstantResult_51 : decode by_A_hasConstantResult 51 = .ok (.aload_n 0, 1) := by decide +kernel
theorem de_A_hasConstantResult_52 : decode by_A_hasConstantResult 52 = .ok (.getfield 9, 3) := by decide +kernel
theorem de_A_hasConstantResult_55 : decode by_A_hasConstantResult 55 = .ok (.iload 4, 2) := by decide +kernel
theorem de_A_hasConstantResult_57 : decode by_A_hasConstantResult 57 = .ok (.iaload, 1) := by decide +kernel
theorem de_A_hasConstantResult_58 : decode by_A_hasConstantResult 58 = .ok (.iconst 2, 1) := by decide +kernel
theorem de_A_hasConstantResult_59 : decode by_A_hasConstantResult 59 = .ok (.if_icmp .ne 7, 3) := by decide +kernel
theorem de_A_hasConstantResult_62 : decode by_A_hasConstantResult 62 = .ok (.iconst 1, 1) := by decide +kernel
theorem de_A_hasConstantResult_63 : decode by_A_hasConstantResult 63 = .ok (.goto 4, 3) := by decide +kernel
theorem de_A_hasConstantResult_66 : decode by_A_hasConstantResult 66 = .ok (.iconst 0, 1) := by decide +kernel
theorem de_A_hasConstantResult_67 : decode by_A_hasConstantResult 67 = .ok (.ireturn, 1) := by decide +kernel
theorem de_A_hasConstantResult_68 : decode by_A_hasConstantResult 68 = .ok (.iload_n 2, 1) := by decide +kernel
theorem de_A_hasConstantResult_69 : decode by_A_hasConstantResult 69 = .ok (.aload_n 1, 1) := by decide +kernel
theorem de_A_hasConstantResult_70 : decode by_A_hasConstantResult 70 = .ok (.getfield 103, 3) := by decide +kernel
theorem de_A_hasConstantResult_73 : decode by_A_hasConstantResult 73 = .ok (.iload_n 2, 1) := by decide +kernel
theorem de_A_hasConstantResult_74 : decode by_A_hasConstantResult 74 = .ok (.iaload, 1) := by decide +kernel
theorem de_A_hasConstantResult_75 : decode by_A_hasConstantResult 75 = .ok (.invokestatic 47, 3) := by decide +kernel
theorem de_A_hasConstantResult_78 : decode by_A_hasConstantResult 78 = .ok (.istore 5, 2) := by decide +kernel
theorem de_A_hasConstantResult_80 : decode by_A_hasConstantResult 80 = .ok (.iload_n 3, 1) := by decide +kernel
theorem de_A_hasConstantResult_81 : decode by_A_hasConstantResult 81 = .ok (.iconst 4, 1) := by decide +kernel
theorem de_A_hasConstantResult_82 : decode by_A_hasConstantResult 82 = .ok (.if_icmp .ne 28, 3) := by decide +kernel
theorem de_A_hasConstantResult_85 : decode by_A_hasConstantResult 85 = .ok (.aload_n 0, 1) := by decide +kernel
theorem de_A_hasConstantResult_86 : decode by_A_hasConstantResult 86 = .ok (.iload 4, 2) := by decide +kernel
theorem de_A_hasConstantResult_88 : decode by_A_hasConstantResult 88 = .ok (.invokevirtual 106, 3) := by decide +kernel
theorem de_A_hasConstantResult_91 : decode by_A_hasConstantResult 91 = .ok (.ifCond .ne 12, 3) := by decide +kernel
theorem de_A_hasConstantResult_94 : decode by_A_hasConstantResult 94 = .ok (.aload_n 0, 1) := by decide +kernel
theorem de_A_hasConstantResult_95 : decode by_A_hasConstantResult 95 = .ok (.iload 5, 2) := by decide +kernel
theorem de_A_hasConstantResult_97 : decode by_A_hasConstantResult 97 = .ok (.invokevirtual 106, 3) := by decide +kernel
theorem de_A_hasConstantResult_100 : decode by_A_hasConstantResult 100 = .ok (.ifCond .eq 10, 3) := by decide +kernel
theorem de_A_hasConstantResult_103 : decode by_A_hasConstantResult 103 = .ok (.aload_n 0, 1) := by decide +kernel
theorem de_A_hasConstantResult_104 : decode by_A_hasConstantResult 104 = .ok (.iconst 0, 1) := by decide +kernel
theorem de_A_hasConstantResult_105 : decode by_A_hasConstantResult 105 = .ok (.putfield 68, 3) := by decide +kernel
theorem de_A_hasConstantResult_108 : decode by_A_hasConstantResult 108 = .ok (.iconst 1, 1) := by decide +kernel
theorem de_A_hasConstantResult_109 : decode by_A_hasConstantResult 109 = .ok (.ireturn, 1) := by decide +kernel
theorem de_A_hasConstantResult_110 : decode by_A_hasConstantResult 110 = .ok (.aload_n 0, 1) := by decide +kernel
theorem de_A_hasConstantResult_111 : decode by_A_hasConstantResult 111 = .ok (.iload_n 3, 1) := by decide +kernel
theorem de_A_hasConstantResult_112 : decode by_A_hasConstantResult 112 = .ok (.aload_n 0, 1) := by decide +kernel
theorem de_A_hasConstantResult_113 : decode by_A_hasConstantResult 113 = .ok (.getfield 15, 3) := by decide +kernel
theorem de_A_hasConstantResult_116 : decode by_A_hasConstantResult 116 = .ok (.iload 4, 2) := by decide +kernel
theorem de_A_hasConstantResult_118 : decode by_A_hasConstantResult 118 = .ok (.iaload, 1) := by decide +kernel
theorem de_A_hasConstantResult_119 : decode by_A_hasConstantResult 119 = .ok (.aload_n 0, 1) := by decide +kernel
theorem de_A_hasConstantResult_120 : decode by_A_hasConstantResult 120 = .ok (.getfield 15, 3) := by decide +kernel
theorem de_A_hasConstantResult_123 : decode by_A_hasConstantResult 123 = .ok (.iload 5, 2) := by decide +kernel
theorem de_A_hasConstantResult_125 : decode by_A_hasConstantResult 125 = .ok (.iaload, 1) := by decide +kernel
theorem de_A_hasConstantResult_126 : decode by_A_hasConstantResult 126 = .ok (.invokestatic 109, 3) := by decide +kernel
theorem de_A_hasConstantResult_129 : decode by_A_hasConstantResult 129 = .ok (.putfield 68, 3) := by decide +kernel
theorem de_A_hasConstantResult_132 : decode by_A_hasConstantResult 132 = .ok (.aload_n 0, 1) := by decide +kernel
theorem de_A_hasConstantResult_133 : decode by_A_hasConstantResult 133 = .ok (.getfield 9, 3) := by decide +kernel
theorem de_A_hasConstantResult_136 : decode by_A_hasConstantResult 136 = .ok (.iload 4, 2) := by decide +kernel
theorem de_A_hasConstantResult_138 : decode by_A_hasConstantResult 138 = .ok (.iaload, 1) := by decide +kernel
theorem de_A_hasConstantResult_139 : decode by_A_hasConstantResult 139 = .ok (.iconst 2, 1) := by decide +kernel
theorem de_A_hasConstantResult_140 : decode by_A_hasConstantResult 140 = .ok (.if_icmp .ne 18, 3) := by decide +kernel
theorem de_A_hasConstantResult_143 : decode by_A_hasConstantResult 143 = .ok (.aload_n 0, 1) := by decide +kernel
theorem de_A_hasConstantResult_144 : decode by_A_hasConstantResult 144 = .ok (.getfield 9, 3) := by decide +kernel
theorem de_A_hasConstantResult_147 : decode by_A_hasConstantResult 147 = .ok (.iload 5, 2) := by decide +kernel
theorem de_A_hasConstantResult_149 : decode by_A_hasConstantResult 149 = .ok (.iaload, 1) := by decide +kernel
theorem de_A_hasConstantResult_150 : decode by_A_hasConstantResult 150 = .ok (.iconst 2, 1) := by decide +kernel
theorem de_A_hasConstantResult_151 : decode by_A_hasConstantResult 151 = .ok (.if_icmp .ne 7, 3) := by decide +kernel
theorem de_A_hasConstantResult_154 : decode by_A_hasConstantResult 154 = .ok (.iconst 1, 1) := by decide +kernel
theorem de_A_hasConstantResult_155 : decode by_A_hasConstantResult 155 = .ok (.goto 4, 3) := by decide +kernel
theorem de_A_hasConstantResult_158 : decode by_A_hasConstantResult 158 = .ok (.iconst 0, 1) := by decide +kernel
theorem de_A_hasConstantResult_159 : decode by_A_hasConstantResult 159 = .ok (.ireturn, 1) := by decide +kernel
theorem de_A_isConstantZero_0 : decode by_A_isConstantZero 0 = .ok (.aload_n 0, 1) := by decide +kernel
theorem de_A_isConstantZero_1 : decode by_A_isConstantZero 1 = .ok (.getfield 9, 3) := by decide +kernel
theorem de_A_isConstantZero_4 : decode by_A_isConstantZero 4 = .ok (.iload_n 1, 1) := by decide +kernel
theorem de_A_isConstantZero_5 : decode by_A_isConstantZero 5 = .ok (.iaload, 1) := by decide +kernel
theorem de_A_isConstantZero_6 : decode by_A_isConstantZero 6 = .ok (.iconst 2, 1) := by decide +kernel
theorem de_A_isConstantZero_7 : decode by_A_isConstantZero 7 = .ok (.if_icmp .ne 16, 3) := by decide +kernel
theorem de_A_isConstantZero_10 : decode by_A_isConstantZero 10 = .ok (.aload_n 0, 1) := by decide +kernel
theorem de_A_isConstantZero_11 : decode by_A_isConstantZero 11 = .ok (.getfield 15, 3) := by decide +kernel
theorem de_A_isConstantZero_14 : decode by_A_isConstantZero 14 = .ok (.iload_n 1, 1) := by decide +kernel
theorem de_A_isConstantZero_15 : decode by_A_isConstantZero 15 = .ok (.iaload, 1) := by decide +kernel
theorem de_A_isConstantZero_16 : decode by_A_isConstantZero 16 = .ok (.ifCond .ne 7, 3) := by decide +kernel
theorem de_A_isConstantZero_19 : decode by_A_isConstantZero 19 = .ok (.iconst 1, 1) := by decide +kernel
theorem de_A_isConstantZero_20 : decode by_A_isConstantZero 20 = .ok (.goto 4, 3) := by decide +kernel
theorem de_A_isConstantZero_23 : decode by_A_isConstantZero 23 = .ok (.iconst 0, 1) := by decide +kernel
theorem de_A_isConstantZero_24 : decode by_A_isConstantZero 24 = .ok (.ireturn, 1) := by decide +kernel
theorem de_A_hasConstantTest_0 : decode by_A_hasConstantTest 0 = .ok (.aload_n 0, 1) := by decide +kernel
theorem de_A_hasConstantTest_1 : decode by_A_hasConstantTest 1 = .ok (.getfield 9, 3) := by decide +kernel
theorem de_A_hasConstantTest_4 : decode by_A_hasConstantTest 4 = .ok (.iload_n 2, 1) := by decide +kernel
theorem de_A_hasConstantTest_5 : decode by_A_hasConstantTest 5 = .ok (.aload_n 1, 1) := by decide +kernel
theorem de_A_hasConstantTest_6 : decode by_A_hasConstantTest 6 = .ok (.getfield 65, 3) := by decide +kernel
theorem de_A_hasConstantTest_9 : decode by_A_hasConstantTest 9 = .ok (.iload_n 2, 1) := by decide +kernel
theorem de_A_hasConstantTest_10 : decode by_A_hasConstantTest 10 = .ok (.iaload, 1) := by decide +kernel
theorem de_A_hasConstantTest_11 : decode by_A_hasConstantTest 11 = .ok (.invokestatic 47, 3) := by decide +kernel
theorem de_A_hasConstantTest_14 : decode by_A_hasConstantTest 14 = .ok (.iaload, 1) := by decide +kernel
theorem de_A_hasConstantTest_15 : decode by_A_hasConstantTest 15 = .ok (.iconst 2, 1) := by decide +kernel
theorem de_A_hasConstantTest_16 : decode by_A_hasConstantTest 16 = .ok (.if_icmp .ne 7, 3) := by decide +kernel
theorem de_A_hasConstantTest_19 : decode by_A_hasConstantTest 19 = .ok (.iconst 1, 1) := by decide +kernel
theorem de_A_hasConstantTest_20 : decode by_A_hasConstantTest 20 = .ok (.goto 4, 3) := by decide +kernel
theorem de_A_hasConstantTest_23 : decode by_A_hasConstantTest 23 = .ok (.iconst 0, 1) := by decide +kernel
theorem de_A_hasConstantTest_24 : decode by_A_hasConstantTest 24 = .ok (.ireturn, 1) := by decide +kernel
theorem de_A_wayOfConstantTest_0 : decode by_A_wayOfConstantTest 0 = .ok (.aload_n 0, 1) := by decide +kernel
theorem de_A_wayOfConstantTest_1 : decode by_A_wayOfConstantTest 1 = .ok (.getfield 15, 3) := by decide +kernel
theorem de_A_wayOfConstantTest_4 : decode by_A_wayOfConstantTest 4 = .ok (.iload_n 2, 1) := by decide +kernel
theorem de_A_wayOfConstantTest_5 : decode by_A_wayOfConstantTest 5 = .ok (.aload_n 1, 1) := by decide +kernel
theorem de_A_wayOfConstantTest_6 : decode by_A_wayOfConstantTest 6 = .ok (.getfield 65, 3) := by decide +kernel
theorem de_A_wayOfConstantTest_9 : decode by_A_wayOfConstantTest 9 = .ok (.iload_n 2, 1) := by decide +kernel
theorem de_A_wayOfConstantTest_10 : decode by_A_wayOfConstantTest 10 = .ok (.iaload, 1) := by decide +kernel
theorem de_A_wayOfConstantTest_11 : decode by_A_wayOfConstantTest 11 = .ok (.invokestatic 47, 3) := by decide +kernel
theorem de_A_wayOfConstantTest_14 : decode by_A_wayOfConstantTest 14 = .ok (.iaload, 1) := by decide +kernel
theorem de_A_wayOfConstantTest_15 : decode by_A_wayOfConstantTest 15 = .ok (.ifCond .ne 11, 3) := by decide +kernel
theorem de_A_wayOfConstantTest_18 : decode by_A_wayOfConstantTest 18 = .ok (.aload_n 1, 1) := by decide +kernel
theorem de_A_wayOfConstantTest_19 : decode by_A_wayOfConstantTest 19 = .ok (.iload_n 2, 1) := by decide +kernel
theorem de_A_wayOfConstantTest_20 : decode by_A_wayOfConstantTest 20 = .ok (.invokevirtual 82, 3) := by decide +kernel
theorem de_A_wayOfConstantTest_23 : decode by_A_wayOfConstantTest 23 = .ok (.goto 6, 3) := by decide +kernel
theorem de_A_wayOfConstantTest_26 : decode by_A_wayOfConstantTest 26 = .ok (.iload_n 2, 1) := by decide +kernel
theorem de_A_wayOfConstantTest_27 : decode by_A_wayOfConstantTest 27 = .ok (.iconst 1, 1) := by decide +kernel
theorem de_A_wayOfConstantTest_28 : decode by_A_wayOfConstantTest 28 = .ok (.iadd, 1) := by decide +kernel
theorem de_A_wayOfConstantTest_29 : decode by_A_wayOfConstantTest 29 = .ok (.ireturn, 1) := by decide +kernel
theorem de_A_isReached_0 : decode by_A_isReached 0 = .ok (.aload_n 0, 1) := by decide +kernel
theorem de_A_isReached_1 : decode by_A_isReached 1 = .ok (.getfield 9, 3) := by decide +kernel
theorem de_A_isReached_4 : decode by_A_isReached 4 = .ok (.iload_n 1, 1) := by decide +kernel
theorem de_A_isReached_5 : decode by_A_isReached 5 = .ok (.iconst 0, 1) := by decide +kernel
theorem de_A_isReached_6 : decode by_A_isReached 6 = .ok (.invokestatic 47, 3) := by decide +kernel
theorem de_A_isReached_9 : decode by_A_isReached 9 = .ok (.iaload, 1) := by decide +kernel
theorem de_A_isReached_10 : decode by_A_isReached 10 = .ok (.ifCond .eq 7, 3) := by decide +kernel
theorem de_A_isReached_13 : decode by_A_isReached 13 = .ok (.iconst 1, 1) := by decide +kernel
theorem de_A_isReached_14 : decode by_A_isReached 14 = .ok (.goto 4, 3) := by decide +kernel
theorem de_A_isReached_17 : decode by_A_isReached 17 = .ok (.iconst 0, 1) := by decide +kernel
theorem de_A_isReached_18 : decode by_A_isReached 18 = .ok (.ireturn, 1) := by decide +kernel
theorem de_A_countReached_0 : decode by_A_countReached 0 = .ok (.iconst 0, 1) := by decide +kernel
theorem de_A_countReached_1 : decode by_A_countReached 1 = .ok (.istore_n 2, 1) := by decide +kernel
theorem de_A_countReached_2 : decode by_A_countReached 2 = .ok (.iconst 0, 1) := by decide +kernel
theorem de_A_countReached_3 : decode by_A_countReached 3 = .ok (.istore_n 3, 1) := by decide +kernel
theorem de_A_countReached_4 : decode by_A_countReached 4 = .ok (.iload_n 3, 1) := by decide +kernel
theorem de_A_countReached_5 : decode by_A_countReached 5 = .ok (.aload_n 1, 1) := by decide +kernel
theorem de_A_countReached_6 : decode by_A_countReached 6 = .ok (.getfield 38, 3) := by decide +kernel
theorem de_A_countReached_9 : decode by_A_countReached 9 = .ok (.if_icmp .ge 20, 3) := by decide +kernel
theorem de_A_countReached_12 : decode by_A_countReached 12 = .ok (.aload_n 0, 1) := by decide +kernel
theorem de_A_countReached_13 : decode by_A_countReached 13 = .ok (.iload_n 3, 1) := by decide +kernel
theorem de_A_countReached_14 : decode by_A_countReached 14 = .ok (.invokevirtual 113, 3) := by decide +kernel
theorem de_A_countReached_17 : decode by_A_countReached 17 = .ok (.ifCond .eq 6, 3) := by decide +kernel
theorem de_A_countReached_20 : decode by_A_countReached 20 = .ok (.iinc 2 1, 3) := by decide +kernel
theorem de_A_countReached_23 : decode by_A_countReached 23 = .ok (.iinc 3 1, 3) := by decide +kernel
theorem de_A_countReached_26 : decode by_A_countReached 26 = .ok (.goto (-22), 3) := by decide +kernel
theorem de_A_countReached_29 : decode by_A_countReached 29 = .ok (.iload_n 2, 1) := by decide +kernel
theorem de_A_countReached_30 : decode by_A_countReached 30 = .ok (.ireturn, 1) := by decide +kernel
end
section
/-! Analysis: the small methods (by program: wip/whole/gen/modA.py) -/
theorem bc_wi_t {k o t z : Int32} (hw : bc_wi k o t z) (h4 : k ≤ 4) (h0 : ¬ k = 0) : bc_vr t := by
  rcases hw with ⟨e, _⟩ | ⟨_, _, e, _⟩ | ⟨_, _, e, _⟩ | ⟨e, _⟩ | ⟨e, _⟩ | ⟨e, _⟩
  · exact absurd e h0
  · exact e
  · exact e
  · rw [e] at h4; exact absurd h4 (by decide)
  · rw [e] at h4; exact absurd h4 (by decide)
  · rw [e] at h4; exact absurd h4 (by decide)
theorem bc_wi_z {k o t z : Int32} (hw : bc_wi k o t z) (h4 : k ≤ 4) (h0 : ¬ k = 0) (h1 : ¬ k = 1) : bc_vr z := by
  rcases hw with ⟨e, _⟩ | ⟨e, _⟩ | ⟨_, _, _, e⟩ | ⟨e, _⟩ | ⟨e, _⟩ | ⟨e, _⟩
  · exact absurd e h0
  · exact absurd e h1
  · exact e
  · rw [e] at h4; exact absurd h4 (by decide)
  · rw [e] at h4; exact absurd h4 (by decide)
  · rw [e] at h4; exact absurd h4 (by decide)
theorem bc_wi_5 {k o t z : Int32} (hw : bc_wi k o t z) (h5 : k = 5) : bc_vr o ∧ bc_tr t := by
  rcases hw with ⟨e, _⟩ | ⟨e, _⟩ | ⟨e, _⟩ | ⟨_, e, e2, _⟩ | ⟨e, _⟩ | ⟨e, _⟩
  · rw [h5] at e; exact absurd e (by decide)
  · rw [h5] at e; exact absurd e (by decide)
  · rw [h5] at e; exact absurd e (by decide)
  · exact ⟨e, e2⟩
  · rw [h5] at e; exact absurd e (by decide)
  · rw [h5] at e; exact absurd e (by decide)
theorem bc_wi_6 {k o t z : Int32} (hw : bc_wi k o t z) (h6 : k = 6) : bc_tr t := by
  rcases hw with ⟨e, _⟩ | ⟨e, _⟩ | ⟨e, _⟩ | ⟨e, _⟩ | ⟨_, _, e, _⟩ | ⟨e, _⟩
  · rw [h6] at e; exact absurd e (by decide)
  · rw [h6] at e; exact absurd e (by decide)
  · rw [h6] at e; exact absurd e (by decide)
  · rw [h6] at e; exact absurd e (by decide)
  · exact e
  · rw [h6] at e; exact absurd e (by decide)
theorem bc_cl6 {x : Int32} {j : Nat} (h : x = nI j) (hj : j < 6) : x.toNatClampNeg = j := by rw [h]; exact nI_clamp (by omega)
theorem bc_rs_0 {K T Z : bc_F} {i : Nat} {r : bc_R} (h : K i = 0) : bc_rs K T Z i r = some (T i) := by unfold bc_rs; rw [if_pos h]
theorem bc_rs_1 {K T Z : bc_F} {i tt : Nat} {r : bc_R} (h : K i = 1) (eT : T i = nI tt) (ht : tt < 6) : bc_rs K T Z i r = r tt := by
  unfold bc_rs
  rw [if_neg (by rw [h]; decide), if_pos h, bc_cl6 eT ht]
theorem bc_rs_m {K T Z : bc_F} {i tt zz : Nat} {r : bc_R} (h : K i = 4) (eT : T i = nI tt) (ht : tt < 6) (eZ : Z i = nI zz) (hz : zz < 6) (h0 : r tt = some 0 ∨ r zz = some 0) : bc_rs K T Z i r = some 0 := by
  unfold bc_rs
  rw [if_neg (by rw [h]; decide), if_neg (by rw [h]; decide), bc_cl6 eT ht, bc_cl6 eZ hz, if_pos ⟨h, h0⟩]
theorem bc_rs_g {K T Z : bc_F} {i tt zz : Nat} {r : bc_R} (h0 : ¬ K i = 0) (h1 : ¬ K i = 1) (eT : T i = nI tt) (ht : tt < 6) (eZ : Z i = nI zz) (hz : zz < 6) (h4 : ¬ (K i = 4 ∧ (r tt = some 0 ∨ r zz = some 0))) : bc_rs K T Z i r = (match r tt, r zz with | some a, some b => some (bc_ar (K i) a b) | _, _ => none) := by
  unfold bc_rs
  rw [if_neg h0, if_neg h1, bc_cl6 eT ht, bc_cl6 eZ hz, if_neg h4]
  cases r tt <;> cases r zz <;> rfl
theorem bc_z0 {r : bc_R} {v : Nat} : (bc_s0 (some r) v = 2 ∧ bc_c0 (some r) v = 0) ↔ r v = some 0 := by
  constructor
  · rintro ⟨h1, h2⟩
    rw [bc_s0_is2 h1, h2]
  · intro h
    exact bc_s0_2 h
/-- the last road of a result: both known, or not -/
theorem bc_rs_2 {K T Z S C : bc_F} {i tt zz : Nat} {r : bc_R} (h0 : ¬ K i = 0) (h1 : ¬ K i = 1) (eT : T i = nI tt) (ht : tt < 6) (eZ : Z i = nI zz) (hz : zz < 6) (h4 : ¬ (K i = 4 ∧ (r tt = some 0 ∨ r zz = some 0)))
    (hrow : ∀ v, v < 6 → S (6 * i + v) = bc_s0 (some r) v ∧ C (6 * i + v) = bc_c0 (some r) v) : ((S (6 * i + tt) = 2 ∧ S (6 * i + zz) = 2) → bc_rs K T Z i r = some (bc_ar (K i) (C (6 * i + tt)) (C (6 * i + zz)))) ∧ (¬ (S (6 * i + tt) = 2 ∧ S (6 * i + zz) = 2) → bc_rs K T Z i r = none) := by
  rw [bc_rs_g h0 h1 eT ht eZ hz h4]
  obtain ⟨a1, a2⟩ := hrow tt ht
  obtain ⟨b1, b2⟩ := hrow zz hz
  rw [a1, a2, b1, b2]
  constructor
  · rintro ⟨c1, c2⟩
    rw [bc_s0_is2 c1, bc_s0_is2 c2]
  · intro h
    by_cases c1 : bc_s0 (some r) tt = 2
    · have c2 : ¬ bc_s0 (some r) zz = 2 := fun z => h ⟨c1, z⟩
      rw [bc_s0_n2 c2]
      cases r tt <;> rfl
    · rw [bc_s0_n2 c1]
set_option maxHeartbeats 4000000 in
set_option maxRecDepth 100000 in
/-- is this constant behind -/
theorem co_A_isBehind {l : Launch} {dC : Nat → ClassId} {dI : Nat → Nat → Nat} {cI cZ : ClassId} {sz : Nat} {a0 s1 s2 s3 s4 s5 : Nat} {S C Wt SB CB : bc_F} {res : Int32} {v : Nat} {x : Int32} (hv : v < 6) : Met l yn_A_isBehind (Cond.code yn_A_isBehind by_A_isBehind 3 (some FieldType.boolean) :: wd_all) ({ frames := 0, cells := 0, slots := 0, locals := 0 } : Room) (bc_Pre (dC, dI) classes [(cI, .int), (cZ, .boolean)] [.ref a0, .int (nI v), .int x] [(a0, .inr (0, [.ref s1, .ref s2, .ref s3, .ref s4, .ref s5, .int res])), (s1, .inl (cI, 240, .inl S)), (s2, .inl (cI, 240, .inl C)), (s3, .inl (cZ, 40, .inl Wt)), (s4, .inl (cI, 6, .inl SB)), (s5, .inl (cI, 6, .inl CB))] sz) (va_Qi (fun (r : Int32) (u : Unit) => (r = 1 ∧ (SB v = 2 ∧ CB v = x)) ∨ (r = 0 ∧ ¬ (SB v = 2 ∧ CB v = x))) (fun (u : Unit) t => bc_B (dC, dI) classes [(cI, .int), (cZ, .boolean)] (va_A [(a0, .inr (0, [.ref s1, .ref s2, .ref s3, .ref s4, .ref s5, .int res])), (s1, .inl (cI, 240, .inl S)), (s2, .inl (cI, 240, .inl C)), (s3, .inl (cZ, 40, .inl Wt)), (s4, .inl (cI, 6, .inl SB)), (s5, .inl (cI, 6, .inl CB))] sz) [(a0, .inr (0, [.ref s1, .ref s2, .ref s3, .ref s4, .ref s5, .int res])), (s1, .inl (cI, 240, .inl S)), (s2, .inl (cI, 240, .inl C)), (s3, .inl (cZ, 40, .inl Wt)), (s4, .inl (cI, 6, .inl SB)), (s5, .inl (cI, 6, .inl CB))] t) ((va_A [(a0, .inr (0, [.ref s1, .ref s2, .ref s3, .ref s4, .ref s5, .int res])), (s1, .inl (cI, 240, .inl S)), (s2, .inl (cI, 240, .inl C)), (s3, .inl (cZ, 40, .inl Wt)), (s4, .inl (cI, 6, .inl SB)), (s5, .inl (cI, 6, .inl CB))] sz))) 0 0 (va_A [(a0, .inr (0, [.ref s1, .ref s2, .ref s3, .ref s4, .ref s5, .int res])), (s1, .inl (cI, 240, .inl S)), (s2, .inl (cI, 240, .inl C)), (s3, .inl (cZ, 40, .inl Wt)), (s4, .inl (cI, 6, .inl SB)), (s5, .inl (cI, 6, .inl CB))] sz) := by
  refine bc_met (fun A => va_Qi (fun (r : Int32) (u : Unit) => (r = 1 ∧ (SB v = 2 ∧ CB v = x)) ∨ (r = 0 ∧ ¬ (SB v = 2 ∧ CB v = x))) (fun (u : Unit) t => bc_B (dC, dI) classes [(cI, .int), (cZ, .boolean)] A [(a0, .inr (0, [.ref s1, .ref s2, .ref s3, .ref s4, .ref s5, .int res])), (s1, .inl (cI, 240, .inl S)), (s2, .inl (cI, 240, .inl C)), (s3, .inl (cZ, 40, .inl Wt)), (s4, .inl (cI, 6, .inl SB)), (s5, .inl (cI, 6, .inl CB))] t) A) (by decide) (Nat.le_of_ble_eq_true rfl) ?_
  intro p e s m args below meth c A ls F hr hlocks hin hA hP hD hl hS
  have hx := F.1
  have hb := F.2.1
  have hml := F.2.2.1
  have hown : s.vm.findClass "BranchConstants$Analysis" = some m.cls := F.2.2.2.1
  have htw := F.2.2.2.2.1
  have hN := F.2.2.2.2.2.1
  have hK := F.2.2.2.2.2.2
  have hl : lv_has ls 3 [(0, .ref a0), (1, .int (nI v)), (2, .int x)] := hl
  refine lv_aload_n hx hb de_A_isBehind_0 rfl (lv_at hl 0 rfl) ?_
  refine va_get (D := (dC, dI)) (ci := 0) (v := .ref s4) (C := rc_A) (T := fc_A) (N := 6) hx hb htw wi_A hown hK hP 0 rfl rfl 3 (by decide) (htw _ wm_48) (fun _ h9 => h9) rfl de_A_isBehind_1 ?_
  refine lv_iload_n hx hb de_A_isBehind_4 rfl (lv_at hl 1 rfl) ?_
  refine bc_ild (j := v) hx hb hK hP 4 0 rfl rfl (by omega) (by decide) de_A_isBehind_5 ?_
  refine lv_iconst (v := 2) hx hb de_A_isBehind_6 (by decide) ?_
  refine lv_icmp_ne (tgt := 24) hx hb de_A_isBehind_7 (by decide) (fun hc_7 => ?_) (fun hc_7 => ?_)
  · refine lv_iconst (v := 0) hx hb de_A_isBehind_24 (by decide) ?_
    exact bc_zret F hr hlocks rfl (()) (Or.inr ⟨rfl, fun z => hc_7 z.1⟩) hP hD hS de_A_isBehind_25
  · refine lv_aload_n hx hb de_A_isBehind_10 rfl (lv_at hl 0 rfl) ?_
    refine va_get (D := (dC, dI)) (ci := 0) (v := .ref s5) (C := rc_A) (T := fc_A) (N := 6) hx hb htw wi_A hown hK hP 0 rfl rfl 4 (by decide) (htw _ wm_49) (fun _ h9 => h9) rfl de_A_isBehind_11 ?_
    refine lv_iload_n hx hb de_A_isBehind_14 rfl (lv_at hl 1 rfl) ?_
    refine bc_ild (j := v) hx hb hK hP 5 0 rfl rfl (by omega) (by decide) de_A_isBehind_15 ?_
    refine lv_iload_n hx hb de_A_isBehind_16 rfl (lv_at hl 2 rfl) ?_
    refine lv_icmp_ne (tgt := 24) hx hb de_A_isBehind_17 (by decide) (fun hc_17 => ?_) (fun hc_17 => ?_)
    · refine lv_iconst (v := 0) hx hb de_A_isBehind_24 (by decide) ?_
      exact bc_zret F hr hlocks rfl (()) (Or.inr ⟨rfl, fun z => hc_17 z.2⟩) hP hD hS de_A_isBehind_25
    · refine lv_iconst (v := 1) hx hb de_A_isBehind_20 (by decide) ?_
      refine lv_goto (tgt := 25) hx hb de_A_isBehind_21 (by decide) ?_
      exact bc_zret F hr hlocks rfl (()) (Or.inl ⟨rfl, hc_7, hc_17⟩) hP hD hS de_A_isBehind_25

set_option maxHeartbeats 4000000 in
set_option maxRecDepth 100000 in
/-- a constant behind -/
theorem co_A_setConstantBehind {l : Launch} {dC : Nat → ClassId} {dI : Nat → Nat → Nat} {cI cZ : ClassId} {sz : Nat} {a0 s1 s2 s3 s4 s5 : Nat} {S C Wt SB CB : bc_F} {res : Int32} {v : Nat} {x : Int32} (hv : v < 6) : Met l yn_A_setConstantBehind (Cond.code yn_A_setConstantBehind by_A_setConstantBehind 3 none :: wd_all) ({ frames := 0, cells := 0, slots := 0, locals := 0 } : Room) (bc_Pre (dC, dI) classes [(cI, .int), (cZ, .boolean)] [.ref a0, .int (nI v), .int x] [(a0, .inr (0, [.ref s1, .ref s2, .ref s3, .ref s4, .ref s5, .int res])), (s1, .inl (cI, 240, .inl S)), (s2, .inl (cI, 240, .inl C)), (s3, .inl (cZ, 40, .inl Wt)), (s4, .inl (cI, 6, .inl SB)), (s5, .inl (cI, 6, .inl CB))] sz) (va_Qv (fun (u : bc_F × bc_F) => u = (upd SB v 2, upd CB v x)) (fun (u : bc_F × bc_F) t => bc_B (dC, dI) classes [(cI, .int), (cZ, .boolean)] (va_A [(a0, .inr (0, [.ref s1, .ref s2, .ref s3, .ref s4, .ref s5, .int res])), (s1, .inl (cI, 240, .inl S)), (s2, .inl (cI, 240, .inl C)), (s3, .inl (cZ, 40, .inl Wt)), (s4, .inl (cI, 6, .inl SB)), (s5, .inl (cI, 6, .inl CB))] sz) [(a0, .inr (0, [.ref s1, .ref s2, .ref s3, .ref s4, .ref s5, .int res])), (s1, .inl (cI, 240, .inl S)), (s2, .inl (cI, 240, .inl C)), (s3, .inl (cZ, 40, .inl Wt)), (s4, .inl (cI, 6, .inl u.1)), (s5, .inl (cI, 6, .inl u.2))] t) ((va_A [(a0, .inr (0, [.ref s1, .ref s2, .ref s3, .ref s4, .ref s5, .int res])), (s1, .inl (cI, 240, .inl S)), (s2, .inl (cI, 240, .inl C)), (s3, .inl (cZ, 40, .inl Wt)), (s4, .inl (cI, 6, .inl SB)), (s5, .inl (cI, 6, .inl CB))] sz))) 0 0 (va_A [(a0, .inr (0, [.ref s1, .ref s2, .ref s3, .ref s4, .ref s5, .int res])), (s1, .inl (cI, 240, .inl S)), (s2, .inl (cI, 240, .inl C)), (s3, .inl (cZ, 40, .inl Wt)), (s4, .inl (cI, 6, .inl SB)), (s5, .inl (cI, 6, .inl CB))] sz) := by
  refine bc_met (fun A => va_Qv (fun (u : bc_F × bc_F) => u = (upd SB v 2, upd CB v x)) (fun (u : bc_F × bc_F) t => bc_B (dC, dI) classes [(cI, .int), (cZ, .boolean)] A [(a0, .inr (0, [.ref s1, .ref s2, .ref s3, .ref s4, .ref s5, .int res])), (s1, .inl (cI, 240, .inl S)), (s2, .inl (cI, 240, .inl C)), (s3, .inl (cZ, 40, .inl Wt)), (s4, .inl (cI, 6, .inl u.1)), (s5, .inl (cI, 6, .inl u.2))] t) A) (by decide) (Nat.le_of_ble_eq_true rfl) ?_
  intro p e s m args below meth c A ls F hr hlocks hin hA hP hD hl hS
  have hx := F.1
  have hb := F.2.1
  have hml := F.2.2.1
  have hown : s.vm.findClass "BranchConstants$Analysis" = some m.cls := F.2.2.2.1
  have htw := F.2.2.2.2.1
  have hN := F.2.2.2.2.2.1
  have hK := F.2.2.2.2.2.2
  have hl : lv_has ls 3 [(0, .ref a0), (1, .int (nI v)), (2, .int x)] := hl
  refine lv_aload_n hx hb de_A_setConstantBehind_0 rfl (lv_at hl 0 rfl) ?_
  refine va_get (D := (dC, dI)) (ci := 0) (v := .ref s4) (C := rc_A) (T := fc_A) (N := 6) hx hb htw wi_A hown hK hP 0 rfl rfl 3 (by decide) (htw _ wm_48) (fun _ h9 => h9) rfl de_A_setConstantBehind_1 ?_
  refine lv_iload_n hx hb de_A_setConstantBehind_4 rfl (lv_at hl 1 rfl) ?_
  refine lv_iconst (v := 2) hx hb de_A_setConstantBehind_5 (by decide) ?_
  refine bc_ist (j := v) hx hb hK hP hD hS 4 0 rfl rfl (by omega) (by decide) de_A_setConstantBehind_6 (fun H locs hP hD hS => ?_)
  have hP : va_P (dC, dI) classes [(a0, .inr (0, [.ref s1, .ref s2, .ref s3, .ref s4, .ref s5, .int res])), (s1, .inl (cI, 240, .inl S)), (s2, .inl (cI, 240, .inl C)), (s3, .inl (cZ, 40, .inl Wt)), (s4, .inl (cI, 6, .inl (upd SB v 2))), (s5, .inl (cI, 6, .inl CB))] H := hP
  have hD : va_D A [(a0, .inr (0, [.ref s1, .ref s2, .ref s3, .ref s4, .ref s5, .int res])), (s1, .inl (cI, 240, .inl S)), (s2, .inl (cI, 240, .inl C)), (s3, .inl (cZ, 40, .inl Wt)), (s4, .inl (cI, 6, .inl (upd SB v 2))), (s5, .inl (cI, 6, .inl CB))] := hD
  refine lv_aload_n hx hb de_A_setConstantBehind_7 rfl (lv_at hl 0 rfl) ?_
  refine va_get (D := (dC, dI)) (ci := 0) (v := .ref s5) (C := rc_A) (T := fc_A) (N := 6) hx hb htw wi_A hown hK hP 0 rfl rfl 4 (by decide) (htw _ wm_49) (fun _ h9 => h9) rfl de_A_setConstantBehind_8 ?_
  refine lv_iload_n hx hb de_A_setConstantBehind_11 rfl (lv_at hl 1 rfl) ?_
  refine lv_iload_n hx hb de_A_setConstantBehind_12 rfl (lv_at hl 2 rfl) ?_
  refine bc_ist (j := v) hx hb hK hP hD hS 5 0 rfl rfl (by omega) (by decide) de_A_setConstantBehind_13 (fun H locs hP hD hS => ?_)
  have hP : va_P (dC, dI) classes [(a0, .inr (0, [.ref s1, .ref s2, .ref s3, .ref s4, .ref s5, .int res])), (s1, .inl (cI, 240, .inl S)), (s2, .inl (cI, 240, .inl C)), (s3, .inl (cZ, 40, .inl Wt)), (s4, .inl (cI, 6, .inl (upd SB v 2))), (s5, .inl (cI, 6, .inl (upd CB v x)))] H := hP
  have hD : va_D A [(a0, .inr (0, [.ref s1, .ref s2, .ref s3, .ref s4, .ref s5, .int res])), (s1, .inl (cI, 240, .inl S)), (s2, .inl (cI, 240, .inl C)), (s3, .inl (cZ, 40, .inl Wt)), (s4, .inl (cI, 6, .inl (upd SB v 2))), (s5, .inl (cI, 6, .inl (upd CB v x)))] := hD
  exact bc_vret F hr hlocks ((upd SB v 2, upd CB v x)) rfl hP hD hS de_A_setConstantBehind_14

set_option maxHeartbeats 4000000 in
set_option maxRecDepth 100000 in
/-- varies behind -/
theorem co_A_setVaryingBehind {l : Launch} {dC : Nat → ClassId} {dI : Nat → Nat → Nat} {cI cZ : ClassId} {sz : Nat} {a0 s1 s2 s3 s4 s5 : Nat} {S C Wt SB CB : bc_F} {res : Int32} {v : Nat} (hv : v < 6) : Met l yn_A_setVaryingBehind (Cond.code yn_A_setVaryingBehind by_A_setVaryingBehind 2 none :: wd_all) ({ frames := 0, cells := 0, slots := 0, locals := 0 } : Room) (bc_Pre (dC, dI) classes [(cI, .int), (cZ, .boolean)] [.ref a0, .int (nI v)] [(a0, .inr (0, [.ref s1, .ref s2, .ref s3, .ref s4, .ref s5, .int res])), (s1, .inl (cI, 240, .inl S)), (s2, .inl (cI, 240, .inl C)), (s3, .inl (cZ, 40, .inl Wt)), (s4, .inl (cI, 6, .inl SB)), (s5, .inl (cI, 6, .inl CB))] sz) (va_Qv (fun (u : bc_F × bc_F) => u = (upd SB v 1, upd CB v 0)) (fun (u : bc_F × bc_F) t => bc_B (dC, dI) classes [(cI, .int), (cZ, .boolean)] (va_A [(a0, .inr (0, [.ref s1, .ref s2, .ref s3, .ref s4, .ref s5, .int res])), (s1, .inl (cI, 240, .inl S)), (s2, .inl (cI, 240, .inl C)), (s3, .inl (cZ, 40, .inl Wt)), (s4, .inl (cI, 6, .inl SB)), (s5, .inl (cI, 6, .inl CB))] sz) [(a0, .inr (0, [.ref s1, .ref s2, .ref s3, .ref s4, .ref s5, .int res])), (s1, .inl (cI, 240, .inl S)), (s2, .inl (cI, 240, .inl C)), (s3, .inl (cZ, 40, .inl Wt)), (s4, .inl (cI, 6, .inl u.1)), (s5, .inl (cI, 6, .inl u.2))] t) ((va_A [(a0, .inr (0, [.ref s1, .ref s2, .ref s3, .ref s4, .ref s5, .int res])), (s1, .inl (cI, 240, .inl S)), (s2, .inl (cI, 240, .inl C)), (s3, .inl (cZ, 40, .inl Wt)), (s4, .inl (cI, 6, .inl SB)), (s5, .inl (cI, 6, .inl CB))] sz))) 0 0 (va_A [(a0, .inr (0, [.ref s1, .ref s2, .ref s3, .ref s4, .ref s5, .int res])), (s1, .inl (cI, 240, .inl S)), (s2, .inl (cI, 240, .inl C)), (s3, .inl (cZ, 40, .inl Wt)), (s4, .inl (cI, 6, .inl SB)), (s5, .inl (cI, 6, .inl CB))] sz) := by
  refine bc_met (fun A => va_Qv (fun (u : bc_F × bc_F) => u = (upd SB v 1, upd CB v 0)) (fun (u : bc_F × bc_F) t => bc_B (dC, dI) classes [(cI, .int), (cZ, .boolean)] A [(a0, .inr (0, [.ref s1, .ref s2, .ref s3, .ref s4, .ref s5, .int res])), (s1, .inl (cI, 240, .inl S)), (s2, .inl (cI, 240, .inl C)), (s3, .inl (cZ, 40, .inl Wt)), (s4, .inl (cI, 6, .inl u.1)), (s5, .inl (cI, 6, .inl u.2))] t) A) (by decide) (Nat.le_of_ble_eq_true rfl) ?_
  intro p e s m args below meth c A ls F hr hlocks hin hA hP hD hl hS
  have hx := F.1
  have hb := F.2.1
  have hml := F.2.2.1
  have hown : s.vm.findClass "BranchConstants$Analysis" = some m.cls := F.2.2.2.1
  have htw := F.2.2.2.2.1
  have hN := F.2.2.2.2.2.1
  have hK := F.2.2.2.2.2.2
  have hl : lv_has ls 2 [(0, .ref a0), (1, .int (nI v))] := hl
  refine lv_aload_n hx hb de_A_setVaryingBehind_0 rfl (lv_at hl 0 rfl) ?_
  refine va_get (D := (dC, dI)) (ci := 0) (v := .ref s4) (C := rc_A) (T := fc_A) (N := 6) hx hb htw wi_A hown hK hP 0 rfl rfl 3 (by decide) (htw _ wm_48) (fun _ h9 => h9) rfl de_A_setVaryingBehind_1 ?_
  refine lv_iload_n hx hb de_A_setVaryingBehind_4 rfl (lv_at hl 1 rfl) ?_
  refine lv_iconst (v := 1) hx hb de_A_setVaryingBehind_5 (by decide) ?_
  refine bc_ist (j := v) hx hb hK hP hD hS 4 0 rfl rfl (by omega) (by decide) de_A_setVaryingBehind_6 (fun H locs hP hD hS => ?_)
  have hP : va_P (dC, dI) classes [(a0, .inr (0, [.ref s1, .ref s2, .ref s3, .ref s4, .ref s5, .int res])), (s1, .inl (cI, 240, .inl S)), (s2, .inl (cI, 240, .inl C)), (s3, .inl (cZ, 40, .inl Wt)), (s4, .inl (cI, 6, .inl (upd SB v 1))), (s5, .inl (cI, 6, .inl CB))] H := hP
  have hD : va_D A [(a0, .inr (0, [.ref s1, .ref s2, .ref s3, .ref s4, .ref s5, .int res])), (s1, .inl (cI, 240, .inl S)), (s2, .inl (cI, 240, .inl C)), (s3, .inl (cZ, 40, .inl Wt)), (s4, .inl (cI, 6, .inl (upd SB v 1))), (s5, .inl (cI, 6, .inl CB))] := hD
  refine lv_aload_n hx hb de_A_setVaryingBehind_7 rfl (lv_at hl 0 rfl) ?_
  refine va_get (D := (dC, dI)) (ci := 0) (v := .ref s5) (C := rc_A) (T := fc_A) (N := 6) hx hb htw wi_A hown hK hP 0 rfl rfl 4 (by decide) (htw _ wm_49) (fun _ h9 => h9) rfl de_A_setVaryingBehind_8 ?_
  refine lv_iload_n hx hb de_A_setVaryingBehind_11 rfl (lv_at hl 1 rfl) ?_
  refine lv_iconst (v := 0) hx hb de_A_setVaryingBehind_12 (by decide) ?_
  refine bc_ist (j := v) hx hb hK hP hD hS 5 0 rfl rfl (by omega) (by decide) de_A_setVaryingBehind_13 (fun H locs hP hD hS => ?_)
  have hP : va_P (dC, dI) classes [(a0, .inr (0, [.ref s1, .ref s2, .ref s3, .ref s4, .ref s5, .int res])), (s1, .inl (cI, 240, .inl S)), (s2, .inl (cI, 240, .inl C)), (s3, .inl (cZ, 40, .inl Wt)), (s4, .inl (cI, 6, .inl (upd SB v 1))), (s5, .inl (cI, 6, .inl (upd CB v 0)))] H := hP
  have hD : va_D A [(a0, .inr (0, [.ref s1, .ref s2, .ref s3, .ref s4, .ref s5, .int res])), (s1, .inl (cI, 240, .inl S)), (s2, .inl (cI, 240, .inl C)), (s3, .inl (cZ, 40, .inl Wt)), (s4, .inl (cI, 6, .inl (upd SB v 1))), (s5, .inl (cI, 6, .inl (upd CB v 0)))] := hD
  exact bc_vret F hr hlocks ((upd SB v 1, upd CB v 0)) rfl hP hD hS de_A_setVaryingBehind_14

set_option maxHeartbeats 4000000 in
set_option maxRecDepth 100000 in
/-- is it the constant 0 -/
theorem co_A_isConstantZero {l : Launch} {dC : Nat → ClassId} {dI : Nat → Nat → Nat} {cI cZ : ClassId} {sz : Nat} {a0 s1 s2 s3 s4 s5 : Nat} {S C Wt SB CB : bc_F} {res : Int32} {a : Nat} (ha : a < 240) : Met l yn_A_isConstantZero (Cond.code yn_A_isConstantZero by_A_isConstantZero 2 (some FieldType.boolean) :: wd_all) ({ frames := 0, cells := 0, slots := 0, locals := 0 } : Room) (bc_Pre (dC, dI) classes [(cI, .int), (cZ, .boolean)] [.ref a0, .int (nI a)] [(a0, .inr (0, [.ref s1, .ref s2, .ref s3, .ref s4, .ref s5, .int res])), (s1, .inl (cI, 240, .inl S)), (s2, .inl (cI, 240, .inl C)), (s3, .inl (cZ, 40, .inl Wt)), (s4, .inl (cI, 6, .inl SB)), (s5, .inl (cI, 6, .inl CB))] sz) (va_Qi (fun (r : Int32) (u : Unit) => (r = 1 ∧ (S a = 2 ∧ C a = 0)) ∨ (r = 0 ∧ ¬ (S a = 2 ∧ C a = 0))) (fun (u : Unit) t => bc_B (dC, dI) classes [(cI, .int), (cZ, .boolean)] (va_A [(a0, .inr (0, [.ref s1, .ref s2, .ref s3, .ref s4, .ref s5, .int res])), (s1, .inl (cI, 240, .inl S)), (s2, .inl (cI, 240, .inl C)), (s3, .inl (cZ, 40, .inl Wt)), (s4, .inl (cI, 6, .inl SB)), (s5, .inl (cI, 6, .inl CB))] sz) [(a0, .inr (0, [.ref s1, .ref s2, .ref s3, .ref s4, .ref s5, .int res])), (s1, .inl (cI, 240, .inl S)), (s2, .inl (cI, 240, .inl C)), (s3, .inl (cZ, 40, .inl Wt)), (s4, .inl (cI, 6, .inl SB)), (s5, .inl (cI, 6, .inl CB))] t) ((va_A [(a0, .inr (0, [.ref s1, .ref s2, .ref s3, .ref s4, .ref s5, .int res])), (s1, .inl (cI, 240, .inl S)), (s2, .inl (cI, 240, .inl C)), (s3, .inl (cZ, 40, .inl Wt)), (s4, .inl (cI, 6, .inl SB)), (s5, .inl (cI, 6, .inl CB))] sz))) 0 0 (va_A [(a0, .inr (0, [.ref s1, .ref s2, .ref s3, .ref s4, .ref s5, .int res])), (s1, .inl (cI, 240, .inl S)), (s2, .inl (cI, 240, .inl C)), (s3, .inl (cZ, 40, .inl Wt)), (s4, .inl (cI, 6, .inl SB)), (s5, .inl (cI, 6, .inl CB))] sz) := by
  refine bc_met (fun A => va_Qi (fun (r : Int32) (u : Unit) => (r = 1 ∧ (S a = 2 ∧ C a = 0)) ∨ (r = 0 ∧ ¬ (S a = 2 ∧ C a = 0))) (fun (u : Unit) t => bc_B (dC, dI) classes [(cI, .int), (cZ, .boolean)] A [(a0, .inr (0, [.ref s1, .ref s2, .ref s3, .ref s4, .ref s5, .int res])), (s1, .inl (cI, 240, .inl S)), (s2, .inl (cI, 240, .inl C)), (s3, .inl (cZ, 40, .inl Wt)), (s4, .inl (cI, 6, .inl SB)), (s5, .inl (cI, 6, .inl CB))] t) A) (by decide) (Nat.le_of_ble_eq_true rfl) ?_
  intro p e s m args below meth c A ls F hr hlocks hin hA hP hD hl hS
  have hx := F.1
  have hb := F.2.1
  have hml := F.2.2.1
  have hown : s.vm.findClass "BranchConstants$Analysis" = some m.cls := F.2.2.2.1
  have htw := F.2.2.2.2.1
  have hN := F.2.2.2.2.2.1
  have hK := F.2.2.2.2.2.2
  have hl : lv_has ls 2 [(0, .ref a0), (1, .int (nI a))] := hl
  refine lv_aload_n hx hb de_A_isConstantZero_0 rfl (lv_at hl 0 rfl) ?_
  refine va_get (D := (dC, dI)) (ci := 0) (v := .ref s1) (C := rc_A) (T := fc_A) (N := 6) hx hb htw wi_A hown hK hP 0 rfl rfl 0 (by decide) (htw _ wm_45) (fun _ h9 => h9) rfl de_A_isConstantZero_1 ?_
  refine lv_iload_n hx hb de_A_isConstantZero_4 rfl (lv_at hl 1 rfl) ?_
  refine bc_ild (j := a) hx hb hK hP 1 0 rfl rfl (by omega) (by decide) de_A_isConstantZero_5 ?_
  refine lv_iconst (v := 2) hx hb de_A_isConstantZero_6 (by decide) ?_
  refine lv_icmp_ne (tgt := 23) hx hb de_A_isConstantZero_7 (by decide) (fun hc_7 => ?_) (fun hc_7 => ?_)
  · refine lv_iconst (v := 0) hx hb de_A_isConstantZero_23 (by decide) ?_
    exact bc_zret F hr hlocks rfl (()) (Or.inr ⟨rfl, fun z => hc_7 z.1⟩) hP hD hS de_A_isConstantZero_24
  · refine lv_aload_n hx hb de_A_isConstantZero_10 rfl (lv_at hl 0 rfl) ?_
    refine va_get (D := (dC, dI)) (ci := 0) (v := .ref s2) (C := rc_A) (T := fc_A) (N := 6) hx hb htw wi_A hown hK hP 0 rfl rfl 1 (by decide) (htw _ wm_46) (fun _ h9 => h9) rfl de_A_isConstantZero_11 ?_
    refine lv_iload_n hx hb de_A_isConstantZero_14 rfl (lv_at hl 1 rfl) ?_
    refine bc_ild (j := a) hx hb hK hP 2 0 rfl rfl (by omega) (by decide) de_A_isConstantZero_15 ?_
    refine lv_if_ne (tgt := 23) hx hb de_A_isConstantZero_16 (by decide) (fun hc_16 => ?_) (fun hc_16 => ?_)
    · refine lv_iconst (v := 0) hx hb de_A_isConstantZero_23 (by decide) ?_
      exact bc_zret F hr hlocks rfl (()) (Or.inr ⟨rfl, fun z => hc_16 z.2⟩) hP hD hS de_A_isConstantZero_24
    · refine lv_iconst (v := 1) hx hb de_A_isConstantZero_19 (by decide) ?_
      refine lv_goto (tgt := 24) hx hb de_A_isConstantZero_20 (by decide) ?_
      exact bc_zret F hr hlocks rfl (()) (Or.inl ⟨rfl, hc_7, hc_16⟩) hP hD hS de_A_isConstantZero_24

set_option maxHeartbeats 4000000 in
set_option maxRecDepth 100000 in
/-- is the tested variable a constant -/
theorem co_A_hasConstantTest {l : Launch} {dC : Nat → ClassId} {dI : Nat → Nat → Nat} {cI cZ : ClassId} {sz : Nat} {a0 s1 s2 s3 s4 s5 : Nat} {S C Wt SB CB : bc_F} {res : Int32}{h0 q1 q2 q3 q4 n : Nat} {K O T Z : bc_F} {i o : Nat} (hi : i < 40) (eO : O i = nI o) (ho : o < 6) : Met l yn_A_hasConstantTest (Cond.code yn_A_hasConstantTest by_A_hasConstantTest 3 (some FieldType.boolean) :: wd_all) ({ frames := 1, cells := 0, slots := 0, locals := 21 } : Room) (bc_Pre (dC, dI) classes [(cI, .int), (cZ, .boolean)] [.ref a0, .ref h0, .int (nI i)] [(a0, .inr (0, [.ref s1, .ref s2, .ref s3, .ref s4, .ref s5, .int res])), (s1, .inl (cI, 240, .inl S)), (s2, .inl (cI, 240, .inl C)), (s3, .inl (cZ, 40, .inl Wt)), (s4, .inl (cI, 6, .inl SB)), (s5, .inl (cI, 6, .inl CB)), (h0, .inr (1, [.ref q1, .ref q2, .ref q3, .ref q4, .int (nI n)])), (q1, .inl (cI, 40, .inl K)), (q2, .inl (cI, 40, .inl O)), (q3, .inl (cI, 40, .inl T)), (q4, .inl (cI, 40, .inl Z))] sz) (va_Qi (fun (r : Int32) (u : Unit) => (r = 1 ∧ S (6 * i + o) = 2) ∨ (r = 0 ∧ ¬ S (6 * i + o) = 2)) (fun (u : Unit) t => bc_B (dC, dI) classes [(cI, .int), (cZ, .boolean)] (va_A [(a0, .inr (0, [.ref s1, .ref s2, .ref s3, .ref s4, .ref s5, .int res])), (s1, .inl (cI, 240, .inl S)), (s2, .inl (cI, 240, .inl C)), (s3, .inl (cZ, 40, .inl Wt)), (s4, .inl (cI, 6, .inl SB)), (s5, .inl (cI, 6, .inl CB)), (h0, .inr (1, [.ref q1, .ref q2, .ref q3, .ref q4, .int (nI n)])), (q1, .inl (cI, 40, .inl K)), (q2, .inl (cI, 40, .inl O)), (q3, .inl (cI, 40, .inl T)), (q4, .inl (cI, 40, .inl Z))] sz) [(a0, .inr (0, [.ref s1, .ref s2, .ref s3, .ref s4, .ref s5, .int res])), (s1, .inl (cI, 240, .inl S)), (s2, .inl (cI, 240, .inl C)), (s3, .inl (cZ, 40, .inl Wt)), (s4, .inl (cI, 6, .inl SB)), (s5, .inl (cI, 6, .inl CB)), (h0, .inr (1, [.ref q1, .ref q2, .ref q3, .ref q4, .int (nI n)])), (q1, .inl (cI, 40, .inl K)), (q2, .inl (cI, 40, .inl O)), (q3, .inl (cI, 40, .inl T)), (q4, .inl (cI, 40, .inl Z))] t) ((va_A [(a0, .inr (0, [.ref s1, .ref s2, .ref s3, .ref s4, .ref s5, .int res])), (s1, .inl (cI, 240, .inl S)), (s2, .inl (cI, 240, .inl C)), (s3, .inl (cZ, 40, .inl Wt)), (s4, .inl (cI, 6, .inl SB)), (s5, .inl (cI, 6, .inl CB)), (h0, .inr (1, [.ref q1, .ref q2, .ref q3, .ref q4, .int (nI n)])), (q1, .inl (cI, 40, .inl K)), (q2, .inl (cI, 40, .inl O)), (q3, .inl (cI, 40, .inl T)), (q4, .inl (cI, 40, .inl Z))] sz))) 0 0 (va_A [(a0, .inr (0, [.ref s1, .ref s2, .ref s3, .ref s4, .ref s5, .int res])), (s1, .inl (cI, 240, .inl S)), (s2, .inl (cI, 240, .inl C)), (s3, .inl (cZ, 40, .inl Wt)), (s4, .inl (cI, 6, .inl SB)), (s5, .inl (cI, 6, .inl CB)), (h0, .inr (1, [.ref q1, .ref q2, .ref q3, .ref q4, .int (nI n)])), (q1, .inl (cI, 40, .inl K)), (q2, .inl (cI, 40, .inl O)), (q3, .inl (cI, 40, .inl T)), (q4, .inl (cI, 40, .inl Z))] sz) := by
  refine bc_met (fun A => va_Qi (fun (r : Int32) (u : Unit) => (r = 1 ∧ S (6 * i + o) = 2) ∨ (r = 0 ∧ ¬ S (6 * i + o) = 2)) (fun (u : Unit) t => bc_B (dC, dI) classes [(cI, .int), (cZ, .boolean)] A [(a0, .inr (0, [.ref s1, .ref s2, .ref s3, .ref s4, .ref s5, .int res])), (s1, .inl (cI, 240, .inl S)), (s2, .inl (cI, 240, .inl C)), (s3, .inl (cZ, 40, .inl Wt)), (s4, .inl (cI, 6, .inl SB)), (s5, .inl (cI, 6, .inl CB)), (h0, .inr (1, [.ref q1, .ref q2, .ref q3, .ref q4, .int (nI n)])), (q1, .inl (cI, 40, .inl K)), (q2, .inl (cI, 40, .inl O)), (q3, .inl (cI, 40, .inl T)), (q4, .inl (cI, 40, .inl Z))] t) A) (by decide) (Nat.le_of_ble_eq_true rfl) ?_
  intro p e s m args below meth c A ls F hr hlocks hin hA hP hD hl hS
  have hx := F.1
  have hb := F.2.1
  have hml := F.2.2.1
  have hown : s.vm.findClass "BranchConstants$Analysis" = some m.cls := F.2.2.2.1
  have htw := F.2.2.2.2.1
  have hN := F.2.2.2.2.2.1
  have hK := F.2.2.2.2.2.2
  have hl : lv_has ls 3 [(0, .ref a0), (1, .ref h0), (2, .int (nI i))] := hl
  refine lv_aload_n hx hb de_A_hasConstantTest_0 rfl (lv_at hl 0 rfl) ?_
  refine va_get (D := (dC, dI)) (ci := 0) (v := .ref s1) (C := rc_A) (T := fc_A) (N := 6) hx hb htw wi_A hown hK hP 0 rfl rfl 0 (by decide) (htw _ wm_45) (fun _ h9 => h9) rfl de_A_hasConstantTest_1 ?_
  refine lv_iload_n hx hb de_A_hasConstantTest_4 rfl (lv_at hl 2 rfl) ?_
  refine lv_aload_n hx hb de_A_hasConstantTest_5 rfl (lv_at hl 1 rfl) ?_
  refine va_getN (D := (dC, dI)) (ci := 1) (v := .ref q2) (C := rc_C) (T := fc_C) (N := 5) hx hb htw wi_C hown hK hP 6 rfl rfl 1 (by decide) (va_Nw.use rfl (hN _ nm_5)) (fun _ h9 => h9) rfl de_A_hasConstantTest_6 ?_
  refine lv_iload_n hx hb de_A_hasConstantTest_9 rfl (lv_at hl 2 rfl) ?_
  refine bc_ild (j := i) hx hb hK hP 8 0 rfl rfl (by omega) (by decide) de_A_hasConstantTest_10 ?_
  refine bc_ti (y := nI o) eO ?_
  refine bc_call_ns_i (As := [.int (nI i), .int (nI o)]) (rest := [.ref s1]) (wr := [(a0, .inr (0, [.ref s1, .ref s2, .ref s3, .ref s4, .ref s5, .int res])), (s1, .inl (cI, 240, .inl S)), (s2, .inl (cI, 240, .inl C)), (s3, .inl (cZ, 40, .inl Wt)), (s4, .inl (cI, 6, .inl SB)), (s5, .inl (cI, 6, .inl CB)), (h0, .inr (1, [.ref q1, .ref q2, .ref q3, .ref q4, .int (nI n)])), (q1, .inl (cI, 40, .inl K)), (q2, .inl (cI, 40, .inl O)), (q3, .inl (cI, 40, .inl T)), (q4, .inl (cI, 40, .inl Z))]) F (co_B_cell) wm_127 wm_1 nm_28 wm_126 pd_B_cell rfl rfl ⟨Nat.le_of_ble_eq_true rfl, Nat.le_of_ble_eq_true rfl⟩ hP hD hS hA [] [0, 1, 2, 3, 4, 5, 6, 7, 8, 9, 10] rfl rfl rfl rfl (by decide) rfl hl.1 rfl (Nat.le_of_ble_eq_true rfl) de_A_hasConstantTest_11 ⟨Nat.le_of_ble_eq_true rfl, Nat.le_of_ble_eq_true rfl⟩ (fun r_11 u H locs hw_11 hP hD hS => ?_)
  have hP : va_P (dC, dI) classes [(a0, .inr (0, [.ref s1, .ref s2, .ref s3, .ref s4, .ref s5, .int res])), (s1, .inl (cI, 240, .inl S)), (s2, .inl (cI, 240, .inl C)), (s3, .inl (cZ, 40, .inl Wt)), (s4, .inl (cI, 6, .inl SB)), (s5, .inl (cI, 6, .inl CB)), (h0, .inr (1, [.ref q1, .ref q2, .ref q3, .ref q4, .int (nI n)])), (q1, .inl (cI, 40, .inl K)), (q2, .inl (cI, 40, .inl O)), (q3, .inl (cI, 40, .inl T)), (q4, .inl (cI, 40, .inl Z))] H := hP.sub [0, 1, 2, 3, 4, 5, 6, 7, 8, 9, 10] rfl
  have hD : va_D A [(a0, .inr (0, [.ref s1, .ref s2, .ref s3, .ref s4, .ref s5, .int res])), (s1, .inl (cI, 240, .inl S)), (s2, .inl (cI, 240, .inl C)), (s3, .inl (cZ, 40, .inl Wt)), (s4, .inl (cI, 6, .inl SB)), (s5, .inl (cI, 6, .inl CB)), (h0, .inr (1, [.ref q1, .ref q2, .ref q3, .ref q4, .int (nI n)])), (q1, .inl (cI, 40, .inl K)), (q2, .inl (cI, 40, .inl O)), (q3, .inl (cI, 40, .inl T)), (q4, .inl (cI, 40, .inl Z))] := hD.sub [0, 1, 2, 3, 4, 5, 6, 7, 8, 9, 10] (by decide) rfl
  subst hw_11
  refine bc_ild (j := 6 * i + o) hx hb hK hP 1 0 rfl rfl (by omega) (by decide) de_A_hasConstantTest_14 ?_
  refine lv_iconst (v := 2) hx hb de_A_hasConstantTest_15 (by decide) ?_
  refine lv_icmp_ne (tgt := 23) hx hb de_A_hasConstantTest_16 (by decide) (fun hc_16 => ?_) (fun hc_16 => ?_)
  · refine lv_iconst (v := 0) hx hb de_A_hasConstantTest_23 (by decide) ?_
    exact bc_zret F hr hlocks rfl (()) (Or.inr ⟨rfl, hc_16⟩) hP hD hS de_A_hasConstantTest_24
  · refine lv_iconst (v := 1) hx hb de_A_hasConstantTest_19 (by decide) ?_
    refine lv_goto (tgt := 24) hx hb de_A_hasConstantTest_20 (by decide) ?_
    exact bc_zret F hr hlocks rfl (()) (Or.inl ⟨rfl, hc_16⟩) hP hD hS de_A_hasConstantTest_24

set_option maxHeartbeats 4000000 in
set_option maxRecDepth 100000 in
/-- where a constant test goes -/
theorem co_A_wayOfConstantTest {l : Launch} {dC : Nat → ClassId} {dI : Nat → Nat → Nat} {cI cZ : ClassId} {sz : Nat} {a0 s1 s2 s3 s4 s5 : Nat} {S C Wt SB CB : bc_F} {res : Int32}{h0 q1 q2 q3 q4 n : Nat} {K O T Z : bc_F} {i o : Nat} (hi : i < 40) (hn : n ≤ 40) (eO : O i = nI o) (ho : o < 6) (ht : bc_tr (T i)) : Met l yn_A_wayOfConstantTest (Cond.code yn_A_wayOfConstantTest by_A_wayOfConstantTest 3 (some FieldType.int) :: wd_all) ({ frames := 1, cells := 0, slots := 0, locals := 21 } : Room) (bc_Pre (dC, dI) classes [(cI, .int), (cZ, .boolean)] [.ref a0, .ref h0, .int (nI i)] [(a0, .inr (0, [.ref s1, .ref s2, .ref s3, .ref s4, .ref s5, .int res])), (s1, .inl (cI, 240, .inl S)), (s2, .inl (cI, 240, .inl C)), (s3, .inl (cZ, 40, .inl Wt)), (s4, .inl (cI, 6, .inl SB)), (s5, .inl (cI, 6, .inl CB)), (h0, .inr (1, [.ref q1, .ref q2, .ref q3, .ref q4, .int (nI n)])), (q1, .inl (cI, 40, .inl K)), (q2, .inl (cI, 40, .inl O)), (q3, .inl (cI, 40, .inl T)), (q4, .inl (cI, 40, .inl Z))] sz) (va_Qi (fun (r : Int32) (u : Unit) => (C (6 * i + o) = 0 → r = nI (bc_tn n (T i))) ∧ (¬ C (6 * i + o) = 0 → r = nI (i + 1))) (fun (u : Unit) t => bc_B (dC, dI) classes [(cI, .int), (cZ, .boolean)] (va_A [(a0, .inr (0, [.ref s1, .ref s2, .ref s3, .ref s4, .ref s5, .int res])), (s1, .inl (cI, 240, .inl S)), (s2, .inl (cI, 240, .inl C)), (s3, .inl (cZ, 40, .inl Wt)), (s4, .inl (cI, 6, .inl SB)), (s5, .inl (cI, 6, .inl CB)), (h0, .inr (1, [.ref q1, .ref q2, .ref q3, .ref q4, .int (nI n)])), (q1, .inl (cI, 40, .inl K)), (q2, .inl (cI, 40, .inl O)), (q3, .inl (cI, 40, .inl T)), (q4, .inl (cI, 40, .inl Z))] sz) [(a0, .inr (0, [.ref s1, .ref s2, .ref s3, .ref s4, .ref s5, .int res])), (s1, .inl (cI, 240, .inl S)), (s2, .inl (cI, 240, .inl C)), (s3, .inl (cZ, 40, .inl Wt)), (s4, .inl (cI, 6, .inl SB)), (s5, .inl (cI, 6, .inl CB)), (h0, .inr (1, [.ref q1, .ref q2, .ref q3, .ref q4, .int (nI n)])), (q1, .inl (cI, 40, .inl K)), (q2, .inl (cI, 40, .inl O)), (q3, .inl (cI, 40, .inl T)), (q4, .inl (cI, 40, .inl Z))] t) ((va_A [(a0, .inr (0, [.ref s1, .ref s2, .ref s3, .ref s4, .ref s5, .int res])), (s1, .inl (cI, 240, .inl S)), (s2, .inl (cI, 240, .inl C)), (s3, .inl (cZ, 40, .inl Wt)), (s4, .inl (cI, 6, .inl SB)), (s5, .inl (cI, 6, .inl CB)), (h0, .inr (1, [.ref q1, .ref q2, .ref q3, .ref q4, .int (nI n)])), (q1, .inl (cI, 40, .inl K)), (q2, .inl (cI, 40, .inl O)), (q3, .inl (cI, 40, .inl T)), (q4, .inl (cI, 40, .inl Z))] sz))) 0 0 (va_A [(a0, .inr (0, [.ref s1, .ref s2, .ref s3, .ref s4, .ref s5, .int res])), (s1, .inl (cI, 240, .inl S)), (s2, .inl (cI, 240, .inl C)), (s3, .inl (cZ, 40, .inl Wt)), (s4, .inl (cI, 6, .inl SB)), (s5, .inl (cI, 6, .inl CB)), (h0, .inr (1, [.ref q1, .ref q2, .ref q3, .ref q4, .int (nI n)])), (q1, .inl (cI, 40, .inl K)), (q2, .inl (cI, 40, .inl O)), (q3, .inl (cI, 40, .inl T)), (q4, .inl (cI, 40, .inl Z))] sz) := by
  refine bc_met (fun A => va_Qi (fun (r : Int32) (u : Unit) => (C (6 * i + o) = 0 → r = nI (bc_tn n (T i))) ∧ (¬ C (6 * i + o) = 0 → r = nI (i + 1))) (fun (u : Unit) t => bc_B (dC, dI) classes [(cI, .int), (cZ, .boolean)] A [(a0, .inr (0, [.ref s1, .ref s2, .ref s3, .ref s4, .ref s5, .int res])), (s1, .inl (cI, 240, .inl S)), (s2, .inl (cI, 240, .inl C)), (s3, .inl (cZ, 40, .inl Wt)), (s4, .inl (cI, 6, .inl SB)), (s5, .inl (cI, 6, .inl CB)), (h0, .inr (1, [.ref q1, .ref q2, .ref q3, .ref q4, .int (nI n)])), (q1, .inl (cI, 40, .inl K)), (q2, .inl (cI, 40, .inl O)), (q3, .inl (cI, 40, .inl T)), (q4, .inl (cI, 40, .inl Z))] t) A) (by decide) (Nat.le_of_ble_eq_true rfl) ?_
  intro p e s m args below meth c A ls F hr hlocks hin hA hP hD hl hS
  have hx := F.1
  have hb := F.2.1
  have hml := F.2.2.1
  have hown : s.vm.findClass "BranchConstants$Analysis" = some m.cls := F.2.2.2.1
  have htw := F.2.2.2.2.1
  have hN := F.2.2.2.2.2.1
  have hK := F.2.2.2.2.2.2
  have hl : lv_has ls 3 [(0, .ref a0), (1, .ref h0), (2, .int (nI i))] := hl
  refine lv_aload_n hx hb de_A_wayOfConstantTest_0 rfl (lv_at hl 0 rfl) ?_
  refine va_get (D := (dC, dI)) (ci := 0) (v := .ref s2) (C := rc_A) (T := fc_A) (N := 6) hx hb htw wi_A hown hK hP 0 rfl rfl 1 (by decide) (htw _ wm_46) (fun _ h9 => h9) rfl de_A_wayOfConstantTest_1 ?_
  refine lv_iload_n hx hb de_A_wayOfConstantTest_4 rfl (lv_at hl 2 rfl) ?_
  refine lv_aload_n hx hb de_A_wayOfConstantTest_5 rfl (lv_at hl 1 rfl) ?_
  refine va_getN (D := (dC, dI)) (ci := 1) (v := .ref q2) (C := rc_C) (T := fc_C) (N := 5) hx hb htw wi_C hown hK hP 6 rfl rfl 1 (by decide) (va_Nw.use rfl (hN _ nm_5)) (fun _ h9 => h9) rfl de_A_wayOfConstantTest_6 ?_
  refine lv_iload_n hx hb de_A_wayOfConstantTest_9 rfl (lv_at hl 2 rfl) ?_
  refine bc_ild (j := i) hx hb hK hP 8 0 rfl rfl (by omega) (by decide) de_A_wayOfConstantTest_10 ?_
  refine bc_ti (y := nI o) eO ?_
  refine bc_call_ns_i (As := [.int (nI i), .int (nI o)]) (rest := [.ref s2]) (wr := [(a0, .inr (0, [.ref s1, .ref s2, .ref s3, .ref s4, .ref s5, .int res])), (s1, .inl (cI, 240, .inl S)), (s2, .inl (cI, 240, .inl C)), (s3, .inl (cZ, 40, .inl Wt)), (s4, .inl (cI, 6, .inl SB)), (s5, .inl (cI, 6, .inl CB)), (h0, .inr (1, [.ref q1, .ref q2, .ref q3, .ref q4, .int (nI n)])), (q1, .inl (cI, 40, .inl K)), (q2, .inl (cI, 40, .inl O)), (q3, .inl (cI, 40, .inl T)), (q4, .inl (cI, 40, .inl Z))]) F (co_B_cell) wm_127 wm_1 nm_28 wm_126 pd_B_cell rfl rfl ⟨Nat.le_of_ble_eq_true rfl, Nat.le_of_ble_eq_true rfl⟩ hP hD hS hA [] [0, 1, 2, 3, 4, 5, 6, 7, 8, 9, 10] rfl rfl rfl rfl (by decide) rfl hl.1 rfl (Nat.le_of_ble_eq_true rfl) de_A_wayOfConstantTest_11 ⟨Nat.le_of_ble_eq_true rfl, Nat.le_of_ble_eq_true rfl⟩ (fun r_11 u H locs hw_11 hP hD hS => ?_)
  have hP : va_P (dC, dI) classes [(a0, .inr (0, [.ref s1, .ref s2, .ref s3, .ref s4, .ref s5, .int res])), (s1, .inl (cI, 240, .inl S)), (s2, .inl (cI, 240, .inl C)), (s3, .inl (cZ, 40, .inl Wt)), (s4, .inl (cI, 6, .inl SB)), (s5, .inl (cI, 6, .inl CB)), (h0, .inr (1, [.ref q1, .ref q2, .ref q3, .ref q4, .int (nI n)])), (q1, .inl (cI, 40, .inl K)), (q2, .inl (cI, 40, .inl O)), (q3, .inl (cI, 40, .inl T)), (q4, .inl (cI, 40, .inl Z))] H := hP.sub [0, 1, 2, 3, 4, 5, 6, 7, 8, 9, 10] rfl
  have hD : va_D A [(a0, .inr (0, [.ref s1, .ref s2, .ref s3, .ref s4, .ref s5, .int res])), (s1, .inl (cI, 240, .inl S)), (s2, .inl (cI, 240, .inl C)), (s3, .inl (cZ, 40, .inl Wt)), (s4, .inl (cI, 6, .inl SB)), (s5, .inl (cI, 6, .inl CB)), (h0, .inr (1, [.ref q1, .ref q2, .ref q3, .ref q4, .int (nI n)])), (q1, .inl (cI, 40, .inl K)), (q2, .inl (cI, 40, .inl O)), (q3, .inl (cI, 40, .inl T)), (q4, .inl (cI, 40, .inl Z))] := hD.sub [0, 1, 2, 3, 4, 5, 6, 7, 8, 9, 10] (by decide) rfl
  subst hw_11
  refine bc_ild (j := 6 * i + o) hx hb hK hP 2 0 rfl rfl (by omega) (by decide) de_A_wayOfConstantTest_14 ?_
  refine lv_if_ne (tgt := 26) hx hb de_A_wayOfConstantTest_15 (by decide) (fun hc_15 => ?_) (fun hc_15 => ?_)
  · refine lv_iload_n hx hb de_A_wayOfConstantTest_26 rfl (lv_at hl 2 rfl) ?_
    refine lv_iconst (v := 1) hx hb de_A_wayOfConstantTest_27 (by decide) ?_
    refine lv_iadd hx hb de_A_wayOfConstantTest_28 ?_
    refine bc_ti (y := nI (i + 1)) (nI_1 i) ?_
    exact bc_iret F hr hlocks (()) ⟨fun z => absurd z hc_15, fun _ => rfl⟩ hP hD hS de_A_wayOfConstantTest_29
  · refine lv_aload_n hx hb de_A_wayOfConstantTest_18 rfl (lv_at hl 1 rfl) ?_
    refine lv_iload_n hx hb de_A_wayOfConstantTest_19 rfl (lv_at hl 2 rfl) ?_
    refine bc_call_nv_i (As := [.int (nI i)]) (rest := []) (wr := [(a0, .inr (0, [.ref s1, .ref s2, .ref s3, .ref s4, .ref s5, .int res])), (s1, .inl (cI, 240, .inl S)), (s2, .inl (cI, 240, .inl C)), (s3, .inl (cZ, 40, .inl Wt)), (s4, .inl (cI, 6, .inl SB)), (s5, .inl (cI, 6, .inl CB))]) F (co_C_target hi hn ht) wm_154 wm_2 nm_31 wm_153 wm_601 6 rfl rfl pd_C_target rfl rfl ⟨Nat.le_of_ble_eq_true rfl, Nat.le_of_ble_eq_true rfl⟩ hP hD hS hA [6, 7, 8, 9, 10] [0, 1, 2, 3, 4, 5] rfl rfl rfl rfl (by decide) rfl hl.1 rfl (Nat.le_of_ble_eq_true rfl) de_A_wayOfConstantTest_20 ⟨Nat.le_of_ble_eq_true rfl, Nat.le_of_ble_eq_true rfl⟩ (fun r_20 u H locs hw_20 hP hD hS => ?_)
    have hP : va_P (dC, dI) classes [(a0, .inr (0, [.ref s1, .ref s2, .ref s3, .ref s4, .ref s5, .int res])), (s1, .inl (cI, 240, .inl S)), (s2, .inl (cI, 240, .inl C)), (s3, .inl (cZ, 40, .inl Wt)), (s4, .inl (cI, 6, .inl SB)), (s5, .inl (cI, 6, .inl CB)), (h0, .inr (1, [.ref q1, .ref q2, .ref q3, .ref q4, .int (nI n)])), (q1, .inl (cI, 40, .inl K)), (q2, .inl (cI, 40, .inl O)), (q3, .inl (cI, 40, .inl T)), (q4, .inl (cI, 40, .inl Z))] H := hP.sub [0, 1, 2, 3, 4, 5, 6, 7, 8, 9, 10] rfl
    have hD : va_D A [(a0, .inr (0, [.ref s1, .ref s2, .ref s3, .ref s4, .ref s5, .int res])), (s1, .inl (cI, 240, .inl S)), (s2, .inl (cI, 240, .inl C)), (s3, .inl (cZ, 40, .inl Wt)), (s4, .inl (cI, 6, .inl SB)), (s5, .inl (cI, 6, .inl CB)), (h0, .inr (1, [.ref q1, .ref q2, .ref q3, .ref q4, .int (nI n)])), (q1, .inl (cI, 40, .inl K)), (q2, .inl (cI, 40, .inl O)), (q3, .inl (cI, 40, .inl T)), (q4, .inl (cI, 40, .inl Z))] := hD.sub [0, 1, 2, 3, 4, 5, 6, 7, 8, 9, 10] (by decide) rfl
    subst hw_20
    refine lv_goto (tgt := 29) hx hb de_A_wayOfConstantTest_23 (by decide) ?_
    exact bc_iret F hr hlocks (()) ⟨fun _ => rfl, fun z => absurd hc_15 z⟩ hP hD hS de_A_wayOfConstantTest_29

set_option maxHeartbeats 4000000 in
set_option maxRecDepth 100000 in
/-- is it reached -/
theorem co_A_isReached {l : Launch} {dC : Nat → ClassId} {dI : Nat → Nat → Nat} {cI cZ : ClassId} {sz : Nat} {a0 s1 s2 s3 s4 s5 : Nat} {S C Wt SB CB : bc_F} {res : Int32} {i : Nat} (hi : i < 40) : Met l yn_A_isReached (Cond.code yn_A_isReached by_A_isReached 2 (some FieldType.boolean) :: wd_all) ({ frames := 1, cells := 0, slots := 0, locals := 21 } : Room) (bc_Pre (dC, dI) classes [(cI, .int), (cZ, .boolean)] [.ref a0, .int (nI i)] [(a0, .inr (0, [.ref s1, .ref s2, .ref s3, .ref s4, .ref s5, .int res])), (s1, .inl (cI, 240, .inl S)), (s2, .inl (cI, 240, .inl C)), (s3, .inl (cZ, 40, .inl Wt)), (s4, .inl (cI, 6, .inl SB)), (s5, .inl (cI, 6, .inl CB))] sz) (va_Qi (fun (r : Int32) (u : Unit) => (r = 1 ∧ ¬ S (6 * i + 0) = 0) ∨ (r = 0 ∧ S (6 * i + 0) = 0)) (fun (u : Unit) t => bc_B (dC, dI) classes [(cI, .int), (cZ, .boolean)] (va_A [(a0, .inr (0, [.ref s1, .ref s2, .ref s3, .ref s4, .ref s5, .int res])), (s1, .inl (cI, 240, .inl S)), (s2, .inl (cI, 240, .inl C)), (s3, .inl (cZ, 40, .inl Wt)), (s4, .inl (cI, 6, .inl SB)), (s5, .inl (cI, 6, .inl CB))] sz) [(a0, .inr (0, [.ref s1, .ref s2, .ref s3, .ref s4, .ref s5, .int res])), (s1, .inl (cI, 240, .inl S)), (s2, .inl (cI, 240, .inl C)), (s3, .inl (cZ, 40, .inl Wt)), (s4, .inl (cI, 6, .inl SB)), (s5, .inl (cI, 6, .inl CB))] t) ((va_A [(a0, .inr (0, [.ref s1, .ref s2, .ref s3, .ref s4, .ref s5, .int res])), (s1, .inl (cI, 240, .inl S)), (s2, .inl (cI, 240, .inl C)), (s3, .inl (cZ, 40, .inl Wt)), (s4, .inl (cI, 6, .inl SB)), (s5, .inl (cI, 6, .inl CB))] sz))) 0 0 (va_A [(a0, .inr (0, [.ref s1, .ref s2, .ref s3, .ref s4, .ref s5, .int res])), (s1, .inl (cI, 240, .inl S)), (s2, .inl (cI, 240, .inl C)), (s3, .inl (cZ, 40, .inl Wt)), (s4, .inl (cI, 6, .inl SB)), (s5, .inl (cI, 6, .inl CB))] sz) := by
  refine bc_met (fun A => va_Qi (fun (r : Int32) (u : Unit) => (r = 1 ∧ ¬ S (6 * i + 0) = 0) ∨ (r = 0 ∧ S (6 * i + 0) = 0)) (fun (u : Unit) t => bc_B (dC, dI) classes [(cI, .int), (cZ, .boolean)] A [(a0, .inr (0, [.ref s1, .ref s2, .ref s3, .ref s4, .ref s5, .int res])), (s1, .inl (cI, 240, .inl S)), (s2, .inl (cI, 240, .inl C)), (s3, .inl (cZ, 40, .inl Wt)), (s4, .inl (cI, 6, .inl SB)), (s5, .inl (cI, 6, .inl CB))] t) A) (by decide) (Nat.le_of_ble_eq_true rfl) ?_
  intro p e s m args below meth c A ls F hr hlocks hin hA hP hD hl hS
  have hx := F.1
  have hb := F.2.1
  have hml := F.2.2.1
  have hown : s.vm.findClass "BranchConstants$Analysis" = some m.cls := F.2.2.2.1
  have htw := F.2.2.2.2.1
  have hN := F.2.2.2.2.2.1
  have hK := F.2.2.2.2.2.2
  have hl : lv_has ls 2 [(0, .ref a0), (1, .int (nI i))] := hl
  refine lv_aload_n hx hb de_A_isReached_0 rfl (lv_at hl 0 rfl) ?_
  refine va_get (D := (dC, dI)) (ci := 0) (v := .ref s1) (C := rc_A) (T := fc_A) (N := 6) hx hb htw wi_A hown hK hP 0 rfl rfl 0 (by decide) (htw _ wm_45) (fun _ h9 => h9) rfl de_A_isReached_1 ?_
  refine lv_iload_n hx hb de_A_isReached_4 rfl (lv_at hl 1 rfl) ?_
  refine lv_iconst (v := 0) hx hb de_A_isReached_5 (by decide) ?_
  refine bc_ti (y := nI 0) nI_0.symm ?_
  refine bc_call_ns_i (As := [.int (nI i), .int (nI 0)]) (rest := [.ref s1]) (wr := [(a0, .inr (0, [.ref s1, .ref s2, .ref s3, .ref s4, .ref s5, .int res])), (s1, .inl (cI, 240, .inl S)), (s2, .inl (cI, 240, .inl C)), (s3, .inl (cZ, 40, .inl Wt)), (s4, .inl (cI, 6, .inl SB)), (s5, .inl (cI, 6, .inl CB))]) F (co_B_cell) wm_127 wm_1 nm_28 wm_126 pd_B_cell rfl rfl ⟨Nat.le_of_ble_eq_true rfl, Nat.le_of_ble_eq_true rfl⟩ hP hD hS hA [] [0, 1, 2, 3, 4, 5] rfl rfl rfl rfl (by decide) rfl hl.1 rfl (Nat.le_of_ble_eq_true rfl) de_A_isReached_6 ⟨Nat.le_of_ble_eq_true rfl, Nat.le_of_ble_eq_true rfl⟩ (fun r_6 u H locs hw_6 hP hD hS => ?_)
  have hP : va_P (dC, dI) classes [(a0, .inr (0, [.ref s1, .ref s2, .ref s3, .ref s4, .ref s5, .int res])), (s1, .inl (cI, 240, .inl S)), (s2, .inl (cI, 240, .inl C)), (s3, .inl (cZ, 40, .inl Wt)), (s4, .inl (cI, 6, .inl SB)), (s5, .inl (cI, 6, .inl CB))] H := hP.sub [0, 1, 2, 3, 4, 5] rfl
  have hD : va_D A [(a0, .inr (0, [.ref s1, .ref s2, .ref s3, .ref s4, .ref s5, .int res])), (s1, .inl (cI, 240, .inl S)), (s2, .inl (cI, 240, .inl C)), (s3, .inl (cZ, 40, .inl Wt)), (s4, .inl (cI, 6, .inl SB)), (s5, .inl (cI, 6, .inl CB))] := hD.sub [0, 1, 2, 3, 4, 5] (by decide) rfl
  subst hw_6
  refine bc_ild (j := 6 * i + 0) hx hb hK hP 1 0 rfl rfl (by omega) (by decide) de_A_isReached_9 ?_
  refine lv_if_eq (tgt := 17) hx hb de_A_isReached_10 (by decide) (fun hc_10 => ?_) (fun hc_10 => ?_)
  · refine lv_iconst (v := 0) hx hb de_A_isReached_17 (by decide) ?_
    exact bc_zret F hr hlocks rfl (()) (Or.inr ⟨rfl, hc_10⟩) hP hD hS de_A_isReached_18
  · refine lv_iconst (v := 1) hx hb de_A_isReached_13 (by decide) ?_
    refine lv_goto (tgt := 18) hx hb de_A_isReached_14 (by decide) ?_
    exact bc_zret F hr hlocks rfl (()) (Or.inl ⟨rfl, hc_10⟩) hP hD hS de_A_isReached_18

set_option maxHeartbeats 4000000 in
set_option maxRecDepth 100000 in
/-- the constant that an instruction makes, if it makes one -/
theorem co_A_hasConstantResult {l : Launch} {dC : Nat → ClassId} {dI : Nat → Nat → Nat} {cI cZ : ClassId} {sz : Nat} {a0 s1 s2 s3 s4 s5 : Nat} {S C Wt SB CB : bc_F} {res : Int32}{h0 q1 q2 q3 q4 n : Nat} {K O T Z : bc_F} {i : Nat} {rr : bc_R} (hi : i < 40) (hw : bc_wi (K i) (O i) (T i) (Z i)) (h4 : K i ≤ 4) (hrow : ∀ v, v < 6 → S (6 * i + v) = bc_s0 (some rr) v ∧ C (6 * i + v) = bc_c0 (some rr) v) : Met l yn_A_hasConstantResult (Cond.code yn_A_hasConstantResult by_A_hasConstantResult 6 (some FieldType.boolean) :: wd_all) ({ frames := 1, cells := 0, slots := 0, locals := 22 } : Room) (bc_Pre (dC, dI) classes [(cI, .int), (cZ, .boolean)] [.ref a0, .ref h0, .int (nI i)] [(a0, .inr (0, [.ref s1, .ref s2, .ref s3, .ref s4, .ref s5, .int res])), (s1, .inl (cI, 240, .inl S)), (s2, .inl (cI, 240, .inl C)), (s3, .inl (cZ, 40, .inl Wt)), (s4, .inl (cI, 6, .inl SB)), (s5, .inl (cI, 6, .inl CB)), (h0, .inr (1, [.ref q1, .ref q2, .ref q3, .ref q4, .int (nI n)])), (q1, .inl (cI, 40, .inl K)), (q2, .inl (cI, 40, .inl O)), (q3, .inl (cI, 40, .inl T)), (q4, .inl (cI, 40, .inl Z))] sz) (va_Qi (fun (r : Int32) (u : Int32) => (r = 1 ∧ bc_rs K T Z i rr = some u) ∨ (r = 0 ∧ bc_rs K T Z i rr = none)) (fun (u : Int32) t => bc_B (dC, dI) classes [(cI, .int), (cZ, .boolean)] (va_A [(a0, .inr (0, [.ref s1, .ref s2, .ref s3, .ref s4, .ref s5, .int res])), (s1, .inl (cI, 240, .inl S)), (s2, .inl (cI, 240, .inl C)), (s3, .inl (cZ, 40, .inl Wt)), (s4, .inl (cI, 6, .inl SB)), (s5, .inl (cI, 6, .inl CB)), (h0, .inr (1, [.ref q1, .ref q2, .ref q3, .ref q4, .int (nI n)])), (q1, .inl (cI, 40, .inl K)), (q2, .inl (cI, 40, .inl O)), (q3, .inl (cI, 40, .inl T)), (q4, .inl (cI, 40, .inl Z))] sz) [(a0, .inr (0, [.ref s1, .ref s2, .ref s3, .ref s4, .ref s5, .int u])), (s1, .inl (cI, 240, .inl S)), (s2, .inl (cI, 240, .inl C)), (s3, .inl (cZ, 40, .inl Wt)), (s4, .inl (cI, 6, .inl SB)), (s5, .inl (cI, 6, .inl CB)), (h0, .inr (1, [.ref q1, .ref q2, .ref q3, .ref q4, .int (nI n)])), (q1, .inl (cI, 40, .inl K)), (q2, .inl (cI, 40, .inl O)), (q3, .inl (cI, 40, .inl T)), (q4, .inl (cI, 40, .inl Z))] t) ((va_A [(a0, .inr (0, [.ref s1, .ref s2, .ref s3, .ref s4, .ref s5, .int res])), (s1, .inl (cI, 240, .inl S)), (s2, .inl (cI, 240, .inl C)), (s3, .inl (cZ, 40, .inl Wt)), (s4, .inl (cI, 6, .inl SB)), (s5, .inl (cI, 6, .inl CB)), (h0, .inr (1, [.ref q1, .ref q2, .ref q3, .ref q4, .int (nI n)])), (q1, .inl (cI, 40, .inl K)), (q2, .inl (cI, 40, .inl O)), (q3, .inl (cI, 40, .inl T)), (q4, .inl (cI, 40, .inl Z))] sz))) 0 0 (va_A [(a0, .inr (0, [.ref s1, .ref s2, .ref s3, .ref s4, .ref s5, .int res])), (s1, .inl (cI, 240, .inl S)), (s2, .inl (cI, 240, .inl C)), (s3, .inl (cZ, 40, .inl Wt)), (s4, .inl (cI, 6, .inl SB)), (s5, .inl (cI, 6, .inl CB)), (h0, .inr (1, [.ref q1, .ref q2, .ref q3, .ref q4, .int (nI n)])), (q1, .inl (cI, 40, .inl K)), (q2, .inl (cI, 40, .inl O)), (q3, .inl (cI, 40, .inl T)), (q4, .inl (cI, 40, .inl Z))] sz) := by
  refine bc_met (fun A => va_Qi (fun (r : Int32) (u : Int32) => (r = 1 ∧ bc_rs K T Z i rr = some u) ∨ (r = 0 ∧ bc_rs K T Z i rr = none)) (fun (u : Int32) t => bc_B (dC, dI) classes [(cI, .int), (cZ, .boolean)] A [(a0, .inr (0, [.ref s1, .ref s2, .ref s3, .ref s4, .ref s5, .int u])), (s1, .inl (cI, 240, .inl S)), (s2, .inl (cI, 240, .inl C)), (s3, .inl (cZ, 40, .inl Wt)), (s4, .inl (cI, 6, .inl SB)), (s5, .inl (cI, 6, .inl CB)), (h0, .inr (1, [.ref q1, .ref q2, .ref q3, .ref q4, .int (nI n)])), (q1, .inl (cI, 40, .inl K)), (q2, .inl (cI, 40, .inl O)), (q3, .inl (cI, 40, .inl T)), (q4, .inl (cI, 40, .inl Z))] t) A) (by decide) (Nat.le_of_ble_eq_true rfl) ?_
  intro p e s m args below meth c A ls F hr hlocks hin hA hP hD hl hS
  have hx := F.1
  have hb := F.2.1
  have hml := F.2.2.1
  have hown : s.vm.findClass "BranchConstants$Analysis" = some m.cls := F.2.2.2.1
  have htw := F.2.2.2.2.1
  have hN := F.2.2.2.2.2.1
  have hK := F.2.2.2.2.2.2
  have hl : lv_has ls 6 [(0, .ref a0), (1, .ref h0), (2, .int (nI i))] := hl
  refine lv_aload_n hx hb de_A_hasConstantResult_0 rfl (lv_at hl 1 rfl) ?_
  refine va_getN (D := (dC, dI)) (ci := 1) (v := .ref q1) (C := rc_C) (T := fc_C) (N := 5) hx hb htw wi_C hown hK hP 6 rfl rfl 0 (by decide) (va_Nw.use rfl (hN _ nm_2)) (fun _ h9 => h9) rfl de_A_hasConstantResult_1 ?_
  refine lv_iload_n hx hb de_A_hasConstantResult_4 rfl (lv_at hl 2 rfl) ?_
  refine bc_ild (j := i) hx hb hK hP 7 0 rfl rfl (by omega) (by decide) de_A_hasConstantResult_5 ?_
  refine lv_istore_n (lv' := [(3, .int (K i)), (0, .ref a0), (1, .ref h0), (2, .int (nI i))]) hx hb de_A_hasConstantResult_6 rfl hl (by decide) rfl (fun ls hl => ?_)
  refine lv_iload_n hx hb de_A_hasConstantResult_7 rfl (lv_at hl 0 rfl) ?_
  refine lv_if_ne (tgt := 23) hx hb de_A_hasConstantResult_8 (by decide) (fun hc_8 => ?_) (fun hc_8 => ?_)
  · obtain ⟨tt, htt, eT⟩ : bc_vr (T i) := bc_wi_t hw h4 hc_8
    refine lv_iload_n hx hb de_A_hasConstantResult_23 rfl (lv_at hl 3 rfl) ?_
    refine lv_aload_n hx hb de_A_hasConstantResult_24 rfl (lv_at hl 2 rfl) ?_
    refine va_getN (D := (dC, dI)) (ci := 1) (v := .ref q3) (C := rc_C) (T := fc_C) (N := 5) hx hb htw wi_C hown hK hP 6 rfl rfl 2 (by decide) (va_Nw.use rfl (hN _ nm_9)) (fun _ h9 => h9) rfl de_A_hasConstantResult_25 ?_
    refine lv_iload_n hx hb de_A_hasConstantResult_28 rfl (lv_at hl 3 rfl) ?_
    refine bc_ild (j := i) hx hb hK hP 9 0 rfl rfl (by omega) (by decide) de_A_hasConstantResult_29 ?_
    refine bc_ti (y := nI tt) eT ?_
    refine bc_call_ns_i (As := [.int (nI i), .int (nI tt)]) (rest := []) (wr := [(a0, .inr (0, [.ref s1, .ref s2, .ref s3, .ref s4, .ref s5, .int res])), (s1, .inl (cI, 240, .inl S)), (s2, .inl (cI, 240, .inl C)), (s3, .inl (cZ, 40, .inl Wt)), (s4, .inl (cI, 6, .inl SB)), (s5, .inl (cI, 6, .inl CB)), (h0, .inr (1, [.ref q1, .ref q2, .ref q3, .ref q4, .int (nI n)])), (q1, .inl (cI, 40, .inl K)), (q2, .inl (cI, 40, .inl O)), (q3, .inl (cI, 40, .inl T)), (q4, .inl (cI, 40, .inl Z))]) F (co_B_cell) wm_127 wm_1 nm_28 wm_126 pd_B_cell rfl rfl ⟨Nat.le_of_ble_eq_true rfl, Nat.le_of_ble_eq_true rfl⟩ hP hD hS hA [] [0, 1, 2, 3, 4, 5, 6, 7, 8, 9, 10] rfl rfl rfl rfl (by decide) rfl hl.1 rfl (Nat.le_of_ble_eq_true rfl) de_A_hasConstantResult_30 ⟨Nat.le_of_ble_eq_true rfl, Nat.le_of_ble_eq_true rfl⟩ (fun r_30 u H locs hw_30 hP hD hS => ?_)
    have hP : va_P (dC, dI) classes [(a0, .inr (0, [.ref s1, .ref s2, .ref s3, .ref s4, .ref s5, .int res])), (s1, .inl (cI, 240, .inl S)), (s2, .inl (cI, 240, .inl C)), (s3, .inl (cZ, 40, .inl Wt)), (s4, .inl (cI, 6, .inl SB)), (s5, .inl (cI, 6, .inl CB)), (h0, .inr (1, [.ref q1, .ref q2, .ref q3, .ref q4, .int (nI n)])), (q1, .inl (cI, 40, .inl K)), (q2, .inl (cI, 40, .inl O)), (q3, .inl (cI, 40, .inl T)), (q4, .inl (cI, 40, .inl Z))] H := hP.sub [0, 1, 2, 3, 4, 5, 6, 7, 8, 9, 10] rfl
    have hD : va_D A [(a0, .inr (0, [.ref s1, .ref s2, .ref s3, .ref s4, .ref s5, .int res])), (s1, .inl (cI, 240, .inl S)), (s2, .inl (cI, 240, .inl C)), (s3, .inl (cZ, 40, .inl Wt)), (s4, .inl (cI, 6, .inl SB)), (s5, .inl (cI, 6, .inl CB)), (h0, .inr (1, [.ref q1, .ref q2, .ref q3, .ref q4, .int (nI n)])), (q1, .inl (cI, 40, .inl K)), (q2, .inl (cI, 40, .inl O)), (q3, .inl (cI, 40, .inl T)), (q4, .inl (cI, 40, .inl Z))] := hD.sub [0, 1, 2, 3, 4, 5, 6, 7, 8, 9, 10] (by decide) rfl
    subst hw_30
    refine lv_istore (lv' := [(4, .int (nI (6 * i + tt))), (3, .int (K i)), (0, .ref a0), (1, .ref h0), (2, .int (nI i))]) hx hb de_A_hasConstantResult_33 hl (by decide) rfl (fun ls hl => ?_)
    refine lv_iload_n hx hb de_A_hasConstantResult_35 rfl (lv_at hl 1 rfl) ?_
    refine lv_iconst (v := 1) hx hb de_A_hasConstantResult_36 (by decide) ?_
    refine lv_icmp_ne (tgt := 68) hx hb de_A_hasConstantResult_37 (by decide) (fun hc_37 => ?_) (fun hc_37 => ?_)
    · obtain ⟨zz, hzz, eZ⟩ : bc_vr (Z i) := bc_wi_z hw h4 hc_8 hc_37
      refine lv_iload_n hx hb de_A_hasConstantResult_68 rfl (lv_at hl 4 rfl) ?_
      refine lv_aload_n hx hb de_A_hasConstantResult_69 rfl (lv_at hl 3 rfl) ?_
      refine va_getN (D := (dC, dI)) (ci := 1) (v := .ref q4) (C := rc_C) (T := fc_C) (N := 5) hx hb htw wi_C hown hK hP 6 rfl rfl 3 (by decide) (va_Nw.use rfl (hN _ nm_11)) (fun _ h9 => h9) rfl de_A_hasConstantResult_70 ?_
      refine lv_iload_n hx hb de_A_hasConstantResult_73 rfl (lv_at hl 4 rfl) ?_
      refine bc_ild (j := i) hx hb hK hP 10 0 rfl rfl (by omega) (by decide) de_A_hasConstantResult_74 ?_
      refine bc_ti (y := nI zz) eZ ?_
      refine bc_call_ns_i (As := [.int (nI i), .int (nI zz)]) (rest := []) (wr := [(a0, .inr (0, [.ref s1, .ref s2, .ref s3, .ref s4, .ref s5, .int res])), (s1, .inl (cI, 240, .inl S)), (s2, .inl (cI, 240, .inl C)), (s3, .inl (cZ, 40, .inl Wt)), (s4, .inl (cI, 6, .inl SB)), (s5, .inl (cI, 6, .inl CB)), (h0, .inr (1, [.ref q1, .ref q2, .ref q3, .ref q4, .int (nI n)])), (q1, .inl (cI, 40, .inl K)), (q2, .inl (cI, 40, .inl O)), (q3, .inl (cI, 40, .inl T)), (q4, .inl (cI, 40, .inl Z))]) F (co_B_cell) wm_127 wm_1 nm_28 wm_126 pd_B_cell rfl rfl ⟨Nat.le_of_ble_eq_true rfl, Nat.le_of_ble_eq_true rfl⟩ hP hD hS hA [] [0, 1, 2, 3, 4, 5, 6, 7, 8, 9, 10] rfl rfl rfl rfl (by decide) rfl hl.1 rfl (Nat.le_of_ble_eq_true rfl) de_A_hasConstantResult_75 ⟨Nat.le_of_ble_eq_true rfl, Nat.le_of_ble_eq_true rfl⟩ (fun r_75 u H locs hw_75 hP hD hS => ?_)
      have hP : va_P (dC, dI) classes [(a0, .inr (0, [.ref s1, .ref s2, .ref s3, .ref s4, .ref s5, .int res])), (s1, .inl (cI, 240, .inl S)), (s2, .inl (cI, 240, .inl C)), (s3, .inl (cZ, 40, .inl Wt)), (s4, .inl (cI, 6, .inl SB)), (s5, .inl (cI, 6, .inl CB)), (h0, .inr (1, [.ref q1, .ref q2, .ref q3, .ref q4, .int (nI n)])), (q1, .inl (cI, 40, .inl K)), (q2, .inl (cI, 40, .inl O)), (q3, .inl (cI, 40, .inl T)), (q4, .inl (cI, 40, .inl Z))] H := hP.sub [0, 1, 2, 3, 4, 5, 6, 7, 8, 9, 10] rfl
      have hD : va_D A [(a0, .inr (0, [.ref s1, .ref s2, .ref s3, .ref s4, .ref s5, .int res])), (s1, .inl (cI, 240, .inl S)), (s2, .inl (cI, 240, .inl C)), (s3, .inl (cZ, 40, .inl Wt)), (s4, .inl (cI, 6, .inl SB)), (s5, .inl (cI, 6, .inl CB)), (h0, .inr (1, [.ref q1, .ref q2, .ref q3, .ref q4, .int (nI n)])), (q1, .inl (cI, 40, .inl K)), (q2, .inl (cI, 40, .inl O)), (q3, .inl (cI, 40, .inl T)), (q4, .inl (cI, 40, .inl Z))] := hD.sub [0, 1, 2, 3, 4, 5, 6, 7, 8, 9, 10] (by decide) rfl
      subst hw_75
      refine lv_istore (lv' := [(5, .int (nI (6 * i + zz))), (4, .int (nI (6 * i + tt))), (3, .int (K i)), (0, .ref a0), (1, .ref h0), (2, .int (nI i))]) hx hb de_A_hasConstantResult_78 hl (by decide) rfl (fun ls hl => ?_)
      refine lv_iload_n hx hb de_A_hasConstantResult_80 rfl (lv_at hl 2 rfl) ?_
      refine lv_iconst (v := 4) hx hb de_A_hasConstantResult_81 (by decide) ?_
      refine lv_icmp_ne (tgt := 110) hx hb de_A_hasConstantResult_82 (by decide) (fun hc_82 => ?_) (fun hc_82 => ?_)
      · refine lv_aload_n hx hb de_A_hasConstantResult_110 rfl (lv_at hl 3 rfl) ?_
        refine lv_iload_n hx hb de_A_hasConstantResult_111 rfl (lv_at hl 2 rfl) ?_
        refine lv_aload_n hx hb de_A_hasConstantResult_112 rfl (lv_at hl 3 rfl) ?_
        refine va_get (D := (dC, dI)) (ci := 0) (v := .ref s2) (C := rc_A) (T := fc_A) (N := 6) hx hb htw wi_A hown hK hP 0 rfl rfl 1 (by decide) (htw _ wm_46) (fun _ h9 => h9) rfl de_A_hasConstantResult_113 ?_
        refine lv_iload hx hb de_A_hasConstantResult_116 (lv_at hl 1 rfl) ?_
        refine bc_ild (j := 6 * i + tt) hx hb hK hP 2 0 rfl rfl (by omega) (by decide) de_A_hasConstantResult_118 ?_
        refine lv_aload_n hx hb de_A_hasConstantResult_119 rfl (lv_at hl 3 rfl) ?_
        refine va_get (D := (dC, dI)) (ci := 0) (v := .ref s2) (C := rc_A) (T := fc_A) (N := 6) hx hb htw wi_A hown hK hP 0 rfl rfl 1 (by decide) (htw _ wm_46) (fun _ h9 => h9) rfl de_A_hasConstantResult_120 ?_
        refine lv_iload hx hb de_A_hasConstantResult_123 (lv_at hl 0 rfl) ?_
        refine bc_ild (j := 6 * i + zz) hx hb hK hP 2 0 rfl rfl (by omega) (by decide) de_A_hasConstantResult_125 ?_
        refine bc_call_ns_i (As := [.int (K i), .int (C (6 * i + tt)), .int (C (6 * i + zz))]) (rest := [.ref a0]) (wr := [(a0, .inr (0, [.ref s1, .ref s2, .ref s3, .ref s4, .ref s5, .int res])), (s1, .inl (cI, 240, .inl S)), (s2, .inl (cI, 240, .inl C)), (s3, .inl (cZ, 40, .inl Wt)), (s4, .inl (cI, 6, .inl SB)), (s5, .inl (cI, 6, .inl CB)), (h0, .inr (1, [.ref q1, .ref q2, .ref q3, .ref q4, .int (nI n)])), (q1, .inl (cI, 40, .inl K)), (q2, .inl (cI, 40, .inl O)), (q3, .inl (cI, 40, .inl T)), (q4, .inl (cI, 40, .inl Z))]) F (co_B_calculate) wm_146 wm_1 nm_30 wm_145 pd_B_calculate rfl rfl ⟨Nat.le_of_ble_eq_true rfl, Nat.le_of_ble_eq_true rfl⟩ hP hD hS hA [] [0, 1, 2, 3, 4, 5, 6, 7, 8, 9, 10] rfl rfl rfl rfl (by decide) rfl hl.1 rfl (Nat.le_of_ble_eq_true rfl) de_A_hasConstantResult_126 ⟨Nat.le_of_ble_eq_true rfl, Nat.le_of_ble_eq_true rfl⟩ (fun r_126 u H locs hw_126 hP hD hS => ?_)
        have hP : va_P (dC, dI) classes [(a0, .inr (0, [.ref s1, .ref s2, .ref s3, .ref s4, .ref s5, .int res])), (s1, .inl (cI, 240, .inl S)), (s2, .inl (cI, 240, .inl C)), (s3, .inl (cZ, 40, .inl Wt)), (s4, .inl (cI, 6, .inl SB)), (s5, .inl (cI, 6, .inl CB)), (h0, .inr (1, [.ref q1, .ref q2, .ref q3, .ref q4, .int (nI n)])), (q1, .inl (cI, 40, .inl K)), (q2, .inl (cI, 40, .inl O)), (q3, .inl (cI, 40, .inl T)), (q4, .inl (cI, 40, .inl Z))] H := hP.sub [0, 1, 2, 3, 4, 5, 6, 7, 8, 9, 10] rfl
        have hD : va_D A [(a0, .inr (0, [.ref s1, .ref s2, .ref s3, .ref s4, .ref s5, .int res])), (s1, .inl (cI, 240, .inl S)), (s2, .inl (cI, 240, .inl C)), (s3, .inl (cZ, 40, .inl Wt)), (s4, .inl (cI, 6, .inl SB)), (s5, .inl (cI, 6, .inl CB)), (h0, .inr (1, [.ref q1, .ref q2, .ref q3, .ref q4, .int (nI n)])), (q1, .inl (cI, 40, .inl K)), (q2, .inl (cI, 40, .inl O)), (q3, .inl (cI, 40, .inl T)), (q4, .inl (cI, 40, .inl Z))] := hD.sub [0, 1, 2, 3, 4, 5, 6, 7, 8, 9, 10] (by decide) rfl
        subst hw_126
        refine va_put (D := (dC, dI)) (ci := 0) (v := .int (bc_ar (K i) (C (6 * i + tt)) (C (6 * i + zz)))) (ty := .int) (C := rc_A) (T := fc_A) (N := 6) hx hb htw wi_A tc_A tc_A_ok nc_A hown hK hP hD hS 0 rfl rfl 5 (by decide) (htw _ wm_50) (fun _ h9 => h9) rfl (by decide +kernel) rfl rfl (Nat.le_of_ble_eq_true rfl) de_A_hasConstantResult_129 (fun H locs hP hD hS => ?_)
        have hP : va_P (dC, dI) classes [(a0, .inr (0, [.ref s1, .ref s2, .ref s3, .ref s4, .ref s5, .int (bc_ar (K i) (C (6 * i + tt)) (C (6 * i + zz)))])), (s1, .inl (cI, 240, .inl S)), (s2, .inl (cI, 240, .inl C)), (s3, .inl (cZ, 40, .inl Wt)), (s4, .inl (cI, 6, .inl SB)), (s5, .inl (cI, 6, .inl CB)), (h0, .inr (1, [.ref q1, .ref q2, .ref q3, .ref q4, .int (nI n)])), (q1, .inl (cI, 40, .inl K)), (q2, .inl (cI, 40, .inl O)), (q3, .inl (cI, 40, .inl T)), (q4, .inl (cI, 40, .inl Z))] H := hP
        have hD : va_D A [(a0, .inr (0, [.ref s1, .ref s2, .ref s3, .ref s4, .ref s5, .int (bc_ar (K i) (C (6 * i + tt)) (C (6 * i + zz)))])), (s1, .inl (cI, 240, .inl S)), (s2, .inl (cI, 240, .inl C)), (s3, .inl (cZ, 40, .inl Wt)), (s4, .inl (cI, 6, .inl SB)), (s5, .inl (cI, 6, .inl CB)), (h0, .inr (1, [.ref q1, .ref q2, .ref q3, .ref q4, .int (nI n)])), (q1, .inl (cI, 40, .inl K)), (q2, .inl (cI, 40, .inl O)), (q3, .inl (cI, 40, .inl T)), (q4, .inl (cI, 40, .inl Z))] := hD
        refine lv_aload_n hx hb de_A_hasConstantResult_132 rfl (lv_at hl 3 rfl) ?_
        refine va_get (D := (dC, dI)) (ci := 0) (v := .ref s1) (C := rc_A) (T := fc_A) (N := 6) hx hb htw wi_A hown hK hP 0 rfl rfl 0 (by decide) (htw _ wm_45) (fun _ h9 => h9) rfl de_A_hasConstantResult_133 ?_
        refine lv_iload hx hb de_A_hasConstantResult_136 (lv_at hl 1 rfl) ?_
        refine bc_ild (j := 6 * i + tt) hx hb hK hP 1 0 rfl rfl (by omega) (by decide) de_A_hasConstantResult_138 ?_
        refine lv_iconst (v := 2) hx hb de_A_hasConstantResult_139 (by decide) ?_
        refine lv_icmp_ne (tgt := 158) hx hb de_A_hasConstantResult_140 (by decide) (fun hc_140 => ?_) (fun hc_140 => ?_)
        · refine lv_iconst (v := 0) hx hb de_A_hasConstantResult_158 (by decide) ?_
          exact bc_zret F hr hlocks rfl (bc_ar (K i) (C (6 * i + tt)) (C (6 * i + zz))) (Or.inr ⟨rfl, (bc_rs_2 hc_8 hc_37 eT htt eZ hzz (fun z => hc_82 z.1) hrow).2 (fun z => hc_140 z.1)⟩) hP hD hS de_A_hasConstantResult_159
        · refine lv_aload_n hx hb de_A_hasConstantResult_143 rfl (lv_at hl 3 rfl) ?_
          refine va_get (D := (dC, dI)) (ci := 0) (v := .ref s1) (C := rc_A) (T := fc_A) (N := 6) hx hb htw wi_A hown hK hP 0 rfl rfl 0 (by decide) (htw _ wm_45) (fun _ h9 => h9) rfl de_A_hasConstantResult_144 ?_
          refine lv_iload hx hb de_A_hasConstantResult_147 (lv_at hl 0 rfl) ?_
          refine bc_ild (j := 6 * i + zz) hx hb hK hP 1 0 rfl rfl (by omega) (by decide) de_A_hasConstantResult_149 ?_
          refine lv_iconst (v := 2) hx hb de_A_hasConstantResult_150 (by decide) ?_
          refine lv_icmp_ne (tgt := 158) hx hb de_A_hasConstantResult_151 (by decide) (fun hc_151 => ?_) (fun hc_151 => ?_)
          · refine lv_iconst (v := 0) hx hb de_A_hasConstantResult_158 (by decide) ?_
            exact bc_zret F hr hlocks rfl (bc_ar (K i) (C (6 * i + tt)) (C (6 * i + zz))) (Or.inr ⟨rfl, (bc_rs_2 hc_8 hc_37 eT htt eZ hzz (fun z => hc_82 z.1) hrow).2 (fun z => hc_151 z.2)⟩) hP hD hS de_A_hasConstantResult_159
          · refine lv_iconst (v := 1) hx hb de_A_hasConstantResult_154 (by decide) ?_
            refine lv_goto (tgt := 159) hx hb de_A_hasConstantResult_155 (by decide) ?_
            exact bc_zret F hr hlocks rfl (bc_ar (K i) (C (6 * i + tt)) (C (6 * i + zz))) (Or.inl ⟨rfl, (bc_rs_2 hc_8 hc_37 eT htt eZ hzz (fun z => hc_82 z.1) hrow).1 ⟨hc_140, hc_151⟩⟩) hP hD hS de_A_hasConstantResult_159
      · refine lv_aload_n hx hb de_A_hasConstantResult_85 rfl (lv_at hl 3 rfl) ?_
        refine lv_iload hx hb de_A_hasConstantResult_86 (lv_at hl 1 rfl) ?_
        refine bc_call_v_i (As := [.int (nI (6 * i + tt))]) (rest := []) (wr := [(h0, .inr (1, [.ref q1, .ref q2, .ref q3, .ref q4, .int (nI n)])), (q1, .inl (cI, 40, .inl K)), (q2, .inl (cI, 40, .inl O)), (q3, .inl (cI, 40, .inl T)), (q4, .inl (cI, 40, .inl Z))]) F (co_A_isConstantZero (by omega)) wm_144 wm_3 wm_142 wm_143 wm_598 0 rfl rfl pd_A_isConstantZero rfl rfl ⟨Nat.le_of_ble_eq_true rfl, Nat.le_of_ble_eq_true rfl⟩ hP hD hS hA [0, 1, 2, 3, 4, 5] [6, 7, 8, 9, 10] rfl rfl rfl rfl (by decide) rfl hl.1 rfl (Nat.le_of_ble_eq_true rfl) de_A_hasConstantResult_88 ⟨Nat.le_of_ble_eq_true rfl, Nat.le_of_ble_eq_true rfl⟩ (fun r_88 u H locs hw_88 hP hD hS => ?_)
        have hP : va_P (dC, dI) classes [(a0, .inr (0, [.ref s1, .ref s2, .ref s3, .ref s4, .ref s5, .int res])), (s1, .inl (cI, 240, .inl S)), (s2, .inl (cI, 240, .inl C)), (s3, .inl (cZ, 40, .inl Wt)), (s4, .inl (cI, 6, .inl SB)), (s5, .inl (cI, 6, .inl CB)), (h0, .inr (1, [.ref q1, .ref q2, .ref q3, .ref q4, .int (nI n)])), (q1, .inl (cI, 40, .inl K)), (q2, .inl (cI, 40, .inl O)), (q3, .inl (cI, 40, .inl T)), (q4, .inl (cI, 40, .inl Z))] H := hP.sub [5, 6, 7, 8, 9, 10, 0, 1, 2, 3, 4] rfl
        have hD : va_D A [(a0, .inr (0, [.ref s1, .ref s2, .ref s3, .ref s4, .ref s5, .int res])), (s1, .inl (cI, 240, .inl S)), (s2, .inl (cI, 240, .inl C)), (s3, .inl (cZ, 40, .inl Wt)), (s4, .inl (cI, 6, .inl SB)), (s5, .inl (cI, 6, .inl CB)), (h0, .inr (1, [.ref q1, .ref q2, .ref q3, .ref q4, .int (nI n)])), (q1, .inl (cI, 40, .inl K)), (q2, .inl (cI, 40, .inl O)), (q3, .inl (cI, 40, .inl T)), (q4, .inl (cI, 40, .inl Z))] := hD.sub [5, 6, 7, 8, 9, 10, 0, 1, 2, 3, 4] (by decide) rfl
        rcases hw_88 with ⟨he_88, hv_88⟩ | ⟨he_88, hv_88⟩
        · subst he_88
          refine lv_if_ne (tgt := 103) hx hb de_A_hasConstantResult_91 (by decide) (fun _ => ?_) (fun hc => absurd hc (by decide))
          refine lv_aload_n hx hb de_A_hasConstantResult_103 rfl (lv_at hl 3 rfl) ?_
          refine lv_iconst (v := 0) hx hb de_A_hasConstantResult_104 (by decide) ?_
          refine va_put (D := (dC, dI)) (ci := 0) (v := .int 0) (ty := .int) (C := rc_A) (T := fc_A) (N := 6) hx hb htw wi_A tc_A tc_A_ok nc_A hown hK hP hD hS 0 rfl rfl 5 (by decide) (htw _ wm_50) (fun _ h9 => h9) rfl (by decide +kernel) rfl rfl (Nat.le_of_ble_eq_true rfl) de_A_hasConstantResult_105 (fun H locs hP hD hS => ?_)
          have hP : va_P (dC, dI) classes [(a0, .inr (0, [.ref s1, .ref s2, .ref s3, .ref s4, .ref s5, .int 0])), (s1, .inl (cI, 240, .inl S)), (s2, .inl (cI, 240, .inl C)), (s3, .inl (cZ, 40, .inl Wt)), (s4, .inl (cI, 6, .inl SB)), (s5, .inl (cI, 6, .inl CB)), (h0, .inr (1, [.ref q1, .ref q2, .ref q3, .ref q4, .int (nI n)])), (q1, .inl (cI, 40, .inl K)), (q2, .inl (cI, 40, .inl O)), (q3, .inl (cI, 40, .inl T)), (q4, .inl (cI, 40, .inl Z))] H := hP
          have hD : va_D A [(a0, .inr (0, [.ref s1, .ref s2, .ref s3, .ref s4, .ref s5, .int 0])), (s1, .inl (cI, 240, .inl S)), (s2, .inl (cI, 240, .inl C)), (s3, .inl (cZ, 40, .inl Wt)), (s4, .inl (cI, 6, .inl SB)), (s5, .inl (cI, 6, .inl CB)), (h0, .inr (1, [.ref q1, .ref q2, .ref q3, .ref q4, .int (nI n)])), (q1, .inl (cI, 40, .inl K)), (q2, .inl (cI, 40, .inl O)), (q3, .inl (cI, 40, .inl T)), (q4, .inl (cI, 40, .inl Z))] := hD
          refine lv_iconst (v := 1) hx hb de_A_hasConstantResult_108 (by decide) ?_
          exact bc_zret F hr hlocks rfl 0 (Or.inl ⟨rfl, bc_rs_m hc_82 eT htt eZ hzz (Or.inl (bc_z0.mp (by rw [← (hrow tt htt).1, ← (hrow tt htt).2]; exact hv_88)))⟩) hP hD hS de_A_hasConstantResult_109
        · subst he_88
          refine lv_if_ne (tgt := 103) hx hb de_A_hasConstantResult_91 (by decide) (fun hc => absurd (by decide) hc) (fun _ => ?_)
          refine lv_aload_n hx hb de_A_hasConstantResult_94 rfl (lv_at hl 3 rfl) ?_
          refine lv_iload hx hb de_A_hasConstantResult_95 (lv_at hl 0 rfl) ?_
          refine bc_call_v_i (As := [.int (nI (6 * i + zz))]) (rest := []) (wr := [(h0, .inr (1, [.ref q1, .ref q2, .ref q3, .ref q4, .int (nI n)])), (q1, .inl (cI, 40, .inl K)), (q2, .inl (cI, 40, .inl O)), (q3, .inl (cI, 40, .inl T)), (q4, .inl (cI, 40, .inl Z))]) F (co_A_isConstantZero (by omega)) wm_144 wm_3 wm_142 wm_143 wm_598 0 rfl rfl pd_A_isConstantZero rfl rfl ⟨Nat.le_of_ble_eq_true rfl, Nat.le_of_ble_eq_true rfl⟩ hP hD hS hA [0, 1, 2, 3, 4, 5] [6, 7, 8, 9, 10] rfl rfl rfl rfl (by decide) rfl hl.1 rfl (Nat.le_of_ble_eq_true rfl) de_A_hasConstantResult_97 ⟨Nat.le_of_ble_eq_true rfl, Nat.le_of_ble_eq_true rfl⟩ (fun r_97 u H locs hw_97 hP hD hS => ?_)
          have hP : va_P (dC, dI) classes [(a0, .inr (0, [.ref s1, .ref s2, .ref s3, .ref s4, .ref s5, .int res])), (s1, .inl (cI, 240, .inl S)), (s2, .inl (cI, 240, .inl C)), (s3, .inl (cZ, 40, .inl Wt)), (s4, .inl (cI, 6, .inl SB)), (s5, .inl (cI, 6, .inl CB)), (h0, .inr (1, [.ref q1, .ref q2, .ref q3, .ref q4, .int (nI n)])), (q1, .inl (cI, 40, .inl K)), (q2, .inl (cI, 40, .inl O)), (q3, .inl (cI, 40, .inl T)), (q4, .inl (cI, 40, .inl Z))] H := hP.sub [5, 6, 7, 8, 9, 10, 0, 1, 2, 3, 4] rfl
          have hD : va_D A [(a0, .inr (0, [.ref s1, .ref s2, .ref s3, .ref s4, .ref s5, .int res])), (s1, .inl (cI, 240, .inl S)), (s2, .inl (cI, 240, .inl C)), (s3, .inl (cZ, 40, .inl Wt)), (s4, .inl (cI, 6, .inl SB)), (s5, .inl (cI, 6, .inl CB)), (h0, .inr (1, [.ref q1, .ref q2, .ref q3, .ref q4, .int (nI n)])), (q1, .inl (cI, 40, .inl K)), (q2, .inl (cI, 40, .inl O)), (q3, .inl (cI, 40, .inl T)), (q4, .inl (cI, 40, .inl Z))] := hD.sub [5, 6, 7, 8, 9, 10, 0, 1, 2, 3, 4] (by decide) rfl
          rcases hw_97 with ⟨he_97, hv_97⟩ | ⟨he_97, hv_97⟩
          · subst he_97
            refine lv_if_eq (tgt := 110) hx hb de_A_hasConstantResult_100 (by decide) (fun hc => absurd hc (by decide)) (fun _ => ?_)
            refine lv_aload_n hx hb de_A_hasConstantResult_103 rfl (lv_at hl 3 rfl) ?_
            refine lv_iconst (v := 0) hx hb de_A_hasConstantResult_104 (by decide) ?_
            refine va_put (D := (dC, dI)) (ci := 0) (v := .int 0) (ty := .int) (C := rc_A) (T := fc_A) (N := 6) hx hb htw wi_A tc_A tc_A_ok nc_A hown hK hP hD hS 0 rfl rfl 5 (by decide) (htw _ wm_50) (fun _ h9 => h9) rfl (by decide +kernel) rfl rfl (Nat.le_of_ble_eq_true rfl) de_A_hasConstantResult_105 (fun H locs hP hD hS => ?_)
            have hP : va_P (dC, dI) classes [(a0, .inr (0, [.ref s1, .ref s2, .ref s3, .ref s4, .ref s5, .int 0])), (s1, .inl (cI, 240, .inl S)), (s2, .inl (cI, 240, .inl C)), (s3, .inl (cZ, 40, .inl Wt)), (s4, .inl (cI, 6, .inl SB)), (s5, .inl (cI, 6, .inl CB)), (h0, .inr (1, [.ref q1, .ref q2, .ref q3, .ref q4, .int (nI n)])), (q1, .inl (cI, 40, .inl K)), (q2, .inl (cI, 40, .inl O)), (q3, .inl (cI, 40, .inl T)), (q4, .inl (cI, 40, .inl Z))] H := hP
            have hD : va_D A [(a0, .inr (0, [.ref s1, .ref s2, .ref s3, .ref s4, .ref s5, .int 0])), (s1, .inl (cI, 240, .inl S)), (s2, .inl (cI, 240, .inl C)), (s3, .inl (cZ, 40, .inl Wt)), (s4, .inl (cI, 6, .inl SB)), (s5, .inl (cI, 6, .inl CB)), (h0, .inr (1, [.ref q1, .ref q2, .ref q3, .ref q4, .int (nI n)])), (q1, .inl (cI, 40, .inl K)), (q2, .inl (cI, 40, .inl O)), (q3, .inl (cI, 40, .inl T)), (q4, .inl (cI, 40, .inl Z))] := hD
            refine lv_iconst (v := 1) hx hb de_A_hasConstantResult_108 (by decide) ?_
            exact bc_zret F hr hlocks rfl 0 (Or.inl ⟨rfl, bc_rs_m hc_82 eT htt eZ hzz (Or.inr (bc_z0.mp (by rw [← (hrow zz hzz).1, ← (hrow zz hzz).2]; exact hv_97)))⟩) hP hD hS de_A_hasConstantResult_109
          · subst he_97
            refine lv_if_eq (tgt := 110) hx hb de_A_hasConstantResult_100 (by decide) (fun _ => ?_) (fun hc => absurd (by decide) hc)
            refine lv_aload_n hx hb de_A_hasConstantResult_110 rfl (lv_at hl 3 rfl) ?_
            refine lv_iload_n hx hb de_A_hasConstantResult_111 rfl (lv_at hl 2 rfl) ?_
            refine lv_aload_n hx hb de_A_hasConstantResult_112 rfl (lv_at hl 3 rfl) ?_
            refine va_get (D := (dC, dI)) (ci := 0) (v := .ref s2) (C := rc_A) (T := fc_A) (N := 6) hx hb htw wi_A hown hK hP 0 rfl rfl 1 (by decide) (htw _ wm_46) (fun _ h9 => h9) rfl de_A_hasConstantResult_113 ?_
            refine lv_iload hx hb de_A_hasConstantResult_116 (lv_at hl 1 rfl) ?_
            refine bc_ild (j := 6 * i + tt) hx hb hK hP 2 0 rfl rfl (by omega) (by decide) de_A_hasConstantResult_118 ?_
            refine lv_aload_n hx hb de_A_hasConstantResult_119 rfl (lv_at hl 3 rfl) ?_
            refine va_get (D := (dC, dI)) (ci := 0) (v := .ref s2) (C := rc_A) (T := fc_A) (N := 6) hx hb htw wi_A hown hK hP 0 rfl rfl 1 (by decide) (htw _ wm_46) (fun _ h9 => h9) rfl de_A_hasConstantResult_120 ?_
            refine lv_iload hx hb de_A_hasConstantResult_123 (lv_at hl 0 rfl) ?_
            refine bc_ild (j := 6 * i + zz) hx hb hK hP 2 0 rfl rfl (by omega) (by decide) de_A_hasConstantResult_125 ?_
            refine bc_call_ns_i (As := [.int (K i), .int (C (6 * i + tt)), .int (C (6 * i + zz))]) (rest := [.ref a0]) (wr := [(a0, .inr (0, [.ref s1, .ref s2, .ref s3, .ref s4, .ref s5, .int res])), (s1, .inl (cI, 240, .inl S)), (s2, .inl (cI, 240, .inl C)), (s3, .inl (cZ, 40, .inl Wt)), (s4, .inl (cI, 6, .inl SB)), (s5, .inl (cI, 6, .inl CB)), (h0, .inr (1, [.ref q1, .ref q2, .ref q3, .ref q4, .int (nI n)])), (q1, .inl (cI, 40, .inl K)), (q2, .inl (cI, 40, .inl O)), (q3, .inl (cI, 40, .inl T)), (q4, .inl (cI, 40, .inl Z))]) F (co_B_calculate) wm_146 wm_1 nm_30 wm_145 pd_B_calculate rfl rfl ⟨Nat.le_of_ble_eq_true rfl, Nat.le_of_ble_eq_true rfl⟩ hP hD hS hA [] [0, 1, 2, 3, 4, 5, 6, 7, 8, 9, 10] rfl rfl rfl rfl (by decide) rfl hl.1 rfl (Nat.le_of_ble_eq_true rfl) de_A_hasConstantResult_126 ⟨Nat.le_of_ble_eq_true rfl, Nat.le_of_ble_eq_true rfl⟩ (fun r_126 u H locs hw_126 hP hD hS => ?_)
            have hP : va_P (dC, dI) classes [(a0, .inr (0, [.ref s1, .ref s2, .ref s3, .ref s4, .ref s5, .int res])), (s1, .inl (cI, 240, .inl S)), (s2, .inl (cI, 240, .inl C)), (s3, .inl (cZ, 40, .inl Wt)), (s4, .inl (cI, 6, .inl SB)), (s5, .inl (cI, 6, .inl CB)), (h0, .inr (1, [.ref q1, .ref q2, .ref q3, .ref q4, .int (nI n)])), (q1, .inl (cI, 40, .inl K)), (q2, .inl (cI, 40, .inl O)), (q3, .inl (cI, 40, .inl T)), (q4, .inl (cI, 40, .inl Z))] H := hP.sub [0, 1, 2, 3, 4, 5, 6, 7, 8, 9, 10] rfl
            have hD : va_D A [(a0, .inr (0, [.ref s1, .ref s2, .ref s3, .ref s4, .ref s5, .int res])), (s1, .inl (cI, 240, .inl S)), (s2, .inl (cI, 240, .inl C)), (s3, .inl (cZ, 40, .inl Wt)), (s4, .inl (cI, 6, .inl SB)), (s5, .inl (cI, 6, .inl CB)), (h0, .inr (1, [.ref q1, .ref q2, .ref q3, .ref q4, .int (nI n)])), (q1, .inl (cI, 40, .inl K)), (q2, .inl (cI, 40, .inl O)), (q3, .inl (cI, 40, .inl T)), (q4, .inl (cI, 40, .inl Z))] := hD.sub [0, 1, 2, 3, 4, 5, 6, 7, 8, 9, 10] (by decide) rfl
            subst hw_126
            refine va_put (D := (dC, dI)) (ci := 0) (v := .int (bc_ar (K i) (C (6 * i + tt)) (C (6 * i + zz)))) (ty := .int) (C := rc_A) (T := fc_A) (N := 6) hx hb htw wi_A tc_A tc_A_ok nc_A hown hK hP hD hS 0 rfl rfl 5 (by decide) (htw _ wm_50) (fun _ h9 => h9) rfl (by decide +kernel) rfl rfl (Nat.le_of_ble_eq_true rfl) de_A_hasConstantResult_129 (fun H locs hP hD hS => ?_)
            have hP : va_P (dC, dI) classes [(a0, .inr (0, [.ref s1, .ref s2, .ref s3, .ref s4, .ref s5, .int (bc_ar (K i) (C (6 * i + tt)) (C (6 * i + zz)))])), (s1, .inl (cI, 240, .inl S)), (s2, .inl (cI, 240, .inl C)), (s3, .inl (cZ, 40, .inl Wt)), (s4, .inl (cI, 6, .inl SB)), (s5, .inl (cI, 6, .inl CB)), (h0, .inr (1, [.ref q1, .ref q2, .ref q3, .ref q4, .int (nI n)])), (q1, .inl (cI, 40, .inl K)), (q2, .inl (cI, 40, .inl O)), (q3, .inl (cI, 40, .inl T)), (q4, .inl (cI, 40, .inl Z))] H := hP
            have hD : va_D A [(a0, .inr (0, [.ref s1, .ref s2, .ref s3, .ref s4, .ref s5, .int (bc_ar (K i) (C (6 * i + tt)) (C (6 * i + zz)))])), (s1, .inl (cI, 240, .inl S)), (s2, .inl (cI, 240, .inl C)), (s3, .inl (cZ, 40, .inl Wt)), (s4, .inl (cI, 6, .inl SB)), (s5, .inl (cI, 6, .inl CB)), (h0, .inr (1, [.ref q1, .ref q2, .ref q3, .ref q4, .int (nI n)])), (q1, .inl (cI, 40, .inl K)), (q2, .inl (cI, 40, .inl O)), (q3, .inl (cI, 40, .inl T)), (q4, .inl (cI, 40, .inl Z))] := hD
            refine lv_aload_n hx hb de_A_hasConstantResult_132 rfl (lv_at hl 3 rfl) ?_
            refine va_get (D := (dC, dI)) (ci := 0) (v := .ref s1) (C := rc_A) (T := fc_A) (N := 6) hx hb htw wi_A hown hK hP 0 rfl rfl 0 (by decide) (htw _ wm_45) (fun _ h9 => h9) rfl de_A_hasConstantResult_133 ?_
            refine lv_iload hx hb de_A_hasConstantResult_136 (lv_at hl 1 rfl) ?_
            refine bc_ild (j := 6 * i + tt) hx hb hK hP 1 0 rfl rfl (by omega) (by decide) de_A_hasConstantResult_138 ?_
            refine lv_iconst (v := 2) hx hb de_A_hasConstantResult_139 (by decide) ?_
            refine lv_icmp_ne (tgt := 158) hx hb de_A_hasConstantResult_140 (by decide) (fun hc_140 => ?_) (fun hc_140 => ?_)
            · refine lv_iconst (v := 0) hx hb de_A_hasConstantResult_158 (by decide) ?_
              exact bc_zret F hr hlocks rfl (bc_ar (K i) (C (6 * i + tt)) (C (6 * i + zz))) (Or.inr ⟨rfl, (bc_rs_2 hc_8 hc_37 eT htt eZ hzz (fun z => z.2.elim (fun y => hv_88 (by rw [(hrow tt htt).1, (hrow tt htt).2]; exact bc_z0.mpr y)) (fun y => hv_97 (by rw [(hrow zz hzz).1, (hrow zz hzz).2]; exact bc_z0.mpr y))) hrow).2 (fun z => hc_140 z.1)⟩) hP hD hS de_A_hasConstantResult_159
            · refine lv_aload_n hx hb de_A_hasConstantResult_143 rfl (lv_at hl 3 rfl) ?_
              refine va_get (D := (dC, dI)) (ci := 0) (v := .ref s1) (C := rc_A) (T := fc_A) (N := 6) hx hb htw wi_A hown hK hP 0 rfl rfl 0 (by decide) (htw _ wm_45) (fun _ h9 => h9) rfl de_A_hasConstantResult_144 ?_
              refine lv_iload hx hb de_A_hasConstantResult_147 (lv_at hl 0 rfl) ?_
              refine bc_ild (j := 6 * i + zz) hx hb hK hP 1 0 rfl rfl (by omega) (by decide) de_A_hasConstantResult_149 ?_
              refine lv_iconst (v := 2) hx hb de_A_hasConstantResult_150 (by decide) ?_
              refine lv_icmp_ne (tgt := 158) hx hb de_A_hasConstantResult_151 (by decide) (fun hc_151 => ?_) (fun hc_151 => ?_)
              · refine lv_iconst (v := 0) hx hb de_A_hasConstantResult_158 (by decide) ?_
                exact bc_zret F hr hlocks rfl (bc_ar (K i) (C (6 * i + tt)) (C (6 * i + zz))) (Or.inr ⟨rfl, (bc_rs_2 hc_8 hc_37 eT htt eZ hzz (fun z => z.2.elim (fun y => hv_88 (by rw [(hrow tt htt).1, (hrow tt htt).2]; exact bc_z0.mpr y)) (fun y => hv_97 (by rw [(hrow zz hzz).1, (hrow zz hzz).2]; exact bc_z0.mpr y))) hrow).2 (fun z => hc_151 z.2)⟩) hP hD hS de_A_hasConstantResult_159
              · refine lv_iconst (v := 1) hx hb de_A_hasConstantResult_154 (by decide) ?_
                refine lv_goto (tgt := 159) hx hb de_A_hasConstantResult_155 (by decide) ?_
                exact bc_zret F hr hlocks rfl (bc_ar (K i) (C (6 * i + tt)) (C (6 * i + zz))) (Or.inl ⟨rfl, (bc_rs_2 hc_8 hc_37 eT htt eZ hzz (fun z => z.2.elim (fun y => hv_88 (by rw [(hrow tt htt).1, (hrow tt htt).2]; exact bc_z0.mpr y)) (fun y => hv_97 (by rw [(hrow zz hzz).1, (hrow zz hzz).2]; exact bc_z0.mpr y))) hrow).1 ⟨hc_140, hc_151⟩⟩) hP hD hS de_A_hasConstantResult_159
    · refine lv_aload_n hx hb de_A_hasConstantResult_40 rfl (lv_at hl 2 rfl) ?_
      refine lv_aload_n hx hb de_A_hasConstantResult_41 rfl (lv_at hl 2 rfl) ?_
      refine va_get (D := (dC, dI)) (ci := 0) (v := .ref s2) (C := rc_A) (T := fc_A) (N := 6) hx hb htw wi_A hown hK hP 0 rfl rfl 1 (by decide) (htw _ wm_46) (fun _ h9 => h9) rfl de_A_hasConstantResult_42 ?_
      refine lv_iload hx hb de_A_hasConstantResult_45 (lv_at hl 0 rfl) ?_
      refine bc_ild (j := 6 * i + tt) hx hb hK hP 2 0 rfl rfl (by omega) (by decide) de_A_hasConstantResult_47 ?_
      refine va_put (D := (dC, dI)) (ci := 0) (v := .int (C (6 * i + tt))) (ty := .int) (C := rc_A) (T := fc_A) (N := 6) hx hb htw wi_A tc_A tc_A_ok nc_A hown hK hP hD hS 0 rfl rfl 5 (by decide) (htw _ wm_50) (fun _ h9 => h9) rfl (by decide +kernel) rfl rfl (Nat.le_of_ble_eq_true rfl) de_A_hasConstantResult_48 (fun H locs hP hD hS => ?_)
      have hP : va_P (dC, dI) classes [(a0, .inr (0, [.ref s1, .ref s2, .ref s3, .ref s4, .ref s5, .int (C (6 * i + tt))])), (s1, .inl (cI, 240, .inl S)), (s2, .inl (cI, 240, .inl C)), (s3, .inl (cZ, 40, .inl Wt)), (s4, .inl (cI, 6, .inl SB)), (s5, .inl (cI, 6, .inl CB)), (h0, .inr (1, [.ref q1, .ref q2, .ref q3, .ref q4, .int (nI n)])), (q1, .inl (cI, 40, .inl K)), (q2, .inl (cI, 40, .inl O)), (q3, .inl (cI, 40, .inl T)), (q4, .inl (cI, 40, .inl Z))] H := hP
      have hD : va_D A [(a0, .inr (0, [.ref s1, .ref s2, .ref s3, .ref s4, .ref s5, .int (C (6 * i + tt))])), (s1, .inl (cI, 240, .inl S)), (s2, .inl (cI, 240, .inl C)), (s3, .inl (cZ, 40, .inl Wt)), (s4, .inl (cI, 6, .inl SB)), (s5, .inl (cI, 6, .inl CB)), (h0, .inr (1, [.ref q1, .ref q2, .ref q3, .ref q4, .int (nI n)])), (q1, .inl (cI, 40, .inl K)), (q2, .inl (cI, 40, .inl O)), (q3, .inl (cI, 40, .inl T)), (q4, .inl (cI, 40, .inl Z))] := hD
      refine lv_aload_n hx hb de_A_hasConstantResult_51 rfl (lv_at hl 2 rfl) ?_
      refine va_get (D := (dC, dI)) (ci := 0) (v := .ref s1) (C := rc_A) (T := fc_A) (N := 6) hx hb htw wi_A hown hK hP 0 rfl rfl 0 (by decide) (htw _ wm_45) (fun _ h9 => h9) rfl de_A_hasConstantResult_52 ?_
      refine lv_iload hx hb de_A_hasConstantResult_55 (lv_at hl 0 rfl) ?_
      refine bc_ild (j := 6 * i + tt) hx hb hK hP 1 0 rfl rfl (by omega) (by decide) de_A_hasConstantResult_57 ?_
      refine lv_iconst (v := 2) hx hb de_A_hasConstantResult_58 (by decide) ?_
      refine lv_icmp_ne (tgt := 66) hx hb de_A_hasConstantResult_59 (by decide) (fun hc_59 => ?_) (fun hc_59 => ?_)
      · refine lv_iconst (v := 0) hx hb de_A_hasConstantResult_66 (by decide) ?_
        exact bc_zret F hr hlocks rfl (C (6 * i + tt)) (Or.inr ⟨rfl, by rw [bc_rs_1 hc_37 eT htt]; exact bc_s0_n2 (by rw [← (hrow tt htt).1]; exact hc_59)⟩) hP hD hS de_A_hasConstantResult_67
      · refine lv_iconst (v := 1) hx hb de_A_hasConstantResult_62 (by decide) ?_
        refine lv_goto (tgt := 67) hx hb de_A_hasConstantResult_63 (by decide) ?_
        exact bc_zret F hr hlocks rfl (C (6 * i + tt)) (Or.inl ⟨rfl, by rw [bc_rs_1 hc_37 eT htt, (hrow tt htt).2]; exact bc_s0_is2 (by rw [← (hrow tt htt).1]; exact hc_59)⟩) hP hD hS de_A_hasConstantResult_67
  · refine lv_aload_n hx hb de_A_hasConstantResult_11 rfl (lv_at hl 1 rfl) ?_
    refine lv_aload_n hx hb de_A_hasConstantResult_12 rfl (lv_at hl 2 rfl) ?_
    refine va_getN (D := (dC, dI)) (ci := 1) (v := .ref q3) (C := rc_C) (T := fc_C) (N := 5) hx hb htw wi_C hown hK hP 6 rfl rfl 2 (by decide) (va_Nw.use rfl (hN _ nm_9)) (fun _ h9 => h9) rfl de_A_hasConstantResult_13 ?_
    refine lv_iload_n hx hb de_A_hasConstantResult_16 rfl (lv_at hl 3 rfl) ?_
    refine bc_ild (j := i) hx hb hK hP 9 0 rfl rfl (by omega) (by decide) de_A_hasConstantResult_17 ?_
    refine va_put (D := (dC, dI)) (ci := 0) (v := .int (T i)) (ty := .int) (C := rc_A) (T := fc_A) (N := 6) hx hb htw wi_A tc_A tc_A_ok nc_A hown hK hP hD hS 0 rfl rfl 5 (by decide) (htw _ wm_50) (fun _ h9 => h9) rfl (by decide +kernel) rfl rfl (Nat.le_of_ble_eq_true rfl) de_A_hasConstantResult_18 (fun H locs hP hD hS => ?_)
    have hP : va_P (dC, dI) classes [(a0, .inr (0, [.ref s1, .ref s2, .ref s3, .ref s4, .ref s5, .int (T i)])), (s1, .inl (cI, 240, .inl S)), (s2, .inl (cI, 240, .inl C)), (s3, .inl (cZ, 40, .inl Wt)), (s4, .inl (cI, 6, .inl SB)), (s5, .inl (cI, 6, .inl CB)), (h0, .inr (1, [.ref q1, .ref q2, .ref q3, .ref q4, .int (nI n)])), (q1, .inl (cI, 40, .inl K)), (q2, .inl (cI, 40, .inl O)), (q3, .inl (cI, 40, .inl T)), (q4, .inl (cI, 40, .inl Z))] H := hP
    have hD : va_D A [(a0, .inr (0, [.ref s1, .ref s2, .ref s3, .ref s4, .ref s5, .int (T i)])), (s1, .inl (cI, 240, .inl S)), (s2, .inl (cI, 240, .inl C)), (s3, .inl (cZ, 40, .inl Wt)), (s4, .inl (cI, 6, .inl SB)), (s5, .inl (cI, 6, .inl CB)), (h0, .inr (1, [.ref q1, .ref q2, .ref q3, .ref q4, .int (nI n)])), (q1, .inl (cI, 40, .inl K)), (q2, .inl (cI, 40, .inl O)), (q3, .inl (cI, 40, .inl T)), (q4, .inl (cI, 40, .inl Z))] := hD
    refine lv_iconst (v := 1) hx hb de_A_hasConstantResult_21 (by decide) ?_
    exact bc_zret F hr hlocks rfl (T i) (Or.inl ⟨rfl, bc_rs_0 hc_8⟩) hP hD hS de_A_hasConstantResult_22

theorem bc_cnt_1 {f : Nat → Nat} {i : Nat} (h : f i = 1) : nI (bc_sm f i) + Int32.ofInt 1 = nI (bc_sm f (i + 1)) := by
  rw [bc_inc]
  show nI (bc_sm f i + 1) = nI (bc_sm f i + f i)
  rw [h]
theorem bc_cnt_0 {f : Nat → Nat} {i : Nat} (h : f i = 0) : nI (bc_sm f i) = nI (bc_sm f (i + 1)) := by
  show nI (bc_sm f i) = nI (bc_sm f i + f i)
  rw [h, Nat.add_zero]
set_option maxHeartbeats 4000000 in
set_option maxRecDepth 100000 in
/-- how many are reached -/
theorem co_A_countReached {l : Launch} {dC : Nat → ClassId} {dI : Nat → Nat → Nat} {cI cZ : ClassId} {sz : Nat} {a0 s1 s2 s3 s4 s5 : Nat} {S C Wt SB CB : bc_F} {res : Int32}{h0 q1 q2 q3 q4 n : Nat} {K O T Z : bc_F} (hn : n ≤ 40) : Met l yn_A_countReached (Cond.code yn_A_countReached by_A_countReached 4 (some FieldType.int) :: wd_all) ({ frames := 2, cells := 0, slots := 0, locals := 42 } : Room) (bc_Pre (dC, dI) classes [(cI, .int), (cZ, .boolean)] [.ref a0, .ref h0] [(a0, .inr (0, [.ref s1, .ref s2, .ref s3, .ref s4, .ref s5, .int res])), (s1, .inl (cI, 240, .inl S)), (s2, .inl (cI, 240, .inl C)), (s3, .inl (cZ, 40, .inl Wt)), (s4, .inl (cI, 6, .inl SB)), (s5, .inl (cI, 6, .inl CB)), (h0, .inr (1, [.ref q1, .ref q2, .ref q3, .ref q4, .int (nI n)]))] sz) (va_Qi (fun (r : Int32) (u : Unit) => r = nI (bc_sm (fun j => if S (6 * j + 0) = 0 then 0 else 1) n)) (fun (u : Unit) t => bc_B (dC, dI) classes [(cI, .int), (cZ, .boolean)] (va_A [(a0, .inr (0, [.ref s1, .ref s2, .ref s3, .ref s4, .ref s5, .int res])), (s1, .inl (cI, 240, .inl S)), (s2, .inl (cI, 240, .inl C)), (s3, .inl (cZ, 40, .inl Wt)), (s4, .inl (cI, 6, .inl SB)), (s5, .inl (cI, 6, .inl CB)), (h0, .inr (1, [.ref q1, .ref q2, .ref q3, .ref q4, .int (nI n)]))] sz) [(a0, .inr (0, [.ref s1, .ref s2, .ref s3, .ref s4, .ref s5, .int res])), (s1, .inl (cI, 240, .inl S)), (s2, .inl (cI, 240, .inl C)), (s3, .inl (cZ, 40, .inl Wt)), (s4, .inl (cI, 6, .inl SB)), (s5, .inl (cI, 6, .inl CB)), (h0, .inr (1, [.ref q1, .ref q2, .ref q3, .ref q4, .int (nI n)]))] t) ((va_A [(a0, .inr (0, [.ref s1, .ref s2, .ref s3, .ref s4, .ref s5, .int res])), (s1, .inl (cI, 240, .inl S)), (s2, .inl (cI, 240, .inl C)), (s3, .inl (cZ, 40, .inl Wt)), (s4, .inl (cI, 6, .inl SB)), (s5, .inl (cI, 6, .inl CB)), (h0, .inr (1, [.ref q1, .ref q2, .ref q3, .ref q4, .int (nI n)]))] sz))) 0 0 (va_A [(a0, .inr (0, [.ref s1, .ref s2, .ref s3, .ref s4, .ref s5, .int res])), (s1, .inl (cI, 240, .inl S)), (s2, .inl (cI, 240, .inl C)), (s3, .inl (cZ, 40, .inl Wt)), (s4, .inl (cI, 6, .inl SB)), (s5, .inl (cI, 6, .inl CB)), (h0, .inr (1, [.ref q1, .ref q2, .ref q3, .ref q4, .int (nI n)]))] sz) := by
  refine bc_met (fun A => va_Qi (fun (r : Int32) (u : Unit) => r = nI (bc_sm (fun j => if S (6 * j + 0) = 0 then 0 else 1) n)) (fun (u : Unit) t => bc_B (dC, dI) classes [(cI, .int), (cZ, .boolean)] A [(a0, .inr (0, [.ref s1, .ref s2, .ref s3, .ref s4, .ref s5, .int res])), (s1, .inl (cI, 240, .inl S)), (s2, .inl (cI, 240, .inl C)), (s3, .inl (cZ, 40, .inl Wt)), (s4, .inl (cI, 6, .inl SB)), (s5, .inl (cI, 6, .inl CB)), (h0, .inr (1, [.ref q1, .ref q2, .ref q3, .ref q4, .int (nI n)]))] t) A) (by decide) (Nat.le_of_ble_eq_true rfl) ?_
  intro p e s m args below meth c A ls F hr hlocks hin hA hP hD hl hS
  have hx := F.1
  have hb := F.2.1
  have hml := F.2.2.1
  have hown : s.vm.findClass "BranchConstants$Analysis" = some m.cls := F.2.2.2.1
  have htw := F.2.2.2.2.1
  have hN := F.2.2.2.2.2.1
  have hK := F.2.2.2.2.2.2
  have hl : lv_has ls 4 [(0, .ref a0), (1, .ref h0)] := hl
  refine lv_iconst (v := 0) hx hb de_A_countReached_0 (by decide) ?_
  refine bc_ti (y := nI (bc_sm (fun j => if S (6 * j + 0) = 0 then 0 else 1) 0)) nI_0.symm ?_
  refine lv_istore_n (lv' := [(2, .int (nI (bc_sm (fun j => if S (6 * j + 0) = 0 then 0 else 1) 0))), (0, .ref a0), (1, .ref h0)]) hx hb de_A_countReached_1 rfl hl (by decide) rfl (fun ls hl => ?_)
  refine lv_iconst (v := 0) hx hb de_A_countReached_2 (by decide) ?_
  refine bc_ti (y := nI 0) nI_0.symm ?_
  refine lv_istore_n (lv' := [(3, .int (nI 0)), (2, .int (nI (bc_sm (fun j => if S (6 * j + 0) = 0 then 0 else 1) 0))), (0, .ref a0), (1, .ref h0)]) hx hb de_A_countReached_3 rfl hl (by decide) rfl (fun ls hl => ?_)
  refine bc_loop (fun k_4 H locs ls => ∃ (i : Nat), lv_has ls 4 [(3, .int (nI i)), (2, .int (nI (bc_sm (fun j => if S (6 * j + 0) = 0 then 0 else 1) i))), (0, .ref a0), (1, .ref h0)] ∧ va_P (dC, dI) classes [(a0, .inr (0, [.ref s1, .ref s2, .ref s3, .ref s4, .ref s5, .int res])), (s1, .inl (cI, 240, .inl S)), (s2, .inl (cI, 240, .inl C)), (s3, .inl (cZ, 40, .inl Wt)), (s4, .inl (cI, 6, .inl SB)), (s5, .inl (cI, 6, .inl CB)), (h0, .inr (1, [.ref q1, .ref q2, .ref q3, .ref q4, .int (nI n)]))] H ∧ va_D A [(a0, .inr (0, [.ref s1, .ref s2, .ref s3, .ref s4, .ref s5, .int res])), (s1, .inl (cI, 240, .inl S)), (s2, .inl (cI, 240, .inl C)), (s3, .inl (cZ, 40, .inl Wt)), (s4, .inl (cI, 6, .inl SB)), (s5, .inl (cI, 6, .inl CB)), (h0, .inr (1, [.ref q1, .ref q2, .ref q3, .ref q4, .int (nI n)]))] ∧ va_S A s.heap H locs ∧ k_4 = n - i ∧ (i ≤ n)) ?_ ?_
  · rintro k_4 H locs ls ⟨i, hl, hP, hD, hS, hk_4, hi⟩ ih_4
    refine lv_iload_n hx hb de_A_countReached_4 rfl (lv_at hl 0 rfl) ?_
    refine lv_aload_n hx hb de_A_countReached_5 rfl (lv_at hl 3 rfl) ?_
    refine va_getN (D := (dC, dI)) (ci := 1) (v := .int (nI n)) (C := rc_C) (T := fc_C) (N := 5) hx hb htw wi_C hown hK hP 6 rfl rfl 4 (by decide) (va_Nw.use rfl (hN _ nm_14)) (fun _ h9 => h9) rfl de_A_countReached_6 ?_
    refine lv_icmp_ge (tgt := 29) hx hb de_A_countReached_9 (by decide) (fun hc_9 => ?_) (fun hc_9 => ?_)
    · have heq : i = n := by have := bc_ge (by omega) (by omega) hc_9; omega
      subst heq
      refine lv_iload_n hx hb de_A_countReached_29 rfl (lv_at hl 1 rfl) ?_
      exact bc_iret F hr hlocks (()) rfl hP hD hS de_A_countReached_30
    · have hlt : i < n := bc_lt (by omega) (by omega) hc_9
      refine lv_aload_n hx hb de_A_countReached_12 rfl (lv_at hl 2 rfl) ?_
      refine lv_iload_n hx hb de_A_countReached_13 rfl (lv_at hl 0 rfl) ?_
      refine bc_call_v_i (As := [.int (nI i)]) (rest := []) (wr := [(h0, .inr (1, [.ref q1, .ref q2, .ref q3, .ref q4, .int (nI n)]))]) F (co_A_isReached (by omega)) wm_168 wm_3 wm_166 wm_167 wm_606 0 rfl rfl pd_A_isReached rfl rfl ⟨Nat.le_of_ble_eq_true rfl, Nat.le_of_ble_eq_true rfl⟩ hP hD hS hA [0, 1, 2, 3, 4, 5] [6] rfl rfl rfl rfl (by decide) rfl hl.1 rfl (Nat.le_of_ble_eq_true rfl) de_A_countReached_14 ⟨Nat.le_of_ble_eq_true rfl, Nat.le_of_ble_eq_true rfl⟩ (fun r_14 u H locs hw_14 hP hD hS => ?_)
      have hP : va_P (dC, dI) classes [(a0, .inr (0, [.ref s1, .ref s2, .ref s3, .ref s4, .ref s5, .int res])), (s1, .inl (cI, 240, .inl S)), (s2, .inl (cI, 240, .inl C)), (s3, .inl (cZ, 40, .inl Wt)), (s4, .inl (cI, 6, .inl SB)), (s5, .inl (cI, 6, .inl CB)), (h0, .inr (1, [.ref q1, .ref q2, .ref q3, .ref q4, .int (nI n)]))] H := hP.sub [1, 2, 3, 4, 5, 6, 0] rfl
      have hD : va_D A [(a0, .inr (0, [.ref s1, .ref s2, .ref s3, .ref s4, .ref s5, .int res])), (s1, .inl (cI, 240, .inl S)), (s2, .inl (cI, 240, .inl C)), (s3, .inl (cZ, 40, .inl Wt)), (s4, .inl (cI, 6, .inl SB)), (s5, .inl (cI, 6, .inl CB)), (h0, .inr (1, [.ref q1, .ref q2, .ref q3, .ref q4, .int (nI n)]))] := hD.sub [1, 2, 3, 4, 5, 6, 0] (by decide) rfl
      rcases hw_14 with ⟨he_14, hv_14⟩ | ⟨he_14, hv_14⟩
      · subst he_14
        refine lv_if_eq (tgt := 23) hx hb de_A_countReached_17 (by decide) (fun hc => absurd hc (by decide)) (fun _ => ?_)
        refine lv_iinc (k := 1) (v := nI (bc_sm (fun j => if S (6 * j + 0) = 0 then 0 else 1) (i + 1))) (lv' := [(2, .int (nI (bc_sm (fun j => if S (6 * j + 0) = 0 then 0 else 1) (i + 1)))), (3, .int (nI i)), (0, .ref a0), (1, .ref h0)]) hx hb de_A_countReached_20 hl rfl (bc_cnt_1 (if_neg hv_14)) (by decide) rfl (fun ls hl => ?_)
        refine lv_iinc (k := 1) (v := nI (i + 1)) (lv' := [(3, .int (nI (i + 1))), (2, .int (nI (bc_sm (fun j => if S (6 * j + 0) = 0 then 0 else 1) (i + 1)))), (0, .ref a0), (1, .ref h0)]) hx hb de_A_countReached_23 hl rfl (bc_inc _) (by decide) rfl (fun ls hl => ?_)
        refine lv_goto (tgt := 4) hx hb de_A_countReached_26 (by decide) ?_
        exact ih_4 _ _ _ _ (by omega) ⟨(i + 1), lv_sub hl [0, 1, 2, 3] rfl, hP, hD, hS, rfl, (by omega)⟩
      · subst he_14
        refine lv_if_eq (tgt := 23) hx hb de_A_countReached_17 (by decide) (fun _ => ?_) (fun hc => absurd (by decide) hc)
        rw [bc_cnt_0 (f := fun j => if S (6 * j + 0) = 0 then 0 else 1) (i := i) (if_pos hv_14)] at hl
        refine lv_iinc (k := 0) (v := nI (i + 1)) (lv' := [(3, .int (nI (i + 1))), (2, .int (nI (bc_sm (fun j => if S (6 * j + 0) = 0 then 0 else 1) (i + 1)))), (0, .ref a0), (1, .ref h0)]) hx hb de_A_countReached_23 hl rfl (bc_inc _) (by decide) rfl (fun ls hl => ?_)
        refine lv_goto (tgt := 4) hx hb de_A_countReached_26 (by decide) ?_
        exact ih_4 _ _ _ _ (by omega) ⟨(i + 1), lv_sub hl [0, 1, 2, 3] rfl, hP, hD, hS, rfl, (by omega)⟩
  · exact ⟨_, 0, lv_sub hl [0, 1, 2, 3] rfl, hP, hD, hS, rfl, Nat.zero_le _⟩
end
section
/-! Analysis: comeTo, goOnFrom, perform (by program: wip/whole/gen/modA2.py) -/
theorem bc_ctA {S C SB CB W W1 : bc_F} {g : bc_G} {t v : Nat} {q : bc_R} (hep : bc_ep S C g t q v) (ht : t < 40) (hv : v < 6) (h0 : S (6 * t + v) = 0) (her : bc_er SB CB q) (hwv : bc_wv (g t) q W t v W1) : bc_ep (upd S (6 * t + v) (SB v)) (upd C (6 * t + v) (CB v)) g t q (v + 1) ∧ bc_wv (g t) q W t (v + 1) (upd W1 t 1) := by
  have hg : g t = none := bc_s0_0 (v := v) (by rw [← (bc_ep_at hep ht hv).1]; exact h0)
  refine ⟨bc_ep_up hep hv ?_ ?_, bc_wv_1 hwv ?_⟩
  · rw [hg]; exact (her v hv).1
  · rw [hg]; exact (her v hv).2
  · rw [hg]; exact (show 0 < v + 1 by omega)
theorem bc_ctB {S C SB CB W W1 : bc_F} {g : bc_G} {t v : Nat} {q : bc_R} (hep : bc_ep S C g t q v) (ht : t < 40) (hv : v < 6) (h0 : ¬ S (6 * t + v) = 0) (h2 : S (6 * t + v) = 2) (hb : ¬ (SB v = 2 ∧ CB v = C (6 * t + v))) (her : bc_er SB CB q) (hwv : bc_wv (g t) q W t v W1) : bc_ep (upd S (6 * t + v) 1) (upd C (6 * t + v) 0) g t q (v + 1) ∧ bc_wv (g t) q W t (v + 1) (upd W1 t 1) := by
  have e1 := bc_ep_at hep ht hv
  obtain ⟨r, hr⟩ : ∃ r, g t = some r := bc_s0_n0 (v := v) (by rw [← e1.1]; exact h0)
  rw [hr] at e1
  have hrv : r v = some (bc_c0 (some r) v) := bc_s0_is2 (by rw [← e1.1]; exact h2)
  have hne : r v ≠ q v := by
    intro z
    have z2 : q v = some (bc_c0 (some r) v) := by rw [← z]; exact hrv
    exact hb ⟨(her v hv).1.trans (bc_s0_2 z2).1, (her v hv).2.trans ((bc_s0_2 z2).2.trans e1.2.symm)⟩
  have hj : bc_jo (some r) q v = none := bc_jo_diff hne
  refine ⟨bc_ep_up hep hv ?_ ?_, bc_wv_1 hwv ?_⟩
  · rw [hr]; exact (bc_s0_1 hj).1.symm
  · rw [hr]; exact (bc_s0_1 hj).2.symm
  · rw [hr]; exact bc_chv_at (by rw [hrv]; exact fun z => by cases z) hne
theorem bc_ctC {S C SB CB W W1 : bc_F} {g : bc_G} {t v : Nat} {q : bc_R} (hep : bc_ep S C g t q v) (ht : t < 40) (hv : v < 6) (h0 : ¬ S (6 * t + v) = 0) (hc : ¬ S (6 * t + v) = 2 ∨ (SB v = 2 ∧ CB v = C (6 * t + v))) (her : bc_er SB CB q) (hwv : bc_wv (g t) q W t v W1) : bc_ep S C g t q (v + 1) ∧ bc_wv (g t) q W t (v + 1) W1 := by
  have e1 := bc_ep_at hep ht hv
  obtain ⟨r, hr⟩ : ∃ r, g t = some r := bc_s0_n0 (v := v) (by rw [← e1.1]; exact h0)
  rw [hr] at e1
  have hsame : r v = none ∨ r v = q v := by
    by_cases h2 : S (6 * t + v) = 2
    · right
      rcases hc with h | ⟨h, h'⟩
      · exact absurd h2 h
      · have a1 : r v = some (bc_c0 (some r) v) := bc_s0_is2 (by rw [← e1.1]; exact h2)
        have a2 : q v = some (bc_c0 (some q) v) := bc_s0_is2 (by rw [← (her v hv).1]; exact h)
        rw [a1, a2, ← e1.2, ← h', (her v hv).2]
    · left
      exact bc_s0_n2 (by rw [← e1.1]; exact h2)
  have hj := bc_jo_same hsame
  refine ⟨bc_ep_id hep ?_ ?_, bc_wv_n hwv ?_⟩
  · rw [hr]; exact (bc_s0_cg hj.symm).1
  · rw [hr]; exact (bc_s0_cg hj.symm).2
  · rw [hr]; exact fun z => bc_chv_no z hsame
theorem bc_come_tn (n : Nat) (g : bc_G) (x : Int32) (q : bc_R) : bc_come n g (bc_tn n x) q = bc_come n g x.toNatClampNeg q := by
  unfold bc_tn
  by_cases h : x.toNatClampNeg < n
  · rw [if_pos h]
  · rw [if_neg h, bc_come_out h, bc_come_out (by omega)]
theorem bc_wr_tn {n : Nat} {g : bc_G} {x : Int32} {q : bc_R} {W W' : bc_F} (hw : bc_wr n g W (bc_tn n x) q W') : bc_wr n g W x.toNatClampNeg q W' := by
  unfold bc_tn at hw
  by_cases h : x.toNatClampNeg < n
  · rw [if_pos h] at hw; exact hw
  · rw [if_neg h] at hw
    obtain ⟨a, _, b⟩ := hw
    have hall : ∀ j, W' j = W j := fun j => by
      by_cases e : j = n
      · rw [e]; exact b (Or.inl (by omega))
      · exact a j e
    exact ⟨fun j _ => hall j, fun z => absurd z h, fun _ => hall _⟩
theorem bc_run_1 {n t : Nat} {g : bc_G} {q : bc_R} {W W' : bc_F} (h : bc_wr n g W t q W') : bc_run n [(t, q)] g W (bc_come n g t q) W' := ⟨W', h, rfl, rfl⟩
theorem bc_run_tn {n : Nat} {g : bc_G} {x : Int32} {q : bc_R} {W W' : bc_F} (h : bc_wr n g W (bc_tn n x) q W') : bc_run n [(x.toNatClampNeg, q)] g W (bc_come n g (bc_tn n x) q) W' := ⟨W', bc_wr_tn h, bc_come_tn n g x q, rfl⟩
theorem bc_run_2 {n t : Nat} {g : bc_G} {x : Int32} {q q' : bc_R} {W W1 W' : bc_F} (h : bc_wr n g W t q W1) (h' : bc_wr n (bc_come n g t q) W1 (bc_tn n x) q' W') : bc_run n [(t, q), (x.toNatClampNeg, q')] g W (bc_come n (bc_come n g t q) (bc_tn n x) q') W' := ⟨W1, h, bc_run_tn h'⟩
theorem bc_out_4 {K O T Z : bc_F} {i : Nat} {r : bc_R} {o : Nat} (h4 : K i ≤ 4) (eO : O i = nI o) (ho : o < 6) : bc_out K O T Z i r = [(i + 1, bc_up r o (bc_rs K T Z i r))] := by
  unfold bc_out
  rw [if_pos h4, bc_cl6 eO ho]
theorem bc_out_6 {K O T Z : bc_F} {i : Nat} {r : bc_R} (h4 : ¬ K i ≤ 4) (h6 : K i = 6) : bc_out K O T Z i r = [((T i).toNatClampNeg, r)] := by
  unfold bc_out
  rw [if_neg h4, if_pos h6]
theorem bc_out_7 {K O T Z : bc_F} {i : Nat} {r : bc_R} (h4 : ¬ K i ≤ 4) (h6 : ¬ K i = 6) (h5 : ¬ K i = 5) : bc_out K O T Z i r = [] := by
  unfold bc_out
  rw [if_neg h4, if_neg h6, if_neg h5]
theorem bc_out_5z {K O T Z : bc_F} {i : Nat} {r : bc_R} {o : Nat} {x : Int32} (h5 : K i = 5) (eO : O i = nI o) (ho : o < 6) (h : r o = some x) (h0 : x = 0) : bc_out K O T Z i r = [((T i).toNatClampNeg, r)] := by
  unfold bc_out
  rw [if_neg (by rw [h5]; decide), if_neg (by rw [h5]; decide), if_pos h5, bc_cl6 eO ho, h]
  exact if_pos h0
theorem bc_out_5n {K O T Z : bc_F} {i : Nat} {r : bc_R} {o : Nat} {x : Int32} (h5 : K i = 5) (eO : O i = nI o) (ho : o < 6) (h : r o = some x) (h0 : ¬ x = 0) : bc_out K O T Z i r = [(i + 1, r)] := by
  unfold bc_out
  rw [if_neg (by rw [h5]; decide), if_neg (by rw [h5]; decide), if_pos h5, bc_cl6 eO ho, h]
  exact if_neg h0
theorem bc_out_5v {K O T Z : bc_F} {i : Nat} {r : bc_R} {o : Nat} (h5 : K i = 5) (eO : O i = nI o) (ho : o < 6) (h : r o = none) : bc_out K O T Z i r = [(i + 1, r), ((T i).toNatClampNeg, bc_up r o (some 0))] := by
  unfold bc_out
  rw [if_neg (by rw [h5]; decide), if_neg (by rw [h5]; decide), if_pos h5, bc_cl6 eO ho, h]
theorem bc_er_up {S C : bc_F} {r : bc_R} {o : Nat} {a b : Int32} {x : Option Int32} (h : bc_er S C r) (ha : a = bc_s0 (some (fun _ => x)) 0) (hb : b = bc_c0 (some (fun _ => x)) 0) : bc_er (upd S o a) (upd C o b) (bc_up r o x) := by
  intro v hv
  by_cases e : v = o
  · subst e
    rw [pk_us, pk_us, ha, hb]
    have : bc_up r v x v = (fun _ => x) 0 := by unfold bc_up; rw [if_pos rfl]
    cases x with
    | none => exact ⟨((bc_s0_1 (r := bc_up r v none) this).1).symm, ((bc_s0_1 (r := bc_up r v none) this).2).symm⟩
    | some y => exact ⟨((bc_s0_2 (r := bc_up r v (some y)) this).1).symm, ((bc_s0_2 (r := bc_up r v (some y)) this).2).symm⟩
  · rw [pk_un e, pk_un e]
    have : bc_up r o x v = r v := by unfold bc_up; rw [if_neg e]
    rw [(bc_s0_cg this).1, (bc_s0_cg this).2]
    exact h v hv
theorem bc_way {C : bc_F} {T : bc_F} {i o n : Nat} {r : Int32} (hi : i < 40) (hn : n ≤ 40) (h : (C (6 * i + o) = 0 → r = nI (bc_tn n (T i))) ∧ (¬ C (6 * i + o) = 0 → r = nI (i + 1))) : ∃ tw : Nat, r = nI tw ∧ tw < 2 ^ 31 ∧ ((C (6 * i + o) = 0 ∧ tw = bc_tn n (T i)) ∨ (¬ C (6 * i + o) = 0 ∧ tw = i + 1)) := by
  by_cases c : C (6 * i + o) = 0
  · exact ⟨bc_tn n (T i), h.1 c, by have := bc_tn_le n (T i); omega, Or.inl ⟨c, rfl⟩⟩
  · exact ⟨i + 1, h.2 c, by omega, Or.inr ⟨c, rfl⟩⟩
theorem bc_zero_end {n i o tw : Nat} {K O T Z S C W W' : bc_F} {g : bc_G} {rr : bc_R} (h5 : K i = 5) (eO : O i = nI o) (ho : o < 6) (hrow : ∀ v, v < 6 → S (6 * i + v) = bc_s0 (some rr) v ∧ C (6 * i + v) = bc_c0 (some rr) v) (h2 : S (6 * i + o) = 2) (hq : (C (6 * i + o) = 0 ∧ tw = bc_tn n (T i)) ∨ (¬ C (6 * i + o) = 0 ∧ tw = i + 1)) (hwr : bc_wr n g W tw rr W') : bc_run n (bc_out K O T Z i rr) g W (bc_come n g tw rr) W' := by
  have hr : rr o = some (bc_c0 (some rr) o) := bc_s0_is2 (by rw [← (hrow o ho).1]; exact h2)
  rcases hq with ⟨c, e⟩ | ⟨c, e⟩
  · subst e
    rw [bc_out_5z h5 eO ho hr (by rw [← (hrow o ho).2]; exact c)]
    exact bc_run_tn hwr
  · subst e
    rw [bc_out_5n h5 eO ho hr (by rw [← (hrow o ho).2]; exact c)]
    exact bc_run_1 hwr
theorem bc_row {S C : bc_F} {g : bc_G} {i : Nat} {rr : bc_R} (hen : bc_en S C g) (hi : i < 40) (hg : g i = some rr) : ∀ v, v < 6 → S (6 * i + v) = bc_s0 (some rr) v ∧ C (6 * i + v) = bc_c0 (some rr) v := fun v hv => by
  rw [← hg]; exact hen i hi v hv
set_option maxHeartbeats 4000000 in
set_option maxRecDepth 100000 in
/-- what is behind is joined with what is held before the instruction -/
theorem co_A_comeTo {l : Launch} {dC : Nat → ClassId} {dI : Nat → Nat → Nat} {cI cZ : ClassId} {sz : Nat} {a0 s1 s2 s3 s4 s5 : Nat} {S C Wt SB CB : bc_F} {res : Int32}{h0 q1 q2 q3 q4 n : Nat} {t : Nat} {g : bc_G} {q : bc_R} (hn : n ≤ 40) (ht : t < 2 ^ 31) (hen : bc_en S C g) (her : bc_er SB CB q) : Met l yn_A_comeTo (Cond.code yn_A_comeTo by_A_comeTo 5 none :: wd_all) ({ frames := 1, cells := 0, slots := 0, locals := 22 } : Room) (bc_Pre (dC, dI) classes [(cI, .int), (cZ, .boolean)] [.ref a0, .ref h0, .int (nI t)] [(a0, .inr (0, [.ref s1, .ref s2, .ref s3, .ref s4, .ref s5, .int res])), (s1, .inl (cI, 240, .inl S)), (s2, .inl (cI, 240, .inl C)), (s3, .inl (cZ, 40, .inl Wt)), (s4, .inl (cI, 6, .inl SB)), (s5, .inl (cI, 6, .inl CB)), (h0, .inr (1, [.ref q1, .ref q2, .ref q3, .ref q4, .int (nI n)]))] sz) (va_Qv (fun (u : bc_F × bc_F × bc_F) => bc_en u.1 u.2.1 (bc_come n g t q) ∧ bc_wr n g Wt t q u.2.2) (fun (u : bc_F × bc_F × bc_F) t => bc_B (dC, dI) classes [(cI, .int), (cZ, .boolean)] (va_A [(a0, .inr (0, [.ref s1, .ref s2, .ref s3, .ref s4, .ref s5, .int res])), (s1, .inl (cI, 240, .inl S)), (s2, .inl (cI, 240, .inl C)), (s3, .inl (cZ, 40, .inl Wt)), (s4, .inl (cI, 6, .inl SB)), (s5, .inl (cI, 6, .inl CB)), (h0, .inr (1, [.ref q1, .ref q2, .ref q3, .ref q4, .int (nI n)]))] sz) [(a0, .inr (0, [.ref s1, .ref s2, .ref s3, .ref s4, .ref s5, .int res])), (s1, .inl (cI, 240, .inl u.1)), (s2, .inl (cI, 240, .inl u.2.1)), (s3, .inl (cZ, 40, .inl u.2.2)), (s4, .inl (cI, 6, .inl SB)), (s5, .inl (cI, 6, .inl CB)), (h0, .inr (1, [.ref q1, .ref q2, .ref q3, .ref q4, .int (nI n)]))] t) ((va_A [(a0, .inr (0, [.ref s1, .ref s2, .ref s3, .ref s4, .ref s5, .int res])), (s1, .inl (cI, 240, .inl S)), (s2, .inl (cI, 240, .inl C)), (s3, .inl (cZ, 40, .inl Wt)), (s4, .inl (cI, 6, .inl SB)), (s5, .inl (cI, 6, .inl CB)), (h0, .inr (1, [.ref q1, .ref q2, .ref q3, .ref q4, .int (nI n)]))] sz))) 0 0 (va_A [(a0, .inr (0, [.ref s1, .ref s2, .ref s3, .ref s4, .ref s5, .int res])), (s1, .inl (cI, 240, .inl S)), (s2, .inl (cI, 240, .inl C)), (s3, .inl (cZ, 40, .inl Wt)), (s4, .inl (cI, 6, .inl SB)), (s5, .inl (cI, 6, .inl CB)), (h0, .inr (1, [.ref q1, .ref q2, .ref q3, .ref q4, .int (nI n)]))] sz) := by
  refine bc_met (fun A => va_Qv (fun (u : bc_F × bc_F × bc_F) => bc_en u.1 u.2.1 (bc_come n g t q) ∧ bc_wr n g Wt t q u.2.2) (fun (u : bc_F × bc_F × bc_F) t => bc_B (dC, dI) classes [(cI, .int), (cZ, .boolean)] A [(a0, .inr (0, [.ref s1, .ref s2, .ref s3, .ref s4, .ref s5, .int res])), (s1, .inl (cI, 240, .inl u.1)), (s2, .inl (cI, 240, .inl u.2.1)), (s3, .inl (cZ, 40, .inl u.2.2)), (s4, .inl (cI, 6, .inl SB)), (s5, .inl (cI, 6, .inl CB)), (h0, .inr (1, [.ref q1, .ref q2, .ref q3, .ref q4, .int (nI n)]))] t) A) (by decide) (Nat.le_of_ble_eq_true rfl) ?_
  intro p e s m args below meth c A ls F hr hlocks hin hA hP hD hl hS
  have hx := F.1
  have hb := F.2.1
  have hml := F.2.2.1
  have hown : s.vm.findClass "BranchConstants$Analysis" = some m.cls := F.2.2.2.1
  have htw := F.2.2.2.2.1
  have hN := F.2.2.2.2.2.1
  have hK := F.2.2.2.2.2.2
  have hl : lv_has ls 5 [(0, .ref a0), (1, .ref h0), (2, .int (nI t))] := hl
  refine lv_iload_n hx hb de_A_comeTo_0 rfl (lv_at hl 2 rfl) ?_
  refine lv_aload_n hx hb de_A_comeTo_1 rfl (lv_at hl 1 rfl) ?_
  refine va_getN (D := (dC, dI)) (ci := 1) (v := .int (nI n)) (C := rc_C) (T := fc_C) (N := 5) hx hb htw wi_C hown hK hP 6 rfl rfl 4 (by decide) (va_Nw.use rfl (hN _ nm_14)) (fun _ h9 => h9) rfl de_A_comeTo_2 ?_
  refine lv_icmp_lt (tgt := 9) hx hb de_A_comeTo_5 (by decide) (fun hc_5 => ?_) (fun hc_5 => ?_)
  · have hlt : t < n := (nI_ltI ht (by omega)).mp hc_5
    refine lv_iconst (v := 0) hx hb de_A_comeTo_9 (by decide) ?_
    refine bc_ti (y := nI 0) nI_0.symm ?_
    refine lv_istore_n (lv' := [(3, .int (nI 0)), (0, .ref a0), (1, .ref h0), (2, .int (nI t))]) hx hb de_A_comeTo_10 rfl hl (by decide) rfl (fun ls hl => ?_)
    refine bc_loop (fun k_11 H locs ls => ∃ (v : Nat) (S1 : bc_F) (C1 : bc_F) (W1 : bc_F), lv_has ls 5 [(3, .int (nI v)), (0, .ref a0), (1, .ref h0), (2, .int (nI t))] ∧ va_P (dC, dI) classes [(a0, .inr (0, [.ref s1, .ref s2, .ref s3, .ref s4, .ref s5, .int res])), (s1, .inl (cI, 240, .inl S1)), (s2, .inl (cI, 240, .inl C1)), (s3, .inl (cZ, 40, .inl W1)), (s4, .inl (cI, 6, .inl SB)), (s5, .inl (cI, 6, .inl CB)), (h0, .inr (1, [.ref q1, .ref q2, .ref q3, .ref q4, .int (nI n)]))] H ∧ va_D A [(a0, .inr (0, [.ref s1, .ref s2, .ref s3, .ref s4, .ref s5, .int res])), (s1, .inl (cI, 240, .inl S1)), (s2, .inl (cI, 240, .inl C1)), (s3, .inl (cZ, 40, .inl W1)), (s4, .inl (cI, 6, .inl SB)), (s5, .inl (cI, 6, .inl CB)), (h0, .inr (1, [.ref q1, .ref q2, .ref q3, .ref q4, .int (nI n)]))] ∧ va_S A s.heap H locs ∧ k_11 = 6 - v ∧ (v ≤ 6) ∧ (bc_ep S1 C1 g t q v) ∧ (bc_wv (g t) q Wt t v W1)) ?_ ?_
    · rintro k_11 H locs ls ⟨v, S1, C1, W1, hl, hP, hD, hS, hk_11, hv, hep, hwv⟩ ih_11
      refine lv_iload_n hx hb de_A_comeTo_11 rfl (lv_at hl 0 rfl) ?_
      refine lv_bipush (v := 6) hx hb de_A_comeTo_12 (by decide) ?_
      refine lv_icmp_ge (tgt := 125) hx hb de_A_comeTo_14 (by decide) (fun hc_14 => ?_) (fun hc_14 => ?_)
      · have heq : v = 6 := by have := bc_ge (b := 6) (by omega) (by omega) hc_14; omega
        subst heq
        exact bc_vret F hr hlocks ((S1, C1, W1)) ⟨bc_ep_6 hep hlt, bc_wv_6 hlt hwv⟩ hP hD hS de_A_comeTo_125
      · have hv6 : v < 6 := bc_lt (b := 6) (by omega) (by omega) hc_14
        refine lv_iload_n hx hb de_A_comeTo_17 rfl (lv_at hl 3 rfl) ?_
        refine lv_iload_n hx hb de_A_comeTo_18 rfl (lv_at hl 0 rfl) ?_
        refine bc_call_ns_i (As := [.int (nI t), .int (nI v)]) (rest := []) (wr := [(a0, .inr (0, [.ref s1, .ref s2, .ref s3, .ref s4, .ref s5, .int res])), (s1, .inl (cI, 240, .inl S1)), (s2, .inl (cI, 240, .inl C1)), (s3, .inl (cZ, 40, .inl W1)), (s4, .inl (cI, 6, .inl SB)), (s5, .inl (cI, 6, .inl CB)), (h0, .inr (1, [.ref q1, .ref q2, .ref q3, .ref q4, .int (nI n)]))]) F (co_B_cell) wm_127 wm_1 nm_28 wm_126 pd_B_cell rfl rfl ⟨Nat.le_of_ble_eq_true rfl, Nat.le_of_ble_eq_true rfl⟩ hP hD hS hA [] [0, 1, 2, 3, 4, 5, 6] rfl rfl rfl rfl (by decide) rfl hl.1 rfl (Nat.le_of_ble_eq_true rfl) de_A_comeTo_19 ⟨Nat.le_of_ble_eq_true rfl, Nat.le_of_ble_eq_true rfl⟩ (fun r_19 u_19 H locs hw_19 hP hD hS => ?_)
        have hP : va_P (dC, dI) classes [(a0, .inr (0, [.ref s1, .ref s2, .ref s3, .ref s4, .ref s5, .int res])), (s1, .inl (cI, 240, .inl S1)), (s2, .inl (cI, 240, .inl C1)), (s3, .inl (cZ, 40, .inl W1)), (s4, .inl (cI, 6, .inl SB)), (s5, .inl (cI, 6, .inl CB)), (h0, .inr (1, [.ref q1, .ref q2, .ref q3, .ref q4, .int (nI n)]))] H := hP.sub [0, 1, 2, 3, 4, 5, 6] rfl
        have hD : va_D A [(a0, .inr (0, [.ref s1, .ref s2, .ref s3, .ref s4, .ref s5, .int res])), (s1, .inl (cI, 240, .inl S1)), (s2, .inl (cI, 240, .inl C1)), (s3, .inl (cZ, 40, .inl W1)), (s4, .inl (cI, 6, .inl SB)), (s5, .inl (cI, 6, .inl CB)), (h0, .inr (1, [.ref q1, .ref q2, .ref q3, .ref q4, .int (nI n)]))] := hD.sub [0, 1, 2, 3, 4, 5, 6] (by decide) rfl
        subst hw_19
        refine lv_istore (lv' := [(4, .int (nI (6 * t + v))), (3, .int (nI v)), (0, .ref a0), (1, .ref h0), (2, .int (nI t))]) hx hb de_A_comeTo_22 hl (by decide) rfl (fun ls hl => ?_)
        refine lv_aload_n hx hb de_A_comeTo_24 rfl (lv_at hl 2 rfl) ?_
        refine va_get (D := (dC, dI)) (ci := 0) (v := .ref s1) (C := rc_A) (T := fc_A) (N := 6) hx hb htw wi_A hown hK hP 0 rfl rfl 0 (by decide) (htw _ wm_45) (fun _ h9 => h9) rfl de_A_comeTo_25 ?_
        refine lv_iload hx hb de_A_comeTo_28 (lv_at hl 0 rfl) ?_
        refine bc_ild (j := 6 * t + v) hx hb hK hP 1 0 rfl rfl (by omega) (by decide) de_A_comeTo_30 ?_
        refine lv_if_ne (tgt := 70) hx hb de_A_comeTo_31 (by decide) (fun hc_31 => ?_) (fun hc_31 => ?_)
        · refine lv_aload_n hx hb de_A_comeTo_70 rfl (lv_at hl 2 rfl) ?_
          refine va_get (D := (dC, dI)) (ci := 0) (v := .ref s1) (C := rc_A) (T := fc_A) (N := 6) hx hb htw wi_A hown hK hP 0 rfl rfl 0 (by decide) (htw _ wm_45) (fun _ h9 => h9) rfl de_A_comeTo_71 ?_
          refine lv_iload hx hb de_A_comeTo_74 (lv_at hl 0 rfl) ?_
          refine bc_ild (j := 6 * t + v) hx hb hK hP 1 0 rfl rfl (by omega) (by decide) de_A_comeTo_76 ?_
          refine lv_iconst (v := 2) hx hb de_A_comeTo_77 (by decide) ?_
          refine lv_icmp_ne (tgt := 119) hx hb de_A_comeTo_78 (by decide) (fun hc_78 => ?_) (fun hc_78 => ?_)
          · refine lv_iinc (k := 1) (v := nI (v + 1)) (lv' := [(3, .int (nI (v + 1))), (4, .int (nI (6 * t + v))), (0, .ref a0), (1, .ref h0), (2, .int (nI t))]) hx hb de_A_comeTo_119 hl rfl (bc_inc _) (by decide) rfl (fun ls hl => ?_)
            refine lv_goto (tgt := 11) hx hb de_A_comeTo_122 (by decide) ?_
            exact ih_11 _ _ _ _ (by omega) ⟨(v + 1), S1, C1, W1, lv_sub hl [0, 2, 3, 4] rfl, hP, hD, hS, rfl, (by omega), (bc_ctC hep (by omega) (by omega) hc_31 (Or.inl hc_78) her hwv).1, (bc_ctC hep (by omega) (by omega) hc_31 (Or.inl hc_78) her hwv).2⟩
          · refine lv_aload_n hx hb de_A_comeTo_81 rfl (lv_at hl 2 rfl) ?_
            refine lv_iload_n hx hb de_A_comeTo_82 rfl (lv_at hl 1 rfl) ?_
            refine lv_aload_n hx hb de_A_comeTo_83 rfl (lv_at hl 2 rfl) ?_
            refine va_get (D := (dC, dI)) (ci := 0) (v := .ref s2) (C := rc_A) (T := fc_A) (N := 6) hx hb htw wi_A hown hK hP 0 rfl rfl 1 (by decide) (htw _ wm_46) (fun _ h9 => h9) rfl de_A_comeTo_84 ?_
            refine lv_iload hx hb de_A_comeTo_87 (lv_at hl 0 rfl) ?_
            refine bc_ild (j := 6 * t + v) hx hb hK hP 2 0 rfl rfl (by omega) (by decide) de_A_comeTo_89 ?_
            refine bc_call_v_i (As := [.int (nI v), .int (C1 (6 * t + v))]) (rest := []) (wr := [(h0, .inr (1, [.ref q1, .ref q2, .ref q3, .ref q4, .int (nI n)]))]) F (co_A_isBehind hv6) wm_130 wm_3 wm_128 wm_129 wm_594 0 rfl rfl pd_A_isBehind rfl rfl ⟨Nat.le_of_ble_eq_true rfl, Nat.le_of_ble_eq_true rfl⟩ hP hD hS hA [0, 1, 2, 3, 4, 5] [6] rfl rfl rfl rfl (by decide) rfl hl.1 rfl (Nat.le_of_ble_eq_true rfl) de_A_comeTo_90 ⟨Nat.le_of_ble_eq_true rfl, Nat.le_of_ble_eq_true rfl⟩ (fun r_90 u_90 H locs hw_90 hP hD hS => ?_)
            have hP : va_P (dC, dI) classes [(a0, .inr (0, [.ref s1, .ref s2, .ref s3, .ref s4, .ref s5, .int res])), (s1, .inl (cI, 240, .inl S1)), (s2, .inl (cI, 240, .inl C1)), (s3, .inl (cZ, 40, .inl W1)), (s4, .inl (cI, 6, .inl SB)), (s5, .inl (cI, 6, .inl CB)), (h0, .inr (1, [.ref q1, .ref q2, .ref q3, .ref q4, .int (nI n)]))] H := hP.sub [1, 2, 3, 4, 5, 6, 0] rfl
            have hD : va_D A [(a0, .inr (0, [.ref s1, .ref s2, .ref s3, .ref s4, .ref s5, .int res])), (s1, .inl (cI, 240, .inl S1)), (s2, .inl (cI, 240, .inl C1)), (s3, .inl (cZ, 40, .inl W1)), (s4, .inl (cI, 6, .inl SB)), (s5, .inl (cI, 6, .inl CB)), (h0, .inr (1, [.ref q1, .ref q2, .ref q3, .ref q4, .int (nI n)]))] := hD.sub [1, 2, 3, 4, 5, 6, 0] (by decide) rfl
            rcases hw_90 with ⟨he_90, hv_90⟩ | ⟨he_90, hv_90⟩
            · subst he_90
              refine lv_if_ne (tgt := 119) hx hb de_A_comeTo_93 (by decide) (fun _ => ?_) (fun hc => absurd hc (by decide))
              refine lv_iinc (k := 1) (v := nI (v + 1)) (lv' := [(3, .int (nI (v + 1))), (4, .int (nI (6 * t + v))), (0, .ref a0), (1, .ref h0), (2, .int (nI t))]) hx hb de_A_comeTo_119 hl rfl (bc_inc _) (by decide) rfl (fun ls hl => ?_)
              refine lv_goto (tgt := 11) hx hb de_A_comeTo_122 (by decide) ?_
              exact ih_11 _ _ _ _ (by omega) ⟨(v + 1), S1, C1, W1, lv_sub hl [0, 2, 3, 4] rfl, hP, hD, hS, rfl, (by omega), (bc_ctC hep (by omega) (by omega) hc_31 (Or.inr hv_90) her hwv).1, (bc_ctC hep (by omega) (by omega) hc_31 (Or.inr hv_90) her hwv).2⟩
            · subst he_90
              refine lv_if_ne (tgt := 119) hx hb de_A_comeTo_93 (by decide) (fun hc => absurd (by decide) hc) (fun _ => ?_)
              refine lv_aload_n hx hb de_A_comeTo_96 rfl (lv_at hl 2 rfl) ?_
              refine va_get (D := (dC, dI)) (ci := 0) (v := .ref s1) (C := rc_A) (T := fc_A) (N := 6) hx hb htw wi_A hown hK hP 0 rfl rfl 0 (by decide) (htw _ wm_45) (fun _ h9 => h9) rfl de_A_comeTo_97 ?_
              refine lv_iload hx hb de_A_comeTo_100 (lv_at hl 0 rfl) ?_
              refine lv_iconst (v := 1) hx hb de_A_comeTo_102 (by decide) ?_
              refine bc_ist (j := 6 * t + v) hx hb hK hP hD hS 1 0 rfl rfl (by omega) (by decide) de_A_comeTo_103 (fun H locs hP hD hS => ?_)
              have hP : va_P (dC, dI) classes [(a0, .inr (0, [.ref s1, .ref s2, .ref s3, .ref s4, .ref s5, .int res])), (s1, .inl (cI, 240, .inl (upd S1 (6 * t + v) 1))), (s2, .inl (cI, 240, .inl C1)), (s3, .inl (cZ, 40, .inl W1)), (s4, .inl (cI, 6, .inl SB)), (s5, .inl (cI, 6, .inl CB)), (h0, .inr (1, [.ref q1, .ref q2, .ref q3, .ref q4, .int (nI n)]))] H := hP
              have hD : va_D A [(a0, .inr (0, [.ref s1, .ref s2, .ref s3, .ref s4, .ref s5, .int res])), (s1, .inl (cI, 240, .inl (upd S1 (6 * t + v) 1))), (s2, .inl (cI, 240, .inl C1)), (s3, .inl (cZ, 40, .inl W1)), (s4, .inl (cI, 6, .inl SB)), (s5, .inl (cI, 6, .inl CB)), (h0, .inr (1, [.ref q1, .ref q2, .ref q3, .ref q4, .int (nI n)]))] := hD
              refine lv_aload_n hx hb de_A_comeTo_104 rfl (lv_at hl 2 rfl) ?_
              refine va_get (D := (dC, dI)) (ci := 0) (v := .ref s2) (C := rc_A) (T := fc_A) (N := 6) hx hb htw wi_A hown hK hP 0 rfl rfl 1 (by decide) (htw _ wm_46) (fun _ h9 => h9) rfl de_A_comeTo_105 ?_
              refine lv_iload hx hb de_A_comeTo_108 (lv_at hl 0 rfl) ?_
              refine lv_iconst (v := 0) hx hb de_A_comeTo_110 (by decide) ?_
              refine bc_ist (j := 6 * t + v) hx hb hK hP hD hS 2 0 rfl rfl (by omega) (by decide) de_A_comeTo_111 (fun H locs hP hD hS => ?_)
              have hP : va_P (dC, dI) classes [(a0, .inr (0, [.ref s1, .ref s2, .ref s3, .ref s4, .ref s5, .int res])), (s1, .inl (cI, 240, .inl (upd S1 (6 * t + v) 1))), (s2, .inl (cI, 240, .inl (upd C1 (6 * t + v) 0))), (s3, .inl (cZ, 40, .inl W1)), (s4, .inl (cI, 6, .inl SB)), (s5, .inl (cI, 6, .inl CB)), (h0, .inr (1, [.ref q1, .ref q2, .ref q3, .ref q4, .int (nI n)]))] H := hP
              have hD : va_D A [(a0, .inr (0, [.ref s1, .ref s2, .ref s3, .ref s4, .ref s5, .int res])), (s1, .inl (cI, 240, .inl (upd S1 (6 * t + v) 1))), (s2, .inl (cI, 240, .inl (upd C1 (6 * t + v) 0))), (s3, .inl (cZ, 40, .inl W1)), (s4, .inl (cI, 6, .inl SB)), (s5, .inl (cI, 6, .inl CB)), (h0, .inr (1, [.ref q1, .ref q2, .ref q3, .ref q4, .int (nI n)]))] := hD
              refine lv_aload_n hx hb de_A_comeTo_112 rfl (lv_at hl 2 rfl) ?_
              refine va_get (D := (dC, dI)) (ci := 0) (v := .ref s3) (C := rc_A) (T := fc_A) (N := 6) hx hb htw wi_A hown hK hP 0 rfl rfl 2 (by decide) (htw _ wm_47) (fun _ h9 => h9) rfl de_A_comeTo_113 ?_
              refine lv_iload_n hx hb de_A_comeTo_116 rfl (lv_at hl 4 rfl) ?_
              refine lv_iconst (v := 1) hx hb de_A_comeTo_117 (by decide) ?_
              refine bc_zst (j := t) hx hb hK hP hD hS 3 1 rfl rfl (by decide) (by omega) (by decide) de_A_comeTo_118 (fun H locs hP hD hS => ?_)
              have hP : va_P (dC, dI) classes [(a0, .inr (0, [.ref s1, .ref s2, .ref s3, .ref s4, .ref s5, .int res])), (s1, .inl (cI, 240, .inl (upd S1 (6 * t + v) 1))), (s2, .inl (cI, 240, .inl (upd C1 (6 * t + v) 0))), (s3, .inl (cZ, 40, .inl (upd W1 t 1))), (s4, .inl (cI, 6, .inl SB)), (s5, .inl (cI, 6, .inl CB)), (h0, .inr (1, [.ref q1, .ref q2, .ref q3, .ref q4, .int (nI n)]))] H := hP
              have hD : va_D A [(a0, .inr (0, [.ref s1, .ref s2, .ref s3, .ref s4, .ref s5, .int res])), (s1, .inl (cI, 240, .inl (upd S1 (6 * t + v) 1))), (s2, .inl (cI, 240, .inl (upd C1 (6 * t + v) 0))), (s3, .inl (cZ, 40, .inl (upd W1 t 1))), (s4, .inl (cI, 6, .inl SB)), (s5, .inl (cI, 6, .inl CB)), (h0, .inr (1, [.ref q1, .ref q2, .ref q3, .ref q4, .int (nI n)]))] := hD
              refine lv_iinc (k := 1) (v := nI (v + 1)) (lv' := [(3, .int (nI (v + 1))), (4, .int (nI (6 * t + v))), (0, .ref a0), (1, .ref h0), (2, .int (nI t))]) hx hb de_A_comeTo_119 hl rfl (bc_inc _) (by decide) rfl (fun ls hl => ?_)
              refine lv_goto (tgt := 11) hx hb de_A_comeTo_122 (by decide) ?_
              exact ih_11 _ _ _ _ (by omega) ⟨(v + 1), upd S1 (6 * t + v) 1, upd C1 (6 * t + v) 0, upd W1 t 1, lv_sub hl [0, 2, 3, 4] rfl, hP, hD, hS, rfl, (by omega), (bc_ctB hep (by omega) (by omega) hc_31 hc_78 hv_90 her hwv).1, (bc_ctB hep (by omega) (by omega) hc_31 hc_78 hv_90 her hwv).2⟩
        · refine lv_aload_n hx hb de_A_comeTo_34 rfl (lv_at hl 2 rfl) ?_
          refine va_get (D := (dC, dI)) (ci := 0) (v := .ref s1) (C := rc_A) (T := fc_A) (N := 6) hx hb htw wi_A hown hK hP 0 rfl rfl 0 (by decide) (htw _ wm_45) (fun _ h9 => h9) rfl de_A_comeTo_35 ?_
          refine lv_iload hx hb de_A_comeTo_38 (lv_at hl 0 rfl) ?_
          refine lv_aload_n hx hb de_A_comeTo_40 rfl (lv_at hl 2 rfl) ?_
          refine va_get (D := (dC, dI)) (ci := 0) (v := .ref s4) (C := rc_A) (T := fc_A) (N := 6) hx hb htw wi_A hown hK hP 0 rfl rfl 3 (by decide) (htw _ wm_48) (fun _ h9 => h9) rfl de_A_comeTo_41 ?_
          refine lv_iload_n hx hb de_A_comeTo_44 rfl (lv_at hl 1 rfl) ?_
          refine bc_ild (j := v) hx hb hK hP 4 0 rfl rfl (by omega) (by decide) de_A_comeTo_45 ?_
          refine bc_ist (j := 6 * t + v) hx hb hK hP hD hS 1 0 rfl rfl (by omega) (by decide) de_A_comeTo_46 (fun H locs hP hD hS => ?_)
          have hP : va_P (dC, dI) classes [(a0, .inr (0, [.ref s1, .ref s2, .ref s3, .ref s4, .ref s5, .int res])), (s1, .inl (cI, 240, .inl (upd S1 (6 * t + v) (SB v)))), (s2, .inl (cI, 240, .inl C1)), (s3, .inl (cZ, 40, .inl W1)), (s4, .inl (cI, 6, .inl SB)), (s5, .inl (cI, 6, .inl CB)), (h0, .inr (1, [.ref q1, .ref q2, .ref q3, .ref q4, .int (nI n)]))] H := hP
          have hD : va_D A [(a0, .inr (0, [.ref s1, .ref s2, .ref s3, .ref s4, .ref s5, .int res])), (s1, .inl (cI, 240, .inl (upd S1 (6 * t + v) (SB v)))), (s2, .inl (cI, 240, .inl C1)), (s3, .inl (cZ, 40, .inl W1)), (s4, .inl (cI, 6, .inl SB)), (s5, .inl (cI, 6, .inl CB)), (h0, .inr (1, [.ref q1, .ref q2, .ref q3, .ref q4, .int (nI n)]))] := hD
          refine lv_aload_n hx hb de_A_comeTo_47 rfl (lv_at hl 2 rfl) ?_
          refine va_get (D := (dC, dI)) (ci := 0) (v := .ref s2) (C := rc_A) (T := fc_A) (N := 6) hx hb htw wi_A hown hK hP 0 rfl rfl 1 (by decide) (htw _ wm_46) (fun _ h9 => h9) rfl de_A_comeTo_48 ?_
          refine lv_iload hx hb de_A_comeTo_51 (lv_at hl 0 rfl) ?_
          refine lv_aload_n hx hb de_A_comeTo_53 rfl (lv_at hl 2 rfl) ?_
          refine va_get (D := (dC, dI)) (ci := 0) (v := .ref s5) (C := rc_A) (T := fc_A) (N := 6) hx hb htw wi_A hown hK hP 0 rfl rfl 4 (by decide) (htw _ wm_49) (fun _ h9 => h9) rfl de_A_comeTo_54 ?_
          refine lv_iload_n hx hb de_A_comeTo_57 rfl (lv_at hl 1 rfl) ?_
          refine bc_ild (j := v) hx hb hK hP 5 0 rfl rfl (by omega) (by decide) de_A_comeTo_58 ?_
          refine bc_ist (j := 6 * t + v) hx hb hK hP hD hS 2 0 rfl rfl (by omega) (by decide) de_A_comeTo_59 (fun H locs hP hD hS => ?_)
          have hP : va_P (dC, dI) classes [(a0, .inr (0, [.ref s1, .ref s2, .ref s3, .ref s4, .ref s5, .int res])), (s1, .inl (cI, 240, .inl (upd S1 (6 * t + v) (SB v)))), (s2, .inl (cI, 240, .inl (upd C1 (6 * t + v) (CB v)))), (s3, .inl (cZ, 40, .inl W1)), (s4, .inl (cI, 6, .inl SB)), (s5, .inl (cI, 6, .inl CB)), (h0, .inr (1, [.ref q1, .ref q2, .ref q3, .ref q4, .int (nI n)]))] H := hP
          have hD : va_D A [(a0, .inr (0, [.ref s1, .ref s2, .ref s3, .ref s4, .ref s5, .int res])), (s1, .inl (cI, 240, .inl (upd S1 (6 * t + v) (SB v)))), (s2, .inl (cI, 240, .inl (upd C1 (6 * t + v) (CB v)))), (s3, .inl (cZ, 40, .inl W1)), (s4, .inl (cI, 6, .inl SB)), (s5, .inl (cI, 6, .inl CB)), (h0, .inr (1, [.ref q1, .ref q2, .ref q3, .ref q4, .int (nI n)]))] := hD
          refine lv_aload_n hx hb de_A_comeTo_60 rfl (lv_at hl 2 rfl) ?_
          refine va_get (D := (dC, dI)) (ci := 0) (v := .ref s3) (C := rc_A) (T := fc_A) (N := 6) hx hb htw wi_A hown hK hP 0 rfl rfl 2 (by decide) (htw _ wm_47) (fun _ h9 => h9) rfl de_A_comeTo_61 ?_
          refine lv_iload_n hx hb de_A_comeTo_64 rfl (lv_at hl 4 rfl) ?_
          refine lv_iconst (v := 1) hx hb de_A_comeTo_65 (by decide) ?_
          refine bc_zst (j := t) hx hb hK hP hD hS 3 1 rfl rfl (by decide) (by omega) (by decide) de_A_comeTo_66 (fun H locs hP hD hS => ?_)
          have hP : va_P (dC, dI) classes [(a0, .inr (0, [.ref s1, .ref s2, .ref s3, .ref s4, .ref s5, .int res])), (s1, .inl (cI, 240, .inl (upd S1 (6 * t + v) (SB v)))), (s2, .inl (cI, 240, .inl (upd C1 (6 * t + v) (CB v)))), (s3, .inl (cZ, 40, .inl (upd W1 t 1))), (s4, .inl (cI, 6, .inl SB)), (s5, .inl (cI, 6, .inl CB)), (h0, .inr (1, [.ref q1, .ref q2, .ref q3, .ref q4, .int (nI n)]))] H := hP
          have hD : va_D A [(a0, .inr (0, [.ref s1, .ref s2, .ref s3, .ref s4, .ref s5, .int res])), (s1, .inl (cI, 240, .inl (upd S1 (6 * t + v) (SB v)))), (s2, .inl (cI, 240, .inl (upd C1 (6 * t + v) (CB v)))), (s3, .inl (cZ, 40, .inl (upd W1 t 1))), (s4, .inl (cI, 6, .inl SB)), (s5, .inl (cI, 6, .inl CB)), (h0, .inr (1, [.ref q1, .ref q2, .ref q3, .ref q4, .int (nI n)]))] := hD
          refine lv_goto (tgt := 119) hx hb de_A_comeTo_67 (by decide) ?_
          refine lv_iinc (k := 1) (v := nI (v + 1)) (lv' := [(3, .int (nI (v + 1))), (4, .int (nI (6 * t + v))), (0, .ref a0), (1, .ref h0), (2, .int (nI t))]) hx hb de_A_comeTo_119 hl rfl (bc_inc _) (by decide) rfl (fun ls hl => ?_)
          refine lv_goto (tgt := 11) hx hb de_A_comeTo_122 (by decide) ?_
          exact ih_11 _ _ _ _ (by omega) ⟨(v + 1), upd S1 (6 * t + v) (SB v), upd C1 (6 * t + v) (CB v), upd W1 t 1, lv_sub hl [0, 2, 3, 4] rfl, hP, hD, hS, rfl, (by omega), (bc_ctA hep (by omega) (by omega) hc_31 her hwv).1, (bc_ctA hep (by omega) (by omega) hc_31 her hwv).2⟩
    · exact ⟨_, 0, S, C, Wt, lv_sub hl [0, 1, 2, 3] rfl, hP, hD, hS, rfl, Nat.zero_le _, bc_ep_0 hen, bc_wv_0 _ _ _ _⟩
  · have hge : ¬ t < n := fun z => hc_5 ((nI_ltI ht (by omega)).mpr z)
    exact bc_vret F hr hlocks ((S, C, Wt)) ⟨by rw [bc_come_out hge]; exact hen, fun _ _ => rfl, fun z => absurd z hge, fun _ => rfl⟩ hP hD hS de_A_comeTo_8

set_option maxHeartbeats 4000000 in
set_option maxRecDepth 100000 in
/-- on from a ZERO -/
theorem co_A_goOnFromZero {l : Launch} {dC : Nat → ClassId} {dI : Nat → Nat → Nat} {cI cZ : ClassId} {sz : Nat} {a0 s1 s2 s3 s4 s5 : Nat} {S C Wt SB CB : bc_F} {res : Int32}{h0 q1 q2 q3 q4 n : Nat} {K O T Z : bc_F}{i : Nat} {g : bc_G} {rr : bc_R} (hn : n ≤ 40) (hi : i < n) (hw : bc_wf n K O T Z) (h5 : K i = 5) (hen : bc_en S C g) (hg : g i = some rr) (her : bc_er SB CB rr) : Met l yn_A_goOnFromZero (Cond.code yn_A_goOnFromZero by_A_goOnFromZero 3 none :: wd_all) ({ frames := 2, cells := 0, slots := 0, locals := 46 } : Room) (bc_Pre (dC, dI) classes [(cI, .int), (cZ, .boolean)] [.ref a0, .ref h0, .int (nI i)] [(a0, .inr (0, [.ref s1, .ref s2, .ref s3, .ref s4, .ref s5, .int res])), (s1, .inl (cI, 240, .inl S)), (s2, .inl (cI, 240, .inl C)), (s3, .inl (cZ, 40, .inl Wt)), (s4, .inl (cI, 6, .inl SB)), (s5, .inl (cI, 6, .inl CB)), (h0, .inr (1, [.ref q1, .ref q2, .ref q3, .ref q4, .int (nI n)])), (q1, .inl (cI, 40, .inl K)), (q2, .inl (cI, 40, .inl O)), (q3, .inl (cI, 40, .inl T)), (q4, .inl (cI, 40, .inl Z))] sz) (va_Qv (fun (u : bc_F × bc_F × bc_F × bc_F × bc_F) => ∃ g', bc_en u.1 u.2.1 g' ∧ bc_run n (bc_out K O T Z i rr) g Wt g' u.2.2.1) (fun (u : bc_F × bc_F × bc_F × bc_F × bc_F) t => bc_B (dC, dI) classes [(cI, .int), (cZ, .boolean)] (va_A [(a0, .inr (0, [.ref s1, .ref s2, .ref s3, .ref s4, .ref s5, .int res])), (s1, .inl (cI, 240, .inl S)), (s2, .inl (cI, 240, .inl C)), (s3, .inl (cZ, 40, .inl Wt)), (s4, .inl (cI, 6, .inl SB)), (s5, .inl (cI, 6, .inl CB)), (h0, .inr (1, [.ref q1, .ref q2, .ref q3, .ref q4, .int (nI n)])), (q1, .inl (cI, 40, .inl K)), (q2, .inl (cI, 40, .inl O)), (q3, .inl (cI, 40, .inl T)), (q4, .inl (cI, 40, .inl Z))] sz) [(a0, .inr (0, [.ref s1, .ref s2, .ref s3, .ref s4, .ref s5, .int res])), (s1, .inl (cI, 240, .inl u.1)), (s2, .inl (cI, 240, .inl u.2.1)), (s3, .inl (cZ, 40, .inl u.2.2.1)), (s4, .inl (cI, 6, .inl u.2.2.2.1)), (s5, .inl (cI, 6, .inl u.2.2.2.2)), (h0, .inr (1, [.ref q1, .ref q2, .ref q3, .ref q4, .int (nI n)])), (q1, .inl (cI, 40, .inl K)), (q2, .inl (cI, 40, .inl O)), (q3, .inl (cI, 40, .inl T)), (q4, .inl (cI, 40, .inl Z))] t) ((va_A [(a0, .inr (0, [.ref s1, .ref s2, .ref s3, .ref s4, .ref s5, .int res])), (s1, .inl (cI, 240, .inl S)), (s2, .inl (cI, 240, .inl C)), (s3, .inl (cZ, 40, .inl Wt)), (s4, .inl (cI, 6, .inl SB)), (s5, .inl (cI, 6, .inl CB)), (h0, .inr (1, [.ref q1, .ref q2, .ref q3, .ref q4, .int (nI n)])), (q1, .inl (cI, 40, .inl K)), (q2, .inl (cI, 40, .inl O)), (q3, .inl (cI, 40, .inl T)), (q4, .inl (cI, 40, .inl Z))] sz))) 0 0 (va_A [(a0, .inr (0, [.ref s1, .ref s2, .ref s3, .ref s4, .ref s5, .int res])), (s1, .inl (cI, 240, .inl S)), (s2, .inl (cI, 240, .inl C)), (s3, .inl (cZ, 40, .inl Wt)), (s4, .inl (cI, 6, .inl SB)), (s5, .inl (cI, 6, .inl CB)), (h0, .inr (1, [.ref q1, .ref q2, .ref q3, .ref q4, .int (nI n)])), (q1, .inl (cI, 40, .inl K)), (q2, .inl (cI, 40, .inl O)), (q3, .inl (cI, 40, .inl T)), (q4, .inl (cI, 40, .inl Z))] sz) := by
  refine bc_met (fun A => va_Qv (fun (u : bc_F × bc_F × bc_F × bc_F × bc_F) => ∃ g', bc_en u.1 u.2.1 g' ∧ bc_run n (bc_out K O T Z i rr) g Wt g' u.2.2.1) (fun (u : bc_F × bc_F × bc_F × bc_F × bc_F) t => bc_B (dC, dI) classes [(cI, .int), (cZ, .boolean)] A [(a0, .inr (0, [.ref s1, .ref s2, .ref s3, .ref s4, .ref s5, .int res])), (s1, .inl (cI, 240, .inl u.1)), (s2, .inl (cI, 240, .inl u.2.1)), (s3, .inl (cZ, 40, .inl u.2.2.1)), (s4, .inl (cI, 6, .inl u.2.2.2.1)), (s5, .inl (cI, 6, .inl u.2.2.2.2)), (h0, .inr (1, [.ref q1, .ref q2, .ref q3, .ref q4, .int (nI n)])), (q1, .inl (cI, 40, .inl K)), (q2, .inl (cI, 40, .inl O)), (q3, .inl (cI, 40, .inl T)), (q4, .inl (cI, 40, .inl Z))] t) A) (by decide) (Nat.le_of_ble_eq_true rfl) ?_
  intro p e s m args below meth c A ls F hr hlocks hin hA hP hD hl hS
  have hx := F.1
  have hb := F.2.1
  have hml := F.2.2.1
  have hown : s.vm.findClass "BranchConstants$Analysis" = some m.cls := F.2.2.2.1
  have htw := F.2.2.2.2.1
  have hN := F.2.2.2.2.2.1
  have hK := F.2.2.2.2.2.2
  have hl : lv_has ls 3 [(0, .ref a0), (1, .ref h0), (2, .int (nI i))] := hl
  obtain ⟨⟨o, ho, eO⟩, htr⟩ := bc_wi_5 (hw i hi) h5
  have hrow := bc_row hen (by omega) hg
  refine lv_aload_n hx hb de_A_goOnFromZero_0 rfl (lv_at hl 0 rfl) ?_
  refine lv_aload_n hx hb de_A_goOnFromZero_1 rfl (lv_at hl 1 rfl) ?_
  refine lv_iload_n hx hb de_A_goOnFromZero_2 rfl (lv_at hl 2 rfl) ?_
  refine bc_call_v_i (As := [.ref h0, .int (nI i)]) (rest := []) (wr := []) F (co_A_hasConstantTest (by omega) eO ho) wm_160 wm_3 wm_158 wm_159 wm_603 0 rfl rfl pd_A_hasConstantTest rfl rfl ⟨Nat.le_of_ble_eq_true rfl, Nat.le_of_ble_eq_true rfl⟩ hP hD hS hA [0, 1, 2, 3, 4, 5, 6, 7, 8, 9, 10] [] rfl rfl rfl rfl (by decide) rfl hl.1 rfl (Nat.le_of_ble_eq_true rfl) de_A_goOnFromZero_3 ⟨Nat.le_of_ble_eq_true rfl, Nat.le_of_ble_eq_true rfl⟩ (fun r_3 u_3 H locs hw_3 hP hD hS => ?_)
  have hP : va_P (dC, dI) classes [(a0, .inr (0, [.ref s1, .ref s2, .ref s3, .ref s4, .ref s5, .int res])), (s1, .inl (cI, 240, .inl S)), (s2, .inl (cI, 240, .inl C)), (s3, .inl (cZ, 40, .inl Wt)), (s4, .inl (cI, 6, .inl SB)), (s5, .inl (cI, 6, .inl CB)), (h0, .inr (1, [.ref q1, .ref q2, .ref q3, .ref q4, .int (nI n)])), (q1, .inl (cI, 40, .inl K)), (q2, .inl (cI, 40, .inl O)), (q3, .inl (cI, 40, .inl T)), (q4, .inl (cI, 40, .inl Z))] H := hP.sub [0, 1, 2, 3, 4, 5, 6, 7, 8, 9, 10] rfl
  have hD : va_D A [(a0, .inr (0, [.ref s1, .ref s2, .ref s3, .ref s4, .ref s5, .int res])), (s1, .inl (cI, 240, .inl S)), (s2, .inl (cI, 240, .inl C)), (s3, .inl (cZ, 40, .inl Wt)), (s4, .inl (cI, 6, .inl SB)), (s5, .inl (cI, 6, .inl CB)), (h0, .inr (1, [.ref q1, .ref q2, .ref q3, .ref q4, .int (nI n)])), (q1, .inl (cI, 40, .inl K)), (q2, .inl (cI, 40, .inl O)), (q3, .inl (cI, 40, .inl T)), (q4, .inl (cI, 40, .inl Z))] := hD.sub [0, 1, 2, 3, 4, 5, 6, 7, 8, 9, 10] (by decide) rfl
  rcases hw_3 with ⟨he_3, hv_3⟩ | ⟨he_3, hv_3⟩
  · subst he_3
    refine lv_if_eq (tgt := 23) hx hb de_A_goOnFromZero_6 (by decide) (fun hc => absurd hc (by decide)) (fun _ => ?_)
    refine lv_aload_n hx hb de_A_goOnFromZero_9 rfl (lv_at hl 0 rfl) ?_
    refine lv_aload_n hx hb de_A_goOnFromZero_10 rfl (lv_at hl 1 rfl) ?_
    refine lv_aload_n hx hb de_A_goOnFromZero_11 rfl (lv_at hl 0 rfl) ?_
    refine lv_aload_n hx hb de_A_goOnFromZero_12 rfl (lv_at hl 1 rfl) ?_
    refine lv_iload_n hx hb de_A_goOnFromZero_13 rfl (lv_at hl 2 rfl) ?_
    refine bc_call_v_i (As := [.ref h0, .int (nI i)]) (rest := [.ref h0, .ref a0]) (wr := []) F (co_A_wayOfConstantTest (by omega) hn eO ho htr) wm_163 wm_3 wm_161 wm_162 wm_604 0 rfl rfl pd_A_wayOfConstantTest rfl rfl ⟨Nat.le_of_ble_eq_true rfl, Nat.le_of_ble_eq_true rfl⟩ hP hD hS hA [0, 1, 2, 3, 4, 5, 6, 7, 8, 9, 10] [] rfl rfl rfl rfl (by decide) rfl hl.1 rfl (Nat.le_of_ble_eq_true rfl) de_A_goOnFromZero_14 ⟨Nat.le_of_ble_eq_true rfl, Nat.le_of_ble_eq_true rfl⟩ (fun r_14 u_14 H locs hw_14 hP hD hS => ?_)
    obtain ⟨tw, he_14, hb_14, hq_14⟩ := bc_way (by omega) hn hw_14
    subst he_14
    have hP : va_P (dC, dI) classes [(a0, .inr (0, [.ref s1, .ref s2, .ref s3, .ref s4, .ref s5, .int res])), (s1, .inl (cI, 240, .inl S)), (s2, .inl (cI, 240, .inl C)), (s3, .inl (cZ, 40, .inl Wt)), (s4, .inl (cI, 6, .inl SB)), (s5, .inl (cI, 6, .inl CB)), (h0, .inr (1, [.ref q1, .ref q2, .ref q3, .ref q4, .int (nI n)])), (q1, .inl (cI, 40, .inl K)), (q2, .inl (cI, 40, .inl O)), (q3, .inl (cI, 40, .inl T)), (q4, .inl (cI, 40, .inl Z))] H := hP.sub [0, 1, 2, 3, 4, 5, 6, 7, 8, 9, 10] rfl
    have hD : va_D A [(a0, .inr (0, [.ref s1, .ref s2, .ref s3, .ref s4, .ref s5, .int res])), (s1, .inl (cI, 240, .inl S)), (s2, .inl (cI, 240, .inl C)), (s3, .inl (cZ, 40, .inl Wt)), (s4, .inl (cI, 6, .inl SB)), (s5, .inl (cI, 6, .inl CB)), (h0, .inr (1, [.ref q1, .ref q2, .ref q3, .ref q4, .int (nI n)])), (q1, .inl (cI, 40, .inl K)), (q2, .inl (cI, 40, .inl O)), (q3, .inl (cI, 40, .inl T)), (q4, .inl (cI, 40, .inl Z))] := hD.sub [0, 1, 2, 3, 4, 5, 6, 7, 8, 9, 10] (by decide) rfl
    refine bc_call_v_v (As := [.ref h0, .int (nI tw)]) (rest := []) (wr := [(q1, .inl (cI, 40, .inl K)), (q2, .inl (cI, 40, .inl O)), (q3, .inl (cI, 40, .inl T)), (q4, .inl (cI, 40, .inl Z))]) F (co_A_comeTo hn hb_14 hen her) wm_125 wm_3 wm_123 wm_124 wm_593 0 rfl rfl pd_A_comeTo rfl rfl ⟨Nat.le_of_ble_eq_true rfl, Nat.le_of_ble_eq_true rfl⟩ hP hD hS hA [0, 1, 2, 3, 4, 5, 6] [7, 8, 9, 10] rfl rfl rfl rfl (by decide) rfl hl.1 rfl (Nat.le_of_ble_eq_true rfl) de_A_goOnFromZero_17 ⟨Nat.le_of_ble_eq_true rfl, Nat.le_of_ble_eq_true rfl⟩ (fun u_17 H locs hw_17 hP hD hS => ?_)
    obtain ⟨S1, C1, W1⟩ := u_17
    dsimp only at hw_17
    obtain ⟨hen1, hwr1⟩ := hw_17
    have hP : va_P (dC, dI) classes [(a0, .inr (0, [.ref s1, .ref s2, .ref s3, .ref s4, .ref s5, .int res])), (s1, .inl (cI, 240, .inl S1)), (s2, .inl (cI, 240, .inl C1)), (s3, .inl (cZ, 40, .inl W1)), (s4, .inl (cI, 6, .inl SB)), (s5, .inl (cI, 6, .inl CB)), (h0, .inr (1, [.ref q1, .ref q2, .ref q3, .ref q4, .int (nI n)])), (q1, .inl (cI, 40, .inl K)), (q2, .inl (cI, 40, .inl O)), (q3, .inl (cI, 40, .inl T)), (q4, .inl (cI, 40, .inl Z))] H := hP.sub [4, 5, 6, 7, 8, 9, 10, 0, 1, 2, 3] rfl
    have hD : va_D A [(a0, .inr (0, [.ref s1, .ref s2, .ref s3, .ref s4, .ref s5, .int res])), (s1, .inl (cI, 240, .inl S1)), (s2, .inl (cI, 240, .inl C1)), (s3, .inl (cZ, 40, .inl W1)), (s4, .inl (cI, 6, .inl SB)), (s5, .inl (cI, 6, .inl CB)), (h0, .inr (1, [.ref q1, .ref q2, .ref q3, .ref q4, .int (nI n)])), (q1, .inl (cI, 40, .inl K)), (q2, .inl (cI, 40, .inl O)), (q3, .inl (cI, 40, .inl T)), (q4, .inl (cI, 40, .inl Z))] := hD.sub [4, 5, 6, 7, 8, 9, 10, 0, 1, 2, 3] (by decide) rfl
    refine lv_goto (tgt := 52) hx hb de_A_goOnFromZero_20 (by decide) ?_
    exact bc_vret F hr hlocks ((S1, C1, W1, SB, CB)) ⟨_, hen1, bc_zero_end h5 eO ho hrow hv_3 hq_14 hwr1⟩ hP hD hS de_A_goOnFromZero_52
  · subst he_3
    refine lv_if_eq (tgt := 23) hx hb de_A_goOnFromZero_6 (by decide) (fun _ => ?_) (fun hc => absurd (by decide) hc)
    refine lv_aload_n hx hb de_A_goOnFromZero_23 rfl (lv_at hl 0 rfl) ?_
    refine lv_aload_n hx hb de_A_goOnFromZero_24 rfl (lv_at hl 1 rfl) ?_
    refine lv_iload_n hx hb de_A_goOnFromZero_25 rfl (lv_at hl 2 rfl) ?_
    refine lv_iconst (v := 1) hx hb de_A_goOnFromZero_26 (by decide) ?_
    refine lv_iadd hx hb de_A_goOnFromZero_27 ?_
    refine bc_ti (y := nI (i + 1)) (nI_1 i) ?_
    refine bc_call_v_v (As := [.ref h0, .int (nI (i + 1))]) (rest := []) (wr := [(q1, .inl (cI, 40, .inl K)), (q2, .inl (cI, 40, .inl O)), (q3, .inl (cI, 40, .inl T)), (q4, .inl (cI, 40, .inl Z))]) F (co_A_comeTo hn (by omega) hen her) wm_125 wm_3 wm_123 wm_124 wm_593 0 rfl rfl pd_A_comeTo rfl rfl ⟨Nat.le_of_ble_eq_true rfl, Nat.le_of_ble_eq_true rfl⟩ hP hD hS hA [0, 1, 2, 3, 4, 5, 6] [7, 8, 9, 10] rfl rfl rfl rfl (by decide) rfl hl.1 rfl (Nat.le_of_ble_eq_true rfl) de_A_goOnFromZero_28 ⟨Nat.le_of_ble_eq_true rfl, Nat.le_of_ble_eq_true rfl⟩ (fun u_28 H locs hw_28 hP hD hS => ?_)
    obtain ⟨S1, C1, W1⟩ := u_28
    dsimp only at hw_28
    obtain ⟨hen1, hwr1⟩ := hw_28
    have hP : va_P (dC, dI) classes [(a0, .inr (0, [.ref s1, .ref s2, .ref s3, .ref s4, .ref s5, .int res])), (s1, .inl (cI, 240, .inl S1)), (s2, .inl (cI, 240, .inl C1)), (s3, .inl (cZ, 40, .inl W1)), (s4, .inl (cI, 6, .inl SB)), (s5, .inl (cI, 6, .inl CB)), (h0, .inr (1, [.ref q1, .ref q2, .ref q3, .ref q4, .int (nI n)])), (q1, .inl (cI, 40, .inl K)), (q2, .inl (cI, 40, .inl O)), (q3, .inl (cI, 40, .inl T)), (q4, .inl (cI, 40, .inl Z))] H := hP.sub [4, 5, 6, 7, 8, 9, 10, 0, 1, 2, 3] rfl
    have hD : va_D A [(a0, .inr (0, [.ref s1, .ref s2, .ref s3, .ref s4, .ref s5, .int res])), (s1, .inl (cI, 240, .inl S1)), (s2, .inl (cI, 240, .inl C1)), (s3, .inl (cZ, 40, .inl W1)), (s4, .inl (cI, 6, .inl SB)), (s5, .inl (cI, 6, .inl CB)), (h0, .inr (1, [.ref q1, .ref q2, .ref q3, .ref q4, .int (nI n)])), (q1, .inl (cI, 40, .inl K)), (q2, .inl (cI, 40, .inl O)), (q3, .inl (cI, 40, .inl T)), (q4, .inl (cI, 40, .inl Z))] := hD.sub [4, 5, 6, 7, 8, 9, 10, 0, 1, 2, 3] (by decide) rfl
    refine lv_aload_n hx hb de_A_goOnFromZero_31 rfl (lv_at hl 0 rfl) ?_
    refine lv_aload_n hx hb de_A_goOnFromZero_32 rfl (lv_at hl 1 rfl) ?_
    refine va_getN (D := (dC, dI)) (ci := 1) (v := .ref q2) (C := rc_C) (T := fc_C) (N := 5) hx hb htw wi_C hown hK hP 6 rfl rfl 1 (by decide) (va_Nw.use rfl (hN _ nm_5)) (fun _ h9 => h9) rfl de_A_goOnFromZero_33 ?_
    refine lv_iload_n hx hb de_A_goOnFromZero_36 rfl (lv_at hl 2 rfl) ?_
    refine bc_ild (j := i) hx hb hK hP 8 0 rfl rfl (by omega) (by decide) de_A_goOnFromZero_37 ?_
    refine bc_ti (y := nI o) eO ?_
    refine lv_iconst (v := 0) hx hb de_A_goOnFromZero_38 (by decide) ?_
    refine bc_call_v_v (As := [.int (nI o), .int 0]) (rest := []) (wr := [(h0, .inr (1, [.ref q1, .ref q2, .ref q3, .ref q4, .int (nI n)])), (q1, .inl (cI, 40, .inl K)), (q2, .inl (cI, 40, .inl O)), (q3, .inl (cI, 40, .inl T)), (q4, .inl (cI, 40, .inl Z))]) F (co_A_setConstantBehind ho) wm_149 wm_3 wm_147 wm_148 wm_599 0 rfl rfl pd_A_setConstantBehind rfl rfl ⟨Nat.le_of_ble_eq_true rfl, Nat.le_of_ble_eq_true rfl⟩ hP hD hS hA [0, 1, 2, 3, 4, 5] [6, 7, 8, 9, 10] rfl rfl rfl rfl (by decide) rfl hl.1 rfl (Nat.le_of_ble_eq_true rfl) de_A_goOnFromZero_39 ⟨Nat.le_of_ble_eq_true rfl, Nat.le_of_ble_eq_true rfl⟩ (fun u_39 H locs hw_39 hP hD hS => ?_)
    subst hw_39
    have hP : va_P (dC, dI) classes [(a0, .inr (0, [.ref s1, .ref s2, .ref s3, .ref s4, .ref s5, .int res])), (s1, .inl (cI, 240, .inl S1)), (s2, .inl (cI, 240, .inl C1)), (s3, .inl (cZ, 40, .inl W1)), (s4, .inl (cI, 6, .inl (upd SB o 2))), (s5, .inl (cI, 6, .inl (upd CB o 0))), (h0, .inr (1, [.ref q1, .ref q2, .ref q3, .ref q4, .int (nI n)])), (q1, .inl (cI, 40, .inl K)), (q2, .inl (cI, 40, .inl O)), (q3, .inl (cI, 40, .inl T)), (q4, .inl (cI, 40, .inl Z))] H := hP.sub [5, 6, 7, 8, 9, 10, 0, 1, 2, 3, 4] rfl
    have hD : va_D A [(a0, .inr (0, [.ref s1, .ref s2, .ref s3, .ref s4, .ref s5, .int res])), (s1, .inl (cI, 240, .inl S1)), (s2, .inl (cI, 240, .inl C1)), (s3, .inl (cZ, 40, .inl W1)), (s4, .inl (cI, 6, .inl (upd SB o 2))), (s5, .inl (cI, 6, .inl (upd CB o 0))), (h0, .inr (1, [.ref q1, .ref q2, .ref q3, .ref q4, .int (nI n)])), (q1, .inl (cI, 40, .inl K)), (q2, .inl (cI, 40, .inl O)), (q3, .inl (cI, 40, .inl T)), (q4, .inl (cI, 40, .inl Z))] := hD.sub [5, 6, 7, 8, 9, 10, 0, 1, 2, 3, 4] (by decide) rfl
    refine lv_aload_n hx hb de_A_goOnFromZero_42 rfl (lv_at hl 0 rfl) ?_
    refine lv_aload_n hx hb de_A_goOnFromZero_43 rfl (lv_at hl 1 rfl) ?_
    refine lv_aload_n hx hb de_A_goOnFromZero_44 rfl (lv_at hl 1 rfl) ?_
    refine lv_iload_n hx hb de_A_goOnFromZero_45 rfl (lv_at hl 2 rfl) ?_
    refine bc_call_nv_i (As := [.int (nI i)]) (rest := [.ref h0, .ref a0]) (wr := [(a0, .inr (0, [.ref s1, .ref s2, .ref s3, .ref s4, .ref s5, .int res])), (s1, .inl (cI, 240, .inl S1)), (s2, .inl (cI, 240, .inl C1)), (s3, .inl (cZ, 40, .inl W1)), (s4, .inl (cI, 6, .inl (upd SB o 2))), (s5, .inl (cI, 6, .inl (upd CB o 0)))]) F (co_C_target (by omega) hn htr) wm_154 wm_2 nm_31 wm_153 wm_601 6 rfl rfl pd_C_target rfl rfl ⟨Nat.le_of_ble_eq_true rfl, Nat.le_of_ble_eq_true rfl⟩ hP hD hS hA [6, 7, 8, 9, 10] [0, 1, 2, 3, 4, 5] rfl rfl rfl rfl (by decide) rfl hl.1 rfl (Nat.le_of_ble_eq_true rfl) de_A_goOnFromZero_46 ⟨Nat.le_of_ble_eq_true rfl, Nat.le_of_ble_eq_true rfl⟩ (fun r_46 u_46 H locs hw_46 hP hD hS => ?_)
    have hP : va_P (dC, dI) classes [(a0, .inr (0, [.ref s1, .ref s2, .ref s3, .ref s4, .ref s5, .int res])), (s1, .inl (cI, 240, .inl S1)), (s2, .inl (cI, 240, .inl C1)), (s3, .inl (cZ, 40, .inl W1)), (s4, .inl (cI, 6, .inl (upd SB o 2))), (s5, .inl (cI, 6, .inl (upd CB o 0))), (h0, .inr (1, [.ref q1, .ref q2, .ref q3, .ref q4, .int (nI n)])), (q1, .inl (cI, 40, .inl K)), (q2, .inl (cI, 40, .inl O)), (q3, .inl (cI, 40, .inl T)), (q4, .inl (cI, 40, .inl Z))] H := hP.sub [0, 1, 2, 3, 4, 5, 6, 7, 8, 9, 10] rfl
    have hD : va_D A [(a0, .inr (0, [.ref s1, .ref s2, .ref s3, .ref s4, .ref s5, .int res])), (s1, .inl (cI, 240, .inl S1)), (s2, .inl (cI, 240, .inl C1)), (s3, .inl (cZ, 40, .inl W1)), (s4, .inl (cI, 6, .inl (upd SB o 2))), (s5, .inl (cI, 6, .inl (upd CB o 0))), (h0, .inr (1, [.ref q1, .ref q2, .ref q3, .ref q4, .int (nI n)])), (q1, .inl (cI, 40, .inl K)), (q2, .inl (cI, 40, .inl O)), (q3, .inl (cI, 40, .inl T)), (q4, .inl (cI, 40, .inl Z))] := hD.sub [0, 1, 2, 3, 4, 5, 6, 7, 8, 9, 10] (by decide) rfl
    subst hw_46
    refine bc_call_v_v (As := [.ref h0, .int (nI (bc_tn n (T i)))]) (rest := []) (wr := [(q1, .inl (cI, 40, .inl K)), (q2, .inl (cI, 40, .inl O)), (q3, .inl (cI, 40, .inl T)), (q4, .inl (cI, 40, .inl Z))]) F (co_A_comeTo hn (by have := bc_tn_le n (T i); omega) hen1 (bc_er_up (x := some 0) her rfl rfl)) wm_125 wm_3 wm_123 wm_124 wm_593 0 rfl rfl pd_A_comeTo rfl rfl ⟨Nat.le_of_ble_eq_true rfl, Nat.le_of_ble_eq_true rfl⟩ hP hD hS hA [0, 1, 2, 3, 4, 5, 6] [7, 8, 9, 10] rfl rfl rfl rfl (by decide) rfl hl.1 rfl (Nat.le_of_ble_eq_true rfl) de_A_goOnFromZero_49 ⟨Nat.le_of_ble_eq_true rfl, Nat.le_of_ble_eq_true rfl⟩ (fun u_49 H locs hw_49 hP hD hS => ?_)
    obtain ⟨S2, C2, W2⟩ := u_49
    dsimp only at hw_49
    obtain ⟨hen2, hwr2⟩ := hw_49
    have hP : va_P (dC, dI) classes [(a0, .inr (0, [.ref s1, .ref s2, .ref s3, .ref s4, .ref s5, .int res])), (s1, .inl (cI, 240, .inl S2)), (s2, .inl (cI, 240, .inl C2)), (s3, .inl (cZ, 40, .inl W2)), (s4, .inl (cI, 6, .inl (upd SB o 2))), (s5, .inl (cI, 6, .inl (upd CB o 0))), (h0, .inr (1, [.ref q1, .ref q2, .ref q3, .ref q4, .int (nI n)])), (q1, .inl (cI, 40, .inl K)), (q2, .inl (cI, 40, .inl O)), (q3, .inl (cI, 40, .inl T)), (q4, .inl (cI, 40, .inl Z))] H := hP.sub [4, 5, 6, 7, 8, 9, 10, 0, 1, 2, 3] rfl
    have hD : va_D A [(a0, .inr (0, [.ref s1, .ref s2, .ref s3, .ref s4, .ref s5, .int res])), (s1, .inl (cI, 240, .inl S2)), (s2, .inl (cI, 240, .inl C2)), (s3, .inl (cZ, 40, .inl W2)), (s4, .inl (cI, 6, .inl (upd SB o 2))), (s5, .inl (cI, 6, .inl (upd CB o 0))), (h0, .inr (1, [.ref q1, .ref q2, .ref q3, .ref q4, .int (nI n)])), (q1, .inl (cI, 40, .inl K)), (q2, .inl (cI, 40, .inl O)), (q3, .inl (cI, 40, .inl T)), (q4, .inl (cI, 40, .inl Z))] := hD.sub [4, 5, 6, 7, 8, 9, 10, 0, 1, 2, 3] (by decide) rfl
    exact bc_vret F hr hlocks ((S2, C2, W2, upd SB o 2, upd CB o 0)) ⟨_, hen2, by rw [bc_out_5v h5 eO ho (bc_s0_n2 (by rw [← (hrow o ho).1]; exact hv_3))]; exact bc_run_2 hwr1 hwr2⟩ hP hD hS de_A_goOnFromZero_52
end
section
/-! Analysis: goOnFrom, perform (by program: wip/whole/gen/modA3.py) -/
theorem bc_cpy {p : Program} {l : Launch} {e : Env} {R : Room} {s : State} {m : MethodId} {args : Array Value} {below : List Frame} {meth : Method} {c : Code} {H : Heap} {locs : List Loc} {cells slots : Nat} {Q : State → Prop} {cc : ByteArray} {pc nL index : Nat} {ls : Array Slot} {rest : List Value} {own : String} {D : va_G} {cl : List vw_C} {A : Nat → Prop} {tys : List (ClassId × FieldType)} {ws : va_W} {H0 : Heap}
    (F : bc_Fx p m c cc nL s args own D cl tys) (k1 : Cond.methodLink own index arraycopyName ∈ wd_all) (k2 : Cond.native arraycopyName ∈ wd_all) (k3 : Cond.static arraycopyName ∈ wd_all) (k4 : Cond.initialized "java/lang/System" ∈ wd_all) (hP : va_P D cl ws H) (hD : va_D A ws) (hS : va_S A H0 H locs)
    (q0 q1 t0 : Nat) {a a0 : Nat} {c0 : ClassId} {n0 : Nat} {f g : Nat → Int32} (ha0 : ws[q0]? = some (a0, .inl (c0, n0, .inl f))) (ha1 : ws[q1]? = some (a, .inl (c0, 6, .inl g))) (ht0 : tys[t0]? = some (c0, .int)) {k : Nat} (hk : k + 6 ≤ n0) (hn0 : n0 < 2 ^ 31) (hsize : ls.size = nL) (hframes : 1 ≤ R.frames) (hlocals : (rest.map fun v => v.category).sum + 18 ≤ R.locals) (hdg : decode cc pc = .ok (.invokestatic index, 3))
    (kk : ∀ (f' : Nat → Int32) (H1 : Heap) (locs1 : List Loc), (∀ v, v < 6 → f' v = f (k + v)) → va_P D cl (ws.set q1 (a, .inl (c0, 6, .inl f'))) H1 → va_D A (ws.set q1 (a, .inl (c0, 6, .inl f'))) → va_S A H0 H1 locs1 → W p l e R s m args below meth c H1 locs1 cells slots Q (F0 m (pc + 3) ls rest)) :
    W p l e R s m args below meth c H locs cells slots Q (F0 m pc ls (.int 6 :: .int 0 :: .ref a :: .int (nI k) :: .ref a0 :: rest)) := by
  obtain ⟨hx, hb, hml, ho, htw, hN, hK⟩ := F
  have e6 : (6 : Int32).toNatClampNeg = 6 := by decide
  have e0 : (0 : Int32).toNatClampNeg = 0 := by decide
  have ek : (nI k).toNatClampNeg = k := nI_clamp (by omega)
  have en : nativeFrameWords "java/lang/System" "arraycopy" 5 = 7 := by decide
  have hl9 : (rest.map fun v => v.category).sum + (nativeFrameWords "java/lang/System" "arraycopy" 5 + 11) ≤ R.locals := by rw [en]; exact hlocals
  refine va_copyi (sp := nI k) (dp := 0) (n := 6) hx hb (hml.trans hsize.symm) ho (htw _ k1) (htw _ k2) (htw _ k3) (htw _ k4) hK hP hD hS q0 q1 t0 t0 ha0 ha1 ht0 ht0 rfl (nI_pos (by omega)) (by decide) (by decide) (by rw [ek, e6]; exact hk) (by rw [e0, e6]; exact Nat.le_refl _) (fun _ _ => rfl) hframes hl9 hdg (fun H1 locs1 h1 h2 h3 => ?_)
  refine kk _ H1 locs1 (fun v hv => ?_) h1 h2 h3
  rw [ek, e6, e0, pk_cpy_in (Nat.zero_le _) (by omega)]
  rfl
theorem bc_dec0 {x : Int32} (h : ¬ x = 0 → x = 0) : x = 0 := Classical.byContradiction (fun z => z (h z))
theorem bc_zs {W : bc_F} {i n : Nat} (h : ∀ j, j < i → j < n → W j = 0) (hi : W i = 0) : ∀ j, j < i + 1 → j < n → W j = 0 := by
  intro j hj hjn
  by_cases c : j = i
  · rw [c]; exact hi
  · exact h j (by omega) hjn
set_option maxHeartbeats 4000000 in
set_option maxRecDepth 100000 in
/-- on from an instruction -/
theorem co_A_goOnFrom {l : Launch} {dC : Nat → ClassId} {dI : Nat → Nat → Nat} {cI cZ : ClassId} {sz : Nat} {a0 s1 s2 s3 s4 s5 : Nat} {S C Wt SB CB : bc_F} {res : Int32}{h0 q1 q2 q3 q4 n : Nat} {K O T Z : bc_F}{i : Nat} {g : bc_G} {rr : bc_R} (hn : n ≤ 40) (hi : i < n) (hw : bc_wf n K O T Z) (hen : bc_en S C g) (hg : g i = some rr) : Met l yn_A_goOnFrom (Cond.code yn_A_goOnFrom by_A_goOnFrom 3 none :: wd_all) ({ frames := 3, cells := 0, slots := 0, locals := 68 } : Room) (bc_Pre (dC, dI) classes [(cI, .int), (cZ, .boolean)] [.ref a0, .ref h0, .int (nI i)] [(a0, .inr (0, [.ref s1, .ref s2, .ref s3, .ref s4, .ref s5, .int res])), (s1, .inl (cI, 240, .inl S)), (s2, .inl (cI, 240, .inl C)), (s3, .inl (cZ, 40, .inl Wt)), (s4, .inl (cI, 6, .inl SB)), (s5, .inl (cI, 6, .inl CB)), (h0, .inr (1, [.ref q1, .ref q2, .ref q3, .ref q4, .int (nI n)])), (q1, .inl (cI, 40, .inl K)), (q2, .inl (cI, 40, .inl O)), (q3, .inl (cI, 40, .inl T)), (q4, .inl (cI, 40, .inl Z))] sz) (va_Qv (fun (u : bc_F × bc_F × bc_F × bc_F × bc_F × Int32) => ∃ g', bc_en u.1 u.2.1 g' ∧ bc_run n (bc_out K O T Z i rr) g Wt g' u.2.2.1) (fun (u : bc_F × bc_F × bc_F × bc_F × bc_F × Int32) t => bc_B (dC, dI) classes [(cI, .int), (cZ, .boolean)] (va_A [(a0, .inr (0, [.ref s1, .ref s2, .ref s3, .ref s4, .ref s5, .int res])), (s1, .inl (cI, 240, .inl S)), (s2, .inl (cI, 240, .inl C)), (s3, .inl (cZ, 40, .inl Wt)), (s4, .inl (cI, 6, .inl SB)), (s5, .inl (cI, 6, .inl CB)), (h0, .inr (1, [.ref q1, .ref q2, .ref q3, .ref q4, .int (nI n)])), (q1, .inl (cI, 40, .inl K)), (q2, .inl (cI, 40, .inl O)), (q3, .inl (cI, 40, .inl T)), (q4, .inl (cI, 40, .inl Z))] sz) [(a0, .inr (0, [.ref s1, .ref s2, .ref s3, .ref s4, .ref s5, .int u.2.2.2.2.2])), (s1, .inl (cI, 240, .inl u.1)), (s2, .inl (cI, 240, .inl u.2.1)), (s3, .inl (cZ, 40, .inl u.2.2.1)), (s4, .inl (cI, 6, .inl u.2.2.2.1)), (s5, .inl (cI, 6, .inl u.2.2.2.2.1)), (h0, .inr (1, [.ref q1, .ref q2, .ref q3, .ref q4, .int (nI n)])), (q1, .inl (cI, 40, .inl K)), (q2, .inl (cI, 40, .inl O)), (q3, .inl (cI, 40, .inl T)), (q4, .inl (cI, 40, .inl Z))] t) ((va_A [(a0, .inr (0, [.ref s1, .ref s2, .ref s3, .ref s4, .ref s5, .int res])), (s1, .inl (cI, 240, .inl S)), (s2, .inl (cI, 240, .inl C)), (s3, .inl (cZ, 40, .inl Wt)), (s4, .inl (cI, 6, .inl SB)), (s5, .inl (cI, 6, .inl CB)), (h0, .inr (1, [.ref q1, .ref q2, .ref q3, .ref q4, .int (nI n)])), (q1, .inl (cI, 40, .inl K)), (q2, .inl (cI, 40, .inl O)), (q3, .inl (cI, 40, .inl T)), (q4, .inl (cI, 40, .inl Z))] sz))) 0 0 (va_A [(a0, .inr (0, [.ref s1, .ref s2, .ref s3, .ref s4, .ref s5, .int res])), (s1, .inl (cI, 240, .inl S)), (s2, .inl (cI, 240, .inl C)), (s3, .inl (cZ, 40, .inl Wt)), (s4, .inl (cI, 6, .inl SB)), (s5, .inl (cI, 6, .inl CB)), (h0, .inr (1, [.ref q1, .ref q2, .ref q3, .ref q4, .int (nI n)])), (q1, .inl (cI, 40, .inl K)), (q2, .inl (cI, 40, .inl O)), (q3, .inl (cI, 40, .inl T)), (q4, .inl (cI, 40, .inl Z))] sz) := by
  refine bc_met (fun A => va_Qv (fun (u : bc_F × bc_F × bc_F × bc_F × bc_F × Int32) => ∃ g', bc_en u.1 u.2.1 g' ∧ bc_run n (bc_out K O T Z i rr) g Wt g' u.2.2.1) (fun (u : bc_F × bc_F × bc_F × bc_F × bc_F × Int32) t => bc_B (dC, dI) classes [(cI, .int), (cZ, .boolean)] A [(a0, .inr (0, [.ref s1, .ref s2, .ref s3, .ref s4, .ref s5, .int u.2.2.2.2.2])), (s1, .inl (cI, 240, .inl u.1)), (s2, .inl (cI, 240, .inl u.2.1)), (s3, .inl (cZ, 40, .inl u.2.2.1)), (s4, .inl (cI, 6, .inl u.2.2.2.1)), (s5, .inl (cI, 6, .inl u.2.2.2.2.1)), (h0, .inr (1, [.ref q1, .ref q2, .ref q3, .ref q4, .int (nI n)])), (q1, .inl (cI, 40, .inl K)), (q2, .inl (cI, 40, .inl O)), (q3, .inl (cI, 40, .inl T)), (q4, .inl (cI, 40, .inl Z))] t) A) (by decide) (Nat.le_of_ble_eq_true rfl) ?_
  intro p e s m args below meth c A ls F hr hlocks hin hA hP hD hl hS
  have hx := F.1
  have hb := F.2.1
  have hml := F.2.2.1
  have hown : s.vm.findClass "BranchConstants$Analysis" = some m.cls := F.2.2.2.1
  have htw := F.2.2.2.2.1
  have hN := F.2.2.2.2.2.1
  have hK := F.2.2.2.2.2.2
  have hl : lv_has ls 3 [(0, .ref a0), (1, .ref h0), (2, .int (nI i))] := hl
  have hrow := bc_row hen (by omega) hg
  refine lv_aload_n hx hb de_A_goOnFrom_0 rfl (lv_at hl 0 rfl) ?_
  refine va_get (D := (dC, dI)) (ci := 0) (v := .ref s1) (C := rc_A) (T := fc_A) (N := 6) hx hb htw wi_A hown hK hP 0 rfl rfl 0 (by decide) (htw _ wm_45) (fun _ h9 => h9) rfl de_A_goOnFrom_1 ?_
  refine lv_iload_n hx hb de_A_goOnFrom_4 rfl (lv_at hl 2 rfl) ?_
  refine lv_iconst (v := 0) hx hb de_A_goOnFrom_5 (by decide) ?_
  refine bc_ti (y := nI 0) nI_0.symm ?_
  refine bc_call_ns_i (As := [.int (nI i), .int (nI 0)]) (rest := [.ref s1]) (wr := [(a0, .inr (0, [.ref s1, .ref s2, .ref s3, .ref s4, .ref s5, .int res])), (s1, .inl (cI, 240, .inl S)), (s2, .inl (cI, 240, .inl C)), (s3, .inl (cZ, 40, .inl Wt)), (s4, .inl (cI, 6, .inl SB)), (s5, .inl (cI, 6, .inl CB)), (h0, .inr (1, [.ref q1, .ref q2, .ref q3, .ref q4, .int (nI n)])), (q1, .inl (cI, 40, .inl K)), (q2, .inl (cI, 40, .inl O)), (q3, .inl (cI, 40, .inl T)), (q4, .inl (cI, 40, .inl Z))]) F (co_B_cell) wm_127 wm_1 nm_28 wm_126 pd_B_cell rfl rfl ⟨Nat.le_of_ble_eq_true rfl, Nat.le_of_ble_eq_true rfl⟩ hP hD hS hA [] [0, 1, 2, 3, 4, 5, 6, 7, 8, 9, 10] rfl rfl rfl rfl (by decide) rfl hl.1 rfl (Nat.le_of_ble_eq_true rfl) de_A_goOnFrom_6 ⟨Nat.le_of_ble_eq_true rfl, Nat.le_of_ble_eq_true rfl⟩ (fun r_6 u_6 H locs hw_6 hP hD hS => ?_)
  have hP : va_P (dC, dI) classes [(a0, .inr (0, [.ref s1, .ref s2, .ref s3, .ref s4, .ref s5, .int res])), (s1, .inl (cI, 240, .inl S)), (s2, .inl (cI, 240, .inl C)), (s3, .inl (cZ, 40, .inl Wt)), (s4, .inl (cI, 6, .inl SB)), (s5, .inl (cI, 6, .inl CB)), (h0, .inr (1, [.ref q1, .ref q2, .ref q3, .ref q4, .int (nI n)])), (q1, .inl (cI, 40, .inl K)), (q2, .inl (cI, 40, .inl O)), (q3, .inl (cI, 40, .inl T)), (q4, .inl (cI, 40, .inl Z))] H := hP.sub [0, 1, 2, 3, 4, 5, 6, 7, 8, 9, 10] rfl
  have hD : va_D A [(a0, .inr (0, [.ref s1, .ref s2, .ref s3, .ref s4, .ref s5, .int res])), (s1, .inl (cI, 240, .inl S)), (s2, .inl (cI, 240, .inl C)), (s3, .inl (cZ, 40, .inl Wt)), (s4, .inl (cI, 6, .inl SB)), (s5, .inl (cI, 6, .inl CB)), (h0, .inr (1, [.ref q1, .ref q2, .ref q3, .ref q4, .int (nI n)])), (q1, .inl (cI, 40, .inl K)), (q2, .inl (cI, 40, .inl O)), (q3, .inl (cI, 40, .inl T)), (q4, .inl (cI, 40, .inl Z))] := hD.sub [0, 1, 2, 3, 4, 5, 6, 7, 8, 9, 10] (by decide) rfl
  subst hw_6
  refine lv_aload_n hx hb de_A_goOnFrom_9 rfl (lv_at hl 0 rfl) ?_
  refine va_get (D := (dC, dI)) (ci := 0) (v := .ref s4) (C := rc_A) (T := fc_A) (N := 6) hx hb htw wi_A hown hK hP 0 rfl rfl 3 (by decide) (htw _ wm_48) (fun _ h9 => h9) rfl de_A_goOnFrom_10 ?_
  refine lv_iconst (v := 0) hx hb de_A_goOnFrom_13 (by decide) ?_
  refine lv_bipush (v := 6) hx hb de_A_goOnFrom_14 (by decide) ?_
  refine bc_cpy (k := 6 * i + 0) F wm_134 wm_136 wm_135 wm_14 hP hD hS 1 4 0 rfl rfl rfl (by omega) (by decide) hl.1 (Nat.le_of_ble_eq_true rfl) (Nat.le_of_ble_eq_true rfl) de_A_goOnFrom_16 (fun f_16 H locs hf_16 hP hD hS => ?_)
  have hP : va_P (dC, dI) classes [(a0, .inr (0, [.ref s1, .ref s2, .ref s3, .ref s4, .ref s5, .int res])), (s1, .inl (cI, 240, .inl S)), (s2, .inl (cI, 240, .inl C)), (s3, .inl (cZ, 40, .inl Wt)), (s4, .inl (cI, 6, .inl f_16)), (s5, .inl (cI, 6, .inl CB)), (h0, .inr (1, [.ref q1, .ref q2, .ref q3, .ref q4, .int (nI n)])), (q1, .inl (cI, 40, .inl K)), (q2, .inl (cI, 40, .inl O)), (q3, .inl (cI, 40, .inl T)), (q4, .inl (cI, 40, .inl Z))] H := hP
  have hD : va_D A [(a0, .inr (0, [.ref s1, .ref s2, .ref s3, .ref s4, .ref s5, .int res])), (s1, .inl (cI, 240, .inl S)), (s2, .inl (cI, 240, .inl C)), (s3, .inl (cZ, 40, .inl Wt)), (s4, .inl (cI, 6, .inl f_16)), (s5, .inl (cI, 6, .inl CB)), (h0, .inr (1, [.ref q1, .ref q2, .ref q3, .ref q4, .int (nI n)])), (q1, .inl (cI, 40, .inl K)), (q2, .inl (cI, 40, .inl O)), (q3, .inl (cI, 40, .inl T)), (q4, .inl (cI, 40, .inl Z))] := hD
  refine lv_aload_n hx hb de_A_goOnFrom_19 rfl (lv_at hl 0 rfl) ?_
  refine va_get (D := (dC, dI)) (ci := 0) (v := .ref s2) (C := rc_A) (T := fc_A) (N := 6) hx hb htw wi_A hown hK hP 0 rfl rfl 1 (by decide) (htw _ wm_46) (fun _ h9 => h9) rfl de_A_goOnFrom_20 ?_
  refine lv_iload_n hx hb de_A_goOnFrom_23 rfl (lv_at hl 2 rfl) ?_
  refine lv_iconst (v := 0) hx hb de_A_goOnFrom_24 (by decide) ?_
  refine bc_ti (y := nI 0) nI_0.symm ?_
  refine bc_call_ns_i (As := [.int (nI i), .int (nI 0)]) (rest := [.ref s2]) (wr := [(a0, .inr (0, [.ref s1, .ref s2, .ref s3, .ref s4, .ref s5, .int res])), (s1, .inl (cI, 240, .inl S)), (s2, .inl (cI, 240, .inl C)), (s3, .inl (cZ, 40, .inl Wt)), (s4, .inl (cI, 6, .inl f_16)), (s5, .inl (cI, 6, .inl CB)), (h0, .inr (1, [.ref q1, .ref q2, .ref q3, .ref q4, .int (nI n)])), (q1, .inl (cI, 40, .inl K)), (q2, .inl (cI, 40, .inl O)), (q3, .inl (cI, 40, .inl T)), (q4, .inl (cI, 40, .inl Z))]) F (co_B_cell) wm_127 wm_1 nm_28 wm_126 pd_B_cell rfl rfl ⟨Nat.le_of_ble_eq_true rfl, Nat.le_of_ble_eq_true rfl⟩ hP hD hS hA [] [0, 1, 2, 3, 4, 5, 6, 7, 8, 9, 10] rfl rfl rfl rfl (by decide) rfl hl.1 rfl (Nat.le_of_ble_eq_true rfl) de_A_goOnFrom_25 ⟨Nat.le_of_ble_eq_true rfl, Nat.le_of_ble_eq_true rfl⟩ (fun r_25 u_25 H locs hw_25 hP hD hS => ?_)
  have hP : va_P (dC, dI) classes [(a0, .inr (0, [.ref s1, .ref s2, .ref s3, .ref s4, .ref s5, .int res])), (s1, .inl (cI, 240, .inl S)), (s2, .inl (cI, 240, .inl C)), (s3, .inl (cZ, 40, .inl Wt)), (s4, .inl (cI, 6, .inl f_16)), (s5, .inl (cI, 6, .inl CB)), (h0, .inr (1, [.ref q1, .ref q2, .ref q3, .ref q4, .int (nI n)])), (q1, .inl (cI, 40, .inl K)), (q2, .inl (cI, 40, .inl O)), (q3, .inl (cI, 40, .inl T)), (q4, .inl (cI, 40, .inl Z))] H := hP.sub [0, 1, 2, 3, 4, 5, 6, 7, 8, 9, 10] rfl
  have hD : va_D A [(a0, .inr (0, [.ref s1, .ref s2, .ref s3, .ref s4, .ref s5, .int res])), (s1, .inl (cI, 240, .inl S)), (s2, .inl (cI, 240, .inl C)), (s3, .inl (cZ, 40, .inl Wt)), (s4, .inl (cI, 6, .inl f_16)), (s5, .inl (cI, 6, .inl CB)), (h0, .inr (1, [.ref q1, .ref q2, .ref q3, .ref q4, .int (nI n)])), (q1, .inl (cI, 40, .inl K)), (q2, .inl (cI, 40, .inl O)), (q3, .inl (cI, 40, .inl T)), (q4, .inl (cI, 40, .inl Z))] := hD.sub [0, 1, 2, 3, 4, 5, 6, 7, 8, 9, 10] (by decide) rfl
  subst hw_25
  refine lv_aload_n hx hb de_A_goOnFrom_28 rfl (lv_at hl 0 rfl) ?_
  refine va_get (D := (dC, dI)) (ci := 0) (v := .ref s5) (C := rc_A) (T := fc_A) (N := 6) hx hb htw wi_A hown hK hP 0 rfl rfl 4 (by decide) (htw _ wm_49) (fun _ h9 => h9) rfl de_A_goOnFrom_29 ?_
  refine lv_iconst (v := 0) hx hb de_A_goOnFrom_32 (by decide) ?_
  refine lv_bipush (v := 6) hx hb de_A_goOnFrom_33 (by decide) ?_
  refine bc_cpy (k := 6 * i + 0) F wm_134 wm_136 wm_135 wm_14 hP hD hS 2 5 0 rfl rfl rfl (by omega) (by decide) hl.1 (Nat.le_of_ble_eq_true rfl) (Nat.le_of_ble_eq_true rfl) de_A_goOnFrom_35 (fun f_35 H locs hf_35 hP hD hS => ?_)
  have hP : va_P (dC, dI) classes [(a0, .inr (0, [.ref s1, .ref s2, .ref s3, .ref s4, .ref s5, .int res])), (s1, .inl (cI, 240, .inl S)), (s2, .inl (cI, 240, .inl C)), (s3, .inl (cZ, 40, .inl Wt)), (s4, .inl (cI, 6, .inl f_16)), (s5, .inl (cI, 6, .inl f_35)), (h0, .inr (1, [.ref q1, .ref q2, .ref q3, .ref q4, .int (nI n)])), (q1, .inl (cI, 40, .inl K)), (q2, .inl (cI, 40, .inl O)), (q3, .inl (cI, 40, .inl T)), (q4, .inl (cI, 40, .inl Z))] H := hP
  have hD : va_D A [(a0, .inr (0, [.ref s1, .ref s2, .ref s3, .ref s4, .ref s5, .int res])), (s1, .inl (cI, 240, .inl S)), (s2, .inl (cI, 240, .inl C)), (s3, .inl (cZ, 40, .inl Wt)), (s4, .inl (cI, 6, .inl f_16)), (s5, .inl (cI, 6, .inl f_35)), (h0, .inr (1, [.ref q1, .ref q2, .ref q3, .ref q4, .int (nI n)])), (q1, .inl (cI, 40, .inl K)), (q2, .inl (cI, 40, .inl O)), (q3, .inl (cI, 40, .inl T)), (q4, .inl (cI, 40, .inl Z))] := hD
  have her : bc_er f_16 f_35 rr := fun v hv => ⟨(hf_16 v hv).trans (hrow v hv).1, (hf_35 v hv).trans (hrow v hv).2⟩
  refine lv_aload_n hx hb de_A_goOnFrom_38 rfl (lv_at hl 1 rfl) ?_
  refine lv_iload_n hx hb de_A_goOnFrom_39 rfl (lv_at hl 2 rfl) ?_
  refine bc_call_nv_i (As := [.int (nI i)]) (rest := []) (wr := [(a0, .inr (0, [.ref s1, .ref s2, .ref s3, .ref s4, .ref s5, .int res])), (s1, .inl (cI, 240, .inl S)), (s2, .inl (cI, 240, .inl C)), (s3, .inl (cZ, 40, .inl Wt)), (s4, .inl (cI, 6, .inl f_16)), (s5, .inl (cI, 6, .inl f_35))]) F (co_C_assigns (by omega)) wm_138 wm_2 nm_29 wm_137 wm_596 6 rfl rfl pd_C_assigns rfl rfl ⟨Nat.le_of_ble_eq_true rfl, Nat.le_of_ble_eq_true rfl⟩ hP hD hS hA [6, 7, 8, 9, 10] [0, 1, 2, 3, 4, 5] rfl rfl rfl rfl (by decide) rfl hl.1 rfl (Nat.le_of_ble_eq_true rfl) de_A_goOnFrom_40 ⟨Nat.le_of_ble_eq_true rfl, Nat.le_of_ble_eq_true rfl⟩ (fun r_40 u_40 H locs hw_40 hP hD hS => ?_)
  have hP : va_P (dC, dI) classes [(a0, .inr (0, [.ref s1, .ref s2, .ref s3, .ref s4, .ref s5, .int res])), (s1, .inl (cI, 240, .inl S)), (s2, .inl (cI, 240, .inl C)), (s3, .inl (cZ, 40, .inl Wt)), (s4, .inl (cI, 6, .inl f_16)), (s5, .inl (cI, 6, .inl f_35)), (h0, .inr (1, [.ref q1, .ref q2, .ref q3, .ref q4, .int (nI n)])), (q1, .inl (cI, 40, .inl K)), (q2, .inl (cI, 40, .inl O)), (q3, .inl (cI, 40, .inl T)), (q4, .inl (cI, 40, .inl Z))] H := hP.sub [0, 1, 2, 3, 4, 5, 6, 7, 8, 9, 10] rfl
  have hD : va_D A [(a0, .inr (0, [.ref s1, .ref s2, .ref s3, .ref s4, .ref s5, .int res])), (s1, .inl (cI, 240, .inl S)), (s2, .inl (cI, 240, .inl C)), (s3, .inl (cZ, 40, .inl Wt)), (s4, .inl (cI, 6, .inl f_16)), (s5, .inl (cI, 6, .inl f_35)), (h0, .inr (1, [.ref q1, .ref q2, .ref q3, .ref q4, .int (nI n)])), (q1, .inl (cI, 40, .inl K)), (q2, .inl (cI, 40, .inl O)), (q3, .inl (cI, 40, .inl T)), (q4, .inl (cI, 40, .inl Z))] := hD.sub [0, 1, 2, 3, 4, 5, 6, 7, 8, 9, 10] (by decide) rfl
  rcases hw_40 with ⟨he_40, hv_40⟩ | ⟨he_40, hv_40⟩
  · subst he_40
    refine lv_if_eq (tgt := 93) hx hb de_A_goOnFrom_43 (by decide) (fun hc => absurd hc (by decide)) (fun _ => ?_)
    obtain ⟨o, ho, eO⟩ := bc_wi_o (hw i hi) hv_40
    refine lv_aload_n hx hb de_A_goOnFrom_46 rfl (lv_at hl 0 rfl) ?_
    refine lv_aload_n hx hb de_A_goOnFrom_47 rfl (lv_at hl 1 rfl) ?_
    refine lv_iload_n hx hb de_A_goOnFrom_48 rfl (lv_at hl 2 rfl) ?_
    refine bc_call_v_i (As := [.ref h0, .int (nI i)]) (rest := []) (wr := []) F (co_A_hasConstantResult (by omega) (hw i hi) hv_40 hrow) wm_141 wm_3 wm_139 wm_140 wm_597 0 rfl rfl pd_A_hasConstantResult rfl rfl ⟨Nat.le_of_ble_eq_true rfl, Nat.le_of_ble_eq_true rfl⟩ hP hD hS hA [0, 1, 2, 3, 4, 5, 6, 7, 8, 9, 10] [] rfl rfl rfl rfl (by decide) rfl hl.1 rfl (Nat.le_of_ble_eq_true rfl) de_A_goOnFrom_49 ⟨Nat.le_of_ble_eq_true rfl, Nat.le_of_ble_eq_true rfl⟩ (fun r_49 u_49 H locs hw_49 hP hD hS => ?_)
    have hP : va_P (dC, dI) classes [(a0, .inr (0, [.ref s1, .ref s2, .ref s3, .ref s4, .ref s5, .int u_49])), (s1, .inl (cI, 240, .inl S)), (s2, .inl (cI, 240, .inl C)), (s3, .inl (cZ, 40, .inl Wt)), (s4, .inl (cI, 6, .inl f_16)), (s5, .inl (cI, 6, .inl f_35)), (h0, .inr (1, [.ref q1, .ref q2, .ref q3, .ref q4, .int (nI n)])), (q1, .inl (cI, 40, .inl K)), (q2, .inl (cI, 40, .inl O)), (q3, .inl (cI, 40, .inl T)), (q4, .inl (cI, 40, .inl Z))] H := hP.sub [0, 1, 2, 3, 4, 5, 6, 7, 8, 9, 10] rfl
    have hD : va_D A [(a0, .inr (0, [.ref s1, .ref s2, .ref s3, .ref s4, .ref s5, .int u_49])), (s1, .inl (cI, 240, .inl S)), (s2, .inl (cI, 240, .inl C)), (s3, .inl (cZ, 40, .inl Wt)), (s4, .inl (cI, 6, .inl f_16)), (s5, .inl (cI, 6, .inl f_35)), (h0, .inr (1, [.ref q1, .ref q2, .ref q3, .ref q4, .int (nI n)])), (q1, .inl (cI, 40, .inl K)), (q2, .inl (cI, 40, .inl O)), (q3, .inl (cI, 40, .inl T)), (q4, .inl (cI, 40, .inl Z))] := hD.sub [0, 1, 2, 3, 4, 5, 6, 7, 8, 9, 10] (by decide) rfl
    rcases hw_49 with ⟨he_49, hv_49⟩ | ⟨he_49, hv_49⟩
    · subst he_49
      refine lv_if_eq (tgt := 72) hx hb de_A_goOnFrom_52 (by decide) (fun hc => absurd hc (by decide)) (fun _ => ?_)
      refine lv_aload_n hx hb de_A_goOnFrom_55 rfl (lv_at hl 0 rfl) ?_
      refine lv_aload_n hx hb de_A_goOnFrom_56 rfl (lv_at hl 1 rfl) ?_
      refine va_getN (D := (dC, dI)) (ci := 1) (v := .ref q2) (C := rc_C) (T := fc_C) (N := 5) hx hb htw wi_C hown hK hP 6 rfl rfl 1 (by decide) (va_Nw.use rfl (hN _ nm_5)) (fun _ h9 => h9) rfl de_A_goOnFrom_57 ?_
      refine lv_iload_n hx hb de_A_goOnFrom_60 rfl (lv_at hl 2 rfl) ?_
      refine bc_ild (j := i) hx hb hK hP 8 0 rfl rfl (by omega) (by decide) de_A_goOnFrom_61 ?_
      refine bc_ti (y := nI o) eO ?_
      refine lv_aload_n hx hb de_A_goOnFrom_62 rfl (lv_at hl 0 rfl) ?_
      refine va_get (D := (dC, dI)) (ci := 0) (v := .int u_49) (C := rc_A) (T := fc_A) (N := 6) hx hb htw wi_A hown hK hP 0 rfl rfl 5 (by decide) (htw _ wm_50) (fun _ h9 => h9) rfl de_A_goOnFrom_63 ?_
      refine bc_call_v_v (As := [.int (nI o), .int u_49]) (rest := []) (wr := [(h0, .inr (1, [.ref q1, .ref q2, .ref q3, .ref q4, .int (nI n)])), (q1, .inl (cI, 40, .inl K)), (q2, .inl (cI, 40, .inl O)), (q3, .inl (cI, 40, .inl T)), (q4, .inl (cI, 40, .inl Z))]) F (co_A_setConstantBehind ho) wm_149 wm_3 wm_147 wm_148 wm_599 0 rfl rfl pd_A_setConstantBehind rfl rfl ⟨Nat.le_of_ble_eq_true rfl, Nat.le_of_ble_eq_true rfl⟩ hP hD hS hA [0, 1, 2, 3, 4, 5] [6, 7, 8, 9, 10] rfl rfl rfl rfl (by decide) rfl hl.1 rfl (Nat.le_of_ble_eq_true rfl) de_A_goOnFrom_66 ⟨Nat.le_of_ble_eq_true rfl, Nat.le_of_ble_eq_true rfl⟩ (fun u_66 H locs hw_66 hP hD hS => ?_)
      subst hw_66
      have hP : va_P (dC, dI) classes [(a0, .inr (0, [.ref s1, .ref s2, .ref s3, .ref s4, .ref s5, .int u_49])), (s1, .inl (cI, 240, .inl S)), (s2, .inl (cI, 240, .inl C)), (s3, .inl (cZ, 40, .inl Wt)), (s4, .inl (cI, 6, .inl (upd f_16 o 2))), (s5, .inl (cI, 6, .inl (upd f_35 o u_49))), (h0, .inr (1, [.ref q1, .ref q2, .ref q3, .ref q4, .int (nI n)])), (q1, .inl (cI, 40, .inl K)), (q2, .inl (cI, 40, .inl O)), (q3, .inl (cI, 40, .inl T)), (q4, .inl (cI, 40, .inl Z))] H := hP.sub [5, 6, 7, 8, 9, 10, 0, 1, 2, 3, 4] rfl
      have hD : va_D A [(a0, .inr (0, [.ref s1, .ref s2, .ref s3, .ref s4, .ref s5, .int u_49])), (s1, .inl (cI, 240, .inl S)), (s2, .inl (cI, 240, .inl C)), (s3, .inl (cZ, 40, .inl Wt)), (s4, .inl (cI, 6, .inl (upd f_16 o 2))), (s5, .inl (cI, 6, .inl (upd f_35 o u_49))), (h0, .inr (1, [.ref q1, .ref q2, .ref q3, .ref q4, .int (nI n)])), (q1, .inl (cI, 40, .inl K)), (q2, .inl (cI, 40, .inl O)), (q3, .inl (cI, 40, .inl T)), (q4, .inl (cI, 40, .inl Z))] := hD.sub [5, 6, 7, 8, 9, 10, 0, 1, 2, 3, 4] (by decide) rfl
      refine lv_goto (tgt := 82) hx hb de_A_goOnFrom_69 (by decide) ?_
      refine lv_aload_n hx hb de_A_goOnFrom_82 rfl (lv_at hl 0 rfl) ?_
      refine lv_aload_n hx hb de_A_goOnFrom_83 rfl (lv_at hl 1 rfl) ?_
      refine lv_iload_n hx hb de_A_goOnFrom_84 rfl (lv_at hl 2 rfl) ?_
      refine lv_iconst (v := 1) hx hb de_A_goOnFrom_85 (by decide) ?_
      refine lv_iadd hx hb de_A_goOnFrom_86 ?_
      refine bc_ti (y := nI (i + 1)) (nI_1 i) ?_
      refine bc_call_v_v (As := [.ref h0, .int (nI (i + 1))]) (rest := []) (wr := [(q1, .inl (cI, 40, .inl K)), (q2, .inl (cI, 40, .inl O)), (q3, .inl (cI, 40, .inl T)), (q4, .inl (cI, 40, .inl Z))]) F (co_A_comeTo hn (by omega) hen (bc_er_up (x := some u_49) her rfl rfl)) wm_125 wm_3 wm_123 wm_124 wm_593 0 rfl rfl pd_A_comeTo rfl rfl ⟨Nat.le_of_ble_eq_true rfl, Nat.le_of_ble_eq_true rfl⟩ hP hD hS hA [0, 1, 2, 3, 4, 5, 6] [7, 8, 9, 10] rfl rfl rfl rfl (by decide) rfl hl.1 rfl (Nat.le_of_ble_eq_true rfl) de_A_goOnFrom_87 ⟨Nat.le_of_ble_eq_true rfl, Nat.le_of_ble_eq_true rfl⟩ (fun u_87 H locs hw_87 hP hD hS => ?_)
      obtain ⟨S1, C1, W1⟩ := u_87
      dsimp only at hw_87
      obtain ⟨hen1, hwr1⟩ := hw_87
      have hP : va_P (dC, dI) classes [(a0, .inr (0, [.ref s1, .ref s2, .ref s3, .ref s4, .ref s5, .int u_49])), (s1, .inl (cI, 240, .inl S1)), (s2, .inl (cI, 240, .inl C1)), (s3, .inl (cZ, 40, .inl W1)), (s4, .inl (cI, 6, .inl (upd f_16 o 2))), (s5, .inl (cI, 6, .inl (upd f_35 o u_49))), (h0, .inr (1, [.ref q1, .ref q2, .ref q3, .ref q4, .int (nI n)])), (q1, .inl (cI, 40, .inl K)), (q2, .inl (cI, 40, .inl O)), (q3, .inl (cI, 40, .inl T)), (q4, .inl (cI, 40, .inl Z))] H := hP.sub [4, 5, 6, 7, 8, 9, 10, 0, 1, 2, 3] rfl
      have hD : va_D A [(a0, .inr (0, [.ref s1, .ref s2, .ref s3, .ref s4, .ref s5, .int u_49])), (s1, .inl (cI, 240, .inl S1)), (s2, .inl (cI, 240, .inl C1)), (s3, .inl (cZ, 40, .inl W1)), (s4, .inl (cI, 6, .inl (upd f_16 o 2))), (s5, .inl (cI, 6, .inl (upd f_35 o u_49))), (h0, .inr (1, [.ref q1, .ref q2, .ref q3, .ref q4, .int (nI n)])), (q1, .inl (cI, 40, .inl K)), (q2, .inl (cI, 40, .inl O)), (q3, .inl (cI, 40, .inl T)), (q4, .inl (cI, 40, .inl Z))] := hD.sub [4, 5, 6, 7, 8, 9, 10, 0, 1, 2, 3] (by decide) rfl
      refine lv_goto (tgt := 133) hx hb de_A_goOnFrom_90 (by decide) ?_
      exact bc_vret F hr hlocks ((S1, C1, W1, upd f_16 o 2, upd f_35 o u_49, u_49)) ⟨_, hen1, by rw [bc_out_4 hv_40 eO ho, hv_49]; exact bc_run_1 hwr1⟩ hP hD hS de_A_goOnFrom_133
    · subst he_49
      refine lv_if_eq (tgt := 72) hx hb de_A_goOnFrom_52 (by decide) (fun _ => ?_) (fun hc => absurd (by decide) hc)
      refine lv_aload_n hx hb de_A_goOnFrom_72 rfl (lv_at hl 0 rfl) ?_
      refine lv_aload_n hx hb de_A_goOnFrom_73 rfl (lv_at hl 1 rfl) ?_
      refine va_getN (D := (dC, dI)) (ci := 1) (v := .ref q2) (C := rc_C) (T := fc_C) (N := 5) hx hb htw wi_C hown hK hP 6 rfl rfl 1 (by decide) (va_Nw.use rfl (hN _ nm_5)) (fun _ h9 => h9) rfl de_A_goOnFrom_74 ?_
      refine lv_iload_n hx hb de_A_goOnFrom_77 rfl (lv_at hl 2 rfl) ?_
      refine bc_ild (j := i) hx hb hK hP 8 0 rfl rfl (by omega) (by decide) de_A_goOnFrom_78 ?_
      refine bc_ti (y := nI o) eO ?_
      refine bc_call_v_v (As := [.int (nI o)]) (rest := []) (wr := [(h0, .inr (1, [.ref q1, .ref q2, .ref q3, .ref q4, .int (nI n)])), (q1, .inl (cI, 40, .inl K)), (q2, .inl (cI, 40, .inl O)), (q3, .inl (cI, 40, .inl T)), (q4, .inl (cI, 40, .inl Z))]) F (co_A_setVaryingBehind ho) wm_152 wm_3 wm_150 wm_151 wm_600 0 rfl rfl pd_A_setVaryingBehind rfl rfl ⟨Nat.le_of_ble_eq_true rfl, Nat.le_of_ble_eq_true rfl⟩ hP hD hS hA [0, 1, 2, 3, 4, 5] [6, 7, 8, 9, 10] rfl rfl rfl rfl (by decide) rfl hl.1 rfl (Nat.le_of_ble_eq_true rfl) de_A_goOnFrom_79 ⟨Nat.le_of_ble_eq_true rfl, Nat.le_of_ble_eq_true rfl⟩ (fun u_79 H locs hw_79 hP hD hS => ?_)
      subst hw_79
      have hP : va_P (dC, dI) classes [(a0, .inr (0, [.ref s1, .ref s2, .ref s3, .ref s4, .ref s5, .int u_49])), (s1, .inl (cI, 240, .inl S)), (s2, .inl (cI, 240, .inl C)), (s3, .inl (cZ, 40, .inl Wt)), (s4, .inl (cI, 6, .inl (upd f_16 o 1))), (s5, .inl (cI, 6, .inl (upd f_35 o 0))), (h0, .inr (1, [.ref q1, .ref q2, .ref q3, .ref q4, .int (nI n)])), (q1, .inl (cI, 40, .inl K)), (q2, .inl (cI, 40, .inl O)), (q3, .inl (cI, 40, .inl T)), (q4, .inl (cI, 40, .inl Z))] H := hP.sub [5, 6, 7, 8, 9, 10, 0, 1, 2, 3, 4] rfl
      have hD : va_D A [(a0, .inr (0, [.ref s1, .ref s2, .ref s3, .ref s4, .ref s5, .int u_49])), (s1, .inl (cI, 240, .inl S)), (s2, .inl (cI, 240, .inl C)), (s3, .inl (cZ, 40, .inl Wt)), (s4, .inl (cI, 6, .inl (upd f_16 o 1))), (s5, .inl (cI, 6, .inl (upd f_35 o 0))), (h0, .inr (1, [.ref q1, .ref q2, .ref q3, .ref q4, .int (nI n)])), (q1, .inl (cI, 40, .inl K)), (q2, .inl (cI, 40, .inl O)), (q3, .inl (cI, 40, .inl T)), (q4, .inl (cI, 40, .inl Z))] := hD.sub [5, 6, 7, 8, 9, 10, 0, 1, 2, 3, 4] (by decide) rfl
      refine lv_aload_n hx hb de_A_goOnFrom_82 rfl (lv_at hl 0 rfl) ?_
      refine lv_aload_n hx hb de_A_goOnFrom_83 rfl (lv_at hl 1 rfl) ?_
      refine lv_iload_n hx hb de_A_goOnFrom_84 rfl (lv_at hl 2 rfl) ?_
      refine lv_iconst (v := 1) hx hb de_A_goOnFrom_85 (by decide) ?_
      refine lv_iadd hx hb de_A_goOnFrom_86 ?_
      refine bc_ti (y := nI (i + 1)) (nI_1 i) ?_
      refine bc_call_v_v (As := [.ref h0, .int (nI (i + 1))]) (rest := []) (wr := [(q1, .inl (cI, 40, .inl K)), (q2, .inl (cI, 40, .inl O)), (q3, .inl (cI, 40, .inl T)), (q4, .inl (cI, 40, .inl Z))]) F (co_A_comeTo hn (by omega) hen (bc_er_up (x := none) her rfl rfl)) wm_125 wm_3 wm_123 wm_124 wm_593 0 rfl rfl pd_A_comeTo rfl rfl ⟨Nat.le_of_ble_eq_true rfl, Nat.le_of_ble_eq_true rfl⟩ hP hD hS hA [0, 1, 2, 3, 4, 5, 6] [7, 8, 9, 10] rfl rfl rfl rfl (by decide) rfl hl.1 rfl (Nat.le_of_ble_eq_true rfl) de_A_goOnFrom_87 ⟨Nat.le_of_ble_eq_true rfl, Nat.le_of_ble_eq_true rfl⟩ (fun u_87 H locs hw_87 hP hD hS => ?_)
      obtain ⟨S1, C1, W1⟩ := u_87
      dsimp only at hw_87
      obtain ⟨hen1, hwr1⟩ := hw_87
      have hP : va_P (dC, dI) classes [(a0, .inr (0, [.ref s1, .ref s2, .ref s3, .ref s4, .ref s5, .int u_49])), (s1, .inl (cI, 240, .inl S1)), (s2, .inl (cI, 240, .inl C1)), (s3, .inl (cZ, 40, .inl W1)), (s4, .inl (cI, 6, .inl (upd f_16 o 1))), (s5, .inl (cI, 6, .inl (upd f_35 o 0))), (h0, .inr (1, [.ref q1, .ref q2, .ref q3, .ref q4, .int (nI n)])), (q1, .inl (cI, 40, .inl K)), (q2, .inl (cI, 40, .inl O)), (q3, .inl (cI, 40, .inl T)), (q4, .inl (cI, 40, .inl Z))] H := hP.sub [4, 5, 6, 7, 8, 9, 10, 0, 1, 2, 3] rfl
      have hD : va_D A [(a0, .inr (0, [.ref s1, .ref s2, .ref s3, .ref s4, .ref s5, .int u_49])), (s1, .inl (cI, 240, .inl S1)), (s2, .inl (cI, 240, .inl C1)), (s3, .inl (cZ, 40, .inl W1)), (s4, .inl (cI, 6, .inl (upd f_16 o 1))), (s5, .inl (cI, 6, .inl (upd f_35 o 0))), (h0, .inr (1, [.ref q1, .ref q2, .ref q3, .ref q4, .int (nI n)])), (q1, .inl (cI, 40, .inl K)), (q2, .inl (cI, 40, .inl O)), (q3, .inl (cI, 40, .inl T)), (q4, .inl (cI, 40, .inl Z))] := hD.sub [4, 5, 6, 7, 8, 9, 10, 0, 1, 2, 3] (by decide) rfl
      refine lv_goto (tgt := 133) hx hb de_A_goOnFrom_90 (by decide) ?_
      exact bc_vret F hr hlocks ((S1, C1, W1, upd f_16 o 1, upd f_35 o 0, u_49)) ⟨_, hen1, by rw [bc_out_4 hv_40 eO ho, hv_49]; exact bc_run_1 hwr1⟩ hP hD hS de_A_goOnFrom_133
  · subst he_40
    refine lv_if_eq (tgt := 93) hx hb de_A_goOnFrom_43 (by decide) (fun _ => ?_) (fun hc => absurd (by decide) hc)
    refine lv_aload_n hx hb de_A_goOnFrom_93 rfl (lv_at hl 1 rfl) ?_
    refine va_getN (D := (dC, dI)) (ci := 1) (v := .ref q1) (C := rc_C) (T := fc_C) (N := 5) hx hb htw wi_C hown hK hP 6 rfl rfl 0 (by decide) (va_Nw.use rfl (hN _ nm_2)) (fun _ h9 => h9) rfl de_A_goOnFrom_94 ?_
    refine lv_iload_n hx hb de_A_goOnFrom_97 rfl (lv_at hl 2 rfl) ?_
    refine bc_ild (j := i) hx hb hK hP 7 0 rfl rfl (by omega) (by decide) de_A_goOnFrom_98 ?_
    refine lv_bipush (v := 6) hx hb de_A_goOnFrom_99 (by decide) ?_
    refine lv_icmp_ne (tgt := 117) hx hb de_A_goOnFrom_101 (by decide) (fun hc_101 => ?_) (fun hc_101 => ?_)
    · refine lv_aload_n hx hb de_A_goOnFrom_117 rfl (lv_at hl 1 rfl) ?_
      refine va_getN (D := (dC, dI)) (ci := 1) (v := .ref q1) (C := rc_C) (T := fc_C) (N := 5) hx hb htw wi_C hown hK hP 6 rfl rfl 0 (by decide) (va_Nw.use rfl (hN _ nm_2)) (fun _ h9 => h9) rfl de_A_goOnFrom_118 ?_
      refine lv_iload_n hx hb de_A_goOnFrom_121 rfl (lv_at hl 2 rfl) ?_
      refine bc_ild (j := i) hx hb hK hP 7 0 rfl rfl (by omega) (by decide) de_A_goOnFrom_122 ?_
      refine lv_iconst (v := 5) hx hb de_A_goOnFrom_123 (by decide) ?_
      refine lv_icmp_ne (tgt := 133) hx hb de_A_goOnFrom_124 (by decide) (fun hc_124 => ?_) (fun hc_124 => ?_)
      · exact bc_vret F hr hlocks ((S, C, Wt, f_16, f_35, res)) ⟨g, hen, by rw [bc_out_7 hv_40 hc_101 hc_124]; exact ⟨rfl, rfl⟩⟩ hP hD hS de_A_goOnFrom_133
      · refine lv_aload_n hx hb de_A_goOnFrom_127 rfl (lv_at hl 0 rfl) ?_
        refine lv_aload_n hx hb de_A_goOnFrom_128 rfl (lv_at hl 1 rfl) ?_
        refine lv_iload_n hx hb de_A_goOnFrom_129 rfl (lv_at hl 2 rfl) ?_
        refine bc_call_v_v (As := [.ref h0, .int (nI i)]) (rest := []) (wr := []) F (co_A_goOnFromZero hn hi hw hc_124 hen hg her) wm_157 wm_3 wm_155 wm_156 wm_602 0 rfl rfl pd_A_goOnFromZero rfl rfl ⟨Nat.le_of_ble_eq_true rfl, Nat.le_of_ble_eq_true rfl⟩ hP hD hS hA [0, 1, 2, 3, 4, 5, 6, 7, 8, 9, 10] [] rfl rfl rfl rfl (by decide) rfl hl.1 rfl (Nat.le_of_ble_eq_true rfl) de_A_goOnFrom_130 ⟨Nat.le_of_ble_eq_true rfl, Nat.le_of_ble_eq_true rfl⟩ (fun u_130 H locs hw_130 hP hD hS => ?_)
        obtain ⟨S1, C1, W1, SB1, CB1⟩ := u_130
        dsimp only at hw_130
        obtain ⟨g', hen1, hrun1⟩ := hw_130
        have hP : va_P (dC, dI) classes [(a0, .inr (0, [.ref s1, .ref s2, .ref s3, .ref s4, .ref s5, .int res])), (s1, .inl (cI, 240, .inl S1)), (s2, .inl (cI, 240, .inl C1)), (s3, .inl (cZ, 40, .inl W1)), (s4, .inl (cI, 6, .inl SB1)), (s5, .inl (cI, 6, .inl CB1)), (h0, .inr (1, [.ref q1, .ref q2, .ref q3, .ref q4, .int (nI n)])), (q1, .inl (cI, 40, .inl K)), (q2, .inl (cI, 40, .inl O)), (q3, .inl (cI, 40, .inl T)), (q4, .inl (cI, 40, .inl Z))] H := hP.sub [0, 1, 2, 3, 4, 5, 6, 7, 8, 9, 10] rfl
        have hD : va_D A [(a0, .inr (0, [.ref s1, .ref s2, .ref s3, .ref s4, .ref s5, .int res])), (s1, .inl (cI, 240, .inl S1)), (s2, .inl (cI, 240, .inl C1)), (s3, .inl (cZ, 40, .inl W1)), (s4, .inl (cI, 6, .inl SB1)), (s5, .inl (cI, 6, .inl CB1)), (h0, .inr (1, [.ref q1, .ref q2, .ref q3, .ref q4, .int (nI n)])), (q1, .inl (cI, 40, .inl K)), (q2, .inl (cI, 40, .inl O)), (q3, .inl (cI, 40, .inl T)), (q4, .inl (cI, 40, .inl Z))] := hD.sub [0, 1, 2, 3, 4, 5, 6, 7, 8, 9, 10] (by decide) rfl
        exact bc_vret F hr hlocks ((S1, C1, W1, SB1, CB1, res)) ⟨g', hen1, hrun1⟩ hP hD hS de_A_goOnFrom_133
    · have htr := bc_wi_6 (hw i hi) hc_101
      refine lv_aload_n hx hb de_A_goOnFrom_104 rfl (lv_at hl 0 rfl) ?_
      refine lv_aload_n hx hb de_A_goOnFrom_105 rfl (lv_at hl 1 rfl) ?_
      refine lv_aload_n hx hb de_A_goOnFrom_106 rfl (lv_at hl 1 rfl) ?_
      refine lv_iload_n hx hb de_A_goOnFrom_107 rfl (lv_at hl 2 rfl) ?_
      refine bc_call_nv_i (As := [.int (nI i)]) (rest := [.ref h0, .ref a0]) (wr := [(a0, .inr (0, [.ref s1, .ref s2, .ref s3, .ref s4, .ref s5, .int res])), (s1, .inl (cI, 240, .inl S)), (s2, .inl (cI, 240, .inl C)), (s3, .inl (cZ, 40, .inl Wt)), (s4, .inl (cI, 6, .inl f_16)), (s5, .inl (cI, 6, .inl f_35))]) F (co_C_target (by omega) hn htr) wm_154 wm_2 nm_31 wm_153 wm_601 6 rfl rfl pd_C_target rfl rfl ⟨Nat.le_of_ble_eq_true rfl, Nat.le_of_ble_eq_true rfl⟩ hP hD hS hA [6, 7, 8, 9, 10] [0, 1, 2, 3, 4, 5] rfl rfl rfl rfl (by decide) rfl hl.1 rfl (Nat.le_of_ble_eq_true rfl) de_A_goOnFrom_108 ⟨Nat.le_of_ble_eq_true rfl, Nat.le_of_ble_eq_true rfl⟩ (fun r_108 u_108 H locs hw_108 hP hD hS => ?_)
      have hP : va_P (dC, dI) classes [(a0, .inr (0, [.ref s1, .ref s2, .ref s3, .ref s4, .ref s5, .int res])), (s1, .inl (cI, 240, .inl S)), (s2, .inl (cI, 240, .inl C)), (s3, .inl (cZ, 40, .inl Wt)), (s4, .inl (cI, 6, .inl f_16)), (s5, .inl (cI, 6, .inl f_35)), (h0, .inr (1, [.ref q1, .ref q2, .ref q3, .ref q4, .int (nI n)])), (q1, .inl (cI, 40, .inl K)), (q2, .inl (cI, 40, .inl O)), (q3, .inl (cI, 40, .inl T)), (q4, .inl (cI, 40, .inl Z))] H := hP.sub [0, 1, 2, 3, 4, 5, 6, 7, 8, 9, 10] rfl
      have hD : va_D A [(a0, .inr (0, [.ref s1, .ref s2, .ref s3, .ref s4, .ref s5, .int res])), (s1, .inl (cI, 240, .inl S)), (s2, .inl (cI, 240, .inl C)), (s3, .inl (cZ, 40, .inl Wt)), (s4, .inl (cI, 6, .inl f_16)), (s5, .inl (cI, 6, .inl f_35)), (h0, .inr (1, [.ref q1, .ref q2, .ref q3, .ref q4, .int (nI n)])), (q1, .inl (cI, 40, .inl K)), (q2, .inl (cI, 40, .inl O)), (q3, .inl (cI, 40, .inl T)), (q4, .inl (cI, 40, .inl Z))] := hD.sub [0, 1, 2, 3, 4, 5, 6, 7, 8, 9, 10] (by decide) rfl
      subst hw_108
      refine bc_call_v_v (As := [.ref h0, .int (nI (bc_tn n (T i)))]) (rest := []) (wr := [(q1, .inl (cI, 40, .inl K)), (q2, .inl (cI, 40, .inl O)), (q3, .inl (cI, 40, .inl T)), (q4, .inl (cI, 40, .inl Z))]) F (co_A_comeTo hn (by have := bc_tn_le n (T i); omega) hen her) wm_125 wm_3 wm_123 wm_124 wm_593 0 rfl rfl pd_A_comeTo rfl rfl ⟨Nat.le_of_ble_eq_true rfl, Nat.le_of_ble_eq_true rfl⟩ hP hD hS hA [0, 1, 2, 3, 4, 5, 6] [7, 8, 9, 10] rfl rfl rfl rfl (by decide) rfl hl.1 rfl (Nat.le_of_ble_eq_true rfl) de_A_goOnFrom_111 ⟨Nat.le_of_ble_eq_true rfl, Nat.le_of_ble_eq_true rfl⟩ (fun u_111 H locs hw_111 hP hD hS => ?_)
      obtain ⟨S1, C1, W1⟩ := u_111
      dsimp only at hw_111
      obtain ⟨hen1, hwr1⟩ := hw_111
      have hP : va_P (dC, dI) classes [(a0, .inr (0, [.ref s1, .ref s2, .ref s3, .ref s4, .ref s5, .int res])), (s1, .inl (cI, 240, .inl S1)), (s2, .inl (cI, 240, .inl C1)), (s3, .inl (cZ, 40, .inl W1)), (s4, .inl (cI, 6, .inl f_16)), (s5, .inl (cI, 6, .inl f_35)), (h0, .inr (1, [.ref q1, .ref q2, .ref q3, .ref q4, .int (nI n)])), (q1, .inl (cI, 40, .inl K)), (q2, .inl (cI, 40, .inl O)), (q3, .inl (cI, 40, .inl T)), (q4, .inl (cI, 40, .inl Z))] H := hP.sub [4, 5, 6, 7, 8, 9, 10, 0, 1, 2, 3] rfl
      have hD : va_D A [(a0, .inr (0, [.ref s1, .ref s2, .ref s3, .ref s4, .ref s5, .int res])), (s1, .inl (cI, 240, .inl S1)), (s2, .inl (cI, 240, .inl C1)), (s3, .inl (cZ, 40, .inl W1)), (s4, .inl (cI, 6, .inl f_16)), (s5, .inl (cI, 6, .inl f_35)), (h0, .inr (1, [.ref q1, .ref q2, .ref q3, .ref q4, .int (nI n)])), (q1, .inl (cI, 40, .inl K)), (q2, .inl (cI, 40, .inl O)), (q3, .inl (cI, 40, .inl T)), (q4, .inl (cI, 40, .inl Z))] := hD.sub [4, 5, 6, 7, 8, 9, 10, 0, 1, 2, 3] (by decide) rfl
      refine lv_goto (tgt := 133) hx hb de_A_goOnFrom_114 (by decide) ?_
      exact bc_vret F hr hlocks ((S1, C1, W1, f_16, f_35, res)) ⟨_, hen1, by rw [bc_out_6 hv_40 hc_101]; exact bc_run_tn hwr1⟩ hP hD hS de_A_goOnFrom_133

set_option maxHeartbeats 4000000 in
set_option maxRecDepth 100000 in
/-- THE ANALYSIS: the least answer -/
theorem co_A_perform {l : Launch} {dC : Nat → ClassId} {dI : Nat → Nat → Nat} {cI cZ : ClassId} {sz : Nat} {a0 s1 s2 s3 s4 s5 : Nat} {S C Wt SB CB : bc_F} {res : Int32}{h0 q1 q2 q3 q4 n : Nat} {K O T Z : bc_F}(hn : n ≤ 40) (hw : bc_wf n K O T Z) (hW : ∀ j, j < 40 → Wt j = 0) : Met l yn_A_perform (Cond.code yn_A_perform by_A_perform 5 none :: wd_all) ({ frames := 4, cells := 0, slots := 0, locals := 90 } : Room) (bc_Pre (dC, dI) classes [(cI, .int), (cZ, .boolean)] [.ref a0, .ref h0] [(a0, .inr (0, [.ref s1, .ref s2, .ref s3, .ref s4, .ref s5, .int res])), (s1, .inl (cI, 240, .inl S)), (s2, .inl (cI, 240, .inl C)), (s3, .inl (cZ, 40, .inl Wt)), (s4, .inl (cI, 6, .inl SB)), (s5, .inl (cI, 6, .inl CB)), (h0, .inr (1, [.ref q1, .ref q2, .ref q3, .ref q4, .int (nI n)])), (q1, .inl (cI, 40, .inl K)), (q2, .inl (cI, 40, .inl O)), (q3, .inl (cI, 40, .inl T)), (q4, .inl (cI, 40, .inl Z))] sz) (va_Qv (fun (u : bc_F × bc_F × bc_F × bc_F × bc_F × Int32) => (∃ g, bc_en u.1 u.2.1 g ∧ bc_Lst n K O T Z g) ∧ ∀ j, j < 40 → u.2.2.1 j = 0) (fun (u : bc_F × bc_F × bc_F × bc_F × bc_F × Int32) t => bc_B (dC, dI) classes [(cI, .int), (cZ, .boolean)] (va_A [(a0, .inr (0, [.ref s1, .ref s2, .ref s3, .ref s4, .ref s5, .int res])), (s1, .inl (cI, 240, .inl S)), (s2, .inl (cI, 240, .inl C)), (s3, .inl (cZ, 40, .inl Wt)), (s4, .inl (cI, 6, .inl SB)), (s5, .inl (cI, 6, .inl CB)), (h0, .inr (1, [.ref q1, .ref q2, .ref q3, .ref q4, .int (nI n)])), (q1, .inl (cI, 40, .inl K)), (q2, .inl (cI, 40, .inl O)), (q3, .inl (cI, 40, .inl T)), (q4, .inl (cI, 40, .inl Z))] sz) [(a0, .inr (0, [.ref s1, .ref s2, .ref s3, .ref s4, .ref s5, .int u.2.2.2.2.2])), (s1, .inl (cI, 240, .inl u.1)), (s2, .inl (cI, 240, .inl u.2.1)), (s3, .inl (cZ, 40, .inl u.2.2.1)), (s4, .inl (cI, 6, .inl u.2.2.2.1)), (s5, .inl (cI, 6, .inl u.2.2.2.2.1)), (h0, .inr (1, [.ref q1, .ref q2, .ref q3, .ref q4, .int (nI n)])), (q1, .inl (cI, 40, .inl K)), (q2, .inl (cI, 40, .inl O)), (q3, .inl (cI, 40, .inl T)), (q4, .inl (cI, 40, .inl Z))] t) ((va_A [(a0, .inr (0, [.ref s1, .ref s2, .ref s3, .ref s4, .ref s5, .int res])), (s1, .inl (cI, 240, .inl S)), (s2, .inl (cI, 240, .inl C)), (s3, .inl (cZ, 40, .inl Wt)), (s4, .inl (cI, 6, .inl SB)), (s5, .inl (cI, 6, .inl CB)), (h0, .inr (1, [.ref q1, .ref q2, .ref q3, .ref q4, .int (nI n)])), (q1, .inl (cI, 40, .inl K)), (q2, .inl (cI, 40, .inl O)), (q3, .inl (cI, 40, .inl T)), (q4, .inl (cI, 40, .inl Z))] sz))) 0 0 (va_A [(a0, .inr (0, [.ref s1, .ref s2, .ref s3, .ref s4, .ref s5, .int res])), (s1, .inl (cI, 240, .inl S)), (s2, .inl (cI, 240, .inl C)), (s3, .inl (cZ, 40, .inl Wt)), (s4, .inl (cI, 6, .inl SB)), (s5, .inl (cI, 6, .inl CB)), (h0, .inr (1, [.ref q1, .ref q2, .ref q3, .ref q4, .int (nI n)])), (q1, .inl (cI, 40, .inl K)), (q2, .inl (cI, 40, .inl O)), (q3, .inl (cI, 40, .inl T)), (q4, .inl (cI, 40, .inl Z))] sz) := by
  refine bc_met (fun A => va_Qv (fun (u : bc_F × bc_F × bc_F × bc_F × bc_F × Int32) => (∃ g, bc_en u.1 u.2.1 g ∧ bc_Lst n K O T Z g) ∧ ∀ j, j < 40 → u.2.2.1 j = 0) (fun (u : bc_F × bc_F × bc_F × bc_F × bc_F × Int32) t => bc_B (dC, dI) classes [(cI, .int), (cZ, .boolean)] A [(a0, .inr (0, [.ref s1, .ref s2, .ref s3, .ref s4, .ref s5, .int u.2.2.2.2.2])), (s1, .inl (cI, 240, .inl u.1)), (s2, .inl (cI, 240, .inl u.2.1)), (s3, .inl (cZ, 40, .inl u.2.2.1)), (s4, .inl (cI, 6, .inl u.2.2.2.1)), (s5, .inl (cI, 6, .inl u.2.2.2.2.1)), (h0, .inr (1, [.ref q1, .ref q2, .ref q3, .ref q4, .int (nI n)])), (q1, .inl (cI, 40, .inl K)), (q2, .inl (cI, 40, .inl O)), (q3, .inl (cI, 40, .inl T)), (q4, .inl (cI, 40, .inl Z))] t) A) (by decide) (Nat.le_of_ble_eq_true rfl) ?_
  intro p e s m args below meth c A ls F hr hlocks hin hA hP hD hl hS
  have hx := F.1
  have hb := F.2.1
  have hml := F.2.2.1
  have hown : s.vm.findClass "BranchConstants$Analysis" = some m.cls := F.2.2.2.1
  have htw := F.2.2.2.2.1
  have hN := F.2.2.2.2.2.1
  have hK := F.2.2.2.2.2.2
  have hl : lv_has ls 5 [(0, .ref a0), (1, .ref h0)] := hl
  refine lv_aload_n hx hb de_A_perform_0 rfl (lv_at hl 0 rfl) ?_
  refine va_get (D := (dC, dI)) (ci := 0) (v := .ref s1) (C := rc_A) (T := fc_A) (N := 6) hx hb htw wi_A hown hK hP 0 rfl rfl 0 (by decide) (htw _ wm_45) (fun _ h9 => h9) rfl de_A_perform_1 ?_
  refine lv_iconst (v := 0) hx hb de_A_perform_4 (by decide) ?_
  refine bc_call_s_v (As := [.ref s1, .int 0]) (rest := []) (wr := [(a0, .inr (0, [.ref s1, .ref s2, .ref s3, .ref s4, .ref s5, .int res])), (s2, .inl (cI, 240, .inl C)), (s3, .inl (cZ, 40, .inl Wt)), (s4, .inl (cI, 6, .inl SB)), (s5, .inl (cI, 6, .inl CB)), (h0, .inr (1, [.ref q1, .ref q2, .ref q3, .ref q4, .int (nI n)])), (q1, .inl (cI, 40, .inl K)), (q2, .inl (cI, 40, .inl O)), (q3, .inl (cI, 40, .inl T)), (q4, .inl (cI, 40, .inl Z))]) F (co_J_fill (by decide)) wm_122 wm_13 wm_120 wm_121 pd_J_fill rfl rfl ⟨Nat.le_of_ble_eq_true rfl, Nat.le_of_ble_eq_true rfl⟩ hP hD hS hA [1] [0, 2, 3, 4, 5, 6, 7, 8, 9, 10] rfl rfl rfl rfl (by decide) rfl hl.1 rfl (Nat.le_of_ble_eq_true rfl) de_A_perform_5 ⟨Nat.le_of_ble_eq_true rfl, Nat.le_of_ble_eq_true rfl⟩ (fun u_5 H locs hw_5 hP hD hS => ?_)
  have hP : va_P (dC, dI) classes [(a0, .inr (0, [.ref s1, .ref s2, .ref s3, .ref s4, .ref s5, .int res])), (s1, .inl (cI, 240, .inl u_5)), (s2, .inl (cI, 240, .inl C)), (s3, .inl (cZ, 40, .inl Wt)), (s4, .inl (cI, 6, .inl SB)), (s5, .inl (cI, 6, .inl CB)), (h0, .inr (1, [.ref q1, .ref q2, .ref q3, .ref q4, .int (nI n)])), (q1, .inl (cI, 40, .inl K)), (q2, .inl (cI, 40, .inl O)), (q3, .inl (cI, 40, .inl T)), (q4, .inl (cI, 40, .inl Z))] H := hP.sub [0, 10, 1, 2, 3, 4, 5, 6, 7, 8, 9] rfl
  have hD : va_D A [(a0, .inr (0, [.ref s1, .ref s2, .ref s3, .ref s4, .ref s5, .int res])), (s1, .inl (cI, 240, .inl u_5)), (s2, .inl (cI, 240, .inl C)), (s3, .inl (cZ, 40, .inl Wt)), (s4, .inl (cI, 6, .inl SB)), (s5, .inl (cI, 6, .inl CB)), (h0, .inr (1, [.ref q1, .ref q2, .ref q3, .ref q4, .int (nI n)])), (q1, .inl (cI, 40, .inl K)), (q2, .inl (cI, 40, .inl O)), (q3, .inl (cI, 40, .inl T)), (q4, .inl (cI, 40, .inl Z))] := hD.sub [0, 10, 1, 2, 3, 4, 5, 6, 7, 8, 9] (by decide) rfl
  refine lv_aload_n hx hb de_A_perform_8 rfl (lv_at hl 0 rfl) ?_
  refine va_get (D := (dC, dI)) (ci := 0) (v := .ref s2) (C := rc_A) (T := fc_A) (N := 6) hx hb htw wi_A hown hK hP 0 rfl rfl 1 (by decide) (htw _ wm_46) (fun _ h9 => h9) rfl de_A_perform_9 ?_
  refine lv_iconst (v := 0) hx hb de_A_perform_12 (by decide) ?_
  refine bc_call_s_v (As := [.ref s2, .int 0]) (rest := []) (wr := [(a0, .inr (0, [.ref s1, .ref s2, .ref s3, .ref s4, .ref s5, .int res])), (s1, .inl (cI, 240, .inl u_5)), (s3, .inl (cZ, 40, .inl Wt)), (s4, .inl (cI, 6, .inl SB)), (s5, .inl (cI, 6, .inl CB)), (h0, .inr (1, [.ref q1, .ref q2, .ref q3, .ref q4, .int (nI n)])), (q1, .inl (cI, 40, .inl K)), (q2, .inl (cI, 40, .inl O)), (q3, .inl (cI, 40, .inl T)), (q4, .inl (cI, 40, .inl Z))]) F (co_J_fill (by decide)) wm_122 wm_13 wm_120 wm_121 pd_J_fill rfl rfl ⟨Nat.le_of_ble_eq_true rfl, Nat.le_of_ble_eq_true rfl⟩ hP hD hS hA [2] [0, 1, 3, 4, 5, 6, 7, 8, 9, 10] rfl rfl rfl rfl (by decide) rfl hl.1 rfl (Nat.le_of_ble_eq_true rfl) de_A_perform_13 ⟨Nat.le_of_ble_eq_true rfl, Nat.le_of_ble_eq_true rfl⟩ (fun u_13 H locs hw_13 hP hD hS => ?_)
  have hP : va_P (dC, dI) classes [(a0, .inr (0, [.ref s1, .ref s2, .ref s3, .ref s4, .ref s5, .int res])), (s1, .inl (cI, 240, .inl u_5)), (s2, .inl (cI, 240, .inl u_13)), (s3, .inl (cZ, 40, .inl Wt)), (s4, .inl (cI, 6, .inl SB)), (s5, .inl (cI, 6, .inl CB)), (h0, .inr (1, [.ref q1, .ref q2, .ref q3, .ref q4, .int (nI n)])), (q1, .inl (cI, 40, .inl K)), (q2, .inl (cI, 40, .inl O)), (q3, .inl (cI, 40, .inl T)), (q4, .inl (cI, 40, .inl Z))] H := hP.sub [0, 1, 10, 2, 3, 4, 5, 6, 7, 8, 9] rfl
  have hD : va_D A [(a0, .inr (0, [.ref s1, .ref s2, .ref s3, .ref s4, .ref s5, .int res])), (s1, .inl (cI, 240, .inl u_5)), (s2, .inl (cI, 240, .inl u_13)), (s3, .inl (cZ, 40, .inl Wt)), (s4, .inl (cI, 6, .inl SB)), (s5, .inl (cI, 6, .inl CB)), (h0, .inr (1, [.ref q1, .ref q2, .ref q3, .ref q4, .int (nI n)])), (q1, .inl (cI, 40, .inl K)), (q2, .inl (cI, 40, .inl O)), (q3, .inl (cI, 40, .inl T)), (q4, .inl (cI, 40, .inl Z))] := hD.sub [0, 1, 10, 2, 3, 4, 5, 6, 7, 8, 9] (by decide) rfl
  refine lv_aload_n hx hb de_A_perform_16 rfl (lv_at hl 0 rfl) ?_
  refine va_get (D := (dC, dI)) (ci := 0) (v := .ref s4) (C := rc_A) (T := fc_A) (N := 6) hx hb htw wi_A hown hK hP 0 rfl rfl 3 (by decide) (htw _ wm_48) (fun _ h9 => h9) rfl de_A_perform_17 ?_
  refine lv_iconst (v := 1) hx hb de_A_perform_20 (by decide) ?_
  refine bc_call_s_v (As := [.ref s4, .int 1]) (rest := []) (wr := [(a0, .inr (0, [.ref s1, .ref s2, .ref s3, .ref s4, .ref s5, .int res])), (s1, .inl (cI, 240, .inl u_5)), (s2, .inl (cI, 240, .inl u_13)), (s3, .inl (cZ, 40, .inl Wt)), (s5, .inl (cI, 6, .inl CB)), (h0, .inr (1, [.ref q1, .ref q2, .ref q3, .ref q4, .int (nI n)])), (q1, .inl (cI, 40, .inl K)), (q2, .inl (cI, 40, .inl O)), (q3, .inl (cI, 40, .inl T)), (q4, .inl (cI, 40, .inl Z))]) F (co_J_fill (by decide)) wm_122 wm_13 wm_120 wm_121 pd_J_fill rfl rfl ⟨Nat.le_of_ble_eq_true rfl, Nat.le_of_ble_eq_true rfl⟩ hP hD hS hA [4] [0, 1, 2, 3, 5, 6, 7, 8, 9, 10] rfl rfl rfl rfl (by decide) rfl hl.1 rfl (Nat.le_of_ble_eq_true rfl) de_A_perform_21 ⟨Nat.le_of_ble_eq_true rfl, Nat.le_of_ble_eq_true rfl⟩ (fun u_21 H locs hw_21 hP hD hS => ?_)
  have hP : va_P (dC, dI) classes [(a0, .inr (0, [.ref s1, .ref s2, .ref s3, .ref s4, .ref s5, .int res])), (s1, .inl (cI, 240, .inl u_5)), (s2, .inl (cI, 240, .inl u_13)), (s3, .inl (cZ, 40, .inl Wt)), (s4, .inl (cI, 6, .inl u_21)), (s5, .inl (cI, 6, .inl CB)), (h0, .inr (1, [.ref q1, .ref q2, .ref q3, .ref q4, .int (nI n)])), (q1, .inl (cI, 40, .inl K)), (q2, .inl (cI, 40, .inl O)), (q3, .inl (cI, 40, .inl T)), (q4, .inl (cI, 40, .inl Z))] H := hP.sub [0, 1, 2, 3, 10, 4, 5, 6, 7, 8, 9] rfl
  have hD : va_D A [(a0, .inr (0, [.ref s1, .ref s2, .ref s3, .ref s4, .ref s5, .int res])), (s1, .inl (cI, 240, .inl u_5)), (s2, .inl (cI, 240, .inl u_13)), (s3, .inl (cZ, 40, .inl Wt)), (s4, .inl (cI, 6, .inl u_21)), (s5, .inl (cI, 6, .inl CB)), (h0, .inr (1, [.ref q1, .ref q2, .ref q3, .ref q4, .int (nI n)])), (q1, .inl (cI, 40, .inl K)), (q2, .inl (cI, 40, .inl O)), (q3, .inl (cI, 40, .inl T)), (q4, .inl (cI, 40, .inl Z))] := hD.sub [0, 1, 2, 3, 10, 4, 5, 6, 7, 8, 9] (by decide) rfl
  refine lv_aload_n hx hb de_A_perform_24 rfl (lv_at hl 0 rfl) ?_
  refine va_get (D := (dC, dI)) (ci := 0) (v := .ref s5) (C := rc_A) (T := fc_A) (N := 6) hx hb htw wi_A hown hK hP 0 rfl rfl 4 (by decide) (htw _ wm_49) (fun _ h9 => h9) rfl de_A_perform_25 ?_
  refine lv_iconst (v := 0) hx hb de_A_perform_28 (by decide) ?_
  refine bc_call_s_v (As := [.ref s5, .int 0]) (rest := []) (wr := [(a0, .inr (0, [.ref s1, .ref s2, .ref s3, .ref s4, .ref s5, .int res])), (s1, .inl (cI, 240, .inl u_5)), (s2, .inl (cI, 240, .inl u_13)), (s3, .inl (cZ, 40, .inl Wt)), (s4, .inl (cI, 6, .inl u_21)), (h0, .inr (1, [.ref q1, .ref q2, .ref q3, .ref q4, .int (nI n)])), (q1, .inl (cI, 40, .inl K)), (q2, .inl (cI, 40, .inl O)), (q3, .inl (cI, 40, .inl T)), (q4, .inl (cI, 40, .inl Z))]) F (co_J_fill (by decide)) wm_122 wm_13 wm_120 wm_121 pd_J_fill rfl rfl ⟨Nat.le_of_ble_eq_true rfl, Nat.le_of_ble_eq_true rfl⟩ hP hD hS hA [5] [0, 1, 2, 3, 4, 6, 7, 8, 9, 10] rfl rfl rfl rfl (by decide) rfl hl.1 rfl (Nat.le_of_ble_eq_true rfl) de_A_perform_29 ⟨Nat.le_of_ble_eq_true rfl, Nat.le_of_ble_eq_true rfl⟩ (fun u_29 H locs hw_29 hP hD hS => ?_)
  have hP : va_P (dC, dI) classes [(a0, .inr (0, [.ref s1, .ref s2, .ref s3, .ref s4, .ref s5, .int res])), (s1, .inl (cI, 240, .inl u_5)), (s2, .inl (cI, 240, .inl u_13)), (s3, .inl (cZ, 40, .inl Wt)), (s4, .inl (cI, 6, .inl u_21)), (s5, .inl (cI, 6, .inl u_29)), (h0, .inr (1, [.ref q1, .ref q2, .ref q3, .ref q4, .int (nI n)])), (q1, .inl (cI, 40, .inl K)), (q2, .inl (cI, 40, .inl O)), (q3, .inl (cI, 40, .inl T)), (q4, .inl (cI, 40, .inl Z))] H := hP.sub [0, 1, 2, 3, 4, 10, 5, 6, 7, 8, 9] rfl
  have hD : va_D A [(a0, .inr (0, [.ref s1, .ref s2, .ref s3, .ref s4, .ref s5, .int res])), (s1, .inl (cI, 240, .inl u_5)), (s2, .inl (cI, 240, .inl u_13)), (s3, .inl (cZ, 40, .inl Wt)), (s4, .inl (cI, 6, .inl u_21)), (s5, .inl (cI, 6, .inl u_29)), (h0, .inr (1, [.ref q1, .ref q2, .ref q3, .ref q4, .int (nI n)])), (q1, .inl (cI, 40, .inl K)), (q2, .inl (cI, 40, .inl O)), (q3, .inl (cI, 40, .inl T)), (q4, .inl (cI, 40, .inl Z))] := hD.sub [0, 1, 2, 3, 4, 10, 5, 6, 7, 8, 9] (by decide) rfl
  refine lv_aload_n hx hb de_A_perform_32 rfl (lv_at hl 0 rfl) ?_
  refine lv_aload_n hx hb de_A_perform_33 rfl (lv_at hl 1 rfl) ?_
  refine lv_iconst (v := 0) hx hb de_A_perform_34 (by decide) ?_
  refine bc_ti (y := nI 0) nI_0.symm ?_
  refine bc_call_v_v (As := [.ref h0, .int (nI 0)]) (rest := []) (wr := [(q1, .inl (cI, 40, .inl K)), (q2, .inl (cI, 40, .inl O)), (q3, .inl (cI, 40, .inl T)), (q4, .inl (cI, 40, .inl Z))]) F (co_A_comeTo hn (by omega) (g := fun _ => none) (q := bc_top) (fun i hi v hv => ⟨hw_5 _ (by omega), hw_13 _ (by omega)⟩) (fun v hv => ⟨(hw_21 v hv).trans (bc_s0_1 rfl).1.symm, (hw_29 v hv).trans (bc_s0_1 rfl).2.symm⟩)) wm_125 wm_3 wm_123 wm_124 wm_593 0 rfl rfl pd_A_comeTo rfl rfl ⟨Nat.le_of_ble_eq_true rfl, Nat.le_of_ble_eq_true rfl⟩ hP hD hS hA [0, 1, 2, 3, 4, 5, 6] [7, 8, 9, 10] rfl rfl rfl rfl (by decide) rfl hl.1 rfl (Nat.le_of_ble_eq_true rfl) de_A_perform_35 ⟨Nat.le_of_ble_eq_true rfl, Nat.le_of_ble_eq_true rfl⟩ (fun u_35 H locs hw_35 hP hD hS => ?_)
  obtain ⟨S1, C1, W1⟩ := u_35
  dsimp only at hw_35
  obtain ⟨hen1, hwr1⟩ := hw_35
  have hP : va_P (dC, dI) classes [(a0, .inr (0, [.ref s1, .ref s2, .ref s3, .ref s4, .ref s5, .int res])), (s1, .inl (cI, 240, .inl S1)), (s2, .inl (cI, 240, .inl C1)), (s3, .inl (cZ, 40, .inl W1)), (s4, .inl (cI, 6, .inl u_21)), (s5, .inl (cI, 6, .inl u_29)), (h0, .inr (1, [.ref q1, .ref q2, .ref q3, .ref q4, .int (nI n)])), (q1, .inl (cI, 40, .inl K)), (q2, .inl (cI, 40, .inl O)), (q3, .inl (cI, 40, .inl T)), (q4, .inl (cI, 40, .inl Z))] H := hP.sub [4, 5, 6, 7, 8, 9, 10, 0, 1, 2, 3] rfl
  have hD : va_D A [(a0, .inr (0, [.ref s1, .ref s2, .ref s3, .ref s4, .ref s5, .int res])), (s1, .inl (cI, 240, .inl S1)), (s2, .inl (cI, 240, .inl C1)), (s3, .inl (cZ, 40, .inl W1)), (s4, .inl (cI, 6, .inl u_21)), (s5, .inl (cI, 6, .inl u_29)), (h0, .inr (1, [.ref q1, .ref q2, .ref q3, .ref q4, .int (nI n)])), (q1, .inl (cI, 40, .inl K)), (q2, .inl (cI, 40, .inl O)), (q3, .inl (cI, 40, .inl T)), (q4, .inl (cI, 40, .inl Z))] := hD.sub [4, 5, 6, 7, 8, 9, 10, 0, 1, 2, 3] (by decide) rfl
  refine lv_iconst (v := 1) hx hb de_A_perform_38 (by decide) ?_
  refine lv_istore_n (lv' := [(2, .int 1), (0, .ref a0), (1, .ref h0)]) hx hb de_A_perform_39 rfl hl (by decide) rfl (fun ls hl => ?_)
  refine lv_iconst (v := 0) hx hb de_A_perform_40 (by decide) ?_
  refine bc_ti (y := nI 0) nI_0.symm ?_
  refine lv_istore_n (lv' := [(3, .int (nI 0)), (2, .int 1), (0, .ref a0), (1, .ref h0)]) hx hb de_A_perform_41 rfl hl (by decide) rfl (fun ls hl => ?_)
  refine bc_loop (fun k_42 H locs ls => ∃ (rd : Nat) (mv : Int32) (S1 : bc_F) (C1 : bc_F) (W1 : bc_F) (B1 : bc_F) (D1 : bc_F) (x1 : Int32) (g1 : bc_G), lv_has ls 5 [(3, .int (nI rd)), (2, .int mv), (0, .ref a0), (1, .ref h0)] ∧ va_P (dC, dI) classes [(a0, .inr (0, [.ref s1, .ref s2, .ref s3, .ref s4, .ref s5, .int x1])), (s1, .inl (cI, 240, .inl S1)), (s2, .inl (cI, 240, .inl C1)), (s3, .inl (cZ, 40, .inl W1)), (s4, .inl (cI, 6, .inl B1)), (s5, .inl (cI, 6, .inl D1)), (h0, .inr (1, [.ref q1, .ref q2, .ref q3, .ref q4, .int (nI n)])), (q1, .inl (cI, 40, .inl K)), (q2, .inl (cI, 40, .inl O)), (q3, .inl (cI, 40, .inl T)), (q4, .inl (cI, 40, .inl Z))] H ∧ va_D A [(a0, .inr (0, [.ref s1, .ref s2, .ref s3, .ref s4, .ref s5, .int x1])), (s1, .inl (cI, 240, .inl S1)), (s2, .inl (cI, 240, .inl C1)), (s3, .inl (cZ, 40, .inl W1)), (s4, .inl (cI, 6, .inl B1)), (s5, .inl (cI, 6, .inl D1)), (h0, .inr (1, [.ref q1, .ref q2, .ref q3, .ref q4, .int (nI n)])), (q1, .inl (cI, 40, .inl K)), (q2, .inl (cI, 40, .inl O)), (q3, .inl (cI, 40, .inl T)), (q4, .inl (cI, 40, .inl Z))] ∧ va_S A s.heap H locs ∧ k_42 = 300 - rd ∧ (bc_en S1 C1 g1) ∧ (bc_IC n K O T Z g1 W1) ∧ (mv = 0 → ∀ j, j < n → W1 j = 0) ∧ (¬ mv = 0 → bc_pot n g1 + bc_nw n W1 + rd ≤ 280)) ?_ ?_
  · rintro k_42 H locs ls ⟨rd, mv, S1, C1, W1, B1, D1, x1, g1, hl, hP, hD, hS, hk_42, hen1, hIC, hz, hp⟩ ih_42
    refine lv_iload_n hx hb de_A_perform_42 rfl (lv_at hl 1 rfl) ?_
    refine lv_if_eq (tgt := 106) hx hb de_A_perform_43 (by decide) (fun hc_43 => ?_) (fun hc_43 => ?_)
    · have hmv : mv = 0 := hc_43
      exact bc_vret F hr hlocks ((S1, C1, W1, B1, D1, x1)) ⟨⟨g1, hen1, bc_IC_end hIC (hz hmv)⟩, fun j hj => bc_dec0 (fun c9 => hz hmv j (hIC.2.2.2 j hj c9).1)⟩ hP hD hS de_A_perform_106
    · refine lv_iload_n hx hb de_A_perform_46 rfl (lv_at hl 0 rfl) ?_
      refine lv_sipush (v := 281) hx hb de_A_perform_47 (by decide) ?_
      refine lv_icmp_ge (tgt := 106) hx hb de_A_perform_50 (by decide) (fun hc_50 => ?_) (fun hc_50 => ?_)
      · have hmv : mv = 0 := by
          by_cases z : mv = 0
          · exact z
          · exfalso
            have h1 := hp z
            have h2 := bc_ge (b := 281) (by omega) (by omega) hc_50
            omega
        exact bc_vret F hr hlocks ((S1, C1, W1, B1, D1, x1)) ⟨⟨g1, hen1, bc_IC_end hIC (hz hmv)⟩, fun j hj => bc_dec0 (fun c9 => hz hmv j (hIC.2.2.2 j hj c9).1)⟩ hP hD hS de_A_perform_106
      · refine lv_iconst (v := 0) hx hb de_A_perform_53 (by decide) ?_
        refine lv_istore_n (lv' := [(2, .int 0), (3, .int (nI rd)), (0, .ref a0), (1, .ref h0)]) hx hb de_A_perform_54 rfl hl (by decide) rfl (fun ls hl => ?_)
        refine lv_iconst (v := 0) hx hb de_A_perform_55 (by decide) ?_
        refine bc_ti (y := nI 0) nI_0.symm ?_
        refine lv_istore (lv' := [(4, .int (nI 0)), (2, .int 0), (3, .int (nI rd)), (0, .ref a0), (1, .ref h0)]) hx hb de_A_perform_56 hl (by decide) rfl (fun ls hl => ?_)
        refine bc_loop (fun k_58 H locs ls => ∃ (i : Nat) (mv2 : Int32) (S2 : bc_F) (C2 : bc_F) (W2 : bc_F) (B2 : bc_F) (D2 : bc_F) (x2 : Int32) (g2 : bc_G), lv_has ls 5 [(4, .int (nI i)), (2, .int mv2), (3, .int (nI rd)), (0, .ref a0), (1, .ref h0)] ∧ va_P (dC, dI) classes [(a0, .inr (0, [.ref s1, .ref s2, .ref s3, .ref s4, .ref s5, .int x2])), (s1, .inl (cI, 240, .inl S2)), (s2, .inl (cI, 240, .inl C2)), (s3, .inl (cZ, 40, .inl W2)), (s4, .inl (cI, 6, .inl B2)), (s5, .inl (cI, 6, .inl D2)), (h0, .inr (1, [.ref q1, .ref q2, .ref q3, .ref q4, .int (nI n)])), (q1, .inl (cI, 40, .inl K)), (q2, .inl (cI, 40, .inl O)), (q3, .inl (cI, 40, .inl T)), (q4, .inl (cI, 40, .inl Z))] H ∧ va_D A [(a0, .inr (0, [.ref s1, .ref s2, .ref s3, .ref s4, .ref s5, .int x2])), (s1, .inl (cI, 240, .inl S2)), (s2, .inl (cI, 240, .inl C2)), (s3, .inl (cZ, 40, .inl W2)), (s4, .inl (cI, 6, .inl B2)), (s5, .inl (cI, 6, .inl D2)), (h0, .inr (1, [.ref q1, .ref q2, .ref q3, .ref q4, .int (nI n)])), (q1, .inl (cI, 40, .inl K)), (q2, .inl (cI, 40, .inl O)), (q3, .inl (cI, 40, .inl T)), (q4, .inl (cI, 40, .inl Z))] ∧ va_S A s.heap H locs ∧ k_58 = n - i ∧ (i ≤ n) ∧ (bc_en S2 C2 g2) ∧ (bc_IC n K O T Z g2 W2) ∧ (mv2 = 0 → ∀ j, j < i → j < n → W2 j = 0) ∧ (bc_pot n g2 + bc_nw n W2 ≤ bc_pot n g1 + bc_nw n W1) ∧ (¬ mv2 = 0 → bc_pot n g2 + bc_nw n W2 < bc_pot n g1 + bc_nw n W1)) ?_ ?_
        · rintro k_58 H locs ls ⟨i, mv2, S2, C2, W2, B2, D2, x2, g2, hl, hP, hD, hS, hk_58, hi, hen2, hIC2, hz2, hq2, hp2⟩ ih_58
          refine lv_iload hx hb de_A_perform_58 (lv_at hl 0 rfl) ?_
          refine lv_aload_n hx hb de_A_perform_60 rfl (lv_at hl 4 rfl) ?_
          refine va_getN (D := (dC, dI)) (ci := 1) (v := .int (nI n)) (C := rc_C) (T := fc_C) (N := 5) hx hb htw wi_C hown hK hP 6 rfl rfl 4 (by decide) (va_Nw.use rfl (hN _ nm_14)) (fun _ h9 => h9) rfl de_A_perform_61 ?_
          refine lv_icmp_ge (tgt := 100) hx hb de_A_perform_64 (by decide) (fun hc_64 => ?_) (fun hc_64 => ?_)
          · have heq : i = n := by have := bc_ge (by omega) (by omega) hc_64; omega
            have hz2 : mv2 = 0 → ∀ j, j < n → W2 j = 0 := fun z j hj => hz2 z j (by omega) hj
            refine lv_iinc (k := 2) (v := nI (rd + 1)) (lv' := [(3, .int (nI (rd + 1))), (4, .int (nI i)), (2, .int mv2), (0, .ref a0), (1, .ref h0)]) hx hb de_A_perform_100 hl rfl (bc_inc _) (by decide) rfl (fun ls hl => ?_)
            refine lv_goto (tgt := 42) hx hb de_A_perform_103 (by decide) ?_
            exact ih_42 _ _ _ _ (by have := hp hc_43; omega) ⟨(rd + 1), mv2, S2, C2, W2, B2, D2, x2, g2, lv_sub hl [0, 2, 3, 4] rfl, hP, hD, hS, rfl, hen2, hIC2, hz2, fun z => by have := hp hc_43; have := hp2 z; omega⟩
          · have hlt : i < n := bc_lt (by omega) (by omega) hc_64
            refine lv_aload_n hx hb de_A_perform_67 rfl (lv_at hl 3 rfl) ?_
            refine va_get (D := (dC, dI)) (ci := 0) (v := .ref s3) (C := rc_A) (T := fc_A) (N := 6) hx hb htw wi_A hown hK hP 0 rfl rfl 2 (by decide) (htw _ wm_47) (fun _ h9 => h9) rfl de_A_perform_68 ?_
            refine lv_iload hx hb de_A_perform_71 (lv_at hl 0 rfl) ?_
            refine bc_zld (j := i) hx hb hK hP 3 1 rfl rfl (by omega) (by decide) de_A_perform_73 ?_
            refine lv_if_eq (tgt := 94) hx hb de_A_perform_74 (by decide) (fun hc_74 => ?_) (fun hc_74 => ?_)
            · refine lv_iinc (k := 0) (v := nI (i + 1)) (lv' := [(4, .int (nI (i + 1))), (2, .int mv2), (3, .int (nI rd)), (0, .ref a0), (1, .ref h0)]) hx hb de_A_perform_94 hl rfl (bc_inc _) (by decide) rfl (fun ls hl => ?_)
              refine lv_goto (tgt := 58) hx hb de_A_perform_97 (by decide) ?_
              exact ih_58 _ _ _ _ (by omega) ⟨(i + 1), mv2, S2, C2, W2, B2, D2, x2, g2, lv_sub hl [0, 1, 2, 3, 4] rfl, hP, hD, hS, rfl, (by omega), hen2, hIC2, fun z => bc_zs (hz2 z) hc_74, hq2, hp2⟩
            · obtain ⟨-, rr, hrr⟩ := hIC2.2.2.2 i (by omega) hc_74
              refine lv_aload_n hx hb de_A_perform_77 rfl (lv_at hl 3 rfl) ?_
              refine va_get (D := (dC, dI)) (ci := 0) (v := .ref s3) (C := rc_A) (T := fc_A) (N := 6) hx hb htw wi_A hown hK hP 0 rfl rfl 2 (by decide) (htw _ wm_47) (fun _ h9 => h9) rfl de_A_perform_78 ?_
              refine lv_iload hx hb de_A_perform_81 (lv_at hl 0 rfl) ?_
              refine lv_iconst (v := 0) hx hb de_A_perform_83 (by decide) ?_
              refine bc_zst (j := i) hx hb hK hP hD hS 3 1 rfl rfl (by decide) (by omega) (by decide) de_A_perform_84 (fun H locs hP hD hS => ?_)
              have hP : va_P (dC, dI) classes [(a0, .inr (0, [.ref s1, .ref s2, .ref s3, .ref s4, .ref s5, .int x2])), (s1, .inl (cI, 240, .inl S2)), (s2, .inl (cI, 240, .inl C2)), (s3, .inl (cZ, 40, .inl (upd W2 i 0))), (s4, .inl (cI, 6, .inl B2)), (s5, .inl (cI, 6, .inl D2)), (h0, .inr (1, [.ref q1, .ref q2, .ref q3, .ref q4, .int (nI n)])), (q1, .inl (cI, 40, .inl K)), (q2, .inl (cI, 40, .inl O)), (q3, .inl (cI, 40, .inl T)), (q4, .inl (cI, 40, .inl Z))] H := hP
              have hD : va_D A [(a0, .inr (0, [.ref s1, .ref s2, .ref s3, .ref s4, .ref s5, .int x2])), (s1, .inl (cI, 240, .inl S2)), (s2, .inl (cI, 240, .inl C2)), (s3, .inl (cZ, 40, .inl (upd W2 i 0))), (s4, .inl (cI, 6, .inl B2)), (s5, .inl (cI, 6, .inl D2)), (h0, .inr (1, [.ref q1, .ref q2, .ref q3, .ref q4, .int (nI n)])), (q1, .inl (cI, 40, .inl K)), (q2, .inl (cI, 40, .inl O)), (q3, .inl (cI, 40, .inl T)), (q4, .inl (cI, 40, .inl Z))] := hD
              refine lv_iconst (v := 1) hx hb de_A_perform_85 (by decide) ?_
              refine lv_istore_n (lv' := [(2, .int 1), (4, .int (nI i)), (3, .int (nI rd)), (0, .ref a0), (1, .ref h0)]) hx hb de_A_perform_86 rfl hl (by decide) rfl (fun ls hl => ?_)
              refine lv_aload_n hx hb de_A_perform_87 rfl (lv_at hl 3 rfl) ?_
              refine lv_aload_n hx hb de_A_perform_88 rfl (lv_at hl 4 rfl) ?_
              refine lv_iload hx hb de_A_perform_89 (lv_at hl 1 rfl) ?_
              refine bc_call_v_v (As := [.ref h0, .int (nI i)]) (rest := []) (wr := []) F (co_A_goOnFrom hn hlt hw hen2 hrr) wm_133 wm_3 wm_131 wm_132 wm_595 0 rfl rfl pd_A_goOnFrom rfl rfl ⟨Nat.le_of_ble_eq_true rfl, Nat.le_of_ble_eq_true rfl⟩ hP hD hS hA [0, 1, 2, 3, 4, 5, 6, 7, 8, 9, 10] [] rfl rfl rfl rfl (by decide) rfl hl.1 rfl (Nat.le_of_ble_eq_true rfl) de_A_perform_91 ⟨Nat.le_of_ble_eq_true rfl, Nat.le_of_ble_eq_true rfl⟩ (fun u_91 H locs hw_91 hP hD hS => ?_)
              obtain ⟨S3, C3, W3, B3, D3, x3⟩ := u_91
              dsimp only at hw_91
              obtain ⟨g3, hen3, hrun3⟩ := hw_91
              have hIC3 := bc_IC_step hw hlt hIC2 hrr hc_74 hrun3
              have hP : va_P (dC, dI) classes [(a0, .inr (0, [.ref s1, .ref s2, .ref s3, .ref s4, .ref s5, .int x3])), (s1, .inl (cI, 240, .inl S3)), (s2, .inl (cI, 240, .inl C3)), (s3, .inl (cZ, 40, .inl W3)), (s4, .inl (cI, 6, .inl B3)), (s5, .inl (cI, 6, .inl D3)), (h0, .inr (1, [.ref q1, .ref q2, .ref q3, .ref q4, .int (nI n)])), (q1, .inl (cI, 40, .inl K)), (q2, .inl (cI, 40, .inl O)), (q3, .inl (cI, 40, .inl T)), (q4, .inl (cI, 40, .inl Z))] H := hP.sub [0, 1, 2, 3, 4, 5, 6, 7, 8, 9, 10] rfl
              have hD : va_D A [(a0, .inr (0, [.ref s1, .ref s2, .ref s3, .ref s4, .ref s5, .int x3])), (s1, .inl (cI, 240, .inl S3)), (s2, .inl (cI, 240, .inl C3)), (s3, .inl (cZ, 40, .inl W3)), (s4, .inl (cI, 6, .inl B3)), (s5, .inl (cI, 6, .inl D3)), (h0, .inr (1, [.ref q1, .ref q2, .ref q3, .ref q4, .int (nI n)])), (q1, .inl (cI, 40, .inl K)), (q2, .inl (cI, 40, .inl O)), (q3, .inl (cI, 40, .inl T)), (q4, .inl (cI, 40, .inl Z))] := hD.sub [0, 1, 2, 3, 4, 5, 6, 7, 8, 9, 10] (by decide) rfl
              refine lv_iinc (k := 1) (v := nI (i + 1)) (lv' := [(4, .int (nI (i + 1))), (2, .int 1), (3, .int (nI rd)), (0, .ref a0), (1, .ref h0)]) hx hb de_A_perform_94 hl rfl (bc_inc _) (by decide) rfl (fun ls hl => ?_)
              refine lv_goto (tgt := 58) hx hb de_A_perform_97 (by decide) ?_
              exact ih_58 _ _ _ _ (by omega) ⟨(i + 1), 1, S3, C3, W3, B3, D3, x3, g3, lv_sub hl [0, 1, 2, 3, 4] rfl, hP, hD, hS, rfl, (by omega), hen3, hIC3.1, fun z => absurd z (by decide), by have := hIC3.2; omega, fun _ => by have := hIC3.2; omega⟩
        · exact ⟨_, 0, 0, S1, C1, W1, B1, D1, x1, g1, lv_sub hl [0, 1, 2, 3, 4] rfl, hP, hD, hS, rfl, Nat.zero_le _, hen1, hIC, fun _ j hj => absurd hj (Nat.not_lt_zero j), Nat.le_refl _, fun z => absurd rfl z⟩
  · exact ⟨_, 0, 1, S1, C1, W1, u_21, u_29, res, _, lv_sub hl [0, 1, 2, 3] rfl, hP, hD, hS, rfl, hen1, bc_IC_0 hW hwr1 hn, fun z => absurd z (by decide), fun _ => bc_pot_0 hW hwr1 hn⟩
end
section
/-! decode rows, by program -/
theorem de_W_init_0 : decode by_W_init 0 = .ok (.aload_n 0, 1) := by decide +kernel
theorem de_W_init_1 : decode by_W_init 1 = .ok (.invokespecial 3, 3) := by decide +kernel
theorem de_W_init_4 : decode by_W_init 4 = .ok (.aload_n 0, 1) := by decide +kernel
theorem de_W_init_5 : decode by_W_init 5 = .ok (.bipush 40, 2) := by decide +kernel
theorem de_W_init_7 : decode by_W_init 7 = .ok (.newarray .boolean, 2) := by decide +kernel
theorem de_W_init_9 : decode by_W_init 9 = .ok (.putfield 9, 3) := by decide +kernel
theorem de_W_init_12 : decode by_W_init 12 = .ok (.aload_n 0, 1) := by decide +kernel
theorem de_W_init_13 : decode by_W_init 13 = .ok (.bipush 40, 2) := by decide +kernel
theorem de_W_init_15 : decode by_W_init 15 = .ok (.newarray .int, 2) := by decide +kernel
theorem de_W_init_17 : decode by_W_init 17 = .ok (.putfield 15, 3) := by decide +kernel
theorem de_W_init_20 : decode by_W_init 20 = .ok (.aload_n 0, 1) := by decide +kernel
theorem de_W_init_21 : decode by_W_init 21 = .ok (.bipush 41, 2) := by decide +kernel
theorem de_W_init_23 : decode by_W_init 23 = .ok (.newarray .int, 2) := by decide +kernel
theorem de_W_init_25 : decode by_W_init 25 = .ok (.putfield 19, 3) := by decide +kernel
theorem de_W_init_28 : decode by_W_init 28 = .ok (.return_, 1) := by decide +kernel
theorem de_W_perform_0 : decode by_W_perform 0 = .ok (.aload_n 3, 1) := by decide +kernel
theorem de_W_perform_1 : decode by_W_perform 1 = .ok (.aload_n 1, 1) := by decide +kernel
theorem de_W_perform_2 : decode by_W_perform 2 = .ok (.invokevirtual 22, 3) := by decide +kernel
theorem de_W_perform_5 : decode by_W_perform 5 = .ok (.aload_n 1, 1) := by decide +kernel
theorem de_W_perform_6 : decode by_W_perform 6 = .ok (.aload_n 2, 1) := by decide +kernel
theorem de_W_perform_7 : decode by_W_perform 7 = .ok (.aload_n 3, 1) := by decide +kernel
theorem de_W_perform_8 : decode by_W_perform 8 = .ok (.invokestatic 28, 3) := by decide +kernel
theorem de_W_perform_11 : decode by_W_perform 11 = .ok (.aload_n 3, 1) := by decide +kernel
theorem de_W_perform_12 : decode by_W_perform 12 = .ok (.invokestatic 32, 3) := by decide +kernel
theorem de_W_perform_15 : decode by_W_perform 15 = .ok (.aload_n 0, 1) := by decide +kernel
theorem de_W_perform_16 : decode by_W_perform 16 = .ok (.aload_n 3, 1) := by decide +kernel
theorem de_W_perform_17 : decode by_W_perform 17 = .ok (.invokevirtual 35, 3) := by decide +kernel
theorem de_W_perform_20 : decode by_W_perform 20 = .ok (.aload_n 0, 1) := by decide +kernel
theorem de_W_perform_21 : decode by_W_perform 21 = .ok (.aload_n 3, 1) := by decide +kernel
theorem de_W_perform_22 : decode by_W_perform 22 = .ok (.invokevirtual 38, 3) := by decide +kernel
theorem de_W_perform_25 : decode by_W_perform 25 = .ok (.aload_n 0, 1) := by decide +kernel
theorem de_W_perform_26 : decode by_W_perform 26 = .ok (.aload_n 3, 1) := by decide +kernel
theorem de_W_perform_27 : decode by_W_perform 27 = .ok (.invokevirtual 41, 3) := by decide +kernel
theorem de_W_perform_30 : decode by_W_perform 30 = .ok (.return_, 1) := by decide +kernel
theorem de_W_fold_0 : decode by_W_fold 0 = .ok (.iconst 0, 1) := by decide +kernel
theorem de_W_fold_1 : decode by_W_fold 1 = .ok (.istore_n 3, 1) := by decide +kernel
theorem de_W_fold_2 : decode by_W_fold 2 = .ok (.iload_n 3, 1) := by decide +kernel
theorem de_W_fold_3 : decode by_W_fold 3 = .ok (.aload_n 0, 1) := by decide +kernel
theorem de_W_fold_4 : decode by_W_fold 4 = .ok (.getfield 44, 3) := by decide +kernel
theorem de_W_fold_7 : decode by_W_fold 7 = .ok (.if_icmp .ge 91, 3) := by decide +kernel
theorem de_W_fold_10 : decode by_W_fold 10 = .ok (.aload_n 1, 1) := by decide +kernel
theorem de_W_fold_11 : decode by_W_fold 11 = .ok (.iload_n 3, 1) := by decide +kernel
theorem de_W_fold_12 : decode by_W_fold 12 = .ok (.invokevirtual 48, 3) := by decide +kernel
theorem de_W_fold_15 : decode by_W_fold 15 = .ok (.ifCond .ne 6, 3) := by decide +kernel
theorem de_W_fold_18 : decode by_W_fold 18 = .ok (.goto 74, 3) := by decide +kernel
theorem de_W_fold_21 : decode by_W_fold 21 = .ok (.aload_n 0, 1) := by decide +kernel
theorem de_W_fold_22 : decode by_W_fold 22 = .ok (.iload_n 3, 1) := by decide +kernel
theorem de_W_fold_23 : decode by_W_fold 23 = .ok (.invokevirtual 54, 3) := by decide +kernel
theorem de_W_fold_26 : decode by_W_fold 26 = .ok (.ifCond .eq 32, 3) := by decide +kernel
theorem de_W_fold_29 : decode by_W_fold 29 = .ok (.aload_n 1, 1) := by decide +kernel
theorem de_W_fold_30 : decode by_W_fold 30 = .ok (.aload_n 0, 1) := by decide +kernel
theorem de_W_fold_31 : decode by_W_fold 31 = .ok (.iload_n 3, 1) := by decide +kernel
theorem de_W_fold_32 : decode by_W_fold 32 = .ok (.invokevirtual 57, 3) := by decide +kernel
theorem de_W_fold_35 : decode by_W_fold 35 = .ok (.ifCond .eq 23, 3) := by decide +kernel
theorem de_W_fold_38 : decode by_W_fold 38 = .ok (.aload_n 2, 1) := by decide +kernel
theorem de_W_fold_39 : decode by_W_fold 39 = .ok (.iload_n 3, 1) := by decide +kernel
theorem de_W_fold_40 : decode by_W_fold 40 = .ok (.iconst 0, 1) := by decide +kernel
theorem de_W_fold_41 : decode by_W_fold 41 = .ok (.aload_n 0, 1) := by decide +kernel
theorem de_W_fold_42 : decode by_W_fold 42 = .ok (.getfield 61, 3) := by decide +kernel
theorem de_W_fold_45 : decode by_W_fold 45 = .ok (.iload_n 3, 1) := by decide +kernel
theorem de_W_fold_46 : decode by_W_fold 46 = .ok (.iaload, 1) := by decide +kernel
theorem de_W_fold_47 : decode by_W_fold 47 = .ok (.aload_n 1, 1) := by decide +kernel
theorem de_W_fold_48 : decode by_W_fold 48 = .ok (.getfield 64, 3) := by decide +kernel
theorem de_W_fold_51 : decode by_W_fold 51 = .ok (.iconst 0, 1) := by decide +kernel
theorem de_W_fold_52 : decode by_W_fold 52 = .ok (.invokevirtual 67, 3) := by decide +kernel
theorem de_W_fold_55 : decode by_W_fold 55 = .ok (.goto 37, 3) := by decide +kernel
theorem de_W_fold_58 : decode by_W_fold 58 = .ok (.aload_n 0, 1) := by decide +kernel
theorem de_W_fold_59 : decode by_W_fold 59 = .ok (.getfield 71, 3) := by decide +kernel
theorem de_W_fold_62 : decode by_W_fold 62 = .ok (.iload_n 3, 1) := by decide +kernel
theorem de_W_fold_63 : decode by_W_fold 63 = .ok (.iaload, 1) := by decide +kernel
theorem de_W_fold_64 : decode by_W_fold 64 = .ok (.iconst 5, 1) := by decide +kernel
theorem de_W_fold_65 : decode by_W_fold 65 = .ok (.if_icmp .ne 27, 3) := by decide +kernel
theorem de_W_fold_68 : decode by_W_fold 68 = .ok (.aload_n 1, 1) := by decide +kernel
theorem de_W_fold_69 : decode by_W_fold 69 = .ok (.aload_n 0, 1) := by decide +kernel
theorem de_W_fold_70 : decode by_W_fold 70 = .ok (.iload_n 3, 1) := by decide +kernel
theorem de_W_fold_71 : decode by_W_fold 71 = .ok (.invokevirtual 74, 3) := by decide +kernel
theorem de_W_fold_74 : decode by_W_fold 74 = .ok (.ifCond .eq 18, 3) := by decide +kernel
theorem de_W_fold_77 : decode by_W_fold 77 = .ok (.aload_n 2, 1) := by decide +kernel
theorem de_W_fold_78 : decode by_W_fold 78 = .ok (.iload_n 3, 1) := by decide +kernel
theorem de_W_fold_79 : decode by_W_fold 79 = .ok (.bipush 6, 2) := by decide +kernel
theorem de_W_fold_81 : decode by_W_fold 81 = .ok (.iconst 0, 1) := by decide +kernel
theorem de_W_fold_82 : decode by_W_fold 82 = .ok (.aload_n 1, 1) := by decide +kernel
theorem de_W_fold_83 : decode by_W_fold 83 = .ok (.aload_n 0, 1) := by decide +kernel
theorem de_W_fold_84 : decode by_W_fold 84 = .ok (.iload_n 3, 1) := by decide +kernel
theorem de_W_fold_85 : decode by_W_fold 85 = .ok (.invokevirtual 77, 3) := by decide +kernel
theorem de_W_fold_88 : decode by_W_fold 88 = .ok (.iconst 0, 1) := by decide +kernel
theorem de_W_fold_89 : decode by_W_fold 89 = .ok (.invokevirtual 67, 3) := by decide +kernel
theorem de_W_fold_92 : decode by_W_fold 92 = .ok (.iinc 3 1, 3) := by decide +kernel
theorem de_W_fold_95 : decode by_W_fold 95 = .ok (.goto (-93), 3) := by decide +kernel
theorem de_W_fold_98 : decode by_W_fold 98 = .ok (.return_, 1) := by decide +kernel
theorem de_W_thread_0 : decode by_W_thread 0 = .ok (.iconst 0, 1) := by decide +kernel
theorem de_W_thread_1 : decode by_W_thread 1 = .ok (.istore_n 1, 1) := by decide +kernel
theorem de_W_thread_2 : decode by_W_thread 2 = .ok (.iload_n 1, 1) := by decide +kernel
theorem de_W_thread_3 : decode by_W_thread 3 = .ok (.aload_n 0, 1) := by decide +kernel
theorem de_W_thread_4 : decode by_W_thread 4 = .ok (.getfield 44, 3) := by decide +kernel
theorem de_W_thread_7 : decode by_W_thread 7 = .ok (.if_icmp .ge 32, 3) := by decide +kernel
theorem de_W_thread_10 : decode by_W_thread 10 = .ok (.aload_n 0, 1) := by decide +kernel
theorem de_W_thread_11 : decode by_W_thread 11 = .ok (.iload_n 1, 1) := by decide +kernel
theorem de_W_thread_12 : decode by_W_thread 12 = .ok (.invokevirtual 81, 3) := by decide +kernel
theorem de_W_thread_15 : decode by_W_thread 15 = .ok (.ifCond .eq 18, 3) := by decide +kernel
theorem de_W_thread_18 : decode by_W_thread 18 = .ok (.aload_n 0, 1) := by decide +kernel
theorem de_W_thread_19 : decode by_W_thread 19 = .ok (.getfield 84, 3) := by decide +kernel
theorem de_W_thread_22 : decode by_W_thread 22 = .ok (.iload_n 1, 1) := by decide +kernel
theorem de_W_thread_23 : decode by_W_thread 23 = .ok (.aload_n 0, 1) := by decide +kernel
theorem de_W_thread_24 : decode by_W_thread 24 = .ok (.aload_n 0, 1) := by decide +kernel
theorem de_W_thread_25 : decode by_W_thread 25 = .ok (.iload_n 1, 1) := by decide +kernel
theorem de_W_thread_26 : decode by_W_thread 26 = .ok (.invokevirtual 87, 3) := by decide +kernel
theorem de_W_thread_29 : decode by_W_thread 29 = .ok (.invokestatic 91, 3) := by decide +kernel
theorem de_W_thread_32 : decode by_W_thread 32 = .ok (.iastore, 1) := by decide +kernel
theorem de_W_thread_33 : decode by_W_thread 33 = .ok (.iinc 1 1, 3) := by decide +kernel
theorem de_W_thread_36 : decode by_W_thread 36 = .ok (.goto (-34), 3) := by decide +kernel
theorem de_W_thread_39 : decode by_W_thread 39 = .ok (.return_, 1) := by decide +kernel
theorem de_W_endOfChain_0 : decode by_W_endOfChain 0 = .ok (.iload_n 1, 1) := by decide +kernel
theorem de_W_endOfChain_1 : decode by_W_endOfChain 1 = .ok (.istore_n 2, 1) := by decide +kernel
theorem de_W_endOfChain_2 : decode by_W_endOfChain 2 = .ok (.iconst 0, 1) := by decide +kernel
theorem de_W_endOfChain_3 : decode by_W_endOfChain 3 = .ok (.istore_n 3, 1) := by decide +kernel
theorem de_W_endOfChain_4 : decode by_W_endOfChain 4 = .ok (.iload_n 3, 1) := by decide +kernel
theorem de_W_endOfChain_5 : decode by_W_endOfChain 5 = .ok (.aload_n 0, 1) := by decide +kernel
theorem de_W_endOfChain_6 : decode by_W_endOfChain 6 = .ok (.getfield 44, 3) := by decide +kernel
theorem de_W_endOfChain_9 : decode by_W_endOfChain 9 = .ok (.if_icmp .gt 36, 3) := by decide +kernel
theorem de_W_endOfChain_12 : decode by_W_endOfChain 12 = .ok (.iload_n 2, 1) := by decide +kernel
theorem de_W_endOfChain_13 : decode by_W_endOfChain 13 = .ok (.aload_n 0, 1) := by decide +kernel
theorem de_W_endOfChain_14 : decode by_W_endOfChain 14 = .ok (.getfield 44, 3) := by decide +kernel
theorem de_W_endOfChain_17 : decode by_W_endOfChain 17 = .ok (.if_icmp .ge 14, 3) := by decide +kernel
theorem de_W_endOfChain_20 : decode by_W_endOfChain 20 = .ok (.aload_n 0, 1) := by decide +kernel
theorem de_W_endOfChain_21 : decode by_W_endOfChain 21 = .ok (.getfield 71, 3) := by decide +kernel
theorem de_W_endOfChain_24 : decode by_W_endOfChain 24 = .ok (.iload_n 2, 1) := by decide +kernel
theorem de_W_endOfChain_25 : decode by_W_endOfChain 25 = .ok (.iaload, 1) := by decide +kernel
theorem de_W_endOfChain_26 : decode by_W_endOfChain 26 = .ok (.bipush 6, 2) := by decide +kernel
theorem de_W_endOfChain_28 : decode by_W_endOfChain 28 = .ok (.if_icmp .eq 5, 3) := by decide +kernel
theorem de_W_endOfChain_31 : decode by_W_endOfChain 31 = .ok (.iload_n 2, 1) := by decide +kernel
theorem de_W_endOfChain_32 : decode by_W_endOfChain 32 = .ok (.ireturn, 1) := by decide +kernel
theorem de_W_endOfChain_33 : decode by_W_endOfChain 33 = .ok (.aload_n 0, 1) := by decide +kernel
theorem de_W_endOfChain_34 : decode by_W_endOfChain 34 = .ok (.iload_n 2, 1) := by decide +kernel
theorem de_W_endOfChain_35 : decode by_W_endOfChain 35 = .ok (.invokevirtual 87, 3) := by decide +kernel
theorem de_W_endOfChain_38 : decode by_W_endOfChain 38 = .ok (.istore_n 2, 1) := by decide +kernel
theorem de_W_endOfChain_39 : decode by_W_endOfChain 39 = .ok (.iinc 3 1, 3) := by decide +kernel
theorem de_W_endOfChain_42 : decode by_W_endOfChain 42 = .ok (.goto (-38), 3) := by decide +kernel
theorem de_W_endOfChain_45 : decode by_W_endOfChain 45 = .ok (.iload_n 1, 1) := by decide +kernel
theorem de_W_endOfChain_46 : decode by_W_endOfChain 46 = .ok (.ireturn, 1) := by decide +kernel
theorem de_W_keepWhatCanBeComeTo_0 : decode by_W_keepWhatCanBeComeTo 0 = .ok (.iconst 0, 1) := by decide +kernel
theorem de_W_keepWhatCanBeComeTo_1 : decode by_W_keepWhatCanBeComeTo 1 = .ok (.istore_n 2, 1) := by decide +kernel
theorem de_W_keepWhatCanBeComeTo_2 : decode by_W_keepWhatCanBeComeTo 2 = .ok (.iload_n 2, 1) := by decide +kernel
theorem de_W_keepWhatCanBeComeTo_3 : decode by_W_keepWhatCanBeComeTo 3 = .ok (.aload_n 1, 1) := by decide +kernel
theorem de_W_keepWhatCanBeComeTo_4 : decode by_W_keepWhatCanBeComeTo 4 = .ok (.getfield 44, 3) := by decide +kernel
theorem de_W_keepWhatCanBeComeTo_7 : decode by_W_keepWhatCanBeComeTo 7 = .ok (.if_icmp .ge 16, 3) := by decide +kernel
theorem de_W_keepWhatCanBeComeTo_10 : decode by_W_keepWhatCanBeComeTo 10 = .ok (.aload_n 0, 1) := by decide +kernel
theorem de_W_keepWhatCanBeComeTo_11 : decode by_W_keepWhatCanBeComeTo 11 = .ok (.getfield 9, 3) := by decide +kernel
theorem de_W_keepWhatCanBeComeTo_14 : decode by_W_keepWhatCanBeComeTo 14 = .ok (.iload_n 2, 1) := by decide +kernel
theorem de_W_keepWhatCanBeComeTo_15 : decode by_W_keepWhatCanBeComeTo 15 = .ok (.iconst 0, 1) := by decide +kernel
theorem de_W_keepWhatCanBeComeTo_16 : decode by_W_keepWhatCanBeComeTo 16 = .ok (.bastore, 1) := by decide +kernel
theorem de_W_keepWhatCanBeComeTo_17 : decode by_W_keepWhatCanBeComeTo 17 = .ok (.iinc 2 1, 3) := by decide +kernel
theorem de_W_keepWhatCanBeComeTo_20 : decode by_W_keepWhatCanBeComeTo 20 = .ok (.goto (-18), 3) := by decide +kernel
theorem de_W_keepWhatCanBeComeTo_23 : decode by_W_keepWhatCanBeComeTo 23 = .ok (.aload_n 0, 1) := by decide +kernel
theorem de_W_keepWhatCanBeComeTo_24 : decode by_W_keepWhatCanBeComeTo 24 = .ok (.iconst 0, 1) := by decide +kernel
theorem de_W_keepWhatCanBeComeTo_25 : decode by_W_keepWhatCanBeComeTo 25 = .ok (.putfield 94, 3) := by decide +kernel
theorem de_W_keepWhatCanBeComeTo_28 : decode by_W_keepWhatCanBeComeTo 28 = .ok (.aload_n 0, 1) := by decide +kernel
theorem de_W_keepWhatCanBeComeTo_29 : decode by_W_keepWhatCanBeComeTo 29 = .ok (.aload_n 1, 1) := by decide +kernel
theorem de_W_keepWhatCanBeComeTo_30 : decode by_W_keepWhatCanBeComeTo 30 = .ok (.iconst 0, 1) := by decide +kernel
theorem de_W_keepWhatCanBeComeTo_31 : decode by_W_keepWhatCanBeComeTo 31 = .ok (.invokevirtual 97, 3) := by decide +kernel
theorem de_W_keepWhatCanBeComeTo_34 : decode by_W_keepWhatCanBeComeTo 34 = .ok (.iconst 0, 1) := by decide +kernel
theorem de_W_keepWhatCanBeComeTo_35 : decode by_W_keepWhatCanBeComeTo 35 = .ok (.istore_n 2, 1) := by decide +kernel
theorem de_W_keepWhatCanBeComeTo_36 : decode by_W_keepWhatCanBeComeTo 36 = .ok (.iload_n 2, 1) := by decide +kernel
theorem de_W_keepWhatCanBeComeTo_37 : decode by_W_keepWhatCanBeComeTo 37 = .ok (.aload_n 0, 1) := by decide +kernel
theorem de_W_keepWhatCanBeComeTo_38 : decode by_W_keepWhatCanBeComeTo 38 = .ok (.getfield 94, 3) := by decide +kernel
theorem de_W_keepWhatCanBeComeTo_41 : decode by_W_keepWhatCanBeComeTo 41 = .ok (.if_icmp .ge 72, 3) := by decide +kernel
theorem de_W_keepWhatCanBeComeTo_44 : decode by_W_keepWhatCanBeComeTo 44 = .ok (.iload_n 2, 1) := by decide +kernel
theorem de_W_keepWhatCanBeComeTo_45 : decode by_W_keepWhatCanBeComeTo 45 = .ok (.aload_n 1, 1) := by decide +kernel
theorem de_W_keepWhatCanBeComeTo_46 : decode by_W_keepWhatCanBeComeTo 46 = .ok (.getfield 44, 3) := by decide +kernel
theorem de_W_keepWhatCanBeComeTo_49 : decode by_W_keepWhatCanBeComeTo 49 = .ok (.if_icmp .ge 64, 3) := by decide +kernel
theorem de_W_keepWhatCanBeComeTo_52 : decode by_W_keepWhatCanBeComeTo 52 = .ok (.aload_n 0, 1) := by decide +kernel
theorem de_W_keepWhatCanBeComeTo_53 : decode by_W_keepWhatCanBeComeTo 53 = .ok (.getfield 15, 3) := by decide +kernel
theorem de_W_keepWhatCanBeComeTo_56 : decode by_W_keepWhatCanBeComeTo 56 = .ok (.iload_n 2, 1) := by decide +kernel
theorem de_W_keepWhatCanBeComeTo_57 : decode by_W_keepWhatCanBeComeTo 57 = .ok (.iaload, 1) := by decide +kernel
theorem de_W_keepWhatCanBeComeTo_58 : decode by_W_keepWhatCanBeComeTo 58 = .ok (.istore_n 3, 1) := by decide +kernel
theorem de_W_keepWhatCanBeComeTo_59 : decode by_W_keepWhatCanBeComeTo 59 = .ok (.aload_n 1, 1) := by decide +kernel
theorem de_W_keepWhatCanBeComeTo_60 : decode by_W_keepWhatCanBeComeTo 60 = .ok (.iload_n 3, 1) := by decide +kernel
theorem de_W_keepWhatCanBeComeTo_61 : decode by_W_keepWhatCanBeComeTo 61 = .ok (.invokevirtual 81, 3) := by decide +kernel
theorem de_W_keepWhatCanBeComeTo_64 : decode by_W_keepWhatCanBeComeTo 64 = .ok (.ifCond .eq 13, 3) := by decide +kernel
theorem de_W_keepWhatCanBeComeTo_67 : decode by_W_keepWhatCanBeComeTo 67 = .ok (.aload_n 0, 1) := by decide +kernel
theorem de_W_keepWhatCanBeComeTo_68 : decode by_W_keepWhatCanBeComeTo 68 = .ok (.aload_n 1, 1) := by decide +kernel
theorem de_W_keepWhatCanBeComeTo_69 : decode by_W_keepWhatCanBeComeTo 69 = .ok (.aload_n 1, 1) := by decide +kernel
theorem de_W_keepWhatCanBeComeTo_70 : decode by_W_keepWhatCanBeComeTo 70 = .ok (.iload_n 3, 1) := by decide +kernel
theorem de_W_keepWhatCanBeComeTo_71 : decode by_W_keepWhatCanBeComeTo 71 = .ok (.invokevirtual 87, 3) := by decide +kernel
theorem de_W_keepWhatCanBeComeTo_74 : decode by_W_keepWhatCanBeComeTo 74 = .ok (.invokevirtual 97, 3) := by decide +kernel
theorem de_W_keepWhatCanBeComeTo_77 : decode by_W_keepWhatCanBeComeTo 77 = .ok (.aload_n 1, 1) := by decide +kernel
theorem de_W_keepWhatCanBeComeTo_78 : decode by_W_keepWhatCanBeComeTo 78 = .ok (.getfield 71, 3) := by decide +kernel
theorem de_W_keepWhatCanBeComeTo_81 : decode by_W_keepWhatCanBeComeTo 81 = .ok (.iload_n 3, 1) := by decide +kernel
theorem de_W_keepWhatCanBeComeTo_82 : decode by_W_keepWhatCanBeComeTo 82 = .ok (.iaload, 1) := by decide +kernel
theorem de_W_keepWhatCanBeComeTo_83 : decode by_W_keepWhatCanBeComeTo 83 = .ok (.bipush 6, 2) := by decide +kernel
theorem de_W_keepWhatCanBeComeTo_85 : decode by_W_keepWhatCanBeComeTo 85 = .ok (.if_icmp .eq 22, 3) := by decide +kernel
theorem de_W_keepWhatCanBeComeTo_88 : decode by_W_keepWhatCanBeComeTo 88 = .ok (.aload_n 1, 1) := by decide +kernel
theorem de_W_keepWhatCanBeComeTo_89 : decode by_W_keepWhatCanBeComeTo 89 = .ok (.getfield 71, 3) := by decide +kernel
theorem de_W_keepWhatCanBeComeTo_92 : decode by_W_keepWhatCanBeComeTo 92 = .ok (.iload_n 3, 1) := by decide +kernel
theorem de_W_keepWhatCanBeComeTo_93 : decode by_W_keepWhatCanBeComeTo 93 = .ok (.iaload, 1) := by decide +kernel
theorem de_W_keepWhatCanBeComeTo_94 : decode by_W_keepWhatCanBeComeTo 94 = .ok (.bipush 7, 2) := by decide +kernel
theorem de_W_keepWhatCanBeComeTo_96 : decode by_W_keepWhatCanBeComeTo 96 = .ok (.if_icmp .eq 11, 3) := by decide +kernel
theorem de_W_keepWhatCanBeComeTo_99 : decode by_W_keepWhatCanBeComeTo 99 = .ok (.aload_n 0, 1) := by decide +kernel
theorem de_W_keepWhatCanBeComeTo_100 : decode by_W_keepWhatCanBeComeTo 100 = .ok (.aload_n 1, 1) := by decide +kernel
theorem de_W_keepWhatCanBeComeTo_101 : decode by_W_keepWhatCanBeComeTo 101 = .ok (.iload_n 3, 1) := by decide +kernel
theorem de_W_keepWhatCanBeComeTo_102 : decode by_W_keepWhatCanBeComeTo 102 = .ok (.iconst 1, 1) := by decide +kernel
theorem de_W_keepWhatCanBeComeTo_103 : decode by_W_keepWhatCanBeComeTo 103 = .ok (.iadd, 1) := by decide +kernel
theorem de_W_keepWhatCanBeComeTo_104 : decode by_W_keepWhatCanBeComeTo 104 = .ok (.invokevirtual 97, 3) := by decide +kernel
theorem de_W_keepWhatCanBeComeTo_107 : decode by_W_keepWhatCanBeComeTo 107 = .ok (.iinc 2 1, 3) := by decide +kernel
theorem de_W_keepWhatCanBeComeTo_110 : decode by_W_keepWhatCanBeComeTo 110 = .ok (.goto (-74), 3) := by decide +kernel
theorem de_W_keepWhatCanBeComeTo_113 : decode by_W_keepWhatCanBeComeTo 113 = .ok (.return_, 1) := by decide +kernel
theorem de_W_keep_0 : decode by_W_keep 0 = .ok (.iload_n 2, 1) := by decide +kernel
theorem de_W_keep_1 : decode by_W_keep 1 = .ok (.aload_n 1, 1) := by decide +kernel
theorem de_W_keep_2 : decode by_W_keep 2 = .ok (.getfield 44, 3) := by decide +kernel
theorem de_W_keep_5 : decode by_W_keep 5 = .ok (.if_icmp .ge 39, 3) := by decide +kernel
theorem de_W_keep_8 : decode by_W_keep 8 = .ok (.aload_n 0, 1) := by decide +kernel
theorem de_W_keep_9 : decode by_W_keep 9 = .ok (.getfield 9, 3) := by decide +kernel
theorem de_W_keep_12 : decode by_W_keep 12 = .ok (.iload_n 2, 1) := by decide +kernel
theorem de_W_keep_13 : decode by_W_keep 13 = .ok (.baload, 1) := by decide +kernel
theorem de_W_keep_14 : decode by_W_keep 14 = .ok (.ifCond .ne 30, 3) := by decide +kernel
theorem de_W_keep_17 : decode by_W_keep 17 = .ok (.aload_n 0, 1) := by decide +kernel
theorem de_W_keep_18 : decode by_W_keep 18 = .ok (.getfield 9, 3) := by decide +kernel
theorem de_W_keep_21 : decode by_W_keep 21 = .ok (.iload_n 2, 1) := by decide +kernel
theorem de_W_keep_22 : decode by_W_keep 22 = .ok (.iconst 1, 1) := by decide +kernel
theorem de_W_keep_23 : decode by_W_keep 23 = .ok (.bastore, 1) := by decide +kernel
theorem de_W_keep_24 : decode by_W_keep 24 = .ok (.aload_n 0, 1) := by decide +kernel
theorem de_W_keep_25 : decode by_W_keep 25 = .ok (.getfield 15, 3) := by decide +kernel
theorem de_W_keep_28 : decode by_W_keep 28 = .ok (.aload_n 0, 1) := by decide +kernel
theorem de_W_keep_29 : decode by_W_keep 29 = .ok (.getfield 94, 3) := by decide +kernel
theorem de_W_keep_32 : decode by_W_keep 32 = .ok (.iload_n 2, 1) := by decide +kernel
theorem de_W_keep_33 : decode by_W_keep 33 = .ok (.iastore, 1) := by decide +kernel
theorem de_W_keep_34 : decode by_W_keep 34 = .ok (.aload_n 0, 1) := by decide +kernel
theorem de_W_keep_35 : decode by_W_keep 35 = .ok (.dup, 1) := by decide +kernel
theorem de_W_keep_36 : decode by_W_keep 36 = .ok (.getfield 94, 3) := by decide +kernel
theorem de_W_keep_39 : decode by_W_keep 39 = .ok (.iconst 1, 1) := by decide +kernel
theorem de_W_keep_40 : decode by_W_keep 40 = .ok (.iadd, 1) := by decide +kernel
theorem de_W_keep_41 : decode by_W_keep 41 = .ok (.putfield 94, 3) := by decide +kernel
theorem de_W_keep_44 : decode by_W_keep 44 = .ok (.return_, 1) := by decide +kernel
theorem de_W_dropJumpsToTheNext_0 : decode by_W_dropJumpsToTheNext 0 = .ok (.aload_n 1, 1) := by decide +kernel
theorem de_W_dropJumpsToTheNext_1 : decode by_W_dropJumpsToTheNext 1 = .ok (.getfield 44, 3) := by decide +kernel
theorem de_W_dropJumpsToTheNext_4 : decode by_W_dropJumpsToTheNext 4 = .ok (.istore_n 2, 1) := by decide +kernel
theorem de_W_dropJumpsToTheNext_5 : decode by_W_dropJumpsToTheNext 5 = .ok (.aload_n 1, 1) := by decide +kernel
theorem de_W_dropJumpsToTheNext_6 : decode by_W_dropJumpsToTheNext 6 = .ok (.getfield 44, 3) := by decide +kernel
theorem de_W_dropJumpsToTheNext_9 : decode by_W_dropJumpsToTheNext 9 = .ok (.iconst 1, 1) := by decide +kernel
theorem de_W_dropJumpsToTheNext_10 : decode by_W_dropJumpsToTheNext 10 = .ok (.isub, 1) := by decide +kernel
theorem de_W_dropJumpsToTheNext_11 : decode by_W_dropJumpsToTheNext 11 = .ok (.istore_n 3, 1) := by decide +kernel
theorem de_W_dropJumpsToTheNext_12 : decode by_W_dropJumpsToTheNext 12 = .ok (.iload_n 3, 1) := by decide +kernel
theorem de_W_dropJumpsToTheNext_13 : decode by_W_dropJumpsToTheNext 13 = .ok (.ifCond .lt 59, 3) := by decide +kernel
theorem de_W_dropJumpsToTheNext_16 : decode by_W_dropJumpsToTheNext 16 = .ok (.aload_n 0, 1) := by decide +kernel
theorem de_W_dropJumpsToTheNext_17 : decode by_W_dropJumpsToTheNext 17 = .ok (.getfield 9, 3) := by decide +kernel
theorem de_W_dropJumpsToTheNext_20 : decode by_W_dropJumpsToTheNext 20 = .ok (.iload_n 3, 1) := by decide +kernel
theorem de_W_dropJumpsToTheNext_21 : decode by_W_dropJumpsToTheNext 21 = .ok (.baload, 1) := by decide +kernel
theorem de_W_dropJumpsToTheNext_22 : decode by_W_dropJumpsToTheNext 22 = .ok (.ifCond .eq 33, 3) := by decide +kernel
theorem de_W_dropJumpsToTheNext_25 : decode by_W_dropJumpsToTheNext 25 = .ok (.aload_n 1, 1) := by decide +kernel
theorem de_W_dropJumpsToTheNext_26 : decode by_W_dropJumpsToTheNext 26 = .ok (.getfield 71, 3) := by decide +kernel
theorem de_W_dropJumpsToTheNext_29 : decode by_W_dropJumpsToTheNext 29 = .ok (.iload_n 3, 1) := by decide +kernel
theorem de_W_dropJumpsToTheNext_30 : decode by_W_dropJumpsToTheNext 30 = .ok (.iaload, 1) := by decide +kernel
theorem de_W_dropJumpsToTheNext_31 : decode by_W_dropJumpsToTheNext 31 = .ok (.bipush 6, 2) := by decide +kernel
theorem de_W_dropJumpsToTheNext_33 : decode by_W_dropJumpsToTheNext 33 = .ok (.if_icmp .ne 22, 3) := by decide +kernel
theorem de_W_dropJumpsToTheNext_36 : decode by_W_dropJumpsToTheNext 36 = .ok (.aload_n 1, 1) := by decide +kernel
theorem de_W_dropJumpsToTheNext_37 : decode by_W_dropJumpsToTheNext 37 = .ok (.iload_n 3, 1) := by decide +kernel
theorem de_W_dropJumpsToTheNext_38 : decode by_W_dropJumpsToTheNext 38 = .ok (.invokevirtual 87, 3) := by decide +kernel
theorem de_W_dropJumpsToTheNext_41 : decode by_W_dropJumpsToTheNext 41 = .ok (.iload_n 2, 1) := by decide +kernel
theorem de_W_dropJumpsToTheNext_42 : decode by_W_dropJumpsToTheNext 42 = .ok (.if_icmp .ne 13, 3) := by decide +kernel
theorem de_W_dropJumpsToTheNext_45 : decode by_W_dropJumpsToTheNext 45 = .ok (.aload_n 0, 1) := by decide +kernel
theorem de_W_dropJumpsToTheNext_46 : decode by_W_dropJumpsToTheNext 46 = .ok (.getfield 9, 3) := by decide +kernel
theorem de_W_dropJumpsToTheNext_49 : decode by_W_dropJumpsToTheNext 49 = .ok (.iload_n 3, 1) := by decide +kernel
theorem de_W_dropJumpsToTheNext_50 : decode by_W_dropJumpsToTheNext 50 = .ok (.iconst 0, 1) := by decide +kernel
theorem de_W_dropJumpsToTheNext_51 : decode by_W_dropJumpsToTheNext 51 = .ok (.bastore, 1) := by decide +kernel
theorem de_W_dropJumpsToTheNext_52 : decode by_W_dropJumpsToTheNext 52 = .ok (.goto 14, 3) := by decide +kernel
theorem de_W_dropJumpsToTheNext_55 : decode by_W_dropJumpsToTheNext 55 = .ok (.aload_n 0, 1) := by decide +kernel
theorem de_W_dropJumpsToTheNext_56 : decode by_W_dropJumpsToTheNext 56 = .ok (.getfield 9, 3) := by decide +kernel
theorem de_W_dropJumpsToTheNext_59 : decode by_W_dropJumpsToTheNext 59 = .ok (.iload_n 3, 1) := by decide +kernel
theorem de_W_dropJumpsToTheNext_60 : decode by_W_dropJumpsToTheNext 60 = .ok (.baload, 1) := by decide +kernel
theorem de_W_dropJumpsToTheNext_61 : decode by_W_dropJumpsToTheNext 61 = .ok (.ifCond .eq 5, 3) := by decide +kernel
theorem de_W_dropJumpsToTheNext_64 : decode by_W_dropJumpsToTheNext 64 = .ok (.iload_n 3, 1) := by decide +kernel
theorem de_W_dropJumpsToTheNext_65 : decode by_W_dropJumpsToTheNext 65 = .ok (.istore_n 2, 1) := by decide +kernel
theorem de_W_dropJumpsToTheNext_66 : decode by_W_dropJumpsToTheNext 66 = .ok (.iinc 3 (-1), 3) := by decide +kernel
theorem de_W_dropJumpsToTheNext_69 : decode by_W_dropJumpsToTheNext 69 = .ok (.goto (-57), 3) := by decide +kernel
theorem de_W_dropJumpsToTheNext_72 : decode by_W_dropJumpsToTheNext 72 = .ok (.return_, 1) := by decide +kernel
theorem de_W_numberAnew_0 : decode by_W_numberAnew 0 = .ok (.iconst 0, 1) := by decide +kernel
theorem de_W_numberAnew_1 : decode by_W_numberAnew 1 = .ok (.istore_n 2, 1) := by decide +kernel
theorem de_W_numberAnew_2 : decode by_W_numberAnew 2 = .ok (.iconst 0, 1) := by decide +kernel
theorem de_W_numberAnew_3 : decode by_W_numberAnew 3 = .ok (.istore_n 3, 1) := by decide +kernel
theorem de_W_numberAnew_4 : decode by_W_numberAnew 4 = .ok (.iload_n 3, 1) := by decide +kernel
theorem de_W_numberAnew_5 : decode by_W_numberAnew 5 = .ok (.aload_n 1, 1) := by decide +kernel
theorem de_W_numberAnew_6 : decode by_W_numberAnew 6 = .ok (.getfield 44, 3) := by decide +kernel
theorem de_W_numberAnew_9 : decode by_W_numberAnew 9 = .ok (.if_icmp .ge 28, 3) := by decide +kernel
theorem de_W_numberAnew_12 : decode by_W_numberAnew 12 = .ok (.aload_n 0, 1) := by decide +kernel
theorem de_W_numberAnew_13 : decode by_W_numberAnew 13 = .ok (.getfield 19, 3) := by decide +kernel
theorem de_W_numberAnew_16 : decode by_W_numberAnew 16 = .ok (.iload_n 3, 1) := by decide +kernel
theorem de_W_numberAnew_17 : decode by_W_numberAnew 17 = .ok (.iload_n 2, 1) := by decide +kernel
theorem de_W_numberAnew_18 : decode by_W_numberAnew 18 = .ok (.iastore, 1) := by decide +kernel
theorem de_W_numberAnew_19 : decode by_W_numberAnew 19 = .ok (.aload_n 0, 1) := by decide +kernel
theorem de_W_numberAnew_20 : decode by_W_numberAnew 20 = .ok (.getfield 9, 3) := by decide +kernel
theorem de_W_numberAnew_23 : decode by_W_numberAnew 23 = .ok (.iload_n 3, 1) := by decide +kernel
theorem de_W_numberAnew_24 : decode by_W_numberAnew 24 = .ok (.baload, 1) := by decide +kernel
theorem de_W_numberAnew_25 : decode by_W_numberAnew 25 = .ok (.ifCond .eq 6, 3) := by decide +kernel
theorem de_W_numberAnew_28 : decode by_W_numberAnew 28 = .ok (.iinc 2 1, 3) := by decide +kernel
theorem de_W_numberAnew_31 : decode by_W_numberAnew 31 = .ok (.iinc 3 1, 3) := by decide +kernel
theorem de_W_numberAnew_34 : decode by_W_numberAnew 34 = .ok (.goto (-30), 3) := by decide +kernel
theorem de_W_numberAnew_37 : decode by_W_numberAnew 37 = .ok (.aload_n 0, 1) := by decide +kernel
theorem de_W_numberAnew_38 : decode by_W_numberAnew 38 = .ok (.getfield 19, 3) := by decide +kernel
theorem de_W_numberAnew_41 : decode by_W_numberAnew 41 = .ok (.aload_n 1, 1) := by decide +kernel
theorem de_W_numberAnew_42 : decode by_W_numberAnew 42 = .ok (.getfield 44, 3) := by decide +kernel
theorem de_W_numberAnew_45 : decode by_W_numberAnew 45 = .ok (.iload_n 2, 1) := by decide +kernel
theorem de_W_numberAnew_46 : decode by_W_numberAnew 46 = .ok (.iastore, 1) := by decide +kernel
theorem de_W_numberAnew_47 : decode by_W_numberAnew 47 = .ok (.iconst 0, 1) := by decide +kernel
theorem de_W_numberAnew_48 : decode by_W_numberAnew 48 = .ok (.istore_n 3, 1) := by decide +kernel
theorem de_W_numberAnew_49 : decode by_W_numberAnew 49 = .ok (.iload_n 3, 1) := by decide +kernel
theorem de_W_numberAnew_50 : decode by_W_numberAnew 50 = .ok (.aload_n 1, 1) := by decide +kernel
theorem de_W_numberAnew_51 : decode by_W_numberAnew 51 = .ok (.getfield 44, 3) := by decide +kernel
theorem de_W_numberAnew_54 : decode by_W_numberAnew 54 = .ok (.if_icmp .ge 24, 3) := by decide +kernel
theorem de_W_numberAnew_57 : decode by_W_numberAnew 57 = .ok (.aload_n 0, 1) := by decide +kernel
theorem de_W_numberAnew_58 : decode by_W_numberAnew 58 = .ok (.getfield 9, 3) := by decide +kernel
theorem de_W_numberAnew_61 : decode by_W_numberAnew 61 = .ok (.iload_n 3, 1) := by decide +kernel
theorem de_W_numberAnew_62 : decode by_W_numberAnew 62 = .ok (.baload, 1) := by decide +kernel
theorem de_W_numberAnew_63 : decode by_W_numberAnew 63 = .ok (.ifCond .eq 9, 3) := by decide +kernel
theorem de_W_numberAnew_66 : decode by_W_numberAnew 66 = .ok (.aload_n 0, 1) := by decide +kernel
theorem de_W_numberAnew_67 : decode by_W_numberAnew 67 = .ok (.aload_n 1, 1) := by decide +kernel
theorem de_W_numberAnew_68 : decode by_W_numberAnew 68 = .ok (.iload_n 3, 1) := by decide +kernel
theorem de_W_numberAnew_69 : decode by_W_numberAnew 69 = .ok (.invokevirtual 101, 3) := by decide +kernel
theorem de_W_numberAnew_72 : decode by_W_numberAnew 72 = .ok (.iinc 3 1, 3) := by decide +kernel
theorem de_W_numberAnew_75 : decode by_W_numberAnew 75 = .ok (.goto (-26), 3) := by decide +kernel
theorem de_W_numberAnew_78 : decode by_W_numberAnew 78 = .ok (.aload_n 1, 1) := by decide +kernel
theorem de_W_numberAnew_79 : decode by_W_numberAnew 79 = .ok (.iload_n 2, 1) := by decide +kernel
theorem de_W_numberAnew_80 : decode by_W_numberAnew 80 = .ok (.putfield 44, 3) := by decide +kernel
theorem de_W_numberAnew_83 : decode by_W_numberAnew 83 = .ok (.return_, 1) := by decide +kernel
theorem de_W_moveToNewNumber_0 : decode by_W_moveToNewNumber 0 = .ok (.aload_n 1, 1) := by decide +kernel
theorem de_W_moveToNewNumber_1 : decode by_W_moveToNewNumber 1 = .ok (.iload_n 2, 1) := by decide +kernel
theorem de_W_moveToNewNumber_2 : decode by_W_moveToNewNumber 2 = .ok (.invokevirtual 81, 3) := by decide +kernel
theorem de_W_moveToNewNumber_5 : decode by_W_moveToNewNumber 5 = .ok (.ifCond .eq 16, 3) := by decide +kernel
theorem de_W_moveToNewNumber_8 : decode by_W_moveToNewNumber 8 = .ok (.aload_n 0, 1) := by decide +kernel
theorem de_W_moveToNewNumber_9 : decode by_W_moveToNewNumber 9 = .ok (.getfield 19, 3) := by decide +kernel
theorem de_W_moveToNewNumber_12 : decode by_W_moveToNewNumber 12 = .ok (.aload_n 1, 1) := by decide +kernel
theorem de_W_moveToNewNumber_13 : decode by_W_moveToNewNumber 13 = .ok (.iload_n 2, 1) := by decide +kernel
theorem de_W_moveToNewNumber_14 : decode by_W_moveToNewNumber 14 = .ok (.invokevirtual 87, 3) := by decide +kernel
theorem de_W_moveToNewNumber_17 : decode by_W_moveToNewNumber 17 = .ok (.iaload, 1) := by decide +kernel
theorem de_W_moveToNewNumber_18 : decode by_W_moveToNewNumber 18 = .ok (.goto 9, 3) := by decide +kernel
theorem de_W_moveToNewNumber_21 : decode by_W_moveToNewNumber 21 = .ok (.aload_n 1, 1) := by decide +kernel
theorem de_W_moveToNewNumber_22 : decode by_W_moveToNewNumber 22 = .ok (.getfield 84, 3) := by decide +kernel
theorem de_W_moveToNewNumber_25 : decode by_W_moveToNewNumber 25 = .ok (.iload_n 2, 1) := by decide +kernel
theorem de_W_moveToNewNumber_26 : decode by_W_moveToNewNumber 26 = .ok (.iaload, 1) := by decide +kernel
theorem de_W_moveToNewNumber_27 : decode by_W_moveToNewNumber 27 = .ok (.istore_n 3, 1) := by decide +kernel
theorem de_W_moveToNewNumber_28 : decode by_W_moveToNewNumber 28 = .ok (.aload_n 1, 1) := by decide +kernel
theorem de_W_moveToNewNumber_29 : decode by_W_moveToNewNumber 29 = .ok (.aload_n 0, 1) := by decide +kernel
theorem de_W_moveToNewNumber_30 : decode by_W_moveToNewNumber 30 = .ok (.getfield 19, 3) := by decide +kernel
theorem de_W_moveToNewNumber_33 : decode by_W_moveToNewNumber 33 = .ok (.iload_n 2, 1) := by decide +kernel
theorem de_W_moveToNewNumber_34 : decode by_W_moveToNewNumber 34 = .ok (.iaload, 1) := by decide +kernel
theorem de_W_moveToNewNumber_35 : decode by_W_moveToNewNumber 35 = .ok (.aload_n 1, 1) := by decide +kernel
theorem de_W_moveToNewNumber_36 : decode by_W_moveToNewNumber 36 = .ok (.getfield 71, 3) := by decide +kernel
theorem de_W_moveToNewNumber_39 : decode by_W_moveToNewNumber 39 = .ok (.iload_n 2, 1) := by decide +kernel
theorem de_W_moveToNewNumber_40 : decode by_W_moveToNewNumber 40 = .ok (.iaload, 1) := by decide +kernel
theorem de_W_moveToNewNumber_41 : decode by_W_moveToNewNumber 41 = .ok (.aload_n 1, 1) := by decide +kernel
theorem de_W_moveToNewNumber_42 : decode by_W_moveToNewNumber 42 = .ok (.getfield 61, 3) := by decide +kernel
theorem de_W_moveToNewNumber_45 : decode by_W_moveToNewNumber 45 = .ok (.iload_n 2, 1) := by decide +kernel
theorem de_W_moveToNewNumber_46 : decode by_W_moveToNewNumber 46 = .ok (.iaload, 1) := by decide +kernel
theorem de_W_moveToNewNumber_47 : decode by_W_moveToNewNumber 47 = .ok (.iload_n 3, 1) := by decide +kernel
theorem de_W_moveToNewNumber_48 : decode by_W_moveToNewNumber 48 = .ok (.aload_n 1, 1) := by decide +kernel
theorem de_W_moveToNewNumber_49 : decode by_W_moveToNewNumber 49 = .ok (.getfield 104, 3) := by decide +kernel
theorem de_W_moveToNewNumber_52 : decode by_W_moveToNewNumber 52 = .ok (.iload_n 2, 1) := by decide +kernel
theorem de_W_moveToNewNumber_53 : decode by_W_moveToNewNumber 53 = .ok (.iaload, 1) := by decide +kernel
theorem de_W_moveToNewNumber_54 : decode by_W_moveToNewNumber 54 = .ok (.invokevirtual 67, 3) := by decide +kernel
theorem de_W_moveToNewNumber_57 : decode by_W_moveToNewNumber 57 = .ok (.return_, 1) := by decide +kernel
end
section
/-! Rewriting: fold, thread (by program: wip/whole/gen/modW.py) -/
/-- a row that stands for an instruction behind FOLD -/
def bc_Fa (n : Nat) (F : Int32 × Int32 × Int32 × Int32 × Nat) (k o t z : Int32) : Prop := k = F.1 ∧ o = F.2.1 ∧ z = F.2.2.2.1 ∧ (bc_gs F.1 → bc_tr t ∧ bc_tn n t = F.2.2.2.2) ∧ (¬ bc_gs F.1 → t = F.2.2.1)
def bc_FI (n : Nat) (F : Nat → Int32 × Int32 × Int32 × Int32 × Nat) (K O T Z : bc_F) (i : Nat) (K3 O3 T3 Z3 : bc_F) : Prop := (∀ j, j < n → j < i → bc_Fa n (F j) (K3 j) (O3 j) (T3 j) (Z3 j)) ∧ ∀ j, j < n → i ≤ j → K3 j = K j ∧ O3 j = O j ∧ T3 j = T j ∧ Z3 j = Z j
theorem bc_FI_put {n : Nat} {F : Nat → Int32 × Int32 × Int32 × Int32 × Nat} {K O T Z K3 O3 T3 Z3 : bc_F} {i : Nat} {a b d e : Int32} (h : bc_FI n F K O T Z i K3 O3 T3 Z3) (hf : bc_Fa n (F i) a b d e) : bc_FI n F K O T Z (i + 1) (upd K3 i a) (upd O3 i b) (upd T3 i d) (upd Z3 i e) := by
  refine ⟨fun j hj hji => ?_, fun j hj hij => ?_⟩
  · by_cases c : j = i
    · subst c; rw [pk_us, pk_us, pk_us, pk_us]; exact hf
    · rw [pk_un c, pk_un c, pk_un c, pk_un c]; exact h.1 j hj (by omega)
  · have c : j ≠ i := by omega
    rw [pk_un c, pk_un c, pk_un c, pk_un c]; exact h.2 j hj (by omega)
theorem bc_FI_keep {n : Nat} {F : Nat → Int32 × Int32 × Int32 × Int32 × Nat} {K O T Z K3 O3 T3 Z3 : bc_F} {i : Nat} (h : bc_FI n F K O T Z i K3 O3 T3 Z3) (hi : i < n) (hf : bc_Fa n (F i) (K i) (O i) (T i) (Z i)) : bc_FI n F K O T Z (i + 1) K3 O3 T3 Z3 := by
  refine ⟨fun j hj hji => ?_, fun j hj hij => h.2 j hj (by omega)⟩
  by_cases c : j = i
  · subst c
    obtain ⟨e1, e2, e3, e4⟩ := h.2 j hj (Nat.le_refl _)
    rw [e1, e2, e3, e4]; exact hf
  · exact h.1 j hj (by omega)
theorem bc_le4_gs {k : Int32} (h : k ≤ 4) : ¬ bc_gs k := by
  rintro (e | e)
  · rw [e] at h; exact absurd h (by decide)
  · rw [e] at h; exact absurd h (by decide)
theorem bc_7_gs {k : Int32} (h : k = 7) : ¬ bc_gs k := by
  rintro (e | e)
  · rw [h] at e; exact absurd e (by decide)
  · rw [h] at e; exact absurd e (by decide)
theorem bc_wi_gs {k o t z : Int32} (hw : bc_wi k o t z) (h : bc_gs k) : bc_tr t := by
  rcases h with e | e
  · exact bc_wi_6 hw e
  · exact (bc_wi_5 hw e).2
/-- a row that FOLD leaves as it is -/
theorem bc_fa_same {n : Nat} {k o t z : Int32} (hw : bc_wi k o t z) {F : Int32 × Int32 × Int32 × Int32 × Nat} (hF : ((k ≤ 4 ∨ k = 7) ∧ F = (k, o, t, z, 0)) ∨ (¬ (k ≤ 4 ∨ k = 7) ∧ F = (k, o, 0, z, bc_tn n t))) : bc_Fa n F k o t z := by
  rcases hF with ⟨h, e⟩ | ⟨h, e⟩
  · subst e
    refine ⟨rfl, rfl, rfl, fun hg => ?_, fun _ => rfl⟩
    rcases h with h | h
    · exact absurd hg (bc_le4_gs h)
    · exact absurd hg (bc_7_gs h)
  · subst e
    refine ⟨rfl, rfl, rfl, fun hg => ⟨bc_wi_gs hw hg, rfl⟩, fun hg => ?_⟩
    exfalso
    rcases hw with ⟨e, _⟩ | ⟨e, _⟩ | ⟨e, _⟩ | ⟨e, _⟩ | ⟨e, _⟩ | ⟨e, _⟩
    · rw [e] at h; exact h (by decide)
    · rw [e] at h; exact h (by decide)
    · rcases e with e | e | e <;> (rw [e] at h; exact h (by decide))
    · exact hg (Or.inr e)
    · exact hg (Or.inl e)
    · exact h (Or.inr e)
theorem bc_f1_none {n : Nat} {K O T Z : bc_F} {g : bc_G} {i : Nat} (hi : i < n) (hg : g i = none) : ((K i ≤ 4 ∨ K i = 7) ∧ bc_f1 n K O T Z g i = (K i, O i, T i, Z i, 0)) ∨ (¬ (K i ≤ 4 ∨ K i = 7) ∧ bc_f1 n K O T Z g i = (K i, O i, 0, Z i, bc_tn n (T i))) := by
  unfold bc_f1
  rw [if_pos hi, hg]
  by_cases h : K i ≤ 4 ∨ K i = 7
  · exact Or.inl ⟨h, if_pos h⟩
  · exact Or.inr ⟨h, if_neg h⟩
theorem bc_f1_4n {n : Nat} {K O T Z : bc_F} {g : bc_G} {i : Nat} {r : bc_R} (hi : i < n) (hg : g i = some r) (h4 : K i ≤ 4) (hr : bc_rs K T Z i r = none) : bc_f1 n K O T Z g i = (K i, O i, T i, Z i, 0) := by
  unfold bc_f1
  rw [if_pos hi, hg]
  show (if K i ≤ 4 then _ else _) = _
  rw [if_pos h4, hr]
theorem bc_f1_4s {n : Nat} {K O T Z : bc_F} {g : bc_G} {i : Nat} {r : bc_R} {x : Int32} (hi : i < n) (hg : g i = some r) (h4 : K i ≤ 4) (hr : bc_rs K T Z i r = some x) : bc_f1 n K O T Z g i = (0, O i, x, 0, 0) := by
  unfold bc_f1
  rw [if_pos hi, hg]
  show (if K i ≤ 4 then _ else _) = _
  rw [if_pos h4, hr]
theorem bc_f1_5n {n : Nat} {K O T Z : bc_F} {g : bc_G} {i o : Nat} {r : bc_R} (hi : i < n) (hg : g i = some r) (h5 : K i = 5) (eO : O i = nI o) (ho : o < 6) (hr : r o = none) : bc_f1 n K O T Z g i = (K i, O i, 0, Z i, bc_tn n (T i)) := by
  unfold bc_f1
  rw [if_pos hi, hg]
  show (if K i ≤ 4 then _ else _) = _
  rw [if_neg (by rw [h5]; decide), if_pos h5, bc_cl6 eO ho, hr]
theorem bc_f1_5s {n : Nat} {K O T Z : bc_F} {g : bc_G} {i o : Nat} {r : bc_R} {x : Int32} (hi : i < n) (hg : g i = some r) (h5 : K i = 5) (eO : O i = nI o) (ho : o < 6) (hr : r o = some x) : bc_f1 n K O T Z g i = (6, 0, 0, 0, if x = 0 then bc_tn n (T i) else i + 1) := by
  unfold bc_f1
  rw [if_pos hi, hg]
  show (if K i ≤ 4 then _ else _) = _
  rw [if_neg (by rw [h5]; decide), if_pos h5, bc_cl6 eO ho, hr]
theorem bc_f1_o {n : Nat} {K O T Z : bc_F} {g : bc_G} {i : Nat} {r : bc_R} (hi : i < n) (hg : g i = some r) (h4 : ¬ K i ≤ 4) (h5 : ¬ K i = 5) : ((K i ≤ 4 ∨ K i = 7) ∧ bc_f1 n K O T Z g i = (K i, O i, T i, Z i, 0)) ∨ (¬ (K i ≤ 4 ∨ K i = 7) ∧ bc_f1 n K O T Z g i = (K i, O i, 0, Z i, bc_tn n (T i))) := by
  unfold bc_f1
  rw [if_pos hi, hg]
  show (_ ∧ (if K i ≤ 4 then _ else _) = _) ∨ (_ ∧ (if K i ≤ 4 then _ else _) = _)
  rw [if_neg h4, if_neg h5]
  by_cases h7 : K i = 7
  · exact Or.inl ⟨Or.inr h7, if_pos h7⟩
  · exact Or.inr ⟨fun z => z.elim h4 h7, if_neg h7⟩
theorem bc_tn_nI {n w : Nat} (hw : w ≤ n) (hn : n ≤ 40) : bc_tn n (nI w) = w := by
  unfold bc_tn
  rw [nI_clamp (by omega)]
  by_cases h : w < n
  · rw [if_pos h]
  · rw [if_neg h]; omega
theorem bc_ne5 {k : Int32} (h : k ≤ 4) : ¬ k = 5 := by
  intro e
  rw [e] at h
  exact absurd h (by decide)
theorem bc_fa_4s {n : Nat} {K O T Z : bc_F} {g : bc_G} {i : Nat} {r : bc_R} {x : Int32} (hi : i < n) (hg : g i = some r) (h4 : K i ≤ 4) (hr : bc_rs K T Z i r = some x) : bc_Fa n (bc_f1 n K O T Z g i) 0 (bc_p1 0 (O i)) (bc_p2 0 x) (bc_p3 0 0) := by
  rw [bc_f1_4s hi hg h4 hr]
  exact ⟨rfl, if_neg (by decide), if_neg (by decide), fun h => absurd h (bc_le4_gs (show (0 : Int32) ≤ 4 by decide)), fun _ => if_neg (by decide)⟩
theorem bc_fa_5s {n i o tw : Nat} {K O T Z S C : bc_F} {g : bc_G} {rr : bc_R} (hi : i < n) (hn : n ≤ 40) (hg : g i = some rr) (h5 : K i = 5) (eO : O i = nI o) (ho : o < 6) (hrow : ∀ v, v < 6 → S (6 * i + v) = bc_s0 (some rr) v ∧ C (6 * i + v) = bc_c0 (some rr) v) (h2 : S (6 * i + o) = 2) (hq : (C (6 * i + o) = 0 ∧ tw = bc_tn n (T i)) ∨ (¬ C (6 * i + o) = 0 ∧ tw = i + 1)) : bc_Fa n (bc_f1 n K O T Z g i) 6 (bc_p1 6 0) (bc_p2 6 (nI tw)) (bc_p3 6 0) := by
  have hr : rr o = some (bc_c0 (some rr) o) := bc_s0_is2 (by rw [← (hrow o ho).1]; exact h2)
  rw [bc_f1_5s hi hg h5 eO ho hr]
  have htw : tw ≤ n := by
    rcases hq with ⟨_, e⟩ | ⟨_, e⟩
    · rw [e]; exact bc_tn_le _ _
    · omega
  refine ⟨rfl, if_pos (by decide), if_neg (by decide), fun _ => ?_, fun h => absurd (Or.inl rfl) h⟩
  rw [show bc_p2 6 (nI tw) = nI tw from if_neg (by decide)]
  refine ⟨⟨tw, by omega, rfl⟩, ?_⟩
  rw [bc_tn_nI htw hn]
  rw [(hrow o ho).2] at hq
  rcases hq with ⟨c, e⟩ | ⟨c, e⟩
  · rw [e]; exact (if_pos c).symm
  · rw [e]; exact (if_neg c).symm
set_option maxHeartbeats 4000000 in
set_option maxRecDepth 100000 in
/-- FOLD -/
theorem co_W_fold {l : Launch} {dC : Nat → ClassId} {dI : Nat → Nat → Nat} {cI cZ : ClassId} {sz : Nat} {a0 s1 s2 s3 s4 s5 : Nat} {S C Wt SB CB : bc_F} {res : Int32}{h0 q1 q2 q3 q4 n : Nat} {K O T Z : bc_F}{g0 q5 q6 q7 q8 : Nat} {K2 O2 T2 Z2 : bc_F} {g : bc_G} (hn : n ≤ 40) (hw : bc_wf n K O T Z) (hen : bc_en S C g) (hcp : ∀ j, j < n → K2 j = K j ∧ O2 j = O j ∧ T2 j = T j ∧ Z2 j = Z j) : Met l yn_W_fold (Cond.code yn_W_fold by_W_fold 4 none :: wd_all) ({ frames := 2, cells := 0, slots := 0, locals := 47 } : Room) (bc_Pre (dC, dI) classes [(cI, .int), (cZ, .boolean)] [.ref h0, .ref a0, .ref g0] [(h0, .inr (1, [.ref q1, .ref q2, .ref q3, .ref q4, .int (nI n)])), (q1, .inl (cI, 40, .inl K)), (q2, .inl (cI, 40, .inl O)), (q3, .inl (cI, 40, .inl T)), (q4, .inl (cI, 40, .inl Z)), (a0, .inr (0, [.ref s1, .ref s2, .ref s3, .ref s4, .ref s5, .int res])), (s1, .inl (cI, 240, .inl S)), (s2, .inl (cI, 240, .inl C)), (s3, .inl (cZ, 40, .inl Wt)), (s4, .inl (cI, 6, .inl SB)), (s5, .inl (cI, 6, .inl CB)), (g0, .inr (1, [.ref q5, .ref q6, .ref q7, .ref q8, .int (nI n)])), (q5, .inl (cI, 40, .inl K2)), (q6, .inl (cI, 40, .inl O2)), (q7, .inl (cI, 40, .inl T2)), (q8, .inl (cI, 40, .inl Z2))] sz) (va_Qv (fun (u : bc_F × bc_F × bc_F × bc_F × Int32) => ∀ i, i < n → bc_Fa n (bc_f1 n K O T Z g i) (u.1 i) (u.2.1 i) (u.2.2.1 i) (u.2.2.2.1 i)) (fun (u : bc_F × bc_F × bc_F × bc_F × Int32) t => bc_B (dC, dI) classes [(cI, .int), (cZ, .boolean)] (va_A [(h0, .inr (1, [.ref q1, .ref q2, .ref q3, .ref q4, .int (nI n)])), (q1, .inl (cI, 40, .inl K)), (q2, .inl (cI, 40, .inl O)), (q3, .inl (cI, 40, .inl T)), (q4, .inl (cI, 40, .inl Z)), (a0, .inr (0, [.ref s1, .ref s2, .ref s3, .ref s4, .ref s5, .int res])), (s1, .inl (cI, 240, .inl S)), (s2, .inl (cI, 240, .inl C)), (s3, .inl (cZ, 40, .inl Wt)), (s4, .inl (cI, 6, .inl SB)), (s5, .inl (cI, 6, .inl CB)), (g0, .inr (1, [.ref q5, .ref q6, .ref q7, .ref q8, .int (nI n)])), (q5, .inl (cI, 40, .inl K2)), (q6, .inl (cI, 40, .inl O2)), (q7, .inl (cI, 40, .inl T2)), (q8, .inl (cI, 40, .inl Z2))] sz) [(h0, .inr (1, [.ref q1, .ref q2, .ref q3, .ref q4, .int (nI n)])), (q1, .inl (cI, 40, .inl K)), (q2, .inl (cI, 40, .inl O)), (q3, .inl (cI, 40, .inl T)), (q4, .inl (cI, 40, .inl Z)), (a0, .inr (0, [.ref s1, .ref s2, .ref s3, .ref s4, .ref s5, .int u.2.2.2.2])), (s1, .inl (cI, 240, .inl S)), (s2, .inl (cI, 240, .inl C)), (s3, .inl (cZ, 40, .inl Wt)), (s4, .inl (cI, 6, .inl SB)), (s5, .inl (cI, 6, .inl CB)), (g0, .inr (1, [.ref q5, .ref q6, .ref q7, .ref q8, .int (nI n)])), (q5, .inl (cI, 40, .inl u.1)), (q6, .inl (cI, 40, .inl u.2.1)), (q7, .inl (cI, 40, .inl u.2.2.1)), (q8, .inl (cI, 40, .inl u.2.2.2.1))] t) ((va_A [(h0, .inr (1, [.ref q1, .ref q2, .ref q3, .ref q4, .int (nI n)])), (q1, .inl (cI, 40, .inl K)), (q2, .inl (cI, 40, .inl O)), (q3, .inl (cI, 40, .inl T)), (q4, .inl (cI, 40, .inl Z)), (a0, .inr (0, [.ref s1, .ref s2, .ref s3, .ref s4, .ref s5, .int res])), (s1, .inl (cI, 240, .inl S)), (s2, .inl (cI, 240, .inl C)), (s3, .inl (cZ, 40, .inl Wt)), (s4, .inl (cI, 6, .inl SB)), (s5, .inl (cI, 6, .inl CB)), (g0, .inr (1, [.ref q5, .ref q6, .ref q7, .ref q8, .int (nI n)])), (q5, .inl (cI, 40, .inl K2)), (q6, .inl (cI, 40, .inl O2)), (q7, .inl (cI, 40, .inl T2)), (q8, .inl (cI, 40, .inl Z2))] sz))) 0 0 (va_A [(h0, .inr (1, [.ref q1, .ref q2, .ref q3, .ref q4, .int (nI n)])), (q1, .inl (cI, 40, .inl K)), (q2, .inl (cI, 40, .inl O)), (q3, .inl (cI, 40, .inl T)), (q4, .inl (cI, 40, .inl Z)), (a0, .inr (0, [.ref s1, .ref s2, .ref s3, .ref s4, .ref s5, .int res])), (s1, .inl (cI, 240, .inl S)), (s2, .inl (cI, 240, .inl C)), (s3, .inl (cZ, 40, .inl Wt)), (s4, .inl (cI, 6, .inl SB)), (s5, .inl (cI, 6, .inl CB)), (g0, .inr (1, [.ref q5, .ref q6, .ref q7, .ref q8, .int (nI n)])), (q5, .inl (cI, 40, .inl K2)), (q6, .inl (cI, 40, .inl O2)), (q7, .inl (cI, 40, .inl T2)), (q8, .inl (cI, 40, .inl Z2))] sz) := by
  refine bc_met (fun A => va_Qv (fun (u : bc_F × bc_F × bc_F × bc_F × Int32) => ∀ i, i < n → bc_Fa n (bc_f1 n K O T Z g i) (u.1 i) (u.2.1 i) (u.2.2.1 i) (u.2.2.2.1 i)) (fun (u : bc_F × bc_F × bc_F × bc_F × Int32) t => bc_B (dC, dI) classes [(cI, .int), (cZ, .boolean)] A [(h0, .inr (1, [.ref q1, .ref q2, .ref q3, .ref q4, .int (nI n)])), (q1, .inl (cI, 40, .inl K)), (q2, .inl (cI, 40, .inl O)), (q3, .inl (cI, 40, .inl T)), (q4, .inl (cI, 40, .inl Z)), (a0, .inr (0, [.ref s1, .ref s2, .ref s3, .ref s4, .ref s5, .int u.2.2.2.2])), (s1, .inl (cI, 240, .inl S)), (s2, .inl (cI, 240, .inl C)), (s3, .inl (cZ, 40, .inl Wt)), (s4, .inl (cI, 6, .inl SB)), (s5, .inl (cI, 6, .inl CB)), (g0, .inr (1, [.ref q5, .ref q6, .ref q7, .ref q8, .int (nI n)])), (q5, .inl (cI, 40, .inl u.1)), (q6, .inl (cI, 40, .inl u.2.1)), (q7, .inl (cI, 40, .inl u.2.2.1)), (q8, .inl (cI, 40, .inl u.2.2.2.1))] t) A) (by decide) (Nat.le_of_ble_eq_true rfl) ?_
  intro p e s m args below meth c A ls F hr hlocks hin hA hP hD hl hS
  have hx := F.1
  have hb := F.2.1
  have hml := F.2.2.1
  have hown : s.vm.findClass "BranchConstants$Rewriting" = some m.cls := F.2.2.2.1
  have htw := F.2.2.2.2.1
  have hN := F.2.2.2.2.2.1
  have hK := F.2.2.2.2.2.2
  have hl : lv_has ls 4 [(0, .ref h0), (1, .ref a0), (2, .ref g0)] := hl
  refine lv_iconst (v := 0) hx hb de_W_fold_0 (by decide) ?_
  refine bc_ti (y := nI 0) nI_0.symm ?_
  refine lv_istore_n (lv' := [(3, .int (nI 0)), (0, .ref h0), (1, .ref a0), (2, .ref g0)]) hx hb de_W_fold_1 rfl hl (by decide) rfl (fun ls hl => ?_)
  refine bc_loop (fun k_2 H locs ls => ∃ (i : Nat) (K3 : bc_F) (O3 : bc_F) (T3 : bc_F) (Z3 : bc_F) (x3 : Int32), lv_has ls 4 [(3, .int (nI i)), (0, .ref h0), (1, .ref a0), (2, .ref g0)] ∧ va_P (dC, dI) classes [(h0, .inr (1, [.ref q1, .ref q2, .ref q3, .ref q4, .int (nI n)])), (q1, .inl (cI, 40, .inl K)), (q2, .inl (cI, 40, .inl O)), (q3, .inl (cI, 40, .inl T)), (q4, .inl (cI, 40, .inl Z)), (a0, .inr (0, [.ref s1, .ref s2, .ref s3, .ref s4, .ref s5, .int x3])), (s1, .inl (cI, 240, .inl S)), (s2, .inl (cI, 240, .inl C)), (s3, .inl (cZ, 40, .inl Wt)), (s4, .inl (cI, 6, .inl SB)), (s5, .inl (cI, 6, .inl CB)), (g0, .inr (1, [.ref q5, .ref q6, .ref q7, .ref q8, .int (nI n)])), (q5, .inl (cI, 40, .inl K3)), (q6, .inl (cI, 40, .inl O3)), (q7, .inl (cI, 40, .inl T3)), (q8, .inl (cI, 40, .inl Z3))] H ∧ va_D A [(h0, .inr (1, [.ref q1, .ref q2, .ref q3, .ref q4, .int (nI n)])), (q1, .inl (cI, 40, .inl K)), (q2, .inl (cI, 40, .inl O)), (q3, .inl (cI, 40, .inl T)), (q4, .inl (cI, 40, .inl Z)), (a0, .inr (0, [.ref s1, .ref s2, .ref s3, .ref s4, .ref s5, .int x3])), (s1, .inl (cI, 240, .inl S)), (s2, .inl (cI, 240, .inl C)), (s3, .inl (cZ, 40, .inl Wt)), (s4, .inl (cI, 6, .inl SB)), (s5, .inl (cI, 6, .inl CB)), (g0, .inr (1, [.ref q5, .ref q6, .ref q7, .ref q8, .int (nI n)])), (q5, .inl (cI, 40, .inl K3)), (q6, .inl (cI, 40, .inl O3)), (q7, .inl (cI, 40, .inl T3)), (q8, .inl (cI, 40, .inl Z3))] ∧ va_S A s.heap H locs ∧ k_2 = n - i ∧ (i ≤ n) ∧ (bc_FI n (bc_f1 n K O T Z g) K O T Z i K3 O3 T3 Z3)) ?_ ?_
  · rintro k_2 H locs ls ⟨i, K3, O3, T3, Z3, x3, hl, hP, hD, hS, hk_2, hi, hJ⟩ ih_2
    refine lv_iload_n hx hb de_W_fold_2 rfl (lv_at hl 0 rfl) ?_
    refine lv_aload_n hx hb de_W_fold_3 rfl (lv_at hl 1 rfl) ?_
    refine va_getN (D := (dC, dI)) (ci := 1) (v := .int (nI n)) (C := rc_C) (T := fc_C) (N := 5) hx hb htw wi_C hown hK hP 0 rfl rfl 4 (by decide) (va_Nw.use rfl (hN _ nm_15)) (fun _ h9 => h9) rfl de_W_fold_4 ?_
    refine lv_icmp_ge (tgt := 98) hx hb de_W_fold_7 (by decide) (fun hc_7 => ?_) (fun hc_7 => ?_)
    · have heq : i = n := by have := bc_ge (by omega) (by omega) hc_7; omega
      subst heq
      exact bc_vret F hr hlocks ((K3, O3, T3, Z3, x3)) (fun j hj => hJ.1 j hj hj) hP hD hS de_W_fold_98
    · have hlt : i < n := bc_lt (by omega) (by omega) hc_7
      have hi40 : i < 40 := by omega
      refine lv_aload_n hx hb de_W_fold_10 rfl (lv_at hl 2 rfl) ?_
      refine lv_iload_n hx hb de_W_fold_11 rfl (lv_at hl 0 rfl) ?_
      refine bc_call_nv_i (As := [.int (nI i)]) (rest := []) (wr := [(h0, .inr (1, [.ref q1, .ref q2, .ref q3, .ref q4, .int (nI n)])), (q1, .inl (cI, 40, .inl K)), (q2, .inl (cI, 40, .inl O)), (q3, .inl (cI, 40, .inl T)), (q4, .inl (cI, 40, .inl Z)), (g0, .inr (1, [.ref q5, .ref q6, .ref q7, .ref q8, .int (nI n)])), (q5, .inl (cI, 40, .inl K3)), (q6, .inl (cI, 40, .inl O3)), (q7, .inl (cI, 40, .inl T3)), (q8, .inl (cI, 40, .inl Z3))]) F (co_A_isReached hi40) wm_168 wm_3 nm_37 wm_167 wm_606 5 rfl rfl pd_A_isReached rfl rfl ⟨Nat.le_of_ble_eq_true rfl, Nat.le_of_ble_eq_true rfl⟩ hP hD hS hA [5, 6, 7, 8, 9, 10] [0, 1, 2, 3, 4, 11, 12, 13, 14, 15] rfl rfl rfl rfl (by decide) rfl hl.1 rfl (Nat.le_of_ble_eq_true rfl) de_W_fold_12 ⟨Nat.le_of_ble_eq_true rfl, Nat.le_of_ble_eq_true rfl⟩ (fun r_12 u_12 H locs hw_12 hP hD hS => ?_)
      have hP : va_P (dC, dI) classes [(h0, .inr (1, [.ref q1, .ref q2, .ref q3, .ref q4, .int (nI n)])), (q1, .inl (cI, 40, .inl K)), (q2, .inl (cI, 40, .inl O)), (q3, .inl (cI, 40, .inl T)), (q4, .inl (cI, 40, .inl Z)), (a0, .inr (0, [.ref s1, .ref s2, .ref s3, .ref s4, .ref s5, .int x3])), (s1, .inl (cI, 240, .inl S)), (s2, .inl (cI, 240, .inl C)), (s3, .inl (cZ, 40, .inl Wt)), (s4, .inl (cI, 6, .inl SB)), (s5, .inl (cI, 6, .inl CB)), (g0, .inr (1, [.ref q5, .ref q6, .ref q7, .ref q8, .int (nI n)])), (q5, .inl (cI, 40, .inl K3)), (q6, .inl (cI, 40, .inl O3)), (q7, .inl (cI, 40, .inl T3)), (q8, .inl (cI, 40, .inl Z3))] H := hP.sub [0, 1, 2, 3, 4, 10, 11, 12, 13, 14, 15, 5, 6, 7, 8, 9] rfl
      have hD : va_D A [(h0, .inr (1, [.ref q1, .ref q2, .ref q3, .ref q4, .int (nI n)])), (q1, .inl (cI, 40, .inl K)), (q2, .inl (cI, 40, .inl O)), (q3, .inl (cI, 40, .inl T)), (q4, .inl (cI, 40, .inl Z)), (a0, .inr (0, [.ref s1, .ref s2, .ref s3, .ref s4, .ref s5, .int x3])), (s1, .inl (cI, 240, .inl S)), (s2, .inl (cI, 240, .inl C)), (s3, .inl (cZ, 40, .inl Wt)), (s4, .inl (cI, 6, .inl SB)), (s5, .inl (cI, 6, .inl CB)), (g0, .inr (1, [.ref q5, .ref q6, .ref q7, .ref q8, .int (nI n)])), (q5, .inl (cI, 40, .inl K3)), (q6, .inl (cI, 40, .inl O3)), (q7, .inl (cI, 40, .inl T3)), (q8, .inl (cI, 40, .inl Z3))] := hD.sub [0, 1, 2, 3, 4, 10, 11, 12, 13, 14, 15, 5, 6, 7, 8, 9] (by decide) rfl
      rcases hw_12 with ⟨he_12, hv_12⟩ | ⟨he_12, hv_12⟩
      · subst he_12
        refine lv_if_ne (tgt := 21) hx hb de_W_fold_15 (by decide) (fun _ => ?_) (fun hc => absurd hc (by decide))
        obtain ⟨rr, hrr⟩ := bc_s0_n0 (a := g i) (v := 0) (by rw [← (hen i (by omega) 0 (by omega)).1]; exact hv_12)
        have hrow := bc_row hen hi40 hrr
        refine lv_aload_n hx hb de_W_fold_21 rfl (lv_at hl 1 rfl) ?_
        refine lv_iload_n hx hb de_W_fold_22 rfl (lv_at hl 0 rfl) ?_
        refine bc_call_nv_i (As := [.int (nI i)]) (rest := []) (wr := [(a0, .inr (0, [.ref s1, .ref s2, .ref s3, .ref s4, .ref s5, .int x3])), (s1, .inl (cI, 240, .inl S)), (s2, .inl (cI, 240, .inl C)), (s3, .inl (cZ, 40, .inl Wt)), (s4, .inl (cI, 6, .inl SB)), (s5, .inl (cI, 6, .inl CB)), (g0, .inr (1, [.ref q5, .ref q6, .ref q7, .ref q8, .int (nI n)])), (q5, .inl (cI, 40, .inl K3)), (q6, .inl (cI, 40, .inl O3)), (q7, .inl (cI, 40, .inl T3)), (q8, .inl (cI, 40, .inl Z3))]) F (co_C_assigns hi40) wm_138 wm_2 nm_38 wm_137 wm_596 0 rfl rfl pd_C_assigns rfl rfl ⟨Nat.le_of_ble_eq_true rfl, Nat.le_of_ble_eq_true rfl⟩ hP hD hS hA [0, 1, 2, 3, 4] [5, 6, 7, 8, 9, 10, 11, 12, 13, 14, 15] rfl rfl rfl rfl (by decide) rfl hl.1 rfl (Nat.le_of_ble_eq_true rfl) de_W_fold_23 ⟨Nat.le_of_ble_eq_true rfl, Nat.le_of_ble_eq_true rfl⟩ (fun r_23 u_23 H locs hw_23 hP hD hS => ?_)
        have hP : va_P (dC, dI) classes [(h0, .inr (1, [.ref q1, .ref q2, .ref q3, .ref q4, .int (nI n)])), (q1, .inl (cI, 40, .inl K)), (q2, .inl (cI, 40, .inl O)), (q3, .inl (cI, 40, .inl T)), (q4, .inl (cI, 40, .inl Z)), (a0, .inr (0, [.ref s1, .ref s2, .ref s3, .ref s4, .ref s5, .int x3])), (s1, .inl (cI, 240, .inl S)), (s2, .inl (cI, 240, .inl C)), (s3, .inl (cZ, 40, .inl Wt)), (s4, .inl (cI, 6, .inl SB)), (s5, .inl (cI, 6, .inl CB)), (g0, .inr (1, [.ref q5, .ref q6, .ref q7, .ref q8, .int (nI n)])), (q5, .inl (cI, 40, .inl K3)), (q6, .inl (cI, 40, .inl O3)), (q7, .inl (cI, 40, .inl T3)), (q8, .inl (cI, 40, .inl Z3))] H := hP.sub [11, 12, 13, 14, 15, 0, 1, 2, 3, 4, 5, 6, 7, 8, 9, 10] rfl
        have hD : va_D A [(h0, .inr (1, [.ref q1, .ref q2, .ref q3, .ref q4, .int (nI n)])), (q1, .inl (cI, 40, .inl K)), (q2, .inl (cI, 40, .inl O)), (q3, .inl (cI, 40, .inl T)), (q4, .inl (cI, 40, .inl Z)), (a0, .inr (0, [.ref s1, .ref s2, .ref s3, .ref s4, .ref s5, .int x3])), (s1, .inl (cI, 240, .inl S)), (s2, .inl (cI, 240, .inl C)), (s3, .inl (cZ, 40, .inl Wt)), (s4, .inl (cI, 6, .inl SB)), (s5, .inl (cI, 6, .inl CB)), (g0, .inr (1, [.ref q5, .ref q6, .ref q7, .ref q8, .int (nI n)])), (q5, .inl (cI, 40, .inl K3)), (q6, .inl (cI, 40, .inl O3)), (q7, .inl (cI, 40, .inl T3)), (q8, .inl (cI, 40, .inl Z3))] := hD.sub [11, 12, 13, 14, 15, 0, 1, 2, 3, 4, 5, 6, 7, 8, 9, 10] (by decide) rfl
        rcases hw_23 with ⟨he_23, hv_23⟩ | ⟨he_23, hv_23⟩
        · subst he_23
          refine lv_if_eq (tgt := 58) hx hb de_W_fold_26 (by decide) (fun hc => absurd hc (by decide)) (fun _ => ?_)
          refine lv_aload_n hx hb de_W_fold_29 rfl (lv_at hl 2 rfl) ?_
          refine lv_aload_n hx hb de_W_fold_30 rfl (lv_at hl 1 rfl) ?_
          refine lv_iload_n hx hb de_W_fold_31 rfl (lv_at hl 0 rfl) ?_
          refine bc_call_nv_i (As := [.ref h0, .int (nI i)]) (rest := []) (wr := [(g0, .inr (1, [.ref q5, .ref q6, .ref q7, .ref q8, .int (nI n)])), (q5, .inl (cI, 40, .inl K3)), (q6, .inl (cI, 40, .inl O3)), (q7, .inl (cI, 40, .inl T3)), (q8, .inl (cI, 40, .inl Z3))]) F (co_A_hasConstantResult hi40 (hw i hlt) hv_23 hrow) wm_141 wm_3 nm_39 wm_140 wm_597 5 rfl rfl pd_A_hasConstantResult rfl rfl ⟨Nat.le_of_ble_eq_true rfl, Nat.le_of_ble_eq_true rfl⟩ hP hD hS hA [5, 6, 7, 8, 9, 10, 0, 1, 2, 3, 4] [11, 12, 13, 14, 15] rfl rfl rfl rfl (by decide) rfl hl.1 rfl (Nat.le_of_ble_eq_true rfl) de_W_fold_32 ⟨Nat.le_of_ble_eq_true rfl, Nat.le_of_ble_eq_true rfl⟩ (fun r_32 u_32 H locs hw_32 hP hD hS => ?_)
          have hP : va_P (dC, dI) classes [(h0, .inr (1, [.ref q1, .ref q2, .ref q3, .ref q4, .int (nI n)])), (q1, .inl (cI, 40, .inl K)), (q2, .inl (cI, 40, .inl O)), (q3, .inl (cI, 40, .inl T)), (q4, .inl (cI, 40, .inl Z)), (a0, .inr (0, [.ref s1, .ref s2, .ref s3, .ref s4, .ref s5, .int u_32])), (s1, .inl (cI, 240, .inl S)), (s2, .inl (cI, 240, .inl C)), (s3, .inl (cZ, 40, .inl Wt)), (s4, .inl (cI, 6, .inl SB)), (s5, .inl (cI, 6, .inl CB)), (g0, .inr (1, [.ref q5, .ref q6, .ref q7, .ref q8, .int (nI n)])), (q5, .inl (cI, 40, .inl K3)), (q6, .inl (cI, 40, .inl O3)), (q7, .inl (cI, 40, .inl T3)), (q8, .inl (cI, 40, .inl Z3))] H := hP.sub [11, 12, 13, 14, 15, 5, 6, 7, 8, 9, 10, 0, 1, 2, 3, 4] rfl
          have hD : va_D A [(h0, .inr (1, [.ref q1, .ref q2, .ref q3, .ref q4, .int (nI n)])), (q1, .inl (cI, 40, .inl K)), (q2, .inl (cI, 40, .inl O)), (q3, .inl (cI, 40, .inl T)), (q4, .inl (cI, 40, .inl Z)), (a0, .inr (0, [.ref s1, .ref s2, .ref s3, .ref s4, .ref s5, .int u_32])), (s1, .inl (cI, 240, .inl S)), (s2, .inl (cI, 240, .inl C)), (s3, .inl (cZ, 40, .inl Wt)), (s4, .inl (cI, 6, .inl SB)), (s5, .inl (cI, 6, .inl CB)), (g0, .inr (1, [.ref q5, .ref q6, .ref q7, .ref q8, .int (nI n)])), (q5, .inl (cI, 40, .inl K3)), (q6, .inl (cI, 40, .inl O3)), (q7, .inl (cI, 40, .inl T3)), (q8, .inl (cI, 40, .inl Z3))] := hD.sub [11, 12, 13, 14, 15, 5, 6, 7, 8, 9, 10, 0, 1, 2, 3, 4] (by decide) rfl
          rcases hw_32 with ⟨he_32, hv_32⟩ | ⟨he_32, hv_32⟩
          · subst he_32
            refine lv_if_eq (tgt := 58) hx hb de_W_fold_35 (by decide) (fun hc => absurd hc (by decide)) (fun _ => ?_)
            refine lv_aload_n hx hb de_W_fold_38 rfl (lv_at hl 3 rfl) ?_
            refine lv_iload_n hx hb de_W_fold_39 rfl (lv_at hl 0 rfl) ?_
            refine lv_iconst (v := 0) hx hb de_W_fold_40 (by decide) ?_
            refine lv_aload_n hx hb de_W_fold_41 rfl (lv_at hl 1 rfl) ?_
            refine va_getN (D := (dC, dI)) (ci := 1) (v := .ref q2) (C := rc_C) (T := fc_C) (N := 5) hx hb htw wi_C hown hK hP 0 rfl rfl 1 (by decide) (va_Nw.use rfl (hN _ nm_4)) (fun _ h9 => h9) rfl de_W_fold_42 ?_
            refine lv_iload_n hx hb de_W_fold_45 rfl (lv_at hl 0 rfl) ?_
            refine bc_ild (j := i) hx hb hK hP 2 0 rfl rfl (by omega) (by decide) de_W_fold_46 ?_
            refine lv_aload_n hx hb de_W_fold_47 rfl (lv_at hl 2 rfl) ?_
            refine va_getN (D := (dC, dI)) (ci := 0) (v := .int u_32) (C := rc_A) (T := fc_A) (N := 6) hx hb htw wi_A hown hK hP 5 rfl rfl 5 (by decide) (va_Nw.use rfl (hN _ nm_20)) (fun _ h9 => h9) rfl de_W_fold_48 ?_
            refine lv_iconst (v := 0) hx hb de_W_fold_51 (by decide) ?_
            refine bc_call_nv_v (As := [.int (nI i), .int 0, .int (O i), .int u_32, .int 0]) (rest := []) (wr := [(h0, .inr (1, [.ref q1, .ref q2, .ref q3, .ref q4, .int (nI n)])), (q1, .inl (cI, 40, .inl K)), (q2, .inl (cI, 40, .inl O)), (q3, .inl (cI, 40, .inl T)), (q4, .inl (cI, 40, .inl Z)), (a0, .inr (0, [.ref s1, .ref s2, .ref s3, .ref s4, .ref s5, .int u_32])), (s1, .inl (cI, 240, .inl S)), (s2, .inl (cI, 240, .inl C)), (s3, .inl (cZ, 40, .inl Wt)), (s4, .inl (cI, 6, .inl SB)), (s5, .inl (cI, 6, .inl CB))]) F (co_C_put (by omega)) wm_255 wm_2 nm_40 wm_254 wm_608 11 rfl rfl pd_C_put rfl rfl ⟨Nat.le_of_ble_eq_true rfl, Nat.le_of_ble_eq_true rfl⟩ hP hD hS hA [11, 12, 13, 14, 15] [0, 1, 2, 3, 4, 5, 6, 7, 8, 9, 10] rfl rfl rfl rfl (by decide) rfl hl.1 rfl (Nat.le_of_ble_eq_true rfl) de_W_fold_52 ⟨Nat.le_of_ble_eq_true rfl, Nat.le_of_ble_eq_true rfl⟩ (fun u_52 H locs hw_52 hP hD hS => ?_)
            subst hw_52
            have hP : va_P (dC, dI) classes [(h0, .inr (1, [.ref q1, .ref q2, .ref q3, .ref q4, .int (nI n)])), (q1, .inl (cI, 40, .inl K)), (q2, .inl (cI, 40, .inl O)), (q3, .inl (cI, 40, .inl T)), (q4, .inl (cI, 40, .inl Z)), (a0, .inr (0, [.ref s1, .ref s2, .ref s3, .ref s4, .ref s5, .int u_32])), (s1, .inl (cI, 240, .inl S)), (s2, .inl (cI, 240, .inl C)), (s3, .inl (cZ, 40, .inl Wt)), (s4, .inl (cI, 6, .inl SB)), (s5, .inl (cI, 6, .inl CB)), (g0, .inr (1, [.ref q5, .ref q6, .ref q7, .ref q8, .int (nI n)])), (q5, .inl (cI, 40, .inl (upd K3 i 0))), (q6, .inl (cI, 40, .inl (upd O3 i (bc_p1 0 (O i))))), (q7, .inl (cI, 40, .inl (upd T3 i (bc_p2 0 u_32)))), (q8, .inl (cI, 40, .inl (upd Z3 i (bc_p3 0 0))))] H := hP.sub [0, 1, 2, 3, 4, 5, 6, 7, 8, 9, 10, 11, 12, 13, 14, 15] rfl
            have hD : va_D A [(h0, .inr (1, [.ref q1, .ref q2, .ref q3, .ref q4, .int (nI n)])), (q1, .inl (cI, 40, .inl K)), (q2, .inl (cI, 40, .inl O)), (q3, .inl (cI, 40, .inl T)), (q4, .inl (cI, 40, .inl Z)), (a0, .inr (0, [.ref s1, .ref s2, .ref s3, .ref s4, .ref s5, .int u_32])), (s1, .inl (cI, 240, .inl S)), (s2, .inl (cI, 240, .inl C)), (s3, .inl (cZ, 40, .inl Wt)), (s4, .inl (cI, 6, .inl SB)), (s5, .inl (cI, 6, .inl CB)), (g0, .inr (1, [.ref q5, .ref q6, .ref q7, .ref q8, .int (nI n)])), (q5, .inl (cI, 40, .inl (upd K3 i 0))), (q6, .inl (cI, 40, .inl (upd O3 i (bc_p1 0 (O i))))), (q7, .inl (cI, 40, .inl (upd T3 i (bc_p2 0 u_32)))), (q8, .inl (cI, 40, .inl (upd Z3 i (bc_p3 0 0))))] := hD.sub [0, 1, 2, 3, 4, 5, 6, 7, 8, 9, 10, 11, 12, 13, 14, 15] (by decide) rfl
            refine lv_goto (tgt := 92) hx hb de_W_fold_55 (by decide) ?_
            refine lv_iinc (k := 0) (v := nI (i + 1)) (lv' := [(3, .int (nI (i + 1))), (0, .ref h0), (1, .ref a0), (2, .ref g0)]) hx hb de_W_fold_92 hl rfl (bc_inc _) (by decide) rfl (fun ls hl => ?_)
            refine lv_goto (tgt := 2) hx hb de_W_fold_95 (by decide) ?_
            exact ih_2 _ _ _ _ (by omega) ⟨(i + 1), upd K3 i 0, upd O3 i (bc_p1 0 (O i)), upd T3 i (bc_p2 0 u_32), upd Z3 i (bc_p3 0 0), u_32, lv_sub hl [0, 1, 2, 3] rfl, hP, hD, hS, rfl, (by omega), bc_FI_put hJ (bc_fa_4s hlt hrr hv_23 hv_32)⟩
          · subst he_32
            refine lv_if_eq (tgt := 58) hx hb de_W_fold_35 (by decide) (fun _ => ?_) (fun hc => absurd (by decide) hc)
            refine lv_aload_n hx hb de_W_fold_58 rfl (lv_at hl 1 rfl) ?_
            refine va_getN (D := (dC, dI)) (ci := 1) (v := .ref q1) (C := rc_C) (T := fc_C) (N := 5) hx hb htw wi_C hown hK hP 0 rfl rfl 0 (by decide) (va_Nw.use rfl (hN _ nm_1)) (fun _ h9 => h9) rfl de_W_fold_59 ?_
            refine lv_iload_n hx hb de_W_fold_62 rfl (lv_at hl 0 rfl) ?_
            refine bc_ild (j := i) hx hb hK hP 1 0 rfl rfl (by omega) (by decide) de_W_fold_63 ?_
            refine lv_iconst (v := 5) hx hb de_W_fold_64 (by decide) ?_
            refine lv_icmp_ne (tgt := 92) hx hb de_W_fold_65 (by decide) (fun _ => ?_) (fun hc => absurd hc (bc_ne5 hv_23))
            refine lv_iinc (k := 0) (v := nI (i + 1)) (lv' := [(3, .int (nI (i + 1))), (0, .ref h0), (1, .ref a0), (2, .ref g0)]) hx hb de_W_fold_92 hl rfl (bc_inc _) (by decide) rfl (fun ls hl => ?_)
            refine lv_goto (tgt := 2) hx hb de_W_fold_95 (by decide) ?_
            exact ih_2 _ _ _ _ (by omega) ⟨(i + 1), K3, O3, T3, Z3, u_32, lv_sub hl [0, 1, 2, 3] rfl, hP, hD, hS, rfl, (by omega), bc_FI_keep hJ hlt (bc_fa_same (hw i hlt) (Or.inl ⟨Or.inl hv_23, bc_f1_4n hlt hrr hv_23 hv_32⟩))⟩
        · subst he_23
          refine lv_if_eq (tgt := 58) hx hb de_W_fold_26 (by decide) (fun _ => ?_) (fun hc => absurd (by decide) hc)
          refine lv_aload_n hx hb de_W_fold_58 rfl (lv_at hl 1 rfl) ?_
          refine va_getN (D := (dC, dI)) (ci := 1) (v := .ref q1) (C := rc_C) (T := fc_C) (N := 5) hx hb htw wi_C hown hK hP 0 rfl rfl 0 (by decide) (va_Nw.use rfl (hN _ nm_1)) (fun _ h9 => h9) rfl de_W_fold_59 ?_
          refine lv_iload_n hx hb de_W_fold_62 rfl (lv_at hl 0 rfl) ?_
          refine bc_ild (j := i) hx hb hK hP 1 0 rfl rfl (by omega) (by decide) de_W_fold_63 ?_
          refine lv_iconst (v := 5) hx hb de_W_fold_64 (by decide) ?_
          refine lv_icmp_ne (tgt := 92) hx hb de_W_fold_65 (by decide) (fun hc_65 => ?_) (fun hc_65 => ?_)
          · refine lv_iinc (k := 0) (v := nI (i + 1)) (lv' := [(3, .int (nI (i + 1))), (0, .ref h0), (1, .ref a0), (2, .ref g0)]) hx hb de_W_fold_92 hl rfl (bc_inc _) (by decide) rfl (fun ls hl => ?_)
            refine lv_goto (tgt := 2) hx hb de_W_fold_95 (by decide) ?_
            exact ih_2 _ _ _ _ (by omega) ⟨(i + 1), K3, O3, T3, Z3, x3, lv_sub hl [0, 1, 2, 3] rfl, hP, hD, hS, rfl, (by omega), bc_FI_keep hJ hlt (bc_fa_same (hw i hlt) (bc_f1_o hlt hrr hv_23 hc_65))⟩
          · obtain ⟨⟨o, ho, eO⟩, htr⟩ := bc_wi_5 (hw i hlt) hc_65
            refine lv_aload_n hx hb de_W_fold_68 rfl (lv_at hl 2 rfl) ?_
            refine lv_aload_n hx hb de_W_fold_69 rfl (lv_at hl 1 rfl) ?_
            refine lv_iload_n hx hb de_W_fold_70 rfl (lv_at hl 0 rfl) ?_
            refine bc_call_nv_i (As := [.ref h0, .int (nI i)]) (rest := []) (wr := [(g0, .inr (1, [.ref q5, .ref q6, .ref q7, .ref q8, .int (nI n)])), (q5, .inl (cI, 40, .inl K3)), (q6, .inl (cI, 40, .inl O3)), (q7, .inl (cI, 40, .inl T3)), (q8, .inl (cI, 40, .inl Z3))]) F (co_A_hasConstantTest hi40 eO ho) wm_160 wm_3 nm_41 wm_159 wm_603 5 rfl rfl pd_A_hasConstantTest rfl rfl ⟨Nat.le_of_ble_eq_true rfl, Nat.le_of_ble_eq_true rfl⟩ hP hD hS hA [5, 6, 7, 8, 9, 10, 0, 1, 2, 3, 4] [11, 12, 13, 14, 15] rfl rfl rfl rfl (by decide) rfl hl.1 rfl (Nat.le_of_ble_eq_true rfl) de_W_fold_71 ⟨Nat.le_of_ble_eq_true rfl, Nat.le_of_ble_eq_true rfl⟩ (fun r_71 u_71 H locs hw_71 hP hD hS => ?_)
            have hP : va_P (dC, dI) classes [(h0, .inr (1, [.ref q1, .ref q2, .ref q3, .ref q4, .int (nI n)])), (q1, .inl (cI, 40, .inl K)), (q2, .inl (cI, 40, .inl O)), (q3, .inl (cI, 40, .inl T)), (q4, .inl (cI, 40, .inl Z)), (a0, .inr (0, [.ref s1, .ref s2, .ref s3, .ref s4, .ref s5, .int x3])), (s1, .inl (cI, 240, .inl S)), (s2, .inl (cI, 240, .inl C)), (s3, .inl (cZ, 40, .inl Wt)), (s4, .inl (cI, 6, .inl SB)), (s5, .inl (cI, 6, .inl CB)), (g0, .inr (1, [.ref q5, .ref q6, .ref q7, .ref q8, .int (nI n)])), (q5, .inl (cI, 40, .inl K3)), (q6, .inl (cI, 40, .inl O3)), (q7, .inl (cI, 40, .inl T3)), (q8, .inl (cI, 40, .inl Z3))] H := hP.sub [11, 12, 13, 14, 15, 5, 6, 7, 8, 9, 10, 0, 1, 2, 3, 4] rfl
            have hD : va_D A [(h0, .inr (1, [.ref q1, .ref q2, .ref q3, .ref q4, .int (nI n)])), (q1, .inl (cI, 40, .inl K)), (q2, .inl (cI, 40, .inl O)), (q3, .inl (cI, 40, .inl T)), (q4, .inl (cI, 40, .inl Z)), (a0, .inr (0, [.ref s1, .ref s2, .ref s3, .ref s4, .ref s5, .int x3])), (s1, .inl (cI, 240, .inl S)), (s2, .inl (cI, 240, .inl C)), (s3, .inl (cZ, 40, .inl Wt)), (s4, .inl (cI, 6, .inl SB)), (s5, .inl (cI, 6, .inl CB)), (g0, .inr (1, [.ref q5, .ref q6, .ref q7, .ref q8, .int (nI n)])), (q5, .inl (cI, 40, .inl K3)), (q6, .inl (cI, 40, .inl O3)), (q7, .inl (cI, 40, .inl T3)), (q8, .inl (cI, 40, .inl Z3))] := hD.sub [11, 12, 13, 14, 15, 5, 6, 7, 8, 9, 10, 0, 1, 2, 3, 4] (by decide) rfl
            rcases hw_71 with ⟨he_71, hv_71⟩ | ⟨he_71, hv_71⟩
            · subst he_71
              refine lv_if_eq (tgt := 92) hx hb de_W_fold_74 (by decide) (fun hc => absurd hc (by decide)) (fun _ => ?_)
              refine lv_aload_n hx hb de_W_fold_77 rfl (lv_at hl 3 rfl) ?_
              refine lv_iload_n hx hb de_W_fold_78 rfl (lv_at hl 0 rfl) ?_
              refine lv_bipush (v := 6) hx hb de_W_fold_79 (by decide) ?_
              refine lv_iconst (v := 0) hx hb de_W_fold_81 (by decide) ?_
              refine lv_aload_n hx hb de_W_fold_82 rfl (lv_at hl 2 rfl) ?_
              refine lv_aload_n hx hb de_W_fold_83 rfl (lv_at hl 1 rfl) ?_
              refine lv_iload_n hx hb de_W_fold_84 rfl (lv_at hl 0 rfl) ?_
              refine bc_call_nv_i (As := [.ref h0, .int (nI i)]) (rest := [.int 0, .int 6, .int (nI i), .ref g0]) (wr := [(g0, .inr (1, [.ref q5, .ref q6, .ref q7, .ref q8, .int (nI n)])), (q5, .inl (cI, 40, .inl K3)), (q6, .inl (cI, 40, .inl O3)), (q7, .inl (cI, 40, .inl T3)), (q8, .inl (cI, 40, .inl Z3))]) F (co_A_wayOfConstantTest (by omega) hn eO ho htr) wm_163 wm_3 nm_42 wm_162 wm_604 5 rfl rfl pd_A_wayOfConstantTest rfl rfl ⟨Nat.le_of_ble_eq_true rfl, Nat.le_of_ble_eq_true rfl⟩ hP hD hS hA [5, 6, 7, 8, 9, 10, 0, 1, 2, 3, 4] [11, 12, 13, 14, 15] rfl rfl rfl rfl (by decide) rfl hl.1 rfl (Nat.le_of_ble_eq_true rfl) de_W_fold_85 ⟨Nat.le_of_ble_eq_true rfl, Nat.le_of_ble_eq_true rfl⟩ (fun r_85 u_85 H locs hw_85 hP hD hS => ?_)
              obtain ⟨tw, he_85, hb_85, hq_85⟩ := bc_way hi40 hn hw_85
              subst he_85
              have hP : va_P (dC, dI) classes [(h0, .inr (1, [.ref q1, .ref q2, .ref q3, .ref q4, .int (nI n)])), (q1, .inl (cI, 40, .inl K)), (q2, .inl (cI, 40, .inl O)), (q3, .inl (cI, 40, .inl T)), (q4, .inl (cI, 40, .inl Z)), (a0, .inr (0, [.ref s1, .ref s2, .ref s3, .ref s4, .ref s5, .int x3])), (s1, .inl (cI, 240, .inl S)), (s2, .inl (cI, 240, .inl C)), (s3, .inl (cZ, 40, .inl Wt)), (s4, .inl (cI, 6, .inl SB)), (s5, .inl (cI, 6, .inl CB)), (g0, .inr (1, [.ref q5, .ref q6, .ref q7, .ref q8, .int (nI n)])), (q5, .inl (cI, 40, .inl K3)), (q6, .inl (cI, 40, .inl O3)), (q7, .inl (cI, 40, .inl T3)), (q8, .inl (cI, 40, .inl Z3))] H := hP.sub [11, 12, 13, 14, 15, 5, 6, 7, 8, 9, 10, 0, 1, 2, 3, 4] rfl
              have hD : va_D A [(h0, .inr (1, [.ref q1, .ref q2, .ref q3, .ref q4, .int (nI n)])), (q1, .inl (cI, 40, .inl K)), (q2, .inl (cI, 40, .inl O)), (q3, .inl (cI, 40, .inl T)), (q4, .inl (cI, 40, .inl Z)), (a0, .inr (0, [.ref s1, .ref s2, .ref s3, .ref s4, .ref s5, .int x3])), (s1, .inl (cI, 240, .inl S)), (s2, .inl (cI, 240, .inl C)), (s3, .inl (cZ, 40, .inl Wt)), (s4, .inl (cI, 6, .inl SB)), (s5, .inl (cI, 6, .inl CB)), (g0, .inr (1, [.ref q5, .ref q6, .ref q7, .ref q8, .int (nI n)])), (q5, .inl (cI, 40, .inl K3)), (q6, .inl (cI, 40, .inl O3)), (q7, .inl (cI, 40, .inl T3)), (q8, .inl (cI, 40, .inl Z3))] := hD.sub [11, 12, 13, 14, 15, 5, 6, 7, 8, 9, 10, 0, 1, 2, 3, 4] (by decide) rfl
              refine lv_iconst (v := 0) hx hb de_W_fold_88 (by decide) ?_
              refine bc_call_nv_v (As := [.int (nI i), .int 6, .int 0, .int (nI tw), .int 0]) (rest := []) (wr := [(h0, .inr (1, [.ref q1, .ref q2, .ref q3, .ref q4, .int (nI n)])), (q1, .inl (cI, 40, .inl K)), (q2, .inl (cI, 40, .inl O)), (q3, .inl (cI, 40, .inl T)), (q4, .inl (cI, 40, .inl Z)), (a0, .inr (0, [.ref s1, .ref s2, .ref s3, .ref s4, .ref s5, .int x3])), (s1, .inl (cI, 240, .inl S)), (s2, .inl (cI, 240, .inl C)), (s3, .inl (cZ, 40, .inl Wt)), (s4, .inl (cI, 6, .inl SB)), (s5, .inl (cI, 6, .inl CB))]) F (co_C_put (by omega)) wm_255 wm_2 nm_40 wm_254 wm_608 11 rfl rfl pd_C_put rfl rfl ⟨Nat.le_of_ble_eq_true rfl, Nat.le_of_ble_eq_true rfl⟩ hP hD hS hA [11, 12, 13, 14, 15] [0, 1, 2, 3, 4, 5, 6, 7, 8, 9, 10] rfl rfl rfl rfl (by decide) rfl hl.1 rfl (Nat.le_of_ble_eq_true rfl) de_W_fold_89 ⟨Nat.le_of_ble_eq_true rfl, Nat.le_of_ble_eq_true rfl⟩ (fun u_89 H locs hw_89 hP hD hS => ?_)
              subst hw_89
              have hP : va_P (dC, dI) classes [(h0, .inr (1, [.ref q1, .ref q2, .ref q3, .ref q4, .int (nI n)])), (q1, .inl (cI, 40, .inl K)), (q2, .inl (cI, 40, .inl O)), (q3, .inl (cI, 40, .inl T)), (q4, .inl (cI, 40, .inl Z)), (a0, .inr (0, [.ref s1, .ref s2, .ref s3, .ref s4, .ref s5, .int x3])), (s1, .inl (cI, 240, .inl S)), (s2, .inl (cI, 240, .inl C)), (s3, .inl (cZ, 40, .inl Wt)), (s4, .inl (cI, 6, .inl SB)), (s5, .inl (cI, 6, .inl CB)), (g0, .inr (1, [.ref q5, .ref q6, .ref q7, .ref q8, .int (nI n)])), (q5, .inl (cI, 40, .inl (upd K3 i 6))), (q6, .inl (cI, 40, .inl (upd O3 i (bc_p1 6 0)))), (q7, .inl (cI, 40, .inl (upd T3 i (bc_p2 6 (nI tw))))), (q8, .inl (cI, 40, .inl (upd Z3 i (bc_p3 6 0))))] H := hP.sub [0, 1, 2, 3, 4, 5, 6, 7, 8, 9, 10, 11, 12, 13, 14, 15] rfl
              have hD : va_D A [(h0, .inr (1, [.ref q1, .ref q2, .ref q3, .ref q4, .int (nI n)])), (q1, .inl (cI, 40, .inl K)), (q2, .inl (cI, 40, .inl O)), (q3, .inl (cI, 40, .inl T)), (q4, .inl (cI, 40, .inl Z)), (a0, .inr (0, [.ref s1, .ref s2, .ref s3, .ref s4, .ref s5, .int x3])), (s1, .inl (cI, 240, .inl S)), (s2, .inl (cI, 240, .inl C)), (s3, .inl (cZ, 40, .inl Wt)), (s4, .inl (cI, 6, .inl SB)), (s5, .inl (cI, 6, .inl CB)), (g0, .inr (1, [.ref q5, .ref q6, .ref q7, .ref q8, .int (nI n)])), (q5, .inl (cI, 40, .inl (upd K3 i 6))), (q6, .inl (cI, 40, .inl (upd O3 i (bc_p1 6 0)))), (q7, .inl (cI, 40, .inl (upd T3 i (bc_p2 6 (nI tw))))), (q8, .inl (cI, 40, .inl (upd Z3 i (bc_p3 6 0))))] := hD.sub [0, 1, 2, 3, 4, 5, 6, 7, 8, 9, 10, 11, 12, 13, 14, 15] (by decide) rfl
              refine lv_iinc (k := 0) (v := nI (i + 1)) (lv' := [(3, .int (nI (i + 1))), (0, .ref h0), (1, .ref a0), (2, .ref g0)]) hx hb de_W_fold_92 hl rfl (bc_inc _) (by decide) rfl (fun ls hl => ?_)
              refine lv_goto (tgt := 2) hx hb de_W_fold_95 (by decide) ?_
              exact ih_2 _ _ _ _ (by omega) ⟨(i + 1), upd K3 i 6, upd O3 i (bc_p1 6 0), upd T3 i (bc_p2 6 (nI tw)), upd Z3 i (bc_p3 6 0), x3, lv_sub hl [0, 1, 2, 3] rfl, hP, hD, hS, rfl, (by omega), bc_FI_put hJ (bc_fa_5s hlt hn hrr hc_65 eO ho hrow hv_71 hq_85)⟩
            · subst he_71
              refine lv_if_eq (tgt := 92) hx hb de_W_fold_74 (by decide) (fun _ => ?_) (fun hc => absurd (by decide) hc)
              refine lv_iinc (k := 0) (v := nI (i + 1)) (lv' := [(3, .int (nI (i + 1))), (0, .ref h0), (1, .ref a0), (2, .ref g0)]) hx hb de_W_fold_92 hl rfl (bc_inc _) (by decide) rfl (fun ls hl => ?_)
              refine lv_goto (tgt := 2) hx hb de_W_fold_95 (by decide) ?_
              exact ih_2 _ _ _ _ (by omega) ⟨(i + 1), K3, O3, T3, Z3, x3, lv_sub hl [0, 1, 2, 3] rfl, hP, hD, hS, rfl, (by omega), bc_FI_keep hJ hlt (bc_fa_same (hw i hlt) (Or.inr ⟨by rw [hc_65]; decide, bc_f1_5n hlt hrr hc_65 eO ho (bc_s0_n2 (by rw [← (hrow o ho).1]; exact hv_71))⟩))⟩
      · subst he_12
        refine lv_if_ne (tgt := 21) hx hb de_W_fold_15 (by decide) (fun hc => absurd (by decide) hc) (fun _ => ?_)
        refine lv_goto (tgt := 92) hx hb de_W_fold_18 (by decide) ?_
        refine lv_iinc (k := 0) (v := nI (i + 1)) (lv' := [(3, .int (nI (i + 1))), (0, .ref h0), (1, .ref a0), (2, .ref g0)]) hx hb de_W_fold_92 hl rfl (bc_inc _) (by decide) rfl (fun ls hl => ?_)
        refine lv_goto (tgt := 2) hx hb de_W_fold_95 (by decide) ?_
        exact ih_2 _ _ _ _ (by omega) ⟨(i + 1), K3, O3, T3, Z3, x3, lv_sub hl [0, 1, 2, 3] rfl, hP, hD, hS, rfl, (by omega), bc_FI_keep hJ hlt (bc_fa_same (hw i hlt) (bc_f1_none hlt (bc_s0_0 (v := 0) (by rw [← (hen i (by omega) 0 (by omega)).1]; exact hv_12))))⟩
  · exact ⟨_, 0, K2, O2, T2, Z2, res, lv_sub hl [0, 1, 2, 3] rfl, hP, hD, hS, rfl, Nat.zero_le _, ⟨fun j _ hj => absurd hj (Nat.not_lt_zero j), fun j hj _ => hcp j hj⟩⟩

theorem bc_end_cg {n : Nat} {K K' : bc_F} {q q' : Nat → Nat} (hK : ∀ j, j < n → K j = K' j) (hq : ∀ j, j < n → K j = 6 → q j = q' j) (t : Nat) : bc_end n K q t = bc_end n K' q' t := by
  have hh : bc_hop n K q = bc_hop n K' q' := by
    funext j
    unfold bc_hop
    by_cases h : j < n ∧ K j = 6
    · rw [if_pos h, if_pos ⟨h.1, by rw [← hK j h.1]; exact h.2⟩]
      exact hq j h.1 h.2
    · rw [if_neg h, if_neg (fun z => h ⟨z.1, by rw [hK j z.1]; exact z.2⟩)]
  unfold bc_end
  rw [hh]
  by_cases h : bc_it (bc_hop n K' q') (n + 1) t < n ∧ K (bc_it (bc_hop n K' q') (n + 1) t) = 6
  · rw [if_pos h, if_pos ⟨h.1, by rw [← hK _ h.1]; exact h.2⟩]
  · rw [if_neg h, if_neg (fun z => h ⟨z.1, by rw [hK _ z.1]; exact z.2⟩)]
theorem bc_end_at {n : Nat} {K : bc_F} {q : Nat → Nat} {f h : Nat} (hj : ¬ bc_J n K (bc_it (bc_hop n K q) h f)) : bc_it (bc_hop n K q) h f = bc_end n K q f := (bc_end_fin ⟨h, rfl, hj⟩).symm
theorem bc_it_go {n : Nat} {K : bc_F} {q : Nat → Nat} {f h : Nat} (hj : bc_J n K (bc_it (bc_hop n K q) h f)) : q (bc_it (bc_hop n K q) h f) = bc_it (bc_hop n K q) (h + 1) f := by rw [bc_it_s, bc_hop_go hj]
theorem bc_tn_q {n : Nat} {T : bc_F} : ∀ j, j < n → (fun j => bc_tn n (T j)) j ≤ n := fun _ _ => bc_tn_le _ _
set_option maxHeartbeats 4000000 in
set_option maxRecDepth 100000 in
/-- the end of a chain of JUMPs -/
theorem co_W_endOfChain {l : Launch} {dC : Nat → ClassId} {dI : Nat → Nat → Nat} {cI cZ : ClassId} {sz : Nat} {h0 q1 q2 q3 q4 n : Nat} {K O T Z : bc_F} {f : Nat} (hn : n ≤ 40) (hf : f ≤ n) (htr : ∀ j, j < n → K j = 6 → bc_tr (T j)) : Met l yn_W_endOfChain (Cond.code yn_W_endOfChain by_W_endOfChain 4 (some FieldType.int) :: wd_all) ({ frames := 1, cells := 0, slots := 0, locals := 21 } : Room) (bc_Pre (dC, dI) classes [(cI, .int), (cZ, .boolean)] [.ref h0, .int (nI f)] [(h0, .inr (1, [.ref q1, .ref q2, .ref q3, .ref q4, .int (nI n)])), (q1, .inl (cI, 40, .inl K)), (q2, .inl (cI, 40, .inl O)), (q3, .inl (cI, 40, .inl T)), (q4, .inl (cI, 40, .inl Z))] sz) (va_Qi (fun (r : Int32) (u : Unit) => r = nI (bc_end n K (fun j => bc_tn n (T j)) f)) (fun (u : Unit) t => bc_B (dC, dI) classes [(cI, .int), (cZ, .boolean)] (va_A [(h0, .inr (1, [.ref q1, .ref q2, .ref q3, .ref q4, .int (nI n)])), (q1, .inl (cI, 40, .inl K)), (q2, .inl (cI, 40, .inl O)), (q3, .inl (cI, 40, .inl T)), (q4, .inl (cI, 40, .inl Z))] sz) [(h0, .inr (1, [.ref q1, .ref q2, .ref q3, .ref q4, .int (nI n)])), (q1, .inl (cI, 40, .inl K)), (q2, .inl (cI, 40, .inl O)), (q3, .inl (cI, 40, .inl T)), (q4, .inl (cI, 40, .inl Z))] t) ((va_A [(h0, .inr (1, [.ref q1, .ref q2, .ref q3, .ref q4, .int (nI n)])), (q1, .inl (cI, 40, .inl K)), (q2, .inl (cI, 40, .inl O)), (q3, .inl (cI, 40, .inl T)), (q4, .inl (cI, 40, .inl Z))] sz))) 0 0 (va_A [(h0, .inr (1, [.ref q1, .ref q2, .ref q3, .ref q4, .int (nI n)])), (q1, .inl (cI, 40, .inl K)), (q2, .inl (cI, 40, .inl O)), (q3, .inl (cI, 40, .inl T)), (q4, .inl (cI, 40, .inl Z))] sz) := by
  refine bc_met (fun A => va_Qi (fun (r : Int32) (u : Unit) => r = nI (bc_end n K (fun j => bc_tn n (T j)) f)) (fun (u : Unit) t => bc_B (dC, dI) classes [(cI, .int), (cZ, .boolean)] A [(h0, .inr (1, [.ref q1, .ref q2, .ref q3, .ref q4, .int (nI n)])), (q1, .inl (cI, 40, .inl K)), (q2, .inl (cI, 40, .inl O)), (q3, .inl (cI, 40, .inl T)), (q4, .inl (cI, 40, .inl Z))] t) A) (by decide) (Nat.le_of_ble_eq_true rfl) ?_
  intro p e s m args below meth c A ls F hr hlocks hin hA hP hD hl hS
  have hx := F.1
  have hb := F.2.1
  have hml := F.2.2.1
  have hown : s.vm.findClass "BranchConstants$Rewriting" = some m.cls := F.2.2.2.1
  have htw := F.2.2.2.2.1
  have hN := F.2.2.2.2.2.1
  have hK := F.2.2.2.2.2.2
  have hl : lv_has ls 4 [(0, .ref h0), (1, .int (nI f))] := hl
  refine lv_iload_n hx hb de_W_endOfChain_0 rfl (lv_at hl 1 rfl) ?_
  refine bc_ti (y := nI (bc_it (bc_hop n K (fun j => bc_tn n (T j))) 0 f)) rfl ?_
  refine lv_istore_n (lv' := [(2, .int (nI (bc_it (bc_hop n K (fun j => bc_tn n (T j))) 0 f))), (0, .ref h0), (1, .int (nI f))]) hx hb de_W_endOfChain_1 rfl hl (by decide) rfl (fun ls hl => ?_)
  refine lv_iconst (v := 0) hx hb de_W_endOfChain_2 (by decide) ?_
  refine bc_ti (y := nI 0) nI_0.symm ?_
  refine lv_istore_n (lv' := [(3, .int (nI 0)), (2, .int (nI (bc_it (bc_hop n K (fun j => bc_tn n (T j))) 0 f))), (0, .ref h0), (1, .int (nI f))]) hx hb de_W_endOfChain_3 rfl hl (by decide) rfl (fun ls hl => ?_)
  refine bc_loop (fun k_4 H locs ls => ∃ (h : Nat), lv_has ls 4 [(3, .int (nI h)), (2, .int (nI (bc_it (bc_hop n K (fun j => bc_tn n (T j))) h f))), (0, .ref h0), (1, .int (nI f))] ∧ va_P (dC, dI) classes [(h0, .inr (1, [.ref q1, .ref q2, .ref q3, .ref q4, .int (nI n)])), (q1, .inl (cI, 40, .inl K)), (q2, .inl (cI, 40, .inl O)), (q3, .inl (cI, 40, .inl T)), (q4, .inl (cI, 40, .inl Z))] H ∧ va_D A [(h0, .inr (1, [.ref q1, .ref q2, .ref q3, .ref q4, .int (nI n)])), (q1, .inl (cI, 40, .inl K)), (q2, .inl (cI, 40, .inl O)), (q3, .inl (cI, 40, .inl T)), (q4, .inl (cI, 40, .inl Z))] ∧ va_S A s.heap H locs ∧ k_4 = n + 1 - h ∧ (h ≤ n + 1) ∧ (∀ k, k < h → bc_J n K (bc_it (bc_hop n K (fun j => bc_tn n (T j))) k f))) ?_ ?_
  · rintro k_4 H locs ls ⟨h, hl, hP, hD, hS, hk_4, hh, hJ⟩ ih_4
    refine lv_iload_n hx hb de_W_endOfChain_4 rfl (lv_at hl 0 rfl) ?_
    refine lv_aload_n hx hb de_W_endOfChain_5 rfl (lv_at hl 2 rfl) ?_
    refine va_getN (D := (dC, dI)) (ci := 1) (v := .int (nI n)) (C := rc_C) (T := fc_C) (N := 5) hx hb htw wi_C hown hK hP 0 rfl rfl 4 (by decide) (va_Nw.use rfl (hN _ nm_15)) (fun _ h9 => h9) rfl de_W_endOfChain_6 ?_
    refine lv_icmp_gt (tgt := 45) hx hb de_W_endOfChain_9 (by decide) (fun hc_9 => ?_) (fun hc_9 => ?_)
    · have hgt : n < h := (nI_ltI (by omega) (by omega)).mp hc_9
      refine lv_iload_n hx hb de_W_endOfChain_45 rfl (lv_at hl 3 rfl) ?_
      exact bc_iret F hr hlocks (()) (congrArg nI (bc_end_round (fun k hk => hJ k (by omega))).symm) hP hD hS de_W_endOfChain_46
    · have hle : h ≤ n := by
        by_cases z : h ≤ n
        · exact z
        · exact absurd ((nI_ltI (by omega) (by omega)).mpr (by omega)) hc_9
      have htn := bc_it_le (K := K) (bc_tn_q (n := n) (T := T)) h f hf
      refine lv_iload_n hx hb de_W_endOfChain_12 rfl (lv_at hl 1 rfl) ?_
      refine lv_aload_n hx hb de_W_endOfChain_13 rfl (lv_at hl 2 rfl) ?_
      refine va_getN (D := (dC, dI)) (ci := 1) (v := .int (nI n)) (C := rc_C) (T := fc_C) (N := 5) hx hb htw wi_C hown hK hP 0 rfl rfl 4 (by decide) (va_Nw.use rfl (hN _ nm_15)) (fun _ h9 => h9) rfl de_W_endOfChain_14 ?_
      refine lv_icmp_ge (tgt := 31) hx hb de_W_endOfChain_17 (by decide) (fun hc_17 => ?_) (fun hc_17 => ?_)
      · have hnj : ¬ bc_J n K (bc_it (bc_hop n K (fun j => bc_tn n (T j))) h f) := fun z => absurd z.1 (by have := bc_ge (by omega) (by omega) hc_17; omega)
        refine lv_iload_n hx hb de_W_endOfChain_31 rfl (lv_at hl 1 rfl) ?_
        exact bc_iret F hr hlocks (()) (congrArg nI (bc_end_at hnj)) hP hD hS de_W_endOfChain_32
      · have htl : bc_it (bc_hop n K (fun j => bc_tn n (T j))) h f < n := bc_lt (by omega) (by omega) hc_17
        refine lv_aload_n hx hb de_W_endOfChain_20 rfl (lv_at hl 2 rfl) ?_
        refine va_getN (D := (dC, dI)) (ci := 1) (v := .ref q1) (C := rc_C) (T := fc_C) (N := 5) hx hb htw wi_C hown hK hP 0 rfl rfl 0 (by decide) (va_Nw.use rfl (hN _ nm_1)) (fun _ h9 => h9) rfl de_W_endOfChain_21 ?_
        refine lv_iload_n hx hb de_W_endOfChain_24 rfl (lv_at hl 1 rfl) ?_
        refine bc_ild (j := bc_it (bc_hop n K (fun j => bc_tn n (T j))) h f) hx hb hK hP 1 0 rfl rfl (Nat.lt_of_lt_of_le htl hn) (by decide) de_W_endOfChain_25 ?_
        refine lv_bipush (v := 6) hx hb de_W_endOfChain_26 (by decide) ?_
        refine lv_icmp_eq (tgt := 33) hx hb de_W_endOfChain_28 (by decide) (fun hc_28 => ?_) (fun hc_28 => ?_)
        · have hjt : bc_J n K (bc_it (bc_hop n K (fun j => bc_tn n (T j))) h f) := ⟨htl, hc_28⟩
          refine lv_aload_n hx hb de_W_endOfChain_33 rfl (lv_at hl 2 rfl) ?_
          refine lv_iload_n hx hb de_W_endOfChain_34 rfl (lv_at hl 1 rfl) ?_
          refine bc_call_nv_i (As := [.int (nI (bc_it (bc_hop n K (fun j => bc_tn n (T j))) h f))]) (rest := []) (wr := []) F (co_C_target (by omega) hn (htr _ hjt.1 hjt.2)) wm_154 wm_2 nm_44 wm_153 wm_601 0 rfl rfl pd_C_target rfl rfl ⟨Nat.le_of_ble_eq_true rfl, Nat.le_of_ble_eq_true rfl⟩ hP hD hS hA [0, 1, 2, 3, 4] [] rfl rfl rfl rfl (by decide) rfl hl.1 rfl (Nat.le_of_ble_eq_true rfl) de_W_endOfChain_35 ⟨Nat.le_of_ble_eq_true rfl, Nat.le_of_ble_eq_true rfl⟩ (fun r_35 u_35 H locs hw_35 hP hD hS => ?_)
          rw [show bc_tn n (T (bc_it (bc_hop n K (fun j => bc_tn n (T j))) h f)) = bc_it (bc_hop n K (fun j => bc_tn n (T j))) (h + 1) f from bc_it_go hjt] at hw_35
          have hP : va_P (dC, dI) classes [(h0, .inr (1, [.ref q1, .ref q2, .ref q3, .ref q4, .int (nI n)])), (q1, .inl (cI, 40, .inl K)), (q2, .inl (cI, 40, .inl O)), (q3, .inl (cI, 40, .inl T)), (q4, .inl (cI, 40, .inl Z))] H := hP.sub [0, 1, 2, 3, 4] rfl
          have hD : va_D A [(h0, .inr (1, [.ref q1, .ref q2, .ref q3, .ref q4, .int (nI n)])), (q1, .inl (cI, 40, .inl K)), (q2, .inl (cI, 40, .inl O)), (q3, .inl (cI, 40, .inl T)), (q4, .inl (cI, 40, .inl Z))] := hD.sub [0, 1, 2, 3, 4] (by decide) rfl
          subst hw_35
          refine lv_istore_n (lv' := [(2, .int (nI (bc_it (bc_hop n K (fun j => bc_tn n (T j))) (h + 1) f))), (3, .int (nI h)), (0, .ref h0), (1, .int (nI f))]) hx hb de_W_endOfChain_38 rfl hl (by decide) rfl (fun ls hl => ?_)
          refine lv_iinc (k := 1) (v := nI (h + 1)) (lv' := [(3, .int (nI (h + 1))), (2, .int (nI (bc_it (bc_hop n K (fun j => bc_tn n (T j))) (h + 1) f))), (0, .ref h0), (1, .int (nI f))]) hx hb de_W_endOfChain_39 hl rfl (bc_inc _) (by decide) rfl (fun ls hl => ?_)
          refine lv_goto (tgt := 4) hx hb de_W_endOfChain_42 (by decide) ?_
          exact ih_4 _ _ _ _ (by omega) ⟨(h + 1), lv_sub hl [0, 1, 2, 3] rfl, hP, hD, hS, rfl, (by omega), lt_s hJ hjt⟩
        · have hnj : ¬ bc_J n K (bc_it (bc_hop n K (fun j => bc_tn n (T j))) h f) := fun z => hc_28 z.2
          refine lv_iload_n hx hb de_W_endOfChain_31 rfl (lv_at hl 1 rfl) ?_
          exact bc_iret F hr hlocks (()) (congrArg nI (bc_end_at hnj)) hP hD hS de_W_endOfChain_32
  · exact ⟨_, 0, lv_sub hl [0, 1, 2, 3] rfl, hP, hD, hS, rfl, Nat.zero_le _, fun k hk => absurd hk (Nat.not_lt_zero k)⟩

/-- THREAD, up to i -/
def bc_TI (n : Nat) (K T : bc_F) (i : Nat) (T3 : bc_F) : Prop := ∀ j, j < n → (bc_gs (K j) → bc_tr (T3 j) ∧ (j < i → bc_tn n (T3 j) = bc_end n K (fun j => bc_tn n (T j)) (bc_tn n (T j))) ∧ (i ≤ j → T3 j = T j)) ∧ (¬ bc_gs (K j) → T3 j = T j)
theorem bc_TI_mod {n : Nat} {K T T3 : bc_F} {i : Nat} (h : bc_TI n K T i T3) : ∀ j, j < n → (fun j => bc_tn n (T3 j)) j = (fun j => bc_tn n (T j)) j ∨ (fun j => bc_tn n (T3 j)) j = bc_end n K (fun j => bc_tn n (T j)) ((fun j => bc_tn n (T j)) j) := by
  intro j hj
  by_cases hg : bc_gs (K j)
  · by_cases c : j < i
    · exact Or.inr (((h j hj).1 hg).2.1 c)
    · left
      show bc_tn n (T3 j) = bc_tn n (T j)
      rw [((h j hj).1 hg).2.2 (by omega)]
  · left
    show bc_tn n (T3 j) = bc_tn n (T j)
    rw [(h j hj).2 hg]
theorem bc_TI_skip {n : Nat} {K T T3 : bc_F} {i : Nat} (h : bc_TI n K T i T3) (hg : ¬ bc_gs (K i)) : bc_TI n K T (i + 1) T3 := by
  intro j hj
  refine ⟨fun hj2 => ⟨((h j hj).1 hj2).1, fun c => ?_, fun c => ((h j hj).1 hj2).2.2 (by omega)⟩, (h j hj).2⟩
  by_cases e : j = i
  · subst e; exact absurd hj2 hg
  · exact ((h j hj).1 hj2).2.1 (by omega)
theorem bc_TI_put {n : Nat} {K T T3 : bc_F} {i : Nat} (hn : n ≤ 40) (hi : i < n) (h : bc_TI n K T i T3) (hg : bc_gs (K i)) : bc_TI n K T (i + 1) (upd T3 i (nI (bc_end n K (fun j => bc_tn n (T3 j)) (bc_tn n (T3 i))))) := by
  have e1 : bc_end n K (fun j => bc_tn n (T3 j)) (bc_tn n (T3 i)) = bc_end n K (fun j => bc_tn n (T j)) (bc_tn n (T i)) := by
    rw [bc_end_mod (bc_TI_mod h), ((h i hi).1 hg).2.2 (Nat.le_refl _)]
  have e2 : bc_end n K (fun j => bc_tn n (T j)) (bc_tn n (T i)) ≤ n := bc_end_le bc_tn_q (bc_tn_le _ _)
  intro j hj
  by_cases e : j = i
  · subst e
    refine ⟨fun _ => ?_, fun z => absurd hg z⟩
    rw [pk_us, e1]
    exact ⟨⟨_, by omega, rfl⟩, fun _ => bc_tn_nI e2 hn, fun z => by omega⟩
  · rw [pk_un e]
    refine ⟨fun hj2 => ⟨((h j hj).1 hj2).1, fun c => ((h j hj).1 hj2).2.1 (by omega), fun c => ((h j hj).1 hj2).2.2 (by omega)⟩, (h j hj).2⟩
set_option maxHeartbeats 4000000 in
set_option maxRecDepth 100000 in
/-- THREAD -/
theorem co_W_thread {l : Launch} {dC : Nat → ClassId} {dI : Nat → Nat → Nat} {cI cZ : ClassId} {sz : Nat} {h0 q1 q2 q3 q4 n : Nat} {K O T Z : bc_F} (hn : n ≤ 40) (htr : ∀ j, j < n → bc_gs (K j) → bc_tr (T j)) : Met l yn_W_thread (Cond.code yn_W_thread by_W_thread 2 none :: wd_all) ({ frames := 2, cells := 0, slots := 0, locals := 44 } : Room) (bc_Pre (dC, dI) classes [(cI, .int), (cZ, .boolean)] [.ref h0] [(h0, .inr (1, [.ref q1, .ref q2, .ref q3, .ref q4, .int (nI n)])), (q1, .inl (cI, 40, .inl K)), (q2, .inl (cI, 40, .inl O)), (q3, .inl (cI, 40, .inl T)), (q4, .inl (cI, 40, .inl Z))] sz) (va_Qv (fun (u : bc_F) => bc_TI n K T n u) (fun (u : bc_F) t => bc_B (dC, dI) classes [(cI, .int), (cZ, .boolean)] (va_A [(h0, .inr (1, [.ref q1, .ref q2, .ref q3, .ref q4, .int (nI n)])), (q1, .inl (cI, 40, .inl K)), (q2, .inl (cI, 40, .inl O)), (q3, .inl (cI, 40, .inl T)), (q4, .inl (cI, 40, .inl Z))] sz) [(h0, .inr (1, [.ref q1, .ref q2, .ref q3, .ref q4, .int (nI n)])), (q1, .inl (cI, 40, .inl K)), (q2, .inl (cI, 40, .inl O)), (q3, .inl (cI, 40, .inl u)), (q4, .inl (cI, 40, .inl Z))] t) ((va_A [(h0, .inr (1, [.ref q1, .ref q2, .ref q3, .ref q4, .int (nI n)])), (q1, .inl (cI, 40, .inl K)), (q2, .inl (cI, 40, .inl O)), (q3, .inl (cI, 40, .inl T)), (q4, .inl (cI, 40, .inl Z))] sz))) 0 0 (va_A [(h0, .inr (1, [.ref q1, .ref q2, .ref q3, .ref q4, .int (nI n)])), (q1, .inl (cI, 40, .inl K)), (q2, .inl (cI, 40, .inl O)), (q3, .inl (cI, 40, .inl T)), (q4, .inl (cI, 40, .inl Z))] sz) := by
  refine bc_met (fun A => va_Qv (fun (u : bc_F) => bc_TI n K T n u) (fun (u : bc_F) t => bc_B (dC, dI) classes [(cI, .int), (cZ, .boolean)] A [(h0, .inr (1, [.ref q1, .ref q2, .ref q3, .ref q4, .int (nI n)])), (q1, .inl (cI, 40, .inl K)), (q2, .inl (cI, 40, .inl O)), (q3, .inl (cI, 40, .inl u)), (q4, .inl (cI, 40, .inl Z))] t) A) (by decide) (Nat.le_of_ble_eq_true rfl) ?_
  intro p e s m args below meth c A ls F hr hlocks hin hA hP hD hl hS
  have hx := F.1
  have hb := F.2.1
  have hml := F.2.2.1
  have hown : s.vm.findClass "BranchConstants$Rewriting" = some m.cls := F.2.2.2.1
  have htw := F.2.2.2.2.1
  have hN := F.2.2.2.2.2.1
  have hK := F.2.2.2.2.2.2
  have hl : lv_has ls 2 [(0, .ref h0)] := hl
  refine lv_iconst (v := 0) hx hb de_W_thread_0 (by decide) ?_
  refine bc_ti (y := nI 0) nI_0.symm ?_
  refine lv_istore_n (lv' := [(1, .int (nI 0)), (0, .ref h0)]) hx hb de_W_thread_1 rfl hl (by decide) rfl (fun ls hl => ?_)
  refine bc_loop (fun k_2 H locs ls => ∃ (i : Nat) (T3 : bc_F), lv_has ls 2 [(1, .int (nI i)), (0, .ref h0)] ∧ va_P (dC, dI) classes [(h0, .inr (1, [.ref q1, .ref q2, .ref q3, .ref q4, .int (nI n)])), (q1, .inl (cI, 40, .inl K)), (q2, .inl (cI, 40, .inl O)), (q3, .inl (cI, 40, .inl T3)), (q4, .inl (cI, 40, .inl Z))] H ∧ va_D A [(h0, .inr (1, [.ref q1, .ref q2, .ref q3, .ref q4, .int (nI n)])), (q1, .inl (cI, 40, .inl K)), (q2, .inl (cI, 40, .inl O)), (q3, .inl (cI, 40, .inl T3)), (q4, .inl (cI, 40, .inl Z))] ∧ va_S A s.heap H locs ∧ k_2 = n - i ∧ (i ≤ n) ∧ (bc_TI n K T i T3)) ?_ ?_
  · rintro k_2 H locs ls ⟨i, T3, hl, hP, hD, hS, hk_2, hi, hJ⟩ ih_2
    refine lv_iload_n hx hb de_W_thread_2 rfl (lv_at hl 0 rfl) ?_
    refine lv_aload_n hx hb de_W_thread_3 rfl (lv_at hl 1 rfl) ?_
    refine va_getN (D := (dC, dI)) (ci := 1) (v := .int (nI n)) (C := rc_C) (T := fc_C) (N := 5) hx hb htw wi_C hown hK hP 0 rfl rfl 4 (by decide) (va_Nw.use rfl (hN _ nm_15)) (fun _ h9 => h9) rfl de_W_thread_4 ?_
    refine lv_icmp_ge (tgt := 39) hx hb de_W_thread_7 (by decide) (fun hc_7 => ?_) (fun hc_7 => ?_)
    · have heq : i = n := by have := bc_ge (by omega) (by omega) hc_7; omega
      subst heq
      exact bc_vret F hr hlocks T3 hJ hP hD hS de_W_thread_39
    · have hlt : i < n := bc_lt (by omega) (by omega) hc_7
      refine lv_aload_n hx hb de_W_thread_10 rfl (lv_at hl 1 rfl) ?_
      refine lv_iload_n hx hb de_W_thread_11 rfl (lv_at hl 0 rfl) ?_
      refine bc_call_nv_i (As := [.int (nI i)]) (rest := []) (wr := []) F (co_C_hasTarget (by omega)) wm_325 wm_2 nm_43 wm_324 wm_613 0 rfl rfl pd_C_hasTarget rfl rfl ⟨Nat.le_of_ble_eq_true rfl, Nat.le_of_ble_eq_true rfl⟩ hP hD hS hA [0, 1, 2, 3, 4] [] rfl rfl rfl rfl (by decide) rfl hl.1 rfl (Nat.le_of_ble_eq_true rfl) de_W_thread_12 ⟨Nat.le_of_ble_eq_true rfl, Nat.le_of_ble_eq_true rfl⟩ (fun r_12 u_12 H locs hw_12 hP hD hS => ?_)
      have hP : va_P (dC, dI) classes [(h0, .inr (1, [.ref q1, .ref q2, .ref q3, .ref q4, .int (nI n)])), (q1, .inl (cI, 40, .inl K)), (q2, .inl (cI, 40, .inl O)), (q3, .inl (cI, 40, .inl T3)), (q4, .inl (cI, 40, .inl Z))] H := hP.sub [0, 1, 2, 3, 4] rfl
      have hD : va_D A [(h0, .inr (1, [.ref q1, .ref q2, .ref q3, .ref q4, .int (nI n)])), (q1, .inl (cI, 40, .inl K)), (q2, .inl (cI, 40, .inl O)), (q3, .inl (cI, 40, .inl T3)), (q4, .inl (cI, 40, .inl Z))] := hD.sub [0, 1, 2, 3, 4] (by decide) rfl
      rcases hw_12 with ⟨he_12, hv_12⟩ | ⟨he_12, hv_12⟩
      · subst he_12
        refine lv_if_eq (tgt := 33) hx hb de_W_thread_15 (by decide) (fun hc => absurd hc (by decide)) (fun _ => ?_)
        refine lv_aload_n hx hb de_W_thread_18 rfl (lv_at hl 1 rfl) ?_
        refine va_getN (D := (dC, dI)) (ci := 1) (v := .ref q3) (C := rc_C) (T := fc_C) (N := 5) hx hb htw wi_C hown hK hP 0 rfl rfl 2 (by decide) (va_Nw.use rfl (hN _ nm_7)) (fun _ h9 => h9) rfl de_W_thread_19 ?_
        refine lv_iload_n hx hb de_W_thread_22 rfl (lv_at hl 0 rfl) ?_
        refine lv_aload_n hx hb de_W_thread_23 rfl (lv_at hl 1 rfl) ?_
        refine lv_aload_n hx hb de_W_thread_24 rfl (lv_at hl 1 rfl) ?_
        refine lv_iload_n hx hb de_W_thread_25 rfl (lv_at hl 0 rfl) ?_
        refine bc_call_nv_i (As := [.int (nI i)]) (rest := [.ref h0, .int (nI i), .ref q3]) (wr := []) F (co_C_target (by omega) hn ((hJ i hlt).1 hv_12).1) wm_154 wm_2 nm_44 wm_153 wm_601 0 rfl rfl pd_C_target rfl rfl ⟨Nat.le_of_ble_eq_true rfl, Nat.le_of_ble_eq_true rfl⟩ hP hD hS hA [0, 1, 2, 3, 4] [] rfl rfl rfl rfl (by decide) rfl hl.1 rfl (Nat.le_of_ble_eq_true rfl) de_W_thread_26 ⟨Nat.le_of_ble_eq_true rfl, Nat.le_of_ble_eq_true rfl⟩ (fun r_26 u_26 H locs hw_26 hP hD hS => ?_)
        have hP : va_P (dC, dI) classes [(h0, .inr (1, [.ref q1, .ref q2, .ref q3, .ref q4, .int (nI n)])), (q1, .inl (cI, 40, .inl K)), (q2, .inl (cI, 40, .inl O)), (q3, .inl (cI, 40, .inl T3)), (q4, .inl (cI, 40, .inl Z))] H := hP.sub [0, 1, 2, 3, 4] rfl
        have hD : va_D A [(h0, .inr (1, [.ref q1, .ref q2, .ref q3, .ref q4, .int (nI n)])), (q1, .inl (cI, 40, .inl K)), (q2, .inl (cI, 40, .inl O)), (q3, .inl (cI, 40, .inl T3)), (q4, .inl (cI, 40, .inl Z))] := hD.sub [0, 1, 2, 3, 4] (by decide) rfl
        subst hw_26
        refine bc_call_s_i (As := [.ref h0, .int (nI (bc_tn n (T3 i)))]) (rest := [.int (nI i), .ref q3]) (wr := []) F (co_W_endOfChain hn (bc_tn_le _ _) (fun j hj h6 => ((hJ j hj).1 (Or.inl h6)).1)) wm_328 wm_4 wm_326 wm_327 pd_W_endOfChain rfl rfl ⟨Nat.le_of_ble_eq_true rfl, Nat.le_of_ble_eq_true rfl⟩ hP hD hS hA [0, 1, 2, 3, 4] [] rfl rfl rfl rfl (by decide) rfl hl.1 rfl (Nat.le_of_ble_eq_true rfl) de_W_thread_29 ⟨Nat.le_of_ble_eq_true rfl, Nat.le_of_ble_eq_true rfl⟩ (fun r_29 u_29 H locs hw_29 hP hD hS => ?_)
        have hP : va_P (dC, dI) classes [(h0, .inr (1, [.ref q1, .ref q2, .ref q3, .ref q4, .int (nI n)])), (q1, .inl (cI, 40, .inl K)), (q2, .inl (cI, 40, .inl O)), (q3, .inl (cI, 40, .inl T3)), (q4, .inl (cI, 40, .inl Z))] H := hP.sub [0, 1, 2, 3, 4] rfl
        have hD : va_D A [(h0, .inr (1, [.ref q1, .ref q2, .ref q3, .ref q4, .int (nI n)])), (q1, .inl (cI, 40, .inl K)), (q2, .inl (cI, 40, .inl O)), (q3, .inl (cI, 40, .inl T3)), (q4, .inl (cI, 40, .inl Z))] := hD.sub [0, 1, 2, 3, 4] (by decide) rfl
        subst hw_29
        refine bc_ist (j := i) hx hb hK hP hD hS 3 0 rfl rfl (by omega) (by decide) de_W_thread_32 (fun H locs hP hD hS => ?_)
        have hP : va_P (dC, dI) classes [(h0, .inr (1, [.ref q1, .ref q2, .ref q3, .ref q4, .int (nI n)])), (q1, .inl (cI, 40, .inl K)), (q2, .inl (cI, 40, .inl O)), (q3, .inl (cI, 40, .inl (upd T3 i (nI (bc_end n K (fun j => bc_tn n (T3 j)) (bc_tn n (T3 i))))))), (q4, .inl (cI, 40, .inl Z))] H := hP
        have hD : va_D A [(h0, .inr (1, [.ref q1, .ref q2, .ref q3, .ref q4, .int (nI n)])), (q1, .inl (cI, 40, .inl K)), (q2, .inl (cI, 40, .inl O)), (q3, .inl (cI, 40, .inl (upd T3 i (nI (bc_end n K (fun j => bc_tn n (T3 j)) (bc_tn n (T3 i))))))), (q4, .inl (cI, 40, .inl Z))] := hD
        refine lv_iinc (k := 0) (v := nI (i + 1)) (lv' := [(1, .int (nI (i + 1))), (0, .ref h0)]) hx hb de_W_thread_33 hl rfl (bc_inc _) (by decide) rfl (fun ls hl => ?_)
        refine lv_goto (tgt := 2) hx hb de_W_thread_36 (by decide) ?_
        exact ih_2 _ _ _ _ (by omega) ⟨(i + 1), upd T3 i (nI (bc_end n K (fun j => bc_tn n (T3 j)) (bc_tn n (T3 i)))), lv_sub hl [0, 1] rfl, hP, hD, hS, rfl, (by omega), bc_TI_put hn hlt hJ hv_12⟩
      · subst he_12
        refine lv_if_eq (tgt := 33) hx hb de_W_thread_15 (by decide) (fun _ => ?_) (fun hc => absurd (by decide) hc)
        refine lv_iinc (k := 0) (v := nI (i + 1)) (lv' := [(1, .int (nI (i + 1))), (0, .ref h0)]) hx hb de_W_thread_33 hl rfl (bc_inc _) (by decide) rfl (fun ls hl => ?_)
        refine lv_goto (tgt := 2) hx hb de_W_thread_36 (by decide) ?_
        exact ih_2 _ _ _ _ (by omega) ⟨(i + 1), T3, lv_sub hl [0, 1] rfl, hP, hD, hS, rfl, (by omega), bc_TI_skip hJ hv_12⟩
  · exact ⟨_, 0, T, lv_sub hl [0, 1] rfl, hP, hD, hS, rfl, Nat.zero_le _, fun j hj => ⟨fun hg => ⟨htr j hj hg, fun z => absurd z (Nat.not_lt_zero j), fun _ => rfl⟩, fun _ => rfl⟩⟩
end
section
/-! Rewriting: what stays, jumps to the next, new numbers (by program: wip/whole/gen/modW2.py) -/
theorem bc_kp_U {n c t c' d : Nat} {A U A' U' : bc_F} (h : bc_kp n A U c t A' U' c') (hd : d < c) : U' d = U d := by
  by_cases z : t < n ∧ A t = 0
  · rw [(h.1 z.1 z.2).2.1, pk_un (by omega)]
  · rw [(h.2 z).2.1]
theorem bc_kp_c {n c t c' : Nat} {A U A' U' : bc_F} (h : bc_kp n A U c t A' U' c') : c ≤ c' := by
  by_cases z : t < n ∧ A t = 0
  · rw [(h.1 z.1 z.2).2.2]; omega
  · rw [(h.2 z).2.2]; exact Nat.le_refl _
theorem bc_ct_zero {A : bc_F} {n : Nat} (h : ∀ j, j < n → A j = 0) : bc_ct A n = 0 := by
  have h1 := bc_sm_bound (f := fun j => if A j = 0 then 0 else 1) (b := 0) (k := n) (fun j hj => by
    show (if A j = 0 then 0 else 1) ≤ 0
    rw [if_pos (h j hj)]
    exact Nat.le_refl _)
  have h2 : bc_ct A n ≤ 0 * n := h1
  omega
theorem bc_QI_0 {n : Nat} {K : bc_F} {q : Nat → Nat} {A U : bc_F} (h : ∀ j, j < n → A j = 0) : bc_QI n K q A U 0 0 :=
  ⟨(bc_ct_zero h).symm, fun j hj z => absurd (h j hj) z, fun x hx => absurd hx (Nat.not_lt_zero x), fun j hj z => absurd (h j hj) z, fun x hx => absurd hx (Nat.not_lt_zero x)⟩
theorem bc_QI_c {n : Nat} {K : bc_F} {q : Nat → Nat} {A U : bc_F} {c d : Nat} (h : bc_QI n K q A U c d) : c ≤ n := by
  rw [h.1]; exact bc_ct_le A n
theorem bc_QI_lt {n : Nat} {K : bc_F} {q : Nat → Nat} {A U : bc_F} {c d t : Nat} (h : bc_QI n K q A U c d) (ht : t < n) (h0 : A t = 0) : c < n := by
  rw [h.1]; exact bc_ct_full A n t ht h0
theorem bc_dec1 (j : Nat) : nI j + Int32.ofInt (-1) = nI j - 1 := by
  rw [Int32.sub_eq_add_neg]
  rfl
theorem bc_km1 {k : Nat} (h : ¬ nI k - 1 < 0) : ∃ j, k = j + 1 := by
  cases k with
  | zero => exact absurd (by decide) h
  | succ j => exact ⟨j, rfl⟩
theorem bc_km0 {k : Nat} (hk : k ≤ 40) (h : nI k - 1 < 0) : k = 0 := by
  cases k with
  | zero => rfl
  | succ j => rw [nI_pred] at h; exact absurd h (nI_pos (by omega))
theorem bc_DJ_up {n : Nat} {K : bc_F} {q : Nat → Nat} {A B : bc_F} {i j : Nat} {x : Int32} (hji : j < i) (h : bc_DJ n K q A B i) : bc_DJ n K q A (upd B j x) i := by
  intro k hk
  have hk' : bc_nx n B (i + 1) k := bc_nx_cg hk (fun m h1 _ => by rw [pk_un (by omega)])
  rw [pk_un (by omega)]
  exact h k hk'
def bc_DI (n : Nat) (K : bc_F) (q : Nat → Nat) (A0 : bc_F) (k x : Nat) (B : bc_F) : Prop := (∀ i, k ≤ i → i < n → bc_DJ n K q A0 B i) ∧ (∀ i, i < k → B i = A0 i) ∧ bc_nx n B k x ∧ k ≤ n
theorem bc_DI_0 (n : Nat) (K : bc_F) (q : Nat → Nat) (A0 : bc_F) : bc_DI n K q A0 n n A0 := ⟨fun i h1 h2 => by omega, fun _ _ => rfl, bc_nx_n n A0, Nat.le_refl _⟩
theorem bc_DI_a {n : Nat} {K : bc_F} {q : Nat → Nat} {A0 : bc_F} {j x : Nat} {B : bc_F} (h : bc_DI n K q A0 (j + 1) x B) (hB : ¬ B j = 0) (h6 : K j = 6) (hq : q j = x) : bc_DI n K q A0 j x (upd B j 0) := by
  obtain ⟨h1, h2, h3, h4⟩ := h
  have hx : bc_nx n (upd B j 0) (j + 1) x := bc_nx_cg h3 (fun m hm _ => by rw [pk_un (by omega)])
  refine ⟨fun i hi hin => ?_, fun i hi => by rw [pk_un (by omega)]; exact h2 i (by omega), bc_nx_on pk_us hx, by omega⟩
  by_cases e : i = j
  · subst e
    intro k hk
    have e2 := bc_nx_uniq hk hx
    rw [pk_us]
    exact ⟨fun z => absurd rfl z, fun z => absurd ⟨h6, by rw [e2]; exact hq⟩ z.2⟩
  · exact bc_DJ_up (by omega) (h1 i (by omega) hin)
theorem bc_DI_b {n : Nat} {K : bc_F} {q : Nat → Nat} {A0 : bc_F} {j x : Nat} {B : bc_F} (h : bc_DI n K q A0 (j + 1) x B) (hB : ¬ B j = 0) (hn : ¬ (K j = 6 ∧ q j = x)) : bc_DI n K q A0 j j B := by
  obtain ⟨h1, h2, h3, h4⟩ := h
  refine ⟨fun i hi hin => ?_, fun i hi => h2 i (by omega), bc_nx_at (by omega) hB, by omega⟩
  by_cases e : i = j
  · subst e
    intro k hk
    have e2 := bc_nx_uniq hk h3
    rw [e2]
    exact ⟨fun z => ⟨by rw [← h2 i (by omega)]; exact z, hn⟩, fun _ => hB⟩
  · exact h1 i (by omega) hin
theorem bc_DI_c {n : Nat} {K : bc_F} {q : Nat → Nat} {A0 : bc_F} {j x : Nat} {B : bc_F} (h : bc_DI n K q A0 (j + 1) x B) (hB : B j = 0) : bc_DI n K q A0 j x B := by
  obtain ⟨h1, h2, h3, h4⟩ := h
  refine ⟨fun i hi hin => ?_, fun i hi => h2 i (by omega), bc_nx_on hB h3, by omega⟩
  by_cases e : i = j
  · subst e
    intro k hk
    exact ⟨fun z => absurd hB z, fun z => absurd (by rw [← h2 i (by omega)]; exact hB) z.1⟩
  · exact h1 i (by omega) hin
def bc_MVa (n : Nat) (K O T Z B : bc_F) (j : Nat) (k o t z : Int32) : Prop := k = K j ∧ o = bc_p1 (K j) (O j) ∧ z = bc_p3 (K j) (Z j) ∧ (bc_gs (K j) → t = bc_p2 (K j) (nI (bc_ct B (bc_tn n (T j))))) ∧ (¬ bc_gs (K j) → t = bc_p2 (K j) (T j))
def bc_MV (n : Nat) (K O T Z B : bc_F) (i : Nat) (K3 O3 T3 Z3 : bc_F) : Prop := (∀ j, j < i → j < n → B j ≠ 0 → bc_MVa n K O T Z B j (K3 (bc_ct B j)) (O3 (bc_ct B j)) (T3 (bc_ct B j)) (Z3 (bc_ct B j))) ∧ ∀ j, i ≤ j → j < n → K3 j = K j ∧ O3 j = O j ∧ T3 j = T j ∧ Z3 j = Z j
theorem bc_MV_put {n : Nat} {K O T Z B K3 O3 T3 Z3 : bc_F} {i : Nat} {a b d e : Int32} (h : bc_MV n K O T Z B i K3 O3 T3 Z3) (hi : i < n) (hB : B i ≠ 0) (hf : bc_MVa n K O T Z B i a b d e) : bc_MV n K O T Z B (i + 1) (upd K3 (bc_ct B i) a) (upd O3 (bc_ct B i) b) (upd T3 (bc_ct B i) d) (upd Z3 (bc_ct B i) e) := by
  refine ⟨fun j hj hjn hBj => ?_, fun j hj hjn => ?_⟩
  · by_cases c : j = i
    · subst c; rw [pk_us, pk_us, pk_us, pk_us]; exact hf
    · have hlt := bc_ct_lt hBj (show j < i by omega)
      have hne : bc_ct B j ≠ bc_ct B i := by omega
      rw [pk_un hne, pk_un hne, pk_un hne, pk_un hne]; exact h.1 j (by omega) hjn hBj
  · have hle := bc_ct_le B i
    have hne : j ≠ bc_ct B i := by omega
    rw [pk_un hne, pk_un hne, pk_un hne, pk_un hne]; exact h.2 j (by omega) hjn
theorem bc_MV_skip {n : Nat} {K O T Z B K3 O3 T3 Z3 : bc_F} {i : Nat} (h : bc_MV n K O T Z B i K3 O3 T3 Z3) (hB : B i = 0) : bc_MV n K O T Z B (i + 1) K3 O3 T3 Z3 := by
  refine ⟨fun j hj hjn hBj => ?_, fun j hj hjn => h.2 j (by omega) hjn⟩
  by_cases c : j = i
  · subst c; exact absurd hB hBj
  · exact h.1 j (by omega) hjn hBj
set_option maxHeartbeats 4000000 in
set_option maxRecDepth 100000 in
/-- one more stays -/
theorem co_W_keep {l : Launch} {dC : Nat → ClassId} {dI : Nat → Nat → Nat} {cI cZ : ClassId} {sz : Nat} {w0 w1 w2 w3 cq : Nat} {B U Nn : bc_F}{h0 q1 q2 q3 q4 n : Nat} {t : Nat} (hn : n ≤ 40) (ht : t < 2 ^ 31) (hcq : t < n → B t = 0 → cq < 40) : Met l yn_W_keep (Cond.code yn_W_keep by_W_keep 3 none :: wd_all) ({ frames := 0, cells := 0, slots := 0, locals := 0 } : Room) (bc_Pre (dC, dI) classes [(cI, .int), (cZ, .boolean)] [.ref w0, .ref h0, .int (nI t)] [(w0, .inr (3, [.ref w1, .ref w2, .ref w3, .int (nI cq)])), (w1, .inl (cZ, 40, .inl B)), (w2, .inl (cI, 40, .inl U)), (w3, .inl (cI, 41, .inl Nn)), (h0, .inr (1, [.ref q1, .ref q2, .ref q3, .ref q4, .int (nI n)]))] sz) (va_Qv (fun (u : bc_F × bc_F × Nat) => bc_kp n B U cq t u.1 u.2.1 u.2.2) (fun (u : bc_F × bc_F × Nat) t => bc_B (dC, dI) classes [(cI, .int), (cZ, .boolean)] (va_A [(w0, .inr (3, [.ref w1, .ref w2, .ref w3, .int (nI cq)])), (w1, .inl (cZ, 40, .inl B)), (w2, .inl (cI, 40, .inl U)), (w3, .inl (cI, 41, .inl Nn)), (h0, .inr (1, [.ref q1, .ref q2, .ref q3, .ref q4, .int (nI n)]))] sz) [(w0, .inr (3, [.ref w1, .ref w2, .ref w3, .int (nI u.2.2)])), (w1, .inl (cZ, 40, .inl u.1)), (w2, .inl (cI, 40, .inl u.2.1)), (w3, .inl (cI, 41, .inl Nn)), (h0, .inr (1, [.ref q1, .ref q2, .ref q3, .ref q4, .int (nI n)]))] t) ((va_A [(w0, .inr (3, [.ref w1, .ref w2, .ref w3, .int (nI cq)])), (w1, .inl (cZ, 40, .inl B)), (w2, .inl (cI, 40, .inl U)), (w3, .inl (cI, 41, .inl Nn)), (h0, .inr (1, [.ref q1, .ref q2, .ref q3, .ref q4, .int (nI n)]))] sz))) 0 0 (va_A [(w0, .inr (3, [.ref w1, .ref w2, .ref w3, .int (nI cq)])), (w1, .inl (cZ, 40, .inl B)), (w2, .inl (cI, 40, .inl U)), (w3, .inl (cI, 41, .inl Nn)), (h0, .inr (1, [.ref q1, .ref q2, .ref q3, .ref q4, .int (nI n)]))] sz) := by
  refine bc_met (fun A => va_Qv (fun (u : bc_F × bc_F × Nat) => bc_kp n B U cq t u.1 u.2.1 u.2.2) (fun (u : bc_F × bc_F × Nat) t => bc_B (dC, dI) classes [(cI, .int), (cZ, .boolean)] A [(w0, .inr (3, [.ref w1, .ref w2, .ref w3, .int (nI u.2.2)])), (w1, .inl (cZ, 40, .inl u.1)), (w2, .inl (cI, 40, .inl u.2.1)), (w3, .inl (cI, 41, .inl Nn)), (h0, .inr (1, [.ref q1, .ref q2, .ref q3, .ref q4, .int (nI n)]))] t) A) (by decide) (Nat.le_of_ble_eq_true rfl) ?_
  intro p e s m args below meth c A ls F hr hlocks hin hA hP hD hl hS
  have hx := F.1
  have hb := F.2.1
  have hml := F.2.2.1
  have hown : s.vm.findClass "BranchConstants$Rewriting" = some m.cls := F.2.2.2.1
  have htw := F.2.2.2.2.1
  have hN := F.2.2.2.2.2.1
  have hK := F.2.2.2.2.2.2
  have hl : lv_has ls 3 [(0, .ref w0), (1, .ref h0), (2, .int (nI t))] := hl
  refine lv_iload_n hx hb de_W_keep_0 rfl (lv_at hl 2 rfl) ?_
  refine lv_aload_n hx hb de_W_keep_1 rfl (lv_at hl 1 rfl) ?_
  refine va_getN (D := (dC, dI)) (ci := 1) (v := .int (nI n)) (C := rc_C) (T := fc_C) (N := 5) hx hb htw wi_C hown hK hP 4 rfl rfl 4 (by decide) (va_Nw.use rfl (hN _ nm_15)) (fun _ h9 => h9) rfl de_W_keep_2 ?_
  refine lv_icmp_ge (tgt := 44) hx hb de_W_keep_5 (by decide) (fun hc_5 => ?_) (fun hc_5 => ?_)
  · exact bc_vret F hr hlocks ((B, U, cq)) ⟨fun z => absurd z (by have := bc_ge (by omega) ht hc_5; omega), fun _ => ⟨rfl, rfl, rfl⟩⟩ hP hD hS de_W_keep_44
  · have hlt : t < n := bc_lt (by omega) ht hc_5
    refine lv_aload_n hx hb de_W_keep_8 rfl (lv_at hl 0 rfl) ?_
    refine va_get (D := (dC, dI)) (ci := 3) (v := .ref w1) (C := rc_W) (T := fc_W) (N := 4) hx hb htw wi_W hown hK hP 0 rfl rfl 0 (by decide) (htw _ wm_64) (fun _ h9 => h9) rfl de_W_keep_9 ?_
    refine lv_iload_n hx hb de_W_keep_12 rfl (lv_at hl 2 rfl) ?_
    refine bc_zld (j := t) hx hb hK hP 1 1 rfl rfl (by omega) (by decide) de_W_keep_13 ?_
    refine lv_if_ne (tgt := 44) hx hb de_W_keep_14 (by decide) (fun hc_14 => ?_) (fun hc_14 => ?_)
    · exact bc_vret F hr hlocks ((B, U, cq)) ⟨fun _ z => absurd z hc_14, fun _ => ⟨rfl, rfl, rfl⟩⟩ hP hD hS de_W_keep_44
    · have hq9 : cq < 40 := hcq hlt hc_14
      refine lv_aload_n hx hb de_W_keep_17 rfl (lv_at hl 0 rfl) ?_
      refine va_get (D := (dC, dI)) (ci := 3) (v := .ref w1) (C := rc_W) (T := fc_W) (N := 4) hx hb htw wi_W hown hK hP 0 rfl rfl 0 (by decide) (htw _ wm_64) (fun _ h9 => h9) rfl de_W_keep_18 ?_
      refine lv_iload_n hx hb de_W_keep_21 rfl (lv_at hl 2 rfl) ?_
      refine lv_iconst (v := 1) hx hb de_W_keep_22 (by decide) ?_
      refine bc_zst (j := t) hx hb hK hP hD hS 1 1 rfl rfl (by decide) (by omega) (by decide) de_W_keep_23 (fun H locs hP hD hS => ?_)
      have hP : va_P (dC, dI) classes [(w0, .inr (3, [.ref w1, .ref w2, .ref w3, .int (nI cq)])), (w1, .inl (cZ, 40, .inl (upd B t 1))), (w2, .inl (cI, 40, .inl U)), (w3, .inl (cI, 41, .inl Nn)), (h0, .inr (1, [.ref q1, .ref q2, .ref q3, .ref q4, .int (nI n)]))] H := hP
      have hD : va_D A [(w0, .inr (3, [.ref w1, .ref w2, .ref w3, .int (nI cq)])), (w1, .inl (cZ, 40, .inl (upd B t 1))), (w2, .inl (cI, 40, .inl U)), (w3, .inl (cI, 41, .inl Nn)), (h0, .inr (1, [.ref q1, .ref q2, .ref q3, .ref q4, .int (nI n)]))] := hD
      refine lv_aload_n hx hb de_W_keep_24 rfl (lv_at hl 0 rfl) ?_
      refine va_get (D := (dC, dI)) (ci := 3) (v := .ref w2) (C := rc_W) (T := fc_W) (N := 4) hx hb htw wi_W hown hK hP 0 rfl rfl 1 (by decide) (htw _ wm_65) (fun _ h9 => h9) rfl de_W_keep_25 ?_
      refine lv_aload_n hx hb de_W_keep_28 rfl (lv_at hl 0 rfl) ?_
      refine va_get (D := (dC, dI)) (ci := 3) (v := .int (nI cq)) (C := rc_W) (T := fc_W) (N := 4) hx hb htw wi_W hown hK hP 0 rfl rfl 3 (by decide) (htw _ wm_67) (fun _ h9 => h9) rfl de_W_keep_29 ?_
      refine lv_iload_n hx hb de_W_keep_32 rfl (lv_at hl 2 rfl) ?_
      refine bc_ist (j := cq) hx hb hK hP hD hS 2 0 rfl rfl hq9 (by decide) de_W_keep_33 (fun H locs hP hD hS => ?_)
      have hP : va_P (dC, dI) classes [(w0, .inr (3, [.ref w1, .ref w2, .ref w3, .int (nI cq)])), (w1, .inl (cZ, 40, .inl (upd B t 1))), (w2, .inl (cI, 40, .inl (upd U cq (nI t)))), (w3, .inl (cI, 41, .inl Nn)), (h0, .inr (1, [.ref q1, .ref q2, .ref q3, .ref q4, .int (nI n)]))] H := hP
      have hD : va_D A [(w0, .inr (3, [.ref w1, .ref w2, .ref w3, .int (nI cq)])), (w1, .inl (cZ, 40, .inl (upd B t 1))), (w2, .inl (cI, 40, .inl (upd U cq (nI t)))), (w3, .inl (cI, 41, .inl Nn)), (h0, .inr (1, [.ref q1, .ref q2, .ref q3, .ref q4, .int (nI n)]))] := hD
      refine lv_aload_n hx hb de_W_keep_34 rfl (lv_at hl 0 rfl) ?_
      refine lv_dup hx hb de_W_keep_35 rfl ?_
      refine va_get (D := (dC, dI)) (ci := 3) (v := .int (nI cq)) (C := rc_W) (T := fc_W) (N := 4) hx hb htw wi_W hown hK hP 0 rfl rfl 3 (by decide) (htw _ wm_67) (fun _ h9 => h9) rfl de_W_keep_36 ?_
      refine lv_iconst (v := 1) hx hb de_W_keep_39 (by decide) ?_
      refine lv_iadd hx hb de_W_keep_40 ?_
      refine bc_ti (y := nI (cq + 1)) (nI_1 cq) ?_
      refine va_put (D := (dC, dI)) (ci := 3) (v := .int (nI (cq + 1))) (ty := .int) (C := rc_W) (T := fc_W) (N := 4) hx hb htw wi_W tc_W tc_W_ok nc_W hown hK hP hD hS 0 rfl rfl 3 (by decide) (htw _ wm_67) (fun _ h9 => h9) rfl (by decide +kernel) rfl rfl (Nat.le_of_ble_eq_true rfl) de_W_keep_41 (fun H locs hP hD hS => ?_)
      have hP : va_P (dC, dI) classes [(w0, .inr (3, [.ref w1, .ref w2, .ref w3, .int (nI (cq + 1))])), (w1, .inl (cZ, 40, .inl (upd B t 1))), (w2, .inl (cI, 40, .inl (upd U cq (nI t)))), (w3, .inl (cI, 41, .inl Nn)), (h0, .inr (1, [.ref q1, .ref q2, .ref q3, .ref q4, .int (nI n)]))] H := hP
      have hD : va_D A [(w0, .inr (3, [.ref w1, .ref w2, .ref w3, .int (nI (cq + 1))])), (w1, .inl (cZ, 40, .inl (upd B t 1))), (w2, .inl (cI, 40, .inl (upd U cq (nI t)))), (w3, .inl (cI, 41, .inl Nn)), (h0, .inr (1, [.ref q1, .ref q2, .ref q3, .ref q4, .int (nI n)]))] := hD
      exact bc_vret F hr hlocks ((upd B t 1, upd U cq (nI t), cq + 1)) ⟨fun _ _ => ⟨rfl, rfl, rfl⟩, fun z => absurd ⟨hlt, hc_14⟩ z⟩ hP hD hS de_W_keep_44

set_option maxHeartbeats 4000000 in
set_option maxRecDepth 100000 in
/-- what can be come to stays -/
theorem co_W_keepWhatCanBeComeTo {l : Launch} {dC : Nat → ClassId} {dI : Nat → Nat → Nat} {cI cZ : ClassId} {sz : Nat} {w0 w1 w2 w3 cq : Nat} {B U Nn : bc_F}{h0 q1 q2 q3 q4 n : Nat} {K O T Z : bc_F}(hn : n ≤ 40) (htr : ∀ j, j < n → bc_gs (K j) → bc_tr (T j)) : Met l yn_W_keepWhatCanBeComeTo (Cond.code yn_W_keepWhatCanBeComeTo by_W_keepWhatCanBeComeTo 4 none :: wd_all) ({ frames := 1, cells := 0, slots := 0, locals := 22 } : Room) (bc_Pre (dC, dI) classes [(cI, .int), (cZ, .boolean)] [.ref w0, .ref h0] [(w0, .inr (3, [.ref w1, .ref w2, .ref w3, .int (nI cq)])), (w1, .inl (cZ, 40, .inl B)), (w2, .inl (cI, 40, .inl U)), (w3, .inl (cI, 41, .inl Nn)), (h0, .inr (1, [.ref q1, .ref q2, .ref q3, .ref q4, .int (nI n)])), (q1, .inl (cI, 40, .inl K)), (q2, .inl (cI, 40, .inl O)), (q3, .inl (cI, 40, .inl T)), (q4, .inl (cI, 40, .inl Z))] sz) (va_Qv (fun (u : bc_F × bc_F × Nat) => ∀ j, j < n → (u.1 j ≠ 0 ↔ bc_sty n K (fun j => bc_tn n (T j)) j)) (fun (u : bc_F × bc_F × Nat) t => bc_B (dC, dI) classes [(cI, .int), (cZ, .boolean)] (va_A [(w0, .inr (3, [.ref w1, .ref w2, .ref w3, .int (nI cq)])), (w1, .inl (cZ, 40, .inl B)), (w2, .inl (cI, 40, .inl U)), (w3, .inl (cI, 41, .inl Nn)), (h0, .inr (1, [.ref q1, .ref q2, .ref q3, .ref q4, .int (nI n)])), (q1, .inl (cI, 40, .inl K)), (q2, .inl (cI, 40, .inl O)), (q3, .inl (cI, 40, .inl T)), (q4, .inl (cI, 40, .inl Z))] sz) [(w0, .inr (3, [.ref w1, .ref w2, .ref w3, .int (nI u.2.2)])), (w1, .inl (cZ, 40, .inl u.1)), (w2, .inl (cI, 40, .inl u.2.1)), (w3, .inl (cI, 41, .inl Nn)), (h0, .inr (1, [.ref q1, .ref q2, .ref q3, .ref q4, .int (nI n)])), (q1, .inl (cI, 40, .inl K)), (q2, .inl (cI, 40, .inl O)), (q3, .inl (cI, 40, .inl T)), (q4, .inl (cI, 40, .inl Z))] t) ((va_A [(w0, .inr (3, [.ref w1, .ref w2, .ref w3, .int (nI cq)])), (w1, .inl (cZ, 40, .inl B)), (w2, .inl (cI, 40, .inl U)), (w3, .inl (cI, 41, .inl Nn)), (h0, .inr (1, [.ref q1, .ref q2, .ref q3, .ref q4, .int (nI n)])), (q1, .inl (cI, 40, .inl K)), (q2, .inl (cI, 40, .inl O)), (q3, .inl (cI, 40, .inl T)), (q4, .inl (cI, 40, .inl Z))] sz))) 0 0 (va_A [(w0, .inr (3, [.ref w1, .ref w2, .ref w3, .int (nI cq)])), (w1, .inl (cZ, 40, .inl B)), (w2, .inl (cI, 40, .inl U)), (w3, .inl (cI, 41, .inl Nn)), (h0, .inr (1, [.ref q1, .ref q2, .ref q3, .ref q4, .int (nI n)])), (q1, .inl (cI, 40, .inl K)), (q2, .inl (cI, 40, .inl O)), (q3, .inl (cI, 40, .inl T)), (q4, .inl (cI, 40, .inl Z))] sz) := by
  refine bc_met (fun A => va_Qv (fun (u : bc_F × bc_F × Nat) => ∀ j, j < n → (u.1 j ≠ 0 ↔ bc_sty n K (fun j => bc_tn n (T j)) j)) (fun (u : bc_F × bc_F × Nat) t => bc_B (dC, dI) classes [(cI, .int), (cZ, .boolean)] A [(w0, .inr (3, [.ref w1, .ref w2, .ref w3, .int (nI u.2.2)])), (w1, .inl (cZ, 40, .inl u.1)), (w2, .inl (cI, 40, .inl u.2.1)), (w3, .inl (cI, 41, .inl Nn)), (h0, .inr (1, [.ref q1, .ref q2, .ref q3, .ref q4, .int (nI n)])), (q1, .inl (cI, 40, .inl K)), (q2, .inl (cI, 40, .inl O)), (q3, .inl (cI, 40, .inl T)), (q4, .inl (cI, 40, .inl Z))] t) A) (by decide) (Nat.le_of_ble_eq_true rfl) ?_
  intro p e s m args below meth c A ls F hr hlocks hin hA hP hD hl hS
  have hx := F.1
  have hb := F.2.1
  have hml := F.2.2.1
  have hown : s.vm.findClass "BranchConstants$Rewriting" = some m.cls := F.2.2.2.1
  have htw := F.2.2.2.2.1
  have hN := F.2.2.2.2.2.1
  have hK := F.2.2.2.2.2.2
  have hl : lv_has ls 4 [(0, .ref w0), (1, .ref h0)] := hl
  refine lv_iconst (v := 0) hx hb de_W_keepWhatCanBeComeTo_0 (by decide) ?_
  refine bc_ti (y := nI 0) nI_0.symm ?_
  refine lv_istore_n (lv' := [(2, .int (nI 0)), (0, .ref w0), (1, .ref h0)]) hx hb de_W_keepWhatCanBeComeTo_1 rfl hl (by decide) rfl (fun ls hl => ?_)
  refine bc_loop (fun k_2 H locs ls => ∃ (i : Nat) (B1 : bc_F), lv_has ls 4 [(2, .int (nI i)), (0, .ref w0), (1, .ref h0)] ∧ va_P (dC, dI) classes [(w0, .inr (3, [.ref w1, .ref w2, .ref w3, .int (nI cq)])), (w1, .inl (cZ, 40, .inl B1)), (w2, .inl (cI, 40, .inl U)), (w3, .inl (cI, 41, .inl Nn)), (h0, .inr (1, [.ref q1, .ref q2, .ref q3, .ref q4, .int (nI n)])), (q1, .inl (cI, 40, .inl K)), (q2, .inl (cI, 40, .inl O)), (q3, .inl (cI, 40, .inl T)), (q4, .inl (cI, 40, .inl Z))] H ∧ va_D A [(w0, .inr (3, [.ref w1, .ref w2, .ref w3, .int (nI cq)])), (w1, .inl (cZ, 40, .inl B1)), (w2, .inl (cI, 40, .inl U)), (w3, .inl (cI, 41, .inl Nn)), (h0, .inr (1, [.ref q1, .ref q2, .ref q3, .ref q4, .int (nI n)])), (q1, .inl (cI, 40, .inl K)), (q2, .inl (cI, 40, .inl O)), (q3, .inl (cI, 40, .inl T)), (q4, .inl (cI, 40, .inl Z))] ∧ va_S A s.heap H locs ∧ k_2 = n - i ∧ (i ≤ n) ∧ (∀ j, j < i → B1 j = 0)) ?_ ?_
  · rintro k_2 H locs ls ⟨i, B1, hl, hP, hD, hS, hk_2, hi, hz⟩ ih_2
    refine lv_iload_n hx hb de_W_keepWhatCanBeComeTo_2 rfl (lv_at hl 0 rfl) ?_
    refine lv_aload_n hx hb de_W_keepWhatCanBeComeTo_3 rfl (lv_at hl 2 rfl) ?_
    refine va_getN (D := (dC, dI)) (ci := 1) (v := .int (nI n)) (C := rc_C) (T := fc_C) (N := 5) hx hb htw wi_C hown hK hP 4 rfl rfl 4 (by decide) (va_Nw.use rfl (hN _ nm_15)) (fun _ h9 => h9) rfl de_W_keepWhatCanBeComeTo_4 ?_
    refine lv_icmp_ge (tgt := 23) hx hb de_W_keepWhatCanBeComeTo_7 (by decide) (fun hc_7 => ?_) (fun hc_7 => ?_)
    · have heq : i = n := by have := bc_ge (by omega) (by omega) hc_7; omega
      have hz : ∀ j, j < n → B1 j = 0 := fun j hj => hz j (by omega)
      refine lv_aload_n hx hb de_W_keepWhatCanBeComeTo_23 rfl (lv_at hl 1 rfl) ?_
      refine lv_iconst (v := 0) hx hb de_W_keepWhatCanBeComeTo_24 (by decide) ?_
      refine bc_ti (y := nI 0) nI_0.symm ?_
      refine va_put (D := (dC, dI)) (ci := 3) (v := .int (nI 0)) (ty := .int) (C := rc_W) (T := fc_W) (N := 4) hx hb htw wi_W tc_W tc_W_ok nc_W hown hK hP hD hS 0 rfl rfl 3 (by decide) (htw _ wm_67) (fun _ h9 => h9) rfl (by decide +kernel) rfl rfl (Nat.le_of_ble_eq_true rfl) de_W_keepWhatCanBeComeTo_25 (fun H locs hP hD hS => ?_)
      have hP : va_P (dC, dI) classes [(w0, .inr (3, [.ref w1, .ref w2, .ref w3, .int (nI 0)])), (w1, .inl (cZ, 40, .inl B1)), (w2, .inl (cI, 40, .inl U)), (w3, .inl (cI, 41, .inl Nn)), (h0, .inr (1, [.ref q1, .ref q2, .ref q3, .ref q4, .int (nI n)])), (q1, .inl (cI, 40, .inl K)), (q2, .inl (cI, 40, .inl O)), (q3, .inl (cI, 40, .inl T)), (q4, .inl (cI, 40, .inl Z))] H := hP
      have hD : va_D A [(w0, .inr (3, [.ref w1, .ref w2, .ref w3, .int (nI 0)])), (w1, .inl (cZ, 40, .inl B1)), (w2, .inl (cI, 40, .inl U)), (w3, .inl (cI, 41, .inl Nn)), (h0, .inr (1, [.ref q1, .ref q2, .ref q3, .ref q4, .int (nI n)])), (q1, .inl (cI, 40, .inl K)), (q2, .inl (cI, 40, .inl O)), (q3, .inl (cI, 40, .inl T)), (q4, .inl (cI, 40, .inl Z))] := hD
      refine lv_aload_n hx hb de_W_keepWhatCanBeComeTo_28 rfl (lv_at hl 1 rfl) ?_
      refine lv_aload_n hx hb de_W_keepWhatCanBeComeTo_29 rfl (lv_at hl 2 rfl) ?_
      refine lv_iconst (v := 0) hx hb de_W_keepWhatCanBeComeTo_30 (by decide) ?_
      refine bc_ti (y := nI 0) nI_0.symm ?_
      refine bc_call_v_v (As := [.ref h0, .int (nI 0)]) (rest := []) (wr := [(q1, .inl (cI, 40, .inl K)), (q2, .inl (cI, 40, .inl O)), (q3, .inl (cI, 40, .inl T)), (q4, .inl (cI, 40, .inl Z))]) F (co_W_keep (cq := 0) hn (by omega) (fun _ _ => by omega)) wm_334 wm_4 wm_332 wm_333 wm_615 0 rfl rfl pd_W_keep rfl rfl ⟨Nat.le_of_ble_eq_true rfl, Nat.le_of_ble_eq_true rfl⟩ hP hD hS hA [0, 1, 2, 3, 4] [5, 6, 7, 8] rfl rfl rfl rfl (by decide) rfl hl.1 rfl (Nat.le_of_ble_eq_true rfl) de_W_keepWhatCanBeComeTo_31 ⟨Nat.le_of_ble_eq_true rfl, Nat.le_of_ble_eq_true rfl⟩ (fun u_31 H locs hw_31 hP hD hS => ?_)
      obtain ⟨B2, U2, c2⟩ := u_31
      dsimp only at hw_31
      have hP : va_P (dC, dI) classes [(w0, .inr (3, [.ref w1, .ref w2, .ref w3, .int (nI c2)])), (w1, .inl (cZ, 40, .inl B2)), (w2, .inl (cI, 40, .inl U2)), (w3, .inl (cI, 41, .inl Nn)), (h0, .inr (1, [.ref q1, .ref q2, .ref q3, .ref q4, .int (nI n)])), (q1, .inl (cI, 40, .inl K)), (q2, .inl (cI, 40, .inl O)), (q3, .inl (cI, 40, .inl T)), (q4, .inl (cI, 40, .inl Z))] H := hP.sub [4, 5, 6, 7, 8, 0, 1, 2, 3] rfl
      have hD : va_D A [(w0, .inr (3, [.ref w1, .ref w2, .ref w3, .int (nI c2)])), (w1, .inl (cZ, 40, .inl B2)), (w2, .inl (cI, 40, .inl U2)), (w3, .inl (cI, 41, .inl Nn)), (h0, .inr (1, [.ref q1, .ref q2, .ref q3, .ref q4, .int (nI n)])), (q1, .inl (cI, 40, .inl K)), (q2, .inl (cI, 40, .inl O)), (q3, .inl (cI, 40, .inl T)), (q4, .inl (cI, 40, .inl Z))] := hD.sub [4, 5, 6, 7, 8, 0, 1, 2, 3] (by decide) rfl
      refine lv_iconst (v := 0) hx hb de_W_keepWhatCanBeComeTo_34 (by decide) ?_
      refine bc_ti (y := nI 0) nI_0.symm ?_
      refine lv_istore_n (lv' := [(2, .int (nI 0)), (0, .ref w0), (1, .ref h0)]) hx hb de_W_keepWhatCanBeComeTo_35 rfl hl (by decide) rfl (fun ls hl => ?_)
      have hQ0 := bc_QI_kp (bc_QI_0 (K := K) (q := (fun j => bc_tn n (T j))) (U := U) hz) (Nat.le_refl 0) hw_31 (fun z => bc_sty_0 z)
      refine bc_loop (fun k_36 H locs ls => ∃ (d : Nat) (B2 : bc_F) (U2 : bc_F) (c2 : Nat), lv_has ls 4 [(2, .int (nI d)), (0, .ref w0), (1, .ref h0)] ∧ va_P (dC, dI) classes [(w0, .inr (3, [.ref w1, .ref w2, .ref w3, .int (nI c2)])), (w1, .inl (cZ, 40, .inl B2)), (w2, .inl (cI, 40, .inl U2)), (w3, .inl (cI, 41, .inl Nn)), (h0, .inr (1, [.ref q1, .ref q2, .ref q3, .ref q4, .int (nI n)])), (q1, .inl (cI, 40, .inl K)), (q2, .inl (cI, 40, .inl O)), (q3, .inl (cI, 40, .inl T)), (q4, .inl (cI, 40, .inl Z))] H ∧ va_D A [(w0, .inr (3, [.ref w1, .ref w2, .ref w3, .int (nI c2)])), (w1, .inl (cZ, 40, .inl B2)), (w2, .inl (cI, 40, .inl U2)), (w3, .inl (cI, 41, .inl Nn)), (h0, .inr (1, [.ref q1, .ref q2, .ref q3, .ref q4, .int (nI n)])), (q1, .inl (cI, 40, .inl K)), (q2, .inl (cI, 40, .inl O)), (q3, .inl (cI, 40, .inl T)), (q4, .inl (cI, 40, .inl Z))] ∧ va_S A s.heap H locs ∧ k_36 = n - d ∧ (d ≤ c2) ∧ (bc_QI n K (fun j => bc_tn n (T j)) B2 U2 c2 d) ∧ (0 < n → B2 0 ≠ 0)) ?_ ?_
      · rintro k_36 H locs ls ⟨d, B2, U2, c2, hl, hP, hD, hS, hk_36, hd, hQ, h0B⟩ ih_36
        refine lv_iload_n hx hb de_W_keepWhatCanBeComeTo_36 rfl (lv_at hl 0 rfl) ?_
        refine lv_aload_n hx hb de_W_keepWhatCanBeComeTo_37 rfl (lv_at hl 1 rfl) ?_
        refine va_get (D := (dC, dI)) (ci := 3) (v := .int (nI c2)) (C := rc_W) (T := fc_W) (N := 4) hx hb htw wi_W hown hK hP 0 rfl rfl 3 (by decide) (htw _ wm_67) (fun _ h9 => h9) rfl de_W_keepWhatCanBeComeTo_38 ?_
        refine lv_icmp_ge (tgt := 113) hx hb de_W_keepWhatCanBeComeTo_41 (by decide) (fun hc_41 => ?_) (fun hc_41 => ?_)
        · have hend : c2 ≤ d := by have := bc_QI_c hQ; have := bc_ge (by omega) (by omega) hc_41; omega
          exact bc_vret F hr hlocks ((B2, U2, c2)) (bc_QI_end hQ h0B hend) hP hD hS de_W_keepWhatCanBeComeTo_113
        · have hcn := bc_QI_c hQ
          have hdc : d < c2 := bc_lt (by omega) (by omega) hc_41
          refine lv_iload_n hx hb de_W_keepWhatCanBeComeTo_44 rfl (lv_at hl 0 rfl) ?_
          refine lv_aload_n hx hb de_W_keepWhatCanBeComeTo_45 rfl (lv_at hl 2 rfl) ?_
          refine va_getN (D := (dC, dI)) (ci := 1) (v := .int (nI n)) (C := rc_C) (T := fc_C) (N := 5) hx hb htw wi_C hown hK hP 4 rfl rfl 4 (by decide) (va_Nw.use rfl (hN _ nm_15)) (fun _ h9 => h9) rfl de_W_keepWhatCanBeComeTo_46 ?_
          refine lv_icmp_ge (tgt := 113) hx hb de_W_keepWhatCanBeComeTo_49 (by decide) (fun hc_49 => ?_) (fun hc_49 => ?_)
          · have hend : c2 ≤ d := by have := bc_QI_c hQ; have := bc_ge (by omega) (by omega) hc_49; omega
            exact bc_vret F hr hlocks ((B2, U2, c2)) (bc_QI_end hQ h0B hend) hP hD hS de_W_keepWhatCanBeComeTo_113
          · obtain ⟨j, hj, hU, hB⟩ := hQ.2.2.1 d hdc
            refine lv_aload_n hx hb de_W_keepWhatCanBeComeTo_52 rfl (lv_at hl 1 rfl) ?_
            refine va_get (D := (dC, dI)) (ci := 3) (v := .ref w2) (C := rc_W) (T := fc_W) (N := 4) hx hb htw wi_W hown hK hP 0 rfl rfl 1 (by decide) (htw _ wm_65) (fun _ h9 => h9) rfl de_W_keepWhatCanBeComeTo_53 ?_
            refine lv_iload_n hx hb de_W_keepWhatCanBeComeTo_56 rfl (lv_at hl 0 rfl) ?_
            refine bc_ild (j := d) hx hb hK hP 2 0 rfl rfl (by omega) (by decide) de_W_keepWhatCanBeComeTo_57 ?_
            refine bc_ti (y := nI j) hU ?_
            refine lv_istore_n (lv' := [(3, .int (nI j)), (2, .int (nI d)), (0, .ref w0), (1, .ref h0)]) hx hb de_W_keepWhatCanBeComeTo_58 rfl hl (by decide) rfl (fun ls hl => ?_)
            refine lv_aload_n hx hb de_W_keepWhatCanBeComeTo_59 rfl (lv_at hl 3 rfl) ?_
            refine lv_iload_n hx hb de_W_keepWhatCanBeComeTo_60 rfl (lv_at hl 0 rfl) ?_
            refine bc_call_nv_i (As := [.int (nI j)]) (rest := []) (wr := [(w0, .inr (3, [.ref w1, .ref w2, .ref w3, .int (nI c2)])), (w1, .inl (cZ, 40, .inl B2)), (w2, .inl (cI, 40, .inl U2)), (w3, .inl (cI, 41, .inl Nn))]) F (co_C_hasTarget (by omega)) wm_325 wm_2 nm_43 wm_324 wm_613 4 rfl rfl pd_C_hasTarget rfl rfl ⟨Nat.le_of_ble_eq_true rfl, Nat.le_of_ble_eq_true rfl⟩ hP hD hS hA [4, 5, 6, 7, 8] [0, 1, 2, 3] rfl rfl rfl rfl (by decide) rfl hl.1 rfl (Nat.le_of_ble_eq_true rfl) de_W_keepWhatCanBeComeTo_61 ⟨Nat.le_of_ble_eq_true rfl, Nat.le_of_ble_eq_true rfl⟩ (fun r_61 u_61 H locs hw_61 hP hD hS => ?_)
            have hP : va_P (dC, dI) classes [(w0, .inr (3, [.ref w1, .ref w2, .ref w3, .int (nI c2)])), (w1, .inl (cZ, 40, .inl B2)), (w2, .inl (cI, 40, .inl U2)), (w3, .inl (cI, 41, .inl Nn)), (h0, .inr (1, [.ref q1, .ref q2, .ref q3, .ref q4, .int (nI n)])), (q1, .inl (cI, 40, .inl K)), (q2, .inl (cI, 40, .inl O)), (q3, .inl (cI, 40, .inl T)), (q4, .inl (cI, 40, .inl Z))] H := hP.sub [0, 1, 2, 3, 4, 5, 6, 7, 8] rfl
            have hD : va_D A [(w0, .inr (3, [.ref w1, .ref w2, .ref w3, .int (nI c2)])), (w1, .inl (cZ, 40, .inl B2)), (w2, .inl (cI, 40, .inl U2)), (w3, .inl (cI, 41, .inl Nn)), (h0, .inr (1, [.ref q1, .ref q2, .ref q3, .ref q4, .int (nI n)])), (q1, .inl (cI, 40, .inl K)), (q2, .inl (cI, 40, .inl O)), (q3, .inl (cI, 40, .inl T)), (q4, .inl (cI, 40, .inl Z))] := hD.sub [0, 1, 2, 3, 4, 5, 6, 7, 8] (by decide) rfl
            rcases hw_61 with ⟨he_61, hv_61⟩ | ⟨he_61, hv_61⟩
            · subst he_61
              refine lv_if_eq (tgt := 77) hx hb de_W_keepWhatCanBeComeTo_64 (by decide) (fun hc => absurd hc (by decide)) (fun _ => ?_)
              refine lv_aload_n hx hb de_W_keepWhatCanBeComeTo_67 rfl (lv_at hl 2 rfl) ?_
              refine lv_aload_n hx hb de_W_keepWhatCanBeComeTo_68 rfl (lv_at hl 3 rfl) ?_
              refine lv_aload_n hx hb de_W_keepWhatCanBeComeTo_69 rfl (lv_at hl 3 rfl) ?_
              refine lv_iload_n hx hb de_W_keepWhatCanBeComeTo_70 rfl (lv_at hl 0 rfl) ?_
              refine bc_call_nv_i (As := [.int (nI j)]) (rest := [.ref h0, .ref w0]) (wr := [(w0, .inr (3, [.ref w1, .ref w2, .ref w3, .int (nI c2)])), (w1, .inl (cZ, 40, .inl B2)), (w2, .inl (cI, 40, .inl U2)), (w3, .inl (cI, 41, .inl Nn))]) F (co_C_target (by omega) hn (htr j hj hv_61)) wm_154 wm_2 nm_44 wm_153 wm_601 4 rfl rfl pd_C_target rfl rfl ⟨Nat.le_of_ble_eq_true rfl, Nat.le_of_ble_eq_true rfl⟩ hP hD hS hA [4, 5, 6, 7, 8] [0, 1, 2, 3] rfl rfl rfl rfl (by decide) rfl hl.1 rfl (Nat.le_of_ble_eq_true rfl) de_W_keepWhatCanBeComeTo_71 ⟨Nat.le_of_ble_eq_true rfl, Nat.le_of_ble_eq_true rfl⟩ (fun r_71 u_71 H locs hw_71 hP hD hS => ?_)
              have hP : va_P (dC, dI) classes [(w0, .inr (3, [.ref w1, .ref w2, .ref w3, .int (nI c2)])), (w1, .inl (cZ, 40, .inl B2)), (w2, .inl (cI, 40, .inl U2)), (w3, .inl (cI, 41, .inl Nn)), (h0, .inr (1, [.ref q1, .ref q2, .ref q3, .ref q4, .int (nI n)])), (q1, .inl (cI, 40, .inl K)), (q2, .inl (cI, 40, .inl O)), (q3, .inl (cI, 40, .inl T)), (q4, .inl (cI, 40, .inl Z))] H := hP.sub [0, 1, 2, 3, 4, 5, 6, 7, 8] rfl
              have hD : va_D A [(w0, .inr (3, [.ref w1, .ref w2, .ref w3, .int (nI c2)])), (w1, .inl (cZ, 40, .inl B2)), (w2, .inl (cI, 40, .inl U2)), (w3, .inl (cI, 41, .inl Nn)), (h0, .inr (1, [.ref q1, .ref q2, .ref q3, .ref q4, .int (nI n)])), (q1, .inl (cI, 40, .inl K)), (q2, .inl (cI, 40, .inl O)), (q3, .inl (cI, 40, .inl T)), (q4, .inl (cI, 40, .inl Z))] := hD.sub [0, 1, 2, 3, 4, 5, 6, 7, 8] (by decide) rfl
              subst hw_71
              refine bc_call_v_v (As := [.ref h0, .int (nI (bc_tn n (T j)))]) (rest := []) (wr := [(q1, .inl (cI, 40, .inl K)), (q2, .inl (cI, 40, .inl O)), (q3, .inl (cI, 40, .inl T)), (q4, .inl (cI, 40, .inl Z))]) F (co_W_keep hn (by have := bc_tn_le n (T j); omega) (fun a b => by have := bc_QI_lt hQ a b; omega)) wm_334 wm_4 wm_332 wm_333 wm_615 0 rfl rfl pd_W_keep rfl rfl ⟨Nat.le_of_ble_eq_true rfl, Nat.le_of_ble_eq_true rfl⟩ hP hD hS hA [0, 1, 2, 3, 4] [5, 6, 7, 8] rfl rfl rfl rfl (by decide) rfl hl.1 rfl (Nat.le_of_ble_eq_true rfl) de_W_keepWhatCanBeComeTo_74 ⟨Nat.le_of_ble_eq_true rfl, Nat.le_of_ble_eq_true rfl⟩ (fun u_74 H locs hw_74 hP hD hS => ?_)
              obtain ⟨B3, U3, c3⟩ := u_74
              dsimp only at hw_74
              have hm3 := bc_kp_mk hw_74
              obtain ⟨hQ3, hd3⟩ := bc_QI_kp hQ hd hw_74 (fun z => bc_sty_s hj (hQ.2.1 j hj hB) ⟨z, Or.inl ⟨hv_61, rfl⟩⟩)
              have hU3 := (bc_kp_U hw_74 hdc).trans hU
              have hP : va_P (dC, dI) classes [(w0, .inr (3, [.ref w1, .ref w2, .ref w3, .int (nI c3)])), (w1, .inl (cZ, 40, .inl B3)), (w2, .inl (cI, 40, .inl U3)), (w3, .inl (cI, 41, .inl Nn)), (h0, .inr (1, [.ref q1, .ref q2, .ref q3, .ref q4, .int (nI n)])), (q1, .inl (cI, 40, .inl K)), (q2, .inl (cI, 40, .inl O)), (q3, .inl (cI, 40, .inl T)), (q4, .inl (cI, 40, .inl Z))] H := hP.sub [4, 5, 6, 7, 8, 0, 1, 2, 3] rfl
              have hD : va_D A [(w0, .inr (3, [.ref w1, .ref w2, .ref w3, .int (nI c3)])), (w1, .inl (cZ, 40, .inl B3)), (w2, .inl (cI, 40, .inl U3)), (w3, .inl (cI, 41, .inl Nn)), (h0, .inr (1, [.ref q1, .ref q2, .ref q3, .ref q4, .int (nI n)])), (q1, .inl (cI, 40, .inl K)), (q2, .inl (cI, 40, .inl O)), (q3, .inl (cI, 40, .inl T)), (q4, .inl (cI, 40, .inl Z))] := hD.sub [4, 5, 6, 7, 8, 0, 1, 2, 3] (by decide) rfl
              refine lv_aload_n hx hb de_W_keepWhatCanBeComeTo_77 rfl (lv_at hl 3 rfl) ?_
              refine va_getN (D := (dC, dI)) (ci := 1) (v := .ref q1) (C := rc_C) (T := fc_C) (N := 5) hx hb htw wi_C hown hK hP 4 rfl rfl 0 (by decide) (va_Nw.use rfl (hN _ nm_1)) (fun _ h9 => h9) rfl de_W_keepWhatCanBeComeTo_78 ?_
              refine lv_iload_n hx hb de_W_keepWhatCanBeComeTo_81 rfl (lv_at hl 0 rfl) ?_
              refine bc_ild (j := j) hx hb hK hP 5 0 rfl rfl (by omega) (by decide) de_W_keepWhatCanBeComeTo_82 ?_
              refine lv_bipush (v := 6) hx hb de_W_keepWhatCanBeComeTo_83 (by decide) ?_
              refine lv_icmp_eq (tgt := 107) hx hb de_W_keepWhatCanBeComeTo_85 (by decide) (fun hc_85 => ?_) (fun hc_85 => ?_)
              · refine lv_iinc (k := 1) (v := nI (d + 1)) (lv' := [(2, .int (nI (d + 1))), (3, .int (nI j)), (0, .ref w0), (1, .ref h0)]) hx hb de_W_keepWhatCanBeComeTo_107 hl rfl (bc_inc _) (by decide) rfl (fun ls hl => ?_)
                refine lv_goto (tgt := 36) hx hb de_W_keepWhatCanBeComeTo_110 (by decide) ?_
                exact ih_36 _ _ _ _ (by omega) ⟨(d + 1), B3, U3, c3, lv_sub hl [0, 2, 3] rfl, hP, hD, hS, rfl, by have := bc_kp_c hw_74; omega, bc_QI_step (c := c3) (d := d) (A := B3) (U := U3) (by omega) hQ3 hj hU3 (fun t hs => hs.2.elim (fun z => by have e9 := z.2; subst e9; exact (bc_mk_at hm3 hs.1)) (fun z => absurd hc_85 z.1)), fun z => bc_mk_ge hm3 (h0B z)⟩
              · refine lv_aload_n hx hb de_W_keepWhatCanBeComeTo_88 rfl (lv_at hl 3 rfl) ?_
                refine va_getN (D := (dC, dI)) (ci := 1) (v := .ref q1) (C := rc_C) (T := fc_C) (N := 5) hx hb htw wi_C hown hK hP 4 rfl rfl 0 (by decide) (va_Nw.use rfl (hN _ nm_1)) (fun _ h9 => h9) rfl de_W_keepWhatCanBeComeTo_89 ?_
                refine lv_iload_n hx hb de_W_keepWhatCanBeComeTo_92 rfl (lv_at hl 0 rfl) ?_
                refine bc_ild (j := j) hx hb hK hP 5 0 rfl rfl (by omega) (by decide) de_W_keepWhatCanBeComeTo_93 ?_
                refine lv_bipush (v := 7) hx hb de_W_keepWhatCanBeComeTo_94 (by decide) ?_
                refine lv_icmp_eq (tgt := 107) hx hb de_W_keepWhatCanBeComeTo_96 (by decide) (fun hc_96 => ?_) (fun hc_96 => ?_)
                · refine lv_iinc (k := 1) (v := nI (d + 1)) (lv' := [(2, .int (nI (d + 1))), (3, .int (nI j)), (0, .ref w0), (1, .ref h0)]) hx hb de_W_keepWhatCanBeComeTo_107 hl rfl (bc_inc _) (by decide) rfl (fun ls hl => ?_)
                  refine lv_goto (tgt := 36) hx hb de_W_keepWhatCanBeComeTo_110 (by decide) ?_
                  exact ih_36 _ _ _ _ (by omega) ⟨(d + 1), B3, U3, c3, lv_sub hl [0, 2, 3] rfl, hP, hD, hS, rfl, by have := bc_kp_c hw_74; omega, bc_QI_step (c := c3) (d := d) (A := B3) (U := U3) (by omega) hQ3 hj hU3 (fun t hs => hs.2.elim (fun z => by have e9 := z.2; subst e9; exact (bc_mk_at hm3 hs.1)) (fun z => absurd hc_96 z.2.1)), fun z => bc_mk_ge hm3 (h0B z)⟩
                · refine lv_aload_n hx hb de_W_keepWhatCanBeComeTo_99 rfl (lv_at hl 2 rfl) ?_
                  refine lv_aload_n hx hb de_W_keepWhatCanBeComeTo_100 rfl (lv_at hl 3 rfl) ?_
                  refine lv_iload_n hx hb de_W_keepWhatCanBeComeTo_101 rfl (lv_at hl 0 rfl) ?_
                  refine lv_iconst (v := 1) hx hb de_W_keepWhatCanBeComeTo_102 (by decide) ?_
                  refine lv_iadd hx hb de_W_keepWhatCanBeComeTo_103 ?_
                  refine bc_ti (y := nI (j + 1)) (nI_1 j) ?_
                  refine bc_call_v_v (As := [.ref h0, .int (nI (j + 1))]) (rest := []) (wr := [(q1, .inl (cI, 40, .inl K)), (q2, .inl (cI, 40, .inl O)), (q3, .inl (cI, 40, .inl T)), (q4, .inl (cI, 40, .inl Z))]) F (co_W_keep hn (by omega) (fun a b => by have := bc_QI_lt hQ3 a b; omega)) wm_334 wm_4 wm_332 wm_333 wm_615 0 rfl rfl pd_W_keep rfl rfl ⟨Nat.le_of_ble_eq_true rfl, Nat.le_of_ble_eq_true rfl⟩ hP hD hS hA [0, 1, 2, 3, 4] [5, 6, 7, 8] rfl rfl rfl rfl (by decide) rfl hl.1 rfl (Nat.le_of_ble_eq_true rfl) de_W_keepWhatCanBeComeTo_104 ⟨Nat.le_of_ble_eq_true rfl, Nat.le_of_ble_eq_true rfl⟩ (fun u_104 H locs hw_104 hP hD hS => ?_)
                  obtain ⟨B4, U4, c4⟩ := u_104
                  dsimp only at hw_104
                  have hm4 := bc_kp_mk hw_104
                  obtain ⟨hQ4, hd4⟩ := bc_QI_kp hQ3 hd3 hw_104 (fun z => bc_sty_s hj (hQ3.2.1 j hj (bc_mk_ge hm3 hB)) ⟨z, Or.inr ⟨hc_85, hc_96, rfl⟩⟩)
                  have hU4 := (bc_kp_U hw_104 (by have := bc_kp_c hw_74; omega)).trans hU3
                  have hP : va_P (dC, dI) classes [(w0, .inr (3, [.ref w1, .ref w2, .ref w3, .int (nI c4)])), (w1, .inl (cZ, 40, .inl B4)), (w2, .inl (cI, 40, .inl U4)), (w3, .inl (cI, 41, .inl Nn)), (h0, .inr (1, [.ref q1, .ref q2, .ref q3, .ref q4, .int (nI n)])), (q1, .inl (cI, 40, .inl K)), (q2, .inl (cI, 40, .inl O)), (q3, .inl (cI, 40, .inl T)), (q4, .inl (cI, 40, .inl Z))] H := hP.sub [4, 5, 6, 7, 8, 0, 1, 2, 3] rfl
                  have hD : va_D A [(w0, .inr (3, [.ref w1, .ref w2, .ref w3, .int (nI c4)])), (w1, .inl (cZ, 40, .inl B4)), (w2, .inl (cI, 40, .inl U4)), (w3, .inl (cI, 41, .inl Nn)), (h0, .inr (1, [.ref q1, .ref q2, .ref q3, .ref q4, .int (nI n)])), (q1, .inl (cI, 40, .inl K)), (q2, .inl (cI, 40, .inl O)), (q3, .inl (cI, 40, .inl T)), (q4, .inl (cI, 40, .inl Z))] := hD.sub [4, 5, 6, 7, 8, 0, 1, 2, 3] (by decide) rfl
                  refine lv_iinc (k := 1) (v := nI (d + 1)) (lv' := [(2, .int (nI (d + 1))), (3, .int (nI j)), (0, .ref w0), (1, .ref h0)]) hx hb de_W_keepWhatCanBeComeTo_107 hl rfl (bc_inc _) (by decide) rfl (fun ls hl => ?_)
                  refine lv_goto (tgt := 36) hx hb de_W_keepWhatCanBeComeTo_110 (by decide) ?_
                  exact ih_36 _ _ _ _ (by omega) ⟨(d + 1), B4, U4, c4, lv_sub hl [0, 2, 3] rfl, hP, hD, hS, rfl, by have := bc_kp_c hw_74; have := bc_kp_c hw_104; omega, bc_QI_step (c := c4) (d := d) (A := B4) (U := U4) (by omega) hQ4 hj hU4 (fun t hs => hs.2.elim (fun z => by have e9 := z.2; subst e9; exact (bc_mk_ge hm4 (bc_mk_at hm3 hs.1))) (fun z => by have e9 := z.2.2; subst e9; exact bc_mk_at hm4 hs.1)), fun z => bc_mk_ge hm4 (bc_mk_ge hm3 (h0B z))⟩
            · subst he_61
              refine lv_if_eq (tgt := 77) hx hb de_W_keepWhatCanBeComeTo_64 (by decide) (fun _ => ?_) (fun hc => absurd (by decide) hc)
              refine lv_aload_n hx hb de_W_keepWhatCanBeComeTo_77 rfl (lv_at hl 3 rfl) ?_
              refine va_getN (D := (dC, dI)) (ci := 1) (v := .ref q1) (C := rc_C) (T := fc_C) (N := 5) hx hb htw wi_C hown hK hP 4 rfl rfl 0 (by decide) (va_Nw.use rfl (hN _ nm_1)) (fun _ h9 => h9) rfl de_W_keepWhatCanBeComeTo_78 ?_
              refine lv_iload_n hx hb de_W_keepWhatCanBeComeTo_81 rfl (lv_at hl 0 rfl) ?_
              refine bc_ild (j := j) hx hb hK hP 5 0 rfl rfl (by omega) (by decide) de_W_keepWhatCanBeComeTo_82 ?_
              refine lv_bipush (v := 6) hx hb de_W_keepWhatCanBeComeTo_83 (by decide) ?_
              refine lv_icmp_eq (tgt := 107) hx hb de_W_keepWhatCanBeComeTo_85 (by decide) (fun hc_85 => ?_) (fun hc_85 => ?_)
              · refine lv_iinc (k := 1) (v := nI (d + 1)) (lv' := [(2, .int (nI (d + 1))), (3, .int (nI j)), (0, .ref w0), (1, .ref h0)]) hx hb de_W_keepWhatCanBeComeTo_107 hl rfl (bc_inc _) (by decide) rfl (fun ls hl => ?_)
                refine lv_goto (tgt := 36) hx hb de_W_keepWhatCanBeComeTo_110 (by decide) ?_
                exact ih_36 _ _ _ _ (by omega) ⟨(d + 1), B2, U2, c2, lv_sub hl [0, 2, 3] rfl, hP, hD, hS, rfl, by omega, bc_QI_step (c := c2) (d := d) (A := B2) (U := U2) (by omega) hQ hj hU (fun t hs => hs.2.elim (fun z => absurd z.1 hv_61) (fun z => absurd hc_85 z.1)), h0B⟩
              · refine lv_aload_n hx hb de_W_keepWhatCanBeComeTo_88 rfl (lv_at hl 3 rfl) ?_
                refine va_getN (D := (dC, dI)) (ci := 1) (v := .ref q1) (C := rc_C) (T := fc_C) (N := 5) hx hb htw wi_C hown hK hP 4 rfl rfl 0 (by decide) (va_Nw.use rfl (hN _ nm_1)) (fun _ h9 => h9) rfl de_W_keepWhatCanBeComeTo_89 ?_
                refine lv_iload_n hx hb de_W_keepWhatCanBeComeTo_92 rfl (lv_at hl 0 rfl) ?_
                refine bc_ild (j := j) hx hb hK hP 5 0 rfl rfl (by omega) (by decide) de_W_keepWhatCanBeComeTo_93 ?_
                refine lv_bipush (v := 7) hx hb de_W_keepWhatCanBeComeTo_94 (by decide) ?_
                refine lv_icmp_eq (tgt := 107) hx hb de_W_keepWhatCanBeComeTo_96 (by decide) (fun hc_96 => ?_) (fun hc_96 => ?_)
                · refine lv_iinc (k := 1) (v := nI (d + 1)) (lv' := [(2, .int (nI (d + 1))), (3, .int (nI j)), (0, .ref w0), (1, .ref h0)]) hx hb de_W_keepWhatCanBeComeTo_107 hl rfl (bc_inc _) (by decide) rfl (fun ls hl => ?_)
                  refine lv_goto (tgt := 36) hx hb de_W_keepWhatCanBeComeTo_110 (by decide) ?_
                  exact ih_36 _ _ _ _ (by omega) ⟨(d + 1), B2, U2, c2, lv_sub hl [0, 2, 3] rfl, hP, hD, hS, rfl, by omega, bc_QI_step (c := c2) (d := d) (A := B2) (U := U2) (by omega) hQ hj hU (fun t hs => hs.2.elim (fun z => absurd z.1 hv_61) (fun z => absurd hc_96 z.2.1)), h0B⟩
                · refine lv_aload_n hx hb de_W_keepWhatCanBeComeTo_99 rfl (lv_at hl 2 rfl) ?_
                  refine lv_aload_n hx hb de_W_keepWhatCanBeComeTo_100 rfl (lv_at hl 3 rfl) ?_
                  refine lv_iload_n hx hb de_W_keepWhatCanBeComeTo_101 rfl (lv_at hl 0 rfl) ?_
                  refine lv_iconst (v := 1) hx hb de_W_keepWhatCanBeComeTo_102 (by decide) ?_
                  refine lv_iadd hx hb de_W_keepWhatCanBeComeTo_103 ?_
                  refine bc_ti (y := nI (j + 1)) (nI_1 j) ?_
                  refine bc_call_v_v (As := [.ref h0, .int (nI (j + 1))]) (rest := []) (wr := [(q1, .inl (cI, 40, .inl K)), (q2, .inl (cI, 40, .inl O)), (q3, .inl (cI, 40, .inl T)), (q4, .inl (cI, 40, .inl Z))]) F (co_W_keep hn (by omega) (fun a b => by have := bc_QI_lt hQ a b; omega)) wm_334 wm_4 wm_332 wm_333 wm_615 0 rfl rfl pd_W_keep rfl rfl ⟨Nat.le_of_ble_eq_true rfl, Nat.le_of_ble_eq_true rfl⟩ hP hD hS hA [0, 1, 2, 3, 4] [5, 6, 7, 8] rfl rfl rfl rfl (by decide) rfl hl.1 rfl (Nat.le_of_ble_eq_true rfl) de_W_keepWhatCanBeComeTo_104 ⟨Nat.le_of_ble_eq_true rfl, Nat.le_of_ble_eq_true rfl⟩ (fun u_104 H locs hw_104 hP hD hS => ?_)
                  obtain ⟨B4, U4, c4⟩ := u_104
                  dsimp only at hw_104
                  have hm4 := bc_kp_mk hw_104
                  obtain ⟨hQ4, hd4⟩ := bc_QI_kp hQ hd hw_104 (fun z => bc_sty_s hj (hQ.2.1 j hj hB) ⟨z, Or.inr ⟨hc_85, hc_96, rfl⟩⟩)
                  have hU4 := (bc_kp_U hw_104 hdc).trans hU
                  have hP : va_P (dC, dI) classes [(w0, .inr (3, [.ref w1, .ref w2, .ref w3, .int (nI c4)])), (w1, .inl (cZ, 40, .inl B4)), (w2, .inl (cI, 40, .inl U4)), (w3, .inl (cI, 41, .inl Nn)), (h0, .inr (1, [.ref q1, .ref q2, .ref q3, .ref q4, .int (nI n)])), (q1, .inl (cI, 40, .inl K)), (q2, .inl (cI, 40, .inl O)), (q3, .inl (cI, 40, .inl T)), (q4, .inl (cI, 40, .inl Z))] H := hP.sub [4, 5, 6, 7, 8, 0, 1, 2, 3] rfl
                  have hD : va_D A [(w0, .inr (3, [.ref w1, .ref w2, .ref w3, .int (nI c4)])), (w1, .inl (cZ, 40, .inl B4)), (w2, .inl (cI, 40, .inl U4)), (w3, .inl (cI, 41, .inl Nn)), (h0, .inr (1, [.ref q1, .ref q2, .ref q3, .ref q4, .int (nI n)])), (q1, .inl (cI, 40, .inl K)), (q2, .inl (cI, 40, .inl O)), (q3, .inl (cI, 40, .inl T)), (q4, .inl (cI, 40, .inl Z))] := hD.sub [4, 5, 6, 7, 8, 0, 1, 2, 3] (by decide) rfl
                  refine lv_iinc (k := 1) (v := nI (d + 1)) (lv' := [(2, .int (nI (d + 1))), (3, .int (nI j)), (0, .ref w0), (1, .ref h0)]) hx hb de_W_keepWhatCanBeComeTo_107 hl rfl (bc_inc _) (by decide) rfl (fun ls hl => ?_)
                  refine lv_goto (tgt := 36) hx hb de_W_keepWhatCanBeComeTo_110 (by decide) ?_
                  exact ih_36 _ _ _ _ (by omega) ⟨(d + 1), B4, U4, c4, lv_sub hl [0, 2, 3] rfl, hP, hD, hS, rfl, by have := bc_kp_c hw_104; omega, bc_QI_step (c := c4) (d := d) (A := B4) (U := U4) (by omega) hQ4 hj hU4 (fun t hs => hs.2.elim (fun z => absurd z.1 hv_61) (fun z => by have e9 := z.2.2; subst e9; exact bc_mk_at hm4 hs.1)), fun z => bc_mk_ge hm4 (h0B z)⟩
      · exact ⟨_, 0, B2, U2, c2, lv_sub hl [0, 1, 2] rfl, hP, hD, hS, rfl, Nat.zero_le _, hQ0.1, fun z => bc_mk_at (bc_kp_mk hw_31) z⟩
    · have hlt : i < n := bc_lt (by omega) (by omega) hc_7
      refine lv_aload_n hx hb de_W_keepWhatCanBeComeTo_10 rfl (lv_at hl 1 rfl) ?_
      refine va_get (D := (dC, dI)) (ci := 3) (v := .ref w1) (C := rc_W) (T := fc_W) (N := 4) hx hb htw wi_W hown hK hP 0 rfl rfl 0 (by decide) (htw _ wm_64) (fun _ h9 => h9) rfl de_W_keepWhatCanBeComeTo_11 ?_
      refine lv_iload_n hx hb de_W_keepWhatCanBeComeTo_14 rfl (lv_at hl 0 rfl) ?_
      refine lv_iconst (v := 0) hx hb de_W_keepWhatCanBeComeTo_15 (by decide) ?_
      refine bc_zst (j := i) hx hb hK hP hD hS 1 1 rfl rfl (by decide) (by omega) (by decide) de_W_keepWhatCanBeComeTo_16 (fun H locs hP hD hS => ?_)
      have hP : va_P (dC, dI) classes [(w0, .inr (3, [.ref w1, .ref w2, .ref w3, .int (nI cq)])), (w1, .inl (cZ, 40, .inl (upd B1 i 0))), (w2, .inl (cI, 40, .inl U)), (w3, .inl (cI, 41, .inl Nn)), (h0, .inr (1, [.ref q1, .ref q2, .ref q3, .ref q4, .int (nI n)])), (q1, .inl (cI, 40, .inl K)), (q2, .inl (cI, 40, .inl O)), (q3, .inl (cI, 40, .inl T)), (q4, .inl (cI, 40, .inl Z))] H := hP
      have hD : va_D A [(w0, .inr (3, [.ref w1, .ref w2, .ref w3, .int (nI cq)])), (w1, .inl (cZ, 40, .inl (upd B1 i 0))), (w2, .inl (cI, 40, .inl U)), (w3, .inl (cI, 41, .inl Nn)), (h0, .inr (1, [.ref q1, .ref q2, .ref q3, .ref q4, .int (nI n)])), (q1, .inl (cI, 40, .inl K)), (q2, .inl (cI, 40, .inl O)), (q3, .inl (cI, 40, .inl T)), (q4, .inl (cI, 40, .inl Z))] := hD
      refine lv_iinc (k := 0) (v := nI (i + 1)) (lv' := [(2, .int (nI (i + 1))), (0, .ref w0), (1, .ref h0)]) hx hb de_W_keepWhatCanBeComeTo_17 hl rfl (bc_inc _) (by decide) rfl (fun ls hl => ?_)
      refine lv_goto (tgt := 2) hx hb de_W_keepWhatCanBeComeTo_20 (by decide) ?_
      exact ih_2 _ _ _ _ (by omega) ⟨(i + 1), upd B1 i 0, lv_sub hl [0, 1, 2] rfl, hP, hD, hS, rfl, (by omega), bc_all1 hz⟩
  · exact ⟨_, 0, B, lv_sub hl [0, 1, 2] rfl, hP, hD, hS, rfl, Nat.zero_le _, fun j hj => absurd hj (Nat.not_lt_zero j)⟩
end
section
/-! decode rows, by program -/
theorem de_E_init_0 : decode by_E_init 0 = .ok (.aload_n 0, 1) := by decide +kernel
theorem de_E_init_1 : decode by_E_init 1 = .ok (.invokespecial 3, 3) := by decide +kernel
theorem de_E_init_4 : decode by_E_init 4 = .ok (.aload_n 0, 1) := by decide +kernel
theorem de_E_init_5 : decode by_E_init 5 = .ok (.bipush 6, 2) := by decide +kernel
theorem de_E_init_7 : decode by_E_init 7 = .ok (.newarray .int, 2) := by decide +kernel
theorem de_E_init_9 : decode by_E_init 9 = .ok (.putfield 9, 3) := by decide +kernel
theorem de_E_init_12 : decode by_E_init 12 = .ok (.return_, 1) := by decide +kernel
theorem de_E_begin_0 : decode by_E_begin 0 = .ok (.aload_n 0, 1) := by decide +kernel
theorem de_E_begin_1 : decode by_E_begin 1 = .ok (.getfield 9, 3) := by decide +kernel
theorem de_E_begin_4 : decode by_E_begin 4 = .ok (.iconst 0, 1) := by decide +kernel
theorem de_E_begin_5 : decode by_E_begin 5 = .ok (.invokestatic 15, 3) := by decide +kernel
theorem de_E_begin_8 : decode by_E_begin 8 = .ok (.aload_n 0, 1) := by decide +kernel
theorem de_E_begin_9 : decode by_E_begin 9 = .ok (.getfield 9, 3) := by decide +kernel
theorem de_E_begin_12 : decode by_E_begin 12 = .ok (.iconst 0, 1) := by decide +kernel
theorem de_E_begin_13 : decode by_E_begin 13 = .ok (.iload_n 2, 1) := by decide +kernel
theorem de_E_begin_14 : decode by_E_begin 14 = .ok (.iastore, 1) := by decide +kernel
theorem de_E_begin_15 : decode by_E_begin 15 = .ok (.aload_n 0, 1) := by decide +kernel
theorem de_E_begin_16 : decode by_E_begin 16 = .ok (.getfield 9, 3) := by decide +kernel
theorem de_E_begin_19 : decode by_E_begin 19 = .ok (.iconst 1, 1) := by decide +kernel
theorem de_E_begin_20 : decode by_E_begin 20 = .ok (.iload_n 3, 1) := by decide +kernel
theorem de_E_begin_21 : decode by_E_begin 21 = .ok (.iastore, 1) := by decide +kernel
theorem de_E_begin_22 : decode by_E_begin 22 = .ok (.aload_n 0, 1) := by decide +kernel
theorem de_E_begin_23 : decode by_E_begin 23 = .ok (.getfield 9, 3) := by decide +kernel
theorem de_E_begin_26 : decode by_E_begin 26 = .ok (.iconst 2, 1) := by decide +kernel
theorem de_E_begin_27 : decode by_E_begin 27 = .ok (.iload 4, 2) := by decide +kernel
theorem de_E_begin_29 : decode by_E_begin 29 = .ok (.iastore, 1) := by decide +kernel
theorem de_E_begin_30 : decode by_E_begin 30 = .ok (.aload_n 0, 1) := by decide +kernel
theorem de_E_begin_31 : decode by_E_begin 31 = .ok (.getfield 9, 3) := by decide +kernel
theorem de_E_begin_34 : decode by_E_begin 34 = .ok (.iconst 3, 1) := by decide +kernel
theorem de_E_begin_35 : decode by_E_begin 35 = .ok (.iload 5, 2) := by decide +kernel
theorem de_E_begin_37 : decode by_E_begin 37 = .ok (.iastore, 1) := by decide +kernel
theorem de_E_begin_38 : decode by_E_begin 38 = .ok (.aload_n 0, 1) := by decide +kernel
theorem de_E_begin_39 : decode by_E_begin 39 = .ok (.iconst 0, 1) := by decide +kernel
theorem de_E_begin_40 : decode by_E_begin 40 = .ok (.putfield 21, 3) := by decide +kernel
theorem de_E_begin_43 : decode by_E_begin 43 = .ok (.aload_n 0, 1) := by decide +kernel
theorem de_E_begin_44 : decode by_E_begin 44 = .ok (.iconst 1, 1) := by decide +kernel
theorem de_E_begin_45 : decode by_E_begin 45 = .ok (.putfield 25, 3) := by decide +kernel
theorem de_E_begin_48 : decode by_E_begin 48 = .ok (.aload_n 0, 1) := by decide +kernel
theorem de_E_begin_49 : decode by_E_begin 49 = .ok (.aload_n 1, 1) := by decide +kernel
theorem de_E_begin_50 : decode by_E_begin 50 = .ok (.iconst 0, 1) := by decide +kernel
theorem de_E_begin_51 : decode by_E_begin 51 = .ok (.invokevirtual 29, 3) := by decide +kernel
theorem de_E_begin_54 : decode by_E_begin 54 = .ok (.return_, 1) := by decide +kernel
theorem de_E_advance_0 : decode by_E_advance 0 = .ok (.iconst 0, 1) := by decide +kernel
theorem de_E_advance_1 : decode by_E_advance 1 = .ok (.istore_n 3, 1) := by decide +kernel
theorem de_E_advance_2 : decode by_E_advance 2 = .ok (.iload_n 3, 1) := by decide +kernel
theorem de_E_advance_3 : decode by_E_advance 3 = .ok (.iload_n 2, 1) := by decide +kernel
theorem de_E_advance_4 : decode by_E_advance 4 = .ok (.if_icmp .ge 26, 3) := by decide +kernel
theorem de_E_advance_7 : decode by_E_advance 7 = .ok (.aload_n 0, 1) := by decide +kernel
theorem de_E_advance_8 : decode by_E_advance 8 = .ok (.getfield 33, 3) := by decide +kernel
theorem de_E_advance_11 : decode by_E_advance 11 = .ok (.iconst (-1), 1) := by decide +kernel
theorem de_E_advance_12 : decode by_E_advance 12 = .ok (.if_icmp .eq 18, 3) := by decide +kernel
theorem de_E_advance_15 : decode by_E_advance 15 = .ok (.aload_n 0, 1) := by decide +kernel
theorem de_E_advance_16 : decode by_E_advance 16 = .ok (.aload_n 1, 1) := by decide +kernel
theorem de_E_advance_17 : decode by_E_advance 17 = .ok (.aload_n 0, 1) := by decide +kernel
theorem de_E_advance_18 : decode by_E_advance 18 = .ok (.getfield 33, 3) := by decide +kernel
theorem de_E_advance_21 : decode by_E_advance 21 = .ok (.invokevirtual 36, 3) := by decide +kernel
theorem de_E_advance_24 : decode by_E_advance 24 = .ok (.iinc 3 1, 3) := by decide +kernel
theorem de_E_advance_27 : decode by_E_advance 27 = .ok (.goto (-25), 3) := by decide +kernel
theorem de_E_advance_30 : decode by_E_advance 30 = .ok (.aload_n 0, 1) := by decide +kernel
theorem de_E_advance_31 : decode by_E_advance 31 = .ok (.dup, 1) := by decide +kernel
theorem de_E_advance_32 : decode by_E_advance 32 = .ok (.getfield 21, 3) := by decide +kernel
theorem de_E_advance_35 : decode by_E_advance 35 = .ok (.iload_n 3, 1) := by decide +kernel
theorem de_E_advance_36 : decode by_E_advance 36 = .ok (.iadd, 1) := by decide +kernel
theorem de_E_advance_37 : decode by_E_advance 37 = .ok (.putfield 21, 3) := by decide +kernel
theorem de_E_advance_40 : decode by_E_advance 40 = .ok (.iload_n 3, 1) := by decide +kernel
theorem de_E_advance_41 : decode by_E_advance 41 = .ok (.ireturn, 1) := by decide +kernel
theorem de_E_step_0 : decode by_E_step 0 = .ok (.aload_n 1, 1) := by decide +kernel
theorem de_E_step_1 : decode by_E_step 1 = .ok (.getfield 39, 3) := by decide +kernel
theorem de_E_step_4 : decode by_E_step 4 = .ok (.iload_n 2, 1) := by decide +kernel
theorem de_E_step_5 : decode by_E_step 5 = .ok (.iaload, 1) := by decide +kernel
theorem de_E_step_6 : decode by_E_step 6 = .ok (.tableswitch 84 5 7 #[51, 38, 26], 26) := by decide +kernel
theorem de_E_step_32 : decode by_E_step 32 = .ok (.aload_n 0, 1) := by decide +kernel
theorem de_E_step_33 : decode by_E_step 33 = .ok (.aload_n 1, 1) := by decide +kernel
theorem de_E_step_34 : decode by_E_step 34 = .ok (.aload_n 1, 1) := by decide +kernel
theorem de_E_step_35 : decode by_E_step 35 = .ok (.getfield 44, 3) := by decide +kernel
theorem de_E_step_38 : decode by_E_step 38 = .ok (.invokevirtual 29, 3) := by decide +kernel
theorem de_E_step_41 : decode by_E_step 41 = .ok (.goto 74, 3) := by decide +kernel
theorem de_E_step_44 : decode by_E_step 44 = .ok (.aload_n 0, 1) := by decide +kernel
theorem de_E_step_45 : decode by_E_step 45 = .ok (.aload_n 1, 1) := by decide +kernel
theorem de_E_step_46 : decode by_E_step 46 = .ok (.aload_n 1, 1) := by decide +kernel
theorem de_E_step_47 : decode by_E_step 47 = .ok (.iload_n 2, 1) := by decide +kernel
theorem de_E_step_48 : decode by_E_step 48 = .ok (.invokevirtual 47, 3) := by decide +kernel
theorem de_E_step_51 : decode by_E_step 51 = .ok (.invokevirtual 29, 3) := by decide +kernel
theorem de_E_step_54 : decode by_E_step 54 = .ok (.goto 61, 3) := by decide +kernel
theorem de_E_step_57 : decode by_E_step 57 = .ok (.aload_n 0, 1) := by decide +kernel
theorem de_E_step_58 : decode by_E_step 58 = .ok (.aload_n 1, 1) := by decide +kernel
theorem de_E_step_59 : decode by_E_step 59 = .ok (.aload_n 0, 1) := by decide +kernel
theorem de_E_step_60 : decode by_E_step 60 = .ok (.getfield 9, 3) := by decide +kernel
theorem de_E_step_63 : decode by_E_step 63 = .ok (.aload_n 1, 1) := by decide +kernel
theorem de_E_step_64 : decode by_E_step 64 = .ok (.getfield 51, 3) := by decide +kernel
theorem de_E_step_67 : decode by_E_step 67 = .ok (.iload_n 2, 1) := by decide +kernel
theorem de_E_step_68 : decode by_E_step 68 = .ok (.iaload, 1) := by decide +kernel
theorem de_E_step_69 : decode by_E_step 69 = .ok (.iaload, 1) := by decide +kernel
theorem de_E_step_70 : decode by_E_step 70 = .ok (.ifCond .ne 11, 3) := by decide +kernel
theorem de_E_step_73 : decode by_E_step 73 = .ok (.aload_n 1, 1) := by decide +kernel
theorem de_E_step_74 : decode by_E_step 74 = .ok (.iload_n 2, 1) := by decide +kernel
theorem de_E_step_75 : decode by_E_step 75 = .ok (.invokevirtual 47, 3) := by decide +kernel
theorem de_E_step_78 : decode by_E_step 78 = .ok (.goto 6, 3) := by decide +kernel
theorem de_E_step_81 : decode by_E_step 81 = .ok (.iload_n 2, 1) := by decide +kernel
theorem de_E_step_82 : decode by_E_step 82 = .ok (.iconst 1, 1) := by decide +kernel
theorem de_E_step_83 : decode by_E_step 83 = .ok (.iadd, 1) := by decide +kernel
theorem de_E_step_84 : decode by_E_step 84 = .ok (.invokevirtual 29, 3) := by decide +kernel
theorem de_E_step_87 : decode by_E_step 87 = .ok (.goto 28, 3) := by decide +kernel
theorem de_E_step_90 : decode by_E_step 90 = .ok (.aload_n 0, 1) := by decide +kernel
theorem de_E_step_91 : decode by_E_step 91 = .ok (.getfield 9, 3) := by decide +kernel
theorem de_E_step_94 : decode by_E_step 94 = .ok (.aload_n 1, 1) := by decide +kernel
theorem de_E_step_95 : decode by_E_step 95 = .ok (.getfield 51, 3) := by decide +kernel
theorem de_E_step_98 : decode by_E_step 98 = .ok (.iload_n 2, 1) := by decide +kernel
theorem de_E_step_99 : decode by_E_step 99 = .ok (.iaload, 1) := by decide +kernel
theorem de_E_step_100 : decode by_E_step 100 = .ok (.aload_n 0, 1) := by decide +kernel
theorem de_E_step_101 : decode by_E_step 101 = .ok (.aload_n 1, 1) := by decide +kernel
theorem de_E_step_102 : decode by_E_step 102 = .ok (.iload_n 2, 1) := by decide +kernel
theorem de_E_step_103 : decode by_E_step 103 = .ok (.invokevirtual 54, 3) := by decide +kernel
theorem de_E_step_106 : decode by_E_step 106 = .ok (.iastore, 1) := by decide +kernel
theorem de_E_step_107 : decode by_E_step 107 = .ok (.aload_n 0, 1) := by decide +kernel
theorem de_E_step_108 : decode by_E_step 108 = .ok (.aload_n 1, 1) := by decide +kernel
theorem de_E_step_109 : decode by_E_step 109 = .ok (.iload_n 2, 1) := by decide +kernel
theorem de_E_step_110 : decode by_E_step 110 = .ok (.iconst 1, 1) := by decide +kernel
theorem de_E_step_111 : decode by_E_step 111 = .ok (.iadd, 1) := by decide +kernel
theorem de_E_step_112 : decode by_E_step 112 = .ok (.invokevirtual 29, 3) := by decide +kernel
theorem de_E_step_115 : decode by_E_step 115 = .ok (.return_, 1) := by decide +kernel
theorem de_E_assigned_0 : decode by_E_assigned 0 = .ok (.aload_n 1, 1) := by decide +kernel
theorem de_E_assigned_1 : decode by_E_assigned 1 = .ok (.getfield 39, 3) := by decide +kernel
theorem de_E_assigned_4 : decode by_E_assigned 4 = .ok (.iload_n 2, 1) := by decide +kernel
theorem de_E_assigned_5 : decode by_E_assigned 5 = .ok (.iaload, 1) := by decide +kernel
theorem de_E_assigned_6 : decode by_E_assigned 6 = .ok (.istore_n 3, 1) := by decide +kernel
theorem de_E_assigned_7 : decode by_E_assigned 7 = .ok (.iload_n 3, 1) := by decide +kernel
theorem de_E_assigned_8 : decode by_E_assigned 8 = .ok (.ifCond .ne 10, 3) := by decide +kernel
theorem de_E_assigned_11 : decode by_E_assigned 11 = .ok (.aload_n 1, 1) := by decide +kernel
theorem de_E_assigned_12 : decode by_E_assigned 12 = .ok (.getfield 58, 3) := by decide +kernel
theorem de_E_assigned_15 : decode by_E_assigned 15 = .ok (.iload_n 2, 1) := by decide +kernel
theorem de_E_assigned_16 : decode by_E_assigned 16 = .ok (.iaload, 1) := by decide +kernel
theorem de_E_assigned_17 : decode by_E_assigned 17 = .ok (.ireturn, 1) := by decide +kernel
theorem de_E_assigned_18 : decode by_E_assigned 18 = .ok (.iload_n 3, 1) := by decide +kernel
theorem de_E_assigned_19 : decode by_E_assigned 19 = .ok (.iconst 1, 1) := by decide +kernel
theorem de_E_assigned_20 : decode by_E_assigned 20 = .ok (.if_icmp .ne 15, 3) := by decide +kernel
theorem de_E_assigned_23 : decode by_E_assigned 23 = .ok (.aload_n 0, 1) := by decide +kernel
theorem de_E_assigned_24 : decode by_E_assigned 24 = .ok (.getfield 9, 3) := by decide +kernel
theorem de_E_assigned_27 : decode by_E_assigned 27 = .ok (.aload_n 1, 1) := by decide +kernel
theorem de_E_assigned_28 : decode by_E_assigned 28 = .ok (.getfield 58, 3) := by decide +kernel
theorem de_E_assigned_31 : decode by_E_assigned 31 = .ok (.iload_n 2, 1) := by decide +kernel
theorem de_E_assigned_32 : decode by_E_assigned 32 = .ok (.iaload, 1) := by decide +kernel
theorem de_E_assigned_33 : decode by_E_assigned 33 = .ok (.iaload, 1) := by decide +kernel
theorem de_E_assigned_34 : decode by_E_assigned 34 = .ok (.ireturn, 1) := by decide +kernel
theorem de_E_assigned_35 : decode by_E_assigned 35 = .ok (.iload_n 3, 1) := by decide +kernel
theorem de_E_assigned_36 : decode by_E_assigned 36 = .ok (.aload_n 0, 1) := by decide +kernel
theorem de_E_assigned_37 : decode by_E_assigned 37 = .ok (.getfield 9, 3) := by decide +kernel
theorem de_E_assigned_40 : decode by_E_assigned 40 = .ok (.aload_n 1, 1) := by decide +kernel
theorem de_E_assigned_41 : decode by_E_assigned 41 = .ok (.getfield 58, 3) := by decide +kernel
theorem de_E_assigned_44 : decode by_E_assigned 44 = .ok (.iload_n 2, 1) := by decide +kernel
theorem de_E_assigned_45 : decode by_E_assigned 45 = .ok (.iaload, 1) := by decide +kernel
theorem de_E_assigned_46 : decode by_E_assigned 46 = .ok (.iaload, 1) := by decide +kernel
theorem de_E_assigned_47 : decode by_E_assigned 47 = .ok (.aload_n 0, 1) := by decide +kernel
theorem de_E_assigned_48 : decode by_E_assigned 48 = .ok (.getfield 9, 3) := by decide +kernel
theorem de_E_assigned_51 : decode by_E_assigned 51 = .ok (.aload_n 1, 1) := by decide +kernel
theorem de_E_assigned_52 : decode by_E_assigned 52 = .ok (.getfield 61, 3) := by decide +kernel
theorem de_E_assigned_55 : decode by_E_assigned 55 = .ok (.iload_n 2, 1) := by decide +kernel
theorem de_E_assigned_56 : decode by_E_assigned 56 = .ok (.iaload, 1) := by decide +kernel
theorem de_E_assigned_57 : decode by_E_assigned 57 = .ok (.iaload, 1) := by decide +kernel
theorem de_E_assigned_58 : decode by_E_assigned 58 = .ok (.invokestatic 64, 3) := by decide +kernel
theorem de_E_assigned_61 : decode by_E_assigned 61 = .ok (.ireturn, 1) := by decide +kernel
theorem de_E_goTo_0 : decode by_E_goTo 0 = .ok (.aload_n 0, 1) := by decide +kernel
theorem de_E_goTo_1 : decode by_E_goTo 1 = .ok (.iload_n 2, 1) := by decide +kernel
theorem de_E_goTo_2 : decode by_E_goTo 2 = .ok (.aload_n 1, 1) := by decide +kernel
theorem de_E_goTo_3 : decode by_E_goTo 3 = .ok (.getfield 44, 3) := by decide +kernel
theorem de_E_goTo_6 : decode by_E_goTo 6 = .ok (.if_icmp .ge 7, 3) := by decide +kernel
theorem de_E_goTo_9 : decode by_E_goTo 9 = .ok (.iload_n 2, 1) := by decide +kernel
theorem de_E_goTo_10 : decode by_E_goTo 10 = .ok (.goto 4, 3) := by decide +kernel
theorem de_E_goTo_13 : decode by_E_goTo 13 = .ok (.iconst (-1), 1) := by decide +kernel
theorem de_E_goTo_14 : decode by_E_goTo 14 = .ok (.putfield 33, 3) := by decide +kernel
theorem de_E_goTo_17 : decode by_E_goTo 17 = .ok (.return_, 1) := by decide +kernel
end
