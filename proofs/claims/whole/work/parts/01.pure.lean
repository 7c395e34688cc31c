/-! The pure picture of BranchConstants: rows of what is known before an instruction, closed answers, the least one -/
abbrev bc_R : Type := Nat → Option Int32
abbrev bc_G : Type := Nat → Option bc_R
abbrev bc_F : Type := Nat → Int32
def bc_le (r q : bc_R) : Prop := ∀ v, v < 6 → q v = none ∨ r v = q v
def bc_leO (a b : Option bc_R) : Prop := match a, b with
  | none, _ => True
  | some _, none => False
  | some r, some q => bc_le r q
def bc_jn (r q : bc_R) : bc_R := fun v => if r v = q v then r v else none
def bc_jo (a : Option bc_R) (q : bc_R) : bc_R := match a with
  | none => q
  | some r => bc_jn r q
def bc_up (r : bc_R) (o : Nat) (x : Option Int32) : bc_R := fun v => if v = o then x else r v
/-- something changes where q comes to what is held -/
def bc_chg (a : Option bc_R) (q : bc_R) : Prop := match a with
  | none => True
  | some r => ∃ v, v < 6 ∧ r v ≠ none ∧ r v ≠ q v
def bc_come (n : Nat) (g : bc_G) (t : Nat) (q : bc_R) : bc_G := if t < n then (fun j => if j = t then some (bc_jo (g t) q) else g j) else g
theorem bc_le_rfl (r : bc_R) : bc_le r r := fun _ _ => Or.inr rfl
theorem bc_le_tr {r q s : bc_R} (h : bc_le r q) (k : bc_le q s) : bc_le r s := by
  intro v hv
  rcases k v hv with e | e
  · exact Or.inl e
  · rcases h v hv with f | f
    · exact Or.inl (by rw [← e]; exact f)
    · exact Or.inr (f.trans e)
theorem bc_leO_rfl (a : Option bc_R) : bc_leO a a := by
  cases a with
  | none => trivial
  | some r => exact bc_le_rfl r
theorem bc_leO_tr {a b c : Option bc_R} (h : bc_leO a b) (k : bc_leO b c) : bc_leO a c := by
  cases a with
  | none => trivial
  | some r =>
    cases b with
    | none => exact False.elim h
    | some q =>
      cases c with
      | none => exact False.elim k
      | some s => exact bc_le_tr (r := r) (q := q) (s := s) h k
theorem bc_leO_some {r : bc_R} {a : Option bc_R} (h : bc_leO (some r) a) : ∃ q, a = some q ∧ bc_le r q := by
  cases a with
  | none => exact False.elim h
  | some q => exact ⟨q, rfl, h⟩
theorem bc_jo_l (a : Option bc_R) (q : bc_R) : bc_leO a (some (bc_jo a q)) := by
  cases a with
  | none => trivial
  | some r =>
    intro v hv
    show bc_jn r q v = none ∨ r v = bc_jn r q v
    unfold bc_jn
    by_cases e : r v = q v
    · right; rw [if_pos e]
    · left; rw [if_neg e]
theorem bc_jo_r (a : Option bc_R) (q : bc_R) : bc_le q (bc_jo a q) := by
  cases a with
  | none => exact bc_le_rfl q
  | some r =>
    intro v hv
    show bc_jn r q v = none ∨ q v = bc_jn r q v
    unfold bc_jn
    by_cases e : r v = q v
    · right; rw [if_pos e, e]
    · left; rw [if_neg e]
theorem bc_jo_least {a b : Option bc_R} {q : bc_R} (h : bc_leO a b) (k : bc_leO (some q) b) : bc_leO (some (bc_jo a q)) b := by
  obtain ⟨s, rfl, k⟩ := bc_leO_some k
  cases a with
  | none => exact k
  | some r =>
    intro v hv
    show s v = none ∨ bc_jn r q v = s v
    rcases k v hv with e | e
    · exact Or.inl e
    · rcases (show bc_le r s from h) v hv with f | f
      · exact Or.inl f
      · right
        unfold bc_jn
        rw [if_pos (f.trans e.symm), f]
theorem bc_nchg {a : Option bc_R} {q : bc_R} (h : ¬ bc_chg a q) : ∃ r, a = some r ∧ ∀ v, v < 6 → bc_jn r q v = r v := by
  cases a with
  | none => exact absurd trivial h
  | some r =>
    refine ⟨r, rfl, fun v hv => ?_⟩
    unfold bc_jn
    by_cases e : r v = q v
    · rw [if_pos e]
    · rw [if_neg e]
      by_cases f : r v = none
      · exact f.symm
      · exact absurd ⟨v, hv, f, e⟩ h
theorem bc_come_out {n t : Nat} {g : bc_G} {q : bc_R} (h : ¬ t < n) : bc_come n g t q = g := if_neg h
theorem bc_come_at {n t : Nat} {g : bc_G} {q : bc_R} (h : t < n) : bc_come n g t q t = some (bc_jo (g t) q) := by
  unfold bc_come
  rw [if_pos h]
  exact if_pos rfl
theorem bc_come_ne {n t j : Nat} {g : bc_G} {q : bc_R} (h : j ≠ t) : bc_come n g t q j = g j := by
  unfold bc_come
  by_cases ht : t < n
  · rw [if_pos ht]; exact if_neg h
  · rw [if_neg ht]
theorem bc_come_ge (n t : Nat) (g : bc_G) (q : bc_R) (j : Nat) : bc_leO (g j) (bc_come n g t q j) := by
  by_cases ht : t < n
  · by_cases hj : j = t
    · subst hj; rw [bc_come_at ht]; exact bc_jo_l _ _
    · rw [bc_come_ne hj]; exact bc_leO_rfl _
  · rw [bc_come_out ht]; exact bc_leO_rfl _
theorem bc_come_has {n t : Nat} (g : bc_G) (q : bc_R) (h : t < n) : bc_leO (some q) (bc_come n g t q t) := by
  rw [bc_come_at h]; exact bc_jo_r _ _
/-! instructions -/
def bc_ar (k x y : Int32) : Int32 := if k = 2 then x + y else if k = 3 then x - y else x * y
def bc_vr (x : Int32) : Prop := ∃ j : Nat, j < 6 ∧ x = nI j
def bc_tr (x : Int32) : Prop := ∃ j : Nat, j ≤ 40 ∧ x = nI j
def bc_wi (k o t h : Int32) : Prop := (k = 0 ∧ bc_vr o ∧ h = 0) ∨ (k = 1 ∧ bc_vr o ∧ bc_vr t ∧ h = 0) ∨ ((k = 2 ∨ k = 3 ∨ k = 4) ∧ bc_vr o ∧ bc_vr t ∧ bc_vr h) ∨ (k = 5 ∧ bc_vr o ∧ bc_tr t ∧ h = 0) ∨ (k = 6 ∧ o = 0 ∧ bc_tr t ∧ h = 0) ∨ (k = 7 ∧ o = 0 ∧ t = 0 ∧ h = 0)
def bc_wf (n : Nat) (K O T H : bc_F) : Prop := ∀ i, i < n → bc_wi (K i) (O i) (T i) (H i)
def bc_rs (K T H : bc_F) (i : Nat) (r : bc_R) : Option Int32 :=
  if K i = 0 then some (T i) else if K i = 1 then r (T i).toNatClampNeg
  else if K i = 4 ∧ (r (T i).toNatClampNeg = some 0 ∨ r (H i).toNatClampNeg = some 0) then some 0
  else match r (T i).toNatClampNeg, r (H i).toNatClampNeg with
    | some a, some b => some (bc_ar (K i) a b)
    | _, _ => none
def bc_out (K O T H : bc_F) (i : Nat) (r : bc_R) : List (Nat × bc_R) :=
  if K i ≤ 4 then [(i + 1, bc_up r (O i).toNatClampNeg (bc_rs K T H i r))]
  else if K i = 6 then [((T i).toNatClampNeg, r)]
  else if K i = 5 then (match r (O i).toNatClampNeg with
    | some x => if x = 0 then [((T i).toNatClampNeg, r)] else [(i + 1, r)]
    | none => [(i + 1, r), ((T i).toNatClampNeg, bc_up r (O i).toNatClampNeg (some 0))])
  else []
theorem bc_vr_lt {x : Int32} (h : bc_vr x) : x.toNatClampNeg < 6 := by
  obtain ⟨j, hj, rfl⟩ := h
  rw [nI_clamp (by omega)]; exact hj
theorem bc_tr_le {x : Int32} (h : bc_tr x) : x.toNatClampNeg ≤ 40 := by
  obtain ⟨j, hj, rfl⟩ := h
  rw [nI_clamp (by omega)]; exact hj
theorem bc_vr_eq {x : Int32} (h : bc_vr x) : x = nI x.toNatClampNeg := by
  obtain ⟨j, hj, rfl⟩ := h
  rw [nI_clamp (by omega)]
theorem bc_tr_eq {x : Int32} (h : bc_tr x) : x = nI x.toNatClampNeg := by
  obtain ⟨j, hj, rfl⟩ := h
  rw [nI_clamp (by omega)]
theorem bc_up_le {r q : bc_R} {x y : Option Int32} {o : Nat} (h : bc_le r q) (k : y = none ∨ x = y) : bc_le (bc_up r o x) (bc_up q o y) := by
  intro v hv
  unfold bc_up
  by_cases e : v = o
  · simp only [if_pos e]; exact k
  · simp only [if_neg e]; exact h v hv
theorem bc_rs_le {K O T H : bc_F} {i : Nat} {r q : bc_R} (hw : bc_wi (K i) (O i) (T i) (H i)) (h4 : K i ≤ 4) (h : bc_le r q) : bc_rs K T H i q = none ∨ bc_rs K T H i r = bc_rs K T H i q := by
  unfold bc_rs
  by_cases k0 : K i = 0
  · right; rw [if_pos k0, if_pos k0]
  · rw [if_neg k0, if_neg k0]
    by_cases k1 : K i = 1
    · rw [if_pos k1, if_pos k1]
      have ht : (T i).toNatClampNeg < 6 := by
        rcases hw with ⟨e, _⟩ | ⟨_, _, e, _⟩ | ⟨e, _⟩ | ⟨e, _⟩ | ⟨e, _⟩ | ⟨e, _⟩
        · exact absurd e k0
        · exact bc_vr_lt e
        · rw [k1] at e; exact absurd e (by decide)
        · rw [k1] at e; exact absurd e (by decide)
        · rw [k1] at e; exact absurd e (by decide)
        · rw [k1] at e; exact absurd e (by decide)
      exact h _ ht
    · rw [if_neg k1, if_neg k1]
      have hth : (T i).toNatClampNeg < 6 ∧ (H i).toNatClampNeg < 6 := by
        rcases hw with ⟨e, _⟩ | ⟨e, _⟩ | ⟨_, _, e, f⟩ | ⟨e, _⟩ | ⟨e, _⟩ | ⟨e, _⟩
        · exact absurd e k0
        · exact absurd e k1
        · exact ⟨bc_vr_lt e, bc_vr_lt f⟩
        · rw [e] at h4; exact absurd h4 (by decide)
        · rw [e] at h4; exact absurd h4 (by decide)
        · rw [e] at h4; exact absurd h4 (by decide)
      have hx := h _ hth.1
      have hy := h _ hth.2
      generalize r (T i).toNatClampNeg = rx at hx ⊢
      generalize q (T i).toNatClampNeg = qx at hx ⊢
      generalize r (H i).toNatClampNeg = ry at hy ⊢
      generalize q (H i).toNatClampNeg = qy at hy ⊢
      by_cases k4 : K i = 4
      · by_cases z : qx = some 0 ∨ qy = some 0
        · have z2 : rx = some 0 ∨ ry = some 0 := by
            rcases z with z | z
            · rcases hx with e | e
              · rw [e] at z; cases z
              · exact Or.inl (e.trans z)
            · rcases hy with e | e
              · rw [e] at z; cases z
              · exact Or.inr (e.trans z)
          right
          rw [if_pos ⟨k4, z2⟩, if_pos ⟨k4, z⟩]
        · rw [if_neg (fun u => z u.2)]
          rcases hx with e | e
          · left; subst e; rfl
          · rcases hy with f | f
            · left; subst f; cases qx <;> rfl
            · subst e; subst f
              right
              rw [if_neg (fun u => z u.2)]
      · rw [if_neg (fun u => k4 u.1), if_neg (fun u => k4 u.1)]
        rcases hx with e | e
        · left; subst e; rfl
        · rcases hy with f | f
          · left; subst f; cases qx <;> rfl
          · right; subst e; subst f; rfl
theorem bc_out_le {K O T H : bc_F} {i : Nat} {r q : bc_R} (hw : bc_wi (K i) (O i) (T i) (H i)) (h : bc_le r q) : ∀ p ∈ bc_out K O T H i r, ∃ p' ∈ bc_out K O T H i q, p'.1 = p.1 ∧ bc_le p.2 p'.2 := by
  intro p hp
  unfold bc_out at hp ⊢
  by_cases h4 : K i ≤ 4
  · rw [if_pos h4] at hp ⊢
    rw [List.mem_singleton] at hp
    subst hp
    exact ⟨_, List.mem_singleton.mpr rfl, rfl, bc_up_le h (bc_rs_le hw h4 h)⟩
  · rw [if_neg h4] at hp ⊢
    by_cases h6 : K i = 6
    · rw [if_pos h6] at hp ⊢
      rw [List.mem_singleton] at hp
      subst hp
      exact ⟨_, List.mem_singleton.mpr rfl, rfl, h⟩
    · rw [if_neg h6] at hp ⊢
      by_cases h5 : K i = 5
      · rw [if_pos h5] at hp ⊢
        have ho : (O i).toNatClampNeg < 6 := by
          rcases hw with ⟨e, _⟩ | ⟨e, _⟩ | ⟨e, _⟩ | ⟨_, e, _⟩ | ⟨e, _⟩ | ⟨e, _⟩
          · rw [h5] at e; exact absurd e (by decide)
          · rw [h5] at e; exact absurd e (by decide)
          · rw [h5] at e; exact absurd e (by decide)
          · exact bc_vr_lt e
          · rw [h5] at e; exact absurd e (by decide)
          · rw [h5] at e; exact absurd e (by decide)
        have hx := h _ ho
        generalize hrx : r (O i).toNatClampNeg = rx at hp hx
        generalize hqx : q (O i).toNatClampNeg = qx at hx ⊢
        rcases hx with e | e
        · subst e
          have hz : bc_le r (bc_up q (O i).toNatClampNeg (some 0)) ∨ rx ≠ some 0 := by
            by_cases z : rx = some 0
            · left
              intro v hv
              unfold bc_up
              by_cases ev : v = (O i).toNatClampNeg
              · subst ev; rw [if_pos rfl]; right; rw [hrx, z]
              · rw [if_neg ev]; exact h v hv
            · exact Or.inr z
          cases rx with
          | none =>
            rcases List.mem_cons.mp hp with hp | hp
            · subst hp; exact ⟨_, List.mem_cons_self, rfl, h⟩
            · rw [List.mem_singleton] at hp
              subst hp
              exact ⟨_, List.mem_cons_of_mem _ (List.mem_singleton.mpr rfl), rfl, bc_up_le h (Or.inr rfl)⟩
          | some x =>
            by_cases x0 : x = 0
            · simp only [if_pos x0] at hp
              rw [List.mem_singleton] at hp
              subst hp
              refine ⟨_, List.mem_cons_of_mem _ (List.mem_singleton.mpr rfl), rfl, ?_⟩
              rcases hz with z | z
              · exact z
              · exact absurd (by rw [x0]) z
            · simp only [if_neg x0] at hp
              rw [List.mem_singleton] at hp
              subst hp
              exact ⟨_, List.mem_cons_self, rfl, h⟩
        · subst e
          cases rx with
          | none =>
            rcases List.mem_cons.mp hp with hp | hp
            · subst hp; exact ⟨_, List.mem_cons_self, rfl, h⟩
            · rw [List.mem_singleton] at hp
              subst hp
              exact ⟨_, List.mem_cons_of_mem _ (List.mem_singleton.mpr rfl), rfl, bc_up_le h (Or.inr rfl)⟩
          | some x =>
            by_cases x0 : x = 0
            · simp only [if_pos x0] at hp ⊢
              rw [List.mem_singleton] at hp
              subst hp
              exact ⟨_, List.mem_singleton.mpr rfl, rfl, h⟩
            · simp only [if_neg x0] at hp ⊢
              rw [List.mem_singleton] at hp
              subst hp
              exact ⟨_, List.mem_singleton.mpr rfl, rfl, h⟩
      · rw [if_neg h5] at hp
        cases hp
/-! closed answers -/
def bc_cl (n : Nat) (K O T H : bc_F) (g : bc_G) (i : Nat) : Prop := ∀ r, g i = some r → ∀ p ∈ bc_out K O T H i r, p.1 < n → bc_leO (some p.2) (g p.1)
def bc_top : bc_R := fun _ => none
def bc_cld (n : Nat) (K O T H : bc_F) (g : bc_G) : Prop := (0 < n → bc_leO (some bc_top) (g 0)) ∧ ∀ i, i < n → bc_cl n K O T H g i
def bc_bel (n : Nat) (g h : bc_G) : Prop := ∀ i, i < n → bc_leO (g i) (h i)
def bc_low (n : Nat) (K O T H : bc_F) (g : bc_G) : Prop := ∀ h, bc_cld n K O T H h → bc_bel n g h
def bc_Lst (n : Nat) (K O T H : bc_F) (g : bc_G) : Prop := bc_cld n K O T H g ∧ bc_low n K O T H g
/-- equal where it matters -/
def bc_sim (a b : Option bc_R) : Prop := match a, b with
  | none, none => True
  | some r, some q => ∀ v, v < 6 → r v = q v
  | _, _ => False
theorem bc_sim_of {a b : Option bc_R} (h : bc_leO a b) (k : bc_leO b a) : bc_sim a b := by
  cases a with
  | none =>
    cases b with
    | none => trivial
    | some q => exact False.elim k
  | some r =>
    cases b with
    | none => exact False.elim h
    | some q =>
      intro v hv
      rcases (show bc_le r q from h) v hv with e | e
      · rcases (show bc_le q r from k) v hv with f | f
        · rw [e, f]
        · exact f.symm
      · exact e
theorem bc_Lst_uniq {n : Nat} {K O T H : bc_F} {g g' : bc_G} (h : bc_Lst n K O T H g) (h' : bc_Lst n K O T H g') : ∀ i, i < n → bc_sim (g i) (g' i) :=
  fun i hi => bc_sim_of (h.2 g' h'.1 i hi) (h'.2 g h.1 i hi)
theorem bc_low_come {n : Nat} {K O T H : bc_F} {g : bc_G} {i : Nat} {r : bc_R} {p : Nat × bc_R} (hw : bc_wf n K O T H) (hi : i < n) (hg : bc_low n K O T H g) (hr : ∀ h, bc_cld n K O T H h → bc_leO (some r) (h i)) (hp : p ∈ bc_out K O T H i r) : bc_low n K O T H (bc_come n g p.1 p.2) := by
  intro h hc j hj
  by_cases ht : p.1 < n
  · by_cases e : j = p.1
    · subst e
      rw [bc_come_at ht]
      refine bc_jo_least (hg h hc _ hj) ?_
      obtain ⟨q, hq, hle⟩ := bc_leO_some (hr h hc)
      obtain ⟨p', hp', e1, e2⟩ := bc_out_le (hw i hi) hle p hp
      have := hc.2 i hi q hq p' hp' (by rw [e1]; exact ht)
      rw [e1] at this
      exact bc_leO_tr (a := some p.2) (b := some p'.2) e2 this
    · rw [bc_come_ne e]; exact hg h hc j hj
  · rw [bc_come_out ht]; exact hg h hc j hj
theorem bc_cl_ne {n : Nat} {K O T H : bc_F} {g : bc_G} {j t : Nat} {q : bc_R} (h : bc_cl n K O T H g j) (hj : j ≠ t) : bc_cl n K O T H (bc_come n g t q) j := by
  intro r hr p hp hn
  rw [bc_come_ne hj] at hr
  exact bc_leO_tr (h r hr p hp hn) (bc_come_ge _ _ _ _ _)
theorem bc_cl_same {n : Nat} {K O T H : bc_F} {g : bc_G} {j t : Nat} {q : bc_R} (hw : bc_wf n K O T H) (hjn : j < n) (h : bc_cl n K O T H g j) (hc : ¬ bc_chg (g t) q) : bc_cl n K O T H (bc_come n g t q) j := by
  by_cases e : j = t
  · subst e
    intro r hr p hp hn
    rw [bc_come_at hjn] at hr
    obtain ⟨r0, h0, h1⟩ := bc_nchg hc
    rw [h0] at hr
    have hr' : bc_jn r0 q = r := Option.some.inj hr
    have hle : bc_le r r0 := fun v hv => Or.inr (by rw [← hr']; exact h1 v hv)
    obtain ⟨p', hp', e1, e2⟩ := bc_out_le (hw j hjn) hle p hp
    have := h r0 h0 p' hp' (by rw [e1]; exact hn)
    rw [e1] at this
    exact bc_leO_tr (a := some p.2) (b := some p'.2) e2 (bc_leO_tr this (bc_come_ge _ _ _ _ _))
  · exact bc_cl_ne h e
/-! how far an answer still can rise -/
def bc_sm (f : Nat → Nat) : Nat → Nat
  | 0 => 0
  | k + 1 => bc_sm f k + f k
theorem bc_sm_le {f g : Nat → Nat} : ∀ {k : Nat}, (∀ j, j < k → f j ≤ g j) → bc_sm f k ≤ bc_sm g k
  | 0, _ => Nat.le_refl _
  | k + 1, h => Nat.add_le_add (bc_sm_le (fun j hj => h j (by omega))) (h k (by omega))
theorem bc_sm_lt {f g : Nat → Nat} : ∀ {k : Nat}, (∀ j, j < k → f j ≤ g j) → (t : Nat) → t < k → f t < g t → bc_sm f k < bc_sm g k
  | 0, _, t, ht, _ => by omega
  | k + 1, h, t, ht, hl => by
    show bc_sm f k + f k < bc_sm g k + g k
    by_cases e : t = k
    · subst e
      have := bc_sm_le (f := f) (g := g) (k := t) (fun j hj => h j (by omega))
      omega
    · have := bc_sm_lt (f := f) (g := g) (k := k) (fun j hj => h j (by omega)) t (by omega) hl
      have := h k (by omega)
      omega
theorem bc_sm_bound {f : Nat → Nat} {b : Nat} : ∀ {k : Nat}, (∀ j, j < k → f j ≤ b) → bc_sm f k ≤ b * k
  | 0, _ => Nat.le_refl _
  | k + 1, h => by
    have h1 := bc_sm_bound (f := f) (b := b) (k := k) (fun j hj => h j (by omega))
    have h2 := h k (by omega)
    show bc_sm f k + f k ≤ b * (k + 1)
    rw [Nat.mul_add, Nat.mul_one]
    omega
def bc_wt (a : Option bc_R) : Nat := match a with
  | none => 7
  | some r => bc_sm (fun v => if r v = none then 0 else 1) 6
def bc_pot (n : Nat) (g : bc_G) : Nat := bc_sm (fun i => bc_wt (g i)) n
theorem bc_wt_some (r : bc_R) : bc_wt (some r) ≤ 6 := by
  have := bc_sm_bound (f := fun v => if r v = none then 0 else 1) (b := 1) (k := 6) (fun j _ => by
    show (if r j = none then 0 else 1) ≤ 1
    by_cases e : r j = none
    · rw [if_pos e]; omega
    · rw [if_neg e]; omega)
  exact this
theorem bc_wt_7 (a : Option bc_R) : bc_wt a ≤ 7 := by
  cases a with
  | none => exact Nat.le_refl _
  | some r => exact Nat.le_trans (bc_wt_some r) (by omega)
theorem bc_wt_jo (a : Option bc_R) (q : bc_R) : bc_wt (some (bc_jo a q)) ≤ bc_wt a := by
  cases a with
  | none => exact bc_wt_7 _
  | some r =>
    refine bc_sm_le (fun v _ => ?_)
    show (if bc_jn r q v = none then 0 else 1) ≤ (if r v = none then 0 else 1)
    by_cases e : bc_jn r q v = none
    · rw [if_pos e]; omega
    · rw [if_neg e]
      have : r v ≠ none := by
        intro z
        apply e
        unfold bc_jn
        by_cases f : r v = q v
        · rw [if_pos f]; exact z
        · rw [if_neg f]
      rw [if_neg this]; omega
theorem bc_wt_lt {a : Option bc_R} {q : bc_R} (h : bc_chg a q) : bc_wt (some (bc_jo a q)) < bc_wt a := by
  cases a with
  | none => exact Nat.lt_of_le_of_lt (bc_wt_some _) (by show 6 < 7; omega)
  | some r =>
    obtain ⟨v, hv, h1, h2⟩ := h
    refine bc_sm_lt (fun u _ => ?_) v hv ?_
    · show (if bc_jn r q u = none then 0 else 1) ≤ (if r u = none then 0 else 1)
      by_cases e : bc_jn r q u = none
      · rw [if_pos e]; omega
      · rw [if_neg e]
        have : r u ≠ none := by
          intro z
          apply e
          unfold bc_jn
          by_cases f : r u = q u
          · rw [if_pos f]; exact z
          · rw [if_neg f]
        rw [if_neg this]; omega
    · show (if bc_jn r q v = none then 0 else 1) < (if r v = none then 0 else 1)
      have : bc_jn r q v = none := by unfold bc_jn; rw [if_neg h2]
      rw [if_pos this, if_neg h1]; omega
theorem bc_pot_le (n : Nat) (g : bc_G) (t : Nat) (q : bc_R) : bc_pot n (bc_come n g t q) ≤ bc_pot n g := by
  refine bc_sm_le (fun j _ => ?_)
  show bc_wt (bc_come n g t q j) ≤ bc_wt (g j)
  by_cases ht : t < n
  · by_cases e : j = t
    · subst e; rw [bc_come_at ht]; exact bc_wt_jo _ _
    · rw [bc_come_ne e]; exact Nat.le_refl _
  · rw [bc_come_out ht]; exact Nat.le_refl _
theorem bc_pot_lt {n : Nat} {g : bc_G} {t : Nat} {q : bc_R} (ht : t < n) (h : bc_chg (g t) q) : bc_pot n (bc_come n g t q) < bc_pot n g := by
  refine bc_sm_lt (fun j _ => ?_) t ht ?_
  · show bc_wt (bc_come n g t q j) ≤ bc_wt (g j)
    by_cases e : j = t
    · subst e; rw [bc_come_at ht]; exact bc_wt_jo _ _
    · rw [bc_come_ne e]; exact Nat.le_refl _
  · show bc_wt (bc_come n g t q t) < bc_wt (g t)
    rw [bc_come_at ht]; exact bc_wt_lt h
