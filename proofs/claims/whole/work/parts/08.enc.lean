/-! rows of states and constants that hold an answer -/
def bc_s0 (a : Option bc_R) (v : Nat) : Int32 := match a with
  | none => 0
  | some r => match r v with
    | none => 1
    | some _ => 2
def bc_c0 (a : Option bc_R) (v : Nat) : Int32 := match a with
  | none => 0
  | some r => match r v with
    | none => 0
    | some x => x
def bc_en (S C : bc_F) (g : bc_G) : Prop := ∀ i, i < 40 → ∀ v, v < 6 → S (6 * i + v) = bc_s0 (g i) v ∧ C (6 * i + v) = bc_c0 (g i) v
def bc_er (S C : bc_F) (r : bc_R) : Prop := ∀ v, v < 6 → S v = bc_s0 (some r) v ∧ C v = bc_c0 (some r) v
theorem bc_s0_0 {a : Option bc_R} {v : Nat} (h : bc_s0 a v = 0) : a = none := by
  cases a with
  | none => rfl
  | some r =>
    have h : (match r v with | none => (1 : Int32) | some _ => 2) = 0 := h
    cases hr : r v with
    | none => rw [hr] at h; exact absurd (show (1 : Int32) = 0 from h) (by decide)
    | some x => rw [hr] at h; exact absurd (show (2 : Int32) = 0 from h) (by decide)
theorem bc_s0_n0 {a : Option bc_R} {v : Nat} (h : ¬ bc_s0 a v = 0) : ∃ r, a = some r := by
  cases a with
  | none => exact absurd rfl h
  | some r => exact ⟨r, rfl⟩
theorem bc_s0_1 {r : bc_R} {v : Nat} (h : r v = none) : bc_s0 (some r) v = 1 ∧ bc_c0 (some r) v = 0 := by
  unfold bc_s0 bc_c0
  simp only [h]
  exact ⟨trivial, trivial⟩
theorem bc_s0_2 {r : bc_R} {v : Nat} {x : Int32} (h : r v = some x) : bc_s0 (some r) v = 2 ∧ bc_c0 (some r) v = x := by
  unfold bc_s0 bc_c0
  simp only [h]
  exact ⟨trivial, trivial⟩
theorem bc_s0_is2 {r : bc_R} {v : Nat} (h : bc_s0 (some r) v = 2) : r v = some (bc_c0 (some r) v) := by
  cases hr : r v with
  | none => rw [(bc_s0_1 hr).1] at h; exact absurd h (by decide)
  | some x => rw [(bc_s0_2 hr).2]
theorem bc_s0_n2 {r : bc_R} {v : Nat} (h : ¬ bc_s0 (some r) v = 2) : r v = none := by
  cases hr : r v with
  | none => rfl
  | some x => exact absurd (bc_s0_2 hr).1 h
theorem bc_s0_is1 {r : bc_R} {v : Nat} (h : bc_s0 (some r) v = 1) : r v = none := bc_s0_n2 (by rw [h]; decide)
theorem bc_s0_n1 {r : bc_R} {v : Nat} (h : ¬ bc_s0 (some r) v = 1) : r v = some (bc_c0 (some r) v) := by
  cases hr : r v with
  | none => exact absurd (bc_s0_1 hr).1 h
  | some x => rw [(bc_s0_2 hr).2]
/-- the row t, joined up to the variable v -/
def bc_ep (S C : bc_F) (g : bc_G) (t : Nat) (q : bc_R) (v : Nat) : Prop := ∀ i, i < 40 → ∀ u, u < 6 → ((i = t ∧ u < v) → S (6 * i + u) = bc_s0 (some (bc_jo (g t) q)) u ∧ C (6 * i + u) = bc_c0 (some (bc_jo (g t) q)) u) ∧ (¬ (i = t ∧ u < v) → S (6 * i + u) = bc_s0 (g i) u ∧ C (6 * i + u) = bc_c0 (g i) u)
theorem bc_ep_0 {S C : bc_F} {g : bc_G} {t : Nat} {q : bc_R} (h : bc_en S C g) : bc_ep S C g t q 0 := fun i hi u hu => ⟨fun z => absurd z.2 (by omega), fun _ => h i hi u hu⟩
theorem bc_ep_6 {n : Nat} {S C : bc_F} {g : bc_G} {t : Nat} {q : bc_R} (h : bc_ep S C g t q 6) (ht : t < n) : bc_en S C (bc_come n g t q) := by
  intro i hi u hu
  by_cases e : i = t
  · subst e
    rw [bc_come_at ht]
    exact (h i hi u hu).1 ⟨rfl, hu⟩
  · rw [bc_come_ne e]
    exact (h i hi u hu).2 (fun z => e z.1)
theorem bc_ep_at {S C : bc_F} {g : bc_G} {t : Nat} {q : bc_R} {v : Nat} (h : bc_ep S C g t q v) (ht : t < 40) (hv : v < 6) : S (6 * t + v) = bc_s0 (g t) v ∧ C (6 * t + v) = bc_c0 (g t) v := (h t ht v hv).2 (fun z => absurd z.2 (by omega))
theorem bc_ep_up {S C : bc_F} {g : bc_G} {t : Nat} {q : bc_R} {v : Nat} {a b : Int32} (h : bc_ep S C g t q v) (hv : v < 6) (ha : a = bc_s0 (some (bc_jo (g t) q)) v) (hb : b = bc_c0 (some (bc_jo (g t) q)) v) : bc_ep (upd S (6 * t + v) a) (upd C (6 * t + v) b) g t q (v + 1) := by
  intro i hi u hu
  by_cases e : 6 * i + u = 6 * t + v
  · have e1 : i = t := by omega
    have e2 : u = v := by omega
    subst e1; subst e2
    refine ⟨fun _ => ?_, fun z => absurd ⟨rfl, by omega⟩ z⟩
    rw [pk_us, pk_us]
    exact ⟨ha, hb⟩
  · rw [pk_un e, pk_un e]
    refine ⟨fun z => (h i hi u hu).1 ⟨z.1, ?_⟩, fun z => (h i hi u hu).2 (fun y => z ⟨y.1, by omega⟩)⟩
    have : u ≠ v := by
      intro y
      apply e
      rw [z.1, y]
    omega
theorem bc_ep_id {S C : bc_F} {g : bc_G} {t : Nat} {q : bc_R} {v : Nat} (h : bc_ep S C g t q v) (ha : bc_s0 (g t) v = bc_s0 (some (bc_jo (g t) q)) v) (hb : bc_c0 (g t) v = bc_c0 (some (bc_jo (g t) q)) v) : bc_ep S C g t q (v + 1) := by
  intro i hi u hu
  refine ⟨fun z => ?_, fun z => (h i hi u hu).2 (fun y => z ⟨y.1, by omega⟩)⟩
  by_cases e : u = v
  · subst e
    have e1 := z.1
    subst e1
    have := (h i hi u hu).2 (fun y => absurd y.2 (by omega))
    rw [this.1, this.2]
    exact ⟨ha, hb⟩
  · exact (h i hi u hu).1 ⟨z.1, by omega⟩
/-- something has changed, up to the variable v -/
def bc_chv (a : Option bc_R) (q : bc_R) (v : Nat) : Prop := match a with
  | none => 0 < v
  | some r => ∃ u, u < v ∧ r u ≠ none ∧ r u ≠ q u
theorem bc_chv_0 (a : Option bc_R) (q : bc_R) : ¬ bc_chv a q 0 := by
  cases a with
  | none => intro h; exact absurd (show 0 < 0 from h) (by omega)
  | some r => rintro ⟨u, h, _⟩; omega
theorem bc_chv_6 (a : Option bc_R) (q : bc_R) : bc_chv a q 6 ↔ bc_chg a q := by
  cases a with
  | none => exact ⟨fun _ => trivial, fun _ => (by omega : 0 < 6)⟩
  | some r => exact Iff.rfl
theorem bc_chv_s {a : Option bc_R} {q : bc_R} {v : Nat} (h : bc_chv a q v) : bc_chv a q (v + 1) := by
  cases a with
  | none => exact (show 0 < v + 1 by omega)
  | some r =>
    obtain ⟨u, h1, h2⟩ := h
    exact ⟨u, by omega, h2⟩
theorem bc_chv_at {r q : bc_R} {v : Nat} (h1 : r v ≠ none) (h2 : r v ≠ q v) : bc_chv (some r) q (v + 1) := ⟨v, by omega, h1, h2⟩
theorem bc_chv_no {r q : bc_R} {v : Nat} (h : bc_chv (some r) q (v + 1)) (h1 : r v = none ∨ r v = q v) : bc_chv (some r) q v := by
  obtain ⟨u, a1, a2, a3⟩ := h
  by_cases e : u = v
  · subst e
    rcases h1 with z | z
    · exact absurd z a2
    · exact absurd z a3
  · exact ⟨u, by omega, a2, a3⟩
/-- who waits, up to the variable v -/
def bc_wv (a : Option bc_R) (q : bc_R) (W : bc_F) (t v : Nat) (W' : bc_F) : Prop := (∀ j, j ≠ t → W' j = W j) ∧ (bc_chv a q v → W' t = 1) ∧ (¬ bc_chv a q v → W' t = W t)
theorem bc_wv_0 (a : Option bc_R) (q : bc_R) (W : bc_F) (t : Nat) : bc_wv a q W t 0 W := ⟨fun _ _ => rfl, fun h => absurd h (bc_chv_0 a q), fun _ => rfl⟩
theorem bc_wv_1 {a : Option bc_R} {q : bc_R} {W W' : bc_F} {t v : Nat} (h : bc_wv a q W t v W') (hc : bc_chv a q (v + 1)) : bc_wv a q W t (v + 1) (upd W' t 1) := ⟨fun j hj => by rw [pk_un hj]; exact h.1 j hj, fun _ => pk_us, fun z => absurd hc z⟩
theorem bc_wv_n {a : Option bc_R} {q : bc_R} {W W' : bc_F} {t v : Nat} (h : bc_wv a q W t v W') (hc : bc_chv a q (v + 1) → bc_chv a q v) : bc_wv a q W t (v + 1) W' := ⟨h.1, fun z => h.2.1 (hc z), fun z => h.2.2 (fun y => z (bc_chv_s y))⟩
theorem bc_wv_6 {n : Nat} {g : bc_G} {q : bc_R} {W W' : bc_F} {t : Nat} (ht : t < n) (h : bc_wv (g t) q W t 6 W') : bc_wr n g W t q W' := ⟨h.1, fun _ hc => h.2.1 ((bc_chv_6 _ _).mpr hc), fun z => h.2.2 (fun y => by
  rcases z with z | z
  · exact z ht
  · exact z ((bc_chv_6 _ _).mp y))⟩
theorem bc_jo_same {r q : bc_R} {v : Nat} (h : r v = none ∨ r v = q v) : bc_jo (some r) q v = r v := by
  show bc_jn r q v = r v
  unfold bc_jn
  by_cases e : r v = q v
  · rw [if_pos e]
  · rw [if_neg e]
    rcases h with z | z
    · exact z.symm
    · exact absurd z e
theorem bc_jo_diff {r q : bc_R} {v : Nat} (h : r v ≠ q v) : bc_jo (some r) q v = none := by
  show bc_jn r q v = none
  unfold bc_jn
  rw [if_neg h]
theorem bc_s0_cg {a : bc_R} {b : bc_R} {v : Nat} (h : a v = b v) : bc_s0 (some a) v = bc_s0 (some b) v ∧ bc_c0 (some a) v = bc_c0 (some b) v := by
  unfold bc_s0 bc_c0
  simp only [h]
  exact ⟨trivial, trivial⟩
