/-! rows behind FOLD and behind REWRITING are well formed -/
theorem bc_tn_le (n : Nat) (x : Int32) : bc_tn n x ≤ n := by
  unfold bc_tn
  by_cases h : x.toNatClampNeg < n
  · rw [if_pos h]; omega
  · rw [if_neg h]; exact Nat.le_refl _
theorem bc_f1_q {n : Nat} {K O T H : bc_F} {g : bc_G} (i : Nat) (hi : i < n) : (bc_f1 n K O T H g i).2.2.2.2 ≤ n := by
  unfold bc_f1
  rw [if_pos hi]
  cases g i with
  | none =>
    show (if K i ≤ 4 ∨ K i = 7 then _ else _ : Int32 × Int32 × Int32 × Int32 × Nat).2.2.2.2 ≤ n
    by_cases h : K i ≤ 4 ∨ K i = 7
    · rw [if_pos h]; exact Nat.zero_le _
    · rw [if_neg h]; exact bc_tn_le _ _
  | some r =>
    show (if K i ≤ 4 then _ else _ : Int32 × Int32 × Int32 × Int32 × Nat).2.2.2.2 ≤ n
    by_cases h4 : K i ≤ 4
    · rw [if_pos h4]
      cases bc_rs K T H i r with
      | none => exact Nat.zero_le _
      | some x => exact Nat.zero_le _
    · rw [if_neg h4]
      by_cases h5 : K i = 5
      · rw [if_pos h5]
        cases r (O i).toNatClampNeg with
        | none => exact bc_tn_le _ _
        | some x =>
          show (if x = 0 then bc_tn n (T i) else i + 1) ≤ n
          by_cases hx : x = 0
          · rw [if_pos hx]; exact bc_tn_le _ _
          · rw [if_neg hx]; exact hi
      · rw [if_neg h5]
        by_cases h7 : K i = 7
        · rw [if_pos h7]; exact Nat.zero_le _
        · rw [if_neg h7]; exact bc_tn_le _ _
def bc_fw (F : Int32 × Int32 × Int32 × Int32 × Nat) : Prop := (¬ bc_gs F.1 → bc_wi F.1 F.2.1 F.2.2.1 F.2.2.2.1) ∧ (bc_gs F.1 → ∀ t, bc_tr t → bc_wi F.1 F.2.1 t F.2.2.2.1)
theorem bc_fw_no {k o t h : Int32} (q : Nat) (hw : bc_wi k o t h) (hk : k ≤ 4 ∨ k = 7) : bc_fw (k, o, t, h, q) := by
  refine ⟨fun _ => hw, fun hg => ?_⟩
  rcases hg with e | e
  · have e : k = 6 := e
    rw [e] at hk
    exact absurd hk (by decide)
  · have e : k = 5 := e
    rw [e] at hk
    exact absurd hk (by decide)
theorem bc_fw_go {k o t h : Int32} (x : Int32) (q : Nat) (hw : bc_wi k o t h) (hk : ¬ (k ≤ 4 ∨ k = 7)) : bc_fw (k, o, x, h, q) := by
  rcases hw with ⟨e, _⟩ | ⟨e, _⟩ | ⟨e, _⟩ | ⟨e, e2, e3, e4⟩ | ⟨e, e2, e3, e4⟩ | ⟨e, _⟩
  · rw [e] at hk; exact absurd (by decide) hk
  · rw [e] at hk; exact absurd (by decide) hk
  · rcases e with e | e | e <;> (rw [e] at hk; exact absurd (by decide) hk)
  · exact ⟨fun hg => absurd (Or.inr e) hg, fun _ t' ht' => Or.inr (Or.inr (Or.inr (Or.inl ⟨e, e2, ht', e4⟩)))⟩
  · exact ⟨fun hg => absurd (Or.inl e) hg, fun _ t' ht' => Or.inr (Or.inr (Or.inr (Or.inr (Or.inl ⟨e, e2, ht', e4⟩))))⟩
  · exact absurd (Or.inr e) hk
theorem bc_wi_o {k o t h : Int32} (hw : bc_wi k o t h) (h4 : k ≤ 4) : bc_vr o := by
  rcases hw with ⟨_, e, _⟩ | ⟨_, e, _⟩ | ⟨_, e, _⟩ | ⟨_, e, _⟩ | ⟨e, _⟩ | ⟨e, _⟩
  · exact e
  · exact e
  · exact e
  · exact e
  · rw [e] at h4; exact absurd h4 (by decide)
  · rw [e] at h4; exact absurd h4 (by decide)
theorem bc_f1_wf {n : Nat} {K O T H : bc_F} {g : bc_G} (hw : bc_wf n K O T H) (i : Nat) (hi : i < n) : bc_fw (bc_f1 n K O T H g i) := by
  have hwi := hw i hi
  unfold bc_f1
  rw [if_pos hi]
  cases g i with
  | none =>
    show bc_fw (if K i ≤ 4 ∨ K i = 7 then _ else _)
    by_cases h : K i ≤ 4 ∨ K i = 7
    · rw [if_pos h]; exact bc_fw_no _ hwi h
    · rw [if_neg h]; exact bc_fw_go _ _ hwi h
  | some r =>
    show bc_fw (if K i ≤ 4 then _ else _)
    by_cases h4 : K i ≤ 4
    · rw [if_pos h4]
      cases bc_rs K T H i r with
      | none => exact bc_fw_no _ hwi (Or.inl h4)
      | some x => exact bc_fw_no _ (Or.inl ⟨rfl, bc_wi_o hwi h4, rfl⟩) (Or.inl (by decide))
    · rw [if_neg h4]
      by_cases h5 : K i = 5
      · rw [if_pos h5]
        cases r (O i).toNatClampNeg with
        | none => exact bc_fw_go _ _ hwi (by rw [h5]; decide)
        | some x => exact ⟨fun hg => absurd (Or.inl rfl) hg, fun _ t' ht' => Or.inr (Or.inr (Or.inr (Or.inr (Or.inl ⟨rfl, rfl, ht', rfl⟩))))⟩
      · rw [if_neg h5]
        by_cases h7 : K i = 7
        · rw [if_pos h7]; exact bc_fw_no _ hwi (Or.inr h7)
        · rw [if_neg h7]
          exact bc_fw_go _ _ hwi (by
            intro z
            rcases z with z | z
            · exact h4 z
            · exact h7 z)
theorem bc_RW_wf {n : Nat} {F : Nat → Int32 × Int32 × Int32 × Int32 × Nat} {n2 : Nat} {K3 O3 T3 H3 : bc_F} (hn : n ≤ 40) (hq : ∀ i, i < n → (F i).2.2.2.2 ≤ n) (hF : ∀ i, i < n → bc_fw (F i)) (h : bc_RW n F n2 K3 O3 T3 H3) : n2 ≤ n ∧ bc_wf n2 K3 O3 T3 H3 := by
  obtain ⟨A, B, h1, h2, h3, h4⟩ := h
  refine ⟨by rw [h3]; exact bc_ct_le B n, fun j hj => ?_⟩
  rw [h3] at hj
  obtain ⟨i, i1, i2, i3⟩ := bc_ct_sur n j hj
  obtain ⟨a1, a2, a3, a4, a5⟩ := h4 i i1 i2
  rw [i3] at a1 a2 a3 a4 a5
  rw [a1, a2, a3]
  by_cases e : bc_gs (F i).1
  · rw [a4 e]
    refine (hF i i1).2 e _ ⟨_, ?_, rfl⟩
    have q1 := bc_ct_le B (bc_q2 n F i)
    have q2 : bc_q2 n F i ≤ n := bc_end_le hq (hq i i1)
    omega
  · rw [a5 e]
    exact (hF i i1).1 e
