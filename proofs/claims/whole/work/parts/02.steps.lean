/-! the class's worklist and the reference's sweeps keep their invariants -/
def bc_wr (n : Nat) (g : bc_G) (W : bc_F) (t : Nat) (q : bc_R) (W' : bc_F) : Prop := (∀ j, j ≠ t → W' j = W j) ∧ (t < n → bc_chg (g t) q → W' t = 1) ∧ ((¬ t < n ∨ ¬ bc_chg (g t) q) → W' t = W t)
def bc_run (n : Nat) : List (Nat × bc_R) → bc_G → bc_F → bc_G → bc_F → Prop
  | [], g, W, g', W' => g' = g ∧ W' = W
  | p :: L, g, W, g', W' => ∃ W1, bc_wr n g W p.1 p.2 W1 ∧ bc_run n L (bc_come n g p.1 p.2) W1 g' W'
def bc_nw (n : Nat) (W : bc_F) : Nat := bc_sm (fun i => if W i = 0 then 0 else 1) n
theorem bc_sm_one {f g : Nat → Nat} (t : Nat) : ∀ {k : Nat}, (∀ j, j < k → j ≠ t → f j ≤ g j) → f t ≤ g t + 1 → bc_sm f k ≤ bc_sm g k + 1
  | 0, _, _ => by show 0 ≤ 0 + 1; omega
  | k + 1, h, ht => by
    show bc_sm f k + f k ≤ bc_sm g k + g k + 1
    by_cases e : k = t
    · subst e
      have := bc_sm_le (f := f) (g := g) (k := k) (fun j hj => h j (by omega) (by omega))
      omega
    · have := bc_sm_one (f := f) (g := g) t (k := k) (fun j hj hne => h j (by omega) hne) ht
      have := h k (by omega) e
      omega
def bc_IC (n : Nat) (K O T H : bc_F) (g : bc_G) (W : bc_F) : Prop :=
  (0 < n → bc_leO (some bc_top) (g 0)) ∧ (∀ j, j < n → W j = 0 → bc_cl n K O T H g j) ∧ bc_low n K O T H g ∧ ∀ j, j < 40 → W j ≠ 0 → j < n ∧ ∃ r, g j = some r
def bc_IX (n : Nat) (K O T H : bc_F) (i : Nat) (r : bc_R) (D : List (Nat × bc_R)) (g : bc_G) (W : bc_F) : Prop :=
  (0 < n → bc_leO (some bc_top) (g 0)) ∧ (∀ j, j < n → j ≠ i → W j = 0 → bc_cl n K O T H g j) ∧ (W i = 0 → ∃ r', g i = some r' ∧ bc_le r' r) ∧ (∀ p ∈ D, p.1 < n → bc_leO (some p.2) (g p.1)) ∧ bc_low n K O T H g ∧ ∀ j, j < 40 → W j ≠ 0 → j < n ∧ ∃ r, g j = some r
theorem bc_IX_come {n : Nat} {K O T H : bc_F} {i : Nat} {r : bc_R} {D : List (Nat × bc_R)} {g : bc_G} {W W1 : bc_F} {p : Nat × bc_R} (hw : bc_wf n K O T H) (hi : i < n) (hr : ∀ h, bc_cld n K O T H h → bc_leO (some r) (h i)) (h : bc_IX n K O T H i r D g W) (hp : p ∈ bc_out K O T H i r) (hW : bc_wr n g W p.1 p.2 W1) :
    bc_IX n K O T H i r (p :: D) (bc_come n g p.1 p.2) W1 ∧ bc_pot n (bc_come n g p.1 p.2) + bc_nw n W1 ≤ bc_pot n g + bc_nw n W := by
  obtain ⟨hz, ha, hb, hc, hd, he⟩ := h
  obtain ⟨w1, w2, w3⟩ := hW
  have hno : p.1 < n → W1 p.1 = 0 → ¬ bc_chg (g p.1) p.2 := by
    intro ht h0 hch
    rw [w2 ht hch] at h0
    exact absurd h0 (by decide)
  refine ⟨⟨fun h0 => bc_leO_tr (hz h0) (bc_come_ge _ _ _ _ _), ?_, ?_, ?_, bc_low_come hw hi hd hr hp, ?_⟩, ?_⟩
  · intro j hj hne h0
    by_cases e : j = p.1
    · have h0' : W1 p.1 = 0 := by rw [← e]; exact h0
      have hn := hno (by rw [← e]; exact hj) h0'
      have : W p.1 = 0 := by rw [← w3 (Or.inr hn)]; exact h0'
      exact bc_cl_same hw hj (ha j hj hne (by rw [e]; exact this)) hn
    · exact bc_cl_ne (ha j hj hne (by rw [← w1 j e]; exact h0)) e
  · intro h0
    by_cases e : i = p.1
    · have h0' : W1 p.1 = 0 := by rw [← e]; exact h0
      have hin : p.1 < n := by rw [← e]; exact hi
      have hn := hno hin h0'
      have : W p.1 = 0 := by rw [← w3 (Or.inr hn)]; exact h0'
      obtain ⟨r', h1, h2⟩ := hb (by rw [e]; exact this)
      obtain ⟨r0, h3, h4⟩ := bc_nchg hn
      have h5 : r' = r0 := by
        rw [← e] at h3
        exact Option.some.inj (h1.symm.trans h3)
      refine ⟨bc_jn r0 p.2, ?_, ?_⟩
      · rw [e, bc_come_at hin, h3]
        rfl
      · refine bc_le_tr (q := r0) (fun v hv => Or.inr (h4 v hv)) ?_
        rw [← h5]; exact h2
    · obtain ⟨r', h1, h2⟩ := hb (by rw [← w1 i e]; exact h0)
      exact ⟨r', by rw [bc_come_ne e]; exact h1, h2⟩
  · intro p' hp' hn
    rcases List.mem_cons.mp hp' with e | e
    · subst e; exact bc_come_has _ _ hn
    · exact bc_leO_tr (hc p' e hn) (bc_come_ge _ _ _ _ _)
  · intro j hj h0
    by_cases e : j = p.1
    · by_cases ht : p.1 < n
      · refine ⟨by rw [e]; exact ht, bc_jo (g p.1) p.2, by rw [e]; exact bc_come_at ht⟩
      · have : W j ≠ 0 := by rw [e, ← w3 (Or.inl ht), ← e]; exact h0
        obtain ⟨h1, h2⟩ := he j hj this
        rw [e] at h1
        exact absurd h1 ht
    · obtain ⟨h1, h2⟩ := he j hj (by rw [← w1 j e]; exact h0)
      exact ⟨h1, by rw [bc_come_ne e]; exact h2⟩
  · by_cases hch : p.1 < n ∧ bc_chg (g p.1) p.2
    · have q1 := bc_pot_lt hch.1 hch.2
      have q2 : bc_nw n W1 ≤ bc_nw n W + 1 := by
        refine bc_sm_one p.1 (fun j _ hne => ?_) ?_
        · show (if W1 j = 0 then 0 else 1) ≤ (if W j = 0 then 0 else 1)
          rw [w1 j hne]
          exact Nat.le_refl _
        · show (if W1 p.1 = 0 then 0 else 1) ≤ (if W p.1 = 0 then 0 else 1) + 1
          by_cases z : W1 p.1 = 0
          · rw [if_pos z]; omega
          · rw [if_neg z]; omega
      omega
    · have q1 := bc_pot_le n g p.1 p.2
      have q2 : bc_nw n W1 ≤ bc_nw n W := by
        refine bc_sm_le (fun j _ => ?_)
        show (if W1 j = 0 then 0 else 1) ≤ (if W j = 0 then 0 else 1)
        by_cases e : j = p.1
        · have hor : ¬ p.1 < n ∨ ¬ bc_chg (g p.1) p.2 := by
            by_cases ht : p.1 < n
            · exact Or.inr (fun z => hch ⟨ht, z⟩)
            · exact Or.inl ht
          rw [e, w3 hor]
          exact Nat.le_refl _
        · rw [w1 j e]
          exact Nat.le_refl _
      omega
theorem bc_IX_run {n : Nat} {K O T H : bc_F} {i : Nat} {r : bc_R} (hw : bc_wf n K O T H) (hi : i < n) (hr : ∀ h, bc_cld n K O T H h → bc_leO (some r) (h i)) : ∀ (L D : List (Nat × bc_R)) (g : bc_G) (W : bc_F) (g' : bc_G) (W' : bc_F), (∀ p ∈ L, p ∈ bc_out K O T H i r) → bc_IX n K O T H i r D g W → bc_run n L g W g' W' →
    ∃ D', (∀ p, p ∈ L ∨ p ∈ D → p ∈ D') ∧ bc_IX n K O T H i r D' g' W' ∧ bc_pot n g' + bc_nw n W' ≤ bc_pot n g + bc_nw n W
  | [], D, g, W, g', W', _, h, hrun => by
    obtain ⟨rfl, rfl⟩ := hrun
    exact ⟨D, fun p hp => by rcases hp with hp | hp; · cases hp
                             · exact hp, h, Nat.le_refl _⟩
  | p :: L, D, g, W, g', W', hL, h, hrun => by
    obtain ⟨W1, h1, h2⟩ := hrun
    obtain ⟨h3, h4⟩ := bc_IX_come hw hi hr h (hL p List.mem_cons_self) h1
    obtain ⟨D', h5, h6, h7⟩ := bc_IX_run hw hi hr L (p :: D) _ W1 g' W' (fun p' hp' => hL p' (List.mem_cons_of_mem _ hp')) h3 h2
    refine ⟨D', fun p' hp' => ?_, h6, by omega⟩
    rcases hp' with hp' | hp'
    · rcases List.mem_cons.mp hp' with e | e
      · exact h5 p' (Or.inr (by rw [e]; exact List.mem_cons_self))
      · exact h5 p' (Or.inl e)
    · exact h5 p' (Or.inr (List.mem_cons_of_mem _ hp'))
/-- one instruction that waited is gone on from -/
theorem bc_IC_step {n : Nat} {K O T H : bc_F} {i : Nat} {r : bc_R} {g g' : bc_G} {W W' : bc_F} (hw : bc_wf n K O T H) (hi : i < n) (h : bc_IC n K O T H g W) (hg : g i = some r) (hWi : W i ≠ 0) (hrun : bc_run n (bc_out K O T H i r) g (upd W i 0) g' W') :
    bc_IC n K O T H g' W' ∧ bc_pot n g' + bc_nw n W' < bc_pot n g + bc_nw n W := by
  obtain ⟨hz, ha, hd, he⟩ := h
  have hr : ∀ h, bc_cld n K O T H h → bc_leO (some r) (h i) := fun k hk => by rw [← hg]; exact hd k hk i hi
  have hX : bc_IX n K O T H i r [] g (upd W i 0) := by
    refine ⟨hz, fun j hj hne h0 => ha j hj ?_, fun _ => ⟨r, hg, bc_le_rfl r⟩, (fun p hp => by cases hp), hd, fun j hj h0 => ?_⟩
    · rw [pk_un hne] at h0; exact h0
    · by_cases e : j = i
      · subst e; rw [pk_us] at h0; exact absurd rfl h0
      · rw [pk_un e] at h0; exact he j hj h0
  obtain ⟨D', h1, ⟨q1, q2, q3, q4, q5, q6⟩, h3⟩ := bc_IX_run hw hi hr _ [] g _ g' W' (fun p hp => hp) hX hrun
  have hlt : bc_nw n (upd W i 0) < bc_nw n W := by
    refine bc_sm_lt (fun j _ => ?_) i hi ?_
    · show (if upd W i 0 j = 0 then 0 else 1) ≤ (if W j = 0 then 0 else 1)
      by_cases e : j = i
      · subst e; rw [pk_us, if_pos rfl]; omega
      · rw [pk_un e]; exact Nat.le_refl _
    · show (if upd W i 0 i = 0 then 0 else 1) < (if W i = 0 then 0 else 1)
      rw [pk_us, if_pos rfl, if_neg hWi]; omega
  refine ⟨⟨q1, fun j hj h0 => ?_, q5, q6⟩, by omega⟩
  by_cases e : j = i
  · subst e
    obtain ⟨r', h5, h6⟩ := q3 h0
    intro r2 hr2 p hp hn
    have e2 : r' = r2 := Option.some.inj (h5.symm.trans hr2)
    subst e2
    obtain ⟨p', hp', e1, e3⟩ := bc_out_le (hw j hi) h6 p hp
    have := q4 p' (h1 p' (Or.inl hp')) (by rw [e1]; exact hn)
    rw [e1] at this
    exact bc_leO_tr (a := some p.2) (b := some p'.2) e3 this
  · exact q2 j hj e h0
theorem bc_IC_end {n : Nat} {K O T H : bc_F} {g : bc_G} {W : bc_F} (h : bc_IC n K O T H g W) (h0 : ∀ j, j < n → W j = 0) : bc_Lst n K O T H g := ⟨⟨h.1, fun i hi => h.2.1 i hi (h0 i hi)⟩, h.2.2.1⟩
theorem bc_IC_0 {n : Nat} {K O T H : bc_F} {W W' : bc_F} (hW0 : ∀ j, j < 40 → W j = 0) (h : bc_wr n (fun _ => none) W 0 bc_top W') (hn : n ≤ 40) : bc_IC n K O T H (bc_come n (fun _ => none) 0 bc_top) W' := by
  obtain ⟨w1, w2, w3⟩ := h
  refine ⟨fun h0 => by rw [bc_come_at h0]; exact bc_le_rfl _, fun j hj h0 r hr => ?_, fun k hk j hj => ?_, fun j hj h0 => ?_⟩
  · by_cases e : j = 0
    · subst e
      rw [w2 hj trivial] at h0
      exact absurd h0 (by decide)
    · rw [bc_come_ne e] at hr; cases hr
  · by_cases e : j = 0
    · subst e
      rw [bc_come_at hj]
      exact hk.1 hj
    · rw [bc_come_ne e]; trivial
  · by_cases e : j = 0
    · subst e
      by_cases ht : 0 < n
      · exact ⟨ht, bc_top, by rw [bc_come_at ht]; rfl⟩
      · rw [w3 (Or.inl ht)] at h0
        exact absurd (hW0 0 hj) h0
    · rw [w1 j e] at h0
      exact absurd (hW0 j hj) h0
theorem bc_pot_0 {n : Nat} {W W' : bc_F} (hW0 : ∀ j, j < 40 → W j = 0) (h : bc_wr n (fun _ => none) W 0 bc_top W') (hn : n ≤ 40) : bc_pot n (bc_come n (fun _ => none) 0 bc_top) + bc_nw n W' ≤ 280 := by
  obtain ⟨w1, w2, w3⟩ := h
  have q1 : bc_nw n W' ≤ 0 * n + 1 := by
    have h1 : bc_nw n W' ≤ bc_sm (fun _ => 0) n + 1 := by
      refine bc_sm_one 0 (fun j hj hne => ?_) ?_
      · show (if W' j = 0 then 0 else 1) ≤ 0
        rw [w1 j hne, hW0 j (by omega), if_pos rfl]
        exact Nat.le_refl _
      · show (if W' 0 = 0 then 0 else 1) ≤ 0 + 1
        by_cases z : W' 0 = 0
        · rw [if_pos z]; omega
        · rw [if_neg z]; omega
    have h2 := bc_sm_bound (f := fun _ => 0) (b := 0) (k := n) (fun _ _ => Nat.le_refl _)
    omega
  by_cases ht : 0 < n
  · have q2 := bc_pot_lt (n := n) (g := fun _ => none) (t := 0) (q := bc_top) ht trivial
    have q3 : bc_pot n (fun _ => none) ≤ 7 * n := bc_sm_bound (fun j _ => Nat.le_refl _)
    omega
  · have e : n = 0 := by omega
    subst e
    show bc_sm _ 0 + bc_sm _ 0 ≤ 280
    show 0 + 0 ≤ 280
    omega
/-! the reference's sweeps -/
def bc_gr (n : Nat) (g : bc_G) (t : Nat) (q : bc_R) (u u' : Int32) : Prop := (t < n → bc_chg (g t) q → u' = 1) ∧ ((¬ t < n ∨ ¬ bc_chg (g t) q) → u' = u)
def bc_runR (n : Nat) : List (Nat × bc_R) → bc_G → Int32 → bc_G → Int32 → Prop
  | [], g, u, g', u' => g' = g ∧ u' = u
  | p :: L, g, u, g', u' => ∃ u1, bc_gr n g p.1 p.2 u u1 ∧ bc_runR n L (bc_come n g p.1 p.2) u1 g' u'
def bc_IR (n : Nat) (K O T H : bc_F) (m0 : Nat) (i : Nat) (g : bc_G) (u : Int32) : Prop :=
  (0 < n → bc_leO (some bc_top) (g 0)) ∧ bc_low n K O T H g ∧ (u = 0 → ∀ j, j < i → j < n → bc_cl n K O T H g j) ∧ bc_pot n g ≤ m0 ∧ (u ≠ 0 → bc_pot n g < m0)
def bc_IRX (n : Nat) (K O T H : bc_F) (m0 : Nat) (i : Nat) (r : bc_R) (D : List (Nat × bc_R)) (g : bc_G) (u : Int32) : Prop :=
  bc_IR n K O T H m0 i g u ∧ (u = 0 → ∃ r', g i = some r' ∧ bc_le r' r) ∧ ∀ p ∈ D, p.1 < n → bc_leO (some p.2) (g p.1)
theorem bc_IRX_come {n : Nat} {K O T H : bc_F} {m0 i : Nat} {r : bc_R} {D : List (Nat × bc_R)} {g : bc_G} {u u1 : Int32} {p : Nat × bc_R} (hw : bc_wf n K O T H) (hi : i < n) (hr : ∀ h, bc_cld n K O T H h → bc_leO (some r) (h i)) (h : bc_IRX n K O T H m0 i r D g u) (hp : p ∈ bc_out K O T H i r) (hu : bc_gr n g p.1 p.2 u u1) :
    bc_IRX n K O T H m0 i r (p :: D) (bc_come n g p.1 p.2) u1 := by
  obtain ⟨⟨hz, hd, ha, hm, hl⟩, hb, hc⟩ := h
  obtain ⟨w2, w3⟩ := hu
  by_cases hch : p.1 < n ∧ bc_chg (g p.1) p.2
  · have e1 : u1 = 1 := w2 hch.1 hch.2
    have q1 := bc_pot_lt hch.1 hch.2
    subst e1
    refine ⟨⟨fun h0 => bc_leO_tr (hz h0) (bc_come_ge _ _ _ _ _), bc_low_come hw hi hd hr hp, fun z => absurd z (by decide), by omega, fun _ => by omega⟩, fun z => absurd z (by decide), fun p' hp' hn => ?_⟩
    rcases List.mem_cons.mp hp' with e | e
    · subst e; exact bc_come_has _ _ hn
    · exact bc_leO_tr (hc p' e hn) (bc_come_ge _ _ _ _ _)
  · have hor : ¬ p.1 < n ∨ ¬ bc_chg (g p.1) p.2 := by
      by_cases ht : p.1 < n
      · exact Or.inr (fun z => hch ⟨ht, z⟩)
      · exact Or.inl ht
    have e1 := w3 hor
    subst e1
    have q1 := bc_pot_le n g p.1 p.2
    have hcl : ∀ j, j < n → bc_cl n K O T H g j → bc_cl n K O T H (bc_come n g p.1 p.2) j := by
      intro j hj hcj
      rcases hor with z | z
      · rw [bc_come_out z]; exact hcj
      · exact bc_cl_same hw hj hcj z
    refine ⟨⟨fun h0 => bc_leO_tr (hz h0) (bc_come_ge _ _ _ _ _), bc_low_come hw hi hd hr hp, fun z j hj hjn => hcl j hjn (ha z j hj hjn), by omega, fun z => Nat.lt_of_le_of_lt q1 (hl z)⟩, fun z => ?_, fun p' hp' hn => ?_⟩
    · obtain ⟨r', h1, h2⟩ := hb z
      by_cases e : i = p.1
      · have hin : p.1 < n := by rw [← e]; exact hi
        have hn : ¬ bc_chg (g p.1) p.2 := fun z => hch ⟨hin, z⟩
        obtain ⟨r0, h3, h4⟩ := bc_nchg hn
        have h5 : r' = r0 := by
          rw [← e] at h3
          exact Option.some.inj (h1.symm.trans h3)
        refine ⟨bc_jn r0 p.2, ?_, ?_⟩
        · rw [e, bc_come_at hin, h3]
          rfl
        · refine bc_le_tr (q := r0) (fun v hv => Or.inr (h4 v hv)) ?_
          rw [← h5]; exact h2
      · exact ⟨r', by rw [bc_come_ne e]; exact h1, h2⟩
    · rcases List.mem_cons.mp hp' with e | e
      · subst e; exact bc_come_has _ _ hn
      · exact bc_leO_tr (hc p' e hn) (bc_come_ge _ _ _ _ _)
theorem bc_IRX_run {n : Nat} {K O T H : bc_F} {m0 i : Nat} {r : bc_R} (hw : bc_wf n K O T H) (hi : i < n) (hr : ∀ h, bc_cld n K O T H h → bc_leO (some r) (h i)) : ∀ (L D : List (Nat × bc_R)) (g : bc_G) (u : Int32) (g' : bc_G) (u' : Int32), (∀ p ∈ L, p ∈ bc_out K O T H i r) → bc_IRX n K O T H m0 i r D g u → bc_runR n L g u g' u' →
    ∃ D', (∀ p, p ∈ L ∨ p ∈ D → p ∈ D') ∧ bc_IRX n K O T H m0 i r D' g' u'
  | [], D, g, u, g', u', _, h, hrun => by
    obtain ⟨rfl, rfl⟩ := hrun
    exact ⟨D, fun p hp => by rcases hp with hp | hp; · cases hp
                             · exact hp, h⟩
  | p :: L, D, g, u, g', u', hL, h, hrun => by
    obtain ⟨u1, h1, h2⟩ := hrun
    have h3 := bc_IRX_come hw hi hr h (hL p List.mem_cons_self) h1
    obtain ⟨D', h5, h6⟩ := bc_IRX_run hw hi hr L (p :: D) _ u1 g' u' (fun p' hp' => hL p' (List.mem_cons_of_mem _ hp')) h3 h2
    refine ⟨D', fun p' hp' => ?_, h6⟩
    rcases hp' with hp' | hp'
    · rcases List.mem_cons.mp hp' with e | e
      · exact h5 p' (Or.inr (by rw [e]; exact List.mem_cons_self))
      · exact h5 p' (Or.inl e)
    · exact h5 p' (Or.inr (List.mem_cons_of_mem _ hp'))
theorem bc_IR_step {n : Nat} {K O T H : bc_F} {m0 i : Nat} {r : bc_R} {g g' : bc_G} {u u' : Int32} (hw : bc_wf n K O T H) (hi : i < n) (h : bc_IR n K O T H m0 i g u) (hg : g i = some r) (hrun : bc_runR n (bc_out K O T H i r) g u g' u') : bc_IR n K O T H m0 (i + 1) g' u' := by
  have hr : ∀ h, bc_cld n K O T H h → bc_leO (some r) (h i) := fun k hk => by rw [← hg]; exact h.2.1 k hk i hi
  obtain ⟨D', h1, ⟨⟨q1, q2, q3, q4, q5⟩, q6, q7⟩⟩ := bc_IRX_run hw hi hr _ [] g u g' u' (fun p hp => hp) ⟨h, fun _ => ⟨r, hg, bc_le_rfl r⟩, fun p hp => by cases hp⟩ hrun
  refine ⟨q1, q2, fun z j hj hjn => ?_, q4, q5⟩
  by_cases e : j = i
  · subst e
    obtain ⟨r', h5, h6⟩ := q6 z
    intro r2 hr2 p hp hn
    have e2 : r' = r2 := Option.some.inj (h5.symm.trans hr2)
    subst e2
    obtain ⟨p', hp', e1, e3⟩ := bc_out_le (hw j hi) h6 p hp
    have := q7 p' (h1 p' (Or.inl hp')) (by rw [e1]; exact hn)
    rw [e1] at this
    exact bc_leO_tr (a := some p.2) (b := some p'.2) e3 this
  · exact q3 z j (by omega) hjn
theorem bc_IR_skip {n : Nat} {K O T H : bc_F} {m0 i : Nat} {g : bc_G} {u : Int32} (h : bc_IR n K O T H m0 i g u) (hg : g i = none) : bc_IR n K O T H m0 (i + 1) g u := by
  obtain ⟨q1, q2, q3, q4, q5⟩ := h
  refine ⟨q1, q2, fun z j hj hjn => ?_, q4, q5⟩
  by_cases e : j = i
  · subst e
    intro r hr
    rw [hg] at hr
    cases hr
  · exact q3 z j (by omega) hjn
theorem bc_IR_end {n : Nat} {K O T H : bc_F} {m0 : Nat} {g : bc_G} (h : bc_IR n K O T H m0 n g 0) : bc_Lst n K O T H g := ⟨⟨h.1, fun i hi => h.2.2.1 rfl i hi hi⟩, h.2.1⟩
