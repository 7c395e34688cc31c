/-! Rewriting: fold, thread (by program: wip/whole/gen/modW.py) -/
/-- a row that stands for an instruction behind FOLD -/
def bc_Fa (n : Nat) (F : Int32 × Int32 × Int32 × Int32 × Nat) (k o t z : Int32) : Prop := k = F.1 ∧ o = F.2.1 ∧ z = F.2.2.2.1 ∧ (bc_gs F.1 → bc_tr t ∧ bc_tn n t = F.2.2.2.2) ∧ (¬ bc_gs F.1 → t = F.2.2.1)
def bc_FI (n : Nat) (F : Nat → Int32 × Int32 × Int32 × Int32 × Nat) (K O T Z : bc_F) (i : Nat) (K3 O3 T3 Z3 : bc_F) : Prop := (∀ j, j < n → j < i → bc_Fa n (F j) (K3 j) (O3 j) (T3 j) (Z3 j)) ∧ ∀ j, j < n → i ≤ j → K3 j = K j ∧ O3 j = O j ∧ T3 j = T j ∧ Z3 j = Z j
theorem bc_FI_put {n : Nat} {F : Nat → Int32 × Int32 × Int32 × Int32 × Nat} {K O T Z K3 O3 T3 Z3 : bc_F} {i : Nat} {a b d e : Int32} (h : bc_FI n F K O T Z i K3 O3 T3 Z3) (hf : bc_Fa n (F i) a b d e) : bc_FI n F K O T Z (i + 1) (upd K3 i a) (upd O3 i b) (upd T3 i d) (upd Z3 i e) := by
  refine ⟨fun j hj hji => ?_, fun j hj hij => ?_⟩
  · by_cases c : j = i
    · subst c; rw [pk_us, pk_us, pk_us, pk_us]; exact hf
    · rw [pk_un c, pk_un c, pk_un c, pk_un c]; exact h.1 j hj (by omega)
  · have c : j ≠ i := by omega
    rw [pk_un c, pk_un c, pk_un c, pk_un c]; exact h.2 j hj (by omega)
theorem bc_FI_keep {n : Nat} {F : Nat → Int32 × Int32 × Int32 × Int32 × Nat} {K O T Z K3 O3 T3 Z3 : bc_F} {i : Nat} (h : bc_FI n F K O T Z i K3 O3 T3 Z3) (hi : i < n) (hf : bc_Fa n (F i) (K i) (O i) (T i) (Z i)) : bc_FI n F K O T Z (i + 1) K3 O3 T3 Z3 := by
  refine ⟨fun j hj hji => ?_, fun j hj hij => h.2 j hj (by omega)⟩
  by_cases c : j = i
  · subst c
    obtain ⟨e1, e2, e3, e4⟩ := h.2 j hj (Nat.le_refl _)
    rw [e1, e2, e3, e4]; exact hf
  · exact h.1 j hj (by omega)
theorem bc_le4_gs {k : Int32} (h : k ≤ 4) : ¬ bc_gs k := by
  rintro (e | e)
  · rw [e] at h; exact absurd h (by decide)
  · rw [e] at h; exact absurd h (by decide)
theorem bc_7_gs {k : Int32} (h : k = 7) : ¬ bc_gs k := by
  rintro (e | e)
  · rw [h] at e; exact absurd e (by decide)
  · rw [h] at e; exact absurd e (by decide)
theorem bc_wi_gs {k o t z : Int32} (hw : bc_wi k o t z) (h : bc_gs k) : bc_tr t := by
  rcases h with e | e
  · exact bc_wi_6 hw e
  · exact (bc_wi_5 hw e).2
/-- a row that FOLD leaves as it is -/
theorem bc_fa_same {n : Nat} {k o t z : Int32} (hw : bc_wi k o t z) {F : Int32 × Int32 × Int32 × Int32 × Nat} (hF : ((k ≤ 4 ∨ k = 7) ∧ F = (k, o, t, z, 0)) ∨ (¬ (k ≤ 4 ∨ k = 7) ∧ F = (k, o, 0, z, bc_tn n t))) : bc_Fa n F k o t z := by
  rcases hF with ⟨h, e⟩ | ⟨h, e⟩
  · subst e
    refine ⟨rfl, rfl, rfl, fun hg => ?_, fun _ => rfl⟩
    rcases h with h | h
    · exact absurd hg (bc_le4_gs h)
    · exact absurd hg (bc_7_gs h)
  · subst e
    refine ⟨rfl, rfl, rfl, fun hg => ⟨bc_wi_gs hw hg, rfl⟩, fun hg => ?_⟩
    exfalso
    rcases hw with ⟨e, _⟩ | ⟨e, _⟩ | ⟨e, _⟩ | ⟨e, _⟩ | ⟨e, _⟩ | ⟨e, _⟩
    · rw [e] at h; exact h (by decide)
    · rw [e] at h; exact h (by decide)
    · rcases e with e | e | e <;> (rw [e] at h; exact h (by decide))
    · exact hg (Or.inr e)
    · exact hg (Or.inl e)
    · exact h (Or.inr e)
theorem bc_f1_none {n : Nat} {K O T Z : bc_F} {g : bc_G} {i : Nat} (hi : i < n) (hg : g i = none) : ((K i ≤ 4 ∨ K i = 7) ∧ bc_f1 n K O T Z g i = (K i, O i, T i, Z i, 0)) ∨ (¬ (K i ≤ 4 ∨ K i = 7) ∧ bc_f1 n K O T Z g i = (K i, O i, 0, Z i, bc_tn n (T i))) := by
  unfold bc_f1
  rw [if_pos hi, hg]
  by_cases h : K i ≤ 4 ∨ K i = 7
  · exact Or.inl ⟨h, if_pos h⟩
  · exact Or.inr ⟨h, if_neg h⟩
theorem bc_f1_4n {n : Nat} {K O T Z : bc_F} {g : bc_G} {i : Nat} {r : bc_R} (hi : i < n) (hg : g i = some r) (h4 : K i ≤ 4) (hr : bc_rs K T Z i r = none) : bc_f1 n K O T Z g i = (K i, O i, T i, Z i, 0) := by
  unfold bc_f1
  rw [if_pos hi, hg]
  show (if K i ≤ 4 then _ else _) = _
  rw [if_pos h4, hr]
theorem bc_f1_4s {n : Nat} {K O T Z : bc_F} {g : bc_G} {i : Nat} {r : bc_R} {x : Int32} (hi : i < n) (hg : g i = some r) (h4 : K i ≤ 4) (hr : bc_rs K T Z i r = some x) : bc_f1 n K O T Z g i = (0, O i, x, 0, 0) := by
  unfold bc_f1
  rw [if_pos hi, hg]
  show (if K i ≤ 4 then _ else _) = _
  rw [if_pos h4, hr]
theorem bc_f1_5n {n : Nat} {K O T Z : bc_F} {g : bc_G} {i o : Nat} {r : bc_R} (hi : i < n) (hg : g i = some r) (h5 : K i = 5) (eO : O i = nI o) (ho : o < 6) (hr : r o = none) : bc_f1 n K O T Z g i = (K i, O i, 0, Z i, bc_tn n (T i)) := by
  unfold bc_f1
  rw [if_pos hi, hg]
  show (if K i ≤ 4 then _ else _) = _
  rw [if_neg (by rw [h5]; decide), if_pos h5, bc_cl6 eO ho, hr]
theorem bc_f1_5s {n : Nat} {K O T Z : bc_F} {g : bc_G} {i o : Nat} {r : bc_R} {x : Int32} (hi : i < n) (hg : g i = some r) (h5 : K i = 5) (eO : O i = nI o) (ho : o < 6) (hr : r o = some x) : bc_f1 n K O T Z g i = (6, 0, 0, 0, if x = 0 then bc_tn n (T i) else i + 1) := by
  unfold bc_f1
  rw [if_pos hi, hg]
  show (if K i ≤ 4 then _ else _) = _
  rw [if_neg (by rw [h5]; decide), if_pos h5, bc_cl6 eO ho, hr]
theorem bc_f1_o {n : Nat} {K O T Z : bc_F} {g : bc_G} {i : Nat} {r : bc_R} (hi : i < n) (hg : g i = some r) (h4 : ¬ K i ≤ 4) (h5 : ¬ K i = 5) : ((K i ≤ 4 ∨ K i = 7) ∧ bc_f1 n K O T Z g i = (K i, O i, T i, Z i, 0)) ∨ (¬ (K i ≤ 4 ∨ K i = 7) ∧ bc_f1 n K O T Z g i = (K i, O i, 0, Z i, bc_tn n (T i))) := by
  unfold bc_f1
  rw [if_pos hi, hg]
  show (_ ∧ (if K i ≤ 4 then _ else _) = _) ∨ (_ ∧ (if K i ≤ 4 then _ else _) = _)
  rw [if_neg h4, if_neg h5]
  by_cases h7 : K i = 7
  · exact Or.inl ⟨Or.inr h7, if_pos h7⟩
  · exact Or.inr ⟨fun z => z.elim h4 h7, if_neg h7⟩
theorem bc_tn_nI {n w : Nat} (hw : w ≤ n) (hn : n ≤ 40) : bc_tn n (nI w) = w := by
  unfold bc_tn
  rw [nI_clamp (by omega)]
  by_cases h : w < n
  · rw [if_pos h]
  · rw [if_neg h]; omega
theorem bc_ne5 {k : Int32} (h : k ≤ 4) : ¬ k = 5 := by
  intro e
  rw [e] at h
  exact absurd h (by decide)
theorem bc_fa_4s {n : Nat} {K O T Z : bc_F} {g : bc_G} {i : Nat} {r : bc_R} {x : Int32} (hi : i < n) (hg : g i = some r) (h4 : K i ≤ 4) (hr : bc_rs K T Z i r = some x) : bc_Fa n (bc_f1 n K O T Z g i) 0 (bc_p1 0 (O i)) (bc_p2 0 x) (bc_p3 0 0) := by
  rw [bc_f1_4s hi hg h4 hr]
  exact ⟨rfl, if_neg (by decide), if_neg (by decide), fun h => absurd h (bc_le4_gs (show (0 : Int32) ≤ 4 by decide)), fun _ => if_neg (by decide)⟩
theorem bc_fa_5s {n i o tw : Nat} {K O T Z S C : bc_F} {g : bc_G} {rr : bc_R} (hi : i < n) (hn : n ≤ 40) (hg : g i = some rr) (h5 : K i = 5) (eO : O i = nI o) (ho : o < 6) (hrow : ∀ v, v < 6 → S (6 * i + v) = bc_s0 (some rr) v ∧ C (6 * i + v) = bc_c0 (some rr) v) (h2 : S (6 * i + o) = 2) (hq : (C (6 * i + o) = 0 ∧ tw = bc_tn n (T i)) ∨ (¬ C (6 * i + o) = 0 ∧ tw = i + 1)) : bc_Fa n (bc_f1 n K O T Z g i) 6 (bc_p1 6 0) (bc_p2 6 (nI tw)) (bc_p3 6 0) := by
  have hr : rr o = some (bc_c0 (some rr) o) := bc_s0_is2 (by rw [← (hrow o ho).1]; exact h2)
  rw [bc_f1_5s hi hg h5 eO ho hr]
  have htw : tw ≤ n := by
    rcases hq with ⟨_, e⟩ | ⟨_, e⟩
    · rw [e]; exact bc_tn_le _ _
    · omega
  refine ⟨rfl, if_pos (by decide), if_neg (by decide), fun _ => ?_, fun h => absurd (Or.inl rfl) h⟩
  rw [show bc_p2 6 (nI tw) = nI tw from if_neg (by decide)]
  refine ⟨⟨tw, by omega, rfl⟩, ?_⟩
  rw [bc_tn_nI htw hn]
  rw [(hrow o ho).2] at hq
  rcases hq with ⟨c, e⟩ | ⟨c, e⟩
  · rw [e]; exact (if_pos c).symm
  · rw [e]; exact (if_neg c).symm
set_option maxHeartbeats 4000000 in
set_option maxRecDepth 100000 in
/-- FOLD -/
theorem co_W_fold {l : Launch} {dC : Nat → ClassId} {dI : Nat → Nat → Nat} {cI cZ : ClassId} {sz : Nat} {a0 s1 s2 s3 s4 s5 : Nat} {S C Wt SB CB : bc_F} {res : Int32}{h0 q1 q2 q3 q4 n : Nat} {K O T Z : bc_F}{g0 q5 q6 q7 q8 : Nat} {K2 O2 T2 Z2 : bc_F} {g : bc_G} (hn : n ≤ 40) (hw : bc_wf n K O T Z) (hen : bc_en S C g) (hcp : ∀ j, j < n → K2 j = K j ∧ O2 j = O j ∧ T2 j = T j ∧ Z2 j = Z j) : Met l yn_W_fold (Cond.code yn_W_fold by_W_fold 4 none :: wd_all) ({ frames := 2, cells := 0, slots := 0, locals := 47 } : Room) (bc_Pre (dC, dI) classes [(cI, .int), (cZ, .boolean)] [.ref h0, .ref a0, .ref g0] [(h0, .inr (1, [.ref q1, .ref q2, .ref q3, .ref q4, .int (nI n)])), (q1, .inl (cI, 40, .inl K)), (q2, .inl (cI, 40, .inl O)), (q3, .inl (cI, 40, .inl T)), (q4, .inl (cI, 40, .inl Z)), (a0, .inr (0, [.ref s1, .ref s2, .ref s3, .ref s4, .ref s5, .int res])), (s1, .inl (cI, 240, .inl S)), (s2, .inl (cI, 240, .inl C)), (s3, .inl (cZ, 40, .inl Wt)), (s4, .inl (cI, 6, .inl SB)), (s5, .inl (cI, 6, .inl CB)), (g0, .inr (1, [.ref q5, .ref q6, .ref q7, .ref q8, .int (nI n)])), (q5, .inl (cI, 40, .inl K2)), (q6, .inl (cI, 40, .inl O2)), (q7, .inl (cI, 40, .inl T2)), (q8, .inl (cI, 40, .inl Z2))] sz) (va_Qv (fun (u : bc_F × bc_F × bc_F × bc_F × Int32) => ∀ i, i < n → bc_Fa n (bc_f1 n K O T Z g i) (u.1 i) (u.2.1 i) (u.2.2.1 i) (u.2.2.2.1 i)) (fun (u : bc_F × bc_F × bc_F × bc_F × Int32) t => bc_B (dC, dI) classes [(cI, .int), (cZ, .boolean)] (va_A [(h0, .inr (1, [.ref q1, .ref q2, .ref q3, .ref q4, .int (nI n)])), (q1, .inl (cI, 40, .inl K)), (q2, .inl (cI, 40, .inl O)), (q3, .inl (cI, 40, .inl T)), (q4, .inl (cI, 40, .inl Z)), (a0, .inr (0, [.ref s1, .ref s2, .ref s3, .ref s4, .ref s5, .int res])), (s1, .inl (cI, 240, .inl S)), (s2, .inl (cI, 240, .inl C)), (s3, .inl (cZ, 40, .inl Wt)), (s4, .inl (cI, 6, .inl SB)), (s5, .inl (cI, 6, .inl CB)), (g0, .inr (1, [.ref q5, .ref q6, .ref q7, .ref q8, .int (nI n)])), (q5, .inl (cI, 40, .inl K2)), (q6, .inl (cI, 40, .inl O2)), (q7, .inl (cI, 40, .inl T2)), (q8, .inl (cI, 40, .inl Z2))] sz) [(h0, .inr (1, [.ref q1, .ref q2, .ref q3, .ref q4, .int (nI n)])), (q1, .inl (cI, 40, .inl K)), (q2, .inl (cI, 40, .inl O)), (q3, .inl (cI, 40, .inl T)), (q4, .inl (cI, 40, .inl Z)), (a0, .inr (0, [.ref s1, .ref s2, .ref s3, .ref s4, .ref s5, .int u.2.2.2.2])), (s1, .inl (cI, 240, .inl S)), (s2, .inl (cI, 240, .inl C)), (s3, .inl (cZ, 40, .inl Wt)), (s4, .inl (cI, 6, .inl SB)), (s5, .inl (cI, 6, .inl CB)), (g0, .inr (1, [.ref q5, .ref q6, .ref q7, .ref q8, .int (nI n)])), (q5, .inl (cI, 40, .inl u.1)), (q6, .inl (cI, 40, .inl u.2.1)), (q7, .inl (cI, 40, .inl u.2.2.1)), (q8, .inl (cI, 40, .inl u.2.2.2.1))] t) ((va_A [(h0, .inr (1, [.ref q1, .ref q2, .ref q3, .ref q4, .int (nI n)])), (q1, .inl (cI, 40, .inl K)), (q2, .inl (cI, 40, .inl O)), (q3, .inl (cI, 40, .inl T)), (q4, .inl (cI, 40, .inl Z)), (a0, .inr (0, [.ref s1, .ref s2, .ref s3, .ref s4, .ref s5, .int res])), (s1, .inl (cI, 240, .inl S)), (s2, .inl (cI, 240, .inl C)), (s3, .inl (cZ, 40, .inl Wt)), (s4, .inl (cI, 6, .inl SB)), (s5, .inl (cI, 6, .inl CB)), (g0, .inr (1, [.ref q5, .ref q6, .ref q7, .ref q8, .int (nI n)])), (q5, .inl (cI, 40, .inl K2)), (q6, .inl (cI, 40, .inl O2)), (q7, .inl (cI, 40, .inl T2)), (q8, .inl (cI, 40, .inl Z2))] sz))) 0 0 (va_A [(h0, .inr (1, [.ref q1, .ref q2, .ref q3, .ref q4, .int (nI n)])), (q1, .inl (cI, 40, .inl K)), (q2, .inl (cI, 40, .inl O)), (q3, .inl (cI, 40, .inl T)), (q4, .inl (cI, 40, .inl Z)), (a0, .inr (0, [.ref s1, .ref s2, .ref s3, .ref s4, .ref s5, .int res])), (s1, .inl (cI, 240, .inl S)), (s2, .inl (cI, 240, .inl C)), (s3, .inl (cZ, 40, .inl Wt)), (s4, .inl (cI, 6, .inl SB)), (s5, .inl (cI, 6, .inl CB)), (g0, .inr (1, [.ref q5, .ref q6, .ref q7, .ref q8, .int (nI n)])), (q5, .inl (cI, 40, .inl K2)), (q6, .inl (cI, 40, .inl O2)), (q7, .inl (cI, 40, .inl T2)), (q8, .inl (cI, 40, .inl Z2))] sz) := by
  refine bc_met (fun A => va_Qv (fun (u : bc_F × bc_F × bc_F × bc_F × Int32) => ∀ i, i < n → bc_Fa n (bc_f1 n K O T Z g i) (u.1 i) (u.2.1 i) (u.2.2.1 i) (u.2.2.2.1 i)) (fun (u : bc_F × bc_F × bc_F × bc_F × Int32) t => bc_B (dC, dI) classes [(cI, .int), (cZ, .boolean)] A [(h0, .inr (1, [.ref q1, .ref q2, .ref q3, .ref q4, .int (nI n)])), (q1, .inl (cI, 40, .inl K)), (q2, .inl (cI, 40, .inl O)), (q3, .inl (cI, 40, .inl T)), (q4, .inl (cI, 40, .inl Z)), (a0, .inr (0, [.ref s1, .ref s2, .ref s3, .ref s4, .ref s5, .int u.2.2.2.2])), (s1, .inl (cI, 240, .inl S)), (s2, .inl (cI, 240, .inl C)), (s3, .inl (cZ, 40, .inl Wt)), (s4, .inl (cI, 6, .inl SB)), (s5, .inl (cI, 6, .inl CB)), (g0, .inr (1, [.ref q5, .ref q6, .ref q7, .ref q8, .int (nI n)])), (q5, .inl (cI, 40, .inl u.1)), (q6, .inl (cI, 40, .inl u.2.1)), (q7, .inl (cI, 40, .inl u.2.2.1)), (q8, .inl (cI, 40, .inl u.2.2.2.1))] t) A) (by decide) (Nat.le_of_ble_eq_true rfl) ?_
  intro p e s m args below meth c A ls F hr hlocks hin hA hP hD hl hS
  have hx := F.1
  have hb := F.2.1
  have hml := F.2.2.1
  have hown : s.vm.findClass "BranchConstants$Rewriting" = some m.cls := F.2.2.2.1
  have htw := F.2.2.2.2.1
  have hN := F.2.2.2.2.2.1
  have hK := F.2.2.2.2.2.2
  have hl : lv_has ls 4 [(0, .ref h0), (1, .ref a0), (2, .ref g0)] := hl
  refine lv_iconst (v := 0) hx hb de_W_fold_0 (by decide) ?_
  refine bc_ti (y := nI 0) nI_0.symm ?_
  refine lv_istore_n (lv' := [(3, .int (nI 0)), (0, .ref h0), (1, .ref a0), (2, .ref g0)]) hx hb de_W_fold_1 rfl hl (by decide) rfl (fun ls hl => ?_)
  refine bc_loop (fun k_2 H locs ls => ∃ (i : Nat) (K3 : bc_F) (O3 : bc_F) (T3 : bc_F) (Z3 : bc_F) (x3 : Int32), lv_has ls 4 [(3, .int (nI i)), (0, .ref h0), (1, .ref a0), (2, .ref g0)] ∧ va_P (dC, dI) classes [(h0, .inr (1, [.ref q1, .ref q2, .ref q3, .ref q4, .int (nI n)])), (q1, .inl (cI, 40, .inl K)), (q2, .inl (cI, 40, .inl O)), (q3, .inl (cI, 40, .inl T)), (q4, .inl (cI, 40, .inl Z)), (a0, .inr (0, [.ref s1, .ref s2, .ref s3, .ref s4, .ref s5, .int x3])), (s1, .inl (cI, 240, .inl S)), (s2, .inl (cI, 240, .inl C)), (s3, .inl (cZ, 40, .inl Wt)), (s4, .inl (cI, 6, .inl SB)), (s5, .inl (cI, 6, .inl CB)), (g0, .inr (1, [.ref q5, .ref q6, .ref q7, .ref q8, .int (nI n)])), (q5, .inl (cI, 40, .inl K3)), (q6, .inl (cI, 40, .inl O3)), (q7, .inl (cI, 40, .inl T3)), (q8, .inl (cI, 40, .inl Z3))] H ∧ va_D A [(h0, .inr (1, [.ref q1, .ref q2, .ref q3, .ref q4, .int (nI n)])), (q1, .inl (cI, 40, .inl K)), (q2, .inl (cI, 40, .inl O)), (q3, .inl (cI, 40, .inl T)), (q4, .inl (cI, 40, .inl Z)), (a0, .inr (0, [.ref s1, .ref s2, .ref s3, .ref s4, .ref s5, .int x3])), (s1, .inl (cI, 240, .inl S)), (s2, .inl (cI, 240, .inl C)), (s3, .inl (cZ, 40, .inl Wt)), (s4, .inl (cI, 6, .inl SB)), (s5, .inl (cI, 6, .inl CB)), (g0, .inr (1, [.ref q5, .ref q6, .ref q7, .ref q8, .int (nI n)])), (q5, .inl (cI, 40, .inl K3)), (q6, .inl (cI, 40, .inl O3)), (q7, .inl (cI, 40, .inl T3)), (q8, .inl (cI, 40, .inl Z3))] ∧ va_S A s.heap H locs ∧ k_2 = n - i ∧ (i ≤ n) ∧ (bc_FI n (bc_f1 n K O T Z g) K O T Z i K3 O3 T3 Z3)) ?_ ?_
  · rintro k_2 H locs ls ⟨i, K3, O3, T3, Z3, x3, hl, hP, hD, hS, hk_2, hi, hJ⟩ ih_2
    refine lv_iload_n hx hb de_W_fold_2 rfl (lv_at hl 0 rfl) ?_
    refine lv_aload_n hx hb de_W_fold_3 rfl (lv_at hl 1 rfl) ?_
    refine va_getN (D := (dC, dI)) (ci := 1) (v := .int (nI n)) (C := rc_C) (T := fc_C) (N := 5) hx hb htw wi_C hown hK hP 0 rfl rfl 4 (by decide) (va_Nw.use rfl (hN _ nm_15)) (fun _ h9 => h9) rfl de_W_fold_4 ?_
    refine lv_icmp_ge (tgt := 98) hx hb de_W_fold_7 (by decide) (fun hc_7 => ?_) (fun hc_7 => ?_)
    · have heq : i = n := by have := bc_ge (by omega) (by omega) hc_7; omega
      subst heq
      exact bc_vret F hr hlocks ((K3, O3, T3, Z3, x3)) (fun j hj => hJ.1 j hj hj) hP hD hS de_W_fold_98
    · have hlt : i < n := bc_lt (by omega) (by omega) hc_7
      have hi40 : i < 40 := by omega
      refine lv_aload_n hx hb de_W_fold_10 rfl (lv_at hl 2 rfl) ?_
      refine lv_iload_n hx hb de_W_fold_11 rfl (lv_at hl 0 rfl) ?_
      refine bc_call_nv_i (As := [.int (nI i)]) (rest := []) (wr := [(h0, .inr (1, [.ref q1, .ref q2, .ref q3, .ref q4, .int (nI n)])), (q1, .inl (cI, 40, .inl K)), (q2, .inl (cI, 40, .inl O)), (q3, .inl (cI, 40, .inl T)), (q4, .inl (cI, 40, .inl Z)), (g0, .inr (1, [.ref q5, .ref q6, .ref q7, .ref q8, .int (nI n)])), (q5, .inl (cI, 40, .inl K3)), (q6, .inl (cI, 40, .inl O3)), (q7, .inl (cI, 40, .inl T3)), (q8, .inl (cI, 40, .inl Z3))]) F (co_A_isReached hi40) wm_168 wm_3 nm_37 wm_167 wm_606 5 rfl rfl pd_A_isReached rfl rfl ⟨Nat.le_of_ble_eq_true rfl, Nat.le_of_ble_eq_true rfl⟩ hP hD hS hA [5, 6, 7, 8, 9, 10] [0, 1, 2, 3, 4, 11, 12, 13, 14, 15] rfl rfl rfl rfl (by decide) rfl hl.1 rfl (Nat.le_of_ble_eq_true rfl) de_W_fold_12 ⟨Nat.le_of_ble_eq_true rfl, Nat.le_of_ble_eq_true rfl⟩ (fun r_12 u_12 H locs hw_12 hP hD hS => ?_)
      have hP : va_P (dC, dI) classes [(h0, .inr (1, [.ref q1, .ref q2, .ref q3, .ref q4, .int (nI n)])), (q1, .inl (cI, 40, .inl K)), (q2, .inl (cI, 40, .inl O)), (q3, .inl (cI, 40, .inl T)), (q4, .inl (cI, 40, .inl Z)), (a0, .inr (0, [.ref s1, .ref s2, .ref s3, .ref s4, .ref s5, .int x3])), (s1, .inl (cI, 240, .inl S)), (s2, .inl (cI, 240, .inl C)), (s3, .inl (cZ, 40, .inl Wt)), (s4, .inl (cI, 6, .inl SB)), (s5, .inl (cI, 6, .inl CB)), (g0, .inr (1, [.ref q5, .ref q6, .ref q7, .ref q8, .int (nI n)])), (q5, .inl (cI, 40, .inl K3)), (q6, .inl (cI, 40, .inl O3)), (q7, .inl (cI, 40, .inl T3)), (q8, .inl (cI, 40, .inl Z3))] H := hP.sub [0, 1, 2, 3, 4, 10, 11, 12, 13, 14, 15, 5, 6, 7, 8, 9] rfl
      have hD : va_D A [(h0, .inr (1, [.ref q1, .ref q2, .ref q3, .ref q4, .int (nI n)])), (q1, .inl (cI, 40, .inl K)), (q2, .inl (cI, 40, .inl O)), (q3, .inl (cI, 40, .inl T)), (q4, .inl (cI, 40, .inl Z)), (a0, .inr (0, [.ref s1, .ref s2, .ref s3, .ref s4, .ref s5, .int x3])), (s1, .inl (cI, 240, .inl S)), (s2, .inl (cI, 240, .inl C)), (s3, .inl (cZ, 40, .inl Wt)), (s4, .inl (cI, 6, .inl SB)), (s5, .inl (cI, 6, .inl CB)), (g0, .inr (1, [.ref q5, .ref q6, .ref q7, .ref q8, .int (nI n)])), (q5, .inl (cI, 40, .inl K3)), (q6, .inl (cI, 40, .inl O3)), (q7, .inl (cI, 40, .inl T3)), (q8, .inl (cI, 40, .inl Z3))] := hD.sub [0, 1, 2, 3, 4, 10, 11, 12, 13, 14, 15, 5, 6, 7, 8, 9] (by decide) rfl
      rcases hw_12 with ⟨he_12, hv_12⟩ | ⟨he_12, hv_12⟩
      · subst he_12
        refine lv_if_ne (tgt := 21) hx hb de_W_fold_15 (by decide) (fun _ => ?_) (fun hc => absurd hc (by decide))
        obtain ⟨rr, hrr⟩ := bc_s0_n0 (a := g i) (v := 0) (by rw [← (hen i (by omega) 0 (by omega)).1]; exact hv_12)
        have hrow := bc_row hen hi40 hrr
        refine lv_aload_n hx hb de_W_fold_21 rfl (lv_at hl 1 rfl) ?_
        refine lv_iload_n hx hb de_W_fold_22 rfl (lv_at hl 0 rfl) ?_
        refine bc_call_nv_i (As := [.int (nI i)]) (rest := []) (wr := [(a0, .inr (0, [.ref s1, .ref s2, .ref s3, .ref s4, .ref s5, .int x3])), (s1, .inl (cI, 240, .inl S)), (s2, .inl (cI, 240, .inl C)), (s3, .inl (cZ, 40, .inl Wt)), (s4, .inl (cI, 6, .inl SB)), (s5, .inl (cI, 6, .inl CB)), (g0, .inr (1, [.ref q5, .ref q6, .ref q7, .ref q8, .int (nI n)])), (q5, .inl (cI, 40, .inl K3)), (q6, .inl (cI, 40, .inl O3)), (q7, .inl (cI, 40, .inl T3)), (q8, .inl (cI, 40, .inl Z3))]) F (co_C_assigns hi40) wm_138 wm_2 nm_38 wm_137 wm_596 0 rfl rfl pd_C_assigns rfl rfl ⟨Nat.le_of_ble_eq_true rfl, Nat.le_of_ble_eq_true rfl⟩ hP hD hS hA [0, 1, 2, 3, 4] [5, 6, 7, 8, 9, 10, 11, 12, 13, 14, 15] rfl rfl rfl rfl (by decide) rfl hl.1 rfl (Nat.le_of_ble_eq_true rfl) de_W_fold_23 ⟨Nat.le_of_ble_eq_true rfl, Nat.le_of_ble_eq_true rfl⟩ (fun r_23 u_23 H locs hw_23 hP hD hS => ?_)
        have hP : va_P (dC, dI) classes [(h0, .inr (1, [.ref q1, .ref q2, .ref q3, .ref q4, .int (nI n)])), (q1, .inl (cI, 40, .inl K)), (q2, .inl (cI, 40, .inl O)), (q3, .inl (cI, 40, .inl T)), (q4, .inl (cI, 40, .inl Z)), (a0, .inr (0, [.ref s1, .ref s2, .ref s3, .ref s4, .ref s5, .int x3])), (s1, .inl (cI, 240, .inl S)), (s2, .inl (cI, 240, .inl C)), (s3, .inl (cZ, 40, .inl Wt)), (s4, .inl (cI, 6, .inl SB)), (s5, .inl (cI, 6, .inl CB)), (g0, .inr (1, [.ref q5, .ref q6, .ref q7, .ref q8, .int (nI n)])), (q5, .inl (cI, 40, .inl K3)), (q6, .inl (cI, 40, .inl O3)), (q7, .inl (cI, 40, .inl T3)), (q8, .inl (cI, 40, .inl Z3))] H := hP.sub [11, 12, 13, 14, 15, 0, 1, 2, 3, 4, 5, 6, 7, 8, 9, 10] rfl
        have hD : va_D A [(h0, .inr (1, [.ref q1, .ref q2, .ref q3, .ref q4, .int (nI n)])), (q1, .inl (cI, 40, .inl K)), (q2, .inl (cI, 40, .inl O)), (q3, .inl (cI, 40, .inl T)), (q4, .inl (cI, 40, .inl Z)), (a0, .inr (0, [.ref s1, .ref s2, .ref s3, .ref s4, .ref s5, .int x3])), (s1, .inl (cI, 240, .inl S)), (s2, .inl (cI, 240, .inl C)), (s3, .inl (cZ, 40, .inl Wt)), (s4, .inl (cI, 6, .inl SB)), (s5, .inl (cI, 6, .inl CB)), (g0, .inr (1, [.ref q5, .ref q6, .ref q7, .ref q8, .int (nI n)])), (q5, .inl (cI, 40, .inl K3)), (q6, .inl (cI, 40, .inl O3)), (q7, .inl (cI, 40, .inl T3)), (q8, .inl (cI, 40, .inl Z3))] := hD.sub [11, 12, 13, 14, 15, 0, 1, 2, 3, 4, 5, 6, 7, 8, 9, 10] (by decide) rfl
        rcases hw_23 with ⟨he_23, hv_23⟩ | ⟨he_23, hv_23⟩
        · subst he_23
          refine lv_if_eq (tgt := 58) hx hb de_W_fold_26 (by decide) (fun hc => absurd hc (by decide)) (fun _ => ?_)
          refine lv_aload_n hx hb de_W_fold_29 rfl (lv_at hl 2 rfl) ?_
          refine lv_aload_n hx hb de_W_fold_30 rfl (lv_at hl 1 rfl) ?_
          refine lv_iload_n hx hb de_W_fold_31 rfl (lv_at hl 0 rfl) ?_
          refine bc_call_nv_i (As := [.ref h0, .int (nI i)]) (rest := []) (wr := [(g0, .inr (1, [.ref q5, .ref q6, .ref q7, .ref q8, .int (nI n)])), (q5, .inl (cI, 40, .inl K3)), (q6, .inl (cI, 40, .inl O3)), (q7, .inl (cI, 40, .inl T3)), (q8, .inl (cI, 40, .inl Z3))]) F (co_A_hasConstantResult hi40 (hw i hlt) hv_23 hrow) wm_141 wm_3 nm_39 wm_140 wm_597 5 rfl rfl pd_A_hasConstantResult rfl rfl ⟨Nat.le_of_ble_eq_true rfl, Nat.le_of_ble_eq_true rfl⟩ hP hD hS hA [5, 6, 7, 8, 9, 10, 0, 1, 2, 3, 4] [11, 12, 13, 14, 15] rfl rfl rfl rfl (by decide) rfl hl.1 rfl (Nat.le_of_ble_eq_true rfl) de_W_fold_32 ⟨Nat.le_of_ble_eq_true rfl, Nat.le_of_ble_eq_true rfl⟩ (fun r_32 u_32 H locs hw_32 hP hD hS => ?_)
          have hP : va_P (dC, dI) classes [(h0, .inr (1, [.ref q1, .ref q2, .ref q3, .ref q4, .int (nI n)])), (q1, .inl (cI, 40, .inl K)), (q2, .inl (cI, 40, .inl O)), (q3, .inl (cI, 40, .inl T)), (q4, .inl (cI, 40, .inl Z)), (a0, .inr (0, [.ref s1, .ref s2, .ref s3, .ref s4, .ref s5, .int u_32])), (s1, .inl (cI, 240, .inl S)), (s2, .inl (cI, 240, .inl C)), (s3, .inl (cZ, 40, .inl Wt)), (s4, .inl (cI, 6, .inl SB)), (s5, .inl (cI, 6, .inl CB)), (g0, .inr (1, [.ref q5, .ref q6, .ref q7, .ref q8, .int (nI n)])), (q5, .inl (cI, 40, .inl K3)), (q6, .inl (cI, 40, .inl O3)), (q7, .inl (cI, 40, .inl T3)), (q8, .inl (cI, 40, .inl Z3))] H := hP.sub [11, 12, 13, 14, 15, 5, 6, 7, 8, 9, 10, 0, 1, 2, 3, 4] rfl
          have hD : va_D A [(h0, .inr (1, [.ref q1, .ref q2, .ref q3, .ref q4, .int (nI n)])), (q1, .inl (cI, 40, .inl K)), (q2, .inl (cI, 40, .inl O)), (q3, .inl (cI, 40, .inl T)), (q4, .inl (cI, 40, .inl Z)), (a0, .inr (0, [.ref s1, .ref s2, .ref s3, .ref s4, .ref s5, .int u_32])), (s1, .inl (cI, 240, .inl S)), (s2, .inl (cI, 240, .inl C)), (s3, .inl (cZ, 40, .inl Wt)), (s4, .inl (cI, 6, .inl SB)), (s5, .inl (cI, 6, .inl CB)), (g0, .inr (1, [.ref q5, .ref q6, .ref q7, .ref q8, .int (nI n)])), (q5, .inl (cI, 40, .inl K3)), (q6, .inl (cI, 40, .inl O3)), (q7, .inl (cI, 40, .inl T3)), (q8, .inl (cI, 40, .inl Z3))] := hD.sub [11, 12, 13, 14, 15, 5, 6, 7, 8, 9, 10, 0, 1, 2, 3, 4] (by decide) rfl
          rcases hw_32 with ⟨he_32, hv_32⟩ | ⟨he_32, hv_32⟩
          · subst he_32
            refine lv_if_eq (tgt := 58) hx hb de_W_fold_35 (by decide) (fun hc => absurd hc (by decide)) (fun _ => ?_)
            refine lv_aload_n hx hb de_W_fold_38 rfl (lv_at hl 3 rfl) ?_
            refine lv_iload_n hx hb de_W_fold_39 rfl (lv_at hl 0 rfl) ?_
            refine lv_iconst (v := 0) hx hb de_W_fold_40 (by decide) ?_
            refine lv_aload_n hx hb de_W_fold_41 rfl (lv_at hl 1 rfl) ?_
            refine va_getN (D := (dC, dI)) (ci := 1) (v := .ref q2) (C := rc_C) (T := fc_C) (N := 5) hx hb htw wi_C hown hK hP 0 rfl rfl 1 (by decide) (va_Nw.use rfl (hN _ nm_4)) (fun _ h9 => h9) rfl de_W_fold_42 ?_
            refine lv_iload_n hx hb de_W_fold_45 rfl (lv_at hl 0 rfl) ?_
            refine bc_ild (j := i) hx hb hK hP 2 0 rfl rfl (by omega) (by decide) de_W_fold_46 ?_
            refine lv_aload_n hx hb de_W_fold_47 rfl (lv_at hl 2 rfl) ?_
            refine va_getN (D := (dC, dI)) (ci := 0) (v := .int u_32) (C := rc_A) (T := fc_A) (N := 6) hx hb htw wi_A hown hK hP 5 rfl rfl 5 (by decide) (va_Nw.use rfl (hN _ nm_20)) (fun _ h9 => h9) rfl de_W_fold_48 ?_
            refine lv_iconst (v := 0) hx hb de_W_fold_51 (by decide) ?_
            refine bc_call_nv_v (As := [.int (nI i), .int 0, .int (O i), .int u_32, .int 0]) (rest := []) (wr := [(h0, .inr (1, [.ref q1, .ref q2, .ref q3, .ref q4, .int (nI n)])), (q1, .inl (cI, 40, .inl K)), (q2, .inl (cI, 40, .inl O)), (q3, .inl (cI, 40, .inl T)), (q4, .inl (cI, 40, .inl Z)), (a0, .inr (0, [.ref s1, .ref s2, .ref s3, .ref s4, .ref s5, .int u_32])), (s1, .inl (cI, 240, .inl S)), (s2, .inl (cI, 240, .inl C)), (s3, .inl (cZ, 40, .inl Wt)), (s4, .inl (cI, 6, .inl SB)), (s5, .inl (cI, 6, .inl CB))]) F (co_C_put (by omega)) wm_255 wm_2 nm_40 wm_254 wm_608 11 rfl rfl pd_C_put rfl rfl ⟨Nat.le_of_ble_eq_true rfl, Nat.le_of_ble_eq_true rfl⟩ hP hD hS hA [11, 12, 13, 14, 15] [0, 1, 2, 3, 4, 5, 6, 7, 8, 9, 10] rfl rfl rfl rfl (by decide) rfl hl.1 rfl (Nat.le_of_ble_eq_true rfl) de_W_fold_52 ⟨Nat.le_of_ble_eq_true rfl, Nat.le_of_ble_eq_true rfl⟩ (fun u_52 H locs hw_52 hP hD hS => ?_)
            subst hw_52
            have hP : va_P (dC, dI) classes [(h0, .inr (1, [.ref q1, .ref q2, .ref q3, .ref q4, .int (nI n)])), (q1, .inl (cI, 40, .inl K)), (q2, .inl (cI, 40, .inl O)), (q3, .inl (cI, 40, .inl T)), (q4, .inl (cI, 40, .inl Z)), (a0, .inr (0, [.ref s1, .ref s2, .ref s3, .ref s4, .ref s5, .int u_32])), (s1, .inl (cI, 240, .inl S)), (s2, .inl (cI, 240, .inl C)), (s3, .inl (cZ, 40, .inl Wt)), (s4, .inl (cI, 6, .inl SB)), (s5, .inl (cI, 6, .inl CB)), (g0, .inr (1, [.ref q5, .ref q6, .ref q7, .ref q8, .int (nI n)])), (q5, .inl (cI, 40, .inl (upd K3 i 0))), (q6, .inl (cI, 40, .inl (upd O3 i (bc_p1 0 (O i))))), (q7, .inl (cI, 40, .inl (upd T3 i (bc_p2 0 u_32)))), (q8, .inl (cI, 40, .inl (upd Z3 i (bc_p3 0 0))))] H := hP.sub [0, 1, 2, 3, 4, 5, 6, 7, 8, 9, 10, 11, 12, 13, 14, 15] rfl
            have hD : va_D A [(h0, .inr (1, [.ref q1, .ref q2, .ref q3, .ref q4, .int (nI n)])), (q1, .inl (cI, 40, .inl K)), (q2, .inl (cI, 40, .inl O)), (q3, .inl (cI, 40, .inl T)), (q4, .inl (cI, 40, .inl Z)), (a0, .inr (0, [.ref s1, .ref s2, .ref s3, .ref s4, .ref s5, .int u_32])), (s1, .inl (cI, 240, .inl S)), (s2, .inl (cI, 240, .inl C)), (s3, .inl (cZ, 40, .inl Wt)), (s4, .inl (cI, 6, .inl SB)), (s5, .inl (cI, 6, .inl CB)), (g0, .inr (1, [.ref q5, .ref q6, .ref q7, .ref q8, .int (nI n)])), (q5, .inl (cI, 40, .inl (upd K3 i 0))), (q6, .inl (cI, 40, .inl (upd O3 i (bc_p1 0 (O i))))), (q7, .inl (cI, 40, .inl (upd T3 i (bc_p2 0 u_32)))), (q8, .inl (cI, 40, .inl (upd Z3 i (bc_p3 0 0))))] := hD.sub [0, 1, 2, 3, 4, 5, 6, 7, 8, 9, 10, 11, 12, 13, 14, 15] (by decide) rfl
            refine lv_goto (tgt := 92) hx hb de_W_fold_55 (by decide) ?_
            refine lv_iinc (k := 0) (v := nI (i + 1)) (lv' := [(3, .int (nI (i + 1))), (0, .ref h0), (1, .ref a0), (2, .ref g0)]) hx hb de_W_fold_92 hl rfl (bc_inc _) (by decide) rfl (fun ls hl => ?_)
            refine lv_goto (tgt := 2) hx hb de_W_fold_95 (by decide) ?_
            exact ih_2 _ _ _ _ (by omega) ⟨(i + 1), upd K3 i 0, upd O3 i (bc_p1 0 (O i)), upd T3 i (bc_p2 0 u_32), upd Z3 i (bc_p3 0 0), u_32, lv_sub hl [0, 1, 2, 3] rfl, hP, hD, hS, rfl, (by omega), bc_FI_put hJ (bc_fa_4s hlt hrr hv_23 hv_32)⟩
          · subst he_32
            refine lv_if_eq (tgt := 58) hx hb de_W_fold_35 (by decide) (fun _ => ?_) (fun hc => absurd (by decide) hc)
            refine lv_aload_n hx hb de_W_fold_58 rfl (lv_at hl 1 rfl) ?_
            refine va_getN (D := (dC, dI)) (ci := 1) (v := .ref q1) (C := rc_C) (T := fc_C) (N := 5) hx hb htw wi_C hown hK hP 0 rfl rfl 0 (by decide) (va_Nw.use rfl (hN _ nm_1)) (fun _ h9 => h9) rfl de_W_fold_59 ?_
            refine lv_iload_n hx hb de_W_fold_62 rfl (lv_at hl 0 rfl) ?_
            refine bc_ild (j := i) hx hb hK hP 1 0 rfl rfl (by omega) (by decide) de_W_fold_63 ?_
            refine lv_iconst (v := 5) hx hb de_W_fold_64 (by decide) ?_
            refine lv_icmp_ne (tgt := 92) hx hb de_W_fold_65 (by decide) (fun _ => ?_) (fun hc => absurd hc (bc_ne5 hv_23))
            refine lv_iinc (k := 0) (v := nI (i + 1)) (lv' := [(3, .int (nI (i + 1))), (0, .ref h0), (1, .ref a0), (2, .ref g0)]) hx hb de_W_fold_92 hl rfl (bc_inc _) (by decide) rfl (fun ls hl => ?_)
            refine lv_goto (tgt := 2) hx hb de_W_fold_95 (by decide) ?_
            exact ih_2 _ _ _ _ (by omega) ⟨(i + 1), K3, O3, T3, Z3, u_32, lv_sub hl [0, 1, 2, 3] rfl, hP, hD, hS, rfl, (by omega), bc_FI_keep hJ hlt (bc_fa_same (hw i hlt) (Or.inl ⟨Or.inl hv_23, bc_f1_4n hlt hrr hv_23 hv_32⟩))⟩
        · subst he_23
          refine lv_if_eq (tgt := 58) hx hb de_W_fold_26 (by decide) (fun _ => ?_) (fun hc => absurd (by decide) hc)
          refine lv_aload_n hx hb de_W_fold_58 rfl (lv_at hl 1 rfl) ?_
          refine va_getN (D := (dC, dI)) (ci := 1) (v := .ref q1) (C := rc_C) (T := fc_C) (N := 5) hx hb htw wi_C hown hK hP 0 rfl rfl 0 (by decide) (va_Nw.use rfl (hN _ nm_1)) (fun _ h9 => h9) rfl de_W_fold_59 ?_
          refine lv_iload_n hx hb de_W_fold_62 rfl (lv_at hl 0 rfl) ?_
          refine bc_ild (j := i) hx hb hK hP 1 0 rfl rfl (by omega) (by decide) de_W_fold_63 ?_
          refine lv_iconst (v := 5) hx hb de_W_fold_64 (by decide) ?_
          refine lv_icmp_ne (tgt := 92) hx hb de_W_fold_65 (by decide) (fun hc_65 => ?_) (fun hc_65 => ?_)
          · refine lv_iinc (k := 0) (v := nI (i + 1)) (lv' := [(3, .int (nI (i + 1))), (0, .ref h0), (1, .ref a0), (2, .ref g0)]) hx hb de_W_fold_92 hl rfl (bc_inc _) (by decide) rfl (fun ls hl => ?_)
            refine lv_goto (tgt := 2) hx hb de_W_fold_95 (by decide) ?_
            exact ih_2 _ _ _ _ (by omega) ⟨(i + 1), K3, O3, T3, Z3, x3, lv_sub hl [0, 1, 2, 3] rfl, hP, hD, hS, rfl, (by omega), bc_FI_keep hJ hlt (bc_fa_same (hw i hlt) (bc_f1_o hlt hrr hv_23 hc_65))⟩
          · obtain ⟨⟨o, ho, eO⟩, htr⟩ := bc_wi_5 (hw i hlt) hc_65
            refine lv_aload_n hx hb de_W_fold_68 rfl (lv_at hl 2 rfl) ?_
            refine lv_aload_n hx hb de_W_fold_69 rfl (lv_at hl 1 rfl) ?_
            refine lv_iload_n hx hb de_W_fold_70 rfl (lv_at hl 0 rfl) ?_
            refine bc_call_nv_i (As := [.ref h0, .int (nI i)]) (rest := []) (wr := [(g0, .inr (1, [.ref q5, .ref q6, .ref q7, .ref q8, .int (nI n)])), (q5, .inl (cI, 40, .inl K3)), (q6, .inl (cI, 40, .inl O3)), (q7, .inl (cI, 40, .inl T3)), (q8, .inl (cI, 40, .inl Z3))]) F (co_A_hasConstantTest hi40 eO ho) wm_160 wm_3 nm_41 wm_159 wm_603 5 rfl rfl pd_A_hasConstantTest rfl rfl ⟨Nat.le_of_ble_eq_true rfl, Nat.le_of_ble_eq_true rfl⟩ hP hD hS hA [5, 6, 7, 8, 9, 10, 0, 1, 2, 3, 4] [11, 12, 13, 14, 15] rfl rfl rfl rfl (by decide) rfl hl.1 rfl (Nat.le_of_ble_eq_true rfl) de_W_fold_71 ⟨Nat.le_of_ble_eq_true rfl, Nat.le_of_ble_eq_true rfl⟩ (fun r_71 u_71 H locs hw_71 hP hD hS => ?_)
            have hP : va_P (dC, dI) classes [(h0, .inr (1, [.ref q1, .ref q2, .ref q3, .ref q4, .int (nI n)])), (q1, .inl (cI, 40, .inl K)), (q2, .inl (cI, 40, .inl O)), (q3, .inl (cI, 40, .inl T)), (q4, .inl (cI, 40, .inl Z)), (a0, .inr (0, [.ref s1, .ref s2, .ref s3, .ref s4, .ref s5, .int x3])), (s1, .inl (cI, 240, .inl S)), (s2, .inl (cI, 240, .inl C)), (s3, .inl (cZ, 40, .inl Wt)), (s4, .inl (cI, 6, .inl SB)), (s5, .inl (cI, 6, .inl CB)), (g0, .inr (1, [.ref q5, .ref q6, .ref q7, .ref q8, .int (nI n)])), (q5, .inl (cI, 40, .inl K3)), (q6, .inl (cI, 40, .inl O3)), (q7, .inl (cI, 40, .inl T3)), (q8, .inl (cI, 40, .inl Z3))] H := hP.sub [11, 12, 13, 14, 15, 5, 6, 7, 8, 9, 10, 0, 1, 2, 3, 4] rfl
            have hD : va_D A [(h0, .inr (1, [.ref q1, .ref q2, .ref q3, .ref q4, .int (nI n)])), (q1, .inl (cI, 40, .inl K)), (q2, .inl (cI, 40, .inl O)), (q3, .inl (cI, 40, .inl T)), (q4, .inl (cI, 40, .inl Z)), (a0, .inr (0, [.ref s1, .ref s2, .ref s3, .ref s4, .ref s5, .int x3])), (s1, .inl (cI, 240, .inl S)), (s2, .inl (cI, 240, .inl C)), (s3, .inl (cZ, 40, .inl Wt)), (s4, .inl (cI, 6, .inl SB)), (s5, .inl (cI, 6, .inl CB)), (g0, .inr (1, [.ref q5, .ref q6, .ref q7, .ref q8, .int (nI n)])), (q5, .inl (cI, 40, .inl K3)), (q6, .inl (cI, 40, .inl O3)), (q7, .inl (cI, 40, .inl T3)), (q8, .inl (cI, 40, .inl Z3))] := hD.sub [11, 12, 13, 14, 15, 5, 6, 7, 8, 9, 10, 0, 1, 2, 3, 4] (by decide) rfl
            rcases hw_71 with ⟨he_71, hv_71⟩ | ⟨he_71, hv_71⟩
            · subst he_71
              refine lv_if_eq (tgt := 92) hx hb de_W_fold_74 (by decide) (fun hc => absurd hc (by decide)) (fun _ => ?_)
              refine lv_aload_n hx hb de_W_fold_77 rfl (lv_at hl 3 rfl) ?_
              refine lv_iload_n hx hb de_W_fold_78 rfl (lv_at hl 0 rfl) ?_
              refine lv_bipush (v := 6) hx hb de_W_fold_79 (by decide) ?_
              refine lv_iconst (v := 0) hx hb de_W_fold_81 (by decide) ?_
              refine lv_aload_n hx hb de_W_fold_82 rfl (lv_at hl 2 rfl) ?_
              refine lv_aload_n hx hb de_W_fold_83 rfl (lv_at hl 1 rfl) ?_
              refine lv_iload_n hx hb de_W_fold_84 rfl (lv_at hl 0 rfl) ?_
              refine bc_call_nv_i (As := [.ref h0, .int (nI i)]) (rest := [.int 0, .int 6, .int (nI i), .ref g0]) (wr := [(g0, .inr (1, [.ref q5, .ref q6, .ref q7, .ref q8, .int (nI n)])), (q5, .inl (cI, 40, .inl K3)), (q6, .inl (cI, 40, .inl O3)), (q7, .inl (cI, 40, .inl T3)), (q8, .inl (cI, 40, .inl Z3))]) F (co_A_wayOfConstantTest (by omega) hn eO ho htr) wm_163 wm_3 nm_42 wm_162 wm_604 5 rfl rfl pd_A_wayOfConstantTest rfl rfl ⟨Nat.le_of_ble_eq_true rfl, Nat.le_of_ble_eq_true rfl⟩ hP hD hS hA [5, 6, 7, 8, 9, 10, 0, 1, 2, 3, 4] [11, 12, 13, 14, 15] rfl rfl rfl rfl (by decide) rfl hl.1 rfl (Nat.le_of_ble_eq_true rfl) de_W_fold_85 ⟨Nat.le_of_ble_eq_true rfl, Nat.le_of_ble_eq_true rfl⟩ (fun r_85 u_85 H locs hw_85 hP hD hS => ?_)
              obtain ⟨tw, he_85, hb_85, hq_85⟩ := bc_way hi40 hn hw_85
              subst he_85
              have hP : va_P (dC, dI) classes [(h0, .inr (1, [.ref q1, .ref q2, .ref q3, .ref q4, .int (nI n)])), (q1, .inl (cI, 40, .inl K)), (q2, .inl (cI, 40, .inl O)), (q3, .inl (cI, 40, .inl T)), (q4, .inl (cI, 40, .inl Z)), (a0, .inr (0, [.ref s1, .ref s2, .ref s3, .ref s4, .ref s5, .int x3])), (s1, .inl (cI, 240, .inl S)), (s2, .inl (cI, 240, .inl C)), (s3, .inl (cZ, 40, .inl Wt)), (s4, .inl (cI, 6, .inl SB)), (s5, .inl (cI, 6, .inl CB)), (g0, .inr (1, [.ref q5, .ref q6, .ref q7, .ref q8, .int (nI n)])), (q5, .inl (cI, 40, .inl K3)), (q6, .inl (cI, 40, .inl O3)), (q7, .inl (cI, 40, .inl T3)), (q8, .inl (cI, 40, .inl Z3))] H := hP.sub [11, 12, 13, 14, 15, 5, 6, 7, 8, 9, 10, 0, 1, 2, 3, 4] rfl
              have hD : va_D A [(h0, .inr (1, [.ref q1, .ref q2, .ref q3, .ref q4, .int (nI n)])), (q1, .inl (cI, 40, .inl K)), (q2, .inl (cI, 40, .inl O)), (q3, .inl (cI, 40, .inl T)), (q4, .inl (cI, 40, .inl Z)), (a0, .inr (0, [.ref s1, .ref s2, .ref s3, .ref s4, .ref s5, .int x3])), (s1, .inl (cI, 240, .inl S)), (s2, .inl (cI, 240, .inl C)), (s3, .inl (cZ, 40, .inl Wt)), (s4, .inl (cI, 6, .inl SB)), (s5, .inl (cI, 6, .inl CB)), (g0, .inr (1, [.ref q5, .ref q6, .ref q7, .ref q8, .int (nI n)])), (q5, .inl (cI, 40, .inl K3)), (q6, .inl (cI, 40, .inl O3)), (q7, .inl (cI, 40, .inl T3)), (q8, .inl (cI, 40, .inl Z3))] := hD.sub [11, 12, 13, 14, 15, 5, 6, 7, 8, 9, 10, 0, 1, 2, 3, 4] (by decide) rfl
              refine lv_iconst (v := 0) hx hb de_W_fold_88 (by decide) ?_
              refine bc_call_nv_v (As := [.int (nI i), .int 6, .int 0, .int (nI tw), .int 0]) (rest := []) (wr := [(h0, .inr (1, [.ref q1, .ref q2, .ref q3, .ref q4, .int (nI n)])), (q1, .inl (cI, 40, .inl K)), (q2, .inl (cI, 40, .inl O)), (q3, .inl (cI, 40, .inl T)), (q4, .inl (cI, 40, .inl Z)), (a0, .inr (0, [.ref s1, .ref s2, .ref s3, .ref s4, .ref s5, .int x3])), (s1, .inl (cI, 240, .inl S)), (s2, .inl (cI, 240, .inl C)), (s3, .inl (cZ, 40, .inl Wt)), (s4, .inl (cI, 6, .inl SB)), (s5, .inl (cI, 6, .inl CB))]) F (co_C_put (by omega)) wm_255 wm_2 nm_40 wm_254 wm_608 11 rfl rfl pd_C_put rfl rfl ⟨Nat.le_of_ble_eq_true rfl, Nat.le_of_ble_eq_true rfl⟩ hP hD hS hA [11, 12, 13, 14, 15] [0, 1, 2, 3, 4, 5, 6, 7, 8, 9, 10] rfl rfl rfl rfl (by decide) rfl hl.1 rfl (Nat.le_of_ble_eq_true rfl) de_W_fold_89 ⟨Nat.le_of_ble_eq_true rfl, Nat.le_of_ble_eq_true rfl⟩ (fun u_89 H locs hw_89 hP hD hS => ?_)
              subst hw_89
              have hP : va_P (dC, dI) classes [(h0, .inr (1, [.ref q1, .ref q2, .ref q3, .ref q4, .int (nI n)])), (q1, .inl (cI, 40, .inl K)), (q2, .inl (cI, 40, .inl O)), (q3, .inl (cI, 40, .inl T)), (q4, .inl (cI, 40, .inl Z)), (a0, .inr (0, [.ref s1, .ref s2, .ref s3, .ref s4, .ref s5, .int x3])), (s1, .inl (cI, 240, .inl S)), (s2, .inl (cI, 240, .inl C)), (s3, .inl (cZ, 40, .inl Wt)), (s4, .inl (cI, 6, .inl SB)), (s5, .inl (cI, 6, .inl CB)), (g0, .inr (1, [.ref q5, .ref q6, .ref q7, .ref q8, .int (nI n)])), (q5, .inl (cI, 40, .inl (upd K3 i 6))), (q6, .inl (cI, 40, .inl (upd O3 i (bc_p1 6 0)))), (q7, .inl (cI, 40, .inl (upd T3 i (bc_p2 6 (nI tw))))), (q8, .inl (cI, 40, .inl (upd Z3 i (bc_p3 6 0))))] H := hP.sub [0, 1, 2, 3, 4, 5, 6, 7, 8, 9, 10, 11, 12, 13, 14, 15] rfl
              have hD : va_D A [(h0, .inr (1, [.ref q1, .ref q2, .ref q3, .ref q4, .int (nI n)])), (q1, .inl (cI, 40, .inl K)), (q2, .inl (cI, 40, .inl O)), (q3, .inl (cI, 40, .inl T)), (q4, .inl (cI, 40, .inl Z)), (a0, .inr (0, [.ref s1, .ref s2, .ref s3, .ref s4, .ref s5, .int x3])), (s1, .inl (cI, 240, .inl S)), (s2, .inl (cI, 240, .inl C)), (s3, .inl (cZ, 40, .inl Wt)), (s4, .inl (cI, 6, .inl SB)), (s5, .inl (cI, 6, .inl CB)), (g0, .inr (1, [.ref q5, .ref q6, .ref q7, .ref q8, .int (nI n)])), (q5, .inl (cI, 40, .inl (upd K3 i 6))), (q6, .inl (cI, 40, .inl (upd O3 i (bc_p1 6 0)))), (q7, .inl (cI, 40, .inl (upd T3 i (bc_p2 6 (nI tw))))), (q8, .inl (cI, 40, .inl (upd Z3 i (bc_p3 6 0))))] := hD.sub [0, 1, 2, 3, 4, 5, 6, 7, 8, 9, 10, 11, 12, 13, 14, 15] (by decide) rfl
              refine lv_iinc (k := 0) (v := nI (i + 1)) (lv' := [(3, .int (nI (i + 1))), (0, .ref h0), (1, .ref a0), (2, .ref g0)]) hx hb de_W_fold_92 hl rfl (bc_inc _) (by decide) rfl (fun ls hl => ?_)
              refine lv_goto (tgt := 2) hx hb de_W_fold_95 (by decide) ?_
              exact ih_2 _ _ _ _ (by omega) ⟨(i + 1), upd K3 i 6, upd O3 i (bc_p1 6 0), upd T3 i (bc_p2 6 (nI tw)), upd Z3 i (bc_p3 6 0), x3, lv_sub hl [0, 1, 2, 3] rfl, hP, hD, hS, rfl, (by omega), bc_FI_put hJ (bc_fa_5s hlt hn hrr hc_65 eO ho hrow hv_71 hq_85)⟩
            · subst he_71
              refine lv_if_eq (tgt := 92) hx hb de_W_fold_74 (by decide) (fun _ => ?_) (fun hc => absurd (by decide) hc)
              refine lv_iinc (k := 0) (v := nI (i + 1)) (lv' := [(3, .int (nI (i + 1))), (0, .ref h0), (1, .ref a0), (2, .ref g0)]) hx hb de_W_fold_92 hl rfl (bc_inc _) (by decide) rfl (fun ls hl => ?_)
              refine lv_goto (tgt := 2) hx hb de_W_fold_95 (by decide) ?_
              exact ih_2 _ _ _ _ (by omega) ⟨(i + 1), K3, O3, T3, Z3, x3, lv_sub hl [0, 1, 2, 3] rfl, hP, hD, hS, rfl, (by omega), bc_FI_keep hJ hlt (bc_fa_same (hw i hlt) (Or.inr ⟨by rw [hc_65]; decide, bc_f1_5n hlt hrr hc_65 eO ho (bc_s0_n2 (by rw [← (hrow o ho).1]; exact hv_71))⟩))⟩
      · subst he_12
        refine lv_if_ne (tgt := 21) hx hb de_W_fold_15 (by decide) (fun hc => absurd (by decide) hc) (fun _ => ?_)
        refine lv_goto (tgt := 92) hx hb de_W_fold_18 (by decide) ?_
        refine lv_iinc (k := 0) (v := nI (i + 1)) (lv' := [(3, .int (nI (i + 1))), (0, .ref h0), (1, .ref a0), (2, .ref g0)]) hx hb de_W_fold_92 hl rfl (bc_inc _) (by decide) rfl (fun ls hl => ?_)
        refine lv_goto (tgt := 2) hx hb de_W_fold_95 (by decide) ?_
        exact ih_2 _ _ _ _ (by omega) ⟨(i + 1), K3, O3, T3, Z3, x3, lv_sub hl [0, 1, 2, 3] rfl, hP, hD, hS, rfl, (by omega), bc_FI_keep hJ hlt (bc_fa_same (hw i hlt) (bc_f1_none hlt (bc_s0_0 (v := 0) (by rw [← (hen i (by omega) 0 (by omega)).1]; exact hv_12))))⟩
  · exact ⟨_, 0, K2, O2, T2, Z2, res, lv_sub hl [0, 1, 2, 3] rfl, hP, hD, hS, rfl, Nat.zero_le _, ⟨fun j _ hj => absurd hj (Nat.not_lt_zero j), fun j hj _ => hcp j hj⟩⟩

theorem bc_end_cg {n : Nat} {K K' : bc_F} {q q' : Nat → Nat} (hK : ∀ j, j < n → K j = K' j) (hq : ∀ j, j < n → K j = 6 → q j = q' j) (t : Nat) : bc_end n K q t = bc_end n K' q' t := by
  have hh : bc_hop n K q = bc_hop n K' q' := by
    funext j
    unfold bc_hop
    by_cases h : j < n ∧ K j = 6
    · rw [if_pos h, if_pos ⟨h.1, by rw [← hK j h.1]; exact h.2⟩]
      exact hq j h.1 h.2
    · rw [if_neg h, if_neg (fun z => h ⟨z.1, by rw [hK j z.1]; exact z.2⟩)]
  unfold bc_end
  rw [hh]
  by_cases h : bc_it (bc_hop n K' q') (n + 1) t < n ∧ K (bc_it (bc_hop n K' q') (n + 1) t) = 6
  · rw [if_pos h, if_pos ⟨h.1, by rw [← hK _ h.1]; exact h.2⟩]
  · rw [if_neg h, if_neg (fun z => h ⟨z.1, by rw [hK _ z.1]; exact z.2⟩)]
theorem bc_end_at {n : Nat} {K : bc_F} {q : Nat → Nat} {f h : Nat} (hj : ¬ bc_J n K (bc_it (bc_hop n K q) h f)) : bc_it (bc_hop n K q) h f = bc_end n K q f := (bc_end_fin ⟨h, rfl, hj⟩).symm
theorem bc_it_go {n : Nat} {K : bc_F} {q : Nat → Nat} {f h : Nat} (hj : bc_J n K (bc_it (bc_hop n K q) h f)) : q (bc_it (bc_hop n K q) h f) = bc_it (bc_hop n K q) (h + 1) f := by rw [bc_it_s, bc_hop_go hj]
theorem bc_tn_q {n : Nat} {T : bc_F} : ∀ j, j < n → (fun j => bc_tn n (T j)) j ≤ n := fun _ _ => bc_tn_le _ _
set_option maxHeartbeats 4000000 in
set_option maxRecDepth 100000 in
/-- the end of a chain of JUMPs -/
theorem co_W_endOfChain {l : Launch} {dC : Nat → ClassId} {dI : Nat → Nat → Nat} {cI cZ : ClassId} {sz : Nat} {h0 q1 q2 q3 q4 n : Nat} {K O T Z : bc_F} {f : Nat} (hn : n ≤ 40) (hf : f ≤ n) (htr : ∀ j, j < n → K j = 6 → bc_tr (T j)) : Met l yn_W_endOfChain (Cond.code yn_W_endOfChain by_W_endOfChain 4 (some FieldType.int) :: wd_all) ({ frames := 1, cells := 0, slots := 0, locals := 21 } : Room) (bc_Pre (dC, dI) classes [(cI, .int), (cZ, .boolean)] [.ref h0, .int (nI f)] [(h0, .inr (1, [.ref q1, .ref q2, .ref q3, .ref q4, .int (nI n)])), (q1, .inl (cI, 40, .inl K)), (q2, .inl (cI, 40, .inl O)), (q3, .inl (cI, 40, .inl T)), (q4, .inl (cI, 40, .inl Z))] sz) (va_Qi (fun (r : Int32) (u : Unit) => r = nI (bc_end n K (fun j => bc_tn n (T j)) f)) (fun (u : Unit) t => bc_B (dC, dI) classes [(cI, .int), (cZ, .boolean)] (va_A [(h0, .inr (1, [.ref q1, .ref q2, .ref q3, .ref q4, .int (nI n)])), (q1, .inl (cI, 40, .inl K)), (q2, .inl (cI, 40, .inl O)), (q3, .inl (cI, 40, .inl T)), (q4, .inl (cI, 40, .inl Z))] sz) [(h0, .inr (1, [.ref q1, .ref q2, .ref q3, .ref q4, .int (nI n)])), (q1, .inl (cI, 40, .inl K)), (q2, .inl (cI, 40, .inl O)), (q3, .inl (cI, 40, .inl T)), (q4, .inl (cI, 40, .inl Z))] t) ((va_A [(h0, .inr (1, [.ref q1, .ref q2, .ref q3, .ref q4, .int (nI n)])), (q1, .inl (cI, 40, .inl K)), (q2, .inl (cI, 40, .inl O)), (q3, .inl (cI, 40, .inl T)), (q4, .inl (cI, 40, .inl Z))] sz))) 0 0 (va_A [(h0, .inr (1, [.ref q1, .ref q2, .ref q3, .ref q4, .int (nI n)])), (q1, .inl (cI, 40, .inl K)), (q2, .inl (cI, 40, .inl O)), (q3, .inl (cI, 40, .inl T)), (q4, .inl (cI, 40, .inl Z))] sz) := by
  refine bc_met (fun A => va_Qi (fun (r : Int32) (u : Unit) => r = nI (bc_end n K (fun j => bc_tn n (T j)) f)) (fun (u : Unit) t => bc_B (dC, dI) classes [(cI, .int), (cZ, .boolean)] A [(h0, .inr (1, [.ref q1, .ref q2, .ref q3, .ref q4, .int (nI n)])), (q1, .inl (cI, 40, .inl K)), (q2, .inl (cI, 40, .inl O)), (q3, .inl (cI, 40, .inl T)), (q4, .inl (cI, 40, .inl Z))] t) A) (by decide) (Nat.le_of_ble_eq_true rfl) ?_
  intro p e s m args below meth c A ls F hr hlocks hin hA hP hD hl hS
  have hx := F.1
  have hb := F.2.1
  have hml := F.2.2.1
  have hown : s.vm.findClass "BranchConstants$Rewriting" = some m.cls := F.2.2.2.1
  have htw := F.2.2.2.2.1
  have hN := F.2.2.2.2.2.1
  have hK := F.2.2.2.2.2.2
  have hl : lv_has ls 4 [(0, .ref h0), (1, .int (nI f))] := hl
  refine lv_iload_n hx hb de_W_endOfChain_0 rfl (lv_at hl 1 rfl) ?_
  refine bc_ti (y := nI (bc_it (bc_hop n K (fun j => bc_tn n (T j))) 0 f)) rfl ?_
  refine lv_istore_n (lv' := [(2, .int (nI (bc_it (bc_hop n K (fun j => bc_tn n (T j))) 0 f))), (0, .ref h0), (1, .int (nI f))]) hx hb de_W_endOfChain_1 rfl hl (by decide) rfl (fun ls hl => ?_)
  refine lv_iconst (v := 0) hx hb de_W_endOfChain_2 (by decide) ?_
  refine bc_ti (y := nI 0) nI_0.symm ?_
  refine lv_istore_n (lv' := [(3, .int (nI 0)), (2, .int (nI (bc_it (bc_hop n K (fun j => bc_tn n (T j))) 0 f))), (0, .ref h0), (1, .int (nI f))]) hx hb de_W_endOfChain_3 rfl hl (by decide) rfl (fun ls hl => ?_)
  refine bc_loop (fun k_4 H locs ls => ∃ (h : Nat), lv_has ls 4 [(3, .int (nI h)), (2, .int (nI (bc_it (bc_hop n K (fun j => bc_tn n (T j))) h f))), (0, .ref h0), (1, .int (nI f))] ∧ va_P (dC, dI) classes [(h0, .inr (1, [.ref q1, .ref q2, .ref q3, .ref q4, .int (nI n)])), (q1, .inl (cI, 40, .inl K)), (q2, .inl (cI, 40, .inl O)), (q3, .inl (cI, 40, .inl T)), (q4, .inl (cI, 40, .inl Z))] H ∧ va_D A [(h0, .inr (1, [.ref q1, .ref q2, .ref q3, .ref q4, .int (nI n)])), (q1, .inl (cI, 40, .inl K)), (q2, .inl (cI, 40, .inl O)), (q3, .inl (cI, 40, .inl T)), (q4, .inl (cI, 40, .inl Z))] ∧ va_S A s.heap H locs ∧ k_4 = n + 1 - h ∧ (h ≤ n + 1) ∧ (∀ k, k < h → bc_J n K (bc_it (bc_hop n K (fun j => bc_tn n (T j))) k f))) ?_ ?_
  · rintro k_4 H locs ls ⟨h, hl, hP, hD, hS, hk_4, hh, hJ⟩ ih_4
    refine lv_iload_n hx hb de_W_endOfChain_4 rfl (lv_at hl 0 rfl) ?_
    refine lv_aload_n hx hb de_W_endOfChain_5 rfl (lv_at hl 2 rfl) ?_
    refine va_getN (D := (dC, dI)) (ci := 1) (v := .int (nI n)) (C := rc_C) (T := fc_C) (N := 5) hx hb htw wi_C hown hK hP 0 rfl rfl 4 (by decide) (va_Nw.use rfl (hN _ nm_15)) (fun _ h9 => h9) rfl de_W_endOfChain_6 ?_
    refine lv_icmp_gt (tgt := 45) hx hb de_W_endOfChain_9 (by decide) (fun hc_9 => ?_) (fun hc_9 => ?_)
    · have hgt : n < h := (nI_ltI (by omega) (by omega)).mp hc_9
      refine lv_iload_n hx hb de_W_endOfChain_45 rfl (lv_at hl 3 rfl) ?_
      exact bc_iret F hr hlocks (()) (congrArg nI (bc_end_round (fun k hk => hJ k (by omega))).symm) hP hD hS de_W_endOfChain_46
    · have hle : h ≤ n := by
        by_cases z : h ≤ n
        · exact z
        · exact absurd ((nI_ltI (by omega) (by omega)).mpr (by omega)) hc_9
      have htn := bc_it_le (K := K) (bc_tn_q (n := n) (T := T)) h f hf
      refine lv_iload_n hx hb de_W_endOfChain_12 rfl (lv_at hl 1 rfl) ?_
      refine lv_aload_n hx hb de_W_endOfChain_13 rfl (lv_at hl 2 rfl) ?_
      refine va_getN (D := (dC, dI)) (ci := 1) (v := .int (nI n)) (C := rc_C) (T := fc_C) (N := 5) hx hb htw wi_C hown hK hP 0 rfl rfl 4 (by decide) (va_Nw.use rfl (hN _ nm_15)) (fun _ h9 => h9) rfl de_W_endOfChain_14 ?_
      refine lv_icmp_ge (tgt := 31) hx hb de_W_endOfChain_17 (by decide) (fun hc_17 => ?_) (fun hc_17 => ?_)
      · have hnj : ¬ bc_J n K (bc_it (bc_hop n K (fun j => bc_tn n (T j))) h f) := fun z => absurd z.1 (by have := bc_ge (by omega) (by omega) hc_17; omega)
        refine lv_iload_n hx hb de_W_endOfChain_31 rfl (lv_at hl 1 rfl) ?_
        exact bc_iret F hr hlocks (()) (congrArg nI (bc_end_at hnj)) hP hD hS de_W_endOfChain_32
      · have htl : bc_it (bc_hop n K (fun j => bc_tn n (T j))) h f < n := bc_lt (by omega) (by omega) hc_17
        refine lv_aload_n hx hb de_W_endOfChain_20 rfl (lv_at hl 2 rfl) ?_
        refine va_getN (D := (dC, dI)) (ci := 1) (v := .ref q1) (C := rc_C) (T := fc_C) (N := 5) hx hb htw wi_C hown hK hP 0 rfl rfl 0 (by decide) (va_Nw.use rfl (hN _ nm_1)) (fun _ h9 => h9) rfl de_W_endOfChain_21 ?_
        refine lv_iload_n hx hb de_W_endOfChain_24 rfl (lv_at hl 1 rfl) ?_
        refine bc_ild (j := bc_it (bc_hop n K (fun j => bc_tn n (T j))) h f) hx hb hK hP 1 0 rfl rfl (Nat.lt_of_lt_of_le htl hn) (by decide) de_W_endOfChain_25 ?_
        refine lv_bipush (v := 6) hx hb de_W_endOfChain_26 (by decide) ?_
        refine lv_icmp_eq (tgt := 33) hx hb de_W_endOfChain_28 (by decide) (fun hc_28 => ?_) (fun hc_28 => ?_)
        · have hjt : bc_J n K (bc_it (bc_hop n K (fun j => bc_tn n (T j))) h f) := ⟨htl, hc_28⟩
          refine lv_aload_n hx hb de_W_endOfChain_33 rfl (lv_at hl 2 rfl) ?_
          refine lv_iload_n hx hb de_W_endOfChain_34 rfl (lv_at hl 1 rfl) ?_
          refine bc_call_nv_i (As := [.int (nI (bc_it (bc_hop n K (fun j => bc_tn n (T j))) h f))]) (rest := []) (wr := []) F (co_C_target (by omega) hn (htr _ hjt.1 hjt.2)) wm_154 wm_2 nm_44 wm_153 wm_601 0 rfl rfl pd_C_target rfl rfl ⟨Nat.le_of_ble_eq_true rfl, Nat.le_of_ble_eq_true rfl⟩ hP hD hS hA [0, 1, 2, 3, 4] [] rfl rfl rfl rfl (by decide) rfl hl.1 rfl (Nat.le_of_ble_eq_true rfl) de_W_endOfChain_35 ⟨Nat.le_of_ble_eq_true rfl, Nat.le_of_ble_eq_true rfl⟩ (fun r_35 u_35 H locs hw_35 hP hD hS => ?_)
          rw [show bc_tn n (T (bc_it (bc_hop n K (fun j => bc_tn n (T j))) h f)) = bc_it (bc_hop n K (fun j => bc_tn n (T j))) (h + 1) f from bc_it_go hjt] at hw_35
          have hP : va_P (dC, dI) classes [(h0, .inr (1, [.ref q1, .ref q2, .ref q3, .ref q4, .int (nI n)])), (q1, .inl (cI, 40, .inl K)), (q2, .inl (cI, 40, .inl O)), (q3, .inl (cI, 40, .inl T)), (q4, .inl (cI, 40, .inl Z))] H := hP.sub [0, 1, 2, 3, 4] rfl
          have hD : va_D A [(h0, .inr (1, [.ref q1, .ref q2, .ref q3, .ref q4, .int (nI n)])), (q1, .inl (cI, 40, .inl K)), (q2, .inl (cI, 40, .inl O)), (q3, .inl (cI, 40, .inl T)), (q4, .inl (cI, 40, .inl Z))] := hD.sub [0, 1, 2, 3, 4] (by decide) rfl
          subst hw_35
          refine lv_istore_n (lv' := [(2, .int (nI (bc_it (bc_hop n K (fun j => bc_tn n (T j))) (h + 1) f))), (3, .int (nI h)), (0, .ref h0), (1, .int (nI f))]) hx hb de_W_endOfChain_38 rfl hl (by decide) rfl (fun ls hl => ?_)
          refine lv_iinc (k := 1) (v := nI (h + 1)) (lv' := [(3, .int (nI (h + 1))), (2, .int (nI (bc_it (bc_hop n K (fun j => bc_tn n (T j))) (h + 1) f))), (0, .ref h0), (1, .int (nI f))]) hx hb de_W_endOfChain_39 hl rfl (bc_inc _) (by decide) rfl (fun ls hl => ?_)
          refine lv_goto (tgt := 4) hx hb de_W_endOfChain_42 (by decide) ?_
          exact ih_4 _ _ _ _ (by omega) ⟨(h + 1), lv_sub hl [0, 1, 2, 3] rfl, hP, hD, hS, rfl, (by omega), lt_s hJ hjt⟩
        · have hnj : ¬ bc_J n K (bc_it (bc_hop n K (fun j => bc_tn n (T j))) h f) := fun z => hc_28 z.2
          refine lv_iload_n hx hb de_W_endOfChain_31 rfl (lv_at hl 1 rfl) ?_
          exact bc_iret F hr hlocks (()) (congrArg nI (bc_end_at hnj)) hP hD hS de_W_endOfChain_32
  · exact ⟨_, 0, lv_sub hl [0, 1, 2, 3] rfl, hP, hD, hS, rfl, Nat.zero_le _, fun k hk => absurd hk (Nat.not_lt_zero k)⟩

/-- THREAD, up to i -/
def bc_TI (n : Nat) (K T : bc_F) (i : Nat) (T3 : bc_F) : Prop := ∀ j, j < n → (bc_gs (K j) → bc_tr (T3 j) ∧ (j < i → bc_tn n (T3 j) = bc_end n K (fun j => bc_tn n (T j)) (bc_tn n (T j))) ∧ (i ≤ j → T3 j = T j)) ∧ (¬ bc_gs (K j) → T3 j = T j)
theorem bc_TI_mod {n : Nat} {K T T3 : bc_F} {i : Nat} (h : bc_TI n K T i T3) : ∀ j, j < n → (fun j => bc_tn n (T3 j)) j = (fun j => bc_tn n (T j)) j ∨ (fun j => bc_tn n (T3 j)) j = bc_end n K (fun j => bc_tn n (T j)) ((fun j => bc_tn n (T j)) j) := by
  intro j hj
  by_cases hg : bc_gs (K j)
  · by_cases c : j < i
    · exact Or.inr (((h j hj).1 hg).2.1 c)
    · left
      show bc_tn n (T3 j) = bc_tn n (T j)
      rw [((h j hj).1 hg).2.2 (by omega)]
  · left
    show bc_tn n (T3 j) = bc_tn n (T j)
    rw [(h j hj).2 hg]
theorem bc_TI_skip {n : Nat} {K T T3 : bc_F} {i : Nat} (h : bc_TI n K T i T3) (hg : ¬ bc_gs (K i)) : bc_TI n K T (i + 1) T3 := by
  intro j hj
  refine ⟨fun hj2 => ⟨((h j hj).1 hj2).1, fun c => ?_, fun c => ((h j hj).1 hj2).2.2 (by omega)⟩, (h j hj).2⟩
  by_cases e : j = i
  · subst e; exact absurd hj2 hg
  · exact ((h j hj).1 hj2).2.1 (by omega)
theorem bc_TI_put {n : Nat} {K T T3 : bc_F} {i : Nat} (hn : n ≤ 40) (hi : i < n) (h : bc_TI n K T i T3) (hg : bc_gs (K i)) : bc_TI n K T (i + 1) (upd T3 i (nI (bc_end n K (fun j => bc_tn n (T3 j)) (bc_tn n (T3 i))))) := by
  have e1 : bc_end n K (fun j => bc_tn n (T3 j)) (bc_tn n (T3 i)) = bc_end n K (fun j => bc_tn n (T j)) (bc_tn n (T i)) := by
    rw [bc_end_mod (bc_TI_mod h), ((h i hi).1 hg).2.2 (Nat.le_refl _)]
  have e2 : bc_end n K (fun j => bc_tn n (T j)) (bc_tn n (T i)) ≤ n := bc_end_le bc_tn_q (bc_tn_le _ _)
  intro j hj
  by_cases e : j = i
  · subst e
    refine ⟨fun _ => ?_, fun z => absurd hg z⟩
    rw [pk_us, e1]
    exact ⟨⟨_, by omega, rfl⟩, fun _ => bc_tn_nI e2 hn, fun z => by omega⟩
  · rw [pk_un e]
    refine ⟨fun hj2 => ⟨((h j hj).1 hj2).1, fun c => ((h j hj).1 hj2).2.1 (by omega), fun c => ((h j hj).1 hj2).2.2 (by omega)⟩, (h j hj).2⟩
set_option maxHeartbeats 4000000 in
set_option maxRecDepth 100000 in
/-- THREAD -/
theorem co_W_thread {l : Launch} {dC : Nat → ClassId} {dI : Nat → Nat → Nat} {cI cZ : ClassId} {sz : Nat} {h0 q1 q2 q3 q4 n : Nat} {K O T Z : bc_F} (hn : n ≤ 40) (htr : ∀ j, j < n → bc_gs (K j) → bc_tr (T j)) : Met l yn_W_thread (Cond.code yn_W_thread by_W_thread 2 none :: wd_all) ({ frames := 2, cells := 0, slots := 0, locals := 44 } : Room) (bc_Pre (dC, dI) classes [(cI, .int), (cZ, .boolean)] [.ref h0] [(h0, .inr (1, [.ref q1, .ref q2, .ref q3, .ref q4, .int (nI n)])), (q1, .inl (cI, 40, .inl K)), (q2, .inl (cI, 40, .inl O)), (q3, .inl (cI, 40, .inl T)), (q4, .inl (cI, 40, .inl Z))] sz) (va_Qv (fun (u : bc_F) => bc_TI n K T n u) (fun (u : bc_F) t => bc_B (dC, dI) classes [(cI, .int), (cZ, .boolean)] (va_A [(h0, .inr (1, [.ref q1, .ref q2, .ref q3, .ref q4, .int (nI n)])), (q1, .inl (cI, 40, .inl K)), (q2, .inl (cI, 40, .inl O)), (q3, .inl (cI, 40, .inl T)), (q4, .inl (cI, 40, .inl Z))] sz) [(h0, .inr (1, [.ref q1, .ref q2, .ref q3, .ref q4, .int (nI n)])), (q1, .inl (cI, 40, .inl K)), (q2, .inl (cI, 40, .inl O)), (q3, .inl (cI, 40, .inl u)), (q4, .inl (cI, 40, .inl Z))] t) ((va_A [(h0, .inr (1, [.ref q1, .ref q2, .ref q3, .ref q4, .int (nI n)])), (q1, .inl (cI, 40, .inl K)), (q2, .inl (cI, 40, .inl O)), (q3, .inl (cI, 40, .inl T)), (q4, .inl (cI, 40, .inl Z))] sz))) 0 0 (va_A [(h0, .inr (1, [.ref q1, .ref q2, .ref q3, .ref q4, .int (nI n)])), (q1, .inl (cI, 40, .inl K)), (q2, .inl (cI, 40, .inl O)), (q3, .inl (cI, 40, .inl T)), (q4, .inl (cI, 40, .inl Z))] sz) := by
  refine bc_met (fun A => va_Qv (fun (u : bc_F) => bc_TI n K T n u) (fun (u : bc_F) t => bc_B (dC, dI) classes [(cI, .int), (cZ, .boolean)] A [(h0, .inr (1, [.ref q1, .ref q2, .ref q3, .ref q4, .int (nI n)])), (q1, .inl (cI, 40, .inl K)), (q2, .inl (cI, 40, .inl O)), (q3, .inl (cI, 40, .inl u)), (q4, .inl (cI, 40, .inl Z))] t) A) (by decide) (Nat.le_of_ble_eq_true rfl) ?_
  intro p e s m args below meth c A ls F hr hlocks hin hA hP hD hl hS
  have hx := F.1
  have hb := F.2.1
  have hml := F.2.2.1
  have hown : s.vm.findClass "BranchConstants$Rewriting" = some m.cls := F.2.2.2.1
  have htw := F.2.2.2.2.1
  have hN := F.2.2.2.2.2.1
  have hK := F.2.2.2.2.2.2
  have hl : lv_has ls 2 [(0, .ref h0)] := hl
  refine lv_iconst (v := 0) hx hb de_W_thread_0 (by decide) ?_
  refine bc_ti (y := nI 0) nI_0.symm ?_
  refine lv_istore_n (lv' := [(1, .int (nI 0)), (0, .ref h0)]) hx hb de_W_thread_1 rfl hl (by decide) rfl (fun ls hl => ?_)
  refine bc_loop (fun k_2 H locs ls => ∃ (i : Nat) (T3 : bc_F), lv_has ls 2 [(1, .int (nI i)), (0, .ref h0)] ∧ va_P (dC, dI) classes [(h0, .inr (1, [.ref q1, .ref q2, .ref q3, .ref q4, .int (nI n)])), (q1, .inl (cI, 40, .inl K)), (q2, .inl (cI, 40, .inl O)), (q3, .inl (cI, 40, .inl T3)), (q4, .inl (cI, 40, .inl Z))] H ∧ va_D A [(h0, .inr (1, [.ref q1, .ref q2, .ref q3, .ref q4, .int (nI n)])), (q1, .inl (cI, 40, .inl K)), (q2, .inl (cI, 40, .inl O)), (q3, .inl (cI, 40, .inl T3)), (q4, .inl (cI, 40, .inl Z))] ∧ va_S A s.heap H locs ∧ k_2 = n - i ∧ (i ≤ n) ∧ (bc_TI n K T i T3)) ?_ ?_
  · rintro k_2 H locs ls ⟨i, T3, hl, hP, hD, hS, hk_2, hi, hJ⟩ ih_2
    refine lv_iload_n hx hb de_W_thread_2 rfl (lv_at hl 0 rfl) ?_
    refine lv_aload_n hx hb de_W_thread_3 rfl (lv_at hl 1 rfl) ?_
    refine va_getN (D := (dC, dI)) (ci := 1) (v := .int (nI n)) (C := rc_C) (T := fc_C) (N := 5) hx hb htw wi_C hown hK hP 0 rfl rfl 4 (by decide) (va_Nw.use rfl (hN _ nm_15)) (fun _ h9 => h9) rfl de_W_thread_4 ?_
    refine lv_icmp_ge (tgt := 39) hx hb de_W_thread_7 (by decide) (fun hc_7 => ?_) (fun hc_7 => ?_)
    · have heq : i = n := by have := bc_ge (by omega) (by omega) hc_7; omega
      subst heq
      exact bc_vret F hr hlocks T3 hJ hP hD hS de_W_thread_39
    · have hlt : i < n := bc_lt (by omega) (by omega) hc_7
      refine lv_aload_n hx hb de_W_thread_10 rfl (lv_at hl 1 rfl) ?_
      refine lv_iload_n hx hb de_W_thread_11 rfl (lv_at hl 0 rfl) ?_
      refine bc_call_nv_i (As := [.int (nI i)]) (rest := []) (wr := []) F (co_C_hasTarget (by omega)) wm_325 wm_2 nm_43 wm_324 wm_613 0 rfl rfl pd_C_hasTarget rfl rfl ⟨Nat.le_of_ble_eq_true rfl, Nat.le_of_ble_eq_true rfl⟩ hP hD hS hA [0, 1, 2, 3, 4] [] rfl rfl rfl rfl (by decide) rfl hl.1 rfl (Nat.le_of_ble_eq_true rfl) de_W_thread_12 ⟨Nat.le_of_ble_eq_true rfl, Nat.le_of_ble_eq_true rfl⟩ (fun r_12 u_12 H locs hw_12 hP hD hS => ?_)
      have hP : va_P (dC, dI) classes [(h0, .inr (1, [.ref q1, .ref q2, .ref q3, .ref q4, .int (nI n)])), (q1, .inl (cI, 40, .inl K)), (q2, .inl (cI, 40, .inl O)), (q3, .inl (cI, 40, .inl T3)), (q4, .inl (cI, 40, .inl Z))] H := hP.sub [0, 1, 2, 3, 4] rfl
      have hD : va_D A [(h0, .inr (1, [.ref q1, .ref q2, .ref q3, .ref q4, .int (nI n)])), (q1, .inl (cI, 40, .inl K)), (q2, .inl (cI, 40, .inl O)), (q3, .inl (cI, 40, .inl T3)), (q4, .inl (cI, 40, .inl Z))] := hD.sub [0, 1, 2, 3, 4] (by decide) rfl
      rcases hw_12 with ⟨he_12, hv_12⟩ | ⟨he_12, hv_12⟩
      · subst he_12
        refine lv_if_eq (tgt := 33) hx hb de_W_thread_15 (by decide) (fun hc => absurd hc (by decide)) (fun _ => ?_)
        refine lv_aload_n hx hb de_W_thread_18 rfl (lv_at hl 1 rfl) ?_
        refine va_getN (D := (dC, dI)) (ci := 1) (v := .ref q3) (C := rc_C) (T := fc_C) (N := 5) hx hb htw wi_C hown hK hP 0 rfl rfl 2 (by decide) (va_Nw.use rfl (hN _ nm_7)) (fun _ h9 => h9) rfl de_W_thread_19 ?_
        refine lv_iload_n hx hb de_W_thread_22 rfl (lv_at hl 0 rfl) ?_
        refine lv_aload_n hx hb de_W_thread_23 rfl (lv_at hl 1 rfl) ?_
        refine lv_aload_n hx hb de_W_thread_24 rfl (lv_at hl 1 rfl) ?_
        refine lv_iload_n hx hb de_W_thread_25 rfl (lv_at hl 0 rfl) ?_
        refine bc_call_nv_i (As := [.int (nI i)]) (rest := [.ref h0, .int (nI i), .ref q3]) (wr := []) F (co_C_target (by omega) hn ((hJ i hlt).1 hv_12).1) wm_154 wm_2 nm_44 wm_153 wm_601 0 rfl rfl pd_C_target rfl rfl ⟨Nat.le_of_ble_eq_true rfl, Nat.le_of_ble_eq_true rfl⟩ hP hD hS hA [0, 1, 2, 3, 4] [] rfl rfl rfl rfl (by decide) rfl hl.1 rfl (Nat.le_of_ble_eq_true rfl) de_W_thread_26 ⟨Nat.le_of_ble_eq_true rfl, Nat.le_of_ble_eq_true rfl⟩ (fun r_26 u_26 H locs hw_26 hP hD hS => ?_)
        have hP : va_P (dC, dI) classes [(h0, .inr (1, [.ref q1, .ref q2, .ref q3, .ref q4, .int (nI n)])), (q1, .inl (cI, 40, .inl K)), (q2, .inl (cI, 40, .inl O)), (q3, .inl (cI, 40, .inl T3)), (q4, .inl (cI, 40, .inl Z))] H := hP.sub [0, 1, 2, 3, 4] rfl
        have hD : va_D A [(h0, .inr (1, [.ref q1, .ref q2, .ref q3, .ref q4, .int (nI n)])), (q1, .inl (cI, 40, .inl K)), (q2, .inl (cI, 40, .inl O)), (q3, .inl (cI, 40, .inl T3)), (q4, .inl (cI, 40, .inl Z))] := hD.sub [0, 1, 2, 3, 4] (by decide) rfl
        subst hw_26
        refine bc_call_s_i (As := [.ref h0, .int (nI (bc_tn n (T3 i)))]) (rest := [.int (nI i), .ref q3]) (wr := []) F (co_W_endOfChain hn (bc_tn_le _ _) (fun j hj h6 => ((hJ j hj).1 (Or.inl h6)).1)) wm_328 wm_4 wm_326 wm_327 pd_W_endOfChain rfl rfl ⟨Nat.le_of_ble_eq_true rfl, Nat.le_of_ble_eq_true rfl⟩ hP hD hS hA [0, 1, 2, 3, 4] [] rfl rfl rfl rfl (by decide) rfl hl.1 rfl (Nat.le_of_ble_eq_true rfl) de_W_thread_29 ⟨Nat.le_of_ble_eq_true rfl, Nat.le_of_ble_eq_true rfl⟩ (fun r_29 u_29 H locs hw_29 hP hD hS => ?_)
        have hP : va_P (dC, dI) classes [(h0, .inr (1, [.ref q1, .ref q2, .ref q3, .ref q4, .int (nI n)])), (q1, .inl (cI, 40, .inl K)), (q2, .inl (cI, 40, .inl O)), (q3, .inl (cI, 40, .inl T3)), (q4, .inl (cI, 40, .inl Z))] H := hP.sub [0, 1, 2, 3, 4] rfl
        have hD : va_D A [(h0, .inr (1, [.ref q1, .ref q2, .ref q3, .ref q4, .int (nI n)])), (q1, .inl (cI, 40, .inl K)), (q2, .inl (cI, 40, .inl O)), (q3, .inl (cI, 40, .inl T3)), (q4, .inl (cI, 40, .inl Z))] := hD.sub [0, 1, 2, 3, 4] (by decide) rfl
        subst hw_29
        refine bc_ist (j := i) hx hb hK hP hD hS 3 0 rfl rfl (by omega) (by decide) de_W_thread_32 (fun H locs hP hD hS => ?_)
        have hP : va_P (dC, dI) classes [(h0, .inr (1, [.ref q1, .ref q2, .ref q3, .ref q4, .int (nI n)])), (q1, .inl (cI, 40, .inl K)), (q2, .inl (cI, 40, .inl O)), (q3, .inl (cI, 40, .inl (upd T3 i (nI (bc_end n K (fun j => bc_tn n (T3 j)) (bc_tn n (T3 i))))))), (q4, .inl (cI, 40, .inl Z))] H := hP
        have hD : va_D A [(h0, .inr (1, [.ref q1, .ref q2, .ref q3, .ref q4, .int (nI n)])), (q1, .inl (cI, 40, .inl K)), (q2, .inl (cI, 40, .inl O)), (q3, .inl (cI, 40, .inl (upd T3 i (nI (bc_end n K (fun j => bc_tn n (T3 j)) (bc_tn n (T3 i))))))), (q4, .inl (cI, 40, .inl Z))] := hD
        refine lv_iinc (k := 0) (v := nI (i + 1)) (lv' := [(1, .int (nI (i + 1))), (0, .ref h0)]) hx hb de_W_thread_33 hl rfl (bc_inc _) (by decide) rfl (fun ls hl => ?_)
        refine lv_goto (tgt := 2) hx hb de_W_thread_36 (by decide) ?_
        exact ih_2 _ _ _ _ (by omega) ⟨(i + 1), upd T3 i (nI (bc_end n K (fun j => bc_tn n (T3 j)) (bc_tn n (T3 i)))), lv_sub hl [0, 1] rfl, hP, hD, hS, rfl, (by omega), bc_TI_put hn hlt hJ hv_12⟩
      · subst he_12
        refine lv_if_eq (tgt := 33) hx hb de_W_thread_15 (by decide) (fun _ => ?_) (fun hc => absurd (by decide) hc)
        refine lv_iinc (k := 0) (v := nI (i + 1)) (lv' := [(1, .int (nI (i + 1))), (0, .ref h0)]) hx hb de_W_thread_33 hl rfl (bc_inc _) (by decide) rfl (fun ls hl => ?_)
        refine lv_goto (tgt := 2) hx hb de_W_thread_36 (by decide) ?_
        exact ih_2 _ _ _ _ (by omega) ⟨(i + 1), T3, lv_sub hl [0, 1] rfl, hP, hD, hS, rfl, (by omega), bc_TI_skip hJ hv_12⟩
  · exact ⟨_, 0, T, lv_sub hl [0, 1] rfl, hP, hD, hS, rfl, Nat.zero_le _, fun j hj => ⟨fun hg => ⟨htr j hj hg, fun z => absurd z (Nat.not_lt_zero j), fun _ => rfl⟩, fun _ => rfl⟩⟩

