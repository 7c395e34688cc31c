/-! Analysis: comeTo, goOnFrom, perform (by program: wip/whole/gen/modA2.py) -/
theorem bc_ctA {S C SB CB W W1 : bc_F} {g : bc_G} {t v : Nat} {q : bc_R} (hep : bc_ep S C g t q v) (ht : t < 40) (hv : v < 6) (h0 : S (6 * t + v) = 0) (her : bc_er SB CB q) (hwv : bc_wv (g t) q W t v W1) : bc_ep (upd S (6 * t + v) (SB v)) (upd C (6 * t + v) (CB v)) g t q (v + 1) ∧ bc_wv (g t) q W t (v + 1) (upd W1 t 1) := by
  have hg : g t = none := bc_s0_0 (v := v) (by rw [← (bc_ep_at hep ht hv).1]; exact h0)
  refine ⟨bc_ep_up hep hv ?_ ?_, bc_wv_1 hwv ?_⟩
  · rw [hg]; exact (her v hv).1
  · rw [hg]; exact (her v hv).2
  · rw [hg]; exact (show 0 < v + 1 by omega)
theorem bc_ctB {S C SB CB W W1 : bc_F} {g : bc_G} {t v : Nat} {q : bc_R} (hep : bc_ep S C g t q v) (ht : t < 40) (hv : v < 6) (h0 : ¬ S (6 * t + v) = 0) (h2 : S (6 * t + v) = 2) (hb : ¬ (SB v = 2 ∧ CB v = C (6 * t + v))) (her : bc_er SB CB q) (hwv : bc_wv (g t) q W t v W1) : bc_ep (upd S (6 * t + v) 1) (upd C (6 * t + v) 0) g t q (v + 1) ∧ bc_wv (g t) q W t (v + 1) (upd W1 t 1) := by
  have e1 := bc_ep_at hep ht hv
  obtain ⟨r, hr⟩ : ∃ r, g t = some r := bc_s0_n0 (v := v) (by rw [← e1.1]; exact h0)
  rw [hr] at e1
  have hrv : r v = some (bc_c0 (some r) v) := bc_s0_is2 (by rw [← e1.1]; exact h2)
  have hne : r v ≠ q v := by
    intro z
    have z2 : q v = some (bc_c0 (some r) v) := by rw [← z]; exact hrv
    exact hb ⟨(her v hv).1.trans (bc_s0_2 z2).1, (her v hv).2.trans ((bc_s0_2 z2).2.trans e1.2.symm)⟩
  have hj : bc_jo (some r) q v = none := bc_jo_diff hne
  refine ⟨bc_ep_up hep hv ?_ ?_, bc_wv_1 hwv ?_⟩
  · rw [hr]; exact (bc_s0_1 hj).1.symm
  · rw [hr]; exact (bc_s0_1 hj).2.symm
  · rw [hr]; exact bc_chv_at (by rw [hrv]; exact fun z => by cases z) hne
theorem bc_ctC {S C SB CB W W1 : bc_F} {g : bc_G} {t v : Nat} {q : bc_R} (hep : bc_ep S C g t q v) (ht : t < 40) (hv : v < 6) (h0 : ¬ S (6 * t + v) = 0) (hc : ¬ S (6 * t + v) = 2 ∨ (SB v = 2 ∧ CB v = C (6 * t + v))) (her : bc_er SB CB q) (hwv : bc_wv (g t) q W t v W1) : bc_ep S C g t q (v + 1) ∧ bc_wv (g t) q W t (v + 1) W1 := by
  have e1 := bc_ep_at hep ht hv
  obtain ⟨r, hr⟩ : ∃ r, g t = some r := bc_s0_n0 (v := v) (by rw [← e1.1]; exact h0)
  rw [hr] at e1
  have hsame : r v = none ∨ r v = q v := by
    by_cases h2 : S (6 * t + v) = 2
    · right
      rcases hc with h | ⟨h, h'⟩
      · exact absurd h2 h
      · have a1 : r v = some (bc_c0 (some r) v) := bc_s0_is2 (by rw [← e1.1]; exact h2)
        have a2 : q v = some (bc_c0 (some q) v) := bc_s0_is2 (by rw [← (her v hv).1]; exact h)
        rw [a1, a2, ← e1.2, ← h', (her v hv).2]
    · left
      exact bc_s0_n2 (by rw [← e1.1]; exact h2)
  have hj := bc_jo_same hsame
  refine ⟨bc_ep_id hep ?_ ?_, bc_wv_n hwv ?_⟩
  · rw [hr]; exact (bc_s0_cg hj.symm).1
  · rw [hr]; exact (bc_s0_cg hj.symm).2
  · rw [hr]; exact fun z => bc_chv_no z hsame
theorem bc_come_tn (n : Nat) (g : bc_G) (x : Int32) (q : bc_R) : bc_come n g (bc_tn n x) q = bc_come n g x.toNatClampNeg q := by
  unfold bc_tn
  by_cases h : x.toNatClampNeg < n
  · rw [if_pos h]
  · rw [if_neg h, bc_come_out h, bc_come_out (by omega)]
theorem bc_wr_tn {n : Nat} {g : bc_G} {x : Int32} {q : bc_R} {W W' : bc_F} (hw : bc_wr n g W (bc_tn n x) q W') : bc_wr n g W x.toNatClampNeg q W' := by
  unfold bc_tn at hw
  by_cases h : x.toNatClampNeg < n
  · rw [if_pos h] at hw; exact hw
  · rw [if_neg h] at hw
    obtain ⟨a, _, b⟩ := hw
    have hall : ∀ j, W' j = W j := fun j => by
      by_cases e : j = n
      · rw [e]; exact b (Or.inl (by omega))
      · exact a j e
    exact ⟨fun j _ => hall j, fun z => absurd z h, fun _ => hall _⟩
theorem bc_run_1 {n t : Nat} {g : bc_G} {q : bc_R} {W W' : bc_F} (h : bc_wr n g W t q W') : bc_run n [(t, q)] g W (bc_come n g t q) W' := ⟨W', h, rfl, rfl⟩
theorem bc_run_tn {n : Nat} {g : bc_G} {x : Int32} {q : bc_R} {W W' : bc_F} (h : bc_wr n g W (bc_tn n x) q W') : bc_run n [(x.toNatClampNeg, q)] g W (bc_come n g (bc_tn n x) q) W' := ⟨W', bc_wr_tn h, bc_come_tn n g x q, rfl⟩
theorem bc_run_2 {n t : Nat} {g : bc_G} {x : Int32} {q q' : bc_R} {W W1 W' : bc_F} (h : bc_wr n g W t q W1) (h' : bc_wr n (bc_come n g t q) W1 (bc_tn n x) q' W') : bc_run n [(t, q), (x.toNatClampNeg, q')] g W (bc_come n (bc_come n g t q) (bc_tn n x) q') W' := ⟨W1, h, bc_run_tn h'⟩
theorem bc_out_4 {K O T Z : bc_F} {i : Nat} {r : bc_R} {o : Nat} (h4 : K i ≤ 4) (eO : O i = nI o) (ho : o < 6) : bc_out K O T Z i r = [(i + 1, bc_up r o (bc_rs K T Z i r))] := by
  unfold bc_out
  rw [if_pos h4, bc_cl6 eO ho]
theorem bc_out_6 {K O T Z : bc_F} {i : Nat} {r : bc_R} (h4 : ¬ K i ≤ 4) (h6 : K i = 6) : bc_out K O T Z i r = [((T i).toNatClampNeg, r)] := by
  unfold bc_out
  rw [if_neg h4, if_pos h6]
theorem bc_out_7 {K O T Z : bc_F} {i : Nat} {r : bc_R} (h4 : ¬ K i ≤ 4) (h6 : ¬ K i = 6) (h5 : ¬ K i = 5) : bc_out K O T Z i r = [] := by
  unfold bc_out
  rw [if_neg h4, if_neg h6, if_neg h5]
theorem bc_out_5z {K O T Z : bc_F} {i : Nat} {r : bc_R} {o : Nat} {x : Int32} (h5 : K i = 5) (eO : O i = nI o) (ho : o < 6) (h : r o = some x) (h0 : x = 0) : bc_out K O T Z i r = [((T i).toNatClampNeg, r)] := by
  unfold bc_out
  rw [if_neg (by rw [h5]; decide), if_neg (by rw [h5]; decide), if_pos h5, bc_cl6 eO ho, h]
  exact if_pos h0
theorem bc_out_5n {K O T Z : bc_F} {i : Nat} {r : bc_R} {o : Nat} {x : Int32} (h5 : K i = 5) (eO : O i = nI o) (ho : o < 6) (h : r o = some x) (h0 : ¬ x = 0) : bc_out K O T Z i r = [(i + 1, r)] := by
  unfold bc_out
  rw [if_neg (by rw [h5]; decide), if_neg (by rw [h5]; decide), if_pos h5, bc_cl6 eO ho, h]
  exact if_neg h0
theorem bc_out_5v {K O T Z : bc_F} {i : Nat} {r : bc_R} {o : Nat} (h5 : K i = 5) (eO : O i = nI o) (ho : o < 6) (h : r o = none) : bc_out K O T Z i r = [(i + 1, r), ((T i).toNatClampNeg, bc_up r o (some 0))] := by
  unfold bc_out
  rw [if_neg (by rw [h5]; decide), if_neg (by rw [h5]; decide), if_pos h5, bc_cl6 eO ho, h]
theorem bc_er_up {S C : bc_F} {r : bc_R} {o : Nat} {a b : Int32} {x : Option Int32} (h : bc_er S C r) (ha : a = bc_s0 (some (fun _ => x)) 0) (hb : b = bc_c0 (some (fun _ => x)) 0) : bc_er (upd S o a) (upd C o b) (bc_up r o x) := by
  intro v hv
  by_cases e : v = o
  · subst e
    rw [pk_us, pk_us, ha, hb]
    have : bc_up r v x v = (fun _ => x) 0 := by unfold bc_up; rw [if_pos rfl]
    cases x with
    | none => exact ⟨((bc_s0_1 (r := bc_up r v none) this).1).symm, ((bc_s0_1 (r := bc_up r v none) this).2).symm⟩
    | some y => exact ⟨((bc_s0_2 (r := bc_up r v (some y)) this).1).symm, ((bc_s0_2 (r := bc_up r v (some y)) this).2).symm⟩
  · rw [pk_un e, pk_un e]
    have : bc_up r o x v = r v := by unfold bc_up; rw [if_neg e]
    rw [(bc_s0_cg this).1, (bc_s0_cg this).2]
    exact h v hv
theorem bc_way {C : bc_F} {T : bc_F} {i o n : Nat} {r : Int32} (hi : i < 40) (hn : n ≤ 40) (h : (C (6 * i + o) = 0 → r = nI (bc_tn n (T i))) ∧ (¬ C (6 * i + o) = 0 → r = nI (i + 1))) : ∃ tw : Nat, r = nI tw ∧ tw < 2 ^ 31 ∧ ((C (6 * i + o) = 0 ∧ tw = bc_tn n (T i)) ∨ (¬ C (6 * i + o) = 0 ∧ tw = i + 1)) := by
  by_cases c : C (6 * i + o) = 0
  · exact ⟨bc_tn n (T i), h.1 c, by have := bc_tn_le n (T i); omega, Or.inl ⟨c, rfl⟩⟩
  · exact ⟨i + 1, h.2 c, by omega, Or.inr ⟨c, rfl⟩⟩
theorem bc_zero_end {n i o tw : Nat} {K O T Z S C W W' : bc_F} {g : bc_G} {rr : bc_R} (h5 : K i = 5) (eO : O i = nI o) (ho : o < 6) (hrow : ∀ v, v < 6 → S (6 * i + v) = bc_s0 (some rr) v ∧ C (6 * i + v) = bc_c0 (some rr) v) (h2 : S (6 * i + o) = 2) (hq : (C (6 * i + o) = 0 ∧ tw = bc_tn n (T i)) ∨ (¬ C (6 * i + o) = 0 ∧ tw = i + 1)) (hwr : bc_wr n g W tw rr W') : bc_run n (bc_out K O T Z i rr) g W (bc_come n g tw rr) W' := by
  have hr : rr o = some (bc_c0 (some rr) o) := bc_s0_is2 (by rw [← (hrow o ho).1]; exact h2)
  rcases hq with ⟨c, e⟩ | ⟨c, e⟩
  · subst e
    rw [bc_out_5z h5 eO ho hr (by rw [← (hrow o ho).2]; exact c)]
    exact bc_run_tn hwr
  · subst e
    rw [bc_out_5n h5 eO ho hr (by rw [← (hrow o ho).2]; exact c)]
    exact bc_run_1 hwr
theorem bc_row {S C : bc_F} {g : bc_G} {i : Nat} {rr : bc_R} (hen : bc_en S C g) (hi : i < 40) (hg : g i = some rr) : ∀ v, v < 6 → S (6 * i + v) = bc_s0 (some rr) v ∧ C (6 * i + v) = bc_c0 (some rr) v := fun v hv => by
  rw [← hg]; exact hen i hi v hv
set_option maxHeartbeats 4000000 in
set_option maxRecDepth 100000 in
/-- what is behind is joined with what is held before the instruction -/
theorem co_A_comeTo {l : Launch} {dC : Nat → ClassId} {dI : Nat → Nat → Nat} {cI cZ : ClassId} {sz : Nat} {a0 s1 s2 s3 s4 s5 : Nat} {S C Wt SB CB : bc_F} {res : Int32}{h0 q1 q2 q3 q4 n : Nat} {t : Nat} {g : bc_G} {q : bc_R} (hn : n ≤ 40) (ht : t < 2 ^ 31) (hen : bc_en S C g) (her : bc_er SB CB q) : Met l yn_A_comeTo (Cond.code yn_A_comeTo by_A_comeTo 5 none :: wd_all) ({ frames := 1, cells := 0, slots := 0, locals := 22 } : Room) (bc_Pre (dC, dI) classes [(cI, .int), (cZ, .boolean)] [.ref a0, .ref h0, .int (nI t)] [(a0, .inr (0, [.ref s1, .ref s2, .ref s3, .ref s4, .ref s5, .int res])), (s1, .inl (cI, 240, .inl S)), (s2, .inl (cI, 240, .inl C)), (s3, .inl (cZ, 40, .inl Wt)), (s4, .inl (cI, 6, .inl SB)), (s5, .inl (cI, 6, .inl CB)), (h0, .inr (1, [.ref q1, .ref q2, .ref q3, .ref q4, .int (nI n)]))] sz) (va_Qv (fun (u : bc_F × bc_F × bc_F) => bc_en u.1 u.2.1 (bc_come n g t q) ∧ bc_wr n g Wt t q u.2.2) (fun (u : bc_F × bc_F × bc_F) t => bc_B (dC, dI) classes [(cI, .int), (cZ, .boolean)] (va_A [(a0, .inr (0, [.ref s1, .ref s2, .ref s3, .ref s4, .ref s5, .int res])), (s1, .inl (cI, 240, .inl S)), (s2, .inl (cI, 240, .inl C)), (s3, .inl (cZ, 40, .inl Wt)), (s4, .inl (cI, 6, .inl SB)), (s5, .inl (cI, 6, .inl CB)), (h0, .inr (1, [.ref q1, .ref q2, .ref q3, .ref q4, .int (nI n)]))] sz) [(a0, .inr (0, [.ref s1, .ref s2, .ref s3, .ref s4, .ref s5, .int res])), (s1, .inl (cI, 240, .inl u.1)), (s2, .inl (cI, 240, .inl u.2.1)), (s3, .inl (cZ, 40, .inl u.2.2)), (s4, .inl (cI, 6, .inl SB)), (s5, .inl (cI, 6, .inl CB)), (h0, .inr (1, [.ref q1, .ref q2, .ref q3, .ref q4, .int (nI n)]))] t) ((va_A [(a0, .inr (0, [.ref s1, .ref s2, .ref s3, .ref s4, .ref s5, .int res])), (s1, .inl (cI, 240, .inl S)), (s2, .inl (cI, 240, .inl C)), (s3, .inl (cZ, 40, .inl Wt)), (s4, .inl (cI, 6, .inl SB)), (s5, .inl (cI, 6, .inl CB)), (h0, .inr (1, [.ref q1, .ref q2, .ref q3, .ref q4, .int (nI n)]))] sz))) 0 0 (va_A [(a0, .inr (0, [.ref s1, .ref s2, .ref s3, .ref s4, .ref s5, .int res])), (s1, .inl (cI, 240, .inl S)), (s2, .inl (cI, 240, .inl C)), (s3, .inl (cZ, 40, .inl Wt)), (s4, .inl (cI, 6, .inl SB)), (s5, .inl (cI, 6, .inl CB)), (h0, .inr (1, [.ref q1, .ref q2, .ref q3, .ref q4, .int (nI n)]))] sz) := by
  refine bc_met (fun A => va_Qv (fun (u : bc_F × bc_F × bc_F) => bc_en u.1 u.2.1 (bc_come n g t q) ∧ bc_wr n g Wt t q u.2.2) (fun (u : bc_F × bc_F × bc_F) t => bc_B (dC, dI) classes [(cI, .int), (cZ, .boolean)] A [(a0, .inr (0, [.ref s1, .ref s2, .ref s3, .ref s4, .ref s5, .int res])), (s1, .inl (cI, 240, .inl u.1)), (s2, .inl (cI, 240, .inl u.2.1)), (s3, .inl (cZ, 40, .inl u.2.2)), (s4, .inl (cI, 6, .inl SB)), (s5, .inl (cI, 6, .inl CB)), (h0, .inr (1, [.ref q1, .ref q2, .ref q3, .ref q4, .int (nI n)]))] t) A) (by decide) (Nat.le_of_ble_eq_true rfl) ?_
  intro p e s m args below meth c A ls F hr hlocks hin hA hP hD hl hS
  have hx := F.1
  have hb := F.2.1
  have hml := F.2.2.1
  have hown : s.vm.findClass "BranchConstants$Analysis" = some m.cls := F.2.2.2.1
  have htw := F.2.2.2.2.1
  have hN := F.2.2.2.2.2.1
  have hK := F.2.2.2.2.2.2
  have hl : lv_has ls 5 [(0, .ref a0), (1, .ref h0), (2, .int (nI t))] := hl
  refine lv_iload_n hx hb de_A_comeTo_0 rfl (lv_at hl 2 rfl) ?_
  refine lv_aload_n hx hb de_A_comeTo_1 rfl (lv_at hl 1 rfl) ?_
  refine va_getN (D := (dC, dI)) (ci := 1) (v := .int (nI n)) (C := rc_C) (T := fc_C) (N := 5) hx hb htw wi_C hown hK hP 6 rfl rfl 4 (by decide) (va_Nw.use rfl (hN _ nm_14)) (fun _ h9 => h9) rfl de_A_comeTo_2 ?_
  refine lv_icmp_lt (tgt := 9) hx hb de_A_comeTo_5 (by decide) (fun hc_5 => ?_) (fun hc_5 => ?_)
  · have hlt : t < n := (nI_ltI ht (by omega)).mp hc_5
    refine lv_iconst (v := 0) hx hb de_A_comeTo_9 (by decide) ?_
    refine bc_ti (y := nI 0) nI_0.symm ?_
    refine lv_istore_n (lv' := [(3, .int (nI 0)), (0, .ref a0), (1, .ref h0), (2, .int (nI t))]) hx hb de_A_comeTo_10 rfl hl (by decide) rfl (fun ls hl => ?_)
    refine bc_loop (fun k_11 H locs ls => ∃ (v : Nat) (S1 : bc_F) (C1 : bc_F) (W1 : bc_F), lv_has ls 5 [(3, .int (nI v)), (0, .ref a0), (1, .ref h0), (2, .int (nI t))] ∧ va_P (dC, dI) classes [(a0, .inr (0, [.ref s1, .ref s2, .ref s3, .ref s4, .ref s5, .int res])), (s1, .inl (cI, 240, .inl S1)), (s2, .inl (cI, 240, .inl C1)), (s3, .inl (cZ, 40, .inl W1)), (s4, .inl (cI, 6, .inl SB)), (s5, .inl (cI, 6, .inl CB)), (h0, .inr (1, [.ref q1, .ref q2, .ref q3, .ref q4, .int (nI n)]))] H ∧ va_D A [(a0, .inr (0, [.ref s1, .ref s2, .ref s3, .ref s4, .ref s5, .int res])), (s1, .inl (cI, 240, .inl S1)), (s2, .inl (cI, 240, .inl C1)), (s3, .inl (cZ, 40, .inl W1)), (s4, .inl (cI, 6, .inl SB)), (s5, .inl (cI, 6, .inl CB)), (h0, .inr (1, [.ref q1, .ref q2, .ref q3, .ref q4, .int (nI n)]))] ∧ va_S A s.heap H locs ∧ k_11 = 6 - v ∧ (v ≤ 6) ∧ (bc_ep S1 C1 g t q v) ∧ (bc_wv (g t) q Wt t v W1)) ?_ ?_
    · rintro k_11 H locs ls ⟨v, S1, C1, W1, hl, hP, hD, hS, hk_11, hv, hep, hwv⟩ ih_11
      refine lv_iload_n hx hb de_A_comeTo_11 rfl (lv_at hl 0 rfl) ?_
      refine lv_bipush (v := 6) hx hb de_A_comeTo_12 (by decide) ?_
      refine lv_icmp_ge (tgt := 125) hx hb de_A_comeTo_14 (by decide) (fun hc_14 => ?_) (fun hc_14 => ?_)
      · have heq : v = 6 := by have := bc_ge (b := 6) (by omega) (by omega) hc_14; omega
        subst heq
        exact bc_vret F hr hlocks ((S1, C1, W1)) ⟨bc_ep_6 hep hlt, bc_wv_6 hlt hwv⟩ hP hD hS de_A_comeTo_125
      · have hv6 : v < 6 := bc_lt (b := 6) (by omega) (by omega) hc_14
        refine lv_iload_n hx hb de_A_comeTo_17 rfl (lv_at hl 3 rfl) ?_
        refine lv_iload_n hx hb de_A_comeTo_18 rfl (lv_at hl 0 rfl) ?_
        refine bc_call_ns_i (As := [.int (nI t), .int (nI v)]) (rest := []) (wr := [(a0, .inr (0, [.ref s1, .ref s2, .ref s3, .ref s4, .ref s5, .int res])), (s1, .inl (cI, 240, .inl S1)), (s2, .inl (cI, 240, .inl C1)), (s3, .inl (cZ, 40, .inl W1)), (s4, .inl (cI, 6, .inl SB)), (s5, .inl (cI, 6, .inl CB)), (h0, .inr (1, [.ref q1, .ref q2, .ref q3, .ref q4, .int (nI n)]))]) F (co_B_cell) wm_127 wm_1 nm_28 wm_126 pd_B_cell rfl rfl ⟨Nat.le_of_ble_eq_true rfl, Nat.le_of_ble_eq_true rfl⟩ hP hD hS hA [] [0, 1, 2, 3, 4, 5, 6] rfl rfl rfl rfl (by decide) rfl hl.1 rfl (Nat.le_of_ble_eq_true rfl) de_A_comeTo_19 ⟨Nat.le_of_ble_eq_true rfl, Nat.le_of_ble_eq_true rfl⟩ (fun r_19 u_19 H locs hw_19 hP hD hS => ?_)
        have hP : va_P (dC, dI) classes [(a0, .inr (0, [.ref s1, .ref s2, .ref s3, .ref s4, .ref s5, .int res])), (s1, .inl (cI, 240, .inl S1)), (s2, .inl (cI, 240, .inl C1)), (s3, .inl (cZ, 40, .inl W1)), (s4, .inl (cI, 6, .inl SB)), (s5, .inl (cI, 6, .inl CB)), (h0, .inr (1, [.ref q1, .ref q2, .ref q3, .ref q4, .int (nI n)]))] H := hP.sub [0, 1, 2, 3, 4, 5, 6] rfl
        have hD : va_D A [(a0, .inr (0, [.ref s1, .ref s2, .ref s3, .ref s4, .ref s5, .int res])), (s1, .inl (cI, 240, .inl S1)), (s2, .inl (cI, 240, .inl C1)), (s3, .inl (cZ, 40, .inl W1)), (s4, .inl (cI, 6, .inl SB)), (s5, .inl (cI, 6, .inl CB)), (h0, .inr (1, [.ref q1, .ref q2, .ref q3, .ref q4, .int (nI n)]))] := hD.sub [0, 1, 2, 3, 4, 5, 6] (by decide) rfl
        subst hw_19
        refine lv_istore (lv' := [(4, .int (nI (6 * t + v))), (3, .int (nI v)), (0, .ref a0), (1, .ref h0), (2, .int (nI t))]) hx hb de_A_comeTo_22 hl (by decide) rfl (fun ls hl => ?_)
        refine lv_aload_n hx hb de_A_comeTo_24 rfl (lv_at hl 2 rfl) ?_
        refine va_get (D := (dC, dI)) (ci := 0) (v := .ref s1) (C := rc_A) (T := fc_A) (N := 6) hx hb htw wi_A hown hK hP 0 rfl rfl 0 (by decide) (htw _ wm_45) (fun _ h9 => h9) rfl de_A_comeTo_25 ?_
        refine lv_iload hx hb de_A_comeTo_28 (lv_at hl 0 rfl) ?_
        refine bc_ild (j := 6 * t + v) hx hb hK hP 1 0 rfl rfl (by omega) (by decide) de_A_comeTo_30 ?_
        refine lv_if_ne (tgt := 70) hx hb de_A_comeTo_31 (by decide) (fun hc_31 => ?_) (fun hc_31 => ?_)
        · refine lv_aload_n hx hb de_A_comeTo_70 rfl (lv_at hl 2 rfl) ?_
          refine va_get (D := (dC, dI)) (ci := 0) (v := .ref s1) (C := rc_A) (T := fc_A) (N := 6) hx hb htw wi_A hown hK hP 0 rfl rfl 0 (by decide) (htw _ wm_45) (fun _ h9 => h9) rfl de_A_comeTo_71 ?_
          refine lv_iload hx hb de_A_comeTo_74 (lv_at hl 0 rfl) ?_
          refine bc_ild (j := 6 * t + v) hx hb hK hP 1 0 rfl rfl (by omega) (by decide) de_A_comeTo_76 ?_
          refine lv_iconst (v := 2) hx hb de_A_comeTo_77 (by decide) ?_
          refine lv_icmp_ne (tgt := 119) hx hb de_A_comeTo_78 (by decide) (fun hc_78 => ?_) (fun hc_78 => ?_)
          · refine lv_iinc (k := 1) (v := nI (v + 1)) (lv' := [(3, .int (nI (v + 1))), (4, .int (nI (6 * t + v))), (0, .ref a0), (1, .ref h0), (2, .int (nI t))]) hx hb de_A_comeTo_119 hl rfl (bc_inc _) (by decide) rfl (fun ls hl => ?_)
            refine lv_goto (tgt := 11) hx hb de_A_comeTo_122 (by decide) ?_
            exact ih_11 _ _ _ _ (by omega) ⟨(v + 1), S1, C1, W1, lv_sub hl [0, 2, 3, 4] rfl, hP, hD, hS, rfl, (by omega), (bc_ctC hep (by omega) (by omega) hc_31 (Or.inl hc_78) her hwv).1, (bc_ctC hep (by omega) (by omega) hc_31 (Or.inl hc_78) her hwv).2⟩
          · refine lv_aload_n hx hb de_A_comeTo_81 rfl (lv_at hl 2 rfl) ?_
            refine lv_iload_n hx hb de_A_comeTo_82 rfl (lv_at hl 1 rfl) ?_
            refine lv_aload_n hx hb de_A_comeTo_83 rfl (lv_at hl 2 rfl) ?_
            refine va_get (D := (dC, dI)) (ci := 0) (v := .ref s2) (C := rc_A) (T := fc_A) (N := 6) hx hb htw wi_A hown hK hP 0 rfl rfl 1 (by decide) (htw _ wm_46) (fun _ h9 => h9) rfl de_A_comeTo_84 ?_
            refine lv_iload hx hb de_A_comeTo_87 (lv_at hl 0 rfl) ?_
            refine bc_ild (j := 6 * t + v) hx hb hK hP 2 0 rfl rfl (by omega) (by decide) de_A_comeTo_89 ?_
            refine bc_call_v_i (As := [.int (nI v), .int (C1 (6 * t + v))]) (rest := []) (wr := [(h0, .inr (1, [.ref q1, .ref q2, .ref q3, .ref q4, .int (nI n)]))]) F (co_A_isBehind hv6) wm_130 wm_3 wm_128 wm_129 wm_594 0 rfl rfl pd_A_isBehind rfl rfl ⟨Nat.le_of_ble_eq_true rfl, Nat.le_of_ble_eq_true rfl⟩ hP hD hS hA [0, 1, 2, 3, 4, 5] [6] rfl rfl rfl rfl (by decide) rfl hl.1 rfl (Nat.le_of_ble_eq_true rfl) de_A_comeTo_90 ⟨Nat.le_of_ble_eq_true rfl, Nat.le_of_ble_eq_true rfl⟩ (fun r_90 u_90 H locs hw_90 hP hD hS => ?_)
            have hP : va_P (dC, dI) classes [(a0, .inr (0, [.ref s1, .ref s2, .ref s3, .ref s4, .ref s5, .int res])), (s1, .inl (cI, 240, .inl S1)), (s2, .inl (cI, 240, .inl C1)), (s3, .inl (cZ, 40, .inl W1)), (s4, .inl (cI, 6, .inl SB)), (s5, .inl (cI, 6, .inl CB)), (h0, .inr (1, [.ref q1, .ref q2, .ref q3, .ref q4, .int (nI n)]))] H := hP.sub [1, 2, 3, 4, 5, 6, 0] rfl
            have hD : va_D A [(a0, .inr (0, [.ref s1, .ref s2, .ref s3, .ref s4, .ref s5, .int res])), (s1, .inl (cI, 240, .inl S1)), (s2, .inl (cI, 240, .inl C1)), (s3, .inl (cZ, 40, .inl W1)), (s4, .inl (cI, 6, .inl SB)), (s5, .inl (cI, 6, .inl CB)), (h0, .inr (1, [.ref q1, .ref q2, .ref q3, .ref q4, .int (nI n)]))] := hD.sub [1, 2, 3, 4, 5, 6, 0] (by decide) rfl
            rcases hw_90 with ⟨he_90, hv_90⟩ | ⟨he_90, hv_90⟩
            · subst he_90
              refine lv_if_ne (tgt := 119) hx hb de_A_comeTo_93 (by decide) (fun _ => ?_) (fun hc => absurd hc (by decide))
              refine lv_iinc (k := 1) (v := nI (v + 1)) (lv' := [(3, .int (nI (v + 1))), (4, .int (nI (6 * t + v))), (0, .ref a0), (1, .ref h0), (2, .int (nI t))]) hx hb de_A_comeTo_119 hl rfl (bc_inc _) (by decide) rfl (fun ls hl => ?_)
              refine lv_goto (tgt := 11) hx hb de_A_comeTo_122 (by decide) ?_
              exact ih_11 _ _ _ _ (by omega) ⟨(v + 1), S1, C1, W1, lv_sub hl [0, 2, 3, 4] rfl, hP, hD, hS, rfl, (by omega), (bc_ctC hep (by omega) (by omega) hc_31 (Or.inr hv_90) her hwv).1, (bc_ctC hep (by omega) (by omega) hc_31 (Or.inr hv_90) her hwv).2⟩
            · subst he_90
              refine lv_if_ne (tgt := 119) hx hb de_A_comeTo_93 (by decide) (fun hc => absurd (by decide) hc) (fun _ => ?_)
              refine lv_aload_n hx hb de_A_comeTo_96 rfl (lv_at hl 2 rfl) ?_
              refine va_get (D := (dC, dI)) (ci := 0) (v := .ref s1) (C := rc_A) (T := fc_A) (N := 6) hx hb htw wi_A hown hK hP 0 rfl rfl 0 (by decide) (htw _ wm_45) (fun _ h9 => h9) rfl de_A_comeTo_97 ?_
              refine lv_iload hx hb de_A_comeTo_100 (lv_at hl 0 rfl) ?_
              refine lv_iconst (v := 1) hx hb de_A_comeTo_102 (by decide) ?_
              refine bc_ist (j := 6 * t + v) hx hb hK hP hD hS 1 0 rfl rfl (by omega) (by decide) de_A_comeTo_103 (fun H locs hP hD hS => ?_)
              have hP : va_P (dC, dI) classes [(a0, .inr (0, [.ref s1, .ref s2, .ref s3, .ref s4, .ref s5, .int res])), (s1, .inl (cI, 240, .inl (upd S1 (6 * t + v) 1))), (s2, .inl (cI, 240, .inl C1)), (s3, .inl (cZ, 40, .inl W1)), (s4, .inl (cI, 6, .inl SB)), (s5, .inl (cI, 6, .inl CB)), (h0, .inr (1, [.ref q1, .ref q2, .ref q3, .ref q4, .int (nI n)]))] H := hP
              have hD : va_D A [(a0, .inr (0, [.ref s1, .ref s2, .ref s3, .ref s4, .ref s5, .int res])), (s1, .inl (cI, 240, .inl (upd S1 (6 * t + v) 1))), (s2, .inl (cI, 240, .inl C1)), (s3, .inl (cZ, 40, .inl W1)), (s4, .inl (cI, 6, .inl SB)), (s5, .inl (cI, 6, .inl CB)), (h0, .inr (1, [.ref q1, .ref q2, .ref q3, .ref q4, .int (nI n)]))] := hD
              refine lv_aload_n hx hb de_A_comeTo_104 rfl (lv_at hl 2 rfl) ?_
              refine va_get (D := (dC, dI)) (ci := 0) (v := .ref s2) (C := rc_A) (T := fc_A) (N := 6) hx hb htw wi_A hown hK hP 0 rfl rfl 1 (by decide) (htw _ wm_46) (fun _ h9 => h9) rfl de_A_comeTo_105 ?_
              refine lv_iload hx hb de_A_comeTo_108 (lv_at hl 0 rfl) ?_
              refine lv_iconst (v := 0) hx hb de_A_comeTo_110 (by decide) ?_
              refine bc_ist (j := 6 * t + v) hx hb hK hP hD hS 2 0 rfl rfl (by omega) (by decide) de_A_comeTo_111 (fun H locs hP hD hS => ?_)
              have hP : va_P (dC, dI) classes [(a0, .inr (0, [.ref s1, .ref s2, .ref s3, .ref s4, .ref s5, .int res])), (s1, .inl (cI, 240, .inl (upd S1 (6 * t + v) 1))), (s2, .inl (cI, 240, .inl (upd C1 (6 * t + v) 0))), (s3, .inl (cZ, 40, .inl W1)), (s4, .inl (cI, 6, .inl SB)), (s5, .inl (cI, 6, .inl CB)), (h0, .inr (1, [.ref q1, .ref q2, .ref q3, .ref q4, .int (nI n)]))] H := hP
              have hD : va_D A [(a0, .inr (0, [.ref s1, .ref s2, .ref s3, .ref s4, .ref s5, .int res])), (s1, .inl (cI, 240, .inl (upd S1 (6 * t + v) 1))), (s2, .inl (cI, 240, .inl (upd C1 (6 * t + v) 0))), (s3, .inl (cZ, 40, .inl W1)), (s4, .inl (cI, 6, .inl SB)), (s5, .inl (cI, 6, .inl CB)), (h0, .inr (1, [.ref q1, .ref q2, .ref q3, .ref q4, .int (nI n)]))] := hD
              refine lv_aload_n hx hb de_A_comeTo_112 rfl (lv_at hl 2 rfl) ?_
              refine va_get (D := (dC, dI)) (ci := 0) (v := .ref s3) (C := rc_A) (T := fc_A) (N := 6) hx hb htw wi_A hown hK hP 0 rfl rfl 2 (by decide) (htw _ wm_47) (fun _ h9 => h9) rfl de_A_comeTo_113 ?_
              refine lv_iload_n hx hb de_A_comeTo_116 rfl (lv_at hl 4 rfl) ?_
              refine lv_iconst (v := 1) hx hb de_A_comeTo_117 (by decide) ?_
              refine bc_zst (j := t) hx hb hK hP hD hS 3 1 rfl rfl (by decide) (by omega) (by decide) de_A_comeTo_118 (fun H locs hP hD hS => ?_)
              have hP : va_P (dC, dI) classes [(a0, .inr (0, [.ref s1, .ref s2, .ref s3, .ref s4, .ref s5, .int res])), (s1, .inl (cI, 240, .inl (upd S1 (6 * t + v) 1))), (s2, .inl (cI, 240, .inl (upd C1 (6 * t + v) 0))), (s3, .inl (cZ, 40, .inl (upd W1 t 1))), (s4, .inl (cI, 6, .inl SB)), (s5, .inl (cI, 6, .inl CB)), (h0, .inr (1, [.ref q1, .ref q2, .ref q3, .ref q4, .int (nI n)]))] H := hP
              have hD : va_D A [(a0, .inr (0, [.ref s1, .ref s2, .ref s3, .ref s4, .ref s5, .int res])), (s1, .inl (cI, 240, .inl (upd S1 (6 * t + v) 1))), (s2, .inl (cI, 240, .inl (upd C1 (6 * t + v) 0))), (s3, .inl (cZ, 40, .inl (upd W1 t 1))), (s4, .inl (cI, 6, .inl SB)), (s5, .inl (cI, 6, .inl CB)), (h0, .inr (1, [.ref q1, .ref q2, .ref q3, .ref q4, .int (nI n)]))] := hD
              refine lv_iinc (k := 1) (v := nI (v + 1)) (lv' := [(3, .int (nI (v + 1))), (4, .int (nI (6 * t + v))), (0, .ref a0), (1, .ref h0), (2, .int (nI t))]) hx hb de_A_comeTo_119 hl rfl (bc_inc _) (by decide) rfl (fun ls hl => ?_)
              refine lv_goto (tgt := 11) hx hb de_A_comeTo_122 (by decide) ?_
              exact ih_11 _ _ _ _ (by omega) ⟨(v + 1), upd S1 (6 * t + v) 1, upd C1 (6 * t + v) 0, upd W1 t 1, lv_sub hl [0, 2, 3, 4] rfl, hP, hD, hS, rfl, (by omega), (bc_ctB hep (by omega) (by omega) hc_31 hc_78 hv_90 her hwv).1, (bc_ctB hep (by omega) (by omega) hc_31 hc_78 hv_90 her hwv).2⟩
        · refine lv_aload_n hx hb de_A_comeTo_34 rfl (lv_at hl 2 rfl) ?_
          refine va_get (D := (dC, dI)) (ci := 0) (v := .ref s1) (C := rc_A) (T := fc_A) (N := 6) hx hb htw wi_A hown hK hP 0 rfl rfl 0 (by decide) (htw _ wm_45) (fun _ h9 => h9) rfl de_A_comeTo_35 ?_
          refine lv_iload hx hb de_A_comeTo_38 (lv_at hl 0 rfl) ?_
          refine lv_aload_n hx hb de_A_comeTo_40 rfl (lv_at hl 2 rfl) ?_
          refine va_get (D := (dC, dI)) (ci := 0) (v := .ref s4) (C := rc_A) (T := fc_A) (N := 6) hx hb htw wi_A hown hK hP 0 rfl rfl 3 (by decide) (htw _ wm_48) (fun _ h9 => h9) rfl de_A_comeTo_41 ?_
          refine lv_iload_n hx hb de_A_comeTo_44 rfl (lv_at hl 1 rfl) ?_
          refine bc_ild (j := v) hx hb hK hP 4 0 rfl rfl (by omega) (by decide) de_A_comeTo_45 ?_
          refine bc_ist (j := 6 * t + v) hx hb hK hP hD hS 1 0 rfl rfl (by omega) (by decide) de_A_comeTo_46 (fun H locs hP hD hS => ?_)
          have hP : va_P (dC, dI) classes [(a0, .inr (0, [.ref s1, .ref s2, .ref s3, .ref s4, .ref s5, .int res])), (s1, .inl (cI, 240, .inl (upd S1 (6 * t + v) (SB v)))), (s2, .inl (cI, 240, .inl C1)), (s3, .inl (cZ, 40, .inl W1)), (s4, .inl (cI, 6, .inl SB)), (s5, .inl (cI, 6, .inl CB)), (h0, .inr (1, [.ref q1, .ref q2, .ref q3, .ref q4, .int (nI n)]))] H := hP
          have hD : va_D A [(a0, .inr (0, [.ref s1, .ref s2, .ref s3, .ref s4, .ref s5, .int res])), (s1, .inl (cI, 240, .inl (upd S1 (6 * t + v) (SB v)))), (s2, .inl (cI, 240, .inl C1)), (s3, .inl (cZ, 40, .inl W1)), (s4, .inl (cI, 6, .inl SB)), (s5, .inl (cI, 6, .inl CB)), (h0, .inr (1, [.ref q1, .ref q2, .ref q3, .ref q4, .int (nI n)]))] := hD
          refine lv_aload_n hx hb de_A_comeTo_47 rfl (lv_at hl 2 rfl) ?_
          refine va_get (D := (dC, dI)) (ci := 0) (v := .ref s2) (C := rc_A) (T := fc_A) (N := 6) hx hb htw wi_A hown hK hP 0 rfl rfl 1 (by decide) (htw _ wm_46) (fun _ h9 => h9) rfl de_A_comeTo_48 ?_
          refine lv_iload hx hb de_A_comeTo_51 (lv_at hl 0 rfl) ?_
          refine lv_aload_n hx hb de_A_comeTo_53 rfl (lv_at hl 2 rfl) ?_
          refine va_get (D := (dC, dI)) (ci := 0) (v := .ref s5) (C := rc_A) (T := fc_A) (N := 6) hx hb htw wi_A hown hK hP 0 rfl rfl 4 (by decide) (htw _ wm_49) (fun _ h9 => h9) rfl de_A_comeTo_54 ?_
          refine lv_iload_n hx hb de_A_comeTo_57 rfl (lv_at hl 1 rfl) ?_
          refine bc_ild (j := v) hx hb hK hP 5 0 rfl rfl (by omega) (by decide) de_A_comeTo_58 ?_
          refine bc_ist (j := 6 * t + v) hx hb hK hP hD hS 2 0 rfl rfl (by omega) (by decide) de_A_comeTo_59 (fun H locs hP hD hS => ?_)
          have hP : va_P (dC, dI) classes [(a0, .inr (0, [.ref s1, .ref s2, .ref s3, .ref s4, .ref s5, .int res])), (s1, .inl (cI, 240, .inl (upd S1 (6 * t + v) (SB v)))), (s2, .inl (cI, 240, .inl (upd C1 (6 * t + v) (CB v)))), (s3, .inl (cZ, 40, .inl W1)), (s4, .inl (cI, 6, .inl SB)), (s5, .inl (cI, 6, .inl CB)), (h0, .inr (1, [.ref q1, .ref q2, .ref q3, .ref q4, .int (nI n)]))] H := hP
          have hD : va_D A [(a0, .inr (0, [.ref s1, .ref s2, .ref s3, .ref s4, .ref s5, .int res])), (s1, .inl (cI, 240, .inl (upd S1 (6 * t + v) (SB v)))), (s2, .inl (cI, 240, .inl (upd C1 (6 * t + v) (CB v)))), (s3, .inl (cZ, 40, .inl W1)), (s4, .inl (cI, 6, .inl SB)), (s5, .inl (cI, 6, .inl CB)), (h0, .inr (1, [.ref q1, .ref q2, .ref q3, .ref q4, .int (nI n)]))] := hD
          refine lv_aload_n hx hb de_A_comeTo_60 rfl (lv_at hl 2 rfl) ?_
          refine va_get (D := (dC, dI)) (ci := 0) (v := .ref s3) (C := rc_A) (T := fc_A) (N := 6) hx hb htw wi_A hown hK hP 0 rfl rfl 2 (by decide) (htw _ wm_47) (fun _ h9 => h9) rfl de_A_comeTo_61 ?_
          refine lv_iload_n hx hb de_A_comeTo_64 rfl (lv_at hl 4 rfl) ?_
          refine lv_iconst (v := 1) hx hb de_A_comeTo_65 (by decide) ?_
          refine bc_zst (j := t) hx hb hK hP hD hS 3 1 rfl rfl (by decide) (by omega) (by decide) de_A_comeTo_66 (fun H locs hP hD hS => ?_)
          have hP : va_P (dC, dI) classes [(a0, .inr (0, [.ref s1, .ref s2, .ref s3, .ref s4, .ref s5, .int res])), (s1, .inl (cI, 240, .inl (upd S1 (6 * t + v) (SB v)))), (s2, .inl (cI, 240, .inl (upd C1 (6 * t + v) (CB v)))), (s3, .inl (cZ, 40, .inl (upd W1 t 1))), (s4, .inl (cI, 6, .inl SB)), (s5, .inl (cI, 6, .inl CB)), (h0, .inr (1, [.ref q1, .ref q2, .ref q3, .ref q4, .int (nI n)]))] H := hP
          have hD : va_D A [(a0, .inr (0, [.ref s1, .ref s2, .ref s3, .ref s4, .ref s5, .int res])), (s1, .inl (cI, 240, .inl (upd S1 (6 * t + v) (SB v)))), (s2, .inl (cI, 240, .inl (upd C1 (6 * t + v) (CB v)))), (s3, .inl (cZ, 40, .inl (upd W1 t 1))), (s4, .inl (cI, 6, .inl SB)), (s5, .inl (cI, 6, .inl CB)), (h0, .inr (1, [.ref q1, .ref q2, .ref q3, .ref q4, .int (nI n)]))] := hD
          refine lv_goto (tgt := 119) hx hb de_A_comeTo_67 (by decide) ?_
          refine lv_iinc (k := 1) (v := nI (v + 1)) (lv' := [(3, .int (nI (v + 1))), (4, .int (nI (6 * t + v))), (0, .ref a0), (1, .ref h0), (2, .int (nI t))]) hx hb de_A_comeTo_119 hl rfl (bc_inc _) (by decide) rfl (fun ls hl => ?_)
          refine lv_goto (tgt := 11) hx hb de_A_comeTo_122 (by decide) ?_
          exact ih_11 _ _ _ _ (by omega) ⟨(v + 1), upd S1 (6 * t + v) (SB v), upd C1 (6 * t + v) (CB v), upd W1 t 1, lv_sub hl [0, 2, 3, 4] rfl, hP, hD, hS, rfl, (by omega), (bc_ctA hep (by omega) (by omega) hc_31 her hwv).1, (bc_ctA hep (by omega) (by omega) hc_31 her hwv).2⟩
    · exact ⟨_, 0, S, C, Wt, lv_sub hl [0, 1, 2, 3] rfl, hP, hD, hS, rfl, Nat.zero_le _, bc_ep_0 hen, bc_wv_0 _ _ _ _⟩
  · have hge : ¬ t < n := fun z => hc_5 ((nI_ltI ht (by omega)).mpr z)
    exact bc_vret F hr hlocks ((S, C, Wt)) ⟨by rw [bc_come_out hge]; exact hen, fun _ _ => rfl, fun z => absurd z hge, fun _ => rfl⟩ hP hD hS de_A_comeTo_8

set_option maxHeartbeats 4000000 in
set_option maxRecDepth 100000 in
/-- on from a ZERO -/
theorem co_A_goOnFromZero {l : Launch} {dC : Nat → ClassId} {dI : Nat → Nat → Nat} {cI cZ : ClassId} {sz : Nat} {a0 s1 s2 s3 s4 s5 : Nat} {S C Wt SB CB : bc_F} {res : Int32}{h0 q1 q2 q3 q4 n : Nat} {K O T Z : bc_F}{i : Nat} {g : bc_G} {rr : bc_R} (hn : n ≤ 40) (hi : i < n) (hw : bc_wf n K O T Z) (h5 : K i = 5) (hen : bc_en S C g) (hg : g i = some rr) (her : bc_er SB CB rr) : Met l yn_A_goOnFromZero (Cond.code yn_A_goOnFromZero by_A_goOnFromZero 3 none :: wd_all) ({ frames := 2, cells := 0, slots := 0, locals := 46 } : Room) (bc_Pre (dC, dI) classes [(cI, .int), (cZ, .boolean)] [.ref a0, .ref h0, .int (nI i)] [(a0, .inr (0, [.ref s1, .ref s2, .ref s3, .ref s4, .ref s5, .int res])), (s1, .inl (cI, 240, .inl S)), (s2, .inl (cI, 240, .inl C)), (s3, .inl (cZ, 40, .inl Wt)), (s4, .inl (cI, 6, .inl SB)), (s5, .inl (cI, 6, .inl CB)), (h0, .inr (1, [.ref q1, .ref q2, .ref q3, .ref q4, .int (nI n)])), (q1, .inl (cI, 40, .inl K)), (q2, .inl (cI, 40, .inl O)), (q3, .inl (cI, 40, .inl T)), (q4, .inl (cI, 40, .inl Z))] sz) (va_Qv (fun (u : bc_F × bc_F × bc_F × bc_F × bc_F) => ∃ g', bc_en u.1 u.2.1 g' ∧ bc_run n (bc_out K O T Z i rr) g Wt g' u.2.2.1) (fun (u : bc_F × bc_F × bc_F × bc_F × bc_F) t => bc_B (dC, dI) classes [(cI, .int), (cZ, .boolean)] (va_A [(a0, .inr (0, [.ref s1, .ref s2, .ref s3, .ref s4, .ref s5, .int res])), (s1, .inl (cI, 240, .inl S)), (s2, .inl (cI, 240, .inl C)), (s3, .inl (cZ, 40, .inl Wt)), (s4, .inl (cI, 6, .inl SB)), (s5, .inl (cI, 6, .inl CB)), (h0, .inr (1, [.ref q1, .ref q2, .ref q3, .ref q4, .int (nI n)])), (q1, .inl (cI, 40, .inl K)), (q2, .inl (cI, 40, .inl O)), (q3, .inl (cI, 40, .inl T)), (q4, .inl (cI, 40, .inl Z))] sz) [(a0, .inr (0, [.ref s1, .ref s2, .ref s3, .ref s4, .ref s5, .int res])), (s1, .inl (cI, 240, .inl u.1)), (s2, .inl (cI, 240, .inl u.2.1)), (s3, .inl (cZ, 40, .inl u.2.2.1)), (s4, .inl (cI, 6, .inl u.2.2.2.1)), (s5, .inl (cI, 6, .inl u.2.2.2.2)), (h0, .inr (1, [.ref q1, .ref q2, .ref q3, .ref q4, .int (nI n)])), (q1, .inl (cI, 40, .inl K)), (q2, .inl (cI, 40, .inl O)), (q3, .inl (cI, 40, .inl T)), (q4, .inl (cI, 40, .inl Z))] t) ((va_A [(a0, .inr (0, [.ref s1, .ref s2, .ref s3, .ref s4, .ref s5, .int res])), (s1, .inl (cI, 240, .inl S)), (s2, .inl (cI, 240, .inl C)), (s3, .inl (cZ, 40, .inl Wt)), (s4, .inl (cI, 6, .inl SB)), (s5, .inl (cI, 6, .inl CB)), (h0, .inr (1, [.ref q1, .ref q2, .ref q3, .ref q4, .int (nI n)])), (q1, .inl (cI, 40, .inl K)), (q2, .inl (cI, 40, .inl O)), (q3, .inl (cI, 40, .inl T)), (q4, .inl (cI, 40, .inl Z))] sz))) 0 0 (va_A [(a0, .inr (0, [.ref s1, .ref s2, .ref s3, .ref s4, .ref s5, .int res])), (s1, .inl (cI, 240, .inl S)), (s2, .inl (cI, 240, .inl C)), (s3, .inl (cZ, 40, .inl Wt)), (s4, .inl (cI, 6, .inl SB)), (s5, .inl (cI, 6, .inl CB)), (h0, .inr (1, [.ref q1, .ref q2, .ref q3, .ref q4, .int (nI n)])), (q1, .inl (cI, 40, .inl K)), (q2, .inl (cI, 40, .inl O)), (q3, .inl (cI, 40, .inl T)), (q4, .inl (cI, 40, .inl Z))] sz) := by
  refine bc_met (fun A => va_Qv (fun (u : bc_F × bc_F × bc_F × bc_F × bc_F) => ∃ g', bc_en u.1 u.2.1 g' ∧ bc_run n (bc_out K O T Z i rr) g Wt g' u.2.2.1) (fun (u : bc_F × bc_F × bc_F × bc_F × bc_F) t => bc_B (dC, dI) classes [(cI, .int), (cZ, .boolean)] A [(a0, .inr (0, [.ref s1, .ref s2, .ref s3, .ref s4, .ref s5, .int res])), (s1, .inl (cI, 240, .inl u.1)), (s2, .inl (cI, 240, .inl u.2.1)), (s3, .inl (cZ, 40, .inl u.2.2.1)), (s4, .inl (cI, 6, .inl u.2.2.2.1)), (s5, .inl (cI, 6, .inl u.2.2.2.2)), (h0, .inr (1, [.ref q1, .ref q2, .ref q3, .ref q4, .int (nI n)])), (q1, .inl (cI, 40, .inl K)), (q2, .inl (cI, 40, .inl O)), (q3, .inl (cI, 40, .inl T)), (q4, .inl (cI, 40, .inl Z))] t) A) (by decide) (Nat.le_of_ble_eq_true rfl) ?_
  intro p e s m args below meth c A ls F hr hlocks hin hA hP hD hl hS
  have hx := F.1
  have hb := F.2.1
  have hml := F.2.2.1
  have hown : s.vm.findClass "BranchConstants$Analysis" = some m.cls := F.2.2.2.1
  have htw := F.2.2.2.2.1
  have hN := F.2.2.2.2.2.1
  have hK := F.2.2.2.2.2.2
  have hl : lv_has ls 3 [(0, .ref a0), (1, .ref h0), (2, .int (nI i))] := hl
  obtain ⟨⟨o, ho, eO⟩, htr⟩ := bc_wi_5 (hw i hi) h5
  have hrow := bc_row hen (by omega) hg
  refine lv_aload_n hx hb de_A_goOnFromZero_0 rfl (lv_at hl 0 rfl) ?_
  refine lv_aload_n hx hb de_A_goOnFromZero_1 rfl (lv_at hl 1 rfl) ?_
  refine lv_iload_n hx hb de_A_goOnFromZero_2 rfl (lv_at hl 2 rfl) ?_
  refine bc_call_v_i (As := [.ref h0, .int (nI i)]) (rest := []) (wr := []) F (co_A_hasConstantTest (by omega) eO ho) wm_160 wm_3 wm_158 wm_159 wm_603 0 rfl rfl pd_A_hasConstantTest rfl rfl ⟨Nat.le_of_ble_eq_true rfl, Nat.le_of_ble_eq_true rfl⟩ hP hD hS hA [0, 1, 2, 3, 4, 5, 6, 7, 8, 9, 10] [] rfl rfl rfl rfl (by decide) rfl hl.1 rfl (Nat.le_of_ble_eq_true rfl) de_A_goOnFromZero_3 ⟨Nat.le_of_ble_eq_true rfl, Nat.le_of_ble_eq_true rfl⟩ (fun r_3 u_3 H locs hw_3 hP hD hS => ?_)
  have hP : va_P (dC, dI) classes [(a0, .inr (0, [.ref s1, .ref s2, .ref s3, .ref s4, .ref s5, .int res])), (s1, .inl (cI, 240, .inl S)), (s2, .inl (cI, 240, .inl C)), (s3, .inl (cZ, 40, .inl Wt)), (s4, .inl (cI, 6, .inl SB)), (s5, .inl (cI, 6, .inl CB)), (h0, .inr (1, [.ref q1, .ref q2, .ref q3, .ref q4, .int (nI n)])), (q1, .inl (cI, 40, .inl K)), (q2, .inl (cI, 40, .inl O)), (q3, .inl (cI, 40, .inl T)), (q4, .inl (cI, 40, .inl Z))] H := hP.sub [0, 1, 2, 3, 4, 5, 6, 7, 8, 9, 10] rfl
  have hD : va_D A [(a0, .inr (0, [.ref s1, .ref s2, .ref s3, .ref s4, .ref s5, .int res])), (s1, .inl (cI, 240, .inl S)), (s2, .inl (cI, 240, .inl C)), (s3, .inl (cZ, 40, .inl Wt)), (s4, .inl (cI, 6, .inl SB)), (s5, .inl (cI, 6, .inl CB)), (h0, .inr (1, [.ref q1, .ref q2, .ref q3, .ref q4, .int (nI n)])), (q1, .inl (cI, 40, .inl K)), (q2, .inl (cI, 40, .inl O)), (q3, .inl (cI, 40, .inl T)), (q4, .inl (cI, 40, .inl Z))] := hD.sub [0, 1, 2, 3, 4, 5, 6, 7, 8, 9, 10] (by decide) rfl
  rcases hw_3 with ⟨he_3, hv_3⟩ | ⟨he_3, hv_3⟩
  · subst he_3
    refine lv_if_eq (tgt := 23) hx hb de_A_goOnFromZero_6 (by decide) (fun hc => absurd hc (by decide)) (fun _ => ?_)
    refine lv_aload_n hx hb de_A_goOnFromZero_9 rfl (lv_at hl 0 rfl) ?_
    refine lv_aload_n hx hb de_A_goOnFromZero_10 rfl (lv_at hl 1 rfl) ?_
    refine lv_aload_n hx hb de_A_goOnFromZero_11 rfl (lv_at hl 0 rfl) ?_
    refine lv_aload_n hx hb de_A_goOnFromZero_12 rfl (lv_at hl 1 rfl) ?_
    refine lv_iload_n hx hb de_A_goOnFromZero_13 rfl (lv_at hl 2 rfl) ?_
    refine bc_call_v_i (As := [.ref h0, .int (nI i)]) (rest := [.ref h0, .ref a0]) (wr := []) F (co_A_wayOfConstantTest (by omega) hn eO ho htr) wm_163 wm_3 wm_161 wm_162 wm_604 0 rfl rfl pd_A_wayOfConstantTest rfl rfl ⟨Nat.le_of_ble_eq_true rfl, Nat.le_of_ble_eq_true rfl⟩ hP hD hS hA [0, 1, 2, 3, 4, 5, 6, 7, 8, 9, 10] [] rfl rfl rfl rfl (by decide) rfl hl.1 rfl (Nat.le_of_ble_eq_true rfl) de_A_goOnFromZero_14 ⟨Nat.le_of_ble_eq_true rfl, Nat.le_of_ble_eq_true rfl⟩ (fun r_14 u_14 H locs hw_14 hP hD hS => ?_)
    obtain ⟨tw, he_14, hb_14, hq_14⟩ := bc_way (by omega) hn hw_14
    subst he_14
    have hP : va_P (dC, dI) classes [(a0, .inr (0, [.ref s1, .ref s2, .ref s3, .ref s4, .ref s5, .int res])), (s1, .inl (cI, 240, .inl S)), (s2, .inl (cI, 240, .inl C)), (s3, .inl (cZ, 40, .inl Wt)), (s4, .inl (cI, 6, .inl SB)), (s5, .inl (cI, 6, .inl CB)), (h0, .inr (1, [.ref q1, .ref q2, .ref q3, .ref q4, .int (nI n)])), (q1, .inl (cI, 40, .inl K)), (q2, .inl (cI, 40, .inl O)), (q3, .inl (cI, 40, .inl T)), (q4, .inl (cI, 40, .inl Z))] H := hP.sub [0, 1, 2, 3, 4, 5, 6, 7, 8, 9, 10] rfl
    have hD : va_D A [(a0, .inr (0, [.ref s1, .ref s2, .ref s3, .ref s4, .ref s5, .int res])), (s1, .inl (cI, 240, .inl S)), (s2, .inl (cI, 240, .inl C)), (s3, .inl (cZ, 40, .inl Wt)), (s4, .inl (cI, 6, .inl SB)), (s5, .inl (cI, 6, .inl CB)), (h0, .inr (1, [.ref q1, .ref q2, .ref q3, .ref q4, .int (nI n)])), (q1, .inl (cI, 40, .inl K)), (q2, .inl (cI, 40, .inl O)), (q3, .inl (cI, 40, .inl T)), (q4, .inl (cI, 40, .inl Z))] := hD.sub [0, 1, 2, 3, 4, 5, 6, 7, 8, 9, 10] (by decide) rfl
    refine bc_call_v_v (As := [.ref h0, .int (nI tw)]) (rest := []) (wr := [(q1, .inl (cI, 40, .inl K)), (q2, .inl (cI, 40, .inl O)), (q3, .inl (cI, 40, .inl T)), (q4, .inl (cI, 40, .inl Z))]) F (co_A_comeTo hn hb_14 hen her) wm_125 wm_3 wm_123 wm_124 wm_593 0 rfl rfl pd_A_comeTo rfl rfl ⟨Nat.le_of_ble_eq_true rfl, Nat.le_of_ble_eq_true rfl⟩ hP hD hS hA [0, 1, 2, 3, 4, 5, 6] [7, 8, 9, 10] rfl rfl rfl rfl (by decide) rfl hl.1 rfl (Nat.le_of_ble_eq_true rfl) de_A_goOnFromZero_17 ⟨Nat.le_of_ble_eq_true rfl, Nat.le_of_ble_eq_true rfl⟩ (fun u_17 H locs hw_17 hP hD hS => ?_)
    obtain ⟨S1, C1, W1⟩ := u_17
    dsimp only at hw_17
    obtain ⟨hen1, hwr1⟩ := hw_17
    have hP : va_P (dC, dI) classes [(a0, .inr (0, [.ref s1, .ref s2, .ref s3, .ref s4, .ref s5, .int res])), (s1, .inl (cI, 240, .inl S1)), (s2, .inl (cI, 240, .inl C1)), (s3, .inl (cZ, 40, .inl W1)), (s4, .inl (cI, 6, .inl SB)), (s5, .inl (cI, 6, .inl CB)), (h0, .inr (1, [.ref q1, .ref q2, .ref q3, .ref q4, .int (nI n)])), (q1, .inl (cI, 40, .inl K)), (q2, .inl (cI, 40, .inl O)), (q3, .inl (cI, 40, .inl T)), (q4, .inl (cI, 40, .inl Z))] H := hP.sub [4, 5, 6, 7, 8, 9, 10, 0, 1, 2, 3] rfl
    have hD : va_D A [(a0, .inr (0, [.ref s1, .ref s2, .ref s3, .ref s4, .ref s5, .int res])), (s1, .inl (cI, 240, .inl S1)), (s2, .inl (cI, 240, .inl C1)), (s3, .inl (cZ, 40, .inl W1)), (s4, .inl (cI, 6, .inl SB)), (s5, .inl (cI, 6, .inl CB)), (h0, .inr (1, [.ref q1, .ref q2, .ref q3, .ref q4, .int (nI n)])), (q1, .inl (cI, 40, .inl K)), (q2, .inl (cI, 40, .inl O)), (q3, .inl (cI, 40, .inl T)), (q4, .inl (cI, 40, .inl Z))] := hD.sub [4, 5, 6, 7, 8, 9, 10, 0, 1, 2, 3] (by decide) rfl
    refine lv_goto (tgt := 52) hx hb de_A_goOnFromZero_20 (by decide) ?_
    exact bc_vret F hr hlocks ((S1, C1, W1, SB, CB)) ⟨_, hen1, bc_zero_end h5 eO ho hrow hv_3 hq_14 hwr1⟩ hP hD hS de_A_goOnFromZero_52
  · subst he_3
    refine lv_if_eq (tgt := 23) hx hb de_A_goOnFromZero_6 (by decide) (fun _ => ?_) (fun hc => absurd (by decide) hc)
    refine lv_aload_n hx hb de_A_goOnFromZero_23 rfl (lv_at hl 0 rfl) ?_
    refine lv_aload_n hx hb de_A_goOnFromZero_24 rfl (lv_at hl 1 rfl) ?_
    refine lv_iload_n hx hb de_A_goOnFromZero_25 rfl (lv_at hl 2 rfl) ?_
    refine lv_iconst (v := 1) hx hb de_A_goOnFromZero_26 (by decide) ?_
    refine lv_iadd hx hb de_A_goOnFromZero_27 ?_
    refine bc_ti (y := nI (i + 1)) (nI_1 i) ?_
    refine bc_call_v_v (As := [.ref h0, .int (nI (i + 1))]) (rest := []) (wr := [(q1, .inl (cI, 40, .inl K)), (q2, .inl (cI, 40, .inl O)), (q3, .inl (cI, 40, .inl T)), (q4, .inl (cI, 40, .inl Z))]) F (co_A_comeTo hn (by omega) hen her) wm_125 wm_3 wm_123 wm_124 wm_593 0 rfl rfl pd_A_comeTo rfl rfl ⟨Nat.le_of_ble_eq_true rfl, Nat.le_of_ble_eq_true rfl⟩ hP hD hS hA [0, 1, 2, 3, 4, 5, 6] [7, 8, 9, 10] rfl rfl rfl rfl (by decide) rfl hl.1 rfl (Nat.le_of_ble_eq_true rfl) de_A_goOnFromZero_28 ⟨Nat.le_of_ble_eq_true rfl, Nat.le_of_ble_eq_true rfl⟩ (fun u_28 H locs hw_28 hP hD hS => ?_)
    obtain ⟨S1, C1, W1⟩ := u_28
    dsimp only at hw_28
    obtain ⟨hen1, hwr1⟩ := hw_28
    have hP : va_P (dC, dI) classes [(a0, .inr (0, [.ref s1, .ref s2, .ref s3, .ref s4, .ref s5, .int res])), (s1, .inl (cI, 240, .inl S1)), (s2, .inl (cI, 240, .inl C1)), (s3, .inl (cZ, 40, .inl W1)), (s4, .inl (cI, 6, .inl SB)), (s5, .inl (cI, 6, .inl CB)), (h0, .inr (1, [.ref q1, .ref q2, .ref q3, .ref q4, .int (nI n)])), (q1, .inl (cI, 40, .inl K)), (q2, .inl (cI, 40, .inl O)), (q3, .inl (cI, 40, .inl T)), (q4, .inl (cI, 40, .inl Z))] H := hP.sub [4, 5, 6, 7, 8, 9, 10, 0, 1, 2, 3] rfl
    have hD : va_D A [(a0, .inr (0, [.ref s1, .ref s2, .ref s3, .ref s4, .ref s5, .int res])), (s1, .inl (cI, 240, .inl S1)), (s2, .inl (cI, 240, .inl C1)), (s3, .inl (cZ, 40, .inl W1)), (s4, .inl (cI, 6, .inl SB)), (s5, .inl (cI, 6, .inl CB)), (h0, .inr (1, [.ref q1, .ref q2, .ref q3, .ref q4, .int (nI n)])), (q1, .inl (cI, 40, .inl K)), (q2, .inl (cI, 40, .inl O)), (q3, .inl (cI, 40, .inl T)), (q4, .inl (cI, 40, .inl Z))] := hD.sub [4, 5, 6, 7, 8, 9, 10, 0, 1, 2, 3] (by decide) rfl
    refine lv_aload_n hx hb de_A_goOnFromZero_31 rfl (lv_at hl 0 rfl) ?_
    refine lv_aload_n hx hb de_A_goOnFromZero_32 rfl (lv_at hl 1 rfl) ?_
    refine va_getN (D := (dC, dI)) (ci := 1) (v := .ref q2) (C := rc_C) (T := fc_C) (N := 5) hx hb htw wi_C hown hK hP 6 rfl rfl 1 (by decide) (va_Nw.use rfl (hN _ nm_5)) (fun _ h9 => h9) rfl de_A_goOnFromZero_33 ?_
    refine lv_iload_n hx hb de_A_goOnFromZero_36 rfl (lv_at hl 2 rfl) ?_
    refine bc_ild (j := i) hx hb hK hP 8 0 rfl rfl (by omega) (by decide) de_A_goOnFromZero_37 ?_
    refine bc_ti (y := nI o) eO ?_
    refine lv_iconst (v := 0) hx hb de_A_goOnFromZero_38 (by decide) ?_
    refine bc_call_v_v (As := [.int (nI o), .int 0]) (rest := []) (wr := [(h0, .inr (1, [.ref q1, .ref q2, .ref q3, .ref q4, .int (nI n)])), (q1, .inl (cI, 40, .inl K)), (q2, .inl (cI, 40, .inl O)), (q3, .inl (cI, 40, .inl T)), (q4, .inl (cI, 40, .inl Z))]) F (co_A_setConstantBehind ho) wm_149 wm_3 wm_147 wm_148 wm_599 0 rfl rfl pd_A_setConstantBehind rfl rfl ⟨Nat.le_of_ble_eq_true rfl, Nat.le_of_ble_eq_true rfl⟩ hP hD hS hA [0, 1, 2, 3, 4, 5] [6, 7, 8, 9, 10] rfl rfl rfl rfl (by decide) rfl hl.1 rfl (Nat.le_of_ble_eq_true rfl) de_A_goOnFromZero_39 ⟨Nat.le_of_ble_eq_true rfl, Nat.le_of_ble_eq_true rfl⟩ (fun u_39 H locs hw_39 hP hD hS => ?_)
    subst hw_39
    have hP : va_P (dC, dI) classes [(a0, .inr (0, [.ref s1, .ref s2, .ref s3, .ref s4, .ref s5, .int res])), (s1, .inl (cI, 240, .inl S1)), (s2, .inl (cI, 240, .inl C1)), (s3, .inl (cZ, 40, .inl W1)), (s4, .inl (cI, 6, .inl (upd SB o 2))), (s5, .inl (cI, 6, .inl (upd CB o 0))), (h0, .inr (1, [.ref q1, .ref q2, .ref q3, .ref q4, .int (nI n)])), (q1, .inl (cI, 40, .inl K)), (q2, .inl (cI, 40, .inl O)), (q3, .inl (cI, 40, .inl T)), (q4, .inl (cI, 40, .inl Z))] H := hP.sub [5, 6, 7, 8, 9, 10, 0, 1, 2, 3, 4] rfl
    have hD : va_D A [(a0, .inr (0, [.ref s1, .ref s2, .ref s3, .ref s4, .ref s5, .int res])), (s1, .inl (cI, 240, .inl S1)), (s2, .inl (cI, 240, .inl C1)), (s3, .inl (cZ, 40, .inl W1)), (s4, .inl (cI, 6, .inl (upd SB o 2))), (s5, .inl (cI, 6, .inl (upd CB o 0))), (h0, .inr (1, [.ref q1, .ref q2, .ref q3, .ref q4, .int (nI n)])), (q1, .inl (cI, 40, .inl K)), (q2, .inl (cI, 40, .inl O)), (q3, .inl (cI, 40, .inl T)), (q4, .inl (cI, 40, .inl Z))] := hD.sub [5, 6, 7, 8, 9, 10, 0, 1, 2, 3, 4] (by decide) rfl
    refine lv_aload_n hx hb de_A_goOnFromZero_42 rfl (lv_at hl 0 rfl) ?_
    refine lv_aload_n hx hb de_A_goOnFromZero_43 rfl (lv_at hl 1 rfl) ?_
    refine lv_aload_n hx hb de_A_goOnFromZero_44 rfl (lv_at hl 1 rfl) ?_
    refine lv_iload_n hx hb de_A_goOnFromZero_45 rfl (lv_at hl 2 rfl) ?_
    refine bc_call_nv_i (As := [.int (nI i)]) (rest := [.ref h0, .ref a0]) (wr := [(a0, .inr (0, [.ref s1, .ref s2, .ref s3, .ref s4, .ref s5, .int res])), (s1, .inl (cI, 240, .inl S1)), (s2, .inl (cI, 240, .inl C1)), (s3, .inl (cZ, 40, .inl W1)), (s4, .inl (cI, 6, .inl (upd SB o 2))), (s5, .inl (cI, 6, .inl (upd CB o 0)))]) F (co_C_target (by omega) hn htr) wm_154 wm_2 nm_31 wm_153 wm_601 6 rfl rfl pd_C_target rfl rfl ⟨Nat.le_of_ble_eq_true rfl, Nat.le_of_ble_eq_true rfl⟩ hP hD hS hA [6, 7, 8, 9, 10] [0, 1, 2, 3, 4, 5] rfl rfl rfl rfl (by decide) rfl hl.1 rfl (Nat.le_of_ble_eq_true rfl) de_A_goOnFromZero_46 ⟨Nat.le_of_ble_eq_true rfl, Nat.le_of_ble_eq_true rfl⟩ (fun r_46 u_46 H locs hw_46 hP hD hS => ?_)
    have hP : va_P (dC, dI) classes [(a0, .inr (0, [.ref s1, .ref s2, .ref s3, .ref s4, .ref s5, .int res])), (s1, .inl (cI, 240, .inl S1)), (s2, .inl (cI, 240, .inl C1)), (s3, .inl (cZ, 40, .inl W1)), (s4, .inl (cI, 6, .inl (upd SB o 2))), (s5, .inl (cI, 6, .inl (upd CB o 0))), (h0, .inr (1, [.ref q1, .ref q2, .ref q3, .ref q4, .int (nI n)])), (q1, .inl (cI, 40, .inl K)), (q2, .inl (cI, 40, .inl O)), (q3, .inl (cI, 40, .inl T)), (q4, .inl (cI, 40, .inl Z))] H := hP.sub [0, 1, 2, 3, 4, 5, 6, 7, 8, 9, 10] rfl
    have hD : va_D A [(a0, .inr (0, [.ref s1, .ref s2, .ref s3, .ref s4, .ref s5, .int res])), (s1, .inl (cI, 240, .inl S1)), (s2, .inl (cI, 240, .inl C1)), (s3, .inl (cZ, 40, .inl W1)), (s4, .inl (cI, 6, .inl (upd SB o 2))), (s5, .inl (cI, 6, .inl (upd CB o 0))), (h0, .inr (1, [.ref q1, .ref q2, .ref q3, .ref q4, .int (nI n)])), (q1, .inl (cI, 40, .inl K)), (q2, .inl (cI, 40, .inl O)), (q3, .inl (cI, 40, .inl T)), (q4, .inl (cI, 40, .inl Z))] := hD.sub [0, 1, 2, 3, 4, 5, 6, 7, 8, 9, 10] (by decide) rfl
    subst hw_46
    refine bc_call_v_v (As := [.ref h0, .int (nI (bc_tn n (T i)))]) (rest := []) (wr := [(q1, .inl (cI, 40, .inl K)), (q2, .inl (cI, 40, .inl O)), (q3, .inl (cI, 40, .inl T)), (q4, .inl (cI, 40, .inl Z))]) F (co_A_comeTo hn (by have := bc_tn_le n (T i); omega) hen1 (bc_er_up (x := some 0) her rfl rfl)) wm_125 wm_3 wm_123 wm_124 wm_593 0 rfl rfl pd_A_comeTo rfl rfl ⟨Nat.le_of_ble_eq_true rfl, Nat.le_of_ble_eq_true rfl⟩ hP hD hS hA [0, 1, 2, 3, 4, 5, 6] [7, 8, 9, 10] rfl rfl rfl rfl (by decide) rfl hl.1 rfl (Nat.le_of_ble_eq_true rfl) de_A_goOnFromZero_49 ⟨Nat.le_of_ble_eq_true rfl, Nat.le_of_ble_eq_true rfl⟩ (fun u_49 H locs hw_49 hP hD hS => ?_)
    obtain ⟨S2, C2, W2⟩ := u_49
    dsimp only at hw_49
    obtain ⟨hen2, hwr2⟩ := hw_49
    have hP : va_P (dC, dI) classes [(a0, .inr (0, [.ref s1, .ref s2, .ref s3, .ref s4, .ref s5, .int res])), (s1, .inl (cI, 240, .inl S2)), (s2, .inl (cI, 240, .inl C2)), (s3, .inl (cZ, 40, .inl W2)), (s4, .inl (cI, 6, .inl (upd SB o 2))), (s5, .inl (cI, 6, .inl (upd CB o 0))), (h0, .inr (1, [.ref q1, .ref q2, .ref q3, .ref q4, .int (nI n)])), (q1, .inl (cI, 40, .inl K)), (q2, .inl (cI, 40, .inl O)), (q3, .inl (cI, 40, .inl T)), (q4, .inl (cI, 40, .inl Z))] H := hP.sub [4, 5, 6, 7, 8, 9, 10, 0, 1, 2, 3] rfl
    have hD : va_D A [(a0, .inr (0, [.ref s1, .ref s2, .ref s3, .ref s4, .ref s5, .int res])), (s1, .inl (cI, 240, .inl S2)), (s2, .inl (cI, 240, .inl C2)), (s3, .inl (cZ, 40, .inl W2)), (s4, .inl (cI, 6, .inl (upd SB o 2))), (s5, .inl (cI, 6, .inl (upd CB o 0))), (h0, .inr (1, [.ref q1, .ref q2, .ref q3, .ref q4, .int (nI n)])), (q1, .inl (cI, 40, .inl K)), (q2, .inl (cI, 40, .inl O)), (q3, .inl (cI, 40, .inl T)), (q4, .inl (cI, 40, .inl Z))] := hD.sub [4, 5, 6, 7, 8, 9, 10, 0, 1, 2, 3] (by decide) rfl
    exact bc_vret F hr hlocks ((S2, C2, W2, upd SB o 2, upd CB o 0)) ⟨_, hen2, by rw [bc_out_5v h5 eO ho (bc_s0_n2 (by rw [← (hrow o ho).1]; exact hv_3))]; exact bc_run_2 hwr1 hwr2⟩ hP hD hS de_A_goOnFromZero_52

