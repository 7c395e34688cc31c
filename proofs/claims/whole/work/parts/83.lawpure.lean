/-! the law: what the reference answers, and what follows (by program: wip/whole/gen/modLaw.py) -/
def lm_add (k0 : lz_C) (r9 : lz_M) (k : Int32) (o : Int32) (t : Int32) (z : Int32) (r : Int32) (u : Int32 × Int32 × bc_F × bc_F × bc_F × bc_F × bc_F × bc_F) : Prop := (¬ bc_si k o t z ∧ u.1 = 1 ∧ bc_MR k0.n k0.P k0.ra k0.n2 k0.Q (bc_2 k0.on0 k0.on1) (bc_2 k0.pl0 k0.pl1) (bc_2 k0.sp0 k0.sp1) (bc_X2 k0.X0 k0.X1) u.2.2.1 u.2.2.2.1 u.2.2.2.2.1 u.2.2.2.2.2.1 u.2.2.2.2.2.2.1 u.2.2.2.2.2.2.2 r9.Pl r9.Sp r9.Vr u.2.1) ∨ (bc_si k o t z ∧ k0.n = 40 ∧ u.1 = 2 ∧ bc_MR k0.n k0.P k0.ra k0.n2 k0.Q (bc_2 k0.on0 k0.on1) (bc_2 k0.pl0 k0.pl1) (bc_2 k0.sp0 k0.sp1) (bc_X2 k0.X0 k0.X1) u.2.2.1 u.2.2.2.1 u.2.2.2.2.1 u.2.2.2.2.2.1 u.2.2.2.2.2.2.1 u.2.2.2.2.2.2.2 r9.Pl r9.Sp r9.Vr u.2.1) ∨ (bc_si k o t z ∧ k0.n < 40 ∧ u.1 = 0 ∧ r = nI (k0.n + 1) ∧ bc_MR (k0.n + 1) (bc_pu k0.P k0.n k o t z) 0 k0.n2 k0.Q (fun _ => 0) (bc_2 k0.pl0 k0.pl1) (bc_2 k0.sp0 k0.sp1) (bc_X2 k0.X0 k0.X1) u.2.2.1 u.2.2.2.1 u.2.2.2.2.1 u.2.2.2.2.2.1 u.2.2.2.2.2.2.1 u.2.2.2.2.2.2.2 r9.Pl r9.Sp r9.Vr u.2.1)
def lr_add (r : lz_M) (u : Int32 × Int32 × bc_F × bc_F × bc_F × bc_F × bc_F × bc_F) : lz_M := lz_M.mk u.2.2.1 u.2.2.2.1 u.2.2.2.2.1 u.2.2.2.2.2.1 u.2.2.2.2.2.2.1 r.Re r.Fa r.Va r.Nf r.Nv r.St r.Ld u.2.2.2.2.2.2.2 r.Pl r.Sp r.Vr u.1 u.2.1 r.gw
def lm_change (k0 : lz_C) (r9 : lz_M) (x : Int32) (k : Int32) (o : Int32) (t : Int32) (z : Int32) (u : Int32 × Int32 × bc_F × bc_F × bc_F × bc_F × bc_F × bc_F) : Prop := (¬ bc_ix k0.n x ∧ u.1 = 1 ∧ bc_MR k0.n k0.P k0.ra k0.n2 k0.Q (bc_2 k0.on0 k0.on1) (bc_2 k0.pl0 k0.pl1) (bc_2 k0.sp0 k0.sp1) (bc_X2 k0.X0 k0.X1) u.2.2.1 u.2.2.2.1 u.2.2.2.2.1 u.2.2.2.2.2.1 u.2.2.2.2.2.2.1 u.2.2.2.2.2.2.2 r9.Pl r9.Sp r9.Vr u.2.1) ∨ (∃ j : Nat, j < k0.n ∧ x = nI j ∧ ((¬ bc_si k o t z ∧ u.1 = 2 ∧ bc_MR k0.n k0.P k0.ra k0.n2 k0.Q (bc_2 k0.on0 k0.on1) (bc_2 k0.pl0 k0.pl1) (bc_2 k0.sp0 k0.sp1) (bc_X2 k0.X0 k0.X1) u.2.2.1 u.2.2.2.1 u.2.2.2.2.1 u.2.2.2.2.2.1 u.2.2.2.2.2.2.1 u.2.2.2.2.2.2.2 r9.Pl r9.Sp r9.Vr u.2.1) ∨ (bc_si k o t z ∧ u.1 = 0 ∧ bc_MR k0.n (bc_pu k0.P j k o t z) 0 k0.n2 k0.Q (fun _ => 0) (bc_2 k0.pl0 k0.pl1) (bc_2 k0.sp0 k0.sp1) (bc_X2 k0.X0 k0.X1) u.2.2.1 u.2.2.2.1 u.2.2.2.2.1 u.2.2.2.2.2.1 u.2.2.2.2.2.2.1 u.2.2.2.2.2.2.2 r9.Pl r9.Sp r9.Vr u.2.1)))
def lr_change (r : lz_M) (u : Int32 × Int32 × bc_F × bc_F × bc_F × bc_F × bc_F × bc_F) : lz_M := lz_M.mk u.2.2.1 u.2.2.2.1 u.2.2.2.2.1 u.2.2.2.2.2.1 u.2.2.2.2.2.2.1 r.Re r.Fa r.Va r.Nf r.Nv r.St r.Ld u.2.2.2.2.2.2.2 r.Pl r.Sp r.Vr u.1 u.2.1 r.gw
def lm_reached (k0 : lz_C) (r9 : lz_M) (x : Int32) (r : Int32) (u : Int32 × Int32 × bc_F × bc_F × bc_F × bc_F × bc_F) : Prop := (¬ bc_ix k0.n x ∧ u.1 = 1) ∨ (∃ j : Nat, j < k0.n ∧ x = nI j ∧ u.1 = 0 ∧ ∀ g, bc_Lst k0.n (k0.P 1) (k0.P 2) (k0.P 3) (k0.P 4) g → r = bc_b (g j))
def lr_reached (r : lz_M) (u : Int32 × Int32 × bc_F × bc_F × bc_F × bc_F × bc_F) : lz_M := lz_M.mk r.K r.O r.T r.Z r.Sz u.2.2.1 u.2.2.2.1 u.2.2.2.2.1 u.2.2.2.2.2.1 u.2.2.2.2.2.2 r.St r.Ld r.On r.Pl r.Sp r.Vr u.1 r.rw u.2.1
def lm_known (k0 : lz_C) (r9 : lz_M) (x : Int32) (v : Int32) (r : Int32) (u : Int32 × Int32 × bc_F × bc_F × bc_F × bc_F × bc_F) : Prop := (¬ (bc_ix k0.n x ∧ bc_vr v) ∧ u.1 = 1) ∨ (∃ j : Nat, j < k0.n ∧ x = nI j ∧ ∃ w : Nat, w < 6 ∧ v = nI w ∧ u.1 = 0 ∧ ∀ g, bc_Lst k0.n (k0.P 1) (k0.P 2) (k0.P 3) (k0.P 4) g → r = bc_s0 (g j) w)
def lr_known (r : lz_M) (u : Int32 × Int32 × bc_F × bc_F × bc_F × bc_F × bc_F) : lz_M := lz_M.mk r.K r.O r.T r.Z r.Sz u.2.2.1 u.2.2.2.1 u.2.2.2.2.1 u.2.2.2.2.2.1 u.2.2.2.2.2.2 r.St r.Ld r.On r.Pl r.Sp r.Vr u.1 r.rw u.2.1
def lm_constant (k0 : lz_C) (r9 : lz_M) (x : Int32) (v : Int32) (r : Int32) (u : Int32 × Int32 × bc_F × bc_F × bc_F × bc_F × bc_F) : Prop := (¬ (bc_ix k0.n x ∧ bc_vr v) ∧ u.1 = 1) ∨ (∃ j : Nat, j < k0.n ∧ x = nI j ∧ ∃ w : Nat, w < 6 ∧ v = nI w ∧ u.1 = 0 ∧ ∀ g, bc_Lst k0.n (k0.P 1) (k0.P 2) (k0.P 3) (k0.P 4) g → r = bc_c0 (g j) w)
def lr_constant (r : lz_M) (u : Int32 × Int32 × bc_F × bc_F × bc_F × bc_F × bc_F) : lz_M := lz_M.mk r.K r.O r.T r.Z r.Sz u.2.2.1 u.2.2.2.1 u.2.2.2.2.1 u.2.2.2.2.2.1 u.2.2.2.2.2.2 r.St r.Ld r.On r.Pl r.Sp r.Vr u.1 r.rw u.2.1
def lm_reachedAll (k0 : lz_C) (r9 : lz_M) (r : Int32) (u : Int32 × Int32 × bc_F × bc_F × bc_F × bc_F × bc_F) : Prop := u.1 = 0 ∧ ∀ g, bc_Lst k0.n (k0.P 1) (k0.P 2) (k0.P 3) (k0.P 4) g → r = nI (bc_nb g k0.n)
def lr_reachedAll (r : lz_M) (u : Int32 × Int32 × bc_F × bc_F × bc_F × bc_F × bc_F) : lz_M := lz_M.mk r.K r.O r.T r.Z r.Sz u.2.2.1 u.2.2.2.1 u.2.2.2.2.1 u.2.2.2.2.2.1 u.2.2.2.2.2.2 r.St r.Ld r.On r.Pl r.Sp r.Vr u.1 r.rw u.2.1
def lm_rewrite (k0 : lz_C) (r9 : lz_M) (r : Int32) (u : Int32 × Int32 × Int32 × bc_F × bc_F × bc_F × bc_F × bc_F × bc_F × bc_F × bc_F × bc_F × bc_F × bc_F × bc_F × bc_F) : Prop := (k0.n = 0 ∧ u.1 = 1 ∧ bc_MR k0.n k0.P k0.ra k0.n2 k0.Q (bc_2 k0.on0 k0.on1) (bc_2 k0.pl0 k0.pl1) (bc_2 k0.sp0 k0.sp1) (bc_X2 k0.X0 k0.X1) u.2.2.2.1 u.2.2.2.2.1 u.2.2.2.2.2.1 u.2.2.2.2.2.2.1 u.2.2.2.2.2.2.2.1 u.2.2.2.2.2.2.2.2.2.2.2.2.2.2.2 r9.Pl r9.Sp r9.Vr u.2.1) ∨ (0 < k0.n ∧ u.1 = 0 ∧ ∀ (m2 : Nat) (Q9 : Nat → bc_F), (∃ g, bc_Lst k0.n (k0.P 1) (k0.P 2) (k0.P 3) (k0.P 4) g ∧ bc_RW k0.n (bc_f1 k0.n (k0.P 1) (k0.P 2) (k0.P 3) (k0.P 4) g) m2 (Q9 1) (Q9 2) (Q9 3) (Q9 4)) → r = nI m2 ∧ bc_MR k0.n k0.P 1 m2 Q9 (upd (bc_2 k0.on0 k0.on1) 1 0) (bc_2 k0.pl0 k0.pl1) (bc_2 k0.sp0 k0.sp1) (bc_X2 k0.X0 k0.X1) u.2.2.2.1 u.2.2.2.2.1 u.2.2.2.2.2.1 u.2.2.2.2.2.2.1 u.2.2.2.2.2.2.2.1 u.2.2.2.2.2.2.2.2.2.2.2.2.2.2.2 r9.Pl r9.Sp r9.Vr u.2.1)
def lr_rewrite (r : lz_M) (u : Int32 × Int32 × Int32 × bc_F × bc_F × bc_F × bc_F × bc_F × bc_F × bc_F × bc_F × bc_F × bc_F × bc_F × bc_F × bc_F) : lz_M := lz_M.mk u.2.2.2.1 u.2.2.2.2.1 u.2.2.2.2.2.1 u.2.2.2.2.2.2.1 u.2.2.2.2.2.2.2.1 u.2.2.2.2.2.2.2.2.1 u.2.2.2.2.2.2.2.2.2.1 u.2.2.2.2.2.2.2.2.2.2.1 u.2.2.2.2.2.2.2.2.2.2.2.1 u.2.2.2.2.2.2.2.2.2.2.2.2.1 u.2.2.2.2.2.2.2.2.2.2.2.2.2.1 u.2.2.2.2.2.2.2.2.2.2.2.2.2.2.1 u.2.2.2.2.2.2.2.2.2.2.2.2.2.2.2 r.Pl r.Sp r.Vr u.1 u.2.1 u.2.2.1
def lm_code (k0 : lz_C) (r9 : lz_M) (x : Int32) (y : Int32) (z : Int32) (r : Int32) (u : Int32) : Prop := (x = 1 ∧ k0.ra = 0 ∧ u = 1) ∨ (¬ (x = 1 ∧ k0.ra = 0) ∧ ¬ bc_cd k0.n k0.n2 x y z ∧ u = 2) ∨ (u = 0 ∧ ((x = 0 ∧ bc_rc k0.n k0.P y z r) ∨ (x = 1 ∧ k0.ra ≠ 0 ∧ bc_rc k0.n2 k0.Q y z r)))
def lr_code (r : lz_M) (u : Int32) : lz_M := lz_M.mk r.K r.O r.T r.Z r.Sz r.Re r.Fa r.Va r.Nf r.Nv r.St r.Ld r.On r.Pl r.Sp r.Vr u r.rw r.gw
def lm_place (k0 : lz_C) (r9 : lz_M) (x : Int32) (r : Int32) (u : Int32) : Prop := (¬ bc_sd x ∧ u = 1) ∨ (∃ y : Nat, y < 2 ∧ x = nI y ∧ (bc_2 k0.on0 k0.on1) y = 0 ∧ u = 2) ∨ (∃ y : Nat, y < 2 ∧ x = nI y ∧ (bc_2 k0.on0 k0.on1) y ≠ 0 ∧ u = 0 ∧ r = (bc_2 k0.pl0 k0.pl1) y)
def lr_place (r : lz_M) (u : Int32) : lz_M := lz_M.mk r.K r.O r.T r.Z r.Sz r.Re r.Fa r.Va r.Nf r.Nv r.St r.Ld r.On r.Pl r.Sp r.Vr u r.rw r.gw
def lm_steps (k0 : lz_C) (r9 : lz_M) (x : Int32) (r : Int32) (u : Int32) : Prop := (¬ bc_sd x ∧ u = 1) ∨ (∃ y : Nat, y < 2 ∧ x = nI y ∧ (bc_2 k0.on0 k0.on1) y = 0 ∧ u = 2) ∨ (∃ y : Nat, y < 2 ∧ x = nI y ∧ (bc_2 k0.on0 k0.on1) y ≠ 0 ∧ u = 0 ∧ r = (bc_2 k0.sp0 k0.sp1) y)
def lr_steps (r : lz_M) (u : Int32) : lz_M := lz_M.mk r.K r.O r.T r.Z r.Sz r.Re r.Fa r.Va r.Nf r.Nv r.St r.Ld r.On r.Pl r.Sp r.Vr u r.rw r.gw
def lm_value (k0 : lz_C) (r9 : lz_M) (x : Int32) (v : Int32) (r : Int32) (u : Int32) : Prop := ((¬ bc_sd x ∨ ¬ bc_vr v) ∧ u = 1) ∨ (∃ y : Nat, y < 2 ∧ x = nI y ∧ bc_vr v ∧ (bc_2 k0.on0 k0.on1) y = 0 ∧ u = 2) ∨ (∃ y : Nat, y < 2 ∧ x = nI y ∧ (bc_2 k0.on0 k0.on1) y ≠ 0 ∧ ∃ w : Nat, w < 6 ∧ v = nI w ∧ u = 0 ∧ r = (bc_X2 k0.X0 k0.X1) y w)
def lr_value (r : lz_M) (u : Int32) : lz_M := lz_M.mk r.K r.O r.T r.Z r.Sz r.Re r.Fa r.Va r.Nf r.Nv r.St r.Ld r.On r.Pl r.Sp r.Vr u r.rw r.gw
def lm_start (k0 : lz_C) (r9 : lz_M) (x : Int32) (a1 : Int32) (b1 : Int32) (c1 : Int32) (d1 : Int32) (u : Int32 × bc_F × bc_F × bc_F × bc_F) : Prop := (¬ bc_sd x ∧ u.1 = 1 ∧ bc_MR k0.n k0.P k0.ra k0.n2 k0.Q (bc_2 k0.on0 k0.on1) (bc_2 k0.pl0 k0.pl1) (bc_2 k0.sp0 k0.sp1) (bc_X2 k0.X0 k0.X1) r9.K r9.O r9.T r9.Z r9.Sz u.2.1 u.2.2.1 u.2.2.2.1 u.2.2.2.2 r9.rw) ∨ (x = 1 ∧ k0.ra = 0 ∧ u.1 = 2 ∧ bc_MR k0.n k0.P k0.ra k0.n2 k0.Q (bc_2 k0.on0 k0.on1) (bc_2 k0.pl0 k0.pl1) (bc_2 k0.sp0 k0.sp1) (bc_X2 k0.X0 k0.X1) r9.K r9.O r9.T r9.Z r9.Sz u.2.1 u.2.2.1 u.2.2.2.1 u.2.2.2.2 r9.rw) ∨ (∃ y : Nat, y < 2 ∧ x = nI y ∧ (y = 1 → k0.ra ≠ 0) ∧ u.1 = 0 ∧ ∀ X1 : bc_F, (X1 0 = a1 ∧ X1 1 = b1 ∧ X1 2 = c1 ∧ X1 3 = d1 ∧ X1 4 = 0 ∧ X1 5 = 0) → bc_MR k0.n k0.P k0.ra k0.n2 k0.Q (upd (bc_2 k0.on0 k0.on1) y 1) (upd (bc_2 k0.pl0 k0.pl1) y (bc_pl (bc_nn k0.n k0.n2 y) 0)) (upd (bc_2 k0.sp0 k0.sp1) y 0) (fun w => if w = y then X1 else (bc_X2 k0.X0 k0.X1) w) r9.K r9.O r9.T r9.Z r9.Sz u.2.1 u.2.2.1 u.2.2.2.1 u.2.2.2.2 r9.rw)
def lr_start (r : lz_M) (u : Int32 × bc_F × bc_F × bc_F × bc_F) : lz_M := lz_M.mk r.K r.O r.T r.Z r.Sz r.Re r.Fa r.Va r.Nf r.Nv r.St r.Ld u.2.1 u.2.2.1 u.2.2.2.1 u.2.2.2.2 u.1 r.rw r.gw
def lm_run (k0 : lz_C) (r9 : lz_M) (x : Int32) (mm : Int32) (r : Int32) (u : Int32 × bc_F × bc_F × bc_F) : Prop := (¬ bc_sd x ∧ u.1 = 1 ∧ bc_MR k0.n k0.P k0.ra k0.n2 k0.Q (bc_2 k0.on0 k0.on1) (bc_2 k0.pl0 k0.pl1) (bc_2 k0.sp0 k0.sp1) (bc_X2 k0.X0 k0.X1) r9.K r9.O r9.T r9.Z r9.Sz r9.On u.2.1 u.2.2.1 u.2.2.2 r9.rw) ∨ (bc_sd x ∧ ¬ bc_mx mm ∧ u.1 = 2 ∧ bc_MR k0.n k0.P k0.ra k0.n2 k0.Q (bc_2 k0.on0 k0.on1) (bc_2 k0.pl0 k0.pl1) (bc_2 k0.sp0 k0.sp1) (bc_X2 k0.X0 k0.X1) r9.K r9.O r9.T r9.Z r9.Sz r9.On u.2.1 u.2.2.1 u.2.2.2 r9.rw) ∨ (∃ y : Nat, y < 2 ∧ x = nI y ∧ bc_mx mm ∧ (bc_2 k0.on0 k0.on1) y = 0 ∧ u.1 = 3 ∧ bc_MR k0.n k0.P k0.ra k0.n2 k0.Q (bc_2 k0.on0 k0.on1) (bc_2 k0.pl0 k0.pl1) (bc_2 k0.sp0 k0.sp1) (bc_X2 k0.X0 k0.X1) r9.K r9.O r9.T r9.Z r9.Sz r9.On u.2.1 u.2.2.1 u.2.2.2 r9.rw) ∨ (∃ y : Nat, y < 2 ∧ x = nI y ∧ (bc_2 k0.on0 k0.on1) y ≠ 0 ∧ ∃ k : Nat, k ≤ 10000 ∧ mm = nI k ∧ u.1 = 0 ∧ r = nI (bc_RN k0.n k0.n2 k0.P k0.Q (bc_X2 k0.X0 k0.X1) (bc_2 k0.pl0 k0.pl1) y k).2 ∧ bc_MR k0.n k0.P k0.ra k0.n2 k0.Q (bc_2 k0.on0 k0.on1) (upd (bc_2 k0.pl0 k0.pl1) y (bc_RN k0.n k0.n2 k0.P k0.Q (bc_X2 k0.X0 k0.X1) (bc_2 k0.pl0 k0.pl1) y k).1.2) (upd (bc_2 k0.sp0 k0.sp1) y ((bc_2 k0.sp0 k0.sp1) y + nI (bc_RN k0.n k0.n2 k0.P k0.Q (bc_X2 k0.X0 k0.X1) (bc_2 k0.pl0 k0.pl1) y k).2)) (fun w => if w = y then (bc_RN k0.n k0.n2 k0.P k0.Q (bc_X2 k0.X0 k0.X1) (bc_2 k0.pl0 k0.pl1) y k).1.1 else (bc_X2 k0.X0 k0.X1) w) r9.K r9.O r9.T r9.Z r9.Sz r9.On u.2.1 u.2.2.1 u.2.2.2 r9.rw)
def lr_run (r : lz_M) (u : Int32 × bc_F × bc_F × bc_F) : lz_M := lz_M.mk r.K r.O r.T r.Z r.Sz r.Re r.Fa r.Va r.Nf r.Nv r.St r.Ld r.On u.2.1 u.2.2.1 u.2.2.2 u.1 r.rw r.gw
/-! pure: what a call of the law leaves -/
theorem bc_200 : ∀ y, y < 2 → (0 : Int32) = bc_2 0 0 y := by
  intro y hy
  rcases bc_lt2 hy with e | e <;> subst e <;> rfl
theorem bc_u20 {x y z : Int32} : ∀ w, w < 2 → upd (bc_2 x y) 0 z w = bc_2 z y w := by
  intro w hw
  rcases bc_lt2 hw with e | e <;> subst e
  · exact pk_us
  · exact pk_un (by omega)
theorem bc_u21 {x y z : Int32} : ∀ w, w < 2 → upd (bc_2 x y) 1 z w = bc_2 x z w := by
  intro w hw
  rcases bc_lt2 hw with e | e <;> subst e
  · exact pk_un (by omega)
  · exact pk_us
theorem bc_x20 {x y z : bc_F} : ∀ w, w < 2 → (if w = 0 then z else bc_X2 x y w) = bc_X2 z y w := by
  intro w hw
  rcases bc_lt2 hw with e | e <;> subst e <;> rfl
theorem bc_x21 {x y z : bc_F} : ∀ w, w < 2 → (if w = 1 then z else bc_X2 x y w) = bc_X2 x z w := by
  intro w hw
  rcases bc_lt2 hw with e | e <;> subst e <;> rfl
theorem bc_y0 {y : Nat} (hy : y < 2) (h : nI y = 0) : y = 0 := (nI_eq (a := y) (b := 0) (by omega) (by omega)).mp h
theorem bc_y1 {y : Nat} (hy : y < 2) (h : nI y = 1) : y = 1 := (nI_eq (a := y) (b := 1) (by omega) (by omega)).mp h
theorem bc_01 {x : Int32} (h : x = 0) (h' : x = 1) : False := absurd (h.symm.trans h') (by decide)
section LP
variable {k : lz_C} {r : lz_M} {x x1 x2 x3 x4 x5 v : Int32}
def lk_put (k : lz_C) (n : Nat) (P : Nat → bc_F) (O : Nat → Int64) : lz_C := lz_C.mk n k.n2 k.cq P k.Q 0 0 k.S k.C k.Wt k.SB k.CB k.res k.B k.U k.Nn k.pl0 k.sp0 0 k.X0 k.pl1 k.sp1 0 k.X1 O
def lk_an (k : lz_C) (q : bc_F × bc_F × bc_F × bc_F × bc_F × Int32) (O : Nat → Int64) : lz_C := lz_C.mk k.n k.n2 k.cq k.P k.Q 1 k.ra q.1 q.2.1 q.2.2.1 q.2.2.2.1 q.2.2.2.2.1 q.2.2.2.2.2 k.B k.U k.Nn k.pl0 k.sp0 k.on0 k.X0 k.pl1 k.sp1 k.on1 k.X1 O
def lk_rw (k : lz_C) (q : (bc_F × bc_F × bc_F × bc_F × bc_F × Int32) × (bc_F × bc_F × bc_F × Nat) × Nat × (Nat → bc_F)) : lz_C := lz_C.mk k.n q.2.2.1 q.2.1.2.2.2 k.P q.2.2.2 1 1 q.1.1 q.1.2.1 q.1.2.2.1 q.1.2.2.2.1 q.1.2.2.2.2.1 q.1.2.2.2.2.2 q.2.1.1 q.2.1.2.1 q.2.1.2.2.1 k.pl0 k.sp0 k.on0 k.X0 k.pl1 k.sp1 0 k.X1 (vp_updL k.Ou 0 ((nI q.2.2.1).toInt64))
def lk_o (k : lz_C) (z : Int64) : lz_C := lz_C.mk k.n k.n2 k.cq k.P k.Q k.an k.ra k.S k.C k.Wt k.SB k.CB k.res k.B k.U k.Nn k.pl0 k.sp0 k.on0 k.X0 k.pl1 k.sp1 k.on1 k.X1 (vp_updL k.Ou 0 z)
def lk_s0 (k : lz_C) (q : bc_F) : lz_C := lz_C.mk k.n k.n2 k.cq k.P k.Q k.an k.ra k.S k.C k.Wt k.SB k.CB k.res k.B k.U k.Nn (bc_pl k.n 0) 0 1 q k.pl1 k.sp1 k.on1 k.X1 k.Ou
def lk_s1 (k : lz_C) (q : bc_F) : lz_C := lz_C.mk k.n k.n2 k.cq k.P k.Q k.an k.ra k.S k.C k.Wt k.SB k.CB k.res k.B k.U k.Nn k.pl0 k.sp0 k.on0 k.X0 (bc_pl k.n2 0) 0 1 q k.Ou
def lk_r0 (k : lz_C) (w : (bc_F × Int32) × Nat) : lz_C := lz_C.mk k.n k.n2 k.cq k.P k.Q k.an k.ra k.S k.C k.Wt k.SB k.CB k.res k.B k.U k.Nn w.1.2 (k.sp0 + nI w.2) k.on0 w.1.1 k.pl1 k.sp1 k.on1 k.X1 (vp_updL k.Ou 0 ((nI w.2).toInt64))
def lk_r1 (k : lz_C) (w : (bc_F × Int32) × Nat) : lz_C := lz_C.mk k.n k.n2 k.cq k.P k.Q k.an k.ra k.S k.C k.Wt k.SB k.CB k.res k.B k.U k.Nn k.pl0 k.sp0 k.on0 k.X0 w.1.2 (k.sp1 + nI w.2) k.on1 w.1.1 (vp_updL k.Ou 0 ((nI w.2).toInt64))
-- add
theorem lp_add_a (hR : lz_R k r) (h1 : ¬ bc_si x1 x2 x3 x4) {u} (h : lm_add k r x1 x2 x3 x4 v u) : (lr_add r u).fa = 1 ∧ ((1 : Int32) = 0 → k.Ou 0 = v.toInt64) ∧ lz_R k (lr_add r u) := by
  rcases h with ⟨_, b, c⟩ | ⟨d, _⟩ | ⟨d, _⟩
  · exact ⟨b, fun z => absurd z (by decide), hR.1, c, hR.2.2⟩
  · exact absurd d h1
  · exact absurd d h1
theorem lp_add_b (hR : lz_R k r) (h1 : bc_si x1 x2 x3 x4) (h2 : k.n = 40) {u} (h : lm_add k r x1 x2 x3 x4 v u) : (lr_add r u).fa = 2 ∧ ((2 : Int32) = 0 → k.Ou 0 = v.toInt64) ∧ lz_R k (lr_add r u) := by
  rcases h with ⟨d, _⟩ | ⟨_, _, b, c⟩ | ⟨_, d, _⟩
  · exact absurd h1 d
  · exact ⟨b, fun z => absurd z (by decide), hR.1, c, hR.2.2⟩
  · exact absurd d (by omega)
theorem lp_add_n (hR : lz_R k r) (h1 : bc_si x1 x2 x3 x4) (h2 : k.n < 40) {u} (h : lm_add k r x1 x2 x3 x4 v u) : (lr_add r u).fa = 0 ∧ ((0 : Int32) = 0 → (lk_put k (k.n + 1) (bc_pu k.P k.n x1 x2 x3 x4) (vp_updL k.Ou 0 ((nI (k.n + 1)).toInt64))).Ou 0 = v.toInt64) ∧ lz_R (lk_put k (k.n + 1) (bc_pu k.P k.n x1 x2 x3 x4) (vp_updL k.Ou 0 ((nI (k.n + 1)).toInt64))) (lr_add r u) := by
  rcases h with ⟨d, _⟩ | ⟨_, d, _⟩ | ⟨_, _, b, e, c⟩
  · exact absurd h1 d
  · exact absurd d (by omega)
  · exact ⟨b, fun _ => by rw [e]; exact lz_up (f := k.Ou), bc_AB_cg (bc_AB_add hR.1 h2 h1) bc_200 (fun _ _ z => absurd rfl z), bc_MR_cg c bc_200 (fun _ _ z => absurd rfl z), hR.2.2.1, Or.inl rfl⟩
-- change
theorem lp_change_a (hR : lz_R k r) (h1 : ¬ bc_ix k.n x) {u} (h : lm_change k r x x1 x2 x3 x4 u) : (lr_change r u).fa = 1 ∧ lz_R k (lr_change r u) := by
  rcases h with ⟨_, b, c⟩ | ⟨j, hj, d, _⟩
  · exact ⟨b, hR.1, c, hR.2.2⟩
  · exact absurd ⟨j, hj, d⟩ h1
theorem lp_change_b (hR : lz_R k r) {j : Nat} (hj : j < k.n) (ex : x = nI j) (h1 : ¬ bc_si x1 x2 x3 x4) {u} (h : lm_change k r x x1 x2 x3 x4 u) : (lr_change r u).fa = 2 ∧ lz_R k (lr_change r u) := by
  rcases h with ⟨d, _⟩ | ⟨j', hj', _, ⟨_, b, c⟩ | ⟨d, _⟩⟩
  · exact absurd ⟨j, hj, ex⟩ d
  · exact ⟨b, hR.1, c, hR.2.2⟩
  · exact absurd d h1
theorem lp_change_n (hR : lz_R k r) {j : Nat} (hj : j < k.n) (ex : x = nI j) (h1 : bc_si x1 x2 x3 x4) {u} (h : lm_change k r x x1 x2 x3 x4 u) : (lr_change r u).fa = 0 ∧ lz_R (lk_put k k.n (bc_pu k.P j x1 x2 x3 x4) k.Ou) (lr_change r u) := by
  have hn : k.n ≤ 40 := hR.1.1
  rcases h with ⟨d, _⟩ | ⟨j', hj', ex', ⟨d, _⟩ | ⟨_, b, c⟩⟩
  · exact absurd ⟨j, hj, ex⟩ d
  · exact absurd h1 d
  · have ej : j' = j := bc_nIe (by omega) (by omega) (ex'.symm.trans ex)
    rw [ej] at c
    exact ⟨b, bc_AB_cg (bc_AB_change hR.1 h1) bc_200 (fun _ _ z => absurd rfl z), bc_MR_cg c bc_200 (fun _ _ z => absurd rfl z), hR.2.2.1, Or.inl rfl⟩
-- reached, known, constant
theorem lp_reached_a (hR : lz_R k r) (h1 : ¬ bc_ix k.n x) {u} (h : lm_reached k r x v u) : (lr_reached r u).fa = 1 ∧ ((1 : Int32) = 0 → k.Ou 0 = (if v = 0 then 0 else 1)) ∧ lz_R k (lr_reached r u) := by
  rcases h with ⟨_, b⟩ | ⟨j, hj, d, _⟩
  · exact ⟨b, fun z => absurd z (by decide), hR.1, hR.2.1, hR.2.2⟩
  · exact absurd ⟨j, hj, d⟩ h1
theorem lp_reached_n (hR : lz_R k r) {j : Nat} (hj : j < k.n) (ex : x = nI j) {q : (bc_F × bc_F × bc_F × bc_F × bc_F × Int32) × Int64} (hq : (∃ g, bc_en q.1.1 q.1.2.1 g ∧ bc_Lst k.n (k.P 1) (k.P 2) (k.P 3) (k.P 4) g ∧ q.2 = (if bc_b (g j) = 0 then 0 else 1)) ∧ ∀ j, j < 40 → q.1.2.2.1 j = 0) {u} (h : lm_reached k r x v u) : (lr_reached r u).fa = 0 ∧ ((0 : Int32) = 0 → (lk_an k q.1 (vp_updL k.Ou 0 q.2)).Ou 0 = (if v = 0 then 0 else 1)) ∧ lz_R (lk_an k q.1 (vp_updL k.Ou 0 q.2)) (lr_reached r u) := by
  have hn : k.n ≤ 40 := hR.1.1
  obtain ⟨⟨g, hen, hL, eo⟩, hW⟩ := hq
  rcases h with ⟨d, _⟩ | ⟨j', hj', ex', b, c⟩
  · exact absurd ⟨j, hj, ex⟩ d
  · have ej : j' = j := bc_nIe (by omega) (by omega) (ex'.symm.trans ex)
    have c1 := c g hL
    rw [ej] at c1
    exact ⟨b, fun _ => by rw [c1]; exact (lz_up (f := k.Ou)).trans eo, hR.1, hR.2.1, hW, Or.inr ⟨rfl, g, hen, hL⟩⟩
theorem lp_known_x (hR : lz_R k r) (h1 : ¬ (bc_ix k.n x1 ∧ bc_vr x2)) {u} (h : lm_known k r x1 x2 v u) : (lr_known r u).fa = 1 ∧ ((1 : Int32) = 0 → k.Ou 0 = v.toInt64) ∧ lz_R k (lr_known r u) := by
  rcases h with ⟨_, b⟩ | ⟨j, hj, d, w, hw, d2, _⟩
  · exact ⟨b, fun z => absurd z (by decide), hR.1, hR.2.1, hR.2.2⟩
  · exact absurd ⟨⟨j, hj, d⟩, w, hw, d2⟩ h1
theorem lp_constant_x (hR : lz_R k r) (h1 : ¬ (bc_ix k.n x1 ∧ bc_vr x2)) {u} (h : lm_constant k r x1 x2 v u) : (lr_constant r u).fa = 1 ∧ ((1 : Int32) = 0 → k.Ou 0 = v.toInt64) ∧ lz_R k (lr_constant r u) := by
  rcases h with ⟨_, b⟩ | ⟨j, hj, d, w, hw, d2, _⟩
  · exact ⟨b, fun z => absurd z (by decide), hR.1, hR.2.1, hR.2.2⟩
  · exact absurd ⟨⟨j, hj, d⟩, w, hw, d2⟩ h1
theorem lp_known_n (hR : lz_R k r) {j w : Nat} (hj : j < k.n) (ex : x1 = nI j) (hw6 : w < 6) (ex2 : x2 = nI w) {q : (bc_F × bc_F × bc_F × bc_F × bc_F × Int32) × Int32} (hq : (∃ g, bc_en q.1.1 q.1.2.1 g ∧ bc_Lst k.n (k.P 1) (k.P 2) (k.P 3) (k.P 4) g ∧ q.2 = bc_s0 (g j) w) ∧ ∀ j, j < 40 → q.1.2.2.1 j = 0) {u} (h : lm_known k r x1 x2 v u) : (lr_known r u).fa = 0 ∧ ((0 : Int32) = 0 → (lk_an k q.1 (vp_updL k.Ou 0 q.2.toInt64)).Ou 0 = v.toInt64) ∧ lz_R (lk_an k q.1 (vp_updL k.Ou 0 q.2.toInt64)) (lr_known r u) := by
  have hn : k.n ≤ 40 := hR.1.1
  obtain ⟨⟨g, hen, hL, eo⟩, hW⟩ := hq
  rcases h with ⟨d, _⟩ | ⟨j', hj', ex', w', hw', ew', b, c⟩
  · exact absurd ⟨⟨j, hj, ex⟩, w, hw6, ex2⟩ d
  · have ej : j' = j := bc_nIe (by omega) (by omega) (ex'.symm.trans ex)
    have ew : w' = w := bc_nIe (by omega) (by omega) (ew'.symm.trans ex2)
    have c1 := c g hL
    rw [ej, ew] at c1
    exact ⟨b, fun _ => by rw [c1, ← eo]; exact lz_up (f := k.Ou), hR.1, hR.2.1, hW, Or.inr ⟨rfl, g, hen, hL⟩⟩
theorem lp_constant_n (hR : lz_R k r) {j w : Nat} (hj : j < k.n) (ex : x1 = nI j) (hw6 : w < 6) (ex2 : x2 = nI w) {q : (bc_F × bc_F × bc_F × bc_F × bc_F × Int32) × Int32} (hq : (∃ g, bc_en q.1.1 q.1.2.1 g ∧ bc_Lst k.n (k.P 1) (k.P 2) (k.P 3) (k.P 4) g ∧ q.2 = bc_c0 (g j) w) ∧ ∀ j, j < 40 → q.1.2.2.1 j = 0) {u} (h : lm_constant k r x1 x2 v u) : (lr_constant r u).fa = 0 ∧ ((0 : Int32) = 0 → (lk_an k q.1 (vp_updL k.Ou 0 q.2.toInt64)).Ou 0 = v.toInt64) ∧ lz_R (lk_an k q.1 (vp_updL k.Ou 0 q.2.toInt64)) (lr_constant r u) := by
  have hn : k.n ≤ 40 := hR.1.1
  obtain ⟨⟨g, hen, hL, eo⟩, hW⟩ := hq
  rcases h with ⟨d, _⟩ | ⟨j', hj', ex', w', hw', ew', b, c⟩
  · exact absurd ⟨⟨j, hj, ex⟩, w, hw6, ex2⟩ d
  · have ej : j' = j := bc_nIe (by omega) (by omega) (ex'.symm.trans ex)
    have ew : w' = w := bc_nIe (by omega) (by omega) (ew'.symm.trans ex2)
    have c1 := c g hL
    rw [ej, ew] at c1
    exact ⟨b, fun _ => by rw [c1, ← eo]; exact lz_up (f := k.Ou), hR.1, hR.2.1, hW, Or.inr ⟨rfl, g, hen, hL⟩⟩
-- rewrite
theorem lp_rewrite_a (hR : lz_R k r) (h1 : k.n = 0) {u} (h : lm_rewrite k r v u) : (lr_rewrite r u).fa = 1 ∧ ((1 : Int32) = 0 → k.Ou 0 = v.toInt64) ∧ lz_R k (lr_rewrite r u) := by
  rcases h with ⟨_, b, c⟩ | ⟨d, _⟩
  · exact ⟨b, fun z => absurd z (by decide), hR.1, c, hR.2.2⟩
  · exact absurd d (by omega)
theorem lp_rewrite_n (hR : lz_R k r) (h1 : 0 < k.n) {q : (bc_F × bc_F × bc_F × bc_F × bc_F × Int32) × (bc_F × bc_F × bc_F × Nat) × Nat × (Nat → bc_F)} (hq : q.2.2.1 ≤ k.n ∧ (∀ j, j < 40 → q.1.2.2.1 j = 0) ∧ ∃ g, bc_en q.1.1 q.1.2.1 g ∧ bc_Lst k.n (k.P 1) (k.P 2) (k.P 3) (k.P 4) g ∧ bc_RW k.n (bc_f1 k.n (k.P 1) (k.P 2) (k.P 3) (k.P 4) g) q.2.2.1 (q.2.2.2 1) (q.2.2.2 2) (q.2.2.2 3) (q.2.2.2 4)) {u} (h : lm_rewrite k r v u) : (lr_rewrite r u).fa = 0 ∧ ((0 : Int32) = 0 → (lk_rw k q).Ou 0 = v.toInt64) ∧ lz_R (lk_rw k q) (lr_rewrite r u) := by
  obtain ⟨_, hW, g, hen, hL, hRW⟩ := hq
  rcases h with ⟨d, _⟩ | ⟨_, b, c⟩
  · exact absurd d (by omega)
  · obtain ⟨e, cm⟩ := c q.2.2.1 q.2.2.2 ⟨g, hL, hRW⟩
    exact ⟨b, fun _ => by rw [e]; exact lz_up (f := k.Ou), bc_AB_cg (bc_AB_rw hR.1 hRW) bc_u21 (fun _ _ _ => rfl), bc_MR_cg cm bc_u21 (fun _ _ _ => ⟨rfl, rfl, fun _ _ => rfl⟩), hW, Or.inr ⟨rfl, g, hen, hL⟩⟩
-- code
theorem lp_code_b (hR : lz_R k r) (h1 : ¬ bc_sd x) {u} (h : lm_code k r x x1 x2 v u) : (lr_code r u).fa = 2 ∧ ((2 : Int32) = 0 → k.Ou 0 = v.toInt64) ∧ lz_R k (lr_code r u) := by
  rcases h with ⟨d, _⟩ | ⟨_, _, b⟩ | ⟨_, ⟨d, _⟩ | ⟨d, _⟩⟩
  · exact absurd (Or.inr d) h1
  · exact ⟨b, fun z => absurd z (by decide), hR.1, hR.2.1, hR.2.2⟩
  · exact absurd (Or.inl d) h1
  · exact absurd (Or.inr d) h1
theorem lp_code_a (hR : lz_R k r) (ex : x = 1) (h1 : k.ra = 0) {u} (h : lm_code k r x x1 x2 v u) : (lr_code r u).fa = 1 ∧ ((1 : Int32) = 0 → k.Ou 0 = v.toInt64) ∧ lz_R k (lr_code r u) := by
  rcases h with ⟨_, _, b⟩ | ⟨d, _⟩ | ⟨_, ⟨d, _⟩ | ⟨_, d, _⟩⟩
  · exact ⟨b, fun z => absurd z (by decide), hR.1, hR.2.1, hR.2.2⟩
  · exact absurd ⟨ex, h1⟩ d
  · exact (bc_01 d ex).elim
  · exact absurd h1 d
theorem lp_code_c0 (hR : lz_R k r) (ex : x = 0) (h1 : ¬ bc_ce k.n x1 x2) {u} (h : lm_code k r x x1 x2 v u) : (lr_code r u).fa = 2 ∧ ((2 : Int32) = 0 → k.Ou 0 = v.toInt64) ∧ lz_R k (lr_code r u) := by
  rcases h with ⟨d, _⟩ | ⟨_, _, b⟩ | ⟨_, ⟨_, j, hj, d, w, hw, d2, _⟩ | ⟨d, _⟩⟩
  · exact (bc_01 ex d).elim
  · exact ⟨b, fun z => absurd z (by decide), hR.1, hR.2.1, hR.2.2⟩
  · exact absurd ⟨⟨j, hj, d⟩, w, hw, d2⟩ h1
  · exact (bc_01 ex d).elim
theorem lp_code_c1 (hR : lz_R k r) (ex : x = 1) (hra : k.ra ≠ 0) (h1 : ¬ bc_ce k.n2 x1 x2) {u} (h : lm_code k r x x1 x2 v u) : (lr_code r u).fa = 2 ∧ ((2 : Int32) = 0 → k.Ou 0 = v.toInt64) ∧ lz_R k (lr_code r u) := by
  rcases h with ⟨_, d, _⟩ | ⟨_, _, b⟩ | ⟨_, ⟨d, _⟩ | ⟨_, _, j, hj, d, w, hw, d2, _⟩⟩
  · exact absurd d hra
  · exact ⟨b, fun z => absurd z (by decide), hR.1, hR.2.1, hR.2.2⟩
  · exact (bc_01 d ex).elim
  · exact absurd ⟨⟨j, hj, d⟩, w, hw, d2⟩ h1
theorem lp_code_n0 (hR : lz_R k r) (ex : x = 0) {j w : Nat} (hj : j < k.n) (e1 : x1 = nI j) (hw4 : w < 4) (e2 : x2 = nI w) {u} (h : lm_code k r x x1 x2 v u) : (lr_code r u).fa = 0 ∧ ((0 : Int32) = 0 → (lk_o k (k.P (w + 1) j).toInt64).Ou 0 = v.toInt64) ∧ lz_R (lk_o k (k.P (w + 1) j).toInt64) (lr_code r u) := by
  have hn : k.n ≤ 40 := hR.1.1
  rcases h with ⟨d, _⟩ | ⟨_, d, _⟩ | ⟨b, ⟨_, j', hj', ej', w', hw', ew', e3⟩ | ⟨d, _⟩⟩
  · exact (bc_01 ex d).elim
  · exact absurd (Or.inl ⟨ex, ⟨j, hj, e1⟩, w, hw4, e2⟩) d
  · have ej : j' = j := bc_nIe (by omega) (by omega) (ej'.symm.trans e1)
    have ew : w' = w := bc_nIe (by omega) (by omega) (ew'.symm.trans e2)
    rw [ej, ew] at e3
    exact ⟨b, fun _ => by rw [e3]; exact lz_up (f := k.Ou), hR.1, hR.2.1, hR.2.2⟩
  · exact (bc_01 ex d).elim
theorem lp_code_n1 (hR : lz_R k r) (ex : x = 1) (hra : k.ra ≠ 0) {j w : Nat} (hj : j < k.n2) (e1 : x1 = nI j) (hw4 : w < 4) (e2 : x2 = nI w) {u} (h : lm_code k r x x1 x2 v u) : (lr_code r u).fa = 0 ∧ ((0 : Int32) = 0 → (lk_o k (k.Q (w + 1) j).toInt64).Ou 0 = v.toInt64) ∧ lz_R (lk_o k (k.Q (w + 1) j).toInt64) (lr_code r u) := by
  have hn : k.n2 ≤ 40 := (hR.1.2.2.2.1 hra).1
  rcases h with ⟨_, d, _⟩ | ⟨_, d, _⟩ | ⟨b, ⟨d, _⟩ | ⟨_, _, j', hj', ej', w', hw', ew', e3⟩⟩
  · exact absurd d hra
  · exact absurd (Or.inr ⟨ex, ⟨j, hj, e1⟩, w, hw4, e2⟩) d
  · exact (bc_01 d ex).elim
  · have ej : j' = j := bc_nIe (by omega) (by omega) (ej'.symm.trans e1)
    have ew : w' = w := bc_nIe (by omega) (by omega) (ew'.symm.trans e2)
    rw [ej, ew] at e3
    exact ⟨b, fun _ => by rw [e3]; exact lz_up (f := k.Ou), hR.1, hR.2.1, hR.2.2⟩
-- start
theorem lp_start_a (hR : lz_R k r) (h1 : ¬ bc_sd x) {u} (h : lm_start k r x x1 x2 x3 x4 u) : (lr_start r u).fa = 1 ∧ lz_R k (lr_start r u) := by
  rcases h with ⟨_, b, c⟩ | ⟨d, _⟩ | ⟨y, hy, d, _⟩
  · exact ⟨b, hR.1, c, hR.2.2⟩
  · exact absurd (Or.inr d) h1
  · exact absurd (by rw [d]; exact bc_sd_of hy) h1
theorem lp_start_b (hR : lz_R k r) (ex : x = 1) (h1 : k.ra = 0) {u} (h : lm_start k r x x1 x2 x3 x4 u) : (lr_start r u).fa = 2 ∧ lz_R k (lr_start r u) := by
  rcases h with ⟨d, _⟩ | ⟨_, _, b, c⟩ | ⟨y, hy, d, d2, _⟩
  · exact absurd (Or.inr ex) d
  · exact ⟨b, hR.1, c, hR.2.2⟩
  · exact absurd h1 (d2 (bc_y1 hy (d.symm.trans ex)))
theorem lp_start_n0 (hR : lz_R k r) (ex : x = 0) {q : bc_F} (hq : q 0 = x1 ∧ q 1 = x2 ∧ q 2 = x3 ∧ q 3 = x4 ∧ q 4 = 0 ∧ q 5 = 0) {u} (h : lm_start k r x x1 x2 x3 x4 u) : (lr_start r u).fa = 0 ∧ lz_R (lk_s0 k q) (lr_start r u) := by
  rcases h with ⟨d, _⟩ | ⟨d, _⟩ | ⟨y, hy, d, d2, b, c⟩
  · exact absurd (Or.inl ex) d
  · exact (bc_01 ex d).elim
  · have ey : y = 0 := bc_y0 hy (d.symm.trans ex)
    subst ey
    exact ⟨b, bc_AB_cg (bc_AB_start (SP' := bc_2 0 k.sp1) hR.1 (y := 0) (by omega) (fun z => absurd z (by omega))) bc_u20 (fun w hw _ => bc_u20 w hw), bc_MR_cg (c q hq) bc_u20 (fun w hw _ => ⟨bc_u20 w hw, bc_u20 w hw, fun v _ => congrFun (bc_x20 w hw) v⟩), hR.2.2⟩
theorem lp_start_n1 (hR : lz_R k r) (ex : x = 1) (hra : k.ra ≠ 0) {q : bc_F} (hq : q 0 = x1 ∧ q 1 = x2 ∧ q 2 = x3 ∧ q 3 = x4 ∧ q 4 = 0 ∧ q 5 = 0) {u} (h : lm_start k r x x1 x2 x3 x4 u) : (lr_start r u).fa = 0 ∧ lz_R (lk_s1 k q) (lr_start r u) := by
  rcases h with ⟨d, _⟩ | ⟨_, d, _⟩ | ⟨y, hy, d, d2, b, c⟩
  · exact absurd (Or.inr ex) d
  · exact absurd d hra
  · have ey : y = 1 := bc_y1 hy (d.symm.trans ex)
    subst ey
    exact ⟨b, bc_AB_cg (bc_AB_start (SP' := bc_2 k.sp0 0) hR.1 (y := 1) (by omega) (fun _ => hra)) bc_u21 (fun w hw _ => bc_u21 w hw), bc_MR_cg (c q hq) bc_u21 (fun w hw _ => ⟨bc_u21 w hw, bc_u21 w hw, fun v _ => congrFun (bc_x21 w hw) v⟩), hR.2.2⟩
-- run
theorem lp_run_a (hR : lz_R k r) (h1 : ¬ bc_sd x) {u} (h : lm_run k r x x1 v u) : (lr_run r u).fa = 1 ∧ ((1 : Int32) = 0 → k.Ou 0 = v.toInt64) ∧ lz_R k (lr_run r u) := by
  rcases h with ⟨_, b, c⟩ | ⟨d, _⟩ | ⟨y, hy, d, _⟩ | ⟨y, hy, d, _⟩
  · exact ⟨b, fun z => absurd z (by decide), hR.1, c, hR.2.2⟩
  · exact absurd d h1
  · exact absurd (by rw [d]; exact bc_sd_of hy) h1
  · exact absurd (by rw [d]; exact bc_sd_of hy) h1
theorem lp_run_b (hR : lz_R k r) (h0 : bc_sd x) (h1 : ¬ bc_mx x1) {u} (h : lm_run k r x x1 v u) : (lr_run r u).fa = 2 ∧ ((2 : Int32) = 0 → k.Ou 0 = v.toInt64) ∧ lz_R k (lr_run r u) := by
  rcases h with ⟨d, _⟩ | ⟨_, _, b, c⟩ | ⟨y, hy, _, d, _⟩ | ⟨y, hy, _, _, w, hw, d, _⟩
  · exact absurd h0 d
  · exact ⟨b, fun z => absurd z (by decide), hR.1, c, hR.2.2⟩
  · exact absurd d h1
  · exact absurd ⟨w, hw, d⟩ h1
theorem lp_run_c {y : Nat} (hy2 : y < 2) (hR : lz_R k r) (h0 : x = nI y) (h1 : bc_mx x1) (h2 : bc_2 k.on0 k.on1 y = 0) {u} (h : lm_run k r x x1 v u) : (lr_run r u).fa = 3 ∧ ((3 : Int32) = 0 → k.Ou 0 = v.toInt64) ∧ lz_R k (lr_run r u) := by
  rcases h with ⟨d, _⟩ | ⟨_, d, _⟩ | ⟨y', hy, _, _, _, b, c⟩ | ⟨y', hy, d, d2, _⟩
  · exact absurd (by rw [h0]; exact bc_sd_of hy2) d
  · exact absurd h1 d
  · exact ⟨b, fun z => absurd z (by decide), hR.1, c, hR.2.2⟩
  · have ey : y' = y := bc_nIe (by omega) (by omega) (d.symm.trans h0)
    rw [ey] at d2
    exact absurd h2 d2
theorem lp_run_n0 (hR : lz_R k r) (ex : x = 0) {mx : Nat} (hmx : mx ≤ 10000) (e1 : x1 = nI mx) (hon : k.on0 ≠ 0) {u} (h : lm_run k r x x1 v u) : (lr_run r u).fa = 0 ∧ ((0 : Int32) = 0 → (lk_r0 k (bc_rn k.n (k.P 1) (k.P 2) (k.P 3) (k.P 4) mx (k.X0, k.pl0))).Ou 0 = v.toInt64) ∧ lz_R (lk_r0 k (bc_rn k.n (k.P 1) (k.P 2) (k.P 3) (k.P 4) mx (k.X0, k.pl0))) (lr_run r u) := by
  rcases h with ⟨d, _⟩ | ⟨_, d, _⟩ | ⟨y, hy, d, _, d2, _⟩ | ⟨y, hy, d, d2, w, hw, ew, b, e, c⟩
  · exact absurd (Or.inl ex) d
  · exact absurd ⟨mx, hmx, e1⟩ d
  · have ey : y = 0 := bc_y0 hy (d.symm.trans ex)
    subst ey
    exact absurd d2 hon
  · have ey : y = 0 := bc_y0 hy (d.symm.trans ex)
    subst ey
    have em : w = mx := (nI_eq (by omega) (by omega)).mp (ew.symm.trans e1)
    subst em
    have hok : bc_ok (bc_nn k.n k.n2 0) (bc_rn k.n (k.P 1) (k.P 2) (k.P 3) (k.P 4) w (k.X0, k.pl0)).1.2 := bc_rn_ok w (k.X0, k.pl0) (hR.1.2.2.2.2.2.1 hon)
    exact ⟨b, fun _ => by rw [e]; exact lz_up (f := k.Ou), bc_AB_cg (bc_AB_run (SP' := bc_2 (k.sp0 + nI (bc_rn k.n (k.P 1) (k.P 2) (k.P 3) (k.P 4) w (k.X0, k.pl0)).2) k.sp1) hR.1 (y := 0) (by omega) hok) (fun _ _ => rfl) (fun w hw _ => bc_u20 w hw), bc_MR_cg c (fun _ _ => rfl) (fun w hw _ => ⟨bc_u20 w hw, bc_u20 w hw, fun v _ => congrFun (bc_x20 w hw) v⟩), hR.2.2⟩
theorem lp_run_n1 (hR : lz_R k r) (ex : x = 1) {mx : Nat} (hmx : mx ≤ 10000) (e1 : x1 = nI mx) (hon : k.on1 ≠ 0) {u} (h : lm_run k r x x1 v u) : (lr_run r u).fa = 0 ∧ ((0 : Int32) = 0 → (lk_r1 k (bc_rn k.n2 (k.Q 1) (k.Q 2) (k.Q 3) (k.Q 4) mx (k.X1, k.pl1))).Ou 0 = v.toInt64) ∧ lz_R (lk_r1 k (bc_rn k.n2 (k.Q 1) (k.Q 2) (k.Q 3) (k.Q 4) mx (k.X1, k.pl1))) (lr_run r u) := by
  rcases h with ⟨d, _⟩ | ⟨_, d, _⟩ | ⟨y, hy, d, _, d2, _⟩ | ⟨y, hy, d, d2, w, hw, ew, b, e, c⟩
  · exact absurd (Or.inr ex) d
  · exact absurd ⟨mx, hmx, e1⟩ d
  · have ey : y = 1 := bc_y1 hy (d.symm.trans ex)
    subst ey
    exact absurd d2 hon
  · have ey : y = 1 := bc_y1 hy (d.symm.trans ex)
    subst ey
    have em : w = mx := (nI_eq (by omega) (by omega)).mp (ew.symm.trans e1)
    subst em
    have hok : bc_ok (bc_nn k.n k.n2 1) (bc_rn k.n2 (k.Q 1) (k.Q 2) (k.Q 3) (k.Q 4) w (k.X1, k.pl1)).1.2 := bc_rn_ok w (k.X1, k.pl1) (hR.1.2.2.2.2.2.2 hon).2
    exact ⟨b, fun _ => by rw [e]; exact lz_up (f := k.Ou), bc_AB_cg (bc_AB_run (SP' := bc_2 k.sp0 (k.sp1 + nI (bc_rn k.n2 (k.Q 1) (k.Q 2) (k.Q 3) (k.Q 4) w (k.X1, k.pl1)).2)) hR.1 (y := 1) (by omega) hok) (fun _ _ => rfl) (fun w hw _ => bc_u21 w hw), bc_MR_cg c (fun _ _ => rfl) (fun w hw _ => ⟨bc_u21 w hw, bc_u21 w hw, fun v _ => congrFun (bc_x21 w hw) v⟩), hR.2.2⟩
-- place, steps
theorem lp_place_a (hR : lz_R k r) (h1 : ¬ bc_sd x) {u} (h : lm_place k r x v u) : (lr_place r u).fa = 1 ∧ ((1 : Int32) = 0 → k.Ou 0 = v.toInt64) ∧ lz_R k (lr_place r u) := by
  rcases h with ⟨_, b⟩ | ⟨y, hy, d, _⟩ | ⟨y, hy, d, _⟩
  · exact ⟨b, fun z => absurd z (by decide), hR.1, hR.2.1, hR.2.2⟩
  · exact absurd (by rw [d]; exact bc_sd_of hy) h1
  · exact absurd (by rw [d]; exact bc_sd_of hy) h1
theorem lp_place_b {y : Nat} (hy2 : y < 2) (hR : lz_R k r) (h0 : x = nI y) (h2 : bc_2 k.on0 k.on1 y = 0) {u} (h : lm_place k r x v u) : (lr_place r u).fa = 2 ∧ ((2 : Int32) = 0 → k.Ou 0 = v.toInt64) ∧ lz_R k (lr_place r u) := by
  rcases h with ⟨d, _⟩ | ⟨_, _, _, _, b⟩ | ⟨y', hy, d, d2, _⟩
  · exact absurd (by rw [h0]; exact bc_sd_of hy2) d
  · exact ⟨b, fun z => absurd z (by decide), hR.1, hR.2.1, hR.2.2⟩
  · have ey : y' = y := bc_nIe (by omega) (by omega) (d.symm.trans h0)
    rw [ey] at d2
    exact absurd h2 d2
theorem lp_place_n {y : Nat} (hy2 : y < 2) (hR : lz_R k r) (h0 : x = nI y) (h2 : bc_2 k.on0 k.on1 y ≠ 0) {u} (h : lm_place k r x v u) : (lr_place r u).fa = 0 ∧ ((0 : Int32) = 0 → (lk_o k (bc_2 k.pl0 k.pl1 y).toInt64).Ou 0 = v.toInt64) ∧ lz_R (lk_o k (bc_2 k.pl0 k.pl1 y).toInt64) (lr_place r u) := by
  rcases h with ⟨d, _⟩ | ⟨y', hy, d, d2, _⟩ | ⟨y', hy, d, _, b, e⟩
  · exact absurd (by rw [h0]; exact bc_sd_of hy2) d
  · have ey : y' = y := bc_nIe (by omega) (by omega) (d.symm.trans h0)
    rw [ey] at d2
    exact absurd d2 h2
  · have ey : y' = y := bc_nIe (by omega) (by omega) (d.symm.trans h0)
    rw [ey] at e
    exact ⟨b, fun _ => by rw [e]; exact lz_up (f := k.Ou), hR.1, hR.2.1, hR.2.2⟩
theorem lp_steps_a (hR : lz_R k r) (h1 : ¬ bc_sd x) {u} (h : lm_steps k r x v u) : (lr_steps r u).fa = 1 ∧ ((1 : Int32) = 0 → k.Ou 0 = v.toInt64) ∧ lz_R k (lr_steps r u) := by
  rcases h with ⟨_, b⟩ | ⟨y, hy, d, _⟩ | ⟨y, hy, d, _⟩
  · exact ⟨b, fun z => absurd z (by decide), hR.1, hR.2.1, hR.2.2⟩
  · exact absurd (by rw [d]; exact bc_sd_of hy) h1
  · exact absurd (by rw [d]; exact bc_sd_of hy) h1
theorem lp_steps_b {y : Nat} (hy2 : y < 2) (hR : lz_R k r) (h0 : x = nI y) (h2 : bc_2 k.on0 k.on1 y = 0) {u} (h : lm_steps k r x v u) : (lr_steps r u).fa = 2 ∧ ((2 : Int32) = 0 → k.Ou 0 = v.toInt64) ∧ lz_R k (lr_steps r u) := by
  rcases h with ⟨d, _⟩ | ⟨_, _, _, _, b⟩ | ⟨y', hy, d, d2, _⟩
  · exact absurd (by rw [h0]; exact bc_sd_of hy2) d
  · exact ⟨b, fun z => absurd z (by decide), hR.1, hR.2.1, hR.2.2⟩
  · have ey : y' = y := bc_nIe (by omega) (by omega) (d.symm.trans h0)
    rw [ey] at d2
    exact absurd h2 d2
theorem lp_steps_n {y : Nat} (hy2 : y < 2) (hR : lz_R k r) (h0 : x = nI y) (h2 : bc_2 k.on0 k.on1 y ≠ 0) {u} (h : lm_steps k r x v u) : (lr_steps r u).fa = 0 ∧ ((0 : Int32) = 0 → (lk_o k (bc_2 k.sp0 k.sp1 y).toInt64).Ou 0 = v.toInt64) ∧ lz_R (lk_o k (bc_2 k.sp0 k.sp1 y).toInt64) (lr_steps r u) := by
  rcases h with ⟨d, _⟩ | ⟨y', hy, d, d2, _⟩ | ⟨y', hy, d, _, b, e⟩
  · exact absurd (by rw [h0]; exact bc_sd_of hy2) d
  · have ey : y' = y := bc_nIe (by omega) (by omega) (d.symm.trans h0)
    rw [ey] at d2
    exact absurd d2 h2
  · have ey : y' = y := bc_nIe (by omega) (by omega) (d.symm.trans h0)
    rw [ey] at e
    exact ⟨b, fun _ => by rw [e]; exact lz_up (f := k.Ou), hR.1, hR.2.1, hR.2.2⟩
-- value
theorem lp_value_x (hR : lz_R k r) (h1 : ¬ (bc_sd x ∧ bc_vr x1)) {u} (h : lm_value k r x x1 v u) : (lr_value r u).fa = 1 ∧ ((1 : Int32) = 0 → k.Ou 0 = v.toInt64) ∧ lz_R k (lr_value r u) := by
  rcases h with ⟨_, b⟩ | ⟨y, hy, d, d2, _⟩ | ⟨y, hy, d, _, w, hw, d2, _⟩
  · exact ⟨b, fun z => absurd z (by decide), hR.1, hR.2.1, hR.2.2⟩
  · exact absurd ⟨by rw [d]; exact bc_sd_of hy, d2⟩ h1
  · exact absurd ⟨by rw [d]; exact bc_sd_of hy, w, hw, d2⟩ h1
theorem lp_value_c {y : Nat} (hy2 : y < 2) (hR : lz_R k r) (h0 : x = nI y) (h1 : bc_vr x1) (h2 : bc_2 k.on0 k.on1 y = 0) {u} (h : lm_value k r x x1 v u) : (lr_value r u).fa = 2 ∧ ((2 : Int32) = 0 → k.Ou 0 = v.toInt64) ∧ lz_R k (lr_value r u) := by
  rcases h with ⟨d | d, _⟩ | ⟨_, _, _, _, _, b⟩ | ⟨y', hy, d, d2, _⟩
  · exact absurd (by rw [h0]; exact bc_sd_of hy2) d
  · exact absurd h1 d
  · exact ⟨b, fun z => absurd z (by decide), hR.1, hR.2.1, hR.2.2⟩
  · have ey : y' = y := bc_nIe (by omega) (by omega) (d.symm.trans h0)
    rw [ey] at d2
    exact absurd h2 d2
theorem lp_value_n {y : Nat} (hy2 : y < 2) (hR : lz_R k r) (h0 : x = nI y) (h2 : bc_2 k.on0 k.on1 y ≠ 0) {w : Nat} (hw6 : w < 6) (e1 : x1 = nI w) {u} (h : lm_value k r x x1 v u) : (lr_value r u).fa = 0 ∧ ((0 : Int32) = 0 → (lk_o k (bc_X2 k.X0 k.X1 y w).toInt64).Ou 0 = v.toInt64) ∧ lz_R (lk_o k (bc_X2 k.X0 k.X1 y w).toInt64) (lr_value r u) := by
  rcases h with ⟨d | d, _⟩ | ⟨y', hy, d, _, d2, _⟩ | ⟨y', hy, d, _, w', hw', ew', b, e⟩
  · exact absurd (by rw [h0]; exact bc_sd_of hy2) d
  · exact absurd ⟨w, hw6, e1⟩ d
  · have ey : y' = y := bc_nIe (by omega) (by omega) (d.symm.trans h0)
    rw [ey] at d2
    exact absurd d2 h2
  · have ey : y' = y := bc_nIe (by omega) (by omega) (d.symm.trans h0)
    have ew : w' = w := bc_nIe (by omega) (by omega) (ew'.symm.trans e1)
    rw [ey, ew] at e
    exact ⟨b, fun _ => by rw [e]; exact lz_up (f := k.Ou), hR.1, hR.2.1, hR.2.2⟩
end LP

