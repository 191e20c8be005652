/-- the reference's terms -/
def g_ew (h : xH) (B : Nat → Nat → Int32) (Nm : Nat → Int64) (z q : Int32) : xH := x_up (x_up (x_up (x_up (x_up (x_up (x_up h 24 (.inr (6, [.ref 25, .ref 26, .ref 27, .ref 28, .ref 29, .ref 30, .int z, .int q]))) 25 (.inl (0, 9000, .inl (B 0)))) 26 (.inl (0, 9000, .inl (B 1)))) 27 (.inl (0, 9000, .inl (B 2)))) 28 (.inl (0, 9000, .inl (B 3)))) 29 (.inl (0, 9000, .inl (B 4)))) 30 (.inl (2, 9000, .inr (.inl Nm)))
/-- a new row: kind, name, how many -/
def g_b3 (B : Nat → Nat → Int32) (z : Nat) (k n m : Int32) : Nat → Nat → Int32 := g_ar (g_ar (g_ar B 0 z k) 1 z n) 3 z m
/-- a new row with a number -/
def g_b2n3 (B : Nat → Nat → Int32) (z : Nat) : Nat → Nat → Int32 := g_ar (g_ar B 0 z 1) 3 z 0
/-- parts taken over from the stack -/
def g_bp (P St : Nat → Int32) (q mark n : Nat) : Nat → Int32 := fun j => if q ≤ j ∧ j < q + n then St (mark + (j - q)) else P j
theorem g_bp0 {P St : Nat → Int32} {q mark : Nat} : g_bp P St q mark 0 = P := by
  funext j
  unfold g_bp
  rw [if_neg (by omega)]
theorem g_bps {P St : Nat → Int32} {q mark n : Nat} : upd (g_bp P St q mark n) (q + n) (St (mark + n)) = g_bp P St q mark (n + 1) := by
  funext j
  by_cases e : j = q + n
  · rw [e, g_updY]; unfold g_bp; rw [if_pos ⟨by omega, by omega⟩, show mark + (q + n - q) = mark + n by omega]
  · rw [g_updN e]; unfold g_bp
    by_cases e2 : q ≤ j ∧ j < q + n
    · rw [if_pos e2, if_pos ⟨e2.1, by omega⟩]
    · rw [if_neg e2, if_neg (by omega)]
/-- a new compound: its row, its parts -/
def g_bc (B : Nat → Nat → Int32) (z q : Nat) (n : Int32) (St : Nat → Int32) (mark m : Nat) : Nat → Nat → Int32 := fun i => bif Nat.beq i 4 then g_bp (B 4) St q mark m else g_ar (g_b3 B z 2 n (nI m)) 2 z (nI q) i
theorem d_TS_variable_0 : decode M_TS_variable.2.1 0 = .ok (.aload_n 0, 1) := by decide +kernel
theorem d_TS_variable_1 : decode M_TS_variable.2.1 1 = .ok (.getfield 9, 3) := by decide +kernel
theorem d_TS_variable_4 : decode M_TS_variable.2.1 4 = .ok (.aload_n 0, 1) := by decide +kernel
theorem d_TS_variable_5 : decode M_TS_variable.2.1 5 = .ok (.getfield 31, 3) := by decide +kernel
theorem d_TS_variable_8 : decode M_TS_variable.2.1 8 = .ok (.iconst 0, 1) := by decide +kernel
theorem d_TS_variable_9 : decode M_TS_variable.2.1 9 = .ok (.iastore, 1) := by decide +kernel
theorem d_TS_variable_10 : decode M_TS_variable.2.1 10 = .ok (.aload_n 0, 1) := by decide +kernel
theorem d_TS_variable_11 : decode M_TS_variable.2.1 11 = .ok (.getfield 15, 3) := by decide +kernel
theorem d_TS_variable_14 : decode M_TS_variable.2.1 14 = .ok (.aload_n 0, 1) := by decide +kernel
theorem d_TS_variable_15 : decode M_TS_variable.2.1 15 = .ok (.getfield 31, 3) := by decide +kernel
theorem d_TS_variable_18 : decode M_TS_variable.2.1 18 = .ok (.iload_n 1, 1) := by decide +kernel
theorem d_TS_variable_19 : decode M_TS_variable.2.1 19 = .ok (.iastore, 1) := by decide +kernel
theorem d_TS_variable_20 : decode M_TS_variable.2.1 20 = .ok (.aload_n 0, 1) := by decide +kernel
theorem d_TS_variable_21 : decode M_TS_variable.2.1 21 = .ok (.getfield 21, 3) := by decide +kernel
theorem d_TS_variable_24 : decode M_TS_variable.2.1 24 = .ok (.aload_n 0, 1) := by decide +kernel
theorem d_TS_variable_25 : decode M_TS_variable.2.1 25 = .ok (.getfield 31, 3) := by decide +kernel
theorem d_TS_variable_28 : decode M_TS_variable.2.1 28 = .ok (.iconst 0, 1) := by decide +kernel
theorem d_TS_variable_29 : decode M_TS_variable.2.1 29 = .ok (.iastore, 1) := by decide +kernel
theorem d_TS_variable_30 : decode M_TS_variable.2.1 30 = .ok (.aload_n 0, 1) := by decide +kernel
theorem d_TS_variable_31 : decode M_TS_variable.2.1 31 = .ok (.dup, 1) := by decide +kernel
theorem d_TS_variable_32 : decode M_TS_variable.2.1 32 = .ok (.getfield 31, 3) := by decide +kernel
theorem d_TS_variable_35 : decode M_TS_variable.2.1 35 = .ok (.dup_x1, 1) := by decide +kernel
theorem d_TS_variable_36 : decode M_TS_variable.2.1 36 = .ok (.iconst 1, 1) := by decide +kernel
theorem d_TS_variable_37 : decode M_TS_variable.2.1 37 = .ok (.iadd, 1) := by decide +kernel
theorem d_TS_variable_38 : decode M_TS_variable.2.1 38 = .ok (.putfield 31, 3) := by decide +kernel
theorem d_TS_variable_41 : decode M_TS_variable.2.1 41 = .ok (.ireturn, 1) := by decide +kernel
set_option maxRecDepth 20000 in
theorem w_TS_variable {E : xR} {h : xH} {B : Nat → Nat → Int32} {Nm : Nat → Int64} {z : Nat} {q : Int32} {v : Int32} (hz : z < 9000) : x_Mt E M_TS_variable 0 0 0 [.ref 24, .int v] 52 (g_ew h B Nm (nI z) q) (x_Y (some (.int (nI z))) 52 (g_ew h (g_b3 B z 0 v 0) Nm (nI (z + 1)) q)) := by
  refine x_Mt.of (by decide) (Nat.le_of_ble_eq_true rfl) ?_
  show x_W E M_TS_variable _ _ 52 (g_ew h B Nm (nI z) q) 0 [(0, .ref 24), (1, .int v)] [] 0 0
  refine x_aload_n d_TS_variable_0 rfl rfl ?_
  refine x_get d_TS_variable_1 f_TS_9 (Nat.le_of_ble_eq_true rfl) (Nat.le_of_ble_eq_true rfl) (by first | rfl | assumption) (by rfl) ?_
  refine x_aload_n d_TS_variable_4 rfl rfl ?_
  refine x_get d_TS_variable_5 f_TS_31 (Nat.le_of_ble_eq_true rfl) (Nat.le_of_ble_eq_true rfl) (by first | rfl | assumption) (by rfl) ?_
  refine x_iconst 0 d_TS_variable_8 (by decide) ?_
  refine x_iast d_TS_variable_9 (Nat.le_of_ble_eq_true rfl) (Nat.le_of_ble_eq_true rfl) (by first | rfl | assumption) (vp_in_nI hz (by decide)) ?_
  refine x_aload_n d_TS_variable_10 rfl rfl ?_
  refine x_get d_TS_variable_11 f_TS_15 (Nat.le_of_ble_eq_true rfl) (Nat.le_of_ble_eq_true rfl) (by first | rfl | assumption) (by rfl) ?_
  refine x_aload_n d_TS_variable_14 rfl rfl ?_
  refine x_get d_TS_variable_15 f_TS_31 (Nat.le_of_ble_eq_true rfl) (Nat.le_of_ble_eq_true rfl) (by first | rfl | assumption) (by rfl) ?_
  refine x_iload_n d_TS_variable_18 rfl rfl ?_
  refine x_iast d_TS_variable_19 (Nat.le_of_ble_eq_true rfl) (Nat.le_of_ble_eq_true rfl) (by first | rfl | assumption) (vp_in_nI hz (by decide)) ?_
  refine x_aload_n d_TS_variable_20 rfl rfl ?_
  refine x_get d_TS_variable_21 f_TS_21 (Nat.le_of_ble_eq_true rfl) (Nat.le_of_ble_eq_true rfl) (by first | rfl | assumption) (by rfl) ?_
  refine x_aload_n d_TS_variable_24 rfl rfl ?_
  refine x_get d_TS_variable_25 f_TS_31 (Nat.le_of_ble_eq_true rfl) (Nat.le_of_ble_eq_true rfl) (by first | rfl | assumption) (by rfl) ?_
  refine x_iconst 0 d_TS_variable_28 (by decide) ?_
  refine x_iast d_TS_variable_29 (Nat.le_of_ble_eq_true rfl) (Nat.le_of_ble_eq_true rfl) (by first | rfl | assumption) (vp_in_nI hz (by decide)) ?_
  refine x_aload_n d_TS_variable_30 rfl rfl ?_
  refine x_dup d_TS_variable_31 rfl ?_
  refine x_get d_TS_variable_32 f_TS_31 (Nat.le_of_ble_eq_true rfl) (Nat.le_of_ble_eq_true rfl) (by first | rfl | assumption) (by rfl) ?_
  refine x_dup_x1 d_TS_variable_35 rfl rfl ?_
  refine x_iconst 1 d_TS_variable_36 (by decide) ?_
  refine x_iadd d_TS_variable_37 ?_
  refine x_topi (nI (z + 1)) (nI_succ z).symm ?_
  refine x_put d_TS_variable_38 f_TS_31 (Nat.le_of_ble_eq_true rfl) (Nat.le_of_ble_eq_true rfl) (by first | rfl | assumption) (by rfl) (by rfl) (by exact (Nat.le_of_ble_eq_true rfl)) ?_
  exact x_ireturn d_TS_variable_41 rfl rfl ⟨rfl, rfl, x_pt rfl rfl rfl rfl rfl rfl rfl rfl rfl rfl rfl rfl rfl rfl rfl rfl rfl rfl rfl rfl rfl rfl rfl rfl rfl (show Sum.inl (0, 9000, Sum.inl (upd _ (nI z).toNatClampNeg _)) = _ by rw [nI_clamp (by omega)]; rfl) (show Sum.inl (0, 9000, Sum.inl (upd _ (nI z).toNatClampNeg _)) = _ by rw [nI_clamp (by omega)]; rfl) rfl (show Sum.inl (0, 9000, Sum.inl (upd _ (nI z).toNatClampNeg _)) = _ by rw [nI_clamp (by omega)]; rfl) rfl rfl rfl rfl rfl rfl rfl rfl rfl rfl rfl rfl rfl rfl rfl rfl rfl rfl rfl rfl rfl rfl rfl, rfl, rfl⟩
theorem d_TS_atom_0 : decode M_TS_atom.2.1 0 = .ok (.aload_n 0, 1) := by decide +kernel
theorem d_TS_atom_1 : decode M_TS_atom.2.1 1 = .ok (.getfield 9, 3) := by decide +kernel
theorem d_TS_atom_4 : decode M_TS_atom.2.1 4 = .ok (.aload_n 0, 1) := by decide +kernel
theorem d_TS_atom_5 : decode M_TS_atom.2.1 5 = .ok (.getfield 31, 3) := by decide +kernel
theorem d_TS_atom_8 : decode M_TS_atom.2.1 8 = .ok (.iconst 2, 1) := by decide +kernel
theorem d_TS_atom_9 : decode M_TS_atom.2.1 9 = .ok (.iastore, 1) := by decide +kernel
theorem d_TS_atom_10 : decode M_TS_atom.2.1 10 = .ok (.aload_n 0, 1) := by decide +kernel
theorem d_TS_atom_11 : decode M_TS_atom.2.1 11 = .ok (.getfield 15, 3) := by decide +kernel
theorem d_TS_atom_14 : decode M_TS_atom.2.1 14 = .ok (.aload_n 0, 1) := by decide +kernel
theorem d_TS_atom_15 : decode M_TS_atom.2.1 15 = .ok (.getfield 31, 3) := by decide +kernel
theorem d_TS_atom_18 : decode M_TS_atom.2.1 18 = .ok (.iload_n 1, 1) := by decide +kernel
theorem d_TS_atom_19 : decode M_TS_atom.2.1 19 = .ok (.iastore, 1) := by decide +kernel
theorem d_TS_atom_20 : decode M_TS_atom.2.1 20 = .ok (.aload_n 0, 1) := by decide +kernel
theorem d_TS_atom_21 : decode M_TS_atom.2.1 21 = .ok (.getfield 21, 3) := by decide +kernel
theorem d_TS_atom_24 : decode M_TS_atom.2.1 24 = .ok (.aload_n 0, 1) := by decide +kernel
theorem d_TS_atom_25 : decode M_TS_atom.2.1 25 = .ok (.getfield 31, 3) := by decide +kernel
theorem d_TS_atom_28 : decode M_TS_atom.2.1 28 = .ok (.iconst 0, 1) := by decide +kernel
theorem d_TS_atom_29 : decode M_TS_atom.2.1 29 = .ok (.iastore, 1) := by decide +kernel
theorem d_TS_atom_30 : decode M_TS_atom.2.1 30 = .ok (.aload_n 0, 1) := by decide +kernel
theorem d_TS_atom_31 : decode M_TS_atom.2.1 31 = .ok (.dup, 1) := by decide +kernel
theorem d_TS_atom_32 : decode M_TS_atom.2.1 32 = .ok (.getfield 31, 3) := by decide +kernel
theorem d_TS_atom_35 : decode M_TS_atom.2.1 35 = .ok (.dup_x1, 1) := by decide +kernel
theorem d_TS_atom_36 : decode M_TS_atom.2.1 36 = .ok (.iconst 1, 1) := by decide +kernel
theorem d_TS_atom_37 : decode M_TS_atom.2.1 37 = .ok (.iadd, 1) := by decide +kernel
theorem d_TS_atom_38 : decode M_TS_atom.2.1 38 = .ok (.putfield 31, 3) := by decide +kernel
theorem d_TS_atom_41 : decode M_TS_atom.2.1 41 = .ok (.ireturn, 1) := by decide +kernel
set_option maxRecDepth 20000 in
theorem w_TS_atom {E : xR} {h : xH} {B : Nat → Nat → Int32} {Nm : Nat → Int64} {z : Nat} {q : Int32} {v : Int32} (hz : z < 9000) : x_Mt E M_TS_atom 0 0 0 [.ref 24, .int v] 52 (g_ew h B Nm (nI z) q) (x_Y (some (.int (nI z))) 52 (g_ew h (g_b3 B z 2 v 0) Nm (nI (z + 1)) q)) := by
  refine x_Mt.of (by decide) (Nat.le_of_ble_eq_true rfl) ?_
  show x_W E M_TS_atom _ _ 52 (g_ew h B Nm (nI z) q) 0 [(0, .ref 24), (1, .int v)] [] 0 0
  refine x_aload_n d_TS_atom_0 rfl rfl ?_
  refine x_get d_TS_atom_1 f_TS_9 (Nat.le_of_ble_eq_true rfl) (Nat.le_of_ble_eq_true rfl) (by first | rfl | assumption) (by rfl) ?_
  refine x_aload_n d_TS_atom_4 rfl rfl ?_
  refine x_get d_TS_atom_5 f_TS_31 (Nat.le_of_ble_eq_true rfl) (Nat.le_of_ble_eq_true rfl) (by first | rfl | assumption) (by rfl) ?_
  refine x_iconst 2 d_TS_atom_8 (by decide) ?_
  refine x_iast d_TS_atom_9 (Nat.le_of_ble_eq_true rfl) (Nat.le_of_ble_eq_true rfl) (by first | rfl | assumption) (vp_in_nI hz (by decide)) ?_
  refine x_aload_n d_TS_atom_10 rfl rfl ?_
  refine x_get d_TS_atom_11 f_TS_15 (Nat.le_of_ble_eq_true rfl) (Nat.le_of_ble_eq_true rfl) (by first | rfl | assumption) (by rfl) ?_
  refine x_aload_n d_TS_atom_14 rfl rfl ?_
  refine x_get d_TS_atom_15 f_TS_31 (Nat.le_of_ble_eq_true rfl) (Nat.le_of_ble_eq_true rfl) (by first | rfl | assumption) (by rfl) ?_
  refine x_iload_n d_TS_atom_18 rfl rfl ?_
  refine x_iast d_TS_atom_19 (Nat.le_of_ble_eq_true rfl) (Nat.le_of_ble_eq_true rfl) (by first | rfl | assumption) (vp_in_nI hz (by decide)) ?_
  refine x_aload_n d_TS_atom_20 rfl rfl ?_
  refine x_get d_TS_atom_21 f_TS_21 (Nat.le_of_ble_eq_true rfl) (Nat.le_of_ble_eq_true rfl) (by first | rfl | assumption) (by rfl) ?_
  refine x_aload_n d_TS_atom_24 rfl rfl ?_
  refine x_get d_TS_atom_25 f_TS_31 (Nat.le_of_ble_eq_true rfl) (Nat.le_of_ble_eq_true rfl) (by first | rfl | assumption) (by rfl) ?_
  refine x_iconst 0 d_TS_atom_28 (by decide) ?_
  refine x_iast d_TS_atom_29 (Nat.le_of_ble_eq_true rfl) (Nat.le_of_ble_eq_true rfl) (by first | rfl | assumption) (vp_in_nI hz (by decide)) ?_
  refine x_aload_n d_TS_atom_30 rfl rfl ?_
  refine x_dup d_TS_atom_31 rfl ?_
  refine x_get d_TS_atom_32 f_TS_31 (Nat.le_of_ble_eq_true rfl) (Nat.le_of_ble_eq_true rfl) (by first | rfl | assumption) (by rfl) ?_
  refine x_dup_x1 d_TS_atom_35 rfl rfl ?_
  refine x_iconst 1 d_TS_atom_36 (by decide) ?_
  refine x_iadd d_TS_atom_37 ?_
  refine x_topi (nI (z + 1)) (nI_succ z).symm ?_
  refine x_put d_TS_atom_38 f_TS_31 (Nat.le_of_ble_eq_true rfl) (Nat.le_of_ble_eq_true rfl) (by first | rfl | assumption) (by rfl) (by rfl) (by exact (Nat.le_of_ble_eq_true rfl)) ?_
  exact x_ireturn d_TS_atom_41 rfl rfl ⟨rfl, rfl, x_pt rfl rfl rfl rfl rfl rfl rfl rfl rfl rfl rfl rfl rfl rfl rfl rfl rfl rfl rfl rfl rfl rfl rfl rfl rfl (show Sum.inl (0, 9000, Sum.inl (upd _ (nI z).toNatClampNeg _)) = _ by rw [nI_clamp (by omega)]; rfl) (show Sum.inl (0, 9000, Sum.inl (upd _ (nI z).toNatClampNeg _)) = _ by rw [nI_clamp (by omega)]; rfl) rfl (show Sum.inl (0, 9000, Sum.inl (upd _ (nI z).toNatClampNeg _)) = _ by rw [nI_clamp (by omega)]; rfl) rfl rfl rfl rfl rfl rfl rfl rfl rfl rfl rfl rfl rfl rfl rfl rfl rfl rfl rfl rfl rfl rfl rfl, rfl, rfl⟩
theorem d_TS_integer_0 : decode M_TS_integer.2.1 0 = .ok (.aload_n 0, 1) := by decide +kernel
theorem d_TS_integer_1 : decode M_TS_integer.2.1 1 = .ok (.getfield 9, 3) := by decide +kernel
theorem d_TS_integer_4 : decode M_TS_integer.2.1 4 = .ok (.aload_n 0, 1) := by decide +kernel
theorem d_TS_integer_5 : decode M_TS_integer.2.1 5 = .ok (.getfield 31, 3) := by decide +kernel
theorem d_TS_integer_8 : decode M_TS_integer.2.1 8 = .ok (.iconst 1, 1) := by decide +kernel
theorem d_TS_integer_9 : decode M_TS_integer.2.1 9 = .ok (.iastore, 1) := by decide +kernel
theorem d_TS_integer_10 : decode M_TS_integer.2.1 10 = .ok (.aload_n 0, 1) := by decide +kernel
theorem d_TS_integer_11 : decode M_TS_integer.2.1 11 = .ok (.getfield 27, 3) := by decide +kernel
theorem d_TS_integer_14 : decode M_TS_integer.2.1 14 = .ok (.aload_n 0, 1) := by decide +kernel
theorem d_TS_integer_15 : decode M_TS_integer.2.1 15 = .ok (.getfield 31, 3) := by decide +kernel
theorem d_TS_integer_18 : decode M_TS_integer.2.1 18 = .ok (.lload_n 1, 1) := by decide +kernel
theorem d_TS_integer_19 : decode M_TS_integer.2.1 19 = .ok (.lastore, 1) := by decide +kernel
theorem d_TS_integer_20 : decode M_TS_integer.2.1 20 = .ok (.aload_n 0, 1) := by decide +kernel
theorem d_TS_integer_21 : decode M_TS_integer.2.1 21 = .ok (.getfield 21, 3) := by decide +kernel
theorem d_TS_integer_24 : decode M_TS_integer.2.1 24 = .ok (.aload_n 0, 1) := by decide +kernel
theorem d_TS_integer_25 : decode M_TS_integer.2.1 25 = .ok (.getfield 31, 3) := by decide +kernel
theorem d_TS_integer_28 : decode M_TS_integer.2.1 28 = .ok (.iconst 0, 1) := by decide +kernel
theorem d_TS_integer_29 : decode M_TS_integer.2.1 29 = .ok (.iastore, 1) := by decide +kernel
theorem d_TS_integer_30 : decode M_TS_integer.2.1 30 = .ok (.aload_n 0, 1) := by decide +kernel
theorem d_TS_integer_31 : decode M_TS_integer.2.1 31 = .ok (.dup, 1) := by decide +kernel
theorem d_TS_integer_32 : decode M_TS_integer.2.1 32 = .ok (.getfield 31, 3) := by decide +kernel
theorem d_TS_integer_35 : decode M_TS_integer.2.1 35 = .ok (.dup_x1, 1) := by decide +kernel
theorem d_TS_integer_36 : decode M_TS_integer.2.1 36 = .ok (.iconst 1, 1) := by decide +kernel
theorem d_TS_integer_37 : decode M_TS_integer.2.1 37 = .ok (.iadd, 1) := by decide +kernel
theorem d_TS_integer_38 : decode M_TS_integer.2.1 38 = .ok (.putfield 31, 3) := by decide +kernel
theorem d_TS_integer_41 : decode M_TS_integer.2.1 41 = .ok (.ireturn, 1) := by decide +kernel
set_option maxRecDepth 20000 in
theorem w_TS_integer {E : xR} {h : xH} {B : Nat → Nat → Int32} {Nm : Nat → Int64} {z : Nat} {q : Int32} {v : Int64} (hz : z < 9000) : x_Mt E M_TS_integer 0 0 0 [.ref 24, .long v] 52 (g_ew h B Nm (nI z) q) (x_Y (some (.int (nI z))) 52 (g_ew h (g_b2n3 B z) (vp_updL Nm z v) (nI (z + 1)) q)) := by
  refine x_Mt.of (by decide) (Nat.le_of_ble_eq_true rfl) ?_
  show x_W E M_TS_integer _ _ 52 (g_ew h B Nm (nI z) q) 0 [(0, .ref 24), (1, .long v)] [] 0 0
  refine x_aload_n d_TS_integer_0 rfl rfl ?_
  refine x_get d_TS_integer_1 f_TS_9 (Nat.le_of_ble_eq_true rfl) (Nat.le_of_ble_eq_true rfl) (by first | rfl | assumption) (by rfl) ?_
  refine x_aload_n d_TS_integer_4 rfl rfl ?_
  refine x_get d_TS_integer_5 f_TS_31 (Nat.le_of_ble_eq_true rfl) (Nat.le_of_ble_eq_true rfl) (by first | rfl | assumption) (by rfl) ?_
  refine x_iconst 1 d_TS_integer_8 (by decide) ?_
  refine x_iast d_TS_integer_9 (Nat.le_of_ble_eq_true rfl) (Nat.le_of_ble_eq_true rfl) (by first | rfl | assumption) (vp_in_nI hz (by decide)) ?_
  refine x_aload_n d_TS_integer_10 rfl rfl ?_
  refine x_get d_TS_integer_11 f_TS_27 (Nat.le_of_ble_eq_true rfl) (Nat.le_of_ble_eq_true rfl) (by first | rfl | assumption) (by rfl) ?_
  refine x_aload_n d_TS_integer_14 rfl rfl ?_
  refine x_get d_TS_integer_15 f_TS_31 (Nat.le_of_ble_eq_true rfl) (Nat.le_of_ble_eq_true rfl) (by first | rfl | assumption) (by rfl) ?_
  refine x_lload_n d_TS_integer_18 rfl rfl ?_
  refine x_last d_TS_integer_19 (Nat.le_of_ble_eq_true rfl) (Nat.le_of_ble_eq_true rfl) (by first | rfl | assumption) (vp_in_nI hz (by decide)) ?_
  refine x_aload_n d_TS_integer_20 rfl rfl ?_
  refine x_get d_TS_integer_21 f_TS_21 (Nat.le_of_ble_eq_true rfl) (Nat.le_of_ble_eq_true rfl) (by first | rfl | assumption) (by rfl) ?_
  refine x_aload_n d_TS_integer_24 rfl rfl ?_
  refine x_get d_TS_integer_25 f_TS_31 (Nat.le_of_ble_eq_true rfl) (Nat.le_of_ble_eq_true rfl) (by first | rfl | assumption) (by rfl) ?_
  refine x_iconst 0 d_TS_integer_28 (by decide) ?_
  refine x_iast d_TS_integer_29 (Nat.le_of_ble_eq_true rfl) (Nat.le_of_ble_eq_true rfl) (by first | rfl | assumption) (vp_in_nI hz (by decide)) ?_
  refine x_aload_n d_TS_integer_30 rfl rfl ?_
  refine x_dup d_TS_integer_31 rfl ?_
  refine x_get d_TS_integer_32 f_TS_31 (Nat.le_of_ble_eq_true rfl) (Nat.le_of_ble_eq_true rfl) (by first | rfl | assumption) (by rfl) ?_
  refine x_dup_x1 d_TS_integer_35 rfl rfl ?_
  refine x_iconst 1 d_TS_integer_36 (by decide) ?_
  refine x_iadd d_TS_integer_37 ?_
  refine x_topi (nI (z + 1)) (nI_succ z).symm ?_
  refine x_put d_TS_integer_38 f_TS_31 (Nat.le_of_ble_eq_true rfl) (Nat.le_of_ble_eq_true rfl) (by first | rfl | assumption) (by rfl) (by rfl) (by exact (Nat.le_of_ble_eq_true rfl)) ?_
  exact x_ireturn d_TS_integer_41 rfl rfl ⟨rfl, rfl, x_pt rfl rfl rfl rfl rfl rfl rfl rfl rfl rfl rfl rfl rfl rfl rfl rfl rfl rfl rfl rfl rfl rfl rfl rfl rfl (show Sum.inl (0, 9000, Sum.inl (upd _ (nI z).toNatClampNeg _)) = _ by rw [nI_clamp (by omega)]; rfl) rfl rfl (show Sum.inl (0, 9000, Sum.inl (upd _ (nI z).toNatClampNeg _)) = _ by rw [nI_clamp (by omega)]; rfl) rfl (show Sum.inl (2, 9000, Sum.inr (Sum.inl (vp_updL _ (nI z).toNatClampNeg _))) = _ by rw [nI_clamp (by omega)]; rfl) rfl rfl rfl rfl rfl rfl rfl rfl rfl rfl rfl rfl rfl rfl rfl rfl rfl rfl rfl rfl rfl, rfl, rfl⟩
theorem d_TS_compound_0 : decode M_TS_compound.2.1 0 = .ok (.aload_n 0, 1) := by decide +kernel
theorem d_TS_compound_1 : decode M_TS_compound.2.1 1 = .ok (.getfield 9, 3) := by decide +kernel
theorem d_TS_compound_4 : decode M_TS_compound.2.1 4 = .ok (.aload_n 0, 1) := by decide +kernel
theorem d_TS_compound_5 : decode M_TS_compound.2.1 5 = .ok (.getfield 31, 3) := by decide +kernel
theorem d_TS_compound_8 : decode M_TS_compound.2.1 8 = .ok (.iconst 2, 1) := by decide +kernel
theorem d_TS_compound_9 : decode M_TS_compound.2.1 9 = .ok (.iastore, 1) := by decide +kernel
theorem d_TS_compound_10 : decode M_TS_compound.2.1 10 = .ok (.aload_n 0, 1) := by decide +kernel
theorem d_TS_compound_11 : decode M_TS_compound.2.1 11 = .ok (.getfield 15, 3) := by decide +kernel
theorem d_TS_compound_14 : decode M_TS_compound.2.1 14 = .ok (.aload_n 0, 1) := by decide +kernel
theorem d_TS_compound_15 : decode M_TS_compound.2.1 15 = .ok (.getfield 31, 3) := by decide +kernel
theorem d_TS_compound_18 : decode M_TS_compound.2.1 18 = .ok (.iload_n 1, 1) := by decide +kernel
theorem d_TS_compound_19 : decode M_TS_compound.2.1 19 = .ok (.iastore, 1) := by decide +kernel
theorem d_TS_compound_20 : decode M_TS_compound.2.1 20 = .ok (.aload_n 0, 1) := by decide +kernel
theorem d_TS_compound_21 : decode M_TS_compound.2.1 21 = .ok (.getfield 21, 3) := by decide +kernel
theorem d_TS_compound_24 : decode M_TS_compound.2.1 24 = .ok (.aload_n 0, 1) := by decide +kernel
theorem d_TS_compound_25 : decode M_TS_compound.2.1 25 = .ok (.getfield 31, 3) := by decide +kernel
theorem d_TS_compound_28 : decode M_TS_compound.2.1 28 = .ok (.iload 4, 2) := by decide +kernel
theorem d_TS_compound_30 : decode M_TS_compound.2.1 30 = .ok (.iastore, 1) := by decide +kernel
theorem d_TS_compound_31 : decode M_TS_compound.2.1 31 = .ok (.aload_n 0, 1) := by decide +kernel
theorem d_TS_compound_32 : decode M_TS_compound.2.1 32 = .ok (.getfield 18, 3) := by decide +kernel
theorem d_TS_compound_35 : decode M_TS_compound.2.1 35 = .ok (.aload_n 0, 1) := by decide +kernel
theorem d_TS_compound_36 : decode M_TS_compound.2.1 36 = .ok (.getfield 31, 3) := by decide +kernel
theorem d_TS_compound_39 : decode M_TS_compound.2.1 39 = .ok (.aload_n 0, 1) := by decide +kernel
theorem d_TS_compound_40 : decode M_TS_compound.2.1 40 = .ok (.getfield 35, 3) := by decide +kernel
theorem d_TS_compound_43 : decode M_TS_compound.2.1 43 = .ok (.iastore, 1) := by decide +kernel
theorem d_TS_compound_44 : decode M_TS_compound.2.1 44 = .ok (.iconst 0, 1) := by decide +kernel
theorem d_TS_compound_45 : decode M_TS_compound.2.1 45 = .ok (.istore 5, 2) := by decide +kernel
theorem d_TS_compound_47 : decode M_TS_compound.2.1 47 = .ok (.iload 5, 2) := by decide +kernel
theorem d_TS_compound_49 : decode M_TS_compound.2.1 49 = .ok (.iload 4, 2) := by decide +kernel
theorem d_TS_compound_51 : decode M_TS_compound.2.1 51 = .ok (.if_icmp .ge 34, 3) := by decide +kernel
theorem d_TS_compound_54 : decode M_TS_compound.2.1 54 = .ok (.aload_n 0, 1) := by decide +kernel
theorem d_TS_compound_55 : decode M_TS_compound.2.1 55 = .ok (.getfield 24, 3) := by decide +kernel
theorem d_TS_compound_58 : decode M_TS_compound.2.1 58 = .ok (.aload_n 0, 1) := by decide +kernel
theorem d_TS_compound_59 : decode M_TS_compound.2.1 59 = .ok (.getfield 35, 3) := by decide +kernel
theorem d_TS_compound_62 : decode M_TS_compound.2.1 62 = .ok (.aload_n 2, 1) := by decide +kernel
theorem d_TS_compound_63 : decode M_TS_compound.2.1 63 = .ok (.iload_n 3, 1) := by decide +kernel
theorem d_TS_compound_64 : decode M_TS_compound.2.1 64 = .ok (.iload 5, 2) := by decide +kernel
theorem d_TS_compound_66 : decode M_TS_compound.2.1 66 = .ok (.iadd, 1) := by decide +kernel
theorem d_TS_compound_67 : decode M_TS_compound.2.1 67 = .ok (.iaload, 1) := by decide +kernel
theorem d_TS_compound_68 : decode M_TS_compound.2.1 68 = .ok (.iastore, 1) := by decide +kernel
theorem d_TS_compound_69 : decode M_TS_compound.2.1 69 = .ok (.aload_n 0, 1) := by decide +kernel
theorem d_TS_compound_70 : decode M_TS_compound.2.1 70 = .ok (.dup, 1) := by decide +kernel
theorem d_TS_compound_71 : decode M_TS_compound.2.1 71 = .ok (.getfield 35, 3) := by decide +kernel
theorem d_TS_compound_74 : decode M_TS_compound.2.1 74 = .ok (.iconst 1, 1) := by decide +kernel
theorem d_TS_compound_75 : decode M_TS_compound.2.1 75 = .ok (.iadd, 1) := by decide +kernel
theorem d_TS_compound_76 : decode M_TS_compound.2.1 76 = .ok (.putfield 35, 3) := by decide +kernel
theorem d_TS_compound_79 : decode M_TS_compound.2.1 79 = .ok (.iinc 5 1, 3) := by decide +kernel
theorem d_TS_compound_82 : decode M_TS_compound.2.1 82 = .ok (.goto (-35), 3) := by decide +kernel
theorem d_TS_compound_85 : decode M_TS_compound.2.1 85 = .ok (.aload_n 0, 1) := by decide +kernel
theorem d_TS_compound_86 : decode M_TS_compound.2.1 86 = .ok (.dup, 1) := by decide +kernel
theorem d_TS_compound_87 : decode M_TS_compound.2.1 87 = .ok (.getfield 31, 3) := by decide +kernel
theorem d_TS_compound_90 : decode M_TS_compound.2.1 90 = .ok (.dup_x1, 1) := by decide +kernel
theorem d_TS_compound_91 : decode M_TS_compound.2.1 91 = .ok (.iconst 1, 1) := by decide +kernel
theorem d_TS_compound_92 : decode M_TS_compound.2.1 92 = .ok (.iadd, 1) := by decide +kernel
theorem d_TS_compound_93 : decode M_TS_compound.2.1 93 = .ok (.putfield 31, 3) := by decide +kernel
theorem d_TS_compound_96 : decode M_TS_compound.2.1 96 = .ok (.ireturn, 1) := by decide +kernel
set_option maxRecDepth 20000 in
theorem w_TS_compound {E : xR} {h : xH} {B : Nat → Nat → Int32} {Nm : Nat → Int64} {z q mark m : Nat} {n : Int32} {St : Nat → Int32} (hz : z < 9000) (hq : q + m ≤ 9000) (h41 : h 41 = .inl (0, 4200, .inl St)) (hm : mark + m ≤ 4200) : x_Mt E M_TS_compound 0 0 0 [.ref 24, .int n, .ref 41, .int (nI mark), .int (nI m)] 52 (g_ew h B Nm (nI z) (nI q)) (x_Y (some (.int (nI z))) 52 (g_ew h (g_bc B z q n St mark m) Nm (nI (z + 1)) (nI (q + m)))) := by
  refine x_Mt.of (by decide) (Nat.le_of_ble_eq_true rfl) ?_
  have hloop : ∀ k i, i + k = m → x_W E M_TS_compound (x_room 0 0 0) (x_Y (some (.int (nI z))) 52 (g_ew h (g_bc B z q n St mark m) Nm (nI (z + 1)) (nI (q + m)))) 52 (g_ew h (fun j => bif Nat.beq j 4 then g_bp (B 4) St q mark i else g_ar (g_b3 B z 2 n (nI m)) 2 z (nI q) j) Nm (nI z) (nI (q + i))) 47 [(0, .ref 24), (1, .int n), (2, .ref 41), (3, .int (nI mark)), (4, .int (nI m)), (5, .int (nI i))] [] 0 0 := by
    intro k
    induction k with
    | zero =>
      intro i hi
      obtain rfl : i = m := by omega
      refine x_iload d_TS_compound_47 rfl ?_
      refine x_iload d_TS_compound_49 rfl ?_
      refine x_icmp_ge 85 d_TS_compound_51 (by decide) (fun _ => ?_) (fun z => absurd (nI_le (Nat.le_refl _) (by omega)) z)
      refine x_aload_n d_TS_compound_85 rfl rfl ?_
      refine x_dup d_TS_compound_86 rfl ?_
      refine x_get d_TS_compound_87 f_TS_31 (Nat.le_of_ble_eq_true rfl) (Nat.le_of_ble_eq_true rfl) (by first | rfl | assumption) (by rfl) ?_
      refine x_dup_x1 d_TS_compound_90 rfl rfl ?_
      refine x_iconst 1 d_TS_compound_91 (by decide) ?_
      refine x_iadd d_TS_compound_92 ?_
      refine x_topi (nI (z + 1)) (nI_succ z).symm ?_
      refine x_put d_TS_compound_93 f_TS_31 (Nat.le_of_ble_eq_true rfl) (Nat.le_of_ble_eq_true rfl) (by first | rfl | assumption) (by rfl) (by rfl) (by exact (Nat.le_of_ble_eq_true rfl)) ?_
      exact x_ireturn d_TS_compound_96 rfl rfl ⟨rfl, rfl, x_pt rfl rfl rfl rfl rfl rfl rfl rfl rfl rfl rfl rfl rfl rfl rfl rfl rfl rfl rfl rfl rfl rfl rfl rfl rfl rfl rfl rfl rfl rfl rfl rfl rfl rfl rfl rfl rfl rfl rfl rfl rfl rfl rfl rfl rfl rfl rfl rfl rfl rfl rfl rfl, rfl, rfl⟩
    | succ k ih =>
      intro i hi
      refine x_iload d_TS_compound_47 rfl ?_
      refine x_iload d_TS_compound_49 rfl ?_
      refine x_icmp_ge 85 d_TS_compound_51 (by decide) (fun z => absurd z (nI_ge (by omega) (by omega))) (fun _ => ?_)
      refine x_aload_n d_TS_compound_54 rfl rfl ?_
      refine x_get d_TS_compound_55 f_TS_24 (Nat.le_of_ble_eq_true rfl) (Nat.le_of_ble_eq_true rfl) (by first | rfl | assumption) (by rfl) ?_
      refine x_aload_n d_TS_compound_58 rfl rfl ?_
      refine x_get d_TS_compound_59 f_TS_35 (Nat.le_of_ble_eq_true rfl) (Nat.le_of_ble_eq_true rfl) (by first | rfl | assumption) (by rfl) ?_
      refine x_aload_n d_TS_compound_62 rfl rfl ?_
      refine x_iload_n d_TS_compound_63 rfl rfl ?_
      refine x_iload d_TS_compound_64 rfl ?_
      refine x_iadd d_TS_compound_66 ?_
      refine x_topi (nI (mark + i)) (nI_add _ _) ?_
      refine x_iald d_TS_compound_67 (Nat.le_of_ble_eq_true rfl) (Nat.le_of_ble_eq_true rfl) (by first | rfl | assumption) (vp_in_nI (show mark + i < 4200 by omega) (by decide)) ?_
      refine x_topi (St (mark + i)) (by rw [nI_clamp (by omega)]) ?_
      refine x_iast d_TS_compound_68 (Nat.le_of_ble_eq_true rfl) (Nat.le_of_ble_eq_true rfl) (by first | rfl | assumption) (vp_in_nI (show q + i < 9000 by omega) (by decide)) ?_
      refine x_aload_n d_TS_compound_69 rfl rfl ?_
      refine x_dup d_TS_compound_70 rfl ?_
      refine x_get d_TS_compound_71 f_TS_35 (Nat.le_of_ble_eq_true rfl) (Nat.le_of_ble_eq_true rfl) (by first | rfl | assumption) (by rfl) ?_
      refine x_iconst 1 d_TS_compound_74 (by decide) ?_
      refine x_iadd d_TS_compound_75 ?_
      refine x_topi (nI (q + (i + 1))) (nI_succ (q + i)).symm ?_
      refine x_put d_TS_compound_76 f_TS_35 (Nat.le_of_ble_eq_true rfl) (Nat.le_of_ble_eq_true rfl) (by first | rfl | assumption) (by rfl) (by rfl) (by exact (Nat.le_of_ble_eq_true rfl)) ?_
      refine x_iinc d_TS_compound_79 rfl 1 (by decide) (Nat.le_of_ble_eq_true rfl) ?_
      refine x_goto 47 d_TS_compound_82 (by decide) ?_
      refine x_lv [(0, .ref 24), (1, .int n), (2, .ref 41), (3, .int (nI mark)), (4, .int (nI m)), (5, .int (nI (i + 1)))] (by rw [nI_succ i]; rfl) ?_
      refine x_same (h' := (g_ew h (fun j => bif Nat.beq j 4 then g_bp (B 4) St q mark (i + 1) else g_ar (g_b3 B z 2 n (nI m)) 2 z (nI q) j) Nm (nI z) (nI (q + (i + 1))))) (x_pt rfl rfl rfl rfl rfl rfl rfl rfl rfl rfl rfl rfl rfl rfl rfl rfl rfl rfl rfl rfl rfl rfl rfl rfl rfl rfl rfl rfl rfl (show Sum.inl (0, 9000, Sum.inl (upd _ (nI (q + i)).toNatClampNeg _)) = _ by rw [nI_clamp (by omega)]; exact congrArg (fun f => Sum.inl (0, 9000, Sum.inl f)) g_bps) rfl rfl rfl rfl rfl rfl rfl rfl rfl rfl rfl rfl rfl rfl rfl rfl rfl rfl rfl rfl rfl rfl) ?_
      exact ih (i + 1) (by omega)
  show x_W E M_TS_compound _ _ 52 (g_ew h B Nm (nI z) (nI q)) 0 [(0, .ref 24), (1, .int n), (2, .ref 41), (3, .int (nI mark)), (4, .int (nI m))] [] 0 0
  refine x_aload_n d_TS_compound_0 rfl rfl ?_
  refine x_get d_TS_compound_1 f_TS_9 (Nat.le_of_ble_eq_true rfl) (Nat.le_of_ble_eq_true rfl) (by first | rfl | assumption) (by rfl) ?_
  refine x_aload_n d_TS_compound_4 rfl rfl ?_
  refine x_get d_TS_compound_5 f_TS_31 (Nat.le_of_ble_eq_true rfl) (Nat.le_of_ble_eq_true rfl) (by first | rfl | assumption) (by rfl) ?_
  refine x_iconst 2 d_TS_compound_8 (by decide) ?_
  refine x_iast d_TS_compound_9 (Nat.le_of_ble_eq_true rfl) (Nat.le_of_ble_eq_true rfl) (by first | rfl | assumption) (vp_in_nI hz (by decide)) ?_
  refine x_aload_n d_TS_compound_10 rfl rfl ?_
  refine x_get d_TS_compound_11 f_TS_15 (Nat.le_of_ble_eq_true rfl) (Nat.le_of_ble_eq_true rfl) (by first | rfl | assumption) (by rfl) ?_
  refine x_aload_n d_TS_compound_14 rfl rfl ?_
  refine x_get d_TS_compound_15 f_TS_31 (Nat.le_of_ble_eq_true rfl) (Nat.le_of_ble_eq_true rfl) (by first | rfl | assumption) (by rfl) ?_
  refine x_iload_n d_TS_compound_18 rfl rfl ?_
  refine x_iast d_TS_compound_19 (Nat.le_of_ble_eq_true rfl) (Nat.le_of_ble_eq_true rfl) (by first | rfl | assumption) (vp_in_nI hz (by decide)) ?_
  refine x_aload_n d_TS_compound_20 rfl rfl ?_
  refine x_get d_TS_compound_21 f_TS_21 (Nat.le_of_ble_eq_true rfl) (Nat.le_of_ble_eq_true rfl) (by first | rfl | assumption) (by rfl) ?_
  refine x_aload_n d_TS_compound_24 rfl rfl ?_
  refine x_get d_TS_compound_25 f_TS_31 (Nat.le_of_ble_eq_true rfl) (Nat.le_of_ble_eq_true rfl) (by first | rfl | assumption) (by rfl) ?_
  refine x_iload d_TS_compound_28 rfl ?_
  refine x_iast d_TS_compound_30 (Nat.le_of_ble_eq_true rfl) (Nat.le_of_ble_eq_true rfl) (by first | rfl | assumption) (vp_in_nI hz (by decide)) ?_
  refine x_aload_n d_TS_compound_31 rfl rfl ?_
  refine x_get d_TS_compound_32 f_TS_18 (Nat.le_of_ble_eq_true rfl) (Nat.le_of_ble_eq_true rfl) (by first | rfl | assumption) (by rfl) ?_
  refine x_aload_n d_TS_compound_35 rfl rfl ?_
  refine x_get d_TS_compound_36 f_TS_31 (Nat.le_of_ble_eq_true rfl) (Nat.le_of_ble_eq_true rfl) (by first | rfl | assumption) (by rfl) ?_
  refine x_aload_n d_TS_compound_39 rfl rfl ?_
  refine x_get d_TS_compound_40 f_TS_35 (Nat.le_of_ble_eq_true rfl) (Nat.le_of_ble_eq_true rfl) (by first | rfl | assumption) (by rfl) ?_
  refine x_iast d_TS_compound_43 (Nat.le_of_ble_eq_true rfl) (Nat.le_of_ble_eq_true rfl) (by first | rfl | assumption) (vp_in_nI hz (by decide)) ?_
  refine x_same (h' := (g_ew h (fun j => bif Nat.beq j 4 then g_bp (B 4) St q mark 0 else g_ar (g_b3 B z 2 n (nI m)) 2 z (nI q) j) Nm (nI z) (nI (q + 0)))) (x_pt rfl rfl rfl rfl rfl rfl rfl rfl rfl rfl rfl rfl rfl rfl rfl rfl rfl rfl rfl rfl rfl rfl rfl rfl rfl (show Sum.inl (0, 9000, Sum.inl (upd _ (nI z).toNatClampNeg _)) = _ by rw [nI_clamp (by omega)]; rfl) (show Sum.inl (0, 9000, Sum.inl (upd _ (nI z).toNatClampNeg _)) = _ by rw [nI_clamp (by omega)]; rfl) (show Sum.inl (0, 9000, Sum.inl (upd _ (nI z).toNatClampNeg _)) = _ by rw [nI_clamp (by omega)]; rfl) (show Sum.inl (0, 9000, Sum.inl (upd _ (nI z).toNatClampNeg _)) = _ by rw [nI_clamp (by omega)]; rfl) (show Sum.inl (0, 9000, Sum.inl (B 4)) = _ from congrArg (fun f => Sum.inl (0, 9000, Sum.inl f)) g_bp0.symm) rfl rfl rfl rfl rfl rfl rfl rfl rfl rfl rfl rfl rfl rfl rfl rfl rfl rfl rfl rfl rfl rfl) ?_
  refine x_iconst 0 d_TS_compound_44 (by decide) ?_
  refine x_istore d_TS_compound_45 (Nat.le_of_ble_eq_true rfl) ?_
  exact hloop m 0 (by omega)
theorem d_TS_part_0 : decode M_TS_part.2.1 0 = .ok (.aload_n 0, 1) := by decide +kernel
theorem d_TS_part_1 : decode M_TS_part.2.1 1 = .ok (.getfield 24, 3) := by decide +kernel
theorem d_TS_part_4 : decode M_TS_part.2.1 4 = .ok (.aload_n 0, 1) := by decide +kernel
theorem d_TS_part_5 : decode M_TS_part.2.1 5 = .ok (.getfield 18, 3) := by decide +kernel
theorem d_TS_part_8 : decode M_TS_part.2.1 8 = .ok (.iload_n 1, 1) := by decide +kernel
theorem d_TS_part_9 : decode M_TS_part.2.1 9 = .ok (.iaload, 1) := by decide +kernel
theorem d_TS_part_10 : decode M_TS_part.2.1 10 = .ok (.iload_n 2, 1) := by decide +kernel
theorem d_TS_part_11 : decode M_TS_part.2.1 11 = .ok (.iadd, 1) := by decide +kernel
theorem d_TS_part_12 : decode M_TS_part.2.1 12 = .ok (.iaload, 1) := by decide +kernel
theorem d_TS_part_13 : decode M_TS_part.2.1 13 = .ok (.ireturn, 1) := by decide +kernel
set_option maxRecDepth 20000 in
theorem w_TS_part {E : xR} {h : xH} {B : Nat → Nat → Int32} {Nm : Nat → Int64} {z q : Int32} {r f i : Nat} (hr : r < 9000) (hf : B 2 r = nI f) (hfi : f + i < 9000) : x_Mt E M_TS_part 0 0 0 [.ref 24, .int (nI r), .int (nI i)] 52 (g_ew h B Nm z q) (x_Y (some (.int (B 4 (f + i)))) 52 (g_ew h B Nm z q)) := by
  refine x_Mt.of (by decide) (Nat.le_of_ble_eq_true rfl) ?_
  show x_W E M_TS_part _ _ 52 (g_ew h B Nm z q) 0 [(0, .ref 24), (1, .int (nI r)), (2, .int (nI i))] [] 0 0
  refine x_aload_n d_TS_part_0 rfl rfl ?_
  refine x_get d_TS_part_1 f_TS_24 (Nat.le_of_ble_eq_true rfl) (Nat.le_of_ble_eq_true rfl) (by first | rfl | assumption) (by rfl) ?_
  refine x_aload_n d_TS_part_4 rfl rfl ?_
  refine x_get d_TS_part_5 f_TS_18 (Nat.le_of_ble_eq_true rfl) (Nat.le_of_ble_eq_true rfl) (by first | rfl | assumption) (by rfl) ?_
  refine x_iload_n d_TS_part_8 rfl rfl ?_
  refine x_iald d_TS_part_9 (Nat.le_of_ble_eq_true rfl) (Nat.le_of_ble_eq_true rfl) (by first | rfl | assumption) (vp_in_nI hr (by decide)) ?_
  refine x_topi (nI f) (by rw [nI_clamp (by omega)]; exact hf) ?_
  refine x_iload_n d_TS_part_10 rfl rfl ?_
  refine x_iadd d_TS_part_11 ?_
  refine x_topi (nI (f + i)) (nI_add _ _) ?_
  refine x_iald d_TS_part_12 (Nat.le_of_ble_eq_true rfl) (Nat.le_of_ble_eq_true rfl) (by first | rfl | assumption) (vp_in_nI (show f + i < 9000 by omega) (by decide)) ?_
  refine x_topi (B 4 (f + i)) (by rw [nI_clamp (by omega)]) ?_
  exact x_ireturn d_TS_part_13 rfl rfl ⟨rfl, rfl, fun _ _ => rfl, rfl, rfl⟩
