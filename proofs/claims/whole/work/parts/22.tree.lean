/-- the world with this tree: symbols, variables, root, the arrays -/
def g_tw (h : xH) (s v r : Int32) (A : Nat → Nat → Int32) : xH := x_up (x_up (x_up (x_up (x_up (x_up (x_up (x_up (x_up h 5 (.inr (3, [.ref 6, .ref 7, .ref 8, .ref 9, .ref 10, .ref 11, .ref 12, .ref 13, .ref 1, .int s, .int v, .int r]))) 6 (.inl (0, 1001, .inl (A 0)))) 7 (.inl (0, 1001, .inl (A 1)))) 8 (.inl (0, 1001, .inl (A 2)))) 9 (.inl (0, 1001, .inl (A 3)))) 10 (.inl (0, 1001, .inl (A 4)))) 11 (.inl (0, 1001, .inl (A 5)))) 12 (.inl (0, 1001, .inl (A 6)))) 13 (.inl (0, 1001, .inl (A 7)))
/-- one array changed -/
def g_ar (A : Nat → Nat → Int32) (j i : Nat) (x : Int32) : Nat → Nat → Int32 := fun q => bif Nat.beq q j then upd (A j) i x else A q
def g_nod (s : Nat) : Nat := if s < 1000 then s else 1000
theorem g_nodL (s : Nat) : g_nod s < 1001 := by unfold g_nod; split <;> omega
theorem g_nodI {s : Nat} (hs : s < 2 ^ 31) : (if nI 1000 < nI s then nI 1000 else nI s) = nI (g_nod s) := by
  unfold g_nod
  by_cases h : s < 1000
  · rw [if_pos h, if_neg (nI_nlt (by omega) (by decide))]
  · rw [if_neg h]
    by_cases h2 : s = 1000
    · rw [h2]; rfl
    · rw [if_pos (nI_lt (by omega) hs)]
/-- a new row -/
def g_addA (A : Nat → Nat → Int32) (i : Nat) (k f t : Int32) : Nat → Nat → Int32 := fun q => bif Nat.beq q 7 then A 7 else upd (A q) i ([k, f, t, -1, -1, -1, -1].getD q 0)
theorem d_TE_start_0 : decode M_TE_start.2.1 0 = .ok (.aload_n 0, 1) := by decide +kernel
theorem d_TE_start_1 : decode M_TE_start.2.1 1 = .ok (.aload_n 1, 1) := by decide +kernel
theorem d_TE_start_2 : decode M_TE_start.2.1 2 = .ok (.putfield 36, 3) := by decide +kernel
theorem d_TE_start_5 : decode M_TE_start.2.1 5 = .ok (.aload_n 0, 1) := by decide +kernel
theorem d_TE_start_6 : decode M_TE_start.2.1 6 = .ok (.iconst 0, 1) := by decide +kernel
theorem d_TE_start_7 : decode M_TE_start.2.1 7 = .ok (.putfield 40, 3) := by decide +kernel
theorem d_TE_start_10 : decode M_TE_start.2.1 10 = .ok (.aload_n 0, 1) := by decide +kernel
theorem d_TE_start_11 : decode M_TE_start.2.1 11 = .ok (.iconst 0, 1) := by decide +kernel
theorem d_TE_start_12 : decode M_TE_start.2.1 12 = .ok (.putfield 44, 3) := by decide +kernel
theorem d_TE_start_15 : decode M_TE_start.2.1 15 = .ok (.aload_n 0, 1) := by decide +kernel
theorem d_TE_start_16 : decode M_TE_start.2.1 16 = .ok (.iconst 0, 1) := by decide +kernel
theorem d_TE_start_17 : decode M_TE_start.2.1 17 = .ok (.putfield 47, 3) := by decide +kernel
theorem d_TE_start_20 : decode M_TE_start.2.1 20 = .ok (.return_, 1) := by decide +kernel
set_option maxRecDepth 20000 in
theorem w_TE_start {E : xR} {h : xH} {A : Nat → Nat → Int32} {s v r : Value} {tp : Value} (h5 : h 5 = .inr (3, [.ref 6, .ref 7, .ref 8, .ref 9, .ref 10, .ref 11, .ref 12, .ref 13, tp, s, v, r])) (a0 : h 6 = .inl (0, 1001, .inl (A 0))) (a1 : h 7 = .inl (0, 1001, .inl (A 1))) (a2 : h 8 = .inl (0, 1001, .inl (A 2))) (a3 : h 9 = .inl (0, 1001, .inl (A 3))) (a4 : h 10 = .inl (0, 1001, .inl (A 4))) (a5 : h 11 = .inl (0, 1001, .inl (A 5))) (a6 : h 12 = .inl (0, 1001, .inl (A 6))) (a7 : h 13 = .inl (0, 1001, .inl (A 7))) : x_Mt E M_TE_start 0 0 0 [.ref 5, .ref 1] 52 h (x_Y none 52 (g_tw h 0 0 0 A)) := by
  refine x_Mt.of (by decide) (Nat.le_of_ble_eq_true rfl) ?_
  show x_W E M_TE_start _ _ 52 h 0 [(0, .ref 5), (1, .ref 1)] [] 0 0
  refine x_aload_n d_TE_start_0 rfl rfl ?_
  refine x_aload_n d_TE_start_1 rfl rfl ?_
  refine x_put d_TE_start_2 f_TE_36 (Nat.le_of_ble_eq_true rfl) (Nat.le_of_ble_eq_true rfl) (by first | rfl | assumption) (by rfl) (by rfl) (by exact (Nat.le_of_ble_eq_true rfl)) ?_
  refine x_aload_n d_TE_start_5 rfl rfl ?_
  refine x_iconst 0 d_TE_start_6 (by decide) ?_
  refine x_put d_TE_start_7 f_TE_40 (Nat.le_of_ble_eq_true rfl) (Nat.le_of_ble_eq_true rfl) (by first | rfl | assumption) (by rfl) (by rfl) (by exact (Nat.le_of_ble_eq_true rfl)) ?_
  refine x_aload_n d_TE_start_10 rfl rfl ?_
  refine x_iconst 0 d_TE_start_11 (by decide) ?_
  refine x_put d_TE_start_12 f_TE_44 (Nat.le_of_ble_eq_true rfl) (Nat.le_of_ble_eq_true rfl) (by first | rfl | assumption) (by rfl) (by rfl) (by exact (Nat.le_of_ble_eq_true rfl)) ?_
  refine x_aload_n d_TE_start_15 rfl rfl ?_
  refine x_iconst 0 d_TE_start_16 (by decide) ?_
  refine x_put d_TE_start_17 f_TE_47 (Nat.le_of_ble_eq_true rfl) (Nat.le_of_ble_eq_true rfl) (by first | rfl | assumption) (by rfl) (by rfl) (by exact (Nat.le_of_ble_eq_true rfl)) ?_
  exact x_return d_TE_start_20 rfl ⟨rfl, rfl, x_pt rfl rfl rfl rfl rfl rfl a0 a1 a2 a3 a4 a5 a6 a7 rfl rfl rfl rfl rfl rfl rfl rfl rfl rfl rfl rfl rfl rfl rfl rfl rfl rfl rfl rfl rfl rfl rfl rfl rfl rfl rfl rfl rfl rfl rfl rfl rfl rfl rfl rfl rfl rfl, rfl, rfl⟩
theorem d_TE_add_0 : decode M_TE_add.2.1 0 = .ok (.aload_n 0, 1) := by decide +kernel
theorem d_TE_add_1 : decode M_TE_add.2.1 1 = .ok (.getfield 40, 3) := by decide +kernel
theorem d_TE_add_4 : decode M_TE_add.2.1 4 = .ok (.sipush 1000, 3) := by decide +kernel
theorem d_TE_add_7 : decode M_TE_add.2.1 7 = .ok (.invokestatic 50, 3) := by decide +kernel
theorem d_TE_add_10 : decode M_TE_add.2.1 10 = .ok (.istore 4, 2) := by decide +kernel
theorem d_TE_add_12 : decode M_TE_add.2.1 12 = .ok (.aload_n 0, 1) := by decide +kernel
theorem d_TE_add_13 : decode M_TE_add.2.1 13 = .ok (.dup, 1) := by decide +kernel
theorem d_TE_add_14 : decode M_TE_add.2.1 14 = .ok (.getfield 40, 3) := by decide +kernel
theorem d_TE_add_17 : decode M_TE_add.2.1 17 = .ok (.iconst 1, 1) := by decide +kernel
theorem d_TE_add_18 : decode M_TE_add.2.1 18 = .ok (.iadd, 1) := by decide +kernel
theorem d_TE_add_19 : decode M_TE_add.2.1 19 = .ok (.putfield 40, 3) := by decide +kernel
theorem d_TE_add_22 : decode M_TE_add.2.1 22 = .ok (.aload_n 0, 1) := by decide +kernel
theorem d_TE_add_23 : decode M_TE_add.2.1 23 = .ok (.getfield 11, 3) := by decide +kernel
theorem d_TE_add_26 : decode M_TE_add.2.1 26 = .ok (.iload 4, 2) := by decide +kernel
theorem d_TE_add_28 : decode M_TE_add.2.1 28 = .ok (.iload_n 1, 1) := by decide +kernel
theorem d_TE_add_29 : decode M_TE_add.2.1 29 = .ok (.iastore, 1) := by decide +kernel
theorem d_TE_add_30 : decode M_TE_add.2.1 30 = .ok (.aload_n 0, 1) := by decide +kernel
theorem d_TE_add_31 : decode M_TE_add.2.1 31 = .ok (.getfield 15, 3) := by decide +kernel
theorem d_TE_add_34 : decode M_TE_add.2.1 34 = .ok (.iload 4, 2) := by decide +kernel
theorem d_TE_add_36 : decode M_TE_add.2.1 36 = .ok (.iload_n 2, 1) := by decide +kernel
theorem d_TE_add_37 : decode M_TE_add.2.1 37 = .ok (.iastore, 1) := by decide +kernel
theorem d_TE_add_38 : decode M_TE_add.2.1 38 = .ok (.aload_n 0, 1) := by decide +kernel
theorem d_TE_add_39 : decode M_TE_add.2.1 39 = .ok (.getfield 18, 3) := by decide +kernel
theorem d_TE_add_42 : decode M_TE_add.2.1 42 = .ok (.iload 4, 2) := by decide +kernel
theorem d_TE_add_44 : decode M_TE_add.2.1 44 = .ok (.iload_n 3, 1) := by decide +kernel
theorem d_TE_add_45 : decode M_TE_add.2.1 45 = .ok (.iastore, 1) := by decide +kernel
theorem d_TE_add_46 : decode M_TE_add.2.1 46 = .ok (.aload_n 0, 1) := by decide +kernel
theorem d_TE_add_47 : decode M_TE_add.2.1 47 = .ok (.getfield 21, 3) := by decide +kernel
theorem d_TE_add_50 : decode M_TE_add.2.1 50 = .ok (.iload 4, 2) := by decide +kernel
theorem d_TE_add_52 : decode M_TE_add.2.1 52 = .ok (.iconst (-1), 1) := by decide +kernel
theorem d_TE_add_53 : decode M_TE_add.2.1 53 = .ok (.iastore, 1) := by decide +kernel
theorem d_TE_add_54 : decode M_TE_add.2.1 54 = .ok (.aload_n 0, 1) := by decide +kernel
theorem d_TE_add_55 : decode M_TE_add.2.1 55 = .ok (.getfield 24, 3) := by decide +kernel
theorem d_TE_add_58 : decode M_TE_add.2.1 58 = .ok (.iload 4, 2) := by decide +kernel
theorem d_TE_add_60 : decode M_TE_add.2.1 60 = .ok (.iconst (-1), 1) := by decide +kernel
theorem d_TE_add_61 : decode M_TE_add.2.1 61 = .ok (.iastore, 1) := by decide +kernel
theorem d_TE_add_62 : decode M_TE_add.2.1 62 = .ok (.aload_n 0, 1) := by decide +kernel
theorem d_TE_add_63 : decode M_TE_add.2.1 63 = .ok (.getfield 27, 3) := by decide +kernel
theorem d_TE_add_66 : decode M_TE_add.2.1 66 = .ok (.iload 4, 2) := by decide +kernel
theorem d_TE_add_68 : decode M_TE_add.2.1 68 = .ok (.iconst (-1), 1) := by decide +kernel
theorem d_TE_add_69 : decode M_TE_add.2.1 69 = .ok (.iastore, 1) := by decide +kernel
theorem d_TE_add_70 : decode M_TE_add.2.1 70 = .ok (.aload_n 0, 1) := by decide +kernel
theorem d_TE_add_71 : decode M_TE_add.2.1 71 = .ok (.getfield 30, 3) := by decide +kernel
theorem d_TE_add_74 : decode M_TE_add.2.1 74 = .ok (.iload 4, 2) := by decide +kernel
theorem d_TE_add_76 : decode M_TE_add.2.1 76 = .ok (.iconst (-1), 1) := by decide +kernel
theorem d_TE_add_77 : decode M_TE_add.2.1 77 = .ok (.iastore, 1) := by decide +kernel
theorem d_TE_add_78 : decode M_TE_add.2.1 78 = .ok (.iload 4, 2) := by decide +kernel
theorem d_TE_add_80 : decode M_TE_add.2.1 80 = .ok (.ireturn, 1) := by decide +kernel
set_option maxRecDepth 20000 in
theorem w_TE_add {E : xR} {h : xH} {A : Nat → Nat → Int32} {s : Nat} {v r k f t : Int32} (hs : s < 5000) : x_Mt E M_TE_add 1 0 0 [.ref 5, .int k, .int f, .int t] 52 (g_tw h (nI s) v r A) (x_Y (some (.int (nI (g_nod s)))) 52 (g_tw h (nI (s + 1)) v r (g_addA A (g_nod s) k f t))) := by
  have hcl : (nI (g_nod s)).toNatClampNeg = g_nod s := nI_clamp (by have := g_nodL s; omega)
  refine x_Mt.of (by decide) (Nat.le_of_ble_eq_true rfl) ?_
  show x_W E M_TE_add _ _ 52 (g_tw h (nI s) v r A) 0 [(0, .ref 5), (1, .int k), (2, .int f), (3, .int t)] [] 0 0
  refine x_aload_n d_TE_add_0 rfl rfl ?_
  refine x_get d_TE_add_1 f_TE_40 (Nat.le_of_ble_eq_true rfl) (Nat.le_of_ble_eq_true rfl) (by first | rfl | assumption) (by rfl) ?_
  refine x_sipush 1000 d_TE_add_4 (by decide) ?_
  refine x_mmin d_TE_add_7 (x_mem 646 (by decide +kernel) (by decide +kernel)) k_TE_50 (Nat.le_of_ble_eq_true rfl) (Nat.le_of_ble_eq_true rfl) (Nat.le_of_ble_eq_true rfl) (Nat.le_of_ble_eq_true rfl) (Nat.le_of_ble_eq_true rfl) ?_
  refine x_topi _ (g_nodI (by omega)) ?_
  refine x_istore d_TE_add_10 (Nat.le_of_ble_eq_true rfl) ?_
  refine x_aload_n d_TE_add_12 rfl rfl ?_
  refine x_dup d_TE_add_13 rfl ?_
  refine x_get d_TE_add_14 f_TE_40 (Nat.le_of_ble_eq_true rfl) (Nat.le_of_ble_eq_true rfl) (by first | rfl | assumption) (by rfl) ?_
  refine x_iconst 1 d_TE_add_17 (by decide) ?_
  refine x_iadd d_TE_add_18 ?_
  refine x_topi (nI (s + 1)) (nI_succ s).symm ?_
  refine x_put d_TE_add_19 f_TE_40 (Nat.le_of_ble_eq_true rfl) (Nat.le_of_ble_eq_true rfl) (by first | rfl | assumption) (by rfl) (by rfl) (by exact (Nat.le_of_ble_eq_true rfl)) ?_
  refine x_aload_n d_TE_add_22 rfl rfl ?_
  refine x_get d_TE_add_23 f_TE_11 (Nat.le_of_ble_eq_true rfl) (Nat.le_of_ble_eq_true rfl) (by first | rfl | assumption) (by rfl) ?_
  refine x_iload d_TE_add_26 rfl ?_
  refine x_iload_n d_TE_add_28 rfl rfl ?_
  refine x_iast d_TE_add_29 (Nat.le_of_ble_eq_true rfl) (Nat.le_of_ble_eq_true rfl) (by first | rfl | assumption) (vp_in_nI (g_nodL s) (by decide)) ?_
  refine x_aload_n d_TE_add_30 rfl rfl ?_
  refine x_get d_TE_add_31 f_TE_15 (Nat.le_of_ble_eq_true rfl) (Nat.le_of_ble_eq_true rfl) (by first | rfl | assumption) (by rfl) ?_
  refine x_iload d_TE_add_34 rfl ?_
  refine x_iload_n d_TE_add_36 rfl rfl ?_
  refine x_iast d_TE_add_37 (Nat.le_of_ble_eq_true rfl) (Nat.le_of_ble_eq_true rfl) (by first | rfl | assumption) (vp_in_nI (g_nodL s) (by decide)) ?_
  refine x_aload_n d_TE_add_38 rfl rfl ?_
  refine x_get d_TE_add_39 f_TE_18 (Nat.le_of_ble_eq_true rfl) (Nat.le_of_ble_eq_true rfl) (by first | rfl | assumption) (by rfl) ?_
  refine x_iload d_TE_add_42 rfl ?_
  refine x_iload_n d_TE_add_44 rfl rfl ?_
  refine x_iast d_TE_add_45 (Nat.le_of_ble_eq_true rfl) (Nat.le_of_ble_eq_true rfl) (by first | rfl | assumption) (vp_in_nI (g_nodL s) (by decide)) ?_
  refine x_aload_n d_TE_add_46 rfl rfl ?_
  refine x_get d_TE_add_47 f_TE_21 (Nat.le_of_ble_eq_true rfl) (Nat.le_of_ble_eq_true rfl) (by first | rfl | assumption) (by rfl) ?_
  refine x_iload d_TE_add_50 rfl ?_
  refine x_iconst (-1) d_TE_add_52 (by decide) ?_
  refine x_iast d_TE_add_53 (Nat.le_of_ble_eq_true rfl) (Nat.le_of_ble_eq_true rfl) (by first | rfl | assumption) (vp_in_nI (g_nodL s) (by decide)) ?_
  refine x_aload_n d_TE_add_54 rfl rfl ?_
  refine x_get d_TE_add_55 f_TE_24 (Nat.le_of_ble_eq_true rfl) (Nat.le_of_ble_eq_true rfl) (by first | rfl | assumption) (by rfl) ?_
  refine x_iload d_TE_add_58 rfl ?_
  refine x_iconst (-1) d_TE_add_60 (by decide) ?_
  refine x_iast d_TE_add_61 (Nat.le_of_ble_eq_true rfl) (Nat.le_of_ble_eq_true rfl) (by first | rfl | assumption) (vp_in_nI (g_nodL s) (by decide)) ?_
  refine x_aload_n d_TE_add_62 rfl rfl ?_
  refine x_get d_TE_add_63 f_TE_27 (Nat.le_of_ble_eq_true rfl) (Nat.le_of_ble_eq_true rfl) (by first | rfl | assumption) (by rfl) ?_
  refine x_iload d_TE_add_66 rfl ?_
  refine x_iconst (-1) d_TE_add_68 (by decide) ?_
  refine x_iast d_TE_add_69 (Nat.le_of_ble_eq_true rfl) (Nat.le_of_ble_eq_true rfl) (by first | rfl | assumption) (vp_in_nI (g_nodL s) (by decide)) ?_
  refine x_aload_n d_TE_add_70 rfl rfl ?_
  refine x_get d_TE_add_71 f_TE_30 (Nat.le_of_ble_eq_true rfl) (Nat.le_of_ble_eq_true rfl) (by first | rfl | assumption) (by rfl) ?_
  refine x_iload d_TE_add_74 rfl ?_
  refine x_iconst (-1) d_TE_add_76 (by decide) ?_
  refine x_iast d_TE_add_77 (Nat.le_of_ble_eq_true rfl) (Nat.le_of_ble_eq_true rfl) (by first | rfl | assumption) (vp_in_nI (g_nodL s) (by decide)) ?_
  refine x_iload d_TE_add_78 rfl ?_
  exact x_ireturn d_TE_add_80 rfl rfl ⟨rfl, rfl, x_pt rfl rfl rfl rfl rfl rfl (show Sum.inl (0, 1001, Sum.inl (upd _ (nI (g_nod s)).toNatClampNeg _)) = _ by rw [hcl]; rfl) (show Sum.inl (0, 1001, Sum.inl (upd _ (nI (g_nod s)).toNatClampNeg _)) = _ by rw [hcl]; rfl) (show Sum.inl (0, 1001, Sum.inl (upd _ (nI (g_nod s)).toNatClampNeg _)) = _ by rw [hcl]; rfl) (show Sum.inl (0, 1001, Sum.inl (upd _ (nI (g_nod s)).toNatClampNeg _)) = _ by rw [hcl]; rfl) (show Sum.inl (0, 1001, Sum.inl (upd _ (nI (g_nod s)).toNatClampNeg _)) = _ by rw [hcl]; rfl) (show Sum.inl (0, 1001, Sum.inl (upd _ (nI (g_nod s)).toNatClampNeg _)) = _ by rw [hcl]; rfl) (show Sum.inl (0, 1001, Sum.inl (upd _ (nI (g_nod s)).toNatClampNeg _)) = _ by rw [hcl]; rfl) rfl rfl rfl rfl rfl rfl rfl rfl rfl rfl rfl rfl rfl rfl rfl rfl rfl rfl rfl rfl rfl rfl rfl rfl rfl rfl rfl rfl rfl rfl rfl rfl rfl rfl rfl rfl rfl rfl rfl, rfl, rfl⟩
theorem d_TE_giveFirst_0 : decode M_TE_giveFirst.2.1 0 = .ok (.aload_n 0, 1) := by decide +kernel
theorem d_TE_giveFirst_1 : decode M_TE_giveFirst.2.1 1 = .ok (.getfield 24, 3) := by decide +kernel
theorem d_TE_giveFirst_4 : decode M_TE_giveFirst.2.1 4 = .ok (.iload_n 1, 1) := by decide +kernel
theorem d_TE_giveFirst_5 : decode M_TE_giveFirst.2.1 5 = .ok (.iload_n 2, 1) := by decide +kernel
theorem d_TE_giveFirst_6 : decode M_TE_giveFirst.2.1 6 = .ok (.iastore, 1) := by decide +kernel
theorem d_TE_giveFirst_7 : decode M_TE_giveFirst.2.1 7 = .ok (.aload_n 0, 1) := by decide +kernel
theorem d_TE_giveFirst_8 : decode M_TE_giveFirst.2.1 8 = .ok (.getfield 21, 3) := by decide +kernel
theorem d_TE_giveFirst_11 : decode M_TE_giveFirst.2.1 11 = .ok (.iload_n 2, 1) := by decide +kernel
theorem d_TE_giveFirst_12 : decode M_TE_giveFirst.2.1 12 = .ok (.iload_n 1, 1) := by decide +kernel
theorem d_TE_giveFirst_13 : decode M_TE_giveFirst.2.1 13 = .ok (.iastore, 1) := by decide +kernel
theorem d_TE_giveFirst_14 : decode M_TE_giveFirst.2.1 14 = .ok (.return_, 1) := by decide +kernel
set_option maxRecDepth 20000 in
theorem w_TE_giveFirst {E : xR} {h : xH} {A : Nat → Nat → Int32} {s v r : Int32} {p c : Nat} (hp : p < 1001) (hc : c < 1001) : x_Mt E M_TE_giveFirst 0 0 0 [.ref 5, .int (nI p), .int (nI c)] 52 (g_tw h s v r A) (x_Y none 52 (g_tw h s v r (g_ar (g_ar A 4 p (nI c)) 3 c (nI p)))) := by
  have cp : (nI p).toNatClampNeg = p := nI_clamp (by omega)
  have cc : (nI c).toNatClampNeg = c := nI_clamp (by omega)
  refine x_Mt.of (by decide) (Nat.le_of_ble_eq_true rfl) ?_
  show x_W E M_TE_giveFirst _ _ 52 (g_tw h s v r A) 0 [(0, .ref 5), (1, .int (nI p)), (2, .int (nI c))] [] 0 0
  refine x_aload_n d_TE_giveFirst_0 rfl rfl ?_
  refine x_get d_TE_giveFirst_1 f_TE_24 (Nat.le_of_ble_eq_true rfl) (Nat.le_of_ble_eq_true rfl) (by first | rfl | assumption) (by rfl) ?_
  refine x_iload_n d_TE_giveFirst_4 rfl rfl ?_
  refine x_iload_n d_TE_giveFirst_5 rfl rfl ?_
  refine x_iast d_TE_giveFirst_6 (Nat.le_of_ble_eq_true rfl) (Nat.le_of_ble_eq_true rfl) (by first | rfl | assumption) (vp_in_nI (show p < 1001 from hp) (by decide)) ?_
  refine x_aload_n d_TE_giveFirst_7 rfl rfl ?_
  refine x_get d_TE_giveFirst_8 f_TE_21 (Nat.le_of_ble_eq_true rfl) (Nat.le_of_ble_eq_true rfl) (by first | rfl | assumption) (by rfl) ?_
  refine x_iload_n d_TE_giveFirst_11 rfl rfl ?_
  refine x_iload_n d_TE_giveFirst_12 rfl rfl ?_
  refine x_iast d_TE_giveFirst_13 (Nat.le_of_ble_eq_true rfl) (Nat.le_of_ble_eq_true rfl) (by first | rfl | assumption) (vp_in_nI (show c < 1001 from hc) (by decide)) ?_
  exact x_return d_TE_giveFirst_14 rfl ⟨rfl, rfl, x_pt rfl rfl rfl rfl rfl rfl rfl rfl rfl (show Sum.inl (0, 1001, Sum.inl (upd _ (nI c).toNatClampNeg _)) = _ by rw [nI_clamp (by omega)]; rfl) (show Sum.inl (0, 1001, Sum.inl (upd _ (nI p).toNatClampNeg _)) = _ by rw [nI_clamp (by omega)]; rfl) rfl rfl rfl rfl rfl rfl rfl rfl rfl rfl rfl rfl rfl rfl rfl rfl rfl rfl rfl rfl rfl rfl rfl rfl rfl rfl rfl rfl rfl rfl rfl rfl rfl rfl rfl rfl rfl rfl rfl rfl rfl, rfl, rfl⟩
theorem d_TE_giveNext_0 : decode M_TE_giveNext.2.1 0 = .ok (.aload_n 0, 1) := by decide +kernel
theorem d_TE_giveNext_1 : decode M_TE_giveNext.2.1 1 = .ok (.getfield 27, 3) := by decide +kernel
theorem d_TE_giveNext_4 : decode M_TE_giveNext.2.1 4 = .ok (.iload_n 1, 1) := by decide +kernel
theorem d_TE_giveNext_5 : decode M_TE_giveNext.2.1 5 = .ok (.iload_n 2, 1) := by decide +kernel
theorem d_TE_giveNext_6 : decode M_TE_giveNext.2.1 6 = .ok (.iastore, 1) := by decide +kernel
theorem d_TE_giveNext_7 : decode M_TE_giveNext.2.1 7 = .ok (.aload_n 0, 1) := by decide +kernel
theorem d_TE_giveNext_8 : decode M_TE_giveNext.2.1 8 = .ok (.getfield 21, 3) := by decide +kernel
theorem d_TE_giveNext_11 : decode M_TE_giveNext.2.1 11 = .ok (.iload_n 2, 1) := by decide +kernel
theorem d_TE_giveNext_12 : decode M_TE_giveNext.2.1 12 = .ok (.aload_n 0, 1) := by decide +kernel
theorem d_TE_giveNext_13 : decode M_TE_giveNext.2.1 13 = .ok (.getfield 21, 3) := by decide +kernel
theorem d_TE_giveNext_16 : decode M_TE_giveNext.2.1 16 = .ok (.iload_n 1, 1) := by decide +kernel
theorem d_TE_giveNext_17 : decode M_TE_giveNext.2.1 17 = .ok (.iaload, 1) := by decide +kernel
theorem d_TE_giveNext_18 : decode M_TE_giveNext.2.1 18 = .ok (.iastore, 1) := by decide +kernel
theorem d_TE_giveNext_19 : decode M_TE_giveNext.2.1 19 = .ok (.return_, 1) := by decide +kernel
set_option maxRecDepth 20000 in
theorem w_TE_giveNext {E : xR} {h : xH} {A : Nat → Nat → Int32} {s v r : Int32} {p c : Nat} (hp : p < 1001) (hc : c < 1001) : x_Mt E M_TE_giveNext 0 0 0 [.ref 5, .int (nI p), .int (nI c)] 52 (g_tw h s v r A) (x_Y none 52 (g_tw h s v r (g_ar (g_ar A 5 p (nI c)) 3 c (A 3 p)))) := by
  have cp : (nI p).toNatClampNeg = p := nI_clamp (by omega)
  refine x_Mt.of (by decide) (Nat.le_of_ble_eq_true rfl) ?_
  show x_W E M_TE_giveNext _ _ 52 (g_tw h s v r A) 0 [(0, .ref 5), (1, .int (nI p)), (2, .int (nI c))] [] 0 0
  refine x_aload_n d_TE_giveNext_0 rfl rfl ?_
  refine x_get d_TE_giveNext_1 f_TE_27 (Nat.le_of_ble_eq_true rfl) (Nat.le_of_ble_eq_true rfl) (by first | rfl | assumption) (by rfl) ?_
  refine x_iload_n d_TE_giveNext_4 rfl rfl ?_
  refine x_iload_n d_TE_giveNext_5 rfl rfl ?_
  refine x_iast d_TE_giveNext_6 (Nat.le_of_ble_eq_true rfl) (Nat.le_of_ble_eq_true rfl) (by first | rfl | assumption) (vp_in_nI (show p < 1001 from hp) (by decide)) ?_
  refine x_aload_n d_TE_giveNext_7 rfl rfl ?_
  refine x_get d_TE_giveNext_8 f_TE_21 (Nat.le_of_ble_eq_true rfl) (Nat.le_of_ble_eq_true rfl) (by first | rfl | assumption) (by rfl) ?_
  refine x_iload_n d_TE_giveNext_11 rfl rfl ?_
  refine x_aload_n d_TE_giveNext_12 rfl rfl ?_
  refine x_get d_TE_giveNext_13 f_TE_21 (Nat.le_of_ble_eq_true rfl) (Nat.le_of_ble_eq_true rfl) (by first | rfl | assumption) (by rfl) ?_
  refine x_iload_n d_TE_giveNext_16 rfl rfl ?_
  refine x_iald d_TE_giveNext_17 (Nat.le_of_ble_eq_true rfl) (Nat.le_of_ble_eq_true rfl) (by first | rfl | assumption) (vp_in_nI (show p < 1001 from hp) (by decide)) ?_
  refine x_topi (A 3 p) (by rw [cp]) ?_
  refine x_iast d_TE_giveNext_18 (Nat.le_of_ble_eq_true rfl) (Nat.le_of_ble_eq_true rfl) (by first | rfl | assumption) (vp_in_nI (show c < 1001 from hc) (by decide)) ?_
  exact x_return d_TE_giveNext_19 rfl ⟨rfl, rfl, x_pt rfl rfl rfl rfl rfl rfl rfl rfl rfl (show Sum.inl (0, 1001, Sum.inl (upd _ (nI c).toNatClampNeg _)) = _ by rw [nI_clamp (by omega)]; rfl) rfl (show Sum.inl (0, 1001, Sum.inl (upd _ (nI p).toNatClampNeg _)) = _ by rw [nI_clamp (by omega)]; rfl) rfl rfl rfl rfl rfl rfl rfl rfl rfl rfl rfl rfl rfl rfl rfl rfl rfl rfl rfl rfl rfl rfl rfl rfl rfl rfl rfl rfl rfl rfl rfl rfl rfl rfl rfl rfl rfl rfl rfl rfl, rfl, rfl⟩
def g_fN (A : Nat → Nat → Int32) (x : Nat) : Nat := (A 1 x).toNatClampNeg
def g_tN (A : Nat → Nat → Int32) (x : Nat) : Nat := (A 2 x).toNatClampNeg
def g_uN (A : Nat → Nat → Int32) (x : Nat) : Nat := (A 7 x).toNatClampNeg
/-- the spans are such, the first uses are rows -/
def g_okA (A : Nat → Nat → Int32) : Prop := (∀ x, x < 1001 → A 1 x = nI (g_fN A x) ∧ A 2 x = nI (g_tN A x) ∧ g_fN A x ≤ g_tN A x ∧ g_tN A x ≤ 4096) ∧ ∀ x, x < 1001 → A 7 x = nI (g_uN A x) ∧ g_uN A x < 1001
/-- two stretches of the tape are alike -/
def g_eqr (u : Nat → Nat) : Nat → Nat → Nat → Bool
  | 0, _, _ => true
  | m + 1, i, j => decide (g_sb (u i) = g_sb (u j)) && g_eqr u m (i + 1) (j + 1)
def g_same (u : Nat → Nat) (f t f' t' : Nat) : Bool := decide (t - f = t' - f') && g_eqr u (t - f) f f'
def g_smA (u : Nat → Nat) (A : Nat → Nat → Int32) (x y : Nat) : Bool := g_same u (g_fN A x) (g_tN A x) (g_fN A y) (g_tN A y)
theorem d_TE_sameText_0 : decode M_TE_sameText.2.1 0 = .ok (.aload_n 0, 1) := by decide +kernel
theorem d_TE_sameText_1 : decode M_TE_sameText.2.1 1 = .ok (.getfield 18, 3) := by decide +kernel
theorem d_TE_sameText_4 : decode M_TE_sameText.2.1 4 = .ok (.iload_n 1, 1) := by decide +kernel
theorem d_TE_sameText_5 : decode M_TE_sameText.2.1 5 = .ok (.iaload, 1) := by decide +kernel
theorem d_TE_sameText_6 : decode M_TE_sameText.2.1 6 = .ok (.aload_n 0, 1) := by decide +kernel
theorem d_TE_sameText_7 : decode M_TE_sameText.2.1 7 = .ok (.getfield 15, 3) := by decide +kernel
theorem d_TE_sameText_10 : decode M_TE_sameText.2.1 10 = .ok (.iload_n 1, 1) := by decide +kernel
theorem d_TE_sameText_11 : decode M_TE_sameText.2.1 11 = .ok (.iaload, 1) := by decide +kernel
theorem d_TE_sameText_12 : decode M_TE_sameText.2.1 12 = .ok (.isub, 1) := by decide +kernel
theorem d_TE_sameText_13 : decode M_TE_sameText.2.1 13 = .ok (.istore_n 3, 1) := by decide +kernel
theorem d_TE_sameText_14 : decode M_TE_sameText.2.1 14 = .ok (.iload_n 3, 1) := by decide +kernel
theorem d_TE_sameText_15 : decode M_TE_sameText.2.1 15 = .ok (.aload_n 0, 1) := by decide +kernel
theorem d_TE_sameText_16 : decode M_TE_sameText.2.1 16 = .ok (.getfield 18, 3) := by decide +kernel
theorem d_TE_sameText_19 : decode M_TE_sameText.2.1 19 = .ok (.iload_n 2, 1) := by decide +kernel
theorem d_TE_sameText_20 : decode M_TE_sameText.2.1 20 = .ok (.iaload, 1) := by decide +kernel
theorem d_TE_sameText_21 : decode M_TE_sameText.2.1 21 = .ok (.aload_n 0, 1) := by decide +kernel
theorem d_TE_sameText_22 : decode M_TE_sameText.2.1 22 = .ok (.getfield 15, 3) := by decide +kernel
theorem d_TE_sameText_25 : decode M_TE_sameText.2.1 25 = .ok (.iload_n 2, 1) := by decide +kernel
theorem d_TE_sameText_26 : decode M_TE_sameText.2.1 26 = .ok (.iaload, 1) := by decide +kernel
theorem d_TE_sameText_27 : decode M_TE_sameText.2.1 27 = .ok (.isub, 1) := by decide +kernel
theorem d_TE_sameText_28 : decode M_TE_sameText.2.1 28 = .ok (.if_icmp .eq 5, 3) := by decide +kernel
theorem d_TE_sameText_31 : decode M_TE_sameText.2.1 31 = .ok (.iconst 0, 1) := by decide +kernel
theorem d_TE_sameText_32 : decode M_TE_sameText.2.1 32 = .ok (.ireturn, 1) := by decide +kernel
theorem d_TE_sameText_33 : decode M_TE_sameText.2.1 33 = .ok (.iconst 0, 1) := by decide +kernel
theorem d_TE_sameText_34 : decode M_TE_sameText.2.1 34 = .ok (.istore 4, 2) := by decide +kernel
theorem d_TE_sameText_36 : decode M_TE_sameText.2.1 36 = .ok (.iload 4, 2) := by decide +kernel
theorem d_TE_sameText_38 : decode M_TE_sameText.2.1 38 = .ok (.iload_n 3, 1) := by decide +kernel
theorem d_TE_sameText_39 : decode M_TE_sameText.2.1 39 = .ok (.if_icmp .ge 42, 3) := by decide +kernel
theorem d_TE_sameText_42 : decode M_TE_sameText.2.1 42 = .ok (.aload_n 0, 1) := by decide +kernel
theorem d_TE_sameText_43 : decode M_TE_sameText.2.1 43 = .ok (.getfield 36, 3) := by decide +kernel
theorem d_TE_sameText_46 : decode M_TE_sameText.2.1 46 = .ok (.aload_n 0, 1) := by decide +kernel
theorem d_TE_sameText_47 : decode M_TE_sameText.2.1 47 = .ok (.getfield 15, 3) := by decide +kernel
theorem d_TE_sameText_50 : decode M_TE_sameText.2.1 50 = .ok (.iload_n 1, 1) := by decide +kernel
theorem d_TE_sameText_51 : decode M_TE_sameText.2.1 51 = .ok (.iaload, 1) := by decide +kernel
theorem d_TE_sameText_52 : decode M_TE_sameText.2.1 52 = .ok (.iload 4, 2) := by decide +kernel
theorem d_TE_sameText_54 : decode M_TE_sameText.2.1 54 = .ok (.iadd, 1) := by decide +kernel
theorem d_TE_sameText_55 : decode M_TE_sameText.2.1 55 = .ok (.baload, 1) := by decide +kernel
theorem d_TE_sameText_56 : decode M_TE_sameText.2.1 56 = .ok (.aload_n 0, 1) := by decide +kernel
theorem d_TE_sameText_57 : decode M_TE_sameText.2.1 57 = .ok (.getfield 36, 3) := by decide +kernel
theorem d_TE_sameText_60 : decode M_TE_sameText.2.1 60 = .ok (.aload_n 0, 1) := by decide +kernel
theorem d_TE_sameText_61 : decode M_TE_sameText.2.1 61 = .ok (.getfield 15, 3) := by decide +kernel
theorem d_TE_sameText_64 : decode M_TE_sameText.2.1 64 = .ok (.iload_n 2, 1) := by decide +kernel
theorem d_TE_sameText_65 : decode M_TE_sameText.2.1 65 = .ok (.iaload, 1) := by decide +kernel
theorem d_TE_sameText_66 : decode M_TE_sameText.2.1 66 = .ok (.iload 4, 2) := by decide +kernel
theorem d_TE_sameText_68 : decode M_TE_sameText.2.1 68 = .ok (.iadd, 1) := by decide +kernel
theorem d_TE_sameText_69 : decode M_TE_sameText.2.1 69 = .ok (.baload, 1) := by decide +kernel
theorem d_TE_sameText_70 : decode M_TE_sameText.2.1 70 = .ok (.if_icmp .eq 5, 3) := by decide +kernel
theorem d_TE_sameText_73 : decode M_TE_sameText.2.1 73 = .ok (.iconst 0, 1) := by decide +kernel
theorem d_TE_sameText_74 : decode M_TE_sameText.2.1 74 = .ok (.ireturn, 1) := by decide +kernel
theorem d_TE_sameText_75 : decode M_TE_sameText.2.1 75 = .ok (.iinc 4 1, 3) := by decide +kernel
theorem d_TE_sameText_78 : decode M_TE_sameText.2.1 78 = .ok (.goto (-42), 3) := by decide +kernel
theorem d_TE_sameText_81 : decode M_TE_sameText.2.1 81 = .ok (.iconst 1, 1) := by decide +kernel
theorem d_TE_sameText_82 : decode M_TE_sameText.2.1 82 = .ok (.ireturn, 1) := by decide +kernel
set_option maxRecDepth 20000 in
theorem w_TE_sameText {E : xR} {h : xH} {A : Nat → Nat → Int32} {u : Nat → Nat} {s v r : Int32} {x y : Nat} (h1 : h 1 = .inl (1, 4096, .inl (fun i => g_sb (u i)))) (ok : g_okA A) (hx : x < 1001) (hy : y < 1001) : x_Mt E M_TE_sameText 0 0 0 [.ref 5, .int (nI x), .int (nI y)] 52 (g_tw h s v r A) (x_Y (some (.int (g_b2 (g_smA u A x y)))) 52 (g_tw h s v r A)) := by
  obtain ⟨fx, tx, lx, mx⟩ := ok.1 x hx
  obtain ⟨fy, ty, ly, my⟩ := ok.1 y hy
  have cx : (nI x).toNatClampNeg = x := nI_clamp (by omega)
  have cy : (nI y).toNatClampNeg = y := nI_clamp (by omega)
  refine x_Mt.of (by decide) (Nat.le_of_ble_eq_true rfl) ?_
  have hloop : ∀ m i, i + m = g_tN A x - g_fN A x → g_tN A x - g_fN A x = g_tN A y - g_fN A y → g_smA u A x y = g_eqr u m (g_fN A x + i) (g_fN A y + i) → x_W E M_TE_sameText (x_room 0 0 0) (x_Y (some (.int (g_b2 (g_smA u A x y)))) 52 (g_tw h s v r A)) 52 (g_tw h s v r A) 36 [(0, .ref 5), (1, .int (nI x)), (2, .int (nI y)), (3, .int (nI (g_tN A x - g_fN A x))), (4, .int (nI i))] [] 0 0 := by
    intro m
    induction m with
    | zero =>
      intro i hi hl hg
      obtain rfl : i = g_tN A x - g_fN A x := by omega
      refine x_iload d_TE_sameText_36 rfl ?_
      refine x_iload_n d_TE_sameText_38 rfl rfl ?_
      refine x_icmp_ge 81 d_TE_sameText_39 (by decide) (fun _ => ?_) (fun z => absurd (nI_le (Nat.le_refl _) (by omega)) z)
      refine x_iconst 1 d_TE_sameText_81 (by decide) ?_
      exact x_ireturn d_TE_sameText_82 rfl rfl ⟨congrArg (fun z => Sum.inl (some (Value.int z))) (show (1 : Int32) = (g_b2 (g_smA u A x y)) by rw [hg]; rfl), rfl, fun _ _ => rfl, rfl, rfl⟩
    | succ m ih =>
      intro i hi hl hg
      rw [g_eqr] at hg
      refine x_iload d_TE_sameText_36 rfl ?_
      refine x_iload_n d_TE_sameText_38 rfl rfl ?_
      refine x_icmp_ge 81 d_TE_sameText_39 (by decide) (fun z => absurd z (nI_ge (by omega) (by omega))) (fun _ => ?_)
      refine x_aload_n d_TE_sameText_42 rfl rfl ?_
      refine x_get d_TE_sameText_43 f_TE_36 (Nat.le_of_ble_eq_true rfl) (Nat.le_of_ble_eq_true rfl) (by first | rfl | assumption) (by rfl) ?_
      refine x_aload_n d_TE_sameText_46 rfl rfl ?_
      refine x_get d_TE_sameText_47 f_TE_15 (Nat.le_of_ble_eq_true rfl) (Nat.le_of_ble_eq_true rfl) (by first | rfl | assumption) (by rfl) ?_
      refine x_iload_n d_TE_sameText_50 rfl rfl ?_
      refine x_iald d_TE_sameText_51 (Nat.le_of_ble_eq_true rfl) (Nat.le_of_ble_eq_true rfl) (by first | rfl | assumption) (vp_in_nI (show x < 1001 from hx) (by decide)) ?_
      refine x_topi (nI (g_fN A x)) (by rw [cx]; exact fx) ?_
      refine x_iload d_TE_sameText_52 rfl ?_
      refine x_iadd d_TE_sameText_54 ?_
      refine x_topi (nI (g_fN A x + i)) (nI_add _ i) ?_
      refine x_bald d_TE_sameText_55 (Nat.le_of_ble_eq_true rfl) (Nat.le_of_ble_eq_true rfl) (by first | rfl | assumption) (vp_in_nI (show g_fN A x + i < 4096 by omega) (by decide)) ?_
      refine x_topi (g_sb (u (g_fN A x + i))) (by rw [nI_clamp (by omega)]) ?_
      refine x_aload_n d_TE_sameText_56 rfl rfl ?_
      refine x_get d_TE_sameText_57 f_TE_36 (Nat.le_of_ble_eq_true rfl) (Nat.le_of_ble_eq_true rfl) (by first | rfl | assumption) (by rfl) ?_
      refine x_aload_n d_TE_sameText_60 rfl rfl ?_
      refine x_get d_TE_sameText_61 f_TE_15 (Nat.le_of_ble_eq_true rfl) (Nat.le_of_ble_eq_true rfl) (by first | rfl | assumption) (by rfl) ?_
      refine x_iload_n d_TE_sameText_64 rfl rfl ?_
      refine x_iald d_TE_sameText_65 (Nat.le_of_ble_eq_true rfl) (Nat.le_of_ble_eq_true rfl) (by first | rfl | assumption) (vp_in_nI (show y < 1001 from hy) (by decide)) ?_
      refine x_topi (nI (g_fN A y)) (by rw [cy]; exact fy) ?_
      refine x_iload d_TE_sameText_66 rfl ?_
      refine x_iadd d_TE_sameText_68 ?_
      refine x_topi (nI (g_fN A y + i)) (nI_add _ i) ?_
      refine x_bald d_TE_sameText_69 (Nat.le_of_ble_eq_true rfl) (Nat.le_of_ble_eq_true rfl) (by first | rfl | assumption) (vp_in_nI (show g_fN A y + i < 4096 by omega) (by decide)) ?_
      refine x_topi (g_sb (u (g_fN A y + i))) (by rw [nI_clamp (by omega)]) ?_
      refine x_icmp_eq 75 d_TE_sameText_70 (by decide) (fun c_70 => ?_) (fun c_70 => ?_)
      · refine x_iinc d_TE_sameText_75 rfl 1 (by decide) (Nat.le_of_ble_eq_true rfl) ?_
        refine x_goto 36 d_TE_sameText_78 (by decide) ?_
        refine x_lv [(0, .ref 5), (1, .int (nI x)), (2, .int (nI y)), (3, .int (nI (g_tN A x - g_fN A x))), (4, .int (nI (i + 1)))] (by rw [nI_succ i]; rfl) ?_
        exact ih (i + 1) (by omega) hl (by rw [hg, decide_eq_true c_70]; rfl)
      · refine x_iconst 0 d_TE_sameText_73 (by decide) ?_
        exact x_ireturn d_TE_sameText_74 rfl rfl ⟨congrArg (fun z => Sum.inl (some (Value.int z))) (show (0 : Int32) = (g_b2 (g_smA u A x y)) by rw [hg, decide_eq_false c_70]; rfl), rfl, fun _ _ => rfl, rfl, rfl⟩
  show x_W E M_TE_sameText _ _ 52 (g_tw h s v r A) 0 [(0, .ref 5), (1, .int (nI x)), (2, .int (nI y))] [] 0 0
  refine x_aload_n d_TE_sameText_0 rfl rfl ?_
  refine x_get d_TE_sameText_1 f_TE_18 (Nat.le_of_ble_eq_true rfl) (Nat.le_of_ble_eq_true rfl) (by first | rfl | assumption) (by rfl) ?_
  refine x_iload_n d_TE_sameText_4 rfl rfl ?_
  refine x_iald d_TE_sameText_5 (Nat.le_of_ble_eq_true rfl) (Nat.le_of_ble_eq_true rfl) (by first | rfl | assumption) (vp_in_nI (show x < 1001 from hx) (by decide)) ?_
  refine x_topi (nI (g_tN A x)) (by rw [cx]; exact tx) ?_
  refine x_aload_n d_TE_sameText_6 rfl rfl ?_
  refine x_get d_TE_sameText_7 f_TE_15 (Nat.le_of_ble_eq_true rfl) (Nat.le_of_ble_eq_true rfl) (by first | rfl | assumption) (by rfl) ?_
  refine x_iload_n d_TE_sameText_10 rfl rfl ?_
  refine x_iald d_TE_sameText_11 (Nat.le_of_ble_eq_true rfl) (Nat.le_of_ble_eq_true rfl) (by first | rfl | assumption) (vp_in_nI (show x < 1001 from hx) (by decide)) ?_
  refine x_topi (nI (g_fN A x)) (by rw [cx]; exact fx) ?_
  refine x_isub d_TE_sameText_12 ?_
  refine x_topi (nI (g_tN A x - g_fN A x)) (g_nIsub lx) ?_
  refine x_istore_n d_TE_sameText_13 rfl (Nat.le_of_ble_eq_true rfl) ?_
  refine x_iload_n d_TE_sameText_14 rfl rfl ?_
  refine x_aload_n d_TE_sameText_15 rfl rfl ?_
  refine x_get d_TE_sameText_16 f_TE_18 (Nat.le_of_ble_eq_true rfl) (Nat.le_of_ble_eq_true rfl) (by first | rfl | assumption) (by rfl) ?_
  refine x_iload_n d_TE_sameText_19 rfl rfl ?_
  refine x_iald d_TE_sameText_20 (Nat.le_of_ble_eq_true rfl) (Nat.le_of_ble_eq_true rfl) (by first | rfl | assumption) (vp_in_nI (show y < 1001 from hy) (by decide)) ?_
  refine x_topi (nI (g_tN A y)) (by rw [cy]; exact ty) ?_
  refine x_aload_n d_TE_sameText_21 rfl rfl ?_
  refine x_get d_TE_sameText_22 f_TE_15 (Nat.le_of_ble_eq_true rfl) (Nat.le_of_ble_eq_true rfl) (by first | rfl | assumption) (by rfl) ?_
  refine x_iload_n d_TE_sameText_25 rfl rfl ?_
  refine x_iald d_TE_sameText_26 (Nat.le_of_ble_eq_true rfl) (Nat.le_of_ble_eq_true rfl) (by first | rfl | assumption) (vp_in_nI (show y < 1001 from hy) (by decide)) ?_
  refine x_topi (nI (g_fN A y)) (by rw [cy]; exact fy) ?_
  refine x_isub d_TE_sameText_27 ?_
  refine x_topi (nI (g_tN A y - g_fN A y)) (g_nIsub ly) ?_
  refine x_icmp_eq 33 d_TE_sameText_28 (by decide) (fun c_28 => ?_) (fun c_28 => ?_)
  · have hl : g_tN A x - g_fN A x = g_tN A y - g_fN A y := (g_nIne (by omega) (by omega)).mp c_28
    refine x_iconst 0 d_TE_sameText_33 (by decide) ?_
    refine x_istore d_TE_sameText_34 (Nat.le_of_ble_eq_true rfl) ?_
    exact hloop _ 0 (Nat.zero_add _) hl (by rw [g_smA, g_same, decide_eq_true hl]; rfl)
  · refine x_iconst 0 d_TE_sameText_31 (by decide) ?_
    exact x_ireturn d_TE_sameText_32 rfl rfl ⟨congrArg (fun z => Sum.inl (some (Value.int z))) (show (0 : Int32) = (g_b2 (g_smA u A x y)) by rw [g_smA, g_same, decide_eq_false (fun q => c_28 (by rw [q]))]; rfl), rfl, fun _ _ => rfl, rfl, rfl⟩
