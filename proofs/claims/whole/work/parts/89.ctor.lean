theorem d_PA_init_0 : decode M_PA_init.2.1 0 = .ok (.aload_n 0, 1) := by decide +kernel
theorem d_PA_init_1 : decode M_PA_init.2.1 1 = .ok (.invokespecial 3, 3) := by decide +kernel
theorem d_PA_init_4 : decode M_PA_init.2.1 4 = .ok (.aload_n 0, 1) := by decide +kernel
theorem d_PA_init_5 : decode M_PA_init.2.1 5 = .ok (.new 9, 3) := by decide +kernel
theorem d_PA_init_8 : decode M_PA_init.2.1 8 = .ok (.dup, 1) := by decide +kernel
theorem d_PA_init_9 : decode M_PA_init.2.1 9 = .ok (.invokespecial 11, 3) := by decide +kernel
theorem d_PA_init_12 : decode M_PA_init.2.1 12 = .ok (.putfield 12, 3) := by decide +kernel
theorem d_PA_init_15 : decode M_PA_init.2.1 15 = .ok (.aload_n 0, 1) := by decide +kernel
theorem d_PA_init_16 : decode M_PA_init.2.1 16 = .ok (.new 18, 3) := by decide +kernel
theorem d_PA_init_19 : decode M_PA_init.2.1 19 = .ok (.dup, 1) := by decide +kernel
theorem d_PA_init_20 : decode M_PA_init.2.1 20 = .ok (.invokespecial 20, 3) := by decide +kernel
theorem d_PA_init_23 : decode M_PA_init.2.1 23 = .ok (.putfield 21, 3) := by decide +kernel
theorem d_PA_init_26 : decode M_PA_init.2.1 26 = .ok (.return_, 1) := by decide +kernel
set_option maxRecDepth 20000 in
theorem w_PA_init {E : xR} {h : xH} (htg : x_tg E) (ho : h 2 = .inr (1, [.null, .null])) : x_Mt E M_PA_init 2 12 8028 [.ref 2] 3 h (x_IN 15 12 8028 (fun h' => h' 2 = .inr (1, [.ref 3, .ref 5]) ∧ h' 3 = .inr (2, [.ref 4, .int 0, .int 0, .ref 1000011, .int 0, .int 0, .int 0, .int (-1)]) ∧ h' 4 = .inl (1, 0, .inl (fun _ => 0)) ∧ h' 5 = .inr (3, [.ref 6, .ref 7, .ref 8, .ref 9, .ref 10, .ref 11, .ref 12, .ref 13, .ref 14, .int 0, .int 0, .int 0]) ∧ h' 6 = .inl (0, 1001, .inl (fun _ => 0)) ∧ h' 7 = .inl (0, 1001, .inl (fun _ => 0)) ∧ h' 8 = .inl (0, 1001, .inl (fun _ => 0)) ∧ h' 9 = .inl (0, 1001, .inl (fun _ => 0)) ∧ h' 10 = .inl (0, 1001, .inl (fun _ => 0)) ∧ h' 11 = .inl (0, 1001, .inl (fun _ => 0)) ∧ h' 12 = .inl (0, 1001, .inl (fun _ => 0)) ∧ h' 13 = .inl (0, 1001, .inl (fun _ => 0)) ∧ h' 14 = .inl (1, 0, .inl (fun _ => 0)) ∧ ∀ i, i < 2 → h' i = h i)) := by
  refine x_Mt.of (by decide) (Nat.le_of_ble_eq_true rfl) ?_
  show x_W E M_PA_init _ _ 3 h 0 [(0, .ref 2)] [] 0 0
  refine x_aload_n d_PA_init_0 rfl rfl ?_
  refine x_objInit d_PA_init_1 (x_mem 104 (by decide +kernel) (by decide +kernel)) (x_mem 97 (by decide +kernel) (by decide +kernel)) (x_mem 98 (by decide +kernel) (by decide +kernel)) (Nat.le_of_ble_eq_true rfl) (Nat.le_of_ble_eq_true rfl) (Nat.le_of_ble_eq_true rfl) ?_
  refine x_aload_n d_PA_init_4 rfl rfl ?_
  refine x_new d_PA_init_5 htg c_SG (x_mem 105 (by decide +kernel) (by decide +kernel)) (x_mem 106 (by decide +kernel) (by decide +kernel)) (x_mem 67 (by decide +kernel) (by decide +kernel)) [.null, .int 0, .int 0, .null, .int 0, .int 0, .int 0, .int 0] (x_s1 (x_s1 (x_s1 (x_s1 (x_s1 (x_s1 (x_s1 (x_s1 (x_s0) rfl) rfl) rfl) rfl) rfl) rfl) rfl) rfl) (Nat.le_of_ble_eq_true rfl) (Nat.le_of_ble_eq_true rfl) (Nat.le_of_ble_eq_true rfl) ?_
  refine x_dup d_PA_init_8 rfl ?_
  refine x_callI0P d_PA_init_9 k_PA_11 (w_SG_init htg rfl) (Nat.le_of_ble_eq_true rfl) (Nat.le_of_ble_eq_true rfl) (Nat.le_of_ble_eq_true rfl) (Nat.le_of_ble_eq_true rfl) (Nat.le_of_ble_eq_true rfl) rfl rfl (fun h9 hp9 => ?_)
  obtain ⟨s3, s4, so⟩ := hp9
  have e9 : h9 2 = .inr (1, [.null, .null]) := (so 2 (by decide)).trans ho
  refine x_putF (k := 0) (ty := (.object "TermReader$Signs")) d_PA_init_12 rfl "TermReader$Parser" F_PA 2 t_PA c_PA (by decide) rfl rfl rfl (x_mem 203 (by decide +kernel) (by decide +kernel)) (Nat.le_of_ble_eq_true rfl) (Nat.le_of_ble_eq_true rfl) (by first | rfl | assumption) (by rfl) (by rfl) (by exact (Nat.le_of_ble_eq_true rfl)) ?_
  refine x_aload_n d_PA_init_15 rfl rfl ?_
  refine x_new d_PA_init_16 htg c_TE (x_mem 145 (by decide +kernel) (by decide +kernel)) (x_mem 146 (by decide +kernel) (by decide +kernel)) (x_mem 70 (by decide +kernel) (by decide +kernel)) [.null, .null, .null, .null, .null, .null, .null, .null, .null, .int 0, .int 0, .int 0] (x_s1 (x_s1 (x_s1 (x_s1 (x_s1 (x_s1 (x_s1 (x_s1 (x_s1 (x_s1 (x_s1 (x_s1 (x_s0) rfl) rfl) rfl) rfl) rfl) rfl) rfl) rfl) rfl) rfl) rfl) rfl) (Nat.le_of_ble_eq_true rfl) (Nat.le_of_ble_eq_true rfl) (Nat.le_of_ble_eq_true rfl) ?_
  refine x_dup d_PA_init_19 rfl ?_
  refine x_callI0P d_PA_init_20 k_PA_20 (w_TE_init htg rfl) (Nat.le_of_ble_eq_true rfl) (Nat.le_of_ble_eq_true rfl) (Nat.le_of_ble_eq_true rfl) (Nat.le_of_ble_eq_true rfl) (Nat.le_of_ble_eq_true rfl) rfl rfl (fun h20 hp20 => ?_)
  obtain ⟨t5, t6, t7, t8, t9, t10, t11, t12, t13, t14, to⟩ := hp20
  have e20 : h20 2 = .inr (1, [.ref 3, .null]) := to 2 (by decide)
  refine x_putF (k := 1) (ty := (.object "TermReader$Tree")) d_PA_init_23 rfl "TermReader$Parser" F_PA 2 t_PA c_PA (by decide) rfl rfl rfl (x_mem 204 (by decide +kernel) (by decide +kernel)) (Nat.le_of_ble_eq_true rfl) (Nat.le_of_ble_eq_true rfl) (by first | rfl | assumption) (by rfl) (by rfl) (by exact (Nat.le_of_ble_eq_true rfl)) ?_
  exact x_return d_PA_init_26 rfl ⟨rfl, rfl, rfl, rfl, rfl, ((to 3 (by decide)).trans s3), ((to 4 (by decide)).trans s4), t5, t6, t7, t8, t9, t10, t11, t12, t13, t14, (fun i hi => by repeat' (first | refine (x_up_ne (by omega)).trans ?_ | refine (to i (by omega)).trans ?_ | refine (so i (by omega)).trans ?_ | rfl))⟩
theorem d_TR_init_0 : decode M_TR_init.2.1 0 = .ok (.aload_n 0, 1) := by decide +kernel
theorem d_TR_init_1 : decode M_TR_init.2.1 1 = .ok (.invokespecial 1, 3) := by decide +kernel
theorem d_TR_init_4 : decode M_TR_init.2.1 4 = .ok (.aload_n 0, 1) := by decide +kernel
theorem d_TR_init_5 : decode M_TR_init.2.1 5 = .ok (.sipush 4096, 3) := by decide +kernel
theorem d_TR_init_8 : decode M_TR_init.2.1 8 = .ok (.newarray .byte, 2) := by decide +kernel
theorem d_TR_init_10 : decode M_TR_init.2.1 10 = .ok (.putfield 9, 3) := by decide +kernel
theorem d_TR_init_13 : decode M_TR_init.2.1 13 = .ok (.aload_n 0, 1) := by decide +kernel
theorem d_TR_init_14 : decode M_TR_init.2.1 14 = .ok (.new 13, 3) := by decide +kernel
theorem d_TR_init_17 : decode M_TR_init.2.1 17 = .ok (.dup, 1) := by decide +kernel
theorem d_TR_init_18 : decode M_TR_init.2.1 18 = .ok (.invokespecial 15, 3) := by decide +kernel
theorem d_TR_init_21 : decode M_TR_init.2.1 21 = .ok (.putfield 16, 3) := by decide +kernel
theorem d_TR_init_24 : decode M_TR_init.2.1 24 = .ok (.aload_n 0, 1) := by decide +kernel
theorem d_TR_init_25 : decode M_TR_init.2.1 25 = .ok (.new 20, 3) := by decide +kernel
theorem d_TR_init_28 : decode M_TR_init.2.1 28 = .ok (.dup, 1) := by decide +kernel
theorem d_TR_init_29 : decode M_TR_init.2.1 29 = .ok (.invokespecial 22, 3) := by decide +kernel
theorem d_TR_init_32 : decode M_TR_init.2.1 32 = .ok (.putfield 23, 3) := by decide +kernel
theorem d_TR_init_35 : decode M_TR_init.2.1 35 = .ok (.aload_n 0, 1) := by decide +kernel
theorem d_TR_init_36 : decode M_TR_init.2.1 36 = .ok (.sipush 4096, 3) := by decide +kernel
theorem d_TR_init_39 : decode M_TR_init.2.1 39 = .ok (.newarray .byte, 2) := by decide +kernel
theorem d_TR_init_41 : decode M_TR_init.2.1 41 = .ok (.putfield 27, 3) := by decide +kernel
theorem d_TR_init_44 : decode M_TR_init.2.1 44 = .ok (.aload_n 0, 1) := by decide +kernel
theorem d_TR_init_45 : decode M_TR_init.2.1 45 = .ok (.sipush 4096, 3) := by decide +kernel
theorem d_TR_init_48 : decode M_TR_init.2.1 48 = .ok (.newarray .byte, 2) := by decide +kernel
theorem d_TR_init_50 : decode M_TR_init.2.1 50 = .ok (.putfield 30, 3) := by decide +kernel
theorem d_TR_init_53 : decode M_TR_init.2.1 53 = .ok (.return_, 1) := by decide +kernel
set_option maxRecDepth 20000 in
theorem w_TR_init {E : xR} {h : xH} (htg : x_tg E) (ho : h 0 = .inr (0, [.null, .null, .null, .null, .null, .int 0, .int 0, .int 0, .int 0, .int 0])) : x_Mt E M_TR_init 3 20 23325 [.ref 0] 1 h (x_IN 21 20 23325 (fun h' => h' 0 = .inr (0, [.ref 1, .ref 2, .ref 15, .ref 19, .ref 20, .int 0, .int 0, .int 0, .int 0, .int 0]) ∧ h' 1 = .inl (1, 4096, .inl (fun _ => 0)) ∧ h' 2 = .inr (1, [.ref 3, .ref 5]) ∧ h' 3 = .inr (2, [.ref 4, .int 0, .int 0, .ref 1000011, .int 0, .int 0, .int 0, .int (-1)]) ∧ h' 4 = .inl (1, 0, .inl (fun _ => 0)) ∧ h' 5 = .inr (3, [.ref 6, .ref 7, .ref 8, .ref 9, .ref 10, .ref 11, .ref 12, .ref 13, .ref 14, .int 0, .int 0, .int 0]) ∧ h' 6 = .inl (0, 1001, .inl (fun _ => 0)) ∧ h' 7 = .inl (0, 1001, .inl (fun _ => 0)) ∧ h' 8 = .inl (0, 1001, .inl (fun _ => 0)) ∧ h' 9 = .inl (0, 1001, .inl (fun _ => 0)) ∧ h' 10 = .inl (0, 1001, .inl (fun _ => 0)) ∧ h' 11 = .inl (0, 1001, .inl (fun _ => 0)) ∧ h' 12 = .inl (0, 1001, .inl (fun _ => 0)) ∧ h' 13 = .inl (0, 1001, .inl (fun _ => 0)) ∧ h' 14 = .inl (1, 0, .inl (fun _ => 0)) ∧ h' 15 = .inr (4, [.ref 16, .ref 17, .int 0, .ref 18, .int 0, .int 0]) ∧ h' 16 = .inl (0, 1001, .inl (fun _ => 0)) ∧ h' 17 = .inl (0, 2000, .inl (fun _ => 0)) ∧ h' 18 = .inl (1, 0, .inl (fun _ => 0)) ∧ h' 19 = .inl (1, 4096, .inl (fun _ => 0)) ∧ h' 20 = .inl (1, 4096, .inl (fun _ => 0)))) := by
  refine x_Mt.of (by decide) (Nat.le_of_ble_eq_true rfl) ?_
  show x_W E M_TR_init _ _ 1 h 0 [(0, .ref 0)] [] 0 0
  refine x_aload_n d_TR_init_0 rfl rfl ?_
  refine x_objInit d_TR_init_1 (x_mem 96 (by decide +kernel) (by decide +kernel)) (x_mem 97 (by decide +kernel) (by decide +kernel)) (x_mem 98 (by decide +kernel) (by decide +kernel)) (Nat.le_of_ble_eq_true rfl) (Nat.le_of_ble_eq_true rfl) (Nat.le_of_ble_eq_true rfl) ?_
  refine x_aload_n d_TR_init_4 rfl rfl ?_
  refine x_sipush 4096 d_TR_init_5 (by decide) ?_
  refine x_newaB 4096 d_TR_init_8 htg (by decide) (by decide) (by decide) (Nat.le_of_ble_eq_true rfl) (Nat.le_of_ble_eq_true rfl) (Nat.le_of_ble_eq_true rfl) ?_
  refine x_putF (k := 0) (ty := (.array .byte)) d_TR_init_10 rfl "TermReader" F_TR 10 t_TR c_TR (by decide) rfl rfl rfl (x_mem 237 (by decide +kernel) (by decide +kernel)) (Nat.le_of_ble_eq_true rfl) (Nat.le_of_ble_eq_true rfl) (by first | rfl | assumption) (by rfl) (by rfl) (by exact (Nat.le_of_ble_eq_true rfl)) ?_
  refine x_aload_n d_TR_init_13 rfl rfl ?_
  refine x_new d_TR_init_14 htg c_PA (x_mem 99 (by decide +kernel) (by decide +kernel)) (x_mem 100 (by decide +kernel) (by decide +kernel)) (x_mem 66 (by decide +kernel) (by decide +kernel)) [.null, .null] (x_s1 (x_s1 (x_s0) rfl) rfl) (Nat.le_of_ble_eq_true rfl) (Nat.le_of_ble_eq_true rfl) (Nat.le_of_ble_eq_true rfl) ?_
  refine x_dup d_TR_init_17 rfl ?_
  refine x_callI0P d_TR_init_18 k_TR_15 (w_PA_init htg rfl) (Nat.le_of_ble_eq_true rfl) (Nat.le_of_ble_eq_true rfl) (Nat.le_of_ble_eq_true rfl) (Nat.le_of_ble_eq_true rfl) (Nat.le_of_ble_eq_true rfl) rfl rfl (fun h18 hp18 => ?_)
  obtain ⟨s2, s3, s4, s5, s6, s7, s8, s9, s10, s11, s12, s13, s14, so⟩ := hp18
  have e18 : h18 0 = .inr (0, [.ref 1, .null, .null, .null, .null, .int 0, .int 0, .int 0, .int 0, .int 0]) := so 0 (by decide)
  have f18 : h18 1 = .inl (1, 4096, .inl (fun _ => 0)) := so 1 (by decide)
  refine x_putF (k := 1) (ty := (.object "TermReader$Parser")) d_TR_init_21 rfl "TermReader" F_TR 10 t_TR c_TR (by decide) rfl rfl rfl (x_mem 238 (by decide +kernel) (by decide +kernel)) (Nat.le_of_ble_eq_true rfl) (Nat.le_of_ble_eq_true rfl) (by first | rfl | assumption) (by rfl) (by rfl) (by exact (Nat.le_of_ble_eq_true rfl)) ?_
  refine x_aload_n d_TR_init_24 rfl rfl ?_
  refine x_new d_TR_init_25 htg c_PR (x_mem 210 (by decide +kernel) (by decide +kernel)) (x_mem 211 (by decide +kernel) (by decide +kernel)) (x_mem 71 (by decide +kernel) (by decide +kernel)) [.null, .null, .int 0, .null, .int 0, .int 0] (x_s1 (x_s1 (x_s1 (x_s1 (x_s1 (x_s1 (x_s0) rfl) rfl) rfl) rfl) rfl) rfl) (Nat.le_of_ble_eq_true rfl) (Nat.le_of_ble_eq_true rfl) (Nat.le_of_ble_eq_true rfl) ?_
  refine x_dup d_TR_init_28 rfl ?_
  refine x_callI0P d_TR_init_29 k_TR_22 (w_PR_init htg rfl) (Nat.le_of_ble_eq_true rfl) (Nat.le_of_ble_eq_true rfl) (Nat.le_of_ble_eq_true rfl) (Nat.le_of_ble_eq_true rfl) (Nat.le_of_ble_eq_true rfl) rfl rfl (fun h29 hp29 => ?_)
  obtain ⟨t15, t16, t17, t18, to⟩ := hp29
  have e29 : h29 0 = .inr (0, [.ref 1, .ref 2, .null, .null, .null, .int 0, .int 0, .int 0, .int 0, .int 0]) := to 0 (by decide)
  refine x_putF (k := 2) (ty := (.object "TermReader$Printer")) d_TR_init_32 rfl "TermReader" F_TR 10 t_TR c_TR (by decide) rfl rfl rfl (x_mem 239 (by decide +kernel) (by decide +kernel)) (Nat.le_of_ble_eq_true rfl) (Nat.le_of_ble_eq_true rfl) (by first | rfl | assumption) (by rfl) (by rfl) (by exact (Nat.le_of_ble_eq_true rfl)) ?_
  refine x_aload_n d_TR_init_35 rfl rfl ?_
  refine x_sipush 4096 d_TR_init_36 (by decide) ?_
  refine x_newaB 4096 d_TR_init_39 htg (by decide) (by decide) (by decide) (Nat.le_of_ble_eq_true rfl) (Nat.le_of_ble_eq_true rfl) (Nat.le_of_ble_eq_true rfl) ?_
  refine x_put d_TR_init_41 f_TR_27 (Nat.le_of_ble_eq_true rfl) (Nat.le_of_ble_eq_true rfl) (by first | rfl | assumption) (by rfl) (by rfl) (by exact (Nat.le_of_ble_eq_true rfl)) ?_
  refine x_aload_n d_TR_init_44 rfl rfl ?_
  refine x_sipush 4096 d_TR_init_45 (by decide) ?_
  refine x_newaB 4096 d_TR_init_48 htg (by decide) (by decide) (by decide) (Nat.le_of_ble_eq_true rfl) (Nat.le_of_ble_eq_true rfl) (Nat.le_of_ble_eq_true rfl) ?_
  refine x_put d_TR_init_50 f_TR_30 (Nat.le_of_ble_eq_true rfl) (Nat.le_of_ble_eq_true rfl) (by first | rfl | assumption) (by rfl) (by rfl) (by exact (Nat.le_of_ble_eq_true rfl)) ?_
  exact x_return d_TR_init_53 rfl ⟨rfl, rfl, rfl, rfl, rfl, ((to 1 (by decide)).trans f18), ((to 2 (by decide)).trans s2), ((to 3 (by decide)).trans s3), ((to 4 (by decide)).trans s4), ((to 5 (by decide)).trans s5), ((to 6 (by decide)).trans s6), ((to 7 (by decide)).trans s7), ((to 8 (by decide)).trans s8), ((to 9 (by decide)).trans s9), ((to 10 (by decide)).trans s10), ((to 11 (by decide)).trans s11), ((to 12 (by decide)).trans s12), ((to 13 (by decide)).trans s13), ((to 14 (by decide)).trans s14), t15, t16, t17, t18, rfl, rfl⟩
theorem d_RD_init_0 : decode M_RD_init.2.1 0 = .ok (.aload_n 0, 1) := by decide +kernel
theorem d_RD_init_1 : decode M_RD_init.2.1 1 = .ok (.invokespecial 3, 3) := by decide +kernel
theorem d_RD_init_4 : decode M_RD_init.2.1 4 = .ok (.aload_n 0, 1) := by decide +kernel
theorem d_RD_init_5 : decode M_RD_init.2.1 5 = .ok (.bipush 20, 2) := by decide +kernel
theorem d_RD_init_7 : decode M_RD_init.2.1 7 = .ok (.anewarray 9, 3) := by decide +kernel
theorem d_RD_init_10 : decode M_RD_init.2.1 10 = .ok (.dup, 1) := by decide +kernel
theorem d_RD_init_11 : decode M_RD_init.2.1 11 = .ok (.iconst 0, 1) := by decide +kernel
theorem d_RD_init_12 : decode M_RD_init.2.1 12 = .ok (.ldc 11, 2) := by decide +kernel
theorem d_RD_init_14 : decode M_RD_init.2.1 14 = .ok (.aastore, 1) := by decide +kernel
theorem d_RD_init_15 : decode M_RD_init.2.1 15 = .ok (.dup, 1) := by decide +kernel
theorem d_RD_init_16 : decode M_RD_init.2.1 16 = .ok (.iconst 1, 1) := by decide +kernel
theorem d_RD_init_17 : decode M_RD_init.2.1 17 = .ok (.ldc 13, 2) := by decide +kernel
theorem d_RD_init_19 : decode M_RD_init.2.1 19 = .ok (.aastore, 1) := by decide +kernel
theorem d_RD_init_20 : decode M_RD_init.2.1 20 = .ok (.dup, 1) := by decide +kernel
theorem d_RD_init_21 : decode M_RD_init.2.1 21 = .ok (.iconst 2, 1) := by decide +kernel
theorem d_RD_init_22 : decode M_RD_init.2.1 22 = .ok (.ldc 15, 2) := by decide +kernel
theorem d_RD_init_24 : decode M_RD_init.2.1 24 = .ok (.aastore, 1) := by decide +kernel
theorem d_RD_init_25 : decode M_RD_init.2.1 25 = .ok (.dup, 1) := by decide +kernel
theorem d_RD_init_26 : decode M_RD_init.2.1 26 = .ok (.iconst 3, 1) := by decide +kernel
theorem d_RD_init_27 : decode M_RD_init.2.1 27 = .ok (.ldc 17, 2) := by decide +kernel
theorem d_RD_init_29 : decode M_RD_init.2.1 29 = .ok (.aastore, 1) := by decide +kernel
theorem d_RD_init_30 : decode M_RD_init.2.1 30 = .ok (.dup, 1) := by decide +kernel
theorem d_RD_init_31 : decode M_RD_init.2.1 31 = .ok (.iconst 4, 1) := by decide +kernel
theorem d_RD_init_32 : decode M_RD_init.2.1 32 = .ok (.ldc 19, 2) := by decide +kernel
theorem d_RD_init_34 : decode M_RD_init.2.1 34 = .ok (.aastore, 1) := by decide +kernel
theorem d_RD_init_35 : decode M_RD_init.2.1 35 = .ok (.dup, 1) := by decide +kernel
theorem d_RD_init_36 : decode M_RD_init.2.1 36 = .ok (.iconst 5, 1) := by decide +kernel
theorem d_RD_init_37 : decode M_RD_init.2.1 37 = .ok (.ldc 21, 2) := by decide +kernel
theorem d_RD_init_39 : decode M_RD_init.2.1 39 = .ok (.aastore, 1) := by decide +kernel
theorem d_RD_init_40 : decode M_RD_init.2.1 40 = .ok (.dup, 1) := by decide +kernel
theorem d_RD_init_41 : decode M_RD_init.2.1 41 = .ok (.bipush 6, 2) := by decide +kernel
theorem d_RD_init_43 : decode M_RD_init.2.1 43 = .ok (.ldc 23, 2) := by decide +kernel
theorem d_RD_init_45 : decode M_RD_init.2.1 45 = .ok (.aastore, 1) := by decide +kernel
theorem d_RD_init_46 : decode M_RD_init.2.1 46 = .ok (.dup, 1) := by decide +kernel
theorem d_RD_init_47 : decode M_RD_init.2.1 47 = .ok (.bipush 7, 2) := by decide +kernel
theorem d_RD_init_49 : decode M_RD_init.2.1 49 = .ok (.ldc 25, 2) := by decide +kernel
theorem d_RD_init_51 : decode M_RD_init.2.1 51 = .ok (.aastore, 1) := by decide +kernel
theorem d_RD_init_52 : decode M_RD_init.2.1 52 = .ok (.dup, 1) := by decide +kernel
theorem d_RD_init_53 : decode M_RD_init.2.1 53 = .ok (.bipush 8, 2) := by decide +kernel
theorem d_RD_init_55 : decode M_RD_init.2.1 55 = .ok (.ldc 27, 2) := by decide +kernel
theorem d_RD_init_57 : decode M_RD_init.2.1 57 = .ok (.aastore, 1) := by decide +kernel
theorem d_RD_init_58 : decode M_RD_init.2.1 58 = .ok (.dup, 1) := by decide +kernel
theorem d_RD_init_59 : decode M_RD_init.2.1 59 = .ok (.bipush 9, 2) := by decide +kernel
theorem d_RD_init_61 : decode M_RD_init.2.1 61 = .ok (.ldc 29, 2) := by decide +kernel
theorem d_RD_init_63 : decode M_RD_init.2.1 63 = .ok (.aastore, 1) := by decide +kernel
theorem d_RD_init_64 : decode M_RD_init.2.1 64 = .ok (.dup, 1) := by decide +kernel
theorem d_RD_init_65 : decode M_RD_init.2.1 65 = .ok (.bipush 10, 2) := by decide +kernel
theorem d_RD_init_67 : decode M_RD_init.2.1 67 = .ok (.ldc 31, 2) := by decide +kernel
theorem d_RD_init_69 : decode M_RD_init.2.1 69 = .ok (.aastore, 1) := by decide +kernel
theorem d_RD_init_70 : decode M_RD_init.2.1 70 = .ok (.dup, 1) := by decide +kernel
theorem d_RD_init_71 : decode M_RD_init.2.1 71 = .ok (.bipush 11, 2) := by decide +kernel
theorem d_RD_init_73 : decode M_RD_init.2.1 73 = .ok (.ldc 33, 2) := by decide +kernel
theorem d_RD_init_75 : decode M_RD_init.2.1 75 = .ok (.aastore, 1) := by decide +kernel
theorem d_RD_init_76 : decode M_RD_init.2.1 76 = .ok (.dup, 1) := by decide +kernel
theorem d_RD_init_77 : decode M_RD_init.2.1 77 = .ok (.bipush 12, 2) := by decide +kernel
theorem d_RD_init_79 : decode M_RD_init.2.1 79 = .ok (.ldc 35, 2) := by decide +kernel
theorem d_RD_init_81 : decode M_RD_init.2.1 81 = .ok (.aastore, 1) := by decide +kernel
theorem d_RD_init_82 : decode M_RD_init.2.1 82 = .ok (.dup, 1) := by decide +kernel
theorem d_RD_init_83 : decode M_RD_init.2.1 83 = .ok (.bipush 13, 2) := by decide +kernel
theorem d_RD_init_85 : decode M_RD_init.2.1 85 = .ok (.ldc 37, 2) := by decide +kernel
theorem d_RD_init_87 : decode M_RD_init.2.1 87 = .ok (.aastore, 1) := by decide +kernel
theorem d_RD_init_88 : decode M_RD_init.2.1 88 = .ok (.dup, 1) := by decide +kernel
theorem d_RD_init_89 : decode M_RD_init.2.1 89 = .ok (.bipush 14, 2) := by decide +kernel
theorem d_RD_init_91 : decode M_RD_init.2.1 91 = .ok (.ldc 39, 2) := by decide +kernel
theorem d_RD_init_93 : decode M_RD_init.2.1 93 = .ok (.aastore, 1) := by decide +kernel
theorem d_RD_init_94 : decode M_RD_init.2.1 94 = .ok (.dup, 1) := by decide +kernel
theorem d_RD_init_95 : decode M_RD_init.2.1 95 = .ok (.bipush 15, 2) := by decide +kernel
theorem d_RD_init_97 : decode M_RD_init.2.1 97 = .ok (.ldc 41, 2) := by decide +kernel
theorem d_RD_init_99 : decode M_RD_init.2.1 99 = .ok (.aastore, 1) := by decide +kernel
theorem d_RD_init_100 : decode M_RD_init.2.1 100 = .ok (.dup, 1) := by decide +kernel
theorem d_RD_init_101 : decode M_RD_init.2.1 101 = .ok (.bipush 16, 2) := by decide +kernel
theorem d_RD_init_103 : decode M_RD_init.2.1 103 = .ok (.ldc 43, 2) := by decide +kernel
theorem d_RD_init_105 : decode M_RD_init.2.1 105 = .ok (.aastore, 1) := by decide +kernel
theorem d_RD_init_106 : decode M_RD_init.2.1 106 = .ok (.dup, 1) := by decide +kernel
theorem d_RD_init_107 : decode M_RD_init.2.1 107 = .ok (.bipush 17, 2) := by decide +kernel
theorem d_RD_init_109 : decode M_RD_init.2.1 109 = .ok (.ldc 45, 2) := by decide +kernel
theorem d_RD_init_111 : decode M_RD_init.2.1 111 = .ok (.aastore, 1) := by decide +kernel
theorem d_RD_init_112 : decode M_RD_init.2.1 112 = .ok (.dup, 1) := by decide +kernel
theorem d_RD_init_113 : decode M_RD_init.2.1 113 = .ok (.bipush 18, 2) := by decide +kernel
theorem d_RD_init_115 : decode M_RD_init.2.1 115 = .ok (.ldc 47, 2) := by decide +kernel
theorem d_RD_init_117 : decode M_RD_init.2.1 117 = .ok (.aastore, 1) := by decide +kernel
theorem d_RD_init_118 : decode M_RD_init.2.1 118 = .ok (.dup, 1) := by decide +kernel
theorem d_RD_init_119 : decode M_RD_init.2.1 119 = .ok (.bipush 19, 2) := by decide +kernel
theorem d_RD_init_121 : decode M_RD_init.2.1 121 = .ok (.ldc 49, 2) := by decide +kernel
theorem d_RD_init_123 : decode M_RD_init.2.1 123 = .ok (.aastore, 1) := by decide +kernel
theorem d_RD_init_124 : decode M_RD_init.2.1 124 = .ok (.putfield 51, 3) := by decide +kernel
theorem d_RD_init_127 : decode M_RD_init.2.1 127 = .ok (.aload_n 0, 1) := by decide +kernel
theorem d_RD_init_128 : decode M_RD_init.2.1 128 = .ok (.bipush 20, 2) := by decide +kernel
theorem d_RD_init_130 : decode M_RD_init.2.1 130 = .ok (.newarray .int, 2) := by decide +kernel
theorem d_RD_init_132 : decode M_RD_init.2.1 132 = .ok (.dup, 1) := by decide +kernel
theorem d_RD_init_133 : decode M_RD_init.2.1 133 = .ok (.iconst 0, 1) := by decide +kernel
theorem d_RD_init_134 : decode M_RD_init.2.1 134 = .ok (.sipush 1200, 3) := by decide +kernel
theorem d_RD_init_137 : decode M_RD_init.2.1 137 = .ok (.iastore, 1) := by decide +kernel
theorem d_RD_init_138 : decode M_RD_init.2.1 138 = .ok (.dup, 1) := by decide +kernel
theorem d_RD_init_139 : decode M_RD_init.2.1 139 = .ok (.iconst 1, 1) := by decide +kernel
theorem d_RD_init_140 : decode M_RD_init.2.1 140 = .ok (.sipush 1100, 3) := by decide +kernel
theorem d_RD_init_143 : decode M_RD_init.2.1 143 = .ok (.iastore, 1) := by decide +kernel
theorem d_RD_init_144 : decode M_RD_init.2.1 144 = .ok (.dup, 1) := by decide +kernel
theorem d_RD_init_145 : decode M_RD_init.2.1 145 = .ok (.iconst 2, 1) := by decide +kernel
theorem d_RD_init_146 : decode M_RD_init.2.1 146 = .ok (.sipush 1050, 3) := by decide +kernel
theorem d_RD_init_149 : decode M_RD_init.2.1 149 = .ok (.iastore, 1) := by decide +kernel
theorem d_RD_init_150 : decode M_RD_init.2.1 150 = .ok (.dup, 1) := by decide +kernel
theorem d_RD_init_151 : decode M_RD_init.2.1 151 = .ok (.iconst 3, 1) := by decide +kernel
theorem d_RD_init_152 : decode M_RD_init.2.1 152 = .ok (.sipush 700, 3) := by decide +kernel
theorem d_RD_init_155 : decode M_RD_init.2.1 155 = .ok (.iastore, 1) := by decide +kernel
theorem d_RD_init_156 : decode M_RD_init.2.1 156 = .ok (.dup, 1) := by decide +kernel
theorem d_RD_init_157 : decode M_RD_init.2.1 157 = .ok (.iconst 4, 1) := by decide +kernel
theorem d_RD_init_158 : decode M_RD_init.2.1 158 = .ok (.sipush 700, 3) := by decide +kernel
theorem d_RD_init_161 : decode M_RD_init.2.1 161 = .ok (.iastore, 1) := by decide +kernel
theorem d_RD_init_162 : decode M_RD_init.2.1 162 = .ok (.dup, 1) := by decide +kernel
theorem d_RD_init_163 : decode M_RD_init.2.1 163 = .ok (.iconst 5, 1) := by decide +kernel
theorem d_RD_init_164 : decode M_RD_init.2.1 164 = .ok (.sipush 700, 3) := by decide +kernel
theorem d_RD_init_167 : decode M_RD_init.2.1 167 = .ok (.iastore, 1) := by decide +kernel
theorem d_RD_init_168 : decode M_RD_init.2.1 168 = .ok (.dup, 1) := by decide +kernel
theorem d_RD_init_169 : decode M_RD_init.2.1 169 = .ok (.bipush 6, 2) := by decide +kernel
theorem d_RD_init_171 : decode M_RD_init.2.1 171 = .ok (.sipush 700, 3) := by decide +kernel
theorem d_RD_init_174 : decode M_RD_init.2.1 174 = .ok (.iastore, 1) := by decide +kernel
theorem d_RD_init_175 : decode M_RD_init.2.1 175 = .ok (.dup, 1) := by decide +kernel
theorem d_RD_init_176 : decode M_RD_init.2.1 176 = .ok (.bipush 7, 2) := by decide +kernel
theorem d_RD_init_178 : decode M_RD_init.2.1 178 = .ok (.sipush 700, 3) := by decide +kernel
theorem d_RD_init_181 : decode M_RD_init.2.1 181 = .ok (.iastore, 1) := by decide +kernel
theorem d_RD_init_182 : decode M_RD_init.2.1 182 = .ok (.dup, 1) := by decide +kernel
theorem d_RD_init_183 : decode M_RD_init.2.1 183 = .ok (.bipush 8, 2) := by decide +kernel
theorem d_RD_init_185 : decode M_RD_init.2.1 185 = .ok (.sipush 700, 3) := by decide +kernel
theorem d_RD_init_188 : decode M_RD_init.2.1 188 = .ok (.iastore, 1) := by decide +kernel
theorem d_RD_init_189 : decode M_RD_init.2.1 189 = .ok (.dup, 1) := by decide +kernel
theorem d_RD_init_190 : decode M_RD_init.2.1 190 = .ok (.bipush 9, 2) := by decide +kernel
theorem d_RD_init_192 : decode M_RD_init.2.1 192 = .ok (.sipush 700, 3) := by decide +kernel
theorem d_RD_init_195 : decode M_RD_init.2.1 195 = .ok (.iastore, 1) := by decide +kernel
theorem d_RD_init_196 : decode M_RD_init.2.1 196 = .ok (.dup, 1) := by decide +kernel
theorem d_RD_init_197 : decode M_RD_init.2.1 197 = .ok (.bipush 10, 2) := by decide +kernel
theorem d_RD_init_199 : decode M_RD_init.2.1 199 = .ok (.sipush 700, 3) := by decide +kernel
theorem d_RD_init_202 : decode M_RD_init.2.1 202 = .ok (.iastore, 1) := by decide +kernel
theorem d_RD_init_203 : decode M_RD_init.2.1 203 = .ok (.dup, 1) := by decide +kernel
theorem d_RD_init_204 : decode M_RD_init.2.1 204 = .ok (.bipush 11, 2) := by decide +kernel
theorem d_RD_init_206 : decode M_RD_init.2.1 206 = .ok (.sipush 700, 3) := by decide +kernel
theorem d_RD_init_209 : decode M_RD_init.2.1 209 = .ok (.iastore, 1) := by decide +kernel
theorem d_RD_init_210 : decode M_RD_init.2.1 210 = .ok (.dup, 1) := by decide +kernel
theorem d_RD_init_211 : decode M_RD_init.2.1 211 = .ok (.bipush 12, 2) := by decide +kernel
theorem d_RD_init_213 : decode M_RD_init.2.1 213 = .ok (.sipush 700, 3) := by decide +kernel
theorem d_RD_init_216 : decode M_RD_init.2.1 216 = .ok (.iastore, 1) := by decide +kernel
theorem d_RD_init_217 : decode M_RD_init.2.1 217 = .ok (.dup, 1) := by decide +kernel
theorem d_RD_init_218 : decode M_RD_init.2.1 218 = .ok (.bipush 13, 2) := by decide +kernel
theorem d_RD_init_220 : decode M_RD_init.2.1 220 = .ok (.sipush 700, 3) := by decide +kernel
theorem d_RD_init_223 : decode M_RD_init.2.1 223 = .ok (.iastore, 1) := by decide +kernel
theorem d_RD_init_224 : decode M_RD_init.2.1 224 = .ok (.dup, 1) := by decide +kernel
theorem d_RD_init_225 : decode M_RD_init.2.1 225 = .ok (.bipush 14, 2) := by decide +kernel
theorem d_RD_init_227 : decode M_RD_init.2.1 227 = .ok (.sipush 500, 3) := by decide +kernel
theorem d_RD_init_230 : decode M_RD_init.2.1 230 = .ok (.iastore, 1) := by decide +kernel
theorem d_RD_init_231 : decode M_RD_init.2.1 231 = .ok (.dup, 1) := by decide +kernel
theorem d_RD_init_232 : decode M_RD_init.2.1 232 = .ok (.bipush 15, 2) := by decide +kernel
theorem d_RD_init_234 : decode M_RD_init.2.1 234 = .ok (.sipush 500, 3) := by decide +kernel
theorem d_RD_init_237 : decode M_RD_init.2.1 237 = .ok (.iastore, 1) := by decide +kernel
theorem d_RD_init_238 : decode M_RD_init.2.1 238 = .ok (.dup, 1) := by decide +kernel
theorem d_RD_init_239 : decode M_RD_init.2.1 239 = .ok (.bipush 16, 2) := by decide +kernel
theorem d_RD_init_241 : decode M_RD_init.2.1 241 = .ok (.sipush 400, 3) := by decide +kernel
theorem d_RD_init_244 : decode M_RD_init.2.1 244 = .ok (.iastore, 1) := by decide +kernel
theorem d_RD_init_245 : decode M_RD_init.2.1 245 = .ok (.dup, 1) := by decide +kernel
theorem d_RD_init_246 : decode M_RD_init.2.1 246 = .ok (.bipush 17, 2) := by decide +kernel
theorem d_RD_init_248 : decode M_RD_init.2.1 248 = .ok (.sipush 400, 3) := by decide +kernel
theorem d_RD_init_251 : decode M_RD_init.2.1 251 = .ok (.iastore, 1) := by decide +kernel
theorem d_RD_init_252 : decode M_RD_init.2.1 252 = .ok (.dup, 1) := by decide +kernel
theorem d_RD_init_253 : decode M_RD_init.2.1 253 = .ok (.bipush 18, 2) := by decide +kernel
theorem d_RD_init_255 : decode M_RD_init.2.1 255 = .ok (.sipush 400, 3) := by decide +kernel
theorem d_RD_init_258 : decode M_RD_init.2.1 258 = .ok (.iastore, 1) := by decide +kernel
theorem d_RD_init_259 : decode M_RD_init.2.1 259 = .ok (.dup, 1) := by decide +kernel
theorem d_RD_init_260 : decode M_RD_init.2.1 260 = .ok (.bipush 19, 2) := by decide +kernel
theorem d_RD_init_262 : decode M_RD_init.2.1 262 = .ok (.sipush 400, 3) := by decide +kernel
theorem d_RD_init_265 : decode M_RD_init.2.1 265 = .ok (.iastore, 1) := by decide +kernel
theorem d_RD_init_266 : decode M_RD_init.2.1 266 = .ok (.putfield 57, 3) := by decide +kernel
theorem d_RD_init_269 : decode M_RD_init.2.1 269 = .ok (.aload_n 0, 1) := by decide +kernel
theorem d_RD_init_270 : decode M_RD_init.2.1 270 = .ok (.new 61, 3) := by decide +kernel
theorem d_RD_init_273 : decode M_RD_init.2.1 273 = .ok (.dup, 1) := by decide +kernel
theorem d_RD_init_274 : decode M_RD_init.2.1 274 = .ok (.invokespecial 63, 3) := by decide +kernel
theorem d_RD_init_277 : decode M_RD_init.2.1 277 = .ok (.putfield 64, 3) := by decide +kernel
theorem d_RD_init_280 : decode M_RD_init.2.1 280 = .ok (.aload_n 0, 1) := by decide +kernel
theorem d_RD_init_281 : decode M_RD_init.2.1 281 = .ok (.sipush 4096, 3) := by decide +kernel
theorem d_RD_init_284 : decode M_RD_init.2.1 284 = .ok (.newarray .byte, 2) := by decide +kernel
theorem d_RD_init_286 : decode M_RD_init.2.1 286 = .ok (.putfield 68, 3) := by decide +kernel
theorem d_RD_init_289 : decode M_RD_init.2.1 289 = .ok (.aload_n 0, 1) := by decide +kernel
theorem d_RD_init_290 : decode M_RD_init.2.1 290 = .ok (.sipush 4200, 3) := by decide +kernel
theorem d_RD_init_293 : decode M_RD_init.2.1 293 = .ok (.newarray .int, 2) := by decide +kernel
theorem d_RD_init_295 : decode M_RD_init.2.1 295 = .ok (.putfield 72, 3) := by decide +kernel
theorem d_RD_init_298 : decode M_RD_init.2.1 298 = .ok (.aload_n 0, 1) := by decide +kernel
theorem d_RD_init_299 : decode M_RD_init.2.1 299 = .ok (.sipush 4200, 3) := by decide +kernel
theorem d_RD_init_302 : decode M_RD_init.2.1 302 = .ok (.newarray .int, 2) := by decide +kernel
theorem d_RD_init_304 : decode M_RD_init.2.1 304 = .ok (.putfield 75, 3) := by decide +kernel
theorem d_RD_init_307 : decode M_RD_init.2.1 307 = .ok (.aload_n 0, 1) := by decide +kernel
theorem d_RD_init_308 : decode M_RD_init.2.1 308 = .ok (.sipush 4096, 3) := by decide +kernel
theorem d_RD_init_311 : decode M_RD_init.2.1 311 = .ok (.newarray .byte, 2) := by decide +kernel
theorem d_RD_init_313 : decode M_RD_init.2.1 313 = .ok (.putfield 78, 3) := by decide +kernel
theorem d_RD_init_316 : decode M_RD_init.2.1 316 = .ok (.aload_n 0, 1) := by decide +kernel
theorem d_RD_init_317 : decode M_RD_init.2.1 317 = .ok (.aload_n 1, 1) := by decide +kernel
theorem d_RD_init_318 : decode M_RD_init.2.1 318 = .ok (.putfield 81, 3) := by decide +kernel
theorem d_RD_init_321 : decode M_RD_init.2.1 321 = .ok (.aload_n 0, 1) := by decide +kernel
theorem d_RD_init_322 : decode M_RD_init.2.1 322 = .ok (.aload_n 2, 1) := by decide +kernel
theorem d_RD_init_323 : decode M_RD_init.2.1 323 = .ok (.putfield 85, 3) := by decide +kernel
theorem d_RD_init_326 : decode M_RD_init.2.1 326 = .ok (.return_, 1) := by decide +kernel
set_option maxRecDepth 20000 in
theorem w_RD_init {E : xR} {h : xH} (htg : x_tg E) (ho : h 36 = .inr (8, [.null, .null, .null, .null, .null, .null, .int 0, .int 0, .int 0, .int 0, .int 0, .long 0, .null, .int 0, .null, .int 0, .int 0, .null, .int 0, .int 0, .int 0, .null])) : x_Mt E M_RD_init 6 7 16638 [.ref 36, .ref 24, .ref 31] 37 h (x_IN 44 7 16638 (fun h' => h' 36 = .inr (8, [.ref 37, .ref 38, .ref 39, .ref 24, .ref 31, .null, .int 0, .int 0, .int 0, .int 0, .int 0, .long 0, .ref 40, .int 0, .ref 41, .int 0, .int 0, .ref 42, .int 0, .int 0, .int 0, .ref 43]) ∧ g_TB2 h' ∧ h' 40 = .inl (1, 4096, .inl (fun _ => 0)) ∧ h' 41 = .inl (0, 4200, .inl (fun _ => 0)) ∧ h' 42 = .inl (0, 4200, .inl (fun _ => 0)) ∧ h' 43 = .inl (1, 4096, .inl (fun _ => 0)) ∧ ∀ i, i < 36 → h' i = h i)) := by
  refine x_Mt.of (by decide) (Nat.le_of_ble_eq_true rfl) ?_
  show x_W E M_RD_init _ _ 37 h 0 [(0, .ref 36), (1, .ref 24), (2, .ref 31)] [] 0 0
  refine x_aload_n d_RD_init_0 rfl rfl ?_
  refine x_objInit d_RD_init_1 (x_mem 889 (by decide +kernel) (by decide +kernel)) (x_mem 97 (by decide +kernel) (by decide +kernel)) (x_mem 98 (by decide +kernel) (by decide +kernel)) (Nat.le_of_ble_eq_true rfl) (Nat.le_of_ble_eq_true rfl) (Nat.le_of_ble_eq_true rfl) ?_
  refine x_aload_n d_RD_init_4 rfl rfl ?_
  refine x_bipush 20 d_RD_init_5 (by decide) ?_
  refine x_anewS d_RD_init_7 20 htg (x_mem 890 (by decide +kernel) (by decide +kernel)) (x_memN 891 (by decide +kernel) (by decide +kernel)) (by decide) (by decide) (by decide) (Nat.le_of_ble_eq_true rfl) (Nat.le_of_ble_eq_true rfl) (Nat.le_of_ble_eq_true rfl) ?_
  refine x_dup d_RD_init_10 rfl ?_
  refine x_iconst 0 d_RD_init_11 (by decide) ?_
  refine x_ldcS (i := 11) d_RD_init_12 11 rfl ?_
  refine x_aastS d_RD_init_14 (by decide) (Nat.le_of_ble_eq_true rfl) (Nat.le_of_ble_eq_true rfl) (by first | rfl | assumption) (vp_in_nI (n := 0) (by decide) (by decide)) ?_
  refine x_dup d_RD_init_15 rfl ?_
  refine x_iconst 1 d_RD_init_16 (by decide) ?_
  refine x_ldcS (i := 12) d_RD_init_17 12 rfl ?_
  refine x_aastS d_RD_init_19 (by decide) (Nat.le_of_ble_eq_true rfl) (Nat.le_of_ble_eq_true rfl) (by first | rfl | assumption) (vp_in_nI (n := 1) (by decide) (by decide)) ?_
  refine x_dup d_RD_init_20 rfl ?_
  refine x_iconst 2 d_RD_init_21 (by decide) ?_
  refine x_ldcS (i := 13) d_RD_init_22 13 rfl ?_
  refine x_aastS d_RD_init_24 (by decide) (Nat.le_of_ble_eq_true rfl) (Nat.le_of_ble_eq_true rfl) (by first | rfl | assumption) (vp_in_nI (n := 2) (by decide) (by decide)) ?_
  refine x_dup d_RD_init_25 rfl ?_
  refine x_iconst 3 d_RD_init_26 (by decide) ?_
  refine x_ldcS (i := 14) d_RD_init_27 14 rfl ?_
  refine x_aastS d_RD_init_29 (by decide) (Nat.le_of_ble_eq_true rfl) (Nat.le_of_ble_eq_true rfl) (by first | rfl | assumption) (vp_in_nI (n := 3) (by decide) (by decide)) ?_
  refine x_dup d_RD_init_30 rfl ?_
  refine x_iconst 4 d_RD_init_31 (by decide) ?_
  refine x_ldcS (i := 15) d_RD_init_32 15 rfl ?_
  refine x_aastS d_RD_init_34 (by decide) (Nat.le_of_ble_eq_true rfl) (Nat.le_of_ble_eq_true rfl) (by first | rfl | assumption) (vp_in_nI (n := 4) (by decide) (by decide)) ?_
  refine x_dup d_RD_init_35 rfl ?_
  refine x_iconst 5 d_RD_init_36 (by decide) ?_
  refine x_ldcS (i := 16) d_RD_init_37 16 rfl ?_
  refine x_aastS d_RD_init_39 (by decide) (Nat.le_of_ble_eq_true rfl) (Nat.le_of_ble_eq_true rfl) (by first | rfl | assumption) (vp_in_nI (n := 5) (by decide) (by decide)) ?_
  refine x_dup d_RD_init_40 rfl ?_
  refine x_bipush 6 d_RD_init_41 (by decide) ?_
  refine x_ldcS (i := 17) d_RD_init_43 17 rfl ?_
  refine x_aastS d_RD_init_45 (by decide) (Nat.le_of_ble_eq_true rfl) (Nat.le_of_ble_eq_true rfl) (by first | rfl | assumption) (vp_in_nI (n := 6) (by decide) (by decide)) ?_
  refine x_dup d_RD_init_46 rfl ?_
  refine x_bipush 7 d_RD_init_47 (by decide) ?_
  refine x_ldcS (i := 18) d_RD_init_49 18 rfl ?_
  refine x_aastS d_RD_init_51 (by decide) (Nat.le_of_ble_eq_true rfl) (Nat.le_of_ble_eq_true rfl) (by first | rfl | assumption) (vp_in_nI (n := 7) (by decide) (by decide)) ?_
  refine x_dup d_RD_init_52 rfl ?_
  refine x_bipush 8 d_RD_init_53 (by decide) ?_
  refine x_ldcS (i := 19) d_RD_init_55 19 rfl ?_
  refine x_aastS d_RD_init_57 (by decide) (Nat.le_of_ble_eq_true rfl) (Nat.le_of_ble_eq_true rfl) (by first | rfl | assumption) (vp_in_nI (n := 8) (by decide) (by decide)) ?_
  refine x_dup d_RD_init_58 rfl ?_
  refine x_bipush 9 d_RD_init_59 (by decide) ?_
  refine x_ldcS (i := 20) d_RD_init_61 20 rfl ?_
  refine x_aastS d_RD_init_63 (by decide) (Nat.le_of_ble_eq_true rfl) (Nat.le_of_ble_eq_true rfl) (by first | rfl | assumption) (vp_in_nI (n := 9) (by decide) (by decide)) ?_
  refine x_dup d_RD_init_64 rfl ?_
  refine x_bipush 10 d_RD_init_65 (by decide) ?_
  refine x_ldcS (i := 21) d_RD_init_67 21 rfl ?_
  refine x_aastS d_RD_init_69 (by decide) (Nat.le_of_ble_eq_true rfl) (Nat.le_of_ble_eq_true rfl) (by first | rfl | assumption) (vp_in_nI (n := 10) (by decide) (by decide)) ?_
  refine x_dup d_RD_init_70 rfl ?_
  refine x_bipush 11 d_RD_init_71 (by decide) ?_
  refine x_ldcS (i := 22) d_RD_init_73 22 rfl ?_
  refine x_aastS d_RD_init_75 (by decide) (Nat.le_of_ble_eq_true rfl) (Nat.le_of_ble_eq_true rfl) (by first | rfl | assumption) (vp_in_nI (n := 11) (by decide) (by decide)) ?_
  refine x_dup d_RD_init_76 rfl ?_
  refine x_bipush 12 d_RD_init_77 (by decide) ?_
  refine x_ldcS (i := 23) d_RD_init_79 23 rfl ?_
  refine x_aastS d_RD_init_81 (by decide) (Nat.le_of_ble_eq_true rfl) (Nat.le_of_ble_eq_true rfl) (by first | rfl | assumption) (vp_in_nI (n := 12) (by decide) (by decide)) ?_
  refine x_dup d_RD_init_82 rfl ?_
  refine x_bipush 13 d_RD_init_83 (by decide) ?_
  refine x_ldcS (i := 24) d_RD_init_85 24 rfl ?_
  refine x_aastS d_RD_init_87 (by decide) (Nat.le_of_ble_eq_true rfl) (Nat.le_of_ble_eq_true rfl) (by first | rfl | assumption) (vp_in_nI (n := 13) (by decide) (by decide)) ?_
  refine x_dup d_RD_init_88 rfl ?_
  refine x_bipush 14 d_RD_init_89 (by decide) ?_
  refine x_ldcS (i := 25) d_RD_init_91 25 rfl ?_
  refine x_aastS d_RD_init_93 (by decide) (Nat.le_of_ble_eq_true rfl) (Nat.le_of_ble_eq_true rfl) (by first | rfl | assumption) (vp_in_nI (n := 14) (by decide) (by decide)) ?_
  refine x_dup d_RD_init_94 rfl ?_
  refine x_bipush 15 d_RD_init_95 (by decide) ?_
  refine x_ldcS (i := 5) d_RD_init_97 26 rfl ?_
  refine x_aastS d_RD_init_99 (by decide) (Nat.le_of_ble_eq_true rfl) (Nat.le_of_ble_eq_true rfl) (by first | rfl | assumption) (vp_in_nI (n := 15) (by decide) (by decide)) ?_
  refine x_dup d_RD_init_100 rfl ?_
  refine x_bipush 16 d_RD_init_101 (by decide) ?_
  refine x_ldcS (i := 26) d_RD_init_103 27 rfl ?_
  refine x_aastS d_RD_init_105 (by decide) (Nat.le_of_ble_eq_true rfl) (Nat.le_of_ble_eq_true rfl) (by first | rfl | assumption) (vp_in_nI (n := 16) (by decide) (by decide)) ?_
  refine x_dup d_RD_init_106 rfl ?_
  refine x_bipush 17 d_RD_init_107 (by decide) ?_
  refine x_ldcS (i := 27) d_RD_init_109 28 rfl ?_
  refine x_aastS d_RD_init_111 (by decide) (Nat.le_of_ble_eq_true rfl) (Nat.le_of_ble_eq_true rfl) (by first | rfl | assumption) (vp_in_nI (n := 17) (by decide) (by decide)) ?_
  refine x_dup d_RD_init_112 rfl ?_
  refine x_bipush 18 d_RD_init_113 (by decide) ?_
  refine x_ldcS (i := 28) d_RD_init_115 29 rfl ?_
  refine x_aastS d_RD_init_117 (by decide) (Nat.le_of_ble_eq_true rfl) (Nat.le_of_ble_eq_true rfl) (by first | rfl | assumption) (vp_in_nI (n := 18) (by decide) (by decide)) ?_
  refine x_dup d_RD_init_118 rfl ?_
  refine x_bipush 19 d_RD_init_119 (by decide) ?_
  refine x_ldcS (i := 29) d_RD_init_121 30 rfl ?_
  refine x_aastS d_RD_init_123 (by decide) (Nat.le_of_ble_eq_true rfl) (Nat.le_of_ble_eq_true rfl) (by first | rfl | assumption) (vp_in_nI (n := 19) (by decide) (by decide)) ?_
  refine x_putF (k := 0) (ty := (.array (.object "java/lang/String"))) d_RD_init_124 rfl "TermReaderModel$Reader" F_RD 22 t_RD c_RD (by decide) rfl rfl rfl (x_mem 933 (by decide +kernel) (by decide +kernel)) (Nat.le_of_ble_eq_true rfl) (Nat.le_of_ble_eq_true rfl) (by first | rfl | assumption) (by rfl) (by rfl) (by exact (Nat.le_of_ble_eq_true rfl)) ?_
  refine x_aload_n d_RD_init_127 rfl rfl ?_
  refine x_bipush 20 d_RD_init_128 (by decide) ?_
  refine x_newaI 20 d_RD_init_130 htg (by decide) (by decide) (by decide) (Nat.le_of_ble_eq_true rfl) (Nat.le_of_ble_eq_true rfl) (Nat.le_of_ble_eq_true rfl) ?_
  refine x_dup d_RD_init_132 rfl ?_
  refine x_iconst 0 d_RD_init_133 (by decide) ?_
  refine x_sipush 1200 d_RD_init_134 (by decide) ?_
  refine x_iast d_RD_init_137 (Nat.le_of_ble_eq_true rfl) (Nat.le_of_ble_eq_true rfl) (by first | rfl | assumption) (vp_in_nI (n := 0) (by decide) (by decide)) ?_
  refine x_dup d_RD_init_138 rfl ?_
  refine x_iconst 1 d_RD_init_139 (by decide) ?_
  refine x_sipush 1100 d_RD_init_140 (by decide) ?_
  refine x_iast d_RD_init_143 (Nat.le_of_ble_eq_true rfl) (Nat.le_of_ble_eq_true rfl) (by first | rfl | assumption) (vp_in_nI (n := 1) (by decide) (by decide)) ?_
  refine x_dup d_RD_init_144 rfl ?_
  refine x_iconst 2 d_RD_init_145 (by decide) ?_
  refine x_sipush 1050 d_RD_init_146 (by decide) ?_
  refine x_iast d_RD_init_149 (Nat.le_of_ble_eq_true rfl) (Nat.le_of_ble_eq_true rfl) (by first | rfl | assumption) (vp_in_nI (n := 2) (by decide) (by decide)) ?_
  refine x_dup d_RD_init_150 rfl ?_
  refine x_iconst 3 d_RD_init_151 (by decide) ?_
  refine x_sipush 700 d_RD_init_152 (by decide) ?_
  refine x_iast d_RD_init_155 (Nat.le_of_ble_eq_true rfl) (Nat.le_of_ble_eq_true rfl) (by first | rfl | assumption) (vp_in_nI (n := 3) (by decide) (by decide)) ?_
  refine x_dup d_RD_init_156 rfl ?_
  refine x_iconst 4 d_RD_init_157 (by decide) ?_
  refine x_sipush 700 d_RD_init_158 (by decide) ?_
  refine x_iast d_RD_init_161 (Nat.le_of_ble_eq_true rfl) (Nat.le_of_ble_eq_true rfl) (by first | rfl | assumption) (vp_in_nI (n := 4) (by decide) (by decide)) ?_
  refine x_dup d_RD_init_162 rfl ?_
  refine x_iconst 5 d_RD_init_163 (by decide) ?_
  refine x_sipush 700 d_RD_init_164 (by decide) ?_
  refine x_iast d_RD_init_167 (Nat.le_of_ble_eq_true rfl) (Nat.le_of_ble_eq_true rfl) (by first | rfl | assumption) (vp_in_nI (n := 5) (by decide) (by decide)) ?_
  refine x_dup d_RD_init_168 rfl ?_
  refine x_bipush 6 d_RD_init_169 (by decide) ?_
  refine x_sipush 700 d_RD_init_171 (by decide) ?_
  refine x_iast d_RD_init_174 (Nat.le_of_ble_eq_true rfl) (Nat.le_of_ble_eq_true rfl) (by first | rfl | assumption) (vp_in_nI (n := 6) (by decide) (by decide)) ?_
  refine x_dup d_RD_init_175 rfl ?_
  refine x_bipush 7 d_RD_init_176 (by decide) ?_
  refine x_sipush 700 d_RD_init_178 (by decide) ?_
  refine x_iast d_RD_init_181 (Nat.le_of_ble_eq_true rfl) (Nat.le_of_ble_eq_true rfl) (by first | rfl | assumption) (vp_in_nI (n := 7) (by decide) (by decide)) ?_
  refine x_dup d_RD_init_182 rfl ?_
  refine x_bipush 8 d_RD_init_183 (by decide) ?_
  refine x_sipush 700 d_RD_init_185 (by decide) ?_
  refine x_iast d_RD_init_188 (Nat.le_of_ble_eq_true rfl) (Nat.le_of_ble_eq_true rfl) (by first | rfl | assumption) (vp_in_nI (n := 8) (by decide) (by decide)) ?_
  refine x_dup d_RD_init_189 rfl ?_
  refine x_bipush 9 d_RD_init_190 (by decide) ?_
  refine x_sipush 700 d_RD_init_192 (by decide) ?_
  refine x_iast d_RD_init_195 (Nat.le_of_ble_eq_true rfl) (Nat.le_of_ble_eq_true rfl) (by first | rfl | assumption) (vp_in_nI (n := 9) (by decide) (by decide)) ?_
  refine x_dup d_RD_init_196 rfl ?_
  refine x_bipush 10 d_RD_init_197 (by decide) ?_
  refine x_sipush 700 d_RD_init_199 (by decide) ?_
  refine x_iast d_RD_init_202 (Nat.le_of_ble_eq_true rfl) (Nat.le_of_ble_eq_true rfl) (by first | rfl | assumption) (vp_in_nI (n := 10) (by decide) (by decide)) ?_
  refine x_dup d_RD_init_203 rfl ?_
  refine x_bipush 11 d_RD_init_204 (by decide) ?_
  refine x_sipush 700 d_RD_init_206 (by decide) ?_
  refine x_iast d_RD_init_209 (Nat.le_of_ble_eq_true rfl) (Nat.le_of_ble_eq_true rfl) (by first | rfl | assumption) (vp_in_nI (n := 11) (by decide) (by decide)) ?_
  refine x_dup d_RD_init_210 rfl ?_
  refine x_bipush 12 d_RD_init_211 (by decide) ?_
  refine x_sipush 700 d_RD_init_213 (by decide) ?_
  refine x_iast d_RD_init_216 (Nat.le_of_ble_eq_true rfl) (Nat.le_of_ble_eq_true rfl) (by first | rfl | assumption) (vp_in_nI (n := 12) (by decide) (by decide)) ?_
  refine x_dup d_RD_init_217 rfl ?_
  refine x_bipush 13 d_RD_init_218 (by decide) ?_
  refine x_sipush 700 d_RD_init_220 (by decide) ?_
  refine x_iast d_RD_init_223 (Nat.le_of_ble_eq_true rfl) (Nat.le_of_ble_eq_true rfl) (by first | rfl | assumption) (vp_in_nI (n := 13) (by decide) (by decide)) ?_
  refine x_dup d_RD_init_224 rfl ?_
  refine x_bipush 14 d_RD_init_225 (by decide) ?_
  refine x_sipush 500 d_RD_init_227 (by decide) ?_
  refine x_iast d_RD_init_230 (Nat.le_of_ble_eq_true rfl) (Nat.le_of_ble_eq_true rfl) (by first | rfl | assumption) (vp_in_nI (n := 14) (by decide) (by decide)) ?_
  refine x_dup d_RD_init_231 rfl ?_
  refine x_bipush 15 d_RD_init_232 (by decide) ?_
  refine x_sipush 500 d_RD_init_234 (by decide) ?_
  refine x_iast d_RD_init_237 (Nat.le_of_ble_eq_true rfl) (Nat.le_of_ble_eq_true rfl) (by first | rfl | assumption) (vp_in_nI (n := 15) (by decide) (by decide)) ?_
  refine x_dup d_RD_init_238 rfl ?_
  refine x_bipush 16 d_RD_init_239 (by decide) ?_
  refine x_sipush 400 d_RD_init_241 (by decide) ?_
  refine x_iast d_RD_init_244 (Nat.le_of_ble_eq_true rfl) (Nat.le_of_ble_eq_true rfl) (by first | rfl | assumption) (vp_in_nI (n := 16) (by decide) (by decide)) ?_
  refine x_dup d_RD_init_245 rfl ?_
  refine x_bipush 17 d_RD_init_246 (by decide) ?_
  refine x_sipush 400 d_RD_init_248 (by decide) ?_
  refine x_iast d_RD_init_251 (Nat.le_of_ble_eq_true rfl) (Nat.le_of_ble_eq_true rfl) (by first | rfl | assumption) (vp_in_nI (n := 17) (by decide) (by decide)) ?_
  refine x_dup d_RD_init_252 rfl ?_
  refine x_bipush 18 d_RD_init_253 (by decide) ?_
  refine x_sipush 400 d_RD_init_255 (by decide) ?_
  refine x_iast d_RD_init_258 (Nat.le_of_ble_eq_true rfl) (Nat.le_of_ble_eq_true rfl) (by first | rfl | assumption) (vp_in_nI (n := 18) (by decide) (by decide)) ?_
  refine x_dup d_RD_init_259 rfl ?_
  refine x_bipush 19 d_RD_init_260 (by decide) ?_
  refine x_sipush 400 d_RD_init_262 (by decide) ?_
  refine x_iast d_RD_init_265 (Nat.le_of_ble_eq_true rfl) (Nat.le_of_ble_eq_true rfl) (by first | rfl | assumption) (vp_in_nI (n := 19) (by decide) (by decide)) ?_
  refine x_putF (k := 1) (ty := (.array .int)) d_RD_init_266 rfl "TermReaderModel$Reader" F_RD 22 t_RD c_RD (by decide) rfl rfl rfl (x_mem 934 (by decide +kernel) (by decide +kernel)) (Nat.le_of_ble_eq_true rfl) (Nat.le_of_ble_eq_true rfl) (by first | rfl | assumption) (by rfl) (by rfl) (by exact (Nat.le_of_ble_eq_true rfl)) ?_
  refine x_aload_n d_RD_init_269 rfl rfl ?_
  refine x_newIS d_RD_init_270 d_RD_init_273 d_RD_init_274 htg (x_mem 912 (by decide +kernel) (by decide +kernel)) (x_mem 79 (by decide +kernel) (by decide +kernel)) x_atRD (Nat.le_of_ble_eq_true rfl) (Nat.le_of_ble_eq_true rfl) (Nat.le_of_ble_eq_true rfl) (Nat.le_of_ble_eq_true rfl) (Nat.le_of_ble_eq_true rfl) (Nat.le_of_ble_eq_true rfl) ?_
  refine x_putF (k := 2) (ty := (.object "java/lang/IllegalStateException")) d_RD_init_277 rfl "TermReaderModel$Reader" F_RD 22 t_RD c_RD (by decide) rfl rfl rfl (x_mem 935 (by decide +kernel) (by decide +kernel)) (Nat.le_of_ble_eq_true rfl) (Nat.le_of_ble_eq_true rfl) (by first | rfl | assumption) (by rfl) (by rfl) (by exact (Nat.le_of_ble_eq_true rfl)) ?_
  refine x_aload_n d_RD_init_280 rfl rfl ?_
  refine x_sipush 4096 d_RD_init_281 (by decide) ?_
  refine x_newaB 4096 d_RD_init_284 htg (by decide) (by decide) (by decide) (Nat.le_of_ble_eq_true rfl) (Nat.le_of_ble_eq_true rfl) (Nat.le_of_ble_eq_true rfl) ?_
  refine x_putF (k := 12) (ty := (.array .byte)) d_RD_init_286 rfl "TermReaderModel$Reader" F_RD 22 t_RD c_RD (by decide) rfl rfl rfl (x_mem 945 (by decide +kernel) (by decide +kernel)) (Nat.le_of_ble_eq_true rfl) (Nat.le_of_ble_eq_true rfl) (by first | rfl | assumption) (by rfl) (by rfl) (by exact (Nat.le_of_ble_eq_true rfl)) ?_
  refine x_aload_n d_RD_init_289 rfl rfl ?_
  refine x_sipush 4200 d_RD_init_290 (by decide) ?_
  refine x_newaI 4200 d_RD_init_293 htg (by decide) (by decide) (by decide) (Nat.le_of_ble_eq_true rfl) (Nat.le_of_ble_eq_true rfl) (Nat.le_of_ble_eq_true rfl) ?_
  refine x_putF (k := 14) (ty := (.array .int)) d_RD_init_295 rfl "TermReaderModel$Reader" F_RD 22 t_RD c_RD (by decide) rfl rfl rfl (x_mem 947 (by decide +kernel) (by decide +kernel)) (Nat.le_of_ble_eq_true rfl) (Nat.le_of_ble_eq_true rfl) (by first | rfl | assumption) (by rfl) (by rfl) (by exact (Nat.le_of_ble_eq_true rfl)) ?_
  refine x_aload_n d_RD_init_298 rfl rfl ?_
  refine x_sipush 4200 d_RD_init_299 (by decide) ?_
  refine x_newaI 4200 d_RD_init_302 htg (by decide) (by decide) (by decide) (Nat.le_of_ble_eq_true rfl) (Nat.le_of_ble_eq_true rfl) (Nat.le_of_ble_eq_true rfl) ?_
  refine x_putF (k := 17) (ty := (.array .int)) d_RD_init_304 rfl "TermReaderModel$Reader" F_RD 22 t_RD c_RD (by decide) rfl rfl rfl (x_mem 951 (by decide +kernel) (by decide +kernel)) (Nat.le_of_ble_eq_true rfl) (Nat.le_of_ble_eq_true rfl) (by first | rfl | assumption) (by rfl) (by rfl) (by exact (Nat.le_of_ble_eq_true rfl)) ?_
  refine x_aload_n d_RD_init_307 rfl rfl ?_
  refine x_sipush 4096 d_RD_init_308 (by decide) ?_
  refine x_newaB 4096 d_RD_init_311 htg (by decide) (by decide) (by decide) (Nat.le_of_ble_eq_true rfl) (Nat.le_of_ble_eq_true rfl) (Nat.le_of_ble_eq_true rfl) ?_
  refine x_putF (k := 21) (ty := (.array .byte)) d_RD_init_313 rfl "TermReaderModel$Reader" F_RD 22 t_RD c_RD (by decide) rfl rfl rfl (x_mem 955 (by decide +kernel) (by decide +kernel)) (Nat.le_of_ble_eq_true rfl) (Nat.le_of_ble_eq_true rfl) (by first | rfl | assumption) (by rfl) (by rfl) (by exact (Nat.le_of_ble_eq_true rfl)) ?_
  refine x_aload_n d_RD_init_316 rfl rfl ?_
  refine x_aload_n d_RD_init_317 rfl rfl ?_
  refine x_putF (k := 3) (ty := (.object "TermReaderModel$Terms")) d_RD_init_318 rfl "TermReaderModel$Reader" F_RD 22 t_RD c_RD (by decide) rfl rfl rfl (x_mem 936 (by decide +kernel) (by decide +kernel)) (Nat.le_of_ble_eq_true rfl) (Nat.le_of_ble_eq_true rfl) (by first | rfl | assumption) (by rfl) (by rfl) (by exact (Nat.le_of_ble_eq_true rfl)) ?_
  refine x_aload_n d_RD_init_321 rfl rfl ?_
  refine x_aload_n d_RD_init_322 rfl rfl ?_
  refine x_putF (k := 4) (ty := (.object "TermReaderModel$Names")) d_RD_init_323 rfl "TermReaderModel$Reader" F_RD 22 t_RD c_RD (by decide) rfl rfl rfl (x_mem 937 (by decide +kernel) (by decide +kernel)) (Nat.le_of_ble_eq_true rfl) (Nat.le_of_ble_eq_true rfl) (by first | rfl | assumption) (by rfl) (by rfl) (by exact (Nat.le_of_ble_eq_true rfl)) ?_
  exact x_return d_RD_init_326 rfl ⟨rfl, rfl, rfl, rfl, rfl, ⟨⟨_, rfl, by decide +kernel⟩, ⟨_, rfl, by decide +kernel⟩, rfl⟩, rfl, rfl, rfl, rfl, (fun i hi => by repeat' (first | refine (x_up_ne (by omega)).trans ?_ | rfl))⟩
theorem d_MO_init_0 : decode M_MO_init.2.1 0 = .ok (.aload_n 0, 1) := by decide +kernel
theorem d_MO_init_1 : decode M_MO_init.2.1 1 = .ok (.invokespecial 1, 3) := by decide +kernel
theorem d_MO_init_4 : decode M_MO_init.2.1 4 = .ok (.aload_n 0, 1) := by decide +kernel
theorem d_MO_init_5 : decode M_MO_init.2.1 5 = .ok (.iconst (-1), 1) := by decide +kernel
theorem d_MO_init_6 : decode M_MO_init.2.1 6 = .ok (.putfield 9, 3) := by decide +kernel
theorem d_MO_init_9 : decode M_MO_init.2.1 9 = .ok (.aload_n 0, 1) := by decide +kernel
theorem d_MO_init_10 : decode M_MO_init.2.1 10 = .ok (.sipush 4096, 3) := by decide +kernel
theorem d_MO_init_13 : decode M_MO_init.2.1 13 = .ok (.newarray .byte, 2) := by decide +kernel
theorem d_MO_init_15 : decode M_MO_init.2.1 15 = .ok (.putfield 13, 3) := by decide +kernel
theorem d_MO_init_18 : decode M_MO_init.2.1 18 = .ok (.aload_n 0, 1) := by decide +kernel
theorem d_MO_init_19 : decode M_MO_init.2.1 19 = .ok (.sipush 4096, 3) := by decide +kernel
theorem d_MO_init_22 : decode M_MO_init.2.1 22 = .ok (.newarray .byte, 2) := by decide +kernel
theorem d_MO_init_24 : decode M_MO_init.2.1 24 = .ok (.putfield 17, 3) := by decide +kernel
theorem d_MO_init_27 : decode M_MO_init.2.1 27 = .ok (.aload_n 0, 1) := by decide +kernel
theorem d_MO_init_28 : decode M_MO_init.2.1 28 = .ok (.new 20, 3) := by decide +kernel
theorem d_MO_init_31 : decode M_MO_init.2.1 31 = .ok (.dup, 1) := by decide +kernel
theorem d_MO_init_32 : decode M_MO_init.2.1 32 = .ok (.invokespecial 22, 3) := by decide +kernel
theorem d_MO_init_35 : decode M_MO_init.2.1 35 = .ok (.putfield 23, 3) := by decide +kernel
theorem d_MO_init_38 : decode M_MO_init.2.1 38 = .ok (.aload_n 0, 1) := by decide +kernel
theorem d_MO_init_39 : decode M_MO_init.2.1 39 = .ok (.new 27, 3) := by decide +kernel
theorem d_MO_init_42 : decode M_MO_init.2.1 42 = .ok (.dup, 1) := by decide +kernel
theorem d_MO_init_43 : decode M_MO_init.2.1 43 = .ok (.invokespecial 29, 3) := by decide +kernel
theorem d_MO_init_46 : decode M_MO_init.2.1 46 = .ok (.putfield 30, 3) := by decide +kernel
theorem d_MO_init_49 : decode M_MO_init.2.1 49 = .ok (.aload_n 0, 1) := by decide +kernel
theorem d_MO_init_50 : decode M_MO_init.2.1 50 = .ok (.new 34, 3) := by decide +kernel
theorem d_MO_init_53 : decode M_MO_init.2.1 53 = .ok (.dup, 1) := by decide +kernel
theorem d_MO_init_54 : decode M_MO_init.2.1 54 = .ok (.aload_n 0, 1) := by decide +kernel
theorem d_MO_init_55 : decode M_MO_init.2.1 55 = .ok (.getfield 23, 3) := by decide +kernel
theorem d_MO_init_58 : decode M_MO_init.2.1 58 = .ok (.aload_n 0, 1) := by decide +kernel
theorem d_MO_init_59 : decode M_MO_init.2.1 59 = .ok (.getfield 30, 3) := by decide +kernel
theorem d_MO_init_62 : decode M_MO_init.2.1 62 = .ok (.invokespecial 36, 3) := by decide +kernel
theorem d_MO_init_65 : decode M_MO_init.2.1 65 = .ok (.putfield 39, 3) := by decide +kernel
theorem d_MO_init_68 : decode M_MO_init.2.1 68 = .ok (.aload_n 0, 1) := by decide +kernel
theorem d_MO_init_69 : decode M_MO_init.2.1 69 = .ok (.new 43, 3) := by decide +kernel
theorem d_MO_init_72 : decode M_MO_init.2.1 72 = .ok (.dup, 1) := by decide +kernel
theorem d_MO_init_73 : decode M_MO_init.2.1 73 = .ok (.invokespecial 45, 3) := by decide +kernel
theorem d_MO_init_76 : decode M_MO_init.2.1 76 = .ok (.putfield 46, 3) := by decide +kernel
theorem d_MO_init_79 : decode M_MO_init.2.1 79 = .ok (.aload_n 0, 1) := by decide +kernel
theorem d_MO_init_80 : decode M_MO_init.2.1 80 = .ok (.sipush 9000, 3) := by decide +kernel
theorem d_MO_init_83 : decode M_MO_init.2.1 83 = .ok (.newarray .int, 2) := by decide +kernel
theorem d_MO_init_85 : decode M_MO_init.2.1 85 = .ok (.putfield 50, 3) := by decide +kernel
theorem d_MO_init_88 : decode M_MO_init.2.1 88 = .ok (.aload_n 0, 1) := by decide +kernel
theorem d_MO_init_89 : decode M_MO_init.2.1 89 = .ok (.sipush 9000, 3) := by decide +kernel
theorem d_MO_init_92 : decode M_MO_init.2.1 92 = .ok (.newarray .int, 2) := by decide +kernel
theorem d_MO_init_94 : decode M_MO_init.2.1 94 = .ok (.putfield 54, 3) := by decide +kernel
theorem d_MO_init_97 : decode M_MO_init.2.1 97 = .ok (.return_, 1) := by decide +kernel
set_option maxRecDepth 20000 in
theorem w_MO_init {E : xR} {h : xH} (htg : x_tg E) (ho : h 21 = .inr (5, [.int 0, .int 0, .int 0, .int 0, .int 0, .int 0, .int 0, .null, .null, .null, .null, .null, .null, .null, .null])) : x_Mt E M_MO_init 7 29 147194 [.ref 21] 22 h (x_IN 51 29 147194 (fun h' => h' 21 = .inr (5, [.int 0, .int 0, .int (-1), .int 0, .int 0, .int 0, .int 0, .ref 22, .ref 23, .ref 24, .ref 31, .ref 36, .ref 44, .ref 49, .ref 50]) ∧ h' 22 = .inl (1, 4096, .inl (fun _ => 0)) ∧ h' 23 = .inl (1, 4096, .inl (fun _ => 0)) ∧ h' 24 = .inr (6, [.ref 25, .ref 26, .ref 27, .ref 28, .ref 29, .ref 30, .int 0, .int 0]) ∧ h' 25 = .inl (0, 9000, .inl (fun _ => 0)) ∧ h' 26 = .inl (0, 9000, .inl (fun _ => 0)) ∧ h' 27 = .inl (0, 9000, .inl (fun _ => 0)) ∧ h' 28 = .inl (0, 9000, .inl (fun _ => 0)) ∧ h' 29 = .inl (0, 9000, .inl (fun _ => 0)) ∧ h' 30 = .inl (2, 9000, .inr (.inl (fun _ => 0))) ∧ h' 31 = .inr (7, [.ref 32, .ref 33, .ref 34, .ref 35, .int 0, .int 0]) ∧ h' 32 = .inl (1, 5000, .inl (fun _ => 0)) ∧ h' 33 = .inl (0, 9001, .inl (fun _ => 0)) ∧ h' 34 = .inl (0, 9000, .inl (fun _ => 0)) ∧ h' 35 = .inl (0, 1024, .inl (fun _ => 0)) ∧ h' 36 = .inr (8, [.ref 37, .ref 38, .ref 39, .ref 24, .ref 31, .null, .int 0, .int 0, .int 0, .int 0, .int 0, .long 0, .ref 40, .int 0, .ref 41, .int 0, .int 0, .ref 42, .int 0, .int 0, .int 0, .ref 43]) ∧ h' 40 = .inl (1, 4096, .inl (fun _ => 0)) ∧ h' 41 = .inl (0, 4200, .inl (fun _ => 0)) ∧ h' 42 = .inl (0, 4200, .inl (fun _ => 0)) ∧ h' 43 = .inl (1, 4096, .inl (fun _ => 0)) ∧ h' 44 = .inr (9, [.ref 45, .ref 46, .ref 47, .ref 48, .int 0, .int 0, .int 0]) ∧ h' 45 = .inl (1, 4096, .inl (fun _ => 0)) ∧ h' 46 = .inl (0, 9000, .inl (fun _ => 0)) ∧ h' 47 = .inl (0, 9000, .inl (fun _ => 0)) ∧ h' 48 = .inl (0, 4200, .inl (fun _ => 0)) ∧ h' 49 = .inl (0, 9000, .inl (fun _ => 0)) ∧ h' 50 = .inl (0, 9000, .inl (fun _ => 0)) ∧ g_TB2 h' ∧ ∀ i, i < 21 → h' i = h i)) := by
  refine x_Mt.of (by decide) (Nat.le_of_ble_eq_true rfl) ?_
  show x_W E M_MO_init _ _ 22 h 0 [(0, .ref 21)] [] 0 0
  refine x_aload_n d_MO_init_0 rfl rfl ?_
  refine x_objInit d_MO_init_1 (x_mem 818 (by decide +kernel) (by decide +kernel)) (x_mem 97 (by decide +kernel) (by decide +kernel)) (x_mem 98 (by decide +kernel) (by decide +kernel)) (Nat.le_of_ble_eq_true rfl) (Nat.le_of_ble_eq_true rfl) (Nat.le_of_ble_eq_true rfl) ?_
  refine x_aload_n d_MO_init_4 rfl rfl ?_
  refine x_iconst (-1) d_MO_init_5 (by decide) ?_
  refine x_put d_MO_init_6 f_MO_9 (Nat.le_of_ble_eq_true rfl) (Nat.le_of_ble_eq_true rfl) (by first | rfl | assumption) (by rfl) (by rfl) (by exact (Nat.le_of_ble_eq_true rfl)) ?_
  refine x_aload_n d_MO_init_9 rfl rfl ?_
  refine x_sipush 4096 d_MO_init_10 (by decide) ?_
  refine x_newaB 4096 d_MO_init_13 htg (by decide) (by decide) (by decide) (Nat.le_of_ble_eq_true rfl) (Nat.le_of_ble_eq_true rfl) (Nat.le_of_ble_eq_true rfl) ?_
  refine x_putF (k := 7) (ty := (.array .byte)) d_MO_init_15 rfl "TermReaderModel" F_MO 15 t_MO c_MO (by decide) rfl rfl rfl (x_mem 1039 (by decide +kernel) (by decide +kernel)) (Nat.le_of_ble_eq_true rfl) (Nat.le_of_ble_eq_true rfl) (by first | rfl | assumption) (by rfl) (by rfl) (by exact (Nat.le_of_ble_eq_true rfl)) ?_
  refine x_aload_n d_MO_init_18 rfl rfl ?_
  refine x_sipush 4096 d_MO_init_19 (by decide) ?_
  refine x_newaB 4096 d_MO_init_22 htg (by decide) (by decide) (by decide) (Nat.le_of_ble_eq_true rfl) (Nat.le_of_ble_eq_true rfl) (Nat.le_of_ble_eq_true rfl) ?_
  refine x_putF (k := 8) (ty := (.array .byte)) d_MO_init_24 rfl "TermReaderModel" F_MO 15 t_MO c_MO (by decide) rfl rfl rfl (x_mem 1040 (by decide +kernel) (by decide +kernel)) (Nat.le_of_ble_eq_true rfl) (Nat.le_of_ble_eq_true rfl) (by first | rfl | assumption) (by rfl) (by rfl) (by exact (Nat.le_of_ble_eq_true rfl)) ?_
  refine x_aload_n d_MO_init_27 rfl rfl ?_
  refine x_new d_MO_init_28 htg c_TS (x_mem 819 (by decide +kernel) (by decide +kernel)) (x_mem 820 (by decide +kernel) (by decide +kernel)) (x_mem 73 (by decide +kernel) (by decide +kernel)) [.null, .null, .null, .null, .null, .null, .int 0, .int 0] (x_s1 (x_s1 (x_s1 (x_s1 (x_s1 (x_s1 (x_s1 (x_s1 (x_s0) rfl) rfl) rfl) rfl) rfl) rfl) rfl) rfl) (Nat.le_of_ble_eq_true rfl) (Nat.le_of_ble_eq_true rfl) (Nat.le_of_ble_eq_true rfl) ?_
  refine x_dup d_MO_init_31 rfl ?_
  refine x_callI0P d_MO_init_32 k_MO_22 (w_TS_init htg rfl) (Nat.le_of_ble_eq_true rfl) (Nat.le_of_ble_eq_true rfl) (Nat.le_of_ble_eq_true rfl) (Nat.le_of_ble_eq_true rfl) (Nat.le_of_ble_eq_true rfl) rfl rfl (fun h32 hp32 => ?_)
  obtain ⟨a24, a25, a26, a27, a28, a29, a30, ao⟩ := hp32
  have e32 : h32 21 = .inr (5, [.int 0, .int 0, .int (-1), .int 0, .int 0, .int 0, .int 0, .ref 22, .ref 23, .null, .null, .null, .null, .null, .null]) := ao 21 (by decide)
  refine x_putF (k := 9) (ty := (.object "TermReaderModel$Terms")) d_MO_init_35 rfl "TermReaderModel" F_MO 15 t_MO c_MO (by decide) rfl rfl rfl (x_mem 1041 (by decide +kernel) (by decide +kernel)) (Nat.le_of_ble_eq_true rfl) (Nat.le_of_ble_eq_true rfl) (by first | rfl | assumption) (by rfl) (by rfl) (by exact (Nat.le_of_ble_eq_true rfl)) ?_
  refine x_aload_n d_MO_init_38 rfl rfl ?_
  refine x_new d_MO_init_39 htg c_NA (x_mem 859 (by decide +kernel) (by decide +kernel)) (x_mem 860 (by decide +kernel) (by decide +kernel)) (x_mem 74 (by decide +kernel) (by decide +kernel)) [.null, .null, .null, .null, .int 0, .int 0] (x_s1 (x_s1 (x_s1 (x_s1 (x_s1 (x_s1 (x_s0) rfl) rfl) rfl) rfl) rfl) rfl) (Nat.le_of_ble_eq_true rfl) (Nat.le_of_ble_eq_true rfl) (Nat.le_of_ble_eq_true rfl) ?_
  refine x_dup d_MO_init_42 rfl ?_
  refine x_callI0P d_MO_init_43 k_MO_29 (w_NA_init htg rfl) (Nat.le_of_ble_eq_true rfl) (Nat.le_of_ble_eq_true rfl) (Nat.le_of_ble_eq_true rfl) (Nat.le_of_ble_eq_true rfl) (Nat.le_of_ble_eq_true rfl) rfl rfl (fun h43 hp43 => ?_)
  obtain ⟨b31, b32, b33, b34, b35, bo⟩ := hp43
  have e43 : h43 21 = .inr (5, [.int 0, .int 0, .int (-1), .int 0, .int 0, .int 0, .int 0, .ref 22, .ref 23, .ref 24, .null, .null, .null, .null, .null]) := bo 21 (by decide)
  refine x_putF (k := 10) (ty := (.object "TermReaderModel$Names")) d_MO_init_46 rfl "TermReaderModel" F_MO 15 t_MO c_MO (by decide) rfl rfl rfl (x_mem 1042 (by decide +kernel) (by decide +kernel)) (Nat.le_of_ble_eq_true rfl) (Nat.le_of_ble_eq_true rfl) (by first | rfl | assumption) (by rfl) (by rfl) (by exact (Nat.le_of_ble_eq_true rfl)) ?_
  refine x_aload_n d_MO_init_49 rfl rfl ?_
  refine x_new d_MO_init_50 htg c_RD (x_mem 884 (by decide +kernel) (by decide +kernel)) (x_mem 885 (by decide +kernel) (by decide +kernel)) (x_mem 75 (by decide +kernel) (by decide +kernel)) [.null, .null, .null, .null, .null, .null, .int 0, .int 0, .int 0, .int 0, .int 0, .long 0, .null, .int 0, .null, .int 0, .int 0, .null, .int 0, .int 0, .int 0, .null] (x_s1 (x_s1 (x_s1 (x_s1 (x_s1 (x_s1 (x_s1 (x_s1 (x_s1 (x_s1 (x_s1 (x_s1 (x_s1 (x_s1 (x_s1 (x_s1 (x_s1 (x_s1 (x_s1 (x_s1 (x_s1 (x_s1 (x_s0) rfl) rfl) rfl) rfl) rfl) rfl) rfl) rfl) rfl) rfl) rfl) rfl) rfl) rfl) rfl) rfl) rfl) rfl) rfl) rfl) rfl) rfl) (Nat.le_of_ble_eq_true rfl) (Nat.le_of_ble_eq_true rfl) (Nat.le_of_ble_eq_true rfl) ?_
  refine x_dup d_MO_init_53 rfl ?_
  refine x_aload_n d_MO_init_54 rfl rfl ?_
  refine x_get d_MO_init_55 f_MO_23 (Nat.le_of_ble_eq_true rfl) (Nat.le_of_ble_eq_true rfl) (by first | rfl | assumption) (by rfl) ?_
  refine x_aload_n d_MO_init_58 rfl rfl ?_
  refine x_get d_MO_init_59 f_MO_30 (Nat.le_of_ble_eq_true rfl) (Nat.le_of_ble_eq_true rfl) (by first | rfl | assumption) (by rfl) ?_
  refine x_callI2P d_MO_init_62 k_MO_36 (w_RD_init htg rfl) (Nat.le_of_ble_eq_true rfl) (Nat.le_of_ble_eq_true rfl) (Nat.le_of_ble_eq_true rfl) (Nat.le_of_ble_eq_true rfl) (Nat.le_of_ble_eq_true rfl) rfl rfl (fun h62 hp62 => ?_)
  obtain ⟨c36, cT, c40, c41, c42, c43, co⟩ := hp62
  have e62 : h62 21 = .inr (5, [.int 0, .int 0, .int (-1), .int 0, .int 0, .int 0, .int 0, .ref 22, .ref 23, .ref 24, .ref 31, .null, .null, .null, .null]) := co 21 (by decide)
  refine x_putF (k := 11) (ty := (.object "TermReaderModel$Reader")) d_MO_init_65 rfl "TermReaderModel" F_MO 15 t_MO c_MO (by decide) rfl rfl rfl (x_mem 1043 (by decide +kernel) (by decide +kernel)) (Nat.le_of_ble_eq_true rfl) (Nat.le_of_ble_eq_true rfl) (by first | rfl | assumption) (by rfl) (by rfl) (by exact (Nat.le_of_ble_eq_true rfl)) ?_
  refine x_aload_n d_MO_init_68 rfl rfl ?_
  refine x_new d_MO_init_69 htg c_PP (x_mem 1001 (by decide +kernel) (by decide +kernel)) (x_mem 1002 (by decide +kernel) (by decide +kernel)) (x_mem 80 (by decide +kernel) (by decide +kernel)) [.null, .null, .null, .null, .int 0, .int 0, .int 0] (x_s1 (x_s1 (x_s1 (x_s1 (x_s1 (x_s1 (x_s1 (x_s0) rfl) rfl) rfl) rfl) rfl) rfl) rfl) (Nat.le_of_ble_eq_true rfl) (Nat.le_of_ble_eq_true rfl) (Nat.le_of_ble_eq_true rfl) ?_
  refine x_dup d_MO_init_72 rfl ?_
  refine x_callI0P d_MO_init_73 k_MO_45 (w_PP_init htg rfl) (Nat.le_of_ble_eq_true rfl) (Nat.le_of_ble_eq_true rfl) (Nat.le_of_ble_eq_true rfl) (Nat.le_of_ble_eq_true rfl) (Nat.le_of_ble_eq_true rfl) rfl rfl (fun h73 hp73 => ?_)
  obtain ⟨d44, d45, d46, d47, d48, dO⟩ := hp73
  have e73 : h73 21 = .inr (5, [.int 0, .int 0, .int (-1), .int 0, .int 0, .int 0, .int 0, .ref 22, .ref 23, .ref 24, .ref 31, .ref 36, .null, .null, .null]) := dO 21 (by decide)
  refine x_putF (k := 12) (ty := (.object "TermReaderModel$Paper")) d_MO_init_76 rfl "TermReaderModel" F_MO 15 t_MO c_MO (by decide) rfl rfl rfl (x_mem 1044 (by decide +kernel) (by decide +kernel)) (Nat.le_of_ble_eq_true rfl) (Nat.le_of_ble_eq_true rfl) (by first | rfl | assumption) (by rfl) (by rfl) (by exact (Nat.le_of_ble_eq_true rfl)) ?_
  refine x_aload_n d_MO_init_79 rfl rfl ?_
  refine x_sipush 9000 d_MO_init_80 (by decide) ?_
  refine x_newaI 9000 d_MO_init_83 htg (by decide) (by decide) (by decide) (Nat.le_of_ble_eq_true rfl) (Nat.le_of_ble_eq_true rfl) (Nat.le_of_ble_eq_true rfl) ?_
  refine x_putF (k := 13) (ty := (.array .int)) d_MO_init_85 rfl "TermReaderModel" F_MO 15 t_MO c_MO (by decide) rfl rfl rfl (x_mem 1045 (by decide +kernel) (by decide +kernel)) (Nat.le_of_ble_eq_true rfl) (Nat.le_of_ble_eq_true rfl) (by first | rfl | assumption) (by rfl) (by rfl) (by exact (Nat.le_of_ble_eq_true rfl)) ?_
  refine x_aload_n d_MO_init_88 rfl rfl ?_
  refine x_sipush 9000 d_MO_init_89 (by decide) ?_
  refine x_newaI 9000 d_MO_init_92 htg (by decide) (by decide) (by decide) (Nat.le_of_ble_eq_true rfl) (Nat.le_of_ble_eq_true rfl) (Nat.le_of_ble_eq_true rfl) ?_
  refine x_putF (k := 14) (ty := (.array .int)) d_MO_init_94 rfl "TermReaderModel" F_MO 15 t_MO c_MO (by decide) rfl rfl rfl (x_mem 1046 (by decide +kernel) (by decide +kernel)) (Nat.le_of_ble_eq_true rfl) (Nat.le_of_ble_eq_true rfl) (by first | rfl | assumption) (by rfl) (by rfl) (by exact (Nat.le_of_ble_eq_true rfl)) ?_
  exact x_return d_MO_init_97 rfl ⟨rfl, rfl, rfl, rfl, rfl, ((dO 22 (by decide)).trans ((co 22 (by decide)).trans ((bo 22 (by decide)).trans (ao 22 (by decide))))), ((dO 23 (by decide)).trans ((co 23 (by decide)).trans ((bo 23 (by decide)).trans (ao 23 (by decide))))), ((dO 24 (by decide)).trans ((co 24 (by decide)).trans ((bo 24 (by decide)).trans a24))), ((dO 25 (by decide)).trans ((co 25 (by decide)).trans ((bo 25 (by decide)).trans a25))), ((dO 26 (by decide)).trans ((co 26 (by decide)).trans ((bo 26 (by decide)).trans a26))), ((dO 27 (by decide)).trans ((co 27 (by decide)).trans ((bo 27 (by decide)).trans a27))), ((dO 28 (by decide)).trans ((co 28 (by decide)).trans ((bo 28 (by decide)).trans a28))), ((dO 29 (by decide)).trans ((co 29 (by decide)).trans ((bo 29 (by decide)).trans a29))), ((dO 30 (by decide)).trans ((co 30 (by decide)).trans ((bo 30 (by decide)).trans a30))), ((dO 31 (by decide)).trans ((co 31 (by decide)).trans b31)), ((dO 32 (by decide)).trans ((co 32 (by decide)).trans b32)), ((dO 33 (by decide)).trans ((co 33 (by decide)).trans b33)), ((dO 34 (by decide)).trans ((co 34 (by decide)).trans b34)), ((dO 35 (by decide)).trans ((co 35 (by decide)).trans b35)), ((dO 36 (by decide)).trans c36), ((dO 40 (by decide)).trans c40), ((dO 41 (by decide)).trans c41), ((dO 42 (by decide)).trans c42), ((dO 43 (by decide)).trans c43), d44, d45, d46, d47, d48, rfl, rfl, (by
      obtain ⟨⟨f1, t1, t2⟩, ⟨f2, t3, t4⟩, t5⟩ := cT
      exact ⟨⟨f1, (dO 37 (by decide)).trans t1, t2⟩, ⟨f2, (dO 38 (by decide)).trans t3, t4⟩, (dO 39 (by decide)).trans t5⟩), (fun i hi => by repeat' (first | refine (x_up_ne (by omega)).trans ?_ | refine (dO i (by omega)).trans ?_ | refine (co i (by omega)).trans ?_ | refine (bo i (by omega)).trans ?_ | refine (ao i (by omega)).trans ?_ | rfl))⟩
