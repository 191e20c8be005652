theorem g_nsub1 (t : Nat) : nI (t + 1) - 1 = nI t := by rw [nI_succ t]; exact Int32.add_sub_cancel _ _
theorem g_nsub2 (t : Nat) : nI (t + 1) + -1 = nI t := by rw [← Int32.sub_eq_add_neg]; exact g_nsub1 t
theorem g_nsub3 (t : Nat) : nI t + -1 = nI t - 1 := (Int32.sub_eq_add_neg _ _).symm
theorem g_ntM {T : List (List Int32)} {k : Nat} {w : List Int32} (h : g_nt T k = some w) (ht : g_tot T ≤ 5000) : w.length ≤ 5000 := by
  have := g_ofM T k w h
  omega
theorem g_mmz {a : Nat} (h0 : 0 < a) (ha : a < 9000) : ¬ nI a = 0 := fun y => absurd ((g_nIne (b := 0) (by omega) (by decide)).mp y) (by omega)
theorem d_PP_compound_0 : decode M_PP_compound.2.1 0 = .ok (.iload 4, 2) := by decide +kernel
theorem d_PP_compound_2 : decode M_PP_compound.2.1 2 = .ok (.ifCond .ne 14, 3) := by decide +kernel
theorem d_PP_compound_5 : decode M_PP_compound.2.1 5 = .ok (.aload_n 0, 1) := by decide +kernel
theorem d_PP_compound_6 : decode M_PP_compound.2.1 6 = .ok (.aload_n 2, 1) := by decide +kernel
theorem d_PP_compound_7 : decode M_PP_compound.2.1 7 = .ok (.aload_n 1, 1) := by decide +kernel
theorem d_PP_compound_8 : decode M_PP_compound.2.1 8 = .ok (.getfield 83, 3) := by decide +kernel
theorem d_PP_compound_11 : decode M_PP_compound.2.1 11 = .ok (.iload_n 3, 1) := by decide +kernel
theorem d_PP_compound_12 : decode M_PP_compound.2.1 12 = .ok (.iaload, 1) := by decide +kernel
theorem d_PP_compound_13 : decode M_PP_compound.2.1 13 = .ok (.invokevirtual 102, 3) := by decide +kernel
theorem d_PP_compound_16 : decode M_PP_compound.2.1 16 = .ok (.aload_n 1, 1) := by decide +kernel
theorem d_PP_compound_17 : decode M_PP_compound.2.1 17 = .ok (.getfield 92, 3) := by decide +kernel
theorem d_PP_compound_20 : decode M_PP_compound.2.1 20 = .ok (.iload_n 3, 1) := by decide +kernel
theorem d_PP_compound_21 : decode M_PP_compound.2.1 21 = .ok (.iaload, 1) := by decide +kernel
theorem d_PP_compound_22 : decode M_PP_compound.2.1 22 = .ok (.ifCond .ne 8, 3) := by decide +kernel
theorem d_PP_compound_25 : decode M_PP_compound.2.1 25 = .ok (.iload 5, 2) := by decide +kernel
theorem d_PP_compound_27 : decode M_PP_compound.2.1 27 = .ok (.iconst 1, 1) := by decide +kernel
theorem d_PP_compound_28 : decode M_PP_compound.2.1 28 = .ok (.isub, 1) := by decide +kernel
theorem d_PP_compound_29 : decode M_PP_compound.2.1 29 = .ok (.ireturn, 1) := by decide +kernel
theorem d_PP_compound_30 : decode M_PP_compound.2.1 30 = .ok (.iload 4, 2) := by decide +kernel
theorem d_PP_compound_32 : decode M_PP_compound.2.1 32 = .ok (.aload_n 1, 1) := by decide +kernel
theorem d_PP_compound_33 : decode M_PP_compound.2.1 33 = .ok (.getfield 92, 3) := by decide +kernel
theorem d_PP_compound_36 : decode M_PP_compound.2.1 36 = .ok (.iload_n 3, 1) := by decide +kernel
theorem d_PP_compound_37 : decode M_PP_compound.2.1 37 = .ok (.iaload, 1) := by decide +kernel
theorem d_PP_compound_38 : decode M_PP_compound.2.1 38 = .ok (.if_icmp .ne 14, 3) := by decide +kernel
theorem d_PP_compound_41 : decode M_PP_compound.2.1 41 = .ok (.aload_n 0, 1) := by decide +kernel
theorem d_PP_compound_42 : decode M_PP_compound.2.1 42 = .ok (.bipush 41, 2) := by decide +kernel
theorem d_PP_compound_44 : decode M_PP_compound.2.1 44 = .ok (.invokevirtual 33, 3) := by decide +kernel
theorem d_PP_compound_47 : decode M_PP_compound.2.1 47 = .ok (.iload 5, 2) := by decide +kernel
theorem d_PP_compound_49 : decode M_PP_compound.2.1 49 = .ok (.iconst 1, 1) := by decide +kernel
theorem d_PP_compound_50 : decode M_PP_compound.2.1 50 = .ok (.isub, 1) := by decide +kernel
theorem d_PP_compound_51 : decode M_PP_compound.2.1 51 = .ok (.ireturn, 1) := by decide +kernel
theorem d_PP_compound_52 : decode M_PP_compound.2.1 52 = .ok (.aload_n 0, 1) := by decide +kernel
theorem d_PP_compound_53 : decode M_PP_compound.2.1 53 = .ok (.iload 4, 2) := by decide +kernel
theorem d_PP_compound_55 : decode M_PP_compound.2.1 55 = .ok (.ifCond .ne 8, 3) := by decide +kernel
theorem d_PP_compound_58 : decode M_PP_compound.2.1 58 = .ok (.bipush 40, 2) := by decide +kernel
theorem d_PP_compound_60 : decode M_PP_compound.2.1 60 = .ok (.goto 5, 3) := by decide +kernel
theorem d_PP_compound_63 : decode M_PP_compound.2.1 63 = .ok (.bipush 44, 2) := by decide +kernel
theorem d_PP_compound_65 : decode M_PP_compound.2.1 65 = .ok (.invokevirtual 33, 3) := by decide +kernel
theorem d_PP_compound_68 : decode M_PP_compound.2.1 68 = .ok (.aload_n 0, 1) := by decide +kernel
theorem d_PP_compound_69 : decode M_PP_compound.2.1 69 = .ok (.getfield 19, 3) := by decide +kernel
theorem d_PP_compound_72 : decode M_PP_compound.2.1 72 = .ok (.iload 5, 2) := by decide +kernel
theorem d_PP_compound_74 : decode M_PP_compound.2.1 74 = .ok (.iload 4, 2) := by decide +kernel
theorem d_PP_compound_76 : decode M_PP_compound.2.1 76 = .ok (.iconst 1, 1) := by decide +kernel
theorem d_PP_compound_77 : decode M_PP_compound.2.1 77 = .ok (.iadd, 1) := by decide +kernel
theorem d_PP_compound_78 : decode M_PP_compound.2.1 78 = .ok (.iastore, 1) := by decide +kernel
theorem d_PP_compound_79 : decode M_PP_compound.2.1 79 = .ok (.aload_n 0, 1) := by decide +kernel
theorem d_PP_compound_80 : decode M_PP_compound.2.1 80 = .ok (.getfield 15, 3) := by decide +kernel
theorem d_PP_compound_83 : decode M_PP_compound.2.1 83 = .ok (.iload 5, 2) := by decide +kernel
theorem d_PP_compound_85 : decode M_PP_compound.2.1 85 = .ok (.iconst 1, 1) := by decide +kernel
theorem d_PP_compound_86 : decode M_PP_compound.2.1 86 = .ok (.iadd, 1) := by decide +kernel
theorem d_PP_compound_87 : decode M_PP_compound.2.1 87 = .ok (.aload_n 1, 1) := by decide +kernel
theorem d_PP_compound_88 : decode M_PP_compound.2.1 88 = .ok (.iload_n 3, 1) := by decide +kernel
theorem d_PP_compound_89 : decode M_PP_compound.2.1 89 = .ok (.iload 4, 2) := by decide +kernel
theorem d_PP_compound_91 : decode M_PP_compound.2.1 91 = .ok (.invokevirtual 95, 3) := by decide +kernel
theorem d_PP_compound_94 : decode M_PP_compound.2.1 94 = .ok (.iastore, 1) := by decide +kernel
theorem d_PP_compound_95 : decode M_PP_compound.2.1 95 = .ok (.aload_n 0, 1) := by decide +kernel
theorem d_PP_compound_96 : decode M_PP_compound.2.1 96 = .ok (.getfield 19, 3) := by decide +kernel
theorem d_PP_compound_99 : decode M_PP_compound.2.1 99 = .ok (.iload 5, 2) := by decide +kernel
theorem d_PP_compound_101 : decode M_PP_compound.2.1 101 = .ok (.iconst 1, 1) := by decide +kernel
theorem d_PP_compound_102 : decode M_PP_compound.2.1 102 = .ok (.iadd, 1) := by decide +kernel
theorem d_PP_compound_103 : decode M_PP_compound.2.1 103 = .ok (.iconst 0, 1) := by decide +kernel
theorem d_PP_compound_104 : decode M_PP_compound.2.1 104 = .ok (.iastore, 1) := by decide +kernel
theorem d_PP_compound_105 : decode M_PP_compound.2.1 105 = .ok (.iload 5, 2) := by decide +kernel
theorem d_PP_compound_107 : decode M_PP_compound.2.1 107 = .ok (.iconst 1, 1) := by decide +kernel
theorem d_PP_compound_108 : decode M_PP_compound.2.1 108 = .ok (.iadd, 1) := by decide +kernel
theorem d_PP_compound_109 : decode M_PP_compound.2.1 109 = .ok (.ireturn, 1) := by decide +kernel
set_option maxRecDepth 20000 in
theorem w_PP_comp0 {E : xR} {h : xH} {S : List Int32} {n : Nat} {Wk Nx Sn P0 : Nat → Int32} {T : List (List Int32)} {Na B : Nat → Nat → Int32} {Nm : Nat → Int64} {z q : Int32} {tp r mm : Nat} {w : List Int32} (hN : g_HN h T Na) (hT : g_HT h B Nm z q) (hna : g_na T B r mm w) (hr : r < 9000) (htp : tp + 1 < 9000) (hm0 : mm = 0) : x_Mt E M_PP_compound 8 0 0 [.ref 44, .ref 24, .ref 31, .int (nI r), .int 0, .int (nI tp)] 52 (g_yw h S n Wk Nx Sn P0) (x_Y (some (.int (nI tp - 1))) 52 (g_yw h (S ++ g_mnS w) n Wk Nx Sn P0)) := by
  have h31c := hN.1.1
  obtain ⟨h24c, hb0, hb1, hb2, hb3, hb4, hb5⟩ := hT
  have hT2 : g_HT h B Nm z q := ⟨h24c, hb0, hb1, hb2, hb3, hb4, hb5⟩
  obtain ⟨a0, a3, ⟨k, hk9, a1, hk⟩, a4, a5, a6⟩ := hna
  have hL := g_ntM hk hN.2.2
  refine x_Mt.of (by decide) (Nat.le_of_ble_eq_true rfl) ?_
  show x_W E M_PP_compound _ _ 52 (g_yw h S n Wk Nx Sn P0) 0 [(0, .ref 44), (1, .ref 24), (2, .ref 31), (3, .int (nI r)), (4, .int 0), (5, .int (nI tp))] [] 0 0
  refine x_iload d_PP_compound_0 rfl ?_
  refine x_if_ne 16 d_PP_compound_2 (by decide) (fun z => absurd rfl z) (fun _ => ?_)
  refine x_aload_n d_PP_compound_5 rfl rfl ?_
  refine x_aload_n d_PP_compound_6 rfl rfl ?_
  refine x_aload_n d_PP_compound_7 rfl rfl ?_
  refine x_get d_PP_compound_8 f_PP_83 (Nat.le_of_ble_eq_true rfl) (Nat.le_of_ble_eq_true rfl) (by first | rfl | assumption) (by rfl) ?_
  refine x_iload_n d_PP_compound_11 rfl rfl ?_
  refine x_iald d_PP_compound_12 (Nat.le_of_ble_eq_true rfl) (Nat.le_of_ble_eq_true rfl) (by first | rfl | assumption) (vp_in_nI hr (by decide)) ?_
  refine x_topi (nI k) (by rw [nI_clamp (by omega)]; exact a1) ?_
  refine x_callV2Y d_PP_compound_13 k_PP_102 (Nat.le_of_ble_eq_true rfl) (Nat.le_of_ble_eq_true rfl) (by first | rfl | assumption) (by rfl) (w_PP_name hN hk hk9 hL a6) (Nat.le_of_ble_eq_true rfl) (Nat.le_of_ble_eq_true rfl) (Nat.le_of_ble_eq_true rfl) (Nat.le_of_ble_eq_true rfl) (Nat.le_of_ble_eq_true rfl) rfl ?_
  refine x_aload_n d_PP_compound_16 rfl rfl ?_
  refine x_get d_PP_compound_17 f_PP_92 (Nat.le_of_ble_eq_true rfl) (Nat.le_of_ble_eq_true rfl) (by first | rfl | assumption) (by rfl) ?_
  refine x_iload_n d_PP_compound_20 rfl rfl ?_
  refine x_iald d_PP_compound_21 (Nat.le_of_ble_eq_true rfl) (Nat.le_of_ble_eq_true rfl) (by first | rfl | assumption) (vp_in_nI hr (by decide)) ?_
  refine x_topi (nI mm) (by rw [nI_clamp (by omega)]; exact a3) ?_
  refine x_if_ne 30 d_PP_compound_22 (by decide) (fun z => absurd (show nI mm = 0 by rw [hm0]; rfl) z) (fun _ => ?_)
  refine x_iload d_PP_compound_25 rfl ?_
  refine x_iconst 1 d_PP_compound_27 (by decide) ?_
  refine x_isub d_PP_compound_28 ?_
  refine x_topi (nI tp - 1) rfl ?_
  exact x_ireturn d_PP_compound_29 rfl rfl ⟨rfl, rfl, fun _ _ => rfl, rfl, rfl⟩
set_option maxRecDepth 20000 in
theorem w_PP_comp3 {E : xR} {h : xH} {S : List Int32} {n : Nat} {Wk Nx Sn P0 : Nat → Int32} {T : List (List Int32)} {Na B : Nat → Nat → Int32} {Nm : Nat → Int64} {z q : Int32} {tp r mm : Nat} {w : List Int32} (hN : g_HN h T Na) (hT : g_HT h B Nm z q) (hna : g_na T B r mm w) (hr : r < 9000) (htp : tp + 1 < 9000) (hm0 : 0 < mm) : x_Mt E M_PP_compound 8 0 0 [.ref 44, .ref 24, .ref 31, .int (nI r), .int (nI mm), .int (nI tp)] 52 (g_yw h S n Wk Nx Sn P0) (x_Y (some (.int (nI tp - 1))) 52 (g_yw h (S ++ [41]) n Wk Nx Sn P0)) := by
  have h31c := hN.1.1
  obtain ⟨h24c, hb0, hb1, hb2, hb3, hb4, hb5⟩ := hT
  have hT2 : g_HT h B Nm z q := ⟨h24c, hb0, hb1, hb2, hb3, hb4, hb5⟩
  obtain ⟨a0, a3, ⟨k, hk9, a1, hk⟩, a4, a5, a6⟩ := hna
  have hL := g_ntM hk hN.2.2
  refine x_Mt.of (by decide) (Nat.le_of_ble_eq_true rfl) ?_
  show x_W E M_PP_compound _ _ 52 (g_yw h S n Wk Nx Sn P0) 0 [(0, .ref 44), (1, .ref 24), (2, .ref 31), (3, .int (nI r)), (4, .int (nI mm)), (5, .int (nI tp))] [] 0 0
  refine x_iload d_PP_compound_0 rfl ?_
  refine x_if_ne 16 d_PP_compound_2 (by decide) (fun _ => ?_) (fun z => absurd z (g_mmz hm0 a5))
  refine x_aload_n d_PP_compound_16 rfl rfl ?_
  refine x_get d_PP_compound_17 f_PP_92 (Nat.le_of_ble_eq_true rfl) (Nat.le_of_ble_eq_true rfl) (by first | rfl | assumption) (by rfl) ?_
  refine x_iload_n d_PP_compound_20 rfl rfl ?_
  refine x_iald d_PP_compound_21 (Nat.le_of_ble_eq_true rfl) (Nat.le_of_ble_eq_true rfl) (by first | rfl | assumption) (vp_in_nI hr (by decide)) ?_
  refine x_topi (nI mm) (by rw [nI_clamp (by omega)]; exact a3) ?_
  refine x_if_ne 30 d_PP_compound_22 (by decide) (fun _ => ?_) (fun z => absurd z (g_mmz hm0 a5))
  refine x_iload d_PP_compound_30 rfl ?_
  refine x_aload_n d_PP_compound_32 rfl rfl ?_
  refine x_get d_PP_compound_33 f_PP_92 (Nat.le_of_ble_eq_true rfl) (Nat.le_of_ble_eq_true rfl) (by first | rfl | assumption) (by rfl) ?_
  refine x_iload_n d_PP_compound_36 rfl rfl ?_
  refine x_iald d_PP_compound_37 (Nat.le_of_ble_eq_true rfl) (Nat.le_of_ble_eq_true rfl) (by first | rfl | assumption) (vp_in_nI hr (by decide)) ?_
  refine x_topi (nI mm) (by rw [nI_clamp (by omega)]; exact a3) ?_
  refine x_icmp_ne 52 d_PP_compound_38 (by decide) (fun z => absurd rfl z) (fun _ => ?_)
  refine x_aload_n d_PP_compound_41 rfl rfl ?_
  refine x_bipush 41 d_PP_compound_42 (by decide) ?_
  refine x_callV1Y d_PP_compound_44 k_PP_33 (Nat.le_of_ble_eq_true rfl) (Nat.le_of_ble_eq_true rfl) (by first | rfl | assumption) (by rfl) w_PP_put (Nat.le_of_ble_eq_true rfl) (Nat.le_of_ble_eq_true rfl) (Nat.le_of_ble_eq_true rfl) (Nat.le_of_ble_eq_true rfl) (Nat.le_of_ble_eq_true rfl) rfl ?_
  refine x_iload d_PP_compound_47 rfl ?_
  refine x_iconst 1 d_PP_compound_49 (by decide) ?_
  refine x_isub d_PP_compound_50 ?_
  exact x_ireturn d_PP_compound_51 rfl rfl ⟨rfl, rfl, fun _ _ => rfl, rfl, rfl⟩
set_option maxRecDepth 20000 in
theorem w_PP_comp1 {E : xR} {h : xH} {S : List Int32} {n : Nat} {Wk Nx Sn P0 : Nat → Int32} {T : List (List Int32)} {Na B : Nat → Nat → Int32} {Nm : Nat → Int64} {z q : Int32} {tp r mm f x : Nat} {w : List Int32} (hN : g_HN h T Na) (hT : g_HT h B Nm z q) (hna : g_na T B r mm w) (hr : r < 9000) (htp : tp + 1 < 9000) (hm0 : 0 < mm) (hf : B 2 r = nI f) (hf9 : f < 9000) (hx : B 4 (f + 0) = nI x) : x_Mt E M_PP_compound 8 0 0 [.ref 44, .ref 24, .ref 31, .int (nI r), .int (nI 0), .int (nI tp)] 52 (g_yw h S n Wk Nx Sn P0) (x_Y (some (.int (nI (tp + 1)))) 52 (g_yw h (S ++ (g_mnS w ++ [40])) n (upd Wk (tp + 1) (nI x)) (upd (upd Nx tp (nI (0 + 1))) (tp + 1) 0) Sn P0)) := by
  have h31c := hN.1.1
  obtain ⟨h24c, hb0, hb1, hb2, hb3, hb4, hb5⟩ := hT
  have hT2 : g_HT h B Nm z q := ⟨h24c, hb0, hb1, hb2, hb3, hb4, hb5⟩
  obtain ⟨a0, a3, ⟨k, hk9, a1, hk⟩, a4, a5, a6⟩ := hna
  have hL := g_ntM hk hN.2.2
  rw [← List.append_assoc]
  refine x_Mt.of (by decide) (Nat.le_of_ble_eq_true rfl) ?_
  show x_W E M_PP_compound _ _ 52 (g_yw h S n Wk Nx Sn P0) 0 [(0, .ref 44), (1, .ref 24), (2, .ref 31), (3, .int (nI r)), (4, .int (nI 0)), (5, .int (nI tp))] [] 0 0
  refine x_iload d_PP_compound_0 rfl ?_
  refine x_if_ne 16 d_PP_compound_2 (by decide) (fun z => absurd rfl z) (fun _ => ?_)
  refine x_aload_n d_PP_compound_5 rfl rfl ?_
  refine x_aload_n d_PP_compound_6 rfl rfl ?_
  refine x_aload_n d_PP_compound_7 rfl rfl ?_
  refine x_get d_PP_compound_8 f_PP_83 (Nat.le_of_ble_eq_true rfl) (Nat.le_of_ble_eq_true rfl) (by first | rfl | assumption) (by rfl) ?_
  refine x_iload_n d_PP_compound_11 rfl rfl ?_
  refine x_iald d_PP_compound_12 (Nat.le_of_ble_eq_true rfl) (Nat.le_of_ble_eq_true rfl) (by first | rfl | assumption) (vp_in_nI hr (by decide)) ?_
  refine x_topi (nI k) (by rw [nI_clamp (by omega)]; exact a1) ?_
  refine x_callV2Y d_PP_compound_13 k_PP_102 (Nat.le_of_ble_eq_true rfl) (Nat.le_of_ble_eq_true rfl) (by first | rfl | assumption) (by rfl) (w_PP_name hN hk hk9 hL a6) (Nat.le_of_ble_eq_true rfl) (Nat.le_of_ble_eq_true rfl) (Nat.le_of_ble_eq_true rfl) (Nat.le_of_ble_eq_true rfl) (Nat.le_of_ble_eq_true rfl) rfl ?_
  refine x_aload_n d_PP_compound_16 rfl rfl ?_
  refine x_get d_PP_compound_17 f_PP_92 (Nat.le_of_ble_eq_true rfl) (Nat.le_of_ble_eq_true rfl) (by first | rfl | assumption) (by rfl) ?_
  refine x_iload_n d_PP_compound_20 rfl rfl ?_
  refine x_iald d_PP_compound_21 (Nat.le_of_ble_eq_true rfl) (Nat.le_of_ble_eq_true rfl) (by first | rfl | assumption) (vp_in_nI hr (by decide)) ?_
  refine x_topi (nI mm) (by rw [nI_clamp (by omega)]; exact a3) ?_
  refine x_if_ne 30 d_PP_compound_22 (by decide) (fun _ => ?_) (fun z => absurd z (g_mmz hm0 a5))
  refine x_iload d_PP_compound_30 rfl ?_
  refine x_aload_n d_PP_compound_32 rfl rfl ?_
  refine x_get d_PP_compound_33 f_PP_92 (Nat.le_of_ble_eq_true rfl) (Nat.le_of_ble_eq_true rfl) (by first | rfl | assumption) (by rfl) ?_
  refine x_iload_n d_PP_compound_36 rfl rfl ?_
  refine x_iald d_PP_compound_37 (Nat.le_of_ble_eq_true rfl) (Nat.le_of_ble_eq_true rfl) (by first | rfl | assumption) (vp_in_nI hr (by decide)) ?_
  refine x_topi (nI mm) (by rw [nI_clamp (by omega)]; exact a3) ?_
  refine x_icmp_ne 52 d_PP_compound_38 (by decide) (fun _ => ?_) (fun z => absurd z (show ¬ nI 0 = nI mm from fun y => absurd ((g_nIne (by decide) (by omega)).mp y) (by omega)))
  refine x_aload_n d_PP_compound_52 rfl rfl ?_
  refine x_iload d_PP_compound_53 rfl ?_
  refine x_if_ne 63 d_PP_compound_55 (by decide) (fun z => absurd rfl z) (fun _ => ?_)
  refine x_bipush 40 d_PP_compound_58 (by decide) ?_
  refine x_goto 65 d_PP_compound_60 (by decide) ?_
  refine x_callV1Y d_PP_compound_65 k_PP_33 (Nat.le_of_ble_eq_true rfl) (Nat.le_of_ble_eq_true rfl) (by first | rfl | assumption) (by rfl) w_PP_put (Nat.le_of_ble_eq_true rfl) (Nat.le_of_ble_eq_true rfl) (Nat.le_of_ble_eq_true rfl) (Nat.le_of_ble_eq_true rfl) (Nat.le_of_ble_eq_true rfl) rfl ?_
  refine x_aload_n d_PP_compound_68 rfl rfl ?_
  refine x_get d_PP_compound_69 f_PP_19 (Nat.le_of_ble_eq_true rfl) (Nat.le_of_ble_eq_true rfl) (by first | rfl | assumption) (by rfl) ?_
  refine x_iload d_PP_compound_72 rfl ?_
  refine x_iload d_PP_compound_74 rfl ?_
  refine x_iconst 1 d_PP_compound_76 (by decide) ?_
  refine x_iadd d_PP_compound_77 ?_
  refine x_topi (nI (0 + 1)) (nI_succ _).symm ?_
  refine x_iast d_PP_compound_78 (Nat.le_of_ble_eq_true rfl) (Nat.le_of_ble_eq_true rfl) (by first | rfl | assumption) (vp_in_nI (show tp < 9000 by omega) (by decide)) ?_
  refine x_aload_n d_PP_compound_79 rfl rfl ?_
  refine x_get d_PP_compound_80 f_PP_15 (Nat.le_of_ble_eq_true rfl) (Nat.le_of_ble_eq_true rfl) (by first | rfl | assumption) (by rfl) ?_
  refine x_iload d_PP_compound_83 rfl ?_
  refine x_iconst 1 d_PP_compound_85 (by decide) ?_
  refine x_iadd d_PP_compound_86 ?_
  refine x_topi (nI (tp + 1)) (nI_succ _).symm ?_
  refine x_aload_n d_PP_compound_87 rfl rfl ?_
  refine x_iload_n d_PP_compound_88 rfl rfl ?_
  refine x_iload d_PP_compound_89 rfl ?_
  refine x_callV2Y d_PP_compound_91 k_PP_95 (Nat.le_of_ble_eq_true rfl) (Nat.le_of_ble_eq_true rfl) h24c (by rfl) (q_part (i := 0) (f := f) hT2 hr hf (by omega)) (Nat.le_of_ble_eq_true rfl) (Nat.le_of_ble_eq_true rfl) (Nat.le_of_ble_eq_true rfl) (Nat.le_of_ble_eq_true rfl) (Nat.le_of_ble_eq_true rfl) rfl ?_
  refine x_iast d_PP_compound_94 (Nat.le_of_ble_eq_true rfl) (Nat.le_of_ble_eq_true rfl) (by first | rfl | assumption) (vp_in_nI htp (by decide)) ?_
  refine x_aload_n d_PP_compound_95 rfl rfl ?_
  refine x_get d_PP_compound_96 f_PP_19 (Nat.le_of_ble_eq_true rfl) (Nat.le_of_ble_eq_true rfl) (by first | rfl | assumption) (by rfl) ?_
  refine x_iload d_PP_compound_99 rfl ?_
  refine x_iconst 1 d_PP_compound_101 (by decide) ?_
  refine x_iadd d_PP_compound_102 ?_
  refine x_topi (nI (tp + 1)) (nI_succ _).symm ?_
  refine x_iconst 0 d_PP_compound_103 (by decide) ?_
  refine x_iast d_PP_compound_104 (Nat.le_of_ble_eq_true rfl) (Nat.le_of_ble_eq_true rfl) (by first | rfl | assumption) (vp_in_nI htp (by decide)) ?_
  refine x_iload d_PP_compound_105 rfl ?_
  refine x_iconst 1 d_PP_compound_107 (by decide) ?_
  refine x_iadd d_PP_compound_108 ?_
  refine x_topi (nI (tp + 1)) (nI_succ _).symm ?_
  exact x_ireturn d_PP_compound_109 rfl rfl ⟨rfl, rfl, x_pt rfl rfl rfl rfl rfl rfl rfl rfl rfl rfl rfl rfl rfl rfl rfl rfl rfl rfl rfl rfl rfl rfl rfl rfl rfl rfl rfl rfl rfl rfl rfl rfl rfl rfl rfl rfl rfl rfl rfl rfl rfl rfl rfl rfl rfl rfl (show (Sum.inl (0, 9000, Sum.inl (upd _ (nI (tp + 1)).toNatClampNeg _)) : xE) = Sum.inl (0, 9000, Sum.inl (upd Wk (tp + 1) (nI x))) by rw [nI_clamp (by omega), hx]) (show (Sum.inl (0, 9000, Sum.inl (upd (upd _ (nI tp).toNatClampNeg _) (nI (tp + 1)).toNatClampNeg _)) : xE) = Sum.inl (0, 9000, Sum.inl (upd (upd Nx tp (nI (0 + 1))) (tp + 1) 0)) by rw [nI_clamp (by omega), nI_clamp (by omega)]) rfl rfl rfl rfl, rfl, rfl⟩
set_option maxRecDepth 20000 in
theorem w_PP_comp2 {E : xR} {h : xH} {S : List Int32} {n : Nat} {Wk Nx Sn P0 : Nat → Int32} {T : List (List Int32)} {Na B : Nat → Nat → Int32} {Nm : Nat → Int64} {z q : Int32} {tp r mm i f x : Nat} {w : List Int32} (hN : g_HN h T Na) (hT : g_HT h B Nm z q) (hna : g_na T B r mm w) (hr : r < 9000) (htp : tp + 1 < 9000) (hi0 : 0 < i) (hi : i < mm) (hf : B 2 r = nI f) (hf9 : f + i < 9000) (hx : B 4 (f + i) = nI x) : x_Mt E M_PP_compound 8 0 0 [.ref 44, .ref 24, .ref 31, .int (nI r), .int (nI i), .int (nI tp)] 52 (g_yw h S n Wk Nx Sn P0) (x_Y (some (.int (nI (tp + 1)))) 52 (g_yw h (S ++ [44]) n (upd Wk (tp + 1) (nI x)) (upd (upd Nx tp (nI (i + 1))) (tp + 1) 0) Sn P0)) := by
  have h31c := hN.1.1
  obtain ⟨h24c, hb0, hb1, hb2, hb3, hb4, hb5⟩ := hT
  have hT2 : g_HT h B Nm z q := ⟨h24c, hb0, hb1, hb2, hb3, hb4, hb5⟩
  obtain ⟨a0, a3, ⟨k, hk9, a1, hk⟩, a4, a5, a6⟩ := hna
  have hL := g_ntM hk hN.2.2
  refine x_Mt.of (by decide) (Nat.le_of_ble_eq_true rfl) ?_
  show x_W E M_PP_compound _ _ 52 (g_yw h S n Wk Nx Sn P0) 0 [(0, .ref 44), (1, .ref 24), (2, .ref 31), (3, .int (nI r)), (4, .int (nI i)), (5, .int (nI tp))] [] 0 0
  refine x_iload d_PP_compound_0 rfl ?_
  refine x_if_ne 16 d_PP_compound_2 (by decide) (fun _ => ?_) (fun z => absurd z (g_mmz hi0 (by omega)))
  refine x_aload_n d_PP_compound_16 rfl rfl ?_
  refine x_get d_PP_compound_17 f_PP_92 (Nat.le_of_ble_eq_true rfl) (Nat.le_of_ble_eq_true rfl) (by first | rfl | assumption) (by rfl) ?_
  refine x_iload_n d_PP_compound_20 rfl rfl ?_
  refine x_iald d_PP_compound_21 (Nat.le_of_ble_eq_true rfl) (Nat.le_of_ble_eq_true rfl) (by first | rfl | assumption) (vp_in_nI hr (by decide)) ?_
  refine x_topi (nI mm) (by rw [nI_clamp (by omega)]; exact a3) ?_
  refine x_if_ne 30 d_PP_compound_22 (by decide) (fun _ => ?_) (fun z => absurd z (g_mmz (by omega) a5))
  refine x_iload d_PP_compound_30 rfl ?_
  refine x_aload_n d_PP_compound_32 rfl rfl ?_
  refine x_get d_PP_compound_33 f_PP_92 (Nat.le_of_ble_eq_true rfl) (Nat.le_of_ble_eq_true rfl) (by first | rfl | assumption) (by rfl) ?_
  refine x_iload_n d_PP_compound_36 rfl rfl ?_
  refine x_iald d_PP_compound_37 (Nat.le_of_ble_eq_true rfl) (Nat.le_of_ble_eq_true rfl) (by first | rfl | assumption) (vp_in_nI hr (by decide)) ?_
  refine x_topi (nI mm) (by rw [nI_clamp (by omega)]; exact a3) ?_
  refine x_icmp_ne 52 d_PP_compound_38 (by decide) (fun _ => ?_) (fun z => absurd z (show ¬ nI i = nI mm from fun y => absurd ((g_nIne (by omega) (by omega)).mp y) (by omega)))
  refine x_aload_n d_PP_compound_52 rfl rfl ?_
  refine x_iload d_PP_compound_53 rfl ?_
  refine x_if_ne 63 d_PP_compound_55 (by decide) (fun _ => ?_) (fun z => absurd z (g_mmz hi0 (by omega)))
  refine x_bipush 44 d_PP_compound_63 (by decide) ?_
  refine x_callV1Y d_PP_compound_65 k_PP_33 (Nat.le_of_ble_eq_true rfl) (Nat.le_of_ble_eq_true rfl) (by first | rfl | assumption) (by rfl) w_PP_put (Nat.le_of_ble_eq_true rfl) (Nat.le_of_ble_eq_true rfl) (Nat.le_of_ble_eq_true rfl) (Nat.le_of_ble_eq_true rfl) (Nat.le_of_ble_eq_true rfl) rfl ?_
  refine x_aload_n d_PP_compound_68 rfl rfl ?_
  refine x_get d_PP_compound_69 f_PP_19 (Nat.le_of_ble_eq_true rfl) (Nat.le_of_ble_eq_true rfl) (by first | rfl | assumption) (by rfl) ?_
  refine x_iload d_PP_compound_72 rfl ?_
  refine x_iload d_PP_compound_74 rfl ?_
  refine x_iconst 1 d_PP_compound_76 (by decide) ?_
  refine x_iadd d_PP_compound_77 ?_
  refine x_topi (nI (i + 1)) (nI_succ _).symm ?_
  refine x_iast d_PP_compound_78 (Nat.le_of_ble_eq_true rfl) (Nat.le_of_ble_eq_true rfl) (by first | rfl | assumption) (vp_in_nI (show tp < 9000 by omega) (by decide)) ?_
  refine x_aload_n d_PP_compound_79 rfl rfl ?_
  refine x_get d_PP_compound_80 f_PP_15 (Nat.le_of_ble_eq_true rfl) (Nat.le_of_ble_eq_true rfl) (by first | rfl | assumption) (by rfl) ?_
  refine x_iload d_PP_compound_83 rfl ?_
  refine x_iconst 1 d_PP_compound_85 (by decide) ?_
  refine x_iadd d_PP_compound_86 ?_
  refine x_topi (nI (tp + 1)) (nI_succ _).symm ?_
  refine x_aload_n d_PP_compound_87 rfl rfl ?_
  refine x_iload_n d_PP_compound_88 rfl rfl ?_
  refine x_iload d_PP_compound_89 rfl ?_
  refine x_callV2Y d_PP_compound_91 k_PP_95 (Nat.le_of_ble_eq_true rfl) (Nat.le_of_ble_eq_true rfl) h24c (by rfl) (q_part (i := i) (f := f) hT2 hr hf (by omega)) (Nat.le_of_ble_eq_true rfl) (Nat.le_of_ble_eq_true rfl) (Nat.le_of_ble_eq_true rfl) (Nat.le_of_ble_eq_true rfl) (Nat.le_of_ble_eq_true rfl) rfl ?_
  refine x_iast d_PP_compound_94 (Nat.le_of_ble_eq_true rfl) (Nat.le_of_ble_eq_true rfl) (by first | rfl | assumption) (vp_in_nI htp (by decide)) ?_
  refine x_aload_n d_PP_compound_95 rfl rfl ?_
  refine x_get d_PP_compound_96 f_PP_19 (Nat.le_of_ble_eq_true rfl) (Nat.le_of_ble_eq_true rfl) (by first | rfl | assumption) (by rfl) ?_
  refine x_iload d_PP_compound_99 rfl ?_
  refine x_iconst 1 d_PP_compound_101 (by decide) ?_
  refine x_iadd d_PP_compound_102 ?_
  refine x_topi (nI (tp + 1)) (nI_succ _).symm ?_
  refine x_iconst 0 d_PP_compound_103 (by decide) ?_
  refine x_iast d_PP_compound_104 (Nat.le_of_ble_eq_true rfl) (Nat.le_of_ble_eq_true rfl) (by first | rfl | assumption) (vp_in_nI htp (by decide)) ?_
  refine x_iload d_PP_compound_105 rfl ?_
  refine x_iconst 1 d_PP_compound_107 (by decide) ?_
  refine x_iadd d_PP_compound_108 ?_
  refine x_topi (nI (tp + 1)) (nI_succ _).symm ?_
  exact x_ireturn d_PP_compound_109 rfl rfl ⟨rfl, rfl, x_pt rfl rfl rfl rfl rfl rfl rfl rfl rfl rfl rfl rfl rfl rfl rfl rfl rfl rfl rfl rfl rfl rfl rfl rfl rfl rfl rfl rfl rfl rfl rfl rfl rfl rfl rfl rfl rfl rfl rfl rfl rfl rfl rfl rfl rfl rfl (show (Sum.inl (0, 9000, Sum.inl (upd _ (nI (tp + 1)).toNatClampNeg _)) : xE) = Sum.inl (0, 9000, Sum.inl (upd Wk (tp + 1) (nI x))) by rw [nI_clamp (by omega), hx]) (show (Sum.inl (0, 9000, Sum.inl (upd (upd _ (nI tp).toNatClampNeg _) (nI (tp + 1)).toNatClampNeg _)) : xE) = Sum.inl (0, 9000, Sum.inl (upd (upd Nx tp (nI (i + 1))) (tp + 1) 0)) by rw [nI_clamp (by omega), nI_clamp (by omega)]) rfl rfl rfl rfl, rfl, rfl⟩
