theorem d_PR_print_0 : decode M_PR_print.2.1 0 = .ok (.aload_n 0, 1) := by decide +kernel
theorem d_PR_print_1 : decode M_PR_print.2.1 1 = .ok (.aload_n 2, 1) := by decide +kernel
theorem d_PR_print_2 : decode M_PR_print.2.1 2 = .ok (.putfield 18, 3) := by decide +kernel
theorem d_PR_print_5 : decode M_PR_print.2.1 5 = .ok (.aload_n 0, 1) := by decide +kernel
theorem d_PR_print_6 : decode M_PR_print.2.1 6 = .ok (.iconst 0, 1) := by decide +kernel
theorem d_PR_print_7 : decode M_PR_print.2.1 7 = .ok (.putfield 22, 3) := by decide +kernel
theorem d_PR_print_10 : decode M_PR_print.2.1 10 = .ok (.aload_n 0, 1) := by decide +kernel
theorem d_PR_print_11 : decode M_PR_print.2.1 11 = .ok (.iconst 0, 1) := by decide +kernel
theorem d_PR_print_12 : decode M_PR_print.2.1 12 = .ok (.putfield 26, 3) := by decide +kernel
theorem d_PR_print_15 : decode M_PR_print.2.1 15 = .ok (.aload_n 0, 1) := by decide +kernel
theorem d_PR_print_16 : decode M_PR_print.2.1 16 = .ok (.iconst 0, 1) := by decide +kernel
theorem d_PR_print_17 : decode M_PR_print.2.1 17 = .ok (.putfield 29, 3) := by decide +kernel
theorem d_PR_print_20 : decode M_PR_print.2.1 20 = .ok (.aload_n 0, 1) := by decide +kernel
theorem d_PR_print_21 : decode M_PR_print.2.1 21 = .ok (.aload_n 1, 1) := by decide +kernel
theorem d_PR_print_22 : decode M_PR_print.2.1 22 = .ok (.getfield 32, 3) := by decide +kernel
theorem d_PR_print_25 : decode M_PR_print.2.1 25 = .ok (.invokevirtual 37, 3) := by decide +kernel
theorem d_PR_print_28 : decode M_PR_print.2.1 28 = .ok (.iconst 0, 1) := by decide +kernel
theorem d_PR_print_29 : decode M_PR_print.2.1 29 = .ok (.istore_n 3, 1) := by decide +kernel
theorem d_PR_print_30 : decode M_PR_print.2.1 30 = .ok (.iload_n 3, 1) := by decide +kernel
theorem d_PR_print_31 : decode M_PR_print.2.1 31 = .ok (.sipush 4000, 3) := by decide +kernel
theorem d_PR_print_34 : decode M_PR_print.2.1 34 = .ok (.if_icmp .ge 61, 3) := by decide +kernel
theorem d_PR_print_37 : decode M_PR_print.2.1 37 = .ok (.aload_n 0, 1) := by decide +kernel
theorem d_PR_print_38 : decode M_PR_print.2.1 38 = .ok (.getfield 29, 3) := by decide +kernel
theorem d_PR_print_41 : decode M_PR_print.2.1 41 = .ok (.ifCond .le 54, 3) := by decide +kernel
theorem d_PR_print_44 : decode M_PR_print.2.1 44 = .ok (.aload_n 0, 1) := by decide +kernel
theorem d_PR_print_45 : decode M_PR_print.2.1 45 = .ok (.dup, 1) := by decide +kernel
theorem d_PR_print_46 : decode M_PR_print.2.1 46 = .ok (.getfield 29, 3) := by decide +kernel
theorem d_PR_print_49 : decode M_PR_print.2.1 49 = .ok (.iconst 1, 1) := by decide +kernel
theorem d_PR_print_50 : decode M_PR_print.2.1 50 = .ok (.isub, 1) := by decide +kernel
theorem d_PR_print_51 : decode M_PR_print.2.1 51 = .ok (.putfield 29, 3) := by decide +kernel
theorem d_PR_print_54 : decode M_PR_print.2.1 54 = .ok (.aload_n 0, 1) := by decide +kernel
theorem d_PR_print_55 : decode M_PR_print.2.1 55 = .ok (.getfield 15, 3) := by decide +kernel
theorem d_PR_print_58 : decode M_PR_print.2.1 58 = .ok (.aload_n 0, 1) := by decide +kernel
theorem d_PR_print_59 : decode M_PR_print.2.1 59 = .ok (.getfield 29, 3) := by decide +kernel
theorem d_PR_print_62 : decode M_PR_print.2.1 62 = .ok (.iaload, 1) := by decide +kernel
theorem d_PR_print_63 : decode M_PR_print.2.1 63 = .ok (.istore 4, 2) := by decide +kernel
theorem d_PR_print_65 : decode M_PR_print.2.1 65 = .ok (.iload 4, 2) := by decide +kernel
theorem d_PR_print_67 : decode M_PR_print.2.1 67 = .ok (.ifCond .lt 13, 3) := by decide +kernel
theorem d_PR_print_70 : decode M_PR_print.2.1 70 = .ok (.aload_n 0, 1) := by decide +kernel
theorem d_PR_print_71 : decode M_PR_print.2.1 71 = .ok (.aload_n 1, 1) := by decide +kernel
theorem d_PR_print_72 : decode M_PR_print.2.1 72 = .ok (.iload 4, 2) := by decide +kernel
theorem d_PR_print_74 : decode M_PR_print.2.1 74 = .ok (.invokevirtual 41, 3) := by decide +kernel
theorem d_PR_print_77 : decode M_PR_print.2.1 77 = .ok (.goto 12, 3) := by decide +kernel
theorem d_PR_print_80 : decode M_PR_print.2.1 80 = .ok (.aload_n 0, 1) := by decide +kernel
theorem d_PR_print_81 : decode M_PR_print.2.1 81 = .ok (.aload_n 1, 1) := by decide +kernel
theorem d_PR_print_82 : decode M_PR_print.2.1 82 = .ok (.iload 4, 2) := by decide +kernel
theorem d_PR_print_84 : decode M_PR_print.2.1 84 = .ok (.iconst (-1), 1) := by decide +kernel
theorem d_PR_print_85 : decode M_PR_print.2.1 85 = .ok (.ixor, 1) := by decide +kernel
theorem d_PR_print_86 : decode M_PR_print.2.1 86 = .ok (.invokevirtual 45, 3) := by decide +kernel
theorem d_PR_print_89 : decode M_PR_print.2.1 89 = .ok (.iinc 3 1, 3) := by decide +kernel
theorem d_PR_print_92 : decode M_PR_print.2.1 92 = .ok (.goto (-62), 3) := by decide +kernel
theorem d_PR_print_95 : decode M_PR_print.2.1 95 = .ok (.return_, 1) := by decide +kernel
theorem g_xm : ∀ y, y < 1001 → (nI y ^^^ -1 < 0 ∧ (nI y ^^^ -1) ^^^ -1 = nI y) := by decide +kernel
theorem z_push {E : xR} {h : xH} {ra wc ne : Nat} {S : List Int32} {Lv Wt P0 : Nat → Int32} {x : Int32} (hra : ra = 19 ∨ ra = 20) (hw : wc < 2000) : x_Mt E M_PR_push 0 0 0 [.ref 15, .int x] 52 (g_zw h ra wc S ne Lv Wt P0) (x_Y none 52 (g_zw h ra (wc + 1) S ne Lv (upd Wt wc x) P0)) := w_PR_push hra hw
set_option maxRecDepth 20000 in
theorem z_stepS {E : xR} {h : xH} {ra wc ne st y : Nat} {S : List Int32} {Lv Wt P0 : Nat → Int32} {Q : xK} {W1 : xH} (hra : ra = 19 ∨ ra = 20) (hst : st < 4000) (hwc : wc + 1 < 2000) (hW : Wt wc = nI y) (hy : y < 1001) (hM : x_Mt E M_PR_printSymbol 9 0 0 [.ref 15, .ref 5, .int (nI y)] 52 (g_zw h ra wc S ne Lv Wt P0) (x_Y none 52 W1)) (K : x_W E M_PR_print (x_room 10 0 0) Q 52 W1 30 [(0, .ref 15), (1, .ref 5), (3, .int (nI (st + 1)))] [] 0 0) : x_W E M_PR_print (x_room 10 0 0) Q 52 (g_zw h ra (wc + 1) S ne Lv Wt P0) 30 [(0, .ref 15), (1, .ref 5), (3, .int (nI st))] [] 0 0 := by
  rcases hra with rfl | rfl
  · refine x_iload_n d_PR_print_30 rfl rfl ?_
    refine x_sipush 4000 d_PR_print_31 (by decide) ?_
    refine x_icmp_ge 95 d_PR_print_34 (by decide) (fun z => absurd z (show ¬ nI 4000 ≤ nI st from nI_ge (by omega) (by decide))) (fun _ => ?_)
    refine x_aload_n d_PR_print_37 rfl rfl ?_
    refine x_get d_PR_print_38 f_PR_29 (Nat.le_of_ble_eq_true rfl) (Nat.le_of_ble_eq_true rfl) (by first | rfl | assumption) (by rfl) ?_
    refine x_if_le 95 d_PR_print_41 (by decide) (fun z => absurd z (show ¬ nI (wc + 1) ≤ nI 0 from nI_ge (by omega) (by omega))) (fun _ => ?_)
    refine x_aload_n d_PR_print_44 rfl rfl ?_
    refine x_dup d_PR_print_45 rfl ?_
    refine x_get d_PR_print_46 f_PR_29 (Nat.le_of_ble_eq_true rfl) (Nat.le_of_ble_eq_true rfl) (by first | rfl | assumption) (by rfl) ?_
    refine x_iconst 1 d_PR_print_49 (by decide) ?_
    refine x_isub d_PR_print_50 ?_
    refine x_topi (nI wc) (g_nIsub (a := wc + 1) (b := 1) (by omega)) ?_
    refine x_put d_PR_print_51 f_PR_29 (Nat.le_of_ble_eq_true rfl) (Nat.le_of_ble_eq_true rfl) (by first | rfl | assumption) (by rfl) (by rfl) (by exact (Nat.le_of_ble_eq_true rfl)) ?_
    refine x_same (h' := (g_zw h 19 wc S ne Lv Wt P0)) (x_pt rfl rfl rfl rfl rfl rfl rfl rfl rfl rfl rfl rfl rfl rfl rfl rfl rfl rfl rfl rfl rfl rfl rfl rfl rfl rfl rfl rfl rfl rfl rfl rfl rfl rfl rfl rfl rfl rfl rfl rfl rfl rfl rfl rfl rfl rfl rfl rfl rfl rfl rfl rfl) ?_
    refine x_aload_n d_PR_print_54 rfl rfl ?_
    refine x_get d_PR_print_55 f_PR_15 (Nat.le_of_ble_eq_true rfl) (Nat.le_of_ble_eq_true rfl) (by first | rfl | assumption) (by rfl) ?_
    refine x_aload_n d_PR_print_58 rfl rfl ?_
    refine x_get d_PR_print_59 f_PR_29 (Nat.le_of_ble_eq_true rfl) (Nat.le_of_ble_eq_true rfl) (by first | rfl | assumption) (by rfl) ?_
    refine x_iald d_PR_print_62 (Nat.le_of_ble_eq_true rfl) (Nat.le_of_ble_eq_true rfl) (by first | rfl | assumption) (vp_in_nI (show wc < 2000 by omega) (by decide)) ?_
    refine x_topi (nI y) (by rw [nI_clamp (by omega)]; exact hW) ?_
    refine x_istore d_PR_print_63 (Nat.le_of_ble_eq_true rfl) ?_
    refine x_iload d_PR_print_65 rfl ?_
    refine x_if_lt 80 d_PR_print_67 (by decide) (fun z => absurd z (nI_pos (by omega))) (fun _ => ?_)
    refine x_aload_n d_PR_print_70 rfl rfl ?_
    refine x_aload_n d_PR_print_71 rfl rfl ?_
    refine x_iload d_PR_print_72 rfl ?_
    refine x_callV2Y d_PR_print_74 k_PR_41 (Nat.le_of_ble_eq_true rfl) (Nat.le_of_ble_eq_true rfl) (by first | rfl | assumption) (by rfl) hM (Nat.le_of_ble_eq_true rfl) (Nat.le_of_ble_eq_true rfl) (Nat.le_of_ble_eq_true rfl) (Nat.le_of_ble_eq_true rfl) (Nat.le_of_ble_eq_true rfl) rfl ?_
    refine x_goto 89 d_PR_print_77 (by decide) ?_
    refine x_iinc d_PR_print_89 rfl 1 (by decide) (Nat.le_of_ble_eq_true rfl) ?_
    refine x_goto 30 d_PR_print_92 (by decide) ?_
    refine x_lv [(0, .ref 15), (1, .ref 5), (3, .int (nI (st + 1))), (4, .int (nI y))] (by rw [nI_succ st]; rfl) ?_
    refine x_wk [(0, .ref 15), (1, .ref 5), (3, .int (nI (st + 1)))] (by simp) ?_
    exact K
  · refine x_iload_n d_PR_print_30 rfl rfl ?_
    refine x_sipush 4000 d_PR_print_31 (by decide) ?_
    refine x_icmp_ge 95 d_PR_print_34 (by decide) (fun z => absurd z (show ¬ nI 4000 ≤ nI st from nI_ge (by omega) (by decide))) (fun _ => ?_)
    refine x_aload_n d_PR_print_37 rfl rfl ?_
    refine x_get d_PR_print_38 f_PR_29 (Nat.le_of_ble_eq_true rfl) (Nat.le_of_ble_eq_true rfl) (by first | rfl | assumption) (by rfl) ?_
    refine x_if_le 95 d_PR_print_41 (by decide) (fun z => absurd z (show ¬ nI (wc + 1) ≤ nI 0 from nI_ge (by omega) (by omega))) (fun _ => ?_)
    refine x_aload_n d_PR_print_44 rfl rfl ?_
    refine x_dup d_PR_print_45 rfl ?_
    refine x_get d_PR_print_46 f_PR_29 (Nat.le_of_ble_eq_true rfl) (Nat.le_of_ble_eq_true rfl) (by first | rfl | assumption) (by rfl) ?_
    refine x_iconst 1 d_PR_print_49 (by decide) ?_
    refine x_isub d_PR_print_50 ?_
    refine x_topi (nI wc) (g_nIsub (a := wc + 1) (b := 1) (by omega)) ?_
    refine x_put d_PR_print_51 f_PR_29 (Nat.le_of_ble_eq_true rfl) (Nat.le_of_ble_eq_true rfl) (by first | rfl | assumption) (by rfl) (by rfl) (by exact (Nat.le_of_ble_eq_true rfl)) ?_
    refine x_same (h' := (g_zw h 20 wc S ne Lv Wt P0)) (x_pt rfl rfl rfl rfl rfl rfl rfl rfl rfl rfl rfl rfl rfl rfl rfl rfl rfl rfl rfl rfl rfl rfl rfl rfl rfl rfl rfl rfl rfl rfl rfl rfl rfl rfl rfl rfl rfl rfl rfl rfl rfl rfl rfl rfl rfl rfl rfl rfl rfl rfl rfl rfl) ?_
    refine x_aload_n d_PR_print_54 rfl rfl ?_
    refine x_get d_PR_print_55 f_PR_15 (Nat.le_of_ble_eq_true rfl) (Nat.le_of_ble_eq_true rfl) (by first | rfl | assumption) (by rfl) ?_
    refine x_aload_n d_PR_print_58 rfl rfl ?_
    refine x_get d_PR_print_59 f_PR_29 (Nat.le_of_ble_eq_true rfl) (Nat.le_of_ble_eq_true rfl) (by first | rfl | assumption) (by rfl) ?_
    refine x_iald d_PR_print_62 (Nat.le_of_ble_eq_true rfl) (Nat.le_of_ble_eq_true rfl) (by first | rfl | assumption) (vp_in_nI (show wc < 2000 by omega) (by decide)) ?_
    refine x_topi (nI y) (by rw [nI_clamp (by omega)]; exact hW) ?_
    refine x_istore d_PR_print_63 (Nat.le_of_ble_eq_true rfl) ?_
    refine x_iload d_PR_print_65 rfl ?_
    refine x_if_lt 80 d_PR_print_67 (by decide) (fun z => absurd z (nI_pos (by omega))) (fun _ => ?_)
    refine x_aload_n d_PR_print_70 rfl rfl ?_
    refine x_aload_n d_PR_print_71 rfl rfl ?_
    refine x_iload d_PR_print_72 rfl ?_
    refine x_callV2Y d_PR_print_74 k_PR_41 (Nat.le_of_ble_eq_true rfl) (Nat.le_of_ble_eq_true rfl) (by first | rfl | assumption) (by rfl) hM (Nat.le_of_ble_eq_true rfl) (Nat.le_of_ble_eq_true rfl) (Nat.le_of_ble_eq_true rfl) (Nat.le_of_ble_eq_true rfl) (Nat.le_of_ble_eq_true rfl) rfl ?_
    refine x_goto 89 d_PR_print_77 (by decide) ?_
    refine x_iinc d_PR_print_89 rfl 1 (by decide) (Nat.le_of_ble_eq_true rfl) ?_
    refine x_goto 30 d_PR_print_92 (by decide) ?_
    refine x_lv [(0, .ref 15), (1, .ref 5), (3, .int (nI (st + 1))), (4, .int (nI y))] (by rw [nI_succ st]; rfl) ?_
    refine x_wk [(0, .ref 15), (1, .ref 5), (3, .int (nI (st + 1)))] (by simp) ?_
    exact K
set_option maxRecDepth 20000 in
theorem z_stepB {E : xR} {h : xH} {ra wc ne st y : Nat} {S : List Int32} {Lv Wt P0 : Nat → Int32} {Q : xK} {W1 : xH} (hra : ra = 19 ∨ ra = 20) (hst : st < 4000) (hwc : wc + 1 < 2000) (hW : Wt wc = nI y ^^^ -1) (hy : y < 1001) (hM : x_Mt E M_PR_printBehind 3 0 0 [.ref 15, .ref 5, .int (nI y)] 52 (g_zw h ra wc S ne Lv Wt P0) (x_Y none 52 W1)) (K : x_W E M_PR_print (x_room 10 0 0) Q 52 W1 30 [(0, .ref 15), (1, .ref 5), (3, .int (nI (st + 1)))] [] 0 0) : x_W E M_PR_print (x_room 10 0 0) Q 52 (g_zw h ra (wc + 1) S ne Lv Wt P0) 30 [(0, .ref 15), (1, .ref 5), (3, .int (nI st))] [] 0 0 := by
  rcases hra with rfl | rfl
  · refine x_iload_n d_PR_print_30 rfl rfl ?_
    refine x_sipush 4000 d_PR_print_31 (by decide) ?_
    refine x_icmp_ge 95 d_PR_print_34 (by decide) (fun z => absurd z (show ¬ nI 4000 ≤ nI st from nI_ge (by omega) (by decide))) (fun _ => ?_)
    refine x_aload_n d_PR_print_37 rfl rfl ?_
    refine x_get d_PR_print_38 f_PR_29 (Nat.le_of_ble_eq_true rfl) (Nat.le_of_ble_eq_true rfl) (by first | rfl | assumption) (by rfl) ?_
    refine x_if_le 95 d_PR_print_41 (by decide) (fun z => absurd z (show ¬ nI (wc + 1) ≤ nI 0 from nI_ge (by omega) (by omega))) (fun _ => ?_)
    refine x_aload_n d_PR_print_44 rfl rfl ?_
    refine x_dup d_PR_print_45 rfl ?_
    refine x_get d_PR_print_46 f_PR_29 (Nat.le_of_ble_eq_true rfl) (Nat.le_of_ble_eq_true rfl) (by first | rfl | assumption) (by rfl) ?_
    refine x_iconst 1 d_PR_print_49 (by decide) ?_
    refine x_isub d_PR_print_50 ?_
    refine x_topi (nI wc) (g_nIsub (a := wc + 1) (b := 1) (by omega)) ?_
    refine x_put d_PR_print_51 f_PR_29 (Nat.le_of_ble_eq_true rfl) (Nat.le_of_ble_eq_true rfl) (by first | rfl | assumption) (by rfl) (by rfl) (by exact (Nat.le_of_ble_eq_true rfl)) ?_
    refine x_same (h' := (g_zw h 19 wc S ne Lv Wt P0)) (x_pt rfl rfl rfl rfl rfl rfl rfl rfl rfl rfl rfl rfl rfl rfl rfl rfl rfl rfl rfl rfl rfl rfl rfl rfl rfl rfl rfl rfl rfl rfl rfl rfl rfl rfl rfl rfl rfl rfl rfl rfl rfl rfl rfl rfl rfl rfl rfl rfl rfl rfl rfl rfl) ?_
    refine x_aload_n d_PR_print_54 rfl rfl ?_
    refine x_get d_PR_print_55 f_PR_15 (Nat.le_of_ble_eq_true rfl) (Nat.le_of_ble_eq_true rfl) (by first | rfl | assumption) (by rfl) ?_
    refine x_aload_n d_PR_print_58 rfl rfl ?_
    refine x_get d_PR_print_59 f_PR_29 (Nat.le_of_ble_eq_true rfl) (Nat.le_of_ble_eq_true rfl) (by first | rfl | assumption) (by rfl) ?_
    refine x_iald d_PR_print_62 (Nat.le_of_ble_eq_true rfl) (Nat.le_of_ble_eq_true rfl) (by first | rfl | assumption) (vp_in_nI (show wc < 2000 by omega) (by decide)) ?_
    refine x_topi (nI y ^^^ -1) (by rw [nI_clamp (by omega)]; exact hW) ?_
    refine x_istore d_PR_print_63 (Nat.le_of_ble_eq_true rfl) ?_
    refine x_iload d_PR_print_65 rfl ?_
    refine x_if_lt 80 d_PR_print_67 (by decide) (fun _ => ?_) (fun z => absurd (g_xm y hy).1 z)
    refine x_aload_n d_PR_print_80 rfl rfl ?_
    refine x_aload_n d_PR_print_81 rfl rfl ?_
    refine x_iload d_PR_print_82 rfl ?_
    refine x_iconst (-1) d_PR_print_84 (by decide) ?_
    refine x_ixor d_PR_print_85 ?_
    refine x_topi (nI y) (g_xm y hy).2 ?_
    refine x_callV2Y d_PR_print_86 k_PR_45 (Nat.le_of_ble_eq_true rfl) (Nat.le_of_ble_eq_true rfl) (by first | rfl | assumption) (by rfl) hM (Nat.le_of_ble_eq_true rfl) (Nat.le_of_ble_eq_true rfl) (Nat.le_of_ble_eq_true rfl) (Nat.le_of_ble_eq_true rfl) (Nat.le_of_ble_eq_true rfl) rfl ?_
    refine x_iinc d_PR_print_89 rfl 1 (by decide) (Nat.le_of_ble_eq_true rfl) ?_
    refine x_goto 30 d_PR_print_92 (by decide) ?_
    refine x_lv [(0, .ref 15), (1, .ref 5), (3, .int (nI (st + 1))), (4, .int (nI y ^^^ -1))] (by rw [nI_succ st]; rfl) ?_
    refine x_wk [(0, .ref 15), (1, .ref 5), (3, .int (nI (st + 1)))] (by simp) ?_
    exact K
  · refine x_iload_n d_PR_print_30 rfl rfl ?_
    refine x_sipush 4000 d_PR_print_31 (by decide) ?_
    refine x_icmp_ge 95 d_PR_print_34 (by decide) (fun z => absurd z (show ¬ nI 4000 ≤ nI st from nI_ge (by omega) (by decide))) (fun _ => ?_)
    refine x_aload_n d_PR_print_37 rfl rfl ?_
    refine x_get d_PR_print_38 f_PR_29 (Nat.le_of_ble_eq_true rfl) (Nat.le_of_ble_eq_true rfl) (by first | rfl | assumption) (by rfl) ?_
    refine x_if_le 95 d_PR_print_41 (by decide) (fun z => absurd z (show ¬ nI (wc + 1) ≤ nI 0 from nI_ge (by omega) (by omega))) (fun _ => ?_)
    refine x_aload_n d_PR_print_44 rfl rfl ?_
    refine x_dup d_PR_print_45 rfl ?_
    refine x_get d_PR_print_46 f_PR_29 (Nat.le_of_ble_eq_true rfl) (Nat.le_of_ble_eq_true rfl) (by first | rfl | assumption) (by rfl) ?_
    refine x_iconst 1 d_PR_print_49 (by decide) ?_
    refine x_isub d_PR_print_50 ?_
    refine x_topi (nI wc) (g_nIsub (a := wc + 1) (b := 1) (by omega)) ?_
    refine x_put d_PR_print_51 f_PR_29 (Nat.le_of_ble_eq_true rfl) (Nat.le_of_ble_eq_true rfl) (by first | rfl | assumption) (by rfl) (by rfl) (by exact (Nat.le_of_ble_eq_true rfl)) ?_
    refine x_same (h' := (g_zw h 20 wc S ne Lv Wt P0)) (x_pt rfl rfl rfl rfl rfl rfl rfl rfl rfl rfl rfl rfl rfl rfl rfl rfl rfl rfl rfl rfl rfl rfl rfl rfl rfl rfl rfl rfl rfl rfl rfl rfl rfl rfl rfl rfl rfl rfl rfl rfl rfl rfl rfl rfl rfl rfl rfl rfl rfl rfl rfl rfl) ?_
    refine x_aload_n d_PR_print_54 rfl rfl ?_
    refine x_get d_PR_print_55 f_PR_15 (Nat.le_of_ble_eq_true rfl) (Nat.le_of_ble_eq_true rfl) (by first | rfl | assumption) (by rfl) ?_
    refine x_aload_n d_PR_print_58 rfl rfl ?_
    refine x_get d_PR_print_59 f_PR_29 (Nat.le_of_ble_eq_true rfl) (Nat.le_of_ble_eq_true rfl) (by first | rfl | assumption) (by rfl) ?_
    refine x_iald d_PR_print_62 (Nat.le_of_ble_eq_true rfl) (Nat.le_of_ble_eq_true rfl) (by first | rfl | assumption) (vp_in_nI (show wc < 2000 by omega) (by decide)) ?_
    refine x_topi (nI y ^^^ -1) (by rw [nI_clamp (by omega)]; exact hW) ?_
    refine x_istore d_PR_print_63 (Nat.le_of_ble_eq_true rfl) ?_
    refine x_iload d_PR_print_65 rfl ?_
    refine x_if_lt 80 d_PR_print_67 (by decide) (fun _ => ?_) (fun z => absurd (g_xm y hy).1 z)
    refine x_aload_n d_PR_print_80 rfl rfl ?_
    refine x_aload_n d_PR_print_81 rfl rfl ?_
    refine x_iload d_PR_print_82 rfl ?_
    refine x_iconst (-1) d_PR_print_84 (by decide) ?_
    refine x_ixor d_PR_print_85 ?_
    refine x_topi (nI y) (g_xm y hy).2 ?_
    refine x_callV2Y d_PR_print_86 k_PR_45 (Nat.le_of_ble_eq_true rfl) (Nat.le_of_ble_eq_true rfl) (by first | rfl | assumption) (by rfl) hM (Nat.le_of_ble_eq_true rfl) (Nat.le_of_ble_eq_true rfl) (Nat.le_of_ble_eq_true rfl) (Nat.le_of_ble_eq_true rfl) (Nat.le_of_ble_eq_true rfl) rfl ?_
    refine x_iinc d_PR_print_89 rfl 1 (by decide) (Nat.le_of_ble_eq_true rfl) ?_
    refine x_goto 30 d_PR_print_92 (by decide) ?_
    refine x_lv [(0, .ref 15), (1, .ref 5), (3, .int (nI (st + 1))), (4, .int (nI y ^^^ -1))] (by rw [nI_succ st]; rfl) ?_
    refine x_wk [(0, .ref 15), (1, .ref 5), (3, .int (nI (st + 1)))] (by simp) ?_
    exact K
set_option maxRecDepth 20000 in
theorem z_stepX {E : xR} {h : xH} {ra ne st : Nat} {S : List Int32} {Lv Wt P0 : Nat → Int32} {Q : xK} (hra : ra = 19 ∨ ra = 20) (hst : st < 4000) (hQ : Q (.inl none) 52 (g_zw h ra 0 S ne Lv Wt P0) 0 0) : x_W E M_PR_print (x_room 10 0 0) Q 52 (g_zw h ra 0 S ne Lv Wt P0) 30 [(0, .ref 15), (1, .ref 5), (3, .int (nI st))] [] 0 0 := by
  rcases hra with rfl | rfl
  · refine x_iload_n d_PR_print_30 rfl rfl ?_
    refine x_sipush 4000 d_PR_print_31 (by decide) ?_
    refine x_icmp_ge 95 d_PR_print_34 (by decide) (fun z => absurd z (show ¬ nI 4000 ≤ nI st from nI_ge (by omega) (by decide))) (fun _ => ?_)
    refine x_aload_n d_PR_print_37 rfl rfl ?_
    refine x_get d_PR_print_38 f_PR_29 (Nat.le_of_ble_eq_true rfl) (Nat.le_of_ble_eq_true rfl) (by first | rfl | assumption) (by rfl) ?_
    refine x_if_le 95 d_PR_print_41 (by decide) (fun _ => ?_) (fun z => absurd (show nI 0 ≤ 0 by decide) z)
    exact x_return d_PR_print_95 rfl hQ
  · refine x_iload_n d_PR_print_30 rfl rfl ?_
    refine x_sipush 4000 d_PR_print_31 (by decide) ?_
    refine x_icmp_ge 95 d_PR_print_34 (by decide) (fun z => absurd z (show ¬ nI 4000 ≤ nI st from nI_ge (by omega) (by decide))) (fun _ => ?_)
    refine x_aload_n d_PR_print_37 rfl rfl ?_
    refine x_get d_PR_print_38 f_PR_29 (Nat.le_of_ble_eq_true rfl) (Nat.le_of_ble_eq_true rfl) (by first | rfl | assumption) (by rfl) ?_
    refine x_if_le 95 d_PR_print_41 (by decide) (fun _ => ?_) (fun z => absurd (show nI 0 ≤ 0 by decide) z)
    exact x_return d_PR_print_95 rfl hQ
/-- what printing leaves -/
def g_PQ (h : xH) (ra : Nat) (S : List Int32) (ne : Nat) (P0 : Nat → Int32) : xK := fun o n' h' k j => o = .inl none ∧ n' = 52 ∧ k = 0 ∧ j = 0 ∧ ∃ Lv Wt : Nat → Int32, ∀ i, i < 52 → h' i = g_zw h ra 0 S ne Lv Wt P0 i
def g_Lp (E : xR) (h : xH) (ra : Nat) (P0 : Nat → Int32) (Q : xK) : g_LpT := fun st wc S ne Lv Wt => x_W E M_PR_print (x_room 10 0 0) Q 52 (g_zw h ra wc S ne Lv Wt P0) 30 [(0, .ref 15), (1, .ref 5), (3, .int (nI st))] [] 0 0
theorem z_R1 {E : xR} {h : xH} {u : Nat → Nat} {N ra jn : Nat} {P0 : Nat → Int32} {A : Nat → Nat → Int32} {sy va : Value} {Q : xK} (hra : ra = 19 ∨ ra = 20) (t5 : h 5 = .inr (3, [.ref 6, .ref 7, .ref 8, .ref 9, .ref 10, .ref 11, .ref 12, .ref 13, .ref 1, sy, va, .int (nI jn)])) (a0 : h 6 = .inl (0, 1001, .inl (A 0))) (a1 : h 7 = .inl (0, 1001, .inl (A 1))) (a2 : h 8 = .inl (0, 1001, .inl (A 2))) (a3 : h 9 = .inl (0, 1001, .inl (A 3))) (a4 : h 10 = .inl (0, 1001, .inl (A 4))) (a5 : h 11 = .inl (0, 1001, .inl (A 5))) (a6 : h 12 = .inl (0, 1001, .inl (A 6))) (h1 : h 1 = .inl (1, 4096, .inl (fun i => g_sb (u i)))) (hu : ∀ i, u i < 256) (hN : N ≤ 4096) : g_R1 A (g_Lp E h ra P0 Q) := by
  intro st wc S ne Lv Wt y lo z h0 h2 h3 h4 hy hW ho hlo hk hc hz K
  exact z_stepS hra h0 h2 hW hy (z_symP hra t5 a0 a3 a4 hy ho hlo h4 h3 hk hc hz h2) K
theorem z_R2 {E : xR} {h : xH} {u : Nat → Nat} {N ra jn : Nat} {P0 : Nat → Int32} {A : Nat → Nat → Int32} {sy va : Value} {Q : xK} (hra : ra = 19 ∨ ra = 20) (t5 : h 5 = .inr (3, [.ref 6, .ref 7, .ref 8, .ref 9, .ref 10, .ref 11, .ref 12, .ref 13, .ref 1, sy, va, .int (nI jn)])) (a0 : h 6 = .inl (0, 1001, .inl (A 0))) (a1 : h 7 = .inl (0, 1001, .inl (A 1))) (a2 : h 8 = .inl (0, 1001, .inl (A 2))) (a3 : h 9 = .inl (0, 1001, .inl (A 3))) (a4 : h 10 = .inl (0, 1001, .inl (A 4))) (a5 : h 11 = .inl (0, 1001, .inl (A 5))) (a6 : h 12 = .inl (0, 1001, .inl (A 6))) (h1 : h 1 = .inl (1, 4096, .inl (fun i => g_sb (u i)))) (hu : ∀ i, u i < 256) (hN : N ≤ 4096) : g_R2 u A (g_Lp E h ra P0 Q) := by
  intro st wc S ne Lv Wt y lo f t h0 h2 h3 h4 hy hW ho hlo hk hf ht hft ht4 hc K
  exact z_stepS hra h0 h2 hW hy (z_symA hra t5 a0 a1 a2 a3 a4 h1 hu hy ho hlo h4 h3 hf ht hft ht4 hk hc) K
theorem z_R3 {E : xR} {h : xH} {u : Nat → Nat} {N ra jn : Nat} {P0 : Nat → Int32} {A : Nat → Nat → Int32} {sy va : Value} {Q : xK} (hra : ra = 19 ∨ ra = 20) (t5 : h 5 = .inr (3, [.ref 6, .ref 7, .ref 8, .ref 9, .ref 10, .ref 11, .ref 12, .ref 13, .ref 1, sy, va, .int (nI jn)])) (a0 : h 6 = .inl (0, 1001, .inl (A 0))) (a1 : h 7 = .inl (0, 1001, .inl (A 1))) (a2 : h 8 = .inl (0, 1001, .inl (A 2))) (a3 : h 9 = .inl (0, 1001, .inl (A 3))) (a4 : h 10 = .inl (0, 1001, .inl (A 4))) (a5 : h 11 = .inl (0, 1001, .inl (A 5))) (a6 : h 12 = .inl (0, 1001, .inl (A 6))) (h1 : h 1 = .inl (1, 4096, .inl (fun i => g_sb (u i)))) (hu : ∀ i, u i < 256) (hN : N ≤ 4096) : g_R3 u A (g_Lp E h ra P0 Q) := by
  intro st wc S ne Lv Wt y lo f t z h0 h2 h3 h4 hy hW ho hlo hk hf ht hft ht4 hc hz K
  exact z_stepS hra h0 h2 hW hy (z_symC hra t5 a0 a1 a2 a3 a4 h1 hu hy ho hlo h4 h3 hf ht hft ht4 hk hc hz h2) K
theorem z_R4 {E : xR} {h : xH} {u : Nat → Nat} {N ra jn : Nat} {P0 : Nat → Int32} {A : Nat → Nat → Int32} {sy va : Value} {Q : xK} (hra : ra = 19 ∨ ra = 20) (t5 : h 5 = .inr (3, [.ref 6, .ref 7, .ref 8, .ref 9, .ref 10, .ref 11, .ref 12, .ref 13, .ref 1, sy, va, .int (nI jn)])) (a0 : h 6 = .inl (0, 1001, .inl (A 0))) (a1 : h 7 = .inl (0, 1001, .inl (A 1))) (a2 : h 8 = .inl (0, 1001, .inl (A 2))) (a3 : h 9 = .inl (0, 1001, .inl (A 3))) (a4 : h 10 = .inl (0, 1001, .inl (A 4))) (a5 : h 11 = .inl (0, 1001, .inl (A 5))) (a6 : h 12 = .inl (0, 1001, .inl (A 6))) (h1 : h 1 = .inl (1, 4096, .inl (fun i => g_sb (u i)))) (hu : ∀ i, u i < 256) (hN : N ≤ 4096) : g_R4 u N A (g_Lp E h ra P0 Q) := by
  intro st wc S ne Lv Wt y lo L kids h0 h2 h3 h4 hy hW ho hlo hr hl hv k3 k4 hc K
  exact z_stepS hra h0 h2 hW hy (z_symL hra t5 a0 a1 a2 a3 a4 a6 h1 hy ho hlo h4 h3 hr hl hN hv k3 k4 hc) K
theorem z_R5 {E : xR} {h : xH} {u : Nat → Nat} {N ra jn : Nat} {P0 : Nat → Int32} {A : Nat → Nat → Int32} {sy va : Value} {Q : xK} (hra : ra = 19 ∨ ra = 20) (t5 : h 5 = .inr (3, [.ref 6, .ref 7, .ref 8, .ref 9, .ref 10, .ref 11, .ref 12, .ref 13, .ref 1, sy, va, .int (nI jn)])) (a0 : h 6 = .inl (0, 1001, .inl (A 0))) (a1 : h 7 = .inl (0, 1001, .inl (A 1))) (a2 : h 8 = .inl (0, 1001, .inl (A 2))) (a3 : h 9 = .inl (0, 1001, .inl (A 3))) (a4 : h 10 = .inl (0, 1001, .inl (A 4))) (a5 : h 11 = .inl (0, 1001, .inl (A 5))) (a6 : h 12 = .inl (0, 1001, .inl (A 6))) (h1 : h 1 = .inl (1, 4096, .inl (fun i => g_sb (u i)))) (hu : ∀ i, u i < 256) (hN : N ≤ 4096) : g_R5 A (g_Lp E h ra P0 Q) := by
  intro st wc S ne Lv Wt y o k h0 h2 h3 hy hW ho ho3 hk hk8 hc K
  by_cases h4 : k = 4
  · rw [if_pos h4] at K
    exact z_stepB hra h0 h2 hW hy (z_behE1 hra t5 a0 a3 a5 hy ho ho3 hk hk8 h3 hc h4) K
  · rw [if_neg h4] at K
    exact z_stepB hra h0 h2 hW hy (z_behE0 hra t5 a0 a3 a5 hy ho ho3 hk hk8 h3 hc h4) K
theorem z_R6 {E : xR} {h : xH} {u : Nat → Nat} {N ra jn : Nat} {P0 : Nat → Int32} {A : Nat → Nat → Int32} {sy va : Value} {Q : xK} (hra : ra = 19 ∨ ra = 20) (t5 : h 5 = .inr (3, [.ref 6, .ref 7, .ref 8, .ref 9, .ref 10, .ref 11, .ref 12, .ref 13, .ref 1, sy, va, .int (nI jn)])) (a0 : h 6 = .inl (0, 1001, .inl (A 0))) (a1 : h 7 = .inl (0, 1001, .inl (A 1))) (a2 : h 8 = .inl (0, 1001, .inl (A 2))) (a3 : h 9 = .inl (0, 1001, .inl (A 3))) (a4 : h 10 = .inl (0, 1001, .inl (A 4))) (a5 : h 11 = .inl (0, 1001, .inl (A 5))) (a6 : h 12 = .inl (0, 1001, .inl (A 6))) (h1 : h 1 = .inl (1, 4096, .inl (fun i => g_sb (u i)))) (hu : ∀ i, u i < 256) (hN : N ≤ 4096) : g_R6 A (g_Lp E h ra P0 Q) := by
  intro st wc S ne Lv Wt y o k z h0 h2 h3 hy hW ho ho3 hk hk8 h4 hc hz K
  exact z_stepB hra h0 h2 hW hy (z_behA hra t5 a0 a3 a5 hy ho ho3 hk hk8 h3 hc hz h4 h2) K
theorem z_R7 {E : xR} {h : xH} {u : Nat → Nat} {N ra jn : Nat} {P0 : Nat → Int32} {A : Nat → Nat → Int32} {sy va : Value} {Q : xK} (hra : ra = 19 ∨ ra = 20) (t5 : h 5 = .inr (3, [.ref 6, .ref 7, .ref 8, .ref 9, .ref 10, .ref 11, .ref 12, .ref 13, .ref 1, sy, va, .int (nI jn)])) (a0 : h 6 = .inl (0, 1001, .inl (A 0))) (a1 : h 7 = .inl (0, 1001, .inl (A 1))) (a2 : h 8 = .inl (0, 1001, .inl (A 2))) (a3 : h 9 = .inl (0, 1001, .inl (A 3))) (a4 : h 10 = .inl (0, 1001, .inl (A 4))) (a5 : h 11 = .inl (0, 1001, .inl (A 5))) (a6 : h 12 = .inl (0, 1001, .inl (A 6))) (h1 : h 1 = .inl (1, 4096, .inl (fun i => g_sb (u i)))) (hu : ∀ i, u i < 256) (hN : N ≤ 4096) : g_R7 A (g_Lp E h ra P0 Q) := by
  intro st wc S ne Lv Wt y o z h0 h2 h3 hy hW ho ho3 hk hc hz hkz K
  exact z_stepB hra h0 h2 hW hy (z_behT (k := 4) hra t5 a0 a3 a5 hy ho ho3 hk (by decide) h3 hc hz rfl (z_tail5 hra t5 a0 hz hkz h3)) K
theorem z_R8 {E : xR} {h : xH} {u : Nat → Nat} {N ra jn : Nat} {P0 : Nat → Int32} {A : Nat → Nat → Int32} {sy va : Value} {Q : xK} (hra : ra = 19 ∨ ra = 20) (t5 : h 5 = .inr (3, [.ref 6, .ref 7, .ref 8, .ref 9, .ref 10, .ref 11, .ref 12, .ref 13, .ref 1, sy, va, .int (nI jn)])) (a0 : h 6 = .inl (0, 1001, .inl (A 0))) (a1 : h 7 = .inl (0, 1001, .inl (A 1))) (a2 : h 8 = .inl (0, 1001, .inl (A 2))) (a3 : h 9 = .inl (0, 1001, .inl (A 3))) (a4 : h 10 = .inl (0, 1001, .inl (A 4))) (a5 : h 11 = .inl (0, 1001, .inl (A 5))) (a6 : h 12 = .inl (0, 1001, .inl (A 6))) (h1 : h 1 = .inl (1, 4096, .inl (fun i => g_sb (u i)))) (hu : ∀ i, u i < 256) (hN : N ≤ 4096) : g_R8 A (g_Lp E h ra P0 Q) := by
  intro st wc S ne Lv Wt y o z z2 lo h0 h2 h3 h4 hy hW ho ho3 hk hc hz hkz hO hlo hc2 hz2 K
  exact z_stepB hra h0 h2 hW hy (z_behT (k := 4) hra t5 a0 a3 a5 hy ho ho3 hk (by decide) h3 hc hz rfl (z_tail4 hra t5 a0 a3 a4 hz hO hlo h4 h3 hkz hc2 hz2 h2)) K
theorem z_R9 {E : xR} {h : xH} {u : Nat → Nat} {N ra jn : Nat} {P0 : Nat → Int32} {A : Nat → Nat → Int32} {sy va : Value} {Q : xK} (hra : ra = 19 ∨ ra = 20) (t5 : h 5 = .inr (3, [.ref 6, .ref 7, .ref 8, .ref 9, .ref 10, .ref 11, .ref 12, .ref 13, .ref 1, sy, va, .int (nI jn)])) (a0 : h 6 = .inl (0, 1001, .inl (A 0))) (a1 : h 7 = .inl (0, 1001, .inl (A 1))) (a2 : h 8 = .inl (0, 1001, .inl (A 2))) (a3 : h 9 = .inl (0, 1001, .inl (A 3))) (a4 : h 10 = .inl (0, 1001, .inl (A 4))) (a5 : h 11 = .inl (0, 1001, .inl (A 5))) (a6 : h 12 = .inl (0, 1001, .inl (A 6))) (h1 : h 1 = .inl (1, 4096, .inl (fun i => g_sb (u i)))) (hu : ∀ i, u i < 256) (hN : N ≤ 4096) : g_R9 A (g_Lp E h ra P0 Q) := by
  intro st wc S ne Lv Wt y o z k h0 h2 h3 hy hW ho ho3 hk hc hz hkz hk8 k5 k4 K
  exact z_stepB hra h0 h2 hW hy (z_behT (k := 4) hra t5 a0 a3 a5 hy ho ho3 hk (by decide) h3 hc hz rfl (z_tailX hra t5 a0 hz hkz hk8 k5 k4 h2 h3)) K
set_option maxRecDepth 20000 in
theorem w_PR_print {E : xR} {h : xH} {u : Nat → Nat} {N ra jn s nv : Nat} {P0 Lv Wt : Nat → Int32} {A : Nat → Nat → Int32} {sy va w2 w3 w4 w5 : Value} {t : Nat × Std.Format} (hra : ra = 19 ∨ ra = 20) (t5 : h 5 = .inr (3, [.ref 6, .ref 7, .ref 8, .ref 9, .ref 10, .ref 11, .ref 12, .ref 13, .ref 1, sy, va, .int (nI jn)])) (a0 : h 6 = .inl (0, 1001, .inl (A 0))) (a1 : h 7 = .inl (0, 1001, .inl (A 1))) (a2 : h 8 = .inl (0, 1001, .inl (A 2))) (a3 : h 9 = .inl (0, 1001, .inl (A 3))) (a4 : h 10 = .inl (0, 1001, .inl (A 4))) (a5 : h 11 = .inl (0, 1001, .inl (A 5))) (a6 : h 12 = .inl (0, 1001, .inl (A 6))) (h1 : h 1 = .inl (1, 4096, .inl (fun i => g_sb (u i)))) (hu : ∀ i, u i < 256) (hN : N ≤ 4096) (h15 : h 15 = .inr (4, [.ref 16, .ref 17, w2, w3, w4, w5])) (h16 : h 16 = .inl (0, 1001, .inl Lv)) (h17 : h 17 = .inl (0, 2000, .inl Wt)) (hpa : h ra = .inl (1, 4096, .inl P0)) (hs : s ≤ 1000) (hjs : jn < s) (hj3 : A 3 jn = -1) (hT : g_cT A (fun n => n < s ∧ n ≠ jn) t jn) (hQd : g_Q u N (g_nd t g_nil) 0 nv s) : x_Mt E M_PR_print 10 0 0 [.ref 15, .ref 5, .ref ra] 52 h (g_PQ h ra (g_pt u t) (g_dt t) P0) := by
  have hra0 := hra
  obtain ⟨⟨hl, hw, -⟩, ⟨n1, n2, hv0, hv1, hv2⟩, hsz⟩ := hQd
  have hsz : 1 + g_sz t.2 + 0 = s := hsz
  have hv2 : nv = n2 := hv2
  have hjn : jn < 1001 := by omega
  have hnv := g_vo_le t.2 hw _ _ hv1
  have hn1 : n1 ≤ 1 := by
    by_cases q : t.1 % 8 = 0
    · have := hv0.1 q; omega
    · have := hv0.2 q; omega
  have hdt : max 0 (0 + (if g_sz t.2 = 0 then 0 else 1 + g_dp t.2)) = g_dt t := by unfold g_dt; omega
  have hSL := g_SL (z := g_sz t.2) (k0 := g_P u t.2 0) (k1 := g_P u t.2 1) hN hl
  have hP0 := g_PL hN t.2 hw 0
  have hP1 := g_PL hN t.2 hw 1
  have hrun : ∀ (Lv Wt : Nat → Int32), Wt 0 = nI jn → x_W E M_PR_print (x_room 10 0 0) (g_PQ h ra (g_pt u t) (g_dt t) P0) 52 (g_zw h ra (0 + 1) [] 0 Lv Wt P0) 30 [(0, .ref 15), (1, .ref 5), (3, .int (nI 0))] [] 0 0 := by
    intro Lv Wt hW0
    have hF := (g_For (P := fun n => n < s ∧ n ≠ jn) (Lp := g_Lp E h ra P0 (g_PQ h ra (g_pt u t) (g_dt t) P0)) hN (z_R1 hra0 t5 a0 a1 a2 a3 a4 a5 a6 h1 hu hN) (z_R2 hra0 t5 a0 a1 a2 a3 a4 a5 a6 h1 hu hN) (z_R3 hra0 t5 a0 a1 a2 a3 a4 a5 a6 h1 hu hN) (z_R4 hra0 t5 a0 a1 a2 a3 a4 a5 a6 h1 hu hN) (z_R5 hra0 t5 a0 a1 a2 a3 a4 a5 a6 h1 hu hN) (z_R6 hra0 t5 a0 a1 a2 a3 a4 a5 a6 h1 hu hN) (z_R7 hra0 t5 a0 a1 a2 a3 a4 a5 a6 h1 hu hN) (z_R8 hra0 t5 a0 a1 a2 a3 a4 a5 a6 h1 hu hN) (z_R9 hra0 t5 a0 a1 a2 a3 a4 a5 a6 h1 hu hN) t.2 hw).1
    have hgo := g_SyJ (z_R1 hra0 t5 a0 a1 a2 a3 a4 a5 a6 h1 hu hN) (z_R2 hra0 t5 a0 a1 a2 a3 a4 a5 a6 h1 hu hN) (z_R3 hra0 t5 a0 a1 a2 a3 a4 a5 a6 h1 hu hN) (z_R4 hra0 t5 a0 a1 a2 a3 a4 a5 a6 h1 hu hN) hl hw hN hF (j := jn) (lo := 0) (wc := 0) (st := 0) (ne := 0) (n := 0) (n1 := n1) (n2 := n2) (S := []) (Lv := Lv) (Wt := Wt) hjn hT.1 hT.2 (Or.inl ⟨hj3, rfl⟩) (fun q => (g_inP hjn t.2 hw _ _ hT.2 q).1.2 rfl) hv0 hv1 (by omega) (Nat.le_refl _) (by omega) (by omega) (by omega) (by omega) (by show 0 + _ < _; omega) hW0 (fun st' Lv' Wt' b1 b2 b3 => z_stepX hra0 (by omega) ⟨rfl, rfl, rfl, rfl, Lv', Wt', fun i hi => by rw [hdt]; rfl⟩)
    exact hgo
  rcases hra with rfl | rfl
  · refine x_Mt.of (by decide) (Nat.le_of_ble_eq_true rfl) ?_
    show x_W E M_PR_print _ _ 52 h 0 [(0, .ref 15), (1, .ref 5), (2, .ref 19)] [] 0 0
    refine x_aload_n d_PR_print_0 rfl rfl ?_
    refine x_aload_n d_PR_print_1 rfl rfl ?_
    refine x_put d_PR_print_2 f_PR_18 (Nat.le_of_ble_eq_true rfl) (Nat.le_of_ble_eq_true rfl) (by first | rfl | assumption) (by rfl) (by rfl) (by exact (Nat.le_of_ble_eq_true rfl)) ?_
    refine x_aload_n d_PR_print_5 rfl rfl ?_
    refine x_iconst 0 d_PR_print_6 (by decide) ?_
    refine x_put d_PR_print_7 f_PR_22 (Nat.le_of_ble_eq_true rfl) (Nat.le_of_ble_eq_true rfl) (by first | rfl | assumption) (by rfl) (by rfl) (by exact (Nat.le_of_ble_eq_true rfl)) ?_
    refine x_aload_n d_PR_print_10 rfl rfl ?_
    refine x_iconst 0 d_PR_print_11 (by decide) ?_
    refine x_put d_PR_print_12 f_PR_26 (Nat.le_of_ble_eq_true rfl) (Nat.le_of_ble_eq_true rfl) (by first | rfl | assumption) (by rfl) (by rfl) (by exact (Nat.le_of_ble_eq_true rfl)) ?_
    refine x_aload_n d_PR_print_15 rfl rfl ?_
    refine x_iconst 0 d_PR_print_16 (by decide) ?_
    refine x_put d_PR_print_17 f_PR_29 (Nat.le_of_ble_eq_true rfl) (Nat.le_of_ble_eq_true rfl) (by first | rfl | assumption) (by rfl) (by rfl) (by exact (Nat.le_of_ble_eq_true rfl)) ?_
    refine x_same (h' := (g_zw h 19 0 [] 0 Lv Wt P0)) (x_pt rfl rfl rfl rfl rfl rfl rfl rfl rfl rfl rfl rfl rfl rfl rfl rfl h16 h17 rfl hpa rfl rfl rfl rfl rfl rfl rfl rfl rfl rfl rfl rfl rfl rfl rfl rfl rfl rfl rfl rfl rfl rfl rfl rfl rfl rfl rfl rfl rfl rfl rfl rfl) ?_
    refine x_aload_n d_PR_print_20 rfl rfl ?_
    refine x_aload_n d_PR_print_21 rfl rfl ?_
    refine x_get d_PR_print_22 f_PR_32 (Nat.le_of_ble_eq_true rfl) (Nat.le_of_ble_eq_true rfl) (by first | rfl | assumption) (by rfl) ?_
    refine x_callV1Y d_PR_print_25 k_PR_37 (Nat.le_of_ble_eq_true rfl) (Nat.le_of_ble_eq_true rfl) (by first | rfl | assumption) (by rfl) (z_push hra0 (by decide)) (Nat.le_of_ble_eq_true rfl) (Nat.le_of_ble_eq_true rfl) (Nat.le_of_ble_eq_true rfl) (Nat.le_of_ble_eq_true rfl) (Nat.le_of_ble_eq_true rfl) rfl ?_
    refine x_iconst 0 d_PR_print_28 (by decide) ?_
    refine x_istore_n d_PR_print_29 rfl (Nat.le_of_ble_eq_true rfl) ?_
    refine x_lv [(0, .ref 15), (1, .ref 5), (2, .ref 19), (3, .int (nI 0))] rfl ?_
    refine x_wk [(0, .ref 15), (1, .ref 5), (3, .int (nI 0))] (by simp) ?_
    exact hrun _ _ g_updY
  · refine x_Mt.of (by decide) (Nat.le_of_ble_eq_true rfl) ?_
    show x_W E M_PR_print _ _ 52 h 0 [(0, .ref 15), (1, .ref 5), (2, .ref 20)] [] 0 0
    refine x_aload_n d_PR_print_0 rfl rfl ?_
    refine x_aload_n d_PR_print_1 rfl rfl ?_
    refine x_put d_PR_print_2 f_PR_18 (Nat.le_of_ble_eq_true rfl) (Nat.le_of_ble_eq_true rfl) (by first | rfl | assumption) (by rfl) (by rfl) (by exact (Nat.le_of_ble_eq_true rfl)) ?_
    refine x_aload_n d_PR_print_5 rfl rfl ?_
    refine x_iconst 0 d_PR_print_6 (by decide) ?_
    refine x_put d_PR_print_7 f_PR_22 (Nat.le_of_ble_eq_true rfl) (Nat.le_of_ble_eq_true rfl) (by first | rfl | assumption) (by rfl) (by rfl) (by exact (Nat.le_of_ble_eq_true rfl)) ?_
    refine x_aload_n d_PR_print_10 rfl rfl ?_
    refine x_iconst 0 d_PR_print_11 (by decide) ?_
    refine x_put d_PR_print_12 f_PR_26 (Nat.le_of_ble_eq_true rfl) (Nat.le_of_ble_eq_true rfl) (by first | rfl | assumption) (by rfl) (by rfl) (by exact (Nat.le_of_ble_eq_true rfl)) ?_
    refine x_aload_n d_PR_print_15 rfl rfl ?_
    refine x_iconst 0 d_PR_print_16 (by decide) ?_
    refine x_put d_PR_print_17 f_PR_29 (Nat.le_of_ble_eq_true rfl) (Nat.le_of_ble_eq_true rfl) (by first | rfl | assumption) (by rfl) (by rfl) (by exact (Nat.le_of_ble_eq_true rfl)) ?_
    refine x_same (h' := (g_zw h 20 0 [] 0 Lv Wt P0)) (x_pt rfl rfl rfl rfl rfl rfl rfl rfl rfl rfl rfl rfl rfl rfl rfl rfl h16 h17 rfl rfl hpa rfl rfl rfl rfl rfl rfl rfl rfl rfl rfl rfl rfl rfl rfl rfl rfl rfl rfl rfl rfl rfl rfl rfl rfl rfl rfl rfl rfl rfl rfl rfl) ?_
    refine x_aload_n d_PR_print_20 rfl rfl ?_
    refine x_aload_n d_PR_print_21 rfl rfl ?_
    refine x_get d_PR_print_22 f_PR_32 (Nat.le_of_ble_eq_true rfl) (Nat.le_of_ble_eq_true rfl) (by first | rfl | assumption) (by rfl) ?_
    refine x_callV1Y d_PR_print_25 k_PR_37 (Nat.le_of_ble_eq_true rfl) (Nat.le_of_ble_eq_true rfl) (by first | rfl | assumption) (by rfl) (z_push hra0 (by decide)) (Nat.le_of_ble_eq_true rfl) (Nat.le_of_ble_eq_true rfl) (Nat.le_of_ble_eq_true rfl) (Nat.le_of_ble_eq_true rfl) (Nat.le_of_ble_eq_true rfl) rfl ?_
    refine x_iconst 0 d_PR_print_28 (by decide) ?_
    refine x_istore_n d_PR_print_29 rfl (Nat.le_of_ble_eq_true rfl) ?_
    refine x_lv [(0, .ref 15), (1, .ref 5), (2, .ref 20), (3, .int (nI 0))] rfl ?_
    refine x_wk [(0, .ref 15), (1, .ref 5), (3, .int (nI 0))] (by simp) ?_
    exact hrun _ _ g_updY
