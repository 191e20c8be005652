theorem d_MO_fail_0 : decode M_MO_fail.2.1 0 = .ok (.aload_n 0, 1) := by decide +kernel
theorem d_MO_fail_1 : decode M_MO_fail.2.1 1 = .ok (.iload_n 1, 1) := by decide +kernel
theorem d_MO_fail_2 : decode M_MO_fail.2.1 2 = .ok (.putfield 60, 3) := by decide +kernel
theorem d_MO_fail_5 : decode M_MO_fail.2.1 5 = .ok (.iconst 0, 1) := by decide +kernel
theorem d_MO_fail_6 : decode M_MO_fail.2.1 6 = .ok (.ireturn, 1) := by decide +kernel
set_option maxRecDepth 20000 in
theorem w_MO_fail {E : xR} {h : xH} {x : Int32} {v0 v1 v2 v3 v4 v5 v6 : Value} (h0 : h 21 = .inr (5, [v0, v1, v2, v3, v4, v5, v6, .ref 22, .ref 23, .ref 24, .ref 31, .ref 36, .ref 44, .ref 49, .ref 50])) : x_Mt E M_MO_fail 0 0 0 [.ref 21, .int x] 52 h (x_Y (some (.int 0)) 52 (x_up h 21 (.inr (5, [.int x, v1, v2, v3, v4, v5, v6, .ref 22, .ref 23, .ref 24, .ref 31, .ref 36, .ref 44, .ref 49, .ref 50])))) := by
  refine x_Mt.of (by decide) (Nat.le_of_ble_eq_true rfl) ?_
  show x_W E M_MO_fail _ _ 52 h 0 [(0, .ref 21), (1, .int x)] [] 0 0
  refine x_aload_n d_MO_fail_0 rfl rfl ?_
  refine x_iload_n d_MO_fail_1 rfl rfl ?_
  refine x_put d_MO_fail_2 f_MO_60 (Nat.le_of_ble_eq_true rfl) (Nat.le_of_ble_eq_true rfl) (by first | rfl | assumption) (by rfl) (by rfl) (by exact (Nat.le_of_ble_eq_true rfl)) ?_
  refine x_iconst 0 d_MO_fail_5 (by decide) ?_
  exact x_ireturn d_MO_fail_6 rfl rfl ⟨rfl, rfl, x_pt rfl rfl rfl rfl rfl rfl rfl rfl rfl rfl rfl rfl rfl rfl rfl rfl rfl rfl rfl rfl rfl rfl rfl rfl rfl rfl rfl rfl rfl rfl rfl rfl rfl rfl rfl rfl rfl rfl rfl rfl rfl rfl rfl rfl rfl rfl rfl rfl rfl rfl rfl rfl, rfl, rfl⟩
theorem d_MO_thrown_0 : decode M_MO_thrown.2.1 0 = .ok (.aload_n 0, 1) := by decide +kernel
theorem d_MO_thrown_1 : decode M_MO_thrown.2.1 1 = .ok (.getfield 60, 3) := by decide +kernel
theorem d_MO_thrown_4 : decode M_MO_thrown.2.1 4 = .ok (.ireturn, 1) := by decide +kernel
set_option maxRecDepth 20000 in
theorem w_MO_thrown {E : xR} {h : xH} {x : Int32} {v1 v2 v3 v4 v5 v6 : Value} (h0 : h 21 = .inr (5, [.int x, v1, v2, v3, v4, v5, v6, .ref 22, .ref 23, .ref 24, .ref 31, .ref 36, .ref 44, .ref 49, .ref 50])) : x_Mt E M_MO_thrown 0 0 0 [.ref 21] 52 h (x_Y (some (.int x)) 52 h) := by
  refine x_Mt.of (by decide) (Nat.le_of_ble_eq_true rfl) ?_
  show x_W E M_MO_thrown _ _ 52 h 0 [(0, .ref 21)] [] 0 0
  refine x_aload_n d_MO_thrown_0 rfl rfl ?_
  refine x_get d_MO_thrown_1 f_MO_60 (Nat.le_of_ble_eq_true rfl) (Nat.le_of_ble_eq_true rfl) (by first | rfl | assumption) (by rfl) ?_
  exact x_ireturn d_MO_thrown_4 rfl rfl ⟨rfl, rfl, fun _ _ => rfl, rfl, rfl⟩
theorem d_MO_feed_0 : decode M_MO_feed.2.1 0 = .ok (.aload_n 0, 1) := by decide +kernel
theorem d_MO_feed_1 : decode M_MO_feed.2.1 1 = .ok (.iconst 0, 1) := by decide +kernel
theorem d_MO_feed_2 : decode M_MO_feed.2.1 2 = .ok (.putfield 60, 3) := by decide +kernel
theorem d_MO_feed_5 : decode M_MO_feed.2.1 5 = .ok (.aload_n 0, 1) := by decide +kernel
theorem d_MO_feed_6 : decode M_MO_feed.2.1 6 = .ok (.getfield 57, 3) := by decide +kernel
theorem d_MO_feed_9 : decode M_MO_feed.2.1 9 = .ok (.bipush 20, 2) := by decide +kernel
theorem d_MO_feed_11 : decode M_MO_feed.2.1 11 = .ok (.iadd, 1) := by decide +kernel
theorem d_MO_feed_12 : decode M_MO_feed.2.1 12 = .ok (.sipush 4096, 3) := by decide +kernel
theorem d_MO_feed_15 : decode M_MO_feed.2.1 15 = .ok (.if_icmp .le 9, 3) := by decide +kernel
theorem d_MO_feed_18 : decode M_MO_feed.2.1 18 = .ok (.aload_n 0, 1) := by decide +kernel
theorem d_MO_feed_19 : decode M_MO_feed.2.1 19 = .ok (.iconst 1, 1) := by decide +kernel
theorem d_MO_feed_20 : decode M_MO_feed.2.1 20 = .ok (.invokevirtual 63, 3) := by decide +kernel
theorem d_MO_feed_23 : decode M_MO_feed.2.1 23 = .ok (.ireturn, 1) := by decide +kernel
theorem d_MO_feed_24 : decode M_MO_feed.2.1 24 = .ok (.aload_n 0, 1) := by decide +kernel
theorem d_MO_feed_25 : decode M_MO_feed.2.1 25 = .ok (.iload_n 1, 1) := by decide +kernel
theorem d_MO_feed_26 : decode M_MO_feed.2.1 26 = .ok (.invokevirtual 67, 3) := by decide +kernel
theorem d_MO_feed_29 : decode M_MO_feed.2.1 29 = .ok (.aload_n 0, 1) := by decide +kernel
theorem d_MO_feed_30 : decode M_MO_feed.2.1 30 = .ok (.iload_n 2, 1) := by decide +kernel
theorem d_MO_feed_31 : decode M_MO_feed.2.1 31 = .ok (.invokevirtual 67, 3) := by decide +kernel
theorem d_MO_feed_34 : decode M_MO_feed.2.1 34 = .ok (.aload_n 0, 1) := by decide +kernel
theorem d_MO_feed_35 : decode M_MO_feed.2.1 35 = .ok (.iload_n 3, 1) := by decide +kernel
theorem d_MO_feed_36 : decode M_MO_feed.2.1 36 = .ok (.invokevirtual 67, 3) := by decide +kernel
theorem d_MO_feed_39 : decode M_MO_feed.2.1 39 = .ok (.aload_n 0, 1) := by decide +kernel
theorem d_MO_feed_40 : decode M_MO_feed.2.1 40 = .ok (.iload 4, 2) := by decide +kernel
theorem d_MO_feed_42 : decode M_MO_feed.2.1 42 = .ok (.invokevirtual 67, 3) := by decide +kernel
theorem d_MO_feed_45 : decode M_MO_feed.2.1 45 = .ok (.aload_n 0, 1) := by decide +kernel
theorem d_MO_feed_46 : decode M_MO_feed.2.1 46 = .ok (.iload 5, 2) := by decide +kernel
theorem d_MO_feed_48 : decode M_MO_feed.2.1 48 = .ok (.invokevirtual 67, 3) := by decide +kernel
theorem d_MO_feed_51 : decode M_MO_feed.2.1 51 = .ok (.aload_n 0, 1) := by decide +kernel
theorem d_MO_feed_52 : decode M_MO_feed.2.1 52 = .ok (.getfield 57, 3) := by decide +kernel
theorem d_MO_feed_55 : decode M_MO_feed.2.1 55 = .ok (.ireturn, 1) := by decide +kernel
set_option maxRecDepth 20000 in
theorem w_MO_feed {E : xR} {h : xH} {f : Nat → Int32} {t : Nat} {a b c d e : Int32} {v0 v2 v3 v4 v5 v6 : Value} (h0 : h 21 = .inr (5, [v0, .int (nI t), v2, v3, v4, v5, v6, .ref 22, .ref 23, .ref 24, .ref 31, .ref 36, .ref 44, .ref 49, .ref 50])) (h1 : h 22 = .inl (1, 4096, .inl f)) (ht : t + 20 ≤ 4096) : x_Mt E M_MO_feed 1 0 0 [.ref 21, .int a, .int b, .int c, .int d, .int e] 52 h (x_Y (some (.int (nI (t + 20)))) 52 (x_up (x_up h 21 (.inr (5, [.int 0, .int (nI (t + 20)), v2, v3, v4, v5, v6, .ref 22, .ref 23, .ref 24, .ref 31, .ref 36, .ref 44, .ref 49, .ref 50]))) 22 (.inl (1, 4096, .inl (g_feed f t a b c d e))))) := by
  refine x_Mt.of (by decide) (Nat.le_of_ble_eq_true rfl) ?_
  show x_W E M_MO_feed _ _ 52 h 0 [(0, .ref 21), (1, .int a), (2, .int b), (3, .int c), (4, .int d), (5, .int e)] [] 0 0
  refine x_aload_n d_MO_feed_0 rfl rfl ?_
  refine x_iconst 0 d_MO_feed_1 (by decide) ?_
  refine x_put d_MO_feed_2 f_MO_60 (Nat.le_of_ble_eq_true rfl) (Nat.le_of_ble_eq_true rfl) (by first | rfl | assumption) (by rfl) (by rfl) (by exact (Nat.le_of_ble_eq_true rfl)) ?_
  refine x_aload_n d_MO_feed_5 rfl rfl ?_
  refine x_get d_MO_feed_6 f_MO_57 (Nat.le_of_ble_eq_true rfl) (Nat.le_of_ble_eq_true rfl) (by first | rfl | assumption) (by rfl) ?_
  refine x_bipush 20 d_MO_feed_9 (by decide) ?_
  refine x_iadd d_MO_feed_11 ?_
  refine x_topi (nI (t + 20)) (nI_add t 20) ?_
  refine x_sipush 4096 d_MO_feed_12 (by decide) ?_
  refine x_icmp_le 24 d_MO_feed_15 (by decide) (fun _ => ?_) (fun z => absurd (show nI (t + 20) ≤ nI 4096 from nI_le (by omega) (by decide)) z)
  refine x_aload_n d_MO_feed_24 rfl rfl ?_
  refine x_iload_n d_MO_feed_25 rfl rfl ?_
  refine x_callV1Y d_MO_feed_26 k_MO_67 (Nat.le_of_ble_eq_true rfl) (Nat.le_of_ble_eq_true rfl) (by first | rfl | assumption) (by rfl) (w_MO_four (by first | rfl | assumption) (by first | rfl | assumption) (by omega)) (Nat.le_of_ble_eq_true rfl) (Nat.le_of_ble_eq_true rfl) (Nat.le_of_ble_eq_true rfl) (Nat.le_of_ble_eq_true rfl) (Nat.le_of_ble_eq_true rfl) rfl ?_
  refine x_aload_n d_MO_feed_29 rfl rfl ?_
  refine x_iload_n d_MO_feed_30 rfl rfl ?_
  refine x_callV1Y d_MO_feed_31 k_MO_67 (Nat.le_of_ble_eq_true rfl) (Nat.le_of_ble_eq_true rfl) (by first | rfl | assumption) (by rfl) (w_MO_four (by first | rfl | assumption) (by first | rfl | assumption) (by omega)) (Nat.le_of_ble_eq_true rfl) (Nat.le_of_ble_eq_true rfl) (Nat.le_of_ble_eq_true rfl) (Nat.le_of_ble_eq_true rfl) (Nat.le_of_ble_eq_true rfl) rfl ?_
  refine x_aload_n d_MO_feed_34 rfl rfl ?_
  refine x_iload_n d_MO_feed_35 rfl rfl ?_
  refine x_callV1Y d_MO_feed_36 k_MO_67 (Nat.le_of_ble_eq_true rfl) (Nat.le_of_ble_eq_true rfl) (by first | rfl | assumption) (by rfl) (w_MO_four (by first | rfl | assumption) (by first | rfl | assumption) (by omega)) (Nat.le_of_ble_eq_true rfl) (Nat.le_of_ble_eq_true rfl) (Nat.le_of_ble_eq_true rfl) (Nat.le_of_ble_eq_true rfl) (Nat.le_of_ble_eq_true rfl) rfl ?_
  refine x_aload_n d_MO_feed_39 rfl rfl ?_
  refine x_iload d_MO_feed_40 rfl ?_
  refine x_callV1Y d_MO_feed_42 k_MO_67 (Nat.le_of_ble_eq_true rfl) (Nat.le_of_ble_eq_true rfl) (by first | rfl | assumption) (by rfl) (w_MO_four (by first | rfl | assumption) (by first | rfl | assumption) (by omega)) (Nat.le_of_ble_eq_true rfl) (Nat.le_of_ble_eq_true rfl) (Nat.le_of_ble_eq_true rfl) (Nat.le_of_ble_eq_true rfl) (Nat.le_of_ble_eq_true rfl) rfl ?_
  refine x_aload_n d_MO_feed_45 rfl rfl ?_
  refine x_iload d_MO_feed_46 rfl ?_
  refine x_callV1Y d_MO_feed_48 k_MO_67 (Nat.le_of_ble_eq_true rfl) (Nat.le_of_ble_eq_true rfl) (by first | rfl | assumption) (by rfl) (w_MO_four (by first | rfl | assumption) (by first | rfl | assumption) (by omega)) (Nat.le_of_ble_eq_true rfl) (Nat.le_of_ble_eq_true rfl) (Nat.le_of_ble_eq_true rfl) (Nat.le_of_ble_eq_true rfl) (Nat.le_of_ble_eq_true rfl) rfl ?_
  refine x_aload_n d_MO_feed_51 rfl rfl ?_
  refine x_get d_MO_feed_52 f_MO_57 (Nat.le_of_ble_eq_true rfl) (Nat.le_of_ble_eq_true rfl) (by first | rfl | assumption) (by rfl) ?_
  exact x_ireturn d_MO_feed_55 rfl rfl ⟨rfl, rfl, x_pt rfl rfl rfl rfl rfl rfl rfl rfl rfl rfl rfl rfl rfl rfl rfl rfl rfl rfl rfl rfl rfl rfl rfl rfl rfl rfl rfl rfl rfl rfl rfl rfl rfl rfl rfl rfl rfl rfl rfl rfl rfl rfl rfl rfl rfl rfl rfl rfl rfl rfl rfl rfl, rfl, rfl⟩
set_option maxRecDepth 20000 in
theorem w_MO_feed_no {E : xR} {h : xH} {t : Nat} {a b c d e : Int32} {v0 v2 v3 v4 v5 v6 : Value} (h0 : h 21 = .inr (5, [v0, .int (nI t), v2, v3, v4, v5, v6, .ref 22, .ref 23, .ref 24, .ref 31, .ref 36, .ref 44, .ref 49, .ref 50])) (ht : 4096 < t + 20) (h4 : t ≤ 4096) : x_Mt E M_MO_feed 1 0 0 [.ref 21, .int a, .int b, .int c, .int d, .int e] 52 h (x_Y (some (.int 0)) 52 (x_up h 21 (.inr (5, [.int 1, .int (nI t), v2, v3, v4, v5, v6, .ref 22, .ref 23, .ref 24, .ref 31, .ref 36, .ref 44, .ref 49, .ref 50])))) := by
  refine x_Mt.of (by decide) (Nat.le_of_ble_eq_true rfl) ?_
  show x_W E M_MO_feed _ _ 52 h 0 [(0, .ref 21), (1, .int a), (2, .int b), (3, .int c), (4, .int d), (5, .int e)] [] 0 0
  refine x_aload_n d_MO_feed_0 rfl rfl ?_
  refine x_iconst 0 d_MO_feed_1 (by decide) ?_
  refine x_put d_MO_feed_2 f_MO_60 (Nat.le_of_ble_eq_true rfl) (Nat.le_of_ble_eq_true rfl) (by first | rfl | assumption) (by rfl) (by rfl) (by exact (Nat.le_of_ble_eq_true rfl)) ?_
  refine x_aload_n d_MO_feed_5 rfl rfl ?_
  refine x_get d_MO_feed_6 f_MO_57 (Nat.le_of_ble_eq_true rfl) (Nat.le_of_ble_eq_true rfl) (by first | rfl | assumption) (by rfl) ?_
  refine x_bipush 20 d_MO_feed_9 (by decide) ?_
  refine x_iadd d_MO_feed_11 ?_
  refine x_topi (nI (t + 20)) (nI_add t 20) ?_
  refine x_sipush 4096 d_MO_feed_12 (by decide) ?_
  refine x_icmp_le 24 d_MO_feed_15 (by decide) (fun z => absurd z (show ¬ nI (t + 20) ≤ nI 4096 from nI_ge (by omega) (by omega))) (fun _ => ?_)
  refine x_aload_n d_MO_feed_18 rfl rfl ?_
  refine x_iconst 1 d_MO_feed_19 (by decide) ?_
  refine x_callV1Y d_MO_feed_20 k_MO_63 (Nat.le_of_ble_eq_true rfl) (Nat.le_of_ble_eq_true rfl) (by first | rfl | assumption) (by rfl) (w_MO_fail (by first | rfl | assumption)) (Nat.le_of_ble_eq_true rfl) (Nat.le_of_ble_eq_true rfl) (Nat.le_of_ble_eq_true rfl) (Nat.le_of_ble_eq_true rfl) (Nat.le_of_ble_eq_true rfl) rfl ?_
  exact x_ireturn d_MO_feed_23 rfl rfl ⟨rfl, rfl, x_pt rfl rfl rfl rfl rfl rfl rfl rfl rfl rfl rfl rfl rfl rfl rfl rfl rfl rfl rfl rfl rfl rfl rfl rfl rfl rfl rfl rfl rfl rfl rfl rfl rfl rfl rfl rfl rfl rfl rfl rfl rfl rfl rfl rfl rfl rfl rfl rfl rfl rfl rfl rfl, rfl, rfl⟩
theorem d_MO_end_0 : decode M_MO_end.2.1 0 = .ok (.aload_n 0, 1) := by decide +kernel
theorem d_MO_end_1 : decode M_MO_end.2.1 1 = .ok (.iconst 0, 1) := by decide +kernel
theorem d_MO_end_2 : decode M_MO_end.2.1 2 = .ok (.putfield 60, 3) := by decide +kernel
theorem d_MO_end_5 : decode M_MO_end.2.1 5 = .ok (.iload_n 1, 1) := by decide +kernel
theorem d_MO_end_6 : decode M_MO_end.2.1 6 = .ok (.ifCond .lt 11, 3) := by decide +kernel
theorem d_MO_end_9 : decode M_MO_end.2.1 9 = .ok (.iload_n 1, 1) := by decide +kernel
theorem d_MO_end_10 : decode M_MO_end.2.1 10 = .ok (.aload_n 0, 1) := by decide +kernel
theorem d_MO_end_11 : decode M_MO_end.2.1 11 = .ok (.getfield 57, 3) := by decide +kernel
theorem d_MO_end_14 : decode M_MO_end.2.1 14 = .ok (.if_icmp .le 9, 3) := by decide +kernel
theorem d_MO_end_17 : decode M_MO_end.2.1 17 = .ok (.aload_n 0, 1) := by decide +kernel
theorem d_MO_end_18 : decode M_MO_end.2.1 18 = .ok (.iconst 1, 1) := by decide +kernel
theorem d_MO_end_19 : decode M_MO_end.2.1 19 = .ok (.invokevirtual 63, 3) := by decide +kernel
theorem d_MO_end_22 : decode M_MO_end.2.1 22 = .ok (.ireturn, 1) := by decide +kernel
theorem d_MO_end_23 : decode M_MO_end.2.1 23 = .ok (.aload_n 0, 1) := by decide +kernel
theorem d_MO_end_24 : decode M_MO_end.2.1 24 = .ok (.iload_n 1, 1) := by decide +kernel
theorem d_MO_end_25 : decode M_MO_end.2.1 25 = .ok (.putfield 57, 3) := by decide +kernel
theorem d_MO_end_28 : decode M_MO_end.2.1 28 = .ok (.iload_n 1, 1) := by decide +kernel
theorem d_MO_end_29 : decode M_MO_end.2.1 29 = .ok (.ireturn, 1) := by decide +kernel
set_option maxRecDepth 20000 in
theorem w_MO_end {E : xR} {h : xH} {t m : Nat} {v0 v2 v3 v4 v5 v6 : Value} (h0 : h 21 = .inr (5, [v0, .int (nI t), v2, v3, v4, v5, v6, .ref 22, .ref 23, .ref 24, .ref 31, .ref 36, .ref 44, .ref 49, .ref 50])) (hm : m ≤ t) (h4 : t ≤ 4096) : x_Mt E M_MO_end 1 0 0 [.ref 21, .int (nI m)] 52 h (x_Y (some (.int (nI m))) 52 (x_up h 21 (.inr (5, [.int 0, .int (nI m), v2, v3, v4, v5, v6, .ref 22, .ref 23, .ref 24, .ref 31, .ref 36, .ref 44, .ref 49, .ref 50])))) := by
  refine x_Mt.of (by decide) (Nat.le_of_ble_eq_true rfl) ?_
  show x_W E M_MO_end _ _ 52 h 0 [(0, .ref 21), (1, .int (nI m))] [] 0 0
  refine x_aload_n d_MO_end_0 rfl rfl ?_
  refine x_iconst 0 d_MO_end_1 (by decide) ?_
  refine x_put d_MO_end_2 f_MO_60 (Nat.le_of_ble_eq_true rfl) (Nat.le_of_ble_eq_true rfl) (by first | rfl | assumption) (by rfl) (by rfl) (by exact (Nat.le_of_ble_eq_true rfl)) ?_
  refine x_iload_n d_MO_end_5 rfl rfl ?_
  refine x_if_lt 17 d_MO_end_6 (by decide) (fun z => absurd z (nI_pos (by omega))) (fun _ => ?_)
  refine x_iload_n d_MO_end_9 rfl rfl ?_
  refine x_aload_n d_MO_end_10 rfl rfl ?_
  refine x_get d_MO_end_11 f_MO_57 (Nat.le_of_ble_eq_true rfl) (Nat.le_of_ble_eq_true rfl) (by first | rfl | assumption) (by rfl) ?_
  refine x_icmp_le 23 d_MO_end_14 (by decide) (fun _ => ?_) (fun z => absurd (nI_le hm (by omega)) z)
  refine x_aload_n d_MO_end_23 rfl rfl ?_
  refine x_iload_n d_MO_end_24 rfl rfl ?_
  refine x_put d_MO_end_25 f_MO_57 (Nat.le_of_ble_eq_true rfl) (Nat.le_of_ble_eq_true rfl) (by first | rfl | assumption) (by rfl) (by rfl) (by exact (Nat.le_of_ble_eq_true rfl)) ?_
  refine x_iload_n d_MO_end_28 rfl rfl ?_
  exact x_ireturn d_MO_end_29 rfl rfl ⟨rfl, rfl, x_pt rfl rfl rfl rfl rfl rfl rfl rfl rfl rfl rfl rfl rfl rfl rfl rfl rfl rfl rfl rfl rfl rfl rfl rfl rfl rfl rfl rfl rfl rfl rfl rfl rfl rfl rfl rfl rfl rfl rfl rfl rfl rfl rfl rfl rfl rfl rfl rfl rfl rfl rfl rfl, rfl, rfl⟩
set_option maxRecDepth 20000 in
theorem w_MO_end_no {E : xR} {h : xH} {t : Nat} {x : Int32} {v0 v2 v3 v4 v5 v6 : Value} (h0 : h 21 = .inr (5, [v0, .int (nI t), v2, v3, v4, v5, v6, .ref 22, .ref 23, .ref 24, .ref 31, .ref 36, .ref 44, .ref 49, .ref 50])) (hx : x < 0 ∨ ¬ x ≤ nI t) : x_Mt E M_MO_end 1 0 0 [.ref 21, .int x] 52 h (x_Y (some (.int 0)) 52 (x_up h 21 (.inr (5, [.int 1, .int (nI t), v2, v3, v4, v5, v6, .ref 22, .ref 23, .ref 24, .ref 31, .ref 36, .ref 44, .ref 49, .ref 50])))) := by
  refine x_Mt.of (by decide) (Nat.le_of_ble_eq_true rfl) ?_
  show x_W E M_MO_end _ _ 52 h 0 [(0, .ref 21), (1, .int x)] [] 0 0
  refine x_aload_n d_MO_end_0 rfl rfl ?_
  refine x_iconst 0 d_MO_end_1 (by decide) ?_
  refine x_put d_MO_end_2 f_MO_60 (Nat.le_of_ble_eq_true rfl) (Nat.le_of_ble_eq_true rfl) (by first | rfl | assumption) (by rfl) (by rfl) (by exact (Nat.le_of_ble_eq_true rfl)) ?_
  refine x_iload_n d_MO_end_5 rfl rfl ?_
  refine x_if_lt 17 d_MO_end_6 (by decide) (fun c_6 => ?_) (fun c_6 => ?_)
  · refine x_aload_n d_MO_end_17 rfl rfl ?_
    refine x_iconst 1 d_MO_end_18 (by decide) ?_
    refine x_callV1Y d_MO_end_19 k_MO_63 (Nat.le_of_ble_eq_true rfl) (Nat.le_of_ble_eq_true rfl) (by first | rfl | assumption) (by rfl) (w_MO_fail (by first | rfl | assumption)) (Nat.le_of_ble_eq_true rfl) (Nat.le_of_ble_eq_true rfl) (Nat.le_of_ble_eq_true rfl) (Nat.le_of_ble_eq_true rfl) (Nat.le_of_ble_eq_true rfl) rfl ?_
    exact x_ireturn d_MO_end_22 rfl rfl ⟨rfl, rfl, x_pt rfl rfl rfl rfl rfl rfl rfl rfl rfl rfl rfl rfl rfl rfl rfl rfl rfl rfl rfl rfl rfl rfl rfl rfl rfl rfl rfl rfl rfl rfl rfl rfl rfl rfl rfl rfl rfl rfl rfl rfl rfl rfl rfl rfl rfl rfl rfl rfl rfl rfl rfl rfl, rfl, rfl⟩
  · refine x_iload_n d_MO_end_9 rfl rfl ?_
    refine x_aload_n d_MO_end_10 rfl rfl ?_
    refine x_get d_MO_end_11 f_MO_57 (Nat.le_of_ble_eq_true rfl) (Nat.le_of_ble_eq_true rfl) (by first | rfl | assumption) (by rfl) ?_
    refine x_icmp_le 23 d_MO_end_14 (by decide) (fun z => absurd z (hx.resolve_left c_6)) (fun _ => ?_)
    refine x_aload_n d_MO_end_17 rfl rfl ?_
    refine x_iconst 1 d_MO_end_18 (by decide) ?_
    refine x_callV1Y d_MO_end_19 k_MO_63 (Nat.le_of_ble_eq_true rfl) (Nat.le_of_ble_eq_true rfl) (by first | rfl | assumption) (by rfl) (w_MO_fail (by first | rfl | assumption)) (Nat.le_of_ble_eq_true rfl) (Nat.le_of_ble_eq_true rfl) (Nat.le_of_ble_eq_true rfl) (Nat.le_of_ble_eq_true rfl) (Nat.le_of_ble_eq_true rfl) rfl ?_
    exact x_ireturn d_MO_end_22 rfl rfl ⟨rfl, rfl, x_pt rfl rfl rfl rfl rfl rfl rfl rfl rfl rfl rfl rfl rfl rfl rfl rfl rfl rfl rfl rfl rfl rfl rfl rfl rfl rfl rfl rfl rfl rfl rfl rfl rfl rfl rfl rfl rfl rfl rfl rfl rfl rfl rfl rfl rfl rfl rfl rfl rfl rfl rfl rfl, rfl, rfl⟩
theorem d_MO_about_0 : decode M_MO_about.2.1 0 = .ok (.aload_n 0, 1) := by decide +kernel
theorem d_MO_about_1 : decode M_MO_about.2.1 1 = .ok (.iconst 0, 1) := by decide +kernel
theorem d_MO_about_2 : decode M_MO_about.2.1 2 = .ok (.putfield 60, 3) := by decide +kernel
theorem d_MO_about_5 : decode M_MO_about.2.1 5 = .ok (.iload_n 1, 1) := by decide +kernel
theorem d_MO_about_6 : decode M_MO_about.2.1 6 = .ok (.ifCond .ne 10, 3) := by decide +kernel
theorem d_MO_about_9 : decode M_MO_about.2.1 9 = .ok (.aload_n 0, 1) := by decide +kernel
theorem d_MO_about_10 : decode M_MO_about.2.1 10 = .ok (.getfield 105, 3) := by decide +kernel
theorem d_MO_about_13 : decode M_MO_about.2.1 13 = .ok (.goto 32, 3) := by decide +kernel
theorem d_MO_about_16 : decode M_MO_about.2.1 16 = .ok (.iload_n 1, 1) := by decide +kernel
theorem d_MO_about_17 : decode M_MO_about.2.1 17 = .ok (.iconst 1, 1) := by decide +kernel
theorem d_MO_about_18 : decode M_MO_about.2.1 18 = .ok (.if_icmp .ne 10, 3) := by decide +kernel
theorem d_MO_about_21 : decode M_MO_about.2.1 21 = .ok (.aload_n 0, 1) := by decide +kernel
theorem d_MO_about_22 : decode M_MO_about.2.1 22 = .ok (.getfield 108, 3) := by decide +kernel
theorem d_MO_about_25 : decode M_MO_about.2.1 25 = .ok (.goto 20, 3) := by decide +kernel
theorem d_MO_about_28 : decode M_MO_about.2.1 28 = .ok (.iload_n 1, 1) := by decide +kernel
theorem d_MO_about_29 : decode M_MO_about.2.1 29 = .ok (.iconst 2, 1) := by decide +kernel
theorem d_MO_about_30 : decode M_MO_about.2.1 30 = .ok (.if_icmp .ne 10, 3) := by decide +kernel
theorem d_MO_about_33 : decode M_MO_about.2.1 33 = .ok (.aload_n 0, 1) := by decide +kernel
theorem d_MO_about_34 : decode M_MO_about.2.1 34 = .ok (.getfield 114, 3) := by decide +kernel
theorem d_MO_about_37 : decode M_MO_about.2.1 37 = .ok (.goto 8, 3) := by decide +kernel
theorem d_MO_about_40 : decode M_MO_about.2.1 40 = .ok (.aload_n 0, 1) := by decide +kernel
theorem d_MO_about_41 : decode M_MO_about.2.1 41 = .ok (.iconst 1, 1) := by decide +kernel
theorem d_MO_about_42 : decode M_MO_about.2.1 42 = .ok (.invokevirtual 63, 3) := by decide +kernel
theorem d_MO_about_45 : decode M_MO_about.2.1 45 = .ok (.ireturn, 1) := by decide +kernel
set_option maxRecDepth 20000 in
theorem w_MO_about0 {E : xR} {h : xH} {sy va de : Int32} {v0 v1 v2 v6 : Value} (h0 : h 21 = .inr (5, [v0, v1, v2, .int sy, .int va, .int de, v6, .ref 22, .ref 23, .ref 24, .ref 31, .ref 36, .ref 44, .ref 49, .ref 50])) : x_Mt E M_MO_about 1 0 0 [.ref 21, .int 0] 52 h (x_Y (some (.int sy)) 52 (x_up h 21 (.inr (5, [.int 0, v1, v2, .int sy, .int va, .int de, v6, .ref 22, .ref 23, .ref 24, .ref 31, .ref 36, .ref 44, .ref 49, .ref 50])))) := by
  refine x_Mt.of (by decide) (Nat.le_of_ble_eq_true rfl) ?_
  show x_W E M_MO_about _ _ 52 h 0 [(0, .ref 21), (1, .int 0)] [] 0 0
  refine x_aload_n d_MO_about_0 rfl rfl ?_
  refine x_iconst 0 d_MO_about_1 (by decide) ?_
  refine x_put d_MO_about_2 f_MO_60 (Nat.le_of_ble_eq_true rfl) (Nat.le_of_ble_eq_true rfl) (by first | rfl | assumption) (by rfl) (by rfl) (by exact (Nat.le_of_ble_eq_true rfl)) ?_
  refine x_iload_n d_MO_about_5 rfl rfl ?_
  refine x_if_ne 16 d_MO_about_6 (by decide) (fun z => absurd (by decide) z) (fun _ => ?_)
  refine x_aload_n d_MO_about_9 rfl rfl ?_
  refine x_get d_MO_about_10 f_MO_105 (Nat.le_of_ble_eq_true rfl) (Nat.le_of_ble_eq_true rfl) (by first | rfl | assumption) (by rfl) ?_
  refine x_goto 45 d_MO_about_13 (by decide) ?_
  exact x_ireturn d_MO_about_45 rfl rfl ⟨rfl, rfl, x_pt rfl rfl rfl rfl rfl rfl rfl rfl rfl rfl rfl rfl rfl rfl rfl rfl rfl rfl rfl rfl rfl rfl rfl rfl rfl rfl rfl rfl rfl rfl rfl rfl rfl rfl rfl rfl rfl rfl rfl rfl rfl rfl rfl rfl rfl rfl rfl rfl rfl rfl rfl rfl, rfl, rfl⟩
set_option maxRecDepth 20000 in
theorem w_MO_about1 {E : xR} {h : xH} {sy va de : Int32} {v0 v1 v2 v6 : Value} (h0 : h 21 = .inr (5, [v0, v1, v2, .int sy, .int va, .int de, v6, .ref 22, .ref 23, .ref 24, .ref 31, .ref 36, .ref 44, .ref 49, .ref 50])) : x_Mt E M_MO_about 1 0 0 [.ref 21, .int 1] 52 h (x_Y (some (.int va)) 52 (x_up h 21 (.inr (5, [.int 0, v1, v2, .int sy, .int va, .int de, v6, .ref 22, .ref 23, .ref 24, .ref 31, .ref 36, .ref 44, .ref 49, .ref 50])))) := by
  refine x_Mt.of (by decide) (Nat.le_of_ble_eq_true rfl) ?_
  show x_W E M_MO_about _ _ 52 h 0 [(0, .ref 21), (1, .int 1)] [] 0 0
  refine x_aload_n d_MO_about_0 rfl rfl ?_
  refine x_iconst 0 d_MO_about_1 (by decide) ?_
  refine x_put d_MO_about_2 f_MO_60 (Nat.le_of_ble_eq_true rfl) (Nat.le_of_ble_eq_true rfl) (by first | rfl | assumption) (by rfl) (by rfl) (by exact (Nat.le_of_ble_eq_true rfl)) ?_
  refine x_iload_n d_MO_about_5 rfl rfl ?_
  refine x_if_ne 16 d_MO_about_6 (by decide) (fun _ => ?_) (fun z => absurd z (by decide))
  refine x_iload_n d_MO_about_16 rfl rfl ?_
  refine x_iconst 1 d_MO_about_17 (by decide) ?_
  refine x_icmp_ne 28 d_MO_about_18 (by decide) (fun z => absurd (by decide) z) (fun _ => ?_)
  refine x_aload_n d_MO_about_21 rfl rfl ?_
  refine x_get d_MO_about_22 f_MO_108 (Nat.le_of_ble_eq_true rfl) (Nat.le_of_ble_eq_true rfl) (by first | rfl | assumption) (by rfl) ?_
  refine x_goto 45 d_MO_about_25 (by decide) ?_
  exact x_ireturn d_MO_about_45 rfl rfl ⟨rfl, rfl, x_pt rfl rfl rfl rfl rfl rfl rfl rfl rfl rfl rfl rfl rfl rfl rfl rfl rfl rfl rfl rfl rfl rfl rfl rfl rfl rfl rfl rfl rfl rfl rfl rfl rfl rfl rfl rfl rfl rfl rfl rfl rfl rfl rfl rfl rfl rfl rfl rfl rfl rfl rfl rfl, rfl, rfl⟩
set_option maxRecDepth 20000 in
theorem w_MO_about2 {E : xR} {h : xH} {sy va de : Int32} {v0 v1 v2 v6 : Value} (h0 : h 21 = .inr (5, [v0, v1, v2, .int sy, .int va, .int de, v6, .ref 22, .ref 23, .ref 24, .ref 31, .ref 36, .ref 44, .ref 49, .ref 50])) : x_Mt E M_MO_about 1 0 0 [.ref 21, .int 2] 52 h (x_Y (some (.int de)) 52 (x_up h 21 (.inr (5, [.int 0, v1, v2, .int sy, .int va, .int de, v6, .ref 22, .ref 23, .ref 24, .ref 31, .ref 36, .ref 44, .ref 49, .ref 50])))) := by
  refine x_Mt.of (by decide) (Nat.le_of_ble_eq_true rfl) ?_
  show x_W E M_MO_about _ _ 52 h 0 [(0, .ref 21), (1, .int 2)] [] 0 0
  refine x_aload_n d_MO_about_0 rfl rfl ?_
  refine x_iconst 0 d_MO_about_1 (by decide) ?_
  refine x_put d_MO_about_2 f_MO_60 (Nat.le_of_ble_eq_true rfl) (Nat.le_of_ble_eq_true rfl) (by first | rfl | assumption) (by rfl) (by rfl) (by exact (Nat.le_of_ble_eq_true rfl)) ?_
  refine x_iload_n d_MO_about_5 rfl rfl ?_
  refine x_if_ne 16 d_MO_about_6 (by decide) (fun _ => ?_) (fun z => absurd z (by decide))
  refine x_iload_n d_MO_about_16 rfl rfl ?_
  refine x_iconst 1 d_MO_about_17 (by decide) ?_
  refine x_icmp_ne 28 d_MO_about_18 (by decide) (fun _ => ?_) (fun z => absurd z (by decide))
  refine x_iload_n d_MO_about_28 rfl rfl ?_
  refine x_iconst 2 d_MO_about_29 (by decide) ?_
  refine x_icmp_ne 40 d_MO_about_30 (by decide) (fun z => absurd (by decide) z) (fun _ => ?_)
  refine x_aload_n d_MO_about_33 rfl rfl ?_
  refine x_get d_MO_about_34 f_MO_114 (Nat.le_of_ble_eq_true rfl) (Nat.le_of_ble_eq_true rfl) (by first | rfl | assumption) (by rfl) ?_
  refine x_goto 45 d_MO_about_37 (by decide) ?_
  exact x_ireturn d_MO_about_45 rfl rfl ⟨rfl, rfl, x_pt rfl rfl rfl rfl rfl rfl rfl rfl rfl rfl rfl rfl rfl rfl rfl rfl rfl rfl rfl rfl rfl rfl rfl rfl rfl rfl rfl rfl rfl rfl rfl rfl rfl rfl rfl rfl rfl rfl rfl rfl rfl rfl rfl rfl rfl rfl rfl rfl rfl rfl rfl rfl, rfl, rfl⟩
set_option maxRecDepth 20000 in
theorem w_MO_about_no {E : xR} {h : xH} {sy va de x : Int32} {v0 v1 v2 v6 : Value} (h0 : h 21 = .inr (5, [v0, v1, v2, .int sy, .int va, .int de, v6, .ref 22, .ref 23, .ref 24, .ref 31, .ref 36, .ref 44, .ref 49, .ref 50])) (hx0 : ¬ x = 0) (hx1 : ¬ x = 1) (hx2 : ¬ x = 2) : x_Mt E M_MO_about 1 0 0 [.ref 21, .int x] 52 h (x_Y (some (.int 0)) 52 (x_up h 21 (.inr (5, [.int 1, v1, v2, .int sy, .int va, .int de, v6, .ref 22, .ref 23, .ref 24, .ref 31, .ref 36, .ref 44, .ref 49, .ref 50])))) := by
  refine x_Mt.of (by decide) (Nat.le_of_ble_eq_true rfl) ?_
  show x_W E M_MO_about _ _ 52 h 0 [(0, .ref 21), (1, .int x)] [] 0 0
  refine x_aload_n d_MO_about_0 rfl rfl ?_
  refine x_iconst 0 d_MO_about_1 (by decide) ?_
  refine x_put d_MO_about_2 f_MO_60 (Nat.le_of_ble_eq_true rfl) (Nat.le_of_ble_eq_true rfl) (by first | rfl | assumption) (by rfl) (by rfl) (by exact (Nat.le_of_ble_eq_true rfl)) ?_
  refine x_iload_n d_MO_about_5 rfl rfl ?_
  refine x_if_ne 16 d_MO_about_6 (by decide) (fun _ => ?_) (fun z => absurd z hx0)
  refine x_iload_n d_MO_about_16 rfl rfl ?_
  refine x_iconst 1 d_MO_about_17 (by decide) ?_
  refine x_icmp_ne 28 d_MO_about_18 (by decide) (fun _ => ?_) (fun z => absurd z hx1)
  refine x_iload_n d_MO_about_28 rfl rfl ?_
  refine x_iconst 2 d_MO_about_29 (by decide) ?_
  refine x_icmp_ne 40 d_MO_about_30 (by decide) (fun _ => ?_) (fun z => absurd z hx2)
  refine x_aload_n d_MO_about_40 rfl rfl ?_
  refine x_iconst 1 d_MO_about_41 (by decide) ?_
  refine x_callV1Y d_MO_about_42 k_MO_63 (Nat.le_of_ble_eq_true rfl) (Nat.le_of_ble_eq_true rfl) (by first | rfl | assumption) (by rfl) (w_MO_fail (by first | rfl | assumption)) (Nat.le_of_ble_eq_true rfl) (Nat.le_of_ble_eq_true rfl) (Nat.le_of_ble_eq_true rfl) (Nat.le_of_ble_eq_true rfl) (Nat.le_of_ble_eq_true rfl) rfl ?_
  exact x_ireturn d_MO_about_45 rfl rfl ⟨rfl, rfl, x_pt rfl rfl rfl rfl rfl rfl rfl rfl rfl rfl rfl rfl rfl rfl rfl rfl rfl rfl rfl rfl rfl rfl rfl rfl rfl rfl rfl rfl rfl rfl rfl rfl rfl rfl rfl rfl rfl rfl rfl rfl rfl rfl rfl rfl rfl rfl rfl rfl rfl rfl rfl rfl, rfl, rfl⟩
theorem d_MO_count_0 : decode M_MO_count.2.1 0 = .ok (.aload_n 0, 1) := by decide +kernel
theorem d_MO_count_1 : decode M_MO_count.2.1 1 = .ok (.iconst 0, 1) := by decide +kernel
theorem d_MO_count_2 : decode M_MO_count.2.1 2 = .ok (.putfield 60, 3) := by decide +kernel
theorem d_MO_count_5 : decode M_MO_count.2.1 5 = .ok (.iload_n 1, 1) := by decide +kernel
theorem d_MO_count_6 : decode M_MO_count.2.1 6 = .ok (.ifCond .ne 10, 3) := by decide +kernel
theorem d_MO_count_9 : decode M_MO_count.2.1 9 = .ok (.aload_n 0, 1) := by decide +kernel
theorem d_MO_count_10 : decode M_MO_count.2.1 10 = .ok (.getfield 57, 3) := by decide +kernel
theorem d_MO_count_13 : decode M_MO_count.2.1 13 = .ok (.goto 32, 3) := by decide +kernel
theorem d_MO_count_16 : decode M_MO_count.2.1 16 = .ok (.iload_n 1, 1) := by decide +kernel
theorem d_MO_count_17 : decode M_MO_count.2.1 17 = .ok (.iconst 1, 1) := by decide +kernel
theorem d_MO_count_18 : decode M_MO_count.2.1 18 = .ok (.if_icmp .ne 10, 3) := by decide +kernel
theorem d_MO_count_21 : decode M_MO_count.2.1 21 = .ok (.aload_n 0, 1) := by decide +kernel
theorem d_MO_count_22 : decode M_MO_count.2.1 22 = .ok (.getfield 99, 3) := by decide +kernel
theorem d_MO_count_25 : decode M_MO_count.2.1 25 = .ok (.goto 20, 3) := by decide +kernel
theorem d_MO_count_28 : decode M_MO_count.2.1 28 = .ok (.iload_n 1, 1) := by decide +kernel
theorem d_MO_count_29 : decode M_MO_count.2.1 29 = .ok (.iconst 2, 1) := by decide +kernel
theorem d_MO_count_30 : decode M_MO_count.2.1 30 = .ok (.if_icmp .ne 10, 3) := by decide +kernel
theorem d_MO_count_33 : decode M_MO_count.2.1 33 = .ok (.aload_n 0, 1) := by decide +kernel
theorem d_MO_count_34 : decode M_MO_count.2.1 34 = .ok (.getfield 9, 3) := by decide +kernel
theorem d_MO_count_37 : decode M_MO_count.2.1 37 = .ok (.goto 8, 3) := by decide +kernel
theorem d_MO_count_40 : decode M_MO_count.2.1 40 = .ok (.aload_n 0, 1) := by decide +kernel
theorem d_MO_count_41 : decode M_MO_count.2.1 41 = .ok (.iconst 1, 1) := by decide +kernel
theorem d_MO_count_42 : decode M_MO_count.2.1 42 = .ok (.invokevirtual 63, 3) := by decide +kernel
theorem d_MO_count_45 : decode M_MO_count.2.1 45 = .ok (.ireturn, 1) := by decide +kernel
set_option maxRecDepth 20000 in
theorem w_MO_count0 {E : xR} {h : xH} {tl rl pl : Int32} {v0 v3 v4 v5 : Value} (h0 : h 21 = .inr (5, [v0, .int tl, .int pl, v3, v4, v5, .int rl, .ref 22, .ref 23, .ref 24, .ref 31, .ref 36, .ref 44, .ref 49, .ref 50])) : x_Mt E M_MO_count 1 0 0 [.ref 21, .int 0] 52 h (x_Y (some (.int tl)) 52 (x_up h 21 (.inr (5, [.int 0, .int tl, .int pl, v3, v4, v5, .int rl, .ref 22, .ref 23, .ref 24, .ref 31, .ref 36, .ref 44, .ref 49, .ref 50])))) := by
  refine x_Mt.of (by decide) (Nat.le_of_ble_eq_true rfl) ?_
  show x_W E M_MO_count _ _ 52 h 0 [(0, .ref 21), (1, .int 0)] [] 0 0
  refine x_aload_n d_MO_count_0 rfl rfl ?_
  refine x_iconst 0 d_MO_count_1 (by decide) ?_
  refine x_put d_MO_count_2 f_MO_60 (Nat.le_of_ble_eq_true rfl) (Nat.le_of_ble_eq_true rfl) (by first | rfl | assumption) (by rfl) (by rfl) (by exact (Nat.le_of_ble_eq_true rfl)) ?_
  refine x_iload_n d_MO_count_5 rfl rfl ?_
  refine x_if_ne 16 d_MO_count_6 (by decide) (fun z => absurd (by decide) z) (fun _ => ?_)
  refine x_aload_n d_MO_count_9 rfl rfl ?_
  refine x_get d_MO_count_10 f_MO_57 (Nat.le_of_ble_eq_true rfl) (Nat.le_of_ble_eq_true rfl) (by first | rfl | assumption) (by rfl) ?_
  refine x_goto 45 d_MO_count_13 (by decide) ?_
  exact x_ireturn d_MO_count_45 rfl rfl ⟨rfl, rfl, x_pt rfl rfl rfl rfl rfl rfl rfl rfl rfl rfl rfl rfl rfl rfl rfl rfl rfl rfl rfl rfl rfl rfl rfl rfl rfl rfl rfl rfl rfl rfl rfl rfl rfl rfl rfl rfl rfl rfl rfl rfl rfl rfl rfl rfl rfl rfl rfl rfl rfl rfl rfl rfl, rfl, rfl⟩
set_option maxRecDepth 20000 in
theorem w_MO_count1 {E : xR} {h : xH} {tl rl pl : Int32} {v0 v3 v4 v5 : Value} (h0 : h 21 = .inr (5, [v0, .int tl, .int pl, v3, v4, v5, .int rl, .ref 22, .ref 23, .ref 24, .ref 31, .ref 36, .ref 44, .ref 49, .ref 50])) : x_Mt E M_MO_count 1 0 0 [.ref 21, .int 1] 52 h (x_Y (some (.int rl)) 52 (x_up h 21 (.inr (5, [.int 0, .int tl, .int pl, v3, v4, v5, .int rl, .ref 22, .ref 23, .ref 24, .ref 31, .ref 36, .ref 44, .ref 49, .ref 50])))) := by
  refine x_Mt.of (by decide) (Nat.le_of_ble_eq_true rfl) ?_
  show x_W E M_MO_count _ _ 52 h 0 [(0, .ref 21), (1, .int 1)] [] 0 0
  refine x_aload_n d_MO_count_0 rfl rfl ?_
  refine x_iconst 0 d_MO_count_1 (by decide) ?_
  refine x_put d_MO_count_2 f_MO_60 (Nat.le_of_ble_eq_true rfl) (Nat.le_of_ble_eq_true rfl) (by first | rfl | assumption) (by rfl) (by rfl) (by exact (Nat.le_of_ble_eq_true rfl)) ?_
  refine x_iload_n d_MO_count_5 rfl rfl ?_
  refine x_if_ne 16 d_MO_count_6 (by decide) (fun _ => ?_) (fun z => absurd z (by decide))
  refine x_iload_n d_MO_count_16 rfl rfl ?_
  refine x_iconst 1 d_MO_count_17 (by decide) ?_
  refine x_icmp_ne 28 d_MO_count_18 (by decide) (fun z => absurd (by decide) z) (fun _ => ?_)
  refine x_aload_n d_MO_count_21 rfl rfl ?_
  refine x_get d_MO_count_22 f_MO_99 (Nat.le_of_ble_eq_true rfl) (Nat.le_of_ble_eq_true rfl) (by first | rfl | assumption) (by rfl) ?_
  refine x_goto 45 d_MO_count_25 (by decide) ?_
  exact x_ireturn d_MO_count_45 rfl rfl ⟨rfl, rfl, x_pt rfl rfl rfl rfl rfl rfl rfl rfl rfl rfl rfl rfl rfl rfl rfl rfl rfl rfl rfl rfl rfl rfl rfl rfl rfl rfl rfl rfl rfl rfl rfl rfl rfl rfl rfl rfl rfl rfl rfl rfl rfl rfl rfl rfl rfl rfl rfl rfl rfl rfl rfl rfl, rfl, rfl⟩
set_option maxRecDepth 20000 in
theorem w_MO_count2 {E : xR} {h : xH} {tl rl pl : Int32} {v0 v3 v4 v5 : Value} (h0 : h 21 = .inr (5, [v0, .int tl, .int pl, v3, v4, v5, .int rl, .ref 22, .ref 23, .ref 24, .ref 31, .ref 36, .ref 44, .ref 49, .ref 50])) : x_Mt E M_MO_count 1 0 0 [.ref 21, .int 2] 52 h (x_Y (some (.int pl)) 52 (x_up h 21 (.inr (5, [.int 0, .int tl, .int pl, v3, v4, v5, .int rl, .ref 22, .ref 23, .ref 24, .ref 31, .ref 36, .ref 44, .ref 49, .ref 50])))) := by
  refine x_Mt.of (by decide) (Nat.le_of_ble_eq_true rfl) ?_
  show x_W E M_MO_count _ _ 52 h 0 [(0, .ref 21), (1, .int 2)] [] 0 0
  refine x_aload_n d_MO_count_0 rfl rfl ?_
  refine x_iconst 0 d_MO_count_1 (by decide) ?_
  refine x_put d_MO_count_2 f_MO_60 (Nat.le_of_ble_eq_true rfl) (Nat.le_of_ble_eq_true rfl) (by first | rfl | assumption) (by rfl) (by rfl) (by exact (Nat.le_of_ble_eq_true rfl)) ?_
  refine x_iload_n d_MO_count_5 rfl rfl ?_
  refine x_if_ne 16 d_MO_count_6 (by decide) (fun _ => ?_) (fun z => absurd z (by decide))
  refine x_iload_n d_MO_count_16 rfl rfl ?_
  refine x_iconst 1 d_MO_count_17 (by decide) ?_
  refine x_icmp_ne 28 d_MO_count_18 (by decide) (fun _ => ?_) (fun z => absurd z (by decide))
  refine x_iload_n d_MO_count_28 rfl rfl ?_
  refine x_iconst 2 d_MO_count_29 (by decide) ?_
  refine x_icmp_ne 40 d_MO_count_30 (by decide) (fun z => absurd (by decide) z) (fun _ => ?_)
  refine x_aload_n d_MO_count_33 rfl rfl ?_
  refine x_get d_MO_count_34 f_MO_9 (Nat.le_of_ble_eq_true rfl) (Nat.le_of_ble_eq_true rfl) (by first | rfl | assumption) (by rfl) ?_
  refine x_goto 45 d_MO_count_37 (by decide) ?_
  exact x_ireturn d_MO_count_45 rfl rfl ⟨rfl, rfl, x_pt rfl rfl rfl rfl rfl rfl rfl rfl rfl rfl rfl rfl rfl rfl rfl rfl rfl rfl rfl rfl rfl rfl rfl rfl rfl rfl rfl rfl rfl rfl rfl rfl rfl rfl rfl rfl rfl rfl rfl rfl rfl rfl rfl rfl rfl rfl rfl rfl rfl rfl rfl rfl, rfl, rfl⟩
set_option maxRecDepth 20000 in
theorem w_MO_count_no {E : xR} {h : xH} {tl rl pl x : Int32} {v0 v3 v4 v5 : Value} (h0 : h 21 = .inr (5, [v0, .int tl, .int pl, v3, v4, v5, .int rl, .ref 22, .ref 23, .ref 24, .ref 31, .ref 36, .ref 44, .ref 49, .ref 50])) (hx0 : ¬ x = 0) (hx1 : ¬ x = 1) (hx2 : ¬ x = 2) : x_Mt E M_MO_count 1 0 0 [.ref 21, .int x] 52 h (x_Y (some (.int 0)) 52 (x_up h 21 (.inr (5, [.int 1, .int tl, .int pl, v3, v4, v5, .int rl, .ref 22, .ref 23, .ref 24, .ref 31, .ref 36, .ref 44, .ref 49, .ref 50])))) := by
  refine x_Mt.of (by decide) (Nat.le_of_ble_eq_true rfl) ?_
  show x_W E M_MO_count _ _ 52 h 0 [(0, .ref 21), (1, .int x)] [] 0 0
  refine x_aload_n d_MO_count_0 rfl rfl ?_
  refine x_iconst 0 d_MO_count_1 (by decide) ?_
  refine x_put d_MO_count_2 f_MO_60 (Nat.le_of_ble_eq_true rfl) (Nat.le_of_ble_eq_true rfl) (by first | rfl | assumption) (by rfl) (by rfl) (by exact (Nat.le_of_ble_eq_true rfl)) ?_
  refine x_iload_n d_MO_count_5 rfl rfl ?_
  refine x_if_ne 16 d_MO_count_6 (by decide) (fun _ => ?_) (fun z => absurd z hx0)
  refine x_iload_n d_MO_count_16 rfl rfl ?_
  refine x_iconst 1 d_MO_count_17 (by decide) ?_
  refine x_icmp_ne 28 d_MO_count_18 (by decide) (fun _ => ?_) (fun z => absurd z hx1)
  refine x_iload_n d_MO_count_28 rfl rfl ?_
  refine x_iconst 2 d_MO_count_29 (by decide) ?_
  refine x_icmp_ne 40 d_MO_count_30 (by decide) (fun _ => ?_) (fun z => absurd z hx2)
  refine x_aload_n d_MO_count_40 rfl rfl ?_
  refine x_iconst 1 d_MO_count_41 (by decide) ?_
  refine x_callV1Y d_MO_count_42 k_MO_63 (Nat.le_of_ble_eq_true rfl) (Nat.le_of_ble_eq_true rfl) (by first | rfl | assumption) (by rfl) (w_MO_fail (by first | rfl | assumption)) (Nat.le_of_ble_eq_true rfl) (Nat.le_of_ble_eq_true rfl) (Nat.le_of_ble_eq_true rfl) (Nat.le_of_ble_eq_true rfl) (Nat.le_of_ble_eq_true rfl) rfl ?_
  exact x_ireturn d_MO_count_45 rfl rfl ⟨rfl, rfl, x_pt rfl rfl rfl rfl rfl rfl rfl rfl rfl rfl rfl rfl rfl rfl rfl rfl rfl rfl rfl rfl rfl rfl rfl rfl rfl rfl rfl rfl rfl rfl rfl rfl rfl rfl rfl rfl rfl rfl rfl rfl rfl rfl rfl rfl rfl rfl rfl rfl rfl rfl rfl rfl, rfl, rfl⟩
theorem g_wb_in {f : Nat → Int32} {rl i : Nat} (h : ¬ nI rl ≤ nI i) (hi : i < 2 ^ 31) : f (nI i).toNatClampNeg &&& 255 = g_wb f rl i := by
  have h2 : i < rl := Nat.not_le.mp fun q => h (nI_le q hi)
  rw [nI_clamp hi, g_wb, if_pos h2]
theorem g_wb_out {f : Nat → Int32} {rl i : Nat} (h : nI rl ≤ nI i) (hi : i < 2 ^ 31) (hr : rl < 2 ^ 31) : (0 : Int32) = g_wb f rl i := by
  rw [g_wb, if_neg (Nat.not_lt.mpr ((nI_leI hr hi).mp h))]
theorem d_TR_word_0 : decode M_TR_word.2.1 0 = .ok (.iload_n 1, 1) := by decide +kernel
theorem d_TR_word_1 : decode M_TR_word.2.1 1 = .ok (.ifCond .lt 11, 3) := by decide +kernel
theorem d_TR_word_4 : decode M_TR_word.2.1 4 = .ok (.iload_n 1, 1) := by decide +kernel
theorem d_TR_word_5 : decode M_TR_word.2.1 5 = .ok (.aload_n 0, 1) := by decide +kernel
theorem d_TR_word_6 : decode M_TR_word.2.1 6 = .ok (.getfield 70, 3) := by decide +kernel
theorem d_TR_word_9 : decode M_TR_word.2.1 9 = .ok (.if_icmp .lt 13, 3) := by decide +kernel
theorem d_TR_word_12 : decode M_TR_word.2.1 12 = .ok (.new 37, 3) := by decide +kernel
theorem d_TR_word_15 : decode M_TR_word.2.1 15 = .ok (.dup, 1) := by decide +kernel
theorem d_TR_word_16 : decode M_TR_word.2.1 16 = .ok (.ldc 84, 2) := by decide +kernel
theorem d_TR_word_18 : decode M_TR_word.2.1 18 = .ok (.invokespecial 41, 3) := by decide +kernel
theorem d_TR_word_21 : decode M_TR_word.2.1 21 = .ok (.athrow, 1) := by decide +kernel
theorem d_TR_word_22 : decode M_TR_word.2.1 22 = .ok (.lconst 0, 1) := by decide +kernel
theorem d_TR_word_23 : decode M_TR_word.2.1 23 = .ok (.lstore_n 2, 1) := by decide +kernel
theorem d_TR_word_24 : decode M_TR_word.2.1 24 = .ok (.iconst 0, 1) := by decide +kernel
theorem d_TR_word_25 : decode M_TR_word.2.1 25 = .ok (.istore 4, 2) := by decide +kernel
theorem d_TR_word_27 : decode M_TR_word.2.1 27 = .ok (.iload 4, 2) := by decide +kernel
theorem d_TR_word_29 : decode M_TR_word.2.1 29 = .ok (.bipush 8, 2) := by decide +kernel
theorem d_TR_word_31 : decode M_TR_word.2.1 31 = .ok (.if_icmp .ge 48, 3) := by decide +kernel
theorem d_TR_word_34 : decode M_TR_word.2.1 34 = .ok (.iload_n 1, 1) := by decide +kernel
theorem d_TR_word_35 : decode M_TR_word.2.1 35 = .ok (.iload 4, 2) := by decide +kernel
theorem d_TR_word_37 : decode M_TR_word.2.1 37 = .ok (.iadd, 1) := by decide +kernel
theorem d_TR_word_38 : decode M_TR_word.2.1 38 = .ok (.aload_n 0, 1) := by decide +kernel
theorem d_TR_word_39 : decode M_TR_word.2.1 39 = .ok (.getfield 70, 3) := by decide +kernel
theorem d_TR_word_42 : decode M_TR_word.2.1 42 = .ok (.if_icmp .ge 19, 3) := by decide +kernel
theorem d_TR_word_45 : decode M_TR_word.2.1 45 = .ok (.aload_n 0, 1) := by decide +kernel
theorem d_TR_word_46 : decode M_TR_word.2.1 46 = .ok (.getfield 27, 3) := by decide +kernel
theorem d_TR_word_49 : decode M_TR_word.2.1 49 = .ok (.iload_n 1, 1) := by decide +kernel
theorem d_TR_word_50 : decode M_TR_word.2.1 50 = .ok (.iload 4, 2) := by decide +kernel
theorem d_TR_word_52 : decode M_TR_word.2.1 52 = .ok (.iadd, 1) := by decide +kernel
theorem d_TR_word_53 : decode M_TR_word.2.1 53 = .ok (.baload, 1) := by decide +kernel
theorem d_TR_word_54 : decode M_TR_word.2.1 54 = .ok (.sipush 255, 3) := by decide +kernel
theorem d_TR_word_57 : decode M_TR_word.2.1 57 = .ok (.iand, 1) := by decide +kernel
theorem d_TR_word_58 : decode M_TR_word.2.1 58 = .ok (.goto 4, 3) := by decide +kernel
theorem d_TR_word_61 : decode M_TR_word.2.1 61 = .ok (.iconst 0, 1) := by decide +kernel
theorem d_TR_word_62 : decode M_TR_word.2.1 62 = .ok (.istore 5, 2) := by decide +kernel
theorem d_TR_word_64 : decode M_TR_word.2.1 64 = .ok (.lload_n 2, 1) := by decide +kernel
theorem d_TR_word_65 : decode M_TR_word.2.1 65 = .ok (.bipush 8, 2) := by decide +kernel
theorem d_TR_word_67 : decode M_TR_word.2.1 67 = .ok (.lshl, 1) := by decide +kernel
theorem d_TR_word_68 : decode M_TR_word.2.1 68 = .ok (.iload 5, 2) := by decide +kernel
theorem d_TR_word_70 : decode M_TR_word.2.1 70 = .ok (.i2l, 1) := by decide +kernel
theorem d_TR_word_71 : decode M_TR_word.2.1 71 = .ok (.lor, 1) := by decide +kernel
theorem d_TR_word_72 : decode M_TR_word.2.1 72 = .ok (.lstore_n 2, 1) := by decide +kernel
theorem d_TR_word_73 : decode M_TR_word.2.1 73 = .ok (.iinc 4 1, 3) := by decide +kernel
theorem d_TR_word_76 : decode M_TR_word.2.1 76 = .ok (.goto (-49), 3) := by decide +kernel
theorem d_TR_word_79 : decode M_TR_word.2.1 79 = .ok (.lload_n 2, 1) := by decide +kernel
theorem d_TR_word_80 : decode M_TR_word.2.1 80 = .ok (.lreturn, 1) := by decide +kernel
set_option maxRecDepth 20000 in
theorem w_TR_word {E : xR} {h : xH} {f : Nat → Int32} {ra rl i : Nat} {v4 v5 v7 v8 v9 : Value} (h0 : h 0 = .inr (0, [.ref 1, .ref 2, .ref 15, .ref ra, v4, v5, .int (nI rl), v7, v8, v9])) (hra : ra = 19 ∨ ra = 20) (h1 : h ra = .inl (1, 4096, .inl f)) (hi : i < rl) (hr : rl ≤ 4096) : x_Mt E M_TR_word 6 1 6 [.ref 0, .int (nI i)] 52 h (x_Y (some (.long (g_wd f rl i 8))) 52 h) := by
  refine x_Mt.of (by decide) (Nat.le_of_ble_eq_true rfl) ?_
  have hra1 : ra < 52 := by omega
  have hra2 : ra < 1000000 := by omega
  have hloop : ∀ m k, k + m = 8 → x_W E M_TR_word (x_room 6 1 6) (x_Y (some (.long (g_wd f rl i 8))) 52 h) 52 h 27 [(0, .ref 0), (1, .int (nI i)), (2, .long (g_wd f rl i k)), (4, .int (nI k))] [] 0 0 := by
    intro m
    induction m with
    | zero =>
      intro k hk
      obtain rfl : k = 8 := by omega
      refine x_iload d_TR_word_27 rfl ?_
      refine x_bipush 8 d_TR_word_29 (by decide) ?_
      refine x_icmp_ge 79 d_TR_word_31 (by decide) (fun _ => ?_) (fun z => absurd (by decide) z)
      refine x_lload_n d_TR_word_79 rfl rfl ?_
      exact x_lreturn d_TR_word_80 rfl ⟨rfl, rfl, fun _ _ => rfl, rfl, rfl⟩
    | succ m ih =>
      intro k hk
      have hj : x_W E M_TR_word (x_room 6 1 6) (x_Y (some (.long (g_wd f rl i 8))) 52 h) 52 h 62 [(0, .ref 0), (1, .int (nI i)), (2, .long (g_wd f rl i k)), (4, .int (nI k))] [.int (g_wb f rl (i + k))] 0 0 := by
        refine x_istore d_TR_word_62 (Nat.le_of_ble_eq_true rfl) ?_
        refine x_lload_n d_TR_word_64 rfl rfl ?_
        refine x_bipush 8 d_TR_word_65 (by decide) ?_
        refine x_lshl d_TR_word_67 ?_
        refine x_iload d_TR_word_68 rfl ?_
        refine x_i2l d_TR_word_70 ?_
        refine x_lor d_TR_word_71 ?_
        refine x_lstore_n d_TR_word_72 rfl (Nat.le_of_ble_eq_true rfl) ?_
        refine x_iinc d_TR_word_73 rfl 1 (by decide) (Nat.le_of_ble_eq_true rfl) ?_
        refine x_goto 27 d_TR_word_76 (by decide) ?_
        refine x_lv [(0, .ref 0), (1, .int (nI i)), (2, .long (g_wd f rl i (k + 1))), (4, .int (nI (k + 1))), (5, .int (g_wb f rl (i + k)))] (by rw [← nI_1 k]; rfl) ?_
        exact x_wk [(0, .ref 0), (1, .int (nI i)), (2, .long (g_wd f rl i (k + 1))), (4, .int (nI (k + 1)))] (by simp) (ih (k + 1) (by omega))
      refine x_iload d_TR_word_27 rfl ?_
      refine x_bipush 8 d_TR_word_29 (by decide) ?_
      refine x_icmp_ge 79 d_TR_word_31 (by decide) (fun z => absurd z (show ¬ nI 8 ≤ nI k from nI_ge (by omega) (by decide))) (fun _ => ?_)
      refine x_iload_n d_TR_word_34 rfl rfl ?_
      refine x_iload d_TR_word_35 rfl ?_
      refine x_iadd d_TR_word_37 ?_
      refine x_topi (nI (i + k)) (nI_add i k) ?_
      refine x_aload_n d_TR_word_38 rfl rfl ?_
      refine x_get d_TR_word_39 f_TR_70 (Nat.le_of_ble_eq_true rfl) (Nat.le_of_ble_eq_true rfl) (by first | rfl | assumption) (by rfl) ?_
      refine x_icmp_ge 61 d_TR_word_42 (by decide) (fun c_42 => ?_) (fun c_42 => ?_)
      · refine x_iconst 0 d_TR_word_61 (by decide) ?_
        exact x_topi _ (g_wb_out c_42 (by omega) (by omega)) hj
      · refine x_aload_n d_TR_word_45 rfl rfl ?_
        refine x_get d_TR_word_46 f_TR_27 (Nat.le_of_ble_eq_true rfl) (Nat.le_of_ble_eq_true rfl) (by first | rfl | assumption) (by rfl) ?_
        refine x_iload_n d_TR_word_49 rfl rfl ?_
        refine x_iload d_TR_word_50 rfl ?_
        refine x_iadd d_TR_word_52 ?_
        refine x_topi (nI (i + k)) (nI_add i k) ?_
        refine x_bald d_TR_word_53 hra1 hra2 h1 (vp_in_nI (Nat.lt_of_lt_of_le (Nat.not_le.mp fun q => c_42 (nI_le q (by omega))) hr) (by decide)) ?_
        refine x_sipush 255 d_TR_word_54 (by decide) ?_
        refine x_iand d_TR_word_57 ?_
        refine x_topi _ (g_wb_in c_42 (by omega)) ?_
        refine x_goto 62 d_TR_word_58 (by decide) ?_
        exact hj
  show x_W E M_TR_word _ _ 52 h 0 [(0, .ref 0), (1, .int (nI i))] [] 0 0
  refine x_iload_n d_TR_word_0 rfl rfl ?_
  refine x_if_lt 12 d_TR_word_1 (by decide) (fun z => absurd z (nI_pos (by omega))) (fun _ => ?_)
  refine x_iload_n d_TR_word_4 rfl rfl ?_
  refine x_aload_n d_TR_word_5 rfl rfl ?_
  refine x_get d_TR_word_6 f_TR_70 (Nat.le_of_ble_eq_true rfl) (Nat.le_of_ble_eq_true rfl) (by first | rfl | assumption) (by rfl) ?_
  refine x_icmp_lt 22 d_TR_word_9 (by decide) (fun _ => ?_) (fun z => absurd (nI_lt hi (by omega)) z)
  refine x_lconst 0 d_TR_word_22 (by decide) ?_
  refine x_lstore_n d_TR_word_23 rfl (Nat.le_of_ble_eq_true rfl) ?_
  refine x_iconst 0 d_TR_word_24 (by decide) ?_
  refine x_istore d_TR_word_25 (Nat.le_of_ble_eq_true rfl) ?_
  exact hloop 8 0 rfl
set_option maxRecDepth 20000 in
theorem w_TR_word_no {E : xR} {h : xH} {rl : Nat} {x : Int32} {v3 v4 v5 v7 v8 v9 : Value} (h0 : h 0 = .inr (0, [.ref 1, .ref 2, .ref 15, v3, v4, v5, .int (nI rl), v7, v8, v9])) (hx : x < 0 ∨ ¬ x < nI rl) : x_Mt E M_TR_word 6 1 6 [.ref 0, .int x] 52 h (x_X 0 52 h) := by
  refine x_Mt.of (by decide) (Nat.le_of_ble_eq_true rfl) ?_
  show x_W E M_TR_word _ _ 52 h 0 [(0, .ref 0), (1, .int x)] [] 0 0
  refine x_iload_n d_TR_word_0 rfl rfl ?_
  refine x_if_lt 12 d_TR_word_1 (by decide) (fun c_1 => ?_) (fun c_1 => ?_)
  · exact x_throwB 0 rfl d_TR_word_12 d_TR_word_15 d_TR_word_16 d_TR_word_18 d_TR_word_21 t_TR_37_84 (Nat.le_of_ble_eq_true rfl) (Nat.le_of_ble_eq_true rfl) (Nat.le_of_ble_eq_true rfl) (Nat.le_of_ble_eq_true rfl) (Nat.le_of_ble_eq_true rfl) rfl ⟨rfl, rfl, fun _ _ => rfl, rfl, rfl⟩
  · refine x_iload_n d_TR_word_4 rfl rfl ?_
    refine x_aload_n d_TR_word_5 rfl rfl ?_
    refine x_get d_TR_word_6 f_TR_70 (Nat.le_of_ble_eq_true rfl) (Nat.le_of_ble_eq_true rfl) (by first | rfl | assumption) (by rfl) ?_
    refine x_icmp_lt 22 d_TR_word_9 (by decide) (fun z => absurd z (hx.resolve_left c_1)) (fun _ => ?_)
    exact x_throwB 0 rfl d_TR_word_12 d_TR_word_15 d_TR_word_16 d_TR_word_18 d_TR_word_21 t_TR_37_84 (Nat.le_of_ble_eq_true rfl) (Nat.le_of_ble_eq_true rfl) (Nat.le_of_ble_eq_true rfl) (Nat.le_of_ble_eq_true rfl) (Nat.le_of_ble_eq_true rfl) rfl ⟨rfl, rfl, fun _ _ => rfl, rfl, rfl⟩
