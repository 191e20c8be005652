theorem d_LA_feed_0 : decode M_LA_feed.2.1 0 = .ok (.aload 6, 2) := by decide +kernel
theorem d_LA_feed_2 : decode M_LA_feed.2.1 2 = .ok (.iconst 0, 1) := by decide +kernel
theorem d_LA_feed_3 : decode M_LA_feed.2.1 3 = .ok (.aload_n 0, 1) := by decide +kernel
theorem d_LA_feed_4 : decode M_LA_feed.2.1 4 = .ok (.iload_n 1, 1) := by decide +kernel
theorem d_LA_feed_5 : decode M_LA_feed.2.1 5 = .ok (.iload_n 2, 1) := by decide +kernel
theorem d_LA_feed_6 : decode M_LA_feed.2.1 6 = .ok (.iload_n 3, 1) := by decide +kernel
theorem d_LA_feed_7 : decode M_LA_feed.2.1 7 = .ok (.iload 4, 2) := by decide +kernel
theorem d_LA_feed_9 : decode M_LA_feed.2.1 9 = .ok (.iload 5, 2) := by decide +kernel
theorem d_LA_feed_11 : decode M_LA_feed.2.1 11 = .ok (.invokevirtual 7, 3) := by decide +kernel
theorem d_LA_feed_14 : decode M_LA_feed.2.1 14 = .ok (.i2l, 1) := by decide +kernel
theorem d_LA_feed_15 : decode M_LA_feed.2.1 15 = .ok (.lastore, 1) := by decide +kernel
theorem d_LA_feed_16 : decode M_LA_feed.2.1 16 = .ok (.goto 7, 3) := by decide +kernel
theorem d_LA_feed_19 : decode M_LA_feed.2.1 19 = .ok (.astore 7, 2) := by decide +kernel
theorem d_LA_feed_21 : decode M_LA_feed.2.1 21 = .ok (.iconst 1, 1) := by decide +kernel
theorem d_LA_feed_22 : decode M_LA_feed.2.1 22 = .ok (.ireturn, 1) := by decide +kernel
theorem d_LA_feed_23 : decode M_LA_feed.2.1 23 = .ok (.iconst 0, 1) := by decide +kernel
theorem d_LA_feed_24 : decode M_LA_feed.2.1 24 = .ok (.ireturn, 1) := by decide +kernel
set_option maxRecDepth 20000 in
theorem w_LA_feed {E : xR} {h : xH} {f : Nat → Int32} {g : Nat → Int64} {t : Nat} {a b c d e : Int32} {v3 v4 v6 v7 v8 v9 : Value} (hnt : ¬ x_tg E) (h0 : h 0 = .inr (0, [.ref 1, .ref 2, .ref 15, v3, v4, .int (nI t), v6, v7, v8, v9])) (h1 : h 1 = .inl (1, 4096, .inl f)) (ho : h 51 = .inl (2, 1, .inr (.inl g))) (ht : t + 20 ≤ 4096) : x_Mt E M_LA_feed 7 1 6 [.ref 0, .int a, .int b, .int c, .int d, .int e, .ref 51] 52 h (x_YN (some (.int 0)) 52 (x_up (x_up (x_up h 0 (.inr (0, [.ref 1, .ref 2, .ref 15, v3, v4, .int (nI (t + 20)), v6, v7, v8, v9]))) 1 (.inl (1, 4096, .inl (g_feed f t a b c d e)))) 51 (.inl (2, 1, .inr (.inl (vp_updL g 0 (nI (t + 20)).toInt64))))) 0 0) := by
  refine x_Mt.of (by decide) (Nat.le_of_ble_eq_true rfl) ?_
  show x_W E M_LA_feed _ _ 52 h 0 [(0, .ref 0), (1, .int a), (2, .int b), (3, .int c), (4, .int d), (5, .int e), (6, .ref 51)] [] 0 0
  refine x_aload d_LA_feed_0 rfl ?_
  refine x_iconst 0 d_LA_feed_2 (by decide) ?_
  refine x_aload_n d_LA_feed_3 rfl rfl ?_
  refine x_iload_n d_LA_feed_4 rfl rfl ?_
  refine x_iload_n d_LA_feed_5 rfl rfl ?_
  refine x_iload_n d_LA_feed_6 rfl rfl ?_
  refine x_iload d_LA_feed_7 rfl ?_
  refine x_iload d_LA_feed_9 rfl ?_
  refine x_callCV5Y d_LA_feed_11 k_LA_7 (Nat.le_of_ble_eq_true rfl) (Nat.le_of_ble_eq_true rfl) (by first | rfl | assumption) (by rfl) (w_TR_feed h0 h1 ht) (Nat.le_of_ble_eq_true rfl) (Nat.le_of_ble_eq_true rfl) (Nat.le_of_ble_eq_true rfl) (Nat.le_of_ble_eq_true rfl) (Nat.le_of_ble_eq_true rfl) hnt 7 (Nat.le_of_ble_eq_true rfl) ?_
  refine x_i2l d_LA_feed_14 ?_
  refine x_last d_LA_feed_15 (Nat.le_of_ble_eq_true rfl) (Nat.le_of_ble_eq_true rfl) (by first | rfl | assumption) (vp_in_nI (by decide) (by decide)) ?_
  refine x_goto 23 d_LA_feed_16 (by decide) ?_
  refine x_iconst 0 d_LA_feed_23 (by decide) ?_
  exact x_ireturn d_LA_feed_24 rfl rfl ⟨rfl, rfl, fun _ _ => rfl, rfl, rfl⟩
set_option maxRecDepth 20000 in
theorem w_LA_feed_no {E : xR} {h : xH} {t : Nat} {a b c d e : Int32} {v3 v4 v6 v7 v8 v9 : Value} (hnt : ¬ x_tg E) (h0 : h 0 = .inr (0, [.ref 1, .ref 2, .ref 15, v3, v4, .int (nI t), v6, v7, v8, v9])) (ht : 4096 < t + 20) (h4 : t ≤ 4096) : x_Mt E M_LA_feed 7 1 6 [.ref 0, .int a, .int b, .int c, .int d, .int e, .ref 51] 52 h (x_YN (some (.int 1)) 52 h 1 6) := by
  refine x_Mt.of (by decide) (Nat.le_of_ble_eq_true rfl) ?_
  show x_W E M_LA_feed _ _ 52 h 0 [(0, .ref 0), (1, .int a), (2, .int b), (3, .int c), (4, .int d), (5, .int e), (6, .ref 51)] [] 0 0
  refine x_aload d_LA_feed_0 rfl ?_
  refine x_iconst 0 d_LA_feed_2 (by decide) ?_
  refine x_aload_n d_LA_feed_3 rfl rfl ?_
  refine x_iload_n d_LA_feed_4 rfl rfl ?_
  refine x_iload_n d_LA_feed_5 rfl rfl ?_
  refine x_iload_n d_LA_feed_6 rfl rfl ?_
  refine x_iload d_LA_feed_7 rfl ?_
  refine x_iload d_LA_feed_9 rfl ?_
  refine x_callCV5X d_LA_feed_11 k_LA_7 (Nat.le_of_ble_eq_true rfl) (Nat.le_of_ble_eq_true rfl) (by first | rfl | assumption) (by rfl) (w_TR_feed_no h0 ht h4) (Nat.le_of_ble_eq_true rfl) (Nat.le_of_ble_eq_true rfl) (Nat.le_of_ble_eq_true rfl) (Nat.le_of_ble_eq_true rfl) (Nat.le_of_ble_eq_true rfl) hnt 7 (Nat.le_of_ble_eq_true rfl) ⟨[], (0, 16, 19, 13), _, rfl, (fun z hz => by cases hz), by decide, by decide, by decide, ⟨_, x_mem 271 (by decide +kernel) (by decide +kernel), x_mem 278 (by decide +kernel) (by decide +kernel)⟩, Or.inr ⟨d_LA_feed_19, ?_⟩⟩
  refine x_iconst 1 d_LA_feed_21 (by decide) ?_
  exact x_ireturn d_LA_feed_22 rfl rfl ⟨rfl, rfl, fun _ _ => rfl, rfl, rfl⟩
