theorem d_LA_feed_0 : decode M_LA_feed.2.1 0 = .ok (.aload 6, 2) := by decide +kernel
theorem d_LA_feed_2 : decode M_LA_feed.2.1 2 = .ok (.iconst 0, 1) := by decide +kernel
theorem d_LA_feed_3 : decode M_LA_feed.2.1 3 = .ok (.aload_n 0, 1) := by decide +kernel
theorem d_LA_feed_4 : decode M_LA_feed.2.1 4 = .ok (.iload_n 1, 1) := by decide +kernel
theorem d_LA_feed_5 : decode M_LA_feed.2.1 5 = .ok (.iload_n 2, 1) := by decide +kernel
theorem d_LA_feed_6 : decode M_LA_feed.2.1 6 = .ok (.iload_n 3, 1) := by decide +kernel
theorem d_LA_feed_7 : decode M_LA_feed.2.1 7 = .ok (.iload 4, 2) := by decide +kernel
theorem d_LA_feed_9 : decode M_LA_feed.2.1 9 = .ok (.iload 5, 2) := by decide +kernel
theorem d_LA_feed_11 : decode M_LA_feed.2.1 11 = .ok (.invokevirtual 7, 3) := by decide +kernel
theorem d_LA_feed_14 : decode M_LA_feed.2.1 14 = .ok (.i2l, 1) := by decide +kernel
theorem d_LA_feed_15 : decode M_LA_feed.2.1 15 = .ok (.lastore, 1) := by decide +kernel
theorem d_LA_feed_16 : decode M_LA_feed.2.1 16 = .ok (.goto 7, 3) := by decide +kernel
theorem d_LA_feed_19 : decode M_LA_feed.2.1 19 = .ok (.astore 7, 2) := by decide +kernel
theorem d_LA_feed_21 : decode M_LA_feed.2.1 21 = .ok (.iconst 1, 1) := by decide +kernel
theorem d_LA_feed_22 : decode M_LA_feed.2.1 22 = .ok (.ireturn, 1) := by decide +kernel
theorem d_LA_feed_23 : decode M_LA_feed.2.1 23 = .ok (.iconst 0, 1) := by decide +kernel
theorem d_LA_feed_24 : decode M_LA_feed.2.1 24 = .ok (.ireturn, 1) := by decide +kernel
set_option maxRecDepth 20000 in
theorem w_LA_feed {E : xR} {h : xH} {f : Nat → Int32} {g : Nat → Int64} {t : Nat} {a b c d e : Int32} {v3 v4 v6 v7 v8 v9 : Value} (hnt : ¬ x_tg E) (h0 : h 0 = .inr (0, [.ref 1, .ref 2, .ref 15, v3, v4, .int (nI t), v6, v7, v8, v9])) (h1 : h 1 = .inl (1, 4096, .inl f)) (ho : h 51 = .inl (2, 1, .inr (.inl g))) (ht : t + 20 ≤ 4096) : x_Mt E M_LA_feed 7 1 6 [.ref 0, .int a, .int b, .int c, .int d, .int e, .ref 51] 52 h (x_YN (some (.int 0)) 52 (x_up (x_up (x_up h 0 (.inr (0, [.ref 1, .ref 2, .ref 15, v3, v4, .int (nI (t + 20)), v6, v7, v8, v9]))) 1 (.inl (1, 4096, .inl (g_feed f t a b c d e)))) 51 (.inl (2, 1, .inr (.inl (vp_updL g 0 (nI (t + 20)).toInt64))))) 0 0) := by
  refine x_Mt.of (by decide) (Nat.le_of_ble_eq_true rfl) ?_
  show x_W E M_LA_feed _ _ 52 h 0 [(0, .ref 0), (1, .int a), (2, .int b), (3, .int c), (4, .int d), (5, .int e), (6, .ref 51)] [] 0 0
  refine x_aload d_LA_feed_0 rfl ?_
  refine x_iconst 0 d_LA_feed_2 (by decide) ?_
  refine x_aload_n d_LA_feed_3 rfl rfl ?_
  refine x_iload_n d_LA_feed_4 rfl rfl ?_
  refine x_iload_n d_LA_feed_5 rfl rfl ?_
  refine x_iload_n d_LA_feed_6 rfl rfl ?_
  refine x_iload d_LA_feed_7 rfl ?_
  refine x_iload d_LA_feed_9 rfl ?_
  refine x_callCV5Y d_LA_feed_11 k_LA_7 (Nat.le_of_ble_eq_true rfl) (Nat.le_of_ble_eq_true rfl) (by first | rfl | assumption) (by rfl) (w_TR_feed h0 h1 ht) (Nat.le_of_ble_eq_true rfl) (Nat.le_of_ble_eq_true rfl) (Nat.le_of_ble_eq_true rfl) (Nat.le_of_ble_eq_true rfl) (Nat.le_of_ble_eq_true rfl) hnt 7 (Nat.le_of_ble_eq_true rfl) ?_
  refine x_i2l d_LA_feed_14 ?_
  refine x_last d_LA_feed_15 (Nat.le_of_ble_eq_true rfl) (Nat.le_of_ble_eq_true rfl) (by first | rfl | assumption) (vp_in_nI (by decide) (by decide)) ?_
  refine x_goto 23 d_LA_feed_16 (by decide) ?_
  refine x_iconst 0 d_LA_feed_23 (by decide) ?_
  exact x_ireturn d_LA_feed_24 rfl rfl ⟨rfl, rfl, fun _ _ => rfl, rfl, rfl⟩
set_option maxRecDepth 20000 in
theorem w_LA_feed_no {E : xR} {h : xH} {t : Nat} {a b c d e : Int32} {v3 v4 v6 v7 v8 v9 : Value} (hnt : ¬ x_tg E) (h0 : h 0 = .inr (0, [.ref 1, .ref 2, .ref 15, v3, v4, .int (nI t), v6, v7, v8, v9])) (ht : 4096 < t + 20) (h4 : t ≤ 4096) : x_Mt E M_LA_feed 7 1 6 [.ref 0, .int a, .int b, .int c, .int d, .int e, .ref 51] 52 h (x_YN (some (.int 1)) 52 h 1 6) := by
  refine x_Mt.of (by decide) (Nat.le_of_ble_eq_true rfl) ?_
  show x_W E M_LA_feed _ _ 52 h 0 [(0, .ref 0), (1, .int a), (2, .int b), (3, .int c), (4, .int d), (5, .int e), (6, .ref 51)] [] 0 0
  refine x_aload d_LA_feed_0 rfl ?_
  refine x_iconst 0 d_LA_feed_2 (by decide) ?_
  refine x_aload_n d_LA_feed_3 rfl rfl ?_
  refine x_iload_n d_LA_feed_4 rfl rfl ?_
  refine x_iload_n d_LA_feed_5 rfl rfl ?_
  refine x_iload_n d_LA_feed_6 rfl rfl ?_
  refine x_iload d_LA_feed_7 rfl ?_
  refine x_iload d_LA_feed_9 rfl ?_
  refine x_callCV5X d_LA_feed_11 k_LA_7 (Nat.le_of_ble_eq_true rfl) (Nat.le_of_ble_eq_true rfl) (by first | rfl | assumption) (by rfl) (w_TR_feed_no h0 ht h4) (Nat.le_of_ble_eq_true rfl) (Nat.le_of_ble_eq_true rfl) (Nat.le_of_ble_eq_true rfl) (Nat.le_of_ble_eq_true rfl) (Nat.le_of_ble_eq_true rfl) hnt 7 (Nat.le_of_ble_eq_true rfl) ⟨[], (0, 16, 19, 13), _, rfl, (fun z hz => by cases hz), by decide, by decide, by decide, ⟨"java/lang/IndexOutOfBoundsException", x_mem 271 (by decide +kernel) (by decide +kernel), x_mem 278 (by decide +kernel) (by decide +kernel)⟩, Or.inr ⟨d_LA_feed_19, ?_⟩⟩
  refine x_iconst 1 d_LA_feed_21 (by decide) ?_
  exact x_ireturn d_LA_feed_22 rfl rfl ⟨rfl, rfl, fun _ _ => rfl, rfl, rfl⟩
theorem d_LA_end_0 : decode M_LA_end.2.1 0 = .ok (.aload_n 2, 1) := by decide +kernel
theorem d_LA_end_1 : decode M_LA_end.2.1 1 = .ok (.iconst 0, 1) := by decide +kernel
theorem d_LA_end_2 : decode M_LA_end.2.1 2 = .ok (.aload_n 0, 1) := by decide +kernel
theorem d_LA_end_3 : decode M_LA_end.2.1 3 = .ok (.iload_n 1, 1) := by decide +kernel
theorem d_LA_end_4 : decode M_LA_end.2.1 4 = .ok (.invokevirtual 15, 3) := by decide +kernel
theorem d_LA_end_7 : decode M_LA_end.2.1 7 = .ok (.i2l, 1) := by decide +kernel
theorem d_LA_end_8 : decode M_LA_end.2.1 8 = .ok (.lastore, 1) := by decide +kernel
theorem d_LA_end_9 : decode M_LA_end.2.1 9 = .ok (.goto 6, 3) := by decide +kernel
theorem d_LA_end_12 : decode M_LA_end.2.1 12 = .ok (.astore_n 3, 1) := by decide +kernel
theorem d_LA_end_13 : decode M_LA_end.2.1 13 = .ok (.iconst 1, 1) := by decide +kernel
theorem d_LA_end_14 : decode M_LA_end.2.1 14 = .ok (.ireturn, 1) := by decide +kernel
theorem d_LA_end_15 : decode M_LA_end.2.1 15 = .ok (.iconst 0, 1) := by decide +kernel
theorem d_LA_end_16 : decode M_LA_end.2.1 16 = .ok (.ireturn, 1) := by decide +kernel
set_option maxRecDepth 20000 in
theorem w_LA_end {E : xR} {h : xH} {g : Nat → Int64} {t m : Nat} {v3 v4 v6 v7 v8 v9 : Value} (hnt : ¬ x_tg E) (h0 : h 0 = .inr (0, [.ref 1, .ref 2, .ref 15, v3, v4, .int (nI t), v6, v7, v8, v9])) (ho : h 51 = .inl (2, 1, .inr (.inl g))) (hm : m ≤ t) (h4 : t ≤ 4096) : x_Mt E M_LA_end 7 1 6 [.ref 0, .int (nI m), .ref 51] 52 h (x_YN (some (.int 0)) 52 (x_up (x_up h 0 (.inr (0, [.ref 1, .ref 2, .ref 15, v3, v4, .int (nI m), v6, v7, v8, v9]))) 51 (.inl (2, 1, .inr (.inl (vp_updL g 0 (nI m).toInt64))))) 0 0) := by
  refine x_Mt.of (by decide) (Nat.le_of_ble_eq_true rfl) ?_
  show x_W E M_LA_end _ _ 52 h 0 [(0, .ref 0), (1, .int (nI m)), (2, .ref 51)] [] 0 0
  refine x_aload_n d_LA_end_0 rfl rfl ?_
  refine x_iconst 0 d_LA_end_1 (by decide) ?_
  refine x_aload_n d_LA_end_2 rfl rfl ?_
  refine x_iload_n d_LA_end_3 rfl rfl ?_
  refine x_callCV1Y d_LA_end_4 k_LA_15 (Nat.le_of_ble_eq_true rfl) (Nat.le_of_ble_eq_true rfl) (by first | rfl | assumption) (by rfl) (w_TR_end h0 hm h4) (Nat.le_of_ble_eq_true rfl) (Nat.le_of_ble_eq_true rfl) (Nat.le_of_ble_eq_true rfl) (Nat.le_of_ble_eq_true rfl) (Nat.le_of_ble_eq_true rfl) hnt 3 (Nat.le_of_ble_eq_true rfl) ?_
  refine x_i2l d_LA_end_7 ?_
  refine x_last d_LA_end_8 (Nat.le_of_ble_eq_true rfl) (Nat.le_of_ble_eq_true rfl) (by first | rfl | assumption) (vp_in_nI (by decide) (by decide)) ?_
  refine x_goto 15 d_LA_end_9 (by decide) ?_
  refine x_iconst 0 d_LA_end_15 (by decide) ?_
  exact x_ireturn d_LA_end_16 rfl rfl ⟨rfl, rfl, fun _ _ => rfl, rfl, rfl⟩
set_option maxRecDepth 20000 in
theorem w_LA_end_no {E : xR} {h : xH} {x : Int32} {t : Nat} {v3 v4 v6 v7 v8 v9 : Value} (hnt : ¬ x_tg E) (h0 : h 0 = .inr (0, [.ref 1, .ref 2, .ref 15, v3, v4, .int (nI t), v6, v7, v8, v9])) (hx : x < 0 ∨ ¬ x ≤ nI t) : x_Mt E M_LA_end 7 1 6 [.ref 0, .int x, .ref 51] 52 h (x_YN (some (.int 1)) 52 h 1 6) := by
  refine x_Mt.of (by decide) (Nat.le_of_ble_eq_true rfl) ?_
  show x_W E M_LA_end _ _ 52 h 0 [(0, .ref 0), (1, .int x), (2, .ref 51)] [] 0 0
  refine x_aload_n d_LA_end_0 rfl rfl ?_
  refine x_iconst 0 d_LA_end_1 (by decide) ?_
  refine x_aload_n d_LA_end_2 rfl rfl ?_
  refine x_iload_n d_LA_end_3 rfl rfl ?_
  refine x_callCV1X d_LA_end_4 k_LA_15 (Nat.le_of_ble_eq_true rfl) (Nat.le_of_ble_eq_true rfl) (by first | rfl | assumption) (by rfl) (w_TR_end_no h0 hx) (Nat.le_of_ble_eq_true rfl) (Nat.le_of_ble_eq_true rfl) (Nat.le_of_ble_eq_true rfl) (Nat.le_of_ble_eq_true rfl) (Nat.le_of_ble_eq_true rfl) hnt 3 (Nat.le_of_ble_eq_true rfl) ⟨[], (0, 9, 12, 19), _, rfl, (fun z hz => by cases hz), by decide, by decide, by decide, ⟨"java/lang/IllegalArgumentException", x_mem 351 (by decide +kernel) (by decide +kernel), x_mem 358 (by decide +kernel) (by decide +kernel)⟩, Or.inl ⟨3, d_LA_end_12, rfl, ?_⟩⟩
  refine x_iconst 1 d_LA_end_13 (by decide) ?_
  exact x_ireturn d_LA_end_14 rfl rfl ⟨rfl, rfl, fun _ _ => rfl, rfl, rfl⟩
theorem d_LA_about_0 : decode M_LA_about.2.1 0 = .ok (.aload_n 2, 1) := by decide +kernel
theorem d_LA_about_1 : decode M_LA_about.2.1 1 = .ok (.iconst 0, 1) := by decide +kernel
theorem d_LA_about_2 : decode M_LA_about.2.1 2 = .ok (.aload_n 0, 1) := by decide +kernel
theorem d_LA_about_3 : decode M_LA_about.2.1 3 = .ok (.iload_n 1, 1) := by decide +kernel
theorem d_LA_about_4 : decode M_LA_about.2.1 4 = .ok (.invokevirtual 27, 3) := by decide +kernel
theorem d_LA_about_7 : decode M_LA_about.2.1 7 = .ok (.i2l, 1) := by decide +kernel
theorem d_LA_about_8 : decode M_LA_about.2.1 8 = .ok (.lastore, 1) := by decide +kernel
theorem d_LA_about_9 : decode M_LA_about.2.1 9 = .ok (.goto 6, 3) := by decide +kernel
theorem d_LA_about_12 : decode M_LA_about.2.1 12 = .ok (.astore_n 3, 1) := by decide +kernel
theorem d_LA_about_13 : decode M_LA_about.2.1 13 = .ok (.iconst 1, 1) := by decide +kernel
theorem d_LA_about_14 : decode M_LA_about.2.1 14 = .ok (.ireturn, 1) := by decide +kernel
theorem d_LA_about_15 : decode M_LA_about.2.1 15 = .ok (.iconst 0, 1) := by decide +kernel
theorem d_LA_about_16 : decode M_LA_about.2.1 16 = .ok (.ireturn, 1) := by decide +kernel
set_option maxRecDepth 20000 in
theorem w_LA_about0 {E : xR} {h : xH} {g : Nat → Int64} {sy va ne : Int32} {v3 v4 v5 v6 : Value} (hnt : ¬ x_tg E) (h0 : h 0 = .inr (0, [.ref 1, .ref 2, .ref 15, v3, v4, v5, v6, .int sy, .int va, .int ne])) (ho : h 51 = .inl (2, 1, .inr (.inl g))) : x_Mt E M_LA_about 7 1 6 [.ref 0, .int 0, .ref 51] 52 h (x_YN (some (.int 0)) 52 (x_up h 51 (.inl (2, 1, .inr (.inl (vp_updL g 0 sy.toInt64))))) 0 0) := by
  refine x_Mt.of (by decide) (Nat.le_of_ble_eq_true rfl) ?_
  show x_W E M_LA_about _ _ 52 h 0 [(0, .ref 0), (1, .int 0), (2, .ref 51)] [] 0 0
  refine x_aload_n d_LA_about_0 rfl rfl ?_
  refine x_iconst 0 d_LA_about_1 (by decide) ?_
  refine x_aload_n d_LA_about_2 rfl rfl ?_
  refine x_iload_n d_LA_about_3 rfl rfl ?_
  refine x_callCV1Y d_LA_about_4 k_LA_27 (Nat.le_of_ble_eq_true rfl) (Nat.le_of_ble_eq_true rfl) (by first | rfl | assumption) (by rfl) (w_TR_about0 h0) (Nat.le_of_ble_eq_true rfl) (Nat.le_of_ble_eq_true rfl) (Nat.le_of_ble_eq_true rfl) (Nat.le_of_ble_eq_true rfl) (Nat.le_of_ble_eq_true rfl) hnt 3 (Nat.le_of_ble_eq_true rfl) ?_
  refine x_i2l d_LA_about_7 ?_
  refine x_last d_LA_about_8 (Nat.le_of_ble_eq_true rfl) (Nat.le_of_ble_eq_true rfl) (by first | rfl | assumption) (vp_in_nI (by decide) (by decide)) ?_
  refine x_goto 15 d_LA_about_9 (by decide) ?_
  refine x_iconst 0 d_LA_about_15 (by decide) ?_
  exact x_ireturn d_LA_about_16 rfl rfl ⟨rfl, rfl, fun _ _ => rfl, rfl, rfl⟩
set_option maxRecDepth 20000 in
theorem w_LA_about1 {E : xR} {h : xH} {g : Nat → Int64} {sy va ne : Int32} {v3 v4 v5 v6 : Value} (hnt : ¬ x_tg E) (h0 : h 0 = .inr (0, [.ref 1, .ref 2, .ref 15, v3, v4, v5, v6, .int sy, .int va, .int ne])) (ho : h 51 = .inl (2, 1, .inr (.inl g))) : x_Mt E M_LA_about 7 1 6 [.ref 0, .int 1, .ref 51] 52 h (x_YN (some (.int 0)) 52 (x_up h 51 (.inl (2, 1, .inr (.inl (vp_updL g 0 va.toInt64))))) 0 0) := by
  refine x_Mt.of (by decide) (Nat.le_of_ble_eq_true rfl) ?_
  show x_W E M_LA_about _ _ 52 h 0 [(0, .ref 0), (1, .int 1), (2, .ref 51)] [] 0 0
  refine x_aload_n d_LA_about_0 rfl rfl ?_
  refine x_iconst 0 d_LA_about_1 (by decide) ?_
  refine x_aload_n d_LA_about_2 rfl rfl ?_
  refine x_iload_n d_LA_about_3 rfl rfl ?_
  refine x_callCV1Y d_LA_about_4 k_LA_27 (Nat.le_of_ble_eq_true rfl) (Nat.le_of_ble_eq_true rfl) (by first | rfl | assumption) (by rfl) (w_TR_about1 h0) (Nat.le_of_ble_eq_true rfl) (Nat.le_of_ble_eq_true rfl) (Nat.le_of_ble_eq_true rfl) (Nat.le_of_ble_eq_true rfl) (Nat.le_of_ble_eq_true rfl) hnt 3 (Nat.le_of_ble_eq_true rfl) ?_
  refine x_i2l d_LA_about_7 ?_
  refine x_last d_LA_about_8 (Nat.le_of_ble_eq_true rfl) (Nat.le_of_ble_eq_true rfl) (by first | rfl | assumption) (vp_in_nI (by decide) (by decide)) ?_
  refine x_goto 15 d_LA_about_9 (by decide) ?_
  refine x_iconst 0 d_LA_about_15 (by decide) ?_
  exact x_ireturn d_LA_about_16 rfl rfl ⟨rfl, rfl, fun _ _ => rfl, rfl, rfl⟩
set_option maxRecDepth 20000 in
theorem w_LA_about2 {E : xR} {h : xH} {g : Nat → Int64} {sy va ne : Int32} {v3 v4 v5 v6 : Value} (hnt : ¬ x_tg E) (h0 : h 0 = .inr (0, [.ref 1, .ref 2, .ref 15, v3, v4, v5, v6, .int sy, .int va, .int ne])) (ho : h 51 = .inl (2, 1, .inr (.inl g))) : x_Mt E M_LA_about 7 1 6 [.ref 0, .int 2, .ref 51] 52 h (x_YN (some (.int 0)) 52 (x_up h 51 (.inl (2, 1, .inr (.inl (vp_updL g 0 ne.toInt64))))) 0 0) := by
  refine x_Mt.of (by decide) (Nat.le_of_ble_eq_true rfl) ?_
  show x_W E M_LA_about _ _ 52 h 0 [(0, .ref 0), (1, .int 2), (2, .ref 51)] [] 0 0
  refine x_aload_n d_LA_about_0 rfl rfl ?_
  refine x_iconst 0 d_LA_about_1 (by decide) ?_
  refine x_aload_n d_LA_about_2 rfl rfl ?_
  refine x_iload_n d_LA_about_3 rfl rfl ?_
  refine x_callCV1Y d_LA_about_4 k_LA_27 (Nat.le_of_ble_eq_true rfl) (Nat.le_of_ble_eq_true rfl) (by first | rfl | assumption) (by rfl) (w_TR_about2 h0) (Nat.le_of_ble_eq_true rfl) (Nat.le_of_ble_eq_true rfl) (Nat.le_of_ble_eq_true rfl) (Nat.le_of_ble_eq_true rfl) (Nat.le_of_ble_eq_true rfl) hnt 3 (Nat.le_of_ble_eq_true rfl) ?_
  refine x_i2l d_LA_about_7 ?_
  refine x_last d_LA_about_8 (Nat.le_of_ble_eq_true rfl) (Nat.le_of_ble_eq_true rfl) (by first | rfl | assumption) (vp_in_nI (by decide) (by decide)) ?_
  refine x_goto 15 d_LA_about_9 (by decide) ?_
  refine x_iconst 0 d_LA_about_15 (by decide) ?_
  exact x_ireturn d_LA_about_16 rfl rfl ⟨rfl, rfl, fun _ _ => rfl, rfl, rfl⟩
set_option maxRecDepth 20000 in
theorem w_LA_about_no {E : xR} {h : xH} {x : Int32} {fs : List Value} (hnt : ¬ x_tg E) (h0 : h 0 = .inr (0, fs)) (hx : x < 0 ∨ ¬ x ≤ 2) : x_Mt E M_LA_about 7 1 6 [.ref 0, .int x, .ref 51] 52 h (x_YN (some (.int 1)) 52 h 1 6) := by
  refine x_Mt.of (by decide) (Nat.le_of_ble_eq_true rfl) ?_
  show x_W E M_LA_about _ _ 52 h 0 [(0, .ref 0), (1, .int x), (2, .ref 51)] [] 0 0
  refine x_aload_n d_LA_about_0 rfl rfl ?_
  refine x_iconst 0 d_LA_about_1 (by decide) ?_
  refine x_aload_n d_LA_about_2 rfl rfl ?_
  refine x_iload_n d_LA_about_3 rfl rfl ?_
  refine x_callCV1X d_LA_about_4 k_LA_27 (Nat.le_of_ble_eq_true rfl) (Nat.le_of_ble_eq_true rfl) (by first | rfl | assumption) (by rfl) (w_TR_about_no hx) (Nat.le_of_ble_eq_true rfl) (Nat.le_of_ble_eq_true rfl) (Nat.le_of_ble_eq_true rfl) (Nat.le_of_ble_eq_true rfl) (Nat.le_of_ble_eq_true rfl) hnt 3 (Nat.le_of_ble_eq_true rfl) ⟨[], (0, 9, 12, 19), _, rfl, (fun z hz => by cases hz), by decide, by decide, by decide, ⟨"java/lang/IllegalArgumentException", x_mem 351 (by decide +kernel) (by decide +kernel), x_mem 358 (by decide +kernel) (by decide +kernel)⟩, Or.inl ⟨3, d_LA_about_12, rfl, ?_⟩⟩
  refine x_iconst 1 d_LA_about_13 (by decide) ?_
  exact x_ireturn d_LA_about_14 rfl rfl ⟨rfl, rfl, fun _ _ => rfl, rfl, rfl⟩
theorem d_LA_count_0 : decode M_LA_count.2.1 0 = .ok (.aload_n 2, 1) := by decide +kernel
theorem d_LA_count_1 : decode M_LA_count.2.1 1 = .ok (.iconst 0, 1) := by decide +kernel
theorem d_LA_count_2 : decode M_LA_count.2.1 2 = .ok (.aload_n 0, 1) := by decide +kernel
theorem d_LA_count_3 : decode M_LA_count.2.1 3 = .ok (.iload_n 1, 1) := by decide +kernel
theorem d_LA_count_4 : decode M_LA_count.2.1 4 = .ok (.invokevirtual 34, 3) := by decide +kernel
theorem d_LA_count_7 : decode M_LA_count.2.1 7 = .ok (.i2l, 1) := by decide +kernel
theorem d_LA_count_8 : decode M_LA_count.2.1 8 = .ok (.lastore, 1) := by decide +kernel
theorem d_LA_count_9 : decode M_LA_count.2.1 9 = .ok (.goto 6, 3) := by decide +kernel
theorem d_LA_count_12 : decode M_LA_count.2.1 12 = .ok (.astore_n 3, 1) := by decide +kernel
theorem d_LA_count_13 : decode M_LA_count.2.1 13 = .ok (.iconst 1, 1) := by decide +kernel
theorem d_LA_count_14 : decode M_LA_count.2.1 14 = .ok (.ireturn, 1) := by decide +kernel
theorem d_LA_count_15 : decode M_LA_count.2.1 15 = .ok (.iconst 0, 1) := by decide +kernel
theorem d_LA_count_16 : decode M_LA_count.2.1 16 = .ok (.ireturn, 1) := by decide +kernel
set_option maxRecDepth 20000 in
theorem w_LA_count0 {E : xR} {h : xH} {g : Nat → Int64} {tl rl bk : Int32} {v3 v4 v7 v8 v9 w0 w1 w2 w3 w4 w5 w6 : Value} (hnt : ¬ x_tg E) (h0 : h 0 = .inr (0, [.ref 1, .ref 2, .ref 15, v3, v4, .int tl, .int rl, v7, v8, v9])) (h2 : h 2 = .inr (1, [.ref 3, .ref 5])) (h3 : h 3 = .inr (2, [w0, w1, w2, w3, w4, w5, w6, .int bk])) (ho : h 51 = .inl (2, 1, .inr (.inl g))) : x_Mt E M_LA_count 7 1 6 [.ref 0, .int 0, .ref 51] 52 h (x_YN (some (.int 0)) 52 (x_up h 51 (.inl (2, 1, .inr (.inl (vp_updL g 0 tl.toInt64))))) 0 0) := by
  refine x_Mt.of (by decide) (Nat.le_of_ble_eq_true rfl) ?_
  show x_W E M_LA_count _ _ 52 h 0 [(0, .ref 0), (1, .int 0), (2, .ref 51)] [] 0 0
  refine x_aload_n d_LA_count_0 rfl rfl ?_
  refine x_iconst 0 d_LA_count_1 (by decide) ?_
  refine x_aload_n d_LA_count_2 rfl rfl ?_
  refine x_iload_n d_LA_count_3 rfl rfl ?_
  refine x_callCV1Y d_LA_count_4 k_LA_34 (Nat.le_of_ble_eq_true rfl) (Nat.le_of_ble_eq_true rfl) (by first | rfl | assumption) (by rfl) (w_TR_count0 h0 h2 h3) (Nat.le_of_ble_eq_true rfl) (Nat.le_of_ble_eq_true rfl) (Nat.le_of_ble_eq_true rfl) (Nat.le_of_ble_eq_true rfl) (Nat.le_of_ble_eq_true rfl) hnt 3 (Nat.le_of_ble_eq_true rfl) ?_
  refine x_i2l d_LA_count_7 ?_
  refine x_last d_LA_count_8 (Nat.le_of_ble_eq_true rfl) (Nat.le_of_ble_eq_true rfl) (by first | rfl | assumption) (vp_in_nI (by decide) (by decide)) ?_
  refine x_goto 15 d_LA_count_9 (by decide) ?_
  refine x_iconst 0 d_LA_count_15 (by decide) ?_
  exact x_ireturn d_LA_count_16 rfl rfl ⟨rfl, rfl, fun _ _ => rfl, rfl, rfl⟩
set_option maxRecDepth 20000 in
theorem w_LA_count1 {E : xR} {h : xH} {g : Nat → Int64} {tl rl bk : Int32} {v3 v4 v7 v8 v9 w0 w1 w2 w3 w4 w5 w6 : Value} (hnt : ¬ x_tg E) (h0 : h 0 = .inr (0, [.ref 1, .ref 2, .ref 15, v3, v4, .int tl, .int rl, v7, v8, v9])) (h2 : h 2 = .inr (1, [.ref 3, .ref 5])) (h3 : h 3 = .inr (2, [w0, w1, w2, w3, w4, w5, w6, .int bk])) (ho : h 51 = .inl (2, 1, .inr (.inl g))) : x_Mt E M_LA_count 7 1 6 [.ref 0, .int 1, .ref 51] 52 h (x_YN (some (.int 0)) 52 (x_up h 51 (.inl (2, 1, .inr (.inl (vp_updL g 0 rl.toInt64))))) 0 0) := by
  refine x_Mt.of (by decide) (Nat.le_of_ble_eq_true rfl) ?_
  show x_W E M_LA_count _ _ 52 h 0 [(0, .ref 0), (1, .int 1), (2, .ref 51)] [] 0 0
  refine x_aload_n d_LA_count_0 rfl rfl ?_
  refine x_iconst 0 d_LA_count_1 (by decide) ?_
  refine x_aload_n d_LA_count_2 rfl rfl ?_
  refine x_iload_n d_LA_count_3 rfl rfl ?_
  refine x_callCV1Y d_LA_count_4 k_LA_34 (Nat.le_of_ble_eq_true rfl) (Nat.le_of_ble_eq_true rfl) (by first | rfl | assumption) (by rfl) (w_TR_count1 h0 h2 h3) (Nat.le_of_ble_eq_true rfl) (Nat.le_of_ble_eq_true rfl) (Nat.le_of_ble_eq_true rfl) (Nat.le_of_ble_eq_true rfl) (Nat.le_of_ble_eq_true rfl) hnt 3 (Nat.le_of_ble_eq_true rfl) ?_
  refine x_i2l d_LA_count_7 ?_
  refine x_last d_LA_count_8 (Nat.le_of_ble_eq_true rfl) (Nat.le_of_ble_eq_true rfl) (by first | rfl | assumption) (vp_in_nI (by decide) (by decide)) ?_
  refine x_goto 15 d_LA_count_9 (by decide) ?_
  refine x_iconst 0 d_LA_count_15 (by decide) ?_
  exact x_ireturn d_LA_count_16 rfl rfl ⟨rfl, rfl, fun _ _ => rfl, rfl, rfl⟩
set_option maxRecDepth 20000 in
theorem w_LA_count2 {E : xR} {h : xH} {g : Nat → Int64} {tl rl bk : Int32} {v3 v4 v7 v8 v9 w0 w1 w2 w3 w4 w5 w6 : Value} (hnt : ¬ x_tg E) (h0 : h 0 = .inr (0, [.ref 1, .ref 2, .ref 15, v3, v4, .int tl, .int rl, v7, v8, v9])) (h2 : h 2 = .inr (1, [.ref 3, .ref 5])) (h3 : h 3 = .inr (2, [w0, w1, w2, w3, w4, w5, w6, .int bk])) (ho : h 51 = .inl (2, 1, .inr (.inl g))) : x_Mt E M_LA_count 7 1 6 [.ref 0, .int 2, .ref 51] 52 h (x_YN (some (.int 0)) 52 (x_up h 51 (.inl (2, 1, .inr (.inl (vp_updL g 0 bk.toInt64))))) 0 0) := by
  refine x_Mt.of (by decide) (Nat.le_of_ble_eq_true rfl) ?_
  show x_W E M_LA_count _ _ 52 h 0 [(0, .ref 0), (1, .int 2), (2, .ref 51)] [] 0 0
  refine x_aload_n d_LA_count_0 rfl rfl ?_
  refine x_iconst 0 d_LA_count_1 (by decide) ?_
  refine x_aload_n d_LA_count_2 rfl rfl ?_
  refine x_iload_n d_LA_count_3 rfl rfl ?_
  refine x_callCV1Y d_LA_count_4 k_LA_34 (Nat.le_of_ble_eq_true rfl) (Nat.le_of_ble_eq_true rfl) (by first | rfl | assumption) (by rfl) (w_TR_count2 h0 h2 h3) (Nat.le_of_ble_eq_true rfl) (Nat.le_of_ble_eq_true rfl) (Nat.le_of_ble_eq_true rfl) (Nat.le_of_ble_eq_true rfl) (Nat.le_of_ble_eq_true rfl) hnt 3 (Nat.le_of_ble_eq_true rfl) ?_
  refine x_i2l d_LA_count_7 ?_
  refine x_last d_LA_count_8 (Nat.le_of_ble_eq_true rfl) (Nat.le_of_ble_eq_true rfl) (by first | rfl | assumption) (vp_in_nI (by decide) (by decide)) ?_
  refine x_goto 15 d_LA_count_9 (by decide) ?_
  refine x_iconst 0 d_LA_count_15 (by decide) ?_
  exact x_ireturn d_LA_count_16 rfl rfl ⟨rfl, rfl, fun _ _ => rfl, rfl, rfl⟩
set_option maxRecDepth 20000 in
theorem w_LA_count_no {E : xR} {h : xH} {x : Int32} {fs : List Value} (hnt : ¬ x_tg E) (h0 : h 0 = .inr (0, fs)) (hx : x < 0 ∨ ¬ x ≤ 2) : x_Mt E M_LA_count 7 1 6 [.ref 0, .int x, .ref 51] 52 h (x_YN (some (.int 1)) 52 h 1 6) := by
  refine x_Mt.of (by decide) (Nat.le_of_ble_eq_true rfl) ?_
  show x_W E M_LA_count _ _ 52 h 0 [(0, .ref 0), (1, .int x), (2, .ref 51)] [] 0 0
  refine x_aload_n d_LA_count_0 rfl rfl ?_
  refine x_iconst 0 d_LA_count_1 (by decide) ?_
  refine x_aload_n d_LA_count_2 rfl rfl ?_
  refine x_iload_n d_LA_count_3 rfl rfl ?_
  refine x_callCV1X d_LA_count_4 k_LA_34 (Nat.le_of_ble_eq_true rfl) (Nat.le_of_ble_eq_true rfl) (by first | rfl | assumption) (by rfl) (w_TR_count_no hx) (Nat.le_of_ble_eq_true rfl) (Nat.le_of_ble_eq_true rfl) (Nat.le_of_ble_eq_true rfl) (Nat.le_of_ble_eq_true rfl) (Nat.le_of_ble_eq_true rfl) hnt 3 (Nat.le_of_ble_eq_true rfl) ⟨[], (0, 9, 12, 19), _, rfl, (fun z hz => by cases hz), by decide, by decide, by decide, ⟨"java/lang/IllegalArgumentException", x_mem 351 (by decide +kernel) (by decide +kernel), x_mem 358 (by decide +kernel) (by decide +kernel)⟩, Or.inl ⟨3, d_LA_count_12, rfl, ?_⟩⟩
  refine x_iconst 1 d_LA_count_13 (by decide) ?_
  exact x_ireturn d_LA_count_14 rfl rfl ⟨rfl, rfl, fun _ _ => rfl, rfl, rfl⟩
theorem d_LA_word_0 : decode M_LA_word.2.1 0 = .ok (.aload_n 2, 1) := by decide +kernel
theorem d_LA_word_1 : decode M_LA_word.2.1 1 = .ok (.iconst 0, 1) := by decide +kernel
theorem d_LA_word_2 : decode M_LA_word.2.1 2 = .ok (.aload_n 0, 1) := by decide +kernel
theorem d_LA_word_3 : decode M_LA_word.2.1 3 = .ok (.iload_n 1, 1) := by decide +kernel
theorem d_LA_word_4 : decode M_LA_word.2.1 4 = .ok (.invokevirtual 30, 3) := by decide +kernel
theorem d_LA_word_7 : decode M_LA_word.2.1 7 = .ok (.lastore, 1) := by decide +kernel
theorem d_LA_word_8 : decode M_LA_word.2.1 8 = .ok (.goto 6, 3) := by decide +kernel
theorem d_LA_word_11 : decode M_LA_word.2.1 11 = .ok (.astore_n 3, 1) := by decide +kernel
theorem d_LA_word_12 : decode M_LA_word.2.1 12 = .ok (.iconst 1, 1) := by decide +kernel
theorem d_LA_word_13 : decode M_LA_word.2.1 13 = .ok (.ireturn, 1) := by decide +kernel
theorem d_LA_word_14 : decode M_LA_word.2.1 14 = .ok (.iconst 0, 1) := by decide +kernel
theorem d_LA_word_15 : decode M_LA_word.2.1 15 = .ok (.ireturn, 1) := by decide +kernel
set_option maxRecDepth 20000 in
theorem w_LA_word {E : xR} {h : xH} {g : Nat → Int64} {f : Nat → Int32} {ra rl i : Nat} {v4 v5 v7 v8 v9 : Value} (hnt : ¬ x_tg E) (h0 : h 0 = .inr (0, [.ref 1, .ref 2, .ref 15, .ref ra, v4, v5, .int (nI rl), v7, v8, v9])) (hra : ra = 19 ∨ ra = 20) (h1 : h ra = .inl (1, 4096, .inl f)) (ho : h 51 = .inl (2, 1, .inr (.inl g))) (hi : i < rl) (hr : rl ≤ 4096) : x_Mt E M_LA_word 7 1 6 [.ref 0, .int (nI i), .ref 51] 52 h (x_YN (some (.int 0)) 52 (x_up h 51 (.inl (2, 1, .inr (.inl (vp_updL g 0 (g_wd f rl i 8)))))) 0 0) := by
  refine x_Mt.of (by decide) (Nat.le_of_ble_eq_true rfl) ?_
  show x_W E M_LA_word _ _ 52 h 0 [(0, .ref 0), (1, .int (nI i)), (2, .ref 51)] [] 0 0
  refine x_aload_n d_LA_word_0 rfl rfl ?_
  refine x_iconst 0 d_LA_word_1 (by decide) ?_
  refine x_aload_n d_LA_word_2 rfl rfl ?_
  refine x_iload_n d_LA_word_3 rfl rfl ?_
  refine x_callCV1Y d_LA_word_4 k_LA_30 (Nat.le_of_ble_eq_true rfl) (Nat.le_of_ble_eq_true rfl) (by first | rfl | assumption) (by rfl) (w_TR_word h0 hra h1 hi hr) (Nat.le_of_ble_eq_true rfl) (Nat.le_of_ble_eq_true rfl) (Nat.le_of_ble_eq_true rfl) (Nat.le_of_ble_eq_true rfl) (Nat.le_of_ble_eq_true rfl) hnt 3 (Nat.le_of_ble_eq_true rfl) ?_
  refine x_last d_LA_word_7 (Nat.le_of_ble_eq_true rfl) (Nat.le_of_ble_eq_true rfl) (by first | rfl | assumption) (vp_in_nI (by decide) (by decide)) ?_
  refine x_goto 14 d_LA_word_8 (by decide) ?_
  refine x_iconst 0 d_LA_word_14 (by decide) ?_
  exact x_ireturn d_LA_word_15 rfl rfl ⟨rfl, rfl, fun _ _ => rfl, rfl, rfl⟩
set_option maxRecDepth 20000 in
theorem w_LA_word_no {E : xR} {h : xH} {x : Int32} {rl : Nat} {v3 v4 v5 v7 v8 v9 : Value} (hnt : ¬ x_tg E) (h0 : h 0 = .inr (0, [.ref 1, .ref 2, .ref 15, v3, v4, v5, .int (nI rl), v7, v8, v9])) (hx : x < 0 ∨ ¬ x < nI rl) : x_Mt E M_LA_word 7 1 6 [.ref 0, .int x, .ref 51] 52 h (x_YN (some (.int 1)) 52 h 1 6) := by
  refine x_Mt.of (by decide) (Nat.le_of_ble_eq_true rfl) ?_
  show x_W E M_LA_word _ _ 52 h 0 [(0, .ref 0), (1, .int x), (2, .ref 51)] [] 0 0
  refine x_aload_n d_LA_word_0 rfl rfl ?_
  refine x_iconst 0 d_LA_word_1 (by decide) ?_
  refine x_aload_n d_LA_word_2 rfl rfl ?_
  refine x_iload_n d_LA_word_3 rfl rfl ?_
  refine x_callCV1X d_LA_word_4 k_LA_30 (Nat.le_of_ble_eq_true rfl) (Nat.le_of_ble_eq_true rfl) (by first | rfl | assumption) (by rfl) (w_TR_word_no h0 hx) (Nat.le_of_ble_eq_true rfl) (Nat.le_of_ble_eq_true rfl) (Nat.le_of_ble_eq_true rfl) (Nat.le_of_ble_eq_true rfl) (Nat.le_of_ble_eq_true rfl) hnt 3 (Nat.le_of_ble_eq_true rfl) ⟨[], (0, 8, 11, 13), _, rfl, (fun z hz => by cases hz), by decide, by decide, by decide, ⟨"java/lang/IndexOutOfBoundsException", x_mem 271 (by decide +kernel) (by decide +kernel), x_mem 278 (by decide +kernel) (by decide +kernel)⟩, Or.inl ⟨3, d_LA_word_11, rfl, ?_⟩⟩
  refine x_iconst 1 d_LA_word_12 (by decide) ?_
  exact x_ireturn d_LA_word_13 rfl rfl ⟨rfl, rfl, fun _ _ => rfl, rfl, rfl⟩
