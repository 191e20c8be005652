theorem x_lv {E : xR} {M : xM} {R : Room} {Q : xK} {n : Nat} {h : xH} {pc : Nat} {lv : List (Nat × Value)} {st : List Value} {cells slots : Nat} (lv' : List (Nat × Value)) (e : lv = lv') (k : x_W E M R Q n h pc lv' st cells slots) : x_W E M R Q n h pc lv st cells slots := by rw [e]; exact k
def g_pick (x a b c : Int32) : Int32 := if x = 0 then a else if x = 1 then b else c
/-- the byte at i of the first rl ones, as a number from 0 on -/
def g_wb (f : Nat → Int32) (rl i : Nat) : Int32 := if i < rl then f i &&& 255 else 0
/-- k of them from i on, as one number -/
def g_wd (f : Nat → Int32) (rl i : Nat) : Nat → Int64
  | 0 => 0
  | k + 1 => (g_wd f rl i k <<< ((8 : Int32).toInt64 &&& 63)) ||| (g_wb f rl (i + k)).toInt64
theorem d_TR_feed_0 : decode M_TR_feed.2.1 0 = .ok (.aload_n 0, 1) := by decide +kernel
theorem d_TR_feed_1 : decode M_TR_feed.2.1 1 = .ok (.getfield 33, 3) := by decide +kernel
theorem d_TR_feed_4 : decode M_TR_feed.2.1 4 = .ok (.bipush 20, 2) := by decide +kernel
theorem d_TR_feed_6 : decode M_TR_feed.2.1 6 = .ok (.iadd, 1) := by decide +kernel
theorem d_TR_feed_7 : decode M_TR_feed.2.1 7 = .ok (.sipush 4096, 3) := by decide +kernel
theorem d_TR_feed_10 : decode M_TR_feed.2.1 10 = .ok (.if_icmp .le 13, 3) := by decide +kernel
theorem d_TR_feed_13 : decode M_TR_feed.2.1 13 = .ok (.new 37, 3) := by decide +kernel
theorem d_TR_feed_16 : decode M_TR_feed.2.1 16 = .ok (.dup, 1) := by decide +kernel
theorem d_TR_feed_17 : decode M_TR_feed.2.1 17 = .ok (.ldc 39, 2) := by decide +kernel
theorem d_TR_feed_19 : decode M_TR_feed.2.1 19 = .ok (.invokespecial 41, 3) := by decide +kernel
theorem d_TR_feed_22 : decode M_TR_feed.2.1 22 = .ok (.athrow, 1) := by decide +kernel
theorem d_TR_feed_23 : decode M_TR_feed.2.1 23 = .ok (.aload_n 0, 1) := by decide +kernel
theorem d_TR_feed_24 : decode M_TR_feed.2.1 24 = .ok (.iload_n 1, 1) := by decide +kernel
theorem d_TR_feed_25 : decode M_TR_feed.2.1 25 = .ok (.invokevirtual 44, 3) := by decide +kernel
theorem d_TR_feed_28 : decode M_TR_feed.2.1 28 = .ok (.aload_n 0, 1) := by decide +kernel
theorem d_TR_feed_29 : decode M_TR_feed.2.1 29 = .ok (.iload_n 2, 1) := by decide +kernel
theorem d_TR_feed_30 : decode M_TR_feed.2.1 30 = .ok (.invokevirtual 44, 3) := by decide +kernel
theorem d_TR_feed_33 : decode M_TR_feed.2.1 33 = .ok (.aload_n 0, 1) := by decide +kernel
theorem d_TR_feed_34 : decode M_TR_feed.2.1 34 = .ok (.iload_n 3, 1) := by decide +kernel
theorem d_TR_feed_35 : decode M_TR_feed.2.1 35 = .ok (.invokevirtual 44, 3) := by decide +kernel
theorem d_TR_feed_38 : decode M_TR_feed.2.1 38 = .ok (.aload_n 0, 1) := by decide +kernel
theorem d_TR_feed_39 : decode M_TR_feed.2.1 39 = .ok (.iload 4, 2) := by decide +kernel
theorem d_TR_feed_41 : decode M_TR_feed.2.1 41 = .ok (.invokevirtual 44, 3) := by decide +kernel
theorem d_TR_feed_44 : decode M_TR_feed.2.1 44 = .ok (.aload_n 0, 1) := by decide +kernel
theorem d_TR_feed_45 : decode M_TR_feed.2.1 45 = .ok (.iload 5, 2) := by decide +kernel
theorem d_TR_feed_47 : decode M_TR_feed.2.1 47 = .ok (.invokevirtual 44, 3) := by decide +kernel
theorem d_TR_feed_50 : decode M_TR_feed.2.1 50 = .ok (.aload_n 0, 1) := by decide +kernel
theorem d_TR_feed_51 : decode M_TR_feed.2.1 51 = .ok (.getfield 33, 3) := by decide +kernel
theorem d_TR_feed_54 : decode M_TR_feed.2.1 54 = .ok (.ireturn, 1) := by decide +kernel
set_option maxRecDepth 20000 in
theorem w_TR_feed {E : xR} {h : xH} {f : Nat → Int32} {t : Nat} {a b c d e : Int32} {v3 v4 v6 v7 v8 v9 : Value} (h0 : h 0 = .inr (0, [.ref 1, .ref 2, .ref 15, v3, v4, .int (nI t), v6, v7, v8, v9])) (h1 : h 1 = .inl (1, 4096, .inl f)) (ht : t + 20 ≤ 4096) : x_Mt E M_TR_feed 6 1 6 [.ref 0, .int a, .int b, .int c, .int d, .int e] 52 h (x_Y (some (.int (nI (t + 20)))) 52 (x_up (x_up h 0 (.inr (0, [.ref 1, .ref 2, .ref 15, v3, v4, .int (nI (t + 20)), v6, v7, v8, v9]))) 1 (.inl (1, 4096, .inl (g_feed f t a b c d e))))) := by
  refine x_Mt.of (by decide) (Nat.le_of_ble_eq_true rfl) ?_
  show x_W E M_TR_feed _ _ 52 h 0 [(0, .ref 0), (1, .int a), (2, .int b), (3, .int c), (4, .int d), (5, .int e)] [] 0 0
  refine x_aload_n d_TR_feed_0 rfl rfl ?_
  refine x_get d_TR_feed_1 f_TR_33 (Nat.le_of_ble_eq_true rfl) (Nat.le_of_ble_eq_true rfl) (by first | rfl | assumption) (by rfl) ?_
  refine x_bipush 20 d_TR_feed_4 (by decide) ?_
  refine x_iadd d_TR_feed_6 ?_
  refine x_topi (nI (t + 20)) (nI_add t 20) ?_
  refine x_sipush 4096 d_TR_feed_7 (by decide) ?_
  refine x_icmp_le 23 d_TR_feed_10 (by decide) (fun _ => ?_) (fun z => absurd (show nI (t + 20) ≤ nI 4096 from nI_le (by omega) (by decide)) z)
  refine x_aload_n d_TR_feed_23 rfl rfl ?_
  refine x_iload_n d_TR_feed_24 rfl rfl ?_
  refine x_callV1Y d_TR_feed_25 k_TR_44 (Nat.le_of_ble_eq_true rfl) (Nat.le_of_ble_eq_true rfl) (by first | rfl | assumption) (by rfl) (w_TR_put (by first | rfl | assumption) (by first | rfl | assumption) (by omega)) (Nat.le_of_ble_eq_true rfl) (Nat.le_of_ble_eq_true rfl) (Nat.le_of_ble_eq_true rfl) (Nat.le_of_ble_eq_true rfl) (Nat.le_of_ble_eq_true rfl) rfl ?_
  refine x_aload_n d_TR_feed_28 rfl rfl ?_
  refine x_iload_n d_TR_feed_29 rfl rfl ?_
  refine x_callV1Y d_TR_feed_30 k_TR_44 (Nat.le_of_ble_eq_true rfl) (Nat.le_of_ble_eq_true rfl) (by first | rfl | assumption) (by rfl) (w_TR_put (by first | rfl | assumption) (by first | rfl | assumption) (by omega)) (Nat.le_of_ble_eq_true rfl) (Nat.le_of_ble_eq_true rfl) (Nat.le_of_ble_eq_true rfl) (Nat.le_of_ble_eq_true rfl) (Nat.le_of_ble_eq_true rfl) rfl ?_
  refine x_aload_n d_TR_feed_33 rfl rfl ?_
  refine x_iload_n d_TR_feed_34 rfl rfl ?_
  refine x_callV1Y d_TR_feed_35 k_TR_44 (Nat.le_of_ble_eq_true rfl) (Nat.le_of_ble_eq_true rfl) (by first | rfl | assumption) (by rfl) (w_TR_put (by first | rfl | assumption) (by first | rfl | assumption) (by omega)) (Nat.le_of_ble_eq_true rfl) (Nat.le_of_ble_eq_true rfl) (Nat.le_of_ble_eq_true rfl) (Nat.le_of_ble_eq_true rfl) (Nat.le_of_ble_eq_true rfl) rfl ?_
  refine x_aload_n d_TR_feed_38 rfl rfl ?_
  refine x_iload d_TR_feed_39 rfl ?_
  refine x_callV1Y d_TR_feed_41 k_TR_44 (Nat.le_of_ble_eq_true rfl) (Nat.le_of_ble_eq_true rfl) (by first | rfl | assumption) (by rfl) (w_TR_put (by first | rfl | assumption) (by first | rfl | assumption) (by omega)) (Nat.le_of_ble_eq_true rfl) (Nat.le_of_ble_eq_true rfl) (Nat.le_of_ble_eq_true rfl) (Nat.le_of_ble_eq_true rfl) (Nat.le_of_ble_eq_true rfl) rfl ?_
  refine x_aload_n d_TR_feed_44 rfl rfl ?_
  refine x_iload d_TR_feed_45 rfl ?_
  refine x_callV1Y d_TR_feed_47 k_TR_44 (Nat.le_of_ble_eq_true rfl) (Nat.le_of_ble_eq_true rfl) (by first | rfl | assumption) (by rfl) (w_TR_put (by first | rfl | assumption) (by first | rfl | assumption) (by omega)) (Nat.le_of_ble_eq_true rfl) (Nat.le_of_ble_eq_true rfl) (Nat.le_of_ble_eq_true rfl) (Nat.le_of_ble_eq_true rfl) (Nat.le_of_ble_eq_true rfl) rfl ?_
  refine x_aload_n d_TR_feed_50 rfl rfl ?_
  refine x_get d_TR_feed_51 f_TR_33 (Nat.le_of_ble_eq_true rfl) (Nat.le_of_ble_eq_true rfl) (by first | rfl | assumption) (by rfl) ?_
  exact x_ireturn d_TR_feed_54 rfl rfl ⟨rfl, rfl, x_pt rfl rfl rfl rfl rfl rfl rfl rfl rfl rfl rfl rfl rfl rfl rfl rfl rfl rfl rfl rfl rfl rfl rfl rfl rfl rfl rfl rfl rfl rfl rfl rfl rfl rfl rfl rfl rfl rfl rfl rfl rfl rfl rfl rfl rfl rfl rfl rfl rfl rfl rfl rfl, rfl, rfl⟩
set_option maxRecDepth 20000 in
theorem w_TR_feed_no {E : xR} {h : xH} {t : Nat} {a b c d e : Int32} {v3 v4 v6 v7 v8 v9 : Value} (h0 : h 0 = .inr (0, [.ref 1, .ref 2, .ref 15, v3, v4, .int (nI t), v6, v7, v8, v9])) (ht : 4096 < t + 20) (h4 : t ≤ 4096) : x_Mt E M_TR_feed 6 1 6 [.ref 0, .int a, .int b, .int c, .int d, .int e] 52 h (x_X 0 52 h) := by
  refine x_Mt.of (by decide) (Nat.le_of_ble_eq_true rfl) ?_
  show x_W E M_TR_feed _ _ 52 h 0 [(0, .ref 0), (1, .int a), (2, .int b), (3, .int c), (4, .int d), (5, .int e)] [] 0 0
  refine x_aload_n d_TR_feed_0 rfl rfl ?_
  refine x_get d_TR_feed_1 f_TR_33 (Nat.le_of_ble_eq_true rfl) (Nat.le_of_ble_eq_true rfl) (by first | rfl | assumption) (by rfl) ?_
  refine x_bipush 20 d_TR_feed_4 (by decide) ?_
  refine x_iadd d_TR_feed_6 ?_
  refine x_topi (nI (t + 20)) (nI_add t 20) ?_
  refine x_sipush 4096 d_TR_feed_7 (by decide) ?_
  refine x_icmp_le 23 d_TR_feed_10 (by decide) (fun z => absurd z (show ¬ nI (t + 20) ≤ nI 4096 from nI_ge (by omega) (by omega))) (fun _ => ?_)
  exact x_throwB 0 rfl d_TR_feed_13 d_TR_feed_16 d_TR_feed_17 d_TR_feed_19 d_TR_feed_22 t_TR_37_39 (Nat.le_of_ble_eq_true rfl) (Nat.le_of_ble_eq_true rfl) (Nat.le_of_ble_eq_true rfl) (Nat.le_of_ble_eq_true rfl) (Nat.le_of_ble_eq_true rfl) rfl ⟨rfl, rfl, fun _ _ => rfl, rfl, rfl⟩
theorem d_TR_end_0 : decode M_TR_end.2.1 0 = .ok (.iload_n 1, 1) := by decide +kernel
theorem d_TR_end_1 : decode M_TR_end.2.1 1 = .ok (.ifCond .lt 11, 3) := by decide +kernel
theorem d_TR_end_4 : decode M_TR_end.2.1 4 = .ok (.iload_n 1, 1) := by decide +kernel
theorem d_TR_end_5 : decode M_TR_end.2.1 5 = .ok (.aload_n 0, 1) := by decide +kernel
theorem d_TR_end_6 : decode M_TR_end.2.1 6 = .ok (.getfield 33, 3) := by decide +kernel
theorem d_TR_end_9 : decode M_TR_end.2.1 9 = .ok (.if_icmp .le 13, 3) := by decide +kernel
theorem d_TR_end_12 : decode M_TR_end.2.1 12 = .ok (.new 48, 3) := by decide +kernel
theorem d_TR_end_15 : decode M_TR_end.2.1 15 = .ok (.dup, 1) := by decide +kernel
theorem d_TR_end_16 : decode M_TR_end.2.1 16 = .ok (.ldc 50, 2) := by decide +kernel
theorem d_TR_end_18 : decode M_TR_end.2.1 18 = .ok (.invokespecial 52, 3) := by decide +kernel
theorem d_TR_end_21 : decode M_TR_end.2.1 21 = .ok (.athrow, 1) := by decide +kernel
theorem d_TR_end_22 : decode M_TR_end.2.1 22 = .ok (.aload_n 0, 1) := by decide +kernel
theorem d_TR_end_23 : decode M_TR_end.2.1 23 = .ok (.iload_n 1, 1) := by decide +kernel
theorem d_TR_end_24 : decode M_TR_end.2.1 24 = .ok (.putfield 33, 3) := by decide +kernel
theorem d_TR_end_27 : decode M_TR_end.2.1 27 = .ok (.iload_n 1, 1) := by decide +kernel
theorem d_TR_end_28 : decode M_TR_end.2.1 28 = .ok (.ireturn, 1) := by decide +kernel
set_option maxRecDepth 20000 in
theorem w_TR_end {E : xR} {h : xH} {t m : Nat} {v3 v4 v6 v7 v8 v9 : Value} (h0 : h 0 = .inr (0, [.ref 1, .ref 2, .ref 15, v3, v4, .int (nI t), v6, v7, v8, v9])) (hm : m ≤ t) (h4 : t ≤ 4096) : x_Mt E M_TR_end 6 1 6 [.ref 0, .int (nI m)] 52 h (x_Y (some (.int (nI m))) 52 (x_up h 0 (.inr (0, [.ref 1, .ref 2, .ref 15, v3, v4, .int (nI m), v6, v7, v8, v9])))) := by
  refine x_Mt.of (by decide) (Nat.le_of_ble_eq_true rfl) ?_
  show x_W E M_TR_end _ _ 52 h 0 [(0, .ref 0), (1, .int (nI m))] [] 0 0
  refine x_iload_n d_TR_end_0 rfl rfl ?_
  refine x_if_lt 12 d_TR_end_1 (by decide) (fun z => absurd z (nI_pos (by omega))) (fun _ => ?_)
  refine x_iload_n d_TR_end_4 rfl rfl ?_
  refine x_aload_n d_TR_end_5 rfl rfl ?_
  refine x_get d_TR_end_6 f_TR_33 (Nat.le_of_ble_eq_true rfl) (Nat.le_of_ble_eq_true rfl) (by first | rfl | assumption) (by rfl) ?_
  refine x_icmp_le 22 d_TR_end_9 (by decide) (fun _ => ?_) (fun z => absurd (nI_le hm (by omega)) z)
  refine x_aload_n d_TR_end_22 rfl rfl ?_
  refine x_iload_n d_TR_end_23 rfl rfl ?_
  refine x_put d_TR_end_24 f_TR_33 (Nat.le_of_ble_eq_true rfl) (Nat.le_of_ble_eq_true rfl) (by first | rfl | assumption) (by rfl) (by rfl) (by exact (Nat.le_of_ble_eq_true rfl)) ?_
  refine x_iload_n d_TR_end_27 rfl rfl ?_
  exact x_ireturn d_TR_end_28 rfl rfl ⟨rfl, rfl, x_pt rfl rfl rfl rfl rfl rfl rfl rfl rfl rfl rfl rfl rfl rfl rfl rfl rfl rfl rfl rfl rfl rfl rfl rfl rfl rfl rfl rfl rfl rfl rfl rfl rfl rfl rfl rfl rfl rfl rfl rfl rfl rfl rfl rfl rfl rfl rfl rfl rfl rfl rfl rfl, rfl, rfl⟩
set_option maxRecDepth 20000 in
theorem w_TR_end_no {E : xR} {h : xH} {t : Nat} {x : Int32} {v3 v4 v6 v7 v8 v9 : Value} (h0 : h 0 = .inr (0, [.ref 1, .ref 2, .ref 15, v3, v4, .int (nI t), v6, v7, v8, v9])) (hx : x < 0 ∨ ¬ x ≤ nI t) : x_Mt E M_TR_end 6 1 6 [.ref 0, .int x] 52 h (x_X 1 52 h) := by
  refine x_Mt.of (by decide) (Nat.le_of_ble_eq_true rfl) ?_
  show x_W E M_TR_end _ _ 52 h 0 [(0, .ref 0), (1, .int x)] [] 0 0
  refine x_iload_n d_TR_end_0 rfl rfl ?_
  refine x_if_lt 12 d_TR_end_1 (by decide) (fun c_1 => ?_) (fun c_1 => ?_)
  · exact x_throwB 1 rfl d_TR_end_12 d_TR_end_15 d_TR_end_16 d_TR_end_18 d_TR_end_21 t_TR_48_50 (Nat.le_of_ble_eq_true rfl) (Nat.le_of_ble_eq_true rfl) (Nat.le_of_ble_eq_true rfl) (Nat.le_of_ble_eq_true rfl) (Nat.le_of_ble_eq_true rfl) rfl ⟨rfl, rfl, fun _ _ => rfl, rfl, rfl⟩
  · refine x_iload_n d_TR_end_4 rfl rfl ?_
    refine x_aload_n d_TR_end_5 rfl rfl ?_
    refine x_get d_TR_end_6 f_TR_33 (Nat.le_of_ble_eq_true rfl) (Nat.le_of_ble_eq_true rfl) (by first | rfl | assumption) (by rfl) ?_
    refine x_icmp_le 22 d_TR_end_9 (by decide) (fun z => absurd z (hx.resolve_left c_1)) (fun _ => ?_)
    exact x_throwB 1 rfl d_TR_end_12 d_TR_end_15 d_TR_end_16 d_TR_end_18 d_TR_end_21 t_TR_48_50 (Nat.le_of_ble_eq_true rfl) (Nat.le_of_ble_eq_true rfl) (Nat.le_of_ble_eq_true rfl) (Nat.le_of_ble_eq_true rfl) (Nat.le_of_ble_eq_true rfl) rfl ⟨rfl, rfl, fun _ _ => rfl, rfl, rfl⟩
theorem d_TR_about_0 : decode M_TR_about.2.1 0 = .ok (.iload_n 1, 1) := by decide +kernel
theorem d_TR_about_1 : decode M_TR_about.2.1 1 = .ok (.ifCond .lt 8, 3) := by decide +kernel
theorem d_TR_about_4 : decode M_TR_about.2.1 4 = .ok (.iload_n 1, 1) := by decide +kernel
theorem d_TR_about_5 : decode M_TR_about.2.1 5 = .ok (.iconst 2, 1) := by decide +kernel
theorem d_TR_about_6 : decode M_TR_about.2.1 6 = .ok (.if_icmp .le 13, 3) := by decide +kernel
theorem d_TR_about_9 : decode M_TR_about.2.1 9 = .ok (.new 48, 3) := by decide +kernel
theorem d_TR_about_12 : decode M_TR_about.2.1 12 = .ok (.dup, 1) := by decide +kernel
theorem d_TR_about_13 : decode M_TR_about.2.1 13 = .ok (.ldc 73, 2) := by decide +kernel
theorem d_TR_about_15 : decode M_TR_about.2.1 15 = .ok (.invokespecial 52, 3) := by decide +kernel
theorem d_TR_about_18 : decode M_TR_about.2.1 18 = .ok (.athrow, 1) := by decide +kernel
theorem d_TR_about_19 : decode M_TR_about.2.1 19 = .ok (.iload_n 1, 1) := by decide +kernel
theorem d_TR_about_20 : decode M_TR_about.2.1 20 = .ok (.ifCond .ne 8, 3) := by decide +kernel
theorem d_TR_about_23 : decode M_TR_about.2.1 23 = .ok (.aload_n 0, 1) := by decide +kernel
theorem d_TR_about_24 : decode M_TR_about.2.1 24 = .ok (.getfield 75, 3) := by decide +kernel
theorem d_TR_about_27 : decode M_TR_about.2.1 27 = .ok (.ireturn, 1) := by decide +kernel
theorem d_TR_about_28 : decode M_TR_about.2.1 28 = .ok (.iload_n 1, 1) := by decide +kernel
theorem d_TR_about_29 : decode M_TR_about.2.1 29 = .ok (.iconst 1, 1) := by decide +kernel
theorem d_TR_about_30 : decode M_TR_about.2.1 30 = .ok (.if_icmp .ne 10, 3) := by decide +kernel
theorem d_TR_about_33 : decode M_TR_about.2.1 33 = .ok (.aload_n 0, 1) := by decide +kernel
theorem d_TR_about_34 : decode M_TR_about.2.1 34 = .ok (.getfield 78, 3) := by decide +kernel
theorem d_TR_about_37 : decode M_TR_about.2.1 37 = .ok (.goto 7, 3) := by decide +kernel
theorem d_TR_about_40 : decode M_TR_about.2.1 40 = .ok (.aload_n 0, 1) := by decide +kernel
theorem d_TR_about_41 : decode M_TR_about.2.1 41 = .ok (.getfield 81, 3) := by decide +kernel
theorem d_TR_about_44 : decode M_TR_about.2.1 44 = .ok (.ireturn, 1) := by decide +kernel
set_option maxRecDepth 20000 in
theorem w_TR_about0 {E : xR} {h : xH} {sy va ne : Int32} {v3 v4 v5 v6 : Value} (h0 : h 0 = .inr (0, [.ref 1, .ref 2, .ref 15, v3, v4, v5, v6, .int sy, .int va, .int ne])) : x_Mt E M_TR_about 6 1 6 [.ref 0, .int 0] 52 h (x_Y (some (.int sy)) 52 h) := by
  refine x_Mt.of (by decide) (Nat.le_of_ble_eq_true rfl) ?_
  show x_W E M_TR_about _ _ 52 h 0 [(0, .ref 0), (1, .int 0)] [] 0 0
  refine x_iload_n d_TR_about_0 rfl rfl ?_
  refine x_if_lt 9 d_TR_about_1 (by decide) (fun z => absurd z (by decide)) (fun _ => ?_)
  refine x_iload_n d_TR_about_4 rfl rfl ?_
  refine x_iconst 2 d_TR_about_5 (by decide) ?_
  refine x_icmp_le 19 d_TR_about_6 (by decide) (fun _ => ?_) (fun z => absurd (by decide) z)
  refine x_iload_n d_TR_about_19 rfl rfl ?_
  refine x_if_ne 28 d_TR_about_20 (by decide) (fun z => absurd (by decide) z) (fun _ => ?_)
  refine x_aload_n d_TR_about_23 rfl rfl ?_
  refine x_get d_TR_about_24 f_TR_75 (Nat.le_of_ble_eq_true rfl) (Nat.le_of_ble_eq_true rfl) (by first | rfl | assumption) (by rfl) ?_
  exact x_ireturn d_TR_about_27 rfl rfl ⟨rfl, rfl, fun _ _ => rfl, rfl, rfl⟩
set_option maxRecDepth 20000 in
theorem w_TR_about1 {E : xR} {h : xH} {sy va ne : Int32} {v3 v4 v5 v6 : Value} (h0 : h 0 = .inr (0, [.ref 1, .ref 2, .ref 15, v3, v4, v5, v6, .int sy, .int va, .int ne])) : x_Mt E M_TR_about 6 1 6 [.ref 0, .int 1] 52 h (x_Y (some (.int va)) 52 h) := by
  refine x_Mt.of (by decide) (Nat.le_of_ble_eq_true rfl) ?_
  show x_W E M_TR_about _ _ 52 h 0 [(0, .ref 0), (1, .int 1)] [] 0 0
  refine x_iload_n d_TR_about_0 rfl rfl ?_
  refine x_if_lt 9 d_TR_about_1 (by decide) (fun z => absurd z (by decide)) (fun _ => ?_)
  refine x_iload_n d_TR_about_4 rfl rfl ?_
  refine x_iconst 2 d_TR_about_5 (by decide) ?_
  refine x_icmp_le 19 d_TR_about_6 (by decide) (fun _ => ?_) (fun z => absurd (by decide) z)
  refine x_iload_n d_TR_about_19 rfl rfl ?_
  refine x_if_ne 28 d_TR_about_20 (by decide) (fun _ => ?_) (fun z => absurd z (by decide))
  refine x_iload_n d_TR_about_28 rfl rfl ?_
  refine x_iconst 1 d_TR_about_29 (by decide) ?_
  refine x_icmp_ne 40 d_TR_about_30 (by decide) (fun z => absurd (by decide) z) (fun _ => ?_)
  refine x_aload_n d_TR_about_33 rfl rfl ?_
  refine x_get d_TR_about_34 f_TR_78 (Nat.le_of_ble_eq_true rfl) (Nat.le_of_ble_eq_true rfl) (by first | rfl | assumption) (by rfl) ?_
  refine x_goto 44 d_TR_about_37 (by decide) ?_
  exact x_ireturn d_TR_about_44 rfl rfl ⟨rfl, rfl, fun _ _ => rfl, rfl, rfl⟩
set_option maxRecDepth 20000 in
theorem w_TR_about2 {E : xR} {h : xH} {sy va ne : Int32} {v3 v4 v5 v6 : Value} (h0 : h 0 = .inr (0, [.ref 1, .ref 2, .ref 15, v3, v4, v5, v6, .int sy, .int va, .int ne])) : x_Mt E M_TR_about 6 1 6 [.ref 0, .int 2] 52 h (x_Y (some (.int ne)) 52 h) := by
  refine x_Mt.of (by decide) (Nat.le_of_ble_eq_true rfl) ?_
  show x_W E M_TR_about _ _ 52 h 0 [(0, .ref 0), (1, .int 2)] [] 0 0
  refine x_iload_n d_TR_about_0 rfl rfl ?_
  refine x_if_lt 9 d_TR_about_1 (by decide) (fun z => absurd z (by decide)) (fun _ => ?_)
  refine x_iload_n d_TR_about_4 rfl rfl ?_
  refine x_iconst 2 d_TR_about_5 (by decide) ?_
  refine x_icmp_le 19 d_TR_about_6 (by decide) (fun _ => ?_) (fun z => absurd (by decide) z)
  refine x_iload_n d_TR_about_19 rfl rfl ?_
  refine x_if_ne 28 d_TR_about_20 (by decide) (fun _ => ?_) (fun z => absurd z (by decide))
  refine x_iload_n d_TR_about_28 rfl rfl ?_
  refine x_iconst 1 d_TR_about_29 (by decide) ?_
  refine x_icmp_ne 40 d_TR_about_30 (by decide) (fun _ => ?_) (fun z => absurd z (by decide))
  refine x_aload_n d_TR_about_40 rfl rfl ?_
  refine x_get d_TR_about_41 f_TR_81 (Nat.le_of_ble_eq_true rfl) (Nat.le_of_ble_eq_true rfl) (by first | rfl | assumption) (by rfl) ?_
  exact x_ireturn d_TR_about_44 rfl rfl ⟨rfl, rfl, fun _ _ => rfl, rfl, rfl⟩
set_option maxRecDepth 20000 in
theorem w_TR_about_no {E : xR} {h : xH} {x : Int32} (hx : x < 0 ∨ ¬ x ≤ 2) : x_Mt E M_TR_about 6 1 6 [.ref 0, .int x] 52 h (x_X 1 52 h) := by
  refine x_Mt.of (by decide) (Nat.le_of_ble_eq_true rfl) ?_
  show x_W E M_TR_about _ _ 52 h 0 [(0, .ref 0), (1, .int x)] [] 0 0
  refine x_iload_n d_TR_about_0 rfl rfl ?_
  refine x_if_lt 9 d_TR_about_1 (by decide) (fun c_1 => ?_) (fun c_1 => ?_)
  · exact x_throwB 1 rfl d_TR_about_9 d_TR_about_12 d_TR_about_13 d_TR_about_15 d_TR_about_18 t_TR_48_73 (Nat.le_of_ble_eq_true rfl) (Nat.le_of_ble_eq_true rfl) (Nat.le_of_ble_eq_true rfl) (Nat.le_of_ble_eq_true rfl) (Nat.le_of_ble_eq_true rfl) rfl ⟨rfl, rfl, fun _ _ => rfl, rfl, rfl⟩
  · refine x_iload_n d_TR_about_4 rfl rfl ?_
    refine x_iconst 2 d_TR_about_5 (by decide) ?_
    refine x_icmp_le 19 d_TR_about_6 (by decide) (fun z => absurd z (hx.resolve_left c_1)) (fun _ => ?_)
    exact x_throwB 1 rfl d_TR_about_9 d_TR_about_12 d_TR_about_13 d_TR_about_15 d_TR_about_18 t_TR_48_73 (Nat.le_of_ble_eq_true rfl) (Nat.le_of_ble_eq_true rfl) (Nat.le_of_ble_eq_true rfl) (Nat.le_of_ble_eq_true rfl) (Nat.le_of_ble_eq_true rfl) rfl ⟨rfl, rfl, fun _ _ => rfl, rfl, rfl⟩
theorem d_PA_brokenPlace_0 : decode M_PA_brokenPlace.2.1 0 = .ok (.aload_n 0, 1) := by decide +kernel
theorem d_PA_brokenPlace_1 : decode M_PA_brokenPlace.2.1 1 = .ok (.getfield 12, 3) := by decide +kernel
theorem d_PA_brokenPlace_4 : decode M_PA_brokenPlace.2.1 4 = .ok (.getfield 25, 3) := by decide +kernel
theorem d_PA_brokenPlace_7 : decode M_PA_brokenPlace.2.1 7 = .ok (.ireturn, 1) := by decide +kernel
set_option maxRecDepth 20000 in
theorem w_PA_brokenPlace {E : xR} {h : xH} {bk : Int32} {w0 w1 w2 w3 w4 w5 w6 : Value} (h2 : h 2 = .inr (1, [.ref 3, .ref 5])) (h3 : h 3 = .inr (2, [w0, w1, w2, w3, w4, w5, w6, .int bk])) : x_Mt E M_PA_brokenPlace 0 0 0 [.ref 2] 52 h (x_Y (some (.int bk)) 52 h) := by
  refine x_Mt.of (by decide) (Nat.le_of_ble_eq_true rfl) ?_
  show x_W E M_PA_brokenPlace _ _ 52 h 0 [(0, .ref 2)] [] 0 0
  refine x_aload_n d_PA_brokenPlace_0 rfl rfl ?_
  refine x_get d_PA_brokenPlace_1 f_PA_12 (Nat.le_of_ble_eq_true rfl) (Nat.le_of_ble_eq_true rfl) (by first | rfl | assumption) (by rfl) ?_
  refine x_get d_PA_brokenPlace_4 f_PA_25 (Nat.le_of_ble_eq_true rfl) (Nat.le_of_ble_eq_true rfl) (by first | rfl | assumption) (by rfl) ?_
  exact x_ireturn d_PA_brokenPlace_7 rfl rfl ⟨rfl, rfl, fun _ _ => rfl, rfl, rfl⟩
theorem d_TR_count_0 : decode M_TR_count.2.1 0 = .ok (.iload_n 1, 1) := by decide +kernel
theorem d_TR_count_1 : decode M_TR_count.2.1 1 = .ok (.ifCond .lt 8, 3) := by decide +kernel
theorem d_TR_count_4 : decode M_TR_count.2.1 4 = .ok (.iload_n 1, 1) := by decide +kernel
theorem d_TR_count_5 : decode M_TR_count.2.1 5 = .ok (.iconst 2, 1) := by decide +kernel
theorem d_TR_count_6 : decode M_TR_count.2.1 6 = .ok (.if_icmp .le 13, 3) := by decide +kernel
theorem d_TR_count_9 : decode M_TR_count.2.1 9 = .ok (.new 48, 3) := by decide +kernel
theorem d_TR_count_12 : decode M_TR_count.2.1 12 = .ok (.dup, 1) := by decide +kernel
theorem d_TR_count_13 : decode M_TR_count.2.1 13 = .ok (.ldc 73, 2) := by decide +kernel
theorem d_TR_count_15 : decode M_TR_count.2.1 15 = .ok (.invokespecial 52, 3) := by decide +kernel
theorem d_TR_count_18 : decode M_TR_count.2.1 18 = .ok (.athrow, 1) := by decide +kernel
theorem d_TR_count_19 : decode M_TR_count.2.1 19 = .ok (.iload_n 1, 1) := by decide +kernel
theorem d_TR_count_20 : decode M_TR_count.2.1 20 = .ok (.ifCond .ne 8, 3) := by decide +kernel
theorem d_TR_count_23 : decode M_TR_count.2.1 23 = .ok (.aload_n 0, 1) := by decide +kernel
theorem d_TR_count_24 : decode M_TR_count.2.1 24 = .ok (.getfield 33, 3) := by decide +kernel
theorem d_TR_count_27 : decode M_TR_count.2.1 27 = .ok (.ireturn, 1) := by decide +kernel
theorem d_TR_count_28 : decode M_TR_count.2.1 28 = .ok (.iload_n 1, 1) := by decide +kernel
theorem d_TR_count_29 : decode M_TR_count.2.1 29 = .ok (.iconst 1, 1) := by decide +kernel
theorem d_TR_count_30 : decode M_TR_count.2.1 30 = .ok (.if_icmp .ne 10, 3) := by decide +kernel
theorem d_TR_count_33 : decode M_TR_count.2.1 33 = .ok (.aload_n 0, 1) := by decide +kernel
theorem d_TR_count_34 : decode M_TR_count.2.1 34 = .ok (.getfield 70, 3) := by decide +kernel
theorem d_TR_count_37 : decode M_TR_count.2.1 37 = .ok (.goto 10, 3) := by decide +kernel
theorem d_TR_count_40 : decode M_TR_count.2.1 40 = .ok (.aload_n 0, 1) := by decide +kernel
theorem d_TR_count_41 : decode M_TR_count.2.1 41 = .ok (.getfield 16, 3) := by decide +kernel
theorem d_TR_count_44 : decode M_TR_count.2.1 44 = .ok (.invokevirtual 86, 3) := by decide +kernel
theorem d_TR_count_47 : decode M_TR_count.2.1 47 = .ok (.ireturn, 1) := by decide +kernel
set_option maxRecDepth 20000 in
theorem w_TR_count0 {E : xR} {h : xH} {tl rl bk : Int32} {v3 v4 v7 v8 v9 w0 w1 w2 w3 w4 w5 w6 : Value} (h0 : h 0 = .inr (0, [.ref 1, .ref 2, .ref 15, v3, v4, .int tl, .int rl, v7, v8, v9])) (h2 : h 2 = .inr (1, [.ref 3, .ref 5])) (h3 : h 3 = .inr (2, [w0, w1, w2, w3, w4, w5, w6, .int bk])) : x_Mt E M_TR_count 6 1 6 [.ref 0, .int 0] 52 h (x_Y (some (.int tl)) 52 h) := by
  refine x_Mt.of (by decide) (Nat.le_of_ble_eq_true rfl) ?_
  show x_W E M_TR_count _ _ 52 h 0 [(0, .ref 0), (1, .int 0)] [] 0 0
  refine x_iload_n d_TR_count_0 rfl rfl ?_
  refine x_if_lt 9 d_TR_count_1 (by decide) (fun z => absurd z (by decide)) (fun _ => ?_)
  refine x_iload_n d_TR_count_4 rfl rfl ?_
  refine x_iconst 2 d_TR_count_5 (by decide) ?_
  refine x_icmp_le 19 d_TR_count_6 (by decide) (fun _ => ?_) (fun z => absurd (by decide) z)
  refine x_iload_n d_TR_count_19 rfl rfl ?_
  refine x_if_ne 28 d_TR_count_20 (by decide) (fun z => absurd (by decide) z) (fun _ => ?_)
  refine x_aload_n d_TR_count_23 rfl rfl ?_
  refine x_get d_TR_count_24 f_TR_33 (Nat.le_of_ble_eq_true rfl) (Nat.le_of_ble_eq_true rfl) (by first | rfl | assumption) (by rfl) ?_
  exact x_ireturn d_TR_count_27 rfl rfl ⟨rfl, rfl, fun _ _ => rfl, rfl, rfl⟩
set_option maxRecDepth 20000 in
theorem w_TR_count1 {E : xR} {h : xH} {tl rl bk : Int32} {v3 v4 v7 v8 v9 w0 w1 w2 w3 w4 w5 w6 : Value} (h0 : h 0 = .inr (0, [.ref 1, .ref 2, .ref 15, v3, v4, .int tl, .int rl, v7, v8, v9])) (h2 : h 2 = .inr (1, [.ref 3, .ref 5])) (h3 : h 3 = .inr (2, [w0, w1, w2, w3, w4, w5, w6, .int bk])) : x_Mt E M_TR_count 6 1 6 [.ref 0, .int 1] 52 h (x_Y (some (.int rl)) 52 h) := by
  refine x_Mt.of (by decide) (Nat.le_of_ble_eq_true rfl) ?_
  show x_W E M_TR_count _ _ 52 h 0 [(0, .ref 0), (1, .int 1)] [] 0 0
  refine x_iload_n d_TR_count_0 rfl rfl ?_
  refine x_if_lt 9 d_TR_count_1 (by decide) (fun z => absurd z (by decide)) (fun _ => ?_)
  refine x_iload_n d_TR_count_4 rfl rfl ?_
  refine x_iconst 2 d_TR_count_5 (by decide) ?_
  refine x_icmp_le 19 d_TR_count_6 (by decide) (fun _ => ?_) (fun z => absurd (by decide) z)
  refine x_iload_n d_TR_count_19 rfl rfl ?_
  refine x_if_ne 28 d_TR_count_20 (by decide) (fun _ => ?_) (fun z => absurd z (by decide))
  refine x_iload_n d_TR_count_28 rfl rfl ?_
  refine x_iconst 1 d_TR_count_29 (by decide) ?_
  refine x_icmp_ne 40 d_TR_count_30 (by decide) (fun z => absurd (by decide) z) (fun _ => ?_)
  refine x_aload_n d_TR_count_33 rfl rfl ?_
  refine x_get d_TR_count_34 f_TR_70 (Nat.le_of_ble_eq_true rfl) (Nat.le_of_ble_eq_true rfl) (by first | rfl | assumption) (by rfl) ?_
  refine x_goto 47 d_TR_count_37 (by decide) ?_
  exact x_ireturn d_TR_count_47 rfl rfl ⟨rfl, rfl, fun _ _ => rfl, rfl, rfl⟩
set_option maxRecDepth 20000 in
theorem w_TR_count2 {E : xR} {h : xH} {tl rl bk : Int32} {v3 v4 v7 v8 v9 w0 w1 w2 w3 w4 w5 w6 : Value} (h0 : h 0 = .inr (0, [.ref 1, .ref 2, .ref 15, v3, v4, .int tl, .int rl, v7, v8, v9])) (h2 : h 2 = .inr (1, [.ref 3, .ref 5])) (h3 : h 3 = .inr (2, [w0, w1, w2, w3, w4, w5, w6, .int bk])) : x_Mt E M_TR_count 6 1 6 [.ref 0, .int 2] 52 h (x_Y (some (.int bk)) 52 h) := by
  refine x_Mt.of (by decide) (Nat.le_of_ble_eq_true rfl) ?_
  show x_W E M_TR_count _ _ 52 h 0 [(0, .ref 0), (1, .int 2)] [] 0 0
  refine x_iload_n d_TR_count_0 rfl rfl ?_
  refine x_if_lt 9 d_TR_count_1 (by decide) (fun z => absurd z (by decide)) (fun _ => ?_)
  refine x_iload_n d_TR_count_4 rfl rfl ?_
  refine x_iconst 2 d_TR_count_5 (by decide) ?_
  refine x_icmp_le 19 d_TR_count_6 (by decide) (fun _ => ?_) (fun z => absurd (by decide) z)
  refine x_iload_n d_TR_count_19 rfl rfl ?_
  refine x_if_ne 28 d_TR_count_20 (by decide) (fun _ => ?_) (fun z => absurd z (by decide))
  refine x_iload_n d_TR_count_28 rfl rfl ?_
  refine x_iconst 1 d_TR_count_29 (by decide) ?_
  refine x_icmp_ne 40 d_TR_count_30 (by decide) (fun _ => ?_) (fun z => absurd z (by decide))
  refine x_aload_n d_TR_count_40 rfl rfl ?_
  refine x_get d_TR_count_41 f_TR_16 (Nat.le_of_ble_eq_true rfl) (Nat.le_of_ble_eq_true rfl) (by first | rfl | assumption) (by rfl) ?_
  refine x_callV0Y d_TR_count_44 k_TR_86 (Nat.le_of_ble_eq_true rfl) (Nat.le_of_ble_eq_true rfl) (by first | rfl | assumption) (by rfl) (w_PA_brokenPlace h2 h3) (Nat.le_of_ble_eq_true rfl) (Nat.le_of_ble_eq_true rfl) (Nat.le_of_ble_eq_true rfl) (Nat.le_of_ble_eq_true rfl) (Nat.le_of_ble_eq_true rfl) rfl ?_
  exact x_ireturn d_TR_count_47 rfl rfl ⟨rfl, rfl, fun _ _ => rfl, rfl, rfl⟩
set_option maxRecDepth 20000 in
theorem w_TR_count_no {E : xR} {h : xH} {x : Int32} (hx : x < 0 ∨ ¬ x ≤ 2) : x_Mt E M_TR_count 6 1 6 [.ref 0, .int x] 52 h (x_X 1 52 h) := by
  refine x_Mt.of (by decide) (Nat.le_of_ble_eq_true rfl) ?_
  show x_W E M_TR_count _ _ 52 h 0 [(0, .ref 0), (1, .int x)] [] 0 0
  refine x_iload_n d_TR_count_0 rfl rfl ?_
  refine x_if_lt 9 d_TR_count_1 (by decide) (fun c_1 => ?_) (fun c_1 => ?_)
  · exact x_throwB 1 rfl d_TR_count_9 d_TR_count_12 d_TR_count_13 d_TR_count_15 d_TR_count_18 t_TR_48_73 (Nat.le_of_ble_eq_true rfl) (Nat.le_of_ble_eq_true rfl) (Nat.le_of_ble_eq_true rfl) (Nat.le_of_ble_eq_true rfl) (Nat.le_of_ble_eq_true rfl) rfl ⟨rfl, rfl, fun _ _ => rfl, rfl, rfl⟩
  · refine x_iload_n d_TR_count_4 rfl rfl ?_
    refine x_iconst 2 d_TR_count_5 (by decide) ?_
    refine x_icmp_le 19 d_TR_count_6 (by decide) (fun z => absurd z (hx.resolve_left c_1)) (fun _ => ?_)
    exact x_throwB 1 rfl d_TR_count_9 d_TR_count_12 d_TR_count_13 d_TR_count_15 d_TR_count_18 t_TR_48_73 (Nat.le_of_ble_eq_true rfl) (Nat.le_of_ble_eq_true rfl) (Nat.le_of_ble_eq_true rfl) (Nat.le_of_ble_eq_true rfl) (Nat.le_of_ble_eq_true rfl) rfl ⟨rfl, rfl, fun _ _ => rfl, rfl, rfl⟩
