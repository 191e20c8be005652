/-- the byte of x at the shift z -/
def g_b (x z : Int32) : Int32 := (x >>> (z &&& 31)).toInt8.toInt32
/-- four bytes of x laid at t -/
def g_put (f : Nat → Int32) (t : Nat) (x : Int32) : Nat → Int32 := upd (upd (upd (upd f t (g_b x 24)) (t + 1) (g_b x 16)) (t + 2) (g_b x 8)) (t + 3) (g_b x 0)
/-- twenty bytes laid at t -/
def g_feed (f : Nat → Int32) (t : Nat) (a b c d e : Int32) : Nat → Int32 := g_put (g_put (g_put (g_put (g_put f t a) (t + 4) b) (t + 8) c) (t + 12) d) (t + 16) e
theorem d_TR_put_0 : decode M_TR_put.2.1 0 = .ok (.bipush 24, 2) := by decide +kernel
theorem d_TR_put_2 : decode M_TR_put.2.1 2 = .ok (.istore_n 2, 1) := by decide +kernel
theorem d_TR_put_3 : decode M_TR_put.2.1 3 = .ok (.iload_n 2, 1) := by decide +kernel
theorem d_TR_put_4 : decode M_TR_put.2.1 4 = .ok (.ifCond .lt 32, 3) := by decide +kernel
theorem d_TR_put_7 : decode M_TR_put.2.1 7 = .ok (.aload_n 0, 1) := by decide +kernel
theorem d_TR_put_8 : decode M_TR_put.2.1 8 = .ok (.getfield 9, 3) := by decide +kernel
theorem d_TR_put_11 : decode M_TR_put.2.1 11 = .ok (.aload_n 0, 1) := by decide +kernel
theorem d_TR_put_12 : decode M_TR_put.2.1 12 = .ok (.getfield 33, 3) := by decide +kernel
theorem d_TR_put_15 : decode M_TR_put.2.1 15 = .ok (.iload_n 1, 1) := by decide +kernel
theorem d_TR_put_16 : decode M_TR_put.2.1 16 = .ok (.iload_n 2, 1) := by decide +kernel
theorem d_TR_put_17 : decode M_TR_put.2.1 17 = .ok (.ishr, 1) := by decide +kernel
theorem d_TR_put_18 : decode M_TR_put.2.1 18 = .ok (.i2b, 1) := by decide +kernel
theorem d_TR_put_19 : decode M_TR_put.2.1 19 = .ok (.bastore, 1) := by decide +kernel
theorem d_TR_put_20 : decode M_TR_put.2.1 20 = .ok (.aload_n 0, 1) := by decide +kernel
theorem d_TR_put_21 : decode M_TR_put.2.1 21 = .ok (.dup, 1) := by decide +kernel
theorem d_TR_put_22 : decode M_TR_put.2.1 22 = .ok (.getfield 33, 3) := by decide +kernel
theorem d_TR_put_25 : decode M_TR_put.2.1 25 = .ok (.iconst 1, 1) := by decide +kernel
theorem d_TR_put_26 : decode M_TR_put.2.1 26 = .ok (.iadd, 1) := by decide +kernel
theorem d_TR_put_27 : decode M_TR_put.2.1 27 = .ok (.putfield 33, 3) := by decide +kernel
theorem d_TR_put_30 : decode M_TR_put.2.1 30 = .ok (.iinc 2 (-8), 3) := by decide +kernel
theorem d_TR_put_33 : decode M_TR_put.2.1 33 = .ok (.goto (-30), 3) := by decide +kernel
theorem d_TR_put_36 : decode M_TR_put.2.1 36 = .ok (.return_, 1) := by decide +kernel
set_option maxRecDepth 20000 in
theorem w_TR_put {E : xR} {h : xH} {f : Nat → Int32} {t : Nat} {x : Int32} {v3 v4 v6 v7 v8 v9 : Value} (h0 : h 0 = .inr (0, [.ref 1, .ref 2, .ref 15, v3, v4, .int (nI t), v6, v7, v8, v9])) (h1 : h 1 = .inl (1, 4096, .inl f)) (ht : t + 4 ≤ 4096) : x_Mt E M_TR_put 0 0 0 [.ref 0, .int x] 52 h (x_Y none 52 (x_up (x_up h 0 (.inr (0, [.ref 1, .ref 2, .ref 15, v3, v4, .int (nI (t + 4)), v6, v7, v8, v9]))) 1 (.inl (1, 4096, .inl (g_put f t x))))) := by
  refine x_Mt.of (by decide) (Nat.le_of_ble_eq_true rfl) ?_
  show x_W E M_TR_put _ _ 52 h 0 [(0, .ref 0), (1, .int x)] [] 0 0
  refine x_bipush 24 d_TR_put_0 (by decide) ?_
  refine x_istore_n d_TR_put_2 rfl (Nat.le_of_ble_eq_true rfl) ?_
  refine x_iload_n d_TR_put_3 rfl rfl ?_
  refine x_if_lt 36 d_TR_put_4 (by decide) (fun z => absurd z (by decide)) (fun _ => ?_)
  refine x_aload_n d_TR_put_7 rfl rfl ?_
  refine x_get d_TR_put_8 f_TR_9 (Nat.le_of_ble_eq_true rfl) (Nat.le_of_ble_eq_true rfl) (by first | rfl | assumption) (by rfl) ?_
  refine x_aload_n d_TR_put_11 rfl rfl ?_
  refine x_get d_TR_put_12 f_TR_33 (Nat.le_of_ble_eq_true rfl) (Nat.le_of_ble_eq_true rfl) (by first | rfl | assumption) (by rfl) ?_
  refine x_iload_n d_TR_put_15 rfl rfl ?_
  refine x_iload_n d_TR_put_16 rfl rfl ?_
  refine x_ishr d_TR_put_17 ?_
  refine x_i2b d_TR_put_18 ?_
  refine x_bast d_TR_put_19 (Nat.le_of_ble_eq_true rfl) (Nat.le_of_ble_eq_true rfl) (by first | rfl | assumption) (vp_in_nI (by omega) (by decide)) ?_
  refine x_aload_n d_TR_put_20 rfl rfl ?_
  refine x_dup d_TR_put_21 rfl ?_
  refine x_get d_TR_put_22 f_TR_33 (Nat.le_of_ble_eq_true rfl) (Nat.le_of_ble_eq_true rfl) (by first | rfl | assumption) (by rfl) ?_
  refine x_iconst 1 d_TR_put_25 (by decide) ?_
  refine x_iadd d_TR_put_26 ?_
  refine x_topi (nI (t + 1)) (nI_1 t) ?_
  refine x_put d_TR_put_27 f_TR_33 (Nat.le_of_ble_eq_true rfl) (Nat.le_of_ble_eq_true rfl) (by first | rfl | assumption) (by rfl) (by rfl) (by exact (Nat.le_of_ble_eq_true rfl)) ?_
  refine x_iinc d_TR_put_30 rfl (-8) (by decide) (Nat.le_of_ble_eq_true rfl) ?_
  refine x_goto 3 d_TR_put_33 (by decide) ?_
  refine x_iload_n d_TR_put_3 rfl rfl ?_
  refine x_if_lt 36 d_TR_put_4 (by decide) (fun z => absurd z (by decide)) (fun _ => ?_)
  refine x_aload_n d_TR_put_7 rfl rfl ?_
  refine x_get d_TR_put_8 f_TR_9 (Nat.le_of_ble_eq_true rfl) (Nat.le_of_ble_eq_true rfl) (by first | rfl | assumption) (by rfl) ?_
  refine x_aload_n d_TR_put_11 rfl rfl ?_
  refine x_get d_TR_put_12 f_TR_33 (Nat.le_of_ble_eq_true rfl) (Nat.le_of_ble_eq_true rfl) (by first | rfl | assumption) (by rfl) ?_
  refine x_iload_n d_TR_put_15 rfl rfl ?_
  refine x_iload_n d_TR_put_16 rfl rfl ?_
  refine x_ishr d_TR_put_17 ?_
  refine x_i2b d_TR_put_18 ?_
  refine x_bast d_TR_put_19 (Nat.le_of_ble_eq_true rfl) (Nat.le_of_ble_eq_true rfl) (by first | rfl | assumption) (vp_in_nI (by omega) (by decide)) ?_
  refine x_aload_n d_TR_put_20 rfl rfl ?_
  refine x_dup d_TR_put_21 rfl ?_
  refine x_get d_TR_put_22 f_TR_33 (Nat.le_of_ble_eq_true rfl) (Nat.le_of_ble_eq_true rfl) (by first | rfl | assumption) (by rfl) ?_
  refine x_iconst 1 d_TR_put_25 (by decide) ?_
  refine x_iadd d_TR_put_26 ?_
  refine x_topi (nI (t + 2)) (nI_1 (t + 1)) ?_
  refine x_put d_TR_put_27 f_TR_33 (Nat.le_of_ble_eq_true rfl) (Nat.le_of_ble_eq_true rfl) (by first | rfl | assumption) (by rfl) (by rfl) (by exact (Nat.le_of_ble_eq_true rfl)) ?_
  refine x_iinc d_TR_put_30 rfl (-8) (by decide) (Nat.le_of_ble_eq_true rfl) ?_
  refine x_goto 3 d_TR_put_33 (by decide) ?_
  refine x_iload_n d_TR_put_3 rfl rfl ?_
  refine x_if_lt 36 d_TR_put_4 (by decide) (fun z => absurd z (by decide)) (fun _ => ?_)
  refine x_aload_n d_TR_put_7 rfl rfl ?_
  refine x_get d_TR_put_8 f_TR_9 (Nat.le_of_ble_eq_true rfl) (Nat.le_of_ble_eq_true rfl) (by first | rfl | assumption) (by rfl) ?_
  refine x_aload_n d_TR_put_11 rfl rfl ?_
  refine x_get d_TR_put_12 f_TR_33 (Nat.le_of_ble_eq_true rfl) (Nat.le_of_ble_eq_true rfl) (by first | rfl | assumption) (by rfl) ?_
  refine x_iload_n d_TR_put_15 rfl rfl ?_
  refine x_iload_n d_TR_put_16 rfl rfl ?_
  refine x_ishr d_TR_put_17 ?_
  refine x_i2b d_TR_put_18 ?_
  refine x_bast d_TR_put_19 (Nat.le_of_ble_eq_true rfl) (Nat.le_of_ble_eq_true rfl) (by first | rfl | assumption) (vp_in_nI (by omega) (by decide)) ?_
  refine x_aload_n d_TR_put_20 rfl rfl ?_
  refine x_dup d_TR_put_21 rfl ?_
  refine x_get d_TR_put_22 f_TR_33 (Nat.le_of_ble_eq_true rfl) (Nat.le_of_ble_eq_true rfl) (by first | rfl | assumption) (by rfl) ?_
  refine x_iconst 1 d_TR_put_25 (by decide) ?_
  refine x_iadd d_TR_put_26 ?_
  refine x_topi (nI (t + 3)) (nI_1 (t + 2)) ?_
  refine x_put d_TR_put_27 f_TR_33 (Nat.le_of_ble_eq_true rfl) (Nat.le_of_ble_eq_true rfl) (by first | rfl | assumption) (by rfl) (by rfl) (by exact (Nat.le_of_ble_eq_true rfl)) ?_
  refine x_iinc d_TR_put_30 rfl (-8) (by decide) (Nat.le_of_ble_eq_true rfl) ?_
  refine x_goto 3 d_TR_put_33 (by decide) ?_
  refine x_iload_n d_TR_put_3 rfl rfl ?_
  refine x_if_lt 36 d_TR_put_4 (by decide) (fun z => absurd z (by decide)) (fun _ => ?_)
  refine x_aload_n d_TR_put_7 rfl rfl ?_
  refine x_get d_TR_put_8 f_TR_9 (Nat.le_of_ble_eq_true rfl) (Nat.le_of_ble_eq_true rfl) (by first | rfl | assumption) (by rfl) ?_
  refine x_aload_n d_TR_put_11 rfl rfl ?_
  refine x_get d_TR_put_12 f_TR_33 (Nat.le_of_ble_eq_true rfl) (Nat.le_of_ble_eq_true rfl) (by first | rfl | assumption) (by rfl) ?_
  refine x_iload_n d_TR_put_15 rfl rfl ?_
  refine x_iload_n d_TR_put_16 rfl rfl ?_
  refine x_ishr d_TR_put_17 ?_
  refine x_i2b d_TR_put_18 ?_
  refine x_bast d_TR_put_19 (Nat.le_of_ble_eq_true rfl) (Nat.le_of_ble_eq_true rfl) (by first | rfl | assumption) (vp_in_nI (by omega) (by decide)) ?_
  refine x_aload_n d_TR_put_20 rfl rfl ?_
  refine x_dup d_TR_put_21 rfl ?_
  refine x_get d_TR_put_22 f_TR_33 (Nat.le_of_ble_eq_true rfl) (Nat.le_of_ble_eq_true rfl) (by first | rfl | assumption) (by rfl) ?_
  refine x_iconst 1 d_TR_put_25 (by decide) ?_
  refine x_iadd d_TR_put_26 ?_
  refine x_topi (nI (t + 4)) (nI_1 (t + 3)) ?_
  refine x_put d_TR_put_27 f_TR_33 (Nat.le_of_ble_eq_true rfl) (Nat.le_of_ble_eq_true rfl) (by first | rfl | assumption) (by rfl) (by rfl) (by exact (Nat.le_of_ble_eq_true rfl)) ?_
  refine x_iinc d_TR_put_30 rfl (-8) (by decide) (Nat.le_of_ble_eq_true rfl) ?_
  refine x_goto 3 d_TR_put_33 (by decide) ?_
  refine x_iload_n d_TR_put_3 rfl rfl ?_
  refine x_if_lt 36 d_TR_put_4 (by decide) (fun _ => ?_) (fun z => absurd (by decide) z)
  exact x_return d_TR_put_36 rfl ⟨rfl, rfl, x_pt rfl (by simp only [g_put, g_b, pk_vb, nI_clamp (show t < 2 ^ 31 by omega), nI_clamp (show t + 1 < 2 ^ 31 by omega), nI_clamp (show t + 2 < 2 ^ 31 by omega), nI_clamp (show t + 3 < 2 ^ 31 by omega)]; rfl) rfl rfl rfl rfl rfl rfl rfl rfl rfl rfl rfl rfl rfl rfl rfl rfl rfl rfl rfl rfl rfl rfl rfl rfl rfl rfl rfl rfl rfl rfl rfl rfl rfl rfl rfl rfl rfl rfl rfl rfl rfl rfl rfl rfl rfl rfl rfl rfl rfl rfl, rfl, rfl⟩
theorem d_MO_four_0 : decode M_MO_four.2.1 0 = .ok (.bipush 24, 2) := by decide +kernel
theorem d_MO_four_2 : decode M_MO_four.2.1 2 = .ok (.istore_n 2, 1) := by decide +kernel
theorem d_MO_four_3 : decode M_MO_four.2.1 3 = .ok (.iload_n 2, 1) := by decide +kernel
theorem d_MO_four_4 : decode M_MO_four.2.1 4 = .ok (.ifCond .lt 32, 3) := by decide +kernel
theorem d_MO_four_7 : decode M_MO_four.2.1 7 = .ok (.aload_n 0, 1) := by decide +kernel
theorem d_MO_four_8 : decode M_MO_four.2.1 8 = .ok (.getfield 13, 3) := by decide +kernel
theorem d_MO_four_11 : decode M_MO_four.2.1 11 = .ok (.aload_n 0, 1) := by decide +kernel
theorem d_MO_four_12 : decode M_MO_four.2.1 12 = .ok (.getfield 57, 3) := by decide +kernel
theorem d_MO_four_15 : decode M_MO_four.2.1 15 = .ok (.iload_n 1, 1) := by decide +kernel
theorem d_MO_four_16 : decode M_MO_four.2.1 16 = .ok (.iload_n 2, 1) := by decide +kernel
theorem d_MO_four_17 : decode M_MO_four.2.1 17 = .ok (.ishr, 1) := by decide +kernel
theorem d_MO_four_18 : decode M_MO_four.2.1 18 = .ok (.i2b, 1) := by decide +kernel
theorem d_MO_four_19 : decode M_MO_four.2.1 19 = .ok (.bastore, 1) := by decide +kernel
theorem d_MO_four_20 : decode M_MO_four.2.1 20 = .ok (.aload_n 0, 1) := by decide +kernel
theorem d_MO_four_21 : decode M_MO_four.2.1 21 = .ok (.dup, 1) := by decide +kernel
theorem d_MO_four_22 : decode M_MO_four.2.1 22 = .ok (.getfield 57, 3) := by decide +kernel
theorem d_MO_four_25 : decode M_MO_four.2.1 25 = .ok (.iconst 1, 1) := by decide +kernel
theorem d_MO_four_26 : decode M_MO_four.2.1 26 = .ok (.iadd, 1) := by decide +kernel
theorem d_MO_four_27 : decode M_MO_four.2.1 27 = .ok (.putfield 57, 3) := by decide +kernel
theorem d_MO_four_30 : decode M_MO_four.2.1 30 = .ok (.iinc 2 (-8), 3) := by decide +kernel
theorem d_MO_four_33 : decode M_MO_four.2.1 33 = .ok (.goto (-30), 3) := by decide +kernel
theorem d_MO_four_36 : decode M_MO_four.2.1 36 = .ok (.return_, 1) := by decide +kernel
set_option maxRecDepth 20000 in
theorem w_MO_four {E : xR} {h : xH} {f : Nat → Int32} {t : Nat} {x : Int32} {v0 v2 v3 v4 v5 v6 : Value} (h0 : h 21 = .inr (5, [v0, .int (nI t), v2, v3, v4, v5, v6, .ref 22, .ref 23, .ref 24, .ref 31, .ref 36, .ref 44, .ref 49, .ref 50])) (h1 : h 22 = .inl (1, 4096, .inl f)) (ht : t + 4 ≤ 4096) : x_Mt E M_MO_four 0 0 0 [.ref 21, .int x] 52 h (x_Y none 52 (x_up (x_up h 21 (.inr (5, [v0, .int (nI (t + 4)), v2, v3, v4, v5, v6, .ref 22, .ref 23, .ref 24, .ref 31, .ref 36, .ref 44, .ref 49, .ref 50]))) 22 (.inl (1, 4096, .inl (g_put f t x))))) := by
  refine x_Mt.of (by decide) (Nat.le_of_ble_eq_true rfl) ?_
  show x_W E M_MO_four _ _ 52 h 0 [(0, .ref 21), (1, .int x)] [] 0 0
  refine x_bipush 24 d_MO_four_0 (by decide) ?_
  refine x_istore_n d_MO_four_2 rfl (Nat.le_of_ble_eq_true rfl) ?_
  refine x_iload_n d_MO_four_3 rfl rfl ?_
  refine x_if_lt 36 d_MO_four_4 (by decide) (fun z => absurd z (by decide)) (fun _ => ?_)
  refine x_aload_n d_MO_four_7 rfl rfl ?_
  refine x_get d_MO_four_8 f_MO_13 (Nat.le_of_ble_eq_true rfl) (Nat.le_of_ble_eq_true rfl) (by first | rfl | assumption) (by rfl) ?_
  refine x_aload_n d_MO_four_11 rfl rfl ?_
  refine x_get d_MO_four_12 f_MO_57 (Nat.le_of_ble_eq_true rfl) (Nat.le_of_ble_eq_true rfl) (by first | rfl | assumption) (by rfl) ?_
  refine x_iload_n d_MO_four_15 rfl rfl ?_
  refine x_iload_n d_MO_four_16 rfl rfl ?_
  refine x_ishr d_MO_four_17 ?_
  refine x_i2b d_MO_four_18 ?_
  refine x_bast d_MO_four_19 (Nat.le_of_ble_eq_true rfl) (Nat.le_of_ble_eq_true rfl) (by first | rfl | assumption) (vp_in_nI (by omega) (by decide)) ?_
  refine x_aload_n d_MO_four_20 rfl rfl ?_
  refine x_dup d_MO_four_21 rfl ?_
  refine x_get d_MO_four_22 f_MO_57 (Nat.le_of_ble_eq_true rfl) (Nat.le_of_ble_eq_true rfl) (by first | rfl | assumption) (by rfl) ?_
  refine x_iconst 1 d_MO_four_25 (by decide) ?_
  refine x_iadd d_MO_four_26 ?_
  refine x_topi (nI (t + 1)) (nI_1 t) ?_
  refine x_put d_MO_four_27 f_MO_57 (Nat.le_of_ble_eq_true rfl) (Nat.le_of_ble_eq_true rfl) (by first | rfl | assumption) (by rfl) (by rfl) (by exact (Nat.le_of_ble_eq_true rfl)) ?_
  refine x_iinc d_MO_four_30 rfl (-8) (by decide) (Nat.le_of_ble_eq_true rfl) ?_
  refine x_goto 3 d_MO_four_33 (by decide) ?_
  refine x_iload_n d_MO_four_3 rfl rfl ?_
  refine x_if_lt 36 d_MO_four_4 (by decide) (fun z => absurd z (by decide)) (fun _ => ?_)
  refine x_aload_n d_MO_four_7 rfl rfl ?_
  refine x_get d_MO_four_8 f_MO_13 (Nat.le_of_ble_eq_true rfl) (Nat.le_of_ble_eq_true rfl) (by first | rfl | assumption) (by rfl) ?_
  refine x_aload_n d_MO_four_11 rfl rfl ?_
  refine x_get d_MO_four_12 f_MO_57 (Nat.le_of_ble_eq_true rfl) (Nat.le_of_ble_eq_true rfl) (by first | rfl | assumption) (by rfl) ?_
  refine x_iload_n d_MO_four_15 rfl rfl ?_
  refine x_iload_n d_MO_four_16 rfl rfl ?_
  refine x_ishr d_MO_four_17 ?_
  refine x_i2b d_MO_four_18 ?_
  refine x_bast d_MO_four_19 (Nat.le_of_ble_eq_true rfl) (Nat.le_of_ble_eq_true rfl) (by first | rfl | assumption) (vp_in_nI (by omega) (by decide)) ?_
  refine x_aload_n d_MO_four_20 rfl rfl ?_
  refine x_dup d_MO_four_21 rfl ?_
  refine x_get d_MO_four_22 f_MO_57 (Nat.le_of_ble_eq_true rfl) (Nat.le_of_ble_eq_true rfl) (by first | rfl | assumption) (by rfl) ?_
  refine x_iconst 1 d_MO_four_25 (by decide) ?_
  refine x_iadd d_MO_four_26 ?_
  refine x_topi (nI (t + 2)) (nI_1 (t + 1)) ?_
  refine x_put d_MO_four_27 f_MO_57 (Nat.le_of_ble_eq_true rfl) (Nat.le_of_ble_eq_true rfl) (by first | rfl | assumption) (by rfl) (by rfl) (by exact (Nat.le_of_ble_eq_true rfl)) ?_
  refine x_iinc d_MO_four_30 rfl (-8) (by decide) (Nat.le_of_ble_eq_true rfl) ?_
  refine x_goto 3 d_MO_four_33 (by decide) ?_
  refine x_iload_n d_MO_four_3 rfl rfl ?_
  refine x_if_lt 36 d_MO_four_4 (by decide) (fun z => absurd z (by decide)) (fun _ => ?_)
  refine x_aload_n d_MO_four_7 rfl rfl ?_
  refine x_get d_MO_four_8 f_MO_13 (Nat.le_of_ble_eq_true rfl) (Nat.le_of_ble_eq_true rfl) (by first | rfl | assumption) (by rfl) ?_
  refine x_aload_n d_MO_four_11 rfl rfl ?_
  refine x_get d_MO_four_12 f_MO_57 (Nat.le_of_ble_eq_true rfl) (Nat.le_of_ble_eq_true rfl) (by first | rfl | assumption) (by rfl) ?_
  refine x_iload_n d_MO_four_15 rfl rfl ?_
  refine x_iload_n d_MO_four_16 rfl rfl ?_
  refine x_ishr d_MO_four_17 ?_
  refine x_i2b d_MO_four_18 ?_
  refine x_bast d_MO_four_19 (Nat.le_of_ble_eq_true rfl) (Nat.le_of_ble_eq_true rfl) (by first | rfl | assumption) (vp_in_nI (by omega) (by decide)) ?_
  refine x_aload_n d_MO_four_20 rfl rfl ?_
  refine x_dup d_MO_four_21 rfl ?_
  refine x_get d_MO_four_22 f_MO_57 (Nat.le_of_ble_eq_true rfl) (Nat.le_of_ble_eq_true rfl) (by first | rfl | assumption) (by rfl) ?_
  refine x_iconst 1 d_MO_four_25 (by decide) ?_
  refine x_iadd d_MO_four_26 ?_
  refine x_topi (nI (t + 3)) (nI_1 (t + 2)) ?_
  refine x_put d_MO_four_27 f_MO_57 (Nat.le_of_ble_eq_true rfl) (Nat.le_of_ble_eq_true rfl) (by first | rfl | assumption) (by rfl) (by rfl) (by exact (Nat.le_of_ble_eq_true rfl)) ?_
  refine x_iinc d_MO_four_30 rfl (-8) (by decide) (Nat.le_of_ble_eq_true rfl) ?_
  refine x_goto 3 d_MO_four_33 (by decide) ?_
  refine x_iload_n d_MO_four_3 rfl rfl ?_
  refine x_if_lt 36 d_MO_four_4 (by decide) (fun z => absurd z (by decide)) (fun _ => ?_)
  refine x_aload_n d_MO_four_7 rfl rfl ?_
  refine x_get d_MO_four_8 f_MO_13 (Nat.le_of_ble_eq_true rfl) (Nat.le_of_ble_eq_true rfl) (by first | rfl | assumption) (by rfl) ?_
  refine x_aload_n d_MO_four_11 rfl rfl ?_
  refine x_get d_MO_four_12 f_MO_57 (Nat.le_of_ble_eq_true rfl) (Nat.le_of_ble_eq_true rfl) (by first | rfl | assumption) (by rfl) ?_
  refine x_iload_n d_MO_four_15 rfl rfl ?_
  refine x_iload_n d_MO_four_16 rfl rfl ?_
  refine x_ishr d_MO_four_17 ?_
  refine x_i2b d_MO_four_18 ?_
  refine x_bast d_MO_four_19 (Nat.le_of_ble_eq_true rfl) (Nat.le_of_ble_eq_true rfl) (by first | rfl | assumption) (vp_in_nI (by omega) (by decide)) ?_
  refine x_aload_n d_MO_four_20 rfl rfl ?_
  refine x_dup d_MO_four_21 rfl ?_
  refine x_get d_MO_four_22 f_MO_57 (Nat.le_of_ble_eq_true rfl) (Nat.le_of_ble_eq_true rfl) (by first | rfl | assumption) (by rfl) ?_
  refine x_iconst 1 d_MO_four_25 (by decide) ?_
  refine x_iadd d_MO_four_26 ?_
  refine x_topi (nI (t + 4)) (nI_1 (t + 3)) ?_
  refine x_put d_MO_four_27 f_MO_57 (Nat.le_of_ble_eq_true rfl) (Nat.le_of_ble_eq_true rfl) (by first | rfl | assumption) (by rfl) (by rfl) (by exact (Nat.le_of_ble_eq_true rfl)) ?_
  refine x_iinc d_MO_four_30 rfl (-8) (by decide) (Nat.le_of_ble_eq_true rfl) ?_
  refine x_goto 3 d_MO_four_33 (by decide) ?_
  refine x_iload_n d_MO_four_3 rfl rfl ?_
  refine x_if_lt 36 d_MO_four_4 (by decide) (fun _ => ?_) (fun z => absurd (by decide) z)
  exact x_return d_MO_four_36 rfl ⟨rfl, rfl, x_pt rfl rfl rfl rfl rfl rfl rfl rfl rfl rfl rfl rfl rfl rfl rfl rfl rfl rfl rfl rfl rfl rfl (by simp only [g_put, g_b, pk_vb, nI_clamp (show t < 2 ^ 31 by omega), nI_clamp (show t + 1 < 2 ^ 31 by omega), nI_clamp (show t + 2 < 2 ^ 31 by omega), nI_clamp (show t + 3 < 2 ^ 31 by omega)]; rfl) rfl rfl rfl rfl rfl rfl rfl rfl rfl rfl rfl rfl rfl rfl rfl rfl rfl rfl rfl rfl rfl rfl rfl rfl rfl rfl rfl rfl rfl, rfl, rfl⟩
