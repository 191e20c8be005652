/-- a name as it is printed -/
def g_nmS (u : Nat → Nat) (f t : Nat) : List Int32 := bif g_pn u f t then g_tp u (t - f) f else 39 :: (g_tp u (t - f) f ++ [39])
theorem g_nmS1 {u : Nat → Nat} {f t : Nat} (h : g_pn u f t = true) : g_nmS u f t = g_tp u (t - f) f := by unfold g_nmS; rw [h]; rfl
theorem g_nmS0 {u : Nat → Nat} {f t : Nat} (h : g_pn u f t = false) : g_nmS u f t = 39 :: (g_tp u (t - f) f ++ [39]) := by unfold g_nmS; rw [h]; rfl
theorem g_psq (u : Nat → Nat) (P : Nat → Int32) (n m i : Nat) : g_ps P n (39 :: (g_tp u m i ++ [39])) = g_pp (g_ps (g_pp P n 39) (n + 1) (g_tp u m i)) (n + 1 + m) 39 := by
  rw [g_ps, g_ps_app, g_tp_len]; rfl
theorem d_PR_printName_0 : decode M_PR_printName.2.1 0 = .ok (.aload_n 0, 1) := by decide +kernel
theorem d_PR_printName_1 : decode M_PR_printName.2.1 1 = .ok (.aload_n 1, 1) := by decide +kernel
theorem d_PR_printName_2 : decode M_PR_printName.2.1 2 = .ok (.getfield 76, 3) := by decide +kernel
theorem d_PR_printName_5 : decode M_PR_printName.2.1 5 = .ok (.aload_n 1, 1) := by decide +kernel
theorem d_PR_printName_6 : decode M_PR_printName.2.1 6 = .ok (.getfield 79, 3) := by decide +kernel
theorem d_PR_printName_9 : decode M_PR_printName.2.1 9 = .ok (.iload_n 2, 1) := by decide +kernel
theorem d_PR_printName_10 : decode M_PR_printName.2.1 10 = .ok (.iaload, 1) := by decide +kernel
theorem d_PR_printName_11 : decode M_PR_printName.2.1 11 = .ok (.aload_n 1, 1) := by decide +kernel
theorem d_PR_printName_12 : decode M_PR_printName.2.1 12 = .ok (.getfield 94, 3) := by decide +kernel
theorem d_PR_printName_15 : decode M_PR_printName.2.1 15 = .ok (.iload_n 2, 1) := by decide +kernel
theorem d_PR_printName_16 : decode M_PR_printName.2.1 16 = .ok (.iaload, 1) := by decide +kernel
theorem d_PR_printName_17 : decode M_PR_printName.2.1 17 = .ok (.invokevirtual 97, 3) := by decide +kernel
theorem d_PR_printName_20 : decode M_PR_printName.2.1 20 = .ok (.istore_n 3, 1) := by decide +kernel
theorem d_PR_printName_21 : decode M_PR_printName.2.1 21 = .ok (.iload_n 3, 1) := by decide +kernel
theorem d_PR_printName_22 : decode M_PR_printName.2.1 22 = .ok (.ifCond .ne 9, 3) := by decide +kernel
theorem d_PR_printName_25 : decode M_PR_printName.2.1 25 = .ok (.aload_n 0, 1) := by decide +kernel
theorem d_PR_printName_26 : decode M_PR_printName.2.1 26 = .ok (.bipush 39, 2) := by decide +kernel
theorem d_PR_printName_28 : decode M_PR_printName.2.1 28 = .ok (.invokevirtual 54, 3) := by decide +kernel
theorem d_PR_printName_31 : decode M_PR_printName.2.1 31 = .ok (.aload_n 0, 1) := by decide +kernel
theorem d_PR_printName_32 : decode M_PR_printName.2.1 32 = .ok (.aload_n 1, 1) := by decide +kernel
theorem d_PR_printName_33 : decode M_PR_printName.2.1 33 = .ok (.iload_n 2, 1) := by decide +kernel
theorem d_PR_printName_34 : decode M_PR_printName.2.1 34 = .ok (.invokevirtual 82, 3) := by decide +kernel
theorem d_PR_printName_37 : decode M_PR_printName.2.1 37 = .ok (.iload_n 3, 1) := by decide +kernel
theorem d_PR_printName_38 : decode M_PR_printName.2.1 38 = .ok (.ifCond .ne 9, 3) := by decide +kernel
theorem d_PR_printName_41 : decode M_PR_printName.2.1 41 = .ok (.aload_n 0, 1) := by decide +kernel
theorem d_PR_printName_42 : decode M_PR_printName.2.1 42 = .ok (.bipush 39, 2) := by decide +kernel
theorem d_PR_printName_44 : decode M_PR_printName.2.1 44 = .ok (.invokevirtual 54, 3) := by decide +kernel
theorem d_PR_printName_47 : decode M_PR_printName.2.1 47 = .ok (.return_, 1) := by decide +kernel
set_option maxRecDepth 20000 in
theorem w_PR_printName {E : xR} {h : xH} {u : Nat → Nat} {ra : Nat} {wc ne : Int32} {Lv Wt : Nat → Int32} {A : Nat → Nat → Int32} {sy va rt : Value} {y f t ln : Nat} {Pp : Nat → Int32} (hra : ra = 19 ∨ ra = 20) (t5 : h 5 = .inr (3, [.ref 6, .ref 7, .ref 8, .ref 9, .ref 10, .ref 11, .ref 12, .ref 13, .ref 1, sy, va, rt])) (a1 : h 7 = .inl (0, 1001, .inl (A 1))) (a2 : h 8 = .inl (0, 1001, .inl (A 2))) (h1 : h 1 = .inl (1, 4096, .inl (fun i => g_sb (u i)))) (hu : ∀ i, u i < 256) (hy : y < 1001) (hf0 : A 1 y = nI f) (ht : A 2 y = nI t) (hft : f ≤ t) (ht4 : t ≤ 4096) (hl : ln < 2 ^ 28) : x_Mt E M_PR_printName 8 0 0 [.ref 15, .ref 5, .int (nI y)] 52 (g_qw h ra wc (nI ln) ne Lv Wt Pp) (x_Y none 52 (g_qw h ra wc (nI (ln + (g_nmS u f t).length)) ne Lv Wt (g_ps Pp ln (g_nmS u f t)))) := by
  have hra0 := hra
  rcases hra with rfl | rfl
  · refine x_Mt.of (by decide) (Nat.le_of_ble_eq_true rfl) ?_
    show x_W E M_PR_printName _ _ 52 (g_qw h 19 wc (nI ln) ne Lv Wt Pp) 0 [(0, .ref 15), (1, .ref 5), (2, .int (nI y))] [] 0 0
    refine x_aload_n d_PR_printName_0 rfl rfl ?_
    refine x_aload_n d_PR_printName_1 rfl rfl ?_
    refine x_get d_PR_printName_2 f_PR_76 (Nat.le_of_ble_eq_true rfl) (Nat.le_of_ble_eq_true rfl) (by first | rfl | assumption) (by rfl) ?_
    refine x_aload_n d_PR_printName_5 rfl rfl ?_
    refine x_get d_PR_printName_6 f_PR_79 (Nat.le_of_ble_eq_true rfl) (Nat.le_of_ble_eq_true rfl) (by first | rfl | assumption) (by rfl) ?_
    refine x_iload_n d_PR_printName_9 rfl rfl ?_
    refine x_iald d_PR_printName_10 (Nat.le_of_ble_eq_true rfl) (Nat.le_of_ble_eq_true rfl) (by first | rfl | assumption) (vp_in_nI hy (by decide)) ?_
    refine x_topi (nI f) (by rw [nI_clamp (by omega)]; exact hf0) ?_
    refine x_aload_n d_PR_printName_11 rfl rfl ?_
    refine x_get d_PR_printName_12 f_PR_94 (Nat.le_of_ble_eq_true rfl) (Nat.le_of_ble_eq_true rfl) (by first | rfl | assumption) (by rfl) ?_
    refine x_iload_n d_PR_printName_15 rfl rfl ?_
    refine x_iald d_PR_printName_16 (Nat.le_of_ble_eq_true rfl) (Nat.le_of_ble_eq_true rfl) (by first | rfl | assumption) (vp_in_nI hy (by decide)) ?_
    refine x_topi (nI t) (by rw [nI_clamp (by omega)]; exact ht) ?_
    refine x_callV3Y d_PR_printName_17 k_PR_97 (Nat.le_of_ble_eq_true rfl) (Nat.le_of_ble_eq_true rfl) (by first | rfl | assumption) (by rfl) (w_PR_isPlainName rfl h1 hu hft ht4) (Nat.le_of_ble_eq_true rfl) (Nat.le_of_ble_eq_true rfl) (Nat.le_of_ble_eq_true rfl) (Nat.le_of_ble_eq_true rfl) (Nat.le_of_ble_eq_true rfl) rfl ?_
    refine x_istore_n d_PR_printName_20 rfl (Nat.le_of_ble_eq_true rfl) ?_
    refine x_iload_n d_PR_printName_21 rfl rfl ?_
    refine x_if_ne 31 d_PR_printName_22 (by decide) (fun c_22 => ?_) (fun c_22 => ?_)
    · refine x_aload_n d_PR_printName_31 rfl rfl ?_
      refine x_aload_n d_PR_printName_32 rfl rfl ?_
      refine x_iload_n d_PR_printName_33 rfl rfl ?_
      refine x_callV2Y d_PR_printName_34 k_PR_82 (Nat.le_of_ble_eq_true rfl) (Nat.le_of_ble_eq_true rfl) (by first | rfl | assumption) (by rfl) (w_PR_putText hra0 t5 a1 a2 h1 hy hf0 ht hft ht4 (by omega)) (Nat.le_of_ble_eq_true rfl) (Nat.le_of_ble_eq_true rfl) (Nat.le_of_ble_eq_true rfl) (Nat.le_of_ble_eq_true rfl) (Nat.le_of_ble_eq_true rfl) rfl ?_
      refine x_iload_n d_PR_printName_37 rfl rfl ?_
      refine x_if_ne 47 d_PR_printName_38 (by decide) (fun _ => ?_) (fun z => absurd z c_22)
      exact x_return d_PR_printName_47 rfl ⟨rfl, rfl, fun i hi => by rw [g_nmS1 (g_b2n c_22), g_tp_len], rfl, rfl⟩
    · refine x_aload_n d_PR_printName_25 rfl rfl ?_
      refine x_bipush 39 d_PR_printName_26 (by decide) ?_
      refine x_callV1Y d_PR_printName_28 k_PR_54 (Nat.le_of_ble_eq_true rfl) (Nat.le_of_ble_eq_true rfl) (by first | rfl | assumption) (by rfl) (w_PR_put hra0 (by omega)) (Nat.le_of_ble_eq_true rfl) (Nat.le_of_ble_eq_true rfl) (Nat.le_of_ble_eq_true rfl) (Nat.le_of_ble_eq_true rfl) (Nat.le_of_ble_eq_true rfl) rfl ?_
      refine x_aload_n d_PR_printName_31 rfl rfl ?_
      refine x_aload_n d_PR_printName_32 rfl rfl ?_
      refine x_iload_n d_PR_printName_33 rfl rfl ?_
      refine x_callV2Y d_PR_printName_34 k_PR_82 (Nat.le_of_ble_eq_true rfl) (Nat.le_of_ble_eq_true rfl) (by first | rfl | assumption) (by rfl) (w_PR_putText hra0 t5 a1 a2 h1 hy hf0 ht hft ht4 (by omega)) (Nat.le_of_ble_eq_true rfl) (Nat.le_of_ble_eq_true rfl) (Nat.le_of_ble_eq_true rfl) (Nat.le_of_ble_eq_true rfl) (Nat.le_of_ble_eq_true rfl) rfl ?_
      refine x_iload_n d_PR_printName_37 rfl rfl ?_
      refine x_if_ne 47 d_PR_printName_38 (by decide) (fun z => absurd c_22 z) (fun _ => ?_)
      refine x_aload_n d_PR_printName_41 rfl rfl ?_
      refine x_bipush 39 d_PR_printName_42 (by decide) ?_
      refine x_callV1Y d_PR_printName_44 k_PR_54 (Nat.le_of_ble_eq_true rfl) (Nat.le_of_ble_eq_true rfl) (by first | rfl | assumption) (by rfl) (w_PR_put hra0 (by omega)) (Nat.le_of_ble_eq_true rfl) (Nat.le_of_ble_eq_true rfl) (Nat.le_of_ble_eq_true rfl) (Nat.le_of_ble_eq_true rfl) (Nat.le_of_ble_eq_true rfl) rfl ?_
      exact x_return d_PR_printName_47 rfl ⟨rfl, rfl, fun i hi => by rw [g_nmS0 (g_b2z c_22), g_psq, List.length_cons, List.length_append, g_tp_len, show ln + (t - f + [(39 : Int32)].length + 1) = ln + 1 + (t - f) + 1 by show ln + (t - f + 1 + 1) = _; omega], rfl, rfl⟩
  · refine x_Mt.of (by decide) (Nat.le_of_ble_eq_true rfl) ?_
    show x_W E M_PR_printName _ _ 52 (g_qw h 20 wc (nI ln) ne Lv Wt Pp) 0 [(0, .ref 15), (1, .ref 5), (2, .int (nI y))] [] 0 0
    refine x_aload_n d_PR_printName_0 rfl rfl ?_
    refine x_aload_n d_PR_printName_1 rfl rfl ?_
    refine x_get d_PR_printName_2 f_PR_76 (Nat.le_of_ble_eq_true rfl) (Nat.le_of_ble_eq_true rfl) (by first | rfl | assumption) (by rfl) ?_
    refine x_aload_n d_PR_printName_5 rfl rfl ?_
    refine x_get d_PR_printName_6 f_PR_79 (Nat.le_of_ble_eq_true rfl) (Nat.le_of_ble_eq_true rfl) (by first | rfl | assumption) (by rfl) ?_
    refine x_iload_n d_PR_printName_9 rfl rfl ?_
    refine x_iald d_PR_printName_10 (Nat.le_of_ble_eq_true rfl) (Nat.le_of_ble_eq_true rfl) (by first | rfl | assumption) (vp_in_nI hy (by decide)) ?_
    refine x_topi (nI f) (by rw [nI_clamp (by omega)]; exact hf0) ?_
    refine x_aload_n d_PR_printName_11 rfl rfl ?_
    refine x_get d_PR_printName_12 f_PR_94 (Nat.le_of_ble_eq_true rfl) (Nat.le_of_ble_eq_true rfl) (by first | rfl | assumption) (by rfl) ?_
    refine x_iload_n d_PR_printName_15 rfl rfl ?_
    refine x_iald d_PR_printName_16 (Nat.le_of_ble_eq_true rfl) (Nat.le_of_ble_eq_true rfl) (by first | rfl | assumption) (vp_in_nI hy (by decide)) ?_
    refine x_topi (nI t) (by rw [nI_clamp (by omega)]; exact ht) ?_
    refine x_callV3Y d_PR_printName_17 k_PR_97 (Nat.le_of_ble_eq_true rfl) (Nat.le_of_ble_eq_true rfl) (by first | rfl | assumption) (by rfl) (w_PR_isPlainName rfl h1 hu hft ht4) (Nat.le_of_ble_eq_true rfl) (Nat.le_of_ble_eq_true rfl) (Nat.le_of_ble_eq_true rfl) (Nat.le_of_ble_eq_true rfl) (Nat.le_of_ble_eq_true rfl) rfl ?_
    refine x_istore_n d_PR_printName_20 rfl (Nat.le_of_ble_eq_true rfl) ?_
    refine x_iload_n d_PR_printName_21 rfl rfl ?_
    refine x_if_ne 31 d_PR_printName_22 (by decide) (fun c_22 => ?_) (fun c_22 => ?_)
    · refine x_aload_n d_PR_printName_31 rfl rfl ?_
      refine x_aload_n d_PR_printName_32 rfl rfl ?_
      refine x_iload_n d_PR_printName_33 rfl rfl ?_
      refine x_callV2Y d_PR_printName_34 k_PR_82 (Nat.le_of_ble_eq_true rfl) (Nat.le_of_ble_eq_true rfl) (by first | rfl | assumption) (by rfl) (w_PR_putText hra0 t5 a1 a2 h1 hy hf0 ht hft ht4 (by omega)) (Nat.le_of_ble_eq_true rfl) (Nat.le_of_ble_eq_true rfl) (Nat.le_of_ble_eq_true rfl) (Nat.le_of_ble_eq_true rfl) (Nat.le_of_ble_eq_true rfl) rfl ?_
      refine x_iload_n d_PR_printName_37 rfl rfl ?_
      refine x_if_ne 47 d_PR_printName_38 (by decide) (fun _ => ?_) (fun z => absurd z c_22)
      exact x_return d_PR_printName_47 rfl ⟨rfl, rfl, fun i hi => by rw [g_nmS1 (g_b2n c_22), g_tp_len], rfl, rfl⟩
    · refine x_aload_n d_PR_printName_25 rfl rfl ?_
      refine x_bipush 39 d_PR_printName_26 (by decide) ?_
      refine x_callV1Y d_PR_printName_28 k_PR_54 (Nat.le_of_ble_eq_true rfl) (Nat.le_of_ble_eq_true rfl) (by first | rfl | assumption) (by rfl) (w_PR_put hra0 (by omega)) (Nat.le_of_ble_eq_true rfl) (Nat.le_of_ble_eq_true rfl) (Nat.le_of_ble_eq_true rfl) (Nat.le_of_ble_eq_true rfl) (Nat.le_of_ble_eq_true rfl) rfl ?_
      refine x_aload_n d_PR_printName_31 rfl rfl ?_
      refine x_aload_n d_PR_printName_32 rfl rfl ?_
      refine x_iload_n d_PR_printName_33 rfl rfl ?_
      refine x_callV2Y d_PR_printName_34 k_PR_82 (Nat.le_of_ble_eq_true rfl) (Nat.le_of_ble_eq_true rfl) (by first | rfl | assumption) (by rfl) (w_PR_putText hra0 t5 a1 a2 h1 hy hf0 ht hft ht4 (by omega)) (Nat.le_of_ble_eq_true rfl) (Nat.le_of_ble_eq_true rfl) (Nat.le_of_ble_eq_true rfl) (Nat.le_of_ble_eq_true rfl) (Nat.le_of_ble_eq_true rfl) rfl ?_
      refine x_iload_n d_PR_printName_37 rfl rfl ?_
      refine x_if_ne 47 d_PR_printName_38 (by decide) (fun z => absurd c_22 z) (fun _ => ?_)
      refine x_aload_n d_PR_printName_41 rfl rfl ?_
      refine x_bipush 39 d_PR_printName_42 (by decide) ?_
      refine x_callV1Y d_PR_printName_44 k_PR_54 (Nat.le_of_ble_eq_true rfl) (Nat.le_of_ble_eq_true rfl) (by first | rfl | assumption) (by rfl) (w_PR_put hra0 (by omega)) (Nat.le_of_ble_eq_true rfl) (Nat.le_of_ble_eq_true rfl) (Nat.le_of_ble_eq_true rfl) (Nat.le_of_ble_eq_true rfl) (Nat.le_of_ble_eq_true rfl) rfl ?_
      exact x_return d_PR_printName_47 rfl ⟨rfl, rfl, fun i hi => by rw [g_nmS0 (g_b2z c_22), g_psq, List.length_cons, List.length_append, g_tp_len, show ln + (t - f + [(39 : Int32)].length + 1) = ln + 1 + (t - f) + 1 by show ln + (t - f + 1 + 1) = _; omega], rfl, rfl⟩
/-- a number below 1000 as it is printed -/
def g_num (v : Nat) : List Int32 := if v < 10 then [nI (48 + v)] else if v < 100 then [nI (48 + v / 10), nI (48 + v % 10)] else [nI (48 + v / 100), nI (48 + v / 10 % 10), nI (48 + v % 10)]
theorem g_nmd : ∀ v, v < 1000 → nI v / 1 = nI v ∧ nI v / 10 = nI (v / 10) ∧ nI v / 100 = nI (v / 100) ∧ (48 + (nI v - nI v / 10 * 10) = nI (48 + v % 10)) ∧ (48 + (nI (v / 10) - nI (v / 10) / 10 * 10) = nI (48 + v / 10 % 10)) ∧ (48 + (nI (v / 100) - nI (v / 100) / 10 * 10) = nI (48 + v / 100 % 10)) := by decide +kernel
