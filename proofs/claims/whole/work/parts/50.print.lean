theorem d_PR_printSymbol_0 : decode M_PR_printSymbol.2.1 0 = .ok (.aload_n 0, 1) := by decide +kernel
theorem d_PR_printSymbol_1 : decode M_PR_printSymbol.2.1 1 = .ok (.aload_n 1, 1) := by decide +kernel
theorem d_PR_printSymbol_2 : decode M_PR_printSymbol.2.1 2 = .ok (.iload_n 2, 1) := by decide +kernel
theorem d_PR_printSymbol_3 : decode M_PR_printSymbol.2.1 3 = .ok (.invokevirtual 48, 3) := by decide +kernel
theorem d_PR_printSymbol_6 : decode M_PR_printSymbol.2.1 6 = .ok (.aload_n 1, 1) := by decide +kernel
theorem d_PR_printSymbol_7 : decode M_PR_printSymbol.2.1 7 = .ok (.getfield 51, 3) := by decide +kernel
theorem d_PR_printSymbol_10 : decode M_PR_printSymbol.2.1 10 = .ok (.iload_n 2, 1) := by decide +kernel
theorem d_PR_printSymbol_11 : decode M_PR_printSymbol.2.1 11 = .ok (.iaload, 1) := by decide +kernel
theorem d_PR_printSymbol_12 : decode M_PR_printSymbol.2.1 12 = .ok (.istore_n 3, 1) := by decide +kernel
theorem d_PR_printSymbol_13 : decode M_PR_printSymbol.2.1 13 = .ok (.iload_n 3, 1) := by decide +kernel
theorem d_PR_printSymbol_14 : decode M_PR_printSymbol.2.1 14 = .ok (.iconst 4, 1) := by decide +kernel
theorem d_PR_printSymbol_15 : decode M_PR_printSymbol.2.1 15 = .ok (.if_icmp .ne 22, 3) := by decide +kernel
theorem d_PR_printSymbol_18 : decode M_PR_printSymbol.2.1 18 = .ok (.aload_n 0, 1) := by decide +kernel
theorem d_PR_printSymbol_19 : decode M_PR_printSymbol.2.1 19 = .ok (.bipush 91, 2) := by decide +kernel
theorem d_PR_printSymbol_21 : decode M_PR_printSymbol.2.1 21 = .ok (.invokevirtual 54, 3) := by decide +kernel
theorem d_PR_printSymbol_24 : decode M_PR_printSymbol.2.1 24 = .ok (.aload_n 0, 1) := by decide +kernel
theorem d_PR_printSymbol_25 : decode M_PR_printSymbol.2.1 25 = .ok (.aload_n 1, 1) := by decide +kernel
theorem d_PR_printSymbol_26 : decode M_PR_printSymbol.2.1 26 = .ok (.getfield 57, 3) := by decide +kernel
theorem d_PR_printSymbol_29 : decode M_PR_printSymbol.2.1 29 = .ok (.iload_n 2, 1) := by decide +kernel
theorem d_PR_printSymbol_30 : decode M_PR_printSymbol.2.1 30 = .ok (.iaload, 1) := by decide +kernel
theorem d_PR_printSymbol_31 : decode M_PR_printSymbol.2.1 31 = .ok (.invokevirtual 60, 3) := by decide +kernel
theorem d_PR_printSymbol_34 : decode M_PR_printSymbol.2.1 34 = .ok (.goto 50, 3) := by decide +kernel
theorem d_PR_printSymbol_37 : decode M_PR_printSymbol.2.1 37 = .ok (.iload_n 3, 1) := by decide +kernel
theorem d_PR_printSymbol_38 : decode M_PR_printSymbol.2.1 38 = .ok (.iconst 3, 1) := by decide +kernel
theorem d_PR_printSymbol_39 : decode M_PR_printSymbol.2.1 39 = .ok (.if_icmp .ne 38, 3) := by decide +kernel
theorem d_PR_printSymbol_42 : decode M_PR_printSymbol.2.1 42 = .ok (.aload_n 0, 1) := by decide +kernel
theorem d_PR_printSymbol_43 : decode M_PR_printSymbol.2.1 43 = .ok (.aload_n 1, 1) := by decide +kernel
theorem d_PR_printSymbol_44 : decode M_PR_printSymbol.2.1 44 = .ok (.iload_n 2, 1) := by decide +kernel
theorem d_PR_printSymbol_45 : decode M_PR_printSymbol.2.1 45 = .ok (.invokevirtual 63, 3) := by decide +kernel
theorem d_PR_printSymbol_48 : decode M_PR_printSymbol.2.1 48 = .ok (.aload_n 1, 1) := by decide +kernel
theorem d_PR_printSymbol_49 : decode M_PR_printSymbol.2.1 49 = .ok (.getfield 57, 3) := by decide +kernel
theorem d_PR_printSymbol_52 : decode M_PR_printSymbol.2.1 52 = .ok (.iload_n 2, 1) := by decide +kernel
theorem d_PR_printSymbol_53 : decode M_PR_printSymbol.2.1 53 = .ok (.iaload, 1) := by decide +kernel
theorem d_PR_printSymbol_54 : decode M_PR_printSymbol.2.1 54 = .ok (.iconst (-1), 1) := by decide +kernel
theorem d_PR_printSymbol_55 : decode M_PR_printSymbol.2.1 55 = .ok (.if_icmp .eq 29, 3) := by decide +kernel
theorem d_PR_printSymbol_58 : decode M_PR_printSymbol.2.1 58 = .ok (.aload_n 0, 1) := by decide +kernel
theorem d_PR_printSymbol_59 : decode M_PR_printSymbol.2.1 59 = .ok (.bipush 40, 2) := by decide +kernel
theorem d_PR_printSymbol_61 : decode M_PR_printSymbol.2.1 61 = .ok (.invokevirtual 54, 3) := by decide +kernel
theorem d_PR_printSymbol_64 : decode M_PR_printSymbol.2.1 64 = .ok (.aload_n 0, 1) := by decide +kernel
theorem d_PR_printSymbol_65 : decode M_PR_printSymbol.2.1 65 = .ok (.aload_n 1, 1) := by decide +kernel
theorem d_PR_printSymbol_66 : decode M_PR_printSymbol.2.1 66 = .ok (.getfield 57, 3) := by decide +kernel
theorem d_PR_printSymbol_69 : decode M_PR_printSymbol.2.1 69 = .ok (.iload_n 2, 1) := by decide +kernel
theorem d_PR_printSymbol_70 : decode M_PR_printSymbol.2.1 70 = .ok (.iaload, 1) := by decide +kernel
theorem d_PR_printSymbol_71 : decode M_PR_printSymbol.2.1 71 = .ok (.invokevirtual 60, 3) := by decide +kernel
theorem d_PR_printSymbol_74 : decode M_PR_printSymbol.2.1 74 = .ok (.goto 10, 3) := by decide +kernel
theorem d_PR_printSymbol_77 : decode M_PR_printSymbol.2.1 77 = .ok (.aload_n 0, 1) := by decide +kernel
theorem d_PR_printSymbol_78 : decode M_PR_printSymbol.2.1 78 = .ok (.aload_n 1, 1) := by decide +kernel
theorem d_PR_printSymbol_79 : decode M_PR_printSymbol.2.1 79 = .ok (.iload_n 2, 1) := by decide +kernel
theorem d_PR_printSymbol_80 : decode M_PR_printSymbol.2.1 80 = .ok (.iload_n 3, 1) := by decide +kernel
theorem d_PR_printSymbol_81 : decode M_PR_printSymbol.2.1 81 = .ok (.invokevirtual 66, 3) := by decide +kernel
theorem d_PR_printSymbol_84 : decode M_PR_printSymbol.2.1 84 = .ok (.return_, 1) := by decide +kernel
set_option maxRecDepth 20000 in
theorem z_symP {E : xR} {h : xH} {ra wc ne : Nat} {S : List Int32} {Lv Wt P0 : Nat → Int32} {A : Nat → Nat → Int32} {sy : Value} {va : Value} {rt : Value} {y z lo : Nat} (hra : ra = 19 ∨ ra = 20) (t5 : h 5 = .inr (3, [.ref 6, .ref 7, .ref 8, .ref 9, .ref 10, .ref 11, .ref 12, .ref 13, .ref 1, sy, va, rt])) (a0 : h 6 = .inl (0, 1001, .inl (A 0))) (a3 : h 9 = .inl (0, 1001, .inl (A 3))) (a4 : h 10 = .inl (0, 1001, .inl (A 4))) (hy : y < 1001) (ho : (A 3 y = -1 ∧ lo = 0) ∨ ∃ o, o < 1001 ∧ A 3 y = nI o ∧ Lv o = nI lo) (hlo : lo < 4000) (hne : ne < 4000) (hS : S.length < 2 ^ 27) (hk : A 0 y = 4) (hch : A 4 y = nI z) (hz : z < 1001) (hw : wc + 1 < 2000) : x_Mt E M_PR_printSymbol 9 0 0 [.ref 15, .ref 5, .int (nI y)] 52 (g_zw h ra wc S ne Lv Wt P0) (x_Y none 52 (g_zw h ra (wc + 1 + 1) (S ++ [91]) (max ne (lo + 1)) (upd Lv y (nI (lo + 1))) (upd (upd Wt wc (nI z ^^^ -1)) (wc + 1) (nI z)) P0)) := by
  have hra0 := hra
  rcases hra with rfl | rfl
  · refine x_Mt.of (by decide) (Nat.le_of_ble_eq_true rfl) ?_
    show x_W E M_PR_printSymbol _ _ 52 (g_zw h 19 wc S ne Lv Wt P0) 0 [(0, .ref 15), (1, .ref 5), (2, .int (nI y))] [] 0 0
    refine x_aload_n d_PR_printSymbol_0 rfl rfl ?_
    refine x_aload_n d_PR_printSymbol_1 rfl rfl ?_
    refine x_iload_n d_PR_printSymbol_2 rfl rfl ?_
    refine x_callV2Y d_PR_printSymbol_3 k_PR_48 (Nat.le_of_ble_eq_true rfl) (Nat.le_of_ble_eq_true rfl) (by first | rfl | assumption) (by rfl) (z_countLevel hra0 t5 a3 a4 hy ho (Or.inr ⟨by rw [hch]; exact g_nIm (by omega), rfl⟩) (by omega) (by omega)) (Nat.le_of_ble_eq_true rfl) (Nat.le_of_ble_eq_true rfl) (Nat.le_of_ble_eq_true rfl) (Nat.le_of_ble_eq_true rfl) (Nat.le_of_ble_eq_true rfl) rfl ?_
    refine x_aload_n d_PR_printSymbol_6 rfl rfl ?_
    refine x_get d_PR_printSymbol_7 f_PR_51 (Nat.le_of_ble_eq_true rfl) (Nat.le_of_ble_eq_true rfl) (by first | rfl | assumption) (by rfl) ?_
    refine x_iload_n d_PR_printSymbol_10 rfl rfl ?_
    refine x_iald d_PR_printSymbol_11 (Nat.le_of_ble_eq_true rfl) (Nat.le_of_ble_eq_true rfl) (by first | rfl | assumption) (vp_in_nI hy (by decide)) ?_
    refine x_topi 4 (by rw [nI_clamp (by omega)]; exact hk) ?_
    refine x_istore_n d_PR_printSymbol_12 rfl (Nat.le_of_ble_eq_true rfl) ?_
    refine x_iload_n d_PR_printSymbol_13 rfl rfl ?_
    refine x_iconst 4 d_PR_printSymbol_14 (by decide) ?_
    refine x_icmp_ne 37 d_PR_printSymbol_15 (by decide) (fun z => absurd (by decide) z) (fun _ => ?_)
    refine x_aload_n d_PR_printSymbol_18 rfl rfl ?_
    refine x_bipush 91 d_PR_printSymbol_19 (by decide) ?_
    refine x_callV1Y d_PR_printSymbol_21 k_PR_54 (Nat.le_of_ble_eq_true rfl) (Nat.le_of_ble_eq_true rfl) (by first | rfl | assumption) (by rfl) (z_put hra0 (by omega)) (Nat.le_of_ble_eq_true rfl) (Nat.le_of_ble_eq_true rfl) (Nat.le_of_ble_eq_true rfl) (Nat.le_of_ble_eq_true rfl) (Nat.le_of_ble_eq_true rfl) rfl ?_
    refine x_aload_n d_PR_printSymbol_24 rfl rfl ?_
    refine x_aload_n d_PR_printSymbol_25 rfl rfl ?_
    refine x_get d_PR_printSymbol_26 f_PR_57 (Nat.le_of_ble_eq_true rfl) (Nat.le_of_ble_eq_true rfl) (by first | rfl | assumption) (by rfl) ?_
    refine x_iload_n d_PR_printSymbol_29 rfl rfl ?_
    refine x_iald d_PR_printSymbol_30 (Nat.le_of_ble_eq_true rfl) (Nat.le_of_ble_eq_true rfl) (by first | rfl | assumption) (vp_in_nI hy (by decide)) ?_
    refine x_topi (nI z) (by rw [nI_clamp (by omega)]; exact hch) ?_
    refine x_callV1Y d_PR_printSymbol_31 k_PR_60 (Nat.le_of_ble_eq_true rfl) (Nat.le_of_ble_eq_true rfl) (by first | rfl | assumption) (by rfl) (z_enter hra0 hw) (Nat.le_of_ble_eq_true rfl) (Nat.le_of_ble_eq_true rfl) (Nat.le_of_ble_eq_true rfl) (Nat.le_of_ble_eq_true rfl) (Nat.le_of_ble_eq_true rfl) rfl ?_
    refine x_goto 84 d_PR_printSymbol_34 (by decide) ?_
    exact x_return d_PR_printSymbol_84 rfl ⟨rfl, rfl, fun _ _ => rfl, rfl, rfl⟩
  · refine x_Mt.of (by decide) (Nat.le_of_ble_eq_true rfl) ?_
    show x_W E M_PR_printSymbol _ _ 52 (g_zw h 20 wc S ne Lv Wt P0) 0 [(0, .ref 15), (1, .ref 5), (2, .int (nI y))] [] 0 0
    refine x_aload_n d_PR_printSymbol_0 rfl rfl ?_
    refine x_aload_n d_PR_printSymbol_1 rfl rfl ?_
    refine x_iload_n d_PR_printSymbol_2 rfl rfl ?_
    refine x_callV2Y d_PR_printSymbol_3 k_PR_48 (Nat.le_of_ble_eq_true rfl) (Nat.le_of_ble_eq_true rfl) (by first | rfl | assumption) (by rfl) (z_countLevel hra0 t5 a3 a4 hy ho (Or.inr ⟨by rw [hch]; exact g_nIm (by omega), rfl⟩) (by omega) (by omega)) (Nat.le_of_ble_eq_true rfl) (Nat.le_of_ble_eq_true rfl) (Nat.le_of_ble_eq_true rfl) (Nat.le_of_ble_eq_true rfl) (Nat.le_of_ble_eq_true rfl) rfl ?_
    refine x_aload_n d_PR_printSymbol_6 rfl rfl ?_
    refine x_get d_PR_printSymbol_7 f_PR_51 (Nat.le_of_ble_eq_true rfl) (Nat.le_of_ble_eq_true rfl) (by first | rfl | assumption) (by rfl) ?_
    refine x_iload_n d_PR_printSymbol_10 rfl rfl ?_
    refine x_iald d_PR_printSymbol_11 (Nat.le_of_ble_eq_true rfl) (Nat.le_of_ble_eq_true rfl) (by first | rfl | assumption) (vp_in_nI hy (by decide)) ?_
    refine x_topi 4 (by rw [nI_clamp (by omega)]; exact hk) ?_
    refine x_istore_n d_PR_printSymbol_12 rfl (Nat.le_of_ble_eq_true rfl) ?_
    refine x_iload_n d_PR_printSymbol_13 rfl rfl ?_
    refine x_iconst 4 d_PR_printSymbol_14 (by decide) ?_
    refine x_icmp_ne 37 d_PR_printSymbol_15 (by decide) (fun z => absurd (by decide) z) (fun _ => ?_)
    refine x_aload_n d_PR_printSymbol_18 rfl rfl ?_
    refine x_bipush 91 d_PR_printSymbol_19 (by decide) ?_
    refine x_callV1Y d_PR_printSymbol_21 k_PR_54 (Nat.le_of_ble_eq_true rfl) (Nat.le_of_ble_eq_true rfl) (by first | rfl | assumption) (by rfl) (z_put hra0 (by omega)) (Nat.le_of_ble_eq_true rfl) (Nat.le_of_ble_eq_true rfl) (Nat.le_of_ble_eq_true rfl) (Nat.le_of_ble_eq_true rfl) (Nat.le_of_ble_eq_true rfl) rfl ?_
    refine x_aload_n d_PR_printSymbol_24 rfl rfl ?_
    refine x_aload_n d_PR_printSymbol_25 rfl rfl ?_
    refine x_get d_PR_printSymbol_26 f_PR_57 (Nat.le_of_ble_eq_true rfl) (Nat.le_of_ble_eq_true rfl) (by first | rfl | assumption) (by rfl) ?_
    refine x_iload_n d_PR_printSymbol_29 rfl rfl ?_
    refine x_iald d_PR_printSymbol_30 (Nat.le_of_ble_eq_true rfl) (Nat.le_of_ble_eq_true rfl) (by first | rfl | assumption) (vp_in_nI hy (by decide)) ?_
    refine x_topi (nI z) (by rw [nI_clamp (by omega)]; exact hch) ?_
    refine x_callV1Y d_PR_printSymbol_31 k_PR_60 (Nat.le_of_ble_eq_true rfl) (Nat.le_of_ble_eq_true rfl) (by first | rfl | assumption) (by rfl) (z_enter hra0 hw) (Nat.le_of_ble_eq_true rfl) (Nat.le_of_ble_eq_true rfl) (Nat.le_of_ble_eq_true rfl) (Nat.le_of_ble_eq_true rfl) (Nat.le_of_ble_eq_true rfl) rfl ?_
    refine x_goto 84 d_PR_printSymbol_34 (by decide) ?_
    exact x_return d_PR_printSymbol_84 rfl ⟨rfl, rfl, fun _ _ => rfl, rfl, rfl⟩
set_option maxRecDepth 20000 in
theorem z_symA {E : xR} {h : xH} {u : Nat → Nat} {ra wc ne : Nat} {S : List Int32} {Lv Wt P0 : Nat → Int32} {A : Nat → Nat → Int32} {sy : Value} {va : Value} {rt : Value} {y f t lo : Nat} (hra : ra = 19 ∨ ra = 20) (t5 : h 5 = .inr (3, [.ref 6, .ref 7, .ref 8, .ref 9, .ref 10, .ref 11, .ref 12, .ref 13, .ref 1, sy, va, rt])) (a0 : h 6 = .inl (0, 1001, .inl (A 0))) (a1 : h 7 = .inl (0, 1001, .inl (A 1))) (a2 : h 8 = .inl (0, 1001, .inl (A 2))) (a3 : h 9 = .inl (0, 1001, .inl (A 3))) (a4 : h 10 = .inl (0, 1001, .inl (A 4))) (h1 : h 1 = .inl (1, 4096, .inl (fun i => g_sb (u i)))) (hu : ∀ i, u i < 256) (hy : y < 1001) (ho : (A 3 y = -1 ∧ lo = 0) ∨ ∃ o, o < 1001 ∧ A 3 y = nI o ∧ Lv o = nI lo) (hlo : lo < 4000) (hne : ne < 4000) (hS : S.length < 2 ^ 27) (hf0 : A 1 y = nI f) (ht : A 2 y = nI t) (hft : f ≤ t) (ht4 : t ≤ 4096) (hk : A 0 y = 3) (hch : A 4 y = -1) : x_Mt E M_PR_printSymbol 9 0 0 [.ref 15, .ref 5, .int (nI y)] 52 (g_zw h ra wc S ne Lv Wt P0) (x_Y none 52 (g_zw h ra wc (S ++ g_nmS u f t) (max ne (lo + 0)) (upd Lv y (nI (lo + 0))) Wt P0)) := by
  have hra0 := hra
  rcases hra with rfl | rfl
  · refine x_Mt.of (by decide) (Nat.le_of_ble_eq_true rfl) ?_
    show x_W E M_PR_printSymbol _ _ 52 (g_zw h 19 wc S ne Lv Wt P0) 0 [(0, .ref 15), (1, .ref 5), (2, .int (nI y))] [] 0 0
    refine x_aload_n d_PR_printSymbol_0 rfl rfl ?_
    refine x_aload_n d_PR_printSymbol_1 rfl rfl ?_
    refine x_iload_n d_PR_printSymbol_2 rfl rfl ?_
    refine x_callV2Y d_PR_printSymbol_3 k_PR_48 (Nat.le_of_ble_eq_true rfl) (Nat.le_of_ble_eq_true rfl) (by first | rfl | assumption) (by rfl) (z_countLevel hra0 t5 a3 a4 hy ho (Or.inl ⟨hch, rfl⟩) (by omega) (by omega)) (Nat.le_of_ble_eq_true rfl) (Nat.le_of_ble_eq_true rfl) (Nat.le_of_ble_eq_true rfl) (Nat.le_of_ble_eq_true rfl) (Nat.le_of_ble_eq_true rfl) rfl ?_
    refine x_aload_n d_PR_printSymbol_6 rfl rfl ?_
    refine x_get d_PR_printSymbol_7 f_PR_51 (Nat.le_of_ble_eq_true rfl) (Nat.le_of_ble_eq_true rfl) (by first | rfl | assumption) (by rfl) ?_
    refine x_iload_n d_PR_printSymbol_10 rfl rfl ?_
    refine x_iald d_PR_printSymbol_11 (Nat.le_of_ble_eq_true rfl) (Nat.le_of_ble_eq_true rfl) (by first | rfl | assumption) (vp_in_nI hy (by decide)) ?_
    refine x_topi 3 (by rw [nI_clamp (by omega)]; exact hk) ?_
    refine x_istore_n d_PR_printSymbol_12 rfl (Nat.le_of_ble_eq_true rfl) ?_
    refine x_iload_n d_PR_printSymbol_13 rfl rfl ?_
    refine x_iconst 4 d_PR_printSymbol_14 (by decide) ?_
    refine x_icmp_ne 37 d_PR_printSymbol_15 (by decide) (fun _ => ?_) (fun z => absurd z (by decide))
    refine x_iload_n d_PR_printSymbol_37 rfl rfl ?_
    refine x_iconst 3 d_PR_printSymbol_38 (by decide) ?_
    refine x_icmp_ne 77 d_PR_printSymbol_39 (by decide) (fun z => absurd (by decide) z) (fun _ => ?_)
    refine x_aload_n d_PR_printSymbol_42 rfl rfl ?_
    refine x_aload_n d_PR_printSymbol_43 rfl rfl ?_
    refine x_iload_n d_PR_printSymbol_44 rfl rfl ?_
    refine x_callV2Y d_PR_printSymbol_45 k_PR_63 (Nat.le_of_ble_eq_true rfl) (Nat.le_of_ble_eq_true rfl) (by first | rfl | assumption) (by rfl) (z_printName hra0 t5 a1 a2 h1 hu hy hf0 ht hft ht4 (by omega)) (Nat.le_of_ble_eq_true rfl) (Nat.le_of_ble_eq_true rfl) (Nat.le_of_ble_eq_true rfl) (Nat.le_of_ble_eq_true rfl) (Nat.le_of_ble_eq_true rfl) rfl ?_
    refine x_aload_n d_PR_printSymbol_48 rfl rfl ?_
    refine x_get d_PR_printSymbol_49 f_PR_57 (Nat.le_of_ble_eq_true rfl) (Nat.le_of_ble_eq_true rfl) (by first | rfl | assumption) (by rfl) ?_
    refine x_iload_n d_PR_printSymbol_52 rfl rfl ?_
    refine x_iald d_PR_printSymbol_53 (Nat.le_of_ble_eq_true rfl) (Nat.le_of_ble_eq_true rfl) (by first | rfl | assumption) (vp_in_nI hy (by decide)) ?_
    refine x_topi (-1) (by rw [nI_clamp (by omega)]; exact hch) ?_
    refine x_iconst (-1) d_PR_printSymbol_54 (by decide) ?_
    refine x_icmp_eq 84 d_PR_printSymbol_55 (by decide) (fun _ => ?_) (fun z => absurd rfl z)
    exact x_return d_PR_printSymbol_84 rfl ⟨rfl, rfl, fun _ _ => rfl, rfl, rfl⟩
  · refine x_Mt.of (by decide) (Nat.le_of_ble_eq_true rfl) ?_
    show x_W E M_PR_printSymbol _ _ 52 (g_zw h 20 wc S ne Lv Wt P0) 0 [(0, .ref 15), (1, .ref 5), (2, .int (nI y))] [] 0 0
    refine x_aload_n d_PR_printSymbol_0 rfl rfl ?_
    refine x_aload_n d_PR_printSymbol_1 rfl rfl ?_
    refine x_iload_n d_PR_printSymbol_2 rfl rfl ?_
    refine x_callV2Y d_PR_printSymbol_3 k_PR_48 (Nat.le_of_ble_eq_true rfl) (Nat.le_of_ble_eq_true rfl) (by first | rfl | assumption) (by rfl) (z_countLevel hra0 t5 a3 a4 hy ho (Or.inl ⟨hch, rfl⟩) (by omega) (by omega)) (Nat.le_of_ble_eq_true rfl) (Nat.le_of_ble_eq_true rfl) (Nat.le_of_ble_eq_true rfl) (Nat.le_of_ble_eq_true rfl) (Nat.le_of_ble_eq_true rfl) rfl ?_
    refine x_aload_n d_PR_printSymbol_6 rfl rfl ?_
    refine x_get d_PR_printSymbol_7 f_PR_51 (Nat.le_of_ble_eq_true rfl) (Nat.le_of_ble_eq_true rfl) (by first | rfl | assumption) (by rfl) ?_
    refine x_iload_n d_PR_printSymbol_10 rfl rfl ?_
    refine x_iald d_PR_printSymbol_11 (Nat.le_of_ble_eq_true rfl) (Nat.le_of_ble_eq_true rfl) (by first | rfl | assumption) (vp_in_nI hy (by decide)) ?_
    refine x_topi 3 (by rw [nI_clamp (by omega)]; exact hk) ?_
    refine x_istore_n d_PR_printSymbol_12 rfl (Nat.le_of_ble_eq_true rfl) ?_
    refine x_iload_n d_PR_printSymbol_13 rfl rfl ?_
    refine x_iconst 4 d_PR_printSymbol_14 (by decide) ?_
    refine x_icmp_ne 37 d_PR_printSymbol_15 (by decide) (fun _ => ?_) (fun z => absurd z (by decide))
    refine x_iload_n d_PR_printSymbol_37 rfl rfl ?_
    refine x_iconst 3 d_PR_printSymbol_38 (by decide) ?_
    refine x_icmp_ne 77 d_PR_printSymbol_39 (by decide) (fun z => absurd (by decide) z) (fun _ => ?_)
    refine x_aload_n d_PR_printSymbol_42 rfl rfl ?_
    refine x_aload_n d_PR_printSymbol_43 rfl rfl ?_
    refine x_iload_n d_PR_printSymbol_44 rfl rfl ?_
    refine x_callV2Y d_PR_printSymbol_45 k_PR_63 (Nat.le_of_ble_eq_true rfl) (Nat.le_of_ble_eq_true rfl) (by first | rfl | assumption) (by rfl) (z_printName hra0 t5 a1 a2 h1 hu hy hf0 ht hft ht4 (by omega)) (Nat.le_of_ble_eq_true rfl) (Nat.le_of_ble_eq_true rfl) (Nat.le_of_ble_eq_true rfl) (Nat.le_of_ble_eq_true rfl) (Nat.le_of_ble_eq_true rfl) rfl ?_
    refine x_aload_n d_PR_printSymbol_48 rfl rfl ?_
    refine x_get d_PR_printSymbol_49 f_PR_57 (Nat.le_of_ble_eq_true rfl) (Nat.le_of_ble_eq_true rfl) (by first | rfl | assumption) (by rfl) ?_
    refine x_iload_n d_PR_printSymbol_52 rfl rfl ?_
    refine x_iald d_PR_printSymbol_53 (Nat.le_of_ble_eq_true rfl) (Nat.le_of_ble_eq_true rfl) (by first | rfl | assumption) (vp_in_nI hy (by decide)) ?_
    refine x_topi (-1) (by rw [nI_clamp (by omega)]; exact hch) ?_
    refine x_iconst (-1) d_PR_printSymbol_54 (by decide) ?_
    refine x_icmp_eq 84 d_PR_printSymbol_55 (by decide) (fun _ => ?_) (fun z => absurd rfl z)
    exact x_return d_PR_printSymbol_84 rfl ⟨rfl, rfl, fun _ _ => rfl, rfl, rfl⟩
set_option maxRecDepth 20000 in
theorem z_symC {E : xR} {h : xH} {u : Nat → Nat} {ra wc ne : Nat} {S : List Int32} {Lv Wt P0 : Nat → Int32} {A : Nat → Nat → Int32} {sy : Value} {va : Value} {rt : Value} {z y f t lo : Nat} (hra : ra = 19 ∨ ra = 20) (t5 : h 5 = .inr (3, [.ref 6, .ref 7, .ref 8, .ref 9, .ref 10, .ref 11, .ref 12, .ref 13, .ref 1, sy, va, rt])) (a0 : h 6 = .inl (0, 1001, .inl (A 0))) (a1 : h 7 = .inl (0, 1001, .inl (A 1))) (a2 : h 8 = .inl (0, 1001, .inl (A 2))) (a3 : h 9 = .inl (0, 1001, .inl (A 3))) (a4 : h 10 = .inl (0, 1001, .inl (A 4))) (h1 : h 1 = .inl (1, 4096, .inl (fun i => g_sb (u i)))) (hu : ∀ i, u i < 256) (hy : y < 1001) (ho : (A 3 y = -1 ∧ lo = 0) ∨ ∃ o, o < 1001 ∧ A 3 y = nI o ∧ Lv o = nI lo) (hlo : lo < 4000) (hne : ne < 4000) (hS : S.length < 2 ^ 27) (hf0 : A 1 y = nI f) (ht : A 2 y = nI t) (hft : f ≤ t) (ht4 : t ≤ 4096) (hk : A 0 y = 3) (hch : A 4 y = nI z) (hz : z < 1001) (hw : wc + 1 < 2000) : x_Mt E M_PR_printSymbol 9 0 0 [.ref 15, .ref 5, .int (nI y)] 52 (g_zw h ra wc S ne Lv Wt P0) (x_Y none 52 (g_zw h ra (wc + 1 + 1) (S ++ (g_nmS u f t ++ [40])) (max ne (lo + 1)) (upd Lv y (nI (lo + 1))) (upd (upd Wt wc (nI z ^^^ -1)) (wc + 1) (nI z)) P0)) := by
  have hra0 := hra
  rcases hra with rfl | rfl
  · refine x_Mt.of (by decide) (Nat.le_of_ble_eq_true rfl) ?_
    show x_W E M_PR_printSymbol _ _ 52 (g_zw h 19 wc S ne Lv Wt P0) 0 [(0, .ref 15), (1, .ref 5), (2, .int (nI y))] [] 0 0
    refine x_aload_n d_PR_printSymbol_0 rfl rfl ?_
    refine x_aload_n d_PR_printSymbol_1 rfl rfl ?_
    refine x_iload_n d_PR_printSymbol_2 rfl rfl ?_
    refine x_callV2Y d_PR_printSymbol_3 k_PR_48 (Nat.le_of_ble_eq_true rfl) (Nat.le_of_ble_eq_true rfl) (by first | rfl | assumption) (by rfl) (z_countLevel hra0 t5 a3 a4 hy ho (Or.inr ⟨by rw [hch]; exact g_nIm (by omega), rfl⟩) (by omega) (by omega)) (Nat.le_of_ble_eq_true rfl) (Nat.le_of_ble_eq_true rfl) (Nat.le_of_ble_eq_true rfl) (Nat.le_of_ble_eq_true rfl) (Nat.le_of_ble_eq_true rfl) rfl ?_
    refine x_aload_n d_PR_printSymbol_6 rfl rfl ?_
    refine x_get d_PR_printSymbol_7 f_PR_51 (Nat.le_of_ble_eq_true rfl) (Nat.le_of_ble_eq_true rfl) (by first | rfl | assumption) (by rfl) ?_
    refine x_iload_n d_PR_printSymbol_10 rfl rfl ?_
    refine x_iald d_PR_printSymbol_11 (Nat.le_of_ble_eq_true rfl) (Nat.le_of_ble_eq_true rfl) (by first | rfl | assumption) (vp_in_nI hy (by decide)) ?_
    refine x_topi 3 (by rw [nI_clamp (by omega)]; exact hk) ?_
    refine x_istore_n d_PR_printSymbol_12 rfl (Nat.le_of_ble_eq_true rfl) ?_
    refine x_iload_n d_PR_printSymbol_13 rfl rfl ?_
    refine x_iconst 4 d_PR_printSymbol_14 (by decide) ?_
    refine x_icmp_ne 37 d_PR_printSymbol_15 (by decide) (fun _ => ?_) (fun z => absurd z (by decide))
    refine x_iload_n d_PR_printSymbol_37 rfl rfl ?_
    refine x_iconst 3 d_PR_printSymbol_38 (by decide) ?_
    refine x_icmp_ne 77 d_PR_printSymbol_39 (by decide) (fun z => absurd (by decide) z) (fun _ => ?_)
    refine x_aload_n d_PR_printSymbol_42 rfl rfl ?_
    refine x_aload_n d_PR_printSymbol_43 rfl rfl ?_
    refine x_iload_n d_PR_printSymbol_44 rfl rfl ?_
    refine x_callV2Y d_PR_printSymbol_45 k_PR_63 (Nat.le_of_ble_eq_true rfl) (Nat.le_of_ble_eq_true rfl) (by first | rfl | assumption) (by rfl) (z_printName hra0 t5 a1 a2 h1 hu hy hf0 ht hft ht4 (by omega)) (Nat.le_of_ble_eq_true rfl) (Nat.le_of_ble_eq_true rfl) (Nat.le_of_ble_eq_true rfl) (Nat.le_of_ble_eq_true rfl) (Nat.le_of_ble_eq_true rfl) rfl ?_
    refine x_aload_n d_PR_printSymbol_48 rfl rfl ?_
    refine x_get d_PR_printSymbol_49 f_PR_57 (Nat.le_of_ble_eq_true rfl) (Nat.le_of_ble_eq_true rfl) (by first | rfl | assumption) (by rfl) ?_
    refine x_iload_n d_PR_printSymbol_52 rfl rfl ?_
    refine x_iald d_PR_printSymbol_53 (Nat.le_of_ble_eq_true rfl) (Nat.le_of_ble_eq_true rfl) (by first | rfl | assumption) (vp_in_nI hy (by decide)) ?_
    refine x_topi (nI z) (by rw [nI_clamp (by omega)]; exact hch) ?_
    refine x_iconst (-1) d_PR_printSymbol_54 (by decide) ?_
    refine x_icmp_eq 84 d_PR_printSymbol_55 (by decide) (fun z => absurd z (g_nIm (by omega))) (fun _ => ?_)
    refine x_aload_n d_PR_printSymbol_58 rfl rfl ?_
    refine x_bipush 40 d_PR_printSymbol_59 (by decide) ?_
    refine x_callV1Y d_PR_printSymbol_61 k_PR_54 (Nat.le_of_ble_eq_true rfl) (Nat.le_of_ble_eq_true rfl) (by first | rfl | assumption) (by rfl) (z_put hra0 (by have := g_nmSL u f t; rw [List.length_append]; omega)) (Nat.le_of_ble_eq_true rfl) (Nat.le_of_ble_eq_true rfl) (Nat.le_of_ble_eq_true rfl) (Nat.le_of_ble_eq_true rfl) (Nat.le_of_ble_eq_true rfl) rfl ?_
    refine x_aload_n d_PR_printSymbol_64 rfl rfl ?_
    refine x_aload_n d_PR_printSymbol_65 rfl rfl ?_
    refine x_get d_PR_printSymbol_66 f_PR_57 (Nat.le_of_ble_eq_true rfl) (Nat.le_of_ble_eq_true rfl) (by first | rfl | assumption) (by rfl) ?_
    refine x_iload_n d_PR_printSymbol_69 rfl rfl ?_
    refine x_iald d_PR_printSymbol_70 (Nat.le_of_ble_eq_true rfl) (Nat.le_of_ble_eq_true rfl) (by first | rfl | assumption) (vp_in_nI hy (by decide)) ?_
    refine x_topi (nI z) (by rw [nI_clamp (by omega)]; exact hch) ?_
    refine x_callV1Y d_PR_printSymbol_71 k_PR_60 (Nat.le_of_ble_eq_true rfl) (Nat.le_of_ble_eq_true rfl) (by first | rfl | assumption) (by rfl) (z_enter hra0 hw) (Nat.le_of_ble_eq_true rfl) (Nat.le_of_ble_eq_true rfl) (Nat.le_of_ble_eq_true rfl) (Nat.le_of_ble_eq_true rfl) (Nat.le_of_ble_eq_true rfl) rfl ?_
    refine x_goto 84 d_PR_printSymbol_74 (by decide) ?_
    exact x_return d_PR_printSymbol_84 rfl ⟨rfl, rfl, fun i hi => by rw [← List.append_assoc], rfl, rfl⟩
  · refine x_Mt.of (by decide) (Nat.le_of_ble_eq_true rfl) ?_
    show x_W E M_PR_printSymbol _ _ 52 (g_zw h 20 wc S ne Lv Wt P0) 0 [(0, .ref 15), (1, .ref 5), (2, .int (nI y))] [] 0 0
    refine x_aload_n d_PR_printSymbol_0 rfl rfl ?_
    refine x_aload_n d_PR_printSymbol_1 rfl rfl ?_
    refine x_iload_n d_PR_printSymbol_2 rfl rfl ?_
    refine x_callV2Y d_PR_printSymbol_3 k_PR_48 (Nat.le_of_ble_eq_true rfl) (Nat.le_of_ble_eq_true rfl) (by first | rfl | assumption) (by rfl) (z_countLevel hra0 t5 a3 a4 hy ho (Or.inr ⟨by rw [hch]; exact g_nIm (by omega), rfl⟩) (by omega) (by omega)) (Nat.le_of_ble_eq_true rfl) (Nat.le_of_ble_eq_true rfl) (Nat.le_of_ble_eq_true rfl) (Nat.le_of_ble_eq_true rfl) (Nat.le_of_ble_eq_true rfl) rfl ?_
    refine x_aload_n d_PR_printSymbol_6 rfl rfl ?_
    refine x_get d_PR_printSymbol_7 f_PR_51 (Nat.le_of_ble_eq_true rfl) (Nat.le_of_ble_eq_true rfl) (by first | rfl | assumption) (by rfl) ?_
    refine x_iload_n d_PR_printSymbol_10 rfl rfl ?_
    refine x_iald d_PR_printSymbol_11 (Nat.le_of_ble_eq_true rfl) (Nat.le_of_ble_eq_true rfl) (by first | rfl | assumption) (vp_in_nI hy (by decide)) ?_
    refine x_topi 3 (by rw [nI_clamp (by omega)]; exact hk) ?_
    refine x_istore_n d_PR_printSymbol_12 rfl (Nat.le_of_ble_eq_true rfl) ?_
    refine x_iload_n d_PR_printSymbol_13 rfl rfl ?_
    refine x_iconst 4 d_PR_printSymbol_14 (by decide) ?_
    refine x_icmp_ne 37 d_PR_printSymbol_15 (by decide) (fun _ => ?_) (fun z => absurd z (by decide))
    refine x_iload_n d_PR_printSymbol_37 rfl rfl ?_
    refine x_iconst 3 d_PR_printSymbol_38 (by decide) ?_
    refine x_icmp_ne 77 d_PR_printSymbol_39 (by decide) (fun z => absurd (by decide) z) (fun _ => ?_)
    refine x_aload_n d_PR_printSymbol_42 rfl rfl ?_
    refine x_aload_n d_PR_printSymbol_43 rfl rfl ?_
    refine x_iload_n d_PR_printSymbol_44 rfl rfl ?_
    refine x_callV2Y d_PR_printSymbol_45 k_PR_63 (Nat.le_of_ble_eq_true rfl) (Nat.le_of_ble_eq_true rfl) (by first | rfl | assumption) (by rfl) (z_printName hra0 t5 a1 a2 h1 hu hy hf0 ht hft ht4 (by omega)) (Nat.le_of_ble_eq_true rfl) (Nat.le_of_ble_eq_true rfl) (Nat.le_of_ble_eq_true rfl) (Nat.le_of_ble_eq_true rfl) (Nat.le_of_ble_eq_true rfl) rfl ?_
    refine x_aload_n d_PR_printSymbol_48 rfl rfl ?_
    refine x_get d_PR_printSymbol_49 f_PR_57 (Nat.le_of_ble_eq_true rfl) (Nat.le_of_ble_eq_true rfl) (by first | rfl | assumption) (by rfl) ?_
    refine x_iload_n d_PR_printSymbol_52 rfl rfl ?_
    refine x_iald d_PR_printSymbol_53 (Nat.le_of_ble_eq_true rfl) (Nat.le_of_ble_eq_true rfl) (by first | rfl | assumption) (vp_in_nI hy (by decide)) ?_
    refine x_topi (nI z) (by rw [nI_clamp (by omega)]; exact hch) ?_
    refine x_iconst (-1) d_PR_printSymbol_54 (by decide) ?_
    refine x_icmp_eq 84 d_PR_printSymbol_55 (by decide) (fun z => absurd z (g_nIm (by omega))) (fun _ => ?_)
    refine x_aload_n d_PR_printSymbol_58 rfl rfl ?_
    refine x_bipush 40 d_PR_printSymbol_59 (by decide) ?_
    refine x_callV1Y d_PR_printSymbol_61 k_PR_54 (Nat.le_of_ble_eq_true rfl) (Nat.le_of_ble_eq_true rfl) (by first | rfl | assumption) (by rfl) (z_put hra0 (by have := g_nmSL u f t; rw [List.length_append]; omega)) (Nat.le_of_ble_eq_true rfl) (Nat.le_of_ble_eq_true rfl) (Nat.le_of_ble_eq_true rfl) (Nat.le_of_ble_eq_true rfl) (Nat.le_of_ble_eq_true rfl) rfl ?_
    refine x_aload_n d_PR_printSymbol_64 rfl rfl ?_
    refine x_aload_n d_PR_printSymbol_65 rfl rfl ?_
    refine x_get d_PR_printSymbol_66 f_PR_57 (Nat.le_of_ble_eq_true rfl) (Nat.le_of_ble_eq_true rfl) (by first | rfl | assumption) (by rfl) ?_
    refine x_iload_n d_PR_printSymbol_69 rfl rfl ?_
    refine x_iald d_PR_printSymbol_70 (Nat.le_of_ble_eq_true rfl) (Nat.le_of_ble_eq_true rfl) (by first | rfl | assumption) (vp_in_nI hy (by decide)) ?_
    refine x_topi (nI z) (by rw [nI_clamp (by omega)]; exact hch) ?_
    refine x_callV1Y d_PR_printSymbol_71 k_PR_60 (Nat.le_of_ble_eq_true rfl) (Nat.le_of_ble_eq_true rfl) (by first | rfl | assumption) (by rfl) (z_enter hra0 hw) (Nat.le_of_ble_eq_true rfl) (Nat.le_of_ble_eq_true rfl) (Nat.le_of_ble_eq_true rfl) (Nat.le_of_ble_eq_true rfl) (Nat.le_of_ble_eq_true rfl) rfl ?_
    refine x_goto 84 d_PR_printSymbol_74 (by decide) ?_
    exact x_return d_PR_printSymbol_84 rfl ⟨rfl, rfl, fun i hi => by rw [← List.append_assoc], rfl, rfl⟩
set_option maxRecDepth 20000 in
theorem z_symL {E : xR} {h : xH} {u : Nat → Nat} {ra wc ne : Nat} {S : List Int32} {Lv Wt P0 : Nat → Int32} {A : Nat → Nat → Int32} {sy : Value} {va : Value} {rt : Value} {N y L lo : Nat} {kids : Std.Format} (hra : ra = 19 ∨ ra = 20) (t5 : h 5 = .inr (3, [.ref 6, .ref 7, .ref 8, .ref 9, .ref 10, .ref 11, .ref 12, .ref 13, .ref 1, sy, va, rt])) (a0 : h 6 = .inl (0, 1001, .inl (A 0))) (a1 : h 7 = .inl (0, 1001, .inl (A 1))) (a2 : h 8 = .inl (0, 1001, .inl (A 2))) (a3 : h 9 = .inl (0, 1001, .inl (A 3))) (a4 : h 10 = .inl (0, 1001, .inl (A 4))) (a6 : h 12 = .inl (0, 1001, .inl (A 6))) (h1 : h 1 = .inl (1, 4096, .inl (fun i => g_sb (u i)))) (hy : y < 1001) (ho : (A 3 y = -1 ∧ lo = 0) ∨ ∃ o, o < 1001 ∧ A 3 y = nI o ∧ Lv o = nI lo) (hlo : lo < 4000) (hne : ne < 4000) (hS : S.length < 2 ^ 27) (hr : g_row A y L) (hl : g_lk u N L kids) (hN : N ≤ 4096) (hv : L % 8 = 0 → g_fR L < 1000) (h3 : L % 8 ≠ 3) (h4 : L % 8 ≠ 4) (hch : A 4 y = -1) : x_Mt E M_PR_printSymbol 9 0 0 [.ref 15, .ref 5, .int (nI y)] 52 (g_zw h ra wc S ne Lv Wt P0) (x_Y none 52 (g_zw h ra wc (S ++ g_lF u L) (max ne (lo + 0)) (upd Lv y (nI (lo + 0))) Wt P0)) := by
  have hra0 := hra
  rcases hra with rfl | rfl
  · refine x_Mt.of (by decide) (Nat.le_of_ble_eq_true rfl) ?_
    show x_W E M_PR_printSymbol _ _ 52 (g_zw h 19 wc S ne Lv Wt P0) 0 [(0, .ref 15), (1, .ref 5), (2, .int (nI y))] [] 0 0
    refine x_aload_n d_PR_printSymbol_0 rfl rfl ?_
    refine x_aload_n d_PR_printSymbol_1 rfl rfl ?_
    refine x_iload_n d_PR_printSymbol_2 rfl rfl ?_
    refine x_callV2Y d_PR_printSymbol_3 k_PR_48 (Nat.le_of_ble_eq_true rfl) (Nat.le_of_ble_eq_true rfl) (by first | rfl | assumption) (by rfl) (z_countLevel hra0 t5 a3 a4 hy ho (Or.inl ⟨hch, rfl⟩) (by omega) (by omega)) (Nat.le_of_ble_eq_true rfl) (Nat.le_of_ble_eq_true rfl) (Nat.le_of_ble_eq_true rfl) (Nat.le_of_ble_eq_true rfl) (Nat.le_of_ble_eq_true rfl) rfl ?_
    refine x_aload_n d_PR_printSymbol_6 rfl rfl ?_
    refine x_get d_PR_printSymbol_7 f_PR_51 (Nat.le_of_ble_eq_true rfl) (Nat.le_of_ble_eq_true rfl) (by first | rfl | assumption) (by rfl) ?_
    refine x_iload_n d_PR_printSymbol_10 rfl rfl ?_
    refine x_iald d_PR_printSymbol_11 (Nat.le_of_ble_eq_true rfl) (Nat.le_of_ble_eq_true rfl) (by first | rfl | assumption) (vp_in_nI hy (by decide)) ?_
    refine x_topi (nI (L % 8)) (by rw [nI_clamp (by omega)]; exact hr.1) ?_
    refine x_istore_n d_PR_printSymbol_12 rfl (Nat.le_of_ble_eq_true rfl) ?_
    refine x_iload_n d_PR_printSymbol_13 rfl rfl ?_
    refine x_iconst 4 d_PR_printSymbol_14 (by decide) ?_
    refine x_icmp_ne 37 d_PR_printSymbol_15 (by decide) (fun _ => ?_) (fun z => absurd z (show ¬ nI (L % 8) = nI 4 from fun q => h4 ((g_nIne (by omega) (by decide)).mp q)))
    refine x_iload_n d_PR_printSymbol_37 rfl rfl ?_
    refine x_iconst 3 d_PR_printSymbol_38 (by decide) ?_
    refine x_icmp_ne 77 d_PR_printSymbol_39 (by decide) (fun _ => ?_) (fun z => absurd z (show ¬ nI (L % 8) = nI 3 from fun q => h3 ((g_nIne (by omega) (by decide)).mp q)))
    refine x_aload_n d_PR_printSymbol_77 rfl rfl ?_
    refine x_aload_n d_PR_printSymbol_78 rfl rfl ?_
    refine x_iload_n d_PR_printSymbol_79 rfl rfl ?_
    refine x_iload_n d_PR_printSymbol_80 rfl rfl ?_
    refine x_callV3Y d_PR_printSymbol_81 k_PR_66 (Nat.le_of_ble_eq_true rfl) (Nat.le_of_ble_eq_true rfl) (by first | rfl | assumption) (by rfl) (z_leaf hra0 t5 a1 a2 a6 h1 hy hr hl hN hv h3 h4 hS) (Nat.le_of_ble_eq_true rfl) (Nat.le_of_ble_eq_true rfl) (Nat.le_of_ble_eq_true rfl) (Nat.le_of_ble_eq_true rfl) (Nat.le_of_ble_eq_true rfl) rfl ?_
    exact x_return d_PR_printSymbol_84 rfl ⟨rfl, rfl, fun _ _ => rfl, rfl, rfl⟩
  · refine x_Mt.of (by decide) (Nat.le_of_ble_eq_true rfl) ?_
    show x_W E M_PR_printSymbol _ _ 52 (g_zw h 20 wc S ne Lv Wt P0) 0 [(0, .ref 15), (1, .ref 5), (2, .int (nI y))] [] 0 0
    refine x_aload_n d_PR_printSymbol_0 rfl rfl ?_
    refine x_aload_n d_PR_printSymbol_1 rfl rfl ?_
    refine x_iload_n d_PR_printSymbol_2 rfl rfl ?_
    refine x_callV2Y d_PR_printSymbol_3 k_PR_48 (Nat.le_of_ble_eq_true rfl) (Nat.le_of_ble_eq_true rfl) (by first | rfl | assumption) (by rfl) (z_countLevel hra0 t5 a3 a4 hy ho (Or.inl ⟨hch, rfl⟩) (by omega) (by omega)) (Nat.le_of_ble_eq_true rfl) (Nat.le_of_ble_eq_true rfl) (Nat.le_of_ble_eq_true rfl) (Nat.le_of_ble_eq_true rfl) (Nat.le_of_ble_eq_true rfl) rfl ?_
    refine x_aload_n d_PR_printSymbol_6 rfl rfl ?_
    refine x_get d_PR_printSymbol_7 f_PR_51 (Nat.le_of_ble_eq_true rfl) (Nat.le_of_ble_eq_true rfl) (by first | rfl | assumption) (by rfl) ?_
    refine x_iload_n d_PR_printSymbol_10 rfl rfl ?_
    refine x_iald d_PR_printSymbol_11 (Nat.le_of_ble_eq_true rfl) (Nat.le_of_ble_eq_true rfl) (by first | rfl | assumption) (vp_in_nI hy (by decide)) ?_
    refine x_topi (nI (L % 8)) (by rw [nI_clamp (by omega)]; exact hr.1) ?_
    refine x_istore_n d_PR_printSymbol_12 rfl (Nat.le_of_ble_eq_true rfl) ?_
    refine x_iload_n d_PR_printSymbol_13 rfl rfl ?_
    refine x_iconst 4 d_PR_printSymbol_14 (by decide) ?_
    refine x_icmp_ne 37 d_PR_printSymbol_15 (by decide) (fun _ => ?_) (fun z => absurd z (show ¬ nI (L % 8) = nI 4 from fun q => h4 ((g_nIne (by omega) (by decide)).mp q)))
    refine x_iload_n d_PR_printSymbol_37 rfl rfl ?_
    refine x_iconst 3 d_PR_printSymbol_38 (by decide) ?_
    refine x_icmp_ne 77 d_PR_printSymbol_39 (by decide) (fun _ => ?_) (fun z => absurd z (show ¬ nI (L % 8) = nI 3 from fun q => h3 ((g_nIne (by omega) (by decide)).mp q)))
    refine x_aload_n d_PR_printSymbol_77 rfl rfl ?_
    refine x_aload_n d_PR_printSymbol_78 rfl rfl ?_
    refine x_iload_n d_PR_printSymbol_79 rfl rfl ?_
    refine x_iload_n d_PR_printSymbol_80 rfl rfl ?_
    refine x_callV3Y d_PR_printSymbol_81 k_PR_66 (Nat.le_of_ble_eq_true rfl) (Nat.le_of_ble_eq_true rfl) (by first | rfl | assumption) (by rfl) (z_leaf hra0 t5 a1 a2 a6 h1 hy hr hl hN hv h3 h4 hS) (Nat.le_of_ble_eq_true rfl) (Nat.le_of_ble_eq_true rfl) (Nat.le_of_ble_eq_true rfl) (Nat.le_of_ble_eq_true rfl) (Nat.le_of_ble_eq_true rfl) rfl ?_
    exact x_return d_PR_printSymbol_84 rfl ⟨rfl, rfl, fun _ _ => rfl, rfl, rfl⟩
theorem d_PR_printTail_0 : decode M_PR_printTail.2.1 0 = .ok (.aload_n 1, 1) := by decide +kernel
theorem d_PR_printTail_1 : decode M_PR_printTail.2.1 1 = .ok (.getfield 51, 3) := by decide +kernel
theorem d_PR_printTail_4 : decode M_PR_printTail.2.1 4 = .ok (.iload_n 2, 1) := by decide +kernel
theorem d_PR_printTail_5 : decode M_PR_printTail.2.1 5 = .ok (.iaload, 1) := by decide +kernel
theorem d_PR_printTail_6 : decode M_PR_printTail.2.1 6 = .ok (.istore_n 3, 1) := by decide +kernel
theorem d_PR_printTail_7 : decode M_PR_printTail.2.1 7 = .ok (.iload_n 3, 1) := by decide +kernel
theorem d_PR_printTail_8 : decode M_PR_printTail.2.1 8 = .ok (.iconst 5, 1) := by decide +kernel
theorem d_PR_printTail_9 : decode M_PR_printTail.2.1 9 = .ok (.if_icmp .ne 12, 3) := by decide +kernel
theorem d_PR_printTail_12 : decode M_PR_printTail.2.1 12 = .ok (.aload_n 0, 1) := by decide +kernel
theorem d_PR_printTail_13 : decode M_PR_printTail.2.1 13 = .ok (.bipush 93, 2) := by decide +kernel
theorem d_PR_printTail_15 : decode M_PR_printTail.2.1 15 = .ok (.invokevirtual 54, 3) := by decide +kernel
theorem d_PR_printTail_18 : decode M_PR_printTail.2.1 18 = .ok (.goto 44, 3) := by decide +kernel
theorem d_PR_printTail_21 : decode M_PR_printTail.2.1 21 = .ok (.iload_n 3, 1) := by decide +kernel
theorem d_PR_printTail_22 : decode M_PR_printTail.2.1 22 = .ok (.iconst 4, 1) := by decide +kernel
theorem d_PR_printTail_23 : decode M_PR_printTail.2.1 23 = .ok (.if_icmp .ne 28, 3) := by decide +kernel
theorem d_PR_printTail_26 : decode M_PR_printTail.2.1 26 = .ok (.aload_n 0, 1) := by decide +kernel
theorem d_PR_printTail_27 : decode M_PR_printTail.2.1 27 = .ok (.aload_n 1, 1) := by decide +kernel
theorem d_PR_printTail_28 : decode M_PR_printTail.2.1 28 = .ok (.iload_n 2, 1) := by decide +kernel
theorem d_PR_printTail_29 : decode M_PR_printTail.2.1 29 = .ok (.invokevirtual 48, 3) := by decide +kernel
theorem d_PR_printTail_32 : decode M_PR_printTail.2.1 32 = .ok (.aload_n 0, 1) := by decide +kernel
theorem d_PR_printTail_33 : decode M_PR_printTail.2.1 33 = .ok (.bipush 44, 2) := by decide +kernel
theorem d_PR_printTail_35 : decode M_PR_printTail.2.1 35 = .ok (.invokevirtual 54, 3) := by decide +kernel
theorem d_PR_printTail_38 : decode M_PR_printTail.2.1 38 = .ok (.aload_n 0, 1) := by decide +kernel
theorem d_PR_printTail_39 : decode M_PR_printTail.2.1 39 = .ok (.aload_n 1, 1) := by decide +kernel
theorem d_PR_printTail_40 : decode M_PR_printTail.2.1 40 = .ok (.getfield 57, 3) := by decide +kernel
theorem d_PR_printTail_43 : decode M_PR_printTail.2.1 43 = .ok (.iload_n 2, 1) := by decide +kernel
theorem d_PR_printTail_44 : decode M_PR_printTail.2.1 44 = .ok (.iaload, 1) := by decide +kernel
theorem d_PR_printTail_45 : decode M_PR_printTail.2.1 45 = .ok (.invokevirtual 60, 3) := by decide +kernel
theorem d_PR_printTail_48 : decode M_PR_printTail.2.1 48 = .ok (.goto 14, 3) := by decide +kernel
theorem d_PR_printTail_51 : decode M_PR_printTail.2.1 51 = .ok (.aload_n 0, 1) := by decide +kernel
theorem d_PR_printTail_52 : decode M_PR_printTail.2.1 52 = .ok (.bipush 124, 2) := by decide +kernel
theorem d_PR_printTail_54 : decode M_PR_printTail.2.1 54 = .ok (.invokevirtual 54, 3) := by decide +kernel
theorem d_PR_printTail_57 : decode M_PR_printTail.2.1 57 = .ok (.aload_n 0, 1) := by decide +kernel
theorem d_PR_printTail_58 : decode M_PR_printTail.2.1 58 = .ok (.iload_n 2, 1) := by decide +kernel
theorem d_PR_printTail_59 : decode M_PR_printTail.2.1 59 = .ok (.invokevirtual 60, 3) := by decide +kernel
theorem d_PR_printTail_62 : decode M_PR_printTail.2.1 62 = .ok (.return_, 1) := by decide +kernel
set_option maxRecDepth 20000 in
theorem z_tail5 {E : xR} {h : xH} {ra wc ne : Nat} {S : List Int32} {Lv Wt P0 : Nat → Int32} {A : Nat → Nat → Int32} {sy : Value} {va : Value} {rt : Value} {y : Nat} (hra : ra = 19 ∨ ra = 20) (t5 : h 5 = .inr (3, [.ref 6, .ref 7, .ref 8, .ref 9, .ref 10, .ref 11, .ref 12, .ref 13, .ref 1, sy, va, rt])) (a0 : h 6 = .inl (0, 1001, .inl (A 0))) (hy : y < 1001) (hk : A 0 y = 5) (hS : S.length < 2 ^ 27) : x_Mt E M_PR_printTail 2 0 0 [.ref 15, .ref 5, .int (nI y)] 52 (g_zw h ra wc S ne Lv Wt P0) (x_Y none 52 (g_zw h ra wc (S ++ [93]) ne Lv Wt P0)) := by
  have hra0 := hra
  rcases hra with rfl | rfl
  · refine x_Mt.of (by decide) (Nat.le_of_ble_eq_true rfl) ?_
    show x_W E M_PR_printTail _ _ 52 (g_zw h 19 wc S ne Lv Wt P0) 0 [(0, .ref 15), (1, .ref 5), (2, .int (nI y))] [] 0 0
    refine x_aload_n d_PR_printTail_0 rfl rfl ?_
    refine x_get d_PR_printTail_1 f_PR_51 (Nat.le_of_ble_eq_true rfl) (Nat.le_of_ble_eq_true rfl) (by first | rfl | assumption) (by rfl) ?_
    refine x_iload_n d_PR_printTail_4 rfl rfl ?_
    refine x_iald d_PR_printTail_5 (Nat.le_of_ble_eq_true rfl) (Nat.le_of_ble_eq_true rfl) (by first | rfl | assumption) (vp_in_nI hy (by decide)) ?_
    refine x_topi 5 (by rw [nI_clamp (by omega)]; exact hk) ?_
    refine x_istore_n d_PR_printTail_6 rfl (Nat.le_of_ble_eq_true rfl) ?_
    refine x_iload_n d_PR_printTail_7 rfl rfl ?_
    refine x_iconst 5 d_PR_printTail_8 (by decide) ?_
    refine x_icmp_ne 21 d_PR_printTail_9 (by decide) (fun z => absurd (by decide) z) (fun _ => ?_)
    refine x_aload_n d_PR_printTail_12 rfl rfl ?_
    refine x_bipush 93 d_PR_printTail_13 (by decide) ?_
    refine x_callV1Y d_PR_printTail_15 k_PR_54 (Nat.le_of_ble_eq_true rfl) (Nat.le_of_ble_eq_true rfl) (by first | rfl | assumption) (by rfl) (z_put hra0 (by omega)) (Nat.le_of_ble_eq_true rfl) (Nat.le_of_ble_eq_true rfl) (Nat.le_of_ble_eq_true rfl) (Nat.le_of_ble_eq_true rfl) (Nat.le_of_ble_eq_true rfl) rfl ?_
    refine x_goto 62 d_PR_printTail_18 (by decide) ?_
    exact x_return d_PR_printTail_62 rfl ⟨rfl, rfl, fun _ _ => rfl, rfl, rfl⟩
  · refine x_Mt.of (by decide) (Nat.le_of_ble_eq_true rfl) ?_
    show x_W E M_PR_printTail _ _ 52 (g_zw h 20 wc S ne Lv Wt P0) 0 [(0, .ref 15), (1, .ref 5), (2, .int (nI y))] [] 0 0
    refine x_aload_n d_PR_printTail_0 rfl rfl ?_
    refine x_get d_PR_printTail_1 f_PR_51 (Nat.le_of_ble_eq_true rfl) (Nat.le_of_ble_eq_true rfl) (by first | rfl | assumption) (by rfl) ?_
    refine x_iload_n d_PR_printTail_4 rfl rfl ?_
    refine x_iald d_PR_printTail_5 (Nat.le_of_ble_eq_true rfl) (Nat.le_of_ble_eq_true rfl) (by first | rfl | assumption) (vp_in_nI hy (by decide)) ?_
    refine x_topi 5 (by rw [nI_clamp (by omega)]; exact hk) ?_
    refine x_istore_n d_PR_printTail_6 rfl (Nat.le_of_ble_eq_true rfl) ?_
    refine x_iload_n d_PR_printTail_7 rfl rfl ?_
    refine x_iconst 5 d_PR_printTail_8 (by decide) ?_
    refine x_icmp_ne 21 d_PR_printTail_9 (by decide) (fun z => absurd (by decide) z) (fun _ => ?_)
    refine x_aload_n d_PR_printTail_12 rfl rfl ?_
    refine x_bipush 93 d_PR_printTail_13 (by decide) ?_
    refine x_callV1Y d_PR_printTail_15 k_PR_54 (Nat.le_of_ble_eq_true rfl) (Nat.le_of_ble_eq_true rfl) (by first | rfl | assumption) (by rfl) (z_put hra0 (by omega)) (Nat.le_of_ble_eq_true rfl) (Nat.le_of_ble_eq_true rfl) (Nat.le_of_ble_eq_true rfl) (Nat.le_of_ble_eq_true rfl) (Nat.le_of_ble_eq_true rfl) rfl ?_
    refine x_goto 62 d_PR_printTail_18 (by decide) ?_
    exact x_return d_PR_printTail_62 rfl ⟨rfl, rfl, fun _ _ => rfl, rfl, rfl⟩
set_option maxRecDepth 20000 in
theorem z_tail4 {E : xR} {h : xH} {ra wc ne : Nat} {S : List Int32} {Lv Wt P0 : Nat → Int32} {A : Nat → Nat → Int32} {sy : Value} {va : Value} {rt : Value} {y z lo : Nat} (hra : ra = 19 ∨ ra = 20) (t5 : h 5 = .inr (3, [.ref 6, .ref 7, .ref 8, .ref 9, .ref 10, .ref 11, .ref 12, .ref 13, .ref 1, sy, va, rt])) (a0 : h 6 = .inl (0, 1001, .inl (A 0))) (a3 : h 9 = .inl (0, 1001, .inl (A 3))) (a4 : h 10 = .inl (0, 1001, .inl (A 4))) (hy : y < 1001) (ho : (A 3 y = -1 ∧ lo = 0) ∨ ∃ o, o < 1001 ∧ A 3 y = nI o ∧ Lv o = nI lo) (hlo : lo < 4000) (hne : ne < 4000) (hS : S.length < 2 ^ 27) (hk : A 0 y = 4) (hch : A 4 y = nI z) (hz : z < 1001) (hw : wc + 1 < 2000) : x_Mt E M_PR_printTail 2 0 0 [.ref 15, .ref 5, .int (nI y)] 52 (g_zw h ra wc S ne Lv Wt P0) (x_Y none 52 (g_zw h ra (wc + 1 + 1) (S ++ [44]) (max ne (lo + 1)) (upd Lv y (nI (lo + 1))) (upd (upd Wt wc (nI z ^^^ -1)) (wc + 1) (nI z)) P0)) := by
  have hra0 := hra
  rcases hra with rfl | rfl
  · refine x_Mt.of (by decide) (Nat.le_of_ble_eq_true rfl) ?_
    show x_W E M_PR_printTail _ _ 52 (g_zw h 19 wc S ne Lv Wt P0) 0 [(0, .ref 15), (1, .ref 5), (2, .int (nI y))] [] 0 0
    refine x_aload_n d_PR_printTail_0 rfl rfl ?_
    refine x_get d_PR_printTail_1 f_PR_51 (Nat.le_of_ble_eq_true rfl) (Nat.le_of_ble_eq_true rfl) (by first | rfl | assumption) (by rfl) ?_
    refine x_iload_n d_PR_printTail_4 rfl rfl ?_
    refine x_iald d_PR_printTail_5 (Nat.le_of_ble_eq_true rfl) (Nat.le_of_ble_eq_true rfl) (by first | rfl | assumption) (vp_in_nI hy (by decide)) ?_
    refine x_topi 4 (by rw [nI_clamp (by omega)]; exact hk) ?_
    refine x_istore_n d_PR_printTail_6 rfl (Nat.le_of_ble_eq_true rfl) ?_
    refine x_iload_n d_PR_printTail_7 rfl rfl ?_
    refine x_iconst 5 d_PR_printTail_8 (by decide) ?_
    refine x_icmp_ne 21 d_PR_printTail_9 (by decide) (fun _ => ?_) (fun z => absurd z (by decide))
    refine x_iload_n d_PR_printTail_21 rfl rfl ?_
    refine x_iconst 4 d_PR_printTail_22 (by decide) ?_
    refine x_icmp_ne 51 d_PR_printTail_23 (by decide) (fun z => absurd (by decide) z) (fun _ => ?_)
    refine x_aload_n d_PR_printTail_26 rfl rfl ?_
    refine x_aload_n d_PR_printTail_27 rfl rfl ?_
    refine x_iload_n d_PR_printTail_28 rfl rfl ?_
    refine x_callV2Y d_PR_printTail_29 k_PR_48 (Nat.le_of_ble_eq_true rfl) (Nat.le_of_ble_eq_true rfl) (by first | rfl | assumption) (by rfl) (z_countLevel hra0 t5 a3 a4 hy ho (Or.inr ⟨by rw [hch]; exact g_nIm (by omega), rfl⟩) (by omega) (by omega)) (Nat.le_of_ble_eq_true rfl) (Nat.le_of_ble_eq_true rfl) (Nat.le_of_ble_eq_true rfl) (Nat.le_of_ble_eq_true rfl) (Nat.le_of_ble_eq_true rfl) rfl ?_
    refine x_aload_n d_PR_printTail_32 rfl rfl ?_
    refine x_bipush 44 d_PR_printTail_33 (by decide) ?_
    refine x_callV1Y d_PR_printTail_35 k_PR_54 (Nat.le_of_ble_eq_true rfl) (Nat.le_of_ble_eq_true rfl) (by first | rfl | assumption) (by rfl) (z_put hra0 (by omega)) (Nat.le_of_ble_eq_true rfl) (Nat.le_of_ble_eq_true rfl) (Nat.le_of_ble_eq_true rfl) (Nat.le_of_ble_eq_true rfl) (Nat.le_of_ble_eq_true rfl) rfl ?_
    refine x_aload_n d_PR_printTail_38 rfl rfl ?_
    refine x_aload_n d_PR_printTail_39 rfl rfl ?_
    refine x_get d_PR_printTail_40 f_PR_57 (Nat.le_of_ble_eq_true rfl) (Nat.le_of_ble_eq_true rfl) (by first | rfl | assumption) (by rfl) ?_
    refine x_iload_n d_PR_printTail_43 rfl rfl ?_
    refine x_iald d_PR_printTail_44 (Nat.le_of_ble_eq_true rfl) (Nat.le_of_ble_eq_true rfl) (by first | rfl | assumption) (vp_in_nI hy (by decide)) ?_
    refine x_topi (nI z) (by rw [nI_clamp (by omega)]; exact hch) ?_
    refine x_callV1Y d_PR_printTail_45 k_PR_60 (Nat.le_of_ble_eq_true rfl) (Nat.le_of_ble_eq_true rfl) (by first | rfl | assumption) (by rfl) (z_enter hra0 hw) (Nat.le_of_ble_eq_true rfl) (Nat.le_of_ble_eq_true rfl) (Nat.le_of_ble_eq_true rfl) (Nat.le_of_ble_eq_true rfl) (Nat.le_of_ble_eq_true rfl) rfl ?_
    refine x_goto 62 d_PR_printTail_48 (by decide) ?_
    exact x_return d_PR_printTail_62 rfl ⟨rfl, rfl, fun _ _ => rfl, rfl, rfl⟩
  · refine x_Mt.of (by decide) (Nat.le_of_ble_eq_true rfl) ?_
    show x_W E M_PR_printTail _ _ 52 (g_zw h 20 wc S ne Lv Wt P0) 0 [(0, .ref 15), (1, .ref 5), (2, .int (nI y))] [] 0 0
    refine x_aload_n d_PR_printTail_0 rfl rfl ?_
    refine x_get d_PR_printTail_1 f_PR_51 (Nat.le_of_ble_eq_true rfl) (Nat.le_of_ble_eq_true rfl) (by first | rfl | assumption) (by rfl) ?_
    refine x_iload_n d_PR_printTail_4 rfl rfl ?_
    refine x_iald d_PR_printTail_5 (Nat.le_of_ble_eq_true rfl) (Nat.le_of_ble_eq_true rfl) (by first | rfl | assumption) (vp_in_nI hy (by decide)) ?_
    refine x_topi 4 (by rw [nI_clamp (by omega)]; exact hk) ?_
    refine x_istore_n d_PR_printTail_6 rfl (Nat.le_of_ble_eq_true rfl) ?_
    refine x_iload_n d_PR_printTail_7 rfl rfl ?_
    refine x_iconst 5 d_PR_printTail_8 (by decide) ?_
    refine x_icmp_ne 21 d_PR_printTail_9 (by decide) (fun _ => ?_) (fun z => absurd z (by decide))
    refine x_iload_n d_PR_printTail_21 rfl rfl ?_
    refine x_iconst 4 d_PR_printTail_22 (by decide) ?_
    refine x_icmp_ne 51 d_PR_printTail_23 (by decide) (fun z => absurd (by decide) z) (fun _ => ?_)
    refine x_aload_n d_PR_printTail_26 rfl rfl ?_
    refine x_aload_n d_PR_printTail_27 rfl rfl ?_
    refine x_iload_n d_PR_printTail_28 rfl rfl ?_
    refine x_callV2Y d_PR_printTail_29 k_PR_48 (Nat.le_of_ble_eq_true rfl) (Nat.le_of_ble_eq_true rfl) (by first | rfl | assumption) (by rfl) (z_countLevel hra0 t5 a3 a4 hy ho (Or.inr ⟨by rw [hch]; exact g_nIm (by omega), rfl⟩) (by omega) (by omega)) (Nat.le_of_ble_eq_true rfl) (Nat.le_of_ble_eq_true rfl) (Nat.le_of_ble_eq_true rfl) (Nat.le_of_ble_eq_true rfl) (Nat.le_of_ble_eq_true rfl) rfl ?_
    refine x_aload_n d_PR_printTail_32 rfl rfl ?_
    refine x_bipush 44 d_PR_printTail_33 (by decide) ?_
    refine x_callV1Y d_PR_printTail_35 k_PR_54 (Nat.le_of_ble_eq_true rfl) (Nat.le_of_ble_eq_true rfl) (by first | rfl | assumption) (by rfl) (z_put hra0 (by omega)) (Nat.le_of_ble_eq_true rfl) (Nat.le_of_ble_eq_true rfl) (Nat.le_of_ble_eq_true rfl) (Nat.le_of_ble_eq_true rfl) (Nat.le_of_ble_eq_true rfl) rfl ?_
    refine x_aload_n d_PR_printTail_38 rfl rfl ?_
    refine x_aload_n d_PR_printTail_39 rfl rfl ?_
    refine x_get d_PR_printTail_40 f_PR_57 (Nat.le_of_ble_eq_true rfl) (Nat.le_of_ble_eq_true rfl) (by first | rfl | assumption) (by rfl) ?_
    refine x_iload_n d_PR_printTail_43 rfl rfl ?_
    refine x_iald d_PR_printTail_44 (Nat.le_of_ble_eq_true rfl) (Nat.le_of_ble_eq_true rfl) (by first | rfl | assumption) (vp_in_nI hy (by decide)) ?_
    refine x_topi (nI z) (by rw [nI_clamp (by omega)]; exact hch) ?_
    refine x_callV1Y d_PR_printTail_45 k_PR_60 (Nat.le_of_ble_eq_true rfl) (Nat.le_of_ble_eq_true rfl) (by first | rfl | assumption) (by rfl) (z_enter hra0 hw) (Nat.le_of_ble_eq_true rfl) (Nat.le_of_ble_eq_true rfl) (Nat.le_of_ble_eq_true rfl) (Nat.le_of_ble_eq_true rfl) (Nat.le_of_ble_eq_true rfl) rfl ?_
    refine x_goto 62 d_PR_printTail_48 (by decide) ?_
    exact x_return d_PR_printTail_62 rfl ⟨rfl, rfl, fun _ _ => rfl, rfl, rfl⟩
set_option maxRecDepth 20000 in
theorem z_tailX {E : xR} {h : xH} {ra wc ne : Nat} {S : List Int32} {Lv Wt P0 : Nat → Int32} {A : Nat → Nat → Int32} {sy : Value} {va : Value} {rt : Value} {y k : Nat} (hra : ra = 19 ∨ ra = 20) (t5 : h 5 = .inr (3, [.ref 6, .ref 7, .ref 8, .ref 9, .ref 10, .ref 11, .ref 12, .ref 13, .ref 1, sy, va, rt])) (a0 : h 6 = .inl (0, 1001, .inl (A 0))) (hy : y < 1001) (hk : A 0 y = nI k) (hk8 : k < 8) (h5 : k ≠ 5) (h4 : k ≠ 4) (hw : wc + 1 < 2000) (hS : S.length < 2 ^ 27) : x_Mt E M_PR_printTail 2 0 0 [.ref 15, .ref 5, .int (nI y)] 52 (g_zw h ra wc S ne Lv Wt P0) (x_Y none 52 (g_zw h ra (wc + 1 + 1) (S ++ [124]) ne Lv (upd (upd Wt wc (nI y ^^^ -1)) (wc + 1) (nI y)) P0)) := by
  have hra0 := hra
  rcases hra with rfl | rfl
  · refine x_Mt.of (by decide) (Nat.le_of_ble_eq_true rfl) ?_
    show x_W E M_PR_printTail _ _ 52 (g_zw h 19 wc S ne Lv Wt P0) 0 [(0, .ref 15), (1, .ref 5), (2, .int (nI y))] [] 0 0
    refine x_aload_n d_PR_printTail_0 rfl rfl ?_
    refine x_get d_PR_printTail_1 f_PR_51 (Nat.le_of_ble_eq_true rfl) (Nat.le_of_ble_eq_true rfl) (by first | rfl | assumption) (by rfl) ?_
    refine x_iload_n d_PR_printTail_4 rfl rfl ?_
    refine x_iald d_PR_printTail_5 (Nat.le_of_ble_eq_true rfl) (Nat.le_of_ble_eq_true rfl) (by first | rfl | assumption) (vp_in_nI hy (by decide)) ?_
    refine x_topi (nI k) (by rw [nI_clamp (by omega)]; exact hk) ?_
    refine x_istore_n d_PR_printTail_6 rfl (Nat.le_of_ble_eq_true rfl) ?_
    refine x_iload_n d_PR_printTail_7 rfl rfl ?_
    refine x_iconst 5 d_PR_printTail_8 (by decide) ?_
    refine x_icmp_ne 21 d_PR_printTail_9 (by decide) (fun _ => ?_) (fun z => absurd z (show ¬ nI k = nI 5 from fun q => h5 ((g_nIne (by omega) (by decide)).mp q)))
    refine x_iload_n d_PR_printTail_21 rfl rfl ?_
    refine x_iconst 4 d_PR_printTail_22 (by decide) ?_
    refine x_icmp_ne 51 d_PR_printTail_23 (by decide) (fun _ => ?_) (fun z => absurd z (show ¬ nI k = nI 4 from fun q => h4 ((g_nIne (by omega) (by decide)).mp q)))
    refine x_aload_n d_PR_printTail_51 rfl rfl ?_
    refine x_bipush 124 d_PR_printTail_52 (by decide) ?_
    refine x_callV1Y d_PR_printTail_54 k_PR_54 (Nat.le_of_ble_eq_true rfl) (Nat.le_of_ble_eq_true rfl) (by first | rfl | assumption) (by rfl) (z_put hra0 (by omega)) (Nat.le_of_ble_eq_true rfl) (Nat.le_of_ble_eq_true rfl) (Nat.le_of_ble_eq_true rfl) (Nat.le_of_ble_eq_true rfl) (Nat.le_of_ble_eq_true rfl) rfl ?_
    refine x_aload_n d_PR_printTail_57 rfl rfl ?_
    refine x_iload_n d_PR_printTail_58 rfl rfl ?_
    refine x_callV1Y d_PR_printTail_59 k_PR_60 (Nat.le_of_ble_eq_true rfl) (Nat.le_of_ble_eq_true rfl) (by first | rfl | assumption) (by rfl) (z_enter hra0 hw) (Nat.le_of_ble_eq_true rfl) (Nat.le_of_ble_eq_true rfl) (Nat.le_of_ble_eq_true rfl) (Nat.le_of_ble_eq_true rfl) (Nat.le_of_ble_eq_true rfl) rfl ?_
    exact x_return d_PR_printTail_62 rfl ⟨rfl, rfl, fun _ _ => rfl, rfl, rfl⟩
  · refine x_Mt.of (by decide) (Nat.le_of_ble_eq_true rfl) ?_
    show x_W E M_PR_printTail _ _ 52 (g_zw h 20 wc S ne Lv Wt P0) 0 [(0, .ref 15), (1, .ref 5), (2, .int (nI y))] [] 0 0
    refine x_aload_n d_PR_printTail_0 rfl rfl ?_
    refine x_get d_PR_printTail_1 f_PR_51 (Nat.le_of_ble_eq_true rfl) (Nat.le_of_ble_eq_true rfl) (by first | rfl | assumption) (by rfl) ?_
    refine x_iload_n d_PR_printTail_4 rfl rfl ?_
    refine x_iald d_PR_printTail_5 (Nat.le_of_ble_eq_true rfl) (Nat.le_of_ble_eq_true rfl) (by first | rfl | assumption) (vp_in_nI hy (by decide)) ?_
    refine x_topi (nI k) (by rw [nI_clamp (by omega)]; exact hk) ?_
    refine x_istore_n d_PR_printTail_6 rfl (Nat.le_of_ble_eq_true rfl) ?_
    refine x_iload_n d_PR_printTail_7 rfl rfl ?_
    refine x_iconst 5 d_PR_printTail_8 (by decide) ?_
    refine x_icmp_ne 21 d_PR_printTail_9 (by decide) (fun _ => ?_) (fun z => absurd z (show ¬ nI k = nI 5 from fun q => h5 ((g_nIne (by omega) (by decide)).mp q)))
    refine x_iload_n d_PR_printTail_21 rfl rfl ?_
    refine x_iconst 4 d_PR_printTail_22 (by decide) ?_
    refine x_icmp_ne 51 d_PR_printTail_23 (by decide) (fun _ => ?_) (fun z => absurd z (show ¬ nI k = nI 4 from fun q => h4 ((g_nIne (by omega) (by decide)).mp q)))
    refine x_aload_n d_PR_printTail_51 rfl rfl ?_
    refine x_bipush 124 d_PR_printTail_52 (by decide) ?_
    refine x_callV1Y d_PR_printTail_54 k_PR_54 (Nat.le_of_ble_eq_true rfl) (Nat.le_of_ble_eq_true rfl) (by first | rfl | assumption) (by rfl) (z_put hra0 (by omega)) (Nat.le_of_ble_eq_true rfl) (Nat.le_of_ble_eq_true rfl) (Nat.le_of_ble_eq_true rfl) (Nat.le_of_ble_eq_true rfl) (Nat.le_of_ble_eq_true rfl) rfl ?_
    refine x_aload_n d_PR_printTail_57 rfl rfl ?_
    refine x_iload_n d_PR_printTail_58 rfl rfl ?_
    refine x_callV1Y d_PR_printTail_59 k_PR_60 (Nat.le_of_ble_eq_true rfl) (Nat.le_of_ble_eq_true rfl) (by first | rfl | assumption) (by rfl) (z_enter hra0 hw) (Nat.le_of_ble_eq_true rfl) (Nat.le_of_ble_eq_true rfl) (Nat.le_of_ble_eq_true rfl) (Nat.le_of_ble_eq_true rfl) (Nat.le_of_ble_eq_true rfl) rfl ?_
    exact x_return d_PR_printTail_62 rfl ⟨rfl, rfl, fun _ _ => rfl, rfl, rfl⟩
theorem d_PR_printBehind_0 : decode M_PR_printBehind.2.1 0 = .ok (.aload_n 1, 1) := by decide +kernel
theorem d_PR_printBehind_1 : decode M_PR_printBehind.2.1 1 = .ok (.getfield 85, 3) := by decide +kernel
theorem d_PR_printBehind_4 : decode M_PR_printBehind.2.1 4 = .ok (.iload_n 2, 1) := by decide +kernel
theorem d_PR_printBehind_5 : decode M_PR_printBehind.2.1 5 = .ok (.iaload, 1) := by decide +kernel
theorem d_PR_printBehind_6 : decode M_PR_printBehind.2.1 6 = .ok (.istore_n 3, 1) := by decide +kernel
theorem d_PR_printBehind_7 : decode M_PR_printBehind.2.1 7 = .ok (.aload_n 1, 1) := by decide +kernel
theorem d_PR_printBehind_8 : decode M_PR_printBehind.2.1 8 = .ok (.getfield 51, 3) := by decide +kernel
theorem d_PR_printBehind_11 : decode M_PR_printBehind.2.1 11 = .ok (.aload_n 1, 1) := by decide +kernel
theorem d_PR_printBehind_12 : decode M_PR_printBehind.2.1 12 = .ok (.getfield 88, 3) := by decide +kernel
theorem d_PR_printBehind_15 : decode M_PR_printBehind.2.1 15 = .ok (.iload_n 2, 1) := by decide +kernel
theorem d_PR_printBehind_16 : decode M_PR_printBehind.2.1 16 = .ok (.iaload, 1) := by decide +kernel
theorem d_PR_printBehind_17 : decode M_PR_printBehind.2.1 17 = .ok (.iaload, 1) := by decide +kernel
theorem d_PR_printBehind_18 : decode M_PR_printBehind.2.1 18 = .ok (.iconst 4, 1) := by decide +kernel
theorem d_PR_printBehind_19 : decode M_PR_printBehind.2.1 19 = .ok (.if_icmp .ne 7, 3) := by decide +kernel
theorem d_PR_printBehind_22 : decode M_PR_printBehind.2.1 22 = .ok (.iconst 1, 1) := by decide +kernel
theorem d_PR_printBehind_23 : decode M_PR_printBehind.2.1 23 = .ok (.goto 4, 3) := by decide +kernel
theorem d_PR_printBehind_26 : decode M_PR_printBehind.2.1 26 = .ok (.iconst 0, 1) := by decide +kernel
theorem d_PR_printBehind_27 : decode M_PR_printBehind.2.1 27 = .ok (.istore 4, 2) := by decide +kernel
theorem d_PR_printBehind_29 : decode M_PR_printBehind.2.1 29 = .ok (.iload_n 3, 1) := by decide +kernel
theorem d_PR_printBehind_30 : decode M_PR_printBehind.2.1 30 = .ok (.iconst (-1), 1) := by decide +kernel
theorem d_PR_printBehind_31 : decode M_PR_printBehind.2.1 31 = .ok (.if_icmp .ne 22, 3) := by decide +kernel
theorem d_PR_printBehind_34 : decode M_PR_printBehind.2.1 34 = .ok (.aload_n 0, 1) := by decide +kernel
theorem d_PR_printBehind_35 : decode M_PR_printBehind.2.1 35 = .ok (.iload 4, 2) := by decide +kernel
theorem d_PR_printBehind_37 : decode M_PR_printBehind.2.1 37 = .ok (.ifCond .eq 8, 3) := by decide +kernel
theorem d_PR_printBehind_40 : decode M_PR_printBehind.2.1 40 = .ok (.bipush 93, 2) := by decide +kernel
theorem d_PR_printBehind_42 : decode M_PR_printBehind.2.1 42 = .ok (.goto 5, 3) := by decide +kernel
theorem d_PR_printBehind_45 : decode M_PR_printBehind.2.1 45 = .ok (.bipush 41, 2) := by decide +kernel
theorem d_PR_printBehind_47 : decode M_PR_printBehind.2.1 47 = .ok (.invokevirtual 54, 3) := by decide +kernel
theorem d_PR_printBehind_50 : decode M_PR_printBehind.2.1 50 = .ok (.goto 28, 3) := by decide +kernel
theorem d_PR_printBehind_53 : decode M_PR_printBehind.2.1 53 = .ok (.iload 4, 2) := by decide +kernel
theorem d_PR_printBehind_55 : decode M_PR_printBehind.2.1 55 = .ok (.ifCond .eq 12, 3) := by decide +kernel
theorem d_PR_printBehind_58 : decode M_PR_printBehind.2.1 58 = .ok (.aload_n 0, 1) := by decide +kernel
theorem d_PR_printBehind_59 : decode M_PR_printBehind.2.1 59 = .ok (.aload_n 1, 1) := by decide +kernel
theorem d_PR_printBehind_60 : decode M_PR_printBehind.2.1 60 = .ok (.iload_n 3, 1) := by decide +kernel
theorem d_PR_printBehind_61 : decode M_PR_printBehind.2.1 61 = .ok (.invokevirtual 91, 3) := by decide +kernel
theorem d_PR_printBehind_64 : decode M_PR_printBehind.2.1 64 = .ok (.goto 14, 3) := by decide +kernel
theorem d_PR_printBehind_67 : decode M_PR_printBehind.2.1 67 = .ok (.aload_n 0, 1) := by decide +kernel
theorem d_PR_printBehind_68 : decode M_PR_printBehind.2.1 68 = .ok (.bipush 44, 2) := by decide +kernel
theorem d_PR_printBehind_70 : decode M_PR_printBehind.2.1 70 = .ok (.invokevirtual 54, 3) := by decide +kernel
theorem d_PR_printBehind_73 : decode M_PR_printBehind.2.1 73 = .ok (.aload_n 0, 1) := by decide +kernel
theorem d_PR_printBehind_74 : decode M_PR_printBehind.2.1 74 = .ok (.iload_n 3, 1) := by decide +kernel
theorem d_PR_printBehind_75 : decode M_PR_printBehind.2.1 75 = .ok (.invokevirtual 60, 3) := by decide +kernel
theorem d_PR_printBehind_78 : decode M_PR_printBehind.2.1 78 = .ok (.return_, 1) := by decide +kernel
set_option maxRecDepth 20000 in
theorem z_behE0 {E : xR} {h : xH} {ra wc ne : Nat} {S : List Int32} {Lv Wt P0 : Nat → Int32} {A : Nat → Nat → Int32} {sy : Value} {va : Value} {rt : Value} {y o k : Nat} (hra : ra = 19 ∨ ra = 20) (t5 : h 5 = .inr (3, [.ref 6, .ref 7, .ref 8, .ref 9, .ref 10, .ref 11, .ref 12, .ref 13, .ref 1, sy, va, rt])) (a0 : h 6 = .inl (0, 1001, .inl (A 0))) (a3 : h 9 = .inl (0, 1001, .inl (A 3))) (a5 : h 11 = .inl (0, 1001, .inl (A 5))) (hy : y < 1001) (ho : o < 1001) (h3 : A 3 y = nI o) (hk : A 0 o = nI k) (hk8 : k < 8) (hS : S.length < 2 ^ 27) (h5 : A 5 y = -1) (h4 : k ≠ 4) : x_Mt E M_PR_printBehind 3 0 0 [.ref 15, .ref 5, .int (nI y)] 52 (g_zw h ra wc S ne Lv Wt P0) (x_Y none 52 (g_zw h ra wc (S ++ [41]) ne Lv Wt P0)) := by
  have hra0 := hra
  rcases hra with rfl | rfl
  · refine x_Mt.of (by decide) (Nat.le_of_ble_eq_true rfl) ?_
    show x_W E M_PR_printBehind _ _ 52 (g_zw h 19 wc S ne Lv Wt P0) 0 [(0, .ref 15), (1, .ref 5), (2, .int (nI y))] [] 0 0
    refine x_aload_n d_PR_printBehind_0 rfl rfl ?_
    refine x_get d_PR_printBehind_1 f_PR_85 (Nat.le_of_ble_eq_true rfl) (Nat.le_of_ble_eq_true rfl) (by first | rfl | assumption) (by rfl) ?_
    refine x_iload_n d_PR_printBehind_4 rfl rfl ?_
    refine x_iald d_PR_printBehind_5 (Nat.le_of_ble_eq_true rfl) (Nat.le_of_ble_eq_true rfl) (by first | rfl | assumption) (vp_in_nI hy (by decide)) ?_
    refine x_topi (-1) (by rw [nI_clamp (by omega)]; exact h5) ?_
    refine x_istore_n d_PR_printBehind_6 rfl (Nat.le_of_ble_eq_true rfl) ?_
    refine x_aload_n d_PR_printBehind_7 rfl rfl ?_
    refine x_get d_PR_printBehind_8 f_PR_51 (Nat.le_of_ble_eq_true rfl) (Nat.le_of_ble_eq_true rfl) (by first | rfl | assumption) (by rfl) ?_
    refine x_aload_n d_PR_printBehind_11 rfl rfl ?_
    refine x_get d_PR_printBehind_12 f_PR_88 (Nat.le_of_ble_eq_true rfl) (Nat.le_of_ble_eq_true rfl) (by first | rfl | assumption) (by rfl) ?_
    refine x_iload_n d_PR_printBehind_15 rfl rfl ?_
    refine x_iald d_PR_printBehind_16 (Nat.le_of_ble_eq_true rfl) (Nat.le_of_ble_eq_true rfl) (by first | rfl | assumption) (vp_in_nI hy (by decide)) ?_
    refine x_topi (nI o) (by rw [nI_clamp (by omega)]; exact h3) ?_
    refine x_iald d_PR_printBehind_17 (Nat.le_of_ble_eq_true rfl) (Nat.le_of_ble_eq_true rfl) (by first | rfl | assumption) (vp_in_nI ho (by decide)) ?_
    refine x_topi (nI k) (by rw [nI_clamp (by omega)]; exact hk) ?_
    refine x_iconst 4 d_PR_printBehind_18 (by decide) ?_
    refine x_icmp_ne 26 d_PR_printBehind_19 (by decide) (fun _ => ?_) (fun z => absurd z (show ¬ nI k = nI 4 from fun q => h4 ((g_nIne (by omega) (by decide)).mp q)))
    refine x_iconst 0 d_PR_printBehind_26 (by decide) ?_
    refine x_istore d_PR_printBehind_27 (Nat.le_of_ble_eq_true rfl) ?_
    refine x_iload_n d_PR_printBehind_29 rfl rfl ?_
    refine x_iconst (-1) d_PR_printBehind_30 (by decide) ?_
    refine x_icmp_ne 53 d_PR_printBehind_31 (by decide) (fun z => absurd rfl z) (fun _ => ?_)
    refine x_aload_n d_PR_printBehind_34 rfl rfl ?_
    refine x_iload d_PR_printBehind_35 rfl ?_
    refine x_if_eq 45 d_PR_printBehind_37 (by decide) (fun _ => ?_) (fun z => absurd rfl z)
    refine x_bipush 41 d_PR_printBehind_45 (by decide) ?_
    refine x_callV1Y d_PR_printBehind_47 k_PR_54 (Nat.le_of_ble_eq_true rfl) (Nat.le_of_ble_eq_true rfl) (by first | rfl | assumption) (by rfl) (z_put hra0 (by omega)) (Nat.le_of_ble_eq_true rfl) (Nat.le_of_ble_eq_true rfl) (Nat.le_of_ble_eq_true rfl) (Nat.le_of_ble_eq_true rfl) (Nat.le_of_ble_eq_true rfl) rfl ?_
    refine x_goto 78 d_PR_printBehind_50 (by decide) ?_
    exact x_return d_PR_printBehind_78 rfl ⟨rfl, rfl, fun _ _ => rfl, rfl, rfl⟩
  · refine x_Mt.of (by decide) (Nat.le_of_ble_eq_true rfl) ?_
    show x_W E M_PR_printBehind _ _ 52 (g_zw h 20 wc S ne Lv Wt P0) 0 [(0, .ref 15), (1, .ref 5), (2, .int (nI y))] [] 0 0
    refine x_aload_n d_PR_printBehind_0 rfl rfl ?_
    refine x_get d_PR_printBehind_1 f_PR_85 (Nat.le_of_ble_eq_true rfl) (Nat.le_of_ble_eq_true rfl) (by first | rfl | assumption) (by rfl) ?_
    refine x_iload_n d_PR_printBehind_4 rfl rfl ?_
    refine x_iald d_PR_printBehind_5 (Nat.le_of_ble_eq_true rfl) (Nat.le_of_ble_eq_true rfl) (by first | rfl | assumption) (vp_in_nI hy (by decide)) ?_
    refine x_topi (-1) (by rw [nI_clamp (by omega)]; exact h5) ?_
    refine x_istore_n d_PR_printBehind_6 rfl (Nat.le_of_ble_eq_true rfl) ?_
    refine x_aload_n d_PR_printBehind_7 rfl rfl ?_
    refine x_get d_PR_printBehind_8 f_PR_51 (Nat.le_of_ble_eq_true rfl) (Nat.le_of_ble_eq_true rfl) (by first | rfl | assumption) (by rfl) ?_
    refine x_aload_n d_PR_printBehind_11 rfl rfl ?_
    refine x_get d_PR_printBehind_12 f_PR_88 (Nat.le_of_ble_eq_true rfl) (Nat.le_of_ble_eq_true rfl) (by first | rfl | assumption) (by rfl) ?_
    refine x_iload_n d_PR_printBehind_15 rfl rfl ?_
    refine x_iald d_PR_printBehind_16 (Nat.le_of_ble_eq_true rfl) (Nat.le_of_ble_eq_true rfl) (by first | rfl | assumption) (vp_in_nI hy (by decide)) ?_
    refine x_topi (nI o) (by rw [nI_clamp (by omega)]; exact h3) ?_
    refine x_iald d_PR_printBehind_17 (Nat.le_of_ble_eq_true rfl) (Nat.le_of_ble_eq_true rfl) (by first | rfl | assumption) (vp_in_nI ho (by decide)) ?_
    refine x_topi (nI k) (by rw [nI_clamp (by omega)]; exact hk) ?_
    refine x_iconst 4 d_PR_printBehind_18 (by decide) ?_
    refine x_icmp_ne 26 d_PR_printBehind_19 (by decide) (fun _ => ?_) (fun z => absurd z (show ¬ nI k = nI 4 from fun q => h4 ((g_nIne (by omega) (by decide)).mp q)))
    refine x_iconst 0 d_PR_printBehind_26 (by decide) ?_
    refine x_istore d_PR_printBehind_27 (Nat.le_of_ble_eq_true rfl) ?_
    refine x_iload_n d_PR_printBehind_29 rfl rfl ?_
    refine x_iconst (-1) d_PR_printBehind_30 (by decide) ?_
    refine x_icmp_ne 53 d_PR_printBehind_31 (by decide) (fun z => absurd rfl z) (fun _ => ?_)
    refine x_aload_n d_PR_printBehind_34 rfl rfl ?_
    refine x_iload d_PR_printBehind_35 rfl ?_
    refine x_if_eq 45 d_PR_printBehind_37 (by decide) (fun _ => ?_) (fun z => absurd rfl z)
    refine x_bipush 41 d_PR_printBehind_45 (by decide) ?_
    refine x_callV1Y d_PR_printBehind_47 k_PR_54 (Nat.le_of_ble_eq_true rfl) (Nat.le_of_ble_eq_true rfl) (by first | rfl | assumption) (by rfl) (z_put hra0 (by omega)) (Nat.le_of_ble_eq_true rfl) (Nat.le_of_ble_eq_true rfl) (Nat.le_of_ble_eq_true rfl) (Nat.le_of_ble_eq_true rfl) (Nat.le_of_ble_eq_true rfl) rfl ?_
    refine x_goto 78 d_PR_printBehind_50 (by decide) ?_
    exact x_return d_PR_printBehind_78 rfl ⟨rfl, rfl, fun _ _ => rfl, rfl, rfl⟩
set_option maxRecDepth 20000 in
theorem z_behE1 {E : xR} {h : xH} {ra wc ne : Nat} {S : List Int32} {Lv Wt P0 : Nat → Int32} {A : Nat → Nat → Int32} {sy : Value} {va : Value} {rt : Value} {y o k : Nat} (hra : ra = 19 ∨ ra = 20) (t5 : h 5 = .inr (3, [.ref 6, .ref 7, .ref 8, .ref 9, .ref 10, .ref 11, .ref 12, .ref 13, .ref 1, sy, va, rt])) (a0 : h 6 = .inl (0, 1001, .inl (A 0))) (a3 : h 9 = .inl (0, 1001, .inl (A 3))) (a5 : h 11 = .inl (0, 1001, .inl (A 5))) (hy : y < 1001) (ho : o < 1001) (h3 : A 3 y = nI o) (hk : A 0 o = nI k) (hk8 : k < 8) (hS : S.length < 2 ^ 27) (h5 : A 5 y = -1) (h4 : k = 4) : x_Mt E M_PR_printBehind 3 0 0 [.ref 15, .ref 5, .int (nI y)] 52 (g_zw h ra wc S ne Lv Wt P0) (x_Y none 52 (g_zw h ra wc (S ++ [93]) ne Lv Wt P0)) := by
  have hra0 := hra
  rcases hra with rfl | rfl
  · refine x_Mt.of (by decide) (Nat.le_of_ble_eq_true rfl) ?_
    show x_W E M_PR_printBehind _ _ 52 (g_zw h 19 wc S ne Lv Wt P0) 0 [(0, .ref 15), (1, .ref 5), (2, .int (nI y))] [] 0 0
    refine x_aload_n d_PR_printBehind_0 rfl rfl ?_
    refine x_get d_PR_printBehind_1 f_PR_85 (Nat.le_of_ble_eq_true rfl) (Nat.le_of_ble_eq_true rfl) (by first | rfl | assumption) (by rfl) ?_
    refine x_iload_n d_PR_printBehind_4 rfl rfl ?_
    refine x_iald d_PR_printBehind_5 (Nat.le_of_ble_eq_true rfl) (Nat.le_of_ble_eq_true rfl) (by first | rfl | assumption) (vp_in_nI hy (by decide)) ?_
    refine x_topi (-1) (by rw [nI_clamp (by omega)]; exact h5) ?_
    refine x_istore_n d_PR_printBehind_6 rfl (Nat.le_of_ble_eq_true rfl) ?_
    refine x_aload_n d_PR_printBehind_7 rfl rfl ?_
    refine x_get d_PR_printBehind_8 f_PR_51 (Nat.le_of_ble_eq_true rfl) (Nat.le_of_ble_eq_true rfl) (by first | rfl | assumption) (by rfl) ?_
    refine x_aload_n d_PR_printBehind_11 rfl rfl ?_
    refine x_get d_PR_printBehind_12 f_PR_88 (Nat.le_of_ble_eq_true rfl) (Nat.le_of_ble_eq_true rfl) (by first | rfl | assumption) (by rfl) ?_
    refine x_iload_n d_PR_printBehind_15 rfl rfl ?_
    refine x_iald d_PR_printBehind_16 (Nat.le_of_ble_eq_true rfl) (Nat.le_of_ble_eq_true rfl) (by first | rfl | assumption) (vp_in_nI hy (by decide)) ?_
    refine x_topi (nI o) (by rw [nI_clamp (by omega)]; exact h3) ?_
    refine x_iald d_PR_printBehind_17 (Nat.le_of_ble_eq_true rfl) (Nat.le_of_ble_eq_true rfl) (by first | rfl | assumption) (vp_in_nI ho (by decide)) ?_
    refine x_topi (nI k) (by rw [nI_clamp (by omega)]; exact hk) ?_
    refine x_iconst 4 d_PR_printBehind_18 (by decide) ?_
    refine x_icmp_ne 26 d_PR_printBehind_19 (by decide) (fun z => absurd (show nI k = nI 4 by rw [h4]) z) (fun _ => ?_)
    refine x_iconst 1 d_PR_printBehind_22 (by decide) ?_
    refine x_goto 27 d_PR_printBehind_23 (by decide) ?_
    refine x_istore d_PR_printBehind_27 (Nat.le_of_ble_eq_true rfl) ?_
    refine x_iload_n d_PR_printBehind_29 rfl rfl ?_
    refine x_iconst (-1) d_PR_printBehind_30 (by decide) ?_
    refine x_icmp_ne 53 d_PR_printBehind_31 (by decide) (fun z => absurd rfl z) (fun _ => ?_)
    refine x_aload_n d_PR_printBehind_34 rfl rfl ?_
    refine x_iload d_PR_printBehind_35 rfl ?_
    refine x_if_eq 45 d_PR_printBehind_37 (by decide) (fun z => absurd z (by decide)) (fun _ => ?_)
    refine x_bipush 93 d_PR_printBehind_40 (by decide) ?_
    refine x_goto 47 d_PR_printBehind_42 (by decide) ?_
    refine x_callV1Y d_PR_printBehind_47 k_PR_54 (Nat.le_of_ble_eq_true rfl) (Nat.le_of_ble_eq_true rfl) (by first | rfl | assumption) (by rfl) (z_put hra0 (by omega)) (Nat.le_of_ble_eq_true rfl) (Nat.le_of_ble_eq_true rfl) (Nat.le_of_ble_eq_true rfl) (Nat.le_of_ble_eq_true rfl) (Nat.le_of_ble_eq_true rfl) rfl ?_
    refine x_goto 78 d_PR_printBehind_50 (by decide) ?_
    exact x_return d_PR_printBehind_78 rfl ⟨rfl, rfl, fun _ _ => rfl, rfl, rfl⟩
  · refine x_Mt.of (by decide) (Nat.le_of_ble_eq_true rfl) ?_
    show x_W E M_PR_printBehind _ _ 52 (g_zw h 20 wc S ne Lv Wt P0) 0 [(0, .ref 15), (1, .ref 5), (2, .int (nI y))] [] 0 0
    refine x_aload_n d_PR_printBehind_0 rfl rfl ?_
    refine x_get d_PR_printBehind_1 f_PR_85 (Nat.le_of_ble_eq_true rfl) (Nat.le_of_ble_eq_true rfl) (by first | rfl | assumption) (by rfl) ?_
    refine x_iload_n d_PR_printBehind_4 rfl rfl ?_
    refine x_iald d_PR_printBehind_5 (Nat.le_of_ble_eq_true rfl) (Nat.le_of_ble_eq_true rfl) (by first | rfl | assumption) (vp_in_nI hy (by decide)) ?_
    refine x_topi (-1) (by rw [nI_clamp (by omega)]; exact h5) ?_
    refine x_istore_n d_PR_printBehind_6 rfl (Nat.le_of_ble_eq_true rfl) ?_
    refine x_aload_n d_PR_printBehind_7 rfl rfl ?_
    refine x_get d_PR_printBehind_8 f_PR_51 (Nat.le_of_ble_eq_true rfl) (Nat.le_of_ble_eq_true rfl) (by first | rfl | assumption) (by rfl) ?_
    refine x_aload_n d_PR_printBehind_11 rfl rfl ?_
    refine x_get d_PR_printBehind_12 f_PR_88 (Nat.le_of_ble_eq_true rfl) (Nat.le_of_ble_eq_true rfl) (by first | rfl | assumption) (by rfl) ?_
    refine x_iload_n d_PR_printBehind_15 rfl rfl ?_
    refine x_iald d_PR_printBehind_16 (Nat.le_of_ble_eq_true rfl) (Nat.le_of_ble_eq_true rfl) (by first | rfl | assumption) (vp_in_nI hy (by decide)) ?_
    refine x_topi (nI o) (by rw [nI_clamp (by omega)]; exact h3) ?_
    refine x_iald d_PR_printBehind_17 (Nat.le_of_ble_eq_true rfl) (Nat.le_of_ble_eq_true rfl) (by first | rfl | assumption) (vp_in_nI ho (by decide)) ?_
    refine x_topi (nI k) (by rw [nI_clamp (by omega)]; exact hk) ?_
    refine x_iconst 4 d_PR_printBehind_18 (by decide) ?_
    refine x_icmp_ne 26 d_PR_printBehind_19 (by decide) (fun z => absurd (show nI k = nI 4 by rw [h4]) z) (fun _ => ?_)
    refine x_iconst 1 d_PR_printBehind_22 (by decide) ?_
    refine x_goto 27 d_PR_printBehind_23 (by decide) ?_
    refine x_istore d_PR_printBehind_27 (Nat.le_of_ble_eq_true rfl) ?_
    refine x_iload_n d_PR_printBehind_29 rfl rfl ?_
    refine x_iconst (-1) d_PR_printBehind_30 (by decide) ?_
    refine x_icmp_ne 53 d_PR_printBehind_31 (by decide) (fun z => absurd rfl z) (fun _ => ?_)
    refine x_aload_n d_PR_printBehind_34 rfl rfl ?_
    refine x_iload d_PR_printBehind_35 rfl ?_
    refine x_if_eq 45 d_PR_printBehind_37 (by decide) (fun z => absurd z (by decide)) (fun _ => ?_)
    refine x_bipush 93 d_PR_printBehind_40 (by decide) ?_
    refine x_goto 47 d_PR_printBehind_42 (by decide) ?_
    refine x_callV1Y d_PR_printBehind_47 k_PR_54 (Nat.le_of_ble_eq_true rfl) (Nat.le_of_ble_eq_true rfl) (by first | rfl | assumption) (by rfl) (z_put hra0 (by omega)) (Nat.le_of_ble_eq_true rfl) (Nat.le_of_ble_eq_true rfl) (Nat.le_of_ble_eq_true rfl) (Nat.le_of_ble_eq_true rfl) (Nat.le_of_ble_eq_true rfl) rfl ?_
    refine x_goto 78 d_PR_printBehind_50 (by decide) ?_
    exact x_return d_PR_printBehind_78 rfl ⟨rfl, rfl, fun _ _ => rfl, rfl, rfl⟩
set_option maxRecDepth 20000 in
theorem z_behA {E : xR} {h : xH} {ra wc ne : Nat} {S : List Int32} {Lv Wt P0 : Nat → Int32} {A : Nat → Nat → Int32} {sy : Value} {va : Value} {rt : Value} {y z o k : Nat} (hra : ra = 19 ∨ ra = 20) (t5 : h 5 = .inr (3, [.ref 6, .ref 7, .ref 8, .ref 9, .ref 10, .ref 11, .ref 12, .ref 13, .ref 1, sy, va, rt])) (a0 : h 6 = .inl (0, 1001, .inl (A 0))) (a3 : h 9 = .inl (0, 1001, .inl (A 3))) (a5 : h 11 = .inl (0, 1001, .inl (A 5))) (hy : y < 1001) (ho : o < 1001) (h3 : A 3 y = nI o) (hk : A 0 o = nI k) (hk8 : k < 8) (hS : S.length < 2 ^ 27) (h5 : A 5 y = nI z) (hz : z < 1001) (h4 : k ≠ 4) (hw : wc + 1 < 2000) : x_Mt E M_PR_printBehind 3 0 0 [.ref 15, .ref 5, .int (nI y)] 52 (g_zw h ra wc S ne Lv Wt P0) (x_Y none 52 (g_zw h ra (wc + 1 + 1) (S ++ [44]) ne Lv (upd (upd Wt wc (nI z ^^^ -1)) (wc + 1) (nI z)) P0)) := by
  have hra0 := hra
  rcases hra with rfl | rfl
  · refine x_Mt.of (by decide) (Nat.le_of_ble_eq_true rfl) ?_
    show x_W E M_PR_printBehind _ _ 52 (g_zw h 19 wc S ne Lv Wt P0) 0 [(0, .ref 15), (1, .ref 5), (2, .int (nI y))] [] 0 0
    refine x_aload_n d_PR_printBehind_0 rfl rfl ?_
    refine x_get d_PR_printBehind_1 f_PR_85 (Nat.le_of_ble_eq_true rfl) (Nat.le_of_ble_eq_true rfl) (by first | rfl | assumption) (by rfl) ?_
    refine x_iload_n d_PR_printBehind_4 rfl rfl ?_
    refine x_iald d_PR_printBehind_5 (Nat.le_of_ble_eq_true rfl) (Nat.le_of_ble_eq_true rfl) (by first | rfl | assumption) (vp_in_nI hy (by decide)) ?_
    refine x_topi (nI z) (by rw [nI_clamp (by omega)]; exact h5) ?_
    refine x_istore_n d_PR_printBehind_6 rfl (Nat.le_of_ble_eq_true rfl) ?_
    refine x_aload_n d_PR_printBehind_7 rfl rfl ?_
    refine x_get d_PR_printBehind_8 f_PR_51 (Nat.le_of_ble_eq_true rfl) (Nat.le_of_ble_eq_true rfl) (by first | rfl | assumption) (by rfl) ?_
    refine x_aload_n d_PR_printBehind_11 rfl rfl ?_
    refine x_get d_PR_printBehind_12 f_PR_88 (Nat.le_of_ble_eq_true rfl) (Nat.le_of_ble_eq_true rfl) (by first | rfl | assumption) (by rfl) ?_
    refine x_iload_n d_PR_printBehind_15 rfl rfl ?_
    refine x_iald d_PR_printBehind_16 (Nat.le_of_ble_eq_true rfl) (Nat.le_of_ble_eq_true rfl) (by first | rfl | assumption) (vp_in_nI hy (by decide)) ?_
    refine x_topi (nI o) (by rw [nI_clamp (by omega)]; exact h3) ?_
    refine x_iald d_PR_printBehind_17 (Nat.le_of_ble_eq_true rfl) (Nat.le_of_ble_eq_true rfl) (by first | rfl | assumption) (vp_in_nI ho (by decide)) ?_
    refine x_topi (nI k) (by rw [nI_clamp (by omega)]; exact hk) ?_
    refine x_iconst 4 d_PR_printBehind_18 (by decide) ?_
    refine x_icmp_ne 26 d_PR_printBehind_19 (by decide) (fun _ => ?_) (fun z => absurd z (show ¬ nI k = nI 4 from fun q => h4 ((g_nIne (by omega) (by decide)).mp q)))
    refine x_iconst 0 d_PR_printBehind_26 (by decide) ?_
    refine x_istore d_PR_printBehind_27 (Nat.le_of_ble_eq_true rfl) ?_
    refine x_iload_n d_PR_printBehind_29 rfl rfl ?_
    refine x_iconst (-1) d_PR_printBehind_30 (by decide) ?_
    refine x_icmp_ne 53 d_PR_printBehind_31 (by decide) (fun _ => ?_) (fun z => absurd z (g_nIm (by omega)))
    refine x_iload d_PR_printBehind_53 rfl ?_
    refine x_if_eq 67 d_PR_printBehind_55 (by decide) (fun _ => ?_) (fun z => absurd rfl z)
    refine x_aload_n d_PR_printBehind_67 rfl rfl ?_
    refine x_bipush 44 d_PR_printBehind_68 (by decide) ?_
    refine x_callV1Y d_PR_printBehind_70 k_PR_54 (Nat.le_of_ble_eq_true rfl) (Nat.le_of_ble_eq_true rfl) (by first | rfl | assumption) (by rfl) (z_put hra0 (by omega)) (Nat.le_of_ble_eq_true rfl) (Nat.le_of_ble_eq_true rfl) (Nat.le_of_ble_eq_true rfl) (Nat.le_of_ble_eq_true rfl) (Nat.le_of_ble_eq_true rfl) rfl ?_
    refine x_aload_n d_PR_printBehind_73 rfl rfl ?_
    refine x_iload_n d_PR_printBehind_74 rfl rfl ?_
    refine x_callV1Y d_PR_printBehind_75 k_PR_60 (Nat.le_of_ble_eq_true rfl) (Nat.le_of_ble_eq_true rfl) (by first | rfl | assumption) (by rfl) (z_enter hra0 hw) (Nat.le_of_ble_eq_true rfl) (Nat.le_of_ble_eq_true rfl) (Nat.le_of_ble_eq_true rfl) (Nat.le_of_ble_eq_true rfl) (Nat.le_of_ble_eq_true rfl) rfl ?_
    exact x_return d_PR_printBehind_78 rfl ⟨rfl, rfl, fun _ _ => rfl, rfl, rfl⟩
  · refine x_Mt.of (by decide) (Nat.le_of_ble_eq_true rfl) ?_
    show x_W E M_PR_printBehind _ _ 52 (g_zw h 20 wc S ne Lv Wt P0) 0 [(0, .ref 15), (1, .ref 5), (2, .int (nI y))] [] 0 0
    refine x_aload_n d_PR_printBehind_0 rfl rfl ?_
    refine x_get d_PR_printBehind_1 f_PR_85 (Nat.le_of_ble_eq_true rfl) (Nat.le_of_ble_eq_true rfl) (by first | rfl | assumption) (by rfl) ?_
    refine x_iload_n d_PR_printBehind_4 rfl rfl ?_
    refine x_iald d_PR_printBehind_5 (Nat.le_of_ble_eq_true rfl) (Nat.le_of_ble_eq_true rfl) (by first | rfl | assumption) (vp_in_nI hy (by decide)) ?_
    refine x_topi (nI z) (by rw [nI_clamp (by omega)]; exact h5) ?_
    refine x_istore_n d_PR_printBehind_6 rfl (Nat.le_of_ble_eq_true rfl) ?_
    refine x_aload_n d_PR_printBehind_7 rfl rfl ?_
    refine x_get d_PR_printBehind_8 f_PR_51 (Nat.le_of_ble_eq_true rfl) (Nat.le_of_ble_eq_true rfl) (by first | rfl | assumption) (by rfl) ?_
    refine x_aload_n d_PR_printBehind_11 rfl rfl ?_
    refine x_get d_PR_printBehind_12 f_PR_88 (Nat.le_of_ble_eq_true rfl) (Nat.le_of_ble_eq_true rfl) (by first | rfl | assumption) (by rfl) ?_
    refine x_iload_n d_PR_printBehind_15 rfl rfl ?_
    refine x_iald d_PR_printBehind_16 (Nat.le_of_ble_eq_true rfl) (Nat.le_of_ble_eq_true rfl) (by first | rfl | assumption) (vp_in_nI hy (by decide)) ?_
    refine x_topi (nI o) (by rw [nI_clamp (by omega)]; exact h3) ?_
    refine x_iald d_PR_printBehind_17 (Nat.le_of_ble_eq_true rfl) (Nat.le_of_ble_eq_true rfl) (by first | rfl | assumption) (vp_in_nI ho (by decide)) ?_
    refine x_topi (nI k) (by rw [nI_clamp (by omega)]; exact hk) ?_
    refine x_iconst 4 d_PR_printBehind_18 (by decide) ?_
    refine x_icmp_ne 26 d_PR_printBehind_19 (by decide) (fun _ => ?_) (fun z => absurd z (show ¬ nI k = nI 4 from fun q => h4 ((g_nIne (by omega) (by decide)).mp q)))
    refine x_iconst 0 d_PR_printBehind_26 (by decide) ?_
    refine x_istore d_PR_printBehind_27 (Nat.le_of_ble_eq_true rfl) ?_
    refine x_iload_n d_PR_printBehind_29 rfl rfl ?_
    refine x_iconst (-1) d_PR_printBehind_30 (by decide) ?_
    refine x_icmp_ne 53 d_PR_printBehind_31 (by decide) (fun _ => ?_) (fun z => absurd z (g_nIm (by omega)))
    refine x_iload d_PR_printBehind_53 rfl ?_
    refine x_if_eq 67 d_PR_printBehind_55 (by decide) (fun _ => ?_) (fun z => absurd rfl z)
    refine x_aload_n d_PR_printBehind_67 rfl rfl ?_
    refine x_bipush 44 d_PR_printBehind_68 (by decide) ?_
    refine x_callV1Y d_PR_printBehind_70 k_PR_54 (Nat.le_of_ble_eq_true rfl) (Nat.le_of_ble_eq_true rfl) (by first | rfl | assumption) (by rfl) (z_put hra0 (by omega)) (Nat.le_of_ble_eq_true rfl) (Nat.le_of_ble_eq_true rfl) (Nat.le_of_ble_eq_true rfl) (Nat.le_of_ble_eq_true rfl) (Nat.le_of_ble_eq_true rfl) rfl ?_
    refine x_aload_n d_PR_printBehind_73 rfl rfl ?_
    refine x_iload_n d_PR_printBehind_74 rfl rfl ?_
    refine x_callV1Y d_PR_printBehind_75 k_PR_60 (Nat.le_of_ble_eq_true rfl) (Nat.le_of_ble_eq_true rfl) (by first | rfl | assumption) (by rfl) (z_enter hra0 hw) (Nat.le_of_ble_eq_true rfl) (Nat.le_of_ble_eq_true rfl) (Nat.le_of_ble_eq_true rfl) (Nat.le_of_ble_eq_true rfl) (Nat.le_of_ble_eq_true rfl) rfl ?_
    exact x_return d_PR_printBehind_78 rfl ⟨rfl, rfl, fun _ _ => rfl, rfl, rfl⟩
set_option maxRecDepth 20000 in
theorem z_behT {E : xR} {h : xH} {ra wc ne : Nat} {S : List Int32} {Lv Wt P0 : Nat → Int32} {A : Nat → Nat → Int32} {sy : Value} {va : Value} {rt : Value} {W1 : xH} {y z o k : Nat} (hra : ra = 19 ∨ ra = 20) (t5 : h 5 = .inr (3, [.ref 6, .ref 7, .ref 8, .ref 9, .ref 10, .ref 11, .ref 12, .ref 13, .ref 1, sy, va, rt])) (a0 : h 6 = .inl (0, 1001, .inl (A 0))) (a3 : h 9 = .inl (0, 1001, .inl (A 3))) (a5 : h 11 = .inl (0, 1001, .inl (A 5))) (hy : y < 1001) (ho : o < 1001) (h3 : A 3 y = nI o) (hk : A 0 o = nI k) (hk8 : k < 8) (hS : S.length < 2 ^ 27) (h5 : A 5 y = nI z) (hz : z < 1001) (h4 : k = 4) (hT : x_Mt E M_PR_printTail 2 0 0 [.ref 15, .ref 5, .int (nI z)] 52 (g_zw h ra wc S ne Lv Wt P0) (x_Y none 52 W1)) : x_Mt E M_PR_printBehind 3 0 0 [.ref 15, .ref 5, .int (nI y)] 52 (g_zw h ra wc S ne Lv Wt P0) (x_Y none 52 W1) := by
  have hra0 := hra
  rcases hra with rfl | rfl
  · refine x_Mt.of (by decide) (Nat.le_of_ble_eq_true rfl) ?_
    show x_W E M_PR_printBehind _ _ 52 (g_zw h 19 wc S ne Lv Wt P0) 0 [(0, .ref 15), (1, .ref 5), (2, .int (nI y))] [] 0 0
    refine x_aload_n d_PR_printBehind_0 rfl rfl ?_
    refine x_get d_PR_printBehind_1 f_PR_85 (Nat.le_of_ble_eq_true rfl) (Nat.le_of_ble_eq_true rfl) (by first | rfl | assumption) (by rfl) ?_
    refine x_iload_n d_PR_printBehind_4 rfl rfl ?_
    refine x_iald d_PR_printBehind_5 (Nat.le_of_ble_eq_true rfl) (Nat.le_of_ble_eq_true rfl) (by first | rfl | assumption) (vp_in_nI hy (by decide)) ?_
    refine x_topi (nI z) (by rw [nI_clamp (by omega)]; exact h5) ?_
    refine x_istore_n d_PR_printBehind_6 rfl (Nat.le_of_ble_eq_true rfl) ?_
    refine x_aload_n d_PR_printBehind_7 rfl rfl ?_
    refine x_get d_PR_printBehind_8 f_PR_51 (Nat.le_of_ble_eq_true rfl) (Nat.le_of_ble_eq_true rfl) (by first | rfl | assumption) (by rfl) ?_
    refine x_aload_n d_PR_printBehind_11 rfl rfl ?_
    refine x_get d_PR_printBehind_12 f_PR_88 (Nat.le_of_ble_eq_true rfl) (Nat.le_of_ble_eq_true rfl) (by first | rfl | assumption) (by rfl) ?_
    refine x_iload_n d_PR_printBehind_15 rfl rfl ?_
    refine x_iald d_PR_printBehind_16 (Nat.le_of_ble_eq_true rfl) (Nat.le_of_ble_eq_true rfl) (by first | rfl | assumption) (vp_in_nI hy (by decide)) ?_
    refine x_topi (nI o) (by rw [nI_clamp (by omega)]; exact h3) ?_
    refine x_iald d_PR_printBehind_17 (Nat.le_of_ble_eq_true rfl) (Nat.le_of_ble_eq_true rfl) (by first | rfl | assumption) (vp_in_nI ho (by decide)) ?_
    refine x_topi (nI k) (by rw [nI_clamp (by omega)]; exact hk) ?_
    refine x_iconst 4 d_PR_printBehind_18 (by decide) ?_
    refine x_icmp_ne 26 d_PR_printBehind_19 (by decide) (fun z => absurd (show nI k = nI 4 by rw [h4]) z) (fun _ => ?_)
    refine x_iconst 1 d_PR_printBehind_22 (by decide) ?_
    refine x_goto 27 d_PR_printBehind_23 (by decide) ?_
    refine x_istore d_PR_printBehind_27 (Nat.le_of_ble_eq_true rfl) ?_
    refine x_iload_n d_PR_printBehind_29 rfl rfl ?_
    refine x_iconst (-1) d_PR_printBehind_30 (by decide) ?_
    refine x_icmp_ne 53 d_PR_printBehind_31 (by decide) (fun _ => ?_) (fun z => absurd z (g_nIm (by omega)))
    refine x_iload d_PR_printBehind_53 rfl ?_
    refine x_if_eq 67 d_PR_printBehind_55 (by decide) (fun z => absurd z (by decide)) (fun _ => ?_)
    refine x_aload_n d_PR_printBehind_58 rfl rfl ?_
    refine x_aload_n d_PR_printBehind_59 rfl rfl ?_
    refine x_iload_n d_PR_printBehind_60 rfl rfl ?_
    refine x_callV2Y d_PR_printBehind_61 k_PR_91 (Nat.le_of_ble_eq_true rfl) (Nat.le_of_ble_eq_true rfl) (by first | rfl | assumption) (by rfl) hT (Nat.le_of_ble_eq_true rfl) (Nat.le_of_ble_eq_true rfl) (Nat.le_of_ble_eq_true rfl) (Nat.le_of_ble_eq_true rfl) (Nat.le_of_ble_eq_true rfl) rfl ?_
    refine x_goto 78 d_PR_printBehind_64 (by decide) ?_
    exact x_return d_PR_printBehind_78 rfl ⟨rfl, rfl, fun _ _ => rfl, rfl, rfl⟩
  · refine x_Mt.of (by decide) (Nat.le_of_ble_eq_true rfl) ?_
    show x_W E M_PR_printBehind _ _ 52 (g_zw h 20 wc S ne Lv Wt P0) 0 [(0, .ref 15), (1, .ref 5), (2, .int (nI y))] [] 0 0
    refine x_aload_n d_PR_printBehind_0 rfl rfl ?_
    refine x_get d_PR_printBehind_1 f_PR_85 (Nat.le_of_ble_eq_true rfl) (Nat.le_of_ble_eq_true rfl) (by first | rfl | assumption) (by rfl) ?_
    refine x_iload_n d_PR_printBehind_4 rfl rfl ?_
    refine x_iald d_PR_printBehind_5 (Nat.le_of_ble_eq_true rfl) (Nat.le_of_ble_eq_true rfl) (by first | rfl | assumption) (vp_in_nI hy (by decide)) ?_
    refine x_topi (nI z) (by rw [nI_clamp (by omega)]; exact h5) ?_
    refine x_istore_n d_PR_printBehind_6 rfl (Nat.le_of_ble_eq_true rfl) ?_
    refine x_aload_n d_PR_printBehind_7 rfl rfl ?_
    refine x_get d_PR_printBehind_8 f_PR_51 (Nat.le_of_ble_eq_true rfl) (Nat.le_of_ble_eq_true rfl) (by first | rfl | assumption) (by rfl) ?_
    refine x_aload_n d_PR_printBehind_11 rfl rfl ?_
    refine x_get d_PR_printBehind_12 f_PR_88 (Nat.le_of_ble_eq_true rfl) (Nat.le_of_ble_eq_true rfl) (by first | rfl | assumption) (by rfl) ?_
    refine x_iload_n d_PR_printBehind_15 rfl rfl ?_
    refine x_iald d_PR_printBehind_16 (Nat.le_of_ble_eq_true rfl) (Nat.le_of_ble_eq_true rfl) (by first | rfl | assumption) (vp_in_nI hy (by decide)) ?_
    refine x_topi (nI o) (by rw [nI_clamp (by omega)]; exact h3) ?_
    refine x_iald d_PR_printBehind_17 (Nat.le_of_ble_eq_true rfl) (Nat.le_of_ble_eq_true rfl) (by first | rfl | assumption) (vp_in_nI ho (by decide)) ?_
    refine x_topi (nI k) (by rw [nI_clamp (by omega)]; exact hk) ?_
    refine x_iconst 4 d_PR_printBehind_18 (by decide) ?_
    refine x_icmp_ne 26 d_PR_printBehind_19 (by decide) (fun z => absurd (show nI k = nI 4 by rw [h4]) z) (fun _ => ?_)
    refine x_iconst 1 d_PR_printBehind_22 (by decide) ?_
    refine x_goto 27 d_PR_printBehind_23 (by decide) ?_
    refine x_istore d_PR_printBehind_27 (Nat.le_of_ble_eq_true rfl) ?_
    refine x_iload_n d_PR_printBehind_29 rfl rfl ?_
    refine x_iconst (-1) d_PR_printBehind_30 (by decide) ?_
    refine x_icmp_ne 53 d_PR_printBehind_31 (by decide) (fun _ => ?_) (fun z => absurd z (g_nIm (by omega)))
    refine x_iload d_PR_printBehind_53 rfl ?_
    refine x_if_eq 67 d_PR_printBehind_55 (by decide) (fun z => absurd z (by decide)) (fun _ => ?_)
    refine x_aload_n d_PR_printBehind_58 rfl rfl ?_
    refine x_aload_n d_PR_printBehind_59 rfl rfl ?_
    refine x_iload_n d_PR_printBehind_60 rfl rfl ?_
    refine x_callV2Y d_PR_printBehind_61 k_PR_91 (Nat.le_of_ble_eq_true rfl) (Nat.le_of_ble_eq_true rfl) (by first | rfl | assumption) (by rfl) hT (Nat.le_of_ble_eq_true rfl) (Nat.le_of_ble_eq_true rfl) (Nat.le_of_ble_eq_true rfl) (Nat.le_of_ble_eq_true rfl) (Nat.le_of_ble_eq_true rfl) rfl ?_
    refine x_goto 78 d_PR_printBehind_64 (by decide) ?_
    exact x_return d_PR_printBehind_78 rfl ⟨rfl, rfl, fun _ _ => rfl, rfl, rfl⟩
