theorem d_PR_putNumber_0 : decode M_PR_putNumber.2.1 0 = .ok (.iconst 1, 1) := by decide +kernel
theorem d_PR_putNumber_1 : decode M_PR_putNumber.2.1 1 = .ok (.istore_n 2, 1) := by decide +kernel
theorem d_PR_putNumber_2 : decode M_PR_putNumber.2.1 2 = .ok (.iload_n 2, 1) := by decide +kernel
theorem d_PR_putNumber_3 : decode M_PR_putNumber.2.1 3 = .ok (.sipush 1000, 3) := by decide +kernel
theorem d_PR_putNumber_6 : decode M_PR_putNumber.2.1 6 = .ok (.if_icmp .gt 19, 3) := by decide +kernel
theorem d_PR_putNumber_9 : decode M_PR_putNumber.2.1 9 = .ok (.iload_n 1, 1) := by decide +kernel
theorem d_PR_putNumber_10 : decode M_PR_putNumber.2.1 10 = .ok (.iload_n 2, 1) := by decide +kernel
theorem d_PR_putNumber_11 : decode M_PR_putNumber.2.1 11 = .ok (.idiv, 1) := by decide +kernel
theorem d_PR_putNumber_12 : decode M_PR_putNumber.2.1 12 = .ok (.bipush 10, 2) := by decide +kernel
theorem d_PR_putNumber_14 : decode M_PR_putNumber.2.1 14 = .ok (.if_icmp .lt 11, 3) := by decide +kernel
theorem d_PR_putNumber_17 : decode M_PR_putNumber.2.1 17 = .ok (.iload_n 2, 1) := by decide +kernel
theorem d_PR_putNumber_18 : decode M_PR_putNumber.2.1 18 = .ok (.bipush 10, 2) := by decide +kernel
theorem d_PR_putNumber_20 : decode M_PR_putNumber.2.1 20 = .ok (.imul, 1) := by decide +kernel
theorem d_PR_putNumber_21 : decode M_PR_putNumber.2.1 21 = .ok (.istore_n 2, 1) := by decide +kernel
theorem d_PR_putNumber_22 : decode M_PR_putNumber.2.1 22 = .ok (.goto (-20), 3) := by decide +kernel
theorem d_PR_putNumber_25 : decode M_PR_putNumber.2.1 25 = .ok (.iload_n 2, 1) := by decide +kernel
theorem d_PR_putNumber_26 : decode M_PR_putNumber.2.1 26 = .ok (.istore_n 3, 1) := by decide +kernel
theorem d_PR_putNumber_27 : decode M_PR_putNumber.2.1 27 = .ok (.iload_n 3, 1) := by decide +kernel
theorem d_PR_putNumber_28 : decode M_PR_putNumber.2.1 28 = .ok (.ifCond .le 24, 3) := by decide +kernel
theorem d_PR_putNumber_31 : decode M_PR_putNumber.2.1 31 = .ok (.aload_n 0, 1) := by decide +kernel
theorem d_PR_putNumber_32 : decode M_PR_putNumber.2.1 32 = .ok (.bipush 48, 2) := by decide +kernel
theorem d_PR_putNumber_34 : decode M_PR_putNumber.2.1 34 = .ok (.iload_n 1, 1) := by decide +kernel
theorem d_PR_putNumber_35 : decode M_PR_putNumber.2.1 35 = .ok (.iload_n 3, 1) := by decide +kernel
theorem d_PR_putNumber_36 : decode M_PR_putNumber.2.1 36 = .ok (.idiv, 1) := by decide +kernel
theorem d_PR_putNumber_37 : decode M_PR_putNumber.2.1 37 = .ok (.bipush 10, 2) := by decide +kernel
theorem d_PR_putNumber_39 : decode M_PR_putNumber.2.1 39 = .ok (.irem, 1) := by decide +kernel
theorem d_PR_putNumber_40 : decode M_PR_putNumber.2.1 40 = .ok (.iadd, 1) := by decide +kernel
theorem d_PR_putNumber_41 : decode M_PR_putNumber.2.1 41 = .ok (.invokevirtual 54, 3) := by decide +kernel
theorem d_PR_putNumber_44 : decode M_PR_putNumber.2.1 44 = .ok (.iload_n 3, 1) := by decide +kernel
theorem d_PR_putNumber_45 : decode M_PR_putNumber.2.1 45 = .ok (.bipush 10, 2) := by decide +kernel
theorem d_PR_putNumber_47 : decode M_PR_putNumber.2.1 47 = .ok (.idiv, 1) := by decide +kernel
theorem d_PR_putNumber_48 : decode M_PR_putNumber.2.1 48 = .ok (.istore_n 3, 1) := by decide +kernel
theorem d_PR_putNumber_49 : decode M_PR_putNumber.2.1 49 = .ok (.goto (-22), 3) := by decide +kernel
theorem d_PR_putNumber_52 : decode M_PR_putNumber.2.1 52 = .ok (.return_, 1) := by decide +kernel
set_option maxRecDepth 20000 in
theorem w_PR_putNumber19 {E : xR} {h : xH} {ln : Nat} {wc ne : Int32} {Lv Wt Pp : Nat → Int32} {v : Nat} (hv : v < 1000) (hl : ln < 2 ^ 28) : x_Mt E M_PR_putNumber 1 0 0 [.ref 15, .int (nI v)] 52 (g_qw h 19 wc (nI ln) ne Lv Wt Pp) (x_Y none 52 (g_qw h 19 wc (nI (ln + (g_num v).length)) ne Lv Wt (g_ps Pp ln (g_num v)))) := by
  obtain ⟨q1, q10, q100, e1, e10, e100⟩ := g_nmd v hv
  have hra0 : (19 : Nat) = 19 ∨ (19 : Nat) = 20 := by decide
  · refine x_Mt.of (by decide) (Nat.le_of_ble_eq_true rfl) ?_
    show x_W E M_PR_putNumber _ _ 52 (g_qw h 19 wc (nI ln) ne Lv Wt Pp) 0 [(0, .ref 15), (1, .int (nI v))] [] 0 0
    by_cases h0 : v < 10
    · refine x_iconst 1 d_PR_putNumber_0 (by decide) ?_
      refine x_istore_n d_PR_putNumber_1 rfl (Nat.le_of_ble_eq_true rfl) ?_
      refine x_iload_n d_PR_putNumber_2 rfl rfl ?_
      refine x_sipush 1000 d_PR_putNumber_3 (by decide) ?_
      refine x_icmp_gt 25 d_PR_putNumber_6 (by decide) (fun z => absurd z (by decide)) (fun _ => ?_)
      refine x_iload_n d_PR_putNumber_9 rfl rfl ?_
      refine x_iload_n d_PR_putNumber_10 rfl rfl ?_
      refine x_idiv d_PR_putNumber_11 (by decide) ?_
      refine x_topi (nI v) q1 ?_
      refine x_bipush 10 d_PR_putNumber_12 (by decide) ?_
      refine x_icmp_lt 25 d_PR_putNumber_14 (by decide) (fun _ => ?_) (fun z => absurd (show nI v < nI 10 from nI_lt (by omega) (by decide)) z)
      refine x_iload_n d_PR_putNumber_25 rfl rfl ?_
      refine x_istore_n d_PR_putNumber_26 rfl (Nat.le_of_ble_eq_true rfl) ?_
      refine x_iload_n d_PR_putNumber_27 rfl rfl ?_
      refine x_if_le 52 d_PR_putNumber_28 (by decide) (fun z => absurd z (by decide)) (fun _ => ?_)
      refine x_aload_n d_PR_putNumber_31 rfl rfl ?_
      refine x_bipush 48 d_PR_putNumber_32 (by decide) ?_
      refine x_iload_n d_PR_putNumber_34 rfl rfl ?_
      refine x_iload_n d_PR_putNumber_35 rfl rfl ?_
      refine x_idiv d_PR_putNumber_36 (by decide) ?_
      refine x_topi (nI v) q1 ?_
      refine x_bipush 10 d_PR_putNumber_37 (by decide) ?_
      refine x_irem d_PR_putNumber_39 (by decide) ?_
      refine x_iadd d_PR_putNumber_40 ?_
      refine x_topi (nI (48 + v % 10)) e1 ?_
      refine x_callV1Y d_PR_putNumber_41 k_PR_54 (Nat.le_of_ble_eq_true rfl) (Nat.le_of_ble_eq_true rfl) (by first | rfl | assumption) (by rfl) (w_PR_put hra0 (by omega)) (Nat.le_of_ble_eq_true rfl) (Nat.le_of_ble_eq_true rfl) (Nat.le_of_ble_eq_true rfl) (Nat.le_of_ble_eq_true rfl) (Nat.le_of_ble_eq_true rfl) rfl ?_
      refine x_iload_n d_PR_putNumber_44 rfl rfl ?_
      refine x_bipush 10 d_PR_putNumber_45 (by decide) ?_
      refine x_idiv d_PR_putNumber_47 (by decide) ?_
      refine x_topi 0 (by decide) ?_
      refine x_istore_n d_PR_putNumber_48 rfl (Nat.le_of_ble_eq_true rfl) ?_
      refine x_goto 27 d_PR_putNumber_49 (by decide) ?_
      refine x_iload_n d_PR_putNumber_27 rfl rfl ?_
      refine x_if_le 52 d_PR_putNumber_28 (by decide) (fun _ => ?_) (fun z => absurd (by decide) z)
      exact x_return d_PR_putNumber_52 rfl ⟨rfl, rfl, fun i hi => by rw [(show g_num v = [nI (48 + v % 10)] by unfold g_num; rw [if_pos h0, Nat.mod_eq_of_lt h0])]; rfl, rfl, rfl⟩
    by_cases h1 : v < 100
    · refine x_iconst 1 d_PR_putNumber_0 (by decide) ?_
      refine x_istore_n d_PR_putNumber_1 rfl (Nat.le_of_ble_eq_true rfl) ?_
      refine x_iload_n d_PR_putNumber_2 rfl rfl ?_
      refine x_sipush 1000 d_PR_putNumber_3 (by decide) ?_
      refine x_icmp_gt 25 d_PR_putNumber_6 (by decide) (fun z => absurd z (by decide)) (fun _ => ?_)
      refine x_iload_n d_PR_putNumber_9 rfl rfl ?_
      refine x_iload_n d_PR_putNumber_10 rfl rfl ?_
      refine x_idiv d_PR_putNumber_11 (by decide) ?_
      refine x_topi (nI v) q1 ?_
      refine x_bipush 10 d_PR_putNumber_12 (by decide) ?_
      refine x_icmp_lt 25 d_PR_putNumber_14 (by decide) (fun z => absurd z (show ¬ nI v < nI 10 from nI_nlt (by omega) (by omega))) (fun _ => ?_)
      refine x_iload_n d_PR_putNumber_17 rfl rfl ?_
      refine x_bipush 10 d_PR_putNumber_18 (by decide) ?_
      refine x_imul d_PR_putNumber_20 ?_
      refine x_topi 10 (by decide) ?_
      refine x_istore_n d_PR_putNumber_21 rfl (Nat.le_of_ble_eq_true rfl) ?_
      refine x_goto 2 d_PR_putNumber_22 (by decide) ?_
      refine x_iload_n d_PR_putNumber_2 rfl rfl ?_
      refine x_sipush 1000 d_PR_putNumber_3 (by decide) ?_
      refine x_icmp_gt 25 d_PR_putNumber_6 (by decide) (fun z => absurd z (by decide)) (fun _ => ?_)
      refine x_iload_n d_PR_putNumber_9 rfl rfl ?_
      refine x_iload_n d_PR_putNumber_10 rfl rfl ?_
      refine x_idiv d_PR_putNumber_11 (by decide) ?_
      refine x_topi (nI (v / 10)) q10 ?_
      refine x_bipush 10 d_PR_putNumber_12 (by decide) ?_
      refine x_icmp_lt 25 d_PR_putNumber_14 (by decide) (fun _ => ?_) (fun z => absurd (show nI (v / 10) < nI 10 from nI_lt (by omega) (by decide)) z)
      refine x_iload_n d_PR_putNumber_25 rfl rfl ?_
      refine x_istore_n d_PR_putNumber_26 rfl (Nat.le_of_ble_eq_true rfl) ?_
      refine x_iload_n d_PR_putNumber_27 rfl rfl ?_
      refine x_if_le 52 d_PR_putNumber_28 (by decide) (fun z => absurd z (by decide)) (fun _ => ?_)
      refine x_aload_n d_PR_putNumber_31 rfl rfl ?_
      refine x_bipush 48 d_PR_putNumber_32 (by decide) ?_
      refine x_iload_n d_PR_putNumber_34 rfl rfl ?_
      refine x_iload_n d_PR_putNumber_35 rfl rfl ?_
      refine x_idiv d_PR_putNumber_36 (by decide) ?_
      refine x_topi (nI (v / 10)) q10 ?_
      refine x_bipush 10 d_PR_putNumber_37 (by decide) ?_
      refine x_irem d_PR_putNumber_39 (by decide) ?_
      refine x_iadd d_PR_putNumber_40 ?_
      refine x_topi (nI (48 + v / 10 % 10)) e10 ?_
      refine x_callV1Y d_PR_putNumber_41 k_PR_54 (Nat.le_of_ble_eq_true rfl) (Nat.le_of_ble_eq_true rfl) (by first | rfl | assumption) (by rfl) (w_PR_put hra0 (by omega)) (Nat.le_of_ble_eq_true rfl) (Nat.le_of_ble_eq_true rfl) (Nat.le_of_ble_eq_true rfl) (Nat.le_of_ble_eq_true rfl) (Nat.le_of_ble_eq_true rfl) rfl ?_
      refine x_iload_n d_PR_putNumber_44 rfl rfl ?_
      refine x_bipush 10 d_PR_putNumber_45 (by decide) ?_
      refine x_idiv d_PR_putNumber_47 (by decide) ?_
      refine x_topi 1 (by decide) ?_
      refine x_istore_n d_PR_putNumber_48 rfl (Nat.le_of_ble_eq_true rfl) ?_
      refine x_goto 27 d_PR_putNumber_49 (by decide) ?_
      refine x_iload_n d_PR_putNumber_27 rfl rfl ?_
      refine x_if_le 52 d_PR_putNumber_28 (by decide) (fun z => absurd z (by decide)) (fun _ => ?_)
      refine x_aload_n d_PR_putNumber_31 rfl rfl ?_
      refine x_bipush 48 d_PR_putNumber_32 (by decide) ?_
      refine x_iload_n d_PR_putNumber_34 rfl rfl ?_
      refine x_iload_n d_PR_putNumber_35 rfl rfl ?_
      refine x_idiv d_PR_putNumber_36 (by decide) ?_
      refine x_topi (nI v) q1 ?_
      refine x_bipush 10 d_PR_putNumber_37 (by decide) ?_
      refine x_irem d_PR_putNumber_39 (by decide) ?_
      refine x_iadd d_PR_putNumber_40 ?_
      refine x_topi (nI (48 + v % 10)) e1 ?_
      refine x_callV1Y d_PR_putNumber_41 k_PR_54 (Nat.le_of_ble_eq_true rfl) (Nat.le_of_ble_eq_true rfl) (by first | rfl | assumption) (by rfl) (w_PR_put hra0 (by omega)) (Nat.le_of_ble_eq_true rfl) (Nat.le_of_ble_eq_true rfl) (Nat.le_of_ble_eq_true rfl) (Nat.le_of_ble_eq_true rfl) (Nat.le_of_ble_eq_true rfl) rfl ?_
      refine x_iload_n d_PR_putNumber_44 rfl rfl ?_
      refine x_bipush 10 d_PR_putNumber_45 (by decide) ?_
      refine x_idiv d_PR_putNumber_47 (by decide) ?_
      refine x_topi 0 (by decide) ?_
      refine x_istore_n d_PR_putNumber_48 rfl (Nat.le_of_ble_eq_true rfl) ?_
      refine x_goto 27 d_PR_putNumber_49 (by decide) ?_
      refine x_iload_n d_PR_putNumber_27 rfl rfl ?_
      refine x_if_le 52 d_PR_putNumber_28 (by decide) (fun _ => ?_) (fun z => absurd (by decide) z)
      exact x_return d_PR_putNumber_52 rfl ⟨rfl, rfl, fun i hi => by rw [(show g_num v = [nI (48 + v / 10 % 10), nI (48 + v % 10)] by unfold g_num; rw [if_neg h0, if_pos h1, Nat.mod_eq_of_lt (show v / 10 < 10 by omega)])]; rfl, rfl, rfl⟩
    refine x_iconst 1 d_PR_putNumber_0 (by decide) ?_
    refine x_istore_n d_PR_putNumber_1 rfl (Nat.le_of_ble_eq_true rfl) ?_
    refine x_iload_n d_PR_putNumber_2 rfl rfl ?_
    refine x_sipush 1000 d_PR_putNumber_3 (by decide) ?_
    refine x_icmp_gt 25 d_PR_putNumber_6 (by decide) (fun z => absurd z (by decide)) (fun _ => ?_)
    refine x_iload_n d_PR_putNumber_9 rfl rfl ?_
    refine x_iload_n d_PR_putNumber_10 rfl rfl ?_
    refine x_idiv d_PR_putNumber_11 (by decide) ?_
    refine x_topi (nI v) q1 ?_
    refine x_bipush 10 d_PR_putNumber_12 (by decide) ?_
    refine x_icmp_lt 25 d_PR_putNumber_14 (by decide) (fun z => absurd z (show ¬ nI v < nI 10 from nI_nlt (by omega) (by omega))) (fun _ => ?_)
    refine x_iload_n d_PR_putNumber_17 rfl rfl ?_
    refine x_bipush 10 d_PR_putNumber_18 (by decide) ?_
    refine x_imul d_PR_putNumber_20 ?_
    refine x_topi 10 (by decide) ?_
    refine x_istore_n d_PR_putNumber_21 rfl (Nat.le_of_ble_eq_true rfl) ?_
    refine x_goto 2 d_PR_putNumber_22 (by decide) ?_
    refine x_iload_n d_PR_putNumber_2 rfl rfl ?_
    refine x_sipush 1000 d_PR_putNumber_3 (by decide) ?_
    refine x_icmp_gt 25 d_PR_putNumber_6 (by decide) (fun z => absurd z (by decide)) (fun _ => ?_)
    refine x_iload_n d_PR_putNumber_9 rfl rfl ?_
    refine x_iload_n d_PR_putNumber_10 rfl rfl ?_
    refine x_idiv d_PR_putNumber_11 (by decide) ?_
    refine x_topi (nI (v / 10)) q10 ?_
    refine x_bipush 10 d_PR_putNumber_12 (by decide) ?_
    refine x_icmp_lt 25 d_PR_putNumber_14 (by decide) (fun z => absurd z (show ¬ nI (v / 10) < nI 10 from nI_nlt (by omega) (by omega))) (fun _ => ?_)
    refine x_iload_n d_PR_putNumber_17 rfl rfl ?_
    refine x_bipush 10 d_PR_putNumber_18 (by decide) ?_
    refine x_imul d_PR_putNumber_20 ?_
    refine x_topi 100 (by decide) ?_
    refine x_istore_n d_PR_putNumber_21 rfl (Nat.le_of_ble_eq_true rfl) ?_
    refine x_goto 2 d_PR_putNumber_22 (by decide) ?_
    refine x_iload_n d_PR_putNumber_2 rfl rfl ?_
    refine x_sipush 1000 d_PR_putNumber_3 (by decide) ?_
    refine x_icmp_gt 25 d_PR_putNumber_6 (by decide) (fun z => absurd z (by decide)) (fun _ => ?_)
    refine x_iload_n d_PR_putNumber_9 rfl rfl ?_
    refine x_iload_n d_PR_putNumber_10 rfl rfl ?_
    refine x_idiv d_PR_putNumber_11 (by decide) ?_
    refine x_topi (nI (v / 100)) q100 ?_
    refine x_bipush 10 d_PR_putNumber_12 (by decide) ?_
    refine x_icmp_lt 25 d_PR_putNumber_14 (by decide) (fun _ => ?_) (fun z => absurd (show nI (v / 100) < nI 10 from nI_lt (by omega) (by decide)) z)
    refine x_iload_n d_PR_putNumber_25 rfl rfl ?_
    refine x_istore_n d_PR_putNumber_26 rfl (Nat.le_of_ble_eq_true rfl) ?_
    refine x_iload_n d_PR_putNumber_27 rfl rfl ?_
    refine x_if_le 52 d_PR_putNumber_28 (by decide) (fun z => absurd z (by decide)) (fun _ => ?_)
    refine x_aload_n d_PR_putNumber_31 rfl rfl ?_
    refine x_bipush 48 d_PR_putNumber_32 (by decide) ?_
    refine x_iload_n d_PR_putNumber_34 rfl rfl ?_
    refine x_iload_n d_PR_putNumber_35 rfl rfl ?_
    refine x_idiv d_PR_putNumber_36 (by decide) ?_
    refine x_topi (nI (v / 100)) q100 ?_
    refine x_bipush 10 d_PR_putNumber_37 (by decide) ?_
    refine x_irem d_PR_putNumber_39 (by decide) ?_
    refine x_iadd d_PR_putNumber_40 ?_
    refine x_topi (nI (48 + v / 100 % 10)) e100 ?_
    refine x_callV1Y d_PR_putNumber_41 k_PR_54 (Nat.le_of_ble_eq_true rfl) (Nat.le_of_ble_eq_true rfl) (by first | rfl | assumption) (by rfl) (w_PR_put hra0 (by omega)) (Nat.le_of_ble_eq_true rfl) (Nat.le_of_ble_eq_true rfl) (Nat.le_of_ble_eq_true rfl) (Nat.le_of_ble_eq_true rfl) (Nat.le_of_ble_eq_true rfl) rfl ?_
    refine x_iload_n d_PR_putNumber_44 rfl rfl ?_
    refine x_bipush 10 d_PR_putNumber_45 (by decide) ?_
    refine x_idiv d_PR_putNumber_47 (by decide) ?_
    refine x_topi 10 (by decide) ?_
    refine x_istore_n d_PR_putNumber_48 rfl (Nat.le_of_ble_eq_true rfl) ?_
    refine x_goto 27 d_PR_putNumber_49 (by decide) ?_
    refine x_iload_n d_PR_putNumber_27 rfl rfl ?_
    refine x_if_le 52 d_PR_putNumber_28 (by decide) (fun z => absurd z (by decide)) (fun _ => ?_)
    refine x_aload_n d_PR_putNumber_31 rfl rfl ?_
    refine x_bipush 48 d_PR_putNumber_32 (by decide) ?_
    refine x_iload_n d_PR_putNumber_34 rfl rfl ?_
    refine x_iload_n d_PR_putNumber_35 rfl rfl ?_
    refine x_idiv d_PR_putNumber_36 (by decide) ?_
    refine x_topi (nI (v / 10)) q10 ?_
    refine x_bipush 10 d_PR_putNumber_37 (by decide) ?_
    refine x_irem d_PR_putNumber_39 (by decide) ?_
    refine x_iadd d_PR_putNumber_40 ?_
    refine x_topi (nI (48 + v / 10 % 10)) e10 ?_
    refine x_callV1Y d_PR_putNumber_41 k_PR_54 (Nat.le_of_ble_eq_true rfl) (Nat.le_of_ble_eq_true rfl) (by first | rfl | assumption) (by rfl) (w_PR_put hra0 (by omega)) (Nat.le_of_ble_eq_true rfl) (Nat.le_of_ble_eq_true rfl) (Nat.le_of_ble_eq_true rfl) (Nat.le_of_ble_eq_true rfl) (Nat.le_of_ble_eq_true rfl) rfl ?_
    refine x_iload_n d_PR_putNumber_44 rfl rfl ?_
    refine x_bipush 10 d_PR_putNumber_45 (by decide) ?_
    refine x_idiv d_PR_putNumber_47 (by decide) ?_
    refine x_topi 1 (by decide) ?_
    refine x_istore_n d_PR_putNumber_48 rfl (Nat.le_of_ble_eq_true rfl) ?_
    refine x_goto 27 d_PR_putNumber_49 (by decide) ?_
    refine x_iload_n d_PR_putNumber_27 rfl rfl ?_
    refine x_if_le 52 d_PR_putNumber_28 (by decide) (fun z => absurd z (by decide)) (fun _ => ?_)
    refine x_aload_n d_PR_putNumber_31 rfl rfl ?_
    refine x_bipush 48 d_PR_putNumber_32 (by decide) ?_
    refine x_iload_n d_PR_putNumber_34 rfl rfl ?_
    refine x_iload_n d_PR_putNumber_35 rfl rfl ?_
    refine x_idiv d_PR_putNumber_36 (by decide) ?_
    refine x_topi (nI v) q1 ?_
    refine x_bipush 10 d_PR_putNumber_37 (by decide) ?_
    refine x_irem d_PR_putNumber_39 (by decide) ?_
    refine x_iadd d_PR_putNumber_40 ?_
    refine x_topi (nI (48 + v % 10)) e1 ?_
    refine x_callV1Y d_PR_putNumber_41 k_PR_54 (Nat.le_of_ble_eq_true rfl) (Nat.le_of_ble_eq_true rfl) (by first | rfl | assumption) (by rfl) (w_PR_put hra0 (by omega)) (Nat.le_of_ble_eq_true rfl) (Nat.le_of_ble_eq_true rfl) (Nat.le_of_ble_eq_true rfl) (Nat.le_of_ble_eq_true rfl) (Nat.le_of_ble_eq_true rfl) rfl ?_
    refine x_iload_n d_PR_putNumber_44 rfl rfl ?_
    refine x_bipush 10 d_PR_putNumber_45 (by decide) ?_
    refine x_idiv d_PR_putNumber_47 (by decide) ?_
    refine x_topi 0 (by decide) ?_
    refine x_istore_n d_PR_putNumber_48 rfl (Nat.le_of_ble_eq_true rfl) ?_
    refine x_goto 27 d_PR_putNumber_49 (by decide) ?_
    refine x_iload_n d_PR_putNumber_27 rfl rfl ?_
    refine x_if_le 52 d_PR_putNumber_28 (by decide) (fun _ => ?_) (fun z => absurd (by decide) z)
    exact x_return d_PR_putNumber_52 rfl ⟨rfl, rfl, fun i hi => by rw [(show g_num v = [nI (48 + v / 100 % 10), nI (48 + v / 10 % 10), nI (48 + v % 10)] by unfold g_num; rw [if_neg h0, if_neg h1, Nat.mod_eq_of_lt (show v / 100 < 10 by omega)])]; rfl, rfl, rfl⟩
set_option maxRecDepth 20000 in
theorem w_PR_putNumber20 {E : xR} {h : xH} {ln : Nat} {wc ne : Int32} {Lv Wt Pp : Nat → Int32} {v : Nat} (hv : v < 1000) (hl : ln < 2 ^ 28) : x_Mt E M_PR_putNumber 1 0 0 [.ref 15, .int (nI v)] 52 (g_qw h 20 wc (nI ln) ne Lv Wt Pp) (x_Y none 52 (g_qw h 20 wc (nI (ln + (g_num v).length)) ne Lv Wt (g_ps Pp ln (g_num v)))) := by
  obtain ⟨q1, q10, q100, e1, e10, e100⟩ := g_nmd v hv
  have hra0 : (20 : Nat) = 19 ∨ (20 : Nat) = 20 := by decide
  · refine x_Mt.of (by decide) (Nat.le_of_ble_eq_true rfl) ?_
    show x_W E M_PR_putNumber _ _ 52 (g_qw h 20 wc (nI ln) ne Lv Wt Pp) 0 [(0, .ref 15), (1, .int (nI v))] [] 0 0
    by_cases h0 : v < 10
    · refine x_iconst 1 d_PR_putNumber_0 (by decide) ?_
      refine x_istore_n d_PR_putNumber_1 rfl (Nat.le_of_ble_eq_true rfl) ?_
      refine x_iload_n d_PR_putNumber_2 rfl rfl ?_
      refine x_sipush 1000 d_PR_putNumber_3 (by decide) ?_
      refine x_icmp_gt 25 d_PR_putNumber_6 (by decide) (fun z => absurd z (by decide)) (fun _ => ?_)
      refine x_iload_n d_PR_putNumber_9 rfl rfl ?_
      refine x_iload_n d_PR_putNumber_10 rfl rfl ?_
      refine x_idiv d_PR_putNumber_11 (by decide) ?_
      refine x_topi (nI v) q1 ?_
      refine x_bipush 10 d_PR_putNumber_12 (by decide) ?_
      refine x_icmp_lt 25 d_PR_putNumber_14 (by decide) (fun _ => ?_) (fun z => absurd (show nI v < nI 10 from nI_lt (by omega) (by decide)) z)
      refine x_iload_n d_PR_putNumber_25 rfl rfl ?_
      refine x_istore_n d_PR_putNumber_26 rfl (Nat.le_of_ble_eq_true rfl) ?_
      refine x_iload_n d_PR_putNumber_27 rfl rfl ?_
      refine x_if_le 52 d_PR_putNumber_28 (by decide) (fun z => absurd z (by decide)) (fun _ => ?_)
      refine x_aload_n d_PR_putNumber_31 rfl rfl ?_
      refine x_bipush 48 d_PR_putNumber_32 (by decide) ?_
      refine x_iload_n d_PR_putNumber_34 rfl rfl ?_
      refine x_iload_n d_PR_putNumber_35 rfl rfl ?_
      refine x_idiv d_PR_putNumber_36 (by decide) ?_
      refine x_topi (nI v) q1 ?_
      refine x_bipush 10 d_PR_putNumber_37 (by decide) ?_
      refine x_irem d_PR_putNumber_39 (by decide) ?_
      refine x_iadd d_PR_putNumber_40 ?_
      refine x_topi (nI (48 + v % 10)) e1 ?_
      refine x_callV1Y d_PR_putNumber_41 k_PR_54 (Nat.le_of_ble_eq_true rfl) (Nat.le_of_ble_eq_true rfl) (by first | rfl | assumption) (by rfl) (w_PR_put hra0 (by omega)) (Nat.le_of_ble_eq_true rfl) (Nat.le_of_ble_eq_true rfl) (Nat.le_of_ble_eq_true rfl) (Nat.le_of_ble_eq_true rfl) (Nat.le_of_ble_eq_true rfl) rfl ?_
      refine x_iload_n d_PR_putNumber_44 rfl rfl ?_
      refine x_bipush 10 d_PR_putNumber_45 (by decide) ?_
      refine x_idiv d_PR_putNumber_47 (by decide) ?_
      refine x_topi 0 (by decide) ?_
      refine x_istore_n d_PR_putNumber_48 rfl (Nat.le_of_ble_eq_true rfl) ?_
      refine x_goto 27 d_PR_putNumber_49 (by decide) ?_
      refine x_iload_n d_PR_putNumber_27 rfl rfl ?_
      refine x_if_le 52 d_PR_putNumber_28 (by decide) (fun _ => ?_) (fun z => absurd (by decide) z)
      exact x_return d_PR_putNumber_52 rfl ⟨rfl, rfl, fun i hi => by rw [(show g_num v = [nI (48 + v % 10)] by unfold g_num; rw [if_pos h0, Nat.mod_eq_of_lt h0])]; rfl, rfl, rfl⟩
    by_cases h1 : v < 100
    · refine x_iconst 1 d_PR_putNumber_0 (by decide) ?_
      refine x_istore_n d_PR_putNumber_1 rfl (Nat.le_of_ble_eq_true rfl) ?_
      refine x_iload_n d_PR_putNumber_2 rfl rfl ?_
      refine x_sipush 1000 d_PR_putNumber_3 (by decide) ?_
      refine x_icmp_gt 25 d_PR_putNumber_6 (by decide) (fun z => absurd z (by decide)) (fun _ => ?_)
      refine x_iload_n d_PR_putNumber_9 rfl rfl ?_
      refine x_iload_n d_PR_putNumber_10 rfl rfl ?_
      refine x_idiv d_PR_putNumber_11 (by decide) ?_
      refine x_topi (nI v) q1 ?_
      refine x_bipush 10 d_PR_putNumber_12 (by decide) ?_
      refine x_icmp_lt 25 d_PR_putNumber_14 (by decide) (fun z => absurd z (show ¬ nI v < nI 10 from nI_nlt (by omega) (by omega))) (fun _ => ?_)
      refine x_iload_n d_PR_putNumber_17 rfl rfl ?_
      refine x_bipush 10 d_PR_putNumber_18 (by decide) ?_
      refine x_imul d_PR_putNumber_20 ?_
      refine x_topi 10 (by decide) ?_
      refine x_istore_n d_PR_putNumber_21 rfl (Nat.le_of_ble_eq_true rfl) ?_
      refine x_goto 2 d_PR_putNumber_22 (by decide) ?_
      refine x_iload_n d_PR_putNumber_2 rfl rfl ?_
      refine x_sipush 1000 d_PR_putNumber_3 (by decide) ?_
      refine x_icmp_gt 25 d_PR_putNumber_6 (by decide) (fun z => absurd z (by decide)) (fun _ => ?_)
      refine x_iload_n d_PR_putNumber_9 rfl rfl ?_
      refine x_iload_n d_PR_putNumber_10 rfl rfl ?_
      refine x_idiv d_PR_putNumber_11 (by decide) ?_
      refine x_topi (nI (v / 10)) q10 ?_
      refine x_bipush 10 d_PR_putNumber_12 (by decide) ?_
      refine x_icmp_lt 25 d_PR_putNumber_14 (by decide) (fun _ => ?_) (fun z => absurd (show nI (v / 10) < nI 10 from nI_lt (by omega) (by decide)) z)
      refine x_iload_n d_PR_putNumber_25 rfl rfl ?_
      refine x_istore_n d_PR_putNumber_26 rfl (Nat.le_of_ble_eq_true rfl) ?_
      refine x_iload_n d_PR_putNumber_27 rfl rfl ?_
      refine x_if_le 52 d_PR_putNumber_28 (by decide) (fun z => absurd z (by decide)) (fun _ => ?_)
      refine x_aload_n d_PR_putNumber_31 rfl rfl ?_
      refine x_bipush 48 d_PR_putNumber_32 (by decide) ?_
      refine x_iload_n d_PR_putNumber_34 rfl rfl ?_
      refine x_iload_n d_PR_putNumber_35 rfl rfl ?_
      refine x_idiv d_PR_putNumber_36 (by decide) ?_
      refine x_topi (nI (v / 10)) q10 ?_
      refine x_bipush 10 d_PR_putNumber_37 (by decide) ?_
      refine x_irem d_PR_putNumber_39 (by decide) ?_
      refine x_iadd d_PR_putNumber_40 ?_
      refine x_topi (nI (48 + v / 10 % 10)) e10 ?_
      refine x_callV1Y d_PR_putNumber_41 k_PR_54 (Nat.le_of_ble_eq_true rfl) (Nat.le_of_ble_eq_true rfl) (by first | rfl | assumption) (by rfl) (w_PR_put hra0 (by omega)) (Nat.le_of_ble_eq_true rfl) (Nat.le_of_ble_eq_true rfl) (Nat.le_of_ble_eq_true rfl) (Nat.le_of_ble_eq_true rfl) (Nat.le_of_ble_eq_true rfl) rfl ?_
      refine x_iload_n d_PR_putNumber_44 rfl rfl ?_
      refine x_bipush 10 d_PR_putNumber_45 (by decide) ?_
      refine x_idiv d_PR_putNumber_47 (by decide) ?_
      refine x_topi 1 (by decide) ?_
      refine x_istore_n d_PR_putNumber_48 rfl (Nat.le_of_ble_eq_true rfl) ?_
      refine x_goto 27 d_PR_putNumber_49 (by decide) ?_
      refine x_iload_n d_PR_putNumber_27 rfl rfl ?_
      refine x_if_le 52 d_PR_putNumber_28 (by decide) (fun z => absurd z (by decide)) (fun _ => ?_)
      refine x_aload_n d_PR_putNumber_31 rfl rfl ?_
      refine x_bipush 48 d_PR_putNumber_32 (by decide) ?_
      refine x_iload_n d_PR_putNumber_34 rfl rfl ?_
      refine x_iload_n d_PR_putNumber_35 rfl rfl ?_
      refine x_idiv d_PR_putNumber_36 (by decide) ?_
      refine x_topi (nI v) q1 ?_
      refine x_bipush 10 d_PR_putNumber_37 (by decide) ?_
      refine x_irem d_PR_putNumber_39 (by decide) ?_
      refine x_iadd d_PR_putNumber_40 ?_
      refine x_topi (nI (48 + v % 10)) e1 ?_
      refine x_callV1Y d_PR_putNumber_41 k_PR_54 (Nat.le_of_ble_eq_true rfl) (Nat.le_of_ble_eq_true rfl) (by first | rfl | assumption) (by rfl) (w_PR_put hra0 (by omega)) (Nat.le_of_ble_eq_true rfl) (Nat.le_of_ble_eq_true rfl) (Nat.le_of_ble_eq_true rfl) (Nat.le_of_ble_eq_true rfl) (Nat.le_of_ble_eq_true rfl) rfl ?_
      refine x_iload_n d_PR_putNumber_44 rfl rfl ?_
      refine x_bipush 10 d_PR_putNumber_45 (by decide) ?_
      refine x_idiv d_PR_putNumber_47 (by decide) ?_
      refine x_topi 0 (by decide) ?_
      refine x_istore_n d_PR_putNumber_48 rfl (Nat.le_of_ble_eq_true rfl) ?_
      refine x_goto 27 d_PR_putNumber_49 (by decide) ?_
      refine x_iload_n d_PR_putNumber_27 rfl rfl ?_
      refine x_if_le 52 d_PR_putNumber_28 (by decide) (fun _ => ?_) (fun z => absurd (by decide) z)
      exact x_return d_PR_putNumber_52 rfl ⟨rfl, rfl, fun i hi => by rw [(show g_num v = [nI (48 + v / 10 % 10), nI (48 + v % 10)] by unfold g_num; rw [if_neg h0, if_pos h1, Nat.mod_eq_of_lt (show v / 10 < 10 by omega)])]; rfl, rfl, rfl⟩
    refine x_iconst 1 d_PR_putNumber_0 (by decide) ?_
    refine x_istore_n d_PR_putNumber_1 rfl (Nat.le_of_ble_eq_true rfl) ?_
    refine x_iload_n d_PR_putNumber_2 rfl rfl ?_
    refine x_sipush 1000 d_PR_putNumber_3 (by decide) ?_
    refine x_icmp_gt 25 d_PR_putNumber_6 (by decide) (fun z => absurd z (by decide)) (fun _ => ?_)
    refine x_iload_n d_PR_putNumber_9 rfl rfl ?_
    refine x_iload_n d_PR_putNumber_10 rfl rfl ?_
    refine x_idiv d_PR_putNumber_11 (by decide) ?_
    refine x_topi (nI v) q1 ?_
    refine x_bipush 10 d_PR_putNumber_12 (by decide) ?_
    refine x_icmp_lt 25 d_PR_putNumber_14 (by decide) (fun z => absurd z (show ¬ nI v < nI 10 from nI_nlt (by omega) (by omega))) (fun _ => ?_)
    refine x_iload_n d_PR_putNumber_17 rfl rfl ?_
    refine x_bipush 10 d_PR_putNumber_18 (by decide) ?_
    refine x_imul d_PR_putNumber_20 ?_
    refine x_topi 10 (by decide) ?_
    refine x_istore_n d_PR_putNumber_21 rfl (Nat.le_of_ble_eq_true rfl) ?_
    refine x_goto 2 d_PR_putNumber_22 (by decide) ?_
    refine x_iload_n d_PR_putNumber_2 rfl rfl ?_
    refine x_sipush 1000 d_PR_putNumber_3 (by decide) ?_
    refine x_icmp_gt 25 d_PR_putNumber_6 (by decide) (fun z => absurd z (by decide)) (fun _ => ?_)
    refine x_iload_n d_PR_putNumber_9 rfl rfl ?_
    refine x_iload_n d_PR_putNumber_10 rfl rfl ?_
    refine x_idiv d_PR_putNumber_11 (by decide) ?_
    refine x_topi (nI (v / 10)) q10 ?_
    refine x_bipush 10 d_PR_putNumber_12 (by decide) ?_
    refine x_icmp_lt 25 d_PR_putNumber_14 (by decide) (fun z => absurd z (show ¬ nI (v / 10) < nI 10 from nI_nlt (by omega) (by omega))) (fun _ => ?_)
    refine x_iload_n d_PR_putNumber_17 rfl rfl ?_
    refine x_bipush 10 d_PR_putNumber_18 (by decide) ?_
    refine x_imul d_PR_putNumber_20 ?_
    refine x_topi 100 (by decide) ?_
    refine x_istore_n d_PR_putNumber_21 rfl (Nat.le_of_ble_eq_true rfl) ?_
    refine x_goto 2 d_PR_putNumber_22 (by decide) ?_
    refine x_iload_n d_PR_putNumber_2 rfl rfl ?_
    refine x_sipush 1000 d_PR_putNumber_3 (by decide) ?_
    refine x_icmp_gt 25 d_PR_putNumber_6 (by decide) (fun z => absurd z (by decide)) (fun _ => ?_)
    refine x_iload_n d_PR_putNumber_9 rfl rfl ?_
    refine x_iload_n d_PR_putNumber_10 rfl rfl ?_
    refine x_idiv d_PR_putNumber_11 (by decide) ?_
    refine x_topi (nI (v / 100)) q100 ?_
    refine x_bipush 10 d_PR_putNumber_12 (by decide) ?_
    refine x_icmp_lt 25 d_PR_putNumber_14 (by decide) (fun _ => ?_) (fun z => absurd (show nI (v / 100) < nI 10 from nI_lt (by omega) (by decide)) z)
    refine x_iload_n d_PR_putNumber_25 rfl rfl ?_
    refine x_istore_n d_PR_putNumber_26 rfl (Nat.le_of_ble_eq_true rfl) ?_
    refine x_iload_n d_PR_putNumber_27 rfl rfl ?_
    refine x_if_le 52 d_PR_putNumber_28 (by decide) (fun z => absurd z (by decide)) (fun _ => ?_)
    refine x_aload_n d_PR_putNumber_31 rfl rfl ?_
    refine x_bipush 48 d_PR_putNumber_32 (by decide) ?_
    refine x_iload_n d_PR_putNumber_34 rfl rfl ?_
    refine x_iload_n d_PR_putNumber_35 rfl rfl ?_
    refine x_idiv d_PR_putNumber_36 (by decide) ?_
    refine x_topi (nI (v / 100)) q100 ?_
    refine x_bipush 10 d_PR_putNumber_37 (by decide) ?_
    refine x_irem d_PR_putNumber_39 (by decide) ?_
    refine x_iadd d_PR_putNumber_40 ?_
    refine x_topi (nI (48 + v / 100 % 10)) e100 ?_
    refine x_callV1Y d_PR_putNumber_41 k_PR_54 (Nat.le_of_ble_eq_true rfl) (Nat.le_of_ble_eq_true rfl) (by first | rfl | assumption) (by rfl) (w_PR_put hra0 (by omega)) (Nat.le_of_ble_eq_true rfl) (Nat.le_of_ble_eq_true rfl) (Nat.le_of_ble_eq_true rfl) (Nat.le_of_ble_eq_true rfl) (Nat.le_of_ble_eq_true rfl) rfl ?_
    refine x_iload_n d_PR_putNumber_44 rfl rfl ?_
    refine x_bipush 10 d_PR_putNumber_45 (by decide) ?_
    refine x_idiv d_PR_putNumber_47 (by decide) ?_
    refine x_topi 10 (by decide) ?_
    refine x_istore_n d_PR_putNumber_48 rfl (Nat.le_of_ble_eq_true rfl) ?_
    refine x_goto 27 d_PR_putNumber_49 (by decide) ?_
    refine x_iload_n d_PR_putNumber_27 rfl rfl ?_
    refine x_if_le 52 d_PR_putNumber_28 (by decide) (fun z => absurd z (by decide)) (fun _ => ?_)
    refine x_aload_n d_PR_putNumber_31 rfl rfl ?_
    refine x_bipush 48 d_PR_putNumber_32 (by decide) ?_
    refine x_iload_n d_PR_putNumber_34 rfl rfl ?_
    refine x_iload_n d_PR_putNumber_35 rfl rfl ?_
    refine x_idiv d_PR_putNumber_36 (by decide) ?_
    refine x_topi (nI (v / 10)) q10 ?_
    refine x_bipush 10 d_PR_putNumber_37 (by decide) ?_
    refine x_irem d_PR_putNumber_39 (by decide) ?_
    refine x_iadd d_PR_putNumber_40 ?_
    refine x_topi (nI (48 + v / 10 % 10)) e10 ?_
    refine x_callV1Y d_PR_putNumber_41 k_PR_54 (Nat.le_of_ble_eq_true rfl) (Nat.le_of_ble_eq_true rfl) (by first | rfl | assumption) (by rfl) (w_PR_put hra0 (by omega)) (Nat.le_of_ble_eq_true rfl) (Nat.le_of_ble_eq_true rfl) (Nat.le_of_ble_eq_true rfl) (Nat.le_of_ble_eq_true rfl) (Nat.le_of_ble_eq_true rfl) rfl ?_
    refine x_iload_n d_PR_putNumber_44 rfl rfl ?_
    refine x_bipush 10 d_PR_putNumber_45 (by decide) ?_
    refine x_idiv d_PR_putNumber_47 (by decide) ?_
    refine x_topi 1 (by decide) ?_
    refine x_istore_n d_PR_putNumber_48 rfl (Nat.le_of_ble_eq_true rfl) ?_
    refine x_goto 27 d_PR_putNumber_49 (by decide) ?_
    refine x_iload_n d_PR_putNumber_27 rfl rfl ?_
    refine x_if_le 52 d_PR_putNumber_28 (by decide) (fun z => absurd z (by decide)) (fun _ => ?_)
    refine x_aload_n d_PR_putNumber_31 rfl rfl ?_
    refine x_bipush 48 d_PR_putNumber_32 (by decide) ?_
    refine x_iload_n d_PR_putNumber_34 rfl rfl ?_
    refine x_iload_n d_PR_putNumber_35 rfl rfl ?_
    refine x_idiv d_PR_putNumber_36 (by decide) ?_
    refine x_topi (nI v) q1 ?_
    refine x_bipush 10 d_PR_putNumber_37 (by decide) ?_
    refine x_irem d_PR_putNumber_39 (by decide) ?_
    refine x_iadd d_PR_putNumber_40 ?_
    refine x_topi (nI (48 + v % 10)) e1 ?_
    refine x_callV1Y d_PR_putNumber_41 k_PR_54 (Nat.le_of_ble_eq_true rfl) (Nat.le_of_ble_eq_true rfl) (by first | rfl | assumption) (by rfl) (w_PR_put hra0 (by omega)) (Nat.le_of_ble_eq_true rfl) (Nat.le_of_ble_eq_true rfl) (Nat.le_of_ble_eq_true rfl) (Nat.le_of_ble_eq_true rfl) (Nat.le_of_ble_eq_true rfl) rfl ?_
    refine x_iload_n d_PR_putNumber_44 rfl rfl ?_
    refine x_bipush 10 d_PR_putNumber_45 (by decide) ?_
    refine x_idiv d_PR_putNumber_47 (by decide) ?_
    refine x_topi 0 (by decide) ?_
    refine x_istore_n d_PR_putNumber_48 rfl (Nat.le_of_ble_eq_true rfl) ?_
    refine x_goto 27 d_PR_putNumber_49 (by decide) ?_
    refine x_iload_n d_PR_putNumber_27 rfl rfl ?_
    refine x_if_le 52 d_PR_putNumber_28 (by decide) (fun _ => ?_) (fun z => absurd (by decide) z)
    exact x_return d_PR_putNumber_52 rfl ⟨rfl, rfl, fun i hi => by rw [(show g_num v = [nI (48 + v / 100 % 10), nI (48 + v / 10 % 10), nI (48 + v % 10)] by unfold g_num; rw [if_neg h0, if_neg h1, Nat.mod_eq_of_lt (show v / 100 < 10 by omega)])]; rfl, rfl, rfl⟩
theorem w_PR_putNumber {E : xR} {h : xH} {ra ln : Nat} {wc ne : Int32} {Lv Wt Pp : Nat → Int32} {v : Nat} (hra : ra = 19 ∨ ra = 20) (hv : v < 1000) (hl : ln < 2 ^ 28) : x_Mt E M_PR_putNumber 1 0 0 [.ref 15, .int (nI v)] 52 (g_qw h ra wc (nI ln) ne Lv Wt Pp) (x_Y none 52 (g_qw h ra wc (nI (ln + (g_num v).length)) ne Lv Wt (g_ps Pp ln (g_num v)))) := by
  rcases hra with rfl | rfl
  · exact w_PR_putNumber19 hv hl
  · exact w_PR_putNumber20 hv hl
