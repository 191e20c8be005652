theorem d_PR_countLevel_0 : decode M_PR_countLevel.2.1 0 = .ok (.aload_n 1, 1) := by decide +kernel
theorem d_PR_countLevel_1 : decode M_PR_countLevel.2.1 1 = .ok (.getfield 88, 3) := by decide +kernel
theorem d_PR_countLevel_4 : decode M_PR_countLevel.2.1 4 = .ok (.iload_n 2, 1) := by decide +kernel
theorem d_PR_countLevel_5 : decode M_PR_countLevel.2.1 5 = .ok (.iaload, 1) := by decide +kernel
theorem d_PR_countLevel_6 : decode M_PR_countLevel.2.1 6 = .ok (.istore_n 3, 1) := by decide +kernel
theorem d_PR_countLevel_7 : decode M_PR_countLevel.2.1 7 = .ok (.aload_n 1, 1) := by decide +kernel
theorem d_PR_countLevel_8 : decode M_PR_countLevel.2.1 8 = .ok (.getfield 57, 3) := by decide +kernel
theorem d_PR_countLevel_11 : decode M_PR_countLevel.2.1 11 = .ok (.iload_n 2, 1) := by decide +kernel
theorem d_PR_countLevel_12 : decode M_PR_countLevel.2.1 12 = .ok (.iaload, 1) := by decide +kernel
theorem d_PR_countLevel_13 : decode M_PR_countLevel.2.1 13 = .ok (.iconst (-1), 1) := by decide +kernel
theorem d_PR_countLevel_14 : decode M_PR_countLevel.2.1 14 = .ok (.if_icmp .eq 7, 3) := by decide +kernel
theorem d_PR_countLevel_17 : decode M_PR_countLevel.2.1 17 = .ok (.iconst 1, 1) := by decide +kernel
theorem d_PR_countLevel_18 : decode M_PR_countLevel.2.1 18 = .ok (.goto 4, 3) := by decide +kernel
theorem d_PR_countLevel_21 : decode M_PR_countLevel.2.1 21 = .ok (.iconst 0, 1) := by decide +kernel
theorem d_PR_countLevel_22 : decode M_PR_countLevel.2.1 22 = .ok (.istore 4, 2) := by decide +kernel
theorem d_PR_countLevel_24 : decode M_PR_countLevel.2.1 24 = .ok (.aload_n 0, 1) := by decide +kernel
theorem d_PR_countLevel_25 : decode M_PR_countLevel.2.1 25 = .ok (.getfield 9, 3) := by decide +kernel
theorem d_PR_countLevel_28 : decode M_PR_countLevel.2.1 28 = .ok (.iload_n 2, 1) := by decide +kernel
theorem d_PR_countLevel_29 : decode M_PR_countLevel.2.1 29 = .ok (.iload_n 3, 1) := by decide +kernel
theorem d_PR_countLevel_30 : decode M_PR_countLevel.2.1 30 = .ok (.iconst (-1), 1) := by decide +kernel
theorem d_PR_countLevel_31 : decode M_PR_countLevel.2.1 31 = .ok (.if_icmp .ne 7, 3) := by decide +kernel
theorem d_PR_countLevel_34 : decode M_PR_countLevel.2.1 34 = .ok (.iconst 0, 1) := by decide +kernel
theorem d_PR_countLevel_35 : decode M_PR_countLevel.2.1 35 = .ok (.goto 9, 3) := by decide +kernel
theorem d_PR_countLevel_38 : decode M_PR_countLevel.2.1 38 = .ok (.aload_n 0, 1) := by decide +kernel
theorem d_PR_countLevel_39 : decode M_PR_countLevel.2.1 39 = .ok (.getfield 9, 3) := by decide +kernel
theorem d_PR_countLevel_42 : decode M_PR_countLevel.2.1 42 = .ok (.iload_n 3, 1) := by decide +kernel
theorem d_PR_countLevel_43 : decode M_PR_countLevel.2.1 43 = .ok (.iaload, 1) := by decide +kernel
theorem d_PR_countLevel_44 : decode M_PR_countLevel.2.1 44 = .ok (.iload 4, 2) := by decide +kernel
theorem d_PR_countLevel_46 : decode M_PR_countLevel.2.1 46 = .ok (.ifCond .eq 7, 3) := by decide +kernel
theorem d_PR_countLevel_49 : decode M_PR_countLevel.2.1 49 = .ok (.iconst 1, 1) := by decide +kernel
theorem d_PR_countLevel_50 : decode M_PR_countLevel.2.1 50 = .ok (.goto 4, 3) := by decide +kernel
theorem d_PR_countLevel_53 : decode M_PR_countLevel.2.1 53 = .ok (.iconst 0, 1) := by decide +kernel
theorem d_PR_countLevel_54 : decode M_PR_countLevel.2.1 54 = .ok (.iadd, 1) := by decide +kernel
theorem d_PR_countLevel_55 : decode M_PR_countLevel.2.1 55 = .ok (.iastore, 1) := by decide +kernel
theorem d_PR_countLevel_56 : decode M_PR_countLevel.2.1 56 = .ok (.aload_n 0, 1) := by decide +kernel
theorem d_PR_countLevel_57 : decode M_PR_countLevel.2.1 57 = .ok (.aload_n 0, 1) := by decide +kernel
theorem d_PR_countLevel_58 : decode M_PR_countLevel.2.1 58 = .ok (.getfield 26, 3) := by decide +kernel
theorem d_PR_countLevel_61 : decode M_PR_countLevel.2.1 61 = .ok (.aload_n 0, 1) := by decide +kernel
theorem d_PR_countLevel_62 : decode M_PR_countLevel.2.1 62 = .ok (.getfield 9, 3) := by decide +kernel
theorem d_PR_countLevel_65 : decode M_PR_countLevel.2.1 65 = .ok (.iload_n 2, 1) := by decide +kernel
theorem d_PR_countLevel_66 : decode M_PR_countLevel.2.1 66 = .ok (.iaload, 1) := by decide +kernel
theorem d_PR_countLevel_67 : decode M_PR_countLevel.2.1 67 = .ok (.invokestatic 116, 3) := by decide +kernel
theorem d_PR_countLevel_70 : decode M_PR_countLevel.2.1 70 = .ok (.putfield 26, 3) := by decide +kernel
theorem d_PR_countLevel_73 : decode M_PR_countLevel.2.1 73 = .ok (.return_, 1) := by decide +kernel
/-- the level of row y, given its owner's -/
def g_lev (A : Nat → Nat → Int32) (Lv : Nat → Int32) (y : Nat) : Int32 := (if A 3 y = -1 then 0 else Lv (A 3 y).toNatClampNeg) + g_b2 (!decide (A 4 y = -1))
set_option maxRecDepth 20000 in
theorem w_PR_countLevel19 {E : xR} {h : xH} {ln : Int32} {wc ne : Int32} {Lv Wt Pp : Nat → Int32} {A : Nat → Nat → Int32} {sy va rt : Value} {y : Nat} (t5 : h 5 = .inr (3, [.ref 6, .ref 7, .ref 8, .ref 9, .ref 10, .ref 11, .ref 12, .ref 13, .ref 1, sy, va, rt])) (a3 : h 9 = .inl (0, 1001, .inl (A 3))) (a4 : h 10 = .inl (0, 1001, .inl (A 4))) (hy : y < 1001) (ho : A 3 y = -1 ∨ ∃ o, o < 1001 ∧ A 3 y = nI o) : x_Mt E M_PR_countLevel 1 0 0 [.ref 15, .ref 5, .int (nI y)] 52 (g_qw h 19 wc ln ne Lv Wt Pp) (x_Y none 52 (g_qw h 19 wc ln (if ne < g_lev A Lv y then g_lev A Lv y else ne) (upd Lv y (g_lev A Lv y)) Wt Pp)) := by
  have cy : (nI y).toNatClampNeg = y := nI_clamp (by omega)
  refine x_Mt.of (by decide) (Nat.le_of_ble_eq_true rfl) ?_
  have hend : ∀ z : Int32, z = g_lev A Lv y → ∀ x4 : Value, x_W E M_PR_countLevel (x_room 1 0 0) (x_Y none 52 (g_qw h 19 wc ln (if ne < g_lev A Lv y then g_lev A Lv y else ne) (upd Lv y (g_lev A Lv y)) Wt Pp)) 52 (g_qw h 19 wc ln ne Lv Wt Pp) 55 [(0, .ref 15), (1, .ref 5), (2, .int (nI y)), (3, .int (A 3 y)), (4, x4)] [.int z, .int (nI y), .ref 16] 0 0 := by
    intro z hz x4
    subst hz
    refine x_iast d_PR_countLevel_55 (Nat.le_of_ble_eq_true rfl) (Nat.le_of_ble_eq_true rfl) (by first | rfl | assumption) (vp_in_nI hy (by decide)) ?_
    refine x_aload_n d_PR_countLevel_56 rfl rfl ?_
    refine x_aload_n d_PR_countLevel_57 rfl rfl ?_
    refine x_get d_PR_countLevel_58 f_PR_26 (Nat.le_of_ble_eq_true rfl) (Nat.le_of_ble_eq_true rfl) (by first | rfl | assumption) (by rfl) ?_
    refine x_aload_n d_PR_countLevel_61 rfl rfl ?_
    refine x_get d_PR_countLevel_62 f_PR_9 (Nat.le_of_ble_eq_true rfl) (Nat.le_of_ble_eq_true rfl) (by first | rfl | assumption) (by rfl) ?_
    refine x_iload_n d_PR_countLevel_65 rfl rfl ?_
    refine x_iald d_PR_countLevel_66 (Nat.le_of_ble_eq_true rfl) (Nat.le_of_ble_eq_true rfl) (by first | rfl | assumption) (vp_in_nI hy (by decide)) ?_
    refine x_topi (g_lev A Lv y) (by rw [cy, g_updY]) ?_
    refine x_mmax d_PR_countLevel_67 (x_mem 737 (by decide +kernel) (by decide +kernel)) k_PR_116 (Nat.le_of_ble_eq_true rfl) (Nat.le_of_ble_eq_true rfl) (Nat.le_of_ble_eq_true rfl) (Nat.le_of_ble_eq_true rfl) (Nat.le_of_ble_eq_true rfl) ?_
    refine x_put d_PR_countLevel_70 f_PR_26 (Nat.le_of_ble_eq_true rfl) (Nat.le_of_ble_eq_true rfl) (by first | rfl | assumption) (by rfl) (by rfl) (by exact (Nat.le_of_ble_eq_true rfl)) ?_
    exact x_return d_PR_countLevel_73 rfl ⟨rfl, rfl, x_pt rfl rfl rfl rfl rfl rfl rfl rfl rfl rfl rfl rfl rfl rfl rfl rfl (show Sum.inl (0, 1001, Sum.inl (upd _ (nI y).toNatClampNeg _)) = _ by rw [nI_clamp (by omega)]; rfl) rfl rfl rfl rfl rfl rfl rfl rfl rfl rfl rfl rfl rfl rfl rfl rfl rfl rfl rfl rfl rfl rfl rfl rfl rfl rfl rfl rfl rfl rfl rfl rfl rfl rfl rfl, rfl, rfl⟩
  have hmid : ∀ b : Bool, (!decide (A 4 y = -1)) = b → x_W E M_PR_countLevel (x_room 1 0 0) (x_Y none 52 (g_qw h 19 wc ln (if ne < g_lev A Lv y then g_lev A Lv y else ne) (upd Lv y (g_lev A Lv y)) Wt Pp)) 52 (g_qw h 19 wc ln ne Lv Wt Pp) 24 [(0, .ref 15), (1, .ref 5), (2, .int (nI y)), (3, .int (A 3 y)), (4, .int (g_b2 b))] [] 0 0 := by
    intro b hb
    have hin : ¬ A 3 y = -1 → vp_in (A 3 y) 1001 := fun c => by
      rcases ho with z | ⟨o, h1, h2⟩
      · exact absurd z c
      · rw [h2]; exact vp_in_nI h1 (by decide)
    refine x_aload_n d_PR_countLevel_24 rfl rfl ?_
    refine x_get d_PR_countLevel_25 f_PR_9 (Nat.le_of_ble_eq_true rfl) (Nat.le_of_ble_eq_true rfl) (by first | rfl | assumption) (by rfl) ?_
    refine x_iload_n d_PR_countLevel_28 rfl rfl ?_
    refine x_iload_n d_PR_countLevel_29 rfl rfl ?_
    refine x_iconst (-1) d_PR_countLevel_30 (by decide) ?_
    refine x_icmp_ne 38 d_PR_countLevel_31 (by decide) (fun c_31 => ?_) (fun c_31 => ?_)
    · refine x_aload_n d_PR_countLevel_38 rfl rfl ?_
      refine x_get d_PR_countLevel_39 f_PR_9 (Nat.le_of_ble_eq_true rfl) (Nat.le_of_ble_eq_true rfl) (by first | rfl | assumption) (by rfl) ?_
      refine x_iload_n d_PR_countLevel_42 rfl rfl ?_
      refine x_iald d_PR_countLevel_43 (Nat.le_of_ble_eq_true rfl) (Nat.le_of_ble_eq_true rfl) (by first | rfl | assumption) (hin c_31) ?_
      refine x_iload d_PR_countLevel_44 rfl ?_
      refine x_if_eq 53 d_PR_countLevel_46 (by decide) (fun c_46 => ?_) (fun c_46 => ?_)
      · refine x_iconst 0 d_PR_countLevel_53 (by decide) ?_
        refine x_iadd d_PR_countLevel_54 ?_
        exact hend _ (by unfold g_lev; rw [hb, if_neg c_31, g_b2z c_46]; rfl) _
      · refine x_iconst 1 d_PR_countLevel_49 (by decide) ?_
        refine x_goto 54 d_PR_countLevel_50 (by decide) ?_
        refine x_iadd d_PR_countLevel_54 ?_
        exact hend _ (by unfold g_lev; rw [hb, if_neg c_31, g_b2n c_46]; rfl) _
    · refine x_iconst 0 d_PR_countLevel_34 (by decide) ?_
      refine x_goto 44 d_PR_countLevel_35 (by decide) ?_
      refine x_iload d_PR_countLevel_44 rfl ?_
      refine x_if_eq 53 d_PR_countLevel_46 (by decide) (fun c_46 => ?_) (fun c_46 => ?_)
      · refine x_iconst 0 d_PR_countLevel_53 (by decide) ?_
        refine x_iadd d_PR_countLevel_54 ?_
        exact hend _ (by unfold g_lev; rw [hb, if_pos c_31, g_b2z c_46]; rfl) _
      · refine x_iconst 1 d_PR_countLevel_49 (by decide) ?_
        refine x_goto 54 d_PR_countLevel_50 (by decide) ?_
        refine x_iadd d_PR_countLevel_54 ?_
        exact hend _ (by unfold g_lev; rw [hb, if_pos c_31, g_b2n c_46]; rfl) _
  show x_W E M_PR_countLevel _ _ 52 (g_qw h 19 wc ln ne Lv Wt Pp) 0 [(0, .ref 15), (1, .ref 5), (2, .int (nI y))] [] 0 0
  refine x_aload_n d_PR_countLevel_0 rfl rfl ?_
  refine x_get d_PR_countLevel_1 f_PR_88 (Nat.le_of_ble_eq_true rfl) (Nat.le_of_ble_eq_true rfl) (by first | rfl | assumption) (by rfl) ?_
  refine x_iload_n d_PR_countLevel_4 rfl rfl ?_
  refine x_iald d_PR_countLevel_5 (Nat.le_of_ble_eq_true rfl) (Nat.le_of_ble_eq_true rfl) (by first | rfl | assumption) (vp_in_nI hy (by decide)) ?_
  refine x_topi (A 3 y) (by rw [cy]) ?_
  refine x_istore_n d_PR_countLevel_6 rfl (Nat.le_of_ble_eq_true rfl) ?_
  refine x_aload_n d_PR_countLevel_7 rfl rfl ?_
  refine x_get d_PR_countLevel_8 f_PR_57 (Nat.le_of_ble_eq_true rfl) (Nat.le_of_ble_eq_true rfl) (by first | rfl | assumption) (by rfl) ?_
  refine x_iload_n d_PR_countLevel_11 rfl rfl ?_
  refine x_iald d_PR_countLevel_12 (Nat.le_of_ble_eq_true rfl) (Nat.le_of_ble_eq_true rfl) (by first | rfl | assumption) (vp_in_nI hy (by decide)) ?_
  refine x_topi (A 4 y) (by rw [cy]) ?_
  refine x_iconst (-1) d_PR_countLevel_13 (by decide) ?_
  refine x_icmp_eq 21 d_PR_countLevel_14 (by decide) (fun c_14 => ?_) (fun c_14 => ?_)
  · refine x_iconst 0 d_PR_countLevel_21 (by decide) ?_
    refine x_istore d_PR_countLevel_22 (Nat.le_of_ble_eq_true rfl) ?_
    exact hmid false (by rw [decide_eq_true c_14]; rfl)
  · refine x_iconst 1 d_PR_countLevel_17 (by decide) ?_
    refine x_goto 22 d_PR_countLevel_18 (by decide) ?_
    refine x_istore d_PR_countLevel_22 (Nat.le_of_ble_eq_true rfl) ?_
    exact hmid true (by rw [decide_eq_false c_14]; rfl)
set_option maxRecDepth 20000 in
theorem w_PR_countLevel20 {E : xR} {h : xH} {ln : Int32} {wc ne : Int32} {Lv Wt Pp : Nat → Int32} {A : Nat → Nat → Int32} {sy va rt : Value} {y : Nat} (t5 : h 5 = .inr (3, [.ref 6, .ref 7, .ref 8, .ref 9, .ref 10, .ref 11, .ref 12, .ref 13, .ref 1, sy, va, rt])) (a3 : h 9 = .inl (0, 1001, .inl (A 3))) (a4 : h 10 = .inl (0, 1001, .inl (A 4))) (hy : y < 1001) (ho : A 3 y = -1 ∨ ∃ o, o < 1001 ∧ A 3 y = nI o) : x_Mt E M_PR_countLevel 1 0 0 [.ref 15, .ref 5, .int (nI y)] 52 (g_qw h 20 wc ln ne Lv Wt Pp) (x_Y none 52 (g_qw h 20 wc ln (if ne < g_lev A Lv y then g_lev A Lv y else ne) (upd Lv y (g_lev A Lv y)) Wt Pp)) := by
  have cy : (nI y).toNatClampNeg = y := nI_clamp (by omega)
  refine x_Mt.of (by decide) (Nat.le_of_ble_eq_true rfl) ?_
  have hend : ∀ z : Int32, z = g_lev A Lv y → ∀ x4 : Value, x_W E M_PR_countLevel (x_room 1 0 0) (x_Y none 52 (g_qw h 20 wc ln (if ne < g_lev A Lv y then g_lev A Lv y else ne) (upd Lv y (g_lev A Lv y)) Wt Pp)) 52 (g_qw h 20 wc ln ne Lv Wt Pp) 55 [(0, .ref 15), (1, .ref 5), (2, .int (nI y)), (3, .int (A 3 y)), (4, x4)] [.int z, .int (nI y), .ref 16] 0 0 := by
    intro z hz x4
    subst hz
    refine x_iast d_PR_countLevel_55 (Nat.le_of_ble_eq_true rfl) (Nat.le_of_ble_eq_true rfl) (by first | rfl | assumption) (vp_in_nI hy (by decide)) ?_
    refine x_aload_n d_PR_countLevel_56 rfl rfl ?_
    refine x_aload_n d_PR_countLevel_57 rfl rfl ?_
    refine x_get d_PR_countLevel_58 f_PR_26 (Nat.le_of_ble_eq_true rfl) (Nat.le_of_ble_eq_true rfl) (by first | rfl | assumption) (by rfl) ?_
    refine x_aload_n d_PR_countLevel_61 rfl rfl ?_
    refine x_get d_PR_countLevel_62 f_PR_9 (Nat.le_of_ble_eq_true rfl) (Nat.le_of_ble_eq_true rfl) (by first | rfl | assumption) (by rfl) ?_
    refine x_iload_n d_PR_countLevel_65 rfl rfl ?_
    refine x_iald d_PR_countLevel_66 (Nat.le_of_ble_eq_true rfl) (Nat.le_of_ble_eq_true rfl) (by first | rfl | assumption) (vp_in_nI hy (by decide)) ?_
    refine x_topi (g_lev A Lv y) (by rw [cy, g_updY]) ?_
    refine x_mmax d_PR_countLevel_67 (x_mem 737 (by decide +kernel) (by decide +kernel)) k_PR_116 (Nat.le_of_ble_eq_true rfl) (Nat.le_of_ble_eq_true rfl) (Nat.le_of_ble_eq_true rfl) (Nat.le_of_ble_eq_true rfl) (Nat.le_of_ble_eq_true rfl) ?_
    refine x_put d_PR_countLevel_70 f_PR_26 (Nat.le_of_ble_eq_true rfl) (Nat.le_of_ble_eq_true rfl) (by first | rfl | assumption) (by rfl) (by rfl) (by exact (Nat.le_of_ble_eq_true rfl)) ?_
    exact x_return d_PR_countLevel_73 rfl ⟨rfl, rfl, x_pt rfl rfl rfl rfl rfl rfl rfl rfl rfl rfl rfl rfl rfl rfl rfl rfl (show Sum.inl (0, 1001, Sum.inl (upd _ (nI y).toNatClampNeg _)) = _ by rw [nI_clamp (by omega)]; rfl) rfl rfl rfl rfl rfl rfl rfl rfl rfl rfl rfl rfl rfl rfl rfl rfl rfl rfl rfl rfl rfl rfl rfl rfl rfl rfl rfl rfl rfl rfl rfl rfl rfl rfl rfl, rfl, rfl⟩
  have hmid : ∀ b : Bool, (!decide (A 4 y = -1)) = b → x_W E M_PR_countLevel (x_room 1 0 0) (x_Y none 52 (g_qw h 20 wc ln (if ne < g_lev A Lv y then g_lev A Lv y else ne) (upd Lv y (g_lev A Lv y)) Wt Pp)) 52 (g_qw h 20 wc ln ne Lv Wt Pp) 24 [(0, .ref 15), (1, .ref 5), (2, .int (nI y)), (3, .int (A 3 y)), (4, .int (g_b2 b))] [] 0 0 := by
    intro b hb
    have hin : ¬ A 3 y = -1 → vp_in (A 3 y) 1001 := fun c => by
      rcases ho with z | ⟨o, h1, h2⟩
      · exact absurd z c
      · rw [h2]; exact vp_in_nI h1 (by decide)
    refine x_aload_n d_PR_countLevel_24 rfl rfl ?_
    refine x_get d_PR_countLevel_25 f_PR_9 (Nat.le_of_ble_eq_true rfl) (Nat.le_of_ble_eq_true rfl) (by first | rfl | assumption) (by rfl) ?_
    refine x_iload_n d_PR_countLevel_28 rfl rfl ?_
    refine x_iload_n d_PR_countLevel_29 rfl rfl ?_
    refine x_iconst (-1) d_PR_countLevel_30 (by decide) ?_
    refine x_icmp_ne 38 d_PR_countLevel_31 (by decide) (fun c_31 => ?_) (fun c_31 => ?_)
    · refine x_aload_n d_PR_countLevel_38 rfl rfl ?_
      refine x_get d_PR_countLevel_39 f_PR_9 (Nat.le_of_ble_eq_true rfl) (Nat.le_of_ble_eq_true rfl) (by first | rfl | assumption) (by rfl) ?_
      refine x_iload_n d_PR_countLevel_42 rfl rfl ?_
      refine x_iald d_PR_countLevel_43 (Nat.le_of_ble_eq_true rfl) (Nat.le_of_ble_eq_true rfl) (by first | rfl | assumption) (hin c_31) ?_
      refine x_iload d_PR_countLevel_44 rfl ?_
      refine x_if_eq 53 d_PR_countLevel_46 (by decide) (fun c_46 => ?_) (fun c_46 => ?_)
      · refine x_iconst 0 d_PR_countLevel_53 (by decide) ?_
        refine x_iadd d_PR_countLevel_54 ?_
        exact hend _ (by unfold g_lev; rw [hb, if_neg c_31, g_b2z c_46]; rfl) _
      · refine x_iconst 1 d_PR_countLevel_49 (by decide) ?_
        refine x_goto 54 d_PR_countLevel_50 (by decide) ?_
        refine x_iadd d_PR_countLevel_54 ?_
        exact hend _ (by unfold g_lev; rw [hb, if_neg c_31, g_b2n c_46]; rfl) _
    · refine x_iconst 0 d_PR_countLevel_34 (by decide) ?_
      refine x_goto 44 d_PR_countLevel_35 (by decide) ?_
      refine x_iload d_PR_countLevel_44 rfl ?_
      refine x_if_eq 53 d_PR_countLevel_46 (by decide) (fun c_46 => ?_) (fun c_46 => ?_)
      · refine x_iconst 0 d_PR_countLevel_53 (by decide) ?_
        refine x_iadd d_PR_countLevel_54 ?_
        exact hend _ (by unfold g_lev; rw [hb, if_pos c_31, g_b2z c_46]; rfl) _
      · refine x_iconst 1 d_PR_countLevel_49 (by decide) ?_
        refine x_goto 54 d_PR_countLevel_50 (by decide) ?_
        refine x_iadd d_PR_countLevel_54 ?_
        exact hend _ (by unfold g_lev; rw [hb, if_pos c_31, g_b2n c_46]; rfl) _
  show x_W E M_PR_countLevel _ _ 52 (g_qw h 20 wc ln ne Lv Wt Pp) 0 [(0, .ref 15), (1, .ref 5), (2, .int (nI y))] [] 0 0
  refine x_aload_n d_PR_countLevel_0 rfl rfl ?_
  refine x_get d_PR_countLevel_1 f_PR_88 (Nat.le_of_ble_eq_true rfl) (Nat.le_of_ble_eq_true rfl) (by first | rfl | assumption) (by rfl) ?_
  refine x_iload_n d_PR_countLevel_4 rfl rfl ?_
  refine x_iald d_PR_countLevel_5 (Nat.le_of_ble_eq_true rfl) (Nat.le_of_ble_eq_true rfl) (by first | rfl | assumption) (vp_in_nI hy (by decide)) ?_
  refine x_topi (A 3 y) (by rw [cy]) ?_
  refine x_istore_n d_PR_countLevel_6 rfl (Nat.le_of_ble_eq_true rfl) ?_
  refine x_aload_n d_PR_countLevel_7 rfl rfl ?_
  refine x_get d_PR_countLevel_8 f_PR_57 (Nat.le_of_ble_eq_true rfl) (Nat.le_of_ble_eq_true rfl) (by first | rfl | assumption) (by rfl) ?_
  refine x_iload_n d_PR_countLevel_11 rfl rfl ?_
  refine x_iald d_PR_countLevel_12 (Nat.le_of_ble_eq_true rfl) (Nat.le_of_ble_eq_true rfl) (by first | rfl | assumption) (vp_in_nI hy (by decide)) ?_
  refine x_topi (A 4 y) (by rw [cy]) ?_
  refine x_iconst (-1) d_PR_countLevel_13 (by decide) ?_
  refine x_icmp_eq 21 d_PR_countLevel_14 (by decide) (fun c_14 => ?_) (fun c_14 => ?_)
  · refine x_iconst 0 d_PR_countLevel_21 (by decide) ?_
    refine x_istore d_PR_countLevel_22 (Nat.le_of_ble_eq_true rfl) ?_
    exact hmid false (by rw [decide_eq_true c_14]; rfl)
  · refine x_iconst 1 d_PR_countLevel_17 (by decide) ?_
    refine x_goto 22 d_PR_countLevel_18 (by decide) ?_
    refine x_istore d_PR_countLevel_22 (Nat.le_of_ble_eq_true rfl) ?_
    exact hmid true (by rw [decide_eq_false c_14]; rfl)
