/-- the infix operator at the sign: 23: none -/
def g_inf (a : Nat → Int32) (k f t : Nat) : Nat := if k = 9 then 3 else g_nm a k f t false
theorem g_infL {a : Nat → Int32} {k f t : Nat} : g_inf a k f t < 24 := by
  unfold g_inf
  split
  · decide
  · exact g_nmL
theorem d_OP_infixAt_0 : decode M_OP_infixAt.2.1 0 = .ok (.aload_n 0, 1) := by decide +kernel
theorem d_OP_infixAt_1 : decode M_OP_infixAt.2.1 1 = .ok (.getfield 111, 3) := by decide +kernel
theorem d_OP_infixAt_4 : decode M_OP_infixAt.2.1 4 = .ok (.getstatic 117, 3) := by decide +kernel
theorem d_OP_infixAt_7 : decode M_OP_infixAt.2.1 7 = .ok (.if_acmp .ne 9, 3) := by decide +kernel
theorem d_OP_infixAt_10 : decode M_OP_infixAt.2.1 10 = .ok (.getstatic 15, 3) := by decide +kernel
theorem d_OP_infixAt_13 : decode M_OP_infixAt.2.1 13 = .ok (.goto 8, 3) := by decide +kernel
theorem d_OP_infixAt_16 : decode M_OP_infixAt.2.1 16 = .ok (.aload_n 0, 1) := by decide +kernel
theorem d_OP_infixAt_17 : decode M_OP_infixAt.2.1 17 = .ok (.iconst 0, 1) := by decide +kernel
theorem d_OP_infixAt_18 : decode M_OP_infixAt.2.1 18 = .ok (.invokestatic 122, 3) := by decide +kernel
theorem d_OP_infixAt_21 : decode M_OP_infixAt.2.1 21 = .ok (.areturn, 1) := by decide +kernel
set_option maxRecDepth 20000 in
theorem w_OP_infixAt {E : xR} {h : xH} {u : Nat → Nat} {N : Nat} {k f t : Nat} {w2 w4 w7 : Value} (hk : k < 12) (h3 : h 3 = .inr (2, [.ref 1, .int (nI N), w2, .ref (1000000 + k), w4, .int (nI f), .int (nI t), w7])) (h1 : h 1 = .inl (1, 4096, .inl (fun i => g_sb (u i)))) (hu : ∀ i, u i < 256) (hN : N ≤ 4096) (hf : f ≤ t) (ht : t ≤ 4096) : x_Mt E M_OP_infixAt 6 0 0 [.ref 3] 52 h (x_Y (some (.ref (1100000 + g_inf (g_at u N) k f t))) 52 h) := by
  refine x_Mt.of (by decide) (Nat.le_of_ble_eq_true rfl) ?_
  show x_W E M_OP_infixAt _ _ 52 h 0 [(0, .ref 3)] [] 0 0
  refine x_aload_n d_OP_infixAt_0 rfl rfl ?_
  refine x_get d_OP_infixAt_1 f_OP_111 (Nat.le_of_ble_eq_true rfl) (Nat.le_of_ble_eq_true rfl) (by first | rfl | assumption) (by rfl) ?_
  refine x_gSN (i := 9) d_OP_infixAt_4 (by decide) s_OP_117 ?_
  refine x_acmp_ne 16 d_OP_infixAt_7 (by decide) (Or.inl ⟨rfl, rfl⟩) (by first | assumption | decide | omega) (by first | assumption | decide | omega) (fun c_7 => ?_) (fun c_7 => ?_)
  · refine x_aload_n d_OP_infixAt_16 rfl rfl ?_
    refine x_iconst 0 d_OP_infixAt_17 (by decide) ?_
    refine x_callS2Y d_OP_infixAt_18 k_OP_122 (w_OP_named (pf := false) hk (by first | rfl | assumption) (by first | rfl | assumption) hu hN hf ht) (Nat.le_of_ble_eq_true rfl) (Nat.le_of_ble_eq_true rfl) (Nat.le_of_ble_eq_true rfl) (Nat.le_of_ble_eq_true rfl) (Nat.le_of_ble_eq_true rfl) rfl ?_
    exact x_areturn d_OP_infixAt_21 rfl ⟨congrArg (fun z => Sum.inl (some (Value.ref (1100000 + z)))) ((if_neg c_7).symm), rfl, fun _ _ => rfl, rfl, rfl⟩
  · refine x_gOP (i := 3) d_OP_infixAt_10 (by decide) s_OP_15 ?_
    refine x_goto 21 d_OP_infixAt_13 (by decide) ?_
    exact x_areturn d_OP_infixAt_21 rfl ⟨congrArg (fun z => Sum.inl (some (Value.ref (1100000 + z)))) ((if_pos c_7).symm), rfl, fun _ _ => rfl, rfl, rfl⟩
theorem d_OP_prefixAt_0 : decode M_OP_prefixAt.2.1 0 = .ok (.aload_n 0, 1) := by decide +kernel
theorem d_OP_prefixAt_1 : decode M_OP_prefixAt.2.1 1 = .ok (.iconst 1, 1) := by decide +kernel
theorem d_OP_prefixAt_2 : decode M_OP_prefixAt.2.1 2 = .ok (.invokestatic 122, 3) := by decide +kernel
theorem d_OP_prefixAt_5 : decode M_OP_prefixAt.2.1 5 = .ok (.areturn, 1) := by decide +kernel
set_option maxRecDepth 20000 in
theorem w_OP_prefixAt {E : xR} {h : xH} {u : Nat → Nat} {N : Nat} {k f t : Nat} {w2 w4 w7 : Value} (hk : k < 12) (h3 : h 3 = .inr (2, [.ref 1, .int (nI N), w2, .ref (1000000 + k), w4, .int (nI f), .int (nI t), w7])) (h1 : h 1 = .inl (1, 4096, .inl (fun i => g_sb (u i)))) (hu : ∀ i, u i < 256) (hN : N ≤ 4096) (hf : f ≤ t) (ht : t ≤ 4096) : x_Mt E M_OP_prefixAt 6 0 0 [.ref 3] 52 h (x_Y (some (.ref (1100000 + g_nm (g_at u N) k f t true))) 52 h) := by
  refine x_Mt.of (by decide) (Nat.le_of_ble_eq_true rfl) ?_
  show x_W E M_OP_prefixAt _ _ 52 h 0 [(0, .ref 3)] [] 0 0
  refine x_aload_n d_OP_prefixAt_0 rfl rfl ?_
  refine x_iconst 1 d_OP_prefixAt_1 (by decide) ?_
  refine x_callS2Y d_OP_prefixAt_2 k_OP_122 (w_OP_named (pf := true) hk (by first | rfl | assumption) (by first | rfl | assumption) hu hN hf ht) (Nat.le_of_ble_eq_true rfl) (Nat.le_of_ble_eq_true rfl) (Nat.le_of_ble_eq_true rfl) (Nat.le_of_ble_eq_true rfl) (Nat.le_of_ble_eq_true rfl) rfl ?_
  exact x_areturn d_OP_prefixAt_5 rfl ⟨rfl, rfl, fun _ _ => rfl, rfl, rfl⟩
theorem d_SG_opensTerms_0 : decode M_SG_opensTerms.2.1 0 = .ok (.aload_n 0, 1) := by decide +kernel
theorem d_SG_opensTerms_1 : decode M_SG_opensTerms.2.1 1 = .ok (.getfield 21, 3) := by decide +kernel
theorem d_SG_opensTerms_4 : decode M_SG_opensTerms.2.1 4 = .ok (.getstatic 70, 3) := by decide +kernel
theorem d_SG_opensTerms_7 : decode M_SG_opensTerms.2.1 7 = .ok (.if_acmp .ne 20, 3) := by decide +kernel
theorem d_SG_opensTerms_10 : decode M_SG_opensTerms.2.1 10 = .ok (.aload_n 0, 1) := by decide +kernel
theorem d_SG_opensTerms_11 : decode M_SG_opensTerms.2.1 11 = .ok (.aload_n 0, 1) := by decide +kernel
theorem d_SG_opensTerms_12 : decode M_SG_opensTerms.2.1 12 = .ok (.getfield 37, 3) := by decide +kernel
theorem d_SG_opensTerms_15 : decode M_SG_opensTerms.2.1 15 = .ok (.invokevirtual 49, 3) := by decide +kernel
theorem d_SG_opensTerms_18 : decode M_SG_opensTerms.2.1 18 = .ok (.bipush 40, 2) := by decide +kernel
theorem d_SG_opensTerms_20 : decode M_SG_opensTerms.2.1 20 = .ok (.if_icmp .ne 7, 3) := by decide +kernel
theorem d_SG_opensTerms_23 : decode M_SG_opensTerms.2.1 23 = .ok (.iconst 1, 1) := by decide +kernel
theorem d_SG_opensTerms_24 : decode M_SG_opensTerms.2.1 24 = .ok (.goto 4, 3) := by decide +kernel
theorem d_SG_opensTerms_27 : decode M_SG_opensTerms.2.1 27 = .ok (.iconst 0, 1) := by decide +kernel
theorem d_SG_opensTerms_28 : decode M_SG_opensTerms.2.1 28 = .ok (.ireturn, 1) := by decide +kernel
set_option maxRecDepth 20000 in
theorem w_SG_opensTerms {E : xR} {h : xH} {u : Nat → Nat} {N : Nat} {k b : Nat} {w4 w5 w6 w7 : Value} (hk : k < 12) (h3 : h 3 = .inr (2, [.ref 1, .int (nI N), .int (nI b), .ref (1000000 + k), w4, w5, w6, w7])) (h1 : h 1 = .inl (1, 4096, .inl (fun i => g_sb (u i)))) (hu : ∀ i, u i < 256) (hN : N ≤ 4096) (hb : b ≤ 4096) : x_Mt E M_SG_opensTerms 1 0 0 [.ref 3] 52 h (x_Y (some (.int (g_b2 (decide (k = 2) && decide ((g_at u N) b = 40))))) 52 h) := by
  refine x_Mt.of (by decide) (Nat.le_of_ble_eq_true rfl) ?_
  show x_W E M_SG_opensTerms _ _ 52 h 0 [(0, .ref 3)] [] 0 0
  refine x_aload_n d_SG_opensTerms_0 rfl rfl ?_
  refine x_get d_SG_opensTerms_1 f_SG_21 (Nat.le_of_ble_eq_true rfl) (Nat.le_of_ble_eq_true rfl) (by first | rfl | assumption) (by rfl) ?_
  refine x_gSN (i := 2) d_SG_opensTerms_4 (by decide) s_SG_70 ?_
  refine x_acmp_ne 27 d_SG_opensTerms_7 (by decide) (Or.inl ⟨rfl, rfl⟩) (by first | assumption | decide | omega) (by first | assumption | decide | omega) (fun c_7 => ?_) (fun c_7 => ?_)
  · refine x_iconst 0 d_SG_opensTerms_27 (by decide) ?_
    exact x_ireturn d_SG_opensTerms_28 rfl rfl ⟨congrArg (fun z => Sum.inl (some (Value.int z))) (show (0 : Int32) = g_b2 (decide (k = 2) && decide ((g_at u N) b = 40)) by rw [decide_eq_false c_7]; rfl), rfl, fun _ _ => rfl, rfl, rfl⟩
  · refine x_aload_n d_SG_opensTerms_10 rfl rfl ?_
    refine x_aload_n d_SG_opensTerms_11 rfl rfl ?_
    refine x_get d_SG_opensTerms_12 f_SG_37 (Nat.le_of_ble_eq_true rfl) (Nat.le_of_ble_eq_true rfl) (by first | rfl | assumption) (by rfl) ?_
    refine x_callV1Y d_SG_opensTerms_15 k_SG_49 (Nat.le_of_ble_eq_true rfl) (Nat.le_of_ble_eq_true rfl) (by first | rfl | assumption) (by rfl) (w_SG_at (by first | rfl | assumption) (by first | rfl | assumption) hu hN (by omega)) (Nat.le_of_ble_eq_true rfl) (Nat.le_of_ble_eq_true rfl) (Nat.le_of_ble_eq_true rfl) (Nat.le_of_ble_eq_true rfl) (Nat.le_of_ble_eq_true rfl) rfl ?_
    refine x_bipush 40 d_SG_opensTerms_18 (by decide) ?_
    refine x_icmp_ne 27 d_SG_opensTerms_20 (by decide) (fun c_20 => ?_) (fun c_20 => ?_)
    · refine x_iconst 0 d_SG_opensTerms_27 (by decide) ?_
      exact x_ireturn d_SG_opensTerms_28 rfl rfl ⟨congrArg (fun z => Sum.inl (some (Value.int z))) (show (0 : Int32) = g_b2 (decide (k = 2) && decide ((g_at u N) b = 40)) by rw [decide_eq_false c_20, Bool.and_false]; rfl), rfl, fun _ _ => rfl, rfl, rfl⟩
    · refine x_iconst 1 d_SG_opensTerms_23 (by decide) ?_
      refine x_goto 28 d_SG_opensTerms_24 (by decide) ?_
      exact x_ireturn d_SG_opensTerms_28 rfl rfl ⟨congrArg (fun z => Sum.inl (some (Value.int z))) (show (1 : Int32) = g_b2 (decide (k = 2) && decide ((g_at u N) b = 40)) by rw [decide_eq_true c_7, decide_eq_true c_20]; rfl), rfl, fun _ _ => rfl, rfl, rfl⟩
theorem d_SG_isMinusOfInteger_0 : decode M_SG_isMinusOfInteger.2.1 0 = .ok (.aload_n 0, 1) := by decide +kernel
theorem d_SG_isMinusOfInteger_1 : decode M_SG_isMinusOfInteger.2.1 1 = .ok (.getfield 21, 3) := by decide +kernel
theorem d_SG_isMinusOfInteger_4 : decode M_SG_isMinusOfInteger.2.1 4 = .ok (.getstatic 70, 3) := by decide +kernel
theorem d_SG_isMinusOfInteger_7 : decode M_SG_isMinusOfInteger.2.1 7 = .ok (.if_acmp .ne 30, 3) := by decide +kernel
theorem d_SG_isMinusOfInteger_10 : decode M_SG_isMinusOfInteger.2.1 10 = .ok (.aload_n 0, 1) := by decide +kernel
theorem d_SG_isMinusOfInteger_11 : decode M_SG_isMinusOfInteger.2.1 11 = .ok (.aload_n 0, 1) := by decide +kernel
theorem d_SG_isMinusOfInteger_12 : decode M_SG_isMinusOfInteger.2.1 12 = .ok (.getfield 37, 3) := by decide +kernel
theorem d_SG_isMinusOfInteger_15 : decode M_SG_isMinusOfInteger.2.1 15 = .ok (.invokevirtual 49, 3) := by decide +kernel
theorem d_SG_isMinusOfInteger_18 : decode M_SG_isMinusOfInteger.2.1 18 = .ok (.invokestatic 57, 3) := by decide +kernel
theorem d_SG_isMinusOfInteger_21 : decode M_SG_isMinusOfInteger.2.1 21 = .ok (.ifCond .eq 16, 3) := by decide +kernel
theorem d_SG_isMinusOfInteger_24 : decode M_SG_isMinusOfInteger.2.1 24 = .ok (.aload_n 0, 1) := by decide +kernel
theorem d_SG_isMinusOfInteger_25 : decode M_SG_isMinusOfInteger.2.1 25 = .ok (.ldc 120, 2) := by decide +kernel
theorem d_SG_isMinusOfInteger_27 : decode M_SG_isMinusOfInteger.2.1 27 = .ok (.invokevirtual 122, 3) := by decide +kernel
theorem d_SG_isMinusOfInteger_30 : decode M_SG_isMinusOfInteger.2.1 30 = .ok (.ifCond .eq 7, 3) := by decide +kernel
theorem d_SG_isMinusOfInteger_33 : decode M_SG_isMinusOfInteger.2.1 33 = .ok (.iconst 1, 1) := by decide +kernel
theorem d_SG_isMinusOfInteger_34 : decode M_SG_isMinusOfInteger.2.1 34 = .ok (.goto 4, 3) := by decide +kernel
theorem d_SG_isMinusOfInteger_37 : decode M_SG_isMinusOfInteger.2.1 37 = .ok (.iconst 0, 1) := by decide +kernel
theorem d_SG_isMinusOfInteger_38 : decode M_SG_isMinusOfInteger.2.1 38 = .ok (.ireturn, 1) := by decide +kernel
set_option maxRecDepth 20000 in
theorem w_SG_isMinusOfInteger {E : xR} {h : xH} {u : Nat → Nat} {N : Nat} {k b f t : Nat} {w4 w7 : Value} (hk : k < 12) (h3 : h 3 = .inr (2, [.ref 1, .int (nI N), .int (nI b), .ref (1000000 + k), w4, .int (nI f), .int (nI t), w7])) (h1 : h 1 = .inl (1, 4096, .inl (fun i => g_sb (u i)))) (hu : ∀ i, u i < 256) (hN : N ≤ 4096) (hb : b ≤ 4096) (hf : f ≤ t) (ht : t ≤ 4096) : x_Mt E M_SG_isMinusOfInteger 5 0 0 [.ref 3] 52 h (x_Y (some (.int (g_b2 (decide (k = 2) && (g_dig ((g_at u N) b) && g_is (g_at u N) f t [45]))))) 52 h) := by
  refine x_Mt.of (by decide) (Nat.le_of_ble_eq_true rfl) ?_
  show x_W E M_SG_isMinusOfInteger _ _ 52 h 0 [(0, .ref 3)] [] 0 0
  refine x_aload_n d_SG_isMinusOfInteger_0 rfl rfl ?_
  refine x_get d_SG_isMinusOfInteger_1 f_SG_21 (Nat.le_of_ble_eq_true rfl) (Nat.le_of_ble_eq_true rfl) (by first | rfl | assumption) (by rfl) ?_
  refine x_gSN (i := 2) d_SG_isMinusOfInteger_4 (by decide) s_SG_70 ?_
  refine x_acmp_ne 37 d_SG_isMinusOfInteger_7 (by decide) (Or.inl ⟨rfl, rfl⟩) (by first | assumption | decide | omega) (by first | assumption | decide | omega) (fun c_7 => ?_) (fun c_7 => ?_)
  · refine x_iconst 0 d_SG_isMinusOfInteger_37 (by decide) ?_
    exact x_ireturn d_SG_isMinusOfInteger_38 rfl rfl ⟨congrArg (fun z => Sum.inl (some (Value.int z))) (show (0 : Int32) = g_b2 (decide (k = 2) && (g_dig ((g_at u N) b) && g_is (g_at u N) f t [45])) by rw [decide_eq_false c_7]; rfl), rfl, fun _ _ => rfl, rfl, rfl⟩
  · refine x_aload_n d_SG_isMinusOfInteger_10 rfl rfl ?_
    refine x_aload_n d_SG_isMinusOfInteger_11 rfl rfl ?_
    refine x_get d_SG_isMinusOfInteger_12 f_SG_37 (Nat.le_of_ble_eq_true rfl) (Nat.le_of_ble_eq_true rfl) (by first | rfl | assumption) (by rfl) ?_
    refine x_callV1Y d_SG_isMinusOfInteger_15 k_SG_49 (Nat.le_of_ble_eq_true rfl) (Nat.le_of_ble_eq_true rfl) (by first | rfl | assumption) (by rfl) (w_SG_at (by first | rfl | assumption) (by first | rfl | assumption) hu hN (by omega)) (Nat.le_of_ble_eq_true rfl) (Nat.le_of_ble_eq_true rfl) (Nat.le_of_ble_eq_true rfl) (Nat.le_of_ble_eq_true rfl) (Nat.le_of_ble_eq_true rfl) rfl ?_
    refine x_callS1Y d_SG_isMinusOfInteger_18 k_SG_57 w_SG_isDigit (Nat.le_of_ble_eq_true rfl) (Nat.le_of_ble_eq_true rfl) (Nat.le_of_ble_eq_true rfl) (Nat.le_of_ble_eq_true rfl) (Nat.le_of_ble_eq_true rfl) rfl ?_
    refine x_if_eq 37 d_SG_isMinusOfInteger_21 (by decide) (fun c_21 => ?_) (fun c_21 => ?_)
    · refine x_iconst 0 d_SG_isMinusOfInteger_37 (by decide) ?_
      exact x_ireturn d_SG_isMinusOfInteger_38 rfl rfl ⟨congrArg (fun z => Sum.inl (some (Value.int z))) (show (0 : Int32) = g_b2 (decide (k = 2) && (g_dig ((g_at u N) b) && g_is (g_at u N) f t [45])) by rw [g_b2z c_21, Bool.false_and, Bool.and_false]; rfl), rfl, fun _ _ => rfl, rfl, rfl⟩
    · refine x_aload_n d_SG_isMinusOfInteger_24 rfl rfl ?_
      refine x_ldcS (i := 5) d_SG_isMinusOfInteger_25 5 rfl ?_
      refine x_callV1Y d_SG_isMinusOfInteger_27 k_SG_122 (Nat.le_of_ble_eq_true rfl) (Nat.le_of_ble_eq_true rfl) (by first | rfl | assumption) (by rfl) (w_SG_textIs (i := 5) (by decide) (by first | rfl | assumption) (by first | rfl | assumption) hu hN hf ht) (Nat.le_of_ble_eq_true rfl) (Nat.le_of_ble_eq_true rfl) (Nat.le_of_ble_eq_true rfl) (Nat.le_of_ble_eq_true rfl) (Nat.le_of_ble_eq_true rfl) rfl ?_
      refine x_if_eq 37 d_SG_isMinusOfInteger_30 (by decide) (fun c_30 => ?_) (fun c_30 => ?_)
      · refine x_iconst 0 d_SG_isMinusOfInteger_37 (by decide) ?_
        exact x_ireturn d_SG_isMinusOfInteger_38 rfl rfl ⟨congrArg (fun z => Sum.inl (some (Value.int z))) (show (0 : Int32) = g_b2 (decide (k = 2) && (g_dig ((g_at u N) b) && g_is (g_at u N) f t [45])) by rw [show g_is (g_at u N) f t [45] = false from g_b2z c_30, Bool.and_false, Bool.and_false]; rfl), rfl, fun _ _ => rfl, rfl, rfl⟩
      · refine x_iconst 1 d_SG_isMinusOfInteger_33 (by decide) ?_
        refine x_goto 38 d_SG_isMinusOfInteger_34 (by decide) ?_
        exact x_ireturn d_SG_isMinusOfInteger_38 rfl rfl ⟨congrArg (fun z => Sum.inl (some (Value.int z))) (show (1 : Int32) = g_b2 (decide (k = 2) && (g_dig ((g_at u N) b) && g_is (g_at u N) f t [45])) by rw [decide_eq_true c_7, g_b2n c_21, show g_is (g_at u N) f t [45] = true from g_b2n c_30]; rfl), rfl, fun _ _ => rfl, rfl, rfl⟩
def g_can (a : Nat → Int32) (k f t : Nat) : Bool := bif decide (k = 2) then (!decide (g_nm a k f t true = 23) || decide (g_inf a k f t = 23)) else (decide (k = 0) || (decide (k = 1) || (decide (k = 4) || decide (k = 6))))
theorem d_SG_canBeginTerm_0 : decode M_SG_canBeginTerm.2.1 0 = .ok (.aload_n 0, 1) := by decide +kernel
theorem d_SG_canBeginTerm_1 : decode M_SG_canBeginTerm.2.1 1 = .ok (.getfield 21, 3) := by decide +kernel
theorem d_SG_canBeginTerm_4 : decode M_SG_canBeginTerm.2.1 4 = .ok (.getstatic 70, 3) := by decide +kernel
theorem d_SG_canBeginTerm_7 : decode M_SG_canBeginTerm.2.1 7 = .ok (.if_acmp .ne 49, 3) := by decide +kernel
theorem d_SG_canBeginTerm_10 : decode M_SG_canBeginTerm.2.1 10 = .ok (.aload_n 0, 1) := by decide +kernel
theorem d_SG_canBeginTerm_11 : decode M_SG_canBeginTerm.2.1 11 = .ok (.invokestatic 126, 3) := by decide +kernel
theorem d_SG_canBeginTerm_14 : decode M_SG_canBeginTerm.2.1 14 = .ok (.getstatic 132, 3) := by decide +kernel
theorem d_SG_canBeginTerm_17 : decode M_SG_canBeginTerm.2.1 17 = .ok (.if_acmp .eq 7, 3) := by decide +kernel
theorem d_SG_canBeginTerm_20 : decode M_SG_canBeginTerm.2.1 20 = .ok (.iconst 1, 1) := by decide +kernel
theorem d_SG_canBeginTerm_21 : decode M_SG_canBeginTerm.2.1 21 = .ok (.goto 4, 3) := by decide +kernel
theorem d_SG_canBeginTerm_24 : decode M_SG_canBeginTerm.2.1 24 = .ok (.iconst 0, 1) := by decide +kernel
theorem d_SG_canBeginTerm_25 : decode M_SG_canBeginTerm.2.1 25 = .ok (.istore_n 1, 1) := by decide +kernel
theorem d_SG_canBeginTerm_26 : decode M_SG_canBeginTerm.2.1 26 = .ok (.aload_n 0, 1) := by decide +kernel
theorem d_SG_canBeginTerm_27 : decode M_SG_canBeginTerm.2.1 27 = .ok (.invokestatic 136, 3) := by decide +kernel
theorem d_SG_canBeginTerm_30 : decode M_SG_canBeginTerm.2.1 30 = .ok (.getstatic 132, 3) := by decide +kernel
theorem d_SG_canBeginTerm_33 : decode M_SG_canBeginTerm.2.1 33 = .ok (.if_acmp .eq 7, 3) := by decide +kernel
theorem d_SG_canBeginTerm_36 : decode M_SG_canBeginTerm.2.1 36 = .ok (.iconst 1, 1) := by decide +kernel
theorem d_SG_canBeginTerm_37 : decode M_SG_canBeginTerm.2.1 37 = .ok (.goto 4, 3) := by decide +kernel
theorem d_SG_canBeginTerm_40 : decode M_SG_canBeginTerm.2.1 40 = .ok (.iconst 0, 1) := by decide +kernel
theorem d_SG_canBeginTerm_41 : decode M_SG_canBeginTerm.2.1 41 = .ok (.istore_n 2, 1) := by decide +kernel
theorem d_SG_canBeginTerm_42 : decode M_SG_canBeginTerm.2.1 42 = .ok (.iload_n 2, 1) := by decide +kernel
theorem d_SG_canBeginTerm_43 : decode M_SG_canBeginTerm.2.1 43 = .ok (.ifCond .ne 7, 3) := by decide +kernel
theorem d_SG_canBeginTerm_46 : decode M_SG_canBeginTerm.2.1 46 = .ok (.iload_n 1, 1) := by decide +kernel
theorem d_SG_canBeginTerm_47 : decode M_SG_canBeginTerm.2.1 47 = .ok (.ifCond .ne 7, 3) := by decide +kernel
theorem d_SG_canBeginTerm_50 : decode M_SG_canBeginTerm.2.1 50 = .ok (.iconst 1, 1) := by decide +kernel
theorem d_SG_canBeginTerm_51 : decode M_SG_canBeginTerm.2.1 51 = .ok (.goto 4, 3) := by decide +kernel
theorem d_SG_canBeginTerm_54 : decode M_SG_canBeginTerm.2.1 54 = .ok (.iconst 0, 1) := by decide +kernel
theorem d_SG_canBeginTerm_55 : decode M_SG_canBeginTerm.2.1 55 = .ok (.ireturn, 1) := by decide +kernel
theorem d_SG_canBeginTerm_56 : decode M_SG_canBeginTerm.2.1 56 = .ok (.aload_n 0, 1) := by decide +kernel
theorem d_SG_canBeginTerm_57 : decode M_SG_canBeginTerm.2.1 57 = .ok (.getfield 21, 3) := by decide +kernel
theorem d_SG_canBeginTerm_60 : decode M_SG_canBeginTerm.2.1 60 = .ok (.getstatic 80, 3) := by decide +kernel
theorem d_SG_canBeginTerm_63 : decode M_SG_canBeginTerm.2.1 63 = .ok (.if_acmp .eq 33, 3) := by decide +kernel
theorem d_SG_canBeginTerm_66 : decode M_SG_canBeginTerm.2.1 66 = .ok (.aload_n 0, 1) := by decide +kernel
theorem d_SG_canBeginTerm_67 : decode M_SG_canBeginTerm.2.1 67 = .ok (.getfield 21, 3) := by decide +kernel
theorem d_SG_canBeginTerm_70 : decode M_SG_canBeginTerm.2.1 70 = .ok (.getstatic 139, 3) := by decide +kernel
theorem d_SG_canBeginTerm_73 : decode M_SG_canBeginTerm.2.1 73 = .ok (.if_acmp .eq 23, 3) := by decide +kernel
theorem d_SG_canBeginTerm_76 : decode M_SG_canBeginTerm.2.1 76 = .ok (.aload_n 0, 1) := by decide +kernel
theorem d_SG_canBeginTerm_77 : decode M_SG_canBeginTerm.2.1 77 = .ok (.getfield 21, 3) := by decide +kernel
theorem d_SG_canBeginTerm_80 : decode M_SG_canBeginTerm.2.1 80 = .ok (.getstatic 142, 3) := by decide +kernel
theorem d_SG_canBeginTerm_83 : decode M_SG_canBeginTerm.2.1 83 = .ok (.if_acmp .eq 13, 3) := by decide +kernel
theorem d_SG_canBeginTerm_86 : decode M_SG_canBeginTerm.2.1 86 = .ok (.aload_n 0, 1) := by decide +kernel
theorem d_SG_canBeginTerm_87 : decode M_SG_canBeginTerm.2.1 87 = .ok (.getfield 21, 3) := by decide +kernel
theorem d_SG_canBeginTerm_90 : decode M_SG_canBeginTerm.2.1 90 = .ok (.getstatic 145, 3) := by decide +kernel
theorem d_SG_canBeginTerm_93 : decode M_SG_canBeginTerm.2.1 93 = .ok (.if_acmp .ne 7, 3) := by decide +kernel
theorem d_SG_canBeginTerm_96 : decode M_SG_canBeginTerm.2.1 96 = .ok (.iconst 1, 1) := by decide +kernel
theorem d_SG_canBeginTerm_97 : decode M_SG_canBeginTerm.2.1 97 = .ok (.goto 4, 3) := by decide +kernel
theorem d_SG_canBeginTerm_100 : decode M_SG_canBeginTerm.2.1 100 = .ok (.iconst 0, 1) := by decide +kernel
theorem d_SG_canBeginTerm_101 : decode M_SG_canBeginTerm.2.1 101 = .ok (.ireturn, 1) := by decide +kernel
set_option maxRecDepth 20000 in
theorem w_SG_canBeginTerm {E : xR} {h : xH} {u : Nat → Nat} {N : Nat} {k f t : Nat} {w2 w4 w7 : Value} (hk : k < 12) (h3 : h 3 = .inr (2, [.ref 1, .int (nI N), w2, .ref (1000000 + k), w4, .int (nI f), .int (nI t), w7])) (h1 : h 1 = .inl (1, 4096, .inl (fun i => g_sb (u i)))) (hu : ∀ i, u i < 256) (hN : N ≤ 4096) (hf : f ≤ t) (ht : t ≤ 4096) : x_Mt E M_SG_canBeginTerm 7 0 0 [.ref 3] 52 h (x_Y (some (.int (g_b2 (g_can (g_at u N) k f t)))) 52 h) := by
  have hn := g_nmL (a := (g_at u N)) (k := k) (f := f) (t := t) (pf := true)
  have hm := g_infL (a := (g_at u N)) (k := k) (f := f) (t := t)
  refine x_Mt.of (by decide) (Nat.le_of_ble_eq_true rfl) ?_
  show x_W E M_SG_canBeginTerm _ _ 52 h 0 [(0, .ref 3)] [] 0 0
  refine x_aload_n d_SG_canBeginTerm_0 rfl rfl ?_
  refine x_get d_SG_canBeginTerm_1 f_SG_21 (Nat.le_of_ble_eq_true rfl) (Nat.le_of_ble_eq_true rfl) (by first | rfl | assumption) (by rfl) ?_
  refine x_gSN (i := 2) d_SG_canBeginTerm_4 (by decide) s_SG_70 ?_
  refine x_acmp_ne 56 d_SG_canBeginTerm_7 (by decide) (Or.inl ⟨rfl, rfl⟩) (by first | assumption | decide | omega) (by first | assumption | decide | omega) (fun c_7 => ?_) (fun c_7 => ?_)
  · refine x_aload_n d_SG_canBeginTerm_56 rfl rfl ?_
    refine x_get d_SG_canBeginTerm_57 f_SG_21 (Nat.le_of_ble_eq_true rfl) (Nat.le_of_ble_eq_true rfl) (by first | rfl | assumption) (by rfl) ?_
    refine x_gSN (i := 0) d_SG_canBeginTerm_60 (by decide) s_SG_80 ?_
    refine x_acmp_eq 96 d_SG_canBeginTerm_63 (by decide) (Or.inl ⟨rfl, rfl⟩) (by first | assumption | decide | omega) (by first | assumption | decide | omega) (fun c_63 => ?_) (fun c_63 => ?_)
    · refine x_iconst 1 d_SG_canBeginTerm_96 (by decide) ?_
      refine x_goto 101 d_SG_canBeginTerm_97 (by decide) ?_
      exact x_ireturn d_SG_canBeginTerm_101 rfl rfl ⟨congrArg (fun z => Sum.inl (some (Value.int z))) (show (1 : Int32) = g_b2 (g_can (g_at u N) k f t) by simp [g_can, g_b2, c_7, c_63]), rfl, fun _ _ => rfl, rfl, rfl⟩
    · refine x_aload_n d_SG_canBeginTerm_66 rfl rfl ?_
      refine x_get d_SG_canBeginTerm_67 f_SG_21 (Nat.le_of_ble_eq_true rfl) (Nat.le_of_ble_eq_true rfl) (by first | rfl | assumption) (by rfl) ?_
      refine x_gSN (i := 1) d_SG_canBeginTerm_70 (by decide) s_SG_139 ?_
      refine x_acmp_eq 96 d_SG_canBeginTerm_73 (by decide) (Or.inl ⟨rfl, rfl⟩) (by first | assumption | decide | omega) (by first | assumption | decide | omega) (fun c_73 => ?_) (fun c_73 => ?_)
      · refine x_iconst 1 d_SG_canBeginTerm_96 (by decide) ?_
        refine x_goto 101 d_SG_canBeginTerm_97 (by decide) ?_
        exact x_ireturn d_SG_canBeginTerm_101 rfl rfl ⟨congrArg (fun z => Sum.inl (some (Value.int z))) (show (1 : Int32) = g_b2 (g_can (g_at u N) k f t) by simp [g_can, g_b2, c_7, c_73]), rfl, fun _ _ => rfl, rfl, rfl⟩
      · refine x_aload_n d_SG_canBeginTerm_76 rfl rfl ?_
        refine x_get d_SG_canBeginTerm_77 f_SG_21 (Nat.le_of_ble_eq_true rfl) (Nat.le_of_ble_eq_true rfl) (by first | rfl | assumption) (by rfl) ?_
        refine x_gSN (i := 4) d_SG_canBeginTerm_80 (by decide) s_SG_142 ?_
        refine x_acmp_eq 96 d_SG_canBeginTerm_83 (by decide) (Or.inl ⟨rfl, rfl⟩) (by first | assumption | decide | omega) (by first | assumption | decide | omega) (fun c_83 => ?_) (fun c_83 => ?_)
        · refine x_iconst 1 d_SG_canBeginTerm_96 (by decide) ?_
          refine x_goto 101 d_SG_canBeginTerm_97 (by decide) ?_
          exact x_ireturn d_SG_canBeginTerm_101 rfl rfl ⟨congrArg (fun z => Sum.inl (some (Value.int z))) (show (1 : Int32) = g_b2 (g_can (g_at u N) k f t) by simp [g_can, g_b2, c_7, c_83]), rfl, fun _ _ => rfl, rfl, rfl⟩
        · refine x_aload_n d_SG_canBeginTerm_86 rfl rfl ?_
          refine x_get d_SG_canBeginTerm_87 f_SG_21 (Nat.le_of_ble_eq_true rfl) (Nat.le_of_ble_eq_true rfl) (by first | rfl | assumption) (by rfl) ?_
          refine x_gSN (i := 6) d_SG_canBeginTerm_90 (by decide) s_SG_145 ?_
          refine x_acmp_ne 100 d_SG_canBeginTerm_93 (by decide) (Or.inl ⟨rfl, rfl⟩) (by first | assumption | decide | omega) (by first | assumption | decide | omega) (fun c_93 => ?_) (fun c_93 => ?_)
          · refine x_iconst 0 d_SG_canBeginTerm_100 (by decide) ?_
            exact x_ireturn d_SG_canBeginTerm_101 rfl rfl ⟨congrArg (fun z => Sum.inl (some (Value.int z))) (show (0 : Int32) = g_b2 (g_can (g_at u N) k f t) by simp [g_can, g_b2, c_7, c_63, c_73, c_83, c_93]), rfl, fun _ _ => rfl, rfl, rfl⟩
          · refine x_iconst 1 d_SG_canBeginTerm_96 (by decide) ?_
            refine x_goto 101 d_SG_canBeginTerm_97 (by decide) ?_
            exact x_ireturn d_SG_canBeginTerm_101 rfl rfl ⟨congrArg (fun z => Sum.inl (some (Value.int z))) (show (1 : Int32) = g_b2 (g_can (g_at u N) k f t) by simp [g_can, g_b2, c_7, c_93]), rfl, fun _ _ => rfl, rfl, rfl⟩
  · refine x_aload_n d_SG_canBeginTerm_10 rfl rfl ?_
    refine x_callS1Y d_SG_canBeginTerm_11 k_SG_126 (w_OP_infixAt hk (by first | rfl | assumption) (by first | rfl | assumption) hu hN hf ht) (Nat.le_of_ble_eq_true rfl) (Nat.le_of_ble_eq_true rfl) (Nat.le_of_ble_eq_true rfl) (Nat.le_of_ble_eq_true rfl) (Nat.le_of_ble_eq_true rfl) rfl ?_
    refine x_gOP (i := 23) d_SG_canBeginTerm_14 (by decide) s_SG_132 ?_
    refine x_acmp_eq 24 d_SG_canBeginTerm_17 (by decide) (Or.inr ⟨rfl, rfl⟩) (by first | assumption | decide | omega) (by first | assumption | decide | omega) (fun c_17 => ?_) (fun c_17 => ?_)
    · refine x_iconst 0 d_SG_canBeginTerm_24 (by decide) ?_
      refine x_istore_n d_SG_canBeginTerm_25 rfl (Nat.le_of_ble_eq_true rfl) ?_
      refine x_aload_n d_SG_canBeginTerm_26 rfl rfl ?_
      refine x_callS1Y d_SG_canBeginTerm_27 k_SG_136 (w_OP_prefixAt hk (by first | rfl | assumption) (by first | rfl | assumption) hu hN hf ht) (Nat.le_of_ble_eq_true rfl) (Nat.le_of_ble_eq_true rfl) (Nat.le_of_ble_eq_true rfl) (Nat.le_of_ble_eq_true rfl) (Nat.le_of_ble_eq_true rfl) rfl ?_
      refine x_gOP (i := 23) d_SG_canBeginTerm_30 (by decide) s_SG_132 ?_
      refine x_acmp_eq 40 d_SG_canBeginTerm_33 (by decide) (Or.inr ⟨rfl, rfl⟩) (by first | assumption | decide | omega) (by first | assumption | decide | omega) (fun c_33 => ?_) (fun c_33 => ?_)
      · refine x_iconst 0 d_SG_canBeginTerm_40 (by decide) ?_
        refine x_istore_n d_SG_canBeginTerm_41 rfl (Nat.le_of_ble_eq_true rfl) ?_
        refine x_iload_n d_SG_canBeginTerm_42 rfl rfl ?_
        refine x_if_ne 50 d_SG_canBeginTerm_43 (by decide) (fun z => absurd (show (0 : Int32) = 0 from rfl) z) (fun _ => ?_)
        refine x_iload_n d_SG_canBeginTerm_46 rfl rfl ?_
        refine x_if_ne 54 d_SG_canBeginTerm_47 (by decide) (fun z => absurd (show (0 : Int32) = 0 from rfl) z) (fun _ => ?_)
        refine x_iconst 1 d_SG_canBeginTerm_50 (by decide) ?_
        refine x_goto 55 d_SG_canBeginTerm_51 (by decide) ?_
        exact x_ireturn d_SG_canBeginTerm_55 rfl rfl ⟨congrArg (fun z => Sum.inl (some (Value.int z))) (show (1 : Int32) = g_b2 (g_can (g_at u N) k f t) by unfold g_can; rw [decide_eq_true c_7]; simp [g_b2, c_17]), rfl, fun _ _ => rfl, rfl, rfl⟩
      · refine x_iconst 1 d_SG_canBeginTerm_36 (by decide) ?_
        refine x_goto 41 d_SG_canBeginTerm_37 (by decide) ?_
        refine x_istore_n d_SG_canBeginTerm_41 rfl (Nat.le_of_ble_eq_true rfl) ?_
        refine x_iload_n d_SG_canBeginTerm_42 rfl rfl ?_
        refine x_if_ne 50 d_SG_canBeginTerm_43 (by decide) (fun _ => ?_) (fun z => absurd z (show ¬ (1 : Int32) = 0 by decide))
        refine x_iconst 1 d_SG_canBeginTerm_50 (by decide) ?_
        refine x_goto 55 d_SG_canBeginTerm_51 (by decide) ?_
        exact x_ireturn d_SG_canBeginTerm_55 rfl rfl ⟨congrArg (fun z => Sum.inl (some (Value.int z))) (show (1 : Int32) = g_b2 (g_can (g_at u N) k f t) by unfold g_can; rw [decide_eq_true c_7]; simp [g_b2, c_17]), rfl, fun _ _ => rfl, rfl, rfl⟩
    · refine x_iconst 1 d_SG_canBeginTerm_20 (by decide) ?_
      refine x_goto 25 d_SG_canBeginTerm_21 (by decide) ?_
      refine x_istore_n d_SG_canBeginTerm_25 rfl (Nat.le_of_ble_eq_true rfl) ?_
      refine x_aload_n d_SG_canBeginTerm_26 rfl rfl ?_
      refine x_callS1Y d_SG_canBeginTerm_27 k_SG_136 (w_OP_prefixAt hk (by first | rfl | assumption) (by first | rfl | assumption) hu hN hf ht) (Nat.le_of_ble_eq_true rfl) (Nat.le_of_ble_eq_true rfl) (Nat.le_of_ble_eq_true rfl) (Nat.le_of_ble_eq_true rfl) (Nat.le_of_ble_eq_true rfl) rfl ?_
      refine x_gOP (i := 23) d_SG_canBeginTerm_30 (by decide) s_SG_132 ?_
      refine x_acmp_eq 40 d_SG_canBeginTerm_33 (by decide) (Or.inr ⟨rfl, rfl⟩) (by first | assumption | decide | omega) (by first | assumption | decide | omega) (fun c_33 => ?_) (fun c_33 => ?_)
      · refine x_iconst 0 d_SG_canBeginTerm_40 (by decide) ?_
        refine x_istore_n d_SG_canBeginTerm_41 rfl (Nat.le_of_ble_eq_true rfl) ?_
        refine x_iload_n d_SG_canBeginTerm_42 rfl rfl ?_
        refine x_if_ne 50 d_SG_canBeginTerm_43 (by decide) (fun z => absurd (show (0 : Int32) = 0 from rfl) z) (fun _ => ?_)
        refine x_iload_n d_SG_canBeginTerm_46 rfl rfl ?_
        refine x_if_ne 54 d_SG_canBeginTerm_47 (by decide) (fun _ => ?_) (fun z => absurd z (show ¬ (1 : Int32) = 0 by decide))
        refine x_iconst 0 d_SG_canBeginTerm_54 (by decide) ?_
        exact x_ireturn d_SG_canBeginTerm_55 rfl rfl ⟨congrArg (fun z => Sum.inl (some (Value.int z))) (show (0 : Int32) = g_b2 (g_can (g_at u N) k f t) by unfold g_can; rw [decide_eq_true c_7]; simp [g_b2, c_17, c_33]), rfl, fun _ _ => rfl, rfl, rfl⟩
      · refine x_iconst 1 d_SG_canBeginTerm_36 (by decide) ?_
        refine x_goto 41 d_SG_canBeginTerm_37 (by decide) ?_
        refine x_istore_n d_SG_canBeginTerm_41 rfl (Nat.le_of_ble_eq_true rfl) ?_
        refine x_iload_n d_SG_canBeginTerm_42 rfl rfl ?_
        refine x_if_ne 50 d_SG_canBeginTerm_43 (by decide) (fun _ => ?_) (fun z => absurd z (show ¬ (1 : Int32) = 0 by decide))
        refine x_iconst 1 d_SG_canBeginTerm_50 (by decide) ?_
        refine x_goto 55 d_SG_canBeginTerm_51 (by decide) ?_
        exact x_ireturn d_SG_canBeginTerm_55 rfl rfl ⟨congrArg (fun z => Sum.inl (some (Value.int z))) (show (1 : Int32) = g_b2 (g_can (g_at u N) k f t) by unfold g_can; rw [decide_eq_true c_7]; simp [g_b2, c_33]), rfl, fun _ _ => rfl, rfl, rfl⟩

theorem d_SG_start_0 : decode M_SG_start.2.1 0 = .ok (.aload_n 0, 1) := by decide +kernel
theorem d_SG_start_1 : decode M_SG_start.2.1 1 = .ok (.aload_n 1, 1) := by decide +kernel
theorem d_SG_start_2 : decode M_SG_start.2.1 2 = .ok (.putfield 9, 3) := by decide +kernel
theorem d_SG_start_5 : decode M_SG_start.2.1 5 = .ok (.aload_n 0, 1) := by decide +kernel
theorem d_SG_start_6 : decode M_SG_start.2.1 6 = .ok (.iload_n 2, 1) := by decide +kernel
theorem d_SG_start_7 : decode M_SG_start.2.1 7 = .ok (.aload_n 1, 1) := by decide +kernel
theorem d_SG_start_8 : decode M_SG_start.2.1 8 = .ok (.arraylength, 1) := by decide +kernel
theorem d_SG_start_9 : decode M_SG_start.2.1 9 = .ok (.invokestatic 28, 3) := by decide +kernel
theorem d_SG_start_12 : decode M_SG_start.2.1 12 = .ok (.putfield 34, 3) := by decide +kernel
theorem d_SG_start_15 : decode M_SG_start.2.1 15 = .ok (.aload_n 0, 1) := by decide +kernel
theorem d_SG_start_16 : decode M_SG_start.2.1 16 = .ok (.iconst 0, 1) := by decide +kernel
theorem d_SG_start_17 : decode M_SG_start.2.1 17 = .ok (.putfield 37, 3) := by decide +kernel
theorem d_SG_start_20 : decode M_SG_start.2.1 20 = .ok (.aload_n 0, 1) := by decide +kernel
theorem d_SG_start_21 : decode M_SG_start.2.1 21 = .ok (.iconst (-1), 1) := by decide +kernel
theorem d_SG_start_22 : decode M_SG_start.2.1 22 = .ok (.putfield 24, 3) := by decide +kernel
theorem d_SG_start_25 : decode M_SG_start.2.1 25 = .ok (.aload_n 0, 1) := by decide +kernel
theorem d_SG_start_26 : decode M_SG_start.2.1 26 = .ok (.invokevirtual 40, 3) := by decide +kernel
theorem d_SG_start_29 : decode M_SG_start.2.1 29 = .ok (.return_, 1) := by decide +kernel
set_option maxRecDepth 20000 in
theorem w_SG_start {E : xR} {h : xH} {u : Nat → Nat} {N : Nat} {p k f t b : Nat} {w0 w1 w2 w3 w4 w5 w6 w7 : Value} (h3 : h 3 = .inr (2, [w0, w1, w2, w3, w4, w5, w6, w7])) (h1 : h 1 = .inl (1, 4096, .inl (fun i => g_sb (u i)))) (hu : ∀ i, u i < 256) (hN : N ≤ 4096) (hp : g_pl (g_at u N) N 0 = p) (htk : g_tk (g_at u N) N p = (k, f, t, b)) : x_Mt E M_SG_start 9 1 6 [.ref 3, .ref 1, .int (nI N)] 52 h (x_YX (!decide (k = 12)) none (x_up h 3 (.inr (2, [.ref 1, .int (nI N), .int (nI b), .ref (1000000 + g_sg k), .int (nI p), .int (nI f), .int (nI t), .int (-1)]))) 2 (x_up h 3 (.inr (2, [.ref 1, .int (nI N), .int (nI p), w3, .int (nI p), w5, w6, .int (nI p)])))) := by
  refine x_Mt.of (by decide) (Nat.le_of_ble_eq_true rfl) ?_
  show x_W E M_SG_start _ _ 52 h 0 [(0, .ref 3), (1, .ref 1), (2, .int (nI N))] [] 0 0
  refine x_aload_n d_SG_start_0 rfl rfl ?_
  refine x_aload_n d_SG_start_1 rfl rfl ?_
  refine x_put d_SG_start_2 f_SG_9 (Nat.le_of_ble_eq_true rfl) (Nat.le_of_ble_eq_true rfl) (by first | rfl | assumption) (by rfl) (by rfl) (by exact (Nat.le_of_ble_eq_true rfl)) ?_
  refine x_aload_n d_SG_start_5 rfl rfl ?_
  refine x_iload_n d_SG_start_6 rfl rfl ?_
  refine x_aload_n d_SG_start_7 rfl rfl ?_
  refine x_alen d_SG_start_8 (Nat.le_of_ble_eq_true rfl) (Nat.le_of_ble_eq_true rfl) (by first | rfl | assumption) (by rfl) ?_
  refine x_mmin d_SG_start_9 (x_mem 392 (by decide +kernel) (by decide +kernel)) k_SG_28 (Nat.le_of_ble_eq_true rfl) (Nat.le_of_ble_eq_true rfl) (Nat.le_of_ble_eq_true rfl) (Nat.le_of_ble_eq_true rfl) (Nat.le_of_ble_eq_true rfl) ?_
  refine x_topi (nI N) (if_neg (show ¬ nI 4096 < nI N from nI_nlt hN (by decide))) ?_
  refine x_put d_SG_start_12 f_SG_34 (Nat.le_of_ble_eq_true rfl) (Nat.le_of_ble_eq_true rfl) (by first | rfl | assumption) (by rfl) (by rfl) (by exact (Nat.le_of_ble_eq_true rfl)) ?_
  refine x_aload_n d_SG_start_15 rfl rfl ?_
  refine x_iconst 0 d_SG_start_16 (by decide) ?_
  refine x_put d_SG_start_17 f_SG_37 (Nat.le_of_ble_eq_true rfl) (Nat.le_of_ble_eq_true rfl) (by first | rfl | assumption) (by rfl) (by rfl) (by exact (Nat.le_of_ble_eq_true rfl)) ?_
  refine x_aload_n d_SG_start_20 rfl rfl ?_
  refine x_iconst (-1) d_SG_start_21 (by decide) ?_
  refine x_put d_SG_start_22 f_SG_24 (Nat.le_of_ble_eq_true rfl) (Nat.le_of_ble_eq_true rfl) (by first | rfl | assumption) (by rfl) (by rfl) (by exact (Nat.le_of_ble_eq_true rfl)) ?_
  refine x_aload_n d_SG_start_25 rfl rfl ?_
  refine x_callV0B d_SG_start_26 k_SG_40 (Nat.le_of_ble_eq_true rfl) (Nat.le_of_ble_eq_true rfl) (by first | rfl | assumption) (by rfl) (w_SG_advance (i := 0) rfl (by first | rfl | assumption) hu hN (Nat.zero_le _) hp htk) (Nat.le_of_ble_eq_true rfl) (Nat.le_of_ble_eq_true rfl) (Nat.le_of_ble_eq_true rfl) (Nat.le_of_ble_eq_true rfl) (Nat.le_of_ble_eq_true rfl) rfl (fun hb => ?_) (fun hb h2 e2 => x_YX0 hb (fun i z => (e2 i z).trans (by simp only [x_upup])))
  exact x_return d_SG_start_29 rfl (x_YX1 hb (fun i z => by simp only [x_upup]))
