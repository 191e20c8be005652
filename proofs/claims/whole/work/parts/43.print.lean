/-- a name that needs no quotes -/
def g_pn (u : Nat → Nat) (f t : Nat) : Bool := bif decide (t - f = 0) then false else bif decide (t - f = 1) && (decide (g_sb (u f) = 33) || decide (g_sb (u f) = 59)) then true else bif decide (t - f = 2) && decide (g_sb (u f) = 91) then decide (g_sb (u (f + 1)) = 93) else !(decide (t - f = 1) && decide (g_sb (u f) = 46)) && g_wo u (g_small (g_sb (u f))) (t - f) f
theorem d_PR_isPlainName_0 : decode M_PR_isPlainName.2.1 0 = .ok (.iload_n 3, 1) := by decide +kernel
theorem d_PR_isPlainName_1 : decode M_PR_isPlainName.2.1 1 = .ok (.iload_n 2, 1) := by decide +kernel
theorem d_PR_isPlainName_2 : decode M_PR_isPlainName.2.1 2 = .ok (.isub, 1) := by decide +kernel
theorem d_PR_isPlainName_3 : decode M_PR_isPlainName.2.1 3 = .ok (.istore 4, 2) := by decide +kernel
theorem d_PR_isPlainName_5 : decode M_PR_isPlainName.2.1 5 = .ok (.iload 4, 2) := by decide +kernel
theorem d_PR_isPlainName_7 : decode M_PR_isPlainName.2.1 7 = .ok (.ifCond .ne 5, 3) := by decide +kernel
theorem d_PR_isPlainName_10 : decode M_PR_isPlainName.2.1 10 = .ok (.iconst 0, 1) := by decide +kernel
theorem d_PR_isPlainName_11 : decode M_PR_isPlainName.2.1 11 = .ok (.ireturn, 1) := by decide +kernel
theorem d_PR_isPlainName_12 : decode M_PR_isPlainName.2.1 12 = .ok (.aload_n 1, 1) := by decide +kernel
theorem d_PR_isPlainName_13 : decode M_PR_isPlainName.2.1 13 = .ok (.iload_n 2, 1) := by decide +kernel
theorem d_PR_isPlainName_14 : decode M_PR_isPlainName.2.1 14 = .ok (.baload, 1) := by decide +kernel
theorem d_PR_isPlainName_15 : decode M_PR_isPlainName.2.1 15 = .ok (.istore 5, 2) := by decide +kernel
theorem d_PR_isPlainName_17 : decode M_PR_isPlainName.2.1 17 = .ok (.iload 4, 2) := by decide +kernel
theorem d_PR_isPlainName_19 : decode M_PR_isPlainName.2.1 19 = .ok (.iconst 1, 1) := by decide +kernel
theorem d_PR_isPlainName_20 : decode M_PR_isPlainName.2.1 20 = .ok (.if_icmp .ne 19, 3) := by decide +kernel
theorem d_PR_isPlainName_23 : decode M_PR_isPlainName.2.1 23 = .ok (.iload 5, 2) := by decide +kernel
theorem d_PR_isPlainName_25 : decode M_PR_isPlainName.2.1 25 = .ok (.bipush 33, 2) := by decide +kernel
theorem d_PR_isPlainName_27 : decode M_PR_isPlainName.2.1 27 = .ok (.if_icmp .eq 10, 3) := by decide +kernel
theorem d_PR_isPlainName_30 : decode M_PR_isPlainName.2.1 30 = .ok (.iload 5, 2) := by decide +kernel
theorem d_PR_isPlainName_32 : decode M_PR_isPlainName.2.1 32 = .ok (.bipush 59, 2) := by decide +kernel
theorem d_PR_isPlainName_34 : decode M_PR_isPlainName.2.1 34 = .ok (.if_icmp .ne 5, 3) := by decide +kernel
theorem d_PR_isPlainName_37 : decode M_PR_isPlainName.2.1 37 = .ok (.iconst 1, 1) := by decide +kernel
theorem d_PR_isPlainName_38 : decode M_PR_isPlainName.2.1 38 = .ok (.ireturn, 1) := by decide +kernel
theorem d_PR_isPlainName_39 : decode M_PR_isPlainName.2.1 39 = .ok (.iload 4, 2) := by decide +kernel
theorem d_PR_isPlainName_41 : decode M_PR_isPlainName.2.1 41 = .ok (.iconst 2, 1) := by decide +kernel
theorem d_PR_isPlainName_42 : decode M_PR_isPlainName.2.1 42 = .ok (.if_icmp .ne 26, 3) := by decide +kernel
theorem d_PR_isPlainName_45 : decode M_PR_isPlainName.2.1 45 = .ok (.iload 5, 2) := by decide +kernel
theorem d_PR_isPlainName_47 : decode M_PR_isPlainName.2.1 47 = .ok (.bipush 91, 2) := by decide +kernel
theorem d_PR_isPlainName_49 : decode M_PR_isPlainName.2.1 49 = .ok (.if_icmp .ne 19, 3) := by decide +kernel
theorem d_PR_isPlainName_52 : decode M_PR_isPlainName.2.1 52 = .ok (.aload_n 1, 1) := by decide +kernel
theorem d_PR_isPlainName_53 : decode M_PR_isPlainName.2.1 53 = .ok (.iload_n 2, 1) := by decide +kernel
theorem d_PR_isPlainName_54 : decode M_PR_isPlainName.2.1 54 = .ok (.iconst 1, 1) := by decide +kernel
theorem d_PR_isPlainName_55 : decode M_PR_isPlainName.2.1 55 = .ok (.iadd, 1) := by decide +kernel
theorem d_PR_isPlainName_56 : decode M_PR_isPlainName.2.1 56 = .ok (.baload, 1) := by decide +kernel
theorem d_PR_isPlainName_57 : decode M_PR_isPlainName.2.1 57 = .ok (.bipush 93, 2) := by decide +kernel
theorem d_PR_isPlainName_59 : decode M_PR_isPlainName.2.1 59 = .ok (.if_icmp .ne 7, 3) := by decide +kernel
theorem d_PR_isPlainName_62 : decode M_PR_isPlainName.2.1 62 = .ok (.iconst 1, 1) := by decide +kernel
theorem d_PR_isPlainName_63 : decode M_PR_isPlainName.2.1 63 = .ok (.goto 4, 3) := by decide +kernel
theorem d_PR_isPlainName_66 : decode M_PR_isPlainName.2.1 66 = .ok (.iconst 0, 1) := by decide +kernel
theorem d_PR_isPlainName_67 : decode M_PR_isPlainName.2.1 67 = .ok (.ireturn, 1) := by decide +kernel
theorem d_PR_isPlainName_68 : decode M_PR_isPlainName.2.1 68 = .ok (.iload 4, 2) := by decide +kernel
theorem d_PR_isPlainName_70 : decode M_PR_isPlainName.2.1 70 = .ok (.iconst 1, 1) := by decide +kernel
theorem d_PR_isPlainName_71 : decode M_PR_isPlainName.2.1 71 = .ok (.if_icmp .ne 10, 3) := by decide +kernel
theorem d_PR_isPlainName_74 : decode M_PR_isPlainName.2.1 74 = .ok (.iload 5, 2) := by decide +kernel
theorem d_PR_isPlainName_76 : decode M_PR_isPlainName.2.1 76 = .ok (.bipush 46, 2) := by decide +kernel
theorem d_PR_isPlainName_78 : decode M_PR_isPlainName.2.1 78 = .ok (.if_icmp .eq 17, 3) := by decide +kernel
theorem d_PR_isPlainName_81 : decode M_PR_isPlainName.2.1 81 = .ok (.aload_n 0, 1) := by decide +kernel
theorem d_PR_isPlainName_82 : decode M_PR_isPlainName.2.1 82 = .ok (.aload_n 1, 1) := by decide +kernel
theorem d_PR_isPlainName_83 : decode M_PR_isPlainName.2.1 83 = .ok (.iload_n 2, 1) := by decide +kernel
theorem d_PR_isPlainName_84 : decode M_PR_isPlainName.2.1 84 = .ok (.iload_n 3, 1) := by decide +kernel
theorem d_PR_isPlainName_85 : decode M_PR_isPlainName.2.1 85 = .ok (.invokevirtual 101, 3) := by decide +kernel
theorem d_PR_isPlainName_88 : decode M_PR_isPlainName.2.1 88 = .ok (.ifCond .eq 7, 3) := by decide +kernel
theorem d_PR_isPlainName_91 : decode M_PR_isPlainName.2.1 91 = .ok (.iconst 1, 1) := by decide +kernel
theorem d_PR_isPlainName_92 : decode M_PR_isPlainName.2.1 92 = .ok (.goto 4, 3) := by decide +kernel
theorem d_PR_isPlainName_95 : decode M_PR_isPlainName.2.1 95 = .ok (.iconst 0, 1) := by decide +kernel
theorem d_PR_isPlainName_96 : decode M_PR_isPlainName.2.1 96 = .ok (.ireturn, 1) := by decide +kernel
set_option maxRecDepth 20000 in
theorem w_PR_isPlainName {E : xR} {h : xH} {u : Nat → Nat} {f t : Nat} {fs : List Value} (h15 : h 15 = .inr (4, fs)) (h1 : h 1 = .inl (1, 4096, .inl (fun i => g_sb (u i)))) (hu : ∀ i, u i < 256) (hft : f ≤ t) (ht : t ≤ 4096) : x_Mt E M_PR_isPlainName 7 0 0 [.ref 15, .ref 1, .int (nI f), .int (nI t)] 52 h (x_Y (some (.int (g_b2 (g_pn u f t)))) 52 h) := by
  have n0 : nI (t - f) = 0 ↔ t - f = 0 := g_nIne (b := 0) (by omega) (by decide)
  have n1 : nI (t - f) = 1 ↔ t - f = 1 := g_nIne (b := 1) (by omega) (by decide)
  have n2 : nI (t - f) = 2 ↔ t - f = 2 := g_nIne (b := 2) (by omega) (by decide)
  refine x_Mt.of (by decide) (Nat.le_of_ble_eq_true rfl) ?_
  have h81 : ¬ t - f = 0 → ¬ (t - f = 1 ∧ (g_sb (u f) = 33 ∨ g_sb (u f) = 59)) → ¬ (t - f = 2 ∧ g_sb (u f) = 91) → ¬ (t - f = 1 ∧ g_sb (u f) = 46) → x_W E M_PR_isPlainName (x_room 7 0 0) (x_Y (some (.int (g_b2 (g_pn u f t)))) 52 h) 52 h 81 [(0, .ref 15), (1, .ref 1), (2, .int (nI f)), (3, .int (nI t)), (4, .int (nI (t - f))), (5, .int (g_sb (u f)))] [] 0 0 := by
    intro hz hA hB hC
    have e : g_pn u f t = g_wo u (g_small (g_sb (u f))) (t - f) f := by
      rw [g_pn, decide_eq_false hz]; simp only [cond_false]; rw [show (decide (t - f = 1) && (decide (g_sb (u f) = 33) || decide (g_sb (u f) = 59))) = false by simpa using hA]; simp only [cond_false]; rw [show (decide (t - f = 2) && decide (g_sb (u f) = 91)) = false by simpa using hB]; simp only [cond_false]; rw [show (decide (t - f = 1) && decide (g_sb (u f) = 46)) = false by simpa using hC]; rfl
    refine x_aload_n d_PR_isPlainName_81 rfl rfl ?_
    refine x_aload_n d_PR_isPlainName_82 rfl rfl ?_
    refine x_iload_n d_PR_isPlainName_83 rfl rfl ?_
    refine x_iload_n d_PR_isPlainName_84 rfl rfl ?_
    refine x_callV3Y d_PR_isPlainName_85 k_PR_101 (Nat.le_of_ble_eq_true rfl) (Nat.le_of_ble_eq_true rfl) (by first | rfl | assumption) (by rfl) (w_PR_isWordOrSymbols h1 hu (by omega) ht) (Nat.le_of_ble_eq_true rfl) (Nat.le_of_ble_eq_true rfl) (Nat.le_of_ble_eq_true rfl) (Nat.le_of_ble_eq_true rfl) (Nat.le_of_ble_eq_true rfl) rfl ?_
    refine x_if_eq 95 d_PR_isPlainName_88 (by decide) (fun c_88 => ?_) (fun c_88 => ?_)
    · refine x_iconst 0 d_PR_isPlainName_95 (by decide) ?_
      exact x_ireturn d_PR_isPlainName_96 rfl rfl ⟨congrArg (fun z => Sum.inl (some (Value.int z))) (show (0 : Int32) = (g_b2 (g_pn u f t)) by rw [e, g_b2z c_88]; rfl), rfl, fun _ _ => rfl, rfl, rfl⟩
    · refine x_iconst 1 d_PR_isPlainName_91 (by decide) ?_
      refine x_goto 96 d_PR_isPlainName_92 (by decide) ?_
      exact x_ireturn d_PR_isPlainName_96 rfl rfl ⟨congrArg (fun z => Sum.inl (some (Value.int z))) (show (1 : Int32) = (g_b2 (g_pn u f t)) by rw [e, g_b2n c_88]; rfl), rfl, fun _ _ => rfl, rfl, rfl⟩
  have h68 : ¬ t - f = 0 → ¬ (t - f = 1 ∧ (g_sb (u f) = 33 ∨ g_sb (u f) = 59)) → ¬ (t - f = 2 ∧ g_sb (u f) = 91) → x_W E M_PR_isPlainName (x_room 7 0 0) (x_Y (some (.int (g_b2 (g_pn u f t)))) 52 h) 52 h 68 [(0, .ref 15), (1, .ref 1), (2, .int (nI f)), (3, .int (nI t)), (4, .int (nI (t - f))), (5, .int (g_sb (u f)))] [] 0 0 := by
    intro hz hA hB
    refine x_iload d_PR_isPlainName_68 rfl ?_
    refine x_iconst 1 d_PR_isPlainName_70 (by decide) ?_
    refine x_icmp_ne 81 d_PR_isPlainName_71 (by decide) (fun c_71 => ?_) (fun c_71 => ?_)
    · exact h81 hz hA hB (fun q => c_71 (n1.mpr q.1))
    · refine x_iload d_PR_isPlainName_74 rfl ?_
      refine x_bipush 46 d_PR_isPlainName_76 (by decide) ?_
      refine x_icmp_eq 95 d_PR_isPlainName_78 (by decide) (fun c_78 => ?_) (fun c_78 => ?_)
      · refine x_iconst 0 d_PR_isPlainName_95 (by decide) ?_
        exact x_ireturn d_PR_isPlainName_96 rfl rfl ⟨congrArg (fun z => Sum.inl (some (Value.int z))) (show (0 : Int32) = (g_b2 (g_pn u f t)) by rw [g_pn, decide_eq_false hz]; simp only [cond_false]; rw [show (decide (t - f = 1) && (decide (g_sb (u f) = 33) || decide (g_sb (u f) = 59))) = false by simpa using hA]; simp only [cond_false]; rw [show (decide (t - f = 2) && decide (g_sb (u f) = 91)) = false by simpa using hB]; simp only [cond_false]; rw [show (decide (t - f = 1) && decide (g_sb (u f) = 46)) = true by rw [decide_eq_true (n1.mp c_71), decide_eq_true c_78]; rfl]; rfl), rfl, fun _ _ => rfl, rfl, rfl⟩
      · exact h81 hz hA hB (fun q => c_78 q.2)
  have h39 : ¬ t - f = 0 → ¬ (t - f = 1 ∧ (g_sb (u f) = 33 ∨ g_sb (u f) = 59)) → x_W E M_PR_isPlainName (x_room 7 0 0) (x_Y (some (.int (g_b2 (g_pn u f t)))) 52 h) 52 h 39 [(0, .ref 15), (1, .ref 1), (2, .int (nI f)), (3, .int (nI t)), (4, .int (nI (t - f))), (5, .int (g_sb (u f)))] [] 0 0 := by
    intro hz hA
    refine x_iload d_PR_isPlainName_39 rfl ?_
    refine x_iconst 2 d_PR_isPlainName_41 (by decide) ?_
    refine x_icmp_ne 68 d_PR_isPlainName_42 (by decide) (fun c_42 => ?_) (fun c_42 => ?_)
    · exact h68 hz hA (fun q => c_42 (n2.mpr q.1))
    · refine x_iload d_PR_isPlainName_45 rfl ?_
      refine x_bipush 91 d_PR_isPlainName_47 (by decide) ?_
      refine x_icmp_ne 68 d_PR_isPlainName_49 (by decide) (fun c_49 => ?_) (fun c_49 => ?_)
      · exact h68 hz hA (fun q => c_49 q.2)
      · have e2 : t - f = 2 := n2.mp c_42
        refine x_aload_n d_PR_isPlainName_52 rfl rfl ?_
        refine x_iload_n d_PR_isPlainName_53 rfl rfl ?_
        refine x_iconst 1 d_PR_isPlainName_54 (by decide) ?_
        refine x_iadd d_PR_isPlainName_55 ?_
        refine x_topi (nI (f + 1)) (nI_succ f).symm ?_
        refine x_bald d_PR_isPlainName_56 (Nat.le_of_ble_eq_true rfl) (Nat.le_of_ble_eq_true rfl) (by first | rfl | assumption) (vp_in_nI (show f + 1 < 4096 by omega) (by decide)) ?_
        refine x_topi (g_sb (u (f + 1))) (by rw [nI_clamp (by omega)]) ?_
        refine x_bipush 93 d_PR_isPlainName_57 (by decide) ?_
        refine x_icmp_ne 66 d_PR_isPlainName_59 (by decide) (fun c_59 => ?_) (fun c_59 => ?_)
        · refine x_iconst 0 d_PR_isPlainName_66 (by decide) ?_
          exact x_ireturn d_PR_isPlainName_67 rfl rfl ⟨congrArg (fun z => Sum.inl (some (Value.int z))) (show (0 : Int32) = (g_b2 (g_pn u f t)) by rw [g_pn, decide_eq_false hz]; simp only [cond_false]; rw [show (decide (t - f = 1) && (decide (g_sb (u f) = 33) || decide (g_sb (u f) = 59))) = false by simpa using hA]; simp only [cond_false]; rw [show (decide (t - f = 2) && decide (g_sb (u f) = 91)) = true by rw [decide_eq_true (n2.mp c_42), decide_eq_true c_49]; rfl]; simp only [cond_true]; rw [decide_eq_false c_59]; rfl), rfl, fun _ _ => rfl, rfl, rfl⟩
        · refine x_iconst 1 d_PR_isPlainName_62 (by decide) ?_
          refine x_goto 67 d_PR_isPlainName_63 (by decide) ?_
          exact x_ireturn d_PR_isPlainName_67 rfl rfl ⟨congrArg (fun z => Sum.inl (some (Value.int z))) (show (1 : Int32) = (g_b2 (g_pn u f t)) by rw [g_pn, decide_eq_false hz]; simp only [cond_false]; rw [show (decide (t - f = 1) && (decide (g_sb (u f) = 33) || decide (g_sb (u f) = 59))) = false by simpa using hA]; simp only [cond_false]; rw [show (decide (t - f = 2) && decide (g_sb (u f) = 91)) = true by rw [decide_eq_true (n2.mp c_42), decide_eq_true c_49]; rfl]; simp only [cond_true]; rw [decide_eq_true c_59]; rfl), rfl, fun _ _ => rfl, rfl, rfl⟩
  show x_W E M_PR_isPlainName _ _ 52 h 0 [(0, .ref 15), (1, .ref 1), (2, .int (nI f)), (3, .int (nI t))] [] 0 0
  refine x_iload_n d_PR_isPlainName_0 rfl rfl ?_
  refine x_iload_n d_PR_isPlainName_1 rfl rfl ?_
  refine x_isub d_PR_isPlainName_2 ?_
  refine x_topi (nI (t - f)) (g_nIsub hft) ?_
  refine x_istore d_PR_isPlainName_3 (Nat.le_of_ble_eq_true rfl) ?_
  refine x_iload d_PR_isPlainName_5 rfl ?_
  refine x_if_ne 12 d_PR_isPlainName_7 (by decide) (fun c_7 => ?_) (fun c_7 => ?_)
  · have hz : ¬ t - f = 0 := fun q => c_7 (n0.mpr q)
    refine x_aload_n d_PR_isPlainName_12 rfl rfl ?_
    refine x_iload_n d_PR_isPlainName_13 rfl rfl ?_
    refine x_bald d_PR_isPlainName_14 (Nat.le_of_ble_eq_true rfl) (Nat.le_of_ble_eq_true rfl) (by first | rfl | assumption) (vp_in_nI (show f < 4096 by omega) (by decide)) ?_
    refine x_topi (g_sb (u f)) (by rw [nI_clamp (by omega)]) ?_
    refine x_istore d_PR_isPlainName_15 (Nat.le_of_ble_eq_true rfl) ?_
    refine x_iload d_PR_isPlainName_17 rfl ?_
    refine x_iconst 1 d_PR_isPlainName_19 (by decide) ?_
    refine x_icmp_ne 39 d_PR_isPlainName_20 (by decide) (fun c_20 => ?_) (fun c_20 => ?_)
    · exact h39 hz (fun q => c_20 (n1.mpr q.1))
    · refine x_iload d_PR_isPlainName_23 rfl ?_
      refine x_bipush 33 d_PR_isPlainName_25 (by decide) ?_
      refine x_icmp_eq 37 d_PR_isPlainName_27 (by decide) (fun c_27 => ?_) (fun c_27 => ?_)
      · refine x_iconst 1 d_PR_isPlainName_37 (by decide) ?_
        exact x_ireturn d_PR_isPlainName_38 rfl rfl ⟨congrArg (fun z => Sum.inl (some (Value.int z))) (show (1 : Int32) = (g_b2 (g_pn u f t)) by rw [g_pn, decide_eq_false hz]; simp only [cond_false]; rw [decide_eq_true (n1.mp c_20), decide_eq_true c_27]; rfl), rfl, fun _ _ => rfl, rfl, rfl⟩
      · refine x_iload d_PR_isPlainName_30 rfl ?_
        refine x_bipush 59 d_PR_isPlainName_32 (by decide) ?_
        refine x_icmp_ne 39 d_PR_isPlainName_34 (by decide) (fun c_34 => ?_) (fun c_34 => ?_)
        · exact h39 hz (fun q => q.2.elim c_27 c_34)
        · refine x_iconst 1 d_PR_isPlainName_37 (by decide) ?_
          exact x_ireturn d_PR_isPlainName_38 rfl rfl ⟨congrArg (fun z => Sum.inl (some (Value.int z))) (show (1 : Int32) = (g_b2 (g_pn u f t)) by rw [g_pn, decide_eq_false hz]; simp only [cond_false]; rw [decide_eq_true (n1.mp c_20), decide_eq_true c_34, Bool.or_true]; rfl), rfl, fun _ _ => rfl, rfl, rfl⟩
  · refine x_iconst 0 d_PR_isPlainName_10 (by decide) ?_
    exact x_ireturn d_PR_isPlainName_11 rfl rfl ⟨congrArg (fun z => Sum.inl (some (Value.int z))) (show (0 : Int32) = (g_b2 (g_pn u f t)) by rw [g_pn, decide_eq_true (n0.mp c_7)]; rfl), rfl, fun _ _ => rfl, rfl, rfl⟩
