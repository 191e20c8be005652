theorem g_sbc : ∀ v, v < 256 → (v < 128 ∧ g_sb v = nI v) ∨ g_sb v < 0 := by decide +kernel
theorem w_SG_isSymbol_sb {E : xR} {n : Nat} {h : xH} {v : Nat} (hv : v < 256) : x_Mt E M_SG_isSymbol 5 0 0 [.int (g_sb v)] n h (x_Y (some (.int (g_b2 (g_symb (g_sb v))))) n h) := by
  rcases g_sbc v hv with ⟨h1, h2⟩ | h1
  · rw [h2]; exact w_SG_isSymbol hv
  · exact w_SG_isSymbol_neg h1
/-- all characters from i on fit: of a word, or symbols -/
def g_wo (u : Nat → Nat) (w : Bool) : Nat → Nat → Bool
  | 0, _ => true
  | m + 1, i => (bif w then g_word (g_sb (u i)) else g_symb (g_sb (u i))) && g_wo u w m (i + 1)
theorem d_PR_isWordOrSymbols_0 : decode M_PR_isWordOrSymbols.2.1 0 = .ok (.aload_n 1, 1) := by decide +kernel
theorem d_PR_isWordOrSymbols_1 : decode M_PR_isWordOrSymbols.2.1 1 = .ok (.iload_n 2, 1) := by decide +kernel
theorem d_PR_isWordOrSymbols_2 : decode M_PR_isWordOrSymbols.2.1 2 = .ok (.baload, 1) := by decide +kernel
theorem d_PR_isWordOrSymbols_3 : decode M_PR_isWordOrSymbols.2.1 3 = .ok (.invokestatic 104, 3) := by decide +kernel
theorem d_PR_isWordOrSymbols_6 : decode M_PR_isWordOrSymbols.2.1 6 = .ok (.istore 4, 2) := by decide +kernel
theorem d_PR_isWordOrSymbols_8 : decode M_PR_isWordOrSymbols.2.1 8 = .ok (.iload_n 2, 1) := by decide +kernel
theorem d_PR_isWordOrSymbols_9 : decode M_PR_isWordOrSymbols.2.1 9 = .ok (.istore 5, 2) := by decide +kernel
theorem d_PR_isWordOrSymbols_11 : decode M_PR_isWordOrSymbols.2.1 11 = .ok (.iload 5, 2) := by decide +kernel
theorem d_PR_isWordOrSymbols_13 : decode M_PR_isWordOrSymbols.2.1 13 = .ok (.iload_n 3, 1) := by decide +kernel
theorem d_PR_isWordOrSymbols_14 : decode M_PR_isWordOrSymbols.2.1 14 = .ok (.if_icmp .ge 40, 3) := by decide +kernel
theorem d_PR_isWordOrSymbols_17 : decode M_PR_isWordOrSymbols.2.1 17 = .ok (.iload 4, 2) := by decide +kernel
theorem d_PR_isWordOrSymbols_19 : decode M_PR_isWordOrSymbols.2.1 19 = .ok (.ifCond .eq 13, 3) := by decide +kernel
theorem d_PR_isWordOrSymbols_22 : decode M_PR_isWordOrSymbols.2.1 22 = .ok (.aload_n 1, 1) := by decide +kernel
theorem d_PR_isWordOrSymbols_23 : decode M_PR_isWordOrSymbols.2.1 23 = .ok (.iload 5, 2) := by decide +kernel
theorem d_PR_isWordOrSymbols_25 : decode M_PR_isWordOrSymbols.2.1 25 = .ok (.baload, 1) := by decide +kernel
theorem d_PR_isWordOrSymbols_26 : decode M_PR_isWordOrSymbols.2.1 26 = .ok (.invokestatic 110, 3) := by decide +kernel
theorem d_PR_isWordOrSymbols_29 : decode M_PR_isWordOrSymbols.2.1 29 = .ok (.goto 10, 3) := by decide +kernel
theorem d_PR_isWordOrSymbols_32 : decode M_PR_isWordOrSymbols.2.1 32 = .ok (.aload_n 1, 1) := by decide +kernel
theorem d_PR_isWordOrSymbols_33 : decode M_PR_isWordOrSymbols.2.1 33 = .ok (.iload 5, 2) := by decide +kernel
theorem d_PR_isWordOrSymbols_35 : decode M_PR_isWordOrSymbols.2.1 35 = .ok (.baload, 1) := by decide +kernel
theorem d_PR_isWordOrSymbols_36 : decode M_PR_isWordOrSymbols.2.1 36 = .ok (.invokestatic 113, 3) := by decide +kernel
theorem d_PR_isWordOrSymbols_39 : decode M_PR_isWordOrSymbols.2.1 39 = .ok (.istore 6, 2) := by decide +kernel
theorem d_PR_isWordOrSymbols_41 : decode M_PR_isWordOrSymbols.2.1 41 = .ok (.iload 6, 2) := by decide +kernel
theorem d_PR_isWordOrSymbols_43 : decode M_PR_isWordOrSymbols.2.1 43 = .ok (.ifCond .ne 5, 3) := by decide +kernel
theorem d_PR_isWordOrSymbols_46 : decode M_PR_isWordOrSymbols.2.1 46 = .ok (.iconst 0, 1) := by decide +kernel
theorem d_PR_isWordOrSymbols_47 : decode M_PR_isWordOrSymbols.2.1 47 = .ok (.ireturn, 1) := by decide +kernel
theorem d_PR_isWordOrSymbols_48 : decode M_PR_isWordOrSymbols.2.1 48 = .ok (.iinc 5 1, 3) := by decide +kernel
theorem d_PR_isWordOrSymbols_51 : decode M_PR_isWordOrSymbols.2.1 51 = .ok (.goto (-40), 3) := by decide +kernel
theorem d_PR_isWordOrSymbols_54 : decode M_PR_isWordOrSymbols.2.1 54 = .ok (.iconst 1, 1) := by decide +kernel
theorem d_PR_isWordOrSymbols_55 : decode M_PR_isWordOrSymbols.2.1 55 = .ok (.ireturn, 1) := by decide +kernel
set_option maxRecDepth 20000 in
theorem w_PR_isWordOrSymbols {E : xR} {h : xH} {u : Nat → Nat} {f t : Nat} (h1 : h 1 = .inl (1, 4096, .inl (fun i => g_sb (u i)))) (hu : ∀ i, u i < 256) (hft : f < t) (ht : t ≤ 4096) : x_Mt E M_PR_isWordOrSymbols 6 0 0 [.ref 15, .ref 1, .int (nI f), .int (nI t)] 52 h (x_Y (some (.int (g_b2 (g_wo u (g_small (g_sb (u f))) (t - f) f)))) 52 h) := by
  refine x_Mt.of (by decide) (Nat.le_of_ble_eq_true rfl) ?_
  have hloop : ∀ m i, i + m = t → g_wo u (g_small (g_sb (u f))) (t - f) f = g_wo u (g_small (g_sb (u f))) m i → x_W E M_PR_isWordOrSymbols (x_room 6 0 0) (x_Y (some (.int (g_b2 (g_wo u (g_small (g_sb (u f))) (t - f) f)))) 52 h) 52 h 11 [(0, .ref 15), (1, .ref 1), (2, .int (nI f)), (3, .int (nI t)), (4, .int (g_b2 (g_small (g_sb (u f))))), (5, .int (nI i))] [] 0 0 := by
    intro m
    induction m with
    | zero =>
      intro i hi hg
      obtain rfl : i = t := by omega
      refine x_iload d_PR_isWordOrSymbols_11 rfl ?_
      refine x_iload_n d_PR_isWordOrSymbols_13 rfl rfl ?_
      refine x_icmp_ge 54 d_PR_isWordOrSymbols_14 (by decide) (fun _ => ?_) (fun z => absurd (nI_le (Nat.le_refl _) (by omega)) z)
      refine x_iconst 1 d_PR_isWordOrSymbols_54 (by decide) ?_
      exact x_ireturn d_PR_isWordOrSymbols_55 rfl rfl ⟨congrArg (fun z => Sum.inl (some (Value.int z))) (show (1 : Int32) = (g_b2 (g_wo u (g_small (g_sb (u f))) (i - f) f)) by rw [hg]; rfl), rfl, fun _ _ => rfl, rfl, rfl⟩
    | succ m ih =>
      intro i hi hg
      rw [g_wo] at hg
      have hj : ∀ b : Bool, (bif g_small (g_sb (u f)) then g_word (g_sb (u i)) else g_symb (g_sb (u i))) = b → x_W E M_PR_isWordOrSymbols (x_room 6 0 0) (x_Y (some (.int (g_b2 (g_wo u (g_small (g_sb (u f))) (t - f) f)))) 52 h) 52 h 39 [(0, .ref 15), (1, .ref 1), (2, .int (nI f)), (3, .int (nI t)), (4, .int (g_b2 (g_small (g_sb (u f))))), (5, .int (nI i))] [.int (g_b2 b)] 0 0 := by
        intro b hb
        refine x_istore d_PR_isWordOrSymbols_39 (Nat.le_of_ble_eq_true rfl) ?_
        refine x_iload d_PR_isWordOrSymbols_41 rfl ?_
        refine x_if_ne 48 d_PR_isWordOrSymbols_43 (by decide) (fun c_43 => ?_) (fun c_43 => ?_)
        · refine x_iinc d_PR_isWordOrSymbols_48 rfl 1 (by decide) (Nat.le_of_ble_eq_true rfl) ?_
          refine x_goto 11 d_PR_isWordOrSymbols_51 (by decide) ?_
          refine x_lv [(0, .ref 15), (1, .ref 1), (2, .int (nI f)), (3, .int (nI t)), (4, .int (g_b2 (g_small (g_sb (u f))))), (5, .int (nI (i + 1))), (6, .int (g_b2 b))] (by rw [nI_succ i]; rfl) ?_
          exact x_wk [(0, .ref 15), (1, .ref 1), (2, .int (nI f)), (3, .int (nI t)), (4, .int (g_b2 (g_small (g_sb (u f))))), (5, .int (nI (i + 1)))] (by simp) (ih (i + 1) (by omega) (by rw [hg, hb, g_b2n c_43]; rfl))
        · refine x_iconst 0 d_PR_isWordOrSymbols_46 (by decide) ?_
          exact x_ireturn d_PR_isWordOrSymbols_47 rfl rfl ⟨congrArg (fun z => Sum.inl (some (Value.int z))) (show (0 : Int32) = (g_b2 (g_wo u (g_small (g_sb (u f))) (t - f) f)) by rw [hg, hb, g_b2z c_43]; rfl), rfl, fun _ _ => rfl, rfl, rfl⟩
      refine x_iload d_PR_isWordOrSymbols_11 rfl ?_
      refine x_iload_n d_PR_isWordOrSymbols_13 rfl rfl ?_
      refine x_icmp_ge 54 d_PR_isWordOrSymbols_14 (by decide) (fun z => absurd z (nI_ge (by omega) (by omega))) (fun _ => ?_)
      refine x_iload d_PR_isWordOrSymbols_17 rfl ?_
      refine x_if_eq 32 d_PR_isWordOrSymbols_19 (by decide) (fun c_19 => ?_) (fun c_19 => ?_)
      · refine x_aload_n d_PR_isWordOrSymbols_32 rfl rfl ?_
        refine x_iload d_PR_isWordOrSymbols_33 rfl ?_
        refine x_bald d_PR_isWordOrSymbols_35 (Nat.le_of_ble_eq_true rfl) (Nat.le_of_ble_eq_true rfl) (by first | rfl | assumption) (vp_in_nI (show i < 4096 by omega) (by decide)) ?_
        refine x_topi (g_sb (u i)) (by rw [nI_clamp (by omega)]) ?_
        refine x_callS1Y d_PR_isWordOrSymbols_36 k_PR_113 (w_SG_isSymbol_sb (hu i)) (Nat.le_of_ble_eq_true rfl) (Nat.le_of_ble_eq_true rfl) (Nat.le_of_ble_eq_true rfl) (Nat.le_of_ble_eq_true rfl) (Nat.le_of_ble_eq_true rfl) rfl ?_
        exact hj _ (by rw [g_b2z c_19]; rfl)
      · refine x_aload_n d_PR_isWordOrSymbols_22 rfl rfl ?_
        refine x_iload d_PR_isWordOrSymbols_23 rfl ?_
        refine x_bald d_PR_isWordOrSymbols_25 (Nat.le_of_ble_eq_true rfl) (Nat.le_of_ble_eq_true rfl) (by first | rfl | assumption) (vp_in_nI (show i < 4096 by omega) (by decide)) ?_
        refine x_topi (g_sb (u i)) (by rw [nI_clamp (by omega)]) ?_
        refine x_callS1Y d_PR_isWordOrSymbols_26 k_PR_110 w_SG_isWordCharacter (Nat.le_of_ble_eq_true rfl) (Nat.le_of_ble_eq_true rfl) (Nat.le_of_ble_eq_true rfl) (Nat.le_of_ble_eq_true rfl) (Nat.le_of_ble_eq_true rfl) rfl ?_
        refine x_goto 39 d_PR_isWordOrSymbols_29 (by decide) ?_
        exact hj _ (by rw [g_b2n c_19]; rfl)
  show x_W E M_PR_isWordOrSymbols _ _ 52 h 0 [(0, .ref 15), (1, .ref 1), (2, .int (nI f)), (3, .int (nI t))] [] 0 0
  refine x_aload_n d_PR_isWordOrSymbols_0 rfl rfl ?_
  refine x_iload_n d_PR_isWordOrSymbols_1 rfl rfl ?_
  refine x_bald d_PR_isWordOrSymbols_2 (Nat.le_of_ble_eq_true rfl) (Nat.le_of_ble_eq_true rfl) (by first | rfl | assumption) (vp_in_nI (show f < 4096 by omega) (by decide)) ?_
  refine x_topi (g_sb (u f)) (by rw [nI_clamp (by omega)]) ?_
  refine x_callS1Y d_PR_isWordOrSymbols_3 k_PR_104 w_SG_isSmall (Nat.le_of_ble_eq_true rfl) (Nat.le_of_ble_eq_true rfl) (Nat.le_of_ble_eq_true rfl) (Nat.le_of_ble_eq_true rfl) (Nat.le_of_ble_eq_true rfl) rfl ?_
  refine x_istore d_PR_isWordOrSymbols_6 (Nat.le_of_ble_eq_true rfl) ?_
  refine x_iload_n d_PR_isWordOrSymbols_8 rfl rfl ?_
  refine x_istore d_PR_isWordOrSymbols_9 (Nat.le_of_ble_eq_true rfl) ?_
  exact hloop (t - f) f (by omega) rfl
