/-- the reference's reader -/
def g_rw (h : xH) (N : Nat) (aa bh tk oo : Int32) (nm : Int64) (lt tp pl vd kn rk : Int32) (Wd : Nat → Int32) : xH := x_up (x_up h 36 (.inr (8, [.ref 37, .ref 38, .ref 39, .ref 24, .ref 31, .ref 22, .int (nI N), .int aa, .int bh, .int tk, .int oo, .long nm, .ref 40, .int lt, .ref 41, .int tp, .int pl, .ref 42, .int vd, .int kn, .int rk, .ref 43]))) 40 (.inl (1, 4096, .inl Wd))
def g_gr (c : Int32) : Bool := (!decide (c < 65) && decide (c ≤ 90)) || decide (c = 95)
theorem d_RD_small_0 : decode M_RD_small.2.1 0 = .ok (.iload_n 0, 1) := by decide +kernel
theorem d_RD_small_1 : decode M_RD_small.2.1 1 = .ok (.bipush 97, 2) := by decide +kernel
theorem d_RD_small_3 : decode M_RD_small.2.1 3 = .ok (.if_icmp .lt 13, 3) := by decide +kernel
theorem d_RD_small_6 : decode M_RD_small.2.1 6 = .ok (.iload_n 0, 1) := by decide +kernel
theorem d_RD_small_7 : decode M_RD_small.2.1 7 = .ok (.bipush 122, 2) := by decide +kernel
theorem d_RD_small_9 : decode M_RD_small.2.1 9 = .ok (.if_icmp .gt 7, 3) := by decide +kernel
theorem d_RD_small_12 : decode M_RD_small.2.1 12 = .ok (.iconst 1, 1) := by decide +kernel
theorem d_RD_small_13 : decode M_RD_small.2.1 13 = .ok (.goto 4, 3) := by decide +kernel
theorem d_RD_small_16 : decode M_RD_small.2.1 16 = .ok (.iconst 0, 1) := by decide +kernel
theorem d_RD_small_17 : decode M_RD_small.2.1 17 = .ok (.ireturn, 1) := by decide +kernel
set_option maxRecDepth 20000 in
theorem w_RD_small {E : xR} {n : Nat} {h : xH} {c : Int32} : x_Mt E M_RD_small 0 0 0 [.int c] n h (x_Y (some (.int (g_b2 (g_small c)))) n h) := by
  refine x_Mt.of (by decide) (Nat.le_of_ble_eq_true rfl) ?_
  show x_W E M_RD_small _ _ n h 0 [(0, .int c)] [] 0 0
  refine x_iload_n d_RD_small_0 rfl rfl ?_
  refine x_bipush 97 d_RD_small_1 (by decide) ?_
  refine x_icmp_lt 16 d_RD_small_3 (by decide) (fun c_3 => ?_) (fun c_3 => ?_)
  · refine x_iconst 0 d_RD_small_16 (by decide) ?_
    exact x_ireturn d_RD_small_17 rfl rfl ⟨congrArg (fun z => Sum.inl (some (Value.int z))) (show (0 : Int32) = g_b2 (g_small c) by simp [g_b2, g_small, *]), rfl, fun _ _ => rfl, rfl, rfl⟩
  · refine x_iload_n d_RD_small_6 rfl rfl ?_
    refine x_bipush 122 d_RD_small_7 (by decide) ?_
    refine x_icmp_gt 16 d_RD_small_9 (by decide) (fun c_9 => ?_) (fun c_9 => ?_)
    · refine x_iconst 0 d_RD_small_16 (by decide) ?_
      exact x_ireturn d_RD_small_17 rfl rfl ⟨congrArg (fun z => Sum.inl (some (Value.int z))) (show (0 : Int32) = g_b2 (g_small c) by simp [g_b2, g_small, *]), rfl, fun _ _ => rfl, rfl, rfl⟩
    · refine x_iconst 1 d_RD_small_12 (by decide) ?_
      refine x_goto 17 d_RD_small_13 (by decide) ?_
      exact x_ireturn d_RD_small_17 rfl rfl ⟨congrArg (fun z => Sum.inl (some (Value.int z))) (show (1 : Int32) = g_b2 (g_small c) by simp [g_b2, g_small, *]), rfl, fun _ _ => rfl, rfl, rfl⟩
theorem d_RD_great_0 : decode M_RD_great.2.1 0 = .ok (.iload_n 0, 1) := by decide +kernel
theorem d_RD_great_1 : decode M_RD_great.2.1 1 = .ok (.bipush 65, 2) := by decide +kernel
theorem d_RD_great_3 : decode M_RD_great.2.1 3 = .ok (.if_icmp .lt 9, 3) := by decide +kernel
theorem d_RD_great_6 : decode M_RD_great.2.1 6 = .ok (.iload_n 0, 1) := by decide +kernel
theorem d_RD_great_7 : decode M_RD_great.2.1 7 = .ok (.bipush 90, 2) := by decide +kernel
theorem d_RD_great_9 : decode M_RD_great.2.1 9 = .ok (.if_icmp .le 9, 3) := by decide +kernel
theorem d_RD_great_12 : decode M_RD_great.2.1 12 = .ok (.iload_n 0, 1) := by decide +kernel
theorem d_RD_great_13 : decode M_RD_great.2.1 13 = .ok (.bipush 95, 2) := by decide +kernel
theorem d_RD_great_15 : decode M_RD_great.2.1 15 = .ok (.if_icmp .ne 7, 3) := by decide +kernel
theorem d_RD_great_18 : decode M_RD_great.2.1 18 = .ok (.iconst 1, 1) := by decide +kernel
theorem d_RD_great_19 : decode M_RD_great.2.1 19 = .ok (.goto 4, 3) := by decide +kernel
theorem d_RD_great_22 : decode M_RD_great.2.1 22 = .ok (.iconst 0, 1) := by decide +kernel
theorem d_RD_great_23 : decode M_RD_great.2.1 23 = .ok (.ireturn, 1) := by decide +kernel
set_option maxRecDepth 20000 in
theorem w_RD_great {E : xR} {n : Nat} {h : xH} {c : Int32} : x_Mt E M_RD_great 0 0 0 [.int c] n h (x_Y (some (.int (g_b2 (g_gr c)))) n h) := by
  refine x_Mt.of (by decide) (Nat.le_of_ble_eq_true rfl) ?_
  show x_W E M_RD_great _ _ n h 0 [(0, .int c)] [] 0 0
  refine x_iload_n d_RD_great_0 rfl rfl ?_
  refine x_bipush 65 d_RD_great_1 (by decide) ?_
  refine x_icmp_lt 12 d_RD_great_3 (by decide) (fun c_3 => ?_) (fun c_3 => ?_)
  · refine x_iload_n d_RD_great_12 rfl rfl ?_
    refine x_bipush 95 d_RD_great_13 (by decide) ?_
    refine x_icmp_ne 22 d_RD_great_15 (by decide) (fun c_15 => ?_) (fun c_15 => ?_)
    · refine x_iconst 0 d_RD_great_22 (by decide) ?_
      exact x_ireturn d_RD_great_23 rfl rfl ⟨congrArg (fun z => Sum.inl (some (Value.int z))) (show (0 : Int32) = g_b2 (g_gr c) by simp [g_b2, g_gr, *]), rfl, fun _ _ => rfl, rfl, rfl⟩
    · refine x_iconst 1 d_RD_great_18 (by decide) ?_
      refine x_goto 23 d_RD_great_19 (by decide) ?_
      exact x_ireturn d_RD_great_23 rfl rfl ⟨congrArg (fun z => Sum.inl (some (Value.int z))) (show (1 : Int32) = g_b2 (g_gr c) by simp [g_b2, g_gr, *]), rfl, fun _ _ => rfl, rfl, rfl⟩
  · refine x_iload_n d_RD_great_6 rfl rfl ?_
    refine x_bipush 90 d_RD_great_7 (by decide) ?_
    refine x_icmp_le 18 d_RD_great_9 (by decide) (fun c_9 => ?_) (fun c_9 => ?_)
    · refine x_iconst 1 d_RD_great_18 (by decide) ?_
      refine x_goto 23 d_RD_great_19 (by decide) ?_
      exact x_ireturn d_RD_great_23 rfl rfl ⟨congrArg (fun z => Sum.inl (some (Value.int z))) (show (1 : Int32) = g_b2 (g_gr c) by simp [g_b2, g_gr, *]), rfl, fun _ _ => rfl, rfl, rfl⟩
    · refine x_iload_n d_RD_great_12 rfl rfl ?_
      refine x_bipush 95 d_RD_great_13 (by decide) ?_
      refine x_icmp_ne 22 d_RD_great_15 (by decide) (fun c_15 => ?_) (fun c_15 => ?_)
      · refine x_iconst 0 d_RD_great_22 (by decide) ?_
        exact x_ireturn d_RD_great_23 rfl rfl ⟨congrArg (fun z => Sum.inl (some (Value.int z))) (show (0 : Int32) = g_b2 (g_gr c) by simp [g_b2, g_gr, *]), rfl, fun _ _ => rfl, rfl, rfl⟩
      · refine x_iconst 1 d_RD_great_18 (by decide) ?_
        refine x_goto 23 d_RD_great_19 (by decide) ?_
        exact x_ireturn d_RD_great_23 rfl rfl ⟨congrArg (fun z => Sum.inl (some (Value.int z))) (show (1 : Int32) = g_b2 (g_gr c) by simp [g_b2, g_gr, *]), rfl, fun _ _ => rfl, rfl, rfl⟩
theorem d_RD_digit_0 : decode M_RD_digit.2.1 0 = .ok (.iload_n 0, 1) := by decide +kernel
theorem d_RD_digit_1 : decode M_RD_digit.2.1 1 = .ok (.bipush 48, 2) := by decide +kernel
theorem d_RD_digit_3 : decode M_RD_digit.2.1 3 = .ok (.if_icmp .lt 13, 3) := by decide +kernel
theorem d_RD_digit_6 : decode M_RD_digit.2.1 6 = .ok (.iload_n 0, 1) := by decide +kernel
theorem d_RD_digit_7 : decode M_RD_digit.2.1 7 = .ok (.bipush 57, 2) := by decide +kernel
theorem d_RD_digit_9 : decode M_RD_digit.2.1 9 = .ok (.if_icmp .gt 7, 3) := by decide +kernel
theorem d_RD_digit_12 : decode M_RD_digit.2.1 12 = .ok (.iconst 1, 1) := by decide +kernel
theorem d_RD_digit_13 : decode M_RD_digit.2.1 13 = .ok (.goto 4, 3) := by decide +kernel
theorem d_RD_digit_16 : decode M_RD_digit.2.1 16 = .ok (.iconst 0, 1) := by decide +kernel
theorem d_RD_digit_17 : decode M_RD_digit.2.1 17 = .ok (.ireturn, 1) := by decide +kernel
set_option maxRecDepth 20000 in
theorem w_RD_digit {E : xR} {n : Nat} {h : xH} {c : Int32} : x_Mt E M_RD_digit 0 0 0 [.int c] n h (x_Y (some (.int (g_b2 (g_dig c)))) n h) := by
  refine x_Mt.of (by decide) (Nat.le_of_ble_eq_true rfl) ?_
  show x_W E M_RD_digit _ _ n h 0 [(0, .int c)] [] 0 0
  refine x_iload_n d_RD_digit_0 rfl rfl ?_
  refine x_bipush 48 d_RD_digit_1 (by decide) ?_
  refine x_icmp_lt 16 d_RD_digit_3 (by decide) (fun c_3 => ?_) (fun c_3 => ?_)
  · refine x_iconst 0 d_RD_digit_16 (by decide) ?_
    exact x_ireturn d_RD_digit_17 rfl rfl ⟨congrArg (fun z => Sum.inl (some (Value.int z))) (show (0 : Int32) = g_b2 (g_dig c) by simp [g_b2, g_dig, *]), rfl, fun _ _ => rfl, rfl, rfl⟩
  · refine x_iload_n d_RD_digit_6 rfl rfl ?_
    refine x_bipush 57 d_RD_digit_7 (by decide) ?_
    refine x_icmp_gt 16 d_RD_digit_9 (by decide) (fun c_9 => ?_) (fun c_9 => ?_)
    · refine x_iconst 0 d_RD_digit_16 (by decide) ?_
      exact x_ireturn d_RD_digit_17 rfl rfl ⟨congrArg (fun z => Sum.inl (some (Value.int z))) (show (0 : Int32) = g_b2 (g_dig c) by simp [g_b2, g_dig, *]), rfl, fun _ _ => rfl, rfl, rfl⟩
    · refine x_iconst 1 d_RD_digit_12 (by decide) ?_
      refine x_goto 17 d_RD_digit_13 (by decide) ?_
      exact x_ireturn d_RD_digit_17 rfl rfl ⟨congrArg (fun z => Sum.inl (some (Value.int z))) (show (1 : Int32) = g_b2 (g_dig c) by simp [g_b2, g_dig, *]), rfl, fun _ _ => rfl, rfl, rfl⟩
theorem d_RD_blank_0 : decode M_RD_blank.2.1 0 = .ok (.iload_n 0, 1) := by decide +kernel
theorem d_RD_blank_1 : decode M_RD_blank.2.1 1 = .ok (.bipush 9, 2) := by decide +kernel
theorem d_RD_blank_3 : decode M_RD_blank.2.1 3 = .ok (.if_icmp .eq 21, 3) := by decide +kernel
theorem d_RD_blank_6 : decode M_RD_blank.2.1 6 = .ok (.iload_n 0, 1) := by decide +kernel
theorem d_RD_blank_7 : decode M_RD_blank.2.1 7 = .ok (.bipush 10, 2) := by decide +kernel
theorem d_RD_blank_9 : decode M_RD_blank.2.1 9 = .ok (.if_icmp .eq 15, 3) := by decide +kernel
theorem d_RD_blank_12 : decode M_RD_blank.2.1 12 = .ok (.iload_n 0, 1) := by decide +kernel
theorem d_RD_blank_13 : decode M_RD_blank.2.1 13 = .ok (.bipush 13, 2) := by decide +kernel
theorem d_RD_blank_15 : decode M_RD_blank.2.1 15 = .ok (.if_icmp .eq 9, 3) := by decide +kernel
theorem d_RD_blank_18 : decode M_RD_blank.2.1 18 = .ok (.iload_n 0, 1) := by decide +kernel
theorem d_RD_blank_19 : decode M_RD_blank.2.1 19 = .ok (.bipush 32, 2) := by decide +kernel
theorem d_RD_blank_21 : decode M_RD_blank.2.1 21 = .ok (.if_icmp .ne 7, 3) := by decide +kernel
theorem d_RD_blank_24 : decode M_RD_blank.2.1 24 = .ok (.iconst 1, 1) := by decide +kernel
theorem d_RD_blank_25 : decode M_RD_blank.2.1 25 = .ok (.goto 4, 3) := by decide +kernel
theorem d_RD_blank_28 : decode M_RD_blank.2.1 28 = .ok (.iconst 0, 1) := by decide +kernel
theorem d_RD_blank_29 : decode M_RD_blank.2.1 29 = .ok (.ireturn, 1) := by decide +kernel
set_option maxRecDepth 20000 in
theorem w_RD_blank {E : xR} {n : Nat} {h : xH} {c : Int32} : x_Mt E M_RD_blank 0 0 0 [.int c] n h (x_Y (some (.int (g_b2 (g_blank c)))) n h) := by
  refine x_Mt.of (by decide) (Nat.le_of_ble_eq_true rfl) ?_
  show x_W E M_RD_blank _ _ n h 0 [(0, .int c)] [] 0 0
  refine x_iload_n d_RD_blank_0 rfl rfl ?_
  refine x_bipush 9 d_RD_blank_1 (by decide) ?_
  refine x_icmp_eq 24 d_RD_blank_3 (by decide) (fun c_3 => ?_) (fun c_3 => ?_)
  · refine x_iconst 1 d_RD_blank_24 (by decide) ?_
    refine x_goto 29 d_RD_blank_25 (by decide) ?_
    exact x_ireturn d_RD_blank_29 rfl rfl ⟨congrArg (fun z => Sum.inl (some (Value.int z))) (show (1 : Int32) = g_b2 (g_blank c) by simp [g_b2, g_blank, *]), rfl, fun _ _ => rfl, rfl, rfl⟩
  · refine x_iload_n d_RD_blank_6 rfl rfl ?_
    refine x_bipush 10 d_RD_blank_7 (by decide) ?_
    refine x_icmp_eq 24 d_RD_blank_9 (by decide) (fun c_9 => ?_) (fun c_9 => ?_)
    · refine x_iconst 1 d_RD_blank_24 (by decide) ?_
      refine x_goto 29 d_RD_blank_25 (by decide) ?_
      exact x_ireturn d_RD_blank_29 rfl rfl ⟨congrArg (fun z => Sum.inl (some (Value.int z))) (show (1 : Int32) = g_b2 (g_blank c) by simp [g_b2, g_blank, *]), rfl, fun _ _ => rfl, rfl, rfl⟩
    · refine x_iload_n d_RD_blank_12 rfl rfl ?_
      refine x_bipush 13 d_RD_blank_13 (by decide) ?_
      refine x_icmp_eq 24 d_RD_blank_15 (by decide) (fun c_15 => ?_) (fun c_15 => ?_)
      · refine x_iconst 1 d_RD_blank_24 (by decide) ?_
        refine x_goto 29 d_RD_blank_25 (by decide) ?_
        exact x_ireturn d_RD_blank_29 rfl rfl ⟨congrArg (fun z => Sum.inl (some (Value.int z))) (show (1 : Int32) = g_b2 (g_blank c) by simp [g_b2, g_blank, *]), rfl, fun _ _ => rfl, rfl, rfl⟩
      · refine x_iload_n d_RD_blank_18 rfl rfl ?_
        refine x_bipush 32 d_RD_blank_19 (by decide) ?_
        refine x_icmp_ne 28 d_RD_blank_21 (by decide) (fun c_21 => ?_) (fun c_21 => ?_)
        · refine x_iconst 0 d_RD_blank_28 (by decide) ?_
          exact x_ireturn d_RD_blank_29 rfl rfl ⟨congrArg (fun z => Sum.inl (some (Value.int z))) (show (0 : Int32) = g_b2 (g_blank c) by simp [g_b2, g_blank, *]), rfl, fun _ _ => rfl, rfl, rfl⟩
        · refine x_iconst 1 d_RD_blank_24 (by decide) ?_
          refine x_goto 29 d_RD_blank_25 (by decide) ?_
          exact x_ireturn d_RD_blank_29 rfl rfl ⟨congrArg (fun z => Sum.inl (some (Value.int z))) (show (1 : Int32) = g_b2 (g_blank c) by simp [g_b2, g_blank, *]), rfl, fun _ _ => rfl, rfl, rfl⟩
theorem d_RD_symbol_0 : decode M_RD_symbol.2.1 0 = .ok (.iload_n 0, 1) := by decide +kernel
theorem d_RD_symbol_1 : decode M_RD_symbol.2.1 1 = .ok (.ifCond .le 16, 3) := by decide +kernel
theorem d_RD_symbol_4 : decode M_RD_symbol.2.1 4 = .ok (.ldc 130, 2) := by decide +kernel
theorem d_RD_symbol_6 : decode M_RD_symbol.2.1 6 = .ok (.iload_n 0, 1) := by decide +kernel
theorem d_RD_symbol_7 : decode M_RD_symbol.2.1 7 = .ok (.invokevirtual 132, 3) := by decide +kernel
theorem d_RD_symbol_10 : decode M_RD_symbol.2.1 10 = .ok (.ifCond .lt 7, 3) := by decide +kernel
theorem d_RD_symbol_13 : decode M_RD_symbol.2.1 13 = .ok (.iconst 1, 1) := by decide +kernel
theorem d_RD_symbol_14 : decode M_RD_symbol.2.1 14 = .ok (.goto 4, 3) := by decide +kernel
theorem d_RD_symbol_17 : decode M_RD_symbol.2.1 17 = .ok (.iconst 0, 1) := by decide +kernel
theorem d_RD_symbol_18 : decode M_RD_symbol.2.1 18 = .ok (.ireturn, 1) := by decide +kernel
set_option maxRecDepth 20000 in
theorem w_RD_symbol_p {E : xR} {n : Nat} {h : xH} {v : Nat} (hv : v < 256) (hp : ¬ nI v ≤ 0) : x_Mt E M_RD_symbol 5 0 0 [.int (nI v)] n h (x_Y (some (.int (g_b2 (g_symb (nI v))))) n h) := by
  refine x_Mt.of (by decide) (Nat.le_of_ble_eq_true rfl) ?_
  show x_W E M_RD_symbol _ _ n h 0 [(0, .int (nI v))] [] 0 0
  refine x_iload_n d_RD_symbol_0 rfl rfl ?_
  refine x_if_le 17 d_RD_symbol_1 (by decide) (fun z => absurd z hp) (fun _ => ?_)
  refine x_ldcS (i := 3) d_RD_symbol_4 31 rfl ?_
  refine x_iload_n d_RD_symbol_6 rfl rfl ?_
  refine x_callT1Y d_RD_symbol_7 k_RD_132 rfl (by decide) (w_ST_indexOf0 hv) (Nat.le_of_ble_eq_true rfl) (Nat.le_of_ble_eq_true rfl) (Nat.le_of_ble_eq_true rfl) (Nat.le_of_ble_eq_true rfl) (Nat.le_of_ble_eq_true rfl) rfl ?_
  refine x_if_lt 17 d_RD_symbol_10 (by decide) (fun c_10 => ?_) (fun c_10 => ?_)
  · refine x_iconst 0 d_RD_symbol_17 (by decide) ?_
    exact x_ireturn d_RD_symbol_18 rfl rfl ⟨congrArg (fun z => Sum.inl (some (Value.int z))) (show (0 : Int32) = g_b2 (g_symb (nI v)) by simp [g_b2, g_symb, *, nI_pos (show v < 2 ^ 31 by omega)]), rfl, fun _ _ => rfl, rfl, rfl⟩
  · refine x_iconst 1 d_RD_symbol_13 (by decide) ?_
    refine x_goto 18 d_RD_symbol_14 (by decide) ?_
    exact x_ireturn d_RD_symbol_18 rfl rfl ⟨congrArg (fun z => Sum.inl (some (Value.int z))) (show (1 : Int32) = g_b2 (g_symb (nI v)) by simp [g_b2, g_symb, *, nI_pos (show v < 2 ^ 31 by omega)]), rfl, fun _ _ => rfl, rfl, rfl⟩
set_option maxRecDepth 20000 in
theorem w_RD_symbol_n {E : xR} {n : Nat} {h : xH} {c : Int32} (hc : c ≤ 0) (hs : g_symb c = false) : x_Mt E M_RD_symbol 5 0 0 [.int c] n h (x_Y (some (.int (g_b2 (g_symb c)))) n h) := by
  refine x_Mt.of (by decide) (Nat.le_of_ble_eq_true rfl) ?_
  show x_W E M_RD_symbol _ _ n h 0 [(0, .int c)] [] 0 0
  refine x_iload_n d_RD_symbol_0 rfl rfl ?_
  refine x_if_le 17 d_RD_symbol_1 (by decide) (fun _ => ?_) (fun z => absurd hc z)
  refine x_iconst 0 d_RD_symbol_17 (by decide) ?_
  exact x_ireturn d_RD_symbol_18 rfl rfl ⟨congrArg (fun z => Sum.inl (some (Value.int z))) (show (0 : Int32) = g_b2 (g_symb c) by rw [hs]; rfl), rfl, fun _ _ => rfl, rfl, rfl⟩
theorem g_sbY : ∀ x, x < 256 → g_symb (g_sb x) = g_symb (nI x) ∧ ((0 < x ∧ x < 128 ∧ g_sb x = nI x ∧ ¬ nI x ≤ 0) ∨ (g_sb x ≤ 0 ∧ g_symb (g_sb x) = false)) := by decide +kernel
theorem w_RD_symbol_sb {E : xR} {n : Nat} {h : xH} {v : Nat} (hv : v < 256) : x_Mt E M_RD_symbol 5 0 0 [.int (g_sb v)] n h (x_Y (some (.int (g_b2 (g_symb (g_sb v))))) n h) := by
  rcases (g_sbY v hv).2 with ⟨h1, h2, h3, h4⟩ | ⟨h1, h2⟩
  · rw [h3]; exact w_RD_symbol_p hv h4
  · exact w_RD_symbol_n h1 h2
theorem w_RD_symbol_lo {E : xR} {n : Nat} {h : xH} {u : Nat → Nat} {N j : Nat} (hu : ∀ i, u i < 256) : x_Mt E M_RD_symbol 5 0 0 [.int (g_lo u N j)] n h (x_Y (some (.int (g_b2 (g_symb (g_at u N j))))) n h) := by
  rw [← g_loP (P := g_symb) (fun x hx => (g_sbY x hx).1) hu]
  rcases Nat.lt_or_ge j N with hq | hq
  · rw [g_loI hq]; exact w_RD_symbol_sb (hu j)
  · rw [g_loO hq]; exact w_RD_symbol_n (by decide) (by decide +kernel)
theorem g_loD {u : Nat → Nat} {N i : Nat} (hu : ∀ i, u i < 256) : g_dig (g_lo u N i) = g_dig (g_at u N i) := g_loP (fun x hx => (g_sbT x hx).2.1) hu
theorem g_loS {u : Nat → Nat} {N i : Nat} (hu : ∀ i, u i < 256) : g_small (g_lo u N i) = g_small (g_at u N i) := g_loP (fun x hx => (g_sbT x hx).2.2.1) hu
theorem g_loB {u : Nat → Nat} {N i : Nat} (hu : ∀ i, u i < 256) : g_blank (g_lo u N i) = g_blank (g_at u N i) := g_loP (fun x hx => (g_sbT x hx).2.2.2.2.1) hu
theorem g_loY {u : Nat → Nat} {N i : Nat} (hu : ∀ i, u i < 256) : g_symb (g_lo u N i) = g_symb (g_at u N i) := g_loP (fun x hx => (g_sbY x hx).1) hu
theorem g_sbG : ∀ x, x < 256 → (g_small (g_sb x) || (g_gr (g_sb x) || g_dig (g_sb x))) = g_word (nI x) ∧ g_gr (g_sb x) = g_gr (nI x) ∧ ((g_small (nI x) || g_gr (nI x)) = (g_word (nI x) && !g_dig (nI x))) := by decide +kernel
theorem g_loW {u : Nat → Nat} {N i : Nat} (hu : ∀ i, u i < 256) : (g_small (g_lo u N i) || (g_gr (g_lo u N i) || g_dig (g_lo u N i))) = g_word (g_at u N i) := by
  rcases Nat.lt_or_ge i N with h | h
  · rw [g_loI h, g_at_in h]; exact (g_sbG _ (hu i)).1
  · rw [g_loO h, g_at_out h]; decide
theorem g_loG {u : Nat → Nat} {N i : Nat} (hu : ∀ i, u i < 256) : g_gr (g_lo u N i) = g_gr (g_at u N i) := g_loP (fun x hx => (g_sbG x hx).2.1) hu
theorem g_nb8 : ∀ x, x < 256 → vp_nar .byte (g_sb x).toInt8.toInt32 = g_sb x := by decide +kernel
theorem d_RD_look_0 : decode M_RD_look.2.1 0 = .ok (.iload_n 1, 1) := by decide +kernel
theorem d_RD_look_1 : decode M_RD_look.2.1 1 = .ok (.aload_n 0, 1) := by decide +kernel
theorem d_RD_look_2 : decode M_RD_look.2.1 2 = .ok (.getfield 92, 3) := by decide +kernel
theorem d_RD_look_5 : decode M_RD_look.2.1 5 = .ok (.if_icmp .ge 12, 3) := by decide +kernel
theorem d_RD_look_8 : decode M_RD_look.2.1 8 = .ok (.aload_n 0, 1) := by decide +kernel
theorem d_RD_look_9 : decode M_RD_look.2.1 9 = .ok (.getfield 89, 3) := by decide +kernel
theorem d_RD_look_12 : decode M_RD_look.2.1 12 = .ok (.iload_n 1, 1) := by decide +kernel
theorem d_RD_look_13 : decode M_RD_look.2.1 13 = .ok (.baload, 1) := by decide +kernel
theorem d_RD_look_14 : decode M_RD_look.2.1 14 = .ok (.goto 4, 3) := by decide +kernel
theorem d_RD_look_17 : decode M_RD_look.2.1 17 = .ok (.iconst (-1), 1) := by decide +kernel
theorem d_RD_look_18 : decode M_RD_look.2.1 18 = .ok (.ireturn, 1) := by decide +kernel
set_option maxRecDepth 20000 in
theorem w_RD_look {E : xR} {h : xH} {u : Nat → Nat} {N : Nat} {aa bh tk oo lt tp pl vd kn rk : Int32} {nm : Int64} {Wd : Nat → Int32} {j : Nat} (h22 : h 22 = .inl (1, 4096, .inl (fun i => g_sb (u i)))) (hN : N ≤ 4096) (hj : j < 2 ^ 31) : x_Mt E M_RD_look 0 0 0 [.ref 36, .int (nI j)] 52 (g_rw h N aa bh tk oo nm lt tp pl vd kn rk Wd) (x_Y (some (.int (g_lo u N j))) 52 (g_rw h N aa bh tk oo nm lt tp pl vd kn rk Wd)) := by
  refine x_Mt.of (by decide) (Nat.le_of_ble_eq_true rfl) ?_
  show x_W E M_RD_look _ _ 52 (g_rw h N aa bh tk oo nm lt tp pl vd kn rk Wd) 0 [(0, .ref 36), (1, .int (nI j))] [] 0 0
  refine x_iload_n d_RD_look_0 rfl rfl ?_
  refine x_aload_n d_RD_look_1 rfl rfl ?_
  refine x_get d_RD_look_2 f_RD_92 (Nat.le_of_ble_eq_true rfl) (Nat.le_of_ble_eq_true rfl) (by first | rfl | assumption) (by rfl) ?_
  refine x_icmp_ge 17 d_RD_look_5 (by decide) (fun c_5 => ?_) (fun c_5 => ?_)
  · refine x_iconst (-1) d_RD_look_17 (by decide) ?_
    refine x_topi (g_lo u N j) (by rw [g_loO ((nI_leI (by omega) hj).mp c_5)]) ?_
    exact x_ireturn d_RD_look_18 rfl rfl ⟨rfl, rfl, fun _ _ => rfl, rfl, rfl⟩
  · refine x_aload_n d_RD_look_8 rfl rfl ?_
    refine x_get d_RD_look_9 f_RD_89 (Nat.le_of_ble_eq_true rfl) (Nat.le_of_ble_eq_true rfl) (by first | rfl | assumption) (by rfl) ?_
    refine x_iload_n d_RD_look_12 rfl rfl ?_
    refine x_bald d_RD_look_13 (Nat.le_of_ble_eq_true rfl) (Nat.le_of_ble_eq_true rfl) (by first | rfl | assumption) (vp_in_nI (Nat.lt_of_lt_of_le (Nat.not_le.mp fun q => c_5 (nI_le q hj)) hN) (by decide)) ?_
    refine x_goto 18 d_RD_look_14 (by decide) ?_
    refine x_topi (g_lo u N j) (by rw [nI_clamp hj, g_loI (Nat.not_le.mp fun q => c_5 (nI_le q hj))]) ?_
    exact x_ireturn d_RD_look_18 rfl rfl ⟨rfl, rfl, fun _ _ => rfl, rfl, rfl⟩
theorem d_RD_letter_0 : decode M_RD_letter.2.1 0 = .ok (.aload_n 0, 1) := by decide +kernel
theorem d_RD_letter_1 : decode M_RD_letter.2.1 1 = .ok (.getfield 68, 3) := by decide +kernel
theorem d_RD_letter_4 : decode M_RD_letter.2.1 4 = .ok (.aload_n 0, 1) := by decide +kernel
theorem d_RD_letter_5 : decode M_RD_letter.2.1 5 = .ok (.getfield 139, 3) := by decide +kernel
theorem d_RD_letter_8 : decode M_RD_letter.2.1 8 = .ok (.iload_n 1, 1) := by decide +kernel
theorem d_RD_letter_9 : decode M_RD_letter.2.1 9 = .ok (.i2b, 1) := by decide +kernel
theorem d_RD_letter_10 : decode M_RD_letter.2.1 10 = .ok (.bastore, 1) := by decide +kernel
theorem d_RD_letter_11 : decode M_RD_letter.2.1 11 = .ok (.aload_n 0, 1) := by decide +kernel
theorem d_RD_letter_12 : decode M_RD_letter.2.1 12 = .ok (.dup, 1) := by decide +kernel
theorem d_RD_letter_13 : decode M_RD_letter.2.1 13 = .ok (.getfield 139, 3) := by decide +kernel
theorem d_RD_letter_16 : decode M_RD_letter.2.1 16 = .ok (.iconst 1, 1) := by decide +kernel
theorem d_RD_letter_17 : decode M_RD_letter.2.1 17 = .ok (.iadd, 1) := by decide +kernel
theorem d_RD_letter_18 : decode M_RD_letter.2.1 18 = .ok (.putfield 139, 3) := by decide +kernel
theorem d_RD_letter_21 : decode M_RD_letter.2.1 21 = .ok (.return_, 1) := by decide +kernel
set_option maxRecDepth 20000 in
theorem w_RD_letter {E : xR} {h : xH} {N : Nat} {aa bh tk oo tp pl vd kn rk : Int32} {nm : Int64} {Wd : Nat → Int32} {L : Nat} {c : Int32} (hL : L < 4096) (hc : vp_nar .byte c.toInt8.toInt32 = c) : x_Mt E M_RD_letter 0 0 0 [.ref 36, .int c] 52 (g_rw h N aa bh tk oo nm (nI L) tp pl vd kn rk Wd) (x_Y none 52 (g_rw h N aa bh tk oo nm (nI (L + 1)) tp pl vd kn rk (upd Wd L c))) := by
  refine x_Mt.of (by decide) (Nat.le_of_ble_eq_true rfl) ?_
  show x_W E M_RD_letter _ _ 52 (g_rw h N aa bh tk oo nm (nI L) tp pl vd kn rk Wd) 0 [(0, .ref 36), (1, .int c)] [] 0 0
  refine x_aload_n d_RD_letter_0 rfl rfl ?_
  refine x_get d_RD_letter_1 f_RD_68 (Nat.le_of_ble_eq_true rfl) (Nat.le_of_ble_eq_true rfl) (by first | rfl | assumption) (by rfl) ?_
  refine x_aload_n d_RD_letter_4 rfl rfl ?_
  refine x_get d_RD_letter_5 f_RD_139 (Nat.le_of_ble_eq_true rfl) (Nat.le_of_ble_eq_true rfl) (by first | rfl | assumption) (by rfl) ?_
  refine x_iload_n d_RD_letter_8 rfl rfl ?_
  refine x_i2b d_RD_letter_9 ?_
  refine x_bast d_RD_letter_10 (Nat.le_of_ble_eq_true rfl) (Nat.le_of_ble_eq_true rfl) (by first | rfl | assumption) (vp_in_nI hL (by decide)) ?_
  refine x_aload_n d_RD_letter_11 rfl rfl ?_
  refine x_dup d_RD_letter_12 rfl ?_
  refine x_get d_RD_letter_13 f_RD_139 (Nat.le_of_ble_eq_true rfl) (Nat.le_of_ble_eq_true rfl) (by first | rfl | assumption) (by rfl) ?_
  refine x_iconst 1 d_RD_letter_16 (by decide) ?_
  refine x_iadd d_RD_letter_17 ?_
  refine x_topi (nI (L + 1)) (nI_succ L).symm ?_
  refine x_put d_RD_letter_18 f_RD_139 (Nat.le_of_ble_eq_true rfl) (Nat.le_of_ble_eq_true rfl) (by first | rfl | assumption) (by rfl) (by rfl) (by exact (Nat.le_of_ble_eq_true rfl)) ?_
  exact x_return d_RD_letter_21 rfl ⟨rfl, rfl, x_pt rfl rfl rfl rfl rfl rfl rfl rfl rfl rfl rfl rfl rfl rfl rfl rfl rfl rfl rfl rfl rfl rfl rfl rfl rfl rfl rfl rfl rfl rfl rfl rfl rfl rfl rfl rfl rfl rfl rfl rfl (show Sum.inl (1, 4096, Sum.inl (upd _ (nI L).toNatClampNeg _)) = _ by rw [nI_clamp (by omega), hc]; rfl) rfl rfl rfl rfl rfl rfl rfl rfl rfl rfl rfl, rfl, rfl⟩
theorem d_RD_take_0 : decode M_RD_take.2.1 0 = .ok (.aload_n 0, 1) := by decide +kernel
theorem d_RD_take_1 : decode M_RD_take.2.1 1 = .ok (.iload_n 1, 1) := by decide +kernel
theorem d_RD_take_2 : decode M_RD_take.2.1 2 = .ok (.putfield 123, 3) := by decide +kernel
theorem d_RD_take_5 : decode M_RD_take.2.1 5 = .ok (.aload_n 0, 1) := by decide +kernel
theorem d_RD_take_6 : decode M_RD_take.2.1 6 = .ok (.iload_n 2, 1) := by decide +kernel
theorem d_RD_take_7 : decode M_RD_take.2.1 7 = .ok (.putfield 96, 3) := by decide +kernel
theorem d_RD_take_10 : decode M_RD_take.2.1 10 = .ok (.return_, 1) := by decide +kernel
set_option maxRecDepth 20000 in
theorem w_RD_take {E : xR} {h : xH} {N : Nat} {aa bh tk oo lt tp pl vd kn rk : Int32} {nm : Int64} {Wd : Nat → Int32} {k b : Int32} : x_Mt E M_RD_take 0 0 0 [.ref 36, .int k, .int b] 52 (g_rw h N aa bh tk oo nm lt tp pl vd kn rk Wd) (x_Y none 52 (g_rw h N aa b k oo nm lt tp pl vd kn rk Wd)) := by
  refine x_Mt.of (by decide) (Nat.le_of_ble_eq_true rfl) ?_
  show x_W E M_RD_take _ _ 52 (g_rw h N aa bh tk oo nm lt tp pl vd kn rk Wd) 0 [(0, .ref 36), (1, .int k), (2, .int b)] [] 0 0
  refine x_aload_n d_RD_take_0 rfl rfl ?_
  refine x_iload_n d_RD_take_1 rfl rfl ?_
  refine x_put d_RD_take_2 f_RD_123 (Nat.le_of_ble_eq_true rfl) (Nat.le_of_ble_eq_true rfl) (by first | rfl | assumption) (by rfl) (by rfl) (by exact (Nat.le_of_ble_eq_true rfl)) ?_
  refine x_aload_n d_RD_take_5 rfl rfl ?_
  refine x_iload_n d_RD_take_6 rfl rfl ?_
  refine x_put d_RD_take_7 f_RD_96 (Nat.le_of_ble_eq_true rfl) (Nat.le_of_ble_eq_true rfl) (by first | rfl | assumption) (by rfl) (by rfl) (by exact (Nat.le_of_ble_eq_true rfl)) ?_
  exact x_return d_RD_take_10 rfl ⟨rfl, rfl, x_pt rfl rfl rfl rfl rfl rfl rfl rfl rfl rfl rfl rfl rfl rfl rfl rfl rfl rfl rfl rfl rfl rfl rfl rfl rfl rfl rfl rfl rfl rfl rfl rfl rfl rfl rfl rfl rfl rfl rfl rfl rfl rfl rfl rfl rfl rfl rfl rfl rfl rfl rfl rfl, rfl, rfl⟩
