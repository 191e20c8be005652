/-- a Bool as an int; a byte with its sign; the sign's character at a place: -1 behind the end -/
def g_b2 (b : Bool) : Int32 := bif b then 1 else 0
theorem g_nb (b : Bool) : narrow .boolean (.int (g_b2 b)) = .int (g_b2 b) := by cases b <;> rfl
def g_sb (u : Nat) : Int32 := (nI u).toInt8.toInt32
theorem g_sb255 : ∀ u, u < 256 → g_sb u &&& 255 = nI u := by decide +kernel
def g_at (u : Nat → Nat) (N j : Nat) : Int32 := bif Nat.blt j N then nI (u j) else -1
theorem g_at_in {u : Nat → Nat} {N j : Nat} (h : j < N) : g_at u N j = nI (u j) := by
  have : Nat.blt j N = true := by simp [Nat.blt_eq, h]
  rw [g_at, this]; rfl
theorem g_at_out {u : Nat → Nat} {N j : Nat} (h : N ≤ j) : g_at u N j = -1 := by
  have : Nat.blt j N = false := by
    cases hb : Nat.blt j N with
    | false => rfl
    | true => exact absurd (Nat.blt_eq.mp hb) (Nat.not_lt.mpr h)
  rw [g_at, this]; rfl
def g_dig (c : Int32) : Bool := !decide (c < 48) && !decide (57 < c)
def g_small (c : Int32) : Bool := !decide (c < 97) && !decide (122 < c)
def g_word (c : Int32) : Bool := (!decide (c < 97) && decide (c ≤ 122)) || ((!decide (c < 65) && decide (c ≤ 90)) || ((!decide (c < 48) && decide (c ≤ 57)) || decide (c = 95)))
def g_blank (c : Int32) : Bool := decide (c = 9) || (decide (c = 10) || (decide (c = 13) || decide (c = 32)))
def g_symb (c : Int32) : Bool := !decide (c < 0) && !decide (g_ixF c.toInt8.toInt32 g_sy 0 < 0)
/-- as far as P holds: m at most -/
def g_run (P : Int32 → Bool) (a : Nat → Int32) : Nat → Nat → Nat
  | 0, i => i
  | m + 1, i => bif P (a i) then g_run P a m (i + 1) else i
theorem g_run_no {P : Int32 → Bool} {a : Nat → Int32} {m i : Nat} (h : g_b2 (P (a i)) = 0) : g_run P a m i = i := by
  cases m with
  | zero => rfl
  | succ m =>
    rw [g_run]
    cases hb : P (a i) with
    | false => rfl
    | true => rw [hb] at h; exact absurd h (by decide)
theorem g_run_yes {P : Int32 → Bool} {a : Nat → Int32} {m i : Nat} (h : ¬ g_b2 (P (a i)) = 0) : g_run P a (m + 1) i = g_run P a m (i + 1) := by
  rw [g_run]
  cases hb : P (a i) with
  | true => rfl
  | false => rw [hb] at h; exact absurd rfl h
theorem g_run_le {P : Int32 → Bool} {a : Nat → Int32} : ∀ (m i : Nat), i ≤ g_run P a m i ∧ g_run P a m i ≤ i + m
  | 0, i => ⟨Nat.le_refl _, Nat.le_refl _⟩
  | m + 1, i => by
    rw [g_run]
    have := g_run_le (P := P) (a := a) m (i + 1)
    cases P (a i) with
    | true => exact ⟨by show i ≤ g_run P a m (i + 1); omega, by show g_run P a m (i + 1) ≤ _; omega⟩
    | false => exact ⟨Nat.le_refl _, by show i ≤ _; omega⟩
/-- blanks and comments -/
def g_sk (a : Nat → Int32) : Nat → Bool → Nat → Nat
  | 0, _, i => i
  | m + 1, c, i => bif c then g_sk a m (!decide (a i = 10)) (i + 1) else bif decide (a i = 37) then g_sk a m true (i + 1) else bif g_blank (a i) then g_sk a m false (i + 1) else i
theorem d_SG_isDigit_0 : decode M_SG_isDigit.2.1 0 = .ok (.iload_n 0, 1) := by decide +kernel
theorem d_SG_isDigit_1 : decode M_SG_isDigit.2.1 1 = .ok (.bipush 48, 2) := by decide +kernel
theorem d_SG_isDigit_3 : decode M_SG_isDigit.2.1 3 = .ok (.if_icmp .lt 13, 3) := by decide +kernel
theorem d_SG_isDigit_6 : decode M_SG_isDigit.2.1 6 = .ok (.iload_n 0, 1) := by decide +kernel
theorem d_SG_isDigit_7 : decode M_SG_isDigit.2.1 7 = .ok (.bipush 57, 2) := by decide +kernel
theorem d_SG_isDigit_9 : decode M_SG_isDigit.2.1 9 = .ok (.if_icmp .gt 7, 3) := by decide +kernel
theorem d_SG_isDigit_12 : decode M_SG_isDigit.2.1 12 = .ok (.iconst 1, 1) := by decide +kernel
theorem d_SG_isDigit_13 : decode M_SG_isDigit.2.1 13 = .ok (.goto 4, 3) := by decide +kernel
theorem d_SG_isDigit_16 : decode M_SG_isDigit.2.1 16 = .ok (.iconst 0, 1) := by decide +kernel
theorem d_SG_isDigit_17 : decode M_SG_isDigit.2.1 17 = .ok (.ireturn, 1) := by decide +kernel
set_option maxRecDepth 20000 in
theorem w_SG_isDigit {E : xR} {n : Nat} {h : xH} {c : Int32} : x_Mt E M_SG_isDigit 0 0 0 [.int c] n h (x_Y (some (.int (g_b2 (g_dig c)))) n h) := by
  refine x_Mt.of (by decide) (Nat.le_of_ble_eq_true rfl) ?_
  show x_W E M_SG_isDigit _ _ n h 0 [(0, .int c)] [] 0 0
  refine x_iload_n d_SG_isDigit_0 rfl rfl ?_
  refine x_bipush 48 d_SG_isDigit_1 (by decide) ?_
  refine x_icmp_lt 16 d_SG_isDigit_3 (by decide) (fun c_3 => ?_) (fun c_3 => ?_)
  · refine x_iconst 0 d_SG_isDigit_16 (by decide) ?_
    exact x_ireturn d_SG_isDigit_17 rfl rfl ⟨congrArg (fun z => Sum.inl (some (Value.int z))) (show (0 : Int32) = g_b2 (g_dig c) by simp [g_b2, g_dig, *]), rfl, fun _ _ => rfl, rfl, rfl⟩
  · refine x_iload_n d_SG_isDigit_6 rfl rfl ?_
    refine x_bipush 57 d_SG_isDigit_7 (by decide) ?_
    refine x_icmp_gt 16 d_SG_isDigit_9 (by decide) (fun c_9 => ?_) (fun c_9 => ?_)
    · refine x_iconst 0 d_SG_isDigit_16 (by decide) ?_
      exact x_ireturn d_SG_isDigit_17 rfl rfl ⟨congrArg (fun z => Sum.inl (some (Value.int z))) (show (0 : Int32) = g_b2 (g_dig c) by simp [g_b2, g_dig, *]), rfl, fun _ _ => rfl, rfl, rfl⟩
    · refine x_iconst 1 d_SG_isDigit_12 (by decide) ?_
      refine x_goto 17 d_SG_isDigit_13 (by decide) ?_
      exact x_ireturn d_SG_isDigit_17 rfl rfl ⟨congrArg (fun z => Sum.inl (some (Value.int z))) (show (1 : Int32) = g_b2 (g_dig c) by simp [g_b2, g_dig, *]), rfl, fun _ _ => rfl, rfl, rfl⟩
theorem d_SG_isSmall_0 : decode M_SG_isSmall.2.1 0 = .ok (.iload_n 0, 1) := by decide +kernel
theorem d_SG_isSmall_1 : decode M_SG_isSmall.2.1 1 = .ok (.bipush 97, 2) := by decide +kernel
theorem d_SG_isSmall_3 : decode M_SG_isSmall.2.1 3 = .ok (.if_icmp .lt 13, 3) := by decide +kernel
theorem d_SG_isSmall_6 : decode M_SG_isSmall.2.1 6 = .ok (.iload_n 0, 1) := by decide +kernel
theorem d_SG_isSmall_7 : decode M_SG_isSmall.2.1 7 = .ok (.bipush 122, 2) := by decide +kernel
theorem d_SG_isSmall_9 : decode M_SG_isSmall.2.1 9 = .ok (.if_icmp .gt 7, 3) := by decide +kernel
theorem d_SG_isSmall_12 : decode M_SG_isSmall.2.1 12 = .ok (.iconst 1, 1) := by decide +kernel
theorem d_SG_isSmall_13 : decode M_SG_isSmall.2.1 13 = .ok (.goto 4, 3) := by decide +kernel
theorem d_SG_isSmall_16 : decode M_SG_isSmall.2.1 16 = .ok (.iconst 0, 1) := by decide +kernel
theorem d_SG_isSmall_17 : decode M_SG_isSmall.2.1 17 = .ok (.ireturn, 1) := by decide +kernel
set_option maxRecDepth 20000 in
theorem w_SG_isSmall {E : xR} {n : Nat} {h : xH} {c : Int32} : x_Mt E M_SG_isSmall 0 0 0 [.int c] n h (x_Y (some (.int (g_b2 (g_small c)))) n h) := by
  refine x_Mt.of (by decide) (Nat.le_of_ble_eq_true rfl) ?_
  show x_W E M_SG_isSmall _ _ n h 0 [(0, .int c)] [] 0 0
  refine x_iload_n d_SG_isSmall_0 rfl rfl ?_
  refine x_bipush 97 d_SG_isSmall_1 (by decide) ?_
  refine x_icmp_lt 16 d_SG_isSmall_3 (by decide) (fun c_3 => ?_) (fun c_3 => ?_)
  · refine x_iconst 0 d_SG_isSmall_16 (by decide) ?_
    exact x_ireturn d_SG_isSmall_17 rfl rfl ⟨congrArg (fun z => Sum.inl (some (Value.int z))) (show (0 : Int32) = g_b2 (g_small c) by simp [g_b2, g_small, *]), rfl, fun _ _ => rfl, rfl, rfl⟩
  · refine x_iload_n d_SG_isSmall_6 rfl rfl ?_
    refine x_bipush 122 d_SG_isSmall_7 (by decide) ?_
    refine x_icmp_gt 16 d_SG_isSmall_9 (by decide) (fun c_9 => ?_) (fun c_9 => ?_)
    · refine x_iconst 0 d_SG_isSmall_16 (by decide) ?_
      exact x_ireturn d_SG_isSmall_17 rfl rfl ⟨congrArg (fun z => Sum.inl (some (Value.int z))) (show (0 : Int32) = g_b2 (g_small c) by simp [g_b2, g_small, *]), rfl, fun _ _ => rfl, rfl, rfl⟩
    · refine x_iconst 1 d_SG_isSmall_12 (by decide) ?_
      refine x_goto 17 d_SG_isSmall_13 (by decide) ?_
      exact x_ireturn d_SG_isSmall_17 rfl rfl ⟨congrArg (fun z => Sum.inl (some (Value.int z))) (show (1 : Int32) = g_b2 (g_small c) by simp [g_b2, g_small, *]), rfl, fun _ _ => rfl, rfl, rfl⟩
theorem d_SG_isWordCharacter_0 : decode M_SG_isWordCharacter.2.1 0 = .ok (.iload_n 0, 1) := by decide +kernel
theorem d_SG_isWordCharacter_1 : decode M_SG_isWordCharacter.2.1 1 = .ok (.bipush 97, 2) := by decide +kernel
theorem d_SG_isWordCharacter_3 : decode M_SG_isWordCharacter.2.1 3 = .ok (.if_icmp .lt 9, 3) := by decide +kernel
theorem d_SG_isWordCharacter_6 : decode M_SG_isWordCharacter.2.1 6 = .ok (.iload_n 0, 1) := by decide +kernel
theorem d_SG_isWordCharacter_7 : decode M_SG_isWordCharacter.2.1 7 = .ok (.bipush 122, 2) := by decide +kernel
theorem d_SG_isWordCharacter_9 : decode M_SG_isWordCharacter.2.1 9 = .ok (.if_icmp .le 33, 3) := by decide +kernel
theorem d_SG_isWordCharacter_12 : decode M_SG_isWordCharacter.2.1 12 = .ok (.iload_n 0, 1) := by decide +kernel
theorem d_SG_isWordCharacter_13 : decode M_SG_isWordCharacter.2.1 13 = .ok (.bipush 65, 2) := by decide +kernel
theorem d_SG_isWordCharacter_15 : decode M_SG_isWordCharacter.2.1 15 = .ok (.if_icmp .lt 9, 3) := by decide +kernel
theorem d_SG_isWordCharacter_18 : decode M_SG_isWordCharacter.2.1 18 = .ok (.iload_n 0, 1) := by decide +kernel
theorem d_SG_isWordCharacter_19 : decode M_SG_isWordCharacter.2.1 19 = .ok (.bipush 90, 2) := by decide +kernel
theorem d_SG_isWordCharacter_21 : decode M_SG_isWordCharacter.2.1 21 = .ok (.if_icmp .le 21, 3) := by decide +kernel
theorem d_SG_isWordCharacter_24 : decode M_SG_isWordCharacter.2.1 24 = .ok (.iload_n 0, 1) := by decide +kernel
theorem d_SG_isWordCharacter_25 : decode M_SG_isWordCharacter.2.1 25 = .ok (.bipush 48, 2) := by decide +kernel
theorem d_SG_isWordCharacter_27 : decode M_SG_isWordCharacter.2.1 27 = .ok (.if_icmp .lt 9, 3) := by decide +kernel
theorem d_SG_isWordCharacter_30 : decode M_SG_isWordCharacter.2.1 30 = .ok (.iload_n 0, 1) := by decide +kernel
theorem d_SG_isWordCharacter_31 : decode M_SG_isWordCharacter.2.1 31 = .ok (.bipush 57, 2) := by decide +kernel
theorem d_SG_isWordCharacter_33 : decode M_SG_isWordCharacter.2.1 33 = .ok (.if_icmp .le 9, 3) := by decide +kernel
theorem d_SG_isWordCharacter_36 : decode M_SG_isWordCharacter.2.1 36 = .ok (.iload_n 0, 1) := by decide +kernel
theorem d_SG_isWordCharacter_37 : decode M_SG_isWordCharacter.2.1 37 = .ok (.bipush 95, 2) := by decide +kernel
theorem d_SG_isWordCharacter_39 : decode M_SG_isWordCharacter.2.1 39 = .ok (.if_icmp .ne 7, 3) := by decide +kernel
theorem d_SG_isWordCharacter_42 : decode M_SG_isWordCharacter.2.1 42 = .ok (.iconst 1, 1) := by decide +kernel
theorem d_SG_isWordCharacter_43 : decode M_SG_isWordCharacter.2.1 43 = .ok (.goto 4, 3) := by decide +kernel
theorem d_SG_isWordCharacter_46 : decode M_SG_isWordCharacter.2.1 46 = .ok (.iconst 0, 1) := by decide +kernel
theorem d_SG_isWordCharacter_47 : decode M_SG_isWordCharacter.2.1 47 = .ok (.ireturn, 1) := by decide +kernel
set_option maxRecDepth 20000 in
theorem w_SG_isWordCharacter {E : xR} {n : Nat} {h : xH} {c : Int32} : x_Mt E M_SG_isWordCharacter 0 0 0 [.int c] n h (x_Y (some (.int (g_b2 (g_word c)))) n h) := by
  refine x_Mt.of (by decide) (Nat.le_of_ble_eq_true rfl) ?_
  show x_W E M_SG_isWordCharacter _ _ n h 0 [(0, .int c)] [] 0 0
  refine x_iload_n d_SG_isWordCharacter_0 rfl rfl ?_
  refine x_bipush 97 d_SG_isWordCharacter_1 (by decide) ?_
  refine x_icmp_lt 12 d_SG_isWordCharacter_3 (by decide) (fun c_3 => ?_) (fun c_3 => ?_)
  · refine x_iload_n d_SG_isWordCharacter_12 rfl rfl ?_
    refine x_bipush 65 d_SG_isWordCharacter_13 (by decide) ?_
    refine x_icmp_lt 24 d_SG_isWordCharacter_15 (by decide) (fun c_15 => ?_) (fun c_15 => ?_)
    · refine x_iload_n d_SG_isWordCharacter_24 rfl rfl ?_
      refine x_bipush 48 d_SG_isWordCharacter_25 (by decide) ?_
      refine x_icmp_lt 36 d_SG_isWordCharacter_27 (by decide) (fun c_27 => ?_) (fun c_27 => ?_)
      · refine x_iload_n d_SG_isWordCharacter_36 rfl rfl ?_
        refine x_bipush 95 d_SG_isWordCharacter_37 (by decide) ?_
        refine x_icmp_ne 46 d_SG_isWordCharacter_39 (by decide) (fun c_39 => ?_) (fun c_39 => ?_)
        · refine x_iconst 0 d_SG_isWordCharacter_46 (by decide) ?_
          exact x_ireturn d_SG_isWordCharacter_47 rfl rfl ⟨congrArg (fun z => Sum.inl (some (Value.int z))) (show (0 : Int32) = g_b2 (g_word c) by simp [g_b2, g_word, *]), rfl, fun _ _ => rfl, rfl, rfl⟩
        · refine x_iconst 1 d_SG_isWordCharacter_42 (by decide) ?_
          refine x_goto 47 d_SG_isWordCharacter_43 (by decide) ?_
          exact x_ireturn d_SG_isWordCharacter_47 rfl rfl ⟨congrArg (fun z => Sum.inl (some (Value.int z))) (show (1 : Int32) = g_b2 (g_word c) by simp [g_b2, g_word, *]), rfl, fun _ _ => rfl, rfl, rfl⟩
      · refine x_iload_n d_SG_isWordCharacter_30 rfl rfl ?_
        refine x_bipush 57 d_SG_isWordCharacter_31 (by decide) ?_
        refine x_icmp_le 42 d_SG_isWordCharacter_33 (by decide) (fun c_33 => ?_) (fun c_33 => ?_)
        · refine x_iconst 1 d_SG_isWordCharacter_42 (by decide) ?_
          refine x_goto 47 d_SG_isWordCharacter_43 (by decide) ?_
          exact x_ireturn d_SG_isWordCharacter_47 rfl rfl ⟨congrArg (fun z => Sum.inl (some (Value.int z))) (show (1 : Int32) = g_b2 (g_word c) by simp [g_b2, g_word, *]), rfl, fun _ _ => rfl, rfl, rfl⟩
        · refine x_iload_n d_SG_isWordCharacter_36 rfl rfl ?_
          refine x_bipush 95 d_SG_isWordCharacter_37 (by decide) ?_
          refine x_icmp_ne 46 d_SG_isWordCharacter_39 (by decide) (fun c_39 => ?_) (fun c_39 => ?_)
          · refine x_iconst 0 d_SG_isWordCharacter_46 (by decide) ?_
            exact x_ireturn d_SG_isWordCharacter_47 rfl rfl ⟨congrArg (fun z => Sum.inl (some (Value.int z))) (show (0 : Int32) = g_b2 (g_word c) by simp [g_b2, g_word, *]), rfl, fun _ _ => rfl, rfl, rfl⟩
          · refine x_iconst 1 d_SG_isWordCharacter_42 (by decide) ?_
            refine x_goto 47 d_SG_isWordCharacter_43 (by decide) ?_
            exact x_ireturn d_SG_isWordCharacter_47 rfl rfl ⟨congrArg (fun z => Sum.inl (some (Value.int z))) (show (1 : Int32) = g_b2 (g_word c) by simp [g_b2, g_word, *]), rfl, fun _ _ => rfl, rfl, rfl⟩
    · refine x_iload_n d_SG_isWordCharacter_18 rfl rfl ?_
      refine x_bipush 90 d_SG_isWordCharacter_19 (by decide) ?_
      refine x_icmp_le 42 d_SG_isWordCharacter_21 (by decide) (fun c_21 => ?_) (fun c_21 => ?_)
      · refine x_iconst 1 d_SG_isWordCharacter_42 (by decide) ?_
        refine x_goto 47 d_SG_isWordCharacter_43 (by decide) ?_
        exact x_ireturn d_SG_isWordCharacter_47 rfl rfl ⟨congrArg (fun z => Sum.inl (some (Value.int z))) (show (1 : Int32) = g_b2 (g_word c) by simp [g_b2, g_word, *]), rfl, fun _ _ => rfl, rfl, rfl⟩
      · refine x_iload_n d_SG_isWordCharacter_24 rfl rfl ?_
        refine x_bipush 48 d_SG_isWordCharacter_25 (by decide) ?_
        refine x_icmp_lt 36 d_SG_isWordCharacter_27 (by decide) (fun c_27 => ?_) (fun c_27 => ?_)
        · refine x_iload_n d_SG_isWordCharacter_36 rfl rfl ?_
          refine x_bipush 95 d_SG_isWordCharacter_37 (by decide) ?_
          refine x_icmp_ne 46 d_SG_isWordCharacter_39 (by decide) (fun c_39 => ?_) (fun c_39 => ?_)
          · refine x_iconst 0 d_SG_isWordCharacter_46 (by decide) ?_
            exact x_ireturn d_SG_isWordCharacter_47 rfl rfl ⟨congrArg (fun z => Sum.inl (some (Value.int z))) (show (0 : Int32) = g_b2 (g_word c) by simp [g_b2, g_word, *]), rfl, fun _ _ => rfl, rfl, rfl⟩
          · refine x_iconst 1 d_SG_isWordCharacter_42 (by decide) ?_
            refine x_goto 47 d_SG_isWordCharacter_43 (by decide) ?_
            exact x_ireturn d_SG_isWordCharacter_47 rfl rfl ⟨congrArg (fun z => Sum.inl (some (Value.int z))) (show (1 : Int32) = g_b2 (g_word c) by simp [g_b2, g_word, *]), rfl, fun _ _ => rfl, rfl, rfl⟩
        · refine x_iload_n d_SG_isWordCharacter_30 rfl rfl ?_
          refine x_bipush 57 d_SG_isWordCharacter_31 (by decide) ?_
          refine x_icmp_le 42 d_SG_isWordCharacter_33 (by decide) (fun c_33 => ?_) (fun c_33 => ?_)
          · refine x_iconst 1 d_SG_isWordCharacter_42 (by decide) ?_
            refine x_goto 47 d_SG_isWordCharacter_43 (by decide) ?_
            exact x_ireturn d_SG_isWordCharacter_47 rfl rfl ⟨congrArg (fun z => Sum.inl (some (Value.int z))) (show (1 : Int32) = g_b2 (g_word c) by simp [g_b2, g_word, *]), rfl, fun _ _ => rfl, rfl, rfl⟩
          · refine x_iload_n d_SG_isWordCharacter_36 rfl rfl ?_
            refine x_bipush 95 d_SG_isWordCharacter_37 (by decide) ?_
            refine x_icmp_ne 46 d_SG_isWordCharacter_39 (by decide) (fun c_39 => ?_) (fun c_39 => ?_)
            · refine x_iconst 0 d_SG_isWordCharacter_46 (by decide) ?_
              exact x_ireturn d_SG_isWordCharacter_47 rfl rfl ⟨congrArg (fun z => Sum.inl (some (Value.int z))) (show (0 : Int32) = g_b2 (g_word c) by simp [g_b2, g_word, *]), rfl, fun _ _ => rfl, rfl, rfl⟩
            · refine x_iconst 1 d_SG_isWordCharacter_42 (by decide) ?_
              refine x_goto 47 d_SG_isWordCharacter_43 (by decide) ?_
              exact x_ireturn d_SG_isWordCharacter_47 rfl rfl ⟨congrArg (fun z => Sum.inl (some (Value.int z))) (show (1 : Int32) = g_b2 (g_word c) by simp [g_b2, g_word, *]), rfl, fun _ _ => rfl, rfl, rfl⟩
  · refine x_iload_n d_SG_isWordCharacter_6 rfl rfl ?_
    refine x_bipush 122 d_SG_isWordCharacter_7 (by decide) ?_
    refine x_icmp_le 42 d_SG_isWordCharacter_9 (by decide) (fun c_9 => ?_) (fun c_9 => ?_)
    · refine x_iconst 1 d_SG_isWordCharacter_42 (by decide) ?_
      refine x_goto 47 d_SG_isWordCharacter_43 (by decide) ?_
      exact x_ireturn d_SG_isWordCharacter_47 rfl rfl ⟨congrArg (fun z => Sum.inl (some (Value.int z))) (show (1 : Int32) = g_b2 (g_word c) by simp [g_b2, g_word, *]), rfl, fun _ _ => rfl, rfl, rfl⟩
    · refine x_iload_n d_SG_isWordCharacter_12 rfl rfl ?_
      refine x_bipush 65 d_SG_isWordCharacter_13 (by decide) ?_
      refine x_icmp_lt 24 d_SG_isWordCharacter_15 (by decide) (fun c_15 => ?_) (fun c_15 => ?_)
      · refine x_iload_n d_SG_isWordCharacter_24 rfl rfl ?_
        refine x_bipush 48 d_SG_isWordCharacter_25 (by decide) ?_
        refine x_icmp_lt 36 d_SG_isWordCharacter_27 (by decide) (fun c_27 => ?_) (fun c_27 => ?_)
        · refine x_iload_n d_SG_isWordCharacter_36 rfl rfl ?_
          refine x_bipush 95 d_SG_isWordCharacter_37 (by decide) ?_
          refine x_icmp_ne 46 d_SG_isWordCharacter_39 (by decide) (fun c_39 => ?_) (fun c_39 => ?_)
          · refine x_iconst 0 d_SG_isWordCharacter_46 (by decide) ?_
            exact x_ireturn d_SG_isWordCharacter_47 rfl rfl ⟨congrArg (fun z => Sum.inl (some (Value.int z))) (show (0 : Int32) = g_b2 (g_word c) by simp [g_b2, g_word, *]), rfl, fun _ _ => rfl, rfl, rfl⟩
          · refine x_iconst 1 d_SG_isWordCharacter_42 (by decide) ?_
            refine x_goto 47 d_SG_isWordCharacter_43 (by decide) ?_
            exact x_ireturn d_SG_isWordCharacter_47 rfl rfl ⟨congrArg (fun z => Sum.inl (some (Value.int z))) (show (1 : Int32) = g_b2 (g_word c) by simp [g_b2, g_word, *]), rfl, fun _ _ => rfl, rfl, rfl⟩
        · refine x_iload_n d_SG_isWordCharacter_30 rfl rfl ?_
          refine x_bipush 57 d_SG_isWordCharacter_31 (by decide) ?_
          refine x_icmp_le 42 d_SG_isWordCharacter_33 (by decide) (fun c_33 => ?_) (fun c_33 => ?_)
          · refine x_iconst 1 d_SG_isWordCharacter_42 (by decide) ?_
            refine x_goto 47 d_SG_isWordCharacter_43 (by decide) ?_
            exact x_ireturn d_SG_isWordCharacter_47 rfl rfl ⟨congrArg (fun z => Sum.inl (some (Value.int z))) (show (1 : Int32) = g_b2 (g_word c) by simp [g_b2, g_word, *]), rfl, fun _ _ => rfl, rfl, rfl⟩
          · refine x_iload_n d_SG_isWordCharacter_36 rfl rfl ?_
            refine x_bipush 95 d_SG_isWordCharacter_37 (by decide) ?_
            refine x_icmp_ne 46 d_SG_isWordCharacter_39 (by decide) (fun c_39 => ?_) (fun c_39 => ?_)
            · refine x_iconst 0 d_SG_isWordCharacter_46 (by decide) ?_
              exact x_ireturn d_SG_isWordCharacter_47 rfl rfl ⟨congrArg (fun z => Sum.inl (some (Value.int z))) (show (0 : Int32) = g_b2 (g_word c) by simp [g_b2, g_word, *]), rfl, fun _ _ => rfl, rfl, rfl⟩
            · refine x_iconst 1 d_SG_isWordCharacter_42 (by decide) ?_
              refine x_goto 47 d_SG_isWordCharacter_43 (by decide) ?_
              exact x_ireturn d_SG_isWordCharacter_47 rfl rfl ⟨congrArg (fun z => Sum.inl (some (Value.int z))) (show (1 : Int32) = g_b2 (g_word c) by simp [g_b2, g_word, *]), rfl, fun _ _ => rfl, rfl, rfl⟩
      · refine x_iload_n d_SG_isWordCharacter_18 rfl rfl ?_
        refine x_bipush 90 d_SG_isWordCharacter_19 (by decide) ?_
        refine x_icmp_le 42 d_SG_isWordCharacter_21 (by decide) (fun c_21 => ?_) (fun c_21 => ?_)
        · refine x_iconst 1 d_SG_isWordCharacter_42 (by decide) ?_
          refine x_goto 47 d_SG_isWordCharacter_43 (by decide) ?_
          exact x_ireturn d_SG_isWordCharacter_47 rfl rfl ⟨congrArg (fun z => Sum.inl (some (Value.int z))) (show (1 : Int32) = g_b2 (g_word c) by simp [g_b2, g_word, *]), rfl, fun _ _ => rfl, rfl, rfl⟩
        · refine x_iload_n d_SG_isWordCharacter_24 rfl rfl ?_
          refine x_bipush 48 d_SG_isWordCharacter_25 (by decide) ?_
          refine x_icmp_lt 36 d_SG_isWordCharacter_27 (by decide) (fun c_27 => ?_) (fun c_27 => ?_)
          · refine x_iload_n d_SG_isWordCharacter_36 rfl rfl ?_
            refine x_bipush 95 d_SG_isWordCharacter_37 (by decide) ?_
            refine x_icmp_ne 46 d_SG_isWordCharacter_39 (by decide) (fun c_39 => ?_) (fun c_39 => ?_)
            · refine x_iconst 0 d_SG_isWordCharacter_46 (by decide) ?_
              exact x_ireturn d_SG_isWordCharacter_47 rfl rfl ⟨congrArg (fun z => Sum.inl (some (Value.int z))) (show (0 : Int32) = g_b2 (g_word c) by simp [g_b2, g_word, *]), rfl, fun _ _ => rfl, rfl, rfl⟩
            · refine x_iconst 1 d_SG_isWordCharacter_42 (by decide) ?_
              refine x_goto 47 d_SG_isWordCharacter_43 (by decide) ?_
              exact x_ireturn d_SG_isWordCharacter_47 rfl rfl ⟨congrArg (fun z => Sum.inl (some (Value.int z))) (show (1 : Int32) = g_b2 (g_word c) by simp [g_b2, g_word, *]), rfl, fun _ _ => rfl, rfl, rfl⟩
          · refine x_iload_n d_SG_isWordCharacter_30 rfl rfl ?_
            refine x_bipush 57 d_SG_isWordCharacter_31 (by decide) ?_
            refine x_icmp_le 42 d_SG_isWordCharacter_33 (by decide) (fun c_33 => ?_) (fun c_33 => ?_)
            · refine x_iconst 1 d_SG_isWordCharacter_42 (by decide) ?_
              refine x_goto 47 d_SG_isWordCharacter_43 (by decide) ?_
              exact x_ireturn d_SG_isWordCharacter_47 rfl rfl ⟨congrArg (fun z => Sum.inl (some (Value.int z))) (show (1 : Int32) = g_b2 (g_word c) by simp [g_b2, g_word, *]), rfl, fun _ _ => rfl, rfl, rfl⟩
            · refine x_iload_n d_SG_isWordCharacter_36 rfl rfl ?_
              refine x_bipush 95 d_SG_isWordCharacter_37 (by decide) ?_
              refine x_icmp_ne 46 d_SG_isWordCharacter_39 (by decide) (fun c_39 => ?_) (fun c_39 => ?_)
              · refine x_iconst 0 d_SG_isWordCharacter_46 (by decide) ?_
                exact x_ireturn d_SG_isWordCharacter_47 rfl rfl ⟨congrArg (fun z => Sum.inl (some (Value.int z))) (show (0 : Int32) = g_b2 (g_word c) by simp [g_b2, g_word, *]), rfl, fun _ _ => rfl, rfl, rfl⟩
              · refine x_iconst 1 d_SG_isWordCharacter_42 (by decide) ?_
                refine x_goto 47 d_SG_isWordCharacter_43 (by decide) ?_
                exact x_ireturn d_SG_isWordCharacter_47 rfl rfl ⟨congrArg (fun z => Sum.inl (some (Value.int z))) (show (1 : Int32) = g_b2 (g_word c) by simp [g_b2, g_word, *]), rfl, fun _ _ => rfl, rfl, rfl⟩
theorem d_SG_isBlank_0 : decode M_SG_isBlank.2.1 0 = .ok (.iload_n 0, 1) := by decide +kernel
theorem d_SG_isBlank_1 : decode M_SG_isBlank.2.1 1 = .ok (.bipush 9, 2) := by decide +kernel
theorem d_SG_isBlank_3 : decode M_SG_isBlank.2.1 3 = .ok (.if_icmp .eq 21, 3) := by decide +kernel
theorem d_SG_isBlank_6 : decode M_SG_isBlank.2.1 6 = .ok (.iload_n 0, 1) := by decide +kernel
theorem d_SG_isBlank_7 : decode M_SG_isBlank.2.1 7 = .ok (.bipush 10, 2) := by decide +kernel
theorem d_SG_isBlank_9 : decode M_SG_isBlank.2.1 9 = .ok (.if_icmp .eq 15, 3) := by decide +kernel
theorem d_SG_isBlank_12 : decode M_SG_isBlank.2.1 12 = .ok (.iload_n 0, 1) := by decide +kernel
theorem d_SG_isBlank_13 : decode M_SG_isBlank.2.1 13 = .ok (.bipush 13, 2) := by decide +kernel
theorem d_SG_isBlank_15 : decode M_SG_isBlank.2.1 15 = .ok (.if_icmp .eq 9, 3) := by decide +kernel
theorem d_SG_isBlank_18 : decode M_SG_isBlank.2.1 18 = .ok (.iload_n 0, 1) := by decide +kernel
theorem d_SG_isBlank_19 : decode M_SG_isBlank.2.1 19 = .ok (.bipush 32, 2) := by decide +kernel
theorem d_SG_isBlank_21 : decode M_SG_isBlank.2.1 21 = .ok (.if_icmp .ne 7, 3) := by decide +kernel
theorem d_SG_isBlank_24 : decode M_SG_isBlank.2.1 24 = .ok (.iconst 1, 1) := by decide +kernel
theorem d_SG_isBlank_25 : decode M_SG_isBlank.2.1 25 = .ok (.goto 4, 3) := by decide +kernel
theorem d_SG_isBlank_28 : decode M_SG_isBlank.2.1 28 = .ok (.iconst 0, 1) := by decide +kernel
theorem d_SG_isBlank_29 : decode M_SG_isBlank.2.1 29 = .ok (.ireturn, 1) := by decide +kernel
set_option maxRecDepth 20000 in
theorem w_SG_isBlank {E : xR} {n : Nat} {h : xH} {c : Int32} : x_Mt E M_SG_isBlank 0 0 0 [.int c] n h (x_Y (some (.int (g_b2 (g_blank c)))) n h) := by
  refine x_Mt.of (by decide) (Nat.le_of_ble_eq_true rfl) ?_
  show x_W E M_SG_isBlank _ _ n h 0 [(0, .int c)] [] 0 0
  refine x_iload_n d_SG_isBlank_0 rfl rfl ?_
  refine x_bipush 9 d_SG_isBlank_1 (by decide) ?_
  refine x_icmp_eq 24 d_SG_isBlank_3 (by decide) (fun c_3 => ?_) (fun c_3 => ?_)
  · refine x_iconst 1 d_SG_isBlank_24 (by decide) ?_
    refine x_goto 29 d_SG_isBlank_25 (by decide) ?_
    exact x_ireturn d_SG_isBlank_29 rfl rfl ⟨congrArg (fun z => Sum.inl (some (Value.int z))) (show (1 : Int32) = g_b2 (g_blank c) by simp [g_b2, g_blank, *]), rfl, fun _ _ => rfl, rfl, rfl⟩
  · refine x_iload_n d_SG_isBlank_6 rfl rfl ?_
    refine x_bipush 10 d_SG_isBlank_7 (by decide) ?_
    refine x_icmp_eq 24 d_SG_isBlank_9 (by decide) (fun c_9 => ?_) (fun c_9 => ?_)
    · refine x_iconst 1 d_SG_isBlank_24 (by decide) ?_
      refine x_goto 29 d_SG_isBlank_25 (by decide) ?_
      exact x_ireturn d_SG_isBlank_29 rfl rfl ⟨congrArg (fun z => Sum.inl (some (Value.int z))) (show (1 : Int32) = g_b2 (g_blank c) by simp [g_b2, g_blank, *]), rfl, fun _ _ => rfl, rfl, rfl⟩
    · refine x_iload_n d_SG_isBlank_12 rfl rfl ?_
      refine x_bipush 13 d_SG_isBlank_13 (by decide) ?_
      refine x_icmp_eq 24 d_SG_isBlank_15 (by decide) (fun c_15 => ?_) (fun c_15 => ?_)
      · refine x_iconst 1 d_SG_isBlank_24 (by decide) ?_
        refine x_goto 29 d_SG_isBlank_25 (by decide) ?_
        exact x_ireturn d_SG_isBlank_29 rfl rfl ⟨congrArg (fun z => Sum.inl (some (Value.int z))) (show (1 : Int32) = g_b2 (g_blank c) by simp [g_b2, g_blank, *]), rfl, fun _ _ => rfl, rfl, rfl⟩
      · refine x_iload_n d_SG_isBlank_18 rfl rfl ?_
        refine x_bipush 32 d_SG_isBlank_19 (by decide) ?_
        refine x_icmp_ne 28 d_SG_isBlank_21 (by decide) (fun c_21 => ?_) (fun c_21 => ?_)
        · refine x_iconst 0 d_SG_isBlank_28 (by decide) ?_
          exact x_ireturn d_SG_isBlank_29 rfl rfl ⟨congrArg (fun z => Sum.inl (some (Value.int z))) (show (0 : Int32) = g_b2 (g_blank c) by simp [g_b2, g_blank, *]), rfl, fun _ _ => rfl, rfl, rfl⟩
        · refine x_iconst 1 d_SG_isBlank_24 (by decide) ?_
          refine x_goto 29 d_SG_isBlank_25 (by decide) ?_
          exact x_ireturn d_SG_isBlank_29 rfl rfl ⟨congrArg (fun z => Sum.inl (some (Value.int z))) (show (1 : Int32) = g_b2 (g_blank c) by simp [g_b2, g_blank, *]), rfl, fun _ _ => rfl, rfl, rfl⟩
theorem d_SG_at_0 : decode M_SG_at.2.1 0 = .ok (.iload_n 1, 1) := by decide +kernel
theorem d_SG_at_1 : decode M_SG_at.2.1 1 = .ok (.ifCond .lt 24, 3) := by decide +kernel
theorem d_SG_at_4 : decode M_SG_at.2.1 4 = .ok (.iload_n 1, 1) := by decide +kernel
theorem d_SG_at_5 : decode M_SG_at.2.1 5 = .ok (.aload_n 0, 1) := by decide +kernel
theorem d_SG_at_6 : decode M_SG_at.2.1 6 = .ok (.getfield 34, 3) := by decide +kernel
theorem d_SG_at_9 : decode M_SG_at.2.1 9 = .ok (.if_icmp .ge 16, 3) := by decide +kernel
theorem d_SG_at_12 : decode M_SG_at.2.1 12 = .ok (.aload_n 0, 1) := by decide +kernel
theorem d_SG_at_13 : decode M_SG_at.2.1 13 = .ok (.getfield 9, 3) := by decide +kernel
theorem d_SG_at_16 : decode M_SG_at.2.1 16 = .ok (.iload_n 1, 1) := by decide +kernel
theorem d_SG_at_17 : decode M_SG_at.2.1 17 = .ok (.baload, 1) := by decide +kernel
theorem d_SG_at_18 : decode M_SG_at.2.1 18 = .ok (.sipush 255, 3) := by decide +kernel
theorem d_SG_at_21 : decode M_SG_at.2.1 21 = .ok (.iand, 1) := by decide +kernel
theorem d_SG_at_22 : decode M_SG_at.2.1 22 = .ok (.goto 4, 3) := by decide +kernel
theorem d_SG_at_25 : decode M_SG_at.2.1 25 = .ok (.iconst (-1), 1) := by decide +kernel
theorem d_SG_at_26 : decode M_SG_at.2.1 26 = .ok (.ireturn, 1) := by decide +kernel
set_option maxRecDepth 20000 in
theorem w_SG_at {E : xR} {h : xH} {u : Nat → Nat} {N : Nat} {j : Nat} {w2 w3 w4 w5 w6 w7 : Value} (h3 : h 3 = .inr (2, [.ref 1, .int (nI N), w2, w3, w4, w5, w6, w7])) (h1 : h 1 = .inl (1, 4096, .inl (fun i => g_sb (u i)))) (hu : ∀ i, u i < 256) (hN : N ≤ 4096) (hj : j < 2 ^ 31) : x_Mt E M_SG_at 0 0 0 [.ref 3, .int (nI j)] 52 h (x_Y (some (.int (g_at u N j))) 52 h) := by
  refine x_Mt.of (by decide) (Nat.le_of_ble_eq_true rfl) ?_
  show x_W E M_SG_at _ _ 52 h 0 [(0, .ref 3), (1, .int (nI j))] [] 0 0
  refine x_iload_n d_SG_at_0 rfl rfl ?_
  refine x_if_lt 25 d_SG_at_1 (by decide) (fun z => absurd z (nI_pos hj)) (fun _ => ?_)
  refine x_iload_n d_SG_at_4 rfl rfl ?_
  refine x_aload_n d_SG_at_5 rfl rfl ?_
  refine x_get d_SG_at_6 f_SG_34 (Nat.le_of_ble_eq_true rfl) (Nat.le_of_ble_eq_true rfl) (by first | rfl | assumption) (by rfl) ?_
  refine x_icmp_ge 25 d_SG_at_9 (by decide) (fun c_9 => ?_) (fun c_9 => ?_)
  · refine x_iconst (-1) d_SG_at_25 (by decide) ?_
    refine x_topi (g_at u N j) (by rw [g_at_out ((nI_leI (by omega) hj).mp c_9)]) ?_
    exact x_ireturn d_SG_at_26 rfl rfl ⟨rfl, rfl, fun _ _ => rfl, rfl, rfl⟩
  · refine x_aload_n d_SG_at_12 rfl rfl ?_
    refine x_get d_SG_at_13 f_SG_9 (Nat.le_of_ble_eq_true rfl) (Nat.le_of_ble_eq_true rfl) (by first | rfl | assumption) (by rfl) ?_
    refine x_iload_n d_SG_at_16 rfl rfl ?_
    refine x_bald d_SG_at_17 (Nat.le_of_ble_eq_true rfl) (Nat.le_of_ble_eq_true rfl) (by first | rfl | assumption) (vp_in_nI (Nat.lt_of_lt_of_le (Nat.not_le.mp fun q => c_9 (nI_le q hj)) hN) (by decide)) ?_
    refine x_sipush 255 d_SG_at_18 (by decide) ?_
    refine x_iand d_SG_at_21 ?_
    refine x_topi (g_at u N j) (by rw [nI_clamp hj, g_at_in (Nat.not_le.mp fun q => c_9 (nI_le q hj))]; exact g_sb255 _ (hu _)) ?_
    refine x_goto 26 d_SG_at_22 (by decide) ?_
    exact x_ireturn d_SG_at_26 rfl rfl ⟨rfl, rfl, fun _ _ => rfl, rfl, rfl⟩
theorem d_SG_take_0 : decode M_SG_take.2.1 0 = .ok (.aload_n 0, 1) := by decide +kernel
theorem d_SG_take_1 : decode M_SG_take.2.1 1 = .ok (.aload_n 1, 1) := by decide +kernel
theorem d_SG_take_2 : decode M_SG_take.2.1 2 = .ok (.putfield 21, 3) := by decide +kernel
theorem d_SG_take_5 : decode M_SG_take.2.1 5 = .ok (.aload_n 0, 1) := by decide +kernel
theorem d_SG_take_6 : decode M_SG_take.2.1 6 = .ok (.iload_n 2, 1) := by decide +kernel
theorem d_SG_take_7 : decode M_SG_take.2.1 7 = .ok (.putfield 108, 3) := by decide +kernel
theorem d_SG_take_10 : decode M_SG_take.2.1 10 = .ok (.aload_n 0, 1) := by decide +kernel
theorem d_SG_take_11 : decode M_SG_take.2.1 11 = .ok (.iload_n 3, 1) := by decide +kernel
theorem d_SG_take_12 : decode M_SG_take.2.1 12 = .ok (.putfield 105, 3) := by decide +kernel
theorem d_SG_take_15 : decode M_SG_take.2.1 15 = .ok (.aload_n 0, 1) := by decide +kernel
theorem d_SG_take_16 : decode M_SG_take.2.1 16 = .ok (.iload 4, 2) := by decide +kernel
theorem d_SG_take_18 : decode M_SG_take.2.1 18 = .ok (.putfield 37, 3) := by decide +kernel
theorem d_SG_take_21 : decode M_SG_take.2.1 21 = .ok (.return_, 1) := by decide +kernel
set_option maxRecDepth 20000 in
theorem w_SG_take {E : xR} {h : xH} {k : Nat} {f t b : Int32} {w0 w1 w2 w3 w4 w5 w6 w7 : Value} (h3 : h 3 = .inr (2, [w0, w1, w2, w3, w4, w5, w6, w7])) : x_Mt E M_SG_take 0 0 0 [.ref 3, .ref (1000000 + k), .int f, .int t, .int b] 52 h (x_Y none 52 (x_up h 3 (.inr (2, [w0, w1, .int b, .ref (1000000 + k), w4, .int f, .int t, w7])))) := by
  refine x_Mt.of (by decide) (Nat.le_of_ble_eq_true rfl) ?_
  show x_W E M_SG_take _ _ 52 h 0 [(0, .ref 3), (1, .ref (1000000 + k)), (2, .int f), (3, .int t), (4, .int b)] [] 0 0
  refine x_aload_n d_SG_take_0 rfl rfl ?_
  refine x_aload_n d_SG_take_1 rfl rfl ?_
  refine x_put d_SG_take_2 f_SG_21 (Nat.le_of_ble_eq_true rfl) (Nat.le_of_ble_eq_true rfl) (by first | rfl | assumption) (by rfl) (by rfl) (by exact (Nat.le_of_ble_eq_true rfl)) ?_
  refine x_aload_n d_SG_take_5 rfl rfl ?_
  refine x_iload_n d_SG_take_6 rfl rfl ?_
  refine x_put d_SG_take_7 f_SG_108 (Nat.le_of_ble_eq_true rfl) (Nat.le_of_ble_eq_true rfl) (by first | rfl | assumption) (by rfl) (by rfl) (by exact (Nat.le_of_ble_eq_true rfl)) ?_
  refine x_aload_n d_SG_take_10 rfl rfl ?_
  refine x_iload_n d_SG_take_11 rfl rfl ?_
  refine x_put d_SG_take_12 f_SG_105 (Nat.le_of_ble_eq_true rfl) (Nat.le_of_ble_eq_true rfl) (by first | rfl | assumption) (by rfl) (by rfl) (by exact (Nat.le_of_ble_eq_true rfl)) ?_
  refine x_aload_n d_SG_take_15 rfl rfl ?_
  refine x_iload d_SG_take_16 rfl ?_
  refine x_put d_SG_take_18 f_SG_37 (Nat.le_of_ble_eq_true rfl) (Nat.le_of_ble_eq_true rfl) (by first | rfl | assumption) (by rfl) (by rfl) (by exact (Nat.le_of_ble_eq_true rfl)) ?_
  exact x_return d_SG_take_21 rfl ⟨rfl, rfl, x_pt rfl rfl rfl rfl rfl rfl rfl rfl rfl rfl rfl rfl rfl rfl rfl rfl rfl rfl rfl rfl rfl rfl rfl rfl rfl rfl rfl rfl rfl rfl rfl rfl rfl rfl rfl rfl rfl rfl rfl rfl rfl rfl rfl rfl rfl rfl rfl rfl rfl rfl rfl rfl, rfl, rfl⟩
theorem g_i2c : ∀ v, v < 256 → ((nI v).toUInt32 % 65536).toInt32 = nI v := by decide +kernel
theorem d_SG_isSymbol_0 : decode M_SG_isSymbol.2.1 0 = .ok (.iload_n 0, 1) := by decide +kernel
theorem d_SG_isSymbol_1 : decode M_SG_isSymbol.2.1 1 = .ok (.ifCond .lt 17, 3) := by decide +kernel
theorem d_SG_isSymbol_4 : decode M_SG_isSymbol.2.1 4 = .ok (.ldc 179, 2) := by decide +kernel
theorem d_SG_isSymbol_6 : decode M_SG_isSymbol.2.1 6 = .ok (.iload_n 0, 1) := by decide +kernel
theorem d_SG_isSymbol_7 : decode M_SG_isSymbol.2.1 7 = .ok (.i2c, 1) := by decide +kernel
theorem d_SG_isSymbol_8 : decode M_SG_isSymbol.2.1 8 = .ok (.invokevirtual 181, 3) := by decide +kernel
theorem d_SG_isSymbol_11 : decode M_SG_isSymbol.2.1 11 = .ok (.ifCond .lt 7, 3) := by decide +kernel
theorem d_SG_isSymbol_14 : decode M_SG_isSymbol.2.1 14 = .ok (.iconst 1, 1) := by decide +kernel
theorem d_SG_isSymbol_15 : decode M_SG_isSymbol.2.1 15 = .ok (.goto 4, 3) := by decide +kernel
theorem d_SG_isSymbol_18 : decode M_SG_isSymbol.2.1 18 = .ok (.iconst 0, 1) := by decide +kernel
theorem d_SG_isSymbol_19 : decode M_SG_isSymbol.2.1 19 = .ok (.ireturn, 1) := by decide +kernel
set_option maxRecDepth 20000 in
theorem w_SG_isSymbol {E : xR} {n : Nat} {h : xH} {v : Nat} (hv : v < 256) : x_Mt E M_SG_isSymbol 5 0 0 [.int (nI v)] n h (x_Y (some (.int (g_b2 (g_symb (nI v))))) n h) := by
  refine x_Mt.of (by decide) (Nat.le_of_ble_eq_true rfl) ?_
  show x_W E M_SG_isSymbol _ _ n h 0 [(0, .int (nI v))] [] 0 0
  refine x_iload_n d_SG_isSymbol_0 rfl rfl ?_
  refine x_if_lt 18 d_SG_isSymbol_1 (by decide) (fun z => absurd z (nI_pos (by omega))) (fun _ => ?_)
  refine x_ldcS (i := 3) d_SG_isSymbol_4 3 rfl ?_
  refine x_iload_n d_SG_isSymbol_6 rfl rfl ?_
  refine x_i2c d_SG_isSymbol_7 ?_
  refine x_topi _ (g_i2c v hv) ?_
  refine x_callT1Y d_SG_isSymbol_8 k_SG_181 rfl (by decide) (w_ST_indexOf0 hv) (Nat.le_of_ble_eq_true rfl) (Nat.le_of_ble_eq_true rfl) (Nat.le_of_ble_eq_true rfl) (Nat.le_of_ble_eq_true rfl) (Nat.le_of_ble_eq_true rfl) rfl ?_
  refine x_if_lt 18 d_SG_isSymbol_11 (by decide) (fun c_11 => ?_) (fun c_11 => ?_)
  · refine x_iconst 0 d_SG_isSymbol_18 (by decide) ?_
    exact x_ireturn d_SG_isSymbol_19 rfl rfl ⟨congrArg (fun z => Sum.inl (some (Value.int z))) (show (0 : Int32) = g_b2 (g_symb (nI v)) by simp [g_b2, g_symb, *, nI_pos (show v < 2 ^ 31 by omega)]), rfl, fun _ _ => rfl, rfl, rfl⟩
  · refine x_iconst 1 d_SG_isSymbol_14 (by decide) ?_
    refine x_goto 19 d_SG_isSymbol_15 (by decide) ?_
    exact x_ireturn d_SG_isSymbol_19 rfl rfl ⟨congrArg (fun z => Sum.inl (some (Value.int z))) (show (1 : Int32) = g_b2 (g_symb (nI v)) by simp [g_b2, g_symb, *, nI_pos (show v < 2 ^ 31 by omega)]), rfl, fun _ _ => rfl, rfl, rfl⟩
set_option maxRecDepth 20000 in
theorem w_SG_isSymbol_neg {E : xR} {n : Nat} {h : xH} {c : Int32} (hc : c < 0) : x_Mt E M_SG_isSymbol 5 0 0 [.int c] n h (x_Y (some (.int (g_b2 (g_symb c)))) n h) := by
  refine x_Mt.of (by decide) (Nat.le_of_ble_eq_true rfl) ?_
  show x_W E M_SG_isSymbol _ _ n h 0 [(0, .int c)] [] 0 0
  refine x_iload_n d_SG_isSymbol_0 rfl rfl ?_
  refine x_if_lt 18 d_SG_isSymbol_1 (by decide) (fun _ => ?_) (fun z => absurd hc z)
  refine x_iconst 0 d_SG_isSymbol_18 (by decide) ?_
  exact x_ireturn d_SG_isSymbol_19 rfl rfl ⟨congrArg (fun z => Sum.inl (some (Value.int z))) (show (0 : Int32) = g_b2 (g_symb c) by simp [g_b2, g_symb, *]), rfl, fun _ _ => rfl, rfl, rfl⟩
theorem w_SG_isSymbol_at {E : xR} {n : Nat} {h : xH} {u : Nat → Nat} {N j : Nat} (hu : ∀ i, u i < 256) : x_Mt E M_SG_isSymbol 5 0 0 [.int (g_at u N j)] n h (x_Y (some (.int (g_b2 (g_symb (g_at u N j))))) n h) := by
  rcases Nat.lt_or_ge j N with hq | hq
  · rw [g_at_in hq]; exact w_SG_isSymbol (hu j)
  · rw [g_at_out hq]; exact w_SG_isSymbol_neg (by decide)
