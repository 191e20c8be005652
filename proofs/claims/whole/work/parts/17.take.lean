/-- the place of the closing quote; 0: none -/
def g_qt (a : Nat → Int32) : Nat → Nat → Nat
  | 0, _ => 0
  | m + 1, i => bif decide (a i < 32) || decide (126 < a i) then 0 else bif decide (a i = 39) then (bif decide (a (i + 1) = 39) then g_qt a m (i + 2) else i) else g_qt a m (i + 1)
theorem g_qt0 {a : Nat → Int32} {m i : Nat} (h : a i < 32 ∨ 126 < a i) : g_qt a m i = 0 := by
  cases m with
  | zero => rfl
  | succ m =>
    rw [g_qt]
    rcases h with h | h
    · rw [decide_eq_true h]; rfl
    · rw [decide_eq_true h, Bool.or_true]; rfl
theorem g_qt1 {a : Nat → Int32} {m i : Nat} (h1 : ¬ a i < 32) (h2 : ¬ 126 < a i) (h3 : ¬ a i = 39) : g_qt a (m + 1) i = g_qt a m (i + 1) := by
  rw [g_qt, decide_eq_false h1, decide_eq_false h2, decide_eq_false h3]; rfl
theorem g_qt2 {a : Nat → Int32} {m i : Nat} (h1 : ¬ a i < 32) (h2 : ¬ 126 < a i) (h3 : a i = 39) (h4 : a (i + 1) = 39) : g_qt a (m + 1) i = g_qt a m (i + 2) := by
  rw [g_qt, decide_eq_false h1, decide_eq_false h2, decide_eq_true h3, decide_eq_true h4]; rfl
theorem g_qt3 {a : Nat → Int32} {m i : Nat} (h1 : ¬ a i < 32) (h2 : ¬ 126 < a i) (h3 : a i = 39) (h4 : ¬ a (i + 1) = 39) : g_qt a (m + 1) i = i := by
  rw [g_qt, decide_eq_false h1, decide_eq_false h2, decide_eq_true h3, decide_eq_false h4]; rfl
theorem g_qtm {a : Nat → Int32} {N : Nat} (ha : ∀ j, N ≤ j → a j = -1) : ∀ (m m' i : Nat), N + 1 ≤ i + m → N + 1 ≤ i + m' → g_qt a m i = g_qt a m' i := by
  intro m
  induction m with
  | zero =>
    intro m' i h1 h2
    rw [g_qt0 (m := m') (Or.inl (by rw [ha i (by omega)]; decide))]; rfl
  | succ m ih =>
    intro m' i h1 h2
    cases m' with
    | zero => rw [g_qt0 (m := m + 1) (Or.inl (by rw [ha i (by omega)]; decide))]; rfl
    | succ m' =>
      rw [g_qt, g_qt, ih m' (i + 1) (by omega) (by omega), ih m' (i + 2) (by omega) (by omega)]
theorem d_SG_takeQuoted_0 : decode M_SG_takeQuoted.2.1 0 = .ok (.aload_n 0, 1) := by decide +kernel
theorem d_SG_takeQuoted_1 : decode M_SG_takeQuoted.2.1 1 = .ok (.getfield 46, 3) := by decide +kernel
theorem d_SG_takeQuoted_4 : decode M_SG_takeQuoted.2.1 4 = .ok (.iconst 1, 1) := by decide +kernel
theorem d_SG_takeQuoted_5 : decode M_SG_takeQuoted.2.1 5 = .ok (.iadd, 1) := by decide +kernel
theorem d_SG_takeQuoted_6 : decode M_SG_takeQuoted.2.1 6 = .ok (.istore_n 1, 1) := by decide +kernel
theorem d_SG_takeQuoted_7 : decode M_SG_takeQuoted.2.1 7 = .ok (.iload_n 1, 1) := by decide +kernel
theorem d_SG_takeQuoted_8 : decode M_SG_takeQuoted.2.1 8 = .ok (.aload_n 0, 1) := by decide +kernel
theorem d_SG_takeQuoted_9 : decode M_SG_takeQuoted.2.1 9 = .ok (.getfield 34, 3) := by decide +kernel
theorem d_SG_takeQuoted_12 : decode M_SG_takeQuoted.2.1 12 = .ok (.if_icmp .ge 75, 3) := by decide +kernel
theorem d_SG_takeQuoted_15 : decode M_SG_takeQuoted.2.1 15 = .ok (.aload_n 0, 1) := by decide +kernel
theorem d_SG_takeQuoted_16 : decode M_SG_takeQuoted.2.1 16 = .ok (.iload_n 1, 1) := by decide +kernel
theorem d_SG_takeQuoted_17 : decode M_SG_takeQuoted.2.1 17 = .ok (.invokevirtual 49, 3) := by decide +kernel
theorem d_SG_takeQuoted_20 : decode M_SG_takeQuoted.2.1 20 = .ok (.bipush 32, 2) := by decide +kernel
theorem d_SG_takeQuoted_22 : decode M_SG_takeQuoted.2.1 22 = .ok (.if_icmp .lt 65, 3) := by decide +kernel
theorem d_SG_takeQuoted_25 : decode M_SG_takeQuoted.2.1 25 = .ok (.aload_n 0, 1) := by decide +kernel
theorem d_SG_takeQuoted_26 : decode M_SG_takeQuoted.2.1 26 = .ok (.iload_n 1, 1) := by decide +kernel
theorem d_SG_takeQuoted_27 : decode M_SG_takeQuoted.2.1 27 = .ok (.invokevirtual 49, 3) := by decide +kernel
theorem d_SG_takeQuoted_30 : decode M_SG_takeQuoted.2.1 30 = .ok (.bipush 126, 2) := by decide +kernel
theorem d_SG_takeQuoted_32 : decode M_SG_takeQuoted.2.1 32 = .ok (.if_icmp .gt 55, 3) := by decide +kernel
theorem d_SG_takeQuoted_35 : decode M_SG_takeQuoted.2.1 35 = .ok (.aload_n 0, 1) := by decide +kernel
theorem d_SG_takeQuoted_36 : decode M_SG_takeQuoted.2.1 36 = .ok (.iload_n 1, 1) := by decide +kernel
theorem d_SG_takeQuoted_37 : decode M_SG_takeQuoted.2.1 37 = .ok (.invokevirtual 49, 3) := by decide +kernel
theorem d_SG_takeQuoted_40 : decode M_SG_takeQuoted.2.1 40 = .ok (.bipush 39, 2) := by decide +kernel
theorem d_SG_takeQuoted_42 : decode M_SG_takeQuoted.2.1 42 = .ok (.if_icmp .eq 9, 3) := by decide +kernel
theorem d_SG_takeQuoted_45 : decode M_SG_takeQuoted.2.1 45 = .ok (.iinc 1 1, 3) := by decide +kernel
theorem d_SG_takeQuoted_48 : decode M_SG_takeQuoted.2.1 48 = .ok (.goto (-41), 3) := by decide +kernel
theorem d_SG_takeQuoted_51 : decode M_SG_takeQuoted.2.1 51 = .ok (.aload_n 0, 1) := by decide +kernel
theorem d_SG_takeQuoted_52 : decode M_SG_takeQuoted.2.1 52 = .ok (.iload_n 1, 1) := by decide +kernel
theorem d_SG_takeQuoted_53 : decode M_SG_takeQuoted.2.1 53 = .ok (.iconst 1, 1) := by decide +kernel
theorem d_SG_takeQuoted_54 : decode M_SG_takeQuoted.2.1 54 = .ok (.iadd, 1) := by decide +kernel
theorem d_SG_takeQuoted_55 : decode M_SG_takeQuoted.2.1 55 = .ok (.invokevirtual 49, 3) := by decide +kernel
theorem d_SG_takeQuoted_58 : decode M_SG_takeQuoted.2.1 58 = .ok (.bipush 39, 2) := by decide +kernel
theorem d_SG_takeQuoted_60 : decode M_SG_takeQuoted.2.1 60 = .ok (.if_icmp .ne 9, 3) := by decide +kernel
theorem d_SG_takeQuoted_63 : decode M_SG_takeQuoted.2.1 63 = .ok (.iinc 1 2, 3) := by decide +kernel
theorem d_SG_takeQuoted_66 : decode M_SG_takeQuoted.2.1 66 = .ok (.goto (-59), 3) := by decide +kernel
theorem d_SG_takeQuoted_69 : decode M_SG_takeQuoted.2.1 69 = .ok (.aload_n 0, 1) := by decide +kernel
theorem d_SG_takeQuoted_70 : decode M_SG_takeQuoted.2.1 70 = .ok (.getstatic 70, 3) := by decide +kernel
theorem d_SG_takeQuoted_73 : decode M_SG_takeQuoted.2.1 73 = .ok (.aload_n 0, 1) := by decide +kernel
theorem d_SG_takeQuoted_74 : decode M_SG_takeQuoted.2.1 74 = .ok (.getfield 46, 3) := by decide +kernel
theorem d_SG_takeQuoted_77 : decode M_SG_takeQuoted.2.1 77 = .ok (.iconst 1, 1) := by decide +kernel
theorem d_SG_takeQuoted_78 : decode M_SG_takeQuoted.2.1 78 = .ok (.iadd, 1) := by decide +kernel
theorem d_SG_takeQuoted_79 : decode M_SG_takeQuoted.2.1 79 = .ok (.iload_n 1, 1) := by decide +kernel
theorem d_SG_takeQuoted_80 : decode M_SG_takeQuoted.2.1 80 = .ok (.iload_n 1, 1) := by decide +kernel
theorem d_SG_takeQuoted_81 : decode M_SG_takeQuoted.2.1 81 = .ok (.iconst 1, 1) := by decide +kernel
theorem d_SG_takeQuoted_82 : decode M_SG_takeQuoted.2.1 82 = .ok (.iadd, 1) := by decide +kernel
theorem d_SG_takeQuoted_83 : decode M_SG_takeQuoted.2.1 83 = .ok (.invokevirtual 53, 3) := by decide +kernel
theorem d_SG_takeQuoted_86 : decode M_SG_takeQuoted.2.1 86 = .ok (.return_, 1) := by decide +kernel
theorem d_SG_takeQuoted_87 : decode M_SG_takeQuoted.2.1 87 = .ok (.aload_n 0, 1) := by decide +kernel
theorem d_SG_takeQuoted_88 : decode M_SG_takeQuoted.2.1 88 = .ok (.invokevirtual 93, 3) := by decide +kernel
theorem d_SG_takeQuoted_91 : decode M_SG_takeQuoted.2.1 91 = .ok (.return_, 1) := by decide +kernel
set_option maxRecDepth 20000 in
theorem w_SG_takeQuoted {E : xR} {h : xH} {u : Nat → Nat} {N : Nat} {p r : Nat} {w2 w3 w5 w6 w7 : Value} (h3 : h 3 = .inr (2, [.ref 1, .int (nI N), w2, w3, .int (nI p), w5, w6, w7])) (h1 : h 1 = .inl (1, 4096, .inl (fun i => g_sb (u i)))) (hu : ∀ i, u i < 256) (hN : N ≤ 4096) (hp : p < N) (hr : g_qt (g_at u N) (N - p) (p + 1) = r) : x_Mt E M_SG_takeQuoted 7 1 6 [.ref 3] 52 h (x_YX (!decide (r = 0)) none (x_up h 3 (.inr (2, [.ref 1, .int (nI N), .int (nI (r + 1)), .ref (1000000 + 2), .int (nI p), .int (nI (p + 1)), .int (nI r), w7]))) 2 (x_up h 3 (.inr (2, [.ref 1, .int (nI N), w2, w3, .int (nI p), w5, w6, .int (nI p)])))) := by
  refine x_Mt.of (by decide) (Nat.le_of_ble_eq_true rfl) ?_
  have hno : r = 0 → ∀ i, x_W E M_SG_takeQuoted (x_room 7 1 6) (x_YX (!decide (r = 0)) none (x_up h 3 (.inr (2, [.ref 1, .int (nI N), .int (nI (r + 1)), .ref (1000000 + 2), .int (nI p), .int (nI (p + 1)), .int (nI r), w7]))) 2 (x_up h 3 (.inr (2, [.ref 1, .int (nI N), w2, w3, .int (nI p), w5, w6, .int (nI p)])))) 52 h 87 [(0, .ref 3), (1, .int (nI i))] [] 0 0 := by
    intro hz i
    refine x_aload_n d_SG_takeQuoted_87 rfl rfl ?_
    exact x_callV0X d_SG_takeQuoted_88 k_SG_93 (Nat.le_of_ble_eq_true rfl) (Nat.le_of_ble_eq_true rfl) (by first | rfl | assumption) (by rfl) (w_SG_breakHere (by first | rfl | assumption)) (Nat.le_of_ble_eq_true rfl) (Nat.le_of_ble_eq_true rfl) (Nat.le_of_ble_eq_true rfl) (Nat.le_of_ble_eq_true rfl) (Nat.le_of_ble_eq_true rfl) rfl (fun h2 e2 => x_YX0 (by rw [hz]; rfl) e2)
  have hloop : ∀ m i, i + m = N + 1 → 0 < i → g_qt (g_at u N) m i = r → x_W E M_SG_takeQuoted (x_room 7 1 6) (x_YX (!decide (r = 0)) none (x_up h 3 (.inr (2, [.ref 1, .int (nI N), .int (nI (r + 1)), .ref (1000000 + 2), .int (nI p), .int (nI (p + 1)), .int (nI r), w7]))) 2 (x_up h 3 (.inr (2, [.ref 1, .int (nI N), w2, w3, .int (nI p), w5, w6, .int (nI p)])))) 52 h 7 [(0, .ref 3), (1, .int (nI i))] [] 0 0 := by
    intro m
    induction m using Nat.strongRecOn with
    | _ m ih =>
      intro i hi hi0 hr
      refine x_iload_n d_SG_takeQuoted_7 rfl rfl ?_
      refine x_aload_n d_SG_takeQuoted_8 rfl rfl ?_
      refine x_get d_SG_takeQuoted_9 f_SG_34 (Nat.le_of_ble_eq_true rfl) (Nat.le_of_ble_eq_true rfl) (by first | rfl | assumption) (by rfl) ?_
      refine x_icmp_ge 87 d_SG_takeQuoted_12 (by decide) (fun c_12 => ?_) (fun c_12 => ?_)
      · exact hno (hr.symm.trans (g_qt0 (Or.inl (by rw [g_at_out ((nI_leI (by omega) (by omega)).mp c_12)]; decide)))) _
      · have hiN : i < N := Nat.not_le.mp fun q => c_12 (nI_le q (by omega))
        refine x_aload_n d_SG_takeQuoted_15 rfl rfl ?_
        refine x_iload_n d_SG_takeQuoted_16 rfl rfl ?_
        refine x_callV1Y d_SG_takeQuoted_17 k_SG_49 (Nat.le_of_ble_eq_true rfl) (Nat.le_of_ble_eq_true rfl) (by first | rfl | assumption) (by rfl) (w_SG_at (by first | rfl | assumption) (by first | rfl | assumption) hu hN (by omega)) (Nat.le_of_ble_eq_true rfl) (Nat.le_of_ble_eq_true rfl) (Nat.le_of_ble_eq_true rfl) (Nat.le_of_ble_eq_true rfl) (Nat.le_of_ble_eq_true rfl) rfl ?_
        refine x_bipush 32 d_SG_takeQuoted_20 (by decide) ?_
        refine x_icmp_lt 87 d_SG_takeQuoted_22 (by decide) (fun c_22 => ?_) (fun c_22 => ?_)
        · exact hno (hr.symm.trans (g_qt0 (Or.inl c_22))) _
        · refine x_aload_n d_SG_takeQuoted_25 rfl rfl ?_
          refine x_iload_n d_SG_takeQuoted_26 rfl rfl ?_
          refine x_callV1Y d_SG_takeQuoted_27 k_SG_49 (Nat.le_of_ble_eq_true rfl) (Nat.le_of_ble_eq_true rfl) (by first | rfl | assumption) (by rfl) (w_SG_at (by first | rfl | assumption) (by first | rfl | assumption) hu hN (by omega)) (Nat.le_of_ble_eq_true rfl) (Nat.le_of_ble_eq_true rfl) (Nat.le_of_ble_eq_true rfl) (Nat.le_of_ble_eq_true rfl) (Nat.le_of_ble_eq_true rfl) rfl ?_
          refine x_bipush 126 d_SG_takeQuoted_30 (by decide) ?_
          refine x_icmp_gt 87 d_SG_takeQuoted_32 (by decide) (fun c_32 => ?_) (fun c_32 => ?_)
          · exact hno (hr.symm.trans (g_qt0 (Or.inr c_32))) _
          · refine x_aload_n d_SG_takeQuoted_35 rfl rfl ?_
            refine x_iload_n d_SG_takeQuoted_36 rfl rfl ?_
            refine x_callV1Y d_SG_takeQuoted_37 k_SG_49 (Nat.le_of_ble_eq_true rfl) (Nat.le_of_ble_eq_true rfl) (by first | rfl | assumption) (by rfl) (w_SG_at (by first | rfl | assumption) (by first | rfl | assumption) hu hN (by omega)) (Nat.le_of_ble_eq_true rfl) (Nat.le_of_ble_eq_true rfl) (Nat.le_of_ble_eq_true rfl) (Nat.le_of_ble_eq_true rfl) (Nat.le_of_ble_eq_true rfl) rfl ?_
            refine x_bipush 39 d_SG_takeQuoted_40 (by decide) ?_
            refine x_icmp_eq 51 d_SG_takeQuoted_42 (by decide) (fun c_42 => ?_) (fun c_42 => ?_)
            · refine x_aload_n d_SG_takeQuoted_51 rfl rfl ?_
              refine x_iload_n d_SG_takeQuoted_52 rfl rfl ?_
              refine x_iconst 1 d_SG_takeQuoted_53 (by decide) ?_
              refine x_iadd d_SG_takeQuoted_54 ?_
              refine x_topi (nI (i + 1)) (nI_succ i).symm ?_
              refine x_callV1Y d_SG_takeQuoted_55 k_SG_49 (Nat.le_of_ble_eq_true rfl) (Nat.le_of_ble_eq_true rfl) (by first | rfl | assumption) (by rfl) (w_SG_at (by first | rfl | assumption) (by first | rfl | assumption) hu hN (by omega)) (Nat.le_of_ble_eq_true rfl) (Nat.le_of_ble_eq_true rfl) (Nat.le_of_ble_eq_true rfl) (Nat.le_of_ble_eq_true rfl) (Nat.le_of_ble_eq_true rfl) rfl ?_
              refine x_bipush 39 d_SG_takeQuoted_58 (by decide) ?_
              refine x_icmp_ne 69 d_SG_takeQuoted_60 (by decide) (fun c_60 => ?_) (fun c_60 => ?_)
              · refine x_aload_n d_SG_takeQuoted_69 rfl rfl ?_
                refine x_gSN (i := 2) d_SG_takeQuoted_70 (by decide) s_SG_70 ?_
                refine x_aload_n d_SG_takeQuoted_73 rfl rfl ?_
                refine x_get d_SG_takeQuoted_74 f_SG_46 (Nat.le_of_ble_eq_true rfl) (Nat.le_of_ble_eq_true rfl) (by first | rfl | assumption) (by rfl) ?_
                refine x_iconst 1 d_SG_takeQuoted_77 (by decide) ?_
                refine x_iadd d_SG_takeQuoted_78 ?_
                refine x_topi (nI (p + 1)) (nI_succ p).symm ?_
                refine x_iload_n d_SG_takeQuoted_79 rfl rfl ?_
                refine x_iload_n d_SG_takeQuoted_80 rfl rfl ?_
                refine x_iconst 1 d_SG_takeQuoted_81 (by decide) ?_
                refine x_iadd d_SG_takeQuoted_82 ?_
                refine x_topi (nI (i + 1)) (nI_succ i).symm ?_
                refine x_callV4Y d_SG_takeQuoted_83 k_SG_53 (Nat.le_of_ble_eq_true rfl) (Nat.le_of_ble_eq_true rfl) (by first | rfl | assumption) (by rfl) (w_SG_take h3) (Nat.le_of_ble_eq_true rfl) (Nat.le_of_ble_eq_true rfl) (Nat.le_of_ble_eq_true rfl) (Nat.le_of_ble_eq_true rfl) (Nat.le_of_ble_eq_true rfl) rfl ?_
                obtain ⟨m, rfl⟩ : ∃ k, m = k + 1 := ⟨m - 1, by omega⟩
                obtain rfl : i = r := (g_qt3 c_22 c_32 c_42 c_60).symm.trans hr
                exact x_return d_SG_takeQuoted_86 rfl (x_YX1 (by rw [decide_eq_false (by omega)]; rfl) (fun _ _ => rfl))
              · refine x_iinc d_SG_takeQuoted_63 rfl 2 (by decide) (Nat.le_of_ble_eq_true rfl) ?_
                refine x_goto 7 d_SG_takeQuoted_66 (by decide) ?_
                refine x_lv [(0, .ref 3), (1, .int (nI (i + 2)))] (by rw [← nI_add i 2]; rfl) ?_
                obtain ⟨m, rfl⟩ : ∃ k, m = k + 1 := ⟨m - 1, by omega⟩
                rw [g_qt2 c_22 c_32 c_42 c_60] at hr
                have hin : i + 1 < N := by
                  rcases Nat.lt_or_ge (i + 1) N with q | q
                  · exact q
                  · rw [g_at_out q] at c_60; exact absurd c_60 (by decide)
                exact ih (m - 1) (by omega) (i + 2) (by omega) (by omega) ((g_qtm (N := N) (fun j hj => g_at_out hj) (m - 1) m (i + 2) (by omega) (by omega)).trans hr)
            · refine x_iinc d_SG_takeQuoted_45 rfl 1 (by decide) (Nat.le_of_ble_eq_true rfl) ?_
              refine x_goto 7 d_SG_takeQuoted_48 (by decide) ?_
              refine x_lv [(0, .ref 3), (1, .int (nI (i + 1)))] (by rw [nI_succ i]; rfl) ?_
              obtain ⟨m, rfl⟩ : ∃ k, m = k + 1 := ⟨m - 1, by omega⟩
              rw [g_qt1 c_22 c_32 c_42] at hr
              exact ih m (by omega) (i + 1) (by omega) (by omega) hr
  show x_W E M_SG_takeQuoted _ _ 52 h 0 [(0, .ref 3)] [] 0 0
  refine x_aload_n d_SG_takeQuoted_0 rfl rfl ?_
  refine x_get d_SG_takeQuoted_1 f_SG_46 (Nat.le_of_ble_eq_true rfl) (Nat.le_of_ble_eq_true rfl) (by first | rfl | assumption) (by rfl) ?_
  refine x_iconst 1 d_SG_takeQuoted_4 (by decide) ?_
  refine x_iadd d_SG_takeQuoted_5 ?_
  refine x_topi (nI (p + 1)) (nI_succ p).symm ?_
  refine x_istore_n d_SG_takeQuoted_6 rfl (Nat.le_of_ble_eq_true rfl) ?_
  exact hloop (N - p) (p + 1) (by omega) (by omega) hr
/-- a single sign: 12: none -/
def g_solo (c : Int32) : Nat := if c = 33 then 3 else if c = 40 then 4 else if c = 41 then 5 else if c = 44 then 10 else if c = 59 then 3 else if c = 91 then 6 else if c = 93 then 7 else if c = 123 then 8 else if c = 124 then 11 else if c = 125 then 9 else 12
/-- the Sign of a kind -/
def g_sg (k : Nat) : Nat := [3, 0, 1, 2, 4, 5, 6, 7, 8, 8, 9, 10, 11, 11].getD k 11
theorem g_i32 {c d : Int32} (h : ¬ c = d) : ¬ c.toInt = d.toInt := fun q => h (Int32.toInt_inj.mp q)
theorem d_SG_soloSign_0 : decode M_SG_soloSign.2.1 0 = .ok (.iload_n 0, 1) := by decide +kernel
theorem d_SG_soloSign_1 : decode M_SG_soloSign.2.1 1 = .ok (.lookupswitch 131 #[(33, 123), (40, 91), (41, 95), (44, 115), (59, 127), (91, 99), (93, 103), (123, 107), (124, 119), (125, 111)], 91) := by decide +kernel
theorem d_SG_soloSign_92 : decode M_SG_soloSign.2.1 92 = .ok (.getstatic 142, 3) := by decide +kernel
theorem d_SG_soloSign_95 : decode M_SG_soloSign.2.1 95 = .ok (.areturn, 1) := by decide +kernel
theorem d_SG_soloSign_96 : decode M_SG_soloSign.2.1 96 = .ok (.getstatic 164, 3) := by decide +kernel
theorem d_SG_soloSign_99 : decode M_SG_soloSign.2.1 99 = .ok (.areturn, 1) := by decide +kernel
theorem d_SG_soloSign_100 : decode M_SG_soloSign.2.1 100 = .ok (.getstatic 145, 3) := by decide +kernel
theorem d_SG_soloSign_103 : decode M_SG_soloSign.2.1 103 = .ok (.areturn, 1) := by decide +kernel
theorem d_SG_soloSign_104 : decode M_SG_soloSign.2.1 104 = .ok (.getstatic 167, 3) := by decide +kernel
theorem d_SG_soloSign_107 : decode M_SG_soloSign.2.1 107 = .ok (.areturn, 1) := by decide +kernel
theorem d_SG_soloSign_108 : decode M_SG_soloSign.2.1 108 = .ok (.getstatic 170, 3) := by decide +kernel
theorem d_SG_soloSign_111 : decode M_SG_soloSign.2.1 111 = .ok (.areturn, 1) := by decide +kernel
theorem d_SG_soloSign_112 : decode M_SG_soloSign.2.1 112 = .ok (.getstatic 170, 3) := by decide +kernel
theorem d_SG_soloSign_115 : decode M_SG_soloSign.2.1 115 = .ok (.areturn, 1) := by decide +kernel
theorem d_SG_soloSign_116 : decode M_SG_soloSign.2.1 116 = .ok (.getstatic 173, 3) := by decide +kernel
theorem d_SG_soloSign_119 : decode M_SG_soloSign.2.1 119 = .ok (.areturn, 1) := by decide +kernel
theorem d_SG_soloSign_120 : decode M_SG_soloSign.2.1 120 = .ok (.getstatic 176, 3) := by decide +kernel
theorem d_SG_soloSign_123 : decode M_SG_soloSign.2.1 123 = .ok (.areturn, 1) := by decide +kernel
theorem d_SG_soloSign_124 : decode M_SG_soloSign.2.1 124 = .ok (.getstatic 70, 3) := by decide +kernel
theorem d_SG_soloSign_127 : decode M_SG_soloSign.2.1 127 = .ok (.areturn, 1) := by decide +kernel
theorem d_SG_soloSign_128 : decode M_SG_soloSign.2.1 128 = .ok (.getstatic 70, 3) := by decide +kernel
theorem d_SG_soloSign_131 : decode M_SG_soloSign.2.1 131 = .ok (.areturn, 1) := by decide +kernel
theorem d_SG_soloSign_132 : decode M_SG_soloSign.2.1 132 = .ok (.getstatic 15, 3) := by decide +kernel
theorem d_SG_soloSign_135 : decode M_SG_soloSign.2.1 135 = .ok (.areturn, 1) := by decide +kernel
set_option maxRecDepth 20000 in
theorem w_SG_soloSign {E : xR} {n : Nat} {h : xH} {c : Int32} : x_Mt E M_SG_soloSign 0 0 0 [.int c] n h (x_Y (some (.ref (1000000 + g_sg (g_solo c)))) n h) := by
  refine x_Mt.of (by decide) (Nat.le_of_ble_eq_true rfl) ?_
  show x_W E M_SG_soloSign _ _ n h 0 [(0, .int c)] [] 0 0
  refine x_iload_n d_SG_soloSign_0 rfl rfl ?_
  unfold g_solo
  by_cases c33 : c = 33
  · subst c33
    refine x_lsw 124 d_SG_soloSign_1 (by decide) rfl (by decide) ?_
    refine x_gSN (i := 2) d_SG_soloSign_124 (by decide) s_SG_70 ?_
    exact x_areturn d_SG_soloSign_127 rfl ⟨rfl, rfl, fun _ _ => rfl, rfl, rfl⟩
  rw [if_neg c33]
  by_cases c40 : c = 40
  · subst c40
    refine x_lsw 92 d_SG_soloSign_1 (by decide) rfl (by decide) ?_
    refine x_gSN (i := 4) d_SG_soloSign_92 (by decide) s_SG_142 ?_
    exact x_areturn d_SG_soloSign_95 rfl ⟨rfl, rfl, fun _ _ => rfl, rfl, rfl⟩
  rw [if_neg c40]
  by_cases c41 : c = 41
  · subst c41
    refine x_lsw 96 d_SG_soloSign_1 (by decide) rfl (by decide) ?_
    refine x_gSN (i := 5) d_SG_soloSign_96 (by decide) s_SG_164 ?_
    exact x_areturn d_SG_soloSign_99 rfl ⟨rfl, rfl, fun _ _ => rfl, rfl, rfl⟩
  rw [if_neg c41]
  by_cases c44 : c = 44
  · subst c44
    refine x_lsw 116 d_SG_soloSign_1 (by decide) rfl (by decide) ?_
    refine x_gSN (i := 9) d_SG_soloSign_116 (by decide) s_SG_173 ?_
    exact x_areturn d_SG_soloSign_119 rfl ⟨rfl, rfl, fun _ _ => rfl, rfl, rfl⟩
  rw [if_neg c44]
  by_cases c59 : c = 59
  · subst c59
    refine x_lsw 128 d_SG_soloSign_1 (by decide) rfl (by decide) ?_
    refine x_gSN (i := 2) d_SG_soloSign_128 (by decide) s_SG_70 ?_
    exact x_areturn d_SG_soloSign_131 rfl ⟨rfl, rfl, fun _ _ => rfl, rfl, rfl⟩
  rw [if_neg c59]
  by_cases c91 : c = 91
  · subst c91
    refine x_lsw 100 d_SG_soloSign_1 (by decide) rfl (by decide) ?_
    refine x_gSN (i := 6) d_SG_soloSign_100 (by decide) s_SG_145 ?_
    exact x_areturn d_SG_soloSign_103 rfl ⟨rfl, rfl, fun _ _ => rfl, rfl, rfl⟩
  rw [if_neg c91]
  by_cases c93 : c = 93
  · subst c93
    refine x_lsw 104 d_SG_soloSign_1 (by decide) rfl (by decide) ?_
    refine x_gSN (i := 7) d_SG_soloSign_104 (by decide) s_SG_167 ?_
    exact x_areturn d_SG_soloSign_107 rfl ⟨rfl, rfl, fun _ _ => rfl, rfl, rfl⟩
  rw [if_neg c93]
  by_cases c123 : c = 123
  · subst c123
    refine x_lsw 108 d_SG_soloSign_1 (by decide) rfl (by decide) ?_
    refine x_gSN (i := 8) d_SG_soloSign_108 (by decide) s_SG_170 ?_
    exact x_areturn d_SG_soloSign_111 rfl ⟨rfl, rfl, fun _ _ => rfl, rfl, rfl⟩
  rw [if_neg c123]
  by_cases c124 : c = 124
  · subst c124
    refine x_lsw 120 d_SG_soloSign_1 (by decide) rfl (by decide) ?_
    refine x_gSN (i := 10) d_SG_soloSign_120 (by decide) s_SG_176 ?_
    exact x_areturn d_SG_soloSign_123 rfl ⟨rfl, rfl, fun _ _ => rfl, rfl, rfl⟩
  rw [if_neg c124]
  by_cases c125 : c = 125
  · subst c125
    refine x_lsw 112 d_SG_soloSign_1 (by decide) rfl (by decide) ?_
    refine x_gSN (i := 8) d_SG_soloSign_112 (by decide) s_SG_170 ?_
    exact x_areturn d_SG_soloSign_115 rfl ⟨rfl, rfl, fun _ _ => rfl, rfl, rfl⟩
  rw [if_neg c125]
  have q33 : ¬ (33 : Int) = c.toInt := fun q => c33 (Int32.toInt_inj.mp (show c.toInt = (33 : Int32).toInt from q.symm))
  have q40 : ¬ (40 : Int) = c.toInt := fun q => c40 (Int32.toInt_inj.mp (show c.toInt = (40 : Int32).toInt from q.symm))
  have q41 : ¬ (41 : Int) = c.toInt := fun q => c41 (Int32.toInt_inj.mp (show c.toInt = (41 : Int32).toInt from q.symm))
  have q44 : ¬ (44 : Int) = c.toInt := fun q => c44 (Int32.toInt_inj.mp (show c.toInt = (44 : Int32).toInt from q.symm))
  have q59 : ¬ (59 : Int) = c.toInt := fun q => c59 (Int32.toInt_inj.mp (show c.toInt = (59 : Int32).toInt from q.symm))
  have q91 : ¬ (91 : Int) = c.toInt := fun q => c91 (Int32.toInt_inj.mp (show c.toInt = (91 : Int32).toInt from q.symm))
  have q93 : ¬ (93 : Int) = c.toInt := fun q => c93 (Int32.toInt_inj.mp (show c.toInt = (93 : Int32).toInt from q.symm))
  have q123 : ¬ (123 : Int) = c.toInt := fun q => c123 (Int32.toInt_inj.mp (show c.toInt = (123 : Int32).toInt from q.symm))
  have q124 : ¬ (124 : Int) = c.toInt := fun q => c124 (Int32.toInt_inj.mp (show c.toInt = (124 : Int32).toInt from q.symm))
  have q125 : ¬ (125 : Int) = c.toInt := fun q => c125 (Int32.toInt_inj.mp (show c.toInt = (125 : Int32).toInt from q.symm))
  refine x_lsw (off := 131) 132 d_SG_soloSign_1 (by decide) (by simp [Op.lookupswitch.offset, q33, q40, q41, q44, q59, q91, q93, q123, q124, q125]) (by decide) ?_
  refine x_gSN (i := 11) d_SG_soloSign_132 (by decide) s_SG_15 ?_
  exact x_areturn d_SG_soloSign_135 rfl ⟨rfl, rfl, fun _ _ => rfl, rfl, rfl⟩
