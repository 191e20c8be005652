theorem g_ngl {m : Nat} (h0 : 0 < m) (hm : m < 2 ^ 63) : -lN m < 0 := by
  rw [Int64.lt_iff_toInt_lt]
  have h1 : (lN m).toInt = (m : Int) := pk_lT hm
  rw [Int64.toInt_neg, h1]
  show (-(m : Int)).bmod (2 ^ 64) < (0 : Int64).toInt
  rw [Int.bmod_eq_of_le (by omega) (by omega)]
  show -(m : Int) < 0
  omega
theorem g_dexF : ∀ (e v : Nat), g_dex (e + 1) v = nI (48 + v / 10 ^ (e + 1) % 10) :: g_dex e v
  | 0, v => by
    rw [g_dex, g_dex, g_dex]
    show [nI (48 + v / 10 % 10)] ++ [nI (48 + v % 10)] = _
    rw [show v / 10 ^ (0 + 1) = v / 10 by rw [Nat.zero_add, Nat.pow_one]]; rfl
  | e + 1, v => by
    rw [g_dex, g_dexF e (v / 10), List.cons_append, show g_dex e (v / 10) ++ [nI (48 + v % 10)] = g_dex (e + 1) v from rfl, Nat.div_div_eq_div_mul, show 10 * 10 ^ (e + 1) = 10 ^ (e + 1 + 1) by rw [Nat.pow_succ 10 (e + 1), Nat.mul_comm]]
theorem g_p10 : ∀ e, e ≤ 17 → 10 ^ e < 2 ^ 63 ∧ 0 < 10 ^ e := by decide
theorem d_PP_name_0 : decode M_PP_name.2.1 0 = .ok (.aload_n 1, 1) := by decide +kernel
theorem d_PP_name_1 : decode M_PP_name.2.1 1 = .ok (.iload_n 2, 1) := by decide +kernel
theorem d_PP_name_2 : decode M_PP_name.2.1 2 = .ok (.invokestatic 67, 3) := by decide +kernel
theorem d_PP_name_5 : decode M_PP_name.2.1 5 = .ok (.istore_n 3, 1) := by decide +kernel
theorem d_PP_name_6 : decode M_PP_name.2.1 6 = .ok (.iload_n 3, 1) := by decide +kernel
theorem d_PP_name_7 : decode M_PP_name.2.1 7 = .ok (.ifCond .ne 9, 3) := by decide +kernel
theorem d_PP_name_10 : decode M_PP_name.2.1 10 = .ok (.aload_n 0, 1) := by decide +kernel
theorem d_PP_name_11 : decode M_PP_name.2.1 11 = .ok (.bipush 39, 2) := by decide +kernel
theorem d_PP_name_13 : decode M_PP_name.2.1 13 = .ok (.invokevirtual 33, 3) := by decide +kernel
theorem d_PP_name_16 : decode M_PP_name.2.1 16 = .ok (.iconst 0, 1) := by decide +kernel
theorem d_PP_name_17 : decode M_PP_name.2.1 17 = .ok (.istore 4, 2) := by decide +kernel
theorem d_PP_name_19 : decode M_PP_name.2.1 19 = .ok (.iload 4, 2) := by decide +kernel
theorem d_PP_name_21 : decode M_PP_name.2.1 21 = .ok (.aload_n 1, 1) := by decide +kernel
theorem d_PP_name_22 : decode M_PP_name.2.1 22 = .ok (.iload_n 2, 1) := by decide +kernel
theorem d_PP_name_23 : decode M_PP_name.2.1 23 = .ok (.invokevirtual 43, 3) := by decide +kernel
theorem d_PP_name_26 : decode M_PP_name.2.1 26 = .ok (.if_icmp .ge 38, 3) := by decide +kernel
theorem d_PP_name_29 : decode M_PP_name.2.1 29 = .ok (.aload_n 1, 1) := by decide +kernel
theorem d_PP_name_30 : decode M_PP_name.2.1 30 = .ok (.iload_n 2, 1) := by decide +kernel
theorem d_PP_name_31 : decode M_PP_name.2.1 31 = .ok (.iload 4, 2) := by decide +kernel
theorem d_PP_name_33 : decode M_PP_name.2.1 33 = .ok (.invokevirtual 49, 3) := by decide +kernel
theorem d_PP_name_36 : decode M_PP_name.2.1 36 = .ok (.bipush 39, 2) := by decide +kernel
theorem d_PP_name_38 : decode M_PP_name.2.1 38 = .ok (.if_icmp .ne 9, 3) := by decide +kernel
theorem d_PP_name_41 : decode M_PP_name.2.1 41 = .ok (.aload_n 0, 1) := by decide +kernel
theorem d_PP_name_42 : decode M_PP_name.2.1 42 = .ok (.bipush 39, 2) := by decide +kernel
theorem d_PP_name_44 : decode M_PP_name.2.1 44 = .ok (.invokevirtual 33, 3) := by decide +kernel
theorem d_PP_name_47 : decode M_PP_name.2.1 47 = .ok (.aload_n 0, 1) := by decide +kernel
theorem d_PP_name_48 : decode M_PP_name.2.1 48 = .ok (.aload_n 1, 1) := by decide +kernel
theorem d_PP_name_49 : decode M_PP_name.2.1 49 = .ok (.iload_n 2, 1) := by decide +kernel
theorem d_PP_name_50 : decode M_PP_name.2.1 50 = .ok (.iload 4, 2) := by decide +kernel
theorem d_PP_name_52 : decode M_PP_name.2.1 52 = .ok (.invokevirtual 49, 3) := by decide +kernel
theorem d_PP_name_55 : decode M_PP_name.2.1 55 = .ok (.invokevirtual 33, 3) := by decide +kernel
theorem d_PP_name_58 : decode M_PP_name.2.1 58 = .ok (.iinc 4 1, 3) := by decide +kernel
theorem d_PP_name_61 : decode M_PP_name.2.1 61 = .ok (.goto (-42), 3) := by decide +kernel
theorem d_PP_name_64 : decode M_PP_name.2.1 64 = .ok (.iload_n 3, 1) := by decide +kernel
theorem d_PP_name_65 : decode M_PP_name.2.1 65 = .ok (.ifCond .ne 9, 3) := by decide +kernel
theorem d_PP_name_68 : decode M_PP_name.2.1 68 = .ok (.aload_n 0, 1) := by decide +kernel
theorem d_PP_name_69 : decode M_PP_name.2.1 69 = .ok (.bipush 39, 2) := by decide +kernel
theorem d_PP_name_71 : decode M_PP_name.2.1 71 = .ok (.invokevirtual 33, 3) := by decide +kernel
theorem d_PP_name_74 : decode M_PP_name.2.1 74 = .ok (.return_, 1) := by decide +kernel
set_option maxRecDepth 20000 in
theorem w_PP_name {E : xR} {h : xH} {S : List Int32} {n : Nat} {Wk Nx Sn P0 : Nat → Int32} {T : List (List Int32)} {Na : Nat → Nat → Int32} {k : Nat} {w : List Int32} (hN : g_HN h T Na) (hk : g_nt T k = some w) (hk9 : k < 9000) (hL : w.length ≤ 5000) (hb : ∀ c ∈ w, ∃ x, x < 256 ∧ c = g_sb x) : x_Mt E M_PP_name 7 0 0 [.ref 44, .ref 31, .int (nI k)] 52 (g_yw h S n Wk Nx Sn P0) (x_Y none 52 (g_yw h (S ++ g_mnS w) n Wk Nx Sn P0)) := by
  have h31c := hN.1.1
  refine x_Mt.of (by decide) (Nat.le_of_ble_eq_true rfl) ?_
  have hend : ∀ S1, (S1 ++ if g_pll w = true then [] else [39]) = (S ++ g_mnS w) → x_W E M_PP_name (x_room 7 0 0) (x_Y none 52 (g_yw h (S ++ g_mnS w) n Wk Nx Sn P0)) 52 (g_yw h S1 n Wk Nx Sn P0) 64 [(0, .ref 44), (1, .ref 31), (2, .int (nI k)), (3, .int (g_b2 (g_pll w))), (4, .int (nI w.length))] [] 0 0 := by
    intro S1 he
    refine x_iload_n d_PP_name_64 rfl rfl ?_
    refine x_if_ne 74 d_PP_name_65 (by decide) (fun c_65 => ?_) (fun c_65 => ?_)
    · exact x_return d_PP_name_74 rfl ⟨rfl, rfl, fun _ _ => by rw [if_pos (g_b2n c_65), List.append_nil] at he; rw [he], rfl, rfl⟩
    · refine x_aload_n d_PP_name_68 rfl rfl ?_
      refine x_bipush 39 d_PP_name_69 (by decide) ?_
      refine x_callV1Y d_PP_name_71 k_PP_33 (Nat.le_of_ble_eq_true rfl) (Nat.le_of_ble_eq_true rfl) (by first | rfl | assumption) (by rfl) w_PP_put (Nat.le_of_ble_eq_true rfl) (Nat.le_of_ble_eq_true rfl) (Nat.le_of_ble_eq_true rfl) (Nat.le_of_ble_eq_true rfl) (Nat.le_of_ble_eq_true rfl) rfl ?_
      exact x_return d_PP_name_74 rfl ⟨rfl, rfl, fun _ _ => by rw [if_neg (by rw [g_b2z c_65]; decide)] at he; rw [← he], rfl, rfl⟩
  have hloop : ∀ m i S1, i + m = w.length → (S1 ++ g_rq (w.drop i) ++ if g_pll w = true then [] else [39]) = (S ++ g_mnS w) → x_W E M_PP_name (x_room 7 0 0) (x_Y none 52 (g_yw h (S ++ g_mnS w) n Wk Nx Sn P0)) 52 (g_yw h S1 n Wk Nx Sn P0) 19 [(0, .ref 44), (1, .ref 31), (2, .int (nI k)), (3, .int (g_b2 (g_pll w))), (4, .int (nI i))] [] 0 0 := by
    intro m
    induction m with
    | zero =>
      intro i S1 hi he
      obtain rfl : i = w.length := by omega
      rw [List.drop_length, g_rq, List.append_nil] at he
      refine x_iload d_PP_name_19 rfl ?_
      refine x_aload_n d_PP_name_21 rfl rfl ?_
      refine x_iload_n d_PP_name_22 rfl rfl ?_
      refine x_callV1Y d_PP_name_23 k_PP_43 (Nat.le_of_ble_eq_true rfl) (Nat.le_of_ble_eq_true rfl) h31c (by rfl) (q_length hN hk hk9) (Nat.le_of_ble_eq_true rfl) (Nat.le_of_ble_eq_true rfl) (Nat.le_of_ble_eq_true rfl) (Nat.le_of_ble_eq_true rfl) (Nat.le_of_ble_eq_true rfl) rfl ?_
      refine x_icmp_ge 64 d_PP_name_26 (by decide) (fun _ => ?_) (fun z => absurd (nI_le (Nat.le_refl _) (by omega)) z)
      exact hend S1 he
    | succ m ih =>
      intro i S1 hi he
      have hiw : i < w.length := by omega
      rw [List.drop_eq_getElem_cons hiw, g_rq] at he
      refine x_iload d_PP_name_19 rfl ?_
      refine x_aload_n d_PP_name_21 rfl rfl ?_
      refine x_iload_n d_PP_name_22 rfl rfl ?_
      refine x_callV1Y d_PP_name_23 k_PP_43 (Nat.le_of_ble_eq_true rfl) (Nat.le_of_ble_eq_true rfl) h31c (by rfl) (q_length hN hk hk9) (Nat.le_of_ble_eq_true rfl) (Nat.le_of_ble_eq_true rfl) (Nat.le_of_ble_eq_true rfl) (Nat.le_of_ble_eq_true rfl) (Nat.le_of_ble_eq_true rfl) rfl ?_
      refine x_icmp_ge 64 d_PP_name_26 (by decide) (fun z => absurd z (nI_ge hiw (by omega))) (fun _ => ?_)
      refine x_aload_n d_PP_name_29 rfl rfl ?_
      refine x_iload_n d_PP_name_30 rfl rfl ?_
      refine x_iload d_PP_name_31 rfl ?_
      refine x_callV2Y d_PP_name_33 k_PP_49 (Nat.le_of_ble_eq_true rfl) (Nat.le_of_ble_eq_true rfl) h31c (by rfl) (q_at (W := (g_yw h S1 n Wk Nx Sn P0)) hN hk hk9 hiw) (Nat.le_of_ble_eq_true rfl) (Nat.le_of_ble_eq_true rfl) (Nat.le_of_ble_eq_true rfl) (Nat.le_of_ble_eq_true rfl) (Nat.le_of_ble_eq_true rfl) rfl ?_
      refine x_bipush 39 d_PP_name_36 (by decide) ?_
      refine x_icmp_ne 47 d_PP_name_38 (by decide) (fun c_38 => ?_) (fun c_38 => ?_)
      · refine x_aload_n d_PP_name_47 rfl rfl ?_
        refine x_aload_n d_PP_name_48 rfl rfl ?_
        refine x_iload_n d_PP_name_49 rfl rfl ?_
        refine x_iload d_PP_name_50 rfl ?_
        refine x_callV2Y d_PP_name_52 k_PP_49 (Nat.le_of_ble_eq_true rfl) (Nat.le_of_ble_eq_true rfl) h31c (by rfl) (q_at (W := (g_yw h S1 n Wk Nx Sn P0)) hN hk hk9 hiw) (Nat.le_of_ble_eq_true rfl) (Nat.le_of_ble_eq_true rfl) (Nat.le_of_ble_eq_true rfl) (Nat.le_of_ble_eq_true rfl) (Nat.le_of_ble_eq_true rfl) rfl ?_
        refine x_callV1Y d_PP_name_55 k_PP_33 (Nat.le_of_ble_eq_true rfl) (Nat.le_of_ble_eq_true rfl) (by first | rfl | assumption) (by rfl) w_PP_put (Nat.le_of_ble_eq_true rfl) (Nat.le_of_ble_eq_true rfl) (Nat.le_of_ble_eq_true rfl) (Nat.le_of_ble_eq_true rfl) (Nat.le_of_ble_eq_true rfl) rfl ?_
        refine x_iinc d_PP_name_58 rfl 1 (by decide) (Nat.le_of_ble_eq_true rfl) ?_
        refine x_goto 19 d_PP_name_61 (by decide) ?_
        refine x_lv [(0, .ref 44), (1, .ref 31), (2, .int (nI k)), (3, .int (g_b2 (g_pll w))), (4, .int (nI (i + 1)))] (by rw [nI_succ i]; rfl) ?_
        exact ih (i + 1) _ (by omega) (by rw [if_neg c_38] at he; rw [← he]; simp only [List.append_assoc, List.cons_append, List.nil_append])
      · refine x_aload_n d_PP_name_41 rfl rfl ?_
        refine x_bipush 39 d_PP_name_42 (by decide) ?_
        refine x_callV1Y d_PP_name_44 k_PP_33 (Nat.le_of_ble_eq_true rfl) (Nat.le_of_ble_eq_true rfl) (by first | rfl | assumption) (by rfl) w_PP_put (Nat.le_of_ble_eq_true rfl) (Nat.le_of_ble_eq_true rfl) (Nat.le_of_ble_eq_true rfl) (Nat.le_of_ble_eq_true rfl) (Nat.le_of_ble_eq_true rfl) rfl ?_
        refine x_aload_n d_PP_name_47 rfl rfl ?_
        refine x_aload_n d_PP_name_48 rfl rfl ?_
        refine x_iload_n d_PP_name_49 rfl rfl ?_
        refine x_iload d_PP_name_50 rfl ?_
        refine x_callV2Y d_PP_name_52 k_PP_49 (Nat.le_of_ble_eq_true rfl) (Nat.le_of_ble_eq_true rfl) h31c (by rfl) (q_at (W := (g_yw h (S1 ++ [39]) n Wk Nx Sn P0)) hN hk hk9 hiw) (Nat.le_of_ble_eq_true rfl) (Nat.le_of_ble_eq_true rfl) (Nat.le_of_ble_eq_true rfl) (Nat.le_of_ble_eq_true rfl) (Nat.le_of_ble_eq_true rfl) rfl ?_
        refine x_callV1Y d_PP_name_55 k_PP_33 (Nat.le_of_ble_eq_true rfl) (Nat.le_of_ble_eq_true rfl) (by first | rfl | assumption) (by rfl) w_PP_put (Nat.le_of_ble_eq_true rfl) (Nat.le_of_ble_eq_true rfl) (Nat.le_of_ble_eq_true rfl) (Nat.le_of_ble_eq_true rfl) (Nat.le_of_ble_eq_true rfl) rfl ?_
        refine x_iinc d_PP_name_58 rfl 1 (by decide) (Nat.le_of_ble_eq_true rfl) ?_
        refine x_goto 19 d_PP_name_61 (by decide) ?_
        refine x_lv [(0, .ref 44), (1, .ref 31), (2, .int (nI k)), (3, .int (g_b2 (g_pll w))), (4, .int (nI (i + 1)))] (by rw [nI_succ i]; rfl) ?_
        exact ih (i + 1) _ (by omega) (by rw [if_pos c_38] at he; rw [← he, c_38]; simp only [List.append_assoc, List.cons_append, List.nil_append])
  show x_W E M_PP_name _ _ 52 (g_yw h S n Wk Nx Sn P0) 0 [(0, .ref 44), (1, .ref 31), (2, .int (nI k))] [] 0 0
  refine x_aload_n d_PP_name_0 rfl rfl ?_
  refine x_iload_n d_PP_name_1 rfl rfl ?_
  refine x_callS2Y d_PP_name_2 k_PP_67 (w_PP_plain hN hk hk9 hL hb) (Nat.le_of_ble_eq_true rfl) (Nat.le_of_ble_eq_true rfl) (Nat.le_of_ble_eq_true rfl) (Nat.le_of_ble_eq_true rfl) (Nat.le_of_ble_eq_true rfl) rfl ?_
  refine x_istore_n d_PP_name_5 rfl (Nat.le_of_ble_eq_true rfl) ?_
  refine x_iload_n d_PP_name_6 rfl rfl ?_
  refine x_if_ne 16 d_PP_name_7 (by decide) (fun c_7 => ?_) (fun c_7 => ?_)
  · refine x_iconst 0 d_PP_name_16 (by decide) ?_
    refine x_istore d_PP_name_17 (Nat.le_of_ble_eq_true rfl) ?_
    exact hloop w.length 0 _ (by omega) (by rw [List.drop_zero]; unfold g_mnS; rw [g_b2n c_7]; simp)
  · refine x_aload_n d_PP_name_10 rfl rfl ?_
    refine x_bipush 39 d_PP_name_11 (by decide) ?_
    refine x_callV1Y d_PP_name_13 k_PP_33 (Nat.le_of_ble_eq_true rfl) (Nat.le_of_ble_eq_true rfl) (by first | rfl | assumption) (by rfl) w_PP_put (Nat.le_of_ble_eq_true rfl) (Nat.le_of_ble_eq_true rfl) (Nat.le_of_ble_eq_true rfl) (Nat.le_of_ble_eq_true rfl) (Nat.le_of_ble_eq_true rfl) rfl ?_
    refine x_iconst 0 d_PP_name_16 (by decide) ?_
    refine x_istore d_PP_name_17 (Nat.le_of_ble_eq_true rfl) ?_
    exact hloop w.length 0 _ (by omega) (by rw [List.drop_zero]; unfold g_mnS; rw [g_b2z c_7]; simp)
theorem d_PP_number_0 : decode M_PP_number.2.1 0 = .ok (.lload_n 1, 1) := by decide +kernel
theorem d_PP_number_1 : decode M_PP_number.2.1 1 = .ok (.lconst 0, 1) := by decide +kernel
theorem d_PP_number_2 : decode M_PP_number.2.1 2 = .ok (.lcmp, 1) := by decide +kernel
theorem d_PP_number_3 : decode M_PP_number.2.1 3 = .ok (.ifCond .ge 9, 3) := by decide +kernel
theorem d_PP_number_6 : decode M_PP_number.2.1 6 = .ok (.aload_n 0, 1) := by decide +kernel
theorem d_PP_number_7 : decode M_PP_number.2.1 7 = .ok (.bipush 45, 2) := by decide +kernel
theorem d_PP_number_9 : decode M_PP_number.2.1 9 = .ok (.invokevirtual 33, 3) := by decide +kernel
theorem d_PP_number_12 : decode M_PP_number.2.1 12 = .ok (.lload_n 1, 1) := by decide +kernel
theorem d_PP_number_13 : decode M_PP_number.2.1 13 = .ok (.lconst 0, 1) := by decide +kernel
theorem d_PP_number_14 : decode M_PP_number.2.1 14 = .ok (.lcmp, 1) := by decide +kernel
theorem d_PP_number_15 : decode M_PP_number.2.1 15 = .ok (.ifCond .ge 8, 3) := by decide +kernel
theorem d_PP_number_18 : decode M_PP_number.2.1 18 = .ok (.lload_n 1, 1) := by decide +kernel
theorem d_PP_number_19 : decode M_PP_number.2.1 19 = .ok (.lneg, 1) := by decide +kernel
theorem d_PP_number_20 : decode M_PP_number.2.1 20 = .ok (.goto 4, 3) := by decide +kernel
theorem d_PP_number_23 : decode M_PP_number.2.1 23 = .ok (.lload_n 1, 1) := by decide +kernel
theorem d_PP_number_24 : decode M_PP_number.2.1 24 = .ok (.lstore_n 3, 1) := by decide +kernel
theorem d_PP_number_25 : decode M_PP_number.2.1 25 = .ok (.lconst 1, 1) := by decide +kernel
theorem d_PP_number_26 : decode M_PP_number.2.1 26 = .ok (.lstore 5, 2) := by decide +kernel
theorem d_PP_number_28 : decode M_PP_number.2.1 28 = .ok (.lload_n 3, 1) := by decide +kernel
theorem d_PP_number_29 : decode M_PP_number.2.1 29 = .ok (.lload 5, 2) := by decide +kernel
theorem d_PP_number_31 : decode M_PP_number.2.1 31 = .ok (.ldiv, 1) := by decide +kernel
theorem d_PP_number_32 : decode M_PP_number.2.1 32 = .ok (.ldc2_w 37, 3) := by decide +kernel
theorem d_PP_number_35 : decode M_PP_number.2.1 35 = .ok (.lcmp, 1) := by decide +kernel
theorem d_PP_number_36 : decode M_PP_number.2.1 36 = .ok (.ifCond .le 14, 3) := by decide +kernel
theorem d_PP_number_39 : decode M_PP_number.2.1 39 = .ok (.lload 5, 2) := by decide +kernel
theorem d_PP_number_41 : decode M_PP_number.2.1 41 = .ok (.ldc2_w 39, 3) := by decide +kernel
theorem d_PP_number_44 : decode M_PP_number.2.1 44 = .ok (.lmul, 1) := by decide +kernel
theorem d_PP_number_45 : decode M_PP_number.2.1 45 = .ok (.lstore 5, 2) := by decide +kernel
theorem d_PP_number_47 : decode M_PP_number.2.1 47 = .ok (.goto (-19), 3) := by decide +kernel
theorem d_PP_number_50 : decode M_PP_number.2.1 50 = .ok (.lload 5, 2) := by decide +kernel
theorem d_PP_number_52 : decode M_PP_number.2.1 52 = .ok (.lconst 0, 1) := by decide +kernel
theorem d_PP_number_53 : decode M_PP_number.2.1 53 = .ok (.lcmp, 1) := by decide +kernel
theorem d_PP_number_54 : decode M_PP_number.2.1 54 = .ok (.ifCond .le 31, 3) := by decide +kernel
theorem d_PP_number_57 : decode M_PP_number.2.1 57 = .ok (.aload_n 0, 1) := by decide +kernel
theorem d_PP_number_58 : decode M_PP_number.2.1 58 = .ok (.ldc2_w 41, 3) := by decide +kernel
theorem d_PP_number_61 : decode M_PP_number.2.1 61 = .ok (.lload_n 3, 1) := by decide +kernel
theorem d_PP_number_62 : decode M_PP_number.2.1 62 = .ok (.lload 5, 2) := by decide +kernel
theorem d_PP_number_64 : decode M_PP_number.2.1 64 = .ok (.ldiv, 1) := by decide +kernel
theorem d_PP_number_65 : decode M_PP_number.2.1 65 = .ok (.ldc2_w 39, 3) := by decide +kernel
theorem d_PP_number_68 : decode M_PP_number.2.1 68 = .ok (.lrem, 1) := by decide +kernel
theorem d_PP_number_69 : decode M_PP_number.2.1 69 = .ok (.ladd, 1) := by decide +kernel
theorem d_PP_number_70 : decode M_PP_number.2.1 70 = .ok (.l2i, 1) := by decide +kernel
theorem d_PP_number_71 : decode M_PP_number.2.1 71 = .ok (.invokevirtual 33, 3) := by decide +kernel
theorem d_PP_number_74 : decode M_PP_number.2.1 74 = .ok (.lload 5, 2) := by decide +kernel
theorem d_PP_number_76 : decode M_PP_number.2.1 76 = .ok (.ldc2_w 39, 3) := by decide +kernel
theorem d_PP_number_79 : decode M_PP_number.2.1 79 = .ok (.ldiv, 1) := by decide +kernel
theorem d_PP_number_80 : decode M_PP_number.2.1 80 = .ok (.lstore 5, 2) := by decide +kernel
theorem d_PP_number_82 : decode M_PP_number.2.1 82 = .ok (.goto (-32), 3) := by decide +kernel
theorem d_PP_number_85 : decode M_PP_number.2.1 85 = .ok (.return_, 1) := by decide +kernel
theorem g_c9 {v : Nat} (hv : v < 2 ^ 63) : lg_cmp (lN v) 9 ≤ 0 ↔ v ≤ 9 := (lg_cmp_le _ _).trans (pk_lLE (b := 9) hv (by decide))
theorem g_c0 {v : Nat} (hv : v < 2 ^ 63) : lg_cmp (lN v) 0 ≤ 0 ↔ v = 0 := (lg_cmp_le _ _).trans ((pk_lLE (b := 0) hv (by decide)).trans (by omega))
theorem g_c0g {v : Nat} (hv : v < 2 ^ 63) : 0 ≤ lg_cmp (lN v) 0 := (lg_cmp_ge _ _).mpr ((pk_lLE (a := 0) (by decide) hv).mpr (Nat.zero_le _))
theorem g_lne {v : Nat} (hv : v < 2 ^ 63) (h0 : 0 < v) : ¬ lN v = 0 := fun q => absurd ((pk_lEQ (b := 0) hv (by decide)).mp q) (by omega)
set_option maxRecDepth 20000 in
theorem w_PP_numD {E : xR} {h : xH} {n : Nat} {Wk Nx Sn P0 : Nat → Int32} {m : Nat} {Z : List Int32} (hm : m < 9007199254740992) : ∀ e S, e ≤ 16 → S ++ g_dex e m = Z → x_W E M_PP_number (x_room 1 0 0) (x_Y none 52 (g_yw h Z n Wk Nx Sn P0)) 52 (g_yw h S n Wk Nx Sn P0) 50 [(0, .ref 44), (3, .long (lN m)), (5, .long (lN (10 ^ e)))] [] 0 0 := by
  intro e
  induction e with
  | zero =>
    intro S he hZ
    have hz : ∀ S1, S1 = Z → x_W E M_PP_number (x_room 1 0 0) (x_Y none 52 (g_yw h Z n Wk Nx Sn P0)) 52 (g_yw h S1 n Wk Nx Sn P0) 50 [(0, .ref 44), (3, .long (lN m)), (5, .long (lN 0))] [] 0 0 := by
      intro S1 h1
      subst h1
      refine x_lload d_PP_number_50 rfl ?_
      refine x_lconst 0 d_PP_number_52 (by decide) ?_
      refine x_lcmp d_PP_number_53 ?_
      refine x_if_le 85 d_PP_number_54 (by decide) (fun _ => ?_) (fun z => absurd ((g_c0 (v := 0) (by decide)).mpr rfl) z)
      exact x_return d_PP_number_85 rfl ⟨rfl, rfl, fun _ _ => rfl, rfl, rfl⟩
    refine x_lload d_PP_number_50 rfl ?_
    refine x_lconst 0 d_PP_number_52 (by decide) ?_
    refine x_lcmp d_PP_number_53 ?_
    refine x_if_le 85 d_PP_number_54 (by decide) (fun z => absurd z (fun y => absurd ((g_c0 (g_p10 _ (by omega)).1).mp y) (by have := (g_p10 (0) (by omega)).2; omega))) (fun _ => ?_)
    refine x_aload_n d_PP_number_57 rfl rfl ?_
    refine x_ldc2 d_PP_number_58 s_PP_41 ?_
    refine x_lload_n d_PP_number_61 rfl rfl ?_
    refine x_lload d_PP_number_62 rfl ?_
    refine x_ldiv d_PP_number_64 (g_lne (g_p10 _ (by omega)).1 (g_p10 _ (by omega)).2) ?_
    refine x_topl (lN (m / 10 ^ (0))) (pk_lDiv (by omega) (g_p10 _ (by omega)).2 (g_p10 _ (by omega)).1) ?_
    refine x_ldc2 d_PP_number_65 s_PP_39 ?_
    refine x_lrem d_PP_number_68 (by decide) ?_
    refine x_ladd d_PP_number_69 ?_
    refine x_topl (lN (48 + m / 10 ^ (0) % 10)) (by rw [show (10 : Int64) = lN 10 from rfl, pk_lRem (Nat.lt_of_le_of_lt (Nat.div_le_self _ _) (by omega)) (by decide) (by decide), show (48 : Int64) = lN 48 from rfl, lN_add]) ?_
    refine x_l2i d_PP_number_70 ?_
    refine x_topi (nI (48 + m / 10 ^ (0) % 10)) (lN_i _) ?_
    refine x_callV1Y d_PP_number_71 k_PP_33 (Nat.le_of_ble_eq_true rfl) (Nat.le_of_ble_eq_true rfl) (by first | rfl | assumption) (by rfl) w_PP_put (Nat.le_of_ble_eq_true rfl) (Nat.le_of_ble_eq_true rfl) (Nat.le_of_ble_eq_true rfl) (Nat.le_of_ble_eq_true rfl) (Nat.le_of_ble_eq_true rfl) rfl ?_
    refine x_lload d_PP_number_74 rfl ?_
    refine x_ldc2 d_PP_number_76 s_PP_39 ?_
    refine x_ldiv d_PP_number_79 (by decide) ?_
    refine x_lstore d_PP_number_80 (Nat.le_of_ble_eq_true rfl) ?_
    refine x_goto 50 d_PP_number_82 (by decide) ?_
    refine x_lv [(0, .ref 44), (3, .long (lN m)), (5, .long (lN 0))] rfl ?_
    exact hz _ (by rw [← hZ, g_dex, Nat.pow_zero, Nat.div_one])
  | succ e ih =>
    intro S he hZ
    rw [g_dexF] at hZ
    refine x_lload d_PP_number_50 rfl ?_
    refine x_lconst 0 d_PP_number_52 (by decide) ?_
    refine x_lcmp d_PP_number_53 ?_
    refine x_if_le 85 d_PP_number_54 (by decide) (fun z => absurd z (fun y => absurd ((g_c0 (g_p10 _ (by omega)).1).mp y) (by have := (g_p10 (e + 1) (by omega)).2; omega))) (fun _ => ?_)
    refine x_aload_n d_PP_number_57 rfl rfl ?_
    refine x_ldc2 d_PP_number_58 s_PP_41 ?_
    refine x_lload_n d_PP_number_61 rfl rfl ?_
    refine x_lload d_PP_number_62 rfl ?_
    refine x_ldiv d_PP_number_64 (g_lne (g_p10 _ (by omega)).1 (g_p10 _ (by omega)).2) ?_
    refine x_topl (lN (m / 10 ^ (e + 1))) (pk_lDiv (by omega) (g_p10 _ (by omega)).2 (g_p10 _ (by omega)).1) ?_
    refine x_ldc2 d_PP_number_65 s_PP_39 ?_
    refine x_lrem d_PP_number_68 (by decide) ?_
    refine x_ladd d_PP_number_69 ?_
    refine x_topl (lN (48 + m / 10 ^ (e + 1) % 10)) (by rw [show (10 : Int64) = lN 10 from rfl, pk_lRem (Nat.lt_of_le_of_lt (Nat.div_le_self _ _) (by omega)) (by decide) (by decide), show (48 : Int64) = lN 48 from rfl, lN_add]) ?_
    refine x_l2i d_PP_number_70 ?_
    refine x_topi (nI (48 + m / 10 ^ (e + 1) % 10)) (lN_i _) ?_
    refine x_callV1Y d_PP_number_71 k_PP_33 (Nat.le_of_ble_eq_true rfl) (Nat.le_of_ble_eq_true rfl) (by first | rfl | assumption) (by rfl) w_PP_put (Nat.le_of_ble_eq_true rfl) (Nat.le_of_ble_eq_true rfl) (Nat.le_of_ble_eq_true rfl) (Nat.le_of_ble_eq_true rfl) (Nat.le_of_ble_eq_true rfl) rfl ?_
    refine x_lload d_PP_number_74 rfl ?_
    refine x_ldc2 d_PP_number_76 s_PP_39 ?_
    refine x_ldiv d_PP_number_79 (by decide) ?_
    refine x_lstore d_PP_number_80 (Nat.le_of_ble_eq_true rfl) ?_
    refine x_goto 50 d_PP_number_82 (by decide) ?_
    refine x_lv [(0, .ref 44), (3, .long (lN m)), (5, .long (lN (10 ^ e)))] (by rw [show (10 : Int64) = lN 10 from rfl, pk_lDiv (g_p10 _ (by omega)).1 (by decide) (by decide), Nat.pow_succ, Nat.mul_div_cancel _ (by decide)]; rfl) ?_
    exact ih _ (by omega) (by rw [List.append_assoc]; exact hZ)
set_option maxRecDepth 20000 in
theorem w_PP_numU {E : xR} {h : xH} {S : List Int32} {n : Nat} {Wk Nx Sn P0 : Nat → Int32} {m : Nat} {Z : List Int32} (hm : m < 9007199254740992) (hZ : S ++ g_dec m = Z) : ∀ k e, e + k = 16 → (e = 0 ∨ 10 ^ e ≤ m) → x_W E M_PP_number (x_room 1 0 0) (x_Y none 52 (g_yw h Z n Wk Nx Sn P0)) 52 (g_yw h S n Wk Nx Sn P0) 28 [(0, .ref 44), (3, .long (lN m)), (5, .long (lN (10 ^ e)))] [] 0 0 := by
  intro k
  induction k with
  | zero =>
    intro e hek he
    obtain rfl : e = 16 := by omega
    refine x_lload_n d_PP_number_28 rfl rfl ?_
    refine x_lload d_PP_number_29 rfl ?_
    refine x_ldiv d_PP_number_31 (g_lne (g_p10 _ (by omega)).1 (g_p10 _ (by omega)).2) ?_
    refine x_topl (lN (m / 10 ^ 16)) (pk_lDiv (by omega) (g_p10 _ (by omega)).2 (g_p10 _ (by omega)).1) ?_
    refine x_ldc2 d_PP_number_32 s_PP_37 ?_
    refine x_lcmp d_PP_number_35 ?_
    refine x_if_le 50 d_PP_number_36 (by decide) (fun _ => ?_) (fun z => absurd ((g_c9 (by omega)).mpr (by have : m / 10 ^ 16 = 0 := Nat.div_eq_of_lt (by omega); omega)) z)
    exact w_PP_numD hm 16 S (by omega) (by rw [g_dexD 16 m (by omega) he]; exact hZ)
  | succ k ih =>
    intro e hek he
    refine x_lload_n d_PP_number_28 rfl rfl ?_
    refine x_lload d_PP_number_29 rfl ?_
    refine x_ldiv d_PP_number_31 (g_lne (g_p10 _ (by omega)).1 (g_p10 _ (by omega)).2) ?_
    refine x_topl (lN (m / 10 ^ e)) (pk_lDiv (by omega) (g_p10 _ (by omega)).2 (g_p10 _ (by omega)).1) ?_
    refine x_ldc2 d_PP_number_32 s_PP_37 ?_
    refine x_lcmp d_PP_number_35 ?_
    refine x_if_le 50 d_PP_number_36 (by decide) (fun c_36 => ?_) (fun c_36 => ?_)
    · exact w_PP_numD hm e S (by omega) (by rw [g_dexD e m (by have h9 := (g_c9 (Nat.lt_of_le_of_lt (Nat.div_le_self _ _) (by omega))).mp c_36; rw [Nat.pow_succ]; have := (g_p10 e (by omega)).2; have h8 := (Nat.div_lt_iff_lt_mul this).mp (show m / 10 ^ e < 10 by omega); omega) he]; exact hZ)
    · refine x_lload d_PP_number_39 rfl ?_
      refine x_ldc2 d_PP_number_41 s_PP_39 ?_
      refine x_lmul d_PP_number_44 ?_
      refine x_lstore d_PP_number_45 (Nat.le_of_ble_eq_true rfl) ?_
      refine x_goto 28 d_PP_number_47 (by decide) ?_
      refine x_lv [(0, .ref 44), (3, .long (lN m)), (5, .long (lN (10 ^ (e + 1))))] (by rw [show (10 : Int64) = lN 10 from rfl, lN_mul, ← Nat.pow_succ]; rfl) ?_
      exact ih (e + 1) (by omega) (Or.inr (by have h9 : ¬ m / 10 ^ e ≤ 9 := fun y => c_36 ((g_c9 (Nat.lt_of_le_of_lt (Nat.div_le_self _ _) (by omega))).mpr y); rw [Nat.pow_succ, Nat.mul_comm]; exact (Nat.le_div_iff_mul_le (g_p10 e (by omega)).2).mp (by omega)))
set_option maxRecDepth 20000 in
theorem w_PP_numberP {E : xR} {h : xH} {S : List Int32} {n : Nat} {Wk Nx Sn P0 : Nat → Int32} {m : Nat} (hm : m < 9007199254740992) : x_Mt E M_PP_number 1 0 0 [.ref 44, .long (lN m)] 52 (g_yw h S n Wk Nx Sn P0) (x_Y none 52 (g_yw h (S ++ g_dec m) n Wk Nx Sn P0)) := by
  refine x_Mt.of (by decide) (Nat.le_of_ble_eq_true rfl) ?_
  show x_W E M_PP_number _ _ 52 (g_yw h S n Wk Nx Sn P0) 0 [(0, .ref 44), (1, .long (lN m))] [] 0 0
  refine x_lload_n d_PP_number_0 rfl rfl ?_
  refine x_lconst 0 d_PP_number_1 (by decide) ?_
  refine x_lcmp d_PP_number_2 ?_
  refine x_if_ge 12 d_PP_number_3 (by decide) (fun _ => ?_) (fun z => absurd (g_c0g (by omega)) z)
  refine x_lload_n d_PP_number_12 rfl rfl ?_
  refine x_lconst 0 d_PP_number_13 (by decide) ?_
  refine x_lcmp d_PP_number_14 ?_
  refine x_if_ge 23 d_PP_number_15 (by decide) (fun _ => ?_) (fun z => absurd (g_c0g (by omega)) z)
  refine x_lload_n d_PP_number_23 rfl rfl ?_
  refine x_lstore_n d_PP_number_24 rfl (Nat.le_of_ble_eq_true rfl) ?_
  refine x_lconst 1 d_PP_number_25 (by decide) ?_
  refine x_lstore d_PP_number_26 (Nat.le_of_ble_eq_true rfl) ?_
  refine x_lv [(0, .ref 44), (1, .long (lN m)), (3, .long (lN m)), (5, .long (lN (10 ^ 0)))] rfl ?_
  refine x_wk [(0, .ref 44), (3, .long (lN m)), (5, .long (lN (10 ^ 0)))] (by simp) ?_
  exact w_PP_numU hm (by rfl) 16 0 rfl (Or.inl rfl)
set_option maxRecDepth 20000 in
theorem w_PP_numberN {E : xR} {h : xH} {S : List Int32} {n : Nat} {Wk Nx Sn P0 : Nat → Int32} {m : Nat} (hm : m < 9007199254740992) : x_Mt E M_PP_number 1 0 0 [.ref 44, .long (-lN m)] 52 (g_yw h S n Wk Nx Sn P0) (x_Y none 52 (g_yw h (S ++ ((if 0 < m then [45] else []) ++ g_dec m)) n Wk Nx Sn P0)) := by
  by_cases h0 : m = 0
  · subst h0
    exact w_PP_numberP (m := 0) (by decide)
  · have hneg : ¬ 0 ≤ lg_cmp (-lN m) 0 := by
      rw [lg_cmp_ge]
      exact Int64.not_le.mpr (g_ngl (by omega) (by omega))
    have hnn : - -lN m = lN m := Int64.neg_neg
    rw [if_pos (show 0 < m by omega)]
    refine x_Mt.of (by decide) (Nat.le_of_ble_eq_true rfl) ?_
    show x_W E M_PP_number _ _ 52 (g_yw h S n Wk Nx Sn P0) 0 [(0, .ref 44), (1, .long (-lN m))] [] 0 0
    refine x_lload_n d_PP_number_0 rfl rfl ?_
    refine x_lconst 0 d_PP_number_1 (by decide) ?_
    refine x_lcmp d_PP_number_2 ?_
    refine x_if_ge 12 d_PP_number_3 (by decide) (fun z => absurd z hneg) (fun _ => ?_)
    refine x_aload_n d_PP_number_6 rfl rfl ?_
    refine x_bipush 45 d_PP_number_7 (by decide) ?_
    refine x_callV1Y d_PP_number_9 k_PP_33 (Nat.le_of_ble_eq_true rfl) (Nat.le_of_ble_eq_true rfl) (by first | rfl | assumption) (by rfl) w_PP_put (Nat.le_of_ble_eq_true rfl) (Nat.le_of_ble_eq_true rfl) (Nat.le_of_ble_eq_true rfl) (Nat.le_of_ble_eq_true rfl) (Nat.le_of_ble_eq_true rfl) rfl ?_
    refine x_lload_n d_PP_number_12 rfl rfl ?_
    refine x_lconst 0 d_PP_number_13 (by decide) ?_
    refine x_lcmp d_PP_number_14 ?_
    refine x_if_ge 23 d_PP_number_15 (by decide) (fun z => absurd z hneg) (fun _ => ?_)
    refine x_lload_n d_PP_number_18 rfl rfl ?_
    refine x_lneg d_PP_number_19 ?_
    refine x_topl (lN m) hnn ?_
    refine x_goto 24 d_PP_number_20 (by decide) ?_
    refine x_lstore_n d_PP_number_24 rfl (Nat.le_of_ble_eq_true rfl) ?_
    refine x_lconst 1 d_PP_number_25 (by decide) ?_
    refine x_lstore d_PP_number_26 (Nat.le_of_ble_eq_true rfl) ?_
    refine x_lv [(0, .ref 44), (1, .long (-lN m)), (3, .long (lN m)), (5, .long (lN (10 ^ 0)))] rfl ?_
    refine x_wk [(0, .ref 44), (3, .long (lN m)), (5, .long (lN (10 ^ 0)))] (by simp) ?_
    exact w_PP_numU hm (by rw [List.append_assoc]) 16 0 rfl (Or.inl rfl)
theorem d_PP_variable_0 : decode M_PP_variable.2.1 0 = .ok (.iconst 0, 1) := by decide +kernel
theorem d_PP_variable_1 : decode M_PP_variable.2.1 1 = .ok (.istore_n 2, 1) := by decide +kernel
theorem d_PP_variable_2 : decode M_PP_variable.2.1 2 = .ok (.iload_n 2, 1) := by decide +kernel
theorem d_PP_variable_3 : decode M_PP_variable.2.1 3 = .ok (.aload_n 0, 1) := by decide +kernel
theorem d_PP_variable_4 : decode M_PP_variable.2.1 4 = .ok (.getfield 71, 3) := by decide +kernel
theorem d_PP_variable_7 : decode M_PP_variable.2.1 7 = .ok (.if_icmp .ge 19, 3) := by decide +kernel
theorem d_PP_variable_10 : decode M_PP_variable.2.1 10 = .ok (.aload_n 0, 1) := by decide +kernel
theorem d_PP_variable_11 : decode M_PP_variable.2.1 11 = .ok (.getfield 22, 3) := by decide +kernel
theorem d_PP_variable_14 : decode M_PP_variable.2.1 14 = .ok (.iload_n 2, 1) := by decide +kernel
theorem d_PP_variable_15 : decode M_PP_variable.2.1 15 = .ok (.iaload, 1) := by decide +kernel
theorem d_PP_variable_16 : decode M_PP_variable.2.1 16 = .ok (.iload_n 1, 1) := by decide +kernel
theorem d_PP_variable_17 : decode M_PP_variable.2.1 17 = .ok (.if_icmp .eq 9, 3) := by decide +kernel
theorem d_PP_variable_20 : decode M_PP_variable.2.1 20 = .ok (.iinc 2 1, 3) := by decide +kernel
theorem d_PP_variable_23 : decode M_PP_variable.2.1 23 = .ok (.goto (-21), 3) := by decide +kernel
theorem d_PP_variable_26 : decode M_PP_variable.2.1 26 = .ok (.iload_n 2, 1) := by decide +kernel
theorem d_PP_variable_27 : decode M_PP_variable.2.1 27 = .ok (.aload_n 0, 1) := by decide +kernel
theorem d_PP_variable_28 : decode M_PP_variable.2.1 28 = .ok (.getfield 71, 3) := by decide +kernel
theorem d_PP_variable_31 : decode M_PP_variable.2.1 31 = .ok (.if_icmp .ne 23, 3) := by decide +kernel
theorem d_PP_variable_34 : decode M_PP_variable.2.1 34 = .ok (.aload_n 0, 1) := by decide +kernel
theorem d_PP_variable_35 : decode M_PP_variable.2.1 35 = .ok (.getfield 22, 3) := by decide +kernel
theorem d_PP_variable_38 : decode M_PP_variable.2.1 38 = .ok (.aload_n 0, 1) := by decide +kernel
theorem d_PP_variable_39 : decode M_PP_variable.2.1 39 = .ok (.getfield 71, 3) := by decide +kernel
theorem d_PP_variable_42 : decode M_PP_variable.2.1 42 = .ok (.iload_n 1, 1) := by decide +kernel
theorem d_PP_variable_43 : decode M_PP_variable.2.1 43 = .ok (.iastore, 1) := by decide +kernel
theorem d_PP_variable_44 : decode M_PP_variable.2.1 44 = .ok (.aload_n 0, 1) := by decide +kernel
theorem d_PP_variable_45 : decode M_PP_variable.2.1 45 = .ok (.dup, 1) := by decide +kernel
theorem d_PP_variable_46 : decode M_PP_variable.2.1 46 = .ok (.getfield 71, 3) := by decide +kernel
theorem d_PP_variable_49 : decode M_PP_variable.2.1 49 = .ok (.iconst 1, 1) := by decide +kernel
theorem d_PP_variable_50 : decode M_PP_variable.2.1 50 = .ok (.iadd, 1) := by decide +kernel
theorem d_PP_variable_51 : decode M_PP_variable.2.1 51 = .ok (.putfield 71, 3) := by decide +kernel
theorem d_PP_variable_54 : decode M_PP_variable.2.1 54 = .ok (.aload_n 0, 1) := by decide +kernel
theorem d_PP_variable_55 : decode M_PP_variable.2.1 55 = .ok (.bipush 95, 2) := by decide +kernel
theorem d_PP_variable_57 : decode M_PP_variable.2.1 57 = .ok (.invokevirtual 33, 3) := by decide +kernel
theorem d_PP_variable_60 : decode M_PP_variable.2.1 60 = .ok (.aload_n 0, 1) := by decide +kernel
theorem d_PP_variable_61 : decode M_PP_variable.2.1 61 = .ok (.iload_n 2, 1) := by decide +kernel
theorem d_PP_variable_62 : decode M_PP_variable.2.1 62 = .ok (.i2l, 1) := by decide +kernel
theorem d_PP_variable_63 : decode M_PP_variable.2.1 63 = .ok (.invokevirtual 74, 3) := by decide +kernel
theorem d_PP_variable_66 : decode M_PP_variable.2.1 66 = .ok (.return_, 1) := by decide +kernel
set_option maxRecDepth 20000 in
theorem w_PP_variable {E : xR} {h : xH} {S : List Int32} {n : Nat} {Wk Nx Sn P0 : Nat → Int32} {v : Nat} (hv : v ≤ n) (hn : n < 4200) (hSn : ∀ k, k < n → Sn k = nI k) : x_Mt E M_PP_variable 2 0 0 [.ref 44, .int (nI v)] 52 (g_yw h S n Wk Nx Sn P0) (x_YE (fun v1 h1 => v1 = none ∧ ∃ Sn', (∀ k, k < max n (v + 1) → Sn' k = nI k) ∧ h1 = (g_yw h (S ++ 95 :: g_dec v) (max n (v + 1)) Wk Nx Sn' P0))) := by
  refine x_Mt.of (by decide) (Nat.le_of_ble_eq_true rfl) ?_
  have hend : ∀ (Sn1 : Nat → Int32), (∀ k, k < max n (v + 1) → Sn1 k = nI k) → x_W E M_PP_variable (x_room 2 0 0) (x_YE (fun v1 h1 => v1 = none ∧ ∃ Sn', (∀ k, k < max n (v + 1) → Sn' k = nI k) ∧ h1 = (g_yw h (S ++ 95 :: g_dec v) (max n (v + 1)) Wk Nx Sn' P0))) 52 (g_yw h S (max n (v + 1)) Wk Nx Sn1 P0) 54 [(0, .ref 44), (1, .int (nI v)), (2, .int (nI v))] [] 0 0 := by
    intro Sn1 h1
    refine x_aload_n d_PP_variable_54 rfl rfl ?_
    refine x_bipush 95 d_PP_variable_55 (by decide) ?_
    refine x_callV1Y d_PP_variable_57 k_PP_33 (Nat.le_of_ble_eq_true rfl) (Nat.le_of_ble_eq_true rfl) (by first | rfl | assumption) (by rfl) w_PP_put (Nat.le_of_ble_eq_true rfl) (Nat.le_of_ble_eq_true rfl) (Nat.le_of_ble_eq_true rfl) (Nat.le_of_ble_eq_true rfl) (Nat.le_of_ble_eq_true rfl) rfl ?_
    refine x_aload_n d_PP_variable_60 rfl rfl ?_
    refine x_iload_n d_PP_variable_61 rfl rfl ?_
    refine x_i2l d_PP_variable_62 ?_
    refine x_topl (lN v) (nI_l (by omega)) ?_
    refine x_callV1Y d_PP_variable_63 k_PP_74 (Nat.le_of_ble_eq_true rfl) (Nat.le_of_ble_eq_true rfl) (by first | rfl | assumption) (by rfl) (w_PP_numberP (m := v) (by omega)) (Nat.le_of_ble_eq_true rfl) (Nat.le_of_ble_eq_true rfl) (Nat.le_of_ble_eq_true rfl) (Nat.le_of_ble_eq_true rfl) (Nat.le_of_ble_eq_true rfl) rfl ?_
    exact x_return d_PP_variable_66 rfl (x_YEi _ ⟨rfl, Sn1, h1, rfl⟩ (fun _ _ => by rw [List.append_assoc]; rfl))
  have hloop : ∀ m i, i + m = v → x_W E M_PP_variable (x_room 2 0 0) (x_YE (fun v1 h1 => v1 = none ∧ ∃ Sn', (∀ k, k < max n (v + 1) → Sn' k = nI k) ∧ h1 = (g_yw h (S ++ 95 :: g_dec v) (max n (v + 1)) Wk Nx Sn' P0))) 52 (g_yw h S n Wk Nx Sn P0) 2 [(0, .ref 44), (1, .int (nI v)), (2, .int (nI i))] [] 0 0 := by
    intro m
    induction m with
    | zero =>
      intro i hi
      obtain rfl : i = v := by omega
      rcases Nat.lt_or_ge i n with hlt | hge
      · refine x_iload_n d_PP_variable_2 rfl rfl ?_
        refine x_aload_n d_PP_variable_3 rfl rfl ?_
        refine x_get d_PP_variable_4 f_PP_71 (Nat.le_of_ble_eq_true rfl) (Nat.le_of_ble_eq_true rfl) (by first | rfl | assumption) (by rfl) ?_
        refine x_icmp_ge 26 d_PP_variable_7 (by decide) (fun z => absurd z (nI_ge hlt (by omega))) (fun _ => ?_)
        refine x_aload_n d_PP_variable_10 rfl rfl ?_
        refine x_get d_PP_variable_11 f_PP_22 (Nat.le_of_ble_eq_true rfl) (Nat.le_of_ble_eq_true rfl) (by first | rfl | assumption) (by rfl) ?_
        refine x_iload_n d_PP_variable_14 rfl rfl ?_
        refine x_iald d_PP_variable_15 (Nat.le_of_ble_eq_true rfl) (Nat.le_of_ble_eq_true rfl) (by first | rfl | assumption) (vp_in_nI (show i < 4200 by omega) (by decide)) ?_
        refine x_topi (nI i) (by rw [nI_clamp (by omega)]; exact hSn i hlt) ?_
        refine x_iload_n d_PP_variable_16 rfl rfl ?_
        refine x_icmp_eq 26 d_PP_variable_17 (by decide) (fun _ => ?_) (fun z => absurd rfl z)
        refine x_iload_n d_PP_variable_26 rfl rfl ?_
        refine x_aload_n d_PP_variable_27 rfl rfl ?_
        refine x_get d_PP_variable_28 f_PP_71 (Nat.le_of_ble_eq_true rfl) (Nat.le_of_ble_eq_true rfl) (by first | rfl | assumption) (by rfl) ?_
        refine x_icmp_ne 54 d_PP_variable_31 (by decide) (fun _ => ?_) (fun z => absurd z (show ¬ nI i = nI n from fun y => absurd ((g_nIne (by omega) (by omega)).mp y) (by omega)))
        have e : max n (i + 1) = n := by omega
        have hgo := hend Sn (by rw [e]; exact hSn)
        rw [e] at hgo ⊢
        exact hgo
      · refine x_iload_n d_PP_variable_2 rfl rfl ?_
        refine x_aload_n d_PP_variable_3 rfl rfl ?_
        refine x_get d_PP_variable_4 f_PP_71 (Nat.le_of_ble_eq_true rfl) (Nat.le_of_ble_eq_true rfl) (by first | rfl | assumption) (by rfl) ?_
        refine x_icmp_ge 26 d_PP_variable_7 (by decide) (fun _ => ?_) (fun z => absurd (nI_le hge (by omega)) z)
        refine x_iload_n d_PP_variable_26 rfl rfl ?_
        refine x_aload_n d_PP_variable_27 rfl rfl ?_
        refine x_get d_PP_variable_28 f_PP_71 (Nat.le_of_ble_eq_true rfl) (Nat.le_of_ble_eq_true rfl) (by first | rfl | assumption) (by rfl) ?_
        refine x_icmp_ne 54 d_PP_variable_31 (by decide) (fun z => absurd (show nI i = nI n by rw [show i = n by omega]) z) (fun _ => ?_)
        refine x_aload_n d_PP_variable_34 rfl rfl ?_
        refine x_get d_PP_variable_35 f_PP_22 (Nat.le_of_ble_eq_true rfl) (Nat.le_of_ble_eq_true rfl) (by first | rfl | assumption) (by rfl) ?_
        refine x_aload_n d_PP_variable_38 rfl rfl ?_
        refine x_get d_PP_variable_39 f_PP_71 (Nat.le_of_ble_eq_true rfl) (Nat.le_of_ble_eq_true rfl) (by first | rfl | assumption) (by rfl) ?_
        refine x_iload_n d_PP_variable_42 rfl rfl ?_
        refine x_iast d_PP_variable_43 (Nat.le_of_ble_eq_true rfl) (Nat.le_of_ble_eq_true rfl) (by first | rfl | assumption) (vp_in_nI hn (by decide)) ?_
        refine x_aload_n d_PP_variable_44 rfl rfl ?_
        refine x_dup d_PP_variable_45 rfl ?_
        refine x_get d_PP_variable_46 f_PP_71 (Nat.le_of_ble_eq_true rfl) (Nat.le_of_ble_eq_true rfl) (by first | rfl | assumption) (by rfl) ?_
        refine x_iconst 1 d_PP_variable_49 (by decide) ?_
        refine x_iadd d_PP_variable_50 ?_
        refine x_topi (nI (n + 1)) (nI_succ n).symm ?_
        refine x_put d_PP_variable_51 f_PP_71 (Nat.le_of_ble_eq_true rfl) (Nat.le_of_ble_eq_true rfl) (by first | rfl | assumption) (by rfl) (by rfl) (by exact (Nat.le_of_ble_eq_true rfl)) ?_
        have e : max n (i + 1) = n + 1 := by omega
        have hgo := hend (upd Sn n (nI i)) (by
          rw [e]
          intro k hk
          by_cases z : k = n
          · rw [z, g_updY, show i = n by omega]
          · rw [g_updN z]; exact hSn k (by omega))
        rw [e] at hgo ⊢
        refine x_same (h' := (g_yw h S (n + 1) Wk Nx (upd Sn n (nI i)) P0)) (x_pt rfl rfl rfl rfl rfl rfl rfl rfl rfl rfl rfl rfl rfl rfl rfl rfl rfl rfl rfl rfl rfl rfl rfl rfl rfl rfl rfl rfl rfl rfl rfl rfl rfl rfl rfl rfl rfl rfl rfl rfl rfl rfl rfl rfl rfl rfl rfl rfl (show Sum.inl (0, 4200, Sum.inl (upd _ (nI n).toNatClampNeg _)) = _ by rw [nI_clamp (by omega)]; rfl) rfl rfl rfl) ?_
        exact hgo
    | succ m ih =>
      intro i hi
      refine x_iload_n d_PP_variable_2 rfl rfl ?_
      refine x_aload_n d_PP_variable_3 rfl rfl ?_
      refine x_get d_PP_variable_4 f_PP_71 (Nat.le_of_ble_eq_true rfl) (Nat.le_of_ble_eq_true rfl) (by first | rfl | assumption) (by rfl) ?_
      refine x_icmp_ge 26 d_PP_variable_7 (by decide) (fun z => absurd z (nI_ge (by omega) (by omega))) (fun _ => ?_)
      refine x_aload_n d_PP_variable_10 rfl rfl ?_
      refine x_get d_PP_variable_11 f_PP_22 (Nat.le_of_ble_eq_true rfl) (Nat.le_of_ble_eq_true rfl) (by first | rfl | assumption) (by rfl) ?_
      refine x_iload_n d_PP_variable_14 rfl rfl ?_
      refine x_iald d_PP_variable_15 (Nat.le_of_ble_eq_true rfl) (Nat.le_of_ble_eq_true rfl) (by first | rfl | assumption) (vp_in_nI (show i < 4200 by omega) (by decide)) ?_
      refine x_topi (nI i) (by rw [nI_clamp (by omega)]; exact hSn i (by omega)) ?_
      refine x_iload_n d_PP_variable_16 rfl rfl ?_
      refine x_icmp_eq 26 d_PP_variable_17 (by decide) (fun z => absurd z (show ¬ nI i = nI v from fun y => absurd ((g_nIne (by omega) (by omega)).mp y) (by omega))) (fun _ => ?_)
      refine x_iinc d_PP_variable_20 rfl 1 (by decide) (Nat.le_of_ble_eq_true rfl) ?_
      refine x_goto 2 d_PP_variable_23 (by decide) ?_
      refine x_lv [(0, .ref 44), (1, .int (nI v)), (2, .int (nI (i + 1)))] (by rw [nI_succ i]; rfl) ?_
      exact ih (i + 1) (by omega)
  show x_W E M_PP_variable _ _ 52 (g_yw h S n Wk Nx Sn P0) 0 [(0, .ref 44), (1, .int (nI v))] [] 0 0
  refine x_iconst 0 d_PP_variable_0 (by decide) ?_
  refine x_istore_n d_PP_variable_1 rfl (Nat.le_of_ble_eq_true rfl) ?_
  exact hloop v 0 (by omega)
