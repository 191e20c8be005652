/-- the sign that begins at p: kind, text from, text to, behind it -/
def g_tk (a : Nat → Int32) (N p : Nat) : Nat × Nat × Nat × Nat :=
  if a p < 0 then (13, p, p, p)
  else if g_dig (a p) = true then (bif decide ((g_dg a (N - p) p p 0).2.2 < 9007199254740992) then 2 else 12, (g_dg a (N - p) p p 0).2.1, (g_dg a (N - p) p p 0).1, (g_dg a (N - p) p p 0).1)
  else if a p = 39 then (bif !decide (g_qt a (N - p) (p + 1) = 0) then 3 else 12, p + 1, g_qt a (N - p) (p + 1), g_qt a (N - p) (p + 1) + 1)
  else if g_small (a p) = true then (3, p, g_run g_word a (N - p) p, g_run g_word a (N - p) p)
  else if g_word (a p) = true then (1, p, g_run g_word a (N - p) p, g_run g_word a (N - p) p)
  else if g_symb (a p) = true then (bif g_endb a p (g_run g_symb a (N - p) p) then 0 else 3, p, g_run g_symb a (N - p) p, g_run g_symb a (N - p) p)
  else (bif decide (a p = 91) && decide (a (p + 1) = 93) then 3 else g_solo (a p), p, bif decide (a p = 91) && decide (a (p + 1) = 93) then p + 2 else p + 1, bif decide (a p = 91) && decide (a (p + 1) = 93) then p + 2 else p + 1)
/-- where the next sign begins, from behind the last one -/
def g_pl (a : Nat → Int32) (N i : Nat) : Nat := g_sk a (N - i) false i
theorem g_sk_le (a : Nat → Int32) : ∀ (m : Nat) (c : Bool) (i : Nat), i ≤ g_sk a m c i ∧ g_sk a m c i ≤ i + m
  | 0, _, i => ⟨Nat.le_refl _, Nat.le_refl _⟩
  | m + 1, c, i => by
    have h1 := fun c => g_sk_le a m c (i + 1)
    rw [g_sk]
    cases c with
    | true =>
      show i ≤ g_sk a m _ (i + 1) ∧ g_sk a m _ (i + 1) ≤ _
      have := h1 (!decide (a i = 10))
      omega
    | false =>
      show i ≤ (bif decide (a i = 37) then g_sk a m true (i + 1) else bif g_blank (a i) then g_sk a m false (i + 1) else i) ∧ (bif decide (a i = 37) then g_sk a m true (i + 1) else bif g_blank (a i) then g_sk a m false (i + 1) else i) ≤ _
      have ht := h1 true
      have hf := h1 false
      cases decide (a i = 37) with
      | true => show i ≤ g_sk a m true (i + 1) ∧ g_sk a m true (i + 1) ≤ _; omega
      | false =>
        cases g_blank (a i) with
        | true => show i ≤ g_sk a m false (i + 1) ∧ g_sk a m false (i + 1) ≤ _; omega
        | false => show i ≤ i ∧ i ≤ _; omega
theorem g_ge0 {a : Int32} (h : 0 ≤ a) : ¬ a < 0 := Int32.not_lt.mpr h
theorem d_SG_advance_0 : decode M_SG_advance.2.1 0 = .ok (.aload_n 0, 1) := by decide +kernel
theorem d_SG_advance_1 : decode M_SG_advance.2.1 1 = .ok (.invokevirtual 43, 3) := by decide +kernel
theorem d_SG_advance_4 : decode M_SG_advance.2.1 4 = .ok (.aload_n 0, 1) := by decide +kernel
theorem d_SG_advance_5 : decode M_SG_advance.2.1 5 = .ok (.aload_n 0, 1) := by decide +kernel
theorem d_SG_advance_6 : decode M_SG_advance.2.1 6 = .ok (.getfield 37, 3) := by decide +kernel
theorem d_SG_advance_9 : decode M_SG_advance.2.1 9 = .ok (.putfield 46, 3) := by decide +kernel
theorem d_SG_advance_12 : decode M_SG_advance.2.1 12 = .ok (.aload_n 0, 1) := by decide +kernel
theorem d_SG_advance_13 : decode M_SG_advance.2.1 13 = .ok (.aload_n 0, 1) := by decide +kernel
theorem d_SG_advance_14 : decode M_SG_advance.2.1 14 = .ok (.getfield 46, 3) := by decide +kernel
theorem d_SG_advance_17 : decode M_SG_advance.2.1 17 = .ok (.invokevirtual 49, 3) := by decide +kernel
theorem d_SG_advance_20 : decode M_SG_advance.2.1 20 = .ok (.istore_n 1, 1) := by decide +kernel
theorem d_SG_advance_21 : decode M_SG_advance.2.1 21 = .ok (.iload_n 1, 1) := by decide +kernel
theorem d_SG_advance_22 : decode M_SG_advance.2.1 22 = .ok (.ifCond .ge 25, 3) := by decide +kernel
theorem d_SG_advance_25 : decode M_SG_advance.2.1 25 = .ok (.aload_n 0, 1) := by decide +kernel
theorem d_SG_advance_26 : decode M_SG_advance.2.1 26 = .ok (.getstatic 15, 3) := by decide +kernel
theorem d_SG_advance_29 : decode M_SG_advance.2.1 29 = .ok (.aload_n 0, 1) := by decide +kernel
theorem d_SG_advance_30 : decode M_SG_advance.2.1 30 = .ok (.getfield 46, 3) := by decide +kernel
theorem d_SG_advance_33 : decode M_SG_advance.2.1 33 = .ok (.aload_n 0, 1) := by decide +kernel
theorem d_SG_advance_34 : decode M_SG_advance.2.1 34 = .ok (.getfield 46, 3) := by decide +kernel
theorem d_SG_advance_37 : decode M_SG_advance.2.1 37 = .ok (.aload_n 0, 1) := by decide +kernel
theorem d_SG_advance_38 : decode M_SG_advance.2.1 38 = .ok (.getfield 46, 3) := by decide +kernel
theorem d_SG_advance_41 : decode M_SG_advance.2.1 41 = .ok (.invokevirtual 53, 3) := by decide +kernel
theorem d_SG_advance_44 : decode M_SG_advance.2.1 44 = .ok (.goto 83, 3) := by decide +kernel
theorem d_SG_advance_47 : decode M_SG_advance.2.1 47 = .ok (.iload_n 1, 1) := by decide +kernel
theorem d_SG_advance_48 : decode M_SG_advance.2.1 48 = .ok (.invokestatic 57, 3) := by decide +kernel
theorem d_SG_advance_51 : decode M_SG_advance.2.1 51 = .ok (.ifCond .eq 10, 3) := by decide +kernel
theorem d_SG_advance_54 : decode M_SG_advance.2.1 54 = .ok (.aload_n 0, 1) := by decide +kernel
theorem d_SG_advance_55 : decode M_SG_advance.2.1 55 = .ok (.invokevirtual 61, 3) := by decide +kernel
theorem d_SG_advance_58 : decode M_SG_advance.2.1 58 = .ok (.goto 69, 3) := by decide +kernel
theorem d_SG_advance_61 : decode M_SG_advance.2.1 61 = .ok (.iload_n 1, 1) := by decide +kernel
theorem d_SG_advance_62 : decode M_SG_advance.2.1 62 = .ok (.bipush 39, 2) := by decide +kernel
theorem d_SG_advance_64 : decode M_SG_advance.2.1 64 = .ok (.if_icmp .ne 10, 3) := by decide +kernel
theorem d_SG_advance_67 : decode M_SG_advance.2.1 67 = .ok (.aload_n 0, 1) := by decide +kernel
theorem d_SG_advance_68 : decode M_SG_advance.2.1 68 = .ok (.invokevirtual 64, 3) := by decide +kernel
theorem d_SG_advance_71 : decode M_SG_advance.2.1 71 = .ok (.goto 56, 3) := by decide +kernel
theorem d_SG_advance_74 : decode M_SG_advance.2.1 74 = .ok (.iload_n 1, 1) := by decide +kernel
theorem d_SG_advance_75 : decode M_SG_advance.2.1 75 = .ok (.invokestatic 67, 3) := by decide +kernel
theorem d_SG_advance_78 : decode M_SG_advance.2.1 78 = .ok (.ifCond .eq 13, 3) := by decide +kernel
theorem d_SG_advance_81 : decode M_SG_advance.2.1 81 = .ok (.aload_n 0, 1) := by decide +kernel
theorem d_SG_advance_82 : decode M_SG_advance.2.1 82 = .ok (.getstatic 70, 3) := by decide +kernel
theorem d_SG_advance_85 : decode M_SG_advance.2.1 85 = .ok (.invokevirtual 73, 3) := by decide +kernel
theorem d_SG_advance_88 : decode M_SG_advance.2.1 88 = .ok (.goto 39, 3) := by decide +kernel
theorem d_SG_advance_91 : decode M_SG_advance.2.1 91 = .ok (.iload_n 1, 1) := by decide +kernel
theorem d_SG_advance_92 : decode M_SG_advance.2.1 92 = .ok (.invokestatic 77, 3) := by decide +kernel
theorem d_SG_advance_95 : decode M_SG_advance.2.1 95 = .ok (.ifCond .eq 13, 3) := by decide +kernel
theorem d_SG_advance_98 : decode M_SG_advance.2.1 98 = .ok (.aload_n 0, 1) := by decide +kernel
theorem d_SG_advance_99 : decode M_SG_advance.2.1 99 = .ok (.getstatic 80, 3) := by decide +kernel
theorem d_SG_advance_102 : decode M_SG_advance.2.1 102 = .ok (.invokevirtual 73, 3) := by decide +kernel
theorem d_SG_advance_105 : decode M_SG_advance.2.1 105 = .ok (.goto 22, 3) := by decide +kernel
theorem d_SG_advance_108 : decode M_SG_advance.2.1 108 = .ok (.iload_n 1, 1) := by decide +kernel
theorem d_SG_advance_109 : decode M_SG_advance.2.1 109 = .ok (.invokestatic 83, 3) := by decide +kernel
theorem d_SG_advance_112 : decode M_SG_advance.2.1 112 = .ok (.ifCond .eq 10, 3) := by decide +kernel
theorem d_SG_advance_115 : decode M_SG_advance.2.1 115 = .ok (.aload_n 0, 1) := by decide +kernel
theorem d_SG_advance_116 : decode M_SG_advance.2.1 116 = .ok (.invokevirtual 86, 3) := by decide +kernel
theorem d_SG_advance_119 : decode M_SG_advance.2.1 119 = .ok (.goto 8, 3) := by decide +kernel
theorem d_SG_advance_122 : decode M_SG_advance.2.1 122 = .ok (.aload_n 0, 1) := by decide +kernel
theorem d_SG_advance_123 : decode M_SG_advance.2.1 123 = .ok (.iload_n 1, 1) := by decide +kernel
theorem d_SG_advance_124 : decode M_SG_advance.2.1 124 = .ok (.invokevirtual 89, 3) := by decide +kernel
theorem d_SG_advance_127 : decode M_SG_advance.2.1 127 = .ok (.return_, 1) := by decide +kernel
set_option maxRecDepth 20000 in
theorem w_SG_advance {E : xR} {h : xH} {u : Nat → Nat} {N : Nat} {i p k f t b : Nat} {w3 w4 w5 w6 w7 : Value} (h3 : h 3 = .inr (2, [.ref 1, .int (nI N), .int (nI i), w3, w4, w5, w6, w7])) (h1 : h 1 = .inl (1, 4096, .inl (fun i => g_sb (u i)))) (hu : ∀ i, u i < 256) (hN : N ≤ 4096) (hi : i ≤ N) (hp : g_pl (g_at u N) N i = p) (htk : g_tk (g_at u N) N p = (k, f, t, b)) : x_Mt E M_SG_advance 8 1 6 [.ref 3] 52 h (x_YX (!decide (k = 12)) none (x_up h 3 (.inr (2, [.ref 1, .int (nI N), .int (nI b), .ref (1000000 + g_sg k), .int (nI p), .int (nI f), .int (nI t), w7]))) 2 (x_up h 3 (.inr (2, [.ref 1, .int (nI N), .int (nI p), w3, .int (nI p), w5, w6, .int (nI p)])))) := by
  have hpN : p ≤ N := by
    have := g_sk_le (g_at u N) (N - i) false i
    have hp' : g_sk (g_at u N) (N - i) false i = p := hp
    omega
  refine x_Mt.of (by decide) (Nat.le_of_ble_eq_true rfl) ?_
  show x_W E M_SG_advance _ _ 52 h 0 [(0, .ref 3)] [] 0 0
  refine x_aload_n d_SG_advance_0 rfl rfl ?_
  refine x_callV0Y d_SG_advance_1 k_SG_43 (Nat.le_of_ble_eq_true rfl) (Nat.le_of_ble_eq_true rfl) (by first | rfl | assumption) (by rfl) (w_SG_skipBlanks h3 h1 hu hN hi) (Nat.le_of_ble_eq_true rfl) (Nat.le_of_ble_eq_true rfl) (Nat.le_of_ble_eq_true rfl) (Nat.le_of_ble_eq_true rfl) (Nat.le_of_ble_eq_true rfl) rfl ?_
  refine x_hh (x_up h 3 (.inr (2, [.ref 1, .int (nI N), .int (nI p), w3, w4, w5, w6, w7]))) (by rw [← hp]; rfl) ?_
  refine x_aload_n d_SG_advance_4 rfl rfl ?_
  refine x_aload_n d_SG_advance_5 rfl rfl ?_
  refine x_get d_SG_advance_6 f_SG_37 (Nat.le_of_ble_eq_true rfl) (Nat.le_of_ble_eq_true rfl) (by first | rfl | assumption) (by rfl) ?_
  refine x_put d_SG_advance_9 f_SG_46 (Nat.le_of_ble_eq_true rfl) (Nat.le_of_ble_eq_true rfl) (by first | rfl | assumption) (by rfl) (by rfl) (by exact (Nat.le_of_ble_eq_true rfl)) ?_
  refine x_hh (x_up h 3 (.inr (2, [.ref 1, .int (nI N), .int (nI p), w3, .int (nI p), w5, w6, w7]))) (x_upup _ _ _ _) ?_
  refine x_aload_n d_SG_advance_12 rfl rfl ?_
  refine x_aload_n d_SG_advance_13 rfl rfl ?_
  refine x_get d_SG_advance_14 f_SG_46 (Nat.le_of_ble_eq_true rfl) (Nat.le_of_ble_eq_true rfl) (by first | rfl | assumption) (by rfl) ?_
  refine x_callV1Y d_SG_advance_17 k_SG_49 (Nat.le_of_ble_eq_true rfl) (Nat.le_of_ble_eq_true rfl) (by first | rfl | assumption) (by rfl) (w_SG_at rfl (by first | rfl | assumption) hu hN (by omega)) (Nat.le_of_ble_eq_true rfl) (Nat.le_of_ble_eq_true rfl) (Nat.le_of_ble_eq_true rfl) (Nat.le_of_ble_eq_true rfl) (Nat.le_of_ble_eq_true rfl) rfl ?_
  refine x_istore_n d_SG_advance_20 rfl (Nat.le_of_ble_eq_true rfl) ?_
  refine x_iload_n d_SG_advance_21 rfl rfl ?_
  refine x_if_ge 47 d_SG_advance_22 (by decide) (fun c_22 => ?_) (fun c_22 => ?_)
  · have hpl : p < N := by
      rcases Nat.lt_or_ge p N with q | q
      · exact q
      · rw [g_at_out q] at c_22; exact absurd c_22 (by decide)
    refine x_iload_n d_SG_advance_47 rfl rfl ?_
    refine x_callS1Y d_SG_advance_48 k_SG_57 w_SG_isDigit (Nat.le_of_ble_eq_true rfl) (Nat.le_of_ble_eq_true rfl) (Nat.le_of_ble_eq_true rfl) (Nat.le_of_ble_eq_true rfl) (Nat.le_of_ble_eq_true rfl) rfl ?_
    refine x_if_eq 61 d_SG_advance_51 (by decide) (fun c_51 => ?_) (fun c_51 => ?_)
    · refine x_iload_n d_SG_advance_61 rfl rfl ?_
      refine x_bipush 39 d_SG_advance_62 (by decide) ?_
      refine x_icmp_ne 74 d_SG_advance_64 (by decide) (fun c_64 => ?_) (fun c_64 => ?_)
      · refine x_iload_n d_SG_advance_74 rfl rfl ?_
        refine x_callS1Y d_SG_advance_75 k_SG_67 w_SG_isSmall (Nat.le_of_ble_eq_true rfl) (Nat.le_of_ble_eq_true rfl) (Nat.le_of_ble_eq_true rfl) (Nat.le_of_ble_eq_true rfl) (Nat.le_of_ble_eq_true rfl) rfl ?_
        refine x_if_eq 91 d_SG_advance_78 (by decide) (fun c_78 => ?_) (fun c_78 => ?_)
        · refine x_iload_n d_SG_advance_91 rfl rfl ?_
          refine x_callS1Y d_SG_advance_92 k_SG_77 w_SG_isWordCharacter (Nat.le_of_ble_eq_true rfl) (Nat.le_of_ble_eq_true rfl) (Nat.le_of_ble_eq_true rfl) (Nat.le_of_ble_eq_true rfl) (Nat.le_of_ble_eq_true rfl) rfl ?_
          refine x_if_eq 108 d_SG_advance_95 (by decide) (fun c_95 => ?_) (fun c_95 => ?_)
          · refine x_iload_n d_SG_advance_108 rfl rfl ?_
            refine x_callS1Y d_SG_advance_109 k_SG_83 (w_SG_isSymbol_at hu) (Nat.le_of_ble_eq_true rfl) (Nat.le_of_ble_eq_true rfl) (Nat.le_of_ble_eq_true rfl) (Nat.le_of_ble_eq_true rfl) (Nat.le_of_ble_eq_true rfl) rfl ?_
            refine x_if_eq 122 d_SG_advance_112 (by decide) (fun c_112 => ?_) (fun c_112 => ?_)
            · rw [g_tk, if_neg (g_ge0 c_22), if_neg (show ¬ _ = true by rw [g_b2z c_51]; decide), if_neg c_64, if_neg (show ¬ _ = true by rw [g_b2z c_78]; decide), if_neg (show ¬ _ = true by rw [g_b2z c_95]; decide), if_neg (show ¬ _ = true by rw [g_b2z c_112]; decide)] at htk
              simp only [Prod.mk.injEq] at htk
              obtain ⟨rfl, rfl, rfl, rfl⟩ := htk
              refine x_aload_n d_SG_advance_122 rfl rfl ?_
              refine x_iload_n d_SG_advance_123 rfl rfl ?_
              refine x_callV1B d_SG_advance_124 k_SG_89 (Nat.le_of_ble_eq_true rfl) (Nat.le_of_ble_eq_true rfl) (by first | rfl | assumption) (by rfl) (w_SG_takeSolo rfl (by first | rfl | assumption) hu hN hpl) (Nat.le_of_ble_eq_true rfl) (Nat.le_of_ble_eq_true rfl) (Nat.le_of_ble_eq_true rfl) (Nat.le_of_ble_eq_true rfl) (Nat.le_of_ble_eq_true rfl) rfl (fun hb => ?_) (fun hb h2 e2 => x_YX0 hb (fun i z => (e2 i z).trans (congrFun (x_upup _ _ _ _) i)))
              exact x_return d_SG_advance_127 rfl (x_YX1 hb (fun i _ => congrFun (x_upup _ _ _ _) i))
            · rw [g_tk, if_neg (g_ge0 c_22), if_neg (show ¬ _ = true by rw [g_b2z c_51]; decide), if_neg c_64, if_neg (show ¬ _ = true by rw [g_b2z c_78]; decide), if_neg (show ¬ _ = true by rw [g_b2z c_95]; decide), if_pos (g_b2n c_112)] at htk
              simp only [Prod.mk.injEq] at htk
              obtain ⟨rfl, rfl, rfl, rfl⟩ := htk
              refine x_aload_n d_SG_advance_115 rfl rfl ?_
              refine x_callV0Y d_SG_advance_116 k_SG_86 (Nat.le_of_ble_eq_true rfl) (Nat.le_of_ble_eq_true rfl) (by first | rfl | assumption) (by rfl) (w_SG_takeSymbols rfl (by first | rfl | assumption) hu hN hpN rfl) (Nat.le_of_ble_eq_true rfl) (Nat.le_of_ble_eq_true rfl) (Nat.le_of_ble_eq_true rfl) (Nat.le_of_ble_eq_true rfl) (Nat.le_of_ble_eq_true rfl) rfl ?_
              refine x_goto 127 d_SG_advance_119 (by decide) ?_
              exact x_return d_SG_advance_127 rfl (x_YX1 (by cases g_endb (g_at u N) p (g_run g_symb (g_at u N) (N - p) p) <;> rfl) (fun i z => by cases hb : g_endb (g_at u N) p (g_run g_symb (g_at u N) (N - p) p) <;> exact congrFun (x_upup _ _ _ _) i))
          · rw [g_tk, if_neg (g_ge0 c_22), if_neg (show ¬ _ = true by rw [g_b2z c_51]; decide), if_neg c_64, if_neg (show ¬ _ = true by rw [g_b2z c_78]; decide), if_pos (g_b2n c_95)] at htk
            simp only [Prod.mk.injEq] at htk
            obtain ⟨rfl, rfl, rfl, rfl⟩ := htk
            refine x_aload_n d_SG_advance_98 rfl rfl ?_
            refine x_gSN (i := 0) d_SG_advance_99 (by decide) s_SG_80 ?_
            refine x_callV1Y d_SG_advance_102 k_SG_73 (Nat.le_of_ble_eq_true rfl) (Nat.le_of_ble_eq_true rfl) (by first | rfl | assumption) (by rfl) (w_SG_takeWord rfl (by first | rfl | assumption) hu hN hpN rfl) (Nat.le_of_ble_eq_true rfl) (Nat.le_of_ble_eq_true rfl) (Nat.le_of_ble_eq_true rfl) (Nat.le_of_ble_eq_true rfl) (Nat.le_of_ble_eq_true rfl) rfl ?_
            refine x_goto 127 d_SG_advance_105 (by decide) ?_
            exact x_return d_SG_advance_127 rfl (x_YX1 rfl (fun i _ => congrFun (x_upup _ _ _ _) i))
        · rw [g_tk, if_neg (g_ge0 c_22), if_neg (show ¬ _ = true by rw [g_b2z c_51]; decide), if_neg c_64, if_pos (g_b2n c_78)] at htk
          simp only [Prod.mk.injEq] at htk
          obtain ⟨rfl, rfl, rfl, rfl⟩ := htk
          refine x_aload_n d_SG_advance_81 rfl rfl ?_
          refine x_gSN (i := 2) d_SG_advance_82 (by decide) s_SG_70 ?_
          refine x_callV1Y d_SG_advance_85 k_SG_73 (Nat.le_of_ble_eq_true rfl) (Nat.le_of_ble_eq_true rfl) (by first | rfl | assumption) (by rfl) (w_SG_takeWord rfl (by first | rfl | assumption) hu hN hpN rfl) (Nat.le_of_ble_eq_true rfl) (Nat.le_of_ble_eq_true rfl) (Nat.le_of_ble_eq_true rfl) (Nat.le_of_ble_eq_true rfl) (Nat.le_of_ble_eq_true rfl) rfl ?_
          refine x_goto 127 d_SG_advance_88 (by decide) ?_
          exact x_return d_SG_advance_127 rfl (x_YX1 rfl (fun i _ => congrFun (x_upup _ _ _ _) i))
      · rw [g_tk, if_neg (g_ge0 c_22), if_neg (show ¬ _ = true by rw [g_b2z c_51]; decide), if_pos c_64] at htk
        simp only [Prod.mk.injEq] at htk
        obtain ⟨rfl, rfl, rfl, rfl⟩ := htk
        refine x_aload_n d_SG_advance_67 rfl rfl ?_
        refine x_callV0B d_SG_advance_68 k_SG_64 (Nat.le_of_ble_eq_true rfl) (Nat.le_of_ble_eq_true rfl) (by first | rfl | assumption) (by rfl) (w_SG_takeQuoted rfl (by first | rfl | assumption) hu hN hpl rfl) (Nat.le_of_ble_eq_true rfl) (Nat.le_of_ble_eq_true rfl) (Nat.le_of_ble_eq_true rfl) (Nat.le_of_ble_eq_true rfl) (Nat.le_of_ble_eq_true rfl) rfl (fun hb => ?_) (fun hb h2 e2 => x_YX0 (by rw [hb]; rfl) (fun i z => (e2 i z).trans (congrFun (x_upup _ _ _ _) i)))
        refine x_goto 127 d_SG_advance_71 (by decide) ?_
        exact x_return d_SG_advance_127 rfl (x_YX1 (by rw [hb]; rfl) (fun i z => by rw [hb]; exact congrFun (x_upup _ _ _ _) i))
    · rw [g_tk, if_neg (g_ge0 c_22), if_pos (g_b2n c_51)] at htk
      simp only [Prod.mk.injEq] at htk
      obtain ⟨rfl, rfl, rfl, rfl⟩ := htk
      refine x_aload_n d_SG_advance_54 rfl rfl ?_
      refine x_callV0B d_SG_advance_55 k_SG_61 (Nat.le_of_ble_eq_true rfl) (Nat.le_of_ble_eq_true rfl) (by first | rfl | assumption) (by rfl) (w_SG_takeInteger rfl (by first | rfl | assumption) hu hN hpl rfl) (Nat.le_of_ble_eq_true rfl) (Nat.le_of_ble_eq_true rfl) (Nat.le_of_ble_eq_true rfl) (Nat.le_of_ble_eq_true rfl) (Nat.le_of_ble_eq_true rfl) rfl (fun hb => ?_) (fun hb h2 e2 => x_YX0 (by rw [hb]; rfl) (fun i z => (e2 i z).trans (congrFun (x_upup _ _ _ _) i)))
      refine x_goto 127 d_SG_advance_58 (by decide) ?_
      exact x_return d_SG_advance_127 rfl (x_YX1 (by rw [hb]; rfl) (fun i z => by rw [hb]; exact congrFun (x_upup _ _ _ _) i))
  · rw [g_tk, if_pos (Int32.not_le.mp c_22)] at htk
    simp only [Prod.mk.injEq] at htk
    obtain ⟨rfl, rfl, rfl, rfl⟩ := htk
    refine x_aload_n d_SG_advance_25 rfl rfl ?_
    refine x_gSN (i := 11) d_SG_advance_26 (by decide) s_SG_15 ?_
    refine x_aload_n d_SG_advance_29 rfl rfl ?_
    refine x_get d_SG_advance_30 f_SG_46 (Nat.le_of_ble_eq_true rfl) (Nat.le_of_ble_eq_true rfl) (by first | rfl | assumption) (by rfl) ?_
    refine x_aload_n d_SG_advance_33 rfl rfl ?_
    refine x_get d_SG_advance_34 f_SG_46 (Nat.le_of_ble_eq_true rfl) (Nat.le_of_ble_eq_true rfl) (by first | rfl | assumption) (by rfl) ?_
    refine x_aload_n d_SG_advance_37 rfl rfl ?_
    refine x_get d_SG_advance_38 f_SG_46 (Nat.le_of_ble_eq_true rfl) (Nat.le_of_ble_eq_true rfl) (by first | rfl | assumption) (by rfl) ?_
    refine x_callV4Y d_SG_advance_41 k_SG_53 (Nat.le_of_ble_eq_true rfl) (Nat.le_of_ble_eq_true rfl) (by first | rfl | assumption) (by rfl) (w_SG_take rfl) (Nat.le_of_ble_eq_true rfl) (Nat.le_of_ble_eq_true rfl) (Nat.le_of_ble_eq_true rfl) (Nat.le_of_ble_eq_true rfl) (Nat.le_of_ble_eq_true rfl) rfl ?_
    refine x_goto 127 d_SG_advance_44 (by decide) ?_
    exact x_return d_SG_advance_127 rfl (x_YX1 rfl (fun i _ => congrFun (x_upup _ _ _ _) i))
