theorem x_upup (h : xH) (i : Nat) (a b : xE) : x_up (x_up h i a) i b = x_up h i b := by
  funext j
  unfold x_up
  cases Nat.beq j i <;> rfl
theorem x_upself {h : xH} {i : Nat} {a : xE} (e : h i = a) : x_up h i a = h := by
  funext j
  unfold x_up
  cases hb : Nat.beq j i with
  | false => rfl
  | true => rw [Nat.eq_of_beq_eq_true hb]; exact e.symm
theorem x_hh {E : xR} {M : xM} {R : Room} {Q : xK} {n : Nat} {h : xH} {pc : Nat} {lv : List (Nat × Value)} {st : List Value} {cells slots : Nat} (h' : xH) (e : h = h') (k : x_W E M R Q n h' pc lv st cells slots) : x_W E M R Q n h pc lv st cells slots := by rw [e]; exact k
theorem g_sk1 {a : Int32} {x y z e : Nat} (h1 : ¬ a = 37) (h2 : ¬ g_b2 (g_blank a) = 0) (he : (bif decide (a = 37) then x else bif g_blank a then y else z) = e) : y = e := by
  rw [decide_eq_false h1] at he
  cases hb : g_blank a with
  | true => rw [hb] at he; exact he
  | false => rw [hb] at h2; exact absurd rfl h2
theorem g_sk2 {a : Int32} {x y z e : Nat} (h1 : ¬ a = 37) (h2 : g_b2 (g_blank a) = 0) (he : (bif decide (a = 37) then x else bif g_blank a then y else z) = e) : z = e := by
  rw [decide_eq_false h1] at he
  cases hb : g_blank a with
  | false => rw [hb] at he; exact he
  | true => rw [hb] at h2; exact absurd h2 (by decide)
theorem d_SG_skipBlanks_0 : decode M_SG_skipBlanks.2.1 0 = .ok (.iconst 0, 1) := by decide +kernel
theorem d_SG_skipBlanks_1 : decode M_SG_skipBlanks.2.1 1 = .ok (.istore_n 1, 1) := by decide +kernel
theorem d_SG_skipBlanks_2 : decode M_SG_skipBlanks.2.1 2 = .ok (.aload_n 0, 1) := by decide +kernel
theorem d_SG_skipBlanks_3 : decode M_SG_skipBlanks.2.1 3 = .ok (.getfield 37, 3) := by decide +kernel
theorem d_SG_skipBlanks_6 : decode M_SG_skipBlanks.2.1 6 = .ok (.aload_n 0, 1) := by decide +kernel
theorem d_SG_skipBlanks_7 : decode M_SG_skipBlanks.2.1 7 = .ok (.getfield 34, 3) := by decide +kernel
theorem d_SG_skipBlanks_10 : decode M_SG_skipBlanks.2.1 10 = .ok (.if_icmp .ge 63, 3) := by decide +kernel
theorem d_SG_skipBlanks_13 : decode M_SG_skipBlanks.2.1 13 = .ok (.aload_n 0, 1) := by decide +kernel
theorem d_SG_skipBlanks_14 : decode M_SG_skipBlanks.2.1 14 = .ok (.aload_n 0, 1) := by decide +kernel
theorem d_SG_skipBlanks_15 : decode M_SG_skipBlanks.2.1 15 = .ok (.getfield 37, 3) := by decide +kernel
theorem d_SG_skipBlanks_18 : decode M_SG_skipBlanks.2.1 18 = .ok (.invokevirtual 49, 3) := by decide +kernel
theorem d_SG_skipBlanks_21 : decode M_SG_skipBlanks.2.1 21 = .ok (.istore_n 2, 1) := by decide +kernel
theorem d_SG_skipBlanks_22 : decode M_SG_skipBlanks.2.1 22 = .ok (.iload_n 1, 1) := by decide +kernel
theorem d_SG_skipBlanks_23 : decode M_SG_skipBlanks.2.1 23 = .ok (.ifCond .eq 18, 3) := by decide +kernel
theorem d_SG_skipBlanks_26 : decode M_SG_skipBlanks.2.1 26 = .ok (.iload_n 2, 1) := by decide +kernel
theorem d_SG_skipBlanks_27 : decode M_SG_skipBlanks.2.1 27 = .ok (.bipush 10, 2) := by decide +kernel
theorem d_SG_skipBlanks_29 : decode M_SG_skipBlanks.2.1 29 = .ok (.if_icmp .eq 7, 3) := by decide +kernel
theorem d_SG_skipBlanks_32 : decode M_SG_skipBlanks.2.1 32 = .ok (.iconst 1, 1) := by decide +kernel
theorem d_SG_skipBlanks_33 : decode M_SG_skipBlanks.2.1 33 = .ok (.goto 4, 3) := by decide +kernel
theorem d_SG_skipBlanks_36 : decode M_SG_skipBlanks.2.1 36 = .ok (.iconst 0, 1) := by decide +kernel
theorem d_SG_skipBlanks_37 : decode M_SG_skipBlanks.2.1 37 = .ok (.istore_n 1, 1) := by decide +kernel
theorem d_SG_skipBlanks_38 : decode M_SG_skipBlanks.2.1 38 = .ok (.goto 22, 3) := by decide +kernel
theorem d_SG_skipBlanks_41 : decode M_SG_skipBlanks.2.1 41 = .ok (.iload_n 2, 1) := by decide +kernel
theorem d_SG_skipBlanks_42 : decode M_SG_skipBlanks.2.1 42 = .ok (.bipush 37, 2) := by decide +kernel
theorem d_SG_skipBlanks_44 : decode M_SG_skipBlanks.2.1 44 = .ok (.if_icmp .ne 8, 3) := by decide +kernel
theorem d_SG_skipBlanks_47 : decode M_SG_skipBlanks.2.1 47 = .ok (.iconst 1, 1) := by decide +kernel
theorem d_SG_skipBlanks_48 : decode M_SG_skipBlanks.2.1 48 = .ok (.istore_n 1, 1) := by decide +kernel
theorem d_SG_skipBlanks_49 : decode M_SG_skipBlanks.2.1 49 = .ok (.goto 11, 3) := by decide +kernel
theorem d_SG_skipBlanks_52 : decode M_SG_skipBlanks.2.1 52 = .ok (.iload_n 2, 1) := by decide +kernel
theorem d_SG_skipBlanks_53 : decode M_SG_skipBlanks.2.1 53 = .ok (.invokestatic 148, 3) := by decide +kernel
theorem d_SG_skipBlanks_56 : decode M_SG_skipBlanks.2.1 56 = .ok (.ifCond .ne 4, 3) := by decide +kernel
theorem d_SG_skipBlanks_59 : decode M_SG_skipBlanks.2.1 59 = .ok (.return_, 1) := by decide +kernel
theorem d_SG_skipBlanks_60 : decode M_SG_skipBlanks.2.1 60 = .ok (.aload_n 0, 1) := by decide +kernel
theorem d_SG_skipBlanks_61 : decode M_SG_skipBlanks.2.1 61 = .ok (.dup, 1) := by decide +kernel
theorem d_SG_skipBlanks_62 : decode M_SG_skipBlanks.2.1 62 = .ok (.getfield 37, 3) := by decide +kernel
theorem d_SG_skipBlanks_65 : decode M_SG_skipBlanks.2.1 65 = .ok (.iconst 1, 1) := by decide +kernel
theorem d_SG_skipBlanks_66 : decode M_SG_skipBlanks.2.1 66 = .ok (.iadd, 1) := by decide +kernel
theorem d_SG_skipBlanks_67 : decode M_SG_skipBlanks.2.1 67 = .ok (.putfield 37, 3) := by decide +kernel
theorem d_SG_skipBlanks_70 : decode M_SG_skipBlanks.2.1 70 = .ok (.goto (-68), 3) := by decide +kernel
theorem d_SG_skipBlanks_73 : decode M_SG_skipBlanks.2.1 73 = .ok (.return_, 1) := by decide +kernel
set_option maxRecDepth 20000 in
theorem w_SG_skipLoop {E : xR} {h : xH} {u : Nat → Nat} {N : Nat} {e : Nat} {w3 w4 w5 w6 w7 : Value} (h1 : h 1 = .inl (1, 4096, .inl (fun i => g_sb (u i)))) (hu : ∀ i, u i < 256) (hN : N ≤ 4096) : ∀ (m : Nat) (c : Bool) (i : Nat), i + m = N → g_sk (g_at u N) m c i = e → ∀ x : List (Nat × Value), x = [(0, .ref 3), (1, .int (g_b2 c))] → x_W E M_SG_skipBlanks (x_room 1 0 0) (x_Y none 52 (x_up h 3 (.inr (2, [.ref 1, .int (nI N), .int (nI e), w3, w4, w5, w6, w7])))) 52 (x_up h 3 (.inr (2, [.ref 1, .int (nI N), .int (nI i), w3, w4, w5, w6, w7]))) 2 x [] 0 0 := by
  intro m
  induction m with
  | zero =>
    intro c i hi he x hx
    subst hx
    obtain rfl : i = N := by omega
    obtain rfl : i = e := he
    refine x_aload_n d_SG_skipBlanks_2 rfl rfl ?_
    refine x_get d_SG_skipBlanks_3 f_SG_37 (Nat.le_of_ble_eq_true rfl) (Nat.le_of_ble_eq_true rfl) (by first | rfl | assumption) (by rfl) ?_
    refine x_aload_n d_SG_skipBlanks_6 rfl rfl ?_
    refine x_get d_SG_skipBlanks_7 f_SG_34 (Nat.le_of_ble_eq_true rfl) (Nat.le_of_ble_eq_true rfl) (by first | rfl | assumption) (by rfl) ?_
    refine x_icmp_ge 73 d_SG_skipBlanks_10 (by decide) (fun _ => ?_) (fun z => absurd (nI_le (Nat.le_refl _) (by omega)) z)
    exact x_return d_SG_skipBlanks_73 rfl ⟨rfl, rfl, fun _ _ => rfl, rfl, rfl⟩
  | succ m ih =>
    intro c i hi he x hx
    subst hx
    rw [g_sk] at he
    have hnx : ∀ (c : Bool) (z : Value), g_sk (g_at u N) m c (i + 1) = e → x_W E M_SG_skipBlanks (x_room 1 0 0) (x_Y none 52 (x_up h 3 (.inr (2, [.ref 1, .int (nI N), .int (nI e), w3, w4, w5, w6, w7])))) 52 (x_up h 3 (.inr (2, [.ref 1, .int (nI N), .int (nI i), w3, w4, w5, w6, w7]))) 60 [(0, .ref 3), (1, .int (g_b2 c)), (2, z)] [] 0 0 := by
      intro c z he
      refine x_aload_n d_SG_skipBlanks_60 rfl rfl ?_
      refine x_dup d_SG_skipBlanks_61 rfl ?_
      refine x_get d_SG_skipBlanks_62 f_SG_37 (Nat.le_of_ble_eq_true rfl) (Nat.le_of_ble_eq_true rfl) (by first | rfl | assumption) (by rfl) ?_
      refine x_iconst 1 d_SG_skipBlanks_65 (by decide) ?_
      refine x_iadd d_SG_skipBlanks_66 ?_
      refine x_topi (nI (i + 1)) (nI_succ i).symm ?_
      refine x_put d_SG_skipBlanks_67 f_SG_37 (Nat.le_of_ble_eq_true rfl) (Nat.le_of_ble_eq_true rfl) (by first | rfl | assumption) (by rfl) (by rfl) (by exact (Nat.le_of_ble_eq_true rfl)) ?_
      refine x_goto 2 d_SG_skipBlanks_70 (by decide) ?_
      exact x_hh (x_up h 3 (.inr (2, [.ref 1, .int (nI N), .int (nI (i + 1)), w3, w4, w5, w6, w7]))) (x_upup _ _ _ _) (x_wk [(0, .ref 3), (1, .int (g_b2 c))] (by simp) (ih c (i + 1) (by omega) he _ rfl))
    cases c with
    | true =>
      change g_sk (g_at u N) m (!decide (g_at u N i = 10)) (i + 1) = e at he
      refine x_aload_n d_SG_skipBlanks_2 rfl rfl ?_
      refine x_get d_SG_skipBlanks_3 f_SG_37 (Nat.le_of_ble_eq_true rfl) (Nat.le_of_ble_eq_true rfl) (by first | rfl | assumption) (by rfl) ?_
      refine x_aload_n d_SG_skipBlanks_6 rfl rfl ?_
      refine x_get d_SG_skipBlanks_7 f_SG_34 (Nat.le_of_ble_eq_true rfl) (Nat.le_of_ble_eq_true rfl) (by first | rfl | assumption) (by rfl) ?_
      refine x_icmp_ge 73 d_SG_skipBlanks_10 (by decide) (fun z => absurd z (nI_ge (by omega) (by omega))) (fun _ => ?_)
      refine x_aload_n d_SG_skipBlanks_13 rfl rfl ?_
      refine x_aload_n d_SG_skipBlanks_14 rfl rfl ?_
      refine x_get d_SG_skipBlanks_15 f_SG_37 (Nat.le_of_ble_eq_true rfl) (Nat.le_of_ble_eq_true rfl) (by first | rfl | assumption) (by rfl) ?_
      refine x_callV1Y d_SG_skipBlanks_18 k_SG_49 (Nat.le_of_ble_eq_true rfl) (Nat.le_of_ble_eq_true rfl) (by first | rfl | assumption) (by rfl) (w_SG_at rfl (by first | rfl | assumption) hu hN (by omega)) (Nat.le_of_ble_eq_true rfl) (Nat.le_of_ble_eq_true rfl) (Nat.le_of_ble_eq_true rfl) (Nat.le_of_ble_eq_true rfl) (Nat.le_of_ble_eq_true rfl) rfl ?_
      refine x_istore_n d_SG_skipBlanks_21 rfl (Nat.le_of_ble_eq_true rfl) ?_
      refine x_iload_n d_SG_skipBlanks_22 rfl rfl ?_
      refine x_if_eq 41 d_SG_skipBlanks_23 (by decide) (fun z => absurd z (by decide)) (fun _ => ?_)
      refine x_iload_n d_SG_skipBlanks_26 rfl rfl ?_
      refine x_bipush 10 d_SG_skipBlanks_27 (by decide) ?_
      refine x_icmp_eq 36 d_SG_skipBlanks_29 (by decide) (fun c_29 => ?_) (fun c_29 => ?_)
      · refine x_iconst 0 d_SG_skipBlanks_36 (by decide) ?_
        refine x_istore_n d_SG_skipBlanks_37 rfl (Nat.le_of_ble_eq_true rfl) ?_
        refine x_goto 60 d_SG_skipBlanks_38 (by decide) ?_
        exact hnx false _ (by rw [← he, c_29]; rfl)
      · refine x_iconst 1 d_SG_skipBlanks_32 (by decide) ?_
        refine x_goto 37 d_SG_skipBlanks_33 (by decide) ?_
        refine x_istore_n d_SG_skipBlanks_37 rfl (Nat.le_of_ble_eq_true rfl) ?_
        refine x_goto 60 d_SG_skipBlanks_38 (by decide) ?_
        exact hnx true _ (by rw [← he, decide_eq_false c_29]; rfl)
    | false =>
      change (bif decide (g_at u N i = 37) then g_sk (g_at u N) m true (i + 1) else bif g_blank (g_at u N i) then g_sk (g_at u N) m false (i + 1) else i) = e at he
      refine x_aload_n d_SG_skipBlanks_2 rfl rfl ?_
      refine x_get d_SG_skipBlanks_3 f_SG_37 (Nat.le_of_ble_eq_true rfl) (Nat.le_of_ble_eq_true rfl) (by first | rfl | assumption) (by rfl) ?_
      refine x_aload_n d_SG_skipBlanks_6 rfl rfl ?_
      refine x_get d_SG_skipBlanks_7 f_SG_34 (Nat.le_of_ble_eq_true rfl) (Nat.le_of_ble_eq_true rfl) (by first | rfl | assumption) (by rfl) ?_
      refine x_icmp_ge 73 d_SG_skipBlanks_10 (by decide) (fun z => absurd z (nI_ge (by omega) (by omega))) (fun _ => ?_)
      refine x_aload_n d_SG_skipBlanks_13 rfl rfl ?_
      refine x_aload_n d_SG_skipBlanks_14 rfl rfl ?_
      refine x_get d_SG_skipBlanks_15 f_SG_37 (Nat.le_of_ble_eq_true rfl) (Nat.le_of_ble_eq_true rfl) (by first | rfl | assumption) (by rfl) ?_
      refine x_callV1Y d_SG_skipBlanks_18 k_SG_49 (Nat.le_of_ble_eq_true rfl) (Nat.le_of_ble_eq_true rfl) (by first | rfl | assumption) (by rfl) (w_SG_at rfl (by first | rfl | assumption) hu hN (by omega)) (Nat.le_of_ble_eq_true rfl) (Nat.le_of_ble_eq_true rfl) (Nat.le_of_ble_eq_true rfl) (Nat.le_of_ble_eq_true rfl) (Nat.le_of_ble_eq_true rfl) rfl ?_
      refine x_istore_n d_SG_skipBlanks_21 rfl (Nat.le_of_ble_eq_true rfl) ?_
      refine x_iload_n d_SG_skipBlanks_22 rfl rfl ?_
      refine x_if_eq 41 d_SG_skipBlanks_23 (by decide) (fun _ => ?_) (fun z => absurd (show g_b2 false = 0 from rfl) z)
      refine x_iload_n d_SG_skipBlanks_41 rfl rfl ?_
      refine x_bipush 37 d_SG_skipBlanks_42 (by decide) ?_
      refine x_icmp_ne 52 d_SG_skipBlanks_44 (by decide) (fun c_44 => ?_) (fun c_44 => ?_)
      · refine x_iload_n d_SG_skipBlanks_52 rfl rfl ?_
        refine x_callS1Y d_SG_skipBlanks_53 k_SG_148 w_SG_isBlank (Nat.le_of_ble_eq_true rfl) (Nat.le_of_ble_eq_true rfl) (Nat.le_of_ble_eq_true rfl) (Nat.le_of_ble_eq_true rfl) (Nat.le_of_ble_eq_true rfl) rfl ?_
        refine x_if_ne 60 d_SG_skipBlanks_56 (by decide) (fun c_56 => ?_) (fun c_56 => ?_)
        · exact hnx false _ (g_sk1 c_44 c_56 he)
        · exact x_return d_SG_skipBlanks_59 rfl ⟨rfl, rfl, fun _ _ => by rw [g_sk2 c_44 c_56 he], rfl, rfl⟩
      · refine x_iconst 1 d_SG_skipBlanks_47 (by decide) ?_
        refine x_istore_n d_SG_skipBlanks_48 rfl (Nat.le_of_ble_eq_true rfl) ?_
        refine x_goto 60 d_SG_skipBlanks_49 (by decide) ?_
        exact hnx true _ (by rw [c_44] at he; exact he)
set_option maxRecDepth 20000 in
theorem w_SG_skipBlanks {E : xR} {h : xH} {u : Nat → Nat} {N : Nat} {i : Nat} {w3 w4 w5 w6 w7 : Value} (h3 : h 3 = .inr (2, [.ref 1, .int (nI N), .int (nI i), w3, w4, w5, w6, w7])) (h1 : h 1 = .inl (1, 4096, .inl (fun i => g_sb (u i)))) (hu : ∀ i, u i < 256) (hN : N ≤ 4096) (hi : i ≤ N) : x_Mt E M_SG_skipBlanks 1 0 0 [.ref 3] 52 h (x_Y none 52 (x_up h 3 (.inr (2, [.ref 1, .int (nI N), .int (nI (g_sk (g_at u N) (N - i) false i)), w3, w4, w5, w6, w7])))) := by
  refine x_Mt.of (by decide) (Nat.le_of_ble_eq_true rfl) ?_
  show x_W E M_SG_skipBlanks _ _ 52 h 0 [(0, .ref 3)] [] 0 0
  refine x_iconst 0 d_SG_skipBlanks_0 (by decide) ?_
  refine x_istore_n d_SG_skipBlanks_1 rfl (Nat.le_of_ble_eq_true rfl) ?_
  exact x_hh (x_up h 3 (.inr (2, [.ref 1, .int (nI N), .int (nI i), w3, w4, w5, w6, w7]))) (x_upself h3).symm (w_SG_skipLoop h1 hu hN (N - i) false i (by omega) rfl _ rfl)
