/-- the printer's world: S is printed so far -/
def g_zw (h : xH) (ra wc : Nat) (S : List Int32) (ne : Nat) (Lv Wt P0 : Nat → Int32) : xH := g_qw h ra (nI wc) (nI S.length) (nI ne) Lv Wt (g_ps P0 0 S)
theorem g_zwA {h : xH} {ra wc ne : Nat} {S T : List Int32} {Lv Wt P0 : Nat → Int32} : g_qw h ra (nI wc) (nI (S.length + T.length)) (nI ne) Lv Wt (g_ps (g_ps P0 0 S) S.length T) = g_zw h ra wc (S ++ T) ne Lv Wt P0 := by
  unfold g_zw
  rw [List.length_append, g_ps_app, Nat.zero_add]
theorem g_zwC {h : xH} {ra wc ne lv : Nat} {S : List Int32} {Lv Wt P0 : Nat → Int32} (h1 : ne < 2 ^ 30) (h2 : lv < 2 ^ 30) : g_qw h ra (nI wc) (nI S.length) (if nI ne < nI lv then nI lv else nI ne) Lv Wt (g_ps P0 0 S) = g_zw h ra wc S (max ne lv) Lv Wt P0 := by
  unfold g_zw
  by_cases q : ne < lv
  · rw [if_pos (nI_lt q (by omega)), Nat.max_eq_right (by omega)]
  · rw [if_neg (nI_nlt (by omega) (by omega)), Nat.max_eq_left (by omega)]
theorem z_put {E : xR} {h : xH} {ra wc ne : Nat} {S : List Int32} {Lv Wt P0 : Nat → Int32} {c : Int32} (hra : ra = 19 ∨ ra = 20) (hS : S.length < 2 ^ 30) : x_Mt E M_PR_put 0 0 0 [.ref 15, .int c] 52 (g_zw h ra wc S ne Lv Wt P0) (x_Y none 52 (g_zw h ra wc (S ++ [c]) ne Lv Wt P0)) := by
  show x_Mt E M_PR_put 0 0 0 _ 52 (g_qw h ra (nI wc) (nI S.length) (nI ne) Lv Wt (g_ps P0 0 S)) _
  rw [← g_zwA]
  exact w_PR_put hra hS
theorem z_putText {E : xR} {h : xH} {u : Nat → Nat} {ra wc ne : Nat} {S : List Int32} {Lv Wt P0 : Nat → Int32} {A : Nat → Nat → Int32} {sy : Value} {va : Value} {rt : Value} {y f t : Nat} (hra : ra = 19 ∨ ra = 20) (t5 : h 5 = .inr (3, [.ref 6, .ref 7, .ref 8, .ref 9, .ref 10, .ref 11, .ref 12, .ref 13, .ref 1, sy, va, rt])) (a1 : h 7 = .inl (0, 1001, .inl (A 1))) (a2 : h 8 = .inl (0, 1001, .inl (A 2))) (h1 : h 1 = .inl (1, 4096, .inl (fun i => g_sb (u i)))) (hy : y < 1001) (hf0 : A 1 y = nI f) (ht : A 2 y = nI t) (hft : f ≤ t) (ht4 : t ≤ 4096) (hS : S.length < 2 ^ 28) : x_Mt E M_PR_putText 1 0 0 [.ref 15, .ref 5, .int (nI y)] 52 (g_zw h ra wc S ne Lv Wt P0) (x_Y none 52 (g_zw h ra wc (S ++ g_tp u (t - f) f) ne Lv Wt P0)) := by
  show x_Mt E M_PR_putText 1 0 0 _ 52 (g_qw h ra (nI wc) (nI S.length) (nI ne) Lv Wt (g_ps P0 0 S)) _
  rw [← g_zwA, g_tp_len]
  exact w_PR_putText hra t5 a1 a2 h1 hy hf0 ht hft ht4 (by omega)
theorem z_printName {E : xR} {h : xH} {u : Nat → Nat} {ra wc ne : Nat} {S : List Int32} {Lv Wt P0 : Nat → Int32} {A : Nat → Nat → Int32} {sy : Value} {va : Value} {rt : Value} {y f t : Nat} (hra : ra = 19 ∨ ra = 20) (t5 : h 5 = .inr (3, [.ref 6, .ref 7, .ref 8, .ref 9, .ref 10, .ref 11, .ref 12, .ref 13, .ref 1, sy, va, rt])) (a1 : h 7 = .inl (0, 1001, .inl (A 1))) (a2 : h 8 = .inl (0, 1001, .inl (A 2))) (h1 : h 1 = .inl (1, 4096, .inl (fun i => g_sb (u i)))) (hu : ∀ i, u i < 256) (hy : y < 1001) (hf0 : A 1 y = nI f) (ht : A 2 y = nI t) (hft : f ≤ t) (ht4 : t ≤ 4096) (hS : S.length < 2 ^ 28) : x_Mt E M_PR_printName 8 0 0 [.ref 15, .ref 5, .int (nI y)] 52 (g_zw h ra wc S ne Lv Wt P0) (x_Y none 52 (g_zw h ra wc (S ++ g_nmS u f t) ne Lv Wt P0)) := by
  show x_Mt E M_PR_printName 8 0 0 _ 52 (g_qw h ra (nI wc) (nI S.length) (nI ne) Lv Wt (g_ps P0 0 S)) _
  rw [← g_zwA]
  exact w_PR_printName hra t5 a1 a2 h1 hu hy hf0 ht hft ht4 hS
theorem z_putNumber {E : xR} {h : xH} {ra wc ne : Nat} {S : List Int32} {Lv Wt P0 : Nat → Int32} {v : Nat} (hra : ra = 19 ∨ ra = 20) (hv : v < 1000) (hS : S.length < 2 ^ 28) : x_Mt E M_PR_putNumber 1 0 0 [.ref 15, .int (nI v)] 52 (g_zw h ra wc S ne Lv Wt P0) (x_Y none 52 (g_zw h ra wc (S ++ g_num v) ne Lv Wt P0)) := by
  show x_Mt E M_PR_putNumber 1 0 0 _ 52 (g_qw h ra (nI wc) (nI S.length) (nI ne) Lv Wt (g_ps P0 0 S)) _
  rw [← g_zwA]
  exact w_PR_putNumber hra hv hS
theorem z_enter {E : xR} {h : xH} {ra wc ne : Nat} {S : List Int32} {Lv Wt P0 : Nat → Int32} {x : Int32} (hra : ra = 19 ∨ ra = 20) (hw : wc + 1 < 2000) : x_Mt E M_PR_enter 1 0 0 [.ref 15, .int x] 52 (g_zw h ra wc S ne Lv Wt P0) (x_Y none 52 (g_zw h ra (wc + 1 + 1) S ne Lv (upd (upd Wt wc (x ^^^ -1)) (wc + 1) x) P0)) := by
  show x_Mt E M_PR_enter 1 0 0 _ 52 (g_qw h ra (nI wc) (nI S.length) (nI ne) Lv Wt (g_ps P0 0 S)) _
  exact w_PR_enter hra hw
theorem z_countLevel {E : xR} {h : xH} {ra wc ne : Nat} {S : List Int32} {Lv Wt P0 : Nat → Int32} {A : Nat → Nat → Int32} {sy va rt : Value} {y lo c : Nat} (hra : ra = 19 ∨ ra = 20) (t5 : h 5 = .inr (3, [.ref 6, .ref 7, .ref 8, .ref 9, .ref 10, .ref 11, .ref 12, .ref 13, .ref 1, sy, va, rt])) (a3 : h 9 = .inl (0, 1001, .inl (A 3))) (a4 : h 10 = .inl (0, 1001, .inl (A 4))) (hy : y < 1001) (ho : (A 3 y = -1 ∧ lo = 0) ∨ ∃ o, o < 1001 ∧ A 3 y = nI o ∧ Lv o = nI lo) (hc : (A 4 y = -1 ∧ c = 0) ∨ (¬ A 4 y = -1 ∧ c = 1)) (hlo : lo < 5000) (hne : ne < 5000) : x_Mt E M_PR_countLevel 1 0 0 [.ref 15, .ref 5, .int (nI y)] 52 (g_zw h ra wc S ne Lv Wt P0) (x_Y none 52 (g_zw h ra wc S (max ne (lo + c)) (upd Lv y (nI (lo + c))) Wt P0)) := by
  have e : g_lev A Lv y = nI (lo + c) := by
    unfold g_lev
    rw [← nI_add lo c]
    have e1 : (if A 3 y = -1 then 0 else Lv (A 3 y).toNatClampNeg) = nI lo := by
      rcases ho with ⟨q1, q2⟩ | ⟨o, q1, q2, q3⟩
      · rw [if_pos q1, q2]; rfl
      · rw [if_neg (by rw [q2]; exact g_nIm (by omega)), q2, nI_clamp (by omega)]; exact q3
    have e2 : g_b2 (!decide (A 4 y = -1)) = nI c := by
      rcases hc with ⟨q1, q2⟩ | ⟨q1, q2⟩
      · rw [decide_eq_true q1, q2]; rfl
      · rw [decide_eq_false q1, q2]; rfl
    rw [e1, e2]
  have ho' : A 3 y = -1 ∨ ∃ o, o < 1001 ∧ A 3 y = nI o := by
    rcases ho with ⟨q1, -⟩ | ⟨o, q1, q2, -⟩
    · exact Or.inl q1
    · exact Or.inr ⟨o, q1, q2⟩
  show x_Mt E M_PR_countLevel 1 0 0 _ 52 (g_qw h ra (nI wc) (nI S.length) (nI ne) Lv Wt (g_ps P0 0 S)) _
  rw [← g_zwC (by omega) (by omega), ← e]
  rcases hra with rfl | rfl
  · exact w_PR_countLevel19 t5 a3 a4 hy ho'
  · exact w_PR_countLevel20 t5 a3 a4 hy ho'
theorem d_PR_printLeaf_0 : decode M_PR_printLeaf.2.1 0 = .ok (.iload_n 3, 1) := by decide +kernel
theorem d_PR_printLeaf_1 : decode M_PR_printLeaf.2.1 1 = .ok (.ifCond .ne 22, 3) := by decide +kernel
theorem d_PR_printLeaf_4 : decode M_PR_printLeaf.2.1 4 = .ok (.aload_n 0, 1) := by decide +kernel
theorem d_PR_printLeaf_5 : decode M_PR_printLeaf.2.1 5 = .ok (.bipush 95, 2) := by decide +kernel
theorem d_PR_printLeaf_7 : decode M_PR_printLeaf.2.1 7 = .ok (.invokevirtual 54, 3) := by decide +kernel
theorem d_PR_printLeaf_10 : decode M_PR_printLeaf.2.1 10 = .ok (.aload_n 0, 1) := by decide +kernel
theorem d_PR_printLeaf_11 : decode M_PR_printLeaf.2.1 11 = .ok (.aload_n 1, 1) := by decide +kernel
theorem d_PR_printLeaf_12 : decode M_PR_printLeaf.2.1 12 = .ok (.getfield 70, 3) := by decide +kernel
theorem d_PR_printLeaf_15 : decode M_PR_printLeaf.2.1 15 = .ok (.iload_n 2, 1) := by decide +kernel
theorem d_PR_printLeaf_16 : decode M_PR_printLeaf.2.1 16 = .ok (.iaload, 1) := by decide +kernel
theorem d_PR_printLeaf_17 : decode M_PR_printLeaf.2.1 17 = .ok (.invokevirtual 73, 3) := by decide +kernel
theorem d_PR_printLeaf_20 : decode M_PR_printLeaf.2.1 20 = .ok (.goto 56, 3) := by decide +kernel
theorem d_PR_printLeaf_23 : decode M_PR_printLeaf.2.1 23 = .ok (.iload_n 3, 1) := by decide +kernel
theorem d_PR_printLeaf_24 : decode M_PR_printLeaf.2.1 24 = .ok (.iconst 5, 1) := by decide +kernel
theorem d_PR_printLeaf_25 : decode M_PR_printLeaf.2.1 25 = .ok (.if_icmp .ne 18, 3) := by decide +kernel
theorem d_PR_printLeaf_28 : decode M_PR_printLeaf.2.1 28 = .ok (.aload_n 0, 1) := by decide +kernel
theorem d_PR_printLeaf_29 : decode M_PR_printLeaf.2.1 29 = .ok (.bipush 91, 2) := by decide +kernel
theorem d_PR_printLeaf_31 : decode M_PR_printLeaf.2.1 31 = .ok (.invokevirtual 54, 3) := by decide +kernel
theorem d_PR_printLeaf_34 : decode M_PR_printLeaf.2.1 34 = .ok (.aload_n 0, 1) := by decide +kernel
theorem d_PR_printLeaf_35 : decode M_PR_printLeaf.2.1 35 = .ok (.bipush 93, 2) := by decide +kernel
theorem d_PR_printLeaf_37 : decode M_PR_printLeaf.2.1 37 = .ok (.invokevirtual 54, 3) := by decide +kernel
theorem d_PR_printLeaf_40 : decode M_PR_printLeaf.2.1 40 = .ok (.goto 36, 3) := by decide +kernel
theorem d_PR_printLeaf_43 : decode M_PR_printLeaf.2.1 43 = .ok (.iload_n 3, 1) := by decide +kernel
theorem d_PR_printLeaf_44 : decode M_PR_printLeaf.2.1 44 = .ok (.iconst 2, 1) := by decide +kernel
theorem d_PR_printLeaf_45 : decode M_PR_printLeaf.2.1 45 = .ok (.if_icmp .ne 25, 3) := by decide +kernel
theorem d_PR_printLeaf_48 : decode M_PR_printLeaf.2.1 48 = .ok (.aload_n 1, 1) := by decide +kernel
theorem d_PR_printLeaf_49 : decode M_PR_printLeaf.2.1 49 = .ok (.getfield 76, 3) := by decide +kernel
theorem d_PR_printLeaf_52 : decode M_PR_printLeaf.2.1 52 = .ok (.aload_n 1, 1) := by decide +kernel
theorem d_PR_printLeaf_53 : decode M_PR_printLeaf.2.1 53 = .ok (.getfield 79, 3) := by decide +kernel
theorem d_PR_printLeaf_56 : decode M_PR_printLeaf.2.1 56 = .ok (.iload_n 2, 1) := by decide +kernel
theorem d_PR_printLeaf_57 : decode M_PR_printLeaf.2.1 57 = .ok (.iaload, 1) := by decide +kernel
theorem d_PR_printLeaf_58 : decode M_PR_printLeaf.2.1 58 = .ok (.baload, 1) := by decide +kernel
theorem d_PR_printLeaf_59 : decode M_PR_printLeaf.2.1 59 = .ok (.bipush 48, 2) := by decide +kernel
theorem d_PR_printLeaf_61 : decode M_PR_printLeaf.2.1 61 = .ok (.if_icmp .eq 9, 3) := by decide +kernel
theorem d_PR_printLeaf_64 : decode M_PR_printLeaf.2.1 64 = .ok (.aload_n 0, 1) := by decide +kernel
theorem d_PR_printLeaf_65 : decode M_PR_printLeaf.2.1 65 = .ok (.bipush 45, 2) := by decide +kernel
theorem d_PR_printLeaf_67 : decode M_PR_printLeaf.2.1 67 = .ok (.invokevirtual 54, 3) := by decide +kernel
theorem d_PR_printLeaf_70 : decode M_PR_printLeaf.2.1 70 = .ok (.aload_n 0, 1) := by decide +kernel
theorem d_PR_printLeaf_71 : decode M_PR_printLeaf.2.1 71 = .ok (.aload_n 1, 1) := by decide +kernel
theorem d_PR_printLeaf_72 : decode M_PR_printLeaf.2.1 72 = .ok (.iload_n 2, 1) := by decide +kernel
theorem d_PR_printLeaf_73 : decode M_PR_printLeaf.2.1 73 = .ok (.invokevirtual 82, 3) := by decide +kernel
theorem d_PR_printLeaf_76 : decode M_PR_printLeaf.2.1 76 = .ok (.return_, 1) := by decide +kernel
set_option maxRecDepth 20000 in
theorem z_leaf0 {E : xR} {h : xH} {ra wc ne : Nat} {S : List Int32} {Lv Wt P0 : Nat → Int32} {A : Nat → Nat → Int32} {sy : Value} {va : Value} {rt : Value} {y v : Nat} (hra : ra = 19 ∨ ra = 20) (t5 : h 5 = .inr (3, [.ref 6, .ref 7, .ref 8, .ref 9, .ref 10, .ref 11, .ref 12, .ref 13, .ref 1, sy, va, rt])) (a6 : h 12 = .inl (0, 1001, .inl (A 6))) (hy : y < 1001) (hv0 : A 6 y = nI v) (hv : v < 1000) (hS : S.length < 2 ^ 27) : x_Mt E M_PR_printLeaf 2 0 0 [.ref 15, .ref 5, .int (nI y), .int 0] 52 (g_zw h ra wc S ne Lv Wt P0) (x_Y none 52 (g_zw h ra wc (S ++ 95 :: g_num v) ne Lv Wt P0)) := by
  have hra0 := hra
  rcases hra with rfl | rfl
  · refine x_Mt.of (by decide) (Nat.le_of_ble_eq_true rfl) ?_
    show x_W E M_PR_printLeaf _ _ 52 (g_zw h 19 wc S ne Lv Wt P0) 0 [(0, .ref 15), (1, .ref 5), (2, .int (nI y)), (3, .int 0)] [] 0 0
    refine x_iload_n d_PR_printLeaf_0 rfl rfl ?_
    refine x_if_ne 23 d_PR_printLeaf_1 (by decide) (fun z => absurd rfl z) (fun _ => ?_)
    refine x_aload_n d_PR_printLeaf_4 rfl rfl ?_
    refine x_bipush 95 d_PR_printLeaf_5 (by decide) ?_
    refine x_callV1Y d_PR_printLeaf_7 k_PR_54 (Nat.le_of_ble_eq_true rfl) (Nat.le_of_ble_eq_true rfl) (by first | rfl | assumption) (by rfl) (z_put hra0 (by omega)) (Nat.le_of_ble_eq_true rfl) (Nat.le_of_ble_eq_true rfl) (Nat.le_of_ble_eq_true rfl) (Nat.le_of_ble_eq_true rfl) (Nat.le_of_ble_eq_true rfl) rfl ?_
    refine x_aload_n d_PR_printLeaf_10 rfl rfl ?_
    refine x_aload_n d_PR_printLeaf_11 rfl rfl ?_
    refine x_get d_PR_printLeaf_12 f_PR_70 (Nat.le_of_ble_eq_true rfl) (Nat.le_of_ble_eq_true rfl) (by first | rfl | assumption) (by rfl) ?_
    refine x_iload_n d_PR_printLeaf_15 rfl rfl ?_
    refine x_iald d_PR_printLeaf_16 (Nat.le_of_ble_eq_true rfl) (Nat.le_of_ble_eq_true rfl) (by first | rfl | assumption) (vp_in_nI hy (by decide)) ?_
    refine x_topi (nI v) (by rw [nI_clamp (by omega)]; exact hv0) ?_
    refine x_callV1Y d_PR_printLeaf_17 k_PR_73 (Nat.le_of_ble_eq_true rfl) (Nat.le_of_ble_eq_true rfl) (by first | rfl | assumption) (by rfl) (z_putNumber hra0 hv (by simp only [List.length_append, List.length_cons, List.length_nil]; omega)) (Nat.le_of_ble_eq_true rfl) (Nat.le_of_ble_eq_true rfl) (Nat.le_of_ble_eq_true rfl) (Nat.le_of_ble_eq_true rfl) (Nat.le_of_ble_eq_true rfl) rfl ?_
    refine x_goto 76 d_PR_printLeaf_20 (by decide) ?_
    exact x_return d_PR_printLeaf_76 rfl ⟨rfl, rfl, fun i hi => by rw [List.append_assoc]; rfl, rfl, rfl⟩
  · refine x_Mt.of (by decide) (Nat.le_of_ble_eq_true rfl) ?_
    show x_W E M_PR_printLeaf _ _ 52 (g_zw h 20 wc S ne Lv Wt P0) 0 [(0, .ref 15), (1, .ref 5), (2, .int (nI y)), (3, .int 0)] [] 0 0
    refine x_iload_n d_PR_printLeaf_0 rfl rfl ?_
    refine x_if_ne 23 d_PR_printLeaf_1 (by decide) (fun z => absurd rfl z) (fun _ => ?_)
    refine x_aload_n d_PR_printLeaf_4 rfl rfl ?_
    refine x_bipush 95 d_PR_printLeaf_5 (by decide) ?_
    refine x_callV1Y d_PR_printLeaf_7 k_PR_54 (Nat.le_of_ble_eq_true rfl) (Nat.le_of_ble_eq_true rfl) (by first | rfl | assumption) (by rfl) (z_put hra0 (by omega)) (Nat.le_of_ble_eq_true rfl) (Nat.le_of_ble_eq_true rfl) (Nat.le_of_ble_eq_true rfl) (Nat.le_of_ble_eq_true rfl) (Nat.le_of_ble_eq_true rfl) rfl ?_
    refine x_aload_n d_PR_printLeaf_10 rfl rfl ?_
    refine x_aload_n d_PR_printLeaf_11 rfl rfl ?_
    refine x_get d_PR_printLeaf_12 f_PR_70 (Nat.le_of_ble_eq_true rfl) (Nat.le_of_ble_eq_true rfl) (by first | rfl | assumption) (by rfl) ?_
    refine x_iload_n d_PR_printLeaf_15 rfl rfl ?_
    refine x_iald d_PR_printLeaf_16 (Nat.le_of_ble_eq_true rfl) (Nat.le_of_ble_eq_true rfl) (by first | rfl | assumption) (vp_in_nI hy (by decide)) ?_
    refine x_topi (nI v) (by rw [nI_clamp (by omega)]; exact hv0) ?_
    refine x_callV1Y d_PR_printLeaf_17 k_PR_73 (Nat.le_of_ble_eq_true rfl) (Nat.le_of_ble_eq_true rfl) (by first | rfl | assumption) (by rfl) (z_putNumber hra0 hv (by simp only [List.length_append, List.length_cons, List.length_nil]; omega)) (Nat.le_of_ble_eq_true rfl) (Nat.le_of_ble_eq_true rfl) (Nat.le_of_ble_eq_true rfl) (Nat.le_of_ble_eq_true rfl) (Nat.le_of_ble_eq_true rfl) rfl ?_
    refine x_goto 76 d_PR_printLeaf_20 (by decide) ?_
    exact x_return d_PR_printLeaf_76 rfl ⟨rfl, rfl, fun i hi => by rw [List.append_assoc]; rfl, rfl, rfl⟩
set_option maxRecDepth 20000 in
theorem z_leaf5 {E : xR} {h : xH} {ra wc ne : Nat} {S : List Int32} {Lv Wt P0 : Nat → Int32} {sy : Value} {va : Value} {rt : Value} {y : Nat} (hra : ra = 19 ∨ ra = 20) (t5 : h 5 = .inr (3, [.ref 6, .ref 7, .ref 8, .ref 9, .ref 10, .ref 11, .ref 12, .ref 13, .ref 1, sy, va, rt])) (hS : S.length < 2 ^ 27) : x_Mt E M_PR_printLeaf 2 0 0 [.ref 15, .ref 5, .int (nI y), .int 5] 52 (g_zw h ra wc S ne Lv Wt P0) (x_Y none 52 (g_zw h ra wc (S ++ [91, 93]) ne Lv Wt P0)) := by
  have hra0 := hra
  rcases hra with rfl | rfl
  · refine x_Mt.of (by decide) (Nat.le_of_ble_eq_true rfl) ?_
    show x_W E M_PR_printLeaf _ _ 52 (g_zw h 19 wc S ne Lv Wt P0) 0 [(0, .ref 15), (1, .ref 5), (2, .int (nI y)), (3, .int 5)] [] 0 0
    refine x_iload_n d_PR_printLeaf_0 rfl rfl ?_
    refine x_if_ne 23 d_PR_printLeaf_1 (by decide) (fun _ => ?_) (fun z => absurd z (by decide))
    refine x_iload_n d_PR_printLeaf_23 rfl rfl ?_
    refine x_iconst 5 d_PR_printLeaf_24 (by decide) ?_
    refine x_icmp_ne 43 d_PR_printLeaf_25 (by decide) (fun z => absurd (by decide) z) (fun _ => ?_)
    refine x_aload_n d_PR_printLeaf_28 rfl rfl ?_
    refine x_bipush 91 d_PR_printLeaf_29 (by decide) ?_
    refine x_callV1Y d_PR_printLeaf_31 k_PR_54 (Nat.le_of_ble_eq_true rfl) (Nat.le_of_ble_eq_true rfl) (by first | rfl | assumption) (by rfl) (z_put hra0 (by omega)) (Nat.le_of_ble_eq_true rfl) (Nat.le_of_ble_eq_true rfl) (Nat.le_of_ble_eq_true rfl) (Nat.le_of_ble_eq_true rfl) (Nat.le_of_ble_eq_true rfl) rfl ?_
    refine x_aload_n d_PR_printLeaf_34 rfl rfl ?_
    refine x_bipush 93 d_PR_printLeaf_35 (by decide) ?_
    refine x_callV1Y d_PR_printLeaf_37 k_PR_54 (Nat.le_of_ble_eq_true rfl) (Nat.le_of_ble_eq_true rfl) (by first | rfl | assumption) (by rfl) (z_put hra0 (by simp only [List.length_append, List.length_cons, List.length_nil]; omega)) (Nat.le_of_ble_eq_true rfl) (Nat.le_of_ble_eq_true rfl) (Nat.le_of_ble_eq_true rfl) (Nat.le_of_ble_eq_true rfl) (Nat.le_of_ble_eq_true rfl) rfl ?_
    refine x_goto 76 d_PR_printLeaf_40 (by decide) ?_
    exact x_return d_PR_printLeaf_76 rfl ⟨rfl, rfl, fun i hi => by rw [List.append_assoc]; rfl, rfl, rfl⟩
  · refine x_Mt.of (by decide) (Nat.le_of_ble_eq_true rfl) ?_
    show x_W E M_PR_printLeaf _ _ 52 (g_zw h 20 wc S ne Lv Wt P0) 0 [(0, .ref 15), (1, .ref 5), (2, .int (nI y)), (3, .int 5)] [] 0 0
    refine x_iload_n d_PR_printLeaf_0 rfl rfl ?_
    refine x_if_ne 23 d_PR_printLeaf_1 (by decide) (fun _ => ?_) (fun z => absurd z (by decide))
    refine x_iload_n d_PR_printLeaf_23 rfl rfl ?_
    refine x_iconst 5 d_PR_printLeaf_24 (by decide) ?_
    refine x_icmp_ne 43 d_PR_printLeaf_25 (by decide) (fun z => absurd (by decide) z) (fun _ => ?_)
    refine x_aload_n d_PR_printLeaf_28 rfl rfl ?_
    refine x_bipush 91 d_PR_printLeaf_29 (by decide) ?_
    refine x_callV1Y d_PR_printLeaf_31 k_PR_54 (Nat.le_of_ble_eq_true rfl) (Nat.le_of_ble_eq_true rfl) (by first | rfl | assumption) (by rfl) (z_put hra0 (by omega)) (Nat.le_of_ble_eq_true rfl) (Nat.le_of_ble_eq_true rfl) (Nat.le_of_ble_eq_true rfl) (Nat.le_of_ble_eq_true rfl) (Nat.le_of_ble_eq_true rfl) rfl ?_
    refine x_aload_n d_PR_printLeaf_34 rfl rfl ?_
    refine x_bipush 93 d_PR_printLeaf_35 (by decide) ?_
    refine x_callV1Y d_PR_printLeaf_37 k_PR_54 (Nat.le_of_ble_eq_true rfl) (Nat.le_of_ble_eq_true rfl) (by first | rfl | assumption) (by rfl) (z_put hra0 (by simp only [List.length_append, List.length_cons, List.length_nil]; omega)) (Nat.le_of_ble_eq_true rfl) (Nat.le_of_ble_eq_true rfl) (Nat.le_of_ble_eq_true rfl) (Nat.le_of_ble_eq_true rfl) (Nat.le_of_ble_eq_true rfl) rfl ?_
    refine x_goto 76 d_PR_printLeaf_40 (by decide) ?_
    exact x_return d_PR_printLeaf_76 rfl ⟨rfl, rfl, fun i hi => by rw [List.append_assoc]; rfl, rfl, rfl⟩
set_option maxRecDepth 20000 in
theorem z_leaf1 {E : xR} {h : xH} {u : Nat → Nat} {ra wc ne : Nat} {S : List Int32} {Lv Wt P0 : Nat → Int32} {A : Nat → Nat → Int32} {sy : Value} {va : Value} {rt : Value} {y f t : Nat} (hra : ra = 19 ∨ ra = 20) (t5 : h 5 = .inr (3, [.ref 6, .ref 7, .ref 8, .ref 9, .ref 10, .ref 11, .ref 12, .ref 13, .ref 1, sy, va, rt])) (a1 : h 7 = .inl (0, 1001, .inl (A 1))) (a2 : h 8 = .inl (0, 1001, .inl (A 2))) (h1 : h 1 = .inl (1, 4096, .inl (fun i => g_sb (u i)))) (hy : y < 1001) (hf0 : A 1 y = nI f) (ht : A 2 y = nI t) (hft : f ≤ t) (ht4 : t ≤ 4096) (hS : S.length < 2 ^ 27) : x_Mt E M_PR_printLeaf 2 0 0 [.ref 15, .ref 5, .int (nI y), .int 1] 52 (g_zw h ra wc S ne Lv Wt P0) (x_Y none 52 (g_zw h ra wc (S ++ g_tp u (t - f) f) ne Lv Wt P0)) := by
  have hra0 := hra
  rcases hra with rfl | rfl
  · refine x_Mt.of (by decide) (Nat.le_of_ble_eq_true rfl) ?_
    show x_W E M_PR_printLeaf _ _ 52 (g_zw h 19 wc S ne Lv Wt P0) 0 [(0, .ref 15), (1, .ref 5), (2, .int (nI y)), (3, .int 1)] [] 0 0
    refine x_iload_n d_PR_printLeaf_0 rfl rfl ?_
    refine x_if_ne 23 d_PR_printLeaf_1 (by decide) (fun _ => ?_) (fun z => absurd z (by decide))
    refine x_iload_n d_PR_printLeaf_23 rfl rfl ?_
    refine x_iconst 5 d_PR_printLeaf_24 (by decide) ?_
    refine x_icmp_ne 43 d_PR_printLeaf_25 (by decide) (fun _ => ?_) (fun z => absurd z (by decide))
    refine x_iload_n d_PR_printLeaf_43 rfl rfl ?_
    refine x_iconst 2 d_PR_printLeaf_44 (by decide) ?_
    refine x_icmp_ne 70 d_PR_printLeaf_45 (by decide) (fun _ => ?_) (fun z => absurd z (by decide))
    refine x_aload_n d_PR_printLeaf_70 rfl rfl ?_
    refine x_aload_n d_PR_printLeaf_71 rfl rfl ?_
    refine x_iload_n d_PR_printLeaf_72 rfl rfl ?_
    refine x_callV2Y d_PR_printLeaf_73 k_PR_82 (Nat.le_of_ble_eq_true rfl) (Nat.le_of_ble_eq_true rfl) (by first | rfl | assumption) (by rfl) (z_putText hra0 t5 a1 a2 h1 hy hf0 ht hft ht4 (by omega)) (Nat.le_of_ble_eq_true rfl) (Nat.le_of_ble_eq_true rfl) (Nat.le_of_ble_eq_true rfl) (Nat.le_of_ble_eq_true rfl) (Nat.le_of_ble_eq_true rfl) rfl ?_
    exact x_return d_PR_printLeaf_76 rfl ⟨rfl, rfl, fun _ _ => rfl, rfl, rfl⟩
  · refine x_Mt.of (by decide) (Nat.le_of_ble_eq_true rfl) ?_
    show x_W E M_PR_printLeaf _ _ 52 (g_zw h 20 wc S ne Lv Wt P0) 0 [(0, .ref 15), (1, .ref 5), (2, .int (nI y)), (3, .int 1)] [] 0 0
    refine x_iload_n d_PR_printLeaf_0 rfl rfl ?_
    refine x_if_ne 23 d_PR_printLeaf_1 (by decide) (fun _ => ?_) (fun z => absurd z (by decide))
    refine x_iload_n d_PR_printLeaf_23 rfl rfl ?_
    refine x_iconst 5 d_PR_printLeaf_24 (by decide) ?_
    refine x_icmp_ne 43 d_PR_printLeaf_25 (by decide) (fun _ => ?_) (fun z => absurd z (by decide))
    refine x_iload_n d_PR_printLeaf_43 rfl rfl ?_
    refine x_iconst 2 d_PR_printLeaf_44 (by decide) ?_
    refine x_icmp_ne 70 d_PR_printLeaf_45 (by decide) (fun _ => ?_) (fun z => absurd z (by decide))
    refine x_aload_n d_PR_printLeaf_70 rfl rfl ?_
    refine x_aload_n d_PR_printLeaf_71 rfl rfl ?_
    refine x_iload_n d_PR_printLeaf_72 rfl rfl ?_
    refine x_callV2Y d_PR_printLeaf_73 k_PR_82 (Nat.le_of_ble_eq_true rfl) (Nat.le_of_ble_eq_true rfl) (by first | rfl | assumption) (by rfl) (z_putText hra0 t5 a1 a2 h1 hy hf0 ht hft ht4 (by omega)) (Nat.le_of_ble_eq_true rfl) (Nat.le_of_ble_eq_true rfl) (Nat.le_of_ble_eq_true rfl) (Nat.le_of_ble_eq_true rfl) (Nat.le_of_ble_eq_true rfl) rfl ?_
    exact x_return d_PR_printLeaf_76 rfl ⟨rfl, rfl, fun _ _ => rfl, rfl, rfl⟩
set_option maxRecDepth 20000 in
theorem z_leaf2 {E : xR} {h : xH} {u : Nat → Nat} {ra wc ne : Nat} {S : List Int32} {Lv Wt P0 : Nat → Int32} {A : Nat → Nat → Int32} {sy : Value} {va : Value} {rt : Value} {y f t : Nat} (hra : ra = 19 ∨ ra = 20) (t5 : h 5 = .inr (3, [.ref 6, .ref 7, .ref 8, .ref 9, .ref 10, .ref 11, .ref 12, .ref 13, .ref 1, sy, va, rt])) (a1 : h 7 = .inl (0, 1001, .inl (A 1))) (a2 : h 8 = .inl (0, 1001, .inl (A 2))) (h1 : h 1 = .inl (1, 4096, .inl (fun i => g_sb (u i)))) (hy : y < 1001) (hf0 : A 1 y = nI f) (ht : A 2 y = nI t) (hft : f ≤ t) (ht4 : t ≤ 4096) (hS : S.length < 2 ^ 27) (hlt : f < t) : x_Mt E M_PR_printLeaf 2 0 0 [.ref 15, .ref 5, .int (nI y), .int 2] 52 (g_zw h ra wc S ne Lv Wt P0) (x_Y none 52 (g_zw h ra wc (S ++ ((bif !decide (g_sb (u f) = 48) then [45] else []) ++ g_tp u (t - f) f)) ne Lv Wt P0)) := by
  have hra0 := hra
  rcases hra with rfl | rfl
  · refine x_Mt.of (by decide) (Nat.le_of_ble_eq_true rfl) ?_
    show x_W E M_PR_printLeaf _ _ 52 (g_zw h 19 wc S ne Lv Wt P0) 0 [(0, .ref 15), (1, .ref 5), (2, .int (nI y)), (3, .int 2)] [] 0 0
    refine x_iload_n d_PR_printLeaf_0 rfl rfl ?_
    refine x_if_ne 23 d_PR_printLeaf_1 (by decide) (fun _ => ?_) (fun z => absurd z (by decide))
    refine x_iload_n d_PR_printLeaf_23 rfl rfl ?_
    refine x_iconst 5 d_PR_printLeaf_24 (by decide) ?_
    refine x_icmp_ne 43 d_PR_printLeaf_25 (by decide) (fun _ => ?_) (fun z => absurd z (by decide))
    refine x_iload_n d_PR_printLeaf_43 rfl rfl ?_
    refine x_iconst 2 d_PR_printLeaf_44 (by decide) ?_
    refine x_icmp_ne 70 d_PR_printLeaf_45 (by decide) (fun z => absurd (by decide) z) (fun _ => ?_)
    refine x_aload_n d_PR_printLeaf_48 rfl rfl ?_
    refine x_get d_PR_printLeaf_49 f_PR_76 (Nat.le_of_ble_eq_true rfl) (Nat.le_of_ble_eq_true rfl) (by first | rfl | assumption) (by rfl) ?_
    refine x_aload_n d_PR_printLeaf_52 rfl rfl ?_
    refine x_get d_PR_printLeaf_53 f_PR_79 (Nat.le_of_ble_eq_true rfl) (Nat.le_of_ble_eq_true rfl) (by first | rfl | assumption) (by rfl) ?_
    refine x_iload_n d_PR_printLeaf_56 rfl rfl ?_
    refine x_iald d_PR_printLeaf_57 (Nat.le_of_ble_eq_true rfl) (Nat.le_of_ble_eq_true rfl) (by first | rfl | assumption) (vp_in_nI hy (by decide)) ?_
    refine x_topi (nI f) (by rw [nI_clamp (by omega)]; exact hf0) ?_
    refine x_bald d_PR_printLeaf_58 (Nat.le_of_ble_eq_true rfl) (Nat.le_of_ble_eq_true rfl) (by first | rfl | assumption) (vp_in_nI (show f < 4096 by omega) (by decide)) ?_
    refine x_topi (g_sb (u f)) (by rw [nI_clamp (by omega)]) ?_
    refine x_bipush 48 d_PR_printLeaf_59 (by decide) ?_
    refine x_icmp_eq 70 d_PR_printLeaf_61 (by decide) (fun c_61 => ?_) (fun c_61 => ?_)
    · refine x_aload_n d_PR_printLeaf_70 rfl rfl ?_
      refine x_aload_n d_PR_printLeaf_71 rfl rfl ?_
      refine x_iload_n d_PR_printLeaf_72 rfl rfl ?_
      refine x_callV2Y d_PR_printLeaf_73 k_PR_82 (Nat.le_of_ble_eq_true rfl) (Nat.le_of_ble_eq_true rfl) (by first | rfl | assumption) (by rfl) (z_putText hra0 t5 a1 a2 h1 hy hf0 ht hft ht4 (by omega)) (Nat.le_of_ble_eq_true rfl) (Nat.le_of_ble_eq_true rfl) (Nat.le_of_ble_eq_true rfl) (Nat.le_of_ble_eq_true rfl) (Nat.le_of_ble_eq_true rfl) rfl ?_
      exact x_return d_PR_printLeaf_76 rfl ⟨rfl, rfl, fun i hi => by rw [decide_eq_true c_61]; rfl, rfl, rfl⟩
    · refine x_aload_n d_PR_printLeaf_64 rfl rfl ?_
      refine x_bipush 45 d_PR_printLeaf_65 (by decide) ?_
      refine x_callV1Y d_PR_printLeaf_67 k_PR_54 (Nat.le_of_ble_eq_true rfl) (Nat.le_of_ble_eq_true rfl) (by first | rfl | assumption) (by rfl) (z_put hra0 (by omega)) (Nat.le_of_ble_eq_true rfl) (Nat.le_of_ble_eq_true rfl) (Nat.le_of_ble_eq_true rfl) (Nat.le_of_ble_eq_true rfl) (Nat.le_of_ble_eq_true rfl) rfl ?_
      refine x_aload_n d_PR_printLeaf_70 rfl rfl ?_
      refine x_aload_n d_PR_printLeaf_71 rfl rfl ?_
      refine x_iload_n d_PR_printLeaf_72 rfl rfl ?_
      refine x_callV2Y d_PR_printLeaf_73 k_PR_82 (Nat.le_of_ble_eq_true rfl) (Nat.le_of_ble_eq_true rfl) (by first | rfl | assumption) (by rfl) (z_putText hra0 t5 a1 a2 h1 hy hf0 ht hft ht4 (by simp only [List.length_append, List.length_cons, List.length_nil]; omega)) (Nat.le_of_ble_eq_true rfl) (Nat.le_of_ble_eq_true rfl) (Nat.le_of_ble_eq_true rfl) (Nat.le_of_ble_eq_true rfl) (Nat.le_of_ble_eq_true rfl) rfl ?_
      exact x_return d_PR_printLeaf_76 rfl ⟨rfl, rfl, fun i hi => by rw [decide_eq_false c_61, List.append_assoc]; rfl, rfl, rfl⟩
  · refine x_Mt.of (by decide) (Nat.le_of_ble_eq_true rfl) ?_
    show x_W E M_PR_printLeaf _ _ 52 (g_zw h 20 wc S ne Lv Wt P0) 0 [(0, .ref 15), (1, .ref 5), (2, .int (nI y)), (3, .int 2)] [] 0 0
    refine x_iload_n d_PR_printLeaf_0 rfl rfl ?_
    refine x_if_ne 23 d_PR_printLeaf_1 (by decide) (fun _ => ?_) (fun z => absurd z (by decide))
    refine x_iload_n d_PR_printLeaf_23 rfl rfl ?_
    refine x_iconst 5 d_PR_printLeaf_24 (by decide) ?_
    refine x_icmp_ne 43 d_PR_printLeaf_25 (by decide) (fun _ => ?_) (fun z => absurd z (by decide))
    refine x_iload_n d_PR_printLeaf_43 rfl rfl ?_
    refine x_iconst 2 d_PR_printLeaf_44 (by decide) ?_
    refine x_icmp_ne 70 d_PR_printLeaf_45 (by decide) (fun z => absurd (by decide) z) (fun _ => ?_)
    refine x_aload_n d_PR_printLeaf_48 rfl rfl ?_
    refine x_get d_PR_printLeaf_49 f_PR_76 (Nat.le_of_ble_eq_true rfl) (Nat.le_of_ble_eq_true rfl) (by first | rfl | assumption) (by rfl) ?_
    refine x_aload_n d_PR_printLeaf_52 rfl rfl ?_
    refine x_get d_PR_printLeaf_53 f_PR_79 (Nat.le_of_ble_eq_true rfl) (Nat.le_of_ble_eq_true rfl) (by first | rfl | assumption) (by rfl) ?_
    refine x_iload_n d_PR_printLeaf_56 rfl rfl ?_
    refine x_iald d_PR_printLeaf_57 (Nat.le_of_ble_eq_true rfl) (Nat.le_of_ble_eq_true rfl) (by first | rfl | assumption) (vp_in_nI hy (by decide)) ?_
    refine x_topi (nI f) (by rw [nI_clamp (by omega)]; exact hf0) ?_
    refine x_bald d_PR_printLeaf_58 (Nat.le_of_ble_eq_true rfl) (Nat.le_of_ble_eq_true rfl) (by first | rfl | assumption) (vp_in_nI (show f < 4096 by omega) (by decide)) ?_
    refine x_topi (g_sb (u f)) (by rw [nI_clamp (by omega)]) ?_
    refine x_bipush 48 d_PR_printLeaf_59 (by decide) ?_
    refine x_icmp_eq 70 d_PR_printLeaf_61 (by decide) (fun c_61 => ?_) (fun c_61 => ?_)
    · refine x_aload_n d_PR_printLeaf_70 rfl rfl ?_
      refine x_aload_n d_PR_printLeaf_71 rfl rfl ?_
      refine x_iload_n d_PR_printLeaf_72 rfl rfl ?_
      refine x_callV2Y d_PR_printLeaf_73 k_PR_82 (Nat.le_of_ble_eq_true rfl) (Nat.le_of_ble_eq_true rfl) (by first | rfl | assumption) (by rfl) (z_putText hra0 t5 a1 a2 h1 hy hf0 ht hft ht4 (by omega)) (Nat.le_of_ble_eq_true rfl) (Nat.le_of_ble_eq_true rfl) (Nat.le_of_ble_eq_true rfl) (Nat.le_of_ble_eq_true rfl) (Nat.le_of_ble_eq_true rfl) rfl ?_
      exact x_return d_PR_printLeaf_76 rfl ⟨rfl, rfl, fun i hi => by rw [decide_eq_true c_61]; rfl, rfl, rfl⟩
    · refine x_aload_n d_PR_printLeaf_64 rfl rfl ?_
      refine x_bipush 45 d_PR_printLeaf_65 (by decide) ?_
      refine x_callV1Y d_PR_printLeaf_67 k_PR_54 (Nat.le_of_ble_eq_true rfl) (Nat.le_of_ble_eq_true rfl) (by first | rfl | assumption) (by rfl) (z_put hra0 (by omega)) (Nat.le_of_ble_eq_true rfl) (Nat.le_of_ble_eq_true rfl) (Nat.le_of_ble_eq_true rfl) (Nat.le_of_ble_eq_true rfl) (Nat.le_of_ble_eq_true rfl) rfl ?_
      refine x_aload_n d_PR_printLeaf_70 rfl rfl ?_
      refine x_aload_n d_PR_printLeaf_71 rfl rfl ?_
      refine x_iload_n d_PR_printLeaf_72 rfl rfl ?_
      refine x_callV2Y d_PR_printLeaf_73 k_PR_82 (Nat.le_of_ble_eq_true rfl) (Nat.le_of_ble_eq_true rfl) (by first | rfl | assumption) (by rfl) (z_putText hra0 t5 a1 a2 h1 hy hf0 ht hft ht4 (by simp only [List.length_append, List.length_cons, List.length_nil]; omega)) (Nat.le_of_ble_eq_true rfl) (Nat.le_of_ble_eq_true rfl) (Nat.le_of_ble_eq_true rfl) (Nat.le_of_ble_eq_true rfl) (Nat.le_of_ble_eq_true rfl) rfl ?_
      exact x_return d_PR_printLeaf_76 rfl ⟨rfl, rfl, fun i hi => by rw [decide_eq_false c_61, List.append_assoc]; rfl, rfl, rfl⟩
theorem z_leaf {E : xR} {h : xH} {u : Nat → Nat} {ra wc ne : Nat} {S : List Int32} {Lv Wt P0 : Nat → Int32} {A : Nat → Nat → Int32} {sy va rt : Value} {N y L : Nat} {kids : Std.Format} (hra : ra = 19 ∨ ra = 20) (t5 : h 5 = .inr (3, [.ref 6, .ref 7, .ref 8, .ref 9, .ref 10, .ref 11, .ref 12, .ref 13, .ref 1, sy, va, rt])) (a1 : h 7 = .inl (0, 1001, .inl (A 1))) (a2 : h 8 = .inl (0, 1001, .inl (A 2))) (a6 : h 12 = .inl (0, 1001, .inl (A 6))) (h1 : h 1 = .inl (1, 4096, .inl (fun i => g_sb (u i)))) (hy : y < 1001) (hr : g_row A y L) (hl : g_lk u N L kids) (hN : N ≤ 4096) (hv : L % 8 = 0 → g_fR L < 1000) (h3 : L % 8 ≠ 3) (h4 : L % 8 ≠ 4) (hS : S.length < 2 ^ 27) : x_Mt E M_PR_printLeaf 2 0 0 [.ref 15, .ref 5, .int (nI y), .int (nI (L % 8))] 52 (g_zw h ra wc S ne Lv Wt P0) (x_Y none 52 (g_zw h ra wc (S ++ g_lF u L) ne Lv Wt P0)) := by
  have h5 := (g_lk5 hl).1
  unfold g_lF
  rcases (by omega : L % 8 = 0 ∨ L % 8 = 1 ∨ L % 8 = 2 ∨ L % 8 = 5) with q | q | q | q
  · rw [if_pos q, q]
    exact z_leaf0 hra t5 a6 hy (hr.2.1 q) (hv q) hS
  · have hb := g_lkT hl (by omega)
    have ht := hr.2.2 (by omega)
    rw [if_neg (by omega), if_neg (by omega), q]
    exact z_leaf1 hra t5 a1 a2 h1 hy ht.1 ht.2 hb.1 (by omega) hS
  · have hb := g_lkT hl (by omega)
    have ht := hr.2.2 (by omega)
    have hlt := g_lk2 hl (Or.inr q)
    rw [if_neg (by omega), if_neg (by omega), q]
    exact z_leaf2 hra t5 a1 a2 h1 hy ht.1 ht.2 hb.1 (by omega) hS hlt
  · rw [if_neg (by omega), if_pos q, q]
    exact z_leaf5 hra t5 hS
