/-- bytes onto the paper, one after another -/
def g_ps (P : Nat → Int32) (n : Nat) : List Int32 → Nat → Int32
  | [] => P
  | c :: l => g_ps (g_pp P n c) (n + 1) l
theorem g_ps_app (l' : List Int32) : ∀ (l : List Int32) (P : Nat → Int32) (n : Nat), g_ps P n (l ++ l') = g_ps (g_ps P n l) (n + l.length) l'
  | [], P, n => rfl
  | c :: l, P, n => by
    rw [List.cons_append, g_ps, g_ps_app l' l, g_ps, List.length_cons, Nat.add_right_comm n 1, ← Nat.add_assoc]
/-- the bytes of the tape from i on -/
def g_tp (u : Nat → Nat) : Nat → Nat → List Int32
  | 0, _ => []
  | m + 1, i => g_sb (u i) :: g_tp u m (i + 1)
theorem g_tp_len (u : Nat → Nat) : ∀ m i, (g_tp u m i).length = m
  | 0, _ => rfl
  | m + 1, i => by rw [g_tp, List.length_cons, g_tp_len u m]
theorem d_PR_putText_0 : decode M_PR_putText.2.1 0 = .ok (.aload_n 1, 1) := by decide +kernel
theorem d_PR_putText_1 : decode M_PR_putText.2.1 1 = .ok (.getfield 79, 3) := by decide +kernel
theorem d_PR_putText_4 : decode M_PR_putText.2.1 4 = .ok (.iload_n 2, 1) := by decide +kernel
theorem d_PR_putText_5 : decode M_PR_putText.2.1 5 = .ok (.iaload, 1) := by decide +kernel
theorem d_PR_putText_6 : decode M_PR_putText.2.1 6 = .ok (.istore_n 3, 1) := by decide +kernel
theorem d_PR_putText_7 : decode M_PR_putText.2.1 7 = .ok (.iload_n 3, 1) := by decide +kernel
theorem d_PR_putText_8 : decode M_PR_putText.2.1 8 = .ok (.aload_n 1, 1) := by decide +kernel
theorem d_PR_putText_9 : decode M_PR_putText.2.1 9 = .ok (.getfield 94, 3) := by decide +kernel
theorem d_PR_putText_12 : decode M_PR_putText.2.1 12 = .ok (.iload_n 2, 1) := by decide +kernel
theorem d_PR_putText_13 : decode M_PR_putText.2.1 13 = .ok (.iaload, 1) := by decide +kernel
theorem d_PR_putText_14 : decode M_PR_putText.2.1 14 = .ok (.if_icmp .ge 19, 3) := by decide +kernel
theorem d_PR_putText_17 : decode M_PR_putText.2.1 17 = .ok (.aload_n 0, 1) := by decide +kernel
theorem d_PR_putText_18 : decode M_PR_putText.2.1 18 = .ok (.aload_n 1, 1) := by decide +kernel
theorem d_PR_putText_19 : decode M_PR_putText.2.1 19 = .ok (.getfield 76, 3) := by decide +kernel
theorem d_PR_putText_22 : decode M_PR_putText.2.1 22 = .ok (.iload_n 3, 1) := by decide +kernel
theorem d_PR_putText_23 : decode M_PR_putText.2.1 23 = .ok (.baload, 1) := by decide +kernel
theorem d_PR_putText_24 : decode M_PR_putText.2.1 24 = .ok (.invokevirtual 54, 3) := by decide +kernel
theorem d_PR_putText_27 : decode M_PR_putText.2.1 27 = .ok (.iinc 3 1, 3) := by decide +kernel
theorem d_PR_putText_30 : decode M_PR_putText.2.1 30 = .ok (.goto (-23), 3) := by decide +kernel
theorem d_PR_putText_33 : decode M_PR_putText.2.1 33 = .ok (.return_, 1) := by decide +kernel
set_option maxRecDepth 20000 in
theorem w_PR_putLoop {E : xR} {h : xH} {u : Nat → Nat} {ra : Nat} {wc ne : Int32} {Lv Wt : Nat → Int32} {A : Nat → Nat → Int32} {sy va rt : Value} {y f t L : Nat} {P1 : Nat → Int32} (hra : ra = 19 ∨ ra = 20) (t5 : h 5 = .inr (3, [.ref 6, .ref 7, .ref 8, .ref 9, .ref 10, .ref 11, .ref 12, .ref 13, .ref 1, sy, va, rt])) (a1 : h 7 = .inl (0, 1001, .inl (A 1))) (a2 : h 8 = .inl (0, 1001, .inl (A 2))) (h1 : h 1 = .inl (1, 4096, .inl (fun i => g_sb (u i)))) (hy : y < 1001) (ht : A 2 y = nI t) (ht4 : t ≤ 4096) : ∀ (m i ln : Nat) (Pp : Nat → Int32), i + m = t → ln + m < 2 ^ 30 → ln + m = L → g_ps Pp ln (g_tp u m i) = P1 → x_W E M_PR_putText (x_room 1 0 0) (x_Y none 52 (g_qw h ra wc (nI L) ne Lv Wt P1)) 52 (g_qw h ra wc (nI ln) ne Lv Wt Pp) 7 [(0, .ref 15), (1, .ref 5), (2, .int (nI y)), (3, .int (nI i))] [] 0 0 := by
  have hra0 := hra
  intro m
  rcases hra with rfl | rfl
  · induction m with
    | zero =>
      intro i ln Pp hi hl hL hP
      obtain rfl : i = t := by omega
      obtain rfl : ln = L := by omega
      obtain rfl : Pp = P1 := hP
      refine x_iload_n d_PR_putText_7 rfl rfl ?_
      refine x_aload_n d_PR_putText_8 rfl rfl ?_
      refine x_get d_PR_putText_9 f_PR_94 (Nat.le_of_ble_eq_true rfl) (Nat.le_of_ble_eq_true rfl) (by first | rfl | assumption) (by rfl) ?_
      refine x_iload_n d_PR_putText_12 rfl rfl ?_
      refine x_iald d_PR_putText_13 (Nat.le_of_ble_eq_true rfl) (Nat.le_of_ble_eq_true rfl) (by first | rfl | assumption) (vp_in_nI hy (by decide)) ?_
      refine x_topi (nI i) (by rw [nI_clamp (by omega)]; exact ht) ?_
      refine x_icmp_ge 33 d_PR_putText_14 (by decide) (fun _ => ?_) (fun z => absurd (nI_le (Nat.le_refl _) (by omega)) z)
      exact x_return d_PR_putText_33 rfl ⟨rfl, rfl, fun _ _ => rfl, rfl, rfl⟩
    | succ m ih =>
      intro i ln Pp hi hl hL hP
      rw [g_tp, g_ps] at hP
      refine x_iload_n d_PR_putText_7 rfl rfl ?_
      refine x_aload_n d_PR_putText_8 rfl rfl ?_
      refine x_get d_PR_putText_9 f_PR_94 (Nat.le_of_ble_eq_true rfl) (Nat.le_of_ble_eq_true rfl) (by first | rfl | assumption) (by rfl) ?_
      refine x_iload_n d_PR_putText_12 rfl rfl ?_
      refine x_iald d_PR_putText_13 (Nat.le_of_ble_eq_true rfl) (Nat.le_of_ble_eq_true rfl) (by first | rfl | assumption) (vp_in_nI hy (by decide)) ?_
      refine x_topi (nI t) (by rw [nI_clamp (by omega)]; exact ht) ?_
      refine x_icmp_ge 33 d_PR_putText_14 (by decide) (fun z => absurd z (nI_ge (by omega) (by omega))) (fun _ => ?_)
      refine x_aload_n d_PR_putText_17 rfl rfl ?_
      refine x_aload_n d_PR_putText_18 rfl rfl ?_
      refine x_get d_PR_putText_19 f_PR_76 (Nat.le_of_ble_eq_true rfl) (Nat.le_of_ble_eq_true rfl) (by first | rfl | assumption) (by rfl) ?_
      refine x_iload_n d_PR_putText_22 rfl rfl ?_
      refine x_bald d_PR_putText_23 (Nat.le_of_ble_eq_true rfl) (Nat.le_of_ble_eq_true rfl) (by first | rfl | assumption) (vp_in_nI (show i < 4096 by omega) (by decide)) ?_
      refine x_topi (g_sb (u i)) (by rw [nI_clamp (by omega)]) ?_
      refine x_callV1Y d_PR_putText_24 k_PR_54 (Nat.le_of_ble_eq_true rfl) (Nat.le_of_ble_eq_true rfl) (by first | rfl | assumption) (by rfl) (w_PR_put hra0 (by omega)) (Nat.le_of_ble_eq_true rfl) (Nat.le_of_ble_eq_true rfl) (Nat.le_of_ble_eq_true rfl) (Nat.le_of_ble_eq_true rfl) (Nat.le_of_ble_eq_true rfl) rfl ?_
      refine x_iinc d_PR_putText_27 rfl 1 (by decide) (Nat.le_of_ble_eq_true rfl) ?_
      refine x_goto 7 d_PR_putText_30 (by decide) ?_
      refine x_lv [(0, .ref 15), (1, .ref 5), (2, .int (nI y)), (3, .int (nI (i + 1)))] (by rw [nI_succ i]; rfl) ?_
      exact ih (i + 1) (ln + 1) _ (by omega) (by omega) (by omega) hP
  · induction m with
    | zero =>
      intro i ln Pp hi hl hL hP
      obtain rfl : i = t := by omega
      obtain rfl : ln = L := by omega
      obtain rfl : Pp = P1 := hP
      refine x_iload_n d_PR_putText_7 rfl rfl ?_
      refine x_aload_n d_PR_putText_8 rfl rfl ?_
      refine x_get d_PR_putText_9 f_PR_94 (Nat.le_of_ble_eq_true rfl) (Nat.le_of_ble_eq_true rfl) (by first | rfl | assumption) (by rfl) ?_
      refine x_iload_n d_PR_putText_12 rfl rfl ?_
      refine x_iald d_PR_putText_13 (Nat.le_of_ble_eq_true rfl) (Nat.le_of_ble_eq_true rfl) (by first | rfl | assumption) (vp_in_nI hy (by decide)) ?_
      refine x_topi (nI i) (by rw [nI_clamp (by omega)]; exact ht) ?_
      refine x_icmp_ge 33 d_PR_putText_14 (by decide) (fun _ => ?_) (fun z => absurd (nI_le (Nat.le_refl _) (by omega)) z)
      exact x_return d_PR_putText_33 rfl ⟨rfl, rfl, fun _ _ => rfl, rfl, rfl⟩
    | succ m ih =>
      intro i ln Pp hi hl hL hP
      rw [g_tp, g_ps] at hP
      refine x_iload_n d_PR_putText_7 rfl rfl ?_
      refine x_aload_n d_PR_putText_8 rfl rfl ?_
      refine x_get d_PR_putText_9 f_PR_94 (Nat.le_of_ble_eq_true rfl) (Nat.le_of_ble_eq_true rfl) (by first | rfl | assumption) (by rfl) ?_
      refine x_iload_n d_PR_putText_12 rfl rfl ?_
      refine x_iald d_PR_putText_13 (Nat.le_of_ble_eq_true rfl) (Nat.le_of_ble_eq_true rfl) (by first | rfl | assumption) (vp_in_nI hy (by decide)) ?_
      refine x_topi (nI t) (by rw [nI_clamp (by omega)]; exact ht) ?_
      refine x_icmp_ge 33 d_PR_putText_14 (by decide) (fun z => absurd z (nI_ge (by omega) (by omega))) (fun _ => ?_)
      refine x_aload_n d_PR_putText_17 rfl rfl ?_
      refine x_aload_n d_PR_putText_18 rfl rfl ?_
      refine x_get d_PR_putText_19 f_PR_76 (Nat.le_of_ble_eq_true rfl) (Nat.le_of_ble_eq_true rfl) (by first | rfl | assumption) (by rfl) ?_
      refine x_iload_n d_PR_putText_22 rfl rfl ?_
      refine x_bald d_PR_putText_23 (Nat.le_of_ble_eq_true rfl) (Nat.le_of_ble_eq_true rfl) (by first | rfl | assumption) (vp_in_nI (show i < 4096 by omega) (by decide)) ?_
      refine x_topi (g_sb (u i)) (by rw [nI_clamp (by omega)]) ?_
      refine x_callV1Y d_PR_putText_24 k_PR_54 (Nat.le_of_ble_eq_true rfl) (Nat.le_of_ble_eq_true rfl) (by first | rfl | assumption) (by rfl) (w_PR_put hra0 (by omega)) (Nat.le_of_ble_eq_true rfl) (Nat.le_of_ble_eq_true rfl) (Nat.le_of_ble_eq_true rfl) (Nat.le_of_ble_eq_true rfl) (Nat.le_of_ble_eq_true rfl) rfl ?_
      refine x_iinc d_PR_putText_27 rfl 1 (by decide) (Nat.le_of_ble_eq_true rfl) ?_
      refine x_goto 7 d_PR_putText_30 (by decide) ?_
      refine x_lv [(0, .ref 15), (1, .ref 5), (2, .int (nI y)), (3, .int (nI (i + 1)))] (by rw [nI_succ i]; rfl) ?_
      exact ih (i + 1) (ln + 1) _ (by omega) (by omega) (by omega) hP
set_option maxRecDepth 20000 in
theorem w_PR_putText {E : xR} {h : xH} {u : Nat → Nat} {ra : Nat} {wc ne : Int32} {Lv Wt : Nat → Int32} {A : Nat → Nat → Int32} {sy va rt : Value} {y f t ln : Nat} {Pp : Nat → Int32} (hra : ra = 19 ∨ ra = 20) (t5 : h 5 = .inr (3, [.ref 6, .ref 7, .ref 8, .ref 9, .ref 10, .ref 11, .ref 12, .ref 13, .ref 1, sy, va, rt])) (a1 : h 7 = .inl (0, 1001, .inl (A 1))) (a2 : h 8 = .inl (0, 1001, .inl (A 2))) (h1 : h 1 = .inl (1, 4096, .inl (fun i => g_sb (u i)))) (hy : y < 1001) (hf0 : A 1 y = nI f) (ht : A 2 y = nI t) (hft : f ≤ t) (ht4 : t ≤ 4096) (hl : ln < 2 ^ 29) : x_Mt E M_PR_putText 1 0 0 [.ref 15, .ref 5, .int (nI y)] 52 (g_qw h ra wc (nI ln) ne Lv Wt Pp) (x_Y none 52 (g_qw h ra wc (nI (ln + (t - f))) ne Lv Wt (g_ps Pp ln (g_tp u (t - f) f)))) := by
  have hra0 := hra
  rcases hra with rfl | rfl
  · refine x_Mt.of (by decide) (Nat.le_of_ble_eq_true rfl) ?_
    show x_W E M_PR_putText _ _ 52 (g_qw h 19 wc (nI ln) ne Lv Wt Pp) 0 [(0, .ref 15), (1, .ref 5), (2, .int (nI y))] [] 0 0
    refine x_aload_n d_PR_putText_0 rfl rfl ?_
    refine x_get d_PR_putText_1 f_PR_79 (Nat.le_of_ble_eq_true rfl) (Nat.le_of_ble_eq_true rfl) (by first | rfl | assumption) (by rfl) ?_
    refine x_iload_n d_PR_putText_4 rfl rfl ?_
    refine x_iald d_PR_putText_5 (Nat.le_of_ble_eq_true rfl) (Nat.le_of_ble_eq_true rfl) (by first | rfl | assumption) (vp_in_nI hy (by decide)) ?_
    refine x_topi (nI f) (by rw [nI_clamp (by omega)]; exact hf0) ?_
    refine x_istore_n d_PR_putText_6 rfl (Nat.le_of_ble_eq_true rfl) ?_
    exact w_PR_putLoop (f := f) hra0 t5 a1 a2 h1 hy ht ht4 (t - f) f ln Pp (by omega) (by omega) rfl rfl
  · refine x_Mt.of (by decide) (Nat.le_of_ble_eq_true rfl) ?_
    show x_W E M_PR_putText _ _ 52 (g_qw h 20 wc (nI ln) ne Lv Wt Pp) 0 [(0, .ref 15), (1, .ref 5), (2, .int (nI y))] [] 0 0
    refine x_aload_n d_PR_putText_0 rfl rfl ?_
    refine x_get d_PR_putText_1 f_PR_79 (Nat.le_of_ble_eq_true rfl) (Nat.le_of_ble_eq_true rfl) (by first | rfl | assumption) (by rfl) ?_
    refine x_iload_n d_PR_putText_4 rfl rfl ?_
    refine x_iald d_PR_putText_5 (Nat.le_of_ble_eq_true rfl) (Nat.le_of_ble_eq_true rfl) (by first | rfl | assumption) (vp_in_nI hy (by decide)) ?_
    refine x_topi (nI f) (by rw [nI_clamp (by omega)]; exact hf0) ?_
    refine x_istore_n d_PR_putText_6 rfl (Nat.le_of_ble_eq_true rfl) ?_
    exact w_PR_putLoop (f := f) hra0 t5 a1 a2 h1 hy ht ht4 (t - f) f ln Pp (by omega) (by omega) rfl rfl
