theorem x_Mt.same {E : xR} {M : xM} {d kc ks : Nat} {av : List Value} {n : Nat} {h h' : xH} {Q : xK} (he : ∀ k, k < n → h k = h' k) (hm : x_Mt E M d kc ks av n h' Q) : x_Mt E M d kc ks av n h Q := by
  have hw : x_ws E n h = x_ws E n h' := by
    unfold x_ws
    refine List.map_congr_left fun q hq => ?_
    rw [he q (List.mem_range.mp hq)]
  have hU : ∀ U, x_U E n h U = x_U E n h' U := by
    intro U
    unfold x_U x_P
    rw [hw]
  unfold x_Mt at hm ⊢
  simp only [hU]
  exact hm
theorem x_Yw {v : Option Value} {h1 h2 : xH} (he : ∀ i, i < 52 → h1 i = h2 i) : ∀ o n h k j, x_Y v 52 h1 o n h k j → x_Y v 52 h2 o n h k j := fun _ _ _ _ _ ⟨a, b, c, d, e⟩ => ⟨a, b, fun i hi => (c i hi).trans (he i hi), d, e⟩
/-- the names stand in this world -/
def g_HN (W : xH) (T : List (List Int32)) (Na : Nat → Nat → Int32) : Prop := (W 31 = .inr (7, [.ref 32, .ref 33, .ref 34, .ref 35, .int (nI T.length), .int (nI (g_tot T))]) ∧ W 32 = .inl (1, 5000, .inl (Na 0)) ∧ W 33 = .inl (0, 9001, .inl (Na 1)) ∧ W 34 = .inl (0, 9000, .inl (Na 2)) ∧ W 35 = .inl (0, 1024, .inl (Na 3))) ∧ g_NB T Na ∧ g_tot T ≤ 5000
/-- and the terms -/
def g_HT (W : xH) (B : Nat → Nat → Int32) (Nm : Nat → Int64) (z q : Int32) : Prop := W 24 = .inr (6, [.ref 25, .ref 26, .ref 27, .ref 28, .ref 29, .ref 30, .int z, .int q]) ∧ W 25 = .inl (0, 9000, .inl (B 0)) ∧ W 26 = .inl (0, 9000, .inl (B 1)) ∧ W 27 = .inl (0, 9000, .inl (B 2)) ∧ W 28 = .inl (0, 9000, .inl (B 3)) ∧ W 29 = .inl (0, 9000, .inl (B 4)) ∧ W 30 = .inl (2, 9000, .inr (.inl Nm))
set_option maxRecDepth 20000 in
theorem g_HNe {W : xH} {T : List (List Int32)} {Na : Nat → Nat → Int32} (h : g_HN W T Na) : ∀ i, i < 52 → W i = g_nw W (nI T.length) (nI (g_tot T)) (Na 0) (Na 1) (Na 2) (Na 3) i := by
  obtain ⟨⟨h31, n0, n1, n2, n3⟩, -⟩ := h
  exact x_pt rfl rfl rfl rfl rfl rfl rfl rfl rfl rfl rfl rfl rfl rfl rfl rfl rfl rfl rfl rfl rfl rfl rfl rfl rfl rfl rfl rfl rfl rfl rfl h31 n0 n1 n2 n3 rfl rfl rfl rfl rfl rfl rfl rfl rfl rfl rfl rfl rfl rfl rfl rfl
set_option maxRecDepth 20000 in
theorem g_HTe {W : xH} {B : Nat → Nat → Int32} {Nm : Nat → Int64} {z q : Int32} (h : g_HT W B Nm z q) : ∀ i, i < 52 → W i = g_ew W B Nm z q i := by
  obtain ⟨h24, b0, b1, b2, b3, b4, b5⟩ := h
  exact x_pt rfl rfl rfl rfl rfl rfl rfl rfl rfl rfl rfl rfl rfl rfl rfl rfl rfl rfl rfl rfl rfl rfl rfl rfl h24 b0 b1 b2 b3 b4 b5 rfl rfl rfl rfl rfl rfl rfl rfl rfl rfl rfl rfl rfl rfl rfl rfl rfl rfl rfl rfl rfl
theorem q_length {E : xR} {W : xH} {T : List (List Int32)} {Na : Nat → Nat → Int32} {k : Nat} {w : List Int32} (h : g_HN W T Na) (hk : g_nt T k = some w) (hk9 : k < 9000) : x_Mt E M_NA_length 0 0 0 [.ref 31, .int (nI k)] 52 W (x_Y (some (.int (nI w.length))) 52 W) :=
  x_Mt.same (g_HNe h) (x_Mt.post (x_Yw fun i hi => (g_HNe h i hi).symm) (w_NA_length h.2.1.1 hk hk9 h.2.2))
theorem q_at {E : xR} {W : xH} {T : List (List Int32)} {Na : Nat → Nat → Int32} {k i : Nat} {w : List Int32} (h : g_HN W T Na) (hk : g_nt T k = some w) (hk9 : k < 9000) (hi : i < w.length) : x_Mt E M_NA_at 0 0 0 [.ref 31, .int (nI k), .int (nI i)] 52 W (x_Y (some (.int w[i])) 52 W) :=
  x_Mt.same (g_HNe h) (x_Mt.post (x_Yw fun i hi => (g_HNe h i hi).symm) (w_NA_at h.2.1.1 hk hk9 h.2.2 hi))
theorem q_spells {E : xR} {W : xH} {T : List (List Int32)} {Na : Nat → Nat → Int32} {k s : Nat} {w : List Int32} (h : g_HN W T Na) (hk : g_nt T k = some w) (hk9 : k < 9000) (hs : s < 33) : x_Mt E M_NA_spells 4 0 0 [.ref 31, .int (nI k), .ref (2000000 + s)] 52 W (x_Y (some (.int (g_b2 (decide (w = x_bytS.getD s []))))) 52 W) :=
  x_Mt.same (g_HNe h) (x_Mt.post (x_Yw fun i hi => (g_HNe h i hi).symm) (w_NA_spells h.2.1.1 hk hk9 h.2.2 hs))
theorem q_part {E : xR} {W : xH} {B : Nat → Nat → Int32} {Nm : Nat → Int64} {z q : Int32} {r f i : Nat} (h : g_HT W B Nm z q) (hr : r < 9000) (hf : B 2 r = nI f) (hfi : f + i < 9000) : x_Mt E M_TS_part 0 0 0 [.ref 24, .int (nI r), .int (nI i)] 52 W (x_Y (some (.int (B 4 (f + i)))) 52 W) :=
  x_Mt.same (g_HTe h) (x_Mt.post (x_Yw fun i hi => (g_HTe h i hi).symm) (w_TS_part hr hf hfi))
/-- the reference's paper: S is printed so far, n variables are seen -/
def g_yw (h : xH) (S : List Int32) (n : Nat) (Wk Nx Sn P0 : Nat → Int32) : xH := x_up (x_up (x_up (x_up (x_up h 44 (.inr (9, [.ref 45, .ref 46, .ref 47, .ref 48, .int (nI (min S.length 4096)), .int (g_b2 (decide (4096 < S.length))), .int (nI n)]))) 45 (.inl (1, 4096, .inl (g_ps P0 0 S)))) 46 (.inl (0, 9000, .inl Wk))) 47 (.inl (0, 9000, .inl Nx))) 48 (.inl (0, 4200, .inl Sn))
theorem g_ywp {P0 : Nat → Int32} {S : List Int32} {c : Int32} : g_ps P0 0 (S ++ [c]) = g_pp (g_ps P0 0 S) S.length c := by rw [g_ps_app, Nat.zero_add]; rfl
theorem d_PP_put_0 : decode M_PP_put.2.1 0 = .ok (.aload_n 0, 1) := by decide +kernel
theorem d_PP_put_1 : decode M_PP_put.2.1 1 = .ok (.getfield 25, 3) := by decide +kernel
theorem d_PP_put_4 : decode M_PP_put.2.1 4 = .ok (.sipush 4096, 3) := by decide +kernel
theorem d_PP_put_7 : decode M_PP_put.2.1 7 = .ok (.if_icmp .ne 8, 3) := by decide +kernel
theorem d_PP_put_10 : decode M_PP_put.2.1 10 = .ok (.aload_n 0, 1) := by decide +kernel
theorem d_PP_put_11 : decode M_PP_put.2.1 11 = .ok (.iconst 1, 1) := by decide +kernel
theorem d_PP_put_12 : decode M_PP_put.2.1 12 = .ok (.putfield 29, 3) := by decide +kernel
theorem d_PP_put_15 : decode M_PP_put.2.1 15 = .ok (.aload_n 0, 1) := by decide +kernel
theorem d_PP_put_16 : decode M_PP_put.2.1 16 = .ok (.getfield 29, 3) := by decide +kernel
theorem d_PP_put_19 : decode M_PP_put.2.1 19 = .ok (.ifCond .eq 4, 3) := by decide +kernel
theorem d_PP_put_22 : decode M_PP_put.2.1 22 = .ok (.return_, 1) := by decide +kernel
theorem d_PP_put_23 : decode M_PP_put.2.1 23 = .ok (.aload_n 0, 1) := by decide +kernel
theorem d_PP_put_24 : decode M_PP_put.2.1 24 = .ok (.getfield 9, 3) := by decide +kernel
theorem d_PP_put_27 : decode M_PP_put.2.1 27 = .ok (.aload_n 0, 1) := by decide +kernel
theorem d_PP_put_28 : decode M_PP_put.2.1 28 = .ok (.getfield 25, 3) := by decide +kernel
theorem d_PP_put_31 : decode M_PP_put.2.1 31 = .ok (.iload_n 1, 1) := by decide +kernel
theorem d_PP_put_32 : decode M_PP_put.2.1 32 = .ok (.i2b, 1) := by decide +kernel
theorem d_PP_put_33 : decode M_PP_put.2.1 33 = .ok (.bastore, 1) := by decide +kernel
theorem d_PP_put_34 : decode M_PP_put.2.1 34 = .ok (.aload_n 0, 1) := by decide +kernel
theorem d_PP_put_35 : decode M_PP_put.2.1 35 = .ok (.dup, 1) := by decide +kernel
theorem d_PP_put_36 : decode M_PP_put.2.1 36 = .ok (.getfield 25, 3) := by decide +kernel
theorem d_PP_put_39 : decode M_PP_put.2.1 39 = .ok (.iconst 1, 1) := by decide +kernel
theorem d_PP_put_40 : decode M_PP_put.2.1 40 = .ok (.iadd, 1) := by decide +kernel
theorem d_PP_put_41 : decode M_PP_put.2.1 41 = .ok (.putfield 25, 3) := by decide +kernel
theorem d_PP_put_44 : decode M_PP_put.2.1 44 = .ok (.return_, 1) := by decide +kernel
set_option maxRecDepth 20000 in
theorem w_PP_put {E : xR} {h : xH} {S : List Int32} {n : Nat} {Wk Nx Sn P0 : Nat → Int32} {c : Int32} : x_Mt E M_PP_put 0 0 0 [.ref 44, .int c] 52 (g_yw h S n Wk Nx Sn P0) (x_Y none 52 (g_yw h (S ++ [c]) n Wk Nx Sn P0)) := by
  have hlen : (S ++ [c]).length = S.length + 1 := by rw [List.length_append, List.length_singleton]
  refine x_Mt.of (by decide) (Nat.le_of_ble_eq_true rfl) ?_
  show x_W E M_PP_put _ _ 52 (g_yw h S n Wk Nx Sn P0) 0 [(0, .ref 44), (1, .int c)] [] 0 0
  rcases Nat.lt_or_ge S.length 4096 with hlt | hge
  · refine x_same (h' := (x_up (x_up (x_up (x_up (x_up h 44 (.inr (9, [.ref 45, .ref 46, .ref 47, .ref 48, .int (nI S.length), .int 0, .int (nI n)]))) 45 (.inl (1, 4096, .inl (g_ps P0 0 S)))) 46 (.inl (0, 9000, .inl Wk))) 47 (.inl (0, 9000, .inl Nx))) 48 (.inl (0, 4200, .inl Sn)))) (x_pt rfl rfl rfl rfl rfl rfl rfl rfl rfl rfl rfl rfl rfl rfl rfl rfl rfl rfl rfl rfl rfl rfl rfl rfl rfl rfl rfl rfl rfl rfl rfl rfl rfl rfl rfl rfl rfl rfl rfl rfl rfl rfl rfl rfl (show (Sum.inr (9, [.ref 45, .ref 46, .ref 47, .ref 48, .int (nI (min S.length 4096)), .int (g_b2 (decide (4096 < S.length))), .int (nI n)]) : xE) = Sum.inr (9, [.ref 45, .ref 46, .ref 47, .ref 48, .int (nI S.length), .int 0, .int (nI n)]) by rw [Nat.min_eq_left (by omega), decide_eq_false (by omega)]; rfl) rfl rfl rfl rfl rfl rfl rfl) ?_
    refine x_aload_n d_PP_put_0 rfl rfl ?_
    refine x_get d_PP_put_1 f_PP_25 (Nat.le_of_ble_eq_true rfl) (Nat.le_of_ble_eq_true rfl) (by first | rfl | assumption) (by rfl) ?_
    refine x_sipush 4096 d_PP_put_4 (by decide) ?_
    refine x_icmp_ne 15 d_PP_put_7 (by decide) (fun _ => ?_) (fun z => absurd z (show ¬ nI S.length = nI 4096 from fun y => absurd ((g_nIne (by omega) (by decide)).mp y) (by omega)))
    refine x_aload_n d_PP_put_15 rfl rfl ?_
    refine x_get d_PP_put_16 f_PP_29 (Nat.le_of_ble_eq_true rfl) (Nat.le_of_ble_eq_true rfl) (by first | rfl | assumption) (by rfl) ?_
    refine x_if_eq 23 d_PP_put_19 (by decide) (fun _ => ?_) (fun z => absurd rfl z)
    refine x_aload_n d_PP_put_23 rfl rfl ?_
    refine x_get d_PP_put_24 f_PP_9 (Nat.le_of_ble_eq_true rfl) (Nat.le_of_ble_eq_true rfl) (by first | rfl | assumption) (by rfl) ?_
    refine x_aload_n d_PP_put_27 rfl rfl ?_
    refine x_get d_PP_put_28 f_PP_25 (Nat.le_of_ble_eq_true rfl) (Nat.le_of_ble_eq_true rfl) (by first | rfl | assumption) (by rfl) ?_
    refine x_iload_n d_PP_put_31 rfl rfl ?_
    refine x_i2b d_PP_put_32 ?_
    refine x_bast d_PP_put_33 (Nat.le_of_ble_eq_true rfl) (Nat.le_of_ble_eq_true rfl) (by first | rfl | assumption) (vp_in_nI hlt (by decide)) ?_
    refine x_aload_n d_PP_put_34 rfl rfl ?_
    refine x_dup d_PP_put_35 rfl ?_
    refine x_get d_PP_put_36 f_PP_25 (Nat.le_of_ble_eq_true rfl) (Nat.le_of_ble_eq_true rfl) (by first | rfl | assumption) (by rfl) ?_
    refine x_iconst 1 d_PP_put_39 (by decide) ?_
    refine x_iadd d_PP_put_40 ?_
    refine x_topi (nI (S.length + 1)) (nI_succ _).symm ?_
    refine x_put d_PP_put_41 f_PP_25 (Nat.le_of_ble_eq_true rfl) (Nat.le_of_ble_eq_true rfl) (by first | rfl | assumption) (by rfl) (by rfl) (by exact (Nat.le_of_ble_eq_true rfl)) ?_
    exact x_return d_PP_put_44 rfl ⟨rfl, rfl, x_pt rfl rfl rfl rfl rfl rfl rfl rfl rfl rfl rfl rfl rfl rfl rfl rfl rfl rfl rfl rfl rfl rfl rfl rfl rfl rfl rfl rfl rfl rfl rfl rfl rfl rfl rfl rfl rfl rfl rfl rfl rfl rfl rfl rfl (show (Sum.inr (9, [.ref 45, .ref 46, .ref 47, .ref 48, .int (nI (S.length + 1)), .int 0, .int (nI n)]) : xE) = Sum.inr (9, [.ref 45, .ref 46, .ref 47, .ref 48, .int (nI (min (S ++ [c]).length 4096)), .int (g_b2 (decide (4096 < (S ++ [c]).length))), .int (nI n)]) by rw [hlen, Nat.min_eq_left (by omega), decide_eq_false (by omega)]; rfl) (show (Sum.inl (1, 4096, Sum.inl (upd _ (nI S.length).toNatClampNeg _)) : xE) = Sum.inl (1, 4096, Sum.inl (g_ps P0 0 (S ++ [c]))) by rw [nI_clamp (by omega), g_ywp]; unfold g_pp; rw [decide_eq_true hlt]; rfl) rfl rfl rfl rfl rfl rfl, rfl, rfl⟩
  · refine x_same (h' := (x_up (x_up (x_up (x_up (x_up h 44 (.inr (9, [.ref 45, .ref 46, .ref 47, .ref 48, .int (nI 4096), .int (g_b2 (decide (4096 < S.length))), .int (nI n)]))) 45 (.inl (1, 4096, .inl (g_ps P0 0 S)))) 46 (.inl (0, 9000, .inl Wk))) 47 (.inl (0, 9000, .inl Nx))) 48 (.inl (0, 4200, .inl Sn)))) (x_pt rfl rfl rfl rfl rfl rfl rfl rfl rfl rfl rfl rfl rfl rfl rfl rfl rfl rfl rfl rfl rfl rfl rfl rfl rfl rfl rfl rfl rfl rfl rfl rfl rfl rfl rfl rfl rfl rfl rfl rfl rfl rfl rfl rfl (show (Sum.inr (9, [.ref 45, .ref 46, .ref 47, .ref 48, .int (nI (min S.length 4096)), .int (g_b2 (decide (4096 < S.length))), .int (nI n)]) : xE) = Sum.inr (9, [.ref 45, .ref 46, .ref 47, .ref 48, .int (nI 4096), .int (g_b2 (decide (4096 < S.length))), .int (nI n)]) by rw [Nat.min_eq_right hge]) rfl rfl rfl rfl rfl rfl rfl) ?_
    refine x_aload_n d_PP_put_0 rfl rfl ?_
    refine x_get d_PP_put_1 f_PP_25 (Nat.le_of_ble_eq_true rfl) (Nat.le_of_ble_eq_true rfl) (by first | rfl | assumption) (by rfl) ?_
    refine x_sipush 4096 d_PP_put_4 (by decide) ?_
    refine x_icmp_ne 15 d_PP_put_7 (by decide) (fun z => absurd rfl z) (fun _ => ?_)
    refine x_aload_n d_PP_put_10 rfl rfl ?_
    refine x_iconst 1 d_PP_put_11 (by decide) ?_
    refine x_put d_PP_put_12 f_PP_29 (Nat.le_of_ble_eq_true rfl) (Nat.le_of_ble_eq_true rfl) (by first | rfl | assumption) (by rfl) (by rfl) (by exact (Nat.le_of_ble_eq_true rfl)) ?_
    refine x_aload_n d_PP_put_15 rfl rfl ?_
    refine x_get d_PP_put_16 f_PP_29 (Nat.le_of_ble_eq_true rfl) (Nat.le_of_ble_eq_true rfl) (by first | rfl | assumption) (by rfl) ?_
    refine x_if_eq 23 d_PP_put_19 (by decide) (fun z => absurd z (by decide)) (fun _ => ?_)
    exact x_return d_PP_put_22 rfl ⟨rfl, rfl, x_pt rfl rfl rfl rfl rfl rfl rfl rfl rfl rfl rfl rfl rfl rfl rfl rfl rfl rfl rfl rfl rfl rfl rfl rfl rfl rfl rfl rfl rfl rfl rfl rfl rfl rfl rfl rfl rfl rfl rfl rfl rfl rfl rfl rfl (show (Sum.inr (9, [.ref 45, .ref 46, .ref 47, .ref 48, .int (nI 4096), .int 1, .int (nI n)]) : xE) = Sum.inr (9, [.ref 45, .ref 46, .ref 47, .ref 48, .int (nI (min (S ++ [c]).length 4096)), .int (g_b2 (decide (4096 < (S ++ [c]).length))), .int (nI n)]) by rw [hlen, Nat.min_eq_right (by omega), decide_eq_true (by omega)]; rfl) (show (Sum.inl (1, 4096, Sum.inl (g_ps P0 0 S)) : xE) = Sum.inl (1, 4096, Sum.inl (g_ps P0 0 (S ++ [c]))) by rw [g_ywp]; unfold g_pp; rw [decide_eq_false (by omega)]; rfl) rfl rfl rfl rfl rfl rfl, rfl, rfl⟩
theorem d_PP_plain_0 : decode M_PP_plain.2.1 0 = .ok (.aload_n 0, 1) := by decide +kernel
theorem d_PP_plain_1 : decode M_PP_plain.2.1 1 = .ok (.iload_n 1, 1) := by decide +kernel
theorem d_PP_plain_2 : decode M_PP_plain.2.1 2 = .ok (.invokevirtual 43, 3) := by decide +kernel
theorem d_PP_plain_5 : decode M_PP_plain.2.1 5 = .ok (.istore_n 2, 1) := by decide +kernel
theorem d_PP_plain_6 : decode M_PP_plain.2.1 6 = .ok (.iload_n 2, 1) := by decide +kernel
theorem d_PP_plain_7 : decode M_PP_plain.2.1 7 = .ok (.ifCond .ne 5, 3) := by decide +kernel
theorem d_PP_plain_10 : decode M_PP_plain.2.1 10 = .ok (.iconst 0, 1) := by decide +kernel
theorem d_PP_plain_11 : decode M_PP_plain.2.1 11 = .ok (.ireturn, 1) := by decide +kernel
theorem d_PP_plain_12 : decode M_PP_plain.2.1 12 = .ok (.aload_n 0, 1) := by decide +kernel
theorem d_PP_plain_13 : decode M_PP_plain.2.1 13 = .ok (.iload_n 1, 1) := by decide +kernel
theorem d_PP_plain_14 : decode M_PP_plain.2.1 14 = .ok (.iconst 0, 1) := by decide +kernel
theorem d_PP_plain_15 : decode M_PP_plain.2.1 15 = .ok (.invokevirtual 49, 3) := by decide +kernel
theorem d_PP_plain_18 : decode M_PP_plain.2.1 18 = .ok (.istore_n 3, 1) := by decide +kernel
theorem d_PP_plain_19 : decode M_PP_plain.2.1 19 = .ok (.iload_n 2, 1) := by decide +kernel
theorem d_PP_plain_20 : decode M_PP_plain.2.1 20 = .ok (.iconst 1, 1) := by decide +kernel
theorem d_PP_plain_21 : decode M_PP_plain.2.1 21 = .ok (.if_icmp .ne 17, 3) := by decide +kernel
theorem d_PP_plain_24 : decode M_PP_plain.2.1 24 = .ok (.iload_n 3, 1) := by decide +kernel
theorem d_PP_plain_25 : decode M_PP_plain.2.1 25 = .ok (.bipush 33, 2) := by decide +kernel
theorem d_PP_plain_27 : decode M_PP_plain.2.1 27 = .ok (.if_icmp .eq 9, 3) := by decide +kernel
theorem d_PP_plain_30 : decode M_PP_plain.2.1 30 = .ok (.iload_n 3, 1) := by decide +kernel
theorem d_PP_plain_31 : decode M_PP_plain.2.1 31 = .ok (.bipush 59, 2) := by decide +kernel
theorem d_PP_plain_33 : decode M_PP_plain.2.1 33 = .ok (.if_icmp .ne 5, 3) := by decide +kernel
theorem d_PP_plain_36 : decode M_PP_plain.2.1 36 = .ok (.iconst 1, 1) := by decide +kernel
theorem d_PP_plain_37 : decode M_PP_plain.2.1 37 = .ok (.ireturn, 1) := by decide +kernel
theorem d_PP_plain_38 : decode M_PP_plain.2.1 38 = .ok (.aload_n 0, 1) := by decide +kernel
theorem d_PP_plain_39 : decode M_PP_plain.2.1 39 = .ok (.iload_n 1, 1) := by decide +kernel
theorem d_PP_plain_40 : decode M_PP_plain.2.1 40 = .ok (.ldc 53, 2) := by decide +kernel
theorem d_PP_plain_42 : decode M_PP_plain.2.1 42 = .ok (.invokevirtual 55, 3) := by decide +kernel
theorem d_PP_plain_45 : decode M_PP_plain.2.1 45 = .ok (.ifCond .eq 5, 3) := by decide +kernel
theorem d_PP_plain_48 : decode M_PP_plain.2.1 48 = .ok (.iconst 1, 1) := by decide +kernel
theorem d_PP_plain_49 : decode M_PP_plain.2.1 49 = .ok (.ireturn, 1) := by decide +kernel
theorem d_PP_plain_50 : decode M_PP_plain.2.1 50 = .ok (.aload_n 0, 1) := by decide +kernel
theorem d_PP_plain_51 : decode M_PP_plain.2.1 51 = .ok (.iload_n 1, 1) := by decide +kernel
theorem d_PP_plain_52 : decode M_PP_plain.2.1 52 = .ok (.ldc 59, 2) := by decide +kernel
theorem d_PP_plain_54 : decode M_PP_plain.2.1 54 = .ok (.invokevirtual 55, 3) := by decide +kernel
theorem d_PP_plain_57 : decode M_PP_plain.2.1 57 = .ok (.ifCond .eq 5, 3) := by decide +kernel
theorem d_PP_plain_60 : decode M_PP_plain.2.1 60 = .ok (.iconst 0, 1) := by decide +kernel
theorem d_PP_plain_61 : decode M_PP_plain.2.1 61 = .ok (.ireturn, 1) := by decide +kernel
theorem d_PP_plain_62 : decode M_PP_plain.2.1 62 = .ok (.iload_n 3, 1) := by decide +kernel
theorem d_PP_plain_63 : decode M_PP_plain.2.1 63 = .ok (.bipush 97, 2) := by decide +kernel
theorem d_PP_plain_65 : decode M_PP_plain.2.1 65 = .ok (.if_icmp .lt 13, 3) := by decide +kernel
theorem d_PP_plain_68 : decode M_PP_plain.2.1 68 = .ok (.iload_n 3, 1) := by decide +kernel
theorem d_PP_plain_69 : decode M_PP_plain.2.1 69 = .ok (.bipush 122, 2) := by decide +kernel
theorem d_PP_plain_71 : decode M_PP_plain.2.1 71 = .ok (.if_icmp .gt 7, 3) := by decide +kernel
theorem d_PP_plain_74 : decode M_PP_plain.2.1 74 = .ok (.iconst 1, 1) := by decide +kernel
theorem d_PP_plain_75 : decode M_PP_plain.2.1 75 = .ok (.goto 4, 3) := by decide +kernel
theorem d_PP_plain_78 : decode M_PP_plain.2.1 78 = .ok (.iconst 0, 1) := by decide +kernel
theorem d_PP_plain_79 : decode M_PP_plain.2.1 79 = .ok (.istore 4, 2) := by decide +kernel
theorem d_PP_plain_81 : decode M_PP_plain.2.1 81 = .ok (.iconst 0, 1) := by decide +kernel
theorem d_PP_plain_82 : decode M_PP_plain.2.1 82 = .ok (.istore 5, 2) := by decide +kernel
theorem d_PP_plain_84 : decode M_PP_plain.2.1 84 = .ok (.iload 5, 2) := by decide +kernel
theorem d_PP_plain_86 : decode M_PP_plain.2.1 86 = .ok (.iload_n 2, 1) := by decide +kernel
theorem d_PP_plain_87 : decode M_PP_plain.2.1 87 = .ok (.if_icmp .ge 97, 3) := by decide +kernel
theorem d_PP_plain_90 : decode M_PP_plain.2.1 90 = .ok (.aload_n 0, 1) := by decide +kernel
theorem d_PP_plain_91 : decode M_PP_plain.2.1 91 = .ok (.iload_n 1, 1) := by decide +kernel
theorem d_PP_plain_92 : decode M_PP_plain.2.1 92 = .ok (.iload 5, 2) := by decide +kernel
theorem d_PP_plain_94 : decode M_PP_plain.2.1 94 = .ok (.invokevirtual 49, 3) := by decide +kernel
theorem d_PP_plain_97 : decode M_PP_plain.2.1 97 = .ok (.istore 6, 2) := by decide +kernel
theorem d_PP_plain_99 : decode M_PP_plain.2.1 99 = .ok (.iload 6, 2) := by decide +kernel
theorem d_PP_plain_101 : decode M_PP_plain.2.1 101 = .ok (.bipush 97, 2) := by decide +kernel
theorem d_PP_plain_103 : decode M_PP_plain.2.1 103 = .ok (.if_icmp .lt 10, 3) := by decide +kernel
theorem d_PP_plain_106 : decode M_PP_plain.2.1 106 = .ok (.iload 6, 2) := by decide +kernel
theorem d_PP_plain_108 : decode M_PP_plain.2.1 108 = .ok (.bipush 122, 2) := by decide +kernel
theorem d_PP_plain_110 : decode M_PP_plain.2.1 110 = .ok (.if_icmp .le 38, 3) := by decide +kernel
theorem d_PP_plain_113 : decode M_PP_plain.2.1 113 = .ok (.iload 6, 2) := by decide +kernel
theorem d_PP_plain_115 : decode M_PP_plain.2.1 115 = .ok (.bipush 65, 2) := by decide +kernel
theorem d_PP_plain_117 : decode M_PP_plain.2.1 117 = .ok (.if_icmp .lt 10, 3) := by decide +kernel
theorem d_PP_plain_120 : decode M_PP_plain.2.1 120 = .ok (.iload 6, 2) := by decide +kernel
theorem d_PP_plain_122 : decode M_PP_plain.2.1 122 = .ok (.bipush 90, 2) := by decide +kernel
theorem d_PP_plain_124 : decode M_PP_plain.2.1 124 = .ok (.if_icmp .le 24, 3) := by decide +kernel
theorem d_PP_plain_127 : decode M_PP_plain.2.1 127 = .ok (.iload 6, 2) := by decide +kernel
theorem d_PP_plain_129 : decode M_PP_plain.2.1 129 = .ok (.bipush 48, 2) := by decide +kernel
theorem d_PP_plain_131 : decode M_PP_plain.2.1 131 = .ok (.if_icmp .lt 10, 3) := by decide +kernel
theorem d_PP_plain_134 : decode M_PP_plain.2.1 134 = .ok (.iload 6, 2) := by decide +kernel
theorem d_PP_plain_136 : decode M_PP_plain.2.1 136 = .ok (.bipush 57, 2) := by decide +kernel
theorem d_PP_plain_138 : decode M_PP_plain.2.1 138 = .ok (.if_icmp .le 10, 3) := by decide +kernel
theorem d_PP_plain_141 : decode M_PP_plain.2.1 141 = .ok (.iload 6, 2) := by decide +kernel
theorem d_PP_plain_143 : decode M_PP_plain.2.1 143 = .ok (.bipush 95, 2) := by decide +kernel
theorem d_PP_plain_145 : decode M_PP_plain.2.1 145 = .ok (.if_icmp .ne 7, 3) := by decide +kernel
theorem d_PP_plain_148 : decode M_PP_plain.2.1 148 = .ok (.iconst 1, 1) := by decide +kernel
theorem d_PP_plain_149 : decode M_PP_plain.2.1 149 = .ok (.goto 4, 3) := by decide +kernel
theorem d_PP_plain_152 : decode M_PP_plain.2.1 152 = .ok (.iconst 0, 1) := by decide +kernel
theorem d_PP_plain_153 : decode M_PP_plain.2.1 153 = .ok (.istore 7, 2) := by decide +kernel
theorem d_PP_plain_155 : decode M_PP_plain.2.1 155 = .ok (.iload 4, 2) := by decide +kernel
theorem d_PP_plain_157 : decode M_PP_plain.2.1 157 = .ok (.ifCond .eq 11, 3) := by decide +kernel
theorem d_PP_plain_160 : decode M_PP_plain.2.1 160 = .ok (.iload 7, 2) := by decide +kernel
theorem d_PP_plain_162 : decode M_PP_plain.2.1 162 = .ok (.ifCond .ne 16, 3) := by decide +kernel
theorem d_PP_plain_165 : decode M_PP_plain.2.1 165 = .ok (.goto 11, 3) := by decide +kernel
theorem d_PP_plain_168 : decode M_PP_plain.2.1 168 = .ok (.iload 6, 2) := by decide +kernel
theorem d_PP_plain_170 : decode M_PP_plain.2.1 170 = .ok (.invokestatic 61, 3) := by decide +kernel
theorem d_PP_plain_173 : decode M_PP_plain.2.1 173 = .ok (.ifCond .ne 5, 3) := by decide +kernel
theorem d_PP_plain_176 : decode M_PP_plain.2.1 176 = .ok (.iconst 0, 1) := by decide +kernel
theorem d_PP_plain_177 : decode M_PP_plain.2.1 177 = .ok (.ireturn, 1) := by decide +kernel
theorem d_PP_plain_178 : decode M_PP_plain.2.1 178 = .ok (.iinc 5 1, 3) := by decide +kernel
theorem d_PP_plain_181 : decode M_PP_plain.2.1 181 = .ok (.goto (-97), 3) := by decide +kernel
theorem d_PP_plain_184 : decode M_PP_plain.2.1 184 = .ok (.iconst 1, 1) := by decide +kernel
theorem d_PP_plain_185 : decode M_PP_plain.2.1 185 = .ok (.ireturn, 1) := by decide +kernel
theorem g_pll2 {w : List Int32} (h0 : 0 < w.length) (h1 : ¬ (w.length = 1 ∧ (w[0] = 33 ∨ w[0] = 59))) (h2 : ¬ w = [91, 93]) (h3 : ¬ w = [46]) : g_pll w = w.all (g_fit1 w[0]) := by
  match w, h0, h1, h2, h3 with
  | [c], _, h1, _, h3 =>
    have a1 : ¬ c = 33 := fun y => h1 ⟨rfl, Or.inl y⟩
    have a2 : ¬ c = 59 := fun y => h1 ⟨rfl, Or.inr y⟩
    have a3 : ¬ c = 46 := fun y => h3 (by rw [y])
    rw [g_pll, decide_eq_false a1, decide_eq_false a2, decide_eq_false a3]
    show (false || (false || (!false && g_fit1 c c))) = (g_fit1 c c && true)
    simp
  | c :: d :: l, _, _, h2, _ =>
    rw [g_pll]
    show _ = (c :: d :: l).all (g_fit1 c)
    cases hb : decide (l = []) && decide (c = 91) with
    | false => rfl
    | true =>
      have hl := of_decide_eq_true (Bool.and_eq_true_iff.mp hb).1
      have hc := of_decide_eq_true (Bool.and_eq_true_iff.mp hb).2
      subst hl hc
      have hd : ¬ d = 93 := fun y => h2 (by rw [y])
      show decide (d = 93) = _
      rw [decide_eq_false hd]
      have : g_fit1 91 91 = false := by decide +kernel
      rw [List.all_cons, this, Bool.false_and]
set_option maxRecDepth 20000 in
theorem w_PP_plain {E : xR} {W : xH} {T : List (List Int32)} {Na : Nat → Nat → Int32} {k : Nat} {w : List Int32} (hN : g_HN W T Na) (hk : g_nt T k = some w) (hk9 : k < 9000) (hL : w.length ≤ 5000) (hb : ∀ c ∈ w, ∃ x, x < 256 ∧ c = g_sb x) : x_Mt E M_PP_plain 6 0 0 [.ref 31, .int (nI k)] 52 W (x_Y (some (.int (g_b2 (g_pll w)))) 52 W) := by
  refine x_Mt.of (by decide) (Nat.le_of_ble_eq_true rfl) ?_
  show x_W E M_PP_plain _ _ 52 W 0 [(0, .ref 31), (1, .int (nI k))] [] 0 0
  have h31c := hN.1.1
  by_cases h0 : w.length = 0
  · have hw0 : w = [] := List.length_eq_zero_iff.mp h0
    refine x_aload_n d_PP_plain_0 rfl rfl ?_
    refine x_iload_n d_PP_plain_1 rfl rfl ?_
    refine x_callV1Y d_PP_plain_2 k_PP_43 (Nat.le_of_ble_eq_true rfl) (Nat.le_of_ble_eq_true rfl) h31c (by rfl) (q_length hN hk hk9) (Nat.le_of_ble_eq_true rfl) (Nat.le_of_ble_eq_true rfl) (Nat.le_of_ble_eq_true rfl) (Nat.le_of_ble_eq_true rfl) (Nat.le_of_ble_eq_true rfl) rfl ?_
    refine x_istore_n d_PP_plain_5 rfl (Nat.le_of_ble_eq_true rfl) ?_
    refine x_iload_n d_PP_plain_6 rfl rfl ?_
    refine x_if_ne 12 d_PP_plain_7 (by decide) (fun z => absurd (show nI w.length = 0 by rw [h0]; rfl) z) (fun _ => ?_)
    refine x_iconst 0 d_PP_plain_10 (by decide) ?_
    exact x_ireturn d_PP_plain_11 rfl rfl ⟨by rw [hw0]; rfl, rfl, fun _ _ => rfl, rfl, rfl⟩
  have hp0 : 0 < w.length := by omega
  have hloop : ¬ (w.length = 1 ∧ (w[0] = 33 ∨ w[0] = 59)) → ¬ w = [91, 93] → ¬ w = [46] → ∀ m i, i + m = w.length → (∀ j (h : j < w.length), j < i → g_fit1 w[0] w[j] = true) → x_W E M_PP_plain (x_room 6 0 0) (x_Y (some (.int (g_b2 (g_pll w)))) 52 W) 52 W 84 [(0, .ref 31), (1, .int (nI k)), (2, .int (nI w.length)), (3, .int w[0]), (4, .int (g_b2 (g_small w[0]))), (5, .int (nI i))] [] 0 0 := by
    intro z1 z2 z3 m
    induction m with
    | zero =>
      intro i hi hj
      obtain rfl : i = w.length := by omega
      refine x_iload d_PP_plain_84 rfl ?_
      refine x_iload_n d_PP_plain_86 rfl rfl ?_
      refine x_icmp_ge 184 d_PP_plain_87 (by decide) (fun _ => ?_) (fun z => absurd (nI_le (Nat.le_refl _) (by omega)) z)
      refine x_iconst 1 d_PP_plain_184 (by decide) ?_
      exact x_ireturn d_PP_plain_185 rfl rfl ⟨by rw [g_pll2 hp0 z1 z2 z3, List.all_eq_true.mpr (fun c hc => by obtain ⟨j, hjl, rfl⟩ := List.getElem_of_mem hc; exact hj j hjl hjl)]; rfl, rfl, fun _ _ => rfl, rfl, rfl⟩
    | succ m ih =>
      intro i hi hj
      have hiw : i < w.length := by omega
      obtain ⟨xb, hxb, hxe⟩ := hb _ (List.getElem_mem hiw)
      have hbad : g_fit1 w[0] w[i] = false → ∀ lv, x_W E M_PP_plain (x_room 6 0 0) (x_Y (some (.int (g_b2 (g_pll w)))) 52 W) 52 W 176 lv [] 0 0 := by
        intro hf lv
        refine x_iconst 0 d_PP_plain_176 (by decide) ?_
        exact x_ireturn d_PP_plain_177 rfl rfl (by
                  have ha : w.all (g_fit1 w[0]) = false := by
                    cases ha : w.all (g_fit1 w[0]) with
                    | false => rfl
                    | true => exact absurd (List.all_eq_true.mp ha _ (List.getElem_mem hiw)) (by rw [hf]; decide)
                  exact ⟨by rw [g_pll2 hp0 z1 z2 z3, ha]; rfl, rfl, fun _ _ => rfl, rfl, rfl⟩)
      have hgood : g_fit1 w[0] w[i] = true → x_W E M_PP_plain (x_room 6 0 0) (x_Y (some (.int (g_b2 (g_pll w)))) 52 W) 52 W 178 [(0, .ref 31), (1, .int (nI k)), (2, .int (nI w.length)), (3, .int w[0]), (4, .int (g_b2 (g_small w[0]))), (5, .int (nI i)), (6, .int w[i]), (7, .int (g_b2 (g_word w[i])))] [] 0 0 := by
        intro hf
        refine x_iinc d_PP_plain_178 rfl 1 (by decide) (Nat.le_of_ble_eq_true rfl) ?_
        refine x_goto 84 d_PP_plain_181 (by decide) ?_
        refine x_lv [(0, .ref 31), (1, .int (nI k)), (2, .int (nI w.length)), (3, .int w[0]), (4, .int (g_b2 (g_small w[0]))), (5, .int (nI (i + 1))), (6, .int w[i]), (7, .int (g_b2 (g_word w[i])))] (by rw [nI_succ i]; rfl) ?_
        refine x_wk [(0, .ref 31), (1, .int (nI k)), (2, .int (nI w.length)), (3, .int w[0]), (4, .int (g_b2 (g_small w[0]))), (5, .int (nI (i + 1)))] (by simp) ?_
        exact ih (i + 1) (by omega) (fun j h hji => by
          by_cases e : j = i
          · subst e; exact hf
          · exact hj j h (by omega))
      have h155 : x_W E M_PP_plain (x_room 6 0 0) (x_Y (some (.int (g_b2 (g_pll w)))) 52 W) 52 W 155 [(0, .ref 31), (1, .int (nI k)), (2, .int (nI w.length)), (3, .int w[0]), (4, .int (g_b2 (g_small w[0]))), (5, .int (nI i)), (6, .int w[i]), (7, .int (g_b2 (g_word w[i])))] [] 0 0 := by
        refine x_iload d_PP_plain_155 rfl ?_
        refine x_if_eq 168 d_PP_plain_157 (by decide) (fun c_157 => ?_) (fun c_157 => ?_)
        · refine x_iload d_PP_plain_168 rfl ?_
          refine x_callS1Y d_PP_plain_170 k_PP_61 (by rw [hxe]; exact w_RD_symbol_sb hxb) (Nat.le_of_ble_eq_true rfl) (Nat.le_of_ble_eq_true rfl) (Nat.le_of_ble_eq_true rfl) (Nat.le_of_ble_eq_true rfl) (Nat.le_of_ble_eq_true rfl) rfl ?_
          refine x_if_ne 178 d_PP_plain_173 (by decide) (fun c_173 => ?_) (fun c_173 => ?_)
          · exact hgood (by unfold g_fit1; rw [g_b2z c_157]; show g_symb w[i] = true; rw [hxe]; exact g_b2n c_173)
          · exact hbad (by unfold g_fit1; rw [g_b2z c_157]; show g_symb w[i] = false; rw [hxe]; exact g_b2z c_173) _
        · refine x_iload d_PP_plain_160 rfl ?_
          refine x_if_ne 178 d_PP_plain_162 (by decide) (fun c_162 => ?_) (fun c_162 => ?_)
          · exact hgood (by unfold g_fit1; rw [g_b2n c_157]; exact g_b2n c_162)
          · refine x_goto 176 d_PP_plain_165 (by decide) ?_
            exact hbad (by unfold g_fit1; rw [g_b2n c_157]; exact g_b2z c_162) _
      have h153 : ∀ b : Bool, g_word w[i] = b → x_W E M_PP_plain (x_room 6 0 0) (x_Y (some (.int (g_b2 (g_pll w)))) 52 W) 52 W 153 [(0, .ref 31), (1, .int (nI k)), (2, .int (nI w.length)), (3, .int w[0]), (4, .int (g_b2 (g_small w[0]))), (5, .int (nI i)), (6, .int w[i])] [.int (g_b2 b)] 0 0 := by
        intro b hbb
        subst hbb
        refine x_istore d_PP_plain_153 (Nat.le_of_ble_eq_true rfl) ?_
        exact h155
      refine x_iload d_PP_plain_84 rfl ?_
      refine x_iload_n d_PP_plain_86 rfl rfl ?_
      refine x_icmp_ge 184 d_PP_plain_87 (by decide) (fun z => absurd z (nI_ge hiw (by omega))) (fun _ => ?_)
      refine x_aload_n d_PP_plain_90 rfl rfl ?_
      refine x_iload_n d_PP_plain_91 rfl rfl ?_
      refine x_iload d_PP_plain_92 rfl ?_
      refine x_callV2Y d_PP_plain_94 k_PP_49 (Nat.le_of_ble_eq_true rfl) (Nat.le_of_ble_eq_true rfl) h31c (by rfl) (q_at hN hk hk9 hiw) (Nat.le_of_ble_eq_true rfl) (Nat.le_of_ble_eq_true rfl) (Nat.le_of_ble_eq_true rfl) (Nat.le_of_ble_eq_true rfl) (Nat.le_of_ble_eq_true rfl) rfl ?_
      refine x_istore d_PP_plain_97 (Nat.le_of_ble_eq_true rfl) ?_
      refine x_iload d_PP_plain_99 rfl ?_
      refine x_bipush 97 d_PP_plain_101 (by decide) ?_
      refine x_icmp_lt 113 d_PP_plain_103 (by decide) (fun c_103 => ?_) (fun c_103 => ?_)
      · refine x_iload d_PP_plain_113 rfl ?_
        refine x_bipush 65 d_PP_plain_115 (by decide) ?_
        refine x_icmp_lt 127 d_PP_plain_117 (by decide) (fun c_117 => ?_) (fun c_117 => ?_)
        · refine x_iload d_PP_plain_127 rfl ?_
          refine x_bipush 48 d_PP_plain_129 (by decide) ?_
          refine x_icmp_lt 141 d_PP_plain_131 (by decide) (fun c_131 => ?_) (fun c_131 => ?_)
          · refine x_iload d_PP_plain_141 rfl ?_
            refine x_bipush 95 d_PP_plain_143 (by decide) ?_
            refine x_icmp_ne 152 d_PP_plain_145 (by decide) (fun c_145 => ?_) (fun c_145 => ?_)
            · refine x_iconst 0 d_PP_plain_152 (by decide) ?_
              exact h153 false (by clear hxe h153 h155 hgood hbad ih hj; unfold g_word; simp [*])
            · refine x_iconst 1 d_PP_plain_148 (by decide) ?_
              refine x_goto 153 d_PP_plain_149 (by decide) ?_
              exact h153 true (by clear hxe h153 h155 hgood hbad ih hj; unfold g_word; simp [*])
          · refine x_iload d_PP_plain_134 rfl ?_
            refine x_bipush 57 d_PP_plain_136 (by decide) ?_
            refine x_icmp_le 148 d_PP_plain_138 (by decide) (fun c_138 => ?_) (fun c_138 => ?_)
            · refine x_iconst 1 d_PP_plain_148 (by decide) ?_
              refine x_goto 153 d_PP_plain_149 (by decide) ?_
              exact h153 true (by clear hxe h153 h155 hgood hbad ih hj; unfold g_word; simp [*])
            · refine x_iload d_PP_plain_141 rfl ?_
              refine x_bipush 95 d_PP_plain_143 (by decide) ?_
              refine x_icmp_ne 152 d_PP_plain_145 (by decide) (fun c_145 => ?_) (fun c_145 => ?_)
              · refine x_iconst 0 d_PP_plain_152 (by decide) ?_
                exact h153 false (by clear hxe h153 h155 hgood hbad ih hj; unfold g_word; simp [*])
              · refine x_iconst 1 d_PP_plain_148 (by decide) ?_
                refine x_goto 153 d_PP_plain_149 (by decide) ?_
                exact h153 true (by clear hxe h153 h155 hgood hbad ih hj; unfold g_word; simp [*])
        · refine x_iload d_PP_plain_120 rfl ?_
          refine x_bipush 90 d_PP_plain_122 (by decide) ?_
          refine x_icmp_le 148 d_PP_plain_124 (by decide) (fun c_124 => ?_) (fun c_124 => ?_)
          · refine x_iconst 1 d_PP_plain_148 (by decide) ?_
            refine x_goto 153 d_PP_plain_149 (by decide) ?_
            exact h153 true (by clear hxe h153 h155 hgood hbad ih hj; unfold g_word; simp [*])
          · refine x_iload d_PP_plain_127 rfl ?_
            refine x_bipush 48 d_PP_plain_129 (by decide) ?_
            refine x_icmp_lt 141 d_PP_plain_131 (by decide) (fun c_131 => ?_) (fun c_131 => ?_)
            · refine x_iload d_PP_plain_141 rfl ?_
              refine x_bipush 95 d_PP_plain_143 (by decide) ?_
              refine x_icmp_ne 152 d_PP_plain_145 (by decide) (fun c_145 => ?_) (fun c_145 => ?_)
              · refine x_iconst 0 d_PP_plain_152 (by decide) ?_
                exact h153 false (by clear hxe h153 h155 hgood hbad ih hj; unfold g_word; simp [*])
              · refine x_iconst 1 d_PP_plain_148 (by decide) ?_
                refine x_goto 153 d_PP_plain_149 (by decide) ?_
                exact h153 true (by clear hxe h153 h155 hgood hbad ih hj; unfold g_word; simp [*])
            · refine x_iload d_PP_plain_134 rfl ?_
              refine x_bipush 57 d_PP_plain_136 (by decide) ?_
              refine x_icmp_le 148 d_PP_plain_138 (by decide) (fun c_138 => ?_) (fun c_138 => ?_)
              · refine x_iconst 1 d_PP_plain_148 (by decide) ?_
                refine x_goto 153 d_PP_plain_149 (by decide) ?_
                exact h153 true (by clear hxe h153 h155 hgood hbad ih hj; unfold g_word; simp [*])
              · refine x_iload d_PP_plain_141 rfl ?_
                refine x_bipush 95 d_PP_plain_143 (by decide) ?_
                refine x_icmp_ne 152 d_PP_plain_145 (by decide) (fun c_145 => ?_) (fun c_145 => ?_)
                · refine x_iconst 0 d_PP_plain_152 (by decide) ?_
                  exact h153 false (by clear hxe h153 h155 hgood hbad ih hj; unfold g_word; simp [*])
                · refine x_iconst 1 d_PP_plain_148 (by decide) ?_
                  refine x_goto 153 d_PP_plain_149 (by decide) ?_
                  exact h153 true (by clear hxe h153 h155 hgood hbad ih hj; unfold g_word; simp [*])
      · refine x_iload d_PP_plain_106 rfl ?_
        refine x_bipush 122 d_PP_plain_108 (by decide) ?_
        refine x_icmp_le 148 d_PP_plain_110 (by decide) (fun c_110 => ?_) (fun c_110 => ?_)
        · refine x_iconst 1 d_PP_plain_148 (by decide) ?_
          refine x_goto 153 d_PP_plain_149 (by decide) ?_
          exact h153 true (by clear hxe h153 h155 hgood hbad ih hj; unfold g_word; simp [*])
        · refine x_iload d_PP_plain_113 rfl ?_
          refine x_bipush 65 d_PP_plain_115 (by decide) ?_
          refine x_icmp_lt 127 d_PP_plain_117 (by decide) (fun c_117 => ?_) (fun c_117 => ?_)
          · refine x_iload d_PP_plain_127 rfl ?_
            refine x_bipush 48 d_PP_plain_129 (by decide) ?_
            refine x_icmp_lt 141 d_PP_plain_131 (by decide) (fun c_131 => ?_) (fun c_131 => ?_)
            · refine x_iload d_PP_plain_141 rfl ?_
              refine x_bipush 95 d_PP_plain_143 (by decide) ?_
              refine x_icmp_ne 152 d_PP_plain_145 (by decide) (fun c_145 => ?_) (fun c_145 => ?_)
              · refine x_iconst 0 d_PP_plain_152 (by decide) ?_
                exact h153 false (by clear hxe h153 h155 hgood hbad ih hj; unfold g_word; simp [*])
              · refine x_iconst 1 d_PP_plain_148 (by decide) ?_
                refine x_goto 153 d_PP_plain_149 (by decide) ?_
                exact h153 true (by clear hxe h153 h155 hgood hbad ih hj; unfold g_word; simp [*])
            · refine x_iload d_PP_plain_134 rfl ?_
              refine x_bipush 57 d_PP_plain_136 (by decide) ?_
              refine x_icmp_le 148 d_PP_plain_138 (by decide) (fun c_138 => ?_) (fun c_138 => ?_)
              · refine x_iconst 1 d_PP_plain_148 (by decide) ?_
                refine x_goto 153 d_PP_plain_149 (by decide) ?_
                exact h153 true (by clear hxe h153 h155 hgood hbad ih hj; unfold g_word; simp [*])
              · refine x_iload d_PP_plain_141 rfl ?_
                refine x_bipush 95 d_PP_plain_143 (by decide) ?_
                refine x_icmp_ne 152 d_PP_plain_145 (by decide) (fun c_145 => ?_) (fun c_145 => ?_)
                · refine x_iconst 0 d_PP_plain_152 (by decide) ?_
                  exact h153 false (by clear hxe h153 h155 hgood hbad ih hj; unfold g_word; simp [*])
                · refine x_iconst 1 d_PP_plain_148 (by decide) ?_
                  refine x_goto 153 d_PP_plain_149 (by decide) ?_
                  exact h153 true (by clear hxe h153 h155 hgood hbad ih hj; unfold g_word; simp [*])
          · refine x_iload d_PP_plain_120 rfl ?_
            refine x_bipush 90 d_PP_plain_122 (by decide) ?_
            refine x_icmp_le 148 d_PP_plain_124 (by decide) (fun c_124 => ?_) (fun c_124 => ?_)
            · refine x_iconst 1 d_PP_plain_148 (by decide) ?_
              refine x_goto 153 d_PP_plain_149 (by decide) ?_
              exact h153 true (by clear hxe h153 h155 hgood hbad ih hj; unfold g_word; simp [*])
            · refine x_iload d_PP_plain_127 rfl ?_
              refine x_bipush 48 d_PP_plain_129 (by decide) ?_
              refine x_icmp_lt 141 d_PP_plain_131 (by decide) (fun c_131 => ?_) (fun c_131 => ?_)
              · refine x_iload d_PP_plain_141 rfl ?_
                refine x_bipush 95 d_PP_plain_143 (by decide) ?_
                refine x_icmp_ne 152 d_PP_plain_145 (by decide) (fun c_145 => ?_) (fun c_145 => ?_)
                · refine x_iconst 0 d_PP_plain_152 (by decide) ?_
                  exact h153 false (by clear hxe h153 h155 hgood hbad ih hj; unfold g_word; simp [*])
                · refine x_iconst 1 d_PP_plain_148 (by decide) ?_
                  refine x_goto 153 d_PP_plain_149 (by decide) ?_
                  exact h153 true (by clear hxe h153 h155 hgood hbad ih hj; unfold g_word; simp [*])
              · refine x_iload d_PP_plain_134 rfl ?_
                refine x_bipush 57 d_PP_plain_136 (by decide) ?_
                refine x_icmp_le 148 d_PP_plain_138 (by decide) (fun c_138 => ?_) (fun c_138 => ?_)
                · refine x_iconst 1 d_PP_plain_148 (by decide) ?_
                  refine x_goto 153 d_PP_plain_149 (by decide) ?_
                  exact h153 true (by clear hxe h153 h155 hgood hbad ih hj; unfold g_word; simp [*])
                · refine x_iload d_PP_plain_141 rfl ?_
                  refine x_bipush 95 d_PP_plain_143 (by decide) ?_
                  refine x_icmp_ne 152 d_PP_plain_145 (by decide) (fun c_145 => ?_) (fun c_145 => ?_)
                  · refine x_iconst 0 d_PP_plain_152 (by decide) ?_
                    exact h153 false (by clear hxe h153 h155 hgood hbad ih hj; unfold g_word; simp [*])
                  · refine x_iconst 1 d_PP_plain_148 (by decide) ?_
                    refine x_goto 153 d_PP_plain_149 (by decide) ?_
                    exact h153 true (by clear hxe h153 h155 hgood hbad ih hj; unfold g_word; simp [*])
  have h62 : ¬ (w.length = 1 ∧ (w[0] = 33 ∨ w[0] = 59)) → ¬ w = [91, 93] → ¬ w = [46] → x_W E M_PP_plain (x_room 6 0 0) (x_Y (some (.int (g_b2 (g_pll w)))) 52 W) 52 W 62 [(0, .ref 31), (1, .int (nI k)), (2, .int (nI w.length)), (3, .int w[0])] [] 0 0 := by
    intro z1 z2 z3
    refine x_iload_n d_PP_plain_62 rfl rfl ?_
    refine x_bipush 97 d_PP_plain_63 (by decide) ?_
    refine x_icmp_lt 78 d_PP_plain_65 (by decide) (fun c_65 => ?_) (fun c_65 => ?_)
    · refine x_iconst 0 d_PP_plain_78 (by decide) ?_
      refine x_istore d_PP_plain_79 (Nat.le_of_ble_eq_true rfl) ?_
      refine x_iconst 0 d_PP_plain_81 (by decide) ?_
      refine x_istore d_PP_plain_82 (Nat.le_of_ble_eq_true rfl) ?_
      refine x_lv [(0, .ref 31), (1, .int (nI k)), (2, .int (nI w.length)), (3, .int w[0]), (4, .int (g_b2 (g_small w[0]))), (5, .int (nI 0))] (by rw [show g_small w[0] = false by clear hloop; unfold g_small; simp [*]]; rfl) ?_
      exact hloop z1 z2 z3 w.length 0 (by omega) (fun j h h0 => absurd h0 (Nat.not_lt_zero _))
    · refine x_iload_n d_PP_plain_68 rfl rfl ?_
      refine x_bipush 122 d_PP_plain_69 (by decide) ?_
      refine x_icmp_gt 78 d_PP_plain_71 (by decide) (fun c_71 => ?_) (fun c_71 => ?_)
      · refine x_iconst 0 d_PP_plain_78 (by decide) ?_
        refine x_istore d_PP_plain_79 (Nat.le_of_ble_eq_true rfl) ?_
        refine x_iconst 0 d_PP_plain_81 (by decide) ?_
        refine x_istore d_PP_plain_82 (Nat.le_of_ble_eq_true rfl) ?_
        refine x_lv [(0, .ref 31), (1, .int (nI k)), (2, .int (nI w.length)), (3, .int w[0]), (4, .int (g_b2 (g_small w[0]))), (5, .int (nI 0))] (by rw [show g_small w[0] = false by clear hloop; unfold g_small; simp [*]]; rfl) ?_
        exact hloop z1 z2 z3 w.length 0 (by omega) (fun j h h0 => absurd h0 (Nat.not_lt_zero _))
      · refine x_iconst 1 d_PP_plain_74 (by decide) ?_
        refine x_goto 79 d_PP_plain_75 (by decide) ?_
        refine x_istore d_PP_plain_79 (Nat.le_of_ble_eq_true rfl) ?_
        refine x_iconst 0 d_PP_plain_81 (by decide) ?_
        refine x_istore d_PP_plain_82 (Nat.le_of_ble_eq_true rfl) ?_
        refine x_lv [(0, .ref 31), (1, .int (nI k)), (2, .int (nI w.length)), (3, .int w[0]), (4, .int (g_b2 (g_small w[0]))), (5, .int (nI 0))] (by rw [show g_small w[0] = true by clear hloop; unfold g_small; simp [*]]; rfl) ?_
        exact hloop z1 z2 z3 w.length 0 (by omega) (fun j h h0 => absurd h0 (Nat.not_lt_zero _))
  have h38 : ¬ (w.length = 1 ∧ (w[0] = 33 ∨ w[0] = 59)) → x_W E M_PP_plain (x_room 6 0 0) (x_Y (some (.int (g_b2 (g_pll w)))) 52 W) 52 W 38 [(0, .ref 31), (1, .int (nI k)), (2, .int (nI w.length)), (3, .int w[0])] [] 0 0 := by
    intro z1
    refine x_aload_n d_PP_plain_38 rfl rfl ?_
    refine x_iload_n d_PP_plain_39 rfl rfl ?_
    refine x_ldcS (i := 6) d_PP_plain_40 34 rfl ?_
    refine x_callV2Y d_PP_plain_42 k_PP_55 (Nat.le_of_ble_eq_true rfl) (Nat.le_of_ble_eq_true rfl) h31c (by rfl) (q_spells (s := 6) hN hk hk9 (by decide)) (Nat.le_of_ble_eq_true rfl) (Nat.le_of_ble_eq_true rfl) (Nat.le_of_ble_eq_true rfl) (Nat.le_of_ble_eq_true rfl) (Nat.le_of_ble_eq_true rfl) rfl ?_
    refine x_if_eq 50 d_PP_plain_45 (by decide) (fun c_45 => ?_) (fun c_45 => ?_)
    · refine x_aload_n d_PP_plain_50 rfl rfl ?_
      refine x_iload_n d_PP_plain_51 rfl rfl ?_
      refine x_ldcS (i := 4) d_PP_plain_52 33 rfl ?_
      refine x_callV2Y d_PP_plain_54 k_PP_55 (Nat.le_of_ble_eq_true rfl) (Nat.le_of_ble_eq_true rfl) h31c (by rfl) (q_spells (s := 4) hN hk hk9 (by decide)) (Nat.le_of_ble_eq_true rfl) (Nat.le_of_ble_eq_true rfl) (Nat.le_of_ble_eq_true rfl) (Nat.le_of_ble_eq_true rfl) (Nat.le_of_ble_eq_true rfl) rfl ?_
      refine x_if_eq 62 d_PP_plain_57 (by decide) (fun c_57 => ?_) (fun c_57 => ?_)
      · exact h62 z1 (of_decide_eq_false (g_b2z c_45)) (of_decide_eq_false (g_b2z c_57))
      · refine x_iconst 0 d_PP_plain_60 (by decide) ?_
        exact x_ireturn d_PP_plain_61 rfl rfl ⟨by rw [of_decide_eq_true (g_b2n c_57)]; rfl, rfl, fun _ _ => rfl, rfl, rfl⟩
    · refine x_iconst 1 d_PP_plain_48 (by decide) ?_
      exact x_ireturn d_PP_plain_49 rfl rfl ⟨by rw [of_decide_eq_true (g_b2n c_45)]; rfl, rfl, fun _ _ => rfl, rfl, rfl⟩
  refine x_aload_n d_PP_plain_0 rfl rfl ?_
  refine x_iload_n d_PP_plain_1 rfl rfl ?_
  refine x_callV1Y d_PP_plain_2 k_PP_43 (Nat.le_of_ble_eq_true rfl) (Nat.le_of_ble_eq_true rfl) h31c (by rfl) (q_length hN hk hk9) (Nat.le_of_ble_eq_true rfl) (Nat.le_of_ble_eq_true rfl) (Nat.le_of_ble_eq_true rfl) (Nat.le_of_ble_eq_true rfl) (Nat.le_of_ble_eq_true rfl) rfl ?_
  refine x_istore_n d_PP_plain_5 rfl (Nat.le_of_ble_eq_true rfl) ?_
  refine x_iload_n d_PP_plain_6 rfl rfl ?_
  refine x_if_ne 12 d_PP_plain_7 (by decide) (fun _ => ?_) (fun z => absurd z (show ¬ nI w.length = nI 0 from fun y => h0 ((g_nIne (by omega) (by decide)).mp y)))
  refine x_aload_n d_PP_plain_12 rfl rfl ?_
  refine x_iload_n d_PP_plain_13 rfl rfl ?_
  refine x_iconst 0 d_PP_plain_14 (by decide) ?_
  refine x_callV2Y d_PP_plain_15 k_PP_49 (Nat.le_of_ble_eq_true rfl) (Nat.le_of_ble_eq_true rfl) h31c (by rfl) (q_at hN hk hk9 (i := 0) hp0) (Nat.le_of_ble_eq_true rfl) (Nat.le_of_ble_eq_true rfl) (Nat.le_of_ble_eq_true rfl) (Nat.le_of_ble_eq_true rfl) (Nat.le_of_ble_eq_true rfl) rfl ?_
  refine x_istore_n d_PP_plain_18 rfl (Nat.le_of_ble_eq_true rfl) ?_
  refine x_iload_n d_PP_plain_19 rfl rfl ?_
  refine x_iconst 1 d_PP_plain_20 (by decide) ?_
  refine x_icmp_ne 38 d_PP_plain_21 (by decide) (fun c_21 => ?_) (fun c_21 => ?_)
  · exact h38 (fun y => c_21 (by rw [y.1]; rfl))
  · refine x_iload_n d_PP_plain_24 rfl rfl ?_
    refine x_bipush 33 d_PP_plain_25 (by decide) ?_
    refine x_icmp_eq 36 d_PP_plain_27 (by decide) (fun c_27 => ?_) (fun c_27 => ?_)
    · refine x_iconst 1 d_PP_plain_36 (by decide) ?_
      exact x_ireturn d_PP_plain_37 rfl rfl (by
        obtain ⟨a, rfl⟩ := List.length_eq_one_iff.mp ((g_nIne (b := 1) (by omega) (by decide)).mp c_21)
        have hz : a = 33 ∨ a = 59 := Or.inl c_27
        refine ⟨?_, rfl, fun _ _ => rfl, rfl, rfl⟩
        rcases hz with rfl | rfl <;> rfl)
    · refine x_iload_n d_PP_plain_30 rfl rfl ?_
      refine x_bipush 59 d_PP_plain_31 (by decide) ?_
      refine x_icmp_ne 38 d_PP_plain_33 (by decide) (fun c_33 => ?_) (fun c_33 => ?_)
      · exact h38 (fun y => y.2.elim (fun z => c_27 z) (fun z => c_33 z))
      · refine x_iconst 1 d_PP_plain_36 (by decide) ?_
        exact x_ireturn d_PP_plain_37 rfl rfl (by
          obtain ⟨a, rfl⟩ := List.length_eq_one_iff.mp ((g_nIne (b := 1) (by omega) (by decide)).mp c_21)
          have hz : a = 33 ∨ a = 59 := Or.inr c_33
          refine ⟨?_, rfl, fun _ _ => rfl, rfl, rfl⟩
          rcases hz with rfl | rfl <;> rfl)
