set_option maxRecDepth 20000 in
theorem w_PP_print {E : xR} {W : xH} {u : Nat → Nat} {N n' r z q : Nat} {t : Nat × Std.Format} {T : List (List Int32)} {Na B : Nat → Nat → Int32} {Nm : Nat → Int64} {xa xb xc : Int32} {Wk Nx Sn P0 : Nat → Int32} (hu : ∀ i, u i < 256) (hN : g_HN W T Na) (hT : g_HT W B Nm (nI z) (nI q)) (hz : z ≤ 1000) (hq : q ≤ 1000) (hm : g_mT u N T B Nm z q t r) (hQ : g_Q u N (g_nd t g_nil) 0 n' z) (h44 : W 44 = .inr (9, [.ref 45, .ref 46, .ref 47, .ref 48, .int xa, .int xb, .int xc])) (h45 : W 45 = .inl (1, 4096, .inl P0)) (h46 : W 46 = .inl (0, 9000, .inl Wk)) (h47 : W 47 = .inl (0, 9000, .inl Nx)) (h48 : W 48 = .inl (0, 4200, .inl Sn)) : x_Mt E M_PP_print 9 0 0 [.ref 44, .ref 24, .ref 31, .int (nI r), .null] 52 W (g_PPQ W P0 (g_pt u t)) := by
  obtain ⟨L, kids⟩ := t
  obtain ⟨⟨hl, hw, -⟩, ⟨n1, n2, hv0, hvo, e⟩, hsz⟩ := hQ
  have e : n' = n2 := e
  subst e
  have hsz : 1 + g_sz kids + 0 = z := hsz
  obtain ⟨hr, hR, f, hf, hF⟩ := hm
  have hF4 := g_MFor (Z := (g_pt u (L, kids)).length) (Lp := g_PLp E W P0 (g_PPQ W P0 (g_pt u (L, kids)))) (T := T) (B := B) (Nm := Nm) (z := z) (q := q) hu (by omega) (by omega) (w_PP_M1 hN hT) (w_PP_M2 hN hT) (w_PP_M3 hN hT) (w_PP_M4 hT) (w_PP_M5 hT) (w_PP_M5n hT) (w_PP_M6 hN hT) (w_PP_M7 hN hT) (w_PP_M8 hN hT) (w_PP_M9 hN hT) (w_PP_M10 hN hT) (w_PP_M11 hN hT) w_PP_M12 w_PP_M13 kids hw
  have hvl := g_vo_le kids hw _ _ hvo
  have hn1 : n1 ≤ 1 := by
    by_cases k0 : L % 8 = 0
    · have := hv0.1 k0; omega
    · have := hv0.2 k0; omega
  have hLp : g_PLp E W P0 (g_PPQ W P0 (g_pt u (L, kids))) (0 + 1) [] 0 (upd Wk 0 (nI r)) (upd Nx 0 0) := g_MSy (L := L) (kids := kids) hu (by omega) (by omega) (w_PP_M1 hN hT) (w_PP_M2 hN hT) (w_PP_M3 hN hT) (w_PP_M4 hT) (w_PP_M5 hT) (w_PP_M5n hT) w_PP_M13 hl hw hF4.1 hF4.2.2.1 hr hR hf hF hv0 hvo (by omega) g_updY g_updY (by omega) (by show 0 + _ ≤ _; rw [Nat.zero_add]; exact Nat.le_refl _) (fun Wk' Nx' _ => w_PP_exit)
  refine x_Mt.of (by decide) (Nat.le_of_ble_eq_true rfl) ?_
  show x_W E M_PP_print _ _ 52 W 0 [(0, .ref 44), (1, .ref 24), (2, .ref 31), (3, .int (nI r)), (4, .null)] [] 0 0
  refine x_aload_n d_PP_print_0 rfl rfl ?_
  refine x_iconst 0 d_PP_print_1 (by decide) ?_
  refine x_put d_PP_print_2 f_PP_25 (Nat.le_of_ble_eq_true rfl) (Nat.le_of_ble_eq_true rfl) (by first | rfl | assumption) (by rfl) (by rfl) (by exact (Nat.le_of_ble_eq_true rfl)) ?_
  refine x_aload_n d_PP_print_5 rfl rfl ?_
  refine x_iconst 0 d_PP_print_6 (by decide) ?_
  refine x_put d_PP_print_7 f_PP_29 (Nat.le_of_ble_eq_true rfl) (Nat.le_of_ble_eq_true rfl) (by first | rfl | assumption) (by rfl) (by rfl) (by exact (Nat.le_of_ble_eq_true rfl)) ?_
  refine x_aload_n d_PP_print_10 rfl rfl ?_
  refine x_iconst 0 d_PP_print_11 (by decide) ?_
  refine x_put d_PP_print_12 f_PP_71 (Nat.le_of_ble_eq_true rfl) (Nat.le_of_ble_eq_true rfl) (by first | rfl | assumption) (by rfl) (by rfl) (by exact (Nat.le_of_ble_eq_true rfl)) ?_
  refine x_iconst 0 d_PP_print_15 (by decide) ?_
  refine x_istore d_PP_print_16 (Nat.le_of_ble_eq_true rfl) ?_
  refine x_aload_n d_PP_print_18 rfl rfl ?_
  refine x_get d_PP_print_19 f_PP_15 (Nat.le_of_ble_eq_true rfl) (Nat.le_of_ble_eq_true rfl) (by first | rfl | assumption) (by rfl) ?_
  refine x_iconst 0 d_PP_print_22 (by decide) ?_
  refine x_iload_n d_PP_print_23 rfl rfl ?_
  refine x_iast d_PP_print_24 (Nat.le_of_ble_eq_true rfl) (Nat.le_of_ble_eq_true rfl) (by first | rfl | assumption) (vp_in_nI (show 0 < 9000 by decide) (by decide)) ?_
  refine x_aload_n d_PP_print_25 rfl rfl ?_
  refine x_get d_PP_print_26 f_PP_19 (Nat.le_of_ble_eq_true rfl) (Nat.le_of_ble_eq_true rfl) (by first | rfl | assumption) (by rfl) ?_
  refine x_iconst 0 d_PP_print_29 (by decide) ?_
  refine x_iconst 0 d_PP_print_30 (by decide) ?_
  refine x_iast d_PP_print_31 (Nat.le_of_ble_eq_true rfl) (Nat.le_of_ble_eq_true rfl) (by first | rfl | assumption) (vp_in_nI (show 0 < 9000 by decide) (by decide)) ?_
  refine x_same (h' := g_yw W [] 0 (upd Wk 0 (nI r)) (upd Nx 0 0) Sn P0) (x_pt rfl rfl rfl rfl rfl rfl rfl rfl rfl rfl rfl rfl rfl rfl rfl rfl rfl rfl rfl rfl rfl rfl rfl rfl rfl rfl rfl rfl rfl rfl rfl rfl rfl rfl rfl rfl rfl rfl rfl rfl rfl rfl rfl rfl rfl h45 rfl rfl h48 rfl rfl rfl) ?_
  refine x_lv [(0, .ref 44), (1, .ref 24), (2, .ref 31), (3, .int (nI r)), (4, .null), (5, .int (nI (0 + 1) - 1))] rfl ?_
  refine x_wk [(0, .ref 44), (1, .ref 24), (2, .ref 31), (4, .null), (5, .int (nI (0 + 1) - 1))] (by simp) ?_
  exact hLp Sn (fun k h => absurd h (Nat.not_lt_zero _))
theorem g_mxI {a b : Nat} (ha : a < 2 ^ 31) (hb : b < 2 ^ 31) : (if nI a < nI b then nI b else nI a) = nI (max a b) := by
  by_cases h : b ≤ a
  · rw [if_neg (Int32.not_lt.mpr ((nI_leI hb ha).mpr h)), Nat.max_eq_left h]
  · rw [if_pos (Int32.not_le.mp fun y => h ((nI_leI hb ha).mp y)), Nat.max_eq_right (by omega)]
theorem g_pus0 {B : Nat → Nat → Int32} {Wk : Nat → Int32} {tp f : Nat} : g_pus B Wk tp f 0 = Wk := by
  funext k; unfold g_pus; rw [if_neg (by omega)]
theorem g_lus0 {Lv : Nat → Int32} {tp d : Nat} : g_lus Lv tp d 0 = Lv := by
  funext k; unfold g_lus; rw [if_neg (by omega)]
theorem g_pusS {B : Nat → Nat → Int32} {Wk : Nat → Int32} {tp f i : Nat} : upd (g_pus B Wk tp f i) (tp + i) (B 4 (f + i)) = g_pus B Wk tp f (i + 1) := by
  funext k
  by_cases h : k = tp + i
  · rw [h, g_updY]; unfold g_pus; rw [if_pos ⟨by omega, by omega⟩, show f + (tp + i - tp) = f + i by omega]
  · rw [g_updN h]; unfold g_pus
    by_cases h2 : tp ≤ k ∧ k < tp + i
    · rw [if_pos h2, if_pos ⟨h2.1, by omega⟩]
    · rw [if_neg h2, if_neg (by omega)]
theorem g_lusS {Lv : Nat → Int32} {tp d i : Nat} : upd (g_lus Lv tp d i) (tp + i) (nI d) = g_lus Lv tp d (i + 1) := by
  funext k
  by_cases h : k = tp + i
  · rw [h, g_updY]; unfold g_lus; rw [if_pos ⟨by omega, by omega⟩]
  · rw [g_updN h]; unfold g_lus
    by_cases h2 : tp ≤ k ∧ k < tp + i
    · rw [if_pos h2, if_pos ⟨h2.1, by omega⟩]
    · rw [if_neg h2, if_neg (by omega)]
/-- the world of the depth -/
def g_dw (h : xH) (Wk Lv : Nat → Int32) : xH := x_up (x_up h 49 (.inl (0, 9000, .inl Wk))) 50 (.inl (0, 9000, .inl Lv))
def g_dLp (E : xR) (h : xH) (Q : xK) : g_DpT := fun tp most Wk Lv => x_W E M_MO_depth (x_room 1 0 0) Q 52 (g_dw h Wk Lv) 18 [(0, .ref 21), (2, .int (nI most)), (3, .int (nI tp))] [] 0 0
theorem d_MO_depth_0 : decode M_MO_depth.2.1 0 = .ok (.iconst 0, 1) := by decide +kernel
theorem d_MO_depth_1 : decode M_MO_depth.2.1 1 = .ok (.istore_n 2, 1) := by decide +kernel
theorem d_MO_depth_2 : decode M_MO_depth.2.1 2 = .ok (.iconst 1, 1) := by decide +kernel
theorem d_MO_depth_3 : decode M_MO_depth.2.1 3 = .ok (.istore_n 3, 1) := by decide +kernel
theorem d_MO_depth_4 : decode M_MO_depth.2.1 4 = .ok (.aload_n 0, 1) := by decide +kernel
theorem d_MO_depth_5 : decode M_MO_depth.2.1 5 = .ok (.getfield 50, 3) := by decide +kernel
theorem d_MO_depth_8 : decode M_MO_depth.2.1 8 = .ok (.iconst 0, 1) := by decide +kernel
theorem d_MO_depth_9 : decode M_MO_depth.2.1 9 = .ok (.iload_n 1, 1) := by decide +kernel
theorem d_MO_depth_10 : decode M_MO_depth.2.1 10 = .ok (.iastore, 1) := by decide +kernel
theorem d_MO_depth_11 : decode M_MO_depth.2.1 11 = .ok (.aload_n 0, 1) := by decide +kernel
theorem d_MO_depth_12 : decode M_MO_depth.2.1 12 = .ok (.getfield 54, 3) := by decide +kernel
theorem d_MO_depth_15 : decode M_MO_depth.2.1 15 = .ok (.iconst 0, 1) := by decide +kernel
theorem d_MO_depth_16 : decode M_MO_depth.2.1 16 = .ok (.iconst 1, 1) := by decide +kernel
theorem d_MO_depth_17 : decode M_MO_depth.2.1 17 = .ok (.iastore, 1) := by decide +kernel
theorem d_MO_depth_18 : decode M_MO_depth.2.1 18 = .ok (.iload_n 3, 1) := by decide +kernel
theorem d_MO_depth_19 : decode M_MO_depth.2.1 19 = .ok (.ifCond .le 102, 3) := by decide +kernel
theorem d_MO_depth_22 : decode M_MO_depth.2.1 22 = .ok (.iinc 3 (-1), 3) := by decide +kernel
theorem d_MO_depth_25 : decode M_MO_depth.2.1 25 = .ok (.aload_n 0, 1) := by decide +kernel
theorem d_MO_depth_26 : decode M_MO_depth.2.1 26 = .ok (.getfield 50, 3) := by decide +kernel
theorem d_MO_depth_29 : decode M_MO_depth.2.1 29 = .ok (.iload_n 3, 1) := by decide +kernel
theorem d_MO_depth_30 : decode M_MO_depth.2.1 30 = .ok (.iaload, 1) := by decide +kernel
theorem d_MO_depth_31 : decode M_MO_depth.2.1 31 = .ok (.istore 4, 2) := by decide +kernel
theorem d_MO_depth_33 : decode M_MO_depth.2.1 33 = .ok (.aload_n 0, 1) := by decide +kernel
theorem d_MO_depth_34 : decode M_MO_depth.2.1 34 = .ok (.getfield 54, 3) := by decide +kernel
theorem d_MO_depth_37 : decode M_MO_depth.2.1 37 = .ok (.iload_n 3, 1) := by decide +kernel
theorem d_MO_depth_38 : decode M_MO_depth.2.1 38 = .ok (.iaload, 1) := by decide +kernel
theorem d_MO_depth_39 : decode M_MO_depth.2.1 39 = .ok (.istore 5, 2) := by decide +kernel
theorem d_MO_depth_41 : decode M_MO_depth.2.1 41 = .ok (.aload_n 0, 1) := by decide +kernel
theorem d_MO_depth_42 : decode M_MO_depth.2.1 42 = .ok (.getfield 23, 3) := by decide +kernel
theorem d_MO_depth_45 : decode M_MO_depth.2.1 45 = .ok (.getfield 117, 3) := by decide +kernel
theorem d_MO_depth_48 : decode M_MO_depth.2.1 48 = .ok (.iload 4, 2) := by decide +kernel
theorem d_MO_depth_50 : decode M_MO_depth.2.1 50 = .ok (.iaload, 1) := by decide +kernel
theorem d_MO_depth_51 : decode M_MO_depth.2.1 51 = .ok (.ifCond .ne 6, 3) := by decide +kernel
theorem d_MO_depth_54 : decode M_MO_depth.2.1 54 = .ok (.goto (-36), 3) := by decide +kernel
theorem d_MO_depth_57 : decode M_MO_depth.2.1 57 = .ok (.iload_n 2, 1) := by decide +kernel
theorem d_MO_depth_58 : decode M_MO_depth.2.1 58 = .ok (.iload 5, 2) := by decide +kernel
theorem d_MO_depth_60 : decode M_MO_depth.2.1 60 = .ok (.invokestatic 120, 3) := by decide +kernel
theorem d_MO_depth_63 : decode M_MO_depth.2.1 63 = .ok (.istore_n 2, 1) := by decide +kernel
theorem d_MO_depth_64 : decode M_MO_depth.2.1 64 = .ok (.iconst 0, 1) := by decide +kernel
theorem d_MO_depth_65 : decode M_MO_depth.2.1 65 = .ok (.istore 6, 2) := by decide +kernel
theorem d_MO_depth_67 : decode M_MO_depth.2.1 67 = .ok (.iload 6, 2) := by decide +kernel
theorem d_MO_depth_69 : decode M_MO_depth.2.1 69 = .ok (.aload_n 0, 1) := by decide +kernel
theorem d_MO_depth_70 : decode M_MO_depth.2.1 70 = .ok (.getfield 23, 3) := by decide +kernel
theorem d_MO_depth_73 : decode M_MO_depth.2.1 73 = .ok (.getfield 117, 3) := by decide +kernel
theorem d_MO_depth_76 : decode M_MO_depth.2.1 76 = .ok (.iload 4, 2) := by decide +kernel
theorem d_MO_depth_78 : decode M_MO_depth.2.1 78 = .ok (.iaload, 1) := by decide +kernel
theorem d_MO_depth_79 : decode M_MO_depth.2.1 79 = .ok (.if_icmp .ge 39, 3) := by decide +kernel
theorem d_MO_depth_82 : decode M_MO_depth.2.1 82 = .ok (.aload_n 0, 1) := by decide +kernel
theorem d_MO_depth_83 : decode M_MO_depth.2.1 83 = .ok (.getfield 50, 3) := by decide +kernel
theorem d_MO_depth_86 : decode M_MO_depth.2.1 86 = .ok (.iload_n 3, 1) := by decide +kernel
theorem d_MO_depth_87 : decode M_MO_depth.2.1 87 = .ok (.aload_n 0, 1) := by decide +kernel
theorem d_MO_depth_88 : decode M_MO_depth.2.1 88 = .ok (.getfield 23, 3) := by decide +kernel
theorem d_MO_depth_91 : decode M_MO_depth.2.1 91 = .ok (.iload 4, 2) := by decide +kernel
theorem d_MO_depth_93 : decode M_MO_depth.2.1 93 = .ok (.iload 6, 2) := by decide +kernel
theorem d_MO_depth_95 : decode M_MO_depth.2.1 95 = .ok (.invokevirtual 126, 3) := by decide +kernel
theorem d_MO_depth_98 : decode M_MO_depth.2.1 98 = .ok (.iastore, 1) := by decide +kernel
theorem d_MO_depth_99 : decode M_MO_depth.2.1 99 = .ok (.aload_n 0, 1) := by decide +kernel
theorem d_MO_depth_100 : decode M_MO_depth.2.1 100 = .ok (.getfield 54, 3) := by decide +kernel
theorem d_MO_depth_103 : decode M_MO_depth.2.1 103 = .ok (.iload_n 3, 1) := by decide +kernel
theorem d_MO_depth_104 : decode M_MO_depth.2.1 104 = .ok (.iload 5, 2) := by decide +kernel
theorem d_MO_depth_106 : decode M_MO_depth.2.1 106 = .ok (.iconst 1, 1) := by decide +kernel
theorem d_MO_depth_107 : decode M_MO_depth.2.1 107 = .ok (.iadd, 1) := by decide +kernel
theorem d_MO_depth_108 : decode M_MO_depth.2.1 108 = .ok (.iastore, 1) := by decide +kernel
theorem d_MO_depth_109 : decode M_MO_depth.2.1 109 = .ok (.iinc 3 1, 3) := by decide +kernel
theorem d_MO_depth_112 : decode M_MO_depth.2.1 112 = .ok (.iinc 6 1, 3) := by decide +kernel
theorem d_MO_depth_115 : decode M_MO_depth.2.1 115 = .ok (.goto (-48), 3) := by decide +kernel
theorem d_MO_depth_118 : decode M_MO_depth.2.1 118 = .ok (.goto (-100), 3) := by decide +kernel
theorem d_MO_depth_121 : decode M_MO_depth.2.1 121 = .ok (.iload_n 2, 1) := by decide +kernel
theorem d_MO_depth_122 : decode M_MO_depth.2.1 122 = .ok (.ireturn, 1) := by decide +kernel
set_option maxRecDepth 20000 in
theorem w_MO_D1 {E : xR} {h : xH} {Q : xK} {B : Nat → Nat → Int32} {Nm : Nat → Int64} {z q : Int32} {v0 v1 v2 v3 v4 v5 v6 : Value} (h21 : h 21 = .inr (5, [v0, v1, v2, v3, v4, v5, v6, .ref 22, .ref 23, .ref 24, .ref 31, .ref 36, .ref 44, .ref 49, .ref 50])) (hT : g_HT h B Nm z q) : g_D1 B (g_dLp E h Q) := by
  intro tp most Wk Lv r htp hr hW b3 K
  obtain ⟨h24c, hb0, hb1, hb2, hb3, hb4, hb5⟩ := hT
  have hT2 : g_HT h B Nm z q := ⟨h24c, hb0, hb1, hb2, hb3, hb4, hb5⟩

  refine x_iload_n d_MO_depth_18 rfl rfl ?_
  refine x_if_le 121 d_MO_depth_19 (by decide) (fun z => absurd z (show ¬ nI (tp + 1) ≤ nI 0 from nI_ge (by omega) (by omega))) (fun _ => ?_)
  refine x_iinc d_MO_depth_22 rfl (-1) (by decide) (Nat.le_of_ble_eq_true rfl) ?_
  refine x_lv [(0, .ref 21), (2, .int (nI most)), (3, .int (nI tp))] (by rw [g_nsub2]; rfl) ?_
  refine x_aload_n d_MO_depth_25 rfl rfl ?_
  refine x_get d_MO_depth_26 f_MO_50 (Nat.le_of_ble_eq_true rfl) (Nat.le_of_ble_eq_true rfl) (by first | rfl | assumption) (by rfl) ?_
  refine x_iload_n d_MO_depth_29 rfl rfl ?_
  refine x_iald d_MO_depth_30 (Nat.le_of_ble_eq_true rfl) (Nat.le_of_ble_eq_true rfl) (by first | rfl | assumption) (vp_in_nI (show tp < 9000 by omega) (by decide)) ?_
  refine x_topi (nI r) (by rw [nI_clamp (by omega)]; exact hW) ?_
  refine x_istore d_MO_depth_31 (Nat.le_of_ble_eq_true rfl) ?_
  refine x_aload_n d_MO_depth_33 rfl rfl ?_
  refine x_get d_MO_depth_34 f_MO_54 (Nat.le_of_ble_eq_true rfl) (Nat.le_of_ble_eq_true rfl) (by first | rfl | assumption) (by rfl) ?_
  refine x_iload_n d_MO_depth_37 rfl rfl ?_
  refine x_iald d_MO_depth_38 (Nat.le_of_ble_eq_true rfl) (Nat.le_of_ble_eq_true rfl) (by first | rfl | assumption) (vp_in_nI (show tp < 9000 by omega) (by decide)) ?_
  refine x_topi (Lv tp) (by rw [nI_clamp (by omega)]) ?_
  refine x_istore d_MO_depth_39 (Nat.le_of_ble_eq_true rfl) ?_
  refine x_aload_n d_MO_depth_41 rfl rfl ?_
  refine x_get d_MO_depth_42 f_MO_23 (Nat.le_of_ble_eq_true rfl) (Nat.le_of_ble_eq_true rfl) (by first | rfl | assumption) (by rfl) ?_
  refine x_get d_MO_depth_45 f_MO_117 (Nat.le_of_ble_eq_true rfl) (Nat.le_of_ble_eq_true rfl) (by first | rfl | assumption) (by rfl) ?_
  refine x_iload d_MO_depth_48 rfl ?_
  refine x_iald d_MO_depth_50 (Nat.le_of_ble_eq_true rfl) (Nat.le_of_ble_eq_true rfl) (by first | rfl | assumption) (vp_in_nI (show r < 9000 by omega) (by decide)) ?_
  refine x_topi 0 (by rw [nI_clamp (by omega)]; exact b3) ?_
  refine x_if_ne 57 d_MO_depth_51 (by decide) (fun z => absurd rfl z) (fun _ => ?_)
  refine x_goto 18 d_MO_depth_54 (by decide) ?_
  refine x_lv [(0, .ref 21), (2, .int (nI most)), (3, .int (nI tp)), (4, .int (nI r)), (5, .int (Lv tp))] rfl ?_
  refine x_wk [(0, .ref 21), (2, .int (nI most)), (3, .int (nI tp))] (by simp) ?_
  exact K
set_option maxRecDepth 20000 in
theorem w_MO_D2 {E : xR} {h : xH} {Q : xK} {B : Nat → Nat → Int32} {Nm : Nat → Int64} {z q : Int32} {v0 v1 v2 v3 v4 v5 v6 : Value} (h21 : h 21 = .inr (5, [v0, v1, v2, v3, v4, v5, v6, .ref 22, .ref 23, .ref 24, .ref 31, .ref 36, .ref 44, .ref 49, .ref 50])) (hT : g_HT h B Nm z q) : g_D2 B (g_dLp E h Q) := by
  intro tp most Wk Lv r d mm f htp hr hd hmo hf9 hm0 hW hL b3 hf K
  obtain ⟨h24c, hb0, hb1, hb2, hb3, hb4, hb5⟩ := hT
  have hT2 : g_HT h B Nm z q := ⟨h24c, hb0, hb1, hb2, hb3, hb4, hb5⟩

  have hloop : ∀ m i, i + m = mm → x_W E M_MO_depth (x_room 1 0 0) Q 52 (g_dw h (g_pus B Wk tp f i) (g_lus Lv tp (d + 1) i)) 67 [(0, .ref 21), (2, .int (nI (max most d))), (3, .int (nI (tp + i))), (4, .int (nI r)), (5, .int (nI d)), (6, .int (nI i))] [] 0 0 := by
    intro m
    induction m with
    | zero =>
      intro i hi
      obtain rfl : i = mm := by omega
      refine x_iload d_MO_depth_67 rfl ?_
      refine x_aload_n d_MO_depth_69 rfl rfl ?_
      refine x_get d_MO_depth_70 f_MO_23 (Nat.le_of_ble_eq_true rfl) (Nat.le_of_ble_eq_true rfl) (by first | rfl | assumption) (by rfl) ?_
      refine x_get d_MO_depth_73 f_MO_117 (Nat.le_of_ble_eq_true rfl) (Nat.le_of_ble_eq_true rfl) (by first | rfl | assumption) (by rfl) ?_
      refine x_iload d_MO_depth_76 rfl ?_
      refine x_iald d_MO_depth_78 (Nat.le_of_ble_eq_true rfl) (Nat.le_of_ble_eq_true rfl) (by first | rfl | assumption) (vp_in_nI (show r < 9000 by omega) (by decide)) ?_
      refine x_topi (nI i) (by rw [nI_clamp (by omega)]; exact b3) ?_
      refine x_icmp_ge 118 d_MO_depth_79 (by decide) (fun _ => ?_) (fun z => absurd (nI_le (Nat.le_refl _) (by omega)) z)
      refine x_goto 18 d_MO_depth_118 (by decide) ?_
      refine x_wk [(0, .ref 21), (2, .int (nI (max most d))), (3, .int (nI (tp + i)))] (by simp) ?_
      exact K
    | succ m ih =>
      intro i hi
      refine x_iload d_MO_depth_67 rfl ?_
      refine x_aload_n d_MO_depth_69 rfl rfl ?_
      refine x_get d_MO_depth_70 f_MO_23 (Nat.le_of_ble_eq_true rfl) (Nat.le_of_ble_eq_true rfl) (by first | rfl | assumption) (by rfl) ?_
      refine x_get d_MO_depth_73 f_MO_117 (Nat.le_of_ble_eq_true rfl) (Nat.le_of_ble_eq_true rfl) (by first | rfl | assumption) (by rfl) ?_
      refine x_iload d_MO_depth_76 rfl ?_
      refine x_iald d_MO_depth_78 (Nat.le_of_ble_eq_true rfl) (Nat.le_of_ble_eq_true rfl) (by first | rfl | assumption) (vp_in_nI (show r < 9000 by omega) (by decide)) ?_
      refine x_topi (nI mm) (by rw [nI_clamp (by omega)]; exact b3) ?_
      refine x_icmp_ge 118 d_MO_depth_79 (by decide) (fun z => absurd z (nI_ge (by omega) (by omega))) (fun _ => ?_)
      refine x_aload_n d_MO_depth_82 rfl rfl ?_
      refine x_get d_MO_depth_83 f_MO_50 (Nat.le_of_ble_eq_true rfl) (Nat.le_of_ble_eq_true rfl) (by first | rfl | assumption) (by rfl) ?_
      refine x_iload_n d_MO_depth_86 rfl rfl ?_
      refine x_aload_n d_MO_depth_87 rfl rfl ?_
      refine x_get d_MO_depth_88 f_MO_23 (Nat.le_of_ble_eq_true rfl) (Nat.le_of_ble_eq_true rfl) (by first | rfl | assumption) (by rfl) ?_
      refine x_iload d_MO_depth_91 rfl ?_
      refine x_iload d_MO_depth_93 rfl ?_
      refine x_callV2Y d_MO_depth_95 k_MO_126 (Nat.le_of_ble_eq_true rfl) (Nat.le_of_ble_eq_true rfl) h24c (by rfl) (q_part (i := i) (f := f) hT2 hr hf (by omega)) (Nat.le_of_ble_eq_true rfl) (Nat.le_of_ble_eq_true rfl) (Nat.le_of_ble_eq_true rfl) (Nat.le_of_ble_eq_true rfl) (Nat.le_of_ble_eq_true rfl) rfl ?_
      refine x_iast d_MO_depth_98 (Nat.le_of_ble_eq_true rfl) (Nat.le_of_ble_eq_true rfl) (by first | rfl | assumption) (vp_in_nI (show tp + i < 9000 by omega) (by decide)) ?_
      refine x_aload_n d_MO_depth_99 rfl rfl ?_
      refine x_get d_MO_depth_100 f_MO_54 (Nat.le_of_ble_eq_true rfl) (Nat.le_of_ble_eq_true rfl) (by first | rfl | assumption) (by rfl) ?_
      refine x_iload_n d_MO_depth_103 rfl rfl ?_
      refine x_iload d_MO_depth_104 rfl ?_
      refine x_iconst 1 d_MO_depth_106 (by decide) ?_
      refine x_iadd d_MO_depth_107 ?_
      refine x_topi (nI (d + 1)) (nI_succ _).symm ?_
      refine x_iast d_MO_depth_108 (Nat.le_of_ble_eq_true rfl) (Nat.le_of_ble_eq_true rfl) (by first | rfl | assumption) (vp_in_nI (show tp + i < 9000 by omega) (by decide)) ?_
      refine x_iinc d_MO_depth_109 rfl 1 (by decide) (Nat.le_of_ble_eq_true rfl) ?_
      refine x_iinc d_MO_depth_112 rfl 1 (by decide) (Nat.le_of_ble_eq_true rfl) ?_
      refine x_goto 67 d_MO_depth_115 (by decide) ?_
      refine x_same (h' := (g_dw h (g_pus B Wk tp f (i + 1)) (g_lus Lv tp (d + 1) (i + 1)))) (x_pt rfl rfl rfl rfl rfl rfl rfl rfl rfl rfl rfl rfl rfl rfl rfl rfl rfl rfl rfl rfl rfl rfl rfl rfl rfl rfl rfl rfl rfl rfl rfl rfl rfl rfl rfl rfl rfl rfl rfl rfl rfl rfl rfl rfl rfl rfl rfl rfl rfl (show (Sum.inl (0, 9000, Sum.inl (upd (g_pus B Wk tp f i) (nI (tp + i)).toNatClampNeg (B 4 (f + i)))) : xE) = Sum.inl (0, 9000, Sum.inl (g_pus B Wk tp f (i + 1))) by rw [nI_clamp (by omega), g_pusS]) (show (Sum.inl (0, 9000, Sum.inl (upd (g_lus Lv tp (d + 1) i) (nI (tp + i)).toNatClampNeg (nI (d + 1)))) : xE) = Sum.inl (0, 9000, Sum.inl (g_lus Lv tp (d + 1) (i + 1))) by rw [nI_clamp (by omega), g_lusS]) rfl) ?_
      refine x_lv [(0, .ref 21), (2, .int (nI (max most d))), (3, .int (nI (tp + (i + 1)))), (4, .int (nI r)), (5, .int (nI d)), (6, .int (nI (i + 1)))] (by rw [nI_succ i, ← Nat.add_assoc, nI_succ (tp + i)]; rfl) ?_
      exact ih (i + 1) (by omega)
  refine x_iload_n d_MO_depth_18 rfl rfl ?_
  refine x_if_le 121 d_MO_depth_19 (by decide) (fun z => absurd z (show ¬ nI (tp + 1) ≤ nI 0 from nI_ge (by omega) (by omega))) (fun _ => ?_)
  refine x_iinc d_MO_depth_22 rfl (-1) (by decide) (Nat.le_of_ble_eq_true rfl) ?_
  refine x_lv [(0, .ref 21), (2, .int (nI most)), (3, .int (nI tp))] (by rw [g_nsub2]; rfl) ?_
  refine x_aload_n d_MO_depth_25 rfl rfl ?_
  refine x_get d_MO_depth_26 f_MO_50 (Nat.le_of_ble_eq_true rfl) (Nat.le_of_ble_eq_true rfl) (by first | rfl | assumption) (by rfl) ?_
  refine x_iload_n d_MO_depth_29 rfl rfl ?_
  refine x_iald d_MO_depth_30 (Nat.le_of_ble_eq_true rfl) (Nat.le_of_ble_eq_true rfl) (by first | rfl | assumption) (vp_in_nI (show tp < 9000 by omega) (by decide)) ?_
  refine x_topi (nI r) (by rw [nI_clamp (by omega)]; exact hW) ?_
  refine x_istore d_MO_depth_31 (Nat.le_of_ble_eq_true rfl) ?_
  refine x_aload_n d_MO_depth_33 rfl rfl ?_
  refine x_get d_MO_depth_34 f_MO_54 (Nat.le_of_ble_eq_true rfl) (Nat.le_of_ble_eq_true rfl) (by first | rfl | assumption) (by rfl) ?_
  refine x_iload_n d_MO_depth_37 rfl rfl ?_
  refine x_iald d_MO_depth_38 (Nat.le_of_ble_eq_true rfl) (Nat.le_of_ble_eq_true rfl) (by first | rfl | assumption) (vp_in_nI (show tp < 9000 by omega) (by decide)) ?_
  refine x_topi (nI d) (by rw [nI_clamp (by omega)]; exact hL) ?_
  refine x_istore d_MO_depth_39 (Nat.le_of_ble_eq_true rfl) ?_
  refine x_aload_n d_MO_depth_41 rfl rfl ?_
  refine x_get d_MO_depth_42 f_MO_23 (Nat.le_of_ble_eq_true rfl) (Nat.le_of_ble_eq_true rfl) (by first | rfl | assumption) (by rfl) ?_
  refine x_get d_MO_depth_45 f_MO_117 (Nat.le_of_ble_eq_true rfl) (Nat.le_of_ble_eq_true rfl) (by first | rfl | assumption) (by rfl) ?_
  refine x_iload d_MO_depth_48 rfl ?_
  refine x_iald d_MO_depth_50 (Nat.le_of_ble_eq_true rfl) (Nat.le_of_ble_eq_true rfl) (by first | rfl | assumption) (vp_in_nI (show r < 9000 by omega) (by decide)) ?_
  refine x_topi (nI mm) (by rw [nI_clamp (by omega)]; exact b3) ?_
  refine x_if_ne 57 d_MO_depth_51 (by decide) (fun _ => ?_) (fun z => absurd z (g_mmz hm0 (by omega)))
  refine x_iload_n d_MO_depth_57 rfl rfl ?_
  refine x_iload d_MO_depth_58 rfl ?_
  refine x_mmax d_MO_depth_60 (x_mem 1298 (by decide +kernel) (by decide +kernel)) k_MO_120 (Nat.le_of_ble_eq_true rfl) (Nat.le_of_ble_eq_true rfl) (Nat.le_of_ble_eq_true rfl) (Nat.le_of_ble_eq_true rfl) (Nat.le_of_ble_eq_true rfl) ?_
  refine x_topi (nI (max most d)) (g_mxI (by omega) (by omega)) ?_
  refine x_istore_n d_MO_depth_63 rfl (Nat.le_of_ble_eq_true rfl) ?_
  refine x_iconst 0 d_MO_depth_64 (by decide) ?_
  refine x_istore d_MO_depth_65 (Nat.le_of_ble_eq_true rfl) ?_
  have hgo := hloop mm 0 (by omega)
  rw [g_pus0, g_lus0] at hgo
  exact hgo
set_option maxRecDepth 20000 in
theorem w_MO_depth {E : xR} {h : xH} {u : Nat → Nat} {N n' r z q : Nat} {t : Nat × Std.Format} {T : List (List Int32)} {B : Nat → Nat → Int32} {Nm : Nat → Int64} {v0 v1 v2 v3 v4 v5 v6 : Value} (h21 : h 21 = .inr (5, [v0, v1, v2, v3, v4, v5, v6, .ref 22, .ref 23, .ref 24, .ref 31, .ref 36, .ref 44, .ref 49, .ref 50])) (hT : g_HT h B Nm (nI z) (nI q)) (hz : z ≤ 1000) (hq : q ≤ 1000) (hm : g_mT u N T B Nm z q t r) (hQ : g_Q u N (g_nd t g_nil) 0 n' z) (h49 : ∃ Wk, h 49 = .inl (0, 9000, .inl Wk)) (h50 : ∃ Lv, h 50 = .inl (0, 9000, .inl Lv)) : x_Mt E M_MO_depth 1 0 0 [.ref 21, .int (nI r)] 52 h (x_YE (fun v h1 => v = some (.int (nI (g_dt t))) ∧ ∃ Wk Lv, h1 = g_dw h Wk Lv)) := by
  obtain ⟨L, kids⟩ := t
  obtain ⟨⟨hl, hw, -⟩, -, hsz⟩ := hQ
  have hsz : 1 + g_sz kids + 0 = z := hsz
  obtain ⟨hr, hR, f, hf, hF⟩ := hm
  obtain ⟨Wk, h49⟩ := h49
  obtain ⟨Lv, h50⟩ := h50
  have hdt : max 0 (if g_sz kids = 0 then 0 else 1 + g_dp kids) = g_dt (L, kids) := by rw [Nat.zero_max]; rfl
  have hF1 := g_DFor (T := T) (Nm := Nm) (Lp := g_dLp E h (x_YE (fun v h1 => v = some (.int (nI (g_dt (L, kids)))) ∧ ∃ Wk Lv, h1 = g_dw h Wk Lv))) (z := z) (q := q) (by omega) (by omega) (w_MO_D1 h21 hT) (w_MO_D2 h21 hT) kids hw
  have hLp : g_dLp E h (x_YE (fun v h1 => v = some (.int (nI (g_dt (L, kids)))) ∧ ∃ Wk Lv, h1 = g_dw h Wk Lv)) (0 + 1) 0 (upd Wk 0 (nI r)) (upd Lv 0 (nI 1)) := g_Dt (L := L) (kids := kids) (d := 1) (by omega) (by omega) (w_MO_D1 h21 hT) (w_MO_D2 h21 hT) hl hw hF1 hr hR hf hF (by decide) g_updY g_updY (by omega) (by omega) (by decide) (fun Wk' Lv' _ => by
    rw [hdt]
    unfold g_dLp
    refine x_iload_n d_MO_depth_18 rfl rfl ?_
    refine x_if_le 121 d_MO_depth_19 (by decide) (fun _ => ?_) (fun z => absurd (by decide) z)
    refine x_iload_n d_MO_depth_121 rfl rfl ?_
    exact x_ireturn d_MO_depth_122 rfl rfl (x_YEi _ ⟨rfl, Wk', Lv', rfl⟩ (fun _ _ => rfl)))
  refine x_Mt.of (by decide) (Nat.le_of_ble_eq_true rfl) ?_
  show x_W E M_MO_depth _ _ 52 h 0 [(0, .ref 21), (1, .int (nI r))] [] 0 0
  refine x_iconst 0 d_MO_depth_0 (by decide) ?_
  refine x_istore_n d_MO_depth_1 rfl (Nat.le_of_ble_eq_true rfl) ?_
  refine x_iconst 1 d_MO_depth_2 (by decide) ?_
  refine x_istore_n d_MO_depth_3 rfl (Nat.le_of_ble_eq_true rfl) ?_
  refine x_aload_n d_MO_depth_4 rfl rfl ?_
  refine x_get d_MO_depth_5 f_MO_50 (Nat.le_of_ble_eq_true rfl) (Nat.le_of_ble_eq_true rfl) (by first | rfl | assumption) (by rfl) ?_
  refine x_iconst 0 d_MO_depth_8 (by decide) ?_
  refine x_iload_n d_MO_depth_9 rfl rfl ?_
  refine x_iast d_MO_depth_10 (Nat.le_of_ble_eq_true rfl) (Nat.le_of_ble_eq_true rfl) (by first | rfl | assumption) (vp_in_nI (show 0 < 9000 by decide) (by decide)) ?_
  refine x_aload_n d_MO_depth_11 rfl rfl ?_
  refine x_get d_MO_depth_12 f_MO_54 (Nat.le_of_ble_eq_true rfl) (Nat.le_of_ble_eq_true rfl) (by first | rfl | assumption) (by rfl) ?_
  refine x_iconst 0 d_MO_depth_15 (by decide) ?_
  refine x_iconst 1 d_MO_depth_16 (by decide) ?_
  refine x_iast d_MO_depth_17 (Nat.le_of_ble_eq_true rfl) (Nat.le_of_ble_eq_true rfl) (by first | rfl | assumption) (vp_in_nI (show 0 < 9000 by decide) (by decide)) ?_
  refine x_same (h' := g_dw h (upd Wk 0 (nI r)) (upd Lv 0 (nI 1))) (x_pt rfl rfl rfl rfl rfl rfl rfl rfl rfl rfl rfl rfl rfl rfl rfl rfl rfl rfl rfl rfl rfl rfl rfl rfl rfl rfl rfl rfl rfl rfl rfl rfl rfl rfl rfl rfl rfl rfl rfl rfl rfl rfl rfl rfl rfl rfl rfl rfl rfl rfl rfl rfl) ?_
  refine x_lv [(0, .ref 21), (1, .int (nI r)), (2, .int (nI 0)), (3, .int (nI (0 + 1)))] rfl ?_
  refine x_wk [(0, .ref 21), (2, .int (nI 0)), (3, .int (nI (0 + 1)))] (by simp) ?_
  exact hLp
