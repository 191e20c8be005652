theorem d_PA_list_0 : decode M_PA_list.2.1 0 = .ok (.aload_n 0, 1) := by decide +kernel
theorem d_PA_list_1 : decode M_PA_list.2.1 1 = .ok (.iconst 4, 1) := by decide +kernel
theorem d_PA_list_2 : decode M_PA_list.2.1 2 = .ok (.invokevirtual 137, 3) := by decide +kernel
theorem d_PA_list_5 : decode M_PA_list.2.1 5 = .ok (.istore_n 2, 1) := by decide +kernel
theorem d_PA_list_6 : decode M_PA_list.2.1 6 = .ok (.aload_n 0, 1) := by decide +kernel
theorem d_PA_list_7 : decode M_PA_list.2.1 7 = .ok (.getfield 12, 3) := by decide +kernel
theorem d_PA_list_10 : decode M_PA_list.2.1 10 = .ok (.invokevirtual 56, 3) := by decide +kernel
theorem d_PA_list_13 : decode M_PA_list.2.1 13 = .ok (.aload_n 0, 1) := by decide +kernel
theorem d_PA_list_14 : decode M_PA_list.2.1 14 = .ok (.sipush 999, 3) := by decide +kernel
theorem d_PA_list_17 : decode M_PA_list.2.1 17 = .ok (.iload_n 1, 1) := by decide +kernel
theorem d_PA_list_18 : decode M_PA_list.2.1 18 = .ok (.iconst 1, 1) := by decide +kernel
theorem d_PA_list_19 : decode M_PA_list.2.1 19 = .ok (.iadd, 1) := by decide +kernel
theorem d_PA_list_20 : decode M_PA_list.2.1 20 = .ok (.invokevirtual 39, 3) := by decide +kernel
theorem d_PA_list_23 : decode M_PA_list.2.1 23 = .ok (.istore_n 3, 1) := by decide +kernel
theorem d_PA_list_24 : decode M_PA_list.2.1 24 = .ok (.aload_n 0, 1) := by decide +kernel
theorem d_PA_list_25 : decode M_PA_list.2.1 25 = .ok (.getfield 21, 3) := by decide +kernel
theorem d_PA_list_28 : decode M_PA_list.2.1 28 = .ok (.iload_n 2, 1) := by decide +kernel
theorem d_PA_list_29 : decode M_PA_list.2.1 29 = .ok (.iload_n 3, 1) := by decide +kernel
theorem d_PA_list_30 : decode M_PA_list.2.1 30 = .ok (.invokevirtual 127, 3) := by decide +kernel
theorem d_PA_list_33 : decode M_PA_list.2.1 33 = .ok (.iconst 0, 1) := by decide +kernel
theorem d_PA_list_34 : decode M_PA_list.2.1 34 = .ok (.istore 4, 2) := by decide +kernel
theorem d_PA_list_36 : decode M_PA_list.2.1 36 = .ok (.iload 4, 2) := by decide +kernel
theorem d_PA_list_38 : decode M_PA_list.2.1 38 = .ok (.sipush 4096, 3) := by decide +kernel
theorem d_PA_list_41 : decode M_PA_list.2.1 41 = .ok (.if_icmp .ge 67, 3) := by decide +kernel
theorem d_PA_list_44 : decode M_PA_list.2.1 44 = .ok (.aload_n 0, 1) := by decide +kernel
theorem d_PA_list_45 : decode M_PA_list.2.1 45 = .ok (.getfield 12, 3) := by decide +kernel
theorem d_PA_list_48 : decode M_PA_list.2.1 48 = .ok (.getfield 72, 3) := by decide +kernel
theorem d_PA_list_51 : decode M_PA_list.2.1 51 = .ok (.getstatic 152, 3) := by decide +kernel
theorem d_PA_list_54 : decode M_PA_list.2.1 54 = .ok (.if_acmp .ne 54, 3) := by decide +kernel
theorem d_PA_list_57 : decode M_PA_list.2.1 57 = .ok (.aload_n 0, 1) := by decide +kernel
theorem d_PA_list_58 : decode M_PA_list.2.1 58 = .ok (.iconst 4, 1) := by decide +kernel
theorem d_PA_list_59 : decode M_PA_list.2.1 59 = .ok (.invokevirtual 137, 3) := by decide +kernel
theorem d_PA_list_62 : decode M_PA_list.2.1 62 = .ok (.istore 5, 2) := by decide +kernel
theorem d_PA_list_64 : decode M_PA_list.2.1 64 = .ok (.aload_n 0, 1) := by decide +kernel
theorem d_PA_list_65 : decode M_PA_list.2.1 65 = .ok (.getfield 12, 3) := by decide +kernel
theorem d_PA_list_68 : decode M_PA_list.2.1 68 = .ok (.invokevirtual 56, 3) := by decide +kernel
theorem d_PA_list_71 : decode M_PA_list.2.1 71 = .ok (.aload_n 0, 1) := by decide +kernel
theorem d_PA_list_72 : decode M_PA_list.2.1 72 = .ok (.getfield 21, 3) := by decide +kernel
theorem d_PA_list_75 : decode M_PA_list.2.1 75 = .ok (.iload_n 3, 1) := by decide +kernel
theorem d_PA_list_76 : decode M_PA_list.2.1 76 = .ok (.iload 5, 2) := by decide +kernel
theorem d_PA_list_78 : decode M_PA_list.2.1 78 = .ok (.invokevirtual 140, 3) := by decide +kernel
theorem d_PA_list_81 : decode M_PA_list.2.1 81 = .ok (.aload_n 0, 1) := by decide +kernel
theorem d_PA_list_82 : decode M_PA_list.2.1 82 = .ok (.sipush 999, 3) := by decide +kernel
theorem d_PA_list_85 : decode M_PA_list.2.1 85 = .ok (.iload_n 1, 1) := by decide +kernel
theorem d_PA_list_86 : decode M_PA_list.2.1 86 = .ok (.iconst 1, 1) := by decide +kernel
theorem d_PA_list_87 : decode M_PA_list.2.1 87 = .ok (.iadd, 1) := by decide +kernel
theorem d_PA_list_88 : decode M_PA_list.2.1 88 = .ok (.invokevirtual 39, 3) := by decide +kernel
theorem d_PA_list_91 : decode M_PA_list.2.1 91 = .ok (.istore_n 3, 1) := by decide +kernel
theorem d_PA_list_92 : decode M_PA_list.2.1 92 = .ok (.aload_n 0, 1) := by decide +kernel
theorem d_PA_list_93 : decode M_PA_list.2.1 93 = .ok (.getfield 21, 3) := by decide +kernel
theorem d_PA_list_96 : decode M_PA_list.2.1 96 = .ok (.iload 5, 2) := by decide +kernel
theorem d_PA_list_98 : decode M_PA_list.2.1 98 = .ok (.iload_n 3, 1) := by decide +kernel
theorem d_PA_list_99 : decode M_PA_list.2.1 99 = .ok (.invokevirtual 127, 3) := by decide +kernel
theorem d_PA_list_102 : decode M_PA_list.2.1 102 = .ok (.iinc 4 1, 3) := by decide +kernel
theorem d_PA_list_105 : decode M_PA_list.2.1 105 = .ok (.goto (-69), 3) := by decide +kernel
theorem d_PA_list_108 : decode M_PA_list.2.1 108 = .ok (.aload_n 0, 1) := by decide +kernel
theorem d_PA_list_109 : decode M_PA_list.2.1 109 = .ok (.getfield 12, 3) := by decide +kernel
theorem d_PA_list_112 : decode M_PA_list.2.1 112 = .ok (.getfield 72, 3) := by decide +kernel
theorem d_PA_list_115 : decode M_PA_list.2.1 115 = .ok (.getstatic 159, 3) := by decide +kernel
theorem d_PA_list_118 : decode M_PA_list.2.1 118 = .ok (.if_acmp .ne 31, 3) := by decide +kernel
theorem d_PA_list_121 : decode M_PA_list.2.1 121 = .ok (.aload_n 0, 1) := by decide +kernel
theorem d_PA_list_122 : decode M_PA_list.2.1 122 = .ok (.getfield 12, 3) := by decide +kernel
theorem d_PA_list_125 : decode M_PA_list.2.1 125 = .ok (.invokevirtual 56, 3) := by decide +kernel
theorem d_PA_list_128 : decode M_PA_list.2.1 128 = .ok (.aload_n 0, 1) := by decide +kernel
theorem d_PA_list_129 : decode M_PA_list.2.1 129 = .ok (.getfield 21, 3) := by decide +kernel
theorem d_PA_list_132 : decode M_PA_list.2.1 132 = .ok (.iload_n 3, 1) := by decide +kernel
theorem d_PA_list_133 : decode M_PA_list.2.1 133 = .ok (.aload_n 0, 1) := by decide +kernel
theorem d_PA_list_134 : decode M_PA_list.2.1 134 = .ok (.sipush 999, 3) := by decide +kernel
theorem d_PA_list_137 : decode M_PA_list.2.1 137 = .ok (.iload_n 1, 1) := by decide +kernel
theorem d_PA_list_138 : decode M_PA_list.2.1 138 = .ok (.iconst 1, 1) := by decide +kernel
theorem d_PA_list_139 : decode M_PA_list.2.1 139 = .ok (.iadd, 1) := by decide +kernel
theorem d_PA_list_140 : decode M_PA_list.2.1 140 = .ok (.invokevirtual 39, 3) := by decide +kernel
theorem d_PA_list_143 : decode M_PA_list.2.1 143 = .ok (.invokevirtual 140, 3) := by decide +kernel
theorem d_PA_list_146 : decode M_PA_list.2.1 146 = .ok (.goto 16, 3) := by decide +kernel
theorem d_PA_list_149 : decode M_PA_list.2.1 149 = .ok (.aload_n 0, 1) := by decide +kernel
theorem d_PA_list_150 : decode M_PA_list.2.1 150 = .ok (.getfield 21, 3) := by decide +kernel
theorem d_PA_list_153 : decode M_PA_list.2.1 153 = .ok (.iload_n 3, 1) := by decide +kernel
theorem d_PA_list_154 : decode M_PA_list.2.1 154 = .ok (.aload_n 0, 1) := by decide +kernel
theorem d_PA_list_155 : decode M_PA_list.2.1 155 = .ok (.iconst 5, 1) := by decide +kernel
theorem d_PA_list_156 : decode M_PA_list.2.1 156 = .ok (.invokevirtual 137, 3) := by decide +kernel
theorem d_PA_list_159 : decode M_PA_list.2.1 159 = .ok (.invokevirtual 140, 3) := by decide +kernel
theorem d_PA_list_162 : decode M_PA_list.2.1 162 = .ok (.aload_n 0, 1) := by decide +kernel
theorem d_PA_list_163 : decode M_PA_list.2.1 163 = .ok (.getfield 12, 3) := by decide +kernel
theorem d_PA_list_166 : decode M_PA_list.2.1 166 = .ok (.getstatic 162, 3) := by decide +kernel
theorem d_PA_list_169 : decode M_PA_list.2.1 169 = .ok (.invokevirtual 52, 3) := by decide +kernel
theorem d_PA_list_172 : decode M_PA_list.2.1 172 = .ok (.aload_n 0, 1) := by decide +kernel
theorem d_PA_list_173 : decode M_PA_list.2.1 173 = .ok (.getfield 12, 3) := by decide +kernel
theorem d_PA_list_176 : decode M_PA_list.2.1 176 = .ok (.invokevirtual 56, 3) := by decide +kernel
theorem d_PA_list_179 : decode M_PA_list.2.1 179 = .ok (.iload_n 2, 1) := by decide +kernel
theorem d_PA_list_180 : decode M_PA_list.2.1 180 = .ok (.ireturn, 1) := by decide +kernel
set_option maxRecDepth 20000 in
theorem w_PA_liFin {E : xR} {h : xH} {u : Nat → Nat} {N d op s : Nat} {A : Nat → Nat → Int32} {R : g_Rs} (h2 : h 2 = .inr (1, [.ref 3, .ref 5])) (h1 : h 1 = .inl (1, 4096, .inl (fun i => g_sb (u i)))) (hu : ∀ i, u i < 256) (hN : N ≤ 4096) (hnt : ¬ x_tg E) (hT : g_CT E h u N d) (hop : op + 1 + d = 101) {p1 s1 w1 : Nat} {A1 : Nat → Nat → Int32} {V1 : List (Nat × Nat)} {t : Nat × Std.Format} {z1 z3 z4 : Value} (ok : g_okA A1) (hp1 : p1 ≤ N) (hw : w1 ≤ 1000) (hk1 : ¬ (g_ky (g_at u N) N p1) = 12) (hRL : g_RL A A1 s s1 w1 V1 t (g_nod s)) (hR : g_liC (g_at u N) N p1 s1 V1 t = R) : x_W E M_PA_list (x_room (2 * d + 13) 1 6) (g_Po u N h A s R) 52 (g_pw u N h p1 s1 w1 A1) 162 [(0, .ref 2), (1, z1), (2, .int (nI (g_nod s))), (3, z3), (4, z4)] [] 0 0 := by
  unfold g_liC at hR
  refine x_aload_n d_PA_list_162 rfl rfl ?_
  refine x_get d_PA_list_163 f_PA_12 (Nat.le_of_ble_eq_true rfl) (Nat.le_of_ble_eq_true rfl) (by first | rfl | assumption) (by rfl) ?_
  refine x_gSN (i := 7) d_PA_list_166 (by decide) s_PA_162 ?_
  refine x_callV1B d_PA_list_169 k_PA_52 (Nat.le_of_ble_eq_true rfl) (Nat.le_of_ble_eq_true rfl) g_pw3 (by rfl) (w_SG_mustBe g_pw3 (g_sgk _ (g_kyL (u := u) hp1)).2.2.1 (by decide)) (show 7 + 1 ≤ 2 * d + 13 by omega) (show 8 + (2 + 11) + 64 * (7) ≤ 64 * (2 * d + 13) by omega) (Nat.le_of_ble_eq_true rfl) (Nat.le_of_ble_eq_true rfl) (Nat.le_of_ble_eq_true rfl) rfl (fun c_169 => ?_) (fun c h' e => g_Po_x (Or.inl (hR.symm.trans (if_neg (fun z => of_decide_eq_false c ((g_sgk _ (g_kyL (u := u) hp1)).2.2.2.2.2.2.1.mpr z))))) ⟨rfl, rfl, rfl, rfl, _, _, _, _, _, _, _, _, ok, fun i hi => (e i hi).trans (g_pw_up i hi)⟩)
  have hk7 := (g_sgk _ (g_kyL (u := u) hp1)).2.2.2.2.2.2.1.mp (of_decide_eq_true c_169)
  refine x_aload_n d_PA_list_172 rfl rfl ?_
  refine x_get d_PA_list_173 f_PA_12 (Nat.le_of_ble_eq_true rfl) (Nat.le_of_ble_eq_true rfl) (by first | rfl | assumption) (by rfl) ?_
  refine x_callAdv h1 hu hN ok hp1 hk1 d_PA_list_176 k_PA_56 (show 9 ≤ 2 * d + 13 by omega) (show 8 + 13 + 64 * 8 ≤ 64 * (2 * d + 13) by omega) (Nat.le_of_ble_eq_true rfl) (Nat.le_of_ble_eq_true rfl) (Nat.le_of_ble_eq_true rfl) rfl (fun c_176 => ?_) (fun c h' hx => g_Po_x (Or.inr ⟨_, _, _, _, hR.symm.trans (if_pos hk7), c⟩) hx)
  refine x_iload_n d_PA_list_179 rfl rfl ?_
  exact x_ireturn d_PA_list_180 rfl rfl (g_Po_y (hR.symm.trans (if_pos hk7)) c_176 (g_nodL s) hw ok hRL (fun _ _ => rfl))
set_option maxRecDepth 20000 in
theorem w_PA_liEnd {E : xR} {h : xH} {u : Nat → Nat} {N d op s : Nat} {A : Nat → Nat → Int32} {R : g_Rs} (h2 : h 2 = .inr (1, [.ref 3, .ref 5])) (h1 : h 1 = .inl (1, 4096, .inl (fun i => g_sb (u i)))) (hu : ∀ i, u i < 256) (hN : N ≤ 4096) (hnt : ¬ x_tg E) (hT : g_CT E h u N d) (hop : op + 1 + d = 101) {p1 s1 w1 c j i : Nat} {A1 : Nat → Nat → Int32} {V1 : List (Nat × Nat)} {acc : List (Nat × Std.Format)} (ok : g_okA A1) (hp1 : p1 ≤ N) (hsp : s1 ≤ p1) (hw : w1 ≤ 1000) (hk1 : ¬ (g_ky (g_at u N) N p1) = 12) (hs1 : s + 1 ≤ s1) (hj : j < 1001) (hLI : g_LI A A1 s s1 w1 V1 acc c j) (hR : g_liE (g_at u N) N (g_T (g_at u N) u N d) p1 s1 V1 acc = R) : x_W E M_PA_list (x_room (2 * d + 13) 1 6) (g_Po u N h A s R) 52 (g_pw u N h p1 s1 w1 A1) 108 [(0, .ref 2), (1, .int (nI op)), (2, .int (nI (g_nod s))), (3, .int (nI j)), (4, .int (nI i))] [] 0 0 := by
  obtain ⟨hft, htN, -, -⟩ := (g_tkb (u := u) hp1).2.1 (show (g_tk (g_at u N) N p1).1 ≠ 12 from hk1)
  have hft : (g_fr (g_at u N) N p1) ≤ (g_to (g_at u N) N p1) := hft
  have htN : (g_to (g_at u N) N p1) ≤ N := htN
  have hsg := (g_sgk _ (g_kyL (u := u) hp1)).2.2.1
  have hnb := g_nxb (u := u) hp1 hk1
  unfold g_liE at hR
  refine x_aload_n d_PA_list_108 rfl rfl ?_
  refine x_get d_PA_list_109 f_PA_12 (Nat.le_of_ble_eq_true rfl) (Nat.le_of_ble_eq_true rfl) (by first | rfl | assumption) (by rfl) ?_
  refine x_get d_PA_list_112 f_PA_72 (Nat.le_of_ble_eq_true rfl) (Nat.le_of_ble_eq_true rfl) (by first | rfl | assumption) (by rfl) ?_
  refine x_gSN (i := 10) d_PA_list_115 (by decide) s_PA_159 ?_
  refine x_acmp_ne 149 d_PA_list_118 (by decide) (Or.inl ⟨rfl, rfl⟩) (by first | assumption | decide | omega) (by first | assumption | decide | omega) (fun c_118 => ?_) (fun c_118 => ?_)
  · rw [if_neg (fun z => c_118 ((g_sgk _ (g_kyL (u := u) hp1)).2.2.2.2.2.2.2.1.mpr z))] at hR
    refine x_aload_n d_PA_list_149 rfl rfl ?_
    refine x_get d_PA_list_150 f_PA_21 (Nat.le_of_ble_eq_true rfl) (Nat.le_of_ble_eq_true rfl) (by first | rfl | assumption) (by rfl) ?_
    refine x_iload_n d_PA_list_153 rfl rfl ?_
    refine x_aload_n d_PA_list_154 rfl rfl ?_
    refine x_iconst 5 d_PA_list_155 (by decide) ?_
    refine x_callV1Y d_PA_list_156 k_PA_137 (Nat.le_of_ble_eq_true rfl) (Nat.le_of_ble_eq_true rfl) (by first | rfl | assumption) (by rfl) (w_PA_addSymbol h2 (by omega)) (show 2 + 1 ≤ 2 * d + 13 by omega) (show 8 + (2 + 11) + 64 * (2) ≤ 64 * (2 * d + 13) by omega) (Nat.le_of_ble_eq_true rfl) (Nat.le_of_ble_eq_true rfl) (Nat.le_of_ble_eq_true rfl) rfl ?_
    refine x_callV2Y d_PA_list_159 k_PA_140 (Nat.le_of_ble_eq_true rfl) (Nat.le_of_ble_eq_true rfl) (by first | rfl | assumption) (by rfl) (w_TE_giveNext hj (g_nodL s1)) (show 0 + 1 ≤ 2 * d + 13 by omega) (show 8 + (3 + 11) + 64 * (0) ≤ 64 * (2 * d + 13) by omega) (Nat.le_of_ble_eq_true rfl) (Nat.le_of_ble_eq_true rfl) (Nat.le_of_ble_eq_true rfl) rfl ?_
    refine x_hh (g_pw u N h p1 (s1 + 1) w1 (g_gN (g_addA A1 (g_nod s1) 5 (nI (g_fr (g_at u N) N p1)) (nI (g_to (g_at u N) N p1))) j (g_nod s1))) rfl ?_
    exact w_PA_liFin h2 h1 hu hN hnt hT hop (g_okgN (g_okadd ok _ hft (by omega))) hp1 hw hk1 (g_LIe hs1 (by omega) hLI (g_leaf (L := g_lb 5 0 0) rfl (by decide) (fun z => absurd z (by decide)) (fun q => (hLI q).2.2.2.2))) hR
  · have hk11 : (g_ky (g_at u N) N p1) = 11 := (g_sgk _ (g_kyL (u := u) hp1)).2.2.2.2.2.2.2.1.mp c_118
    have hnb3 := hnb.2.2 (by omega)
    rw [if_pos hk11] at hR
    refine x_aload_n d_PA_list_121 rfl rfl ?_
    refine x_get d_PA_list_122 f_PA_12 (Nat.le_of_ble_eq_true rfl) (Nat.le_of_ble_eq_true rfl) (by first | rfl | assumption) (by rfl) ?_
    refine x_callAdv h1 hu hN ok hp1 hk1 d_PA_list_125 k_PA_56 (show 9 ≤ 2 * d + 13 by omega) (show 8 + 13 + 64 * 8 ≤ 64 * (2 * d + 13) by omega) (Nat.le_of_ble_eq_true rfl) (Nat.le_of_ble_eq_true rfl) (Nat.le_of_ble_eq_true rfl) rfl (fun c_125 => ?_) (fun c h' hx => g_Po_x (hR ▸ g_dd_bd (Or.inl (g_T12 c)) (fun _ _ _ _ z => Or.inl (by unfold g_liC; rw [if_neg (by rw [z]; decide)]))) hx)
    refine x_aload_n d_PA_list_128 rfl rfl ?_
    refine x_get d_PA_list_129 f_PA_21 (Nat.le_of_ble_eq_true rfl) (Nat.le_of_ble_eq_true rfl) (by first | rfl | assumption) (by rfl) ?_
    refine x_iload_n d_PA_list_132 rfl rfl ?_
    refine x_aload_n d_PA_list_133 rfl rfl ?_
    refine x_sipush 999 d_PA_list_134 (by decide) ?_
    refine x_iload_n d_PA_list_137 rfl rfl ?_
    refine x_iconst 1 d_PA_list_138 (by decide) ?_
    refine x_iadd d_PA_list_139 ?_
    refine x_topi (nI (op + 1)) (nI_succ op).symm ?_
    refine x_callV2P d_PA_list_140 k_PA_39 (Nat.le_of_ble_eq_true rfl) (Nat.le_of_ble_eq_true rfl) (by first | rfl | assumption) (by rfl) (hT 999 (g_nx (g_at u N) N p1) s1 w1 (op + 1) A1 V1 (by decide) ok hnb.2.1 (by omega) hw (fun q => (hLI q).2.2.2.2) c_125 hop) (show 2 * d + 12 + 1 ≤ 2 * d + 13 by omega) (show 8 + (5 + 11) + 64 * (2 * d + 12) ≤ 64 * (2 * d + 13) by omega) (Nat.le_of_ble_eq_true rfl) (Nat.le_of_ble_eq_true rfl) (Nat.le_of_ble_eq_true rfl) rfl hnt (fun p3 s3 V3 x3 c3 A3 w3 j3 hr hk3 hj3 hw3 ok3 hRL3 => ?_) (fun q hd h' hx => g_Po_x (hR ▸ g_dd_bd hd (fun _ _ _ _ z => Or.inl (by unfold g_liC; rw [if_neg (by rw [z]; decide)]))) hx)
    have b3 := g_Tb (u := u) d _ (g_nx (g_at u N) N p1) s1 V1 (show 999 ≤ 1200 by decide) hnb.2.1 _ _ _ _ _ hr
    rw [hr] at hR
    refine x_callV2Y d_PA_list_143 k_PA_140 (Nat.le_of_ble_eq_true rfl) (Nat.le_of_ble_eq_true rfl) (by first | rfl | assumption) (by rfl) (w_TE_giveNext hj hj3) (show 0 + 1 ≤ 2 * d + 13 by omega) (show 8 + (3 + 11) + 64 * (0) ≤ 64 * (2 * d + 13) by omega) (Nat.le_of_ble_eq_true rfl) (Nat.le_of_ble_eq_true rfl) (Nat.le_of_ble_eq_true rfl) rfl ?_
    refine x_goto 162 d_PA_list_146 (by decide) ?_
    refine x_hh (g_pw u N h p3 s3 w3 (g_gN A3 j j3)) rfl ?_
    exact w_PA_liFin h2 h1 hu hN hnt hT hop (g_okgN ok3) b3.2.1 hw3 hk3 (g_LIe hs1 (by omega) hLI hRL3) hR
set_option maxRecDepth 20000 in
theorem w_PA_liLoop {E : xR} {h : xH} {u : Nat → Nat} {N d op s : Nat} {A : Nat → Nat → Int32} {R : g_Rs} (h2 : h 2 = .inr (1, [.ref 3, .ref 5])) (h1 : h 1 = .inl (1, 4096, .inl (fun i => g_sb (u i)))) (hu : ∀ i, u i < 256) (hN : N ≤ 4096) (hnt : ¬ x_tg E) (hT : g_CT E h u N d) (hop : op + 1 + d = 101) : ∀ (m i p1 s1 w1 c j : Nat) (A1 : Nat → Nat → Int32) (V1 : List (Nat × Nat)) (acc : List (Nat × Std.Format)), i + m = 4096 → g_okA A1 → p1 ≤ N → s1 ≤ p1 → w1 ≤ 1000 → ¬ (g_ky (g_at u N) N p1) = 12 → s + 1 ≤ s1 → j < 1001 → g_LI A A1 s s1 w1 V1 acc c j → g_liL (g_at u N) N (g_T (g_at u N) u N d) m p1 s1 V1 acc = R → x_W E M_PA_list (x_room (2 * d + 13) 1 6) (g_Po u N h A s R) 52 (g_pw u N h p1 s1 w1 A1) 36 [(0, .ref 2), (1, .int (nI op)), (2, .int (nI (g_nod s))), (3, .int (nI j)), (4, .int (nI i))] [] 0 0 := by
  intro m
  induction m with
  | zero =>
    intro i p1 s1 w1 c j A1 V1 acc hi ok hp1 hsp hw hk1 hs1 hj hLI hR
    obtain rfl : i = 4096 := by omega
    refine x_iload d_PA_list_36 rfl ?_
    refine x_sipush 4096 d_PA_list_38 (by decide) ?_
    refine x_icmp_ge 108 d_PA_list_41 (by decide) (fun _ => ?_) (fun z => absurd (show nI 4096 ≤ nI 4096 by decide) z)
    exact w_PA_liEnd h2 h1 hu hN hnt hT hop ok hp1 hsp hw hk1 hs1 hj hLI hR
  | succ m ih =>
    intro i p1 s1 w1 c j A1 V1 acc hi ok hp1 hsp hw hk1 hs1 hj hLI hR
    obtain ⟨hft, htN, -, -⟩ := (g_tkb (u := u) hp1).2.1 (show (g_tk (g_at u N) N p1).1 ≠ 12 from hk1)
    have hft : (g_fr (g_at u N) N p1) ≤ (g_to (g_at u N) N p1) := hft
    have htN : (g_to (g_at u N) N p1) ≤ N := htN
    have hsg := (g_sgk _ (g_kyL (u := u) hp1)).2.2.1
    have hnb := g_nxb (u := u) hp1 hk1
    rw [g_liL] at hR
    refine x_iload d_PA_list_36 rfl ?_
    refine x_sipush 4096 d_PA_list_38 (by decide) ?_
    refine x_icmp_ge 108 d_PA_list_41 (by decide) (fun z => absurd z (show ¬ nI 4096 ≤ nI i from nI_ge (by omega) (by decide))) (fun _ => ?_)
    refine x_aload_n d_PA_list_44 rfl rfl ?_
    refine x_get d_PA_list_45 f_PA_12 (Nat.le_of_ble_eq_true rfl) (Nat.le_of_ble_eq_true rfl) (by first | rfl | assumption) (by rfl) ?_
    refine x_get d_PA_list_48 f_PA_72 (Nat.le_of_ble_eq_true rfl) (Nat.le_of_ble_eq_true rfl) (by first | rfl | assumption) (by rfl) ?_
    refine x_gSN (i := 9) d_PA_list_51 (by decide) s_PA_152 ?_
    refine x_acmp_ne 108 d_PA_list_54 (by decide) (Or.inl ⟨rfl, rfl⟩) (by first | assumption | decide | omega) (by first | assumption | decide | omega) (fun c_54 => ?_) (fun c_54 => ?_)
    · rw [if_neg (fun z => c_54 ((g_sgk _ (g_kyL (u := u) hp1)).1.mpr z))] at hR
      exact w_PA_liEnd h2 h1 hu hN hnt hT hop ok hp1 hsp hw hk1 hs1 hj hLI hR
    · have hk10 : (g_ky (g_at u N) N p1) = 10 := (g_sgk _ (g_kyL (u := u) hp1)).1.mp c_54
      have hnb3 := hnb.2.2 (by omega)
      rw [if_pos hk10] at hR
      refine x_aload_n d_PA_list_57 rfl rfl ?_
      refine x_iconst 4 d_PA_list_58 (by decide) ?_
      refine x_callV1Y d_PA_list_59 k_PA_137 (Nat.le_of_ble_eq_true rfl) (Nat.le_of_ble_eq_true rfl) (by first | rfl | assumption) (by rfl) (w_PA_addSymbol h2 (by omega)) (show 2 + 1 ≤ 2 * d + 13 by omega) (show 8 + (2 + 11) + 64 * (2) ≤ 64 * (2 * d + 13) by omega) (Nat.le_of_ble_eq_true rfl) (Nat.le_of_ble_eq_true rfl) (Nat.le_of_ble_eq_true rfl) rfl ?_
      refine x_istore d_PA_list_62 (Nat.le_of_ble_eq_true rfl) ?_
      refine x_aload_n d_PA_list_64 rfl rfl ?_
      refine x_get d_PA_list_65 f_PA_12 (Nat.le_of_ble_eq_true rfl) (Nat.le_of_ble_eq_true rfl) (by first | rfl | assumption) (by rfl) ?_
      refine x_callAdv h1 hu hN (g_okadd ok _ hft (by omega)) hp1 hk1 d_PA_list_68 k_PA_56 (show 9 ≤ 2 * d + 13 by omega) (show 8 + 13 + 64 * 8 ≤ 64 * (2 * d + 13) by omega) (Nat.le_of_ble_eq_true rfl) (Nat.le_of_ble_eq_true rfl) (Nat.le_of_ble_eq_true rfl) rfl (fun c_68 => ?_) (fun c h' hx => g_Po_x (hR ▸ g_dd_bd (Or.inl (g_T12 c)) (fun _ _ _ _ z => Or.inl (g_liL12 z))) hx)
      refine x_aload_n d_PA_list_71 rfl rfl ?_
      refine x_get d_PA_list_72 f_PA_21 (Nat.le_of_ble_eq_true rfl) (Nat.le_of_ble_eq_true rfl) (by first | rfl | assumption) (by rfl) ?_
      refine x_iload_n d_PA_list_75 rfl rfl ?_
      refine x_iload d_PA_list_76 rfl ?_
      refine x_callV2Y d_PA_list_78 k_PA_140 (Nat.le_of_ble_eq_true rfl) (Nat.le_of_ble_eq_true rfl) (by first | rfl | assumption) (by rfl) (w_TE_giveNext hj (g_nodL s1)) (show 0 + 1 ≤ 2 * d + 13 by omega) (show 8 + (3 + 11) + 64 * (0) ≤ 64 * (2 * d + 13) by omega) (Nat.le_of_ble_eq_true rfl) (Nat.le_of_ble_eq_true rfl) (Nat.le_of_ble_eq_true rfl) rfl ?_
      refine x_hh (g_pw u N h (g_nx (g_at u N) N p1) (s1 + 1) w1 (g_gN (g_addA A1 (g_nod s1) 4 (nI (g_fr (g_at u N) N p1)) (nI (g_to (g_at u N) N p1))) j (g_nod s1))) rfl ?_
      refine x_aload_n d_PA_list_81 rfl rfl ?_
      refine x_sipush 999 d_PA_list_82 (by decide) ?_
      refine x_iload_n d_PA_list_85 rfl rfl ?_
      refine x_iconst 1 d_PA_list_86 (by decide) ?_
      refine x_iadd d_PA_list_87 ?_
      refine x_topi (nI (op + 1)) (nI_succ op).symm ?_
      refine x_callV2P d_PA_list_88 k_PA_39 (Nat.le_of_ble_eq_true rfl) (Nat.le_of_ble_eq_true rfl) (by first | rfl | assumption) (by rfl) (hT 999 (g_nx (g_at u N) N p1) (s1 + 1) w1 (op + 1) (g_gN (g_addA A1 (g_nod s1) 4 (nI (g_fr (g_at u N) N p1)) (nI (g_to (g_at u N) N p1))) j (g_nod s1)) V1 (by decide) (g_okgN (g_okadd ok _ hft (by omega))) hnb.2.1 (by omega) hw (g_VIaN (fun q => (hLI q).2.2.2.2)) c_68 hop) (show 2 * d + 12 + 1 ≤ 2 * d + 13 by omega) (show 8 + (5 + 11) + 64 * (2 * d + 12) ≤ 64 * (2 * d + 13) by omega) (Nat.le_of_ble_eq_true rfl) (Nat.le_of_ble_eq_true rfl) (Nat.le_of_ble_eq_true rfl) rfl hnt (fun p3 s3 V3 x3 c3 A3 w3 j3 hr hk3 hj3 hw3 ok3 hRL3 => ?_) (fun q hd h' hx => g_Po_x (hR ▸ g_dd_bd hd (fun _ _ _ _ z => Or.inl (g_liL12 z))) hx)
      have b3 := g_Tb (u := u) d _ (g_nx (g_at u N) N p1) (s1 + 1) V1 (show 999 ≤ 1200 by decide) hnb.2.1 _ _ _ _ _ hr
      rw [hr] at hR
      refine x_istore_n d_PA_list_91 rfl (Nat.le_of_ble_eq_true rfl) ?_
      refine x_aload_n d_PA_list_92 rfl rfl ?_
      refine x_get d_PA_list_93 f_PA_21 (Nat.le_of_ble_eq_true rfl) (Nat.le_of_ble_eq_true rfl) (by first | rfl | assumption) (by rfl) ?_
      refine x_iload d_PA_list_96 rfl ?_
      refine x_iload_n d_PA_list_98 rfl rfl ?_
      refine x_callV2Y d_PA_list_99 k_PA_127 (Nat.le_of_ble_eq_true rfl) (Nat.le_of_ble_eq_true rfl) (by first | rfl | assumption) (by rfl) (w_TE_giveFirst (g_nodL s1) hj3) (show 0 + 1 ≤ 2 * d + 13 by omega) (show 8 + (3 + 11) + 64 * (0) ≤ 64 * (2 * d + 13) by omega) (Nat.le_of_ble_eq_true rfl) (Nat.le_of_ble_eq_true rfl) (Nat.le_of_ble_eq_true rfl) rfl ?_
      refine x_hh (g_pw u N h p3 s3 w3 (g_gF A3 (g_nod s1) j3)) rfl ?_
      refine x_iinc d_PA_list_102 rfl 1 (by decide) (Nat.le_of_ble_eq_true rfl) ?_
      refine x_goto 36 d_PA_list_105 (by decide) ?_
      refine x_lv [(0, .ref 2), (1, .int (nI op)), (2, .int (nI (g_nod s))), (3, .int (nI j3)), (4, .int (nI (i + 1))), (5, .int (nI (g_nod s1)))] (by rw [nI_succ i]; rfl) ?_
      refine x_wk [(0, .ref 2), (1, .int (nI op)), (2, .int (nI (g_nod s))), (3, .int (nI j3)), (4, .int (nI (i + 1)))] (by simp) ?_
      exact ih (i + 1) p3 s3 w3 (g_nod s1) j3 (g_gF A3 (g_nod s1) j3) V3 (x3 :: acc) (by omega) (g_okgF ok3) b3.2.1 (by omega) hw3 hk3 (by omega) hj3 (g_LIs hs1 (by omega) hLI hRL3) hR
set_option maxRecDepth 20000 in
theorem w_PA_list {E : xR} {h : xH} {u : Nat → Nat} {N p s w d op : Nat} {A : Nat → Nat → Int32} {V : List (Nat × Nat)} (h2 : h 2 = .inr (1, [.ref 3, .ref 5])) (h1 : h 1 = .inl (1, 4096, .inl (fun i => g_sb (u i)))) (hu : ∀ i, u i < 256) (hN : N ≤ 4096) (hnt : ¬ x_tg E) (hT : g_CT E h u N d) (ok : g_okA A) (hp : p ≤ N) (hsp : s ≤ p) (hw : w ≤ 1000) (hV : s ≤ 1000 → g_VI A s w V) (hop : op + 1 + d = 101) (hk0 : (g_ky (g_at u N) N p) = 6) : x_Mt E M_PA_list (2 * d + 13) 1 6 [.ref 2, .int (nI op)] 52 (g_pw u N h p s w A) (g_Po u N h A s (g_li (g_at u N) N (g_T (g_at u N) u N d) p s V)) := by
  obtain ⟨hft, htN, -, -⟩ := (g_tkb (u := u) hp).2.1 (show (g_tk (g_at u N) N p).1 ≠ 12 from fun z => absurd (hk0.symm.trans z) (by decide))
  have hft : (g_fr (g_at u N) N p) ≤ (g_to (g_at u N) N p) := hft
  have htN : (g_to (g_at u N) N p) ≤ N := htN
  have hk12 : ¬ (g_ky (g_at u N) N p) = 12 := by rw [hk0]; decide
  have hnb := g_nxb (u := u) hp hk12
  have hnb3 := hnb.2.2 (by omega)
  have hok1 := g_okadd ok (i := g_nod s) 4 hft (by omega)
  refine x_Mt.of (by decide) (Nat.le_of_ble_eq_true rfl) ?_
  show x_W E M_PA_list _ _ 52 (g_pw u N h p s w A) 0 [(0, .ref 2), (1, .int (nI op))] [] 0 0
  refine x_aload_n d_PA_list_0 rfl rfl ?_
  refine x_iconst 4 d_PA_list_1 (by decide) ?_
  refine x_callV1Y d_PA_list_2 k_PA_137 (Nat.le_of_ble_eq_true rfl) (Nat.le_of_ble_eq_true rfl) (by first | rfl | assumption) (by rfl) (w_PA_addSymbol h2 (by omega)) (show 2 + 1 ≤ 2 * d + 13 by omega) (show 8 + (2 + 11) + 64 * (2) ≤ 64 * (2 * d + 13) by omega) (Nat.le_of_ble_eq_true rfl) (Nat.le_of_ble_eq_true rfl) (Nat.le_of_ble_eq_true rfl) rfl ?_
  refine x_istore_n d_PA_list_5 rfl (Nat.le_of_ble_eq_true rfl) ?_
  refine x_aload_n d_PA_list_6 rfl rfl ?_
  refine x_get d_PA_list_7 f_PA_12 (Nat.le_of_ble_eq_true rfl) (Nat.le_of_ble_eq_true rfl) (by first | rfl | assumption) (by rfl) ?_
  refine x_callAdv h1 hu hN hok1 hp hk12 d_PA_list_10 k_PA_56 (show 9 ≤ 2 * d + 13 by omega) (show 8 + 13 + 64 * 8 ≤ 64 * (2 * d + 13) by omega) (Nat.le_of_ble_eq_true rfl) (Nat.le_of_ble_eq_true rfl) (Nat.le_of_ble_eq_true rfl) rfl (fun c_10 => ?_) (fun c h' hx => g_Po_x (g_dd_bd (Or.inl (g_T12 c)) (fun _ _ _ _ z => Or.inl (g_liL12 z))) hx)
  refine x_aload_n d_PA_list_13 rfl rfl ?_
  refine x_sipush 999 d_PA_list_14 (by decide) ?_
  refine x_iload_n d_PA_list_17 rfl rfl ?_
  refine x_iconst 1 d_PA_list_18 (by decide) ?_
  refine x_iadd d_PA_list_19 ?_
  refine x_topi (nI (op + 1)) (nI_succ op).symm ?_
  refine x_callV2P d_PA_list_20 k_PA_39 (Nat.le_of_ble_eq_true rfl) (Nat.le_of_ble_eq_true rfl) (by first | rfl | assumption) (by rfl) (hT 999 (g_nx (g_at u N) N p) (s + 1) w (op + 1) (g_addA A (g_nod s) 4 (nI (g_fr (g_at u N) N p)) (nI (g_to (g_at u N) N p))) V (by decide) hok1 hnb.2.1 (by omega) hw (g_VIad hV) c_10 hop) (show 2 * d + 12 + 1 ≤ 2 * d + 13 by omega) (show 8 + (5 + 11) + 64 * (2 * d + 12) ≤ 64 * (2 * d + 13) by omega) (Nat.le_of_ble_eq_true rfl) (Nat.le_of_ble_eq_true rfl) (Nat.le_of_ble_eq_true rfl) rfl hnt (fun p3 s3 V3 x3 c3 A3 w3 j3 hr hk3 hj3 hw3 ok3 hRL3 => ?_) (fun q hd h' hx => g_Po_x (g_dd_bd hd (fun _ _ _ _ z => Or.inl (g_liL12 z))) hx)
  have b3 := g_Tb (u := u) d _ (g_nx (g_at u N) N p) (s + 1) V (show 999 ≤ 1200 by decide) hnb.2.1 _ _ _ _ _ hr
  refine x_istore_n d_PA_list_23 rfl (Nat.le_of_ble_eq_true rfl) ?_
  refine x_aload_n d_PA_list_24 rfl rfl ?_
  refine x_get d_PA_list_25 f_PA_21 (Nat.le_of_ble_eq_true rfl) (Nat.le_of_ble_eq_true rfl) (by first | rfl | assumption) (by rfl) ?_
  refine x_iload_n d_PA_list_28 rfl rfl ?_
  refine x_iload_n d_PA_list_29 rfl rfl ?_
  refine x_callV2Y d_PA_list_30 k_PA_127 (Nat.le_of_ble_eq_true rfl) (Nat.le_of_ble_eq_true rfl) (by first | rfl | assumption) (by rfl) (w_TE_giveFirst (g_nodL s) hj3) (show 0 + 1 ≤ 2 * d + 13 by omega) (show 8 + (3 + 11) + 64 * (0) ≤ 64 * (2 * d + 13) by omega) (Nat.le_of_ble_eq_true rfl) (Nat.le_of_ble_eq_true rfl) (Nat.le_of_ble_eq_true rfl) rfl ?_
  refine x_hh (g_pw u N h p3 s3 w3 (g_gF A3 (g_nod s) j3)) rfl ?_
  refine x_iconst 0 d_PA_list_33 (by decide) ?_
  refine x_istore d_PA_list_34 (Nat.le_of_ble_eq_true rfl) ?_
  exact w_PA_liLoop h2 h1 hu hN hnt hT hop 4096 0 p3 s3 w3 (g_nod s) j3 (g_gF A3 (g_nod s) j3) V3 [x3] rfl (g_okgF ok3) b3.2.1 (by omega) hw3 hk3 (by omega) hj3 (g_LI1 (by omega) hRL3) (Eq.symm (show (g_li (g_at u N) N (g_T (g_at u N) u N d) p s V) = g_liL (g_at u N) N (g_T (g_at u N) u N d) 4096 p3 s3 V3 [x3] by unfold g_li; rw [hr]; rfl))
