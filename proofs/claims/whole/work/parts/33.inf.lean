theorem d_PA_withInfixes_0 : decode M_PA_withInfixes.2.1 0 = .ok (.iload_n 1, 1) := by decide +kernel
theorem d_PA_withInfixes_1 : decode M_PA_withInfixes.2.1 1 = .ok (.istore 5, 2) := by decide +kernel
theorem d_PA_withInfixes_3 : decode M_PA_withInfixes.2.1 3 = .ok (.iload_n 2, 1) := by decide +kernel
theorem d_PA_withInfixes_4 : decode M_PA_withInfixes.2.1 4 = .ok (.istore 6, 2) := by decide +kernel
theorem d_PA_withInfixes_6 : decode M_PA_withInfixes.2.1 6 = .ok (.iconst 0, 1) := by decide +kernel
theorem d_PA_withInfixes_7 : decode M_PA_withInfixes.2.1 7 = .ok (.istore 7, 2) := by decide +kernel
theorem d_PA_withInfixes_9 : decode M_PA_withInfixes.2.1 9 = .ok (.iload 7, 2) := by decide +kernel
theorem d_PA_withInfixes_11 : decode M_PA_withInfixes.2.1 11 = .ok (.sipush 4096, 3) := by decide +kernel
theorem d_PA_withInfixes_14 : decode M_PA_withInfixes.2.1 14 = .ok (.if_icmp .ge 98, 3) := by decide +kernel
theorem d_PA_withInfixes_17 : decode M_PA_withInfixes.2.1 17 = .ok (.aload_n 0, 1) := by decide +kernel
theorem d_PA_withInfixes_18 : decode M_PA_withInfixes.2.1 18 = .ok (.getfield 12, 3) := by decide +kernel
theorem d_PA_withInfixes_21 : decode M_PA_withInfixes.2.1 21 = .ok (.invokestatic 131, 3) := by decide +kernel
theorem d_PA_withInfixes_24 : decode M_PA_withInfixes.2.1 24 = .ok (.astore 8, 2) := by decide +kernel
theorem d_PA_withInfixes_26 : decode M_PA_withInfixes.2.1 26 = .ok (.aload 8, 2) := by decide +kernel
theorem d_PA_withInfixes_28 : decode M_PA_withInfixes.2.1 28 = .ok (.getfield 118, 3) := by decide +kernel
theorem d_PA_withInfixes_31 : decode M_PA_withInfixes.2.1 31 = .ok (.iload_n 3, 1) := by decide +kernel
theorem d_PA_withInfixes_32 : decode M_PA_withInfixes.2.1 32 = .ok (.if_icmp .gt 13, 3) := by decide +kernel
theorem d_PA_withInfixes_35 : decode M_PA_withInfixes.2.1 35 = .ok (.iload 6, 2) := by decide +kernel
theorem d_PA_withInfixes_37 : decode M_PA_withInfixes.2.1 37 = .ok (.aload 8, 2) := by decide +kernel
theorem d_PA_withInfixes_39 : decode M_PA_withInfixes.2.1 39 = .ok (.getfield 134, 3) := by decide +kernel
theorem d_PA_withInfixes_42 : decode M_PA_withInfixes.2.1 42 = .ok (.if_icmp .le 6, 3) := by decide +kernel
theorem d_PA_withInfixes_45 : decode M_PA_withInfixes.2.1 45 = .ok (.iload 5, 2) := by decide +kernel
theorem d_PA_withInfixes_47 : decode M_PA_withInfixes.2.1 47 = .ok (.ireturn, 1) := by decide +kernel
theorem d_PA_withInfixes_48 : decode M_PA_withInfixes.2.1 48 = .ok (.aload_n 0, 1) := by decide +kernel
theorem d_PA_withInfixes_49 : decode M_PA_withInfixes.2.1 49 = .ok (.iconst 3, 1) := by decide +kernel
theorem d_PA_withInfixes_50 : decode M_PA_withInfixes.2.1 50 = .ok (.invokevirtual 137, 3) := by decide +kernel
theorem d_PA_withInfixes_53 : decode M_PA_withInfixes.2.1 53 = .ok (.istore 9, 2) := by decide +kernel
theorem d_PA_withInfixes_55 : decode M_PA_withInfixes.2.1 55 = .ok (.aload_n 0, 1) := by decide +kernel
theorem d_PA_withInfixes_56 : decode M_PA_withInfixes.2.1 56 = .ok (.getfield 12, 3) := by decide +kernel
theorem d_PA_withInfixes_59 : decode M_PA_withInfixes.2.1 59 = .ok (.invokevirtual 56, 3) := by decide +kernel
theorem d_PA_withInfixes_62 : decode M_PA_withInfixes.2.1 62 = .ok (.aload_n 0, 1) := by decide +kernel
theorem d_PA_withInfixes_63 : decode M_PA_withInfixes.2.1 63 = .ok (.getfield 21, 3) := by decide +kernel
theorem d_PA_withInfixes_66 : decode M_PA_withInfixes.2.1 66 = .ok (.iload 9, 2) := by decide +kernel
theorem d_PA_withInfixes_68 : decode M_PA_withInfixes.2.1 68 = .ok (.iload 5, 2) := by decide +kernel
theorem d_PA_withInfixes_70 : decode M_PA_withInfixes.2.1 70 = .ok (.invokevirtual 127, 3) := by decide +kernel
theorem d_PA_withInfixes_73 : decode M_PA_withInfixes.2.1 73 = .ok (.aload_n 0, 1) := by decide +kernel
theorem d_PA_withInfixes_74 : decode M_PA_withInfixes.2.1 74 = .ok (.getfield 21, 3) := by decide +kernel
theorem d_PA_withInfixes_77 : decode M_PA_withInfixes.2.1 77 = .ok (.iload 5, 2) := by decide +kernel
theorem d_PA_withInfixes_79 : decode M_PA_withInfixes.2.1 79 = .ok (.aload_n 0, 1) := by decide +kernel
theorem d_PA_withInfixes_80 : decode M_PA_withInfixes.2.1 80 = .ok (.aload 8, 2) := by decide +kernel
theorem d_PA_withInfixes_82 : decode M_PA_withInfixes.2.1 82 = .ok (.getfield 124, 3) := by decide +kernel
theorem d_PA_withInfixes_85 : decode M_PA_withInfixes.2.1 85 = .ok (.iload 4, 2) := by decide +kernel
theorem d_PA_withInfixes_87 : decode M_PA_withInfixes.2.1 87 = .ok (.iconst 1, 1) := by decide +kernel
theorem d_PA_withInfixes_88 : decode M_PA_withInfixes.2.1 88 = .ok (.iadd, 1) := by decide +kernel
theorem d_PA_withInfixes_89 : decode M_PA_withInfixes.2.1 89 = .ok (.invokevirtual 39, 3) := by decide +kernel
theorem d_PA_withInfixes_92 : decode M_PA_withInfixes.2.1 92 = .ok (.invokevirtual 140, 3) := by decide +kernel
theorem d_PA_withInfixes_95 : decode M_PA_withInfixes.2.1 95 = .ok (.iload 9, 2) := by decide +kernel
theorem d_PA_withInfixes_97 : decode M_PA_withInfixes.2.1 97 = .ok (.istore 5, 2) := by decide +kernel
theorem d_PA_withInfixes_99 : decode M_PA_withInfixes.2.1 99 = .ok (.aload 8, 2) := by decide +kernel
theorem d_PA_withInfixes_101 : decode M_PA_withInfixes.2.1 101 = .ok (.getfield 118, 3) := by decide +kernel
theorem d_PA_withInfixes_104 : decode M_PA_withInfixes.2.1 104 = .ok (.istore 6, 2) := by decide +kernel
theorem d_PA_withInfixes_106 : decode M_PA_withInfixes.2.1 106 = .ok (.iinc 7 1, 3) := by decide +kernel
theorem d_PA_withInfixes_109 : decode M_PA_withInfixes.2.1 109 = .ok (.goto (-100), 3) := by decide +kernel
theorem d_PA_withInfixes_112 : decode M_PA_withInfixes.2.1 112 = .ok (.iload 5, 2) := by decide +kernel
theorem d_PA_withInfixes_114 : decode M_PA_withInfixes.2.1 114 = .ok (.ireturn, 1) := by decide +kernel
set_option maxRecDepth 20000 in
theorem w_PA_infLoop {E : xR} {h : xH} {u : Nat → Nat} {N d op most s0 : Nat} {A0 : Nat → Nat → Int32} {R : g_Rs} (h2 : h 2 = .inr (1, [.ref 3, .ref 5])) (h1 : h 1 = .inl (1, 4096, .inl (fun i => g_sb (u i)))) (hu : ∀ i, u i < 256) (hN : N ≤ 4096) (hnt : ¬ x_tg E) (hT : g_CT E h u N d) (hop : op + 1 + d = 101) (hm : most ≤ 1200) : ∀ (m i p s w j lr : Nat) (A : Nat → Nat → Int32) (V : List (Nat × Nat)) (l : Nat × Std.Format) (z1 z2 : Value), i + m = 4096 → g_okA A → p ≤ N → s ≤ p → w ≤ 1000 → ¬ (g_ky (g_at u N) N p) = 12 → lr < 10000 → j < 1001 → s0 ≤ s → g_RL A0 A s0 s w V l j → (g_inL (g_at u N) N (g_T (g_at u N) u N d) most m p s V l lr) = R → x_W E M_PA_withInfixes (x_room (2 * d + 13) 1 6) (g_Po u N h A0 s0 R) 52 (g_pw u N h p s w A) 9 [(0, .ref 2), (1, z1), (2, z2), (3, .int (nI most)), (4, .int (nI op)), (5, .int (nI j)), (6, .int (nI lr)), (7, .int (nI i))] [] 0 0 := by
  intro m
  induction m with
  | zero =>
    intro i p s w j lr A V l z1 z2 hi ok hp hsp hw hk12 hlr hj hs0 hRL hR
    obtain rfl : i = 4096 := by omega
    refine x_iload d_PA_withInfixes_9 rfl ?_
    refine x_sipush 4096 d_PA_withInfixes_11 (by decide) ?_
    refine x_icmp_ge 112 d_PA_withInfixes_14 (by decide) (fun _ => ?_) (fun z => absurd (show nI 4096 ≤ nI 4096 by decide) z)
    refine x_iload d_PA_withInfixes_112 rfl ?_
    exact x_ireturn d_PA_withInfixes_114 rfl rfl (g_Po_y hR.symm hk12 hj hw ok hRL (fun _ _ => rfl))
  | succ m ih =>
    intro i p s w j lr A V l z1 z2 hi ok hp hsp hw hk12 hlr hj hs0 hRL hR
    obtain ⟨hft, htN, -, -⟩ := (g_tkb (u := u) hp).2.1 (show (g_tk (g_at u N) N p).1 ≠ 12 from hk12)
    have hft : (g_fr (g_at u N) N p) ≤ (g_to (g_at u N) N p) := hft
    have htN : (g_to (g_at u N) N p) ≤ N := htN
    have hsg := (g_sgk _ (g_kyL (u := u) hp)).2.2.1
    have ho : g_inf (g_at u N) (g_sg (g_ky (g_at u N) N p)) (g_fr (g_at u N) N p) (g_to (g_at u N) N p) < 24 := g_infL
    have ho4 := g_inf4 (a := (g_at u N)) (k := g_sg (g_ky (g_at u N) N p)) (f := (g_fr (g_at u N) N p)) (t := (g_to (g_at u N) N p))
    have hrk : _ = nI (g_rk (g_op (g_at u N) N p)) ∧ g_rk (g_op (g_at u N) N p) < 10000 := g_rkI _ ho
    have hnb := g_nxb (u := u) hp hk12
    rw [g_inL] at hR
    refine x_iload d_PA_withInfixes_9 rfl ?_
    refine x_sipush 4096 d_PA_withInfixes_11 (by decide) ?_
    refine x_icmp_ge 112 d_PA_withInfixes_14 (by decide) (fun z => absurd z (show ¬ nI 4096 ≤ nI i from nI_ge (by omega) (by decide))) (fun _ => ?_)
    refine x_aload_n d_PA_withInfixes_17 rfl rfl ?_
    refine x_get d_PA_withInfixes_18 f_PA_12 (Nat.le_of_ble_eq_true rfl) (Nat.le_of_ble_eq_true rfl) (by first | rfl | assumption) (by rfl) ?_
    refine x_callS1Y d_PA_withInfixes_21 k_PA_131 (w_OP_infixAt hsg g_pw3 (g_pw1.trans h1) hu hN hft (by omega)) (show 6 + 1 ≤ 2 * d + 13 by omega) (show 8 + (1 + 11) + 64 * (6) ≤ 64 * (2 * d + 13) by omega) (Nat.le_of_ble_eq_true rfl) (Nat.le_of_ble_eq_true rfl) (Nat.le_of_ble_eq_true rfl) rfl ?_
    refine x_astore d_PA_withInfixes_24 (Nat.le_of_ble_eq_true rfl) ?_
    refine x_aload d_PA_withInfixes_26 rfl ?_
    refine x_gOPi (k := 1) d_PA_withInfixes_28 (by first | assumption | decide | omega) rfl s_PA_118 ?_
    refine x_topi (nI (g_rk (g_op (g_at u N) N p))) hrk.1 ?_
    refine x_iload_n d_PA_withInfixes_31 rfl rfl ?_
    refine x_icmp_gt 45 d_PA_withInfixes_32 (by decide) (fun c_32 => ?_) (fun c_32 => ?_)
    · refine x_iload d_PA_withInfixes_45 rfl ?_
      exact x_ireturn d_PA_withInfixes_47 rfl rfl (g_Po_y (hR.symm.trans (if_pos (Or.inl (Nat.not_le.mp fun q => absurd c_32 (nI_nlt q (by omega)))))) hk12 hj hw ok hRL (fun _ _ => rfl))
    · have hle : g_rk (g_op (g_at u N) N p) ≤ most := Nat.not_lt.mp fun q => c_32 (nI_lt q (by omega))
      have hn23 : g_inf (g_at u N) (g_sg (g_ky (g_at u N) N p)) (g_fr (g_at u N) N p) (g_to (g_at u N) N p) ≠ 23 := fun q => by
        have e : g_rk (g_op (g_at u N) N p) = 9999 := by unfold g_op; rw [q]; rfl
        omega
      have hlf : _ = nI (g_lf (g_op (g_at u N) N p)) ∧ g_lf (g_op (g_at u N) N p) < 10000 := g_lfI _ ho ho4.1 ho4.2 hn23
      have hk310 := g_opk (u := u) hp (by omega)
      have hnb3 := hnb.2.2 (by omega)
      refine x_iload d_PA_withInfixes_35 rfl ?_
      refine x_aload d_PA_withInfixes_37 rfl ?_
      refine x_gOPi (k := 2) d_PA_withInfixes_39 (by first | assumption | decide | omega) rfl s_PA_134 ?_
      refine x_topi (nI (g_lf (g_op (g_at u N) N p))) hlf.1 ?_
      refine x_icmp_le 48 d_PA_withInfixes_42 (by decide) (fun c_42 => ?_) (fun c_42 => ?_)
      · rw [if_neg (fun q => q.elim (fun z => absurd z (Nat.not_lt.mpr hle)) (fun z => absurd ((nI_leI (by omega) (by omega)).mp c_42) (Nat.not_le.mpr z)))] at hR
        refine x_aload_n d_PA_withInfixes_48 rfl rfl ?_
        refine x_iconst 3 d_PA_withInfixes_49 (by decide) ?_
        refine x_callV1Y d_PA_withInfixes_50 k_PA_137 (Nat.le_of_ble_eq_true rfl) (Nat.le_of_ble_eq_true rfl) (by first | rfl | assumption) (by rfl) (w_PA_addSymbol h2 (by omega)) (show 2 + 1 ≤ 2 * d + 13 by omega) (show 8 + (2 + 11) + 64 * (2) ≤ 64 * (2 * d + 13) by omega) (Nat.le_of_ble_eq_true rfl) (Nat.le_of_ble_eq_true rfl) (Nat.le_of_ble_eq_true rfl) rfl ?_
        refine x_istore d_PA_withInfixes_53 (Nat.le_of_ble_eq_true rfl) ?_
        refine x_aload_n d_PA_withInfixes_55 rfl rfl ?_
        refine x_get d_PA_withInfixes_56 f_PA_12 (Nat.le_of_ble_eq_true rfl) (Nat.le_of_ble_eq_true rfl) (by first | rfl | assumption) (by rfl) ?_
        refine x_callAdv h1 hu hN (g_okadd ok _ hft (by omega)) hp hk12 d_PA_withInfixes_59 k_PA_56 (show 9 ≤ 2 * d + 13 by omega) (show 8 + 13 + 64 * 8 ≤ 64 * (2 * d + 13) by omega) (Nat.le_of_ble_eq_true rfl) (Nat.le_of_ble_eq_true rfl) (Nat.le_of_ble_eq_true rfl) rfl (fun c_59 => ?_) (fun c h' hx => g_Po_x (hR ▸ g_dd_bd (Or.inl (g_T12 c)) (fun _ _ _ _ z => g_inL12 hm z)) hx)
        refine x_aload_n d_PA_withInfixes_62 rfl rfl ?_
        refine x_get d_PA_withInfixes_63 f_PA_21 (Nat.le_of_ble_eq_true rfl) (Nat.le_of_ble_eq_true rfl) (by first | rfl | assumption) (by rfl) ?_
        refine x_iload d_PA_withInfixes_66 rfl ?_
        refine x_iload d_PA_withInfixes_68 rfl ?_
        refine x_callV2Y d_PA_withInfixes_70 k_PA_127 (Nat.le_of_ble_eq_true rfl) (Nat.le_of_ble_eq_true rfl) (by first | rfl | assumption) (by rfl) (w_TE_giveFirst (g_nodL s) hj) (show 0 + 1 ≤ 2 * d + 13 by omega) (show 8 + (3 + 11) + 64 * (0) ≤ 64 * (2 * d + 13) by omega) (Nat.le_of_ble_eq_true rfl) (Nat.le_of_ble_eq_true rfl) (Nat.le_of_ble_eq_true rfl) rfl ?_
        refine x_hh (g_pw u N h (g_nx (g_at u N) N p) (s + 1) w (g_gF (g_addA A (g_nod s) 3 (nI (g_fr (g_at u N) N p)) (nI (g_to (g_at u N) N p))) (g_nod s) j)) rfl ?_
        refine x_aload_n d_PA_withInfixes_73 rfl rfl ?_
        refine x_get d_PA_withInfixes_74 f_PA_21 (Nat.le_of_ble_eq_true rfl) (Nat.le_of_ble_eq_true rfl) (by first | rfl | assumption) (by rfl) ?_
        refine x_iload d_PA_withInfixes_77 rfl ?_
        refine x_aload_n d_PA_withInfixes_79 rfl rfl ?_
        refine x_aload d_PA_withInfixes_80 rfl ?_
        refine x_gOPi (k := 3) d_PA_withInfixes_82 (by first | assumption | decide | omega) rfl s_PA_124 ?_
        refine x_topi (nI (g_rt (g_op (g_at u N) N p))) (g_rtI _ ho hn23) ?_
        refine x_iload d_PA_withInfixes_85 rfl ?_
        refine x_iconst 1 d_PA_withInfixes_87 (by decide) ?_
        refine x_iadd d_PA_withInfixes_88 ?_
        refine x_topi (nI (op + 1)) (nI_succ op).symm ?_
        refine x_callV2P d_PA_withInfixes_89 k_PA_39 (Nat.le_of_ble_eq_true rfl) (Nat.le_of_ble_eq_true rfl) (by first | rfl | assumption) (by rfl) (hT (g_rt (g_op (g_at u N) N p)) (g_nx (g_at u N) N p) (s + 1) w (op + 1) (g_gF (g_addA A (g_nod s) 3 (nI (g_fr (g_at u N) N p)) (nI (g_to (g_at u N) N p))) (g_nod s) j) V (g_rtL _ ho) (g_okgF (g_okadd ok _ hft (by omega))) hnb.2.1 (by omega) hw (g_VIaF (fun q => (hRL q).2.2.2.2.2)) c_59 hop) (show 2 * d + 12 + 1 ≤ 2 * d + 13 by omega) (show 8 + (5 + 11) + 64 * (2 * d + 12) ≤ 64 * (2 * d + 13) by omega) (Nat.le_of_ble_eq_true rfl) (Nat.le_of_ble_eq_true rfl) (Nat.le_of_ble_eq_true rfl) rfl hnt (fun p3 s3 V3 r3 c3 A3 w3 j3 hr hk3 hj3 hw3 ok3 hRL3 => ?_) (fun q hd h' hx => g_Po_x (hR ▸ g_dd_bd hd (fun _ _ _ _ z => g_inL12 hm z)) hx)
        have b3 := g_Tb (u := u) d _ (g_nx (g_at u N) N p) (s + 1) V (g_rtL _ ho) hnb.2.1 _ _ _ _ _ hr
        rw [hr] at hR
        refine x_callV2Y d_PA_withInfixes_92 k_PA_140 (Nat.le_of_ble_eq_true rfl) (Nat.le_of_ble_eq_true rfl) (by first | rfl | assumption) (by rfl) (w_TE_giveNext hj hj3) (show 0 + 1 ≤ 2 * d + 13 by omega) (show 8 + (3 + 11) + 64 * (0) ≤ 64 * (2 * d + 13) by omega) (Nat.le_of_ble_eq_true rfl) (Nat.le_of_ble_eq_true rfl) (Nat.le_of_ble_eq_true rfl) rfl ?_
        refine x_hh (g_pw u N h p3 s3 w3 (g_gN A3 j j3)) rfl ?_
        refine x_iload d_PA_withInfixes_95 rfl ?_
        refine x_istore d_PA_withInfixes_97 (Nat.le_of_ble_eq_true rfl) ?_
        refine x_aload d_PA_withInfixes_99 rfl ?_
        refine x_gOPi (k := 1) d_PA_withInfixes_101 (by first | assumption | decide | omega) rfl s_PA_118 ?_
        refine x_topi (nI (g_rk (g_op (g_at u N) N p))) hrk.1 ?_
        refine x_istore d_PA_withInfixes_104 (Nat.le_of_ble_eq_true rfl) ?_
        refine x_iinc d_PA_withInfixes_106 rfl 1 (by decide) (Nat.le_of_ble_eq_true rfl) ?_
        refine x_goto 9 d_PA_withInfixes_109 (by decide) ?_
        refine x_lv [(0, .ref 2), (1, z1), (2, z2), (3, .int (nI most)), (4, .int (nI op)), (5, .int (nI (g_nod s))), (6, .int (nI (g_rk (g_op (g_at u N) N p)))), (7, .int (nI (i + 1))), (8, .ref (1100000 + (g_op (g_at u N) N p))), (9, .int (nI (g_nod s)))] (by rw [nI_succ i]; rfl) ?_
        refine x_wk [(0, .ref 2), (1, z1), (2, z2), (3, .int (nI most)), (4, .int (nI op)), (5, .int (nI (g_nod s))), (6, .int (nI (g_rk (g_op (g_at u N) N p)))), (7, .int (nI (i + 1)))] (by simp) ?_
        exact ih (i + 1) p3 s3 w3 (g_nod s) (g_rk (g_op (g_at u N) N p)) (g_gN A3 j j3) V3 (g_lb 3 (g_fr (g_at u N) N p) (g_to (g_at u N) N p), g_nd l (g_nd r3 g_nil)) z1 z2 (by omega) (g_okgN ok3) b3.2.1 (by omega) hw3 hk3 hrk.2 (g_nodL s) (by omega) (g_infRL hs0 (by omega) (by omega) hRL hRL3) hR
      · refine x_iload d_PA_withInfixes_45 rfl ?_
        exact x_ireturn d_PA_withInfixes_47 rfl rfl (g_Po_y (hR.symm.trans (if_pos (Or.inr (Nat.not_le.mp fun q => c_42 (nI_le q (by omega)))))) hk12 hj hw ok hRL (fun _ _ => rfl))
set_option maxRecDepth 20000 in
theorem w_PA_withInfixes {E : xR} {h : xH} {u : Nat → Nat} {N d op most s0 : Nat} {A0 : Nat → Nat → Int32} (h2 : h 2 = .inr (1, [.ref 3, .ref 5])) (h1 : h 1 = .inl (1, 4096, .inl (fun i => g_sb (u i)))) (hu : ∀ i, u i < 256) (hN : N ≤ 4096) (hnt : ¬ x_tg E) (hT : g_CT E h u N d) (hop : op + 1 + d = 101) (hm : most ≤ 1200) {p s w j lr : Nat} {A : Nat → Nat → Int32} {V : List (Nat × Nat)} {l : Nat × Std.Format} (ok : g_okA A) (hp : p ≤ N) (hsp : s ≤ p) (hw : w ≤ 1000) (hk12 : ¬ (g_ky (g_at u N) N p) = 12) (hlr : lr < 10000) (hj : j < 1001) (hs0 : s0 ≤ s) (hRL : g_RL A0 A s0 s w V l j) : x_Mt E M_PA_withInfixes (2 * d + 13) 1 6 [.ref 2, .int (nI j), .int (nI lr), .int (nI most), .int (nI op)] 52 (g_pw u N h p s w A) (g_Po u N h A0 s0 (g_inL (g_at u N) N (g_T (g_at u N) u N d) most 4096 p s V l lr)) := by
  refine x_Mt.of (by decide) (Nat.le_of_ble_eq_true rfl) ?_
  show x_W E M_PA_withInfixes _ _ 52 (g_pw u N h p s w A) 0 [(0, .ref 2), (1, .int (nI j)), (2, .int (nI lr)), (3, .int (nI most)), (4, .int (nI op))] [] 0 0
  refine x_iload_n d_PA_withInfixes_0 rfl rfl ?_
  refine x_istore d_PA_withInfixes_1 (Nat.le_of_ble_eq_true rfl) ?_
  refine x_iload_n d_PA_withInfixes_3 rfl rfl ?_
  refine x_istore d_PA_withInfixes_4 (Nat.le_of_ble_eq_true rfl) ?_
  refine x_iconst 0 d_PA_withInfixes_6 (by decide) ?_
  refine x_istore d_PA_withInfixes_7 (Nat.le_of_ble_eq_true rfl) ?_
  exact w_PA_infLoop h2 h1 hu hN hnt hT hop hm 4096 0 p s w j lr A V l _ _ rfl ok hp hsp hw hk12 hlr hj hs0 hRL rfl
