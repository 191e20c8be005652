theorem g_labC {u : Nat → Nat} {N p k : Nat} {T : List (List Int32)} {x : Nat × Std.Format} {acc : List (Nat × Std.Format)} (hu : ∀ i, u i < 256) (hN : N ≤ 4096) (hp : p ≤ N) (hk : (g_ky (g_at u N) N p) = 3) (hT : g_nt T k = some (g_ut u (g_fr (g_at u N) N p) (g_to (g_at u N) N p))) : ((bif g_is (g_at u N) (g_fr (g_at u N) N p) (g_to (g_at u N) N p) [46] && decide (acc.length = 1) then g_lb 4 0 0 else g_lb 3 (g_fr (g_at u N) N p) (g_to (g_at u N) N p)) % 8 = 3 ∧ g_nt T k = some (g_ut u (g_fR (bif g_is (g_at u N) (g_fr (g_at u N) N p) (g_to (g_at u N) N p) [46] && decide (acc.length = 1) then g_lb 4 0 0 else g_lb 3 (g_fr (g_at u N) N p) (g_to (g_at u N) N p))) (g_tO (bif g_is (g_at u N) (g_fr (g_at u N) N p) (g_to (g_at u N) N p) [46] && decide (acc.length = 1) then g_lb 4 0 0 else g_lb 3 (g_fr (g_at u N) N p) (g_to (g_at u N) N p))))) ∨ ((bif g_is (g_at u N) (g_fr (g_at u N) N p) (g_to (g_at u N) N p) [46] && decide (acc.length = 1) then g_lb 4 0 0 else g_lb 3 (g_fr (g_at u N) N p) (g_to (g_at u N) N p)) % 8 = 4 ∧ (x :: acc).length = 2 ∧ g_nt T k = some [46]) := by
  obtain ⟨e1, e2, e3⟩ := g_lbT (k := 3) hN (by decide) hp (Or.inr (Or.inl hk))
  cases hb : g_is (g_at u N) (g_fr (g_at u N) N p) (g_to (g_at u N) N p) [46] && decide (acc.length = 1) with
  | true =>
    obtain ⟨h1, h2⟩ := Bool.and_eq_true_iff.mp hb
    rw [g_isW hu hp hk (by decide)] at h1
    have h1 := of_decide_eq_true h1
    refine Or.inr ⟨by show g_lb 4 0 0 % 8 = 4; decide, by rw [List.length_cons, of_decide_eq_true h2], ?_⟩
    rw [hT, h1]
  | false =>
    refine Or.inl ?_
    show g_lb 3 (g_fr (g_at u N) N p) (g_to (g_at u N) N p) % 8 = 3 ∧ g_nt T k = some (g_ut u (g_fR (g_lb 3 (g_fr (g_at u N) N p) (g_to (g_at u N) N p))) (g_tO (g_lb 3 (g_fr (g_at u N) N p) (g_to (g_at u N) N p))))
    rw [e1, e2, e3]
    exact ⟨rfl, hT⟩
theorem g_bhN {u : Nat → Nat} {N p : Nat} (_hu : ∀ i, u i < 256) (h : p ≤ N ∧ g_ky (g_at u N) N p ≠ 12) : g_bh (g_at u N) N p ≤ N := ((g_tkb (u := u) h.1).2.1 h.2).2.2.1
theorem g_txW {h : xH} {N x : Nat} {T : List (List Int32)} {Na B : Nat → Nat → Int32} {Nm : Nat → Int64} {z q : Nat} {St Vr Kp : Nat → Int32} {aa bh tk oo : Int32} {nm : Int64} {lt tp vd kn rk : Int32} {Wd : Nat → Int32} : g_Tw h N x (g_mw h N T Na B Nm z q St Vr Kp aa bh tk oo nm lt tp (nI x) vd kn rk Wd) := ⟨T, Na, B, Nm, z, q, St, Vr, Kp, aa, bh, tk, oo, nm, lt, tp, vd, kn, rk, Wd, fun _ _ => rfl⟩
theorem d_RD_compound_0 : decode M_RD_compound.2.1 0 = .ok (.aload_n 0, 1) := by decide +kernel
theorem d_RD_compound_1 : decode M_RD_compound.2.1 1 = .ok (.invokevirtual 212, 3) := by decide +kernel
theorem d_RD_compound_4 : decode M_RD_compound.2.1 4 = .ok (.istore_n 1, 1) := by decide +kernel
theorem d_RD_compound_5 : decode M_RD_compound.2.1 5 = .ok (.aload_n 0, 1) := by decide +kernel
theorem d_RD_compound_6 : decode M_RD_compound.2.1 6 = .ok (.invokevirtual 113, 3) := by decide +kernel
theorem d_RD_compound_9 : decode M_RD_compound.2.1 9 = .ok (.aload_n 0, 1) := by decide +kernel
theorem d_RD_compound_10 : decode M_RD_compound.2.1 10 = .ok (.getfield 102, 3) := by decide +kernel
theorem d_RD_compound_13 : decode M_RD_compound.2.1 13 = .ok (.istore_n 2, 1) := by decide +kernel
theorem d_RD_compound_14 : decode M_RD_compound.2.1 14 = .ok (.aload_n 0, 1) := by decide +kernel
theorem d_RD_compound_15 : decode M_RD_compound.2.1 15 = .ok (.invokevirtual 113, 3) := by decide +kernel
theorem d_RD_compound_18 : decode M_RD_compound.2.1 18 = .ok (.aload_n 0, 1) := by decide +kernel
theorem d_RD_compound_19 : decode M_RD_compound.2.1 19 = .ok (.getfield 102, 3) := by decide +kernel
theorem d_RD_compound_22 : decode M_RD_compound.2.1 22 = .ok (.iload_n 2, 1) := by decide +kernel
theorem d_RD_compound_23 : decode M_RD_compound.2.1 23 = .ok (.isub, 1) := by decide +kernel
theorem d_RD_compound_24 : decode M_RD_compound.2.1 24 = .ok (.bipush 8, 2) := by decide +kernel
theorem d_RD_compound_26 : decode M_RD_compound.2.1 26 = .ok (.if_icmp .ne 12, 3) := by decide +kernel
theorem d_RD_compound_29 : decode M_RD_compound.2.1 29 = .ok (.aload_n 0, 1) := by decide +kernel
theorem d_RD_compound_30 : decode M_RD_compound.2.1 30 = .ok (.aload_n 0, 1) := by decide +kernel
theorem d_RD_compound_31 : decode M_RD_compound.2.1 31 = .ok (.getfield 116, 3) := by decide +kernel
theorem d_RD_compound_34 : decode M_RD_compound.2.1 34 = .ok (.invokevirtual 126, 3) := by decide +kernel
theorem d_RD_compound_37 : decode M_RD_compound.2.1 37 = .ok (.athrow, 1) := by decide +kernel
theorem d_RD_compound_38 : decode M_RD_compound.2.1 38 = .ok (.aload_n 0, 1) := by decide +kernel
theorem d_RD_compound_39 : decode M_RD_compound.2.1 39 = .ok (.sipush 999, 3) := by decide +kernel
theorem d_RD_compound_42 : decode M_RD_compound.2.1 42 = .ok (.invokevirtual 119, 3) := by decide +kernel
theorem d_RD_compound_45 : decode M_RD_compound.2.1 45 = .ok (.istore_n 3, 1) := by decide +kernel
theorem d_RD_compound_46 : decode M_RD_compound.2.1 46 = .ok (.aload_n 0, 1) := by decide +kernel
theorem d_RD_compound_47 : decode M_RD_compound.2.1 47 = .ok (.getfield 72, 3) := by decide +kernel
theorem d_RD_compound_50 : decode M_RD_compound.2.1 50 = .ok (.aload_n 0, 1) := by decide +kernel
theorem d_RD_compound_51 : decode M_RD_compound.2.1 51 = .ok (.dup, 1) := by decide +kernel
theorem d_RD_compound_52 : decode M_RD_compound.2.1 52 = .ok (.getfield 102, 3) := by decide +kernel
theorem d_RD_compound_55 : decode M_RD_compound.2.1 55 = .ok (.dup_x1, 1) := by decide +kernel
theorem d_RD_compound_56 : decode M_RD_compound.2.1 56 = .ok (.iconst 1, 1) := by decide +kernel
theorem d_RD_compound_57 : decode M_RD_compound.2.1 57 = .ok (.iadd, 1) := by decide +kernel
theorem d_RD_compound_58 : decode M_RD_compound.2.1 58 = .ok (.putfield 102, 3) := by decide +kernel
theorem d_RD_compound_61 : decode M_RD_compound.2.1 61 = .ok (.iload_n 3, 1) := by decide +kernel
theorem d_RD_compound_62 : decode M_RD_compound.2.1 62 = .ok (.iastore, 1) := by decide +kernel
theorem d_RD_compound_63 : decode M_RD_compound.2.1 63 = .ok (.aload_n 0, 1) := by decide +kernel
theorem d_RD_compound_64 : decode M_RD_compound.2.1 64 = .ok (.getfield 123, 3) := by decide +kernel
theorem d_RD_compound_67 : decode M_RD_compound.2.1 67 = .ok (.bipush 10, 2) := by decide +kernel
theorem d_RD_compound_69 : decode M_RD_compound.2.1 69 = .ok (.if_icmp .eq (-55), 3) := by decide +kernel
theorem d_RD_compound_72 : decode M_RD_compound.2.1 72 = .ok (.aload_n 0, 1) := by decide +kernel
theorem d_RD_compound_73 : decode M_RD_compound.2.1 73 = .ok (.getfield 123, 3) := by decide +kernel
theorem d_RD_compound_76 : decode M_RD_compound.2.1 76 = .ok (.iconst 5, 1) := by decide +kernel
theorem d_RD_compound_77 : decode M_RD_compound.2.1 77 = .ok (.if_icmp .eq 12, 3) := by decide +kernel
theorem d_RD_compound_80 : decode M_RD_compound.2.1 80 = .ok (.aload_n 0, 1) := by decide +kernel
theorem d_RD_compound_81 : decode M_RD_compound.2.1 81 = .ok (.aload_n 0, 1) := by decide +kernel
theorem d_RD_compound_82 : decode M_RD_compound.2.1 82 = .ok (.getfield 116, 3) := by decide +kernel
theorem d_RD_compound_85 : decode M_RD_compound.2.1 85 = .ok (.invokevirtual 126, 3) := by decide +kernel
theorem d_RD_compound_88 : decode M_RD_compound.2.1 88 = .ok (.athrow, 1) := by decide +kernel
theorem d_RD_compound_89 : decode M_RD_compound.2.1 89 = .ok (.aload_n 0, 1) := by decide +kernel
theorem d_RD_compound_90 : decode M_RD_compound.2.1 90 = .ok (.invokevirtual 113, 3) := by decide +kernel
theorem d_RD_compound_93 : decode M_RD_compound.2.1 93 = .ok (.aload_n 0, 1) := by decide +kernel
theorem d_RD_compound_94 : decode M_RD_compound.2.1 94 = .ok (.getfield 81, 3) := by decide +kernel
theorem d_RD_compound_97 : decode M_RD_compound.2.1 97 = .ok (.iload_n 1, 1) := by decide +kernel
theorem d_RD_compound_98 : decode M_RD_compound.2.1 98 = .ok (.aload_n 0, 1) := by decide +kernel
theorem d_RD_compound_99 : decode M_RD_compound.2.1 99 = .ok (.getfield 72, 3) := by decide +kernel
theorem d_RD_compound_102 : decode M_RD_compound.2.1 102 = .ok (.iload_n 2, 1) := by decide +kernel
theorem d_RD_compound_103 : decode M_RD_compound.2.1 103 = .ok (.aload_n 0, 1) := by decide +kernel
theorem d_RD_compound_104 : decode M_RD_compound.2.1 104 = .ok (.getfield 102, 3) := by decide +kernel
theorem d_RD_compound_107 : decode M_RD_compound.2.1 107 = .ok (.iload_n 2, 1) := by decide +kernel
theorem d_RD_compound_108 : decode M_RD_compound.2.1 108 = .ok (.isub, 1) := by decide +kernel
theorem d_RD_compound_109 : decode M_RD_compound.2.1 109 = .ok (.invokevirtual 215, 3) := by decide +kernel
theorem d_RD_compound_112 : decode M_RD_compound.2.1 112 = .ok (.istore_n 3, 1) := by decide +kernel
theorem d_RD_compound_113 : decode M_RD_compound.2.1 113 = .ok (.aload_n 0, 1) := by decide +kernel
theorem d_RD_compound_114 : decode M_RD_compound.2.1 114 = .ok (.iload_n 2, 1) := by decide +kernel
theorem d_RD_compound_115 : decode M_RD_compound.2.1 115 = .ok (.putfield 102, 3) := by decide +kernel
theorem d_RD_compound_118 : decode M_RD_compound.2.1 118 = .ok (.aload_n 0, 1) := by decide +kernel
theorem d_RD_compound_119 : decode M_RD_compound.2.1 119 = .ok (.iconst 0, 1) := by decide +kernel
theorem d_RD_compound_120 : decode M_RD_compound.2.1 120 = .ok (.putfield 204, 3) := by decide +kernel
theorem d_RD_compound_123 : decode M_RD_compound.2.1 123 = .ok (.iload_n 3, 1) := by decide +kernel
theorem d_RD_compound_124 : decode M_RD_compound.2.1 124 = .ok (.ireturn, 1) := by decide +kernel
set_option maxRecDepth 20000 in
theorem w_RD_cpLoop {E : xR} {h : xH} {u : Nat → Nat} {N d : Nat} (h22 : h 22 = .inl (1, 4096, .inl (fun i => g_sb (u i)))) (hu : ∀ i, u i < 256) (hN : N ≤ 4096) (hB : g_TB2 h) (hM : g_MC E h u N d) {p s o t0 z q k : Nat} {T : List (List Int32)} {B : Nat → Nat → Int32} {Nm : Nat → Int64} {St : Nat → Int32} {pl kn : Int32} {R : g_Rs} (hp : p ≤ N) (hky : (g_ky (g_at u N) N p) = 3) (ht0 : t0 + q ≤ z) (hz : z ≤ s) (ho : o + d = 100) : ∀ (m p1 s1 z1 q1 : Nat) (T1 : List (List Int32)) (Na1 B1 : Nat → Nat → Int32) (Nm1 : Nat → Int64) (St1 Vr1 Kp1 : Nat → Int32) (bh1 lt1 : Int32) (nm1 : Int64) (rk1 : Int32) (Wd1 : Nat → Int32) (V1 : List (Nat × Nat)) (acc : List (Nat × Std.Format)), acc.length + m = 8 → k < 9000 → g_nt T1 k = some (g_ut u (g_fr (g_at u N) N p) (g_to (g_at u N) N p)) → p1 ≤ N → (g_ky (g_at u N) N p1) ≠ 12 → (g_ky (g_at u N) N p1) ≠ 13 → s1 ≤ (g_nx (g_at u N) N p1) → V1.length ≤ s1 → g_NI T1 Na1 p1 → g_MV u T1 Vr1 V1 → g_TO u N p1 bh1 lt1 nm1 Wd1 → g_mE T T1 B B1 Nm Nm1 z q z1 q1 → z1 + s + 1 = z + s1 → z1 + q = z + q1 + acc.length → (∀ k, k < t0 → St1 k = St k) → g_AS u N T1 B1 Nm1 z1 q1 St1 t0 acc → (g_arL (g_at u N) N (g_T (g_at u N) u N d) p m (g_nx (g_at u N) N p1) s1 V1 acc) = R → x_W E M_RD_compound (x_room (4 * d + 13) 0 0) (g_MK u N h o t0 pl kn T B Nm z q St s R) 52 (g_mw h N T1 Na1 B1 Nm1 z1 q1 St1 Vr1 Kp1 (nI p1) bh1 (nI (g_ky (g_at u N) N p1)) (nI o) nm1 lt1 (nI (t0 + acc.length)) pl (nI V1.length) kn rk1 Wd1) 14 [(0, .ref 36), (1, .int (nI k)), (2, .int (nI t0))] [] 0 0 := by
  intro m
  induction m with
  | zero =>
    intro p1 s1 z1 q1 T1 Na1 B1 Nm1 St1 Vr1 Kp1 bh1 lt1 nm1 rk1 Wd1 V1 acc hm k1 hkT hp1 hk12 hk13 hs1 hV1 hNI1 hMV1 hTO1 hE1 hz1 hq1 hS1 hAS hR
    obtain rfl : bh1 = nI (g_bh (g_at u N) N p1) := hTO1.2.1 hk12
    have hnb := g_nxb (u := u) hp1 hk12
    have hnb2 := hnb.2.2 hk13
    have hR : Sum.inl (g_nx (g_at u N) N p1) = R := hR
    subst hR
    refine x_aload_n d_RD_compound_14 rfl rfl ?_
    refine x_callV0E d_RD_compound_15 k_RD_113 (Nat.le_of_ble_eq_true rfl) (Nat.le_of_ble_eq_true rfl) (by first | rfl | assumption) (by rfl) (w_RD_scan (p := (g_nx (g_at u N) N p1)) h22 hu hN (g_bhN hu ⟨hp1, hk12⟩) rfl) (show 6 + 1 ≤ 4 * d + 13 by omega) (show 8 + (4 + 11) + 64 * (6) ≤ 64 * (4 * d + 13) by omega) (Nat.le_of_ble_eq_true rfl) (Nat.le_of_ble_eq_true rfl) (Nat.le_of_ble_eq_true rfl) rfl (fun v1 hh1 hp1 => ?_)
    obtain ⟨rfl, bh2, lt2, nm2, Wd2, hTO2, rfl⟩ := hp1
    refine x_same (h' := (g_mw h N T1 Na1 B1 Nm1 z1 q1 St1 Vr1 Kp1 (nI (g_nx (g_at u N) N p1)) bh2 (nI (g_ky (g_at u N) N (g_nx (g_at u N) N p1))) (nI o) nm2 lt2 (nI (t0 + acc.length)) pl (nI V1.length) kn rk1 Wd2)) (fun _ _ => rfl) ?_
    refine x_aload_n d_RD_compound_18 rfl rfl ?_
    refine x_get d_RD_compound_19 f_RD_102 (Nat.le_of_ble_eq_true rfl) (Nat.le_of_ble_eq_true rfl) (by first | rfl | assumption) (by rfl) ?_
    refine x_iload_n d_RD_compound_22 rfl rfl ?_
    refine x_isub d_RD_compound_23 ?_
    refine x_topi (nI acc.length) (by rw [g_nIsub (by omega), Nat.add_sub_cancel_left]) ?_
    refine x_bipush 8 d_RD_compound_24 (by decide) ?_
    refine x_icmp_ne 38 d_RD_compound_26 (by decide) (fun z => absurd (show nI acc.length = nI 8 by rw [show acc.length = 8 by omega]) z) (fun _ => ?_)
    refine x_aload_n d_RD_compound_29 rfl rfl ?_
    refine x_aload_n d_RD_compound_30 rfl rfl ?_
    refine x_get d_RD_compound_31 f_RD_116 (Nat.le_of_ble_eq_true rfl) (Nat.le_of_ble_eq_true rfl) (by first | rfl | assumption) (by rfl) ?_
    refine x_callV1Y d_RD_compound_34 k_RD_126 (Nat.le_of_ble_eq_true rfl) (Nat.le_of_ble_eq_true rfl) (by first | rfl | assumption) (by rfl) w_RD_bad (show 0 + 1 ≤ 4 * d + 13 by omega) (show 8 + (2 + 11) + 64 * 0 ≤ 64 * (4 * d + 13) by omega) (Nat.le_of_ble_eq_true rfl) (Nat.le_of_ble_eq_true rfl) (Nat.le_of_ble_eq_true rfl) rfl ?_
    refine x_same (h' := (g_mw h N T1 Na1 B1 Nm1 z1 q1 St1 Vr1 Kp1 (nI (g_nx (g_at u N) N p1)) bh2 (nI (g_ky (g_at u N) N (g_nx (g_at u N) N p1))) (nI o) nm2 lt2 (nI (t0 + acc.length)) (nI (g_nx (g_at u N) N p1)) (nI V1.length) kn rk1 Wd2)) (fun _ _ => rfl) ?_
    exact x_athrow d_RD_compound_37 (Nat.le_of_ble_eq_true rfl) (Nat.le_of_ble_eq_true rfl) hB.2.2 rfl (g_MKx (Or.inl rfl) g_txW)
  | succ m ih =>
    intro p1 s1 z1 q1 T1 Na1 B1 Nm1 St1 Vr1 Kp1 bh1 lt1 nm1 rk1 Wd1 V1 acc hm k1 hkT hp1 hk12 hk13 hs1 hV1 hNI1 hMV1 hTO1 hE1 hz1 hq1 hS1 hAS hR
    obtain rfl : bh1 = nI (g_bh (g_at u N) N p1) := hTO1.2.1 hk12
    have hnb := g_nxb (u := u) hp1 hk12
    have hnb2 := hnb.2.2 hk13
    rw [g_arL] at hR
    refine x_aload_n d_RD_compound_14 rfl rfl ?_
    refine x_callV0E d_RD_compound_15 k_RD_113 (Nat.le_of_ble_eq_true rfl) (Nat.le_of_ble_eq_true rfl) (by first | rfl | assumption) (by rfl) (w_RD_scan (p := (g_nx (g_at u N) N p1)) h22 hu hN (g_bhN hu ⟨hp1, hk12⟩) rfl) (show 6 + 1 ≤ 4 * d + 13 by omega) (show 8 + (4 + 11) + 64 * (6) ≤ 64 * (4 * d + 13) by omega) (Nat.le_of_ble_eq_true rfl) (Nat.le_of_ble_eq_true rfl) (Nat.le_of_ble_eq_true rfl) rfl (fun v1 hh1 hp1 => ?_)
    obtain ⟨rfl, bh2, lt2, nm2, Wd2, hTO2, rfl⟩ := hp1
    refine x_same (h' := (g_mw h N T1 Na1 B1 Nm1 z1 q1 St1 Vr1 Kp1 (nI (g_nx (g_at u N) N p1)) bh2 (nI (g_ky (g_at u N) N (g_nx (g_at u N) N p1))) (nI o) nm2 lt2 (nI (t0 + acc.length)) pl (nI V1.length) kn rk1 Wd2)) (fun _ _ => rfl) ?_
    refine x_aload_n d_RD_compound_18 rfl rfl ?_
    refine x_get d_RD_compound_19 f_RD_102 (Nat.le_of_ble_eq_true rfl) (Nat.le_of_ble_eq_true rfl) (by first | rfl | assumption) (by rfl) ?_
    refine x_iload_n d_RD_compound_22 rfl rfl ?_
    refine x_isub d_RD_compound_23 ?_
    refine x_topi (nI acc.length) (by rw [g_nIsub (by omega), Nat.add_sub_cancel_left]) ?_
    refine x_bipush 8 d_RD_compound_24 (by decide) ?_
    refine x_icmp_ne 38 d_RD_compound_26 (by decide) (fun _ => ?_) (fun z => absurd z (show ¬ nI acc.length = nI 8 from fun y => absurd ((g_nIne (by omega) (by decide)).mp y) (by omega)))
    refine x_aload_n d_RD_compound_38 rfl rfl ?_
    refine x_sipush 999 d_RD_compound_39 (by decide) ?_
    refine x_callV1M d_RD_compound_42 k_RD_119 (Nat.le_of_ble_eq_true rfl) (Nat.le_of_ble_eq_true rfl) (by first | rfl | assumption) (by rfl) (hM 999 (g_nx (g_at u N) N p1) s1 o (t0 + acc.length) z1 q1 T1 Na1 B1 Nm1 St1 Vr1 Kp1 bh2 lt2 nm2 pl kn rk1 Wd2 V1 (by decide) hnb.2.1 (by omega) (by omega) (by omega) hV1 ho (g_NIm hNI1 hnb.1) hMV1 hTO2) (show 4 * d + 12 + 1 ≤ 4 * d + 13 by omega) (show 8 + (9 + 11) + 64 * (4 * d + 12) ≤ 64 * (4 * d + 13) by omega) (Nat.le_of_ble_eq_true rfl) (Nat.le_of_ble_eq_true rfl) (Nat.le_of_ble_eq_true rfl) rfl (fun p3 s3 V3 t3 c3 v3 hh3 hr3 hR3 => ?_) (fun x h' hd hx => g_MKx (hR ▸ g_de_bd hd (fun _ _ _ _ h8 => Or.inl (by rw [if_neg (by rw [h8]; decide), if_neg (by rw [h8]; decide)]))) hx)
    obtain ⟨r3, T3, Na3, B3, Nm3, z3, q3, St3, Vr3, Kp3, bh3, lt3, nm3, Wd3, rfl, hNI3, hMV3, hTO3, hE3, hz3, hq3, hS3, hT3, rfl⟩ := hR3
    have b3 := g_Tb (u := u) d 999 (g_nx (g_at u N) N p1) s1 V1 (by decide) hnb.2.1 _ _ _ _ _ hr3
    obtain ⟨kk3, d3, e3⟩ := g_Td (u := u) hN d 999 (g_nx (g_at u N) N p1) s1 V1 (by decide) hnb.2.1 hV1 (by omega) _ _ _ _ _ hr3
    have hv3 := g_QV e3
    rw [hr3] at hR
    have hR : (if (g_ky (g_at u N) N p3) = 10 then (g_arL (g_at u N) N (g_T (g_at u N) u N d) p m (g_nx (g_at u N) N p3) s3 V3 (t3 :: acc)) else if (g_ky (g_at u N) N p3) = 5 then .inr ((g_nx (g_at u N) N p3), s3, V3, (bif g_is (g_at u N) (g_fr (g_at u N) N p) (g_to (g_at u N) N p) [46] && decide (acc.length = 1) then g_lb 4 0 0 else g_lb 3 (g_fr (g_at u N) N p) (g_to (g_at u N) N p), g_arK (t3 :: acc)), 0) else .inl p3) = R := hR
    refine x_istore_n d_RD_compound_45 rfl (Nat.le_of_ble_eq_true rfl) ?_
    refine x_aload_n d_RD_compound_46 rfl rfl ?_
    refine x_get d_RD_compound_47 f_RD_72 (Nat.le_of_ble_eq_true rfl) (Nat.le_of_ble_eq_true rfl) (by first | rfl | assumption) (by rfl) ?_
    refine x_aload_n d_RD_compound_50 rfl rfl ?_
    refine x_dup d_RD_compound_51 rfl ?_
    refine x_get d_RD_compound_52 f_RD_102 (Nat.le_of_ble_eq_true rfl) (Nat.le_of_ble_eq_true rfl) (by first | rfl | assumption) (by rfl) ?_
    refine x_dup_x1 d_RD_compound_55 rfl rfl ?_
    refine x_iconst 1 d_RD_compound_56 (by decide) ?_
    refine x_iadd d_RD_compound_57 ?_
    refine x_topi (nI (t0 + (acc.length + 1))) (nI_succ (t0 + acc.length)).symm ?_
    refine x_put d_RD_compound_58 f_RD_102 (Nat.le_of_ble_eq_true rfl) (Nat.le_of_ble_eq_true rfl) (by first | rfl | assumption) (by rfl) (by rfl) (by exact (Nat.le_of_ble_eq_true rfl)) ?_
    refine x_iload_n d_RD_compound_61 rfl rfl ?_
    refine x_iast d_RD_compound_62 (Nat.le_of_ble_eq_true rfl) (Nat.le_of_ble_eq_true rfl) (by first | rfl | assumption) (vp_in_nI (show t0 + acc.length < 4200 by omega) (by decide)) ?_
    refine x_same (h' := (g_mw h N T3 Na3 B3 Nm3 z3 q3 (upd St3 (t0 + acc.length) (nI r3)) Vr3 Kp3 (nI p3) bh3 (nI (g_ky (g_at u N) N p3)) (nI o) nm3 lt3 (nI (t0 + (acc.length + 1))) pl (nI V3.length) kn (nI c3) Wd3)) (x_pt rfl rfl rfl rfl rfl rfl rfl rfl rfl rfl rfl rfl rfl rfl rfl rfl rfl rfl rfl rfl rfl rfl rfl rfl rfl rfl rfl rfl rfl rfl rfl rfl rfl rfl rfl rfl rfl rfl rfl rfl rfl (show Sum.inl (0, 4200, Sum.inl (upd _ (nI (t0 + acc.length)).toNatClampNeg _)) = _ by rw [nI_clamp (by omega)]; rfl) rfl rfl rfl rfl rfl rfl rfl rfl rfl rfl) ?_
    have hAS3 : g_AS u N T3 B3 Nm3 z3 q3 (upd St3 (t0 + acc.length) (nI r3)) t0 (t3 :: acc) := ⟨⟨r3, g_updY, e3.1.2.1, e3.1.1, hT3⟩, g_AS_mv hE3 acc (fun k hk => by rw [g_updN (by omega)]; exact hS3 k hk) hAS⟩
    have hE13 := g_mEt hE1 hE3
    refine x_aload_n d_RD_compound_63 rfl rfl ?_
    refine x_get d_RD_compound_64 f_RD_123 (Nat.le_of_ble_eq_true rfl) (Nat.le_of_ble_eq_true rfl) (by first | rfl | assumption) (by rfl) ?_
    refine x_bipush 10 d_RD_compound_67 (by decide) ?_
    refine x_icmp_eq 14 d_RD_compound_69 (by decide) (fun c_69 => ?_) (fun c_69 => ?_)
    · rw [if_pos ((g_nIne (by have := g_kyL (u := u) b3.2.1; omega) (by decide)).mp c_69)] at hR
      refine x_lv [(0, .ref 36), (1, .int (nI k)), (2, .int (nI t0)), (3, .int (nI r3))] rfl ?_
      refine x_wk [(0, .ref 36), (1, .int (nI k)), (2, .int (nI t0))] (by simp) ?_
      exact ih p3 s3 z3 q3 T3 Na3 B3 Nm3 (upd St3 (t0 + acc.length) (nI r3)) Vr3 Kp3 bh3 lt3 nm3 (nI c3) Wd3 V3 (t3 :: acc) (by rw [List.length_cons]; omega) k1 (hE3.2.2.1 _ _ hkT) b3.2.1 (by rw [(g_nIne (by have := g_kyL (u := u) b3.2.1; omega) (by decide)).mp c_69]; decide) (by rw [(g_nIne (by have := g_kyL (u := u) b3.2.1; omega) (by decide)).mp c_69]; decide) (by have := (g_nxb (u := u) b3.2.1 (by rw [(g_nIne (by have := g_kyL (u := u) b3.2.1; omega) (by decide)).mp c_69]; decide)).1; omega) (by omega) hNI3 hMV3 hTO3 hE13 (by omega) (by rw [List.length_cons]; omega) (fun k hk => by rw [g_updN (by omega), hS3 k (by omega)]; exact hS1 k hk) hAS3 hR
    · have n10 : ¬ (g_ky (g_at u N) N p3) = 10 := fun y => c_69 (by rw [y]; rfl)
      rw [if_neg n10] at hR
      refine x_aload_n d_RD_compound_72 rfl rfl ?_
      refine x_get d_RD_compound_73 f_RD_123 (Nat.le_of_ble_eq_true rfl) (Nat.le_of_ble_eq_true rfl) (by first | rfl | assumption) (by rfl) ?_
      refine x_iconst 5 d_RD_compound_76 (by decide) ?_
      refine x_icmp_eq 89 d_RD_compound_77 (by decide) (fun c_77 => ?_) (fun c_77 => ?_)
      · have k5 : (g_ky (g_at u N) N p3) = 5 := (g_nIne (by have := g_kyL (u := u) b3.2.1; omega) (by decide)).mp c_77
        rw [if_pos k5] at hR
        obtain rfl : bh3 = nI (g_bh (g_at u N) N p3) := hTO3.2.1 (by rw [k5]; decide)
        have hnb3 := g_nxb (u := u) b3.2.1 (by rw [k5]; decide)
        refine x_aload_n d_RD_compound_89 rfl rfl ?_
        refine x_callV0E d_RD_compound_90 k_RD_113 (Nat.le_of_ble_eq_true rfl) (Nat.le_of_ble_eq_true rfl) (by first | rfl | assumption) (by rfl) (w_RD_scan (p := (g_nx (g_at u N) N p3)) h22 hu hN (g_bhN hu ⟨b3.2.1, (by rw [k5]; decide)⟩) rfl) (show 6 + 1 ≤ 4 * d + 13 by omega) (show 8 + (4 + 11) + 64 * (6) ≤ 64 * (4 * d + 13) by omega) (Nat.le_of_ble_eq_true rfl) (Nat.le_of_ble_eq_true rfl) (Nat.le_of_ble_eq_true rfl) rfl (fun v1 hh1 hp1 => ?_)
        obtain ⟨rfl, bh4, lt4, nm4, Wd4, hTO4, rfl⟩ := hp1
        refine x_same (h' := (g_mw h N T3 Na3 B3 Nm3 z3 q3 (upd St3 (t0 + acc.length) (nI r3)) Vr3 Kp3 (nI (g_nx (g_at u N) N p3)) bh4 (nI (g_ky (g_at u N) N (g_nx (g_at u N) N p3))) (nI o) nm4 lt4 (nI (t0 + (acc.length + 1))) pl (nI V3.length) kn (nI c3) Wd4)) (fun _ _ => rfl) ?_
        refine x_aload_n d_RD_compound_93 rfl rfl ?_
        refine x_get d_RD_compound_94 f_RD_81 (Nat.le_of_ble_eq_true rfl) (Nat.le_of_ble_eq_true rfl) (by first | rfl | assumption) (by rfl) ?_
        refine x_iload_n d_RD_compound_97 rfl rfl ?_
        refine x_aload_n d_RD_compound_98 rfl rfl ?_
        refine x_get d_RD_compound_99 f_RD_72 (Nat.le_of_ble_eq_true rfl) (Nat.le_of_ble_eq_true rfl) (by first | rfl | assumption) (by rfl) ?_
        refine x_iload_n d_RD_compound_102 rfl rfl ?_
        refine x_aload_n d_RD_compound_103 rfl rfl ?_
        refine x_get d_RD_compound_104 f_RD_102 (Nat.le_of_ble_eq_true rfl) (Nat.le_of_ble_eq_true rfl) (by first | rfl | assumption) (by rfl) ?_
        refine x_iload_n d_RD_compound_107 rfl rfl ?_
        refine x_isub d_RD_compound_108 ?_
        refine x_topi (nI (t3 :: acc).length) (by rw [g_nIsub (by omega), Nat.add_sub_cancel_left]; rfl) ?_
        refine x_same (h' := (g_ew (g_mw h N T3 Na3 B3 Nm3 z3 q3 (upd St3 (t0 + acc.length) (nI r3)) Vr3 Kp3 (nI (g_nx (g_at u N) N p3)) bh4 (nI (g_ky (g_at u N) N (g_nx (g_at u N) N p3))) (nI o) nm4 lt4 (nI (t0 + (acc.length + 1))) pl (nI V3.length) kn (nI c3) Wd4) B3 Nm3 (nI z3) (nI q3))) (x_pt rfl rfl rfl rfl rfl rfl rfl rfl rfl rfl rfl rfl rfl rfl rfl rfl rfl rfl rfl rfl rfl rfl rfl rfl rfl rfl rfl rfl rfl rfl rfl rfl rfl rfl rfl rfl rfl rfl rfl rfl rfl rfl rfl rfl rfl rfl rfl rfl rfl rfl rfl rfl) ?_
        refine x_callV4Y d_RD_compound_109 k_RD_215 (Nat.le_of_ble_eq_true rfl) (Nat.le_of_ble_eq_true rfl) (by first | rfl | assumption) (by rfl) (w_TS_compound (h := (g_mw h N T3 Na3 B3 Nm3 z3 q3 (upd St3 (t0 + acc.length) (nI r3)) Vr3 Kp3 (nI (g_nx (g_at u N) N p3)) bh4 (nI (g_ky (g_at u N) N (g_nx (g_at u N) N p3))) (nI o) nm4 lt4 (nI (t0 + (acc.length + 1))) pl (nI V3.length) kn (nI c3) Wd4)) (z := z3) (q := q3) (mark := t0) (m := (t3 :: acc).length) (by omega) (by rw [List.length_cons]; omega) rfl (by rw [List.length_cons]; omega)) (show 0 + 1 ≤ 4 * d + 13 by omega) (show 8 + (6 + 11) + 64 * (0) ≤ 64 * (4 * d + 13) by omega) (Nat.le_of_ble_eq_true rfl) (Nat.le_of_ble_eq_true rfl) (Nat.le_of_ble_eq_true rfl) rfl ?_
        refine x_same (h' := (g_mw h N T3 Na3 (g_bc B3 z3 q3 (nI k) (upd St3 (t0 + acc.length) (nI r3)) t0 (t3 :: acc).length) Nm3 (z3 + 1) (q3 + (t3 :: acc).length) (upd St3 (t0 + acc.length) (nI r3)) Vr3 Kp3 (nI (g_nx (g_at u N) N p3)) bh4 (nI (g_ky (g_at u N) N (g_nx (g_at u N) N p3))) (nI o) nm4 lt4 (nI (t0 + (acc.length + 1))) pl (nI V3.length) kn (nI c3) Wd4)) (x_pt rfl rfl rfl rfl rfl rfl rfl rfl rfl rfl rfl rfl rfl rfl rfl rfl rfl rfl rfl rfl rfl rfl rfl rfl rfl rfl rfl rfl rfl rfl rfl rfl rfl rfl rfl rfl rfl rfl rfl rfl rfl rfl rfl rfl rfl rfl rfl rfl rfl rfl rfl rfl) ?_
        refine x_istore_n d_RD_compound_112 rfl (Nat.le_of_ble_eq_true rfl) ?_
        refine x_aload_n d_RD_compound_113 rfl rfl ?_
        refine x_iload_n d_RD_compound_114 rfl rfl ?_
        refine x_put d_RD_compound_115 f_RD_102 (Nat.le_of_ble_eq_true rfl) (Nat.le_of_ble_eq_true rfl) (by first | rfl | assumption) (by rfl) (by rfl) (by exact (Nat.le_of_ble_eq_true rfl)) ?_
        refine x_aload_n d_RD_compound_118 rfl rfl ?_
        refine x_iconst 0 d_RD_compound_119 (by decide) ?_
        refine x_put d_RD_compound_120 f_RD_204 (Nat.le_of_ble_eq_true rfl) (Nat.le_of_ble_eq_true rfl) (by first | rfl | assumption) (by rfl) (by rfl) (by exact (Nat.le_of_ble_eq_true rfl)) ?_
        refine x_same (h' := (g_mw h N T3 Na3 (g_bc B3 z3 q3 (nI k) (upd St3 (t0 + acc.length) (nI r3)) t0 (t3 :: acc).length) Nm3 (z3 + 1) (q3 + (t3 :: acc).length) (upd St3 (t0 + acc.length) (nI r3)) Vr3 Kp3 (nI (g_nx (g_at u N) N p3)) bh4 (nI (g_ky (g_at u N) N (g_nx (g_at u N) N p3))) (nI o) nm4 lt4 (nI t0) pl (nI V3.length) kn (nI 0) Wd4)) (x_pt rfl rfl rfl rfl rfl rfl rfl rfl rfl rfl rfl rfl rfl rfl rfl rfl rfl rfl rfl rfl rfl rfl rfl rfl rfl rfl rfl rfl rfl rfl rfl rfl rfl rfl rfl rfl rfl rfl rfl rfl rfl rfl rfl rfl rfl rfl rfl rfl rfl rfl rfl rfl) ?_
        refine x_iload_n d_RD_compound_123 rfl rfl ?_
        exact x_ireturn d_RD_compound_124 rfl rfl (by
          have hlab : ((bif g_is (g_at u N) (g_fr (g_at u N) N p) (g_to (g_at u N) N p) [46] && decide (acc.length = 1) then g_lb 4 0 0 else g_lb 3 (g_fr (g_at u N) N p) (g_to (g_at u N) N p)) % 8 = 3 ∧ g_nt T3 k = some (g_ut u (g_fR (bif g_is (g_at u N) (g_fr (g_at u N) N p) (g_to (g_at u N) N p) [46] && decide (acc.length = 1) then g_lb 4 0 0 else g_lb 3 (g_fr (g_at u N) N p) (g_to (g_at u N) N p))) (g_tO (bif g_is (g_at u N) (g_fr (g_at u N) N p) (g_to (g_at u N) N p) [46] && decide (acc.length = 1) then g_lb 4 0 0 else g_lb 3 (g_fr (g_at u N) N p) (g_to (g_at u N) N p))))) ∨ ((bif g_is (g_at u N) (g_fr (g_at u N) N p) (g_to (g_at u N) N p) [46] && decide (acc.length = 1) then g_lb 4 0 0 else g_lb 3 (g_fr (g_at u N) N p) (g_to (g_at u N) N p)) % 8 = 4 ∧ (t3 :: acc).length = 2 ∧ g_nt T3 k = some [46]) := g_labC hu hN hp hky (hE3.2.2.1 _ _ hkT)
          refine g_MKi hR.symm ⟨z3, T3, Na3, (g_bc B3 z3 q3 (nI k) (upd St3 (t0 + acc.length) (nI r3)) t0 (t3 :: acc).length), Nm3, z3 + 1, q3 + (t3 :: acc).length, upd St3 (t0 + acc.length) (nI r3), Vr3, Kp3, bh4, lt4, nm4, Wd4, rfl, g_NIm hNI3 hnb3.1, hMV3, hTO4, g_mEt hE13 (g_E3 (fun _ _ y => y)), by omega, by rw [List.length_cons]; omega, fun k hk => (by rw [g_updN (by omega), hS3 k (by omega)]; exact hS1 k hk), g_Tc (fun _ _ y => y) hAS3 k1 hlab, ?_⟩
          rfl)
      · refine x_aload_n d_RD_compound_80 rfl rfl ?_
        refine x_aload_n d_RD_compound_81 rfl rfl ?_
        refine x_get d_RD_compound_82 f_RD_116 (Nat.le_of_ble_eq_true rfl) (Nat.le_of_ble_eq_true rfl) (by first | rfl | assumption) (by rfl) ?_
        refine x_callV1Y d_RD_compound_85 k_RD_126 (Nat.le_of_ble_eq_true rfl) (Nat.le_of_ble_eq_true rfl) (by first | rfl | assumption) (by rfl) w_RD_bad (show 0 + 1 ≤ 4 * d + 13 by omega) (show 8 + (2 + 11) + 64 * 0 ≤ 64 * (4 * d + 13) by omega) (Nat.le_of_ble_eq_true rfl) (Nat.le_of_ble_eq_true rfl) (Nat.le_of_ble_eq_true rfl) rfl ?_
        refine x_same (h' := (g_mw h N T3 Na3 B3 Nm3 z3 q3 (upd St3 (t0 + acc.length) (nI r3)) Vr3 Kp3 (nI p3) bh3 (nI (g_ky (g_at u N) N p3)) (nI o) nm3 lt3 (nI (t0 + (acc.length + 1))) (nI p3) (nI V3.length) kn (nI c3) Wd3)) (fun _ _ => rfl) ?_
        exact x_athrow d_RD_compound_88 (Nat.le_of_ble_eq_true rfl) (Nat.le_of_ble_eq_true rfl) hB.2.2 rfl (g_MKx (by rw [← hR, if_neg (fun y => c_77 (by rw [y]; rfl))]; exact Or.inl rfl) g_txW)
set_option maxRecDepth 20000 in
theorem w_RD_compound {E : xR} {h : xH} {u : Nat → Nat} {N d : Nat} (h22 : h 22 = .inl (1, 4096, .inl (fun i => g_sb (u i)))) (hu : ∀ i, u i < 256) (hN : N ≤ 4096) (hB : g_TB2 h) (hM : g_MC E h u N d) {p s o t0 z q : Nat} {T : List (List Int32)} {Na B : Nat → Nat → Int32} {Nm : Nat → Int64} {St Vr Kp : Nat → Int32} {bh lt : Int32} {nm : Int64} {pl kn rk : Int32} {Wd : Nat → Int32} {V : List (Nat × Nat)} (hp : p ≤ N) (hs : s ≤ p) (hz : z ≤ s) (ht0 : t0 + q ≤ z) (hV : V.length ≤ s) (ho : o + d = 100) (hNI : g_NI T Na p) (hMV : g_MV u T Vr V) (hTO : g_TO u N p bh lt nm Wd) (hky : (g_ky (g_at u N) N p) = 3) (h40 : g_at u N (g_bh (g_at u N) N p) = 40) : x_Mt E M_RD_compound (4 * d + 13) 0 0 [.ref 36] 52 (g_mw h N T Na B Nm z q St Vr Kp (nI p) bh (nI (g_ky (g_at u N) N p)) (nI o) nm lt (nI t0) pl (nI V.length) kn rk Wd) (g_MK u N h o t0 pl kn T B Nm z q St s (g_arL (g_at u N) N (g_T (g_at u N) u N d) p 8 (g_nx (g_at u N) N (g_nx (g_at u N) N p)) (s + 1) V [])) := by
  obtain ⟨hl, hw⟩ := hTO.2.2.1 (Or.inr hky)
  obtain rfl : bh = nI (g_bh (g_at u N) N p) := hTO.2.1 (by rw [hky]; decide)
  have htk := g_tkP hu hp (Or.inr (Or.inl hky))
  have hnb := g_nxb (u := u) hp (by rw [hky]; decide)
  have hk4 := (g_nam40 h40).2
  have hnib := g_NIb hNI
  have hU4 := htk.1
  subst hl
  refine x_Mt.of (by decide) (Nat.le_of_ble_eq_true rfl) ?_
  show x_W E M_RD_compound _ _ 52 (g_mw h N T Na B Nm z q St Vr Kp (nI p) (nI (g_bh (g_at u N) N p)) (nI (g_ky (g_at u N) N p)) (nI o) nm (nI (g_ut u (g_fr (g_at u N) N p) (g_to (g_at u N) N p)).length) (nI t0) pl (nI V.length) kn rk Wd) 0 [(0, .ref 36)] [] 0 0
  refine x_aload_n d_RD_compound_0 rfl rfl ?_
  refine x_callV0E d_RD_compound_1 k_RD_212 (Nat.le_of_ble_eq_true rfl) (Nat.le_of_ble_eq_true rfl) (by first | rfl | assumption) (by rfl) (w_RD_name (x := (g_ut u (g_fr (g_at u N) N p) (g_to (g_at u N) N p))) hNI.1 (by omega) (by omega) (by omega) (g_utB hu) hw) (show 2 + 1 ≤ 4 * d + 13 by omega) (show 8 + (1 + 11) + 64 * (2) ≤ 64 * (4 * d + 13) by omega) (Nat.le_of_ble_eq_true rfl) (Nat.le_of_ble_eq_true rfl) (Nat.le_of_ble_eq_true rfl) rfl (fun v1 hh1 hp1 => ?_)
  obtain ⟨rfl, Na1, hA1, rfl⟩ := hp1
  have hNI1 : g_NI (g_nT T (g_ut u (g_fr (g_at u N) N p) (g_to (g_at u N) N p))) Na1 (g_nx (g_at u N) N p) := g_NIn hNI hA1 (by omega) (by omega)
  have hkx := g_nkT T (g_ut u (g_fr (g_at u N) N p) (g_to (g_at u N) N p))
  have hkL := g_ntL _ _ _ hkx
  have hnib1 := g_NIb hNI1
  refine x_istore_n d_RD_compound_4 rfl (Nat.le_of_ble_eq_true rfl) ?_
  refine x_aload_n d_RD_compound_5 rfl rfl ?_
  refine x_callV0E d_RD_compound_6 k_RD_113 (Nat.le_of_ble_eq_true rfl) (Nat.le_of_ble_eq_true rfl) (by first | rfl | assumption) (by rfl) (w_RD_scan (p := (g_nx (g_at u N) N p)) h22 hu hN (g_bhN hu ⟨hp, (by rw [hky]; decide)⟩) rfl) (show 6 + 1 ≤ 4 * d + 13 by omega) (show 8 + (4 + 11) + 64 * (6) ≤ 64 * (4 * d + 13) by omega) (Nat.le_of_ble_eq_true rfl) (Nat.le_of_ble_eq_true rfl) (Nat.le_of_ble_eq_true rfl) rfl (fun v1 hh1 hp1 => ?_)
  obtain ⟨rfl, bh2, lt2, nm2, Wd2, hTO2, rfl⟩ := hp1
  refine x_same (h' := (g_mw h N (g_nT T (g_ut u (g_fr (g_at u N) N p) (g_to (g_at u N) N p))) Na1 B Nm z q St Vr Kp (nI (g_nx (g_at u N) N p)) bh2 (nI (g_ky (g_at u N) N (g_nx (g_at u N) N p))) (nI o) nm2 lt2 (nI t0) pl (nI V.length) kn rk Wd2)) (fun _ _ => rfl) ?_
  refine x_aload_n d_RD_compound_9 rfl rfl ?_
  refine x_get d_RD_compound_10 f_RD_102 (Nat.le_of_ble_eq_true rfl) (Nat.le_of_ble_eq_true rfl) (by first | rfl | assumption) (by rfl) ?_
  refine x_istore_n d_RD_compound_13 rfl (Nat.le_of_ble_eq_true rfl) ?_
  exact w_RD_cpLoop h22 hu hN hB hM hp hky ht0 hz ho 8 (g_nx (g_at u N) N p) (s + 1) z q (g_nT T (g_ut u (g_fr (g_at u N) N p) (g_to (g_at u N) N p))) Na1 B Nm St Vr Kp bh2 lt2 nm2 rk Wd2 V [] rfl (by omega) hkx hnb.2.1 (by rw [hk4]; decide) (by rw [hk4]; decide) (by have := (g_nxb (u := u) hnb.2.1 (by rw [hk4]; decide)).2.2 (by rw [hk4]; decide); omega) (by omega) hNI1 (g_MV_mv (fun _ _ y => g_nTm y) hMV) hTO2 ⟨Nat.le_refl _, Nat.le_refl _, fun _ _ y => g_nTm y, fun _ _ => ⟨fun _ _ => rfl, rfl⟩, fun _ _ => rfl⟩ (by omega) (by show z + q = z + q + 0; omega) (fun _ _ => rfl) trivial rfl
