set_option maxRecDepth 20000 in
theorem w_RD_liLoop {E : xR} {h : xH} {u : Nat → Nat} {N d : Nat} (h22 : h 22 = .inl (1, 4096, .inl (fun i => g_sb (u i)))) (hu : ∀ i, u i < 256) (hN : N ≤ 4096) (hB : g_TB2 h) (hM : g_MC E h u N d) {s o t0 z q : Nat} {T : List (List Int32)} {B : Nat → Nat → Int32} {Nm : Nat → Int64} {St : Nat → Int32} {pl kn : Int32} {R : g_Rs} (ht0 : t0 + q ≤ z) (hz : z ≤ s) (ho : o + d = 100) : ∀ (m p1 s1 z1 q1 : Nat) (T1 : List (List Int32)) (Na1 B1 : Nat → Nat → Int32) (Nm1 : Nat → Int64) (St1 Vr1 Kp1 : Nat → Int32) (bh1 lt1 : Int32) (nm1 : Int64) (rk1 : Int32) (Wd1 : Nat → Int32) (V1 : List (Nat × Nat)) (acc : List (Nat × Std.Format)), N < p1 + m → p1 ≤ N → s1 ≤ p1 → V1.length ≤ s1 → g_NI T1 Na1 p1 → g_MV u T1 Vr1 V1 → g_TO u N p1 bh1 lt1 nm1 Wd1 → g_mE T T1 B B1 Nm Nm1 z q z1 q1 → z1 + s + acc.length = z + s1 → z1 + q = z + q1 + acc.length → (∀ k, k < t0 → St1 k = St k) → g_AS u N T1 B1 Nm1 z1 q1 St1 t0 acc → (g_liL (g_at u N) N (g_T (g_at u N) u N d) m p1 s1 V1 acc) = R → x_W E M_RD_list (x_room (4 * d + 13) 0 0) (g_MK u N h o t0 pl kn T B Nm z q St s R) 52 (g_mw h N T1 Na1 B1 Nm1 z1 q1 St1 Vr1 Kp1 (nI p1) bh1 (nI (g_ky (g_at u N) N p1)) (nI o) nm1 lt1 (nI (t0 + acc.length)) pl (nI V1.length) kn rk1 Wd1) 36 [(0, .ref 36), (1, .int (nI t0)), (2, .int (-1))] [] 0 0 := by
  intro m
  induction m with
  | zero => intro p1 s1 z1 q1 T1 Na1 B1 Nm1 St1 Vr1 Kp1 bh1 lt1 nm1 rk1 Wd1 V1 acc hm hp1; omega
  | succ m ih =>
    intro p1 s1 z1 q1 T1 Na1 B1 Nm1 St1 Vr1 Kp1 bh1 lt1 nm1 rk1 Wd1 V1 acc hm hp1 hs1 hV1 hNI1 hMV1 hTO1 hE1 hz1 hq1 hS1 hAS hR
    have hkL := g_kyL (u := u) hp1
    rw [g_liL] at hR
    refine x_aload_n d_RD_list_36 rfl rfl ?_
    refine x_get d_RD_list_37 f_RD_123 (Nat.le_of_ble_eq_true rfl) (Nat.le_of_ble_eq_true rfl) (by first | rfl | assumption) (by rfl) ?_
    refine x_bipush 10 d_RD_list_40 (by decide) ?_
    refine x_icmp_ne 77 d_RD_list_42 (by decide) (fun c_42 => ?_) (fun c_42 => ?_)
    · have n10 : ¬ (g_ky (g_at u N) N p1) = 10 := fun y => c_42 (by rw [y]; rfl)
      rw [if_neg n10] at hR
      unfold g_liE at hR
      refine x_aload_n d_RD_list_77 rfl rfl ?_
      refine x_get d_RD_list_78 f_RD_123 (Nat.le_of_ble_eq_true rfl) (Nat.le_of_ble_eq_true rfl) (by first | rfl | assumption) (by rfl) ?_
      refine x_bipush 11 d_RD_list_81 (by decide) ?_
      refine x_icmp_ne 98 d_RD_list_83 (by decide) (fun c_83 => ?_) (fun c_83 => ?_)
      · rw [if_neg (fun y => c_83 (by rw [y]; rfl))] at hR
        exact w_RD_liCb h22 hu hN hB hp1 hNI1 hMV1 hTO1 hE1 (by omega) (by omega) (by omega) hS1 hAS (by omega) (by omega) hR
      · have k11 : (g_ky (g_at u N) N p1) = 11 := (g_nIne (by omega) (by decide)).mp c_83
        rw [if_pos k11] at hR
        obtain rfl : bh1 = nI (g_bh (g_at u N) N p1) := hTO1.2.1 (by rw [k11]; decide)
        have hnb := g_nxb (u := u) hp1 (by rw [k11]; decide)
        have hnb2 := hnb.2.2 (by rw [k11]; decide)
        refine x_aload_n d_RD_list_86 rfl rfl ?_
        refine x_callV0E d_RD_list_87 k_RD_113 (Nat.le_of_ble_eq_true rfl) (Nat.le_of_ble_eq_true rfl) (by first | rfl | assumption) (by rfl) (w_RD_scan (p := (g_nx (g_at u N) N p1)) h22 hu hN (g_bhN hu ⟨hp1, (by rw [k11]; decide)⟩) rfl) (show 6 + 1 ≤ 4 * d + 13 by omega) (show 8 + (4 + 11) + 64 * (6) ≤ 64 * (4 * d + 13) by omega) (Nat.le_of_ble_eq_true rfl) (Nat.le_of_ble_eq_true rfl) (Nat.le_of_ble_eq_true rfl) rfl (fun v1 hh1 hp1 => ?_)
        obtain ⟨rfl, bh5, lt5, nm5, Wd5, hTO5, rfl⟩ := hp1
        refine x_same (h' := (g_mw h N T1 Na1 B1 Nm1 z1 q1 St1 Vr1 Kp1 (nI (g_nx (g_at u N) N p1)) bh5 (nI (g_ky (g_at u N) N (g_nx (g_at u N) N p1))) (nI o) nm5 lt5 (nI (t0 + acc.length)) pl (nI V1.length) kn rk1 Wd5)) (fun _ _ => rfl) ?_
        refine x_aload_n d_RD_list_90 rfl rfl ?_
        refine x_sipush 999 d_RD_list_91 (by decide) ?_
        refine x_callV1M d_RD_list_94 k_RD_119 (Nat.le_of_ble_eq_true rfl) (Nat.le_of_ble_eq_true rfl) (by first | rfl | assumption) (by rfl) (hM 999 (g_nx (g_at u N) N p1) s1 o (t0 + acc.length) z1 q1 T1 Na1 B1 Nm1 St1 Vr1 Kp1 bh5 lt5 nm5 pl kn rk1 Wd5 V1 (by decide) hnb.2.1 (by omega) (by omega) (by omega) (by omega) ho (g_NIm hNI1 hnb.1) hMV1 hTO5) (show 4 * d + 12 + 1 ≤ 4 * d + 13 by omega) (show 8 + (9 + 11) + 64 * (4 * d + 12) ≤ 64 * (4 * d + 13) by omega) (Nat.le_of_ble_eq_true rfl) (Nat.le_of_ble_eq_true rfl) (Nat.le_of_ble_eq_true rfl) rfl (fun p6 s6 V6 t6 c6 v6 hh6 hr6 hR6 => ?_) (fun x h' hd hx => g_MKx (hR ▸ g_de_bd hd (fun _ _ _ _ h8 => Or.inl (by unfold g_liC; rw [if_neg (by rw [h8]; decide)]))) hx)
        obtain ⟨r6, T6, Na6, B6, Nm6, z6, q6, St6, Vr6, Kp6, bh6, lt6, nm6, Wd6, rfl, hNI6, hMV6, hTO6, hE6, hz6, hq6, hS6, hT6, rfl⟩ := hR6
        have b6 := g_Tb (u := u) d 999 (g_nx (g_at u N) N p1) s1 V1 (by decide) hnb.2.1 _ _ _ _ _ hr6
        obtain ⟨kk6, d6, e6⟩ := g_Td (u := u) hN d 999 (g_nx (g_at u N) N p1) s1 V1 (by decide) hnb.2.1 (by omega) (by omega) _ _ _ _ _ hr6
        rw [hr6] at hR
        have hR : (g_liC (g_at u N) N p6 s6 V6 (g_liF acc t6)) = R := hR
        refine x_istore_n d_RD_list_97 rfl (Nat.le_of_ble_eq_true rfl) ?_
        refine x_lv [(0, .ref 36), (1, .int (nI t0)), (2, .int (nI r6))] rfl ?_
        exact w_RD_liCa h22 hu hN hB b6.2.1 hNI6 hMV6 hTO6 (g_mEt hE1 hE6) (by omega) (by omega) (by omega) (fun k hk => by rw [hS6 k (by omega)]; exact hS1 k hk) (g_AS_mv hE6 acc (fun k hk => hS6 k hk) hAS) e6.1.2.1 e6.1.1 hT6 (by omega) (by omega) hR
    · have k10 : (g_ky (g_at u N) N p1) = 10 := (g_nIne (by omega) (by decide)).mp c_42
      rw [if_pos k10] at hR
      obtain rfl : bh1 = nI (g_bh (g_at u N) N p1) := hTO1.2.1 (by rw [k10]; decide)
      have hnb := g_nxb (u := u) hp1 (by rw [k10]; decide)
      have hnb2 := hnb.2.2 (by rw [k10]; decide)
      refine x_aload_n d_RD_list_45 rfl rfl ?_
      refine x_callV0E d_RD_list_46 k_RD_113 (Nat.le_of_ble_eq_true rfl) (Nat.le_of_ble_eq_true rfl) (by first | rfl | assumption) (by rfl) (w_RD_scan (p := (g_nx (g_at u N) N p1)) h22 hu hN (g_bhN hu ⟨hp1, (by rw [k10]; decide)⟩) rfl) (show 6 + 1 ≤ 4 * d + 13 by omega) (show 8 + (4 + 11) + 64 * (6) ≤ 64 * (4 * d + 13) by omega) (Nat.le_of_ble_eq_true rfl) (Nat.le_of_ble_eq_true rfl) (Nat.le_of_ble_eq_true rfl) rfl (fun v1 hh1 hp1 => ?_)
      obtain ⟨rfl, bh2, lt2, nm2, Wd2, hTO2, rfl⟩ := hp1
      refine x_same (h' := (g_mw h N T1 Na1 B1 Nm1 z1 q1 St1 Vr1 Kp1 (nI (g_nx (g_at u N) N p1)) bh2 (nI (g_ky (g_at u N) N (g_nx (g_at u N) N p1))) (nI o) nm2 lt2 (nI (t0 + acc.length)) pl (nI V1.length) kn rk1 Wd2)) (fun _ _ => rfl) ?_
      refine x_aload_n d_RD_list_49 rfl rfl ?_
      refine x_sipush 999 d_RD_list_50 (by decide) ?_
      refine x_callV1M d_RD_list_53 k_RD_119 (Nat.le_of_ble_eq_true rfl) (Nat.le_of_ble_eq_true rfl) (by first | rfl | assumption) (by rfl) (hM 999 (g_nx (g_at u N) N p1) (s1 + 1) o (t0 + acc.length) z1 q1 T1 Na1 B1 Nm1 St1 Vr1 Kp1 bh2 lt2 nm2 pl kn rk1 Wd2 V1 (by decide) hnb.2.1 (by omega) (by omega) (by omega) (by omega) ho (g_NIm hNI1 hnb.1) hMV1 hTO2) (show 4 * d + 12 + 1 ≤ 4 * d + 13 by omega) (show 8 + (9 + 11) + 64 * (4 * d + 12) ≤ 64 * (4 * d + 13) by omega) (Nat.le_of_ble_eq_true rfl) (Nat.le_of_ble_eq_true rfl) (Nat.le_of_ble_eq_true rfl) rfl (fun p3 s3 V3 t3 c3 v3 hh3 hr3 hR3 => ?_) (fun x h' hd hx => g_MKx (hR ▸ g_de_bd hd (fun _ _ _ _ h8 => Or.inl (g_liL8 h8))) hx)
      obtain ⟨r3, T3, Na3, B3, Nm3, z3, q3, St3, Vr3, Kp3, bh3, lt3, nm3, Wd3, rfl, hNI3, hMV3, hTO3, hE3, hz3, hq3, hS3, hT3, rfl⟩ := hR3
      have b3 := g_Tb (u := u) d 999 (g_nx (g_at u N) N p1) (s1 + 1) V1 (by decide) hnb.2.1 _ _ _ _ _ hr3
      obtain ⟨kk3, d3, e3⟩ := g_Td (u := u) hN d 999 (g_nx (g_at u N) N p1) (s1 + 1) V1 (by decide) hnb.2.1 (by omega) (by omega) _ _ _ _ _ hr3
      have hv3 := g_QV e3
      rw [hr3] at hR
      have hR : (g_liL (g_at u N) N (g_T (g_at u N) u N d) m p3 s3 V3 (t3 :: acc)) = R := hR
      refine x_istore_n d_RD_list_56 rfl (Nat.le_of_ble_eq_true rfl) ?_
      refine x_aload_n d_RD_list_57 rfl rfl ?_
      refine x_get d_RD_list_58 f_RD_72 (Nat.le_of_ble_eq_true rfl) (Nat.le_of_ble_eq_true rfl) (by first | rfl | assumption) (by rfl) ?_
      refine x_aload_n d_RD_list_61 rfl rfl ?_
      refine x_dup d_RD_list_62 rfl ?_
      refine x_get d_RD_list_63 f_RD_102 (Nat.le_of_ble_eq_true rfl) (Nat.le_of_ble_eq_true rfl) (by first | rfl | assumption) (by rfl) ?_
      refine x_dup_x1 d_RD_list_66 rfl rfl ?_
      refine x_iconst 1 d_RD_list_67 (by decide) ?_
      refine x_iadd d_RD_list_68 ?_
      refine x_topi (nI (t0 + (t3 :: acc).length)) (nI_succ (t0 + acc.length)).symm ?_
      refine x_put d_RD_list_69 f_RD_102 (Nat.le_of_ble_eq_true rfl) (Nat.le_of_ble_eq_true rfl) (by first | rfl | assumption) (by rfl) (by rfl) (by exact (Nat.le_of_ble_eq_true rfl)) ?_
      refine x_iload_n d_RD_list_72 rfl rfl ?_
      refine x_iast d_RD_list_73 (Nat.le_of_ble_eq_true rfl) (Nat.le_of_ble_eq_true rfl) (by first | rfl | assumption) (vp_in_nI (show t0 + acc.length < 4200 by omega) (by decide)) ?_
      refine x_goto 36 d_RD_list_74 (by decide) ?_
      refine x_lv [(0, .ref 36), (1, .int (nI t0)), (2, .int (-1)), (3, .int (nI r3))] rfl ?_
      refine x_wk [(0, .ref 36), (1, .int (nI t0)), (2, .int (-1))] (by simp) ?_
      refine x_same (h' := (g_mw h N T3 Na3 B3 Nm3 z3 q3 (upd St3 (t0 + acc.length) (nI r3)) Vr3 Kp3 (nI p3) bh3 (nI (g_ky (g_at u N) N p3)) (nI o) nm3 lt3 (nI (t0 + (t3 :: acc).length)) pl (nI V3.length) kn (nI c3) Wd3)) (x_pt rfl rfl rfl rfl rfl rfl rfl rfl rfl rfl rfl rfl rfl rfl rfl rfl rfl rfl rfl rfl rfl rfl rfl rfl rfl rfl rfl rfl rfl rfl rfl rfl rfl rfl rfl rfl rfl rfl rfl rfl rfl (show Sum.inl (0, 4200, Sum.inl (upd _ (nI (t0 + acc.length)).toNatClampNeg _)) = _ by rw [nI_clamp (by omega)]; rfl) rfl rfl rfl rfl rfl rfl rfl rfl rfl rfl) ?_
      exact ih p3 s3 z3 q3 T3 Na3 B3 Nm3 (upd St3 (t0 + acc.length) (nI r3)) Vr3 Kp3 bh3 lt3 nm3 (nI c3) Wd3 V3 (t3 :: acc) (by omega) b3.2.1 (by omega) (by omega) hNI3 hMV3 hTO3 (g_mEt hE1 hE3) (by rw [List.length_cons]; omega) (by rw [List.length_cons]; omega) (fun k hk => by rw [g_updN (by omega), hS3 k (by omega)]; exact hS1 k hk) ⟨⟨r3, g_updY, e3.1.2.1, e3.1.1, hT3⟩, g_AS_mv hE3 acc (fun k hk => by rw [g_updN (by omega)]; exact hS3 k hk) hAS⟩ hR
set_option maxRecDepth 20000 in
theorem w_RD_list {E : xR} {h : xH} {u : Nat → Nat} {N d : Nat} (h22 : h 22 = .inl (1, 4096, .inl (fun i => g_sb (u i)))) (hu : ∀ i, u i < 256) (hN : N ≤ 4096) (hB : g_TB2 h) (hM : g_MC E h u N d) {p s o t0 z q : Nat} {T : List (List Int32)} {Na B : Nat → Nat → Int32} {Nm : Nat → Int64} {St Vr Kp : Nat → Int32} {bh lt : Int32} {nm : Int64} {pl kn rk : Int32} {Wd : Nat → Int32} {V : List (Nat × Nat)} (hp : p ≤ N) (hs : s ≤ p) (hz : z ≤ s) (ht0 : t0 + q ≤ z) (hV : V.length ≤ s) (ho : o + d = 100) (hNI : g_NI T Na p) (hMV : g_MV u T Vr V) (hTO : g_TO u N p bh lt nm Wd) (hky : (g_ky (g_at u N) N p) = 6) : x_Mt E M_RD_list (4 * d + 13) 0 0 [.ref 36] 52 (g_mw h N T Na B Nm z q St Vr Kp (nI p) bh (nI (g_ky (g_at u N) N p)) (nI o) nm lt (nI t0) pl (nI V.length) kn rk Wd) (g_MK u N h o t0 pl kn T B Nm z q St s (g_li (g_at u N) N (g_T (g_at u N) u N d) p s V)) := by
  obtain rfl : bh = nI (g_bh (g_at u N) N p) := hTO.2.1 (by rw [hky]; decide)
  have hnb := g_nxb (u := u) hp (by rw [hky]; decide)
  have hnb2 := hnb.2.2 (by rw [hky]; decide)
  refine x_Mt.of (by decide) (Nat.le_of_ble_eq_true rfl) ?_
  show x_W E M_RD_list _ _ 52 (g_mw h N T Na B Nm z q St Vr Kp (nI p) (nI (g_bh (g_at u N) N p)) (nI (g_ky (g_at u N) N p)) (nI o) nm lt (nI t0) pl (nI V.length) kn rk Wd) 0 [(0, .ref 36)] [] 0 0
  refine x_aload_n d_RD_list_0 rfl rfl ?_
  refine x_get d_RD_list_1 f_RD_102 (Nat.le_of_ble_eq_true rfl) (Nat.le_of_ble_eq_true rfl) (by first | rfl | assumption) (by rfl) ?_
  refine x_istore_n d_RD_list_4 rfl (Nat.le_of_ble_eq_true rfl) ?_
  refine x_aload_n d_RD_list_5 rfl rfl ?_
  refine x_callV0E d_RD_list_6 k_RD_113 (Nat.le_of_ble_eq_true rfl) (Nat.le_of_ble_eq_true rfl) (by first | rfl | assumption) (by rfl) (w_RD_scan (p := (g_nx (g_at u N) N p)) h22 hu hN (g_bhN hu ⟨hp, (by rw [hky]; decide)⟩) rfl) (show 6 + 1 ≤ 4 * d + 13 by omega) (show 8 + (4 + 11) + 64 * (6) ≤ 64 * (4 * d + 13) by omega) (Nat.le_of_ble_eq_true rfl) (Nat.le_of_ble_eq_true rfl) (Nat.le_of_ble_eq_true rfl) rfl (fun v1 hh1 hp1 => ?_)
  obtain ⟨rfl, bh2, lt2, nm2, Wd2, hTO2, rfl⟩ := hp1
  refine x_same (h' := (g_mw h N T Na B Nm z q St Vr Kp (nI (g_nx (g_at u N) N p)) bh2 (nI (g_ky (g_at u N) N (g_nx (g_at u N) N p))) (nI o) nm2 lt2 (nI t0) pl (nI V.length) kn rk Wd2)) (fun _ _ => rfl) ?_
  refine x_iconst (-1) d_RD_list_9 (by decide) ?_
  refine x_istore_n d_RD_list_10 rfl (Nat.le_of_ble_eq_true rfl) ?_
  refine x_aload_n d_RD_list_11 rfl rfl ?_
  refine x_sipush 999 d_RD_list_12 (by decide) ?_
  refine x_callV1M d_RD_list_15 k_RD_119 (Nat.le_of_ble_eq_true rfl) (Nat.le_of_ble_eq_true rfl) (by first | rfl | assumption) (by rfl) (hM 999 (g_nx (g_at u N) N p) (s + 1) o t0 z q T Na B Nm St Vr Kp bh2 lt2 nm2 pl kn rk Wd2 V (by decide) hnb.2.1 (by omega) (by omega) ht0 (by omega) ho (g_NIm hNI hnb.1) hMV hTO2) (show 4 * d + 12 + 1 ≤ 4 * d + 13 by omega) (show 8 + (9 + 11) + 64 * (4 * d + 12) ≤ 64 * (4 * d + 13) by omega) (Nat.le_of_ble_eq_true rfl) (Nat.le_of_ble_eq_true rfl) (Nat.le_of_ble_eq_true rfl) rfl (fun p3 s3 V3 t3 c3 v3 hh3 hr3 hR3 => ?_) (fun x h' hd hx => g_MKx (g_de_bd hd (fun _ _ _ _ h8 => Or.inl (g_liL8 h8))) hx)
  obtain ⟨r3, T3, Na3, B3, Nm3, z3, q3, St3, Vr3, Kp3, bh3, lt3, nm3, Wd3, rfl, hNI3, hMV3, hTO3, hE3, hz3, hq3, hS3, hT3, rfl⟩ := hR3
  have b3 := g_Tb (u := u) d 999 (g_nx (g_at u N) N p) (s + 1) V (by decide) hnb.2.1 _ _ _ _ _ hr3
  obtain ⟨kk3, d3, e3⟩ := g_Td (u := u) hN d 999 (g_nx (g_at u N) N p) (s + 1) V (by decide) hnb.2.1 (by omega) (by omega) _ _ _ _ _ hr3
  have hv3 := g_QV e3
  have hRR : (g_li (g_at u N) N (g_T (g_at u N) u N d) p s V) = (g_liL (g_at u N) N (g_T (g_at u N) u N d) 4096 p3 s3 V3 [t3]) := by unfold g_li; rw [hr3]; rfl
  rw [hRR]
  refine x_istore_n d_RD_list_18 rfl (Nat.le_of_ble_eq_true rfl) ?_
  refine x_aload_n d_RD_list_19 rfl rfl ?_
  refine x_get d_RD_list_20 f_RD_72 (Nat.le_of_ble_eq_true rfl) (Nat.le_of_ble_eq_true rfl) (by first | rfl | assumption) (by rfl) ?_
  refine x_aload_n d_RD_list_23 rfl rfl ?_
  refine x_dup d_RD_list_24 rfl ?_
  refine x_get d_RD_list_25 f_RD_102 (Nat.le_of_ble_eq_true rfl) (Nat.le_of_ble_eq_true rfl) (by first | rfl | assumption) (by rfl) ?_
  refine x_dup_x1 d_RD_list_28 rfl rfl ?_
  refine x_iconst 1 d_RD_list_29 (by decide) ?_
  refine x_iadd d_RD_list_30 ?_
  refine x_topi (nI (t0 + [t3].length)) (nI_succ t0).symm ?_
  refine x_put d_RD_list_31 f_RD_102 (Nat.le_of_ble_eq_true rfl) (Nat.le_of_ble_eq_true rfl) (by first | rfl | assumption) (by rfl) (by rfl) (by exact (Nat.le_of_ble_eq_true rfl)) ?_
  refine x_iload_n d_RD_list_34 rfl rfl ?_
  refine x_iast d_RD_list_35 (Nat.le_of_ble_eq_true rfl) (Nat.le_of_ble_eq_true rfl) (by first | rfl | assumption) (vp_in_nI (show t0 < 4200 by omega) (by decide)) ?_
  refine x_lv [(0, .ref 36), (1, .int (nI t0)), (2, .int (-1)), (3, .int (nI r3))] rfl ?_
  refine x_wk [(0, .ref 36), (1, .int (nI t0)), (2, .int (-1))] (by simp) ?_
  refine x_same (h' := (g_mw h N T3 Na3 B3 Nm3 z3 q3 (upd St3 t0 (nI r3)) Vr3 Kp3 (nI p3) bh3 (nI (g_ky (g_at u N) N p3)) (nI o) nm3 lt3 (nI (t0 + [t3].length)) pl (nI V3.length) kn (nI c3) Wd3)) (x_pt rfl rfl rfl rfl rfl rfl rfl rfl rfl rfl rfl rfl rfl rfl rfl rfl rfl rfl rfl rfl rfl rfl rfl rfl rfl rfl rfl rfl rfl rfl rfl rfl rfl rfl rfl rfl rfl rfl rfl rfl rfl (show Sum.inl (0, 4200, Sum.inl (upd _ (nI t0).toNatClampNeg _)) = _ by rw [nI_clamp (by omega)]; rfl) rfl rfl rfl rfl rfl rfl rfl rfl rfl rfl) ?_
  exact w_RD_liLoop h22 hu hN hB hM ht0 hz ho 4096 p3 s3 z3 q3 T3 Na3 B3 Nm3 (upd St3 t0 (nI r3)) Vr3 Kp3 bh3 lt3 nm3 (nI c3) Wd3 V3 [t3] (by omega) b3.2.1 (by omega) (by omega) hNI3 hMV3 hTO3 hE3 (by show z3 + s + 1 = z + s3; omega) (by show z3 + q = z + q3 + 1; omega) (fun k hk => by rw [g_updN (by omega)]; exact hS3 k hk) ⟨⟨r3, g_updY, e3.1.2.1, e3.1.1, hT3⟩, trivial⟩ rfl
