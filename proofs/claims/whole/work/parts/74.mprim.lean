set_option maxRecDepth 20000 in
theorem w_RD_named {E : xR} {h : xH} {u : Nat → Nat} {N d : Nat} (h22 : h 22 = .inl (1, 4096, .inl (fun i => g_sb (u i)))) (hu : ∀ i, u i < 256) (hN : N ≤ 4096) (hB : g_TB2 h) (hM : g_MC E h u N d) {most p s o t0 z q : Nat} {T : List (List Int32)} {Na B : Nat → Nat → Int32} {Nm : Nat → Int64} {St Vr Kp : Nat → Int32} {bh lt : Int32} {nm : Int64} {pl kn : Int32} {Wd : Nat → Int32} {V : List (Nat × Nat)} (hp : p ≤ N) (hs : s ≤ p) (hz : z ≤ s) (ht0 : t0 + q ≤ z) (hV : V.length ≤ s) (ho : o + d = 100) (hNI : g_NI T Na p) (hMV : g_MV u T Vr V) (hm : most ≤ 1200) (hTO : g_TO u N p bh lt nm Wd) (hky : (g_ky (g_at u N) N p) = 3) : x_Mt E M_RD_named (4 * d + 14) 0 0 [.ref 36, .int (nI most)] 52 (g_mw h N T Na B Nm z q St Vr Kp (nI p) bh (nI (g_ky (g_at u N) N p)) (nI o) nm lt (nI t0) pl (nI V.length) kn (nI 0) Wd) (g_MK u N h o t0 pl kn T B Nm z q St s (g_nam (g_at u N) N (g_T (g_at u N) u N d) most p s V)) := by
  obtain ⟨hl, hw⟩ := hTO.2.2.1 (Or.inr hky)
  obtain rfl : bh = nI (g_bh (g_at u N) N p) := hTO.2.1 (by rw [hky]; decide)
  subst hl
  have hbN : (g_bh (g_at u N) N p) ≤ N := g_bhN hu ⟨hp, by rw [hky]; decide⟩
  have hnb := g_nxb (u := u) hp (by rw [hky]; decide)
  have hnb2 := hnb.2.2 (by rw [hky]; decide)
  have h40i : g_lo u N (g_bh (g_at u N) N p) = 40 ↔ g_at u N (g_bh (g_at u N) N p) = 40 := g_loE hu (by decide)
  have hdi := g_loD (N := N) (i := (g_bh (g_at u N) N p)) hu
  have his := g_isW hu hp hky (l := [45]) (by decide)
  have hxL : (g_ut u (g_fr (g_at u N) N p) (g_to (g_at u N) N p)).length ≤ 4096 := by have := (g_tkP hu hp (Or.inr (Or.inl hky))).1; omega
  have h91 : g_at u N (g_bh (g_at u N) N p) ≠ 40 → (g_dig (g_at u N (g_bh (g_at u N) N p)) && g_is (g_at u N) (g_fr (g_at u N) N p) (g_to (g_at u N) N p) [45]) = false → x_W E M_RD_named (x_room (4 * d + 14) 0 0) (g_MK u N h o t0 pl kn T B Nm z q St s (g_nam (g_at u N) N (g_T (g_at u N) u N d) most p s V)) 52 (g_mw h N T Na B Nm z q St Vr Kp (nI p) (nI (g_bh (g_at u N) N p)) (nI (g_ky (g_at u N) N p)) (nI o) nm (nI (g_ut u (g_fr (g_at u N) N p) (g_to (g_at u N) N p)).length) (nI t0) pl (nI V.length) kn (nI 0) Wd) 91 [(0, .ref 36), (1, .int (nI most))] [] 0 0 := fun e1 e2 =>
    w_RD_named91 h22 hu hN hB hM hp hs hz ht0 hV ho hNI hMV hm hTO hky (Eq.symm (by unfold g_nam; rw [if_neg e1, if_neg (by rw [e2]; decide)]))
  refine x_Mt.of (by decide) (Nat.le_of_ble_eq_true rfl) ?_
  show x_W E M_RD_named _ _ 52 (g_mw h N T Na B Nm z q St Vr Kp (nI p) (nI (g_bh (g_at u N) N p)) (nI (g_ky (g_at u N) N p)) (nI o) nm (nI (g_ut u (g_fr (g_at u N) N p) (g_to (g_at u N) N p)).length) (nI t0) pl (nI V.length) kn (nI 0) Wd) 0 [(0, .ref 36), (1, .int (nI most))] [] 0 0
  refine x_aload_n d_RD_named_0 rfl rfl ?_
  refine x_aload_n d_RD_named_1 rfl rfl ?_
  refine x_get d_RD_named_2 f_RD_96 (Nat.le_of_ble_eq_true rfl) (Nat.le_of_ble_eq_true rfl) (by first | rfl | assumption) (by rfl) ?_
  refine x_callV1Y d_RD_named_5 k_RD_148 (Nat.le_of_ble_eq_true rfl) (Nat.le_of_ble_eq_true rfl) (by first | rfl | assumption) (by rfl) (w_RD_look h22 hN (by omega)) (show 0 + 1 ≤ 4 * d + 14 by omega) (show 8 + (2 + 11) + 64 * (0) ≤ 64 * (4 * d + 14) by omega) (Nat.le_of_ble_eq_true rfl) (Nat.le_of_ble_eq_true rfl) (Nat.le_of_ble_eq_true rfl) rfl ?_
  refine x_bipush 40 d_RD_named_8 (by decide) ?_
  refine x_icmp_ne 18 d_RD_named_10 (by decide) (fun c_10 => ?_) (fun c_10 => ?_)
  · have n40 : g_at u N (g_bh (g_at u N) N p) ≠ 40 := fun y => c_10 (h40i.mpr y)
    refine x_aload_n d_RD_named_18 rfl rfl ?_
    refine x_get d_RD_named_19 f_RD_139 (Nat.le_of_ble_eq_true rfl) (Nat.le_of_ble_eq_true rfl) (by first | rfl | assumption) (by rfl) ?_
    refine x_iconst 1 d_RD_named_22 (by decide) ?_
    refine x_icmp_ne 91 d_RD_named_23 (by decide) (fun c_23 => ?_) (fun c_23 => ?_)
    · exact h91 n40 (by rw [his, decide_eq_false (fun y => c_23 (by rw [y]; rfl)), Bool.and_false])
    · refine x_aload_n d_RD_named_26 rfl rfl ?_
      refine x_get d_RD_named_27 f_RD_68 (Nat.le_of_ble_eq_true rfl) (Nat.le_of_ble_eq_true rfl) (by first | rfl | assumption) (by rfl) ?_
      refine x_iconst 0 d_RD_named_30 (by decide) ?_
      refine x_bald d_RD_named_31 (Nat.le_of_ble_eq_true rfl) (Nat.le_of_ble_eq_true rfl) (by first | rfl | assumption) (vp_in_nI (n := 0) (show 0 < 4096 by decide) (by decide)) ?_
      refine x_topi (Wd 0) rfl ?_
      refine x_bipush 45 d_RD_named_32 (by decide) ?_
      refine x_icmp_ne 91 d_RD_named_34 (by decide) (fun c_34 => ?_) (fun c_34 => ?_)
      · exact h91 n40 (by rw [his, decide_eq_false (fun y => c_34 (by rw [hw 0 (by rw [y]; decide)]; simp [y])), Bool.and_false])
      · refine x_aload_n d_RD_named_37 rfl rfl ?_
        refine x_aload_n d_RD_named_38 rfl rfl ?_
        refine x_get d_RD_named_39 f_RD_96 (Nat.le_of_ble_eq_true rfl) (Nat.le_of_ble_eq_true rfl) (by first | rfl | assumption) (by rfl) ?_
        refine x_callV1Y d_RD_named_42 k_RD_148 (Nat.le_of_ble_eq_true rfl) (Nat.le_of_ble_eq_true rfl) (by first | rfl | assumption) (by rfl) (w_RD_look h22 hN (by omega)) (show 0 + 1 ≤ 4 * d + 14 by omega) (show 8 + (2 + 11) + 64 * (0) ≤ 64 * (4 * d + 14) by omega) (Nat.le_of_ble_eq_true rfl) (Nat.le_of_ble_eq_true rfl) (Nat.le_of_ble_eq_true rfl) rfl ?_
        refine x_callS1Y d_RD_named_45 k_RD_151 w_RD_digit (show 0 + 1 ≤ 4 * d + 14 by omega) (show 8 + (1 + 11) + 64 * (0) ≤ 64 * (4 * d + 14) by omega) (Nat.le_of_ble_eq_true rfl) (Nat.le_of_ble_eq_true rfl) (Nat.le_of_ble_eq_true rfl) rfl ?_
        refine x_if_eq 91 d_RD_named_48 (by decide) (fun c_48 => ?_) (fun c_48 => ?_)
        · exact h91 n40 (by rw [← hdi, g_b2z c_48, Bool.false_and])
        · have hx1 : (g_ut u (g_fr (g_at u N) N p) (g_to (g_at u N) N p)).length = 1 := (g_nIne (by omega) (by decide)).mp c_23
          have hxx : (g_ut u (g_fr (g_at u N) N p) (g_to (g_at u N) N p)) = [45] := by
            obtain ⟨a, ha⟩ := List.length_eq_one_iff.mp hx1
            have h0 := hw 0 (by omega)
            simp only [ha] at h0 ⊢
            have h0 : Wd 0 = a := h0
            rw [← h0, c_34]
          have hnm : (g_nam (g_at u N) N (g_T (g_at u N) u N d) most p s V) = (if (g_ky (g_at u N) N (g_nx (g_at u N) N p)) = 2 then .inr ((g_nx (g_at u N) N (g_nx (g_at u N) N p)), s + 1, V, (g_lb 2 (g_fr (g_at u N) N (g_nx (g_at u N) N p)) (g_to (g_at u N) N (g_nx (g_at u N) N p)), g_nil), 0) else .inl (g_nx (g_at u N) N p)) := by
            unfold g_nam
            rw [if_neg n40, if_pos (by rw [his, decide_eq_true hxx, ← hdi, g_b2n c_48]; rfl)]
          rw [hnm]
          refine x_aload_n d_RD_named_51 rfl rfl ?_
          refine x_callV0E d_RD_named_52 k_RD_113 (Nat.le_of_ble_eq_true rfl) (Nat.le_of_ble_eq_true rfl) (by first | rfl | assumption) (by rfl) (w_RD_scan (p := (g_nx (g_at u N) N p)) h22 hu hN (g_bhN hu ⟨hp, (by rw [hky]; decide)⟩) rfl) (show 6 + 1 ≤ 4 * d + 14 by omega) (show 8 + (4 + 11) + 64 * (6) ≤ 64 * (4 * d + 14) by omega) (Nat.le_of_ble_eq_true rfl) (Nat.le_of_ble_eq_true rfl) (Nat.le_of_ble_eq_true rfl) rfl (fun v1 hh1 hp1 => ?_)
          obtain ⟨rfl, bh2, lt2, nm2, Wd2, hTO2, rfl⟩ := hp1
          refine x_same (h' := (g_mw h N T Na B Nm z q St Vr Kp (nI (g_nx (g_at u N) N p)) bh2 (nI (g_ky (g_at u N) N (g_nx (g_at u N) N p))) (nI o) nm2 lt2 (nI t0) pl (nI V.length) kn (nI 0) Wd2)) (fun _ _ => rfl) ?_
          refine x_aload_n d_RD_named_55 rfl rfl ?_
          refine x_get d_RD_named_56 f_RD_123 (Nat.le_of_ble_eq_true rfl) (Nat.le_of_ble_eq_true rfl) (by first | rfl | assumption) (by rfl) ?_
          refine x_iconst 2 d_RD_named_59 (by decide) ?_
          refine x_icmp_eq 72 d_RD_named_60 (by decide) (fun c_60 => ?_) (fun c_60 => ?_)
          · have k2 : (g_ky (g_at u N) N (g_nx (g_at u N) N p)) = 2 := (g_nIne (by have := g_kyL (u := u) hnb.2.1; omega) (by decide)).mp c_60
            rw [if_pos k2]
            obtain rfl : bh2 = nI (g_bh (g_at u N) N (g_nx (g_at u N) N p)) := hTO2.2.1 (by rw [k2]; decide)
            have hnm2 := hTO2.2.2.2 k2
            have hnc := g_nxb (u := u) hnb.2.1 (by rw [k2]; decide)
            refine x_aload_n d_RD_named_72 rfl rfl ?_
            refine x_get d_RD_named_73 f_RD_81 (Nat.le_of_ble_eq_true rfl) (Nat.le_of_ble_eq_true rfl) (by first | rfl | assumption) (by rfl) ?_
            refine x_aload_n d_RD_named_76 rfl rfl ?_
            refine x_get d_RD_named_77 f_RD_174 (Nat.le_of_ble_eq_true rfl) (Nat.le_of_ble_eq_true rfl) (by first | rfl | assumption) (by rfl) ?_
            refine x_lneg d_RD_named_80 ?_
            refine x_same (h' := (g_ew (g_mw h N T Na B Nm z q St Vr Kp (nI (g_nx (g_at u N) N p)) (nI (g_bh (g_at u N) N (g_nx (g_at u N) N p))) (nI (g_ky (g_at u N) N (g_nx (g_at u N) N p))) (nI o) nm2 lt2 (nI t0) pl (nI V.length) kn (nI 0) Wd2) B Nm (nI z) (nI q))) (x_pt rfl rfl rfl rfl rfl rfl rfl rfl rfl rfl rfl rfl rfl rfl rfl rfl rfl rfl rfl rfl rfl rfl rfl rfl rfl rfl rfl rfl rfl rfl rfl rfl rfl rfl rfl rfl rfl rfl rfl rfl rfl rfl rfl rfl rfl rfl rfl rfl rfl rfl rfl rfl) ?_
            refine x_callV1Y d_RD_named_81 k_RD_228 (Nat.le_of_ble_eq_true rfl) (Nat.le_of_ble_eq_true rfl) (by first | rfl | assumption) (by rfl) (w_TS_integer (h := (g_mw h N T Na B Nm z q St Vr Kp (nI (g_nx (g_at u N) N p)) (nI (g_bh (g_at u N) N (g_nx (g_at u N) N p))) (nI (g_ky (g_at u N) N (g_nx (g_at u N) N p))) (nI o) nm2 lt2 (nI t0) pl (nI V.length) kn (nI 0) Wd2)) (z := z) (q := nI q) (by omega)) (show 0 + 1 ≤ 4 * d + 14 by omega) (show 8 + (3 + 11) + 64 * (0) ≤ 64 * (4 * d + 14) by omega) (Nat.le_of_ble_eq_true rfl) (Nat.le_of_ble_eq_true rfl) (Nat.le_of_ble_eq_true rfl) rfl ?_
            refine x_same (h' := (g_mw h N T Na (g_b2n3 B z) (vp_updL Nm z (-nm2)) (z + 1) q St Vr Kp (nI (g_nx (g_at u N) N p)) (nI (g_bh (g_at u N) N (g_nx (g_at u N) N p))) (nI (g_ky (g_at u N) N (g_nx (g_at u N) N p))) (nI o) nm2 lt2 (nI t0) pl (nI V.length) kn (nI 0) Wd2)) (x_pt rfl rfl rfl rfl rfl rfl rfl rfl rfl rfl rfl rfl rfl rfl rfl rfl rfl rfl rfl rfl rfl rfl rfl rfl rfl rfl rfl rfl rfl rfl rfl rfl rfl rfl rfl rfl rfl rfl rfl rfl rfl rfl rfl rfl rfl rfl rfl rfl rfl rfl rfl rfl) ?_
            refine x_istore_n d_RD_named_84 rfl (Nat.le_of_ble_eq_true rfl) ?_
            refine x_aload_n d_RD_named_85 rfl rfl ?_
            refine x_callV0E d_RD_named_86 k_RD_113 (Nat.le_of_ble_eq_true rfl) (Nat.le_of_ble_eq_true rfl) (by first | rfl | assumption) (by rfl) (w_RD_scan (p := (g_nx (g_at u N) N (g_nx (g_at u N) N p))) h22 hu hN (g_bhN hu ⟨hnb.2.1, (by rw [k2]; decide)⟩) rfl) (show 6 + 1 ≤ 4 * d + 14 by omega) (show 8 + (4 + 11) + 64 * (6) ≤ 64 * (4 * d + 14) by omega) (Nat.le_of_ble_eq_true rfl) (Nat.le_of_ble_eq_true rfl) (Nat.le_of_ble_eq_true rfl) rfl (fun v1 hh1 hp1 => ?_)
            obtain ⟨rfl, bh4, lt4, nm4, Wd4, hTO4, rfl⟩ := hp1
            refine x_same (h' := (g_mw h N T Na (g_b2n3 B z) (vp_updL Nm z (-nm2)) (z + 1) q St Vr Kp (nI (g_nx (g_at u N) N (g_nx (g_at u N) N p))) bh4 (nI (g_ky (g_at u N) N (g_nx (g_at u N) N (g_nx (g_at u N) N p)))) (nI o) nm4 lt4 (nI t0) pl (nI V.length) kn (nI 0) Wd4)) (fun _ _ => rfl) ?_
            refine x_iload_n d_RD_named_89 rfl rfl ?_
            exact x_ireturn d_RD_named_90 rfl rfl (g_MKi rfl ⟨z, T, Na, (g_b2n3 B z), (vp_updL Nm z (-nm2)), z + 1, q, St, Vr, Kp, bh4, lt4, nm4, Wd4, rfl, g_NIm hNI (by omega), hMV, hTO4, g_E2, by omega, by omega, fun _ _ => rfl, g_Ti hN hnb.2.1 k2 (Or.inr ⟨rfl, by rw [hnm2]⟩), rfl⟩)
          · refine x_aload_n d_RD_named_63 rfl rfl ?_
            refine x_aload_n d_RD_named_64 rfl rfl ?_
            refine x_get d_RD_named_65 f_RD_116 (Nat.le_of_ble_eq_true rfl) (Nat.le_of_ble_eq_true rfl) (by first | rfl | assumption) (by rfl) ?_
            refine x_callV1Y d_RD_named_68 k_RD_126 (Nat.le_of_ble_eq_true rfl) (Nat.le_of_ble_eq_true rfl) (by first | rfl | assumption) (by rfl) w_RD_bad (show 0 + 1 ≤ 4 * d + 14 by omega) (show 8 + (2 + 11) + 64 * 0 ≤ 64 * (4 * d + 14) by omega) (Nat.le_of_ble_eq_true rfl) (Nat.le_of_ble_eq_true rfl) (Nat.le_of_ble_eq_true rfl) rfl ?_
            refine x_same (h' := (g_mw h N T Na B Nm z q St Vr Kp (nI (g_nx (g_at u N) N p)) bh2 (nI (g_ky (g_at u N) N (g_nx (g_at u N) N p))) (nI o) nm2 lt2 (nI t0) (nI (g_nx (g_at u N) N p)) (nI V.length) kn (nI 0) Wd2)) (fun _ _ => rfl) ?_
            exact x_athrow d_RD_named_71 (Nat.le_of_ble_eq_true rfl) (Nat.le_of_ble_eq_true rfl) hB.2.2 rfl (g_MKx (by rw [if_neg (fun y => c_60 (by rw [y]; rfl))]; exact Or.inl rfl) g_txW)
  · refine x_aload_n d_RD_named_13 rfl rfl ?_
    refine x_callV0M d_RD_named_14 k_RD_246 (Nat.le_of_ble_eq_true rfl) (Nat.le_of_ble_eq_true rfl) (by first | rfl | assumption) (by rfl) (w_RD_compound h22 hu hN hB hM hp hs hz ht0 hV ho hNI hMV hTO hky (h40i.mp c_10)) (show 4 * d + 13 + 1 ≤ 4 * d + 14 by omega) (show 8 + (4 + 11) + 64 * (4 * d + 13) ≤ 64 * (4 * d + 14) by omega) (Nat.le_of_ble_eq_true rfl) (Nat.le_of_ble_eq_true rfl) (Nat.le_of_ble_eq_true rfl) rfl (fun p3 s3 V3 t3 c3 v3 hh3 hr3 hR3 => ?_) (fun x h' hd hx => g_MKx (by unfold g_nam; rw [if_pos (h40i.mp c_10)]; exact hd) hx)
    obtain ⟨r3, T3, Na3, B3, Nm3, z3, q3, St3, Vr3, Kp3, bh3, lt3, nm3, Wd3, rfl, hNI3, hMV3, hTO3, hE3, hz3, hq3, hS3, hT3, rfl⟩ := hR3
    have hRR : (g_nam (g_at u N) N (g_T (g_at u N) u N d) most p s V) = .inr (p3, s3, V3, t3, c3) := by unfold g_nam; rw [if_pos (h40i.mp c_10)]; exact hr3
    exact x_ireturn d_RD_named_17 rfl rfl (g_MKi hRR ⟨r3, T3, Na3, B3, Nm3, z3, q3, St3, Vr3, Kp3, bh3, lt3, nm3, Wd3, rfl, hNI3, hMV3, hTO3, hE3, hz3, hq3, hS3, hT3, rfl⟩)
theorem d_RD_primary_0 : decode M_RD_primary.2.1 0 = .ok (.aload_n 0, 1) := by decide +kernel
theorem d_RD_primary_1 : decode M_RD_primary.2.1 1 = .ok (.getfield 123, 3) := by decide +kernel
theorem d_RD_primary_4 : decode M_RD_primary.2.1 4 = .ok (.tableswitch 127 1 6 #[58, 40, 121, 76, 127, 116], 40) := by decide +kernel
theorem d_RD_primary_44 : decode M_RD_primary.2.1 44 = .ok (.aload_n 0, 1) := by decide +kernel
theorem d_RD_primary_45 : decode M_RD_primary.2.1 45 = .ok (.getfield 81, 3) := by decide +kernel
theorem d_RD_primary_48 : decode M_RD_primary.2.1 48 = .ok (.aload_n 0, 1) := by decide +kernel
theorem d_RD_primary_49 : decode M_RD_primary.2.1 49 = .ok (.getfield 174, 3) := by decide +kernel
theorem d_RD_primary_52 : decode M_RD_primary.2.1 52 = .ok (.invokevirtual 228, 3) := by decide +kernel
theorem d_RD_primary_55 : decode M_RD_primary.2.1 55 = .ok (.istore_n 2, 1) := by decide +kernel
theorem d_RD_primary_56 : decode M_RD_primary.2.1 56 = .ok (.aload_n 0, 1) := by decide +kernel
theorem d_RD_primary_57 : decode M_RD_primary.2.1 57 = .ok (.invokevirtual 113, 3) := by decide +kernel
theorem d_RD_primary_60 : decode M_RD_primary.2.1 60 = .ok (.iload_n 2, 1) := by decide +kernel
theorem d_RD_primary_61 : decode M_RD_primary.2.1 61 = .ok (.ireturn, 1) := by decide +kernel
theorem d_RD_primary_62 : decode M_RD_primary.2.1 62 = .ok (.aload_n 0, 1) := by decide +kernel
theorem d_RD_primary_63 : decode M_RD_primary.2.1 63 = .ok (.getfield 81, 3) := by decide +kernel
theorem d_RD_primary_66 : decode M_RD_primary.2.1 66 = .ok (.aload_n 0, 1) := by decide +kernel
theorem d_RD_primary_67 : decode M_RD_primary.2.1 67 = .ok (.invokevirtual 232, 3) := by decide +kernel
theorem d_RD_primary_70 : decode M_RD_primary.2.1 70 = .ok (.invokevirtual 235, 3) := by decide +kernel
theorem d_RD_primary_73 : decode M_RD_primary.2.1 73 = .ok (.istore_n 2, 1) := by decide +kernel
theorem d_RD_primary_74 : decode M_RD_primary.2.1 74 = .ok (.aload_n 0, 1) := by decide +kernel
theorem d_RD_primary_75 : decode M_RD_primary.2.1 75 = .ok (.invokevirtual 113, 3) := by decide +kernel
theorem d_RD_primary_78 : decode M_RD_primary.2.1 78 = .ok (.iload_n 2, 1) := by decide +kernel
theorem d_RD_primary_79 : decode M_RD_primary.2.1 79 = .ok (.ireturn, 1) := by decide +kernel
theorem d_RD_primary_80 : decode M_RD_primary.2.1 80 = .ok (.aload_n 0, 1) := by decide +kernel
theorem d_RD_primary_81 : decode M_RD_primary.2.1 81 = .ok (.invokevirtual 113, 3) := by decide +kernel
theorem d_RD_primary_84 : decode M_RD_primary.2.1 84 = .ok (.aload_n 0, 1) := by decide +kernel
theorem d_RD_primary_85 : decode M_RD_primary.2.1 85 = .ok (.sipush 1200, 3) := by decide +kernel
theorem d_RD_primary_88 : decode M_RD_primary.2.1 88 = .ok (.invokevirtual 119, 3) := by decide +kernel
theorem d_RD_primary_91 : decode M_RD_primary.2.1 91 = .ok (.istore_n 2, 1) := by decide +kernel
theorem d_RD_primary_92 : decode M_RD_primary.2.1 92 = .ok (.aload_n 0, 1) := by decide +kernel
theorem d_RD_primary_93 : decode M_RD_primary.2.1 93 = .ok (.iconst 0, 1) := by decide +kernel
theorem d_RD_primary_94 : decode M_RD_primary.2.1 94 = .ok (.putfield 204, 3) := by decide +kernel
theorem d_RD_primary_97 : decode M_RD_primary.2.1 97 = .ok (.aload_n 0, 1) := by decide +kernel
theorem d_RD_primary_98 : decode M_RD_primary.2.1 98 = .ok (.getfield 123, 3) := by decide +kernel
theorem d_RD_primary_101 : decode M_RD_primary.2.1 101 = .ok (.iconst 5, 1) := by decide +kernel
theorem d_RD_primary_102 : decode M_RD_primary.2.1 102 = .ok (.if_icmp .eq 12, 3) := by decide +kernel
theorem d_RD_primary_105 : decode M_RD_primary.2.1 105 = .ok (.aload_n 0, 1) := by decide +kernel
theorem d_RD_primary_106 : decode M_RD_primary.2.1 106 = .ok (.aload_n 0, 1) := by decide +kernel
theorem d_RD_primary_107 : decode M_RD_primary.2.1 107 = .ok (.getfield 116, 3) := by decide +kernel
theorem d_RD_primary_110 : decode M_RD_primary.2.1 110 = .ok (.invokevirtual 126, 3) := by decide +kernel
theorem d_RD_primary_113 : decode M_RD_primary.2.1 113 = .ok (.athrow, 1) := by decide +kernel
theorem d_RD_primary_114 : decode M_RD_primary.2.1 114 = .ok (.aload_n 0, 1) := by decide +kernel
theorem d_RD_primary_115 : decode M_RD_primary.2.1 115 = .ok (.invokevirtual 113, 3) := by decide +kernel
theorem d_RD_primary_118 : decode M_RD_primary.2.1 118 = .ok (.iload_n 2, 1) := by decide +kernel
theorem d_RD_primary_119 : decode M_RD_primary.2.1 119 = .ok (.ireturn, 1) := by decide +kernel
theorem d_RD_primary_120 : decode M_RD_primary.2.1 120 = .ok (.aload_n 0, 1) := by decide +kernel
theorem d_RD_primary_121 : decode M_RD_primary.2.1 121 = .ok (.invokevirtual 237, 3) := by decide +kernel
theorem d_RD_primary_124 : decode M_RD_primary.2.1 124 = .ok (.ireturn, 1) := by decide +kernel
theorem d_RD_primary_125 : decode M_RD_primary.2.1 125 = .ok (.aload_n 0, 1) := by decide +kernel
theorem d_RD_primary_126 : decode M_RD_primary.2.1 126 = .ok (.iload_n 1, 1) := by decide +kernel
theorem d_RD_primary_127 : decode M_RD_primary.2.1 127 = .ok (.invokevirtual 240, 3) := by decide +kernel
theorem d_RD_primary_130 : decode M_RD_primary.2.1 130 = .ok (.ireturn, 1) := by decide +kernel
theorem d_RD_primary_131 : decode M_RD_primary.2.1 131 = .ok (.aload_n 0, 1) := by decide +kernel
theorem d_RD_primary_132 : decode M_RD_primary.2.1 132 = .ok (.aload_n 0, 1) := by decide +kernel
theorem d_RD_primary_133 : decode M_RD_primary.2.1 133 = .ok (.getfield 116, 3) := by decide +kernel
theorem d_RD_primary_136 : decode M_RD_primary.2.1 136 = .ok (.invokevirtual 126, 3) := by decide +kernel
theorem d_RD_primary_139 : decode M_RD_primary.2.1 139 = .ok (.athrow, 1) := by decide +kernel
set_option maxRecDepth 20000 in
theorem w_RD_primary {E : xR} {h : xH} {u : Nat → Nat} {N d : Nat} (h22 : h 22 = .inl (1, 4096, .inl (fun i => g_sb (u i)))) (hu : ∀ i, u i < 256) (hN : N ≤ 4096) (hB : g_TB2 h) (hM : g_MC E h u N d) {most p s o t0 z q : Nat} {T : List (List Int32)} {Na B : Nat → Nat → Int32} {Nm : Nat → Int64} {St Vr Kp : Nat → Int32} {bh lt : Int32} {nm : Int64} {pl kn : Int32} {Wd : Nat → Int32} {V : List (Nat × Nat)} (hp : p ≤ N) (hs : s ≤ p) (hz : z ≤ s) (ht0 : t0 + q ≤ z) (hV : V.length ≤ s) (ho : o + d = 100) (hNI : g_NI T Na p) (hMV : g_MV u T Vr V) (hm : most ≤ 1200) (hTO : g_TO u N p bh lt nm Wd) : x_Mt E M_RD_primary (4 * d + 15) 0 0 [.ref 36, .int (nI most)] 52 (g_mw h N T Na B Nm z q St Vr Kp (nI p) bh (nI (g_ky (g_at u N) N p)) (nI o) nm lt (nI t0) pl (nI V.length) kn (nI 0) Wd) (g_MK u N h o t0 pl kn T B Nm z q St s (g_pr (g_at u N) u N (g_T (g_at u N) u N d) most p s V)) := by
  have hkL := g_kyL (u := u) hp
  have hnib := g_NIb hNI
  refine x_Mt.of (by decide) (Nat.le_of_ble_eq_true rfl) ?_
  show x_W E M_RD_primary _ _ 52 (g_mw h N T Na B Nm z q St Vr Kp (nI p) bh (nI (g_ky (g_at u N) N p)) (nI o) nm lt (nI t0) pl (nI V.length) kn (nI 0) Wd) 0 [(0, .ref 36), (1, .int (nI most))] [] 0 0
  refine x_aload_n d_RD_primary_0 rfl rfl ?_
  refine x_get d_RD_primary_1 f_RD_123 (Nat.le_of_ble_eq_true rfl) (Nat.le_of_ble_eq_true rfl) (by first | rfl | assumption) (by rfl) ?_
  by_cases hk2 : (g_ky (g_at u N) N p) = 2
  · have hRR : (g_pr (g_at u N) u N (g_T (g_at u N) u N d) most p s V) = .inr ((g_nx (g_at u N) N p), s + 1, V, (g_lb 1 (g_fr (g_at u N) N p) (g_to (g_at u N) N p), g_nil), 0) := by unfold g_pr; rw [if_pos hk2]
    obtain rfl : bh = nI (g_bh (g_at u N) N p) := hTO.2.1 (by rw [hk2]; decide)
    have hnb := g_nxb (u := u) hp (by rw [hk2]; decide)
    have hnb2 := hnb.2.2 (by rw [hk2]; decide)
    have hnm := hTO.2.2.2 hk2
    refine x_topi (nI 2) (by rw [hk2]) ?_
    refine x_tabIn 44 d_RD_primary_4 (by decide) (by decide) rfl (by decide) ?_
    refine x_aload_n d_RD_primary_44 rfl rfl ?_
    refine x_get d_RD_primary_45 f_RD_81 (Nat.le_of_ble_eq_true rfl) (Nat.le_of_ble_eq_true rfl) (by first | rfl | assumption) (by rfl) ?_
    refine x_aload_n d_RD_primary_48 rfl rfl ?_
    refine x_get d_RD_primary_49 f_RD_174 (Nat.le_of_ble_eq_true rfl) (Nat.le_of_ble_eq_true rfl) (by first | rfl | assumption) (by rfl) ?_
    refine x_same (h' := (g_ew (g_mw h N T Na B Nm z q St Vr Kp (nI p) (nI (g_bh (g_at u N) N p)) (nI (g_ky (g_at u N) N p)) (nI o) nm lt (nI t0) pl (nI V.length) kn (nI 0) Wd) B Nm (nI z) (nI q))) (x_pt rfl rfl rfl rfl rfl rfl rfl rfl rfl rfl rfl rfl rfl rfl rfl rfl rfl rfl rfl rfl rfl rfl rfl rfl rfl rfl rfl rfl rfl rfl rfl rfl rfl rfl rfl rfl rfl rfl rfl rfl rfl rfl rfl rfl rfl rfl rfl rfl rfl rfl rfl rfl) ?_
    refine x_callV1Y d_RD_primary_52 k_RD_228 (Nat.le_of_ble_eq_true rfl) (Nat.le_of_ble_eq_true rfl) (by first | rfl | assumption) (by rfl) (w_TS_integer (h := (g_mw h N T Na B Nm z q St Vr Kp (nI p) (nI (g_bh (g_at u N) N p)) (nI (g_ky (g_at u N) N p)) (nI o) nm lt (nI t0) pl (nI V.length) kn (nI 0) Wd)) (z := z) (q := nI q) (by omega)) (show 0 + 1 ≤ 4 * d + 15 by omega) (show 8 + (3 + 11) + 64 * (0) ≤ 64 * (4 * d + 15) by omega) (Nat.le_of_ble_eq_true rfl) (Nat.le_of_ble_eq_true rfl) (Nat.le_of_ble_eq_true rfl) rfl ?_
    refine x_same (h' := (g_mw h N T Na (g_b2n3 B z) (vp_updL Nm z nm) (z + 1) q St Vr Kp (nI p) (nI (g_bh (g_at u N) N p)) (nI (g_ky (g_at u N) N p)) (nI o) nm lt (nI t0) pl (nI V.length) kn (nI 0) Wd)) (x_pt rfl rfl rfl rfl rfl rfl rfl rfl rfl rfl rfl rfl rfl rfl rfl rfl rfl rfl rfl rfl rfl rfl rfl rfl rfl rfl rfl rfl rfl rfl rfl rfl rfl rfl rfl rfl rfl rfl rfl rfl rfl rfl rfl rfl rfl rfl rfl rfl rfl rfl rfl rfl) ?_
    refine x_istore_n d_RD_primary_55 rfl (Nat.le_of_ble_eq_true rfl) ?_
    refine x_aload_n d_RD_primary_56 rfl rfl ?_
    refine x_callV0E d_RD_primary_57 k_RD_113 (Nat.le_of_ble_eq_true rfl) (Nat.le_of_ble_eq_true rfl) (by first | rfl | assumption) (by rfl) (w_RD_scan (p := (g_nx (g_at u N) N p)) h22 hu hN (g_bhN hu ⟨hp, (by rw [hk2]; decide)⟩) rfl) (show 6 + 1 ≤ 4 * d + 15 by omega) (show 8 + (4 + 11) + 64 * (6) ≤ 64 * (4 * d + 15) by omega) (Nat.le_of_ble_eq_true rfl) (Nat.le_of_ble_eq_true rfl) (Nat.le_of_ble_eq_true rfl) rfl (fun v1 hh1 hp1 => ?_)
    obtain ⟨rfl, bh2, lt2, nm2, Wd2, hTO2, rfl⟩ := hp1
    refine x_same (h' := (g_mw h N T Na (g_b2n3 B z) (vp_updL Nm z nm) (z + 1) q St Vr Kp (nI (g_nx (g_at u N) N p)) bh2 (nI (g_ky (g_at u N) N (g_nx (g_at u N) N p))) (nI o) nm2 lt2 (nI t0) pl (nI V.length) kn (nI 0) Wd2)) (fun _ _ => rfl) ?_
    refine x_iload_n d_RD_primary_60 rfl rfl ?_
    exact x_ireturn d_RD_primary_61 rfl rfl (g_MKi hRR ⟨z, T, Na, (g_b2n3 B z), (vp_updL Nm z nm), z + 1, q, St, Vr, Kp, bh2, lt2, nm2, Wd2, rfl, g_NIm hNI hnb.1, hMV, hTO2, g_E2, by omega, by omega, fun _ _ => rfl, g_Ti hN hp hk2 (Or.inl ⟨rfl, hnm⟩), rfl⟩)
  by_cases hk1 : (g_ky (g_at u N) N p) = 1
  · have hRR : (g_pr (g_at u N) u N (g_T (g_at u N) u N d) most p s V) = .inr ((g_nx (g_at u N) N p), s + 1, g_vV u V (g_fr (g_at u N) N p) (g_to (g_at u N) N p), (g_lb 0 (g_vr u V (g_fr (g_at u N) N p) (g_to (g_at u N) N p)) 0, g_nil), 0) := by unfold g_pr; rw [if_neg hk2, if_pos hk1]
    obtain rfl : bh = nI (g_bh (g_at u N) N p) := hTO.2.1 (by rw [hk1]; decide)
    have hnb := g_nxb (u := u) hp (by rw [hk1]; decide)
    have hnb2 := hnb.2.2 (by rw [hk1]; decide)
    have htk := g_tkP hu hp (Or.inl hk1)
    have hvL := g_vrL (u := u) (V := V) (f := (g_fr (g_at u N) N p)) (t := (g_to (g_at u N) N p))
    refine x_topi (nI 1) (by rw [hk1]) ?_
    refine x_tabIn 62 d_RD_primary_4 (by decide) (by decide) rfl (by decide) ?_
    refine x_aload_n d_RD_primary_62 rfl rfl ?_
    refine x_get d_RD_primary_63 f_RD_81 (Nat.le_of_ble_eq_true rfl) (Nat.le_of_ble_eq_true rfl) (by first | rfl | assumption) (by rfl) ?_
    refine x_aload_n d_RD_primary_66 rfl rfl ?_
    refine x_callV0E d_RD_primary_67 k_RD_232 (Nat.le_of_ble_eq_true rfl) (Nat.le_of_ble_eq_true rfl) (by first | rfl | assumption) (by rfl) (w_RD_variable hTO hu hp hN hk1 hNI.1 hMV (by omega) (by omega) (by omega) (by omega)) (show 3 + 1 ≤ 4 * d + 15 by omega) (show 8 + (4 + 11) + 64 * (3) ≤ 64 * (4 * d + 15) by omega) (Nat.le_of_ble_eq_true rfl) (Nat.le_of_ble_eq_true rfl) (Nat.le_of_ble_eq_true rfl) rfl (fun v1 hh1 hp1 => ?_)
    obtain ⟨rfl, Na1, Vr1, hA1, hV1, rfl⟩ := hp1
    have hNI1 : g_NI (g_vT u T (g_fr (g_at u N) N p) (g_to (g_at u N) N p)) Na1 (g_nx (g_at u N) N p) := g_NIv hNI hA1 (by omega) (by omega)
    refine x_same (h' := (g_ew (g_mw h N (g_vT u T (g_fr (g_at u N) N p) (g_to (g_at u N) N p)) Na1 B Nm z q St Vr1 Kp (nI p) (nI (g_bh (g_at u N) N p)) (nI (g_ky (g_at u N) N p)) (nI o) nm lt (nI t0) pl (nI (g_vV u V (g_fr (g_at u N) N p) (g_to (g_at u N) N p)).length) kn (nI 0) Wd) B Nm (nI z) (nI q))) (x_pt rfl rfl rfl rfl rfl rfl rfl rfl rfl rfl rfl rfl rfl rfl rfl rfl rfl rfl rfl rfl rfl rfl rfl rfl rfl rfl rfl rfl rfl rfl rfl rfl rfl rfl rfl rfl rfl rfl rfl rfl rfl rfl rfl rfl rfl rfl rfl rfl rfl rfl rfl rfl) ?_
    refine x_callV1Y d_RD_primary_70 k_RD_235 (Nat.le_of_ble_eq_true rfl) (Nat.le_of_ble_eq_true rfl) (by first | rfl | assumption) (by rfl) (w_TS_variable (h := (g_mw h N (g_vT u T (g_fr (g_at u N) N p) (g_to (g_at u N) N p)) Na1 B Nm z q St Vr1 Kp (nI p) (nI (g_bh (g_at u N) N p)) (nI (g_ky (g_at u N) N p)) (nI o) nm lt (nI t0) pl (nI (g_vV u V (g_fr (g_at u N) N p) (g_to (g_at u N) N p)).length) kn (nI 0) Wd)) (z := z) (q := nI q) (by omega)) (show 0 + 1 ≤ 4 * d + 15 by omega) (show 8 + (2 + 11) + 64 * (0) ≤ 64 * (4 * d + 15) by omega) (Nat.le_of_ble_eq_true rfl) (Nat.le_of_ble_eq_true rfl) (Nat.le_of_ble_eq_true rfl) rfl ?_
    refine x_same (h' := (g_mw h N (g_vT u T (g_fr (g_at u N) N p) (g_to (g_at u N) N p)) Na1 (g_b3 B z 0 (nI (g_vr u V (g_fr (g_at u N) N p) (g_to (g_at u N) N p))) 0) Nm (z + 1) q St Vr1 Kp (nI p) (nI (g_bh (g_at u N) N p)) (nI (g_ky (g_at u N) N p)) (nI o) nm lt (nI t0) pl (nI (g_vV u V (g_fr (g_at u N) N p) (g_to (g_at u N) N p)).length) kn (nI 0) Wd)) (x_pt rfl rfl rfl rfl rfl rfl rfl rfl rfl rfl rfl rfl rfl rfl rfl rfl rfl rfl rfl rfl rfl rfl rfl rfl rfl rfl rfl rfl rfl rfl rfl rfl rfl rfl rfl rfl rfl rfl rfl rfl rfl rfl rfl rfl rfl rfl rfl rfl rfl rfl rfl rfl) ?_
    refine x_istore_n d_RD_primary_73 rfl (Nat.le_of_ble_eq_true rfl) ?_
    refine x_aload_n d_RD_primary_74 rfl rfl ?_
    refine x_callV0E d_RD_primary_75 k_RD_113 (Nat.le_of_ble_eq_true rfl) (Nat.le_of_ble_eq_true rfl) (by first | rfl | assumption) (by rfl) (w_RD_scan (p := (g_nx (g_at u N) N p)) h22 hu hN (g_bhN hu ⟨hp, (by rw [hk1]; decide)⟩) rfl) (show 6 + 1 ≤ 4 * d + 15 by omega) (show 8 + (4 + 11) + 64 * (6) ≤ 64 * (4 * d + 15) by omega) (Nat.le_of_ble_eq_true rfl) (Nat.le_of_ble_eq_true rfl) (Nat.le_of_ble_eq_true rfl) rfl (fun v1 hh1 hp1 => ?_)
    obtain ⟨rfl, bh2, lt2, nm2, Wd2, hTO2, rfl⟩ := hp1
    refine x_same (h' := (g_mw h N (g_vT u T (g_fr (g_at u N) N p) (g_to (g_at u N) N p)) Na1 (g_b3 B z 0 (nI (g_vr u V (g_fr (g_at u N) N p) (g_to (g_at u N) N p))) 0) Nm (z + 1) q St Vr1 Kp (nI (g_nx (g_at u N) N p)) bh2 (nI (g_ky (g_at u N) N (g_nx (g_at u N) N p))) (nI o) nm2 lt2 (nI t0) pl (nI (g_vV u V (g_fr (g_at u N) N p) (g_to (g_at u N) N p)).length) kn (nI 0) Wd2)) (fun _ _ => rfl) ?_
    refine x_iload_n d_RD_primary_78 rfl rfl ?_
    exact x_ireturn d_RD_primary_79 rfl rfl (g_MKi hRR ⟨z, (g_vT u T (g_fr (g_at u N) N p) (g_to (g_at u N) N p)), Na1, (g_b3 B z 0 (nI (g_vr u V (g_fr (g_at u N) N p) (g_to (g_at u N) N p))) 0), Nm, z + 1, q, St, Vr1, Kp, bh2, lt2, nm2, Wd2, rfl, hNI1, hV1, hTO2, g_E1 (fun _ _ y => g_vTm y), by omega, by omega, fun _ _ => rfl, g_Tv (by omega), rfl⟩)
  by_cases hk4 : (g_ky (g_at u N) N p) = 4
  · have hRR0 : (g_pr (g_at u N) u N (g_T (g_at u N) u N d) most p s V) = g_bd ((g_T (g_at u N) u N d) 1200 (g_nx (g_at u N) N p) s V) (fun p2 s2 V2 x _ => if (g_ky (g_at u N) N p2) = 5 then .inr ((g_nx (g_at u N) N p2), s2, V2, x, 0) else .inl p2) := by unfold g_pr; rw [if_neg hk2, if_neg hk1, if_pos hk4]
    rw [hRR0]
    obtain rfl : bh = nI (g_bh (g_at u N) N p) := hTO.2.1 (by rw [hk4]; decide)
    have hnb := g_nxb (u := u) hp (by rw [hk4]; decide)
    have hnb2 := hnb.2.2 (by rw [hk4]; decide)
    refine x_topi (nI 4) (by rw [hk4]) ?_
    refine x_tabIn 80 d_RD_primary_4 (by decide) (by decide) rfl (by decide) ?_
    refine x_aload_n d_RD_primary_80 rfl rfl ?_
    refine x_callV0E d_RD_primary_81 k_RD_113 (Nat.le_of_ble_eq_true rfl) (Nat.le_of_ble_eq_true rfl) (by first | rfl | assumption) (by rfl) (w_RD_scan (p := (g_nx (g_at u N) N p)) h22 hu hN (g_bhN hu ⟨hp, (by rw [hk4]; decide)⟩) rfl) (show 6 + 1 ≤ 4 * d + 15 by omega) (show 8 + (4 + 11) + 64 * (6) ≤ 64 * (4 * d + 15) by omega) (Nat.le_of_ble_eq_true rfl) (Nat.le_of_ble_eq_true rfl) (Nat.le_of_ble_eq_true rfl) rfl (fun v1 hh1 hp1 => ?_)
    obtain ⟨rfl, bh2, lt2, nm2, Wd2, hTO2, rfl⟩ := hp1
    refine x_same (h' := (g_mw h N T Na B Nm z q St Vr Kp (nI (g_nx (g_at u N) N p)) bh2 (nI (g_ky (g_at u N) N (g_nx (g_at u N) N p))) (nI o) nm2 lt2 (nI t0) pl (nI V.length) kn (nI 0) Wd2)) (fun _ _ => rfl) ?_
    refine x_aload_n d_RD_primary_84 rfl rfl ?_
    refine x_sipush 1200 d_RD_primary_85 (by decide) ?_
    refine x_callV1M d_RD_primary_88 k_RD_119 (Nat.le_of_ble_eq_true rfl) (Nat.le_of_ble_eq_true rfl) (by first | rfl | assumption) (by rfl) (hM 1200 (g_nx (g_at u N) N p) s o t0 z q T Na B Nm St Vr Kp bh2 lt2 nm2 pl kn (nI 0) Wd2 V (by decide) hnb.2.1 (by omega) hz ht0 hV ho (g_NIm hNI hnb.1) hMV hTO2) (show 4 * d + 12 + 1 ≤ 4 * d + 15 by omega) (show 8 + (9 + 11) + 64 * (4 * d + 12) ≤ 64 * (4 * d + 15) by omega) (Nat.le_of_ble_eq_true rfl) (Nat.le_of_ble_eq_true rfl) (Nat.le_of_ble_eq_true rfl) rfl (fun p3 s3 V3 t3 c3 v3 hh3 hr3 hR3 => ?_) (fun x h' hd hx => g_MKx (g_de_bd hd (fun _ _ _ _ h8 => Or.inl (by rw [if_neg (by rw [h8]; decide)]))) hx)
    obtain ⟨r3, T3, Na3, B3, Nm3, z3, q3, St3, Vr3, Kp3, bh3, lt3, nm3, Wd3, rfl, hNI3, hMV3, hTO3, hE3, hz3, hq3, hS3, hT3, rfl⟩ := hR3
    have b3 := g_Tb (u := u) d 1200 (g_nx (g_at u N) N p) s V (by decide) hnb.2.1 _ _ _ _ _ hr3
    have hkL3 := g_kyL (u := u) b3.2.1
    rw [hr3]
    show x_W E M_RD_primary _ (g_MK u N h o t0 pl kn T B Nm z q St s (if (g_ky (g_at u N) N p3) = 5 then .inr ((g_nx (g_at u N) N p3), s3, V3, t3, 0) else .inl p3)) 52 _ _ _ _ 0 0
    refine x_istore_n d_RD_primary_91 rfl (Nat.le_of_ble_eq_true rfl) ?_
    refine x_aload_n d_RD_primary_92 rfl rfl ?_
    refine x_iconst 0 d_RD_primary_93 (by decide) ?_
    refine x_put d_RD_primary_94 f_RD_204 (Nat.le_of_ble_eq_true rfl) (Nat.le_of_ble_eq_true rfl) (by first | rfl | assumption) (by rfl) (by rfl) (by exact (Nat.le_of_ble_eq_true rfl)) ?_
    refine x_same (h' := (g_mw h N T3 Na3 B3 Nm3 z3 q3 St3 Vr3 Kp3 (nI p3) bh3 (nI (g_ky (g_at u N) N p3)) (nI o) nm3 lt3 (nI t0) pl (nI V3.length) kn (nI 0) Wd3)) (x_pt rfl rfl rfl rfl rfl rfl rfl rfl rfl rfl rfl rfl rfl rfl rfl rfl rfl rfl rfl rfl rfl rfl rfl rfl rfl rfl rfl rfl rfl rfl rfl rfl rfl rfl rfl rfl rfl rfl rfl rfl rfl rfl rfl rfl rfl rfl rfl rfl rfl rfl rfl rfl) ?_
    refine x_aload_n d_RD_primary_97 rfl rfl ?_
    refine x_get d_RD_primary_98 f_RD_123 (Nat.le_of_ble_eq_true rfl) (Nat.le_of_ble_eq_true rfl) (by first | rfl | assumption) (by rfl) ?_
    refine x_iconst 5 d_RD_primary_101 (by decide) ?_
    refine x_icmp_eq 114 d_RD_primary_102 (by decide) (fun c_102 => ?_) (fun c_102 => ?_)
    · have k5 : (g_ky (g_at u N) N p3) = 5 := (g_nIne (by omega) (by decide)).mp c_102
      rw [if_pos k5]
      obtain rfl : bh3 = nI (g_bh (g_at u N) N p3) := hTO3.2.1 (by rw [k5]; decide)
      have hnb3 := g_nxb (u := u) b3.2.1 (by rw [k5]; decide)
      refine x_aload_n d_RD_primary_114 rfl rfl ?_
      refine x_callV0E d_RD_primary_115 k_RD_113 (Nat.le_of_ble_eq_true rfl) (Nat.le_of_ble_eq_true rfl) (by first | rfl | assumption) (by rfl) (w_RD_scan (p := (g_nx (g_at u N) N p3)) h22 hu hN (g_bhN hu ⟨b3.2.1, (by rw [k5]; decide)⟩) rfl) (show 6 + 1 ≤ 4 * d + 15 by omega) (show 8 + (4 + 11) + 64 * (6) ≤ 64 * (4 * d + 15) by omega) (Nat.le_of_ble_eq_true rfl) (Nat.le_of_ble_eq_true rfl) (Nat.le_of_ble_eq_true rfl) rfl (fun v1 hh1 hp1 => ?_)
      obtain ⟨rfl, bh4, lt4, nm4, Wd4, hTO4, rfl⟩ := hp1
      refine x_same (h' := (g_mw h N T3 Na3 B3 Nm3 z3 q3 St3 Vr3 Kp3 (nI (g_nx (g_at u N) N p3)) bh4 (nI (g_ky (g_at u N) N (g_nx (g_at u N) N p3))) (nI o) nm4 lt4 (nI t0) pl (nI V3.length) kn (nI 0) Wd4)) (fun _ _ => rfl) ?_
      refine x_iload_n d_RD_primary_118 rfl rfl ?_
      exact x_ireturn d_RD_primary_119 rfl rfl (g_MKi rfl ⟨r3, T3, Na3, B3, Nm3, z3, q3, St3, Vr3, Kp3, bh4, lt4, nm4, Wd4, rfl, g_NIm hNI3 hnb3.1, hMV3, hTO4, hE3, hz3, hq3, hS3, hT3, rfl⟩)
    · refine x_aload_n d_RD_primary_105 rfl rfl ?_
      refine x_aload_n d_RD_primary_106 rfl rfl ?_
      refine x_get d_RD_primary_107 f_RD_116 (Nat.le_of_ble_eq_true rfl) (Nat.le_of_ble_eq_true rfl) (by first | rfl | assumption) (by rfl) ?_
      refine x_callV1Y d_RD_primary_110 k_RD_126 (Nat.le_of_ble_eq_true rfl) (Nat.le_of_ble_eq_true rfl) (by first | rfl | assumption) (by rfl) w_RD_bad (show 0 + 1 ≤ 4 * d + 15 by omega) (show 8 + (2 + 11) + 64 * 0 ≤ 64 * (4 * d + 15) by omega) (Nat.le_of_ble_eq_true rfl) (Nat.le_of_ble_eq_true rfl) (Nat.le_of_ble_eq_true rfl) rfl ?_
      refine x_same (h' := (g_mw h N T3 Na3 B3 Nm3 z3 q3 St3 Vr3 Kp3 (nI p3) bh3 (nI (g_ky (g_at u N) N p3)) (nI o) nm3 lt3 (nI t0) (nI p3) (nI V3.length) kn (nI 0) Wd3)) (fun _ _ => rfl) ?_
      exact x_athrow d_RD_primary_113 (Nat.le_of_ble_eq_true rfl) (Nat.le_of_ble_eq_true rfl) hB.2.2 rfl (g_MKx (by rw [if_neg (fun y => c_102 (by rw [y]; rfl))]; exact Or.inl rfl) g_txW)
  by_cases hk6 : (g_ky (g_at u N) N p) = 6
  · have hRR0 : (g_pr (g_at u N) u N (g_T (g_at u N) u N d) most p s V) = g_li (g_at u N) N (g_T (g_at u N) u N d) p s V := by unfold g_pr; rw [if_neg hk2, if_neg hk1, if_neg hk4, if_pos hk6]
    rw [hRR0]
    refine x_topi (nI 6) (by rw [hk6]) ?_
    refine x_tabIn 120 d_RD_primary_4 (by decide) (by decide) rfl (by decide) ?_
    refine x_aload_n d_RD_primary_120 rfl rfl ?_
    refine x_callV0M d_RD_primary_121 k_RD_237 (Nat.le_of_ble_eq_true rfl) (Nat.le_of_ble_eq_true rfl) (by first | rfl | assumption) (by rfl) (w_RD_list h22 hu hN hB hM hp hs hz ht0 hV ho hNI hMV hTO hk6) (show 4 * d + 13 + 1 ≤ 4 * d + 15 by omega) (show 8 + (7 + 11) + 64 * (4 * d + 13) ≤ 64 * (4 * d + 15) by omega) (Nat.le_of_ble_eq_true rfl) (Nat.le_of_ble_eq_true rfl) (Nat.le_of_ble_eq_true rfl) rfl (fun p3 s3 V3 t3 c3 v3 hh3 hr3 hR3 => ?_) (fun x h' hd hx => g_MKx hd hx)
    obtain ⟨r3, T3, Na3, B3, Nm3, z3, q3, St3, Vr3, Kp3, bh3, lt3, nm3, Wd3, rfl, hNI3, hMV3, hTO3, hE3, hz3, hq3, hS3, hT3, rfl⟩ := hR3
    have hRR := hr3
    exact x_ireturn d_RD_primary_124 rfl rfl (g_MKi hRR ⟨r3, T3, Na3, B3, Nm3, z3, q3, St3, Vr3, Kp3, bh3, lt3, nm3, Wd3, rfl, hNI3, hMV3, hTO3, hE3, hz3, hq3, hS3, hT3, rfl⟩)
  by_cases hk3 : (g_ky (g_at u N) N p) = 3
  · have hRR0 : (g_pr (g_at u N) u N (g_T (g_at u N) u N d) most p s V) = (g_nam (g_at u N) N (g_T (g_at u N) u N d) most p s V) := by unfold g_pr; rw [if_neg hk2, if_neg hk1, if_neg hk4, if_neg hk6, if_pos hk3]
    rw [hRR0]
    refine x_topi (nI 3) (by rw [hk3]) ?_
    refine x_tabIn 125 d_RD_primary_4 (by decide) (by decide) rfl (by decide) ?_
    refine x_aload_n d_RD_primary_125 rfl rfl ?_
    refine x_iload_n d_RD_primary_126 rfl rfl ?_
    refine x_callV1M d_RD_primary_127 k_RD_240 (Nat.le_of_ble_eq_true rfl) (Nat.le_of_ble_eq_true rfl) (by first | rfl | assumption) (by rfl) (w_RD_named h22 hu hN hB hM hp hs hz ht0 hV ho hNI hMV hm hTO hk3) (show 4 * d + 14 + 1 ≤ 4 * d + 15 by omega) (show 8 + (7 + 11) + 64 * (4 * d + 14) ≤ 64 * (4 * d + 15) by omega) (Nat.le_of_ble_eq_true rfl) (Nat.le_of_ble_eq_true rfl) (Nat.le_of_ble_eq_true rfl) rfl (fun p3 s3 V3 t3 c3 v3 hh3 hr3 hR3 => ?_) (fun x h' hd hx => g_MKx hd hx)
    obtain ⟨r3, T3, Na3, B3, Nm3, z3, q3, St3, Vr3, Kp3, bh3, lt3, nm3, Wd3, rfl, hNI3, hMV3, hTO3, hE3, hz3, hq3, hS3, hT3, rfl⟩ := hR3
    have hRR := hr3
    exact x_ireturn d_RD_primary_130 rfl rfl (g_MKi hRR ⟨r3, T3, Na3, B3, Nm3, z3, q3, St3, Vr3, Kp3, bh3, lt3, nm3, Wd3, rfl, hNI3, hMV3, hTO3, hE3, hz3, hq3, hS3, hT3, rfl⟩)
  have hRR : (g_pr (g_at u N) u N (g_T (g_at u N) u N d) most p s V) = .inl p := by unfold g_pr; rw [if_neg hk2, if_neg hk1, if_neg hk4, if_neg hk6, if_neg hk3]
  rw [hRR]
  have h131 : x_W E M_RD_primary (x_room (4 * d + 15) 0 0) (g_MK u N h o t0 pl kn T B Nm z q St s (.inl p)) 52 (g_mw h N T Na B Nm z q St Vr Kp (nI p) bh (nI (g_ky (g_at u N) N p)) (nI o) nm lt (nI t0) pl (nI V.length) kn (nI 0) Wd) 131 [(0, .ref 36), (1, .int (nI most))] [] 0 0 := by
    refine x_aload_n d_RD_primary_131 rfl rfl ?_
    refine x_aload_n d_RD_primary_132 rfl rfl ?_
    refine x_get d_RD_primary_133 f_RD_116 (Nat.le_of_ble_eq_true rfl) (Nat.le_of_ble_eq_true rfl) (by first | rfl | assumption) (by rfl) ?_
    refine x_callV1Y d_RD_primary_136 k_RD_126 (Nat.le_of_ble_eq_true rfl) (Nat.le_of_ble_eq_true rfl) (by first | rfl | assumption) (by rfl) w_RD_bad (show 0 + 1 ≤ 4 * d + 15 by omega) (show 8 + (2 + 11) + 64 * 0 ≤ 64 * (4 * d + 15) by omega) (Nat.le_of_ble_eq_true rfl) (Nat.le_of_ble_eq_true rfl) (Nat.le_of_ble_eq_true rfl) rfl ?_
    refine x_same (h' := (g_mw h N T Na B Nm z q St Vr Kp (nI p) bh (nI (g_ky (g_at u N) N p)) (nI o) nm lt (nI t0) (nI p) (nI V.length) kn (nI 0) Wd)) (fun _ _ => rfl) ?_
    exact x_athrow d_RD_primary_139 (Nat.le_of_ble_eq_true rfl) (Nat.le_of_ble_eq_true rfl) hB.2.2 rfl (g_MKx (Or.inl rfl) g_txW)
  by_cases hk5 : (g_ky (g_at u N) N p) = 5
  · refine x_topi (nI 5) (by rw [hk5]) ?_
    exact x_tabIn 131 d_RD_primary_4 (by decide) (by decide) rfl (by decide) h131
  · have ht : (nI (g_ky (g_at u N) N p)).toInt = ((g_ky (g_at u N) N p) : Int) := nI_toInt (by omega)
    exact x_tabOut 131 d_RD_primary_4 (by rw [ht]; omega) (by decide) h131
