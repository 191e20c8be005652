set_option maxRecDepth 20000 in
theorem w_RD_liCa {E : xR} {h : xH} {u : Nat → Nat} {N d : Nat} (h22 : h 22 = .inl (1, 4096, .inl (fun i => g_sb (u i)))) (hu : ∀ i, u i < 256) (hN : N ≤ 4096) (hB : g_TB2 h) {s o t0 z q : Nat} {T : List (List Int32)} {B : Nat → Nat → Int32} {Nm : Nat → Int64} {St : Nat → Int32} {pl kn : Int32} {R : g_Rs} {T1 : List (List Int32)} {Na1 B1 : Nat → Nat → Int32} {Nm1 : Nat → Int64} {z1 q1 : Nat} {St1 Vr1 Kp1 : Nat → Int32} {bh1 lt1 : Int32} {nm1 : Int64} {rk1 : Int32} {Wd1 : Nat → Int32} {V1 : List (Nat × Nat)} {p2 s2 : Nat} {r : Nat} {tl : Nat × Std.Format} {acc : List (Nat × Std.Format)} (hp2 : p2 ≤ N) (hNI1 : g_NI T1 Na1 p2) (hMV1 : g_MV u T1 Vr1 V1) (hTO1 : g_TO u N p2 bh1 lt1 nm1 Wd1) (hE1 : g_mE T T1 B B1 Nm Nm1 z q z1 q1) (htb : t0 + acc.length ≤ 4099) (hzb : z1 + acc.length + 1 ≤ 7999) (hqb : q1 + 2 * acc.length ≤ 8999) (hS1 : ∀ k, k < t0 → St1 k = St k) (hAS : g_AS u N T1 B1 Nm1 z1 q1 St1 t0 acc) (hwl : g_wf u N tl.2) (hkl : g_lk u N tl.1 tl.2) (hTl : g_mT u N T1 B1 Nm1 z1 q1 tl r) (hz1 : z1 + acc.length + s = z + s2) (hq1 : q1 + 2 * acc.length + s + 1 = q + s2) (hR : (g_liC (g_at u N) N p2 s2 V1 (g_liF acc tl)) = R) : x_W E M_RD_list (x_room (4 * d + 13) 0 0) (g_MK u N h o t0 pl kn T B Nm z q St s R) 52 (g_mw h N T1 Na1 B1 Nm1 z1 q1 St1 Vr1 Kp1 (nI p2) bh1 (nI (g_ky (g_at u N) N p2)) (nI o) nm1 lt1 (nI (t0 + acc.length)) pl (nI V1.length) kn rk1 Wd1) 98 [(0, .ref 36), (1, .int (nI t0)), (2, .int (nI r))] [] 0 0 := by
  unfold g_liC at hR
  have hkL := g_kyL (u := u) hp2
  refine x_aload_n d_RD_list_98 rfl rfl ?_
  refine x_get d_RD_list_99 f_RD_123 (Nat.le_of_ble_eq_true rfl) (Nat.le_of_ble_eq_true rfl) (by first | rfl | assumption) (by rfl) ?_
  refine x_bipush 7 d_RD_list_102 (by decide) ?_
  refine x_icmp_eq 116 d_RD_list_104 (by decide) (fun c_104 => ?_) (fun c_104 => ?_)
  · have k7 : (g_ky (g_at u N) N p2) = 7 := (g_nIne (by omega) (by decide)).mp c_104
    rw [if_pos k7] at hR
    obtain rfl : bh1 = nI (g_bh (g_at u N) N p2) := hTO1.2.1 (by rw [k7]; decide)
    have hnb := g_nxb (u := u) hp2 (by rw [k7]; decide)
    refine x_aload_n d_RD_list_116 rfl rfl ?_
    refine x_callV0E d_RD_list_117 k_RD_113 (Nat.le_of_ble_eq_true rfl) (Nat.le_of_ble_eq_true rfl) (by first | rfl | assumption) (by rfl) (w_RD_scan (p := (g_nx (g_at u N) N p2)) h22 hu hN (g_bhN hu ⟨hp2, (by rw [k7]; decide)⟩) rfl) (show 6 + 1 ≤ 4 * d + 13 by omega) (show 8 + (4 + 11) + 64 * (6) ≤ 64 * (4 * d + 13) by omega) (Nat.le_of_ble_eq_true rfl) (Nat.le_of_ble_eq_true rfl) (Nat.le_of_ble_eq_true rfl) rfl (fun v1 hh1 hp1 => ?_)
    obtain ⟨rfl, bh3, lt3, nm3, Wd3, hTO3, rfl⟩ := hp1
    refine x_same (h' := (g_mw h N T1 Na1 B1 Nm1 z1 q1 St1 Vr1 Kp1 (nI (g_nx (g_at u N) N p2)) bh3 (nI (g_ky (g_at u N) N (g_nx (g_at u N) N p2))) (nI o) nm3 lt3 (nI (t0 + acc.length)) pl (nI V1.length) kn rk1 Wd3)) (fun _ _ => rfl) ?_
    obtain ⟨l, hl, rfl⟩ := hTO3.1
    have hNI3 := g_NIm hNI1 hnb.1
    have hnib := g_NIb hNI3
    refine x_aload_n d_RD_list_120 rfl rfl ?_
    refine x_get d_RD_list_121 f_RD_139 (Nat.le_of_ble_eq_true rfl) (Nat.le_of_ble_eq_true rfl) (by first | rfl | assumption) (by rfl) ?_
    refine x_istore d_RD_list_124 (Nat.le_of_ble_eq_true rfl) ?_
    have h156 : ∀ Kp2 : Nat → Int32, (∀ k, k < l → Kp2 k = vp_nar .byte (Wd3 k)) → x_W E M_RD_list (x_room (4 * d + 13) 0 0) (g_MK u N h o t0 pl kn T B Nm z q St s R) 52 (g_mw h N T1 Na1 B1 Nm1 z1 q1 St1 Vr1 Kp2 (nI (g_nx (g_at u N) N p2)) bh3 (nI (g_ky (g_at u N) N (g_nx (g_at u N) N p2))) (nI o) nm3 (nI l) (nI (t0 + acc.length)) pl (nI V1.length) kn rk1 Wd3) 156 [(0, .ref 36), (1, .int (nI t0)), (2, .int (nI r)), (4, .int (nI l))] [] 0 0 := by
      intro Kp2 hKp
      refine x_iload_n d_RD_list_156 rfl rfl ?_
      refine x_iconst (-1) d_RD_list_157 (by decide) ?_
      refine x_icmp_ne 190 d_RD_list_158 (by decide) (fun _ => ?_) (fun z => absurd z (g_nIm (by have := hTl.1; omega)))
      have hNIx := hNI3
      refine x_aload_n d_RD_list_190 rfl rfl ?_
      refine x_bipush 46 d_RD_list_191 (by decide) ?_
      refine x_callV1E d_RD_list_193 k_RD_225 (Nat.le_of_ble_eq_true rfl) (Nat.le_of_ble_eq_true rfl) (by first | rfl | assumption) (by rfl) (w_RD_one hNIx.1 (by have := g_NIb hNIx; omega) (by have := g_NIb hNIx; omega) (by decide) (by decide)) (show 3 + 1 ≤ 4 * d + 13 by omega) (show 8 + (2 + 11) + 64 * (3) ≤ 64 * (4 * d + 13) by omega) (Nat.le_of_ble_eq_true rfl) (Nat.le_of_ble_eq_true rfl) (Nat.le_of_ble_eq_true rfl) rfl (fun v1 hh1 hp1 => ?_)
      obtain ⟨rfl, Na9, hA9, rfl⟩ := hp1
      have hNI9 : g_NI (g_nT T1 [46]) Na9 (g_nx (g_at u N) N p2) := g_NIs hNIx hA9 rfl (Nat.le_refl _)
      have hk9x := g_nkT T1 [46]
      have hk9L := g_ntL _ _ _ hk9x
      have hk9b := g_NIb hNI9
      refine x_istore d_RD_list_196 (Nat.le_of_ble_eq_true rfl) ?_
      refine x_lv [(0, .ref 36), (1, .int (nI t0)), (2, .int (nI r)), (4, .int (nI l)), (5, .int (nI (g_nk T1 [46])))] rfl ?_
      exact w_RD_liPairs hu hN hl hKp hTO3 hNI9 (g_MV_mv (fun _ _ y => g_nTm y) hMV1) (by omega) hk9x (by omega) acc z1 q1 r B1 St1 tl (g_mEt hE1 ⟨Nat.le_refl _, Nat.le_refl _, fun _ _ y => g_nTm y, fun _ _ => ⟨fun _ _ => rfl, rfl⟩, fun _ _ => rfl⟩) (by omega) (by omega) (by omega) (by omega) (by omega) hS1 (g_AS_mv ⟨Nat.le_refl _, Nat.le_refl _, fun _ _ y => g_nTm y, fun _ _ => ⟨fun _ _ => rfl, rfl⟩, fun _ _ => rfl⟩ acc (fun _ _ => rfl) hAS) hwl hkl (g_mT_mv ⟨Nat.le_refl _, Nat.le_refl _, fun _ _ y => g_nTm y, fun _ _ => ⟨fun _ _ => rfl, rfl⟩, fun _ _ => rfl⟩ hwl hTl) hR
    have hcp : ∀ m i (Kp2 : Nat → Int32), i + m = l → (∀ k, k < i → Kp2 k = vp_nar .byte (Wd3 k)) → x_W E M_RD_list (x_room (4 * d + 13) 0 0) (g_MK u N h o t0 pl kn T B Nm z q St s R) 52 (g_mw h N T1 Na1 B1 Nm1 z1 q1 St1 Vr1 Kp2 (nI (g_nx (g_at u N) N p2)) bh3 (nI (g_ky (g_at u N) N (g_nx (g_at u N) N p2))) (nI o) nm3 (nI l) (nI (t0 + acc.length)) pl (nI V1.length) kn rk1 Wd3) 129 [(0, .ref 36), (1, .int (nI t0)), (2, .int (nI r)), (4, .int (nI l)), (5, .int (nI i))] [] 0 0 := by
      intro m
      induction m with
      | zero =>
        intro i Kp2 hi hk
        obtain rfl : i = l := by omega
        refine x_iload d_RD_list_129 rfl ?_
        refine x_iload d_RD_list_131 rfl ?_
        refine x_icmp_ge 156 d_RD_list_133 (by decide) (fun _ => ?_) (fun z => absurd (nI_le (Nat.le_refl _) (by omega)) z)
        refine x_wk [(0, .ref 36), (1, .int (nI t0)), (2, .int (nI r)), (4, .int (nI i))] (by simp) ?_
        exact h156 Kp2 hk
      | succ m ih =>
        intro i Kp2 hi hk
        refine x_iload d_RD_list_129 rfl ?_
        refine x_iload d_RD_list_131 rfl ?_
        refine x_icmp_ge 156 d_RD_list_133 (by decide) (fun z => absurd z (nI_ge (by omega) (by omega))) (fun _ => ?_)
        refine x_aload_n d_RD_list_136 rfl rfl ?_
        refine x_get d_RD_list_137 f_RD_78 (Nat.le_of_ble_eq_true rfl) (Nat.le_of_ble_eq_true rfl) (by first | rfl | assumption) (by rfl) ?_
        refine x_iload d_RD_list_140 rfl ?_
        refine x_aload_n d_RD_list_142 rfl rfl ?_
        refine x_get d_RD_list_143 f_RD_68 (Nat.le_of_ble_eq_true rfl) (Nat.le_of_ble_eq_true rfl) (by first | rfl | assumption) (by rfl) ?_
        refine x_iload d_RD_list_146 rfl ?_
        refine x_bald d_RD_list_148 (Nat.le_of_ble_eq_true rfl) (Nat.le_of_ble_eq_true rfl) (by first | rfl | assumption) (vp_in_nI (show i < 4096 by omega) (by decide)) ?_
        refine x_topi (Wd3 i) (by rw [nI_clamp (by omega)]) ?_
        refine x_bast d_RD_list_149 (Nat.le_of_ble_eq_true rfl) (Nat.le_of_ble_eq_true rfl) (by first | rfl | assumption) (vp_in_nI (show i < 4096 by omega) (by decide)) ?_
        refine x_iinc d_RD_list_150 rfl 1 (by decide) (Nat.le_of_ble_eq_true rfl) ?_
        refine x_goto 129 d_RD_list_153 (by decide) ?_
        refine x_lv [(0, .ref 36), (1, .int (nI t0)), (2, .int (nI r)), (4, .int (nI l)), (5, .int (nI (i + 1)))] (by rw [nI_succ i]; rfl) ?_
        refine x_same (h' := (g_mw h N T1 Na1 B1 Nm1 z1 q1 St1 Vr1 (upd Kp2 i (vp_nar .byte (Wd3 i))) (nI (g_nx (g_at u N) N p2)) bh3 (nI (g_ky (g_at u N) N (g_nx (g_at u N) N p2))) (nI o) nm3 (nI l) (nI (t0 + acc.length)) pl (nI V1.length) kn rk1 Wd3)) (x_pt rfl rfl rfl rfl rfl rfl rfl rfl rfl rfl rfl rfl rfl rfl rfl rfl rfl rfl rfl rfl rfl rfl rfl rfl rfl rfl rfl rfl rfl rfl rfl rfl rfl rfl rfl rfl rfl rfl rfl rfl rfl rfl rfl (show Sum.inl (1, 4096, Sum.inl (upd _ (nI i).toNatClampNeg _)) = _ by rw [nI_clamp (by omega)]; rfl) rfl rfl rfl rfl rfl rfl rfl rfl) ?_
        exact ih (i + 1) _ (by omega) (fun k hk2 => by
          by_cases e : k = i
          · rw [e]; exact g_updY
          · rw [g_updN e]; exact hk k (by omega))
    refine x_iconst 0 d_RD_list_126 (by decide) ?_
    refine x_istore d_RD_list_127 (Nat.le_of_ble_eq_true rfl) ?_
    refine x_lv [(0, .ref 36), (1, .int (nI t0)), (2, .int (nI r)), (4, .int (nI l)), (5, .int (nI 0))] rfl ?_
    exact hcp l 0 Kp1 (by omega) (fun k h0 => absurd h0 (Nat.not_lt_zero _))
  · refine x_aload_n d_RD_list_107 rfl rfl ?_
    refine x_aload_n d_RD_list_108 rfl rfl ?_
    refine x_get d_RD_list_109 f_RD_116 (Nat.le_of_ble_eq_true rfl) (Nat.le_of_ble_eq_true rfl) (by first | rfl | assumption) (by rfl) ?_
    refine x_callV1Y d_RD_list_112 k_RD_126 (Nat.le_of_ble_eq_true rfl) (Nat.le_of_ble_eq_true rfl) (by first | rfl | assumption) (by rfl) w_RD_bad (show 0 + 1 ≤ 4 * d + 13 by omega) (show 8 + (2 + 11) + 64 * 0 ≤ 64 * (4 * d + 13) by omega) (Nat.le_of_ble_eq_true rfl) (Nat.le_of_ble_eq_true rfl) (Nat.le_of_ble_eq_true rfl) rfl ?_
    refine x_same (h' := (g_mw h N T1 Na1 B1 Nm1 z1 q1 St1 Vr1 Kp1 (nI p2) bh1 (nI (g_ky (g_at u N) N p2)) (nI o) nm1 lt1 (nI (t0 + acc.length)) (nI p2) (nI V1.length) kn rk1 Wd1)) (fun _ _ => rfl) ?_
    exact x_athrow d_RD_list_115 (Nat.le_of_ble_eq_true rfl) (Nat.le_of_ble_eq_true rfl) hB.2.2 rfl (g_MKx (by rw [← hR, if_neg (fun y => c_104 (by rw [y]; rfl))]; exact Or.inl rfl) g_txW)
set_option maxRecDepth 20000 in
theorem w_RD_liCb {E : xR} {h : xH} {u : Nat → Nat} {N d : Nat} (h22 : h 22 = .inl (1, 4096, .inl (fun i => g_sb (u i)))) (hu : ∀ i, u i < 256) (hN : N ≤ 4096) (hB : g_TB2 h) {s o t0 z q : Nat} {T : List (List Int32)} {B : Nat → Nat → Int32} {Nm : Nat → Int64} {St : Nat → Int32} {pl kn : Int32} {R : g_Rs} {T1 : List (List Int32)} {Na1 B1 : Nat → Nat → Int32} {Nm1 : Nat → Int64} {z1 q1 : Nat} {St1 Vr1 Kp1 : Nat → Int32} {bh1 lt1 : Int32} {nm1 : Int64} {rk1 : Int32} {Wd1 : Nat → Int32} {V1 : List (Nat × Nat)} {p2 s2 : Nat}  {acc : List (Nat × Std.Format)} (hp2 : p2 ≤ N) (hNI1 : g_NI T1 Na1 p2) (hMV1 : g_MV u T1 Vr1 V1) (hTO1 : g_TO u N p2 bh1 lt1 nm1 Wd1) (hE1 : g_mE T T1 B B1 Nm Nm1 z q z1 q1) (htb : t0 + acc.length ≤ 4099) (hzb : z1 + acc.length + 1 ≤ 7999) (hqb : q1 + 2 * acc.length ≤ 8999) (hS1 : ∀ k, k < t0 → St1 k = St k) (hAS : g_AS u N T1 B1 Nm1 z1 q1 St1 t0 acc) (hz1 : z1 + 1 + acc.length + s = z + (s2 + 1)) (hq1 : q1 + 2 * acc.length + s + 1 = q + (s2 + 1)) (hR : (g_liC (g_at u N) N p2 (s2 + 1) V1 (g_liF acc (g_lb 5 0 0, g_nil))) = R) : x_W E M_RD_list (x_room (4 * d + 13) 0 0) (g_MK u N h o t0 pl kn T B Nm z q St s R) 52 (g_mw h N T1 Na1 B1 Nm1 z1 q1 St1 Vr1 Kp1 (nI p2) bh1 (nI (g_ky (g_at u N) N p2)) (nI o) nm1 lt1 (nI (t0 + acc.length)) pl (nI V1.length) kn rk1 Wd1) 98 [(0, .ref 36), (1, .int (nI t0)), (2, .int (-1))] [] 0 0 := by
  unfold g_liC at hR
  have hkL := g_kyL (u := u) hp2
  refine x_aload_n d_RD_list_98 rfl rfl ?_
  refine x_get d_RD_list_99 f_RD_123 (Nat.le_of_ble_eq_true rfl) (Nat.le_of_ble_eq_true rfl) (by first | rfl | assumption) (by rfl) ?_
  refine x_bipush 7 d_RD_list_102 (by decide) ?_
  refine x_icmp_eq 116 d_RD_list_104 (by decide) (fun c_104 => ?_) (fun c_104 => ?_)
  · have k7 : (g_ky (g_at u N) N p2) = 7 := (g_nIne (by omega) (by decide)).mp c_104
    rw [if_pos k7] at hR
    obtain rfl : bh1 = nI (g_bh (g_at u N) N p2) := hTO1.2.1 (by rw [k7]; decide)
    have hnb := g_nxb (u := u) hp2 (by rw [k7]; decide)
    refine x_aload_n d_RD_list_116 rfl rfl ?_
    refine x_callV0E d_RD_list_117 k_RD_113 (Nat.le_of_ble_eq_true rfl) (Nat.le_of_ble_eq_true rfl) (by first | rfl | assumption) (by rfl) (w_RD_scan (p := (g_nx (g_at u N) N p2)) h22 hu hN (g_bhN hu ⟨hp2, (by rw [k7]; decide)⟩) rfl) (show 6 + 1 ≤ 4 * d + 13 by omega) (show 8 + (4 + 11) + 64 * (6) ≤ 64 * (4 * d + 13) by omega) (Nat.le_of_ble_eq_true rfl) (Nat.le_of_ble_eq_true rfl) (Nat.le_of_ble_eq_true rfl) rfl (fun v1 hh1 hp1 => ?_)
    obtain ⟨rfl, bh3, lt3, nm3, Wd3, hTO3, rfl⟩ := hp1
    refine x_same (h' := (g_mw h N T1 Na1 B1 Nm1 z1 q1 St1 Vr1 Kp1 (nI (g_nx (g_at u N) N p2)) bh3 (nI (g_ky (g_at u N) N (g_nx (g_at u N) N p2))) (nI o) nm3 lt3 (nI (t0 + acc.length)) pl (nI V1.length) kn rk1 Wd3)) (fun _ _ => rfl) ?_
    obtain ⟨l, hl, rfl⟩ := hTO3.1
    have hNI3 := g_NIm hNI1 hnb.1
    have hnib := g_NIb hNI3
    refine x_aload_n d_RD_list_120 rfl rfl ?_
    refine x_get d_RD_list_121 f_RD_139 (Nat.le_of_ble_eq_true rfl) (Nat.le_of_ble_eq_true rfl) (by first | rfl | assumption) (by rfl) ?_
    refine x_istore d_RD_list_124 (Nat.le_of_ble_eq_true rfl) ?_
    have h156 : ∀ Kp2 : Nat → Int32, (∀ k, k < l → Kp2 k = vp_nar .byte (Wd3 k)) → x_W E M_RD_list (x_room (4 * d + 13) 0 0) (g_MK u N h o t0 pl kn T B Nm z q St s R) 52 (g_mw h N T1 Na1 B1 Nm1 z1 q1 St1 Vr1 Kp2 (nI (g_nx (g_at u N) N p2)) bh3 (nI (g_ky (g_at u N) N (g_nx (g_at u N) N p2))) (nI o) nm3 (nI l) (nI (t0 + acc.length)) pl (nI V1.length) kn rk1 Wd3) 156 [(0, .ref 36), (1, .int (nI t0)), (2, .int (-1)), (4, .int (nI l))] [] 0 0 := by
      intro Kp2 hKp
      refine x_iload_n d_RD_list_156 rfl rfl ?_
      refine x_iconst (-1) d_RD_list_157 (by decide) ?_
      refine x_icmp_ne 190 d_RD_list_158 (by decide) (fun z => absurd rfl z) (fun _ => ?_)
      refine x_aload_n d_RD_list_161 rfl rfl ?_
      refine x_iconst 0 d_RD_list_162 (by decide) ?_
      refine x_put d_RD_list_163 f_RD_139 (Nat.le_of_ble_eq_true rfl) (Nat.le_of_ble_eq_true rfl) (by first | rfl | assumption) (by rfl) (by rfl) (by exact (Nat.le_of_ble_eq_true rfl)) ?_
      refine x_same (h' := (g_mw h N T1 Na1 B1 Nm1 z1 q1 St1 Vr1 Kp2 (nI (g_nx (g_at u N) N p2)) bh3 (nI (g_ky (g_at u N) N (g_nx (g_at u N) N p2))) (nI o) nm3 (nI 0) (nI (t0 + acc.length)) pl (nI V1.length) kn rk1 Wd3)) (x_pt rfl rfl rfl rfl rfl rfl rfl rfl rfl rfl rfl rfl rfl rfl rfl rfl rfl rfl rfl rfl rfl rfl rfl rfl rfl rfl rfl rfl rfl rfl rfl rfl rfl rfl rfl rfl rfl rfl rfl rfl rfl rfl rfl rfl rfl rfl rfl rfl rfl rfl rfl rfl) ?_
      refine x_aload_n d_RD_list_166 rfl rfl ?_
      refine x_bipush 91 d_RD_list_167 (by decide) ?_
      refine x_callV1Y d_RD_list_169 k_RD_154 (Nat.le_of_ble_eq_true rfl) (Nat.le_of_ble_eq_true rfl) (by first | rfl | assumption) (by rfl) (w_RD_letter (L := 0) (by decide) (by decide)) (show 0 + 1 ≤ 4 * d + 13 by omega) (show 8 + (2 + 11) + 64 * (0) ≤ 64 * (4 * d + 13) by omega) (Nat.le_of_ble_eq_true rfl) (Nat.le_of_ble_eq_true rfl) (Nat.le_of_ble_eq_true rfl) rfl ?_
      refine x_aload_n d_RD_list_172 rfl rfl ?_
      refine x_bipush 93 d_RD_list_173 (by decide) ?_
      refine x_callV1Y d_RD_list_175 k_RD_154 (Nat.le_of_ble_eq_true rfl) (Nat.le_of_ble_eq_true rfl) (by first | rfl | assumption) (by rfl) (w_RD_letter (L := 1) (by decide) (by decide)) (show 0 + 1 ≤ 4 * d + 13 by omega) (show 8 + (2 + 11) + 64 * (0) ≤ 64 * (4 * d + 13) by omega) (Nat.le_of_ble_eq_true rfl) (Nat.le_of_ble_eq_true rfl) (Nat.le_of_ble_eq_true rfl) rfl ?_
      refine x_same (h' := (g_mw h N T1 Na1 B1 Nm1 z1 q1 St1 Vr1 Kp2 (nI (g_nx (g_at u N) N p2)) bh3 (nI (g_ky (g_at u N) N (g_nx (g_at u N) N p2))) (nI o) nm3 (nI 2) (nI (t0 + acc.length)) pl (nI V1.length) kn rk1 (upd (upd Wd3 0 91) 1 93))) (x_pt rfl rfl rfl rfl rfl rfl rfl rfl rfl rfl rfl rfl rfl rfl rfl rfl rfl rfl rfl rfl rfl rfl rfl rfl rfl rfl rfl rfl rfl rfl rfl rfl rfl rfl rfl rfl rfl rfl rfl rfl rfl rfl rfl rfl rfl rfl rfl rfl rfl rfl rfl rfl) ?_
      refine x_aload_n d_RD_list_178 rfl rfl ?_
      refine x_get d_RD_list_179 f_RD_81 (Nat.le_of_ble_eq_true rfl) (Nat.le_of_ble_eq_true rfl) (by first | rfl | assumption) (by rfl) ?_
      refine x_aload_n d_RD_list_182 rfl rfl ?_
      refine x_callV0E d_RD_list_183 k_RD_212 (Nat.le_of_ble_eq_true rfl) (Nat.le_of_ble_eq_true rfl) (by first | rfl | assumption) (by rfl) (w_RD_name (x := [91, 93]) hNI3.1 (show g_tot T1 + 2 ≤ 5000 by omega) (by omega) (by decide) (fun i hi => by rcases (show i = 0 ∨ i = 1 by (have hi : i < 2 := hi); omega) with rfl | rfl <;> first | exact (show vp_nar .byte (91 : Int32) = 91 by decide) | exact (show vp_nar .byte (93 : Int32) = 93 by decide)) (fun k hk => by rcases (show k = 0 ∨ k = 1 by (have hk : k < 2 := hk); omega) with rfl | rfl <;> first | exact g_updY | (rw [g_updN (by decide)]; exact g_updY))) (show 2 + 1 ≤ 4 * d + 13 by omega) (show 8 + (1 + 11) + 64 * (2) ≤ 64 * (4 * d + 13) by omega) (Nat.le_of_ble_eq_true rfl) (Nat.le_of_ble_eq_true rfl) (Nat.le_of_ble_eq_true rfl) rfl (fun v1 hh1 hp1 => ?_)
      obtain ⟨rfl, Na5, hA5, rfl⟩ := hp1
      have hNI5 : g_NI (g_nT T1 [91, 93]) Na5 (g_nx (g_at u N) N p2) := g_NIs hNI3 hA5 rfl (Nat.le_refl _)
      have hk5x := g_nkT T1 [91, 93]
      have hk5L := g_ntL _ _ _ hk5x
      have hk5b := g_NIb hNI5
      refine x_same (h' := (g_ew (g_mw h N (g_nT T1 [91, 93]) Na5 B1 Nm1 z1 q1 St1 Vr1 Kp2 (nI (g_nx (g_at u N) N p2)) bh3 (nI (g_ky (g_at u N) N (g_nx (g_at u N) N p2))) (nI o) nm3 (nI 2) (nI (t0 + acc.length)) pl (nI V1.length) kn rk1 (upd (upd Wd3 0 91) 1 93)) B1 Nm1 (nI z1) (nI q1))) (x_pt rfl rfl rfl rfl rfl rfl rfl rfl rfl rfl rfl rfl rfl rfl rfl rfl rfl rfl rfl rfl rfl rfl rfl rfl rfl rfl rfl rfl rfl rfl rfl rfl rfl rfl rfl rfl rfl rfl rfl rfl rfl rfl rfl rfl rfl rfl rfl rfl rfl rfl rfl rfl) ?_
      refine x_callV1Y d_RD_list_186 k_RD_252 (Nat.le_of_ble_eq_true rfl) (Nat.le_of_ble_eq_true rfl) (by first | rfl | assumption) (by rfl) (w_TS_atom (h := (g_mw h N (g_nT T1 [91, 93]) Na5 B1 Nm1 z1 q1 St1 Vr1 Kp2 (nI (g_nx (g_at u N) N p2)) bh3 (nI (g_ky (g_at u N) N (g_nx (g_at u N) N p2))) (nI o) nm3 (nI 2) (nI (t0 + acc.length)) pl (nI V1.length) kn rk1 (upd (upd Wd3 0 91) 1 93))) (z := z1) (q := nI q1) (by omega)) (show 0 + 1 ≤ 4 * d + 13 by omega) (show 8 + (2 + 11) + 64 * (0) ≤ 64 * (4 * d + 13) by omega) (Nat.le_of_ble_eq_true rfl) (Nat.le_of_ble_eq_true rfl) (Nat.le_of_ble_eq_true rfl) rfl ?_
      refine x_same (h' := (g_mw h N (g_nT T1 [91, 93]) Na5 (g_b3 B1 z1 2 (nI (g_nk T1 [91, 93])) 0) Nm1 (z1 + 1) q1 St1 Vr1 Kp2 (nI (g_nx (g_at u N) N p2)) bh3 (nI (g_ky (g_at u N) N (g_nx (g_at u N) N p2))) (nI o) nm3 (nI 2) (nI (t0 + acc.length)) pl (nI V1.length) kn rk1 (upd (upd Wd3 0 91) 1 93))) (x_pt rfl rfl rfl rfl rfl rfl rfl rfl rfl rfl rfl rfl rfl rfl rfl rfl rfl rfl rfl rfl rfl rfl rfl rfl rfl rfl rfl rfl rfl rfl rfl rfl rfl rfl rfl rfl rfl rfl rfl rfl rfl rfl rfl rfl rfl rfl rfl rfl rfl rfl rfl rfl) ?_
      refine x_istore_n d_RD_list_189 rfl (Nat.le_of_ble_eq_true rfl) ?_
      have hNIx := hNI5
      refine x_aload_n d_RD_list_190 rfl rfl ?_
      refine x_bipush 46 d_RD_list_191 (by decide) ?_
      refine x_callV1E d_RD_list_193 k_RD_225 (Nat.le_of_ble_eq_true rfl) (Nat.le_of_ble_eq_true rfl) (by first | rfl | assumption) (by rfl) (w_RD_one hNIx.1 (by have := g_NIb hNIx; omega) (by have := g_NIb hNIx; omega) (by decide) (by decide)) (show 3 + 1 ≤ 4 * d + 13 by omega) (show 8 + (2 + 11) + 64 * (3) ≤ 64 * (4 * d + 13) by omega) (Nat.le_of_ble_eq_true rfl) (Nat.le_of_ble_eq_true rfl) (Nat.le_of_ble_eq_true rfl) rfl (fun v1 hh1 hp1 => ?_)
      obtain ⟨rfl, Na9, hA9, rfl⟩ := hp1
      have hNI9 : g_NI (g_nT (g_nT T1 [91, 93]) [46]) Na9 (g_nx (g_at u N) N p2) := g_NIs hNIx hA9 rfl (Nat.le_refl _)
      have hk9x := g_nkT (g_nT T1 [91, 93]) [46]
      have hk9L := g_ntL _ _ _ hk9x
      have hk9b := g_NIb hNI9
      refine x_istore d_RD_list_196 (Nat.le_of_ble_eq_true rfl) ?_
      refine x_lv [(0, .ref 36), (1, .int (nI t0)), (2, .int (nI z1)), (4, .int (nI l)), (5, .int (nI (g_nk (g_nT T1 [91, 93]) [46])))] rfl ?_
      exact w_RD_liPairs hu hN hl hKp hTO3 hNI9 (g_MV_mv (fun _ _ y => g_nTm y) (g_MV_mv (fun _ _ y => g_nTm y) hMV1)) (by omega) hk9x (by omega) acc (z1 + 1) q1 z1 (g_b3 B1 z1 2 (nI (g_nk T1 [91, 93])) 0) St1 (g_lb 5 0 0, g_nil) (g_mEt (g_mEt hE1 (g_E1 (fun _ _ y => g_nTm y))) ⟨Nat.le_refl _, Nat.le_refl _, fun _ _ y => g_nTm y, fun _ _ => ⟨fun _ _ => rfl, rfl⟩, fun _ _ => rfl⟩) (by omega) (by omega) (by omega) (by omega) (by omega) hS1 (g_AS_mv ⟨Nat.le_refl _, Nat.le_refl _, fun _ _ y => g_nTm y, fun _ _ => ⟨fun _ _ => rfl, rfl⟩, fun _ _ => rfl⟩ acc (fun _ _ => rfl) (g_AS_mv (g_E1 (fun _ _ y => g_nTm y)) acc (fun _ _ => rfl) hAS)) (show g_wf u N (g_lb 5 0 0, g_nil).2 from trivial) (Or.inr (Or.inr (Or.inr (Or.inr ⟨rfl, rfl⟩)))) (g_mT_mv ⟨Nat.le_refl _, Nat.le_refl _, fun _ _ y => g_nTm y, fun _ _ => ⟨fun _ _ => rfl, rfl⟩, fun _ _ => rfl⟩ (show g_wf u N (g_lb 5 0 0, g_nil).2 from trivial) (g_Ta (by omega) (Or.inr ⟨rfl, hk5x⟩))) hR
    have hcp : ∀ m i (Kp2 : Nat → Int32), i + m = l → (∀ k, k < i → Kp2 k = vp_nar .byte (Wd3 k)) → x_W E M_RD_list (x_room (4 * d + 13) 0 0) (g_MK u N h o t0 pl kn T B Nm z q St s R) 52 (g_mw h N T1 Na1 B1 Nm1 z1 q1 St1 Vr1 Kp2 (nI (g_nx (g_at u N) N p2)) bh3 (nI (g_ky (g_at u N) N (g_nx (g_at u N) N p2))) (nI o) nm3 (nI l) (nI (t0 + acc.length)) pl (nI V1.length) kn rk1 Wd3) 129 [(0, .ref 36), (1, .int (nI t0)), (2, .int (-1)), (4, .int (nI l)), (5, .int (nI i))] [] 0 0 := by
      intro m
      induction m with
      | zero =>
        intro i Kp2 hi hk
        obtain rfl : i = l := by omega
        refine x_iload d_RD_list_129 rfl ?_
        refine x_iload d_RD_list_131 rfl ?_
        refine x_icmp_ge 156 d_RD_list_133 (by decide) (fun _ => ?_) (fun z => absurd (nI_le (Nat.le_refl _) (by omega)) z)
        refine x_wk [(0, .ref 36), (1, .int (nI t0)), (2, .int (-1)), (4, .int (nI i))] (by simp) ?_
        exact h156 Kp2 hk
      | succ m ih =>
        intro i Kp2 hi hk
        refine x_iload d_RD_list_129 rfl ?_
        refine x_iload d_RD_list_131 rfl ?_
        refine x_icmp_ge 156 d_RD_list_133 (by decide) (fun z => absurd z (nI_ge (by omega) (by omega))) (fun _ => ?_)
        refine x_aload_n d_RD_list_136 rfl rfl ?_
        refine x_get d_RD_list_137 f_RD_78 (Nat.le_of_ble_eq_true rfl) (Nat.le_of_ble_eq_true rfl) (by first | rfl | assumption) (by rfl) ?_
        refine x_iload d_RD_list_140 rfl ?_
        refine x_aload_n d_RD_list_142 rfl rfl ?_
        refine x_get d_RD_list_143 f_RD_68 (Nat.le_of_ble_eq_true rfl) (Nat.le_of_ble_eq_true rfl) (by first | rfl | assumption) (by rfl) ?_
        refine x_iload d_RD_list_146 rfl ?_
        refine x_bald d_RD_list_148 (Nat.le_of_ble_eq_true rfl) (Nat.le_of_ble_eq_true rfl) (by first | rfl | assumption) (vp_in_nI (show i < 4096 by omega) (by decide)) ?_
        refine x_topi (Wd3 i) (by rw [nI_clamp (by omega)]) ?_
        refine x_bast d_RD_list_149 (Nat.le_of_ble_eq_true rfl) (Nat.le_of_ble_eq_true rfl) (by first | rfl | assumption) (vp_in_nI (show i < 4096 by omega) (by decide)) ?_
        refine x_iinc d_RD_list_150 rfl 1 (by decide) (Nat.le_of_ble_eq_true rfl) ?_
        refine x_goto 129 d_RD_list_153 (by decide) ?_
        refine x_lv [(0, .ref 36), (1, .int (nI t0)), (2, .int (-1)), (4, .int (nI l)), (5, .int (nI (i + 1)))] (by rw [nI_succ i]; rfl) ?_
        refine x_same (h' := (g_mw h N T1 Na1 B1 Nm1 z1 q1 St1 Vr1 (upd Kp2 i (vp_nar .byte (Wd3 i))) (nI (g_nx (g_at u N) N p2)) bh3 (nI (g_ky (g_at u N) N (g_nx (g_at u N) N p2))) (nI o) nm3 (nI l) (nI (t0 + acc.length)) pl (nI V1.length) kn rk1 Wd3)) (x_pt rfl rfl rfl rfl rfl rfl rfl rfl rfl rfl rfl rfl rfl rfl rfl rfl rfl rfl rfl rfl rfl rfl rfl rfl rfl rfl rfl rfl rfl rfl rfl rfl rfl rfl rfl rfl rfl rfl rfl rfl rfl rfl rfl (show Sum.inl (1, 4096, Sum.inl (upd _ (nI i).toNatClampNeg _)) = _ by rw [nI_clamp (by omega)]; rfl) rfl rfl rfl rfl rfl rfl rfl rfl) ?_
        exact ih (i + 1) _ (by omega) (fun k hk2 => by
          by_cases e : k = i
          · rw [e]; exact g_updY
          · rw [g_updN e]; exact hk k (by omega))
    refine x_iconst 0 d_RD_list_126 (by decide) ?_
    refine x_istore d_RD_list_127 (Nat.le_of_ble_eq_true rfl) ?_
    refine x_lv [(0, .ref 36), (1, .int (nI t0)), (2, .int (-1)), (4, .int (nI l)), (5, .int (nI 0))] rfl ?_
    exact hcp l 0 Kp1 (by omega) (fun k h0 => absurd h0 (Nat.not_lt_zero _))
  · refine x_aload_n d_RD_list_107 rfl rfl ?_
    refine x_aload_n d_RD_list_108 rfl rfl ?_
    refine x_get d_RD_list_109 f_RD_116 (Nat.le_of_ble_eq_true rfl) (Nat.le_of_ble_eq_true rfl) (by first | rfl | assumption) (by rfl) ?_
    refine x_callV1Y d_RD_list_112 k_RD_126 (Nat.le_of_ble_eq_true rfl) (Nat.le_of_ble_eq_true rfl) (by first | rfl | assumption) (by rfl) w_RD_bad (show 0 + 1 ≤ 4 * d + 13 by omega) (show 8 + (2 + 11) + 64 * 0 ≤ 64 * (4 * d + 13) by omega) (Nat.le_of_ble_eq_true rfl) (Nat.le_of_ble_eq_true rfl) (Nat.le_of_ble_eq_true rfl) rfl ?_
    refine x_same (h' := (g_mw h N T1 Na1 B1 Nm1 z1 q1 St1 Vr1 Kp1 (nI p2) bh1 (nI (g_ky (g_at u N) N p2)) (nI o) nm1 lt1 (nI (t0 + acc.length)) (nI p2) (nI V1.length) kn rk1 Wd1)) (fun _ _ => rfl) ?_
    exact x_athrow d_RD_list_115 (Nat.le_of_ble_eq_true rfl) (Nat.le_of_ble_eq_true rfl) hB.2.2 rfl (g_MKx (by rw [← hR, if_neg (fun y => c_104 (by rw [y]; rfl))]; exact Or.inl rfl) g_txW)
