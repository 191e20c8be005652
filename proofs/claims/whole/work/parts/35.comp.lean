theorem g_arL12 {u : Nat → Nat} {N q m p s d : Nat} {V : List (Nat × Nat)} {acc : List (Nat × Std.Format)} (h : g_ky (g_at u N) N p = 12) : g_arL (g_at u N) N (g_T (g_at u N) u N d) q m p s V acc = .inl p := by
  cases m with
  | zero => rfl
  | succ m => rw [g_arL, g_T12 h]; rfl
theorem d_PA_compound_0 : decode M_PA_compound.2.1 0 = .ok (.aload_n 0, 1) := by decide +kernel
theorem d_PA_compound_1 : decode M_PA_compound.2.1 1 = .ok (.getfield 12, 3) := by decide +kernel
theorem d_PA_compound_4 : decode M_PA_compound.2.1 4 = .ok (.ldc 146, 2) := by decide +kernel
theorem d_PA_compound_6 : decode M_PA_compound.2.1 6 = .ok (.invokevirtual 148, 3) := by decide +kernel
theorem d_PA_compound_9 : decode M_PA_compound.2.1 9 = .ok (.istore_n 2, 1) := by decide +kernel
theorem d_PA_compound_10 : decode M_PA_compound.2.1 10 = .ok (.aload_n 0, 1) := by decide +kernel
theorem d_PA_compound_11 : decode M_PA_compound.2.1 11 = .ok (.iconst 3, 1) := by decide +kernel
theorem d_PA_compound_12 : decode M_PA_compound.2.1 12 = .ok (.invokevirtual 137, 3) := by decide +kernel
theorem d_PA_compound_15 : decode M_PA_compound.2.1 15 = .ok (.istore_n 3, 1) := by decide +kernel
theorem d_PA_compound_16 : decode M_PA_compound.2.1 16 = .ok (.aload_n 0, 1) := by decide +kernel
theorem d_PA_compound_17 : decode M_PA_compound.2.1 17 = .ok (.getfield 12, 3) := by decide +kernel
theorem d_PA_compound_20 : decode M_PA_compound.2.1 20 = .ok (.invokevirtual 56, 3) := by decide +kernel
theorem d_PA_compound_23 : decode M_PA_compound.2.1 23 = .ok (.aload_n 0, 1) := by decide +kernel
theorem d_PA_compound_24 : decode M_PA_compound.2.1 24 = .ok (.getfield 12, 3) := by decide +kernel
theorem d_PA_compound_27 : decode M_PA_compound.2.1 27 = .ok (.getstatic 75, 3) := by decide +kernel
theorem d_PA_compound_30 : decode M_PA_compound.2.1 30 = .ok (.invokevirtual 52, 3) := by decide +kernel
theorem d_PA_compound_33 : decode M_PA_compound.2.1 33 = .ok (.aload_n 0, 1) := by decide +kernel
theorem d_PA_compound_34 : decode M_PA_compound.2.1 34 = .ok (.getfield 12, 3) := by decide +kernel
theorem d_PA_compound_37 : decode M_PA_compound.2.1 37 = .ok (.invokevirtual 56, 3) := by decide +kernel
theorem d_PA_compound_40 : decode M_PA_compound.2.1 40 = .ok (.aload_n 0, 1) := by decide +kernel
theorem d_PA_compound_41 : decode M_PA_compound.2.1 41 = .ok (.sipush 999, 3) := by decide +kernel
theorem d_PA_compound_44 : decode M_PA_compound.2.1 44 = .ok (.iload_n 1, 1) := by decide +kernel
theorem d_PA_compound_45 : decode M_PA_compound.2.1 45 = .ok (.iconst 1, 1) := by decide +kernel
theorem d_PA_compound_46 : decode M_PA_compound.2.1 46 = .ok (.iadd, 1) := by decide +kernel
theorem d_PA_compound_47 : decode M_PA_compound.2.1 47 = .ok (.invokevirtual 39, 3) := by decide +kernel
theorem d_PA_compound_50 : decode M_PA_compound.2.1 50 = .ok (.istore 4, 2) := by decide +kernel
theorem d_PA_compound_52 : decode M_PA_compound.2.1 52 = .ok (.aload_n 0, 1) := by decide +kernel
theorem d_PA_compound_53 : decode M_PA_compound.2.1 53 = .ok (.getfield 21, 3) := by decide +kernel
theorem d_PA_compound_56 : decode M_PA_compound.2.1 56 = .ok (.iload_n 3, 1) := by decide +kernel
theorem d_PA_compound_57 : decode M_PA_compound.2.1 57 = .ok (.iload 4, 2) := by decide +kernel
theorem d_PA_compound_59 : decode M_PA_compound.2.1 59 = .ok (.invokevirtual 127, 3) := by decide +kernel
theorem d_PA_compound_62 : decode M_PA_compound.2.1 62 = .ok (.iconst 1, 1) := by decide +kernel
theorem d_PA_compound_63 : decode M_PA_compound.2.1 63 = .ok (.istore 5, 2) := by decide +kernel
theorem d_PA_compound_65 : decode M_PA_compound.2.1 65 = .ok (.aload_n 0, 1) := by decide +kernel
theorem d_PA_compound_66 : decode M_PA_compound.2.1 66 = .ok (.getfield 12, 3) := by decide +kernel
theorem d_PA_compound_69 : decode M_PA_compound.2.1 69 = .ok (.getfield 72, 3) := by decide +kernel
theorem d_PA_compound_72 : decode M_PA_compound.2.1 72 = .ok (.getstatic 152, 3) := by decide +kernel
theorem d_PA_compound_75 : decode M_PA_compound.2.1 75 = .ok (.if_acmp .ne 64, 3) := by decide +kernel
theorem d_PA_compound_78 : decode M_PA_compound.2.1 78 = .ok (.iload 5, 2) := by decide +kernel
theorem d_PA_compound_80 : decode M_PA_compound.2.1 80 = .ok (.bipush 8, 2) := by decide +kernel
theorem d_PA_compound_82 : decode M_PA_compound.2.1 82 = .ok (.if_icmp .gt 57, 3) := by decide +kernel
theorem d_PA_compound_85 : decode M_PA_compound.2.1 85 = .ok (.aload_n 0, 1) := by decide +kernel
theorem d_PA_compound_86 : decode M_PA_compound.2.1 86 = .ok (.getfield 12, 3) := by decide +kernel
theorem d_PA_compound_89 : decode M_PA_compound.2.1 89 = .ok (.invokevirtual 56, 3) := by decide +kernel
theorem d_PA_compound_92 : decode M_PA_compound.2.1 92 = .ok (.iinc 5 1, 3) := by decide +kernel
theorem d_PA_compound_95 : decode M_PA_compound.2.1 95 = .ok (.iload 5, 2) := by decide +kernel
theorem d_PA_compound_97 : decode M_PA_compound.2.1 97 = .ok (.bipush 8, 2) := by decide +kernel
theorem d_PA_compound_99 : decode M_PA_compound.2.1 99 = .ok (.if_icmp .le 10, 3) := by decide +kernel
theorem d_PA_compound_102 : decode M_PA_compound.2.1 102 = .ok (.aload_n 0, 1) := by decide +kernel
theorem d_PA_compound_103 : decode M_PA_compound.2.1 103 = .ok (.getfield 12, 3) := by decide +kernel
theorem d_PA_compound_106 : decode M_PA_compound.2.1 106 = .ok (.invokevirtual 69, 3) := by decide +kernel
theorem d_PA_compound_109 : decode M_PA_compound.2.1 109 = .ok (.aload_n 0, 1) := by decide +kernel
theorem d_PA_compound_110 : decode M_PA_compound.2.1 110 = .ok (.sipush 999, 3) := by decide +kernel
theorem d_PA_compound_113 : decode M_PA_compound.2.1 113 = .ok (.iload_n 1, 1) := by decide +kernel
theorem d_PA_compound_114 : decode M_PA_compound.2.1 114 = .ok (.iconst 1, 1) := by decide +kernel
theorem d_PA_compound_115 : decode M_PA_compound.2.1 115 = .ok (.iadd, 1) := by decide +kernel
theorem d_PA_compound_116 : decode M_PA_compound.2.1 116 = .ok (.invokevirtual 39, 3) := by decide +kernel
theorem d_PA_compound_119 : decode M_PA_compound.2.1 119 = .ok (.istore 6, 2) := by decide +kernel
theorem d_PA_compound_121 : decode M_PA_compound.2.1 121 = .ok (.aload_n 0, 1) := by decide +kernel
theorem d_PA_compound_122 : decode M_PA_compound.2.1 122 = .ok (.getfield 21, 3) := by decide +kernel
theorem d_PA_compound_125 : decode M_PA_compound.2.1 125 = .ok (.iload 4, 2) := by decide +kernel
theorem d_PA_compound_127 : decode M_PA_compound.2.1 127 = .ok (.iload 6, 2) := by decide +kernel
theorem d_PA_compound_129 : decode M_PA_compound.2.1 129 = .ok (.invokevirtual 140, 3) := by decide +kernel
theorem d_PA_compound_132 : decode M_PA_compound.2.1 132 = .ok (.iload 6, 2) := by decide +kernel
theorem d_PA_compound_134 : decode M_PA_compound.2.1 134 = .ok (.istore 4, 2) := by decide +kernel
theorem d_PA_compound_136 : decode M_PA_compound.2.1 136 = .ok (.goto (-71), 3) := by decide +kernel
theorem d_PA_compound_139 : decode M_PA_compound.2.1 139 = .ok (.aload_n 0, 1) := by decide +kernel
theorem d_PA_compound_140 : decode M_PA_compound.2.1 140 = .ok (.getfield 12, 3) := by decide +kernel
theorem d_PA_compound_143 : decode M_PA_compound.2.1 143 = .ok (.getstatic 143, 3) := by decide +kernel
theorem d_PA_compound_146 : decode M_PA_compound.2.1 146 = .ok (.invokevirtual 52, 3) := by decide +kernel
theorem d_PA_compound_149 : decode M_PA_compound.2.1 149 = .ok (.aload_n 0, 1) := by decide +kernel
theorem d_PA_compound_150 : decode M_PA_compound.2.1 150 = .ok (.getfield 12, 3) := by decide +kernel
theorem d_PA_compound_153 : decode M_PA_compound.2.1 153 = .ok (.invokevirtual 56, 3) := by decide +kernel
theorem d_PA_compound_156 : decode M_PA_compound.2.1 156 = .ok (.iload_n 2, 1) := by decide +kernel
theorem d_PA_compound_157 : decode M_PA_compound.2.1 157 = .ok (.ifCond .eq 19, 3) := by decide +kernel
theorem d_PA_compound_160 : decode M_PA_compound.2.1 160 = .ok (.iload 5, 2) := by decide +kernel
theorem d_PA_compound_162 : decode M_PA_compound.2.1 162 = .ok (.iconst 2, 1) := by decide +kernel
theorem d_PA_compound_163 : decode M_PA_compound.2.1 163 = .ok (.if_icmp .ne 13, 3) := by decide +kernel
theorem d_PA_compound_166 : decode M_PA_compound.2.1 166 = .ok (.aload_n 0, 1) := by decide +kernel
theorem d_PA_compound_167 : decode M_PA_compound.2.1 167 = .ok (.getfield 21, 3) := by decide +kernel
theorem d_PA_compound_170 : decode M_PA_compound.2.1 170 = .ok (.getfield 155, 3) := by decide +kernel
theorem d_PA_compound_173 : decode M_PA_compound.2.1 173 = .ok (.iload_n 3, 1) := by decide +kernel
theorem d_PA_compound_174 : decode M_PA_compound.2.1 174 = .ok (.iconst 4, 1) := by decide +kernel
theorem d_PA_compound_175 : decode M_PA_compound.2.1 175 = .ok (.iastore, 1) := by decide +kernel
theorem d_PA_compound_176 : decode M_PA_compound.2.1 176 = .ok (.iload_n 3, 1) := by decide +kernel
theorem d_PA_compound_177 : decode M_PA_compound.2.1 177 = .ok (.ireturn, 1) := by decide +kernel
set_option maxRecDepth 20000 in
theorem w_PA_cpEnd {E : xR} {h : xH} {u : Nat → Nat} {N d op p s : Nat} {A : Nat → Nat → Int32} {R : g_Rs} (h2 : h 2 = .inr (1, [.ref 3, .ref 5])) (h1 : h 1 = .inl (1, 4096, .inl (fun i => g_sb (u i)))) (hu : ∀ i, u i < 256) (hN : N ≤ 4096) (hnt : ¬ x_tg E) (hT : g_CT E h u N d) (hop : op + 1 + d = 101) (hf9 : (g_fr (g_at u N) N p) ≤ 4096) {m p1 s1 w1 j cnt : Nat} {A1 : Nat → Nat → Int32} {V1 : List (Nat × Nat)} {acc : List (Nat × Std.Format)} {zs : List (Nat × Value)} (hc : cnt = acc.length) (hcm : cnt ≤ 8) (ok : g_okA A1) (hp1 : p1 ≤ N) (hw : w1 ≤ 1000) (hk1 : ¬ (g_ky (g_at u N) N p1) = 12) (hs1 : s + 1 ≤ s1) (hCI : g_CI A A1 s s1 w1 V1 (g_fr (g_at u N) N p) (g_to (g_at u N) N p) acc j) (hR : (if (g_ky (g_at u N) N p1) = 10 then g_arL (g_at u N) N (g_T (g_at u N) u N d) p m (g_nx (g_at u N) N p1) s1 V1 acc else if (g_ky (g_at u N) N p1) = 5 then .inr ((g_nx (g_at u N) N p1), s1, V1, (bif g_is (g_at u N) (g_fr (g_at u N) N p) (g_to (g_at u N) N p) [46] && decide (List.length acc = 2) then g_lb 4 0 0 else g_lb 3 (g_fr (g_at u N) N p) (g_to (g_at u N) N p), g_arK acc), 0) else .inl p1) = R) (hn10 : ¬ (g_ky (g_at u N) N p1) = 10) (hzs : zs = []) : x_W E M_PA_compound (x_room (2 * d + 13) 1 6) (g_Po u N h A s R) 52 (g_pw u N h p1 s1 w1 A1) 139 [(0, .ref 2), (1, .int (nI op)), (2, .int (g_b2 (g_is (g_at u N) (g_fr (g_at u N) N p) (g_to (g_at u N) N p) [46]))), (3, .int (nI (g_nod s))), (4, .int (nI j)), (5, .int (nI cnt))] [] 0 0 := by
  rw [if_neg hn10] at hR
  refine x_aload_n d_PA_compound_139 rfl rfl ?_
  refine x_get d_PA_compound_140 f_PA_12 (Nat.le_of_ble_eq_true rfl) (Nat.le_of_ble_eq_true rfl) (by first | rfl | assumption) (by rfl) ?_
  refine x_gSN (i := 5) d_PA_compound_143 (by decide) s_PA_143 ?_
  refine x_callV1B d_PA_compound_146 k_PA_52 (Nat.le_of_ble_eq_true rfl) (Nat.le_of_ble_eq_true rfl) g_pw3 (by rfl) (w_SG_mustBe g_pw3 (g_sgk _ (g_kyL (u := u) hp1)).2.2.1 (by decide)) (show 7 + 1 ≤ 2 * d + 13 by omega) (show 8 + (2 + 11) + 64 * (7) ≤ 64 * (2 * d + 13) by omega) (Nat.le_of_ble_eq_true rfl) (Nat.le_of_ble_eq_true rfl) (Nat.le_of_ble_eq_true rfl) rfl (fun c_146 => ?_) (fun c h' e => g_Po_x (Or.inl (hR.symm.trans (if_neg (fun z => of_decide_eq_false c ((g_sgk _ (g_kyL (u := u) hp1)).2.2.2.2.1.mpr z))))) ⟨rfl, rfl, rfl, rfl, _, _, _, _, _, _, _, _, ok, fun i hi => (e i hi).trans (g_pw_up i hi)⟩)
  have hk5 := (g_sgk _ (g_kyL (u := u) hp1)).2.2.2.2.1.mp (of_decide_eq_true c_146)
  refine x_aload_n d_PA_compound_149 rfl rfl ?_
  refine x_get d_PA_compound_150 f_PA_12 (Nat.le_of_ble_eq_true rfl) (Nat.le_of_ble_eq_true rfl) (by first | rfl | assumption) (by rfl) ?_
  refine x_callAdv h1 hu hN ok hp1 hk1 d_PA_compound_153 k_PA_56 (show 9 ≤ 2 * d + 13 by omega) (show 8 + 13 + 64 * 8 ≤ 64 * (2 * d + 13) by omega) (Nat.le_of_ble_eq_true rfl) (Nat.le_of_ble_eq_true rfl) (Nat.le_of_ble_eq_true rfl) rfl (fun c_153 => ?_) (fun c h' hx => g_Po_x (Or.inr ⟨_, _, _, _, hR.symm.trans (if_pos hk5), c⟩) hx)
  refine x_iload_n d_PA_compound_156 rfl rfl ?_
  refine x_if_eq 176 d_PA_compound_157 (by decide) (fun c_157 => ?_) (fun c_157 => ?_)
  · refine x_iload_n d_PA_compound_176 rfl rfl ?_
    exact x_ireturn d_PA_compound_177 rfl rfl (g_Po_y (t := (g_lb 3 (g_fr (g_at u N) N p) (g_to (g_at u N) N p), g_arK acc)) (hR.symm.trans (by rw [if_pos hk5, show (g_is (g_at u N) (g_fr (g_at u N) N p) (g_to (g_at u N) N p) [46]) = false from g_b2z c_157]; rfl)) c_153 (g_nodL s) hw ok (g_CIe hs1 hf9 hCI) (fun _ _ => rfl))
  · refine x_iload d_PA_compound_160 rfl ?_
    refine x_iconst 2 d_PA_compound_162 (by decide) ?_
    refine x_icmp_ne 176 d_PA_compound_163 (by decide) (fun c_163 => ?_) (fun c_163 => ?_)
    · refine x_iload_n d_PA_compound_176 rfl rfl ?_
      exact x_ireturn d_PA_compound_177 rfl rfl (g_Po_y (t := (g_lb 3 (g_fr (g_at u N) N p) (g_to (g_at u N) N p), g_arK acc)) (hR.symm.trans (by rw [if_pos hk5, decide_eq_false (fun q => c_163 (by rw [hc, q]; rfl)), Bool.and_false]; rfl)) c_153 (g_nodL s) hw ok (g_CIe hs1 hf9 hCI) (fun _ _ => rfl))
    · refine x_aload_n d_PA_compound_166 rfl rfl ?_
      refine x_get d_PA_compound_167 f_PA_21 (Nat.le_of_ble_eq_true rfl) (Nat.le_of_ble_eq_true rfl) (by first | rfl | assumption) (by rfl) ?_
      refine x_get d_PA_compound_170 f_PA_155 (Nat.le_of_ble_eq_true rfl) (Nat.le_of_ble_eq_true rfl) (by first | rfl | assumption) (by rfl) ?_
      refine x_iload_n d_PA_compound_173 rfl rfl ?_
      refine x_iconst 4 d_PA_compound_174 (by decide) ?_
      refine x_iast d_PA_compound_175 (Nat.le_of_ble_eq_true rfl) (Nat.le_of_ble_eq_true rfl) (by first | rfl | assumption) (vp_in_nI (g_nodL s) (by decide)) ?_
      refine x_iload_n d_PA_compound_176 rfl rfl ?_
      exact x_ireturn d_PA_compound_177 rfl rfl (g_Po_y (t := (g_lb 4 0 0, g_arK acc)) (hR.symm.trans (by rw [if_pos hk5, show (g_is (g_at u N) (g_fr (g_at u N) N p) (g_to (g_at u N) N p) [46]) = true from g_b2n c_157, decide_eq_true (show acc.length = 2 by rw [← hc]; exact (g_nIne (b := 2) (by omega) (by decide)).mp c_163)]; rfl)) c_153 (g_nodL s) hw (g_okar ok (by decide) (by decide) (by decide)) (g_CIp hs1 hCI) (x_pt rfl rfl rfl rfl rfl rfl (show Sum.inl (0, 1001, Sum.inl (upd _ (nI (g_nod s)).toNatClampNeg _)) = _ by rw [nI_clamp (by have := g_nodL s; omega)]; rfl) rfl rfl rfl rfl rfl rfl rfl rfl rfl rfl rfl rfl rfl rfl rfl rfl rfl rfl rfl rfl rfl rfl rfl rfl rfl rfl rfl rfl rfl rfl rfl rfl rfl rfl rfl rfl rfl rfl rfl rfl rfl rfl rfl rfl rfl))
set_option maxRecDepth 20000 in
theorem w_PA_cpLoop {E : xR} {h : xH} {u : Nat → Nat} {N d op p s : Nat} {A : Nat → Nat → Int32} {R : g_Rs} (h2 : h 2 = .inr (1, [.ref 3, .ref 5])) (h1 : h 1 = .inl (1, 4096, .inl (fun i => g_sb (u i)))) (hu : ∀ i, u i < 256) (hN : N ≤ 4096) (hnt : ¬ x_tg E) (hT : g_CT E h u N d) (hop : op + 1 + d = 101) (hf9 : (g_fr (g_at u N) N p) ≤ 4096) : ∀ (m cnt p1 s1 w1 j : Nat) (A1 : Nat → Nat → Int32) (V1 : List (Nat × Nat)) (acc : List (Nat × Std.Format)), cnt + m = 8 → cnt = acc.length → g_okA A1 → p1 ≤ N → s1 ≤ p1 → w1 ≤ 1000 → ¬ (g_ky (g_at u N) N p1) = 12 → s + 1 ≤ s1 → j < 1001 → g_CI A A1 s s1 w1 V1 (g_fr (g_at u N) N p) (g_to (g_at u N) N p) acc j → (if (g_ky (g_at u N) N p1) = 10 then g_arL (g_at u N) N (g_T (g_at u N) u N d) p m (g_nx (g_at u N) N p1) s1 V1 acc else if (g_ky (g_at u N) N p1) = 5 then .inr ((g_nx (g_at u N) N p1), s1, V1, (bif g_is (g_at u N) (g_fr (g_at u N) N p) (g_to (g_at u N) N p) [46] && decide (List.length acc = 2) then g_lb 4 0 0 else g_lb 3 (g_fr (g_at u N) N p) (g_to (g_at u N) N p), g_arK acc), 0) else .inl p1) = R → x_W E M_PA_compound (x_room (2 * d + 13) 1 6) (g_Po u N h A s R) 52 (g_pw u N h p1 s1 w1 A1) 65 [(0, .ref 2), (1, .int (nI op)), (2, .int (g_b2 (g_is (g_at u N) (g_fr (g_at u N) N p) (g_to (g_at u N) N p) [46]))), (3, .int (nI (g_nod s))), (4, .int (nI j)), (5, .int (nI cnt))] [] 0 0 := by
  intro m
  induction m with
  | zero =>
    intro cnt p1 s1 w1 j A1 V1 acc hcm hc ok hp1 hsp hw hk1 hs1 hj hCI hR
    have hsg := (g_sgk _ (g_kyL (u := u) hp1)).2.2.1
    refine x_aload_n d_PA_compound_65 rfl rfl ?_
    refine x_get d_PA_compound_66 f_PA_12 (Nat.le_of_ble_eq_true rfl) (Nat.le_of_ble_eq_true rfl) (by first | rfl | assumption) (by rfl) ?_
    refine x_get d_PA_compound_69 f_PA_72 (Nat.le_of_ble_eq_true rfl) (Nat.le_of_ble_eq_true rfl) (by first | rfl | assumption) (by rfl) ?_
    refine x_gSN (i := 9) d_PA_compound_72 (by decide) s_PA_152 ?_
    refine x_acmp_ne 139 d_PA_compound_75 (by decide) (Or.inl ⟨rfl, rfl⟩) (by first | assumption | decide | omega) (by first | assumption | decide | omega) (fun c_75 => ?_) (fun c_75 => ?_)
    · exact w_PA_cpEnd h2 h1 hu hN hnt hT hop hf9 (zs := []) hc (by omega) ok hp1 hw hk1 hs1 hCI hR (fun z => c_75 ((g_sgk _ (g_kyL (u := u) hp1)).1.mpr z)) rfl
    · have hk10 : (g_ky (g_at u N) N p1) = 10 := (g_sgk _ (g_kyL (u := u) hp1)).1.mp c_75
      have hnb := g_nxb (u := u) hp1 hk1
      have hnb3 := hnb.2.2 (by omega)
      rw [if_pos hk10] at hR
      refine x_iload d_PA_compound_78 rfl ?_
      refine x_bipush 8 d_PA_compound_80 (by decide) ?_
      refine x_icmp_gt 139 d_PA_compound_82 (by decide) (fun z => absurd z (show ¬ nI 8 < nI cnt from nI_nlt (by omega) (by omega))) (fun _ => ?_)
      refine x_aload_n d_PA_compound_85 rfl rfl ?_
      refine x_get d_PA_compound_86 f_PA_12 (Nat.le_of_ble_eq_true rfl) (Nat.le_of_ble_eq_true rfl) (by first | rfl | assumption) (by rfl) ?_
      refine x_callAdv h1 hu hN ok hp1 hk1 d_PA_compound_89 k_PA_56 (show 9 ≤ 2 * d + 13 by omega) (show 8 + 13 + 64 * 8 ≤ 64 * (2 * d + 13) by omega) (Nat.le_of_ble_eq_true rfl) (Nat.le_of_ble_eq_true rfl) (Nat.le_of_ble_eq_true rfl) rfl (fun c_89 => ?_) (fun c h' hx => g_Po_x (Or.inl (hR.symm.trans (g_arL12 c))) hx)
      refine x_iinc d_PA_compound_92 rfl 1 (by decide) (Nat.le_of_ble_eq_true rfl) ?_
      refine x_iload d_PA_compound_95 rfl ?_
      refine x_topi (nI (cnt + 1)) (nI_succ cnt).symm ?_
      refine x_bipush 8 d_PA_compound_97 (by decide) ?_
      refine x_icmp_le 109 d_PA_compound_99 (by decide) (fun z => absurd z (show ¬ nI (cnt + 1) ≤ nI 8 from nI_ge (by omega) (by omega))) (fun _ => ?_)
      refine x_aload_n d_PA_compound_102 rfl rfl ?_
      refine x_get d_PA_compound_103 f_PA_12 (Nat.le_of_ble_eq_true rfl) (Nat.le_of_ble_eq_true rfl) (by first | rfl | assumption) (by rfl) ?_
      exact x_callV0X d_PA_compound_106 k_PA_69 (Nat.le_of_ble_eq_true rfl) (Nat.le_of_ble_eq_true rfl) g_pw3 (by rfl) (w_SG_breakHere g_pw3) (show 6 + 1 ≤ 2 * d + 13 by omega) (show 8 + (1 + 11) + 64 * (6) ≤ 64 * (2 * d + 13) by omega) (Nat.le_of_ble_eq_true rfl) (Nat.le_of_ble_eq_true rfl) (Nat.le_of_ble_eq_true rfl) rfl (fun h' e => g_Po_x (Or.inl hR.symm) ⟨rfl, rfl, rfl, rfl, _, _, _, _, _, _, _, A1, ok, fun i hi => (e i hi).trans (g_pw_up i hi)⟩)
  | succ m ih =>
    intro cnt p1 s1 w1 j A1 V1 acc hcm hc ok hp1 hsp hw hk1 hs1 hj hCI hR
    have hsg := (g_sgk _ (g_kyL (u := u) hp1)).2.2.1
    refine x_aload_n d_PA_compound_65 rfl rfl ?_
    refine x_get d_PA_compound_66 f_PA_12 (Nat.le_of_ble_eq_true rfl) (Nat.le_of_ble_eq_true rfl) (by first | rfl | assumption) (by rfl) ?_
    refine x_get d_PA_compound_69 f_PA_72 (Nat.le_of_ble_eq_true rfl) (Nat.le_of_ble_eq_true rfl) (by first | rfl | assumption) (by rfl) ?_
    refine x_gSN (i := 9) d_PA_compound_72 (by decide) s_PA_152 ?_
    refine x_acmp_ne 139 d_PA_compound_75 (by decide) (Or.inl ⟨rfl, rfl⟩) (by first | assumption | decide | omega) (by first | assumption | decide | omega) (fun c_75 => ?_) (fun c_75 => ?_)
    · exact w_PA_cpEnd h2 h1 hu hN hnt hT hop hf9 (zs := []) hc (by omega) ok hp1 hw hk1 hs1 hCI hR (fun z => c_75 ((g_sgk _ (g_kyL (u := u) hp1)).1.mpr z)) rfl
    · have hk10 : (g_ky (g_at u N) N p1) = 10 := (g_sgk _ (g_kyL (u := u) hp1)).1.mp c_75
      have hnb := g_nxb (u := u) hp1 hk1
      have hnb3 := hnb.2.2 (by omega)
      rw [if_pos hk10] at hR
      refine x_iload d_PA_compound_78 rfl ?_
      refine x_bipush 8 d_PA_compound_80 (by decide) ?_
      refine x_icmp_gt 139 d_PA_compound_82 (by decide) (fun z => absurd z (show ¬ nI 8 < nI cnt from nI_nlt (by omega) (by omega))) (fun _ => ?_)
      refine x_aload_n d_PA_compound_85 rfl rfl ?_
      refine x_get d_PA_compound_86 f_PA_12 (Nat.le_of_ble_eq_true rfl) (Nat.le_of_ble_eq_true rfl) (by first | rfl | assumption) (by rfl) ?_
      refine x_callAdv h1 hu hN ok hp1 hk1 d_PA_compound_89 k_PA_56 (show 9 ≤ 2 * d + 13 by omega) (show 8 + 13 + 64 * 8 ≤ 64 * (2 * d + 13) by omega) (Nat.le_of_ble_eq_true rfl) (Nat.le_of_ble_eq_true rfl) (Nat.le_of_ble_eq_true rfl) rfl (fun c_89 => ?_) (fun c h' hx => g_Po_x (Or.inl (hR.symm.trans (g_arL12 c))) hx)
      refine x_iinc d_PA_compound_92 rfl 1 (by decide) (Nat.le_of_ble_eq_true rfl) ?_
      refine x_iload d_PA_compound_95 rfl ?_
      refine x_topi (nI (cnt + 1)) (nI_succ cnt).symm ?_
      refine x_bipush 8 d_PA_compound_97 (by decide) ?_
      refine x_icmp_le 109 d_PA_compound_99 (by decide) (fun _ => ?_) (fun z => absurd (show nI (cnt + 1) ≤ nI 8 from nI_le (by omega) (by decide)) z)
      rw [g_arL] at hR
      refine x_aload_n d_PA_compound_109 rfl rfl ?_
      refine x_sipush 999 d_PA_compound_110 (by decide) ?_
      refine x_iload_n d_PA_compound_113 rfl rfl ?_
      refine x_iconst 1 d_PA_compound_114 (by decide) ?_
      refine x_iadd d_PA_compound_115 ?_
      refine x_topi (nI (op + 1)) (nI_succ op).symm ?_
      refine x_callV2P d_PA_compound_116 k_PA_39 (Nat.le_of_ble_eq_true rfl) (Nat.le_of_ble_eq_true rfl) (by first | rfl | assumption) (by rfl) (hT 999 (g_nx (g_at u N) N p1) s1 w1 (op + 1) A1 V1 (by decide) ok hnb.2.1 (by omega) hw (fun q => (hCI q).2.2.2.2.2.2.2) c_89 hop) (show 2 * d + 12 + 1 ≤ 2 * d + 13 by omega) (show 8 + (5 + 11) + 64 * (2 * d + 12) ≤ 64 * (2 * d + 13) by omega) (Nat.le_of_ble_eq_true rfl) (Nat.le_of_ble_eq_true rfl) (Nat.le_of_ble_eq_true rfl) rfl hnt (fun p3 s3 V3 x3 c3 A3 w3 j3 hr hk3 hj3 hw3 ok3 hRL3 => ?_) (fun q hd h' hx => g_Po_x (hR ▸ g_dd_bd hd (fun _ _ _ _ z => Or.inl (by rw [if_neg (by rw [z]; decide), if_neg (by rw [z]; decide)]))) hx)
      have b3 := g_Tb (u := u) d _ (g_nx (g_at u N) N p1) s1 V1 (show 999 ≤ 1200 by decide) hnb.2.1 _ _ _ _ _ hr
      rw [hr] at hR
      refine x_istore d_PA_compound_119 (Nat.le_of_ble_eq_true rfl) ?_
      refine x_aload_n d_PA_compound_121 rfl rfl ?_
      refine x_get d_PA_compound_122 f_PA_21 (Nat.le_of_ble_eq_true rfl) (Nat.le_of_ble_eq_true rfl) (by first | rfl | assumption) (by rfl) ?_
      refine x_iload d_PA_compound_125 rfl ?_
      refine x_iload d_PA_compound_127 rfl ?_
      refine x_callV2Y d_PA_compound_129 k_PA_140 (Nat.le_of_ble_eq_true rfl) (Nat.le_of_ble_eq_true rfl) (by first | rfl | assumption) (by rfl) (w_TE_giveNext hj hj3) (show 0 + 1 ≤ 2 * d + 13 by omega) (show 8 + (3 + 11) + 64 * (0) ≤ 64 * (2 * d + 13) by omega) (Nat.le_of_ble_eq_true rfl) (Nat.le_of_ble_eq_true rfl) (Nat.le_of_ble_eq_true rfl) rfl ?_
      refine x_hh (g_pw u N h p3 s3 w3 (g_gN A3 j j3)) rfl ?_
      refine x_iload d_PA_compound_132 rfl ?_
      refine x_istore d_PA_compound_134 (Nat.le_of_ble_eq_true rfl) ?_
      refine x_goto 65 d_PA_compound_136 (by decide) ?_
      refine x_lv [(0, .ref 2), (1, .int (nI op)), (2, .int (g_b2 (g_is (g_at u N) (g_fr (g_at u N) N p) (g_to (g_at u N) N p) [46]))), (3, .int (nI (g_nod s))), (4, .int (nI j3)), (5, .int (nI (cnt + 1))), (6, .int (nI j3))] (by rw [nI_succ cnt]; rfl) ?_
      refine x_wk [(0, .ref 2), (1, .int (nI op)), (2, .int (g_b2 (g_is (g_at u N) (g_fr (g_at u N) N p) (g_to (g_at u N) N p) [46]))), (3, .int (nI (g_nod s))), (4, .int (nI j3)), (5, .int (nI (cnt + 1)))] (by simp) ?_
      exact ih (cnt + 1) p3 s3 w3 j3 (g_gN A3 j j3) V3 (x3 :: acc) (by omega) (by rw [List.length_cons, hc]) (g_okgN ok3) b3.2.1 (by omega) hw3 hk3 (by omega) hj3 (g_CIs hs1 (by omega) hCI hRL3) ((by rw [← hR]; show _ = (if _ then _ else if _ then _ else _); simp only [List.length_cons, Nat.succ_eq_add_one, Nat.add_right_cancel_iff, show ∀ n : Nat, (n + 1 = 2) = (n = 1) from fun n => propext ⟨fun q => by omega, fun q => by omega⟩]) : (if (g_ky (g_at u N) N p3) = 10 then g_arL (g_at u N) N (g_T (g_at u N) u N d) p m (g_nx (g_at u N) N p3) s3 V3 (x3 :: acc) else if (g_ky (g_at u N) N p3) = 5 then .inr ((g_nx (g_at u N) N p3), s3, V3, (bif g_is (g_at u N) (g_fr (g_at u N) N p) (g_to (g_at u N) N p) [46] && decide (List.length (x3 :: acc) = 2) then g_lb 4 0 0 else g_lb 3 (g_fr (g_at u N) N p) (g_to (g_at u N) N p), g_arK (x3 :: acc)), 0) else .inl p3) = R)
set_option maxRecDepth 20000 in
theorem w_PA_compound {E : xR} {h : xH} {u : Nat → Nat} {N p s w d op : Nat} {A : Nat → Nat → Int32} {V : List (Nat × Nat)} (h2 : h 2 = .inr (1, [.ref 3, .ref 5])) (h1 : h 1 = .inl (1, 4096, .inl (fun i => g_sb (u i)))) (hu : ∀ i, u i < 256) (hN : N ≤ 4096) (hnt : ¬ x_tg E) (hT : g_CT E h u N d) (ok : g_okA A) (hp : p ≤ N) (hsp : s ≤ p) (hw : w ≤ 1000) (hV : s ≤ 1000 → g_VI A s w V) (hop : op + 1 + d = 101) (hk0 : (g_ky (g_at u N) N p) = 3) (h40 : g_at u N (g_bh (g_at u N) N p) = 40) : x_Mt E M_PA_compound (2 * d + 13) 1 6 [.ref 2, .int (nI op)] 52 (g_pw u N h p s w A) (g_Po u N h A s (g_arL (g_at u N) N (g_T (g_at u N) u N d) p 8 (g_nx (g_at u N) N (g_nx (g_at u N) N p)) (s + 1) V [])) := by
  obtain ⟨hft, htN, -, -⟩ := (g_tkb (u := u) hp).2.1 (show (g_tk (g_at u N) N p).1 ≠ 12 from fun z => absurd (hk0.symm.trans z) (by decide))
  have hft : (g_fr (g_at u N) N p) ≤ (g_to (g_at u N) N p) := hft
  have htN : (g_to (g_at u N) N p) ≤ N := htN
  have hk12 : ¬ (g_ky (g_at u N) N p) = 12 := by rw [hk0]; decide
  have hnb := g_nxb (u := u) hp hk12
  have hnb3 := hnb.2.2 (by omega)
  have hk4 := (g_nam40 h40).2
  have hnb1 := g_nxb (u := u) hnb.2.1 (by omega)
  have hok1 := g_okadd ok (i := g_nod s) 3 hft (by omega)
  refine x_Mt.of (by decide) (Nat.le_of_ble_eq_true rfl) ?_
  show x_W E M_PA_compound _ _ 52 (g_pw u N h p s w A) 0 [(0, .ref 2), (1, .int (nI op))] [] 0 0
  refine x_aload_n d_PA_compound_0 rfl rfl ?_
  refine x_get d_PA_compound_1 f_PA_12 (Nat.le_of_ble_eq_true rfl) (Nat.le_of_ble_eq_true rfl) (by first | rfl | assumption) (by rfl) ?_
  refine x_ldcS (i := 4) d_PA_compound_4 4 rfl ?_
  refine x_callV1Y d_PA_compound_6 k_PA_148 (Nat.le_of_ble_eq_true rfl) (Nat.le_of_ble_eq_true rfl) (by first | rfl | assumption) (by rfl) (w_SG_textIs (i := 4) (by decide) g_pw3 (g_pw1.trans h1) hu hN hft (by omega)) (show 4 + 1 ≤ 2 * d + 13 by omega) (show 8 + (3 + 11) + 64 * (4) ≤ 64 * (2 * d + 13) by omega) (Nat.le_of_ble_eq_true rfl) (Nat.le_of_ble_eq_true rfl) (Nat.le_of_ble_eq_true rfl) rfl ?_
  refine x_istore_n d_PA_compound_9 rfl (Nat.le_of_ble_eq_true rfl) ?_
  refine x_aload_n d_PA_compound_10 rfl rfl ?_
  refine x_iconst 3 d_PA_compound_11 (by decide) ?_
  refine x_callV1Y d_PA_compound_12 k_PA_137 (Nat.le_of_ble_eq_true rfl) (Nat.le_of_ble_eq_true rfl) (by first | rfl | assumption) (by rfl) (w_PA_addSymbol h2 (by omega)) (show 2 + 1 ≤ 2 * d + 13 by omega) (show 8 + (2 + 11) + 64 * (2) ≤ 64 * (2 * d + 13) by omega) (Nat.le_of_ble_eq_true rfl) (Nat.le_of_ble_eq_true rfl) (Nat.le_of_ble_eq_true rfl) rfl ?_
  refine x_istore_n d_PA_compound_15 rfl (Nat.le_of_ble_eq_true rfl) ?_
  refine x_aload_n d_PA_compound_16 rfl rfl ?_
  refine x_get d_PA_compound_17 f_PA_12 (Nat.le_of_ble_eq_true rfl) (Nat.le_of_ble_eq_true rfl) (by first | rfl | assumption) (by rfl) ?_
  refine x_callAdv h1 hu hN hok1 hp hk12 d_PA_compound_20 k_PA_56 (show 9 ≤ 2 * d + 13 by omega) (show 8 + 13 + 64 * 8 ≤ 64 * (2 * d + 13) by omega) (Nat.le_of_ble_eq_true rfl) (Nat.le_of_ble_eq_true rfl) (Nat.le_of_ble_eq_true rfl) rfl (fun c_20 => ?_) (fun c => absurd (hk4.symm.trans c) (by decide))
  refine x_aload_n d_PA_compound_23 rfl rfl ?_
  refine x_get d_PA_compound_24 f_PA_12 (Nat.le_of_ble_eq_true rfl) (Nat.le_of_ble_eq_true rfl) (by first | rfl | assumption) (by rfl) ?_
  refine x_gSN (i := 4) d_PA_compound_27 (by decide) s_PA_75 ?_
  refine x_callV1B d_PA_compound_30 k_PA_52 (Nat.le_of_ble_eq_true rfl) (Nat.le_of_ble_eq_true rfl) g_pw3 (by rfl) (w_SG_mustBe g_pw3 (by rw [hk4]; decide) (by decide)) (show 7 + 1 ≤ 2 * d + 13 by omega) (show 8 + (2 + 11) + 64 * (7) ≤ 64 * (2 * d + 13) by omega) (Nat.le_of_ble_eq_true rfl) (Nat.le_of_ble_eq_true rfl) (Nat.le_of_ble_eq_true rfl) rfl (fun c_30 => ?_) (fun c => absurd (show decide (g_sg (g_ky (g_at u N) N (g_nx (g_at u N) N p)) = 4) = true by rw [hk4]; rfl) (by rw [c]; decide))
  refine x_aload_n d_PA_compound_33 rfl rfl ?_
  refine x_get d_PA_compound_34 f_PA_12 (Nat.le_of_ble_eq_true rfl) (Nat.le_of_ble_eq_true rfl) (by first | rfl | assumption) (by rfl) ?_
  refine x_callAdv h1 hu hN hok1 hnb.2.1 (by rw [hk4]; decide) d_PA_compound_37 k_PA_56 (show 9 ≤ 2 * d + 13 by omega) (show 8 + 13 + 64 * 8 ≤ 64 * (2 * d + 13) by omega) (Nat.le_of_ble_eq_true rfl) (Nat.le_of_ble_eq_true rfl) (Nat.le_of_ble_eq_true rfl) rfl (fun c_37 => ?_) (fun c h' hx => g_Po_x (Or.inl (g_arL12 c)) hx)
  refine x_aload_n d_PA_compound_40 rfl rfl ?_
  refine x_sipush 999 d_PA_compound_41 (by decide) ?_
  refine x_iload_n d_PA_compound_44 rfl rfl ?_
  refine x_iconst 1 d_PA_compound_45 (by decide) ?_
  refine x_iadd d_PA_compound_46 ?_
  refine x_topi (nI (op + 1)) (nI_succ op).symm ?_
  refine x_callV2P d_PA_compound_47 k_PA_39 (Nat.le_of_ble_eq_true rfl) (Nat.le_of_ble_eq_true rfl) (by first | rfl | assumption) (by rfl) (hT 999 (g_nx (g_at u N) N (g_nx (g_at u N) N p)) (s + 1) w (op + 1) (g_addA A (g_nod s) 3 (nI (g_fr (g_at u N) N p)) (nI (g_to (g_at u N) N p))) V (by decide) hok1 hnb1.2.1 (by omega) hw (g_VIad hV) c_37 hop) (show 2 * d + 12 + 1 ≤ 2 * d + 13 by omega) (show 8 + (5 + 11) + 64 * (2 * d + 12) ≤ 64 * (2 * d + 13) by omega) (Nat.le_of_ble_eq_true rfl) (Nat.le_of_ble_eq_true rfl) (Nat.le_of_ble_eq_true rfl) rfl hnt (fun p3 s3 V3 x3 c3 A3 w3 j3 hr hk3 hj3 hw3 ok3 hRL3 => ?_) (fun q hd h' hx => g_Po_x (g_dd_bd hd (fun _ _ _ _ z => Or.inl (by rw [if_neg (by rw [z]; decide), if_neg (by rw [z]; decide)]))) hx)
  have b3 := g_Tb (u := u) d _ (g_nx (g_at u N) N (g_nx (g_at u N) N p)) (s + 1) V (show 999 ≤ 1200 by decide) hnb1.2.1 _ _ _ _ _ hr
  refine x_istore d_PA_compound_50 (Nat.le_of_ble_eq_true rfl) ?_
  refine x_aload_n d_PA_compound_52 rfl rfl ?_
  refine x_get d_PA_compound_53 f_PA_21 (Nat.le_of_ble_eq_true rfl) (Nat.le_of_ble_eq_true rfl) (by first | rfl | assumption) (by rfl) ?_
  refine x_iload_n d_PA_compound_56 rfl rfl ?_
  refine x_iload d_PA_compound_57 rfl ?_
  refine x_callV2Y d_PA_compound_59 k_PA_127 (Nat.le_of_ble_eq_true rfl) (Nat.le_of_ble_eq_true rfl) (by first | rfl | assumption) (by rfl) (w_TE_giveFirst (g_nodL s) hj3) (show 0 + 1 ≤ 2 * d + 13 by omega) (show 8 + (3 + 11) + 64 * (0) ≤ 64 * (2 * d + 13) by omega) (Nat.le_of_ble_eq_true rfl) (Nat.le_of_ble_eq_true rfl) (Nat.le_of_ble_eq_true rfl) rfl ?_
  refine x_hh (g_pw u N h p3 s3 w3 (g_gF A3 (g_nod s) j3)) rfl ?_
  refine x_iconst 1 d_PA_compound_62 (by decide) ?_
  refine x_istore d_PA_compound_63 (Nat.le_of_ble_eq_true rfl) ?_
  exact w_PA_cpLoop h2 h1 hu hN hnt hT hop (by omega) 7 1 p3 s3 w3 j3 (g_gF A3 (g_nod s) j3) V3 [x3] rfl rfl (g_okgF ok3) b3.2.1 (by omega) hw3 hk3 (by omega) hj3 (g_CI1 (by omega) hRL3) (Eq.symm (show (g_arL (g_at u N) N (g_T (g_at u N) u N d) p 8 (g_nx (g_at u N) N (g_nx (g_at u N) N p)) (s + 1) V []) = (if (g_ky (g_at u N) N p3) = 10 then g_arL (g_at u N) N (g_T (g_at u N) u N d) p 7 (g_nx (g_at u N) N p3) s3 V3 [x3] else if (g_ky (g_at u N) N p3) = 5 then .inr ((g_nx (g_at u N) N p3), s3, V3, (bif g_is (g_at u N) (g_fr (g_at u N) N p) (g_to (g_at u N) N p) [46] && decide (List.length [x3] = 2) then g_lb 4 0 0 else g_lb 3 (g_fr (g_at u N) N p) (g_to (g_at u N) N p), g_arK [x3]), 0) else .inl p3) by rw [g_arL, hr]; rfl))
