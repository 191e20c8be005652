theorem g_ltI {a b : Nat} (ha : a < 2 ^ 31) (hb : b < 2 ^ 31) : nI a < nI b ↔ a < b := by
  constructor
  · intro h
    rcases Nat.lt_or_ge a b with q | q
    · exact q
    · exact absurd h (nI_nlt q ha)
  · intro h
    exact nI_lt h hb
theorem d_RD_named_0 : decode M_RD_named.2.1 0 = .ok (.aload_n 0, 1) := by decide +kernel
theorem d_RD_named_1 : decode M_RD_named.2.1 1 = .ok (.aload_n 0, 1) := by decide +kernel
theorem d_RD_named_2 : decode M_RD_named.2.1 2 = .ok (.getfield 96, 3) := by decide +kernel
theorem d_RD_named_5 : decode M_RD_named.2.1 5 = .ok (.invokevirtual 148, 3) := by decide +kernel
theorem d_RD_named_8 : decode M_RD_named.2.1 8 = .ok (.bipush 40, 2) := by decide +kernel
theorem d_RD_named_10 : decode M_RD_named.2.1 10 = .ok (.if_icmp .ne 8, 3) := by decide +kernel
theorem d_RD_named_13 : decode M_RD_named.2.1 13 = .ok (.aload_n 0, 1) := by decide +kernel
theorem d_RD_named_14 : decode M_RD_named.2.1 14 = .ok (.invokevirtual 246, 3) := by decide +kernel
theorem d_RD_named_17 : decode M_RD_named.2.1 17 = .ok (.ireturn, 1) := by decide +kernel
theorem d_RD_named_18 : decode M_RD_named.2.1 18 = .ok (.aload_n 0, 1) := by decide +kernel
theorem d_RD_named_19 : decode M_RD_named.2.1 19 = .ok (.getfield 139, 3) := by decide +kernel
theorem d_RD_named_22 : decode M_RD_named.2.1 22 = .ok (.iconst 1, 1) := by decide +kernel
theorem d_RD_named_23 : decode M_RD_named.2.1 23 = .ok (.if_icmp .ne 68, 3) := by decide +kernel
theorem d_RD_named_26 : decode M_RD_named.2.1 26 = .ok (.aload_n 0, 1) := by decide +kernel
theorem d_RD_named_27 : decode M_RD_named.2.1 27 = .ok (.getfield 68, 3) := by decide +kernel
theorem d_RD_named_30 : decode M_RD_named.2.1 30 = .ok (.iconst 0, 1) := by decide +kernel
theorem d_RD_named_31 : decode M_RD_named.2.1 31 = .ok (.baload, 1) := by decide +kernel
theorem d_RD_named_32 : decode M_RD_named.2.1 32 = .ok (.bipush 45, 2) := by decide +kernel
theorem d_RD_named_34 : decode M_RD_named.2.1 34 = .ok (.if_icmp .ne 57, 3) := by decide +kernel
theorem d_RD_named_37 : decode M_RD_named.2.1 37 = .ok (.aload_n 0, 1) := by decide +kernel
theorem d_RD_named_38 : decode M_RD_named.2.1 38 = .ok (.aload_n 0, 1) := by decide +kernel
theorem d_RD_named_39 : decode M_RD_named.2.1 39 = .ok (.getfield 96, 3) := by decide +kernel
theorem d_RD_named_42 : decode M_RD_named.2.1 42 = .ok (.invokevirtual 148, 3) := by decide +kernel
theorem d_RD_named_45 : decode M_RD_named.2.1 45 = .ok (.invokestatic 151, 3) := by decide +kernel
theorem d_RD_named_48 : decode M_RD_named.2.1 48 = .ok (.ifCond .eq 43, 3) := by decide +kernel
theorem d_RD_named_51 : decode M_RD_named.2.1 51 = .ok (.aload_n 0, 1) := by decide +kernel
theorem d_RD_named_52 : decode M_RD_named.2.1 52 = .ok (.invokevirtual 113, 3) := by decide +kernel
theorem d_RD_named_55 : decode M_RD_named.2.1 55 = .ok (.aload_n 0, 1) := by decide +kernel
theorem d_RD_named_56 : decode M_RD_named.2.1 56 = .ok (.getfield 123, 3) := by decide +kernel
theorem d_RD_named_59 : decode M_RD_named.2.1 59 = .ok (.iconst 2, 1) := by decide +kernel
theorem d_RD_named_60 : decode M_RD_named.2.1 60 = .ok (.if_icmp .eq 12, 3) := by decide +kernel
theorem d_RD_named_63 : decode M_RD_named.2.1 63 = .ok (.aload_n 0, 1) := by decide +kernel
theorem d_RD_named_64 : decode M_RD_named.2.1 64 = .ok (.aload_n 0, 1) := by decide +kernel
theorem d_RD_named_65 : decode M_RD_named.2.1 65 = .ok (.getfield 116, 3) := by decide +kernel
theorem d_RD_named_68 : decode M_RD_named.2.1 68 = .ok (.invokevirtual 126, 3) := by decide +kernel
theorem d_RD_named_71 : decode M_RD_named.2.1 71 = .ok (.athrow, 1) := by decide +kernel
theorem d_RD_named_72 : decode M_RD_named.2.1 72 = .ok (.aload_n 0, 1) := by decide +kernel
theorem d_RD_named_73 : decode M_RD_named.2.1 73 = .ok (.getfield 81, 3) := by decide +kernel
theorem d_RD_named_76 : decode M_RD_named.2.1 76 = .ok (.aload_n 0, 1) := by decide +kernel
theorem d_RD_named_77 : decode M_RD_named.2.1 77 = .ok (.getfield 174, 3) := by decide +kernel
theorem d_RD_named_80 : decode M_RD_named.2.1 80 = .ok (.lneg, 1) := by decide +kernel
theorem d_RD_named_81 : decode M_RD_named.2.1 81 = .ok (.invokevirtual 228, 3) := by decide +kernel
theorem d_RD_named_84 : decode M_RD_named.2.1 84 = .ok (.istore_n 2, 1) := by decide +kernel
theorem d_RD_named_85 : decode M_RD_named.2.1 85 = .ok (.aload_n 0, 1) := by decide +kernel
theorem d_RD_named_86 : decode M_RD_named.2.1 86 = .ok (.invokevirtual 113, 3) := by decide +kernel
theorem d_RD_named_89 : decode M_RD_named.2.1 89 = .ok (.iload_n 2, 1) := by decide +kernel
theorem d_RD_named_90 : decode M_RD_named.2.1 90 = .ok (.ireturn, 1) := by decide +kernel
theorem d_RD_named_91 : decode M_RD_named.2.1 91 = .ok (.aload_n 0, 1) := by decide +kernel
theorem d_RD_named_92 : decode M_RD_named.2.1 92 = .ok (.invokevirtual 201, 3) := by decide +kernel
theorem d_RD_named_95 : decode M_RD_named.2.1 95 = .ok (.istore_n 2, 1) := by decide +kernel
theorem d_RD_named_96 : decode M_RD_named.2.1 96 = .ok (.aload_n 0, 1) := by decide +kernel
theorem d_RD_named_97 : decode M_RD_named.2.1 97 = .ok (.invokevirtual 212, 3) := by decide +kernel
theorem d_RD_named_100 : decode M_RD_named.2.1 100 = .ok (.istore_n 3, 1) := by decide +kernel
theorem d_RD_named_101 : decode M_RD_named.2.1 101 = .ok (.aload_n 0, 1) := by decide +kernel
theorem d_RD_named_102 : decode M_RD_named.2.1 102 = .ok (.invokevirtual 113, 3) := by decide +kernel
theorem d_RD_named_105 : decode M_RD_named.2.1 105 = .ok (.iload_n 2, 1) := by decide +kernel
theorem d_RD_named_106 : decode M_RD_named.2.1 106 = .ok (.iconst (-1), 1) := by decide +kernel
theorem d_RD_named_107 : decode M_RD_named.2.1 107 = .ok (.if_icmp .eq 15, 3) := by decide +kernel
theorem d_RD_named_110 : decode M_RD_named.2.1 110 = .ok (.iload_n 2, 1) := by decide +kernel
theorem d_RD_named_111 : decode M_RD_named.2.1 111 = .ok (.iload_n 1, 1) := by decide +kernel
theorem d_RD_named_112 : decode M_RD_named.2.1 112 = .ok (.if_icmp .gt 10, 3) := by decide +kernel
theorem d_RD_named_115 : decode M_RD_named.2.1 115 = .ok (.aload_n 0, 1) := by decide +kernel
theorem d_RD_named_116 : decode M_RD_named.2.1 116 = .ok (.invokevirtual 248, 3) := by decide +kernel
theorem d_RD_named_119 : decode M_RD_named.2.1 119 = .ok (.ifCond .ne 12, 3) := by decide +kernel
theorem d_RD_named_122 : decode M_RD_named.2.1 122 = .ok (.aload_n 0, 1) := by decide +kernel
theorem d_RD_named_123 : decode M_RD_named.2.1 123 = .ok (.getfield 81, 3) := by decide +kernel
theorem d_RD_named_126 : decode M_RD_named.2.1 126 = .ok (.iload_n 3, 1) := by decide +kernel
theorem d_RD_named_127 : decode M_RD_named.2.1 127 = .ok (.invokevirtual 252, 3) := by decide +kernel
theorem d_RD_named_130 : decode M_RD_named.2.1 130 = .ok (.ireturn, 1) := by decide +kernel
theorem d_RD_named_131 : decode M_RD_named.2.1 131 = .ok (.aload_n 0, 1) := by decide +kernel
theorem d_RD_named_132 : decode M_RD_named.2.1 132 = .ok (.getfield 102, 3) := by decide +kernel
theorem d_RD_named_135 : decode M_RD_named.2.1 135 = .ok (.istore 4, 2) := by decide +kernel
theorem d_RD_named_137 : decode M_RD_named.2.1 137 = .ok (.aload_n 0, 1) := by decide +kernel
theorem d_RD_named_138 : decode M_RD_named.2.1 138 = .ok (.iload_n 2, 1) := by decide +kernel
theorem d_RD_named_139 : decode M_RD_named.2.1 139 = .ok (.invokevirtual 119, 3) := by decide +kernel
theorem d_RD_named_142 : decode M_RD_named.2.1 142 = .ok (.istore 5, 2) := by decide +kernel
theorem d_RD_named_144 : decode M_RD_named.2.1 144 = .ok (.aload_n 0, 1) := by decide +kernel
theorem d_RD_named_145 : decode M_RD_named.2.1 145 = .ok (.getfield 72, 3) := by decide +kernel
theorem d_RD_named_148 : decode M_RD_named.2.1 148 = .ok (.aload_n 0, 1) := by decide +kernel
theorem d_RD_named_149 : decode M_RD_named.2.1 149 = .ok (.dup, 1) := by decide +kernel
theorem d_RD_named_150 : decode M_RD_named.2.1 150 = .ok (.getfield 102, 3) := by decide +kernel
theorem d_RD_named_153 : decode M_RD_named.2.1 153 = .ok (.dup_x1, 1) := by decide +kernel
theorem d_RD_named_154 : decode M_RD_named.2.1 154 = .ok (.iconst 1, 1) := by decide +kernel
theorem d_RD_named_155 : decode M_RD_named.2.1 155 = .ok (.iadd, 1) := by decide +kernel
theorem d_RD_named_156 : decode M_RD_named.2.1 156 = .ok (.putfield 102, 3) := by decide +kernel
theorem d_RD_named_159 : decode M_RD_named.2.1 159 = .ok (.iload 5, 2) := by decide +kernel
theorem d_RD_named_161 : decode M_RD_named.2.1 161 = .ok (.iastore, 1) := by decide +kernel
theorem d_RD_named_162 : decode M_RD_named.2.1 162 = .ok (.aload_n 0, 1) := by decide +kernel
theorem d_RD_named_163 : decode M_RD_named.2.1 163 = .ok (.getfield 81, 3) := by decide +kernel
theorem d_RD_named_166 : decode M_RD_named.2.1 166 = .ok (.iload_n 3, 1) := by decide +kernel
theorem d_RD_named_167 : decode M_RD_named.2.1 167 = .ok (.aload_n 0, 1) := by decide +kernel
theorem d_RD_named_168 : decode M_RD_named.2.1 168 = .ok (.getfield 72, 3) := by decide +kernel
theorem d_RD_named_171 : decode M_RD_named.2.1 171 = .ok (.iload 4, 2) := by decide +kernel
theorem d_RD_named_173 : decode M_RD_named.2.1 173 = .ok (.iconst 1, 1) := by decide +kernel
theorem d_RD_named_174 : decode M_RD_named.2.1 174 = .ok (.invokevirtual 215, 3) := by decide +kernel
theorem d_RD_named_177 : decode M_RD_named.2.1 177 = .ok (.istore 6, 2) := by decide +kernel
theorem d_RD_named_179 : decode M_RD_named.2.1 179 = .ok (.aload_n 0, 1) := by decide +kernel
theorem d_RD_named_180 : decode M_RD_named.2.1 180 = .ok (.iload 4, 2) := by decide +kernel
theorem d_RD_named_182 : decode M_RD_named.2.1 182 = .ok (.putfield 102, 3) := by decide +kernel
theorem d_RD_named_185 : decode M_RD_named.2.1 185 = .ok (.aload_n 0, 1) := by decide +kernel
theorem d_RD_named_186 : decode M_RD_named.2.1 186 = .ok (.iload_n 2, 1) := by decide +kernel
theorem d_RD_named_187 : decode M_RD_named.2.1 187 = .ok (.putfield 204, 3) := by decide +kernel
theorem d_RD_named_190 : decode M_RD_named.2.1 190 = .ok (.iload 6, 2) := by decide +kernel
theorem d_RD_named_192 : decode M_RD_named.2.1 192 = .ok (.ireturn, 1) := by decide +kernel
theorem g_pxR : ∀ o, o = 4 ∨ o = 22 → g_rkV o = nI (g_rk o) ∧ g_rt o = g_rk o ∧ g_rk o ≤ 900 ∧ o ≠ 23 := by
  intro o h
  rcases h with rfl | rfl <;> decide
theorem g_pxK {u : Nat → Nat} {N p : Nat} (hu : ∀ i, u i < 256) (hp : p ≤ N) (hk : g_ky (g_at u N) N p = 3) : g_px (g_at u N) N p = 4 ∨ g_px (g_at u N) N p = 22 ∨ g_px (g_at u N) N p = 23 := by
  rw [g_pxW hu hp hk]
  cases decide (g_ut u (g_fr (g_at u N) N p) (g_to (g_at u N) N p) = g_tx 4) with
  | true => exact Or.inl rfl
  | false =>
    cases decide (g_ut u (g_fr (g_at u N) N p) (g_to (g_at u N) N p) = g_tx 22) with
    | true => exact Or.inr (Or.inl rfl)
    | false => exact Or.inr (Or.inr rfl)
set_option maxRecDepth 20000 in
theorem w_RD_named91 {E : xR} {h : xH} {u : Nat → Nat} {N d : Nat} (h22 : h 22 = .inl (1, 4096, .inl (fun i => g_sb (u i)))) (hu : ∀ i, u i < 256) (hN : N ≤ 4096) (hB : g_TB2 h) (hM : g_MC E h u N d) {most p s o t0 z q : Nat} {T : List (List Int32)} {Na B : Nat → Nat → Int32} {Nm : Nat → Int64} {St Vr Kp : Nat → Int32} {nm : Int64} {pl kn : Int32} {Wd : Nat → Int32} {V : List (Nat × Nat)} {R : g_Rs} (hp : p ≤ N) (hs : s ≤ p) (hz : z ≤ s) (ht0 : t0 + q ≤ z) (hV : V.length ≤ s) (ho : o + d = 100) (hNI : g_NI T Na p) (hMV : g_MV u T Vr V) (hm : most ≤ 1200) (hTO : g_TO u N p (nI (g_bh (g_at u N) N p)) (nI (g_ut u (g_fr (g_at u N) N p) (g_to (g_at u N) N p)).length) nm Wd) (hky : (g_ky (g_at u N) N p) = 3) (hR : (if most < g_rk (g_px (g_at u N) N p) ∨ g_bg (g_at u N) N (g_nx (g_at u N) N p) = false then .inr ((g_nx (g_at u N) N p), s + 1, V, (bif g_is (g_at u N) (g_fr (g_at u N) N p) (g_to (g_at u N) N p) [91, 93] then g_lb 5 0 0 else g_lb 3 (g_fr (g_at u N) N p) (g_to (g_at u N) N p), g_nil), 0) else g_bd ((g_T (g_at u N) u N d) (g_rt (g_px (g_at u N) N p)) (g_nx (g_at u N) N p) (s + 1) V) fun p2 s2 V2 x _ => .inr (p2, s2, V2, (g_lb 3 (g_fr (g_at u N) N p) (g_to (g_at u N) N p), g_nd x g_nil), g_rk (g_px (g_at u N) N p))) = R) : x_W E M_RD_named (x_room (4 * d + 14) 0 0) (g_MK u N h o t0 pl kn T B Nm z q St s R) 52 (g_mw h N T Na B Nm z q St Vr Kp (nI p) (nI (g_bh (g_at u N) N p)) (nI (g_ky (g_at u N) N p)) (nI o) nm (nI (g_ut u (g_fr (g_at u N) N p) (g_to (g_at u N) N p)).length) (nI t0) pl (nI V.length) kn (nI 0) Wd) 91 [(0, .ref 36), (1, .int (nI most))] [] 0 0 := by
  obtain ⟨-, hw⟩ := hTO.2.2.1 (Or.inr hky)
  have htk := g_tkP hu hp (Or.inr (Or.inl hky))
  have hnb := g_nxb (u := u) hp (by rw [hky]; decide)
  have hnb2 := hnb.2.2 (by rw [hky]; decide)
  have hnib := g_NIb hNI
  have hpk := g_pxK hu hp hky
  obtain ⟨eL1, eL2, eL3⟩ := g_lbT (k := 3) hN (by decide) hp (Or.inr (Or.inl hky))
  have hkx := g_nkT T (g_ut u (g_fr (g_at u N) N p) (g_to (g_at u N) N p))
  have hkL := g_ntL _ _ _ hkx
  have hatom : ∀ (Na1 : Nat → Nat → Int32) (bh2 lt2 : Int32) (nm2 : Int64) (Wd2 : Nat → Int32), g_NI (g_nT T (g_ut u (g_fr (g_at u N) N p) (g_to (g_at u N) N p))) Na1 (g_nx (g_at u N) N p) → g_TO u N (g_nx (g_at u N) N p) bh2 lt2 nm2 Wd2 → (.inr ((g_nx (g_at u N) N p), s + 1, V, (bif g_is (g_at u N) (g_fr (g_at u N) N p) (g_to (g_at u N) N p) [91, 93] then g_lb 5 0 0 else g_lb 3 (g_fr (g_at u N) N p) (g_to (g_at u N) N p), g_nil), 0) : g_Rs) = R → x_W E M_RD_named (x_room (4 * d + 14) 0 0) (g_MK u N h o t0 pl kn T B Nm z q St s R) 52 (g_mw h N (g_nT T (g_ut u (g_fr (g_at u N) N p) (g_to (g_at u N) N p))) Na1 B Nm z q St Vr Kp (nI (g_nx (g_at u N) N p)) bh2 (nI (g_ky (g_at u N) N (g_nx (g_at u N) N p))) (nI o) nm2 lt2 (nI t0) pl (nI V.length) kn (nI 0) Wd2) 122 [(0, .ref 36), (1, .int (nI most)), (2, .int (g_rkV (g_px (g_at u N) N p))), (3, .int (nI (g_nk T (g_ut u (g_fr (g_at u N) N p) (g_to (g_at u N) N p)))))] [] 0 0 := by
    intro Na1 bh2 lt2 nm2 Wd2 hNI1 hTO2 hR
    have hMV1 : g_MV u (g_nT T (g_ut u (g_fr (g_at u N) N p) (g_to (g_at u N) N p))) Vr V := g_MV_mv (fun _ _ y => g_nTm y) hMV
    have hnib1 := g_NIb hNI1
    have hlab : ((bif g_is (g_at u N) (g_fr (g_at u N) N p) (g_to (g_at u N) N p) [91, 93] then g_lb 5 0 0 else g_lb 3 (g_fr (g_at u N) N p) (g_to (g_at u N) N p)) % 8 = 3 ∧ g_nt (g_nT T (g_ut u (g_fr (g_at u N) N p) (g_to (g_at u N) N p))) (g_nk T (g_ut u (g_fr (g_at u N) N p) (g_to (g_at u N) N p))) = some (g_ut u (g_fR (bif g_is (g_at u N) (g_fr (g_at u N) N p) (g_to (g_at u N) N p) [91, 93] then g_lb 5 0 0 else g_lb 3 (g_fr (g_at u N) N p) (g_to (g_at u N) N p))) (g_tO (bif g_is (g_at u N) (g_fr (g_at u N) N p) (g_to (g_at u N) N p) [91, 93] then g_lb 5 0 0 else g_lb 3 (g_fr (g_at u N) N p) (g_to (g_at u N) N p))))) ∨ ((bif g_is (g_at u N) (g_fr (g_at u N) N p) (g_to (g_at u N) N p) [91, 93] then g_lb 5 0 0 else g_lb 3 (g_fr (g_at u N) N p) (g_to (g_at u N) N p)) % 8 = 5 ∧ g_nt (g_nT T (g_ut u (g_fr (g_at u N) N p) (g_to (g_at u N) N p))) (g_nk T (g_ut u (g_fr (g_at u N) N p) (g_to (g_at u N) N p))) = some [91, 93]) := by
      cases hb : g_is (g_at u N) (g_fr (g_at u N) N p) (g_to (g_at u N) N p) [91, 93] with
      | true =>
        rw [g_isW hu hp hky (by decide)] at hb
        exact Or.inr ⟨by show g_lb 5 0 0 % 8 = 5; decide, by rw [hkx, of_decide_eq_true hb]⟩
      | false => exact Or.inl ⟨by show g_lb 3 _ _ % 8 = 3; exact eL1, by show _ = some (g_ut u (g_fR (g_lb 3 (g_fr (g_at u N) N p) (g_to (g_at u N) N p))) (g_tO (g_lb 3 (g_fr (g_at u N) N p) (g_to (g_at u N) N p)))); rw [eL2, eL3]; exact hkx⟩
    refine x_aload_n d_RD_named_122 rfl rfl ?_
    refine x_get d_RD_named_123 f_RD_81 (Nat.le_of_ble_eq_true rfl) (Nat.le_of_ble_eq_true rfl) (by first | rfl | assumption) (by rfl) ?_
    refine x_iload_n d_RD_named_126 rfl rfl ?_
    refine x_same (h' := (g_ew (g_mw h N (g_nT T (g_ut u (g_fr (g_at u N) N p) (g_to (g_at u N) N p))) Na1 B Nm z q St Vr Kp (nI (g_nx (g_at u N) N p)) bh2 (nI (g_ky (g_at u N) N (g_nx (g_at u N) N p))) (nI o) nm2 lt2 (nI t0) pl (nI V.length) kn (nI 0) Wd2) B Nm (nI z) (nI q))) (x_pt rfl rfl rfl rfl rfl rfl rfl rfl rfl rfl rfl rfl rfl rfl rfl rfl rfl rfl rfl rfl rfl rfl rfl rfl rfl rfl rfl rfl rfl rfl rfl rfl rfl rfl rfl rfl rfl rfl rfl rfl rfl rfl rfl rfl rfl rfl rfl rfl rfl rfl rfl rfl) ?_
    refine x_callV1Y d_RD_named_127 k_RD_252 (Nat.le_of_ble_eq_true rfl) (Nat.le_of_ble_eq_true rfl) (by first | rfl | assumption) (by rfl) (w_TS_atom (h := (g_mw h N (g_nT T (g_ut u (g_fr (g_at u N) N p) (g_to (g_at u N) N p))) Na1 B Nm z q St Vr Kp (nI (g_nx (g_at u N) N p)) bh2 (nI (g_ky (g_at u N) N (g_nx (g_at u N) N p))) (nI o) nm2 lt2 (nI t0) pl (nI V.length) kn (nI 0) Wd2)) (z := z) (q := nI q) (by omega)) (show 0 + 1 ≤ 4 * d + 14 by omega) (show 8 + (2 + 11) + 64 * (0) ≤ 64 * (4 * d + 14) by omega) (Nat.le_of_ble_eq_true rfl) (Nat.le_of_ble_eq_true rfl) (Nat.le_of_ble_eq_true rfl) rfl ?_
    refine x_same (h' := (g_mw h N (g_nT T (g_ut u (g_fr (g_at u N) N p) (g_to (g_at u N) N p))) Na1 (g_b3 B z 2 (nI (g_nk T (g_ut u (g_fr (g_at u N) N p) (g_to (g_at u N) N p)))) 0) Nm (z + 1) q St Vr Kp (nI (g_nx (g_at u N) N p)) bh2 (nI (g_ky (g_at u N) N (g_nx (g_at u N) N p))) (nI o) nm2 lt2 (nI t0) pl (nI V.length) kn (nI 0) Wd2)) (x_pt rfl rfl rfl rfl rfl rfl rfl rfl rfl rfl rfl rfl rfl rfl rfl rfl rfl rfl rfl rfl rfl rfl rfl rfl rfl rfl rfl rfl rfl rfl rfl rfl rfl rfl rfl rfl rfl rfl rfl rfl rfl rfl rfl rfl rfl rfl rfl rfl rfl rfl rfl rfl) ?_
    exact x_ireturn d_RD_named_130 rfl rfl (g_MKi hR.symm ⟨z, (g_nT T (g_ut u (g_fr (g_at u N) N p) (g_to (g_at u N) N p))), Na1, (g_b3 B z 2 (nI (g_nk T (g_ut u (g_fr (g_at u N) N p) (g_to (g_at u N) N p)))) 0), Nm, z + 1, q, St, Vr, Kp, bh2, lt2, nm2, Wd2, rfl, hNI1, hMV1, hTO2, g_E1 (fun _ _ y => g_nTm y), by omega, by omega, fun _ _ => rfl, g_Ta (by omega) hlab, rfl⟩)
  refine x_aload_n d_RD_named_91 rfl rfl ?_
  refine x_callV0Y d_RD_named_92 k_RD_201 (Nat.le_of_ble_eq_true rfl) (Nat.le_of_ble_eq_true rfl) (by first | rfl | assumption) (by rfl) (w_RD_prefix hTO hu hp hN) (show 5 + 1 ≤ 4 * d + 14 by omega) (show 8 + (1 + 11) + 64 * (5) ≤ 64 * (4 * d + 14) by omega) (Nat.le_of_ble_eq_true rfl) (Nat.le_of_ble_eq_true rfl) (Nat.le_of_ble_eq_true rfl) rfl ?_
  refine x_istore_n d_RD_named_95 rfl (Nat.le_of_ble_eq_true rfl) ?_
  refine x_aload_n d_RD_named_96 rfl rfl ?_
  refine x_callV0E d_RD_named_97 k_RD_212 (Nat.le_of_ble_eq_true rfl) (Nat.le_of_ble_eq_true rfl) (by first | rfl | assumption) (by rfl) (w_RD_name (x := (g_ut u (g_fr (g_at u N) N p) (g_to (g_at u N) N p))) hNI.1 (by omega) (by omega) (by omega) (g_utB hu) hw) (show 2 + 1 ≤ 4 * d + 14 by omega) (show 8 + (1 + 11) + 64 * (2) ≤ 64 * (4 * d + 14) by omega) (Nat.le_of_ble_eq_true rfl) (Nat.le_of_ble_eq_true rfl) (Nat.le_of_ble_eq_true rfl) rfl (fun v1 hh1 hp1 => ?_)
  obtain ⟨rfl, Na1, hA1, rfl⟩ := hp1
  have hNI1 : g_NI (g_nT T (g_ut u (g_fr (g_at u N) N p) (g_to (g_at u N) N p))) Na1 (g_nx (g_at u N) N p) := g_NIn hNI hA1 (by omega) (by omega)
  have hnib1 := g_NIb hNI1
  have hMV1 : g_MV u (g_nT T (g_ut u (g_fr (g_at u N) N p) (g_to (g_at u N) N p))) Vr V := g_MV_mv (fun _ _ y => g_nTm y) hMV
  refine x_istore_n d_RD_named_100 rfl (Nat.le_of_ble_eq_true rfl) ?_
  refine x_aload_n d_RD_named_101 rfl rfl ?_
  refine x_callV0E d_RD_named_102 k_RD_113 (Nat.le_of_ble_eq_true rfl) (Nat.le_of_ble_eq_true rfl) (by first | rfl | assumption) (by rfl) (w_RD_scan (p := (g_nx (g_at u N) N p)) h22 hu hN (g_bhN hu ⟨hp, (by rw [hky]; decide)⟩) rfl) (show 6 + 1 ≤ 4 * d + 14 by omega) (show 8 + (4 + 11) + 64 * (6) ≤ 64 * (4 * d + 14) by omega) (Nat.le_of_ble_eq_true rfl) (Nat.le_of_ble_eq_true rfl) (Nat.le_of_ble_eq_true rfl) rfl (fun v1 hh1 hp1 => ?_)
  obtain ⟨rfl, bh2, lt2, nm2, Wd2, hTO2, rfl⟩ := hp1
  refine x_same (h' := (g_mw h N (g_nT T (g_ut u (g_fr (g_at u N) N p) (g_to (g_at u N) N p))) Na1 B Nm z q St Vr Kp (nI (g_nx (g_at u N) N p)) bh2 (nI (g_ky (g_at u N) N (g_nx (g_at u N) N p))) (nI o) nm2 lt2 (nI t0) pl (nI V.length) kn (nI 0) Wd2)) (fun _ _ => rfl) ?_
  refine x_iload_n d_RD_named_105 rfl rfl ?_
  refine x_iconst (-1) d_RD_named_106 (by decide) ?_
  refine x_icmp_eq 122 d_RD_named_107 (by decide) (fun c_107 => ?_) (fun c_107 => ?_)
  · exact hatom Na1 bh2 lt2 nm2 Wd2 hNI1 hTO2 (by rw [← hR, if_pos (Or.inl (by rw [(g_rkN (o := (g_px (g_at u N) N p)) g_nmL).mp c_107]; show most < 9999; omega))])
  · have n23 : ¬ (g_px (g_at u N) N p) = 23 := fun y => c_107 ((g_rkN (o := (g_px (g_at u N) N p)) g_nmL).mpr y)
    have hx4 := g_pxR (g_px (g_at u N) N p) (by omega)
    refine x_iload_n d_RD_named_110 rfl rfl ?_
    refine x_iload_n d_RD_named_111 rfl rfl ?_
    refine x_icmp_gt 122 d_RD_named_112 (by decide) (fun c_112 => ?_) (fun c_112 => ?_)
    · exact hatom Na1 bh2 lt2 nm2 Wd2 hNI1 hTO2 (by rw [← hR, if_pos (Or.inl (by rw [hx4.1] at c_112; exact (g_ltI (by omega) (by omega)).mp c_112))])
    · refine x_aload_n d_RD_named_115 rfl rfl ?_
      refine x_callV0Y d_RD_named_116 k_RD_248 (Nat.le_of_ble_eq_true rfl) (Nat.le_of_ble_eq_true rfl) (by first | rfl | assumption) (by rfl) (w_RD_begins hTO2 hB hu hnb.2.1 hN) (show 6 + 1 ≤ 4 * d + 14 by omega) (show 8 + (1 + 11) + 64 * (6) ≤ 64 * (4 * d + 14) by omega) (Nat.le_of_ble_eq_true rfl) (Nat.le_of_ble_eq_true rfl) (Nat.le_of_ble_eq_true rfl) rfl ?_
      refine x_if_ne 131 d_RD_named_119 (by decide) (fun c_119 => ?_) (fun c_119 => ?_)
      · have hle : g_rk (g_px (g_at u N) N p) ≤ most := by
          rcases Nat.lt_or_ge most (g_rk (g_px (g_at u N) N p)) with y | y
          · exfalso
            apply c_112
            rw [hx4.1]
            exact (g_ltI (by omega) (by omega)).mpr y
          · exact y
        have hRx : ∀ x, g_de u N ((g_T (g_at u N) u N d) (g_rk (g_px (g_at u N) N p)) (g_nx (g_at u N) N p) (s + 1) V) x → g_de u N R x := by
          intro x hd
          cases hbg : g_bg (g_at u N) N (g_nx (g_at u N) N p) with
          | true =>
            rw [if_neg (by rw [hbg]; simp; omega), hx4.2.1] at hR
            rw [← hR]
            exact g_de_bd hd (fun s V t c h8 => Or.inr ⟨s, V, _, _, rfl, h8⟩)
          | false =>
            have h8 : (g_ky (g_at u N) N (g_nx (g_at u N) N p)) = 8 := by
              have hb := g_b2n c_119
              unfold g_mb at hb
              rw [hbg, Bool.or_false] at hb
              exact of_decide_eq_true hb
            rw [g_T8 h8] at hd
            rcases hd with hd | ⟨_, _, _, _, hd, -⟩
            · cases hd
              rw [if_pos (Or.inr hbg)] at hR
              exact Or.inr ⟨_, _, _, _, hR.symm, h8⟩
            · cases hd
        refine x_aload_n d_RD_named_131 rfl rfl ?_
        refine x_get d_RD_named_132 f_RD_102 (Nat.le_of_ble_eq_true rfl) (Nat.le_of_ble_eq_true rfl) (by first | rfl | assumption) (by rfl) ?_
        refine x_istore d_RD_named_135 (Nat.le_of_ble_eq_true rfl) ?_
        refine x_aload_n d_RD_named_137 rfl rfl ?_
        refine x_iload_n d_RD_named_138 rfl rfl ?_
        refine x_topi (nI (g_rk (g_px (g_at u N) N p))) hx4.1 ?_
        refine x_callV1M d_RD_named_139 k_RD_119 (Nat.le_of_ble_eq_true rfl) (Nat.le_of_ble_eq_true rfl) (by first | rfl | assumption) (by rfl) (hM (g_rk (g_px (g_at u N) N p)) (g_nx (g_at u N) N p) (s + 1) o t0 z q (g_nT T (g_ut u (g_fr (g_at u N) N p) (g_to (g_at u N) N p))) Na1 B Nm St Vr Kp bh2 lt2 nm2 pl kn (nI 0) Wd2 V (by omega) hnb.2.1 (by omega) (by omega) ht0 (by omega) ho hNI1 hMV1 hTO2) (show 4 * d + 12 + 1 ≤ 4 * d + 14 by omega) (show 8 + (9 + 11) + 64 * (4 * d + 12) ≤ 64 * (4 * d + 14) by omega) (Nat.le_of_ble_eq_true rfl) (Nat.le_of_ble_eq_true rfl) (Nat.le_of_ble_eq_true rfl) rfl (fun p3 s3 V3 t3 c3 v3 hh3 hr3 hR3 => ?_) (fun x h' hd hx => g_MKx (hRx x hd) hx)
        obtain ⟨r3, T3, Na3, B3, Nm3, z3, q3, St3, Vr3, Kp3, bh3, lt3, nm3, Wd3, rfl, hNI3, hMV3, hTO3, hE3, hz3, hq3, hS3, hT3, rfl⟩ := hR3
        have b3 := g_Tb (u := u) d (g_rk (g_px (g_at u N) N p)) (g_nx (g_at u N) N p) (s + 1) V (by omega) hnb.2.1 _ _ _ _ _ hr3
        obtain ⟨kk3, d3, e3⟩ := g_Td (u := u) hN d (g_rk (g_px (g_at u N) N p)) (g_nx (g_at u N) N p) (s + 1) V (by omega) hnb.2.1 (by omega) (by omega) _ _ _ _ _ hr3
        have hRR : R = .inr (p3, s3, V3, (g_lb 3 (g_fr (g_at u N) N p) (g_to (g_at u N) N p), g_nd t3 g_nil), g_rk (g_px (g_at u N) N p)) := by
          have hbg : g_bg (g_at u N) N (g_nx (g_at u N) N p) = true := by
            cases hbg : g_bg (g_at u N) N (g_nx (g_at u N) N p) with
            | true => rfl
            | false =>
              exfalso
              have hb := g_b2n c_119
              unfold g_mb at hb
              rw [hbg, Bool.or_false] at hb
              rw [g_T8 (of_decide_eq_true hb)] at hr3
              cases hr3
          rw [if_neg (by rw [hbg]; simp; omega), hx4.2.1, hr3] at hR
          exact hR.symm
        have hkx3 := hE3.2.2.1 _ _ hkx
        refine x_istore d_RD_named_142 (Nat.le_of_ble_eq_true rfl) ?_
        refine x_aload_n d_RD_named_144 rfl rfl ?_
        refine x_get d_RD_named_145 f_RD_72 (Nat.le_of_ble_eq_true rfl) (Nat.le_of_ble_eq_true rfl) (by first | rfl | assumption) (by rfl) ?_
        refine x_aload_n d_RD_named_148 rfl rfl ?_
        refine x_dup d_RD_named_149 rfl ?_
        refine x_get d_RD_named_150 f_RD_102 (Nat.le_of_ble_eq_true rfl) (Nat.le_of_ble_eq_true rfl) (by first | rfl | assumption) (by rfl) ?_
        refine x_dup_x1 d_RD_named_153 rfl rfl ?_
        refine x_iconst 1 d_RD_named_154 (by decide) ?_
        refine x_iadd d_RD_named_155 ?_
        refine x_topi (nI (t0 + 1)) (nI_succ t0).symm ?_
        refine x_put d_RD_named_156 f_RD_102 (Nat.le_of_ble_eq_true rfl) (Nat.le_of_ble_eq_true rfl) (by first | rfl | assumption) (by rfl) (by rfl) (by exact (Nat.le_of_ble_eq_true rfl)) ?_
        refine x_iload d_RD_named_159 rfl ?_
        refine x_iast d_RD_named_161 (Nat.le_of_ble_eq_true rfl) (Nat.le_of_ble_eq_true rfl) (by first | rfl | assumption) (vp_in_nI (show t0 < 4200 by omega) (by decide)) ?_
        refine x_same (h' := (g_mw h N T3 Na3 B3 Nm3 z3 q3 (upd St3 t0 (nI r3)) Vr3 Kp3 (nI p3) bh3 (nI (g_ky (g_at u N) N p3)) (nI o) nm3 lt3 (nI (t0 + 1)) pl (nI V3.length) kn (nI c3) Wd3)) (x_pt rfl rfl rfl rfl rfl rfl rfl rfl rfl rfl rfl rfl rfl rfl rfl rfl rfl rfl rfl rfl rfl rfl rfl rfl rfl rfl rfl rfl rfl rfl rfl rfl rfl rfl rfl rfl rfl rfl rfl rfl rfl (show Sum.inl (0, 4200, Sum.inl (upd _ (nI t0).toNatClampNeg _)) = _ by rw [nI_clamp (by omega)]; rfl) rfl rfl rfl rfl rfl rfl rfl rfl rfl rfl) ?_
        refine x_aload_n d_RD_named_162 rfl rfl ?_
        refine x_get d_RD_named_163 f_RD_81 (Nat.le_of_ble_eq_true rfl) (Nat.le_of_ble_eq_true rfl) (by first | rfl | assumption) (by rfl) ?_
        refine x_iload_n d_RD_named_166 rfl rfl ?_
        refine x_aload_n d_RD_named_167 rfl rfl ?_
        refine x_get d_RD_named_168 f_RD_72 (Nat.le_of_ble_eq_true rfl) (Nat.le_of_ble_eq_true rfl) (by first | rfl | assumption) (by rfl) ?_
        refine x_iload d_RD_named_171 rfl ?_
        refine x_iconst 1 d_RD_named_173 (by decide) ?_
        refine x_same (h' := (g_ew (g_mw h N T3 Na3 B3 Nm3 z3 q3 (upd St3 t0 (nI r3)) Vr3 Kp3 (nI p3) bh3 (nI (g_ky (g_at u N) N p3)) (nI o) nm3 lt3 (nI (t0 + 1)) pl (nI V3.length) kn (nI c3) Wd3) B3 Nm3 (nI z3) (nI q3))) (x_pt rfl rfl rfl rfl rfl rfl rfl rfl rfl rfl rfl rfl rfl rfl rfl rfl rfl rfl rfl rfl rfl rfl rfl rfl rfl rfl rfl rfl rfl rfl rfl rfl rfl rfl rfl rfl rfl rfl rfl rfl rfl rfl rfl rfl rfl rfl rfl rfl rfl rfl rfl rfl) ?_
        refine x_callV4Y d_RD_named_174 k_RD_215 (Nat.le_of_ble_eq_true rfl) (Nat.le_of_ble_eq_true rfl) (by first | rfl | assumption) (by rfl) (w_TS_compound (h := (g_mw h N T3 Na3 B3 Nm3 z3 q3 (upd St3 t0 (nI r3)) Vr3 Kp3 (nI p3) bh3 (nI (g_ky (g_at u N) N p3)) (nI o) nm3 lt3 (nI (t0 + 1)) pl (nI V3.length) kn (nI c3) Wd3)) (z := z3) (q := q3) (mark := t0) (m := 1) (by omega) (by omega) rfl (by omega)) (show 0 + 1 ≤ 4 * d + 14 by omega) (show 8 + (6 + 11) + 64 * (0) ≤ 64 * (4 * d + 14) by omega) (Nat.le_of_ble_eq_true rfl) (Nat.le_of_ble_eq_true rfl) (Nat.le_of_ble_eq_true rfl) rfl ?_
        refine x_same (h' := (g_mw h N T3 Na3 (g_bc B3 z3 q3 (nI (g_nk T (g_ut u (g_fr (g_at u N) N p) (g_to (g_at u N) N p)))) (upd St3 t0 (nI r3)) t0 1) Nm3 (z3 + 1) (q3 + 1) (upd St3 t0 (nI r3)) Vr3 Kp3 (nI p3) bh3 (nI (g_ky (g_at u N) N p3)) (nI o) nm3 lt3 (nI (t0 + 1)) pl (nI V3.length) kn (nI c3) Wd3)) (x_pt rfl rfl rfl rfl rfl rfl rfl rfl rfl rfl rfl rfl rfl rfl rfl rfl rfl rfl rfl rfl rfl rfl rfl rfl rfl rfl rfl rfl rfl rfl rfl rfl rfl rfl rfl rfl rfl rfl rfl rfl rfl rfl rfl rfl rfl rfl rfl rfl rfl rfl rfl rfl) ?_
        refine x_istore d_RD_named_177 (Nat.le_of_ble_eq_true rfl) ?_
        refine x_aload_n d_RD_named_179 rfl rfl ?_
        refine x_iload d_RD_named_180 rfl ?_
        refine x_put d_RD_named_182 f_RD_102 (Nat.le_of_ble_eq_true rfl) (Nat.le_of_ble_eq_true rfl) (by first | rfl | assumption) (by rfl) (by rfl) (by exact (Nat.le_of_ble_eq_true rfl)) ?_
        refine x_aload_n d_RD_named_185 rfl rfl ?_
        refine x_iload_n d_RD_named_186 rfl rfl ?_
        refine x_topi (nI (g_rk (g_px (g_at u N) N p))) hx4.1 ?_
        refine x_put d_RD_named_187 f_RD_204 (Nat.le_of_ble_eq_true rfl) (Nat.le_of_ble_eq_true rfl) (by first | rfl | assumption) (by rfl) (by rfl) (by exact (Nat.le_of_ble_eq_true rfl)) ?_
        refine x_same (h' := (g_mw h N T3 Na3 (g_bc B3 z3 q3 (nI (g_nk T (g_ut u (g_fr (g_at u N) N p) (g_to (g_at u N) N p)))) (upd St3 t0 (nI r3)) t0 1) Nm3 (z3 + 1) (q3 + 1) (upd St3 t0 (nI r3)) Vr3 Kp3 (nI p3) bh3 (nI (g_ky (g_at u N) N p3)) (nI o) nm3 lt3 (nI t0) pl (nI V3.length) kn (nI (g_rk (g_px (g_at u N) N p))) Wd3)) (x_pt rfl rfl rfl rfl rfl rfl rfl rfl rfl rfl rfl rfl rfl rfl rfl rfl rfl rfl rfl rfl rfl rfl rfl rfl rfl rfl rfl rfl rfl rfl rfl rfl rfl rfl rfl rfl rfl rfl rfl rfl rfl rfl rfl rfl rfl rfl rfl rfl rfl rfl rfl rfl) ?_
        refine x_iload d_RD_named_190 rfl ?_
        exact x_ireturn d_RD_named_192 rfl rfl (g_MKi hRR ⟨z3, T3, Na3, (g_bc B3 z3 q3 (nI (g_nk T (g_ut u (g_fr (g_at u N) N p) (g_to (g_at u N) N p)))) (upd St3 t0 (nI r3)) t0 1), Nm3, z3 + 1, q3 + 1, upd St3 t0 (nI r3), Vr3, Kp3, bh3, lt3, nm3, Wd3, rfl, hNI3, hMV3, hTO3, g_mEt (g_mEt ⟨Nat.le_refl _, Nat.le_refl _, fun _ _ y => g_nTm y, fun _ _ => ⟨fun _ _ => rfl, rfl⟩, fun _ _ => rfl⟩ hE3) (g_E3 (fun _ _ y => y)), by omega, by omega, fun k hk => (by rw [g_updN (by omega)]; exact hS3 k hk), g_Tc (acc := [t3]) (fun _ _ y => y) (⟨⟨r3, g_updY, e3.1.2.1, e3.1.1, hT3⟩, trivial⟩ : g_AS u N T3 B3 Nm3 z3 q3 (upd St3 t0 (nI r3)) t0 [t3]) (by omega) (Or.inl ⟨eL1, by rw [eL2, eL3]; exact hkx3⟩), rfl⟩)
      · exact hatom Na1 bh2 lt2 nm2 Wd2 hNI1 hTO2 (by rw [← hR, if_pos (Or.inr (by have hb := g_b2z c_119; unfold g_mb at hb; exact (Bool.or_eq_false_iff.mp hb).2))])
