theorem d_NA_clear_0 : decode M_NA_clear.2.1 0 = .ok (.aload_n 0, 1) := by decide +kernel
theorem d_NA_clear_1 : decode M_NA_clear.2.1 1 = .ok (.iconst 0, 1) := by decide +kernel
theorem d_NA_clear_2 : decode M_NA_clear.2.1 2 = .ok (.putfield 25, 3) := by decide +kernel
theorem d_NA_clear_5 : decode M_NA_clear.2.1 5 = .ok (.aload_n 0, 1) := by decide +kernel
theorem d_NA_clear_6 : decode M_NA_clear.2.1 6 = .ok (.iconst 0, 1) := by decide +kernel
theorem d_NA_clear_7 : decode M_NA_clear.2.1 7 = .ok (.putfield 29, 3) := by decide +kernel
theorem d_NA_clear_10 : decode M_NA_clear.2.1 10 = .ok (.aload_n 0, 1) := by decide +kernel
theorem d_NA_clear_11 : decode M_NA_clear.2.1 11 = .ok (.getfield 15, 3) := by decide +kernel
theorem d_NA_clear_14 : decode M_NA_clear.2.1 14 = .ok (.iconst 0, 1) := by decide +kernel
theorem d_NA_clear_15 : decode M_NA_clear.2.1 15 = .ok (.iconst 0, 1) := by decide +kernel
theorem d_NA_clear_16 : decode M_NA_clear.2.1 16 = .ok (.iastore, 1) := by decide +kernel
theorem d_NA_clear_17 : decode M_NA_clear.2.1 17 = .ok (.iconst 0, 1) := by decide +kernel
theorem d_NA_clear_18 : decode M_NA_clear.2.1 18 = .ok (.istore_n 1, 1) := by decide +kernel
theorem d_NA_clear_19 : decode M_NA_clear.2.1 19 = .ok (.iload_n 1, 1) := by decide +kernel
theorem d_NA_clear_20 : decode M_NA_clear.2.1 20 = .ok (.sipush 1024, 3) := by decide +kernel
theorem d_NA_clear_23 : decode M_NA_clear.2.1 23 = .ok (.if_icmp .ge 16, 3) := by decide +kernel
theorem d_NA_clear_26 : decode M_NA_clear.2.1 26 = .ok (.aload_n 0, 1) := by decide +kernel
theorem d_NA_clear_27 : decode M_NA_clear.2.1 27 = .ok (.getfield 22, 3) := by decide +kernel
theorem d_NA_clear_30 : decode M_NA_clear.2.1 30 = .ok (.iload_n 1, 1) := by decide +kernel
theorem d_NA_clear_31 : decode M_NA_clear.2.1 31 = .ok (.iconst (-1), 1) := by decide +kernel
theorem d_NA_clear_32 : decode M_NA_clear.2.1 32 = .ok (.iastore, 1) := by decide +kernel
theorem d_NA_clear_33 : decode M_NA_clear.2.1 33 = .ok (.iinc 1 1, 3) := by decide +kernel
theorem d_NA_clear_36 : decode M_NA_clear.2.1 36 = .ok (.goto (-17), 3) := by decide +kernel
theorem d_NA_clear_39 : decode M_NA_clear.2.1 39 = .ok (.return_, 1) := by decide +kernel
set_option maxRecDepth 20000 in
theorem w_NA_clear {E : xR} {h : xH} {sz te : Int32} {TX FR NX FS : Nat → Int32} : x_Mt E M_NA_clear 0 0 0 [.ref 31] 52 (g_nw h sz te TX FR NX FS) (x_YE (fun v h1 => v = none ∧ ∃ FS', (∀ k, k < 1024 → FS' k = -1) ∧ h1 = (g_nw h 0 0 TX (upd FR 0 0) NX FS'))) := by
  refine x_Mt.of (by decide) (Nat.le_of_ble_eq_true rfl) ?_
  have hloop : ∀ m i (FS : Nat → Int32), i + m = 1024 → (∀ k, k < i → FS k = -1) → x_W E M_NA_clear (x_room 0 0 0) (x_YE (fun v h1 => v = none ∧ ∃ FS', (∀ k, k < 1024 → FS' k = -1) ∧ h1 = (g_nw h 0 0 TX (upd FR 0 0) NX FS'))) 52 (g_nw h 0 0 TX (upd FR 0 0) NX FS) 19 [(0, .ref 31), (1, .int (nI i))] [] 0 0 := by
    intro m
    induction m with
    | zero =>
      intro i FS hi hk
      obtain rfl : i = 1024 := by omega
      refine x_iload_n d_NA_clear_19 rfl rfl ?_
      refine x_sipush 1024 d_NA_clear_20 (by decide) ?_
      refine x_icmp_ge 39 d_NA_clear_23 (by decide) (fun _ => ?_) (fun z => absurd (show nI 1024 ≤ nI 1024 from nI_le (Nat.le_refl _) (by decide)) z)
      exact x_return d_NA_clear_39 rfl (x_YEi _ ⟨rfl, FS, hk, rfl⟩ (fun _ _ => rfl))
    | succ m ih =>
      intro i FS hi hk
      refine x_iload_n d_NA_clear_19 rfl rfl ?_
      refine x_sipush 1024 d_NA_clear_20 (by decide) ?_
      refine x_icmp_ge 39 d_NA_clear_23 (by decide) (fun z => absurd z (show ¬ nI 1024 ≤ nI i from nI_ge (by omega) (by decide))) (fun _ => ?_)
      refine x_aload_n d_NA_clear_26 rfl rfl ?_
      refine x_get d_NA_clear_27 f_NA_22 (Nat.le_of_ble_eq_true rfl) (Nat.le_of_ble_eq_true rfl) (by first | rfl | assumption) (by rfl) ?_
      refine x_iload_n d_NA_clear_30 rfl rfl ?_
      refine x_iconst (-1) d_NA_clear_31 (by decide) ?_
      refine x_iast d_NA_clear_32 (Nat.le_of_ble_eq_true rfl) (Nat.le_of_ble_eq_true rfl) (by first | rfl | assumption) (vp_in_nI (show i < 1024 by omega) (by decide)) ?_
      refine x_iinc d_NA_clear_33 rfl 1 (by decide) (Nat.le_of_ble_eq_true rfl) ?_
      refine x_goto 19 d_NA_clear_36 (by decide) ?_
      refine x_lv [(0, .ref 31), (1, .int (nI (i + 1)))] (by rw [nI_succ i]; rfl) ?_
      refine x_same (h' := (g_nw h 0 0 TX (upd FR 0 0) NX (upd FS i (-1)))) (x_pt rfl rfl rfl rfl rfl rfl rfl rfl rfl rfl rfl rfl rfl rfl rfl rfl rfl rfl rfl rfl rfl rfl rfl rfl rfl rfl rfl rfl rfl rfl rfl rfl rfl rfl rfl (show Sum.inl (0, 1024, Sum.inl (upd _ (nI i).toNatClampNeg _)) = _ by rw [nI_clamp (by omega)]; rfl) rfl rfl rfl rfl rfl rfl rfl rfl rfl rfl rfl rfl rfl rfl rfl rfl) ?_
      exact ih (i + 1) _ (by omega) (fun k h => by
        by_cases e : k = i
        · rw [e]; exact g_updY
        · rw [g_updN e]; exact hk k (by omega))
  show x_W E M_NA_clear _ _ 52 (g_nw h sz te TX FR NX FS) 0 [(0, .ref 31)] [] 0 0
  refine x_aload_n d_NA_clear_0 rfl rfl ?_
  refine x_iconst 0 d_NA_clear_1 (by decide) ?_
  refine x_put d_NA_clear_2 f_NA_25 (Nat.le_of_ble_eq_true rfl) (Nat.le_of_ble_eq_true rfl) (by first | rfl | assumption) (by rfl) (by rfl) (by exact (Nat.le_of_ble_eq_true rfl)) ?_
  refine x_aload_n d_NA_clear_5 rfl rfl ?_
  refine x_iconst 0 d_NA_clear_6 (by decide) ?_
  refine x_put d_NA_clear_7 f_NA_29 (Nat.le_of_ble_eq_true rfl) (Nat.le_of_ble_eq_true rfl) (by first | rfl | assumption) (by rfl) (by rfl) (by exact (Nat.le_of_ble_eq_true rfl)) ?_
  refine x_aload_n d_NA_clear_10 rfl rfl ?_
  refine x_get d_NA_clear_11 f_NA_15 (Nat.le_of_ble_eq_true rfl) (Nat.le_of_ble_eq_true rfl) (by first | rfl | assumption) (by rfl) ?_
  refine x_iconst 0 d_NA_clear_14 (by decide) ?_
  refine x_iconst 0 d_NA_clear_15 (by decide) ?_
  refine x_iast d_NA_clear_16 (Nat.le_of_ble_eq_true rfl) (Nat.le_of_ble_eq_true rfl) (by first | rfl | assumption) (vp_in_nI (n := 0) (show 0 < 9001 by decide) (by decide)) ?_
  refine x_same (h' := (g_nw h 0 0 TX (upd FR 0 0) NX FS)) (x_pt rfl rfl rfl rfl rfl rfl rfl rfl rfl rfl rfl rfl rfl rfl rfl rfl rfl rfl rfl rfl rfl rfl rfl rfl rfl rfl rfl rfl rfl rfl rfl rfl rfl rfl rfl rfl rfl rfl rfl rfl rfl rfl rfl rfl rfl rfl rfl rfl rfl rfl rfl rfl) ?_
  refine x_iconst 0 d_NA_clear_17 (by decide) ?_
  refine x_istore_n d_NA_clear_18 rfl (Nat.le_of_ble_eq_true rfl) ?_
  exact hloop 1024 0 FS rfl (fun k h => absurd h (Nat.not_lt_zero _))
theorem g_fdl {T : List (List Int32)} {x : List Int32} {k : Nat} {l : List Nat} {w : List Int32} (hk : g_nt T k = some w) : g_fd T x (k :: l) = if w = x then some k else g_fd T x l := by
  rw [g_fd, hk]
  by_cases e : w = x
  · rw [if_pos e, if_pos (by rw [e])]
  · rw [if_neg e, if_neg (fun z => e (by injection z))]
theorem d_NA_of_0 : decode M_NA_of.2.1 0 = .ok (.iload_n 2, 1) := by decide +kernel
theorem d_NA_of_1 : decode M_NA_of.2.1 1 = .ok (.istore_n 3, 1) := by decide +kernel
theorem d_NA_of_2 : decode M_NA_of.2.1 2 = .ok (.iconst 0, 1) := by decide +kernel
theorem d_NA_of_3 : decode M_NA_of.2.1 3 = .ok (.istore 4, 2) := by decide +kernel
theorem d_NA_of_5 : decode M_NA_of.2.1 5 = .ok (.iload 4, 2) := by decide +kernel
theorem d_NA_of_7 : decode M_NA_of.2.1 7 = .ok (.iload_n 2, 1) := by decide +kernel
theorem d_NA_of_8 : decode M_NA_of.2.1 8 = .ok (.if_icmp .ge 19, 3) := by decide +kernel
theorem d_NA_of_11 : decode M_NA_of.2.1 11 = .ok (.bipush 31, 2) := by decide +kernel
theorem d_NA_of_13 : decode M_NA_of.2.1 13 = .ok (.iload_n 3, 1) := by decide +kernel
theorem d_NA_of_14 : decode M_NA_of.2.1 14 = .ok (.imul, 1) := by decide +kernel
theorem d_NA_of_15 : decode M_NA_of.2.1 15 = .ok (.aload_n 1, 1) := by decide +kernel
theorem d_NA_of_16 : decode M_NA_of.2.1 16 = .ok (.iload 4, 2) := by decide +kernel
theorem d_NA_of_18 : decode M_NA_of.2.1 18 = .ok (.baload, 1) := by decide +kernel
theorem d_NA_of_19 : decode M_NA_of.2.1 19 = .ok (.iadd, 1) := by decide +kernel
theorem d_NA_of_20 : decode M_NA_of.2.1 20 = .ok (.istore_n 3, 1) := by decide +kernel
theorem d_NA_of_21 : decode M_NA_of.2.1 21 = .ok (.iinc 4 1, 3) := by decide +kernel
theorem d_NA_of_24 : decode M_NA_of.2.1 24 = .ok (.goto (-19), 3) := by decide +kernel
theorem d_NA_of_27 : decode M_NA_of.2.1 27 = .ok (.iload_n 3, 1) := by decide +kernel
theorem d_NA_of_28 : decode M_NA_of.2.1 28 = .ok (.iload_n 3, 1) := by decide +kernel
theorem d_NA_of_29 : decode M_NA_of.2.1 29 = .ok (.bipush 11, 2) := by decide +kernel
theorem d_NA_of_31 : decode M_NA_of.2.1 31 = .ok (.iushr, 1) := by decide +kernel
theorem d_NA_of_32 : decode M_NA_of.2.1 32 = .ok (.ixor, 1) := by decide +kernel
theorem d_NA_of_33 : decode M_NA_of.2.1 33 = .ok (.sipush 1023, 3) := by decide +kernel
theorem d_NA_of_36 : decode M_NA_of.2.1 36 = .ok (.iand, 1) := by decide +kernel
theorem d_NA_of_37 : decode M_NA_of.2.1 37 = .ok (.istore_n 3, 1) := by decide +kernel
theorem d_NA_of_38 : decode M_NA_of.2.1 38 = .ok (.aload_n 0, 1) := by decide +kernel
theorem d_NA_of_39 : decode M_NA_of.2.1 39 = .ok (.getfield 22, 3) := by decide +kernel
theorem d_NA_of_42 : decode M_NA_of.2.1 42 = .ok (.iload_n 3, 1) := by decide +kernel
theorem d_NA_of_43 : decode M_NA_of.2.1 43 = .ok (.iaload, 1) := by decide +kernel
theorem d_NA_of_44 : decode M_NA_of.2.1 44 = .ok (.istore 4, 2) := by decide +kernel
theorem d_NA_of_46 : decode M_NA_of.2.1 46 = .ok (.iload 4, 2) := by decide +kernel
theorem d_NA_of_48 : decode M_NA_of.2.1 48 = .ok (.iconst (-1), 1) := by decide +kernel
theorem d_NA_of_49 : decode M_NA_of.2.1 49 = .ok (.if_icmp .eq 29, 3) := by decide +kernel
theorem d_NA_of_52 : decode M_NA_of.2.1 52 = .ok (.aload_n 0, 1) := by decide +kernel
theorem d_NA_of_53 : decode M_NA_of.2.1 53 = .ok (.iload 4, 2) := by decide +kernel
theorem d_NA_of_55 : decode M_NA_of.2.1 55 = .ok (.aload_n 1, 1) := by decide +kernel
theorem d_NA_of_56 : decode M_NA_of.2.1 56 = .ok (.iload_n 2, 1) := by decide +kernel
theorem d_NA_of_57 : decode M_NA_of.2.1 57 = .ok (.invokevirtual 32, 3) := by decide +kernel
theorem d_NA_of_60 : decode M_NA_of.2.1 60 = .ok (.ifCond .eq 6, 3) := by decide +kernel
theorem d_NA_of_63 : decode M_NA_of.2.1 63 = .ok (.iload 4, 2) := by decide +kernel
theorem d_NA_of_65 : decode M_NA_of.2.1 65 = .ok (.ireturn, 1) := by decide +kernel
theorem d_NA_of_66 : decode M_NA_of.2.1 66 = .ok (.aload_n 0, 1) := by decide +kernel
theorem d_NA_of_67 : decode M_NA_of.2.1 67 = .ok (.getfield 19, 3) := by decide +kernel
theorem d_NA_of_70 : decode M_NA_of.2.1 70 = .ok (.iload 4, 2) := by decide +kernel
theorem d_NA_of_72 : decode M_NA_of.2.1 72 = .ok (.iaload, 1) := by decide +kernel
theorem d_NA_of_73 : decode M_NA_of.2.1 73 = .ok (.istore 4, 2) := by decide +kernel
theorem d_NA_of_75 : decode M_NA_of.2.1 75 = .ok (.goto (-29), 3) := by decide +kernel
theorem d_NA_of_78 : decode M_NA_of.2.1 78 = .ok (.iconst 0, 1) := by decide +kernel
theorem d_NA_of_79 : decode M_NA_of.2.1 79 = .ok (.istore 4, 2) := by decide +kernel
theorem d_NA_of_81 : decode M_NA_of.2.1 81 = .ok (.iload 4, 2) := by decide +kernel
theorem d_NA_of_83 : decode M_NA_of.2.1 83 = .ok (.iload_n 2, 1) := by decide +kernel
theorem d_NA_of_84 : decode M_NA_of.2.1 84 = .ok (.if_icmp .ge 25, 3) := by decide +kernel
theorem d_NA_of_87 : decode M_NA_of.2.1 87 = .ok (.aload_n 0, 1) := by decide +kernel
theorem d_NA_of_88 : decode M_NA_of.2.1 88 = .ok (.getfield 9, 3) := by decide +kernel
theorem d_NA_of_91 : decode M_NA_of.2.1 91 = .ok (.aload_n 0, 1) := by decide +kernel
theorem d_NA_of_92 : decode M_NA_of.2.1 92 = .ok (.getfield 29, 3) := by decide +kernel
theorem d_NA_of_95 : decode M_NA_of.2.1 95 = .ok (.iload 4, 2) := by decide +kernel
theorem d_NA_of_97 : decode M_NA_of.2.1 97 = .ok (.iadd, 1) := by decide +kernel
theorem d_NA_of_98 : decode M_NA_of.2.1 98 = .ok (.aload_n 1, 1) := by decide +kernel
theorem d_NA_of_99 : decode M_NA_of.2.1 99 = .ok (.iload 4, 2) := by decide +kernel
theorem d_NA_of_101 : decode M_NA_of.2.1 101 = .ok (.baload, 1) := by decide +kernel
theorem d_NA_of_102 : decode M_NA_of.2.1 102 = .ok (.bastore, 1) := by decide +kernel
theorem d_NA_of_103 : decode M_NA_of.2.1 103 = .ok (.iinc 4 1, 3) := by decide +kernel
theorem d_NA_of_106 : decode M_NA_of.2.1 106 = .ok (.goto (-25), 3) := by decide +kernel
theorem d_NA_of_109 : decode M_NA_of.2.1 109 = .ok (.aload_n 0, 1) := by decide +kernel
theorem d_NA_of_110 : decode M_NA_of.2.1 110 = .ok (.dup, 1) := by decide +kernel
theorem d_NA_of_111 : decode M_NA_of.2.1 111 = .ok (.getfield 29, 3) := by decide +kernel
theorem d_NA_of_114 : decode M_NA_of.2.1 114 = .ok (.iload_n 2, 1) := by decide +kernel
theorem d_NA_of_115 : decode M_NA_of.2.1 115 = .ok (.iadd, 1) := by decide +kernel
theorem d_NA_of_116 : decode M_NA_of.2.1 116 = .ok (.putfield 29, 3) := by decide +kernel
theorem d_NA_of_119 : decode M_NA_of.2.1 119 = .ok (.aload_n 0, 1) := by decide +kernel
theorem d_NA_of_120 : decode M_NA_of.2.1 120 = .ok (.getfield 19, 3) := by decide +kernel
theorem d_NA_of_123 : decode M_NA_of.2.1 123 = .ok (.aload_n 0, 1) := by decide +kernel
theorem d_NA_of_124 : decode M_NA_of.2.1 124 = .ok (.getfield 25, 3) := by decide +kernel
theorem d_NA_of_127 : decode M_NA_of.2.1 127 = .ok (.aload_n 0, 1) := by decide +kernel
theorem d_NA_of_128 : decode M_NA_of.2.1 128 = .ok (.getfield 22, 3) := by decide +kernel
theorem d_NA_of_131 : decode M_NA_of.2.1 131 = .ok (.iload_n 3, 1) := by decide +kernel
theorem d_NA_of_132 : decode M_NA_of.2.1 132 = .ok (.iaload, 1) := by decide +kernel
theorem d_NA_of_133 : decode M_NA_of.2.1 133 = .ok (.iastore, 1) := by decide +kernel
theorem d_NA_of_134 : decode M_NA_of.2.1 134 = .ok (.aload_n 0, 1) := by decide +kernel
theorem d_NA_of_135 : decode M_NA_of.2.1 135 = .ok (.getfield 22, 3) := by decide +kernel
theorem d_NA_of_138 : decode M_NA_of.2.1 138 = .ok (.iload_n 3, 1) := by decide +kernel
theorem d_NA_of_139 : decode M_NA_of.2.1 139 = .ok (.aload_n 0, 1) := by decide +kernel
theorem d_NA_of_140 : decode M_NA_of.2.1 140 = .ok (.getfield 25, 3) := by decide +kernel
theorem d_NA_of_143 : decode M_NA_of.2.1 143 = .ok (.iastore, 1) := by decide +kernel
theorem d_NA_of_144 : decode M_NA_of.2.1 144 = .ok (.aload_n 0, 1) := by decide +kernel
theorem d_NA_of_145 : decode M_NA_of.2.1 145 = .ok (.dup, 1) := by decide +kernel
theorem d_NA_of_146 : decode M_NA_of.2.1 146 = .ok (.getfield 25, 3) := by decide +kernel
theorem d_NA_of_149 : decode M_NA_of.2.1 149 = .ok (.iconst 1, 1) := by decide +kernel
theorem d_NA_of_150 : decode M_NA_of.2.1 150 = .ok (.iadd, 1) := by decide +kernel
theorem d_NA_of_151 : decode M_NA_of.2.1 151 = .ok (.putfield 25, 3) := by decide +kernel
theorem d_NA_of_154 : decode M_NA_of.2.1 154 = .ok (.aload_n 0, 1) := by decide +kernel
theorem d_NA_of_155 : decode M_NA_of.2.1 155 = .ok (.getfield 15, 3) := by decide +kernel
theorem d_NA_of_158 : decode M_NA_of.2.1 158 = .ok (.aload_n 0, 1) := by decide +kernel
theorem d_NA_of_159 : decode M_NA_of.2.1 159 = .ok (.getfield 25, 3) := by decide +kernel
theorem d_NA_of_162 : decode M_NA_of.2.1 162 = .ok (.aload_n 0, 1) := by decide +kernel
theorem d_NA_of_163 : decode M_NA_of.2.1 163 = .ok (.getfield 29, 3) := by decide +kernel
theorem d_NA_of_166 : decode M_NA_of.2.1 166 = .ok (.iastore, 1) := by decide +kernel
theorem d_NA_of_167 : decode M_NA_of.2.1 167 = .ok (.aload_n 0, 1) := by decide +kernel
theorem d_NA_of_168 : decode M_NA_of.2.1 168 = .ok (.getfield 25, 3) := by decide +kernel
theorem d_NA_of_171 : decode M_NA_of.2.1 171 = .ok (.iconst 1, 1) := by decide +kernel
theorem d_NA_of_172 : decode M_NA_of.2.1 172 = .ok (.isub, 1) := by decide +kernel
theorem d_NA_of_173 : decode M_NA_of.2.1 173 = .ok (.ireturn, 1) := by decide +kernel
set_option maxRecDepth 20000 in
theorem w_NA_ofAdd {E : xR} {h : xH} {TX FR NX FS : Nat → Int32} {T : List (List Int32)} {x : List Int32} {Wd : Nat → Int32} (hA : g_NA g_H T TX FR NX FS) (ht : g_tot T ≤ 5000) (hcap : g_ix x T = none → g_tot T + x.length ≤ 5000) (hT9 : T.length < 8990) (h40 : h 40 = .inl (1, 4096, .inl Wd)) (hx : g_wx Wd x) (hx4 : x.length ≤ 4096) (hxb : ∀ i (h : i < x.length), vp_nar .byte x[i] = x[i]) {y : Value} (hn : g_ix x T = none) : x_W E M_NA_of (x_room 1 0 0) (x_YE (fun v h1 => v = some (.int (nI (g_nk T x))) ∧ ∃ TX' FR' NX' FS', g_NA g_H (g_nT T x) TX' FR' NX' FS' ∧ h1 = (g_nw h (nI (g_nT T x).length) (nI (g_tot (g_nT T x))) TX' FR' NX' FS'))) 52 (g_nw h (nI T.length) (nI (g_tot T)) TX FR NX FS) 78 [(0, .ref 31), (1, .ref 40), (2, .int (nI x.length)), (3, .int (nI (g_H x))), (4, y)] [] 0 0 := by
  have hc := hcap hn
  have hH := (g_HL x).1
  have eT : g_nT T x = x :: T := by unfold g_nT; rw [hn]
  have ek : g_nk T x = T.length := by unfold g_nk; rw [hn]; rfl
  have hloop : ∀ m i (TX1 : Nat → Int32), i + m = x.length → (∀ j, j < g_tot T → TX1 j = TX j) → (∀ j (h : j < x.length), j < i → TX1 (g_tot T + j) = x[j]) → x_W E M_NA_of (x_room 1 0 0) (x_YE (fun v h1 => v = some (.int (nI (g_nk T x))) ∧ ∃ TX' FR' NX' FS', g_NA g_H (g_nT T x) TX' FR' NX' FS' ∧ h1 = (g_nw h (nI (g_nT T x).length) (nI (g_tot (g_nT T x))) TX' FR' NX' FS'))) 52 (g_nw h (nI T.length) (nI (g_tot T)) TX1 FR NX FS) 81 [(0, .ref 31), (1, .ref 40), (2, .int (nI x.length)), (3, .int (nI (g_H x))), (4, .int (nI i))] [] 0 0 := by
    intro m
    induction m with
    | zero =>
      intro i TX1 hi h1 h2
      obtain rfl : i = x.length := by omega
      refine x_iload d_NA_of_81 rfl ?_
      refine x_iload_n d_NA_of_83 rfl rfl ?_
      refine x_icmp_ge 109 d_NA_of_84 (by decide) (fun _ => ?_) (fun z => absurd (nI_le (Nat.le_refl _) (by omega)) z)
      refine x_aload_n d_NA_of_109 rfl rfl ?_
      refine x_dup d_NA_of_110 rfl ?_
      refine x_get d_NA_of_111 f_NA_29 (Nat.le_of_ble_eq_true rfl) (Nat.le_of_ble_eq_true rfl) (by first | rfl | assumption) (by rfl) ?_
      refine x_iload_n d_NA_of_114 rfl rfl ?_
      refine x_iadd d_NA_of_115 ?_
      refine x_topi (nI (g_tot T + x.length)) (nI_add _ _) ?_
      refine x_put d_NA_of_116 f_NA_29 (Nat.le_of_ble_eq_true rfl) (Nat.le_of_ble_eq_true rfl) (by first | rfl | assumption) (by rfl) (by rfl) (by exact (Nat.le_of_ble_eq_true rfl)) ?_
      refine x_aload_n d_NA_of_119 rfl rfl ?_
      refine x_get d_NA_of_120 f_NA_19 (Nat.le_of_ble_eq_true rfl) (Nat.le_of_ble_eq_true rfl) (by first | rfl | assumption) (by rfl) ?_
      refine x_aload_n d_NA_of_123 rfl rfl ?_
      refine x_get d_NA_of_124 f_NA_25 (Nat.le_of_ble_eq_true rfl) (Nat.le_of_ble_eq_true rfl) (by first | rfl | assumption) (by rfl) ?_
      refine x_aload_n d_NA_of_127 rfl rfl ?_
      refine x_get d_NA_of_128 f_NA_22 (Nat.le_of_ble_eq_true rfl) (Nat.le_of_ble_eq_true rfl) (by first | rfl | assumption) (by rfl) ?_
      refine x_iload_n d_NA_of_131 rfl rfl ?_
      refine x_iald d_NA_of_132 (Nat.le_of_ble_eq_true rfl) (Nat.le_of_ble_eq_true rfl) (by first | rfl | assumption) (vp_in_nI hH (by decide)) ?_
      refine x_iast d_NA_of_133 (Nat.le_of_ble_eq_true rfl) (Nat.le_of_ble_eq_true rfl) (by first | rfl | assumption) (vp_in_nI (show T.length < 9000 by omega) (by decide)) ?_
      refine x_aload_n d_NA_of_134 rfl rfl ?_
      refine x_get d_NA_of_135 f_NA_22 (Nat.le_of_ble_eq_true rfl) (Nat.le_of_ble_eq_true rfl) (by first | rfl | assumption) (by rfl) ?_
      refine x_iload_n d_NA_of_138 rfl rfl ?_
      refine x_aload_n d_NA_of_139 rfl rfl ?_
      refine x_get d_NA_of_140 f_NA_25 (Nat.le_of_ble_eq_true rfl) (Nat.le_of_ble_eq_true rfl) (by first | rfl | assumption) (by rfl) ?_
      refine x_iast d_NA_of_143 (Nat.le_of_ble_eq_true rfl) (Nat.le_of_ble_eq_true rfl) (by first | rfl | assumption) (vp_in_nI hH (by decide)) ?_
      refine x_aload_n d_NA_of_144 rfl rfl ?_
      refine x_dup d_NA_of_145 rfl ?_
      refine x_get d_NA_of_146 f_NA_25 (Nat.le_of_ble_eq_true rfl) (Nat.le_of_ble_eq_true rfl) (by first | rfl | assumption) (by rfl) ?_
      refine x_iconst 1 d_NA_of_149 (by decide) ?_
      refine x_iadd d_NA_of_150 ?_
      refine x_topi (nI (T.length + 1)) (nI_succ _).symm ?_
      refine x_put d_NA_of_151 f_NA_25 (Nat.le_of_ble_eq_true rfl) (Nat.le_of_ble_eq_true rfl) (by first | rfl | assumption) (by rfl) (by rfl) (by exact (Nat.le_of_ble_eq_true rfl)) ?_
      refine x_aload_n d_NA_of_154 rfl rfl ?_
      refine x_get d_NA_of_155 f_NA_15 (Nat.le_of_ble_eq_true rfl) (Nat.le_of_ble_eq_true rfl) (by first | rfl | assumption) (by rfl) ?_
      refine x_aload_n d_NA_of_158 rfl rfl ?_
      refine x_get d_NA_of_159 f_NA_25 (Nat.le_of_ble_eq_true rfl) (Nat.le_of_ble_eq_true rfl) (by first | rfl | assumption) (by rfl) ?_
      refine x_aload_n d_NA_of_162 rfl rfl ?_
      refine x_get d_NA_of_163 f_NA_29 (Nat.le_of_ble_eq_true rfl) (Nat.le_of_ble_eq_true rfl) (by first | rfl | assumption) (by rfl) ?_
      refine x_iast d_NA_of_166 (Nat.le_of_ble_eq_true rfl) (Nat.le_of_ble_eq_true rfl) (by first | rfl | assumption) (vp_in_nI (show T.length + 1 < 9001 by omega) (by decide)) ?_
      refine x_aload_n d_NA_of_167 rfl rfl ?_
      refine x_get d_NA_of_168 f_NA_25 (Nat.le_of_ble_eq_true rfl) (Nat.le_of_ble_eq_true rfl) (by first | rfl | assumption) (by rfl) ?_
      refine x_iconst 1 d_NA_of_171 (by decide) ?_
      refine x_isub d_NA_of_172 ?_
      refine x_topi (nI T.length) (g_nIsub (a := T.length + 1) (b := 1) (by omega)) ?_
      exact x_ireturn d_NA_of_173 rfl rfl (by refine x_YEi _ ⟨by rw [ek], TX1, _, _, _, by rw [eT]; exact g_NAs (fun w => (g_HL w).1) hA h1 (fun i hi => h2 i hi hi), rfl⟩ ?_ ; rw [eT] ; exact x_pt rfl rfl rfl rfl rfl rfl rfl rfl rfl rfl rfl rfl rfl rfl rfl rfl rfl rfl rfl rfl rfl rfl rfl rfl rfl rfl rfl rfl rfl rfl rfl rfl rfl (show Sum.inl (0, 9001, Sum.inl (upd _ (nI (T.length + 1)).toNatClampNeg _)) = _ by rw [nI_clamp (by omega)]; rfl) (show Sum.inl (0, 9000, Sum.inl (upd _ (nI T.length).toNatClampNeg (FS (nI (g_H x)).toNatClampNeg))) = _ by rw [nI_clamp (by omega), nI_clamp (by omega)]; rfl) (show Sum.inl (0, 1024, Sum.inl (upd _ (nI (g_H x)).toNatClampNeg _)) = _ by rw [nI_clamp (by omega)]; rfl) rfl rfl rfl rfl rfl rfl rfl rfl rfl rfl rfl rfl rfl rfl rfl rfl)
    | succ m ih =>
      intro i TX1 hi h1 h2
      have hix : i < x.length := by omega
      refine x_iload d_NA_of_81 rfl ?_
      refine x_iload_n d_NA_of_83 rfl rfl ?_
      refine x_icmp_ge 109 d_NA_of_84 (by decide) (fun z => absurd z (nI_ge hix (by omega))) (fun _ => ?_)
      refine x_aload_n d_NA_of_87 rfl rfl ?_
      refine x_get d_NA_of_88 f_NA_9 (Nat.le_of_ble_eq_true rfl) (Nat.le_of_ble_eq_true rfl) (by first | rfl | assumption) (by rfl) ?_
      refine x_aload_n d_NA_of_91 rfl rfl ?_
      refine x_get d_NA_of_92 f_NA_29 (Nat.le_of_ble_eq_true rfl) (Nat.le_of_ble_eq_true rfl) (by first | rfl | assumption) (by rfl) ?_
      refine x_iload d_NA_of_95 rfl ?_
      refine x_iadd d_NA_of_97 ?_
      refine x_topi (nI (g_tot T + i)) (nI_add _ _) ?_
      refine x_aload_n d_NA_of_98 rfl rfl ?_
      refine x_iload d_NA_of_99 rfl ?_
      refine x_bald d_NA_of_101 (Nat.le_of_ble_eq_true rfl) (Nat.le_of_ble_eq_true rfl) (by first | rfl | assumption) (vp_in_nI (show i < 4096 by omega) (by decide)) ?_
      refine x_topi x[i] (by rw [nI_clamp (by omega)]; exact hx i hix) ?_
      refine x_bast d_NA_of_102 (Nat.le_of_ble_eq_true rfl) (Nat.le_of_ble_eq_true rfl) (by first | rfl | assumption) (vp_in_nI (show g_tot T + i < 5000 by omega) (by decide)) ?_
      refine x_iinc d_NA_of_103 rfl 1 (by decide) (Nat.le_of_ble_eq_true rfl) ?_
      refine x_goto 81 d_NA_of_106 (by decide) ?_
      refine x_lv [(0, .ref 31), (1, .ref 40), (2, .int (nI x.length)), (3, .int (nI (g_H x))), (4, .int (nI (i + 1)))] (by rw [nI_succ i]; rfl) ?_
      refine x_same (h' := (g_nw h (nI T.length) (nI (g_tot T)) (upd TX1 (g_tot T + i) x[i]) FR NX FS)) (x_pt rfl rfl rfl rfl rfl rfl rfl rfl rfl rfl rfl rfl rfl rfl rfl rfl rfl rfl rfl rfl rfl rfl rfl rfl rfl rfl rfl rfl rfl rfl rfl rfl (show Sum.inl (1, 5000, Sum.inl (upd _ (nI (g_tot T + i)).toNatClampNeg (vp_nar .byte x[i]))) = _ by rw [nI_clamp (by omega), hxb i hix]; rfl) rfl rfl rfl rfl rfl rfl rfl rfl rfl rfl rfl rfl rfl rfl rfl rfl rfl rfl rfl) ?_
      exact ih (i + 1) _ (by omega) (fun j hj => by rw [g_updN (by omega)]; exact h1 j hj) (fun j hj hji => by
        by_cases e : j = i
        · subst e; exact g_updY
        · rw [g_updN (by omega)]; exact h2 j hj (by omega))
  refine x_iconst 0 d_NA_of_78 (by decide) ?_
  refine x_istore d_NA_of_79 (Nat.le_of_ble_eq_true rfl) ?_
  exact hloop x.length 0 TX (by omega) (fun _ _ => rfl) (fun j h h0 => absurd h0 (Nat.not_lt_zero _))
set_option maxRecDepth 20000 in
theorem w_NA_of {E : xR} {h : xH} {TX FR NX FS : Nat → Int32} {T : List (List Int32)} {x : List Int32} {Wd : Nat → Int32} (hA : g_NA g_H T TX FR NX FS) (ht : g_tot T ≤ 5000) (hcap : g_ix x T = none → g_tot T + x.length ≤ 5000) (hT9 : T.length < 8990) (h40 : h 40 = .inl (1, 4096, .inl Wd)) (hx : g_wx Wd x) (hx4 : x.length ≤ 4096) (hxb : ∀ i (h : i < x.length), vp_nar .byte x[i] = x[i]) : x_Mt E M_NA_of 1 0 0 [.ref 31, .ref 40, .int (nI x.length)] 52 (g_nw h (nI T.length) (nI (g_tot T)) TX FR NX FS) (x_YE (fun v h1 => v = some (.int (nI (g_nk T x))) ∧ ∃ TX' FR' NX' FS', g_NA g_H (g_nT T x) TX' FR' NX' FS' ∧ h1 = (g_nw h (nI (g_nT T x).length) (nI (g_tot (g_nT T x))) TX' FR' NX' FS'))) := by
  have hH := (g_HL x).1
  refine x_Mt.of (by decide) (Nat.le_of_ble_eq_true rfl) ?_
  have hch : ∀ (l : List Nat) (y : Int32), g_ch NX y l → (∀ k ∈ l, k < T.length) → g_fd T x l = g_ix x T → x_W E M_NA_of (x_room 1 0 0) (x_YE (fun v h1 => v = some (.int (nI (g_nk T x))) ∧ ∃ TX' FR' NX' FS', g_NA g_H (g_nT T x) TX' FR' NX' FS' ∧ h1 = (g_nw h (nI (g_nT T x).length) (nI (g_tot (g_nT T x))) TX' FR' NX' FS'))) 52 (g_nw h (nI T.length) (nI (g_tot T)) TX FR NX FS) 46 [(0, .ref 31), (1, .ref 40), (2, .int (nI x.length)), (3, .int (nI (g_H x))), (4, .int y)] [] 0 0 := by
    intro l
    induction l with
    | nil =>
      intro y hy hl hf
      have hy : y = -1 := hy
      subst hy
      refine x_iload d_NA_of_46 rfl ?_
      refine x_iconst (-1) d_NA_of_48 (by decide) ?_
      refine x_icmp_eq 78 d_NA_of_49 (by decide) (fun _ => ?_) (fun z => absurd rfl z)
      exact w_NA_ofAdd hA ht hcap hT9 h40 hx hx4 hxb hf.symm
    | cons k l ih =>
      intro y hy hl hf
      obtain ⟨rfl, hy2⟩ := hy
      have hkT := hl k List.mem_cons_self
      obtain ⟨w, hw⟩ := g_ntS T k hkT
      rw [g_fdl hw] at hf
      refine x_iload d_NA_of_46 rfl ?_
      refine x_iconst (-1) d_NA_of_48 (by decide) ?_
      refine x_icmp_eq 78 d_NA_of_49 (by decide) (fun z => absurd z (g_nIm (by omega))) (fun _ => ?_)
      refine x_aload_n d_NA_of_52 rfl rfl ?_
      refine x_iload d_NA_of_53 rfl ?_
      refine x_aload_n d_NA_of_55 rfl rfl ?_
      refine x_iload_n d_NA_of_56 rfl rfl ?_
      refine x_callV3Y d_NA_of_57 k_NA_32 (Nat.le_of_ble_eq_true rfl) (Nat.le_of_ble_eq_true rfl) (by first | rfl | assumption) (by rfl) (w_NA_same hA hw (by omega) ht h40 hx hx4) (Nat.le_of_ble_eq_true rfl) (Nat.le_of_ble_eq_true rfl) (Nat.le_of_ble_eq_true rfl) (Nat.le_of_ble_eq_true rfl) (Nat.le_of_ble_eq_true rfl) rfl ?_
      refine x_if_eq 66 d_NA_of_60 (by decide) (fun c_60 => ?_) (fun c_60 => ?_)
      · refine x_aload_n d_NA_of_66 rfl rfl ?_
        refine x_get d_NA_of_67 f_NA_19 (Nat.le_of_ble_eq_true rfl) (Nat.le_of_ble_eq_true rfl) (by first | rfl | assumption) (by rfl) ?_
        refine x_iload d_NA_of_70 rfl ?_
        refine x_iald d_NA_of_72 (Nat.le_of_ble_eq_true rfl) (Nat.le_of_ble_eq_true rfl) (by first | rfl | assumption) (vp_in_nI (show k < 9000 by omega) (by decide)) ?_
        refine x_topi (NX k) (by rw [nI_clamp (by omega)]) ?_
        refine x_istore d_NA_of_73 (Nat.le_of_ble_eq_true rfl) ?_
        refine x_goto 46 d_NA_of_75 (by decide) ?_
        exact ih _ hy2 (fun j hj => hl j (List.mem_cons_of_mem _ hj)) (by rw [if_neg (of_decide_eq_false (g_b2z c_60))] at hf; exact hf)
      · refine x_iload d_NA_of_63 rfl ?_
        exact x_ireturn d_NA_of_65 rfl rfl (by rw [if_pos (of_decide_eq_true (g_b2n c_60))] at hf; exact x_YEi _ ⟨by unfold g_nk; rw [← hf]; rfl, TX, FR, NX, FS, by unfold g_nT; rw [← hf]; exact hA, rfl⟩ (fun _ _ => by unfold g_nT; rw [← hf]))
  have hloop : ∀ m i (hh : Int32), i + m = x.length → (x.drop i).foldl (fun h c => 31 * h + c) hh = g_hh x → x_W E M_NA_of (x_room 1 0 0) (x_YE (fun v h1 => v = some (.int (nI (g_nk T x))) ∧ ∃ TX' FR' NX' FS', g_NA g_H (g_nT T x) TX' FR' NX' FS' ∧ h1 = (g_nw h (nI (g_nT T x).length) (nI (g_tot (g_nT T x))) TX' FR' NX' FS'))) 52 (g_nw h (nI T.length) (nI (g_tot T)) TX FR NX FS) 5 [(0, .ref 31), (1, .ref 40), (2, .int (nI x.length)), (3, .int hh), (4, .int (nI i))] [] 0 0 := by
    intro m
    induction m with
    | zero =>
      intro i hh hi he
      obtain rfl : i = x.length := by omega
      rw [List.drop_length] at he
      have he : hh = g_hh x := he
      subst he
      refine x_iload d_NA_of_5 rfl ?_
      refine x_iload_n d_NA_of_7 rfl rfl ?_
      refine x_icmp_ge 27 d_NA_of_8 (by decide) (fun _ => ?_) (fun z => absurd (nI_le (Nat.le_refl _) (by omega)) z)
      refine x_iload_n d_NA_of_27 rfl rfl ?_
      refine x_iload_n d_NA_of_28 rfl rfl ?_
      refine x_bipush 11 d_NA_of_29 (by decide) ?_
      refine x_iushr d_NA_of_31 ?_
      refine x_ixor d_NA_of_32 ?_
      refine x_sipush 1023 d_NA_of_33 (by decide) ?_
      refine x_iand d_NA_of_36 ?_
      refine x_topi (nI (g_H x)) (g_HL x).2 ?_
      refine x_istore_n d_NA_of_37 rfl (Nat.le_of_ble_eq_true rfl) ?_
      refine x_aload_n d_NA_of_38 rfl rfl ?_
      refine x_get d_NA_of_39 f_NA_22 (Nat.le_of_ble_eq_true rfl) (Nat.le_of_ble_eq_true rfl) (by first | rfl | assumption) (by rfl) ?_
      refine x_iload_n d_NA_of_42 rfl rfl ?_
      refine x_iald d_NA_of_43 (Nat.le_of_ble_eq_true rfl) (Nat.le_of_ble_eq_true rfl) (by first | rfl | assumption) (vp_in_nI hH (by decide)) ?_
      refine x_topi (FS (g_H x)) (by rw [nI_clamp (by omega)]) ?_
      refine x_istore d_NA_of_44 (Nat.le_of_ble_eq_true rfl) ?_
      exact hch _ _ (hA.2.2 _ hH) (g_clL T) (g_fdX T)
    | succ m ih =>
      intro i hh hi he
      have hix : i < x.length := by omega
      rw [List.drop_eq_getElem_cons hix, List.foldl_cons] at he
      refine x_iload d_NA_of_5 rfl ?_
      refine x_iload_n d_NA_of_7 rfl rfl ?_
      refine x_icmp_ge 27 d_NA_of_8 (by decide) (fun z => absurd z (nI_ge hix (by omega))) (fun _ => ?_)
      refine x_bipush 31 d_NA_of_11 (by decide) ?_
      refine x_iload_n d_NA_of_13 rfl rfl ?_
      refine x_imul d_NA_of_14 ?_
      refine x_aload_n d_NA_of_15 rfl rfl ?_
      refine x_iload d_NA_of_16 rfl ?_
      refine x_bald d_NA_of_18 (Nat.le_of_ble_eq_true rfl) (Nat.le_of_ble_eq_true rfl) (by first | rfl | assumption) (vp_in_nI (show i < 4096 by omega) (by decide)) ?_
      refine x_topi x[i] (by rw [nI_clamp (by omega)]; exact hx i hix) ?_
      refine x_iadd d_NA_of_19 ?_
      refine x_istore_n d_NA_of_20 rfl (Nat.le_of_ble_eq_true rfl) ?_
      refine x_iinc d_NA_of_21 rfl 1 (by decide) (Nat.le_of_ble_eq_true rfl) ?_
      refine x_goto 5 d_NA_of_24 (by decide) ?_
      refine x_lv [(0, .ref 31), (1, .ref 40), (2, .int (nI x.length)), (3, .int (31 * hh + x[i])), (4, .int (nI (i + 1)))] (by rw [nI_succ i]; rfl) ?_
      exact ih (i + 1) _ (by omega) he
  show x_W E M_NA_of _ _ 52 (g_nw h (nI T.length) (nI (g_tot T)) TX FR NX FS) 0 [(0, .ref 31), (1, .ref 40), (2, .int (nI x.length))] [] 0 0
  refine x_iload_n d_NA_of_0 rfl rfl ?_
  refine x_istore_n d_NA_of_1 rfl (Nat.le_of_ble_eq_true rfl) ?_
  refine x_iconst 0 d_NA_of_2 (by decide) ?_
  refine x_istore d_NA_of_3 (Nat.le_of_ble_eq_true rfl) ?_
  exact hloop x.length 0 (nI x.length) (by omega) rfl
