theorem g_prC {u : Nat → Nat} {N : Nat} {t : Nat → Nat → Nat → List (Nat × Nat) → g_Rs} {most p s p' s' c : Nat} {V V' : List (Nat × Nat)} {x : Nat × Std.Format} (hm : most ≤ 1200) (h : g_pr (g_at u N) u N t most p s V = .inr (p', s', V', x, c)) : c ≤ 1200 := by
  unfold g_pr at h
  by_cases h2 : g_ky (g_at u N) N p = 2
  · rw [if_pos h2] at h; cases h; decide
  rw [if_neg h2] at h
  by_cases h1 : g_ky (g_at u N) N p = 1
  · rw [if_pos h1] at h; cases h; decide
  rw [if_neg h1] at h
  by_cases h4 : g_ky (g_at u N) N p = 4
  · rw [if_pos h4] at h
    obtain ⟨p2, s2, V2, x2, c2, e1, e2⟩ := g_bdi h
    by_cases hk : g_ky (g_at u N) N p2 = 5
    · rw [if_pos hk] at e2; cases e2; decide
    · rw [if_neg hk] at e2; cases e2
  rw [if_neg h4] at h
  by_cases h6 : g_ky (g_at u N) N p = 6
  · rw [if_pos h6] at h
    have := g_li0 h
    omega
  rw [if_neg h6] at h
  by_cases h3 : g_ky (g_at u N) N p = 3
  · rw [if_pos h3] at h
    unfold g_nam at h
    by_cases h40 : g_at u N (g_bh (g_at u N) N p) = 40
    · rw [if_pos h40] at h
      have := g_ar0 _ _ _ _ _ h
      omega
    · rw [if_neg h40] at h
      by_cases hd : (g_dig (g_at u N (g_bh (g_at u N) N p)) && g_is (g_at u N) (g_fr (g_at u N) N p) (g_to (g_at u N) N p) [45]) = true
      · rw [if_pos hd] at h
        by_cases hx : g_ky (g_at u N) N (g_nx (g_at u N) N p) = 2
        · rw [if_pos hx] at h; cases h; decide
        · rw [if_neg hx] at h; cases h
      · rw [if_neg hd] at h
        by_cases hc : most < g_rk (g_px (g_at u N) N p) ∨ g_bg (g_at u N) N (g_nx (g_at u N) N p) = false
        · rw [if_pos hc] at h; cases h; decide
        · rw [if_neg hc] at h
          obtain ⟨p2, s2, V2, x2, c2, e1, e2⟩ := g_bdi h
          cases e2
          omega
  · rw [if_neg h3] at h; cases h
theorem g_ut10 {u : Nat → Nat} {N p : Nat} (hu : ∀ i, u i < 256) (h : g_ky (g_at u N) N p = 10) : g_ut u (g_fr (g_at u N) N p) (g_to (g_at u N) N p) = [44] := by
  obtain ⟨f1, f2, -, f4⟩ := g_tk10 h
  have hpN : p < N := g_at_nn (u := u) (fun q => by rw [f4] at q; exact absurd q (by decide))
  have h3 : g_sb (u p) = 44 := by rw [← g_loI (u := u) hpN]; exact (g_loE hu (by decide)).mpr f4
  rw [f1, f2, g_utN (fun k hk => by
    obtain rfl : k = 0 := by omega
    rw [show p + 0 = p from rfl, h3]; decide), show p + 1 - p = 1 by omega, g_tp, g_tp, h3]
theorem d_RD_term_0 : decode M_RD_term.2.1 0 = .ok (.aload_n 0, 1) := by decide +kernel
theorem d_RD_term_1 : decode M_RD_term.2.1 1 = .ok (.getfield 99, 3) := by decide +kernel
theorem d_RD_term_4 : decode M_RD_term.2.1 4 = .ok (.bipush 100, 2) := by decide +kernel
theorem d_RD_term_6 : decode M_RD_term.2.1 6 = .ok (.if_icmp .ne 12, 3) := by decide +kernel
theorem d_RD_term_9 : decode M_RD_term.2.1 9 = .ok (.aload_n 0, 1) := by decide +kernel
theorem d_RD_term_10 : decode M_RD_term.2.1 10 = .ok (.aload_n 0, 1) := by decide +kernel
theorem d_RD_term_11 : decode M_RD_term.2.1 11 = .ok (.getfield 116, 3) := by decide +kernel
theorem d_RD_term_14 : decode M_RD_term.2.1 14 = .ok (.invokevirtual 126, 3) := by decide +kernel
theorem d_RD_term_17 : decode M_RD_term.2.1 17 = .ok (.athrow, 1) := by decide +kernel
theorem d_RD_term_18 : decode M_RD_term.2.1 18 = .ok (.aload_n 0, 1) := by decide +kernel
theorem d_RD_term_19 : decode M_RD_term.2.1 19 = .ok (.dup, 1) := by decide +kernel
theorem d_RD_term_20 : decode M_RD_term.2.1 20 = .ok (.getfield 99, 3) := by decide +kernel
theorem d_RD_term_23 : decode M_RD_term.2.1 23 = .ok (.iconst 1, 1) := by decide +kernel
theorem d_RD_term_24 : decode M_RD_term.2.1 24 = .ok (.iadd, 1) := by decide +kernel
theorem d_RD_term_25 : decode M_RD_term.2.1 25 = .ok (.putfield 99, 3) := by decide +kernel
theorem d_RD_term_28 : decode M_RD_term.2.1 28 = .ok (.aload_n 0, 1) := by decide +kernel
theorem d_RD_term_29 : decode M_RD_term.2.1 29 = .ok (.iconst 0, 1) := by decide +kernel
theorem d_RD_term_30 : decode M_RD_term.2.1 30 = .ok (.putfield 204, 3) := by decide +kernel
theorem d_RD_term_33 : decode M_RD_term.2.1 33 = .ok (.aload_n 0, 1) := by decide +kernel
theorem d_RD_term_34 : decode M_RD_term.2.1 34 = .ok (.iload_n 1, 1) := by decide +kernel
theorem d_RD_term_35 : decode M_RD_term.2.1 35 = .ok (.invokevirtual 206, 3) := by decide +kernel
theorem d_RD_term_38 : decode M_RD_term.2.1 38 = .ok (.istore_n 2, 1) := by decide +kernel
theorem d_RD_term_39 : decode M_RD_term.2.1 39 = .ok (.aload_n 0, 1) := by decide +kernel
theorem d_RD_term_40 : decode M_RD_term.2.1 40 = .ok (.getfield 204, 3) := by decide +kernel
theorem d_RD_term_43 : decode M_RD_term.2.1 43 = .ok (.istore_n 3, 1) := by decide +kernel
theorem d_RD_term_44 : decode M_RD_term.2.1 44 = .ok (.aload_n 0, 1) := by decide +kernel
theorem d_RD_term_45 : decode M_RD_term.2.1 45 = .ok (.invokevirtual 198, 3) := by decide +kernel
theorem d_RD_term_48 : decode M_RD_term.2.1 48 = .ok (.istore 4, 2) := by decide +kernel
theorem d_RD_term_50 : decode M_RD_term.2.1 50 = .ok (.iload 4, 2) := by decide +kernel
theorem d_RD_term_52 : decode M_RD_term.2.1 52 = .ok (.sipush 500, 3) := by decide +kernel
theorem d_RD_term_55 : decode M_RD_term.2.1 55 = .ok (.if_icmp .eq 11, 3) := by decide +kernel
theorem d_RD_term_58 : decode M_RD_term.2.1 58 = .ok (.iload 4, 2) := by decide +kernel
theorem d_RD_term_60 : decode M_RD_term.2.1 60 = .ok (.sipush 400, 3) := by decide +kernel
theorem d_RD_term_63 : decode M_RD_term.2.1 63 = .ok (.if_icmp .ne 8, 3) := by decide +kernel
theorem d_RD_term_66 : decode M_RD_term.2.1 66 = .ok (.iload 4, 2) := by decide +kernel
theorem d_RD_term_68 : decode M_RD_term.2.1 68 = .ok (.goto 7, 3) := by decide +kernel
theorem d_RD_term_71 : decode M_RD_term.2.1 71 = .ok (.iload 4, 2) := by decide +kernel
theorem d_RD_term_73 : decode M_RD_term.2.1 73 = .ok (.iconst 1, 1) := by decide +kernel
theorem d_RD_term_74 : decode M_RD_term.2.1 74 = .ok (.isub, 1) := by decide +kernel
theorem d_RD_term_75 : decode M_RD_term.2.1 75 = .ok (.istore 5, 2) := by decide +kernel
theorem d_RD_term_77 : decode M_RD_term.2.1 77 = .ok (.iload 4, 2) := by decide +kernel
theorem d_RD_term_79 : decode M_RD_term.2.1 79 = .ok (.iconst (-1), 1) := by decide +kernel
theorem d_RD_term_80 : decode M_RD_term.2.1 80 = .ok (.if_icmp .eq 153, 3) := by decide +kernel
theorem d_RD_term_83 : decode M_RD_term.2.1 83 = .ok (.iload 4, 2) := by decide +kernel
theorem d_RD_term_85 : decode M_RD_term.2.1 85 = .ok (.iload_n 1, 1) := by decide +kernel
theorem d_RD_term_86 : decode M_RD_term.2.1 86 = .ok (.if_icmp .gt 147, 3) := by decide +kernel
theorem d_RD_term_89 : decode M_RD_term.2.1 89 = .ok (.iload_n 3, 1) := by decide +kernel
theorem d_RD_term_90 : decode M_RD_term.2.1 90 = .ok (.iload 5, 2) := by decide +kernel
theorem d_RD_term_92 : decode M_RD_term.2.1 92 = .ok (.if_icmp .le 6, 3) := by decide +kernel
theorem d_RD_term_95 : decode M_RD_term.2.1 95 = .ok (.goto 138, 3) := by decide +kernel
theorem d_RD_term_98 : decode M_RD_term.2.1 98 = .ok (.aload_n 0, 1) := by decide +kernel
theorem d_RD_term_99 : decode M_RD_term.2.1 99 = .ok (.getfield 123, 3) := by decide +kernel
theorem d_RD_term_102 : decode M_RD_term.2.1 102 = .ok (.bipush 10, 2) := by decide +kernel
theorem d_RD_term_104 : decode M_RD_term.2.1 104 = .ok (.if_icmp .ne 10, 3) := by decide +kernel
theorem d_RD_term_107 : decode M_RD_term.2.1 107 = .ok (.aload_n 0, 1) := by decide +kernel
theorem d_RD_term_108 : decode M_RD_term.2.1 108 = .ok (.invokevirtual 209, 3) := by decide +kernel
theorem d_RD_term_111 : decode M_RD_term.2.1 111 = .ok (.goto 7, 3) := by decide +kernel
theorem d_RD_term_114 : decode M_RD_term.2.1 114 = .ok (.aload_n 0, 1) := by decide +kernel
theorem d_RD_term_115 : decode M_RD_term.2.1 115 = .ok (.invokevirtual 212, 3) := by decide +kernel
theorem d_RD_term_118 : decode M_RD_term.2.1 118 = .ok (.istore 6, 2) := by decide +kernel
theorem d_RD_term_120 : decode M_RD_term.2.1 120 = .ok (.aload_n 0, 1) := by decide +kernel
theorem d_RD_term_121 : decode M_RD_term.2.1 121 = .ok (.invokevirtual 113, 3) := by decide +kernel
theorem d_RD_term_124 : decode M_RD_term.2.1 124 = .ok (.aload_n 0, 1) := by decide +kernel
theorem d_RD_term_125 : decode M_RD_term.2.1 125 = .ok (.getfield 102, 3) := by decide +kernel
theorem d_RD_term_128 : decode M_RD_term.2.1 128 = .ok (.istore 7, 2) := by decide +kernel
theorem d_RD_term_130 : decode M_RD_term.2.1 130 = .ok (.aload_n 0, 1) := by decide +kernel
theorem d_RD_term_131 : decode M_RD_term.2.1 131 = .ok (.getfield 72, 3) := by decide +kernel
theorem d_RD_term_134 : decode M_RD_term.2.1 134 = .ok (.aload_n 0, 1) := by decide +kernel
theorem d_RD_term_135 : decode M_RD_term.2.1 135 = .ok (.dup, 1) := by decide +kernel
theorem d_RD_term_136 : decode M_RD_term.2.1 136 = .ok (.getfield 102, 3) := by decide +kernel
theorem d_RD_term_139 : decode M_RD_term.2.1 139 = .ok (.dup_x1, 1) := by decide +kernel
theorem d_RD_term_140 : decode M_RD_term.2.1 140 = .ok (.iconst 1, 1) := by decide +kernel
theorem d_RD_term_141 : decode M_RD_term.2.1 141 = .ok (.iadd, 1) := by decide +kernel
theorem d_RD_term_142 : decode M_RD_term.2.1 142 = .ok (.putfield 102, 3) := by decide +kernel
theorem d_RD_term_145 : decode M_RD_term.2.1 145 = .ok (.iload_n 2, 1) := by decide +kernel
theorem d_RD_term_146 : decode M_RD_term.2.1 146 = .ok (.iastore, 1) := by decide +kernel
theorem d_RD_term_147 : decode M_RD_term.2.1 147 = .ok (.aload_n 0, 1) := by decide +kernel
theorem d_RD_term_148 : decode M_RD_term.2.1 148 = .ok (.iload 4, 2) := by decide +kernel
theorem d_RD_term_150 : decode M_RD_term.2.1 150 = .ok (.sipush 1100, 3) := by decide +kernel
theorem d_RD_term_153 : decode M_RD_term.2.1 153 = .ok (.if_icmp .eq 19, 3) := by decide +kernel
theorem d_RD_term_156 : decode M_RD_term.2.1 156 = .ok (.iload 4, 2) := by decide +kernel
theorem d_RD_term_158 : decode M_RD_term.2.1 158 = .ok (.sipush 1050, 3) := by decide +kernel
theorem d_RD_term_161 : decode M_RD_term.2.1 161 = .ok (.if_icmp .eq 11, 3) := by decide +kernel
theorem d_RD_term_164 : decode M_RD_term.2.1 164 = .ok (.iload 4, 2) := by decide +kernel
theorem d_RD_term_166 : decode M_RD_term.2.1 166 = .ok (.sipush 1000, 3) := by decide +kernel
theorem d_RD_term_169 : decode M_RD_term.2.1 169 = .ok (.if_icmp .ne 8, 3) := by decide +kernel
theorem d_RD_term_172 : decode M_RD_term.2.1 172 = .ok (.iload 4, 2) := by decide +kernel
theorem d_RD_term_174 : decode M_RD_term.2.1 174 = .ok (.goto 7, 3) := by decide +kernel
theorem d_RD_term_177 : decode M_RD_term.2.1 177 = .ok (.iload 4, 2) := by decide +kernel
theorem d_RD_term_179 : decode M_RD_term.2.1 179 = .ok (.iconst 1, 1) := by decide +kernel
theorem d_RD_term_180 : decode M_RD_term.2.1 180 = .ok (.isub, 1) := by decide +kernel
theorem d_RD_term_181 : decode M_RD_term.2.1 181 = .ok (.invokevirtual 119, 3) := by decide +kernel
theorem d_RD_term_184 : decode M_RD_term.2.1 184 = .ok (.istore 8, 2) := by decide +kernel
theorem d_RD_term_186 : decode M_RD_term.2.1 186 = .ok (.aload_n 0, 1) := by decide +kernel
theorem d_RD_term_187 : decode M_RD_term.2.1 187 = .ok (.getfield 72, 3) := by decide +kernel
theorem d_RD_term_190 : decode M_RD_term.2.1 190 = .ok (.aload_n 0, 1) := by decide +kernel
theorem d_RD_term_191 : decode M_RD_term.2.1 191 = .ok (.dup, 1) := by decide +kernel
theorem d_RD_term_192 : decode M_RD_term.2.1 192 = .ok (.getfield 102, 3) := by decide +kernel
theorem d_RD_term_195 : decode M_RD_term.2.1 195 = .ok (.dup_x1, 1) := by decide +kernel
theorem d_RD_term_196 : decode M_RD_term.2.1 196 = .ok (.iconst 1, 1) := by decide +kernel
theorem d_RD_term_197 : decode M_RD_term.2.1 197 = .ok (.iadd, 1) := by decide +kernel
theorem d_RD_term_198 : decode M_RD_term.2.1 198 = .ok (.putfield 102, 3) := by decide +kernel
theorem d_RD_term_201 : decode M_RD_term.2.1 201 = .ok (.iload 8, 2) := by decide +kernel
theorem d_RD_term_203 : decode M_RD_term.2.1 203 = .ok (.iastore, 1) := by decide +kernel
theorem d_RD_term_204 : decode M_RD_term.2.1 204 = .ok (.aload_n 0, 1) := by decide +kernel
theorem d_RD_term_205 : decode M_RD_term.2.1 205 = .ok (.getfield 81, 3) := by decide +kernel
theorem d_RD_term_208 : decode M_RD_term.2.1 208 = .ok (.iload 6, 2) := by decide +kernel
theorem d_RD_term_210 : decode M_RD_term.2.1 210 = .ok (.aload_n 0, 1) := by decide +kernel
theorem d_RD_term_211 : decode M_RD_term.2.1 211 = .ok (.getfield 72, 3) := by decide +kernel
theorem d_RD_term_214 : decode M_RD_term.2.1 214 = .ok (.iload 7, 2) := by decide +kernel
theorem d_RD_term_216 : decode M_RD_term.2.1 216 = .ok (.iconst 2, 1) := by decide +kernel
theorem d_RD_term_217 : decode M_RD_term.2.1 217 = .ok (.invokevirtual 215, 3) := by decide +kernel
theorem d_RD_term_220 : decode M_RD_term.2.1 220 = .ok (.istore_n 2, 1) := by decide +kernel
theorem d_RD_term_221 : decode M_RD_term.2.1 221 = .ok (.aload_n 0, 1) := by decide +kernel
theorem d_RD_term_222 : decode M_RD_term.2.1 222 = .ok (.iload 7, 2) := by decide +kernel
theorem d_RD_term_224 : decode M_RD_term.2.1 224 = .ok (.putfield 102, 3) := by decide +kernel
theorem d_RD_term_227 : decode M_RD_term.2.1 227 = .ok (.iload 4, 2) := by decide +kernel
theorem d_RD_term_229 : decode M_RD_term.2.1 229 = .ok (.istore_n 3, 1) := by decide +kernel
theorem d_RD_term_230 : decode M_RD_term.2.1 230 = .ok (.goto (-186), 3) := by decide +kernel
theorem d_RD_term_233 : decode M_RD_term.2.1 233 = .ok (.aload_n 0, 1) := by decide +kernel
theorem d_RD_term_234 : decode M_RD_term.2.1 234 = .ok (.dup, 1) := by decide +kernel
theorem d_RD_term_235 : decode M_RD_term.2.1 235 = .ok (.getfield 99, 3) := by decide +kernel
theorem d_RD_term_238 : decode M_RD_term.2.1 238 = .ok (.iconst 1, 1) := by decide +kernel
theorem d_RD_term_239 : decode M_RD_term.2.1 239 = .ok (.isub, 1) := by decide +kernel
theorem d_RD_term_240 : decode M_RD_term.2.1 240 = .ok (.putfield 99, 3) := by decide +kernel
theorem d_RD_term_243 : decode M_RD_term.2.1 243 = .ok (.aload_n 0, 1) := by decide +kernel
theorem d_RD_term_244 : decode M_RD_term.2.1 244 = .ok (.iload_n 3, 1) := by decide +kernel
theorem d_RD_term_245 : decode M_RD_term.2.1 245 = .ok (.putfield 204, 3) := by decide +kernel
theorem d_RD_term_248 : decode M_RD_term.2.1 248 = .ok (.iload_n 2, 1) := by decide +kernel
theorem d_RD_term_249 : decode M_RD_term.2.1 249 = .ok (.ireturn, 1) := by decide +kernel
theorem g_opRa : ∀ o, o < 24 → o ≠ 4 → o ≠ 22 → o ≠ 23 → g_rk o ≤ 1200 ∧ g_rkV o = nI (g_rk o) := by decide
theorem g_opTb : ∀ o, o < 24 → (o = 4 ∨ o = 22 ∨ o = 23 ∨ (g_rk o = 500 ∧ g_lf o = 500) ∨ (g_rk o = 400 ∧ g_lf o = 400) ∨ (g_rk o ≠ 500 ∧ g_rk o ≠ 400 ∧ g_lf o + 1 = g_rk o)) := by decide
theorem g_opTd : ∀ o, o < 24 → (o = 4 ∨ o = 22 ∨ o = 23 ∨ (g_rk o = 1100 ∧ g_rt o = 1100) ∨ (g_rk o = 1050 ∧ g_rt o = 1050) ∨ (g_rk o = 1000 ∧ g_rt o = 1000) ∨ ((g_rk o ≠ 1100 ∧ g_rk o ≠ 1050 ∧ g_rk o ≠ 1000) ∧ g_rt o + 1 = g_rk o)) := by decide
theorem g_opRb (o : Nat) (h1 : o < 24) (h2 : o ≠ 4) (h3 : o ≠ 22) (h4 : o ≠ 23) : (g_rk o = 500 ∨ g_rk o = 400) → g_lf o = g_rk o := by have := g_opTb o h1; omega
theorem g_opRc (o : Nat) (h1 : o < 24) (h2 : o ≠ 4) (h3 : o ≠ 22) (h4 : o ≠ 23) : ¬ (g_rk o = 500 ∨ g_rk o = 400) → g_lf o + 1 = g_rk o := by have := g_opTb o h1; omega
theorem g_opRd (o : Nat) (h1 : o < 24) (h2 : o ≠ 4) (h3 : o ≠ 22) (h4 : o ≠ 23) : (g_rk o = 1100 ∨ g_rk o = 1050 ∨ g_rk o = 1000) → g_rt o = g_rk o := by have := g_opTd o h1; omega
theorem g_opRe (o : Nat) (h1 : o < 24) (h2 : o ≠ 4) (h3 : o ≠ 22) (h4 : o ≠ 23) : ¬ (g_rk o = 1100 ∨ g_rk o = 1050 ∨ g_rk o = 1000) → g_rt o + 1 = g_rk o := by have := g_opTd o h1; omega
theorem g_opR (o : Nat) (h1 : o < 24) (h2 : o ≠ 4) (h3 : o ≠ 22) (h4 : o ≠ 23) : g_rk o ≤ 1200 ∧ g_rkV o = nI (g_rk o) ∧ ((g_rk o = 500 ∨ g_rk o = 400) → g_lf o = g_rk o) ∧ (¬ (g_rk o = 500 ∨ g_rk o = 400) → g_lf o + 1 = g_rk o) ∧ ((g_rk o = 1100 ∨ g_rk o = 1050 ∨ g_rk o = 1000) → g_rt o = g_rk o) ∧ (¬ (g_rk o = 1100 ∨ g_rk o = 1050 ∨ g_rk o = 1000) → g_rt o + 1 = g_rk o) :=
  ⟨(g_opRa o h1 h2 h3 h4).1, (g_opRa o h1 h2 h3 h4).2, g_opRb o h1 h2 h3 h4, g_opRc o h1 h2 h3 h4, g_opRd o h1 h2 h3 h4, g_opRe o h1 h2 h3 h4⟩
theorem g_opX {u : Nat → Nat} {N p : Nat} : g_op (g_at u N) N p < 24 ∧ g_op (g_at u N) N p ≠ 4 ∧ g_op (g_at u N) N p ≠ 22 := ⟨g_infL, g_inf4.1, g_inf4.2⟩
set_option maxRecDepth 20000 in
theorem w_RD_inLoop {E : xR} {h : xH} {u : Nat → Nat} {N d : Nat} (h22 : h 22 = .inl (1, 4096, .inl (fun i => g_sb (u i)))) (hu : ∀ i, u i < 256) (hN : N ≤ 4096) (hB : g_TB2 h) (hM : g_MC E h u N d) {most s o t0 z q : Nat} {T : List (List Int32)} {B : Nat → Nat → Int32} {Nm : Nat → Int64} {St : Nat → Int32} {pl kn : Int32} {R : g_Rs} (hm : most ≤ 1200) (ht0 : t0 + q ≤ z) (hz : z ≤ s) (ho : o + (d + 1) = 100) : ∀ (m p1 s1 z1 q1 r lr : Nat) (T1 : List (List Int32)) (Na1 B1 : Nat → Nat → Int32) (Nm1 : Nat → Int64) (St1 Vr1 Kp1 : Nat → Int32) (bh1 lt1 : Int32) (nm1 : Int64) (rk1 : Int32) (Wd1 : Nat → Int32) (V1 : List (Nat × Nat)) (l : Nat × Std.Format), N < p1 + m → p1 ≤ N → s1 ≤ p1 → V1.length ≤ s1 → lr ≤ 1200 → g_NI T1 Na1 p1 → g_MV u T1 Vr1 V1 → g_TO u N p1 bh1 lt1 nm1 Wd1 → g_mE T T1 B B1 Nm Nm1 z q z1 q1 → z1 + s = z + s1 → q1 + s + 1 = q + s1 → (∀ k, k < t0 → St1 k = St k) → g_wf u N l.2 → g_lk u N l.1 l.2 → g_mT u N T1 B1 Nm1 z1 q1 l r → (g_inL (g_at u N) N (g_T (g_at u N) u N d) most m p1 s1 V1 l lr) = R → x_W E M_RD_term (x_room (4 * (d + 1) + 12) 0 0) (g_MK u N h o t0 pl kn T B Nm z q St s R) 52 (g_mw h N T1 Na1 B1 Nm1 z1 q1 St1 Vr1 Kp1 (nI p1) bh1 (nI (g_ky (g_at u N) N p1)) (nI (o + 1)) nm1 lt1 (nI t0) pl (nI V1.length) kn rk1 Wd1) 44 [(0, .ref 36), (1, .int (nI most)), (2, .int (nI r)), (3, .int (nI lr))] [] 0 0 := by
  intro m
  induction m with
  | zero => intro p1 s1 z1 q1 r lr T1 Na1 B1 Nm1 St1 Vr1 Kp1 bh1 lt1 nm1 rk1 Wd1 V1 l hm1 hp1; omega
  | succ m ih =>
    intro p1 s1 z1 q1 r lr T1 Na1 B1 Nm1 St1 Vr1 Kp1 bh1 lt1 nm1 rk1 Wd1 V1 l hm1 hp1 hs1 hV1 hlr hNI1 hMV1 hTO1 hE1 hz1 hq1 hS1 hwl hll hT1 hR
    have hkL := g_kyL (u := u) hp1
    have hop := g_opX (u := u) (N := N) (p := p1)
    have hnib := g_NIb hNI1
    rw [g_inL] at hR
    have hout : (most < g_rk (g_op (g_at u N) N p1) ∨ g_lf (g_op (g_at u N) N p1) < lr) → ∀ x4 x5 : Value, x_W E M_RD_term (x_room (4 * (d + 1) + 12) 0 0) (g_MK u N h o t0 pl kn T B Nm z q St s R) 52 (g_mw h N T1 Na1 B1 Nm1 z1 q1 St1 Vr1 Kp1 (nI p1) bh1 (nI (g_ky (g_at u N) N p1)) (nI (o + 1)) nm1 lt1 (nI t0) pl (nI V1.length) kn rk1 Wd1) 233 [(0, .ref 36), (1, .int (nI most)), (2, .int (nI r)), (3, .int (nI lr)), (4, x4), (5, x5)] [] 0 0 := by
      intro hc x4 x5
      rw [if_pos hc] at hR
      refine x_aload_n d_RD_term_233 rfl rfl ?_
      refine x_dup d_RD_term_234 rfl ?_
      refine x_get d_RD_term_235 f_RD_99 (Nat.le_of_ble_eq_true rfl) (Nat.le_of_ble_eq_true rfl) (by first | rfl | assumption) (by rfl) ?_
      refine x_iconst 1 d_RD_term_238 (by decide) ?_
      refine x_isub d_RD_term_239 ?_
      refine x_topi (nI o) (g_nIsub (a := o + 1) (b := 1) (by omega)) ?_
      refine x_put d_RD_term_240 f_RD_99 (Nat.le_of_ble_eq_true rfl) (Nat.le_of_ble_eq_true rfl) (by first | rfl | assumption) (by rfl) (by rfl) (by exact (Nat.le_of_ble_eq_true rfl)) ?_
      refine x_aload_n d_RD_term_243 rfl rfl ?_
      refine x_iload_n d_RD_term_244 rfl rfl ?_
      refine x_put d_RD_term_245 f_RD_204 (Nat.le_of_ble_eq_true rfl) (Nat.le_of_ble_eq_true rfl) (by first | rfl | assumption) (by rfl) (by rfl) (by exact (Nat.le_of_ble_eq_true rfl)) ?_
      refine x_same (h' := (g_mw h N T1 Na1 B1 Nm1 z1 q1 St1 Vr1 Kp1 (nI p1) bh1 (nI (g_ky (g_at u N) N p1)) (nI o) nm1 lt1 (nI t0) pl (nI V1.length) kn (nI lr) Wd1)) (x_pt rfl rfl rfl rfl rfl rfl rfl rfl rfl rfl rfl rfl rfl rfl rfl rfl rfl rfl rfl rfl rfl rfl rfl rfl rfl rfl rfl rfl rfl rfl rfl rfl rfl rfl rfl rfl rfl rfl rfl rfl rfl rfl rfl rfl rfl rfl rfl rfl rfl rfl rfl rfl) ?_
      refine x_iload_n d_RD_term_248 rfl rfl ?_
      exact x_ireturn d_RD_term_249 rfl rfl (g_MKi hR.symm ⟨r, T1, Na1, B1, Nm1, z1, q1, St1, Vr1, Kp1, bh1, lt1, nm1, Wd1, rfl, hNI1, hMV1, hTO1, hE1, hz1, hq1, hS1, hT1, rfl⟩)
    have hgo : ¬ (g_op (g_at u N) N p1) = 23 → ∀ y : Int32, y = nI (g_lf (g_op (g_at u N) N p1)) → x_W E M_RD_term (x_room (4 * (d + 1) + 12) 0 0) (g_MK u N h o t0 pl kn T B Nm z q St s R) 52 (g_mw h N T1 Na1 B1 Nm1 z1 q1 St1 Vr1 Kp1 (nI p1) bh1 (nI (g_ky (g_at u N) N p1)) (nI (o + 1)) nm1 lt1 (nI t0) pl (nI V1.length) kn rk1 Wd1) 77 [(0, .ref 36), (1, .int (nI most)), (2, .int (nI r)), (3, .int (nI lr)), (4, .int (nI (g_rk (g_op (g_at u N) N p1)))), (5, .int y)] [] 0 0 := by
      intro n23 y hy
      subst hy
      obtain ⟨o1, o2, o3, o4, o5, o6⟩ := g_opR _ hop.1 hop.2.1 hop.2.2 n23
      have hk : (g_ky (g_at u N) N p1) = 3 ∨ (g_ky (g_at u N) N p1) = 10 := g_opk hp1 o1
      obtain rfl : bh1 = nI (g_bh (g_at u N) N p1) := hTO1.2.1 (by omega)
      have hnb := g_nxb (u := u) hp1 (by omega)
      have hnb2 := hnb.2.2 (by omega)
      have htk := g_tkP hu hp1 (Or.inr hk)
      have hlfL : g_lf (g_op (g_at u N) N p1) ≤ 1200 := by
        by_cases e : g_rk (g_op (g_at u N) N p1) = 500 ∨ g_rk (g_op (g_at u N) N p1) = 400
        · rw [o3 e]; exact o1
        · have := o4 e; omega
      have hrest : most ≥ g_rk (g_op (g_at u N) N p1) → lr ≤ g_lf (g_op (g_at u N) N p1) → ∀ (Na2 : Nat → Nat → Int32) (lt2 : Int32) (Wd2 : Nat → Int32), g_NB (g_nT T1 (g_ut u (g_fr (g_at u N) N p1) (g_to (g_at u N) N p1))) Na2 → x_W E M_RD_term (x_room (4 * (d + 1) + 12) 0 0) (g_MK u N h o t0 pl kn T B Nm z q St s R) 52 (g_mw h N (g_nT T1 (g_ut u (g_fr (g_at u N) N p1) (g_to (g_at u N) N p1))) Na2 B1 Nm1 z1 q1 St1 Vr1 Kp1 (nI p1) (nI (g_bh (g_at u N) N p1)) (nI (g_ky (g_at u N) N p1)) (nI (o + 1)) nm1 lt2 (nI t0) pl (nI V1.length) kn rk1 Wd2) 120 [(0, .ref 36), (1, .int (nI most)), (2, .int (nI r)), (3, .int (nI lr)), (4, .int (nI (g_rk (g_op (g_at u N) N p1)))), (6, .int (nI (g_nk T1 (g_ut u (g_fr (g_at u N) N p1) (g_to (g_at u N) N p1)))))] [] 0 0 := by
        intro hmo hle Na2 lt2 Wd2 hA2
        have hNI2 : g_NI (g_nT T1 (g_ut u (g_fr (g_at u N) N p1) (g_to (g_at u N) N p1))) Na2 (g_nx (g_at u N) N p1) := g_NIn hNI1 hA2 (by omega) (by omega)
        have hnib2 := g_NIb hNI2
        have hkx := g_nkT T1 (g_ut u (g_fr (g_at u N) N p1) (g_to (g_at u N) N p1))
        have hkxL := g_ntL _ _ _ hkx
        rw [if_neg (by omega)] at hR
        have hE2 : g_mE T1 (g_nT T1 (g_ut u (g_fr (g_at u N) N p1) (g_to (g_at u N) N p1))) B1 B1 Nm1 Nm1 z1 q1 z1 q1 := ⟨Nat.le_refl _, Nat.le_refl _, fun _ _ y => g_nTm y, fun _ _ => ⟨fun _ _ => rfl, rfl⟩, fun _ _ => rfl⟩
        obtain ⟨eL1, eL2, eL3⟩ := g_lbT (k := 3) hN (by decide) hp1 (Or.inr hk)
        refine x_aload_n d_RD_term_120 rfl rfl ?_
        refine x_callV0E d_RD_term_121 k_RD_113 (Nat.le_of_ble_eq_true rfl) (Nat.le_of_ble_eq_true rfl) (by first | rfl | assumption) (by rfl) (w_RD_scan (p := (g_nx (g_at u N) N p1)) h22 hu hN (g_bhN hu ⟨hp1, (by omega)⟩) rfl) (show 6 + 1 ≤ 4 * (d + 1) + 12 by omega) (show 8 + (4 + 11) + 64 * (6) ≤ 64 * (4 * (d + 1) + 12) by omega) (Nat.le_of_ble_eq_true rfl) (Nat.le_of_ble_eq_true rfl) (Nat.le_of_ble_eq_true rfl) rfl (fun v1 hh1 hp1 => ?_)
        obtain ⟨rfl, bh3, lt3, nm3, Wd3, hTO3, rfl⟩ := hp1
        refine x_same (h' := (g_mw h N (g_nT T1 (g_ut u (g_fr (g_at u N) N p1) (g_to (g_at u N) N p1))) Na2 B1 Nm1 z1 q1 St1 Vr1 Kp1 (nI (g_nx (g_at u N) N p1)) bh3 (nI (g_ky (g_at u N) N (g_nx (g_at u N) N p1))) (nI (o + 1)) nm3 lt3 (nI t0) pl (nI V1.length) kn rk1 Wd3)) (fun _ _ => rfl) ?_
        refine x_aload_n d_RD_term_124 rfl rfl ?_
        refine x_get d_RD_term_125 f_RD_102 (Nat.le_of_ble_eq_true rfl) (Nat.le_of_ble_eq_true rfl) (by first | rfl | assumption) (by rfl) ?_
        refine x_istore d_RD_term_128 (Nat.le_of_ble_eq_true rfl) ?_
        refine x_aload_n d_RD_term_130 rfl rfl ?_
        refine x_get d_RD_term_131 f_RD_72 (Nat.le_of_ble_eq_true rfl) (Nat.le_of_ble_eq_true rfl) (by first | rfl | assumption) (by rfl) ?_
        refine x_aload_n d_RD_term_134 rfl rfl ?_
        refine x_dup d_RD_term_135 rfl ?_
        refine x_get d_RD_term_136 f_RD_102 (Nat.le_of_ble_eq_true rfl) (Nat.le_of_ble_eq_true rfl) (by first | rfl | assumption) (by rfl) ?_
        refine x_dup_x1 d_RD_term_139 rfl rfl ?_
        refine x_iconst 1 d_RD_term_140 (by decide) ?_
        refine x_iadd d_RD_term_141 ?_
        refine x_topi (nI (t0 + 1)) (nI_succ t0).symm ?_
        refine x_put d_RD_term_142 f_RD_102 (Nat.le_of_ble_eq_true rfl) (Nat.le_of_ble_eq_true rfl) (by first | rfl | assumption) (by rfl) (by rfl) (by exact (Nat.le_of_ble_eq_true rfl)) ?_
        refine x_iload_n d_RD_term_145 rfl rfl ?_
        refine x_iast d_RD_term_146 (Nat.le_of_ble_eq_true rfl) (Nat.le_of_ble_eq_true rfl) (by first | rfl | assumption) (vp_in_nI (show t0 < 4200 by omega) (by decide)) ?_
        refine x_same (h' := (g_mw h N (g_nT T1 (g_ut u (g_fr (g_at u N) N p1) (g_to (g_at u N) N p1))) Na2 B1 Nm1 z1 q1 (upd St1 t0 (nI r)) Vr1 Kp1 (nI (g_nx (g_at u N) N p1)) bh3 (nI (g_ky (g_at u N) N (g_nx (g_at u N) N p1))) (nI (o + 1)) nm3 lt3 (nI (t0 + 1)) pl (nI V1.length) kn rk1 Wd3)) (x_pt rfl rfl rfl rfl rfl rfl rfl rfl rfl rfl rfl rfl rfl rfl rfl rfl rfl rfl rfl rfl rfl rfl rfl rfl rfl rfl rfl rfl rfl rfl rfl rfl rfl rfl rfl rfl rfl rfl rfl rfl rfl (show Sum.inl (0, 4200, Sum.inl (upd _ (nI t0).toNatClampNeg _)) = _ by rw [nI_clamp (by omega)]; rfl) rfl rfl rfl rfl rfl rfl rfl rfl rfl rfl) ?_
        have h181 : ∀ y : Int32, y = nI (g_rt (g_op (g_at u N) N p1)) → x_W E M_RD_term (x_room (4 * (d + 1) + 12) 0 0) (g_MK u N h o t0 pl kn T B Nm z q St s R) 52 (g_mw h N (g_nT T1 (g_ut u (g_fr (g_at u N) N p1) (g_to (g_at u N) N p1))) Na2 B1 Nm1 z1 q1 (upd St1 t0 (nI r)) Vr1 Kp1 (nI (g_nx (g_at u N) N p1)) bh3 (nI (g_ky (g_at u N) N (g_nx (g_at u N) N p1))) (nI (o + 1)) nm3 lt3 (nI (t0 + 1)) pl (nI V1.length) kn rk1 Wd3) 181 [(0, .ref 36), (1, .int (nI most)), (2, .int (nI r)), (3, .int (nI lr)), (4, .int (nI (g_rk (g_op (g_at u N) N p1)))), (6, .int (nI (g_nk T1 (g_ut u (g_fr (g_at u N) N p1) (g_to (g_at u N) N p1))))), (7, .int (nI t0))] [.int y, .ref 36] 0 0 := by
          intro y hy
          subst hy
          refine x_callV1M d_RD_term_181 k_RD_119 (Nat.le_of_ble_eq_true rfl) (Nat.le_of_ble_eq_true rfl) (by first | rfl | assumption) (by rfl) (hM (g_rt (g_op (g_at u N) N p1)) (g_nx (g_at u N) N p1) (s1 + 1) (o + 1) (t0 + 1) z1 q1 (g_nT T1 (g_ut u (g_fr (g_at u N) N p1) (g_to (g_at u N) N p1))) Na2 B1 Nm1 (upd St1 t0 (nI r)) Vr1 Kp1 bh3 lt3 nm3 pl kn rk1 Wd3 V1 (g_rtL _ hop.1) hnb.2.1 (by omega) (by omega) (by omega) (by omega) (by omega) hNI2 (g_MV_mv (fun _ _ y => g_nTm y) hMV1) hTO3) (show 4 * d + 12 + 1 ≤ 4 * (d + 1) + 12 by omega) (show 8 + (9 + 11) + 64 * (4 * d + 12) ≤ 64 * (4 * (d + 1) + 12) by omega) (Nat.le_of_ble_eq_true rfl) (Nat.le_of_ble_eq_true rfl) (Nat.le_of_ble_eq_true rfl) rfl (fun p4 s4 V4 t4 c4 v4 hh4 hr4 hR4 => ?_) (fun x h' hd hx => g_MKx (hR ▸ g_de_bd hd (fun _ _ _ _ h8 => g_inL8 hm h8)) hx)
          obtain ⟨r4, T4, Na4, B4, Nm4, z4, q4, St4, Vr4, Kp4, bh4, lt4, nm4, Wd4, rfl, hNI4, hMV4, hTO4, hE4, hz4, hq4, hS4, hT4, rfl⟩ := hR4
          have b4 := g_Tb (u := u) d (g_rt (g_op (g_at u N) N p1)) (g_nx (g_at u N) N p1) (s1 + 1) V1 (g_rtL _ hop.1) hnb.2.1 _ _ _ _ _ hr4
          obtain ⟨kk4, d4, e4⟩ := g_Td (u := u) hN d (g_rt (g_op (g_at u N) N p1)) (g_nx (g_at u N) N p1) (s1 + 1) V1 (g_rtL _ hop.1) hnb.2.1 (by omega) (by omega) _ _ _ _ _ hr4
          have hv4 := g_QV e4
          rw [hr4] at hR
          have hR : (g_inL (g_at u N) N (g_T (g_at u N) u N d) most m p4 s4 V4 (g_lb 3 (g_fr (g_at u N) N p1) (g_to (g_at u N) N p1), g_nd l (g_nd t4 g_nil)) (g_rk (g_op (g_at u N) N p1))) = R := hR
          have hAS : g_AS u N T4 B4 Nm4 z4 q4 (upd St4 (t0 + 1) (nI r4)) t0 [t4, l] := ⟨⟨r4, g_updY, e4.1.2.1, e4.1.1, hT4⟩, ⟨⟨r, by rw [g_updN (show t0 + ([] : List (Nat × Std.Format)).length ≠ t0 + 1 by show t0 + 0 ≠ _; omega)]; exact (hS4 t0 (by omega)).trans g_updY, hwl, hll, g_mT_mv (g_mEt hE2 hE4) hwl hT1⟩, trivial⟩⟩
          have hkx4 := hE4.2.2.1 _ _ hkx
          refine x_istore d_RD_term_184 (Nat.le_of_ble_eq_true rfl) ?_
          refine x_aload_n d_RD_term_186 rfl rfl ?_
          refine x_get d_RD_term_187 f_RD_72 (Nat.le_of_ble_eq_true rfl) (Nat.le_of_ble_eq_true rfl) (by first | rfl | assumption) (by rfl) ?_
          refine x_aload_n d_RD_term_190 rfl rfl ?_
          refine x_dup d_RD_term_191 rfl ?_
          refine x_get d_RD_term_192 f_RD_102 (Nat.le_of_ble_eq_true rfl) (Nat.le_of_ble_eq_true rfl) (by first | rfl | assumption) (by rfl) ?_
          refine x_dup_x1 d_RD_term_195 rfl rfl ?_
          refine x_iconst 1 d_RD_term_196 (by decide) ?_
          refine x_iadd d_RD_term_197 ?_
          refine x_topi (nI (t0 + 2)) (nI_succ (t0 + 1)).symm ?_
          refine x_put d_RD_term_198 f_RD_102 (Nat.le_of_ble_eq_true rfl) (Nat.le_of_ble_eq_true rfl) (by first | rfl | assumption) (by rfl) (by rfl) (by exact (Nat.le_of_ble_eq_true rfl)) ?_
          refine x_iload d_RD_term_201 rfl ?_
          refine x_iast d_RD_term_203 (Nat.le_of_ble_eq_true rfl) (Nat.le_of_ble_eq_true rfl) (by first | rfl | assumption) (vp_in_nI (show t0 + 1 < 4200 by omega) (by decide)) ?_
          refine x_same (h' := (g_mw h N T4 Na4 B4 Nm4 z4 q4 (upd St4 (t0 + 1) (nI r4)) Vr4 Kp4 (nI p4) bh4 (nI (g_ky (g_at u N) N p4)) (nI (o + 1)) nm4 lt4 (nI (t0 + 2)) pl (nI V4.length) kn (nI c4) Wd4)) (x_pt rfl rfl rfl rfl rfl rfl rfl rfl rfl rfl rfl rfl rfl rfl rfl rfl rfl rfl rfl rfl rfl rfl rfl rfl rfl rfl rfl rfl rfl rfl rfl rfl rfl rfl rfl rfl rfl rfl rfl rfl rfl (show Sum.inl (0, 4200, Sum.inl (upd _ (nI (t0 + 1)).toNatClampNeg _)) = _ by rw [nI_clamp (by omega)]; rfl) rfl rfl rfl rfl rfl rfl rfl rfl rfl rfl) ?_
          refine x_aload_n d_RD_term_204 rfl rfl ?_
          refine x_get d_RD_term_205 f_RD_81 (Nat.le_of_ble_eq_true rfl) (Nat.le_of_ble_eq_true rfl) (by first | rfl | assumption) (by rfl) ?_
          refine x_iload d_RD_term_208 rfl ?_
          refine x_aload_n d_RD_term_210 rfl rfl ?_
          refine x_get d_RD_term_211 f_RD_72 (Nat.le_of_ble_eq_true rfl) (Nat.le_of_ble_eq_true rfl) (by first | rfl | assumption) (by rfl) ?_
          refine x_iload d_RD_term_214 rfl ?_
          refine x_iconst 2 d_RD_term_216 (by decide) ?_
          refine x_same (h' := (g_ew (g_mw h N T4 Na4 B4 Nm4 z4 q4 (upd St4 (t0 + 1) (nI r4)) Vr4 Kp4 (nI p4) bh4 (nI (g_ky (g_at u N) N p4)) (nI (o + 1)) nm4 lt4 (nI (t0 + 2)) pl (nI V4.length) kn (nI c4) Wd4) B4 Nm4 (nI z4) (nI q4))) (x_pt rfl rfl rfl rfl rfl rfl rfl rfl rfl rfl rfl rfl rfl rfl rfl rfl rfl rfl rfl rfl rfl rfl rfl rfl rfl rfl rfl rfl rfl rfl rfl rfl rfl rfl rfl rfl rfl rfl rfl rfl rfl rfl rfl rfl rfl rfl rfl rfl rfl rfl rfl rfl) ?_
          refine x_callV4Y d_RD_term_217 k_RD_215 (Nat.le_of_ble_eq_true rfl) (Nat.le_of_ble_eq_true rfl) (by first | rfl | assumption) (by rfl) (w_TS_compound (h := (g_mw h N T4 Na4 B4 Nm4 z4 q4 (upd St4 (t0 + 1) (nI r4)) Vr4 Kp4 (nI p4) bh4 (nI (g_ky (g_at u N) N p4)) (nI (o + 1)) nm4 lt4 (nI (t0 + 2)) pl (nI V4.length) kn (nI c4) Wd4)) (z := z4) (q := q4) (mark := t0) (m := 2) (by omega) (by omega) rfl (by omega)) (show 0 + 1 ≤ 4 * (d + 1) + 12 by omega) (show 8 + (6 + 11) + 64 * (0) ≤ 64 * (4 * (d + 1) + 12) by omega) (Nat.le_of_ble_eq_true rfl) (Nat.le_of_ble_eq_true rfl) (Nat.le_of_ble_eq_true rfl) rfl ?_
          refine x_same (h' := (g_mw h N T4 Na4 (g_bc B4 z4 q4 (nI (g_nk T1 (g_ut u (g_fr (g_at u N) N p1) (g_to (g_at u N) N p1)))) (upd St4 (t0 + 1) (nI r4)) t0 2) Nm4 (z4 + 1) (q4 + 2) (upd St4 (t0 + 1) (nI r4)) Vr4 Kp4 (nI p4) bh4 (nI (g_ky (g_at u N) N p4)) (nI (o + 1)) nm4 lt4 (nI (t0 + 2)) pl (nI V4.length) kn (nI c4) Wd4)) (x_pt rfl rfl rfl rfl rfl rfl rfl rfl rfl rfl rfl rfl rfl rfl rfl rfl rfl rfl rfl rfl rfl rfl rfl rfl rfl rfl rfl rfl rfl rfl rfl rfl rfl rfl rfl rfl rfl rfl rfl rfl rfl rfl rfl rfl rfl rfl rfl rfl rfl rfl rfl rfl) ?_
          refine x_istore_n d_RD_term_220 rfl (Nat.le_of_ble_eq_true rfl) ?_
          refine x_aload_n d_RD_term_221 rfl rfl ?_
          refine x_iload d_RD_term_222 rfl ?_
          refine x_put d_RD_term_224 f_RD_102 (Nat.le_of_ble_eq_true rfl) (Nat.le_of_ble_eq_true rfl) (by first | rfl | assumption) (by rfl) (by rfl) (by exact (Nat.le_of_ble_eq_true rfl)) ?_
          refine x_same (h' := (g_mw h N T4 Na4 (g_bc B4 z4 q4 (nI (g_nk T1 (g_ut u (g_fr (g_at u N) N p1) (g_to (g_at u N) N p1)))) (upd St4 (t0 + 1) (nI r4)) t0 2) Nm4 (z4 + 1) (q4 + 2) (upd St4 (t0 + 1) (nI r4)) Vr4 Kp4 (nI p4) bh4 (nI (g_ky (g_at u N) N p4)) (nI (o + 1)) nm4 lt4 (nI t0) pl (nI V4.length) kn (nI c4) Wd4)) (x_pt rfl rfl rfl rfl rfl rfl rfl rfl rfl rfl rfl rfl rfl rfl rfl rfl rfl rfl rfl rfl rfl rfl rfl rfl rfl rfl rfl rfl rfl rfl rfl rfl rfl rfl rfl rfl rfl rfl rfl rfl rfl rfl rfl rfl rfl rfl rfl rfl rfl rfl rfl rfl) ?_
          refine x_iload d_RD_term_227 rfl ?_
          refine x_istore_n d_RD_term_229 rfl (Nat.le_of_ble_eq_true rfl) ?_
          refine x_goto 44 d_RD_term_230 (by decide) ?_
          refine x_lv [(0, .ref 36), (1, .int (nI most)), (2, .int (nI z4)), (3, .int (nI (g_rk (g_op (g_at u N) N p1)))), (4, .int (nI (g_rk (g_op (g_at u N) N p1)))), (6, .int (nI (g_nk T1 (g_ut u (g_fr (g_at u N) N p1) (g_to (g_at u N) N p1))))), (7, .int (nI t0)), (8, .int (nI r4))] rfl ?_
          refine x_wk [(0, .ref 36), (1, .int (nI most)), (2, .int (nI z4)), (3, .int (nI (g_rk (g_op (g_at u N) N p1))))] (by simp) ?_
          exact ih p4 s4 (z4 + 1) (q4 + 2) z4 (g_rk (g_op (g_at u N) N p1)) T4 Na4 (g_bc B4 z4 q4 (nI (g_nk T1 (g_ut u (g_fr (g_at u N) N p1) (g_to (g_at u N) N p1)))) (upd St4 (t0 + 1) (nI r4)) t0 2) Nm4 (upd St4 (t0 + 1) (nI r4)) Vr4 Kp4 bh4 lt4 nm4 (nI c4) Wd4 V4 (g_lb 3 (g_fr (g_at u N) N p1) (g_to (g_at u N) N p1), g_nd l (g_nd t4 g_nil)) (by omega) b4.2.1 (by omega) (by omega) o1 hNI4 hMV4 hTO4 (g_mEt (g_mEt hE1 (g_mEt hE2 hE4)) (g_E3 (fun _ _ y => y))) (by omega) (by omega) (fun k hk => by rw [g_updN (by omega), hS4 k (by omega), g_updN (by omega)]; exact hS1 k hk) ⟨hll, hwl, e4.1.1, e4.1.2.1, trivial⟩ (g_lk3 hN hp1 hk (fun _ => g_opdot hp1 o1) (fun y => by cases y)) (g_Tc (acc := [t4, l]) (fun _ _ y => y) hAS (by omega) (Or.inl ⟨eL1, by rw [eL2, eL3]; exact hkx4⟩)) hR
        refine x_aload_n d_RD_term_147 rfl rfl ?_
        refine x_iload d_RD_term_148 rfl ?_
        refine x_sipush 1100 d_RD_term_150 (by decide) ?_
        refine x_icmp_eq 172 d_RD_term_153 (by decide) (fun c_153 => ?_) (fun c_153 => ?_)
        · refine x_iload d_RD_term_172 rfl ?_
          refine x_goto 181 d_RD_term_174 (by decide) ?_
          exact h181 _ (by rw [o5 (Or.inl ((g_nIne (b := 1100) (by omega) (by decide)).mp c_153))])
        · refine x_iload d_RD_term_156 rfl ?_
          refine x_sipush 1050 d_RD_term_158 (by decide) ?_
          refine x_icmp_eq 172 d_RD_term_161 (by decide) (fun c_161 => ?_) (fun c_161 => ?_)
          · refine x_iload d_RD_term_172 rfl ?_
            refine x_goto 181 d_RD_term_174 (by decide) ?_
            exact h181 _ (by rw [o5 (Or.inr (Or.inl ((g_nIne (b := 1050) (by omega) (by decide)).mp c_161)))])
          · refine x_iload d_RD_term_164 rfl ?_
            refine x_sipush 1000 d_RD_term_166 (by decide) ?_
            refine x_icmp_ne 177 d_RD_term_169 (by decide) (fun c_169 => ?_) (fun c_169 => ?_)
            · refine x_iload d_RD_term_177 rfl ?_
              refine x_iconst 1 d_RD_term_179 (by decide) ?_
              refine x_isub d_RD_term_180 ?_
              have nn : ¬ (g_rk (g_op (g_at u N) N p1) = 1100 ∨ g_rk (g_op (g_at u N) N p1) = 1050 ∨ g_rk (g_op (g_at u N) N p1) = 1000) := by
                intro y
                rcases y with y | y | y
                · exact c_153 (by rw [y]; rfl)
                · exact c_161 (by rw [y]; rfl)
                · exact c_169 (by rw [y]; rfl)
              have o6' := o6 nn
              exact h181 _ (by rw [show (1 : Int32) = nI 1 from rfl, g_nIsub (by omega)]; congr 1; omega)
            · refine x_iload d_RD_term_172 rfl ?_
              refine x_goto 181 d_RD_term_174 (by decide) ?_
              exact h181 _ (by rw [o5 (Or.inr (Or.inr ((g_nIne (b := 1000) (by omega) (by decide)).mp c_169)))])
      refine x_iload d_RD_term_77 rfl ?_
      refine x_iconst (-1) d_RD_term_79 (by decide) ?_
      refine x_icmp_eq 233 d_RD_term_80 (by decide) (fun z => absurd z (g_nIm (by omega))) (fun _ => ?_)
      refine x_iload d_RD_term_83 rfl ?_
      refine x_iload_n d_RD_term_85 rfl rfl ?_
      refine x_icmp_gt 233 d_RD_term_86 (by decide) (fun c_86 => ?_) (fun c_86 => ?_)
      · exact hout (Or.inl ((g_ltI (by omega) (by omega)).mp c_86)) _ _
      · refine x_iload_n d_RD_term_89 rfl rfl ?_
        refine x_iload d_RD_term_90 rfl ?_
        refine x_icmp_le 98 d_RD_term_92 (by decide) (fun c_92 => ?_) (fun c_92 => ?_)
        · refine x_aload_n d_RD_term_98 rfl rfl ?_
          refine x_get d_RD_term_99 f_RD_123 (Nat.le_of_ble_eq_true rfl) (Nat.le_of_ble_eq_true rfl) (by first | rfl | assumption) (by rfl) ?_
          refine x_bipush 10 d_RD_term_102 (by decide) ?_
          refine x_icmp_ne 114 d_RD_term_104 (by decide) (fun c_104 => ?_) (fun c_104 => ?_)
          · have k3 : (g_ky (g_at u N) N p1) = 3 := hk.resolve_right (fun y => c_104 (by rw [y]; rfl))
            obtain ⟨hlx, hwx⟩ := hTO1.2.2.1 (Or.inr k3)
            subst hlx
            refine x_aload_n d_RD_term_114 rfl rfl ?_
            refine x_callV0E d_RD_term_115 k_RD_212 (Nat.le_of_ble_eq_true rfl) (Nat.le_of_ble_eq_true rfl) (by first | rfl | assumption) (by rfl) (w_RD_name (x := (g_ut u (g_fr (g_at u N) N p1) (g_to (g_at u N) N p1))) hNI1.1 (by omega) (by omega) (by omega) (g_utB hu) hwx) (show 2 + 1 ≤ 4 * (d + 1) + 12 by omega) (show 8 + (1 + 11) + 64 * (2) ≤ 64 * (4 * (d + 1) + 12) by omega) (Nat.le_of_ble_eq_true rfl) (Nat.le_of_ble_eq_true rfl) (Nat.le_of_ble_eq_true rfl) rfl (fun v1 hh1 hp1 => ?_)
            obtain ⟨rfl, Na2, hA2, rfl⟩ := hp1
            refine x_istore d_RD_term_118 (Nat.le_of_ble_eq_true rfl) ?_
            refine x_lv [(0, .ref 36), (1, .int (nI most)), (2, .int (nI r)), (3, .int (nI lr)), (4, .int (nI (g_rk (g_op (g_at u N) N p1)))), (5, .int (nI (g_lf (g_op (g_at u N) N p1)))), (6, .int (nI (g_nk T1 (g_ut u (g_fr (g_at u N) N p1) (g_to (g_at u N) N p1)))))] rfl ?_
            refine x_wk [(0, .ref 36), (1, .int (nI most)), (2, .int (nI r)), (3, .int (nI lr)), (4, .int (nI (g_rk (g_op (g_at u N) N p1)))), (6, .int (nI (g_nk T1 (g_ut u (g_fr (g_at u N) N p1) (g_to (g_at u N) N p1)))))] (by simp) ?_
            exact hrest (Nat.not_lt.mp fun y => c_86 ((g_ltI (by omega) (by omega)).mpr y)) ((nI_leI (by omega) (by omega)).mp c_92) Na2 _ _ hA2
          · have k10 : (g_ky (g_at u N) N p1) = 10 := (g_nIne (by omega) (by decide)).mp c_104
            refine x_aload_n d_RD_term_107 rfl rfl ?_
            refine x_callV0E d_RD_term_108 k_RD_209 (Nat.le_of_ble_eq_true rfl) (Nat.le_of_ble_eq_true rfl) (by first | rfl | assumption) (by rfl) (w_RD_comma hNI1.1 (by omega) (by omega)) (show 4 + 1 ≤ 4 * (d + 1) + 12 by omega) (show 8 + (1 + 11) + 64 * (4) ≤ 64 * (4 * (d + 1) + 12) by omega) (Nat.le_of_ble_eq_true rfl) (Nat.le_of_ble_eq_true rfl) (Nat.le_of_ble_eq_true rfl) rfl (fun v1 hh1 hp1 => ?_)
            obtain ⟨rfl, Na2, hA2, rfl⟩ := hp1
            have hU44 : (g_ut u (g_fr (g_at u N) N p1) (g_to (g_at u N) N p1)) = [44] := g_ut10 hu k10
            rw [← hU44] at hA2 ⊢
            refine x_goto 118 d_RD_term_111 (by decide) ?_
            refine x_istore d_RD_term_118 (Nat.le_of_ble_eq_true rfl) ?_
            refine x_lv [(0, .ref 36), (1, .int (nI most)), (2, .int (nI r)), (3, .int (nI lr)), (4, .int (nI (g_rk (g_op (g_at u N) N p1)))), (5, .int (nI (g_lf (g_op (g_at u N) N p1)))), (6, .int (nI (g_nk T1 (g_ut u (g_fr (g_at u N) N p1) (g_to (g_at u N) N p1)))))] rfl ?_
            refine x_wk [(0, .ref 36), (1, .int (nI most)), (2, .int (nI r)), (3, .int (nI lr)), (4, .int (nI (g_rk (g_op (g_at u N) N p1)))), (6, .int (nI (g_nk T1 (g_ut u (g_fr (g_at u N) N p1) (g_to (g_at u N) N p1)))))] (by simp) ?_
            exact hrest (Nat.not_lt.mp fun y => c_86 ((g_ltI (by omega) (by omega)).mpr y)) ((nI_leI (by omega) (by omega)).mp c_92) Na2 _ _ hA2
        · refine x_goto 233 d_RD_term_95 (by decide) ?_
          exact hout (Or.inr (Nat.not_le.mp fun y => c_92 (nI_le y (by omega)))) _ _
    by_cases n23 : (g_op (g_at u N) N p1) = 23
    · have er : g_rkV (g_op (g_at u N) N p1) = -1 := by rw [n23]; rfl
      refine x_aload_n d_RD_term_44 rfl rfl ?_
      refine x_callV0Y d_RD_term_45 k_RD_198 (Nat.le_of_ble_eq_true rfl) (Nat.le_of_ble_eq_true rfl) (by first | rfl | assumption) (by rfl) (w_RD_rank hTO1 hB hu hp1 hN) (show 5 + 1 ≤ 4 * (d + 1) + 12 by omega) (show 8 + (2 + 11) + 64 * (5) ≤ 64 * (4 * (d + 1) + 12) by omega) (Nat.le_of_ble_eq_true rfl) (Nat.le_of_ble_eq_true rfl) (Nat.le_of_ble_eq_true rfl) rfl ?_
      refine x_topi (-1) er ?_
      refine x_istore d_RD_term_48 (Nat.le_of_ble_eq_true rfl) ?_
      refine x_iload d_RD_term_50 rfl ?_
      refine x_sipush 500 d_RD_term_52 (by decide) ?_
      refine x_icmp_eq 66 d_RD_term_55 (by decide) (fun z => absurd z (by decide)) (fun _ => ?_)
      refine x_iload d_RD_term_58 rfl ?_
      refine x_sipush 400 d_RD_term_60 (by decide) ?_
      refine x_icmp_ne 71 d_RD_term_63 (by decide) (fun _ => ?_) (fun z => absurd z (by decide))
      refine x_iload d_RD_term_71 rfl ?_
      refine x_iconst 1 d_RD_term_73 (by decide) ?_
      refine x_isub d_RD_term_74 ?_
      refine x_istore d_RD_term_75 (Nat.le_of_ble_eq_true rfl) ?_
      refine x_iload d_RD_term_77 rfl ?_
      refine x_iconst (-1) d_RD_term_79 (by decide) ?_
      refine x_icmp_eq 233 d_RD_term_80 (by decide) (fun _ => ?_) (fun z => absurd rfl z)
      exact hout (Or.inl (by rw [n23]; show most < 9999; omega)) _ _
    · obtain ⟨o1, o2, o3, o4, o5, o6⟩ := g_opR _ hop.1 hop.2.1 hop.2.2 n23
      refine x_aload_n d_RD_term_44 rfl rfl ?_
      refine x_callV0Y d_RD_term_45 k_RD_198 (Nat.le_of_ble_eq_true rfl) (Nat.le_of_ble_eq_true rfl) (by first | rfl | assumption) (by rfl) (w_RD_rank hTO1 hB hu hp1 hN) (show 5 + 1 ≤ 4 * (d + 1) + 12 by omega) (show 8 + (2 + 11) + 64 * (5) ≤ 64 * (4 * (d + 1) + 12) by omega) (Nat.le_of_ble_eq_true rfl) (Nat.le_of_ble_eq_true rfl) (Nat.le_of_ble_eq_true rfl) rfl ?_
      refine x_topi (nI (g_rk (g_op (g_at u N) N p1))) o2 ?_
      refine x_istore d_RD_term_48 (Nat.le_of_ble_eq_true rfl) ?_
      refine x_iload d_RD_term_50 rfl ?_
      refine x_sipush 500 d_RD_term_52 (by decide) ?_
      refine x_icmp_eq 66 d_RD_term_55 (by decide) (fun c_55 => ?_) (fun c_55 => ?_)
      · refine x_iload d_RD_term_66 rfl ?_
        refine x_goto 75 d_RD_term_68 (by decide) ?_
        refine x_istore d_RD_term_75 (Nat.le_of_ble_eq_true rfl) ?_
        exact hgo n23 _ (by rw [o3 (Or.inl ((g_nIne (b := 500) (by omega) (by decide)).mp c_55))])
      · refine x_iload d_RD_term_58 rfl ?_
        refine x_sipush 400 d_RD_term_60 (by decide) ?_
        refine x_icmp_ne 71 d_RD_term_63 (by decide) (fun c_63 => ?_) (fun c_63 => ?_)
        · refine x_iload d_RD_term_71 rfl ?_
          refine x_iconst 1 d_RD_term_73 (by decide) ?_
          refine x_isub d_RD_term_74 ?_
          refine x_istore d_RD_term_75 (Nat.le_of_ble_eq_true rfl) ?_
          have nn : ¬ (g_rk (g_op (g_at u N) N p1) = 500 ∨ g_rk (g_op (g_at u N) N p1) = 400) := by
            intro y
            rcases y with y | y
            · exact c_55 (by rw [y]; rfl)
            · exact c_63 (by rw [y]; rfl)
          have o4' := o4 nn
          exact hgo n23 _ (by rw [show (1 : Int32) = nI 1 from rfl, g_nIsub (by omega)]; congr 1; omega)
        · refine x_iload d_RD_term_66 rfl ?_
          refine x_goto 75 d_RD_term_68 (by decide) ?_
          refine x_istore d_RD_term_75 (Nat.le_of_ble_eq_true rfl) ?_
          exact hgo n23 _ (by rw [o3 (Or.inr ((g_nIne (b := 400) (by omega) (by decide)).mp c_63))])
set_option maxRecDepth 20000 in
theorem w_RD_term {E : xR} {h : xH} {u : Nat → Nat} {N : Nat} (h22 : h 22 = .inl (1, 4096, .inl (fun i => g_sb (u i)))) (hu : ∀ i, u i < 256) (hN : N ≤ 4096) (hB : g_TB2 h) : ∀ d, g_MC E h u N d := by
  intro d
  induction d with
  | zero =>
    intro most p s o t0 z q T Na B Nm St Vr Kp bh lt nm pl kn rk Wd V hm hp hs hz ht0 hV ho hNI hMV hTO
    refine x_Mt.of (by decide) (Nat.le_of_ble_eq_true rfl) ?_
    show x_W E M_RD_term _ _ 52 (g_mw h N T Na B Nm z q St Vr Kp (nI p) bh (nI (g_ky (g_at u N) N p)) (nI o) nm lt (nI t0) pl (nI V.length) kn rk Wd) 0 [(0, .ref 36), (1, .int (nI most))] [] 0 0
    obtain rfl : o = 100 := by omega
    refine x_aload_n d_RD_term_0 rfl rfl ?_
    refine x_get d_RD_term_1 f_RD_99 (Nat.le_of_ble_eq_true rfl) (Nat.le_of_ble_eq_true rfl) (by first | rfl | assumption) (by rfl) ?_
    refine x_bipush 100 d_RD_term_4 (by decide) ?_
    refine x_icmp_ne 18 d_RD_term_6 (by decide) (fun z => absurd rfl z) (fun _ => ?_)
    refine x_aload_n d_RD_term_9 rfl rfl ?_
    refine x_aload_n d_RD_term_10 rfl rfl ?_
    refine x_get d_RD_term_11 f_RD_116 (Nat.le_of_ble_eq_true rfl) (Nat.le_of_ble_eq_true rfl) (by first | rfl | assumption) (by rfl) ?_
    refine x_callV1Y d_RD_term_14 k_RD_126 (Nat.le_of_ble_eq_true rfl) (Nat.le_of_ble_eq_true rfl) (by first | rfl | assumption) (by rfl) w_RD_bad (show 0 + 1 ≤ 4 * 0 + 12 by omega) (show 8 + (2 + 11) + 64 * 0 ≤ 64 * (4 * 0 + 12) by omega) (Nat.le_of_ble_eq_true rfl) (Nat.le_of_ble_eq_true rfl) (Nat.le_of_ble_eq_true rfl) rfl ?_
    refine x_same (h' := (g_mw h N T Na B Nm z q St Vr Kp (nI p) bh (nI (g_ky (g_at u N) N p)) (nI 100) nm lt (nI t0) (nI p) (nI V.length) kn rk Wd)) (fun _ _ => rfl) ?_
    exact x_athrow d_RD_term_17 (Nat.le_of_ble_eq_true rfl) (Nat.le_of_ble_eq_true rfl) hB.2.2 rfl (g_MKx (Or.inl rfl) g_txW)
  | succ d hM =>
    intro most p s o t0 z q T Na B Nm St Vr Kp bh lt nm pl kn rk Wd V hm hp hs hz ht0 hV ho hNI hMV hTO
    refine x_Mt.of (by decide) (Nat.le_of_ble_eq_true rfl) ?_
    show x_W E M_RD_term _ _ 52 (g_mw h N T Na B Nm z q St Vr Kp (nI p) bh (nI (g_ky (g_at u N) N p)) (nI o) nm lt (nI t0) pl (nI V.length) kn rk Wd) 0 [(0, .ref 36), (1, .int (nI most))] [] 0 0
    rw [g_T]
    refine x_aload_n d_RD_term_0 rfl rfl ?_
    refine x_get d_RD_term_1 f_RD_99 (Nat.le_of_ble_eq_true rfl) (Nat.le_of_ble_eq_true rfl) (by first | rfl | assumption) (by rfl) ?_
    refine x_bipush 100 d_RD_term_4 (by decide) ?_
    refine x_icmp_ne 18 d_RD_term_6 (by decide) (fun _ => ?_) (fun z => absurd z (show ¬ nI o = nI 100 from fun y => absurd ((g_nIne (by omega) (by decide)).mp y) (by omega)))
    refine x_aload_n d_RD_term_18 rfl rfl ?_
    refine x_dup d_RD_term_19 rfl ?_
    refine x_get d_RD_term_20 f_RD_99 (Nat.le_of_ble_eq_true rfl) (Nat.le_of_ble_eq_true rfl) (by first | rfl | assumption) (by rfl) ?_
    refine x_iconst 1 d_RD_term_23 (by decide) ?_
    refine x_iadd d_RD_term_24 ?_
    refine x_topi (nI (o + 1)) (nI_succ o).symm ?_
    refine x_put d_RD_term_25 f_RD_99 (Nat.le_of_ble_eq_true rfl) (Nat.le_of_ble_eq_true rfl) (by first | rfl | assumption) (by rfl) (by rfl) (by exact (Nat.le_of_ble_eq_true rfl)) ?_
    refine x_aload_n d_RD_term_28 rfl rfl ?_
    refine x_iconst 0 d_RD_term_29 (by decide) ?_
    refine x_put d_RD_term_30 f_RD_204 (Nat.le_of_ble_eq_true rfl) (Nat.le_of_ble_eq_true rfl) (by first | rfl | assumption) (by rfl) (by rfl) (by exact (Nat.le_of_ble_eq_true rfl)) ?_
    refine x_same (h' := (g_mw h N T Na B Nm z q St Vr Kp (nI p) bh (nI (g_ky (g_at u N) N p)) (nI (o + 1)) nm lt (nI t0) pl (nI V.length) kn (nI 0) Wd)) (x_pt rfl rfl rfl rfl rfl rfl rfl rfl rfl rfl rfl rfl rfl rfl rfl rfl rfl rfl rfl rfl rfl rfl rfl rfl rfl rfl rfl rfl rfl rfl rfl rfl rfl rfl rfl rfl rfl rfl rfl rfl rfl rfl rfl rfl rfl rfl rfl rfl rfl rfl rfl rfl) ?_
    refine x_aload_n d_RD_term_33 rfl rfl ?_
    refine x_iload_n d_RD_term_34 rfl rfl ?_
    refine x_callV1M d_RD_term_35 k_RD_206 (Nat.le_of_ble_eq_true rfl) (Nat.le_of_ble_eq_true rfl) (by first | rfl | assumption) (by rfl) (w_RD_primary h22 hu hN hB hM hp hs hz ht0 hV (show o + 1 + d = 100 by omega) hNI hMV hm hTO) (show 4 * d + 15 + 1 ≤ 4 * (d + 1) + 12 by omega) (show 8 + (3 + 11) + 64 * (4 * d + 15) ≤ 64 * (4 * (d + 1) + 12) by omega) (Nat.le_of_ble_eq_true rfl) (Nat.le_of_ble_eq_true rfl) (Nat.le_of_ble_eq_true rfl) rfl (fun p3 s3 V3 t3 c3 v3 hh3 hr3 hR3 => ?_) (fun x h' hd hx => g_MKx (g_de_bd hd (fun _ _ _ _ h8 => g_inL8 hm h8)) hx)
    obtain ⟨r3, T3, Na3, B3, Nm3, z3, q3, St3, Vr3, Kp3, bh3, lt3, nm3, Wd3, rfl, hNI3, hMV3, hTO3, hE3, hz3, hq3, hS3, hT3, rfl⟩ := hR3
    have b3 := g_prb (u := u) (fun m p s V a b => g_Tb d m p s V a b) hm hp _ _ _ _ _ hr3
    obtain ⟨kk3, d3, e3⟩ := g_prd (u := u) hN (fun m p s V a b => g_Tb d m p s V a b) (fun m p s V a b c e => g_Td hN d m p s V a b c e) hp hV hs _ _ _ _ _ hr3
    have hv3 := g_QV e3
    have hc3 := g_prC hm hr3
    rw [hr3]
    refine x_istore_n d_RD_term_38 rfl (Nat.le_of_ble_eq_true rfl) ?_
    refine x_aload_n d_RD_term_39 rfl rfl ?_
    refine x_get d_RD_term_40 f_RD_204 (Nat.le_of_ble_eq_true rfl) (Nat.le_of_ble_eq_true rfl) (by first | rfl | assumption) (by rfl) ?_
    refine x_istore_n d_RD_term_43 rfl (Nat.le_of_ble_eq_true rfl) ?_
    refine x_lv [(0, .ref 36), (1, .int (nI most)), (2, .int (nI r3)), (3, .int (nI c3))] rfl ?_
    exact w_RD_inLoop h22 hu hN hB hM hm ht0 hz ho 4096 p3 s3 z3 q3 r3 c3 T3 Na3 B3 Nm3 St3 Vr3 Kp3 bh3 lt3 nm3 (nI c3) Wd3 V3 t3 (by omega) b3.2.1 (by omega) (by omega) hc3 hNI3 hMV3 hTO3 hE3 hz3 hq3 hS3 e3.1.2.1 e3.1.1 hT3 rfl
