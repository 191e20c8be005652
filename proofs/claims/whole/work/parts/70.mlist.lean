theorem g_utL {u : Nat → Nat} {N p : Nat} (hu : ∀ i, u i < 256) (hN : N ≤ 4096) (h : g_ky (g_at u N) N p = 1 ∨ g_ky (g_at u N) N p = 3) : (g_ut u (g_fr (g_at u N) N p) (g_to (g_at u N) N p)).length < 2 ^ 31 := by
  have hp : p < N := by
    rcases Nat.lt_or_ge p N with q | q
    · exact q
    · exfalso
      unfold g_ky g_tk at h
      rw [if_pos (by rw [g_at_out q]; decide)] at h
      have h : 13 = 1 ∨ 13 = 3 := h
      omega
  have := (g_tkP (u := u) hu (Nat.le_of_lt hp) (by omega)).1
  have := g_bhN (p := p) hu ⟨Nat.le_of_lt hp, by omega⟩
  omega
theorem d_RD_list_0 : decode M_RD_list.2.1 0 = .ok (.aload_n 0, 1) := by decide +kernel
theorem d_RD_list_1 : decode M_RD_list.2.1 1 = .ok (.getfield 102, 3) := by decide +kernel
theorem d_RD_list_4 : decode M_RD_list.2.1 4 = .ok (.istore_n 1, 1) := by decide +kernel
theorem d_RD_list_5 : decode M_RD_list.2.1 5 = .ok (.aload_n 0, 1) := by decide +kernel
theorem d_RD_list_6 : decode M_RD_list.2.1 6 = .ok (.invokevirtual 113, 3) := by decide +kernel
theorem d_RD_list_9 : decode M_RD_list.2.1 9 = .ok (.iconst (-1), 1) := by decide +kernel
theorem d_RD_list_10 : decode M_RD_list.2.1 10 = .ok (.istore_n 2, 1) := by decide +kernel
theorem d_RD_list_11 : decode M_RD_list.2.1 11 = .ok (.aload_n 0, 1) := by decide +kernel
theorem d_RD_list_12 : decode M_RD_list.2.1 12 = .ok (.sipush 999, 3) := by decide +kernel
theorem d_RD_list_15 : decode M_RD_list.2.1 15 = .ok (.invokevirtual 119, 3) := by decide +kernel
theorem d_RD_list_18 : decode M_RD_list.2.1 18 = .ok (.istore_n 3, 1) := by decide +kernel
theorem d_RD_list_19 : decode M_RD_list.2.1 19 = .ok (.aload_n 0, 1) := by decide +kernel
theorem d_RD_list_20 : decode M_RD_list.2.1 20 = .ok (.getfield 72, 3) := by decide +kernel
theorem d_RD_list_23 : decode M_RD_list.2.1 23 = .ok (.aload_n 0, 1) := by decide +kernel
theorem d_RD_list_24 : decode M_RD_list.2.1 24 = .ok (.dup, 1) := by decide +kernel
theorem d_RD_list_25 : decode M_RD_list.2.1 25 = .ok (.getfield 102, 3) := by decide +kernel
theorem d_RD_list_28 : decode M_RD_list.2.1 28 = .ok (.dup_x1, 1) := by decide +kernel
theorem d_RD_list_29 : decode M_RD_list.2.1 29 = .ok (.iconst 1, 1) := by decide +kernel
theorem d_RD_list_30 : decode M_RD_list.2.1 30 = .ok (.iadd, 1) := by decide +kernel
theorem d_RD_list_31 : decode M_RD_list.2.1 31 = .ok (.putfield 102, 3) := by decide +kernel
theorem d_RD_list_34 : decode M_RD_list.2.1 34 = .ok (.iload_n 3, 1) := by decide +kernel
theorem d_RD_list_35 : decode M_RD_list.2.1 35 = .ok (.iastore, 1) := by decide +kernel
theorem d_RD_list_36 : decode M_RD_list.2.1 36 = .ok (.aload_n 0, 1) := by decide +kernel
theorem d_RD_list_37 : decode M_RD_list.2.1 37 = .ok (.getfield 123, 3) := by decide +kernel
theorem d_RD_list_40 : decode M_RD_list.2.1 40 = .ok (.bipush 10, 2) := by decide +kernel
theorem d_RD_list_42 : decode M_RD_list.2.1 42 = .ok (.if_icmp .ne 35, 3) := by decide +kernel
theorem d_RD_list_45 : decode M_RD_list.2.1 45 = .ok (.aload_n 0, 1) := by decide +kernel
theorem d_RD_list_46 : decode M_RD_list.2.1 46 = .ok (.invokevirtual 113, 3) := by decide +kernel
theorem d_RD_list_49 : decode M_RD_list.2.1 49 = .ok (.aload_n 0, 1) := by decide +kernel
theorem d_RD_list_50 : decode M_RD_list.2.1 50 = .ok (.sipush 999, 3) := by decide +kernel
theorem d_RD_list_53 : decode M_RD_list.2.1 53 = .ok (.invokevirtual 119, 3) := by decide +kernel
theorem d_RD_list_56 : decode M_RD_list.2.1 56 = .ok (.istore_n 3, 1) := by decide +kernel
theorem d_RD_list_57 : decode M_RD_list.2.1 57 = .ok (.aload_n 0, 1) := by decide +kernel
theorem d_RD_list_58 : decode M_RD_list.2.1 58 = .ok (.getfield 72, 3) := by decide +kernel
theorem d_RD_list_61 : decode M_RD_list.2.1 61 = .ok (.aload_n 0, 1) := by decide +kernel
theorem d_RD_list_62 : decode M_RD_list.2.1 62 = .ok (.dup, 1) := by decide +kernel
theorem d_RD_list_63 : decode M_RD_list.2.1 63 = .ok (.getfield 102, 3) := by decide +kernel
theorem d_RD_list_66 : decode M_RD_list.2.1 66 = .ok (.dup_x1, 1) := by decide +kernel
theorem d_RD_list_67 : decode M_RD_list.2.1 67 = .ok (.iconst 1, 1) := by decide +kernel
theorem d_RD_list_68 : decode M_RD_list.2.1 68 = .ok (.iadd, 1) := by decide +kernel
theorem d_RD_list_69 : decode M_RD_list.2.1 69 = .ok (.putfield 102, 3) := by decide +kernel
theorem d_RD_list_72 : decode M_RD_list.2.1 72 = .ok (.iload_n 3, 1) := by decide +kernel
theorem d_RD_list_73 : decode M_RD_list.2.1 73 = .ok (.iastore, 1) := by decide +kernel
theorem d_RD_list_74 : decode M_RD_list.2.1 74 = .ok (.goto (-38), 3) := by decide +kernel
theorem d_RD_list_77 : decode M_RD_list.2.1 77 = .ok (.aload_n 0, 1) := by decide +kernel
theorem d_RD_list_78 : decode M_RD_list.2.1 78 = .ok (.getfield 123, 3) := by decide +kernel
theorem d_RD_list_81 : decode M_RD_list.2.1 81 = .ok (.bipush 11, 2) := by decide +kernel
theorem d_RD_list_83 : decode M_RD_list.2.1 83 = .ok (.if_icmp .ne 15, 3) := by decide +kernel
theorem d_RD_list_86 : decode M_RD_list.2.1 86 = .ok (.aload_n 0, 1) := by decide +kernel
theorem d_RD_list_87 : decode M_RD_list.2.1 87 = .ok (.invokevirtual 113, 3) := by decide +kernel
theorem d_RD_list_90 : decode M_RD_list.2.1 90 = .ok (.aload_n 0, 1) := by decide +kernel
theorem d_RD_list_91 : decode M_RD_list.2.1 91 = .ok (.sipush 999, 3) := by decide +kernel
theorem d_RD_list_94 : decode M_RD_list.2.1 94 = .ok (.invokevirtual 119, 3) := by decide +kernel
theorem d_RD_list_97 : decode M_RD_list.2.1 97 = .ok (.istore_n 2, 1) := by decide +kernel
theorem d_RD_list_98 : decode M_RD_list.2.1 98 = .ok (.aload_n 0, 1) := by decide +kernel
theorem d_RD_list_99 : decode M_RD_list.2.1 99 = .ok (.getfield 123, 3) := by decide +kernel
theorem d_RD_list_102 : decode M_RD_list.2.1 102 = .ok (.bipush 7, 2) := by decide +kernel
theorem d_RD_list_104 : decode M_RD_list.2.1 104 = .ok (.if_icmp .eq 12, 3) := by decide +kernel
theorem d_RD_list_107 : decode M_RD_list.2.1 107 = .ok (.aload_n 0, 1) := by decide +kernel
theorem d_RD_list_108 : decode M_RD_list.2.1 108 = .ok (.aload_n 0, 1) := by decide +kernel
theorem d_RD_list_109 : decode M_RD_list.2.1 109 = .ok (.getfield 116, 3) := by decide +kernel
theorem d_RD_list_112 : decode M_RD_list.2.1 112 = .ok (.invokevirtual 126, 3) := by decide +kernel
theorem d_RD_list_115 : decode M_RD_list.2.1 115 = .ok (.athrow, 1) := by decide +kernel
theorem d_RD_list_116 : decode M_RD_list.2.1 116 = .ok (.aload_n 0, 1) := by decide +kernel
theorem d_RD_list_117 : decode M_RD_list.2.1 117 = .ok (.invokevirtual 113, 3) := by decide +kernel
theorem d_RD_list_120 : decode M_RD_list.2.1 120 = .ok (.aload_n 0, 1) := by decide +kernel
theorem d_RD_list_121 : decode M_RD_list.2.1 121 = .ok (.getfield 139, 3) := by decide +kernel
theorem d_RD_list_124 : decode M_RD_list.2.1 124 = .ok (.istore 4, 2) := by decide +kernel
theorem d_RD_list_126 : decode M_RD_list.2.1 126 = .ok (.iconst 0, 1) := by decide +kernel
theorem d_RD_list_127 : decode M_RD_list.2.1 127 = .ok (.istore 5, 2) := by decide +kernel
theorem d_RD_list_129 : decode M_RD_list.2.1 129 = .ok (.iload 5, 2) := by decide +kernel
theorem d_RD_list_131 : decode M_RD_list.2.1 131 = .ok (.iload 4, 2) := by decide +kernel
theorem d_RD_list_133 : decode M_RD_list.2.1 133 = .ok (.if_icmp .ge 23, 3) := by decide +kernel
theorem d_RD_list_136 : decode M_RD_list.2.1 136 = .ok (.aload_n 0, 1) := by decide +kernel
theorem d_RD_list_137 : decode M_RD_list.2.1 137 = .ok (.getfield 78, 3) := by decide +kernel
theorem d_RD_list_140 : decode M_RD_list.2.1 140 = .ok (.iload 5, 2) := by decide +kernel
theorem d_RD_list_142 : decode M_RD_list.2.1 142 = .ok (.aload_n 0, 1) := by decide +kernel
theorem d_RD_list_143 : decode M_RD_list.2.1 143 = .ok (.getfield 68, 3) := by decide +kernel
theorem d_RD_list_146 : decode M_RD_list.2.1 146 = .ok (.iload 5, 2) := by decide +kernel
theorem d_RD_list_148 : decode M_RD_list.2.1 148 = .ok (.baload, 1) := by decide +kernel
theorem d_RD_list_149 : decode M_RD_list.2.1 149 = .ok (.bastore, 1) := by decide +kernel
theorem d_RD_list_150 : decode M_RD_list.2.1 150 = .ok (.iinc 5 1, 3) := by decide +kernel
theorem d_RD_list_153 : decode M_RD_list.2.1 153 = .ok (.goto (-24), 3) := by decide +kernel
theorem d_RD_list_156 : decode M_RD_list.2.1 156 = .ok (.iload_n 2, 1) := by decide +kernel
theorem d_RD_list_157 : decode M_RD_list.2.1 157 = .ok (.iconst (-1), 1) := by decide +kernel
theorem d_RD_list_158 : decode M_RD_list.2.1 158 = .ok (.if_icmp .ne 32, 3) := by decide +kernel
theorem d_RD_list_161 : decode M_RD_list.2.1 161 = .ok (.aload_n 0, 1) := by decide +kernel
theorem d_RD_list_162 : decode M_RD_list.2.1 162 = .ok (.iconst 0, 1) := by decide +kernel
theorem d_RD_list_163 : decode M_RD_list.2.1 163 = .ok (.putfield 139, 3) := by decide +kernel
theorem d_RD_list_166 : decode M_RD_list.2.1 166 = .ok (.aload_n 0, 1) := by decide +kernel
theorem d_RD_list_167 : decode M_RD_list.2.1 167 = .ok (.bipush 91, 2) := by decide +kernel
theorem d_RD_list_169 : decode M_RD_list.2.1 169 = .ok (.invokevirtual 154, 3) := by decide +kernel
theorem d_RD_list_172 : decode M_RD_list.2.1 172 = .ok (.aload_n 0, 1) := by decide +kernel
theorem d_RD_list_173 : decode M_RD_list.2.1 173 = .ok (.bipush 93, 2) := by decide +kernel
theorem d_RD_list_175 : decode M_RD_list.2.1 175 = .ok (.invokevirtual 154, 3) := by decide +kernel
theorem d_RD_list_178 : decode M_RD_list.2.1 178 = .ok (.aload_n 0, 1) := by decide +kernel
theorem d_RD_list_179 : decode M_RD_list.2.1 179 = .ok (.getfield 81, 3) := by decide +kernel
theorem d_RD_list_182 : decode M_RD_list.2.1 182 = .ok (.aload_n 0, 1) := by decide +kernel
theorem d_RD_list_183 : decode M_RD_list.2.1 183 = .ok (.invokevirtual 212, 3) := by decide +kernel
theorem d_RD_list_186 : decode M_RD_list.2.1 186 = .ok (.invokevirtual 252, 3) := by decide +kernel
theorem d_RD_list_189 : decode M_RD_list.2.1 189 = .ok (.istore_n 2, 1) := by decide +kernel
theorem d_RD_list_190 : decode M_RD_list.2.1 190 = .ok (.aload_n 0, 1) := by decide +kernel
theorem d_RD_list_191 : decode M_RD_list.2.1 191 = .ok (.bipush 46, 2) := by decide +kernel
theorem d_RD_list_193 : decode M_RD_list.2.1 193 = .ok (.invokevirtual 225, 3) := by decide +kernel
theorem d_RD_list_196 : decode M_RD_list.2.1 196 = .ok (.istore 5, 2) := by decide +kernel
theorem d_RD_list_198 : decode M_RD_list.2.1 198 = .ok (.aload_n 0, 1) := by decide +kernel
theorem d_RD_list_199 : decode M_RD_list.2.1 199 = .ok (.getfield 102, 3) := by decide +kernel
theorem d_RD_list_202 : decode M_RD_list.2.1 202 = .ok (.iload_n 1, 1) := by decide +kernel
theorem d_RD_list_203 : decode M_RD_list.2.1 203 = .ok (.if_icmp .le 47, 3) := by decide +kernel
theorem d_RD_list_206 : decode M_RD_list.2.1 206 = .ok (.aload_n 0, 1) := by decide +kernel
theorem d_RD_list_207 : decode M_RD_list.2.1 207 = .ok (.getfield 72, 3) := by decide +kernel
theorem d_RD_list_210 : decode M_RD_list.2.1 210 = .ok (.aload_n 0, 1) := by decide +kernel
theorem d_RD_list_211 : decode M_RD_list.2.1 211 = .ok (.getfield 102, 3) := by decide +kernel
theorem d_RD_list_214 : decode M_RD_list.2.1 214 = .ok (.iload_n 2, 1) := by decide +kernel
theorem d_RD_list_215 : decode M_RD_list.2.1 215 = .ok (.iastore, 1) := by decide +kernel
theorem d_RD_list_216 : decode M_RD_list.2.1 216 = .ok (.aload_n 0, 1) := by decide +kernel
theorem d_RD_list_217 : decode M_RD_list.2.1 217 = .ok (.getfield 81, 3) := by decide +kernel
theorem d_RD_list_220 : decode M_RD_list.2.1 220 = .ok (.iload 5, 2) := by decide +kernel
theorem d_RD_list_222 : decode M_RD_list.2.1 222 = .ok (.aload_n 0, 1) := by decide +kernel
theorem d_RD_list_223 : decode M_RD_list.2.1 223 = .ok (.getfield 72, 3) := by decide +kernel
theorem d_RD_list_226 : decode M_RD_list.2.1 226 = .ok (.aload_n 0, 1) := by decide +kernel
theorem d_RD_list_227 : decode M_RD_list.2.1 227 = .ok (.getfield 102, 3) := by decide +kernel
theorem d_RD_list_230 : decode M_RD_list.2.1 230 = .ok (.iconst 1, 1) := by decide +kernel
theorem d_RD_list_231 : decode M_RD_list.2.1 231 = .ok (.isub, 1) := by decide +kernel
theorem d_RD_list_232 : decode M_RD_list.2.1 232 = .ok (.iconst 2, 1) := by decide +kernel
theorem d_RD_list_233 : decode M_RD_list.2.1 233 = .ok (.invokevirtual 215, 3) := by decide +kernel
theorem d_RD_list_236 : decode M_RD_list.2.1 236 = .ok (.istore_n 2, 1) := by decide +kernel
theorem d_RD_list_237 : decode M_RD_list.2.1 237 = .ok (.aload_n 0, 1) := by decide +kernel
theorem d_RD_list_238 : decode M_RD_list.2.1 238 = .ok (.dup, 1) := by decide +kernel
theorem d_RD_list_239 : decode M_RD_list.2.1 239 = .ok (.getfield 102, 3) := by decide +kernel
theorem d_RD_list_242 : decode M_RD_list.2.1 242 = .ok (.iconst 1, 1) := by decide +kernel
theorem d_RD_list_243 : decode M_RD_list.2.1 243 = .ok (.isub, 1) := by decide +kernel
theorem d_RD_list_244 : decode M_RD_list.2.1 244 = .ok (.putfield 102, 3) := by decide +kernel
theorem d_RD_list_247 : decode M_RD_list.2.1 247 = .ok (.goto (-49), 3) := by decide +kernel
theorem d_RD_list_250 : decode M_RD_list.2.1 250 = .ok (.iconst 0, 1) := by decide +kernel
theorem d_RD_list_251 : decode M_RD_list.2.1 251 = .ok (.istore 6, 2) := by decide +kernel
theorem d_RD_list_253 : decode M_RD_list.2.1 253 = .ok (.iload 6, 2) := by decide +kernel
theorem d_RD_list_255 : decode M_RD_list.2.1 255 = .ok (.iload 4, 2) := by decide +kernel
theorem d_RD_list_257 : decode M_RD_list.2.1 257 = .ok (.if_icmp .ge 23, 3) := by decide +kernel
theorem d_RD_list_260 : decode M_RD_list.2.1 260 = .ok (.aload_n 0, 1) := by decide +kernel
theorem d_RD_list_261 : decode M_RD_list.2.1 261 = .ok (.getfield 68, 3) := by decide +kernel
theorem d_RD_list_264 : decode M_RD_list.2.1 264 = .ok (.iload 6, 2) := by decide +kernel
theorem d_RD_list_266 : decode M_RD_list.2.1 266 = .ok (.aload_n 0, 1) := by decide +kernel
theorem d_RD_list_267 : decode M_RD_list.2.1 267 = .ok (.getfield 78, 3) := by decide +kernel
theorem d_RD_list_270 : decode M_RD_list.2.1 270 = .ok (.iload 6, 2) := by decide +kernel
theorem d_RD_list_272 : decode M_RD_list.2.1 272 = .ok (.baload, 1) := by decide +kernel
theorem d_RD_list_273 : decode M_RD_list.2.1 273 = .ok (.bastore, 1) := by decide +kernel
theorem d_RD_list_274 : decode M_RD_list.2.1 274 = .ok (.iinc 6 1, 3) := by decide +kernel
theorem d_RD_list_277 : decode M_RD_list.2.1 277 = .ok (.goto (-24), 3) := by decide +kernel
theorem d_RD_list_280 : decode M_RD_list.2.1 280 = .ok (.aload_n 0, 1) := by decide +kernel
theorem d_RD_list_281 : decode M_RD_list.2.1 281 = .ok (.iload 4, 2) := by decide +kernel
theorem d_RD_list_283 : decode M_RD_list.2.1 283 = .ok (.putfield 139, 3) := by decide +kernel
theorem d_RD_list_286 : decode M_RD_list.2.1 286 = .ok (.aload_n 0, 1) := by decide +kernel
theorem d_RD_list_287 : decode M_RD_list.2.1 287 = .ok (.iconst 0, 1) := by decide +kernel
theorem d_RD_list_288 : decode M_RD_list.2.1 288 = .ok (.putfield 204, 3) := by decide +kernel
theorem d_RD_list_291 : decode M_RD_list.2.1 291 = .ok (.iload_n 2, 1) := by decide +kernel
theorem d_RD_list_292 : decode M_RD_list.2.1 292 = .ok (.ireturn, 1) := by decide +kernel
theorem g_TOc {u : Nat → Nat} {N p l : Nat} {bh : Int32} {nm : Int64} {Wd Wd' : Nat → Int32} (hu : ∀ i, u i < 256) (hN : N ≤ 4096) (h : g_TO u N p bh (nI l) nm Wd) (hl : l ≤ 4096) (hW : ∀ k, k < l → Wd' k = vp_nar .byte (vp_nar .byte (Wd k))) : g_TO u N p bh (nI l) nm Wd' := by
  obtain ⟨h1, h2, h3, h4⟩ := h
  refine ⟨h1, h2, fun q => ?_, h4⟩
  obtain ⟨a1, a2⟩ := h3 q
  refine ⟨a1, fun k hk => ?_⟩
  have hlen : (g_ut u (g_fr (g_at u N) N p) (g_to (g_at u N) N p)).length ≤ l := by
    rcases Nat.lt_or_ge l (g_ut u (g_fr (g_at u N) N p) (g_to (g_at u N) N p)).length with y | y
    · exfalso
      have hb := g_utL hu hN q
      have := (g_nIne (a := l) (by omega) (by omega)).mp a1
      omega
    · exact y
  rw [hW k (by omega), a2 k hk, g_utB hu k hk, g_utB hu k hk]
set_option maxRecDepth 20000 in
theorem w_RD_liEnd {E : xR} {h : xH} {u : Nat → Nat} {N d : Nat} (hu : ∀ i, u i < 256) (hN : N ≤ 4096) {s o t0 z q : Nat} {T : List (List Int32)} {B : Nat → Nat → Int32} {Nm : Nat → Int64} {St : Nat → Int32} {pl kn : Int32} {R : g_Rs} {T1 : List (List Int32)} {Na1 B1 : Nat → Nat → Int32} {Nm1 : Nat → Int64} {z1 q1 : Nat} {St1 Vr1 Kp1 : Nat → Int32} {bh1 lt1 : Int32} {nm1 : Int64} {rk1 : Int32} {Wd1 : Nat → Int32} {V1 : List (Nat × Nat)} {p3 s3 r l : Nat} {tl : Nat × Std.Format} {Wd0 : Nat → Int32} (hl : l ≤ 4096) (hKp : ∀ k, k < l → Kp1 k = vp_nar .byte (Wd0 k)) (hTO : g_TO u N p3 bh1 (nI l) nm1 Wd0) (hNI1 : g_NI T1 Na1 p3) (hMV1 : g_MV u T1 Vr1 V1) (hE1 : g_mE T T1 B B1 Nm Nm1 z q z1 q1) (hz1 : z1 + s = z + s3) (hq1 : q1 + s + 1 = q + s3) (hS1 : ∀ k, k < t0 → St1 k = St k) (hT1 : g_mT u N T1 B1 Nm1 z1 q1 tl r) (hR : .inr (p3, s3, V1, tl, 0) = R) : x_W E M_RD_list (x_room (4 * d + 13) 0 0) (g_MK u N h o t0 pl kn T B Nm z q St s R) 52 (g_mw h N T1 Na1 B1 Nm1 z1 q1 St1 Vr1 Kp1 (nI p3) bh1 (nI (g_ky (g_at u N) N p3)) (nI o) nm1 lt1 (nI t0) pl (nI V1.length) kn rk1 Wd1) 250 [(0, .ref 36), (2, .int (nI r)), (4, .int (nI l))] [] 0 0 := by
  have hloop : ∀ m i (Wd2 : Nat → Int32), i + m = l → (∀ k, k < i → Wd2 k = vp_nar .byte (vp_nar .byte (Wd0 k))) → x_W E M_RD_list (x_room (4 * d + 13) 0 0) (g_MK u N h o t0 pl kn T B Nm z q St s R) 52 (g_mw h N T1 Na1 B1 Nm1 z1 q1 St1 Vr1 Kp1 (nI p3) bh1 (nI (g_ky (g_at u N) N p3)) (nI o) nm1 lt1 (nI t0) pl (nI V1.length) kn rk1 Wd2) 253 [(0, .ref 36), (2, .int (nI r)), (4, .int (nI l)), (6, .int (nI i))] [] 0 0 := by
    intro m
    induction m with
    | zero =>
      intro i Wd2 hi hk
      obtain rfl : i = l := by omega
      refine x_iload d_RD_list_253 rfl ?_
      refine x_iload d_RD_list_255 rfl ?_
      refine x_icmp_ge 280 d_RD_list_257 (by decide) (fun _ => ?_) (fun z => absurd (nI_le (Nat.le_refl _) (by omega)) z)
      refine x_aload_n d_RD_list_280 rfl rfl ?_
      refine x_iload d_RD_list_281 rfl ?_
      refine x_put d_RD_list_283 f_RD_139 (Nat.le_of_ble_eq_true rfl) (Nat.le_of_ble_eq_true rfl) (by first | rfl | assumption) (by rfl) (by rfl) (by exact (Nat.le_of_ble_eq_true rfl)) ?_
      refine x_aload_n d_RD_list_286 rfl rfl ?_
      refine x_iconst 0 d_RD_list_287 (by decide) ?_
      refine x_put d_RD_list_288 f_RD_204 (Nat.le_of_ble_eq_true rfl) (Nat.le_of_ble_eq_true rfl) (by first | rfl | assumption) (by rfl) (by rfl) (by exact (Nat.le_of_ble_eq_true rfl)) ?_
      refine x_same (h' := (g_mw h N T1 Na1 B1 Nm1 z1 q1 St1 Vr1 Kp1 (nI p3) bh1 (nI (g_ky (g_at u N) N p3)) (nI o) nm1 (nI i) (nI t0) pl (nI V1.length) kn (nI 0) Wd2)) (x_pt rfl rfl rfl rfl rfl rfl rfl rfl rfl rfl rfl rfl rfl rfl rfl rfl rfl rfl rfl rfl rfl rfl rfl rfl rfl rfl rfl rfl rfl rfl rfl rfl rfl rfl rfl rfl rfl rfl rfl rfl rfl rfl rfl rfl rfl rfl rfl rfl rfl rfl rfl rfl) ?_
      refine x_iload_n d_RD_list_291 rfl rfl ?_
      exact x_ireturn d_RD_list_292 rfl rfl (g_MKi hR.symm ⟨r, T1, Na1, B1, Nm1, z1, q1, St1, Vr1, Kp1, bh1, nI i, nm1, Wd2, rfl, hNI1, hMV1, g_TOc hu hN hTO hl hk, hE1, hz1, hq1, hS1, hT1, rfl⟩)
    | succ m ih =>
      intro i Wd2 hi hk
      refine x_iload d_RD_list_253 rfl ?_
      refine x_iload d_RD_list_255 rfl ?_
      refine x_icmp_ge 280 d_RD_list_257 (by decide) (fun z => absurd z (nI_ge (by omega) (by omega))) (fun _ => ?_)
      refine x_aload_n d_RD_list_260 rfl rfl ?_
      refine x_get d_RD_list_261 f_RD_68 (Nat.le_of_ble_eq_true rfl) (Nat.le_of_ble_eq_true rfl) (by first | rfl | assumption) (by rfl) ?_
      refine x_iload d_RD_list_264 rfl ?_
      refine x_aload_n d_RD_list_266 rfl rfl ?_
      refine x_get d_RD_list_267 f_RD_78 (Nat.le_of_ble_eq_true rfl) (Nat.le_of_ble_eq_true rfl) (by first | rfl | assumption) (by rfl) ?_
      refine x_iload d_RD_list_270 rfl ?_
      refine x_bald d_RD_list_272 (Nat.le_of_ble_eq_true rfl) (Nat.le_of_ble_eq_true rfl) (by first | rfl | assumption) (vp_in_nI (show i < 4096 by omega) (by decide)) ?_
      refine x_topi (vp_nar .byte (Wd0 i)) (by rw [nI_clamp (by omega)]; exact hKp i (by omega)) ?_
      refine x_bast d_RD_list_273 (Nat.le_of_ble_eq_true rfl) (Nat.le_of_ble_eq_true rfl) (by first | rfl | assumption) (vp_in_nI (show i < 4096 by omega) (by decide)) ?_
      refine x_iinc d_RD_list_274 rfl 1 (by decide) (Nat.le_of_ble_eq_true rfl) ?_
      refine x_goto 253 d_RD_list_277 (by decide) ?_
      refine x_lv [(0, .ref 36), (2, .int (nI r)), (4, .int (nI l)), (6, .int (nI (i + 1)))] (by rw [nI_succ i]; rfl) ?_
      refine x_same (h' := (g_mw h N T1 Na1 B1 Nm1 z1 q1 St1 Vr1 Kp1 (nI p3) bh1 (nI (g_ky (g_at u N) N p3)) (nI o) nm1 lt1 (nI t0) pl (nI V1.length) kn rk1 (upd Wd2 i (vp_nar .byte (vp_nar .byte (Wd0 i)))))) (x_pt rfl rfl rfl rfl rfl rfl rfl rfl rfl rfl rfl rfl rfl rfl rfl rfl rfl rfl rfl rfl rfl rfl rfl rfl rfl rfl rfl rfl rfl rfl rfl rfl rfl rfl rfl rfl rfl rfl rfl rfl (show Sum.inl (1, 4096, Sum.inl (upd _ (nI i).toNatClampNeg _)) = _ by rw [nI_clamp (by omega)]; rfl) rfl rfl rfl rfl rfl rfl rfl rfl rfl rfl rfl) ?_
      exact ih (i + 1) _ (by omega) (fun k hk2 => by
        by_cases e : k = i
        · rw [e]; exact g_updY
        · rw [g_updN e]; exact hk k (by omega))
  refine x_iconst 0 d_RD_list_250 (by decide) ?_
  refine x_istore d_RD_list_251 (Nat.le_of_ble_eq_true rfl) ?_
  exact hloop l 0 Wd1 (by omega) (fun k h0 => absurd h0 (Nat.not_lt_zero _))
set_option maxRecDepth 20000 in
theorem w_RD_liPairs {E : xR} {h : xH} {u : Nat → Nat} {N d : Nat} (hu : ∀ i, u i < 256) (hN : N ≤ 4096) {s o t0 z q : Nat} {T : List (List Int32)} {B : Nat → Nat → Int32} {Nm : Nat → Int64} {St : Nat → Int32} {pl kn : Int32} {R : g_Rs} {T1 : List (List Int32)} {Na1 : Nat → Nat → Int32} {Nm1 : Nat → Int64} {Vr1 Kp1 : Nat → Int32} {bh1 lt1 : Int32} {nm1 : Int64} {rk1 : Int32} {Wd1 : Nat → Int32} {V1 : List (Nat × Nat)} {p3 s3 l k : Nat} {Wd0 : Nat → Int32} (hl : l ≤ 4096) (hKp : ∀ k, k < l → Kp1 k = vp_nar .byte (Wd0 k)) (hTO : g_TO u N p3 bh1 (nI l) nm1 Wd0) (hNI1 : g_NI T1 Na1 p3) (hMV1 : g_MV u T1 Vr1 V1) (hk9 : k < 9000) (hkT : g_nt T1 k = some [46]) (ht0 : t0 ≤ 4100) : ∀ (acc : List (Nat × Std.Format)) (z1 q1 r : Nat) (B1 : Nat → Nat → Int32) (St1 : Nat → Int32) (tl : Nat × Std.Format), g_mE T T1 B B1 Nm Nm1 z q z1 q1 → z1 + acc.length + s = z + s3 → q1 + 2 * acc.length + s + 1 = q + s3 → z1 + acc.length ≤ 8000 → q1 + 2 * acc.length ≤ 8999 → t0 + acc.length ≤ 4100 → (∀ k, k < t0 → St1 k = St k) → g_AS u N T1 B1 Nm1 z1 q1 St1 t0 acc → g_wf u N tl.2 → g_lk u N tl.1 tl.2 → g_mT u N T1 B1 Nm1 z1 q1 tl r → .inr (p3, s3, V1, g_liF acc tl, 0) = R → x_W E M_RD_list (x_room (4 * d + 13) 0 0) (g_MK u N h o t0 pl kn T B Nm z q St s R) 52 (g_mw h N T1 Na1 B1 Nm1 z1 q1 St1 Vr1 Kp1 (nI p3) bh1 (nI (g_ky (g_at u N) N p3)) (nI o) nm1 lt1 (nI (t0 + acc.length)) pl (nI V1.length) kn rk1 Wd1) 198 [(0, .ref 36), (1, .int (nI t0)), (2, .int (nI r)), (4, .int (nI l)), (5, .int (nI k))] [] 0 0 := by
  intro acc
  induction acc with
  | nil =>
    intro z1 q1 r B1 St1 tl hE1 hz1 hq1 hzb hqb htb hS1 hAS hwl hkl hT1 hR
    refine x_aload_n d_RD_list_198 rfl rfl ?_
    refine x_get d_RD_list_199 f_RD_102 (Nat.le_of_ble_eq_true rfl) (Nat.le_of_ble_eq_true rfl) (by first | rfl | assumption) (by rfl) ?_
    refine x_iload_n d_RD_list_202 rfl rfl ?_
    refine x_icmp_le 250 d_RD_list_203 (by decide) (fun _ => ?_) (fun z => absurd (show nI (t0 + 0) ≤ nI t0 from nI_le (Nat.le_refl _) (by omega)) z)
    refine x_wk [(0, .ref 36), (2, .int (nI r)), (4, .int (nI l))] (by simp) ?_
    exact w_RD_liEnd hu hN hl hKp hTO hNI1 hMV1 hE1 hz1 hq1 hS1 hT1 hR
  | cons x acc ih =>
    intro z1 q1 r B1 St1 tl hE1 hz1 hq1 hzb hqb htb hS1 hAS hwl hkl hT1 hR
    rw [List.length_cons] at hz1 hq1 hzb hqb htb
    obtain ⟨⟨rx, hx1, hx2, hx3, hx4⟩, hAS0⟩ := hAS
    refine x_aload_n d_RD_list_198 rfl rfl ?_
    refine x_get d_RD_list_199 f_RD_102 (Nat.le_of_ble_eq_true rfl) (Nat.le_of_ble_eq_true rfl) (by first | rfl | assumption) (by rfl) ?_
    refine x_iload_n d_RD_list_202 rfl rfl ?_
    refine x_icmp_le 250 d_RD_list_203 (by decide) (fun z => absurd z (show ¬ nI (t0 + (x :: acc).length) ≤ nI t0 from nI_ge (by rw [List.length_cons]; omega) (by rw [List.length_cons]; omega))) (fun _ => ?_)
    refine x_aload_n d_RD_list_206 rfl rfl ?_
    refine x_get d_RD_list_207 f_RD_72 (Nat.le_of_ble_eq_true rfl) (Nat.le_of_ble_eq_true rfl) (by first | rfl | assumption) (by rfl) ?_
    refine x_aload_n d_RD_list_210 rfl rfl ?_
    refine x_get d_RD_list_211 f_RD_102 (Nat.le_of_ble_eq_true rfl) (Nat.le_of_ble_eq_true rfl) (by first | rfl | assumption) (by rfl) ?_
    refine x_iload_n d_RD_list_214 rfl rfl ?_
    refine x_iast d_RD_list_215 (Nat.le_of_ble_eq_true rfl) (Nat.le_of_ble_eq_true rfl) (by first | rfl | assumption) (vp_in_nI (show t0 + (x :: acc).length < 4200 by rw [List.length_cons]; omega) (by decide)) ?_
    refine x_same (h' := (g_mw h N T1 Na1 B1 Nm1 z1 q1 (upd St1 (t0 + acc.length + 1) (nI r)) Vr1 Kp1 (nI p3) bh1 (nI (g_ky (g_at u N) N p3)) (nI o) nm1 lt1 (nI (t0 + (x :: acc).length)) pl (nI V1.length) kn rk1 Wd1)) (x_pt rfl rfl rfl rfl rfl rfl rfl rfl rfl rfl rfl rfl rfl rfl rfl rfl rfl rfl rfl rfl rfl rfl rfl rfl rfl rfl rfl rfl rfl rfl rfl rfl rfl rfl rfl rfl rfl rfl rfl rfl rfl (show Sum.inl (0, 4200, Sum.inl (upd _ (nI (t0 + (x :: acc).length)).toNatClampNeg _)) = _ by rw [nI_clamp (by rw [List.length_cons]; omega)]; rfl) rfl rfl rfl rfl rfl rfl rfl rfl rfl rfl) ?_
    refine x_aload_n d_RD_list_216 rfl rfl ?_
    refine x_get d_RD_list_217 f_RD_81 (Nat.le_of_ble_eq_true rfl) (Nat.le_of_ble_eq_true rfl) (by first | rfl | assumption) (by rfl) ?_
    refine x_iload d_RD_list_220 rfl ?_
    refine x_aload_n d_RD_list_222 rfl rfl ?_
    refine x_get d_RD_list_223 f_RD_72 (Nat.le_of_ble_eq_true rfl) (Nat.le_of_ble_eq_true rfl) (by first | rfl | assumption) (by rfl) ?_
    refine x_aload_n d_RD_list_226 rfl rfl ?_
    refine x_get d_RD_list_227 f_RD_102 (Nat.le_of_ble_eq_true rfl) (Nat.le_of_ble_eq_true rfl) (by first | rfl | assumption) (by rfl) ?_
    refine x_iconst 1 d_RD_list_230 (by decide) ?_
    refine x_isub d_RD_list_231 ?_
    refine x_topi (nI (t0 + acc.length)) (by rw [show (1 : Int32) = nI 1 from rfl, g_nIsub (by rw [List.length_cons]; omega)]; rfl) ?_
    refine x_iconst 2 d_RD_list_232 (by decide) ?_
    refine x_same (h' := (g_ew (g_mw h N T1 Na1 B1 Nm1 z1 q1 (upd St1 (t0 + acc.length + 1) (nI r)) Vr1 Kp1 (nI p3) bh1 (nI (g_ky (g_at u N) N p3)) (nI o) nm1 lt1 (nI (t0 + (x :: acc).length)) pl (nI V1.length) kn rk1 Wd1) B1 Nm1 (nI z1) (nI q1))) (x_pt rfl rfl rfl rfl rfl rfl rfl rfl rfl rfl rfl rfl rfl rfl rfl rfl rfl rfl rfl rfl rfl rfl rfl rfl rfl rfl rfl rfl rfl rfl rfl rfl rfl rfl rfl rfl rfl rfl rfl rfl rfl rfl rfl rfl rfl rfl rfl rfl rfl rfl rfl rfl) ?_
    refine x_callV4Y d_RD_list_233 k_RD_215 (Nat.le_of_ble_eq_true rfl) (Nat.le_of_ble_eq_true rfl) (by first | rfl | assumption) (by rfl) (w_TS_compound (h := (g_mw h N T1 Na1 B1 Nm1 z1 q1 (upd St1 (t0 + acc.length + 1) (nI r)) Vr1 Kp1 (nI p3) bh1 (nI (g_ky (g_at u N) N p3)) (nI o) nm1 lt1 (nI (t0 + (x :: acc).length)) pl (nI V1.length) kn rk1 Wd1)) (z := z1) (q := q1) (mark := t0 + acc.length) (m := 2) (by omega) (by omega) rfl (by omega)) (show 0 + 1 ≤ 4 * d + 13 by omega) (show 8 + (6 + 11) + 64 * (0) ≤ 64 * (4 * d + 13) by omega) (Nat.le_of_ble_eq_true rfl) (Nat.le_of_ble_eq_true rfl) (Nat.le_of_ble_eq_true rfl) rfl ?_
    refine x_same (h' := (g_mw h N T1 Na1 (g_bc B1 z1 q1 (nI k) (upd St1 (t0 + acc.length + 1) (nI r)) (t0 + acc.length) 2) Nm1 (z1 + 1) (q1 + 2) (upd St1 (t0 + acc.length + 1) (nI r)) Vr1 Kp1 (nI p3) bh1 (nI (g_ky (g_at u N) N p3)) (nI o) nm1 lt1 (nI (t0 + (x :: acc).length)) pl (nI V1.length) kn rk1 Wd1)) (x_pt rfl rfl rfl rfl rfl rfl rfl rfl rfl rfl rfl rfl rfl rfl rfl rfl rfl rfl rfl rfl rfl rfl rfl rfl rfl rfl rfl rfl rfl rfl rfl rfl rfl rfl rfl rfl rfl rfl rfl rfl rfl rfl rfl rfl rfl rfl rfl rfl rfl rfl rfl rfl) ?_
    refine x_istore_n d_RD_list_236 rfl (Nat.le_of_ble_eq_true rfl) ?_
    refine x_aload_n d_RD_list_237 rfl rfl ?_
    refine x_dup d_RD_list_238 rfl ?_
    refine x_get d_RD_list_239 f_RD_102 (Nat.le_of_ble_eq_true rfl) (Nat.le_of_ble_eq_true rfl) (by first | rfl | assumption) (by rfl) ?_
    refine x_iconst 1 d_RD_list_242 (by decide) ?_
    refine x_isub d_RD_list_243 ?_
    refine x_topi (nI (t0 + acc.length)) (by rw [show (1 : Int32) = nI 1 from rfl, g_nIsub (by rw [List.length_cons]; omega)]; rfl) ?_
    refine x_put d_RD_list_244 f_RD_102 (Nat.le_of_ble_eq_true rfl) (Nat.le_of_ble_eq_true rfl) (by first | rfl | assumption) (by rfl) (by rfl) (by exact (Nat.le_of_ble_eq_true rfl)) ?_
    refine x_goto 198 d_RD_list_247 (by decide) ?_
    refine x_lv [(0, .ref 36), (1, .int (nI t0)), (2, .int (nI z1)), (4, .int (nI l)), (5, .int (nI k))] rfl ?_
    refine x_same (h' := (g_mw h N T1 Na1 (g_bc B1 z1 q1 (nI k) (upd St1 (t0 + acc.length + 1) (nI r)) (t0 + acc.length) 2) Nm1 (z1 + 1) (q1 + 2) (upd St1 (t0 + acc.length + 1) (nI r)) Vr1 Kp1 (nI p3) bh1 (nI (g_ky (g_at u N) N p3)) (nI o) nm1 lt1 (nI (t0 + acc.length)) pl (nI V1.length) kn rk1 Wd1)) (x_pt rfl rfl rfl rfl rfl rfl rfl rfl rfl rfl rfl rfl rfl rfl rfl rfl rfl rfl rfl rfl rfl rfl rfl rfl rfl rfl rfl rfl rfl rfl rfl rfl rfl rfl rfl rfl rfl rfl rfl rfl rfl rfl rfl rfl rfl rfl rfl rfl rfl rfl rfl rfl) ?_
    have hAS2 : g_AS u N T1 B1 Nm1 z1 q1 (upd St1 (t0 + acc.length + 1) (nI r)) (t0 + acc.length) [tl, x] := ⟨⟨r, g_updY, hwl, hkl, hT1⟩, ⟨⟨rx, by rw [g_updN (show t0 + acc.length + ([] : List (Nat × Std.Format)).length ≠ t0 + acc.length + 1 by show t0 + acc.length + 0 ≠ _; omega)]; exact hx1, hx2, hx3, hx4⟩, trivial⟩⟩
    exact ih (z1 + 1) (q1 + 2) z1 (g_bc B1 z1 q1 (nI k) (upd St1 (t0 + acc.length + 1) (nI r)) (t0 + acc.length) 2) (upd St1 (t0 + acc.length + 1) (nI r)) (g_pair x tl) (g_mEt hE1 (g_E3 (fun _ _ y => y))) (by omega) (by omega) (by omega) (by omega) (by omega) (fun j hj => by rw [g_updN (by omega)]; exact hS1 j hj) (g_AS_mv (g_E3 (fun _ _ y => y)) acc (fun j hj => g_updN (by omega)) hAS0) ⟨hx3, hx2, hkl, hwl, trivial⟩ (Or.inr (Or.inr (Or.inr (Or.inl ⟨rfl, rfl⟩)))) (g_Tc (acc := [tl, x]) (fun _ _ y => y) hAS2 hk9 (Or.inr ⟨rfl, rfl, hkT⟩)) hR
