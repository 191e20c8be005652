theorem x_if_null {E : xR} {M : xM} {R : Room} {Q : xK} {n : Nat} {h : xH} {pc : Nat} {lv : List (Nat × Value)} {rest : List Value} {cells slots : Nat} {off : Int} (tgt : Nat) (d : decode M.2.1 pc = .ok (.ifnull off, 3)) (ht : (pc : Int) + off = (tgt : Int)) (kt : True → x_W E M R Q n h tgt lv (rest) cells slots) (_ : False → False) : x_W E M R Q n h pc lv (.null :: rest) cells slots := x_ifnullN tgt d ht (kt trivial)
/-- the loop of the paper's print -/
def g_PLp (E : xR) (h : xH) (P0 : Nat → Int32) (Q : xK) : g_MpT := fun tp S n Wk Nx => ∀ Sn : Nat → Int32, (∀ k, k < n → Sn k = nI k) → x_W E M_PP_print (x_room 9 0 0) Q 52 (g_yw h S n Wk Nx Sn P0) 32 [(0, .ref 44), (1, .ref 24), (2, .ref 31), (4, .null), (5, .int (nI tp - 1))] [] 0 0
theorem g_ov0 {S : List Int32} (h : S.length ≤ 4096) : g_b2 (decide (4096 < S.length)) = 0 := by rw [decide_eq_false (by omega)]; rfl
theorem g_ov1 {S : List Int32} (h : 4096 < S.length) : ¬ g_b2 (decide (4096 < S.length)) = 0 := by rw [decide_eq_true h]; decide
theorem g_nm2 {r : Nat} (h : r < 9000) : ¬ nI r = -2 := fun y => absurd (y ▸ nI_pos (show r < 2 ^ 31 by omega) : ¬ (-2 : Int32) < 0) (by decide)
theorem g_nmd46 {T : List (List Int32)} {x : Int32} (h : g_nmd1 T x [46]) : ∃ k, k < 9000 ∧ x = nI k ∧ g_nt T k = some [46] := h
theorem d_PP_print_0 : decode M_PP_print.2.1 0 = .ok (.aload_n 0, 1) := by decide +kernel
theorem d_PP_print_1 : decode M_PP_print.2.1 1 = .ok (.iconst 0, 1) := by decide +kernel
theorem d_PP_print_2 : decode M_PP_print.2.1 2 = .ok (.putfield 25, 3) := by decide +kernel
theorem d_PP_print_5 : decode M_PP_print.2.1 5 = .ok (.aload_n 0, 1) := by decide +kernel
theorem d_PP_print_6 : decode M_PP_print.2.1 6 = .ok (.iconst 0, 1) := by decide +kernel
theorem d_PP_print_7 : decode M_PP_print.2.1 7 = .ok (.putfield 29, 3) := by decide +kernel
theorem d_PP_print_10 : decode M_PP_print.2.1 10 = .ok (.aload_n 0, 1) := by decide +kernel
theorem d_PP_print_11 : decode M_PP_print.2.1 11 = .ok (.iconst 0, 1) := by decide +kernel
theorem d_PP_print_12 : decode M_PP_print.2.1 12 = .ok (.putfield 71, 3) := by decide +kernel
theorem d_PP_print_15 : decode M_PP_print.2.1 15 = .ok (.iconst 0, 1) := by decide +kernel
theorem d_PP_print_16 : decode M_PP_print.2.1 16 = .ok (.istore 5, 2) := by decide +kernel
theorem d_PP_print_18 : decode M_PP_print.2.1 18 = .ok (.aload_n 0, 1) := by decide +kernel
theorem d_PP_print_19 : decode M_PP_print.2.1 19 = .ok (.getfield 15, 3) := by decide +kernel
theorem d_PP_print_22 : decode M_PP_print.2.1 22 = .ok (.iconst 0, 1) := by decide +kernel
theorem d_PP_print_23 : decode M_PP_print.2.1 23 = .ok (.iload_n 3, 1) := by decide +kernel
theorem d_PP_print_24 : decode M_PP_print.2.1 24 = .ok (.iastore, 1) := by decide +kernel
theorem d_PP_print_25 : decode M_PP_print.2.1 25 = .ok (.aload_n 0, 1) := by decide +kernel
theorem d_PP_print_26 : decode M_PP_print.2.1 26 = .ok (.getfield 19, 3) := by decide +kernel
theorem d_PP_print_29 : decode M_PP_print.2.1 29 = .ok (.iconst 0, 1) := by decide +kernel
theorem d_PP_print_30 : decode M_PP_print.2.1 30 = .ok (.iconst 0, 1) := by decide +kernel
theorem d_PP_print_31 : decode M_PP_print.2.1 31 = .ok (.iastore, 1) := by decide +kernel
theorem d_PP_print_32 : decode M_PP_print.2.1 32 = .ok (.iload 5, 2) := by decide +kernel
theorem d_PP_print_34 : decode M_PP_print.2.1 34 = .ok (.ifCond .lt 451, 3) := by decide +kernel
theorem d_PP_print_37 : decode M_PP_print.2.1 37 = .ok (.aload_n 0, 1) := by decide +kernel
theorem d_PP_print_38 : decode M_PP_print.2.1 38 = .ok (.getfield 29, 3) := by decide +kernel
theorem d_PP_print_41 : decode M_PP_print.2.1 41 = .ok (.ifCond .ne 444, 3) := by decide +kernel
theorem d_PP_print_44 : decode M_PP_print.2.1 44 = .ok (.aload_n 0, 1) := by decide +kernel
theorem d_PP_print_45 : decode M_PP_print.2.1 45 = .ok (.getfield 15, 3) := by decide +kernel
theorem d_PP_print_48 : decode M_PP_print.2.1 48 = .ok (.iload 5, 2) := by decide +kernel
theorem d_PP_print_50 : decode M_PP_print.2.1 50 = .ok (.iaload, 1) := by decide +kernel
theorem d_PP_print_51 : decode M_PP_print.2.1 51 = .ok (.istore 6, 2) := by decide +kernel
theorem d_PP_print_53 : decode M_PP_print.2.1 53 = .ok (.iload 6, 2) := by decide +kernel
theorem d_PP_print_55 : decode M_PP_print.2.1 55 = .ok (.bipush (-2), 2) := by decide +kernel
theorem d_PP_print_57 : decode M_PP_print.2.1 57 = .ok (.if_icmp .ne 15, 3) := by decide +kernel
theorem d_PP_print_60 : decode M_PP_print.2.1 60 = .ok (.aload_n 0, 1) := by decide +kernel
theorem d_PP_print_61 : decode M_PP_print.2.1 61 = .ok (.bipush 93, 2) := by decide +kernel
theorem d_PP_print_63 : decode M_PP_print.2.1 63 = .ok (.invokevirtual 33, 3) := by decide +kernel
theorem d_PP_print_66 : decode M_PP_print.2.1 66 = .ok (.iinc 5 (-1), 3) := by decide +kernel
theorem d_PP_print_69 : decode M_PP_print.2.1 69 = .ok (.goto (-37), 3) := by decide +kernel
theorem d_PP_print_72 : decode M_PP_print.2.1 72 = .ok (.aload_n 1, 1) := by decide +kernel
theorem d_PP_print_73 : decode M_PP_print.2.1 73 = .ok (.getfield 78, 3) := by decide +kernel
theorem d_PP_print_76 : decode M_PP_print.2.1 76 = .ok (.iload 6, 2) := by decide +kernel
theorem d_PP_print_78 : decode M_PP_print.2.1 78 = .ok (.iaload, 1) := by decide +kernel
theorem d_PP_print_79 : decode M_PP_print.2.1 79 = .ok (.ifCond .ne 37, 3) := by decide +kernel
theorem d_PP_print_82 : decode M_PP_print.2.1 82 = .ok (.aload 4, 2) := by decide +kernel
theorem d_PP_print_84 : decode M_PP_print.2.1 84 = .ok (.ifnull 32, 3) := by decide +kernel
theorem d_PP_print_87 : decode M_PP_print.2.1 87 = .ok (.aload 4, 2) := by decide +kernel
theorem d_PP_print_89 : decode M_PP_print.2.1 89 = .ok (.aload_n 1, 1) := by decide +kernel
theorem d_PP_print_90 : decode M_PP_print.2.1 90 = .ok (.getfield 83, 3) := by decide +kernel
theorem d_PP_print_93 : decode M_PP_print.2.1 93 = .ok (.iload 6, 2) := by decide +kernel
theorem d_PP_print_95 : decode M_PP_print.2.1 95 = .ok (.iaload, 1) := by decide +kernel
theorem d_PP_print_96 : decode M_PP_print.2.1 96 = .ok (.iaload, 1) := by decide +kernel
theorem d_PP_print_97 : decode M_PP_print.2.1 97 = .ok (.iconst (-1), 1) := by decide +kernel
theorem d_PP_print_98 : decode M_PP_print.2.1 98 = .ok (.if_icmp .eq 18, 3) := by decide +kernel
theorem d_PP_print_101 : decode M_PP_print.2.1 101 = .ok (.aload 4, 2) := by decide +kernel
theorem d_PP_print_103 : decode M_PP_print.2.1 103 = .ok (.aload_n 1, 1) := by decide +kernel
theorem d_PP_print_104 : decode M_PP_print.2.1 104 = .ok (.getfield 83, 3) := by decide +kernel
theorem d_PP_print_107 : decode M_PP_print.2.1 107 = .ok (.iload 6, 2) := by decide +kernel
theorem d_PP_print_109 : decode M_PP_print.2.1 109 = .ok (.iaload, 1) := by decide +kernel
theorem d_PP_print_110 : decode M_PP_print.2.1 110 = .ok (.iaload, 1) := by decide +kernel
theorem d_PP_print_111 : decode M_PP_print.2.1 111 = .ok (.istore 6, 2) := by decide +kernel
theorem d_PP_print_113 : decode M_PP_print.2.1 113 = .ok (.goto (-41), 3) := by decide +kernel
theorem d_PP_print_116 : decode M_PP_print.2.1 116 = .ok (.aload_n 0, 1) := by decide +kernel
theorem d_PP_print_117 : decode M_PP_print.2.1 117 = .ok (.getfield 19, 3) := by decide +kernel
theorem d_PP_print_120 : decode M_PP_print.2.1 120 = .ok (.iload 5, 2) := by decide +kernel
theorem d_PP_print_122 : decode M_PP_print.2.1 122 = .ok (.iaload, 1) := by decide +kernel
theorem d_PP_print_123 : decode M_PP_print.2.1 123 = .ok (.istore 7, 2) := by decide +kernel
theorem d_PP_print_125 : decode M_PP_print.2.1 125 = .ok (.aload_n 1, 1) := by decide +kernel
theorem d_PP_print_126 : decode M_PP_print.2.1 126 = .ok (.getfield 78, 3) := by decide +kernel
theorem d_PP_print_129 : decode M_PP_print.2.1 129 = .ok (.iload 6, 2) := by decide +kernel
theorem d_PP_print_131 : decode M_PP_print.2.1 131 = .ok (.iaload, 1) := by decide +kernel
theorem d_PP_print_132 : decode M_PP_print.2.1 132 = .ok (.ifCond .ne 20, 3) := by decide +kernel
theorem d_PP_print_135 : decode M_PP_print.2.1 135 = .ok (.aload_n 0, 1) := by decide +kernel
theorem d_PP_print_136 : decode M_PP_print.2.1 136 = .ok (.aload_n 1, 1) := by decide +kernel
theorem d_PP_print_137 : decode M_PP_print.2.1 137 = .ok (.getfield 83, 3) := by decide +kernel
theorem d_PP_print_140 : decode M_PP_print.2.1 140 = .ok (.iload 6, 2) := by decide +kernel
theorem d_PP_print_142 : decode M_PP_print.2.1 142 = .ok (.iaload, 1) := by decide +kernel
theorem d_PP_print_143 : decode M_PP_print.2.1 143 = .ok (.invokevirtual 86, 3) := by decide +kernel
theorem d_PP_print_146 : decode M_PP_print.2.1 146 = .ok (.iinc 5 (-1), 3) := by decide +kernel
theorem d_PP_print_149 : decode M_PP_print.2.1 149 = .ok (.goto 333, 3) := by decide +kernel
theorem d_PP_print_152 : decode M_PP_print.2.1 152 = .ok (.aload_n 1, 1) := by decide +kernel
theorem d_PP_print_153 : decode M_PP_print.2.1 153 = .ok (.getfield 78, 3) := by decide +kernel
theorem d_PP_print_156 : decode M_PP_print.2.1 156 = .ok (.iload 6, 2) := by decide +kernel
theorem d_PP_print_158 : decode M_PP_print.2.1 158 = .ok (.iaload, 1) := by decide +kernel
theorem d_PP_print_159 : decode M_PP_print.2.1 159 = .ok (.iconst 1, 1) := by decide +kernel
theorem d_PP_print_160 : decode M_PP_print.2.1 160 = .ok (.if_icmp .ne 20, 3) := by decide +kernel
theorem d_PP_print_163 : decode M_PP_print.2.1 163 = .ok (.aload_n 0, 1) := by decide +kernel
theorem d_PP_print_164 : decode M_PP_print.2.1 164 = .ok (.aload_n 1, 1) := by decide +kernel
theorem d_PP_print_165 : decode M_PP_print.2.1 165 = .ok (.getfield 89, 3) := by decide +kernel
theorem d_PP_print_168 : decode M_PP_print.2.1 168 = .ok (.iload 6, 2) := by decide +kernel
theorem d_PP_print_170 : decode M_PP_print.2.1 170 = .ok (.laload, 1) := by decide +kernel
theorem d_PP_print_171 : decode M_PP_print.2.1 171 = .ok (.invokevirtual 74, 3) := by decide +kernel
theorem d_PP_print_174 : decode M_PP_print.2.1 174 = .ok (.iinc 5 (-1), 3) := by decide +kernel
theorem d_PP_print_177 : decode M_PP_print.2.1 177 = .ok (.goto 305, 3) := by decide +kernel
theorem d_PP_print_180 : decode M_PP_print.2.1 180 = .ok (.aload_n 1, 1) := by decide +kernel
theorem d_PP_print_181 : decode M_PP_print.2.1 181 = .ok (.getfield 92, 3) := by decide +kernel
theorem d_PP_print_184 : decode M_PP_print.2.1 184 = .ok (.iload 6, 2) := by decide +kernel
theorem d_PP_print_186 : decode M_PP_print.2.1 186 = .ok (.iaload, 1) := by decide +kernel
theorem d_PP_print_187 : decode M_PP_print.2.1 187 = .ok (.iconst 2, 1) := by decide +kernel
theorem d_PP_print_188 : decode M_PP_print.2.1 188 = .ok (.if_icmp .ne 280, 3) := by decide +kernel
theorem d_PP_print_191 : decode M_PP_print.2.1 191 = .ok (.aload_n 2, 1) := by decide +kernel
theorem d_PP_print_192 : decode M_PP_print.2.1 192 = .ok (.aload_n 1, 1) := by decide +kernel
theorem d_PP_print_193 : decode M_PP_print.2.1 193 = .ok (.getfield 83, 3) := by decide +kernel
theorem d_PP_print_196 : decode M_PP_print.2.1 196 = .ok (.iload 6, 2) := by decide +kernel
theorem d_PP_print_198 : decode M_PP_print.2.1 198 = .ok (.iaload, 1) := by decide +kernel
theorem d_PP_print_199 : decode M_PP_print.2.1 199 = .ok (.ldc 59, 2) := by decide +kernel
theorem d_PP_print_201 : decode M_PP_print.2.1 201 = .ok (.invokevirtual 55, 3) := by decide +kernel
theorem d_PP_print_204 : decode M_PP_print.2.1 204 = .ok (.ifCond .eq 264, 3) := by decide +kernel
theorem d_PP_print_207 : decode M_PP_print.2.1 207 = .ok (.iload 7, 2) := by decide +kernel
theorem d_PP_print_209 : decode M_PP_print.2.1 209 = .ok (.ifCond .ne 9, 3) := by decide +kernel
theorem d_PP_print_212 : decode M_PP_print.2.1 212 = .ok (.aload_n 0, 1) := by decide +kernel
theorem d_PP_print_213 : decode M_PP_print.2.1 213 = .ok (.bipush 91, 2) := by decide +kernel
theorem d_PP_print_215 : decode M_PP_print.2.1 215 = .ok (.invokevirtual 33, 3) := by decide +kernel
theorem d_PP_print_218 : decode M_PP_print.2.1 218 = .ok (.iload 7, 2) := by decide +kernel
theorem d_PP_print_220 : decode M_PP_print.2.1 220 = .ok (.iconst 2, 1) := by decide +kernel
theorem d_PP_print_221 : decode M_PP_print.2.1 221 = .ok (.irem, 1) := by decide +kernel
theorem d_PP_print_222 : decode M_PP_print.2.1 222 = .ok (.ifCond .ne 42, 3) := by decide +kernel
theorem d_PP_print_225 : decode M_PP_print.2.1 225 = .ok (.aload_n 0, 1) := by decide +kernel
theorem d_PP_print_226 : decode M_PP_print.2.1 226 = .ok (.getfield 19, 3) := by decide +kernel
theorem d_PP_print_229 : decode M_PP_print.2.1 229 = .ok (.iload 5, 2) := by decide +kernel
theorem d_PP_print_231 : decode M_PP_print.2.1 231 = .ok (.iload 7, 2) := by decide +kernel
theorem d_PP_print_233 : decode M_PP_print.2.1 233 = .ok (.iconst 1, 1) := by decide +kernel
theorem d_PP_print_234 : decode M_PP_print.2.1 234 = .ok (.iadd, 1) := by decide +kernel
theorem d_PP_print_235 : decode M_PP_print.2.1 235 = .ok (.iastore, 1) := by decide +kernel
theorem d_PP_print_236 : decode M_PP_print.2.1 236 = .ok (.iinc 5 1, 3) := by decide +kernel
theorem d_PP_print_239 : decode M_PP_print.2.1 239 = .ok (.aload_n 0, 1) := by decide +kernel
theorem d_PP_print_240 : decode M_PP_print.2.1 240 = .ok (.getfield 15, 3) := by decide +kernel
theorem d_PP_print_243 : decode M_PP_print.2.1 243 = .ok (.iload 5, 2) := by decide +kernel
theorem d_PP_print_245 : decode M_PP_print.2.1 245 = .ok (.aload_n 1, 1) := by decide +kernel
theorem d_PP_print_246 : decode M_PP_print.2.1 246 = .ok (.iload 6, 2) := by decide +kernel
theorem d_PP_print_248 : decode M_PP_print.2.1 248 = .ok (.iconst 0, 1) := by decide +kernel
theorem d_PP_print_249 : decode M_PP_print.2.1 249 = .ok (.invokevirtual 95, 3) := by decide +kernel
theorem d_PP_print_252 : decode M_PP_print.2.1 252 = .ok (.iastore, 1) := by decide +kernel
theorem d_PP_print_253 : decode M_PP_print.2.1 253 = .ok (.aload_n 0, 1) := by decide +kernel
theorem d_PP_print_254 : decode M_PP_print.2.1 254 = .ok (.getfield 19, 3) := by decide +kernel
theorem d_PP_print_257 : decode M_PP_print.2.1 257 = .ok (.iload 5, 2) := by decide +kernel
theorem d_PP_print_259 : decode M_PP_print.2.1 259 = .ok (.iconst 0, 1) := by decide +kernel
theorem d_PP_print_260 : decode M_PP_print.2.1 260 = .ok (.iastore, 1) := by decide +kernel
theorem d_PP_print_261 : decode M_PP_print.2.1 261 = .ok (.goto 221, 3) := by decide +kernel
theorem d_PP_print_264 : decode M_PP_print.2.1 264 = .ok (.aload_n 1, 1) := by decide +kernel
theorem d_PP_print_265 : decode M_PP_print.2.1 265 = .ok (.iload 6, 2) := by decide +kernel
theorem d_PP_print_267 : decode M_PP_print.2.1 267 = .ok (.iconst 1, 1) := by decide +kernel
theorem d_PP_print_268 : decode M_PP_print.2.1 268 = .ok (.invokevirtual 95, 3) := by decide +kernel
theorem d_PP_print_271 : decode M_PP_print.2.1 271 = .ok (.istore 8, 2) := by decide +kernel
theorem d_PP_print_273 : decode M_PP_print.2.1 273 = .ok (.aload_n 1, 1) := by decide +kernel
theorem d_PP_print_274 : decode M_PP_print.2.1 274 = .ok (.getfield 78, 3) := by decide +kernel
theorem d_PP_print_277 : decode M_PP_print.2.1 277 = .ok (.iload 8, 2) := by decide +kernel
theorem d_PP_print_279 : decode M_PP_print.2.1 279 = .ok (.iaload, 1) := by decide +kernel
theorem d_PP_print_280 : decode M_PP_print.2.1 280 = .ok (.ifCond .ne 37, 3) := by decide +kernel
theorem d_PP_print_283 : decode M_PP_print.2.1 283 = .ok (.aload 4, 2) := by decide +kernel
theorem d_PP_print_285 : decode M_PP_print.2.1 285 = .ok (.ifnull 32, 3) := by decide +kernel
theorem d_PP_print_288 : decode M_PP_print.2.1 288 = .ok (.aload 4, 2) := by decide +kernel
theorem d_PP_print_290 : decode M_PP_print.2.1 290 = .ok (.aload_n 1, 1) := by decide +kernel
theorem d_PP_print_291 : decode M_PP_print.2.1 291 = .ok (.getfield 83, 3) := by decide +kernel
theorem d_PP_print_294 : decode M_PP_print.2.1 294 = .ok (.iload 8, 2) := by decide +kernel
theorem d_PP_print_296 : decode M_PP_print.2.1 296 = .ok (.iaload, 1) := by decide +kernel
theorem d_PP_print_297 : decode M_PP_print.2.1 297 = .ok (.iaload, 1) := by decide +kernel
theorem d_PP_print_298 : decode M_PP_print.2.1 298 = .ok (.iconst (-1), 1) := by decide +kernel
theorem d_PP_print_299 : decode M_PP_print.2.1 299 = .ok (.if_icmp .eq 18, 3) := by decide +kernel
theorem d_PP_print_302 : decode M_PP_print.2.1 302 = .ok (.aload 4, 2) := by decide +kernel
theorem d_PP_print_304 : decode M_PP_print.2.1 304 = .ok (.aload_n 1, 1) := by decide +kernel
theorem d_PP_print_305 : decode M_PP_print.2.1 305 = .ok (.getfield 83, 3) := by decide +kernel
theorem d_PP_print_308 : decode M_PP_print.2.1 308 = .ok (.iload 8, 2) := by decide +kernel
theorem d_PP_print_310 : decode M_PP_print.2.1 310 = .ok (.iaload, 1) := by decide +kernel
theorem d_PP_print_311 : decode M_PP_print.2.1 311 = .ok (.iaload, 1) := by decide +kernel
theorem d_PP_print_312 : decode M_PP_print.2.1 312 = .ok (.istore 8, 2) := by decide +kernel
theorem d_PP_print_314 : decode M_PP_print.2.1 314 = .ok (.goto (-41), 3) := by decide +kernel
theorem d_PP_print_317 : decode M_PP_print.2.1 317 = .ok (.aload_n 1, 1) := by decide +kernel
theorem d_PP_print_318 : decode M_PP_print.2.1 318 = .ok (.getfield 78, 3) := by decide +kernel
theorem d_PP_print_321 : decode M_PP_print.2.1 321 = .ok (.iload 8, 2) := by decide +kernel
theorem d_PP_print_323 : decode M_PP_print.2.1 323 = .ok (.iaload, 1) := by decide +kernel
theorem d_PP_print_324 : decode M_PP_print.2.1 324 = .ok (.iconst 2, 1) := by decide +kernel
theorem d_PP_print_325 : decode M_PP_print.2.1 325 = .ok (.if_icmp .ne 56, 3) := by decide +kernel
theorem d_PP_print_328 : decode M_PP_print.2.1 328 = .ok (.aload_n 1, 1) := by decide +kernel
theorem d_PP_print_329 : decode M_PP_print.2.1 329 = .ok (.getfield 92, 3) := by decide +kernel
theorem d_PP_print_332 : decode M_PP_print.2.1 332 = .ok (.iload 8, 2) := by decide +kernel
theorem d_PP_print_334 : decode M_PP_print.2.1 334 = .ok (.iaload, 1) := by decide +kernel
theorem d_PP_print_335 : decode M_PP_print.2.1 335 = .ok (.iconst 2, 1) := by decide +kernel
theorem d_PP_print_336 : decode M_PP_print.2.1 336 = .ok (.if_icmp .ne 45, 3) := by decide +kernel
theorem d_PP_print_339 : decode M_PP_print.2.1 339 = .ok (.aload_n 2, 1) := by decide +kernel
theorem d_PP_print_340 : decode M_PP_print.2.1 340 = .ok (.aload_n 1, 1) := by decide +kernel
theorem d_PP_print_341 : decode M_PP_print.2.1 341 = .ok (.getfield 83, 3) := by decide +kernel
theorem d_PP_print_344 : decode M_PP_print.2.1 344 = .ok (.iload 8, 2) := by decide +kernel
theorem d_PP_print_346 : decode M_PP_print.2.1 346 = .ok (.iaload, 1) := by decide +kernel
theorem d_PP_print_347 : decode M_PP_print.2.1 347 = .ok (.ldc 59, 2) := by decide +kernel
theorem d_PP_print_349 : decode M_PP_print.2.1 349 = .ok (.invokevirtual 55, 3) := by decide +kernel
theorem d_PP_print_352 : decode M_PP_print.2.1 352 = .ok (.ifCond .eq 29, 3) := by decide +kernel
theorem d_PP_print_355 : decode M_PP_print.2.1 355 = .ok (.aload_n 0, 1) := by decide +kernel
theorem d_PP_print_356 : decode M_PP_print.2.1 356 = .ok (.bipush 44, 2) := by decide +kernel
theorem d_PP_print_358 : decode M_PP_print.2.1 358 = .ok (.invokevirtual 33, 3) := by decide +kernel
theorem d_PP_print_361 : decode M_PP_print.2.1 361 = .ok (.aload_n 0, 1) := by decide +kernel
theorem d_PP_print_362 : decode M_PP_print.2.1 362 = .ok (.getfield 15, 3) := by decide +kernel
theorem d_PP_print_365 : decode M_PP_print.2.1 365 = .ok (.iload 5, 2) := by decide +kernel
theorem d_PP_print_367 : decode M_PP_print.2.1 367 = .ok (.iload 8, 2) := by decide +kernel
theorem d_PP_print_369 : decode M_PP_print.2.1 369 = .ok (.iastore, 1) := by decide +kernel
theorem d_PP_print_370 : decode M_PP_print.2.1 370 = .ok (.aload_n 0, 1) := by decide +kernel
theorem d_PP_print_371 : decode M_PP_print.2.1 371 = .ok (.getfield 19, 3) := by decide +kernel
theorem d_PP_print_374 : decode M_PP_print.2.1 374 = .ok (.iload 5, 2) := by decide +kernel
theorem d_PP_print_376 : decode M_PP_print.2.1 376 = .ok (.iconst 2, 1) := by decide +kernel
theorem d_PP_print_377 : decode M_PP_print.2.1 377 = .ok (.iastore, 1) := by decide +kernel
theorem d_PP_print_378 : decode M_PP_print.2.1 378 = .ok (.goto 87, 3) := by decide +kernel
theorem d_PP_print_381 : decode M_PP_print.2.1 381 = .ok (.aload_n 1, 1) := by decide +kernel
theorem d_PP_print_382 : decode M_PP_print.2.1 382 = .ok (.getfield 78, 3) := by decide +kernel
theorem d_PP_print_385 : decode M_PP_print.2.1 385 = .ok (.iload 8, 2) := by decide +kernel
theorem d_PP_print_387 : decode M_PP_print.2.1 387 = .ok (.iaload, 1) := by decide +kernel
theorem d_PP_print_388 : decode M_PP_print.2.1 388 = .ok (.iconst 2, 1) := by decide +kernel
theorem d_PP_print_389 : decode M_PP_print.2.1 389 = .ok (.if_icmp .ne 41, 3) := by decide +kernel
theorem d_PP_print_392 : decode M_PP_print.2.1 392 = .ok (.aload_n 1, 1) := by decide +kernel
theorem d_PP_print_393 : decode M_PP_print.2.1 393 = .ok (.getfield 92, 3) := by decide +kernel
theorem d_PP_print_396 : decode M_PP_print.2.1 396 = .ok (.iload 8, 2) := by decide +kernel
theorem d_PP_print_398 : decode M_PP_print.2.1 398 = .ok (.iaload, 1) := by decide +kernel
theorem d_PP_print_399 : decode M_PP_print.2.1 399 = .ok (.ifCond .ne 31, 3) := by decide +kernel
theorem d_PP_print_402 : decode M_PP_print.2.1 402 = .ok (.aload_n 2, 1) := by decide +kernel
theorem d_PP_print_403 : decode M_PP_print.2.1 403 = .ok (.aload_n 1, 1) := by decide +kernel
theorem d_PP_print_404 : decode M_PP_print.2.1 404 = .ok (.getfield 83, 3) := by decide +kernel
theorem d_PP_print_407 : decode M_PP_print.2.1 407 = .ok (.iload 8, 2) := by decide +kernel
theorem d_PP_print_409 : decode M_PP_print.2.1 409 = .ok (.iaload, 1) := by decide +kernel
theorem d_PP_print_410 : decode M_PP_print.2.1 410 = .ok (.ldc 53, 2) := by decide +kernel
theorem d_PP_print_412 : decode M_PP_print.2.1 412 = .ok (.invokevirtual 55, 3) := by decide +kernel
theorem d_PP_print_415 : decode M_PP_print.2.1 415 = .ok (.ifCond .eq 15, 3) := by decide +kernel
theorem d_PP_print_418 : decode M_PP_print.2.1 418 = .ok (.aload_n 0, 1) := by decide +kernel
theorem d_PP_print_419 : decode M_PP_print.2.1 419 = .ok (.bipush 93, 2) := by decide +kernel
theorem d_PP_print_421 : decode M_PP_print.2.1 421 = .ok (.invokevirtual 33, 3) := by decide +kernel
theorem d_PP_print_424 : decode M_PP_print.2.1 424 = .ok (.iinc 5 (-1), 3) := by decide +kernel
theorem d_PP_print_427 : decode M_PP_print.2.1 427 = .ok (.goto 38, 3) := by decide +kernel
theorem d_PP_print_430 : decode M_PP_print.2.1 430 = .ok (.aload_n 0, 1) := by decide +kernel
theorem d_PP_print_431 : decode M_PP_print.2.1 431 = .ok (.bipush 124, 2) := by decide +kernel
theorem d_PP_print_433 : decode M_PP_print.2.1 433 = .ok (.invokevirtual 33, 3) := by decide +kernel
theorem d_PP_print_436 : decode M_PP_print.2.1 436 = .ok (.aload_n 0, 1) := by decide +kernel
theorem d_PP_print_437 : decode M_PP_print.2.1 437 = .ok (.getfield 15, 3) := by decide +kernel
theorem d_PP_print_440 : decode M_PP_print.2.1 440 = .ok (.iload 5, 2) := by decide +kernel
theorem d_PP_print_442 : decode M_PP_print.2.1 442 = .ok (.bipush (-2), 2) := by decide +kernel
theorem d_PP_print_444 : decode M_PP_print.2.1 444 = .ok (.iastore, 1) := by decide +kernel
theorem d_PP_print_445 : decode M_PP_print.2.1 445 = .ok (.iinc 5 1, 3) := by decide +kernel
theorem d_PP_print_448 : decode M_PP_print.2.1 448 = .ok (.aload_n 0, 1) := by decide +kernel
theorem d_PP_print_449 : decode M_PP_print.2.1 449 = .ok (.getfield 15, 3) := by decide +kernel
theorem d_PP_print_452 : decode M_PP_print.2.1 452 = .ok (.iload 5, 2) := by decide +kernel
theorem d_PP_print_454 : decode M_PP_print.2.1 454 = .ok (.iload 8, 2) := by decide +kernel
theorem d_PP_print_456 : decode M_PP_print.2.1 456 = .ok (.iastore, 1) := by decide +kernel
theorem d_PP_print_457 : decode M_PP_print.2.1 457 = .ok (.aload_n 0, 1) := by decide +kernel
theorem d_PP_print_458 : decode M_PP_print.2.1 458 = .ok (.getfield 19, 3) := by decide +kernel
theorem d_PP_print_461 : decode M_PP_print.2.1 461 = .ok (.iload 5, 2) := by decide +kernel
theorem d_PP_print_463 : decode M_PP_print.2.1 463 = .ok (.iconst 0, 1) := by decide +kernel
theorem d_PP_print_464 : decode M_PP_print.2.1 464 = .ok (.iastore, 1) := by decide +kernel
theorem d_PP_print_465 : decode M_PP_print.2.1 465 = .ok (.goto 17, 3) := by decide +kernel
theorem d_PP_print_468 : decode M_PP_print.2.1 468 = .ok (.aload_n 0, 1) := by decide +kernel
theorem d_PP_print_469 : decode M_PP_print.2.1 469 = .ok (.aload_n 1, 1) := by decide +kernel
theorem d_PP_print_470 : decode M_PP_print.2.1 470 = .ok (.aload_n 2, 1) := by decide +kernel
theorem d_PP_print_471 : decode M_PP_print.2.1 471 = .ok (.iload 6, 2) := by decide +kernel
theorem d_PP_print_473 : decode M_PP_print.2.1 473 = .ok (.iload 7, 2) := by decide +kernel
theorem d_PP_print_475 : decode M_PP_print.2.1 475 = .ok (.iload 5, 2) := by decide +kernel
theorem d_PP_print_477 : decode M_PP_print.2.1 477 = .ok (.invokevirtual 98, 3) := by decide +kernel
theorem d_PP_print_480 : decode M_PP_print.2.1 480 = .ok (.istore 5, 2) := by decide +kernel
theorem d_PP_print_482 : decode M_PP_print.2.1 482 = .ok (.goto (-450), 3) := by decide +kernel
theorem d_PP_print_485 : decode M_PP_print.2.1 485 = .ok (.return_, 1) := by decide +kernel
set_option maxRecDepth 20000 in
theorem w_PP_M12 {E : xR} {h : xH} {P0 : Nat → Int32} {Q : xK} : g_M12 (g_PLp E h P0 Q) := by
  intro tp S n Wk Nx htp hS hW K Sn hSn
  refine x_lv [(0, .ref 44), (1, .ref 24), (2, .ref 31), (4, .null), (5, .int (nI tp))] (by rw [g_nsub1]) ?_
  refine x_iload d_PP_print_32 rfl ?_
  refine x_if_lt 485 d_PP_print_34 (by decide) (fun z => absurd z (nI_pos (show tp < 2 ^ 31 by omega))) (fun _ => ?_)
  refine x_aload_n d_PP_print_37 rfl rfl ?_
  refine x_get d_PP_print_38 f_PP_29 (Nat.le_of_ble_eq_true rfl) (Nat.le_of_ble_eq_true rfl) (by first | rfl | assumption) (by rfl) ?_
  refine x_if_ne 485 d_PP_print_41 (by decide) (fun z => absurd (g_ov0 hS) z) (fun _ => ?_)
  refine x_aload_n d_PP_print_44 rfl rfl ?_
  refine x_get d_PP_print_45 f_PP_15 (Nat.le_of_ble_eq_true rfl) (Nat.le_of_ble_eq_true rfl) (by first | rfl | assumption) (by rfl) ?_
  refine x_iload d_PP_print_48 rfl ?_
  refine x_iald d_PP_print_50 (Nat.le_of_ble_eq_true rfl) (Nat.le_of_ble_eq_true rfl) (by first | rfl | assumption) (vp_in_nI (show tp < 9000 by omega) (by decide)) ?_
  refine x_topi (-2) (by rw [nI_clamp (by omega)]; exact hW) ?_
  refine x_istore d_PP_print_51 (Nat.le_of_ble_eq_true rfl) ?_
  refine x_iload d_PP_print_53 rfl ?_
  refine x_bipush (-2) d_PP_print_55 (by decide) ?_
  refine x_icmp_ne 72 d_PP_print_57 (by decide) (fun z => absurd rfl z) (fun _ => ?_)
  refine x_aload_n d_PP_print_60 rfl rfl ?_
  refine x_bipush 93 d_PP_print_61 (by decide) ?_
  refine x_callV1Y d_PP_print_63 k_PP_33 (Nat.le_of_ble_eq_true rfl) (Nat.le_of_ble_eq_true rfl) (by first | rfl | assumption) (by rfl) w_PP_put (Nat.le_of_ble_eq_true rfl) (Nat.le_of_ble_eq_true rfl) (Nat.le_of_ble_eq_true rfl) (Nat.le_of_ble_eq_true rfl) (Nat.le_of_ble_eq_true rfl) rfl ?_
  refine x_iinc d_PP_print_66 rfl (-1) (by decide) (Nat.le_of_ble_eq_true rfl) ?_
  refine x_goto 32 d_PP_print_69 (by decide) ?_
  refine x_lv [(0, .ref 44), (1, .ref 24), (2, .ref 31), (4, .null), (5, .int (nI tp - 1)), (6, .int (-2))] (by rw [g_nsub3]; rfl) ?_
  refine x_wk [(0, .ref 44), (1, .ref 24), (2, .ref 31), (4, .null), (5, .int (nI tp - 1))] (by simp) ?_
  exact K Sn hSn
set_option maxRecDepth 20000 in
theorem w_PP_M4 {E : xR} {h : xH} {P0 : Nat → Int32} {Q : xK} {B : Nat → Nat → Int32} {Nm : Nat → Int64} {z q : Int32} (hT : g_HT h B Nm z q) : g_M4 B (g_PLp E h P0 Q) := by
  intro tp S n Wk Nx r v htp hS hr hn hv hW b0 b1 K Sn hSn
  obtain ⟨h24c, hb0, hb1, hb2, hb3, hb4, hb5⟩ := hT
  have hT2 : g_HT h B Nm z q := ⟨h24c, hb0, hb1, hb2, hb3, hb4, hb5⟩
  refine x_lv [(0, .ref 44), (1, .ref 24), (2, .ref 31), (4, .null), (5, .int (nI tp))] (by rw [g_nsub1]) ?_
  refine x_iload d_PP_print_32 rfl ?_
  refine x_if_lt 485 d_PP_print_34 (by decide) (fun z => absurd z (nI_pos (show tp < 2 ^ 31 by omega))) (fun _ => ?_)
  refine x_aload_n d_PP_print_37 rfl rfl ?_
  refine x_get d_PP_print_38 f_PP_29 (Nat.le_of_ble_eq_true rfl) (Nat.le_of_ble_eq_true rfl) (by first | rfl | assumption) (by rfl) ?_
  refine x_if_ne 485 d_PP_print_41 (by decide) (fun z => absurd (g_ov0 hS) z) (fun _ => ?_)
  refine x_aload_n d_PP_print_44 rfl rfl ?_
  refine x_get d_PP_print_45 f_PP_15 (Nat.le_of_ble_eq_true rfl) (Nat.le_of_ble_eq_true rfl) (by first | rfl | assumption) (by rfl) ?_
  refine x_iload d_PP_print_48 rfl ?_
  refine x_iald d_PP_print_50 (Nat.le_of_ble_eq_true rfl) (Nat.le_of_ble_eq_true rfl) (by first | rfl | assumption) (vp_in_nI (show tp < 9000 by omega) (by decide)) ?_
  refine x_topi (nI r) (by rw [nI_clamp (by omega)]; exact hW) ?_
  refine x_istore d_PP_print_51 (Nat.le_of_ble_eq_true rfl) ?_
  refine x_iload d_PP_print_53 rfl ?_
  refine x_bipush (-2) d_PP_print_55 (by decide) ?_
  refine x_icmp_ne 72 d_PP_print_57 (by decide) (fun _ => ?_) (fun z => absurd z (g_nm2 (by omega)))
  refine x_aload_n d_PP_print_72 rfl rfl ?_
  refine x_get d_PP_print_73 f_PP_78 (Nat.le_of_ble_eq_true rfl) (Nat.le_of_ble_eq_true rfl) (by first | rfl | assumption) (by rfl) ?_
  refine x_iload d_PP_print_76 rfl ?_
  refine x_iald d_PP_print_78 (Nat.le_of_ble_eq_true rfl) (Nat.le_of_ble_eq_true rfl) (by first | rfl | assumption) (vp_in_nI (show r < 9000 by omega) (by decide)) ?_
  refine x_topi 0 (by rw [nI_clamp (by omega)]; exact b0) ?_
  refine x_if_ne 116 d_PP_print_79 (by decide) (fun z => absurd rfl z) (fun _ => ?_)
  refine x_aloadN d_PP_print_82 rfl ?_
  refine x_if_null 116 d_PP_print_84 (by decide) (fun _ => ?_) (fun z => z)
  refine x_aload_n d_PP_print_116 rfl rfl ?_
  refine x_get d_PP_print_117 f_PP_19 (Nat.le_of_ble_eq_true rfl) (Nat.le_of_ble_eq_true rfl) (by first | rfl | assumption) (by rfl) ?_
  refine x_iload d_PP_print_120 rfl ?_
  refine x_iald d_PP_print_122 (Nat.le_of_ble_eq_true rfl) (Nat.le_of_ble_eq_true rfl) (by first | rfl | assumption) (vp_in_nI (show tp < 9000 by omega) (by decide)) ?_
  refine x_topi (Nx tp) (by rw [nI_clamp (by omega)]) ?_
  refine x_istore d_PP_print_123 (Nat.le_of_ble_eq_true rfl) ?_
  refine x_aload_n d_PP_print_125 rfl rfl ?_
  refine x_get d_PP_print_126 f_PP_78 (Nat.le_of_ble_eq_true rfl) (Nat.le_of_ble_eq_true rfl) (by first | rfl | assumption) (by rfl) ?_
  refine x_iload d_PP_print_129 rfl ?_
  refine x_iald d_PP_print_131 (Nat.le_of_ble_eq_true rfl) (Nat.le_of_ble_eq_true rfl) (by first | rfl | assumption) (vp_in_nI (show r < 9000 by omega) (by decide)) ?_
  refine x_topi 0 (by rw [nI_clamp (by omega)]; exact b0) ?_
  refine x_if_ne 152 d_PP_print_132 (by decide) (fun z => absurd rfl z) (fun _ => ?_)
  refine x_aload_n d_PP_print_135 rfl rfl ?_
  refine x_aload_n d_PP_print_136 rfl rfl ?_
  refine x_get d_PP_print_137 f_PP_83 (Nat.le_of_ble_eq_true rfl) (Nat.le_of_ble_eq_true rfl) (by first | rfl | assumption) (by rfl) ?_
  refine x_iload d_PP_print_140 rfl ?_
  refine x_iald d_PP_print_142 (Nat.le_of_ble_eq_true rfl) (Nat.le_of_ble_eq_true rfl) (by first | rfl | assumption) (vp_in_nI (show r < 9000 by omega) (by decide)) ?_
  refine x_topi (nI v) (by rw [nI_clamp (by omega)]; exact b1) ?_
  refine x_callV1E d_PP_print_143 k_PP_86 (Nat.le_of_ble_eq_true rfl) (Nat.le_of_ble_eq_true rfl) (by first | rfl | assumption) (by rfl) (w_PP_variable hv hn hSn) (Nat.le_of_ble_eq_true rfl) (Nat.le_of_ble_eq_true rfl) (Nat.le_of_ble_eq_true rfl) (Nat.le_of_ble_eq_true rfl) (Nat.le_of_ble_eq_true rfl) rfl (fun v1 hh1 hp1 => ?_)
  obtain ⟨rfl, Sn', hs1, rfl⟩ := hp1
  refine x_iinc d_PP_print_146 rfl (-1) (by decide) (Nat.le_of_ble_eq_true rfl) ?_
  refine x_goto 482 d_PP_print_149 (by decide) ?_
  refine x_goto 32 d_PP_print_482 (by decide) ?_
  refine x_lv [(0, .ref 44), (1, .ref 24), (2, .ref 31), (4, .null), (5, .int (nI tp - 1)), (6, .int (nI r)), (7, .int (Nx tp))] (by rw [g_nsub3]; rfl) ?_
  refine x_wk [(0, .ref 44), (1, .ref 24), (2, .ref 31), (4, .null), (5, .int (nI tp - 1))] (by simp) ?_
  exact K Sn' hs1
set_option maxRecDepth 20000 in
theorem w_PP_M5 {E : xR} {h : xH} {P0 : Nat → Int32} {Q : xK} {B : Nat → Nat → Int32} {Nm : Nat → Int64} {z q : Int32} (hT : g_HT h B Nm z q) : g_M5 B Nm (g_PLp E h P0 Q) := by
  intro tp S n Wk Nx r v htp hS hr hv hW b0 hNm K Sn hSn
  obtain ⟨h24c, hb0, hb1, hb2, hb3, hb4, hb5⟩ := hT
  have hT2 : g_HT h B Nm z q := ⟨h24c, hb0, hb1, hb2, hb3, hb4, hb5⟩
  refine x_lv [(0, .ref 44), (1, .ref 24), (2, .ref 31), (4, .null), (5, .int (nI tp))] (by rw [g_nsub1]) ?_
  refine x_iload d_PP_print_32 rfl ?_
  refine x_if_lt 485 d_PP_print_34 (by decide) (fun z => absurd z (nI_pos (show tp < 2 ^ 31 by omega))) (fun _ => ?_)
  refine x_aload_n d_PP_print_37 rfl rfl ?_
  refine x_get d_PP_print_38 f_PP_29 (Nat.le_of_ble_eq_true rfl) (Nat.le_of_ble_eq_true rfl) (by first | rfl | assumption) (by rfl) ?_
  refine x_if_ne 485 d_PP_print_41 (by decide) (fun z => absurd (g_ov0 hS) z) (fun _ => ?_)
  refine x_aload_n d_PP_print_44 rfl rfl ?_
  refine x_get d_PP_print_45 f_PP_15 (Nat.le_of_ble_eq_true rfl) (Nat.le_of_ble_eq_true rfl) (by first | rfl | assumption) (by rfl) ?_
  refine x_iload d_PP_print_48 rfl ?_
  refine x_iald d_PP_print_50 (Nat.le_of_ble_eq_true rfl) (Nat.le_of_ble_eq_true rfl) (by first | rfl | assumption) (vp_in_nI (show tp < 9000 by omega) (by decide)) ?_
  refine x_topi (nI r) (by rw [nI_clamp (by omega)]; exact hW) ?_
  refine x_istore d_PP_print_51 (Nat.le_of_ble_eq_true rfl) ?_
  refine x_iload d_PP_print_53 rfl ?_
  refine x_bipush (-2) d_PP_print_55 (by decide) ?_
  refine x_icmp_ne 72 d_PP_print_57 (by decide) (fun _ => ?_) (fun z => absurd z (g_nm2 (by omega)))
  refine x_aload_n d_PP_print_72 rfl rfl ?_
  refine x_get d_PP_print_73 f_PP_78 (Nat.le_of_ble_eq_true rfl) (Nat.le_of_ble_eq_true rfl) (by first | rfl | assumption) (by rfl) ?_
  refine x_iload d_PP_print_76 rfl ?_
  refine x_iald d_PP_print_78 (Nat.le_of_ble_eq_true rfl) (Nat.le_of_ble_eq_true rfl) (by first | rfl | assumption) (vp_in_nI (show r < 9000 by omega) (by decide)) ?_
  refine x_topi 1 (by rw [nI_clamp (by omega)]; exact b0) ?_
  refine x_if_ne 116 d_PP_print_79 (by decide) (fun _ => ?_) (fun z => absurd z (by decide))
  refine x_aload_n d_PP_print_116 rfl rfl ?_
  refine x_get d_PP_print_117 f_PP_19 (Nat.le_of_ble_eq_true rfl) (Nat.le_of_ble_eq_true rfl) (by first | rfl | assumption) (by rfl) ?_
  refine x_iload d_PP_print_120 rfl ?_
  refine x_iald d_PP_print_122 (Nat.le_of_ble_eq_true rfl) (Nat.le_of_ble_eq_true rfl) (by first | rfl | assumption) (vp_in_nI (show tp < 9000 by omega) (by decide)) ?_
  refine x_topi (Nx tp) (by rw [nI_clamp (by omega)]) ?_
  refine x_istore d_PP_print_123 (Nat.le_of_ble_eq_true rfl) ?_
  refine x_aload_n d_PP_print_125 rfl rfl ?_
  refine x_get d_PP_print_126 f_PP_78 (Nat.le_of_ble_eq_true rfl) (Nat.le_of_ble_eq_true rfl) (by first | rfl | assumption) (by rfl) ?_
  refine x_iload d_PP_print_129 rfl ?_
  refine x_iald d_PP_print_131 (Nat.le_of_ble_eq_true rfl) (Nat.le_of_ble_eq_true rfl) (by first | rfl | assumption) (vp_in_nI (show r < 9000 by omega) (by decide)) ?_
  refine x_topi 1 (by rw [nI_clamp (by omega)]; exact b0) ?_
  refine x_if_ne 152 d_PP_print_132 (by decide) (fun _ => ?_) (fun z => absurd z (by decide))
  refine x_aload_n d_PP_print_152 rfl rfl ?_
  refine x_get d_PP_print_153 f_PP_78 (Nat.le_of_ble_eq_true rfl) (Nat.le_of_ble_eq_true rfl) (by first | rfl | assumption) (by rfl) ?_
  refine x_iload d_PP_print_156 rfl ?_
  refine x_iald d_PP_print_158 (Nat.le_of_ble_eq_true rfl) (Nat.le_of_ble_eq_true rfl) (by first | rfl | assumption) (vp_in_nI (show r < 9000 by omega) (by decide)) ?_
  refine x_topi 1 (by rw [nI_clamp (by omega)]; exact b0) ?_
  refine x_iconst 1 d_PP_print_159 (by decide) ?_
  refine x_icmp_ne 180 d_PP_print_160 (by decide) (fun z => absurd rfl z) (fun _ => ?_)
  refine x_aload_n d_PP_print_163 rfl rfl ?_
  refine x_aload_n d_PP_print_164 rfl rfl ?_
  refine x_get d_PP_print_165 f_PP_89 (Nat.le_of_ble_eq_true rfl) (Nat.le_of_ble_eq_true rfl) (by first | rfl | assumption) (by rfl) ?_
  refine x_iload d_PP_print_168 rfl ?_
  refine x_lald d_PP_print_170 (Nat.le_of_ble_eq_true rfl) (Nat.le_of_ble_eq_true rfl) (by first | rfl | assumption) (vp_in_nI (show r < 9000 by omega) (by decide)) ?_
  refine x_topl (lN v) (by rw [nI_clamp (by omega)]; exact hNm) ?_
  refine x_callV1Y d_PP_print_171 k_PP_74 (Nat.le_of_ble_eq_true rfl) (Nat.le_of_ble_eq_true rfl) (by first | rfl | assumption) (by rfl) (w_PP_numberP hv) (Nat.le_of_ble_eq_true rfl) (Nat.le_of_ble_eq_true rfl) (Nat.le_of_ble_eq_true rfl) (Nat.le_of_ble_eq_true rfl) (Nat.le_of_ble_eq_true rfl) rfl ?_
  refine x_iinc d_PP_print_174 rfl (-1) (by decide) (Nat.le_of_ble_eq_true rfl) ?_
  refine x_goto 482 d_PP_print_177 (by decide) ?_
  refine x_goto 32 d_PP_print_482 (by decide) ?_
  refine x_lv [(0, .ref 44), (1, .ref 24), (2, .ref 31), (4, .null), (5, .int (nI tp - 1)), (6, .int (nI r)), (7, .int (Nx tp))] (by rw [g_nsub3]; rfl) ?_
  refine x_wk [(0, .ref 44), (1, .ref 24), (2, .ref 31), (4, .null), (5, .int (nI tp - 1))] (by simp) ?_
  exact K Sn hSn
set_option maxRecDepth 20000 in
theorem w_PP_M5n {E : xR} {h : xH} {P0 : Nat → Int32} {Q : xK} {B : Nat → Nat → Int32} {Nm : Nat → Int64} {z q : Int32} (hT : g_HT h B Nm z q) : g_M5n B Nm (g_PLp E h P0 Q) := by
  intro tp S n Wk Nx r v htp hS hr hv hW b0 hNm K Sn hSn
  obtain ⟨h24c, hb0, hb1, hb2, hb3, hb4, hb5⟩ := hT
  have hT2 : g_HT h B Nm z q := ⟨h24c, hb0, hb1, hb2, hb3, hb4, hb5⟩
  refine x_lv [(0, .ref 44), (1, .ref 24), (2, .ref 31), (4, .null), (5, .int (nI tp))] (by rw [g_nsub1]) ?_
  refine x_iload d_PP_print_32 rfl ?_
  refine x_if_lt 485 d_PP_print_34 (by decide) (fun z => absurd z (nI_pos (show tp < 2 ^ 31 by omega))) (fun _ => ?_)
  refine x_aload_n d_PP_print_37 rfl rfl ?_
  refine x_get d_PP_print_38 f_PP_29 (Nat.le_of_ble_eq_true rfl) (Nat.le_of_ble_eq_true rfl) (by first | rfl | assumption) (by rfl) ?_
  refine x_if_ne 485 d_PP_print_41 (by decide) (fun z => absurd (g_ov0 hS) z) (fun _ => ?_)
  refine x_aload_n d_PP_print_44 rfl rfl ?_
  refine x_get d_PP_print_45 f_PP_15 (Nat.le_of_ble_eq_true rfl) (Nat.le_of_ble_eq_true rfl) (by first | rfl | assumption) (by rfl) ?_
  refine x_iload d_PP_print_48 rfl ?_
  refine x_iald d_PP_print_50 (Nat.le_of_ble_eq_true rfl) (Nat.le_of_ble_eq_true rfl) (by first | rfl | assumption) (vp_in_nI (show tp < 9000 by omega) (by decide)) ?_
  refine x_topi (nI r) (by rw [nI_clamp (by omega)]; exact hW) ?_
  refine x_istore d_PP_print_51 (Nat.le_of_ble_eq_true rfl) ?_
  refine x_iload d_PP_print_53 rfl ?_
  refine x_bipush (-2) d_PP_print_55 (by decide) ?_
  refine x_icmp_ne 72 d_PP_print_57 (by decide) (fun _ => ?_) (fun z => absurd z (g_nm2 (by omega)))
  refine x_aload_n d_PP_print_72 rfl rfl ?_
  refine x_get d_PP_print_73 f_PP_78 (Nat.le_of_ble_eq_true rfl) (Nat.le_of_ble_eq_true rfl) (by first | rfl | assumption) (by rfl) ?_
  refine x_iload d_PP_print_76 rfl ?_
  refine x_iald d_PP_print_78 (Nat.le_of_ble_eq_true rfl) (Nat.le_of_ble_eq_true rfl) (by first | rfl | assumption) (vp_in_nI (show r < 9000 by omega) (by decide)) ?_
  refine x_topi 1 (by rw [nI_clamp (by omega)]; exact b0) ?_
  refine x_if_ne 116 d_PP_print_79 (by decide) (fun _ => ?_) (fun z => absurd z (by decide))
  refine x_aload_n d_PP_print_116 rfl rfl ?_
  refine x_get d_PP_print_117 f_PP_19 (Nat.le_of_ble_eq_true rfl) (Nat.le_of_ble_eq_true rfl) (by first | rfl | assumption) (by rfl) ?_
  refine x_iload d_PP_print_120 rfl ?_
  refine x_iald d_PP_print_122 (Nat.le_of_ble_eq_true rfl) (Nat.le_of_ble_eq_true rfl) (by first | rfl | assumption) (vp_in_nI (show tp < 9000 by omega) (by decide)) ?_
  refine x_topi (Nx tp) (by rw [nI_clamp (by omega)]) ?_
  refine x_istore d_PP_print_123 (Nat.le_of_ble_eq_true rfl) ?_
  refine x_aload_n d_PP_print_125 rfl rfl ?_
  refine x_get d_PP_print_126 f_PP_78 (Nat.le_of_ble_eq_true rfl) (Nat.le_of_ble_eq_true rfl) (by first | rfl | assumption) (by rfl) ?_
  refine x_iload d_PP_print_129 rfl ?_
  refine x_iald d_PP_print_131 (Nat.le_of_ble_eq_true rfl) (Nat.le_of_ble_eq_true rfl) (by first | rfl | assumption) (vp_in_nI (show r < 9000 by omega) (by decide)) ?_
  refine x_topi 1 (by rw [nI_clamp (by omega)]; exact b0) ?_
  refine x_if_ne 152 d_PP_print_132 (by decide) (fun _ => ?_) (fun z => absurd z (by decide))
  refine x_aload_n d_PP_print_152 rfl rfl ?_
  refine x_get d_PP_print_153 f_PP_78 (Nat.le_of_ble_eq_true rfl) (Nat.le_of_ble_eq_true rfl) (by first | rfl | assumption) (by rfl) ?_
  refine x_iload d_PP_print_156 rfl ?_
  refine x_iald d_PP_print_158 (Nat.le_of_ble_eq_true rfl) (Nat.le_of_ble_eq_true rfl) (by first | rfl | assumption) (vp_in_nI (show r < 9000 by omega) (by decide)) ?_
  refine x_topi 1 (by rw [nI_clamp (by omega)]; exact b0) ?_
  refine x_iconst 1 d_PP_print_159 (by decide) ?_
  refine x_icmp_ne 180 d_PP_print_160 (by decide) (fun z => absurd rfl z) (fun _ => ?_)
  refine x_aload_n d_PP_print_163 rfl rfl ?_
  refine x_aload_n d_PP_print_164 rfl rfl ?_
  refine x_get d_PP_print_165 f_PP_89 (Nat.le_of_ble_eq_true rfl) (Nat.le_of_ble_eq_true rfl) (by first | rfl | assumption) (by rfl) ?_
  refine x_iload d_PP_print_168 rfl ?_
  refine x_lald d_PP_print_170 (Nat.le_of_ble_eq_true rfl) (Nat.le_of_ble_eq_true rfl) (by first | rfl | assumption) (vp_in_nI (show r < 9000 by omega) (by decide)) ?_
  refine x_topl (-lN v) (by rw [nI_clamp (by omega)]; exact hNm) ?_
  refine x_callV1Y d_PP_print_171 k_PP_74 (Nat.le_of_ble_eq_true rfl) (Nat.le_of_ble_eq_true rfl) (by first | rfl | assumption) (by rfl) (w_PP_numberN hv) (Nat.le_of_ble_eq_true rfl) (Nat.le_of_ble_eq_true rfl) (Nat.le_of_ble_eq_true rfl) (Nat.le_of_ble_eq_true rfl) (Nat.le_of_ble_eq_true rfl) rfl ?_
  refine x_iinc d_PP_print_174 rfl (-1) (by decide) (Nat.le_of_ble_eq_true rfl) ?_
  refine x_goto 482 d_PP_print_177 (by decide) ?_
  refine x_goto 32 d_PP_print_482 (by decide) ?_
  refine x_lv [(0, .ref 44), (1, .ref 24), (2, .ref 31), (4, .null), (5, .int (nI tp - 1)), (6, .int (nI r)), (7, .int (Nx tp))] (by rw [g_nsub3]; rfl) ?_
  refine x_wk [(0, .ref 44), (1, .ref 24), (2, .ref 31), (4, .null), (5, .int (nI tp - 1))] (by simp) ?_
  exact K Sn hSn
set_option maxRecDepth 20000 in
theorem w_PP_M1 {E : xR} {h : xH} {P0 : Nat → Int32} {Q : xK} {T : List (List Int32)} {Na B : Nat → Nat → Int32} {Nm : Nat → Int64} {z q : Int32} (hN : g_HN h T Na) (hT : g_HT h B Nm z q) : g_M1 T B (g_PLp E h P0 Q) := by
  intro tp S n Wk Nx r f x htp hS hr hf9 hx9 hW hX hpa hf hx K Sn hSn
  have h31c := hN.1.1
  obtain ⟨h24c, hb0, hb1, hb2, hb3, hb4, hb5⟩ := hT
  have hT2 : g_HT h B Nm z q := ⟨h24c, hb0, hb1, hb2, hb3, hb4, hb5⟩
  obtain ⟨b0, b3, k, hk9, b1, hk⟩ := hpa
  refine x_lv [(0, .ref 44), (1, .ref 24), (2, .ref 31), (4, .null), (5, .int (nI tp))] (by rw [g_nsub1]) ?_
  refine x_iload d_PP_print_32 rfl ?_
  refine x_if_lt 485 d_PP_print_34 (by decide) (fun z => absurd z (nI_pos (show tp < 2 ^ 31 by omega))) (fun _ => ?_)
  refine x_aload_n d_PP_print_37 rfl rfl ?_
  refine x_get d_PP_print_38 f_PP_29 (Nat.le_of_ble_eq_true rfl) (Nat.le_of_ble_eq_true rfl) (by first | rfl | assumption) (by rfl) ?_
  refine x_if_ne 485 d_PP_print_41 (by decide) (fun z => absurd (g_ov0 hS) z) (fun _ => ?_)
  refine x_aload_n d_PP_print_44 rfl rfl ?_
  refine x_get d_PP_print_45 f_PP_15 (Nat.le_of_ble_eq_true rfl) (Nat.le_of_ble_eq_true rfl) (by first | rfl | assumption) (by rfl) ?_
  refine x_iload d_PP_print_48 rfl ?_
  refine x_iald d_PP_print_50 (Nat.le_of_ble_eq_true rfl) (Nat.le_of_ble_eq_true rfl) (by first | rfl | assumption) (vp_in_nI (show tp < 9000 by omega) (by decide)) ?_
  refine x_topi (nI r) (by rw [nI_clamp (by omega)]; exact hW) ?_
  refine x_istore d_PP_print_51 (Nat.le_of_ble_eq_true rfl) ?_
  refine x_iload d_PP_print_53 rfl ?_
  refine x_bipush (-2) d_PP_print_55 (by decide) ?_
  refine x_icmp_ne 72 d_PP_print_57 (by decide) (fun _ => ?_) (fun z => absurd z (g_nm2 (by omega)))
  refine x_aload_n d_PP_print_72 rfl rfl ?_
  refine x_get d_PP_print_73 f_PP_78 (Nat.le_of_ble_eq_true rfl) (Nat.le_of_ble_eq_true rfl) (by first | rfl | assumption) (by rfl) ?_
  refine x_iload d_PP_print_76 rfl ?_
  refine x_iald d_PP_print_78 (Nat.le_of_ble_eq_true rfl) (Nat.le_of_ble_eq_true rfl) (by first | rfl | assumption) (vp_in_nI (show r < 9000 by omega) (by decide)) ?_
  refine x_topi 2 (by rw [nI_clamp (by omega)]; exact b0) ?_
  refine x_if_ne 116 d_PP_print_79 (by decide) (fun _ => ?_) (fun z => absurd z (by decide))
  refine x_aload_n d_PP_print_116 rfl rfl ?_
  refine x_get d_PP_print_117 f_PP_19 (Nat.le_of_ble_eq_true rfl) (Nat.le_of_ble_eq_true rfl) (by first | rfl | assumption) (by rfl) ?_
  refine x_iload d_PP_print_120 rfl ?_
  refine x_iald d_PP_print_122 (Nat.le_of_ble_eq_true rfl) (Nat.le_of_ble_eq_true rfl) (by first | rfl | assumption) (vp_in_nI (show tp < 9000 by omega) (by decide)) ?_
  refine x_topi 0 (by rw [nI_clamp (by omega)]; exact hX) ?_
  refine x_istore d_PP_print_123 (Nat.le_of_ble_eq_true rfl) ?_
  refine x_aload_n d_PP_print_125 rfl rfl ?_
  refine x_get d_PP_print_126 f_PP_78 (Nat.le_of_ble_eq_true rfl) (Nat.le_of_ble_eq_true rfl) (by first | rfl | assumption) (by rfl) ?_
  refine x_iload d_PP_print_129 rfl ?_
  refine x_iald d_PP_print_131 (Nat.le_of_ble_eq_true rfl) (Nat.le_of_ble_eq_true rfl) (by first | rfl | assumption) (vp_in_nI (show r < 9000 by omega) (by decide)) ?_
  refine x_topi 2 (by rw [nI_clamp (by omega)]; exact b0) ?_
  refine x_if_ne 152 d_PP_print_132 (by decide) (fun _ => ?_) (fun z => absurd z (by decide))
  refine x_aload_n d_PP_print_152 rfl rfl ?_
  refine x_get d_PP_print_153 f_PP_78 (Nat.le_of_ble_eq_true rfl) (Nat.le_of_ble_eq_true rfl) (by first | rfl | assumption) (by rfl) ?_
  refine x_iload d_PP_print_156 rfl ?_
  refine x_iald d_PP_print_158 (Nat.le_of_ble_eq_true rfl) (Nat.le_of_ble_eq_true rfl) (by first | rfl | assumption) (vp_in_nI (show r < 9000 by omega) (by decide)) ?_
  refine x_topi 2 (by rw [nI_clamp (by omega)]; exact b0) ?_
  refine x_iconst 1 d_PP_print_159 (by decide) ?_
  refine x_icmp_ne 180 d_PP_print_160 (by decide) (fun _ => ?_) (fun z => absurd z (by decide))
  refine x_aload_n d_PP_print_180 rfl rfl ?_
  refine x_get d_PP_print_181 f_PP_92 (Nat.le_of_ble_eq_true rfl) (Nat.le_of_ble_eq_true rfl) (by first | rfl | assumption) (by rfl) ?_
  refine x_iload d_PP_print_184 rfl ?_
  refine x_iald d_PP_print_186 (Nat.le_of_ble_eq_true rfl) (Nat.le_of_ble_eq_true rfl) (by first | rfl | assumption) (vp_in_nI (show r < 9000 by omega) (by decide)) ?_
  refine x_topi 2 (by rw [nI_clamp (by omega)]; exact b3) ?_
  refine x_iconst 2 d_PP_print_187 (by decide) ?_
  refine x_icmp_ne 468 d_PP_print_188 (by decide) (fun z => absurd rfl z) (fun _ => ?_)
  refine x_aload_n d_PP_print_191 rfl rfl ?_
  refine x_aload_n d_PP_print_192 rfl rfl ?_
  refine x_get d_PP_print_193 f_PP_83 (Nat.le_of_ble_eq_true rfl) (Nat.le_of_ble_eq_true rfl) (by first | rfl | assumption) (by rfl) ?_
  refine x_iload d_PP_print_196 rfl ?_
  refine x_iald d_PP_print_198 (Nat.le_of_ble_eq_true rfl) (Nat.le_of_ble_eq_true rfl) (by first | rfl | assumption) (vp_in_nI (show r < 9000 by omega) (by decide)) ?_
  refine x_topi (nI k) (by rw [nI_clamp (by omega)]; exact b1) ?_
  refine x_ldcS (i := 4) d_PP_print_199 33 rfl ?_
  refine x_callV2Y d_PP_print_201 k_PP_55 (Nat.le_of_ble_eq_true rfl) (Nat.le_of_ble_eq_true rfl) h31c (by rfl) (q_spells (s := 4) hN hk hk9 (by decide)) (Nat.le_of_ble_eq_true rfl) (Nat.le_of_ble_eq_true rfl) (Nat.le_of_ble_eq_true rfl) (Nat.le_of_ble_eq_true rfl) (Nat.le_of_ble_eq_true rfl) rfl ?_
  refine x_if_eq 468 d_PP_print_204 (by decide) (fun z => absurd z (show ¬ g_b2 (decide ([46] = x_bytS.getD 4 [])) = 0 by decide)) (fun _ => ?_)
  refine x_iload d_PP_print_207 rfl ?_
  refine x_if_ne 218 d_PP_print_209 (by decide) (fun z => absurd rfl z) (fun _ => ?_)
  refine x_aload_n d_PP_print_212 rfl rfl ?_
  refine x_bipush 91 d_PP_print_213 (by decide) ?_
  refine x_callV1Y d_PP_print_215 k_PP_33 (Nat.le_of_ble_eq_true rfl) (Nat.le_of_ble_eq_true rfl) (by first | rfl | assumption) (by rfl) w_PP_put (Nat.le_of_ble_eq_true rfl) (Nat.le_of_ble_eq_true rfl) (Nat.le_of_ble_eq_true rfl) (Nat.le_of_ble_eq_true rfl) (Nat.le_of_ble_eq_true rfl) rfl ?_
  refine x_iload d_PP_print_218 rfl ?_
  refine x_iconst 2 d_PP_print_220 (by decide) ?_
  refine x_irem d_PP_print_221 (by decide) ?_
  refine x_if_ne 264 d_PP_print_222 (by decide) (fun z => absurd (by decide) z) (fun _ => ?_)
  refine x_aload_n d_PP_print_225 rfl rfl ?_
  refine x_get d_PP_print_226 f_PP_19 (Nat.le_of_ble_eq_true rfl) (Nat.le_of_ble_eq_true rfl) (by first | rfl | assumption) (by rfl) ?_
  refine x_iload d_PP_print_229 rfl ?_
  refine x_iload d_PP_print_231 rfl ?_
  refine x_iconst 1 d_PP_print_233 (by decide) ?_
  refine x_iadd d_PP_print_234 ?_
  refine x_iast d_PP_print_235 (Nat.le_of_ble_eq_true rfl) (Nat.le_of_ble_eq_true rfl) (by first | rfl | assumption) (vp_in_nI (show tp < 9000 by omega) (by decide)) ?_
  refine x_iinc d_PP_print_236 rfl 1 (by decide) (Nat.le_of_ble_eq_true rfl) ?_
  refine x_lv [(0, .ref 44), (1, .ref 24), (2, .ref 31), (4, .null), (5, .int (nI (tp + 1))), (6, .int (nI r)), (7, .int 0)] (by rw [nI_succ tp]; rfl) ?_
  refine x_aload_n d_PP_print_239 rfl rfl ?_
  refine x_get d_PP_print_240 f_PP_15 (Nat.le_of_ble_eq_true rfl) (Nat.le_of_ble_eq_true rfl) (by first | rfl | assumption) (by rfl) ?_
  refine x_iload d_PP_print_243 rfl ?_
  refine x_aload_n d_PP_print_245 rfl rfl ?_
  refine x_iload d_PP_print_246 rfl ?_
  refine x_iconst 0 d_PP_print_248 (by decide) ?_
  refine x_callV2Y d_PP_print_249 k_PP_95 (Nat.le_of_ble_eq_true rfl) (Nat.le_of_ble_eq_true rfl) h24c (by rfl) (q_part (i := 0) (f := f) hT2 (show r < 9000 by omega) hf (show f + 0 < 9000 by omega)) (Nat.le_of_ble_eq_true rfl) (Nat.le_of_ble_eq_true rfl) (Nat.le_of_ble_eq_true rfl) (Nat.le_of_ble_eq_true rfl) (Nat.le_of_ble_eq_true rfl) rfl ?_
  refine x_iast d_PP_print_252 (Nat.le_of_ble_eq_true rfl) (Nat.le_of_ble_eq_true rfl) (by first | rfl | assumption) (vp_in_nI (show tp + 1 < 9000 by omega) (by decide)) ?_
  refine x_aload_n d_PP_print_253 rfl rfl ?_
  refine x_get d_PP_print_254 f_PP_19 (Nat.le_of_ble_eq_true rfl) (Nat.le_of_ble_eq_true rfl) (by first | rfl | assumption) (by rfl) ?_
  refine x_iload d_PP_print_257 rfl ?_
  refine x_iconst 0 d_PP_print_259 (by decide) ?_
  refine x_iast d_PP_print_260 (Nat.le_of_ble_eq_true rfl) (Nat.le_of_ble_eq_true rfl) (by first | rfl | assumption) (vp_in_nI (show tp + 1 < 9000 by omega) (by decide)) ?_
  refine x_goto 482 d_PP_print_261 (by decide) ?_
  refine x_goto 32 d_PP_print_482 (by decide) ?_
  refine x_lv [(0, .ref 44), (1, .ref 24), (2, .ref 31), (4, .null), (5, .int (nI (tp + 1 + 1) - 1)), (6, .int (nI r)), (7, .int 0)] (by rw [g_nsub1]) ?_
  refine x_wk [(0, .ref 44), (1, .ref 24), (2, .ref 31), (4, .null), (5, .int (nI (tp + 1 + 1) - 1))] (by simp) ?_
  refine x_same (h' := (g_yw h (S ++ [91]) n (upd Wk (tp + 1) (nI x)) (upd (upd Nx tp 1) (tp + 1) 0) Sn P0)) (x_pt rfl rfl rfl rfl rfl rfl rfl rfl rfl rfl rfl rfl rfl rfl rfl rfl rfl rfl rfl rfl rfl rfl rfl rfl rfl rfl rfl rfl rfl rfl rfl rfl rfl rfl rfl rfl rfl rfl rfl rfl rfl rfl rfl rfl rfl rfl (show (Sum.inl (0, 9000, Sum.inl (upd Wk (nI (tp + 1)).toNatClampNeg (B 4 (f + 0)))) : xE) = Sum.inl (0, 9000, Sum.inl (upd Wk (tp + 1) (nI x))) by rw [nI_clamp (by omega), show B 4 (f + 0) = nI x from hx]) (show (Sum.inl (0, 9000, Sum.inl (upd (upd Nx (nI tp).toNatClampNeg 1) (nI (tp + 1)).toNatClampNeg 0)) : xE) = Sum.inl (0, 9000, Sum.inl (upd (upd Nx tp 1) (tp + 1) 0)) by rw [nI_clamp (by omega), nI_clamp (by omega)]) rfl rfl rfl rfl) ?_
  exact K Sn hSn
set_option maxRecDepth 20000 in
theorem w_PP_M8 {E : xR} {h : xH} {P0 : Nat → Int32} {Q : xK} {T : List (List Int32)} {Na B : Nat → Nat → Int32} {Nm : Nat → Int64} {z q : Int32} (hN : g_HN h T Na) (hT : g_HT h B Nm z q) : g_M8 T B (g_PLp E h P0 Q) := by
  intro tp S n Wk Nx r f x htp hS hr hf9 hx9 hW hX hpa hf hx K Sn hSn
  have h31c := hN.1.1
  obtain ⟨h24c, hb0, hb1, hb2, hb3, hb4, hb5⟩ := hT
  have hT2 : g_HT h B Nm z q := ⟨h24c, hb0, hb1, hb2, hb3, hb4, hb5⟩
  obtain ⟨b0, b3, k, hk9, b1, hk⟩ := hpa
  refine x_lv [(0, .ref 44), (1, .ref 24), (2, .ref 31), (4, .null), (5, .int (nI tp))] (by rw [g_nsub1]) ?_
  refine x_iload d_PP_print_32 rfl ?_
  refine x_if_lt 485 d_PP_print_34 (by decide) (fun z => absurd z (nI_pos (show tp < 2 ^ 31 by omega))) (fun _ => ?_)
  refine x_aload_n d_PP_print_37 rfl rfl ?_
  refine x_get d_PP_print_38 f_PP_29 (Nat.le_of_ble_eq_true rfl) (Nat.le_of_ble_eq_true rfl) (by first | rfl | assumption) (by rfl) ?_
  refine x_if_ne 485 d_PP_print_41 (by decide) (fun z => absurd (g_ov0 hS) z) (fun _ => ?_)
  refine x_aload_n d_PP_print_44 rfl rfl ?_
  refine x_get d_PP_print_45 f_PP_15 (Nat.le_of_ble_eq_true rfl) (Nat.le_of_ble_eq_true rfl) (by first | rfl | assumption) (by rfl) ?_
  refine x_iload d_PP_print_48 rfl ?_
  refine x_iald d_PP_print_50 (Nat.le_of_ble_eq_true rfl) (Nat.le_of_ble_eq_true rfl) (by first | rfl | assumption) (vp_in_nI (show tp < 9000 by omega) (by decide)) ?_
  refine x_topi (nI r) (by rw [nI_clamp (by omega)]; exact hW) ?_
  refine x_istore d_PP_print_51 (Nat.le_of_ble_eq_true rfl) ?_
  refine x_iload d_PP_print_53 rfl ?_
  refine x_bipush (-2) d_PP_print_55 (by decide) ?_
  refine x_icmp_ne 72 d_PP_print_57 (by decide) (fun _ => ?_) (fun z => absurd z (g_nm2 (by omega)))
  refine x_aload_n d_PP_print_72 rfl rfl ?_
  refine x_get d_PP_print_73 f_PP_78 (Nat.le_of_ble_eq_true rfl) (Nat.le_of_ble_eq_true rfl) (by first | rfl | assumption) (by rfl) ?_
  refine x_iload d_PP_print_76 rfl ?_
  refine x_iald d_PP_print_78 (Nat.le_of_ble_eq_true rfl) (Nat.le_of_ble_eq_true rfl) (by first | rfl | assumption) (vp_in_nI (show r < 9000 by omega) (by decide)) ?_
  refine x_topi 2 (by rw [nI_clamp (by omega)]; exact b0) ?_
  refine x_if_ne 116 d_PP_print_79 (by decide) (fun _ => ?_) (fun z => absurd z (by decide))
  refine x_aload_n d_PP_print_116 rfl rfl ?_
  refine x_get d_PP_print_117 f_PP_19 (Nat.le_of_ble_eq_true rfl) (Nat.le_of_ble_eq_true rfl) (by first | rfl | assumption) (by rfl) ?_
  refine x_iload d_PP_print_120 rfl ?_
  refine x_iald d_PP_print_122 (Nat.le_of_ble_eq_true rfl) (Nat.le_of_ble_eq_true rfl) (by first | rfl | assumption) (vp_in_nI (show tp < 9000 by omega) (by decide)) ?_
  refine x_topi 2 (by rw [nI_clamp (by omega)]; exact hX) ?_
  refine x_istore d_PP_print_123 (Nat.le_of_ble_eq_true rfl) ?_
  refine x_aload_n d_PP_print_125 rfl rfl ?_
  refine x_get d_PP_print_126 f_PP_78 (Nat.le_of_ble_eq_true rfl) (Nat.le_of_ble_eq_true rfl) (by first | rfl | assumption) (by rfl) ?_
  refine x_iload d_PP_print_129 rfl ?_
  refine x_iald d_PP_print_131 (Nat.le_of_ble_eq_true rfl) (Nat.le_of_ble_eq_true rfl) (by first | rfl | assumption) (vp_in_nI (show r < 9000 by omega) (by decide)) ?_
  refine x_topi 2 (by rw [nI_clamp (by omega)]; exact b0) ?_
  refine x_if_ne 152 d_PP_print_132 (by decide) (fun _ => ?_) (fun z => absurd z (by decide))
  refine x_aload_n d_PP_print_152 rfl rfl ?_
  refine x_get d_PP_print_153 f_PP_78 (Nat.le_of_ble_eq_true rfl) (Nat.le_of_ble_eq_true rfl) (by first | rfl | assumption) (by rfl) ?_
  refine x_iload d_PP_print_156 rfl ?_
  refine x_iald d_PP_print_158 (Nat.le_of_ble_eq_true rfl) (Nat.le_of_ble_eq_true rfl) (by first | rfl | assumption) (vp_in_nI (show r < 9000 by omega) (by decide)) ?_
  refine x_topi 2 (by rw [nI_clamp (by omega)]; exact b0) ?_
  refine x_iconst 1 d_PP_print_159 (by decide) ?_
  refine x_icmp_ne 180 d_PP_print_160 (by decide) (fun _ => ?_) (fun z => absurd z (by decide))
  refine x_aload_n d_PP_print_180 rfl rfl ?_
  refine x_get d_PP_print_181 f_PP_92 (Nat.le_of_ble_eq_true rfl) (Nat.le_of_ble_eq_true rfl) (by first | rfl | assumption) (by rfl) ?_
  refine x_iload d_PP_print_184 rfl ?_
  refine x_iald d_PP_print_186 (Nat.le_of_ble_eq_true rfl) (Nat.le_of_ble_eq_true rfl) (by first | rfl | assumption) (vp_in_nI (show r < 9000 by omega) (by decide)) ?_
  refine x_topi 2 (by rw [nI_clamp (by omega)]; exact b3) ?_
  refine x_iconst 2 d_PP_print_187 (by decide) ?_
  refine x_icmp_ne 468 d_PP_print_188 (by decide) (fun z => absurd rfl z) (fun _ => ?_)
  refine x_aload_n d_PP_print_191 rfl rfl ?_
  refine x_aload_n d_PP_print_192 rfl rfl ?_
  refine x_get d_PP_print_193 f_PP_83 (Nat.le_of_ble_eq_true rfl) (Nat.le_of_ble_eq_true rfl) (by first | rfl | assumption) (by rfl) ?_
  refine x_iload d_PP_print_196 rfl ?_
  refine x_iald d_PP_print_198 (Nat.le_of_ble_eq_true rfl) (Nat.le_of_ble_eq_true rfl) (by first | rfl | assumption) (vp_in_nI (show r < 9000 by omega) (by decide)) ?_
  refine x_topi (nI k) (by rw [nI_clamp (by omega)]; exact b1) ?_
  refine x_ldcS (i := 4) d_PP_print_199 33 rfl ?_
  refine x_callV2Y d_PP_print_201 k_PP_55 (Nat.le_of_ble_eq_true rfl) (Nat.le_of_ble_eq_true rfl) h31c (by rfl) (q_spells (s := 4) hN hk hk9 (by decide)) (Nat.le_of_ble_eq_true rfl) (Nat.le_of_ble_eq_true rfl) (Nat.le_of_ble_eq_true rfl) (Nat.le_of_ble_eq_true rfl) (Nat.le_of_ble_eq_true rfl) rfl ?_
  refine x_if_eq 468 d_PP_print_204 (by decide) (fun z => absurd z (show ¬ g_b2 (decide ([46] = x_bytS.getD 4 [])) = 0 by decide)) (fun _ => ?_)
  refine x_iload d_PP_print_207 rfl ?_
  refine x_if_ne 218 d_PP_print_209 (by decide) (fun _ => ?_) (fun z => absurd z (by decide))
  refine x_iload d_PP_print_218 rfl ?_
  refine x_iconst 2 d_PP_print_220 (by decide) ?_
  refine x_irem d_PP_print_221 (by decide) ?_
  refine x_if_ne 264 d_PP_print_222 (by decide) (fun z => absurd (by decide) z) (fun _ => ?_)
  refine x_aload_n d_PP_print_225 rfl rfl ?_
  refine x_get d_PP_print_226 f_PP_19 (Nat.le_of_ble_eq_true rfl) (Nat.le_of_ble_eq_true rfl) (by first | rfl | assumption) (by rfl) ?_
  refine x_iload d_PP_print_229 rfl ?_
  refine x_iload d_PP_print_231 rfl ?_
  refine x_iconst 1 d_PP_print_233 (by decide) ?_
  refine x_iadd d_PP_print_234 ?_
  refine x_iast d_PP_print_235 (Nat.le_of_ble_eq_true rfl) (Nat.le_of_ble_eq_true rfl) (by first | rfl | assumption) (vp_in_nI (show tp < 9000 by omega) (by decide)) ?_
  refine x_iinc d_PP_print_236 rfl 1 (by decide) (Nat.le_of_ble_eq_true rfl) ?_
  refine x_lv [(0, .ref 44), (1, .ref 24), (2, .ref 31), (4, .null), (5, .int (nI (tp + 1))), (6, .int (nI r)), (7, .int 2)] (by rw [nI_succ tp]; rfl) ?_
  refine x_aload_n d_PP_print_239 rfl rfl ?_
  refine x_get d_PP_print_240 f_PP_15 (Nat.le_of_ble_eq_true rfl) (Nat.le_of_ble_eq_true rfl) (by first | rfl | assumption) (by rfl) ?_
  refine x_iload d_PP_print_243 rfl ?_
  refine x_aload_n d_PP_print_245 rfl rfl ?_
  refine x_iload d_PP_print_246 rfl ?_
  refine x_iconst 0 d_PP_print_248 (by decide) ?_
  refine x_callV2Y d_PP_print_249 k_PP_95 (Nat.le_of_ble_eq_true rfl) (Nat.le_of_ble_eq_true rfl) h24c (by rfl) (q_part (i := 0) (f := f) hT2 (show r < 9000 by omega) hf (show f + 0 < 9000 by omega)) (Nat.le_of_ble_eq_true rfl) (Nat.le_of_ble_eq_true rfl) (Nat.le_of_ble_eq_true rfl) (Nat.le_of_ble_eq_true rfl) (Nat.le_of_ble_eq_true rfl) rfl ?_
  refine x_iast d_PP_print_252 (Nat.le_of_ble_eq_true rfl) (Nat.le_of_ble_eq_true rfl) (by first | rfl | assumption) (vp_in_nI (show tp + 1 < 9000 by omega) (by decide)) ?_
  refine x_aload_n d_PP_print_253 rfl rfl ?_
  refine x_get d_PP_print_254 f_PP_19 (Nat.le_of_ble_eq_true rfl) (Nat.le_of_ble_eq_true rfl) (by first | rfl | assumption) (by rfl) ?_
  refine x_iload d_PP_print_257 rfl ?_
  refine x_iconst 0 d_PP_print_259 (by decide) ?_
  refine x_iast d_PP_print_260 (Nat.le_of_ble_eq_true rfl) (Nat.le_of_ble_eq_true rfl) (by first | rfl | assumption) (vp_in_nI (show tp + 1 < 9000 by omega) (by decide)) ?_
  refine x_goto 482 d_PP_print_261 (by decide) ?_
  refine x_goto 32 d_PP_print_482 (by decide) ?_
  refine x_lv [(0, .ref 44), (1, .ref 24), (2, .ref 31), (4, .null), (5, .int (nI (tp + 1 + 1) - 1)), (6, .int (nI r)), (7, .int 2)] (by rw [g_nsub1]) ?_
  refine x_wk [(0, .ref 44), (1, .ref 24), (2, .ref 31), (4, .null), (5, .int (nI (tp + 1 + 1) - 1))] (by simp) ?_
  refine x_same (h' := (g_yw h S n (upd Wk (tp + 1) (nI x)) (upd (upd Nx tp 3) (tp + 1) 0) Sn P0)) (x_pt rfl rfl rfl rfl rfl rfl rfl rfl rfl rfl rfl rfl rfl rfl rfl rfl rfl rfl rfl rfl rfl rfl rfl rfl rfl rfl rfl rfl rfl rfl rfl rfl rfl rfl rfl rfl rfl rfl rfl rfl rfl rfl rfl rfl rfl rfl (show (Sum.inl (0, 9000, Sum.inl (upd Wk (nI (tp + 1)).toNatClampNeg (B 4 (f + 0)))) : xE) = Sum.inl (0, 9000, Sum.inl (upd Wk (tp + 1) (nI x))) by rw [nI_clamp (by omega), show B 4 (f + 0) = nI x from hx]) (show (Sum.inl (0, 9000, Sum.inl (upd (upd Nx (nI tp).toNatClampNeg 3) (nI (tp + 1)).toNatClampNeg 0)) : xE) = Sum.inl (0, 9000, Sum.inl (upd (upd Nx tp 3) (tp + 1) 0)) by rw [nI_clamp (by omega), nI_clamp (by omega)]) rfl rfl rfl rfl) ?_
  exact K Sn hSn
set_option maxRecDepth 20000 in
theorem w_PP_M2 {E : xR} {h : xH} {P0 : Nat → Int32} {Q : xK} {T : List (List Int32)} {Na B : Nat → Nat → Int32} {Nm : Nat → Int64} {z q : Int32} (hN : g_HN h T Na) (hT : g_HT h B Nm z q) : g_M2 T B (g_PLp E h P0 Q) := by
  intro tp S n Wk Nx r w htp hS hr hW hX hna K Sn hSn
  have h31c := hN.1.1
  obtain ⟨h24c, hb0, hb1, hb2, hb3, hb4, hb5⟩ := hT
  have hT2 : g_HT h B Nm z q := ⟨h24c, hb0, hb1, hb2, hb3, hb4, hb5⟩
  obtain ⟨b0, b3, ⟨k, hk9, b1, hk⟩, a4, a5, a6⟩ := id hna
  have h468 : x_W E M_PP_print (x_room 9 0 0) Q 52 (g_yw h S n Wk Nx Sn P0) 468 [(0, .ref 44), (1, .ref 24), (2, .ref 31), (4, .null), (5, .int (nI tp)), (6, .int (nI r)), (7, .int 0)] [] 0 0 := by
    refine x_aload_n d_PP_print_468 rfl rfl ?_
    refine x_aload_n d_PP_print_469 rfl rfl ?_
    refine x_aload_n d_PP_print_470 rfl rfl ?_
    refine x_iload d_PP_print_471 rfl ?_
    refine x_iload d_PP_print_473 rfl ?_
    refine x_iload d_PP_print_475 rfl ?_
    refine x_callV5Y d_PP_print_477 k_PP_98 (Nat.le_of_ble_eq_true rfl) (Nat.le_of_ble_eq_true rfl) (by first | rfl | assumption) (by rfl) (w_PP_comp0 (tp := tp) (mm := 0) hN hT2 hna hr htp rfl) (Nat.le_of_ble_eq_true rfl) (Nat.le_of_ble_eq_true rfl) (Nat.le_of_ble_eq_true rfl) (Nat.le_of_ble_eq_true rfl) (Nat.le_of_ble_eq_true rfl) rfl ?_
    refine x_istore d_PP_print_480 (Nat.le_of_ble_eq_true rfl) ?_
    refine x_goto 32 d_PP_print_482 (by decide) ?_
    refine x_lv [(0, .ref 44), (1, .ref 24), (2, .ref 31), (4, .null), (5, .int (nI tp - 1)), (6, .int (nI r)), (7, .int 0)] rfl ?_
    refine x_wk [(0, .ref 44), (1, .ref 24), (2, .ref 31), (4, .null), (5, .int (nI tp - 1))] (by simp) ?_
    exact K Sn hSn
  refine x_lv [(0, .ref 44), (1, .ref 24), (2, .ref 31), (4, .null), (5, .int (nI tp))] (by rw [g_nsub1]) ?_
  refine x_iload d_PP_print_32 rfl ?_
  refine x_if_lt 485 d_PP_print_34 (by decide) (fun z => absurd z (nI_pos (show tp < 2 ^ 31 by omega))) (fun _ => ?_)
  refine x_aload_n d_PP_print_37 rfl rfl ?_
  refine x_get d_PP_print_38 f_PP_29 (Nat.le_of_ble_eq_true rfl) (Nat.le_of_ble_eq_true rfl) (by first | rfl | assumption) (by rfl) ?_
  refine x_if_ne 485 d_PP_print_41 (by decide) (fun z => absurd (g_ov0 hS) z) (fun _ => ?_)
  refine x_aload_n d_PP_print_44 rfl rfl ?_
  refine x_get d_PP_print_45 f_PP_15 (Nat.le_of_ble_eq_true rfl) (Nat.le_of_ble_eq_true rfl) (by first | rfl | assumption) (by rfl) ?_
  refine x_iload d_PP_print_48 rfl ?_
  refine x_iald d_PP_print_50 (Nat.le_of_ble_eq_true rfl) (Nat.le_of_ble_eq_true rfl) (by first | rfl | assumption) (vp_in_nI (show tp < 9000 by omega) (by decide)) ?_
  refine x_topi (nI r) (by rw [nI_clamp (by omega)]; exact hW) ?_
  refine x_istore d_PP_print_51 (Nat.le_of_ble_eq_true rfl) ?_
  refine x_iload d_PP_print_53 rfl ?_
  refine x_bipush (-2) d_PP_print_55 (by decide) ?_
  refine x_icmp_ne 72 d_PP_print_57 (by decide) (fun _ => ?_) (fun z => absurd z (g_nm2 (by omega)))
  refine x_aload_n d_PP_print_72 rfl rfl ?_
  refine x_get d_PP_print_73 f_PP_78 (Nat.le_of_ble_eq_true rfl) (Nat.le_of_ble_eq_true rfl) (by first | rfl | assumption) (by rfl) ?_
  refine x_iload d_PP_print_76 rfl ?_
  refine x_iald d_PP_print_78 (Nat.le_of_ble_eq_true rfl) (Nat.le_of_ble_eq_true rfl) (by first | rfl | assumption) (vp_in_nI (show r < 9000 by omega) (by decide)) ?_
  refine x_topi 2 (by rw [nI_clamp (by omega)]; exact b0) ?_
  refine x_if_ne 116 d_PP_print_79 (by decide) (fun _ => ?_) (fun z => absurd z (by decide))
  refine x_aload_n d_PP_print_116 rfl rfl ?_
  refine x_get d_PP_print_117 f_PP_19 (Nat.le_of_ble_eq_true rfl) (Nat.le_of_ble_eq_true rfl) (by first | rfl | assumption) (by rfl) ?_
  refine x_iload d_PP_print_120 rfl ?_
  refine x_iald d_PP_print_122 (Nat.le_of_ble_eq_true rfl) (Nat.le_of_ble_eq_true rfl) (by first | rfl | assumption) (vp_in_nI (show tp < 9000 by omega) (by decide)) ?_
  refine x_topi 0 (by rw [nI_clamp (by omega)]; exact hX) ?_
  refine x_istore d_PP_print_123 (Nat.le_of_ble_eq_true rfl) ?_
  refine x_aload_n d_PP_print_125 rfl rfl ?_
  refine x_get d_PP_print_126 f_PP_78 (Nat.le_of_ble_eq_true rfl) (Nat.le_of_ble_eq_true rfl) (by first | rfl | assumption) (by rfl) ?_
  refine x_iload d_PP_print_129 rfl ?_
  refine x_iald d_PP_print_131 (Nat.le_of_ble_eq_true rfl) (Nat.le_of_ble_eq_true rfl) (by first | rfl | assumption) (vp_in_nI (show r < 9000 by omega) (by decide)) ?_
  refine x_topi 2 (by rw [nI_clamp (by omega)]; exact b0) ?_
  refine x_if_ne 152 d_PP_print_132 (by decide) (fun _ => ?_) (fun z => absurd z (by decide))
  refine x_aload_n d_PP_print_152 rfl rfl ?_
  refine x_get d_PP_print_153 f_PP_78 (Nat.le_of_ble_eq_true rfl) (Nat.le_of_ble_eq_true rfl) (by first | rfl | assumption) (by rfl) ?_
  refine x_iload d_PP_print_156 rfl ?_
  refine x_iald d_PP_print_158 (Nat.le_of_ble_eq_true rfl) (Nat.le_of_ble_eq_true rfl) (by first | rfl | assumption) (vp_in_nI (show r < 9000 by omega) (by decide)) ?_
  refine x_topi 2 (by rw [nI_clamp (by omega)]; exact b0) ?_
  refine x_iconst 1 d_PP_print_159 (by decide) ?_
  refine x_icmp_ne 180 d_PP_print_160 (by decide) (fun _ => ?_) (fun z => absurd z (by decide))
  refine x_aload_n d_PP_print_180 rfl rfl ?_
  refine x_get d_PP_print_181 f_PP_92 (Nat.le_of_ble_eq_true rfl) (Nat.le_of_ble_eq_true rfl) (by first | rfl | assumption) (by rfl) ?_
  refine x_iload d_PP_print_184 rfl ?_
  refine x_iald d_PP_print_186 (Nat.le_of_ble_eq_true rfl) (Nat.le_of_ble_eq_true rfl) (by first | rfl | assumption) (vp_in_nI (show r < 9000 by omega) (by decide)) ?_
  refine x_topi (nI 0) (by rw [nI_clamp (by omega)]; exact b3) ?_
  refine x_iconst 2 d_PP_print_187 (by decide) ?_
  refine x_icmp_ne 468 d_PP_print_188 (by decide) (fun c_188 => ?_) (fun c_188 => ?_)
  · exact h468
  · refine x_aload_n d_PP_print_191 rfl rfl ?_
    refine x_aload_n d_PP_print_192 rfl rfl ?_
    refine x_get d_PP_print_193 f_PP_83 (Nat.le_of_ble_eq_true rfl) (Nat.le_of_ble_eq_true rfl) (by first | rfl | assumption) (by rfl) ?_
    refine x_iload d_PP_print_196 rfl ?_
    refine x_iald d_PP_print_198 (Nat.le_of_ble_eq_true rfl) (Nat.le_of_ble_eq_true rfl) (by first | rfl | assumption) (vp_in_nI (show r < 9000 by omega) (by decide)) ?_
    refine x_topi (nI k) (by rw [nI_clamp (by omega)]; exact b1) ?_
    refine x_ldcS (i := 4) d_PP_print_199 33 rfl ?_
    refine x_callV2Y d_PP_print_201 k_PP_55 (Nat.le_of_ble_eq_true rfl) (Nat.le_of_ble_eq_true rfl) h31c (by rfl) (q_spells (s := 4) hN hk hk9 (by decide)) (Nat.le_of_ble_eq_true rfl) (Nat.le_of_ble_eq_true rfl) (Nat.le_of_ble_eq_true rfl) (Nat.le_of_ble_eq_true rfl) (Nat.le_of_ble_eq_true rfl) rfl ?_
    refine x_if_eq 468 d_PP_print_204 (by decide) (fun _ => ?_) (fun z => absurd (by rw [decide_eq_false (fun (y : w = x_bytS.getD 4 []) => a4 ⟨(g_nIne (b := 2) (by omega) (by decide)).mp c_188, y⟩)]; rfl) z)
    exact h468
set_option maxRecDepth 20000 in
theorem w_PP_M3 {E : xR} {h : xH} {P0 : Nat → Int32} {Q : xK} {T : List (List Int32)} {Na B : Nat → Nat → Int32} {Nm : Nat → Int64} {z q : Int32} (hN : g_HN h T Na) (hT : g_HT h B Nm z q) : g_M3 T B (g_PLp E h P0 Q) := by
  intro tp S n Wk Nx r mm f x w htp hS hr hf9 hx9 hW hX hna hm0 hf hx K Sn hSn
  have h31c := hN.1.1
  obtain ⟨h24c, hb0, hb1, hb2, hb3, hb4, hb5⟩ := hT
  have hT2 : g_HT h B Nm z q := ⟨h24c, hb0, hb1, hb2, hb3, hb4, hb5⟩
  obtain ⟨b0, b3, ⟨k, hk9, b1, hk⟩, a4, a5, a6⟩ := id hna
  have h468 : x_W E M_PP_print (x_room 9 0 0) Q 52 (g_yw h S n Wk Nx Sn P0) 468 [(0, .ref 44), (1, .ref 24), (2, .ref 31), (4, .null), (5, .int (nI tp)), (6, .int (nI r)), (7, .int 0)] [] 0 0 := by
    refine x_aload_n d_PP_print_468 rfl rfl ?_
    refine x_aload_n d_PP_print_469 rfl rfl ?_
    refine x_aload_n d_PP_print_470 rfl rfl ?_
    refine x_iload d_PP_print_471 rfl ?_
    refine x_iload d_PP_print_473 rfl ?_
    refine x_iload d_PP_print_475 rfl ?_
    refine x_callV5Y d_PP_print_477 k_PP_98 (Nat.le_of_ble_eq_true rfl) (Nat.le_of_ble_eq_true rfl) (by first | rfl | assumption) (by rfl) (w_PP_comp1 (tp := tp) hN hT2 hna hr htp hm0 hf hf9 hx) (Nat.le_of_ble_eq_true rfl) (Nat.le_of_ble_eq_true rfl) (Nat.le_of_ble_eq_true rfl) (Nat.le_of_ble_eq_true rfl) (Nat.le_of_ble_eq_true rfl) rfl ?_
    refine x_istore d_PP_print_480 (Nat.le_of_ble_eq_true rfl) ?_
    refine x_goto 32 d_PP_print_482 (by decide) ?_
    refine x_lv [(0, .ref 44), (1, .ref 24), (2, .ref 31), (4, .null), (5, .int (nI (tp + 1 + 1) - 1)), (6, .int (nI r)), (7, .int 0)] (by rw [g_nsub1]; rfl) ?_
    refine x_wk [(0, .ref 44), (1, .ref 24), (2, .ref 31), (4, .null), (5, .int (nI (tp + 1 + 1) - 1))] (by simp) ?_
    exact K Sn hSn
  refine x_lv [(0, .ref 44), (1, .ref 24), (2, .ref 31), (4, .null), (5, .int (nI tp))] (by rw [g_nsub1]) ?_
  refine x_iload d_PP_print_32 rfl ?_
  refine x_if_lt 485 d_PP_print_34 (by decide) (fun z => absurd z (nI_pos (show tp < 2 ^ 31 by omega))) (fun _ => ?_)
  refine x_aload_n d_PP_print_37 rfl rfl ?_
  refine x_get d_PP_print_38 f_PP_29 (Nat.le_of_ble_eq_true rfl) (Nat.le_of_ble_eq_true rfl) (by first | rfl | assumption) (by rfl) ?_
  refine x_if_ne 485 d_PP_print_41 (by decide) (fun z => absurd (g_ov0 hS) z) (fun _ => ?_)
  refine x_aload_n d_PP_print_44 rfl rfl ?_
  refine x_get d_PP_print_45 f_PP_15 (Nat.le_of_ble_eq_true rfl) (Nat.le_of_ble_eq_true rfl) (by first | rfl | assumption) (by rfl) ?_
  refine x_iload d_PP_print_48 rfl ?_
  refine x_iald d_PP_print_50 (Nat.le_of_ble_eq_true rfl) (Nat.le_of_ble_eq_true rfl) (by first | rfl | assumption) (vp_in_nI (show tp < 9000 by omega) (by decide)) ?_
  refine x_topi (nI r) (by rw [nI_clamp (by omega)]; exact hW) ?_
  refine x_istore d_PP_print_51 (Nat.le_of_ble_eq_true rfl) ?_
  refine x_iload d_PP_print_53 rfl ?_
  refine x_bipush (-2) d_PP_print_55 (by decide) ?_
  refine x_icmp_ne 72 d_PP_print_57 (by decide) (fun _ => ?_) (fun z => absurd z (g_nm2 (by omega)))
  refine x_aload_n d_PP_print_72 rfl rfl ?_
  refine x_get d_PP_print_73 f_PP_78 (Nat.le_of_ble_eq_true rfl) (Nat.le_of_ble_eq_true rfl) (by first | rfl | assumption) (by rfl) ?_
  refine x_iload d_PP_print_76 rfl ?_
  refine x_iald d_PP_print_78 (Nat.le_of_ble_eq_true rfl) (Nat.le_of_ble_eq_true rfl) (by first | rfl | assumption) (vp_in_nI (show r < 9000 by omega) (by decide)) ?_
  refine x_topi 2 (by rw [nI_clamp (by omega)]; exact b0) ?_
  refine x_if_ne 116 d_PP_print_79 (by decide) (fun _ => ?_) (fun z => absurd z (by decide))
  refine x_aload_n d_PP_print_116 rfl rfl ?_
  refine x_get d_PP_print_117 f_PP_19 (Nat.le_of_ble_eq_true rfl) (Nat.le_of_ble_eq_true rfl) (by first | rfl | assumption) (by rfl) ?_
  refine x_iload d_PP_print_120 rfl ?_
  refine x_iald d_PP_print_122 (Nat.le_of_ble_eq_true rfl) (Nat.le_of_ble_eq_true rfl) (by first | rfl | assumption) (vp_in_nI (show tp < 9000 by omega) (by decide)) ?_
  refine x_topi 0 (by rw [nI_clamp (by omega)]; exact hX) ?_
  refine x_istore d_PP_print_123 (Nat.le_of_ble_eq_true rfl) ?_
  refine x_aload_n d_PP_print_125 rfl rfl ?_
  refine x_get d_PP_print_126 f_PP_78 (Nat.le_of_ble_eq_true rfl) (Nat.le_of_ble_eq_true rfl) (by first | rfl | assumption) (by rfl) ?_
  refine x_iload d_PP_print_129 rfl ?_
  refine x_iald d_PP_print_131 (Nat.le_of_ble_eq_true rfl) (Nat.le_of_ble_eq_true rfl) (by first | rfl | assumption) (vp_in_nI (show r < 9000 by omega) (by decide)) ?_
  refine x_topi 2 (by rw [nI_clamp (by omega)]; exact b0) ?_
  refine x_if_ne 152 d_PP_print_132 (by decide) (fun _ => ?_) (fun z => absurd z (by decide))
  refine x_aload_n d_PP_print_152 rfl rfl ?_
  refine x_get d_PP_print_153 f_PP_78 (Nat.le_of_ble_eq_true rfl) (Nat.le_of_ble_eq_true rfl) (by first | rfl | assumption) (by rfl) ?_
  refine x_iload d_PP_print_156 rfl ?_
  refine x_iald d_PP_print_158 (Nat.le_of_ble_eq_true rfl) (Nat.le_of_ble_eq_true rfl) (by first | rfl | assumption) (vp_in_nI (show r < 9000 by omega) (by decide)) ?_
  refine x_topi 2 (by rw [nI_clamp (by omega)]; exact b0) ?_
  refine x_iconst 1 d_PP_print_159 (by decide) ?_
  refine x_icmp_ne 180 d_PP_print_160 (by decide) (fun _ => ?_) (fun z => absurd z (by decide))
  refine x_aload_n d_PP_print_180 rfl rfl ?_
  refine x_get d_PP_print_181 f_PP_92 (Nat.le_of_ble_eq_true rfl) (Nat.le_of_ble_eq_true rfl) (by first | rfl | assumption) (by rfl) ?_
  refine x_iload d_PP_print_184 rfl ?_
  refine x_iald d_PP_print_186 (Nat.le_of_ble_eq_true rfl) (Nat.le_of_ble_eq_true rfl) (by first | rfl | assumption) (vp_in_nI (show r < 9000 by omega) (by decide)) ?_
  refine x_topi (nI mm) (by rw [nI_clamp (by omega)]; exact b3) ?_
  refine x_iconst 2 d_PP_print_187 (by decide) ?_
  refine x_icmp_ne 468 d_PP_print_188 (by decide) (fun c_188 => ?_) (fun c_188 => ?_)
  · exact h468
  · refine x_aload_n d_PP_print_191 rfl rfl ?_
    refine x_aload_n d_PP_print_192 rfl rfl ?_
    refine x_get d_PP_print_193 f_PP_83 (Nat.le_of_ble_eq_true rfl) (Nat.le_of_ble_eq_true rfl) (by first | rfl | assumption) (by rfl) ?_
    refine x_iload d_PP_print_196 rfl ?_
    refine x_iald d_PP_print_198 (Nat.le_of_ble_eq_true rfl) (Nat.le_of_ble_eq_true rfl) (by first | rfl | assumption) (vp_in_nI (show r < 9000 by omega) (by decide)) ?_
    refine x_topi (nI k) (by rw [nI_clamp (by omega)]; exact b1) ?_
    refine x_ldcS (i := 4) d_PP_print_199 33 rfl ?_
    refine x_callV2Y d_PP_print_201 k_PP_55 (Nat.le_of_ble_eq_true rfl) (Nat.le_of_ble_eq_true rfl) h31c (by rfl) (q_spells (s := 4) hN hk hk9 (by decide)) (Nat.le_of_ble_eq_true rfl) (Nat.le_of_ble_eq_true rfl) (Nat.le_of_ble_eq_true rfl) (Nat.le_of_ble_eq_true rfl) (Nat.le_of_ble_eq_true rfl) rfl ?_
    refine x_if_eq 468 d_PP_print_204 (by decide) (fun _ => ?_) (fun z => absurd (by rw [decide_eq_false (fun (y : w = x_bytS.getD 4 []) => a4 ⟨(g_nIne (b := 2) (by omega) (by decide)).mp c_188, y⟩)]; rfl) z)
    exact h468
set_option maxRecDepth 20000 in
theorem w_PP_M6 {E : xR} {h : xH} {P0 : Nat → Int32} {Q : xK} {T : List (List Int32)} {Na B : Nat → Nat → Int32} {Nm : Nat → Int64} {z q : Int32} (hN : g_HN h T Na) (hT : g_HT h B Nm z q) : g_M6 T B (g_PLp E h P0 Q) := by
  intro tp S n Wk Nx r mm w htp hS hr hW hX hm0 hna K Sn hSn
  have h31c := hN.1.1
  obtain ⟨h24c, hb0, hb1, hb2, hb3, hb4, hb5⟩ := hT
  have hT2 : g_HT h B Nm z q := ⟨h24c, hb0, hb1, hb2, hb3, hb4, hb5⟩
  obtain ⟨b0, b3, ⟨k, hk9, b1, hk⟩, a4, a5, a6⟩ := id hna
  have h468 : x_W E M_PP_print (x_room 9 0 0) Q 52 (g_yw h S n Wk Nx Sn P0) 468 [(0, .ref 44), (1, .ref 24), (2, .ref 31), (4, .null), (5, .int (nI tp)), (6, .int (nI r)), (7, .int (nI mm))] [] 0 0 := by
    refine x_aload_n d_PP_print_468 rfl rfl ?_
    refine x_aload_n d_PP_print_469 rfl rfl ?_
    refine x_aload_n d_PP_print_470 rfl rfl ?_
    refine x_iload d_PP_print_471 rfl ?_
    refine x_iload d_PP_print_473 rfl ?_
    refine x_iload d_PP_print_475 rfl ?_
    refine x_callV5Y d_PP_print_477 k_PP_98 (Nat.le_of_ble_eq_true rfl) (Nat.le_of_ble_eq_true rfl) (by first | rfl | assumption) (by rfl) (w_PP_comp3 (tp := tp) hN hT2 hna hr htp hm0) (Nat.le_of_ble_eq_true rfl) (Nat.le_of_ble_eq_true rfl) (Nat.le_of_ble_eq_true rfl) (Nat.le_of_ble_eq_true rfl) (Nat.le_of_ble_eq_true rfl) rfl ?_
    refine x_istore d_PP_print_480 (Nat.le_of_ble_eq_true rfl) ?_
    refine x_goto 32 d_PP_print_482 (by decide) ?_
    refine x_lv [(0, .ref 44), (1, .ref 24), (2, .ref 31), (4, .null), (5, .int (nI tp - 1)), (6, .int (nI r)), (7, .int (nI mm))] rfl ?_
    refine x_wk [(0, .ref 44), (1, .ref 24), (2, .ref 31), (4, .null), (5, .int (nI tp - 1))] (by simp) ?_
    exact K Sn hSn
  refine x_lv [(0, .ref 44), (1, .ref 24), (2, .ref 31), (4, .null), (5, .int (nI tp))] (by rw [g_nsub1]) ?_
  refine x_iload d_PP_print_32 rfl ?_
  refine x_if_lt 485 d_PP_print_34 (by decide) (fun z => absurd z (nI_pos (show tp < 2 ^ 31 by omega))) (fun _ => ?_)
  refine x_aload_n d_PP_print_37 rfl rfl ?_
  refine x_get d_PP_print_38 f_PP_29 (Nat.le_of_ble_eq_true rfl) (Nat.le_of_ble_eq_true rfl) (by first | rfl | assumption) (by rfl) ?_
  refine x_if_ne 485 d_PP_print_41 (by decide) (fun z => absurd (g_ov0 hS) z) (fun _ => ?_)
  refine x_aload_n d_PP_print_44 rfl rfl ?_
  refine x_get d_PP_print_45 f_PP_15 (Nat.le_of_ble_eq_true rfl) (Nat.le_of_ble_eq_true rfl) (by first | rfl | assumption) (by rfl) ?_
  refine x_iload d_PP_print_48 rfl ?_
  refine x_iald d_PP_print_50 (Nat.le_of_ble_eq_true rfl) (Nat.le_of_ble_eq_true rfl) (by first | rfl | assumption) (vp_in_nI (show tp < 9000 by omega) (by decide)) ?_
  refine x_topi (nI r) (by rw [nI_clamp (by omega)]; exact hW) ?_
  refine x_istore d_PP_print_51 (Nat.le_of_ble_eq_true rfl) ?_
  refine x_iload d_PP_print_53 rfl ?_
  refine x_bipush (-2) d_PP_print_55 (by decide) ?_
  refine x_icmp_ne 72 d_PP_print_57 (by decide) (fun _ => ?_) (fun z => absurd z (g_nm2 (by omega)))
  refine x_aload_n d_PP_print_72 rfl rfl ?_
  refine x_get d_PP_print_73 f_PP_78 (Nat.le_of_ble_eq_true rfl) (Nat.le_of_ble_eq_true rfl) (by first | rfl | assumption) (by rfl) ?_
  refine x_iload d_PP_print_76 rfl ?_
  refine x_iald d_PP_print_78 (Nat.le_of_ble_eq_true rfl) (Nat.le_of_ble_eq_true rfl) (by first | rfl | assumption) (vp_in_nI (show r < 9000 by omega) (by decide)) ?_
  refine x_topi 2 (by rw [nI_clamp (by omega)]; exact b0) ?_
  refine x_if_ne 116 d_PP_print_79 (by decide) (fun _ => ?_) (fun z => absurd z (by decide))
  refine x_aload_n d_PP_print_116 rfl rfl ?_
  refine x_get d_PP_print_117 f_PP_19 (Nat.le_of_ble_eq_true rfl) (Nat.le_of_ble_eq_true rfl) (by first | rfl | assumption) (by rfl) ?_
  refine x_iload d_PP_print_120 rfl ?_
  refine x_iald d_PP_print_122 (Nat.le_of_ble_eq_true rfl) (Nat.le_of_ble_eq_true rfl) (by first | rfl | assumption) (vp_in_nI (show tp < 9000 by omega) (by decide)) ?_
  refine x_topi (nI mm) (by rw [nI_clamp (by omega)]; exact hX) ?_
  refine x_istore d_PP_print_123 (Nat.le_of_ble_eq_true rfl) ?_
  refine x_aload_n d_PP_print_125 rfl rfl ?_
  refine x_get d_PP_print_126 f_PP_78 (Nat.le_of_ble_eq_true rfl) (Nat.le_of_ble_eq_true rfl) (by first | rfl | assumption) (by rfl) ?_
  refine x_iload d_PP_print_129 rfl ?_
  refine x_iald d_PP_print_131 (Nat.le_of_ble_eq_true rfl) (Nat.le_of_ble_eq_true rfl) (by first | rfl | assumption) (vp_in_nI (show r < 9000 by omega) (by decide)) ?_
  refine x_topi 2 (by rw [nI_clamp (by omega)]; exact b0) ?_
  refine x_if_ne 152 d_PP_print_132 (by decide) (fun _ => ?_) (fun z => absurd z (by decide))
  refine x_aload_n d_PP_print_152 rfl rfl ?_
  refine x_get d_PP_print_153 f_PP_78 (Nat.le_of_ble_eq_true rfl) (Nat.le_of_ble_eq_true rfl) (by first | rfl | assumption) (by rfl) ?_
  refine x_iload d_PP_print_156 rfl ?_
  refine x_iald d_PP_print_158 (Nat.le_of_ble_eq_true rfl) (Nat.le_of_ble_eq_true rfl) (by first | rfl | assumption) (vp_in_nI (show r < 9000 by omega) (by decide)) ?_
  refine x_topi 2 (by rw [nI_clamp (by omega)]; exact b0) ?_
  refine x_iconst 1 d_PP_print_159 (by decide) ?_
  refine x_icmp_ne 180 d_PP_print_160 (by decide) (fun _ => ?_) (fun z => absurd z (by decide))
  refine x_aload_n d_PP_print_180 rfl rfl ?_
  refine x_get d_PP_print_181 f_PP_92 (Nat.le_of_ble_eq_true rfl) (Nat.le_of_ble_eq_true rfl) (by first | rfl | assumption) (by rfl) ?_
  refine x_iload d_PP_print_184 rfl ?_
  refine x_iald d_PP_print_186 (Nat.le_of_ble_eq_true rfl) (Nat.le_of_ble_eq_true rfl) (by first | rfl | assumption) (vp_in_nI (show r < 9000 by omega) (by decide)) ?_
  refine x_topi (nI mm) (by rw [nI_clamp (by omega)]; exact b3) ?_
  refine x_iconst 2 d_PP_print_187 (by decide) ?_
  refine x_icmp_ne 468 d_PP_print_188 (by decide) (fun c_188 => ?_) (fun c_188 => ?_)
  · exact h468
  · refine x_aload_n d_PP_print_191 rfl rfl ?_
    refine x_aload_n d_PP_print_192 rfl rfl ?_
    refine x_get d_PP_print_193 f_PP_83 (Nat.le_of_ble_eq_true rfl) (Nat.le_of_ble_eq_true rfl) (by first | rfl | assumption) (by rfl) ?_
    refine x_iload d_PP_print_196 rfl ?_
    refine x_iald d_PP_print_198 (Nat.le_of_ble_eq_true rfl) (Nat.le_of_ble_eq_true rfl) (by first | rfl | assumption) (vp_in_nI (show r < 9000 by omega) (by decide)) ?_
    refine x_topi (nI k) (by rw [nI_clamp (by omega)]; exact b1) ?_
    refine x_ldcS (i := 4) d_PP_print_199 33 rfl ?_
    refine x_callV2Y d_PP_print_201 k_PP_55 (Nat.le_of_ble_eq_true rfl) (Nat.le_of_ble_eq_true rfl) h31c (by rfl) (q_spells (s := 4) hN hk hk9 (by decide)) (Nat.le_of_ble_eq_true rfl) (Nat.le_of_ble_eq_true rfl) (Nat.le_of_ble_eq_true rfl) (Nat.le_of_ble_eq_true rfl) (Nat.le_of_ble_eq_true rfl) rfl ?_
    refine x_if_eq 468 d_PP_print_204 (by decide) (fun _ => ?_) (fun z => absurd (by rw [decide_eq_false (fun (y : w = x_bytS.getD 4 []) => a4 ⟨(g_nIne (b := 2) (by omega) (by decide)).mp c_188, y⟩)]; rfl) z)
    exact h468
set_option maxRecDepth 20000 in
theorem w_PP_M7 {E : xR} {h : xH} {P0 : Nat → Int32} {Q : xK} {T : List (List Int32)} {Na B : Nat → Nat → Int32} {Nm : Nat → Int64} {z q : Int32} (hN : g_HN h T Na) (hT : g_HT h B Nm z q) : g_M7 T B (g_PLp E h P0 Q) := by
  intro tp S n Wk Nx r mm i f x w htp hS hr hf9 hx9 hW hX hi0 hi hna hf hx K Sn hSn
  have h31c := hN.1.1
  obtain ⟨h24c, hb0, hb1, hb2, hb3, hb4, hb5⟩ := hT
  have hT2 : g_HT h B Nm z q := ⟨h24c, hb0, hb1, hb2, hb3, hb4, hb5⟩
  obtain ⟨b0, b3, ⟨k, hk9, b1, hk⟩, a4, a5, a6⟩ := id hna
  have h468 : x_W E M_PP_print (x_room 9 0 0) Q 52 (g_yw h S n Wk Nx Sn P0) 468 [(0, .ref 44), (1, .ref 24), (2, .ref 31), (4, .null), (5, .int (nI tp)), (6, .int (nI r)), (7, .int (nI i))] [] 0 0 := by
    refine x_aload_n d_PP_print_468 rfl rfl ?_
    refine x_aload_n d_PP_print_469 rfl rfl ?_
    refine x_aload_n d_PP_print_470 rfl rfl ?_
    refine x_iload d_PP_print_471 rfl ?_
    refine x_iload d_PP_print_473 rfl ?_
    refine x_iload d_PP_print_475 rfl ?_
    refine x_callV5Y d_PP_print_477 k_PP_98 (Nat.le_of_ble_eq_true rfl) (Nat.le_of_ble_eq_true rfl) (by first | rfl | assumption) (by rfl) (w_PP_comp2 (tp := tp) hN hT2 hna hr htp hi0 hi hf hf9 hx) (Nat.le_of_ble_eq_true rfl) (Nat.le_of_ble_eq_true rfl) (Nat.le_of_ble_eq_true rfl) (Nat.le_of_ble_eq_true rfl) (Nat.le_of_ble_eq_true rfl) rfl ?_
    refine x_istore d_PP_print_480 (Nat.le_of_ble_eq_true rfl) ?_
    refine x_goto 32 d_PP_print_482 (by decide) ?_
    refine x_lv [(0, .ref 44), (1, .ref 24), (2, .ref 31), (4, .null), (5, .int (nI (tp + 1 + 1) - 1)), (6, .int (nI r)), (7, .int (nI i))] (by rw [g_nsub1]; rfl) ?_
    refine x_wk [(0, .ref 44), (1, .ref 24), (2, .ref 31), (4, .null), (5, .int (nI (tp + 1 + 1) - 1))] (by simp) ?_
    exact K Sn hSn
  refine x_lv [(0, .ref 44), (1, .ref 24), (2, .ref 31), (4, .null), (5, .int (nI tp))] (by rw [g_nsub1]) ?_
  refine x_iload d_PP_print_32 rfl ?_
  refine x_if_lt 485 d_PP_print_34 (by decide) (fun z => absurd z (nI_pos (show tp < 2 ^ 31 by omega))) (fun _ => ?_)
  refine x_aload_n d_PP_print_37 rfl rfl ?_
  refine x_get d_PP_print_38 f_PP_29 (Nat.le_of_ble_eq_true rfl) (Nat.le_of_ble_eq_true rfl) (by first | rfl | assumption) (by rfl) ?_
  refine x_if_ne 485 d_PP_print_41 (by decide) (fun z => absurd (g_ov0 hS) z) (fun _ => ?_)
  refine x_aload_n d_PP_print_44 rfl rfl ?_
  refine x_get d_PP_print_45 f_PP_15 (Nat.le_of_ble_eq_true rfl) (Nat.le_of_ble_eq_true rfl) (by first | rfl | assumption) (by rfl) ?_
  refine x_iload d_PP_print_48 rfl ?_
  refine x_iald d_PP_print_50 (Nat.le_of_ble_eq_true rfl) (Nat.le_of_ble_eq_true rfl) (by first | rfl | assumption) (vp_in_nI (show tp < 9000 by omega) (by decide)) ?_
  refine x_topi (nI r) (by rw [nI_clamp (by omega)]; exact hW) ?_
  refine x_istore d_PP_print_51 (Nat.le_of_ble_eq_true rfl) ?_
  refine x_iload d_PP_print_53 rfl ?_
  refine x_bipush (-2) d_PP_print_55 (by decide) ?_
  refine x_icmp_ne 72 d_PP_print_57 (by decide) (fun _ => ?_) (fun z => absurd z (g_nm2 (by omega)))
  refine x_aload_n d_PP_print_72 rfl rfl ?_
  refine x_get d_PP_print_73 f_PP_78 (Nat.le_of_ble_eq_true rfl) (Nat.le_of_ble_eq_true rfl) (by first | rfl | assumption) (by rfl) ?_
  refine x_iload d_PP_print_76 rfl ?_
  refine x_iald d_PP_print_78 (Nat.le_of_ble_eq_true rfl) (Nat.le_of_ble_eq_true rfl) (by first | rfl | assumption) (vp_in_nI (show r < 9000 by omega) (by decide)) ?_
  refine x_topi 2 (by rw [nI_clamp (by omega)]; exact b0) ?_
  refine x_if_ne 116 d_PP_print_79 (by decide) (fun _ => ?_) (fun z => absurd z (by decide))
  refine x_aload_n d_PP_print_116 rfl rfl ?_
  refine x_get d_PP_print_117 f_PP_19 (Nat.le_of_ble_eq_true rfl) (Nat.le_of_ble_eq_true rfl) (by first | rfl | assumption) (by rfl) ?_
  refine x_iload d_PP_print_120 rfl ?_
  refine x_iald d_PP_print_122 (Nat.le_of_ble_eq_true rfl) (Nat.le_of_ble_eq_true rfl) (by first | rfl | assumption) (vp_in_nI (show tp < 9000 by omega) (by decide)) ?_
  refine x_topi (nI i) (by rw [nI_clamp (by omega)]; exact hX) ?_
  refine x_istore d_PP_print_123 (Nat.le_of_ble_eq_true rfl) ?_
  refine x_aload_n d_PP_print_125 rfl rfl ?_
  refine x_get d_PP_print_126 f_PP_78 (Nat.le_of_ble_eq_true rfl) (Nat.le_of_ble_eq_true rfl) (by first | rfl | assumption) (by rfl) ?_
  refine x_iload d_PP_print_129 rfl ?_
  refine x_iald d_PP_print_131 (Nat.le_of_ble_eq_true rfl) (Nat.le_of_ble_eq_true rfl) (by first | rfl | assumption) (vp_in_nI (show r < 9000 by omega) (by decide)) ?_
  refine x_topi 2 (by rw [nI_clamp (by omega)]; exact b0) ?_
  refine x_if_ne 152 d_PP_print_132 (by decide) (fun _ => ?_) (fun z => absurd z (by decide))
  refine x_aload_n d_PP_print_152 rfl rfl ?_
  refine x_get d_PP_print_153 f_PP_78 (Nat.le_of_ble_eq_true rfl) (Nat.le_of_ble_eq_true rfl) (by first | rfl | assumption) (by rfl) ?_
  refine x_iload d_PP_print_156 rfl ?_
  refine x_iald d_PP_print_158 (Nat.le_of_ble_eq_true rfl) (Nat.le_of_ble_eq_true rfl) (by first | rfl | assumption) (vp_in_nI (show r < 9000 by omega) (by decide)) ?_
  refine x_topi 2 (by rw [nI_clamp (by omega)]; exact b0) ?_
  refine x_iconst 1 d_PP_print_159 (by decide) ?_
  refine x_icmp_ne 180 d_PP_print_160 (by decide) (fun _ => ?_) (fun z => absurd z (by decide))
  refine x_aload_n d_PP_print_180 rfl rfl ?_
  refine x_get d_PP_print_181 f_PP_92 (Nat.le_of_ble_eq_true rfl) (Nat.le_of_ble_eq_true rfl) (by first | rfl | assumption) (by rfl) ?_
  refine x_iload d_PP_print_184 rfl ?_
  refine x_iald d_PP_print_186 (Nat.le_of_ble_eq_true rfl) (Nat.le_of_ble_eq_true rfl) (by first | rfl | assumption) (vp_in_nI (show r < 9000 by omega) (by decide)) ?_
  refine x_topi (nI mm) (by rw [nI_clamp (by omega)]; exact b3) ?_
  refine x_iconst 2 d_PP_print_187 (by decide) ?_
  refine x_icmp_ne 468 d_PP_print_188 (by decide) (fun c_188 => ?_) (fun c_188 => ?_)
  · exact h468
  · refine x_aload_n d_PP_print_191 rfl rfl ?_
    refine x_aload_n d_PP_print_192 rfl rfl ?_
    refine x_get d_PP_print_193 f_PP_83 (Nat.le_of_ble_eq_true rfl) (Nat.le_of_ble_eq_true rfl) (by first | rfl | assumption) (by rfl) ?_
    refine x_iload d_PP_print_196 rfl ?_
    refine x_iald d_PP_print_198 (Nat.le_of_ble_eq_true rfl) (Nat.le_of_ble_eq_true rfl) (by first | rfl | assumption) (vp_in_nI (show r < 9000 by omega) (by decide)) ?_
    refine x_topi (nI k) (by rw [nI_clamp (by omega)]; exact b1) ?_
    refine x_ldcS (i := 4) d_PP_print_199 33 rfl ?_
    refine x_callV2Y d_PP_print_201 k_PP_55 (Nat.le_of_ble_eq_true rfl) (Nat.le_of_ble_eq_true rfl) h31c (by rfl) (q_spells (s := 4) hN hk hk9 (by decide)) (Nat.le_of_ble_eq_true rfl) (Nat.le_of_ble_eq_true rfl) (Nat.le_of_ble_eq_true rfl) (Nat.le_of_ble_eq_true rfl) (Nat.le_of_ble_eq_true rfl) rfl ?_
    refine x_if_eq 468 d_PP_print_204 (by decide) (fun _ => ?_) (fun z => absurd (by rw [decide_eq_false (fun (y : w = x_bytS.getD 4 []) => a4 ⟨(g_nIne (b := 2) (by omega) (by decide)).mp c_188, y⟩)]; rfl) z)
    exact h468
set_option maxRecDepth 20000 in
theorem w_PP_M9 {E : xR} {h : xH} {P0 : Nat → Int32} {Q : xK} {T : List (List Int32)} {Na B : Nat → Nat → Int32} {Nm : Nat → Int64} {z q : Int32} (hN : g_HN h T Na) (hT : g_HT h B Nm z q) : g_M9 T B (g_PLp E h P0 Q) := by
  intro tp S n Wk Nx r f x htp hS hr hf9 hx9 hW hX hpa hf hx hpx K Sn hSn
  have h31c := hN.1.1
  obtain ⟨h24c, hb0, hb1, hb2, hb3, hb4, hb5⟩ := hT
  have hT2 : g_HT h B Nm z q := ⟨h24c, hb0, hb1, hb2, hb3, hb4, hb5⟩
  obtain ⟨b0, b3, k, hk9, b1, hk⟩ := hpa
  obtain ⟨x0, x3, k2, hk29, x1, hk2⟩ := hpx
  refine x_lv [(0, .ref 44), (1, .ref 24), (2, .ref 31), (4, .null), (5, .int (nI tp))] (by rw [g_nsub1]) ?_
  have h264 : ∀ i7, x_W E M_PP_print (x_room 9 0 0) Q 52 (g_yw h S n Wk Nx Sn P0) 264 [(0, .ref 44), (1, .ref 24), (2, .ref 31), (4, .null), (5, .int (nI tp)), (6, .int (nI r)), (7, .int i7)] [] 0 0 := by
    intro i7
    refine x_aload_n d_PP_print_264 rfl rfl ?_
    refine x_iload d_PP_print_265 rfl ?_
    refine x_iconst 1 d_PP_print_267 (by decide) ?_
    refine x_callV2Y d_PP_print_268 k_PP_95 (Nat.le_of_ble_eq_true rfl) (Nat.le_of_ble_eq_true rfl) h24c (by rfl) (q_part (i := 1) (f := f) hT2 (show r < 9000 by omega) hf (show f + 1 < 9000 by omega)) (Nat.le_of_ble_eq_true rfl) (Nat.le_of_ble_eq_true rfl) (Nat.le_of_ble_eq_true rfl) (Nat.le_of_ble_eq_true rfl) (Nat.le_of_ble_eq_true rfl) rfl ?_
    refine x_topi (nI x) hx ?_
    refine x_istore d_PP_print_271 (Nat.le_of_ble_eq_true rfl) ?_
    refine x_aload_n d_PP_print_273 rfl rfl ?_
    refine x_get d_PP_print_274 f_PP_78 (Nat.le_of_ble_eq_true rfl) (Nat.le_of_ble_eq_true rfl) (by first | rfl | assumption) (by rfl) ?_
    refine x_iload d_PP_print_277 rfl ?_
    refine x_iald d_PP_print_279 (Nat.le_of_ble_eq_true rfl) (Nat.le_of_ble_eq_true rfl) (by first | rfl | assumption) (vp_in_nI (show x < 9000 by omega) (by decide)) ?_
    refine x_topi 2 (by rw [nI_clamp (by omega)]; exact x0) ?_
    refine x_if_ne 317 d_PP_print_280 (by decide) (fun _ => ?_) (fun z => absurd z (by decide))
    refine x_aload_n d_PP_print_317 rfl rfl ?_
    refine x_get d_PP_print_318 f_PP_78 (Nat.le_of_ble_eq_true rfl) (Nat.le_of_ble_eq_true rfl) (by first | rfl | assumption) (by rfl) ?_
    refine x_iload d_PP_print_321 rfl ?_
    refine x_iald d_PP_print_323 (Nat.le_of_ble_eq_true rfl) (Nat.le_of_ble_eq_true rfl) (by first | rfl | assumption) (vp_in_nI (show x < 9000 by omega) (by decide)) ?_
    refine x_topi 2 (by rw [nI_clamp (by omega)]; exact x0) ?_
    refine x_iconst 2 d_PP_print_324 (by decide) ?_
    refine x_icmp_ne 381 d_PP_print_325 (by decide) (fun z => absurd rfl z) (fun _ => ?_)
    refine x_aload_n d_PP_print_328 rfl rfl ?_
    refine x_get d_PP_print_329 f_PP_92 (Nat.le_of_ble_eq_true rfl) (Nat.le_of_ble_eq_true rfl) (by first | rfl | assumption) (by rfl) ?_
    refine x_iload d_PP_print_332 rfl ?_
    refine x_iald d_PP_print_334 (Nat.le_of_ble_eq_true rfl) (Nat.le_of_ble_eq_true rfl) (by first | rfl | assumption) (vp_in_nI (show x < 9000 by omega) (by decide)) ?_
    refine x_topi 2 (by rw [nI_clamp (by omega)]; exact x3) ?_
    refine x_iconst 2 d_PP_print_335 (by decide) ?_
    refine x_icmp_ne 381 d_PP_print_336 (by decide) (fun z => absurd rfl z) (fun _ => ?_)
    refine x_aload_n d_PP_print_339 rfl rfl ?_
    refine x_aload_n d_PP_print_340 rfl rfl ?_
    refine x_get d_PP_print_341 f_PP_83 (Nat.le_of_ble_eq_true rfl) (Nat.le_of_ble_eq_true rfl) (by first | rfl | assumption) (by rfl) ?_
    refine x_iload d_PP_print_344 rfl ?_
    refine x_iald d_PP_print_346 (Nat.le_of_ble_eq_true rfl) (Nat.le_of_ble_eq_true rfl) (by first | rfl | assumption) (vp_in_nI (show x < 9000 by omega) (by decide)) ?_
    refine x_topi (nI k2) (by rw [nI_clamp (by omega)]; exact x1) ?_
    refine x_ldcS (i := 4) d_PP_print_347 33 rfl ?_
    refine x_callV2Y d_PP_print_349 k_PP_55 (Nat.le_of_ble_eq_true rfl) (Nat.le_of_ble_eq_true rfl) h31c (by rfl) (q_spells (s := 4) hN hk2 hk29 (by decide)) (Nat.le_of_ble_eq_true rfl) (Nat.le_of_ble_eq_true rfl) (Nat.le_of_ble_eq_true rfl) (Nat.le_of_ble_eq_true rfl) (Nat.le_of_ble_eq_true rfl) rfl ?_
    refine x_if_eq 381 d_PP_print_352 (by decide) (fun z => absurd z (show ¬ g_b2 (decide ([46] = x_bytS.getD 4 [])) = 0 by decide)) (fun _ => ?_)
    refine x_aload_n d_PP_print_355 rfl rfl ?_
    refine x_bipush 44 d_PP_print_356 (by decide) ?_
    refine x_callV1Y d_PP_print_358 k_PP_33 (Nat.le_of_ble_eq_true rfl) (Nat.le_of_ble_eq_true rfl) (by first | rfl | assumption) (by rfl) w_PP_put (Nat.le_of_ble_eq_true rfl) (Nat.le_of_ble_eq_true rfl) (Nat.le_of_ble_eq_true rfl) (Nat.le_of_ble_eq_true rfl) (Nat.le_of_ble_eq_true rfl) rfl ?_
    refine x_aload_n d_PP_print_361 rfl rfl ?_
    refine x_get d_PP_print_362 f_PP_15 (Nat.le_of_ble_eq_true rfl) (Nat.le_of_ble_eq_true rfl) (by first | rfl | assumption) (by rfl) ?_
    refine x_iload d_PP_print_365 rfl ?_
    refine x_iload d_PP_print_367 rfl ?_
    refine x_iast d_PP_print_369 (Nat.le_of_ble_eq_true rfl) (Nat.le_of_ble_eq_true rfl) (by first | rfl | assumption) (vp_in_nI (show tp < 9000 by omega) (by decide)) ?_
    refine x_aload_n d_PP_print_370 rfl rfl ?_
    refine x_get d_PP_print_371 f_PP_19 (Nat.le_of_ble_eq_true rfl) (Nat.le_of_ble_eq_true rfl) (by first | rfl | assumption) (by rfl) ?_
    refine x_iload d_PP_print_374 rfl ?_
    refine x_iconst 2 d_PP_print_376 (by decide) ?_
    refine x_iast d_PP_print_377 (Nat.le_of_ble_eq_true rfl) (Nat.le_of_ble_eq_true rfl) (by first | rfl | assumption) (vp_in_nI (show tp < 9000 by omega) (by decide)) ?_
    refine x_goto 465 d_PP_print_378 (by decide) ?_
    refine x_goto 482 d_PP_print_465 (by decide) ?_
    refine x_goto 32 d_PP_print_482 (by decide) ?_
    refine x_lv [(0, .ref 44), (1, .ref 24), (2, .ref 31), (4, .null), (5, .int (nI (tp + 1) - 1)), (6, .int (nI r)), (7, .int i7), (8, .int (nI x))] (by rw [g_nsub1]; rfl) ?_
    refine x_wk [(0, .ref 44), (1, .ref 24), (2, .ref 31), (4, .null), (5, .int (nI (tp + 1) - 1))] (by simp) ?_
    refine x_same (h' := (g_yw h (S ++ [44]) n (upd Wk tp (nI x)) (upd Nx tp 2) Sn P0)) (x_pt rfl rfl rfl rfl rfl rfl rfl rfl rfl rfl rfl rfl rfl rfl rfl rfl rfl rfl rfl rfl rfl rfl rfl rfl rfl rfl rfl rfl rfl rfl rfl rfl rfl rfl rfl rfl rfl rfl rfl rfl rfl rfl rfl rfl rfl rfl (show (Sum.inl (0, 9000, Sum.inl (upd Wk (nI tp).toNatClampNeg (nI x))) : xE) = Sum.inl (0, 9000, Sum.inl (upd Wk tp (nI x))) by rw [nI_clamp (by omega)]) (show (Sum.inl (0, 9000, Sum.inl (upd Nx (nI tp).toNatClampNeg 2)) : xE) = Sum.inl (0, 9000, Sum.inl (upd Nx tp 2)) by rw [nI_clamp (by omega)]) rfl rfl rfl rfl) ?_
    exact K Sn hSn
  rcases hX with hX | hX
  · refine x_iload d_PP_print_32 rfl ?_
    refine x_if_lt 485 d_PP_print_34 (by decide) (fun z => absurd z (nI_pos (show tp < 2 ^ 31 by omega))) (fun _ => ?_)
    refine x_aload_n d_PP_print_37 rfl rfl ?_
    refine x_get d_PP_print_38 f_PP_29 (Nat.le_of_ble_eq_true rfl) (Nat.le_of_ble_eq_true rfl) (by first | rfl | assumption) (by rfl) ?_
    refine x_if_ne 485 d_PP_print_41 (by decide) (fun z => absurd (g_ov0 hS) z) (fun _ => ?_)
    refine x_aload_n d_PP_print_44 rfl rfl ?_
    refine x_get d_PP_print_45 f_PP_15 (Nat.le_of_ble_eq_true rfl) (Nat.le_of_ble_eq_true rfl) (by first | rfl | assumption) (by rfl) ?_
    refine x_iload d_PP_print_48 rfl ?_
    refine x_iald d_PP_print_50 (Nat.le_of_ble_eq_true rfl) (Nat.le_of_ble_eq_true rfl) (by first | rfl | assumption) (vp_in_nI (show tp < 9000 by omega) (by decide)) ?_
    refine x_topi (nI r) (by rw [nI_clamp (by omega)]; exact hW) ?_
    refine x_istore d_PP_print_51 (Nat.le_of_ble_eq_true rfl) ?_
    refine x_iload d_PP_print_53 rfl ?_
    refine x_bipush (-2) d_PP_print_55 (by decide) ?_
    refine x_icmp_ne 72 d_PP_print_57 (by decide) (fun _ => ?_) (fun z => absurd z (g_nm2 (by omega)))
    refine x_aload_n d_PP_print_72 rfl rfl ?_
    refine x_get d_PP_print_73 f_PP_78 (Nat.le_of_ble_eq_true rfl) (Nat.le_of_ble_eq_true rfl) (by first | rfl | assumption) (by rfl) ?_
    refine x_iload d_PP_print_76 rfl ?_
    refine x_iald d_PP_print_78 (Nat.le_of_ble_eq_true rfl) (Nat.le_of_ble_eq_true rfl) (by first | rfl | assumption) (vp_in_nI (show r < 9000 by omega) (by decide)) ?_
    refine x_topi 2 (by rw [nI_clamp (by omega)]; exact b0) ?_
    refine x_if_ne 116 d_PP_print_79 (by decide) (fun _ => ?_) (fun z => absurd z (by decide))
    refine x_aload_n d_PP_print_116 rfl rfl ?_
    refine x_get d_PP_print_117 f_PP_19 (Nat.le_of_ble_eq_true rfl) (Nat.le_of_ble_eq_true rfl) (by first | rfl | assumption) (by rfl) ?_
    refine x_iload d_PP_print_120 rfl ?_
    refine x_iald d_PP_print_122 (Nat.le_of_ble_eq_true rfl) (Nat.le_of_ble_eq_true rfl) (by first | rfl | assumption) (vp_in_nI (show tp < 9000 by omega) (by decide)) ?_
    refine x_topi 1 (by rw [nI_clamp (by omega)]; exact hX) ?_
    refine x_istore d_PP_print_123 (Nat.le_of_ble_eq_true rfl) ?_
    refine x_aload_n d_PP_print_125 rfl rfl ?_
    refine x_get d_PP_print_126 f_PP_78 (Nat.le_of_ble_eq_true rfl) (Nat.le_of_ble_eq_true rfl) (by first | rfl | assumption) (by rfl) ?_
    refine x_iload d_PP_print_129 rfl ?_
    refine x_iald d_PP_print_131 (Nat.le_of_ble_eq_true rfl) (Nat.le_of_ble_eq_true rfl) (by first | rfl | assumption) (vp_in_nI (show r < 9000 by omega) (by decide)) ?_
    refine x_topi 2 (by rw [nI_clamp (by omega)]; exact b0) ?_
    refine x_if_ne 152 d_PP_print_132 (by decide) (fun _ => ?_) (fun z => absurd z (by decide))
    refine x_aload_n d_PP_print_152 rfl rfl ?_
    refine x_get d_PP_print_153 f_PP_78 (Nat.le_of_ble_eq_true rfl) (Nat.le_of_ble_eq_true rfl) (by first | rfl | assumption) (by rfl) ?_
    refine x_iload d_PP_print_156 rfl ?_
    refine x_iald d_PP_print_158 (Nat.le_of_ble_eq_true rfl) (Nat.le_of_ble_eq_true rfl) (by first | rfl | assumption) (vp_in_nI (show r < 9000 by omega) (by decide)) ?_
    refine x_topi 2 (by rw [nI_clamp (by omega)]; exact b0) ?_
    refine x_iconst 1 d_PP_print_159 (by decide) ?_
    refine x_icmp_ne 180 d_PP_print_160 (by decide) (fun _ => ?_) (fun z => absurd z (by decide))
    refine x_aload_n d_PP_print_180 rfl rfl ?_
    refine x_get d_PP_print_181 f_PP_92 (Nat.le_of_ble_eq_true rfl) (Nat.le_of_ble_eq_true rfl) (by first | rfl | assumption) (by rfl) ?_
    refine x_iload d_PP_print_184 rfl ?_
    refine x_iald d_PP_print_186 (Nat.le_of_ble_eq_true rfl) (Nat.le_of_ble_eq_true rfl) (by first | rfl | assumption) (vp_in_nI (show r < 9000 by omega) (by decide)) ?_
    refine x_topi 2 (by rw [nI_clamp (by omega)]; exact b3) ?_
    refine x_iconst 2 d_PP_print_187 (by decide) ?_
    refine x_icmp_ne 468 d_PP_print_188 (by decide) (fun z => absurd rfl z) (fun _ => ?_)
    refine x_aload_n d_PP_print_191 rfl rfl ?_
    refine x_aload_n d_PP_print_192 rfl rfl ?_
    refine x_get d_PP_print_193 f_PP_83 (Nat.le_of_ble_eq_true rfl) (Nat.le_of_ble_eq_true rfl) (by first | rfl | assumption) (by rfl) ?_
    refine x_iload d_PP_print_196 rfl ?_
    refine x_iald d_PP_print_198 (Nat.le_of_ble_eq_true rfl) (Nat.le_of_ble_eq_true rfl) (by first | rfl | assumption) (vp_in_nI (show r < 9000 by omega) (by decide)) ?_
    refine x_topi (nI k) (by rw [nI_clamp (by omega)]; exact b1) ?_
    refine x_ldcS (i := 4) d_PP_print_199 33 rfl ?_
    refine x_callV2Y d_PP_print_201 k_PP_55 (Nat.le_of_ble_eq_true rfl) (Nat.le_of_ble_eq_true rfl) h31c (by rfl) (q_spells (s := 4) hN hk hk9 (by decide)) (Nat.le_of_ble_eq_true rfl) (Nat.le_of_ble_eq_true rfl) (Nat.le_of_ble_eq_true rfl) (Nat.le_of_ble_eq_true rfl) (Nat.le_of_ble_eq_true rfl) rfl ?_
    refine x_if_eq 468 d_PP_print_204 (by decide) (fun z => absurd z (show ¬ g_b2 (decide ([46] = x_bytS.getD 4 [])) = 0 by decide)) (fun _ => ?_)
    refine x_iload d_PP_print_207 rfl ?_
    refine x_if_ne 218 d_PP_print_209 (by decide) (fun _ => ?_) (fun z => absurd z (by decide))
    refine x_iload d_PP_print_218 rfl ?_
    refine x_iconst 2 d_PP_print_220 (by decide) ?_
    refine x_irem d_PP_print_221 (by decide) ?_
    refine x_if_ne 264 d_PP_print_222 (by decide) (fun _ => ?_) (fun z => absurd z (by decide))
    exact h264 1
  · refine x_iload d_PP_print_32 rfl ?_
    refine x_if_lt 485 d_PP_print_34 (by decide) (fun z => absurd z (nI_pos (show tp < 2 ^ 31 by omega))) (fun _ => ?_)
    refine x_aload_n d_PP_print_37 rfl rfl ?_
    refine x_get d_PP_print_38 f_PP_29 (Nat.le_of_ble_eq_true rfl) (Nat.le_of_ble_eq_true rfl) (by first | rfl | assumption) (by rfl) ?_
    refine x_if_ne 485 d_PP_print_41 (by decide) (fun z => absurd (g_ov0 hS) z) (fun _ => ?_)
    refine x_aload_n d_PP_print_44 rfl rfl ?_
    refine x_get d_PP_print_45 f_PP_15 (Nat.le_of_ble_eq_true rfl) (Nat.le_of_ble_eq_true rfl) (by first | rfl | assumption) (by rfl) ?_
    refine x_iload d_PP_print_48 rfl ?_
    refine x_iald d_PP_print_50 (Nat.le_of_ble_eq_true rfl) (Nat.le_of_ble_eq_true rfl) (by first | rfl | assumption) (vp_in_nI (show tp < 9000 by omega) (by decide)) ?_
    refine x_topi (nI r) (by rw [nI_clamp (by omega)]; exact hW) ?_
    refine x_istore d_PP_print_51 (Nat.le_of_ble_eq_true rfl) ?_
    refine x_iload d_PP_print_53 rfl ?_
    refine x_bipush (-2) d_PP_print_55 (by decide) ?_
    refine x_icmp_ne 72 d_PP_print_57 (by decide) (fun _ => ?_) (fun z => absurd z (g_nm2 (by omega)))
    refine x_aload_n d_PP_print_72 rfl rfl ?_
    refine x_get d_PP_print_73 f_PP_78 (Nat.le_of_ble_eq_true rfl) (Nat.le_of_ble_eq_true rfl) (by first | rfl | assumption) (by rfl) ?_
    refine x_iload d_PP_print_76 rfl ?_
    refine x_iald d_PP_print_78 (Nat.le_of_ble_eq_true rfl) (Nat.le_of_ble_eq_true rfl) (by first | rfl | assumption) (vp_in_nI (show r < 9000 by omega) (by decide)) ?_
    refine x_topi 2 (by rw [nI_clamp (by omega)]; exact b0) ?_
    refine x_if_ne 116 d_PP_print_79 (by decide) (fun _ => ?_) (fun z => absurd z (by decide))
    refine x_aload_n d_PP_print_116 rfl rfl ?_
    refine x_get d_PP_print_117 f_PP_19 (Nat.le_of_ble_eq_true rfl) (Nat.le_of_ble_eq_true rfl) (by first | rfl | assumption) (by rfl) ?_
    refine x_iload d_PP_print_120 rfl ?_
    refine x_iald d_PP_print_122 (Nat.le_of_ble_eq_true rfl) (Nat.le_of_ble_eq_true rfl) (by first | rfl | assumption) (vp_in_nI (show tp < 9000 by omega) (by decide)) ?_
    refine x_topi 3 (by rw [nI_clamp (by omega)]; exact hX) ?_
    refine x_istore d_PP_print_123 (Nat.le_of_ble_eq_true rfl) ?_
    refine x_aload_n d_PP_print_125 rfl rfl ?_
    refine x_get d_PP_print_126 f_PP_78 (Nat.le_of_ble_eq_true rfl) (Nat.le_of_ble_eq_true rfl) (by first | rfl | assumption) (by rfl) ?_
    refine x_iload d_PP_print_129 rfl ?_
    refine x_iald d_PP_print_131 (Nat.le_of_ble_eq_true rfl) (Nat.le_of_ble_eq_true rfl) (by first | rfl | assumption) (vp_in_nI (show r < 9000 by omega) (by decide)) ?_
    refine x_topi 2 (by rw [nI_clamp (by omega)]; exact b0) ?_
    refine x_if_ne 152 d_PP_print_132 (by decide) (fun _ => ?_) (fun z => absurd z (by decide))
    refine x_aload_n d_PP_print_152 rfl rfl ?_
    refine x_get d_PP_print_153 f_PP_78 (Nat.le_of_ble_eq_true rfl) (Nat.le_of_ble_eq_true rfl) (by first | rfl | assumption) (by rfl) ?_
    refine x_iload d_PP_print_156 rfl ?_
    refine x_iald d_PP_print_158 (Nat.le_of_ble_eq_true rfl) (Nat.le_of_ble_eq_true rfl) (by first | rfl | assumption) (vp_in_nI (show r < 9000 by omega) (by decide)) ?_
    refine x_topi 2 (by rw [nI_clamp (by omega)]; exact b0) ?_
    refine x_iconst 1 d_PP_print_159 (by decide) ?_
    refine x_icmp_ne 180 d_PP_print_160 (by decide) (fun _ => ?_) (fun z => absurd z (by decide))
    refine x_aload_n d_PP_print_180 rfl rfl ?_
    refine x_get d_PP_print_181 f_PP_92 (Nat.le_of_ble_eq_true rfl) (Nat.le_of_ble_eq_true rfl) (by first | rfl | assumption) (by rfl) ?_
    refine x_iload d_PP_print_184 rfl ?_
    refine x_iald d_PP_print_186 (Nat.le_of_ble_eq_true rfl) (Nat.le_of_ble_eq_true rfl) (by first | rfl | assumption) (vp_in_nI (show r < 9000 by omega) (by decide)) ?_
    refine x_topi 2 (by rw [nI_clamp (by omega)]; exact b3) ?_
    refine x_iconst 2 d_PP_print_187 (by decide) ?_
    refine x_icmp_ne 468 d_PP_print_188 (by decide) (fun z => absurd rfl z) (fun _ => ?_)
    refine x_aload_n d_PP_print_191 rfl rfl ?_
    refine x_aload_n d_PP_print_192 rfl rfl ?_
    refine x_get d_PP_print_193 f_PP_83 (Nat.le_of_ble_eq_true rfl) (Nat.le_of_ble_eq_true rfl) (by first | rfl | assumption) (by rfl) ?_
    refine x_iload d_PP_print_196 rfl ?_
    refine x_iald d_PP_print_198 (Nat.le_of_ble_eq_true rfl) (Nat.le_of_ble_eq_true rfl) (by first | rfl | assumption) (vp_in_nI (show r < 9000 by omega) (by decide)) ?_
    refine x_topi (nI k) (by rw [nI_clamp (by omega)]; exact b1) ?_
    refine x_ldcS (i := 4) d_PP_print_199 33 rfl ?_
    refine x_callV2Y d_PP_print_201 k_PP_55 (Nat.le_of_ble_eq_true rfl) (Nat.le_of_ble_eq_true rfl) h31c (by rfl) (q_spells (s := 4) hN hk hk9 (by decide)) (Nat.le_of_ble_eq_true rfl) (Nat.le_of_ble_eq_true rfl) (Nat.le_of_ble_eq_true rfl) (Nat.le_of_ble_eq_true rfl) (Nat.le_of_ble_eq_true rfl) rfl ?_
    refine x_if_eq 468 d_PP_print_204 (by decide) (fun z => absurd z (show ¬ g_b2 (decide ([46] = x_bytS.getD 4 [])) = 0 by decide)) (fun _ => ?_)
    refine x_iload d_PP_print_207 rfl ?_
    refine x_if_ne 218 d_PP_print_209 (by decide) (fun _ => ?_) (fun z => absurd z (by decide))
    refine x_iload d_PP_print_218 rfl ?_
    refine x_iconst 2 d_PP_print_220 (by decide) ?_
    refine x_irem d_PP_print_221 (by decide) ?_
    refine x_if_ne 264 d_PP_print_222 (by decide) (fun _ => ?_) (fun z => absurd z (by decide))
    exact h264 3
set_option maxRecDepth 20000 in
theorem w_PP_M10 {E : xR} {h : xH} {P0 : Nat → Int32} {Q : xK} {T : List (List Int32)} {Na B : Nat → Nat → Int32} {Nm : Nat → Int64} {z q : Int32} (hN : g_HN h T Na) (hT : g_HT h B Nm z q) : g_M10 T B (g_PLp E h P0 Q) := by
  intro tp S n Wk Nx r f x htp hS hr hf9 hx9 hW hX hpa hf hx x0 x3 hnx K Sn hSn
  have h31c := hN.1.1
  obtain ⟨h24c, hb0, hb1, hb2, hb3, hb4, hb5⟩ := hT
  have hT2 : g_HT h B Nm z q := ⟨h24c, hb0, hb1, hb2, hb3, hb4, hb5⟩
  obtain ⟨b0, b3, k, hk9, b1, hk⟩ := hpa
  obtain ⟨k2, hk29, x1, hk2⟩ := hnx
  refine x_lv [(0, .ref 44), (1, .ref 24), (2, .ref 31), (4, .null), (5, .int (nI tp))] (by rw [g_nsub1]) ?_
  have h264 : ∀ i7, x_W E M_PP_print (x_room 9 0 0) Q 52 (g_yw h S n Wk Nx Sn P0) 264 [(0, .ref 44), (1, .ref 24), (2, .ref 31), (4, .null), (5, .int (nI tp)), (6, .int (nI r)), (7, .int i7)] [] 0 0 := by
    intro i7
    refine x_aload_n d_PP_print_264 rfl rfl ?_
    refine x_iload d_PP_print_265 rfl ?_
    refine x_iconst 1 d_PP_print_267 (by decide) ?_
    refine x_callV2Y d_PP_print_268 k_PP_95 (Nat.le_of_ble_eq_true rfl) (Nat.le_of_ble_eq_true rfl) h24c (by rfl) (q_part (i := 1) (f := f) hT2 (show r < 9000 by omega) hf (show f + 1 < 9000 by omega)) (Nat.le_of_ble_eq_true rfl) (Nat.le_of_ble_eq_true rfl) (Nat.le_of_ble_eq_true rfl) (Nat.le_of_ble_eq_true rfl) (Nat.le_of_ble_eq_true rfl) rfl ?_
    refine x_topi (nI x) hx ?_
    refine x_istore d_PP_print_271 (Nat.le_of_ble_eq_true rfl) ?_
    refine x_aload_n d_PP_print_273 rfl rfl ?_
    refine x_get d_PP_print_274 f_PP_78 (Nat.le_of_ble_eq_true rfl) (Nat.le_of_ble_eq_true rfl) (by first | rfl | assumption) (by rfl) ?_
    refine x_iload d_PP_print_277 rfl ?_
    refine x_iald d_PP_print_279 (Nat.le_of_ble_eq_true rfl) (Nat.le_of_ble_eq_true rfl) (by first | rfl | assumption) (vp_in_nI (show x < 9000 by omega) (by decide)) ?_
    refine x_topi 2 (by rw [nI_clamp (by omega)]; exact x0) ?_
    refine x_if_ne 317 d_PP_print_280 (by decide) (fun _ => ?_) (fun z => absurd z (by decide))
    refine x_aload_n d_PP_print_317 rfl rfl ?_
    refine x_get d_PP_print_318 f_PP_78 (Nat.le_of_ble_eq_true rfl) (Nat.le_of_ble_eq_true rfl) (by first | rfl | assumption) (by rfl) ?_
    refine x_iload d_PP_print_321 rfl ?_
    refine x_iald d_PP_print_323 (Nat.le_of_ble_eq_true rfl) (Nat.le_of_ble_eq_true rfl) (by first | rfl | assumption) (vp_in_nI (show x < 9000 by omega) (by decide)) ?_
    refine x_topi 2 (by rw [nI_clamp (by omega)]; exact x0) ?_
    refine x_iconst 2 d_PP_print_324 (by decide) ?_
    refine x_icmp_ne 381 d_PP_print_325 (by decide) (fun z => absurd rfl z) (fun _ => ?_)
    refine x_aload_n d_PP_print_328 rfl rfl ?_
    refine x_get d_PP_print_329 f_PP_92 (Nat.le_of_ble_eq_true rfl) (Nat.le_of_ble_eq_true rfl) (by first | rfl | assumption) (by rfl) ?_
    refine x_iload d_PP_print_332 rfl ?_
    refine x_iald d_PP_print_334 (Nat.le_of_ble_eq_true rfl) (Nat.le_of_ble_eq_true rfl) (by first | rfl | assumption) (vp_in_nI (show x < 9000 by omega) (by decide)) ?_
    refine x_topi 0 (by rw [nI_clamp (by omega)]; exact x3) ?_
    refine x_iconst 2 d_PP_print_335 (by decide) ?_
    refine x_icmp_ne 381 d_PP_print_336 (by decide) (fun _ => ?_) (fun z => absurd z (by decide))
    refine x_aload_n d_PP_print_381 rfl rfl ?_
    refine x_get d_PP_print_382 f_PP_78 (Nat.le_of_ble_eq_true rfl) (Nat.le_of_ble_eq_true rfl) (by first | rfl | assumption) (by rfl) ?_
    refine x_iload d_PP_print_385 rfl ?_
    refine x_iald d_PP_print_387 (Nat.le_of_ble_eq_true rfl) (Nat.le_of_ble_eq_true rfl) (by first | rfl | assumption) (vp_in_nI (show x < 9000 by omega) (by decide)) ?_
    refine x_topi 2 (by rw [nI_clamp (by omega)]; exact x0) ?_
    refine x_iconst 2 d_PP_print_388 (by decide) ?_
    refine x_icmp_ne 430 d_PP_print_389 (by decide) (fun z => absurd rfl z) (fun _ => ?_)
    refine x_aload_n d_PP_print_392 rfl rfl ?_
    refine x_get d_PP_print_393 f_PP_92 (Nat.le_of_ble_eq_true rfl) (Nat.le_of_ble_eq_true rfl) (by first | rfl | assumption) (by rfl) ?_
    refine x_iload d_PP_print_396 rfl ?_
    refine x_iald d_PP_print_398 (Nat.le_of_ble_eq_true rfl) (Nat.le_of_ble_eq_true rfl) (by first | rfl | assumption) (vp_in_nI (show x < 9000 by omega) (by decide)) ?_
    refine x_topi 0 (by rw [nI_clamp (by omega)]; exact x3) ?_
    refine x_if_ne 430 d_PP_print_399 (by decide) (fun z => absurd rfl z) (fun _ => ?_)
    refine x_aload_n d_PP_print_402 rfl rfl ?_
    refine x_aload_n d_PP_print_403 rfl rfl ?_
    refine x_get d_PP_print_404 f_PP_83 (Nat.le_of_ble_eq_true rfl) (Nat.le_of_ble_eq_true rfl) (by first | rfl | assumption) (by rfl) ?_
    refine x_iload d_PP_print_407 rfl ?_
    refine x_iald d_PP_print_409 (Nat.le_of_ble_eq_true rfl) (Nat.le_of_ble_eq_true rfl) (by first | rfl | assumption) (vp_in_nI (show x < 9000 by omega) (by decide)) ?_
    refine x_topi (nI k2) (by rw [nI_clamp (by omega)]; exact x1) ?_
    refine x_ldcS (i := 6) d_PP_print_410 34 rfl ?_
    refine x_callV2Y d_PP_print_412 k_PP_55 (Nat.le_of_ble_eq_true rfl) (Nat.le_of_ble_eq_true rfl) h31c (by rfl) (q_spells (s := 6) hN hk2 hk29 (by decide)) (Nat.le_of_ble_eq_true rfl) (Nat.le_of_ble_eq_true rfl) (Nat.le_of_ble_eq_true rfl) (Nat.le_of_ble_eq_true rfl) (Nat.le_of_ble_eq_true rfl) rfl ?_
    refine x_if_eq 430 d_PP_print_415 (by decide) (fun z => absurd z (show ¬ g_b2 (decide ([91, 93] = x_bytS.getD 6 [])) = 0 by decide)) (fun _ => ?_)
    refine x_aload_n d_PP_print_418 rfl rfl ?_
    refine x_bipush 93 d_PP_print_419 (by decide) ?_
    refine x_callV1Y d_PP_print_421 k_PP_33 (Nat.le_of_ble_eq_true rfl) (Nat.le_of_ble_eq_true rfl) (by first | rfl | assumption) (by rfl) w_PP_put (Nat.le_of_ble_eq_true rfl) (Nat.le_of_ble_eq_true rfl) (Nat.le_of_ble_eq_true rfl) (Nat.le_of_ble_eq_true rfl) (Nat.le_of_ble_eq_true rfl) rfl ?_
    refine x_iinc d_PP_print_424 rfl (-1) (by decide) (Nat.le_of_ble_eq_true rfl) ?_
    refine x_goto 465 d_PP_print_427 (by decide) ?_
    refine x_goto 482 d_PP_print_465 (by decide) ?_
    refine x_goto 32 d_PP_print_482 (by decide) ?_
    refine x_lv [(0, .ref 44), (1, .ref 24), (2, .ref 31), (4, .null), (5, .int (nI tp - 1)), (6, .int (nI r)), (7, .int i7), (8, .int (nI x))] (by rw [g_nsub3]; rfl) ?_
    refine x_wk [(0, .ref 44), (1, .ref 24), (2, .ref 31), (4, .null), (5, .int (nI tp - 1))] (by simp) ?_
    exact K Sn hSn
  rcases hX with hX | hX
  · refine x_iload d_PP_print_32 rfl ?_
    refine x_if_lt 485 d_PP_print_34 (by decide) (fun z => absurd z (nI_pos (show tp < 2 ^ 31 by omega))) (fun _ => ?_)
    refine x_aload_n d_PP_print_37 rfl rfl ?_
    refine x_get d_PP_print_38 f_PP_29 (Nat.le_of_ble_eq_true rfl) (Nat.le_of_ble_eq_true rfl) (by first | rfl | assumption) (by rfl) ?_
    refine x_if_ne 485 d_PP_print_41 (by decide) (fun z => absurd (g_ov0 hS) z) (fun _ => ?_)
    refine x_aload_n d_PP_print_44 rfl rfl ?_
    refine x_get d_PP_print_45 f_PP_15 (Nat.le_of_ble_eq_true rfl) (Nat.le_of_ble_eq_true rfl) (by first | rfl | assumption) (by rfl) ?_
    refine x_iload d_PP_print_48 rfl ?_
    refine x_iald d_PP_print_50 (Nat.le_of_ble_eq_true rfl) (Nat.le_of_ble_eq_true rfl) (by first | rfl | assumption) (vp_in_nI (show tp < 9000 by omega) (by decide)) ?_
    refine x_topi (nI r) (by rw [nI_clamp (by omega)]; exact hW) ?_
    refine x_istore d_PP_print_51 (Nat.le_of_ble_eq_true rfl) ?_
    refine x_iload d_PP_print_53 rfl ?_
    refine x_bipush (-2) d_PP_print_55 (by decide) ?_
    refine x_icmp_ne 72 d_PP_print_57 (by decide) (fun _ => ?_) (fun z => absurd z (g_nm2 (by omega)))
    refine x_aload_n d_PP_print_72 rfl rfl ?_
    refine x_get d_PP_print_73 f_PP_78 (Nat.le_of_ble_eq_true rfl) (Nat.le_of_ble_eq_true rfl) (by first | rfl | assumption) (by rfl) ?_
    refine x_iload d_PP_print_76 rfl ?_
    refine x_iald d_PP_print_78 (Nat.le_of_ble_eq_true rfl) (Nat.le_of_ble_eq_true rfl) (by first | rfl | assumption) (vp_in_nI (show r < 9000 by omega) (by decide)) ?_
    refine x_topi 2 (by rw [nI_clamp (by omega)]; exact b0) ?_
    refine x_if_ne 116 d_PP_print_79 (by decide) (fun _ => ?_) (fun z => absurd z (by decide))
    refine x_aload_n d_PP_print_116 rfl rfl ?_
    refine x_get d_PP_print_117 f_PP_19 (Nat.le_of_ble_eq_true rfl) (Nat.le_of_ble_eq_true rfl) (by first | rfl | assumption) (by rfl) ?_
    refine x_iload d_PP_print_120 rfl ?_
    refine x_iald d_PP_print_122 (Nat.le_of_ble_eq_true rfl) (Nat.le_of_ble_eq_true rfl) (by first | rfl | assumption) (vp_in_nI (show tp < 9000 by omega) (by decide)) ?_
    refine x_topi 1 (by rw [nI_clamp (by omega)]; exact hX) ?_
    refine x_istore d_PP_print_123 (Nat.le_of_ble_eq_true rfl) ?_
    refine x_aload_n d_PP_print_125 rfl rfl ?_
    refine x_get d_PP_print_126 f_PP_78 (Nat.le_of_ble_eq_true rfl) (Nat.le_of_ble_eq_true rfl) (by first | rfl | assumption) (by rfl) ?_
    refine x_iload d_PP_print_129 rfl ?_
    refine x_iald d_PP_print_131 (Nat.le_of_ble_eq_true rfl) (Nat.le_of_ble_eq_true rfl) (by first | rfl | assumption) (vp_in_nI (show r < 9000 by omega) (by decide)) ?_
    refine x_topi 2 (by rw [nI_clamp (by omega)]; exact b0) ?_
    refine x_if_ne 152 d_PP_print_132 (by decide) (fun _ => ?_) (fun z => absurd z (by decide))
    refine x_aload_n d_PP_print_152 rfl rfl ?_
    refine x_get d_PP_print_153 f_PP_78 (Nat.le_of_ble_eq_true rfl) (Nat.le_of_ble_eq_true rfl) (by first | rfl | assumption) (by rfl) ?_
    refine x_iload d_PP_print_156 rfl ?_
    refine x_iald d_PP_print_158 (Nat.le_of_ble_eq_true rfl) (Nat.le_of_ble_eq_true rfl) (by first | rfl | assumption) (vp_in_nI (show r < 9000 by omega) (by decide)) ?_
    refine x_topi 2 (by rw [nI_clamp (by omega)]; exact b0) ?_
    refine x_iconst 1 d_PP_print_159 (by decide) ?_
    refine x_icmp_ne 180 d_PP_print_160 (by decide) (fun _ => ?_) (fun z => absurd z (by decide))
    refine x_aload_n d_PP_print_180 rfl rfl ?_
    refine x_get d_PP_print_181 f_PP_92 (Nat.le_of_ble_eq_true rfl) (Nat.le_of_ble_eq_true rfl) (by first | rfl | assumption) (by rfl) ?_
    refine x_iload d_PP_print_184 rfl ?_
    refine x_iald d_PP_print_186 (Nat.le_of_ble_eq_true rfl) (Nat.le_of_ble_eq_true rfl) (by first | rfl | assumption) (vp_in_nI (show r < 9000 by omega) (by decide)) ?_
    refine x_topi 2 (by rw [nI_clamp (by omega)]; exact b3) ?_
    refine x_iconst 2 d_PP_print_187 (by decide) ?_
    refine x_icmp_ne 468 d_PP_print_188 (by decide) (fun z => absurd rfl z) (fun _ => ?_)
    refine x_aload_n d_PP_print_191 rfl rfl ?_
    refine x_aload_n d_PP_print_192 rfl rfl ?_
    refine x_get d_PP_print_193 f_PP_83 (Nat.le_of_ble_eq_true rfl) (Nat.le_of_ble_eq_true rfl) (by first | rfl | assumption) (by rfl) ?_
    refine x_iload d_PP_print_196 rfl ?_
    refine x_iald d_PP_print_198 (Nat.le_of_ble_eq_true rfl) (Nat.le_of_ble_eq_true rfl) (by first | rfl | assumption) (vp_in_nI (show r < 9000 by omega) (by decide)) ?_
    refine x_topi (nI k) (by rw [nI_clamp (by omega)]; exact b1) ?_
    refine x_ldcS (i := 4) d_PP_print_199 33 rfl ?_
    refine x_callV2Y d_PP_print_201 k_PP_55 (Nat.le_of_ble_eq_true rfl) (Nat.le_of_ble_eq_true rfl) h31c (by rfl) (q_spells (s := 4) hN hk hk9 (by decide)) (Nat.le_of_ble_eq_true rfl) (Nat.le_of_ble_eq_true rfl) (Nat.le_of_ble_eq_true rfl) (Nat.le_of_ble_eq_true rfl) (Nat.le_of_ble_eq_true rfl) rfl ?_
    refine x_if_eq 468 d_PP_print_204 (by decide) (fun z => absurd z (show ¬ g_b2 (decide ([46] = x_bytS.getD 4 [])) = 0 by decide)) (fun _ => ?_)
    refine x_iload d_PP_print_207 rfl ?_
    refine x_if_ne 218 d_PP_print_209 (by decide) (fun _ => ?_) (fun z => absurd z (by decide))
    refine x_iload d_PP_print_218 rfl ?_
    refine x_iconst 2 d_PP_print_220 (by decide) ?_
    refine x_irem d_PP_print_221 (by decide) ?_
    refine x_if_ne 264 d_PP_print_222 (by decide) (fun _ => ?_) (fun z => absurd z (by decide))
    exact h264 1
  · refine x_iload d_PP_print_32 rfl ?_
    refine x_if_lt 485 d_PP_print_34 (by decide) (fun z => absurd z (nI_pos (show tp < 2 ^ 31 by omega))) (fun _ => ?_)
    refine x_aload_n d_PP_print_37 rfl rfl ?_
    refine x_get d_PP_print_38 f_PP_29 (Nat.le_of_ble_eq_true rfl) (Nat.le_of_ble_eq_true rfl) (by first | rfl | assumption) (by rfl) ?_
    refine x_if_ne 485 d_PP_print_41 (by decide) (fun z => absurd (g_ov0 hS) z) (fun _ => ?_)
    refine x_aload_n d_PP_print_44 rfl rfl ?_
    refine x_get d_PP_print_45 f_PP_15 (Nat.le_of_ble_eq_true rfl) (Nat.le_of_ble_eq_true rfl) (by first | rfl | assumption) (by rfl) ?_
    refine x_iload d_PP_print_48 rfl ?_
    refine x_iald d_PP_print_50 (Nat.le_of_ble_eq_true rfl) (Nat.le_of_ble_eq_true rfl) (by first | rfl | assumption) (vp_in_nI (show tp < 9000 by omega) (by decide)) ?_
    refine x_topi (nI r) (by rw [nI_clamp (by omega)]; exact hW) ?_
    refine x_istore d_PP_print_51 (Nat.le_of_ble_eq_true rfl) ?_
    refine x_iload d_PP_print_53 rfl ?_
    refine x_bipush (-2) d_PP_print_55 (by decide) ?_
    refine x_icmp_ne 72 d_PP_print_57 (by decide) (fun _ => ?_) (fun z => absurd z (g_nm2 (by omega)))
    refine x_aload_n d_PP_print_72 rfl rfl ?_
    refine x_get d_PP_print_73 f_PP_78 (Nat.le_of_ble_eq_true rfl) (Nat.le_of_ble_eq_true rfl) (by first | rfl | assumption) (by rfl) ?_
    refine x_iload d_PP_print_76 rfl ?_
    refine x_iald d_PP_print_78 (Nat.le_of_ble_eq_true rfl) (Nat.le_of_ble_eq_true rfl) (by first | rfl | assumption) (vp_in_nI (show r < 9000 by omega) (by decide)) ?_
    refine x_topi 2 (by rw [nI_clamp (by omega)]; exact b0) ?_
    refine x_if_ne 116 d_PP_print_79 (by decide) (fun _ => ?_) (fun z => absurd z (by decide))
    refine x_aload_n d_PP_print_116 rfl rfl ?_
    refine x_get d_PP_print_117 f_PP_19 (Nat.le_of_ble_eq_true rfl) (Nat.le_of_ble_eq_true rfl) (by first | rfl | assumption) (by rfl) ?_
    refine x_iload d_PP_print_120 rfl ?_
    refine x_iald d_PP_print_122 (Nat.le_of_ble_eq_true rfl) (Nat.le_of_ble_eq_true rfl) (by first | rfl | assumption) (vp_in_nI (show tp < 9000 by omega) (by decide)) ?_
    refine x_topi 3 (by rw [nI_clamp (by omega)]; exact hX) ?_
    refine x_istore d_PP_print_123 (Nat.le_of_ble_eq_true rfl) ?_
    refine x_aload_n d_PP_print_125 rfl rfl ?_
    refine x_get d_PP_print_126 f_PP_78 (Nat.le_of_ble_eq_true rfl) (Nat.le_of_ble_eq_true rfl) (by first | rfl | assumption) (by rfl) ?_
    refine x_iload d_PP_print_129 rfl ?_
    refine x_iald d_PP_print_131 (Nat.le_of_ble_eq_true rfl) (Nat.le_of_ble_eq_true rfl) (by first | rfl | assumption) (vp_in_nI (show r < 9000 by omega) (by decide)) ?_
    refine x_topi 2 (by rw [nI_clamp (by omega)]; exact b0) ?_
    refine x_if_ne 152 d_PP_print_132 (by decide) (fun _ => ?_) (fun z => absurd z (by decide))
    refine x_aload_n d_PP_print_152 rfl rfl ?_
    refine x_get d_PP_print_153 f_PP_78 (Nat.le_of_ble_eq_true rfl) (Nat.le_of_ble_eq_true rfl) (by first | rfl | assumption) (by rfl) ?_
    refine x_iload d_PP_print_156 rfl ?_
    refine x_iald d_PP_print_158 (Nat.le_of_ble_eq_true rfl) (Nat.le_of_ble_eq_true rfl) (by first | rfl | assumption) (vp_in_nI (show r < 9000 by omega) (by decide)) ?_
    refine x_topi 2 (by rw [nI_clamp (by omega)]; exact b0) ?_
    refine x_iconst 1 d_PP_print_159 (by decide) ?_
    refine x_icmp_ne 180 d_PP_print_160 (by decide) (fun _ => ?_) (fun z => absurd z (by decide))
    refine x_aload_n d_PP_print_180 rfl rfl ?_
    refine x_get d_PP_print_181 f_PP_92 (Nat.le_of_ble_eq_true rfl) (Nat.le_of_ble_eq_true rfl) (by first | rfl | assumption) (by rfl) ?_
    refine x_iload d_PP_print_184 rfl ?_
    refine x_iald d_PP_print_186 (Nat.le_of_ble_eq_true rfl) (Nat.le_of_ble_eq_true rfl) (by first | rfl | assumption) (vp_in_nI (show r < 9000 by omega) (by decide)) ?_
    refine x_topi 2 (by rw [nI_clamp (by omega)]; exact b3) ?_
    refine x_iconst 2 d_PP_print_187 (by decide) ?_
    refine x_icmp_ne 468 d_PP_print_188 (by decide) (fun z => absurd rfl z) (fun _ => ?_)
    refine x_aload_n d_PP_print_191 rfl rfl ?_
    refine x_aload_n d_PP_print_192 rfl rfl ?_
    refine x_get d_PP_print_193 f_PP_83 (Nat.le_of_ble_eq_true rfl) (Nat.le_of_ble_eq_true rfl) (by first | rfl | assumption) (by rfl) ?_
    refine x_iload d_PP_print_196 rfl ?_
    refine x_iald d_PP_print_198 (Nat.le_of_ble_eq_true rfl) (Nat.le_of_ble_eq_true rfl) (by first | rfl | assumption) (vp_in_nI (show r < 9000 by omega) (by decide)) ?_
    refine x_topi (nI k) (by rw [nI_clamp (by omega)]; exact b1) ?_
    refine x_ldcS (i := 4) d_PP_print_199 33 rfl ?_
    refine x_callV2Y d_PP_print_201 k_PP_55 (Nat.le_of_ble_eq_true rfl) (Nat.le_of_ble_eq_true rfl) h31c (by rfl) (q_spells (s := 4) hN hk hk9 (by decide)) (Nat.le_of_ble_eq_true rfl) (Nat.le_of_ble_eq_true rfl) (Nat.le_of_ble_eq_true rfl) (Nat.le_of_ble_eq_true rfl) (Nat.le_of_ble_eq_true rfl) rfl ?_
    refine x_if_eq 468 d_PP_print_204 (by decide) (fun z => absurd z (show ¬ g_b2 (decide ([46] = x_bytS.getD 4 [])) = 0 by decide)) (fun _ => ?_)
    refine x_iload d_PP_print_207 rfl ?_
    refine x_if_ne 218 d_PP_print_209 (by decide) (fun _ => ?_) (fun z => absurd z (by decide))
    refine x_iload d_PP_print_218 rfl ?_
    refine x_iconst 2 d_PP_print_220 (by decide) ?_
    refine x_irem d_PP_print_221 (by decide) ?_
    refine x_if_ne 264 d_PP_print_222 (by decide) (fun _ => ?_) (fun z => absurd z (by decide))
    exact h264 3
set_option maxRecDepth 20000 in
theorem w_PP_M11 {E : xR} {h : xH} {P0 : Nat → Int32} {Q : xK} {T : List (List Int32)} {Na B : Nat → Nat → Int32} {Nm : Nat → Int64} {z q : Int32} (hN : g_HN h T Na) (hT : g_HT h B Nm z q) : g_M11 T B (g_PLp E h P0 Q) := by
  intro tp S n Wk Nx r f x htp hS hr hf9 hx9 hW hX hpa hf hx hot K Sn hSn
  have h31c := hN.1.1
  obtain ⟨h24c, hb0, hb1, hb2, hb3, hb4, hb5⟩ := hT
  have hT2 : g_HT h B Nm z q := ⟨h24c, hb0, hb1, hb2, hb3, hb4, hb5⟩
  obtain ⟨b0, b3, k, hk9, b1, hk⟩ := hpa
  refine x_lv [(0, .ref 44), (1, .ref 24), (2, .ref 31), (4, .null), (5, .int (nI tp))] (by rw [g_nsub1]) ?_
  have h264 : ∀ i7, x_W E M_PP_print (x_room 9 0 0) Q 52 (g_yw h S n Wk Nx Sn P0) 264 [(0, .ref 44), (1, .ref 24), (2, .ref 31), (4, .null), (5, .int (nI tp)), (6, .int (nI r)), (7, .int i7)] [] 0 0 := by
    intro i7
    have h430 : x_W E M_PP_print (x_room 9 0 0) Q 52 (g_yw h S n Wk Nx Sn P0) 430 [(0, .ref 44), (1, .ref 24), (2, .ref 31), (4, .null), (5, .int (nI tp)), (6, .int (nI r)), (7, .int i7), (8, .int (nI x))] [] 0 0 := by
      refine x_aload_n d_PP_print_430 rfl rfl ?_
      refine x_bipush 124 d_PP_print_431 (by decide) ?_
      refine x_callV1Y d_PP_print_433 k_PP_33 (Nat.le_of_ble_eq_true rfl) (Nat.le_of_ble_eq_true rfl) (by first | rfl | assumption) (by rfl) w_PP_put (Nat.le_of_ble_eq_true rfl) (Nat.le_of_ble_eq_true rfl) (Nat.le_of_ble_eq_true rfl) (Nat.le_of_ble_eq_true rfl) (Nat.le_of_ble_eq_true rfl) rfl ?_
      refine x_aload_n d_PP_print_436 rfl rfl ?_
      refine x_get d_PP_print_437 f_PP_15 (Nat.le_of_ble_eq_true rfl) (Nat.le_of_ble_eq_true rfl) (by first | rfl | assumption) (by rfl) ?_
      refine x_iload d_PP_print_440 rfl ?_
      refine x_bipush (-2) d_PP_print_442 (by decide) ?_
      refine x_iast d_PP_print_444 (Nat.le_of_ble_eq_true rfl) (Nat.le_of_ble_eq_true rfl) (by first | rfl | assumption) (vp_in_nI (show tp < 9000 by omega) (by decide)) ?_
      refine x_iinc d_PP_print_445 rfl 1 (by decide) (Nat.le_of_ble_eq_true rfl) ?_
      refine x_lv [(0, .ref 44), (1, .ref 24), (2, .ref 31), (4, .null), (5, .int (nI (tp + 1))), (6, .int (nI r)), (7, .int i7), (8, .int (nI x))] (by rw [nI_succ tp]; rfl) ?_
      refine x_aload_n d_PP_print_448 rfl rfl ?_
      refine x_get d_PP_print_449 f_PP_15 (Nat.le_of_ble_eq_true rfl) (Nat.le_of_ble_eq_true rfl) (by first | rfl | assumption) (by rfl) ?_
      refine x_iload d_PP_print_452 rfl ?_
      refine x_iload d_PP_print_454 rfl ?_
      refine x_iast d_PP_print_456 (Nat.le_of_ble_eq_true rfl) (Nat.le_of_ble_eq_true rfl) (by first | rfl | assumption) (vp_in_nI (show tp + 1 < 9000 by omega) (by decide)) ?_
      refine x_aload_n d_PP_print_457 rfl rfl ?_
      refine x_get d_PP_print_458 f_PP_19 (Nat.le_of_ble_eq_true rfl) (Nat.le_of_ble_eq_true rfl) (by first | rfl | assumption) (by rfl) ?_
      refine x_iload d_PP_print_461 rfl ?_
      refine x_iconst 0 d_PP_print_463 (by decide) ?_
      refine x_iast d_PP_print_464 (Nat.le_of_ble_eq_true rfl) (Nat.le_of_ble_eq_true rfl) (by first | rfl | assumption) (vp_in_nI (show tp + 1 < 9000 by omega) (by decide)) ?_
      refine x_goto 482 d_PP_print_465 (by decide) ?_
      refine x_goto 32 d_PP_print_482 (by decide) ?_
      refine x_lv [(0, .ref 44), (1, .ref 24), (2, .ref 31), (4, .null), (5, .int (nI (tp + 1 + 1) - 1)), (6, .int (nI r)), (7, .int i7), (8, .int (nI x))] (by rw [g_nsub1]) ?_
      refine x_wk [(0, .ref 44), (1, .ref 24), (2, .ref 31), (4, .null), (5, .int (nI (tp + 1 + 1) - 1))] (by simp) ?_
      refine x_same (h' := (g_yw h (S ++ [124]) n (upd (upd Wk tp (-2)) (tp + 1) (nI x)) (upd Nx (tp + 1) 0) Sn P0)) (x_pt rfl rfl rfl rfl rfl rfl rfl rfl rfl rfl rfl rfl rfl rfl rfl rfl rfl rfl rfl rfl rfl rfl rfl rfl rfl rfl rfl rfl rfl rfl rfl rfl rfl rfl rfl rfl rfl rfl rfl rfl rfl rfl rfl rfl rfl rfl (show (Sum.inl (0, 9000, Sum.inl (upd (upd Wk (nI tp).toNatClampNeg (-2)) (nI (tp + 1)).toNatClampNeg (nI x))) : xE) = Sum.inl (0, 9000, Sum.inl (upd (upd Wk tp (-2)) (tp + 1) (nI x))) by rw [nI_clamp (by omega), nI_clamp (by omega)]) (show (Sum.inl (0, 9000, Sum.inl (upd Nx (nI (tp + 1)).toNatClampNeg 0)) : xE) = Sum.inl (0, 9000, Sum.inl (upd Nx (tp + 1) 0)) by rw [nI_clamp (by omega)]) rfl rfl rfl rfl) ?_
      exact K Sn hSn
    rcases hot with x0 | x0 | ⟨m2, w2, ⟨x0, x3, ⟨k2, hk29, x1, hk2⟩, x4, x5, -⟩, x6⟩
    · refine x_aload_n d_PP_print_264 rfl rfl ?_
      refine x_iload d_PP_print_265 rfl ?_
      refine x_iconst 1 d_PP_print_267 (by decide) ?_
      refine x_callV2Y d_PP_print_268 k_PP_95 (Nat.le_of_ble_eq_true rfl) (Nat.le_of_ble_eq_true rfl) h24c (by rfl) (q_part (i := 1) (f := f) hT2 (show r < 9000 by omega) hf (show f + 1 < 9000 by omega)) (Nat.le_of_ble_eq_true rfl) (Nat.le_of_ble_eq_true rfl) (Nat.le_of_ble_eq_true rfl) (Nat.le_of_ble_eq_true rfl) (Nat.le_of_ble_eq_true rfl) rfl ?_
      refine x_topi (nI x) hx ?_
      refine x_istore d_PP_print_271 (Nat.le_of_ble_eq_true rfl) ?_
      refine x_aload_n d_PP_print_273 rfl rfl ?_
      refine x_get d_PP_print_274 f_PP_78 (Nat.le_of_ble_eq_true rfl) (Nat.le_of_ble_eq_true rfl) (by first | rfl | assumption) (by rfl) ?_
      refine x_iload d_PP_print_277 rfl ?_
      refine x_iald d_PP_print_279 (Nat.le_of_ble_eq_true rfl) (Nat.le_of_ble_eq_true rfl) (by first | rfl | assumption) (vp_in_nI (show x < 9000 by omega) (by decide)) ?_
      refine x_topi 0 (by rw [nI_clamp (by omega)]; exact x0) ?_
      refine x_if_ne 317 d_PP_print_280 (by decide) (fun z => absurd rfl z) (fun _ => ?_)
      refine x_aloadN d_PP_print_283 rfl ?_
      refine x_if_null 317 d_PP_print_285 (by decide) (fun _ => ?_) (fun z => z)
      refine x_aload_n d_PP_print_317 rfl rfl ?_
      refine x_get d_PP_print_318 f_PP_78 (Nat.le_of_ble_eq_true rfl) (Nat.le_of_ble_eq_true rfl) (by first | rfl | assumption) (by rfl) ?_
      refine x_iload d_PP_print_321 rfl ?_
      refine x_iald d_PP_print_323 (Nat.le_of_ble_eq_true rfl) (Nat.le_of_ble_eq_true rfl) (by first | rfl | assumption) (vp_in_nI (show x < 9000 by omega) (by decide)) ?_
      refine x_topi 0 (by rw [nI_clamp (by omega)]; exact x0) ?_
      refine x_iconst 2 d_PP_print_324 (by decide) ?_
      refine x_icmp_ne 381 d_PP_print_325 (by decide) (fun _ => ?_) (fun z => absurd z (by decide))
      refine x_aload_n d_PP_print_381 rfl rfl ?_
      refine x_get d_PP_print_382 f_PP_78 (Nat.le_of_ble_eq_true rfl) (Nat.le_of_ble_eq_true rfl) (by first | rfl | assumption) (by rfl) ?_
      refine x_iload d_PP_print_385 rfl ?_
      refine x_iald d_PP_print_387 (Nat.le_of_ble_eq_true rfl) (Nat.le_of_ble_eq_true rfl) (by first | rfl | assumption) (vp_in_nI (show x < 9000 by omega) (by decide)) ?_
      refine x_topi 0 (by rw [nI_clamp (by omega)]; exact x0) ?_
      refine x_iconst 2 d_PP_print_388 (by decide) ?_
      refine x_icmp_ne 430 d_PP_print_389 (by decide) (fun _ => ?_) (fun z => absurd z (by decide))
      exact h430
    · refine x_aload_n d_PP_print_264 rfl rfl ?_
      refine x_iload d_PP_print_265 rfl ?_
      refine x_iconst 1 d_PP_print_267 (by decide) ?_
      refine x_callV2Y d_PP_print_268 k_PP_95 (Nat.le_of_ble_eq_true rfl) (Nat.le_of_ble_eq_true rfl) h24c (by rfl) (q_part (i := 1) (f := f) hT2 (show r < 9000 by omega) hf (show f + 1 < 9000 by omega)) (Nat.le_of_ble_eq_true rfl) (Nat.le_of_ble_eq_true rfl) (Nat.le_of_ble_eq_true rfl) (Nat.le_of_ble_eq_true rfl) (Nat.le_of_ble_eq_true rfl) rfl ?_
      refine x_topi (nI x) hx ?_
      refine x_istore d_PP_print_271 (Nat.le_of_ble_eq_true rfl) ?_
      refine x_aload_n d_PP_print_273 rfl rfl ?_
      refine x_get d_PP_print_274 f_PP_78 (Nat.le_of_ble_eq_true rfl) (Nat.le_of_ble_eq_true rfl) (by first | rfl | assumption) (by rfl) ?_
      refine x_iload d_PP_print_277 rfl ?_
      refine x_iald d_PP_print_279 (Nat.le_of_ble_eq_true rfl) (Nat.le_of_ble_eq_true rfl) (by first | rfl | assumption) (vp_in_nI (show x < 9000 by omega) (by decide)) ?_
      refine x_topi 1 (by rw [nI_clamp (by omega)]; exact x0) ?_
      refine x_if_ne 317 d_PP_print_280 (by decide) (fun _ => ?_) (fun z => absurd z (by decide))
      refine x_aload_n d_PP_print_317 rfl rfl ?_
      refine x_get d_PP_print_318 f_PP_78 (Nat.le_of_ble_eq_true rfl) (Nat.le_of_ble_eq_true rfl) (by first | rfl | assumption) (by rfl) ?_
      refine x_iload d_PP_print_321 rfl ?_
      refine x_iald d_PP_print_323 (Nat.le_of_ble_eq_true rfl) (Nat.le_of_ble_eq_true rfl) (by first | rfl | assumption) (vp_in_nI (show x < 9000 by omega) (by decide)) ?_
      refine x_topi 1 (by rw [nI_clamp (by omega)]; exact x0) ?_
      refine x_iconst 2 d_PP_print_324 (by decide) ?_
      refine x_icmp_ne 381 d_PP_print_325 (by decide) (fun _ => ?_) (fun z => absurd z (by decide))
      refine x_aload_n d_PP_print_381 rfl rfl ?_
      refine x_get d_PP_print_382 f_PP_78 (Nat.le_of_ble_eq_true rfl) (Nat.le_of_ble_eq_true rfl) (by first | rfl | assumption) (by rfl) ?_
      refine x_iload d_PP_print_385 rfl ?_
      refine x_iald d_PP_print_387 (Nat.le_of_ble_eq_true rfl) (Nat.le_of_ble_eq_true rfl) (by first | rfl | assumption) (vp_in_nI (show x < 9000 by omega) (by decide)) ?_
      refine x_topi 1 (by rw [nI_clamp (by omega)]; exact x0) ?_
      refine x_iconst 2 d_PP_print_388 (by decide) ?_
      refine x_icmp_ne 430 d_PP_print_389 (by decide) (fun _ => ?_) (fun z => absurd z (by decide))
      exact h430
    · refine x_aload_n d_PP_print_264 rfl rfl ?_
      refine x_iload d_PP_print_265 rfl ?_
      refine x_iconst 1 d_PP_print_267 (by decide) ?_
      refine x_callV2Y d_PP_print_268 k_PP_95 (Nat.le_of_ble_eq_true rfl) (Nat.le_of_ble_eq_true rfl) h24c (by rfl) (q_part (i := 1) (f := f) hT2 (show r < 9000 by omega) hf (show f + 1 < 9000 by omega)) (Nat.le_of_ble_eq_true rfl) (Nat.le_of_ble_eq_true rfl) (Nat.le_of_ble_eq_true rfl) (Nat.le_of_ble_eq_true rfl) (Nat.le_of_ble_eq_true rfl) rfl ?_
      refine x_topi (nI x) hx ?_
      refine x_istore d_PP_print_271 (Nat.le_of_ble_eq_true rfl) ?_
      refine x_aload_n d_PP_print_273 rfl rfl ?_
      refine x_get d_PP_print_274 f_PP_78 (Nat.le_of_ble_eq_true rfl) (Nat.le_of_ble_eq_true rfl) (by first | rfl | assumption) (by rfl) ?_
      refine x_iload d_PP_print_277 rfl ?_
      refine x_iald d_PP_print_279 (Nat.le_of_ble_eq_true rfl) (Nat.le_of_ble_eq_true rfl) (by first | rfl | assumption) (vp_in_nI (show x < 9000 by omega) (by decide)) ?_
      refine x_topi 2 (by rw [nI_clamp (by omega)]; exact x0) ?_
      refine x_if_ne 317 d_PP_print_280 (by decide) (fun _ => ?_) (fun z => absurd z (by decide))
      refine x_aload_n d_PP_print_317 rfl rfl ?_
      refine x_get d_PP_print_318 f_PP_78 (Nat.le_of_ble_eq_true rfl) (Nat.le_of_ble_eq_true rfl) (by first | rfl | assumption) (by rfl) ?_
      refine x_iload d_PP_print_321 rfl ?_
      refine x_iald d_PP_print_323 (Nat.le_of_ble_eq_true rfl) (Nat.le_of_ble_eq_true rfl) (by first | rfl | assumption) (vp_in_nI (show x < 9000 by omega) (by decide)) ?_
      refine x_topi 2 (by rw [nI_clamp (by omega)]; exact x0) ?_
      refine x_iconst 2 d_PP_print_324 (by decide) ?_
      refine x_icmp_ne 381 d_PP_print_325 (by decide) (fun z => absurd rfl z) (fun _ => ?_)
      refine x_aload_n d_PP_print_328 rfl rfl ?_
      refine x_get d_PP_print_329 f_PP_92 (Nat.le_of_ble_eq_true rfl) (Nat.le_of_ble_eq_true rfl) (by first | rfl | assumption) (by rfl) ?_
      refine x_iload d_PP_print_332 rfl ?_
      refine x_iald d_PP_print_334 (Nat.le_of_ble_eq_true rfl) (Nat.le_of_ble_eq_true rfl) (by first | rfl | assumption) (vp_in_nI (show x < 9000 by omega) (by decide)) ?_
      refine x_topi (nI m2) (by rw [nI_clamp (by omega)]; exact x3) ?_
      refine x_iconst 2 d_PP_print_335 (by decide) ?_
      refine x_icmp_ne 381 d_PP_print_336 (by decide) (fun c_336 => ?_) (fun c_336 => ?_)
      · refine x_aload_n d_PP_print_381 rfl rfl ?_
        refine x_get d_PP_print_382 f_PP_78 (Nat.le_of_ble_eq_true rfl) (Nat.le_of_ble_eq_true rfl) (by first | rfl | assumption) (by rfl) ?_
        refine x_iload d_PP_print_385 rfl ?_
        refine x_iald d_PP_print_387 (Nat.le_of_ble_eq_true rfl) (Nat.le_of_ble_eq_true rfl) (by first | rfl | assumption) (vp_in_nI (show x < 9000 by omega) (by decide)) ?_
        refine x_topi 2 (by rw [nI_clamp (by omega)]; exact x0) ?_
        refine x_iconst 2 d_PP_print_388 (by decide) ?_
        refine x_icmp_ne 430 d_PP_print_389 (by decide) (fun z => absurd rfl z) (fun _ => ?_)
        refine x_aload_n d_PP_print_392 rfl rfl ?_
        refine x_get d_PP_print_393 f_PP_92 (Nat.le_of_ble_eq_true rfl) (Nat.le_of_ble_eq_true rfl) (by first | rfl | assumption) (by rfl) ?_
        refine x_iload d_PP_print_396 rfl ?_
        refine x_iald d_PP_print_398 (Nat.le_of_ble_eq_true rfl) (Nat.le_of_ble_eq_true rfl) (by first | rfl | assumption) (vp_in_nI (show x < 9000 by omega) (by decide)) ?_
        refine x_topi (nI m2) (by rw [nI_clamp (by omega)]; exact x3) ?_
        refine x_if_ne 430 d_PP_print_399 (by decide) (fun c_399 => ?_) (fun c_399 => ?_)
        · exact h430
        · refine x_aload_n d_PP_print_402 rfl rfl ?_
          refine x_aload_n d_PP_print_403 rfl rfl ?_
          refine x_get d_PP_print_404 f_PP_83 (Nat.le_of_ble_eq_true rfl) (Nat.le_of_ble_eq_true rfl) (by first | rfl | assumption) (by rfl) ?_
          refine x_iload d_PP_print_407 rfl ?_
          refine x_iald d_PP_print_409 (Nat.le_of_ble_eq_true rfl) (Nat.le_of_ble_eq_true rfl) (by first | rfl | assumption) (vp_in_nI (show x < 9000 by omega) (by decide)) ?_
          refine x_topi (nI k2) (by rw [nI_clamp (by omega)]; exact x1) ?_
          refine x_ldcS (i := 6) d_PP_print_410 34 rfl ?_
          refine x_callV2Y d_PP_print_412 k_PP_55 (Nat.le_of_ble_eq_true rfl) (Nat.le_of_ble_eq_true rfl) h31c (by rfl) (q_spells (s := 6) hN hk2 hk29 (by decide)) (Nat.le_of_ble_eq_true rfl) (Nat.le_of_ble_eq_true rfl) (Nat.le_of_ble_eq_true rfl) (Nat.le_of_ble_eq_true rfl) (Nat.le_of_ble_eq_true rfl) rfl ?_
          refine x_if_eq 430 d_PP_print_415 (by decide) (fun _ => ?_) (fun z => absurd (by rw [decide_eq_false (fun (y : w2 = x_bytS.getD 6 []) => x6 ⟨(g_nIne (b := 0) (by omega) (by decide)).mp c_399, y⟩)]; rfl) z)
          exact h430
      · refine x_aload_n d_PP_print_339 rfl rfl ?_
        refine x_aload_n d_PP_print_340 rfl rfl ?_
        refine x_get d_PP_print_341 f_PP_83 (Nat.le_of_ble_eq_true rfl) (Nat.le_of_ble_eq_true rfl) (by first | rfl | assumption) (by rfl) ?_
        refine x_iload d_PP_print_344 rfl ?_
        refine x_iald d_PP_print_346 (Nat.le_of_ble_eq_true rfl) (Nat.le_of_ble_eq_true rfl) (by first | rfl | assumption) (vp_in_nI (show x < 9000 by omega) (by decide)) ?_
        refine x_topi (nI k2) (by rw [nI_clamp (by omega)]; exact x1) ?_
        refine x_ldcS (i := 4) d_PP_print_347 33 rfl ?_
        refine x_callV2Y d_PP_print_349 k_PP_55 (Nat.le_of_ble_eq_true rfl) (Nat.le_of_ble_eq_true rfl) h31c (by rfl) (q_spells (s := 4) hN hk2 hk29 (by decide)) (Nat.le_of_ble_eq_true rfl) (Nat.le_of_ble_eq_true rfl) (Nat.le_of_ble_eq_true rfl) (Nat.le_of_ble_eq_true rfl) (Nat.le_of_ble_eq_true rfl) rfl ?_
        refine x_if_eq 381 d_PP_print_352 (by decide) (fun _ => ?_) (fun z => absurd (by rw [decide_eq_false (fun (y : w2 = x_bytS.getD 4 []) => x4 ⟨(g_nIne (b := 2) (by omega) (by decide)).mp c_336, y⟩)]; rfl) z)
        refine x_aload_n d_PP_print_381 rfl rfl ?_
        refine x_get d_PP_print_382 f_PP_78 (Nat.le_of_ble_eq_true rfl) (Nat.le_of_ble_eq_true rfl) (by first | rfl | assumption) (by rfl) ?_
        refine x_iload d_PP_print_385 rfl ?_
        refine x_iald d_PP_print_387 (Nat.le_of_ble_eq_true rfl) (Nat.le_of_ble_eq_true rfl) (by first | rfl | assumption) (vp_in_nI (show x < 9000 by omega) (by decide)) ?_
        refine x_topi 2 (by rw [nI_clamp (by omega)]; exact x0) ?_
        refine x_iconst 2 d_PP_print_388 (by decide) ?_
        refine x_icmp_ne 430 d_PP_print_389 (by decide) (fun z => absurd rfl z) (fun _ => ?_)
        refine x_aload_n d_PP_print_392 rfl rfl ?_
        refine x_get d_PP_print_393 f_PP_92 (Nat.le_of_ble_eq_true rfl) (Nat.le_of_ble_eq_true rfl) (by first | rfl | assumption) (by rfl) ?_
        refine x_iload d_PP_print_396 rfl ?_
        refine x_iald d_PP_print_398 (Nat.le_of_ble_eq_true rfl) (Nat.le_of_ble_eq_true rfl) (by first | rfl | assumption) (vp_in_nI (show x < 9000 by omega) (by decide)) ?_
        refine x_topi (nI m2) (by rw [nI_clamp (by omega)]; exact x3) ?_
        refine x_if_ne 430 d_PP_print_399 (by decide) (fun c_399 => ?_) (fun c_399 => ?_)
        · exact h430
        · refine x_aload_n d_PP_print_402 rfl rfl ?_
          refine x_aload_n d_PP_print_403 rfl rfl ?_
          refine x_get d_PP_print_404 f_PP_83 (Nat.le_of_ble_eq_true rfl) (Nat.le_of_ble_eq_true rfl) (by first | rfl | assumption) (by rfl) ?_
          refine x_iload d_PP_print_407 rfl ?_
          refine x_iald d_PP_print_409 (Nat.le_of_ble_eq_true rfl) (Nat.le_of_ble_eq_true rfl) (by first | rfl | assumption) (vp_in_nI (show x < 9000 by omega) (by decide)) ?_
          refine x_topi (nI k2) (by rw [nI_clamp (by omega)]; exact x1) ?_
          refine x_ldcS (i := 6) d_PP_print_410 34 rfl ?_
          refine x_callV2Y d_PP_print_412 k_PP_55 (Nat.le_of_ble_eq_true rfl) (Nat.le_of_ble_eq_true rfl) h31c (by rfl) (q_spells (s := 6) hN hk2 hk29 (by decide)) (Nat.le_of_ble_eq_true rfl) (Nat.le_of_ble_eq_true rfl) (Nat.le_of_ble_eq_true rfl) (Nat.le_of_ble_eq_true rfl) (Nat.le_of_ble_eq_true rfl) rfl ?_
          refine x_if_eq 430 d_PP_print_415 (by decide) (fun _ => ?_) (fun z => absurd (by rw [decide_eq_false (fun (y : w2 = x_bytS.getD 6 []) => x6 ⟨(g_nIne (b := 0) (by omega) (by decide)).mp c_399, y⟩)]; rfl) z)
          exact h430
  rcases hX with hX | hX
  · refine x_iload d_PP_print_32 rfl ?_
    refine x_if_lt 485 d_PP_print_34 (by decide) (fun z => absurd z (nI_pos (show tp < 2 ^ 31 by omega))) (fun _ => ?_)
    refine x_aload_n d_PP_print_37 rfl rfl ?_
    refine x_get d_PP_print_38 f_PP_29 (Nat.le_of_ble_eq_true rfl) (Nat.le_of_ble_eq_true rfl) (by first | rfl | assumption) (by rfl) ?_
    refine x_if_ne 485 d_PP_print_41 (by decide) (fun z => absurd (g_ov0 hS) z) (fun _ => ?_)
    refine x_aload_n d_PP_print_44 rfl rfl ?_
    refine x_get d_PP_print_45 f_PP_15 (Nat.le_of_ble_eq_true rfl) (Nat.le_of_ble_eq_true rfl) (by first | rfl | assumption) (by rfl) ?_
    refine x_iload d_PP_print_48 rfl ?_
    refine x_iald d_PP_print_50 (Nat.le_of_ble_eq_true rfl) (Nat.le_of_ble_eq_true rfl) (by first | rfl | assumption) (vp_in_nI (show tp < 9000 by omega) (by decide)) ?_
    refine x_topi (nI r) (by rw [nI_clamp (by omega)]; exact hW) ?_
    refine x_istore d_PP_print_51 (Nat.le_of_ble_eq_true rfl) ?_
    refine x_iload d_PP_print_53 rfl ?_
    refine x_bipush (-2) d_PP_print_55 (by decide) ?_
    refine x_icmp_ne 72 d_PP_print_57 (by decide) (fun _ => ?_) (fun z => absurd z (g_nm2 (by omega)))
    refine x_aload_n d_PP_print_72 rfl rfl ?_
    refine x_get d_PP_print_73 f_PP_78 (Nat.le_of_ble_eq_true rfl) (Nat.le_of_ble_eq_true rfl) (by first | rfl | assumption) (by rfl) ?_
    refine x_iload d_PP_print_76 rfl ?_
    refine x_iald d_PP_print_78 (Nat.le_of_ble_eq_true rfl) (Nat.le_of_ble_eq_true rfl) (by first | rfl | assumption) (vp_in_nI (show r < 9000 by omega) (by decide)) ?_
    refine x_topi 2 (by rw [nI_clamp (by omega)]; exact b0) ?_
    refine x_if_ne 116 d_PP_print_79 (by decide) (fun _ => ?_) (fun z => absurd z (by decide))
    refine x_aload_n d_PP_print_116 rfl rfl ?_
    refine x_get d_PP_print_117 f_PP_19 (Nat.le_of_ble_eq_true rfl) (Nat.le_of_ble_eq_true rfl) (by first | rfl | assumption) (by rfl) ?_
    refine x_iload d_PP_print_120 rfl ?_
    refine x_iald d_PP_print_122 (Nat.le_of_ble_eq_true rfl) (Nat.le_of_ble_eq_true rfl) (by first | rfl | assumption) (vp_in_nI (show tp < 9000 by omega) (by decide)) ?_
    refine x_topi 1 (by rw [nI_clamp (by omega)]; exact hX) ?_
    refine x_istore d_PP_print_123 (Nat.le_of_ble_eq_true rfl) ?_
    refine x_aload_n d_PP_print_125 rfl rfl ?_
    refine x_get d_PP_print_126 f_PP_78 (Nat.le_of_ble_eq_true rfl) (Nat.le_of_ble_eq_true rfl) (by first | rfl | assumption) (by rfl) ?_
    refine x_iload d_PP_print_129 rfl ?_
    refine x_iald d_PP_print_131 (Nat.le_of_ble_eq_true rfl) (Nat.le_of_ble_eq_true rfl) (by first | rfl | assumption) (vp_in_nI (show r < 9000 by omega) (by decide)) ?_
    refine x_topi 2 (by rw [nI_clamp (by omega)]; exact b0) ?_
    refine x_if_ne 152 d_PP_print_132 (by decide) (fun _ => ?_) (fun z => absurd z (by decide))
    refine x_aload_n d_PP_print_152 rfl rfl ?_
    refine x_get d_PP_print_153 f_PP_78 (Nat.le_of_ble_eq_true rfl) (Nat.le_of_ble_eq_true rfl) (by first | rfl | assumption) (by rfl) ?_
    refine x_iload d_PP_print_156 rfl ?_
    refine x_iald d_PP_print_158 (Nat.le_of_ble_eq_true rfl) (Nat.le_of_ble_eq_true rfl) (by first | rfl | assumption) (vp_in_nI (show r < 9000 by omega) (by decide)) ?_
    refine x_topi 2 (by rw [nI_clamp (by omega)]; exact b0) ?_
    refine x_iconst 1 d_PP_print_159 (by decide) ?_
    refine x_icmp_ne 180 d_PP_print_160 (by decide) (fun _ => ?_) (fun z => absurd z (by decide))
    refine x_aload_n d_PP_print_180 rfl rfl ?_
    refine x_get d_PP_print_181 f_PP_92 (Nat.le_of_ble_eq_true rfl) (Nat.le_of_ble_eq_true rfl) (by first | rfl | assumption) (by rfl) ?_
    refine x_iload d_PP_print_184 rfl ?_
    refine x_iald d_PP_print_186 (Nat.le_of_ble_eq_true rfl) (Nat.le_of_ble_eq_true rfl) (by first | rfl | assumption) (vp_in_nI (show r < 9000 by omega) (by decide)) ?_
    refine x_topi 2 (by rw [nI_clamp (by omega)]; exact b3) ?_
    refine x_iconst 2 d_PP_print_187 (by decide) ?_
    refine x_icmp_ne 468 d_PP_print_188 (by decide) (fun z => absurd rfl z) (fun _ => ?_)
    refine x_aload_n d_PP_print_191 rfl rfl ?_
    refine x_aload_n d_PP_print_192 rfl rfl ?_
    refine x_get d_PP_print_193 f_PP_83 (Nat.le_of_ble_eq_true rfl) (Nat.le_of_ble_eq_true rfl) (by first | rfl | assumption) (by rfl) ?_
    refine x_iload d_PP_print_196 rfl ?_
    refine x_iald d_PP_print_198 (Nat.le_of_ble_eq_true rfl) (Nat.le_of_ble_eq_true rfl) (by first | rfl | assumption) (vp_in_nI (show r < 9000 by omega) (by decide)) ?_
    refine x_topi (nI k) (by rw [nI_clamp (by omega)]; exact b1) ?_
    refine x_ldcS (i := 4) d_PP_print_199 33 rfl ?_
    refine x_callV2Y d_PP_print_201 k_PP_55 (Nat.le_of_ble_eq_true rfl) (Nat.le_of_ble_eq_true rfl) h31c (by rfl) (q_spells (s := 4) hN hk hk9 (by decide)) (Nat.le_of_ble_eq_true rfl) (Nat.le_of_ble_eq_true rfl) (Nat.le_of_ble_eq_true rfl) (Nat.le_of_ble_eq_true rfl) (Nat.le_of_ble_eq_true rfl) rfl ?_
    refine x_if_eq 468 d_PP_print_204 (by decide) (fun z => absurd z (show ¬ g_b2 (decide ([46] = x_bytS.getD 4 [])) = 0 by decide)) (fun _ => ?_)
    refine x_iload d_PP_print_207 rfl ?_
    refine x_if_ne 218 d_PP_print_209 (by decide) (fun _ => ?_) (fun z => absurd z (by decide))
    refine x_iload d_PP_print_218 rfl ?_
    refine x_iconst 2 d_PP_print_220 (by decide) ?_
    refine x_irem d_PP_print_221 (by decide) ?_
    refine x_if_ne 264 d_PP_print_222 (by decide) (fun _ => ?_) (fun z => absurd z (by decide))
    exact h264 1
  · refine x_iload d_PP_print_32 rfl ?_
    refine x_if_lt 485 d_PP_print_34 (by decide) (fun z => absurd z (nI_pos (show tp < 2 ^ 31 by omega))) (fun _ => ?_)
    refine x_aload_n d_PP_print_37 rfl rfl ?_
    refine x_get d_PP_print_38 f_PP_29 (Nat.le_of_ble_eq_true rfl) (Nat.le_of_ble_eq_true rfl) (by first | rfl | assumption) (by rfl) ?_
    refine x_if_ne 485 d_PP_print_41 (by decide) (fun z => absurd (g_ov0 hS) z) (fun _ => ?_)
    refine x_aload_n d_PP_print_44 rfl rfl ?_
    refine x_get d_PP_print_45 f_PP_15 (Nat.le_of_ble_eq_true rfl) (Nat.le_of_ble_eq_true rfl) (by first | rfl | assumption) (by rfl) ?_
    refine x_iload d_PP_print_48 rfl ?_
    refine x_iald d_PP_print_50 (Nat.le_of_ble_eq_true rfl) (Nat.le_of_ble_eq_true rfl) (by first | rfl | assumption) (vp_in_nI (show tp < 9000 by omega) (by decide)) ?_
    refine x_topi (nI r) (by rw [nI_clamp (by omega)]; exact hW) ?_
    refine x_istore d_PP_print_51 (Nat.le_of_ble_eq_true rfl) ?_
    refine x_iload d_PP_print_53 rfl ?_
    refine x_bipush (-2) d_PP_print_55 (by decide) ?_
    refine x_icmp_ne 72 d_PP_print_57 (by decide) (fun _ => ?_) (fun z => absurd z (g_nm2 (by omega)))
    refine x_aload_n d_PP_print_72 rfl rfl ?_
    refine x_get d_PP_print_73 f_PP_78 (Nat.le_of_ble_eq_true rfl) (Nat.le_of_ble_eq_true rfl) (by first | rfl | assumption) (by rfl) ?_
    refine x_iload d_PP_print_76 rfl ?_
    refine x_iald d_PP_print_78 (Nat.le_of_ble_eq_true rfl) (Nat.le_of_ble_eq_true rfl) (by first | rfl | assumption) (vp_in_nI (show r < 9000 by omega) (by decide)) ?_
    refine x_topi 2 (by rw [nI_clamp (by omega)]; exact b0) ?_
    refine x_if_ne 116 d_PP_print_79 (by decide) (fun _ => ?_) (fun z => absurd z (by decide))
    refine x_aload_n d_PP_print_116 rfl rfl ?_
    refine x_get d_PP_print_117 f_PP_19 (Nat.le_of_ble_eq_true rfl) (Nat.le_of_ble_eq_true rfl) (by first | rfl | assumption) (by rfl) ?_
    refine x_iload d_PP_print_120 rfl ?_
    refine x_iald d_PP_print_122 (Nat.le_of_ble_eq_true rfl) (Nat.le_of_ble_eq_true rfl) (by first | rfl | assumption) (vp_in_nI (show tp < 9000 by omega) (by decide)) ?_
    refine x_topi 3 (by rw [nI_clamp (by omega)]; exact hX) ?_
    refine x_istore d_PP_print_123 (Nat.le_of_ble_eq_true rfl) ?_
    refine x_aload_n d_PP_print_125 rfl rfl ?_
    refine x_get d_PP_print_126 f_PP_78 (Nat.le_of_ble_eq_true rfl) (Nat.le_of_ble_eq_true rfl) (by first | rfl | assumption) (by rfl) ?_
    refine x_iload d_PP_print_129 rfl ?_
    refine x_iald d_PP_print_131 (Nat.le_of_ble_eq_true rfl) (Nat.le_of_ble_eq_true rfl) (by first | rfl | assumption) (vp_in_nI (show r < 9000 by omega) (by decide)) ?_
    refine x_topi 2 (by rw [nI_clamp (by omega)]; exact b0) ?_
    refine x_if_ne 152 d_PP_print_132 (by decide) (fun _ => ?_) (fun z => absurd z (by decide))
    refine x_aload_n d_PP_print_152 rfl rfl ?_
    refine x_get d_PP_print_153 f_PP_78 (Nat.le_of_ble_eq_true rfl) (Nat.le_of_ble_eq_true rfl) (by first | rfl | assumption) (by rfl) ?_
    refine x_iload d_PP_print_156 rfl ?_
    refine x_iald d_PP_print_158 (Nat.le_of_ble_eq_true rfl) (Nat.le_of_ble_eq_true rfl) (by first | rfl | assumption) (vp_in_nI (show r < 9000 by omega) (by decide)) ?_
    refine x_topi 2 (by rw [nI_clamp (by omega)]; exact b0) ?_
    refine x_iconst 1 d_PP_print_159 (by decide) ?_
    refine x_icmp_ne 180 d_PP_print_160 (by decide) (fun _ => ?_) (fun z => absurd z (by decide))
    refine x_aload_n d_PP_print_180 rfl rfl ?_
    refine x_get d_PP_print_181 f_PP_92 (Nat.le_of_ble_eq_true rfl) (Nat.le_of_ble_eq_true rfl) (by first | rfl | assumption) (by rfl) ?_
    refine x_iload d_PP_print_184 rfl ?_
    refine x_iald d_PP_print_186 (Nat.le_of_ble_eq_true rfl) (Nat.le_of_ble_eq_true rfl) (by first | rfl | assumption) (vp_in_nI (show r < 9000 by omega) (by decide)) ?_
    refine x_topi 2 (by rw [nI_clamp (by omega)]; exact b3) ?_
    refine x_iconst 2 d_PP_print_187 (by decide) ?_
    refine x_icmp_ne 468 d_PP_print_188 (by decide) (fun z => absurd rfl z) (fun _ => ?_)
    refine x_aload_n d_PP_print_191 rfl rfl ?_
    refine x_aload_n d_PP_print_192 rfl rfl ?_
    refine x_get d_PP_print_193 f_PP_83 (Nat.le_of_ble_eq_true rfl) (Nat.le_of_ble_eq_true rfl) (by first | rfl | assumption) (by rfl) ?_
    refine x_iload d_PP_print_196 rfl ?_
    refine x_iald d_PP_print_198 (Nat.le_of_ble_eq_true rfl) (Nat.le_of_ble_eq_true rfl) (by first | rfl | assumption) (vp_in_nI (show r < 9000 by omega) (by decide)) ?_
    refine x_topi (nI k) (by rw [nI_clamp (by omega)]; exact b1) ?_
    refine x_ldcS (i := 4) d_PP_print_199 33 rfl ?_
    refine x_callV2Y d_PP_print_201 k_PP_55 (Nat.le_of_ble_eq_true rfl) (Nat.le_of_ble_eq_true rfl) h31c (by rfl) (q_spells (s := 4) hN hk hk9 (by decide)) (Nat.le_of_ble_eq_true rfl) (Nat.le_of_ble_eq_true rfl) (Nat.le_of_ble_eq_true rfl) (Nat.le_of_ble_eq_true rfl) (Nat.le_of_ble_eq_true rfl) rfl ?_
    refine x_if_eq 468 d_PP_print_204 (by decide) (fun z => absurd z (show ¬ g_b2 (decide ([46] = x_bytS.getD 4 [])) = 0 by decide)) (fun _ => ?_)
    refine x_iload d_PP_print_207 rfl ?_
    refine x_if_ne 218 d_PP_print_209 (by decide) (fun _ => ?_) (fun z => absurd z (by decide))
    refine x_iload d_PP_print_218 rfl ?_
    refine x_iconst 2 d_PP_print_220 (by decide) ?_
    refine x_irem d_PP_print_221 (by decide) ?_
    refine x_if_ne 264 d_PP_print_222 (by decide) (fun _ => ?_) (fun z => absurd z (by decide))
    exact h264 3
/-- what the print leaves -/
def g_PPQ (h : xH) (P0 : Nat → Int32) (Z : List Int32) : xK := x_YE (fun v h1 => v = none ∧ ∃ S n Wk Nx Sn, (S = Z ∨ (4096 < S.length ∧ S.length ≤ Z.length)) ∧ h1 = g_yw h S n Wk Nx Sn P0)
set_option maxRecDepth 20000 in
theorem w_PP_M13 {E : xR} {h : xH} {P0 : Nat → Int32} {Z : List Int32} : g_M13 Z.length (g_PLp E h P0 (g_PPQ h P0 Z)) := by
  intro tp S n Wk Nx htp hS hZ Sn hSn
  refine x_iload d_PP_print_32 rfl ?_
  refine x_if_lt 485 d_PP_print_34 (by decide) (fun c_34 => ?_) (fun c_34 => ?_)
  · exact x_return d_PP_print_485 rfl (x_YEi _ ⟨rfl, S, n, Wk, Nx, Sn, Or.inr ⟨hS, hZ⟩, rfl⟩ (fun _ _ => rfl))
  · refine x_aload_n d_PP_print_37 rfl rfl ?_
    refine x_get d_PP_print_38 f_PP_29 (Nat.le_of_ble_eq_true rfl) (Nat.le_of_ble_eq_true rfl) (by first | rfl | assumption) (by rfl) ?_
    refine x_if_ne 485 d_PP_print_41 (by decide) (fun _ => ?_) (fun z => absurd z (g_ov1 hS))
    exact x_return d_PP_print_485 rfl (x_YEi _ ⟨rfl, S, n, Wk, Nx, Sn, Or.inr ⟨hS, hZ⟩, rfl⟩ (fun _ _ => rfl))
set_option maxRecDepth 20000 in
theorem w_PP_exit {E : xR} {h : xH} {P0 : Nat → Int32} {Z : List Int32} {n : Nat} {Wk Nx : Nat → Int32} : g_PLp E h P0 (g_PPQ h P0 Z) 0 Z n Wk Nx := by
  intro Sn hSn
  refine x_iload d_PP_print_32 rfl ?_
  refine x_if_lt 485 d_PP_print_34 (by decide) (fun _ => ?_) (fun z => absurd (by decide) z)
  exact x_return d_PP_print_485 rfl (x_YEi _ ⟨rfl, Z, n, Wk, Nx, Sn, Or.inl rfl, rfl⟩ (fun _ _ => rfl))
