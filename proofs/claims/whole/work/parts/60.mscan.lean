theorem g_TOi {u : Nat → Nat} {N p k f t b l : Nat} {bh : Int32} {nm : Int64} {Wd : Nat → Int32} (hT : g_tk (g_at u N) N p = (k, f, t, b)) (hl : l ≤ 4096) (h1 : k ≠ 12 → bh = nI b) (h2 : k = 1 ∨ k = 3 → l = (g_ut u f t).length ∧ g_wx Wd (g_ut u f t)) (h3 : k = 2 → nm = lN (g_iv u N p)) : g_TO u N p bh (nI l) nm Wd ∧ g_ky (g_at u N) N p = k := by
  have e1 : g_ky (g_at u N) N p = k := by unfold g_ky; rw [hT]
  have e2 : g_fr (g_at u N) N p = f := by unfold g_fr; rw [hT]
  have e3 : g_to (g_at u N) N p = t := by unfold g_to; rw [hT]
  have e4 : g_bh (g_at u N) N p = b := by unfold g_bh; rw [hT]
  refine ⟨⟨⟨l, hl, rfl⟩, ?_, ?_, ?_⟩, e1⟩
  · rw [e1, e4]; exact h1
  · rw [e1, e2, e3]; exact fun q => ⟨by rw [(h2 q).1], (h2 q).2⟩
  · rw [e1]; exact h3
/-- the reader at the sign at p -/
def g_SQ (u : Nat → Nat) (N p : Nat) (h : xH) (oo tp pl vd kn rk : Int32) : Option Value → xH → Prop := fun v h1 => v = none ∧ ∃ (bh lt : Int32) (nm : Int64) (Wd : Nat → Int32), g_TO u N p bh lt nm Wd ∧ h1 = g_rw h N (nI p) bh (nI (g_ky (g_at u N) N p)) oo nm lt tp pl vd kn rk Wd
theorem g_SQi {u : Nat → Nat} {N p k f t b l : Nat} {h : xH} {oo tp pl vd kn rk bh : Int32} {nm : Int64} {Wd : Nat → Int32} {h' : xH} (hT : g_tk (g_at u N) N p = (k, f, t, b)) (hl : l ≤ 4096) (h1 : k ≠ 12 → bh = nI b) (h2 : k = 1 ∨ k = 3 → l = (g_ut u f t).length ∧ g_wx Wd (g_ut u f t)) (h3 : k = 2 → nm = lN (g_iv u N p)) (e : ∀ i, i < 52 → h' i = g_rw h N (nI p) bh (nI k) oo nm (nI l) tp pl vd kn rk Wd i) : x_YE (g_SQ u N p h oo tp pl vd kn rk) (.inl none) 52 h' 0 0 := by
  obtain ⟨a, b⟩ := g_TOi hT hl h1 h2 h3
  exact x_YEi _ ⟨rfl, bh, nI l, nm, Wd, a, rfl⟩ (by rw [b]; exact e)
theorem d_RD_sign_0 : decode M_RD_sign.2.1 0 = .ok (.iload_n 1, 1) := by decide +kernel
theorem d_RD_sign_1 : decode M_RD_sign.2.1 1 = .ok (.lookupswitch 269 #[(33, 91), (40, 110), (41, 124), (44, 239), (59, 91), (91, 138), (93, 194), (123, 209), (124, 254), (125, 224)], 91) := by decide +kernel
theorem d_RD_sign_92 : decode M_RD_sign.2.1 92 = .ok (.aload_n 0, 1) := by decide +kernel
theorem d_RD_sign_93 : decode M_RD_sign.2.1 93 = .ok (.iload_n 1, 1) := by decide +kernel
theorem d_RD_sign_94 : decode M_RD_sign.2.1 94 = .ok (.invokevirtual 154, 3) := by decide +kernel
theorem d_RD_sign_97 : decode M_RD_sign.2.1 97 = .ok (.aload_n 0, 1) := by decide +kernel
theorem d_RD_sign_98 : decode M_RD_sign.2.1 98 = .ok (.iconst 3, 1) := by decide +kernel
theorem d_RD_sign_99 : decode M_RD_sign.2.1 99 = .ok (.aload_n 0, 1) := by decide +kernel
theorem d_RD_sign_100 : decode M_RD_sign.2.1 100 = .ok (.getfield 116, 3) := by decide +kernel
theorem d_RD_sign_103 : decode M_RD_sign.2.1 103 = .ok (.iconst 1, 1) := by decide +kernel
theorem d_RD_sign_104 : decode M_RD_sign.2.1 104 = .ok (.iadd, 1) := by decide +kernel
theorem d_RD_sign_105 : decode M_RD_sign.2.1 105 = .ok (.invokevirtual 158, 3) := by decide +kernel
theorem d_RD_sign_108 : decode M_RD_sign.2.1 108 = .ok (.goto 174, 3) := by decide +kernel
theorem d_RD_sign_111 : decode M_RD_sign.2.1 111 = .ok (.aload_n 0, 1) := by decide +kernel
theorem d_RD_sign_112 : decode M_RD_sign.2.1 112 = .ok (.iconst 4, 1) := by decide +kernel
theorem d_RD_sign_113 : decode M_RD_sign.2.1 113 = .ok (.aload_n 0, 1) := by decide +kernel
theorem d_RD_sign_114 : decode M_RD_sign.2.1 114 = .ok (.getfield 116, 3) := by decide +kernel
theorem d_RD_sign_117 : decode M_RD_sign.2.1 117 = .ok (.iconst 1, 1) := by decide +kernel
theorem d_RD_sign_118 : decode M_RD_sign.2.1 118 = .ok (.iadd, 1) := by decide +kernel
theorem d_RD_sign_119 : decode M_RD_sign.2.1 119 = .ok (.invokevirtual 158, 3) := by decide +kernel
theorem d_RD_sign_122 : decode M_RD_sign.2.1 122 = .ok (.goto 160, 3) := by decide +kernel
theorem d_RD_sign_125 : decode M_RD_sign.2.1 125 = .ok (.aload_n 0, 1) := by decide +kernel
theorem d_RD_sign_126 : decode M_RD_sign.2.1 126 = .ok (.iconst 5, 1) := by decide +kernel
theorem d_RD_sign_127 : decode M_RD_sign.2.1 127 = .ok (.aload_n 0, 1) := by decide +kernel
theorem d_RD_sign_128 : decode M_RD_sign.2.1 128 = .ok (.getfield 116, 3) := by decide +kernel
theorem d_RD_sign_131 : decode M_RD_sign.2.1 131 = .ok (.iconst 1, 1) := by decide +kernel
theorem d_RD_sign_132 : decode M_RD_sign.2.1 132 = .ok (.iadd, 1) := by decide +kernel
theorem d_RD_sign_133 : decode M_RD_sign.2.1 133 = .ok (.invokevirtual 158, 3) := by decide +kernel
theorem d_RD_sign_136 : decode M_RD_sign.2.1 136 = .ok (.goto 146, 3) := by decide +kernel
theorem d_RD_sign_139 : decode M_RD_sign.2.1 139 = .ok (.aload_n 0, 1) := by decide +kernel
theorem d_RD_sign_140 : decode M_RD_sign.2.1 140 = .ok (.aload_n 0, 1) := by decide +kernel
theorem d_RD_sign_141 : decode M_RD_sign.2.1 141 = .ok (.getfield 116, 3) := by decide +kernel
theorem d_RD_sign_144 : decode M_RD_sign.2.1 144 = .ok (.iconst 1, 1) := by decide +kernel
theorem d_RD_sign_145 : decode M_RD_sign.2.1 145 = .ok (.iadd, 1) := by decide +kernel
theorem d_RD_sign_146 : decode M_RD_sign.2.1 146 = .ok (.invokevirtual 148, 3) := by decide +kernel
theorem d_RD_sign_149 : decode M_RD_sign.2.1 149 = .ok (.bipush 93, 2) := by decide +kernel
theorem d_RD_sign_151 : decode M_RD_sign.2.1 151 = .ok (.if_icmp .ne 29, 3) := by decide +kernel
theorem d_RD_sign_154 : decode M_RD_sign.2.1 154 = .ok (.aload_n 0, 1) := by decide +kernel
theorem d_RD_sign_155 : decode M_RD_sign.2.1 155 = .ok (.bipush 91, 2) := by decide +kernel
theorem d_RD_sign_157 : decode M_RD_sign.2.1 157 = .ok (.invokevirtual 154, 3) := by decide +kernel
theorem d_RD_sign_160 : decode M_RD_sign.2.1 160 = .ok (.aload_n 0, 1) := by decide +kernel
theorem d_RD_sign_161 : decode M_RD_sign.2.1 161 = .ok (.bipush 93, 2) := by decide +kernel
theorem d_RD_sign_163 : decode M_RD_sign.2.1 163 = .ok (.invokevirtual 154, 3) := by decide +kernel
theorem d_RD_sign_166 : decode M_RD_sign.2.1 166 = .ok (.aload_n 0, 1) := by decide +kernel
theorem d_RD_sign_167 : decode M_RD_sign.2.1 167 = .ok (.iconst 3, 1) := by decide +kernel
theorem d_RD_sign_168 : decode M_RD_sign.2.1 168 = .ok (.aload_n 0, 1) := by decide +kernel
theorem d_RD_sign_169 : decode M_RD_sign.2.1 169 = .ok (.getfield 116, 3) := by decide +kernel
theorem d_RD_sign_172 : decode M_RD_sign.2.1 172 = .ok (.iconst 2, 1) := by decide +kernel
theorem d_RD_sign_173 : decode M_RD_sign.2.1 173 = .ok (.iadd, 1) := by decide +kernel
theorem d_RD_sign_174 : decode M_RD_sign.2.1 174 = .ok (.invokevirtual 158, 3) := by decide +kernel
theorem d_RD_sign_177 : decode M_RD_sign.2.1 177 = .ok (.goto 105, 3) := by decide +kernel
theorem d_RD_sign_180 : decode M_RD_sign.2.1 180 = .ok (.aload_n 0, 1) := by decide +kernel
theorem d_RD_sign_181 : decode M_RD_sign.2.1 181 = .ok (.bipush 6, 2) := by decide +kernel
theorem d_RD_sign_183 : decode M_RD_sign.2.1 183 = .ok (.aload_n 0, 1) := by decide +kernel
theorem d_RD_sign_184 : decode M_RD_sign.2.1 184 = .ok (.getfield 116, 3) := by decide +kernel
theorem d_RD_sign_187 : decode M_RD_sign.2.1 187 = .ok (.iconst 1, 1) := by decide +kernel
theorem d_RD_sign_188 : decode M_RD_sign.2.1 188 = .ok (.iadd, 1) := by decide +kernel
theorem d_RD_sign_189 : decode M_RD_sign.2.1 189 = .ok (.invokevirtual 158, 3) := by decide +kernel
theorem d_RD_sign_192 : decode M_RD_sign.2.1 192 = .ok (.goto 90, 3) := by decide +kernel
theorem d_RD_sign_195 : decode M_RD_sign.2.1 195 = .ok (.aload_n 0, 1) := by decide +kernel
theorem d_RD_sign_196 : decode M_RD_sign.2.1 196 = .ok (.bipush 7, 2) := by decide +kernel
theorem d_RD_sign_198 : decode M_RD_sign.2.1 198 = .ok (.aload_n 0, 1) := by decide +kernel
theorem d_RD_sign_199 : decode M_RD_sign.2.1 199 = .ok (.getfield 116, 3) := by decide +kernel
theorem d_RD_sign_202 : decode M_RD_sign.2.1 202 = .ok (.iconst 1, 1) := by decide +kernel
theorem d_RD_sign_203 : decode M_RD_sign.2.1 203 = .ok (.iadd, 1) := by decide +kernel
theorem d_RD_sign_204 : decode M_RD_sign.2.1 204 = .ok (.invokevirtual 158, 3) := by decide +kernel
theorem d_RD_sign_207 : decode M_RD_sign.2.1 207 = .ok (.goto 75, 3) := by decide +kernel
theorem d_RD_sign_210 : decode M_RD_sign.2.1 210 = .ok (.aload_n 0, 1) := by decide +kernel
theorem d_RD_sign_211 : decode M_RD_sign.2.1 211 = .ok (.bipush 8, 2) := by decide +kernel
theorem d_RD_sign_213 : decode M_RD_sign.2.1 213 = .ok (.aload_n 0, 1) := by decide +kernel
theorem d_RD_sign_214 : decode M_RD_sign.2.1 214 = .ok (.getfield 116, 3) := by decide +kernel
theorem d_RD_sign_217 : decode M_RD_sign.2.1 217 = .ok (.iconst 1, 1) := by decide +kernel
theorem d_RD_sign_218 : decode M_RD_sign.2.1 218 = .ok (.iadd, 1) := by decide +kernel
theorem d_RD_sign_219 : decode M_RD_sign.2.1 219 = .ok (.invokevirtual 158, 3) := by decide +kernel
theorem d_RD_sign_222 : decode M_RD_sign.2.1 222 = .ok (.goto 60, 3) := by decide +kernel
theorem d_RD_sign_225 : decode M_RD_sign.2.1 225 = .ok (.aload_n 0, 1) := by decide +kernel
theorem d_RD_sign_226 : decode M_RD_sign.2.1 226 = .ok (.bipush 9, 2) := by decide +kernel
theorem d_RD_sign_228 : decode M_RD_sign.2.1 228 = .ok (.aload_n 0, 1) := by decide +kernel
theorem d_RD_sign_229 : decode M_RD_sign.2.1 229 = .ok (.getfield 116, 3) := by decide +kernel
theorem d_RD_sign_232 : decode M_RD_sign.2.1 232 = .ok (.iconst 1, 1) := by decide +kernel
theorem d_RD_sign_233 : decode M_RD_sign.2.1 233 = .ok (.iadd, 1) := by decide +kernel
theorem d_RD_sign_234 : decode M_RD_sign.2.1 234 = .ok (.invokevirtual 158, 3) := by decide +kernel
theorem d_RD_sign_237 : decode M_RD_sign.2.1 237 = .ok (.goto 45, 3) := by decide +kernel
theorem d_RD_sign_240 : decode M_RD_sign.2.1 240 = .ok (.aload_n 0, 1) := by decide +kernel
theorem d_RD_sign_241 : decode M_RD_sign.2.1 241 = .ok (.bipush 10, 2) := by decide +kernel
theorem d_RD_sign_243 : decode M_RD_sign.2.1 243 = .ok (.aload_n 0, 1) := by decide +kernel
theorem d_RD_sign_244 : decode M_RD_sign.2.1 244 = .ok (.getfield 116, 3) := by decide +kernel
theorem d_RD_sign_247 : decode M_RD_sign.2.1 247 = .ok (.iconst 1, 1) := by decide +kernel
theorem d_RD_sign_248 : decode M_RD_sign.2.1 248 = .ok (.iadd, 1) := by decide +kernel
theorem d_RD_sign_249 : decode M_RD_sign.2.1 249 = .ok (.invokevirtual 158, 3) := by decide +kernel
theorem d_RD_sign_252 : decode M_RD_sign.2.1 252 = .ok (.goto 30, 3) := by decide +kernel
theorem d_RD_sign_255 : decode M_RD_sign.2.1 255 = .ok (.aload_n 0, 1) := by decide +kernel
theorem d_RD_sign_256 : decode M_RD_sign.2.1 256 = .ok (.bipush 11, 2) := by decide +kernel
theorem d_RD_sign_258 : decode M_RD_sign.2.1 258 = .ok (.aload_n 0, 1) := by decide +kernel
theorem d_RD_sign_259 : decode M_RD_sign.2.1 259 = .ok (.getfield 116, 3) := by decide +kernel
theorem d_RD_sign_262 : decode M_RD_sign.2.1 262 = .ok (.iconst 1, 1) := by decide +kernel
theorem d_RD_sign_263 : decode M_RD_sign.2.1 263 = .ok (.iadd, 1) := by decide +kernel
theorem d_RD_sign_264 : decode M_RD_sign.2.1 264 = .ok (.invokevirtual 158, 3) := by decide +kernel
theorem d_RD_sign_267 : decode M_RD_sign.2.1 267 = .ok (.goto 15, 3) := by decide +kernel
theorem d_RD_sign_270 : decode M_RD_sign.2.1 270 = .ok (.aload_n 0, 1) := by decide +kernel
theorem d_RD_sign_271 : decode M_RD_sign.2.1 271 = .ok (.bipush 12, 2) := by decide +kernel
theorem d_RD_sign_273 : decode M_RD_sign.2.1 273 = .ok (.aload_n 0, 1) := by decide +kernel
theorem d_RD_sign_274 : decode M_RD_sign.2.1 274 = .ok (.getfield 116, 3) := by decide +kernel
theorem d_RD_sign_277 : decode M_RD_sign.2.1 277 = .ok (.iconst 1, 1) := by decide +kernel
theorem d_RD_sign_278 : decode M_RD_sign.2.1 278 = .ok (.iadd, 1) := by decide +kernel
theorem d_RD_sign_279 : decode M_RD_sign.2.1 279 = .ok (.invokevirtual 158, 3) := by decide +kernel
theorem d_RD_sign_282 : decode M_RD_sign.2.1 282 = .ok (.return_, 1) := by decide +kernel
set_option maxRecDepth 20000 in
theorem w_RD_sign {E : xR} {h : xH} {u : Nat → Nat} {N : Nat} {bh tk oo tp pl vd kn rk : Int32} {nm : Int64} {Wd : Nat → Int32} {p : Nat} {c : Int32} (h22 : h 22 = .inl (1, 4096, .inl (fun i => g_sb (u i)))) (hu : ∀ i, u i < 256) (hN : N ≤ 4096) (hp : p < N) : x_Mt E M_RD_sign 1 0 0 [.ref 36, .int c] 52 (g_rw h N (nI p) bh tk oo nm (nI 0) tp pl vd kn rk Wd) (x_YE (g_LP h N (nI p) (nI (bif (decide (c = 91) && decide (g_at u N (p + 1) = 93)) then p + 2 else p + 1)) (nI (bif (decide (c = 91) && decide (g_at u N (p + 1) = 93)) then 3 else g_solo c)) oo nm tp pl vd kn rk (bif (decide (c = 91) && decide (g_at u N (p + 1) = 93)) then some [91, 93] else bif decide (g_solo c = 3) then some [c] else none))) := by
  refine x_Mt.of (by decide) (Nat.le_of_ble_eq_true rfl) ?_
  show x_W E M_RD_sign _ _ 52 (g_rw h N (nI p) bh tk oo nm (nI 0) tp pl vd kn rk Wd) 0 [(0, .ref 36), (1, .int c)] [] 0 0
  refine x_iload_n d_RD_sign_0 rfl rfl ?_
  by_cases c33 : c = 33
  · subst c33
    refine x_lsw 92 d_RD_sign_1 (by decide) rfl (by decide) ?_
    refine x_aload_n d_RD_sign_92 rfl rfl ?_
    refine x_iload_n d_RD_sign_93 rfl rfl ?_
    refine x_callV1Y d_RD_sign_94 k_RD_154 (Nat.le_of_ble_eq_true rfl) (Nat.le_of_ble_eq_true rfl) (by first | rfl | assumption) (by rfl) (w_RD_letter (L := 0) (by decide) (by decide)) (Nat.le_of_ble_eq_true rfl) (Nat.le_of_ble_eq_true rfl) (Nat.le_of_ble_eq_true rfl) (Nat.le_of_ble_eq_true rfl) (Nat.le_of_ble_eq_true rfl) rfl ?_
    refine x_aload_n d_RD_sign_97 rfl rfl ?_
    refine x_iconst 3 d_RD_sign_98 (by decide) ?_
    refine x_aload_n d_RD_sign_99 rfl rfl ?_
    refine x_get d_RD_sign_100 f_RD_116 (Nat.le_of_ble_eq_true rfl) (Nat.le_of_ble_eq_true rfl) (by first | rfl | assumption) (by rfl) ?_
    refine x_iconst 1 d_RD_sign_103 (by decide) ?_
    refine x_iadd d_RD_sign_104 ?_
    refine x_topi (nI (p + 1)) (nI_succ p).symm ?_
    refine x_callV2Y d_RD_sign_105 k_RD_158 (Nat.le_of_ble_eq_true rfl) (Nat.le_of_ble_eq_true rfl) (by first | rfl | assumption) (by rfl) w_RD_take (Nat.le_of_ble_eq_true rfl) (Nat.le_of_ble_eq_true rfl) (Nat.le_of_ble_eq_true rfl) (Nat.le_of_ble_eq_true rfl) (Nat.le_of_ble_eq_true rfl) rfl ?_
    refine x_goto 282 d_RD_sign_108 (by decide) ?_
    exact x_return d_RD_sign_282 rfl (x_YEi _ ⟨rfl, 1, upd Wd 0 33, by decide, fun x hx => by (have hx : some [(33 : Int32)] = some x := hx); cases hx; exact ⟨rfl, fun k hk => by obtain rfl : k = 0 := Nat.lt_one_iff.mp hk; exact g_updY⟩, rfl⟩ (fun _ _ => rfl))
  by_cases c40 : c = 40
  · subst c40
    refine x_lsw 111 d_RD_sign_1 (by decide) rfl (by decide) ?_
    refine x_aload_n d_RD_sign_111 rfl rfl ?_
    refine x_iconst 4 d_RD_sign_112 (by decide) ?_
    refine x_aload_n d_RD_sign_113 rfl rfl ?_
    refine x_get d_RD_sign_114 f_RD_116 (Nat.le_of_ble_eq_true rfl) (Nat.le_of_ble_eq_true rfl) (by first | rfl | assumption) (by rfl) ?_
    refine x_iconst 1 d_RD_sign_117 (by decide) ?_
    refine x_iadd d_RD_sign_118 ?_
    refine x_topi (nI (p + 1)) (nI_succ p).symm ?_
    refine x_callV2Y d_RD_sign_119 k_RD_158 (Nat.le_of_ble_eq_true rfl) (Nat.le_of_ble_eq_true rfl) (by first | rfl | assumption) (by rfl) w_RD_take (Nat.le_of_ble_eq_true rfl) (Nat.le_of_ble_eq_true rfl) (Nat.le_of_ble_eq_true rfl) (Nat.le_of_ble_eq_true rfl) (Nat.le_of_ble_eq_true rfl) rfl ?_
    refine x_goto 282 d_RD_sign_122 (by decide) ?_
    exact x_return d_RD_sign_282 rfl (x_YEi _ ⟨rfl, 0, Wd, by decide, fun x hx => (by cases hx), rfl⟩ (fun _ _ => rfl))
  by_cases c41 : c = 41
  · subst c41
    refine x_lsw 125 d_RD_sign_1 (by decide) rfl (by decide) ?_
    refine x_aload_n d_RD_sign_125 rfl rfl ?_
    refine x_iconst 5 d_RD_sign_126 (by decide) ?_
    refine x_aload_n d_RD_sign_127 rfl rfl ?_
    refine x_get d_RD_sign_128 f_RD_116 (Nat.le_of_ble_eq_true rfl) (Nat.le_of_ble_eq_true rfl) (by first | rfl | assumption) (by rfl) ?_
    refine x_iconst 1 d_RD_sign_131 (by decide) ?_
    refine x_iadd d_RD_sign_132 ?_
    refine x_topi (nI (p + 1)) (nI_succ p).symm ?_
    refine x_callV2Y d_RD_sign_133 k_RD_158 (Nat.le_of_ble_eq_true rfl) (Nat.le_of_ble_eq_true rfl) (by first | rfl | assumption) (by rfl) w_RD_take (Nat.le_of_ble_eq_true rfl) (Nat.le_of_ble_eq_true rfl) (Nat.le_of_ble_eq_true rfl) (Nat.le_of_ble_eq_true rfl) (Nat.le_of_ble_eq_true rfl) rfl ?_
    refine x_goto 282 d_RD_sign_136 (by decide) ?_
    exact x_return d_RD_sign_282 rfl (x_YEi _ ⟨rfl, 0, Wd, by decide, fun x hx => (by cases hx), rfl⟩ (fun _ _ => rfl))
  by_cases c44 : c = 44
  · subst c44
    refine x_lsw 240 d_RD_sign_1 (by decide) rfl (by decide) ?_
    refine x_aload_n d_RD_sign_240 rfl rfl ?_
    refine x_bipush 10 d_RD_sign_241 (by decide) ?_
    refine x_aload_n d_RD_sign_243 rfl rfl ?_
    refine x_get d_RD_sign_244 f_RD_116 (Nat.le_of_ble_eq_true rfl) (Nat.le_of_ble_eq_true rfl) (by first | rfl | assumption) (by rfl) ?_
    refine x_iconst 1 d_RD_sign_247 (by decide) ?_
    refine x_iadd d_RD_sign_248 ?_
    refine x_topi (nI (p + 1)) (nI_succ p).symm ?_
    refine x_callV2Y d_RD_sign_249 k_RD_158 (Nat.le_of_ble_eq_true rfl) (Nat.le_of_ble_eq_true rfl) (by first | rfl | assumption) (by rfl) w_RD_take (Nat.le_of_ble_eq_true rfl) (Nat.le_of_ble_eq_true rfl) (Nat.le_of_ble_eq_true rfl) (Nat.le_of_ble_eq_true rfl) (Nat.le_of_ble_eq_true rfl) rfl ?_
    refine x_goto 282 d_RD_sign_252 (by decide) ?_
    exact x_return d_RD_sign_282 rfl (x_YEi _ ⟨rfl, 0, Wd, by decide, fun x hx => (by cases hx), rfl⟩ (fun _ _ => rfl))
  by_cases c59 : c = 59
  · subst c59
    refine x_lsw 92 d_RD_sign_1 (by decide) rfl (by decide) ?_
    refine x_aload_n d_RD_sign_92 rfl rfl ?_
    refine x_iload_n d_RD_sign_93 rfl rfl ?_
    refine x_callV1Y d_RD_sign_94 k_RD_154 (Nat.le_of_ble_eq_true rfl) (Nat.le_of_ble_eq_true rfl) (by first | rfl | assumption) (by rfl) (w_RD_letter (L := 0) (by decide) (by decide)) (Nat.le_of_ble_eq_true rfl) (Nat.le_of_ble_eq_true rfl) (Nat.le_of_ble_eq_true rfl) (Nat.le_of_ble_eq_true rfl) (Nat.le_of_ble_eq_true rfl) rfl ?_
    refine x_aload_n d_RD_sign_97 rfl rfl ?_
    refine x_iconst 3 d_RD_sign_98 (by decide) ?_
    refine x_aload_n d_RD_sign_99 rfl rfl ?_
    refine x_get d_RD_sign_100 f_RD_116 (Nat.le_of_ble_eq_true rfl) (Nat.le_of_ble_eq_true rfl) (by first | rfl | assumption) (by rfl) ?_
    refine x_iconst 1 d_RD_sign_103 (by decide) ?_
    refine x_iadd d_RD_sign_104 ?_
    refine x_topi (nI (p + 1)) (nI_succ p).symm ?_
    refine x_callV2Y d_RD_sign_105 k_RD_158 (Nat.le_of_ble_eq_true rfl) (Nat.le_of_ble_eq_true rfl) (by first | rfl | assumption) (by rfl) w_RD_take (Nat.le_of_ble_eq_true rfl) (Nat.le_of_ble_eq_true rfl) (Nat.le_of_ble_eq_true rfl) (Nat.le_of_ble_eq_true rfl) (Nat.le_of_ble_eq_true rfl) rfl ?_
    refine x_goto 282 d_RD_sign_108 (by decide) ?_
    exact x_return d_RD_sign_282 rfl (x_YEi _ ⟨rfl, 1, upd Wd 0 59, by decide, fun x hx => by (have hx : some [(59 : Int32)] = some x := hx); cases hx; exact ⟨rfl, fun k hk => by obtain rfl : k = 0 := Nat.lt_one_iff.mp hk; exact g_updY⟩, rfl⟩ (fun _ _ => rfl))
  by_cases c91 : c = 91
  · subst c91
    refine x_lsw 139 d_RD_sign_1 (by decide) rfl (by decide) ?_
    refine x_aload_n d_RD_sign_139 rfl rfl ?_
    refine x_aload_n d_RD_sign_140 rfl rfl ?_
    refine x_get d_RD_sign_141 f_RD_116 (Nat.le_of_ble_eq_true rfl) (Nat.le_of_ble_eq_true rfl) (by first | rfl | assumption) (by rfl) ?_
    refine x_iconst 1 d_RD_sign_144 (by decide) ?_
    refine x_iadd d_RD_sign_145 ?_
    refine x_topi (nI (p + 1)) (nI_succ p).symm ?_
    refine x_callV1Y d_RD_sign_146 k_RD_148 (Nat.le_of_ble_eq_true rfl) (Nat.le_of_ble_eq_true rfl) (by first | rfl | assumption) (by rfl) (w_RD_look h22 hN (by omega)) (Nat.le_of_ble_eq_true rfl) (Nat.le_of_ble_eq_true rfl) (Nat.le_of_ble_eq_true rfl) (Nat.le_of_ble_eq_true rfl) (Nat.le_of_ble_eq_true rfl) rfl ?_
    refine x_bipush 93 d_RD_sign_149 (by decide) ?_
    refine x_icmp_ne 180 d_RD_sign_151 (by decide) (fun c_151 => ?_) (fun c_151 => ?_)
    · refine x_aload_n d_RD_sign_180 rfl rfl ?_
      refine x_bipush 6 d_RD_sign_181 (by decide) ?_
      refine x_aload_n d_RD_sign_183 rfl rfl ?_
      refine x_get d_RD_sign_184 f_RD_116 (Nat.le_of_ble_eq_true rfl) (Nat.le_of_ble_eq_true rfl) (by first | rfl | assumption) (by rfl) ?_
      refine x_iconst 1 d_RD_sign_187 (by decide) ?_
      refine x_iadd d_RD_sign_188 ?_
      refine x_topi (nI (p + 1)) (nI_succ p).symm ?_
      refine x_callV2Y d_RD_sign_189 k_RD_158 (Nat.le_of_ble_eq_true rfl) (Nat.le_of_ble_eq_true rfl) (by first | rfl | assumption) (by rfl) w_RD_take (Nat.le_of_ble_eq_true rfl) (Nat.le_of_ble_eq_true rfl) (Nat.le_of_ble_eq_true rfl) (Nat.le_of_ble_eq_true rfl) (Nat.le_of_ble_eq_true rfl) rfl ?_
      refine x_goto 282 d_RD_sign_192 (by decide) ?_
      exact x_return d_RD_sign_282 rfl (x_YEi _ ⟨rfl, 0, Wd, by decide, fun x hx => (by rw [decide_eq_false (fun z => c_151 ((g_loE hu (by decide)).mpr z))] at hx; cases hx), rfl⟩ (fun _ _ => by rw [decide_eq_false (fun z => c_151 ((g_loE hu (by decide)).mpr z))]; rfl))
    · refine x_aload_n d_RD_sign_154 rfl rfl ?_
      refine x_bipush 91 d_RD_sign_155 (by decide) ?_
      refine x_callV1Y d_RD_sign_157 k_RD_154 (Nat.le_of_ble_eq_true rfl) (Nat.le_of_ble_eq_true rfl) (by first | rfl | assumption) (by rfl) (w_RD_letter (L := 0) (by decide) (by decide)) (Nat.le_of_ble_eq_true rfl) (Nat.le_of_ble_eq_true rfl) (Nat.le_of_ble_eq_true rfl) (Nat.le_of_ble_eq_true rfl) (Nat.le_of_ble_eq_true rfl) rfl ?_
      refine x_aload_n d_RD_sign_160 rfl rfl ?_
      refine x_bipush 93 d_RD_sign_161 (by decide) ?_
      refine x_callV1Y d_RD_sign_163 k_RD_154 (Nat.le_of_ble_eq_true rfl) (Nat.le_of_ble_eq_true rfl) (by first | rfl | assumption) (by rfl) (w_RD_letter (L := 1) (by decide) (by decide)) (Nat.le_of_ble_eq_true rfl) (Nat.le_of_ble_eq_true rfl) (Nat.le_of_ble_eq_true rfl) (Nat.le_of_ble_eq_true rfl) (Nat.le_of_ble_eq_true rfl) rfl ?_
      refine x_aload_n d_RD_sign_166 rfl rfl ?_
      refine x_iconst 3 d_RD_sign_167 (by decide) ?_
      refine x_aload_n d_RD_sign_168 rfl rfl ?_
      refine x_get d_RD_sign_169 f_RD_116 (Nat.le_of_ble_eq_true rfl) (Nat.le_of_ble_eq_true rfl) (by first | rfl | assumption) (by rfl) ?_
      refine x_iconst 2 d_RD_sign_172 (by decide) ?_
      refine x_iadd d_RD_sign_173 ?_
      refine x_topi (nI (p + 2)) (nI_add p 2) ?_
      refine x_callV2Y d_RD_sign_174 k_RD_158 (Nat.le_of_ble_eq_true rfl) (Nat.le_of_ble_eq_true rfl) (by first | rfl | assumption) (by rfl) w_RD_take (Nat.le_of_ble_eq_true rfl) (Nat.le_of_ble_eq_true rfl) (Nat.le_of_ble_eq_true rfl) (Nat.le_of_ble_eq_true rfl) (Nat.le_of_ble_eq_true rfl) rfl ?_
      refine x_goto 282 d_RD_sign_177 (by decide) ?_
      exact x_return d_RD_sign_282 rfl (x_YEi _ ⟨rfl, 2, upd (upd Wd 0 91) 1 93, by decide, fun x hx => by rw [decide_eq_true ((g_loE hu (by decide)).mp c_151)] at hx; (have hx : some [(91 : Int32), 93] = some x := hx); cases hx; exact ⟨rfl, fun k hk => by rcases (show k = 0 ∨ k = 1 by (have hk : k < 2 := hk); omega) with rfl | rfl <;> first | exact g_updY | (rw [g_updN (by decide)]; exact g_updY)⟩, rfl⟩ (fun _ _ => by rw [decide_eq_true ((g_loE hu (by decide)).mp c_151)]; rfl))
  by_cases c93 : c = 93
  · subst c93
    refine x_lsw 195 d_RD_sign_1 (by decide) rfl (by decide) ?_
    refine x_aload_n d_RD_sign_195 rfl rfl ?_
    refine x_bipush 7 d_RD_sign_196 (by decide) ?_
    refine x_aload_n d_RD_sign_198 rfl rfl ?_
    refine x_get d_RD_sign_199 f_RD_116 (Nat.le_of_ble_eq_true rfl) (Nat.le_of_ble_eq_true rfl) (by first | rfl | assumption) (by rfl) ?_
    refine x_iconst 1 d_RD_sign_202 (by decide) ?_
    refine x_iadd d_RD_sign_203 ?_
    refine x_topi (nI (p + 1)) (nI_succ p).symm ?_
    refine x_callV2Y d_RD_sign_204 k_RD_158 (Nat.le_of_ble_eq_true rfl) (Nat.le_of_ble_eq_true rfl) (by first | rfl | assumption) (by rfl) w_RD_take (Nat.le_of_ble_eq_true rfl) (Nat.le_of_ble_eq_true rfl) (Nat.le_of_ble_eq_true rfl) (Nat.le_of_ble_eq_true rfl) (Nat.le_of_ble_eq_true rfl) rfl ?_
    refine x_goto 282 d_RD_sign_207 (by decide) ?_
    exact x_return d_RD_sign_282 rfl (x_YEi _ ⟨rfl, 0, Wd, by decide, fun x hx => (by cases hx), rfl⟩ (fun _ _ => rfl))
  by_cases c123 : c = 123
  · subst c123
    refine x_lsw 210 d_RD_sign_1 (by decide) rfl (by decide) ?_
    refine x_aload_n d_RD_sign_210 rfl rfl ?_
    refine x_bipush 8 d_RD_sign_211 (by decide) ?_
    refine x_aload_n d_RD_sign_213 rfl rfl ?_
    refine x_get d_RD_sign_214 f_RD_116 (Nat.le_of_ble_eq_true rfl) (Nat.le_of_ble_eq_true rfl) (by first | rfl | assumption) (by rfl) ?_
    refine x_iconst 1 d_RD_sign_217 (by decide) ?_
    refine x_iadd d_RD_sign_218 ?_
    refine x_topi (nI (p + 1)) (nI_succ p).symm ?_
    refine x_callV2Y d_RD_sign_219 k_RD_158 (Nat.le_of_ble_eq_true rfl) (Nat.le_of_ble_eq_true rfl) (by first | rfl | assumption) (by rfl) w_RD_take (Nat.le_of_ble_eq_true rfl) (Nat.le_of_ble_eq_true rfl) (Nat.le_of_ble_eq_true rfl) (Nat.le_of_ble_eq_true rfl) (Nat.le_of_ble_eq_true rfl) rfl ?_
    refine x_goto 282 d_RD_sign_222 (by decide) ?_
    exact x_return d_RD_sign_282 rfl (x_YEi _ ⟨rfl, 0, Wd, by decide, fun x hx => (by cases hx), rfl⟩ (fun _ _ => rfl))
  by_cases c124 : c = 124
  · subst c124
    refine x_lsw 255 d_RD_sign_1 (by decide) rfl (by decide) ?_
    refine x_aload_n d_RD_sign_255 rfl rfl ?_
    refine x_bipush 11 d_RD_sign_256 (by decide) ?_
    refine x_aload_n d_RD_sign_258 rfl rfl ?_
    refine x_get d_RD_sign_259 f_RD_116 (Nat.le_of_ble_eq_true rfl) (Nat.le_of_ble_eq_true rfl) (by first | rfl | assumption) (by rfl) ?_
    refine x_iconst 1 d_RD_sign_262 (by decide) ?_
    refine x_iadd d_RD_sign_263 ?_
    refine x_topi (nI (p + 1)) (nI_succ p).symm ?_
    refine x_callV2Y d_RD_sign_264 k_RD_158 (Nat.le_of_ble_eq_true rfl) (Nat.le_of_ble_eq_true rfl) (by first | rfl | assumption) (by rfl) w_RD_take (Nat.le_of_ble_eq_true rfl) (Nat.le_of_ble_eq_true rfl) (Nat.le_of_ble_eq_true rfl) (Nat.le_of_ble_eq_true rfl) (Nat.le_of_ble_eq_true rfl) rfl ?_
    refine x_goto 282 d_RD_sign_267 (by decide) ?_
    exact x_return d_RD_sign_282 rfl (x_YEi _ ⟨rfl, 0, Wd, by decide, fun x hx => (by cases hx), rfl⟩ (fun _ _ => rfl))
  by_cases c125 : c = 125
  · subst c125
    refine x_lsw 225 d_RD_sign_1 (by decide) rfl (by decide) ?_
    refine x_aload_n d_RD_sign_225 rfl rfl ?_
    refine x_bipush 9 d_RD_sign_226 (by decide) ?_
    refine x_aload_n d_RD_sign_228 rfl rfl ?_
    refine x_get d_RD_sign_229 f_RD_116 (Nat.le_of_ble_eq_true rfl) (Nat.le_of_ble_eq_true rfl) (by first | rfl | assumption) (by rfl) ?_
    refine x_iconst 1 d_RD_sign_232 (by decide) ?_
    refine x_iadd d_RD_sign_233 ?_
    refine x_topi (nI (p + 1)) (nI_succ p).symm ?_
    refine x_callV2Y d_RD_sign_234 k_RD_158 (Nat.le_of_ble_eq_true rfl) (Nat.le_of_ble_eq_true rfl) (by first | rfl | assumption) (by rfl) w_RD_take (Nat.le_of_ble_eq_true rfl) (Nat.le_of_ble_eq_true rfl) (Nat.le_of_ble_eq_true rfl) (Nat.le_of_ble_eq_true rfl) (Nat.le_of_ble_eq_true rfl) rfl ?_
    refine x_goto 282 d_RD_sign_237 (by decide) ?_
    exact x_return d_RD_sign_282 rfl (x_YEi _ ⟨rfl, 0, Wd, by decide, fun x hx => (by cases hx), rfl⟩ (fun _ _ => rfl))
  have q33 : ¬ (33 : Int) = c.toInt := fun z => c33 (Int32.toInt_inj.mp z.symm)
  have q40 : ¬ (40 : Int) = c.toInt := fun z => c40 (Int32.toInt_inj.mp z.symm)
  have q41 : ¬ (41 : Int) = c.toInt := fun z => c41 (Int32.toInt_inj.mp z.symm)
  have q44 : ¬ (44 : Int) = c.toInt := fun z => c44 (Int32.toInt_inj.mp z.symm)
  have q59 : ¬ (59 : Int) = c.toInt := fun z => c59 (Int32.toInt_inj.mp z.symm)
  have q91 : ¬ (91 : Int) = c.toInt := fun z => c91 (Int32.toInt_inj.mp z.symm)
  have q93 : ¬ (93 : Int) = c.toInt := fun z => c93 (Int32.toInt_inj.mp z.symm)
  have q123 : ¬ (123 : Int) = c.toInt := fun z => c123 (Int32.toInt_inj.mp z.symm)
  have q124 : ¬ (124 : Int) = c.toInt := fun z => c124 (Int32.toInt_inj.mp z.symm)
  have q125 : ¬ (125 : Int) = c.toInt := fun z => c125 (Int32.toInt_inj.mp z.symm)
  have hs : g_solo c = 12 := by unfold g_solo; rw [if_neg c33, if_neg c40, if_neg c41, if_neg c44, if_neg c59, if_neg c91, if_neg c93, if_neg c123, if_neg c124, if_neg c125]
  have hel : (decide (c = 91) && decide (g_at u N (p + 1) = 93)) = false := by rw [decide_eq_false c91]; rfl
  refine x_lsw (off := 269) 270 d_RD_sign_1 (by decide) (by simp [Op.lookupswitch.offset, q33, q40, q41, q44, q59, q91, q93, q123, q124, q125]) (by decide) ?_
  refine x_aload_n d_RD_sign_270 rfl rfl ?_
  refine x_bipush 12 d_RD_sign_271 (by decide) ?_
  refine x_aload_n d_RD_sign_273 rfl rfl ?_
  refine x_get d_RD_sign_274 f_RD_116 (Nat.le_of_ble_eq_true rfl) (Nat.le_of_ble_eq_true rfl) (by first | rfl | assumption) (by rfl) ?_
  refine x_iconst 1 d_RD_sign_277 (by decide) ?_
  refine x_iadd d_RD_sign_278 ?_
  refine x_topi (nI (p + 1)) (nI_succ p).symm ?_
  refine x_callV2Y d_RD_sign_279 k_RD_158 (Nat.le_of_ble_eq_true rfl) (Nat.le_of_ble_eq_true rfl) (by first | rfl | assumption) (by rfl) w_RD_take (Nat.le_of_ble_eq_true rfl) (Nat.le_of_ble_eq_true rfl) (Nat.le_of_ble_eq_true rfl) (Nat.le_of_ble_eq_true rfl) (Nat.le_of_ble_eq_true rfl) rfl ?_
  exact x_return d_RD_sign_282 rfl (x_YEi _ ⟨rfl, 0, Wd, by decide, fun x hx => (by rw [hel, hs] at hx; cases hx), rfl⟩ (fun _ _ => by rw [hel, hs]; rfl))
theorem d_RD_scan_0 : decode M_RD_scan.2.1 0 = .ok (.aload_n 0, 1) := by decide +kernel
theorem d_RD_scan_1 : decode M_RD_scan.2.1 1 = .ok (.getfield 96, 3) := by decide +kernel
theorem d_RD_scan_4 : decode M_RD_scan.2.1 4 = .ok (.istore_n 1, 1) := by decide +kernel
theorem d_RD_scan_5 : decode M_RD_scan.2.1 5 = .ok (.iload_n 1, 1) := by decide +kernel
theorem d_RD_scan_6 : decode M_RD_scan.2.1 6 = .ok (.aload_n 0, 1) := by decide +kernel
theorem d_RD_scan_7 : decode M_RD_scan.2.1 7 = .ok (.getfield 92, 3) := by decide +kernel
theorem d_RD_scan_10 : decode M_RD_scan.2.1 10 = .ok (.if_icmp .ge 68, 3) := by decide +kernel
theorem d_RD_scan_13 : decode M_RD_scan.2.1 13 = .ok (.aload_n 0, 1) := by decide +kernel
theorem d_RD_scan_14 : decode M_RD_scan.2.1 14 = .ok (.getfield 89, 3) := by decide +kernel
theorem d_RD_scan_17 : decode M_RD_scan.2.1 17 = .ok (.iload_n 1, 1) := by decide +kernel
theorem d_RD_scan_18 : decode M_RD_scan.2.1 18 = .ok (.baload, 1) := by decide +kernel
theorem d_RD_scan_19 : decode M_RD_scan.2.1 19 = .ok (.invokestatic 135, 3) := by decide +kernel
theorem d_RD_scan_22 : decode M_RD_scan.2.1 22 = .ok (.ifCond .ne 14, 3) := by decide +kernel
theorem d_RD_scan_25 : decode M_RD_scan.2.1 25 = .ok (.aload_n 0, 1) := by decide +kernel
theorem d_RD_scan_26 : decode M_RD_scan.2.1 26 = .ok (.getfield 89, 3) := by decide +kernel
theorem d_RD_scan_29 : decode M_RD_scan.2.1 29 = .ok (.iload_n 1, 1) := by decide +kernel
theorem d_RD_scan_30 : decode M_RD_scan.2.1 30 = .ok (.baload, 1) := by decide +kernel
theorem d_RD_scan_31 : decode M_RD_scan.2.1 31 = .ok (.bipush 37, 2) := by decide +kernel
theorem d_RD_scan_33 : decode M_RD_scan.2.1 33 = .ok (.if_icmp .ne 45, 3) := by decide +kernel
theorem d_RD_scan_36 : decode M_RD_scan.2.1 36 = .ok (.aload_n 0, 1) := by decide +kernel
theorem d_RD_scan_37 : decode M_RD_scan.2.1 37 = .ok (.getfield 89, 3) := by decide +kernel
theorem d_RD_scan_40 : decode M_RD_scan.2.1 40 = .ok (.iload_n 1, 1) := by decide +kernel
theorem d_RD_scan_41 : decode M_RD_scan.2.1 41 = .ok (.baload, 1) := by decide +kernel
theorem d_RD_scan_42 : decode M_RD_scan.2.1 42 = .ok (.bipush 37, 2) := by decide +kernel
theorem d_RD_scan_44 : decode M_RD_scan.2.1 44 = .ok (.if_icmp .ne 28, 3) := by decide +kernel
theorem d_RD_scan_47 : decode M_RD_scan.2.1 47 = .ok (.iload_n 1, 1) := by decide +kernel
theorem d_RD_scan_48 : decode M_RD_scan.2.1 48 = .ok (.aload_n 0, 1) := by decide +kernel
theorem d_RD_scan_49 : decode M_RD_scan.2.1 49 = .ok (.getfield 92, 3) := by decide +kernel
theorem d_RD_scan_52 : decode M_RD_scan.2.1 52 = .ok (.if_icmp .ge (-47), 3) := by decide +kernel
theorem d_RD_scan_55 : decode M_RD_scan.2.1 55 = .ok (.aload_n 0, 1) := by decide +kernel
theorem d_RD_scan_56 : decode M_RD_scan.2.1 56 = .ok (.getfield 89, 3) := by decide +kernel
theorem d_RD_scan_59 : decode M_RD_scan.2.1 59 = .ok (.iload_n 1, 1) := by decide +kernel
theorem d_RD_scan_60 : decode M_RD_scan.2.1 60 = .ok (.baload, 1) := by decide +kernel
theorem d_RD_scan_61 : decode M_RD_scan.2.1 61 = .ok (.bipush 10, 2) := by decide +kernel
theorem d_RD_scan_63 : decode M_RD_scan.2.1 63 = .ok (.if_icmp .eq (-58), 3) := by decide +kernel
theorem d_RD_scan_66 : decode M_RD_scan.2.1 66 = .ok (.iinc 1 1, 3) := by decide +kernel
theorem d_RD_scan_69 : decode M_RD_scan.2.1 69 = .ok (.goto (-22), 3) := by decide +kernel
theorem d_RD_scan_72 : decode M_RD_scan.2.1 72 = .ok (.iinc 1 1, 3) := by decide +kernel
theorem d_RD_scan_75 : decode M_RD_scan.2.1 75 = .ok (.goto (-70), 3) := by decide +kernel
theorem d_RD_scan_78 : decode M_RD_scan.2.1 78 = .ok (.aload_n 0, 1) := by decide +kernel
theorem d_RD_scan_79 : decode M_RD_scan.2.1 79 = .ok (.iload_n 1, 1) := by decide +kernel
theorem d_RD_scan_80 : decode M_RD_scan.2.1 80 = .ok (.putfield 116, 3) := by decide +kernel
theorem d_RD_scan_83 : decode M_RD_scan.2.1 83 = .ok (.aload_n 0, 1) := by decide +kernel
theorem d_RD_scan_84 : decode M_RD_scan.2.1 84 = .ok (.iconst 0, 1) := by decide +kernel
theorem d_RD_scan_85 : decode M_RD_scan.2.1 85 = .ok (.putfield 139, 3) := by decide +kernel
theorem d_RD_scan_88 : decode M_RD_scan.2.1 88 = .ok (.iload_n 1, 1) := by decide +kernel
theorem d_RD_scan_89 : decode M_RD_scan.2.1 89 = .ok (.aload_n 0, 1) := by decide +kernel
theorem d_RD_scan_90 : decode M_RD_scan.2.1 90 = .ok (.getfield 92, 3) := by decide +kernel
theorem d_RD_scan_93 : decode M_RD_scan.2.1 93 = .ok (.if_icmp .ge 12, 3) := by decide +kernel
theorem d_RD_scan_96 : decode M_RD_scan.2.1 96 = .ok (.aload_n 0, 1) := by decide +kernel
theorem d_RD_scan_97 : decode M_RD_scan.2.1 97 = .ok (.getfield 89, 3) := by decide +kernel
theorem d_RD_scan_100 : decode M_RD_scan.2.1 100 = .ok (.iload_n 1, 1) := by decide +kernel
theorem d_RD_scan_101 : decode M_RD_scan.2.1 101 = .ok (.baload, 1) := by decide +kernel
theorem d_RD_scan_102 : decode M_RD_scan.2.1 102 = .ok (.goto 4, 3) := by decide +kernel
theorem d_RD_scan_105 : decode M_RD_scan.2.1 105 = .ok (.iconst (-1), 1) := by decide +kernel
theorem d_RD_scan_106 : decode M_RD_scan.2.1 106 = .ok (.istore_n 2, 1) := by decide +kernel
theorem d_RD_scan_107 : decode M_RD_scan.2.1 107 = .ok (.iload_n 1, 1) := by decide +kernel
theorem d_RD_scan_108 : decode M_RD_scan.2.1 108 = .ok (.aload_n 0, 1) := by decide +kernel
theorem d_RD_scan_109 : decode M_RD_scan.2.1 109 = .ok (.getfield 92, 3) := by decide +kernel
theorem d_RD_scan_112 : decode M_RD_scan.2.1 112 = .ok (.if_icmp .ne 20, 3) := by decide +kernel
theorem d_RD_scan_115 : decode M_RD_scan.2.1 115 = .ok (.aload_n 0, 1) := by decide +kernel
theorem d_RD_scan_116 : decode M_RD_scan.2.1 116 = .ok (.bipush 13, 2) := by decide +kernel
theorem d_RD_scan_118 : decode M_RD_scan.2.1 118 = .ok (.putfield 123, 3) := by decide +kernel
theorem d_RD_scan_121 : decode M_RD_scan.2.1 121 = .ok (.aload_n 0, 1) := by decide +kernel
theorem d_RD_scan_122 : decode M_RD_scan.2.1 122 = .ok (.aload_n 0, 1) := by decide +kernel
theorem d_RD_scan_123 : decode M_RD_scan.2.1 123 = .ok (.getfield 92, 3) := by decide +kernel
theorem d_RD_scan_126 : decode M_RD_scan.2.1 126 = .ok (.putfield 96, 3) := by decide +kernel
theorem d_RD_scan_129 : decode M_RD_scan.2.1 129 = .ok (.goto 220, 3) := by decide +kernel
theorem d_RD_scan_132 : decode M_RD_scan.2.1 132 = .ok (.iload_n 2, 1) := by decide +kernel
theorem d_RD_scan_133 : decode M_RD_scan.2.1 133 = .ok (.invokestatic 142, 3) := by decide +kernel
theorem d_RD_scan_136 : decode M_RD_scan.2.1 136 = .ok (.ifCond .ne 10, 3) := by decide +kernel
theorem d_RD_scan_139 : decode M_RD_scan.2.1 139 = .ok (.iload_n 2, 1) := by decide +kernel
theorem d_RD_scan_140 : decode M_RD_scan.2.1 140 = .ok (.invokestatic 145, 3) := by decide +kernel
theorem d_RD_scan_143 : decode M_RD_scan.2.1 143 = .ok (.ifCond .eq 72, 3) := by decide +kernel
theorem d_RD_scan_146 : decode M_RD_scan.2.1 146 = .ok (.aload_n 0, 1) := by decide +kernel
theorem d_RD_scan_147 : decode M_RD_scan.2.1 147 = .ok (.iload_n 1, 1) := by decide +kernel
theorem d_RD_scan_148 : decode M_RD_scan.2.1 148 = .ok (.invokevirtual 148, 3) := by decide +kernel
theorem d_RD_scan_151 : decode M_RD_scan.2.1 151 = .ok (.invokestatic 142, 3) := by decide +kernel
theorem d_RD_scan_154 : decode M_RD_scan.2.1 154 = .ok (.ifCond .ne 25, 3) := by decide +kernel
theorem d_RD_scan_157 : decode M_RD_scan.2.1 157 = .ok (.aload_n 0, 1) := by decide +kernel
theorem d_RD_scan_158 : decode M_RD_scan.2.1 158 = .ok (.iload_n 1, 1) := by decide +kernel
theorem d_RD_scan_159 : decode M_RD_scan.2.1 159 = .ok (.invokevirtual 148, 3) := by decide +kernel
theorem d_RD_scan_162 : decode M_RD_scan.2.1 162 = .ok (.invokestatic 145, 3) := by decide +kernel
theorem d_RD_scan_165 : decode M_RD_scan.2.1 165 = .ok (.ifCond .ne 14, 3) := by decide +kernel
theorem d_RD_scan_168 : decode M_RD_scan.2.1 168 = .ok (.aload_n 0, 1) := by decide +kernel
theorem d_RD_scan_169 : decode M_RD_scan.2.1 169 = .ok (.iload_n 1, 1) := by decide +kernel
theorem d_RD_scan_170 : decode M_RD_scan.2.1 170 = .ok (.invokevirtual 148, 3) := by decide +kernel
theorem d_RD_scan_173 : decode M_RD_scan.2.1 173 = .ok (.invokestatic 151, 3) := by decide +kernel
theorem d_RD_scan_176 : decode M_RD_scan.2.1 176 = .ok (.ifCond .eq 19, 3) := by decide +kernel
theorem d_RD_scan_179 : decode M_RD_scan.2.1 179 = .ok (.aload_n 0, 1) := by decide +kernel
theorem d_RD_scan_180 : decode M_RD_scan.2.1 180 = .ok (.aload_n 0, 1) := by decide +kernel
theorem d_RD_scan_181 : decode M_RD_scan.2.1 181 = .ok (.getfield 89, 3) := by decide +kernel
theorem d_RD_scan_184 : decode M_RD_scan.2.1 184 = .ok (.iload_n 1, 1) := by decide +kernel
theorem d_RD_scan_185 : decode M_RD_scan.2.1 185 = .ok (.baload, 1) := by decide +kernel
theorem d_RD_scan_186 : decode M_RD_scan.2.1 186 = .ok (.invokevirtual 154, 3) := by decide +kernel
theorem d_RD_scan_189 : decode M_RD_scan.2.1 189 = .ok (.iinc 1 1, 3) := by decide +kernel
theorem d_RD_scan_192 : decode M_RD_scan.2.1 192 = .ok (.goto (-46), 3) := by decide +kernel
theorem d_RD_scan_195 : decode M_RD_scan.2.1 195 = .ok (.aload_n 0, 1) := by decide +kernel
theorem d_RD_scan_196 : decode M_RD_scan.2.1 196 = .ok (.iload_n 2, 1) := by decide +kernel
theorem d_RD_scan_197 : decode M_RD_scan.2.1 197 = .ok (.invokestatic 145, 3) := by decide +kernel
theorem d_RD_scan_200 : decode M_RD_scan.2.1 200 = .ok (.ifCond .eq 7, 3) := by decide +kernel
theorem d_RD_scan_203 : decode M_RD_scan.2.1 203 = .ok (.iconst 1, 1) := by decide +kernel
theorem d_RD_scan_204 : decode M_RD_scan.2.1 204 = .ok (.goto 4, 3) := by decide +kernel
theorem d_RD_scan_207 : decode M_RD_scan.2.1 207 = .ok (.iconst 3, 1) := by decide +kernel
theorem d_RD_scan_208 : decode M_RD_scan.2.1 208 = .ok (.iload_n 1, 1) := by decide +kernel
theorem d_RD_scan_209 : decode M_RD_scan.2.1 209 = .ok (.invokevirtual 158, 3) := by decide +kernel
theorem d_RD_scan_212 : decode M_RD_scan.2.1 212 = .ok (.goto 137, 3) := by decide +kernel
theorem d_RD_scan_215 : decode M_RD_scan.2.1 215 = .ok (.iload_n 2, 1) := by decide +kernel
theorem d_RD_scan_216 : decode M_RD_scan.2.1 216 = .ok (.invokestatic 151, 3) := by decide +kernel
theorem d_RD_scan_219 : decode M_RD_scan.2.1 219 = .ok (.ifCond .eq 10, 3) := by decide +kernel
theorem d_RD_scan_222 : decode M_RD_scan.2.1 222 = .ok (.aload_n 0, 1) := by decide +kernel
theorem d_RD_scan_223 : decode M_RD_scan.2.1 223 = .ok (.invokevirtual 162, 3) := by decide +kernel
theorem d_RD_scan_226 : decode M_RD_scan.2.1 226 = .ok (.goto 123, 3) := by decide +kernel
theorem d_RD_scan_229 : decode M_RD_scan.2.1 229 = .ok (.iload_n 2, 1) := by decide +kernel
theorem d_RD_scan_230 : decode M_RD_scan.2.1 230 = .ok (.bipush 39, 2) := by decide +kernel
theorem d_RD_scan_232 : decode M_RD_scan.2.1 232 = .ok (.if_icmp .ne 10, 3) := by decide +kernel
theorem d_RD_scan_235 : decode M_RD_scan.2.1 235 = .ok (.aload_n 0, 1) := by decide +kernel
theorem d_RD_scan_236 : decode M_RD_scan.2.1 236 = .ok (.invokevirtual 165, 3) := by decide +kernel
theorem d_RD_scan_239 : decode M_RD_scan.2.1 239 = .ok (.goto 110, 3) := by decide +kernel
theorem d_RD_scan_242 : decode M_RD_scan.2.1 242 = .ok (.iload_n 2, 1) := by decide +kernel
theorem d_RD_scan_243 : decode M_RD_scan.2.1 243 = .ok (.invokestatic 168, 3) := by decide +kernel
theorem d_RD_scan_246 : decode M_RD_scan.2.1 246 = .ok (.ifCond .eq 98, 3) := by decide +kernel
theorem d_RD_scan_249 : decode M_RD_scan.2.1 249 = .ok (.aload_n 0, 1) := by decide +kernel
theorem d_RD_scan_250 : decode M_RD_scan.2.1 250 = .ok (.iload_n 1, 1) := by decide +kernel
theorem d_RD_scan_251 : decode M_RD_scan.2.1 251 = .ok (.invokevirtual 148, 3) := by decide +kernel
theorem d_RD_scan_254 : decode M_RD_scan.2.1 254 = .ok (.invokestatic 168, 3) := by decide +kernel
theorem d_RD_scan_257 : decode M_RD_scan.2.1 257 = .ok (.ifCond .eq 19, 3) := by decide +kernel
theorem d_RD_scan_260 : decode M_RD_scan.2.1 260 = .ok (.aload_n 0, 1) := by decide +kernel
theorem d_RD_scan_261 : decode M_RD_scan.2.1 261 = .ok (.aload_n 0, 1) := by decide +kernel
theorem d_RD_scan_262 : decode M_RD_scan.2.1 262 = .ok (.getfield 89, 3) := by decide +kernel
theorem d_RD_scan_265 : decode M_RD_scan.2.1 265 = .ok (.iload_n 1, 1) := by decide +kernel
theorem d_RD_scan_266 : decode M_RD_scan.2.1 266 = .ok (.baload, 1) := by decide +kernel
theorem d_RD_scan_267 : decode M_RD_scan.2.1 267 = .ok (.invokevirtual 154, 3) := by decide +kernel
theorem d_RD_scan_270 : decode M_RD_scan.2.1 270 = .ok (.iinc 1 1, 3) := by decide +kernel
theorem d_RD_scan_273 : decode M_RD_scan.2.1 273 = .ok (.goto (-24), 3) := by decide +kernel
theorem d_RD_scan_276 : decode M_RD_scan.2.1 276 = .ok (.aload_n 0, 1) := by decide +kernel
theorem d_RD_scan_277 : decode M_RD_scan.2.1 277 = .ok (.getfield 139, 3) := by decide +kernel
theorem d_RD_scan_280 : decode M_RD_scan.2.1 280 = .ok (.iconst 1, 1) := by decide +kernel
theorem d_RD_scan_281 : decode M_RD_scan.2.1 281 = .ok (.if_icmp .ne 44, 3) := by decide +kernel
theorem d_RD_scan_284 : decode M_RD_scan.2.1 284 = .ok (.iload_n 2, 1) := by decide +kernel
theorem d_RD_scan_285 : decode M_RD_scan.2.1 285 = .ok (.bipush 46, 2) := by decide +kernel
theorem d_RD_scan_287 : decode M_RD_scan.2.1 287 = .ok (.if_icmp .ne 38, 3) := by decide +kernel
theorem d_RD_scan_290 : decode M_RD_scan.2.1 290 = .ok (.iload_n 1, 1) := by decide +kernel
theorem d_RD_scan_291 : decode M_RD_scan.2.1 291 = .ok (.aload_n 0, 1) := by decide +kernel
theorem d_RD_scan_292 : decode M_RD_scan.2.1 292 = .ok (.getfield 92, 3) := by decide +kernel
theorem d_RD_scan_295 : decode M_RD_scan.2.1 295 = .ok (.if_icmp .eq 26, 3) := by decide +kernel
theorem d_RD_scan_298 : decode M_RD_scan.2.1 298 = .ok (.aload_n 0, 1) := by decide +kernel
theorem d_RD_scan_299 : decode M_RD_scan.2.1 299 = .ok (.getfield 89, 3) := by decide +kernel
theorem d_RD_scan_302 : decode M_RD_scan.2.1 302 = .ok (.iload_n 1, 1) := by decide +kernel
theorem d_RD_scan_303 : decode M_RD_scan.2.1 303 = .ok (.baload, 1) := by decide +kernel
theorem d_RD_scan_304 : decode M_RD_scan.2.1 304 = .ok (.invokestatic 135, 3) := by decide +kernel
theorem d_RD_scan_307 : decode M_RD_scan.2.1 307 = .ok (.ifCond .ne 14, 3) := by decide +kernel
theorem d_RD_scan_310 : decode M_RD_scan.2.1 310 = .ok (.aload_n 0, 1) := by decide +kernel
theorem d_RD_scan_311 : decode M_RD_scan.2.1 311 = .ok (.getfield 89, 3) := by decide +kernel
theorem d_RD_scan_314 : decode M_RD_scan.2.1 314 = .ok (.iload_n 1, 1) := by decide +kernel
theorem d_RD_scan_315 : decode M_RD_scan.2.1 315 = .ok (.baload, 1) := by decide +kernel
theorem d_RD_scan_316 : decode M_RD_scan.2.1 316 = .ok (.bipush 37, 2) := by decide +kernel
theorem d_RD_scan_318 : decode M_RD_scan.2.1 318 = .ok (.if_icmp .ne 7, 3) := by decide +kernel
theorem d_RD_scan_321 : decode M_RD_scan.2.1 321 = .ok (.iconst 1, 1) := by decide +kernel
theorem d_RD_scan_322 : decode M_RD_scan.2.1 322 = .ok (.goto 4, 3) := by decide +kernel
theorem d_RD_scan_325 : decode M_RD_scan.2.1 325 = .ok (.iconst 0, 1) := by decide +kernel
theorem d_RD_scan_326 : decode M_RD_scan.2.1 326 = .ok (.istore_n 3, 1) := by decide +kernel
theorem d_RD_scan_327 : decode M_RD_scan.2.1 327 = .ok (.aload_n 0, 1) := by decide +kernel
theorem d_RD_scan_328 : decode M_RD_scan.2.1 328 = .ok (.iload_n 3, 1) := by decide +kernel
theorem d_RD_scan_329 : decode M_RD_scan.2.1 329 = .ok (.ifCond .eq 7, 3) := by decide +kernel
theorem d_RD_scan_332 : decode M_RD_scan.2.1 332 = .ok (.iconst 0, 1) := by decide +kernel
theorem d_RD_scan_333 : decode M_RD_scan.2.1 333 = .ok (.goto 4, 3) := by decide +kernel
theorem d_RD_scan_336 : decode M_RD_scan.2.1 336 = .ok (.iconst 3, 1) := by decide +kernel
theorem d_RD_scan_337 : decode M_RD_scan.2.1 337 = .ok (.iload_n 1, 1) := by decide +kernel
theorem d_RD_scan_338 : decode M_RD_scan.2.1 338 = .ok (.invokevirtual 158, 3) := by decide +kernel
theorem d_RD_scan_341 : decode M_RD_scan.2.1 341 = .ok (.goto 8, 3) := by decide +kernel
theorem d_RD_scan_344 : decode M_RD_scan.2.1 344 = .ok (.aload_n 0, 1) := by decide +kernel
theorem d_RD_scan_345 : decode M_RD_scan.2.1 345 = .ok (.iload_n 2, 1) := by decide +kernel
theorem d_RD_scan_346 : decode M_RD_scan.2.1 346 = .ok (.invokevirtual 171, 3) := by decide +kernel
theorem d_RD_scan_349 : decode M_RD_scan.2.1 349 = .ok (.return_, 1) := by decide +kernel
set_option maxRecDepth 20000 in
theorem w_RD_scanW {E : xR} {h : xH} {u : Nat → Nat} {N : Nat} {bh tk oo tp pl vd kn rk : Int32} {nm : Int64} {p e : Nat} (h22 : h 22 = .inl (1, 4096, .inl (fun i => g_sb (u i)))) (hu : ∀ i, u i < 256) (hN : N ≤ 4096) (hp : p < N) (hw : (g_small (g_at u N p) || g_gr (g_at u N p)) = true) (he : g_run g_word (g_at u N) (N - p) p = e) : ∀ m i Wd, i + m = N → p ≤ i → g_wx Wd (g_tp u (i - p) p) → g_run g_word (g_at u N) m i = e → x_W E M_RD_scan (x_room 6 0 0) (x_YE (g_SQ u N p h oo tp pl vd kn rk)) 52 (g_rw h N (nI p) bh tk oo nm (nI (i - p)) tp pl vd kn rk Wd) 146 [(0, .ref 36), (1, .int (nI i)), (2, .int (g_lo u N p))] [] 0 0 := by
  have hT := g_tkWo hu hp hw
  have hU := g_utRun (P := g_word) hu (by decide) (Nat.le_of_lt hp)
  rw [he] at hT hU
  have hG := g_loG (N := N) (i := p) hu
  have hend : ∀ Wd, p ≤ e → e ≤ N → g_wx Wd (g_tp u (e - p) p) → x_W E M_RD_scan (x_room 6 0 0) (x_YE (g_SQ u N p h oo tp pl vd kn rk)) 52 (g_rw h N (nI p) bh tk oo nm (nI (e - p)) tp pl vd kn rk Wd) 195 [(0, .ref 36), (1, .int (nI e)), (2, .int (g_lo u N p))] [] 0 0 := by
    intro Wd h1 h2 h3
    refine x_aload_n d_RD_scan_195 rfl rfl ?_
    refine x_iload_n d_RD_scan_196 rfl rfl ?_
    refine x_callS1Y d_RD_scan_197 k_RD_145 w_RD_great (Nat.le_of_ble_eq_true rfl) (Nat.le_of_ble_eq_true rfl) (Nat.le_of_ble_eq_true rfl) (Nat.le_of_ble_eq_true rfl) (Nat.le_of_ble_eq_true rfl) rfl ?_
    refine x_if_eq 207 d_RD_scan_200 (by decide) (fun c_200 => ?_) (fun c_200 => ?_)
    · refine x_iconst 3 d_RD_scan_207 (by decide) ?_
      refine x_iload_n d_RD_scan_208 rfl rfl ?_
      refine x_callV2Y d_RD_scan_209 k_RD_158 (Nat.le_of_ble_eq_true rfl) (Nat.le_of_ble_eq_true rfl) (by first | rfl | assumption) (by rfl) w_RD_take (Nat.le_of_ble_eq_true rfl) (Nat.le_of_ble_eq_true rfl) (Nat.le_of_ble_eq_true rfl) (Nat.le_of_ble_eq_true rfl) (Nat.le_of_ble_eq_true rfl) rfl ?_
      refine x_goto 349 d_RD_scan_212 (by decide) ?_
      exact x_return d_RD_scan_349 rfl (g_SQi (l := e - p) (nm := nm) (Wd := Wd) (bh := nI e) hT (by omega) (fun _ => rfl) (fun _ => ⟨by rw [hU, g_tp_len], by rw [hU]; exact h3⟩) (fun z => absurd z (by rw [← hG, g_b2z c_200]; decide)) (fun _ _ => by rw [← hG, g_b2z c_200]; rfl))
    · refine x_iconst 1 d_RD_scan_203 (by decide) ?_
      refine x_goto 208 d_RD_scan_204 (by decide) ?_
      refine x_iload_n d_RD_scan_208 rfl rfl ?_
      refine x_callV2Y d_RD_scan_209 k_RD_158 (Nat.le_of_ble_eq_true rfl) (Nat.le_of_ble_eq_true rfl) (by first | rfl | assumption) (by rfl) w_RD_take (Nat.le_of_ble_eq_true rfl) (Nat.le_of_ble_eq_true rfl) (Nat.le_of_ble_eq_true rfl) (Nat.le_of_ble_eq_true rfl) (Nat.le_of_ble_eq_true rfl) rfl ?_
      refine x_goto 349 d_RD_scan_212 (by decide) ?_
      exact x_return d_RD_scan_349 rfl (g_SQi (l := e - p) (nm := nm) (Wd := Wd) (bh := nI e) hT (by omega) (fun _ => rfl) (fun _ => ⟨by rw [hU, g_tp_len], by rw [hU]; exact h3⟩) (fun z => absurd z (by rw [← hG, g_b2n c_200]; decide)) (fun _ _ => by rw [← hG, g_b2n c_200]; rfl))
  intro m
  induction m with
  | zero =>
    intro i Wd hi hpi hx he
    obtain rfl : i = N := by omega
    obtain rfl : i = e := he
    refine x_aload_n d_RD_scan_146 rfl rfl ?_
    refine x_iload_n d_RD_scan_147 rfl rfl ?_
    refine x_callV1Y d_RD_scan_148 k_RD_148 (Nat.le_of_ble_eq_true rfl) (Nat.le_of_ble_eq_true rfl) (by first | rfl | assumption) (by rfl) (w_RD_look h22 hN (by omega)) (Nat.le_of_ble_eq_true rfl) (Nat.le_of_ble_eq_true rfl) (Nat.le_of_ble_eq_true rfl) (Nat.le_of_ble_eq_true rfl) (Nat.le_of_ble_eq_true rfl) rfl ?_
    refine x_callS1Y d_RD_scan_151 k_RD_142 w_RD_small (Nat.le_of_ble_eq_true rfl) (Nat.le_of_ble_eq_true rfl) (Nat.le_of_ble_eq_true rfl) (Nat.le_of_ble_eq_true rfl) (Nat.le_of_ble_eq_true rfl) rfl ?_
    refine x_if_ne 179 d_RD_scan_154 (by decide) (fun z => absurd (show g_b2 (g_small (g_lo u i i)) = 0 by rw [g_loO (Nat.le_refl _)]; rfl) z) (fun _ => ?_)
    refine x_aload_n d_RD_scan_157 rfl rfl ?_
    refine x_iload_n d_RD_scan_158 rfl rfl ?_
    refine x_callV1Y d_RD_scan_159 k_RD_148 (Nat.le_of_ble_eq_true rfl) (Nat.le_of_ble_eq_true rfl) (by first | rfl | assumption) (by rfl) (w_RD_look h22 hN (by omega)) (Nat.le_of_ble_eq_true rfl) (Nat.le_of_ble_eq_true rfl) (Nat.le_of_ble_eq_true rfl) (Nat.le_of_ble_eq_true rfl) (Nat.le_of_ble_eq_true rfl) rfl ?_
    refine x_callS1Y d_RD_scan_162 k_RD_145 w_RD_great (Nat.le_of_ble_eq_true rfl) (Nat.le_of_ble_eq_true rfl) (Nat.le_of_ble_eq_true rfl) (Nat.le_of_ble_eq_true rfl) (Nat.le_of_ble_eq_true rfl) rfl ?_
    refine x_if_ne 179 d_RD_scan_165 (by decide) (fun z => absurd (show g_b2 (g_gr (g_lo u i i)) = 0 by rw [g_loO (Nat.le_refl _)]; rfl) z) (fun _ => ?_)
    refine x_aload_n d_RD_scan_168 rfl rfl ?_
    refine x_iload_n d_RD_scan_169 rfl rfl ?_
    refine x_callV1Y d_RD_scan_170 k_RD_148 (Nat.le_of_ble_eq_true rfl) (Nat.le_of_ble_eq_true rfl) (by first | rfl | assumption) (by rfl) (w_RD_look h22 hN (by omega)) (Nat.le_of_ble_eq_true rfl) (Nat.le_of_ble_eq_true rfl) (Nat.le_of_ble_eq_true rfl) (Nat.le_of_ble_eq_true rfl) (Nat.le_of_ble_eq_true rfl) rfl ?_
    refine x_callS1Y d_RD_scan_173 k_RD_151 w_RD_digit (Nat.le_of_ble_eq_true rfl) (Nat.le_of_ble_eq_true rfl) (Nat.le_of_ble_eq_true rfl) (Nat.le_of_ble_eq_true rfl) (Nat.le_of_ble_eq_true rfl) rfl ?_
    refine x_if_eq 195 d_RD_scan_176 (by decide) (fun _ => ?_) (fun z => absurd (show g_b2 (g_dig (g_lo u i i)) = 0 by rw [g_loO (Nat.le_refl _)]; rfl) z)
    exact hend Wd hpi (Nat.le_refl _) hx
  | succ m ih =>
    intro i Wd hi hpi hx he
    have hW := g_loW (N := N) (i := i) hu
    have hstep : g_word ((g_at u N) i) = true → x_W E M_RD_scan (x_room 6 0 0) (x_YE (g_SQ u N p h oo tp pl vd kn rk)) 52 (g_rw h N (nI p) bh tk oo nm (nI (i - p)) tp pl vd kn rk Wd) 179 [(0, .ref 36), (1, .int (nI i)), (2, .int (g_lo u N p))] [] 0 0 := by
      intro hg
      have he2 : g_run g_word (g_at u N) m (i + 1) = e := by rw [g_run, hg] at he; exact he
      refine x_aload_n d_RD_scan_179 rfl rfl ?_
      refine x_aload_n d_RD_scan_180 rfl rfl ?_
      refine x_get d_RD_scan_181 f_RD_89 (Nat.le_of_ble_eq_true rfl) (Nat.le_of_ble_eq_true rfl) (by first | rfl | assumption) (by rfl) ?_
      refine x_iload_n d_RD_scan_184 rfl rfl ?_
      refine x_bald d_RD_scan_185 (Nat.le_of_ble_eq_true rfl) (Nat.le_of_ble_eq_true rfl) (by first | rfl | assumption) (vp_in_nI (show i < 4096 by omega) (by decide)) ?_
      refine x_topi (g_sb (u i)) (by rw [nI_clamp (by omega)]) ?_
      refine x_callV1Y d_RD_scan_186 k_RD_154 (Nat.le_of_ble_eq_true rfl) (Nat.le_of_ble_eq_true rfl) (by first | rfl | assumption) (by rfl) (w_RD_letter (L := i - p) (by omega) (g_sbR _ (hu i))) (Nat.le_of_ble_eq_true rfl) (Nat.le_of_ble_eq_true rfl) (Nat.le_of_ble_eq_true rfl) (Nat.le_of_ble_eq_true rfl) (Nat.le_of_ble_eq_true rfl) rfl ?_
      refine x_iinc d_RD_scan_189 rfl 1 (by decide) (Nat.le_of_ble_eq_true rfl) ?_
      refine x_goto 146 d_RD_scan_192 (by decide) ?_
      refine x_lv [(0, .ref 36), (1, .int (nI (i + 1))), (2, .int (g_lo u N p))] (by rw [nI_succ i]; rfl) ?_
      have hgo := ih (i + 1) (upd Wd (i - p) (g_sb (u i))) (by omega) (by omega) (by rw [show i + 1 - p = i - p + 1 by omega, g_tp_snoc, show p + (i - p) = i by omega]; have := g_wxs (c := g_sb (u i)) hx; rw [g_tp_len] at this; exact this) he2
      rw [show i + 1 - p = i - p + 1 by omega] at hgo
      exact hgo
    refine x_aload_n d_RD_scan_146 rfl rfl ?_
    refine x_iload_n d_RD_scan_147 rfl rfl ?_
    refine x_callV1Y d_RD_scan_148 k_RD_148 (Nat.le_of_ble_eq_true rfl) (Nat.le_of_ble_eq_true rfl) (by first | rfl | assumption) (by rfl) (w_RD_look h22 hN (by omega)) (Nat.le_of_ble_eq_true rfl) (Nat.le_of_ble_eq_true rfl) (Nat.le_of_ble_eq_true rfl) (Nat.le_of_ble_eq_true rfl) (Nat.le_of_ble_eq_true rfl) rfl ?_
    refine x_callS1Y d_RD_scan_151 k_RD_142 w_RD_small (Nat.le_of_ble_eq_true rfl) (Nat.le_of_ble_eq_true rfl) (Nat.le_of_ble_eq_true rfl) (Nat.le_of_ble_eq_true rfl) (Nat.le_of_ble_eq_true rfl) rfl ?_
    refine x_if_ne 179 d_RD_scan_154 (by decide) (fun c_154 => ?_) (fun c_154 => ?_)
    · exact hstep (by rw [← hW, g_b2n c_154]; rfl)
    · refine x_aload_n d_RD_scan_157 rfl rfl ?_
      refine x_iload_n d_RD_scan_158 rfl rfl ?_
      refine x_callV1Y d_RD_scan_159 k_RD_148 (Nat.le_of_ble_eq_true rfl) (Nat.le_of_ble_eq_true rfl) (by first | rfl | assumption) (by rfl) (w_RD_look h22 hN (by omega)) (Nat.le_of_ble_eq_true rfl) (Nat.le_of_ble_eq_true rfl) (Nat.le_of_ble_eq_true rfl) (Nat.le_of_ble_eq_true rfl) (Nat.le_of_ble_eq_true rfl) rfl ?_
      refine x_callS1Y d_RD_scan_162 k_RD_145 w_RD_great (Nat.le_of_ble_eq_true rfl) (Nat.le_of_ble_eq_true rfl) (Nat.le_of_ble_eq_true rfl) (Nat.le_of_ble_eq_true rfl) (Nat.le_of_ble_eq_true rfl) rfl ?_
      refine x_if_ne 179 d_RD_scan_165 (by decide) (fun c_165 => ?_) (fun c_165 => ?_)
      · exact hstep (by rw [← hW, g_b2n c_165]; simp)
      · refine x_aload_n d_RD_scan_168 rfl rfl ?_
        refine x_iload_n d_RD_scan_169 rfl rfl ?_
        refine x_callV1Y d_RD_scan_170 k_RD_148 (Nat.le_of_ble_eq_true rfl) (Nat.le_of_ble_eq_true rfl) (by first | rfl | assumption) (by rfl) (w_RD_look h22 hN (by omega)) (Nat.le_of_ble_eq_true rfl) (Nat.le_of_ble_eq_true rfl) (Nat.le_of_ble_eq_true rfl) (Nat.le_of_ble_eq_true rfl) (Nat.le_of_ble_eq_true rfl) rfl ?_
        refine x_callS1Y d_RD_scan_173 k_RD_151 w_RD_digit (Nat.le_of_ble_eq_true rfl) (Nat.le_of_ble_eq_true rfl) (Nat.le_of_ble_eq_true rfl) (Nat.le_of_ble_eq_true rfl) (Nat.le_of_ble_eq_true rfl) rfl ?_
        refine x_if_eq 195 d_RD_scan_176 (by decide) (fun c_176 => ?_) (fun c_176 => ?_)
        · have hg : g_word (g_at u N i) = false := by rw [← hW, g_b2z c_154, g_b2z c_165, g_b2z c_176]; rfl
          rw [g_run, hg] at he
          have he : i = e := he
          subst he
          exact hend Wd hpi (by omega) hx
        · exact hstep (by rw [← hW, g_b2n c_176]; simp)
set_option maxRecDepth 20000 in
theorem w_RD_scanY {E : xR} {h : xH} {u : Nat → Nat} {N : Nat} {bh tk oo tp pl vd kn rk : Int32} {nm : Int64} {p e : Nat} (h22 : h 22 = .inl (1, 4096, .inl (fun i => g_sb (u i)))) (hu : ∀ i, u i < 256) (hN : N ≤ 4096) (hp : p < N) (hw : g_symb (g_at u N p) = true) (he : g_run g_symb (g_at u N) (N - p) p = e) : ∀ m i Wd, i + m = N → p ≤ i → g_wx Wd (g_tp u (i - p) p) → g_run g_symb (g_at u N) m i = e → x_W E M_RD_scan (x_room 6 0 0) (x_YE (g_SQ u N p h oo tp pl vd kn rk)) 52 (g_rw h N (nI p) bh tk oo nm (nI (i - p)) tp pl vd kn rk Wd) 249 [(0, .ref 36), (1, .int (nI i)), (2, .int (g_lo u N p))] [] 0 0 := by
  have hT := g_tkSy hu hp hw
  have hU := g_utRun (P := g_symb) hu g_symb39 (Nat.le_of_lt hp)
  rw [he] at hT hU
  have hpE : ∀ b : Int32, 0 ≤ b ∧ b < 128 → (g_lo u N p = b ↔ g_at u N p = b) := fun b hb => g_loE hu hb
  have hfin : ∀ (b : Bool) Wd, g_endb (g_at u N) p e = b → p ≤ e → e ≤ N → g_wx Wd (g_tp u (e - p) p) → x_W E M_RD_scan (x_room 6 0 0) (x_YE (g_SQ u N p h oo tp pl vd kn rk)) 52 (g_rw h N (nI p) bh tk oo nm (nI (e - p)) tp pl vd kn rk Wd) 326 [(0, .ref 36), (1, .int (nI e)), (2, .int (g_lo u N p))] [.int (g_b2 b)] 0 0 := by
    intro b Wd hb h1 h2 h3
    refine x_istore_n d_RD_scan_326 rfl (Nat.le_of_ble_eq_true rfl) ?_
    refine x_aload_n d_RD_scan_327 rfl rfl ?_
    refine x_iload_n d_RD_scan_328 rfl rfl ?_
    refine x_if_eq 336 d_RD_scan_329 (by decide) (fun c_329 => ?_) (fun c_329 => ?_)
    · refine x_iconst 3 d_RD_scan_336 (by decide) ?_
      refine x_iload_n d_RD_scan_337 rfl rfl ?_
      refine x_callV2Y d_RD_scan_338 k_RD_158 (Nat.le_of_ble_eq_true rfl) (Nat.le_of_ble_eq_true rfl) (by first | rfl | assumption) (by rfl) w_RD_take (Nat.le_of_ble_eq_true rfl) (Nat.le_of_ble_eq_true rfl) (Nat.le_of_ble_eq_true rfl) (Nat.le_of_ble_eq_true rfl) (Nat.le_of_ble_eq_true rfl) rfl ?_
      refine x_goto 349 d_RD_scan_341 (by decide) ?_
      exact x_return d_RD_scan_349 rfl (g_SQi (l := e - p) (nm := nm) (Wd := Wd) (bh := nI e) hT (by omega) (fun _ => rfl) (fun _ => ⟨by rw [hU, g_tp_len], by rw [hU]; exact h3⟩) (fun z => absurd z (by rw [hb, g_b2z c_329]; decide)) (fun _ _ => by rw [hb, g_b2z c_329]; rfl))
    · refine x_iconst 0 d_RD_scan_332 (by decide) ?_
      refine x_goto 337 d_RD_scan_333 (by decide) ?_
      refine x_iload_n d_RD_scan_337 rfl rfl ?_
      refine x_callV2Y d_RD_scan_338 k_RD_158 (Nat.le_of_ble_eq_true rfl) (Nat.le_of_ble_eq_true rfl) (by first | rfl | assumption) (by rfl) w_RD_take (Nat.le_of_ble_eq_true rfl) (Nat.le_of_ble_eq_true rfl) (Nat.le_of_ble_eq_true rfl) (Nat.le_of_ble_eq_true rfl) (Nat.le_of_ble_eq_true rfl) rfl ?_
      refine x_goto 349 d_RD_scan_341 (by decide) ?_
      exact x_return d_RD_scan_349 rfl (g_SQi (l := e - p) (nm := nm) (Wd := Wd) (bh := nI e) hT (by omega) (fun _ => rfl) (fun _ => ⟨by rw [hU, g_tp_len], by rw [hU]; exact h3⟩) (fun z => absurd z (by rw [hb, g_b2n c_329]; decide)) (fun _ _ => by rw [hb, g_b2n c_329]; rfl))
  have hend : ∀ Wd, p ≤ e → e ≤ N → g_wx Wd (g_tp u (e - p) p) → x_W E M_RD_scan (x_room 6 0 0) (x_YE (g_SQ u N p h oo tp pl vd kn rk)) 52 (g_rw h N (nI p) bh tk oo nm (nI (e - p)) tp pl vd kn rk Wd) 276 [(0, .ref 36), (1, .int (nI e)), (2, .int (g_lo u N p))] [] 0 0 := by
    intro Wd h1 h2 h3
    have hl1 : (nI (e - p) = 1) ↔ (nI e = nI p + 1) := by
      rw [← nI_succ p, show (1 : Int32) = nI 1 from rfl, g_nIne (by omega) (by omega), g_nIne (by omega) (by omega)]; omega
    have hB := g_loB (N := N) (i := e) hu
    have hE := fun b hb => g_loE (N := N) (i := e) (b := b) hu hb
    refine x_aload_n d_RD_scan_276 rfl rfl ?_
    refine x_get d_RD_scan_277 f_RD_139 (Nat.le_of_ble_eq_true rfl) (Nat.le_of_ble_eq_true rfl) (by first | rfl | assumption) (by rfl) ?_
    refine x_iconst 1 d_RD_scan_280 (by decide) ?_
    refine x_icmp_ne 325 d_RD_scan_281 (by decide) (fun c_281 => ?_) (fun c_281 => ?_)
    · refine x_iconst 0 d_RD_scan_325 (by decide) ?_
      exact hfin false Wd (by unfold g_endb; rw [decide_eq_false (fun z => c_281 (hl1.mpr z))]; simp) h1 h2 h3
    · refine x_iload_n d_RD_scan_284 rfl rfl ?_
      refine x_bipush 46 d_RD_scan_285 (by decide) ?_
      refine x_icmp_ne 325 d_RD_scan_287 (by decide) (fun c_287 => ?_) (fun c_287 => ?_)
      · refine x_iconst 0 d_RD_scan_325 (by decide) ?_
        exact hfin false Wd (by unfold g_endb; rw [decide_eq_false (fun z => c_287 ((hpE 46 (by decide)).mpr z))]; simp) h1 h2 h3
      · refine x_iload_n d_RD_scan_290 rfl rfl ?_
        refine x_aload_n d_RD_scan_291 rfl rfl ?_
        refine x_get d_RD_scan_292 f_RD_92 (Nat.le_of_ble_eq_true rfl) (Nat.le_of_ble_eq_true rfl) (by first | rfl | assumption) (by rfl) ?_
        refine x_icmp_eq 321 d_RD_scan_295 (by decide) (fun c_295 => ?_) (fun c_295 => ?_)
        · refine x_iconst 1 d_RD_scan_321 (by decide) ?_
          refine x_goto 326 d_RD_scan_322 (by decide) ?_
          exact hfin true Wd (by unfold g_endb; rw [decide_eq_true ((hpE 46 (by decide)).mp c_287), decide_eq_true (hl1.mp c_281)]; rw [g_at_out (Nat.le_of_eq ((g_nIne (by omega) (by omega)).mp c_295).symm)]; decide) h1 h2 h3
        · have heN : e < N := by
            rcases Nat.lt_or_ge e N with z | z
            · exact z
            · exact absurd (show nI e = nI N by rw [show e = N by omega]) c_295
          have hnn : ¬ g_at u N e < 0 := by rw [g_at_in heN]; exact (g_cls (u e) (hu e)).1
          refine x_aload_n d_RD_scan_298 rfl rfl ?_
          refine x_get d_RD_scan_299 f_RD_89 (Nat.le_of_ble_eq_true rfl) (Nat.le_of_ble_eq_true rfl) (by first | rfl | assumption) (by rfl) ?_
          refine x_iload_n d_RD_scan_302 rfl rfl ?_
          refine x_bald d_RD_scan_303 (Nat.le_of_ble_eq_true rfl) (Nat.le_of_ble_eq_true rfl) (by first | rfl | assumption) (vp_in_nI (show e < 4096 by omega) (by decide)) ?_
          refine x_topi (g_sb (u e)) (by rw [nI_clamp (by omega)]) ?_
          refine x_callS1Y d_RD_scan_304 k_RD_135 w_RD_blank (Nat.le_of_ble_eq_true rfl) (Nat.le_of_ble_eq_true rfl) (Nat.le_of_ble_eq_true rfl) (Nat.le_of_ble_eq_true rfl) (Nat.le_of_ble_eq_true rfl) rfl ?_
          refine x_if_ne 321 d_RD_scan_307 (by decide) (fun c_307 => ?_) (fun c_307 => ?_)
          · refine x_iconst 1 d_RD_scan_321 (by decide) ?_
            refine x_goto 326 d_RD_scan_322 (by decide) ?_
            exact hfin true Wd (by unfold g_endb; rw [decide_eq_true ((hpE 46 (by decide)).mp c_287), decide_eq_true (hl1.mp c_281)]; rw [← hB, g_loI heN, g_b2n c_307]; simp) h1 h2 h3
          · refine x_aload_n d_RD_scan_310 rfl rfl ?_
            refine x_get d_RD_scan_311 f_RD_89 (Nat.le_of_ble_eq_true rfl) (Nat.le_of_ble_eq_true rfl) (by first | rfl | assumption) (by rfl) ?_
            refine x_iload_n d_RD_scan_314 rfl rfl ?_
            refine x_bald d_RD_scan_315 (Nat.le_of_ble_eq_true rfl) (Nat.le_of_ble_eq_true rfl) (by first | rfl | assumption) (vp_in_nI (show e < 4096 by omega) (by decide)) ?_
            refine x_topi (g_sb (u e)) (by rw [nI_clamp (by omega)]) ?_
            refine x_bipush 37 d_RD_scan_316 (by decide) ?_
            refine x_icmp_ne 325 d_RD_scan_318 (by decide) (fun c_318 => ?_) (fun c_318 => ?_)
            · refine x_iconst 0 d_RD_scan_325 (by decide) ?_
              exact hfin false Wd (by unfold g_endb; rw [decide_eq_true ((hpE 46 (by decide)).mp c_287), decide_eq_true (hl1.mp c_281)]; rw [← hB, decide_eq_false hnn, decide_eq_false (show ¬ g_at u N e = 37 from fun z => c_318 (by rw [← g_loI (u := u) heN]; exact (hE 37 (by decide)).mpr z)), g_loI heN, g_b2z c_307]; rfl) h1 h2 h3
            · refine x_iconst 1 d_RD_scan_321 (by decide) ?_
              refine x_goto 326 d_RD_scan_322 (by decide) ?_
              exact hfin true Wd (by unfold g_endb; rw [decide_eq_true ((hpE 46 (by decide)).mp c_287), decide_eq_true (hl1.mp c_281)]; rw [decide_eq_true ((hE 37 (by decide)).mp (by rw [g_loI heN]; exact c_318))]; simp) h1 h2 h3
  intro m
  induction m with
  | zero =>
    intro i Wd hi hpi hx he
    obtain rfl : i = N := by omega
    obtain rfl : i = e := he
    refine x_aload_n d_RD_scan_249 rfl rfl ?_
    refine x_iload_n d_RD_scan_250 rfl rfl ?_
    refine x_callV1Y d_RD_scan_251 k_RD_148 (Nat.le_of_ble_eq_true rfl) (Nat.le_of_ble_eq_true rfl) (by first | rfl | assumption) (by rfl) (w_RD_look h22 hN (by omega)) (Nat.le_of_ble_eq_true rfl) (Nat.le_of_ble_eq_true rfl) (Nat.le_of_ble_eq_true rfl) (Nat.le_of_ble_eq_true rfl) (Nat.le_of_ble_eq_true rfl) rfl ?_
    refine x_callS1Y d_RD_scan_254 k_RD_168 (w_RD_symbol_lo hu) (Nat.le_of_ble_eq_true rfl) (Nat.le_of_ble_eq_true rfl) (Nat.le_of_ble_eq_true rfl) (Nat.le_of_ble_eq_true rfl) (Nat.le_of_ble_eq_true rfl) rfl ?_
    refine x_if_eq 276 d_RD_scan_257 (by decide) (fun _ => ?_) (fun z => absurd (show g_b2 (g_symb (g_at u i i)) = 0 by rw [g_at_out (Nat.le_refl _)]; decide +kernel) z)
    exact hend Wd hpi (Nat.le_refl _) hx
  | succ m ih =>
    intro i Wd hi hpi hx he
    refine x_aload_n d_RD_scan_249 rfl rfl ?_
    refine x_iload_n d_RD_scan_250 rfl rfl ?_
    refine x_callV1Y d_RD_scan_251 k_RD_148 (Nat.le_of_ble_eq_true rfl) (Nat.le_of_ble_eq_true rfl) (by first | rfl | assumption) (by rfl) (w_RD_look h22 hN (by omega)) (Nat.le_of_ble_eq_true rfl) (Nat.le_of_ble_eq_true rfl) (Nat.le_of_ble_eq_true rfl) (Nat.le_of_ble_eq_true rfl) (Nat.le_of_ble_eq_true rfl) rfl ?_
    refine x_callS1Y d_RD_scan_254 k_RD_168 (w_RD_symbol_lo hu) (Nat.le_of_ble_eq_true rfl) (Nat.le_of_ble_eq_true rfl) (Nat.le_of_ble_eq_true rfl) (Nat.le_of_ble_eq_true rfl) (Nat.le_of_ble_eq_true rfl) rfl ?_
    refine x_if_eq 276 d_RD_scan_257 (by decide) (fun c_257 => ?_) (fun c_257 => ?_)
    · obtain rfl : i = e := (g_run_no c_257).symm.trans he
      exact hend Wd hpi (by omega) hx
    · refine x_aload_n d_RD_scan_260 rfl rfl ?_
      refine x_aload_n d_RD_scan_261 rfl rfl ?_
      refine x_get d_RD_scan_262 f_RD_89 (Nat.le_of_ble_eq_true rfl) (Nat.le_of_ble_eq_true rfl) (by first | rfl | assumption) (by rfl) ?_
      refine x_iload_n d_RD_scan_265 rfl rfl ?_
      refine x_bald d_RD_scan_266 (Nat.le_of_ble_eq_true rfl) (Nat.le_of_ble_eq_true rfl) (by first | rfl | assumption) (vp_in_nI (show i < 4096 by omega) (by decide)) ?_
      refine x_topi (g_sb (u i)) (by rw [nI_clamp (by omega)]) ?_
      refine x_callV1Y d_RD_scan_267 k_RD_154 (Nat.le_of_ble_eq_true rfl) (Nat.le_of_ble_eq_true rfl) (by first | rfl | assumption) (by rfl) (w_RD_letter (L := i - p) (by omega) (g_sbR _ (hu i))) (Nat.le_of_ble_eq_true rfl) (Nat.le_of_ble_eq_true rfl) (Nat.le_of_ble_eq_true rfl) (Nat.le_of_ble_eq_true rfl) (Nat.le_of_ble_eq_true rfl) rfl ?_
      refine x_iinc d_RD_scan_270 rfl 1 (by decide) (Nat.le_of_ble_eq_true rfl) ?_
      refine x_goto 249 d_RD_scan_273 (by decide) ?_
      refine x_lv [(0, .ref 36), (1, .int (nI (i + 1))), (2, .int (g_lo u N p))] (by rw [nI_succ i]; rfl) ?_
      have hgo := ih (i + 1) (upd Wd (i - p) (g_sb (u i))) (by omega) (by omega) (by rw [show i + 1 - p = i - p + 1 by omega, g_tp_snoc, show p + (i - p) = i by omega]; have := g_wxs (c := g_sb (u i)) hx; rw [g_tp_len] at this; exact this) ((g_run_yes c_257).symm.trans he)
      rw [show i + 1 - p = i - p + 1 by omega] at hgo
      exact hgo
