theorem g_sbX (y : Int32) : ∃ v, v < 256 ∧ y.toInt8.toInt32 = g_sb v := by
  refine ⟨y.toInt8.toBitVec.toNat, y.toInt8.toBitVec.isLt, ?_⟩
  unfold g_sb
  congr 1
  apply Int8.toBitVec_inj.mp
  show _ = ((Int32.ofNat y.toInt8.toBitVec.toNat).toBitVec).signExtend 8
  apply BitVec.eq_of_toNat_eq
  rw [BitVec.signExtend_eq_setWidth_of_le _ (by decide), BitVec.toNat_setWidth]
  show _ = (BitVec.ofNat 32 y.toInt8.toBitVec.toNat).toNat % 2 ^ 8
  have := y.toInt8.toBitVec.isLt
  rw [BitVec.toNat_ofNat]
  omega
theorem g_w3 {x : Int32} (h0 : ¬ x = 0) (h1 : ¬ x = 1) (h2 : ¬ x = 2) : x < 0 ∨ ¬ x ≤ 2 := by
  by_cases a : x < 0
  · exact Or.inl a
  · refine Or.inr fun b => ?_
    rw [Int32.lt_iff_toInt_lt] at a
    rw [Int32.le_iff_toInt_le] at b
    have e0 : (0 : Int32).toInt = 0 := by decide
    have e2 : (2 : Int32).toInt = 2 := by decide
    have n0 : x.toInt ≠ 0 := fun e => h0 (Int32.toInt_inj.mp (by rw [e]; decide))
    have n1 : x.toInt ≠ 1 := fun e => h1 (Int32.toInt_inj.mp (by rw [e]; decide))
    have n2 : x.toInt ≠ 2 := fun e => h2 (Int32.toInt_inj.mp (by rw [e]; decide))
    omega
theorem x_callS2N {E : xR} {M : xM} {R : Room} {Q : xK} {n : Nat} {h : xH} {pc : Nat} {lv : List (Nat × Value)} {rest : List Value} {cells slots idx : Nat} {M' : xM} {d0 kc ks : Nat} {a1 a2 : Value} {v : Option Value} {h1 : xH} {k1 j1 : Nat} (d : decode M.2.1 pc = .ok (.invokestatic idx, 3)) (hk : x_CS M.1.cls idx M' 2) (hM : x_Mt E M' d0 kc ks [a1, a2] n h (x_YN v n h1 k1 j1)) (hfr : d0 + 1 ≤ R.frames) (hlo : 8 + (M'.2.2.1 + 11) + 64 * d0 ≤ R.locals) (hcl : cells + kc ≤ R.cells) (hsl : slots + ks ≤ R.slots) (hrs : (rest.map fun v => v.category).sum ≤ 8) (ho : M.2.2.2.2.all (fun t => !(decide (t.1 ≤ pc) && decide (pc < t.2.1))) = true) (hnt : ¬ x_tg E) (kr : x_W E M R Q n h1 (pc + 3) lv (v.toList ++ rest) (cells + k1) (slots + j1)) : x_W E M R Q n h pc lv (a2 :: a1 :: rest) cells slots :=
  x_callS2 d hk hM hfr hlo hcl hsl hrs ho (fun z => absurd z hnt) (fun v' n' h' k j hq => by obtain ⟨e1, e2, e3, e4, e5⟩ := hq; cases e1; subst e2 e4 e5; exact x_same e3 kr) (fun q n' h' k j hq => by cases hq.1)
theorem x_callS3N {E : xR} {M : xM} {R : Room} {Q : xK} {n : Nat} {h : xH} {pc : Nat} {lv : List (Nat × Value)} {rest : List Value} {cells slots idx : Nat} {M' : xM} {d0 kc ks : Nat} {a1 a2 a3 : Value} {v : Option Value} {h1 : xH} {k1 j1 : Nat} (d : decode M.2.1 pc = .ok (.invokestatic idx, 3)) (hk : x_CS M.1.cls idx M' 3) (hM : x_Mt E M' d0 kc ks [a1, a2, a3] n h (x_YN v n h1 k1 j1)) (hfr : d0 + 1 ≤ R.frames) (hlo : 8 + (M'.2.2.1 + 11) + 64 * d0 ≤ R.locals) (hcl : cells + kc ≤ R.cells) (hsl : slots + ks ≤ R.slots) (hrs : (rest.map fun v => v.category).sum ≤ 8) (ho : M.2.2.2.2.all (fun t => !(decide (t.1 ≤ pc) && decide (pc < t.2.1))) = true) (hnt : ¬ x_tg E) (kr : x_W E M R Q n h1 (pc + 3) lv (v.toList ++ rest) (cells + k1) (slots + j1)) : x_W E M R Q n h pc lv (a3 :: a2 :: a1 :: rest) cells slots :=
  x_callS3 d hk hM hfr hlo hcl hsl hrs ho (fun z => absurd z hnt) (fun v' n' h' k j hq => by obtain ⟨e1, e2, e3, e4, e5⟩ := hq; cases e1; subst e2 e4 e5; exact x_same e3 kr) (fun q n' h' k j hq => by cases hq.1)
theorem x_callS7N {E : xR} {M : xM} {R : Room} {Q : xK} {n : Nat} {h : xH} {pc : Nat} {lv : List (Nat × Value)} {rest : List Value} {cells slots idx : Nat} {M' : xM} {d0 kc ks : Nat} {a1 a2 a3 a4 a5 a6 a7 : Value} {v : Option Value} {h1 : xH} {k1 j1 : Nat} (d : decode M.2.1 pc = .ok (.invokestatic idx, 3)) (hk : x_CS M.1.cls idx M' 7) (hM : x_Mt E M' d0 kc ks [a1, a2, a3, a4, a5, a6, a7] n h (x_YN v n h1 k1 j1)) (hfr : d0 + 1 ≤ R.frames) (hlo : 8 + (M'.2.2.1 + 11) + 64 * d0 ≤ R.locals) (hcl : cells + kc ≤ R.cells) (hsl : slots + ks ≤ R.slots) (hrs : (rest.map fun v => v.category).sum ≤ 8) (ho : M.2.2.2.2.all (fun t => !(decide (t.1 ≤ pc) && decide (pc < t.2.1))) = true) (hnt : ¬ x_tg E) (kr : x_W E M R Q n h1 (pc + 3) lv (v.toList ++ rest) (cells + k1) (slots + j1)) : x_W E M R Q n h pc lv (a7 :: a6 :: a5 :: a4 :: a3 :: a2 :: a1 :: rest) cells slots :=
  x_callS7 d hk hM hfr hlo hcl hsl hrs ho (fun z => absurd z hnt) (fun v' n' h' k j hq => by obtain ⟨e1, e2, e3, e4, e5⟩ := hq; cases e1; subst e2 e4 e5; exact x_same e3 kr) (fun q n' h' k j hq => by cases hq.1)
theorem g_cmp0 (x : Int64) : lg_cmp x x = 0 := (lg_cmp_eq x x).mpr rfl
/-- both worlds at once, told alike -/
def g_LVI (h : xH) : Prop := ∃ (u : Nat → Nat) (N ra rl : Nat) (sy va ne bk : Int32) (Rs Rs2 : Nat → Int32) (th : Int32) (g : Nat → Int64), (∀ i, u i < 256) ∧ N ≤ 4096 ∧ (ra = 19 ∨ ra = 20) ∧ rl ≤ 4096 ∧ g_CW h u N ra (nI rl) sy va ne bk Rs ∧ g_MM h u N th bk rl sy va ne Rs2 ∧ (∀ i, i < rl → Rs i = Rs2 i) ∧ h 51 = .inl (2, 1, .inr (.inl g))
theorem g_CWn {h h' : xH} {u u' : Nat → Nat} {N N' ra : Nat} {rl sy va ne bk : Int32} {Rs : Nat → Int32} (hra : ra = 19 ∨ ra = 20) (H : g_CW h u N ra rl sy va ne bk Rs) (e0 : h' 0 = .inr (0, [.ref 1, .ref 2, .ref 15, .ref (39 - ra), .ref ra, .int (nI N'), .int rl, .int sy, .int va, .int ne])) (e1 : h' 1 = .inl (1, 4096, .inl (fun i => g_sb (u' i)))) (he : ∀ i, 2 ≤ i → i < 21 → h' i = h i) : g_CW h' u' N' ra rl sy va ne bk Rs := by
  unfold g_CW at *
  refine ⟨e0, e1, ?_⟩
  have H2 := H.2.2
  rw [he 2 (by decide) (by decide), he 3 (by decide) (by decide), he 5 (by decide) (by decide), he 6 (by decide) (by decide), he 7 (by decide) (by decide), he 8 (by decide) (by decide), he 9 (by decide) (by decide), he 10 (by decide) (by decide), he 11 (by decide) (by decide), he 12 (by decide) (by decide), he 13 (by decide) (by decide), he 15 (by decide) (by decide), he 16 (by decide) (by decide), he 17 (by decide) (by decide), he (39 - ra) (by omega) (by omega), he ra (by omega) (by omega)]
  exact H2
theorem g_putB {f : Nat → Int32} {t : Nat} {x : Int32} (hf : ∀ i, ∃ v, v < 256 ∧ f i = g_sb v) : ∀ i, ∃ v, v < 256 ∧ g_put f t x i = g_sb v := by
  have hu : ∀ {f : Nat → Int32} {t : Nat} {z : Int32}, (∀ i, ∃ v, v < 256 ∧ f i = g_sb v) → ∀ i, ∃ v, v < 256 ∧ upd f t (g_b x z) i = g_sb v := by
    intro f t z hf i
    by_cases e : i = t
    · rw [e, g_updY]; exact g_sbX _
    · rw [g_updN e]; exact hf i
  exact hu (hu (hu (hu hf)))
theorem g_feedB {u : Nat → Nat} {t : Nat} {a b c d e : Int32} (hu : ∀ i, u i < 256) : ∃ u' : Nat → Nat, (∀ i, u' i < 256) ∧ g_feed (fun i => g_sb (u i)) t a b c d e = fun i => g_sb (u' i) := by
  have h : ∀ i, ∃ v, v < 256 ∧ g_feed (fun i => g_sb (u i)) t a b c d e i = g_sb v := g_putB (g_putB (g_putB (g_putB (g_putB (fun i => ⟨u i, hu i, rfl⟩)))))
  obtain ⟨u', hu'⟩ := Classical.axiomOfChoice h
  exact ⟨u', fun i => (hu' i).1, funext fun i => (hu' i).2⟩
theorem d_LA_law_0 : decode M_LA_law.2.1 0 = .ok (.new 8, 3) := by decide +kernel
theorem d_LA_law_3 : decode M_LA_law.2.1 3 = .ok (.dup, 1) := by decide +kernel
theorem d_LA_law_4 : decode M_LA_law.2.1 4 = .ok (.invokespecial 37, 3) := by decide +kernel
theorem d_LA_law_7 : decode M_LA_law.2.1 7 = .ok (.astore_n 1, 1) := by decide +kernel
theorem d_LA_law_8 : decode M_LA_law.2.1 8 = .ok (.new 38, 3) := by decide +kernel
theorem d_LA_law_11 : decode M_LA_law.2.1 11 = .ok (.dup, 1) := by decide +kernel
theorem d_LA_law_12 : decode M_LA_law.2.1 12 = .ok (.invokespecial 40, 3) := by decide +kernel
theorem d_LA_law_15 : decode M_LA_law.2.1 15 = .ok (.astore_n 2, 1) := by decide +kernel
theorem d_LA_law_16 : decode M_LA_law.2.1 16 = .ok (.iconst 1, 1) := by decide +kernel
theorem d_LA_law_17 : decode M_LA_law.2.1 17 = .ok (.newarray .long, 2) := by decide +kernel
theorem d_LA_law_19 : decode M_LA_law.2.1 19 = .ok (.astore_n 3, 1) := by decide +kernel
theorem d_LA_law_20 : decode M_LA_law.2.1 20 = .ok (.iconst 0, 1) := by decide +kernel
theorem d_LA_law_21 : decode M_LA_law.2.1 21 = .ok (.istore 4, 2) := by decide +kernel
theorem d_LA_law_23 : decode M_LA_law.2.1 23 = .ok (.iload 4, 2) := by decide +kernel
theorem d_LA_law_25 : decode M_LA_law.2.1 25 = .ok (.aload_n 0, 1) := by decide +kernel
theorem d_LA_law_26 : decode M_LA_law.2.1 26 = .ok (.arraylength, 1) := by decide +kernel
theorem d_LA_law_27 : decode M_LA_law.2.1 27 = .ok (.bipush 6, 2) := by decide +kernel
theorem d_LA_law_29 : decode M_LA_law.2.1 29 = .ok (.isub, 1) := by decide +kernel
theorem d_LA_law_30 : decode M_LA_law.2.1 30 = .ok (.if_icmp .gt 427, 3) := by decide +kernel
theorem d_LA_law_33 : decode M_LA_law.2.1 33 = .ok (.aload_n 0, 1) := by decide +kernel
theorem d_LA_law_34 : decode M_LA_law.2.1 34 = .ok (.iload 4, 2) := by decide +kernel
theorem d_LA_law_36 : decode M_LA_law.2.1 36 = .ok (.iaload, 1) := by decide +kernel
theorem d_LA_law_37 : decode M_LA_law.2.1 37 = .ok (.bipush 7, 2) := by decide +kernel
theorem d_LA_law_39 : decode M_LA_law.2.1 39 = .ok (.iand, 1) := by decide +kernel
theorem d_LA_law_40 : decode M_LA_law.2.1 40 = .ok (.tableswitch 411 0 5 #[40, 144, 200, 244, 300, 355], 40) := by decide +kernel
theorem d_LA_law_80 : decode M_LA_law.2.1 80 = .ok (.aload_n 1, 1) := by decide +kernel
theorem d_LA_law_81 : decode M_LA_law.2.1 81 = .ok (.aload_n 0, 1) := by decide +kernel
theorem d_LA_law_82 : decode M_LA_law.2.1 82 = .ok (.iload 4, 2) := by decide +kernel
theorem d_LA_law_84 : decode M_LA_law.2.1 84 = .ok (.iconst 1, 1) := by decide +kernel
theorem d_LA_law_85 : decode M_LA_law.2.1 85 = .ok (.iadd, 1) := by decide +kernel
theorem d_LA_law_86 : decode M_LA_law.2.1 86 = .ok (.iaload, 1) := by decide +kernel
theorem d_LA_law_87 : decode M_LA_law.2.1 87 = .ok (.aload_n 0, 1) := by decide +kernel
theorem d_LA_law_88 : decode M_LA_law.2.1 88 = .ok (.iload 4, 2) := by decide +kernel
theorem d_LA_law_90 : decode M_LA_law.2.1 90 = .ok (.iconst 2, 1) := by decide +kernel
theorem d_LA_law_91 : decode M_LA_law.2.1 91 = .ok (.iadd, 1) := by decide +kernel
theorem d_LA_law_92 : decode M_LA_law.2.1 92 = .ok (.iaload, 1) := by decide +kernel
theorem d_LA_law_93 : decode M_LA_law.2.1 93 = .ok (.aload_n 0, 1) := by decide +kernel
theorem d_LA_law_94 : decode M_LA_law.2.1 94 = .ok (.iload 4, 2) := by decide +kernel
theorem d_LA_law_96 : decode M_LA_law.2.1 96 = .ok (.iconst 3, 1) := by decide +kernel
theorem d_LA_law_97 : decode M_LA_law.2.1 97 = .ok (.iadd, 1) := by decide +kernel
theorem d_LA_law_98 : decode M_LA_law.2.1 98 = .ok (.iaload, 1) := by decide +kernel
theorem d_LA_law_99 : decode M_LA_law.2.1 99 = .ok (.aload_n 0, 1) := by decide +kernel
theorem d_LA_law_100 : decode M_LA_law.2.1 100 = .ok (.iload 4, 2) := by decide +kernel
theorem d_LA_law_102 : decode M_LA_law.2.1 102 = .ok (.iconst 4, 1) := by decide +kernel
theorem d_LA_law_103 : decode M_LA_law.2.1 103 = .ok (.iadd, 1) := by decide +kernel
theorem d_LA_law_104 : decode M_LA_law.2.1 104 = .ok (.iaload, 1) := by decide +kernel
theorem d_LA_law_105 : decode M_LA_law.2.1 105 = .ok (.aload_n 0, 1) := by decide +kernel
theorem d_LA_law_106 : decode M_LA_law.2.1 106 = .ok (.iload 4, 2) := by decide +kernel
theorem d_LA_law_108 : decode M_LA_law.2.1 108 = .ok (.iconst 5, 1) := by decide +kernel
theorem d_LA_law_109 : decode M_LA_law.2.1 109 = .ok (.iadd, 1) := by decide +kernel
theorem d_LA_law_110 : decode M_LA_law.2.1 110 = .ok (.iaload, 1) := by decide +kernel
theorem d_LA_law_111 : decode M_LA_law.2.1 111 = .ok (.aload_n 3, 1) := by decide +kernel
theorem d_LA_law_112 : decode M_LA_law.2.1 112 = .ok (.invokestatic 41, 3) := by decide +kernel
theorem d_LA_law_115 : decode M_LA_law.2.1 115 = .ok (.istore 5, 2) := by decide +kernel
theorem d_LA_law_117 : decode M_LA_law.2.1 117 = .ok (.aload_n 2, 1) := by decide +kernel
theorem d_LA_law_118 : decode M_LA_law.2.1 118 = .ok (.aload_n 0, 1) := by decide +kernel
theorem d_LA_law_119 : decode M_LA_law.2.1 119 = .ok (.iload 4, 2) := by decide +kernel
theorem d_LA_law_121 : decode M_LA_law.2.1 121 = .ok (.iconst 1, 1) := by decide +kernel
theorem d_LA_law_122 : decode M_LA_law.2.1 122 = .ok (.iadd, 1) := by decide +kernel
theorem d_LA_law_123 : decode M_LA_law.2.1 123 = .ok (.iaload, 1) := by decide +kernel
theorem d_LA_law_124 : decode M_LA_law.2.1 124 = .ok (.aload_n 0, 1) := by decide +kernel
theorem d_LA_law_125 : decode M_LA_law.2.1 125 = .ok (.iload 4, 2) := by decide +kernel
theorem d_LA_law_127 : decode M_LA_law.2.1 127 = .ok (.iconst 2, 1) := by decide +kernel
theorem d_LA_law_128 : decode M_LA_law.2.1 128 = .ok (.iadd, 1) := by decide +kernel
theorem d_LA_law_129 : decode M_LA_law.2.1 129 = .ok (.iaload, 1) := by decide +kernel
theorem d_LA_law_130 : decode M_LA_law.2.1 130 = .ok (.aload_n 0, 1) := by decide +kernel
theorem d_LA_law_131 : decode M_LA_law.2.1 131 = .ok (.iload 4, 2) := by decide +kernel
theorem d_LA_law_133 : decode M_LA_law.2.1 133 = .ok (.iconst 3, 1) := by decide +kernel
theorem d_LA_law_134 : decode M_LA_law.2.1 134 = .ok (.iadd, 1) := by decide +kernel
theorem d_LA_law_135 : decode M_LA_law.2.1 135 = .ok (.iaload, 1) := by decide +kernel
theorem d_LA_law_136 : decode M_LA_law.2.1 136 = .ok (.aload_n 0, 1) := by decide +kernel
theorem d_LA_law_137 : decode M_LA_law.2.1 137 = .ok (.iload 4, 2) := by decide +kernel
theorem d_LA_law_139 : decode M_LA_law.2.1 139 = .ok (.iconst 4, 1) := by decide +kernel
theorem d_LA_law_140 : decode M_LA_law.2.1 140 = .ok (.iadd, 1) := by decide +kernel
theorem d_LA_law_141 : decode M_LA_law.2.1 141 = .ok (.iaload, 1) := by decide +kernel
theorem d_LA_law_142 : decode M_LA_law.2.1 142 = .ok (.aload_n 0, 1) := by decide +kernel
theorem d_LA_law_143 : decode M_LA_law.2.1 143 = .ok (.iload 4, 2) := by decide +kernel
theorem d_LA_law_145 : decode M_LA_law.2.1 145 = .ok (.iconst 5, 1) := by decide +kernel
theorem d_LA_law_146 : decode M_LA_law.2.1 146 = .ok (.iadd, 1) := by decide +kernel
theorem d_LA_law_147 : decode M_LA_law.2.1 147 = .ok (.iaload, 1) := by decide +kernel
theorem d_LA_law_148 : decode M_LA_law.2.1 148 = .ok (.invokevirtual 46, 3) := by decide +kernel
theorem d_LA_law_151 : decode M_LA_law.2.1 151 = .ok (.istore 6, 2) := by decide +kernel
theorem d_LA_law_153 : decode M_LA_law.2.1 153 = .ok (.aload_n 2, 1) := by decide +kernel
theorem d_LA_law_154 : decode M_LA_law.2.1 154 = .ok (.invokevirtual 47, 3) := by decide +kernel
theorem d_LA_law_157 : decode M_LA_law.2.1 157 = .ok (.iload 5, 2) := by decide +kernel
theorem d_LA_law_159 : decode M_LA_law.2.1 159 = .ok (.if_icmp .eq 5, 3) := by decide +kernel
theorem d_LA_law_162 : decode M_LA_law.2.1 162 = .ok (.iconst 0, 1) := by decide +kernel
theorem d_LA_law_163 : decode M_LA_law.2.1 163 = .ok (.ireturn, 1) := by decide +kernel
theorem d_LA_law_164 : decode M_LA_law.2.1 164 = .ok (.iload 5, 2) := by decide +kernel
theorem d_LA_law_166 : decode M_LA_law.2.1 166 = .ok (.ifCond .ne 15, 3) := by decide +kernel
theorem d_LA_law_169 : decode M_LA_law.2.1 169 = .ok (.aload_n 3, 1) := by decide +kernel
theorem d_LA_law_170 : decode M_LA_law.2.1 170 = .ok (.iconst 0, 1) := by decide +kernel
theorem d_LA_law_171 : decode M_LA_law.2.1 171 = .ok (.laload, 1) := by decide +kernel
theorem d_LA_law_172 : decode M_LA_law.2.1 172 = .ok (.iload 6, 2) := by decide +kernel
theorem d_LA_law_174 : decode M_LA_law.2.1 174 = .ok (.i2l, 1) := by decide +kernel
theorem d_LA_law_175 : decode M_LA_law.2.1 175 = .ok (.lcmp, 1) := by decide +kernel
theorem d_LA_law_176 : decode M_LA_law.2.1 176 = .ok (.ifCond .eq 5, 3) := by decide +kernel
theorem d_LA_law_179 : decode M_LA_law.2.1 179 = .ok (.iconst 0, 1) := by decide +kernel
theorem d_LA_law_180 : decode M_LA_law.2.1 180 = .ok (.ireturn, 1) := by decide +kernel
theorem d_LA_law_181 : decode M_LA_law.2.1 181 = .ok (.goto 270, 3) := by decide +kernel
theorem d_LA_law_184 : decode M_LA_law.2.1 184 = .ok (.aload_n 1, 1) := by decide +kernel
theorem d_LA_law_185 : decode M_LA_law.2.1 185 = .ok (.aload_n 0, 1) := by decide +kernel
theorem d_LA_law_186 : decode M_LA_law.2.1 186 = .ok (.iload 4, 2) := by decide +kernel
theorem d_LA_law_188 : decode M_LA_law.2.1 188 = .ok (.iconst 1, 1) := by decide +kernel
theorem d_LA_law_189 : decode M_LA_law.2.1 189 = .ok (.iadd, 1) := by decide +kernel
theorem d_LA_law_190 : decode M_LA_law.2.1 190 = .ok (.iaload, 1) := by decide +kernel
theorem d_LA_law_191 : decode M_LA_law.2.1 191 = .ok (.aload_n 3, 1) := by decide +kernel
theorem d_LA_law_192 : decode M_LA_law.2.1 192 = .ok (.invokestatic 50, 3) := by decide +kernel
theorem d_LA_law_195 : decode M_LA_law.2.1 195 = .ok (.istore 5, 2) := by decide +kernel
theorem d_LA_law_197 : decode M_LA_law.2.1 197 = .ok (.aload_n 2, 1) := by decide +kernel
theorem d_LA_law_198 : decode M_LA_law.2.1 198 = .ok (.aload_n 0, 1) := by decide +kernel
theorem d_LA_law_199 : decode M_LA_law.2.1 199 = .ok (.iload 4, 2) := by decide +kernel
theorem d_LA_law_201 : decode M_LA_law.2.1 201 = .ok (.iconst 1, 1) := by decide +kernel
theorem d_LA_law_202 : decode M_LA_law.2.1 202 = .ok (.iadd, 1) := by decide +kernel
theorem d_LA_law_203 : decode M_LA_law.2.1 203 = .ok (.iaload, 1) := by decide +kernel
theorem d_LA_law_204 : decode M_LA_law.2.1 204 = .ok (.invokevirtual 53, 3) := by decide +kernel
theorem d_LA_law_207 : decode M_LA_law.2.1 207 = .ok (.istore 6, 2) := by decide +kernel
theorem d_LA_law_209 : decode M_LA_law.2.1 209 = .ok (.aload_n 2, 1) := by decide +kernel
theorem d_LA_law_210 : decode M_LA_law.2.1 210 = .ok (.invokevirtual 47, 3) := by decide +kernel
theorem d_LA_law_213 : decode M_LA_law.2.1 213 = .ok (.iload 5, 2) := by decide +kernel
theorem d_LA_law_215 : decode M_LA_law.2.1 215 = .ok (.if_icmp .eq 5, 3) := by decide +kernel
theorem d_LA_law_218 : decode M_LA_law.2.1 218 = .ok (.iconst 0, 1) := by decide +kernel
theorem d_LA_law_219 : decode M_LA_law.2.1 219 = .ok (.ireturn, 1) := by decide +kernel
theorem d_LA_law_220 : decode M_LA_law.2.1 220 = .ok (.iload 5, 2) := by decide +kernel
theorem d_LA_law_222 : decode M_LA_law.2.1 222 = .ok (.ifCond .ne 15, 3) := by decide +kernel
theorem d_LA_law_225 : decode M_LA_law.2.1 225 = .ok (.aload_n 3, 1) := by decide +kernel
theorem d_LA_law_226 : decode M_LA_law.2.1 226 = .ok (.iconst 0, 1) := by decide +kernel
theorem d_LA_law_227 : decode M_LA_law.2.1 227 = .ok (.laload, 1) := by decide +kernel
theorem d_LA_law_228 : decode M_LA_law.2.1 228 = .ok (.iload 6, 2) := by decide +kernel
theorem d_LA_law_230 : decode M_LA_law.2.1 230 = .ok (.i2l, 1) := by decide +kernel
theorem d_LA_law_231 : decode M_LA_law.2.1 231 = .ok (.lcmp, 1) := by decide +kernel
theorem d_LA_law_232 : decode M_LA_law.2.1 232 = .ok (.ifCond .eq 5, 3) := by decide +kernel
theorem d_LA_law_235 : decode M_LA_law.2.1 235 = .ok (.iconst 0, 1) := by decide +kernel
theorem d_LA_law_236 : decode M_LA_law.2.1 236 = .ok (.ireturn, 1) := by decide +kernel
theorem d_LA_law_237 : decode M_LA_law.2.1 237 = .ok (.goto 214, 3) := by decide +kernel
theorem d_LA_law_240 : decode M_LA_law.2.1 240 = .ok (.aload_n 1, 1) := by decide +kernel
theorem d_LA_law_241 : decode M_LA_law.2.1 241 = .ok (.aload_n 3, 1) := by decide +kernel
theorem d_LA_law_242 : decode M_LA_law.2.1 242 = .ok (.invokestatic 54, 3) := by decide +kernel
theorem d_LA_law_245 : decode M_LA_law.2.1 245 = .ok (.istore 5, 2) := by decide +kernel
theorem d_LA_law_247 : decode M_LA_law.2.1 247 = .ok (.aload_n 2, 1) := by decide +kernel
theorem d_LA_law_248 : decode M_LA_law.2.1 248 = .ok (.invokevirtual 57, 3) := by decide +kernel
theorem d_LA_law_251 : decode M_LA_law.2.1 251 = .ok (.istore 6, 2) := by decide +kernel
theorem d_LA_law_253 : decode M_LA_law.2.1 253 = .ok (.aload_n 2, 1) := by decide +kernel
theorem d_LA_law_254 : decode M_LA_law.2.1 254 = .ok (.invokevirtual 47, 3) := by decide +kernel
theorem d_LA_law_257 : decode M_LA_law.2.1 257 = .ok (.iload 5, 2) := by decide +kernel
theorem d_LA_law_259 : decode M_LA_law.2.1 259 = .ok (.if_icmp .eq 5, 3) := by decide +kernel
theorem d_LA_law_262 : decode M_LA_law.2.1 262 = .ok (.iconst 0, 1) := by decide +kernel
theorem d_LA_law_263 : decode M_LA_law.2.1 263 = .ok (.ireturn, 1) := by decide +kernel
theorem d_LA_law_264 : decode M_LA_law.2.1 264 = .ok (.iload 5, 2) := by decide +kernel
theorem d_LA_law_266 : decode M_LA_law.2.1 266 = .ok (.ifCond .ne 15, 3) := by decide +kernel
theorem d_LA_law_269 : decode M_LA_law.2.1 269 = .ok (.aload_n 3, 1) := by decide +kernel
theorem d_LA_law_270 : decode M_LA_law.2.1 270 = .ok (.iconst 0, 1) := by decide +kernel
theorem d_LA_law_271 : decode M_LA_law.2.1 271 = .ok (.laload, 1) := by decide +kernel
theorem d_LA_law_272 : decode M_LA_law.2.1 272 = .ok (.iload 6, 2) := by decide +kernel
theorem d_LA_law_274 : decode M_LA_law.2.1 274 = .ok (.i2l, 1) := by decide +kernel
theorem d_LA_law_275 : decode M_LA_law.2.1 275 = .ok (.lcmp, 1) := by decide +kernel
theorem d_LA_law_276 : decode M_LA_law.2.1 276 = .ok (.ifCond .eq 5, 3) := by decide +kernel
theorem d_LA_law_279 : decode M_LA_law.2.1 279 = .ok (.iconst 0, 1) := by decide +kernel
theorem d_LA_law_280 : decode M_LA_law.2.1 280 = .ok (.ireturn, 1) := by decide +kernel
theorem d_LA_law_281 : decode M_LA_law.2.1 281 = .ok (.goto 170, 3) := by decide +kernel
theorem d_LA_law_284 : decode M_LA_law.2.1 284 = .ok (.aload_n 1, 1) := by decide +kernel
theorem d_LA_law_285 : decode M_LA_law.2.1 285 = .ok (.aload_n 0, 1) := by decide +kernel
theorem d_LA_law_286 : decode M_LA_law.2.1 286 = .ok (.iload 4, 2) := by decide +kernel
theorem d_LA_law_288 : decode M_LA_law.2.1 288 = .ok (.iconst 1, 1) := by decide +kernel
theorem d_LA_law_289 : decode M_LA_law.2.1 289 = .ok (.iadd, 1) := by decide +kernel
theorem d_LA_law_290 : decode M_LA_law.2.1 290 = .ok (.iaload, 1) := by decide +kernel
theorem d_LA_law_291 : decode M_LA_law.2.1 291 = .ok (.aload_n 3, 1) := by decide +kernel
theorem d_LA_law_292 : decode M_LA_law.2.1 292 = .ok (.invokestatic 58, 3) := by decide +kernel
theorem d_LA_law_295 : decode M_LA_law.2.1 295 = .ok (.istore 5, 2) := by decide +kernel
theorem d_LA_law_297 : decode M_LA_law.2.1 297 = .ok (.aload_n 2, 1) := by decide +kernel
theorem d_LA_law_298 : decode M_LA_law.2.1 298 = .ok (.aload_n 0, 1) := by decide +kernel
theorem d_LA_law_299 : decode M_LA_law.2.1 299 = .ok (.iload 4, 2) := by decide +kernel
theorem d_LA_law_301 : decode M_LA_law.2.1 301 = .ok (.iconst 1, 1) := by decide +kernel
theorem d_LA_law_302 : decode M_LA_law.2.1 302 = .ok (.iadd, 1) := by decide +kernel
theorem d_LA_law_303 : decode M_LA_law.2.1 303 = .ok (.iaload, 1) := by decide +kernel
theorem d_LA_law_304 : decode M_LA_law.2.1 304 = .ok (.invokevirtual 60, 3) := by decide +kernel
theorem d_LA_law_307 : decode M_LA_law.2.1 307 = .ok (.istore 6, 2) := by decide +kernel
theorem d_LA_law_309 : decode M_LA_law.2.1 309 = .ok (.aload_n 2, 1) := by decide +kernel
theorem d_LA_law_310 : decode M_LA_law.2.1 310 = .ok (.invokevirtual 47, 3) := by decide +kernel
theorem d_LA_law_313 : decode M_LA_law.2.1 313 = .ok (.iload 5, 2) := by decide +kernel
theorem d_LA_law_315 : decode M_LA_law.2.1 315 = .ok (.if_icmp .eq 5, 3) := by decide +kernel
theorem d_LA_law_318 : decode M_LA_law.2.1 318 = .ok (.iconst 0, 1) := by decide +kernel
theorem d_LA_law_319 : decode M_LA_law.2.1 319 = .ok (.ireturn, 1) := by decide +kernel
theorem d_LA_law_320 : decode M_LA_law.2.1 320 = .ok (.iload 5, 2) := by decide +kernel
theorem d_LA_law_322 : decode M_LA_law.2.1 322 = .ok (.ifCond .ne 15, 3) := by decide +kernel
theorem d_LA_law_325 : decode M_LA_law.2.1 325 = .ok (.aload_n 3, 1) := by decide +kernel
theorem d_LA_law_326 : decode M_LA_law.2.1 326 = .ok (.iconst 0, 1) := by decide +kernel
theorem d_LA_law_327 : decode M_LA_law.2.1 327 = .ok (.laload, 1) := by decide +kernel
theorem d_LA_law_328 : decode M_LA_law.2.1 328 = .ok (.iload 6, 2) := by decide +kernel
theorem d_LA_law_330 : decode M_LA_law.2.1 330 = .ok (.i2l, 1) := by decide +kernel
theorem d_LA_law_331 : decode M_LA_law.2.1 331 = .ok (.lcmp, 1) := by decide +kernel
theorem d_LA_law_332 : decode M_LA_law.2.1 332 = .ok (.ifCond .eq 5, 3) := by decide +kernel
theorem d_LA_law_335 : decode M_LA_law.2.1 335 = .ok (.iconst 0, 1) := by decide +kernel
theorem d_LA_law_336 : decode M_LA_law.2.1 336 = .ok (.ireturn, 1) := by decide +kernel
theorem d_LA_law_337 : decode M_LA_law.2.1 337 = .ok (.goto 114, 3) := by decide +kernel
theorem d_LA_law_340 : decode M_LA_law.2.1 340 = .ok (.aload_n 1, 1) := by decide +kernel
theorem d_LA_law_341 : decode M_LA_law.2.1 341 = .ok (.aload_n 0, 1) := by decide +kernel
theorem d_LA_law_342 : decode M_LA_law.2.1 342 = .ok (.iload 4, 2) := by decide +kernel
theorem d_LA_law_344 : decode M_LA_law.2.1 344 = .ok (.iconst 1, 1) := by decide +kernel
theorem d_LA_law_345 : decode M_LA_law.2.1 345 = .ok (.iadd, 1) := by decide +kernel
theorem d_LA_law_346 : decode M_LA_law.2.1 346 = .ok (.iaload, 1) := by decide +kernel
theorem d_LA_law_347 : decode M_LA_law.2.1 347 = .ok (.aload_n 3, 1) := by decide +kernel
theorem d_LA_law_348 : decode M_LA_law.2.1 348 = .ok (.invokestatic 61, 3) := by decide +kernel
theorem d_LA_law_351 : decode M_LA_law.2.1 351 = .ok (.istore 5, 2) := by decide +kernel
theorem d_LA_law_353 : decode M_LA_law.2.1 353 = .ok (.aload_n 2, 1) := by decide +kernel
theorem d_LA_law_354 : decode M_LA_law.2.1 354 = .ok (.aload_n 0, 1) := by decide +kernel
theorem d_LA_law_355 : decode M_LA_law.2.1 355 = .ok (.iload 4, 2) := by decide +kernel
theorem d_LA_law_357 : decode M_LA_law.2.1 357 = .ok (.iconst 1, 1) := by decide +kernel
theorem d_LA_law_358 : decode M_LA_law.2.1 358 = .ok (.iadd, 1) := by decide +kernel
theorem d_LA_law_359 : decode M_LA_law.2.1 359 = .ok (.iaload, 1) := by decide +kernel
theorem d_LA_law_360 : decode M_LA_law.2.1 360 = .ok (.invokevirtual 63, 3) := by decide +kernel
theorem d_LA_law_363 : decode M_LA_law.2.1 363 = .ok (.lstore 6, 2) := by decide +kernel
theorem d_LA_law_365 : decode M_LA_law.2.1 365 = .ok (.aload_n 2, 1) := by decide +kernel
theorem d_LA_law_366 : decode M_LA_law.2.1 366 = .ok (.invokevirtual 47, 3) := by decide +kernel
theorem d_LA_law_369 : decode M_LA_law.2.1 369 = .ok (.iload 5, 2) := by decide +kernel
theorem d_LA_law_371 : decode M_LA_law.2.1 371 = .ok (.if_icmp .eq 5, 3) := by decide +kernel
theorem d_LA_law_374 : decode M_LA_law.2.1 374 = .ok (.iconst 0, 1) := by decide +kernel
theorem d_LA_law_375 : decode M_LA_law.2.1 375 = .ok (.ireturn, 1) := by decide +kernel
theorem d_LA_law_376 : decode M_LA_law.2.1 376 = .ok (.iload 5, 2) := by decide +kernel
theorem d_LA_law_378 : decode M_LA_law.2.1 378 = .ok (.ifCond .ne 14, 3) := by decide +kernel
theorem d_LA_law_381 : decode M_LA_law.2.1 381 = .ok (.aload_n 3, 1) := by decide +kernel
theorem d_LA_law_382 : decode M_LA_law.2.1 382 = .ok (.iconst 0, 1) := by decide +kernel
theorem d_LA_law_383 : decode M_LA_law.2.1 383 = .ok (.laload, 1) := by decide +kernel
theorem d_LA_law_384 : decode M_LA_law.2.1 384 = .ok (.lload 6, 2) := by decide +kernel
theorem d_LA_law_386 : decode M_LA_law.2.1 386 = .ok (.lcmp, 1) := by decide +kernel
theorem d_LA_law_387 : decode M_LA_law.2.1 387 = .ok (.ifCond .eq 5, 3) := by decide +kernel
theorem d_LA_law_390 : decode M_LA_law.2.1 390 = .ok (.iconst 0, 1) := by decide +kernel
theorem d_LA_law_391 : decode M_LA_law.2.1 391 = .ok (.ireturn, 1) := by decide +kernel
theorem d_LA_law_392 : decode M_LA_law.2.1 392 = .ok (.goto 59, 3) := by decide +kernel
theorem d_LA_law_395 : decode M_LA_law.2.1 395 = .ok (.aload_n 1, 1) := by decide +kernel
theorem d_LA_law_396 : decode M_LA_law.2.1 396 = .ok (.aload_n 0, 1) := by decide +kernel
theorem d_LA_law_397 : decode M_LA_law.2.1 397 = .ok (.iload 4, 2) := by decide +kernel
theorem d_LA_law_399 : decode M_LA_law.2.1 399 = .ok (.iconst 1, 1) := by decide +kernel
theorem d_LA_law_400 : decode M_LA_law.2.1 400 = .ok (.iadd, 1) := by decide +kernel
theorem d_LA_law_401 : decode M_LA_law.2.1 401 = .ok (.iaload, 1) := by decide +kernel
theorem d_LA_law_402 : decode M_LA_law.2.1 402 = .ok (.aload_n 3, 1) := by decide +kernel
theorem d_LA_law_403 : decode M_LA_law.2.1 403 = .ok (.invokestatic 64, 3) := by decide +kernel
theorem d_LA_law_406 : decode M_LA_law.2.1 406 = .ok (.istore 5, 2) := by decide +kernel
theorem d_LA_law_408 : decode M_LA_law.2.1 408 = .ok (.aload_n 2, 1) := by decide +kernel
theorem d_LA_law_409 : decode M_LA_law.2.1 409 = .ok (.aload_n 0, 1) := by decide +kernel
theorem d_LA_law_410 : decode M_LA_law.2.1 410 = .ok (.iload 4, 2) := by decide +kernel
theorem d_LA_law_412 : decode M_LA_law.2.1 412 = .ok (.iconst 1, 1) := by decide +kernel
theorem d_LA_law_413 : decode M_LA_law.2.1 413 = .ok (.iadd, 1) := by decide +kernel
theorem d_LA_law_414 : decode M_LA_law.2.1 414 = .ok (.iaload, 1) := by decide +kernel
theorem d_LA_law_415 : decode M_LA_law.2.1 415 = .ok (.invokevirtual 66, 3) := by decide +kernel
theorem d_LA_law_418 : decode M_LA_law.2.1 418 = .ok (.istore 6, 2) := by decide +kernel
theorem d_LA_law_420 : decode M_LA_law.2.1 420 = .ok (.aload_n 2, 1) := by decide +kernel
theorem d_LA_law_421 : decode M_LA_law.2.1 421 = .ok (.invokevirtual 47, 3) := by decide +kernel
theorem d_LA_law_424 : decode M_LA_law.2.1 424 = .ok (.iload 5, 2) := by decide +kernel
theorem d_LA_law_426 : decode M_LA_law.2.1 426 = .ok (.if_icmp .eq 5, 3) := by decide +kernel
theorem d_LA_law_429 : decode M_LA_law.2.1 429 = .ok (.iconst 0, 1) := by decide +kernel
theorem d_LA_law_430 : decode M_LA_law.2.1 430 = .ok (.ireturn, 1) := by decide +kernel
theorem d_LA_law_431 : decode M_LA_law.2.1 431 = .ok (.iload 5, 2) := by decide +kernel
theorem d_LA_law_433 : decode M_LA_law.2.1 433 = .ok (.ifCond .ne 15, 3) := by decide +kernel
theorem d_LA_law_436 : decode M_LA_law.2.1 436 = .ok (.aload_n 3, 1) := by decide +kernel
theorem d_LA_law_437 : decode M_LA_law.2.1 437 = .ok (.iconst 0, 1) := by decide +kernel
theorem d_LA_law_438 : decode M_LA_law.2.1 438 = .ok (.laload, 1) := by decide +kernel
theorem d_LA_law_439 : decode M_LA_law.2.1 439 = .ok (.iload 6, 2) := by decide +kernel
theorem d_LA_law_441 : decode M_LA_law.2.1 441 = .ok (.i2l, 1) := by decide +kernel
theorem d_LA_law_442 : decode M_LA_law.2.1 442 = .ok (.lcmp, 1) := by decide +kernel
theorem d_LA_law_443 : decode M_LA_law.2.1 443 = .ok (.ifCond .eq 5, 3) := by decide +kernel
theorem d_LA_law_446 : decode M_LA_law.2.1 446 = .ok (.iconst 0, 1) := by decide +kernel
theorem d_LA_law_447 : decode M_LA_law.2.1 447 = .ok (.ireturn, 1) := by decide +kernel
theorem d_LA_law_448 : decode M_LA_law.2.1 448 = .ok (.goto 3, 3) := by decide +kernel
theorem d_LA_law_451 : decode M_LA_law.2.1 451 = .ok (.iinc 4 6, 3) := by decide +kernel
theorem d_LA_law_454 : decode M_LA_law.2.1 454 = .ok (.goto (-431), 3) := by decide +kernel
theorem d_LA_law_457 : decode M_LA_law.2.1 457 = .ok (.iconst 1, 1) := by decide +kernel
theorem d_LA_law_458 : decode M_LA_law.2.1 458 = .ok (.ireturn, 1) := by decide +kernel
set_option maxRecDepth 20000 in
theorem w_L_feed {E : xR} {h : xH} {Q : xK} {i cc ss : Nat} (hnt : ¬ x_tg E) (hs9 : x_sL E ≤ 3072) (hi : i + 6 ≤ x_sL E) (hI : g_LVI h) (hcc : cc + 1 ≤ 601024) (hss : ss + 6 ≤ 7293034) (K : ∀ h' c' s', g_LVI h' → c' ≤ cc + 1 → s' ≤ ss + 6 → x_W E M_LA_law room_1 Q 52 h' 451 [(0, .ref 4000000), (1, .ref 0), (2, .ref 21), (3, .ref 51), (4, .int (nI i))] [] c' s') : x_W E M_LA_law room_1 Q 52 h 80 [(0, .ref 4000000), (1, .ref 0), (2, .ref 21), (3, .ref 51), (4, .int (nI i))] [] cc ss := by
  obtain ⟨u, N, ra, rl, sy, va, ne, bk, Rs, Rs2, th, g, hu, hN, hra, hrl, hC, hM, hRR, ho⟩ := hI
  obtain ⟨c0, c1, c2, ⟨w0, w1, w2, w3, w4, w5, w6, c3⟩, c5, c15, c16, c17, cR, cP⟩ := id hC
  obtain ⟨m21, m22, m23, mr⟩ := id hM
  by_cases hf : N + 20 ≤ 4096
  · obtain ⟨u', hu', hue⟩ := g_feedB (t := N) (a := (x_sx E (nI (i + 1)).toNatClampNeg)) (b := (x_sx E (nI (i + 2)).toNatClampNeg)) (c := (x_sx E (nI (i + 3)).toNatClampNeg)) (d := (x_sx E (nI (i + 4)).toNatClampNeg)) (e := (x_sx E (nI (i + 5)).toNatClampNeg)) hu
    have e1 : (.inl (1, 4096, .inl (g_feed (fun i => g_sb (u i)) N (x_sx E (nI (i + 1)).toNatClampNeg) (x_sx E (nI (i + 2)).toNatClampNeg) (x_sx E (nI (i + 3)).toNatClampNeg) (x_sx E (nI (i + 4)).toNatClampNeg) (x_sx E (nI (i + 5)).toNatClampNeg))) : xE) = .inl (1, 4096, .inl (fun i => g_sb (u' i))) := by rw [hue]
    refine x_aload_n d_LA_law_80 rfl rfl ?_
    refine x_aload_n d_LA_law_81 rfl rfl ?_
    refine x_iload d_LA_law_82 rfl ?_
    refine x_iconst 1 d_LA_law_84 (by decide) ?_
    refine x_iadd d_LA_law_85 ?_
    refine x_topi (nI (i + 1)) (nI_add i 1) ?_
    refine x_sld d_LA_law_86 (vp_in_nI (show i + 1 < x_sL E by omega) (by omega)) ?_
    refine x_aload_n d_LA_law_87 rfl rfl ?_
    refine x_iload d_LA_law_88 rfl ?_
    refine x_iconst 2 d_LA_law_90 (by decide) ?_
    refine x_iadd d_LA_law_91 ?_
    refine x_topi (nI (i + 2)) (nI_add i 2) ?_
    refine x_sld d_LA_law_92 (vp_in_nI (show i + 2 < x_sL E by omega) (by omega)) ?_
    refine x_aload_n d_LA_law_93 rfl rfl ?_
    refine x_iload d_LA_law_94 rfl ?_
    refine x_iconst 3 d_LA_law_96 (by decide) ?_
    refine x_iadd d_LA_law_97 ?_
    refine x_topi (nI (i + 3)) (nI_add i 3) ?_
    refine x_sld d_LA_law_98 (vp_in_nI (show i + 3 < x_sL E by omega) (by omega)) ?_
    refine x_aload_n d_LA_law_99 rfl rfl ?_
    refine x_iload d_LA_law_100 rfl ?_
    refine x_iconst 4 d_LA_law_102 (by decide) ?_
    refine x_iadd d_LA_law_103 ?_
    refine x_topi (nI (i + 4)) (nI_add i 4) ?_
    refine x_sld d_LA_law_104 (vp_in_nI (show i + 4 < x_sL E by omega) (by omega)) ?_
    refine x_aload_n d_LA_law_105 rfl rfl ?_
    refine x_iload d_LA_law_106 rfl ?_
    refine x_iconst 5 d_LA_law_108 (by decide) ?_
    refine x_iadd d_LA_law_109 ?_
    refine x_topi (nI (i + 5)) (nI_add i 5) ?_
    refine x_sld d_LA_law_110 (vp_in_nI (show i + 5 < x_sL E by omega) (by omega)) ?_
    refine x_aload_n d_LA_law_111 rfl rfl ?_
    refine x_callS7N d_LA_law_112 k_LA_41 (w_LA_feed hnt c0 c1 ho hf) (Nat.le_of_ble_eq_true rfl) (Nat.le_of_ble_eq_true rfl) (by show _ ≤ 601024; omega) (by show _ ≤ 7293034; omega) (Nat.le_of_ble_eq_true rfl) rfl hnt ?_
    refine x_istore d_LA_law_115 (Nat.le_of_ble_eq_true rfl) ?_
    refine x_aload_n d_LA_law_117 rfl rfl ?_
    refine x_aload_n d_LA_law_118 rfl rfl ?_
    refine x_iload d_LA_law_119 rfl ?_
    refine x_iconst 1 d_LA_law_121 (by decide) ?_
    refine x_iadd d_LA_law_122 ?_
    refine x_topi (nI (i + 1)) (nI_add i 1) ?_
    refine x_sld d_LA_law_123 (vp_in_nI (show i + 1 < x_sL E by omega) (by omega)) ?_
    refine x_aload_n d_LA_law_124 rfl rfl ?_
    refine x_iload d_LA_law_125 rfl ?_
    refine x_iconst 2 d_LA_law_127 (by decide) ?_
    refine x_iadd d_LA_law_128 ?_
    refine x_topi (nI (i + 2)) (nI_add i 2) ?_
    refine x_sld d_LA_law_129 (vp_in_nI (show i + 2 < x_sL E by omega) (by omega)) ?_
    refine x_aload_n d_LA_law_130 rfl rfl ?_
    refine x_iload d_LA_law_131 rfl ?_
    refine x_iconst 3 d_LA_law_133 (by decide) ?_
    refine x_iadd d_LA_law_134 ?_
    refine x_topi (nI (i + 3)) (nI_add i 3) ?_
    refine x_sld d_LA_law_135 (vp_in_nI (show i + 3 < x_sL E by omega) (by omega)) ?_
    refine x_aload_n d_LA_law_136 rfl rfl ?_
    refine x_iload d_LA_law_137 rfl ?_
    refine x_iconst 4 d_LA_law_139 (by decide) ?_
    refine x_iadd d_LA_law_140 ?_
    refine x_topi (nI (i + 4)) (nI_add i 4) ?_
    refine x_sld d_LA_law_141 (vp_in_nI (show i + 4 < x_sL E by omega) (by omega)) ?_
    refine x_aload_n d_LA_law_142 rfl rfl ?_
    refine x_iload d_LA_law_143 rfl ?_
    refine x_iconst 5 d_LA_law_145 (by decide) ?_
    refine x_iadd d_LA_law_146 ?_
    refine x_topi (nI (i + 5)) (nI_add i 5) ?_
    refine x_sld d_LA_law_147 (vp_in_nI (show i + 5 < x_sL E by omega) (by omega)) ?_
    refine x_callV5Y d_LA_law_148 k_LA_46 (Nat.le_of_ble_eq_true rfl) (Nat.le_of_ble_eq_true rfl) (by first | rfl | assumption) (by rfl) (w_MO_feed (by first | rfl | assumption) (by first | rfl | assumption) hf) (Nat.le_of_ble_eq_true rfl) (Nat.le_of_ble_eq_true rfl) (by show _ ≤ 601024; omega) (by show _ ≤ 7293034; omega) (Nat.le_of_ble_eq_true rfl) rfl ?_
    refine x_istore d_LA_law_151 (Nat.le_of_ble_eq_true rfl) ?_
    refine x_aload_n d_LA_law_153 rfl rfl ?_
    refine x_callV0Y d_LA_law_154 k_LA_47 (Nat.le_of_ble_eq_true rfl) (Nat.le_of_ble_eq_true rfl) (by first | rfl | assumption) (by rfl) (w_MO_thrown (by first | rfl | assumption)) (Nat.le_of_ble_eq_true rfl) (Nat.le_of_ble_eq_true rfl) (by show _ ≤ 601024; omega) (by show _ ≤ 7293034; omega) (Nat.le_of_ble_eq_true rfl) rfl ?_
    refine x_iload d_LA_law_157 rfl ?_
    refine x_icmp_eq 164 d_LA_law_159 (by decide) (fun _ => ?_) (fun z => absurd rfl z)
    refine x_iload d_LA_law_164 rfl ?_
    refine x_if_ne 181 d_LA_law_166 (by decide) (fun z => absurd rfl z) (fun _ => ?_)
    refine x_aload_n d_LA_law_169 rfl rfl ?_
    refine x_iconst 0 d_LA_law_170 (by decide) ?_
    refine x_lald d_LA_law_171 (Nat.le_of_ble_eq_true rfl) (Nat.le_of_ble_eq_true rfl) (by first | rfl | assumption) (vp_in_nI (by decide) (by decide)) ?_
    refine x_topl (nI (N + 20)).toInt64 rfl ?_
    refine x_iload d_LA_law_172 rfl ?_
    refine x_i2l d_LA_law_174 ?_
    refine x_lcmp d_LA_law_175 ?_
    refine x_if_eq 181 d_LA_law_176 (by decide) (fun _ => ?_) (fun z => absurd (g_cmp0 _) z)
    refine x_goto 451 d_LA_law_181 (by decide) ?_
    refine x_lv [(0, .ref 4000000), (1, .ref 0), (2, .ref 21), (3, .ref 51), (4, .int (nI i)), (5, .int 0), (6, .int (nI (N + 20)))] rfl ?_
    refine x_wk [(0, .ref 4000000), (1, .ref 0), (2, .ref 21), (3, .ref 51), (4, .int (nI i))] (by simp) ?_
    exact K _ _ _ ⟨u', N + 20, ra, rl, sy, va, ne, bk, Rs, Rs2, 0, _, hu', hf, hra, hrl, g_CWn hra hC rfl e1 (fun i h1 h2 => by repeat' (first | refine (x_up_ne (by omega)).trans ?_ | rfl)), ⟨rfl, e1, m23, g_MMrS mr (fun i h1 h2 => by repeat' (first | refine (x_up_ne (by omega)).trans ?_ | rfl))⟩, hRR, rfl⟩ (by omega) (by omega)
  · refine x_aload_n d_LA_law_80 rfl rfl ?_
    refine x_aload_n d_LA_law_81 rfl rfl ?_
    refine x_iload d_LA_law_82 rfl ?_
    refine x_iconst 1 d_LA_law_84 (by decide) ?_
    refine x_iadd d_LA_law_85 ?_
    refine x_topi (nI (i + 1)) (nI_add i 1) ?_
    refine x_sld d_LA_law_86 (vp_in_nI (show i + 1 < x_sL E by omega) (by omega)) ?_
    refine x_aload_n d_LA_law_87 rfl rfl ?_
    refine x_iload d_LA_law_88 rfl ?_
    refine x_iconst 2 d_LA_law_90 (by decide) ?_
    refine x_iadd d_LA_law_91 ?_
    refine x_topi (nI (i + 2)) (nI_add i 2) ?_
    refine x_sld d_LA_law_92 (vp_in_nI (show i + 2 < x_sL E by omega) (by omega)) ?_
    refine x_aload_n d_LA_law_93 rfl rfl ?_
    refine x_iload d_LA_law_94 rfl ?_
    refine x_iconst 3 d_LA_law_96 (by decide) ?_
    refine x_iadd d_LA_law_97 ?_
    refine x_topi (nI (i + 3)) (nI_add i 3) ?_
    refine x_sld d_LA_law_98 (vp_in_nI (show i + 3 < x_sL E by omega) (by omega)) ?_
    refine x_aload_n d_LA_law_99 rfl rfl ?_
    refine x_iload d_LA_law_100 rfl ?_
    refine x_iconst 4 d_LA_law_102 (by decide) ?_
    refine x_iadd d_LA_law_103 ?_
    refine x_topi (nI (i + 4)) (nI_add i 4) ?_
    refine x_sld d_LA_law_104 (vp_in_nI (show i + 4 < x_sL E by omega) (by omega)) ?_
    refine x_aload_n d_LA_law_105 rfl rfl ?_
    refine x_iload d_LA_law_106 rfl ?_
    refine x_iconst 5 d_LA_law_108 (by decide) ?_
    refine x_iadd d_LA_law_109 ?_
    refine x_topi (nI (i + 5)) (nI_add i 5) ?_
    refine x_sld d_LA_law_110 (vp_in_nI (show i + 5 < x_sL E by omega) (by omega)) ?_
    refine x_aload_n d_LA_law_111 rfl rfl ?_
    refine x_callS7N d_LA_law_112 k_LA_41 (w_LA_feed_no hnt c0 (by omega) hN) (Nat.le_of_ble_eq_true rfl) (Nat.le_of_ble_eq_true rfl) (by show _ ≤ 601024; omega) (by show _ ≤ 7293034; omega) (Nat.le_of_ble_eq_true rfl) rfl hnt ?_
    refine x_istore d_LA_law_115 (Nat.le_of_ble_eq_true rfl) ?_
    refine x_aload_n d_LA_law_117 rfl rfl ?_
    refine x_aload_n d_LA_law_118 rfl rfl ?_
    refine x_iload d_LA_law_119 rfl ?_
    refine x_iconst 1 d_LA_law_121 (by decide) ?_
    refine x_iadd d_LA_law_122 ?_
    refine x_topi (nI (i + 1)) (nI_add i 1) ?_
    refine x_sld d_LA_law_123 (vp_in_nI (show i + 1 < x_sL E by omega) (by omega)) ?_
    refine x_aload_n d_LA_law_124 rfl rfl ?_
    refine x_iload d_LA_law_125 rfl ?_
    refine x_iconst 2 d_LA_law_127 (by decide) ?_
    refine x_iadd d_LA_law_128 ?_
    refine x_topi (nI (i + 2)) (nI_add i 2) ?_
    refine x_sld d_LA_law_129 (vp_in_nI (show i + 2 < x_sL E by omega) (by omega)) ?_
    refine x_aload_n d_LA_law_130 rfl rfl ?_
    refine x_iload d_LA_law_131 rfl ?_
    refine x_iconst 3 d_LA_law_133 (by decide) ?_
    refine x_iadd d_LA_law_134 ?_
    refine x_topi (nI (i + 3)) (nI_add i 3) ?_
    refine x_sld d_LA_law_135 (vp_in_nI (show i + 3 < x_sL E by omega) (by omega)) ?_
    refine x_aload_n d_LA_law_136 rfl rfl ?_
    refine x_iload d_LA_law_137 rfl ?_
    refine x_iconst 4 d_LA_law_139 (by decide) ?_
    refine x_iadd d_LA_law_140 ?_
    refine x_topi (nI (i + 4)) (nI_add i 4) ?_
    refine x_sld d_LA_law_141 (vp_in_nI (show i + 4 < x_sL E by omega) (by omega)) ?_
    refine x_aload_n d_LA_law_142 rfl rfl ?_
    refine x_iload d_LA_law_143 rfl ?_
    refine x_iconst 5 d_LA_law_145 (by decide) ?_
    refine x_iadd d_LA_law_146 ?_
    refine x_topi (nI (i + 5)) (nI_add i 5) ?_
    refine x_sld d_LA_law_147 (vp_in_nI (show i + 5 < x_sL E by omega) (by omega)) ?_
    refine x_callV5Y d_LA_law_148 k_LA_46 (Nat.le_of_ble_eq_true rfl) (Nat.le_of_ble_eq_true rfl) (by first | rfl | assumption) (by rfl) (w_MO_feed_no (by first | rfl | assumption) (by omega) hN) (Nat.le_of_ble_eq_true rfl) (Nat.le_of_ble_eq_true rfl) (by show _ ≤ 601024; omega) (by show _ ≤ 7293034; omega) (Nat.le_of_ble_eq_true rfl) rfl ?_
    refine x_istore d_LA_law_151 (Nat.le_of_ble_eq_true rfl) ?_
    refine x_aload_n d_LA_law_153 rfl rfl ?_
    refine x_callV0Y d_LA_law_154 k_LA_47 (Nat.le_of_ble_eq_true rfl) (Nat.le_of_ble_eq_true rfl) (by first | rfl | assumption) (by rfl) (w_MO_thrown (by first | rfl | assumption)) (Nat.le_of_ble_eq_true rfl) (Nat.le_of_ble_eq_true rfl) (by show _ ≤ 601024; omega) (by show _ ≤ 7293034; omega) (Nat.le_of_ble_eq_true rfl) rfl ?_
    refine x_iload d_LA_law_157 rfl ?_
    refine x_icmp_eq 164 d_LA_law_159 (by decide) (fun _ => ?_) (fun z => absurd rfl z)
    refine x_iload d_LA_law_164 rfl ?_
    refine x_if_ne 181 d_LA_law_166 (by decide) (fun _ => ?_) (fun z => absurd z (by decide))
    refine x_goto 451 d_LA_law_181 (by decide) ?_
    refine x_lv [(0, .ref 4000000), (1, .ref 0), (2, .ref 21), (3, .ref 51), (4, .int (nI i)), (5, .int 1), (6, .int 0)] rfl ?_
    refine x_wk [(0, .ref 4000000), (1, .ref 0), (2, .ref 21), (3, .ref 51), (4, .int (nI i))] (by simp) ?_
    exact K _ _ _ ⟨u, N, ra, rl, sy, va, ne, bk, Rs, Rs2, 1, _, hu, hN, hra, hrl, (g_CWS hra hC (fun i h1 => by repeat' (first | refine (x_up_ne (by omega)).trans ?_ | rfl))), ⟨rfl, m22, m23, g_MMrS mr (fun i h1 h2 => by repeat' (first | refine (x_up_ne (by omega)).trans ?_ | rfl))⟩, hRR, ho⟩ (by omega) (by omega)
set_option maxRecDepth 20000 in
theorem w_L_end {E : xR} {h : xH} {Q : xK} {i cc ss : Nat} (hnt : ¬ x_tg E) (hs9 : x_sL E ≤ 3072) (hi : i + 6 ≤ x_sL E) (hI : g_LVI h) (hcc : cc + 1 ≤ 601024) (hss : ss + 6 ≤ 7293034) (K : ∀ h' c' s', g_LVI h' → c' ≤ cc + 1 → s' ≤ ss + 6 → x_W E M_LA_law room_1 Q 52 h' 451 [(0, .ref 4000000), (1, .ref 0), (2, .ref 21), (3, .ref 51), (4, .int (nI i))] [] c' s') : x_W E M_LA_law room_1 Q 52 h 184 [(0, .ref 4000000), (1, .ref 0), (2, .ref 21), (3, .ref 51), (4, .int (nI i))] [] cc ss := by
  obtain ⟨u, N, ra, rl, sy, va, ne, bk, Rs, Rs2, th, g, hu, hN, hra, hrl, hC, hM, hRR, ho⟩ := hI
  obtain ⟨c0, c1, c2, ⟨w0, w1, w2, w3, w4, w5, w6, c3⟩, c5, c15, c16, c17, cR, cP⟩ := id hC
  obtain ⟨m21, m22, m23, mr⟩ := id hM
  obtain ⟨x, hx⟩ : ∃ x, x_sx E (nI (i + 1)).toNatClampNeg = x := ⟨_, rfl⟩
  by_cases hb : x < 0 ∨ ¬ x ≤ nI N
  · refine x_aload_n d_LA_law_184 rfl rfl ?_
    refine x_aload_n d_LA_law_185 rfl rfl ?_
    refine x_iload d_LA_law_186 rfl ?_
    refine x_iconst 1 d_LA_law_188 (by decide) ?_
    refine x_iadd d_LA_law_189 ?_
    refine x_topi (nI (i + 1)) (nI_add i 1) ?_
    refine x_sld d_LA_law_190 (vp_in_nI (show i + 1 < x_sL E by omega) (by omega)) ?_
    refine x_topi x hx ?_
    refine x_aload_n d_LA_law_191 rfl rfl ?_
    refine x_callS3N d_LA_law_192 k_LA_50 (w_LA_end_no hnt c0 hb) (Nat.le_of_ble_eq_true rfl) (Nat.le_of_ble_eq_true rfl) (by show _ ≤ 601024; omega) (by show _ ≤ 7293034; omega) (Nat.le_of_ble_eq_true rfl) rfl hnt ?_
    refine x_istore d_LA_law_195 (Nat.le_of_ble_eq_true rfl) ?_
    refine x_aload_n d_LA_law_197 rfl rfl ?_
    refine x_aload_n d_LA_law_198 rfl rfl ?_
    refine x_iload d_LA_law_199 rfl ?_
    refine x_iconst 1 d_LA_law_201 (by decide) ?_
    refine x_iadd d_LA_law_202 ?_
    refine x_topi (nI (i + 1)) (nI_add i 1) ?_
    refine x_sld d_LA_law_203 (vp_in_nI (show i + 1 < x_sL E by omega) (by omega)) ?_
    refine x_topi x hx ?_
    refine x_callV1Y d_LA_law_204 k_LA_53 (Nat.le_of_ble_eq_true rfl) (Nat.le_of_ble_eq_true rfl) (by first | rfl | assumption) (by rfl) (w_MO_end_no (by first | rfl | assumption) hb) (Nat.le_of_ble_eq_true rfl) (Nat.le_of_ble_eq_true rfl) (by show _ ≤ 601024; omega) (by show _ ≤ 7293034; omega) (Nat.le_of_ble_eq_true rfl) rfl ?_
    refine x_istore d_LA_law_207 (Nat.le_of_ble_eq_true rfl) ?_
    refine x_aload_n d_LA_law_209 rfl rfl ?_
    refine x_callV0Y d_LA_law_210 k_LA_47 (Nat.le_of_ble_eq_true rfl) (Nat.le_of_ble_eq_true rfl) (by first | rfl | assumption) (by rfl) (w_MO_thrown (by first | rfl | assumption)) (Nat.le_of_ble_eq_true rfl) (Nat.le_of_ble_eq_true rfl) (by show _ ≤ 601024; omega) (by show _ ≤ 7293034; omega) (Nat.le_of_ble_eq_true rfl) rfl ?_
    refine x_iload d_LA_law_213 rfl ?_
    refine x_icmp_eq 220 d_LA_law_215 (by decide) (fun _ => ?_) (fun z => absurd rfl z)
    refine x_iload d_LA_law_220 rfl ?_
    refine x_if_ne 237 d_LA_law_222 (by decide) (fun _ => ?_) (fun z => absurd z (by decide))
    refine x_goto 451 d_LA_law_237 (by decide) ?_
    refine x_lv [(0, .ref 4000000), (1, .ref 0), (2, .ref 21), (3, .ref 51), (4, .int (nI i)), (5, .int 1), (6, .int 0)] rfl ?_
    refine x_wk [(0, .ref 4000000), (1, .ref 0), (2, .ref 21), (3, .ref 51), (4, .int (nI i))] (by simp) ?_
    exact K _ _ _ ⟨u, N, ra, rl, sy, va, ne, bk, Rs, Rs2, 1, _, hu, hN, hra, hrl, (g_CWS hra hC (fun i h1 => by repeat' (first | refine (x_up_ne (by omega)).trans ?_ | rfl))), ⟨rfl, m22, m23, g_MMrS mr (fun i h1 h2 => by repeat' (first | refine (x_up_ne (by omega)).trans ?_ | rfl))⟩, hRR, ho⟩ (by omega) (by omega)
  · obtain ⟨m, hm, hxm⟩ : ∃ m, m ≤ N ∧ x = nI m := nI_of2 (nI_toInt (by omega)) (fun y => hb (Or.inl y)) (Decidable.not_not.mp (fun y => hb (Or.inr y)))
    subst hxm
    refine x_aload_n d_LA_law_184 rfl rfl ?_
    refine x_aload_n d_LA_law_185 rfl rfl ?_
    refine x_iload d_LA_law_186 rfl ?_
    refine x_iconst 1 d_LA_law_188 (by decide) ?_
    refine x_iadd d_LA_law_189 ?_
    refine x_topi (nI (i + 1)) (nI_add i 1) ?_
    refine x_sld d_LA_law_190 (vp_in_nI (show i + 1 < x_sL E by omega) (by omega)) ?_
    refine x_topi (nI m) hx ?_
    refine x_aload_n d_LA_law_191 rfl rfl ?_
    refine x_callS3N d_LA_law_192 k_LA_50 (w_LA_end hnt c0 ho hm hN) (Nat.le_of_ble_eq_true rfl) (Nat.le_of_ble_eq_true rfl) (by show _ ≤ 601024; omega) (by show _ ≤ 7293034; omega) (Nat.le_of_ble_eq_true rfl) rfl hnt ?_
    refine x_istore d_LA_law_195 (Nat.le_of_ble_eq_true rfl) ?_
    refine x_aload_n d_LA_law_197 rfl rfl ?_
    refine x_aload_n d_LA_law_198 rfl rfl ?_
    refine x_iload d_LA_law_199 rfl ?_
    refine x_iconst 1 d_LA_law_201 (by decide) ?_
    refine x_iadd d_LA_law_202 ?_
    refine x_topi (nI (i + 1)) (nI_add i 1) ?_
    refine x_sld d_LA_law_203 (vp_in_nI (show i + 1 < x_sL E by omega) (by omega)) ?_
    refine x_topi (nI m) hx ?_
    refine x_callV1Y d_LA_law_204 k_LA_53 (Nat.le_of_ble_eq_true rfl) (Nat.le_of_ble_eq_true rfl) (by first | rfl | assumption) (by rfl) (w_MO_end (by first | rfl | assumption) hm hN) (Nat.le_of_ble_eq_true rfl) (Nat.le_of_ble_eq_true rfl) (by show _ ≤ 601024; omega) (by show _ ≤ 7293034; omega) (Nat.le_of_ble_eq_true rfl) rfl ?_
    refine x_istore d_LA_law_207 (Nat.le_of_ble_eq_true rfl) ?_
    refine x_aload_n d_LA_law_209 rfl rfl ?_
    refine x_callV0Y d_LA_law_210 k_LA_47 (Nat.le_of_ble_eq_true rfl) (Nat.le_of_ble_eq_true rfl) (by first | rfl | assumption) (by rfl) (w_MO_thrown (by first | rfl | assumption)) (Nat.le_of_ble_eq_true rfl) (Nat.le_of_ble_eq_true rfl) (by show _ ≤ 601024; omega) (by show _ ≤ 7293034; omega) (Nat.le_of_ble_eq_true rfl) rfl ?_
    refine x_iload d_LA_law_213 rfl ?_
    refine x_icmp_eq 220 d_LA_law_215 (by decide) (fun _ => ?_) (fun z => absurd rfl z)
    refine x_iload d_LA_law_220 rfl ?_
    refine x_if_ne 237 d_LA_law_222 (by decide) (fun z => absurd rfl z) (fun _ => ?_)
    refine x_aload_n d_LA_law_225 rfl rfl ?_
    refine x_iconst 0 d_LA_law_226 (by decide) ?_
    refine x_lald d_LA_law_227 (Nat.le_of_ble_eq_true rfl) (Nat.le_of_ble_eq_true rfl) (by first | rfl | assumption) (vp_in_nI (by decide) (by decide)) ?_
    refine x_topl (nI m).toInt64 rfl ?_
    refine x_iload d_LA_law_228 rfl ?_
    refine x_i2l d_LA_law_230 ?_
    refine x_lcmp d_LA_law_231 ?_
    refine x_if_eq 237 d_LA_law_232 (by decide) (fun _ => ?_) (fun z => absurd (g_cmp0 _) z)
    refine x_goto 451 d_LA_law_237 (by decide) ?_
    refine x_lv [(0, .ref 4000000), (1, .ref 0), (2, .ref 21), (3, .ref 51), (4, .int (nI i)), (5, .int 0), (6, .int (nI m))] rfl ?_
    refine x_wk [(0, .ref 4000000), (1, .ref 0), (2, .ref 21), (3, .ref 51), (4, .int (nI i))] (by simp) ?_
    exact K _ _ _ ⟨u, m, ra, rl, sy, va, ne, bk, Rs, Rs2, 0, _, hu, by omega, hra, hrl, g_CWn hra hC rfl c1 (fun i h1 h2 => by repeat' (first | refine (x_up_ne (by omega)).trans ?_ | rfl)), ⟨rfl, m22, m23, g_MMrS mr (fun i h1 h2 => by repeat' (first | refine (x_up_ne (by omega)).trans ?_ | rfl))⟩, hRR, rfl⟩ (by omega) (by omega)
set_option maxRecDepth 20000 in
theorem w_L_about {E : xR} {h : xH} {Q : xK} {i cc ss : Nat} (hnt : ¬ x_tg E) (hs9 : x_sL E ≤ 3072) (hi : i + 6 ≤ x_sL E) (hI : g_LVI h) (hcc : cc + 1 ≤ 601024) (hss : ss + 6 ≤ 7293034) (K : ∀ h' c' s', g_LVI h' → c' ≤ cc + 1 → s' ≤ ss + 6 → x_W E M_LA_law room_1 Q 52 h' 451 [(0, .ref 4000000), (1, .ref 0), (2, .ref 21), (3, .ref 51), (4, .int (nI i))] [] c' s') : x_W E M_LA_law room_1 Q 52 h 284 [(0, .ref 4000000), (1, .ref 0), (2, .ref 21), (3, .ref 51), (4, .int (nI i))] [] cc ss := by
  obtain ⟨u, N, ra, rl, sy, va, ne, bk, Rs, Rs2, th, g, hu, hN, hra, hrl, hC, hM, hRR, ho⟩ := hI
  obtain ⟨c0, c1, c2, ⟨w0, w1, w2, w3, w4, w5, w6, c3⟩, c5, c15, c16, c17, cR, cP⟩ := id hC
  obtain ⟨m21, m22, m23, mr⟩ := id hM
  obtain ⟨x, hx⟩ : ∃ x, x_sx E (nI (i + 1)).toNatClampNeg = x := ⟨_, rfl⟩
  by_cases hx0 : x = 0
  · subst hx0
    refine x_aload_n d_LA_law_284 rfl rfl ?_
    refine x_aload_n d_LA_law_285 rfl rfl ?_
    refine x_iload d_LA_law_286 rfl ?_
    refine x_iconst 1 d_LA_law_288 (by decide) ?_
    refine x_iadd d_LA_law_289 ?_
    refine x_topi (nI (i + 1)) (nI_add i 1) ?_
    refine x_sld d_LA_law_290 (vp_in_nI (show i + 1 < x_sL E by omega) (by omega)) ?_
    refine x_topi 0 hx ?_
    refine x_aload_n d_LA_law_291 rfl rfl ?_
    refine x_callS3N d_LA_law_292 k_LA_58 (w_LA_about0 hnt c0 ho) (Nat.le_of_ble_eq_true rfl) (Nat.le_of_ble_eq_true rfl) (by show _ ≤ 601024; omega) (by show _ ≤ 7293034; omega) (Nat.le_of_ble_eq_true rfl) rfl hnt ?_
    refine x_istore d_LA_law_295 (Nat.le_of_ble_eq_true rfl) ?_
    refine x_aload_n d_LA_law_297 rfl rfl ?_
    refine x_aload_n d_LA_law_298 rfl rfl ?_
    refine x_iload d_LA_law_299 rfl ?_
    refine x_iconst 1 d_LA_law_301 (by decide) ?_
    refine x_iadd d_LA_law_302 ?_
    refine x_topi (nI (i + 1)) (nI_add i 1) ?_
    refine x_sld d_LA_law_303 (vp_in_nI (show i + 1 < x_sL E by omega) (by omega)) ?_
    refine x_topi 0 hx ?_
    refine x_callV1Y d_LA_law_304 k_LA_60 (Nat.le_of_ble_eq_true rfl) (Nat.le_of_ble_eq_true rfl) (by first | rfl | assumption) (by rfl) (w_MO_about0 (by first | rfl | assumption)) (Nat.le_of_ble_eq_true rfl) (Nat.le_of_ble_eq_true rfl) (by show _ ≤ 601024; omega) (by show _ ≤ 7293034; omega) (Nat.le_of_ble_eq_true rfl) rfl ?_
    refine x_istore d_LA_law_307 (Nat.le_of_ble_eq_true rfl) ?_
    refine x_aload_n d_LA_law_309 rfl rfl ?_
    refine x_callV0Y d_LA_law_310 k_LA_47 (Nat.le_of_ble_eq_true rfl) (Nat.le_of_ble_eq_true rfl) (by first | rfl | assumption) (by rfl) (w_MO_thrown (by first | rfl | assumption)) (Nat.le_of_ble_eq_true rfl) (Nat.le_of_ble_eq_true rfl) (by show _ ≤ 601024; omega) (by show _ ≤ 7293034; omega) (Nat.le_of_ble_eq_true rfl) rfl ?_
    refine x_iload d_LA_law_313 rfl ?_
    refine x_icmp_eq 320 d_LA_law_315 (by decide) (fun _ => ?_) (fun z => absurd rfl z)
    refine x_iload d_LA_law_320 rfl ?_
    refine x_if_ne 337 d_LA_law_322 (by decide) (fun z => absurd rfl z) (fun _ => ?_)
    refine x_aload_n d_LA_law_325 rfl rfl ?_
    refine x_iconst 0 d_LA_law_326 (by decide) ?_
    refine x_lald d_LA_law_327 (Nat.le_of_ble_eq_true rfl) (Nat.le_of_ble_eq_true rfl) (by first | rfl | assumption) (vp_in_nI (by decide) (by decide)) ?_
    refine x_topl sy.toInt64 rfl ?_
    refine x_iload d_LA_law_328 rfl ?_
    refine x_i2l d_LA_law_330 ?_
    refine x_lcmp d_LA_law_331 ?_
    refine x_if_eq 337 d_LA_law_332 (by decide) (fun _ => ?_) (fun z => absurd (g_cmp0 _) z)
    refine x_goto 451 d_LA_law_337 (by decide) ?_
    refine x_lv [(0, .ref 4000000), (1, .ref 0), (2, .ref 21), (3, .ref 51), (4, .int (nI i)), (5, .int 0), (6, .int sy)] rfl ?_
    refine x_wk [(0, .ref 4000000), (1, .ref 0), (2, .ref 21), (3, .ref 51), (4, .int (nI i))] (by simp) ?_
    exact K _ _ _ ⟨u, N, ra, rl, sy, va, ne, bk, Rs, Rs2, 0, _, hu, hN, hra, hrl, (g_CWS hra hC (fun i h1 => by repeat' (first | refine (x_up_ne (by omega)).trans ?_ | rfl))), ⟨rfl, m22, m23, g_MMrS mr (fun i h1 h2 => by repeat' (first | refine (x_up_ne (by omega)).trans ?_ | rfl))⟩, hRR, rfl⟩ (by omega) (by omega)
  by_cases hx1 : x = 1
  · subst hx1
    refine x_aload_n d_LA_law_284 rfl rfl ?_
    refine x_aload_n d_LA_law_285 rfl rfl ?_
    refine x_iload d_LA_law_286 rfl ?_
    refine x_iconst 1 d_LA_law_288 (by decide) ?_
    refine x_iadd d_LA_law_289 ?_
    refine x_topi (nI (i + 1)) (nI_add i 1) ?_
    refine x_sld d_LA_law_290 (vp_in_nI (show i + 1 < x_sL E by omega) (by omega)) ?_
    refine x_topi 1 hx ?_
    refine x_aload_n d_LA_law_291 rfl rfl ?_
    refine x_callS3N d_LA_law_292 k_LA_58 (w_LA_about1 hnt c0 ho) (Nat.le_of_ble_eq_true rfl) (Nat.le_of_ble_eq_true rfl) (by show _ ≤ 601024; omega) (by show _ ≤ 7293034; omega) (Nat.le_of_ble_eq_true rfl) rfl hnt ?_
    refine x_istore d_LA_law_295 (Nat.le_of_ble_eq_true rfl) ?_
    refine x_aload_n d_LA_law_297 rfl rfl ?_
    refine x_aload_n d_LA_law_298 rfl rfl ?_
    refine x_iload d_LA_law_299 rfl ?_
    refine x_iconst 1 d_LA_law_301 (by decide) ?_
    refine x_iadd d_LA_law_302 ?_
    refine x_topi (nI (i + 1)) (nI_add i 1) ?_
    refine x_sld d_LA_law_303 (vp_in_nI (show i + 1 < x_sL E by omega) (by omega)) ?_
    refine x_topi 1 hx ?_
    refine x_callV1Y d_LA_law_304 k_LA_60 (Nat.le_of_ble_eq_true rfl) (Nat.le_of_ble_eq_true rfl) (by first | rfl | assumption) (by rfl) (w_MO_about1 (by first | rfl | assumption)) (Nat.le_of_ble_eq_true rfl) (Nat.le_of_ble_eq_true rfl) (by show _ ≤ 601024; omega) (by show _ ≤ 7293034; omega) (Nat.le_of_ble_eq_true rfl) rfl ?_
    refine x_istore d_LA_law_307 (Nat.le_of_ble_eq_true rfl) ?_
    refine x_aload_n d_LA_law_309 rfl rfl ?_
    refine x_callV0Y d_LA_law_310 k_LA_47 (Nat.le_of_ble_eq_true rfl) (Nat.le_of_ble_eq_true rfl) (by first | rfl | assumption) (by rfl) (w_MO_thrown (by first | rfl | assumption)) (Nat.le_of_ble_eq_true rfl) (Nat.le_of_ble_eq_true rfl) (by show _ ≤ 601024; omega) (by show _ ≤ 7293034; omega) (Nat.le_of_ble_eq_true rfl) rfl ?_
    refine x_iload d_LA_law_313 rfl ?_
    refine x_icmp_eq 320 d_LA_law_315 (by decide) (fun _ => ?_) (fun z => absurd rfl z)
    refine x_iload d_LA_law_320 rfl ?_
    refine x_if_ne 337 d_LA_law_322 (by decide) (fun z => absurd rfl z) (fun _ => ?_)
    refine x_aload_n d_LA_law_325 rfl rfl ?_
    refine x_iconst 0 d_LA_law_326 (by decide) ?_
    refine x_lald d_LA_law_327 (Nat.le_of_ble_eq_true rfl) (Nat.le_of_ble_eq_true rfl) (by first | rfl | assumption) (vp_in_nI (by decide) (by decide)) ?_
    refine x_topl va.toInt64 rfl ?_
    refine x_iload d_LA_law_328 rfl ?_
    refine x_i2l d_LA_law_330 ?_
    refine x_lcmp d_LA_law_331 ?_
    refine x_if_eq 337 d_LA_law_332 (by decide) (fun _ => ?_) (fun z => absurd (g_cmp0 _) z)
    refine x_goto 451 d_LA_law_337 (by decide) ?_
    refine x_lv [(0, .ref 4000000), (1, .ref 0), (2, .ref 21), (3, .ref 51), (4, .int (nI i)), (5, .int 0), (6, .int va)] rfl ?_
    refine x_wk [(0, .ref 4000000), (1, .ref 0), (2, .ref 21), (3, .ref 51), (4, .int (nI i))] (by simp) ?_
    exact K _ _ _ ⟨u, N, ra, rl, sy, va, ne, bk, Rs, Rs2, 0, _, hu, hN, hra, hrl, (g_CWS hra hC (fun i h1 => by repeat' (first | refine (x_up_ne (by omega)).trans ?_ | rfl))), ⟨rfl, m22, m23, g_MMrS mr (fun i h1 h2 => by repeat' (first | refine (x_up_ne (by omega)).trans ?_ | rfl))⟩, hRR, rfl⟩ (by omega) (by omega)
  by_cases hx2 : x = 2
  · subst hx2
    refine x_aload_n d_LA_law_284 rfl rfl ?_
    refine x_aload_n d_LA_law_285 rfl rfl ?_
    refine x_iload d_LA_law_286 rfl ?_
    refine x_iconst 1 d_LA_law_288 (by decide) ?_
    refine x_iadd d_LA_law_289 ?_
    refine x_topi (nI (i + 1)) (nI_add i 1) ?_
    refine x_sld d_LA_law_290 (vp_in_nI (show i + 1 < x_sL E by omega) (by omega)) ?_
    refine x_topi 2 hx ?_
    refine x_aload_n d_LA_law_291 rfl rfl ?_
    refine x_callS3N d_LA_law_292 k_LA_58 (w_LA_about2 hnt c0 ho) (Nat.le_of_ble_eq_true rfl) (Nat.le_of_ble_eq_true rfl) (by show _ ≤ 601024; omega) (by show _ ≤ 7293034; omega) (Nat.le_of_ble_eq_true rfl) rfl hnt ?_
    refine x_istore d_LA_law_295 (Nat.le_of_ble_eq_true rfl) ?_
    refine x_aload_n d_LA_law_297 rfl rfl ?_
    refine x_aload_n d_LA_law_298 rfl rfl ?_
    refine x_iload d_LA_law_299 rfl ?_
    refine x_iconst 1 d_LA_law_301 (by decide) ?_
    refine x_iadd d_LA_law_302 ?_
    refine x_topi (nI (i + 1)) (nI_add i 1) ?_
    refine x_sld d_LA_law_303 (vp_in_nI (show i + 1 < x_sL E by omega) (by omega)) ?_
    refine x_topi 2 hx ?_
    refine x_callV1Y d_LA_law_304 k_LA_60 (Nat.le_of_ble_eq_true rfl) (Nat.le_of_ble_eq_true rfl) (by first | rfl | assumption) (by rfl) (w_MO_about2 (by first | rfl | assumption)) (Nat.le_of_ble_eq_true rfl) (Nat.le_of_ble_eq_true rfl) (by show _ ≤ 601024; omega) (by show _ ≤ 7293034; omega) (Nat.le_of_ble_eq_true rfl) rfl ?_
    refine x_istore d_LA_law_307 (Nat.le_of_ble_eq_true rfl) ?_
    refine x_aload_n d_LA_law_309 rfl rfl ?_
    refine x_callV0Y d_LA_law_310 k_LA_47 (Nat.le_of_ble_eq_true rfl) (Nat.le_of_ble_eq_true rfl) (by first | rfl | assumption) (by rfl) (w_MO_thrown (by first | rfl | assumption)) (Nat.le_of_ble_eq_true rfl) (Nat.le_of_ble_eq_true rfl) (by show _ ≤ 601024; omega) (by show _ ≤ 7293034; omega) (Nat.le_of_ble_eq_true rfl) rfl ?_
    refine x_iload d_LA_law_313 rfl ?_
    refine x_icmp_eq 320 d_LA_law_315 (by decide) (fun _ => ?_) (fun z => absurd rfl z)
    refine x_iload d_LA_law_320 rfl ?_
    refine x_if_ne 337 d_LA_law_322 (by decide) (fun z => absurd rfl z) (fun _ => ?_)
    refine x_aload_n d_LA_law_325 rfl rfl ?_
    refine x_iconst 0 d_LA_law_326 (by decide) ?_
    refine x_lald d_LA_law_327 (Nat.le_of_ble_eq_true rfl) (Nat.le_of_ble_eq_true rfl) (by first | rfl | assumption) (vp_in_nI (by decide) (by decide)) ?_
    refine x_topl ne.toInt64 rfl ?_
    refine x_iload d_LA_law_328 rfl ?_
    refine x_i2l d_LA_law_330 ?_
    refine x_lcmp d_LA_law_331 ?_
    refine x_if_eq 337 d_LA_law_332 (by decide) (fun _ => ?_) (fun z => absurd (g_cmp0 _) z)
    refine x_goto 451 d_LA_law_337 (by decide) ?_
    refine x_lv [(0, .ref 4000000), (1, .ref 0), (2, .ref 21), (3, .ref 51), (4, .int (nI i)), (5, .int 0), (6, .int ne)] rfl ?_
    refine x_wk [(0, .ref 4000000), (1, .ref 0), (2, .ref 21), (3, .ref 51), (4, .int (nI i))] (by simp) ?_
    exact K _ _ _ ⟨u, N, ra, rl, sy, va, ne, bk, Rs, Rs2, 0, _, hu, hN, hra, hrl, (g_CWS hra hC (fun i h1 => by repeat' (first | refine (x_up_ne (by omega)).trans ?_ | rfl))), ⟨rfl, m22, m23, g_MMrS mr (fun i h1 h2 => by repeat' (first | refine (x_up_ne (by omega)).trans ?_ | rfl))⟩, hRR, rfl⟩ (by omega) (by omega)
  refine x_aload_n d_LA_law_284 rfl rfl ?_
  refine x_aload_n d_LA_law_285 rfl rfl ?_
  refine x_iload d_LA_law_286 rfl ?_
  refine x_iconst 1 d_LA_law_288 (by decide) ?_
  refine x_iadd d_LA_law_289 ?_
  refine x_topi (nI (i + 1)) (nI_add i 1) ?_
  refine x_sld d_LA_law_290 (vp_in_nI (show i + 1 < x_sL E by omega) (by omega)) ?_
  refine x_topi x hx ?_
  refine x_aload_n d_LA_law_291 rfl rfl ?_
  refine x_callS3N d_LA_law_292 k_LA_58 (w_LA_about_no hnt c0 (g_w3 hx0 hx1 hx2)) (Nat.le_of_ble_eq_true rfl) (Nat.le_of_ble_eq_true rfl) (by show _ ≤ 601024; omega) (by show _ ≤ 7293034; omega) (Nat.le_of_ble_eq_true rfl) rfl hnt ?_
  refine x_istore d_LA_law_295 (Nat.le_of_ble_eq_true rfl) ?_
  refine x_aload_n d_LA_law_297 rfl rfl ?_
  refine x_aload_n d_LA_law_298 rfl rfl ?_
  refine x_iload d_LA_law_299 rfl ?_
  refine x_iconst 1 d_LA_law_301 (by decide) ?_
  refine x_iadd d_LA_law_302 ?_
  refine x_topi (nI (i + 1)) (nI_add i 1) ?_
  refine x_sld d_LA_law_303 (vp_in_nI (show i + 1 < x_sL E by omega) (by omega)) ?_
  refine x_topi x hx ?_
  refine x_callV1Y d_LA_law_304 k_LA_60 (Nat.le_of_ble_eq_true rfl) (Nat.le_of_ble_eq_true rfl) (by first | rfl | assumption) (by rfl) (w_MO_about_no (by first | rfl | assumption) hx0 hx1 hx2) (Nat.le_of_ble_eq_true rfl) (Nat.le_of_ble_eq_true rfl) (by show _ ≤ 601024; omega) (by show _ ≤ 7293034; omega) (Nat.le_of_ble_eq_true rfl) rfl ?_
  refine x_istore d_LA_law_307 (Nat.le_of_ble_eq_true rfl) ?_
  refine x_aload_n d_LA_law_309 rfl rfl ?_
  refine x_callV0Y d_LA_law_310 k_LA_47 (Nat.le_of_ble_eq_true rfl) (Nat.le_of_ble_eq_true rfl) (by first | rfl | assumption) (by rfl) (w_MO_thrown (by first | rfl | assumption)) (Nat.le_of_ble_eq_true rfl) (Nat.le_of_ble_eq_true rfl) (by show _ ≤ 601024; omega) (by show _ ≤ 7293034; omega) (Nat.le_of_ble_eq_true rfl) rfl ?_
  refine x_iload d_LA_law_313 rfl ?_
  refine x_icmp_eq 320 d_LA_law_315 (by decide) (fun _ => ?_) (fun z => absurd rfl z)
  refine x_iload d_LA_law_320 rfl ?_
  refine x_if_ne 337 d_LA_law_322 (by decide) (fun _ => ?_) (fun z => absurd z (by decide))
  refine x_goto 451 d_LA_law_337 (by decide) ?_
  refine x_lv [(0, .ref 4000000), (1, .ref 0), (2, .ref 21), (3, .ref 51), (4, .int (nI i)), (5, .int 1), (6, .int 0)] rfl ?_
  refine x_wk [(0, .ref 4000000), (1, .ref 0), (2, .ref 21), (3, .ref 51), (4, .int (nI i))] (by simp) ?_
  exact K _ _ _ ⟨u, N, ra, rl, sy, va, ne, bk, Rs, Rs2, 1, _, hu, hN, hra, hrl, (g_CWS hra hC (fun i h1 => by repeat' (first | refine (x_up_ne (by omega)).trans ?_ | rfl))), ⟨rfl, m22, m23, g_MMrS mr (fun i h1 h2 => by repeat' (first | refine (x_up_ne (by omega)).trans ?_ | rfl))⟩, hRR, ho⟩ (by omega) (by omega)
set_option maxRecDepth 20000 in
theorem w_L_count {E : xR} {h : xH} {Q : xK} {i cc ss : Nat} (hnt : ¬ x_tg E) (hs9 : x_sL E ≤ 3072) (hi : i + 6 ≤ x_sL E) (hI : g_LVI h) (hcc : cc + 1 ≤ 601024) (hss : ss + 6 ≤ 7293034) (K : ∀ h' c' s', g_LVI h' → c' ≤ cc + 1 → s' ≤ ss + 6 → x_W E M_LA_law room_1 Q 52 h' 451 [(0, .ref 4000000), (1, .ref 0), (2, .ref 21), (3, .ref 51), (4, .int (nI i))] [] c' s') : x_W E M_LA_law room_1 Q 52 h 395 [(0, .ref 4000000), (1, .ref 0), (2, .ref 21), (3, .ref 51), (4, .int (nI i))] [] cc ss := by
  obtain ⟨u, N, ra, rl, sy, va, ne, bk, Rs, Rs2, th, g, hu, hN, hra, hrl, hC, hM, hRR, ho⟩ := hI
  obtain ⟨c0, c1, c2, ⟨w0, w1, w2, w3, w4, w5, w6, c3⟩, c5, c15, c16, c17, cR, cP⟩ := id hC
  obtain ⟨m21, m22, m23, mr⟩ := id hM
  obtain ⟨x, hx⟩ : ∃ x, x_sx E (nI (i + 1)).toNatClampNeg = x := ⟨_, rfl⟩
  by_cases hx0 : x = 0
  · subst hx0
    refine x_aload_n d_LA_law_395 rfl rfl ?_
    refine x_aload_n d_LA_law_396 rfl rfl ?_
    refine x_iload d_LA_law_397 rfl ?_
    refine x_iconst 1 d_LA_law_399 (by decide) ?_
    refine x_iadd d_LA_law_400 ?_
    refine x_topi (nI (i + 1)) (nI_add i 1) ?_
    refine x_sld d_LA_law_401 (vp_in_nI (show i + 1 < x_sL E by omega) (by omega)) ?_
    refine x_topi 0 hx ?_
    refine x_aload_n d_LA_law_402 rfl rfl ?_
    refine x_callS3N d_LA_law_403 k_LA_64 (w_LA_count0 hnt c0 c2 c3 ho) (Nat.le_of_ble_eq_true rfl) (Nat.le_of_ble_eq_true rfl) (by show _ ≤ 601024; omega) (by show _ ≤ 7293034; omega) (Nat.le_of_ble_eq_true rfl) rfl hnt ?_
    refine x_istore d_LA_law_406 (Nat.le_of_ble_eq_true rfl) ?_
    refine x_aload_n d_LA_law_408 rfl rfl ?_
    refine x_aload_n d_LA_law_409 rfl rfl ?_
    refine x_iload d_LA_law_410 rfl ?_
    refine x_iconst 1 d_LA_law_412 (by decide) ?_
    refine x_iadd d_LA_law_413 ?_
    refine x_topi (nI (i + 1)) (nI_add i 1) ?_
    refine x_sld d_LA_law_414 (vp_in_nI (show i + 1 < x_sL E by omega) (by omega)) ?_
    refine x_topi 0 hx ?_
    refine x_callV1Y d_LA_law_415 k_LA_66 (Nat.le_of_ble_eq_true rfl) (Nat.le_of_ble_eq_true rfl) (by first | rfl | assumption) (by rfl) (w_MO_count0 (by first | rfl | assumption)) (Nat.le_of_ble_eq_true rfl) (Nat.le_of_ble_eq_true rfl) (by show _ ≤ 601024; omega) (by show _ ≤ 7293034; omega) (Nat.le_of_ble_eq_true rfl) rfl ?_
    refine x_istore d_LA_law_418 (Nat.le_of_ble_eq_true rfl) ?_
    refine x_aload_n d_LA_law_420 rfl rfl ?_
    refine x_callV0Y d_LA_law_421 k_LA_47 (Nat.le_of_ble_eq_true rfl) (Nat.le_of_ble_eq_true rfl) (by first | rfl | assumption) (by rfl) (w_MO_thrown (by first | rfl | assumption)) (Nat.le_of_ble_eq_true rfl) (Nat.le_of_ble_eq_true rfl) (by show _ ≤ 601024; omega) (by show _ ≤ 7293034; omega) (Nat.le_of_ble_eq_true rfl) rfl ?_
    refine x_iload d_LA_law_424 rfl ?_
    refine x_icmp_eq 431 d_LA_law_426 (by decide) (fun _ => ?_) (fun z => absurd rfl z)
    refine x_iload d_LA_law_431 rfl ?_
    refine x_if_ne 448 d_LA_law_433 (by decide) (fun z => absurd rfl z) (fun _ => ?_)
    refine x_aload_n d_LA_law_436 rfl rfl ?_
    refine x_iconst 0 d_LA_law_437 (by decide) ?_
    refine x_lald d_LA_law_438 (Nat.le_of_ble_eq_true rfl) (Nat.le_of_ble_eq_true rfl) (by first | rfl | assumption) (vp_in_nI (by decide) (by decide)) ?_
    refine x_topl (nI N).toInt64 rfl ?_
    refine x_iload d_LA_law_439 rfl ?_
    refine x_i2l d_LA_law_441 ?_
    refine x_lcmp d_LA_law_442 ?_
    refine x_if_eq 448 d_LA_law_443 (by decide) (fun _ => ?_) (fun z => absurd (g_cmp0 _) z)
    refine x_goto 451 d_LA_law_448 (by decide) ?_
    refine x_lv [(0, .ref 4000000), (1, .ref 0), (2, .ref 21), (3, .ref 51), (4, .int (nI i)), (5, .int 0), (6, .int (nI N))] rfl ?_
    refine x_wk [(0, .ref 4000000), (1, .ref 0), (2, .ref 21), (3, .ref 51), (4, .int (nI i))] (by simp) ?_
    exact K _ _ _ ⟨u, N, ra, rl, sy, va, ne, bk, Rs, Rs2, 0, _, hu, hN, hra, hrl, (g_CWS hra hC (fun i h1 => by repeat' (first | refine (x_up_ne (by omega)).trans ?_ | rfl))), ⟨rfl, m22, m23, g_MMrS mr (fun i h1 h2 => by repeat' (first | refine (x_up_ne (by omega)).trans ?_ | rfl))⟩, hRR, rfl⟩ (by omega) (by omega)
  by_cases hx1 : x = 1
  · subst hx1
    refine x_aload_n d_LA_law_395 rfl rfl ?_
    refine x_aload_n d_LA_law_396 rfl rfl ?_
    refine x_iload d_LA_law_397 rfl ?_
    refine x_iconst 1 d_LA_law_399 (by decide) ?_
    refine x_iadd d_LA_law_400 ?_
    refine x_topi (nI (i + 1)) (nI_add i 1) ?_
    refine x_sld d_LA_law_401 (vp_in_nI (show i + 1 < x_sL E by omega) (by omega)) ?_
    refine x_topi 1 hx ?_
    refine x_aload_n d_LA_law_402 rfl rfl ?_
    refine x_callS3N d_LA_law_403 k_LA_64 (w_LA_count1 hnt c0 c2 c3 ho) (Nat.le_of_ble_eq_true rfl) (Nat.le_of_ble_eq_true rfl) (by show _ ≤ 601024; omega) (by show _ ≤ 7293034; omega) (Nat.le_of_ble_eq_true rfl) rfl hnt ?_
    refine x_istore d_LA_law_406 (Nat.le_of_ble_eq_true rfl) ?_
    refine x_aload_n d_LA_law_408 rfl rfl ?_
    refine x_aload_n d_LA_law_409 rfl rfl ?_
    refine x_iload d_LA_law_410 rfl ?_
    refine x_iconst 1 d_LA_law_412 (by decide) ?_
    refine x_iadd d_LA_law_413 ?_
    refine x_topi (nI (i + 1)) (nI_add i 1) ?_
    refine x_sld d_LA_law_414 (vp_in_nI (show i + 1 < x_sL E by omega) (by omega)) ?_
    refine x_topi 1 hx ?_
    refine x_callV1Y d_LA_law_415 k_LA_66 (Nat.le_of_ble_eq_true rfl) (Nat.le_of_ble_eq_true rfl) (by first | rfl | assumption) (by rfl) (w_MO_count1 (by first | rfl | assumption)) (Nat.le_of_ble_eq_true rfl) (Nat.le_of_ble_eq_true rfl) (by show _ ≤ 601024; omega) (by show _ ≤ 7293034; omega) (Nat.le_of_ble_eq_true rfl) rfl ?_
    refine x_istore d_LA_law_418 (Nat.le_of_ble_eq_true rfl) ?_
    refine x_aload_n d_LA_law_420 rfl rfl ?_
    refine x_callV0Y d_LA_law_421 k_LA_47 (Nat.le_of_ble_eq_true rfl) (Nat.le_of_ble_eq_true rfl) (by first | rfl | assumption) (by rfl) (w_MO_thrown (by first | rfl | assumption)) (Nat.le_of_ble_eq_true rfl) (Nat.le_of_ble_eq_true rfl) (by show _ ≤ 601024; omega) (by show _ ≤ 7293034; omega) (Nat.le_of_ble_eq_true rfl) rfl ?_
    refine x_iload d_LA_law_424 rfl ?_
    refine x_icmp_eq 431 d_LA_law_426 (by decide) (fun _ => ?_) (fun z => absurd rfl z)
    refine x_iload d_LA_law_431 rfl ?_
    refine x_if_ne 448 d_LA_law_433 (by decide) (fun z => absurd rfl z) (fun _ => ?_)
    refine x_aload_n d_LA_law_436 rfl rfl ?_
    refine x_iconst 0 d_LA_law_437 (by decide) ?_
    refine x_lald d_LA_law_438 (Nat.le_of_ble_eq_true rfl) (Nat.le_of_ble_eq_true rfl) (by first | rfl | assumption) (vp_in_nI (by decide) (by decide)) ?_
    refine x_topl (nI rl).toInt64 rfl ?_
    refine x_iload d_LA_law_439 rfl ?_
    refine x_i2l d_LA_law_441 ?_
    refine x_lcmp d_LA_law_442 ?_
    refine x_if_eq 448 d_LA_law_443 (by decide) (fun _ => ?_) (fun z => absurd (g_cmp0 _) z)
    refine x_goto 451 d_LA_law_448 (by decide) ?_
    refine x_lv [(0, .ref 4000000), (1, .ref 0), (2, .ref 21), (3, .ref 51), (4, .int (nI i)), (5, .int 0), (6, .int (nI rl))] rfl ?_
    refine x_wk [(0, .ref 4000000), (1, .ref 0), (2, .ref 21), (3, .ref 51), (4, .int (nI i))] (by simp) ?_
    exact K _ _ _ ⟨u, N, ra, rl, sy, va, ne, bk, Rs, Rs2, 0, _, hu, hN, hra, hrl, (g_CWS hra hC (fun i h1 => by repeat' (first | refine (x_up_ne (by omega)).trans ?_ | rfl))), ⟨rfl, m22, m23, g_MMrS mr (fun i h1 h2 => by repeat' (first | refine (x_up_ne (by omega)).trans ?_ | rfl))⟩, hRR, rfl⟩ (by omega) (by omega)
  by_cases hx2 : x = 2
  · subst hx2
    refine x_aload_n d_LA_law_395 rfl rfl ?_
    refine x_aload_n d_LA_law_396 rfl rfl ?_
    refine x_iload d_LA_law_397 rfl ?_
    refine x_iconst 1 d_LA_law_399 (by decide) ?_
    refine x_iadd d_LA_law_400 ?_
    refine x_topi (nI (i + 1)) (nI_add i 1) ?_
    refine x_sld d_LA_law_401 (vp_in_nI (show i + 1 < x_sL E by omega) (by omega)) ?_
    refine x_topi 2 hx ?_
    refine x_aload_n d_LA_law_402 rfl rfl ?_
    refine x_callS3N d_LA_law_403 k_LA_64 (w_LA_count2 hnt c0 c2 c3 ho) (Nat.le_of_ble_eq_true rfl) (Nat.le_of_ble_eq_true rfl) (by show _ ≤ 601024; omega) (by show _ ≤ 7293034; omega) (Nat.le_of_ble_eq_true rfl) rfl hnt ?_
    refine x_istore d_LA_law_406 (Nat.le_of_ble_eq_true rfl) ?_
    refine x_aload_n d_LA_law_408 rfl rfl ?_
    refine x_aload_n d_LA_law_409 rfl rfl ?_
    refine x_iload d_LA_law_410 rfl ?_
    refine x_iconst 1 d_LA_law_412 (by decide) ?_
    refine x_iadd d_LA_law_413 ?_
    refine x_topi (nI (i + 1)) (nI_add i 1) ?_
    refine x_sld d_LA_law_414 (vp_in_nI (show i + 1 < x_sL E by omega) (by omega)) ?_
    refine x_topi 2 hx ?_
    refine x_callV1Y d_LA_law_415 k_LA_66 (Nat.le_of_ble_eq_true rfl) (Nat.le_of_ble_eq_true rfl) (by first | rfl | assumption) (by rfl) (w_MO_count2 (by first | rfl | assumption)) (Nat.le_of_ble_eq_true rfl) (Nat.le_of_ble_eq_true rfl) (by show _ ≤ 601024; omega) (by show _ ≤ 7293034; omega) (Nat.le_of_ble_eq_true rfl) rfl ?_
    refine x_istore d_LA_law_418 (Nat.le_of_ble_eq_true rfl) ?_
    refine x_aload_n d_LA_law_420 rfl rfl ?_
    refine x_callV0Y d_LA_law_421 k_LA_47 (Nat.le_of_ble_eq_true rfl) (Nat.le_of_ble_eq_true rfl) (by first | rfl | assumption) (by rfl) (w_MO_thrown (by first | rfl | assumption)) (Nat.le_of_ble_eq_true rfl) (Nat.le_of_ble_eq_true rfl) (by show _ ≤ 601024; omega) (by show _ ≤ 7293034; omega) (Nat.le_of_ble_eq_true rfl) rfl ?_
    refine x_iload d_LA_law_424 rfl ?_
    refine x_icmp_eq 431 d_LA_law_426 (by decide) (fun _ => ?_) (fun z => absurd rfl z)
    refine x_iload d_LA_law_431 rfl ?_
    refine x_if_ne 448 d_LA_law_433 (by decide) (fun z => absurd rfl z) (fun _ => ?_)
    refine x_aload_n d_LA_law_436 rfl rfl ?_
    refine x_iconst 0 d_LA_law_437 (by decide) ?_
    refine x_lald d_LA_law_438 (Nat.le_of_ble_eq_true rfl) (Nat.le_of_ble_eq_true rfl) (by first | rfl | assumption) (vp_in_nI (by decide) (by decide)) ?_
    refine x_topl bk.toInt64 rfl ?_
    refine x_iload d_LA_law_439 rfl ?_
    refine x_i2l d_LA_law_441 ?_
    refine x_lcmp d_LA_law_442 ?_
    refine x_if_eq 448 d_LA_law_443 (by decide) (fun _ => ?_) (fun z => absurd (g_cmp0 _) z)
    refine x_goto 451 d_LA_law_448 (by decide) ?_
    refine x_lv [(0, .ref 4000000), (1, .ref 0), (2, .ref 21), (3, .ref 51), (4, .int (nI i)), (5, .int 0), (6, .int bk)] rfl ?_
    refine x_wk [(0, .ref 4000000), (1, .ref 0), (2, .ref 21), (3, .ref 51), (4, .int (nI i))] (by simp) ?_
    exact K _ _ _ ⟨u, N, ra, rl, sy, va, ne, bk, Rs, Rs2, 0, _, hu, hN, hra, hrl, (g_CWS hra hC (fun i h1 => by repeat' (first | refine (x_up_ne (by omega)).trans ?_ | rfl))), ⟨rfl, m22, m23, g_MMrS mr (fun i h1 h2 => by repeat' (first | refine (x_up_ne (by omega)).trans ?_ | rfl))⟩, hRR, rfl⟩ (by omega) (by omega)
  refine x_aload_n d_LA_law_395 rfl rfl ?_
  refine x_aload_n d_LA_law_396 rfl rfl ?_
  refine x_iload d_LA_law_397 rfl ?_
  refine x_iconst 1 d_LA_law_399 (by decide) ?_
  refine x_iadd d_LA_law_400 ?_
  refine x_topi (nI (i + 1)) (nI_add i 1) ?_
  refine x_sld d_LA_law_401 (vp_in_nI (show i + 1 < x_sL E by omega) (by omega)) ?_
  refine x_topi x hx ?_
  refine x_aload_n d_LA_law_402 rfl rfl ?_
  refine x_callS3N d_LA_law_403 k_LA_64 (w_LA_count_no hnt c0 (g_w3 hx0 hx1 hx2)) (Nat.le_of_ble_eq_true rfl) (Nat.le_of_ble_eq_true rfl) (by show _ ≤ 601024; omega) (by show _ ≤ 7293034; omega) (Nat.le_of_ble_eq_true rfl) rfl hnt ?_
  refine x_istore d_LA_law_406 (Nat.le_of_ble_eq_true rfl) ?_
  refine x_aload_n d_LA_law_408 rfl rfl ?_
  refine x_aload_n d_LA_law_409 rfl rfl ?_
  refine x_iload d_LA_law_410 rfl ?_
  refine x_iconst 1 d_LA_law_412 (by decide) ?_
  refine x_iadd d_LA_law_413 ?_
  refine x_topi (nI (i + 1)) (nI_add i 1) ?_
  refine x_sld d_LA_law_414 (vp_in_nI (show i + 1 < x_sL E by omega) (by omega)) ?_
  refine x_topi x hx ?_
  refine x_callV1Y d_LA_law_415 k_LA_66 (Nat.le_of_ble_eq_true rfl) (Nat.le_of_ble_eq_true rfl) (by first | rfl | assumption) (by rfl) (w_MO_count_no (by first | rfl | assumption) hx0 hx1 hx2) (Nat.le_of_ble_eq_true rfl) (Nat.le_of_ble_eq_true rfl) (by show _ ≤ 601024; omega) (by show _ ≤ 7293034; omega) (Nat.le_of_ble_eq_true rfl) rfl ?_
  refine x_istore d_LA_law_418 (Nat.le_of_ble_eq_true rfl) ?_
  refine x_aload_n d_LA_law_420 rfl rfl ?_
  refine x_callV0Y d_LA_law_421 k_LA_47 (Nat.le_of_ble_eq_true rfl) (Nat.le_of_ble_eq_true rfl) (by first | rfl | assumption) (by rfl) (w_MO_thrown (by first | rfl | assumption)) (Nat.le_of_ble_eq_true rfl) (Nat.le_of_ble_eq_true rfl) (by show _ ≤ 601024; omega) (by show _ ≤ 7293034; omega) (Nat.le_of_ble_eq_true rfl) rfl ?_
  refine x_iload d_LA_law_424 rfl ?_
  refine x_icmp_eq 431 d_LA_law_426 (by decide) (fun _ => ?_) (fun z => absurd rfl z)
  refine x_iload d_LA_law_431 rfl ?_
  refine x_if_ne 448 d_LA_law_433 (by decide) (fun _ => ?_) (fun z => absurd z (by decide))
  refine x_goto 451 d_LA_law_448 (by decide) ?_
  refine x_lv [(0, .ref 4000000), (1, .ref 0), (2, .ref 21), (3, .ref 51), (4, .int (nI i)), (5, .int 1), (6, .int 0)] rfl ?_
  refine x_wk [(0, .ref 4000000), (1, .ref 0), (2, .ref 21), (3, .ref 51), (4, .int (nI i))] (by simp) ?_
  exact K _ _ _ ⟨u, N, ra, rl, sy, va, ne, bk, Rs, Rs2, 1, _, hu, hN, hra, hrl, (g_CWS hra hC (fun i h1 => by repeat' (first | refine (x_up_ne (by omega)).trans ?_ | rfl))), ⟨rfl, m22, m23, g_MMrS mr (fun i h1 h2 => by repeat' (first | refine (x_up_ne (by omega)).trans ?_ | rfl))⟩, hRR, ho⟩ (by omega) (by omega)
set_option maxRecDepth 20000 in
theorem w_L_word {E : xR} {h : xH} {Q : xK} {i cc ss : Nat} (hnt : ¬ x_tg E) (hs9 : x_sL E ≤ 3072) (hi : i + 6 ≤ x_sL E) (hI : g_LVI h) (hcc : cc + 1 ≤ 601024) (hss : ss + 6 ≤ 7293034) (K : ∀ h' c' s', g_LVI h' → c' ≤ cc + 1 → s' ≤ ss + 6 → x_W E M_LA_law room_1 Q 52 h' 451 [(0, .ref 4000000), (1, .ref 0), (2, .ref 21), (3, .ref 51), (4, .int (nI i))] [] c' s') : x_W E M_LA_law room_1 Q 52 h 340 [(0, .ref 4000000), (1, .ref 0), (2, .ref 21), (3, .ref 51), (4, .int (nI i))] [] cc ss := by
  obtain ⟨u, N, ra, rl, sy, va, ne, bk, Rs, Rs2, th, g, hu, hN, hra, hrl, hC, hM, hRR, ho⟩ := hI
  obtain ⟨c0, c1, c2, ⟨w0, w1, w2, w3, w4, w5, w6, c3⟩, c5, c15, c16, c17, cR, cP⟩ := id hC
  obtain ⟨m21, m22, m23, mr⟩ := id hM
  obtain ⟨x, hx⟩ : ∃ x, x_sx E (nI (i + 1)).toNatClampNeg = x := ⟨_, rfl⟩
  by_cases hb : x < 0 ∨ ¬ x < nI rl
  · refine x_aload_n d_LA_law_340 rfl rfl ?_
    refine x_aload_n d_LA_law_341 rfl rfl ?_
    refine x_iload d_LA_law_342 rfl ?_
    refine x_iconst 1 d_LA_law_344 (by decide) ?_
    refine x_iadd d_LA_law_345 ?_
    refine x_topi (nI (i + 1)) (nI_add i 1) ?_
    refine x_sld d_LA_law_346 (vp_in_nI (show i + 1 < x_sL E by omega) (by omega)) ?_
    refine x_topi x hx ?_
    refine x_aload_n d_LA_law_347 rfl rfl ?_
    refine x_callS3N d_LA_law_348 k_LA_61 (w_LA_word_no hnt c0 hb) (Nat.le_of_ble_eq_true rfl) (Nat.le_of_ble_eq_true rfl) (by show _ ≤ 601024; omega) (by show _ ≤ 7293034; omega) (Nat.le_of_ble_eq_true rfl) rfl hnt ?_
    refine x_istore d_LA_law_351 (Nat.le_of_ble_eq_true rfl) ?_
    refine x_aload_n d_LA_law_353 rfl rfl ?_
    refine x_aload_n d_LA_law_354 rfl rfl ?_
    refine x_iload d_LA_law_355 rfl ?_
    refine x_iconst 1 d_LA_law_357 (by decide) ?_
    refine x_iadd d_LA_law_358 ?_
    refine x_topi (nI (i + 1)) (nI_add i 1) ?_
    refine x_sld d_LA_law_359 (vp_in_nI (show i + 1 < x_sL E by omega) (by omega)) ?_
    refine x_topi x hx ?_
    refine x_callV1Y d_LA_law_360 k_LA_63 (Nat.le_of_ble_eq_true rfl) (Nat.le_of_ble_eq_true rfl) (by first | rfl | assumption) (by rfl) (w_MO_word_no (by first | rfl | assumption) hb) (Nat.le_of_ble_eq_true rfl) (Nat.le_of_ble_eq_true rfl) (by show _ ≤ 601024; omega) (by show _ ≤ 7293034; omega) (Nat.le_of_ble_eq_true rfl) rfl ?_
    refine x_lstore d_LA_law_363 (Nat.le_of_ble_eq_true rfl) ?_
    refine x_aload_n d_LA_law_365 rfl rfl ?_
    refine x_callV0Y d_LA_law_366 k_LA_47 (Nat.le_of_ble_eq_true rfl) (Nat.le_of_ble_eq_true rfl) (by first | rfl | assumption) (by rfl) (w_MO_thrown (by first | rfl | assumption)) (Nat.le_of_ble_eq_true rfl) (Nat.le_of_ble_eq_true rfl) (by show _ ≤ 601024; omega) (by show _ ≤ 7293034; omega) (Nat.le_of_ble_eq_true rfl) rfl ?_
    refine x_iload d_LA_law_369 rfl ?_
    refine x_icmp_eq 376 d_LA_law_371 (by decide) (fun _ => ?_) (fun z => absurd rfl z)
    refine x_iload d_LA_law_376 rfl ?_
    refine x_if_ne 392 d_LA_law_378 (by decide) (fun _ => ?_) (fun z => absurd z (by decide))
    refine x_goto 451 d_LA_law_392 (by decide) ?_
    refine x_lv [(0, .ref 4000000), (1, .ref 0), (2, .ref 21), (3, .ref 51), (4, .int (nI i)), (5, .int 1), (6, .long 0)] rfl ?_
    refine x_wk [(0, .ref 4000000), (1, .ref 0), (2, .ref 21), (3, .ref 51), (4, .int (nI i))] (by simp) ?_
    exact K _ _ _ ⟨u, N, ra, rl, sy, va, ne, bk, Rs, Rs2, 1, _, hu, hN, hra, hrl, (g_CWS hra hC (fun i h1 => by repeat' (first | refine (x_up_ne (by omega)).trans ?_ | rfl))), ⟨rfl, m22, m23, g_MMrS mr (fun i h1 h2 => by repeat' (first | refine (x_up_ne (by omega)).trans ?_ | rfl))⟩, hRR, ho⟩ (by omega) (by omega)
  · obtain ⟨m, hm9, hxm⟩ := nI_of (fun y => hb (Or.inl y))
    subst hxm
    have hm : m < rl := (nI_ltI hm9 (by omega)).mp (Decidable.not_not.mp (fun y => hb (Or.inr y)))
    have hwd : g_wd Rs2 rl m 8 = g_wd Rs rl m 8 := by
      have hwb : ∀ k, g_wb Rs2 rl k = g_wb Rs rl k := fun k => by
        unfold g_wb
        by_cases z : k < rl
        · rw [if_pos z, if_pos z, hRR k z]
        · rw [if_neg z, if_neg z]
      have : ∀ k, g_wd Rs2 rl m k = g_wd Rs rl m k := fun k => by
        induction k with
        | zero => rfl
        | succ k ih => rw [g_wd, g_wd, ih, hwb]
      exact this 8
    refine x_aload_n d_LA_law_340 rfl rfl ?_
    refine x_aload_n d_LA_law_341 rfl rfl ?_
    refine x_iload d_LA_law_342 rfl ?_
    refine x_iconst 1 d_LA_law_344 (by decide) ?_
    refine x_iadd d_LA_law_345 ?_
    refine x_topi (nI (i + 1)) (nI_add i 1) ?_
    refine x_sld d_LA_law_346 (vp_in_nI (show i + 1 < x_sL E by omega) (by omega)) ?_
    refine x_topi (nI m) hx ?_
    refine x_aload_n d_LA_law_347 rfl rfl ?_
    refine x_callS3N d_LA_law_348 k_LA_61 (w_LA_word hnt c0 (by omega) cR ho hm hrl) (Nat.le_of_ble_eq_true rfl) (Nat.le_of_ble_eq_true rfl) (by show _ ≤ 601024; omega) (by show _ ≤ 7293034; omega) (Nat.le_of_ble_eq_true rfl) rfl hnt ?_
    refine x_istore d_LA_law_351 (Nat.le_of_ble_eq_true rfl) ?_
    refine x_aload_n d_LA_law_353 rfl rfl ?_
    refine x_aload_n d_LA_law_354 rfl rfl ?_
    refine x_iload d_LA_law_355 rfl ?_
    refine x_iconst 1 d_LA_law_357 (by decide) ?_
    refine x_iadd d_LA_law_358 ?_
    refine x_topi (nI (i + 1)) (nI_add i 1) ?_
    refine x_sld d_LA_law_359 (vp_in_nI (show i + 1 < x_sL E by omega) (by omega)) ?_
    refine x_topi (nI m) hx ?_
    refine x_callV1Y d_LA_law_360 k_LA_63 (Nat.le_of_ble_eq_true rfl) (Nat.le_of_ble_eq_true rfl) (by first | rfl | assumption) (by rfl) (w_MO_word (by first | rfl | assumption) (by first | rfl | assumption) hm hrl) (Nat.le_of_ble_eq_true rfl) (Nat.le_of_ble_eq_true rfl) (by show _ ≤ 601024; omega) (by show _ ≤ 7293034; omega) (Nat.le_of_ble_eq_true rfl) rfl ?_
    refine x_topl (g_wd Rs rl m 8) hwd ?_
    refine x_lstore d_LA_law_363 (Nat.le_of_ble_eq_true rfl) ?_
    refine x_aload_n d_LA_law_365 rfl rfl ?_
    refine x_callV0Y d_LA_law_366 k_LA_47 (Nat.le_of_ble_eq_true rfl) (Nat.le_of_ble_eq_true rfl) (by first | rfl | assumption) (by rfl) (w_MO_thrown (by first | rfl | assumption)) (Nat.le_of_ble_eq_true rfl) (Nat.le_of_ble_eq_true rfl) (by show _ ≤ 601024; omega) (by show _ ≤ 7293034; omega) (Nat.le_of_ble_eq_true rfl) rfl ?_
    refine x_iload d_LA_law_369 rfl ?_
    refine x_icmp_eq 376 d_LA_law_371 (by decide) (fun _ => ?_) (fun z => absurd rfl z)
    refine x_iload d_LA_law_376 rfl ?_
    refine x_if_ne 392 d_LA_law_378 (by decide) (fun z => absurd rfl z) (fun _ => ?_)
    refine x_aload_n d_LA_law_381 rfl rfl ?_
    refine x_iconst 0 d_LA_law_382 (by decide) ?_
    refine x_lald d_LA_law_383 (Nat.le_of_ble_eq_true rfl) (Nat.le_of_ble_eq_true rfl) (by first | rfl | assumption) (vp_in_nI (by decide) (by decide)) ?_
    refine x_topl (g_wd Rs rl m 8) rfl ?_
    refine x_lload d_LA_law_384 rfl ?_
    refine x_lcmp d_LA_law_386 ?_
    refine x_if_eq 392 d_LA_law_387 (by decide) (fun _ => ?_) (fun z => absurd (g_cmp0 _) z)
    refine x_goto 451 d_LA_law_392 (by decide) ?_
    refine x_lv [(0, .ref 4000000), (1, .ref 0), (2, .ref 21), (3, .ref 51), (4, .int (nI i)), (5, .int 0), (6, .long (g_wd Rs rl m 8))] rfl ?_
    refine x_wk [(0, .ref 4000000), (1, .ref 0), (2, .ref 21), (3, .ref 51), (4, .int (nI i))] (by simp) ?_
    exact K _ _ _ ⟨u, N, ra, rl, sy, va, ne, bk, Rs, Rs2, 0, _, hu, hN, hra, hrl, (g_CWS hra hC (fun i h1 => by repeat' (first | refine (x_up_ne (by omega)).trans ?_ | rfl))), ⟨rfl, m22, m23, g_MMrS mr (fun i h1 h2 => by repeat' (first | refine (x_up_ne (by omega)).trans ?_ | rfl))⟩, hRR, rfl⟩ (by omega) (by omega)
