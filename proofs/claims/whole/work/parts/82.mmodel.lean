theorem g_nar2 (x : Int32) : vp_nar .byte (vp_nar .byte x) = vp_nar .byte x := by
  show (x.toInt8.toInt32).toInt8.toInt32 = x.toInt8.toInt32
  rw [Int8.toInt8_toInt32]
/-- bytes of one row taken over into another -/
def g_cp (f g : Nat → Int32) (n : Nat) : Nat → Int32 := fun k => if k < n then vp_nar .byte (f k) else g k
theorem g_cp0 {f g : Nat → Int32} : g_cp f g 0 = g := by funext k; unfold g_cp; rw [if_neg (by omega)]
theorem g_cpS {f g : Nat → Int32} {n : Nat} : upd (g_cp f g n) n (vp_nar .byte (f n)) = g_cp f g (n + 1) := by
  funext k
  by_cases h : k = n
  · rw [h, g_updY]; unfold g_cp; rw [if_pos (by omega)]
  · rw [g_updN h]; unfold g_cp
    by_cases h2 : k < n
    · rw [if_pos h2, if_pos (by omega)]
    · rw [if_neg h2, if_neg (by omega)]
theorem g_psB : ∀ (l : List Int32) (P : Nat → Int32) (n k : Nat), k < n → g_ps P n l k = P k
  | [], P, n, k, h => rfl
  | c :: l, P, n, k, h => by
    rw [g_ps, g_psB l _ (n + 1) k (by omega)]
    unfold g_pp
    cases decide (n < 4096) with
    | true => exact g_updN (by omega)
    | false => rfl
theorem g_psI : ∀ (l : List Int32) (P : Nat → Int32) (n i : Nat) (h : i < l.length), n + l.length ≤ 4096 → g_ps P n l (n + i) = vp_nar .byte l[i].toInt8.toInt32
  | c :: l, P, n, 0, h, hn => by
    rw [List.length_cons] at hn
    show g_ps (g_pp P n c) (n + 1) l n = _
    rw [g_psB l _ (n + 1) n (by omega)]
    unfold g_pp
    rw [decide_eq_true (by omega)]
    exact g_updY
  | c :: l, P, n, i + 1, h, hn => by
    rw [List.length_cons] at h hn
    rw [g_ps, show n + (i + 1) = n + 1 + i by omega, g_psI l _ (n + 1) i (by omega) (by omega)]
    rfl
/-- the reference's other cells -/
def g_MMr (h : xH) : Prop :=
  (∃ B Nm a b, g_HT h B Nm a b) ∧
  (∃ (Na : Nat → Nat → Int32) (a b : Int32), h 31 = .inr (7, [.ref 32, .ref 33, .ref 34, .ref 35, .int a, .int b]) ∧ h 32 = .inl (1, 5000, .inl (Na 0)) ∧ h 33 = .inl (0, 9001, .inl (Na 1)) ∧ h 34 = .inl (0, 9000, .inl (Na 2)) ∧ h 35 = .inl (0, 1024, .inl (Na 3))) ∧
  (∃ (sv nv : Value) (aa bh tk oo : Int32) (nm : Int64) (lt tp pl vd kn rk : Int32), h 36 = .inr (8, [.ref 37, .ref 38, .ref 39, .ref 24, .ref 31, sv, nv, .int aa, .int bh, .int tk, .int oo, .long nm, .ref 40, .int lt, .ref 41, .int tp, .int pl, .ref 42, .int vd, .int kn, .int rk, .ref 43])) ∧ (∃ f, h 40 = .inl (1, 4096, .inl f)) ∧ (∃ f, h 41 = .inl (0, 4200, .inl f)) ∧ (∃ f, h 42 = .inl (0, 4200, .inl f)) ∧ (∃ f, h 43 = .inl (1, 4096, .inl f)) ∧ g_TB2 h ∧
  (∃ xa xb xc : Int32, h 44 = .inr (9, [.ref 45, .ref 46, .ref 47, .ref 48, .int xa, .int xb, .int xc])) ∧ (∃ f, h 45 = .inl (1, 4096, .inl f)) ∧ (∃ f, h 46 = .inl (0, 9000, .inl f)) ∧ (∃ f, h 47 = .inl (0, 9000, .inl f)) ∧ (∃ f, h 48 = .inl (0, 4200, .inl f)) ∧
  (∃ f, h 49 = .inl (0, 9000, .inl f)) ∧ (∃ f, h 50 = .inl (0, 9000, .inl f))
theorem g_MMrS {h h' : xH} (H : g_MMr h) (he : ∀ i, 24 ≤ i → i < 51 → h' i = h i) : g_MMr h' := by
  unfold g_MMr g_HT g_TB2 at *
  rw [he 24 (by decide) (by decide), he 25 (by decide) (by decide), he 26 (by decide) (by decide), he 27 (by decide) (by decide), he 28 (by decide) (by decide), he 29 (by decide) (by decide), he 30 (by decide) (by decide), he 31 (by decide) (by decide), he 32 (by decide) (by decide), he 33 (by decide) (by decide), he 34 (by decide) (by decide), he 35 (by decide) (by decide), he 36 (by decide) (by decide), he 37 (by decide) (by decide), he 38 (by decide) (by decide), he 39 (by decide) (by decide), he 40 (by decide) (by decide), he 41 (by decide) (by decide), he 42 (by decide) (by decide), he 43 (by decide) (by decide), he 44 (by decide) (by decide), he 45 (by decide) (by decide), he 46 (by decide) (by decide), he 47 (by decide) (by decide), he 48 (by decide) (by decide), he 49 (by decide) (by decide), he 50 (by decide) (by decide)]
  exact H
/-- the world of the reference -/
def g_MM (h : xH) (u : Nat → Nat) (N : Nat) (th pl : Int32) (rl : Nat) (sy va de : Int32) (Rs : Nat → Int32) : Prop :=
  h 21 = .inr (5, [.int th, .int (nI N), .int pl, .int sy, .int va, .int de, .int (nI rl), .ref 22, .ref 23, .ref 24, .ref 31, .ref 36, .ref 44, .ref 49, .ref 50]) ∧ h 22 = .inl (1, 4096, .inl (fun i => g_sb (u i))) ∧ h 23 = .inl (1, 4096, .inl Rs) ∧ g_MMr h
/-- the cells that are not the reference's stay -/
def g_CS (h h' : xH) : Prop := (∀ i, i < 21 → h' i = h i) ∧ h' 51 = h 51
/-- what the reference's reading comes to -/
def g_MRP (h : xH) (u : Nat → Nat) (N : Nat) (rl : Nat) (sy va de : Int32) (Rs : Nat → Int32) : Option Value → xH → Prop := fun v h1 => g_CS h h1 ∧ match g_all u N with
  | .inl q => v = some (.int 0) ∧ g_MM h1 u 0 1 (nI q) rl sy va de Rs
  | .inr (s, V, t) => if 4096 < (g_pt u t).length then v = some (.int 0) ∧ g_MM h1 u 0 2 (-1) rl sy va de Rs else v = some (.int (nI (g_pt u t).length)) ∧ ∃ P0 R0, g_MM h1 u 0 0 (-1) (g_pt u t).length (nI s) (nI V.length) (nI (g_dt t)) (g_cp (g_ps P0 0 (g_pt u t)) R0 (g_pt u t).length)
theorem d_MO_read_0 : decode M_MO_read.2.1 0 = .ok (.aload_n 0, 1) := by decide +kernel
theorem d_MO_read_1 : decode M_MO_read.2.1 1 = .ok (.iconst 0, 1) := by decide +kernel
theorem d_MO_read_2 : decode M_MO_read.2.1 2 = .ok (.putfield 60, 3) := by decide +kernel
theorem d_MO_read_5 : decode M_MO_read.2.1 5 = .ok (.aload_n 0, 1) := by decide +kernel
theorem d_MO_read_6 : decode M_MO_read.2.1 6 = .ok (.getfield 57, 3) := by decide +kernel
theorem d_MO_read_9 : decode M_MO_read.2.1 9 = .ok (.istore_n 1, 1) := by decide +kernel
theorem d_MO_read_10 : decode M_MO_read.2.1 10 = .ok (.aload_n 0, 1) := by decide +kernel
theorem d_MO_read_11 : decode M_MO_read.2.1 11 = .ok (.iconst 0, 1) := by decide +kernel
theorem d_MO_read_12 : decode M_MO_read.2.1 12 = .ok (.putfield 57, 3) := by decide +kernel
theorem d_MO_read_15 : decode M_MO_read.2.1 15 = .ok (.aload_n 0, 1) := by decide +kernel
theorem d_MO_read_16 : decode M_MO_read.2.1 16 = .ok (.getfield 23, 3) := by decide +kernel
theorem d_MO_read_19 : decode M_MO_read.2.1 19 = .ok (.iconst 0, 1) := by decide +kernel
theorem d_MO_read_20 : decode M_MO_read.2.1 20 = .ok (.putfield 71, 3) := by decide +kernel
theorem d_MO_read_23 : decode M_MO_read.2.1 23 = .ok (.aload_n 0, 1) := by decide +kernel
theorem d_MO_read_24 : decode M_MO_read.2.1 24 = .ok (.getfield 23, 3) := by decide +kernel
theorem d_MO_read_27 : decode M_MO_read.2.1 27 = .ok (.iconst 0, 1) := by decide +kernel
theorem d_MO_read_28 : decode M_MO_read.2.1 28 = .ok (.putfield 74, 3) := by decide +kernel
theorem d_MO_read_31 : decode M_MO_read.2.1 31 = .ok (.aload_n 0, 1) := by decide +kernel
theorem d_MO_read_32 : decode M_MO_read.2.1 32 = .ok (.getfield 30, 3) := by decide +kernel
theorem d_MO_read_35 : decode M_MO_read.2.1 35 = .ok (.invokevirtual 77, 3) := by decide +kernel
theorem d_MO_read_38 : decode M_MO_read.2.1 38 = .ok (.aload_n 0, 1) := by decide +kernel
theorem d_MO_read_39 : decode M_MO_read.2.1 39 = .ok (.getfield 39, 3) := by decide +kernel
theorem d_MO_read_42 : decode M_MO_read.2.1 42 = .ok (.iconst 0, 1) := by decide +kernel
theorem d_MO_read_43 : decode M_MO_read.2.1 43 = .ok (.putfield 80, 3) := by decide +kernel
theorem d_MO_read_46 : decode M_MO_read.2.1 46 = .ok (.aload_n 0, 1) := by decide +kernel
theorem d_MO_read_47 : decode M_MO_read.2.1 47 = .ok (.getfield 39, 3) := by decide +kernel
theorem d_MO_read_50 : decode M_MO_read.2.1 50 = .ok (.aload_n 0, 1) := by decide +kernel
theorem d_MO_read_51 : decode M_MO_read.2.1 51 = .ok (.getfield 13, 3) := by decide +kernel
theorem d_MO_read_54 : decode M_MO_read.2.1 54 = .ok (.iload_n 1, 1) := by decide +kernel
theorem d_MO_read_55 : decode M_MO_read.2.1 55 = .ok (.invokevirtual 83, 3) := by decide +kernel
theorem d_MO_read_58 : decode M_MO_read.2.1 58 = .ok (.istore_n 2, 1) := by decide +kernel
theorem d_MO_read_59 : decode M_MO_read.2.1 59 = .ok (.aload_n 0, 1) := by decide +kernel
theorem d_MO_read_60 : decode M_MO_read.2.1 60 = .ok (.aload_n 0, 1) := by decide +kernel
theorem d_MO_read_61 : decode M_MO_read.2.1 61 = .ok (.getfield 39, 3) := by decide +kernel
theorem d_MO_read_64 : decode M_MO_read.2.1 64 = .ok (.getfield 87, 3) := by decide +kernel
theorem d_MO_read_67 : decode M_MO_read.2.1 67 = .ok (.putfield 9, 3) := by decide +kernel
theorem d_MO_read_70 : decode M_MO_read.2.1 70 = .ok (.iload_n 2, 1) := by decide +kernel
theorem d_MO_read_71 : decode M_MO_read.2.1 71 = .ok (.iconst (-1), 1) := by decide +kernel
theorem d_MO_read_72 : decode M_MO_read.2.1 72 = .ok (.if_icmp .ne 9, 3) := by decide +kernel
theorem d_MO_read_75 : decode M_MO_read.2.1 75 = .ok (.aload_n 0, 1) := by decide +kernel
theorem d_MO_read_76 : decode M_MO_read.2.1 76 = .ok (.iconst 1, 1) := by decide +kernel
theorem d_MO_read_77 : decode M_MO_read.2.1 77 = .ok (.invokevirtual 63, 3) := by decide +kernel
theorem d_MO_read_80 : decode M_MO_read.2.1 80 = .ok (.ireturn, 1) := by decide +kernel
theorem d_MO_read_81 : decode M_MO_read.2.1 81 = .ok (.aload_n 0, 1) := by decide +kernel
theorem d_MO_read_82 : decode M_MO_read.2.1 82 = .ok (.getfield 46, 3) := by decide +kernel
theorem d_MO_read_85 : decode M_MO_read.2.1 85 = .ok (.aload_n 0, 1) := by decide +kernel
theorem d_MO_read_86 : decode M_MO_read.2.1 86 = .ok (.getfield 23, 3) := by decide +kernel
theorem d_MO_read_89 : decode M_MO_read.2.1 89 = .ok (.aload_n 0, 1) := by decide +kernel
theorem d_MO_read_90 : decode M_MO_read.2.1 90 = .ok (.getfield 30, 3) := by decide +kernel
theorem d_MO_read_93 : decode M_MO_read.2.1 93 = .ok (.iload_n 2, 1) := by decide +kernel
theorem d_MO_read_94 : decode M_MO_read.2.1 94 = .ok (.aconst_null, 1) := by decide +kernel
theorem d_MO_read_95 : decode M_MO_read.2.1 95 = .ok (.invokevirtual 88, 3) := by decide +kernel
theorem d_MO_read_98 : decode M_MO_read.2.1 98 = .ok (.aload_n 0, 1) := by decide +kernel
theorem d_MO_read_99 : decode M_MO_read.2.1 99 = .ok (.getfield 46, 3) := by decide +kernel
theorem d_MO_read_102 : decode M_MO_read.2.1 102 = .ok (.getfield 92, 3) := by decide +kernel
theorem d_MO_read_105 : decode M_MO_read.2.1 105 = .ok (.ifCond .eq 9, 3) := by decide +kernel
theorem d_MO_read_108 : decode M_MO_read.2.1 108 = .ok (.aload_n 0, 1) := by decide +kernel
theorem d_MO_read_109 : decode M_MO_read.2.1 109 = .ok (.iconst 2, 1) := by decide +kernel
theorem d_MO_read_110 : decode M_MO_read.2.1 110 = .ok (.invokevirtual 63, 3) := by decide +kernel
theorem d_MO_read_113 : decode M_MO_read.2.1 113 = .ok (.ireturn, 1) := by decide +kernel
theorem d_MO_read_114 : decode M_MO_read.2.1 114 = .ok (.aload_n 0, 1) := by decide +kernel
theorem d_MO_read_115 : decode M_MO_read.2.1 115 = .ok (.aload_n 0, 1) := by decide +kernel
theorem d_MO_read_116 : decode M_MO_read.2.1 116 = .ok (.getfield 46, 3) := by decide +kernel
theorem d_MO_read_119 : decode M_MO_read.2.1 119 = .ok (.getfield 96, 3) := by decide +kernel
theorem d_MO_read_122 : decode M_MO_read.2.1 122 = .ok (.putfield 99, 3) := by decide +kernel
theorem d_MO_read_125 : decode M_MO_read.2.1 125 = .ok (.iconst 0, 1) := by decide +kernel
theorem d_MO_read_126 : decode M_MO_read.2.1 126 = .ok (.istore_n 3, 1) := by decide +kernel
theorem d_MO_read_127 : decode M_MO_read.2.1 127 = .ok (.iload_n 3, 1) := by decide +kernel
theorem d_MO_read_128 : decode M_MO_read.2.1 128 = .ok (.aload_n 0, 1) := by decide +kernel
theorem d_MO_read_129 : decode M_MO_read.2.1 129 = .ok (.getfield 99, 3) := by decide +kernel
theorem d_MO_read_132 : decode M_MO_read.2.1 132 = .ok (.if_icmp .ge 24, 3) := by decide +kernel
theorem d_MO_read_135 : decode M_MO_read.2.1 135 = .ok (.aload_n 0, 1) := by decide +kernel
theorem d_MO_read_136 : decode M_MO_read.2.1 136 = .ok (.getfield 17, 3) := by decide +kernel
theorem d_MO_read_139 : decode M_MO_read.2.1 139 = .ok (.iload_n 3, 1) := by decide +kernel
theorem d_MO_read_140 : decode M_MO_read.2.1 140 = .ok (.aload_n 0, 1) := by decide +kernel
theorem d_MO_read_141 : decode M_MO_read.2.1 141 = .ok (.getfield 46, 3) := by decide +kernel
theorem d_MO_read_144 : decode M_MO_read.2.1 144 = .ok (.getfield 102, 3) := by decide +kernel
theorem d_MO_read_147 : decode M_MO_read.2.1 147 = .ok (.iload_n 3, 1) := by decide +kernel
theorem d_MO_read_148 : decode M_MO_read.2.1 148 = .ok (.baload, 1) := by decide +kernel
theorem d_MO_read_149 : decode M_MO_read.2.1 149 = .ok (.bastore, 1) := by decide +kernel
theorem d_MO_read_150 : decode M_MO_read.2.1 150 = .ok (.iinc 3 1, 3) := by decide +kernel
theorem d_MO_read_153 : decode M_MO_read.2.1 153 = .ok (.goto (-26), 3) := by decide +kernel
theorem d_MO_read_156 : decode M_MO_read.2.1 156 = .ok (.aload_n 0, 1) := by decide +kernel
theorem d_MO_read_157 : decode M_MO_read.2.1 157 = .ok (.aload_n 0, 1) := by decide +kernel
theorem d_MO_read_158 : decode M_MO_read.2.1 158 = .ok (.getfield 23, 3) := by decide +kernel
theorem d_MO_read_161 : decode M_MO_read.2.1 161 = .ok (.getfield 71, 3) := by decide +kernel
theorem d_MO_read_164 : decode M_MO_read.2.1 164 = .ok (.putfield 105, 3) := by decide +kernel
theorem d_MO_read_167 : decode M_MO_read.2.1 167 = .ok (.aload_n 0, 1) := by decide +kernel
theorem d_MO_read_168 : decode M_MO_read.2.1 168 = .ok (.aload_n 0, 1) := by decide +kernel
theorem d_MO_read_169 : decode M_MO_read.2.1 169 = .ok (.getfield 39, 3) := by decide +kernel
theorem d_MO_read_172 : decode M_MO_read.2.1 172 = .ok (.getfield 80, 3) := by decide +kernel
theorem d_MO_read_175 : decode M_MO_read.2.1 175 = .ok (.putfield 108, 3) := by decide +kernel
theorem d_MO_read_178 : decode M_MO_read.2.1 178 = .ok (.aload_n 0, 1) := by decide +kernel
theorem d_MO_read_179 : decode M_MO_read.2.1 179 = .ok (.aload_n 0, 1) := by decide +kernel
theorem d_MO_read_180 : decode M_MO_read.2.1 180 = .ok (.iload_n 2, 1) := by decide +kernel
theorem d_MO_read_181 : decode M_MO_read.2.1 181 = .ok (.invokevirtual 111, 3) := by decide +kernel
theorem d_MO_read_184 : decode M_MO_read.2.1 184 = .ok (.putfield 114, 3) := by decide +kernel
theorem d_MO_read_187 : decode M_MO_read.2.1 187 = .ok (.aload_n 0, 1) := by decide +kernel
theorem d_MO_read_188 : decode M_MO_read.2.1 188 = .ok (.getfield 99, 3) := by decide +kernel
theorem d_MO_read_191 : decode M_MO_read.2.1 191 = .ok (.ireturn, 1) := by decide +kernel
set_option maxRecDepth 20000 in
theorem w_MO_rD {E : xR} {h : xH} {Q : xK} {u : Nat → Nat} {N n' r z q len : Nat} {t : Nat × Std.Format} {T : List (List Int32)} {B : Nat → Nat → Int32} {Nm : Nat → Int64} {v3 v4 v5 : Value} {pl p2 : Int32} {aa bh tk oo : Int32} {nm : Int64} {lt tp vd kn rk : Int32} {sv nv : Value} (h21 : h 21 = .inr (5, [.int 0, .int 0, .int pl, v3, v4, v5, .int (nI len), .ref 22, .ref 23, .ref 24, .ref 31, .ref 36, .ref 44, .ref 49, .ref 50])) (hT : g_HT h B Nm (nI z) (nI q)) (hz : z ≤ 1000) (hq : q ≤ 1000) (hm : g_mT u N T B Nm z q t r) (hQ : g_Q u N (g_nd t g_nil) 0 n' z) (h36 : h 36 = .inr (8, [.ref 37, .ref 38, .ref 39, .ref 24, .ref 31, sv, nv, .int aa, .int bh, .int tk, .int oo, .long nm, .ref 40, .int lt, .ref 41, .int tp, .int p2, .ref 42, .int vd, .int kn, .int rk, .ref 43])) (h49 : ∃ Wk, h 49 = .inl (0, 9000, .inl Wk)) (h50 : ∃ Lv, h 50 = .inl (0, 9000, .inl Lv)) (K : ∀ Wk Lv h', (∀ i, i < 52 → h' i = (g_dw (x_up h 21 (.inr (5, [.int 0, .int 0, .int pl, .int (nI z), .int vd, .int (nI (g_dt t)), .int (nI len), .ref 22, .ref 23, .ref 24, .ref 31, .ref 36, .ref 44, .ref 49, .ref 50]))) Wk Lv) i) → Q (.inl (some (.int (nI len)))) 52 h' 0 0) : x_W E M_MO_read (x_room 414 0 0) Q 52 h 156 [(0, .ref 21), (2, .int (nI r))] [] 0 0 := by
  obtain ⟨h24c, hb0, hb1, hb2, hb3, hb4, hb5⟩ := id hT
  refine x_aload_n d_MO_read_156 rfl rfl ?_
  refine x_aload_n d_MO_read_157 rfl rfl ?_
  refine x_get d_MO_read_158 f_MO_23 (Nat.le_of_ble_eq_true rfl) (Nat.le_of_ble_eq_true rfl) (by first | rfl | assumption) (by rfl) ?_
  refine x_get d_MO_read_161 f_MO_71 (Nat.le_of_ble_eq_true rfl) (Nat.le_of_ble_eq_true rfl) (by first | rfl | assumption) (by rfl) ?_
  refine x_put d_MO_read_164 f_MO_105 (Nat.le_of_ble_eq_true rfl) (Nat.le_of_ble_eq_true rfl) (by first | rfl | assumption) (by rfl) (by rfl) (by exact (Nat.le_of_ble_eq_true rfl)) ?_
  refine x_aload_n d_MO_read_167 rfl rfl ?_
  refine x_aload_n d_MO_read_168 rfl rfl ?_
  refine x_get d_MO_read_169 f_MO_39 (Nat.le_of_ble_eq_true rfl) (Nat.le_of_ble_eq_true rfl) (by first | rfl | assumption) (by rfl) ?_
  refine x_get d_MO_read_172 f_MO_80 (Nat.le_of_ble_eq_true rfl) (Nat.le_of_ble_eq_true rfl) (by first | rfl | assumption) (by rfl) ?_
  refine x_put d_MO_read_175 f_MO_108 (Nat.le_of_ble_eq_true rfl) (Nat.le_of_ble_eq_true rfl) (by first | rfl | assumption) (by rfl) (by rfl) (by exact (Nat.le_of_ble_eq_true rfl)) ?_
  refine x_aload_n d_MO_read_178 rfl rfl ?_
  refine x_aload_n d_MO_read_179 rfl rfl ?_
  refine x_iload_n d_MO_read_180 rfl rfl ?_
  refine x_callV1E d_MO_read_181 k_MO_111 (Nat.le_of_ble_eq_true rfl) (Nat.le_of_ble_eq_true rfl) (by first | rfl | assumption) (by rfl) (w_MO_depth (by first | rfl | assumption) hT hz hq hm hQ h49 h50) (Nat.le_of_ble_eq_true rfl) (Nat.le_of_ble_eq_true rfl) (Nat.le_of_ble_eq_true rfl) (Nat.le_of_ble_eq_true rfl) (Nat.le_of_ble_eq_true rfl) rfl (fun v1 hh1 hp1 => ?_)
  obtain ⟨rfl, Wk1, Lv1, rfl⟩ := hp1
  refine x_put d_MO_read_184 f_MO_114 (Nat.le_of_ble_eq_true rfl) (Nat.le_of_ble_eq_true rfl) (by first | rfl | assumption) (by rfl) (by rfl) (by exact (Nat.le_of_ble_eq_true rfl)) ?_
  refine x_aload_n d_MO_read_187 rfl rfl ?_
  refine x_get d_MO_read_188 f_MO_99 (Nat.le_of_ble_eq_true rfl) (Nat.le_of_ble_eq_true rfl) (by first | rfl | assumption) (by rfl) ?_
  exact x_ireturn d_MO_read_191 rfl rfl (K Wk1 Lv1 _ (x_pt rfl rfl rfl rfl rfl rfl rfl rfl rfl rfl rfl rfl rfl rfl rfl rfl rfl rfl rfl rfl rfl rfl rfl rfl rfl rfl rfl rfl rfl rfl rfl rfl rfl rfl rfl rfl rfl rfl rfl rfl rfl rfl rfl rfl rfl rfl rfl rfl rfl rfl rfl rfl))
set_option maxRecDepth 20000 in
theorem w_MO_rC {E : xR} {h : xH} {Q : xK} {r len : Nat} {F Rs : Nat → Int32} {v0 v1 v2 v3 v4 v5 : Value} {fs : List Value} (h21 : h 21 = .inr (5, [v0, v1, v2, v3, v4, v5, .int (nI len), .ref 22, .ref 23, .ref 24, .ref 31, .ref 36, .ref 44, .ref 49, .ref 50])) (hl : len ≤ 4096) (h44 : h 44 = .inr (9, .ref 45 :: fs)) (h45 : h 45 = .inl (1, 4096, .inl F)) (K : x_W E M_MO_read (x_room 414 0 0) Q 52 (x_up h 23 (.inl (1, 4096, .inl (g_cp F Rs len)))) 156 [(0, .ref 21), (2, .int (nI r))] [] 0 0) : ∀ m i, i + m = len → x_W E M_MO_read (x_room 414 0 0) Q 52 (x_up h 23 (.inl (1, 4096, .inl (g_cp F Rs i)))) 127 [(0, .ref 21), (2, .int (nI r)), (3, .int (nI i))] [] 0 0 := by
  intro m
  induction m with
  | zero =>
    intro i hi
    obtain rfl : i = len := by omega
    refine x_iload_n d_MO_read_127 rfl rfl ?_
    refine x_aload_n d_MO_read_128 rfl rfl ?_
    refine x_get d_MO_read_129 f_MO_99 (Nat.le_of_ble_eq_true rfl) (Nat.le_of_ble_eq_true rfl) (by first | rfl | assumption) (by rfl) ?_
    refine x_icmp_ge 156 d_MO_read_132 (by decide) (fun _ => ?_) (fun z => absurd (nI_le (Nat.le_refl _) (by omega)) z)
    refine x_wk [(0, .ref 21), (2, .int (nI r))] (by simp) ?_
    exact K
  | succ m ih =>
    intro i hi
    refine x_iload_n d_MO_read_127 rfl rfl ?_
    refine x_aload_n d_MO_read_128 rfl rfl ?_
    refine x_get d_MO_read_129 f_MO_99 (Nat.le_of_ble_eq_true rfl) (Nat.le_of_ble_eq_true rfl) (by first | rfl | assumption) (by rfl) ?_
    refine x_icmp_ge 156 d_MO_read_132 (by decide) (fun z => absurd z (nI_ge (by omega) (by omega))) (fun _ => ?_)
    refine x_aload_n d_MO_read_135 rfl rfl ?_
    refine x_get d_MO_read_136 f_MO_17 (Nat.le_of_ble_eq_true rfl) (Nat.le_of_ble_eq_true rfl) (by first | rfl | assumption) (by rfl) ?_
    refine x_iload_n d_MO_read_139 rfl rfl ?_
    refine x_aload_n d_MO_read_140 rfl rfl ?_
    refine x_get d_MO_read_141 f_MO_46 (Nat.le_of_ble_eq_true rfl) (Nat.le_of_ble_eq_true rfl) (by first | rfl | assumption) (by rfl) ?_
    refine x_get d_MO_read_144 f_MO_102 (Nat.le_of_ble_eq_true rfl) (Nat.le_of_ble_eq_true rfl) (by first | rfl | assumption) (by rfl) ?_
    refine x_iload_n d_MO_read_147 rfl rfl ?_
    refine x_bald d_MO_read_148 (Nat.le_of_ble_eq_true rfl) (Nat.le_of_ble_eq_true rfl) (by first | rfl | assumption) (vp_in_nI (show i < 4096 by omega) (by decide)) ?_
    refine x_bast d_MO_read_149 (Nat.le_of_ble_eq_true rfl) (Nat.le_of_ble_eq_true rfl) (by first | rfl | assumption) (vp_in_nI (show i < 4096 by omega) (by decide)) ?_
    refine x_iinc d_MO_read_150 rfl 1 (by decide) (Nat.le_of_ble_eq_true rfl) ?_
    refine x_goto 127 d_MO_read_153 (by decide) ?_
    refine x_same (h' := (x_up h 23 (.inl (1, 4096, .inl (g_cp F Rs (i + 1)))))) (x_pt rfl rfl rfl rfl rfl rfl rfl rfl rfl rfl rfl rfl rfl rfl rfl rfl rfl rfl rfl rfl rfl rfl rfl (show (Sum.inl (1, 4096, Sum.inl (upd (g_cp F Rs i) (nI i).toNatClampNeg (vp_nar .byte (F (nI i).toNatClampNeg)))) : xE) = Sum.inl (1, 4096, Sum.inl (g_cp F Rs (i + 1))) by rw [nI_clamp (by omega), g_cpS]) rfl rfl rfl rfl rfl rfl rfl rfl rfl rfl rfl rfl rfl rfl rfl rfl rfl rfl rfl rfl rfl rfl rfl rfl rfl rfl rfl rfl) ?_
    refine x_lv [(0, .ref 21), (2, .int (nI r)), (3, .int (nI (i + 1)))] (by rw [nI_succ i]; rfl) ?_
    exact ih (i + 1) (by omega)
set_option maxRecDepth 20000 in
theorem g_mwR {h : xH} {N : Nat} {pl vd : Int32} {T : List (List Int32)} {Na B : Nat → Nat → Int32} {Nm : Nat → Int64} {z q : Nat} {St Vr Kp : Nat → Int32} {aa bh tk oo : Int32} {nm : Int64} {lt tp kn rk : Int32} {Wd : Nat → Int32} (hTB : g_TB2 h) (h44 : ∃ xa xb xc : Int32, h 44 = .inr (9, [.ref 45, .ref 46, .ref 47, .ref 48, .int xa, .int xb, .int xc])) (h45 : ∃ f, h 45 = .inl (1, 4096, .inl f)) (h46 : ∃ f, h 46 = .inl (0, 9000, .inl f)) (h47 : ∃ f, h 47 = .inl (0, 9000, .inl f)) (h48 : ∃ f, h 48 = .inl (0, 4200, .inl f)) (h49 : ∃ f, h 49 = .inl (0, 9000, .inl f)) (h50 : ∃ f, h 50 = .inl (0, 9000, .inl f)) : g_MMr (g_mw h N T Na B Nm z q St Vr Kp aa bh tk oo nm lt tp pl vd kn rk Wd) :=
  ⟨⟨B, Nm, nI z, nI q, rfl, rfl, rfl, rfl, rfl, rfl, rfl⟩, ⟨Na, nI T.length, nI (g_tot T), rfl, rfl, rfl, rfl, rfl⟩, ⟨.ref 22, .int (nI N), aa, bh, tk, oo, nm, lt, tp, pl, vd, kn, rk, rfl⟩, ⟨Wd, rfl⟩, ⟨St, rfl⟩, ⟨Vr, rfl⟩, ⟨Kp, rfl⟩, hTB, h44, h45, h46, h47, h48, h49, h50⟩
theorem g_CSu {h h' : xH} {k : Nat} {c : xE} (h1 : 21 ≤ k) (h2 : k < 51) (H : g_CS h h') : g_CS h (x_up h' k c) := ⟨fun i hi => (x_up_ne (by omega)).trans (H.1 i hi), (x_up_ne (by omega)).trans H.2⟩
theorem g_CSm {h h0 : xH} {N : Nat} {pl vd : Int32} {T : List (List Int32)} {Na B : Nat → Nat → Int32} {Nm : Nat → Int64} {z q : Nat} {St Vr Kp : Nat → Int32} {aa bh tk oo : Int32} {nm : Int64} {lt tp kn rk : Int32} {Wd : Nat → Int32} (H : g_CS h0 h) : g_CS h0 (g_mw h N T Na B Nm z q St Vr Kp aa bh tk oo nm lt tp pl vd kn rk Wd) := by
  unfold g_mw g_rw g_nw g_ew
  repeat' (first | exact H | refine g_CSu (by decide) (by decide) ?_)
set_option maxRecDepth 20000 in
theorem w_MO_rA {E : xR} {h h0 : xH} {u : Nat → Nat} {N rl : Nat} {pl sy va de : Int32} {Rs : Nat → Int32} {T : List (List Int32)} {Na B : Nat → Nat → Int32} {Nm : Nat → Int64} {z q : Nat} {St Vr Kp : Nat → Int32} {aa bh tk oo : Int32} {nm : Int64} {lt tp kn rk : Int32} {Wd : Nat → Int32} (h21 : h 21 = .inr (5, [.int 0, .int 0, .int pl, .int sy, .int va, .int de, .int (nI rl), .ref 22, .ref 23, .ref 24, .ref 31, .ref 36, .ref 44, .ref 49, .ref 50])) (h22 : h 22 = .inl (1, 4096, .inl (fun i => g_sb (u i)))) (h23 : h 23 = .inl (1, 4096, .inl Rs)) (hcs : g_CS h0 h) (hTB : g_TB2 h) (h44 : ∃ xa xb xc : Int32, h 44 = .inr (9, [.ref 45, .ref 46, .ref 47, .ref 48, .int xa, .int xb, .int xc])) (h45 : ∃ f, h 45 = .inl (1, 4096, .inl f)) (h46 : ∃ f, h 46 = .inl (0, 9000, .inl f)) (h47 : ∃ f, h 47 = .inl (0, 9000, .inl f)) (h48 : ∃ f, h 48 = .inl (0, 4200, .inl f)) (h49 : ∃ f, h 49 = .inl (0, 9000, .inl f)) (h50 : ∃ f, h 50 = .inl (0, 9000, .inl f)) {x : Nat} {vd : Int32} (hall : g_all u N = .inl x) : x_W E M_MO_read (x_room 414 0 0) (x_YE (g_MRP h0 u N rl sy va de Rs)) 52 (g_mw h N T Na B Nm z q St Vr Kp aa bh tk oo nm lt tp (nI x) vd kn rk Wd) 58 [(0, .ref 21), (1, .int (nI N))] [.int (-1)] 0 0 := by
  refine x_istore_n d_MO_read_58 rfl (Nat.le_of_ble_eq_true rfl) ?_
  refine x_aload_n d_MO_read_59 rfl rfl ?_
  refine x_aload_n d_MO_read_60 rfl rfl ?_
  refine x_get d_MO_read_61 f_MO_39 (Nat.le_of_ble_eq_true rfl) (Nat.le_of_ble_eq_true rfl) (by first | rfl | assumption) (by rfl) ?_
  refine x_get d_MO_read_64 f_MO_87 (Nat.le_of_ble_eq_true rfl) (Nat.le_of_ble_eq_true rfl) (by first | rfl | assumption) (by rfl) ?_
  refine x_put d_MO_read_67 f_MO_9 (Nat.le_of_ble_eq_true rfl) (Nat.le_of_ble_eq_true rfl) (by first | rfl | assumption) (by rfl) (by rfl) (by exact (Nat.le_of_ble_eq_true rfl)) ?_
  refine x_iload_n d_MO_read_70 rfl rfl ?_
  refine x_iconst (-1) d_MO_read_71 (by decide) ?_
  refine x_icmp_ne 81 d_MO_read_72 (by decide) (fun z => absurd rfl z) (fun _ => ?_)
  refine x_aload_n d_MO_read_75 rfl rfl ?_
  refine x_iconst 1 d_MO_read_76 (by decide) ?_
  refine x_callV1Y d_MO_read_77 k_MO_63 (Nat.le_of_ble_eq_true rfl) (Nat.le_of_ble_eq_true rfl) (by first | rfl | assumption) (by rfl) (w_MO_fail (by first | rfl | assumption)) (Nat.le_of_ble_eq_true rfl) (Nat.le_of_ble_eq_true rfl) (Nat.le_of_ble_eq_true rfl) (Nat.le_of_ble_eq_true rfl) (Nat.le_of_ble_eq_true rfl) rfl ?_
  exact x_ireturn d_MO_read_80 rfl rfl (x_YEi (x_up (x_up (g_mw h N T Na B Nm z q St Vr Kp aa bh tk oo nm lt tp (nI x) vd kn rk Wd) 21 (.inr (5, [.int 0, .int 0, .int (nI x), .int sy, .int va, .int de, .int (nI rl), .ref 22, .ref 23, .ref 24, .ref 31, .ref 36, .ref 44, .ref 49, .ref 50]))) 21 (.inr (5, [.int 1, .int 0, .int (nI x), .int sy, .int va, .int de, .int (nI rl), .ref 22, .ref 23, .ref 24, .ref 31, .ref 36, .ref 44, .ref 49, .ref 50]))) (by
      unfold g_MRP
      rw [hall]
      exact ⟨g_CSu (by decide) (by decide) (g_CSu (by decide) (by decide) (g_CSm hcs)), rfl, rfl, h22, h23, g_MMrS (g_mwR hTB h44 h45 h46 h47 h48 h49 h50) (fun i h1 h2 => (x_up_ne (by omega)).trans (x_up_ne (by omega)))⟩) (x_pt rfl rfl rfl rfl rfl rfl rfl rfl rfl rfl rfl rfl rfl rfl rfl rfl rfl rfl rfl rfl rfl rfl rfl rfl rfl rfl rfl rfl rfl rfl rfl rfl rfl rfl rfl rfl rfl rfl rfl rfl rfl rfl rfl rfl rfl rfl rfl rfl rfl rfl rfl rfl))
set_option maxRecDepth 20000 in
theorem w_MO_rB {E : xR} {h h0 : xH} {u : Nat → Nat} {N rl : Nat} {pl sy va de : Int32} {Rs : Nat → Int32} {T : List (List Int32)} {Na B : Nat → Nat → Int32} {Nm : Nat → Int64} {z q : Nat} {St Vr Kp : Nat → Int32} {aa bh tk oo : Int32} {nm : Int64} {lt tp kn rk : Int32} {Wd : Nat → Int32} (h21 : h 21 = .inr (5, [.int 0, .int 0, .int pl, .int sy, .int va, .int de, .int (nI rl), .ref 22, .ref 23, .ref 24, .ref 31, .ref 36, .ref 44, .ref 49, .ref 50])) (h22 : h 22 = .inl (1, 4096, .inl (fun i => g_sb (u i)))) (h23 : h 23 = .inl (1, 4096, .inl Rs)) (hcs : g_CS h0 h) (hTB : g_TB2 h) (h44 : ∃ xa xb xc : Int32, h 44 = .inr (9, [.ref 45, .ref 46, .ref 47, .ref 48, .int xa, .int xb, .int xc])) (h45 : ∃ f, h 45 = .inl (1, 4096, .inl f)) (h46 : ∃ f, h 46 = .inl (0, 9000, .inl f)) (h47 : ∃ f, h 47 = .inl (0, 9000, .inl f)) (h48 : ∃ f, h 48 = .inl (0, 4200, .inl f)) (h49 : ∃ f, h 49 = .inl (0, 9000, .inl f)) (h50 : ∃ f, h 50 = .inl (0, 9000, .inl f)) {r : Nat} {V : List (Nat × Nat)} {t : Nat × Std.Format} (hu : ∀ i, u i < 256) (hN : N ≤ 4096) (hNB : g_NB T Na) (htot : g_tot T ≤ 5000) (hq : q ≤ z) (hm : g_mT u N T B Nm z q t r) (hall : g_all u N = .inr (z, V, t)) : x_W E M_MO_read (x_room 414 0 0) (x_YE (g_MRP h0 u N rl sy va de Rs)) 52 (g_mw h N T Na B Nm z q St Vr Kp aa bh tk oo nm lt tp (-1) (nI V.length) kn rk Wd) 58 [(0, .ref 21), (1, .int (nI N))] [.int (nI r)] 0 0 := by
  obtain ⟨hz, hQ⟩ := g_allD hN hall
  have hr9 : r < 9000 := by have := hm.1; omega
  obtain ⟨xa, xb, xc, h44⟩ := h44
  obtain ⟨P0, h45⟩ := h45
  obtain ⟨Wk, h46⟩ := h46
  obtain ⟨Nx, h47⟩ := h47
  obtain ⟨Sn, h48⟩ := h48
  have hHN : g_HN (x_up (g_mw h N T Na B Nm z q St Vr Kp aa bh tk oo nm lt tp (-1) (nI V.length) kn rk Wd) 21 (.inr (5, [.int 0, .int 0, .int (-1), .int sy, .int va, .int de, .int (nI rl), .ref 22, .ref 23, .ref 24, .ref 31, .ref 36, .ref 44, .ref 49, .ref 50]))) T Na := ⟨⟨rfl, rfl, rfl, rfl, rfl⟩, hNB, htot⟩
  have hHT : g_HT (x_up (g_mw h N T Na B Nm z q St Vr Kp aa bh tk oo nm lt tp (-1) (nI V.length) kn rk Wd) 21 (.inr (5, [.int 0, .int 0, .int (-1), .int sy, .int va, .int de, .int (nI rl), .ref 22, .ref 23, .ref 24, .ref 31, .ref 36, .ref 44, .ref 49, .ref 50]))) B Nm (nI z) (nI q) := ⟨rfl, rfl, rfl, rfl, rfl, rfl, rfl⟩
  have hM0 : g_MMr (x_up (g_mw h N T Na B Nm z q St Vr Kp aa bh tk oo nm lt tp (-1) (nI V.length) kn rk Wd) 21 (.inr (5, [.int 0, .int 0, .int (-1), .int sy, .int va, .int de, .int (nI rl), .ref 22, .ref 23, .ref 24, .ref 31, .ref 36, .ref 44, .ref 49, .ref 50]))) := g_MMrS (g_mwR (h := h) (T := T) (Na := Na) hTB ⟨xa, xb, xc, h44⟩ ⟨P0, h45⟩ ⟨Wk, h46⟩ ⟨Nx, h47⟩ ⟨Sn, h48⟩ h49 h50) (fun i h1 h2 => x_up_ne (by omega))
  have hC0 : g_CS h0 (x_up (g_mw h N T Na B Nm z q St Vr Kp aa bh tk oo nm lt tp (-1) (nI V.length) kn rk Wd) 21 (.inr (5, [.int 0, .int 0, .int (-1), .int sy, .int va, .int de, .int (nI rl), .ref 22, .ref 23, .ref 24, .ref 31, .ref 36, .ref 44, .ref 49, .ref 50]))) := g_CSu (by decide) (by decide) (g_CSm hcs)
  have hM1 : ∀ S n Wk2 Nx2 Sn2, g_MMr (g_yw (x_up (g_mw h N T Na B Nm z q St Vr Kp aa bh tk oo nm lt tp (-1) (nI V.length) kn rk Wd) 21 (.inr (5, [.int 0, .int 0, .int (-1), .int sy, .int va, .int de, .int (nI rl), .ref 22, .ref 23, .ref 24, .ref 31, .ref 36, .ref 44, .ref 49, .ref 50]))) S n Wk2 Nx2 Sn2 P0) := fun S n Wk2 Nx2 Sn2 => by
    obtain ⟨a1, a2, a3, a4, a5, a6, a7, a8, -, -, -, -, -, a14, a15⟩ := hM0
    exact ⟨a1, a2, a3, a4, a5, a6, a7, a8, ⟨_, _, _, rfl⟩, ⟨_, rfl⟩, ⟨_, rfl⟩, ⟨_, rfl⟩, ⟨_, rfl⟩, a14, a15⟩
  have hC1 : ∀ S n Wk2 Nx2 Sn2, g_CS h0 (g_yw (x_up (g_mw h N T Na B Nm z q St Vr Kp aa bh tk oo nm lt tp (-1) (nI V.length) kn rk Wd) 21 (.inr (5, [.int 0, .int 0, .int (-1), .int sy, .int va, .int de, .int (nI rl), .ref 22, .ref 23, .ref 24, .ref 31, .ref 36, .ref 44, .ref 49, .ref 50]))) S n Wk2 Nx2 Sn2 P0) := fun S n Wk2 Nx2 Sn2 => g_CSu (by decide) (by decide) (g_CSu (by decide) (by decide) (g_CSu (by decide) (by decide) (g_CSu (by decide) (by decide) (g_CSu (by decide) (by decide) hC0))))
  have hover : ∀ S n Wk2 Nx2 Sn2, 4096 < S.length → 4096 < (g_pt u t).length → x_W E M_MO_read (x_room 414 0 0) (x_YE (g_MRP h0 u N rl sy va de Rs)) 52 (g_yw (x_up (g_mw h N T Na B Nm z q St Vr Kp aa bh tk oo nm lt tp (-1) (nI V.length) kn rk Wd) 21 (.inr (5, [.int 0, .int 0, .int (-1), .int sy, .int va, .int de, .int (nI rl), .ref 22, .ref 23, .ref 24, .ref 31, .ref 36, .ref 44, .ref 49, .ref 50]))) S n Wk2 Nx2 Sn2 P0) 98 [(0, .ref 21), (1, .int (nI N)), (2, .int (nI r))] [] 0 0 := by
    intro S n Wk2 Nx2 Sn2 hS hp
    refine x_aload_n d_MO_read_98 rfl rfl ?_
    refine x_get d_MO_read_99 f_MO_46 (Nat.le_of_ble_eq_true rfl) (Nat.le_of_ble_eq_true rfl) (by first | rfl | assumption) (by rfl) ?_
    refine x_get d_MO_read_102 f_MO_92 (Nat.le_of_ble_eq_true rfl) (Nat.le_of_ble_eq_true rfl) (by first | rfl | assumption) (by rfl) ?_
    refine x_if_eq 114 d_MO_read_105 (by decide) (fun z => absurd z (g_ov1 hS)) (fun _ => ?_)
    refine x_aload_n d_MO_read_108 rfl rfl ?_
    refine x_iconst 2 d_MO_read_109 (by decide) ?_
    refine x_callV1Y d_MO_read_110 k_MO_63 (Nat.le_of_ble_eq_true rfl) (Nat.le_of_ble_eq_true rfl) (by first | rfl | assumption) (by rfl) (w_MO_fail (by first | rfl | assumption)) (Nat.le_of_ble_eq_true rfl) (Nat.le_of_ble_eq_true rfl) (Nat.le_of_ble_eq_true rfl) (Nat.le_of_ble_eq_true rfl) (Nat.le_of_ble_eq_true rfl) rfl ?_
    exact x_ireturn d_MO_read_113 rfl rfl (x_YEi (x_up (g_yw (x_up (g_mw h N T Na B Nm z q St Vr Kp aa bh tk oo nm lt tp (-1) (nI V.length) kn rk Wd) 21 (.inr (5, [.int 0, .int 0, .int (-1), .int sy, .int va, .int de, .int (nI rl), .ref 22, .ref 23, .ref 24, .ref 31, .ref 36, .ref 44, .ref 49, .ref 50]))) S n Wk2 Nx2 Sn2 P0) 21 (.inr (5, [.int 2, .int 0, .int (-1), .int sy, .int va, .int de, .int (nI rl), .ref 22, .ref 23, .ref 24, .ref 31, .ref 36, .ref 44, .ref 49, .ref 50]))) (by
          unfold g_MRP
          rw [hall]
          show _ ∧ (if 4096 < (g_pt u t).length then _ else _)
          rw [if_pos hp]
          exact ⟨g_CSu (by decide) (by decide) (hC1 S n Wk2 Nx2 Sn2), rfl, rfl, h22, h23, g_MMrS (hM1 S n Wk2 Nx2 Sn2) (fun i h1 h2 => x_up_ne (by omega))⟩) (x_pt rfl rfl rfl rfl rfl rfl rfl rfl rfl rfl rfl rfl rfl rfl rfl rfl rfl rfl rfl rfl rfl rfl rfl rfl rfl rfl rfl rfl rfl rfl rfl rfl rfl rfl rfl rfl rfl rfl rfl rfl rfl rfl rfl rfl rfl rfl rfl rfl rfl rfl rfl rfl))
  have hdone : ∀ n Wk2 Nx2 Sn2, (g_pt u t).length ≤ 4096 → x_W E M_MO_read (x_room 414 0 0) (x_YE (g_MRP h0 u N rl sy va de Rs)) 52 (g_yw (x_up (g_mw h N T Na B Nm z q St Vr Kp aa bh tk oo nm lt tp (-1) (nI V.length) kn rk Wd) 21 (.inr (5, [.int 0, .int 0, .int (-1), .int sy, .int va, .int de, .int (nI rl), .ref 22, .ref 23, .ref 24, .ref 31, .ref 36, .ref 44, .ref 49, .ref 50]))) (g_pt u t) n Wk2 Nx2 Sn2 P0) 98 [(0, .ref 21), (1, .int (nI N)), (2, .int (nI r))] [] 0 0 := by
    intro n Wk2 Nx2 Sn2 hp
    have hmin : nI (min (g_pt u t).length 4096) = nI (g_pt u t).length := by rw [Nat.min_eq_left hp]
    have hD : x_W E M_MO_read (x_room 414 0 0) (x_YE (g_MRP h0 u N rl sy va de Rs)) 52 (x_up (x_up (g_yw (x_up (g_mw h N T Na B Nm z q St Vr Kp aa bh tk oo nm lt tp (-1) (nI V.length) kn rk Wd) 21 (.inr (5, [.int 0, .int 0, .int (-1), .int sy, .int va, .int de, .int (nI rl), .ref 22, .ref 23, .ref 24, .ref 31, .ref 36, .ref 44, .ref 49, .ref 50]))) (g_pt u t) n Wk2 Nx2 Sn2 P0) 21 (.inr (5, [.int 0, .int 0, .int (-1), .int sy, .int va, .int de, .int (nI (g_pt u t).length), .ref 22, .ref 23, .ref 24, .ref 31, .ref 36, .ref 44, .ref 49, .ref 50]))) 23 (.inl (1, 4096, .inl (g_cp (g_ps P0 0 (g_pt u t)) Rs (g_pt u t).length)))) 156 [(0, .ref 21), (2, .int (nI r))] [] 0 0 := w_MO_rD rfl (show g_HT (x_up (x_up (g_yw (x_up (g_mw h N T Na B Nm z q St Vr Kp aa bh tk oo nm lt tp (-1) (nI V.length) kn rk Wd) 21 (.inr (5, [.int 0, .int 0, .int (-1), .int sy, .int va, .int de, .int (nI rl), .ref 22, .ref 23, .ref 24, .ref 31, .ref 36, .ref 44, .ref 49, .ref 50]))) (g_pt u t) n Wk2 Nx2 Sn2 P0) 21 (.inr (5, [.int 0, .int 0, .int (-1), .int sy, .int va, .int de, .int (nI (g_pt u t).length), .ref 22, .ref 23, .ref 24, .ref 31, .ref 36, .ref 44, .ref 49, .ref 50]))) 23 (.inl (1, 4096, .inl (g_cp (g_ps P0 0 (g_pt u t)) Rs (g_pt u t).length)))) B Nm (nI z) (nI q) from ⟨rfl, rfl, rfl, rfl, rfl, rfl, rfl⟩) hz (by omega) hm hQ rfl h49 h50 (fun Wk3 Lv3 h' he => x_YEi (g_dw (x_up (x_up (x_up (g_yw (x_up (g_mw h N T Na B Nm z q St Vr Kp aa bh tk oo nm lt tp (-1) (nI V.length) kn rk Wd) 21 (.inr (5, [.int 0, .int 0, .int (-1), .int sy, .int va, .int de, .int (nI rl), .ref 22, .ref 23, .ref 24, .ref 31, .ref 36, .ref 44, .ref 49, .ref 50]))) (g_pt u t) n Wk2 Nx2 Sn2 P0) 21 (.inr (5, [.int 0, .int 0, .int (-1), .int sy, .int va, .int de, .int (nI (g_pt u t).length), .ref 22, .ref 23, .ref 24, .ref 31, .ref 36, .ref 44, .ref 49, .ref 50]))) 23 (.inl (1, 4096, .inl (g_cp (g_ps P0 0 (g_pt u t)) Rs (g_pt u t).length)))) 21 (.inr (5, [.int 0, .int 0, .int (-1), .int (nI z), .int (nI V.length), .int (nI (g_dt t)), .int (nI (g_pt u t).length), .ref 22, .ref 23, .ref 24, .ref 31, .ref 36, .ref 44, .ref 49, .ref 50]))) Wk3 Lv3) (by
      unfold g_MRP
      rw [hall]
      show _ ∧ (if 4096 < (g_pt u t).length then _ else _)
      rw [if_neg (by omega)]
      refine ⟨g_CSu (by decide) (by decide) (g_CSu (by decide) (by decide) (g_CSu (by decide) (by decide) (g_CSu (by decide) (by decide) (g_CSu (by decide) (by decide) (hC1 _ n Wk2 Nx2 Sn2))))), rfl, P0, Rs, rfl, h22, rfl, ?_⟩
      obtain ⟨a1, a2, a3, a4, a5, a6, a7, a8, a9, a10, a11, a12, a13, -, -⟩ := hM1 (g_pt u t) n Wk2 Nx2 Sn2
      exact ⟨a1, a2, a3, a4, a5, a6, a7, a8, a9, a10, a11, a12, a13, ⟨_, rfl⟩, ⟨_, rfl⟩⟩) he)
    refine x_aload_n d_MO_read_98 rfl rfl ?_
    refine x_get d_MO_read_99 f_MO_46 (Nat.le_of_ble_eq_true rfl) (Nat.le_of_ble_eq_true rfl) (by first | rfl | assumption) (by rfl) ?_
    refine x_get d_MO_read_102 f_MO_92 (Nat.le_of_ble_eq_true rfl) (Nat.le_of_ble_eq_true rfl) (by first | rfl | assumption) (by rfl) ?_
    refine x_if_eq 114 d_MO_read_105 (by decide) (fun _ => ?_) (fun z => absurd (g_ov0 hp) z)
    refine x_aload_n d_MO_read_114 rfl rfl ?_
    refine x_aload_n d_MO_read_115 rfl rfl ?_
    refine x_get d_MO_read_116 f_MO_46 (Nat.le_of_ble_eq_true rfl) (Nat.le_of_ble_eq_true rfl) (by first | rfl | assumption) (by rfl) ?_
    refine x_get d_MO_read_119 f_MO_96 (Nat.le_of_ble_eq_true rfl) (Nat.le_of_ble_eq_true rfl) (by first | rfl | assumption) (by rfl) ?_
    refine x_topi (nI (g_pt u t).length) hmin ?_
    refine x_put d_MO_read_122 f_MO_99 (Nat.le_of_ble_eq_true rfl) (Nat.le_of_ble_eq_true rfl) (by first | rfl | assumption) (by rfl) (by rfl) (by exact (Nat.le_of_ble_eq_true rfl)) ?_
    refine x_iconst 0 d_MO_read_125 (by decide) ?_
    refine x_istore_n d_MO_read_126 rfl (Nat.le_of_ble_eq_true rfl) ?_
    refine x_lv [(0, .ref 21), (1, .int (nI N)), (2, .int (nI r)), (3, .int (nI 0))] rfl ?_
    refine x_wk [(0, .ref 21), (2, .int (nI r)), (3, .int (nI 0))] (by simp) ?_
    have hgo := w_MO_rC (h := (x_up (g_yw (x_up (g_mw h N T Na B Nm z q St Vr Kp aa bh tk oo nm lt tp (-1) (nI V.length) kn rk Wd) 21 (.inr (5, [.int 0, .int 0, .int (-1), .int sy, .int va, .int de, .int (nI rl), .ref 22, .ref 23, .ref 24, .ref 31, .ref 36, .ref 44, .ref 49, .ref 50]))) (g_pt u t) n Wk2 Nx2 Sn2 P0) 21 (.inr (5, [.int 0, .int 0, .int (-1), .int sy, .int va, .int de, .int (nI (g_pt u t).length), .ref 22, .ref 23, .ref 24, .ref 31, .ref 36, .ref 44, .ref 49, .ref 50])))) (F := g_ps P0 0 (g_pt u t)) (Rs := Rs) rfl hp rfl rfl hD (g_pt u t).length 0 (by omega)
    rw [g_cp0] at hgo
    refine x_same (h' := x_up (x_up (g_yw (x_up (g_mw h N T Na B Nm z q St Vr Kp aa bh tk oo nm lt tp (-1) (nI V.length) kn rk Wd) 21 (.inr (5, [.int 0, .int 0, .int (-1), .int sy, .int va, .int de, .int (nI rl), .ref 22, .ref 23, .ref 24, .ref 31, .ref 36, .ref 44, .ref 49, .ref 50]))) (g_pt u t) n Wk2 Nx2 Sn2 P0) 21 (.inr (5, [.int 0, .int 0, .int (-1), .int sy, .int va, .int de, .int (nI (g_pt u t).length), .ref 22, .ref 23, .ref 24, .ref 31, .ref 36, .ref 44, .ref 49, .ref 50]))) 23 (.inl (1, 4096, .inl Rs))) (x_pt rfl rfl rfl rfl rfl rfl rfl rfl rfl rfl rfl rfl rfl rfl rfl rfl rfl rfl rfl rfl rfl rfl rfl h23 rfl rfl rfl rfl rfl rfl rfl rfl rfl rfl rfl rfl rfl rfl rfl rfl rfl rfl rfl rfl rfl rfl rfl rfl rfl rfl rfl rfl) ?_
    exact hgo
  refine x_istore_n d_MO_read_58 rfl (Nat.le_of_ble_eq_true rfl) ?_
  refine x_aload_n d_MO_read_59 rfl rfl ?_
  refine x_aload_n d_MO_read_60 rfl rfl ?_
  refine x_get d_MO_read_61 f_MO_39 (Nat.le_of_ble_eq_true rfl) (Nat.le_of_ble_eq_true rfl) (by first | rfl | assumption) (by rfl) ?_
  refine x_get d_MO_read_64 f_MO_87 (Nat.le_of_ble_eq_true rfl) (Nat.le_of_ble_eq_true rfl) (by first | rfl | assumption) (by rfl) ?_
  refine x_put d_MO_read_67 f_MO_9 (Nat.le_of_ble_eq_true rfl) (Nat.le_of_ble_eq_true rfl) (by first | rfl | assumption) (by rfl) (by rfl) (by exact (Nat.le_of_ble_eq_true rfl)) ?_
  refine x_iload_n d_MO_read_70 rfl rfl ?_
  refine x_iconst (-1) d_MO_read_71 (by decide) ?_
  refine x_icmp_ne 81 d_MO_read_72 (by decide) (fun _ => ?_) (fun z => absurd z (show ¬ nI r = -1 from fun y => absurd (y ▸ nI_pos (show r < 2 ^ 31 by omega) : ¬ (-1 : Int32) < 0) (by decide)))
  refine x_aload_n d_MO_read_81 rfl rfl ?_
  refine x_get d_MO_read_82 f_MO_46 (Nat.le_of_ble_eq_true rfl) (Nat.le_of_ble_eq_true rfl) (by first | rfl | assumption) (by rfl) ?_
  refine x_aload_n d_MO_read_85 rfl rfl ?_
  refine x_get d_MO_read_86 f_MO_23 (Nat.le_of_ble_eq_true rfl) (Nat.le_of_ble_eq_true rfl) (by first | rfl | assumption) (by rfl) ?_
  refine x_aload_n d_MO_read_89 rfl rfl ?_
  refine x_get d_MO_read_90 f_MO_30 (Nat.le_of_ble_eq_true rfl) (Nat.le_of_ble_eq_true rfl) (by first | rfl | assumption) (by rfl) ?_
  refine x_iload_n d_MO_read_93 rfl rfl ?_
  refine x_null d_MO_read_94 ?_
  refine x_callV4E d_MO_read_95 k_MO_88 (Nat.le_of_ble_eq_true rfl) (Nat.le_of_ble_eq_true rfl) (by exact h44) (by rfl) (w_PP_print hu hHN hHT hz (by omega) hm hQ h44 h45 h46 h47 h48) (Nat.le_of_ble_eq_true rfl) (Nat.le_of_ble_eq_true rfl) (Nat.le_of_ble_eq_true rfl) (Nat.le_of_ble_eq_true rfl) (Nat.le_of_ble_eq_true rfl) rfl (fun v1 hh1 hp1 => ?_)
  obtain ⟨rfl, S2, n2, Wk2, Nx2, Sn2, hS2, rfl⟩ := hp1
  rcases hS2 with rfl | ⟨hS2, hS3⟩
  · rcases Nat.lt_or_ge 4096 (g_pt u t).length with hp | hp
    · exact hover _ _ _ _ _ hp hp
    · exact hdone _ _ _ _ hp
  · exact hover _ _ _ _ _ hS2 (by omega)
