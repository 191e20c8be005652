theorem d_TR_keepPrinted_0 : decode M_TR_keepPrinted.2.1 0 = .ok (.aload_n 0, 1) := by decide +kernel
theorem d_TR_keepPrinted_1 : decode M_TR_keepPrinted.2.1 1 = .ok (.getfield 30, 3) := by decide +kernel
theorem d_TR_keepPrinted_4 : decode M_TR_keepPrinted.2.1 4 = .ok (.astore_n 2, 1) := by decide +kernel
theorem d_TR_keepPrinted_5 : decode M_TR_keepPrinted.2.1 5 = .ok (.aload_n 0, 1) := by decide +kernel
theorem d_TR_keepPrinted_6 : decode M_TR_keepPrinted.2.1 6 = .ok (.aload_n 0, 1) := by decide +kernel
theorem d_TR_keepPrinted_7 : decode M_TR_keepPrinted.2.1 7 = .ok (.getfield 27, 3) := by decide +kernel
theorem d_TR_keepPrinted_10 : decode M_TR_keepPrinted.2.1 10 = .ok (.putfield 30, 3) := by decide +kernel
theorem d_TR_keepPrinted_13 : decode M_TR_keepPrinted.2.1 13 = .ok (.aload_n 0, 1) := by decide +kernel
theorem d_TR_keepPrinted_14 : decode M_TR_keepPrinted.2.1 14 = .ok (.aload_n 2, 1) := by decide +kernel
theorem d_TR_keepPrinted_15 : decode M_TR_keepPrinted.2.1 15 = .ok (.putfield 27, 3) := by decide +kernel
theorem d_TR_keepPrinted_18 : decode M_TR_keepPrinted.2.1 18 = .ok (.aload_n 0, 1) := by decide +kernel
theorem d_TR_keepPrinted_19 : decode M_TR_keepPrinted.2.1 19 = .ok (.aload_n 0, 1) := by decide +kernel
theorem d_TR_keepPrinted_20 : decode M_TR_keepPrinted.2.1 20 = .ok (.getfield 23, 3) := by decide +kernel
theorem d_TR_keepPrinted_23 : decode M_TR_keepPrinted.2.1 23 = .ok (.getfield 61, 3) := by decide +kernel
theorem d_TR_keepPrinted_26 : decode M_TR_keepPrinted.2.1 26 = .ok (.putfield 70, 3) := by decide +kernel
theorem d_TR_keepPrinted_29 : decode M_TR_keepPrinted.2.1 29 = .ok (.aload_n 0, 1) := by decide +kernel
theorem d_TR_keepPrinted_30 : decode M_TR_keepPrinted.2.1 30 = .ok (.aload_n 1, 1) := by decide +kernel
theorem d_TR_keepPrinted_31 : decode M_TR_keepPrinted.2.1 31 = .ok (.getfield 90, 3) := by decide +kernel
theorem d_TR_keepPrinted_34 : decode M_TR_keepPrinted.2.1 34 = .ok (.putfield 75, 3) := by decide +kernel
theorem d_TR_keepPrinted_37 : decode M_TR_keepPrinted.2.1 37 = .ok (.aload_n 0, 1) := by decide +kernel
theorem d_TR_keepPrinted_38 : decode M_TR_keepPrinted.2.1 38 = .ok (.aload_n 1, 1) := by decide +kernel
theorem d_TR_keepPrinted_39 : decode M_TR_keepPrinted.2.1 39 = .ok (.getfield 93, 3) := by decide +kernel
theorem d_TR_keepPrinted_42 : decode M_TR_keepPrinted.2.1 42 = .ok (.putfield 78, 3) := by decide +kernel
theorem d_TR_keepPrinted_45 : decode M_TR_keepPrinted.2.1 45 = .ok (.aload_n 0, 1) := by decide +kernel
theorem d_TR_keepPrinted_46 : decode M_TR_keepPrinted.2.1 46 = .ok (.aload_n 0, 1) := by decide +kernel
theorem d_TR_keepPrinted_47 : decode M_TR_keepPrinted.2.1 47 = .ok (.getfield 23, 3) := by decide +kernel
theorem d_TR_keepPrinted_50 : decode M_TR_keepPrinted.2.1 50 = .ok (.getfield 94, 3) := by decide +kernel
theorem d_TR_keepPrinted_53 : decode M_TR_keepPrinted.2.1 53 = .ok (.putfield 81, 3) := by decide +kernel
theorem d_TR_keepPrinted_56 : decode M_TR_keepPrinted.2.1 56 = .ok (.return_, 1) := by decide +kernel
/-- the cells of the class: u on the tape, N of it used; the result in cell 39 - ra, the spare row in ra -/
def g_CW (h : xH) (u : Nat → Nat) (N ra : Nat) (rl sy va ne bk : Int32) (Rs : Nat → Int32) : Prop :=
  h 0 = .inr (0, [.ref 1, .ref 2, .ref 15, .ref (39 - ra), .ref ra, .int (nI N), .int rl, .int sy, .int va, .int ne]) ∧ h 1 = .inl (1, 4096, .inl (fun i => g_sb (u i))) ∧ h 2 = .inr (1, [.ref 3, .ref 5]) ∧
  (∃ w0 w1 w2 w3 w4 w5 w6 : Value, h 3 = .inr (2, [w0, w1, w2, w3, w4, w5, w6, .int bk])) ∧
  (∃ (A : Nat → Nat → Int32) (tp ts tv tr : Value), g_okA A ∧ h 5 = .inr (3, [.ref 6, .ref 7, .ref 8, .ref 9, .ref 10, .ref 11, .ref 12, .ref 13, tp, ts, tv, tr]) ∧ h 6 = .inl (0, 1001, .inl (A 0)) ∧ h 7 = .inl (0, 1001, .inl (A 1)) ∧ h 8 = .inl (0, 1001, .inl (A 2)) ∧ h 9 = .inl (0, 1001, .inl (A 3)) ∧ h 10 = .inl (0, 1001, .inl (A 4)) ∧ h 11 = .inl (0, 1001, .inl (A 5)) ∧ h 12 = .inl (0, 1001, .inl (A 6)) ∧ h 13 = .inl (0, 1001, .inl (A 7))) ∧
  (∃ w2 w3 w4 w5 : Value, h 15 = .inr (4, [.ref 16, .ref 17, w2, w3, w4, w5])) ∧ (∃ Lv, h 16 = .inl (0, 1001, .inl Lv)) ∧ (∃ Wt, h 17 = .inl (0, 2000, .inl Wt)) ∧ h (39 - ra) = .inl (1, 4096, .inl Rs) ∧ ∃ P0, h ra = .inl (1, 4096, .inl P0)
/-- the cells that are not the class's own stay -/
def g_MS (h h' : xH) : Prop := ∀ i, 21 ≤ i → i < 52 → h' i = h i
theorem g_MS0 {h : xH} : g_MS h h := fun _ _ _ => rfl
theorem g_MSu {h h' : xH} {k : Nat} {c : xE} (hk : k < 21) (H : g_MS h h') : g_MS h (x_up h' k c) := fun i h1 h2 => (x_up_ne (by omega)).trans (H i h1 h2)
theorem g_MStw {h h' : xH} {s v r : Int32} {A : Nat → Nat → Int32} (H : g_MS h h') : g_MS h (g_tw h' s v r A) := g_MSu (by decide) (g_MSu (by decide) (g_MSu (by decide) (g_MSu (by decide) (g_MSu (by decide) (g_MSu (by decide) (g_MSu (by decide) (g_MSu (by decide) (g_MSu (by decide) H))))))))
theorem g_MSzw {h h' : xH} {ra wc ne : Nat} {S : List Int32} {Lv Wt P0 : Nat → Int32} (hra : ra < 21) (H : g_MS h h') : g_MS h (g_zw h' ra wc S ne Lv Wt P0) := g_MSu hra (g_MSu (by decide) (g_MSu (by decide) (g_MSu (by decide) H)))
/-- what reading the tape comes to -/
def g_RQ (h : xH) (u : Nat → Nat) (N ra : Nat) (rl sy va ne : Int32) (Rs : Nat → Int32) : xK := fun o n' h' k j => n' = 52 ∧ g_MS h h' ∧ match g_all u N with
  | .inl q => o = .inr 2 ∧ k = 1 ∧ j = 6 ∧ g_CW h' u 0 ra rl sy va ne (nI q) Rs
  | .inr (s, V, t) => if 4096 < (g_pt u t).length then o = .inr 0 ∧ k = 1 ∧ j = 6 ∧ g_CW h' u 0 ra rl sy va ne (-1) Rs else o = .inl (some (.int (nI (g_pt u t).length))) ∧ k = 0 ∧ j = 0 ∧ ∃ P0, g_CW h' u 0 (39 - ra) (nI (g_pt u t).length) (nI s) (nI V.length) (nI (g_dt t)) (-1) (g_ps P0 0 (g_pt u t))
set_option maxRecDepth 20000 in
theorem w_TR_keep19 {E : xR} {h : xH} {tl rl sy va ne ln lv s v : Int32} {w2 w3 rt tp : Value} (h0 : h 0 = .inr (0, [.ref 1, .ref 2, .ref 15, .ref 20, .ref 19, .int tl, .int rl, .int sy, .int va, .int ne])) (h15 : h 15 = .inr (4, [.ref 16, .ref 17, w2, w3, .int ln, .int lv])) (h5 : h 5 = .inr (3, [.ref 6, .ref 7, .ref 8, .ref 9, .ref 10, .ref 11, .ref 12, .ref 13, tp, .int s, .int v, rt])) : x_Mt E M_TR_keepPrinted 0 0 0 [.ref 0, .ref 5] 52 h (x_Y none 52 (x_up h 0 (.inr (0, [.ref 1, .ref 2, .ref 15, .ref 19, .ref 20, .int tl, .int ln, .int s, .int v, .int lv])))) := by
  refine x_Mt.of (by decide) (Nat.le_of_ble_eq_true rfl) ?_
  show x_W E M_TR_keepPrinted _ _ 52 h 0 [(0, .ref 0), (1, .ref 5)] [] 0 0
  refine x_aload_n d_TR_keepPrinted_0 rfl rfl ?_
  refine x_get d_TR_keepPrinted_1 f_TR_30 (Nat.le_of_ble_eq_true rfl) (Nat.le_of_ble_eq_true rfl) (by first | rfl | assumption) (by rfl) ?_
  refine x_astore_n d_TR_keepPrinted_4 rfl (Nat.le_of_ble_eq_true rfl) ?_
  refine x_aload_n d_TR_keepPrinted_5 rfl rfl ?_
  refine x_aload_n d_TR_keepPrinted_6 rfl rfl ?_
  refine x_get d_TR_keepPrinted_7 f_TR_27 (Nat.le_of_ble_eq_true rfl) (Nat.le_of_ble_eq_true rfl) (by first | rfl | assumption) (by rfl) ?_
  refine x_put d_TR_keepPrinted_10 f_TR_30 (Nat.le_of_ble_eq_true rfl) (Nat.le_of_ble_eq_true rfl) (by first | rfl | assumption) (by rfl) (by rfl) (by exact (Nat.le_of_ble_eq_true rfl)) ?_
  refine x_aload_n d_TR_keepPrinted_13 rfl rfl ?_
  refine x_aload_n d_TR_keepPrinted_14 rfl rfl ?_
  refine x_put d_TR_keepPrinted_15 f_TR_27 (Nat.le_of_ble_eq_true rfl) (Nat.le_of_ble_eq_true rfl) (by first | rfl | assumption) (by rfl) (by rfl) (by exact (Nat.le_of_ble_eq_true rfl)) ?_
  refine x_aload_n d_TR_keepPrinted_18 rfl rfl ?_
  refine x_aload_n d_TR_keepPrinted_19 rfl rfl ?_
  refine x_get d_TR_keepPrinted_20 f_TR_23 (Nat.le_of_ble_eq_true rfl) (Nat.le_of_ble_eq_true rfl) (by first | rfl | assumption) (by rfl) ?_
  refine x_get d_TR_keepPrinted_23 f_TR_61 (Nat.le_of_ble_eq_true rfl) (Nat.le_of_ble_eq_true rfl) (by first | rfl | assumption) (by rfl) ?_
  refine x_put d_TR_keepPrinted_26 f_TR_70 (Nat.le_of_ble_eq_true rfl) (Nat.le_of_ble_eq_true rfl) (by first | rfl | assumption) (by rfl) (by rfl) (by exact (Nat.le_of_ble_eq_true rfl)) ?_
  refine x_aload_n d_TR_keepPrinted_29 rfl rfl ?_
  refine x_aload_n d_TR_keepPrinted_30 rfl rfl ?_
  refine x_get d_TR_keepPrinted_31 f_TR_90 (Nat.le_of_ble_eq_true rfl) (Nat.le_of_ble_eq_true rfl) (by first | rfl | assumption) (by rfl) ?_
  refine x_put d_TR_keepPrinted_34 f_TR_75 (Nat.le_of_ble_eq_true rfl) (Nat.le_of_ble_eq_true rfl) (by first | rfl | assumption) (by rfl) (by rfl) (by exact (Nat.le_of_ble_eq_true rfl)) ?_
  refine x_aload_n d_TR_keepPrinted_37 rfl rfl ?_
  refine x_aload_n d_TR_keepPrinted_38 rfl rfl ?_
  refine x_get d_TR_keepPrinted_39 f_TR_93 (Nat.le_of_ble_eq_true rfl) (Nat.le_of_ble_eq_true rfl) (by first | rfl | assumption) (by rfl) ?_
  refine x_put d_TR_keepPrinted_42 f_TR_78 (Nat.le_of_ble_eq_true rfl) (Nat.le_of_ble_eq_true rfl) (by first | rfl | assumption) (by rfl) (by rfl) (by exact (Nat.le_of_ble_eq_true rfl)) ?_
  refine x_aload_n d_TR_keepPrinted_45 rfl rfl ?_
  refine x_aload_n d_TR_keepPrinted_46 rfl rfl ?_
  refine x_get d_TR_keepPrinted_47 f_TR_23 (Nat.le_of_ble_eq_true rfl) (Nat.le_of_ble_eq_true rfl) (by first | rfl | assumption) (by rfl) ?_
  refine x_get d_TR_keepPrinted_50 f_TR_94 (Nat.le_of_ble_eq_true rfl) (Nat.le_of_ble_eq_true rfl) (by first | rfl | assumption) (by rfl) ?_
  refine x_put d_TR_keepPrinted_53 f_TR_81 (Nat.le_of_ble_eq_true rfl) (Nat.le_of_ble_eq_true rfl) (by first | rfl | assumption) (by rfl) (by rfl) (by exact (Nat.le_of_ble_eq_true rfl)) ?_
  exact x_return d_TR_keepPrinted_56 rfl ⟨rfl, rfl, x_pt rfl rfl rfl rfl rfl rfl rfl rfl rfl rfl rfl rfl rfl rfl rfl rfl rfl rfl rfl rfl rfl rfl rfl rfl rfl rfl rfl rfl rfl rfl rfl rfl rfl rfl rfl rfl rfl rfl rfl rfl rfl rfl rfl rfl rfl rfl rfl rfl rfl rfl rfl rfl, rfl, rfl⟩
set_option maxRecDepth 20000 in
theorem w_TR_keep20 {E : xR} {h : xH} {tl rl sy va ne ln lv s v : Int32} {w2 w3 rt tp : Value} (h0 : h 0 = .inr (0, [.ref 1, .ref 2, .ref 15, .ref 19, .ref 20, .int tl, .int rl, .int sy, .int va, .int ne])) (h15 : h 15 = .inr (4, [.ref 16, .ref 17, w2, w3, .int ln, .int lv])) (h5 : h 5 = .inr (3, [.ref 6, .ref 7, .ref 8, .ref 9, .ref 10, .ref 11, .ref 12, .ref 13, tp, .int s, .int v, rt])) : x_Mt E M_TR_keepPrinted 0 0 0 [.ref 0, .ref 5] 52 h (x_Y none 52 (x_up h 0 (.inr (0, [.ref 1, .ref 2, .ref 15, .ref 20, .ref 19, .int tl, .int ln, .int s, .int v, .int lv])))) := by
  refine x_Mt.of (by decide) (Nat.le_of_ble_eq_true rfl) ?_
  show x_W E M_TR_keepPrinted _ _ 52 h 0 [(0, .ref 0), (1, .ref 5)] [] 0 0
  refine x_aload_n d_TR_keepPrinted_0 rfl rfl ?_
  refine x_get d_TR_keepPrinted_1 f_TR_30 (Nat.le_of_ble_eq_true rfl) (Nat.le_of_ble_eq_true rfl) (by first | rfl | assumption) (by rfl) ?_
  refine x_astore_n d_TR_keepPrinted_4 rfl (Nat.le_of_ble_eq_true rfl) ?_
  refine x_aload_n d_TR_keepPrinted_5 rfl rfl ?_
  refine x_aload_n d_TR_keepPrinted_6 rfl rfl ?_
  refine x_get d_TR_keepPrinted_7 f_TR_27 (Nat.le_of_ble_eq_true rfl) (Nat.le_of_ble_eq_true rfl) (by first | rfl | assumption) (by rfl) ?_
  refine x_put d_TR_keepPrinted_10 f_TR_30 (Nat.le_of_ble_eq_true rfl) (Nat.le_of_ble_eq_true rfl) (by first | rfl | assumption) (by rfl) (by rfl) (by exact (Nat.le_of_ble_eq_true rfl)) ?_
  refine x_aload_n d_TR_keepPrinted_13 rfl rfl ?_
  refine x_aload_n d_TR_keepPrinted_14 rfl rfl ?_
  refine x_put d_TR_keepPrinted_15 f_TR_27 (Nat.le_of_ble_eq_true rfl) (Nat.le_of_ble_eq_true rfl) (by first | rfl | assumption) (by rfl) (by rfl) (by exact (Nat.le_of_ble_eq_true rfl)) ?_
  refine x_aload_n d_TR_keepPrinted_18 rfl rfl ?_
  refine x_aload_n d_TR_keepPrinted_19 rfl rfl ?_
  refine x_get d_TR_keepPrinted_20 f_TR_23 (Nat.le_of_ble_eq_true rfl) (Nat.le_of_ble_eq_true rfl) (by first | rfl | assumption) (by rfl) ?_
  refine x_get d_TR_keepPrinted_23 f_TR_61 (Nat.le_of_ble_eq_true rfl) (Nat.le_of_ble_eq_true rfl) (by first | rfl | assumption) (by rfl) ?_
  refine x_put d_TR_keepPrinted_26 f_TR_70 (Nat.le_of_ble_eq_true rfl) (Nat.le_of_ble_eq_true rfl) (by first | rfl | assumption) (by rfl) (by rfl) (by exact (Nat.le_of_ble_eq_true rfl)) ?_
  refine x_aload_n d_TR_keepPrinted_29 rfl rfl ?_
  refine x_aload_n d_TR_keepPrinted_30 rfl rfl ?_
  refine x_get d_TR_keepPrinted_31 f_TR_90 (Nat.le_of_ble_eq_true rfl) (Nat.le_of_ble_eq_true rfl) (by first | rfl | assumption) (by rfl) ?_
  refine x_put d_TR_keepPrinted_34 f_TR_75 (Nat.le_of_ble_eq_true rfl) (Nat.le_of_ble_eq_true rfl) (by first | rfl | assumption) (by rfl) (by rfl) (by exact (Nat.le_of_ble_eq_true rfl)) ?_
  refine x_aload_n d_TR_keepPrinted_37 rfl rfl ?_
  refine x_aload_n d_TR_keepPrinted_38 rfl rfl ?_
  refine x_get d_TR_keepPrinted_39 f_TR_93 (Nat.le_of_ble_eq_true rfl) (Nat.le_of_ble_eq_true rfl) (by first | rfl | assumption) (by rfl) ?_
  refine x_put d_TR_keepPrinted_42 f_TR_78 (Nat.le_of_ble_eq_true rfl) (Nat.le_of_ble_eq_true rfl) (by first | rfl | assumption) (by rfl) (by rfl) (by exact (Nat.le_of_ble_eq_true rfl)) ?_
  refine x_aload_n d_TR_keepPrinted_45 rfl rfl ?_
  refine x_aload_n d_TR_keepPrinted_46 rfl rfl ?_
  refine x_get d_TR_keepPrinted_47 f_TR_23 (Nat.le_of_ble_eq_true rfl) (Nat.le_of_ble_eq_true rfl) (by first | rfl | assumption) (by rfl) ?_
  refine x_get d_TR_keepPrinted_50 f_TR_94 (Nat.le_of_ble_eq_true rfl) (Nat.le_of_ble_eq_true rfl) (by first | rfl | assumption) (by rfl) ?_
  refine x_put d_TR_keepPrinted_53 f_TR_81 (Nat.le_of_ble_eq_true rfl) (Nat.le_of_ble_eq_true rfl) (by first | rfl | assumption) (by rfl) (by rfl) (by exact (Nat.le_of_ble_eq_true rfl)) ?_
  exact x_return d_TR_keepPrinted_56 rfl ⟨rfl, rfl, x_pt rfl rfl rfl rfl rfl rfl rfl rfl rfl rfl rfl rfl rfl rfl rfl rfl rfl rfl rfl rfl rfl rfl rfl rfl rfl rfl rfl rfl rfl rfl rfl rfl rfl rfl rfl rfl rfl rfl rfl rfl rfl rfl rfl rfl rfl rfl rfl rfl rfl rfl rfl rfl, rfl, rfl⟩
theorem d_TR_read_0 : decode M_TR_read.2.1 0 = .ok (.aload_n 0, 1) := by decide +kernel
theorem d_TR_read_1 : decode M_TR_read.2.1 1 = .ok (.getfield 33, 3) := by decide +kernel
theorem d_TR_read_4 : decode M_TR_read.2.1 4 = .ok (.istore_n 1, 1) := by decide +kernel
theorem d_TR_read_5 : decode M_TR_read.2.1 5 = .ok (.aload_n 0, 1) := by decide +kernel
theorem d_TR_read_6 : decode M_TR_read.2.1 6 = .ok (.iconst 0, 1) := by decide +kernel
theorem d_TR_read_7 : decode M_TR_read.2.1 7 = .ok (.putfield 33, 3) := by decide +kernel
theorem d_TR_read_10 : decode M_TR_read.2.1 10 = .ok (.aload_n 0, 1) := by decide +kernel
theorem d_TR_read_11 : decode M_TR_read.2.1 11 = .ok (.getfield 16, 3) := by decide +kernel
theorem d_TR_read_14 : decode M_TR_read.2.1 14 = .ok (.aload_n 0, 1) := by decide +kernel
theorem d_TR_read_15 : decode M_TR_read.2.1 15 = .ok (.getfield 9, 3) := by decide +kernel
theorem d_TR_read_18 : decode M_TR_read.2.1 18 = .ok (.iload_n 1, 1) := by decide +kernel
theorem d_TR_read_19 : decode M_TR_read.2.1 19 = .ok (.invokevirtual 53, 3) := by decide +kernel
theorem d_TR_read_22 : decode M_TR_read.2.1 22 = .ok (.astore_n 2, 1) := by decide +kernel
theorem d_TR_read_23 : decode M_TR_read.2.1 23 = .ok (.aload_n 0, 1) := by decide +kernel
theorem d_TR_read_24 : decode M_TR_read.2.1 24 = .ok (.getfield 23, 3) := by decide +kernel
theorem d_TR_read_27 : decode M_TR_read.2.1 27 = .ok (.aload_n 2, 1) := by decide +kernel
theorem d_TR_read_28 : decode M_TR_read.2.1 28 = .ok (.aload_n 0, 1) := by decide +kernel
theorem d_TR_read_29 : decode M_TR_read.2.1 29 = .ok (.getfield 30, 3) := by decide +kernel
theorem d_TR_read_32 : decode M_TR_read.2.1 32 = .ok (.invokevirtual 57, 3) := by decide +kernel
theorem d_TR_read_35 : decode M_TR_read.2.1 35 = .ok (.aload_n 0, 1) := by decide +kernel
theorem d_TR_read_36 : decode M_TR_read.2.1 36 = .ok (.getfield 23, 3) := by decide +kernel
theorem d_TR_read_39 : decode M_TR_read.2.1 39 = .ok (.getfield 61, 3) := by decide +kernel
theorem d_TR_read_42 : decode M_TR_read.2.1 42 = .ok (.sipush 4096, 3) := by decide +kernel
theorem d_TR_read_45 : decode M_TR_read.2.1 45 = .ok (.if_icmp .le 13, 3) := by decide +kernel
theorem d_TR_read_48 : decode M_TR_read.2.1 48 = .ok (.new 37, 3) := by decide +kernel
theorem d_TR_read_51 : decode M_TR_read.2.1 51 = .ok (.dup, 1) := by decide +kernel
theorem d_TR_read_52 : decode M_TR_read.2.1 52 = .ok (.ldc 64, 2) := by decide +kernel
theorem d_TR_read_54 : decode M_TR_read.2.1 54 = .ok (.invokespecial 41, 3) := by decide +kernel
theorem d_TR_read_57 : decode M_TR_read.2.1 57 = .ok (.athrow, 1) := by decide +kernel
theorem d_TR_read_58 : decode M_TR_read.2.1 58 = .ok (.aload_n 0, 1) := by decide +kernel
theorem d_TR_read_59 : decode M_TR_read.2.1 59 = .ok (.aload_n 2, 1) := by decide +kernel
theorem d_TR_read_60 : decode M_TR_read.2.1 60 = .ok (.invokevirtual 66, 3) := by decide +kernel
theorem d_TR_read_63 : decode M_TR_read.2.1 63 = .ok (.aload_n 0, 1) := by decide +kernel
theorem d_TR_read_64 : decode M_TR_read.2.1 64 = .ok (.getfield 70, 3) := by decide +kernel
theorem d_TR_read_67 : decode M_TR_read.2.1 67 = .ok (.ireturn, 1) := by decide +kernel
set_option maxRecDepth 20000 in
theorem w_TR_read19 {E : xR} {h : xH} {u : Nat → Nat} {N : Nat} {rl sy va ne bk : Int32} {Rs : Nat → Int32} (hC : g_CW h u N 19 rl sy va ne bk Rs) (hu : ∀ i, u i < 256) (hN : N ≤ 4096) (hnt : ¬ x_tg E) : x_Mt E M_TR_read 214 1 6 [.ref 0] 52 h (g_RQ h u N 19 rl sy va ne Rs) := by
  obtain ⟨h0, h1, h2, ⟨w0, w1, w2, w3, w4, w5, w6, h3⟩, ⟨A, tp, ts, tv, tr, ok, h5, a0, a1, a2, a3, a4, a5, a6, a7⟩, ⟨v2, v3, v4, v5, h15⟩, ⟨Lv, h16⟩, ⟨Wt, h17⟩, hR, P0, hP⟩ := hC
  refine x_Mt.of (by decide) (Nat.le_of_ble_eq_true rfl) ?_
  show x_W E M_TR_read _ _ 52 h 0 [(0, .ref 0)] [] 0 0
  refine x_aload_n d_TR_read_0 rfl rfl ?_
  refine x_get d_TR_read_1 f_TR_33 (Nat.le_of_ble_eq_true rfl) (Nat.le_of_ble_eq_true rfl) (by first | rfl | assumption) (by rfl) ?_
  refine x_istore_n d_TR_read_4 rfl (Nat.le_of_ble_eq_true rfl) ?_
  refine x_aload_n d_TR_read_5 rfl rfl ?_
  refine x_iconst 0 d_TR_read_6 (by decide) ?_
  refine x_put d_TR_read_7 f_TR_33 (Nat.le_of_ble_eq_true rfl) (Nat.le_of_ble_eq_true rfl) (by first | rfl | assumption) (by rfl) (by rfl) (by exact (Nat.le_of_ble_eq_true rfl)) ?_
  refine x_aload_n d_TR_read_10 rfl rfl ?_
  refine x_get d_TR_read_11 f_TR_16 (Nat.le_of_ble_eq_true rfl) (Nat.le_of_ble_eq_true rfl) (by first | rfl | assumption) (by rfl) ?_
  refine x_aload_n d_TR_read_14 rfl rfl ?_
  refine x_get d_TR_read_15 f_TR_9 (Nat.le_of_ble_eq_true rfl) (Nat.le_of_ble_eq_true rfl) (by first | rfl | assumption) (by rfl) ?_
  refine x_iload_n d_TR_read_18 rfl rfl ?_
  refine x_callV2 d_TR_read_19 k_TR_53 (Nat.le_of_ble_eq_true rfl) (Nat.le_of_ble_eq_true rfl) (by first | rfl | assumption) (by rfl) (w_PA_parse (h := (x_up h 0 (.inr (0, [.ref 1, .ref 2, .ref 15, .ref 20, .ref 19, .int 0, .int rl, .int sy, .int va, .int ne])))) h2 h3 h5 a0 a1 a2 a3 a4 a5 a6 a7 h1 hu hN hnt ok) (Nat.le_of_ble_eq_true rfl) (Nat.le_of_ble_eq_true rfl) (Nat.le_of_ble_eq_true rfl) (Nat.le_of_ble_eq_true rfl) (Nat.le_of_ble_eq_true rfl) rfl (fun z => absurd z hnt) (fun v n' h' k j hq => ?_) (fun q n' h' k j hq => ?_)
  rotate_left
  · unfold g_RQ
    cases hr : g_all u N with
    | inr y => rw [hr] at hq; obtain ⟨s, V, t⟩ := y; obtain ⟨B, jn, c2, c3, c4, c5, c6, e1, -⟩ := hq; cases e1
    | inl q0 =>
      rw [hr] at hq
      obtain ⟨e1, e2, e3, e4, c2, c3, c4, c5, c6, s, w, r, B, okB, e⟩ := hq
      cases e1
      subst e2 e3 e4
      exact ⟨rfl, fun i hi1 hi2 => (e i hi2).trans (g_MStw (g_MSu (by decide) (g_MSu (by decide) g_MS0)) i hi1 hi2), rfl, rfl, rfl, e 0 (by decide), (e 1 (by decide)).trans h1, (e 2 (by decide)).trans h2, ⟨_, _, _, _, _, _, _, e 3 (by decide)⟩, ⟨B, _, _, _, _, okB, e 5 (by decide), e 6 (by decide), e 7 (by decide), e 8 (by decide), e 9 (by decide), e 10 (by decide), e 11 (by decide), e 12 (by decide), e 13 (by decide)⟩, ⟨_, _, _, _, (e 15 (by decide)).trans h15⟩, ⟨_, (e 16 (by decide)).trans h16⟩, ⟨_, (e 17 (by decide)).trans h17⟩, (e 20 (by decide)).trans hR, ⟨_, (e 19 (by decide)).trans hP⟩⟩
  cases hr : g_all u N with
  | inl q0 => rw [hr] at hq; cases hq.1
  | inr y =>
    obtain ⟨s, V, t⟩ := y
    rw [hr] at hq
    obtain ⟨B, jn, c2, c3, c4, c5, c6, e1, e2, e3, e4, okB, hs, hjs, hj3, hVs, hT, e⟩ := hq
    cases e1
    subst e2 e3 e4
    have hD := g_allD hN hr
    refine x_same (h' := (g_tw (x_up (x_up h 0 (.inr (0, [.ref 1, .ref 2, .ref 15, .ref 20, .ref 19, .int 0, .int rl, .int sy, .int va, .int ne]))) 3 (.inr (2, [.ref 1, .int (nI N), c2, c3, c4, c5, c6, .int (-1)]))) (nI s) (nI V.length) (nI jn) B)) e ?_
    have hL : (g_pt u t).length < 2 ^ 30 := by
      have h9 := g_SL (z := g_sz t.2) (k0 := g_P u t.2 0) (k1 := g_P u t.2 1) hN hD.2.1.1
      have h7 := g_PL hN t.2 hD.2.1.2.1 0
      have h8 := g_PL hN t.2 hD.2.1.2.1 1
      have h6 : 1 + g_sz t.2 + 0 = s := hD.2.2.2
      show (g_S u t.1 (g_sz t.2) (g_P u t.2 0) (g_P u t.2 1)).length < _
      omega
    refine x_astore_n d_TR_read_22 rfl (Nat.le_of_ble_eq_true rfl) ?_
    refine x_aload_n d_TR_read_23 rfl rfl ?_
    refine x_get d_TR_read_24 f_TR_23 (Nat.le_of_ble_eq_true rfl) (Nat.le_of_ble_eq_true rfl) (by first | rfl | assumption) (by rfl) ?_
    refine x_aload_n d_TR_read_27 rfl rfl ?_
    refine x_aload_n d_TR_read_28 rfl rfl ?_
    refine x_get d_TR_read_29 f_TR_30 (Nat.le_of_ble_eq_true rfl) (Nat.le_of_ble_eq_true rfl) (by first | rfl | assumption) (by rfl) ?_
    refine x_callV2 d_TR_read_32 k_TR_57 (Nat.le_of_ble_eq_true rfl) (Nat.le_of_ble_eq_true rfl) (by first | rfl | assumption) (by rfl) (w_PR_print (h := (g_tw (x_up (x_up h 0 (.inr (0, [.ref 1, .ref 2, .ref 15, .ref 20, .ref 19, .int 0, .int rl, .int sy, .int va, .int ne]))) 3 (.inr (2, [.ref 1, .int (nI N), c2, c3, c4, c5, c6, .int (-1)]))) (nI s) (nI V.length) (nI jn) B)) (Lv := Lv) (Wt := Wt) (P0 := P0) (Or.inl rfl) rfl rfl rfl rfl rfl rfl rfl rfl h1 hu hN h15 h16 h17 hP hs hjs hj3 hT hD.2) (Nat.le_of_ble_eq_true rfl) (Nat.le_of_ble_eq_true rfl) (Nat.le_of_ble_eq_true rfl) (Nat.le_of_ble_eq_true rfl) (Nat.le_of_ble_eq_true rfl) rfl (fun z => absurd z hnt) (fun v n' h' k j hq => ?_) (fun q n' h' k j hq => by cases hq.1)
    obtain ⟨e1, e2, e3, e4, Lv', Wt', e'⟩ := hq
    cases e1
    subst e2 e3 e4
    refine x_same (h' := (g_zw (g_tw (x_up (x_up h 0 (.inr (0, [.ref 1, .ref 2, .ref 15, .ref 20, .ref 19, .int 0, .int rl, .int sy, .int va, .int ne]))) 3 (.inr (2, [.ref 1, .int (nI N), c2, c3, c4, c5, c6, .int (-1)]))) (nI s) (nI V.length) (nI jn) B) 19 0 (g_pt u t) (g_dt t) Lv' Wt' P0)) e' ?_
    refine x_aload_n d_TR_read_35 rfl rfl ?_
    refine x_get d_TR_read_36 f_TR_23 (Nat.le_of_ble_eq_true rfl) (Nat.le_of_ble_eq_true rfl) (by first | rfl | assumption) (by rfl) ?_
    refine x_get d_TR_read_39 f_TR_61 (Nat.le_of_ble_eq_true rfl) (Nat.le_of_ble_eq_true rfl) (by first | rfl | assumption) (by rfl) ?_
    refine x_sipush 4096 d_TR_read_42 (by decide) ?_
    refine x_icmp_le 58 d_TR_read_45 (by decide) (fun c_45 => ?_) (fun c_45 => ?_)
    · refine x_aload_n d_TR_read_58 rfl rfl ?_
      refine x_aload_n d_TR_read_59 rfl rfl ?_
      refine x_callV1Y d_TR_read_60 k_TR_66 (Nat.le_of_ble_eq_true rfl) (Nat.le_of_ble_eq_true rfl) (by first | rfl | assumption) (by rfl) (w_TR_keep19 rfl rfl rfl) (Nat.le_of_ble_eq_true rfl) (Nat.le_of_ble_eq_true rfl) (Nat.le_of_ble_eq_true rfl) (Nat.le_of_ble_eq_true rfl) (Nat.le_of_ble_eq_true rfl) rfl ?_
      refine x_aload_n d_TR_read_63 rfl rfl ?_
      refine x_get d_TR_read_64 f_TR_70 (Nat.le_of_ble_eq_true rfl) (Nat.le_of_ble_eq_true rfl) (by first | rfl | assumption) (by rfl) ?_
      exact x_ireturn d_TR_read_67 rfl rfl (show g_RQ h u N 19 rl sy va ne Rs _ 52 _ _ _ by unfold g_RQ; rw [hr]; refine ⟨rfl, g_MSu (by decide) (g_MSzw (by decide) (g_MStw (g_MSu (by decide) (g_MSu (by decide) g_MS0)))), ?_⟩; show (if _ then _ else _); rw [if_neg (fun z => absurd c_45 (nI_ge z (by omega)))]; exact ⟨rfl, rfl, rfl, P0, ⟨rfl, h1, h2, ⟨_, _, _, _, _, _, _, rfl⟩, ⟨B, _, _, _, _, okB, rfl, rfl, rfl, rfl, rfl, rfl, rfl, rfl, rfl⟩, ⟨_, _, _, _, rfl⟩, ⟨_, rfl⟩, ⟨_, rfl⟩, rfl, ⟨_, hR⟩⟩⟩)
    · exact x_throwB 0 rfl d_TR_read_48 d_TR_read_51 d_TR_read_52 d_TR_read_54 d_TR_read_57 t_TR_37_64 (Nat.le_of_ble_eq_true rfl) (Nat.le_of_ble_eq_true rfl) (Nat.le_of_ble_eq_true rfl) (Nat.le_of_ble_eq_true rfl) (Nat.le_of_ble_eq_true rfl) rfl (show g_RQ h u N 19 rl sy va ne Rs _ 52 _ _ _ by unfold g_RQ; rw [hr]; refine ⟨rfl, g_MSzw (by decide) (g_MStw (g_MSu (by decide) (g_MSu (by decide) g_MS0))), ?_⟩; show (if _ then _ else _); rw [if_pos (Nat.not_le.mp fun z => c_45 (nI_le z (by decide)))]; exact ⟨rfl, rfl, rfl, ⟨rfl, h1, h2, ⟨_, _, _, _, _, _, _, rfl⟩, ⟨B, _, _, _, _, okB, rfl, rfl, rfl, rfl, rfl, rfl, rfl, rfl, rfl⟩, ⟨_, _, _, _, rfl⟩, ⟨_, rfl⟩, ⟨_, rfl⟩, hR, ⟨_, rfl⟩⟩⟩)
set_option maxRecDepth 20000 in
theorem w_TR_read20 {E : xR} {h : xH} {u : Nat → Nat} {N : Nat} {rl sy va ne bk : Int32} {Rs : Nat → Int32} (hC : g_CW h u N 20 rl sy va ne bk Rs) (hu : ∀ i, u i < 256) (hN : N ≤ 4096) (hnt : ¬ x_tg E) : x_Mt E M_TR_read 214 1 6 [.ref 0] 52 h (g_RQ h u N 20 rl sy va ne Rs) := by
  obtain ⟨h0, h1, h2, ⟨w0, w1, w2, w3, w4, w5, w6, h3⟩, ⟨A, tp, ts, tv, tr, ok, h5, a0, a1, a2, a3, a4, a5, a6, a7⟩, ⟨v2, v3, v4, v5, h15⟩, ⟨Lv, h16⟩, ⟨Wt, h17⟩, hR, P0, hP⟩ := hC
  refine x_Mt.of (by decide) (Nat.le_of_ble_eq_true rfl) ?_
  show x_W E M_TR_read _ _ 52 h 0 [(0, .ref 0)] [] 0 0
  refine x_aload_n d_TR_read_0 rfl rfl ?_
  refine x_get d_TR_read_1 f_TR_33 (Nat.le_of_ble_eq_true rfl) (Nat.le_of_ble_eq_true rfl) (by first | rfl | assumption) (by rfl) ?_
  refine x_istore_n d_TR_read_4 rfl (Nat.le_of_ble_eq_true rfl) ?_
  refine x_aload_n d_TR_read_5 rfl rfl ?_
  refine x_iconst 0 d_TR_read_6 (by decide) ?_
  refine x_put d_TR_read_7 f_TR_33 (Nat.le_of_ble_eq_true rfl) (Nat.le_of_ble_eq_true rfl) (by first | rfl | assumption) (by rfl) (by rfl) (by exact (Nat.le_of_ble_eq_true rfl)) ?_
  refine x_aload_n d_TR_read_10 rfl rfl ?_
  refine x_get d_TR_read_11 f_TR_16 (Nat.le_of_ble_eq_true rfl) (Nat.le_of_ble_eq_true rfl) (by first | rfl | assumption) (by rfl) ?_
  refine x_aload_n d_TR_read_14 rfl rfl ?_
  refine x_get d_TR_read_15 f_TR_9 (Nat.le_of_ble_eq_true rfl) (Nat.le_of_ble_eq_true rfl) (by first | rfl | assumption) (by rfl) ?_
  refine x_iload_n d_TR_read_18 rfl rfl ?_
  refine x_callV2 d_TR_read_19 k_TR_53 (Nat.le_of_ble_eq_true rfl) (Nat.le_of_ble_eq_true rfl) (by first | rfl | assumption) (by rfl) (w_PA_parse (h := (x_up h 0 (.inr (0, [.ref 1, .ref 2, .ref 15, .ref 19, .ref 20, .int 0, .int rl, .int sy, .int va, .int ne])))) h2 h3 h5 a0 a1 a2 a3 a4 a5 a6 a7 h1 hu hN hnt ok) (Nat.le_of_ble_eq_true rfl) (Nat.le_of_ble_eq_true rfl) (Nat.le_of_ble_eq_true rfl) (Nat.le_of_ble_eq_true rfl) (Nat.le_of_ble_eq_true rfl) rfl (fun z => absurd z hnt) (fun v n' h' k j hq => ?_) (fun q n' h' k j hq => ?_)
  rotate_left
  · unfold g_RQ
    cases hr : g_all u N with
    | inr y => rw [hr] at hq; obtain ⟨s, V, t⟩ := y; obtain ⟨B, jn, c2, c3, c4, c5, c6, e1, -⟩ := hq; cases e1
    | inl q0 =>
      rw [hr] at hq
      obtain ⟨e1, e2, e3, e4, c2, c3, c4, c5, c6, s, w, r, B, okB, e⟩ := hq
      cases e1
      subst e2 e3 e4
      exact ⟨rfl, fun i hi1 hi2 => (e i hi2).trans (g_MStw (g_MSu (by decide) (g_MSu (by decide) g_MS0)) i hi1 hi2), rfl, rfl, rfl, e 0 (by decide), (e 1 (by decide)).trans h1, (e 2 (by decide)).trans h2, ⟨_, _, _, _, _, _, _, e 3 (by decide)⟩, ⟨B, _, _, _, _, okB, e 5 (by decide), e 6 (by decide), e 7 (by decide), e 8 (by decide), e 9 (by decide), e 10 (by decide), e 11 (by decide), e 12 (by decide), e 13 (by decide)⟩, ⟨_, _, _, _, (e 15 (by decide)).trans h15⟩, ⟨_, (e 16 (by decide)).trans h16⟩, ⟨_, (e 17 (by decide)).trans h17⟩, (e 19 (by decide)).trans hR, ⟨_, (e 20 (by decide)).trans hP⟩⟩
  cases hr : g_all u N with
  | inl q0 => rw [hr] at hq; cases hq.1
  | inr y =>
    obtain ⟨s, V, t⟩ := y
    rw [hr] at hq
    obtain ⟨B, jn, c2, c3, c4, c5, c6, e1, e2, e3, e4, okB, hs, hjs, hj3, hVs, hT, e⟩ := hq
    cases e1
    subst e2 e3 e4
    have hD := g_allD hN hr
    refine x_same (h' := (g_tw (x_up (x_up h 0 (.inr (0, [.ref 1, .ref 2, .ref 15, .ref 19, .ref 20, .int 0, .int rl, .int sy, .int va, .int ne]))) 3 (.inr (2, [.ref 1, .int (nI N), c2, c3, c4, c5, c6, .int (-1)]))) (nI s) (nI V.length) (nI jn) B)) e ?_
    have hL : (g_pt u t).length < 2 ^ 30 := by
      have h9 := g_SL (z := g_sz t.2) (k0 := g_P u t.2 0) (k1 := g_P u t.2 1) hN hD.2.1.1
      have h7 := g_PL hN t.2 hD.2.1.2.1 0
      have h8 := g_PL hN t.2 hD.2.1.2.1 1
      have h6 : 1 + g_sz t.2 + 0 = s := hD.2.2.2
      show (g_S u t.1 (g_sz t.2) (g_P u t.2 0) (g_P u t.2 1)).length < _
      omega
    refine x_astore_n d_TR_read_22 rfl (Nat.le_of_ble_eq_true rfl) ?_
    refine x_aload_n d_TR_read_23 rfl rfl ?_
    refine x_get d_TR_read_24 f_TR_23 (Nat.le_of_ble_eq_true rfl) (Nat.le_of_ble_eq_true rfl) (by first | rfl | assumption) (by rfl) ?_
    refine x_aload_n d_TR_read_27 rfl rfl ?_
    refine x_aload_n d_TR_read_28 rfl rfl ?_
    refine x_get d_TR_read_29 f_TR_30 (Nat.le_of_ble_eq_true rfl) (Nat.le_of_ble_eq_true rfl) (by first | rfl | assumption) (by rfl) ?_
    refine x_callV2 d_TR_read_32 k_TR_57 (Nat.le_of_ble_eq_true rfl) (Nat.le_of_ble_eq_true rfl) (by first | rfl | assumption) (by rfl) (w_PR_print (h := (g_tw (x_up (x_up h 0 (.inr (0, [.ref 1, .ref 2, .ref 15, .ref 19, .ref 20, .int 0, .int rl, .int sy, .int va, .int ne]))) 3 (.inr (2, [.ref 1, .int (nI N), c2, c3, c4, c5, c6, .int (-1)]))) (nI s) (nI V.length) (nI jn) B)) (Lv := Lv) (Wt := Wt) (P0 := P0) (Or.inr rfl) rfl rfl rfl rfl rfl rfl rfl rfl h1 hu hN h15 h16 h17 hP hs hjs hj3 hT hD.2) (Nat.le_of_ble_eq_true rfl) (Nat.le_of_ble_eq_true rfl) (Nat.le_of_ble_eq_true rfl) (Nat.le_of_ble_eq_true rfl) (Nat.le_of_ble_eq_true rfl) rfl (fun z => absurd z hnt) (fun v n' h' k j hq => ?_) (fun q n' h' k j hq => by cases hq.1)
    obtain ⟨e1, e2, e3, e4, Lv', Wt', e'⟩ := hq
    cases e1
    subst e2 e3 e4
    refine x_same (h' := (g_zw (g_tw (x_up (x_up h 0 (.inr (0, [.ref 1, .ref 2, .ref 15, .ref 19, .ref 20, .int 0, .int rl, .int sy, .int va, .int ne]))) 3 (.inr (2, [.ref 1, .int (nI N), c2, c3, c4, c5, c6, .int (-1)]))) (nI s) (nI V.length) (nI jn) B) 20 0 (g_pt u t) (g_dt t) Lv' Wt' P0)) e' ?_
    refine x_aload_n d_TR_read_35 rfl rfl ?_
    refine x_get d_TR_read_36 f_TR_23 (Nat.le_of_ble_eq_true rfl) (Nat.le_of_ble_eq_true rfl) (by first | rfl | assumption) (by rfl) ?_
    refine x_get d_TR_read_39 f_TR_61 (Nat.le_of_ble_eq_true rfl) (Nat.le_of_ble_eq_true rfl) (by first | rfl | assumption) (by rfl) ?_
    refine x_sipush 4096 d_TR_read_42 (by decide) ?_
    refine x_icmp_le 58 d_TR_read_45 (by decide) (fun c_45 => ?_) (fun c_45 => ?_)
    · refine x_aload_n d_TR_read_58 rfl rfl ?_
      refine x_aload_n d_TR_read_59 rfl rfl ?_
      refine x_callV1Y d_TR_read_60 k_TR_66 (Nat.le_of_ble_eq_true rfl) (Nat.le_of_ble_eq_true rfl) (by first | rfl | assumption) (by rfl) (w_TR_keep20 rfl rfl rfl) (Nat.le_of_ble_eq_true rfl) (Nat.le_of_ble_eq_true rfl) (Nat.le_of_ble_eq_true rfl) (Nat.le_of_ble_eq_true rfl) (Nat.le_of_ble_eq_true rfl) rfl ?_
      refine x_aload_n d_TR_read_63 rfl rfl ?_
      refine x_get d_TR_read_64 f_TR_70 (Nat.le_of_ble_eq_true rfl) (Nat.le_of_ble_eq_true rfl) (by first | rfl | assumption) (by rfl) ?_
      exact x_ireturn d_TR_read_67 rfl rfl (show g_RQ h u N 20 rl sy va ne Rs _ 52 _ _ _ by unfold g_RQ; rw [hr]; refine ⟨rfl, g_MSu (by decide) (g_MSzw (by decide) (g_MStw (g_MSu (by decide) (g_MSu (by decide) g_MS0)))), ?_⟩; show (if _ then _ else _); rw [if_neg (fun z => absurd c_45 (nI_ge z (by omega)))]; exact ⟨rfl, rfl, rfl, P0, ⟨rfl, h1, h2, ⟨_, _, _, _, _, _, _, rfl⟩, ⟨B, _, _, _, _, okB, rfl, rfl, rfl, rfl, rfl, rfl, rfl, rfl, rfl⟩, ⟨_, _, _, _, rfl⟩, ⟨_, rfl⟩, ⟨_, rfl⟩, rfl, ⟨_, hR⟩⟩⟩)
    · exact x_throwB 0 rfl d_TR_read_48 d_TR_read_51 d_TR_read_52 d_TR_read_54 d_TR_read_57 t_TR_37_64 (Nat.le_of_ble_eq_true rfl) (Nat.le_of_ble_eq_true rfl) (Nat.le_of_ble_eq_true rfl) (Nat.le_of_ble_eq_true rfl) (Nat.le_of_ble_eq_true rfl) rfl (show g_RQ h u N 20 rl sy va ne Rs _ 52 _ _ _ by unfold g_RQ; rw [hr]; refine ⟨rfl, g_MSzw (by decide) (g_MStw (g_MSu (by decide) (g_MSu (by decide) g_MS0))), ?_⟩; show (if _ then _ else _); rw [if_pos (Nat.not_le.mp fun z => c_45 (nI_le z (by decide)))]; exact ⟨rfl, rfl, rfl, ⟨rfl, h1, h2, ⟨_, _, _, _, _, _, _, rfl⟩, ⟨B, _, _, _, _, okB, rfl, rfl, rfl, rfl, rfl, rfl, rfl, rfl, rfl⟩, ⟨_, _, _, _, rfl⟩, ⟨_, rfl⟩, ⟨_, rfl⟩, hR, ⟨_, rfl⟩⟩⟩)
