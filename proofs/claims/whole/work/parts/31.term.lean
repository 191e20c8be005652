/-- the contract of term, d levels left -/
def g_CT (E : xR) (h : xH) (u : Nat → Nat) (N d : Nat) : Prop := ∀ (most p s w op : Nat) (A : Nat → Nat → Int32) (V : List (Nat × Nat)), most ≤ 1200 → g_okA A → p ≤ N → s ≤ p → w ≤ 1000 → (s ≤ 1000 → g_VI A s w V) → ¬ g_ky (g_at u N) N p = 12 → op + d = 101 → x_Mt E M_PA_term (2 * d + 12) 1 6 [.ref 2, .int (nI most), .int (nI op)] 52 (g_pw u N h p s w A) (g_Po u N h A s (g_T (g_at u N) u N d most p s V))
theorem g_dd_bd {u : Nat → Nat} {N q : Nat} {r : g_Rs} {k : Nat → Nat → List (Nat × Nat) → (Nat × Std.Format) → Nat → g_Rs} (hd : g_dd u N r q) (hk : ∀ s V t c, g_ky (g_at u N) N q = 12 → g_dd u N (k q s V t c) q) : g_dd u N (g_bd r k) q := by
  rcases hd with rfl | ⟨s, V, t, c, rfl, h12⟩
  · exact Or.inl rfl
  · exact hk s V t c h12
theorem g_T12 {u : Nat → Nat} {N d most p s : Nat} {V : List (Nat × Nat)} (h : g_ky (g_at u N) N p = 12) : g_T (g_at u N) u N d most p s V = .inl p := by
  cases d with
  | zero => rfl
  | succ d =>
    rw [g_T, g_pr, if_neg (by rw [h]; decide), if_neg (by rw [h]; decide), if_neg (by rw [h]; decide), if_neg (by rw [h]; decide), if_neg (by rw [h]; decide)]
    rfl
theorem d_PA_inParentheses_0 : decode M_PA_inParentheses.2.1 0 = .ok (.aload_n 0, 1) := by decide +kernel
theorem d_PA_inParentheses_1 : decode M_PA_inParentheses.2.1 1 = .ok (.getfield 12, 3) := by decide +kernel
theorem d_PA_inParentheses_4 : decode M_PA_inParentheses.2.1 4 = .ok (.invokevirtual 56, 3) := by decide +kernel
theorem d_PA_inParentheses_7 : decode M_PA_inParentheses.2.1 7 = .ok (.aload_n 0, 1) := by decide +kernel
theorem d_PA_inParentheses_8 : decode M_PA_inParentheses.2.1 8 = .ok (.sipush 1200, 3) := by decide +kernel
theorem d_PA_inParentheses_11 : decode M_PA_inParentheses.2.1 11 = .ok (.iload_n 1, 1) := by decide +kernel
theorem d_PA_inParentheses_12 : decode M_PA_inParentheses.2.1 12 = .ok (.iconst 1, 1) := by decide +kernel
theorem d_PA_inParentheses_13 : decode M_PA_inParentheses.2.1 13 = .ok (.iadd, 1) := by decide +kernel
theorem d_PA_inParentheses_14 : decode M_PA_inParentheses.2.1 14 = .ok (.invokevirtual 39, 3) := by decide +kernel
theorem d_PA_inParentheses_17 : decode M_PA_inParentheses.2.1 17 = .ok (.istore_n 2, 1) := by decide +kernel
theorem d_PA_inParentheses_18 : decode M_PA_inParentheses.2.1 18 = .ok (.aload_n 0, 1) := by decide +kernel
theorem d_PA_inParentheses_19 : decode M_PA_inParentheses.2.1 19 = .ok (.getfield 12, 3) := by decide +kernel
theorem d_PA_inParentheses_22 : decode M_PA_inParentheses.2.1 22 = .ok (.getstatic 143, 3) := by decide +kernel
theorem d_PA_inParentheses_25 : decode M_PA_inParentheses.2.1 25 = .ok (.invokevirtual 52, 3) := by decide +kernel
theorem d_PA_inParentheses_28 : decode M_PA_inParentheses.2.1 28 = .ok (.aload_n 0, 1) := by decide +kernel
theorem d_PA_inParentheses_29 : decode M_PA_inParentheses.2.1 29 = .ok (.getfield 12, 3) := by decide +kernel
theorem d_PA_inParentheses_32 : decode M_PA_inParentheses.2.1 32 = .ok (.invokevirtual 56, 3) := by decide +kernel
theorem d_PA_inParentheses_35 : decode M_PA_inParentheses.2.1 35 = .ok (.iload_n 2, 1) := by decide +kernel
theorem d_PA_inParentheses_36 : decode M_PA_inParentheses.2.1 36 = .ok (.ireturn, 1) := by decide +kernel
set_option maxRecDepth 20000 in
theorem w_PA_inParentheses {E : xR} {h : xH} {u : Nat → Nat} {N p s w d op : Nat} {A : Nat → Nat → Int32} {V : List (Nat × Nat)} (h2 : h 2 = .inr (1, [.ref 3, .ref 5])) (h1 : h 1 = .inl (1, 4096, .inl (fun i => g_sb (u i)))) (hu : ∀ i, u i < 256) (hN : N ≤ 4096) (hnt : ¬ x_tg E) (hT : g_CT E h u N d) (ok : g_okA A) (hp : p ≤ N) (hsp : s ≤ p) (hw : w ≤ 1000) (hV : s ≤ 1000 → g_VI A s w V) (hop : op + 1 + d = 101) (hk0 : (g_ky (g_at u N) N p) = 4) : x_Mt E M_PA_inParentheses (2 * d + 13) 1 6 [.ref 2, .int (nI op)] 52 (g_pw u N h p s w A) (g_Po u N h A s (g_bd (g_T (g_at u N) u N d 1200 (g_nx (g_at u N) N p) s V) fun p2 s2 V2 x _ => if g_ky (g_at u N) N p2 = 5 then .inr (g_nx (g_at u N) N p2, s2, V2, x, 0) else .inl p2)) := by
  have hnb := g_nxb (u := u) hp (by rw [hk0]; decide)
  refine x_Mt.of (by decide) (Nat.le_of_ble_eq_true rfl) ?_
  show x_W E M_PA_inParentheses _ _ 52 (g_pw u N h p s w A) 0 [(0, .ref 2), (1, .int (nI op))] [] 0 0
  refine x_aload_n d_PA_inParentheses_0 rfl rfl ?_
  refine x_get d_PA_inParentheses_1 f_PA_12 (Nat.le_of_ble_eq_true rfl) (Nat.le_of_ble_eq_true rfl) (by first | rfl | assumption) (by rfl) ?_
  refine x_callAdv h1 hu hN ok hp (by rw [hk0]; decide) d_PA_inParentheses_4 k_PA_56 (show 9 ≤ 2 * d + 13 by omega) (show 8 + 13 + 64 * 8 ≤ 64 * (2 * d + 13) by omega) (Nat.le_of_ble_eq_true rfl) (Nat.le_of_ble_eq_true rfl) (Nat.le_of_ble_eq_true rfl) rfl (fun c_4 => ?_) (fun c h' hx => g_Po_x (g_dd_bd (Or.inl (g_T12 c)) (fun _ _ _ _ z => Or.inl (if_neg (by rw [z]; decide)))) hx)
  refine x_aload_n d_PA_inParentheses_7 rfl rfl ?_
  refine x_sipush 1200 d_PA_inParentheses_8 (by decide) ?_
  refine x_iload_n d_PA_inParentheses_11 rfl rfl ?_
  refine x_iconst 1 d_PA_inParentheses_12 (by decide) ?_
  refine x_iadd d_PA_inParentheses_13 ?_
  refine x_topi (nI (op + 1)) (nI_succ op).symm ?_
  refine x_callV2P d_PA_inParentheses_14 k_PA_39 (Nat.le_of_ble_eq_true rfl) (Nat.le_of_ble_eq_true rfl) (by first | rfl | assumption) (by rfl) (hT 1200 (g_nx (g_at u N) N p) s w (op + 1) A V (by decide) ok hnb.2.1 (by omega) hw hV c_4 hop) (show 2 * d + 12 + 1 ≤ 2 * d + 13 by omega) (show 8 + (5 + 11) + 64 * (2 * d + 12) ≤ 64 * (2 * d + 13) by omega) (Nat.le_of_ble_eq_true rfl) (Nat.le_of_ble_eq_true rfl) (Nat.le_of_ble_eq_true rfl) rfl hnt (fun p2 s2 V2 x c2 A2 w2 j2 hr hk2 hj hw2 ok2 hRL => ?_) (fun q hd h' hx => g_Po_x (g_dd_bd hd (fun _ _ _ _ z => Or.inl (if_neg (by rw [z]; decide)))) hx)
  have b2 := g_Tb (u := u) d 1200 (g_nx (g_at u N) N p) s V (by decide) hnb.2.1 _ _ _ _ _ hr
  have hR : (g_bd (g_T (g_at u N) u N d 1200 (g_nx (g_at u N) N p) s V) fun p2 s2 V2 x _ => if g_ky (g_at u N) N p2 = 5 then .inr (g_nx (g_at u N) N p2, s2, V2, x, 0) else .inl p2) = (if g_ky (g_at u N) N p2 = 5 then .inr (g_nx (g_at u N) N p2, s2, V2, x, 0) else .inl p2) := by rw [hr]; rfl
  refine x_istore_n d_PA_inParentheses_17 rfl (Nat.le_of_ble_eq_true rfl) ?_
  refine x_aload_n d_PA_inParentheses_18 rfl rfl ?_
  refine x_get d_PA_inParentheses_19 f_PA_12 (Nat.le_of_ble_eq_true rfl) (Nat.le_of_ble_eq_true rfl) (by first | rfl | assumption) (by rfl) ?_
  refine x_gSN (i := 5) d_PA_inParentheses_22 (by decide) s_PA_143 ?_
  refine x_callV1B d_PA_inParentheses_25 k_PA_52 (Nat.le_of_ble_eq_true rfl) (Nat.le_of_ble_eq_true rfl) g_pw3 (by rfl) (w_SG_mustBe g_pw3 (g_sgk _ (g_kyL (u := u) b2.2.1)).2.2.1 (by decide)) (show 7 + 1 ≤ 2 * d + 13 by omega) (show 8 + (2 + 11) + 64 * (7) ≤ 64 * (2 * d + 13) by omega) (Nat.le_of_ble_eq_true rfl) (Nat.le_of_ble_eq_true rfl) (Nat.le_of_ble_eq_true rfl) rfl (fun c_25 => ?_) (fun c h' e => g_Po_x (Or.inl (hR.trans (if_neg (fun z => of_decide_eq_false c ((g_sgk _ (g_kyL (u := u) b2.2.1)).2.2.2.2.1.mpr z))))) ⟨rfl, rfl, rfl, rfl, _, _, _, _, _, _, _, _, ok2, fun i hi => (e i hi).trans (g_pw_up i hi)⟩)
  have hk5 := (g_sgk _ (g_kyL (u := u) b2.2.1)).2.2.2.2.1.mp (of_decide_eq_true c_25)
  refine x_aload_n d_PA_inParentheses_28 rfl rfl ?_
  refine x_get d_PA_inParentheses_29 f_PA_12 (Nat.le_of_ble_eq_true rfl) (Nat.le_of_ble_eq_true rfl) (by first | rfl | assumption) (by rfl) ?_
  refine x_callAdv h1 hu hN ok2 b2.2.1 hk2 d_PA_inParentheses_32 k_PA_56 (show 9 ≤ 2 * d + 13 by omega) (show 8 + 13 + 64 * 8 ≤ 64 * (2 * d + 13) by omega) (Nat.le_of_ble_eq_true rfl) (Nat.le_of_ble_eq_true rfl) (Nat.le_of_ble_eq_true rfl) rfl (fun c_32 => ?_) (fun c h' hx => g_Po_x (Or.inr ⟨_, _, _, _, hR.trans (if_pos hk5), c⟩) hx)
  refine x_iload_n d_PA_inParentheses_35 rfl rfl ?_
  exact x_ireturn d_PA_inParentheses_36 rfl rfl (g_Po_y (hR.trans (if_pos hk5)) c_32 hj hw2 ok2 hRL (fun _ _ => rfl))
