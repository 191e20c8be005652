theorem g_dgT {c : Int32} : c = c := rfl
theorem g_digNB : ∀ w, w < 256 → g_dig (nI w) = true → ¬ nI w = 37 ∧ g_blank (nI w) = false ∧ ¬ nI w < 0 := by decide +kernel
theorem g_nxdig {u : Nat → Nat} {N p : Nat} (hu : ∀ i, u i < 256) (h : g_dig (g_at u N (g_bh (g_at u N) N p)) = true) : g_nx (g_at u N) N p = g_bh (g_at u N) N p ∧ (g_ky (g_at u N) N (g_nx (g_at u N) N p) = 2 ∨ g_ky (g_at u N) N (g_nx (g_at u N) N p) = 12) := by
  have h0 : ¬ g_b2 (g_dig (g_at u N (g_bh (g_at u N) N p))) = 0 := by rw [h]; decide
  obtain ⟨q1, -, -, q4⟩ := g_digA hu h0
  have hd : g_dig (nI (u (g_bh (g_at u N) N p))) = true := by rw [← q4]; exact h
  obtain ⟨n1, n2, n3⟩ := g_digNB _ (hu _) hd
  have e : g_nx (g_at u N) N p = g_bh (g_at u N) N p := g_pl_stay (by rw [q4]; exact n1) (by rw [q4]; exact n2)
  refine ⟨e, ?_⟩
  rw [e]
  unfold g_ky g_tk
  rw [if_neg (by rw [q4]; exact n3), if_pos h]
  show (bif decide _ then 2 else 12) = 2 ∨ (bif decide _ then 2 else 12) = 12
  cases decide ((g_dg (g_at u N) (N - g_bh (g_at u N) N p) (g_bh (g_at u N) N p) (g_bh (g_at u N) N p) 0).2.2 < 9007199254740992)
  · exact Or.inr rfl
  · exact Or.inl rfl
theorem d_PA_variableOrInteger_0 : decode M_PA_variableOrInteger.2.1 0 = .ok (.iconst (-1), 1) := by decide +kernel
theorem d_PA_variableOrInteger_1 : decode M_PA_variableOrInteger.2.1 1 = .ok (.istore_n 1, 1) := by decide +kernel
theorem d_PA_variableOrInteger_2 : decode M_PA_variableOrInteger.2.1 2 = .ok (.aload_n 0, 1) := by decide +kernel
theorem d_PA_variableOrInteger_3 : decode M_PA_variableOrInteger.2.1 3 = .ok (.getfield 12, 3) := by decide +kernel
theorem d_PA_variableOrInteger_6 : decode M_PA_variableOrInteger.2.1 6 = .ok (.getfield 72, 3) := by decide +kernel
theorem d_PA_variableOrInteger_9 : decode M_PA_variableOrInteger.2.1 9 = .ok (.getstatic 177, 3) := by decide +kernel
theorem d_PA_variableOrInteger_12 : decode M_PA_variableOrInteger.2.1 12 = .ok (.if_acmp .ne 28, 3) := by decide +kernel
theorem d_PA_variableOrInteger_15 : decode M_PA_variableOrInteger.2.1 15 = .ok (.aload_n 0, 1) := by decide +kernel
theorem d_PA_variableOrInteger_16 : decode M_PA_variableOrInteger.2.1 16 = .ok (.getfield 21, 3) := by decide +kernel
theorem d_PA_variableOrInteger_19 : decode M_PA_variableOrInteger.2.1 19 = .ok (.aload_n 0, 1) := by decide +kernel
theorem d_PA_variableOrInteger_20 : decode M_PA_variableOrInteger.2.1 20 = .ok (.getfield 12, 3) := by decide +kernel
theorem d_PA_variableOrInteger_23 : decode M_PA_variableOrInteger.2.1 23 = .ok (.getfield 167, 3) := by decide +kernel
theorem d_PA_variableOrInteger_26 : decode M_PA_variableOrInteger.2.1 26 = .ok (.aload_n 0, 1) := by decide +kernel
theorem d_PA_variableOrInteger_27 : decode M_PA_variableOrInteger.2.1 27 = .ok (.getfield 12, 3) := by decide +kernel
theorem d_PA_variableOrInteger_30 : decode M_PA_variableOrInteger.2.1 30 = .ok (.getfield 170, 3) := by decide +kernel
theorem d_PA_variableOrInteger_33 : decode M_PA_variableOrInteger.2.1 33 = .ok (.invokevirtual 180, 3) := by decide +kernel
theorem d_PA_variableOrInteger_36 : decode M_PA_variableOrInteger.2.1 36 = .ok (.istore_n 1, 1) := by decide +kernel
theorem d_PA_variableOrInteger_37 : decode M_PA_variableOrInteger.2.1 37 = .ok (.goto 61, 3) := by decide +kernel
theorem d_PA_variableOrInteger_40 : decode M_PA_variableOrInteger.2.1 40 = .ok (.aload_n 0, 1) := by decide +kernel
theorem d_PA_variableOrInteger_41 : decode M_PA_variableOrInteger.2.1 41 = .ok (.getfield 12, 3) := by decide +kernel
theorem d_PA_variableOrInteger_44 : decode M_PA_variableOrInteger.2.1 44 = .ok (.getfield 72, 3) := by decide +kernel
theorem d_PA_variableOrInteger_47 : decode M_PA_variableOrInteger.2.1 47 = .ok (.getstatic 183, 3) := by decide +kernel
theorem d_PA_variableOrInteger_50 : decode M_PA_variableOrInteger.2.1 50 = .ok (.if_acmp .ne 12, 3) := by decide +kernel
theorem d_PA_variableOrInteger_53 : decode M_PA_variableOrInteger.2.1 53 = .ok (.aload_n 0, 1) := by decide +kernel
theorem d_PA_variableOrInteger_54 : decode M_PA_variableOrInteger.2.1 54 = .ok (.iconst 1, 1) := by decide +kernel
theorem d_PA_variableOrInteger_55 : decode M_PA_variableOrInteger.2.1 55 = .ok (.invokevirtual 137, 3) := by decide +kernel
theorem d_PA_variableOrInteger_58 : decode M_PA_variableOrInteger.2.1 58 = .ok (.istore_n 1, 1) := by decide +kernel
theorem d_PA_variableOrInteger_59 : decode M_PA_variableOrInteger.2.1 59 = .ok (.goto 39, 3) := by decide +kernel
theorem d_PA_variableOrInteger_62 : decode M_PA_variableOrInteger.2.1 62 = .ok (.aload_n 0, 1) := by decide +kernel
theorem d_PA_variableOrInteger_63 : decode M_PA_variableOrInteger.2.1 63 = .ok (.getfield 12, 3) := by decide +kernel
theorem d_PA_variableOrInteger_66 : decode M_PA_variableOrInteger.2.1 66 = .ok (.getfield 72, 3) := by decide +kernel
theorem d_PA_variableOrInteger_69 : decode M_PA_variableOrInteger.2.1 69 = .ok (.getstatic 99, 3) := by decide +kernel
theorem d_PA_variableOrInteger_72 : decode M_PA_variableOrInteger.2.1 72 = .ok (.if_acmp .ne 19, 3) := by decide +kernel
theorem d_PA_variableOrInteger_75 : decode M_PA_variableOrInteger.2.1 75 = .ok (.aload_n 0, 1) := by decide +kernel
theorem d_PA_variableOrInteger_76 : decode M_PA_variableOrInteger.2.1 76 = .ok (.getfield 12, 3) := by decide +kernel
theorem d_PA_variableOrInteger_79 : decode M_PA_variableOrInteger.2.1 79 = .ok (.invokevirtual 56, 3) := by decide +kernel
theorem d_PA_variableOrInteger_82 : decode M_PA_variableOrInteger.2.1 82 = .ok (.aload_n 0, 1) := by decide +kernel
theorem d_PA_variableOrInteger_83 : decode M_PA_variableOrInteger.2.1 83 = .ok (.iconst 2, 1) := by decide +kernel
theorem d_PA_variableOrInteger_84 : decode M_PA_variableOrInteger.2.1 84 = .ok (.invokevirtual 137, 3) := by decide +kernel
theorem d_PA_variableOrInteger_87 : decode M_PA_variableOrInteger.2.1 87 = .ok (.istore_n 1, 1) := by decide +kernel
theorem d_PA_variableOrInteger_88 : decode M_PA_variableOrInteger.2.1 88 = .ok (.goto 10, 3) := by decide +kernel
theorem d_PA_variableOrInteger_91 : decode M_PA_variableOrInteger.2.1 91 = .ok (.aload_n 0, 1) := by decide +kernel
theorem d_PA_variableOrInteger_92 : decode M_PA_variableOrInteger.2.1 92 = .ok (.getfield 12, 3) := by decide +kernel
theorem d_PA_variableOrInteger_95 : decode M_PA_variableOrInteger.2.1 95 = .ok (.invokevirtual 69, 3) := by decide +kernel
theorem d_PA_variableOrInteger_98 : decode M_PA_variableOrInteger.2.1 98 = .ok (.aload_n 0, 1) := by decide +kernel
theorem d_PA_variableOrInteger_99 : decode M_PA_variableOrInteger.2.1 99 = .ok (.getfield 12, 3) := by decide +kernel
theorem d_PA_variableOrInteger_102 : decode M_PA_variableOrInteger.2.1 102 = .ok (.invokevirtual 56, 3) := by decide +kernel
theorem d_PA_variableOrInteger_105 : decode M_PA_variableOrInteger.2.1 105 = .ok (.iload_n 1, 1) := by decide +kernel
theorem d_PA_variableOrInteger_106 : decode M_PA_variableOrInteger.2.1 106 = .ok (.ireturn, 1) := by decide +kernel
set_option maxRecDepth 20000 in
theorem w_PA_voi1 {E : xR} {h : xH} {u : Nat → Nat} {N p s w : Nat} {A : Nat → Nat → Int32} {V : List (Nat × Nat)} (h2 : h 2 = .inr (1, [.ref 3, .ref 5])) (h1 : h 1 = .inl (1, 4096, .inl (fun i => g_sb (u i)))) (hu : ∀ i, u i < 256) (hN : N ≤ 4096) (hnt : ¬ x_tg E) (ok : g_okA A) (hp : p ≤ N) (hsp : s ≤ p) (hw : w ≤ 1000) (hV : s ≤ 1000 → g_VI A s w V) (hk0 : (g_ky (g_at u N) N p) = 1) : x_Mt E M_PA_variableOrInteger 9 1 6 [.ref 2] 52 (g_pw u N h p s w A) (g_Po u N h A s (.inr ((g_nx (g_at u N) N p), s + 1, g_vV u V (g_fr (g_at u N) N p) (g_to (g_at u N) N p), (g_lb 0 (g_vr u V (g_fr (g_at u N) N p) (g_to (g_at u N) N p)) 0, g_nil), 0))) := by
  obtain ⟨hft, htN, -, -⟩ := (g_tkb (u := u) hp).2.1 (show (g_tk (g_at u N) N p).1 ≠ 12 from fun z => absurd (hk0.symm.trans z) (by decide))
  have hft : (g_fr (g_at u N) N p) ≤ (g_to (g_at u N) N p) := hft
  have htN : (g_to (g_at u N) N p) ≤ N := htN
  have hsg : g_sg (g_ky (g_at u N) N p) < 12 := by rw [hk0]; decide
  refine x_Mt.of (by decide) (Nat.le_of_ble_eq_true rfl) ?_
  show x_W E M_PA_variableOrInteger _ _ 52 (g_pw u N h p s w A) 0 [(0, .ref 2)] [] 0 0
  refine x_iconst (-1) d_PA_variableOrInteger_0 (by decide) ?_
  refine x_istore_n d_PA_variableOrInteger_1 rfl (Nat.le_of_ble_eq_true rfl) ?_
  refine x_aload_n d_PA_variableOrInteger_2 rfl rfl ?_
  refine x_get d_PA_variableOrInteger_3 f_PA_12 (Nat.le_of_ble_eq_true rfl) (Nat.le_of_ble_eq_true rfl) (by first | rfl | assumption) (by rfl) ?_
  refine x_get d_PA_variableOrInteger_6 f_PA_72 (Nat.le_of_ble_eq_true rfl) (Nat.le_of_ble_eq_true rfl) (by first | rfl | assumption) (by rfl) ?_
  refine x_gSN (i := 0) d_PA_variableOrInteger_9 (by decide) s_PA_177 ?_
  refine x_acmp_ne 40 d_PA_variableOrInteger_12 (by decide) (Or.inl ⟨rfl, rfl⟩) (by first | assumption | decide | omega) (by first | assumption | decide | omega) (fun z => absurd (show g_sg (g_ky (g_at u N) N p) = 0 by rw [hk0]; rfl) z) (fun _ => ?_)
  refine x_aload_n d_PA_variableOrInteger_15 rfl rfl ?_
  refine x_get d_PA_variableOrInteger_16 f_PA_21 (Nat.le_of_ble_eq_true rfl) (Nat.le_of_ble_eq_true rfl) (by first | rfl | assumption) (by rfl) ?_
  refine x_aload_n d_PA_variableOrInteger_19 rfl rfl ?_
  refine x_get d_PA_variableOrInteger_20 f_PA_12 (Nat.le_of_ble_eq_true rfl) (Nat.le_of_ble_eq_true rfl) (by first | rfl | assumption) (by rfl) ?_
  refine x_get d_PA_variableOrInteger_23 f_PA_167 (Nat.le_of_ble_eq_true rfl) (Nat.le_of_ble_eq_true rfl) (by first | rfl | assumption) (by rfl) ?_
  refine x_aload_n d_PA_variableOrInteger_26 rfl rfl ?_
  refine x_get d_PA_variableOrInteger_27 f_PA_12 (Nat.le_of_ble_eq_true rfl) (Nat.le_of_ble_eq_true rfl) (by first | rfl | assumption) (by rfl) ?_
  refine x_get d_PA_variableOrInteger_30 f_PA_170 (Nat.le_of_ble_eq_true rfl) (Nat.le_of_ble_eq_true rfl) (by first | rfl | assumption) (by rfl) ?_
  refine x_callV2Y d_PA_variableOrInteger_33 k_PA_180 (Nat.le_of_ble_eq_true rfl) (Nat.le_of_ble_eq_true rfl) (by first | rfl | assumption) (by rfl) (w_TE_addVariable h1 hu ok (by omega) hw hft (by omega)) (Nat.le_of_ble_eq_true rfl) (Nat.le_of_ble_eq_true rfl) (Nat.le_of_ble_eq_true rfl) (Nat.le_of_ble_eq_true rfl) (Nat.le_of_ble_eq_true rfl) rfl ?_
  refine x_istore_n d_PA_variableOrInteger_36 rfl (Nat.le_of_ble_eq_true rfl) ?_
  refine x_goto 98 d_PA_variableOrInteger_37 (by decide) ?_
  refine x_aload_n d_PA_variableOrInteger_98 rfl rfl ?_
  refine x_get d_PA_variableOrInteger_99 f_PA_12 (Nat.le_of_ble_eq_true rfl) (Nat.le_of_ble_eq_true rfl) (by first | rfl | assumption) (by rfl) ?_
  refine x_callAdv h1 hu hN (g_okav ok hft (by omega)) hp (by rw [hk0]; decide) d_PA_variableOrInteger_102 k_PA_56 (Nat.le_of_ble_eq_true rfl) (Nat.le_of_ble_eq_true rfl) (Nat.le_of_ble_eq_true rfl) (Nat.le_of_ble_eq_true rfl) (Nat.le_of_ble_eq_true rfl) rfl (fun c_102 => ?_) (fun c h' hx => g_Po_x (Or.inr ⟨_, _, _, _, rfl, c⟩) hx)
  refine x_iload_n d_PA_variableOrInteger_105 rfl rfl ?_
  exact x_ireturn d_PA_variableOrInteger_106 rfl rfl (g_Po_y rfl c_102 (g_nodL s) (g_avWL hw) (g_okav ok hft (by omega)) (g_var hV hft (by omega)) (fun _ _ => rfl))
set_option maxRecDepth 20000 in
theorem w_PA_voi2 {E : xR} {h : xH} {u : Nat → Nat} {N p s w : Nat} {A : Nat → Nat → Int32} {V : List (Nat × Nat)} (h2 : h 2 = .inr (1, [.ref 3, .ref 5])) (h1 : h 1 = .inl (1, 4096, .inl (fun i => g_sb (u i)))) (hu : ∀ i, u i < 256) (hN : N ≤ 4096) (hnt : ¬ x_tg E) (ok : g_okA A) (hp : p ≤ N) (hsp : s ≤ p) (hw : w ≤ 1000) (hV : s ≤ 1000 → g_VI A s w V) (hk0 : (g_ky (g_at u N) N p) = 2) : x_Mt E M_PA_variableOrInteger 9 1 6 [.ref 2] 52 (g_pw u N h p s w A) (g_Po u N h A s (.inr ((g_nx (g_at u N) N p), s + 1, V, (g_lb 1 (g_fr (g_at u N) N p) (g_to (g_at u N) N p), g_nil), 0))) := by
  obtain ⟨hft, htN, -, -⟩ := (g_tkb (u := u) hp).2.1 (show (g_tk (g_at u N) N p).1 ≠ 12 from fun z => absurd (hk0.symm.trans z) (by decide))
  have hft : (g_fr (g_at u N) N p) ≤ (g_to (g_at u N) N p) := hft
  have htN : (g_to (g_at u N) N p) ≤ N := htN
  have hsg : g_sg (g_ky (g_at u N) N p) < 12 := by rw [hk0]; decide
  refine x_Mt.of (by decide) (Nat.le_of_ble_eq_true rfl) ?_
  show x_W E M_PA_variableOrInteger _ _ 52 (g_pw u N h p s w A) 0 [(0, .ref 2)] [] 0 0
  refine x_iconst (-1) d_PA_variableOrInteger_0 (by decide) ?_
  refine x_istore_n d_PA_variableOrInteger_1 rfl (Nat.le_of_ble_eq_true rfl) ?_
  refine x_aload_n d_PA_variableOrInteger_2 rfl rfl ?_
  refine x_get d_PA_variableOrInteger_3 f_PA_12 (Nat.le_of_ble_eq_true rfl) (Nat.le_of_ble_eq_true rfl) (by first | rfl | assumption) (by rfl) ?_
  refine x_get d_PA_variableOrInteger_6 f_PA_72 (Nat.le_of_ble_eq_true rfl) (Nat.le_of_ble_eq_true rfl) (by first | rfl | assumption) (by rfl) ?_
  refine x_gSN (i := 0) d_PA_variableOrInteger_9 (by decide) s_PA_177 ?_
  refine x_acmp_ne 40 d_PA_variableOrInteger_12 (by decide) (Or.inl ⟨rfl, rfl⟩) (by first | assumption | decide | omega) (by first | assumption | decide | omega) (fun _ => ?_) (fun z => absurd z (show ¬ g_sg (g_ky (g_at u N) N p) = 0 by rw [hk0]; decide))
  refine x_aload_n d_PA_variableOrInteger_40 rfl rfl ?_
  refine x_get d_PA_variableOrInteger_41 f_PA_12 (Nat.le_of_ble_eq_true rfl) (Nat.le_of_ble_eq_true rfl) (by first | rfl | assumption) (by rfl) ?_
  refine x_get d_PA_variableOrInteger_44 f_PA_72 (Nat.le_of_ble_eq_true rfl) (Nat.le_of_ble_eq_true rfl) (by first | rfl | assumption) (by rfl) ?_
  refine x_gSN (i := 1) d_PA_variableOrInteger_47 (by decide) s_PA_183 ?_
  refine x_acmp_ne 62 d_PA_variableOrInteger_50 (by decide) (Or.inl ⟨rfl, rfl⟩) (by first | assumption | decide | omega) (by first | assumption | decide | omega) (fun z => absurd (show g_sg (g_ky (g_at u N) N p) = 1 by rw [hk0]; rfl) z) (fun _ => ?_)
  refine x_aload_n d_PA_variableOrInteger_53 rfl rfl ?_
  refine x_iconst 1 d_PA_variableOrInteger_54 (by decide) ?_
  refine x_callV1Y d_PA_variableOrInteger_55 k_PA_137 (Nat.le_of_ble_eq_true rfl) (Nat.le_of_ble_eq_true rfl) (by first | rfl | assumption) (by rfl) (w_PA_addSymbol h2 (by omega)) (Nat.le_of_ble_eq_true rfl) (Nat.le_of_ble_eq_true rfl) (Nat.le_of_ble_eq_true rfl) (Nat.le_of_ble_eq_true rfl) (Nat.le_of_ble_eq_true rfl) rfl ?_
  refine x_istore_n d_PA_variableOrInteger_58 rfl (Nat.le_of_ble_eq_true rfl) ?_
  refine x_goto 98 d_PA_variableOrInteger_59 (by decide) ?_
  refine x_aload_n d_PA_variableOrInteger_98 rfl rfl ?_
  refine x_get d_PA_variableOrInteger_99 f_PA_12 (Nat.le_of_ble_eq_true rfl) (Nat.le_of_ble_eq_true rfl) (by first | rfl | assumption) (by rfl) ?_
  refine x_callAdv h1 hu hN (g_okadd ok _ hft (by omega)) hp (by rw [hk0]; decide) d_PA_variableOrInteger_102 k_PA_56 (Nat.le_of_ble_eq_true rfl) (Nat.le_of_ble_eq_true rfl) (Nat.le_of_ble_eq_true rfl) (Nat.le_of_ble_eq_true rfl) (Nat.le_of_ble_eq_true rfl) rfl (fun c_102 => ?_) (fun c h' hx => g_Po_x (Or.inr ⟨_, _, _, _, rfl, c⟩) hx)
  refine x_iload_n d_PA_variableOrInteger_105 rfl rfl ?_
  exact x_ireturn d_PA_variableOrInteger_106 rfl rfl (g_Po_y rfl c_102 (g_nodL s) hw (g_okadd ok _ hft (by omega)) (g_leaf (L := g_lb 1 (g_fr (g_at u N) N p) (g_to (g_at u N) N p)) (by rw [g_lb1 (by decide)]; rfl) (by rw [g_lb1 (by decide)]; decide) (fun _ => by rw [g_lb2 (by decide) (by omega), g_lb3 (by decide) (by omega)]; exact ⟨rfl, rfl⟩) hV) (fun _ _ => rfl))
set_option maxRecDepth 20000 in
theorem w_PA_voi3 {E : xR} {h : xH} {u : Nat → Nat} {N p s w : Nat} {A : Nat → Nat → Int32} {V : List (Nat × Nat)} (h2 : h 2 = .inr (1, [.ref 3, .ref 5])) (h1 : h 1 = .inl (1, 4096, .inl (fun i => g_sb (u i)))) (hu : ∀ i, u i < 256) (hN : N ≤ 4096) (hnt : ¬ x_tg E) (ok : g_okA A) (hp : p ≤ N) (hsp : s ≤ p) (hw : w ≤ 1000) (hV : s ≤ 1000 → g_VI A s w V) (hk0 : (g_ky (g_at u N) N p) = 3) (hd0 : g_dig (g_at u N (g_bh (g_at u N) N p)) = true) : x_Mt E M_PA_variableOrInteger 9 1 6 [.ref 2] 52 (g_pw u N h p s w A) (g_Po u N h A s (if (g_ky (g_at u N) N (g_nx (g_at u N) N p)) = 2 then .inr ((g_nx (g_at u N) N (g_nx (g_at u N) N p)), s + 1, V, (g_lb 2 (g_fr (g_at u N) N (g_nx (g_at u N) N p)) (g_to (g_at u N) N (g_nx (g_at u N) N p)), g_nil), 0) else .inl (g_nx (g_at u N) N p))) := by
  have hsg : g_sg (g_ky (g_at u N) N p) < 12 := by rw [hk0]; decide
  have hnb := g_nxb (u := u) hp (by rw [hk0]; decide)
  have hdd := (g_nxdig hu hd0).2
  refine x_Mt.of (by decide) (Nat.le_of_ble_eq_true rfl) ?_
  show x_W E M_PA_variableOrInteger _ _ 52 (g_pw u N h p s w A) 0 [(0, .ref 2)] [] 0 0
  refine x_iconst (-1) d_PA_variableOrInteger_0 (by decide) ?_
  refine x_istore_n d_PA_variableOrInteger_1 rfl (Nat.le_of_ble_eq_true rfl) ?_
  refine x_aload_n d_PA_variableOrInteger_2 rfl rfl ?_
  refine x_get d_PA_variableOrInteger_3 f_PA_12 (Nat.le_of_ble_eq_true rfl) (Nat.le_of_ble_eq_true rfl) (by first | rfl | assumption) (by rfl) ?_
  refine x_get d_PA_variableOrInteger_6 f_PA_72 (Nat.le_of_ble_eq_true rfl) (Nat.le_of_ble_eq_true rfl) (by first | rfl | assumption) (by rfl) ?_
  refine x_gSN (i := 0) d_PA_variableOrInteger_9 (by decide) s_PA_177 ?_
  refine x_acmp_ne 40 d_PA_variableOrInteger_12 (by decide) (Or.inl ⟨rfl, rfl⟩) (by first | assumption | decide | omega) (by first | assumption | decide | omega) (fun _ => ?_) (fun z => absurd z (show ¬ g_sg (g_ky (g_at u N) N p) = 0 by rw [hk0]; decide))
  refine x_aload_n d_PA_variableOrInteger_40 rfl rfl ?_
  refine x_get d_PA_variableOrInteger_41 f_PA_12 (Nat.le_of_ble_eq_true rfl) (Nat.le_of_ble_eq_true rfl) (by first | rfl | assumption) (by rfl) ?_
  refine x_get d_PA_variableOrInteger_44 f_PA_72 (Nat.le_of_ble_eq_true rfl) (Nat.le_of_ble_eq_true rfl) (by first | rfl | assumption) (by rfl) ?_
  refine x_gSN (i := 1) d_PA_variableOrInteger_47 (by decide) s_PA_183 ?_
  refine x_acmp_ne 62 d_PA_variableOrInteger_50 (by decide) (Or.inl ⟨rfl, rfl⟩) (by first | assumption | decide | omega) (by first | assumption | decide | omega) (fun _ => ?_) (fun z => absurd z (show ¬ g_sg (g_ky (g_at u N) N p) = 1 by rw [hk0]; decide))
  refine x_aload_n d_PA_variableOrInteger_62 rfl rfl ?_
  refine x_get d_PA_variableOrInteger_63 f_PA_12 (Nat.le_of_ble_eq_true rfl) (Nat.le_of_ble_eq_true rfl) (by first | rfl | assumption) (by rfl) ?_
  refine x_get d_PA_variableOrInteger_66 f_PA_72 (Nat.le_of_ble_eq_true rfl) (Nat.le_of_ble_eq_true rfl) (by first | rfl | assumption) (by rfl) ?_
  refine x_gSN (i := 2) d_PA_variableOrInteger_69 (by decide) s_PA_99 ?_
  refine x_acmp_ne 91 d_PA_variableOrInteger_72 (by decide) (Or.inl ⟨rfl, rfl⟩) (by first | assumption | decide | omega) (by first | assumption | decide | omega) (fun z => absurd (show g_sg (g_ky (g_at u N) N p) = 2 by rw [hk0]; rfl) z) (fun _ => ?_)
  refine x_aload_n d_PA_variableOrInteger_75 rfl rfl ?_
  refine x_get d_PA_variableOrInteger_76 f_PA_12 (Nat.le_of_ble_eq_true rfl) (Nat.le_of_ble_eq_true rfl) (by first | rfl | assumption) (by rfl) ?_
  refine x_callAdv h1 hu hN ok hp (by rw [hk0]; decide) d_PA_variableOrInteger_79 k_PA_56 (Nat.le_of_ble_eq_true rfl) (Nat.le_of_ble_eq_true rfl) (Nat.le_of_ble_eq_true rfl) (Nat.le_of_ble_eq_true rfl) (Nat.le_of_ble_eq_true rfl) rfl (fun c_79 => ?_) (fun c h' hx => g_Po_x (Or.inl (by rw [if_neg (by rw [c]; decide)])) hx)
  have hk2 : (g_ky (g_at u N) N (g_nx (g_at u N) N p)) = 2 := hdd.resolve_right c_79
  obtain ⟨hft, htN, -, -⟩ := (g_tkb (u := u) hnb.2.1).2.1 (show (g_tk (g_at u N) N (g_nx (g_at u N) N p)).1 ≠ 12 from c_79)
  have hft : (g_fr (g_at u N) N (g_nx (g_at u N) N p)) ≤ (g_to (g_at u N) N (g_nx (g_at u N) N p)) := hft
  have htN : (g_to (g_at u N) N (g_nx (g_at u N) N p)) ≤ N := htN
  rw [if_pos hk2]
  refine x_aload_n d_PA_variableOrInteger_82 rfl rfl ?_
  refine x_iconst 2 d_PA_variableOrInteger_83 (by decide) ?_
  refine x_callV1Y d_PA_variableOrInteger_84 k_PA_137 (Nat.le_of_ble_eq_true rfl) (Nat.le_of_ble_eq_true rfl) (by first | rfl | assumption) (by rfl) (w_PA_addSymbol h2 (by omega)) (Nat.le_of_ble_eq_true rfl) (Nat.le_of_ble_eq_true rfl) (Nat.le_of_ble_eq_true rfl) (Nat.le_of_ble_eq_true rfl) (Nat.le_of_ble_eq_true rfl) rfl ?_
  refine x_istore_n d_PA_variableOrInteger_87 rfl (Nat.le_of_ble_eq_true rfl) ?_
  refine x_goto 98 d_PA_variableOrInteger_88 (by decide) ?_
  refine x_aload_n d_PA_variableOrInteger_98 rfl rfl ?_
  refine x_get d_PA_variableOrInteger_99 f_PA_12 (Nat.le_of_ble_eq_true rfl) (Nat.le_of_ble_eq_true rfl) (by first | rfl | assumption) (by rfl) ?_
  refine x_callAdv h1 hu hN (g_okadd ok _ hft (by omega)) hnb.2.1 c_79 d_PA_variableOrInteger_102 k_PA_56 (Nat.le_of_ble_eq_true rfl) (Nat.le_of_ble_eq_true rfl) (Nat.le_of_ble_eq_true rfl) (Nat.le_of_ble_eq_true rfl) (Nat.le_of_ble_eq_true rfl) rfl (fun c_102 => ?_) (fun c h' hx => g_Po_x (Or.inr ⟨_, _, _, _, rfl, c⟩) hx)
  refine x_iload_n d_PA_variableOrInteger_105 rfl rfl ?_
  exact x_ireturn d_PA_variableOrInteger_106 rfl rfl (g_Po_y rfl c_102 (g_nodL s) hw (g_okadd ok _ hft (by omega)) (g_leaf (L := g_lb 2 (g_fr (g_at u N) N (g_nx (g_at u N) N p)) (g_to (g_at u N) N (g_nx (g_at u N) N p))) (by rw [g_lb1 (by decide)]; rfl) (by rw [g_lb1 (by decide)]; decide) (fun _ => by rw [g_lb2 (by decide) (by omega), g_lb3 (by decide) (by omega)]; exact ⟨rfl, rfl⟩) hV) (fun _ _ => rfl))
set_option maxRecDepth 20000 in
theorem w_PA_voi0 {E : xR} {h : xH} {u : Nat → Nat} {N p s w : Nat} {A : Nat → Nat → Int32} {V : List (Nat × Nat)} (h2 : h 2 = .inr (1, [.ref 3, .ref 5])) (h1 : h 1 = .inl (1, 4096, .inl (fun i => g_sb (u i)))) (hu : ∀ i, u i < 256) (hN : N ≤ 4096) (hnt : ¬ x_tg E) (ok : g_okA A) (hp : p ≤ N) (hsp : s ≤ p) (hw : w ≤ 1000) (hV : s ≤ 1000 → g_VI A s w V) (hk12 : ¬ (g_ky (g_at u N) N p) = 12) (hn1 : ¬ (g_ky (g_at u N) N p) = 1) (hn2 : ¬ (g_ky (g_at u N) N p) = 2) (hn3 : ¬ (g_ky (g_at u N) N p) = 3) : x_Mt E M_PA_variableOrInteger 9 1 6 [.ref 2] 52 (g_pw u N h p s w A) (g_Po u N h A s (.inl p)) := by
  have hsk := g_sgk _ (g_kyL (u := u) hp)
  have hsg : g_sg (g_ky (g_at u N) N p) < 12 := hsk.2.2.1
  refine x_Mt.of (by decide) (Nat.le_of_ble_eq_true rfl) ?_
  show x_W E M_PA_variableOrInteger _ _ 52 (g_pw u N h p s w A) 0 [(0, .ref 2)] [] 0 0
  refine x_iconst (-1) d_PA_variableOrInteger_0 (by decide) ?_
  refine x_istore_n d_PA_variableOrInteger_1 rfl (Nat.le_of_ble_eq_true rfl) ?_
  refine x_aload_n d_PA_variableOrInteger_2 rfl rfl ?_
  refine x_get d_PA_variableOrInteger_3 f_PA_12 (Nat.le_of_ble_eq_true rfl) (Nat.le_of_ble_eq_true rfl) (by first | rfl | assumption) (by rfl) ?_
  refine x_get d_PA_variableOrInteger_6 f_PA_72 (Nat.le_of_ble_eq_true rfl) (Nat.le_of_ble_eq_true rfl) (by first | rfl | assumption) (by rfl) ?_
  refine x_gSN (i := 0) d_PA_variableOrInteger_9 (by decide) s_PA_177 ?_
  refine x_acmp_ne 40 d_PA_variableOrInteger_12 (by decide) (Or.inl ⟨rfl, rfl⟩) (by first | assumption | decide | omega) (by first | assumption | decide | omega) (fun _ => ?_) (fun z => absurd z (fun z => hn1 (hsk.2.2.2.2.2.2.2.2.1.mp z)))
  refine x_aload_n d_PA_variableOrInteger_40 rfl rfl ?_
  refine x_get d_PA_variableOrInteger_41 f_PA_12 (Nat.le_of_ble_eq_true rfl) (Nat.le_of_ble_eq_true rfl) (by first | rfl | assumption) (by rfl) ?_
  refine x_get d_PA_variableOrInteger_44 f_PA_72 (Nat.le_of_ble_eq_true rfl) (Nat.le_of_ble_eq_true rfl) (by first | rfl | assumption) (by rfl) ?_
  refine x_gSN (i := 1) d_PA_variableOrInteger_47 (by decide) s_PA_183 ?_
  refine x_acmp_ne 62 d_PA_variableOrInteger_50 (by decide) (Or.inl ⟨rfl, rfl⟩) (by first | assumption | decide | omega) (by first | assumption | decide | omega) (fun _ => ?_) (fun z => absurd z (fun z => hn2 (hsk.2.2.2.2.2.2.2.2.2.1.mp z)))
  refine x_aload_n d_PA_variableOrInteger_62 rfl rfl ?_
  refine x_get d_PA_variableOrInteger_63 f_PA_12 (Nat.le_of_ble_eq_true rfl) (Nat.le_of_ble_eq_true rfl) (by first | rfl | assumption) (by rfl) ?_
  refine x_get d_PA_variableOrInteger_66 f_PA_72 (Nat.le_of_ble_eq_true rfl) (Nat.le_of_ble_eq_true rfl) (by first | rfl | assumption) (by rfl) ?_
  refine x_gSN (i := 2) d_PA_variableOrInteger_69 (by decide) s_PA_99 ?_
  refine x_acmp_ne 91 d_PA_variableOrInteger_72 (by decide) (Or.inl ⟨rfl, rfl⟩) (by first | assumption | decide | omega) (by first | assumption | decide | omega) (fun _ => ?_) (fun z => absurd z (fun z => hn3 (hsk.2.1.mp z)))
  refine x_aload_n d_PA_variableOrInteger_91 rfl rfl ?_
  refine x_get d_PA_variableOrInteger_92 f_PA_12 (Nat.le_of_ble_eq_true rfl) (Nat.le_of_ble_eq_true rfl) (by first | rfl | assumption) (by rfl) ?_
  exact x_callV0X d_PA_variableOrInteger_95 k_PA_69 (Nat.le_of_ble_eq_true rfl) (Nat.le_of_ble_eq_true rfl) g_pw3 (by rfl) (w_SG_breakHere g_pw3) (Nat.le_of_ble_eq_true rfl) (Nat.le_of_ble_eq_true rfl) (Nat.le_of_ble_eq_true rfl) (Nat.le_of_ble_eq_true rfl) (Nat.le_of_ble_eq_true rfl) rfl (fun h' e => ⟨rfl, rfl, rfl, rfl, _, _, _, _, _, _, _, A, ok, fun i hi => (e i hi).trans (g_pw_up i hi)⟩)
