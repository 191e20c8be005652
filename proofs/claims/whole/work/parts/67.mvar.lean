theorem g_tkWo1 {u : Nat → Nat} {N p : Nat} (hu : ∀ i, u i < 256) (hp : p < N) (hk : g_ky (g_at u N) N p = 1) : g_tk (g_at u N) N p = (1, p, g_run g_word (g_at u N) (N - p) p, g_run g_word (g_at u N) (N - p) p) ∧ g_word (g_at u N p) = true := by
  have hc := g_cls (u p) (hu p)
  rw [← g_atI hp] at hc
  unfold g_ky at hk
  cases hs : (g_small (g_at u N p) || g_gr (g_at u N p)) with
  | true =>
    have hT := g_tkWo hu hp hs
    rw [hT] at hk
    have hk : (bif g_gr (g_at u N p) then 1 else 3) = 1 := hk
    cases hg : g_gr (g_at u N p) with
    | true => rw [hT, hg]; exact ⟨rfl, (hc.2.2.2.2 hg).2.2.2⟩
    | false => rw [hg] at hk; cases hk
  | false =>
    exfalso
    cases hd : g_dig (g_at u N p) with
    | true =>
      rw [g_tkDg hu hp hd] at hk
      have hk : (bif decide ((g_dg (g_at u N) (N - p) p p 0).2.2 < 9007199254740992) then 2 else 12) = 1 := hk
      cases hq : decide ((g_dg (g_at u N) (N - p) p p 0).2.2 < 9007199254740992) <;> rw [hq] at hk <;> cases hk
    | false =>
      by_cases h39 : g_at u N p = 39
      · rw [g_tkQu hu hp h39] at hk
        have hk : (bif !decide (g_qt (g_at u N) (N - p) (p + 1) = 0) then 3 else 12) = 1 := hk
        cases hq : decide (g_qt (g_at u N) (N - p) (p + 1) = 0) <;> rw [hq] at hk <;> cases hk
      · cases hy : g_symb (g_at u N p) with
        | true =>
          rw [g_tkSy hu hp hy] at hk
          have hk : (bif g_endb (g_at u N) p (g_run g_symb (g_at u N) (N - p) p) then 0 else 3) = 1 := hk
          cases hq : g_endb (g_at u N) p (g_run g_symb (g_at u N) (N - p) p) <;> rw [hq] at hk <;> cases hk
        | false =>
          rw [g_tkSo hu hp hs hd h39 hy] at hk
          have hk : (bif decide (g_at u N p = 91) && decide (g_at u N (p + 1) = 93) then 3 else g_solo (g_at u N p)) = 1 := hk
          cases hq : decide (g_at u N p = 91) && decide (g_at u N (p + 1) = 93) with
          | true => rw [hq] at hk; cases hk
          | false => rw [hq] at hk; exact (g_solo1 _).1 hk
theorem g_tk1 {u : Nat → Nat} {N p : Nat} (hu : ∀ i, u i < 256) (hp : p ≤ N) (hk : g_ky (g_at u N) N p = 1) : g_fr (g_at u N) N p < g_to (g_at u N) N p ∧ g_to (g_at u N) N p ≤ N := by
  have hb := (g_tkb (u := u) hp).2.1 (show (g_tk (g_at u N) N p).1 ≠ 12 by show g_ky (g_at u N) N p ≠ 12; omega)
  have h1 : g_to (g_at u N) N p ≤ N := hb.2.1
  refine ⟨?_, h1⟩
  have hpN : p < N := by
    rcases Nat.lt_or_ge p N with q | q
    · exact q
    · exfalso
      unfold g_ky g_tk at hk
      rw [if_pos (by rw [g_at_out q]; decide)] at hk
      cases hk
  have hT := g_tkWo1 hu hpN hk
  have e1 : g_fr (g_at u N) N p = p := by unfold g_fr; rw [hT.1]
  have e2 : g_to (g_at u N) N p = g_run g_word (g_at u N) (N - p) p := by unfold g_to; rw [hT.1]
  rw [e1, e2]
  exact g_run_lt hT.2 (by omega)
theorem g_ut1 {u : Nat → Nat} {N p : Nat} (hu : ∀ i, u i < 256) (hp : p ≤ N) (hk : g_ky (g_at u N) N p = 1) : g_ut u (g_fr (g_at u N) N p) (g_to (g_at u N) N p) = g_tp u (g_to (g_at u N) N p - g_fr (g_at u N) N p) (g_fr (g_at u N) N p) := by
  have hl := g_tk1 hu hp hk
  have hpN : p < N := by
    rcases Nat.lt_or_ge p N with q | q
    · exact q
    · exfalso
      unfold g_ky g_tk at hk
      rw [if_pos (by rw [g_at_out q]; decide)] at hk
      cases hk
  have hT := g_tkWo1 hu hpN hk
  have e1 : g_fr (g_at u N) N p = p := by unfold g_fr; rw [hT.1]
  have e2 : g_to (g_at u N) N p = g_run g_word (g_at u N) (N - p) p := by unfold g_to; rw [hT.1]
  rw [e1, e2]
  exact g_utRun hu (by decide) hp
/-- the names behind a variable's sign -/
def g_vT (u : Nat → Nat) (T : List (List Int32)) (f t : Nat) : List (List Int32) := bif g_nl u f t then T else g_nT T (g_tp u (t - f) f)
theorem g_vfN {u : Nat → Nat} {f t : Nat} : ∀ (V : List (Nat × Nat)) (i : Nat), (∀ j (h : j < V.length), g_same u V[j].1 V[j].2 f t = false) → g_vf u f t V i = i + V.length
  | [], i, _ => rfl
  | q :: l, i, h => by
    rw [g_vf, show g_same u q.1 q.2 f t = false from h 0 (by rw [List.length_cons]; omega)]
    show g_vf u f t l (i + 1) = _
    rw [g_vfN l (i + 1) (fun j hj => h (j + 1) (by rw [List.length_cons]; omega)), List.length_cons]
    omega
theorem g_vfS {u : Nat → Nat} {f t : Nat} : ∀ (V : List (Nat × Nat)) (i k : Nat) (hk : k < V.length), (∀ j (h : j < V.length), j < k → g_same u V[j].1 V[j].2 f t = false) → g_same u V[k].1 V[k].2 f t = true → g_vf u f t V i = i + k
  | [], i, k, hk, _, _ => by cases hk
  | q :: l, i, 0, hk, h, hs => by
    rw [g_vf]
    have hs : g_same u q.1 q.2 f t = true := hs
    rw [hs]; rfl
  | q :: l, i, k + 1, hk, h, hs => by
    rw [g_vf, show g_same u q.1 q.2 f t = false from h 0 (by rw [List.length_cons]; omega) (by omega)]
    show g_vf u f t l (i + 1) = _
    rw [g_vfS l (i + 1) k (by rw [List.length_cons] at hk; omega) (fun j hj hjk => h (j + 1) (by rw [List.length_cons]; omega) (by omega)) hs]
    omega
theorem g_uqM : ∀ (l : List Int32) (c : Int32), c ∈ g_uq l → c ∈ l
  | [], c, h => h
  | [a], c, h => h
  | a :: b :: l, c, h => by
    rw [g_uq] at h
    by_cases q : a = 39 ∧ b = 39
    · rw [if_pos q] at h
      rcases List.mem_cons.mp h with e | e
      · rw [e, q.1]; exact List.mem_cons_self
      · exact List.mem_cons_of_mem _ (List.mem_cons_of_mem _ (g_uqM l c e))
    · rw [if_neg q] at h
      rcases List.mem_cons.mp h with e | e
      · rw [e]; exact List.mem_cons_self
      · exact List.mem_cons_of_mem _ (g_uqM (b :: l) c e)
theorem g_utB {u : Nat → Nat} (hu : ∀ i, u i < 256) {f t : Nat} : ∀ i (h : i < (g_ut u f t).length), vp_nar .byte (g_ut u f t)[i] = (g_ut u f t)[i] := by
  intro i h
  obtain ⟨k, -, e⟩ := g_tpM _ _ (g_uqM _ _ (List.getElem_mem h))
  have e : (g_ut u f t)[i] = g_sb (u (f + k)) := e
  rw [e]
  exact g_nb9 _ (hu _)
theorem d_RD_variable_0 : decode M_RD_variable.2.1 0 = .ok (.iconst (-1), 1) := by decide +kernel
theorem d_RD_variable_1 : decode M_RD_variable.2.1 1 = .ok (.istore_n 1, 1) := by decide +kernel
theorem d_RD_variable_2 : decode M_RD_variable.2.1 2 = .ok (.aload_n 0, 1) := by decide +kernel
theorem d_RD_variable_3 : decode M_RD_variable.2.1 3 = .ok (.getfield 139, 3) := by decide +kernel
theorem d_RD_variable_6 : decode M_RD_variable.2.1 6 = .ok (.iconst 1, 1) := by decide +kernel
theorem d_RD_variable_7 : decode M_RD_variable.2.1 7 = .ok (.if_icmp .gt 14, 3) := by decide +kernel
theorem d_RD_variable_10 : decode M_RD_variable.2.1 10 = .ok (.aload_n 0, 1) := by decide +kernel
theorem d_RD_variable_11 : decode M_RD_variable.2.1 11 = .ok (.getfield 68, 3) := by decide +kernel
theorem d_RD_variable_14 : decode M_RD_variable.2.1 14 = .ok (.iconst 0, 1) := by decide +kernel
theorem d_RD_variable_15 : decode M_RD_variable.2.1 15 = .ok (.baload, 1) := by decide +kernel
theorem d_RD_variable_16 : decode M_RD_variable.2.1 16 = .ok (.bipush 95, 2) := by decide +kernel
theorem d_RD_variable_18 : decode M_RD_variable.2.1 18 = .ok (.if_icmp .eq 38, 3) := by decide +kernel
theorem d_RD_variable_21 : decode M_RD_variable.2.1 21 = .ok (.aload_n 0, 1) := by decide +kernel
theorem d_RD_variable_22 : decode M_RD_variable.2.1 22 = .ok (.invokevirtual 212, 3) := by decide +kernel
theorem d_RD_variable_25 : decode M_RD_variable.2.1 25 = .ok (.istore_n 2, 1) := by decide +kernel
theorem d_RD_variable_26 : decode M_RD_variable.2.1 26 = .ok (.iconst 0, 1) := by decide +kernel
theorem d_RD_variable_27 : decode M_RD_variable.2.1 27 = .ok (.istore_n 3, 1) := by decide +kernel
theorem d_RD_variable_28 : decode M_RD_variable.2.1 28 = .ok (.iload_n 3, 1) := by decide +kernel
theorem d_RD_variable_29 : decode M_RD_variable.2.1 29 = .ok (.aload_n 0, 1) := by decide +kernel
theorem d_RD_variable_30 : decode M_RD_variable.2.1 30 = .ok (.getfield 243, 3) := by decide +kernel
theorem d_RD_variable_33 : decode M_RD_variable.2.1 33 = .ok (.if_icmp .ge 21, 3) := by decide +kernel
theorem d_RD_variable_36 : decode M_RD_variable.2.1 36 = .ok (.aload_n 0, 1) := by decide +kernel
theorem d_RD_variable_37 : decode M_RD_variable.2.1 37 = .ok (.getfield 75, 3) := by decide +kernel
theorem d_RD_variable_40 : decode M_RD_variable.2.1 40 = .ok (.iload_n 3, 1) := by decide +kernel
theorem d_RD_variable_41 : decode M_RD_variable.2.1 41 = .ok (.iaload, 1) := by decide +kernel
theorem d_RD_variable_42 : decode M_RD_variable.2.1 42 = .ok (.iload_n 2, 1) := by decide +kernel
theorem d_RD_variable_43 : decode M_RD_variable.2.1 43 = .ok (.if_icmp .ne 5, 3) := by decide +kernel
theorem d_RD_variable_46 : decode M_RD_variable.2.1 46 = .ok (.iload_n 3, 1) := by decide +kernel
theorem d_RD_variable_47 : decode M_RD_variable.2.1 47 = .ok (.ireturn, 1) := by decide +kernel
theorem d_RD_variable_48 : decode M_RD_variable.2.1 48 = .ok (.iinc 3 1, 3) := by decide +kernel
theorem d_RD_variable_51 : decode M_RD_variable.2.1 51 = .ok (.goto (-23), 3) := by decide +kernel
theorem d_RD_variable_54 : decode M_RD_variable.2.1 54 = .ok (.iload_n 2, 1) := by decide +kernel
theorem d_RD_variable_55 : decode M_RD_variable.2.1 55 = .ok (.istore_n 1, 1) := by decide +kernel
theorem d_RD_variable_56 : decode M_RD_variable.2.1 56 = .ok (.aload_n 0, 1) := by decide +kernel
theorem d_RD_variable_57 : decode M_RD_variable.2.1 57 = .ok (.getfield 75, 3) := by decide +kernel
theorem d_RD_variable_60 : decode M_RD_variable.2.1 60 = .ok (.aload_n 0, 1) := by decide +kernel
theorem d_RD_variable_61 : decode M_RD_variable.2.1 61 = .ok (.getfield 243, 3) := by decide +kernel
theorem d_RD_variable_64 : decode M_RD_variable.2.1 64 = .ok (.iload_n 1, 1) := by decide +kernel
theorem d_RD_variable_65 : decode M_RD_variable.2.1 65 = .ok (.iastore, 1) := by decide +kernel
theorem d_RD_variable_66 : decode M_RD_variable.2.1 66 = .ok (.aload_n 0, 1) := by decide +kernel
theorem d_RD_variable_67 : decode M_RD_variable.2.1 67 = .ok (.dup, 1) := by decide +kernel
theorem d_RD_variable_68 : decode M_RD_variable.2.1 68 = .ok (.getfield 243, 3) := by decide +kernel
theorem d_RD_variable_71 : decode M_RD_variable.2.1 71 = .ok (.iconst 1, 1) := by decide +kernel
theorem d_RD_variable_72 : decode M_RD_variable.2.1 72 = .ok (.iadd, 1) := by decide +kernel
theorem d_RD_variable_73 : decode M_RD_variable.2.1 73 = .ok (.putfield 243, 3) := by decide +kernel
theorem d_RD_variable_76 : decode M_RD_variable.2.1 76 = .ok (.aload_n 0, 1) := by decide +kernel
theorem d_RD_variable_77 : decode M_RD_variable.2.1 77 = .ok (.getfield 243, 3) := by decide +kernel
theorem d_RD_variable_80 : decode M_RD_variable.2.1 80 = .ok (.iconst 1, 1) := by decide +kernel
theorem d_RD_variable_81 : decode M_RD_variable.2.1 81 = .ok (.isub, 1) := by decide +kernel
theorem d_RD_variable_82 : decode M_RD_variable.2.1 82 = .ok (.ireturn, 1) := by decide +kernel
set_option maxRecDepth 20000 in
theorem w_RD_variable {E : xR} {h : xH} {u : Nat → Nat} {N z q : Nat} {T : List (List Int32)} {Na B : Nat → Nat → Int32} {Nm : Nat → Int64} {St Vr Kp Wd : Nat → Int32} {bh oo lt tp pl kn rk : Int32} {nm : Int64} {p : Nat} {V : List (Nat × Nat)} (hTO : g_TO u N p bh lt nm Wd) (hu : ∀ i, u i < 256) (hp : p ≤ N) (hN : N ≤ 4096) (hk : (g_ky (g_at u N) N p) = 1) (hA : g_NB T Na) (hV : g_MV u T Vr V) (hVL : V.length ≤ 4096) (hcap : g_tot T + 4096 ≤ 9000) (hcap2 : g_tot T + (g_ut u (g_fr (g_at u N) N p) (g_to (g_at u N) N p)).length ≤ 5000) (hT9 : T.length < 8000) : x_Mt E M_RD_variable 3 0 0 [.ref 36] 52 (g_mw h N T Na B Nm z q St Vr Kp (nI p) bh (nI (g_ky (g_at u N) N p)) oo nm lt tp pl (nI V.length) kn rk Wd) (x_YE (fun v h1 => v = some (.int (nI (g_vr u V (g_fr (g_at u N) N p) (g_to (g_at u N) N p)))) ∧ ∃ Na' Vr', g_NB (g_vT u T (g_fr (g_at u N) N p) (g_to (g_at u N) N p)) Na' ∧ g_MV u (g_vT u T (g_fr (g_at u N) N p) (g_to (g_at u N) N p)) Vr' (g_vV u V (g_fr (g_at u N) N p) (g_to (g_at u N) N p)) ∧ h1 = (g_mw h N (g_vT u T (g_fr (g_at u N) N p) (g_to (g_at u N) N p)) Na' B Nm z q St Vr' Kp (nI p) bh (nI (g_ky (g_at u N) N p)) oo nm lt tp pl (nI (g_vV u V (g_fr (g_at u N) N p) (g_to (g_at u N) N p)).length) kn rk Wd))) := by
  obtain ⟨hl, hw⟩ := hTO.2.2.1 (Or.inl hk)
  have hUb := g_utB hu (f := (g_fr (g_at u N) N p)) (t := (g_to (g_at u N) N p))
  have hU : (g_ut u (g_fr (g_at u N) N p) (g_to (g_at u N) N p)) = g_tp u ((g_to (g_at u N) N p) - (g_fr (g_at u N) N p)) (g_fr (g_at u N) N p) := g_ut1 hu hp hk
  have hlt : (g_fr (g_at u N) N p) < (g_to (g_at u N) N p) ∧ (g_to (g_at u N) N p) ≤ N := g_tk1 hu hp hk
  rw [hU] at hl hw hcap2 hUb
  have hxl : (g_tp u ((g_to (g_at u N) N p) - (g_fr (g_at u N) N p)) (g_fr (g_at u N) N p)).length = (g_to (g_at u N) N p) - (g_fr (g_at u N) N p) := g_tp_len u _ _
  have hnl := g_nlT hu (f := (g_fr (g_at u N) N p)) (t := (g_to (g_at u N) N p))
  generalize hf : (g_fr (g_at u N) N p) = f at *
  generalize ht : (g_to (g_at u N) N p) = t at *
  generalize hx : g_tp u (t - f) f = x at *
  subst hl
  have hx1 : 0 < x.length := by omega
  have hend : ∀ (T1 : List (List Int32)) (Na1 : Nat → Nat → Int32) (y : Int32) (z2 z3 : Value), g_vT u T f t = T1 → g_NB T1 Na1 → g_MV u T1 Vr V → g_vr u V f t = V.length → (g_nl u f t = true → y = -1) → (g_nl u f t = false → g_nmd1 T1 y x) → x_W E M_RD_variable (x_room 3 0 0) (x_YE (fun v h1 => v = some (.int (nI (g_vr u V f t))) ∧ ∃ Na' Vr', g_NB (g_vT u T f t) Na' ∧ g_MV u (g_vT u T f t) Vr' (g_vV u V f t) ∧ h1 = (g_mw h N (g_vT u T f t) Na' B Nm z q St Vr' Kp (nI p) bh (nI (g_ky (g_at u N) N p)) oo nm (nI x.length) tp pl (nI (g_vV u V f t).length) kn rk Wd))) 52 (g_mw h N T1 Na1 B Nm z q St Vr Kp (nI p) bh (nI (g_ky (g_at u N) N p)) oo nm (nI x.length) tp pl (nI V.length) kn rk Wd) 56 [(0, .ref 36), (1, .int y)] [] 0 0 := by
    intro T1 Na1 y z2 z3 hT1 hA1 hV1 hr h1 h2
    have eV : g_vV u V f t = V ++ [(f, t)] := by unfold g_vV; rw [decide_eq_true hr]; rfl
    rw [hT1, eV, hr]
    refine x_aload_n d_RD_variable_56 rfl rfl ?_
    refine x_get d_RD_variable_57 f_RD_75 (Nat.le_of_ble_eq_true rfl) (Nat.le_of_ble_eq_true rfl) (by first | rfl | assumption) (by rfl) ?_
    refine x_aload_n d_RD_variable_60 rfl rfl ?_
    refine x_get d_RD_variable_61 f_RD_243 (Nat.le_of_ble_eq_true rfl) (Nat.le_of_ble_eq_true rfl) (by first | rfl | assumption) (by rfl) ?_
    refine x_iload_n d_RD_variable_64 rfl rfl ?_
    refine x_iast d_RD_variable_65 (Nat.le_of_ble_eq_true rfl) (Nat.le_of_ble_eq_true rfl) (by first | rfl | assumption) (vp_in_nI (show V.length < 4200 by omega) (by decide)) ?_
    refine x_aload_n d_RD_variable_66 rfl rfl ?_
    refine x_dup d_RD_variable_67 rfl ?_
    refine x_get d_RD_variable_68 f_RD_243 (Nat.le_of_ble_eq_true rfl) (Nat.le_of_ble_eq_true rfl) (by first | rfl | assumption) (by rfl) ?_
    refine x_iconst 1 d_RD_variable_71 (by decide) ?_
    refine x_iadd d_RD_variable_72 ?_
    refine x_topi (nI (V.length + 1)) (nI_succ _).symm ?_
    refine x_put d_RD_variable_73 f_RD_243 (Nat.le_of_ble_eq_true rfl) (Nat.le_of_ble_eq_true rfl) (by first | rfl | assumption) (by rfl) (by rfl) (by exact (Nat.le_of_ble_eq_true rfl)) ?_
    refine x_aload_n d_RD_variable_76 rfl rfl ?_
    refine x_get d_RD_variable_77 f_RD_243 (Nat.le_of_ble_eq_true rfl) (Nat.le_of_ble_eq_true rfl) (by first | rfl | assumption) (by rfl) ?_
    refine x_iconst 1 d_RD_variable_80 (by decide) ?_
    refine x_isub d_RD_variable_81 ?_
    refine x_topi (nI V.length) (g_nIsub (a := V.length + 1) (b := 1) (by omega)) ?_
    exact x_ireturn d_RD_variable_82 rfl rfl (x_YEi _ ⟨rfl, Na1, upd Vr V.length y, hA1, g_MVs hV1 h1 (fun z => by rw [hx]; exact h2 z), rfl⟩ (by rw [List.length_append, List.length_singleton]; exact x_pt rfl rfl rfl rfl rfl rfl rfl rfl rfl rfl rfl rfl rfl rfl rfl rfl rfl rfl rfl rfl rfl rfl rfl rfl rfl rfl rfl rfl rfl rfl rfl rfl rfl rfl rfl rfl rfl rfl rfl rfl rfl rfl (show Sum.inl (0, 4200, Sum.inl (upd _ (nI V.length).toNatClampNeg _)) = _ by rw [nI_clamp (by omega)]; rfl) rfl rfl rfl rfl rfl rfl rfl rfl rfl))
  have hnam : g_nl u f t = false → x_W E M_RD_variable (x_room 3 0 0) (x_YE (fun v h1 => v = some (.int (nI (g_vr u V f t))) ∧ ∃ Na' Vr', g_NB (g_vT u T f t) Na' ∧ g_MV u (g_vT u T f t) Vr' (g_vV u V f t) ∧ h1 = (g_mw h N (g_vT u T f t) Na' B Nm z q St Vr' Kp (nI p) bh (nI (g_ky (g_at u N) N p)) oo nm (nI x.length) tp pl (nI (g_vV u V f t).length) kn rk Wd))) 52 (g_mw h N T Na B Nm z q St Vr Kp (nI p) bh (nI (g_ky (g_at u N) N p)) oo nm (nI x.length) tp pl (nI V.length) kn rk Wd) 21 [(0, .ref 36), (1, .int (-1))] [] 0 0 := by
    intro hn
    have eT : g_vT u T f t = g_nT T x := by unfold g_vT; rw [hn, hx]; rfl
    have er : g_vr u V f t = g_vf u f t V 0 := by unfold g_vr; rw [hn]; rfl
    have hkx := g_nkT T x
    have hkL := g_ntL _ _ _ hkx
    have hTL : (g_nT T x).length ≤ T.length + 1 := by unfold g_nT; cases g_ix x T <;> simp
    have hV1 : g_MV u (g_nT T x) Vr V := g_MV_mv (fun k w h => g_nTm h) hV
    have hloop : ∀ (Na1 : Nat → Nat → Int32), g_NB (g_nT T x) Na1 → ∀ m i, i + m = V.length → (∀ j (h : j < V.length), j < i → g_same u V[j].1 V[j].2 f t = false) → x_W E M_RD_variable (x_room 3 0 0) (x_YE (fun v h1 => v = some (.int (nI (g_vr u V f t))) ∧ ∃ Na' Vr', g_NB (g_vT u T f t) Na' ∧ g_MV u (g_vT u T f t) Vr' (g_vV u V f t) ∧ h1 = (g_mw h N (g_vT u T f t) Na' B Nm z q St Vr' Kp (nI p) bh (nI (g_ky (g_at u N) N p)) oo nm (nI x.length) tp pl (nI (g_vV u V f t).length) kn rk Wd))) 52 (g_mw h N (g_nT T x) Na1 B Nm z q St Vr Kp (nI p) bh (nI (g_ky (g_at u N) N p)) oo nm (nI x.length) tp pl (nI V.length) kn rk Wd) 28 [(0, .ref 36), (1, .int (-1)), (2, .int (nI (g_nk T x))), (3, .int (nI i))] [] 0 0 := by
      intro Na1 hA1 m
      induction m with
      | zero =>
        intro i hi hj
        obtain rfl : i = V.length := by omega
        refine x_iload_n d_RD_variable_28 rfl rfl ?_
        refine x_aload_n d_RD_variable_29 rfl rfl ?_
        refine x_get d_RD_variable_30 f_RD_243 (Nat.le_of_ble_eq_true rfl) (Nat.le_of_ble_eq_true rfl) (by first | rfl | assumption) (by rfl) ?_
        refine x_icmp_ge 54 d_RD_variable_33 (by decide) (fun _ => ?_) (fun z => absurd (nI_le (Nat.le_refl _) (by omega)) z)
        refine x_iload_n d_RD_variable_54 rfl rfl ?_
        refine x_istore_n d_RD_variable_55 rfl (Nat.le_of_ble_eq_true rfl) ?_
        refine x_lv [(0, .ref 36), (1, .int (nI (g_nk T x))), (2, .int (nI (g_nk T x))), (3, .int (nI V.length))] rfl ?_
        refine x_wk [(0, .ref 36), (1, .int (nI (g_nk T x)))] (by simp) ?_
        exact hend (g_nT T x) Na1 _ .null .null eT hA1 hV1 (by rw [er, g_vfN V 0 (fun j h => hj j h h)]; omega) (fun z => by rw [hn] at z; cases z) (fun _ => ⟨g_nk T x, by omega, rfl, hkx⟩)
      | succ m ih =>
        intro i hi hj
        have hiV : i < V.length := by omega
        have hc := g_MVc hu hV1 hA1.2 (show g_nk T x < 9000 by omega) (f := f) (t := t) (by rw [hx]; exact hkx) hn hiV
        refine x_iload_n d_RD_variable_28 rfl rfl ?_
        refine x_aload_n d_RD_variable_29 rfl rfl ?_
        refine x_get d_RD_variable_30 f_RD_243 (Nat.le_of_ble_eq_true rfl) (Nat.le_of_ble_eq_true rfl) (by first | rfl | assumption) (by rfl) ?_
        refine x_icmp_ge 54 d_RD_variable_33 (by decide) (fun z => absurd z (nI_ge hiV (by omega))) (fun _ => ?_)
        refine x_aload_n d_RD_variable_36 rfl rfl ?_
        refine x_get d_RD_variable_37 f_RD_75 (Nat.le_of_ble_eq_true rfl) (Nat.le_of_ble_eq_true rfl) (by first | rfl | assumption) (by rfl) ?_
        refine x_iload_n d_RD_variable_40 rfl rfl ?_
        refine x_iald d_RD_variable_41 (Nat.le_of_ble_eq_true rfl) (Nat.le_of_ble_eq_true rfl) (by first | rfl | assumption) (vp_in_nI (show i < 4200 by omega) (by decide)) ?_
        refine x_topi (Vr i) (by rw [nI_clamp (by omega)]) ?_
        refine x_iload_n d_RD_variable_42 rfl rfl ?_
        refine x_icmp_ne 48 d_RD_variable_43 (by decide) (fun c_43 => ?_) (fun c_43 => ?_)
        · refine x_iinc d_RD_variable_48 rfl 1 (by decide) (Nat.le_of_ble_eq_true rfl) ?_
          refine x_goto 28 d_RD_variable_51 (by decide) ?_
          refine x_lv [(0, .ref 36), (1, .int (-1)), (2, .int (nI (g_nk T x))), (3, .int (nI (i + 1)))] (by rw [nI_succ i]; rfl) ?_
          exact ih (i + 1) (by omega) (fun j h hji => by
            by_cases e : j = i
            · subst e
              cases hz : g_same u V[j].1 V[j].2 f t with
              | false => rfl
              | true => exact absurd (hc.mpr hz) c_43
            · exact hj j h (by omega))
        · refine x_iload_n d_RD_variable_46 rfl rfl ?_
          exact x_ireturn d_RD_variable_47 rfl rfl (by
            have hs := hc.mp c_43
            have e : g_vr u V f t = i := by rw [er, g_vfS V 0 i hiV (fun j h hji => hj j h hji) hs]; omega
            have eV : g_vV u V f t = V := by unfold g_vV; rw [e, decide_eq_false (by omega)]; rfl
            exact x_YEi _ ⟨by rw [e], Na1, Vr, by rw [eT]; exact hA1, by rw [eT, eV]; exact hV1, rfl⟩ (fun _ _ => by rw [eT, eV]))
    refine x_aload_n d_RD_variable_21 rfl rfl ?_
    refine x_callV0E d_RD_variable_22 k_RD_212 (Nat.le_of_ble_eq_true rfl) (Nat.le_of_ble_eq_true rfl) (by first | rfl | assumption) (by rfl) (w_RD_name hA (by omega) (by omega) (by omega) hUb hw) (Nat.le_of_ble_eq_true rfl) (Nat.le_of_ble_eq_true rfl) (Nat.le_of_ble_eq_true rfl) (Nat.le_of_ble_eq_true rfl) (Nat.le_of_ble_eq_true rfl) rfl (fun v1 hh1 hp1 => ?_)
    obtain ⟨rfl, Na1, hA1, rfl⟩ := hp1
    refine x_istore_n d_RD_variable_25 rfl (Nat.le_of_ble_eq_true rfl) ?_
    refine x_iconst 0 d_RD_variable_26 (by decide) ?_
    refine x_istore_n d_RD_variable_27 rfl (Nat.le_of_ble_eq_true rfl) ?_
    exact hloop Na1 hA1 V.length 0 (by omega) (fun j h h0 => absurd h0 (Nat.not_lt_zero _))
  refine x_Mt.of (by decide) (Nat.le_of_ble_eq_true rfl) ?_
  show x_W E M_RD_variable _ _ 52 (g_mw h N T Na B Nm z q St Vr Kp (nI p) bh (nI (g_ky (g_at u N) N p)) oo nm (nI x.length) tp pl (nI V.length) kn rk Wd) 0 [(0, .ref 36)] [] 0 0
  refine x_iconst (-1) d_RD_variable_0 (by decide) ?_
  refine x_istore_n d_RD_variable_1 rfl (Nat.le_of_ble_eq_true rfl) ?_
  refine x_aload_n d_RD_variable_2 rfl rfl ?_
  refine x_get d_RD_variable_3 f_RD_139 (Nat.le_of_ble_eq_true rfl) (Nat.le_of_ble_eq_true rfl) (by first | rfl | assumption) (by rfl) ?_
  refine x_iconst 1 d_RD_variable_6 (by decide) ?_
  refine x_icmp_gt 21 d_RD_variable_7 (by decide) (fun c_7 => ?_) (fun c_7 => ?_)
  · exact hnam (by rw [hnl, decide_eq_false]; intro z; rw [z] at c_7; exact absurd c_7 (by decide))
  · refine x_aload_n d_RD_variable_10 rfl rfl ?_
    refine x_get d_RD_variable_11 f_RD_68 (Nat.le_of_ble_eq_true rfl) (Nat.le_of_ble_eq_true rfl) (by first | rfl | assumption) (by rfl) ?_
    refine x_iconst 0 d_RD_variable_14 (by decide) ?_
    refine x_bald d_RD_variable_15 (Nat.le_of_ble_eq_true rfl) (Nat.le_of_ble_eq_true rfl) (by first | rfl | assumption) (vp_in_nI (n := 0) (show 0 < 4096 by decide) (by decide)) ?_
    refine x_topi (Wd 0) rfl ?_
    refine x_bipush 95 d_RD_variable_16 (by decide) ?_
    refine x_icmp_eq 56 d_RD_variable_18 (by decide) (fun c_18 => ?_) (fun c_18 => ?_)
    · have hx11 : x.length = 1 := by
        rcases Nat.lt_or_ge 1 x.length with q | q
        · exact absurd (nI_lt q (by omega)) c_7
        · omega
      have hxx : x = [95] := by
        obtain ⟨a, rfl⟩ := List.length_eq_one_iff.mp hx11
        have : Wd 0 = a := hw 0 hx1
        rw [← this, c_18]
      exact hend T Na (-1) .null .null (by unfold g_vT; rw [hnl, hxx]; rfl) hA hV (by unfold g_vr; rw [hnl, hxx]; rfl) (fun _ => rfl) (fun z => by rw [hnl, hxx] at z; cases z)
    · exact hnam (by
        rw [hnl, decide_eq_false]
        intro z
        apply c_18
        rw [hw 0 hx1]
        simp [z])
