set_option maxRecDepth 20000 in
theorem g_tw_up {h : xH} {s v r : Int32} {A : Nat → Nat → Int32} {c : xE} : ∀ i, i < 52 → x_up (g_tw h s v r A) 3 c i = g_tw (x_up h 3 c) s v r A i := x_pt rfl rfl rfl rfl rfl rfl rfl rfl rfl rfl rfl rfl rfl rfl rfl rfl rfl rfl rfl rfl rfl rfl rfl rfl rfl rfl rfl rfl rfl rfl rfl rfl rfl rfl rfl rfl rfl rfl rfl rfl rfl rfl rfl rfl rfl rfl rfl rfl rfl rfl rfl rfl
set_option maxRecDepth 20000 in
theorem g_rw_up {h : xH} {s v r : Int32} {A : Nat → Nat → Int32} {a c : xE} : ∀ i, i < 52 → x_up (g_tw (x_up h 3 a) s v r A) 3 c i = g_tw (x_up h 3 c) s v r A i := x_pt rfl rfl rfl rfl rfl rfl rfl rfl rfl rfl rfl rfl rfl rfl rfl rfl rfl rfl rfl rfl rfl rfl rfl rfl rfl rfl rfl rfl rfl rfl rfl rfl rfl rfl rfl rfl rfl rfl rfl rfl rfl rfl rfl rfl rfl rfl rfl rfl rfl rfl rfl rfl
set_option maxRecDepth 20000 in
theorem g_tw_rt {h : xH} {s v r r' : Int32} {A : Nat → Nat → Int32} : ∀ i, i < 52 → x_up (g_tw h s v r A) 5 (.inr (3, [.ref 6, .ref 7, .ref 8, .ref 9, .ref 10, .ref 11, .ref 12, .ref 13, .ref 1, .int s, .int v, .int r'])) i = g_tw h s v r' A i := x_pt rfl rfl rfl rfl rfl rfl rfl rfl rfl rfl rfl rfl rfl rfl rfl rfl rfl rfl rfl rfl rfl rfl rfl rfl rfl rfl rfl rfl rfl rfl rfl rfl rfl rfl rfl rfl rfl rfl rfl rfl rfl rfl rfl rfl rfl rfl rfl rfl rfl rfl rfl rfl
/-- broken at q, the root whatever it is -/
def g_XG (N : Nat) (h : xH) (q : Nat) : xK := fun o n' h' k j => o = .inr 2 ∧ n' = 52 ∧ k = 1 ∧ j = 6 ∧ ∃ (c2 c3 c4 c5 c6 : Value) (s w r : Int32) (A : Nat → Nat → Int32), g_okA A ∧ ∀ i, i < 52 → h' i = g_tw (x_up h 3 (.inr (2, [.ref 1, .int (nI N), c2, c3, c4, c5, c6, .int (nI q)]))) s w r A i
theorem g_XFG {N : Nat} {h : xH} {q : Nat} {o : xO} {n' : Nat} {h' : xH} {k j : Nat} (hx : g_XF N h q o n' h' k j) : g_XG N h q o n' h' k j := by
  obtain ⟨e1, e2, e3, e4, c2, c3, c4, c5, c6, s, w, A, ok, e⟩ := hx
  exact ⟨e1, e2, e3, e4, c2, c3, c4, c5, c6, s, w, 0, A, ok, e⟩
/-- what parse leaves -/
def g_PP (N : Nat) (h : xH) (r : Nat ⊕ (Nat × List (Nat × Nat) × (Nat × Std.Format))) : xK := match r with
  | .inl q => g_XG N h q
  | .inr (s, V, t) => fun o n' h' k j => ∃ (A : Nat → Nat → Int32) (jn : Nat) (c2 c3 c4 c5 c6 : Value), o = .inl (some (.ref 5)) ∧ n' = 52 ∧ k = 0 ∧ j = 0 ∧ g_okA A ∧ s ≤ 1000 ∧ jn < s ∧ A 3 jn = -1 ∧ V.length ≤ s ∧ g_cT A (fun n => n < s ∧ n ≠ jn) t jn ∧ ∀ i, i < 52 → h' i = g_tw (x_up h 3 (.inr (2, [.ref 1, .int (nI N), c2, c3, c4, c5, c6, .int (-1)]))) (nI s) (nI V.length) (nI jn) A i
theorem g_PPx {N : Nat} {h : xH} {q : Nat} {r : Nat ⊕ (Nat × List (Nat × Nat) × (Nat × Std.Format))} {o : xO} {n' : Nat} {h' : xH} {k j : Nat} (hr : r = .inl q) (hx : g_XG N h q o n' h' k j) : g_PP N h r o n' h' k j := by subst hr; exact hx
theorem g_allx {u : Nat → Nat} {N q : Nat} (hd : g_dd u N (g_T (g_at u N) u N 100 1200 (g_pl (g_at u N) N 0) 0 []) q) : g_all u N = .inl q := by
  unfold g_all
  rcases hd with hd | ⟨s, V, t, c, hd, h12⟩
  · rw [hd]
  · rw [hd]
    show (if ¬ g_ky (g_at u N) N q = 0 then _ else _) = _
    rw [if_pos (by rw [h12]; decide)]
theorem d_PA_parse_0 : decode M_PA_parse.2.1 0 = .ok (.aload_n 0, 1) := by decide +kernel
theorem d_PA_parse_1 : decode M_PA_parse.2.1 1 = .ok (.getfield 21, 3) := by decide +kernel
theorem d_PA_parse_4 : decode M_PA_parse.2.1 4 = .ok (.aload_n 1, 1) := by decide +kernel
theorem d_PA_parse_5 : decode M_PA_parse.2.1 5 = .ok (.invokevirtual 29, 3) := by decide +kernel
theorem d_PA_parse_8 : decode M_PA_parse.2.1 8 = .ok (.aload_n 0, 1) := by decide +kernel
theorem d_PA_parse_9 : decode M_PA_parse.2.1 9 = .ok (.getfield 12, 3) := by decide +kernel
theorem d_PA_parse_12 : decode M_PA_parse.2.1 12 = .ok (.aload_n 1, 1) := by decide +kernel
theorem d_PA_parse_13 : decode M_PA_parse.2.1 13 = .ok (.iload_n 2, 1) := by decide +kernel
theorem d_PA_parse_14 : decode M_PA_parse.2.1 14 = .ok (.invokevirtual 33, 3) := by decide +kernel
theorem d_PA_parse_17 : decode M_PA_parse.2.1 17 = .ok (.aload_n 0, 1) := by decide +kernel
theorem d_PA_parse_18 : decode M_PA_parse.2.1 18 = .ok (.getfield 12, 3) := by decide +kernel
theorem d_PA_parse_21 : decode M_PA_parse.2.1 21 = .ok (.getfield 36, 3) := by decide +kernel
theorem d_PA_parse_24 : decode M_PA_parse.2.1 24 = .ok (.istore_n 3, 1) := by decide +kernel
theorem d_PA_parse_25 : decode M_PA_parse.2.1 25 = .ok (.aload_n 0, 1) := by decide +kernel
theorem d_PA_parse_26 : decode M_PA_parse.2.1 26 = .ok (.getfield 21, 3) := by decide +kernel
theorem d_PA_parse_29 : decode M_PA_parse.2.1 29 = .ok (.aload_n 0, 1) := by decide +kernel
theorem d_PA_parse_30 : decode M_PA_parse.2.1 30 = .ok (.sipush 1200, 3) := by decide +kernel
theorem d_PA_parse_33 : decode M_PA_parse.2.1 33 = .ok (.iconst 1, 1) := by decide +kernel
theorem d_PA_parse_34 : decode M_PA_parse.2.1 34 = .ok (.invokevirtual 39, 3) := by decide +kernel
theorem d_PA_parse_37 : decode M_PA_parse.2.1 37 = .ok (.putfield 43, 3) := by decide +kernel
theorem d_PA_parse_40 : decode M_PA_parse.2.1 40 = .ok (.aload_n 0, 1) := by decide +kernel
theorem d_PA_parse_41 : decode M_PA_parse.2.1 41 = .ok (.getfield 12, 3) := by decide +kernel
theorem d_PA_parse_44 : decode M_PA_parse.2.1 44 = .ok (.getstatic 46, 3) := by decide +kernel
theorem d_PA_parse_47 : decode M_PA_parse.2.1 47 = .ok (.invokevirtual 52, 3) := by decide +kernel
theorem d_PA_parse_50 : decode M_PA_parse.2.1 50 = .ok (.aload_n 0, 1) := by decide +kernel
theorem d_PA_parse_51 : decode M_PA_parse.2.1 51 = .ok (.getfield 12, 3) := by decide +kernel
theorem d_PA_parse_54 : decode M_PA_parse.2.1 54 = .ok (.invokevirtual 56, 3) := by decide +kernel
theorem d_PA_parse_57 : decode M_PA_parse.2.1 57 = .ok (.aload_n 0, 1) := by decide +kernel
theorem d_PA_parse_58 : decode M_PA_parse.2.1 58 = .ok (.getfield 12, 3) := by decide +kernel
theorem d_PA_parse_61 : decode M_PA_parse.2.1 61 = .ok (.getstatic 59, 3) := by decide +kernel
theorem d_PA_parse_64 : decode M_PA_parse.2.1 64 = .ok (.invokevirtual 52, 3) := by decide +kernel
theorem d_PA_parse_67 : decode M_PA_parse.2.1 67 = .ok (.aload_n 0, 1) := by decide +kernel
theorem d_PA_parse_68 : decode M_PA_parse.2.1 68 = .ok (.getfield 21, 3) := by decide +kernel
theorem d_PA_parse_71 : decode M_PA_parse.2.1 71 = .ok (.getfield 62, 3) := by decide +kernel
theorem d_PA_parse_74 : decode M_PA_parse.2.1 74 = .ok (.sipush 1000, 3) := by decide +kernel
theorem d_PA_parse_77 : decode M_PA_parse.2.1 77 = .ok (.if_icmp .le 11, 3) := by decide +kernel
theorem d_PA_parse_80 : decode M_PA_parse.2.1 80 = .ok (.aload_n 0, 1) := by decide +kernel
theorem d_PA_parse_81 : decode M_PA_parse.2.1 81 = .ok (.getfield 12, 3) := by decide +kernel
theorem d_PA_parse_84 : decode M_PA_parse.2.1 84 = .ok (.iload_n 3, 1) := by decide +kernel
theorem d_PA_parse_85 : decode M_PA_parse.2.1 85 = .ok (.invokevirtual 65, 3) := by decide +kernel
theorem d_PA_parse_88 : decode M_PA_parse.2.1 88 = .ok (.aload_n 0, 1) := by decide +kernel
theorem d_PA_parse_89 : decode M_PA_parse.2.1 89 = .ok (.getfield 21, 3) := by decide +kernel
theorem d_PA_parse_92 : decode M_PA_parse.2.1 92 = .ok (.areturn, 1) := by decide +kernel
set_option maxRecDepth 20000 in
theorem w_PA_parse {E : xR} {h : xH} {u : Nat → Nat} {N : Nat} {A : Nat → Nat → Int32} {w0 w1 w2 w3 w4 w5 w6 w7 tp ts tv tr : Value} (h2 : h 2 = .inr (1, [.ref 3, .ref 5])) (h3 : h 3 = .inr (2, [w0, w1, w2, w3, w4, w5, w6, w7])) (h5 : h 5 = .inr (3, [.ref 6, .ref 7, .ref 8, .ref 9, .ref 10, .ref 11, .ref 12, .ref 13, tp, ts, tv, tr])) (a0 : h 6 = .inl (0, 1001, .inl (A 0))) (a1 : h 7 = .inl (0, 1001, .inl (A 1))) (a2 : h 8 = .inl (0, 1001, .inl (A 2))) (a3 : h 9 = .inl (0, 1001, .inl (A 3))) (a4 : h 10 = .inl (0, 1001, .inl (A 4))) (a5 : h 11 = .inl (0, 1001, .inl (A 5))) (a6 : h 12 = .inl (0, 1001, .inl (A 6))) (a7 : h 13 = .inl (0, 1001, .inl (A 7))) (h1 : h 1 = .inl (1, 4096, .inl (fun i => g_sb (u i)))) (hu : ∀ i, u i < 256) (hN : N ≤ 4096) (hnt : ¬ x_tg E) (ok : g_okA A) : x_Mt E M_PA_parse 213 1 6 [.ref 2, .ref 1, .int (nI N)] 52 h (g_PP N h (g_all u N)) := by
  have hp0 : (g_pl (g_at u N) N 0) ≤ N := by
    have := g_sk_le (g_at u N) (N - 0) false 0
    have e : (g_pl (g_at u N) N 0) = g_sk (g_at u N) (N - 0) false 0 := rfl
    omega
  have hst := w_SG_start (E := E) (h := g_tw h 0 0 0 A) (u := u) (N := N) (p := (g_pl (g_at u N) N 0)) (k := (g_ky (g_at u N) N (g_pl (g_at u N) N 0))) (f := (g_fr (g_at u N) N (g_pl (g_at u N) N 0))) (t := (g_to (g_at u N) N (g_pl (g_at u N) N 0))) (b := (g_bh (g_at u N) N (g_pl (g_at u N) N 0))) h3 h1 hu hN rfl g_tkE
  refine x_Mt.of (by decide) (Nat.le_of_ble_eq_true rfl) ?_
  show x_W E M_PA_parse _ _ 52 h 0 [(0, .ref 2), (1, .ref 1), (2, .int (nI N))] [] 0 0
  refine x_aload_n d_PA_parse_0 rfl rfl ?_
  refine x_get d_PA_parse_1 f_PA_21 (Nat.le_of_ble_eq_true rfl) (Nat.le_of_ble_eq_true rfl) (by first | rfl | assumption) (by rfl) ?_
  refine x_aload_n d_PA_parse_4 rfl rfl ?_
  refine x_callV1Y d_PA_parse_5 k_PA_29 (Nat.le_of_ble_eq_true rfl) (Nat.le_of_ble_eq_true rfl) (by first | rfl | assumption) (by rfl) (w_TE_start h5 a0 a1 a2 a3 a4 a5 a6 a7) (Nat.le_of_ble_eq_true rfl) (Nat.le_of_ble_eq_true rfl) (Nat.le_of_ble_eq_true rfl) (Nat.le_of_ble_eq_true rfl) (Nat.le_of_ble_eq_true rfl) rfl ?_
  refine x_aload_n d_PA_parse_8 rfl rfl ?_
  refine x_get d_PA_parse_9 f_PA_12 (Nat.le_of_ble_eq_true rfl) (Nat.le_of_ble_eq_true rfl) (by first | rfl | assumption) (by rfl) ?_
  refine x_aload_n d_PA_parse_12 rfl rfl ?_
  refine x_iload_n d_PA_parse_13 rfl rfl ?_
  refine x_callV2B d_PA_parse_14 k_PA_33 (Nat.le_of_ble_eq_true rfl) (Nat.le_of_ble_eq_true rfl) (show (g_tw h 0 0 0 A) 3 = _ from h3) (by rfl) hst (Nat.le_of_ble_eq_true rfl) (Nat.le_of_ble_eq_true rfl) (Nat.le_of_ble_eq_true rfl) (Nat.le_of_ble_eq_true rfl) (Nat.le_of_ble_eq_true rfl) rfl (fun c_14 => ?_) (fun hb h' e => g_PPx (g_allx (Or.inl (g_T12 (of_decide_eq_true (by simpa using hb))))) ⟨rfl, rfl, rfl, rfl, _, _, _, _, _, _, _, _, A, ok, fun i hi => (e i hi).trans (g_tw_up i hi)⟩)
  have hk0 : ¬ (g_ky (g_at u N) N (g_pl (g_at u N) N 0)) = 12 := of_decide_eq_false (by simpa using c_14)
  refine x_same (h' := (g_pw u N h (g_pl (g_at u N) N 0) 0 0 A)) g_tw_up ?_
  refine x_aload_n d_PA_parse_17 rfl rfl ?_
  refine x_get d_PA_parse_18 f_PA_12 (Nat.le_of_ble_eq_true rfl) (Nat.le_of_ble_eq_true rfl) (by first | rfl | assumption) (by rfl) ?_
  refine x_get d_PA_parse_21 f_PA_36 (Nat.le_of_ble_eq_true rfl) (Nat.le_of_ble_eq_true rfl) (by first | rfl | assumption) (by rfl) ?_
  refine x_istore_n d_PA_parse_24 rfl (Nat.le_of_ble_eq_true rfl) ?_
  refine x_aload_n d_PA_parse_25 rfl rfl ?_
  refine x_get d_PA_parse_26 f_PA_21 (Nat.le_of_ble_eq_true rfl) (Nat.le_of_ble_eq_true rfl) (by first | rfl | assumption) (by rfl) ?_
  refine x_aload_n d_PA_parse_29 rfl rfl ?_
  refine x_sipush 1200 d_PA_parse_30 (by decide) ?_
  refine x_iconst 1 d_PA_parse_33 (by decide) ?_
  refine x_callV2P d_PA_parse_34 k_PA_39 (Nat.le_of_ble_eq_true rfl) (Nat.le_of_ble_eq_true rfl) (by first | rfl | assumption) (by rfl) (w_PA_term h2 h1 hu hN hnt 100 1200 (g_pl (g_at u N) N 0) 0 0 1 A [] (by decide) ok hp0 (Nat.zero_le _) (by decide) (fun _ => ⟨⟨rfl, Nat.le_refl _⟩, fun v hv => absurd hv (Nat.not_lt_zero _)⟩) hk0 rfl) (Nat.le_of_ble_eq_true rfl) (Nat.le_of_ble_eq_true rfl) (Nat.le_of_ble_eq_true rfl) (Nat.le_of_ble_eq_true rfl) (Nat.le_of_ble_eq_true rfl) rfl hnt (fun p1 s1 V1 t1 c1 A1 w1 j1 hr hk1 hj1 hw1 ok1 hRL1 => ?_) (fun q hd h' hx => g_PPx (g_allx hd) (g_XFG hx))
  have b1 := g_Tb (u := u) 100 1200 (g_pl (g_at u N) N 0) 0 [] (by decide) hp0 _ _ _ _ _ hr
  have hAll : g_all u N = (if ¬ (g_ky (g_at u N) N p1) = 0 then .inl p1 else if ¬ (g_ky (g_at u N) N (g_nx (g_at u N) N p1)) = 13 then .inl (g_nx (g_at u N) N p1) else if 1000 < s1 then .inl (g_pl (g_at u N) N 0) else .inr (s1, V1, t1)) := by unfold g_all; rw [hr]
  refine x_put d_PA_parse_37 f_PA_43 (Nat.le_of_ble_eq_true rfl) (Nat.le_of_ble_eq_true rfl) (by first | rfl | assumption) (by rfl) (by rfl) (by exact (Nat.le_of_ble_eq_true rfl)) ?_
  refine x_same (h' := (g_tw (x_up h 3 (g_sgc u N p1)) (nI s1) (nI w1) (nI j1) A1)) g_tw_rt ?_
  refine x_aload_n d_PA_parse_40 rfl rfl ?_
  refine x_get d_PA_parse_41 f_PA_12 (Nat.le_of_ble_eq_true rfl) (Nat.le_of_ble_eq_true rfl) (by first | rfl | assumption) (by rfl) ?_
  refine x_gSN (i := 3) d_PA_parse_44 (by decide) s_PA_46 ?_
  refine x_callV1B d_PA_parse_47 k_PA_52 (Nat.le_of_ble_eq_true rfl) (Nat.le_of_ble_eq_true rfl) rfl (by rfl) (w_SG_mustBe rfl (g_sgk _ (g_kyL (u := u) b1.2.1)).2.2.1 (by decide)) (Nat.le_of_ble_eq_true rfl) (Nat.le_of_ble_eq_true rfl) (Nat.le_of_ble_eq_true rfl) (Nat.le_of_ble_eq_true rfl) (Nat.le_of_ble_eq_true rfl) rfl (fun c_47 => ?_) (fun hb h' e => g_PPx (hAll.trans (if_pos (fun z => of_decide_eq_false hb ((g_sgk _ (g_kyL (u := u) b1.2.1)).2.2.2.2.2.2.2.2.2.2.1.mpr z)))) ⟨rfl, rfl, rfl, rfl, _, _, _, _, _, _, _, _, A1, ok1, fun i hi => (e i hi).trans (g_rw_up i hi)⟩)
  have hk0' : (g_ky (g_at u N) N p1) = 0 := (g_sgk _ (g_kyL (u := u) b1.2.1)).2.2.2.2.2.2.2.2.2.2.1.mp (of_decide_eq_true c_47)
  have hnb := g_nxb (u := u) b1.2.1 hk1
  have hadv := w_SG_advance (E := E) (h := (g_tw (x_up h 3 (g_sgc u N p1)) (nI s1) (nI w1) (nI j1) A1)) (u := u) (N := N) (i := (g_bh (g_at u N) N p1)) (p := (g_nx (g_at u N) N p1)) (k := (g_ky (g_at u N) N (g_nx (g_at u N) N p1))) (f := (g_fr (g_at u N) N (g_nx (g_at u N) N p1))) (t := (g_to (g_at u N) N (g_nx (g_at u N) N p1))) (b := (g_bh (g_at u N) N (g_nx (g_at u N) N p1))) rfl h1 hu hN ((g_tkb (u := u) b1.2.1).2.1 hk1).2.2.1 rfl g_tkE
  refine x_aload_n d_PA_parse_50 rfl rfl ?_
  refine x_get d_PA_parse_51 f_PA_12 (Nat.le_of_ble_eq_true rfl) (Nat.le_of_ble_eq_true rfl) (by first | rfl | assumption) (by rfl) ?_
  refine x_callV0B d_PA_parse_54 k_PA_56 (Nat.le_of_ble_eq_true rfl) (Nat.le_of_ble_eq_true rfl) rfl (by rfl) hadv (Nat.le_of_ble_eq_true rfl) (Nat.le_of_ble_eq_true rfl) (Nat.le_of_ble_eq_true rfl) (Nat.le_of_ble_eq_true rfl) (Nat.le_of_ble_eq_true rfl) rfl (fun c_54 => ?_) (fun hb h' e => g_PPx (hAll.trans ((if_neg (fun z => z hk0')).trans (if_pos (by rw [of_decide_eq_true (show decide (g_ky (g_at u N) N (g_nx (g_at u N) N p1) = 12) = true by simpa using hb)]; decide)))) ⟨rfl, rfl, rfl, rfl, _, _, _, _, _, _, _, _, A1, ok1, fun i hi => (e i hi).trans (g_rw_up i hi)⟩)
  have hk2 : ¬ (g_ky (g_at u N) N (g_nx (g_at u N) N p1)) = 12 := of_decide_eq_false (by simpa using c_54)
  refine x_same (h' := (g_tw (x_up h 3 (g_sgc u N (g_nx (g_at u N) N p1))) (nI s1) (nI w1) (nI j1) A1)) g_rw_up ?_
  refine x_aload_n d_PA_parse_57 rfl rfl ?_
  refine x_get d_PA_parse_58 f_PA_12 (Nat.le_of_ble_eq_true rfl) (Nat.le_of_ble_eq_true rfl) (by first | rfl | assumption) (by rfl) ?_
  refine x_gSN (i := 11) d_PA_parse_61 (by decide) s_PA_59 ?_
  refine x_callV1B d_PA_parse_64 k_PA_52 (Nat.le_of_ble_eq_true rfl) (Nat.le_of_ble_eq_true rfl) rfl (by rfl) (w_SG_mustBe rfl (g_sgk _ (g_kyL (u := u) hnb.2.1)).2.2.1 (by decide)) (Nat.le_of_ble_eq_true rfl) (Nat.le_of_ble_eq_true rfl) (Nat.le_of_ble_eq_true rfl) (Nat.le_of_ble_eq_true rfl) (Nat.le_of_ble_eq_true rfl) rfl (fun c_64 => ?_) (fun hb h' e => g_PPx (hAll.trans ((if_neg (fun z => z hk0')).trans (if_pos (fun z => of_decide_eq_false hb (((g_sgk _ (g_kyL (u := u) hnb.2.1)).2.2.2.2.2.2.2.2.2.2.2 hk2).mpr z))))) ⟨rfl, rfl, rfl, rfl, _, _, _, _, _, _, _, _, A1, ok1, fun i hi => (e i hi).trans (g_rw_up i hi)⟩)
  have hk13 : (g_ky (g_at u N) N (g_nx (g_at u N) N p1)) = 13 := ((g_sgk _ (g_kyL (u := u) hnb.2.1)).2.2.2.2.2.2.2.2.2.2.2 hk2).mp (of_decide_eq_true c_64)
  refine x_aload_n d_PA_parse_67 rfl rfl ?_
  refine x_get d_PA_parse_68 f_PA_21 (Nat.le_of_ble_eq_true rfl) (Nat.le_of_ble_eq_true rfl) (by first | rfl | assumption) (by rfl) ?_
  refine x_get d_PA_parse_71 f_PA_62 (Nat.le_of_ble_eq_true rfl) (Nat.le_of_ble_eq_true rfl) (by first | rfl | assumption) (by rfl) ?_
  refine x_sipush 1000 d_PA_parse_74 (by decide) ?_
  refine x_icmp_le 88 d_PA_parse_77 (by decide) (fun c_77 => ?_) (fun c_77 => ?_)
  · have hs : s1 ≤ 1000 := (nI_leI (b := 1000) (by omega) (by decide)).mp c_77
    obtain ⟨r1, r2, r3, r4, r5, r6⟩ := hRL1 hs
    have hfin := hAll.trans ((if_neg (fun z => z hk0')).trans ((if_neg (fun z => z hk13)).trans (if_neg (show ¬ 1000 < s1 by omega))))
    rw [hfin]
    refine x_aload_n d_PA_parse_88 rfl rfl ?_
    refine x_get d_PA_parse_89 f_PA_21 (Nat.le_of_ble_eq_true rfl) (Nat.le_of_ble_eq_true rfl) (by first | rfl | assumption) (by rfl) ?_
    exact x_areturn d_PA_parse_92 rfl ⟨A1, j1, _, _, _, _, _, rfl, rfl, rfl, rfl, ok1, hs, r3, r4.2, by have := r6.1; omega, g_cT_mv (P := fun n => 0 ≤ n ∧ n < s1 ∧ n ≠ j1) (fun n hn => ⟨⟨hn.2.1, hn.2.2⟩, fun q hq => rfl⟩) (fun q hq _ _ => rfl) r5, by rw [← r6.1.1]; exact fun _ _ => rfl⟩
  · refine x_aload_n d_PA_parse_80 rfl rfl ?_
    refine x_get d_PA_parse_81 f_PA_12 (Nat.le_of_ble_eq_true rfl) (Nat.le_of_ble_eq_true rfl) (by first | rfl | assumption) (by rfl) ?_
    refine x_iload_n d_PA_parse_84 rfl rfl ?_
    exact x_callV1X d_PA_parse_85 k_PA_65 (Nat.le_of_ble_eq_true rfl) (Nat.le_of_ble_eq_true rfl) rfl (by rfl) (w_SG_breakAt rfl) (Nat.le_of_ble_eq_true rfl) (Nat.le_of_ble_eq_true rfl) (Nat.le_of_ble_eq_true rfl) (Nat.le_of_ble_eq_true rfl) (Nat.le_of_ble_eq_true rfl) rfl (fun h' e => g_PPx (hAll.trans ((if_neg (fun z => z hk0')).trans ((if_neg (fun z => z hk13)).trans (if_pos (Nat.not_le.mp fun q => c_77 (nI_le q (by decide))))))) ⟨rfl, rfl, rfl, rfl, _, _, _, _, _, _, _, _, A1, ok1, fun i hi => (e i hi).trans (g_rw_up i hi)⟩)
