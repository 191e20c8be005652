theorem x_callCV0G {E : xR} {M : xM} {R : Room} {Q Q' : xK} {n : Nat} {h : xH} {pc : Nat} {lv : List (Nat × Value)} {rest : List Value} {cells slots idx : Nat} {M' : xM} {d0 kc ks : Nat} {i ci N : Nat} {fs : List Value} {T : u_T} (d : decode M.2.1 pc = .ok (.invokevirtual idx, 3)) (hk : x_CV M.1.cls idx M' 0) (hi : i < n) (hlo1 : i < 1000000) (hc : h i = .inr (ci, fs)) (hcc : x_Cl[ci]? = some (M'.1.cls, T, N)) (hM : x_Mt E M' d0 kc ks [.ref i] n h Q') (hfr : d0 + 1 ≤ R.frames) (hlo : 8 + (M'.2.2.1 + 11) + 64 * d0 ≤ R.locals) (hcl : cells + kc ≤ R.cells) (hsl : slots + ks ≤ R.slots) (hrs : (rest.map fun v => v.category).sum ≤ 8) (hnt : ¬ x_tg E) (ai : Nat) (hai : ai < M.2.2.1)
    (kr : ∀ v n' h' k j, Q' (.inl v) n' h' k j → x_W E M R Q n' h' (pc + 3) lv (v.toList ++ rest) (cells + k) (slots + j))
    (kt : ∀ q n' h' k j, Q' (.inr q) n' h' k j → x_Cc E M pc q (fun hp => (∃ z : Fin 4, decode M.2.1 hp = .ok (.astore_n z, 1) ∧ (z : Nat) = ai ∧ x_W E M R Q n' h' (hp + 1) (lv.filter fun q => !(q.1 == ai) && !(q.1 + 1 == ai && q.2.category == 2)) [] (cells + k) (slots + j)) ∨ (decode M.2.1 hp = .ok (.astore ai, 2) ∧ x_W E M R Q n' h' (hp + 2) (lv.filter fun q => !(q.1 == ai) && !(q.1 + 1 == ai && q.2.category == 2)) [] (cells + k) (slots + j)))) : x_W E M R Q n h pc lv (.ref i :: rest) cells slots :=
  x_callC (av := [.ref i]) (rest := rest) d (x_ivV (av := []) (C := M'.1.cls) d hk.1 hk.2.1 hk.2.2.2.1 hk.2.2.2.2.1 (fun s H locs _ hK hP _ => x_recv hK hP hi hlo1 hc hcc) hk.2.2.2.2.2) hk.2.1 hk.2.2.1 hM hfr hlo hcl hsl hrs hnt ai hai kr kt
/-- the reference's cells stay -/
def g_MI (h h' : xH) : Prop := ∀ i, 21 ≤ i → i < 51 → h' i = h i
/-- what the law's read comes to -/
def g_LRQ (h : xH) (u : Nat → Nat) (N ra : Nat) (rl sy va ne : Int32) (Rs : Nat → Int32) : xK := fun o n' h' k j => n' = 52 ∧ g_MI h h' ∧ match g_all u N with
  | .inl q => o = .inl (some (.int 1)) ∧ k = 1 ∧ j = 6 ∧ h' 51 = h 51 ∧ g_CW h' u 0 ra rl sy va ne (nI q) Rs
  | .inr (s, V, t) => if 4096 < (g_pt u t).length then o = .inl (some (.int 2)) ∧ k = 1 ∧ j = 6 ∧ h' 51 = h 51 ∧ g_CW h' u 0 ra rl sy va ne (-1) Rs else o = .inl (some (.int 0)) ∧ k = 0 ∧ j = 0 ∧ (∃ g : Nat → Int64, h' 51 = .inl (2, 1, .inr (.inl (vp_updL g 0 (nI (g_pt u t).length).toInt64)))) ∧ ∃ P0, g_CW h' u 0 (39 - ra) (nI (g_pt u t).length) (nI s) (nI V.length) (nI (g_dt t)) (-1) (g_ps P0 0 (g_pt u t))
theorem g_CWS {h h' : xH} {u : Nat → Nat} {N ra : Nat} {rl sy va ne bk : Int32} {Rs : Nat → Int32} (hra : ra = 19 ∨ ra = 20) (H : g_CW h u N ra rl sy va ne bk Rs) (he : ∀ i, i < 21 → h' i = h i) : g_CW h' u N ra rl sy va ne bk Rs := by
  unfold g_CW at *
  rw [he 0 (by decide), he 1 (by decide), he 2 (by decide), he 3 (by decide), he 5 (by decide), he 6 (by decide), he 7 (by decide), he 8 (by decide), he 9 (by decide), he 10 (by decide), he 11 (by decide), he 12 (by decide), he 13 (by decide), he 15 (by decide), he 16 (by decide), he 17 (by decide), he (39 - ra) (by omega), he ra (by omega)]
  exact H
theorem g_MMS {h h' : xH} {u : Nat → Nat} {N : Nat} {th pl : Int32} {rl : Nat} {sy va de : Int32} {Rs : Nat → Int32} (H : g_MM h u N th pl rl sy va de Rs) (he : g_MI h h') : g_MM h' u N th pl rl sy va de Rs := by
  obtain ⟨a, b, c, d⟩ := H
  exact ⟨(he 21 (by decide) (by decide)).trans a, (he 22 (by decide) (by decide)).trans b, (he 23 (by decide) (by decide)).trans c, g_MMrS d (fun i h1 h2 => he i (by omega) h2)⟩
theorem d_LA_read_0 : decode M_LA_read.2.1 0 = .ok (.aload_n 1, 1) := by decide +kernel
theorem d_LA_read_1 : decode M_LA_read.2.1 1 = .ok (.iconst 0, 1) := by decide +kernel
theorem d_LA_read_2 : decode M_LA_read.2.1 2 = .ok (.aload_n 0, 1) := by decide +kernel
theorem d_LA_read_3 : decode M_LA_read.2.1 3 = .ok (.invokevirtual 21, 3) := by decide +kernel
theorem d_LA_read_6 : decode M_LA_read.2.1 6 = .ok (.i2l, 1) := by decide +kernel
theorem d_LA_read_7 : decode M_LA_read.2.1 7 = .ok (.lastore, 1) := by decide +kernel
theorem d_LA_read_8 : decode M_LA_read.2.1 8 = .ok (.goto 9, 3) := by decide +kernel
theorem d_LA_read_11 : decode M_LA_read.2.1 11 = .ok (.astore_n 2, 1) := by decide +kernel
theorem d_LA_read_12 : decode M_LA_read.2.1 12 = .ok (.iconst 1, 1) := by decide +kernel
theorem d_LA_read_13 : decode M_LA_read.2.1 13 = .ok (.ireturn, 1) := by decide +kernel
theorem d_LA_read_14 : decode M_LA_read.2.1 14 = .ok (.astore_n 2, 1) := by decide +kernel
theorem d_LA_read_15 : decode M_LA_read.2.1 15 = .ok (.iconst 2, 1) := by decide +kernel
theorem d_LA_read_16 : decode M_LA_read.2.1 16 = .ok (.ireturn, 1) := by decide +kernel
theorem d_LA_read_17 : decode M_LA_read.2.1 17 = .ok (.iconst 0, 1) := by decide +kernel
theorem d_LA_read_18 : decode M_LA_read.2.1 18 = .ok (.ireturn, 1) := by decide +kernel
set_option maxRecDepth 20000 in
theorem w_LA_read19 {E : xR} {h : xH} {u : Nat → Nat} {N : Nat} {rl sy va ne bk : Int32} {Rs : Nat → Int32} {g : Nat → Int64} (hC : g_CW h u N 19 rl sy va ne bk Rs) (hu : ∀ i, u i < 256) (hN : N ≤ 4096) (hnt : ¬ x_tg E) (ho : h 51 = .inl (2, 1, .inr (.inl g))) : x_Mt E M_LA_read 215 1 6 [.ref 0, .ref 51] 52 h (g_LRQ h u N 19 rl sy va ne Rs) := by
  have h0c := hC.1
  refine x_Mt.of (by decide) (Nat.le_of_ble_eq_true rfl) ?_
  show x_W E M_LA_read _ _ 52 h 0 [(0, .ref 0), (1, .ref 51)] [] 0 0
  refine x_aload_n d_LA_read_0 rfl rfl ?_
  refine x_iconst 0 d_LA_read_1 (by decide) ?_
  refine x_aload_n d_LA_read_2 rfl rfl ?_
  refine x_callCV0G d_LA_read_3 k_LA_21 (Nat.le_of_ble_eq_true rfl) (Nat.le_of_ble_eq_true rfl) h0c (by rfl) (w_TR_read19 hC hu hN hnt) (Nat.le_of_ble_eq_true rfl) (Nat.le_of_ble_eq_true rfl) (Nat.le_of_ble_eq_true rfl) (Nat.le_of_ble_eq_true rfl) (Nat.le_of_ble_eq_true rfl) hnt 2 (Nat.le_of_ble_eq_true rfl) (fun v n' h' k j hq => ?_) (fun q n' h' k j hq => ?_)
  · obtain ⟨rfl, hMS, hq⟩ := hq
    have ho' : h' 51 = .inl (2, 1, .inr (.inl g)) := (hMS 51 (by decide) (by decide)).trans ho
    cases hall : g_all u N with
    | inl x => rw [hall] at hq; cases hq.1
    | inr p =>
      obtain ⟨s, V, t⟩ := p
      rw [hall] at hq
      have hq : if 4096 < (g_pt u t).length then _ else _ := hq
      by_cases hp : 4096 < (g_pt u t).length
      · rw [if_pos hp] at hq; cases hq.1
      rw [if_neg hp] at hq
      obtain ⟨e, rfl, rfl, P0, hC'⟩ := hq
      cases e
      refine x_i2l d_LA_read_6 ?_
      refine x_last d_LA_read_7 (Nat.le_of_ble_eq_true rfl) (Nat.le_of_ble_eq_true rfl) (by first | rfl | assumption) (vp_in_nI (by decide) (by decide)) ?_
      refine x_goto 17 d_LA_read_8 (by decide) ?_
      refine x_iconst 0 d_LA_read_17 (by decide) ?_
      exact x_ireturn d_LA_read_18 rfl rfl ⟨rfl, fun i h1 h2 => (x_up_ne (by omega)).trans (hMS i h1 (by omega)), by
                rw [hall]
                show if 4096 < (g_pt u t).length then _ else _
                rw [if_neg hp]
                exact ⟨rfl, rfl, rfl, ⟨g, rfl⟩, P0, g_CWS (by decide) hC' (fun i hi => x_up_ne (by omega))⟩⟩
  · obtain ⟨rfl, hMS, hq⟩ := hq
    have ho' : h' 51 = h 51 := hMS 51 (by decide) (by decide)
    cases hall : g_all u N with
    | inl x =>
      rw [hall] at hq
      obtain ⟨e, rfl, rfl, hC'⟩ := hq
      cases e
      refine ⟨[], (0, 8, 11, 25), _, rfl, (fun z hz => by cases hz), by decide, by decide, by decide, ⟨"java/lang/UnsupportedOperationException", x_mem 375 (by decide +kernel) (by decide +kernel), x_mem 430 (by decide +kernel) (by decide +kernel)⟩, Or.inl ⟨2, d_LA_read_11, rfl, ?_⟩⟩
      refine x_iconst 1 d_LA_read_12 (by decide) ?_
      exact x_ireturn d_LA_read_13 rfl rfl ⟨rfl, fun i h1 h2 => hMS i h1 (by omega), by
                rw [hall]
                exact ⟨rfl, rfl, rfl, ho', hC'⟩⟩
    | inr p =>
      obtain ⟨s, V, t⟩ := p
      rw [hall] at hq
      have hq : if 4096 < (g_pt u t).length then _ else _ := hq
      by_cases hp : 4096 < (g_pt u t).length
      case neg => rw [if_neg hp] at hq; cases hq.1
      rw [if_pos hp] at hq
      obtain ⟨e, rfl, rfl, hC'⟩ := hq
      cases e
      refine ⟨[(0, 8, 11, 25)], (0, 8, 14, 13), _, rfl, (fun z hz => by
        rcases List.mem_singleton.mp hz with rfl
        exact ⟨by decide, "java/lang/UnsupportedOperationException", x_mem 375 (by decide +kernel) (by decide +kernel), rfl, rfl⟩), by decide, by decide, by decide, ⟨"java/lang/IndexOutOfBoundsException", x_mem 271 (by decide +kernel) (by decide +kernel), x_mem 278 (by decide +kernel) (by decide +kernel)⟩, Or.inl ⟨2, d_LA_read_14, rfl, ?_⟩⟩
      refine x_iconst 2 d_LA_read_15 (by decide) ?_
      exact x_ireturn d_LA_read_16 rfl rfl ⟨rfl, fun i h1 h2 => hMS i h1 (by omega), by
                rw [hall]
                show if 4096 < (g_pt u t).length then _ else _
                rw [if_pos hp]
                exact ⟨rfl, rfl, rfl, ho', hC'⟩⟩
set_option maxRecDepth 20000 in
theorem w_LA_read20 {E : xR} {h : xH} {u : Nat → Nat} {N : Nat} {rl sy va ne bk : Int32} {Rs : Nat → Int32} {g : Nat → Int64} (hC : g_CW h u N 20 rl sy va ne bk Rs) (hu : ∀ i, u i < 256) (hN : N ≤ 4096) (hnt : ¬ x_tg E) (ho : h 51 = .inl (2, 1, .inr (.inl g))) : x_Mt E M_LA_read 215 1 6 [.ref 0, .ref 51] 52 h (g_LRQ h u N 20 rl sy va ne Rs) := by
  have h0c := hC.1
  refine x_Mt.of (by decide) (Nat.le_of_ble_eq_true rfl) ?_
  show x_W E M_LA_read _ _ 52 h 0 [(0, .ref 0), (1, .ref 51)] [] 0 0
  refine x_aload_n d_LA_read_0 rfl rfl ?_
  refine x_iconst 0 d_LA_read_1 (by decide) ?_
  refine x_aload_n d_LA_read_2 rfl rfl ?_
  refine x_callCV0G d_LA_read_3 k_LA_21 (Nat.le_of_ble_eq_true rfl) (Nat.le_of_ble_eq_true rfl) h0c (by rfl) (w_TR_read20 hC hu hN hnt) (Nat.le_of_ble_eq_true rfl) (Nat.le_of_ble_eq_true rfl) (Nat.le_of_ble_eq_true rfl) (Nat.le_of_ble_eq_true rfl) (Nat.le_of_ble_eq_true rfl) hnt 2 (Nat.le_of_ble_eq_true rfl) (fun v n' h' k j hq => ?_) (fun q n' h' k j hq => ?_)
  · obtain ⟨rfl, hMS, hq⟩ := hq
    have ho' : h' 51 = .inl (2, 1, .inr (.inl g)) := (hMS 51 (by decide) (by decide)).trans ho
    cases hall : g_all u N with
    | inl x => rw [hall] at hq; cases hq.1
    | inr p =>
      obtain ⟨s, V, t⟩ := p
      rw [hall] at hq
      have hq : if 4096 < (g_pt u t).length then _ else _ := hq
      by_cases hp : 4096 < (g_pt u t).length
      · rw [if_pos hp] at hq; cases hq.1
      rw [if_neg hp] at hq
      obtain ⟨e, rfl, rfl, P0, hC'⟩ := hq
      cases e
      refine x_i2l d_LA_read_6 ?_
      refine x_last d_LA_read_7 (Nat.le_of_ble_eq_true rfl) (Nat.le_of_ble_eq_true rfl) (by first | rfl | assumption) (vp_in_nI (by decide) (by decide)) ?_
      refine x_goto 17 d_LA_read_8 (by decide) ?_
      refine x_iconst 0 d_LA_read_17 (by decide) ?_
      exact x_ireturn d_LA_read_18 rfl rfl ⟨rfl, fun i h1 h2 => (x_up_ne (by omega)).trans (hMS i h1 (by omega)), by
                rw [hall]
                show if 4096 < (g_pt u t).length then _ else _
                rw [if_neg hp]
                exact ⟨rfl, rfl, rfl, ⟨g, rfl⟩, P0, g_CWS (by decide) hC' (fun i hi => x_up_ne (by omega))⟩⟩
  · obtain ⟨rfl, hMS, hq⟩ := hq
    have ho' : h' 51 = h 51 := hMS 51 (by decide) (by decide)
    cases hall : g_all u N with
    | inl x =>
      rw [hall] at hq
      obtain ⟨e, rfl, rfl, hC'⟩ := hq
      cases e
      refine ⟨[], (0, 8, 11, 25), _, rfl, (fun z hz => by cases hz), by decide, by decide, by decide, ⟨"java/lang/UnsupportedOperationException", x_mem 375 (by decide +kernel) (by decide +kernel), x_mem 430 (by decide +kernel) (by decide +kernel)⟩, Or.inl ⟨2, d_LA_read_11, rfl, ?_⟩⟩
      refine x_iconst 1 d_LA_read_12 (by decide) ?_
      exact x_ireturn d_LA_read_13 rfl rfl ⟨rfl, fun i h1 h2 => hMS i h1 (by omega), by
                rw [hall]
                exact ⟨rfl, rfl, rfl, ho', hC'⟩⟩
    | inr p =>
      obtain ⟨s, V, t⟩ := p
      rw [hall] at hq
      have hq : if 4096 < (g_pt u t).length then _ else _ := hq
      by_cases hp : 4096 < (g_pt u t).length
      case neg => rw [if_neg hp] at hq; cases hq.1
      rw [if_pos hp] at hq
      obtain ⟨e, rfl, rfl, hC'⟩ := hq
      cases e
      refine ⟨[(0, 8, 11, 25)], (0, 8, 14, 13), _, rfl, (fun z hz => by
        rcases List.mem_singleton.mp hz with rfl
        exact ⟨by decide, "java/lang/UnsupportedOperationException", x_mem 375 (by decide +kernel) (by decide +kernel), rfl, rfl⟩), by decide, by decide, by decide, ⟨"java/lang/IndexOutOfBoundsException", x_mem 271 (by decide +kernel) (by decide +kernel), x_mem 278 (by decide +kernel) (by decide +kernel)⟩, Or.inl ⟨2, d_LA_read_14, rfl, ?_⟩⟩
      refine x_iconst 2 d_LA_read_15 (by decide) ?_
      exact x_ireturn d_LA_read_16 rfl rfl ⟨rfl, fun i h1 h2 => hMS i h1 (by omega), by
                rw [hall]
                show if 4096 < (g_pt u t).length then _ else _
                rw [if_pos hp]
                exact ⟨rfl, rfl, rfl, ho', hC'⟩⟩
