theorem g_addq {A : Nat → Nat → Int32} {i n q : Nat} {k f t : Int32} (h : n ≠ i) (hq : q ≤ 6) : g_addA A i k f t q n = A q n := by
  unfold g_addA
  have : Nat.beq q 7 = false := by
    cases hb : Nat.beq q 7 with
    | false => rfl
    | true => have := Nat.eq_of_beq_eq_true hb; omega
  rw [this]
  exact g_updN h
theorem g_leaf {A : Nat → Nat → Int32} {s w L : Nat} {V : List (Nat × Nat)} {k f t : Int32} (hk : k = nI (L % 8)) (h0 : L % 8 ≠ 0) (h1 : L % 8 = 1 ∨ L % 8 = 2 ∨ L % 8 = 3 → f = nI (L / 8 % 8192) ∧ t = nI (L / 65536)) (hV : s ≤ 1000 → g_VI A s w V) : g_RL A (g_addA A (g_nod s) k f t) s (s + 1) w V (L, g_nil) (g_nod s) := by
  intro hs
  have hn : g_nod s = s := by unfold g_nod; rw [if_pos (by omega)]
  rw [hn]
  refine ⟨fun n h q hq => g_addq (by omega) hq, Nat.le_refl _, Nat.lt_succ_self _, ⟨g_updY, g_updY⟩, ⟨⟨?_, fun z => absurd z h0, fun z => ?_⟩, ?_⟩, ?_⟩
  · show upd (A 0) s k s = _
    rw [g_updY]; exact hk
  · obtain ⟨e1, e2⟩ := h1 z
    exact ⟨by show upd (A 1) s f s = _; rw [g_updY]; exact e1, by show upd (A 2) s t s = _; rw [g_updY]; exact e2⟩
  · show upd (A 4) s (-1) s = -1
    exact g_updY
  · obtain ⟨e1, e2⟩ := hV (by omega)
    refine ⟨⟨e1.1, by omega⟩, fun v hv => ?_⟩
    obtain ⟨n, g1, g2, g3, g4, g5⟩ := e2 v hv
    exact ⟨n, by omega, g2, (g_addq (by omega) (by decide)).trans g3, (g_addq (by omega) (by decide)).trans g4, g5⟩
theorem d_PA_addSymbol_0 : decode M_PA_addSymbol.2.1 0 = .ok (.aload_n 0, 1) := by decide +kernel
theorem d_PA_addSymbol_1 : decode M_PA_addSymbol.2.1 1 = .ok (.getfield 21, 3) := by decide +kernel
theorem d_PA_addSymbol_4 : decode M_PA_addSymbol.2.1 4 = .ok (.iload_n 1, 1) := by decide +kernel
theorem d_PA_addSymbol_5 : decode M_PA_addSymbol.2.1 5 = .ok (.aload_n 0, 1) := by decide +kernel
theorem d_PA_addSymbol_6 : decode M_PA_addSymbol.2.1 6 = .ok (.getfield 12, 3) := by decide +kernel
theorem d_PA_addSymbol_9 : decode M_PA_addSymbol.2.1 9 = .ok (.getfield 167, 3) := by decide +kernel
theorem d_PA_addSymbol_12 : decode M_PA_addSymbol.2.1 12 = .ok (.aload_n 0, 1) := by decide +kernel
theorem d_PA_addSymbol_13 : decode M_PA_addSymbol.2.1 13 = .ok (.getfield 12, 3) := by decide +kernel
theorem d_PA_addSymbol_16 : decode M_PA_addSymbol.2.1 16 = .ok (.getfield 170, 3) := by decide +kernel
theorem d_PA_addSymbol_19 : decode M_PA_addSymbol.2.1 19 = .ok (.invokevirtual 173, 3) := by decide +kernel
theorem d_PA_addSymbol_22 : decode M_PA_addSymbol.2.1 22 = .ok (.ireturn, 1) := by decide +kernel
set_option maxRecDepth 20000 in
theorem w_PA_addSymbol {E : xR} {h : xH} {u : Nat → Nat} {N p s w : Nat} {A : Nat → Nat → Int32} {k : Int32} (h2 : h 2 = .inr (1, [.ref 3, .ref 5])) (hs : s < 5000) : x_Mt E M_PA_addSymbol 2 0 0 [.ref 2, .int k] 52 (g_pw u N h p s w A) (x_Y (some (.int (nI (g_nod s)))) 52 (g_pw u N h p (s + 1) w (g_addA A (g_nod s) k (nI (g_fr (g_at u N) N p)) (nI (g_to (g_at u N) N p))))) := by
  refine x_Mt.of (by decide) (Nat.le_of_ble_eq_true rfl) ?_
  show x_W E M_PA_addSymbol _ _ 52 (g_pw u N h p s w A) 0 [(0, .ref 2), (1, .int k)] [] 0 0
  refine x_aload_n d_PA_addSymbol_0 rfl rfl ?_
  refine x_get d_PA_addSymbol_1 f_PA_21 (Nat.le_of_ble_eq_true rfl) (Nat.le_of_ble_eq_true rfl) (by first | rfl | assumption) (by rfl) ?_
  refine x_iload_n d_PA_addSymbol_4 rfl rfl ?_
  refine x_aload_n d_PA_addSymbol_5 rfl rfl ?_
  refine x_get d_PA_addSymbol_6 f_PA_12 (Nat.le_of_ble_eq_true rfl) (Nat.le_of_ble_eq_true rfl) (by first | rfl | assumption) (by rfl) ?_
  refine x_get d_PA_addSymbol_9 f_PA_167 (Nat.le_of_ble_eq_true rfl) (Nat.le_of_ble_eq_true rfl) (by first | rfl | assumption) (by rfl) ?_
  refine x_aload_n d_PA_addSymbol_12 rfl rfl ?_
  refine x_get d_PA_addSymbol_13 f_PA_12 (Nat.le_of_ble_eq_true rfl) (Nat.le_of_ble_eq_true rfl) (by first | rfl | assumption) (by rfl) ?_
  refine x_get d_PA_addSymbol_16 f_PA_170 (Nat.le_of_ble_eq_true rfl) (Nat.le_of_ble_eq_true rfl) (by first | rfl | assumption) (by rfl) ?_
  refine x_callV3Y d_PA_addSymbol_19 k_PA_173 (Nat.le_of_ble_eq_true rfl) (Nat.le_of_ble_eq_true rfl) (by first | rfl | assumption) (by rfl) (w_TE_add hs) (Nat.le_of_ble_eq_true rfl) (Nat.le_of_ble_eq_true rfl) (Nat.le_of_ble_eq_true rfl) (Nat.le_of_ble_eq_true rfl) (Nat.le_of_ble_eq_true rfl) rfl ?_
  exact x_ireturn d_PA_addSymbol_22 rfl rfl ⟨rfl, rfl, fun _ _ => rfl, rfl, rfl⟩
theorem d_PA_atom_0 : decode M_PA_atom.2.1 0 = .ok (.aload_n 0, 1) := by decide +kernel
theorem d_PA_atom_1 : decode M_PA_atom.2.1 1 = .ok (.aload_n 0, 1) := by decide +kernel
theorem d_PA_atom_2 : decode M_PA_atom.2.1 2 = .ok (.getfield 12, 3) := by decide +kernel
theorem d_PA_atom_5 : decode M_PA_atom.2.1 5 = .ok (.ldc 165, 2) := by decide +kernel
theorem d_PA_atom_7 : decode M_PA_atom.2.1 7 = .ok (.invokevirtual 148, 3) := by decide +kernel
theorem d_PA_atom_10 : decode M_PA_atom.2.1 10 = .ok (.ifCond .eq 7, 3) := by decide +kernel
theorem d_PA_atom_13 : decode M_PA_atom.2.1 13 = .ok (.iconst 5, 1) := by decide +kernel
theorem d_PA_atom_14 : decode M_PA_atom.2.1 14 = .ok (.goto 4, 3) := by decide +kernel
theorem d_PA_atom_17 : decode M_PA_atom.2.1 17 = .ok (.iconst 3, 1) := by decide +kernel
theorem d_PA_atom_18 : decode M_PA_atom.2.1 18 = .ok (.invokevirtual 137, 3) := by decide +kernel
theorem d_PA_atom_21 : decode M_PA_atom.2.1 21 = .ok (.istore_n 1, 1) := by decide +kernel
theorem d_PA_atom_22 : decode M_PA_atom.2.1 22 = .ok (.aload_n 0, 1) := by decide +kernel
theorem d_PA_atom_23 : decode M_PA_atom.2.1 23 = .ok (.getfield 12, 3) := by decide +kernel
theorem d_PA_atom_26 : decode M_PA_atom.2.1 26 = .ok (.invokevirtual 56, 3) := by decide +kernel
theorem d_PA_atom_29 : decode M_PA_atom.2.1 29 = .ok (.iload_n 1, 1) := by decide +kernel
theorem d_PA_atom_30 : decode M_PA_atom.2.1 30 = .ok (.ireturn, 1) := by decide +kernel
set_option maxRecDepth 20000 in
theorem w_PA_atom {E : xR} {h : xH} {u : Nat → Nat} {N p s w : Nat} {A : Nat → Nat → Int32} {V : List (Nat × Nat)} (h2 : h 2 = .inr (1, [.ref 3, .ref 5])) (h1 : h 1 = .inl (1, 4096, .inl (fun i => g_sb (u i)))) (hu : ∀ i, u i < 256) (hN : N ≤ 4096) (hnt : ¬ x_tg E) (ok : g_okA A) (hp : p ≤ N) (hsp : s ≤ p) (hw : w ≤ 1000) (hV : s ≤ 1000 → g_VI A s w V) (hk3 : (g_ky (g_at u N) N p) = 3) : x_Mt E M_PA_atom 9 1 6 [.ref 2] 52 (g_pw u N h p s w A) (g_Po u N h A s (.inr ((g_nx (g_at u N) N p), s + 1, V, (bif g_is (g_at u N) (g_fr (g_at u N) N p) (g_to (g_at u N) N p) [91, 93] then g_lb 5 0 0 else g_lb 3 (g_fr (g_at u N) N p) (g_to (g_at u N) N p), g_nil), 0))) := by
  obtain ⟨hft, htN, hbN, -⟩ := (g_tkb (u := u) hp).2.1 (show (g_tk (g_at u N) N p).1 ≠ 12 from fun z => absurd (hk3.symm.trans z) (by decide))
  have hft : (g_fr (g_at u N) N p) ≤ (g_to (g_at u N) N p) := hft
  have htN : (g_to (g_at u N) N p) ≤ N := htN
  have hsg : g_sg (g_ky (g_at u N) N p) < 12 := by rw [hk3]; decide
  refine x_Mt.of (by decide) (Nat.le_of_ble_eq_true rfl) ?_
  have hj5 : g_is (g_at u N) (g_fr (g_at u N) N p) (g_to (g_at u N) N p) [91, 93] = true → x_W E M_PA_atom (x_room 9 1 6) (g_Po u N h A s (.inr ((g_nx (g_at u N) N p), s + 1, V, (bif g_is (g_at u N) (g_fr (g_at u N) N p) (g_to (g_at u N) N p) [91, 93] then g_lb 5 0 0 else g_lb 3 (g_fr (g_at u N) N p) (g_to (g_at u N) N p), g_nil), 0))) 52 (g_pw u N h p s w A) 18 [(0, .ref 2)] [.int 5, .ref 2] 0 0 := by
    intro hb
    refine x_callV1Y d_PA_atom_18 k_PA_137 (Nat.le_of_ble_eq_true rfl) (Nat.le_of_ble_eq_true rfl) (by first | rfl | assumption) (by rfl) (w_PA_addSymbol h2 (by omega)) (Nat.le_of_ble_eq_true rfl) (Nat.le_of_ble_eq_true rfl) (Nat.le_of_ble_eq_true rfl) (Nat.le_of_ble_eq_true rfl) (Nat.le_of_ble_eq_true rfl) rfl ?_
    refine x_istore_n d_PA_atom_21 rfl (Nat.le_of_ble_eq_true rfl) ?_
    refine x_aload_n d_PA_atom_22 rfl rfl ?_
    refine x_get d_PA_atom_23 f_PA_12 (Nat.le_of_ble_eq_true rfl) (Nat.le_of_ble_eq_true rfl) (by first | rfl | assumption) (by rfl) ?_
    refine x_callAdv h1 hu hN (g_okadd ok _ hft (by omega)) hp (by rw [hk3]; decide) d_PA_atom_26 k_PA_56 (Nat.le_of_ble_eq_true rfl) (Nat.le_of_ble_eq_true rfl) (Nat.le_of_ble_eq_true rfl) (Nat.le_of_ble_eq_true rfl) (Nat.le_of_ble_eq_true rfl) rfl (fun c_26 => ?_) (fun c h' hx => g_Po_x (Or.inr ⟨_, _, _, _, rfl, c⟩) hx)
    refine x_iload_n d_PA_atom_29 rfl rfl ?_
    exact x_ireturn d_PA_atom_30 rfl rfl (by rw [hb]; exact g_Po_y rfl c_26 (g_nodL s) hw (g_okadd ok _ hft (by omega)) (g_leaf (L := g_lb 5 0 0) rfl (by decide) (fun z => absurd z (by decide)) hV) (fun _ _ => rfl))
  have hj3 : g_is (g_at u N) (g_fr (g_at u N) N p) (g_to (g_at u N) N p) [91, 93] = false → x_W E M_PA_atom (x_room 9 1 6) (g_Po u N h A s (.inr ((g_nx (g_at u N) N p), s + 1, V, (bif g_is (g_at u N) (g_fr (g_at u N) N p) (g_to (g_at u N) N p) [91, 93] then g_lb 5 0 0 else g_lb 3 (g_fr (g_at u N) N p) (g_to (g_at u N) N p), g_nil), 0))) 52 (g_pw u N h p s w A) 18 [(0, .ref 2)] [.int 3, .ref 2] 0 0 := by
    intro hb
    refine x_callV1Y d_PA_atom_18 k_PA_137 (Nat.le_of_ble_eq_true rfl) (Nat.le_of_ble_eq_true rfl) (by first | rfl | assumption) (by rfl) (w_PA_addSymbol h2 (by omega)) (Nat.le_of_ble_eq_true rfl) (Nat.le_of_ble_eq_true rfl) (Nat.le_of_ble_eq_true rfl) (Nat.le_of_ble_eq_true rfl) (Nat.le_of_ble_eq_true rfl) rfl ?_
    refine x_istore_n d_PA_atom_21 rfl (Nat.le_of_ble_eq_true rfl) ?_
    refine x_aload_n d_PA_atom_22 rfl rfl ?_
    refine x_get d_PA_atom_23 f_PA_12 (Nat.le_of_ble_eq_true rfl) (Nat.le_of_ble_eq_true rfl) (by first | rfl | assumption) (by rfl) ?_
    refine x_callAdv h1 hu hN (g_okadd ok _ hft (by omega)) hp (by rw [hk3]; decide) d_PA_atom_26 k_PA_56 (Nat.le_of_ble_eq_true rfl) (Nat.le_of_ble_eq_true rfl) (Nat.le_of_ble_eq_true rfl) (Nat.le_of_ble_eq_true rfl) (Nat.le_of_ble_eq_true rfl) rfl (fun c_26 => ?_) (fun c h' hx => g_Po_x (Or.inr ⟨_, _, _, _, rfl, c⟩) hx)
    refine x_iload_n d_PA_atom_29 rfl rfl ?_
    exact x_ireturn d_PA_atom_30 rfl rfl (by rw [hb]; exact g_Po_y rfl c_26 (g_nodL s) hw (g_okadd ok _ hft (by omega)) (g_leaf (L := g_lb 3 (g_fr (g_at u N) N p) (g_to (g_at u N) N p)) (by rw [g_lb1 (by decide)]; rfl) (by rw [g_lb1 (by decide)]; decide) (fun _ => by rw [g_lb2 (by decide) (by omega), g_lb3 (by decide) (by omega)]; exact ⟨rfl, rfl⟩) hV) (fun _ _ => rfl))
  show x_W E M_PA_atom _ _ 52 (g_pw u N h p s w A) 0 [(0, .ref 2)] [] 0 0
  refine x_aload_n d_PA_atom_0 rfl rfl ?_
  refine x_aload_n d_PA_atom_1 rfl rfl ?_
  refine x_get d_PA_atom_2 f_PA_12 (Nat.le_of_ble_eq_true rfl) (Nat.le_of_ble_eq_true rfl) (by first | rfl | assumption) (by rfl) ?_
  refine x_ldcS (i := 6) d_PA_atom_5 6 rfl ?_
  refine x_callV1Y d_PA_atom_7 k_PA_148 (Nat.le_of_ble_eq_true rfl) (Nat.le_of_ble_eq_true rfl) (by first | rfl | assumption) (by rfl) (w_SG_textIs (i := 6) (by decide) (by first | rfl | assumption) (by first | rfl | assumption) hu hN hft (by omega)) (Nat.le_of_ble_eq_true rfl) (Nat.le_of_ble_eq_true rfl) (Nat.le_of_ble_eq_true rfl) (Nat.le_of_ble_eq_true rfl) (Nat.le_of_ble_eq_true rfl) rfl ?_
  refine x_if_eq 17 d_PA_atom_10 (by decide) (fun c_10 => ?_) (fun c_10 => ?_)
  · refine x_iconst 3 d_PA_atom_17 (by decide) ?_
    exact hj3 (g_b2z c_10)
  · refine x_iconst 5 d_PA_atom_13 (by decide) ?_
    refine x_goto 18 d_PA_atom_14 (by decide) ?_
    exact hj5 (g_b2n c_10)
