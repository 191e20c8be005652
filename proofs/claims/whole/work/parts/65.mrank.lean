theorem x_topv {E : xR} {M : xM} {R : Room} {Q : xK} {n : Nat} {h : xH} {pc : Nat} {lv : List (Nat × Value)} {rest : List Value} {cells slots : Nat} {v : Value} (v' : Value) (e : v = v') (k : x_W E M R Q n h pc lv (v' :: rest) cells slots) : x_W E M R Q n h pc lv (v :: rest) cells slots := by rw [e]; exact k
/-- an exception that stands in the world is thrown -/
theorem x_athrow {E : xR} {M : xM} {R : Room} {Q : xK} {n : Nat} {h : xH} {pc : Nat} {lv : List (Nat × Value)} {rest : List Value} {cells slots : Nat} {i : Nat} {fs : List Value} (d : decode M.2.1 pc = .ok (.athrow, 1)) (hi : i < n) (hlo : i < 1000000) (hc : h i = .inr (10, fs)) (ho : M.2.2.2.2.all (fun t => !(decide (t.1 ≤ pc) && decide (pc < t.2.1))) = true) (hq : Q (.inr 3) n h cells slots) : x_W E M R Q n h pc lv (.ref i :: rest) cells slots := by
  intro p e s m args below meth c H locs ls C hP hS hl hz T hT X
  obtain ⟨hx, hb, hml, hown, hr0, hlk, hnm, htb, hT0, hK, hL⟩ := C
  subst hT
  obtain ⟨q', h1, cell, g1, g2, g3, -⟩ := hP i _ (x_ob hi hc)
  obtain ⟨hrun0, hrun, hended, hW, hframe⟩ := X.athrowLeaves hx (g := F0 m pc ls (.ref (x_r E i) :: rest.map (x_v E))) rfl rfl rfl (x_out htb ho) rfl (by rw [hb]; exact d) hlk
  refine ⟨T.setFrames (.throwing (x_r E i) :: below), hrun0, .threw (x_r E i), hrun, hended, .inr 3, n, h, cells, slots, locs, hq, ⟨x_r E i, cell, rfl, ?_, g3, ?_⟩, hP, hS.F rfl, hW, hframe, hS.2.2⟩
  · rw [x_rlo E hlo]; exact g1
  · rw [hW.alike.findClass, g2]
    exact (hK.1 10 _ rfl).2.1
theorem d_RD_bad_0 : decode M_RD_bad.2.1 0 = .ok (.aload_n 0, 1) := by decide +kernel
theorem d_RD_bad_1 : decode M_RD_bad.2.1 1 = .ok (.iload_n 1, 1) := by decide +kernel
theorem d_RD_bad_2 : decode M_RD_bad.2.1 2 = .ok (.putfield 105, 3) := by decide +kernel
theorem d_RD_bad_5 : decode M_RD_bad.2.1 5 = .ok (.aload_n 0, 1) := by decide +kernel
theorem d_RD_bad_6 : decode M_RD_bad.2.1 6 = .ok (.getfield 64, 3) := by decide +kernel
theorem d_RD_bad_9 : decode M_RD_bad.2.1 9 = .ok (.areturn, 1) := by decide +kernel
set_option maxRecDepth 20000 in
theorem w_RD_bad {E : xR} {h : xH} {N : Nat} {aa bh tk oo lt tp pl vd kn rk : Int32} {nm : Int64} {Wd : Nat → Int32} {x : Int32} : x_Mt E M_RD_bad 0 0 0 [.ref 36, .int x] 52 (g_rw h N aa bh tk oo nm lt tp pl vd kn rk Wd) (x_Y (some (.ref 39)) 52 (g_rw h N aa bh tk oo nm lt tp x vd kn rk Wd)) := by
  refine x_Mt.of (by decide) (Nat.le_of_ble_eq_true rfl) ?_
  show x_W E M_RD_bad _ _ 52 (g_rw h N aa bh tk oo nm lt tp pl vd kn rk Wd) 0 [(0, .ref 36), (1, .int x)] [] 0 0
  refine x_aload_n d_RD_bad_0 rfl rfl ?_
  refine x_iload_n d_RD_bad_1 rfl rfl ?_
  refine x_put d_RD_bad_2 f_RD_105 (Nat.le_of_ble_eq_true rfl) (Nat.le_of_ble_eq_true rfl) (by first | rfl | assumption) (by rfl) (by rfl) (by exact (Nat.le_of_ble_eq_true rfl)) ?_
  refine x_aload_n d_RD_bad_5 rfl rfl ?_
  refine x_get d_RD_bad_6 f_RD_64 (Nat.le_of_ble_eq_true rfl) (Nat.le_of_ble_eq_true rfl) (by first | rfl | assumption) (by rfl) ?_
  exact x_areturn d_RD_bad_9 rfl ⟨rfl, rfl, x_pt rfl rfl rfl rfl rfl rfl rfl rfl rfl rfl rfl rfl rfl rfl rfl rfl rfl rfl rfl rfl rfl rfl rfl rfl rfl rfl rfl rfl rfl rfl rfl rfl rfl rfl rfl rfl rfl rfl rfl rfl rfl rfl rfl rfl rfl rfl rfl rfl rfl rfl rfl rfl, rfl, rfl⟩
theorem d_RD_spells_0 : decode M_RD_spells.2.1 0 = .ok (.aload_n 0, 1) := by decide +kernel
theorem d_RD_spells_1 : decode M_RD_spells.2.1 1 = .ok (.getfield 139, 3) := by decide +kernel
theorem d_RD_spells_4 : decode M_RD_spells.2.1 4 = .ok (.aload_n 1, 1) := by decide +kernel
theorem d_RD_spells_5 : decode M_RD_spells.2.1 5 = .ok (.invokevirtual 184, 3) := by decide +kernel
theorem d_RD_spells_8 : decode M_RD_spells.2.1 8 = .ok (.if_icmp .eq 5, 3) := by decide +kernel
theorem d_RD_spells_11 : decode M_RD_spells.2.1 11 = .ok (.iconst 0, 1) := by decide +kernel
theorem d_RD_spells_12 : decode M_RD_spells.2.1 12 = .ok (.ireturn, 1) := by decide +kernel
theorem d_RD_spells_13 : decode M_RD_spells.2.1 13 = .ok (.iconst 0, 1) := by decide +kernel
theorem d_RD_spells_14 : decode M_RD_spells.2.1 14 = .ok (.istore_n 2, 1) := by decide +kernel
theorem d_RD_spells_15 : decode M_RD_spells.2.1 15 = .ok (.iload_n 2, 1) := by decide +kernel
theorem d_RD_spells_16 : decode M_RD_spells.2.1 16 = .ok (.aload_n 0, 1) := by decide +kernel
theorem d_RD_spells_17 : decode M_RD_spells.2.1 17 = .ok (.getfield 139, 3) := by decide +kernel
theorem d_RD_spells_20 : decode M_RD_spells.2.1 20 = .ok (.if_icmp .ge 25, 3) := by decide +kernel
theorem d_RD_spells_23 : decode M_RD_spells.2.1 23 = .ok (.aload_n 0, 1) := by decide +kernel
theorem d_RD_spells_24 : decode M_RD_spells.2.1 24 = .ok (.getfield 68, 3) := by decide +kernel
theorem d_RD_spells_27 : decode M_RD_spells.2.1 27 = .ok (.iload_n 2, 1) := by decide +kernel
theorem d_RD_spells_28 : decode M_RD_spells.2.1 28 = .ok (.baload, 1) := by decide +kernel
theorem d_RD_spells_29 : decode M_RD_spells.2.1 29 = .ok (.aload_n 1, 1) := by decide +kernel
theorem d_RD_spells_30 : decode M_RD_spells.2.1 30 = .ok (.iload_n 2, 1) := by decide +kernel
theorem d_RD_spells_31 : decode M_RD_spells.2.1 31 = .ok (.invokevirtual 188, 3) := by decide +kernel
theorem d_RD_spells_34 : decode M_RD_spells.2.1 34 = .ok (.if_icmp .eq 5, 3) := by decide +kernel
theorem d_RD_spells_37 : decode M_RD_spells.2.1 37 = .ok (.iconst 0, 1) := by decide +kernel
theorem d_RD_spells_38 : decode M_RD_spells.2.1 38 = .ok (.ireturn, 1) := by decide +kernel
theorem d_RD_spells_39 : decode M_RD_spells.2.1 39 = .ok (.iinc 2 1, 3) := by decide +kernel
theorem d_RD_spells_42 : decode M_RD_spells.2.1 42 = .ok (.goto (-27), 3) := by decide +kernel
theorem d_RD_spells_45 : decode M_RD_spells.2.1 45 = .ok (.iconst 1, 1) := by decide +kernel
theorem d_RD_spells_46 : decode M_RD_spells.2.1 46 = .ok (.ireturn, 1) := by decide +kernel
set_option maxRecDepth 20000 in
theorem w_RD_spells {E : xR} {h : xH} {N : Nat} {aa bh tk oo tp pl vd kn rk : Int32} {nm : Int64} {Wd : Nat → Int32} {x : List Int32} {s : Nat} (hs : s < 33) (hx : g_wx Wd x) (hx4 : x.length ≤ 4096) : x_Mt E M_RD_spells 4 0 0 [.ref 36, .ref (2000000 + s)] 52 (g_rw h N aa bh tk oo nm (nI x.length) tp pl vd kn rk Wd) (x_Y (some (.int (g_b2 (decide (x = (x_bytS.getD s [])))))) 52 (g_rw h N aa bh tk oo nm (nI x.length) tp pl vd kn rk Wd)) := by
  have hL := g_lnS2 s hs
  have hL9 : (x_bytS.getD s []).length < 100 := by rw [← hL]; exact (show ∀ s, s < 33 → x_lenS.getD s 0 < 100 by decide) s hs
  refine x_Mt.of (by decide) (Nat.le_of_ble_eq_true rfl) ?_
  have hloop : x.length = (x_bytS.getD s []).length → ∀ m i, i + m = x.length → (∀ j (h1 : j < x.length) (h2 : j < (x_bytS.getD s []).length), j < i → x[j] = (x_bytS.getD s [])[j]) → x_W E M_RD_spells (x_room 4 0 0) (x_Y (some (.int (g_b2 (decide (x = (x_bytS.getD s [])))))) 52 (g_rw h N aa bh tk oo nm (nI x.length) tp pl vd kn rk Wd)) 52 (g_rw h N aa bh tk oo nm (nI x.length) tp pl vd kn rk Wd) 15 [(0, .ref 36), (1, .ref (2000000 + s)), (2, .int (nI i))] [] 0 0 := by
    intro hlen m
    induction m with
    | zero =>
      intro i hi hj
      obtain rfl : i = x.length := by omega
      refine x_iload_n d_RD_spells_15 rfl rfl ?_
      refine x_aload_n d_RD_spells_16 rfl rfl ?_
      refine x_get d_RD_spells_17 f_RD_139 (Nat.le_of_ble_eq_true rfl) (Nat.le_of_ble_eq_true rfl) (by first | rfl | assumption) (by rfl) ?_
      refine x_icmp_ge 45 d_RD_spells_20 (by decide) (fun _ => ?_) (fun z => absurd (nI_le (Nat.le_refl _) (by omega)) z)
      refine x_iconst 1 d_RD_spells_45 (by decide) ?_
      exact x_ireturn d_RD_spells_46 rfl rfl ⟨congrArg (fun z => Sum.inl (some (Value.int (g_b2 z)))) (show true = decide (x = (x_bytS.getD s [])) from (decide_eq_true (List.ext_getElem hlen fun j a b => hj j a b a)).symm), rfl, fun _ _ => rfl, rfl, rfl⟩
    | succ m ih =>
      intro i hi hj
      have hix : i < x.length := by omega
      have hib : i < (x_bytS.getD s []).length := by omega
      refine x_iload_n d_RD_spells_15 rfl rfl ?_
      refine x_aload_n d_RD_spells_16 rfl rfl ?_
      refine x_get d_RD_spells_17 f_RD_139 (Nat.le_of_ble_eq_true rfl) (Nat.le_of_ble_eq_true rfl) (by first | rfl | assumption) (by rfl) ?_
      refine x_icmp_ge 45 d_RD_spells_20 (by decide) (fun z => absurd z (nI_ge (by omega) (by omega))) (fun _ => ?_)
      refine x_aload_n d_RD_spells_23 rfl rfl ?_
      refine x_get d_RD_spells_24 f_RD_68 (Nat.le_of_ble_eq_true rfl) (Nat.le_of_ble_eq_true rfl) (by first | rfl | assumption) (by rfl) ?_
      refine x_iload_n d_RD_spells_27 rfl rfl ?_
      refine x_bald d_RD_spells_28 (Nat.le_of_ble_eq_true rfl) (Nat.le_of_ble_eq_true rfl) (by first | rfl | assumption) (vp_in_nI (show i < 4096 by omega) (by decide)) ?_
      refine x_topi x[i] (by rw [nI_clamp (by omega)]; exact hx i hix) ?_
      refine x_aload_n d_RD_spells_29 rfl rfl ?_
      refine x_iload_n d_RD_spells_30 rfl rfl ?_
      refine x_callT1Y d_RD_spells_31 k_RD_188 rfl (by omega) (w_ST_charAt hs (k := i) (by rw [hL]; exact hib)) (Nat.le_of_ble_eq_true rfl) (Nat.le_of_ble_eq_true rfl) (Nat.le_of_ble_eq_true rfl) (Nat.le_of_ble_eq_true rfl) (Nat.le_of_ble_eq_true rfl) rfl ?_
      refine x_topi ((x_bytS.getD s [])[i]'hib) (by rw [List.getD_eq_getElem?_getD, List.getElem?_eq_getElem hib]; rfl) ?_
      refine x_icmp_eq 39 d_RD_spells_34 (by decide) (fun c_34 => ?_) (fun c_34 => ?_)
      · refine x_iinc d_RD_spells_39 rfl 1 (by decide) (Nat.le_of_ble_eq_true rfl) ?_
        refine x_goto 15 d_RD_spells_42 (by decide) ?_
        refine x_lv [(0, .ref 36), (1, .ref (2000000 + s)), (2, .int (nI (i + 1)))] (by rw [nI_succ i]; rfl) ?_
        exact ih (i + 1) (by omega) (fun j a b q => by
          rcases Nat.lt_or_ge j i with z | z
          · exact hj j a b z
          · obtain rfl : j = i := by omega
            exact c_34)
      · refine x_iconst 0 d_RD_spells_37 (by decide) ?_
        exact x_ireturn d_RD_spells_38 rfl rfl ⟨congrArg (fun z => Sum.inl (some (Value.int (g_b2 z)))) (show false = decide (x = (x_bytS.getD s [])) from (decide_eq_false (fun z => by subst z; exact c_34 rfl)).symm), rfl, fun _ _ => rfl, rfl, rfl⟩
  show x_W E M_RD_spells _ _ 52 (g_rw h N aa bh tk oo nm (nI x.length) tp pl vd kn rk Wd) 0 [(0, .ref 36), (1, .ref (2000000 + s))] [] 0 0
  refine x_aload_n d_RD_spells_0 rfl rfl ?_
  refine x_get d_RD_spells_1 f_RD_139 (Nat.le_of_ble_eq_true rfl) (Nat.le_of_ble_eq_true rfl) (by first | rfl | assumption) (by rfl) ?_
  refine x_aload_n d_RD_spells_4 rfl rfl ?_
  refine x_callT0Y d_RD_spells_5 k_RD_184 rfl (by omega) (w_ST_length hs) (Nat.le_of_ble_eq_true rfl) (Nat.le_of_ble_eq_true rfl) (Nat.le_of_ble_eq_true rfl) (Nat.le_of_ble_eq_true rfl) (Nat.le_of_ble_eq_true rfl) rfl ?_
  refine x_topi (nI (x_bytS.getD s []).length) (by rw [hL]) ?_
  refine x_icmp_eq 13 d_RD_spells_8 (by decide) (fun c_8 => ?_) (fun c_8 => ?_)
  · refine x_iconst 0 d_RD_spells_13 (by decide) ?_
    refine x_istore_n d_RD_spells_14 rfl (Nat.le_of_ble_eq_true rfl) ?_
    exact hloop ((g_nIne (by omega) (by omega)).mp c_8) x.length 0 (by omega) (fun j a b q => by omega)
  · refine x_iconst 0 d_RD_spells_11 (by decide) ?_
    exact x_ireturn d_RD_spells_12 rfl rfl ⟨congrArg (fun z => Sum.inl (some (Value.int (g_b2 z)))) (show false = decide (x = (x_bytS.getD s [])) from (decide_eq_false (fun z => c_8 (by rw [z]))).symm), rfl, fun _ _ => rfl, rfl, rfl⟩
/-- the rank between two terms, before one, as the reference tells it -/
def g_rkV (o : Nat) : Int32 := if o = 23 then -1 else nI (g_rk o)
def g_sx (k : Nat) : Nat := x_txOP.getD (g_sd.getD k 23) 0
theorem g_sxL : ∀ k, k < 20 → g_sx k < 33 ∧ x_bytS.getD (g_sx k) [] = g_tx (g_sd.getD k 23) ∧ ¬ g_sd.getD k 23 = 23 := by decide +kernel
theorem g_mrL (w : List Int32) : ∀ m k, k ≤ g_mr w m k ∧ g_mr w m k ≤ k + m
  | 0, k => ⟨Nat.le_refl _, Nat.le_refl _⟩
  | m + 1, k => by
    rw [g_mr]
    have := g_mrL w m (k + 1)
    cases decide (w = g_tx (g_sd.getD k 23)) with
    | true => exact ⟨Nat.le_refl _, by show k ≤ _; omega⟩
    | false => exact ⟨by show k ≤ g_mr w m (k + 1); omega, by show g_mr w m (k + 1) ≤ _; omega⟩
/-- the reader's tables -/
def g_TB2 (h : xH) : Prop := (∃ f : Nat → Option Nat, h 37 = .inl (3, 20, .inr (.inr (.inr (.inr f)))) ∧ ∀ k, k < 20 → f k = some (2000000 + g_sx k)) ∧ (∃ Rk : Nat → Int32, h 38 = .inl (0, 20, .inl Rk) ∧ ∀ k, k < 20 → Rk k = nI (g_rk (g_sd.getD k 23))) ∧ h 39 = .inr (10, [])
theorem d_RD_rank_0 : decode M_RD_rank.2.1 0 = .ok (.aload_n 0, 1) := by decide +kernel
theorem d_RD_rank_1 : decode M_RD_rank.2.1 1 = .ok (.getfield 123, 3) := by decide +kernel
theorem d_RD_rank_4 : decode M_RD_rank.2.1 4 = .ok (.bipush 10, 2) := by decide +kernel
theorem d_RD_rank_6 : decode M_RD_rank.2.1 6 = .ok (.if_icmp .ne 7, 3) := by decide +kernel
theorem d_RD_rank_9 : decode M_RD_rank.2.1 9 = .ok (.sipush 1000, 3) := by decide +kernel
theorem d_RD_rank_12 : decode M_RD_rank.2.1 12 = .ok (.ireturn, 1) := by decide +kernel
theorem d_RD_rank_13 : decode M_RD_rank.2.1 13 = .ok (.iconst 0, 1) := by decide +kernel
theorem d_RD_rank_14 : decode M_RD_rank.2.1 14 = .ok (.istore_n 1, 1) := by decide +kernel
theorem d_RD_rank_15 : decode M_RD_rank.2.1 15 = .ok (.aload_n 0, 1) := by decide +kernel
theorem d_RD_rank_16 : decode M_RD_rank.2.1 16 = .ok (.getfield 123, 3) := by decide +kernel
theorem d_RD_rank_19 : decode M_RD_rank.2.1 19 = .ok (.iconst 3, 1) := by decide +kernel
theorem d_RD_rank_20 : decode M_RD_rank.2.1 20 = .ok (.if_icmp .ne 38, 3) := by decide +kernel
theorem d_RD_rank_23 : decode M_RD_rank.2.1 23 = .ok (.iload_n 1, 1) := by decide +kernel
theorem d_RD_rank_24 : decode M_RD_rank.2.1 24 = .ok (.aload_n 0, 1) := by decide +kernel
theorem d_RD_rank_25 : decode M_RD_rank.2.1 25 = .ok (.getfield 51, 3) := by decide +kernel
theorem d_RD_rank_28 : decode M_RD_rank.2.1 28 = .ok (.arraylength, 1) := by decide +kernel
theorem d_RD_rank_29 : decode M_RD_rank.2.1 29 = .ok (.if_icmp .ge 29, 3) := by decide +kernel
theorem d_RD_rank_32 : decode M_RD_rank.2.1 32 = .ok (.aload_n 0, 1) := by decide +kernel
theorem d_RD_rank_33 : decode M_RD_rank.2.1 33 = .ok (.aload_n 0, 1) := by decide +kernel
theorem d_RD_rank_34 : decode M_RD_rank.2.1 34 = .ok (.getfield 51, 3) := by decide +kernel
theorem d_RD_rank_37 : decode M_RD_rank.2.1 37 = .ok (.iload_n 1, 1) := by decide +kernel
theorem d_RD_rank_38 : decode M_RD_rank.2.1 38 = .ok (.aaload, 1) := by decide +kernel
theorem d_RD_rank_39 : decode M_RD_rank.2.1 39 = .ok (.invokevirtual 192, 3) := by decide +kernel
theorem d_RD_rank_42 : decode M_RD_rank.2.1 42 = .ok (.ifCond .eq 10, 3) := by decide +kernel
theorem d_RD_rank_45 : decode M_RD_rank.2.1 45 = .ok (.aload_n 0, 1) := by decide +kernel
theorem d_RD_rank_46 : decode M_RD_rank.2.1 46 = .ok (.getfield 57, 3) := by decide +kernel
theorem d_RD_rank_49 : decode M_RD_rank.2.1 49 = .ok (.iload_n 1, 1) := by decide +kernel
theorem d_RD_rank_50 : decode M_RD_rank.2.1 50 = .ok (.iaload, 1) := by decide +kernel
theorem d_RD_rank_51 : decode M_RD_rank.2.1 51 = .ok (.ireturn, 1) := by decide +kernel
theorem d_RD_rank_52 : decode M_RD_rank.2.1 52 = .ok (.iinc 1 1, 3) := by decide +kernel
theorem d_RD_rank_55 : decode M_RD_rank.2.1 55 = .ok (.goto (-40), 3) := by decide +kernel
theorem d_RD_rank_58 : decode M_RD_rank.2.1 58 = .ok (.iconst (-1), 1) := by decide +kernel
theorem d_RD_rank_59 : decode M_RD_rank.2.1 59 = .ok (.ireturn, 1) := by decide +kernel
set_option maxRecDepth 20000 in
theorem w_RD_rank {E : xR} {h : xH} {u : Nat → Nat} {N : Nat} {bh oo lt tp pl vd kn rk : Int32} {nm : Int64} {Wd : Nat → Int32} {p : Nat} (hTO : g_TO u N p bh lt nm Wd) (hB : g_TB2 h) (hu : ∀ i, u i < 256) (hp : p ≤ N) (hN : N ≤ 4096) : x_Mt E M_RD_rank 5 0 0 [.ref 36] 52 (g_rw h N (nI p) bh (nI (g_ky (g_at u N) N p)) oo nm lt tp pl vd kn rk Wd) (x_Y (some (.int (g_rkV (g_op (g_at u N) N p)))) 52 (g_rw h N (nI p) bh (nI (g_ky (g_at u N) N p)) oo nm lt tp pl vd kn rk Wd)) := by
  obtain ⟨⟨sf, h37, hsf⟩, ⟨Rk, h38, hRk⟩, -⟩ := hB
  have hkL := g_kyL (u := u) hp
  refine x_Mt.of (by decide) (Nat.le_of_ble_eq_true rfl) ?_
  show x_W E M_RD_rank _ _ 52 (g_rw h N (nI p) bh (nI (g_ky (g_at u N) N p)) oo nm lt tp pl vd kn rk Wd) 0 [(0, .ref 36)] [] 0 0
  by_cases h10 : (g_ky (g_at u N) N p) = 10
  · have e : g_op (g_at u N) N p = 3 := by unfold g_op g_inf; rw [(g_sgk _ hkL).1.mpr h10]; rfl
    rw [e, h10]
    refine x_aload_n d_RD_rank_0 rfl rfl ?_
    refine x_get d_RD_rank_1 f_RD_123 (Nat.le_of_ble_eq_true rfl) (Nat.le_of_ble_eq_true rfl) (by first | rfl | assumption) (by rfl) ?_
    refine x_bipush 10 d_RD_rank_4 (by decide) ?_
    refine x_icmp_ne 13 d_RD_rank_6 (by decide) (fun z => absurd rfl z) (fun _ => ?_)
    refine x_sipush 1000 d_RD_rank_9 (by decide) ?_
    exact x_ireturn d_RD_rank_12 rfl rfl ⟨rfl, rfl, fun _ _ => rfl, rfl, rfl⟩
  · have n10 : ¬ nI (g_ky (g_at u N) N p) = nI 10 := fun z => h10 ((g_nIne (by omega) (by decide)).mp z)
    by_cases h3 : (g_ky (g_at u N) N p) = 3
    · obtain ⟨hl, hw⟩ := hTO.2.2.1 (Or.inr h3)
      have hUL : (g_ut u (g_fr (g_at u N) N p) (g_to (g_at u N) N p)).length ≤ 4096 := by
        have h1 := g_utR hu (Or.inr (Or.inl h3))
        have h2 := g_rqL (g_ut u (g_fr (g_at u N) N p) (g_to (g_at u N) N p))
        rw [h1, g_tp_len] at h2
        have := g_tkF hp (Or.inr (Or.inl h3))
        omega
      rw [g_opW hu hp h3]
      generalize (g_ut u (g_fr (g_at u N) N p) (g_to (g_at u N) N p)) = x at hl hw hUL
      subst hl
      have hloop : ∀ m k, k + m = 20 → g_mr x m k = g_mr x 20 0 → x_W E M_RD_rank (x_room 5 0 0) (x_Y (some (.int (g_rkV (g_sd.getD (g_mr x 20 0) 23)))) 52 (g_rw h N (nI p) bh (nI (g_ky (g_at u N) N p)) oo nm (nI x.length) tp pl vd kn rk Wd)) 52 (g_rw h N (nI p) bh (nI (g_ky (g_at u N) N p)) oo nm (nI x.length) tp pl vd kn rk Wd) 15 [(0, .ref 36), (1, .int (nI k))] [] 0 0 := by
        intro m
        induction m with
        | zero =>
          intro k hk he
          obtain rfl : k = 20 := by omega
          have he : 20 = g_mr x 20 0 := he
          refine x_aload_n d_RD_rank_15 rfl rfl ?_
          refine x_get d_RD_rank_16 f_RD_123 (Nat.le_of_ble_eq_true rfl) (Nat.le_of_ble_eq_true rfl) (by first | rfl | assumption) (by rfl) ?_
          refine x_iconst 3 d_RD_rank_19 (by decide) ?_
          refine x_icmp_ne 58 d_RD_rank_20 (by decide) (fun z => absurd (show nI (g_ky (g_at u N) N p) = nI 3 by rw [h3]) z) (fun _ => ?_)
          refine x_iload_n d_RD_rank_23 rfl rfl ?_
          refine x_aload_n d_RD_rank_24 rfl rfl ?_
          refine x_get d_RD_rank_25 f_RD_51 (Nat.le_of_ble_eq_true rfl) (Nat.le_of_ble_eq_true rfl) (by first | rfl | assumption) (by rfl) ?_
          refine x_alen d_RD_rank_28 (Nat.le_of_ble_eq_true rfl) (Nat.le_of_ble_eq_true rfl) (by first | rfl | assumption) (by rfl) ?_
          refine x_icmp_ge 58 d_RD_rank_29 (by decide) (fun _ => ?_) (fun z => absurd (show nI 20 ≤ nI 20 from nI_le (Nat.le_refl _) (by decide)) z)
          refine x_iconst (-1) d_RD_rank_58 (by decide) ?_
          exact x_ireturn d_RD_rank_59 rfl rfl ⟨by rw [← he]; rfl, rfl, fun _ _ => rfl, rfl, rfl⟩
        | succ m ih =>
          intro k hk he
          have hk2 : k < 20 := by omega
          obtain ⟨s1, s2, s3⟩ := g_sxL k hk2
          rw [g_mr] at he
          refine x_aload_n d_RD_rank_15 rfl rfl ?_
          refine x_get d_RD_rank_16 f_RD_123 (Nat.le_of_ble_eq_true rfl) (Nat.le_of_ble_eq_true rfl) (by first | rfl | assumption) (by rfl) ?_
          refine x_iconst 3 d_RD_rank_19 (by decide) ?_
          refine x_icmp_ne 58 d_RD_rank_20 (by decide) (fun z => absurd (show nI (g_ky (g_at u N) N p) = nI 3 by rw [h3]) z) (fun _ => ?_)
          refine x_iload_n d_RD_rank_23 rfl rfl ?_
          refine x_aload_n d_RD_rank_24 rfl rfl ?_
          refine x_get d_RD_rank_25 f_RD_51 (Nat.le_of_ble_eq_true rfl) (Nat.le_of_ble_eq_true rfl) (by first | rfl | assumption) (by rfl) ?_
          refine x_alen d_RD_rank_28 (Nat.le_of_ble_eq_true rfl) (Nat.le_of_ble_eq_true rfl) (by first | rfl | assumption) (by rfl) ?_
          refine x_icmp_ge 58 d_RD_rank_29 (by decide) (fun z => absurd z (show ¬ nI 20 ≤ nI k from nI_ge (by omega) (by decide))) (fun _ => ?_)
          refine x_aload_n d_RD_rank_32 rfl rfl ?_
          refine x_aload_n d_RD_rank_33 rfl rfl ?_
          refine x_get d_RD_rank_34 f_RD_51 (Nat.le_of_ble_eq_true rfl) (Nat.le_of_ble_eq_true rfl) (by first | rfl | assumption) (by rfl) ?_
          refine x_iload_n d_RD_rank_37 rfl rfl ?_
          refine x_aald d_RD_rank_38 (Nat.le_of_ble_eq_true rfl) (Nat.le_of_ble_eq_true rfl) (by first | rfl | assumption) (vp_in_nI hk2 (by decide)) ?_
          refine x_topv (.ref (2000000 + g_sx k)) (by rw [nI_clamp (by omega), hsf k hk2]; rfl) ?_
          refine x_callV1Y d_RD_rank_39 k_RD_192 (Nat.le_of_ble_eq_true rfl) (Nat.le_of_ble_eq_true rfl) (by first | rfl | assumption) (by rfl) (w_RD_spells s1 hw hUL) (Nat.le_of_ble_eq_true rfl) (Nat.le_of_ble_eq_true rfl) (Nat.le_of_ble_eq_true rfl) (Nat.le_of_ble_eq_true rfl) (Nat.le_of_ble_eq_true rfl) rfl ?_
          refine x_if_eq 52 d_RD_rank_42 (by decide) (fun c_42 => ?_) (fun c_42 => ?_)
          · refine x_iinc d_RD_rank_52 rfl 1 (by decide) (Nat.le_of_ble_eq_true rfl) ?_
            refine x_goto 15 d_RD_rank_55 (by decide) ?_
            refine x_lv [(0, .ref 36), (1, .int (nI (k + 1)))] (by rw [nI_succ k]; rfl) ?_
            exact ih (k + 1) (by omega) (by rw [s2] at c_42; rw [g_b2z c_42] at he; exact he)
          · refine x_aload_n d_RD_rank_45 rfl rfl ?_
            refine x_get d_RD_rank_46 f_RD_57 (Nat.le_of_ble_eq_true rfl) (Nat.le_of_ble_eq_true rfl) (by first | rfl | assumption) (by rfl) ?_
            refine x_iload_n d_RD_rank_49 rfl rfl ?_
            refine x_iald d_RD_rank_50 (Nat.le_of_ble_eq_true rfl) (Nat.le_of_ble_eq_true rfl) (by first | rfl | assumption) (vp_in_nI hk2 (by decide)) ?_
            refine x_topi (nI (g_rk (g_sd.getD k 23))) (by rw [nI_clamp (by omega)]; exact hRk k hk2) ?_
            exact x_ireturn d_RD_rank_51 rfl rfl ⟨by rw [s2] at c_42; rw [g_b2n c_42] at he; (have he : k = g_mr x 20 0 := he); rw [← he]; unfold g_rkV; rw [if_neg s3], rfl, fun _ _ => rfl, rfl, rfl⟩
      refine x_aload_n d_RD_rank_0 rfl rfl ?_
      refine x_get d_RD_rank_1 f_RD_123 (Nat.le_of_ble_eq_true rfl) (Nat.le_of_ble_eq_true rfl) (by first | rfl | assumption) (by rfl) ?_
      refine x_bipush 10 d_RD_rank_4 (by decide) ?_
      refine x_icmp_ne 13 d_RD_rank_6 (by decide) (fun _ => ?_) (fun z => absurd z n10)
      refine x_iconst 0 d_RD_rank_13 (by decide) ?_
      refine x_istore_n d_RD_rank_14 rfl (Nat.le_of_ble_eq_true rfl) ?_
      exact hloop 20 0 rfl rfl
    · have e : g_op (g_at u N) N p = 23 := by unfold g_op g_inf g_nm; rw [if_neg (fun z => h10 ((g_sgk _ hkL).1.mp z)), if_neg (fun z => h3 ((g_sgk _ hkL).2.1.mp z))]
      rw [e]
      refine x_aload_n d_RD_rank_0 rfl rfl ?_
      refine x_get d_RD_rank_1 f_RD_123 (Nat.le_of_ble_eq_true rfl) (Nat.le_of_ble_eq_true rfl) (by first | rfl | assumption) (by rfl) ?_
      refine x_bipush 10 d_RD_rank_4 (by decide) ?_
      refine x_icmp_ne 13 d_RD_rank_6 (by decide) (fun _ => ?_) (fun z => absurd z n10)
      refine x_iconst 0 d_RD_rank_13 (by decide) ?_
      refine x_istore_n d_RD_rank_14 rfl (Nat.le_of_ble_eq_true rfl) ?_
      refine x_aload_n d_RD_rank_15 rfl rfl ?_
      refine x_get d_RD_rank_16 f_RD_123 (Nat.le_of_ble_eq_true rfl) (Nat.le_of_ble_eq_true rfl) (by first | rfl | assumption) (by rfl) ?_
      refine x_iconst 3 d_RD_rank_19 (by decide) ?_
      refine x_icmp_ne 58 d_RD_rank_20 (by decide) (fun _ => ?_) (fun z => absurd z (show ¬ nI (g_ky (g_at u N) N p) = nI 3 from fun z => h3 ((g_nIne (by omega) (by decide)).mp z)))
      refine x_iconst (-1) d_RD_rank_58 (by decide) ?_
      exact x_ireturn d_RD_rank_59 rfl rfl ⟨rfl, rfl, fun _ _ => rfl, rfl, rfl⟩
theorem d_RD_prefix_0 : decode M_RD_prefix.2.1 0 = .ok (.aload_n 0, 1) := by decide +kernel
theorem d_RD_prefix_1 : decode M_RD_prefix.2.1 1 = .ok (.getfield 123, 3) := by decide +kernel
theorem d_RD_prefix_4 : decode M_RD_prefix.2.1 4 = .ok (.iconst 3, 1) := by decide +kernel
theorem d_RD_prefix_5 : decode M_RD_prefix.2.1 5 = .ok (.if_icmp .eq 7, 3) := by decide +kernel
theorem d_RD_prefix_8 : decode M_RD_prefix.2.1 8 = .ok (.iconst (-1), 1) := by decide +kernel
theorem d_RD_prefix_9 : decode M_RD_prefix.2.1 9 = .ok (.goto 34, 3) := by decide +kernel
theorem d_RD_prefix_12 : decode M_RD_prefix.2.1 12 = .ok (.aload_n 0, 1) := by decide +kernel
theorem d_RD_prefix_13 : decode M_RD_prefix.2.1 13 = .ok (.ldc 196, 2) := by decide +kernel
theorem d_RD_prefix_15 : decode M_RD_prefix.2.1 15 = .ok (.invokevirtual 192, 3) := by decide +kernel
theorem d_RD_prefix_18 : decode M_RD_prefix.2.1 18 = .ok (.ifCond .eq 9, 3) := by decide +kernel
theorem d_RD_prefix_21 : decode M_RD_prefix.2.1 21 = .ok (.sipush 900, 3) := by decide +kernel
theorem d_RD_prefix_24 : decode M_RD_prefix.2.1 24 = .ok (.goto 19, 3) := by decide +kernel
theorem d_RD_prefix_27 : decode M_RD_prefix.2.1 27 = .ok (.aload_n 0, 1) := by decide +kernel
theorem d_RD_prefix_28 : decode M_RD_prefix.2.1 28 = .ok (.ldc 41, 2) := by decide +kernel
theorem d_RD_prefix_30 : decode M_RD_prefix.2.1 30 = .ok (.invokevirtual 192, 3) := by decide +kernel
theorem d_RD_prefix_33 : decode M_RD_prefix.2.1 33 = .ok (.ifCond .eq 9, 3) := by decide +kernel
theorem d_RD_prefix_36 : decode M_RD_prefix.2.1 36 = .ok (.sipush 200, 3) := by decide +kernel
theorem d_RD_prefix_39 : decode M_RD_prefix.2.1 39 = .ok (.goto 4, 3) := by decide +kernel
theorem d_RD_prefix_42 : decode M_RD_prefix.2.1 42 = .ok (.iconst (-1), 1) := by decide +kernel
theorem d_RD_prefix_43 : decode M_RD_prefix.2.1 43 = .ok (.ireturn, 1) := by decide +kernel
set_option maxRecDepth 20000 in
theorem w_RD_prefix {E : xR} {h : xH} {u : Nat → Nat} {N : Nat} {bh oo lt tp pl vd kn rk : Int32} {nm : Int64} {Wd : Nat → Int32} {p : Nat} (hTO : g_TO u N p bh lt nm Wd) (hu : ∀ i, u i < 256) (hp : p ≤ N) (hN : N ≤ 4096) : x_Mt E M_RD_prefix 5 0 0 [.ref 36] 52 (g_rw h N (nI p) bh (nI (g_ky (g_at u N) N p)) oo nm lt tp pl vd kn rk Wd) (x_Y (some (.int (g_rkV (g_px (g_at u N) N p)))) 52 (g_rw h N (nI p) bh (nI (g_ky (g_at u N) N p)) oo nm lt tp pl vd kn rk Wd)) := by
  have hkL := g_kyL (u := u) hp
  refine x_Mt.of (by decide) (Nat.le_of_ble_eq_true rfl) ?_
  show x_W E M_RD_prefix _ _ 52 (g_rw h N (nI p) bh (nI (g_ky (g_at u N) N p)) oo nm lt tp pl vd kn rk Wd) 0 [(0, .ref 36)] [] 0 0
  by_cases h3 : (g_ky (g_at u N) N p) = 3
  · obtain ⟨hl, hw⟩ := hTO.2.2.1 (Or.inr h3)
    have hUL : (g_ut u (g_fr (g_at u N) N p) (g_to (g_at u N) N p)).length ≤ 4096 := by
      have h1 := g_utR hu (Or.inr (Or.inl h3))
      have h2 := g_rqL (g_ut u (g_fr (g_at u N) N p) (g_to (g_at u N) N p))
      rw [h1, g_tp_len] at h2
      have := g_tkF hp (Or.inr (Or.inl h3))
      omega
    rw [g_pxW hu hp h3]
    generalize (g_ut u (g_fr (g_at u N) N p) (g_to (g_at u N) N p)) = x at hl hw hUL
    subst hl
    refine x_aload_n d_RD_prefix_0 rfl rfl ?_
    refine x_get d_RD_prefix_1 f_RD_123 (Nat.le_of_ble_eq_true rfl) (Nat.le_of_ble_eq_true rfl) (by first | rfl | assumption) (by rfl) ?_
    refine x_iconst 3 d_RD_prefix_4 (by decide) ?_
    refine x_icmp_eq 12 d_RD_prefix_5 (by decide) (fun _ => ?_) (fun z => absurd (show nI (g_ky (g_at u N) N p) = nI 3 by rw [h3]) z)
    refine x_aload_n d_RD_prefix_12 rfl rfl ?_
    refine x_ldcS (i := 30) d_RD_prefix_13 32 rfl ?_
    refine x_callV1Y d_RD_prefix_15 k_RD_192 (Nat.le_of_ble_eq_true rfl) (Nat.le_of_ble_eq_true rfl) (by first | rfl | assumption) (by rfl) (w_RD_spells (s := 30) (by decide) hw hUL) (Nat.le_of_ble_eq_true rfl) (Nat.le_of_ble_eq_true rfl) (Nat.le_of_ble_eq_true rfl) (Nat.le_of_ble_eq_true rfl) (Nat.le_of_ble_eq_true rfl) rfl ?_
    refine x_if_eq 27 d_RD_prefix_18 (by decide) (fun c_18 => ?_) (fun c_18 => ?_)
    · refine x_aload_n d_RD_prefix_27 rfl rfl ?_
      refine x_ldcS (i := 5) d_RD_prefix_28 26 rfl ?_
      refine x_callV1Y d_RD_prefix_30 k_RD_192 (Nat.le_of_ble_eq_true rfl) (Nat.le_of_ble_eq_true rfl) (by first | rfl | assumption) (by rfl) (w_RD_spells (s := 5) (by decide) hw hUL) (Nat.le_of_ble_eq_true rfl) (Nat.le_of_ble_eq_true rfl) (Nat.le_of_ble_eq_true rfl) (Nat.le_of_ble_eq_true rfl) (Nat.le_of_ble_eq_true rfl) rfl ?_
      refine x_if_eq 42 d_RD_prefix_33 (by decide) (fun c_33 => ?_) (fun c_33 => ?_)
      · refine x_iconst (-1) d_RD_prefix_42 (by decide) ?_
        exact x_ireturn d_RD_prefix_43 rfl rfl ⟨by rw [show x_bytS.getD 30 [] = g_tx 4 from rfl] at c_18; rw [show x_bytS.getD 5 [] = g_tx 22 from rfl] at c_33; rw [g_b2z c_18, g_b2z c_33]; rfl, rfl, fun _ _ => rfl, rfl, rfl⟩
      · refine x_sipush 200 d_RD_prefix_36 (by decide) ?_
        refine x_goto 43 d_RD_prefix_39 (by decide) ?_
        exact x_ireturn d_RD_prefix_43 rfl rfl ⟨by rw [show x_bytS.getD 30 [] = g_tx 4 from rfl] at c_18; rw [show x_bytS.getD 5 [] = g_tx 22 from rfl] at c_33; rw [g_b2z c_18, g_b2n c_33]; rfl, rfl, fun _ _ => rfl, rfl, rfl⟩
    · refine x_sipush 900 d_RD_prefix_21 (by decide) ?_
      refine x_goto 43 d_RD_prefix_24 (by decide) ?_
      exact x_ireturn d_RD_prefix_43 rfl rfl ⟨by rw [show x_bytS.getD 30 [] = g_tx 4 from rfl] at c_18; rw [g_b2n c_18]; rfl, rfl, fun _ _ => rfl, rfl, rfl⟩
  · have e : g_px (g_at u N) N p = 23 := by unfold g_px g_nm; rw [if_neg (fun z => h3 ((g_sgk _ hkL).2.1.mp z))]
    rw [e]
    refine x_aload_n d_RD_prefix_0 rfl rfl ?_
    refine x_get d_RD_prefix_1 f_RD_123 (Nat.le_of_ble_eq_true rfl) (Nat.le_of_ble_eq_true rfl) (by first | rfl | assumption) (by rfl) ?_
    refine x_iconst 3 d_RD_prefix_4 (by decide) ?_
    refine x_icmp_eq 12 d_RD_prefix_5 (by decide) (fun z => absurd z (show ¬ nI (g_ky (g_at u N) N p) = nI 3 from fun z => h3 ((g_nIne (by omega) (by decide)).mp z))) (fun _ => ?_)
    refine x_iconst (-1) d_RD_prefix_8 (by decide) ?_
    refine x_goto 43 d_RD_prefix_9 (by decide) ?_
    exact x_ireturn d_RD_prefix_43 rfl rfl ⟨rfl, rfl, fun _ _ => rfl, rfl, rfl⟩
