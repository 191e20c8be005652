/-- an exception that stands in the world is thrown, and caught by the method itself -/
theorem x_athrowC {E : xR} {M : xM} {R : Room} {Q : xK} {n : Nat} {h : xH} {pc : Nat} {lv : List (Nat × Value)} {rest : List Value} {cells slots : Nat} {i : Nat} {fs : List Value} (d : decode M.2.1 pc = .ok (.athrow, 1)) (hi : i < n) (hlo : i < 1000000) (hc : h i = .inr (10, fs)) (hnt : ¬ x_tg E) (ai : Nat) (hai : ai < M.2.2.1) (kt : x_Cc E M pc 3 (fun hp => (∃ z : Fin 4, decode M.2.1 hp = .ok (.astore_n z, 1) ∧ (z : Nat) = ai ∧ x_W E M R Q n h (hp + 1) (lv.filter fun q => !(q.1 == ai) && !(q.1 + 1 == ai && q.2.category == 2)) [] cells slots))) : x_W E M R Q n h pc lv (.ref i :: rest) cells slots := by
  intro p e s m args below meth c H locs ls C hP hS hl hz T hT X
  subst hT
  obtain ⟨hx, hb, hml, hown, hr0, hlk, hnm, htb, hT0, hK, hL⟩ := id C
  obtain ⟨q', h1, cell, g1, g2, g3, -⟩ := hP i _ (x_ob hi hc)
  have hg1 : T.heap[x_r E i]? = some cell := by rw [x_rlo E hlo]; exact g1
  have hfc : s.vm.findClass (x_exc 3) = some cell.cls := by rw [g2]; exact (hK.1 10 _ rfl).2.1
  obtain ⟨pre, t, suf, hsp, hpass, ht1, ht2, ht0, ⟨nm, hnm1, hnm2⟩, hk⟩ := kt
  obtain ⟨pe, xe, se, hsplit, e1, e2, -⟩ := x_mapsplit (htb.trans hsp)
  have hcov : covers xe pc = true := by
    rw [← e2] at ht1 ht2
    show (decide (xe.startPc ≤ pc) && decide (pc < xe.endPc)) = true
    rw [decide_eq_true ht1, decide_eq_true ht2]
    rfl
  have hk' : W p (x_l E) e R s m args below meth c T.heap locs cells slots (x_Q E Q below s) (F0 m xe.handlerPc ls [.ref (x_r E i)]) := by
    have ehp : xe.handlerPc = t.2.2.1 := by rw [← e2]
    rw [ehp]
    obtain ⟨z, dz, hzi, kk⟩ := hk
    refine lv_astore_n hx hb dz hzi hl hai rfl fun ls' hl' => ?_
    refine kk p e s m args below meth c T.heap locs ls' C hP hS ?_ (fun z => absurd z hnt)
    refine x_has_sub hl' fun q0 hq0 => List.mem_cons_of_mem _ ?_
    obtain ⟨q1, hq1, rfl⟩ := List.mem_map.mp hq0
    obtain ⟨g1, g2⟩ := List.mem_filter.mp hq1
    refine List.mem_filter.mpr ⟨List.mem_map.mpr ⟨q1, g1, rfl⟩, ?_⟩
    simp only [x_cat]
    exact g2
  obtain ⟨t2, a1, b1⟩ := vx_catch (rest := rest.map (x_v E)) hown pe xe se hsplit (fun z hz9 => by
    have hz8 : (z.startPc, z.endPc, z.handlerPc, z.catchType) ∈ pre := by rw [← e1]; exact List.mem_map.mpr ⟨z, hz9, rfl⟩
    obtain ⟨g0, nm', g1, g2, g3⟩ := hpass _ hz8
    refine Or.inr ⟨g0, nm', x_hts hT0 _ g1, ?_⟩
    rw [g2, g3]
    exact hT0.2.2.2.2.2.1) hcov (by have : xe.catchType = t.2.2.2 := by rw [← e2]
                                    rw [this]; exact ht0) (by have : xe.catchType = t.2.2.2 := by rw [← e2]
                                                              rw [this]; exact x_hts hT0 _ hnm1) (x_hts hT0 _ hnm2) hg1 g3 hfc hk' T rfl X
  refine ⟨t2, ?_, b1⟩
  show Steps p.tables e below (T.setTop (F0 m pc ls (.ref (x_r E i) :: rest.map (x_v E)))) t2
  jvm_step X.here [hx, hb, d, Op.athrow.wp_sem]
  exact a1
theorem x_callCV0E {E : xR} {M : xM} {R : Room} {Q : xK} {h : xH} {pc : Nat} {lv : List (Nat × Value)} {rest : List Value} {cells slots : Nat} {idx : Nat} {M' : xM} {d0 : Nat} {i ci N : Nat} {fs : List Value} {T : u_T} {P : Option Value → xH → Prop} (d : decode M.2.1 pc = .ok (.invokevirtual idx, 3)) (hk : x_CV M.1.cls idx M' 0) (hi : i < 52) (hlo1 : i < 1000000) (hc : h i = .inr (ci, fs)) (hcc : x_Cl[ci]? = some (M'.1.cls, T, N)) (hM : x_Mt E M' d0 0 0 [.ref i] 52 h (x_YE P)) (hfr : d0 + 1 ≤ R.frames) (hlo : 8 + (M'.2.2.1 + 11) + 64 * d0 ≤ R.locals) (hcl : cells ≤ R.cells) (hsl : slots ≤ R.slots) (hrs : (rest.map fun v => v.category).sum ≤ 8) (hnt : ¬ x_tg E) (ai : Nat) (hai : ai < M.2.2.1) (kr : ∀ v h1, P v h1 → x_W E M R Q 52 h1 (pc + 3) lv (v.toList ++ rest) cells slots) : x_W E M R Q 52 h pc lv (.ref i :: rest) cells slots := by
  refine x_callC (av := [.ref i]) (rest := rest) d (x_ivV (av := []) (C := M'.1.cls) d hk.1 hk.2.1 hk.2.2.2.1 hk.2.2.2.2.1 (fun s H locs _ hK hP _ => x_recv hK hP hi hlo1 hc hcc) hk.2.2.2.2.2) hk.2.1 hk.2.2.1 hM hfr hlo hcl hsl hrs hnt ai hai (fun v n' h' k j hq => ?_) (fun q n' h' k j hq => ?_)
  · obtain ⟨v', h1, e1, e2, e3, e4, e5, e6⟩ := hq
    cases e1
    subst e2 e3 e4
    exact x_same e6 (kr v h1 e5)
  · obtain ⟨v', h1, e1, -⟩ := hq
    cases e1
theorem x_callCV1M {E : xR} {M : xM} {R : Room} {Q : xK} {hw : xH} {pc : Nat} {lv : List (Nat × Value)} {rest : List Value} {cells slots : Nat} {u : Nat → Nat} {N : Nat} {h : xH} {o t0 : Nat} {pl kn : Int32} {T : List (List Int32)} {B : Nat → Nat → Int32} {Nm : Nat → Int64} {z q : Nat} {St : Nat → Int32} {s : Nat} {r : g_Rs} {idx : Nat} {M' : xM} {d0 : Nat} {i ci N0 : Nat} {fs : List Value} {T0 : u_T} {a1 : Value} (d : decode M.2.1 pc = .ok (.invokevirtual idx, 3)) (hk : x_CV M.1.cls idx M' 1) (hi : i < 52) (hlo1 : i < 1000000) (hc : hw i = .inr (ci, fs)) (hcc : x_Cl[ci]? = some (M'.1.cls, T0, N0)) (hM : x_Mt E M' d0 0 0 [.ref i, a1] 52 hw (g_MK u N h o t0 pl kn T B Nm z q St s r)) (hfr : d0 + 1 ≤ R.frames) (hlo : 8 + (M'.2.2.1 + 11) + 64 * d0 ≤ R.locals) (hcl : cells ≤ R.cells) (hsl : slots ≤ R.slots) (hrs : (rest.map fun v => v.category).sum ≤ 8) (hnt : ¬ x_tg E) (ai : Nat) (hai : ai < M.2.2.1)
    (kr : ∀ p' s' V t c v h1, r = .inr (p', s', V, t, c) → g_Rt u N h o t0 pl kn T B Nm z q St s p' s' V t c v h1 → x_W E M R Q 52 h1 (pc + 3) lv (v.toList ++ rest) cells slots)
    (kt : ∀ x h', g_de u N r x → g_Tw h N x h' → x_Cc E M pc 3 (fun hp => ∃ z : Fin 4, decode M.2.1 hp = .ok (.astore_n z, 1) ∧ (z : Nat) = ai ∧ x_W E M R Q 52 h' (hp + 1) (lv.filter fun q => !(q.1 == ai) && !(q.1 + 1 == ai && q.2.category == 2)) [] cells slots)) : x_W E M R Q 52 hw pc lv (a1 :: .ref i :: rest) cells slots := by
  refine x_callC (av := [.ref i, a1]) (rest := rest) d (x_ivV (av := [a1]) (C := M'.1.cls) d hk.1 hk.2.1 hk.2.2.2.1 hk.2.2.2.2.1 (fun s H locs _ hK hP _ => x_recv hK hP hi hlo1 hc hcc) hk.2.2.2.2.2) hk.2.1 hk.2.2.1 hM hfr hlo hcl hsl hrs hnt ai hai (fun v n' h' k j hq => ?_) (fun q n' h' k j hq => ?_)
  · obtain ⟨e1, e2, e3, hq⟩ := hq
    subst e1 e2 e3
    rcases hq with ⟨p', s', V, t, c, v', h1, g1, g2, g3, g4⟩ | ⟨x, g1, g2, g3⟩
    · cases g2
      exact x_same g4 (kr p' s' V t c v h1 g1 g3)
    · cases g2
  · obtain ⟨e1, e2, e3, hq⟩ := hq
    subst e1 e2 e3
    rcases hq with ⟨p', s', V, t, c, v', h1, g1, g2, g3, g4⟩ | ⟨x, g1, g2, g3⟩
    · cases g2
    · cases g2
      obtain ⟨pre, t, suf, f1, f2, f3, f4, f5, f6, f7⟩ := kt x h' g1 g3
      exact ⟨pre, t, suf, f1, f2, f3, f4, f5, f6, Or.inl f7⟩
theorem d_RD_read_0 : decode M_RD_read.2.1 0 = .ok (.aload_n 0, 1) := by decide +kernel
theorem d_RD_read_1 : decode M_RD_read.2.1 1 = .ok (.aload_n 1, 1) := by decide +kernel
theorem d_RD_read_2 : decode M_RD_read.2.1 2 = .ok (.putfield 89, 3) := by decide +kernel
theorem d_RD_read_5 : decode M_RD_read.2.1 5 = .ok (.aload_n 0, 1) := by decide +kernel
theorem d_RD_read_6 : decode M_RD_read.2.1 6 = .ok (.iload_n 2, 1) := by decide +kernel
theorem d_RD_read_7 : decode M_RD_read.2.1 7 = .ok (.putfield 92, 3) := by decide +kernel
theorem d_RD_read_10 : decode M_RD_read.2.1 10 = .ok (.aload_n 0, 1) := by decide +kernel
theorem d_RD_read_11 : decode M_RD_read.2.1 11 = .ok (.iconst 0, 1) := by decide +kernel
theorem d_RD_read_12 : decode M_RD_read.2.1 12 = .ok (.putfield 96, 3) := by decide +kernel
theorem d_RD_read_15 : decode M_RD_read.2.1 15 = .ok (.aload_n 0, 1) := by decide +kernel
theorem d_RD_read_16 : decode M_RD_read.2.1 16 = .ok (.iconst 0, 1) := by decide +kernel
theorem d_RD_read_17 : decode M_RD_read.2.1 17 = .ok (.putfield 99, 3) := by decide +kernel
theorem d_RD_read_20 : decode M_RD_read.2.1 20 = .ok (.aload_n 0, 1) := by decide +kernel
theorem d_RD_read_21 : decode M_RD_read.2.1 21 = .ok (.iconst 0, 1) := by decide +kernel
theorem d_RD_read_22 : decode M_RD_read.2.1 22 = .ok (.putfield 102, 3) := by decide +kernel
theorem d_RD_read_25 : decode M_RD_read.2.1 25 = .ok (.aload_n 0, 1) := by decide +kernel
theorem d_RD_read_26 : decode M_RD_read.2.1 26 = .ok (.iconst (-1), 1) := by decide +kernel
theorem d_RD_read_27 : decode M_RD_read.2.1 27 = .ok (.putfield 105, 3) := by decide +kernel
theorem d_RD_read_30 : decode M_RD_read.2.1 30 = .ok (.aload_n 0, 1) := by decide +kernel
theorem d_RD_read_31 : decode M_RD_read.2.1 31 = .ok (.getfield 81, 3) := by decide +kernel
theorem d_RD_read_34 : decode M_RD_read.2.1 34 = .ok (.getfield 108, 3) := by decide +kernel
theorem d_RD_read_37 : decode M_RD_read.2.1 37 = .ok (.istore_n 3, 1) := by decide +kernel
theorem d_RD_read_38 : decode M_RD_read.2.1 38 = .ok (.aload_n 0, 1) := by decide +kernel
theorem d_RD_read_39 : decode M_RD_read.2.1 39 = .ok (.invokevirtual 113, 3) := by decide +kernel
theorem d_RD_read_42 : decode M_RD_read.2.1 42 = .ok (.aload_n 0, 1) := by decide +kernel
theorem d_RD_read_43 : decode M_RD_read.2.1 43 = .ok (.getfield 116, 3) := by decide +kernel
theorem d_RD_read_46 : decode M_RD_read.2.1 46 = .ok (.istore 4, 2) := by decide +kernel
theorem d_RD_read_48 : decode M_RD_read.2.1 48 = .ok (.aload_n 0, 1) := by decide +kernel
theorem d_RD_read_49 : decode M_RD_read.2.1 49 = .ok (.sipush 1200, 3) := by decide +kernel
theorem d_RD_read_52 : decode M_RD_read.2.1 52 = .ok (.invokevirtual 119, 3) := by decide +kernel
theorem d_RD_read_55 : decode M_RD_read.2.1 55 = .ok (.istore 5, 2) := by decide +kernel
theorem d_RD_read_57 : decode M_RD_read.2.1 57 = .ok (.aload_n 0, 1) := by decide +kernel
theorem d_RD_read_58 : decode M_RD_read.2.1 58 = .ok (.getfield 123, 3) := by decide +kernel
theorem d_RD_read_61 : decode M_RD_read.2.1 61 = .ok (.ifCond .eq 12, 3) := by decide +kernel
theorem d_RD_read_64 : decode M_RD_read.2.1 64 = .ok (.aload_n 0, 1) := by decide +kernel
theorem d_RD_read_65 : decode M_RD_read.2.1 65 = .ok (.aload_n 0, 1) := by decide +kernel
theorem d_RD_read_66 : decode M_RD_read.2.1 66 = .ok (.getfield 116, 3) := by decide +kernel
theorem d_RD_read_69 : decode M_RD_read.2.1 69 = .ok (.invokevirtual 126, 3) := by decide +kernel
theorem d_RD_read_72 : decode M_RD_read.2.1 72 = .ok (.athrow, 1) := by decide +kernel
theorem d_RD_read_73 : decode M_RD_read.2.1 73 = .ok (.aload_n 0, 1) := by decide +kernel
theorem d_RD_read_74 : decode M_RD_read.2.1 74 = .ok (.invokevirtual 113, 3) := by decide +kernel
theorem d_RD_read_77 : decode M_RD_read.2.1 77 = .ok (.aload_n 0, 1) := by decide +kernel
theorem d_RD_read_78 : decode M_RD_read.2.1 78 = .ok (.getfield 123, 3) := by decide +kernel
theorem d_RD_read_81 : decode M_RD_read.2.1 81 = .ok (.bipush 13, 2) := by decide +kernel
theorem d_RD_read_83 : decode M_RD_read.2.1 83 = .ok (.if_icmp .eq 12, 3) := by decide +kernel
theorem d_RD_read_86 : decode M_RD_read.2.1 86 = .ok (.aload_n 0, 1) := by decide +kernel
theorem d_RD_read_87 : decode M_RD_read.2.1 87 = .ok (.aload_n 0, 1) := by decide +kernel
theorem d_RD_read_88 : decode M_RD_read.2.1 88 = .ok (.getfield 116, 3) := by decide +kernel
theorem d_RD_read_91 : decode M_RD_read.2.1 91 = .ok (.invokevirtual 126, 3) := by decide +kernel
theorem d_RD_read_94 : decode M_RD_read.2.1 94 = .ok (.athrow, 1) := by decide +kernel
theorem d_RD_read_95 : decode M_RD_read.2.1 95 = .ok (.aload_n 0, 1) := by decide +kernel
theorem d_RD_read_96 : decode M_RD_read.2.1 96 = .ok (.getfield 81, 3) := by decide +kernel
theorem d_RD_read_99 : decode M_RD_read.2.1 99 = .ok (.getfield 108, 3) := by decide +kernel
theorem d_RD_read_102 : decode M_RD_read.2.1 102 = .ok (.iload_n 3, 1) := by decide +kernel
theorem d_RD_read_103 : decode M_RD_read.2.1 103 = .ok (.isub, 1) := by decide +kernel
theorem d_RD_read_104 : decode M_RD_read.2.1 104 = .ok (.sipush 1000, 3) := by decide +kernel
theorem d_RD_read_107 : decode M_RD_read.2.1 107 = .ok (.if_icmp .le 10, 3) := by decide +kernel
theorem d_RD_read_110 : decode M_RD_read.2.1 110 = .ok (.aload_n 0, 1) := by decide +kernel
theorem d_RD_read_111 : decode M_RD_read.2.1 111 = .ok (.iload 4, 2) := by decide +kernel
theorem d_RD_read_113 : decode M_RD_read.2.1 113 = .ok (.invokevirtual 126, 3) := by decide +kernel
theorem d_RD_read_116 : decode M_RD_read.2.1 116 = .ok (.athrow, 1) := by decide +kernel
theorem d_RD_read_117 : decode M_RD_read.2.1 117 = .ok (.iload 5, 2) := by decide +kernel
theorem d_RD_read_119 : decode M_RD_read.2.1 119 = .ok (.ireturn, 1) := by decide +kernel
theorem d_RD_read_120 : decode M_RD_read.2.1 120 = .ok (.astore_n 3, 1) := by decide +kernel
theorem d_RD_read_121 : decode M_RD_read.2.1 121 = .ok (.iconst (-1), 1) := by decide +kernel
theorem d_RD_read_122 : decode M_RD_read.2.1 122 = .ok (.ireturn, 1) := by decide +kernel
/-- what the reading of the tape leaves -/
def g_RDP (u : Nat → Nat) (N : Nat) (h : xH) : Option Value → xH → Prop := fun v h1 => match g_all u N with
  | .inl x => v = some (.int (-1)) ∧ g_Tw h N x h1
  | .inr (s, V, t) => ∃ (r : Nat) (T : List (List Int32)) (Na B : Nat → Nat → Int32) (Nm : Nat → Int64) (q : Nat) (St Vr Kp : Nat → Int32) (aa bh tk oo : Int32) (nm : Int64) (lt tp kn rk : Int32) (Wd : Nat → Int32), v = some (.int (nI r)) ∧ g_NB T Na ∧ g_tot T ≤ 5000 ∧ T.length ≤ 8990 ∧ q ≤ s ∧ g_mT u N T B Nm s q t r ∧ h1 = (g_mw h N T Na B Nm s q St Vr Kp aa bh tk oo nm lt tp (-1) (nI V.length) kn rk Wd)
set_option maxRecDepth 20000 in
theorem w_RD_read {E : xR} {h : xH} {u : Nat → Nat} {N : Nat} {Na B : Nat → Nat → Int32} {Nm : Nat → Int64} {St Vr Kp Wd : Nat → Int32} {aa bh tk oo lt tp pl kn rk : Int32} {nm : Int64} {sv nv : Value} (h22 : h 22 = .inl (1, 4096, .inl (fun i => g_sb (u i)))) (hu : ∀ i, u i < 256) (hN : N ≤ 4096) (hnt : ¬ x_tg E) (hB : g_TB2 h) (hNB : g_NB [] Na)
    (h24 : h 24 = .inr (6, [.ref 25, .ref 26, .ref 27, .ref 28, .ref 29, .ref 30, .int (nI 0), .int (nI 0)])) (b0 : h 25 = .inl (0, 9000, .inl (B 0))) (b1 : h 26 = .inl (0, 9000, .inl (B 1))) (b2 : h 27 = .inl (0, 9000, .inl (B 2))) (b3 : h 28 = .inl (0, 9000, .inl (B 3))) (b4 : h 29 = .inl (0, 9000, .inl (B 4))) (b5 : h 30 = .inl (2, 9000, .inr (.inl Nm)))
    (h31 : h 31 = .inr (7, [.ref 32, .ref 33, .ref 34, .ref 35, .int (nI 0), .int (nI 0)])) (n0 : h 32 = .inl (1, 5000, .inl (Na 0))) (n1 : h 33 = .inl (0, 9001, .inl (Na 1))) (n2 : h 34 = .inl (0, 9000, .inl (Na 2))) (n3 : h 35 = .inl (0, 1024, .inl (Na 3)))
    (h36 : h 36 = .inr (8, [.ref 37, .ref 38, .ref 39, .ref 24, .ref 31, sv, nv, .int aa, .int bh, .int tk, .int oo, .long nm, .ref 40, .int lt, .ref 41, .int tp, .int pl, .ref 42, .int (nI 0), .int kn, .int rk, .ref 43])) (h40 : h 40 = .inl (1, 4096, .inl Wd)) (h41 : h 41 = .inl (0, 4200, .inl St)) (h42 : h 42 = .inl (0, 4200, .inl Vr)) (h43 : h 43 = .inl (1, 4096, .inl Kp)) : x_Mt E M_RD_read 413 0 0 [.ref 36, .ref 22, .int (nI N)] 52 h (x_YE (g_RDP u N h)) := by
  have hp0 : (g_pl (g_at u N) N 0) ≤ N := by
    have := g_sk_le (g_at u N) (N - 0) false 0
    show g_sk (g_at u N) (N - 0) false 0 ≤ N
    omega
  have hfail : ∀ (x : Nat) (h' : xH), g_all u N = .inl x → g_Tw h N x h' → x_W E M_RD_read (x_room 413 0 0) (x_YE (g_RDP u N h)) 52 h' 121 [] [] 0 0 := by
    intro x h' ha ht
    refine x_iconst (-1) d_RD_read_121 (by decide) ?_
    exact x_ireturn d_RD_read_122 rfl rfl (x_YEi h' (by unfold g_RDP; rw [ha]; exact ⟨rfl, ht⟩) (fun _ _ => rfl))
  refine x_Mt.of (by decide) (Nat.le_of_ble_eq_true rfl) ?_
  show x_W E M_RD_read _ _ 52 h 0 [(0, .ref 36), (1, .ref 22), (2, .int (nI N))] [] 0 0
  refine x_aload_n d_RD_read_0 rfl rfl ?_
  refine x_aload_n d_RD_read_1 rfl rfl ?_
  refine x_put d_RD_read_2 f_RD_89 (Nat.le_of_ble_eq_true rfl) (Nat.le_of_ble_eq_true rfl) (by first | rfl | assumption) (by rfl) (by rfl) (by exact (Nat.le_of_ble_eq_true rfl)) ?_
  refine x_aload_n d_RD_read_5 rfl rfl ?_
  refine x_iload_n d_RD_read_6 rfl rfl ?_
  refine x_put d_RD_read_7 f_RD_92 (Nat.le_of_ble_eq_true rfl) (Nat.le_of_ble_eq_true rfl) (by first | rfl | assumption) (by rfl) (by rfl) (by exact (Nat.le_of_ble_eq_true rfl)) ?_
  refine x_aload_n d_RD_read_10 rfl rfl ?_
  refine x_iconst 0 d_RD_read_11 (by decide) ?_
  refine x_put d_RD_read_12 f_RD_96 (Nat.le_of_ble_eq_true rfl) (Nat.le_of_ble_eq_true rfl) (by first | rfl | assumption) (by rfl) (by rfl) (by exact (Nat.le_of_ble_eq_true rfl)) ?_
  refine x_aload_n d_RD_read_15 rfl rfl ?_
  refine x_iconst 0 d_RD_read_16 (by decide) ?_
  refine x_put d_RD_read_17 f_RD_99 (Nat.le_of_ble_eq_true rfl) (Nat.le_of_ble_eq_true rfl) (by first | rfl | assumption) (by rfl) (by rfl) (by exact (Nat.le_of_ble_eq_true rfl)) ?_
  refine x_aload_n d_RD_read_20 rfl rfl ?_
  refine x_iconst 0 d_RD_read_21 (by decide) ?_
  refine x_put d_RD_read_22 f_RD_102 (Nat.le_of_ble_eq_true rfl) (Nat.le_of_ble_eq_true rfl) (by first | rfl | assumption) (by rfl) (by rfl) (by exact (Nat.le_of_ble_eq_true rfl)) ?_
  refine x_aload_n d_RD_read_25 rfl rfl ?_
  refine x_iconst (-1) d_RD_read_26 (by decide) ?_
  refine x_put d_RD_read_27 f_RD_105 (Nat.le_of_ble_eq_true rfl) (Nat.le_of_ble_eq_true rfl) (by first | rfl | assumption) (by rfl) (by rfl) (by exact (Nat.le_of_ble_eq_true rfl)) ?_
  refine x_same (h' := (g_mw h N [] Na B Nm 0 0 St Vr Kp aa (nI 0) tk (nI 0) nm lt (nI 0) (-1) (nI 0) kn rk Wd)) (x_pt rfl rfl rfl rfl rfl rfl rfl rfl rfl rfl rfl rfl rfl rfl rfl rfl rfl rfl rfl rfl rfl rfl rfl rfl h24 b0 b1 b2 b3 b4 b5 h31 n0 n1 n2 n3 rfl rfl rfl rfl h40 h41 h42 h43 rfl rfl rfl rfl rfl rfl rfl rfl) ?_
  refine x_aload_n d_RD_read_30 rfl rfl ?_
  refine x_get d_RD_read_31 f_RD_81 (Nat.le_of_ble_eq_true rfl) (Nat.le_of_ble_eq_true rfl) (by first | rfl | assumption) (by rfl) ?_
  refine x_get d_RD_read_34 f_RD_108 (Nat.le_of_ble_eq_true rfl) (Nat.le_of_ble_eq_true rfl) (by first | rfl | assumption) (by rfl) ?_
  refine x_istore_n d_RD_read_37 rfl (Nat.le_of_ble_eq_true rfl) ?_
  refine x_aload_n d_RD_read_38 rfl rfl ?_
  refine x_callCV0E d_RD_read_39 k_RD_113 (Nat.le_of_ble_eq_true rfl) (Nat.le_of_ble_eq_true rfl) (by first | rfl | assumption) (by rfl) (w_RD_scan (b := 0) (p := (g_pl (g_at u N) N 0)) h22 hu hN (Nat.zero_le _) rfl) (Nat.le_of_ble_eq_true rfl) (Nat.le_of_ble_eq_true rfl) (Nat.le_of_ble_eq_true rfl) (Nat.le_of_ble_eq_true rfl) (Nat.le_of_ble_eq_true rfl) hnt 3 (Nat.le_of_ble_eq_true rfl) (fun v1 hh1 hp1 => ?_)
  obtain ⟨rfl, bh2, lt2, nm2, Wd2, hTO2, rfl⟩ := hp1
  refine x_same (h' := (g_mw h N [] Na B Nm 0 0 St Vr Kp (nI (g_pl (g_at u N) N 0)) bh2 (nI (g_ky (g_at u N) N (g_pl (g_at u N) N 0))) (nI 0) nm2 lt2 (nI 0) (-1) (nI 0) kn rk Wd2)) (fun _ _ => rfl) ?_
  refine x_aload_n d_RD_read_42 rfl rfl ?_
  refine x_get d_RD_read_43 f_RD_116 (Nat.le_of_ble_eq_true rfl) (Nat.le_of_ble_eq_true rfl) (by first | rfl | assumption) (by rfl) ?_
  refine x_istore d_RD_read_46 (Nat.le_of_ble_eq_true rfl) ?_
  refine x_aload_n d_RD_read_48 rfl rfl ?_
  refine x_sipush 1200 d_RD_read_49 (by decide) ?_
  refine x_callCV1M d_RD_read_52 k_RD_119 (Nat.le_of_ble_eq_true rfl) (Nat.le_of_ble_eq_true rfl) (by first | rfl | assumption) (by rfl) (w_RD_term h22 hu hN hB 100 1200 (g_pl (g_at u N) N 0) 0 0 0 0 0 [] Na B Nm St Vr Kp bh2 lt2 nm2 (-1) kn rk Wd2 [] (by decide) hp0 (Nat.zero_le _) (Nat.le_refl _) (Nat.le_refl _) (Nat.le_refl _) rfl ⟨hNB, Nat.zero_le _, Nat.zero_le _⟩ (fun i hi => absurd hi (Nat.not_lt_zero _)) hTO2) (Nat.le_of_ble_eq_true rfl) (Nat.le_of_ble_eq_true rfl) (Nat.le_of_ble_eq_true rfl) (Nat.le_of_ble_eq_true rfl) (Nat.le_of_ble_eq_true rfl) hnt 3 (Nat.le_of_ble_eq_true rfl) (fun p3 s3 V3 t3 c3 v3 hh3 hr3 hR3 => ?_) (fun x h' hd hx => ⟨[], (30, 119, 120, 61), [], rfl, fun z hz => absurd hz (List.not_mem_nil), by decide, by decide, by decide, ⟨"java/lang/IllegalStateException", x_mem 912 (by decide +kernel) (by decide +kernel), x_mem 914 (by decide +kernel) (by decide +kernel)⟩, 3, d_RD_read_120, rfl, x_wk [] (by simp) (hfail x h' (g_allE hd) hx)⟩)
  obtain ⟨r3, T3, Na3, B3, Nm3, z3, q3, St3, Vr3, Kp3, bh3, lt3, nm3, Wd3, rfl, hNI3, hMV3, hTO3, hE3, hz3, hq3, hS3, hT3, rfl⟩ := hR3
  have bb3 := g_Tb (u := u) 100 1200 (g_pl (g_at u N) N 0) 0 [] (by decide) hp0 _ _ _ _ _ hr3
  obtain ⟨kk3, dd3, ee3⟩ := g_Td (u := u) hN 100 1200 (g_pl (g_at u N) N 0) 0 [] (by decide) hp0 (Nat.le_refl _) (Nat.zero_le _) _ _ _ _ _ hr3
  have hkL3 := g_kyL (u := u) bb3.2.1
  have hall : g_all u N = (if ¬ (g_ky (g_at u N) N p3) = 0 then .inl p3 else if ¬ (g_ky (g_at u N) N (g_nx (g_at u N) N p3)) = 13 then .inl (g_nx (g_at u N) N p3) else if 1000 < s3 then .inl (g_pl (g_at u N) N 0) else .inr (s3, V3, t3)) := by unfold g_all; rw [hr3]
  refine x_istore d_RD_read_55 (Nat.le_of_ble_eq_true rfl) ?_
  refine x_aload_n d_RD_read_57 rfl rfl ?_
  refine x_get d_RD_read_58 f_RD_123 (Nat.le_of_ble_eq_true rfl) (Nat.le_of_ble_eq_true rfl) (by first | rfl | assumption) (by rfl) ?_
  refine x_if_eq 73 d_RD_read_61 (by decide) (fun c_61 => ?_) (fun c_61 => ?_)
  · have k0 : (g_ky (g_at u N) N p3) = 0 := (g_nIne (b := 0) (by omega) (by decide)).mp c_61
    obtain rfl : bh3 = nI (g_bh (g_at u N) N p3) := hTO3.2.1 (by rw [k0]; decide)
    have hnb3 := g_nxb (u := u) bb3.2.1 (by rw [k0]; decide)
    have hkL4 := g_kyL (u := u) hnb3.2.1
    refine x_aload_n d_RD_read_73 rfl rfl ?_
    refine x_callCV0E d_RD_read_74 k_RD_113 (Nat.le_of_ble_eq_true rfl) (Nat.le_of_ble_eq_true rfl) (by first | rfl | assumption) (by rfl) (w_RD_scan (p := (g_nx (g_at u N) N p3)) h22 hu hN (g_bhN hu ⟨bb3.2.1, by rw [k0]; decide⟩) rfl) (Nat.le_of_ble_eq_true rfl) (Nat.le_of_ble_eq_true rfl) (Nat.le_of_ble_eq_true rfl) (Nat.le_of_ble_eq_true rfl) (Nat.le_of_ble_eq_true rfl) hnt 3 (Nat.le_of_ble_eq_true rfl) (fun v1 hh1 hp1 => ?_)
    obtain ⟨rfl, bh4, lt4, nm4, Wd4, hTO4, rfl⟩ := hp1
    refine x_same (h' := (g_mw h N T3 Na3 B3 Nm3 z3 q3 St3 Vr3 Kp3 (nI (g_nx (g_at u N) N p3)) bh4 (nI (g_ky (g_at u N) N (g_nx (g_at u N) N p3))) (nI 0) nm4 lt4 (nI 0) (-1) (nI V3.length) kn (nI c3) Wd4)) (fun _ _ => rfl) ?_
    refine x_aload_n d_RD_read_77 rfl rfl ?_
    refine x_get d_RD_read_78 f_RD_123 (Nat.le_of_ble_eq_true rfl) (Nat.le_of_ble_eq_true rfl) (by first | rfl | assumption) (by rfl) ?_
    refine x_bipush 13 d_RD_read_81 (by decide) ?_
    refine x_icmp_eq 95 d_RD_read_83 (by decide) (fun c_83 => ?_) (fun c_83 => ?_)
    · have k13 : (g_ky (g_at u N) N (g_nx (g_at u N) N p3)) = 13 := (g_nIne (by omega) (by decide)).mp c_83
      refine x_aload_n d_RD_read_95 rfl rfl ?_
      refine x_get d_RD_read_96 f_RD_81 (Nat.le_of_ble_eq_true rfl) (Nat.le_of_ble_eq_true rfl) (by first | rfl | assumption) (by rfl) ?_
      refine x_get d_RD_read_99 f_RD_108 (Nat.le_of_ble_eq_true rfl) (Nat.le_of_ble_eq_true rfl) (by first | rfl | assumption) (by rfl) ?_
      refine x_iload_n d_RD_read_102 rfl rfl ?_
      refine x_isub d_RD_read_103 ?_
      refine x_topi (nI z3) (by rw [show nI 0 = nI 0 from rfl]; exact g_nIsub (a := z3) (b := 0) (Nat.zero_le _)) ?_
      refine x_topi (nI s3) (by rw [show z3 = s3 by omega]) ?_
      refine x_sipush 1000 d_RD_read_104 (by decide) ?_
      refine x_icmp_le 117 d_RD_read_107 (by decide) (fun c_107 => ?_) (fun c_107 => ?_)
      · refine x_iload d_RD_read_117 rfl ?_
        exact x_ireturn d_RD_read_119 rfl rfl (x_YEi _ (by unfold g_RDP; rw [hall.trans ((if_neg (fun y => y k0)).trans ((if_neg (fun y => y k13)).trans (if_neg (by have := (nI_leI (b := 1000) (by omega) (by decide)).mp c_107; omega))))]; exact ⟨r3, T3, Na3, B3, Nm3, q3, St3, Vr3, Kp3, _, bh4, _, _, nm4, lt4, _, kn, _, Wd4, rfl, hNI3.1, by have := g_NIb hNI3; omega, by have := g_NIb hNI3; omega, by omega, (show s3 = z3 by omega) ▸ hT3, by rw [show z3 = s3 by omega]⟩) (fun _ _ => rfl))
      · refine x_aload_n d_RD_read_110 rfl rfl ?_
        refine x_iload d_RD_read_111 rfl ?_
        refine x_callCV1Y d_RD_read_113 k_RD_126 (Nat.le_of_ble_eq_true rfl) (Nat.le_of_ble_eq_true rfl) (by first | rfl | assumption) (by rfl) w_RD_bad (Nat.le_of_ble_eq_true rfl) (Nat.le_of_ble_eq_true rfl) (Nat.le_of_ble_eq_true rfl) (Nat.le_of_ble_eq_true rfl) (Nat.le_of_ble_eq_true rfl) hnt 3 (Nat.le_of_ble_eq_true rfl) ?_
        refine x_same (h' := (g_mw h N T3 Na3 B3 Nm3 z3 q3 St3 Vr3 Kp3 (nI (g_nx (g_at u N) N p3)) bh4 (nI (g_ky (g_at u N) N (g_nx (g_at u N) N p3))) (nI 0) nm4 lt4 (nI 0) (nI (g_pl (g_at u N) N 0)) (nI V3.length) kn (nI c3) Wd4)) (fun _ _ => rfl) ?_
        exact x_athrowC d_RD_read_116 (Nat.le_of_ble_eq_true rfl) (Nat.le_of_ble_eq_true rfl) hB.2.2 hnt 3 (Nat.le_of_ble_eq_true rfl) ⟨[], (30, 119, 120, 61), [], rfl, fun z hz => absurd hz (List.not_mem_nil), by decide, by decide, by decide, ⟨"java/lang/IllegalStateException", x_mem 912 (by decide +kernel) (by decide +kernel), x_mem 914 (by decide +kernel) (by decide +kernel)⟩, 3, d_RD_read_120, rfl, x_wk [] (by simp) (hfail (g_pl (g_at u N) N 0) _ (hall.trans ((if_neg (fun y => y k0)).trans ((if_neg (fun y => y k13)).trans (if_pos (Nat.not_le.mp fun y => c_107 (nI_le y (by decide))))))) g_txW)⟩
    · refine x_aload_n d_RD_read_86 rfl rfl ?_
      refine x_aload_n d_RD_read_87 rfl rfl ?_
      refine x_get d_RD_read_88 f_RD_116 (Nat.le_of_ble_eq_true rfl) (Nat.le_of_ble_eq_true rfl) (by first | rfl | assumption) (by rfl) ?_
      refine x_callCV1Y d_RD_read_91 k_RD_126 (Nat.le_of_ble_eq_true rfl) (Nat.le_of_ble_eq_true rfl) (by first | rfl | assumption) (by rfl) w_RD_bad (Nat.le_of_ble_eq_true rfl) (Nat.le_of_ble_eq_true rfl) (Nat.le_of_ble_eq_true rfl) (Nat.le_of_ble_eq_true rfl) (Nat.le_of_ble_eq_true rfl) hnt 3 (Nat.le_of_ble_eq_true rfl) ?_
      refine x_same (h' := (g_mw h N T3 Na3 B3 Nm3 z3 q3 St3 Vr3 Kp3 (nI (g_nx (g_at u N) N p3)) bh4 (nI (g_ky (g_at u N) N (g_nx (g_at u N) N p3))) (nI 0) nm4 lt4 (nI 0) (nI (g_nx (g_at u N) N p3)) (nI V3.length) kn (nI c3) Wd4)) (fun _ _ => rfl) ?_
      exact x_athrowC d_RD_read_94 (Nat.le_of_ble_eq_true rfl) (Nat.le_of_ble_eq_true rfl) hB.2.2 hnt 3 (Nat.le_of_ble_eq_true rfl) ⟨[], (30, 119, 120, 61), [], rfl, fun z hz => absurd hz (List.not_mem_nil), by decide, by decide, by decide, ⟨"java/lang/IllegalStateException", x_mem 912 (by decide +kernel) (by decide +kernel), x_mem 914 (by decide +kernel) (by decide +kernel)⟩, 3, d_RD_read_120, rfl, x_wk [] (by simp) (hfail (g_nx (g_at u N) N p3) _ (hall.trans ((if_neg (fun y => y k0)).trans (if_pos (fun y => c_83 (by rw [y]; rfl))))) g_txW)⟩
  · refine x_aload_n d_RD_read_64 rfl rfl ?_
    refine x_aload_n d_RD_read_65 rfl rfl ?_
    refine x_get d_RD_read_66 f_RD_116 (Nat.le_of_ble_eq_true rfl) (Nat.le_of_ble_eq_true rfl) (by first | rfl | assumption) (by rfl) ?_
    refine x_callCV1Y d_RD_read_69 k_RD_126 (Nat.le_of_ble_eq_true rfl) (Nat.le_of_ble_eq_true rfl) (by first | rfl | assumption) (by rfl) w_RD_bad (Nat.le_of_ble_eq_true rfl) (Nat.le_of_ble_eq_true rfl) (Nat.le_of_ble_eq_true rfl) (Nat.le_of_ble_eq_true rfl) (Nat.le_of_ble_eq_true rfl) hnt 3 (Nat.le_of_ble_eq_true rfl) ?_
    refine x_same (h' := (g_mw h N T3 Na3 B3 Nm3 z3 q3 St3 Vr3 Kp3 (nI p3) bh3 (nI (g_ky (g_at u N) N p3)) (nI 0) nm3 lt3 (nI 0) (nI p3) (nI V3.length) kn (nI c3) Wd3)) (fun _ _ => rfl) ?_
    exact x_athrowC d_RD_read_72 (Nat.le_of_ble_eq_true rfl) (Nat.le_of_ble_eq_true rfl) hB.2.2 hnt 3 (Nat.le_of_ble_eq_true rfl) ⟨[], (30, 119, 120, 61), [], rfl, fun z hz => absurd hz (List.not_mem_nil), by decide, by decide, by decide, ⟨"java/lang/IllegalStateException", x_mem 912 (by decide +kernel) (by decide +kernel), x_mem 914 (by decide +kernel) (by decide +kernel)⟩, 3, d_RD_read_120, rfl, x_wk [] (by simp) (hfail p3 _ (hall.trans (if_pos (fun y => c_61 (by rw [y]; rfl)))) g_txW)⟩
