theorem g_CS0 {h : xH} : g_CS h h := ⟨fun _ _ => rfl, rfl⟩
theorem g_NB0 {TX FR NX FS : Nat → Int32} (hF : ∀ k, k < 1024 → FS k = -1) : g_NB [] (g_n4 TX (upd FR 0 0) NX FS) := by
  refine ⟨⟨fun k hk => ?_, fun k w h => (by cases h), fun j hj => ?_⟩, trivial⟩
  · have hk : k ≤ 0 := hk
    obtain rfl : k = 0 := by omega
    show upd FR 0 0 0 = nI 0
    exact g_updY
  · exact hF j hj
theorem w_MO_r58 {E : xR} {h h0 : xH} {u : Nat → Nat} {N rl : Nat} {pl sy va de : Int32} {Rs : Nat → Int32} (h21 : h 21 = .inr (5, [.int 0, .int 0, .int pl, .int sy, .int va, .int de, .int (nI rl), .ref 22, .ref 23, .ref 24, .ref 31, .ref 36, .ref 44, .ref 49, .ref 50])) (h22 : h 22 = .inl (1, 4096, .inl (fun i => g_sb (u i)))) (h23 : h 23 = .inl (1, 4096, .inl Rs)) (hcs : g_CS h0 h) (hTB : g_TB2 h) (h44 : ∃ xa xb xc : Int32, h 44 = .inr (9, [.ref 45, .ref 46, .ref 47, .ref 48, .int xa, .int xb, .int xc])) (h45 : ∃ f, h 45 = .inl (1, 4096, .inl f)) (h46 : ∃ f, h 46 = .inl (0, 9000, .inl f)) (h47 : ∃ f, h 47 = .inl (0, 9000, .inl f)) (h48 : ∃ f, h 48 = .inl (0, 4200, .inl f)) (h49 : ∃ f, h 49 = .inl (0, 9000, .inl f)) (h50 : ∃ f, h 50 = .inl (0, 9000, .inl f)) (hu : ∀ i, u i < 256) (hN : N ≤ 4096) {v1 : Option Value} {hh1 : xH} (hp1 : g_RDP u N h v1 hh1) : x_W E M_MO_read (x_room 414 0 0) (x_YE (g_MRP h0 u N rl sy va de Rs)) 52 hh1 58 [(0, .ref 21), (1, .int (nI N))] (v1.toList ++ []) 0 0 := by
  unfold g_RDP at hp1
  cases hall : g_all u N with
  | inl x =>
    rw [hall] at hp1
    obtain ⟨rfl, T2, Na2, B2, Nm2, z2, q2, St2, Vr2, Kp2, aa2, bh2, tk2, oo2, nm2, lt2, tp2, vd2, kn2, rk2, Wd2, he⟩ := hp1
    refine x_same he ?_
    exact w_MO_rA h21 h22 h23 hcs hTB h44 h45 h46 h47 h48 h49 h50 hall
  | inr p =>
    obtain ⟨s2, V2, t2⟩ := p
    rw [hall] at hp1
    obtain ⟨r2, T2, Na2, B2, Nm2, q2, St2, Vr2, Kp2, aa2, bh2, tk2, oo2, nm2, lt2, tp2, kn2, rk2, Wd2, rfl, hNB2, ht1, ht2, hq2, hm2, rfl⟩ := hp1
    exact w_MO_rB h21 h22 h23 hcs hTB h44 h45 h46 h47 h48 h49 h50 hu hN hNB2 ht1 hq2 hm2 hall
set_option maxRecDepth 20000 in
theorem w_MO_r46 {E : xR} {h h0 : xH} {u : Nat → Nat} {N rl : Nat} {pl sy va de : Int32} {Rs : Nat → Int32} {Na B : Nat → Nat → Int32} {Nm : Nat → Int64} {St Vr Kp Wd : Nat → Int32} {aa bh tk oo lt tp p2 kn rk : Int32} {nm : Int64} {sv nv : Value} (h21 : h 21 = .inr (5, [.int 0, .int 0, .int pl, .int sy, .int va, .int de, .int (nI rl), .ref 22, .ref 23, .ref 24, .ref 31, .ref 36, .ref 44, .ref 49, .ref 50])) (h22 : h 22 = .inl (1, 4096, .inl (fun i => g_sb (u i)))) (h23 : h 23 = .inl (1, 4096, .inl Rs)) (hcs : g_CS h0 h) (hTB : g_TB2 h) (h44 : ∃ xa xb xc : Int32, h 44 = .inr (9, [.ref 45, .ref 46, .ref 47, .ref 48, .int xa, .int xb, .int xc])) (h45 : ∃ f, h 45 = .inl (1, 4096, .inl f)) (h46 : ∃ f, h 46 = .inl (0, 9000, .inl f)) (h47 : ∃ f, h 47 = .inl (0, 9000, .inl f)) (h48 : ∃ f, h 48 = .inl (0, 4200, .inl f)) (h49 : ∃ f, h 49 = .inl (0, 9000, .inl f)) (h50 : ∃ f, h 50 = .inl (0, 9000, .inl f)) (hu : ∀ i, u i < 256) (hN : N ≤ 4096) (hnt : ¬ x_tg E) (hNB : g_NB [] Na) (h24 : h 24 = .inr (6, [.ref 25, .ref 26, .ref 27, .ref 28, .ref 29, .ref 30, .int (nI 0), .int (nI 0)])) (b0 : h 25 = .inl (0, 9000, .inl (B 0))) (b1 : h 26 = .inl (0, 9000, .inl (B 1))) (b2 : h 27 = .inl (0, 9000, .inl (B 2))) (b3 : h 28 = .inl (0, 9000, .inl (B 3))) (b4 : h 29 = .inl (0, 9000, .inl (B 4))) (b5 : h 30 = .inl (2, 9000, .inr (.inl Nm))) (h31 : h 31 = .inr (7, [.ref 32, .ref 33, .ref 34, .ref 35, .int (nI 0), .int (nI 0)])) (n0 : h 32 = .inl (1, 5000, .inl (Na 0))) (n1 : h 33 = .inl (0, 9001, .inl (Na 1))) (n2 : h 34 = .inl (0, 9000, .inl (Na 2))) (n3 : h 35 = .inl (0, 1024, .inl (Na 3))) (h36 : h 36 = .inr (8, [.ref 37, .ref 38, .ref 39, .ref 24, .ref 31, sv, nv, .int aa, .int bh, .int tk, .int oo, .long nm, .ref 40, .int lt, .ref 41, .int tp, .int p2, .ref 42, .int (nI 0), .int kn, .int rk, .ref 43])) (h40 : h 40 = .inl (1, 4096, .inl Wd)) (h41 : h 41 = .inl (0, 4200, .inl St)) (h42 : h 42 = .inl (0, 4200, .inl Vr)) (h43 : h 43 = .inl (1, 4096, .inl Kp)) : x_W E M_MO_read (x_room 414 0 0) (x_YE (g_MRP h0 u N rl sy va de Rs)) 52 h 46 [(0, .ref 21), (1, .int (nI N))] [] 0 0 := by
  refine x_aload_n d_MO_read_46 rfl rfl ?_
  refine x_get d_MO_read_47 f_MO_39 (Nat.le_of_ble_eq_true rfl) (Nat.le_of_ble_eq_true rfl) (by first | rfl | assumption) (by rfl) ?_
  refine x_aload_n d_MO_read_50 rfl rfl ?_
  refine x_get d_MO_read_51 f_MO_13 (Nat.le_of_ble_eq_true rfl) (Nat.le_of_ble_eq_true rfl) (by first | rfl | assumption) (by rfl) ?_
  refine x_iload_n d_MO_read_54 rfl rfl ?_
  refine x_callV2E d_MO_read_55 k_MO_83 (Nat.le_of_ble_eq_true rfl) (Nat.le_of_ble_eq_true rfl) h36 (by rfl) (w_RD_read h22 hu hN hnt hTB hNB h24 b0 b1 b2 b3 b4 b5 h31 n0 n1 n2 n3 h36 h40 h41 h42 h43) (Nat.le_of_ble_eq_true rfl) (Nat.le_of_ble_eq_true rfl) (Nat.le_of_ble_eq_true rfl) (Nat.le_of_ble_eq_true rfl) (Nat.le_of_ble_eq_true rfl) rfl (fun v1 hh1 hp1 => ?_)
  exact w_MO_r58 h21 h22 h23 hcs hTB h44 h45 h46 h47 h48 h49 h50 hu hN hp1
set_option maxRecDepth 20000 in
theorem w_MO_read {E : xR} {h : xH} {u : Nat → Nat} {N rl : Nat} {th pl sy va de : Int32} {Rs : Nat → Int32} (hM : g_MM h u N th pl rl sy va de Rs) (hu : ∀ i, u i < 256) (hN : N ≤ 4096) (hnt : ¬ x_tg E) : x_Mt E M_MO_read 414 0 0 [.ref 21] 52 h (x_YE (g_MRP h u N rl sy va de Rs)) := by
  obtain ⟨h21, h22, h23, ⟨B, Nm, ta, tb, h24, b0, b1, b2, b3, b4, b5⟩, ⟨Na, na, nb, h31, n0, n1, n2, n3⟩, ⟨sv, nv, aa, bh, tk, oo, nm, lt, tp, p2, vd, kn, rk, h36⟩, ⟨Wd, h40⟩, ⟨St, h41⟩, ⟨Vr, h42⟩, ⟨Kp, h43⟩, hTB, h44, h45, h46, h47, h48, h49, h50⟩ := hM
  refine x_Mt.of (by decide) (Nat.le_of_ble_eq_true rfl) ?_
  show x_W E M_MO_read _ _ 52 h 0 [(0, .ref 21)] [] 0 0
  refine x_aload_n d_MO_read_0 rfl rfl ?_
  refine x_iconst 0 d_MO_read_1 (by decide) ?_
  refine x_put d_MO_read_2 f_MO_60 (Nat.le_of_ble_eq_true rfl) (Nat.le_of_ble_eq_true rfl) (by first | rfl | assumption) (by rfl) (by rfl) (by exact (Nat.le_of_ble_eq_true rfl)) ?_
  refine x_aload_n d_MO_read_5 rfl rfl ?_
  refine x_get d_MO_read_6 f_MO_57 (Nat.le_of_ble_eq_true rfl) (Nat.le_of_ble_eq_true rfl) (by first | rfl | assumption) (by rfl) ?_
  refine x_istore_n d_MO_read_9 rfl (Nat.le_of_ble_eq_true rfl) ?_
  refine x_aload_n d_MO_read_10 rfl rfl ?_
  refine x_iconst 0 d_MO_read_11 (by decide) ?_
  refine x_put d_MO_read_12 f_MO_57 (Nat.le_of_ble_eq_true rfl) (Nat.le_of_ble_eq_true rfl) (by first | rfl | assumption) (by rfl) (by rfl) (by exact (Nat.le_of_ble_eq_true rfl)) ?_
  refine x_aload_n d_MO_read_15 rfl rfl ?_
  refine x_get d_MO_read_16 f_MO_23 (Nat.le_of_ble_eq_true rfl) (Nat.le_of_ble_eq_true rfl) (by first | rfl | assumption) (by rfl) ?_
  refine x_iconst 0 d_MO_read_19 (by decide) ?_
  refine x_put d_MO_read_20 f_MO_71 (Nat.le_of_ble_eq_true rfl) (Nat.le_of_ble_eq_true rfl) (by first | rfl | assumption) (by rfl) (by rfl) (by exact (Nat.le_of_ble_eq_true rfl)) ?_
  refine x_aload_n d_MO_read_23 rfl rfl ?_
  refine x_get d_MO_read_24 f_MO_23 (Nat.le_of_ble_eq_true rfl) (Nat.le_of_ble_eq_true rfl) (by first | rfl | assumption) (by rfl) ?_
  refine x_iconst 0 d_MO_read_27 (by decide) ?_
  refine x_put d_MO_read_28 f_MO_74 (Nat.le_of_ble_eq_true rfl) (Nat.le_of_ble_eq_true rfl) (by first | rfl | assumption) (by rfl) (by rfl) (by exact (Nat.le_of_ble_eq_true rfl)) ?_
  refine x_aload_n d_MO_read_31 rfl rfl ?_
  refine x_get d_MO_read_32 f_MO_30 (Nat.le_of_ble_eq_true rfl) (Nat.le_of_ble_eq_true rfl) (by first | rfl | assumption) (by rfl) ?_
  refine x_same (h' := (g_nw (x_up (x_up h 21 (.inr (5, [.int 0, .int 0, .int pl, .int sy, .int va, .int de, .int (nI rl), .ref 22, .ref 23, .ref 24, .ref 31, .ref 36, .ref 44, .ref 49, .ref 50]))) 24 (.inr (6, [.ref 25, .ref 26, .ref 27, .ref 28, .ref 29, .ref 30, .int (nI 0), .int (nI 0)]))) na nb (Na 0) (Na 1) (Na 2) (Na 3))) (x_pt rfl rfl rfl rfl rfl rfl rfl rfl rfl rfl rfl rfl rfl rfl rfl rfl rfl rfl rfl rfl rfl rfl rfl rfl rfl rfl rfl rfl rfl rfl rfl h31 n0 n1 n2 n3 rfl rfl rfl rfl rfl rfl rfl rfl rfl rfl rfl rfl rfl rfl rfl rfl) ?_
  refine x_callV0E d_MO_read_35 k_MO_77 (Nat.le_of_ble_eq_true rfl) (Nat.le_of_ble_eq_true rfl) (by rfl) (by rfl) w_NA_clear (Nat.le_of_ble_eq_true rfl) (Nat.le_of_ble_eq_true rfl) (Nat.le_of_ble_eq_true rfl) (Nat.le_of_ble_eq_true rfl) (Nat.le_of_ble_eq_true rfl) rfl (fun v1 hh1 hp1 => ?_)
  obtain ⟨rfl, FS1, hFS, rfl⟩ := hp1
  refine x_aload_n d_MO_read_38 rfl rfl ?_
  refine x_get d_MO_read_39 f_MO_39 (Nat.le_of_ble_eq_true rfl) (Nat.le_of_ble_eq_true rfl) (by first | rfl | assumption) (by rfl) ?_
  refine x_iconst 0 d_MO_read_42 (by decide) ?_
  refine x_put d_MO_read_43 f_MO_80 (Nat.le_of_ble_eq_true rfl) (Nat.le_of_ble_eq_true rfl) (by first | rfl | assumption) (by rfl) (by rfl) (by exact (Nat.le_of_ble_eq_true rfl)) ?_
  have hcs : g_CS h (x_up (g_nw (x_up (x_up h 21 (.inr (5, [.int 0, .int 0, .int pl, .int sy, .int va, .int de, .int (nI rl), .ref 22, .ref 23, .ref 24, .ref 31, .ref 36, .ref 44, .ref 49, .ref 50]))) 24 (.inr (6, [.ref 25, .ref 26, .ref 27, .ref 28, .ref 29, .ref 30, .int (nI 0), .int (nI 0)]))) 0 0 (Na 0) (upd (Na 1) 0 0) (Na 2) FS1) 36 (.inr (8, [.ref 37, .ref 38, .ref 39, .ref 24, .ref 31, sv, nv, .int aa, .int bh, .int tk, .int oo, .long nm, .ref 40, .int lt, .ref 41, .int tp, .int p2, .ref 42, .int (nI 0), .int kn, .int rk, .ref 43]))) := by
    unfold g_nw
    repeat' (first | exact g_CS0 | refine g_CSu (by decide) (by decide) ?_)
  refine x_same (h' := (x_up (g_nw (x_up (x_up h 21 (.inr (5, [.int 0, .int 0, .int pl, .int sy, .int va, .int de, .int (nI rl), .ref 22, .ref 23, .ref 24, .ref 31, .ref 36, .ref 44, .ref 49, .ref 50]))) 24 (.inr (6, [.ref 25, .ref 26, .ref 27, .ref 28, .ref 29, .ref 30, .int (nI 0), .int (nI 0)]))) 0 0 (Na 0) (upd (Na 1) 0 0) (Na 2) FS1) 36 (.inr (8, [.ref 37, .ref 38, .ref 39, .ref 24, .ref 31, sv, nv, .int aa, .int bh, .int tk, .int oo, .long nm, .ref 40, .int lt, .ref 41, .int tp, .int p2, .ref 42, .int (nI 0), .int kn, .int rk, .ref 43])))) (x_pt rfl rfl rfl rfl rfl rfl rfl rfl rfl rfl rfl rfl rfl rfl rfl rfl rfl rfl rfl rfl rfl rfl rfl rfl rfl rfl rfl rfl rfl rfl rfl rfl rfl rfl rfl rfl rfl rfl rfl rfl rfl rfl rfl rfl rfl rfl rfl rfl rfl rfl rfl rfl) ?_
  exact w_MO_r46 (h := (x_up (g_nw (x_up (x_up h 21 (.inr (5, [.int 0, .int 0, .int pl, .int sy, .int va, .int de, .int (nI rl), .ref 22, .ref 23, .ref 24, .ref 31, .ref 36, .ref 44, .ref 49, .ref 50]))) 24 (.inr (6, [.ref 25, .ref 26, .ref 27, .ref 28, .ref 29, .ref 30, .int (nI 0), .int (nI 0)]))) 0 0 (Na 0) (upd (Na 1) 0 0) (Na 2) FS1) 36 (.inr (8, [.ref 37, .ref 38, .ref 39, .ref 24, .ref 31, sv, nv, .int aa, .int bh, .int tk, .int oo, .long nm, .ref 40, .int lt, .ref 41, .int tp, .int p2, .ref 42, .int (nI 0), .int kn, .int rk, .ref 43])))) (h0 := h) (Na := g_n4 (Na 0) (upd (Na 1) 0 0) (Na 2) FS1) (B := B) (Nm := Nm) (Wd := Wd) (St := St) (Vr := Vr) (Kp := Kp) (pl := pl) (aa := aa) (bh := bh) (tk := tk) (oo := oo) (lt := lt) (tp := tp) (p2 := p2) (kn := kn) (rk := rk) (nm := nm) (sv := sv) (nv := nv) rfl h22 h23 hcs hTB h44 h45 h46 h47 h48 h49 h50 hu hN hnt (g_NB0 hFS) rfl b0 b1 b2 b3 b4 b5 rfl rfl rfl rfl rfl rfl h40 h41 h42 h43
theorem d_MO_word_0 : decode M_MO_word.2.1 0 = .ok (.aload_n 0, 1) := by decide +kernel
theorem d_MO_word_1 : decode M_MO_word.2.1 1 = .ok (.iconst 0, 1) := by decide +kernel
theorem d_MO_word_2 : decode M_MO_word.2.1 2 = .ok (.putfield 60, 3) := by decide +kernel
theorem d_MO_word_5 : decode M_MO_word.2.1 5 = .ok (.iload_n 1, 1) := by decide +kernel
theorem d_MO_word_6 : decode M_MO_word.2.1 6 = .ok (.ifCond .lt 11, 3) := by decide +kernel
theorem d_MO_word_9 : decode M_MO_word.2.1 9 = .ok (.iload_n 1, 1) := by decide +kernel
theorem d_MO_word_10 : decode M_MO_word.2.1 10 = .ok (.aload_n 0, 1) := by decide +kernel
theorem d_MO_word_11 : decode M_MO_word.2.1 11 = .ok (.getfield 99, 3) := by decide +kernel
theorem d_MO_word_14 : decode M_MO_word.2.1 14 = .ok (.if_icmp .lt 10, 3) := by decide +kernel
theorem d_MO_word_17 : decode M_MO_word.2.1 17 = .ok (.aload_n 0, 1) := by decide +kernel
theorem d_MO_word_18 : decode M_MO_word.2.1 18 = .ok (.iconst 1, 1) := by decide +kernel
theorem d_MO_word_19 : decode M_MO_word.2.1 19 = .ok (.invokevirtual 63, 3) := by decide +kernel
theorem d_MO_word_22 : decode M_MO_word.2.1 22 = .ok (.i2l, 1) := by decide +kernel
theorem d_MO_word_23 : decode M_MO_word.2.1 23 = .ok (.lreturn, 1) := by decide +kernel
theorem d_MO_word_24 : decode M_MO_word.2.1 24 = .ok (.lconst 0, 1) := by decide +kernel
theorem d_MO_word_25 : decode M_MO_word.2.1 25 = .ok (.lstore_n 2, 1) := by decide +kernel
theorem d_MO_word_26 : decode M_MO_word.2.1 26 = .ok (.iload_n 1, 1) := by decide +kernel
theorem d_MO_word_27 : decode M_MO_word.2.1 27 = .ok (.istore 4, 2) := by decide +kernel
theorem d_MO_word_29 : decode M_MO_word.2.1 29 = .ok (.iload 4, 2) := by decide +kernel
theorem d_MO_word_31 : decode M_MO_word.2.1 31 = .ok (.iload_n 1, 1) := by decide +kernel
theorem d_MO_word_32 : decode M_MO_word.2.1 32 = .ok (.bipush 8, 2) := by decide +kernel
theorem d_MO_word_34 : decode M_MO_word.2.1 34 = .ok (.iadd, 1) := by decide +kernel
theorem d_MO_word_35 : decode M_MO_word.2.1 35 = .ok (.if_icmp .ge 40, 3) := by decide +kernel
theorem d_MO_word_38 : decode M_MO_word.2.1 38 = .ok (.lload_n 2, 1) := by decide +kernel
theorem d_MO_word_39 : decode M_MO_word.2.1 39 = .ok (.bipush 8, 2) := by decide +kernel
theorem d_MO_word_41 : decode M_MO_word.2.1 41 = .ok (.lshl, 1) := by decide +kernel
theorem d_MO_word_42 : decode M_MO_word.2.1 42 = .ok (.iload 4, 2) := by decide +kernel
theorem d_MO_word_44 : decode M_MO_word.2.1 44 = .ok (.aload_n 0, 1) := by decide +kernel
theorem d_MO_word_45 : decode M_MO_word.2.1 45 = .ok (.getfield 99, 3) := by decide +kernel
theorem d_MO_word_48 : decode M_MO_word.2.1 48 = .ok (.if_icmp .ge 17, 3) := by decide +kernel
theorem d_MO_word_51 : decode M_MO_word.2.1 51 = .ok (.aload_n 0, 1) := by decide +kernel
theorem d_MO_word_52 : decode M_MO_word.2.1 52 = .ok (.getfield 17, 3) := by decide +kernel
theorem d_MO_word_55 : decode M_MO_word.2.1 55 = .ok (.iload 4, 2) := by decide +kernel
theorem d_MO_word_57 : decode M_MO_word.2.1 57 = .ok (.baload, 1) := by decide +kernel
theorem d_MO_word_58 : decode M_MO_word.2.1 58 = .ok (.sipush 255, 3) := by decide +kernel
theorem d_MO_word_61 : decode M_MO_word.2.1 61 = .ok (.iand, 1) := by decide +kernel
theorem d_MO_word_62 : decode M_MO_word.2.1 62 = .ok (.goto 4, 3) := by decide +kernel
theorem d_MO_word_65 : decode M_MO_word.2.1 65 = .ok (.iconst 0, 1) := by decide +kernel
theorem d_MO_word_66 : decode M_MO_word.2.1 66 = .ok (.i2l, 1) := by decide +kernel
theorem d_MO_word_67 : decode M_MO_word.2.1 67 = .ok (.lor, 1) := by decide +kernel
theorem d_MO_word_68 : decode M_MO_word.2.1 68 = .ok (.lstore_n 2, 1) := by decide +kernel
theorem d_MO_word_69 : decode M_MO_word.2.1 69 = .ok (.iinc 4 1, 3) := by decide +kernel
theorem d_MO_word_72 : decode M_MO_word.2.1 72 = .ok (.goto (-43), 3) := by decide +kernel
theorem d_MO_word_75 : decode M_MO_word.2.1 75 = .ok (.lload_n 2, 1) := by decide +kernel
theorem d_MO_word_76 : decode M_MO_word.2.1 76 = .ok (.lreturn, 1) := by decide +kernel
set_option maxRecDepth 20000 in
theorem w_MO_word_no {E : xR} {h : xH} {x : Int32} {rl : Nat} {v0 v1 v2 v3 v4 v5 : Value} (h21 : h 21 = .inr (5, [v0, v1, v2, v3, v4, v5, .int (nI rl), .ref 22, .ref 23, .ref 24, .ref 31, .ref 36, .ref 44, .ref 49, .ref 50])) (hx : x < 0 ∨ ¬ x < nI rl) : x_Mt E M_MO_word 1 0 0 [.ref 21, .int x] 52 h (x_Y (some (.long 0)) 52 (x_up h 21 (.inr (5, [.int 1, v1, v2, v3, v4, v5, .int (nI rl), .ref 22, .ref 23, .ref 24, .ref 31, .ref 36, .ref 44, .ref 49, .ref 50])))) := by
  refine x_Mt.of (by decide) (Nat.le_of_ble_eq_true rfl) ?_
  show x_W E M_MO_word _ _ 52 h 0 [(0, .ref 21), (1, .int x)] [] 0 0
  refine x_aload_n d_MO_word_0 rfl rfl ?_
  refine x_iconst 0 d_MO_word_1 (by decide) ?_
  refine x_put d_MO_word_2 f_MO_60 (Nat.le_of_ble_eq_true rfl) (Nat.le_of_ble_eq_true rfl) (by first | rfl | assumption) (by rfl) (by rfl) (by exact (Nat.le_of_ble_eq_true rfl)) ?_
  refine x_iload_n d_MO_word_5 rfl rfl ?_
  refine x_if_lt 17 d_MO_word_6 (by decide) (fun c_6 => ?_) (fun c_6 => ?_)
  · refine x_aload_n d_MO_word_17 rfl rfl ?_
    refine x_iconst 1 d_MO_word_18 (by decide) ?_
    refine x_callV1Y d_MO_word_19 k_MO_63 (Nat.le_of_ble_eq_true rfl) (Nat.le_of_ble_eq_true rfl) (by first | rfl | assumption) (by rfl) (w_MO_fail (by first | rfl | assumption)) (Nat.le_of_ble_eq_true rfl) (Nat.le_of_ble_eq_true rfl) (Nat.le_of_ble_eq_true rfl) (Nat.le_of_ble_eq_true rfl) (Nat.le_of_ble_eq_true rfl) rfl ?_
    refine x_i2l d_MO_word_22 ?_
    exact x_lreturn d_MO_word_23 rfl ⟨rfl, rfl, x_pt rfl rfl rfl rfl rfl rfl rfl rfl rfl rfl rfl rfl rfl rfl rfl rfl rfl rfl rfl rfl rfl rfl rfl rfl rfl rfl rfl rfl rfl rfl rfl rfl rfl rfl rfl rfl rfl rfl rfl rfl rfl rfl rfl rfl rfl rfl rfl rfl rfl rfl rfl rfl, rfl, rfl⟩
  · refine x_iload_n d_MO_word_9 rfl rfl ?_
    refine x_aload_n d_MO_word_10 rfl rfl ?_
    refine x_get d_MO_word_11 f_MO_99 (Nat.le_of_ble_eq_true rfl) (Nat.le_of_ble_eq_true rfl) (by first | rfl | assumption) (by rfl) ?_
    refine x_icmp_lt 24 d_MO_word_14 (by decide) (fun z => absurd z (hx.resolve_left c_6)) (fun _ => ?_)
    refine x_aload_n d_MO_word_17 rfl rfl ?_
    refine x_iconst 1 d_MO_word_18 (by decide) ?_
    refine x_callV1Y d_MO_word_19 k_MO_63 (Nat.le_of_ble_eq_true rfl) (Nat.le_of_ble_eq_true rfl) (by first | rfl | assumption) (by rfl) (w_MO_fail (by first | rfl | assumption)) (Nat.le_of_ble_eq_true rfl) (Nat.le_of_ble_eq_true rfl) (Nat.le_of_ble_eq_true rfl) (Nat.le_of_ble_eq_true rfl) (Nat.le_of_ble_eq_true rfl) rfl ?_
    refine x_i2l d_MO_word_22 ?_
    exact x_lreturn d_MO_word_23 rfl ⟨rfl, rfl, x_pt rfl rfl rfl rfl rfl rfl rfl rfl rfl rfl rfl rfl rfl rfl rfl rfl rfl rfl rfl rfl rfl rfl rfl rfl rfl rfl rfl rfl rfl rfl rfl rfl rfl rfl rfl rfl rfl rfl rfl rfl rfl rfl rfl rfl rfl rfl rfl rfl rfl rfl rfl rfl, rfl, rfl⟩
set_option maxRecDepth 20000 in
theorem w_MO_word {E : xR} {h : xH} {f : Nat → Int32} {rl i : Nat} {v0 v1 v2 v3 v4 v5 : Value} (h21 : h 21 = .inr (5, [v0, v1, v2, v3, v4, v5, .int (nI rl), .ref 22, .ref 23, .ref 24, .ref 31, .ref 36, .ref 44, .ref 49, .ref 50])) (h23 : h 23 = .inl (1, 4096, .inl f)) (hi : i < rl) (hr : rl ≤ 4096) : x_Mt E M_MO_word 1 0 0 [.ref 21, .int (nI i)] 52 h (x_Y (some (.long (g_wd f rl i 8))) 52 (x_up h 21 (.inr (5, [.int 0, v1, v2, v3, v4, v5, .int (nI rl), .ref 22, .ref 23, .ref 24, .ref 31, .ref 36, .ref 44, .ref 49, .ref 50])))) := by
  refine x_Mt.of (by decide) (Nat.le_of_ble_eq_true rfl) ?_
  have hloop : ∀ m k, k + m = 8 → x_W E M_MO_word (x_room 1 0 0) (x_Y (some (.long (g_wd f rl i 8))) 52 (x_up h 21 (.inr (5, [.int 0, v1, v2, v3, v4, v5, .int (nI rl), .ref 22, .ref 23, .ref 24, .ref 31, .ref 36, .ref 44, .ref 49, .ref 50])))) 52 (x_up h 21 (.inr (5, [.int 0, v1, v2, v3, v4, v5, .int (nI rl), .ref 22, .ref 23, .ref 24, .ref 31, .ref 36, .ref 44, .ref 49, .ref 50]))) 29 [(0, .ref 21), (1, .int (nI i)), (2, .long (g_wd f rl i k)), (4, .int (nI (i + k)))] [] 0 0 := by
    intro m
    induction m with
    | zero =>
      intro k hk
      obtain rfl : k = 8 := by omega
      refine x_iload d_MO_word_29 rfl ?_
      refine x_iload_n d_MO_word_31 rfl rfl ?_
      refine x_bipush 8 d_MO_word_32 (by decide) ?_
      refine x_iadd d_MO_word_34 ?_
      refine x_topi (nI (i + 8)) (nI_add i 8) ?_
      refine x_icmp_ge 75 d_MO_word_35 (by decide) (fun _ => ?_) (fun z => absurd (nI_le (Nat.le_refl _) (by omega)) z)
      refine x_lload_n d_MO_word_75 rfl rfl ?_
      exact x_lreturn d_MO_word_76 rfl ⟨rfl, rfl, fun _ _ => rfl, rfl, rfl⟩
    | succ m ih =>
      intro k hk
      have hj : x_W E M_MO_word (x_room 1 0 0) (x_Y (some (.long (g_wd f rl i 8))) 52 (x_up h 21 (.inr (5, [.int 0, v1, v2, v3, v4, v5, .int (nI rl), .ref 22, .ref 23, .ref 24, .ref 31, .ref 36, .ref 44, .ref 49, .ref 50])))) 52 (x_up h 21 (.inr (5, [.int 0, v1, v2, v3, v4, v5, .int (nI rl), .ref 22, .ref 23, .ref 24, .ref 31, .ref 36, .ref 44, .ref 49, .ref 50]))) 66 [(0, .ref 21), (1, .int (nI i)), (2, .long (g_wd f rl i k)), (4, .int (nI (i + k)))] [.int (g_wb f rl (i + k)), .long (g_wd f rl i k <<< ((8 : Int32).toInt64 &&& 63))] 0 0 := by
        refine x_i2l d_MO_word_66 ?_
        refine x_lor d_MO_word_67 ?_
        refine x_lstore_n d_MO_word_68 rfl (Nat.le_of_ble_eq_true rfl) ?_
        refine x_iinc d_MO_word_69 rfl 1 (by decide) (Nat.le_of_ble_eq_true rfl) ?_
        refine x_goto 29 d_MO_word_72 (by decide) ?_
        refine x_lv [(0, .ref 21), (1, .int (nI i)), (2, .long (g_wd f rl i (k + 1))), (4, .int (nI (i + (k + 1))))] (by rw [← Nat.add_assoc, nI_succ (i + k)]; rfl) ?_
        exact ih (k + 1) (by omega)
      refine x_iload d_MO_word_29 rfl ?_
      refine x_iload_n d_MO_word_31 rfl rfl ?_
      refine x_bipush 8 d_MO_word_32 (by decide) ?_
      refine x_iadd d_MO_word_34 ?_
      refine x_topi (nI (i + 8)) (nI_add i 8) ?_
      refine x_icmp_ge 75 d_MO_word_35 (by decide) (fun z => absurd z (nI_ge (by omega) (by omega))) (fun _ => ?_)
      refine x_lload_n d_MO_word_38 rfl rfl ?_
      refine x_bipush 8 d_MO_word_39 (by decide) ?_
      refine x_lshl d_MO_word_41 ?_
      refine x_iload d_MO_word_42 rfl ?_
      refine x_aload_n d_MO_word_44 rfl rfl ?_
      refine x_get d_MO_word_45 f_MO_99 (Nat.le_of_ble_eq_true rfl) (Nat.le_of_ble_eq_true rfl) (by first | rfl | assumption) (by rfl) ?_
      refine x_icmp_ge 65 d_MO_word_48 (by decide) (fun c_48 => ?_) (fun c_48 => ?_)
      · refine x_iconst 0 d_MO_word_65 (by decide) ?_
        refine x_topi _ (g_wb_out (f := f) c_48 (by omega) (by omega)) ?_
        exact hj
      · refine x_aload_n d_MO_word_51 rfl rfl ?_
        refine x_get d_MO_word_52 f_MO_17 (Nat.le_of_ble_eq_true rfl) (Nat.le_of_ble_eq_true rfl) (by first | rfl | assumption) (by rfl) ?_
        refine x_iload d_MO_word_55 rfl ?_
        refine x_bald d_MO_word_57 (Nat.le_of_ble_eq_true rfl) (Nat.le_of_ble_eq_true rfl) (by first | rfl | assumption) (vp_in_nI (Nat.lt_of_lt_of_le (Nat.not_le.mp fun q => c_48 (nI_le q (by omega))) hr) (by decide)) ?_
        refine x_sipush 255 d_MO_word_58 (by decide) ?_
        refine x_iand d_MO_word_61 ?_
        refine x_goto 66 d_MO_word_62 (by decide) ?_
        refine x_topi _ (g_wb_in c_48 (by omega)) ?_
        exact hj
  show x_W E M_MO_word _ _ 52 h 0 [(0, .ref 21), (1, .int (nI i))] [] 0 0
  refine x_aload_n d_MO_word_0 rfl rfl ?_
  refine x_iconst 0 d_MO_word_1 (by decide) ?_
  refine x_put d_MO_word_2 f_MO_60 (Nat.le_of_ble_eq_true rfl) (Nat.le_of_ble_eq_true rfl) (by first | rfl | assumption) (by rfl) (by rfl) (by exact (Nat.le_of_ble_eq_true rfl)) ?_
  refine x_iload_n d_MO_word_5 rfl rfl ?_
  refine x_if_lt 17 d_MO_word_6 (by decide) (fun z => absurd z (nI_pos (by omega))) (fun _ => ?_)
  refine x_iload_n d_MO_word_9 rfl rfl ?_
  refine x_aload_n d_MO_word_10 rfl rfl ?_
  refine x_get d_MO_word_11 f_MO_99 (Nat.le_of_ble_eq_true rfl) (Nat.le_of_ble_eq_true rfl) (by first | rfl | assumption) (by rfl) ?_
  refine x_icmp_lt 24 d_MO_word_14 (by decide) (fun _ => ?_) (fun z => absurd (show nI i < nI rl from Int32.not_le.mp (nI_ge hi (by omega))) z)
  refine x_lconst 0 d_MO_word_24 (by decide) ?_
  refine x_lstore_n d_MO_word_25 rfl (Nat.le_of_ble_eq_true rfl) ?_
  refine x_iload_n d_MO_word_26 rfl rfl ?_
  refine x_istore d_MO_word_27 (Nat.le_of_ble_eq_true rfl) ?_
  refine x_same (h' := (x_up h 21 (.inr (5, [.int 0, v1, v2, v3, v4, v5, .int (nI rl), .ref 22, .ref 23, .ref 24, .ref 31, .ref 36, .ref 44, .ref 49, .ref 50])))) (x_pt rfl rfl rfl rfl rfl rfl rfl rfl rfl rfl rfl rfl rfl rfl rfl rfl rfl rfl rfl rfl rfl rfl rfl rfl rfl rfl rfl rfl rfl rfl rfl rfl rfl rfl rfl rfl rfl rfl rfl rfl rfl rfl rfl rfl rfl rfl rfl rfl rfl rfl rfl rfl) ?_
  exact hloop 8 0 rfl
