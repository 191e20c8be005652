theorem x_callV0X {E : xR} {M : xM} {R : Room} {Q : xK} {n : Nat} {h : xH} {pc : Nat} {lv : List (Nat × Value)} {rest : List Value} {cells slots : Nat} {idx : Nat} {M' : xM} {d0 kc ks : Nat} {i ci N q : Nat} {fs : List Value} {T : u_T} {h1 : xH} (d : decode M.2.1 pc = .ok (.invokevirtual idx, 3)) (hk : x_CV M.1.cls idx M' 0) (hi : i < n) (hlo1 : i < 1000000) (hc : h i = .inr (ci, fs)) (hcc : x_Cl[ci]? = some (M'.1.cls, T, N)) (hM : x_Mt E M' d0 kc ks [.ref i] n h (x_X q n h1)) (hfr : d0 + 1 ≤ R.frames) (hlo : 8 + (M'.2.2.1 + 11) + 64 * d0 ≤ R.locals) (hcl : cells + kc ≤ R.cells) (hsl : slots + ks ≤ R.slots) (hrs : (rest.map fun v => v.category).sum ≤ 8) (ho : M.2.2.2.2.all (fun t => !(decide (t.1 ≤ pc) && decide (pc < t.2.1))) = true) (kt : ∀ h', (∀ i, i < n → h' i = h1 i) → Q (.inr q) n h' (cells + 1) (slots + 6)) : x_W E M R Q n h pc lv (.ref i :: rest) cells slots :=
  x_callV0 d hk hi hlo1 hc hcc hM hfr hlo hcl hsl hrs ho (fun _ v n' h' k j hq => by cases hq.1) (fun v n' h' k j hq => by cases hq.1) (fun q' n' h' k j hq => by
    obtain ⟨e1, e2, e3, e4, e5⟩ := hq
    cases e1
    subst e2 e4 e5
    exact kt h' e3)
theorem x_callV1X {E : xR} {M : xM} {R : Room} {Q : xK} {n : Nat} {h : xH} {pc : Nat} {lv : List (Nat × Value)} {rest : List Value} {cells slots : Nat} {idx : Nat} {M' : xM} {d0 kc ks : Nat} {i ci N q : Nat} {fs : List Value} {T : u_T} {a1 : Value} {h1 : xH} (d : decode M.2.1 pc = .ok (.invokevirtual idx, 3)) (hk : x_CV M.1.cls idx M' 1) (hi : i < n) (hlo1 : i < 1000000) (hc : h i = .inr (ci, fs)) (hcc : x_Cl[ci]? = some (M'.1.cls, T, N)) (hM : x_Mt E M' d0 kc ks [.ref i, a1] n h (x_X q n h1)) (hfr : d0 + 1 ≤ R.frames) (hlo : 8 + (M'.2.2.1 + 11) + 64 * d0 ≤ R.locals) (hcl : cells + kc ≤ R.cells) (hsl : slots + ks ≤ R.slots) (hrs : (rest.map fun v => v.category).sum ≤ 8) (ho : M.2.2.2.2.all (fun t => !(decide (t.1 ≤ pc) && decide (pc < t.2.1))) = true) (kt : ∀ h', (∀ i, i < n → h' i = h1 i) → Q (.inr q) n h' (cells + 1) (slots + 6)) : x_W E M R Q n h pc lv (a1 :: .ref i :: rest) cells slots :=
  x_callV1 d hk hi hlo1 hc hcc hM hfr hlo hcl hsl hrs ho (fun _ v n' h' k j hq => by cases hq.1) (fun v n' h' k j hq => by cases hq.1) (fun q' n' h' k j hq => by
    obtain ⟨e1, e2, e3, e4, e5⟩ := hq
    cases e1
    subst e2 e4 e5
    exact kt h' e3)
theorem x_callV2X {E : xR} {M : xM} {R : Room} {Q : xK} {n : Nat} {h : xH} {pc : Nat} {lv : List (Nat × Value)} {rest : List Value} {cells slots : Nat} {idx : Nat} {M' : xM} {d0 kc ks : Nat} {i ci N q : Nat} {fs : List Value} {T : u_T} {a1 a2 : Value} {h1 : xH} (d : decode M.2.1 pc = .ok (.invokevirtual idx, 3)) (hk : x_CV M.1.cls idx M' 2) (hi : i < n) (hlo1 : i < 1000000) (hc : h i = .inr (ci, fs)) (hcc : x_Cl[ci]? = some (M'.1.cls, T, N)) (hM : x_Mt E M' d0 kc ks [.ref i, a1, a2] n h (x_X q n h1)) (hfr : d0 + 1 ≤ R.frames) (hlo : 8 + (M'.2.2.1 + 11) + 64 * d0 ≤ R.locals) (hcl : cells + kc ≤ R.cells) (hsl : slots + ks ≤ R.slots) (hrs : (rest.map fun v => v.category).sum ≤ 8) (ho : M.2.2.2.2.all (fun t => !(decide (t.1 ≤ pc) && decide (pc < t.2.1))) = true) (kt : ∀ h', (∀ i, i < n → h' i = h1 i) → Q (.inr q) n h' (cells + 1) (slots + 6)) : x_W E M R Q n h pc lv (a2 :: a1 :: .ref i :: rest) cells slots :=
  x_callV2 d hk hi hlo1 hc hcc hM hfr hlo hcl hsl hrs ho (fun _ v n' h' k j hq => by cases hq.1) (fun v n' h' k j hq => by cases hq.1) (fun q' n' h' k j hq => by
    obtain ⟨e1, e2, e3, e4, e5⟩ := hq
    cases e1
    subst e2 e4 e5
    exact kt h' e3)
theorem x_callV3X {E : xR} {M : xM} {R : Room} {Q : xK} {n : Nat} {h : xH} {pc : Nat} {lv : List (Nat × Value)} {rest : List Value} {cells slots : Nat} {idx : Nat} {M' : xM} {d0 kc ks : Nat} {i ci N q : Nat} {fs : List Value} {T : u_T} {a1 a2 a3 : Value} {h1 : xH} (d : decode M.2.1 pc = .ok (.invokevirtual idx, 3)) (hk : x_CV M.1.cls idx M' 3) (hi : i < n) (hlo1 : i < 1000000) (hc : h i = .inr (ci, fs)) (hcc : x_Cl[ci]? = some (M'.1.cls, T, N)) (hM : x_Mt E M' d0 kc ks [.ref i, a1, a2, a3] n h (x_X q n h1)) (hfr : d0 + 1 ≤ R.frames) (hlo : 8 + (M'.2.2.1 + 11) + 64 * d0 ≤ R.locals) (hcl : cells + kc ≤ R.cells) (hsl : slots + ks ≤ R.slots) (hrs : (rest.map fun v => v.category).sum ≤ 8) (ho : M.2.2.2.2.all (fun t => !(decide (t.1 ≤ pc) && decide (pc < t.2.1))) = true) (kt : ∀ h', (∀ i, i < n → h' i = h1 i) → Q (.inr q) n h' (cells + 1) (slots + 6)) : x_W E M R Q n h pc lv (a3 :: a2 :: a1 :: .ref i :: rest) cells slots :=
  x_callV3 d hk hi hlo1 hc hcc hM hfr hlo hcl hsl hrs ho (fun _ v n' h' k j hq => by cases hq.1) (fun v n' h' k j hq => by cases hq.1) (fun q' n' h' k j hq => by
    obtain ⟨e1, e2, e3, e4, e5⟩ := hq
    cases e1
    subst e2 e4 e5
    exact kt h' e3)
theorem x_callV4X {E : xR} {M : xM} {R : Room} {Q : xK} {n : Nat} {h : xH} {pc : Nat} {lv : List (Nat × Value)} {rest : List Value} {cells slots : Nat} {idx : Nat} {M' : xM} {d0 kc ks : Nat} {i ci N q : Nat} {fs : List Value} {T : u_T} {a1 a2 a3 a4 : Value} {h1 : xH} (d : decode M.2.1 pc = .ok (.invokevirtual idx, 3)) (hk : x_CV M.1.cls idx M' 4) (hi : i < n) (hlo1 : i < 1000000) (hc : h i = .inr (ci, fs)) (hcc : x_Cl[ci]? = some (M'.1.cls, T, N)) (hM : x_Mt E M' d0 kc ks [.ref i, a1, a2, a3, a4] n h (x_X q n h1)) (hfr : d0 + 1 ≤ R.frames) (hlo : 8 + (M'.2.2.1 + 11) + 64 * d0 ≤ R.locals) (hcl : cells + kc ≤ R.cells) (hsl : slots + ks ≤ R.slots) (hrs : (rest.map fun v => v.category).sum ≤ 8) (ho : M.2.2.2.2.all (fun t => !(decide (t.1 ≤ pc) && decide (pc < t.2.1))) = true) (kt : ∀ h', (∀ i, i < n → h' i = h1 i) → Q (.inr q) n h' (cells + 1) (slots + 6)) : x_W E M R Q n h pc lv (a4 :: a3 :: a2 :: a1 :: .ref i :: rest) cells slots :=
  x_callV4 d hk hi hlo1 hc hcc hM hfr hlo hcl hsl hrs ho (fun _ v n' h' k j hq => by cases hq.1) (fun v n' h' k j hq => by cases hq.1) (fun q' n' h' k j hq => by
    obtain ⟨e1, e2, e3, e4, e5⟩ := hq
    cases e1
    subst e2 e4 e5
    exact kt h' e3)
theorem x_callV5X {E : xR} {M : xM} {R : Room} {Q : xK} {n : Nat} {h : xH} {pc : Nat} {lv : List (Nat × Value)} {rest : List Value} {cells slots : Nat} {idx : Nat} {M' : xM} {d0 kc ks : Nat} {i ci N q : Nat} {fs : List Value} {T : u_T} {a1 a2 a3 a4 a5 : Value} {h1 : xH} (d : decode M.2.1 pc = .ok (.invokevirtual idx, 3)) (hk : x_CV M.1.cls idx M' 5) (hi : i < n) (hlo1 : i < 1000000) (hc : h i = .inr (ci, fs)) (hcc : x_Cl[ci]? = some (M'.1.cls, T, N)) (hM : x_Mt E M' d0 kc ks [.ref i, a1, a2, a3, a4, a5] n h (x_X q n h1)) (hfr : d0 + 1 ≤ R.frames) (hlo : 8 + (M'.2.2.1 + 11) + 64 * d0 ≤ R.locals) (hcl : cells + kc ≤ R.cells) (hsl : slots + ks ≤ R.slots) (hrs : (rest.map fun v => v.category).sum ≤ 8) (ho : M.2.2.2.2.all (fun t => !(decide (t.1 ≤ pc) && decide (pc < t.2.1))) = true) (kt : ∀ h', (∀ i, i < n → h' i = h1 i) → Q (.inr q) n h' (cells + 1) (slots + 6)) : x_W E M R Q n h pc lv (a5 :: a4 :: a3 :: a2 :: a1 :: .ref i :: rest) cells slots :=
  x_callV5 d hk hi hlo1 hc hcc hM hfr hlo hcl hsl hrs ho (fun _ v n' h' k j hq => by cases hq.1) (fun v n' h' k j hq => by cases hq.1) (fun q' n' h' k j hq => by
    obtain ⟨e1, e2, e3, e4, e5⟩ := hq
    cases e1
    subst e2 e4 e5
    exact kt h' e3)
/-- comes back where b holds, throws q where not -/
def x_YX (b : Bool) (v : Option Value) (h1 : xH) (q : Nat) (h2 : xH) : xK := bif b then x_Y v 52 h1 else x_X q 52 h2
theorem x_YX1 {b : Bool} {v : Option Value} {h1 h2 h' : xH} {q : Nat} (hb : b = true) (e : ∀ i, i < 52 → h' i = h1 i) : x_YX b v h1 q h2 (.inl v) 52 h' 0 0 := by rw [hb]; exact ⟨rfl, rfl, e, rfl, rfl⟩
theorem x_YX0 {b : Bool} {v : Option Value} {h1 h2 h' : xH} {q : Nat} (hb : b = false) (e : ∀ i, i < 52 → h' i = h2 i) : x_YX b v h1 q h2 (.inr q) 52 h' 1 6 := by rw [hb]; exact ⟨rfl, rfl, e, rfl, rfl⟩
theorem d_SG_breakHere_0 : decode M_SG_breakHere.2.1 0 = .ok (.aload_n 0, 1) := by decide +kernel
theorem d_SG_breakHere_1 : decode M_SG_breakHere.2.1 1 = .ok (.aload_n 0, 1) := by decide +kernel
theorem d_SG_breakHere_2 : decode M_SG_breakHere.2.1 2 = .ok (.getfield 46, 3) := by decide +kernel
theorem d_SG_breakHere_5 : decode M_SG_breakHere.2.1 5 = .ok (.putfield 24, 3) := by decide +kernel
theorem d_SG_breakHere_8 : decode M_SG_breakHere.2.1 8 = .ok (.new 96, 3) := by decide +kernel
theorem d_SG_breakHere_11 : decode M_SG_breakHere.2.1 11 = .ok (.dup, 1) := by decide +kernel
theorem d_SG_breakHere_12 : decode M_SG_breakHere.2.1 12 = .ok (.ldc 98, 2) := by decide +kernel
theorem d_SG_breakHere_14 : decode M_SG_breakHere.2.1 14 = .ok (.invokespecial 100, 3) := by decide +kernel
theorem d_SG_breakHere_17 : decode M_SG_breakHere.2.1 17 = .ok (.athrow, 1) := by decide +kernel
set_option maxRecDepth 20000 in
theorem w_SG_breakHere {E : xR} {h : xH} {pl : Int32} {w0 w1 w2 w3 w5 w6 w7 : Value} (h3 : h 3 = .inr (2, [w0, w1, w2, w3, .int pl, w5, w6, w7])) : x_Mt E M_SG_breakHere 6 1 6 [.ref 3] 52 h (x_X 2 52 (x_up h 3 (.inr (2, [w0, w1, w2, w3, .int pl, w5, w6, .int pl])))) := by
  refine x_Mt.of (by decide) (Nat.le_of_ble_eq_true rfl) ?_
  show x_W E M_SG_breakHere _ _ 52 h 0 [(0, .ref 3)] [] 0 0
  refine x_aload_n d_SG_breakHere_0 rfl rfl ?_
  refine x_aload_n d_SG_breakHere_1 rfl rfl ?_
  refine x_get d_SG_breakHere_2 f_SG_46 (Nat.le_of_ble_eq_true rfl) (Nat.le_of_ble_eq_true rfl) (by first | rfl | assumption) (by rfl) ?_
  refine x_put d_SG_breakHere_5 f_SG_24 (Nat.le_of_ble_eq_true rfl) (Nat.le_of_ble_eq_true rfl) (by first | rfl | assumption) (by rfl) (by rfl) (by exact (Nat.le_of_ble_eq_true rfl)) ?_
  exact x_throwB 2 rfl d_SG_breakHere_8 d_SG_breakHere_11 d_SG_breakHere_12 d_SG_breakHere_14 d_SG_breakHere_17 t_SG_96_98 (Nat.le_of_ble_eq_true rfl) (Nat.le_of_ble_eq_true rfl) (Nat.le_of_ble_eq_true rfl) (Nat.le_of_ble_eq_true rfl) (Nat.le_of_ble_eq_true rfl) rfl ⟨rfl, rfl, fun _ _ => rfl, rfl, rfl⟩
theorem d_SG_breakAt_0 : decode M_SG_breakAt.2.1 0 = .ok (.aload_n 0, 1) := by decide +kernel
theorem d_SG_breakAt_1 : decode M_SG_breakAt.2.1 1 = .ok (.iload_n 1, 1) := by decide +kernel
theorem d_SG_breakAt_2 : decode M_SG_breakAt.2.1 2 = .ok (.putfield 24, 3) := by decide +kernel
theorem d_SG_breakAt_5 : decode M_SG_breakAt.2.1 5 = .ok (.new 96, 3) := by decide +kernel
theorem d_SG_breakAt_8 : decode M_SG_breakAt.2.1 8 = .ok (.dup, 1) := by decide +kernel
theorem d_SG_breakAt_9 : decode M_SG_breakAt.2.1 9 = .ok (.ldc 103, 2) := by decide +kernel
theorem d_SG_breakAt_11 : decode M_SG_breakAt.2.1 11 = .ok (.invokespecial 100, 3) := by decide +kernel
theorem d_SG_breakAt_14 : decode M_SG_breakAt.2.1 14 = .ok (.athrow, 1) := by decide +kernel
set_option maxRecDepth 20000 in
theorem w_SG_breakAt {E : xR} {h : xH} {pl : Int32} {w0 w1 w2 w3 w4 w5 w6 w7 : Value} (h3 : h 3 = .inr (2, [w0, w1, w2, w3, w4, w5, w6, w7])) : x_Mt E M_SG_breakAt 6 1 6 [.ref 3, .int pl] 52 h (x_X 2 52 (x_up h 3 (.inr (2, [w0, w1, w2, w3, w4, w5, w6, .int pl])))) := by
  refine x_Mt.of (by decide) (Nat.le_of_ble_eq_true rfl) ?_
  show x_W E M_SG_breakAt _ _ 52 h 0 [(0, .ref 3), (1, .int pl)] [] 0 0
  refine x_aload_n d_SG_breakAt_0 rfl rfl ?_
  refine x_iload_n d_SG_breakAt_1 rfl rfl ?_
  refine x_put d_SG_breakAt_2 f_SG_24 (Nat.le_of_ble_eq_true rfl) (Nat.le_of_ble_eq_true rfl) (by first | rfl | assumption) (by rfl) (by rfl) (by exact (Nat.le_of_ble_eq_true rfl)) ?_
  exact x_throwB 2 rfl d_SG_breakAt_5 d_SG_breakAt_8 d_SG_breakAt_9 d_SG_breakAt_11 d_SG_breakAt_14 t_SG_96_103 (Nat.le_of_ble_eq_true rfl) (Nat.le_of_ble_eq_true rfl) (Nat.le_of_ble_eq_true rfl) (Nat.le_of_ble_eq_true rfl) (Nat.le_of_ble_eq_true rfl) rfl ⟨rfl, rfl, fun _ _ => rfl, rfl, rfl⟩
theorem d_SG_takeWord_0 : decode M_SG_takeWord.2.1 0 = .ok (.aload_n 0, 1) := by decide +kernel
theorem d_SG_takeWord_1 : decode M_SG_takeWord.2.1 1 = .ok (.getfield 46, 3) := by decide +kernel
theorem d_SG_takeWord_4 : decode M_SG_takeWord.2.1 4 = .ok (.istore_n 2, 1) := by decide +kernel
theorem d_SG_takeWord_5 : decode M_SG_takeWord.2.1 5 = .ok (.iload_n 2, 1) := by decide +kernel
theorem d_SG_takeWord_6 : decode M_SG_takeWord.2.1 6 = .ok (.aload_n 0, 1) := by decide +kernel
theorem d_SG_takeWord_7 : decode M_SG_takeWord.2.1 7 = .ok (.getfield 34, 3) := by decide +kernel
theorem d_SG_takeWord_10 : decode M_SG_takeWord.2.1 10 = .ok (.if_icmp .ge 20, 3) := by decide +kernel
theorem d_SG_takeWord_13 : decode M_SG_takeWord.2.1 13 = .ok (.aload_n 0, 1) := by decide +kernel
theorem d_SG_takeWord_14 : decode M_SG_takeWord.2.1 14 = .ok (.iload_n 2, 1) := by decide +kernel
theorem d_SG_takeWord_15 : decode M_SG_takeWord.2.1 15 = .ok (.invokevirtual 49, 3) := by decide +kernel
theorem d_SG_takeWord_18 : decode M_SG_takeWord.2.1 18 = .ok (.invokestatic 77, 3) := by decide +kernel
theorem d_SG_takeWord_21 : decode M_SG_takeWord.2.1 21 = .ok (.ifCond .eq 9, 3) := by decide +kernel
theorem d_SG_takeWord_24 : decode M_SG_takeWord.2.1 24 = .ok (.iinc 2 1, 3) := by decide +kernel
theorem d_SG_takeWord_27 : decode M_SG_takeWord.2.1 27 = .ok (.goto (-22), 3) := by decide +kernel
theorem d_SG_takeWord_30 : decode M_SG_takeWord.2.1 30 = .ok (.aload_n 0, 1) := by decide +kernel
theorem d_SG_takeWord_31 : decode M_SG_takeWord.2.1 31 = .ok (.aload_n 1, 1) := by decide +kernel
theorem d_SG_takeWord_32 : decode M_SG_takeWord.2.1 32 = .ok (.aload_n 0, 1) := by decide +kernel
theorem d_SG_takeWord_33 : decode M_SG_takeWord.2.1 33 = .ok (.getfield 46, 3) := by decide +kernel
theorem d_SG_takeWord_36 : decode M_SG_takeWord.2.1 36 = .ok (.iload_n 2, 1) := by decide +kernel
theorem d_SG_takeWord_37 : decode M_SG_takeWord.2.1 37 = .ok (.iload_n 2, 1) := by decide +kernel
theorem d_SG_takeWord_38 : decode M_SG_takeWord.2.1 38 = .ok (.invokevirtual 53, 3) := by decide +kernel
theorem d_SG_takeWord_41 : decode M_SG_takeWord.2.1 41 = .ok (.return_, 1) := by decide +kernel
set_option maxRecDepth 20000 in
theorem w_SG_takeWord {E : xR} {h : xH} {u : Nat → Nat} {N : Nat} {p k e : Nat} {w2 w3 w5 w6 w7 : Value} (h3 : h 3 = .inr (2, [.ref 1, .int (nI N), w2, w3, .int (nI p), w5, w6, w7])) (h1 : h 1 = .inl (1, 4096, .inl (fun i => g_sb (u i)))) (hu : ∀ i, u i < 256) (hN : N ≤ 4096) (hp : p ≤ N) (he : g_run g_word (g_at u N) (N - p) p = e) : x_Mt E M_SG_takeWord 1 0 0 [.ref 3, .ref (1000000 + k)] 52 h (x_Y none 52 (x_up h 3 (.inr (2, [.ref 1, .int (nI N), .int (nI e), .ref (1000000 + k), .int (nI p), .int (nI p), .int (nI e), w7])))) := by
  refine x_Mt.of (by decide) (Nat.le_of_ble_eq_true rfl) ?_
  have hend : x_W E M_SG_takeWord (x_room 1 0 0) (x_Y none 52 (x_up h 3 (.inr (2, [.ref 1, .int (nI N), .int (nI e), .ref (1000000 + k), .int (nI p), .int (nI p), .int (nI e), w7])))) 52 h 30 [(0, .ref 3), (1, .ref (1000000 + k)), (2, .int (nI e))] [] 0 0 := by
    refine x_aload_n d_SG_takeWord_30 rfl rfl ?_
    refine x_aload_n d_SG_takeWord_31 rfl rfl ?_
    refine x_aload_n d_SG_takeWord_32 rfl rfl ?_
    refine x_get d_SG_takeWord_33 f_SG_46 (Nat.le_of_ble_eq_true rfl) (Nat.le_of_ble_eq_true rfl) (by first | rfl | assumption) (by rfl) ?_
    refine x_iload_n d_SG_takeWord_36 rfl rfl ?_
    refine x_iload_n d_SG_takeWord_37 rfl rfl ?_
    refine x_callV4Y d_SG_takeWord_38 k_SG_53 (Nat.le_of_ble_eq_true rfl) (Nat.le_of_ble_eq_true rfl) (by first | rfl | assumption) (by rfl) (w_SG_take h3) (Nat.le_of_ble_eq_true rfl) (Nat.le_of_ble_eq_true rfl) (Nat.le_of_ble_eq_true rfl) (Nat.le_of_ble_eq_true rfl) (Nat.le_of_ble_eq_true rfl) rfl ?_
    exact x_return d_SG_takeWord_41 rfl ⟨rfl, rfl, fun _ _ => rfl, rfl, rfl⟩
  have hloop : ∀ m i, i + m = N → g_run g_word (g_at u N) m i = e → x_W E M_SG_takeWord (x_room 1 0 0) (x_Y none 52 (x_up h 3 (.inr (2, [.ref 1, .int (nI N), .int (nI e), .ref (1000000 + k), .int (nI p), .int (nI p), .int (nI e), w7])))) 52 h 5 [(0, .ref 3), (1, .ref (1000000 + k)), (2, .int (nI i))] [] 0 0 := by
    intro m
    induction m with
    | zero =>
      intro i hi he
      obtain rfl : i = N := by omega
      obtain rfl : i = e := he
      refine x_iload_n d_SG_takeWord_5 rfl rfl ?_
      refine x_aload_n d_SG_takeWord_6 rfl rfl ?_
      refine x_get d_SG_takeWord_7 f_SG_34 (Nat.le_of_ble_eq_true rfl) (Nat.le_of_ble_eq_true rfl) (by first | rfl | assumption) (by rfl) ?_
      refine x_icmp_ge 30 d_SG_takeWord_10 (by decide) (fun _ => ?_) (fun z => absurd (nI_le (Nat.le_refl _) (by omega)) z)
      exact hend
    | succ m ih =>
      intro i hi he
      refine x_iload_n d_SG_takeWord_5 rfl rfl ?_
      refine x_aload_n d_SG_takeWord_6 rfl rfl ?_
      refine x_get d_SG_takeWord_7 f_SG_34 (Nat.le_of_ble_eq_true rfl) (Nat.le_of_ble_eq_true rfl) (by first | rfl | assumption) (by rfl) ?_
      refine x_icmp_ge 30 d_SG_takeWord_10 (by decide) (fun z => absurd z (nI_ge (by omega) (by omega))) (fun _ => ?_)
      refine x_aload_n d_SG_takeWord_13 rfl rfl ?_
      refine x_iload_n d_SG_takeWord_14 rfl rfl ?_
      refine x_callV1Y d_SG_takeWord_15 k_SG_49 (Nat.le_of_ble_eq_true rfl) (Nat.le_of_ble_eq_true rfl) (by first | rfl | assumption) (by rfl) (w_SG_at (by first | rfl | assumption) (by first | rfl | assumption) hu hN (by omega)) (Nat.le_of_ble_eq_true rfl) (Nat.le_of_ble_eq_true rfl) (Nat.le_of_ble_eq_true rfl) (Nat.le_of_ble_eq_true rfl) (Nat.le_of_ble_eq_true rfl) rfl ?_
      refine x_callS1Y d_SG_takeWord_18 k_SG_77 w_SG_isWordCharacter (Nat.le_of_ble_eq_true rfl) (Nat.le_of_ble_eq_true rfl) (Nat.le_of_ble_eq_true rfl) (Nat.le_of_ble_eq_true rfl) (Nat.le_of_ble_eq_true rfl) rfl ?_
      refine x_if_eq 30 d_SG_takeWord_21 (by decide) (fun c_21 => ?_) (fun c_21 => ?_)
      · obtain rfl : i = e := (g_run_no c_21).symm.trans he
        exact hend
      · refine x_iinc d_SG_takeWord_24 rfl 1 (by decide) (Nat.le_of_ble_eq_true rfl) ?_
        refine x_goto 5 d_SG_takeWord_27 (by decide) ?_
        refine x_lv [(0, .ref 3), (1, .ref (1000000 + k)), (2, .int (nI (i + 1)))] (by rw [nI_succ i]; rfl) ?_
        exact ih (i + 1) (by omega) ((g_run_yes c_21).symm.trans he)
  show x_W E M_SG_takeWord _ _ 52 h 0 [(0, .ref 3), (1, .ref (1000000 + k))] [] 0 0
  refine x_aload_n d_SG_takeWord_0 rfl rfl ?_
  refine x_get d_SG_takeWord_1 f_SG_46 (Nat.le_of_ble_eq_true rfl) (Nat.le_of_ble_eq_true rfl) (by first | rfl | assumption) (by rfl) ?_
  refine x_istore_n d_SG_takeWord_4 rfl (Nat.le_of_ble_eq_true rfl) ?_
  exact hloop (N - p) p (by omega) he
def g_endb (a : Nat → Int32) (p e : Nat) : Bool := (decide (a p = 46) && decide (nI e = nI p + 1)) && (decide (a e < 0) || (decide (a e = 37) || g_blank (a e)))
theorem g_b2n {b : Bool} (h : ¬ g_b2 b = 0) : b = true := by cases b with
  | true => rfl
  | false => exact absurd rfl h
theorem g_b2z {b : Bool} (h : g_b2 b = 0) : b = false := by cases b with
  | false => rfl
  | true => exact absurd h (by decide)
theorem d_SG_takeSymbols_0 : decode M_SG_takeSymbols.2.1 0 = .ok (.aload_n 0, 1) := by decide +kernel
theorem d_SG_takeSymbols_1 : decode M_SG_takeSymbols.2.1 1 = .ok (.getfield 46, 3) := by decide +kernel
theorem d_SG_takeSymbols_4 : decode M_SG_takeSymbols.2.1 4 = .ok (.istore_n 1, 1) := by decide +kernel
theorem d_SG_takeSymbols_5 : decode M_SG_takeSymbols.2.1 5 = .ok (.iload_n 1, 1) := by decide +kernel
theorem d_SG_takeSymbols_6 : decode M_SG_takeSymbols.2.1 6 = .ok (.aload_n 0, 1) := by decide +kernel
theorem d_SG_takeSymbols_7 : decode M_SG_takeSymbols.2.1 7 = .ok (.getfield 34, 3) := by decide +kernel
theorem d_SG_takeSymbols_10 : decode M_SG_takeSymbols.2.1 10 = .ok (.if_icmp .ge 20, 3) := by decide +kernel
theorem d_SG_takeSymbols_13 : decode M_SG_takeSymbols.2.1 13 = .ok (.aload_n 0, 1) := by decide +kernel
theorem d_SG_takeSymbols_14 : decode M_SG_takeSymbols.2.1 14 = .ok (.iload_n 1, 1) := by decide +kernel
theorem d_SG_takeSymbols_15 : decode M_SG_takeSymbols.2.1 15 = .ok (.invokevirtual 49, 3) := by decide +kernel
theorem d_SG_takeSymbols_18 : decode M_SG_takeSymbols.2.1 18 = .ok (.invokestatic 83, 3) := by decide +kernel
theorem d_SG_takeSymbols_21 : decode M_SG_takeSymbols.2.1 21 = .ok (.ifCond .eq 9, 3) := by decide +kernel
theorem d_SG_takeSymbols_24 : decode M_SG_takeSymbols.2.1 24 = .ok (.iinc 1 1, 3) := by decide +kernel
theorem d_SG_takeSymbols_27 : decode M_SG_takeSymbols.2.1 27 = .ok (.goto (-22), 3) := by decide +kernel
theorem d_SG_takeSymbols_30 : decode M_SG_takeSymbols.2.1 30 = .ok (.aload_n 0, 1) := by decide +kernel
theorem d_SG_takeSymbols_31 : decode M_SG_takeSymbols.2.1 31 = .ok (.aload_n 0, 1) := by decide +kernel
theorem d_SG_takeSymbols_32 : decode M_SG_takeSymbols.2.1 32 = .ok (.getfield 46, 3) := by decide +kernel
theorem d_SG_takeSymbols_35 : decode M_SG_takeSymbols.2.1 35 = .ok (.invokevirtual 49, 3) := by decide +kernel
theorem d_SG_takeSymbols_38 : decode M_SG_takeSymbols.2.1 38 = .ok (.bipush 46, 2) := by decide +kernel
theorem d_SG_takeSymbols_40 : decode M_SG_takeSymbols.2.1 40 = .ok (.if_icmp .ne 17, 3) := by decide +kernel
theorem d_SG_takeSymbols_43 : decode M_SG_takeSymbols.2.1 43 = .ok (.iload_n 1, 1) := by decide +kernel
theorem d_SG_takeSymbols_44 : decode M_SG_takeSymbols.2.1 44 = .ok (.aload_n 0, 1) := by decide +kernel
theorem d_SG_takeSymbols_45 : decode M_SG_takeSymbols.2.1 45 = .ok (.getfield 46, 3) := by decide +kernel
theorem d_SG_takeSymbols_48 : decode M_SG_takeSymbols.2.1 48 = .ok (.iconst 1, 1) := by decide +kernel
theorem d_SG_takeSymbols_49 : decode M_SG_takeSymbols.2.1 49 = .ok (.iadd, 1) := by decide +kernel
theorem d_SG_takeSymbols_50 : decode M_SG_takeSymbols.2.1 50 = .ok (.if_icmp .ne 7, 3) := by decide +kernel
theorem d_SG_takeSymbols_53 : decode M_SG_takeSymbols.2.1 53 = .ok (.iconst 1, 1) := by decide +kernel
theorem d_SG_takeSymbols_54 : decode M_SG_takeSymbols.2.1 54 = .ok (.goto 4, 3) := by decide +kernel
theorem d_SG_takeSymbols_57 : decode M_SG_takeSymbols.2.1 57 = .ok (.iconst 0, 1) := by decide +kernel
theorem d_SG_takeSymbols_58 : decode M_SG_takeSymbols.2.1 58 = .ok (.istore_n 2, 1) := by decide +kernel
theorem d_SG_takeSymbols_59 : decode M_SG_takeSymbols.2.1 59 = .ok (.aload_n 0, 1) := by decide +kernel
theorem d_SG_takeSymbols_60 : decode M_SG_takeSymbols.2.1 60 = .ok (.iload_n 1, 1) := by decide +kernel
theorem d_SG_takeSymbols_61 : decode M_SG_takeSymbols.2.1 61 = .ok (.invokevirtual 49, 3) := by decide +kernel
theorem d_SG_takeSymbols_64 : decode M_SG_takeSymbols.2.1 64 = .ok (.ifCond .lt 24, 3) := by decide +kernel
theorem d_SG_takeSymbols_67 : decode M_SG_takeSymbols.2.1 67 = .ok (.aload_n 0, 1) := by decide +kernel
theorem d_SG_takeSymbols_68 : decode M_SG_takeSymbols.2.1 68 = .ok (.iload_n 1, 1) := by decide +kernel
theorem d_SG_takeSymbols_69 : decode M_SG_takeSymbols.2.1 69 = .ok (.invokevirtual 49, 3) := by decide +kernel
theorem d_SG_takeSymbols_72 : decode M_SG_takeSymbols.2.1 72 = .ok (.bipush 37, 2) := by decide +kernel
theorem d_SG_takeSymbols_74 : decode M_SG_takeSymbols.2.1 74 = .ok (.if_icmp .eq 14, 3) := by decide +kernel
theorem d_SG_takeSymbols_77 : decode M_SG_takeSymbols.2.1 77 = .ok (.aload_n 0, 1) := by decide +kernel
theorem d_SG_takeSymbols_78 : decode M_SG_takeSymbols.2.1 78 = .ok (.iload_n 1, 1) := by decide +kernel
theorem d_SG_takeSymbols_79 : decode M_SG_takeSymbols.2.1 79 = .ok (.invokevirtual 49, 3) := by decide +kernel
theorem d_SG_takeSymbols_82 : decode M_SG_takeSymbols.2.1 82 = .ok (.invokestatic 148, 3) := by decide +kernel
theorem d_SG_takeSymbols_85 : decode M_SG_takeSymbols.2.1 85 = .ok (.ifCond .eq 7, 3) := by decide +kernel
theorem d_SG_takeSymbols_88 : decode M_SG_takeSymbols.2.1 88 = .ok (.iconst 1, 1) := by decide +kernel
theorem d_SG_takeSymbols_89 : decode M_SG_takeSymbols.2.1 89 = .ok (.goto 4, 3) := by decide +kernel
theorem d_SG_takeSymbols_92 : decode M_SG_takeSymbols.2.1 92 = .ok (.iconst 0, 1) := by decide +kernel
theorem d_SG_takeSymbols_93 : decode M_SG_takeSymbols.2.1 93 = .ok (.istore_n 3, 1) := by decide +kernel
theorem d_SG_takeSymbols_94 : decode M_SG_takeSymbols.2.1 94 = .ok (.aload_n 0, 1) := by decide +kernel
theorem d_SG_takeSymbols_95 : decode M_SG_takeSymbols.2.1 95 = .ok (.iload_n 2, 1) := by decide +kernel
theorem d_SG_takeSymbols_96 : decode M_SG_takeSymbols.2.1 96 = .ok (.ifCond .eq 13, 3) := by decide +kernel
theorem d_SG_takeSymbols_99 : decode M_SG_takeSymbols.2.1 99 = .ok (.iload_n 3, 1) := by decide +kernel
theorem d_SG_takeSymbols_100 : decode M_SG_takeSymbols.2.1 100 = .ok (.ifCond .eq 9, 3) := by decide +kernel
theorem d_SG_takeSymbols_103 : decode M_SG_takeSymbols.2.1 103 = .ok (.getstatic 157, 3) := by decide +kernel
theorem d_SG_takeSymbols_106 : decode M_SG_takeSymbols.2.1 106 = .ok (.goto 6, 3) := by decide +kernel
theorem d_SG_takeSymbols_109 : decode M_SG_takeSymbols.2.1 109 = .ok (.getstatic 70, 3) := by decide +kernel
theorem d_SG_takeSymbols_112 : decode M_SG_takeSymbols.2.1 112 = .ok (.aload_n 0, 1) := by decide +kernel
theorem d_SG_takeSymbols_113 : decode M_SG_takeSymbols.2.1 113 = .ok (.getfield 46, 3) := by decide +kernel
theorem d_SG_takeSymbols_116 : decode M_SG_takeSymbols.2.1 116 = .ok (.iload_n 1, 1) := by decide +kernel
theorem d_SG_takeSymbols_117 : decode M_SG_takeSymbols.2.1 117 = .ok (.iload_n 1, 1) := by decide +kernel
theorem d_SG_takeSymbols_118 : decode M_SG_takeSymbols.2.1 118 = .ok (.invokevirtual 53, 3) := by decide +kernel
theorem d_SG_takeSymbols_121 : decode M_SG_takeSymbols.2.1 121 = .ok (.return_, 1) := by decide +kernel
set_option maxRecDepth 20000 in
theorem w_SG_takeSymbols {E : xR} {h : xH} {u : Nat → Nat} {N : Nat} {p e : Nat} {w2 w3 w5 w6 w7 : Value} (h3 : h 3 = .inr (2, [.ref 1, .int (nI N), w2, w3, .int (nI p), w5, w6, w7])) (h1 : h 1 = .inl (1, 4096, .inl (fun i => g_sb (u i)))) (hu : ∀ i, u i < 256) (hN : N ≤ 4096) (hp : p ≤ N) (he : g_run g_symb (g_at u N) (N - p) p = e) : x_Mt E M_SG_takeSymbols 6 0 0 [.ref 3] 52 h (x_Y none 52 (x_up h 3 (.inr (2, [.ref 1, .int (nI N), .int (nI e), .ref (1000000 + (bif g_endb (g_at u N) p e then 3 else 2)), .int (nI p), .int (nI p), .int (nI e), w7])))) := by
  have hle := g_run_le (P := g_symb) (a := (g_at u N)) (N - p) p
  refine x_Mt.of (by decide) (Nat.le_of_ble_eq_true rfl) ?_
  have hfin3 : g_endb (g_at u N) p e = true → ∀ x y : Value, x_W E M_SG_takeSymbols (x_room 6 0 0) (x_Y none 52 (x_up h 3 (.inr (2, [.ref 1, .int (nI N), .int (nI e), .ref (1000000 + (bif g_endb (g_at u N) p e then 3 else 2)), .int (nI p), .int (nI p), .int (nI e), w7])))) 52 h 103 [(0, .ref 3), (1, .int (nI e)), (2, x), (3, y)] [.ref 3] 0 0 := by
    intro hb x y
    refine x_gSN (i := 3) d_SG_takeSymbols_103 (by decide) s_SG_157 ?_
    refine x_goto 112 d_SG_takeSymbols_106 (by decide) ?_
    refine x_aload_n d_SG_takeSymbols_112 rfl rfl ?_
    refine x_get d_SG_takeSymbols_113 f_SG_46 (Nat.le_of_ble_eq_true rfl) (Nat.le_of_ble_eq_true rfl) (by first | rfl | assumption) (by rfl) ?_
    refine x_iload_n d_SG_takeSymbols_116 rfl rfl ?_
    refine x_iload_n d_SG_takeSymbols_117 rfl rfl ?_
    refine x_callV4Y d_SG_takeSymbols_118 k_SG_53 (Nat.le_of_ble_eq_true rfl) (Nat.le_of_ble_eq_true rfl) (by first | rfl | assumption) (by rfl) (w_SG_take h3) (Nat.le_of_ble_eq_true rfl) (Nat.le_of_ble_eq_true rfl) (Nat.le_of_ble_eq_true rfl) (Nat.le_of_ble_eq_true rfl) (Nat.le_of_ble_eq_true rfl) rfl ?_
    exact x_return d_SG_takeSymbols_121 rfl ⟨rfl, rfl, fun _ _ => by rw [hb]; rfl, rfl, rfl⟩
  have hfin2 : g_endb (g_at u N) p e = false → ∀ x y : Value, x_W E M_SG_takeSymbols (x_room 6 0 0) (x_Y none 52 (x_up h 3 (.inr (2, [.ref 1, .int (nI N), .int (nI e), .ref (1000000 + (bif g_endb (g_at u N) p e then 3 else 2)), .int (nI p), .int (nI p), .int (nI e), w7])))) 52 h 109 [(0, .ref 3), (1, .int (nI e)), (2, x), (3, y)] [.ref 3] 0 0 := by
    intro hb x y
    refine x_gSN (i := 2) d_SG_takeSymbols_109 (by decide) s_SG_70 ?_
    refine x_aload_n d_SG_takeSymbols_112 rfl rfl ?_
    refine x_get d_SG_takeSymbols_113 f_SG_46 (Nat.le_of_ble_eq_true rfl) (Nat.le_of_ble_eq_true rfl) (by first | rfl | assumption) (by rfl) ?_
    refine x_iload_n d_SG_takeSymbols_116 rfl rfl ?_
    refine x_iload_n d_SG_takeSymbols_117 rfl rfl ?_
    refine x_callV4Y d_SG_takeSymbols_118 k_SG_53 (Nat.le_of_ble_eq_true rfl) (Nat.le_of_ble_eq_true rfl) (by first | rfl | assumption) (by rfl) (w_SG_take h3) (Nat.le_of_ble_eq_true rfl) (Nat.le_of_ble_eq_true rfl) (Nat.le_of_ble_eq_true rfl) (Nat.le_of_ble_eq_true rfl) (Nat.le_of_ble_eq_true rfl) rfl ?_
    exact x_return d_SG_takeSymbols_121 rfl ⟨rfl, rfl, fun _ _ => by rw [hb]; rfl, rfl, rfl⟩
  have hfin : ∀ x y : Bool, g_endb (g_at u N) p e = (x && y) → x_W E M_SG_takeSymbols (x_room 6 0 0) (x_Y none 52 (x_up h 3 (.inr (2, [.ref 1, .int (nI N), .int (nI e), .ref (1000000 + (bif g_endb (g_at u N) p e then 3 else 2)), .int (nI p), .int (nI p), .int (nI e), w7])))) 52 h 94 [(0, .ref 3), (1, .int (nI e)), (2, .int (g_b2 x)), (3, .int (g_b2 y))] [] 0 0 := by
    intro x y hxy
    refine x_aload_n d_SG_takeSymbols_94 rfl rfl ?_
    refine x_iload_n d_SG_takeSymbols_95 rfl rfl ?_
    refine x_if_eq 109 d_SG_takeSymbols_96 (by decide) (fun c_96 => ?_) (fun c_96 => ?_)
    · exact hfin2 (by rw [hxy, g_b2z c_96]; rfl) _ _
    · refine x_iload_n d_SG_takeSymbols_99 rfl rfl ?_
      refine x_if_eq 109 d_SG_takeSymbols_100 (by decide) (fun c_100 => ?_) (fun c_100 => ?_)
      · exact hfin2 (by rw [hxy, g_b2n c_96, g_b2z c_100]; rfl) _ _
      · exact hfin3 (by rw [hxy, g_b2n c_96, g_b2n c_100]; rfl) _ _
  have hmid : ∀ x : Bool, (decide ((g_at u N) p = 46) && decide (nI e = nI p + 1)) = x → x_W E M_SG_takeSymbols (x_room 6 0 0) (x_Y none 52 (x_up h 3 (.inr (2, [.ref 1, .int (nI N), .int (nI e), .ref (1000000 + (bif g_endb (g_at u N) p e then 3 else 2)), .int (nI p), .int (nI p), .int (nI e), w7])))) 52 h 59 [(0, .ref 3), (1, .int (nI e)), (2, .int (g_b2 x))] [] 0 0 := by
    intro x hx
    refine x_aload_n d_SG_takeSymbols_59 rfl rfl ?_
    refine x_iload_n d_SG_takeSymbols_60 rfl rfl ?_
    refine x_callV1Y d_SG_takeSymbols_61 k_SG_49 (Nat.le_of_ble_eq_true rfl) (Nat.le_of_ble_eq_true rfl) (by first | rfl | assumption) (by rfl) (w_SG_at (by first | rfl | assumption) (by first | rfl | assumption) hu hN (by omega)) (Nat.le_of_ble_eq_true rfl) (Nat.le_of_ble_eq_true rfl) (Nat.le_of_ble_eq_true rfl) (Nat.le_of_ble_eq_true rfl) (Nat.le_of_ble_eq_true rfl) rfl ?_
    refine x_if_lt 88 d_SG_takeSymbols_64 (by decide) (fun c_64 => ?_) (fun c_64 => ?_)
    · refine x_iconst 1 d_SG_takeSymbols_88 (by decide) ?_
      refine x_goto 93 d_SG_takeSymbols_89 (by decide) ?_
      refine x_istore_n d_SG_takeSymbols_93 rfl (Nat.le_of_ble_eq_true rfl) ?_
      exact hfin x true (by simp [g_endb, hx, c_64])
    · refine x_aload_n d_SG_takeSymbols_67 rfl rfl ?_
      refine x_iload_n d_SG_takeSymbols_68 rfl rfl ?_
      refine x_callV1Y d_SG_takeSymbols_69 k_SG_49 (Nat.le_of_ble_eq_true rfl) (Nat.le_of_ble_eq_true rfl) (by first | rfl | assumption) (by rfl) (w_SG_at (by first | rfl | assumption) (by first | rfl | assumption) hu hN (by omega)) (Nat.le_of_ble_eq_true rfl) (Nat.le_of_ble_eq_true rfl) (Nat.le_of_ble_eq_true rfl) (Nat.le_of_ble_eq_true rfl) (Nat.le_of_ble_eq_true rfl) rfl ?_
      refine x_bipush 37 d_SG_takeSymbols_72 (by decide) ?_
      refine x_icmp_eq 88 d_SG_takeSymbols_74 (by decide) (fun c_74 => ?_) (fun c_74 => ?_)
      · refine x_iconst 1 d_SG_takeSymbols_88 (by decide) ?_
        refine x_goto 93 d_SG_takeSymbols_89 (by decide) ?_
        refine x_istore_n d_SG_takeSymbols_93 rfl (Nat.le_of_ble_eq_true rfl) ?_
        exact hfin x true (by simp [g_endb, hx, c_74])
      · refine x_aload_n d_SG_takeSymbols_77 rfl rfl ?_
        refine x_iload_n d_SG_takeSymbols_78 rfl rfl ?_
        refine x_callV1Y d_SG_takeSymbols_79 k_SG_49 (Nat.le_of_ble_eq_true rfl) (Nat.le_of_ble_eq_true rfl) (by first | rfl | assumption) (by rfl) (w_SG_at (by first | rfl | assumption) (by first | rfl | assumption) hu hN (by omega)) (Nat.le_of_ble_eq_true rfl) (Nat.le_of_ble_eq_true rfl) (Nat.le_of_ble_eq_true rfl) (Nat.le_of_ble_eq_true rfl) (Nat.le_of_ble_eq_true rfl) rfl ?_
        refine x_callS1Y d_SG_takeSymbols_82 k_SG_148 w_SG_isBlank (Nat.le_of_ble_eq_true rfl) (Nat.le_of_ble_eq_true rfl) (Nat.le_of_ble_eq_true rfl) (Nat.le_of_ble_eq_true rfl) (Nat.le_of_ble_eq_true rfl) rfl ?_
        refine x_if_eq 92 d_SG_takeSymbols_85 (by decide) (fun c_85 => ?_) (fun c_85 => ?_)
        · refine x_iconst 0 d_SG_takeSymbols_92 (by decide) ?_
          refine x_istore_n d_SG_takeSymbols_93 rfl (Nat.le_of_ble_eq_true rfl) ?_
          exact hfin x false (by simp [g_endb, hx, c_64, c_74, g_b2z c_85])
        · refine x_iconst 1 d_SG_takeSymbols_88 (by decide) ?_
          refine x_goto 93 d_SG_takeSymbols_89 (by decide) ?_
          refine x_istore_n d_SG_takeSymbols_93 rfl (Nat.le_of_ble_eq_true rfl) ?_
          exact hfin x true (by simp [g_endb, hx, g_b2n c_85])
  have hend : x_W E M_SG_takeSymbols (x_room 6 0 0) (x_Y none 52 (x_up h 3 (.inr (2, [.ref 1, .int (nI N), .int (nI e), .ref (1000000 + (bif g_endb (g_at u N) p e then 3 else 2)), .int (nI p), .int (nI p), .int (nI e), w7])))) 52 h 30 [(0, .ref 3), (1, .int (nI e))] [] 0 0 := by
    refine x_aload_n d_SG_takeSymbols_30 rfl rfl ?_
    refine x_aload_n d_SG_takeSymbols_31 rfl rfl ?_
    refine x_get d_SG_takeSymbols_32 f_SG_46 (Nat.le_of_ble_eq_true rfl) (Nat.le_of_ble_eq_true rfl) (by first | rfl | assumption) (by rfl) ?_
    refine x_callV1Y d_SG_takeSymbols_35 k_SG_49 (Nat.le_of_ble_eq_true rfl) (Nat.le_of_ble_eq_true rfl) (by first | rfl | assumption) (by rfl) (w_SG_at (by first | rfl | assumption) (by first | rfl | assumption) hu hN (by omega)) (Nat.le_of_ble_eq_true rfl) (Nat.le_of_ble_eq_true rfl) (Nat.le_of_ble_eq_true rfl) (Nat.le_of_ble_eq_true rfl) (Nat.le_of_ble_eq_true rfl) rfl ?_
    refine x_bipush 46 d_SG_takeSymbols_38 (by decide) ?_
    refine x_icmp_ne 57 d_SG_takeSymbols_40 (by decide) (fun c_40 => ?_) (fun c_40 => ?_)
    · refine x_iconst 0 d_SG_takeSymbols_57 (by decide) ?_
      refine x_istore_n d_SG_takeSymbols_58 rfl (Nat.le_of_ble_eq_true rfl) ?_
      exact hmid false (by simp [c_40])
    · refine x_iload_n d_SG_takeSymbols_43 rfl rfl ?_
      refine x_aload_n d_SG_takeSymbols_44 rfl rfl ?_
      refine x_get d_SG_takeSymbols_45 f_SG_46 (Nat.le_of_ble_eq_true rfl) (Nat.le_of_ble_eq_true rfl) (by first | rfl | assumption) (by rfl) ?_
      refine x_iconst 1 d_SG_takeSymbols_48 (by decide) ?_
      refine x_iadd d_SG_takeSymbols_49 ?_
      refine x_icmp_ne 57 d_SG_takeSymbols_50 (by decide) (fun c_50 => ?_) (fun c_50 => ?_)
      · refine x_iconst 0 d_SG_takeSymbols_57 (by decide) ?_
        refine x_istore_n d_SG_takeSymbols_58 rfl (Nat.le_of_ble_eq_true rfl) ?_
        exact hmid false (by simp [c_50])
      · refine x_iconst 1 d_SG_takeSymbols_53 (by decide) ?_
        refine x_goto 58 d_SG_takeSymbols_54 (by decide) ?_
        refine x_istore_n d_SG_takeSymbols_58 rfl (Nat.le_of_ble_eq_true rfl) ?_
        exact hmid true (by simp [c_40, c_50])
  have hloop : ∀ m i, i + m = N → g_run g_symb (g_at u N) m i = e → x_W E M_SG_takeSymbols (x_room 6 0 0) (x_Y none 52 (x_up h 3 (.inr (2, [.ref 1, .int (nI N), .int (nI e), .ref (1000000 + (bif g_endb (g_at u N) p e then 3 else 2)), .int (nI p), .int (nI p), .int (nI e), w7])))) 52 h 5 [(0, .ref 3), (1, .int (nI i))] [] 0 0 := by
    intro m
    induction m with
    | zero =>
      intro i hi he
      obtain rfl : i = N := by omega
      obtain rfl : i = e := he
      refine x_iload_n d_SG_takeSymbols_5 rfl rfl ?_
      refine x_aload_n d_SG_takeSymbols_6 rfl rfl ?_
      refine x_get d_SG_takeSymbols_7 f_SG_34 (Nat.le_of_ble_eq_true rfl) (Nat.le_of_ble_eq_true rfl) (by first | rfl | assumption) (by rfl) ?_
      refine x_icmp_ge 30 d_SG_takeSymbols_10 (by decide) (fun _ => ?_) (fun z => absurd (nI_le (Nat.le_refl _) (by omega)) z)
      exact hend
    | succ m ih =>
      intro i hi he
      refine x_iload_n d_SG_takeSymbols_5 rfl rfl ?_
      refine x_aload_n d_SG_takeSymbols_6 rfl rfl ?_
      refine x_get d_SG_takeSymbols_7 f_SG_34 (Nat.le_of_ble_eq_true rfl) (Nat.le_of_ble_eq_true rfl) (by first | rfl | assumption) (by rfl) ?_
      refine x_icmp_ge 30 d_SG_takeSymbols_10 (by decide) (fun z => absurd z (nI_ge (by omega) (by omega))) (fun _ => ?_)
      refine x_aload_n d_SG_takeSymbols_13 rfl rfl ?_
      refine x_iload_n d_SG_takeSymbols_14 rfl rfl ?_
      refine x_callV1Y d_SG_takeSymbols_15 k_SG_49 (Nat.le_of_ble_eq_true rfl) (Nat.le_of_ble_eq_true rfl) (by first | rfl | assumption) (by rfl) (w_SG_at (by first | rfl | assumption) (by first | rfl | assumption) hu hN (by omega)) (Nat.le_of_ble_eq_true rfl) (Nat.le_of_ble_eq_true rfl) (Nat.le_of_ble_eq_true rfl) (Nat.le_of_ble_eq_true rfl) (Nat.le_of_ble_eq_true rfl) rfl ?_
      refine x_callS1Y d_SG_takeSymbols_18 k_SG_83 (w_SG_isSymbol_at hu) (Nat.le_of_ble_eq_true rfl) (Nat.le_of_ble_eq_true rfl) (Nat.le_of_ble_eq_true rfl) (Nat.le_of_ble_eq_true rfl) (Nat.le_of_ble_eq_true rfl) rfl ?_
      refine x_if_eq 30 d_SG_takeSymbols_21 (by decide) (fun c_21 => ?_) (fun c_21 => ?_)
      · obtain rfl : i = e := (g_run_no c_21).symm.trans he
        exact hend
      · refine x_iinc d_SG_takeSymbols_24 rfl 1 (by decide) (Nat.le_of_ble_eq_true rfl) ?_
        refine x_goto 5 d_SG_takeSymbols_27 (by decide) ?_
        refine x_lv [(0, .ref 3), (1, .int (nI (i + 1)))] (by rw [nI_succ i]; rfl) ?_
        exact ih (i + 1) (by omega) ((g_run_yes c_21).symm.trans he)
  show x_W E M_SG_takeSymbols _ _ 52 h 0 [(0, .ref 3)] [] 0 0
  refine x_aload_n d_SG_takeSymbols_0 rfl rfl ?_
  refine x_get d_SG_takeSymbols_1 f_SG_46 (Nat.le_of_ble_eq_true rfl) (Nat.le_of_ble_eq_true rfl) (by first | rfl | assumption) (by rfl) ?_
  refine x_istore_n d_SG_takeSymbols_4 rfl (Nat.le_of_ble_eq_true rfl) ?_
  exact hloop (N - p) p (by omega) he
