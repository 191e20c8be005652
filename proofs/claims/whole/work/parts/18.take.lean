theorem x_callV0B {E : xR} {M : xM} {R : Room} {Q : xK} {h : xH} {pc : Nat} {lv : List (Nat × Value)} {rest : List Value} {cells slots : Nat} {idx : Nat} {M' : xM} {d0 kc ks : Nat} {i ci N q : Nat} {fs : List Value} {T : u_T} {b : Bool} {v : Option Value} {h1 h2 : xH} (d : decode M.2.1 pc = .ok (.invokevirtual idx, 3)) (hk : x_CV M.1.cls idx M' 0) (hi : i < 52) (hlo1 : i < 1000000) (hc : h i = .inr (ci, fs)) (hcc : x_Cl[ci]? = some (M'.1.cls, T, N)) (hM : x_Mt E M' d0 kc ks [.ref i] 52 h (x_YX b v h1 q h2)) (hfr : d0 + 1 ≤ R.frames) (hlo : 8 + (M'.2.2.1 + 11) + 64 * d0 ≤ R.locals) (hcl : cells + kc ≤ R.cells) (hsl : slots + ks ≤ R.slots) (hrs : (rest.map fun v => v.category).sum ≤ 8) (ho : M.2.2.2.2.all (fun t => !(decide (t.1 ≤ pc) && decide (pc < t.2.1))) = true) (kr : b = true → x_W E M R Q 52 h1 (pc + 3) lv (v.toList ++ rest) cells slots) (kt : b = false → ∀ h', (∀ i, i < 52 → h' i = h2 i) → Q (.inr q) 52 h' (cells + 1) (slots + 6)) : x_W E M R Q 52 h pc lv (.ref i :: rest) cells slots := by
  cases b with
  | true => exact x_callV0Y d hk hi hlo1 hc hcc hM hfr hlo hcl hsl hrs ho (kr rfl)
  | false => exact x_callV0X d hk hi hlo1 hc hcc hM hfr hlo hcl hsl hrs ho (kt rfl)
theorem x_callV1B {E : xR} {M : xM} {R : Room} {Q : xK} {h : xH} {pc : Nat} {lv : List (Nat × Value)} {rest : List Value} {cells slots : Nat} {idx : Nat} {M' : xM} {d0 kc ks : Nat} {i ci N q : Nat} {fs : List Value} {T : u_T} {a1 : Value} {b : Bool} {v : Option Value} {h1 h2 : xH} (d : decode M.2.1 pc = .ok (.invokevirtual idx, 3)) (hk : x_CV M.1.cls idx M' 1) (hi : i < 52) (hlo1 : i < 1000000) (hc : h i = .inr (ci, fs)) (hcc : x_Cl[ci]? = some (M'.1.cls, T, N)) (hM : x_Mt E M' d0 kc ks [.ref i, a1] 52 h (x_YX b v h1 q h2)) (hfr : d0 + 1 ≤ R.frames) (hlo : 8 + (M'.2.2.1 + 11) + 64 * d0 ≤ R.locals) (hcl : cells + kc ≤ R.cells) (hsl : slots + ks ≤ R.slots) (hrs : (rest.map fun v => v.category).sum ≤ 8) (ho : M.2.2.2.2.all (fun t => !(decide (t.1 ≤ pc) && decide (pc < t.2.1))) = true) (kr : b = true → x_W E M R Q 52 h1 (pc + 3) lv (v.toList ++ rest) cells slots) (kt : b = false → ∀ h', (∀ i, i < 52 → h' i = h2 i) → Q (.inr q) 52 h' (cells + 1) (slots + 6)) : x_W E M R Q 52 h pc lv (a1 :: .ref i :: rest) cells slots := by
  cases b with
  | true => exact x_callV1Y d hk hi hlo1 hc hcc hM hfr hlo hcl hsl hrs ho (kr rfl)
  | false => exact x_callV1X d hk hi hlo1 hc hcc hM hfr hlo hcl hsl hrs ho (kt rfl)
theorem x_callV2B {E : xR} {M : xM} {R : Room} {Q : xK} {h : xH} {pc : Nat} {lv : List (Nat × Value)} {rest : List Value} {cells slots : Nat} {idx : Nat} {M' : xM} {d0 kc ks : Nat} {i ci N q : Nat} {fs : List Value} {T : u_T} {a1 a2 : Value} {b : Bool} {v : Option Value} {h1 h2 : xH} (d : decode M.2.1 pc = .ok (.invokevirtual idx, 3)) (hk : x_CV M.1.cls idx M' 2) (hi : i < 52) (hlo1 : i < 1000000) (hc : h i = .inr (ci, fs)) (hcc : x_Cl[ci]? = some (M'.1.cls, T, N)) (hM : x_Mt E M' d0 kc ks [.ref i, a1, a2] 52 h (x_YX b v h1 q h2)) (hfr : d0 + 1 ≤ R.frames) (hlo : 8 + (M'.2.2.1 + 11) + 64 * d0 ≤ R.locals) (hcl : cells + kc ≤ R.cells) (hsl : slots + ks ≤ R.slots) (hrs : (rest.map fun v => v.category).sum ≤ 8) (ho : M.2.2.2.2.all (fun t => !(decide (t.1 ≤ pc) && decide (pc < t.2.1))) = true) (kr : b = true → x_W E M R Q 52 h1 (pc + 3) lv (v.toList ++ rest) cells slots) (kt : b = false → ∀ h', (∀ i, i < 52 → h' i = h2 i) → Q (.inr q) 52 h' (cells + 1) (slots + 6)) : x_W E M R Q 52 h pc lv (a2 :: a1 :: .ref i :: rest) cells slots := by
  cases b with
  | true => exact x_callV2Y d hk hi hlo1 hc hcc hM hfr hlo hcl hsl hrs ho (kr rfl)
  | false => exact x_callV2X d hk hi hlo1 hc hcc hM hfr hlo hcl hsl hrs ho (kt rfl)
theorem x_callV3B {E : xR} {M : xM} {R : Room} {Q : xK} {h : xH} {pc : Nat} {lv : List (Nat × Value)} {rest : List Value} {cells slots : Nat} {idx : Nat} {M' : xM} {d0 kc ks : Nat} {i ci N q : Nat} {fs : List Value} {T : u_T} {a1 a2 a3 : Value} {b : Bool} {v : Option Value} {h1 h2 : xH} (d : decode M.2.1 pc = .ok (.invokevirtual idx, 3)) (hk : x_CV M.1.cls idx M' 3) (hi : i < 52) (hlo1 : i < 1000000) (hc : h i = .inr (ci, fs)) (hcc : x_Cl[ci]? = some (M'.1.cls, T, N)) (hM : x_Mt E M' d0 kc ks [.ref i, a1, a2, a3] 52 h (x_YX b v h1 q h2)) (hfr : d0 + 1 ≤ R.frames) (hlo : 8 + (M'.2.2.1 + 11) + 64 * d0 ≤ R.locals) (hcl : cells + kc ≤ R.cells) (hsl : slots + ks ≤ R.slots) (hrs : (rest.map fun v => v.category).sum ≤ 8) (ho : M.2.2.2.2.all (fun t => !(decide (t.1 ≤ pc) && decide (pc < t.2.1))) = true) (kr : b = true → x_W E M R Q 52 h1 (pc + 3) lv (v.toList ++ rest) cells slots) (kt : b = false → ∀ h', (∀ i, i < 52 → h' i = h2 i) → Q (.inr q) 52 h' (cells + 1) (slots + 6)) : x_W E M R Q 52 h pc lv (a3 :: a2 :: a1 :: .ref i :: rest) cells slots := by
  cases b with
  | true => exact x_callV3Y d hk hi hlo1 hc hcc hM hfr hlo hcl hsl hrs ho (kr rfl)
  | false => exact x_callV3X d hk hi hlo1 hc hcc hM hfr hlo hcl hsl hrs ho (kt rfl)
theorem x_callV4B {E : xR} {M : xM} {R : Room} {Q : xK} {h : xH} {pc : Nat} {lv : List (Nat × Value)} {rest : List Value} {cells slots : Nat} {idx : Nat} {M' : xM} {d0 kc ks : Nat} {i ci N q : Nat} {fs : List Value} {T : u_T} {a1 a2 a3 a4 : Value} {b : Bool} {v : Option Value} {h1 h2 : xH} (d : decode M.2.1 pc = .ok (.invokevirtual idx, 3)) (hk : x_CV M.1.cls idx M' 4) (hi : i < 52) (hlo1 : i < 1000000) (hc : h i = .inr (ci, fs)) (hcc : x_Cl[ci]? = some (M'.1.cls, T, N)) (hM : x_Mt E M' d0 kc ks [.ref i, a1, a2, a3, a4] 52 h (x_YX b v h1 q h2)) (hfr : d0 + 1 ≤ R.frames) (hlo : 8 + (M'.2.2.1 + 11) + 64 * d0 ≤ R.locals) (hcl : cells + kc ≤ R.cells) (hsl : slots + ks ≤ R.slots) (hrs : (rest.map fun v => v.category).sum ≤ 8) (ho : M.2.2.2.2.all (fun t => !(decide (t.1 ≤ pc) && decide (pc < t.2.1))) = true) (kr : b = true → x_W E M R Q 52 h1 (pc + 3) lv (v.toList ++ rest) cells slots) (kt : b = false → ∀ h', (∀ i, i < 52 → h' i = h2 i) → Q (.inr q) 52 h' (cells + 1) (slots + 6)) : x_W E M R Q 52 h pc lv (a4 :: a3 :: a2 :: a1 :: .ref i :: rest) cells slots := by
  cases b with
  | true => exact x_callV4Y d hk hi hlo1 hc hcc hM hfr hlo hcl hsl hrs ho (kr rfl)
  | false => exact x_callV4X d hk hi hlo1 hc hcc hM hfr hlo hcl hsl hrs ho (kt rfl)
theorem x_callV5B {E : xR} {M : xM} {R : Room} {Q : xK} {h : xH} {pc : Nat} {lv : List (Nat × Value)} {rest : List Value} {cells slots : Nat} {idx : Nat} {M' : xM} {d0 kc ks : Nat} {i ci N q : Nat} {fs : List Value} {T : u_T} {a1 a2 a3 a4 a5 : Value} {b : Bool} {v : Option Value} {h1 h2 : xH} (d : decode M.2.1 pc = .ok (.invokevirtual idx, 3)) (hk : x_CV M.1.cls idx M' 5) (hi : i < 52) (hlo1 : i < 1000000) (hc : h i = .inr (ci, fs)) (hcc : x_Cl[ci]? = some (M'.1.cls, T, N)) (hM : x_Mt E M' d0 kc ks [.ref i, a1, a2, a3, a4, a5] 52 h (x_YX b v h1 q h2)) (hfr : d0 + 1 ≤ R.frames) (hlo : 8 + (M'.2.2.1 + 11) + 64 * d0 ≤ R.locals) (hcl : cells + kc ≤ R.cells) (hsl : slots + ks ≤ R.slots) (hrs : (rest.map fun v => v.category).sum ≤ 8) (ho : M.2.2.2.2.all (fun t => !(decide (t.1 ≤ pc) && decide (pc < t.2.1))) = true) (kr : b = true → x_W E M R Q 52 h1 (pc + 3) lv (v.toList ++ rest) cells slots) (kt : b = false → ∀ h', (∀ i, i < 52 → h' i = h2 i) → Q (.inr q) 52 h' (cells + 1) (slots + 6)) : x_W E M R Q 52 h pc lv (a5 :: a4 :: a3 :: a2 :: a1 :: .ref i :: rest) cells slots := by
  cases b with
  | true => exact x_callV5Y d hk hi hlo1 hc hcc hM hfr hlo hcl hsl hrs ho (kr rfl)
  | false => exact x_callV5X d hk hi hlo1 hc hcc hM hfr hlo hcl hsl hrs ho (kt rfl)
theorem g_soloR (c : Int32) : g_solo c < 13 := by
  unfold g_solo
  repeat' split
  all_goals decide
theorem g_sg12 : ∀ k, k < 13 → (g_sg k = 11 ↔ k = 12) ∧ g_sg k < 12 := by decide
theorem d_SG_takeSolo_0 : decode M_SG_takeSolo.2.1 0 = .ok (.iload_n 1, 1) := by decide +kernel
theorem d_SG_takeSolo_1 : decode M_SG_takeSolo.2.1 1 = .ok (.bipush 91, 2) := by decide +kernel
theorem d_SG_takeSolo_3 : decode M_SG_takeSolo.2.1 3 = .ok (.if_icmp .ne 22, 3) := by decide +kernel
theorem d_SG_takeSolo_6 : decode M_SG_takeSolo.2.1 6 = .ok (.aload_n 0, 1) := by decide +kernel
theorem d_SG_takeSolo_7 : decode M_SG_takeSolo.2.1 7 = .ok (.aload_n 0, 1) := by decide +kernel
theorem d_SG_takeSolo_8 : decode M_SG_takeSolo.2.1 8 = .ok (.getfield 46, 3) := by decide +kernel
theorem d_SG_takeSolo_11 : decode M_SG_takeSolo.2.1 11 = .ok (.iconst 1, 1) := by decide +kernel
theorem d_SG_takeSolo_12 : decode M_SG_takeSolo.2.1 12 = .ok (.iadd, 1) := by decide +kernel
theorem d_SG_takeSolo_13 : decode M_SG_takeSolo.2.1 13 = .ok (.invokevirtual 49, 3) := by decide +kernel
theorem d_SG_takeSolo_16 : decode M_SG_takeSolo.2.1 16 = .ok (.bipush 93, 2) := by decide +kernel
theorem d_SG_takeSolo_18 : decode M_SG_takeSolo.2.1 18 = .ok (.if_icmp .ne 7, 3) := by decide +kernel
theorem d_SG_takeSolo_21 : decode M_SG_takeSolo.2.1 21 = .ok (.iconst 1, 1) := by decide +kernel
theorem d_SG_takeSolo_22 : decode M_SG_takeSolo.2.1 22 = .ok (.goto 4, 3) := by decide +kernel
theorem d_SG_takeSolo_25 : decode M_SG_takeSolo.2.1 25 = .ok (.iconst 0, 1) := by decide +kernel
theorem d_SG_takeSolo_26 : decode M_SG_takeSolo.2.1 26 = .ok (.istore_n 2, 1) := by decide +kernel
theorem d_SG_takeSolo_27 : decode M_SG_takeSolo.2.1 27 = .ok (.iload_n 2, 1) := by decide +kernel
theorem d_SG_takeSolo_28 : decode M_SG_takeSolo.2.1 28 = .ok (.ifCond .eq 9, 3) := by decide +kernel
theorem d_SG_takeSolo_31 : decode M_SG_takeSolo.2.1 31 = .ok (.getstatic 70, 3) := by decide +kernel
theorem d_SG_takeSolo_34 : decode M_SG_takeSolo.2.1 34 = .ok (.goto 7, 3) := by decide +kernel
theorem d_SG_takeSolo_37 : decode M_SG_takeSolo.2.1 37 = .ok (.iload_n 1, 1) := by decide +kernel
theorem d_SG_takeSolo_38 : decode M_SG_takeSolo.2.1 38 = .ok (.invokestatic 160, 3) := by decide +kernel
theorem d_SG_takeSolo_41 : decode M_SG_takeSolo.2.1 41 = .ok (.astore_n 3, 1) := by decide +kernel
theorem d_SG_takeSolo_42 : decode M_SG_takeSolo.2.1 42 = .ok (.aload_n 3, 1) := by decide +kernel
theorem d_SG_takeSolo_43 : decode M_SG_takeSolo.2.1 43 = .ok (.getstatic 15, 3) := by decide +kernel
theorem d_SG_takeSolo_46 : decode M_SG_takeSolo.2.1 46 = .ok (.if_acmp .ne 7, 3) := by decide +kernel
theorem d_SG_takeSolo_49 : decode M_SG_takeSolo.2.1 49 = .ok (.aload_n 0, 1) := by decide +kernel
theorem d_SG_takeSolo_50 : decode M_SG_takeSolo.2.1 50 = .ok (.invokevirtual 93, 3) := by decide +kernel
theorem d_SG_takeSolo_53 : decode M_SG_takeSolo.2.1 53 = .ok (.aload_n 0, 1) := by decide +kernel
theorem d_SG_takeSolo_54 : decode M_SG_takeSolo.2.1 54 = .ok (.getfield 46, 3) := by decide +kernel
theorem d_SG_takeSolo_57 : decode M_SG_takeSolo.2.1 57 = .ok (.iload_n 2, 1) := by decide +kernel
theorem d_SG_takeSolo_58 : decode M_SG_takeSolo.2.1 58 = .ok (.ifCond .eq 7, 3) := by decide +kernel
theorem d_SG_takeSolo_61 : decode M_SG_takeSolo.2.1 61 = .ok (.iconst 2, 1) := by decide +kernel
theorem d_SG_takeSolo_62 : decode M_SG_takeSolo.2.1 62 = .ok (.goto 4, 3) := by decide +kernel
theorem d_SG_takeSolo_65 : decode M_SG_takeSolo.2.1 65 = .ok (.iconst 1, 1) := by decide +kernel
theorem d_SG_takeSolo_66 : decode M_SG_takeSolo.2.1 66 = .ok (.iadd, 1) := by decide +kernel
theorem d_SG_takeSolo_67 : decode M_SG_takeSolo.2.1 67 = .ok (.istore 4, 2) := by decide +kernel
theorem d_SG_takeSolo_69 : decode M_SG_takeSolo.2.1 69 = .ok (.aload_n 0, 1) := by decide +kernel
theorem d_SG_takeSolo_70 : decode M_SG_takeSolo.2.1 70 = .ok (.aload_n 3, 1) := by decide +kernel
theorem d_SG_takeSolo_71 : decode M_SG_takeSolo.2.1 71 = .ok (.aload_n 0, 1) := by decide +kernel
theorem d_SG_takeSolo_72 : decode M_SG_takeSolo.2.1 72 = .ok (.getfield 46, 3) := by decide +kernel
theorem d_SG_takeSolo_75 : decode M_SG_takeSolo.2.1 75 = .ok (.iload 4, 2) := by decide +kernel
theorem d_SG_takeSolo_77 : decode M_SG_takeSolo.2.1 77 = .ok (.iload 4, 2) := by decide +kernel
theorem d_SG_takeSolo_79 : decode M_SG_takeSolo.2.1 79 = .ok (.invokevirtual 53, 3) := by decide +kernel
theorem d_SG_takeSolo_82 : decode M_SG_takeSolo.2.1 82 = .ok (.return_, 1) := by decide +kernel
set_option maxRecDepth 20000 in
theorem w_SG_takeSolo {E : xR} {h : xH} {u : Nat → Nat} {N : Nat} {p : Nat} {c : Int32} {w2 w3 w5 w6 w7 : Value} (h3 : h 3 = .inr (2, [.ref 1, .int (nI N), w2, w3, .int (nI p), w5, w6, w7])) (h1 : h 1 = .inl (1, 4096, .inl (fun i => g_sb (u i)))) (hu : ∀ i, u i < 256) (hN : N ≤ 4096) (hp : p < N) : x_Mt E M_SG_takeSolo 7 1 6 [.ref 3, .int c] 52 h (x_YX (!decide ((bif (decide (c = 91) && decide ((g_at u N) (p + 1) = 93)) then 3 else g_solo c) = 12)) none (x_up h 3 (.inr (2, [.ref 1, .int (nI N), .int (nI (bif (decide (c = 91) && decide ((g_at u N) (p + 1) = 93)) then p + 2 else p + 1)), .ref (1000000 + g_sg (bif (decide (c = 91) && decide ((g_at u N) (p + 1) = 93)) then 3 else g_solo c)), .int (nI p), .int (nI p), .int (nI (bif (decide (c = 91) && decide ((g_at u N) (p + 1) = 93)) then p + 2 else p + 1)), w7]))) 2 (x_up h 3 (.inr (2, [.ref 1, .int (nI N), w2, w3, .int (nI p), w5, w6, .int (nI p)])))) := by
  refine x_Mt.of (by decide) (Nat.le_of_ble_eq_true rfl) ?_
  have hE : (decide (c = 91) && decide ((g_at u N) (p + 1) = 93)) = true → x_W E M_SG_takeSolo (x_room 7 1 6) (x_YX (!decide ((bif (decide (c = 91) && decide ((g_at u N) (p + 1) = 93)) then 3 else g_solo c) = 12)) none (x_up h 3 (.inr (2, [.ref 1, .int (nI N), .int (nI (bif (decide (c = 91) && decide ((g_at u N) (p + 1) = 93)) then p + 2 else p + 1)), .ref (1000000 + g_sg (bif (decide (c = 91) && decide ((g_at u N) (p + 1) = 93)) then 3 else g_solo c)), .int (nI p), .int (nI p), .int (nI (bif (decide (c = 91) && decide ((g_at u N) (p + 1) = 93)) then p + 2 else p + 1)), w7]))) 2 (x_up h 3 (.inr (2, [.ref 1, .int (nI N), w2, w3, .int (nI p), w5, w6, .int (nI p)])))) 52 h 27 [(0, .ref 3), (1, .int c), (2, .int 1)] [] 0 0 := by
    intro hb
    refine x_iload_n d_SG_takeSolo_27 rfl rfl ?_
    refine x_if_eq 37 d_SG_takeSolo_28 (by decide) (fun z => absurd z (by decide)) (fun _ => ?_)
    refine x_gSN (i := 2) d_SG_takeSolo_31 (by decide) s_SG_70 ?_
    refine x_goto 41 d_SG_takeSolo_34 (by decide) ?_
    refine x_astore_n d_SG_takeSolo_41 rfl (Nat.le_of_ble_eq_true rfl) ?_
    refine x_aload_n d_SG_takeSolo_42 rfl rfl ?_
    refine x_gSN (i := 11) d_SG_takeSolo_43 (by decide) s_SG_15 ?_
    refine x_acmp_ne 53 d_SG_takeSolo_46 (by decide) (Or.inl ⟨rfl, rfl⟩) (by first | assumption | decide | omega) (by first | assumption | decide | omega) (fun _ => ?_) (fun z => absurd z (by decide))
    refine x_aload_n d_SG_takeSolo_53 rfl rfl ?_
    refine x_get d_SG_takeSolo_54 f_SG_46 (Nat.le_of_ble_eq_true rfl) (Nat.le_of_ble_eq_true rfl) (by first | rfl | assumption) (by rfl) ?_
    refine x_iload_n d_SG_takeSolo_57 rfl rfl ?_
    refine x_if_eq 65 d_SG_takeSolo_58 (by decide) (fun z => absurd z (by decide)) (fun _ => ?_)
    refine x_iconst 2 d_SG_takeSolo_61 (by decide) ?_
    refine x_goto 66 d_SG_takeSolo_62 (by decide) ?_
    refine x_iadd d_SG_takeSolo_66 ?_
    refine x_topi (nI (p + 2)) (nI_add p 2) ?_
    refine x_istore d_SG_takeSolo_67 (Nat.le_of_ble_eq_true rfl) ?_
    refine x_aload_n d_SG_takeSolo_69 rfl rfl ?_
    refine x_aload_n d_SG_takeSolo_70 rfl rfl ?_
    refine x_aload_n d_SG_takeSolo_71 rfl rfl ?_
    refine x_get d_SG_takeSolo_72 f_SG_46 (Nat.le_of_ble_eq_true rfl) (Nat.le_of_ble_eq_true rfl) (by first | rfl | assumption) (by rfl) ?_
    refine x_iload d_SG_takeSolo_75 rfl ?_
    refine x_iload d_SG_takeSolo_77 rfl ?_
    refine x_callV4Y d_SG_takeSolo_79 k_SG_53 (Nat.le_of_ble_eq_true rfl) (Nat.le_of_ble_eq_true rfl) (by first | rfl | assumption) (by rfl) (w_SG_take h3) (Nat.le_of_ble_eq_true rfl) (Nat.le_of_ble_eq_true rfl) (Nat.le_of_ble_eq_true rfl) (Nat.le_of_ble_eq_true rfl) (Nat.le_of_ble_eq_true rfl) rfl ?_
    exact x_return d_SG_takeSolo_82 rfl (x_YX1 (by rw [hb]; rfl) (fun _ _ => by rw [hb]; rfl))
  have hF : (decide (c = 91) && decide ((g_at u N) (p + 1) = 93)) = false → x_W E M_SG_takeSolo (x_room 7 1 6) (x_YX (!decide ((bif (decide (c = 91) && decide ((g_at u N) (p + 1) = 93)) then 3 else g_solo c) = 12)) none (x_up h 3 (.inr (2, [.ref 1, .int (nI N), .int (nI (bif (decide (c = 91) && decide ((g_at u N) (p + 1) = 93)) then p + 2 else p + 1)), .ref (1000000 + g_sg (bif (decide (c = 91) && decide ((g_at u N) (p + 1) = 93)) then 3 else g_solo c)), .int (nI p), .int (nI p), .int (nI (bif (decide (c = 91) && decide ((g_at u N) (p + 1) = 93)) then p + 2 else p + 1)), w7]))) 2 (x_up h 3 (.inr (2, [.ref 1, .int (nI N), w2, w3, .int (nI p), w5, w6, .int (nI p)])))) 52 h 27 [(0, .ref 3), (1, .int c), (2, .int 0)] [] 0 0 := by
    intro hb
    have hk12 := (g_sg12 (g_solo c) (g_soloR c)).2
    refine x_iload_n d_SG_takeSolo_27 rfl rfl ?_
    refine x_if_eq 37 d_SG_takeSolo_28 (by decide) (fun _ => ?_) (fun z => absurd (show (0 : Int32) = 0 from rfl) z)
    refine x_iload_n d_SG_takeSolo_37 rfl rfl ?_
    refine x_callS1Y d_SG_takeSolo_38 k_SG_160 w_SG_soloSign (Nat.le_of_ble_eq_true rfl) (Nat.le_of_ble_eq_true rfl) (Nat.le_of_ble_eq_true rfl) (Nat.le_of_ble_eq_true rfl) (Nat.le_of_ble_eq_true rfl) rfl ?_
    refine x_astore_n d_SG_takeSolo_41 rfl (Nat.le_of_ble_eq_true rfl) ?_
    refine x_aload_n d_SG_takeSolo_42 rfl rfl ?_
    refine x_gSN (i := 11) d_SG_takeSolo_43 (by decide) s_SG_15 ?_
    refine x_acmp_ne 53 d_SG_takeSolo_46 (by decide) (Or.inl ⟨rfl, rfl⟩) (by first | assumption | decide | omega) (by first | assumption | decide | omega) (fun c_46 => ?_) (fun c_46 => ?_)
    · refine x_aload_n d_SG_takeSolo_53 rfl rfl ?_
      refine x_get d_SG_takeSolo_54 f_SG_46 (Nat.le_of_ble_eq_true rfl) (Nat.le_of_ble_eq_true rfl) (by first | rfl | assumption) (by rfl) ?_
      refine x_iload_n d_SG_takeSolo_57 rfl rfl ?_
      refine x_if_eq 65 d_SG_takeSolo_58 (by decide) (fun _ => ?_) (fun z => absurd (show (0 : Int32) = 0 from rfl) z)
      refine x_iconst 1 d_SG_takeSolo_65 (by decide) ?_
      refine x_iadd d_SG_takeSolo_66 ?_
      refine x_topi (nI (p + 1)) (nI_succ p).symm ?_
      refine x_istore d_SG_takeSolo_67 (Nat.le_of_ble_eq_true rfl) ?_
      refine x_aload_n d_SG_takeSolo_69 rfl rfl ?_
      refine x_aload_n d_SG_takeSolo_70 rfl rfl ?_
      refine x_aload_n d_SG_takeSolo_71 rfl rfl ?_
      refine x_get d_SG_takeSolo_72 f_SG_46 (Nat.le_of_ble_eq_true rfl) (Nat.le_of_ble_eq_true rfl) (by first | rfl | assumption) (by rfl) ?_
      refine x_iload d_SG_takeSolo_75 rfl ?_
      refine x_iload d_SG_takeSolo_77 rfl ?_
      refine x_callV4Y d_SG_takeSolo_79 k_SG_53 (Nat.le_of_ble_eq_true rfl) (Nat.le_of_ble_eq_true rfl) (by first | rfl | assumption) (by rfl) (w_SG_take h3) (Nat.le_of_ble_eq_true rfl) (Nat.le_of_ble_eq_true rfl) (Nat.le_of_ble_eq_true rfl) (Nat.le_of_ble_eq_true rfl) (Nat.le_of_ble_eq_true rfl) rfl ?_
      exact x_return d_SG_takeSolo_82 rfl (x_YX1 (by rw [hb]; show (!decide (g_solo c = 12)) = true; rw [decide_eq_false (fun q => c_46 (((g_sg12 _ (g_soloR c)).1).mpr q))]; rfl) (fun _ _ => by rw [hb]; rfl))
    · refine x_aload_n d_SG_takeSolo_49 rfl rfl ?_
      exact x_callV0X d_SG_takeSolo_50 k_SG_93 (Nat.le_of_ble_eq_true rfl) (Nat.le_of_ble_eq_true rfl) (by first | rfl | assumption) (by rfl) (w_SG_breakHere (by first | rfl | assumption)) (Nat.le_of_ble_eq_true rfl) (Nat.le_of_ble_eq_true rfl) (Nat.le_of_ble_eq_true rfl) (Nat.le_of_ble_eq_true rfl) (Nat.le_of_ble_eq_true rfl) rfl (fun h2 e2 => x_YX0 (by rw [hb]; show (!decide (g_solo c = 12)) = false; rw [((g_sg12 _ (g_soloR c)).1).mp c_46]; rfl) e2)
  show x_W E M_SG_takeSolo _ _ 52 h 0 [(0, .ref 3), (1, .int c)] [] 0 0
  refine x_iload_n d_SG_takeSolo_0 rfl rfl ?_
  refine x_bipush 91 d_SG_takeSolo_1 (by decide) ?_
  refine x_icmp_ne 25 d_SG_takeSolo_3 (by decide) (fun c_3 => ?_) (fun c_3 => ?_)
  · refine x_iconst 0 d_SG_takeSolo_25 (by decide) ?_
    refine x_istore_n d_SG_takeSolo_26 rfl (Nat.le_of_ble_eq_true rfl) ?_
    exact hF (by simp [c_3])
  · refine x_aload_n d_SG_takeSolo_6 rfl rfl ?_
    refine x_aload_n d_SG_takeSolo_7 rfl rfl ?_
    refine x_get d_SG_takeSolo_8 f_SG_46 (Nat.le_of_ble_eq_true rfl) (Nat.le_of_ble_eq_true rfl) (by first | rfl | assumption) (by rfl) ?_
    refine x_iconst 1 d_SG_takeSolo_11 (by decide) ?_
    refine x_iadd d_SG_takeSolo_12 ?_
    refine x_topi (nI (p + 1)) (nI_succ p).symm ?_
    refine x_callV1Y d_SG_takeSolo_13 k_SG_49 (Nat.le_of_ble_eq_true rfl) (Nat.le_of_ble_eq_true rfl) (by first | rfl | assumption) (by rfl) (w_SG_at (by first | rfl | assumption) (by first | rfl | assumption) hu hN (by omega)) (Nat.le_of_ble_eq_true rfl) (Nat.le_of_ble_eq_true rfl) (Nat.le_of_ble_eq_true rfl) (Nat.le_of_ble_eq_true rfl) (Nat.le_of_ble_eq_true rfl) rfl ?_
    refine x_bipush 93 d_SG_takeSolo_16 (by decide) ?_
    refine x_icmp_ne 25 d_SG_takeSolo_18 (by decide) (fun c_18 => ?_) (fun c_18 => ?_)
    · refine x_iconst 0 d_SG_takeSolo_25 (by decide) ?_
      refine x_istore_n d_SG_takeSolo_26 rfl (Nat.le_of_ble_eq_true rfl) ?_
      exact hF (by simp [c_18])
    · refine x_iconst 1 d_SG_takeSolo_21 (by decide) ?_
      refine x_goto 26 d_SG_takeSolo_22 (by decide) ?_
      refine x_istore_n d_SG_takeSolo_26 rfl (Nat.le_of_ble_eq_true rfl) ?_
      exact hE (by simp [c_3, c_18])
/-- the digits: end, first that counts, value (grows no more from 2^53 on) -/
def g_dv (c : Int32) : Nat := c.toNatClampNeg - 48
def g_dg (a : Nat → Int32) : Nat → Nat → Nat → Nat → Nat × Nat × Nat
  | 0, i, f, v => (i, f, v)
  | m + 1, i, f, v => bif g_dig (a i) then g_dg a m (i + 1) (if v = 0 then i else f) (if v < 9007199254740992 then 10 * v + g_dv (a i) else v) else (i, f, v)
theorem g_dg1 {a : Nat → Int32} {m i f v : Nat} (h : ¬ g_b2 (g_dig (a i)) = 0) : g_dg a (m + 1) i f v = g_dg a m (i + 1) (if v = 0 then i else f) (if v < 9007199254740992 then 10 * v + g_dv (a i) else v) := by
  rw [g_dg, g_b2n h]; rfl
theorem g_dg0 {a : Nat → Int32} {m i f v : Nat} (h : g_b2 (g_dig (a i)) = 0) : g_dg a m i f v = (i, f, v) := by
  cases m with
  | zero => rfl
  | succ m => rw [g_dg, g_b2z h]; rfl
theorem g_digN : ∀ w, w < 256 → g_dig (nI w) = true → 48 ≤ w ∧ w ≤ 57 := by decide +kernel
theorem g_digA {u : Nat → Nat} {N i : Nat} (hu : ∀ i, u i < 256) (h : ¬ g_b2 (g_dig (g_at u N i)) = 0) : i < N ∧ 48 ≤ u i ∧ u i ≤ 57 ∧ g_at u N i = nI (u i) := by
  have hb := g_b2n h
  rcases Nat.lt_or_ge i N with q | q
  · rw [g_at_in q] at hb
    exact ⟨q, (g_digN _ (hu i) hb).1, (g_digN _ (hu i) hb).2, g_at_in q⟩
  · rw [g_at_out q] at hb
    exact absurd hb (by decide)
theorem g_dgv {u : Nat → Nat} {N i v : Nat} (hu : ∀ i, u i < 256) (h : ¬ g_b2 (g_dig (g_at u N i)) = 0) : lN v * 10 + (g_at u N i).toInt64 - 48 = lN (10 * v + g_dv (g_at u N i)) := by
  obtain ⟨h1, h2, h3, h4⟩ := g_digA hu h
  rw [g_dv, h4, nI_clamp (by omega), nI_l (by omega), show (10 : Int64) = lN 10 from rfl, show (48 : Int64) = lN 48 from rfl, lN_mul, lN_add, lN_sub (by omega)]
  congr 1
  omega
theorem g_dvb {u : Nat → Nat} {N i : Nat} (hu : ∀ i, u i < 256) (h : ¬ g_b2 (g_dig (g_at u N i)) = 0) : g_dv (g_at u N i) ≤ 9 := by
  obtain ⟨h1, h2, h3, h4⟩ := g_digA hu h
  rw [g_dv, h4, nI_clamp (by omega)]
  omega
theorem g_cz {v : Nat} (hv : v < 2 ^ 63) : lg_cmp (lN v) 0 = 0 ↔ v = 0 := (lg_cmp_eq _ _).trans (pk_lEQ (b := 0) hv (by decide))
theorem g_cG {v : Nat} (hv : v < 2 ^ 63) : lg_cmp (lN v) 9007199254740991 ≤ 0 ↔ v < 9007199254740992 := (lg_cmp_le _ _).trans ((pk_lLE (b := 9007199254740991) hv (by decide)).trans (by omega))
theorem d_SG_takeInteger_0 : decode M_SG_takeInteger.2.1 0 = .ok (.aload_n 0, 1) := by decide +kernel
theorem d_SG_takeInteger_1 : decode M_SG_takeInteger.2.1 1 = .ok (.getfield 46, 3) := by decide +kernel
theorem d_SG_takeInteger_4 : decode M_SG_takeInteger.2.1 4 = .ok (.istore_n 1, 1) := by decide +kernel
theorem d_SG_takeInteger_5 : decode M_SG_takeInteger.2.1 5 = .ok (.lconst 0, 1) := by decide +kernel
theorem d_SG_takeInteger_6 : decode M_SG_takeInteger.2.1 6 = .ok (.lstore_n 2, 1) := by decide +kernel
theorem d_SG_takeInteger_7 : decode M_SG_takeInteger.2.1 7 = .ok (.aload_n 0, 1) := by decide +kernel
theorem d_SG_takeInteger_8 : decode M_SG_takeInteger.2.1 8 = .ok (.getfield 46, 3) := by decide +kernel
theorem d_SG_takeInteger_11 : decode M_SG_takeInteger.2.1 11 = .ok (.istore 4, 2) := by decide +kernel
theorem d_SG_takeInteger_13 : decode M_SG_takeInteger.2.1 13 = .ok (.iload 4, 2) := by decide +kernel
theorem d_SG_takeInteger_15 : decode M_SG_takeInteger.2.1 15 = .ok (.aload_n 0, 1) := by decide +kernel
theorem d_SG_takeInteger_16 : decode M_SG_takeInteger.2.1 16 = .ok (.getfield 34, 3) := by decide +kernel
theorem d_SG_takeInteger_19 : decode M_SG_takeInteger.2.1 19 = .ok (.if_icmp .ge 60, 3) := by decide +kernel
theorem d_SG_takeInteger_22 : decode M_SG_takeInteger.2.1 22 = .ok (.aload_n 0, 1) := by decide +kernel
theorem d_SG_takeInteger_23 : decode M_SG_takeInteger.2.1 23 = .ok (.iload 4, 2) := by decide +kernel
theorem d_SG_takeInteger_25 : decode M_SG_takeInteger.2.1 25 = .ok (.invokevirtual 49, 3) := by decide +kernel
theorem d_SG_takeInteger_28 : decode M_SG_takeInteger.2.1 28 = .ok (.invokestatic 57, 3) := by decide +kernel
theorem d_SG_takeInteger_31 : decode M_SG_takeInteger.2.1 31 = .ok (.ifCond .eq 48, 3) := by decide +kernel
theorem d_SG_takeInteger_34 : decode M_SG_takeInteger.2.1 34 = .ok (.lload_n 2, 1) := by decide +kernel
theorem d_SG_takeInteger_35 : decode M_SG_takeInteger.2.1 35 = .ok (.lconst 0, 1) := by decide +kernel
theorem d_SG_takeInteger_36 : decode M_SG_takeInteger.2.1 36 = .ok (.lcmp, 1) := by decide +kernel
theorem d_SG_takeInteger_37 : decode M_SG_takeInteger.2.1 37 = .ok (.ifCond .ne 6, 3) := by decide +kernel
theorem d_SG_takeInteger_40 : decode M_SG_takeInteger.2.1 40 = .ok (.iload 4, 2) := by decide +kernel
theorem d_SG_takeInteger_42 : decode M_SG_takeInteger.2.1 42 = .ok (.istore_n 1, 1) := by decide +kernel
theorem d_SG_takeInteger_43 : decode M_SG_takeInteger.2.1 43 = .ok (.lload_n 2, 1) := by decide +kernel
theorem d_SG_takeInteger_44 : decode M_SG_takeInteger.2.1 44 = .ok (.ldc2_w 151, 3) := by decide +kernel
theorem d_SG_takeInteger_47 : decode M_SG_takeInteger.2.1 47 = .ok (.lcmp, 1) := by decide +kernel
theorem d_SG_takeInteger_48 : decode M_SG_takeInteger.2.1 48 = .ok (.ifCond .le 7, 3) := by decide +kernel
theorem d_SG_takeInteger_51 : decode M_SG_takeInteger.2.1 51 = .ok (.lload_n 2, 1) := by decide +kernel
theorem d_SG_takeInteger_52 : decode M_SG_takeInteger.2.1 52 = .ok (.goto 20, 3) := by decide +kernel
theorem d_SG_takeInteger_55 : decode M_SG_takeInteger.2.1 55 = .ok (.lload_n 2, 1) := by decide +kernel
theorem d_SG_takeInteger_56 : decode M_SG_takeInteger.2.1 56 = .ok (.ldc2_w 153, 3) := by decide +kernel
theorem d_SG_takeInteger_59 : decode M_SG_takeInteger.2.1 59 = .ok (.lmul, 1) := by decide +kernel
theorem d_SG_takeInteger_60 : decode M_SG_takeInteger.2.1 60 = .ok (.aload_n 0, 1) := by decide +kernel
theorem d_SG_takeInteger_61 : decode M_SG_takeInteger.2.1 61 = .ok (.iload 4, 2) := by decide +kernel
theorem d_SG_takeInteger_63 : decode M_SG_takeInteger.2.1 63 = .ok (.invokevirtual 49, 3) := by decide +kernel
theorem d_SG_takeInteger_66 : decode M_SG_takeInteger.2.1 66 = .ok (.i2l, 1) := by decide +kernel
theorem d_SG_takeInteger_67 : decode M_SG_takeInteger.2.1 67 = .ok (.ladd, 1) := by decide +kernel
theorem d_SG_takeInteger_68 : decode M_SG_takeInteger.2.1 68 = .ok (.ldc2_w 155, 3) := by decide +kernel
theorem d_SG_takeInteger_71 : decode M_SG_takeInteger.2.1 71 = .ok (.lsub, 1) := by decide +kernel
theorem d_SG_takeInteger_72 : decode M_SG_takeInteger.2.1 72 = .ok (.lstore_n 2, 1) := by decide +kernel
theorem d_SG_takeInteger_73 : decode M_SG_takeInteger.2.1 73 = .ok (.iinc 4 1, 3) := by decide +kernel
theorem d_SG_takeInteger_76 : decode M_SG_takeInteger.2.1 76 = .ok (.goto (-63), 3) := by decide +kernel
theorem d_SG_takeInteger_79 : decode M_SG_takeInteger.2.1 79 = .ok (.lload_n 2, 1) := by decide +kernel
theorem d_SG_takeInteger_80 : decode M_SG_takeInteger.2.1 80 = .ok (.ldc2_w 151, 3) := by decide +kernel
theorem d_SG_takeInteger_83 : decode M_SG_takeInteger.2.1 83 = .ok (.lcmp, 1) := by decide +kernel
theorem d_SG_takeInteger_84 : decode M_SG_takeInteger.2.1 84 = .ok (.ifCond .le 7, 3) := by decide +kernel
theorem d_SG_takeInteger_87 : decode M_SG_takeInteger.2.1 87 = .ok (.aload_n 0, 1) := by decide +kernel
theorem d_SG_takeInteger_88 : decode M_SG_takeInteger.2.1 88 = .ok (.invokevirtual 93, 3) := by decide +kernel
theorem d_SG_takeInteger_91 : decode M_SG_takeInteger.2.1 91 = .ok (.aload_n 0, 1) := by decide +kernel
theorem d_SG_takeInteger_92 : decode M_SG_takeInteger.2.1 92 = .ok (.getstatic 139, 3) := by decide +kernel
theorem d_SG_takeInteger_95 : decode M_SG_takeInteger.2.1 95 = .ok (.iload_n 1, 1) := by decide +kernel
theorem d_SG_takeInteger_96 : decode M_SG_takeInteger.2.1 96 = .ok (.iload 4, 2) := by decide +kernel
theorem d_SG_takeInteger_98 : decode M_SG_takeInteger.2.1 98 = .ok (.iload 4, 2) := by decide +kernel
theorem d_SG_takeInteger_100 : decode M_SG_takeInteger.2.1 100 = .ok (.invokevirtual 53, 3) := by decide +kernel
theorem d_SG_takeInteger_103 : decode M_SG_takeInteger.2.1 103 = .ok (.return_, 1) := by decide +kernel
set_option maxRecDepth 20000 in
theorem w_SG_takeInteger {E : xR} {h : xH} {u : Nat → Nat} {N : Nat} {p e f v : Nat} {w2 w3 w5 w6 w7 : Value} (h3 : h 3 = .inr (2, [.ref 1, .int (nI N), w2, w3, .int (nI p), w5, w6, w7])) (h1 : h 1 = .inl (1, 4096, .inl (fun i => g_sb (u i)))) (hu : ∀ i, u i < 256) (hN : N ≤ 4096) (hp : p < N) (he : g_dg (g_at u N) (N - p) p p 0 = (e, f, v)) : x_Mt E M_SG_takeInteger 7 1 6 [.ref 3] 52 h (x_YX (decide (v < 9007199254740992)) none (x_up h 3 (.inr (2, [.ref 1, .int (nI N), .int (nI e), .ref (1000000 + 1), .int (nI p), .int (nI f), .int (nI e), w7]))) 2 (x_up h 3 (.inr (2, [.ref 1, .int (nI N), w2, w3, .int (nI p), w5, w6, .int (nI p)])))) := by
  refine x_Mt.of (by decide) (Nat.le_of_ble_eq_true rfl) ?_
  have hend : v < 2 ^ 63 → x_W E M_SG_takeInteger (x_room 7 1 6) (x_YX (decide (v < 9007199254740992)) none (x_up h 3 (.inr (2, [.ref 1, .int (nI N), .int (nI e), .ref (1000000 + 1), .int (nI p), .int (nI f), .int (nI e), w7]))) 2 (x_up h 3 (.inr (2, [.ref 1, .int (nI N), w2, w3, .int (nI p), w5, w6, .int (nI p)])))) 52 h 79 [(0, .ref 3), (1, .int (nI f)), (2, .long (lN v)), (4, .int (nI e))] [] 0 0 := by
    intro hv
    refine x_lload_n d_SG_takeInteger_79 rfl rfl ?_
    refine x_ldc2 d_SG_takeInteger_80 s_SG_151 ?_
    refine x_lcmp d_SG_takeInteger_83 ?_
    refine x_if_le 91 d_SG_takeInteger_84 (by decide) (fun c_84 => ?_) (fun c_84 => ?_)
    · refine x_aload_n d_SG_takeInteger_91 rfl rfl ?_
      refine x_gSN (i := 1) d_SG_takeInteger_92 (by decide) s_SG_139 ?_
      refine x_iload_n d_SG_takeInteger_95 rfl rfl ?_
      refine x_iload d_SG_takeInteger_96 rfl ?_
      refine x_iload d_SG_takeInteger_98 rfl ?_
      refine x_callV4Y d_SG_takeInteger_100 k_SG_53 (Nat.le_of_ble_eq_true rfl) (Nat.le_of_ble_eq_true rfl) (by first | rfl | assumption) (by rfl) (w_SG_take h3) (Nat.le_of_ble_eq_true rfl) (Nat.le_of_ble_eq_true rfl) (Nat.le_of_ble_eq_true rfl) (Nat.le_of_ble_eq_true rfl) (Nat.le_of_ble_eq_true rfl) rfl ?_
      exact x_return d_SG_takeInteger_103 rfl (x_YX1 (decide_eq_true ((g_cG hv).mp c_84)) (fun _ _ => rfl))
    · refine x_aload_n d_SG_takeInteger_87 rfl rfl ?_
      exact x_callV0X d_SG_takeInteger_88 k_SG_93 (Nat.le_of_ble_eq_true rfl) (Nat.le_of_ble_eq_true rfl) (by first | rfl | assumption) (by rfl) (w_SG_breakHere (by first | rfl | assumption)) (Nat.le_of_ble_eq_true rfl) (Nat.le_of_ble_eq_true rfl) (Nat.le_of_ble_eq_true rfl) (Nat.le_of_ble_eq_true rfl) (Nat.le_of_ble_eq_true rfl) rfl (fun h2 e2 => x_YX0 (decide_eq_false fun q => c_84 ((g_cG hv).mpr q)) e2)
  have hloop : ∀ m i f0 v0, i + m = N → v0 < 90071992547409930 → g_dg (g_at u N) m i f0 v0 = (e, f, v) → x_W E M_SG_takeInteger (x_room 7 1 6) (x_YX (decide (v < 9007199254740992)) none (x_up h 3 (.inr (2, [.ref 1, .int (nI N), .int (nI e), .ref (1000000 + 1), .int (nI p), .int (nI f), .int (nI e), w7]))) 2 (x_up h 3 (.inr (2, [.ref 1, .int (nI N), w2, w3, .int (nI p), w5, w6, .int (nI p)])))) 52 h 13 [(0, .ref 3), (1, .int (nI f0)), (2, .long (lN v0)), (4, .int (nI i))] [] 0 0 := by
    intro m
    induction m with
    | zero =>
      intro i f0 v0 hi hv he
      obtain rfl : i = N := by omega
      rw [g_dg] at he
      refine x_iload d_SG_takeInteger_13 rfl ?_
      refine x_aload_n d_SG_takeInteger_15 rfl rfl ?_
      refine x_get d_SG_takeInteger_16 f_SG_34 (Nat.le_of_ble_eq_true rfl) (Nat.le_of_ble_eq_true rfl) (by first | rfl | assumption) (by rfl) ?_
      refine x_icmp_ge 79 d_SG_takeInteger_19 (by decide) (fun _ => ?_) (fun z => absurd (nI_le (Nat.le_refl _) (by omega)) z)
      simp only [Prod.mk.injEq] at he
      obtain ⟨rfl, rfl, rfl⟩ := he
      exact hend (by omega)
    | succ m ih =>
      intro i f0 v0 hi hv he
      refine x_iload d_SG_takeInteger_13 rfl ?_
      refine x_aload_n d_SG_takeInteger_15 rfl rfl ?_
      refine x_get d_SG_takeInteger_16 f_SG_34 (Nat.le_of_ble_eq_true rfl) (Nat.le_of_ble_eq_true rfl) (by first | rfl | assumption) (by rfl) ?_
      refine x_icmp_ge 79 d_SG_takeInteger_19 (by decide) (fun z => absurd z (nI_ge (by omega) (by omega))) (fun _ => ?_)
      refine x_aload_n d_SG_takeInteger_22 rfl rfl ?_
      refine x_iload d_SG_takeInteger_23 rfl ?_
      refine x_callV1Y d_SG_takeInteger_25 k_SG_49 (Nat.le_of_ble_eq_true rfl) (Nat.le_of_ble_eq_true rfl) (by first | rfl | assumption) (by rfl) (w_SG_at (by first | rfl | assumption) (by first | rfl | assumption) hu hN (by omega)) (Nat.le_of_ble_eq_true rfl) (Nat.le_of_ble_eq_true rfl) (Nat.le_of_ble_eq_true rfl) (Nat.le_of_ble_eq_true rfl) (Nat.le_of_ble_eq_true rfl) rfl ?_
      refine x_callS1Y d_SG_takeInteger_28 k_SG_57 w_SG_isDigit (Nat.le_of_ble_eq_true rfl) (Nat.le_of_ble_eq_true rfl) (Nat.le_of_ble_eq_true rfl) (Nat.le_of_ble_eq_true rfl) (Nat.le_of_ble_eq_true rfl) rfl ?_
      refine x_if_eq 79 d_SG_takeInteger_31 (by decide) (fun c_31 => ?_) (fun c_31 => ?_)
      · rw [g_dg0 c_31] at he
        simp only [Prod.mk.injEq] at he
        obtain ⟨rfl, rfl, rfl⟩ := he
        exact hend (by omega)
      · refine x_lload_n d_SG_takeInteger_34 rfl rfl ?_
        refine x_lconst 0 d_SG_takeInteger_35 (by decide) ?_
        refine x_lcmp d_SG_takeInteger_36 ?_
        refine x_if_ne 43 d_SG_takeInteger_37 (by decide) (fun c_37 => ?_) (fun c_37 => ?_)
        · refine x_lload_n d_SG_takeInteger_43 rfl rfl ?_
          refine x_ldc2 d_SG_takeInteger_44 s_SG_151 ?_
          refine x_lcmp d_SG_takeInteger_47 ?_
          refine x_if_le 55 d_SG_takeInteger_48 (by decide) (fun c_48 => ?_) (fun c_48 => ?_)
          · refine x_lload_n d_SG_takeInteger_55 rfl rfl ?_
            refine x_ldc2 d_SG_takeInteger_56 s_SG_153 ?_
            refine x_lmul d_SG_takeInteger_59 ?_
            refine x_aload_n d_SG_takeInteger_60 rfl rfl ?_
            refine x_iload d_SG_takeInteger_61 rfl ?_
            refine x_callV1Y d_SG_takeInteger_63 k_SG_49 (Nat.le_of_ble_eq_true rfl) (Nat.le_of_ble_eq_true rfl) (by first | rfl | assumption) (by rfl) (w_SG_at (by first | rfl | assumption) (by first | rfl | assumption) hu hN (by omega)) (Nat.le_of_ble_eq_true rfl) (Nat.le_of_ble_eq_true rfl) (Nat.le_of_ble_eq_true rfl) (Nat.le_of_ble_eq_true rfl) (Nat.le_of_ble_eq_true rfl) rfl ?_
            refine x_i2l d_SG_takeInteger_66 ?_
            refine x_ladd d_SG_takeInteger_67 ?_
            refine x_ldc2 d_SG_takeInteger_68 s_SG_155 ?_
            refine x_lsub d_SG_takeInteger_71 ?_
            refine x_topl _ (g_dgv hu c_31) ?_
            refine x_lstore_n d_SG_takeInteger_72 rfl (Nat.le_of_ble_eq_true rfl) ?_
            refine x_iinc d_SG_takeInteger_73 rfl 1 (by decide) (Nat.le_of_ble_eq_true rfl) ?_
            refine x_goto 13 d_SG_takeInteger_76 (by decide) ?_
            refine x_lv [(0, .ref 3), (1, .int (nI f0)), (2, .long (lN (10 * v0 + g_dv ((g_at u N) i)))), (4, .int (nI (i + 1)))] (by rw [nI_succ i]; rfl) ?_
            rw [g_dg1 c_31, if_neg (fun q => c_37 ((g_cz (by omega)).mpr q)), if_pos ((g_cG (by omega)).mp c_48)] at he
            exact ih (i + 1) _ _ (by omega) (by first | omega | (have := g_dvb (N := N) hu c_31; have := (g_cG (v := v0) (by omega)).mp c_48; omega)) he
          · refine x_lload_n d_SG_takeInteger_51 rfl rfl ?_
            refine x_goto 72 d_SG_takeInteger_52 (by decide) ?_
            refine x_lstore_n d_SG_takeInteger_72 rfl (Nat.le_of_ble_eq_true rfl) ?_
            refine x_iinc d_SG_takeInteger_73 rfl 1 (by decide) (Nat.le_of_ble_eq_true rfl) ?_
            refine x_goto 13 d_SG_takeInteger_76 (by decide) ?_
            refine x_lv [(0, .ref 3), (1, .int (nI f0)), (2, .long (lN v0)), (4, .int (nI (i + 1)))] (by rw [nI_succ i]; rfl) ?_
            rw [g_dg1 c_31, if_neg (fun q => c_37 ((g_cz (by omega)).mpr q)), if_neg (fun q => c_48 ((g_cG (by omega)).mpr q))] at he
            exact ih (i + 1) _ _ (by omega) (by first | omega | (have := g_dvb (N := N) hu c_31; have := (g_cG (v := v0) (by omega)).mp c_48; omega)) he
        · refine x_iload d_SG_takeInteger_40 rfl ?_
          refine x_istore_n d_SG_takeInteger_42 rfl (Nat.le_of_ble_eq_true rfl) ?_
          refine x_lload_n d_SG_takeInteger_43 rfl rfl ?_
          refine x_ldc2 d_SG_takeInteger_44 s_SG_151 ?_
          refine x_lcmp d_SG_takeInteger_47 ?_
          refine x_if_le 55 d_SG_takeInteger_48 (by decide) (fun c_48 => ?_) (fun c_48 => ?_)
          · refine x_lload_n d_SG_takeInteger_55 rfl rfl ?_
            refine x_ldc2 d_SG_takeInteger_56 s_SG_153 ?_
            refine x_lmul d_SG_takeInteger_59 ?_
            refine x_aload_n d_SG_takeInteger_60 rfl rfl ?_
            refine x_iload d_SG_takeInteger_61 rfl ?_
            refine x_callV1Y d_SG_takeInteger_63 k_SG_49 (Nat.le_of_ble_eq_true rfl) (Nat.le_of_ble_eq_true rfl) (by first | rfl | assumption) (by rfl) (w_SG_at (by first | rfl | assumption) (by first | rfl | assumption) hu hN (by omega)) (Nat.le_of_ble_eq_true rfl) (Nat.le_of_ble_eq_true rfl) (Nat.le_of_ble_eq_true rfl) (Nat.le_of_ble_eq_true rfl) (Nat.le_of_ble_eq_true rfl) rfl ?_
            refine x_i2l d_SG_takeInteger_66 ?_
            refine x_ladd d_SG_takeInteger_67 ?_
            refine x_ldc2 d_SG_takeInteger_68 s_SG_155 ?_
            refine x_lsub d_SG_takeInteger_71 ?_
            refine x_topl _ (g_dgv hu c_31) ?_
            refine x_lstore_n d_SG_takeInteger_72 rfl (Nat.le_of_ble_eq_true rfl) ?_
            refine x_iinc d_SG_takeInteger_73 rfl 1 (by decide) (Nat.le_of_ble_eq_true rfl) ?_
            refine x_goto 13 d_SG_takeInteger_76 (by decide) ?_
            refine x_lv [(0, .ref 3), (1, .int (nI i)), (2, .long (lN (10 * v0 + g_dv ((g_at u N) i)))), (4, .int (nI (i + 1)))] (by rw [nI_succ i]; rfl) ?_
            rw [g_dg1 c_31, if_pos ((g_cz (by omega)).mp c_37), if_pos ((g_cG (by omega)).mp c_48)] at he
            exact ih (i + 1) _ _ (by omega) (by first | omega | (have := g_dvb (N := N) hu c_31; have := (g_cG (v := v0) (by omega)).mp c_48; omega)) he
          · refine x_lload_n d_SG_takeInteger_51 rfl rfl ?_
            refine x_goto 72 d_SG_takeInteger_52 (by decide) ?_
            refine x_lstore_n d_SG_takeInteger_72 rfl (Nat.le_of_ble_eq_true rfl) ?_
            refine x_iinc d_SG_takeInteger_73 rfl 1 (by decide) (Nat.le_of_ble_eq_true rfl) ?_
            refine x_goto 13 d_SG_takeInteger_76 (by decide) ?_
            refine x_lv [(0, .ref 3), (1, .int (nI i)), (2, .long (lN v0)), (4, .int (nI (i + 1)))] (by rw [nI_succ i]; rfl) ?_
            rw [g_dg1 c_31, if_pos ((g_cz (by omega)).mp c_37), if_neg (fun q => c_48 ((g_cG (by omega)).mpr q))] at he
            exact ih (i + 1) _ _ (by omega) (by first | omega | (have := g_dvb (N := N) hu c_31; have := (g_cG (v := v0) (by omega)).mp c_48; omega)) he
  show x_W E M_SG_takeInteger _ _ 52 h 0 [(0, .ref 3)] [] 0 0
  refine x_aload_n d_SG_takeInteger_0 rfl rfl ?_
  refine x_get d_SG_takeInteger_1 f_SG_46 (Nat.le_of_ble_eq_true rfl) (Nat.le_of_ble_eq_true rfl) (by first | rfl | assumption) (by rfl) ?_
  refine x_istore_n d_SG_takeInteger_4 rfl (Nat.le_of_ble_eq_true rfl) ?_
  refine x_lconst 0 d_SG_takeInteger_5 (by decide) ?_
  refine x_lstore_n d_SG_takeInteger_6 rfl (Nat.le_of_ble_eq_true rfl) ?_
  refine x_aload_n d_SG_takeInteger_7 rfl rfl ?_
  refine x_get d_SG_takeInteger_8 f_SG_46 (Nat.le_of_ble_eq_true rfl) (Nat.le_of_ble_eq_true rfl) (by first | rfl | assumption) (by rfl) ?_
  refine x_istore d_SG_takeInteger_11 (Nat.le_of_ble_eq_true rfl) ?_
  exact hloop (N - p) p p 0 (by omega) (by decide) he
