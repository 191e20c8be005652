/-- comes back, with a value and a world of which P holds -/
def x_YE (P : Option Value → xH → Prop) : xK := fun o n' h' k j => ∃ v h1, o = .inl v ∧ n' = 52 ∧ k = 0 ∧ j = 0 ∧ P v h1 ∧ ∀ i, i < 52 → h' i = h1 i
theorem x_YEi {P : Option Value → xH → Prop} {v : Option Value} {h' : xH} (h1 : xH) (hp : P v h1) (e : ∀ i, i < 52 → h' i = h1 i) : x_YE P (.inl v) 52 h' 0 0 := ⟨v, h1, rfl, rfl, rfl, rfl, hp, e⟩
theorem x_callV0E {E : xR} {M : xM} {R : Room} {Q : xK} {h : xH} {pc : Nat} {lv : List (Nat × Value)} {rest : List Value} {cells slots : Nat} {idx : Nat} {M' : xM} {d0 : Nat} {i ci N : Nat} {fs : List Value} {T : u_T} {P : Option Value → xH → Prop} (d : decode M.2.1 pc = .ok (.invokevirtual idx, 3)) (hk : x_CV M.1.cls idx M' 0) (hi : i < 52) (hlo1 : i < 1000000) (hc : h i = .inr (ci, fs)) (hcc : x_Cl[ci]? = some (M'.1.cls, T, N)) (hM : x_Mt E M' d0 0 0 [.ref i] 52 h (x_YE P)) (hfr : d0 + 1 ≤ R.frames) (hlo : 8 + (M'.2.2.1 + 11) + 64 * d0 ≤ R.locals) (hcl : cells ≤ R.cells) (hsl : slots ≤ R.slots) (hrs : (rest.map fun v => v.category).sum ≤ 8) (ho : M.2.2.2.2.all (fun t => !(decide (t.1 ≤ pc) && decide (pc < t.2.1))) = true) (kr : ∀ v h1, P v h1 → x_W E M R Q 52 h1 (pc + 3) lv (v.toList ++ rest) cells slots) : x_W E M R Q 52 h pc lv (.ref i :: rest) cells slots := by
  refine x_callV0 d hk hi hlo1 hc hcc hM hfr hlo hcl hsl hrs ho (fun _ v n' h' k j hq => ?_) (fun v n' h' k j hq => ?_) (fun q n' h' k j hq => ?_)
  · obtain ⟨v', h1, e1, e2, e3, e4, e5, e6⟩ := hq
    subst e2 e3; rfl
  · obtain ⟨v', h1, e1, e2, e3, e4, e5, e6⟩ := hq
    cases e1
    subst e2 e3 e4
    exact x_same e6 (kr v h1 e5)
  · obtain ⟨v', h1, e1, -⟩ := hq
    cases e1
theorem x_callV1E {E : xR} {M : xM} {R : Room} {Q : xK} {h : xH} {pc : Nat} {lv : List (Nat × Value)} {rest : List Value} {cells slots : Nat} {idx : Nat} {M' : xM} {d0 : Nat} {i ci N : Nat} {fs : List Value} {T : u_T} {a1 : Value} {P : Option Value → xH → Prop} (d : decode M.2.1 pc = .ok (.invokevirtual idx, 3)) (hk : x_CV M.1.cls idx M' 1) (hi : i < 52) (hlo1 : i < 1000000) (hc : h i = .inr (ci, fs)) (hcc : x_Cl[ci]? = some (M'.1.cls, T, N)) (hM : x_Mt E M' d0 0 0 [.ref i, a1] 52 h (x_YE P)) (hfr : d0 + 1 ≤ R.frames) (hlo : 8 + (M'.2.2.1 + 11) + 64 * d0 ≤ R.locals) (hcl : cells ≤ R.cells) (hsl : slots ≤ R.slots) (hrs : (rest.map fun v => v.category).sum ≤ 8) (ho : M.2.2.2.2.all (fun t => !(decide (t.1 ≤ pc) && decide (pc < t.2.1))) = true) (kr : ∀ v h1, P v h1 → x_W E M R Q 52 h1 (pc + 3) lv (v.toList ++ rest) cells slots) : x_W E M R Q 52 h pc lv (a1 :: .ref i :: rest) cells slots := by
  refine x_callV1 d hk hi hlo1 hc hcc hM hfr hlo hcl hsl hrs ho (fun _ v n' h' k j hq => ?_) (fun v n' h' k j hq => ?_) (fun q n' h' k j hq => ?_)
  · obtain ⟨v', h1, e1, e2, e3, e4, e5, e6⟩ := hq
    subst e2 e3; rfl
  · obtain ⟨v', h1, e1, e2, e3, e4, e5, e6⟩ := hq
    cases e1
    subst e2 e3 e4
    exact x_same e6 (kr v h1 e5)
  · obtain ⟨v', h1, e1, -⟩ := hq
    cases e1
theorem x_callV2E {E : xR} {M : xM} {R : Room} {Q : xK} {h : xH} {pc : Nat} {lv : List (Nat × Value)} {rest : List Value} {cells slots : Nat} {idx : Nat} {M' : xM} {d0 : Nat} {i ci N : Nat} {fs : List Value} {T : u_T} {a1 a2 : Value} {P : Option Value → xH → Prop} (d : decode M.2.1 pc = .ok (.invokevirtual idx, 3)) (hk : x_CV M.1.cls idx M' 2) (hi : i < 52) (hlo1 : i < 1000000) (hc : h i = .inr (ci, fs)) (hcc : x_Cl[ci]? = some (M'.1.cls, T, N)) (hM : x_Mt E M' d0 0 0 [.ref i, a1, a2] 52 h (x_YE P)) (hfr : d0 + 1 ≤ R.frames) (hlo : 8 + (M'.2.2.1 + 11) + 64 * d0 ≤ R.locals) (hcl : cells ≤ R.cells) (hsl : slots ≤ R.slots) (hrs : (rest.map fun v => v.category).sum ≤ 8) (ho : M.2.2.2.2.all (fun t => !(decide (t.1 ≤ pc) && decide (pc < t.2.1))) = true) (kr : ∀ v h1, P v h1 → x_W E M R Q 52 h1 (pc + 3) lv (v.toList ++ rest) cells slots) : x_W E M R Q 52 h pc lv (a2 :: a1 :: .ref i :: rest) cells slots := by
  refine x_callV2 d hk hi hlo1 hc hcc hM hfr hlo hcl hsl hrs ho (fun _ v n' h' k j hq => ?_) (fun v n' h' k j hq => ?_) (fun q n' h' k j hq => ?_)
  · obtain ⟨v', h1, e1, e2, e3, e4, e5, e6⟩ := hq
    subst e2 e3; rfl
  · obtain ⟨v', h1, e1, e2, e3, e4, e5, e6⟩ := hq
    cases e1
    subst e2 e3 e4
    exact x_same e6 (kr v h1 e5)
  · obtain ⟨v', h1, e1, -⟩ := hq
    cases e1
theorem x_callV3E {E : xR} {M : xM} {R : Room} {Q : xK} {h : xH} {pc : Nat} {lv : List (Nat × Value)} {rest : List Value} {cells slots : Nat} {idx : Nat} {M' : xM} {d0 : Nat} {i ci N : Nat} {fs : List Value} {T : u_T} {a1 a2 a3 : Value} {P : Option Value → xH → Prop} (d : decode M.2.1 pc = .ok (.invokevirtual idx, 3)) (hk : x_CV M.1.cls idx M' 3) (hi : i < 52) (hlo1 : i < 1000000) (hc : h i = .inr (ci, fs)) (hcc : x_Cl[ci]? = some (M'.1.cls, T, N)) (hM : x_Mt E M' d0 0 0 [.ref i, a1, a2, a3] 52 h (x_YE P)) (hfr : d0 + 1 ≤ R.frames) (hlo : 8 + (M'.2.2.1 + 11) + 64 * d0 ≤ R.locals) (hcl : cells ≤ R.cells) (hsl : slots ≤ R.slots) (hrs : (rest.map fun v => v.category).sum ≤ 8) (ho : M.2.2.2.2.all (fun t => !(decide (t.1 ≤ pc) && decide (pc < t.2.1))) = true) (kr : ∀ v h1, P v h1 → x_W E M R Q 52 h1 (pc + 3) lv (v.toList ++ rest) cells slots) : x_W E M R Q 52 h pc lv (a3 :: a2 :: a1 :: .ref i :: rest) cells slots := by
  refine x_callV3 d hk hi hlo1 hc hcc hM hfr hlo hcl hsl hrs ho (fun _ v n' h' k j hq => ?_) (fun v n' h' k j hq => ?_) (fun q n' h' k j hq => ?_)
  · obtain ⟨v', h1, e1, e2, e3, e4, e5, e6⟩ := hq
    subst e2 e3; rfl
  · obtain ⟨v', h1, e1, e2, e3, e4, e5, e6⟩ := hq
    cases e1
    subst e2 e3 e4
    exact x_same e6 (kr v h1 e5)
  · obtain ⟨v', h1, e1, -⟩ := hq
    cases e1
theorem x_callV4E {E : xR} {M : xM} {R : Room} {Q : xK} {h : xH} {pc : Nat} {lv : List (Nat × Value)} {rest : List Value} {cells slots : Nat} {idx : Nat} {M' : xM} {d0 : Nat} {i ci N : Nat} {fs : List Value} {T : u_T} {a1 a2 a3 a4 : Value} {P : Option Value → xH → Prop} (d : decode M.2.1 pc = .ok (.invokevirtual idx, 3)) (hk : x_CV M.1.cls idx M' 4) (hi : i < 52) (hlo1 : i < 1000000) (hc : h i = .inr (ci, fs)) (hcc : x_Cl[ci]? = some (M'.1.cls, T, N)) (hM : x_Mt E M' d0 0 0 [.ref i, a1, a2, a3, a4] 52 h (x_YE P)) (hfr : d0 + 1 ≤ R.frames) (hlo : 8 + (M'.2.2.1 + 11) + 64 * d0 ≤ R.locals) (hcl : cells ≤ R.cells) (hsl : slots ≤ R.slots) (hrs : (rest.map fun v => v.category).sum ≤ 8) (ho : M.2.2.2.2.all (fun t => !(decide (t.1 ≤ pc) && decide (pc < t.2.1))) = true) (kr : ∀ v h1, P v h1 → x_W E M R Q 52 h1 (pc + 3) lv (v.toList ++ rest) cells slots) : x_W E M R Q 52 h pc lv (a4 :: a3 :: a2 :: a1 :: .ref i :: rest) cells slots := by
  refine x_callV4 d hk hi hlo1 hc hcc hM hfr hlo hcl hsl hrs ho (fun _ v n' h' k j hq => ?_) (fun v n' h' k j hq => ?_) (fun q n' h' k j hq => ?_)
  · obtain ⟨v', h1, e1, e2, e3, e4, e5, e6⟩ := hq
    subst e2 e3; rfl
  · obtain ⟨v', h1, e1, e2, e3, e4, e5, e6⟩ := hq
    cases e1
    subst e2 e3 e4
    exact x_same e6 (kr v h1 e5)
  · obtain ⟨v', h1, e1, -⟩ := hq
    cases e1
theorem x_callV5E {E : xR} {M : xM} {R : Room} {Q : xK} {h : xH} {pc : Nat} {lv : List (Nat × Value)} {rest : List Value} {cells slots : Nat} {idx : Nat} {M' : xM} {d0 : Nat} {i ci N : Nat} {fs : List Value} {T : u_T} {a1 a2 a3 a4 a5 : Value} {P : Option Value → xH → Prop} (d : decode M.2.1 pc = .ok (.invokevirtual idx, 3)) (hk : x_CV M.1.cls idx M' 5) (hi : i < 52) (hlo1 : i < 1000000) (hc : h i = .inr (ci, fs)) (hcc : x_Cl[ci]? = some (M'.1.cls, T, N)) (hM : x_Mt E M' d0 0 0 [.ref i, a1, a2, a3, a4, a5] 52 h (x_YE P)) (hfr : d0 + 1 ≤ R.frames) (hlo : 8 + (M'.2.2.1 + 11) + 64 * d0 ≤ R.locals) (hcl : cells ≤ R.cells) (hsl : slots ≤ R.slots) (hrs : (rest.map fun v => v.category).sum ≤ 8) (ho : M.2.2.2.2.all (fun t => !(decide (t.1 ≤ pc) && decide (pc < t.2.1))) = true) (kr : ∀ v h1, P v h1 → x_W E M R Q 52 h1 (pc + 3) lv (v.toList ++ rest) cells slots) : x_W E M R Q 52 h pc lv (a5 :: a4 :: a3 :: a2 :: a1 :: .ref i :: rest) cells slots := by
  refine x_callV5 d hk hi hlo1 hc hcc hM hfr hlo hcl hsl hrs ho (fun _ v n' h' k j hq => ?_) (fun v n' h' k j hq => ?_) (fun q n' h' k j hq => ?_)
  · obtain ⟨v', h1, e1, e2, e3, e4, e5, e6⟩ := hq
    subst e2 e3; rfl
  · obtain ⟨v', h1, e1, e2, e3, e4, e5, e6⟩ := hq
    cases e1
    subst e2 e3 e4
    exact x_same e6 (kr v h1 e5)
  · obtain ⟨v', h1, e1, -⟩ := hq
    cases e1
theorem g_cH {v : Nat} (hv : v < 2 ^ 63) : 0 ≤ lg_cmp (lN v) 9007199254740992 ↔ 9007199254740992 ≤ v := (lg_cmp_ge _ _).trans (pk_lLE (a := 9007199254740992) (by decide) hv)
theorem g_sbDg : ∀ x, x < 256 → g_dig (nI x) = true → g_sb x = nI x ∧ 48 ≤ x ∧ x ≤ 57 := by decide +kernel
theorem g_dgw {u : Nat → Nat} {N i v : Nat} (hu : ∀ i, u i < 256) (h : ¬ g_b2 (g_dig (g_at u N i)) = 0) : 10 * lN v + (g_sb (u i)).toInt64 - 48 = lN (10 * v + g_dv (g_at u N i)) := by
  obtain ⟨h1, h2, h3, h4⟩ := g_digA hu h
  have h5 := g_b2n h
  rw [h4] at h5
  have h6 := (g_sbDg (u i) (hu i) h5).1
  rw [g_dv, h4, h6, nI_clamp (by omega), nI_l (by omega), show (10 : Int64) = lN 10 from rfl, show (48 : Int64) = lN 48 from rfl, lN_mul, lN_add, lN_sub (by omega)]
  congr 1
  omega
theorem d_RD_digits_0 : decode M_RD_digits.2.1 0 = .ok (.aload_n 0, 1) := by decide +kernel
theorem d_RD_digits_1 : decode M_RD_digits.2.1 1 = .ok (.lconst 0, 1) := by decide +kernel
theorem d_RD_digits_2 : decode M_RD_digits.2.1 2 = .ok (.putfield 174, 3) := by decide +kernel
theorem d_RD_digits_5 : decode M_RD_digits.2.1 5 = .ok (.aload_n 0, 1) := by decide +kernel
theorem d_RD_digits_6 : decode M_RD_digits.2.1 6 = .ok (.getfield 116, 3) := by decide +kernel
theorem d_RD_digits_9 : decode M_RD_digits.2.1 9 = .ok (.istore_n 1, 1) := by decide +kernel
theorem d_RD_digits_10 : decode M_RD_digits.2.1 10 = .ok (.aload_n 0, 1) := by decide +kernel
theorem d_RD_digits_11 : decode M_RD_digits.2.1 11 = .ok (.iload_n 1, 1) := by decide +kernel
theorem d_RD_digits_12 : decode M_RD_digits.2.1 12 = .ok (.invokevirtual 148, 3) := by decide +kernel
theorem d_RD_digits_15 : decode M_RD_digits.2.1 15 = .ok (.invokestatic 151, 3) := by decide +kernel
theorem d_RD_digits_18 : decode M_RD_digits.2.1 18 = .ok (.ifCond .eq 44, 3) := by decide +kernel
theorem d_RD_digits_21 : decode M_RD_digits.2.1 21 = .ok (.aload_n 0, 1) := by decide +kernel
theorem d_RD_digits_22 : decode M_RD_digits.2.1 22 = .ok (.getfield 174, 3) := by decide +kernel
theorem d_RD_digits_25 : decode M_RD_digits.2.1 25 = .ok (.ldc2_w 178, 3) := by decide +kernel
theorem d_RD_digits_28 : decode M_RD_digits.2.1 28 = .ok (.lcmp, 1) := by decide +kernel
theorem d_RD_digits_29 : decode M_RD_digits.2.1 29 = .ok (.ifCond .ge 27, 3) := by decide +kernel
theorem d_RD_digits_32 : decode M_RD_digits.2.1 32 = .ok (.aload_n 0, 1) := by decide +kernel
theorem d_RD_digits_33 : decode M_RD_digits.2.1 33 = .ok (.ldc2_w 180, 3) := by decide +kernel
theorem d_RD_digits_36 : decode M_RD_digits.2.1 36 = .ok (.aload_n 0, 1) := by decide +kernel
theorem d_RD_digits_37 : decode M_RD_digits.2.1 37 = .ok (.getfield 174, 3) := by decide +kernel
theorem d_RD_digits_40 : decode M_RD_digits.2.1 40 = .ok (.lmul, 1) := by decide +kernel
theorem d_RD_digits_41 : decode M_RD_digits.2.1 41 = .ok (.aload_n 0, 1) := by decide +kernel
theorem d_RD_digits_42 : decode M_RD_digits.2.1 42 = .ok (.getfield 89, 3) := by decide +kernel
theorem d_RD_digits_45 : decode M_RD_digits.2.1 45 = .ok (.iload_n 1, 1) := by decide +kernel
theorem d_RD_digits_46 : decode M_RD_digits.2.1 46 = .ok (.baload, 1) := by decide +kernel
theorem d_RD_digits_47 : decode M_RD_digits.2.1 47 = .ok (.i2l, 1) := by decide +kernel
theorem d_RD_digits_48 : decode M_RD_digits.2.1 48 = .ok (.ladd, 1) := by decide +kernel
theorem d_RD_digits_49 : decode M_RD_digits.2.1 49 = .ok (.ldc2_w 182, 3) := by decide +kernel
theorem d_RD_digits_52 : decode M_RD_digits.2.1 52 = .ok (.lsub, 1) := by decide +kernel
theorem d_RD_digits_53 : decode M_RD_digits.2.1 53 = .ok (.putfield 174, 3) := by decide +kernel
theorem d_RD_digits_56 : decode M_RD_digits.2.1 56 = .ok (.iinc 1 1, 3) := by decide +kernel
theorem d_RD_digits_59 : decode M_RD_digits.2.1 59 = .ok (.goto (-49), 3) := by decide +kernel
theorem d_RD_digits_62 : decode M_RD_digits.2.1 62 = .ok (.aload_n 0, 1) := by decide +kernel
theorem d_RD_digits_63 : decode M_RD_digits.2.1 63 = .ok (.aload_n 0, 1) := by decide +kernel
theorem d_RD_digits_64 : decode M_RD_digits.2.1 64 = .ok (.getfield 174, 3) := by decide +kernel
theorem d_RD_digits_67 : decode M_RD_digits.2.1 67 = .ok (.ldc2_w 178, 3) := by decide +kernel
theorem d_RD_digits_70 : decode M_RD_digits.2.1 70 = .ok (.lcmp, 1) := by decide +kernel
theorem d_RD_digits_71 : decode M_RD_digits.2.1 71 = .ok (.ifCond .ge 7, 3) := by decide +kernel
theorem d_RD_digits_74 : decode M_RD_digits.2.1 74 = .ok (.iconst 2, 1) := by decide +kernel
theorem d_RD_digits_75 : decode M_RD_digits.2.1 75 = .ok (.goto 5, 3) := by decide +kernel
theorem d_RD_digits_78 : decode M_RD_digits.2.1 78 = .ok (.bipush 12, 2) := by decide +kernel
theorem d_RD_digits_80 : decode M_RD_digits.2.1 80 = .ok (.iload_n 1, 1) := by decide +kernel
theorem d_RD_digits_81 : decode M_RD_digits.2.1 81 = .ok (.invokevirtual 158, 3) := by decide +kernel
theorem d_RD_digits_84 : decode M_RD_digits.2.1 84 = .ok (.return_, 1) := by decide +kernel
set_option maxRecDepth 20000 in
theorem w_RD_digits {E : xR} {h : xH} {u : Nat → Nat} {N : Nat} {bh tk oo lt tp pl vd kn rk : Int32} {nm : Int64} {Wd : Nat → Int32} {p e f v : Nat} (h22 : h 22 = .inl (1, 4096, .inl (fun i => g_sb (u i)))) (hu : ∀ i, u i < 256) (hN : N ≤ 4096) (hp : p < N) (he : g_dg (g_at u N) (N - p) p p 0 = (e, f, v)) : x_Mt E M_RD_digits 1 0 0 [.ref 36] 52 (g_rw h N (nI p) bh tk oo nm lt tp pl vd kn rk Wd) (x_Y none 52 (g_rw h N (nI p) (nI e) (nI (bif decide (v < 9007199254740992) then 2 else 12)) oo (lN v) lt tp pl vd kn rk Wd)) := by
  refine x_Mt.of (by decide) (Nat.le_of_ble_eq_true rfl) ?_
  have hend : v < 2 ^ 63 → x_W E M_RD_digits (x_room 1 0 0) (x_Y none 52 (g_rw h N (nI p) (nI e) (nI (bif decide (v < 9007199254740992) then 2 else 12)) oo (lN v) lt tp pl vd kn rk Wd)) 52 (g_rw h N (nI p) bh tk oo (lN v) lt tp pl vd kn rk Wd) 62 [(0, .ref 36), (1, .int (nI e))] [] 0 0 := by
    intro hv
    refine x_aload_n d_RD_digits_62 rfl rfl ?_
    refine x_aload_n d_RD_digits_63 rfl rfl ?_
    refine x_get d_RD_digits_64 f_RD_174 (Nat.le_of_ble_eq_true rfl) (Nat.le_of_ble_eq_true rfl) (by first | rfl | assumption) (by rfl) ?_
    refine x_ldc2 d_RD_digits_67 s_RD_178 ?_
    refine x_lcmp d_RD_digits_70 ?_
    refine x_if_ge 78 d_RD_digits_71 (by decide) (fun c_71 => ?_) (fun c_71 => ?_)
    · refine x_bipush 12 d_RD_digits_78 (by decide) ?_
      refine x_iload_n d_RD_digits_80 rfl rfl ?_
      refine x_callV2Y d_RD_digits_81 k_RD_158 (Nat.le_of_ble_eq_true rfl) (Nat.le_of_ble_eq_true rfl) (by first | rfl | assumption) (by rfl) w_RD_take (Nat.le_of_ble_eq_true rfl) (Nat.le_of_ble_eq_true rfl) (Nat.le_of_ble_eq_true rfl) (Nat.le_of_ble_eq_true rfl) (Nat.le_of_ble_eq_true rfl) rfl ?_
      exact x_return d_RD_digits_84 rfl ⟨rfl, rfl, fun _ _ => by rw [decide_eq_false (Nat.not_lt.mpr ((g_cH hv).mp c_71))]; rfl, rfl, rfl⟩
    · refine x_iconst 2 d_RD_digits_74 (by decide) ?_
      refine x_goto 80 d_RD_digits_75 (by decide) ?_
      refine x_iload_n d_RD_digits_80 rfl rfl ?_
      refine x_callV2Y d_RD_digits_81 k_RD_158 (Nat.le_of_ble_eq_true rfl) (Nat.le_of_ble_eq_true rfl) (by first | rfl | assumption) (by rfl) w_RD_take (Nat.le_of_ble_eq_true rfl) (Nat.le_of_ble_eq_true rfl) (Nat.le_of_ble_eq_true rfl) (Nat.le_of_ble_eq_true rfl) (Nat.le_of_ble_eq_true rfl) rfl ?_
      exact x_return d_RD_digits_84 rfl ⟨rfl, rfl, fun _ _ => by rw [decide_eq_true (Nat.not_le.mp fun q => c_71 ((g_cH hv).mpr q))]; rfl, rfl, rfl⟩
  have hloop : ∀ m i f0 v0, i + m = N → v0 < 90071992547409930 → g_dg (g_at u N) m i f0 v0 = (e, f, v) → x_W E M_RD_digits (x_room 1 0 0) (x_Y none 52 (g_rw h N (nI p) (nI e) (nI (bif decide (v < 9007199254740992) then 2 else 12)) oo (lN v) lt tp pl vd kn rk Wd)) 52 (g_rw h N (nI p) bh tk oo (lN v0) lt tp pl vd kn rk Wd) 10 [(0, .ref 36), (1, .int (nI i))] [] 0 0 := by
    intro m
    induction m with
    | zero =>
      intro i f0 v0 hi hv he
      obtain rfl : i = N := by omega
      rw [g_dg] at he
      refine x_aload_n d_RD_digits_10 rfl rfl ?_
      refine x_iload_n d_RD_digits_11 rfl rfl ?_
      refine x_callV1Y d_RD_digits_12 k_RD_148 (Nat.le_of_ble_eq_true rfl) (Nat.le_of_ble_eq_true rfl) (by first | rfl | assumption) (by rfl) (w_RD_look h22 hN (by omega)) (Nat.le_of_ble_eq_true rfl) (Nat.le_of_ble_eq_true rfl) (Nat.le_of_ble_eq_true rfl) (Nat.le_of_ble_eq_true rfl) (Nat.le_of_ble_eq_true rfl) rfl ?_
      refine x_callS1Y d_RD_digits_15 k_RD_151 w_RD_digit (Nat.le_of_ble_eq_true rfl) (Nat.le_of_ble_eq_true rfl) (Nat.le_of_ble_eq_true rfl) (Nat.le_of_ble_eq_true rfl) (Nat.le_of_ble_eq_true rfl) rfl ?_
      refine x_topi (g_b2 (g_dig (g_at u i i))) (by rw [g_loD hu]) ?_
      refine x_if_eq 62 d_RD_digits_18 (by decide) (fun _ => ?_) (fun z => absurd (show g_b2 (g_dig (g_at u i i)) = 0 by rw [g_at_out (Nat.le_refl _)]; rfl) z)
      simp only [Prod.mk.injEq] at he
      obtain ⟨rfl, rfl, rfl⟩ := he
      exact hend (by omega)
    | succ m ih =>
      intro i f0 v0 hi hv he
      refine x_aload_n d_RD_digits_10 rfl rfl ?_
      refine x_iload_n d_RD_digits_11 rfl rfl ?_
      refine x_callV1Y d_RD_digits_12 k_RD_148 (Nat.le_of_ble_eq_true rfl) (Nat.le_of_ble_eq_true rfl) (by first | rfl | assumption) (by rfl) (w_RD_look h22 hN (by omega)) (Nat.le_of_ble_eq_true rfl) (Nat.le_of_ble_eq_true rfl) (Nat.le_of_ble_eq_true rfl) (Nat.le_of_ble_eq_true rfl) (Nat.le_of_ble_eq_true rfl) rfl ?_
      refine x_callS1Y d_RD_digits_15 k_RD_151 w_RD_digit (Nat.le_of_ble_eq_true rfl) (Nat.le_of_ble_eq_true rfl) (Nat.le_of_ble_eq_true rfl) (Nat.le_of_ble_eq_true rfl) (Nat.le_of_ble_eq_true rfl) rfl ?_
      refine x_topi (g_b2 (g_dig (g_at u N i))) (by rw [g_loD hu]) ?_
      refine x_if_eq 62 d_RD_digits_18 (by decide) (fun c_18 => ?_) (fun c_18 => ?_)
      · rw [g_dg0 c_18] at he
        simp only [Prod.mk.injEq] at he
        obtain ⟨rfl, rfl, rfl⟩ := he
        exact hend (by omega)
      · refine x_aload_n d_RD_digits_21 rfl rfl ?_
        refine x_get d_RD_digits_22 f_RD_174 (Nat.le_of_ble_eq_true rfl) (Nat.le_of_ble_eq_true rfl) (by first | rfl | assumption) (by rfl) ?_
        refine x_ldc2 d_RD_digits_25 s_RD_178 ?_
        refine x_lcmp d_RD_digits_28 ?_
        refine x_if_ge 56 d_RD_digits_29 (by decide) (fun c_29 => ?_) (fun c_29 => ?_)
        · refine x_iinc d_RD_digits_56 rfl 1 (by decide) (Nat.le_of_ble_eq_true rfl) ?_
          refine x_goto 10 d_RD_digits_59 (by decide) ?_
          refine x_lv [(0, .ref 36), (1, .int (nI (i + 1)))] (by rw [nI_succ i]; rfl) ?_
          rw [g_dg1 c_18, if_neg (Nat.not_lt.mpr ((g_cH (by omega)).mp c_29))] at he
          exact ih (i + 1) _ _ (by omega) (by first | omega | (have := g_dvb (N := N) hu c_18; have : v0 < 9007199254740992 := Nat.not_le.mp fun q => c_29 ((g_cH (by omega)).mpr q); omega)) he
        · refine x_aload_n d_RD_digits_32 rfl rfl ?_
          refine x_ldc2 d_RD_digits_33 s_RD_180 ?_
          refine x_aload_n d_RD_digits_36 rfl rfl ?_
          refine x_get d_RD_digits_37 f_RD_174 (Nat.le_of_ble_eq_true rfl) (Nat.le_of_ble_eq_true rfl) (by first | rfl | assumption) (by rfl) ?_
          refine x_lmul d_RD_digits_40 ?_
          refine x_aload_n d_RD_digits_41 rfl rfl ?_
          refine x_get d_RD_digits_42 f_RD_89 (Nat.le_of_ble_eq_true rfl) (Nat.le_of_ble_eq_true rfl) (by first | rfl | assumption) (by rfl) ?_
          refine x_iload_n d_RD_digits_45 rfl rfl ?_
          refine x_bald d_RD_digits_46 (Nat.le_of_ble_eq_true rfl) (Nat.le_of_ble_eq_true rfl) (by first | rfl | assumption) (vp_in_nI (Nat.lt_of_lt_of_le (g_digA hu c_18).1 hN) (by decide)) ?_
          refine x_topi (g_sb (u i)) (by rw [nI_clamp (by omega)]) ?_
          refine x_i2l d_RD_digits_47 ?_
          refine x_ladd d_RD_digits_48 ?_
          refine x_ldc2 d_RD_digits_49 s_RD_182 ?_
          refine x_lsub d_RD_digits_52 ?_
          refine x_topl _ (g_dgw hu c_18) ?_
          refine x_put d_RD_digits_53 f_RD_174 (Nat.le_of_ble_eq_true rfl) (Nat.le_of_ble_eq_true rfl) (by first | rfl | assumption) (by rfl) (by rfl) (by exact (Nat.le_of_ble_eq_true rfl)) ?_
          refine x_iinc d_RD_digits_56 rfl 1 (by decide) (Nat.le_of_ble_eq_true rfl) ?_
          refine x_goto 10 d_RD_digits_59 (by decide) ?_
          refine x_lv [(0, .ref 36), (1, .int (nI (i + 1)))] (by rw [nI_succ i]; rfl) ?_
          rw [g_dg1 c_18, if_pos (Nat.not_le.mp fun q => c_29 ((g_cH (by omega)).mpr q))] at he
          exact ih (i + 1) _ _ (by omega) (by first | omega | (have := g_dvb (N := N) hu c_18; have : v0 < 9007199254740992 := Nat.not_le.mp fun q => c_29 ((g_cH (by omega)).mpr q); omega)) he
  show x_W E M_RD_digits _ _ 52 (g_rw h N (nI p) bh tk oo nm lt tp pl vd kn rk Wd) 0 [(0, .ref 36)] [] 0 0
  refine x_aload_n d_RD_digits_0 rfl rfl ?_
  refine x_lconst 0 d_RD_digits_1 (by decide) ?_
  refine x_put d_RD_digits_2 f_RD_174 (Nat.le_of_ble_eq_true rfl) (Nat.le_of_ble_eq_true rfl) (by first | rfl | assumption) (by rfl) (by rfl) (by exact (Nat.le_of_ble_eq_true rfl)) ?_
  refine x_aload_n d_RD_digits_5 rfl rfl ?_
  refine x_get d_RD_digits_6 f_RD_116 (Nat.le_of_ble_eq_true rfl) (Nat.le_of_ble_eq_true rfl) (by first | rfl | assumption) (by rfl) ?_
  refine x_istore_n d_RD_digits_9 rfl (Nat.le_of_ble_eq_true rfl) ?_
  exact x_same (h' := (g_rw h N (nI p) bh tk oo (lN 0) lt tp pl vd kn rk Wd)) (x_pt rfl rfl rfl rfl rfl rfl rfl rfl rfl rfl rfl rfl rfl rfl rfl rfl rfl rfl rfl rfl rfl rfl rfl rfl rfl rfl rfl rfl rfl rfl rfl rfl rfl rfl rfl rfl rfl rfl rfl rfl rfl rfl rfl rfl rfl rfl rfl rfl rfl rfl rfl rfl) (hloop (N - p) p p 0 (by omega) (by decide) he)
/-- the reader behind a sign: its letters, where they are known -/
def g_LP (h : xH) (N : Nat) (aa bh tk oo : Int32) (nm : Int64) (tp pl vd kn rk : Int32) (w : Option (List Int32)) : Option Value → xH → Prop := fun v h1 => v = none ∧ ∃ (l : Nat) (Wd : Nat → Int32), l ≤ 4096 ∧ (∀ x, w = some x → l = x.length ∧ g_wx Wd x) ∧ h1 = g_rw h N aa bh tk oo nm (nI l) tp pl vd kn rk Wd
theorem g_sbR : ∀ x, x < 256 → vp_nar .byte (g_sb x).toInt8.toInt32 = g_sb x := by decide +kernel
theorem d_RD_quoted_0 : decode M_RD_quoted.2.1 0 = .ok (.aload_n 0, 1) := by decide +kernel
theorem d_RD_quoted_1 : decode M_RD_quoted.2.1 1 = .ok (.getfield 116, 3) := by decide +kernel
theorem d_RD_quoted_4 : decode M_RD_quoted.2.1 4 = .ok (.iconst 1, 1) := by decide +kernel
theorem d_RD_quoted_5 : decode M_RD_quoted.2.1 5 = .ok (.iadd, 1) := by decide +kernel
theorem d_RD_quoted_6 : decode M_RD_quoted.2.1 6 = .ok (.istore_n 1, 1) := by decide +kernel
theorem d_RD_quoted_7 : decode M_RD_quoted.2.1 7 = .ok (.aload_n 0, 1) := by decide +kernel
theorem d_RD_quoted_8 : decode M_RD_quoted.2.1 8 = .ok (.iload_n 1, 1) := by decide +kernel
theorem d_RD_quoted_9 : decode M_RD_quoted.2.1 9 = .ok (.invokevirtual 148, 3) := by decide +kernel
theorem d_RD_quoted_12 : decode M_RD_quoted.2.1 12 = .ok (.istore_n 2, 1) := by decide +kernel
theorem d_RD_quoted_13 : decode M_RD_quoted.2.1 13 = .ok (.iload_n 2, 1) := by decide +kernel
theorem d_RD_quoted_14 : decode M_RD_quoted.2.1 14 = .ok (.bipush 32, 2) := by decide +kernel
theorem d_RD_quoted_16 : decode M_RD_quoted.2.1 16 = .ok (.if_icmp .lt 9, 3) := by decide +kernel
theorem d_RD_quoted_19 : decode M_RD_quoted.2.1 19 = .ok (.iload_n 2, 1) := by decide +kernel
theorem d_RD_quoted_20 : decode M_RD_quoted.2.1 20 = .ok (.bipush 126, 2) := by decide +kernel
theorem d_RD_quoted_22 : decode M_RD_quoted.2.1 22 = .ok (.if_icmp .le 16, 3) := by decide +kernel
theorem d_RD_quoted_25 : decode M_RD_quoted.2.1 25 = .ok (.aload_n 0, 1) := by decide +kernel
theorem d_RD_quoted_26 : decode M_RD_quoted.2.1 26 = .ok (.bipush 12, 2) := by decide +kernel
theorem d_RD_quoted_28 : decode M_RD_quoted.2.1 28 = .ok (.aload_n 0, 1) := by decide +kernel
theorem d_RD_quoted_29 : decode M_RD_quoted.2.1 29 = .ok (.getfield 116, 3) := by decide +kernel
theorem d_RD_quoted_32 : decode M_RD_quoted.2.1 32 = .ok (.iconst 1, 1) := by decide +kernel
theorem d_RD_quoted_33 : decode M_RD_quoted.2.1 33 = .ok (.iadd, 1) := by decide +kernel
theorem d_RD_quoted_34 : decode M_RD_quoted.2.1 34 = .ok (.invokevirtual 158, 3) := by decide +kernel
theorem d_RD_quoted_37 : decode M_RD_quoted.2.1 37 = .ok (.return_, 1) := by decide +kernel
theorem d_RD_quoted_38 : decode M_RD_quoted.2.1 38 = .ok (.iinc 1 1, 3) := by decide +kernel
theorem d_RD_quoted_41 : decode M_RD_quoted.2.1 41 = .ok (.iload_n 2, 1) := by decide +kernel
theorem d_RD_quoted_42 : decode M_RD_quoted.2.1 42 = .ok (.bipush 39, 2) := by decide +kernel
theorem d_RD_quoted_44 : decode M_RD_quoted.2.1 44 = .ok (.if_icmp .eq 11, 3) := by decide +kernel
theorem d_RD_quoted_47 : decode M_RD_quoted.2.1 47 = .ok (.aload_n 0, 1) := by decide +kernel
theorem d_RD_quoted_48 : decode M_RD_quoted.2.1 48 = .ok (.iload_n 2, 1) := by decide +kernel
theorem d_RD_quoted_49 : decode M_RD_quoted.2.1 49 = .ok (.invokevirtual 154, 3) := by decide +kernel
theorem d_RD_quoted_52 : decode M_RD_quoted.2.1 52 = .ok (.goto 32, 3) := by decide +kernel
theorem d_RD_quoted_55 : decode M_RD_quoted.2.1 55 = .ok (.aload_n 0, 1) := by decide +kernel
theorem d_RD_quoted_56 : decode M_RD_quoted.2.1 56 = .ok (.iload_n 1, 1) := by decide +kernel
theorem d_RD_quoted_57 : decode M_RD_quoted.2.1 57 = .ok (.invokevirtual 148, 3) := by decide +kernel
theorem d_RD_quoted_60 : decode M_RD_quoted.2.1 60 = .ok (.bipush 39, 2) := by decide +kernel
theorem d_RD_quoted_62 : decode M_RD_quoted.2.1 62 = .ok (.if_icmp .ne 15, 3) := by decide +kernel
theorem d_RD_quoted_65 : decode M_RD_quoted.2.1 65 = .ok (.aload_n 0, 1) := by decide +kernel
theorem d_RD_quoted_66 : decode M_RD_quoted.2.1 66 = .ok (.bipush 39, 2) := by decide +kernel
theorem d_RD_quoted_68 : decode M_RD_quoted.2.1 68 = .ok (.invokevirtual 154, 3) := by decide +kernel
theorem d_RD_quoted_71 : decode M_RD_quoted.2.1 71 = .ok (.iinc 1 1, 3) := by decide +kernel
theorem d_RD_quoted_74 : decode M_RD_quoted.2.1 74 = .ok (.goto 10, 3) := by decide +kernel
theorem d_RD_quoted_77 : decode M_RD_quoted.2.1 77 = .ok (.aload_n 0, 1) := by decide +kernel
theorem d_RD_quoted_78 : decode M_RD_quoted.2.1 78 = .ok (.iconst 3, 1) := by decide +kernel
theorem d_RD_quoted_79 : decode M_RD_quoted.2.1 79 = .ok (.iload_n 1, 1) := by decide +kernel
theorem d_RD_quoted_80 : decode M_RD_quoted.2.1 80 = .ok (.invokevirtual 158, 3) := by decide +kernel
theorem d_RD_quoted_83 : decode M_RD_quoted.2.1 83 = .ok (.return_, 1) := by decide +kernel
theorem d_RD_quoted_84 : decode M_RD_quoted.2.1 84 = .ok (.goto (-77), 3) := by decide +kernel
set_option maxRecDepth 20000 in
theorem w_RD_quoted {E : xR} {h : xH} {u : Nat → Nat} {N : Nat} {bh tk oo tp pl vd kn rk : Int32} {nm : Int64} {Wd : Nat → Int32} {p q : Nat} {y : List Int32} (h22 : h 22 = .inl (1, 4096, .inl (fun i => g_sb (u i)))) (hu : ∀ i, u i < 256) (hN : N ≤ 4096) (hp : p < N) (hq : g_qt (g_at u N) (N - p) (p + 1) = q) (hy : g_ql u N (N - p) (p + 1) = y) : x_Mt E M_RD_quoted 1 0 0 [.ref 36] 52 (g_rw h N (nI p) bh tk oo nm (nI 0) tp pl vd kn rk Wd) (x_YE (g_LP h N (nI p) (bif !decide (q = 0) then nI (q + 1) else nI (p + 1)) (nI (bif !decide (q = 0) then 3 else 12)) oo nm tp pl vd kn rk (bif !decide (q = 0) then some y else none))) := by
  refine x_Mt.of (by decide) (Nat.le_of_ble_eq_true rfl) ?_
  have hbad : ∀ (i : Nat) (l : Nat) (Wd : Nat → Int32) (z : Value), l ≤ 4096 → q = 0 → x_W E M_RD_quoted (x_room 1 0 0) (x_YE (g_LP h N (nI p) (bif !decide (q = 0) then nI (q + 1) else nI (p + 1)) (nI (bif !decide (q = 0) then 3 else 12)) oo nm tp pl vd kn rk (bif !decide (q = 0) then some y else none))) 52 (g_rw h N (nI p) bh tk oo nm (nI l) tp pl vd kn rk Wd) 25 [(0, .ref 36), (1, .int (nI i)), (2, z)] [] 0 0 := by
    intro i l Wd z hl hz
    refine x_aload_n d_RD_quoted_25 rfl rfl ?_
    refine x_bipush 12 d_RD_quoted_26 (by decide) ?_
    refine x_aload_n d_RD_quoted_28 rfl rfl ?_
    refine x_get d_RD_quoted_29 f_RD_116 (Nat.le_of_ble_eq_true rfl) (Nat.le_of_ble_eq_true rfl) (by first | rfl | assumption) (by rfl) ?_
    refine x_iconst 1 d_RD_quoted_32 (by decide) ?_
    refine x_iadd d_RD_quoted_33 ?_
    refine x_topi (nI (p + 1)) (nI_succ p).symm ?_
    refine x_callV2Y d_RD_quoted_34 k_RD_158 (Nat.le_of_ble_eq_true rfl) (Nat.le_of_ble_eq_true rfl) (by first | rfl | assumption) (by rfl) w_RD_take (Nat.le_of_ble_eq_true rfl) (Nat.le_of_ble_eq_true rfl) (Nat.le_of_ble_eq_true rfl) (Nat.le_of_ble_eq_true rfl) (Nat.le_of_ble_eq_true rfl) rfl ?_
    exact x_return d_RD_quoted_37 rfl (x_YEi _ ⟨rfl, l, Wd, hl, fun x hx => (by rw [hz] at hx; cases hx), rfl⟩ (fun _ _ => by rw [hz]; rfl))
  have hloop : ∀ m i X Wd, N < i + m → i ≤ N → X.length + p + 1 ≤ i → g_wx Wd X → g_qt (g_at u N) m i = q → X ++ g_ql u N m i = y → x_W E M_RD_quoted (x_room 1 0 0) (x_YE (g_LP h N (nI p) (bif !decide (q = 0) then nI (q + 1) else nI (p + 1)) (nI (bif !decide (q = 0) then 3 else 12)) oo nm tp pl vd kn rk (bif !decide (q = 0) then some y else none))) 52 (g_rw h N (nI p) bh tk oo nm (nI X.length) tp pl vd kn rk Wd) 7 [(0, .ref 36), (1, .int (nI i))] [] 0 0 := by
    intro m
    induction m with
    | zero => intro i X Wd hi hiN; omega
    | succ m ih =>
      intro i X Wd hi hiN hX hW hq hy
      rw [g_qt] at hq
      rw [g_ql] at hy
      have hlE : ∀ b : Int32, 0 ≤ b ∧ b < 128 → (g_lo u N i = b ↔ g_at u N i = b) := fun b hb => g_loE hu hb
      have hQ := g_loP (P := fun c => decide (c < 32) || decide (126 < c)) g_sbQ (N := N) (i := i) hu
      refine x_aload_n d_RD_quoted_7 rfl rfl ?_
      refine x_iload_n d_RD_quoted_8 rfl rfl ?_
      refine x_callV1Y d_RD_quoted_9 k_RD_148 (Nat.le_of_ble_eq_true rfl) (Nat.le_of_ble_eq_true rfl) (by first | rfl | assumption) (by rfl) (w_RD_look h22 hN (by omega)) (Nat.le_of_ble_eq_true rfl) (Nat.le_of_ble_eq_true rfl) (Nat.le_of_ble_eq_true rfl) (Nat.le_of_ble_eq_true rfl) (Nat.le_of_ble_eq_true rfl) rfl ?_
      refine x_istore_n d_RD_quoted_12 rfl (Nat.le_of_ble_eq_true rfl) ?_
      refine x_iload_n d_RD_quoted_13 rfl rfl ?_
      refine x_bipush 32 d_RD_quoted_14 (by decide) ?_
      refine x_icmp_lt 25 d_RD_quoted_16 (by decide) (fun c_16 => ?_) (fun c_16 => ?_)
      · exact hbad i _ _ _ (by omega) (by rw [← hq, show (decide (g_at u N i < 32) || decide (126 < g_at u N i)) = true by rw [← hQ]; simp [*]]; rfl)
      · refine x_iload_n d_RD_quoted_19 rfl rfl ?_
        refine x_bipush 126 d_RD_quoted_20 (by decide) ?_
        refine x_icmp_le 38 d_RD_quoted_22 (by decide) (fun c_22 => ?_) (fun c_22 => ?_)
        · have hok : (decide (g_at u N i < 32) || decide (126 < g_at u N i)) = false := by rw [← hQ]; simp [*]
          rw [hok] at hq hy
          have hiN2 : i < N := g_at_nn (u := u) (fun z => by have := (Bool.or_eq_false_iff.mp hok).1; exact of_decide_eq_false this (Int32.lt_trans z (by decide)))
          refine x_iinc d_RD_quoted_38 rfl 1 (by decide) (Nat.le_of_ble_eq_true rfl) ?_
          refine x_iload_n d_RD_quoted_41 rfl rfl ?_
          refine x_bipush 39 d_RD_quoted_42 (by decide) ?_
          refine x_icmp_eq 55 d_RD_quoted_44 (by decide) (fun c_44 => ?_) (fun c_44 => ?_)
          · refine x_lv [(0, .ref 36), (1, .int (nI (i + 1))), (2, .int (g_lo u N i))] (by rw [nI_succ i]; rfl) ?_
            refine x_aload_n d_RD_quoted_55 rfl rfl ?_
            refine x_iload_n d_RD_quoted_56 rfl rfl ?_
            refine x_callV1Y d_RD_quoted_57 k_RD_148 (Nat.le_of_ble_eq_true rfl) (Nat.le_of_ble_eq_true rfl) (by first | rfl | assumption) (by rfl) (w_RD_look h22 hN (by omega)) (Nat.le_of_ble_eq_true rfl) (Nat.le_of_ble_eq_true rfl) (Nat.le_of_ble_eq_true rfl) (Nat.le_of_ble_eq_true rfl) (Nat.le_of_ble_eq_true rfl) rfl ?_
            refine x_bipush 39 d_RD_quoted_60 (by decide) ?_
            refine x_icmp_ne 77 d_RD_quoted_62 (by decide) (fun c_62 => ?_) (fun c_62 => ?_)
            · refine x_aload_n d_RD_quoted_77 rfl rfl ?_
              refine x_iconst 3 d_RD_quoted_78 (by decide) ?_
              refine x_iload_n d_RD_quoted_79 rfl rfl ?_
              refine x_callV2Y d_RD_quoted_80 k_RD_158 (Nat.le_of_ble_eq_true rfl) (Nat.le_of_ble_eq_true rfl) (by first | rfl | assumption) (by rfl) w_RD_take (Nat.le_of_ble_eq_true rfl) (Nat.le_of_ble_eq_true rfl) (Nat.le_of_ble_eq_true rfl) (Nat.le_of_ble_eq_true rfl) (Nat.le_of_ble_eq_true rfl) rfl ?_
              exact x_return d_RD_quoted_83 rfl (by
                        rw [decide_eq_true ((hlE 39 (by decide)).mp c_44), decide_eq_false (fun z => c_62 ((g_loE hu (by decide)).mpr z))] at hq hy
                        have hq : i = q := hq
                        have hy : X ++ [] = y := hy
                        rw [List.append_nil] at hy
                        have hb : (!decide (q = 0)) = true := by rw [← hq, decide_eq_false (show ¬ i = 0 by omega)]; rfl
                        exact x_YEi _ ⟨rfl, X.length, Wd, by omega, fun x hx => by rw [hb] at hx; cases hx; rw [← hy]; exact ⟨rfl, hW⟩, rfl⟩ (fun _ _ => by rw [hb, ← hq]; rfl))
            · refine x_aload_n d_RD_quoted_65 rfl rfl ?_
              refine x_bipush 39 d_RD_quoted_66 (by decide) ?_
              refine x_callV1Y d_RD_quoted_68 k_RD_154 (Nat.le_of_ble_eq_true rfl) (Nat.le_of_ble_eq_true rfl) (by first | rfl | assumption) (by rfl) (w_RD_letter (L := X.length) (by omega) (by decide)) (Nat.le_of_ble_eq_true rfl) (Nat.le_of_ble_eq_true rfl) (Nat.le_of_ble_eq_true rfl) (Nat.le_of_ble_eq_true rfl) (Nat.le_of_ble_eq_true rfl) rfl ?_
              refine x_iinc d_RD_quoted_71 rfl 1 (by decide) (Nat.le_of_ble_eq_true rfl) ?_
              refine x_goto 84 d_RD_quoted_74 (by decide) ?_
              refine x_goto 7 d_RD_quoted_84 (by decide) ?_
              refine x_lv [(0, .ref 36), (1, .int (nI (i + 2))), (2, .int (g_lo u N i))] (by rw [show nI (i + 2) = nI (i + 1) + 1 from nI_succ (i + 1)]; rfl) ?_
              refine x_wk [(0, .ref 36), (1, .int (nI (i + 2)))] (by simp) ?_
              rw [decide_eq_true ((hlE 39 (by decide)).mp c_44)] at hq hy
              have h93 : g_at u N (i + 1) = 39 := (g_loE hu (by decide)).mp c_62
              have hi1 : i + 1 < N := g_at_nn (u := u) (fun z => by rw [h93] at z; exact absurd z (by decide))
              rw [decide_eq_true h93] at hq hy
              have hgo := ih (i + 2) (X ++ [39]) (upd Wd X.length 39) (by omega) (by omega) (by rw [List.length_append, List.length_singleton]; omega) (g_wxs hW) hq (by rw [List.append_assoc]; exact hy)
              rw [List.length_append, List.length_singleton] at hgo
              exact hgo
          · refine x_aload_n d_RD_quoted_47 rfl rfl ?_
            refine x_iload_n d_RD_quoted_48 rfl rfl ?_
            refine x_callV1Y d_RD_quoted_49 k_RD_154 (Nat.le_of_ble_eq_true rfl) (Nat.le_of_ble_eq_true rfl) (by first | rfl | assumption) (by rfl) (w_RD_letter (L := X.length) (by omega) (by rw [g_loI hiN2]; exact g_sbR _ (hu i))) (Nat.le_of_ble_eq_true rfl) (Nat.le_of_ble_eq_true rfl) (Nat.le_of_ble_eq_true rfl) (Nat.le_of_ble_eq_true rfl) (Nat.le_of_ble_eq_true rfl) rfl ?_
            refine x_goto 84 d_RD_quoted_52 (by decide) ?_
            refine x_goto 7 d_RD_quoted_84 (by decide) ?_
            refine x_lv [(0, .ref 36), (1, .int (nI (i + 1))), (2, .int (g_lo u N i))] (by rw [nI_succ i]; rfl) ?_
            refine x_wk [(0, .ref 36), (1, .int (nI (i + 1)))] (by simp) ?_
            rw [decide_eq_false (fun z => c_44 ((hlE 39 (by decide)).mpr z))] at hq hy
            have e : g_lo u N i = g_sb (u i) := g_loI hiN2
            rw [e]
            have hgo := ih (i + 1) (X ++ [g_sb (u i)]) (upd Wd X.length (g_sb (u i))) (by omega) (by omega) (by rw [List.length_append, List.length_singleton]; omega) (g_wxs hW) hq (by rw [List.append_assoc]; exact hy)
            rw [List.length_append, List.length_singleton] at hgo
            exact hgo
        · exact hbad i _ _ _ (by omega) (by rw [← hq, show (decide (g_at u N i < 32) || decide (126 < g_at u N i)) = true by rw [← hQ]; simp [Int32.not_le.mp c_22]]; rfl)
  show x_W E M_RD_quoted _ _ 52 (g_rw h N (nI p) bh tk oo nm (nI 0) tp pl vd kn rk Wd) 0 [(0, .ref 36)] [] 0 0
  refine x_aload_n d_RD_quoted_0 rfl rfl ?_
  refine x_get d_RD_quoted_1 f_RD_116 (Nat.le_of_ble_eq_true rfl) (Nat.le_of_ble_eq_true rfl) (by first | rfl | assumption) (by rfl) ?_
  refine x_iconst 1 d_RD_quoted_4 (by decide) ?_
  refine x_iadd d_RD_quoted_5 ?_
  refine x_topi (nI (p + 1)) (nI_succ p).symm ?_
  refine x_istore_n d_RD_quoted_6 rfl (Nat.le_of_ble_eq_true rfl) ?_
  exact hloop (N - p) (p + 1) [] Wd (by omega) (by omega) (by show 0 + p + 1 ≤ p + 1; omega) g_wx0 hq hy
