/-- a method that comes back with v and leaves the world h, cell by cell; nothing is made -/
def x_Y (v : Option Value) (n : Nat) (h : xH) : xK := fun o n' h' k j => o = .inl v ∧ n' = n ∧ (∀ i, i < n → h' i = h i) ∧ k = 0 ∧ j = 0
theorem x_Y_t {v : Option Value} {n : Nat} {h : xH} {Q : xK} {cells slots : Nat} : ∀ q n' h' k j, x_Y v n h (.inr q) n' h' k j → Q (.inr q) n' h' (cells + k) (slots + j) := by
  intro q n' h' k j hq
  cases hq.1
theorem x_Y_r {E : xR} {M : xM} {R : Room} {Q : xK} {n : Nat} {h : xH} {pc : Nat} {lv : List (Nat × Value)} {rest : List Value} {cells slots : Nat} {v : Option Value} (k : x_W E M R Q n h pc lv (v.toList ++ rest) cells slots) : ∀ v' n' h' k' j', x_Y v n h (.inl v') n' h' k' j' → x_W E M R Q n' h' pc lv (v'.toList ++ rest) (cells + k') (slots + j') := by
  intro v' n' h' k' j' hq
  obtain ⟨e1, e2, e3, e4, e5⟩ := hq
  cases e1
  subst e2 e4 e5
  exact x_same e3 k
theorem x_Y_g {E : xR} {v : Option Value} {n : Nat} {h : xH} : x_tg E → ∀ v' n' h' k j, x_Y v n h (.inl v') n' h' k j → n' = n + k := by
  intro _ v' n' h' k j hq
  obtain ⟨-, e2, -, e4, -⟩ := hq
  omega
theorem x_callV0Y {E : xR} {M : xM} {R : Room} {Q : xK} {n : Nat} {h : xH} {pc : Nat} {lv : List (Nat × Value)} {rest : List Value} {cells slots idx : Nat} {M' : xM} {d0 kc ks : Nat} {i ci N : Nat} {fs : List Value} {T : u_T}  {v : Option Value} {h1 : xH} (d : decode M.2.1 pc = .ok (.invokevirtual idx, 3)) (hk : x_CV M.1.cls idx M' 0) (hi : i < n) (hlo1 : i < 1000000) (hc : h i = .inr (ci, fs)) (hcc : x_Cl[ci]? = some (M'.1.cls, T, N)) (hM : x_Mt E M' d0 kc ks [.ref i] n h (x_Y v n h1)) (hfr : d0 + 1 ≤ R.frames) (hlo : 8 + (M'.2.2.1 + 11) + 64 * d0 ≤ R.locals) (hcl : cells + kc ≤ R.cells) (hsl : slots + ks ≤ R.slots) (hrs : (rest.map fun v => v.category).sum ≤ 8) (ho : M.2.2.2.2.all (fun t => !(decide (t.1 ≤ pc) && decide (pc < t.2.1))) = true) (kr : x_W E M R Q n h1 (pc + 3) lv (v.toList ++ rest) cells slots) : x_W E M R Q n h pc lv (.ref i :: rest) cells slots :=
  x_callV0 d hk hi hlo1 hc hcc hM hfr hlo hcl hsl hrs ho x_Y_g (x_Y_r kr) x_Y_t
theorem x_callI0Y {E : xR} {M : xM} {R : Room} {Q : xK} {n : Nat} {h : xH} {pc : Nat} {lv : List (Nat × Value)} {rest : List Value} {cells slots idx : Nat} {M' : xM} {d0 kc ks : Nat} {i : Nat}  {v : Option Value} {h1 : xH} (d : decode M.2.1 pc = .ok (.invokespecial idx, 3)) (hk : x_CI M.1.cls idx M' 0) (hM : x_Mt E M' d0 kc ks [.ref i] n h (x_Y v n h1)) (hfr : d0 + 1 ≤ R.frames) (hlo : 8 + (M'.2.2.1 + 11) + 64 * d0 ≤ R.locals) (hcl : cells + kc ≤ R.cells) (hsl : slots + ks ≤ R.slots) (hrs : (rest.map fun v => v.category).sum ≤ 8) (ho : M.2.2.2.2.all (fun t => !(decide (t.1 ≤ pc) && decide (pc < t.2.1))) = true) (kr : x_W E M R Q n h1 (pc + 3) lv (v.toList ++ rest) cells slots) : x_W E M R Q n h pc lv (.ref i :: rest) cells slots :=
  x_callI0 d hk hM hfr hlo hcl hsl hrs ho x_Y_g (x_Y_r kr) x_Y_t
theorem x_callV1Y {E : xR} {M : xM} {R : Room} {Q : xK} {n : Nat} {h : xH} {pc : Nat} {lv : List (Nat × Value)} {rest : List Value} {cells slots idx : Nat} {M' : xM} {d0 kc ks : Nat} {i ci N : Nat} {fs : List Value} {T : u_T} {a1 : Value} {v : Option Value} {h1 : xH} (d : decode M.2.1 pc = .ok (.invokevirtual idx, 3)) (hk : x_CV M.1.cls idx M' 1) (hi : i < n) (hlo1 : i < 1000000) (hc : h i = .inr (ci, fs)) (hcc : x_Cl[ci]? = some (M'.1.cls, T, N)) (hM : x_Mt E M' d0 kc ks [.ref i, a1] n h (x_Y v n h1)) (hfr : d0 + 1 ≤ R.frames) (hlo : 8 + (M'.2.2.1 + 11) + 64 * d0 ≤ R.locals) (hcl : cells + kc ≤ R.cells) (hsl : slots + ks ≤ R.slots) (hrs : (rest.map fun v => v.category).sum ≤ 8) (ho : M.2.2.2.2.all (fun t => !(decide (t.1 ≤ pc) && decide (pc < t.2.1))) = true) (kr : x_W E M R Q n h1 (pc + 3) lv (v.toList ++ rest) cells slots) : x_W E M R Q n h pc lv (a1 :: .ref i :: rest) cells slots :=
  x_callV1 d hk hi hlo1 hc hcc hM hfr hlo hcl hsl hrs ho x_Y_g (x_Y_r kr) x_Y_t
theorem x_callI1Y {E : xR} {M : xM} {R : Room} {Q : xK} {n : Nat} {h : xH} {pc : Nat} {lv : List (Nat × Value)} {rest : List Value} {cells slots idx : Nat} {M' : xM} {d0 kc ks : Nat} {i : Nat} {a1 : Value} {v : Option Value} {h1 : xH} (d : decode M.2.1 pc = .ok (.invokespecial idx, 3)) (hk : x_CI M.1.cls idx M' 1) (hM : x_Mt E M' d0 kc ks [.ref i, a1] n h (x_Y v n h1)) (hfr : d0 + 1 ≤ R.frames) (hlo : 8 + (M'.2.2.1 + 11) + 64 * d0 ≤ R.locals) (hcl : cells + kc ≤ R.cells) (hsl : slots + ks ≤ R.slots) (hrs : (rest.map fun v => v.category).sum ≤ 8) (ho : M.2.2.2.2.all (fun t => !(decide (t.1 ≤ pc) && decide (pc < t.2.1))) = true) (kr : x_W E M R Q n h1 (pc + 3) lv (v.toList ++ rest) cells slots) : x_W E M R Q n h pc lv (a1 :: .ref i :: rest) cells slots :=
  x_callI1 d hk hM hfr hlo hcl hsl hrs ho x_Y_g (x_Y_r kr) x_Y_t
theorem x_callV2Y {E : xR} {M : xM} {R : Room} {Q : xK} {n : Nat} {h : xH} {pc : Nat} {lv : List (Nat × Value)} {rest : List Value} {cells slots idx : Nat} {M' : xM} {d0 kc ks : Nat} {i ci N : Nat} {fs : List Value} {T : u_T} {a1 a2 : Value} {v : Option Value} {h1 : xH} (d : decode M.2.1 pc = .ok (.invokevirtual idx, 3)) (hk : x_CV M.1.cls idx M' 2) (hi : i < n) (hlo1 : i < 1000000) (hc : h i = .inr (ci, fs)) (hcc : x_Cl[ci]? = some (M'.1.cls, T, N)) (hM : x_Mt E M' d0 kc ks [.ref i, a1, a2] n h (x_Y v n h1)) (hfr : d0 + 1 ≤ R.frames) (hlo : 8 + (M'.2.2.1 + 11) + 64 * d0 ≤ R.locals) (hcl : cells + kc ≤ R.cells) (hsl : slots + ks ≤ R.slots) (hrs : (rest.map fun v => v.category).sum ≤ 8) (ho : M.2.2.2.2.all (fun t => !(decide (t.1 ≤ pc) && decide (pc < t.2.1))) = true) (kr : x_W E M R Q n h1 (pc + 3) lv (v.toList ++ rest) cells slots) : x_W E M R Q n h pc lv (a2 :: a1 :: .ref i :: rest) cells slots :=
  x_callV2 d hk hi hlo1 hc hcc hM hfr hlo hcl hsl hrs ho x_Y_g (x_Y_r kr) x_Y_t
theorem x_callI2Y {E : xR} {M : xM} {R : Room} {Q : xK} {n : Nat} {h : xH} {pc : Nat} {lv : List (Nat × Value)} {rest : List Value} {cells slots idx : Nat} {M' : xM} {d0 kc ks : Nat} {i : Nat} {a1 a2 : Value} {v : Option Value} {h1 : xH} (d : decode M.2.1 pc = .ok (.invokespecial idx, 3)) (hk : x_CI M.1.cls idx M' 2) (hM : x_Mt E M' d0 kc ks [.ref i, a1, a2] n h (x_Y v n h1)) (hfr : d0 + 1 ≤ R.frames) (hlo : 8 + (M'.2.2.1 + 11) + 64 * d0 ≤ R.locals) (hcl : cells + kc ≤ R.cells) (hsl : slots + ks ≤ R.slots) (hrs : (rest.map fun v => v.category).sum ≤ 8) (ho : M.2.2.2.2.all (fun t => !(decide (t.1 ≤ pc) && decide (pc < t.2.1))) = true) (kr : x_W E M R Q n h1 (pc + 3) lv (v.toList ++ rest) cells slots) : x_W E M R Q n h pc lv (a2 :: a1 :: .ref i :: rest) cells slots :=
  x_callI2 d hk hM hfr hlo hcl hsl hrs ho x_Y_g (x_Y_r kr) x_Y_t
theorem x_callV3Y {E : xR} {M : xM} {R : Room} {Q : xK} {n : Nat} {h : xH} {pc : Nat} {lv : List (Nat × Value)} {rest : List Value} {cells slots idx : Nat} {M' : xM} {d0 kc ks : Nat} {i ci N : Nat} {fs : List Value} {T : u_T} {a1 a2 a3 : Value} {v : Option Value} {h1 : xH} (d : decode M.2.1 pc = .ok (.invokevirtual idx, 3)) (hk : x_CV M.1.cls idx M' 3) (hi : i < n) (hlo1 : i < 1000000) (hc : h i = .inr (ci, fs)) (hcc : x_Cl[ci]? = some (M'.1.cls, T, N)) (hM : x_Mt E M' d0 kc ks [.ref i, a1, a2, a3] n h (x_Y v n h1)) (hfr : d0 + 1 ≤ R.frames) (hlo : 8 + (M'.2.2.1 + 11) + 64 * d0 ≤ R.locals) (hcl : cells + kc ≤ R.cells) (hsl : slots + ks ≤ R.slots) (hrs : (rest.map fun v => v.category).sum ≤ 8) (ho : M.2.2.2.2.all (fun t => !(decide (t.1 ≤ pc) && decide (pc < t.2.1))) = true) (kr : x_W E M R Q n h1 (pc + 3) lv (v.toList ++ rest) cells slots) : x_W E M R Q n h pc lv (a3 :: a2 :: a1 :: .ref i :: rest) cells slots :=
  x_callV3 d hk hi hlo1 hc hcc hM hfr hlo hcl hsl hrs ho x_Y_g (x_Y_r kr) x_Y_t
theorem x_callI3Y {E : xR} {M : xM} {R : Room} {Q : xK} {n : Nat} {h : xH} {pc : Nat} {lv : List (Nat × Value)} {rest : List Value} {cells slots idx : Nat} {M' : xM} {d0 kc ks : Nat} {i : Nat} {a1 a2 a3 : Value} {v : Option Value} {h1 : xH} (d : decode M.2.1 pc = .ok (.invokespecial idx, 3)) (hk : x_CI M.1.cls idx M' 3) (hM : x_Mt E M' d0 kc ks [.ref i, a1, a2, a3] n h (x_Y v n h1)) (hfr : d0 + 1 ≤ R.frames) (hlo : 8 + (M'.2.2.1 + 11) + 64 * d0 ≤ R.locals) (hcl : cells + kc ≤ R.cells) (hsl : slots + ks ≤ R.slots) (hrs : (rest.map fun v => v.category).sum ≤ 8) (ho : M.2.2.2.2.all (fun t => !(decide (t.1 ≤ pc) && decide (pc < t.2.1))) = true) (kr : x_W E M R Q n h1 (pc + 3) lv (v.toList ++ rest) cells slots) : x_W E M R Q n h pc lv (a3 :: a2 :: a1 :: .ref i :: rest) cells slots :=
  x_callI3 d hk hM hfr hlo hcl hsl hrs ho x_Y_g (x_Y_r kr) x_Y_t
theorem x_callV4Y {E : xR} {M : xM} {R : Room} {Q : xK} {n : Nat} {h : xH} {pc : Nat} {lv : List (Nat × Value)} {rest : List Value} {cells slots idx : Nat} {M' : xM} {d0 kc ks : Nat} {i ci N : Nat} {fs : List Value} {T : u_T} {a1 a2 a3 a4 : Value} {v : Option Value} {h1 : xH} (d : decode M.2.1 pc = .ok (.invokevirtual idx, 3)) (hk : x_CV M.1.cls idx M' 4) (hi : i < n) (hlo1 : i < 1000000) (hc : h i = .inr (ci, fs)) (hcc : x_Cl[ci]? = some (M'.1.cls, T, N)) (hM : x_Mt E M' d0 kc ks [.ref i, a1, a2, a3, a4] n h (x_Y v n h1)) (hfr : d0 + 1 ≤ R.frames) (hlo : 8 + (M'.2.2.1 + 11) + 64 * d0 ≤ R.locals) (hcl : cells + kc ≤ R.cells) (hsl : slots + ks ≤ R.slots) (hrs : (rest.map fun v => v.category).sum ≤ 8) (ho : M.2.2.2.2.all (fun t => !(decide (t.1 ≤ pc) && decide (pc < t.2.1))) = true) (kr : x_W E M R Q n h1 (pc + 3) lv (v.toList ++ rest) cells slots) : x_W E M R Q n h pc lv (a4 :: a3 :: a2 :: a1 :: .ref i :: rest) cells slots :=
  x_callV4 d hk hi hlo1 hc hcc hM hfr hlo hcl hsl hrs ho x_Y_g (x_Y_r kr) x_Y_t
theorem x_callI4Y {E : xR} {M : xM} {R : Room} {Q : xK} {n : Nat} {h : xH} {pc : Nat} {lv : List (Nat × Value)} {rest : List Value} {cells slots idx : Nat} {M' : xM} {d0 kc ks : Nat} {i : Nat} {a1 a2 a3 a4 : Value} {v : Option Value} {h1 : xH} (d : decode M.2.1 pc = .ok (.invokespecial idx, 3)) (hk : x_CI M.1.cls idx M' 4) (hM : x_Mt E M' d0 kc ks [.ref i, a1, a2, a3, a4] n h (x_Y v n h1)) (hfr : d0 + 1 ≤ R.frames) (hlo : 8 + (M'.2.2.1 + 11) + 64 * d0 ≤ R.locals) (hcl : cells + kc ≤ R.cells) (hsl : slots + ks ≤ R.slots) (hrs : (rest.map fun v => v.category).sum ≤ 8) (ho : M.2.2.2.2.all (fun t => !(decide (t.1 ≤ pc) && decide (pc < t.2.1))) = true) (kr : x_W E M R Q n h1 (pc + 3) lv (v.toList ++ rest) cells slots) : x_W E M R Q n h pc lv (a4 :: a3 :: a2 :: a1 :: .ref i :: rest) cells slots :=
  x_callI4 d hk hM hfr hlo hcl hsl hrs ho x_Y_g (x_Y_r kr) x_Y_t
theorem x_callV5Y {E : xR} {M : xM} {R : Room} {Q : xK} {n : Nat} {h : xH} {pc : Nat} {lv : List (Nat × Value)} {rest : List Value} {cells slots idx : Nat} {M' : xM} {d0 kc ks : Nat} {i ci N : Nat} {fs : List Value} {T : u_T} {a1 a2 a3 a4 a5 : Value} {v : Option Value} {h1 : xH} (d : decode M.2.1 pc = .ok (.invokevirtual idx, 3)) (hk : x_CV M.1.cls idx M' 5) (hi : i < n) (hlo1 : i < 1000000) (hc : h i = .inr (ci, fs)) (hcc : x_Cl[ci]? = some (M'.1.cls, T, N)) (hM : x_Mt E M' d0 kc ks [.ref i, a1, a2, a3, a4, a5] n h (x_Y v n h1)) (hfr : d0 + 1 ≤ R.frames) (hlo : 8 + (M'.2.2.1 + 11) + 64 * d0 ≤ R.locals) (hcl : cells + kc ≤ R.cells) (hsl : slots + ks ≤ R.slots) (hrs : (rest.map fun v => v.category).sum ≤ 8) (ho : M.2.2.2.2.all (fun t => !(decide (t.1 ≤ pc) && decide (pc < t.2.1))) = true) (kr : x_W E M R Q n h1 (pc + 3) lv (v.toList ++ rest) cells slots) : x_W E M R Q n h pc lv (a5 :: a4 :: a3 :: a2 :: a1 :: .ref i :: rest) cells slots :=
  x_callV5 d hk hi hlo1 hc hcc hM hfr hlo hcl hsl hrs ho x_Y_g (x_Y_r kr) x_Y_t
theorem x_callI5Y {E : xR} {M : xM} {R : Room} {Q : xK} {n : Nat} {h : xH} {pc : Nat} {lv : List (Nat × Value)} {rest : List Value} {cells slots idx : Nat} {M' : xM} {d0 kc ks : Nat} {i : Nat} {a1 a2 a3 a4 a5 : Value} {v : Option Value} {h1 : xH} (d : decode M.2.1 pc = .ok (.invokespecial idx, 3)) (hk : x_CI M.1.cls idx M' 5) (hM : x_Mt E M' d0 kc ks [.ref i, a1, a2, a3, a4, a5] n h (x_Y v n h1)) (hfr : d0 + 1 ≤ R.frames) (hlo : 8 + (M'.2.2.1 + 11) + 64 * d0 ≤ R.locals) (hcl : cells + kc ≤ R.cells) (hsl : slots + ks ≤ R.slots) (hrs : (rest.map fun v => v.category).sum ≤ 8) (ho : M.2.2.2.2.all (fun t => !(decide (t.1 ≤ pc) && decide (pc < t.2.1))) = true) (kr : x_W E M R Q n h1 (pc + 3) lv (v.toList ++ rest) cells slots) : x_W E M R Q n h pc lv (a5 :: a4 :: a3 :: a2 :: a1 :: .ref i :: rest) cells slots :=
  x_callI5 d hk hM hfr hlo hcl hsl hrs ho x_Y_g (x_Y_r kr) x_Y_t
theorem x_callS0Y {E : xR} {M : xM} {R : Room} {Q : xK} {n : Nat} {h : xH} {pc : Nat} {lv : List (Nat × Value)} {rest : List Value} {cells slots idx : Nat} {M' : xM} {d0 kc ks : Nat}  {v : Option Value} {h1 : xH} (d : decode M.2.1 pc = .ok (.invokestatic idx, 3)) (hk : x_CS M.1.cls idx M' 0) (hM : x_Mt E M' d0 kc ks [] n h (x_Y v n h1)) (hfr : d0 + 1 ≤ R.frames) (hlo : 8 + (M'.2.2.1 + 11) + 64 * d0 ≤ R.locals) (hcl : cells + kc ≤ R.cells) (hsl : slots + ks ≤ R.slots) (hrs : (rest.map fun v => v.category).sum ≤ 8) (ho : M.2.2.2.2.all (fun t => !(decide (t.1 ≤ pc) && decide (pc < t.2.1))) = true) (kr : x_W E M R Q n h1 (pc + 3) lv (v.toList ++ rest) cells slots) : x_W E M R Q n h pc lv (rest) cells slots :=
  x_callS0 d hk hM hfr hlo hcl hsl hrs ho x_Y_g (x_Y_r kr) x_Y_t
theorem x_callS1Y {E : xR} {M : xM} {R : Room} {Q : xK} {n : Nat} {h : xH} {pc : Nat} {lv : List (Nat × Value)} {rest : List Value} {cells slots idx : Nat} {M' : xM} {d0 kc ks : Nat} {a1 : Value} {v : Option Value} {h1 : xH} (d : decode M.2.1 pc = .ok (.invokestatic idx, 3)) (hk : x_CS M.1.cls idx M' 1) (hM : x_Mt E M' d0 kc ks [a1] n h (x_Y v n h1)) (hfr : d0 + 1 ≤ R.frames) (hlo : 8 + (M'.2.2.1 + 11) + 64 * d0 ≤ R.locals) (hcl : cells + kc ≤ R.cells) (hsl : slots + ks ≤ R.slots) (hrs : (rest.map fun v => v.category).sum ≤ 8) (ho : M.2.2.2.2.all (fun t => !(decide (t.1 ≤ pc) && decide (pc < t.2.1))) = true) (kr : x_W E M R Q n h1 (pc + 3) lv (v.toList ++ rest) cells slots) : x_W E M R Q n h pc lv (a1 :: rest) cells slots :=
  x_callS1 d hk hM hfr hlo hcl hsl hrs ho x_Y_g (x_Y_r kr) x_Y_t
theorem x_callS2Y {E : xR} {M : xM} {R : Room} {Q : xK} {n : Nat} {h : xH} {pc : Nat} {lv : List (Nat × Value)} {rest : List Value} {cells slots idx : Nat} {M' : xM} {d0 kc ks : Nat} {a1 a2 : Value} {v : Option Value} {h1 : xH} (d : decode M.2.1 pc = .ok (.invokestatic idx, 3)) (hk : x_CS M.1.cls idx M' 2) (hM : x_Mt E M' d0 kc ks [a1, a2] n h (x_Y v n h1)) (hfr : d0 + 1 ≤ R.frames) (hlo : 8 + (M'.2.2.1 + 11) + 64 * d0 ≤ R.locals) (hcl : cells + kc ≤ R.cells) (hsl : slots + ks ≤ R.slots) (hrs : (rest.map fun v => v.category).sum ≤ 8) (ho : M.2.2.2.2.all (fun t => !(decide (t.1 ≤ pc) && decide (pc < t.2.1))) = true) (kr : x_W E M R Q n h1 (pc + 3) lv (v.toList ++ rest) cells slots) : x_W E M R Q n h pc lv (a2 :: a1 :: rest) cells slots :=
  x_callS2 d hk hM hfr hlo hcl hsl hrs ho x_Y_g (x_Y_r kr) x_Y_t
theorem x_callS3Y {E : xR} {M : xM} {R : Room} {Q : xK} {n : Nat} {h : xH} {pc : Nat} {lv : List (Nat × Value)} {rest : List Value} {cells slots idx : Nat} {M' : xM} {d0 kc ks : Nat} {a1 a2 a3 : Value} {v : Option Value} {h1 : xH} (d : decode M.2.1 pc = .ok (.invokestatic idx, 3)) (hk : x_CS M.1.cls idx M' 3) (hM : x_Mt E M' d0 kc ks [a1, a2, a3] n h (x_Y v n h1)) (hfr : d0 + 1 ≤ R.frames) (hlo : 8 + (M'.2.2.1 + 11) + 64 * d0 ≤ R.locals) (hcl : cells + kc ≤ R.cells) (hsl : slots + ks ≤ R.slots) (hrs : (rest.map fun v => v.category).sum ≤ 8) (ho : M.2.2.2.2.all (fun t => !(decide (t.1 ≤ pc) && decide (pc < t.2.1))) = true) (kr : x_W E M R Q n h1 (pc + 3) lv (v.toList ++ rest) cells slots) : x_W E M R Q n h pc lv (a3 :: a2 :: a1 :: rest) cells slots :=
  x_callS3 d hk hM hfr hlo hcl hsl hrs ho x_Y_g (x_Y_r kr) x_Y_t
theorem x_callS4Y {E : xR} {M : xM} {R : Room} {Q : xK} {n : Nat} {h : xH} {pc : Nat} {lv : List (Nat × Value)} {rest : List Value} {cells slots idx : Nat} {M' : xM} {d0 kc ks : Nat} {a1 a2 a3 a4 : Value} {v : Option Value} {h1 : xH} (d : decode M.2.1 pc = .ok (.invokestatic idx, 3)) (hk : x_CS M.1.cls idx M' 4) (hM : x_Mt E M' d0 kc ks [a1, a2, a3, a4] n h (x_Y v n h1)) (hfr : d0 + 1 ≤ R.frames) (hlo : 8 + (M'.2.2.1 + 11) + 64 * d0 ≤ R.locals) (hcl : cells + kc ≤ R.cells) (hsl : slots + ks ≤ R.slots) (hrs : (rest.map fun v => v.category).sum ≤ 8) (ho : M.2.2.2.2.all (fun t => !(decide (t.1 ≤ pc) && decide (pc < t.2.1))) = true) (kr : x_W E M R Q n h1 (pc + 3) lv (v.toList ++ rest) cells slots) : x_W E M R Q n h pc lv (a4 :: a3 :: a2 :: a1 :: rest) cells slots :=
  x_callS4 d hk hM hfr hlo hcl hsl hrs ho x_Y_g (x_Y_r kr) x_Y_t
theorem x_callS5Y {E : xR} {M : xM} {R : Room} {Q : xK} {n : Nat} {h : xH} {pc : Nat} {lv : List (Nat × Value)} {rest : List Value} {cells slots idx : Nat} {M' : xM} {d0 kc ks : Nat} {a1 a2 a3 a4 a5 : Value} {v : Option Value} {h1 : xH} (d : decode M.2.1 pc = .ok (.invokestatic idx, 3)) (hk : x_CS M.1.cls idx M' 5) (hM : x_Mt E M' d0 kc ks [a1, a2, a3, a4, a5] n h (x_Y v n h1)) (hfr : d0 + 1 ≤ R.frames) (hlo : 8 + (M'.2.2.1 + 11) + 64 * d0 ≤ R.locals) (hcl : cells + kc ≤ R.cells) (hsl : slots + ks ≤ R.slots) (hrs : (rest.map fun v => v.category).sum ≤ 8) (ho : M.2.2.2.2.all (fun t => !(decide (t.1 ≤ pc) && decide (pc < t.2.1))) = true) (kr : x_W E M R Q n h1 (pc + 3) lv (v.toList ++ rest) cells slots) : x_W E M R Q n h pc lv (a5 :: a4 :: a3 :: a2 :: a1 :: rest) cells slots :=
  x_callS5 d hk hM hfr hlo hcl hsl hrs ho x_Y_g (x_Y_r kr) x_Y_t
theorem x_callS6Y {E : xR} {M : xM} {R : Room} {Q : xK} {n : Nat} {h : xH} {pc : Nat} {lv : List (Nat × Value)} {rest : List Value} {cells slots idx : Nat} {M' : xM} {d0 kc ks : Nat} {a1 a2 a3 a4 a5 a6 : Value} {v : Option Value} {h1 : xH} (d : decode M.2.1 pc = .ok (.invokestatic idx, 3)) (hk : x_CS M.1.cls idx M' 6) (hM : x_Mt E M' d0 kc ks [a1, a2, a3, a4, a5, a6] n h (x_Y v n h1)) (hfr : d0 + 1 ≤ R.frames) (hlo : 8 + (M'.2.2.1 + 11) + 64 * d0 ≤ R.locals) (hcl : cells + kc ≤ R.cells) (hsl : slots + ks ≤ R.slots) (hrs : (rest.map fun v => v.category).sum ≤ 8) (ho : M.2.2.2.2.all (fun t => !(decide (t.1 ≤ pc) && decide (pc < t.2.1))) = true) (kr : x_W E M R Q n h1 (pc + 3) lv (v.toList ++ rest) cells slots) : x_W E M R Q n h pc lv (a6 :: a5 :: a4 :: a3 :: a2 :: a1 :: rest) cells slots :=
  x_callS6 d hk hM hfr hlo hcl hsl hrs ho x_Y_g (x_Y_r kr) x_Y_t
theorem x_callS7Y {E : xR} {M : xM} {R : Room} {Q : xK} {n : Nat} {h : xH} {pc : Nat} {lv : List (Nat × Value)} {rest : List Value} {cells slots idx : Nat} {M' : xM} {d0 kc ks : Nat} {a1 a2 a3 a4 a5 a6 a7 : Value} {v : Option Value} {h1 : xH} (d : decode M.2.1 pc = .ok (.invokestatic idx, 3)) (hk : x_CS M.1.cls idx M' 7) (hM : x_Mt E M' d0 kc ks [a1, a2, a3, a4, a5, a6, a7] n h (x_Y v n h1)) (hfr : d0 + 1 ≤ R.frames) (hlo : 8 + (M'.2.2.1 + 11) + 64 * d0 ≤ R.locals) (hcl : cells + kc ≤ R.cells) (hsl : slots + ks ≤ R.slots) (hrs : (rest.map fun v => v.category).sum ≤ 8) (ho : M.2.2.2.2.all (fun t => !(decide (t.1 ≤ pc) && decide (pc < t.2.1))) = true) (kr : x_W E M R Q n h1 (pc + 3) lv (v.toList ++ rest) cells slots) : x_W E M R Q n h pc lv (a7 :: a6 :: a5 :: a4 :: a3 :: a2 :: a1 :: rest) cells slots :=
  x_callS7 d hk hM hfr hlo hcl hsl hrs ho x_Y_g (x_Y_r kr) x_Y_t
/-- two worlds of 52 cells, cell by cell -/
theorem x_pt {h1 h2 : xH} (p0 : h1 0 = h2 0) (p1 : h1 1 = h2 1) (p2 : h1 2 = h2 2) (p3 : h1 3 = h2 3) (p4 : h1 4 = h2 4) (p5 : h1 5 = h2 5) (p6 : h1 6 = h2 6) (p7 : h1 7 = h2 7) (p8 : h1 8 = h2 8) (p9 : h1 9 = h2 9) (p10 : h1 10 = h2 10) (p11 : h1 11 = h2 11) (p12 : h1 12 = h2 12) (p13 : h1 13 = h2 13) (p14 : h1 14 = h2 14) (p15 : h1 15 = h2 15) (p16 : h1 16 = h2 16) (p17 : h1 17 = h2 17) (p18 : h1 18 = h2 18) (p19 : h1 19 = h2 19) (p20 : h1 20 = h2 20) (p21 : h1 21 = h2 21) (p22 : h1 22 = h2 22) (p23 : h1 23 = h2 23) (p24 : h1 24 = h2 24) (p25 : h1 25 = h2 25) (p26 : h1 26 = h2 26) (p27 : h1 27 = h2 27) (p28 : h1 28 = h2 28) (p29 : h1 29 = h2 29) (p30 : h1 30 = h2 30) (p31 : h1 31 = h2 31) (p32 : h1 32 = h2 32) (p33 : h1 33 = h2 33) (p34 : h1 34 = h2 34) (p35 : h1 35 = h2 35) (p36 : h1 36 = h2 36) (p37 : h1 37 = h2 37) (p38 : h1 38 = h2 38) (p39 : h1 39 = h2 39) (p40 : h1 40 = h2 40) (p41 : h1 41 = h2 41) (p42 : h1 42 = h2 42) (p43 : h1 43 = h2 43) (p44 : h1 44 = h2 44) (p45 : h1 45 = h2 45) (p46 : h1 46 = h2 46) (p47 : h1 47 = h2 47) (p48 : h1 48 = h2 48) (p49 : h1 49 = h2 49) (p50 : h1 50 = h2 50) (p51 : h1 51 = h2 51) : ∀ k, k < 52 → h1 k = h2 k := by
  intro k hk
  match k, hk with
  | 0, _ => exact p0
  | 1, _ => exact p1
  | 2, _ => exact p2
  | 3, _ => exact p3
  | 4, _ => exact p4
  | 5, _ => exact p5
  | 6, _ => exact p6
  | 7, _ => exact p7
  | 8, _ => exact p8
  | 9, _ => exact p9
  | 10, _ => exact p10
  | 11, _ => exact p11
  | 12, _ => exact p12
  | 13, _ => exact p13
  | 14, _ => exact p14
  | 15, _ => exact p15
  | 16, _ => exact p16
  | 17, _ => exact p17
  | 18, _ => exact p18
  | 19, _ => exact p19
  | 20, _ => exact p20
  | 21, _ => exact p21
  | 22, _ => exact p22
  | 23, _ => exact p23
  | 24, _ => exact p24
  | 25, _ => exact p25
  | 26, _ => exact p26
  | 27, _ => exact p27
  | 28, _ => exact p28
  | 29, _ => exact p29
  | 30, _ => exact p30
  | 31, _ => exact p31
  | 32, _ => exact p32
  | 33, _ => exact p33
  | 34, _ => exact p34
  | 35, _ => exact p35
  | 36, _ => exact p36
  | 37, _ => exact p37
  | 38, _ => exact p38
  | 39, _ => exact p39
  | 40, _ => exact p40
  | 41, _ => exact p41
  | 42, _ => exact p42
  | 43, _ => exact p43
  | 44, _ => exact p44
  | 45, _ => exact p45
  | 46, _ => exact p46
  | 47, _ => exact p47
  | 48, _ => exact p48
  | 49, _ => exact p49
  | 50, _ => exact p50
  | 51, _ => exact p51
  | k + 52, hk => omega
