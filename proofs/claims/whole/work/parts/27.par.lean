/-- the cell of Signs at the sign of place p -/
def g_sgc (u : Nat → Nat) (N p : Nat) : xE := .inr (2, [.ref 1, .int (nI N), .int (nI (g_bh (g_at u N) N p)), .ref (1000000 + g_sg (g_ky (g_at u N) N p)), .int (nI p), .int (nI (g_fr (g_at u N) N p)), .int (nI (g_to (g_at u N) N p)), .int (-1)])
/-- the world while the parser is at work -/
def g_pw (u : Nat → Nat) (N : Nat) (h : xH) (p s w : Nat) (A : Nat → Nat → Int32) : xH := g_tw (x_up h 3 (g_sgc u N p)) (nI s) (nI w) 0 A
/-- broken at q -/
def g_XF (N : Nat) (h : xH) (q : Nat) : xK := fun o n' h' k j => o = .inr 2 ∧ n' = 52 ∧ k = 1 ∧ j = 6 ∧ ∃ (c2 c3 c4 c5 c6 : Value) (s w : Int32) (A : Nat → Nat → Int32), g_okA A ∧ ∀ i, i < 52 → h' i = g_tw (x_up h 3 (.inr (2, [.ref 1, .int (nI N), c2, c3, c4, c5, c6, .int (nI q)]))) s w 0 A i
/-- what a stretch of the reading leaves: the class breaks as soon as it meets a wrong sign -/
def g_Po (u : Nat → Nat) (N : Nat) (h : xH) (A : Nat → Nat → Int32) (s : Nat) (r : g_Rs) : xK := match r with
  | .inl q => g_XF N h q
  | .inr (p', s', V', t, _) => if g_ky (g_at u N) N p' = 12 then g_XF N h p' else fun o n' h' k j => ∃ (A' : Nat → Nat → Int32) (w' jn : Nat), o = .inl (some (.int (nI jn))) ∧ n' = 52 ∧ k = 0 ∧ j = 0 ∧ jn < 1001 ∧ w' ≤ 1000 ∧ g_okA A' ∧ g_RL A A' s s' w' V' t jn ∧ ∀ i, i < 52 → h' i = g_pw u N h p' s' w' A' i
/-- broken at q, or stopped before a wrong sign at q -/
def g_dd (u : Nat → Nat) (N : Nat) (r : g_Rs) (q : Nat) : Prop := r = .inl q ∨ ∃ s V t c, r = .inr (q, s, V, t, c) ∧ g_ky (g_at u N) N q = 12
theorem g_Po_x {u : Nat → Nat} {N : Nat} {h : xH} {A : Nat → Nat → Int32} {s q : Nat} {r : g_Rs} {o : xO} {n' : Nat} {h' : xH} {k j : Nat} (hd : g_dd u N r q) (hx : g_XF N h q o n' h' k j) : g_Po u N h A s r o n' h' k j := by
  rcases hd with rfl | ⟨s', V, t, c, rfl, hk⟩
  · exact hx
  · show (if g_ky (g_at u N) N q = 12 then g_XF N h q else _) o n' h' k j
    rw [if_pos hk]
    exact hx
theorem g_Po_y {u : Nat → Nat} {N : Nat} {h : xH} {A A' : Nat → Nat → Int32} {s p' s' w' jn c : Nat} {V' : List (Nat × Nat)} {t : Nat × Std.Format} {r : g_Rs} {h' : xH} (hr : r = .inr (p', s', V', t, c)) (hk : ¬ g_ky (g_at u N) N p' = 12) (h1 : jn < 1001) (h2 : w' ≤ 1000) (h3 : g_okA A') (h4 : g_RL A A' s s' w' V' t jn) (h5 : ∀ i, i < 52 → h' i = g_pw u N h p' s' w' A' i) : g_Po u N h A s r (.inl (some (.int (nI jn)))) 52 h' 0 0 := by
  subst hr
  show (if g_ky (g_at u N) N p' = 12 then g_XF N h p' else _) _ 52 h' 0 0
  rw [if_neg hk]
  exact ⟨A', w', jn, rfl, rfl, rfl, rfl, h1, h2, h3, h4, h5⟩
theorem x_callV0P {E : xR} {M : xM} {R : Room} {Q : xK} {h : xH} {pc : Nat} {lv : List (Nat × Value)} {rest : List Value} {u : Nat → Nat} {N p s w : Nat} {A : Nat → Nat → Int32} {r : g_Rs} {idx : Nat} {M' : xM} {d0 : Nat} {i ci N0 : Nat} {fs : List Value} {T : u_T} (d : decode M.2.1 pc = .ok (.invokevirtual idx, 3)) (hk : x_CV M.1.cls idx M' 0) (hi : i < 52) (hlo1 : i < 1000000) (hc : (g_pw u N h p s w A) i = .inr (ci, fs)) (hcc : x_Cl[ci]? = some (M'.1.cls, T, N0)) (hM : x_Mt E M' d0 1 6 [.ref i] 52 (g_pw u N h p s w A) (g_Po u N h A s r)) (hfr : d0 + 1 ≤ R.frames) (hlo : 8 + (M'.2.2.1 + 11) + 64 * d0 ≤ R.locals) (hcl : 1 ≤ R.cells) (hsl : 6 ≤ R.slots) (hrs : (rest.map fun v => v.category).sum ≤ 8) (ho : M.2.2.2.2.all (fun t => !(decide (t.1 ≤ pc) && decide (pc < t.2.1))) = true) (hnt : ¬ x_tg E)
    (kr : ∀ p' s' V' t c A' w' jn, r = .inr (p', s', V', t, c) → ¬ g_ky (g_at u N) N p' = 12 → jn < 1001 → w' ≤ 1000 → g_okA A' → g_RL A A' s s' w' V' t jn → x_W E M R Q 52 (g_pw u N h p' s' w' A') (pc + 3) lv (.int (nI jn) :: rest) 0 0)
    (kt : ∀ q, g_dd u N r q → ∀ h', g_XF N h q (.inr 2) 52 h' 1 6 → Q (.inr 2) 52 h' 1 6) : x_W E M R Q 52 (g_pw u N h p s w A) pc lv (.ref i :: rest) 0 0 := by
  refine x_callV0 d hk hi hlo1 hc hcc hM hfr hlo (by omega) (by omega) hrs ho (fun z => absurd z hnt) (fun v n' h' k j hq => ?_) (fun q n' h' k j hq => ?_)
  · cases hr : r with
    | inl q => rw [hr] at hq; cases hq.1
    | inr y =>
      obtain ⟨p', s', V', t, c⟩ := y
      rw [hr] at hq
      change (if g_ky (g_at u N) N p' = 12 then g_XF N h p' else _) _ n' h' k j at hq
      by_cases hk12 : g_ky (g_at u N) N p' = 12
      · rw [if_pos hk12] at hq; cases hq.1
      · rw [if_neg hk12] at hq
        obtain ⟨A', w', jn, e1, e2, e3, e4, e5, e6, e7, e8, e9⟩ := hq
        cases e1
        subst e2 e3 e4
        exact x_same e9 (kr p' s' V' t c A' w' jn hr hk12 e5 e6 e7 e8)
  · cases hr : r with
    | inl q0 =>
      rw [hr] at hq
      have hx := hq
      obtain ⟨e1, e2, e3, e4, -⟩ := hq
      cases e1
      subst e2 e3 e4
      exact kt q0 (Or.inl hr) h' hx
    | inr y =>
      obtain ⟨p', s', V', t, c⟩ := y
      rw [hr] at hq
      change (if g_ky (g_at u N) N p' = 12 then g_XF N h p' else _) _ n' h' k j at hq
      by_cases hk12 : g_ky (g_at u N) N p' = 12
      · rw [if_pos hk12] at hq
        have hx := hq
        obtain ⟨e1, e2, e3, e4, -⟩ := hq
        cases e1
        subst e2 e3 e4
        exact kt p' (Or.inr ⟨s', V', t, c, hr, hk12⟩) h' hx
      · rw [if_neg hk12] at hq
        obtain ⟨A', w', jn, e1, -⟩ := hq
        cases e1
theorem x_callV1P {E : xR} {M : xM} {R : Room} {Q : xK} {h : xH} {pc : Nat} {lv : List (Nat × Value)} {rest : List Value} {u : Nat → Nat} {N p s w : Nat} {A : Nat → Nat → Int32} {r : g_Rs} {idx : Nat} {M' : xM} {d0 : Nat} {i ci N0 : Nat} {fs : List Value} {T : u_T} {a1 : Value} (d : decode M.2.1 pc = .ok (.invokevirtual idx, 3)) (hk : x_CV M.1.cls idx M' 1) (hi : i < 52) (hlo1 : i < 1000000) (hc : (g_pw u N h p s w A) i = .inr (ci, fs)) (hcc : x_Cl[ci]? = some (M'.1.cls, T, N0)) (hM : x_Mt E M' d0 1 6 [.ref i, a1] 52 (g_pw u N h p s w A) (g_Po u N h A s r)) (hfr : d0 + 1 ≤ R.frames) (hlo : 8 + (M'.2.2.1 + 11) + 64 * d0 ≤ R.locals) (hcl : 1 ≤ R.cells) (hsl : 6 ≤ R.slots) (hrs : (rest.map fun v => v.category).sum ≤ 8) (ho : M.2.2.2.2.all (fun t => !(decide (t.1 ≤ pc) && decide (pc < t.2.1))) = true) (hnt : ¬ x_tg E)
    (kr : ∀ p' s' V' t c A' w' jn, r = .inr (p', s', V', t, c) → ¬ g_ky (g_at u N) N p' = 12 → jn < 1001 → w' ≤ 1000 → g_okA A' → g_RL A A' s s' w' V' t jn → x_W E M R Q 52 (g_pw u N h p' s' w' A') (pc + 3) lv (.int (nI jn) :: rest) 0 0)
    (kt : ∀ q, g_dd u N r q → ∀ h', g_XF N h q (.inr 2) 52 h' 1 6 → Q (.inr 2) 52 h' 1 6) : x_W E M R Q 52 (g_pw u N h p s w A) pc lv (a1 :: .ref i :: rest) 0 0 := by
  refine x_callV1 d hk hi hlo1 hc hcc hM hfr hlo (by omega) (by omega) hrs ho (fun z => absurd z hnt) (fun v n' h' k j hq => ?_) (fun q n' h' k j hq => ?_)
  · cases hr : r with
    | inl q => rw [hr] at hq; cases hq.1
    | inr y =>
      obtain ⟨p', s', V', t, c⟩ := y
      rw [hr] at hq
      change (if g_ky (g_at u N) N p' = 12 then g_XF N h p' else _) _ n' h' k j at hq
      by_cases hk12 : g_ky (g_at u N) N p' = 12
      · rw [if_pos hk12] at hq; cases hq.1
      · rw [if_neg hk12] at hq
        obtain ⟨A', w', jn, e1, e2, e3, e4, e5, e6, e7, e8, e9⟩ := hq
        cases e1
        subst e2 e3 e4
        exact x_same e9 (kr p' s' V' t c A' w' jn hr hk12 e5 e6 e7 e8)
  · cases hr : r with
    | inl q0 =>
      rw [hr] at hq
      have hx := hq
      obtain ⟨e1, e2, e3, e4, -⟩ := hq
      cases e1
      subst e2 e3 e4
      exact kt q0 (Or.inl hr) h' hx
    | inr y =>
      obtain ⟨p', s', V', t, c⟩ := y
      rw [hr] at hq
      change (if g_ky (g_at u N) N p' = 12 then g_XF N h p' else _) _ n' h' k j at hq
      by_cases hk12 : g_ky (g_at u N) N p' = 12
      · rw [if_pos hk12] at hq
        have hx := hq
        obtain ⟨e1, e2, e3, e4, -⟩ := hq
        cases e1
        subst e2 e3 e4
        exact kt p' (Or.inr ⟨s', V', t, c, hr, hk12⟩) h' hx
      · rw [if_neg hk12] at hq
        obtain ⟨A', w', jn, e1, -⟩ := hq
        cases e1
theorem x_callV2P {E : xR} {M : xM} {R : Room} {Q : xK} {h : xH} {pc : Nat} {lv : List (Nat × Value)} {rest : List Value} {u : Nat → Nat} {N p s w : Nat} {A : Nat → Nat → Int32} {r : g_Rs} {idx : Nat} {M' : xM} {d0 : Nat} {i ci N0 : Nat} {fs : List Value} {T : u_T} {a1 a2 : Value} (d : decode M.2.1 pc = .ok (.invokevirtual idx, 3)) (hk : x_CV M.1.cls idx M' 2) (hi : i < 52) (hlo1 : i < 1000000) (hc : (g_pw u N h p s w A) i = .inr (ci, fs)) (hcc : x_Cl[ci]? = some (M'.1.cls, T, N0)) (hM : x_Mt E M' d0 1 6 [.ref i, a1, a2] 52 (g_pw u N h p s w A) (g_Po u N h A s r)) (hfr : d0 + 1 ≤ R.frames) (hlo : 8 + (M'.2.2.1 + 11) + 64 * d0 ≤ R.locals) (hcl : 1 ≤ R.cells) (hsl : 6 ≤ R.slots) (hrs : (rest.map fun v => v.category).sum ≤ 8) (ho : M.2.2.2.2.all (fun t => !(decide (t.1 ≤ pc) && decide (pc < t.2.1))) = true) (hnt : ¬ x_tg E)
    (kr : ∀ p' s' V' t c A' w' jn, r = .inr (p', s', V', t, c) → ¬ g_ky (g_at u N) N p' = 12 → jn < 1001 → w' ≤ 1000 → g_okA A' → g_RL A A' s s' w' V' t jn → x_W E M R Q 52 (g_pw u N h p' s' w' A') (pc + 3) lv (.int (nI jn) :: rest) 0 0)
    (kt : ∀ q, g_dd u N r q → ∀ h', g_XF N h q (.inr 2) 52 h' 1 6 → Q (.inr 2) 52 h' 1 6) : x_W E M R Q 52 (g_pw u N h p s w A) pc lv (a2 :: a1 :: .ref i :: rest) 0 0 := by
  refine x_callV2 d hk hi hlo1 hc hcc hM hfr hlo (by omega) (by omega) hrs ho (fun z => absurd z hnt) (fun v n' h' k j hq => ?_) (fun q n' h' k j hq => ?_)
  · cases hr : r with
    | inl q => rw [hr] at hq; cases hq.1
    | inr y =>
      obtain ⟨p', s', V', t, c⟩ := y
      rw [hr] at hq
      change (if g_ky (g_at u N) N p' = 12 then g_XF N h p' else _) _ n' h' k j at hq
      by_cases hk12 : g_ky (g_at u N) N p' = 12
      · rw [if_pos hk12] at hq; cases hq.1
      · rw [if_neg hk12] at hq
        obtain ⟨A', w', jn, e1, e2, e3, e4, e5, e6, e7, e8, e9⟩ := hq
        cases e1
        subst e2 e3 e4
        exact x_same e9 (kr p' s' V' t c A' w' jn hr hk12 e5 e6 e7 e8)
  · cases hr : r with
    | inl q0 =>
      rw [hr] at hq
      have hx := hq
      obtain ⟨e1, e2, e3, e4, -⟩ := hq
      cases e1
      subst e2 e3 e4
      exact kt q0 (Or.inl hr) h' hx
    | inr y =>
      obtain ⟨p', s', V', t, c⟩ := y
      rw [hr] at hq
      change (if g_ky (g_at u N) N p' = 12 then g_XF N h p' else _) _ n' h' k j at hq
      by_cases hk12 : g_ky (g_at u N) N p' = 12
      · rw [if_pos hk12] at hq
        have hx := hq
        obtain ⟨e1, e2, e3, e4, -⟩ := hq
        cases e1
        subst e2 e3 e4
        exact kt p' (Or.inr ⟨s', V', t, c, hr, hk12⟩) h' hx
      · rw [if_neg hk12] at hq
        obtain ⟨A', w', jn, e1, -⟩ := hq
        cases e1
theorem x_callV3P {E : xR} {M : xM} {R : Room} {Q : xK} {h : xH} {pc : Nat} {lv : List (Nat × Value)} {rest : List Value} {u : Nat → Nat} {N p s w : Nat} {A : Nat → Nat → Int32} {r : g_Rs} {idx : Nat} {M' : xM} {d0 : Nat} {i ci N0 : Nat} {fs : List Value} {T : u_T} {a1 a2 a3 : Value} (d : decode M.2.1 pc = .ok (.invokevirtual idx, 3)) (hk : x_CV M.1.cls idx M' 3) (hi : i < 52) (hlo1 : i < 1000000) (hc : (g_pw u N h p s w A) i = .inr (ci, fs)) (hcc : x_Cl[ci]? = some (M'.1.cls, T, N0)) (hM : x_Mt E M' d0 1 6 [.ref i, a1, a2, a3] 52 (g_pw u N h p s w A) (g_Po u N h A s r)) (hfr : d0 + 1 ≤ R.frames) (hlo : 8 + (M'.2.2.1 + 11) + 64 * d0 ≤ R.locals) (hcl : 1 ≤ R.cells) (hsl : 6 ≤ R.slots) (hrs : (rest.map fun v => v.category).sum ≤ 8) (ho : M.2.2.2.2.all (fun t => !(decide (t.1 ≤ pc) && decide (pc < t.2.1))) = true) (hnt : ¬ x_tg E)
    (kr : ∀ p' s' V' t c A' w' jn, r = .inr (p', s', V', t, c) → ¬ g_ky (g_at u N) N p' = 12 → jn < 1001 → w' ≤ 1000 → g_okA A' → g_RL A A' s s' w' V' t jn → x_W E M R Q 52 (g_pw u N h p' s' w' A') (pc + 3) lv (.int (nI jn) :: rest) 0 0)
    (kt : ∀ q, g_dd u N r q → ∀ h', g_XF N h q (.inr 2) 52 h' 1 6 → Q (.inr 2) 52 h' 1 6) : x_W E M R Q 52 (g_pw u N h p s w A) pc lv (a3 :: a2 :: a1 :: .ref i :: rest) 0 0 := by
  refine x_callV3 d hk hi hlo1 hc hcc hM hfr hlo (by omega) (by omega) hrs ho (fun z => absurd z hnt) (fun v n' h' k j hq => ?_) (fun q n' h' k j hq => ?_)
  · cases hr : r with
    | inl q => rw [hr] at hq; cases hq.1
    | inr y =>
      obtain ⟨p', s', V', t, c⟩ := y
      rw [hr] at hq
      change (if g_ky (g_at u N) N p' = 12 then g_XF N h p' else _) _ n' h' k j at hq
      by_cases hk12 : g_ky (g_at u N) N p' = 12
      · rw [if_pos hk12] at hq; cases hq.1
      · rw [if_neg hk12] at hq
        obtain ⟨A', w', jn, e1, e2, e3, e4, e5, e6, e7, e8, e9⟩ := hq
        cases e1
        subst e2 e3 e4
        exact x_same e9 (kr p' s' V' t c A' w' jn hr hk12 e5 e6 e7 e8)
  · cases hr : r with
    | inl q0 =>
      rw [hr] at hq
      have hx := hq
      obtain ⟨e1, e2, e3, e4, -⟩ := hq
      cases e1
      subst e2 e3 e4
      exact kt q0 (Or.inl hr) h' hx
    | inr y =>
      obtain ⟨p', s', V', t, c⟩ := y
      rw [hr] at hq
      change (if g_ky (g_at u N) N p' = 12 then g_XF N h p' else _) _ n' h' k j at hq
      by_cases hk12 : g_ky (g_at u N) N p' = 12
      · rw [if_pos hk12] at hq
        have hx := hq
        obtain ⟨e1, e2, e3, e4, -⟩ := hq
        cases e1
        subst e2 e3 e4
        exact kt p' (Or.inr ⟨s', V', t, c, hr, hk12⟩) h' hx
      · rw [if_neg hk12] at hq
        obtain ⟨A', w', jn, e1, -⟩ := hq
        cases e1
theorem x_callV4P {E : xR} {M : xM} {R : Room} {Q : xK} {h : xH} {pc : Nat} {lv : List (Nat × Value)} {rest : List Value} {u : Nat → Nat} {N p s w : Nat} {A : Nat → Nat → Int32} {r : g_Rs} {idx : Nat} {M' : xM} {d0 : Nat} {i ci N0 : Nat} {fs : List Value} {T : u_T} {a1 a2 a3 a4 : Value} (d : decode M.2.1 pc = .ok (.invokevirtual idx, 3)) (hk : x_CV M.1.cls idx M' 4) (hi : i < 52) (hlo1 : i < 1000000) (hc : (g_pw u N h p s w A) i = .inr (ci, fs)) (hcc : x_Cl[ci]? = some (M'.1.cls, T, N0)) (hM : x_Mt E M' d0 1 6 [.ref i, a1, a2, a3, a4] 52 (g_pw u N h p s w A) (g_Po u N h A s r)) (hfr : d0 + 1 ≤ R.frames) (hlo : 8 + (M'.2.2.1 + 11) + 64 * d0 ≤ R.locals) (hcl : 1 ≤ R.cells) (hsl : 6 ≤ R.slots) (hrs : (rest.map fun v => v.category).sum ≤ 8) (ho : M.2.2.2.2.all (fun t => !(decide (t.1 ≤ pc) && decide (pc < t.2.1))) = true) (hnt : ¬ x_tg E)
    (kr : ∀ p' s' V' t c A' w' jn, r = .inr (p', s', V', t, c) → ¬ g_ky (g_at u N) N p' = 12 → jn < 1001 → w' ≤ 1000 → g_okA A' → g_RL A A' s s' w' V' t jn → x_W E M R Q 52 (g_pw u N h p' s' w' A') (pc + 3) lv (.int (nI jn) :: rest) 0 0)
    (kt : ∀ q, g_dd u N r q → ∀ h', g_XF N h q (.inr 2) 52 h' 1 6 → Q (.inr 2) 52 h' 1 6) : x_W E M R Q 52 (g_pw u N h p s w A) pc lv (a4 :: a3 :: a2 :: a1 :: .ref i :: rest) 0 0 := by
  refine x_callV4 d hk hi hlo1 hc hcc hM hfr hlo (by omega) (by omega) hrs ho (fun z => absurd z hnt) (fun v n' h' k j hq => ?_) (fun q n' h' k j hq => ?_)
  · cases hr : r with
    | inl q => rw [hr] at hq; cases hq.1
    | inr y =>
      obtain ⟨p', s', V', t, c⟩ := y
      rw [hr] at hq
      change (if g_ky (g_at u N) N p' = 12 then g_XF N h p' else _) _ n' h' k j at hq
      by_cases hk12 : g_ky (g_at u N) N p' = 12
      · rw [if_pos hk12] at hq; cases hq.1
      · rw [if_neg hk12] at hq
        obtain ⟨A', w', jn, e1, e2, e3, e4, e5, e6, e7, e8, e9⟩ := hq
        cases e1
        subst e2 e3 e4
        exact x_same e9 (kr p' s' V' t c A' w' jn hr hk12 e5 e6 e7 e8)
  · cases hr : r with
    | inl q0 =>
      rw [hr] at hq
      have hx := hq
      obtain ⟨e1, e2, e3, e4, -⟩ := hq
      cases e1
      subst e2 e3 e4
      exact kt q0 (Or.inl hr) h' hx
    | inr y =>
      obtain ⟨p', s', V', t, c⟩ := y
      rw [hr] at hq
      change (if g_ky (g_at u N) N p' = 12 then g_XF N h p' else _) _ n' h' k j at hq
      by_cases hk12 : g_ky (g_at u N) N p' = 12
      · rw [if_pos hk12] at hq
        have hx := hq
        obtain ⟨e1, e2, e3, e4, -⟩ := hq
        cases e1
        subst e2 e3 e4
        exact kt p' (Or.inr ⟨s', V', t, c, hr, hk12⟩) h' hx
      · rw [if_neg hk12] at hq
        obtain ⟨A', w', jn, e1, -⟩ := hq
        cases e1
theorem g_pe (x : Nat × Nat × Nat × Nat) : x = (x.1, x.2.1, x.2.2.1, x.2.2.2) := rfl
theorem g_tkE {a : Nat → Int32} {N p : Nat} : g_tk a N p = (g_ky a N p, g_fr a N p, g_to a N p, g_bh a N p) := g_pe _
set_option maxRecDepth 20000 in
theorem g_pw_up {u : Nat → Nat} {h : xH} {N p s w : Nat} {A : Nat → Nat → Int32} {c : xE} : ∀ i, i < 52 → x_up (g_pw u N h p s w A) 3 c i = g_tw (x_up h 3 c) (nI s) (nI w) 0 A i := x_pt rfl rfl rfl rfl rfl rfl rfl rfl rfl rfl rfl rfl rfl rfl rfl rfl rfl rfl rfl rfl rfl rfl rfl rfl rfl rfl rfl rfl rfl rfl rfl rfl rfl rfl rfl rfl rfl rfl rfl rfl rfl rfl rfl rfl rfl rfl rfl rfl rfl rfl rfl rfl
theorem g_pw3 {u : Nat → Nat} {h : xH} {N p s w : Nat} {A : Nat → Nat → Int32} : (g_pw u N h p s w A) 3 = (.inr (2, [.ref 1, .int (nI N), .int (nI (g_bh (g_at u N) N p)), .ref (1000000 + g_sg (g_ky (g_at u N) N p)), .int (nI p), .int (nI (g_fr (g_at u N) N p)), .int (nI (g_to (g_at u N) N p)), .int (-1)])) := rfl
theorem g_pw1 {u : Nat → Nat} {h : xH} {N p s w : Nat} {A : Nat → Nat → Int32} : (g_pw u N h p s w A) 1 = h 1 := rfl
theorem x_callAdv {E : xR} {M : xM} {R : Room} {Q : xK} {h : xH} {pc : Nat} {lv : List (Nat × Value)} {rest : List Value} {u : Nat → Nat} {N p s w : Nat} {A : Nat → Nat → Int32} {idx : Nat} (h1 : h 1 = .inl (1, 4096, .inl (fun i => g_sb (u i)))) (hu : ∀ i, u i < 256) (hN : N ≤ 4096) (ok : g_okA A) (hp : p ≤ N) (hk12 : ¬ g_ky (g_at u N) N p = 12) (d : decode M.2.1 pc = .ok (.invokevirtual idx, 3)) (hk : x_CV M.1.cls idx M_SG_advance 0) (hfr : 9 ≤ R.frames) (hlo : 8 + 13 + 64 * 8 ≤ R.locals) (hcl : 1 ≤ R.cells) (hsl : 6 ≤ R.slots) (hrs : (rest.map fun v => v.category).sum ≤ 8) (ho : M.2.2.2.2.all (fun t => !(decide (t.1 ≤ pc) && decide (pc < t.2.1))) = true)
    (kr : ¬ g_ky (g_at u N) N (g_nx (g_at u N) N p) = 12 → x_W E M R Q 52 (g_pw u N h (g_nx (g_at u N) N p) s w A) (pc + 3) lv rest 0 0) (kt : g_ky (g_at u N) N (g_nx (g_at u N) N p) = 12 → ∀ h', g_XF N h (g_nx (g_at u N) N p) (.inr 2) 52 h' 1 6 → Q (.inr 2) 52 h' 1 6) : x_W E M R Q 52 (g_pw u N h p s w A) pc lv (.ref 3 :: rest) 0 0 := by
  have hb : g_bh (g_at u N) N p ≤ N := ((g_tkb (u := u) hp).2.1 hk12).2.2.1
  have hM := w_SG_advance (E := E) (h := g_pw u N h p s w A) (i := g_bh (g_at u N) N p) (p := (g_nx (g_at u N) N p)) (k := g_ky (g_at u N) N (g_nx (g_at u N) N p)) (f := g_fr (g_at u N) N (g_nx (g_at u N) N p)) (t := g_to (g_at u N) N (g_nx (g_at u N) N p)) (b := g_bh (g_at u N) N (g_nx (g_at u N) N p)) g_pw3 (g_pw1.trans h1) hu hN hb rfl g_tkE
  refine x_callV0B d hk (Nat.le_of_ble_eq_true rfl) (Nat.le_of_ble_eq_true rfl) g_pw3 (by rfl) hM hfr hlo (by omega) (by omega) hrs ho (fun hq => ?_) (fun hq h' e => ?_)
  · have hq2 : ¬ g_ky (g_at u N) N (g_nx (g_at u N) N p) = 12 := fun z => by rw [z] at hq; cases hq
    exact x_same g_pw_up (kr hq2)
  · have hq2 : g_ky (g_at u N) N (g_nx (g_at u N) N p) = 12 := by
      rcases Nat.decEq (g_ky (g_at u N) N (g_nx (g_at u N) N p)) 12 with z | z
      · rw [decide_eq_false z] at hq; cases hq
      · exact z
    exact kt hq2 h' ⟨rfl, rfl, rfl, rfl, _, _, _, _, _, _, _, A, ok, fun i hi => (e i hi).trans (g_pw_up i hi)⟩
