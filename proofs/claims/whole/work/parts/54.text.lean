theorem g_symb39 : g_symb 39 = false := by decide +kernel
theorem g_sbT : ∀ x, x < 256 → ((g_sb x = 39 ↔ x = 39) ∧ g_dig (g_sb x) = g_dig (nI x) ∧ g_small (g_sb x) = g_small (nI x) ∧ g_word (g_sb x) = g_word (nI x) ∧ g_blank (g_sb x) = g_blank (nI x) ∧ (nI x = 39 ↔ x = 39)) := by decide +kernel
theorem g_atI {u : Nat → Nat} {N i : Nat} (h : i < N) : g_at u N i = nI (u i) := by
  unfold g_at
  have : Nat.blt i N = true := by rw [Nat.blt_eq]; exact h
  rw [this]; rfl
theorem g_sb39 {u : Nat → Nat} {N i : Nat} (hi : i < N) (hu : ∀ i, u i < 256) (h : ¬ g_at u N i = 39) : ¬ g_sb (u i) = 39 := by
  have := g_sbT (u i) (hu i)
  rw [g_atI hi] at h
  exact fun q => h (this.2.2.2.2.2.mpr (this.1.mp q))
theorem g_sb39' {u : Nat → Nat} {N i : Nat} (hi : i < N) (hu : ∀ i, u i < 256) (h : g_at u N i = 39) : g_sb (u i) = 39 := by
  have := g_sbT (u i) (hu i)
  rw [g_atI hi] at h
  exact this.1.mpr (this.2.2.2.2.2.mp h)
/-! texts with their quotes, and without -/
def g_rq : List Int32 → List Int32
  | [] => []
  | c :: l => if c = 39 then 39 :: 39 :: g_rq l else c :: g_rq l
def g_uq : List Int32 → List Int32
  | [] => []
  | [c] => [c]
  | c :: d :: l => if c = 39 ∧ d = 39 then 39 :: g_uq l else c :: g_uq (d :: l)
theorem g_uqc {c : Int32} (h : ¬ c = 39) : ∀ l, g_uq (c :: l) = c :: g_uq l
  | [] => rfl
  | d :: l => by rw [g_uq, if_neg (fun q => h q.1)]
theorem g_uqrq : ∀ w, g_uq (g_rq w) = w
  | [] => rfl
  | c :: w => by
    rw [g_rq]
    by_cases h : c = 39
    · rw [if_pos h, g_uq, if_pos ⟨rfl, rfl⟩, g_uqrq w, h]
    · rw [if_neg h, g_uqc h, g_uqrq w]
theorem g_rqn : ∀ w, (∀ c ∈ w, ¬ c = 39) → g_rq w = w
  | [], _ => rfl
  | c :: w, h => by
    rw [g_rq, if_neg (h c List.mem_cons_self), g_rqn w (fun d hd => h d (List.mem_cons_of_mem _ hd))]
theorem g_rqL : ∀ w, w.length ≤ (g_rq w).length
  | [] => Nat.le_refl _
  | c :: w => by
    have := g_rqL w
    rw [g_rq]
    by_cases h : c = 39
    · rw [if_pos h]; simp only [List.length_cons]; omega
    · rw [if_neg h]; simp only [List.length_cons]; omega
/-- the bytes of the tape, one by one -/
theorem g_tpE (u : Nat → Nat) : ∀ m i k (h : k < (g_tp u m i).length), (g_tp u m i)[k] = g_sb (u (i + k))
  | 0, i, k, h => by cases h
  | m + 1, i, 0, h => rfl
  | m + 1, i, k + 1, h => by
    have hk : k < (g_tp u m (i + 1)).length := by rw [g_tp, List.length_cons] at h; omega
    have := g_tpE u m (i + 1) k hk
    show (g_tp u m (i + 1))[k]'hk = _
    rw [this, show i + 1 + k = i + (k + 1) by omega]
theorem g_tpM {u : Nat → Nat} {c : Int32} : ∀ m i, c ∈ g_tp u m i → ∃ k, k < m ∧ c = g_sb (u (i + k))
  | 0, i, h => by cases h
  | m + 1, i, h => by
    rw [g_tp] at h
    rcases List.mem_cons.mp h with h | h
    · exact ⟨0, by omega, h⟩
    · obtain ⟨k, h1, h2⟩ := g_tpM m (i + 1) h
      exact ⟨k + 1, by omega, by rw [h2, show i + 1 + k = i + (k + 1) by omega]⟩
/-- what stands between the quotes -/
theorem g_qtR {u : Nat → Nat} {N : Nat} (hu : ∀ i, u i < 256) : ∀ (m i : Nat), g_qt (g_at u N) m i ≠ 0 → ∃ w, g_tp u (g_qt (g_at u N) m i - i) i = g_rq w
  | 0, i, h => absurd rfl h
  | m + 1, i, h => by
    rw [g_qt] at h ⊢
    cases h1 : decide (g_at u N i < 32) || decide (126 < g_at u N i) with
    | true => rw [h1] at h; exact absurd rfl h
    | false =>
      rw [h1] at h
      have hi : i < N := g_at_nn (u := u) (fun q => by
        have := of_decide_eq_false (Bool.or_eq_false_iff.mp h1).1
        exact this (Int32.lt_trans q (by decide)))
      cases h2 : decide (g_at u N i = 39) with
      | false =>
        rw [h2] at h
        have hb := g_qt_b m (i + 1) h
        obtain ⟨w, hw⟩ := g_qtR hu m (i + 1) h
        refine ⟨g_sb (u i) :: w, ?_⟩
        show g_tp u (g_qt (g_at u N) m (i + 1) - i) i = _
        rw [show g_qt (g_at u N) m (i + 1) - i = g_qt (g_at u N) m (i + 1) - (i + 1) + 1 by omega, g_tp, hw, g_rq, if_neg]
        exact g_sb39 hi hu (of_decide_eq_false h2)
      | true =>
        rw [h2] at h
        cases h3 : decide (g_at u N (i + 1) = 39) with
        | true =>
          rw [h3] at h
          have hb := g_qt_b m (i + 2) h
          obtain ⟨w, hw⟩ := g_qtR hu m (i + 2) h
          have hi1 : i + 1 < N := g_at_nn (u := u) (fun q => by rw [of_decide_eq_true h3] at q; exact absurd q (by decide))
          refine ⟨39 :: w, ?_⟩
          show g_tp u (g_qt (g_at u N) m (i + 2) - i) i = _
          rw [show g_qt (g_at u N) m (i + 2) - i = g_qt (g_at u N) m (i + 2) - (i + 2) + 1 + 1 by omega, g_tp, g_tp, show i + 1 + 1 = i + 2 from rfl, hw, g_rq, if_pos rfl, g_sb39' hi hu (of_decide_eq_true h2), g_sb39' hi1 hu (of_decide_eq_true h3)]
        | false =>
          refine ⟨[], ?_⟩
          show g_tp u (i - i) i = _
          rw [Nat.sub_self]; rfl
/-- the text of a name's sign is a text with its quotes doubled -/
theorem g_runA {P : Int32 → Bool} {a : Nat → Int32} : ∀ (m i k : Nat), k < g_run P a m i - i → P (a (i + k)) = true
  | 0, i, k, h => by rw [g_run] at h; omega
  | m + 1, i, k, h => by
    rw [g_run] at h
    cases hp : P (a i) with
    | true =>
      rw [hp] at h
      have h : k < g_run P a m (i + 1) - i := h
      cases k with
      | zero => exact hp
      | succ k =>
        have := g_runA (P := P) (a := a) m (i + 1) k (by omega)
        rw [show i + 1 + k = i + (k + 1) by omega] at this
        exact this
    | false =>
      rw [hp] at h
      have h : k < i - i := h
      omega
theorem g_tpN {u : Nat → Nat} {m i : Nat} (h : ∀ k, k < m → ¬ g_sb (u (i + k)) = 39) : g_tp u m i = g_rq (g_tp u m i) := by
  refine (g_rqn _ fun c hc => ?_).symm
  obtain ⟨k, h1, h2⟩ := g_tpM m i hc
  rw [h2]
  exact h k h1
theorem g_no39 {P : Int32 → Bool} (hP : P 39 = false) {u : Nat → Nat} {N : Nat} (hu : ∀ i, u i < 256) {i : Nat} (hi : i < N) (h : P (g_at u N i) = true) : ¬ g_sb (u i) = 39 :=
  g_sb39 hi hu fun q => by rw [q, hP] at h; cases h
/-- a name's text, or a variable's, or an operator's: with its quotes doubled -/
theorem g_tkQ {u : Nat → Nat} {N p : Nat} (hu : ∀ i, u i < 256) (h : g_ky (g_at u N) N p = 1 ∨ g_ky (g_at u N) N p = 3 ∨ g_ky (g_at u N) N p = 10) : ∃ w, g_tp u (g_to (g_at u N) N p - g_fr (g_at u N) N p) (g_fr (g_at u N) N p) = g_rq w := by
  unfold g_ky at h
  unfold g_fr g_to
  unfold g_tk at h ⊢
  by_cases h0 : g_at u N p < 0
  · rw [if_pos h0] at h
    have h : 13 = 1 ∨ 13 = 3 ∨ 13 = 10 := h
    omega
  have hpN := g_at_nn h0
  rw [if_neg h0] at h ⊢
  by_cases h1 : g_dig (g_at u N p) = true
  · rw [if_pos h1] at h
    have h : (bif decide ((g_dg (g_at u N) (N - p) p p 0).2.2 < 9007199254740992) then 2 else 12) = 1 ∨ (bif decide ((g_dg (g_at u N) (N - p) p p 0).2.2 < 9007199254740992) then 2 else 12) = 3 ∨ (bif decide ((g_dg (g_at u N) (N - p) p p 0).2.2 < 9007199254740992) then 2 else 12) = 10 := h
    exfalso
    cases hq : decide ((g_dg (g_at u N) (N - p) p p 0).2.2 < 9007199254740992) <;> rw [hq] at h <;> simp at h
  rw [if_neg h1] at h ⊢
  by_cases h2 : g_at u N p = 39
  · rw [if_pos h2] at h ⊢
    by_cases hr : g_qt (g_at u N) (N - p) (p + 1) = 0
    · rw [hr] at h
      exfalso
      have h : 12 = 1 ∨ 12 = 3 ∨ 12 = 10 := h
      omega
    · exact g_qtR hu (N - p) (p + 1) hr
  rw [if_neg h2] at h ⊢
  have hw : ∀ (P : Int32 → Bool), P 39 = false → ∃ w, g_tp u (g_run P (g_at u N) (N - p) p - p) p = g_rq w := fun P hP =>
    ⟨_, g_tpN fun k hk => by
      have hb := g_run_le (P := P) (a := g_at u N) (N - p) p
      exact g_no39 hP hu (show p + k < N by omega) (g_runA _ _ _ hk)⟩
  by_cases h3 : g_small (g_at u N p) = true
  · rw [if_pos h3]; exact hw g_word (by decide)
  rw [if_neg h3] at h ⊢
  by_cases h4 : g_word (g_at u N p) = true
  · rw [if_pos h4]; exact hw g_word (by decide)
  rw [if_neg h4] at h ⊢
  by_cases h5 : g_symb (g_at u N p) = true
  · rw [if_pos h5]; exact hw g_symb g_symb39
  rw [if_neg h5] at h ⊢
  have h39 : ¬ g_sb (u p) = 39 := g_sb39 hpN hu h2
  cases h6 : decide (g_at u N p = 91) && decide (g_at u N (p + 1) = 93) with
  | true =>
    have q2 := of_decide_eq_true (Bool.and_eq_true_iff.mp h6).2
    have hp1 : p + 1 < N := g_at_nn (u := u) (fun q => by rw [q2] at q; exact absurd q (by decide))
    refine ⟨_, g_tpN fun k hk => ?_⟩
    have hk : k < p + 2 - p := hk
    rcases (by omega : k = 0 ∨ k = 1) with rfl | rfl
    · exact h39
    · exact g_sb39 hp1 hu (by rw [q2]; decide)
  | false =>
    refine ⟨_, g_tpN fun k hk => ?_⟩
    have hk : k < p + 1 - p := hk
    rcases (by omega : k = 0) with rfl
    exact h39
/-- a sign's text without its quotes -/
def g_ut (u : Nat → Nat) (f t : Nat) : List Int32 := g_uq (g_tp u (t - f) f)
theorem g_utR {u : Nat → Nat} {N p : Nat} (hu : ∀ i, u i < 256) (h : g_ky (g_at u N) N p = 1 ∨ g_ky (g_at u N) N p = 3 ∨ g_ky (g_at u N) N p = 10) : g_rq (g_ut u (g_fr (g_at u N) N p) (g_to (g_at u N) N p)) = g_tp u (g_to (g_at u N) N p - g_fr (g_at u N) N p) (g_fr (g_at u N) N p) := by
  obtain ⟨w, hw⟩ := g_tkQ hu h
  unfold g_ut
  rw [hw, g_uqrq]
theorem g_tp_snoc (u : Nat → Nat) : ∀ m i, g_tp u (m + 1) i = g_tp u m i ++ [g_sb (u (i + m))]
  | 0, i => rfl
  | m + 1, i => by
    rw [g_tp, g_tp_snoc u m (i + 1), g_tp, List.cons_append, show i + 1 + m = i + (m + 1) by omega]
theorem g_digT : ∀ x, x < 256 → g_dig (nI x) = true → g_dv (nI x) < 10 ∧ g_sb x = nI (48 + g_dv (nI x)) := by decide +kernel
theorem g_digB {u : Nat → Nat} {N i : Nat} (hi : i < N) (hu : ∀ i, u i < 256) (h : g_dig (g_at u N i) = true) : g_dv (g_at u N i) < 10 ∧ g_sb (u i) = nI (48 + g_dv (g_at u N i)) := by
  rw [g_atI hi] at h ⊢
  exact g_digT (u i) (hu i) h
theorem g_dg_mono {a : Nat → Int32} : ∀ (m i f v : Nat), v ≤ (g_dg a m i f v).2.2
  | 0, i, f, v => Nat.le_refl _
  | m + 1, i, f, v => by
    rw [g_dg]
    cases g_dig (a i) with
    | false => exact Nat.le_refl _
    | true =>
      have := g_dg_mono (a := a) m (i + 1) (if v = 0 then i else f) (if v < 9007199254740992 then 10 * v + g_dv (a i) else v)
      refine Nat.le_trans ?_ this
      split <;> omega
/-! names, as they are printed -/
def g_fit1 (c d : Int32) : Bool := bif g_small c then g_word d else g_symb d
def g_pll : List Int32 → Bool
  | [] => false
  | [c] => decide (c = 33) || (decide (c = 59) || (!decide (c = 46) && g_fit1 c c))
  | c :: d :: l => bif decide (l = []) && decide (c = 91) then decide (d = 93) else (c :: d :: l).all (g_fit1 c)
theorem g_fit39 (c : Int32) : g_fit1 c 39 = false := by
  unfold g_fit1
  cases g_small c with
  | true => decide
  | false => exact g_symb39
theorem g_pll39 : ∀ l, (39 : Int32) ∈ l → g_pll l = false
  | [], h => by cases h
  | [c], h => by
    have : c = 39 := (List.mem_singleton.mp h).symm
    subst this
    rw [g_pll, g_fit39]; decide
  | c :: d :: l, h => by
    rw [g_pll]
    have hall : (c :: d :: l).all (g_fit1 c) = false := by
      cases hq : (c :: d :: l).all (g_fit1 c) with
      | false => rfl
      | true =>
        have := List.all_eq_true.mp hq 39 h
        rw [g_fit39] at this; cases this
    cases hb : decide (l = []) && decide (c = 91) with
    | false => exact hall
    | true =>
      show decide (d = 93) = false
      have hl := of_decide_eq_true (Bool.and_eq_true_iff.mp hb).1
      have hc := of_decide_eq_true (Bool.and_eq_true_iff.mp hb).2
      subst hl hc
      have : d = 39 := by
        rcases List.mem_cons.mp h with q | q
        · exact absurd q (by decide)
        · exact (List.mem_singleton.mp q).symm
      subst this; decide
theorem g_rqM : ∀ w, (39 : Int32) ∈ w → (39 : Int32) ∈ g_rq w
  | [], h => by cases h
  | c :: w, h => by
    rw [g_rq]
    by_cases q : c = 39
    · rw [if_pos q]; exact List.mem_cons_self
    · rw [if_neg q]
      rcases List.mem_cons.mp h with e | e
      · exact absurd e.symm q
      · exact List.mem_cons_of_mem _ (g_rqM w e)
theorem g_pllR (w : List Int32) : g_pll (g_rq w) = g_pll w := by
  by_cases h : (39 : Int32) ∈ w
  · rw [g_pll39 w h, g_pll39 _ (g_rqM w h)]
  · rw [g_rqn w fun c hc q => h (q ▸ hc)]
theorem g_woA {u : Nat → Nat} {c : Int32} : ∀ m i, g_wo u (g_small c) m i = (g_tp u m i).all (g_fit1 c)
  | 0, _ => rfl
  | m + 1, i => by
    rw [g_wo, g_tp, List.all_cons, ← g_woA m (i + 1)]
    unfold g_fit1
    cases g_small c with
    | true => cases g_word (g_sb (u i)) <;> rfl
    | false => cases g_symb (g_sb (u i)) <;> rfl
theorem g_pnL {u : Nat → Nat} {f t : Nat} : g_pn u f t = g_pll (g_tp u (t - f) f) := by
  unfold g_pn
  rw [g_woA]
  rcases (show t - f = 0 ∨ t - f = 1 ∨ ∃ k, t - f = k + 2 from if h0 : t - f = 0 then Or.inl h0 else if h1 : t - f = 1 then Or.inr (Or.inl h1) else Or.inr (Or.inr ⟨t - f - 2, by omega⟩)) with h | h | ⟨k, h⟩
  · rw [h]; rfl
  · rw [h]
    show (bif decide (g_sb (u f) = 33) || decide (g_sb (u f) = 59) then true else !decide (g_sb (u f) = 46) && (g_fit1 (g_sb (u f)) (g_sb (u f)) && true)) = (decide (g_sb (u f) = 33) || (decide (g_sb (u f) = 59) || (!decide (g_sb (u f) = 46) && g_fit1 (g_sb (u f)) (g_sb (u f)))))
    cases decide (g_sb (u f) = 33) <;> cases decide (g_sb (u f) = 59) <;> cases decide (g_sb (u f) = 46) <;> cases g_fit1 (g_sb (u f)) (g_sb (u f)) <;> rfl
  · rw [h]
    rw [g_tp, g_tp, g_pll]
    have e : decide (g_tp u k (f + 1 + 1) = []) = decide (k + 2 = 2) := by
      cases k with
      | zero => rfl
      | succ k => rw [g_tp]; simp
    rw [e, decide_eq_false (show ¬ k + 2 = 0 by omega), decide_eq_false (show ¬ k + 2 = 1 by omega)]
    cases decide (k + 2 = 2) <;> cases decide (g_sb (u f) = 91) <;> rfl
/-- a name's print, out of its text -/
def g_mnS (w : List Int32) : List Int32 := bif g_pll w then g_rq w else 39 :: (g_rq w ++ [39])
theorem g_nmE {u : Nat → Nat} {f t : Nat} (h : g_rq (g_ut u f t) = g_tp u (t - f) f) : g_nmS u f t = g_mnS (g_ut u f t) := by
  unfold g_nmS g_mnS
  rw [g_pnL, ← h, g_pllR]
/-! numbers, as they are printed -/
def g_dec (v : Nat) : List Int32 := if v < 10 then [nI (48 + v)] else g_dec (v / 10) ++ [nI (48 + v % 10)]
termination_by v
decreasing_by omega
theorem g_dec1 {v : Nat} (h : v < 10) : g_dec v = [nI (48 + v)] := by rw [g_dec, if_pos h]
theorem g_dec2 {v d : Nat} (hv : 0 < v) (hd : d < 10) : g_dec (10 * v + d) = g_dec v ++ [nI (48 + d)] := by
  rw [g_dec, if_neg (by omega), show (10 * v + d) / 10 = v by omega, show (10 * v + d) % 10 = d by omega]
theorem g_numD {v : Nat} (h : v < 1000) : g_num v = g_dec v := by
  unfold g_num
  by_cases h1 : v < 10
  · rw [if_pos h1, g_dec1 h1]
  · rw [if_neg h1]
    by_cases h2 : v < 100
    · rw [if_pos h2, g_dec, if_neg h1, g_dec1 (by omega)]; rfl
    · rw [if_neg h2, g_dec, if_neg h1, g_dec, if_neg (by omega), g_dec1 (by omega), show v / 10 / 10 = v / 100 by omega]; rfl
/-- the digits of v below ten to the e + 1 -/
def g_dex : Nat → Nat → List Int32
  | 0, v => [nI (48 + v % 10)]
  | e + 1, v => g_dex e (v / 10) ++ [nI (48 + v % 10)]
theorem g_dexD : ∀ e v, v < 10 ^ (e + 1) → (e = 0 ∨ 10 ^ e ≤ v) → g_dex e v = g_dec v
  | 0, v, h, _ => by
    have h : v < 10 := h
    rw [g_dex, g_dec1 h, Nat.mod_eq_of_lt h]
  | e + 1, v, h, h2 => by
    have h2 : 10 ^ (e + 1) ≤ v := by omega
    have h3 : 10 ^ (e + 1) = 10 ^ e * 10 := Nat.pow_succ 10 e
    have h4 : 10 ^ (e + 1 + 1) = 10 ^ (e + 1) * 10 := Nat.pow_succ 10 (e + 1)
    have h5 : 0 < 10 ^ e := Nat.pow_pos (by decide)
    rw [g_dex, g_dexD e (v / 10) (by omega) (Or.inr (by omega)), g_dec.eq_def v, if_neg (by omega)]
/-- the text of digits is their number's -/
theorem g_dgX {u : Nat → Nat} {N : Nat} (hu : ∀ i, u i < 256) : ∀ (m i f v : Nat), i + m ≤ N → ((0 < v ∧ f < i ∧ g_tp u (i - f) f = g_dec v) ∨ (v = 0 ∧ (f = i ∨ (f + 1 = i ∧ g_tp u 1 f = g_dec 0)))) → (g_dg (g_at u N) m i f v).2.2 < 9007199254740992 → ((0 < (g_dg (g_at u N) m i f v).2.2 ∧ g_tp u ((g_dg (g_at u N) m i f v).1 - (g_dg (g_at u N) m i f v).2.1) (g_dg (g_at u N) m i f v).2.1 = g_dec (g_dg (g_at u N) m i f v).2.2) ∨ ((g_dg (g_at u N) m i f v).2.2 = 0 ∧ ((g_dg (g_at u N) m i f v).2.1 = (g_dg (g_at u N) m i f v).1 ∨ ((g_dg (g_at u N) m i f v).2.1 + 1 = (g_dg (g_at u N) m i f v).1 ∧ g_tp u 1 (g_dg (g_at u N) m i f v).2.1 = g_dec 0))))
  | 0, i, f, v, _, h, _ => by
    rw [g_dg]
    rcases h with ⟨a, b, c⟩ | h
    · exact Or.inl ⟨a, c⟩
    · exact Or.inr h
  | m + 1, i, f, v, hm, h, hv => by
    rw [g_dg] at hv ⊢
    cases hd : g_dig (g_at u N i) with
    | false =>
      rcases h with ⟨a, b, c⟩ | h
      · exact Or.inl ⟨a, c⟩
      · exact Or.inr h
    | true =>
      rw [hd] at hv
      have hv : (g_dg (g_at u N) m (i + 1) (if v = 0 then i else f) (if v < 9007199254740992 then 10 * v + g_dv (g_at u N i) else v)).2.2 < 9007199254740992 := hv
      have hvs : v < 9007199254740992 := by
        rcases Nat.lt_or_ge v 9007199254740992 with q | q
        · exact q
        · have := g_dg_mono m (i + 1) (if v = 0 then i else f) (if v < 9007199254740992 then 10 * v + g_dv (g_at u N i) else v) (a := g_at u N)
          rw [if_neg (show ¬ v < 9007199254740992 by omega)] at this hv
          omega
      rw [if_pos hvs] at hv
      show (0 < (g_dg (g_at u N) m (i + 1) (if v = 0 then i else f) (if v < 9007199254740992 then 10 * v + g_dv (g_at u N i) else v)).2.2 ∧ _) ∨ _
      have hdg := g_digB (N := N) (show i < N by omega) hu hd
      have hnext := g_dgX hu m (i + 1) (if v = 0 then i else f) (10 * v + g_dv (g_at u N i)) (by omega) (by
        by_cases h0 : v = 0
        · rw [if_pos h0, h0]
          by_cases hz : g_dv (g_at u N i) = 0
          · refine Or.inr ⟨by omega, Or.inr ⟨rfl, ?_⟩⟩
            rw [g_tp, g_tp, hdg.2, hz, g_dec1 (by decide)]
          · refine Or.inl ⟨by omega, by omega, ?_⟩
            rw [show i + 1 - i = 1 by omega, g_tp, g_tp, hdg.2, g_dec1 (by omega), show 10 * 0 + g_dv (g_at u N i) = g_dv (g_at u N i) by omega]
        · rw [if_neg h0]
          rcases h with ⟨a, b, c⟩ | ⟨a, -⟩
          · refine Or.inl ⟨by omega, by omega, ?_⟩
            rw [show i + 1 - f = i - f + 1 by omega, g_tp_snoc, c, show f + (i - f) = i by omega, hdg.2, g_dec2 (by omega) hdg.1]
          · exact absurd a h0) hv
      rw [if_pos hvs]
      exact hnext
theorem g_sbN : ∀ x, x < 256 → (x < 128 → g_sb x = nI x) ∧ (128 ≤ x → g_sb x < 0 ∧ ¬ nI x < 128) := by decide +kernel
theorem g_sbE (x : Nat) (hx : x < 256) (b : Int32) (hb : 0 ≤ b ∧ b < 128) : (nI x = b) ↔ (g_sb x = b) := by
  have h := g_sbN x hx
  rcases Nat.lt_or_ge x 128 with q | q
  · rw [h.1 q]
  · have h2 := h.2 q
    exact ⟨fun e => absurd (by rw [e]; exact hb.2) h2.2, fun e => absurd h2.1 (by rw [e]; exact Int32.not_lt.mpr hb.1)⟩
/-- the number of an integer's sign -/
def g_iv (u : Nat → Nat) (N p : Nat) : Nat := (g_dg (g_at u N) (N - p) p p 0).2.2
theorem g_tk2d {u : Nat → Nat} {N p : Nat} (h : g_ky (g_at u N) N p = 2) : p < N ∧ g_dig (g_at u N p) = true := by
  unfold g_ky at h
  unfold g_tk at h
  by_cases h0 : g_at u N p < 0
  · rw [if_pos h0] at h; cases h
  have hpN := g_at_nn h0
  rw [if_neg h0] at h
  by_cases h1 : g_dig (g_at u N p) = true
  · exact ⟨hpN, h1⟩
  exfalso
  rw [if_neg h1] at h
  by_cases h2 : g_at u N p = 39
  · rw [if_pos h2] at h
    by_cases hr : g_qt (g_at u N) (N - p) (p + 1) = 0
    · rw [hr] at h; cases h
    · rw [decide_eq_false hr] at h; cases h
  rw [if_neg h2] at h
  by_cases h3 : g_small (g_at u N p) = true
  · rw [if_pos h3] at h; cases h
  rw [if_neg h3] at h
  by_cases h4 : g_word (g_at u N p) = true
  · rw [if_pos h4] at h; cases h
  rw [if_neg h4] at h
  by_cases h5 : g_symb (g_at u N p) = true
  · rw [if_pos h5] at h
    have h : (bif g_endb (g_at u N) p (g_run g_symb (g_at u N) (N - p) p) then 0 else 3) = 2 := h
    cases hq : g_endb (g_at u N) p (g_run g_symb (g_at u N) (N - p) p) <;> rw [hq] at h <;> cases h
  rw [if_neg h5] at h
  cases h6 : decide (g_at u N p = 91) && decide (g_at u N (p + 1) = 93) with
  | true => rw [h6] at h; cases h
  | false =>
    rw [h6] at h
    have h : g_solo (g_at u N p) = 2 := h
    unfold g_solo at h
    revert h
    repeat' split
    all_goals (intro h; cases h)
theorem g_ivT {u : Nat → Nat} {N p : Nat} (hu : ∀ i, u i < 256) (h : g_ky (g_at u N) N p = 2) : g_iv u N p < 9007199254740992 ∧ g_tp u (g_to (g_at u N) N p - g_fr (g_at u N) N p) (g_fr (g_at u N) N p) = g_dec (g_iv u N p) := by
  obtain ⟨hpN, hd⟩ := g_tk2d h
  have hlt := g_tk2 h
  have e0 : ¬ g_at u N p < 0 := fun q => by
    unfold g_dig at hd
    have := of_decide_eq_false (by simpa using (Bool.and_eq_true_iff.mp hd).1 : decide (g_at u N p < 48) = false)
    exact this (Int32.lt_trans q (by decide))
  have eT : g_tk (g_at u N) N p = (bif decide ((g_dg (g_at u N) (N - p) p p 0).2.2 < 9007199254740992) then 2 else 12, (g_dg (g_at u N) (N - p) p p 0).2.1, (g_dg (g_at u N) (N - p) p p 0).1, (g_dg (g_at u N) (N - p) p p 0).1) := by
    unfold g_tk; rw [if_neg e0, if_pos hd]
  have e1 : g_fr (g_at u N) N p = (g_dg (g_at u N) (N - p) p p 0).2.1 := by unfold g_fr; rw [eT]
  have e2 : g_to (g_at u N) N p = (g_dg (g_at u N) (N - p) p p 0).1 := by unfold g_to; rw [eT]
  have hv : (g_dg (g_at u N) (N - p) p p 0).2.2 < 9007199254740992 := by
    unfold g_ky at h
    rw [eT] at h
    have h : (bif decide ((g_dg (g_at u N) (N - p) p p 0).2.2 < 9007199254740992) then 2 else 12) = 2 := h
    cases hq : decide ((g_dg (g_at u N) (N - p) p p 0).2.2 < 9007199254740992) with
    | true => exact of_decide_eq_true hq
    | false => rw [hq] at h; cases h
  refine ⟨hv, ?_⟩
  rw [e1, e2] at hlt ⊢
  unfold g_iv
  rcases g_dgX hu (N - p) p p 0 (by omega) (Or.inr ⟨rfl, Or.inl rfl⟩) hv with ⟨-, a⟩ | ⟨a, b⟩
  · exact a
  · rcases b with b | ⟨b, c⟩
    · omega
    · rw [a, ← b, show ∀ x : Nat, x + 1 - x = 1 from fun x => by omega]; exact c
theorem g_decH : ∀ v, 0 < v → ∃ d l, g_dec v = nI (48 + d) :: l ∧ 0 < d ∧ d < 10 := by
  intro v
  induction v using Nat.strongRecOn with
  | ind v ih =>
    intro hv
    by_cases h : v < 10
    · exact ⟨v, [], g_dec1 h, hv, h⟩
    · obtain ⟨d, l, e, h1, h2⟩ := ih (v / 10) (by omega) (by omega)
      exact ⟨d, l ++ [nI (48 + v % 10)], by rw [g_dec, if_neg h, e]; rfl, h1, h2⟩
theorem g_n48 : ∀ d, d < 10 → 0 < d → ¬ nI (48 + d) = 48 := by decide
/-- an integer below: its print -/
theorem g_lF2 {u : Nat → Nat} {N p : Nat} (hu : ∀ i, u i < 256) (h : g_ky (g_at u N) N p = 2) {L : Nat} (hk : L % 8 = 2) (e1 : g_fR L = g_fr (g_at u N) N p) (e2 : g_tO L = g_to (g_at u N) N p) : g_lF u L = (if 0 < g_iv u N p then [45] else []) ++ g_dec (g_iv u N p) := by
  have ht := (g_ivT hu h).2
  have hlt := g_tk2 h
  unfold g_lF
  rw [if_neg (by omega), if_neg (by omega), e1, e2, ht, hk]
  have hh : g_sb (u (g_fr (g_at u N) N p)) :: g_tp u (g_to (g_at u N) N p - g_fr (g_at u N) N p - 1) (g_fr (g_at u N) N p + 1) = g_dec (g_iv u N p) := by
    rw [← ht]
    obtain ⟨m, hm⟩ : ∃ k, g_to (g_at u N) N p - g_fr (g_at u N) N p = k + 1 := ⟨g_to (g_at u N) N p - g_fr (g_at u N) N p - 1, by omega⟩
    rw [hm, g_tp]; rfl
  by_cases hv : 0 < g_iv u N p
  · obtain ⟨d, l, e, h1, h2⟩ := g_decH _ hv
    rw [if_pos hv]
    rw [e] at hh
    have : g_sb (u (g_fr (g_at u N) N p)) = nI (48 + d) := by injection hh
    rw [this, decide_eq_false (g_n48 d h2 h1)]; rfl
  · rw [if_neg hv]
    have h0 : g_iv u N p = 0 := by omega
    rw [h0, g_dec1 (by decide)] at hh
    have : g_sb (u (g_fr (g_at u N) N p)) = nI (48 + 0) := by injection hh
    rw [this]; rfl
theorem g_lF1 {u : Nat → Nat} {N p : Nat} (hu : ∀ i, u i < 256) (h : g_ky (g_at u N) N p = 2) {L : Nat} (hk : L % 8 = 1) (e1 : g_fR L = g_fr (g_at u N) N p) (e2 : g_tO L = g_to (g_at u N) N p) : g_lF u L = g_dec (g_iv u N p) := by
  unfold g_lF
  rw [if_neg (by omega), if_neg (by omega), e1, e2, (g_ivT hu h).2, hk]; rfl
/-- a text without quotes within is the same in quotes and without -/
theorem g_rq_inj {w : List Int32} (hw : ∀ c ∈ w, ¬ c = 39) {v : List Int32} (h : g_rq v = w) : v = w := by
  have := g_uqrq v
  rw [h] at this
  rw [← this, ← g_rqn w hw, g_uqrq, g_rqn w hw]
theorem g_mtT {u : Nat → Nat} {N : Nat} (hu : ∀ i, u i < 256) : ∀ (l : List Int32) (j : Nat), j + l.length ≤ N → (∀ c ∈ l, 0 ≤ c ∧ c < 128) → g_mt (g_at u N) l j = decide (g_tp u l.length j = l)
  | [], j, _, _ => by rw [g_mt, List.length_nil, g_tp]; rfl
  | b :: l, j, h, hb => by
    rw [List.length_cons] at h
    rw [g_mt, g_mtT hu l (j + 1) (by omega) (fun c hc => hb c (List.mem_cons_of_mem _ hc)), List.length_cons, g_tp, g_atI (by omega)]
    have e : (nI (u j) = b) ↔ (g_sb (u j) = b) := g_sbE _ (hu j) _ (hb b List.mem_cons_self)
    by_cases h1 : g_sb (u j) = b
    · rw [decide_eq_true (e.mpr h1)]
      by_cases h2 : g_tp u l.length (j + 1) = l
      · rw [decide_eq_true h2, decide_eq_true (by rw [h1, h2])]; rfl
      · rw [decide_eq_false h2, decide_eq_false (fun q => h2 (List.cons.inj q).2)]; rfl
    · rw [decide_eq_false (fun q => h1 (e.mp q)), Bool.false_and, decide_eq_false (fun q => h1 (List.cons.inj q).1)]
