theorem g_cls : ∀ x, x < 256 → (¬ nI x < 0) ∧ (g_small (nI x) = true → g_dig (nI x) = false ∧ ¬ nI x = 39 ∧ g_word (nI x) = true) ∧ (g_symb (nI x) = true → g_dig (nI x) = false ∧ ¬ nI x = 39 ∧ g_small (nI x) = false ∧ g_word (nI x) = false) ∧ (nI x = 39 → g_dig (nI x) = false) ∧ (g_gr (nI x) = true → g_small (nI x) = false ∧ g_dig (nI x) = false ∧ ¬ nI x = 39 ∧ g_word (nI x) = true) := by decide +kernel
theorem g_clw : ∀ x, x < 256 → (g_small (nI x) || g_gr (nI x)) = false → g_dig (nI x) = false → g_word (nI x) = false := by decide +kernel
theorem g_tkDg {u : Nat → Nat} {N p : Nat} (hu : ∀ i, u i < 256) (hp : p < N) (h : g_dig (g_at u N p) = true) : g_tk (g_at u N) N p = (bif decide ((g_dg (g_at u N) (N - p) p p 0).2.2 < 9007199254740992) then 2 else 12, (g_dg (g_at u N) (N - p) p p 0).2.1, (g_dg (g_at u N) (N - p) p p 0).1, (g_dg (g_at u N) (N - p) p p 0).1) := by
  have hc := g_cls (u p) (hu p)
  rw [← g_atI hp] at hc
  unfold g_tk
  rw [if_neg hc.1, if_pos h]
theorem g_tkQu {u : Nat → Nat} {N p : Nat} (hu : ∀ i, u i < 256) (hp : p < N) (h : g_at u N p = 39) : g_tk (g_at u N) N p = (bif !decide (g_qt (g_at u N) (N - p) (p + 1) = 0) then 3 else 12, p + 1, g_qt (g_at u N) (N - p) (p + 1), g_qt (g_at u N) (N - p) (p + 1) + 1) := by
  have hc := g_cls (u p) (hu p)
  rw [← g_atI hp] at hc
  unfold g_tk
  rw [if_neg hc.1, if_neg (by rw [hc.2.2.2.1 h]; decide), if_pos h]
theorem g_tkWo {u : Nat → Nat} {N p : Nat} (hu : ∀ i, u i < 256) (hp : p < N) (h : (g_small (g_at u N p) || g_gr (g_at u N p)) = true) : g_tk (g_at u N) N p = (bif g_gr (g_at u N p) then 1 else 3, p, g_run g_word (g_at u N) (N - p) p, g_run g_word (g_at u N) (N - p) p) := by
  have hc := g_cls (u p) (hu p)
  rw [← g_atI hp] at hc
  unfold g_tk
  cases hs : g_small (g_at u N p) with
  | true =>
    have h1 := hc.2.1 hs
    have h2 : g_gr (g_at u N p) = false := by
      cases hg : g_gr (g_at u N p) with
      | false => rfl
      | true => have := (hc.2.2.2.2 hg).1; rw [hs] at this; cases this
    rw [if_neg hc.1, if_neg (by rw [h1.1]; decide), if_neg h1.2.1, if_pos rfl, h2]; rfl
  | false =>
    rw [hs] at h
    have hg : g_gr (g_at u N p) = true := h
    have h1 := hc.2.2.2.2 hg
    rw [if_neg hc.1, if_neg (by rw [h1.2.1]; decide), if_neg h1.2.2.1, if_neg (by decide), if_pos h1.2.2.2, hg]; rfl
theorem g_tkSy {u : Nat → Nat} {N p : Nat} (hu : ∀ i, u i < 256) (hp : p < N) (h : g_symb (g_at u N p) = true) : g_tk (g_at u N) N p = (bif g_endb (g_at u N) p (g_run g_symb (g_at u N) (N - p) p) then 0 else 3, p, g_run g_symb (g_at u N) (N - p) p, g_run g_symb (g_at u N) (N - p) p) := by
  have hc := g_cls (u p) (hu p)
  rw [← g_atI hp] at hc
  have h1 := hc.2.2.1 h
  unfold g_tk
  rw [if_neg hc.1, if_neg (by rw [h1.1]; decide), if_neg h1.2.1, if_neg (by rw [h1.2.2.1]; decide), if_neg (by rw [h1.2.2.2]; decide), if_pos h]
theorem g_tkSo {u : Nat → Nat} {N p : Nat} (hu : ∀ i, u i < 256) (hp : p < N) (h1 : (g_small (g_at u N p) || g_gr (g_at u N p)) = false) (h2 : g_dig (g_at u N p) = false) (h3 : ¬ g_at u N p = 39) (h4 : g_symb (g_at u N p) = false) : g_tk (g_at u N) N p = (bif decide (g_at u N p = 91) && decide (g_at u N (p + 1) = 93) then 3 else g_solo (g_at u N p), p, bif decide (g_at u N p = 91) && decide (g_at u N (p + 1) = 93) then p + 2 else p + 1, bif decide (g_at u N p = 91) && decide (g_at u N (p + 1) = 93) then p + 2 else p + 1) := by
  have hc := g_cls (u p) (hu p)
  rw [← g_atI hp] at hc
  have hw := g_clw (u p) (hu p)
  rw [← g_atI hp] at hw
  have h5 := Bool.or_eq_false_iff.mp h1
  unfold g_tk
  rw [if_neg hc.1, if_neg (by rw [h2]; decide), if_neg h3, if_neg (by rw [h5.1]; decide), if_neg (by rw [hw h1 h2]; decide), if_neg (by rw [h4]; decide)]
/-- what the reader knows of the sign at p -/
def g_TO (u : Nat → Nat) (N p : Nat) (bh lt : Int32) (nm : Int64) (Wd : Nat → Int32) : Prop := (∃ l, l ≤ 4096 ∧ lt = nI l) ∧ (g_ky (g_at u N) N p ≠ 12 → bh = nI (g_bh (g_at u N) N p)) ∧ (g_ky (g_at u N) N p = 1 ∨ g_ky (g_at u N) N p = 3 → lt = nI (g_ut u (g_fr (g_at u N) N p) (g_to (g_at u N) N p)).length ∧ g_wx Wd (g_ut u (g_fr (g_at u N) N p) (g_to (g_at u N) N p))) ∧ (g_ky (g_at u N) N p = 2 → nm = lN (g_iv u N p))
/-- a sign's text, out of a run -/
theorem g_utRun {u : Nat → Nat} {N p : Nat} (hu : ∀ i, u i < 256) {P : Int32 → Bool} (hP : P 39 = false) (hp : p ≤ N) : g_ut u p (g_run P (g_at u N) (N - p) p) = g_tp u (g_run P (g_at u N) (N - p) p - p) p :=
  g_utN fun k hk => by
    have hb := g_run_le (P := P) (a := g_at u N) (N - p) p
    exact g_no39 hP hu (show p + k < N by omega) (g_runA _ _ _ hk)
