theorem g_bdi {r : g_Rs} {k : Nat → Nat → List (Nat × Nat) → (Nat × Std.Format) → Nat → g_Rs} {z : Nat × Nat × List (Nat × Nat) × (Nat × Std.Format) × Nat} (h : g_bd r k = .inr z) : ∃ p s V t c, r = .inr (p, s, V, t, c) ∧ k p s V t c = .inr z := by
  cases r with
  | inl q => cases h
  | inr y => obtain ⟨p, s, V, t, c⟩ := y; exact ⟨p, s, V, t, c, rfl, h⟩
/-- behind a stretch: the place is further on, symbols are made, no more than places passed -/
def g_GB (N p s : Nat) (r : g_Rs) : Prop := ∀ p' s' V' t c, r = .inr (p', s', V', t, c) → p < p' ∧ p' ≤ N ∧ s < s' ∧ s' + p ≤ s + p'
def g_GW (N p s : Nat) (r : g_Rs) : Prop := ∀ p' s' V' t c, r = .inr (p', s', V', t, c) → p ≤ p' ∧ p' ≤ N ∧ s ≤ s' ∧ s' + p ≤ s + p'
theorem g_sgk : ∀ k, k ≤ 13 → (g_sg k = 9 ↔ k = 10) ∧ (g_sg k = 2 ↔ k = 3) ∧ g_sg k < 12 ∧ (g_sg k = 4 ↔ k = 4) ∧ (g_sg k = 5 ↔ k = 5) ∧ (g_sg k = 6 ↔ k = 6) ∧ (g_sg k = 7 ↔ k = 7) ∧ (g_sg k = 10 ↔ k = 11) ∧ (g_sg k = 0 ↔ k = 1) ∧ (g_sg k = 1 ↔ k = 2) ∧ (g_sg k = 3 ↔ k = 0) ∧ (k ≠ 12 → (g_sg k = 11 ↔ k = 13)) := by decide
theorem g_rtL : ∀ o, o < 24 → g_rt o ≤ 1200 := by decide
theorem g_kyL {u : Nat → Nat} {N p : Nat} (hp : p ≤ N) : g_ky (g_at u N) N p ≤ 13 := (g_tkb hp).1
theorem g_opk {u : Nat → Nat} {N p : Nat} (hp : p ≤ N) (h : g_rk (g_op (g_at u N) N p) ≤ 1200) : g_ky (g_at u N) N p = 3 ∨ g_ky (g_at u N) N p = 10 := by
  have hk := g_sgk _ (g_kyL (u := u) hp)
  unfold g_op g_inf g_nm at h
  by_cases h9 : g_sg (g_ky (g_at u N) N p) = 9
  · exact Or.inr (hk.1.mp h9)
  · rw [if_neg h9] at h
    by_cases h2 : g_sg (g_ky (g_at u N) N p) = 2
    · exact Or.inl (hk.2.1.mp h2)
    · rw [if_neg h2] at h
      exact absurd h (by decide)
theorem g_inLb {u : Nat → Nat} {N : Nat} {t : Nat → Nat → Nat → List (Nat × Nat) → g_Rs} (ht : ∀ most p s V, most ≤ 1200 → p ≤ N → g_GB N p s (t most p s V)) {most : Nat} (hm : most ≤ 1200) : ∀ m p s V l lr, p ≤ N → g_GW N p s (g_inL (g_at u N) N t most m p s V l lr) := by
  intro m
  induction m with
  | zero => intro p s V l lr hp p' s' V' t' c' h; rw [g_inL] at h; cases h; exact ⟨Nat.le_refl _, hp, Nat.le_refl _, Nat.le_refl _⟩
  | succ m ih =>
    intro p s V l lr hp p' s' V' t' c' h
    rw [g_inL] at h
    by_cases hc : most < g_rk (g_op (g_at u N) N p) ∨ g_lf (g_op (g_at u N) N p) < lr
    · rw [if_pos hc] at h
      cases h
      exact ⟨Nat.le_refl _, hp, Nat.le_refl _, Nat.le_refl _⟩
    · rw [if_neg hc] at h
      obtain ⟨p2, s2, V2, r2, c2, e1, e2⟩ := g_bdi h
      have hk : g_ky (g_at u N) N p = 3 ∨ g_ky (g_at u N) N p = 10 := g_opk hp (by omega)
      have hn := g_nxb (u := u) hp (by omega)
      have hn2 := hn.2.2 (by omega)
      have b1 := ht _ _ _ _ (g_rtL _ g_infL) hn.2.1 _ _ _ _ _ e1
      have b2 := ih p2 s2 V2 _ _ b1.2.1 _ _ _ _ _ e2
      omega
theorem g_liCb {u : Nat → Nat} {N p s : Nat} {V : List (Nat × Nat)} {t : Nat × Std.Format} (hp : p ≤ N) : ∀ p' s' V' t' c, g_liC (g_at u N) N p s V t = .inr (p', s', V', t', c) → p < p' ∧ p' ≤ N ∧ s' = s := by
  intro p' s' V' t' c h
  unfold g_liC at h
  by_cases hk : g_ky (g_at u N) N p = 7
  · rw [if_pos hk] at h
    cases h
    have hn := g_nxb (u := u) hp (by omega)
    exact ⟨hn.2.2 (by omega), hn.2.1, rfl⟩
  · rw [if_neg hk] at h
    cases h
theorem g_liEb {u : Nat → Nat} {N : Nat} {t : Nat → Nat → Nat → List (Nat × Nat) → g_Rs} (ht : ∀ most p s V, most ≤ 1200 → p ≤ N → g_GB N p s (t most p s V)) {p s : Nat} {V : List (Nat × Nat)} {acc : List (Nat × Std.Format)} (hp : p ≤ N) : g_GB N p s (g_liE (g_at u N) N t p s V acc) := by
  intro p' s' V' t' c h
  unfold g_liE at h
  by_cases hk : g_ky (g_at u N) N p = 11
  · rw [if_pos hk] at h
    obtain ⟨p2, s2, V2, r2, c2, e1, e2⟩ := g_bdi h
    have hn := g_nxb (u := u) hp (by omega)
    have hn2 := hn.2.2 (by omega)
    have b1 := ht _ _ _ _ (by decide) hn.2.1 _ _ _ _ _ e1
    have b2 := g_liCb b1.2.1 _ _ _ _ _ e2
    omega
  · rw [if_neg hk] at h
    have b2 := g_liCb hp _ _ _ _ _ h
    omega
theorem g_liLb {u : Nat → Nat} {N : Nat} {t : Nat → Nat → Nat → List (Nat × Nat) → g_Rs} (ht : ∀ most p s V, most ≤ 1200 → p ≤ N → g_GB N p s (t most p s V)) : ∀ m p s V acc, p ≤ N → g_GB N p s (g_liL (g_at u N) N t m p s V acc) := by
  intro m
  induction m with
  | zero => intro p s V acc hp; exact g_liEb ht hp
  | succ m ih =>
    intro p s V acc hp
    rw [g_liL]
    by_cases hk : g_ky (g_at u N) N p = 10
    · rw [if_pos hk]
      intro p' s' V' t' c h
      obtain ⟨p2, s2, V2, r2, c2, e1, e2⟩ := g_bdi h
      have hn := g_nxb (u := u) hp (by omega)
      have hn2 := hn.2.2 (by omega)
      have b1 := ht _ _ _ _ (by decide) hn.2.1 _ _ _ _ _ e1
      have b2 := ih p2 s2 V2 _ b1.2.1 _ _ _ _ _ e2
      omega
    · rw [if_neg hk]
      exact g_liEb ht hp
theorem g_arLb {u : Nat → Nat} {N : Nat} {t : Nat → Nat → Nat → List (Nat × Nat) → g_Rs} (ht : ∀ most p s V, most ≤ 1200 → p ≤ N → g_GB N p s (t most p s V)) {q : Nat} : ∀ m p s V acc, p ≤ N → g_GB N p s (g_arL (g_at u N) N t q m p s V acc) := by
  intro m
  induction m with
  | zero => intro p s V acc hp p' s' V' t' c h; rw [g_arL] at h; cases h
  | succ m ih =>
    intro p s V acc hp p' s' V' t' c h
    rw [g_arL] at h
    obtain ⟨p2, s2, V2, r2, c2, e1, e2⟩ := g_bdi h
    have b1 := ht _ _ _ _ (by decide) hp _ _ _ _ _ e1
    by_cases hk : g_ky (g_at u N) N p2 = 10
    · rw [if_pos hk] at e2
      have hn := g_nxb (u := u) b1.2.1 (by omega)
      have hn2 := hn.2.2 (by omega)
      have b2 := ih _ _ _ _ hn.2.1 _ _ _ _ _ e2
      omega
    · rw [if_neg hk] at e2
      by_cases hk5 : g_ky (g_at u N) N p2 = 5
      · rw [if_pos hk5] at e2
        have hn := g_nxb (u := u) b1.2.1 (by omega)
        have hn2 := hn.2.2 (by omega)
        cases e2
        omega
      · rw [if_neg hk5] at e2
        cases e2
/-- blanks: a place where no blank and no comment begins stays -/
theorem g_pl_stay {a : Nat → Int32} {N i : Nat} (h1 : ¬ a i = 37) (h2 : g_blank (a i) = false) : g_pl a N i = i := by
  unfold g_pl
  cases N - i with
  | zero => rfl
  | succ m => rw [g_sk, decide_eq_false h1, h2]; rfl
theorem g_nam40 {u : Nat → Nat} {N p : Nat} (h : g_at u N (g_bh (g_at u N) N p) = 40) : g_nx (g_at u N) N p = g_bh (g_at u N) N p ∧ g_ky (g_at u N) N (g_nx (g_at u N) N p) = 4 := by
  have e : g_nx (g_at u N) N p = g_bh (g_at u N) N p := g_pl_stay (by rw [h]; decide) (by rw [h]; decide)
  refine ⟨e, ?_⟩
  rw [e]
  unfold g_ky g_tk
  rw [if_neg (by rw [h]; decide), if_neg (by rw [h]; decide), if_neg (by rw [h]; decide), if_neg (by rw [h]; decide), if_neg (by rw [h]; decide), if_neg (by rw [h]; decide +kernel)]
  rw [h]; rfl
theorem g_namb {u : Nat → Nat} {N : Nat} {t : Nat → Nat → Nat → List (Nat × Nat) → g_Rs} (ht : ∀ most p s V, most ≤ 1200 → p ≤ N → g_GB N p s (t most p s V)) {most p s : Nat} {V : List (Nat × Nat)} (hm : most ≤ 1200) (hp : p ≤ N) (hk : g_ky (g_at u N) N p = 3) : g_GB N p s (g_nam (g_at u N) N t most p s V) := by
  intro p' s' V' t' c h
  have hn := g_nxb (u := u) hp (by omega)
  have hn2 := hn.2.2 (by omega)
  unfold g_nam at h
  by_cases h40 : g_at u N (g_bh (g_at u N) N p) = 40
  · rw [if_pos h40] at h
    have hk4 := (g_nam40 h40).2
    have hm1 := g_nxb (u := u) hn.2.1 (by omega)
    have b1 := g_arLb ht _ _ _ _ _ hm1.2.1 _ _ _ _ _ h
    omega
  · rw [if_neg h40] at h
    by_cases hd : (g_dig (g_at u N (g_bh (g_at u N) N p)) && g_is (g_at u N) (g_fr (g_at u N) N p) (g_to (g_at u N) N p) [45]) = true
    · rw [if_pos hd] at h
      by_cases h2 : g_ky (g_at u N) N (g_nx (g_at u N) N p) = 2
      · rw [if_pos h2] at h
        have hm1 := g_nxb (u := u) hn.2.1 (by omega)
        have hm2 := hm1.2.2 (by omega)
        cases h
        omega
      · rw [if_neg h2] at h
        cases h
    · rw [if_neg hd] at h
      by_cases hc : most < g_rk (g_px (g_at u N) N p) ∨ g_bg (g_at u N) N (g_nx (g_at u N) N p) = false
      · rw [if_pos hc] at h
        cases h
        omega
      · rw [if_neg hc] at h
        obtain ⟨p2, s2, V2, r2, c2, e1, e2⟩ := g_bdi h
        have b1 := ht _ _ _ _ (g_rtL _ g_nmL) hn.2.1 _ _ _ _ _ e1
        cases e2
        omega
theorem g_prb {u : Nat → Nat} {N : Nat} {t : Nat → Nat → Nat → List (Nat × Nat) → g_Rs} (ht : ∀ most p s V, most ≤ 1200 → p ≤ N → g_GB N p s (t most p s V)) {most p s : Nat} {V : List (Nat × Nat)} (hm : most ≤ 1200) (hp : p ≤ N) : g_GB N p s (g_pr (g_at u N) u N t most p s V) := by
  intro p' s' V' t' c h
  unfold g_pr at h
  by_cases h2 : g_ky (g_at u N) N p = 2
  · rw [if_pos h2] at h
    have hn := g_nxb (u := u) hp (by omega)
    have hn2 := hn.2.2 (by omega)
    cases h
    omega
  rw [if_neg h2] at h
  by_cases h1 : g_ky (g_at u N) N p = 1
  · rw [if_pos h1] at h
    have hn := g_nxb (u := u) hp (by omega)
    have hn2 := hn.2.2 (by omega)
    cases h
    omega
  rw [if_neg h1] at h
  by_cases h4 : g_ky (g_at u N) N p = 4
  · rw [if_pos h4] at h
    obtain ⟨p2, s2, V2, r2, c2, e1, e2⟩ := g_bdi h
    have hn := g_nxb (u := u) hp (by omega)
    have hn2 := hn.2.2 (by omega)
    have b1 := ht _ _ _ _ (by decide) hn.2.1 _ _ _ _ _ e1
    by_cases h5 : g_ky (g_at u N) N p2 = 5
    · rw [if_pos h5] at e2
      have hm1 := g_nxb (u := u) b1.2.1 (by omega)
      have hm2 := hm1.2.2 (by omega)
      cases e2
      omega
    · rw [if_neg h5] at e2
      cases e2
  rw [if_neg h4] at h
  by_cases h6 : g_ky (g_at u N) N p = 6
  · rw [if_pos h6] at h
    unfold g_li at h
    obtain ⟨p2, s2, V2, r2, c2, e1, e2⟩ := g_bdi h
    have hn := g_nxb (u := u) hp (by omega)
    have hn2 := hn.2.2 (by omega)
    have b1 := ht _ _ _ _ (by decide) hn.2.1 _ _ _ _ _ e1
    have b2 := g_liLb ht _ _ _ _ _ b1.2.1 _ _ _ _ _ e2
    omega
  rw [if_neg h6] at h
  by_cases h3 : g_ky (g_at u N) N p = 3
  · rw [if_pos h3] at h
    exact g_namb ht hm hp h3 _ _ _ _ _ h
  · rw [if_neg h3] at h
    cases h
theorem g_Tb {u : Nat → Nat} {N : Nat} : ∀ (d most p s : Nat) (V : List (Nat × Nat)), most ≤ 1200 → p ≤ N → g_GB N p s (g_T (g_at u N) u N d most p s V) := by
  intro d
  induction d with
  | zero => intro most p s V hm hp p' s' V' t' c h; rw [g_T] at h; cases h
  | succ d ih =>
    intro most p s V hm hp p' s' V' t' c h
    rw [g_T] at h
    obtain ⟨p2, s2, V2, r2, c2, e1, e2⟩ := g_bdi h
    have b1 := g_prb ih hm hp _ _ _ _ _ e1
    have b2 := g_inLb ih hm _ _ _ _ _ _ b1.2.1 _ _ _ _ _ e2
    omega
