theorem g_txd : ∀ o, o < 24 → g_tx o ≠ [46] := by decide +kernel
theorem g_mt_inj {a : Nat → Int32} : ∀ (l l' : List Int32) (j : Nat), l.length = l'.length → g_mt a l j = true → g_mt a l' j = true → l = l'
  | [], [], _, _, _, _ => rfl
  | [], _ :: _, _, h, _, _ => by cases h
  | _ :: _, [], _, h, _, _ => by cases h
  | x :: l, y :: l', j, h, h1, h2 => by
    rw [g_mt] at h1 h2
    obtain ⟨a1, a2⟩ := Bool.and_eq_true_iff.mp h1
    obtain ⟨b1, b2⟩ := Bool.and_eq_true_iff.mp h2
    rw [show x = y from (of_decide_eq_true a1).symm.trans (of_decide_eq_true b1), g_mt_inj l l' (j + 1) (Nat.succ.inj h) a2 b2]
theorem g_is_inj {a : Nat → Int32} {f t : Nat} {l l' : List Int32} (h1 : g_is a f t l = true) (h2 : g_is a f t l' = true) : l = l' := by
  obtain ⟨a1, a2⟩ := Bool.and_eq_true_iff.mp h1
  obtain ⟨b1, b2⟩ := Bool.and_eq_true_iff.mp h2
  exact g_mt_inj l l' f ((of_decide_eq_true a1).symm.trans (of_decide_eq_true b1)) a2 b2
theorem g_nmFe {a : Nat → Int32} {f t : Nat} {pf : Bool} : ∀ m i, g_nmF a f t pf m i ≠ 23 → g_is a f t (g_tx (g_nmF a f t pf m i)) = true
  | 0, i, h => absurd rfl h
  | m + 1, i, h => by
    rw [g_nmF] at h ⊢
    cases hb : g_fit pf i && g_is a f t (g_tx i) with
    | true => exact (Bool.and_eq_true_iff.mp hb).2
    | false => rw [hb] at h; exact g_nmFe m (i + 1) h
theorem g_tk10 {u : Nat → Nat} {N p : Nat} (h : g_ky (g_at u N) N p = 10) : g_fr (g_at u N) N p = p ∧ g_to (g_at u N) N p = p + 1 ∧ g_bh (g_at u N) N p = p + 1 ∧ g_at u N p = 44 := by
  unfold g_ky at h
  unfold g_fr g_to g_bh
  unfold g_tk at h ⊢
  by_cases h0 : g_at u N p < 0
  · rw [if_pos h0] at h; cases h
  rw [if_neg h0] at h ⊢
  by_cases h1 : g_dig (g_at u N p) = true
  · rw [if_pos h1] at h
    have h : (bif decide ((g_dg (g_at u N) (N - p) p p 0).2.2 < 9007199254740992) then 2 else 12) = 10 := h
    cases hq : decide ((g_dg (g_at u N) (N - p) p p 0).2.2 < 9007199254740992) <;> rw [hq] at h <;> cases h
  rw [if_neg h1] at h ⊢
  by_cases h2 : g_at u N p = 39
  · rw [if_pos h2] at h
    by_cases hr : g_qt (g_at u N) (N - p) (p + 1) = 0
    · rw [hr] at h; cases h
    · rw [decide_eq_false hr] at h; cases h
  rw [if_neg h2] at h ⊢
  by_cases h3 : g_small (g_at u N p) = true
  · rw [if_pos h3] at h; cases h
  rw [if_neg h3] at h ⊢
  by_cases h4 : g_word (g_at u N p) = true
  · rw [if_pos h4] at h; cases h
  rw [if_neg h4] at h ⊢
  by_cases h5 : g_symb (g_at u N p) = true
  · rw [if_pos h5] at h
    have h : (bif g_endb (g_at u N) p (g_run g_symb (g_at u N) (N - p) p) then 0 else 3) = 10 := h
    cases hq : g_endb (g_at u N) p (g_run g_symb (g_at u N) (N - p) p) <;> rw [hq] at h <;> cases h
  rw [if_neg h5] at h ⊢
  cases h6 : decide (g_at u N p = 91) && decide (g_at u N (p + 1) = 93) with
  | true => rw [h6] at h; cases h
  | false =>
    rw [h6] at h
    refine ⟨rfl, rfl, rfl, ?_⟩
    have h : g_solo (g_at u N p) = 10 := h
    unfold g_solo at h
    by_cases q1 : g_at u N p = 44
    · exact q1
    · exfalso
      revert h
      repeat' split
      all_goals first | (intro h; cases h; done) | contradiction | (intro h; omega)
/-- an operator is no dot -/
theorem g_opdot {u : Nat → Nat} {N p : Nat} (hp : p ≤ N) (h : g_rk (g_op (g_at u N) N p) ≤ 1200) : g_is (g_at u N) (g_fr (g_at u N) N p) (g_to (g_at u N) N p) [46] = false := by
  cases hd : g_is (g_at u N) (g_fr (g_at u N) N p) (g_to (g_at u N) N p) [46] with
  | false => rfl
  | true =>
    exfalso
    rcases g_opk hp h with hk | hk
    · have hs := (g_sgk _ (g_kyL (u := u) hp)).2.1.mpr hk
      have e : g_op (g_at u N) N p = g_nmF (g_at u N) (g_fr (g_at u N) N p) (g_to (g_at u N) N p) false 24 0 := by
        unfold g_op g_inf g_nm; rw [hs]; rfl
      have hne : g_op (g_at u N) N p ≠ 23 := fun q => by rw [q] at h; exact absurd h (by decide)
      have h1 := g_nmFe (a := g_at u N) (f := g_fr (g_at u N) N p) (t := g_to (g_at u N) N p) (pf := false) 24 0 (e ▸ hne)
      exact g_txd _ (g_nm24 24 0 rfl) (g_is_inj h1 hd)
    · obtain ⟨e1, e2, -, e4⟩ := g_tk10 hk
      rw [e1, e2] at hd
      have := (Bool.and_eq_true_iff.mp hd).2
      rw [g_mt] at this
      have q := of_decide_eq_true (Bool.and_eq_true_iff.mp this).1
      rw [e4] at q
      exact absurd q (by decide)
/-- a forest: in form, its variables from n to n', its size -/
def g_Q (u : Nat → Nat) (N : Nat) (F : Std.Format) (n n' k : Nat) : Prop := g_wf u N F ∧ g_vo F n n' ∧ g_sz F = k
def g_GD (u : Nat → Nat) (N s : Nat) (V : List (Nat × Nat)) (r : g_Rs) : Prop := ∀ p' s' V' t c, r = .inr (p', s', V', t, c) → ∃ k, s' = s + k ∧ g_Q u N (g_nd t g_nil) V.length V'.length k
theorem g_Q0 {u : Nat → Nat} {N n : Nat} : g_Q u N g_nil n n 0 := ⟨trivial, rfl, rfl⟩
theorem g_Qnd {u : Nat → Nat} {N L n n' k : Nat} {F : Std.Format} (hl : g_lk u N L F) (h0 : L % 8 ≠ 0) (h : g_Q u N F n n' k) : g_Q u N (g_nd (L, F) g_nil) n n' (k + 1) :=
  ⟨⟨hl, h.1, trivial⟩, ⟨n, n', ⟨fun q => absurd q h0, fun _ => rfl⟩, h.2.1, rfl⟩, by show 1 + g_sz F + 0 = k + 1; have := h.2.2; omega⟩
theorem g_Qc {u : Nat → Nat} {N n m n' k k' : Nat} {t : Nat × Std.Format} {R : Std.Format} (h1 : g_Q u N (g_nd t g_nil) n m k) (h2 : g_Q u N R m n' k') : g_Q u N (g_nd t R) n n' (k + k') := by
  obtain ⟨⟨a1, a2, -⟩, ⟨n1, n2, a3, a4, a5⟩, a6⟩ := h1
  have a5 : m = n2 := a5
  subst a5
  refine ⟨⟨a1, a2, h2.1⟩, ⟨n1, m, a3, a4, h2.2.1⟩, ?_⟩
  have a6 : 1 + g_sz t.2 + 0 = k := a6
  show 1 + g_sz t.2 + g_sz R = k + k'
  have := h2.2.2
  omega
def g_AC (u : Nat → Nat) (N : Nat) (acc : List (Nat × Std.Format)) (n m k : Nat) : Prop := ∀ R n' k', g_Q u N R m n' k' → g_Q u N (acc.foldl (fun r x => g_nd x r) R) n n' (k + k')
theorem g_AC0 {u : Nat → Nat} {N n : Nat} : g_AC u N [] n n 0 := fun R n' k' h => by rw [Nat.zero_add]; exact h
theorem g_ACs {u : Nat → Nat} {N n m m' k k' : Nat} {acc : List (Nat × Std.Format)} {x : Nat × Std.Format} (h : g_AC u N acc n m k) (hx : g_Q u N (g_nd x g_nil) m m' k') : g_AC u N (x :: acc) n m' (k + k') := fun R n' k2 hR => by
  rw [List.foldl_cons, Nat.add_assoc]
  exact h _ _ _ (g_Qc hx hR)
theorem g_lnA : ∀ (acc : List (Nat × Std.Format)) (R : Std.Format), g_ln (acc.foldl (fun r x => g_nd x r) R) = acc.length + g_ln R
  | [], R => by rw [List.foldl_nil, List.length_nil, Nat.zero_add]
  | x :: acc, R => by
    rw [List.foldl_cons, g_lnA acc, List.length_cons]
    show acc.length + (1 + g_ln R) = _
    omega
def g_LC (u : Nat → Nat) (N : Nat) (acc : List (Nat × Std.Format)) (n m k : Nat) : Prop := ∀ t n' k', g_Q u N (g_nd t g_nil) m n' k' → g_Q u N (g_nd (g_liF acc t) g_nil) n n' (k + k')
theorem g_LC0 {u : Nat → Nat} {N n : Nat} : g_LC u N [] n n 0 := fun R n' k' h => by rw [Nat.zero_add]; exact h
theorem g_LCs {u : Nat → Nat} {N n m m' k k' : Nat} {acc : List (Nat × Std.Format)} {x : Nat × Std.Format} (h : g_LC u N acc n m k) (hx : g_Q u N (g_nd x g_nil) m m' k') : g_LC u N (x :: acc) n m' (k + (k' + 1)) := fun t n' k2 ht => by
  have h1 : g_Q u N (g_nd (g_pair x t) g_nil) m n' (k' + k2 + 1) := g_Qnd (Or.inr (Or.inr (Or.inr (Or.inl ⟨rfl, rfl⟩)))) (by decide) (g_Qc hx ht)
  have h2 := h _ _ _ h1
  rw [show k + (k' + 1) + k2 = k + (k' + k2 + 1) by omega]
  exact h2
theorem g_QV {u : Nat → Nat} {N n n' k : Nat} {F : Std.Format} (h : g_Q u N F n n' k) : n ≤ n' ∧ n' ≤ n + k := by
  have := g_vo_le F h.1 _ _ h.2.1
  rw [h.2.2] at this
  exact this
theorem g_lbT {u : Nat → Nat} {N k p : Nat} (hN : N ≤ 4096) (hk : k < 8) (hp : p ≤ N) (h : g_ky (g_at u N) N p = 2 ∨ g_ky (g_at u N) N p = 3 ∨ g_ky (g_at u N) N p = 10) : g_lb k (g_fr (g_at u N) N p) (g_to (g_at u N) N p) % 8 = k ∧ g_fR (g_lb k (g_fr (g_at u N) N p) (g_to (g_at u N) N p)) = g_fr (g_at u N) N p ∧ g_tO (g_lb k (g_fr (g_at u N) N p) (g_to (g_at u N) N p)) = g_to (g_at u N) N p := by
  have hb := g_tkF hp h
  exact ⟨g_lb1 hk, g_lb2 hk (by omega), g_lb3 hk (by omega)⟩
/-- the label of a name -/
theorem g_lk3 {u : Nat → Nat} {N p : Nat} {kids : Std.Format} (hN : N ≤ 4096) (hp : p ≤ N) (h : g_ky (g_at u N) N p = 3 ∨ g_ky (g_at u N) N p = 10) (h2 : g_ln kids = 2 → g_is (g_at u N) (g_fr (g_at u N) N p) (g_to (g_at u N) N p) [46] = false) (h0 : kids = .nil → g_is (g_at u N) (g_fr (g_at u N) N p) (g_to (g_at u N) N p) [91, 93] = false) : g_lk u N (g_lb 3 (g_fr (g_at u N) N p) (g_to (g_at u N) N p)) kids := by
  obtain ⟨e1, e2, e3⟩ := g_lbT (k := 3) hN (by decide) hp (Or.inr h)
  refine Or.inr (Or.inr (Or.inl ⟨e1, ⟨p, hp, h, e2, e3⟩, ?_, ?_⟩))
  · rw [e2, e3]; exact h2
  · rw [e2, e3]; exact h0
/-- an integer's -/
theorem g_lk12 {u : Nat → Nat} {N p k : Nat} (hN : N ≤ 4096) (hp : p ≤ N) (h : g_ky (g_at u N) N p = 2) (hk : k = 1 ∨ k = 2) : g_lk u N (g_lb k (g_fr (g_at u N) N p) (g_to (g_at u N) N p)) .nil := by
  obtain ⟨e1, e2, e3⟩ := g_lbT (k := k) hN (by omega) hp (Or.inl h)
  exact Or.inr (Or.inl ⟨by omega, rfl, p, hp, h, e2, e3⟩)
theorem g_inLd {u : Nat → Nat} {N : Nat} (hN : N ≤ 4096) {t : Nat → Nat → Nat → List (Nat × Nat) → g_Rs} (ht : ∀ most p s V, most ≤ 1200 → p ≤ N → g_GB N p s (t most p s V)) (hd : ∀ most p s V, most ≤ 1200 → p ≤ N → V.length ≤ s → s ≤ p → g_GD u N s V (t most p s V)) {most s0 : Nat} {V0 : List (Nat × Nat)} (hm : most ≤ 1200) (hV0 : V0.length ≤ s0) : ∀ m p s V l lr k, p ≤ N → s ≤ p → s = s0 + k → g_Q u N (g_nd l g_nil) V0.length V.length k → g_GD u N s0 V0 (g_inL (g_at u N) N t most m p s V l lr) := by
  intro m
  induction m with
  | zero => intro p s V l lr k hp hs hk hl p' s' V' t' c' h; rw [g_inL] at h; cases h; exact ⟨k, hk, hl⟩
  | succ m ih =>
    intro p s V l lr k hp hs hk hl p' s' V' t' c' h
    rw [g_inL] at h
    by_cases hc : most < g_rk (g_op (g_at u N) N p) ∨ g_lf (g_op (g_at u N) N p) < lr
    · rw [if_pos hc] at h
      cases h
      exact ⟨k, hk, hl⟩
    · rw [if_neg hc] at h
      obtain ⟨p2, s2, V2, r2, c2, e1, e2⟩ := g_bdi h
      have hk3 : g_ky (g_at u N) N p = 3 ∨ g_ky (g_at u N) N p = 10 := g_opk hp (by omega)
      have hn := g_nxb (u := u) hp (by omega)
      have hn2 := hn.2.2 (by omega)
      have hlV := g_QV hl
      have b1 := ht _ _ _ _ (g_rtL _ g_infL) hn.2.1 _ _ _ _ _ e1
      obtain ⟨k1, d1, d2⟩ := hd _ _ _ _ (g_rtL _ g_infL) hn.2.1 (by omega) (by omega) _ _ _ _ _ e1
      refine ih p2 s2 V2 _ _ (k + (k1 + 0) + 1) b1.2.1 (by omega) (by omega) ?_ _ _ _ _ _ e2
      exact g_Qnd (g_lk3 hN hp hk3 (fun _ => g_opdot hp (by omega)) (fun q => by cases q)) (by rw [g_lb1 (by decide)]; decide) (g_Qc hl (g_Qc d2 g_Q0))
theorem g_liCd {u : Nat → Nat} {N p s s0 k : Nat} {V V0 : List (Nat × Nat)} {t : Nat × Std.Format} (hk : s = s0 + k) (hq : g_Q u N (g_nd t g_nil) V0.length V.length k) : g_GD u N s0 V0 (g_liC (g_at u N) N p s V t) := by
  intro p' s' V' t' c h
  unfold g_liC at h
  by_cases hk7 : g_ky (g_at u N) N p = 7
  · rw [if_pos hk7] at h; cases h; exact ⟨k, hk, hq⟩
  · rw [if_neg hk7] at h; cases h
theorem g_liEd {u : Nat → Nat} {N : Nat} {t : Nat → Nat → Nat → List (Nat × Nat) → g_Rs} (hd : ∀ most p s V, most ≤ 1200 → p ≤ N → V.length ≤ s → s ≤ p → g_GD u N s V (t most p s V)) {p s s0 k : Nat} {V V0 : List (Nat × Nat)} {acc : List (Nat × Std.Format)} (hp : p ≤ N) (hs : s ≤ p) (hV : V.length ≤ s) (hk : s = s0 + k) (hL : g_LC u N acc V0.length V.length k) : g_GD u N s0 V0 (g_liE (g_at u N) N t p s V acc) := by
  unfold g_liE
  by_cases hk11 : g_ky (g_at u N) N p = 11
  · rw [if_pos hk11]
    intro p' s' V' t' c h
    obtain ⟨p2, s2, V2, r2, c2, e1, e2⟩ := g_bdi h
    have hn := g_nxb (u := u) hp (by omega)
    obtain ⟨k1, d1, d2⟩ := hd _ _ _ _ (by decide) hn.2.1 hV (by omega) _ _ _ _ _ e1
    exact g_liCd (k := k + k1) (by omega) (hL _ _ _ d2) _ _ _ _ _ e2
  · rw [if_neg hk11]
    exact g_liCd (k := k + (0 + 1)) (by omega) (hL _ _ _ (g_Qnd (Or.inr (Or.inr (Or.inr (Or.inr ⟨rfl, rfl⟩)))) (by decide) g_Q0))
theorem g_liLd {u : Nat → Nat} {N : Nat} {t : Nat → Nat → Nat → List (Nat × Nat) → g_Rs} (ht : ∀ most p s V, most ≤ 1200 → p ≤ N → g_GB N p s (t most p s V)) (hd : ∀ most p s V, most ≤ 1200 → p ≤ N → V.length ≤ s → s ≤ p → g_GD u N s V (t most p s V)) {s0 : Nat} {V0 : List (Nat × Nat)} : ∀ m p s V acc k, p ≤ N → s ≤ p → V.length ≤ s → s = s0 + k → g_LC u N acc V0.length V.length k → g_GD u N s0 V0 (g_liL (g_at u N) N t m p s V acc) := by
  intro m
  induction m with
  | zero => intro p s V acc k hp hs hV hk hL; exact g_liEd hd hp hs hV hk hL
  | succ m ih =>
    intro p s V acc k hp hs hV hk hL
    rw [g_liL]
    by_cases hk10 : g_ky (g_at u N) N p = 10
    · rw [if_pos hk10]
      intro p' s' V' t' c h
      obtain ⟨p2, s2, V2, r2, c2, e1, e2⟩ := g_bdi h
      have hn := g_nxb (u := u) hp (by omega)
      have hn2 := hn.2.2 (by omega)
      have b1 := ht _ _ _ _ (by decide) hn.2.1 _ _ _ _ _ e1
      obtain ⟨k1, d1, d2⟩ := hd _ _ _ _ (by decide) hn.2.1 (by omega) (by omega) _ _ _ _ _ e1
      have hv := g_QV d2
      exact ih p2 s2 V2 _ (k + (k1 + 1)) b1.2.1 (by omega) (by omega) (by omega) (g_LCs hL d2) _ _ _ _ _ e2
    · rw [if_neg hk10]
      exact g_liEd hd hp hs hV hk hL
theorem g_arLd {u : Nat → Nat} {N : Nat} (hN : N ≤ 4096) {t : Nat → Nat → Nat → List (Nat × Nat) → g_Rs} (ht : ∀ most p s V, most ≤ 1200 → p ≤ N → g_GB N p s (t most p s V)) (hd : ∀ most p s V, most ≤ 1200 → p ≤ N → V.length ≤ s → s ≤ p → g_GD u N s V (t most p s V)) {q s0 : Nat} {V0 : List (Nat × Nat)} (hq : q ≤ N) (hq3 : g_ky (g_at u N) N q = 3) : ∀ m p s V acc k, p ≤ N → s ≤ p → V.length ≤ s → s = s0 + k + 1 → g_AC u N acc V0.length V.length k → g_GD u N s0 V0 (g_arL (g_at u N) N t q m p s V acc) := by
  intro m
  induction m with
  | zero => intro p s V acc k hp hs hV hk hL p' s' V' t' c h; rw [g_arL] at h; cases h
  | succ m ih =>
    intro p s V acc k hp hs hV hk hL p' s' V' t' c h
    rw [g_arL] at h
    obtain ⟨p2, s2, V2, r2, c2, e1, e2⟩ := g_bdi h
    have b1 := ht _ _ _ _ (by decide) hp _ _ _ _ _ e1
    obtain ⟨k1, d1, d2⟩ := hd _ _ _ _ (by decide) hp hV hs _ _ _ _ _ e1
    have hv := g_QV d2
    by_cases hk10 : g_ky (g_at u N) N p2 = 10
    · rw [if_pos hk10] at e2
      have hn := g_nxb (u := u) b1.2.1 (by omega)
      exact ih _ _ _ _ (k + k1) hn.2.1 (by omega) (by omega) (by omega) (g_ACs hL d2) _ _ _ _ _ e2
    · rw [if_neg hk10] at e2
      by_cases hk5 : g_ky (g_at u N) N p2 = 5
      · rw [if_pos hk5] at e2
        cases e2
        refine ⟨k + k1 + 0 + 1, by omega, ?_⟩
        have hF := g_ACs hL d2 g_nil _ _ g_Q0
        have hln : g_ln (g_arK (r2 :: acc)) = acc.length + 1 + 0 := g_lnA (r2 :: acc) g_nil
        cases hb : g_is (g_at u N) (g_fr (g_at u N) N q) (g_to (g_at u N) N q) [46] && decide (acc.length = 1) with
        | true =>
          have := of_decide_eq_true (Bool.and_eq_true_iff.mp hb).2
          exact g_Qnd (Or.inr (Or.inr (Or.inr (Or.inl ⟨rfl, by rw [hln, this]⟩)))) (by show g_lb 4 0 0 % 8 ≠ 0; decide) hF
        | false =>
          refine g_Qnd (g_lk3 hN hq (Or.inl hq3) (fun z => ?_) (fun z => ?_)) (by show g_lb 3 _ _ % 8 ≠ 0; rw [g_lb1 (by decide)]; decide) hF
          · rw [decide_eq_true (show acc.length = 1 by omega), Bool.and_true] at hb
            exact hb
          · rw [z] at hln
            have hln : 0 = acc.length + 1 + 0 := hln
            omega
      · rw [if_neg hk5] at e2
        cases e2
theorem g_namd {u : Nat → Nat} {N : Nat} (hN : N ≤ 4096) {t : Nat → Nat → Nat → List (Nat × Nat) → g_Rs} (ht : ∀ most p s V, most ≤ 1200 → p ≤ N → g_GB N p s (t most p s V)) (hd : ∀ most p s V, most ≤ 1200 → p ≤ N → V.length ≤ s → s ≤ p → g_GD u N s V (t most p s V)) {most p s : Nat} {V : List (Nat × Nat)} (hp : p ≤ N) (hs : s ≤ p) (hV : V.length ≤ s) (hk : g_ky (g_at u N) N p = 3) : g_GD u N s V (g_nam (g_at u N) N t most p s V) := by
  intro p' s' V' t' c h
  have hn := g_nxb (u := u) hp (by omega)
  have hn2 := hn.2.2 (by omega)
  unfold g_nam at h
  by_cases h40 : g_at u N (g_bh (g_at u N) N p) = 40
  · rw [if_pos h40] at h
    have hk4 := (g_nam40 h40).2
    have hm1 := g_nxb (u := u) hn.2.1 (by omega)
    exact g_arLd hN ht hd hp hk _ _ _ _ _ 0 hm1.2.1 (by omega) (by omega) (by omega) g_AC0 _ _ _ _ _ h
  · rw [if_neg h40] at h
    by_cases hdg : (g_dig (g_at u N (g_bh (g_at u N) N p)) && g_is (g_at u N) (g_fr (g_at u N) N p) (g_to (g_at u N) N p) [45]) = true
    · rw [if_pos hdg] at h
      by_cases h2 : g_ky (g_at u N) N (g_nx (g_at u N) N p) = 2
      · rw [if_pos h2] at h
        cases h
        exact ⟨0 + 1, by omega, g_Qnd (g_lk12 hN hn.2.1 h2 (Or.inr rfl)) (by rw [g_lb1 (by decide)]; decide) g_Q0⟩
      · rw [if_neg h2] at h
        cases h
    · rw [if_neg hdg] at h
      by_cases hc : most < g_rk (g_px (g_at u N) N p) ∨ g_bg (g_at u N) N (g_nx (g_at u N) N p) = false
      · rw [if_pos hc] at h
        cases h
        refine ⟨0 + 1, by omega, ?_⟩
        cases hb : g_is (g_at u N) (g_fr (g_at u N) N p) (g_to (g_at u N) N p) [91, 93] with
        | true => exact g_Qnd (Or.inr (Or.inr (Or.inr (Or.inr ⟨rfl, rfl⟩)))) (by show g_lb 5 0 0 % 8 ≠ 0; decide) g_Q0
        | false => exact g_Qnd (g_lk3 hN hp (Or.inl hk) (fun z => by cases z) (fun _ => hb)) (by show g_lb 3 _ _ % 8 ≠ 0; rw [g_lb1 (by decide)]; decide) g_Q0
      · rw [if_neg hc] at h
        obtain ⟨p2, s2, V2, r2, c2, e1, e2⟩ := g_bdi h
        obtain ⟨k1, d1, d2⟩ := hd _ _ _ _ (g_rtL _ g_nmL) hn.2.1 (by omega) (by omega) _ _ _ _ _ e1
        cases e2
        exact ⟨k1 + 1, by omega, g_Qnd (g_lk3 hN hp (Or.inl hk) (fun z => by cases z) (fun z => by cases z)) (by rw [g_lb1 (by decide)]; decide) d2⟩
theorem g_vfL {u : Nat → Nat} {f t : Nat} : ∀ (V : List (Nat × Nat)) (i : Nat), g_vf u f t V i ≤ i + V.length
  | [], i => Nat.le_refl _
  | q :: l, i => by
    rw [g_vf]
    cases g_same u q.1 q.2 f t with
    | true => show i ≤ _; omega
    | false => have := g_vfL (u := u) (f := f) (t := t) l (i + 1); show g_vf u f t l (i + 1) ≤ _; rw [List.length_cons]; omega
theorem g_vrL {u : Nat → Nat} {V : List (Nat × Nat)} {f t : Nat} : g_vr u V f t ≤ V.length := by
  unfold g_vr
  cases g_nl u f t with
  | true => exact Nat.le_refl _
  | false => have := g_vfL (u := u) (f := f) (t := t) V 0; show g_vf u f t V 0 ≤ _; omega
theorem g_Qv {u : Nat → Nat} {N f t : Nat} {V : List (Nat × Nat)} (hV : V.length < 8192) : g_Q u N (g_nd (g_lb 0 (g_vr u V f t) 0, g_nil) g_nil) V.length (g_vV u V f t).length (0 + 1) := by
  have hr := g_vrL (u := u) (V := V) (f := f) (t := t)
  have e1 : g_lb 0 (g_vr u V f t) 0 % 8 = 0 := g_lb1 (by decide)
  have e2 : g_fR (g_lb 0 (g_vr u V f t) 0) = g_vr u V f t := g_lb2 (by decide) (by omega)
  have e3 : (g_vV u V f t).length = max V.length (g_vr u V f t + 1) := by
    unfold g_vV
    by_cases h : g_vr u V f t = V.length
    · rw [decide_eq_true h]
      show (V ++ [(f, t)]).length = _
      rw [List.length_append, List.length_singleton]; omega
    · rw [decide_eq_false h]
      show V.length = _
      omega
  refine ⟨⟨Or.inl ⟨e1, rfl⟩, trivial, trivial⟩, ⟨(g_vV u V f t).length, _, ⟨fun _ => ⟨by rw [e2]; exact hr, by rw [e2]; exact e3⟩, fun q => absurd e1 q⟩, rfl, rfl⟩, rfl⟩
theorem g_prd {u : Nat → Nat} {N : Nat} (hN : N ≤ 4096) {t : Nat → Nat → Nat → List (Nat × Nat) → g_Rs} (ht : ∀ most p s V, most ≤ 1200 → p ≤ N → g_GB N p s (t most p s V)) (hd : ∀ most p s V, most ≤ 1200 → p ≤ N → V.length ≤ s → s ≤ p → g_GD u N s V (t most p s V)) {most p s : Nat} {V : List (Nat × Nat)} (hp : p ≤ N) (hV : V.length ≤ s) (hs : s ≤ p) : g_GD u N s V (g_pr (g_at u N) u N t most p s V) := by
  intro p' s' V' t' c h
  unfold g_pr at h
  by_cases h2 : g_ky (g_at u N) N p = 2
  · rw [if_pos h2] at h
    cases h
    exact ⟨0 + 1, by omega, g_Qnd (g_lk12 hN hp h2 (Or.inl rfl)) (by rw [g_lb1 (by decide)]; decide) g_Q0⟩
  rw [if_neg h2] at h
  by_cases h1 : g_ky (g_at u N) N p = 1
  · rw [if_pos h1] at h
    cases h
    exact ⟨0 + 1, by omega, g_Qv (by omega)⟩
  rw [if_neg h1] at h
  by_cases h4 : g_ky (g_at u N) N p = 4
  · rw [if_pos h4] at h
    obtain ⟨p2, s2, V2, r2, c2, e1, e2⟩ := g_bdi h
    have hn := g_nxb (u := u) hp (by omega)
    obtain ⟨k1, d1, d2⟩ := hd _ _ _ _ (by decide) hn.2.1 hV (by omega) _ _ _ _ _ e1
    by_cases h5 : g_ky (g_at u N) N p2 = 5
    · rw [if_pos h5] at e2
      cases e2
      exact ⟨k1, d1, d2⟩
    · rw [if_neg h5] at e2
      cases e2
  rw [if_neg h4] at h
  by_cases h6 : g_ky (g_at u N) N p = 6
  · rw [if_pos h6] at h
    unfold g_li at h
    obtain ⟨p2, s2, V2, r2, c2, e1, e2⟩ := g_bdi h
    have hn := g_nxb (u := u) hp (by omega)
    have hn2 := hn.2.2 (by omega)
    have b1 := ht _ _ _ _ (by decide) hn.2.1 _ _ _ _ _ e1
    obtain ⟨k1, d1, d2⟩ := hd _ _ _ _ (by decide) hn.2.1 (by omega) (by omega) _ _ _ _ _ e1
    have hv := g_QV d2
    exact g_liLd ht hd _ _ _ _ _ (0 + (k1 + 1)) b1.2.1 (by omega) (by omega) (by omega) (g_LCs g_LC0 d2) _ _ _ _ _ e2
  rw [if_neg h6] at h
  by_cases h3 : g_ky (g_at u N) N p = 3
  · rw [if_pos h3] at h
    exact g_namd hN ht hd hp hs hV h3 _ _ _ _ _ h
  · rw [if_neg h3] at h
    cases h
theorem g_Td {u : Nat → Nat} {N : Nat} (hN : N ≤ 4096) : ∀ (d most p s : Nat) (V : List (Nat × Nat)), most ≤ 1200 → p ≤ N → V.length ≤ s → s ≤ p → g_GD u N s V (g_T (g_at u N) u N d most p s V) := by
  intro d
  induction d with
  | zero => intro most p s V hm hp hV hs p' s' V' t' c h; rw [g_T] at h; cases h
  | succ d ih =>
    intro most p s V hm hp hV hs p' s' V' t' c h
    rw [g_T] at h
    obtain ⟨p2, s2, V2, r2, c2, e1, e2⟩ := g_bdi h
    have b1 := g_prb (fun m p s V a b => g_Tb d m p s V a b) hm hp _ _ _ _ _ e1
    obtain ⟨k1, d1, d2⟩ := g_prd hN (fun m p s V a b => g_Tb d m p s V a b) ih hp hV hs _ _ _ _ _ e1
    exact g_inLd hN (fun m p s V a b => g_Tb d m p s V a b) ih hm hV _ _ _ _ _ _ k1 b1.2.1 (by omega) d1 d2 _ _ _ _ _ e2
/-- the whole tape's term -/
theorem g_allD {u : Nat → Nat} {N s : Nat} {V : List (Nat × Nat)} {t : Nat × Std.Format} (hN : N ≤ 4096) (h : g_all u N = .inr (s, V, t)) : s ≤ 1000 ∧ g_Q u N (g_nd t g_nil) 0 V.length s := by
  unfold g_all at h
  have hp0 : g_pl (g_at u N) N 0 ≤ N := by
    have := g_sk_le (g_at u N) (N - 0) false 0
    show g_sk (g_at u N) (N - 0) false 0 ≤ N
    omega
  cases hT : g_T (g_at u N) u N 100 1200 (g_pl (g_at u N) N 0) 0 [] with
  | inl q => rw [hT] at h; cases h
  | inr y =>
    obtain ⟨p, s1, V1, t1, c⟩ := y
    rw [hT] at h
    obtain ⟨k, e1, e2⟩ := g_Td hN 100 1200 _ 0 [] (by decide) hp0 (Nat.le_refl _) (Nat.zero_le _) _ _ _ _ _ hT
    have h : (if ¬ g_ky (g_at u N) N p = 0 then .inl p else if ¬ g_ky (g_at u N) N (g_nx (g_at u N) N p) = 13 then .inl (g_nx (g_at u N) N p) else if 1000 < s1 then .inl (g_pl (g_at u N) N 0) else .inr (s1, V1, t1) : Nat ⊕ (Nat × List (Nat × Nat) × (Nat × Std.Format))) = .inr (s, V, t) := h
    by_cases a1 : g_ky (g_at u N) N p = 0
    · rw [if_neg (fun z => z a1)] at h
      by_cases a2 : g_ky (g_at u N) N (g_nx (g_at u N) N p) = 13
      · rw [if_neg (fun z => z a2)] at h
        by_cases a3 : 1000 < s1
        · rw [if_pos a3] at h; cases h
        · rw [if_neg a3] at h
          cases h
          exact ⟨by omega, by rw [show s = k by omega]; exact e2⟩
      · rw [if_pos a2] at h; cases h
    · rw [if_pos a1] at h; cases h
