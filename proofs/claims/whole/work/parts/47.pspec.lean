/-! the forests in their own form, and their print -/
def g_sz : Std.Format → Nat
  | .append (.tag _ kids) rest => 1 + g_sz kids + g_sz rest
  | _ => 0
/-- how many terms -/
def g_ln : Std.Format → Nat
  | .append (.tag _ _) rest => 1 + g_ln rest
  | _ => 0
def g_fR (L : Nat) : Nat := L / 8 % 8192
def g_tO (L : Nat) : Nat := L / 65536
/-- what a label and its terms keep to -/
def g_lk (u : Nat → Nat) (N L : Nat) (kids : Std.Format) : Prop :=
  (L % 8 = 0 ∧ kids = .nil) ∨
  ((L % 8 = 1 ∨ L % 8 = 2) ∧ kids = .nil ∧ ∃ p, p ≤ N ∧ g_ky (g_at u N) N p = 2 ∧ g_fR L = g_fr (g_at u N) N p ∧ g_tO L = g_to (g_at u N) N p) ∨
  (L % 8 = 3 ∧ (∃ p, p ≤ N ∧ (g_ky (g_at u N) N p = 3 ∨ g_ky (g_at u N) N p = 10) ∧ g_fR L = g_fr (g_at u N) N p ∧ g_tO L = g_to (g_at u N) N p) ∧ (g_ln kids = 2 → g_is (g_at u N) (g_fR L) (g_tO L) [46] = false) ∧ (kids = .nil → g_is (g_at u N) (g_fR L) (g_tO L) [91, 93] = false)) ∨
  (L % 8 = 4 ∧ g_ln kids = 2) ∨ (L % 8 = 5 ∧ kids = .nil)
def g_wf (u : Nat → Nat) (N : Nat) : Std.Format → Prop
  | .append (.tag L kids) rest => g_lk u N L kids ∧ g_wf u N kids ∧ g_wf u N rest
  | .nil => True
  | _ => False
theorem g_find {u : Nat → Nat} {N : Nat} {M : Std.Format → Prop} (h0 : M .nil) (h1 : ∀ L kids rest, g_lk u N L kids → g_wf u N kids → g_wf u N rest → M kids → M rest → M (.append (.tag L kids) rest)) : ∀ F, g_wf u N F → M F
  | .append (.tag L kids) rest, h => h1 L kids rest h.1 h.2.1 h.2.2 (g_find h0 h1 kids h.2.1) (g_find h0 h1 rest h.2.2)
  | .nil, _ => h0
  | .line, h => h.elim
  | .align _, h => h.elim
  | .text _, h => h.elim
  | .nest _ _, h => h.elim
  | .group _ _, h => h.elim
  | .tag _ _, h => h.elim
  | .append .nil _, h => h.elim
  | .append .line _, h => h.elim
  | .append (.align _) _, h => h.elim
  | .append (.text _) _, h => h.elim
  | .append (.nest _ _) _, h => h.elim
  | .append (.group _ _) _, h => h.elim
  | .append (.append _ _) _, h => h.elim
theorem g_wfc {u : Nat → Nat} {N : Nat} {F : Std.Format} (h : g_wf u N F) : F = .nil ∨ ∃ L kids rest, F = .append (.tag L kids) rest ∧ g_lk u N L kids ∧ g_wf u N kids ∧ g_wf u N rest :=
  g_find (M := fun F => F = .nil ∨ ∃ L kids rest, F = .append (.tag L kids) rest ∧ g_lk u N L kids ∧ g_wf u N kids ∧ g_wf u N rest) (Or.inl rfl) (fun L kids rest a b c _ _ => Or.inr ⟨L, kids, rest, rfl, a, b, c⟩) F h
/-- variables are numbered as they first come -/
def g_vo : Std.Format → Nat → Nat → Prop
  | .append (.tag L kids) rest, n, n' => ∃ n1 n2, ((L % 8 = 0 → g_fR L ≤ n ∧ n1 = max n (g_fR L + 1)) ∧ (L % 8 ≠ 0 → n1 = n)) ∧ g_vo kids n1 n2 ∧ g_vo rest n2 n'
  | _, n, n' => n' = n
theorem g_vo_le {u : Nat → Nat} {N : Nat} : ∀ F, g_wf u N F → ∀ n n', g_vo F n n' → n ≤ n' ∧ n' ≤ n + g_sz F := by
  refine g_find (fun n n' h => ?_) (fun L kids rest _ _ _ ih1 ih2 n n' h => ?_)
  · have h : n' = n := h
    subst h; exact ⟨Nat.le_refl _, Nat.le_refl _⟩
  · obtain ⟨n1, n2, ⟨h1, h2⟩, h3, h4⟩ := h
    have b1 := ih1 _ _ h3
    have b2 := ih2 _ _ h4
    show n ≤ n' ∧ n' ≤ n + (1 + g_sz kids + g_sz rest)
    by_cases hk : L % 8 = 0
    · have := h1 hk; omega
    · have := h2 hk; omega
/-- a leaf as it is printed -/
def g_lF (u : Nat → Nat) (L : Nat) : List Int32 := if L % 8 = 0 then 95 :: g_num (g_fR L) else if L % 8 = 5 then [91, 93] else (bif decide (L % 8 = 2) && !decide (g_sb (u (g_fR L)) = 48) then [45] else []) ++ g_tp u (g_tO L - g_fR L) (g_fR L)
/-- a symbol and what is inside of it -/
def g_S (u : Nat → Nat) (L z : Nat) (k0 k1 : List Int32) : List Int32 := if L % 8 = 4 then 91 :: k1 else if L % 8 = 3 then g_nmS u (g_fR L) (g_tO L) ++ (if z = 0 then [] else 40 :: k0) else g_lF u L
/-- the print of a forest: 0 terms of a name, 1 of a pair; 2 what is behind an item, 3 behind a term -/
def g_P (u : Nat → Nat) : Std.Format → Nat → List Int32
  | .append (.tag L kids) rest, m => if m = 2 ∧ L % 8 = 5 then [93] else if m = 2 ∧ L % 8 = 4 then 44 :: g_P u kids 1 else
    (if m = 2 then [124] else if m = 3 then [44] else []) ++ (g_S u L (g_sz kids) (g_P u kids 0) (g_P u kids 1) ++ g_P u rest (if m = 1 ∨ m = 2 then 2 else 3))
  | _, m => if m = 2 then [93] else if m = 3 then [41] else []
/-- the whole print -/
def g_pt (u : Nat → Nat) (t : Nat × Std.Format) : List Int32 := g_S u t.1 (g_sz t.2) (g_P u t.2 0) (g_P u t.2 1)
/-- how deep -/
def g_dp : Std.Format → Nat
  | .append (.tag _ kids) rest => max (if g_sz kids = 0 then 0 else 1 + g_dp kids) (g_dp rest)
  | _ => 0
def g_dt (t : Nat × Std.Format) : Nat := if g_sz t.2 = 0 then 0 else 1 + g_dp t.2
theorem g_sz0 {u : Nat → Nat} {N : Nat} {F : Std.Format} (h : g_wf u N F) : g_sz F = 0 ↔ F = .nil := by
  rcases g_wfc h with rfl | ⟨L, kids, rest, rfl, -⟩
  · exact ⟨fun _ => rfl, fun _ => rfl⟩
  · exact ⟨fun q => by have q : 1 + g_sz kids + g_sz rest = 0 := q; omega, fun q => by cases q⟩
/-- row n is one of the forest's -/
def g_in (A : Nat → Nat → Int32) : Std.Format → Int32 → Nat → Prop
  | .append (.tag _ kids) rest, x, n => x = nI n ∨ g_in A kids (A 4 x.toNatClampNeg) n ∨ g_in A rest (A 5 x.toNatClampNeg) n
  | _, _, _ => False
theorem g_cFn {A : Nat → Nat → Int32} {P : Nat → Prop} {L : Nat} {kids rest : Std.Format} {x : Int32} {o : Nat} (h : g_cF A P (.append (.tag L kids) rest) x o) : ∃ j, x = nI j ∧ P j ∧ j < 1001 ∧ g_row A j L ∧ A 3 j = nI o ∧ g_cF A P kids (A 4 j) j ∧ g_cF A P rest (A 5 j) o := h
theorem g_m1n {j : Nat} (h : j < 1001) : ¬ (-1 : Int32) = nI j := by
  intro q
  have : ∀ j, j < 1001 → ¬ (-1 : Int32) = nI j := by decide +kernel
  exact this j h q
theorem g_cFdet {u : Nat → Nat} {N : Nat} {A : Nat → Nat → Int32} {P P' : Nat → Prop} : ∀ F, g_wf u N F → ∀ (x : Int32) (o : Nat), g_cF A P F x o → ∀ F' o', g_wf u N F' → g_cF A P' F' x o' → g_sz F = g_sz F' := by
  refine g_find (fun x o h F' o' hw' h' => ?_) (fun L kids rest _ _ _ ih1 ih2 x o h F' o' hw' h' => ?_)
  · have h : x = -1 := h
    rcases g_wfc hw' with rfl | ⟨L, kids, rest, rfl, -⟩
    · rfl
    · obtain ⟨j, e, -, hj, -⟩ := g_cFn h'
      exact absurd (h.symm.trans e) (g_m1n hj)
  · obtain ⟨j, e, -, hj, -, -, h6, h7⟩ := g_cFn h
    rcases g_wfc hw' with rfl | ⟨L', kids', rest', rfl, -, w1, w2⟩
    · have h' : x = -1 := h'
      exact absurd (h'.symm.trans e) (g_m1n hj)
    · obtain ⟨j', e', -, hj', -, -, h6', h7'⟩ := g_cFn h'
      have : j = j' := (g_nIne (by omega) (by omega)).mp (e.symm.trans e')
      subst this
      show 1 + g_sz kids + g_sz rest = 1 + g_sz kids' + g_sz rest'
      rw [ih1 _ _ h6 _ _ w1 h6', ih2 _ _ h7 _ _ w2 h7']
theorem g_inP {u : Nat → Nat} {N : Nat} {A : Nat → Nat → Int32} {P : Nat → Prop} {n : Nat} (hn : n < 1001) : ∀ F, g_wf u N F → ∀ (x : Int32) (o : Nat), g_cF A P F x o → g_in A F x n → P n ∧ ∃ F' o', g_wf u N F' ∧ g_cF A P F' (nI n) o' ∧ g_sz F' ≤ g_sz F := by
  refine g_find (fun x o h hi => hi.elim) (fun L kids rest hl w1 w2 ih1 ih2 x o h hi => ?_)
  obtain ⟨j, e, hP, hj, h4, h5, h6, h7⟩ := g_cFn h
  have ej : x.toNatClampNeg = j := by rw [e]; exact nI_clamp (by omega)
  rcases hi with hi | hi | hi
  · have : j = n := (g_nIne (by omega) (by omega)).mp (e.symm.trans hi)
    subst this
    exact ⟨hP, .append (.tag L kids) rest, o, ⟨hl, w1, w2⟩, hi ▸ h, Nat.le_refl _⟩
  · rw [ej] at hi
    obtain ⟨q1, F', o', q2, q3, q4⟩ := ih1 _ _ h6 hi
    exact ⟨q1, F', o', q2, q3, by show g_sz F' ≤ 1 + g_sz kids + g_sz rest; omega⟩
  · rw [ej] at hi
    obtain ⟨q1, F', o', q2, q3, q4⟩ := ih2 _ _ h7 hi
    exact ⟨q1, F', o', q2, q3, by show g_sz F' ≤ 1 + g_sz kids + g_sz rest; omega⟩
/-- a row isn't one of those below it -/
theorem g_nin {u : Nat → Nat} {N : Nat} {A : Nat → Nat → Int32} {P : Nat → Prop} {L j o : Nat} {kids rest : Std.Format} (hw : g_wf u N (.append (.tag L kids) rest)) (h : g_cF A P (.append (.tag L kids) rest) (nI j) o) (hj : j < 1001) : ¬ g_in A kids (A 4 j) j := by
  intro hi
  obtain ⟨i, e, -, hi2, -, -, h6, -⟩ := g_cFn h
  have : j = i := (g_nIne (by omega) (by omega)).mp e
  subst this
  obtain ⟨-, F', o', q2, q3, q4⟩ := g_inP hj kids hw.2.1 _ _ h6 hi
  have := g_cFdet _ hw _ _ h _ _ q2 q3
  have e2 : g_sz (.append (.tag L kids) rest) = 1 + g_sz kids + g_sz rest := rfl
  omega
theorem g_tkF {u : Nat → Nat} {N p : Nat} (hp : p ≤ N) (h : g_ky (g_at u N) N p = 2 ∨ g_ky (g_at u N) N p = 3 ∨ g_ky (g_at u N) N p = 10) : g_fr (g_at u N) N p ≤ g_to (g_at u N) N p ∧ g_to (g_at u N) N p ≤ N := by
  have hb := g_tkb (u := u) hp
  have hk : g_ky (g_at u N) N p ≠ 12 := by omega
  have h1 := hb.2.1 hk
  exact ⟨h1.1, h1.2.1⟩
/-- where a label has a text: its bounds -/
theorem g_lkT {u : Nat → Nat} {N L : Nat} {kids : Std.Format} (h : g_lk u N L kids) (hk : L % 8 = 1 ∨ L % 8 = 2 ∨ L % 8 = 3) : g_fR L ≤ g_tO L ∧ g_tO L ≤ N := by
  rcases h with h | ⟨h, -, p, h1, h2, h3, h4⟩ | ⟨h, ⟨p, h1, h2, h3, h4⟩, -⟩ | h | h
  · omega
  · rw [h3, h4]; exact g_tkF h1 (Or.inl h2)
  · rw [h3, h4]; exact g_tkF h1 (Or.inr h2)
  · omega
  · omega
theorem g_lk5 {u : Nat → Nat} {N L : Nat} {kids : Std.Format} (h : g_lk u N L kids) : L % 8 ≤ 5 ∧ (L % 8 ≠ 3 → L % 8 ≠ 4 → kids = .nil) ∧ (L % 8 = 4 → g_ln kids = 2) := by
  rcases h with ⟨h, h'⟩ | ⟨h, h', -⟩ | ⟨h, -⟩ | ⟨h, h'⟩ | ⟨h, h'⟩
  · exact ⟨by omega, fun _ _ => h', by omega⟩
  · exact ⟨by omega, fun _ _ => h', by omega⟩
  · exact ⟨by omega, fun q => absurd h q, by omega⟩
  · exact ⟨by omega, fun _ q => absurd h q, fun _ => h'⟩
  · exact ⟨by omega, fun _ _ => h', by omega⟩
theorem g_numL (v : Nat) : (g_num v).length ≤ 3 := by
  unfold g_num
  split
  · show 1 ≤ 3; decide
  · split
    · show 2 ≤ 3; decide
    · show 3 ≤ 3; decide
theorem g_nmSL (u : Nat → Nat) (f t : Nat) : (g_nmS u f t).length ≤ t - f + 2 := by
  unfold g_nmS
  cases g_pn u f t with
  | true => show (g_tp u (t - f) f).length ≤ _; rw [g_tp_len]; omega
  | false => show (39 :: (g_tp u (t - f) f ++ [39])).length ≤ _; rw [List.length_cons, List.length_append, g_tp_len]; exact Nat.le_refl _
theorem g_lFL {u : Nat → Nat} {N L : Nat} {kids : Std.Format} (hN : N ≤ 4096) (h : g_lk u N L kids) (_h3 : L % 8 ≠ 3) (h4 : L % 8 ≠ 4) : (g_lF u L).length ≤ 4100 := by
  have h5 := (g_lk5 h).1
  unfold g_lF
  by_cases q0 : L % 8 = 0
  · rw [if_pos q0, List.length_cons]; have := g_numL (g_fR L); omega
  · rw [if_neg q0]
    by_cases q5 : L % 8 = 5
    · rw [if_pos q5]; decide
    · rw [if_neg q5, List.length_append, g_tp_len]
      have := g_lkT h (by omega)
      cases decide (L % 8 = 2) && !decide (g_sb (u (g_fR L)) = 48) with
      | true => show 1 + _ ≤ 4100; omega
      | false => show 0 + _ ≤ 4100; omega
theorem g_SL {u : Nat → Nat} {N L z : Nat} {kids : Std.Format} {k0 k1 : List Int32} (hN : N ≤ 4096) (h : g_lk u N L kids) : (g_S u L z k0 k1).length ≤ 4200 + max k0.length k1.length := by
  unfold g_S
  by_cases q4 : L % 8 = 4
  · rw [if_pos q4, List.length_cons]; omega
  · rw [if_neg q4]
    by_cases q3 : L % 8 = 3
    · rw [if_pos q3, List.length_append]
      have := g_lkT h (by omega)
      have := g_nmSL u (g_fR L) (g_tO L)
      by_cases hz : z = 0
      · rw [if_pos hz]; show _ + 0 ≤ _; omega
      · rw [if_neg hz, List.length_cons]; omega
    · rw [if_neg q3]
      have := g_lFL hN h q3 q4
      omega
theorem g_PL {u : Nat → Nat} {N : Nat} (hN : N ≤ 4096) : ∀ F, g_wf u N F → ∀ m, (g_P u F m).length ≤ 5000 * g_sz F + 1 := by
  refine g_find (fun m => ?_) (fun L kids rest hl w1 w2 ih1 ih2 m => ?_)
  · show (if m = 2 then [93] else if m = 3 then [41] else [] : List Int32).length ≤ 5000 * 0 + 1
    by_cases h2 : m = 2
    · rw [if_pos h2]; decide
    · rw [if_neg h2]
      by_cases h3 : m = 3
      · rw [if_pos h3]; decide
      · rw [if_neg h3]; decide
  · have e : g_sz (.append (.tag L kids) rest) = 1 + g_sz kids + g_sz rest := rfl
    rw [e, g_P]
    have a1 := ih1 1
    by_cases c1 : m = 2 ∧ L % 8 = 5
    · rw [if_pos c1]; show 1 ≤ _; omega
    · rw [if_neg c1]
      by_cases c2 : m = 2 ∧ L % 8 = 4
      · rw [if_pos c2, List.length_cons]; omega
      · rw [if_neg c2, List.length_append, List.length_append]
        have b := g_SL (z := g_sz kids) (k0 := g_P u kids 0) (k1 := g_P u kids 1) hN hl
        have a0 := ih1 0
        have a2 := ih2 (if m = 1 ∨ m = 2 then 2 else 3)
        have a3 : (if m = 2 then [124] else if m = 3 then [44] else [] : List Int32).length ≤ 1 := by
          by_cases h2 : m = 2
          · rw [if_pos h2]; decide
          · rw [if_neg h2]
            by_cases h3 : m = 3
            · rw [if_pos h3]; decide
            · rw [if_neg h3]; decide
        omega
theorem g_dgS {a : Nat → Int32} : ∀ (m i f v : Nat), f < i → (g_dg a m i f v).2.1 < (g_dg a m i f v).1
  | 0, i, f, v, h => h
  | m + 1, i, f, v, h => by
    rw [g_dg]
    cases g_dig (a i) with
    | true => exact g_dgS m (i + 1) _ _ (by split <;> omega)
    | false => exact h
/-- an integer's text isn't empty -/
theorem g_tk2 {u : Nat → Nat} {N p : Nat} (h : g_ky (g_at u N) N p = 2) : g_fr (g_at u N) N p < g_to (g_at u N) N p := by
  unfold g_ky at h
  unfold g_fr g_to
  unfold g_tk at h ⊢
  by_cases h0 : g_at u N p < 0
  · rw [if_pos h0] at h; cases h
  have hpN := g_at_nn h0
  rw [if_neg h0] at h ⊢
  by_cases h1 : g_dig (g_at u N p) = true
  · rw [if_pos h1]
    obtain ⟨m, hm⟩ : ∃ k, N - p = k + 1 := ⟨N - p - 1, by omega⟩
    rw [hm, g_dg, h1]
    exact g_dgS m (p + 1) _ _ (by split <;> omega)
  rw [if_neg h1] at h ⊢
  by_cases h2 : g_at u N p = 39
  · rw [if_pos h2] at h
    by_cases hr : g_qt (g_at u N) (N - p) (p + 1) = 0
    · rw [hr] at h; cases h
    · rw [decide_eq_false hr] at h; cases h
  rw [if_neg h2] at h ⊢
  by_cases h3 : g_small (g_at u N p) = true
  · rw [if_pos h3] at h; cases h
  rw [if_neg h3] at h ⊢
  by_cases h4 : g_word (g_at u N p) = true
  · rw [if_pos h4] at h; cases h
  rw [if_neg h4] at h ⊢
  by_cases h5 : g_symb (g_at u N p) = true
  · rw [if_pos h5] at h
    have h : (bif g_endb (g_at u N) p (g_run g_symb (g_at u N) (N - p) p) then 0 else 3) = 2 := h
    cases hq : g_endb (g_at u N) p (g_run g_symb (g_at u N) (N - p) p) <;> rw [hq] at h <;> cases h
  rw [if_neg h5] at h ⊢
  cases h6 : decide (g_at u N p = 91) && decide (g_at u N (p + 1) = 93) with
  | true => rw [h6] at h; cases h
  | false =>
    rw [h6] at h
    have h : g_solo (g_at u N p) = 2 := h
    have := g_soloR (g_at u N p)
    exfalso
    unfold g_solo at h
    revert h
    repeat' split
    all_goals (intro h; cases h)
theorem g_lk2 {u : Nat → Nat} {N L : Nat} {kids : Std.Format} (h : g_lk u N L kids) (hk : L % 8 = 1 ∨ L % 8 = 2) : g_fR L < g_tO L := by
  rcases h with h | ⟨h, -, p, h1, h2, h3, h4⟩ | ⟨h, -⟩ | h | h
  · omega
  · rw [h3, h4]; exact g_tk2 h2
  · omega
  · omega
  · omega
