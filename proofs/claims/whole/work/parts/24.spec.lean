/-! the bounds of a sign -/
theorem g_at_nn {u : Nat → Nat} {N j : Nat} (h : ¬ g_at u N j < 0) : j < N := by
  rcases Nat.lt_or_ge j N with q | q
  · exact q
  · rw [g_at_out q] at h; exact absurd (by decide) h
theorem g_dg_b {a : Nat → Int32} : ∀ (m i f v : Nat), f ≤ i → i ≤ (g_dg a m i f v).1 ∧ (g_dg a m i f v).1 ≤ i + m ∧ (g_dg a m i f v).2.1 ≤ (g_dg a m i f v).1
  | 0, i, f, v, h => ⟨Nat.le_refl _, Nat.le_refl _, h⟩
  | m + 1, i, f, v, h => by
    rw [g_dg]
    cases g_dig (a i) with
    | true =>
      have := g_dg_b (a := a) m (i + 1) (if v = 0 then i else f) (if v < 9007199254740992 then 10 * v + g_dv (a i) else v) (by split <;> omega)
      exact ⟨by show i ≤ (g_dg a m (i + 1) _ _).1; omega, by show (g_dg a m (i + 1) _ _).1 ≤ _; omega, this.2.2⟩
    | false => exact ⟨Nat.le_refl _, by show i ≤ i + (m + 1); omega, h⟩
theorem g_qt_b {a : Nat → Int32} : ∀ (m i : Nat), g_qt a m i ≠ 0 → i ≤ g_qt a m i ∧ a (g_qt a m i) = 39
  | 0, i, h => absurd rfl h
  | m + 1, i, h => by
    rw [g_qt] at h ⊢
    cases h1 : decide (a i < 32) || decide (126 < a i) with
    | true => rw [h1] at h; exact absurd rfl h
    | false =>
      rw [h1] at h
      cases h2 : decide (a i = 39) with
      | false =>
        rw [h2] at h
        have := g_qt_b m (i + 1) h
        exact ⟨by show i ≤ g_qt a m (i + 1); omega, this.2⟩
      | true =>
        rw [h2] at h
        cases h3 : decide (a (i + 1) = 39) with
        | true =>
          rw [h3] at h
          have := g_qt_b m (i + 2) h
          exact ⟨by show i ≤ g_qt a m (i + 2); omega, this.2⟩
        | false => exact ⟨Nat.le_refl _, of_decide_eq_true h2⟩
theorem g_run_lt {P : Int32 → Bool} {a : Nat → Int32} {m i : Nat} (h : P (a i) = true) (hm : 0 < m) : i < g_run P a m i := by
  obtain ⟨m, rfl⟩ : ∃ k, m = k + 1 := ⟨m - 1, by omega⟩
  rw [g_run, h]
  have := g_run_le (P := P) (a := a) m (i + 1)
  show i < g_run P a m (i + 1)
  omega
def g_ky (a : Nat → Int32) (N p : Nat) : Nat := (g_tk a N p).1
def g_fr (a : Nat → Int32) (N p : Nat) : Nat := (g_tk a N p).2.1
def g_to (a : Nat → Int32) (N p : Nat) : Nat := (g_tk a N p).2.2.1
def g_bh (a : Nat → Int32) (N p : Nat) : Nat := (g_tk a N p).2.2.2
def g_nx (a : Nat → Int32) (N p : Nat) : Nat := g_pl a N (g_bh a N p)
/-- what holds of a sign -/
def g_TB (N p : Nat) (q : Nat × Nat × Nat × Nat) : Prop := q.1 ≤ 13 ∧ (q.1 ≠ 12 → q.2.1 ≤ q.2.2.1 ∧ q.2.2.1 ≤ N ∧ q.2.2.2 ≤ N ∧ p ≤ q.2.2.2) ∧ (q.1 ≠ 12 → q.1 ≠ 13 → p < q.2.2.2)
theorem g_tkb {u : Nat → Nat} {N p : Nat} (hp : p ≤ N) : g_TB N p (g_tk (g_at u N) N p) := by
  unfold g_tk
  by_cases h0 : g_at u N p < 0
  · rw [if_pos h0]
    exact ⟨by show (13 : Nat) ≤ 13; decide, fun _ => ⟨Nat.le_refl _, hp, hp, Nat.le_refl _⟩, fun _ h => absurd rfl h⟩
  have hpN := g_at_nn h0
  rw [if_neg h0]
  by_cases h1 : g_dig (g_at u N p) = true
  · rw [if_pos h1]
    have hb := g_dg_b (a := g_at u N) (N - p) p p 0 (Nat.le_refl _)
    have hlt : p < (g_dg (g_at u N) (N - p) p p 0).1 := by
      obtain ⟨m, hm⟩ : ∃ k, N - p = k + 1 := ⟨N - p - 1, by omega⟩
      rw [hm, g_dg, h1]
      have := g_dg_b (a := g_at u N) m (p + 1) (if 0 = 0 then p else p) (if 0 < 9007199254740992 then 10 * 0 + g_dv (g_at u N p) else 0) (by split <;> omega)
      exact this.1
    refine ⟨?_, fun _ => ⟨hb.2.2, by show (g_dg (g_at u N) (N - p) p p 0).1 ≤ N; omega, by show (g_dg (g_at u N) (N - p) p p 0).1 ≤ N; omega, hb.1⟩, fun _ _ => hlt⟩
    show (bif decide _ then 2 else 12) ≤ 13
    cases decide ((g_dg (g_at u N) (N - p) p p 0).2.2 < 9007199254740992) <;> decide
  rw [if_neg h1]
  by_cases h2 : g_at u N p = 39
  · rw [if_pos h2]
    by_cases hr : g_qt (g_at u N) (N - p) (p + 1) = 0
    · rw [hr]
      exact ⟨by show (12 : Nat) ≤ 13; decide, fun h => absurd rfl h, fun h => absurd rfl h⟩
    · have hb := g_qt_b (N - p) (p + 1) hr
      have hrN : g_qt (g_at u N) (N - p) (p + 1) < N := by
        rcases Nat.lt_or_ge (g_qt (g_at u N) (N - p) (p + 1)) N with q | q
        · exact q
        · rw [g_at_out q] at hb; exact absurd hb.2 (by decide)
      rw [decide_eq_false hr]
      exact ⟨by show (3 : Nat) ≤ 13; decide, fun _ => ⟨hb.1, Nat.le_of_lt hrN, hrN, by show p ≤ _ + 1; omega⟩, fun _ _ => by show p < _ + 1; omega⟩
  rw [if_neg h2]
  have hw := g_run_le (P := g_word) (a := g_at u N) (N - p) p
  by_cases h3 : g_small (g_at u N p) = true
  · rw [if_pos h3]
    have hs : g_word (g_at u N p) = true := by
      unfold g_small at h3
      unfold g_word
      rcases Bool.and_eq_true_iff.mp h3 with ⟨q1, q2⟩
      have q3 : g_at u N p ≤ 122 := Int32.not_lt.mp (of_decide_eq_false (by simpa using q2))
      rw [q1, decide_eq_true q3]; rfl
    have hlt := g_run_lt (a := g_at u N) (m := N - p) hs (by omega)
    exact ⟨by show (3 : Nat) ≤ 13; decide, fun _ => ⟨hw.1, by show g_run g_word (g_at u N) (N - p) p ≤ N; omega, by show g_run g_word (g_at u N) (N - p) p ≤ N; omega, hw.1⟩, fun _ _ => hlt⟩
  rw [if_neg h3]
  by_cases h4 : g_word (g_at u N p) = true
  · rw [if_pos h4]
    have hlt := g_run_lt (a := g_at u N) (m := N - p) h4 (by omega)
    exact ⟨by show (1 : Nat) ≤ 13; decide, fun _ => ⟨hw.1, by show g_run g_word (g_at u N) (N - p) p ≤ N; omega, by show g_run g_word (g_at u N) (N - p) p ≤ N; omega, hw.1⟩, fun _ _ => hlt⟩
  rw [if_neg h4]
  have hy := g_run_le (P := g_symb) (a := g_at u N) (N - p) p
  by_cases h5 : g_symb (g_at u N p) = true
  · rw [if_pos h5]
    have hlt := g_run_lt (a := g_at u N) (m := N - p) h5 (by omega)
    refine ⟨?_, fun _ => ⟨hy.1, by show g_run g_symb (g_at u N) (N - p) p ≤ N; omega, by show g_run g_symb (g_at u N) (N - p) p ≤ N; omega, hy.1⟩, fun _ _ => hlt⟩
    show (bif g_endb _ _ _ then 0 else 3) ≤ 13
    cases g_endb (g_at u N) p (g_run g_symb (g_at u N) (N - p) p) <;> decide
  rw [if_neg h5]
  have hso := g_soloR (g_at u N p)
  cases h6 : decide (g_at u N p = 91) && decide (g_at u N (p + 1) = 93) with
  | true =>
    have hq : p + 1 < N := by
      rcases Bool.and_eq_true_iff.mp h6 with ⟨-, q2⟩
      have q3 := of_decide_eq_true q2
      rcases Nat.lt_or_ge (p + 1) N with q | q
      · exact q
      · rw [g_at_out q] at q3; exact absurd q3 (by decide)
    exact ⟨by show (3 : Nat) ≤ 13; decide, fun _ => ⟨by show p ≤ p + 2; omega, by show p + 2 ≤ N; omega, by show p + 2 ≤ N; omega, by show p ≤ p + 2; omega⟩, fun _ _ => by show p < p + 2; omega⟩
  | false => exact ⟨by show g_solo (g_at u N p) ≤ 13; omega, fun _ => ⟨by show p ≤ p + 1; omega, by show p + 1 ≤ N; omega, by show p + 1 ≤ N; omega, by show p ≤ p + 1; omega⟩, fun _ _ => by show p < p + 1; omega⟩
theorem g_nxb {u : Nat → Nat} {N p : Nat} (hp : p ≤ N) (hk : g_ky (g_at u N) N p ≠ 12) : p ≤ g_nx (g_at u N) N p ∧ g_nx (g_at u N) N p ≤ N ∧ (g_ky (g_at u N) N p ≠ 13 → p < g_nx (g_at u N) N p) := by
  have hb := g_tkb (u := u) hp
  have h1 := hb.2.1 hk
  have h2 := g_sk_le (g_at u N) (N - g_bh (g_at u N) N p) false (g_bh (g_at u N) N p)
  have e1 : g_bh (g_at u N) N p ≤ N := h1.2.2.1
  have e2 : p ≤ g_bh (g_at u N) N p := h1.2.2.2
  have e3 : g_nx (g_at u N) N p = g_sk (g_at u N) (N - g_bh (g_at u N) N p) false (g_bh (g_at u N) N p) := rfl
  refine ⟨by omega, by omega, fun hk2 => ?_⟩
  have e4 : p < g_bh (g_at u N) N p := hb.2.2 hk hk2
  omega
/-! the trees: first child, next sibling; a label is its kind and two numbers -/
def g_nd (t : Nat × Std.Format) (rest : Std.Format) : Std.Format := .append (.tag t.1 t.2) rest
def g_nil : Std.Format := .nil
def g_lb (k x y : Nat) : Nat := k + 8 * (x + 8192 * y)
def g_pair (x t : Nat × Std.Format) : Nat × Std.Format := (g_lb 4 0 0, g_nd x (g_nd t g_nil))
/-- the variable with the text from f to t: its number, the list of first uses behind it -/
def g_vf (u : Nat → Nat) (f t : Nat) : List (Nat × Nat) → Nat → Nat
  | [], i => i
  | q :: l, i => bif g_same u q.1 q.2 f t then i else g_vf u f t l (i + 1)
def g_vr (u : Nat → Nat) (V : List (Nat × Nat)) (f t : Nat) : Nat := bif g_nl u f t then V.length else g_vf u f t V 0
def g_vV (u : Nat → Nat) (V : List (Nat × Nat)) (f t : Nat) : List (Nat × Nat) := bif decide (g_vr u V f t = V.length) then V ++ [(f, t)] else V
/-- ranks; the greatest on the left (none: 0), on the right -/
def g_rk (o : Nat) : Nat := [1200, 1100, 1050, 1000, 900, 700, 700, 700, 700, 700, 700, 700, 700, 700, 700, 700, 500, 500, 400, 400, 400, 400, 200, 9999].getD o 9999
def g_lf (o : Nat) : Nat := [1199, 1099, 1049, 999, 0, 699, 699, 699, 699, 699, 699, 699, 699, 699, 699, 699, 500, 500, 400, 400, 400, 400, 0, 0].getD o 0
def g_rt (o : Nat) : Nat := [1199, 1100, 1050, 1000, 900, 699, 699, 699, 699, 699, 699, 699, 699, 699, 699, 699, 499, 499, 399, 399, 399, 399, 200, 0].getD o 0
/-- what a stretch of the reading comes to: broken at a place; or the next sign, symbols, variables, the term, its rank -/
abbrev g_Rs : Type := Nat ⊕ (Nat × Nat × List (Nat × Nat) × (Nat × Std.Format) × Nat)
def g_bd (r : g_Rs) (k : Nat → Nat → List (Nat × Nat) → (Nat × Std.Format) → Nat → g_Rs) : g_Rs := match r with
  | .inl q => .inl q
  | .inr (p, s, V, t, c) => k p s V t c
def g_op (a : Nat → Int32) (N p : Nat) : Nat := g_inf a (g_sg (g_ky a N p)) (g_fr a N p) (g_to a N p)
def g_px (a : Nat → Int32) (N p : Nat) : Nat := g_nm a (g_sg (g_ky a N p)) (g_fr a N p) (g_to a N p) true
def g_inL (a : Nat → Int32) (N : Nat) (t : Nat → Nat → Nat → List (Nat × Nat) → g_Rs) (most : Nat) : Nat → Nat → Nat → List (Nat × Nat) → (Nat × Std.Format) → Nat → g_Rs
  | 0, p, s, V, l, lr => .inr (p, s, V, l, lr)
  | m + 1, p, s, V, l, lr => if most < g_rk (g_op a N p) ∨ g_lf (g_op a N p) < lr then .inr (p, s, V, l, lr) else
    g_bd (t (g_rt (g_op a N p)) (g_nx a N p) (s + 1) V) fun p2 s2 V2 r _ => g_inL a N t most m p2 s2 V2 (g_lb 3 (g_fr a N p) (g_to a N p), g_nd l (g_nd r g_nil)) (g_rk (g_op a N p))
/-- the end of a list -/
def g_liC (a : Nat → Int32) (N p s : Nat) (V : List (Nat × Nat)) (t : Nat × Std.Format) : g_Rs := if g_ky a N p = 7 then .inr (g_nx a N p, s, V, t, 0) else .inl p
def g_liF (acc : List (Nat × Std.Format)) (x : Nat × Std.Format) : Nat × Std.Format := acc.foldl (fun t i => g_pair i t) x
def g_liE (a : Nat → Int32) (N : Nat) (t : Nat → Nat → Nat → List (Nat × Nat) → g_Rs) (p s : Nat) (V : List (Nat × Nat)) (acc : List (Nat × Std.Format)) : g_Rs :=
  if g_ky a N p = 11 then g_bd (t 999 (g_nx a N p) s V) fun p2 s2 V2 x _ => g_liC a N p2 s2 V2 (g_liF acc x) else g_liC a N p (s + 1) V (g_liF acc (g_lb 5 0 0, g_nil))
def g_liL (a : Nat → Int32) (N : Nat) (t : Nat → Nat → Nat → List (Nat × Nat) → g_Rs) : Nat → Nat → Nat → List (Nat × Nat) → List (Nat × Std.Format) → g_Rs
  | 0, p, s, V, acc => g_liE a N t p s V acc
  | m + 1, p, s, V, acc => if g_ky a N p = 10 then g_bd (t 999 (g_nx a N p) (s + 1) V) fun p2 s2 V2 x _ => g_liL a N t m p2 s2 V2 (x :: acc) else g_liE a N t p s V acc
def g_li (a : Nat → Int32) (N : Nat) (t : Nat → Nat → Nat → List (Nat × Nat) → g_Rs) (p s : Nat) (V : List (Nat × Nat)) : g_Rs := g_bd (t 999 (g_nx a N p) (s + 1) V) fun p2 s2 V2 x _ => g_liL a N t 4096 p2 s2 V2 [x]
/-- the terms of a compound -/
def g_arK (acc : List (Nat × Std.Format)) : Std.Format := acc.foldl (fun r x => g_nd x r) g_nil
def g_arL (a : Nat → Int32) (N : Nat) (t : Nat → Nat → Nat → List (Nat × Nat) → g_Rs) (q : Nat) : Nat → Nat → Nat → List (Nat × Nat) → List (Nat × Std.Format) → g_Rs
  | 0, p, _, _, _ => .inl p
  | m + 1, p, s, V, acc => g_bd (t 999 p s V) fun p2 s2 V2 x _ => if g_ky a N p2 = 10 then g_arL a N t q m (g_nx a N p2) s2 V2 (x :: acc) else
    if g_ky a N p2 = 5 then .inr (g_nx a N p2, s2, V2, (bif g_is a (g_fr a N q) (g_to a N q) [46] && decide (acc.length = 1) then g_lb 4 0 0 else g_lb 3 (g_fr a N q) (g_to a N q), g_arK (x :: acc)), 0) else .inl p2
/-- can a term begin here (a wrong sign: it breaks there) -/
def g_bg (a : Nat → Int32) (N p : Nat) : Bool := decide (g_ky a N p = 12) || g_can a (g_sg (g_ky a N p)) (g_fr a N p) (g_to a N p)
def g_nam (a : Nat → Int32) (N : Nat) (t : Nat → Nat → Nat → List (Nat × Nat) → g_Rs) (most p s : Nat) (V : List (Nat × Nat)) : g_Rs :=
  if a (g_bh a N p) = 40 then g_arL a N t p 8 (g_nx a N (g_nx a N p)) (s + 1) V []
  else if (g_dig (a (g_bh a N p)) && g_is a (g_fr a N p) (g_to a N p) [45]) = true then
    (if g_ky a N (g_nx a N p) = 2 then .inr (g_nx a N (g_nx a N p), s + 1, V, (g_lb 2 (g_fr a N (g_nx a N p)) (g_to a N (g_nx a N p)), g_nil), 0) else .inl (g_nx a N p))
  else if most < g_rk (g_px a N p) ∨ g_bg a N (g_nx a N p) = false then
    .inr (g_nx a N p, s + 1, V, (bif g_is a (g_fr a N p) (g_to a N p) [91, 93] then g_lb 5 0 0 else g_lb 3 (g_fr a N p) (g_to a N p), g_nil), 0)
  else g_bd (t (g_rt (g_px a N p)) (g_nx a N p) (s + 1) V) fun p2 s2 V2 x _ => .inr (p2, s2, V2, (g_lb 3 (g_fr a N p) (g_to a N p), g_nd x g_nil), g_rk (g_px a N p))
def g_pr (a : Nat → Int32) (u : Nat → Nat) (N : Nat) (t : Nat → Nat → Nat → List (Nat × Nat) → g_Rs) (most p s : Nat) (V : List (Nat × Nat)) : g_Rs :=
  if g_ky a N p = 2 then .inr (g_nx a N p, s + 1, V, (g_lb 1 (g_fr a N p) (g_to a N p), g_nil), 0)
  else if g_ky a N p = 1 then .inr (g_nx a N p, s + 1, g_vV u V (g_fr a N p) (g_to a N p), (g_lb 0 (g_vr u V (g_fr a N p) (g_to a N p)) 0, g_nil), 0)
  else if g_ky a N p = 4 then g_bd (t 1200 (g_nx a N p) s V) fun p2 s2 V2 x _ => if g_ky a N p2 = 5 then .inr (g_nx a N p2, s2, V2, x, 0) else .inl p2
  else if g_ky a N p = 6 then g_li a N t p s V
  else if g_ky a N p = 3 then g_nam a N t most p s V
  else .inl p
/-- a term, d levels left -/
def g_T (a : Nat → Int32) (u : Nat → Nat) (N : Nat) : Nat → Nat → Nat → Nat → List (Nat × Nat) → g_Rs
  | 0, _, p, _, _ => .inl p
  | d + 1, most, p, s, V => g_bd (g_pr a u N (g_T a u N d) most p s V) fun p2 s2 V2 l lr => g_inL a N (g_T a u N d) most 4096 p2 s2 V2 l lr
/-- the whole tape: broken at a place; or symbols, variables, the term -/
def g_all (u : Nat → Nat) (N : Nat) : Nat ⊕ (Nat × List (Nat × Nat) × (Nat × Std.Format)) := match g_T (g_at u N) u N 100 1200 (g_pl (g_at u N) N 0) 0 [] with
  | .inl q => .inl q
  | .inr (p, s, V, t, _) => if ¬ g_ky (g_at u N) N p = 0 then .inl p else if ¬ g_ky (g_at u N) N (g_nx (g_at u N) N p) = 13 then .inl (g_nx (g_at u N) N p) else if 1000 < s then .inl (g_pl (g_at u N) N 0) else .inr (s, V, t)
