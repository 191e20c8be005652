theorem g_lb1 {k x y : Nat} (hk : k < 8) : g_lb k x y % 8 = k := by unfold g_lb; omega
theorem g_lb2 {k x y : Nat} (hk : k < 8) (hx : x < 8192) : g_lb k x y / 8 % 8192 = x := by unfold g_lb; omega
theorem g_lb3 {k x y : Nat} (hk : k < 8) (hx : x < 8192) : g_lb k x y / 65536 = y := by unfold g_lb; omega
/-- row j has this label -/
def g_row (A : Nat → Nat → Int32) (j L : Nat) : Prop := A 0 j = nI (L % 8) ∧ (L % 8 = 0 → A 6 j = nI (L / 8 % 8192)) ∧ (L % 8 = 1 ∨ L % 8 = 2 ∨ L % 8 = 3 → A 1 j = nI (L / 8 % 8192) ∧ A 2 j = nI (L / 65536))
/-- the rows hold this forest, from x on, under o; all its rows are in P -/
def g_cF (A : Nat → Nat → Int32) (P : Nat → Prop) : Std.Format → Int32 → Nat → Prop
  | .append (.tag L kids) rest, x, o => ∃ j, x = nI j ∧ P j ∧ j < 1001 ∧ g_row A j L ∧ A 3 j = nI o ∧ g_cF A P kids (A 4 j) j ∧ g_cF A P rest (A 5 j) o
  | _, x, _ => x = -1
def g_cT (A : Nat → Nat → Int32) (P : Nat → Prop) (t : Nat × Std.Format) (j : Nat) : Prop := g_row A j t.1 ∧ g_cF A P t.2 (A 4 j) j
theorem g_row_mv {A A' : Nat → Nat → Int32} {j L : Nat} (h : ∀ q, q ≤ 6 → A' q j = A q j) (hr : g_row A j L) : g_row A' j L := by
  unfold g_row at hr ⊢
  rw [h 0 (by decide), h 6 (by decide), h 1 (by decide), h 2 (by decide)]
  exact hr
theorem g_cF_mv {A A' : Nat → Nat → Int32} {P P' : Nat → Prop} (h : ∀ n, P n → P' n ∧ ∀ q, q ≤ 6 → A' q n = A q n) : ∀ (F : Std.Format) (x : Int32) (o : Nat), g_cF A P F x o → g_cF A' P' F x o
  | .append (.tag L kids) rest, x, o => by
    intro hF
    rw [g_cF] at hF ⊢
    obtain ⟨j, h1, h2, h3, h4, h5, h6, h7⟩ := hF
    obtain ⟨g1, g2⟩ := h j h2
    refine ⟨j, h1, g1, h3, g_row_mv g2 h4, ?_, ?_, ?_⟩
    · rw [g2 3 (by decide)]; exact h5
    · rw [g2 4 (by decide)]; exact g_cF_mv h kids _ _ h6
    · rw [g2 5 (by decide)]; exact g_cF_mv h rest _ _ h7
  | .nil, x, o => fun hF => hF
  | .line, x, o => fun hF => hF
  | .align _, x, o => fun hF => hF
  | .text _, x, o => fun hF => hF
  | .nest _ _, x, o => fun hF => hF
  | .group _ _, x, o => fun hF => hF
  | .tag _ _, x, o => fun hF => hF
  | .append .nil _, x, o => fun hF => hF
  | .append .line _, x, o => fun hF => hF
  | .append (.align _) _, x, o => fun hF => hF
  | .append (.text _) _, x, o => fun hF => hF
  | .append (.nest _ _) _, x, o => fun hF => hF
  | .append (.group _ _) _, x, o => fun hF => hF
  | .append (.append _ _) _, x, o => fun hF => hF
theorem g_cF_nd {A : Nat → Nat → Int32} {P : Nat → Prop} {t : Nat × Std.Format} {rest : Std.Format} {x : Int32} {o : Nat} : g_cF A P (g_nd t rest) x o ↔ ∃ j, x = nI j ∧ P j ∧ j < 1001 ∧ g_cT A P t j ∧ A 3 j = nI o ∧ g_cF A P rest (A 5 j) o := by
  unfold g_nd
  rw [g_cF]
  exact ⟨fun ⟨j, h1, h2, h3, h4, h5, h6, h7⟩ => ⟨j, h1, h2, h3, ⟨h4, h6⟩, h5, h7⟩, fun ⟨j, h1, h2, h3, ⟨h4, h6⟩, h5, h7⟩ => ⟨j, h1, h2, h3, h4, h5, h6, h7⟩⟩
theorem g_cT_mv {A A' : Nat → Nat → Int32} {P P' : Nat → Prop} {t : Nat × Std.Format} {j : Nat} (h : ∀ n, P n → P' n ∧ ∀ q, q ≤ 6 → A' q n = A q n) (hj : ∀ q, q ≤ 6 → q ≠ 3 → q ≠ 5 → A' q j = A q j) (hT : g_cT A P t j) : g_cT A' P' t j := by
  refine ⟨?_, ?_⟩
  · have := hT.1
    unfold g_row at this ⊢
    rw [hj 0 (by decide) (by decide) (by decide), hj 6 (by decide) (by decide) (by decide), hj 1 (by decide) (by decide) (by decide), hj 2 (by decide) (by decide) (by decide)]
    exact this
  · rw [hj 4 (by decide) (by decide) (by decide)]
    exact g_cF_mv h _ _ _ hT.2
/-- a chain of terms, the last one first, under o from x on to row j -/
def g_cL (A : Nat → Nat → Int32) (P : Nat → Prop) (o : Nat) (x : Int32) : List (Nat × Std.Format) → Nat → Prop
  | [], _ => False
  | t :: l, j => P j ∧ j < 1001 ∧ g_cT A P t j ∧ A 3 j = nI o ∧ ((l = [] ∧ x = nI j) ∨ ∃ i, A 5 i = nI j ∧ g_cL A P o x l i)
theorem g_cL_end {A : Nat → Nat → Int32} {P : Nat → Prop} {o : Nat} {x : Int32} : ∀ (l : List (Nat × Std.Format)) (j : Nat) (rest : Std.Format), g_cL A P o x l j → g_cF A P rest (A 5 j) o → g_cF A P (l.foldl (fun r t => g_nd t r) rest) x o
  | [], j, rest, h, _ => h.elim
  | t :: l, j, rest, h, hr => by
    obtain ⟨h1, h2, h3, h4, h5⟩ := h
    rw [List.foldl_cons]
    rcases h5 with ⟨rfl, rfl⟩ | ⟨i, h6, h7⟩
    · exact g_cF_nd.mpr ⟨j, rfl, h1, h2, h3, h4, hr⟩
    · exact g_cL_end l i _ h7 (g_cF_nd.mpr ⟨j, h6, h1, h2, h3, h4, hr⟩)
theorem g_cL_mv {A A' : Nat → Nat → Int32} {P P' : Nat → Prop} {o : Nat} {x : Int32} (h : ∀ n, P n → P' n ∧ ∀ q, q ≤ 6 → A' q n = A q n) : ∀ (l : List (Nat × Std.Format)) (j : Nat), g_cL A P o x l j → g_cL A' P' o x l j
  | [], j, hl => hl
  | t :: l, j, hl => by
    obtain ⟨h1, h2, h3, h4, h5⟩ := hl
    obtain ⟨g1, g2⟩ := h j h1
    refine ⟨g1, h2, g_cT_mv h (fun q hq _ _ => g2 q hq) h3, by rw [g2 3 (by decide)]; exact h4, ?_⟩
    rcases h5 with h5 | ⟨i, h6, h7⟩
    · exact Or.inl h5
    · refine Or.inr ⟨i, ?_, g_cL_mv h l i h7⟩
      have hPi : P i := by
        cases l with
        | nil => exact h7.elim
        | cons t' l' => exact h7.1
      rw [(h i hPi).2 5 (by decide)]
      exact h6
/-- a list whose tail is still to come: the items, the last one first; c the last pair, i its item, w the whole -/
def g_hL (A : Nat → Nat → Int32) (P : Nat → Prop) (w : Nat) : List (Nat × Std.Format) → Nat → Nat → Prop
  | [], _, _ => False
  | t :: l, c, i => c < 1001 ∧ A 0 c = 4 ∧ A 4 c = nI i ∧ P i ∧ i < 1001 ∧ g_cT A P t i ∧ A 3 i = nI c ∧ ((l = [] ∧ c = w) ∨ ∃ c' i', P c ∧ A 3 c = nI c' ∧ A 5 c = -1 ∧ A 5 i' = nI c ∧ g_hL A P w l c' i')
theorem g_hL_end {A : Nat → Nat → Int32} {P : Nat → Prop} {w : Nat} : ∀ (l : List (Nat × Std.Format)) (c i z : Nat) (t : Nat × Std.Format), g_hL A P w l c i → A 5 i = nI z → P z → z < 1001 → A 3 z = nI c → A 5 z = -1 → g_cT A P t z → g_cT A P (g_liF l t) w
  | [], c, i, z, t, h, _, _, _, _, _, _ => h.elim
  | x :: l, c, i, z, t, h, e1, e2, e3, e4, e5, e6 => by
    obtain ⟨h1, h2, h3, h4, h5, h6, h7, h8⟩ := h
    have hc : g_cT A P (g_pair x t) c := by
      refine ⟨⟨h2, fun q => absurd (show g_lb 4 0 0 % 8 = 0 from q) (by decide), fun q => absurd (show g_lb 4 0 0 % 8 = 1 ∨ g_lb 4 0 0 % 8 = 2 ∨ g_lb 4 0 0 % 8 = 3 from q) (by decide)⟩, ?_⟩
      rw [h3]
      refine g_cF_nd.mpr ⟨i, rfl, h4, h5, h6, h7, ?_⟩
      rw [e1]
      refine g_cF_nd.mpr ⟨z, rfl, e2, e3, e6, e4, ?_⟩
      exact e5
    show g_cT A P (g_liF l (g_pair x t)) w
    rcases h8 with ⟨rfl, rfl⟩ | ⟨c', i', q1, q2, q3, q4, q5⟩
    · exact hc
    · exact g_hL_end l c' i' c _ q5 q4 q1 h1 q2 q3 hc
theorem g_hL_mv {A A' : Nat → Nat → Int32} {P P' : Nat → Prop} {w : Nat} (h : ∀ n, P n → P' n ∧ ∀ q, q ≤ 6 → A' q n = A q n) (hw : ∀ q, q ≤ 6 → q ≠ 3 → q ≠ 5 → A' q w = A q w) : ∀ (l : List (Nat × Std.Format)) (c i : Nat), g_hL A P w l c i → g_hL A' P' w l c i
  | [], c, i, hl => hl
  | t :: l, c, i, hl => by
    obtain ⟨h1, h2, h3, h4, h5, h6, h7, h8⟩ := hl
    obtain ⟨g1, g2⟩ := h i h4
    have hc : ∀ q, q ≤ 6 → q ≠ 3 → q ≠ 5 → A' q c = A q c := by
      rcases h8 with ⟨-, rfl⟩ | ⟨c', i', q1, -⟩
      · exact hw
      · exact fun q hq _ _ => (h c q1).2 q hq
    refine ⟨h1, by rw [hc 0 (by decide) (by decide) (by decide)]; exact h2, by rw [hc 4 (by decide) (by decide) (by decide)]; exact h3, g1, h5, g_cT_mv h (fun q hq _ _ => g2 q hq) h6, by rw [g2 3 (by decide)]; exact h7, ?_⟩
    rcases h8 with h8 | ⟨c', i', q1, q2, q3, q4, q5⟩
    · exact Or.inl h8
    · have hPi : P i' := by
        cases l with
        | nil => exact q5.elim
        | cons t' l' => exact q5.2.2.2.1
      obtain ⟨k1, k2⟩ := h c q1
      exact Or.inr ⟨c', i', k1, by rw [k2 3 (by decide)]; exact q2, by rw [k2 5 (by decide)]; exact q3, by rw [(h i' hPi).2 5 (by decide)]; exact q4, g_hL_mv h hw l c' i' q5⟩
/-- the variables: w of them, their first uses are rows -/
def g_VI (A : Nat → Nat → Int32) (s w : Nat) (V : List (Nat × Nat)) : Prop := (w = V.length ∧ w ≤ s) ∧ ∀ v (h : v < V.length), ∃ n, n < s ∧ A 7 v = nI n ∧ A 1 n = nI V[v].1 ∧ A 2 n = nI V[v].2 ∧ V[v].1 ≤ 4096 ∧ V[v].2 ≤ 4096
/-- what a term leaves behind, while there is room for its rows -/
def g_RL (A A' : Nat → Nat → Int32) (s s' w' : Nat) (V' : List (Nat × Nat)) (t : Nat × Std.Format) (j : Nat) : Prop := s' ≤ 1000 → (∀ n, n < s → ∀ q, q ≤ 6 → A' q n = A q n) ∧ s ≤ j ∧ j < s' ∧ (A' 5 j = -1 ∧ A' 3 j = -1) ∧ g_cT A' (fun n => s ≤ n ∧ n < s' ∧ n ≠ j) t j ∧ g_VI A' s' w' V'
