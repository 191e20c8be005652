/-- a chain of terms, the last one first, under o from x on to row j; each term's rows lie in a stretch of its own, from b on, below hi -/
def g_kL (A : Nat → Nat → Int32) (o : Nat) (x : Int32) (b : Nat) : List (Nat × Std.Format) → Nat → Nat → Prop
  | [], _, _ => False
  | t :: l, j, hi => ∃ lo, b ≤ lo ∧ lo ≤ j ∧ j < hi ∧ j < 1001 ∧ g_cT A (fun n => lo ≤ n ∧ n < hi ∧ n ≠ j) t j ∧ A 3 j = nI o ∧ ((l = [] ∧ x = nI j) ∨ ∃ i, A 5 i = nI j ∧ g_kL A o x b l i lo)
theorem g_kL_b {A : Nat → Nat → Int32} {o : Nat} {x : Int32} {b : Nat} : ∀ (l : List (Nat × Std.Format)) (j hi : Nat), g_kL A o x b l j hi → b ≤ j ∧ j < hi
  | [], _, _, h => h.elim
  | _ :: _, j, hi, h => by obtain ⟨lo, h1, h2, h3, -⟩ := h; exact ⟨by omega, h3⟩
theorem g_kL_mv {A A' : Nat → Nat → Int32} {o : Nat} {x : Int32} {b : Nat} : ∀ (l : List (Nat × Std.Format)) (j hi : Nat), (∀ n q, b ≤ n → n < hi → q ≤ 6 → (q ≠ 5 ∨ n ≠ j) → A' q n = A q n) → g_kL A o x b l j hi → g_kL A' o x b l j hi
  | [], _, _, _, hl => hl
  | t :: l, j, hi, h, hl => by
    obtain ⟨lo, h1, h2, h3, h4, h5, h6, h7⟩ := hl
    refine ⟨lo, h1, h2, h3, h4, ?_, ?_, ?_⟩
    · exact g_cT_mv (P := fun n => lo ≤ n ∧ n < hi ∧ n ≠ j) (fun n hn => ⟨hn, fun q hq => h n q (by omega) hn.2.1 hq (Or.inr hn.2.2)⟩) (fun q hq _ h5 => h j q (by omega) h3 hq (Or.inl h5)) h5
    · rw [h j 3 (by omega) h3 (by decide) (Or.inl (by decide))]; exact h6
    · rcases h7 with h7 | ⟨i, g1, g2⟩
      · exact Or.inl h7
      · have hb := g_kL_b l i lo g2
        refine Or.inr ⟨i, ?_, g_kL_mv l i lo (fun n q n1 n2 hq _ => h n q n1 (by omega) hq (Or.inr (by omega))) g2⟩
        rw [h i 5 hb.1 (by omega) (by decide) (Or.inr (by omega))]
        exact g1
theorem g_kL_end {A : Nat → Nat → Int32} {o H : Nat} {x : Int32} {b : Nat} : ∀ (l : List (Nat × Std.Format)) (j hi : Nat) (rest : Std.Format), hi ≤ H → g_kL A o x b l j hi → g_cF A (fun n => b ≤ n ∧ n < H) rest (A 5 j) o → g_cF A (fun n => b ≤ n ∧ n < H) (l.foldl (fun r t => g_nd t r) rest) x o
  | [], _, _, _, _, h, _ => h.elim
  | t :: l, j, hi, rest, hH, h, hr => by
    obtain ⟨lo, h1, h2, h3, h4, h5, h6, h7⟩ := h
    have hT : g_cT A (fun n => b ≤ n ∧ n < H) t j := g_cT_mv (P := fun n => lo ≤ n ∧ n < hi ∧ n ≠ j) (fun n hn => ⟨⟨by omega, by omega⟩, fun q hq => rfl⟩) (fun q hq _ _ => rfl) h5
    rw [List.foldl_cons]
    rcases h7 with ⟨rfl, rfl⟩ | ⟨i, g1, g2⟩
    · exact g_cF_nd.mpr ⟨j, rfl, ⟨by omega, by omega⟩, h4, hT, h6, hr⟩
    · exact g_kL_end l i lo _ (by omega) g2 (g_cF_nd.mpr ⟨j, g1, ⟨by omega, by omega⟩, h4, hT, h6, hr⟩)
/-- a compound whose terms are being read: its row s, the terms so far, the last one at j -/
def g_CI (A A' : Nat → Nat → Int32) (s s' w' : Nat) (V' : List (Nat × Nat)) (f t : Nat) (acc : List (Nat × Std.Format)) (j : Nat) : Prop := s' ≤ 1000 → (∀ n, n < s → ∀ q, q ≤ 6 → A' q n = A q n) ∧ A' 0 s = 3 ∧ A' 1 s = nI f ∧ A' 2 s = nI t ∧ (A' 5 s = -1 ∧ A' 3 s = -1) ∧ g_kL A' s (A' 4 s) (s + 1) acc j s' ∧ A' 5 j = -1 ∧ g_VI A' s' w' V'
theorem g_CI1 {A A2 : Nat → Nat → Int32} {s s2 w2 f t j : Nat} {V2 : List (Nat × Nat)} {x : Nat × Std.Format} (hs2 : s + 1 ≤ s2) (h : g_RL (g_addA A (g_nod s) 3 (nI f) (nI t)) A2 (s + 1) s2 w2 V2 x j) : g_CI A (g_gF A2 (g_nod s) j) s s2 w2 V2 f t [x] j := by
  intro hs
  rw [g_nodE (by omega)] at h ⊢
  obtain ⟨b1, b2, b3, b4, b5, b6⟩ := h hs
  have ks : ∀ q, q ≤ 6 → q ≠ 4 → g_gF A2 s j q s = g_addA A s 3 (nI f) (nI t) q s := fun q hq h4 => by
    rw [g_gFN (Or.inl h4) (Or.inr (by omega))]; exact b1 s (by omega) q hq
  refine ⟨fun n hn q hq => ?_, ?_, ?_, ?_, ?_, ?_, ?_, ?_⟩
  · rw [g_gFN (Or.inr (by omega)) (Or.inr (by omega)), b1 n (by omega) q hq]
    exact g_addq (by omega) hq
  · rw [ks 0 (by decide) (by decide)]; exact g_updY
  · rw [ks 1 (by decide) (by decide)]; exact g_updY
  · rw [ks 2 (by decide) (by decide)]; exact g_updY
  · exact ⟨by rw [ks 5 (by decide) (by decide)]; exact g_updY, by rw [ks 3 (by decide) (by decide)]; exact g_updY⟩
  · refine ⟨s + 1, Nat.le_refl _, b2, b3, by omega, ?_, g_gF3, Or.inl ⟨rfl, g_gF4⟩⟩
    refine g_cT_mv (P := fun n => s + 1 ≤ n ∧ n < s2 ∧ n ≠ j) (fun n hn => ⟨hn, fun q hq => g_gFN (Or.inr (by omega)) (Or.inr hn.2.2)⟩) (fun q hq h3 _ => g_gFN (Or.inr (by omega)) (Or.inl h3)) b5
  · rw [g_gFN (Or.inl (by decide)) (Or.inl (by decide))]; exact b4.1
  · exact g_VImv (fun v => g_gFN (Or.inl (by decide)) (Or.inl (by decide))) (fun n _ => ⟨g_gFN (Or.inl (by decide)) (Or.inl (by decide)), g_gFN (Or.inl (by decide)) (Or.inl (by decide))⟩) (Nat.le_refl _) b6
theorem g_CIs {A A' A2 : Nat → Nat → Int32} {s s' s2 w' w2 f t j z : Nat} {V' V2 : List (Nat × Nat)} {acc : List (Nat × Std.Format)} {x : Nat × Std.Format} (hs0 : s + 1 ≤ s') (hs2 : s' ≤ s2) (hc : g_CI A A' s s' w' V' f t acc j) (h : g_RL A' A2 s' s2 w2 V2 x z) : g_CI A (g_gN A2 j z) s s2 w2 V2 f t (x :: acc) z := by
  intro hs
  obtain ⟨a1, a2, a3, a4, a5, a6, a7, a8⟩ := hc (by omega)
  obtain ⟨b1, b2, b3, b4, b5, b6⟩ := h hs
  have hj := g_kL_b _ _ _ a6
  have ks : ∀ q, q ≤ 6 → g_gN A2 j z q s = A' q s := fun q hq => by
    rw [g_gNN (Or.inr (by omega)) (Or.inr (by omega))]; exact b1 s (by omega) q hq
  have k3j : A2 3 j = nI s := by
    rw [b1 j hj.2 3 (by decide)]
    cases acc with
    | nil => exact a6.elim
    | cons t l => obtain ⟨lo, -, -, -, -, -, g6, -⟩ := a6; exact g6
  refine ⟨fun n hn q hq => ?_, (ks 0 (by decide)).trans a2, (ks 1 (by decide)).trans a3, (ks 2 (by decide)).trans a4, ⟨(ks 5 (by decide)).trans a5.1, (ks 3 (by decide)).trans a5.2⟩, ?_, ?_, ?_⟩
  · rw [g_gNN (Or.inr (by omega)) (Or.inr (by omega)), b1 n (by omega) q hq]
    exact a1 n hn q hq
  · rw [ks 4 (by decide)]
    refine ⟨s', by omega, b2, b3, by omega, ?_, ?_, Or.inr ⟨j, g_gN5, ?_⟩⟩
    · exact g_cT_mv (P := fun n => s' ≤ n ∧ n < s2 ∧ n ≠ z) (fun n hn => ⟨hn, fun q hq => g_gNN (Or.inr (by omega)) (Or.inr hn.2.2)⟩) (fun q hq h3 h5 => g_gNN (Or.inl h5) (Or.inl h3)) b5
    · rw [g_gN3]; exact k3j
    · refine g_kL_mv acc j s' (fun n q n1 n2 hq hne => ?_) a6
      rw [g_gNN hne (Or.inr (by omega))]
      exact b1 n n2 q hq
  · rw [g_gNN (Or.inr (by omega)) (Or.inl (by decide))]; exact b4.1
  · exact g_VImv (fun v => g_gNN (Or.inl (by decide)) (Or.inl (by decide))) (fun n _ => ⟨g_gNN (Or.inl (by decide)) (Or.inl (by decide)), g_gNN (Or.inl (by decide)) (Or.inl (by decide))⟩) (Nat.le_refl _) b6
theorem g_CIe {A A' : Nat → Nat → Int32} {s s' w' f t j : Nat} {V' : List (Nat × Nat)} {acc : List (Nat × Std.Format)} (hs0 : s + 1 ≤ s') (hf : f ≤ 4096) (hc : g_CI A A' s s' w' V' f t acc j) : g_RL A A' s s' w' V' (g_lb 3 f t, g_arK acc) (g_nod s) := by
  intro hs
  rw [g_nodE (by omega)]
  obtain ⟨a1, a2, a3, a4, a5, a6, a7, a8⟩ := hc hs
  refine ⟨a1, Nat.le_refl _, by omega, a5, ⟨⟨?_, fun h => ?_, fun _ => ⟨?_, ?_⟩⟩, ?_⟩, a8⟩
  · rw [g_lb1 (by decide)]; exact a2
  · rw [g_lb1 (by decide)] at h; exact absurd h (by decide)
  · rw [g_lb2 (by decide) (by omega)]; exact a3
  · rw [g_lb3 (by decide) (by omega)]; exact a4
  · exact g_cF_mv (P := fun n => s + 1 ≤ n ∧ n < s') (fun n hn => ⟨⟨by omega, by omega, by omega⟩, fun q hq => rfl⟩) _ _ _ (g_kL_end acc j s' g_nil (Nat.le_refl _) a6 a7)
theorem g_CIp {A A' : Nat → Nat → Int32} {s s' w' f t j : Nat} {V' : List (Nat × Nat)} {acc : List (Nat × Std.Format)} (hs0 : s + 1 ≤ s') (hc : g_CI A A' s s' w' V' f t acc j) : g_RL A (g_ar A' 0 (g_nod s) 4) s s' w' V' (g_lb 4 0 0, g_arK acc) (g_nod s) := by
  intro hs
  rw [g_nodE (by omega)]
  obtain ⟨a1, a2, a3, a4, a5, a6, a7, a8⟩ := hc hs
  refine ⟨fun n hn q hq => ?_, Nat.le_refl _, by omega, ?_, ⟨⟨g_arY, fun h => absurd (show g_lb 4 0 0 % 8 = 0 from h) (by decide), fun h => absurd (show g_lb 4 0 0 % 8 = 1 ∨ g_lb 4 0 0 % 8 = 2 ∨ g_lb 4 0 0 % 8 = 3 from h) (by decide)⟩, ?_⟩, ?_⟩
  · rw [g_arN (Or.inr (by omega))]; exact a1 n hn q hq
  · exact ⟨by rw [g_arN (Or.inl (by decide))]; exact a5.1, by rw [g_arN (Or.inl (by decide))]; exact a5.2⟩
  · rw [g_arN (Or.inl (by decide))]
    exact g_cF_mv (P := fun n => s + 1 ≤ n ∧ n < s') (fun n hn => ⟨⟨by omega, by omega, by omega⟩, fun q hq => g_arN (Or.inr (by omega))⟩) _ _ _ (g_kL_end acc j s' g_nil (Nat.le_refl _) a6 a7)
  · exact g_VImv (fun v => g_arN (Or.inl (by decide))) (fun n _ => ⟨g_arN (Or.inl (by decide)), g_arN (Or.inl (by decide))⟩) (Nat.le_refl _) a8
