/-- a list whose tail is still to come: the items, the last one first; c the last pair, i its item, w the whole; rows below hi -/
def g_pL (A : Nat → Nat → Int32) (w : Nat) : List (Nat × Std.Format) → Nat → Nat → Nat → Prop
  | [], _, _, _ => False
  | t :: l, c, i, hi => w ≤ c ∧ c < i ∧ i < hi ∧ i < 1001 ∧ A 0 c = 4 ∧ A 4 c = nI i ∧ g_cT A (fun n => c < n ∧ n < hi ∧ n ≠ i) t i ∧ A 3 i = nI c ∧ ((l = [] ∧ c = w) ∨ ∃ c' i', w < c ∧ A 3 c = nI c' ∧ A 5 c = -1 ∧ A 5 i' = nI c ∧ g_pL A w l c' i' c)
theorem g_pL_b {A : Nat → Nat → Int32} {w : Nat} : ∀ (l : List (Nat × Std.Format)) (c i hi : Nat), g_pL A w l c i hi → w ≤ c ∧ c < i ∧ i < hi ∧ A 3 i = nI c
  | [], _, _, _, h => h.elim
  | _ :: _, _, _, _, h => ⟨h.1, h.2.1, h.2.2.1, h.2.2.2.2.2.2.2.1⟩
theorem g_pL_mv {A A' : Nat → Nat → Int32} {w : Nat} : ∀ (l : List (Nat × Std.Format)) (c i hi : Nat), (∀ n q, w ≤ n → n < hi → q ≤ 6 → (q ≠ 5 ∨ n ≠ i) → A' q n = A q n) → g_pL A w l c i hi → g_pL A' w l c i hi
  | [], _, _, _, _, hl => hl
  | t :: l, c, i, hi, h, hl => by
    obtain ⟨h1, h2, h3, h4, h5, h6, h7, h8, h9⟩ := hl
    refine ⟨h1, h2, h3, h4, ?_, ?_, ?_, ?_, ?_⟩
    · rw [h c 0 h1 (by omega) (by decide) (Or.inl (by decide))]; exact h5
    · rw [h c 4 h1 (by omega) (by decide) (Or.inl (by decide))]; exact h6
    · exact g_cT_mv (P := fun n => c < n ∧ n < hi ∧ n ≠ i) (fun n hn => ⟨hn, fun q hq => h n q (by omega) hn.2.1 hq (Or.inr hn.2.2)⟩) (fun q hq _ h5 => h i q (by omega) h3 hq (Or.inl h5)) h7
    · rw [h i 3 (by omega) h3 (by decide) (Or.inl (by decide))]; exact h8
    · rcases h9 with h9 | ⟨c', i', g1, g2, g3, g4, g5⟩
      · exact Or.inl h9
      · have hb := g_pL_b l c' i' c g5
        refine Or.inr ⟨c', i', g1, ?_, ?_, ?_, g_pL_mv l c' i' c (fun n q n1 n2 hq _ => h n q n1 (by omega) hq (Or.inr (by omega))) g5⟩
        · rw [h c 3 h1 (by omega) (by decide) (Or.inl (by decide))]; exact g2
        · rw [h c 5 h1 (by omega) (by decide) (Or.inr (by omega))]; exact g3
        · rw [h i' 5 (by omega) (by omega) (by decide) (Or.inr (by omega))]; exact g4
theorem g_pL_end {A : Nat → Nat → Int32} {w H : Nat} : ∀ (l : List (Nat × Std.Format)) (c i hi z : Nat) (t : Nat × Std.Format), hi ≤ H → hi ≤ 1001 → g_pL A w l c i hi → A 5 i = nI z → w < z → z < H → z < 1001 → A 3 z = nI c → A 5 z = -1 → g_cT A (fun n => w < n ∧ n < H) t z → g_cT A (fun n => w < n ∧ n < H) (g_liF l t) w
  | [], _, _, _, _, _, _, _, h, _, _, _, _, _, _, _ => h.elim
  | x :: l, c, i, hi, z, t, hH, hh, h, e1, e2, e3, e4, e5, e6, e7 => by
    obtain ⟨h1, h2, h3, h4, h5, h6, h7, h8, h9⟩ := h
    have hc : g_cT A (fun n => w < n ∧ n < H) (g_pair x t) c := by
      refine ⟨⟨h5, fun q => absurd (show g_lb 4 0 0 % 8 = 0 from q) (by decide), fun q => absurd (show g_lb 4 0 0 % 8 = 1 ∨ g_lb 4 0 0 % 8 = 2 ∨ g_lb 4 0 0 % 8 = 3 from q) (by decide)⟩, ?_⟩
      rw [h6]
      refine g_cF_nd.mpr ⟨i, rfl, ⟨by omega, by omega⟩, h4, g_cT_mv (P := fun n => c < n ∧ n < hi ∧ n ≠ i) (fun n hn => ⟨⟨by omega, by omega⟩, fun q hq => rfl⟩) (fun q hq _ _ => rfl) h7, h8, ?_⟩
      rw [e1]
      exact g_cF_nd.mpr ⟨z, rfl, ⟨e2, e3⟩, e4, e7, e5, e6⟩
    show g_cT A (fun n => w < n ∧ n < H) (g_liF l (g_pair x t)) w
    rcases h9 with ⟨rfl, rfl⟩ | ⟨c', i', q1, q2, q3, q4, q5⟩
    · exact hc
    · exact g_pL_end l c' i' c c _ (by omega) (by omega) q5 q4 q1 (by omega) (by omega) q2 q3 hc
def g_LI (A A' : Nat → Nat → Int32) (s s' w' : Nat) (V' : List (Nat × Nat)) (acc : List (Nat × Std.Format)) (c i : Nat) : Prop := s' ≤ 1000 → (∀ n, n < s → ∀ q, q ≤ 6 → A' q n = A q n) ∧ (A' 5 s = -1 ∧ A' 3 s = -1) ∧ g_pL A' s acc c i s' ∧ A' 5 i = -1 ∧ g_VI A' s' w' V'
theorem g_LI1 {A A2 : Nat → Nat → Int32} {s s2 w2 j : Nat} {f t : Int32} {V2 : List (Nat × Nat)} {x : Nat × Std.Format} (hs2 : s + 1 ≤ s2) (h : g_RL (g_addA A (g_nod s) 4 f t) A2 (s + 1) s2 w2 V2 x j) : g_LI A (g_gF A2 (g_nod s) j) s s2 w2 V2 [x] (g_nod s) j := by
  intro hs
  rw [g_nodE (by omega)] at h ⊢
  obtain ⟨b1, b2, b3, b4, b5, b6⟩ := h hs
  have ks : ∀ q, q ≤ 6 → q ≠ 4 → g_gF A2 s j q s = g_addA A s 4 f t q s := fun q hq h4 => by
    rw [g_gFN (Or.inl h4) (Or.inr (by omega))]; exact b1 s (by omega) q hq
  refine ⟨fun n hn q hq => ?_, ?_, ⟨Nat.le_refl _, b2, b3, by omega, ?_, g_gF4, ?_, g_gF3, Or.inl ⟨rfl, rfl⟩⟩, ?_, ?_⟩
  · rw [g_gFN (Or.inr (by omega)) (Or.inr (by omega)), b1 n (by omega) q hq]
    exact g_addq (by omega) hq
  · exact ⟨by rw [ks 5 (by decide) (by decide)]; exact g_updY, by rw [ks 3 (by decide) (by decide)]; exact g_updY⟩
  · rw [ks 0 (by decide) (by decide)]; exact g_updY
  · exact g_cT_mv (P := fun n => s + 1 ≤ n ∧ n < s2 ∧ n ≠ j) (fun n hn => ⟨hn, fun q hq => g_gFN (Or.inr (by omega)) (Or.inr hn.2.2)⟩) (fun q hq h3 _ => g_gFN (Or.inr (by omega)) (Or.inl h3)) b5
  · rw [g_gFN (Or.inl (by decide)) (Or.inl (by decide))]; exact b4.1
  · exact g_VImv (fun v => g_gFN (Or.inl (by decide)) (Or.inl (by decide))) (fun n _ => ⟨g_gFN (Or.inl (by decide)) (Or.inl (by decide)), g_gFN (Or.inl (by decide)) (Or.inl (by decide))⟩) (Nat.le_refl _) b6
theorem g_LIs {A A' A3 : Nat → Nat → Int32} {s s' s3 w' w3 c i z : Nat} {f t : Int32} {V' V3 : List (Nat × Nat)} {acc : List (Nat × Std.Format)} {x : Nat × Std.Format} (hs0 : s + 1 ≤ s') (hs3 : s' + 1 ≤ s3) (hc : g_LI A A' s s' w' V' acc c i) (h : g_RL (g_gN (g_addA A' (g_nod s') 4 f t) i (g_nod s')) A3 (s' + 1) s3 w3 V3 x z) : g_LI A (g_gF A3 (g_nod s') z) s s3 w3 V3 (x :: acc) (g_nod s') z := by
  intro hs
  rw [g_nodE (by omega)] at h ⊢
  obtain ⟨a1, a2, a3, a4, a5⟩ := hc (by omega)
  obtain ⟨b1, b2, b3, b4, b5, b6⟩ := h hs
  have hb := g_pL_b _ _ _ _ a3
  have k1 : ∀ n q, n < s' → q ≤ 6 → (q ≠ 5 ∨ n ≠ i) → g_gF A3 s' z q n = A' q n := fun n q hn hq hne => by
    rw [g_gFN (Or.inr (by omega)) (Or.inr (by omega)), b1 n (by omega) q hq, g_gNN hne (Or.inr (by omega))]
    exact g_addq (by omega) hq
  have ks : ∀ q, q ≤ 6 → q ≠ 4 → q ≠ 3 → g_gF A3 s' z q s' = g_addA A' s' 4 f t q s' := fun q hq h4 h3 => by
    rw [g_gFN (Or.inl h4) (Or.inr (by omega)), b1 s' (by omega) q hq, g_gNN (Or.inr (by omega)) (Or.inl h3)]
  refine ⟨fun n hn q hq => ?_, ?_, ⟨by omega, b2, b3, by omega, ?_, g_gF4, ?_, g_gF3, Or.inr ⟨c, i, by omega, ?_, ?_, ?_, ?_⟩⟩, ?_, ?_⟩
  · rw [k1 n q (by omega) hq (Or.inr (by omega))]; exact a1 n hn q hq
  · exact ⟨by rw [k1 s 5 (by omega) (by decide) (Or.inr (by omega))]; exact a2.1, by rw [k1 s 3 (by omega) (by decide) (Or.inr (by omega))]; exact a2.2⟩
  · rw [ks 0 (by decide) (by decide) (by decide)]; exact g_updY
  · exact g_cT_mv (P := fun n => s' + 1 ≤ n ∧ n < s3 ∧ n ≠ z) (fun n hn => ⟨hn, fun q hq => g_gFN (Or.inr (by omega)) (Or.inr hn.2.2)⟩) (fun q hq h3 _ => g_gFN (Or.inr (by omega)) (Or.inl h3)) b5
  · rw [g_gFN (Or.inl (by decide)) (Or.inr (by omega)), b1 s' (by omega) 3 (by decide), g_gN3, g_addq (by omega) (by decide)]
    exact hb.2.2.2
  · rw [ks 5 (by decide) (by decide) (by decide)]; exact g_updY
  · rw [g_gFN (Or.inl (by decide)) (Or.inl (by decide)), b1 i (by omega) 5 (by decide)]; exact g_gN5
  · exact g_pL_mv acc c i s' (fun n q _ n2 hq hne => k1 n q n2 hq hne) a3
  · rw [g_gFN (Or.inl (by decide)) (Or.inl (by decide))]; exact b4.1
  · exact g_VImv (fun v => g_gFN (Or.inl (by decide)) (Or.inl (by decide))) (fun n _ => ⟨g_gFN (Or.inl (by decide)) (Or.inl (by decide)), g_gFN (Or.inl (by decide)) (Or.inl (by decide))⟩) (Nat.le_refl _) b6
theorem g_LIe {A A' A2 : Nat → Nat → Int32} {s s' s2 w' w2 c i z : Nat} {V' V2 : List (Nat × Nat)} {acc : List (Nat × Std.Format)} {x : Nat × Std.Format} (hs0 : s + 1 ≤ s') (hs2 : s' ≤ s2) (hc : g_LI A A' s s' w' V' acc c i) (h : g_RL A' A2 s' s2 w2 V2 x z) : g_RL A (g_gN A2 i z) s s2 w2 V2 (g_liF acc x) (g_nod s) := by
  intro hs
  rw [g_nodE (by omega)]
  obtain ⟨a1, a2, a3, a4, a5⟩ := hc (by omega)
  obtain ⟨b1, b2, b3, b4, b5, b6⟩ := h hs
  have hb := g_pL_b _ _ _ _ a3
  have k1 : ∀ n q, n < s' → q ≤ 6 → (q ≠ 5 ∨ n ≠ i) → g_gN A2 i z q n = A' q n := fun n q hn hq hne => by
    rw [g_gNN hne (Or.inr (by omega))]; exact b1 n hn q hq
  refine ⟨fun n hn q hq => ?_, Nat.le_refl _, by omega, ?_, ?_, ?_⟩
  · rw [k1 n q (by omega) hq (Or.inr (by omega))]; exact a1 n hn q hq
  · exact ⟨by rw [k1 s 5 (by omega) (by decide) (Or.inr (by omega))]; exact a2.1, by rw [k1 s 3 (by omega) (by decide) (Or.inr (by omega))]; exact a2.2⟩
  · have hT := g_pL_end (A := g_gN A2 i z) (w := s) (H := s2) acc c i s' z x hs2 (by omega) (g_pL_mv acc c i s' (fun n q _ n2 hq hne => k1 n q n2 hq hne) a3) g_gN5 (by omega) b3 (by omega) (by rw [g_gN3, b1 i (by omega) 3 (by decide)]; exact hb.2.2.2) (by rw [g_gNN (Or.inr (by omega)) (Or.inl (by decide))]; exact b4.1) (g_cT_mv (P := fun n => s' ≤ n ∧ n < s2 ∧ n ≠ z) (fun n hn => ⟨⟨by omega, by omega⟩, fun q hq => g_gNN (Or.inr (by omega)) (Or.inr hn.2.2)⟩) (fun q hq h3 h5 => g_gNN (Or.inl h5) (Or.inl h3)) b5)
    exact g_cT_mv (P := fun n => s < n ∧ n < s2) (fun n hn => ⟨⟨by omega, by omega, by omega⟩, fun q hq => rfl⟩) (fun q hq _ _ => rfl) hT
  · exact g_VImv (fun v => g_gNN (Or.inl (by decide)) (Or.inl (by decide))) (fun n _ => ⟨g_gNN (Or.inl (by decide)) (Or.inl (by decide)), g_gNN (Or.inl (by decide)) (Or.inl (by decide))⟩) (Nat.le_refl _) b6
theorem g_liE12 {u : Nat → Nat} {N p s : Nat} {V : List (Nat × Nat)} {acc : List (Nat × Std.Format)} {t : Nat → Nat → Nat → List (Nat × Nat) → g_Rs} (h : g_ky (g_at u N) N p = 12) : g_liE (g_at u N) N t p s V acc = .inl p := by
  unfold g_liE g_liC
  rw [if_neg (by rw [h]; decide), if_neg (by rw [h]; decide)]
theorem g_liL12 {u : Nat → Nat} {N m p s : Nat} {V : List (Nat × Nat)} {acc : List (Nat × Std.Format)} {t : Nat → Nat → Nat → List (Nat × Nat) → g_Rs} (h : g_ky (g_at u N) N p = 12) : g_liL (g_at u N) N t m p s V acc = .inl p := by
  cases m with
  | zero => exact g_liE12 h
  | succ m => rw [g_liL, if_neg (by rw [h]; decide)]; exact g_liE12 h
/-- the variables after a new row that becomes the next of i -/
theorem g_VIaN {A : Nat → Nat → Int32} {s w i : Nat} {V : List (Nat × Nat)} {k f t : Int32} (hV : s ≤ 1000 → g_VI A s w V) : s + 1 ≤ 1000 → g_VI (g_gN (g_addA A (g_nod s) k f t) i (g_nod s)) (s + 1) w V := by
  intro hs
  rw [g_nodE (by omega)]
  refine g_VImv (fun v => ?_) (fun n hn => ⟨?_, ?_⟩) (by omega) (hV (by omega))
  · rw [g_gNN (Or.inl (by decide)) (Or.inl (by decide))]; rfl
  · rw [g_gNN (Or.inl (by decide)) (Or.inl (by decide))]; exact g_addq (by omega) (by decide)
  · rw [g_gNN (Or.inl (by decide)) (Or.inl (by decide))]; exact g_addq (by omega) (by decide)
