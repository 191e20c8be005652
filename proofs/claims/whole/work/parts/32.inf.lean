theorem g_VImv {A A' : Nat → Nat → Int32} {s w : Nat} {V : List (Nat × Nat)} (h7 : ∀ v, A' 7 v = A 7 v) (h12 : ∀ n, n < s → A' 1 n = A 1 n ∧ A' 2 n = A 2 n) {s' : Nat} (hs : s ≤ s') (hV : g_VI A s w V) : g_VI A' s' w V := by
  refine ⟨⟨hV.1.1, Nat.le_trans hV.1.2 hs⟩, fun v hv => ?_⟩
  obtain ⟨n, g1, g2, g3, g4, g5⟩ := hV.2 v hv
  exact ⟨n, Nat.lt_of_lt_of_le g1 hs, (h7 v).trans g2, (h12 n g1).1.trans g3, (h12 n g1).2.trans g4, g5⟩
/-- the new row s takes the term at j for its first child -/
def g_gF (A : Nat → Nat → Int32) (i j : Nat) : Nat → Nat → Int32 := g_ar (g_ar A 4 i (nI j)) 3 j (nI i)
/-- the row z becomes the next of j -/
def g_gN (A : Nat → Nat → Int32) (j z : Nat) : Nat → Nat → Int32 := g_ar (g_ar A 5 j (nI z)) 3 z (A 3 j)
theorem g_gFN {A : Nat → Nat → Int32} {i j q n : Nat} (h1 : q ≠ 4 ∨ n ≠ i) (h2 : q ≠ 3 ∨ n ≠ j) : g_gF A i j q n = A q n := by unfold g_gF; rw [g_arN h2, g_arN h1]
theorem g_gNN {A : Nat → Nat → Int32} {j z q n : Nat} (h1 : q ≠ 5 ∨ n ≠ j) (h2 : q ≠ 3 ∨ n ≠ z) : g_gN A j z q n = A q n := by unfold g_gN; rw [g_arN h2, g_arN h1]
theorem g_gF4 {A : Nat → Nat → Int32} {i j : Nat} : g_gF A i j 4 i = nI j := by unfold g_gF; rw [g_arN (Or.inl (by decide))]; exact g_arY
theorem g_gF3 {A : Nat → Nat → Int32} {i j : Nat} : g_gF A i j 3 j = nI i := g_arY
theorem g_gN5 {A : Nat → Nat → Int32} {j z : Nat} : g_gN A j z 5 j = nI z := by unfold g_gN; rw [g_arN (Or.inl (by decide))]; exact g_arY
theorem g_gN3 {A : Nat → Nat → Int32} {j z : Nat} : g_gN A j z 3 z = A 3 j := g_arY
theorem g_okgF {A : Nat → Nat → Int32} (ok : g_okA A) {i j : Nat} : g_okA (g_gF A i j) := g_okar (g_okar ok (by decide) (by decide) (by decide)) (by decide) (by decide) (by decide)
theorem g_okgN {A : Nat → Nat → Int32} (ok : g_okA A) {i j : Nat} : g_okA (g_gN A i j) := g_okar (g_okar ok (by decide) (by decide) (by decide)) (by decide) (by decide) (by decide)
theorem g_nodE {s : Nat} (h : s < 1000) : g_nod s = s := by unfold g_nod; rw [if_pos h]
/-- an infix: l at j, the new row, r at z -/
theorem g_infRL {A0 A A3 : Nat → Nat → Int32} {s0 s s3 w w3 j z f t : Nat} {V V3 : List (Nat × Nat)} {l r : Nat × Std.Format} (hs0 : s0 ≤ s) (hs3 : s + 1 ≤ s3) (hf : f ≤ 4096) (h1 : g_RL A0 A s0 s w V l j) (h3 : g_RL (g_gF (g_addA A (g_nod s) 3 (nI f) (nI t)) (g_nod s) j) A3 (s + 1) s3 w3 V3 r z) : g_RL A0 (g_gN A3 j z) s0 s3 w3 V3 (g_lb 3 f t, g_nd l (g_nd r g_nil)) (g_nod s) := by
  intro hs
  rw [g_nodE (by omega)] at h3 ⊢
  obtain ⟨a1, a2, a3, a4, a5, a6⟩ := h1 (by omega)
  obtain ⟨b1, b2, b3, b4, b5, b6⟩ := h3 hs
  -- the rows below s + 1 after the right term
  have k3 : ∀ n, n < s + 1 → ∀ q, q ≤ 6 → n ≠ s → (q ≠ 3 ∨ n ≠ j) → A3 q n = A q n := fun n hn q hq hne h => by
    rw [b1 n hn q hq, g_gFN (Or.inr hne) h]
    exact g_addq hne hq
  have ks : ∀ q, q ≤ 6 → q ≠ 4 → A3 q s = g_addA A s 3 (nI f) (nI t) q s := fun q hq h4 => by
    rw [b1 s (by omega) q hq, g_gFN (Or.inl h4) (Or.inr (by omega))]
  have ks4 : A3 4 s = nI j := by rw [b1 s (by omega) 4 (by decide)]; exact g_gF4
  have k3j : A3 3 j = nI s := by rw [b1 j (by omega) 3 (by decide)]; exact g_gF3
  refine ⟨fun n hn q hq => ?_, by omega, by omega, ?_, ⟨⟨?_, fun h => ?_, fun _ => ⟨?_, ?_⟩⟩, ?_⟩, ?_⟩
  · rw [g_gNN (Or.inr (by omega)) (Or.inr (by omega)), k3 n (by omega) q hq (by omega) (Or.inr (by omega))]
    exact a1 n hn q hq
  · exact ⟨by rw [g_gNN (Or.inr (by omega)) (Or.inr (by omega)), ks 5 (by decide) (by decide)]; exact g_updY, by rw [g_gNN (Or.inr (by omega)) (Or.inr (by omega)), ks 3 (by decide) (by decide)]; exact g_updY⟩
  · rw [g_gNN (Or.inl (by decide)) (Or.inl (by decide)), ks 0 (by decide) (by decide), g_lb1 (by decide)]
    exact g_updY
  · rw [g_lb1 (by decide)] at h; exact absurd h (by decide)
  · rw [g_gNN (Or.inl (by decide)) (Or.inl (by decide)), ks 1 (by decide) (by decide), g_lb2 (by decide) (by omega)]
    exact g_updY
  · rw [g_gNN (Or.inl (by decide)) (Or.inl (by decide)), ks 2 (by decide) (by decide), g_lb3 (by decide) (by omega)]
    exact g_updY
  · rw [g_gNN (Or.inl (by decide)) (Or.inl (by decide)), ks4]
    refine g_cF_nd.mpr ⟨j, rfl, ⟨a2, by omega, by omega⟩, by omega, ?_, ?_, ?_⟩
    · refine g_cT_mv (P := fun n => s0 ≤ n ∧ n < s ∧ n ≠ j) (fun n hn => ⟨⟨hn.1, by omega, by omega⟩, fun q hq => ?_⟩) (fun q hq h3 h5 => ?_) a5
      · rw [g_gNN (Or.inr hn.2.2) (Or.inr (by omega))]
        exact k3 n (by omega) q hq (by omega) (Or.inr hn.2.2)
      · rw [g_gNN (Or.inl h5) (Or.inl h3)]
        exact k3 j (by omega) q hq (by omega) (Or.inl h3)
    · rw [g_gNN (Or.inl (by decide)) (Or.inr (by omega))]
      exact k3j
    · rw [g_gN5]
      refine g_cF_nd.mpr ⟨z, rfl, ⟨by omega, by omega, by omega⟩, by omega, ?_, ?_, ?_⟩
      · refine g_cT_mv (P := fun n => s + 1 ≤ n ∧ n < s3 ∧ n ≠ z) (fun n hn => ⟨⟨by omega, by omega, by omega⟩, fun q hq => ?_⟩) (fun q hq h3 h5 => ?_) b5
        · exact g_gNN (Or.inr (by omega)) (Or.inr hn.2.2)
        · exact g_gNN (Or.inl h5) (Or.inl h3)
      · rw [g_gN3]; exact k3j
      · show g_gN A3 j z 5 z = -1
        rw [g_gNN (Or.inr (by omega)) (Or.inl (by decide))]
        exact b4.1
  · exact g_VImv (fun v => g_gNN (Or.inl (by decide)) (Or.inl (by decide))) (fun n _ => ⟨g_gNN (Or.inl (by decide)) (Or.inl (by decide)), g_gNN (Or.inl (by decide)) (Or.inl (by decide))⟩) (Nat.le_refl _) b6
/-- the variables after a new row and its first child -/
theorem g_VIaF {A : Nat → Nat → Int32} {s w j : Nat} {V : List (Nat × Nat)} {k f t : Int32} (hV : s ≤ 1000 → g_VI A s w V) : s + 1 ≤ 1000 → g_VI (g_gF (g_addA A (g_nod s) k f t) (g_nod s) j) (s + 1) w V := by
  intro hs
  rw [g_nodE (by omega)]
  refine g_VImv (fun v => ?_) (fun n hn => ⟨?_, ?_⟩) (by omega) (hV (by omega))
  · rw [g_gFN (Or.inl (by decide)) (Or.inl (by decide))]; rfl
  · rw [g_gFN (Or.inl (by decide)) (Or.inl (by decide))]; exact g_addq (by omega) (by decide)
  · rw [g_gFN (Or.inl (by decide)) (Or.inl (by decide))]; exact g_addq (by omega) (by decide)
theorem g_VIad {A : Nat → Nat → Int32} {s w : Nat} {V : List (Nat × Nat)} {k f t : Int32} (hV : s ≤ 1000 → g_VI A s w V) : s + 1 ≤ 1000 → g_VI (g_addA A (g_nod s) k f t) (s + 1) w V := by
  intro hs
  rw [g_nodE (by omega)]
  exact g_VImv (A := A) (A' := g_addA A s k f t) (s := s) (s' := s + 1) (fun v => rfl) (fun n hn => ⟨g_addq (by omega) (by decide), g_addq (by omega) (by decide)⟩) (by omega) (hV (by omega))
/-- ranks as the enum holds them -/
theorem g_rkI : ∀ o, o < 24 → ([1200, 1100, 1050, 1000, 900, 700, 700, 700, 700, 700, 700, 700, 700, 700, 700, 700, 500, 500, 400, 400, 400, 400, 200, 9999] : List Int32).getD o 0 = nI (g_rk o) ∧ g_rk o < 10000 := by decide
theorem g_lfI : ∀ o, o < 24 → o ≠ 4 → o ≠ 22 → o ≠ 23 → ([1199, 1099, 1049, 999, -1, 699, 699, 699, 699, 699, 699, 699, 699, 699, 699, 699, 500, 500, 400, 400, 400, 400, -1, -1] : List Int32).getD o 0 = nI (g_lf o) ∧ g_lf o < 10000 := by decide
theorem g_rtI : ∀ o, o < 24 → o ≠ 23 → ([1199, 1100, 1050, 1000, 900, 699, 699, 699, 699, 699, 699, 699, 699, 699, 699, 699, 499, 499, 399, 399, 399, 399, 200, -1] : List Int32).getD o 0 = nI (g_rt o) := by decide
theorem g_fit4 : ∀ i, i < 24 → g_fit false i = true → i ≠ 4 ∧ i ≠ 22 := by decide
theorem g_nmFf {a : Nat → Int32} {f t : Nat} : ∀ m i, i + m = 24 → g_nmF a f t false m i ≠ 4 ∧ g_nmF a f t false m i ≠ 22
  | 0, i, _ => ⟨by show 23 ≠ 4; decide, by show 23 ≠ 22; decide⟩
  | m + 1, i, h => by
    rw [g_nmF]
    cases hb : g_fit false i && g_is a f t (g_tx i) with
    | true => exact g_fit4 i (by omega) (Bool.and_eq_true_iff.mp hb).1
    | false => exact g_nmFf m (i + 1) (by omega)
theorem g_inf4 {a : Nat → Int32} {k f t : Nat} : g_inf a k f t ≠ 4 ∧ g_inf a k f t ≠ 22 := by
  unfold g_inf g_nm
  split
  · decide
  · split
    · exact g_nmFf 24 0 rfl
    · decide
theorem g_op12 {u : Nat → Nat} {N p : Nat} (h : g_ky (g_at u N) N p = 12) : g_op (g_at u N) N p = 23 := by
  unfold g_op g_inf g_nm
  rw [h, if_neg (by decide), if_neg (by decide)]
theorem g_inL12 {u : Nat → Nat} {N most m p s lr : Nat} {V : List (Nat × Nat)} {l : Nat × Std.Format} {t : Nat → Nat → Nat → List (Nat × Nat) → g_Rs} (hm : most ≤ 1200) (h : g_ky (g_at u N) N p = 12) : g_dd u N (g_inL (g_at u N) N t most m p s V l lr) p := by
  cases m with
  | zero => exact Or.inr ⟨_, _, _, _, rfl, h⟩
  | succ m =>
    refine Or.inr ⟨s, V, l, lr, ?_, h⟩
    rw [g_inL, g_op12 h]
    exact if_pos (Or.inl (show most < g_rk 23 by show most < 9999; omega))
