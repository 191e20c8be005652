theorem g_arN {A : Nat → Nat → Int32} {j i q n : Nat} {x : Int32} (h : q ≠ j ∨ n ≠ i) : g_ar A j i x q n = A q n := by
  unfold g_ar
  cases hb : Nat.beq q j with
  | false => rfl
  | true =>
    have e := Nat.eq_of_beq_eq_true hb
    subst e
    exact g_updN (h.resolve_left fun z => z rfl)
theorem g_arY {A : Nat → Nat → Int32} {j i : Nat} {x : Int32} : g_ar A j i x j i = x := by
  unfold g_ar
  rw [Nat.beq_refl]
  exact g_updY
theorem g_okar {A : Nat → Nat → Int32} (ok : g_okA A) {j i : Nat} {x : Int32} (h1 : j ≠ 1) (h2 : j ≠ 2) (h7 : j ≠ 7) : g_okA (g_ar A j i x) := by
  refine ⟨fun y hy => ?_, fun y hy => ?_⟩
  · unfold g_fN g_tN
    rw [g_arN (Or.inl (Ne.symm h1)), g_arN (Or.inl (Ne.symm h2))]
    exact ok.1 y hy
  · unfold g_uN
    rw [g_arN (Or.inl (Ne.symm h7))]
    exact ok.2 y hy
theorem g_okar7 {A : Nat → Nat → Int32} (ok : g_okA A) {i n : Nat} (hn : n < 1001) : g_okA (g_ar A 7 i (nI n)) := by
  refine ⟨fun y hy => ?_, fun y hy => ?_⟩
  · unfold g_fN g_tN
    rw [g_arN (Or.inl (by decide)), g_arN (Or.inl (by decide))]
    exact ok.1 y hy
  · unfold g_uN
    by_cases e : y = i
    · subst e
      rw [g_arY, nI_clamp (by omega)]
      exact ⟨rfl, hn⟩
    · rw [g_arN (Or.inr e)]
      exact ok.2 y hy
theorem g_okav {u : Nat → Nat} {A : Nat → Nat → Int32} (ok : g_okA A) {s w f t : Nat} (hf : f ≤ t) (ht : t ≤ 4096) : g_okA (g_avA u A s w f t) := by
  have ok1 := g_okadd ok (i := g_nod s) 0 hf ht
  unfold g_avA
  cases decide (g_kn u A s w f t = -1) with
  | false => exact g_okar ok1 (by decide) (by decide) (by decide)
  | true =>
    cases decide (w < 1000) with
    | false => exact ok1
    | true => exact g_okar (g_okar7 ok1 (g_nodL s)) (by decide) (by decide) (by decide)
theorem g_avWL {u : Nat → Nat} {A : Nat → Nat → Int32} {s w f t : Nat} (hw : w ≤ 1000) : g_avW u A s w f t ≤ 1000 := by
  unfold g_avW
  cases h1 : decide (g_kn u A s w f t = -1) with
  | false => exact hw
  | true =>
    cases h2 : decide (w < 1000) with
    | false => exact hw
    | true => have := of_decide_eq_true h2; show w + 1 ≤ 1000; omega
theorem g_vf_le {u : Nat → Nat} {f t : Nat} : ∀ (l : List (Nat × Nat)) (i : Nat), i ≤ g_vf u f t l i ∧ g_vf u f t l i ≤ i + l.length
  | [], i => ⟨Nat.le_refl _, Nat.le_refl _⟩
  | q :: l, i => by
    rw [g_vf]
    have := g_vf_le (u := u) (f := f) (t := t) l (i + 1)
    cases g_same u q.1 q.2 f t with
    | true => exact ⟨Nat.le_refl _, by show i ≤ _; omega⟩
    | false => exact ⟨by show i ≤ g_vf u f t l (i + 1); omega, by show g_vf u f t l (i + 1) ≤ _; rw [List.length_cons]; omega⟩
theorem g_knV {u : Nat → Nat} {A : Nat → Nat → Int32} {s w f t : Nat} {V : List (Nat × Nat)} (hV : g_VI A s w V) (hs : s ≤ 1000) (ht : t ≤ 4096) (hf : f ≤ 4096) : ∀ m i, i + m = w → g_knF u (g_addA A s 0 (nI f) (nI t)) s m i = if g_vf u f t (V.drop i) i < w then nI (g_vf u f t (V.drop i) i) else -1 := by
  intro m
  induction m with
  | zero =>
    intro i hi
    have e : V.drop i = [] := List.drop_eq_nil_of_le (by have := hV.1.1; omega)
    rw [e, g_knF, g_vf, if_neg (by omega)]
  | succ m ih =>
    intro i hi
    have hiV : i < V.length := by have := hV.1.1; omega
    rw [List.drop_eq_getElem_cons hiV, g_knF, g_vf]
    obtain ⟨n, g1, g2, g3, g4, g5, g6⟩ := hV.2 i hiV
    have hun : g_uN (g_addA A s 0 (nI f) (nI t)) i = (nI n).toNatClampNeg := by
      unfold g_uN
      show (A 7 i).toNatClampNeg = _
      rw [g2]
    have hsm : n < 2 ^ 31 → g_smA u (g_addA A s 0 (nI f) (nI t)) (g_uN (g_addA A s 0 (nI f) (nI t)) i) s = g_same u V[i].1 V[i].2 f t := by
      intro hn
      rw [hun, nI_clamp hn]
      unfold g_smA g_fN g_tN
      have e1 : g_addA A s 0 (nI f) (nI t) 1 n = nI V[i].1 := (g_addq (by omega) (by decide)).trans g3
      have e2 : g_addA A s 0 (nI f) (nI t) 2 n = nI V[i].2 := (g_addq (by omega) (by decide)).trans g4
      have e3 : g_addA A s 0 (nI f) (nI t) 1 s = nI f := g_updY
      have e4 : g_addA A s 0 (nI f) (nI t) 2 s = nI t := g_updY
      rw [e1, e2, e3, e4, nI_clamp (by omega), nI_clamp (by omega), nI_clamp (by omega), nI_clamp (by omega)]
    rw [hsm (by omega)]
    cases hb : g_same u V[i].1 V[i].2 f t with
    | true =>
      show nI i = if i < w then nI i else -1
      rw [if_pos (by omega)]
    | false => exact ih (i + 1) (by omega)
theorem g_nIm {n : Nat} (h : n < 2 ^ 31) : ¬ nI n = -1 := fun q => absurd (show nI n < 0 by rw [q]; decide) (nI_pos h)
theorem g_knR {u : Nat → Nat} {A : Nat → Nat → Int32} {s w f t : Nat} {V : List (Nat × Nat)} (hV : g_VI A s w V) (hs : s + 1 ≤ 1000) (ht : t ≤ 4096) (hf : f ≤ 4096) : (g_kn u A s w f t = -1 ∧ g_vr u V f t = V.length) ∨ (g_kn u A s w f t = nI (g_vr u V f t) ∧ g_vr u V f t < V.length) := by
  have hn : g_nod s = s := by unfold g_nod; rw [if_pos (by omega)]
  unfold g_kn g_vr
  rw [hn]
  cases g_nl u f t with
  | true => exact Or.inl ⟨rfl, rfl⟩
  | false =>
    show (g_knF u (g_addA A s 0 (nI f) (nI t)) s w 0 = -1 ∧ g_vf u f t V 0 = V.length) ∨ (g_knF u (g_addA A s 0 (nI f) (nI t)) s w 0 = nI (g_vf u f t V 0) ∧ g_vf u f t V 0 < V.length)
    have h1 := g_knV (u := u) hV (by omega) ht hf w 0 (Nat.zero_add _)
    have h2 := g_vf_le (u := u) (f := f) (t := t) V 0
    have h3 := hV.1.1
    rw [List.drop_zero] at h1
    by_cases hc : g_vf u f t V 0 < w
    · rw [if_pos hc] at h1
      exact Or.inr ⟨h1, by omega⟩
    · rw [if_neg hc] at h1
      exact Or.inl ⟨h1, by omega⟩
theorem g_var {u : Nat → Nat} {A : Nat → Nat → Int32} {s w f t : Nat} {V : List (Nat × Nat)} (hV : s ≤ 1000 → g_VI A s w V) (hf : f ≤ t) (ht : t ≤ 4096) : g_RL A (g_avA u A s w f t) s (s + 1) (g_avW u A s w f t) (g_vV u V f t) (g_lb 0 (g_vr u V f t) 0, g_nil) (g_nod s) := by
  intro hs
  have hn : g_nod s = s := by unfold g_nod; rw [if_pos (by omega)]
  have hV0 := hV (by omega)
  obtain ⟨⟨v1, v2⟩, v3⟩ := hV0
  have hvr : g_vr u V f t ≤ V.length := by
    unfold g_vr
    cases g_nl u f t with
    | true => exact Nat.le_refl _
    | false => have := g_vf_le (u := u) (f := f) (t := t) V 0; show g_vf u f t V 0 ≤ _; omega
  -- the row s, whatever becomes of the rest
  have hrow : ∀ B : Nat → Nat → Int32, B 0 s = 0 → B 6 s = nI (g_vr u V f t) → B 4 s = -1 → g_cT B (fun n => s ≤ n ∧ n < s + 1 ∧ n ≠ s) (g_lb 0 (g_vr u V f t) 0, g_nil) s := by
    intro B b0 b6 b4
    refine ⟨⟨?_, fun _ => ?_, fun z => ?_⟩, b4⟩
    · rw [g_lb1 (by decide)]; exact b0
    · rw [g_lb2 (by decide) (by omega)]; exact b6
    · rw [g_lb1 (by decide)] at z; exact absurd z (by decide)
  have hadd : ∀ q, q ≤ 6 → ∀ n, n ≠ s → g_addA A s 0 (nI f) (nI t) q n = A q n := fun q hq n hne => g_addq hne hq
  rw [hn]
  rcases g_knR (u := u) (f := f) (hV (by omega)) hs ht (by omega) with ⟨k1, k2⟩ | ⟨k1, k2⟩
  · have e1 : g_avW u A s w f t = w + 1 := by unfold g_avW; rw [decide_eq_true k1, decide_eq_true (by omega)]; rfl
    have e2 : g_avA u A s w f t = g_ar (g_ar (g_addA A s 0 (nI f) (nI t)) 7 w (nI s)) 6 s (nI w) := by unfold g_avA; rw [decide_eq_true k1, decide_eq_true (by omega), hn]; rfl
    have e3 : g_vV u V f t = V ++ [(f, t)] := by unfold g_vV; rw [decide_eq_true k2]; rfl
    rw [e1, e2, e3]
    have hfr : ∀ n, n < s → ∀ q, q ≤ 6 → g_ar (g_ar (g_addA A s 0 (nI f) (nI t)) 7 w (nI s)) 6 s (nI w) q n = A q n := fun n h q hq => by
      rw [g_arN (Or.inr (by omega)), g_arN (Or.inl (by omega))]
      exact hadd q hq n (by omega)
    refine ⟨hfr, Nat.le_refl _, Nat.lt_succ_self _, ?_, hrow _ ?_ ?_ ?_, ⟨by rw [List.length_append, v1]; rfl, by omega⟩, fun v hv => ?_⟩
    · exact ⟨by rw [g_arN (Or.inl (by decide)), g_arN (Or.inl (by decide))]; exact g_updY, by rw [g_arN (Or.inl (by decide)), g_arN (Or.inl (by decide))]; exact g_updY⟩
    · rw [g_arN (Or.inl (by decide)), g_arN (Or.inl (by decide))]; exact g_updY
    · rw [g_arY, k2, v1]
    · rw [g_arN (Or.inl (by decide)), g_arN (Or.inl (by decide))]; exact g_updY
    · by_cases hvl : v < V.length
      · obtain ⟨n, g1, g2, g3, g4, g5, g6⟩ := v3 v hvl
        have ev : (V ++ [(f, t)])[v] = V[v] := List.getElem_append_left hvl
        refine ⟨n, by omega, ?_, ?_, ?_, ?_, ?_⟩
        · rw [g_arN (Or.inl (by decide)), g_arN (Or.inr (by omega))]; exact g2
        · rw [hfr n g1 1 (by decide), g3, ev]
        · rw [hfr n g1 2 (by decide), g4, ev]
        · rw [ev]; exact g5
        · rw [ev]; exact g6
      · have hvw : v = w := by rw [List.length_append] at hv; have : v < V.length + 1 := hv; omega
        have ev : (V ++ [(f, t)])[v] = (f, t) := by
          rw [List.getElem_append_right (by omega)]
          simp
        refine ⟨s, Nat.lt_succ_self _, ?_, ?_, ?_, ?_, ?_⟩
        · rw [g_arN (Or.inl (by decide)), hvw]; exact g_arY
        · rw [g_arN (Or.inl (by decide)), g_arN (Or.inl (by decide)), ev]; exact g_updY
        · rw [g_arN (Or.inl (by decide)), g_arN (Or.inl (by decide)), ev]; exact g_updY
        · rw [ev]; show f ≤ 4096; omega
        · rw [ev]; exact ht
  · have hne : ¬ g_kn u A s w f t = -1 := by rw [k1]; exact g_nIm (by omega)
    have e1 : g_avW u A s w f t = w := by unfold g_avW; rw [decide_eq_false hne]; rfl
    have e2 : g_avA u A s w f t = g_ar (g_addA A s 0 (nI f) (nI t)) 6 s (nI (g_vr u V f t)) := by unfold g_avA; rw [decide_eq_false hne, hn, k1]; rfl
    have e3 : g_vV u V f t = V := by unfold g_vV; rw [decide_eq_false (by omega)]; rfl
    rw [e1, e2, e3]
    have hfr : ∀ n, n < s → ∀ q, q ≤ 6 → g_ar (g_addA A s 0 (nI f) (nI t)) 6 s (nI (g_vr u V f t)) q n = A q n := fun n h q hq => by
      rw [g_arN (Or.inr (by omega))]
      exact hadd q hq n (by omega)
    refine ⟨hfr, Nat.le_refl _, Nat.lt_succ_self _, ?_, hrow _ ?_ ?_ ?_, ⟨v1, by omega⟩, fun v hv => ?_⟩
    · exact ⟨by rw [g_arN (Or.inl (by decide))]; exact g_updY, by rw [g_arN (Or.inl (by decide))]; exact g_updY⟩
    · rw [g_arN (Or.inl (by decide))]; exact g_updY
    · rw [g_arY]
    · rw [g_arN (Or.inl (by decide))]; exact g_updY
    · obtain ⟨n, g1, g2, g3, g4, g5, g6⟩ := v3 v hv
      refine ⟨n, by omega, ?_, ?_, ?_, g5, g6⟩
      · rw [g_arN (Or.inl (by decide))]; exact g2
      · rw [hfr n g1 1 (by decide), g3]
      · rw [hfr n g1 2 (by decide), g4]
