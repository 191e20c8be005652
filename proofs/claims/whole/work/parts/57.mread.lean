/-! what the reference sees of the tape: signed bytes -/
def g_lo (u : Nat → Nat) (N i : Nat) : Int32 := bif Nat.blt i N then g_sb (u i) else -1
theorem g_loI {u : Nat → Nat} {N i : Nat} (h : i < N) : g_lo u N i = g_sb (u i) := by
  unfold g_lo
  have : Nat.blt i N = true := by rw [Nat.blt_eq]; exact h
  rw [this]; rfl
theorem g_loO {u : Nat → Nat} {N i : Nat} (h : N ≤ i) : g_lo u N i = -1 := by
  unfold g_lo
  have : Nat.blt i N = false := by
    cases hb : Nat.blt i N with
    | false => rfl
    | true => rw [Nat.blt_eq] at hb; omega
  rw [this]; rfl
theorem g_loP {α : Type} {P : Int32 → α} (hP : ∀ x, x < 256 → P (g_sb x) = P (nI x)) {u : Nat → Nat} {N i : Nat} (hu : ∀ i, u i < 256) : P (g_lo u N i) = P (g_at u N i) := by
  rcases Nat.lt_or_ge i N with h | h
  · rw [g_loI h, g_atI h]; exact hP _ (hu i)
  · rw [g_loO h, g_at_out h]
theorem g_loE {u : Nat → Nat} {N i : Nat} (hu : ∀ i, u i < 256) {b : Int32} (hb : 0 ≤ b ∧ b < 128) : g_lo u N i = b ↔ g_at u N i = b := by
  rcases Nat.lt_or_ge i N with h | h
  · rw [g_loI h, g_atI h]; exact (g_sbE _ (hu i) b hb).symm
  · rw [g_loO h, g_at_out h]
theorem g_sbQ : ∀ x, x < 256 → (decide (g_sb x < 32) || decide (126 < g_sb x)) = (decide (nI x < 32) || decide (126 < nI x)) := by decide +kernel
theorem g_sbS : ∀ x, x < 256 → g_solo (g_sb x) = g_solo (nI x) := by decide +kernel
/-! a brace where no brace can stand: the reference may break there sooner -/
def g_de (u : Nat → Nat) (N : Nat) (r : g_Rs) (q : Nat) : Prop := r = .inl q ∨ ∃ s V t c, r = .inr (q, s, V, t, c) ∧ g_ky (g_at u N) N q = 8
theorem g_de_bd {u : Nat → Nat} {N q : Nat} {r : g_Rs} {k : Nat → Nat → List (Nat × Nat) → (Nat × Std.Format) → Nat → g_Rs} (h : g_de u N r q) (hk : ∀ s V t c, g_ky (g_at u N) N q = 8 → g_de u N (k q s V t c) q) : g_de u N (g_bd r k) q := by
  rcases h with rfl | ⟨s, V, t, c, rfl, h⟩
  · exact Or.inl rfl
  · exact hk s V t c h
theorem g_op8 {u : Nat → Nat} {N p : Nat} (h : g_ky (g_at u N) N p = 8) : g_op (g_at u N) N p = 23 := by
  unfold g_op g_inf g_nm
  rw [h, if_neg (by decide), if_neg (by decide)]
theorem g_inL8 {u : Nat → Nat} {N most m p s lr : Nat} {V : List (Nat × Nat)} {l : Nat × Std.Format} {t : Nat → Nat → Nat → List (Nat × Nat) → g_Rs} (hm : most ≤ 1200) (h : g_ky (g_at u N) N p = 8) : g_de u N (g_inL (g_at u N) N t most m p s V l lr) p := by
  cases m with
  | zero => exact Or.inr ⟨_, _, _, _, rfl, h⟩
  | succ m =>
    refine Or.inr ⟨s, V, l, lr, ?_, h⟩
    rw [g_inL, g_op8 h]
    exact if_pos (Or.inl (show most < g_rk 23 by show most < 9999; omega))
theorem g_liE8 {u : Nat → Nat} {N p s : Nat} {V : List (Nat × Nat)} {acc : List (Nat × Std.Format)} {t : Nat → Nat → Nat → List (Nat × Nat) → g_Rs} (h : g_ky (g_at u N) N p = 8) : g_liE (g_at u N) N t p s V acc = .inl p := by
  unfold g_liE g_liC
  rw [if_neg (by rw [h]; decide), if_neg (by rw [h]; decide)]
theorem g_liL8 {u : Nat → Nat} {N m p s : Nat} {V : List (Nat × Nat)} {acc : List (Nat × Std.Format)} {t : Nat → Nat → Nat → List (Nat × Nat) → g_Rs} (h : g_ky (g_at u N) N p = 8) : g_liL (g_at u N) N t m p s V acc = .inl p := by
  cases m with
  | zero => exact g_liE8 h
  | succ m => rw [g_liL, if_neg (by rw [h]; decide)]; exact g_liE8 h
theorem g_pr8 {u : Nat → Nat} {N most p s : Nat} {V : List (Nat × Nat)} {t : Nat → Nat → Nat → List (Nat × Nat) → g_Rs} (h : g_ky (g_at u N) N p = 8) : g_pr (g_at u N) u N t most p s V = .inl p := by
  unfold g_pr
  rw [if_neg (by rw [h]; decide), if_neg (by rw [h]; decide), if_neg (by rw [h]; decide), if_neg (by rw [h]; decide), if_neg (by rw [h]; decide)]
theorem g_T8 {u : Nat → Nat} {N d most p s : Nat} {V : List (Nat × Nat)} (h : g_ky (g_at u N) N p = 8) : g_T (g_at u N) u N d most p s V = .inl p := by
  cases d with
  | zero => rfl
  | succ d => rw [g_T, g_pr8 h]; rfl
theorem g_allE {u : Nat → Nat} {N q : Nat} (hd : g_de u N (g_T (g_at u N) u N 100 1200 (g_pl (g_at u N) N 0) 0 []) q) : g_all u N = .inl q := by
  unfold g_all
  rcases hd with hd | ⟨s, V, t, c, hd, h8⟩
  · rw [hd]
  · rw [hd]
    show (if ¬ g_ky (g_at u N) N q = 0 then _ else _) = _
    rw [if_pos (by rw [h8]; decide)]
/-- the letters between the quotes -/
def g_ql (u : Nat → Nat) (N : Nat) : Nat → Nat → List Int32
  | 0, _ => []
  | m + 1, i => bif decide (g_at u N i < 32) || decide (126 < g_at u N i) then [] else bif decide (g_at u N i = 39) then (bif decide (g_at u N (i + 1) = 39) then 39 :: g_ql u N m (i + 2) else []) else g_sb (u i) :: g_ql u N m (i + 1)
theorem g_qtE {u : Nat → Nat} {N : Nat} (hu : ∀ i, u i < 256) : ∀ (m i : Nat), g_qt (g_at u N) m i ≠ 0 → g_tp u (g_qt (g_at u N) m i - i) i = g_rq (g_ql u N m i)
  | 0, i, h => absurd rfl h
  | m + 1, i, h => by
    rw [g_qt] at h ⊢
    rw [g_ql]
    cases h1 : decide (g_at u N i < 32) || decide (126 < g_at u N i) with
    | true => rw [h1] at h; exact absurd rfl h
    | false =>
      rw [h1] at h
      have hi : i < N := g_at_nn (u := u) (fun q => by
        have := of_decide_eq_false (Bool.or_eq_false_iff.mp h1).1
        exact this (Int32.lt_trans q (by decide)))
      cases h2 : decide (g_at u N i = 39) with
      | false =>
        rw [h2] at h
        have hb := g_qt_b m (i + 1) h
        have hw := g_qtE hu m (i + 1) h
        show g_tp u (g_qt (g_at u N) m (i + 1) - i) i = g_rq (g_sb (u i) :: g_ql u N m (i + 1))
        rw [show g_qt (g_at u N) m (i + 1) - i = g_qt (g_at u N) m (i + 1) - (i + 1) + 1 by omega, g_tp, hw, g_rq, if_neg]
        exact g_sb39 hi hu (of_decide_eq_false h2)
      | true =>
        rw [h2] at h
        cases h3 : decide (g_at u N (i + 1) = 39) with
        | true =>
          rw [h3] at h
          have hb := g_qt_b m (i + 2) h
          have hw := g_qtE hu m (i + 2) h
          have hi1 : i + 1 < N := g_at_nn (u := u) (fun q => by rw [of_decide_eq_true h3] at q; exact absurd q (by decide))
          show g_tp u (g_qt (g_at u N) m (i + 2) - i) i = g_rq (39 :: g_ql u N m (i + 2))
          rw [show g_qt (g_at u N) m (i + 2) - i = g_qt (g_at u N) m (i + 2) - (i + 2) + 1 + 1 by omega, g_tp, g_tp, show i + 1 + 1 = i + 2 from rfl, hw, g_rq, if_pos rfl, g_sb39' hi hu (of_decide_eq_true h2), g_sb39' hi1 hu (of_decide_eq_true h3)]
        | false =>
          show g_tp u (i - i) i = g_rq []
          rw [Nat.sub_self]; rfl
theorem g_qlU {u : Nat → Nat} {N m i : Nat} (hu : ∀ i, u i < 256) (h : g_qt (g_at u N) m i ≠ 0) : g_ut u i (g_qt (g_at u N) m i) = g_ql u N m i := by
  unfold g_ut
  rw [g_qtE hu m i h, g_uqrq]
theorem g_utN {u : Nat → Nat} {f t : Nat} (h : ∀ k, k < t - f → ¬ g_sb (u (f + k)) = 39) : g_ut u f t = g_tp u (t - f) f := by
  unfold g_ut
  rw [g_tpN h, g_uqrq]
  exact g_tpN h
/-- the row holds this text -/
def g_wx (Wd : Nat → Int32) (w : List Int32) : Prop := ∀ k (h : k < w.length), Wd k = w[k]
theorem g_wx0 {Wd : Nat → Int32} : g_wx Wd [] := fun k h => by cases h
theorem g_wxs {Wd : Nat → Int32} {w : List Int32} {c : Int32} (h : g_wx Wd w) : g_wx (upd Wd w.length c) (w ++ [c]) := fun k hk => by
  rw [List.length_append, List.length_singleton] at hk
  by_cases e : k = w.length
  · subst e
    rw [g_updY, List.getElem_append_right (Nat.le_refl _)]
    simp
  · rw [g_updN e, List.getElem_append_left (by omega)]
    exact h k (by omega)
theorem g_narT : ∀ x, x < 256 → (g_sb x).toInt8.toInt32 = g_sb x := by decide +kernel
/-- the terms on the stack from mark on, the newest first -/
def g_AS (u : Nat → Nat) (N : Nat) (T : List (List Int32)) (B : Nat → Nat → Int32) (Nm : Nat → Int64) (z q : Nat) (St : Nat → Int32) (mark : Nat) : List (Nat × Std.Format) → Prop
  | [] => True
  | t :: acc => (∃ r, St (mark + acc.length) = nI r ∧ g_wf u N t.2 ∧ g_lk u N t.1 t.2 ∧ g_mT u N T B Nm z q t r) ∧ g_AS u N T B Nm z q St mark acc
theorem g_AS_mv {u : Nat → Nat} {N : Nat} {T T' : List (List Int32)} {B B' : Nat → Nat → Int32} {Nm Nm' : Nat → Int64} {z q z' q' mark : Nat} {St St' : Nat → Int32} (hE : g_mE T T' B B' Nm Nm' z q z' q') : ∀ acc, (∀ k, k < mark + acc.length → St' k = St k) → g_AS u N T B Nm z q St mark acc → g_AS u N T' B' Nm' z' q' St' mark acc
  | [], _, _ => trivial
  | t :: acc, hS, h => by
    obtain ⟨⟨r, h1, h2, h2', h3⟩, h4⟩ := h
    rw [List.length_cons] at hS
    exact ⟨⟨r, (hS _ (by omega)).trans h1, h2, h2', g_mT_mv hE h2 h3⟩, g_AS_mv hE acc (fun k hk => hS k (by omega)) h4⟩
/-- parts taken from the stack hold the forest -/
theorem g_ASF {u : Nat → Nat} {N : Nat} {T : List (List Int32)} {B : Nat → Nat → Int32} {Nm : Nat → Int64} {z q mark b : Nat} {St : Nat → Int32} : ∀ (acc : List (Nat × Std.Format)) (R : Std.Format), g_AS u N T B Nm z q St mark acc → (∀ i, i < acc.length → b + i < q ∧ B 4 (b + i) = St (mark + i)) → g_mF u N T B Nm z q R (b + acc.length) → g_mF u N T B Nm z q (acc.foldl (fun r x => g_nd x r) R) b
  | [], R, _, _, hR => hR
  | t :: acc, R, h, hB, hR => by
    obtain ⟨⟨r, h1, h2, -, h3, h4, f, h5, h6⟩, h7⟩ := h
    rw [List.length_cons] at hB hR
    rw [List.foldl_cons]
    have hb := hB acc.length (by omega)
    exact g_ASF acc (g_nd t R) h7 (fun i hi => hB i (by omega)) ⟨r, hb.1, hb.2.trans h1, h3, h4, ⟨f, h5, h6⟩, hR⟩
theorem g_ASw {u : Nat → Nat} {N : Nat} {T : List (List Int32)} {B : Nat → Nat → Int32} {Nm : Nat → Int64} {z q mark : Nat} {St : Nat → Int32} : ∀ (acc : List (Nat × Std.Format)) (R : Std.Format), g_AS u N T B Nm z q St mark acc → g_wf u N R → g_wf u N (acc.foldl (fun r x => g_nd x r) R)
  | [], R, _, hR => hR
  | t :: acc, R, h, hR => by
    obtain ⟨⟨r, -, h2, h3, -⟩, h7⟩ := h
    rw [List.foldl_cons]
    exact g_ASw acc (g_nd t R) h7 ⟨h3, h2, hR⟩
/-- the variables of the reference -/
def g_MV (u : Nat → Nat) (T : List (List Int32)) (Vr : Nat → Int32) (V : List (Nat × Nat)) : Prop := ∀ i (h : i < V.length), (g_nl u V[i].1 V[i].2 = true → Vr i = -1) ∧ (g_nl u V[i].1 V[i].2 = false → g_nmd1 T (Vr i) (g_tp u (V[i].2 - V[i].1) V[i].1))
theorem g_MV_mv {u : Nat → Nat} {T T' : List (List Int32)} {Vr : Nat → Int32} {V : List (Nat × Nat)} (hT : ∀ k w, g_nt T k = some w → g_nt T' k = some w) (h : g_MV u T Vr V) : g_MV u T' Vr V := fun i hi => ⟨(h i hi).1, fun q => by
  obtain ⟨k, a, b, c⟩ := (h i hi).2 q
  exact ⟨k, a, b, hT k _ c⟩⟩
theorem g_sameT {u : Nat → Nat} {f t f' t' : Nat} : g_same u f t f' t' = decide (g_tp u (t - f) f = g_tp u (t' - f') f') := by
  have hE : ∀ m f f', g_eqr u m f f' = decide (g_tp u m f = g_tp u m f') := by
    intro m
    induction m with
    | zero => intro f f'; rw [g_eqr, g_tp, g_tp]; rfl
    | succ m ih =>
      intro f f'
      rw [g_eqr, g_tp, g_tp, ih]
      by_cases h1 : g_sb (u f) = g_sb (u f')
      · by_cases h2 : g_tp u m (f + 1) = g_tp u m (f' + 1)
        · rw [decide_eq_true h1, decide_eq_true h2, decide_eq_true (show g_sb (u f) :: g_tp u m (f + 1) = g_sb (u f') :: g_tp u m (f' + 1) by rw [h1, h2])]; rfl
        · rw [decide_eq_false h2, decide_eq_false (fun q => h2 (List.cons.inj q).2), Bool.and_false]
      · rw [decide_eq_false h1, decide_eq_false (fun q => h1 (List.cons.inj q).1), Bool.false_and]
  unfold g_same
  by_cases h : t - f = t' - f'
  · rw [decide_eq_true h, Bool.true_and, hE, h]
  · rw [decide_eq_false h, Bool.false_and, decide_eq_false]
    intro q
    apply h
    have := congrArg List.length q
    rw [g_tp_len, g_tp_len] at this
    exact this
theorem g_m1k : ∀ k, k < 9000 → ¬ (-1 : Int32) = nI k := fun k h q => g_nIm (by omega) q.symm
theorem g_nlT {u : Nat → Nat} (hu : ∀ i, u i < 256) {f t : Nat} : g_nl u f t = decide (g_tp u (t - f) f = [95]) := by
  unfold g_nl
  by_cases h : t - f = 1
  · rw [h, g_tp, g_tp, decide_eq_true rfl, Bool.true_and]
    have : g_sb (u f) = 95 ↔ u f = 95 := (show ∀ x, x < 256 → (g_sb x = 95 ↔ x = 95) by decide +kernel) _ (hu f)
    by_cases e : u f = 95
    · rw [decide_eq_true e, decide_eq_true (by rw [this.mpr e])]
    · rw [decide_eq_false e, decide_eq_false (fun q => e (this.mp (List.cons.inj q).1))]
  · rw [decide_eq_false h, Bool.false_and, decide_eq_false]
    intro q
    have := congrArg List.length q
    rw [g_tp_len] at this
    exact h this
theorem g_MVc {u : Nat → Nat} (hu : ∀ i, u i < 256) {T : List (List Int32)} {Vr : Nat → Int32} {V : List (Nat × Nat)} (hV : g_MV u T Vr V) (hq : g_nq T) {f t k : Nat} (hk : k < 9000) (ht : g_nt T k = some (g_tp u (t - f) f)) (hn : g_nl u f t = false) {i : Nat} (hi : i < V.length) : Vr i = nI k ↔ g_same u V[i].1 V[i].2 f t = true := by
  obtain ⟨a, b⟩ := hV i hi
  rw [g_sameT]
  cases h : g_nl u V[i].1 V[i].2 with
  | true =>
    rw [a h]
    refine ⟨fun q => absurd q (g_m1k k hk), fun q => ?_⟩
    have q := of_decide_eq_true q
    rw [g_nlT hu] at h hn
    have h := of_decide_eq_true h
    rw [← q, decide_eq_true h] at hn
    cases hn
  | false =>
    obtain ⟨k', e1, e2, e3⟩ := b h
    rw [e2]
    refine ⟨fun q => ?_, fun q => ?_⟩
    · have : k' = k := (g_nIne (by omega) (by omega)).mp q
      subst this
      rw [e3] at ht
      exact decide_eq_true (by injection ht)
    · have q := of_decide_eq_true q
      rw [q] at e3
      rw [g_nqI T hq k' k _ e3 ht]
theorem g_MVs {u : Nat → Nat} {T : List (List Int32)} {Vr : Nat → Int32} {V : List (Nat × Nat)} {f t : Nat} {x : Int32} (hV : g_MV u T Vr V) (h1 : g_nl u f t = true → x = -1) (h2 : g_nl u f t = false → g_nmd1 T x (g_tp u (t - f) f)) : g_MV u T (upd Vr V.length x) (V ++ [(f, t)]) := by
  intro i hi
  rw [List.length_append, List.length_singleton] at hi
  by_cases e : i = V.length
  · subst e
    rw [g_updY]
    have : (V ++ [(f, t)])[V.length]'(by rw [List.length_append]; exact Nat.lt_succ_self _) = (f, t) := by
      rw [List.getElem_append_right (Nat.le_refl _)]; simp
    rw [this]
    exact ⟨h1, h2⟩
  · rw [g_updN e, List.getElem_append_left (by omega)]
    exact hV i (by omega)
