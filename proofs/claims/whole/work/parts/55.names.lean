theorem g_txC : ∀ i, i < 24 → ∀ c ∈ g_tx i, ¬ c = 39 ∧ 0 ≤ c ∧ c < 128 := by decide +kernel
/-- a name's sign reads l: with its quotes or without -/
theorem g_isW {u : Nat → Nat} {N p : Nat} (hu : ∀ i, u i < 256) (hp : p ≤ N) (h : g_ky (g_at u N) N p = 3) {l : List Int32} (hl : ∀ c ∈ l, ¬ c = 39 ∧ 0 ≤ c ∧ c < 128) : g_is (g_at u N) (g_fr (g_at u N) N p) (g_to (g_at u N) N p) l = decide (g_ut u (g_fr (g_at u N) N p) (g_to (g_at u N) N p) = l) := by
  have hR := g_utR hu (Or.inr (Or.inl h))
  have hb := g_tkF hp (Or.inr (Or.inl h))
  have hlq : g_rq l = l := g_rqn l (fun c hc => (hl c hc).1)
  unfold g_is
  by_cases e : g_to (g_at u N) N p - g_fr (g_at u N) N p = l.length
  · rw [decide_eq_true e, Bool.true_and, g_mtT hu l _ (by omega) (fun c hc => (hl c hc).2)]
    rw [e] at hR
    rw [← hR]
    by_cases q : g_ut u (g_fr (g_at u N) N p) (g_to (g_at u N) N p) = l
    · rw [decide_eq_true q, q, hlq, decide_eq_true rfl]
    · rw [decide_eq_false q, decide_eq_false (fun z => q (g_rq_inj (fun c hc => (hl c hc).1) z))]
  · rw [decide_eq_false e, Bool.false_and, decide_eq_false]
    intro q
    rw [q, hlq] at hR
    apply e
    rw [hR, g_tp_len]
/-- the operators of the reference, by its own numbers -/
def g_sd : List Nat := [0, 1, 2, 5, 6, 7, 8, 9, 10, 11, 12, 13, 14, 15, 16, 17, 18, 19, 20, 21]
def g_mr (w : List Int32) : Nat → Nat → Nat
  | 0, k => k
  | m + 1, k => bif decide (w = g_tx (g_sd.getD k 23)) then k else g_mr w m (k + 1)
theorem g_fitF : g_fit false 0 = true ∧ g_fit false 1 = true ∧ g_fit false 2 = true ∧ g_fit false 3 = false ∧ g_fit false 4 = false ∧ g_fit false 5 = true ∧ g_fit false 6 = true ∧ g_fit false 7 = true ∧ g_fit false 8 = true ∧ g_fit false 9 = true ∧ g_fit false 10 = true ∧ g_fit false 11 = true ∧ g_fit false 12 = true ∧ g_fit false 13 = true ∧ g_fit false 14 = true ∧ g_fit false 15 = true ∧ g_fit false 16 = true ∧ g_fit false 17 = true ∧ g_fit false 18 = true ∧ g_fit false 19 = true ∧ g_fit false 20 = true ∧ g_fit false 21 = true ∧ g_fit false 22 = false ∧ g_fit false 23 = false := by decide
theorem g_nmW {a : Nat → Int32} {f t : Nat} {w : List Int32} (h : ∀ i, i < 24 → g_is a f t (g_tx i) = decide (w = g_tx i)) : g_nmF a f t false 24 0 = g_sd.getD (g_mr w 20 0) 23 := by
  obtain ⟨f0, f1, f2, f3, f4, f5, f6, f7, f8, f9, f10, f11, f12, f13, f14, f15, f16, f17, f18, f19, f20, f21, f22, f23⟩ := g_fitF
  simp only [g_nmF, Nat.zero_add, Nat.reduceAdd, f0, f1, f2, f3, f4, f5, f6, f7, f8, f9, f10, f11, f12, f13, f14, f15, f16, f17, f18, f19, f20, f21, f22, f23, Bool.true_and, Bool.false_and, h 0 (by decide), h 1 (by decide), h 2 (by decide), h 5 (by decide), h 6 (by decide), h 7 (by decide), h 8 (by decide), h 9 (by decide), h 10 (by decide), h 11 (by decide), h 12 (by decide), h 13 (by decide), h 14 (by decide), h 15 (by decide), h 16 (by decide), h 17 (by decide), h 18 (by decide), h 19 (by decide), h 20 (by decide), h 21 (by decide), cond_false]
  have hs : ∀ m k, k + m = 20 → g_sd.getD (g_mr w m k) 23 = match m with
      | 0 => 23
      | m + 1 => bif decide (w = g_tx (g_sd.getD k 23)) then g_sd.getD k 23 else g_sd.getD (g_mr w m (k + 1)) 23 := by
    intro m k hk
    cases m with
    | zero => obtain rfl : k = 20 := by omega
              rfl
    | succ m =>
      rw [g_mr]
      cases decide (w = g_tx (g_sd.getD k 23)) <;> rfl
  rw [hs 20 0 rfl]; show _ = bif decide (w = g_tx 0) then 0 else _
  congr 1; rw [hs 19 1 rfl]; show _ = bif decide (w = g_tx 1) then 1 else _
  congr 1; rw [hs 18 2 rfl]; show _ = bif decide (w = g_tx 2) then 2 else _
  congr 1; rw [hs 17 3 rfl]; show _ = bif decide (w = g_tx 5) then 5 else _
  congr 1; rw [hs 16 4 rfl]; show _ = bif decide (w = g_tx 6) then 6 else _
  congr 1; rw [hs 15 5 rfl]; show _ = bif decide (w = g_tx 7) then 7 else _
  congr 1; rw [hs 14 6 rfl]; show _ = bif decide (w = g_tx 8) then 8 else _
  congr 1; rw [hs 13 7 rfl]; show _ = bif decide (w = g_tx 9) then 9 else _
  congr 1; rw [hs 12 8 rfl]; show _ = bif decide (w = g_tx 10) then 10 else _
  congr 1; rw [hs 11 9 rfl]; show _ = bif decide (w = g_tx 11) then 11 else _
  congr 1; rw [hs 10 10 rfl]; show _ = bif decide (w = g_tx 12) then 12 else _
  congr 1; rw [hs 9 11 rfl]; show _ = bif decide (w = g_tx 13) then 13 else _
  congr 1; rw [hs 8 12 rfl]; show _ = bif decide (w = g_tx 14) then 14 else _
  congr 1; rw [hs 7 13 rfl]; show _ = bif decide (w = g_tx 15) then 15 else _
  congr 1; rw [hs 6 14 rfl]; show _ = bif decide (w = g_tx 16) then 16 else _
  congr 1; rw [hs 5 15 rfl]; show _ = bif decide (w = g_tx 17) then 17 else _
  congr 1; rw [hs 4 16 rfl]; show _ = bif decide (w = g_tx 18) then 18 else _
  congr 1; rw [hs 3 17 rfl]; show _ = bif decide (w = g_tx 19) then 19 else _
  congr 1; rw [hs 2 18 rfl]; show _ = bif decide (w = g_tx 20) then 20 else _
  congr 1; rw [hs 1 19 rfl]; show _ = bif decide (w = g_tx 21) then 21 else _
  congr 1
/-- the operator between two terms -/
theorem g_opW {u : Nat → Nat} {N p : Nat} (hu : ∀ i, u i < 256) (hp : p ≤ N) (h : g_ky (g_at u N) N p = 3) : g_op (g_at u N) N p = g_sd.getD (g_mr (g_ut u (g_fr (g_at u N) N p) (g_to (g_at u N) N p)) 20 0) 23 := by
  have hs := (g_sgk _ (g_kyL (u := u) hp)).2.1.mpr h
  have e : g_op (g_at u N) N p = g_nmF (g_at u N) (g_fr (g_at u N) N p) (g_to (g_at u N) N p) false 24 0 := by
    unfold g_op g_inf g_nm; rw [hs]; rfl
  rw [e]
  exact g_nmW fun i hi => g_isW hu hp h (g_txC i hi)
theorem g_fitG : ∀ i, i < 24 → (g_fit true i = true ↔ i = 4 ∨ i = 22) := by decide
theorem g_nmP {a : Nat → Int32} {f t : Nat} {w : List Int32} (h : ∀ i, i < 24 → g_is a f t (g_tx i) = decide (w = g_tx i)) : ∀ m i, i + m = 24 → g_nmF a f t true m i = bif decide (i ≤ 4) && decide (w = g_tx 4) then 4 else bif decide (i ≤ 22) && decide (w = g_tx 22) then 22 else 23
  | 0, i, hi => by
    rw [g_nmF, decide_eq_false (show ¬ i ≤ 4 by omega), decide_eq_false (show ¬ i ≤ 22 by omega)]; rfl
  | m + 1, i, hi => by
    rw [g_nmF, g_nmP h m (i + 1) (by omega), h i (by omega)]
    have hf := g_fitG i (by omega)
    by_cases h4 : i = 4
    · subst h4
      rw [hf.mpr (Or.inl rfl)]
      cases decide (w = g_tx 4) <;> rfl
    · by_cases h22 : i = 22
      · subst h22
        rw [hf.mpr (Or.inr rfl)]
        cases decide (w = g_tx 22) <;> rfl
      · have : g_fit true i = false := by
          cases hq : g_fit true i with
          | false => rfl
          | true => have := hf.mp hq; omega
        rw [this, Bool.false_and]
        show (bif decide (i + 1 ≤ 4) && _ then 4 else bif decide (i + 1 ≤ 22) && _ then 22 else 23) = _
        rw [show decide (i + 1 ≤ 4) = decide (i ≤ 4) from decide_eq_decide.mpr ⟨fun q => by omega, fun q => by omega⟩, show decide (i + 1 ≤ 22) = decide (i ≤ 22) from decide_eq_decide.mpr ⟨fun q => by omega, fun q => by omega⟩]
/-- the operator before a term -/
theorem g_pxW {u : Nat → Nat} {N p : Nat} (hu : ∀ i, u i < 256) (hp : p ≤ N) (h : g_ky (g_at u N) N p = 3) : g_px (g_at u N) N p = bif decide (g_ut u (g_fr (g_at u N) N p) (g_to (g_at u N) N p) = g_tx 4) then 4 else bif decide (g_ut u (g_fr (g_at u N) N p) (g_to (g_at u N) N p) = g_tx 22) then 22 else 23 := by
  have hs := (g_sgk _ (g_kyL (u := u) hp)).2.1.mpr h
  have e : g_px (g_at u N) N p = g_nmF (g_at u N) (g_fr (g_at u N) N p) (g_to (g_at u N) N p) true 24 0 := by
    unfold g_px g_nm; rw [hs]; rfl
  rw [e, g_nmP (fun i hi => g_isW hu hp h (g_txC i hi)) 24 0 rfl]
  rfl
/-! the names of the reference: texts, the newest first -/
def g_nt : List (List Int32) → Nat → Option (List Int32)
  | [], _ => none
  | w :: T, k => if k = T.length then some w else g_nt T k
def g_tot : List (List Int32) → Nat
  | [] => 0
  | w :: T => g_tot T + w.length
def g_of : List (List Int32) → Nat → Nat
  | [], _ => 0
  | w :: T, k => if k = T.length + 1 then g_tot T + w.length else g_of T k
def g_ix (w : List Int32) : List (List Int32) → Option Nat
  | [] => none
  | v :: T => if v = w then some T.length else g_ix w T
def g_cl (H : List Int32 → Nat) (h : Nat) : List (List Int32) → List Nat
  | [] => []
  | w :: T => if H w = h then T.length :: g_cl H h T else g_cl H h T
def g_ch (nx : Nat → Int32) : Int32 → List Nat → Prop
  | x, [] => x = -1
  | x, k :: l => x = nI k ∧ g_ch nx (nx k) l
def g_fd (T : List (List Int32)) (w : List Int32) : List Nat → Option Nat
  | [] => none
  | k :: l => if g_nt T k = some w then some k else g_fd T w l
theorem g_ntL : ∀ (T : List (List Int32)) (k : Nat) (w : List Int32), g_nt T k = some w → k < T.length
  | [], k, w, h => by cases h
  | v :: T, k, w, h => by
    rw [g_nt] at h
    by_cases q : k = T.length
    · rw [q]; exact Nat.lt_succ_self _
    · rw [if_neg q] at h
      have := g_ntL T k w h
      rw [List.length_cons]; omega
theorem g_ntS : ∀ (T : List (List Int32)) (k : Nat), k < T.length → ∃ w, g_nt T k = some w
  | [], k, h => by cases h
  | v :: T, k, h => by
    rw [g_nt]
    by_cases q : k = T.length
    · exact ⟨v, by rw [if_pos q]⟩
    · rw [if_neg q]
      exact g_ntS T k (by rw [List.length_cons] at h; omega)
theorem g_ntC {T : List (List Int32)} {k : Nat} {v : List Int32} (h : k < T.length) : g_nt (v :: T) k = g_nt T k := by
  rw [g_nt, if_neg (by omega)]
theorem g_ixS {w : List Int32} : ∀ (T : List (List Int32)) (k : Nat), g_ix w T = some k → g_nt T k = some w
  | [], k, h => by cases h
  | v :: T, k, h => by
    rw [g_ix] at h
    by_cases q : v = w
    · rw [if_pos q] at h
      cases h
      rw [g_nt, if_pos rfl, q]
    · rw [if_neg q] at h
      have h1 := g_ixS T k h
      rw [g_ntC (g_ntL T k w h1)]
      exact h1
theorem g_ixN {w : List Int32} : ∀ (T : List (List Int32)), g_ix w T = none → ∀ k, ¬ g_nt T k = some w
  | [], _, k => fun q => by cases q
  | v :: T, h, k => by
    rw [g_ix] at h
    by_cases q : v = w
    · rw [if_pos q] at h; cases h
    · rw [if_neg q] at h
      rw [g_nt]
      by_cases e : k = T.length
      · rw [if_pos e]; exact fun z => q (by injection z)
      · rw [if_neg e]; exact g_ixN T h k
theorem g_clL {H : List Int32 → Nat} {h : Nat} : ∀ (T : List (List Int32)) (k : Nat), k ∈ g_cl H h T → k < T.length
  | [], k, q => by cases q
  | v :: T, k, q => by
    rw [g_cl] at q
    rw [List.length_cons]
    by_cases e : H v = h
    · rw [if_pos e] at q
      rcases List.mem_cons.mp q with z | z
      · omega
      · have := g_clL T k z; omega
    · rw [if_neg e] at q
      have := g_clL T k q; omega
theorem g_fdC {T : List (List Int32)} {w v : List Int32} : ∀ l : List Nat, (∀ k ∈ l, k < T.length) → g_fd (v :: T) w l = g_fd T w l
  | [], _ => rfl
  | k :: l, h => by
    rw [g_fd, g_fd, g_ntC (h k List.mem_cons_self), g_fdC l (fun j hj => h j (List.mem_cons_of_mem _ hj))]
theorem g_fdX {H : List Int32 → Nat} {w : List Int32} : ∀ T : List (List Int32), g_fd T w (g_cl H (H w) T) = g_ix w T
  | [] => rfl
  | v :: T => by
    rw [g_cl, g_ix]
    by_cases e : H v = H w
    · rw [if_pos e, g_fd]
      by_cases q : v = w
      · rw [if_pos (by rw [g_nt, if_pos rfl, q]), if_pos q]
      · rw [if_neg (by rw [g_nt, if_pos rfl]; exact fun z => q (by injection z)), if_neg q, g_fdC _ (g_clL T), g_fdX T]
    · rw [if_neg e, if_neg (fun q => e (by rw [q])), g_fdC _ (g_clL T), g_fdX T]
theorem g_ofL : ∀ T : List (List Int32), g_of T T.length = g_tot T
  | [] => rfl
  | w :: T => by rw [g_of, List.length_cons, if_pos rfl, g_tot]
theorem g_ofC {T : List (List Int32)} {k : Nat} {v : List Int32} (h : k ≤ T.length) : g_of (v :: T) k = g_of T k := by rw [g_of, if_neg (by omega)]
theorem g_ofN : ∀ (T : List (List Int32)) (k : Nat) (w : List Int32), g_nt T k = some w → g_of T (k + 1) = g_of T k + w.length
  | [], k, w, h => by cases h
  | v :: T, k, w, h => by
    have hk := g_ntL _ _ _ h
    rw [List.length_cons] at hk
    by_cases e : k = T.length
    · rw [g_nt, if_pos e] at h
      cases h
      rw [g_of, if_pos (by omega), g_ofC (by omega), e, g_ofL]
    · rw [g_ntC (by omega)] at h
      rw [g_ofC (by omega), g_ofC (by omega)]
      exact g_ofN T k w h
theorem g_ofM : ∀ (T : List (List Int32)) (k : Nat) (w : List Int32), g_nt T k = some w → g_of T k + w.length ≤ g_tot T
  | [], k, w, h => by cases h
  | v :: T, k, w, h => by
    have hk := g_ntL _ _ _ h
    rw [List.length_cons] at hk
    rw [g_tot]
    by_cases e : k = T.length
    · rw [g_nt, if_pos e] at h
      cases h
      rw [g_ofC (by omega), e, g_ofL]
      exact Nat.le_refl _
    · rw [g_ntC (by omega)] at h
      rw [g_ofC (by omega)]
      have := g_ofM T k w h
      omega
/-- the rows hold these names -/
def g_NA (H : List Int32 → Nat) (T : List (List Int32)) (tx fr nx fs : Nat → Int32) : Prop :=
  (∀ k, k ≤ T.length → fr k = nI (g_of T k)) ∧ (∀ k w, g_nt T k = some w → ∀ i (h : i < w.length), tx (g_of T k + i) = w[i]) ∧ (∀ h, h < 1024 → g_ch nx (fs h) (g_cl H h T))
theorem g_chU {nx : Nat → Int32} {n : Nat} {v : Int32} : ∀ (l : List Nat) (x : Int32), (∀ k ∈ l, k < n) → g_ch nx x l → g_ch (upd nx n v) x l
  | [], x, _, h => h
  | k :: l, x, hl, h => by
    refine ⟨h.1, ?_⟩
    rw [g_updN (by have := hl k List.mem_cons_self; omega)]
    exact g_chU l _ (fun j hj => hl j (List.mem_cons_of_mem _ hj)) h.2
/-- a name more -/
theorem g_NAs {H : List Int32 → Nat} (_hH : ∀ w, H w < 1024) {T : List (List Int32)} {tx tx' fr nx fs : Nat → Int32} {w : List Int32} (h : g_NA H T tx fr nx fs) (h1 : ∀ i, i < g_tot T → tx' i = tx i) (h2 : ∀ i (hi : i < w.length), tx' (g_tot T + i) = w[i]) : g_NA H (w :: T) tx' (upd fr (T.length + 1) (nI (g_tot T + w.length))) (upd nx T.length (fs (H w))) (upd fs (H w) (nI T.length)) := by
  obtain ⟨a1, a2, a3⟩ := h
  refine ⟨fun k hk => ?_, fun k v hv i hi => ?_, fun j hj => ?_⟩
  · rw [List.length_cons] at hk
    by_cases e : k = T.length + 1
    · rw [e, g_updY, g_of, if_pos rfl]
    · rw [g_updN e, g_ofC (by omega)]
      exact a1 k (by omega)
  · have hk := g_ntL _ _ _ hv
    rw [List.length_cons] at hk
    by_cases e : k = T.length
    · rw [g_nt, if_pos e] at hv
      cases hv
      rw [g_ofC (by omega), e, g_ofL]
      exact h2 i hi
    · rw [g_ntC (by omega)] at hv
      rw [g_ofC (by omega)]
      have := g_ofM T k v hv
      rw [h1 _ (by omega)]
      exact a2 k v hv i hi
  · rw [g_cl]
    by_cases e : H w = j
    · subst e
      rw [if_pos rfl, g_updY]
      refine ⟨rfl, ?_⟩
      rw [g_updY]
      exact g_chU _ _ (g_clL T) (a3 _ hj)
    · rw [if_neg e, g_updN (fun q => e q.symm)]
      exact g_chU _ _ (g_clL T) (a3 j hj)
/-- no name twice -/
def g_nq : List (List Int32) → Prop
  | [] => True
  | w :: T => g_ix w T = none ∧ g_nq T
theorem g_nqI : ∀ (T : List (List Int32)), g_nq T → ∀ i j w, g_nt T i = some w → g_nt T j = some w → i = j
  | [], _, i, j, w, h, _ => by cases h
  | v :: T, hq, i, j, w, hi, hj => by
    rw [g_nt] at hi hj
    by_cases ei : i = T.length
    · by_cases ej : j = T.length
      · omega
      · rw [if_pos ei] at hi
        rw [if_neg ej] at hj
        cases hi
        exact absurd hj (g_ixN T hq.1 j)
    · rw [if_neg ei] at hi
      by_cases ej : j = T.length
      · rw [if_pos ej] at hj
        cases hj
        exact absurd hi (g_ixN T hq.1 i)
      · rw [if_neg ej] at hj
        exact g_nqI T hq.2 i j w hi hj
/-- the name of a text: its number, the names then -/
def g_nk (T : List (List Int32)) (w : List Int32) : Nat := (g_ix w T).getD T.length
def g_nT (T : List (List Int32)) (w : List Int32) : List (List Int32) := match g_ix w T with
  | some _ => T
  | none => w :: T
theorem g_nkT (T : List (List Int32)) (w : List Int32) : g_nt (g_nT T w) (g_nk T w) = some w := by
  unfold g_nT g_nk
  cases h : g_ix w T with
  | some k => exact g_ixS T k h
  | none => show g_nt (w :: T) T.length = _; rw [g_nt, if_pos rfl]
theorem g_nTq {T : List (List Int32)} {w : List Int32} (h : g_nq T) : g_nq (g_nT T w) := by
  unfold g_nT
  cases e : g_ix w T with
  | some k => exact h
  | none => exact ⟨e, h⟩
theorem g_nTm {T : List (List Int32)} {w v : List Int32} {k : Nat} (h : g_nt T k = some v) : g_nt (g_nT T w) k = some v := by
  unfold g_nT
  cases e : g_ix w T with
  | some j => exact h
  | none => show g_nt (w :: T) k = _; rw [g_ntC (g_ntL _ _ _ h)]; exact h
/-- the names' weight: those that the reference makes by itself don't count -/
def g_sp (w : List Int32) : Bool := decide (w = [46]) || decide (w = [91, 93])
def g_wt : List (List Int32) → Nat
  | [] => 0
  | w :: T => g_wt T + bif g_sp w then 0 else w.length
def g_ct : List (List Int32) → Nat
  | [] => 0
  | w :: T => g_ct T + bif g_sp w then 0 else 1
def g_i1 (w : List Int32) (T : List (List Int32)) (n : Nat) : Nat := if g_ix w T = none then 0 else n
theorem g_wtB : ∀ T, g_nq T → g_tot T ≤ g_wt T + g_i1 [46] T 1 + g_i1 [91, 93] T 2 ∧ T.length ≤ g_ct T + g_i1 [46] T 1 + g_i1 [91, 93] T 1
  | [], _ => ⟨Nat.le_refl _, Nat.le_refl _⟩
  | w :: T, h => by
    obtain ⟨i1, i2⟩ := g_wtB T h.2
    have hm : ∀ v n, g_i1 v T n ≤ g_i1 v (w :: T) n := by
      intro v n
      unfold g_i1
      by_cases q : g_ix v T = none
      · rw [if_pos q]; exact Nat.zero_le _
      · rw [if_neg q, if_neg]
        · exact Nat.le_refl _
        · rw [g_ix]
          by_cases e : w = v
          · rw [if_pos e]; simp
          · rw [if_neg e]; exact q
    have a1 := hm [46] 1
    have a2 := hm [91, 93] 2
    have a3 := hm [91, 93] 1
    rw [g_tot, g_wt, g_ct, List.length_cons]
    by_cases e1 : w = [46]
    · subst e1
      have b1 : g_i1 [46] T 1 = 0 := by unfold g_i1; rw [if_pos h.1]
      have b2 : g_i1 [46] ([46] :: T) 1 = 1 := by unfold g_i1; rw [if_neg]; rw [g_ix, if_pos rfl]; simp
      have b3 : (bif g_sp [46] then 0 else ([46] : List Int32).length) = 0 := by decide
      have b4 : (bif g_sp [46] then 0 else 1) = 0 := by decide
      have b5 : ([46] : List Int32).length = 1 := rfl
      omega
    · by_cases e2 : w = [91, 93]
      · subst e2
        have b1 : g_i1 [91, 93] T 2 = 0 := by unfold g_i1; rw [if_pos h.1]
        have b1' : g_i1 [91, 93] T 1 = 0 := by unfold g_i1; rw [if_pos h.1]
        have b2 : g_i1 [91, 93] ([91, 93] :: T) 2 = 2 := by unfold g_i1; rw [if_neg]; rw [g_ix, if_pos rfl]; simp
        have b2' : g_i1 [91, 93] ([91, 93] :: T) 1 = 1 := by unfold g_i1; rw [if_neg]; rw [g_ix, if_pos rfl]; simp
        have b3 : (bif g_sp [91, 93] then 0 else ([91, 93] : List Int32).length) = 0 := by decide
        have b4 : (bif g_sp [91, 93] then 0 else 1) = 0 := by decide
        have b5 : ([91, 93] : List Int32).length = 2 := rfl
        omega
      · have b3 : g_sp w = false := by unfold g_sp; rw [decide_eq_false e1, decide_eq_false e2]; rfl
        rw [b3]
        show g_tot T + w.length ≤ g_wt T + w.length + _ + _ ∧ T.length + 1 ≤ g_ct T + 1 + _ + _
        omega
theorem g_wtC {T : List (List Int32)} (h : g_nq T) : g_tot T ≤ g_wt T + 3 ∧ T.length ≤ g_ct T + 2 := by
  have := g_wtB T h
  have h1 : ∀ w n, g_i1 w T n ≤ n := fun w n => by unfold g_i1; split <;> omega
  have := h1 [46] 1
  have := h1 [91, 93] 2
  have := h1 [91, 93] 1
  omega
theorem g_wtN {T : List (List Int32)} {w : List Int32} : g_wt (g_nT T w) ≤ g_wt T + w.length ∧ g_ct (g_nT T w) ≤ g_ct T + 1 := by
  unfold g_nT
  cases g_ix w T with
  | some k => exact ⟨Nat.le_add_right _ _, Nat.le_add_right _ _⟩
  | none =>
    show g_wt T + (bif g_sp w then 0 else w.length) ≤ _ ∧ g_ct T + (bif g_sp w then 0 else 1) ≤ _
    cases g_sp w with
    | true => exact ⟨Nat.add_le_add_left (Nat.zero_le _) _, Nat.add_le_add_left (Nat.zero_le _) _⟩
    | false => exact ⟨Nat.le_refl _, Nat.le_refl _⟩
theorem g_wtS {T : List (List Int32)} {w : List Int32} (hw : g_sp w = true) : g_wt (g_nT T w) = g_wt T ∧ g_ct (g_nT T w) = g_ct T := by
  unfold g_nT
  cases g_ix w T with
  | some k => exact ⟨rfl, rfl⟩
  | none =>
    show g_wt T + (bif g_sp w then 0 else w.length) = _ ∧ g_ct T + (bif g_sp w then 0 else 1) = _
    rw [hw]; exact ⟨rfl, rfl⟩
/-! the terms of the reference: rows kind, name, first, many, part; numbers -/
def g_nmd1 (T : List (List Int32)) (x : Int32) (w : List Int32) : Prop := ∃ k, k < 9000 ∧ x = nI k ∧ g_nt T k = some w
def g_mR (u : Nat → Nat) (N : Nat) (T : List (List Int32)) (B : Nat → Nat → Int32) (Nm : Nat → Int64) (L : Nat) (kids : Std.Format) (r : Nat) : Prop :=
  (L % 8 = 0 ∧ B 0 r = 0 ∧ B 1 r = nI (g_fR L) ∧ B 3 r = 0) ∨
  (L % 8 = 1 ∧ B 0 r = 1 ∧ B 3 r = 0 ∧ ∃ p, p ≤ N ∧ g_ky (g_at u N) N p = 2 ∧ g_fR L = g_fr (g_at u N) N p ∧ g_tO L = g_to (g_at u N) N p ∧ Nm r = lN (g_iv u N p)) ∨
  (L % 8 = 2 ∧ B 0 r = 1 ∧ B 3 r = 0 ∧ ∃ p, p ≤ N ∧ g_ky (g_at u N) N p = 2 ∧ g_fR L = g_fr (g_at u N) N p ∧ g_tO L = g_to (g_at u N) N p ∧ Nm r = -lN (g_iv u N p)) ∨
  (L % 8 = 3 ∧ B 0 r = 2 ∧ g_nmd1 T (B 1 r) (g_ut u (g_fR L) (g_tO L)) ∧ B 3 r = nI (g_ln kids)) ∨
  (L % 8 = 4 ∧ B 0 r = 2 ∧ g_nmd1 T (B 1 r) [46] ∧ B 3 r = 2) ∨ (L % 8 = 5 ∧ B 0 r = 2 ∧ g_nmd1 T (B 1 r) [91, 93] ∧ B 3 r = 0)
/-- this forest stands in the parts from j on; rows below z, parts below q -/
def g_mF (u : Nat → Nat) (N : Nat) (T : List (List Int32)) (B : Nat → Nat → Int32) (Nm : Nat → Int64) (z q : Nat) : Std.Format → Nat → Prop
  | .append (.tag L kids) rest, j => ∃ r, j < q ∧ B 4 j = nI r ∧ r < z ∧ g_mR u N T B Nm L kids r ∧ (∃ f, (0 < g_sz kids → B 2 r = nI f) ∧ g_mF u N T B Nm z q kids f) ∧ g_mF u N T B Nm z q rest (j + 1)
  | _, _ => True
/-- this term is row r -/
def g_mT (u : Nat → Nat) (N : Nat) (T : List (List Int32)) (B : Nat → Nat → Int32) (Nm : Nat → Int64) (z q : Nat) (t : Nat × Std.Format) (r : Nat) : Prop := r < z ∧ g_mR u N T B Nm t.1 t.2 r ∧ ∃ f, (0 < g_sz t.2 → B 2 r = nI f) ∧ g_mF u N T B Nm z q t.2 f
theorem g_mR_mv {u : Nat → Nat} {N : Nat} {T T' : List (List Int32)} {B B' : Nat → Nat → Int32} {Nm Nm' : Nat → Int64} {L r : Nat} {kids : Std.Format} (hT : ∀ k w, g_nt T k = some w → g_nt T' k = some w) (hB : ∀ i, i ≤ 3 → B' i r = B i r) (hN : Nm' r = Nm r) (h : g_mR u N T B Nm L kids r) : g_mR u N T' B' Nm' L kids r := by
  unfold g_mR at h ⊢
  rw [hB 0 (by decide), hB 1 (by decide), hB 3 (by decide), hN]
  have hn : ∀ x w, g_nmd1 T x w → g_nmd1 T' x w := fun x w ⟨k, a, b, c⟩ => ⟨k, a, b, hT k w c⟩
  rcases h with h | h | h | ⟨a, b, c, d⟩ | ⟨a, b, c, d⟩ | ⟨a, b, c, d⟩
  · exact Or.inl h
  · exact Or.inr (Or.inl h)
  · exact Or.inr (Or.inr (Or.inl h))
  · exact Or.inr (Or.inr (Or.inr (Or.inl ⟨a, b, hn _ _ c, d⟩)))
  · exact Or.inr (Or.inr (Or.inr (Or.inr (Or.inl ⟨a, b, hn _ _ c, d⟩))))
  · exact Or.inr (Or.inr (Or.inr (Or.inr (Or.inr ⟨a, b, hn _ _ c, d⟩))))
/-- nothing that stands is changed -/
def g_mE (T T' : List (List Int32)) (B B' : Nat → Nat → Int32) (Nm Nm' : Nat → Int64) (z q z' q' : Nat) : Prop := z ≤ z' ∧ q ≤ q' ∧ (∀ k w, g_nt T k = some w → g_nt T' k = some w) ∧ (∀ r, r < z → (∀ i, i ≤ 3 → B' i r = B i r) ∧ Nm' r = Nm r) ∧ (∀ j, j < q → B' 4 j = B 4 j)
theorem g_mE0 {T : List (List Int32)} {B : Nat → Nat → Int32} {Nm : Nat → Int64} {z q : Nat} : g_mE T T B B Nm Nm z q z q := ⟨Nat.le_refl _, Nat.le_refl _, fun _ _ h => h, fun _ _ => ⟨fun _ _ => rfl, rfl⟩, fun _ _ => rfl⟩
theorem g_mEt {T T1 T2 : List (List Int32)} {B B1 B2 : Nat → Nat → Int32} {Nm Nm1 Nm2 : Nat → Int64} {z q z1 q1 z2 q2 : Nat} (h : g_mE T T1 B B1 Nm Nm1 z q z1 q1) (g : g_mE T1 T2 B1 B2 Nm1 Nm2 z1 q1 z2 q2) : g_mE T T2 B B2 Nm Nm2 z q z2 q2 :=
  ⟨Nat.le_trans h.1 g.1, Nat.le_trans h.2.1 g.2.1, fun k w e => g.2.2.1 k w (h.2.2.1 k w e), fun r hr => ⟨fun i hi => ((g.2.2.2.1 r (Nat.lt_of_lt_of_le hr h.1)).1 i hi).trans ((h.2.2.2.1 r hr).1 i hi), ((g.2.2.2.1 r (Nat.lt_of_lt_of_le hr h.1)).2).trans (h.2.2.2.1 r hr).2⟩, fun j hj => (g.2.2.2.2 j (Nat.lt_of_lt_of_le hj h.2.1)).trans (h.2.2.2.2 j hj)⟩
theorem g_mF_mv {u : Nat → Nat} {N : Nat} {T T' : List (List Int32)} {B B' : Nat → Nat → Int32} {Nm Nm' : Nat → Int64} {z q z' q' : Nat} (hE : g_mE T T' B B' Nm Nm' z q z' q') : ∀ F, g_wf u N F → ∀ j, g_mF u N T B Nm z q F j → g_mF u N T' B' Nm' z' q' F j := by
  refine g_find (fun j h => trivial) (fun L kids rest _ _ _ ih1 ih2 j h => ?_)
  obtain ⟨r, h1, h2, h3, h4, ⟨f, h5, h6⟩, h7⟩ := h
  obtain ⟨e1, e2, e3, e4, e5⟩ := hE
  exact ⟨r, by omega, (e5 j h1).trans h2, by omega, g_mR_mv e3 (e4 r h3).1 (e4 r h3).2 h4, ⟨f, fun hk => ((e4 r h3).1 2 (by decide)).trans (h5 hk), ih1 f h6⟩, ih2 (j + 1) h7⟩
theorem g_mT_mv {u : Nat → Nat} {N : Nat} {T T' : List (List Int32)} {B B' : Nat → Nat → Int32} {Nm Nm' : Nat → Int64} {z q z' q' : Nat} (hE : g_mE T T' B B' Nm Nm' z q z' q') {t : Nat × Std.Format} (hw : g_wf u N t.2) {r : Nat} (h : g_mT u N T B Nm z q t r) : g_mT u N T' B' Nm' z' q' t r := by
  obtain ⟨h1, h2, f, h3, h4⟩ := h
  have hE' := hE
  obtain ⟨e1, e2, e3, e4, e5⟩ := hE
  exact ⟨by omega, g_mR_mv e3 (e4 r h1).1 (e4 r h1).2 h2, f, fun hk => ((e4 r h1).1 2 (by decide)).trans (h3 hk), g_mF_mv hE' _ hw f h4⟩
