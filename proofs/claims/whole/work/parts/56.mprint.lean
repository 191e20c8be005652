/-! the reference's print: steps, and a forest's -/
abbrev g_MpT : Type := Nat → List Int32 → Nat → (Nat → Int32) → (Nat → Int32) → Prop
def g_pa (T : List (List Int32)) (B : Nat → Nat → Int32) (r : Nat) : Prop := B 0 r = 2 ∧ B 3 r = 2 ∧ g_nmd1 T (B 1 r) [46]
/-- a text is of bytes -/
def g_by (w : List Int32) : Prop := ∀ c ∈ w, ∃ x, x < 256 ∧ c = g_sb x
theorem g_uqM1 : ∀ (l : List Int32) (c : Int32), c ∈ g_uq l → c ∈ l
  | [], c, h => h
  | [a], c, h => h
  | a :: b :: l, c, h => by
    rw [g_uq] at h
    by_cases q : a = 39 ∧ b = 39
    · rw [if_pos q] at h
      rcases List.mem_cons.mp h with e | e
      · rw [e, q.1]; exact List.mem_cons_self
      · exact List.mem_cons_of_mem _ (List.mem_cons_of_mem _ (g_uqM1 l c e))
    · rw [if_neg q] at h
      rcases List.mem_cons.mp h with e | e
      · rw [e]; exact List.mem_cons_self
      · exact List.mem_cons_of_mem _ (g_uqM1 (b :: l) c e)
theorem g_utY {u : Nat → Nat} (hu : ∀ i, u i < 256) (f t : Nat) : g_by (g_ut u f t) := by
  intro c hc
  obtain ⟨k, -, rfl⟩ := g_tpM _ _ (g_uqM1 _ c hc)
  exact ⟨_, hu _, rfl⟩
theorem g_by0 : g_by [91, 93] := by
  intro c hc
  rcases List.mem_cons.mp hc with rfl | hc
  · exact ⟨91, by decide, by decide⟩
  · rw [List.mem_singleton.mp hc]; exact ⟨93, by decide, by decide⟩
/-- a name with mm terms, no pair -/
def g_na (T : List (List Int32)) (B : Nat → Nat → Int32) (r mm : Nat) (w : List Int32) : Prop := B 0 r = 2 ∧ B 3 r = nI mm ∧ g_nmd1 T (B 1 r) w ∧ ¬ (mm = 2 ∧ w = [46]) ∧ mm < 9000 ∧ g_by w
def g_M1 (T : List (List Int32)) (B : Nat → Nat → Int32) (Lp : g_MpT) : Prop := ∀ (tp : Nat) (S : List Int32) (n : Nat) (Wk Nx : Nat → Int32) (r f x : Nat), tp + 1 < 9000 → S.length ≤ 4096 → r < 9000 → f < 9000 → x < 9000 → Wk tp = nI r → Nx tp = 0 → g_pa T B r → B 2 r = nI f → B 4 f = nI x → Lp (tp + 1 + 1) (S ++ [91]) n (upd Wk (tp + 1) (nI x)) (upd (upd Nx tp 1) (tp + 1) 0) → Lp (tp + 1) S n Wk Nx
def g_M2 (T : List (List Int32)) (B : Nat → Nat → Int32) (Lp : g_MpT) : Prop := ∀ (tp : Nat) (S : List Int32) (n : Nat) (Wk Nx : Nat → Int32) (r : Nat) (w : List Int32), tp + 1 < 9000 → S.length ≤ 4096 → r < 9000 → Wk tp = nI r → Nx tp = 0 → g_na T B r 0 w → Lp tp (S ++ g_mnS w) n Wk Nx → Lp (tp + 1) S n Wk Nx
def g_M3 (T : List (List Int32)) (B : Nat → Nat → Int32) (Lp : g_MpT) : Prop := ∀ (tp : Nat) (S : List Int32) (n : Nat) (Wk Nx : Nat → Int32) (r mm f x : Nat) (w : List Int32), tp + 1 < 9000 → S.length ≤ 4096 → r < 9000 → f < 9000 → x < 9000 → Wk tp = nI r → Nx tp = 0 → g_na T B r mm w → 0 < mm → B 2 r = nI f → B 4 f = nI x → Lp (tp + 1 + 1) (S ++ (g_mnS w ++ [40])) n (upd Wk (tp + 1) (nI x)) (upd (upd Nx tp 1) (tp + 1) 0) → Lp (tp + 1) S n Wk Nx
def g_M4 (B : Nat → Nat → Int32) (Lp : g_MpT) : Prop := ∀ (tp : Nat) (S : List Int32) (n : Nat) (Wk Nx : Nat → Int32) (r v : Nat), tp + 1 < 9000 → S.length ≤ 4096 → r < 9000 → n < 4200 → v ≤ n → Wk tp = nI r → B 0 r = 0 → B 1 r = nI v → Lp tp (S ++ 95 :: g_dec v) (max n (v + 1)) Wk Nx → Lp (tp + 1) S n Wk Nx
def g_M5 (B : Nat → Nat → Int32) (Nm : Nat → Int64) (Lp : g_MpT) : Prop := ∀ (tp : Nat) (S : List Int32) (n : Nat) (Wk Nx : Nat → Int32) (r v : Nat), tp + 1 < 9000 → S.length ≤ 4096 → r < 9000 → v < 9007199254740992 → Wk tp = nI r → B 0 r = 1 → Nm r = lN v → Lp tp (S ++ g_dec v) n Wk Nx → Lp (tp + 1) S n Wk Nx
def g_M5n (B : Nat → Nat → Int32) (Nm : Nat → Int64) (Lp : g_MpT) : Prop := ∀ (tp : Nat) (S : List Int32) (n : Nat) (Wk Nx : Nat → Int32) (r v : Nat), tp + 1 < 9000 → S.length ≤ 4096 → r < 9000 → v < 9007199254740992 → Wk tp = nI r → B 0 r = 1 → Nm r = -lN v → Lp tp (S ++ ((if 0 < v then [45] else []) ++ g_dec v)) n Wk Nx → Lp (tp + 1) S n Wk Nx
def g_M6 (T : List (List Int32)) (B : Nat → Nat → Int32) (Lp : g_MpT) : Prop := ∀ (tp : Nat) (S : List Int32) (n : Nat) (Wk Nx : Nat → Int32) (r mm : Nat) (w : List Int32), tp + 1 < 9000 → S.length ≤ 4096 → r < 9000 → Wk tp = nI r → Nx tp = nI mm → 0 < mm → g_na T B r mm w → Lp tp (S ++ [41]) n Wk Nx → Lp (tp + 1) S n Wk Nx
def g_M7 (T : List (List Int32)) (B : Nat → Nat → Int32) (Lp : g_MpT) : Prop := ∀ (tp : Nat) (S : List Int32) (n : Nat) (Wk Nx : Nat → Int32) (r mm i f x : Nat) (w : List Int32), tp + 1 < 9000 → S.length ≤ 4096 → r < 9000 → f + i < 9000 → x < 9000 → Wk tp = nI r → Nx tp = nI i → 0 < i → i < mm → g_na T B r mm w → B 2 r = nI f → B 4 (f + i) = nI x → Lp (tp + 1 + 1) (S ++ [44]) n (upd Wk (tp + 1) (nI x)) (upd (upd Nx tp (nI (i + 1))) (tp + 1) 0) → Lp (tp + 1) S n Wk Nx
def g_M8 (T : List (List Int32)) (B : Nat → Nat → Int32) (Lp : g_MpT) : Prop := ∀ (tp : Nat) (S : List Int32) (n : Nat) (Wk Nx : Nat → Int32) (r f x : Nat), tp + 1 < 9000 → S.length ≤ 4096 → r < 9000 → f < 9000 → x < 9000 → Wk tp = nI r → Nx tp = 2 → g_pa T B r → B 2 r = nI f → B 4 f = nI x → Lp (tp + 1 + 1) S n (upd Wk (tp + 1) (nI x)) (upd (upd Nx tp 3) (tp + 1) 0) → Lp (tp + 1) S n Wk Nx
def g_M9 (T : List (List Int32)) (B : Nat → Nat → Int32) (Lp : g_MpT) : Prop := ∀ (tp : Nat) (S : List Int32) (n : Nat) (Wk Nx : Nat → Int32) (r f x : Nat), tp + 1 < 9000 → S.length ≤ 4096 → r < 9000 → f + 1 < 9000 → x < 9000 → Wk tp = nI r → (Nx tp = 1 ∨ Nx tp = 3) → g_pa T B r → B 2 r = nI f → B 4 (f + 1) = nI x → g_pa T B x → Lp (tp + 1) (S ++ [44]) n (upd Wk tp (nI x)) (upd Nx tp 2) → Lp (tp + 1) S n Wk Nx
def g_M10 (T : List (List Int32)) (B : Nat → Nat → Int32) (Lp : g_MpT) : Prop := ∀ (tp : Nat) (S : List Int32) (n : Nat) (Wk Nx : Nat → Int32) (r f x : Nat), tp + 1 < 9000 → S.length ≤ 4096 → r < 9000 → f + 1 < 9000 → x < 9000 → Wk tp = nI r → (Nx tp = 1 ∨ Nx tp = 3) → g_pa T B r → B 2 r = nI f → B 4 (f + 1) = nI x → B 0 x = 2 → B 3 x = 0 → g_nmd1 T (B 1 x) [91, 93] → Lp tp (S ++ [93]) n Wk Nx → Lp (tp + 1) S n Wk Nx
/-- neither a pair nor the empty list -/
def g_ot (T : List (List Int32)) (B : Nat → Nat → Int32) (x : Nat) : Prop := B 0 x = 0 ∨ B 0 x = 1 ∨ ∃ mm w, g_na T B x mm w ∧ ¬ (mm = 0 ∧ w = [91, 93])
def g_M11 (T : List (List Int32)) (B : Nat → Nat → Int32) (Lp : g_MpT) : Prop := ∀ (tp : Nat) (S : List Int32) (n : Nat) (Wk Nx : Nat → Int32) (r f x : Nat), tp + 1 < 9000 → S.length ≤ 4096 → r < 9000 → f + 1 < 9000 → x < 9000 → Wk tp = nI r → (Nx tp = 1 ∨ Nx tp = 3) → g_pa T B r → B 2 r = nI f → B 4 (f + 1) = nI x → g_ot T B x → Lp (tp + 1 + 1) (S ++ [124]) n (upd (upd Wk tp (-2)) (tp + 1) (nI x)) (upd Nx (tp + 1) 0) → Lp (tp + 1) S n Wk Nx
def g_M12 (Lp : g_MpT) : Prop := ∀ (tp : Nat) (S : List Int32) (n : Nat) (Wk Nx : Nat → Int32), tp + 1 < 9000 → S.length ≤ 4096 → Wk tp = -2 → Lp tp (S ++ [93]) n Wk Nx → Lp (tp + 1) S n Wk Nx
def g_M13 (Z : Nat) (Lp : g_MpT) : Prop := ∀ (tp : Nat) (S : List Int32) (n : Nat) (Wk Nx : Nat → Int32), tp < 9000 → 4096 < S.length → S.length ≤ Z → Lp tp S n Wk Nx
def g_MA (u : Nat → Nat) (N Z : Nat) (T : List (List Int32)) (B : Nat → Nat → Int32) (Nm : Nat → Int64) (z q : Nat) (Lp : g_MpT) (F : Std.Format) : Prop := ∀ (tp j r x mm i f n n' : Nat) (w S : List Int32) (Wk Nx : Nat → Int32), 0 < g_sz F → g_mF u N T B Nm z q F j → g_vo F n n' → n' ≤ 1000 → B 4 j = nI r → r < 9000 → Wk tp = nI x → x < 9000 → Nx tp = nI i → 0 < i → g_na T B x mm w → mm + 1 = i + g_ln F → B 2 x = nI f → j + 1 = f + i → Wk (tp + 1) = nI r → Nx (tp + 1) = 0 → tp + 1 + g_sz F < 9000 → S.length + (g_P u F 0).length ≤ Z →
  (∀ Wk' Nx', (∀ k, k < tp → Wk' k = Wk k ∧ Nx' k = Nx k) → Lp tp (S ++ g_P u F 0) n' Wk' Nx') → Lp (tp + 1 + 1) S n Wk Nx
def g_MB (u : Nat → Nat) (N Z : Nat) (T : List (List Int32)) (B : Nat → Nat → Int32) (Nm : Nat → Int64) (z q : Nat) (Lp : g_MpT) (F : Std.Format) : Prop := ∀ (tp x mm i f n n' : Nat) (w S : List Int32) (Wk Nx : Nat → Int32), g_mF u N T B Nm z q F (f + i) → g_vo F n n' → n' ≤ 1000 → Wk tp = nI x → x < 9000 → Nx tp = nI i → 0 < i → g_na T B x mm w → mm = i + g_ln F → B 2 x = nI f → tp + 1 + g_sz F < 9000 → S.length + (g_P u F 3).length ≤ Z →
  (∀ Wk' Nx', (∀ k, k < tp → Wk' k = Wk k ∧ Nx' k = Nx k) → Lp tp (S ++ g_P u F 3) n' Wk' Nx') → Lp (tp + 1) S n Wk Nx
def g_MP (u : Nat → Nat) (N Z : Nat) (T : List (List Int32)) (B : Nat → Nat → Int32) (Nm : Nat → Int64) (z q : Nat) (Lp : g_MpT) (F : Std.Format) : Prop := ∀ (tp r x f n n' : Nat) (S : List Int32) (Wk Nx : Nat → Int32), g_ln F = 2 → g_mF u N T B Nm z q F f → g_vo F n n' → n' ≤ 1000 → B 4 f = nI r → r < 9000 → Wk tp = nI x → x < 9000 → (Nx tp = 1 ∨ Nx tp = 3) → g_pa T B x → B 2 x = nI f → Wk (tp + 1) = nI r → Nx (tp + 1) = 0 → tp + 1 + g_sz F < 9000 → S.length + (g_P u F 1).length ≤ Z →
  (∀ Wk' Nx', (∀ k, k < tp → Wk' k = Wk k ∧ Nx' k = Nx k) → Lp tp (S ++ g_P u F 1) n' Wk' Nx') → Lp (tp + 1 + 1) S n Wk Nx
def g_MT (u : Nat → Nat) (N Z : Nat) (T : List (List Int32)) (B : Nat → Nat → Int32) (Nm : Nat → Int64) (z q : Nat) (Lp : g_MpT) (F : Std.Format) : Prop := ∀ (tp x f n n' : Nat) (S : List Int32) (Wk Nx : Nat → Int32), g_ln F = 1 → g_mF u N T B Nm z q F (f + 1) → g_vo F n n' → n' ≤ 1000 → Wk tp = nI x → x < 9000 → (Nx tp = 1 ∨ Nx tp = 3) → g_pa T B x → B 2 x = nI f → tp + 1 + g_sz F < 9000 → S.length + (g_P u F 2).length ≤ Z →
  (∀ Wk' Nx', (∀ k, k < tp → Wk' k = Wk k ∧ Nx' k = Nx k) → Lp tp (S ++ g_P u F 2) n' Wk' Nx') → Lp (tp + 1) S n Wk Nx
/-- what a label with a text says of the text without its quotes -/
theorem g_lkU {u : Nat → Nat} {N L : Nat} {kids : Std.Format} (hu : ∀ i, u i < 256) (h : g_lk u N L kids) (hk : L % 8 = 3) : (g_ln kids = 2 → ¬ g_ut u (g_fR L) (g_tO L) = [46]) ∧ (kids = .nil → ¬ g_ut u (g_fR L) (g_tO L) = [91, 93]) ∧ g_nmS u (g_fR L) (g_tO L) = g_mnS (g_ut u (g_fR L) (g_tO L)) := by
  rcases h with h | ⟨h, -⟩ | ⟨-, ⟨p, hp, hky, e1, e2⟩, h2, h0⟩ | h | h
  · omega
  · omega
  · have hR : g_rq (g_ut u (g_fR L) (g_tO L)) = g_tp u (g_tO L - g_fR L) (g_fR L) := by rw [e1, e2]; exact g_utR hu (Or.inr hky)
    refine ⟨fun q z => ?_, fun q z => ?_, g_nmE hR⟩
    · have h2 := h2 q
      rcases hky with hky | hky
      · rw [e1, e2] at h2 z
        rw [g_isW hu hp hky (by decide), decide_eq_true z] at h2
        cases h2
      · obtain ⟨f1, f2, -, f4⟩ := g_tk10 hky
        rw [z, e1, e2, f1, f2] at hR
        have : p < N := g_at_nn (u := u) (fun q => by rw [f4] at q; exact absurd q (by decide))
        have h44 := g_sbE (u p) (hu p) 44 (by decide)
        rw [← g_atI this] at h44
        have h3 := h44.mp f4
        rw [show p + 1 - p = 1 by omega, g_tp, g_tp, h3] at hR
        exact absurd hR (by decide)
    · have h0 := h0 q
      rcases hky with hky | hky
      · rw [e1, e2] at h0 z
        rw [g_isW hu hp hky (by decide), decide_eq_true z] at h0
        cases h0
      · obtain ⟨f1, f2, -, f4⟩ := g_tk10 hky
        rw [z, e1, e2, f1, f2] at hR
        rw [show p + 1 - p = 1 by omega, g_tp, g_tp] at hR
        have h21 : (2 : Nat) = 1 := congrArg List.length hR
        exact absurd h21 (by decide)
  · omega
  · omega
theorem g_lnS {u : Nat → Nat} {N : Nat} : ∀ F, g_wf u N F → g_ln F ≤ g_sz F := by
  refine g_find (Nat.le_refl _) (fun L kids rest _ _ _ _ h => ?_)
  show 1 + g_ln rest ≤ 1 + g_sz kids + g_sz rest
  omega
/-- one symbol with what is inside of it: row r stands on top -/
theorem g_MSy {u : Nat → Nat} {N Z : Nat} {T : List (List Int32)} {B : Nat → Nat → Int32} {Nm : Nat → Int64} {z q : Nat} {Lp : g_MpT} (hu : ∀ i, u i < 256) (hz : z ≤ 9000) (hq : q ≤ 9000) (m1 : g_M1 T B Lp) (m2 : g_M2 T B Lp) (m3 : g_M3 T B Lp) (m4 : g_M4 B Lp) (m5 : g_M5 B Nm Lp) (m5n : g_M5n B Nm Lp) (m13 : g_M13 Z Lp) {L : Nat} {kids : Std.Format} (hl : g_lk u N L kids) (hw : g_wf u N kids) (hA : g_MA u N Z T B Nm z q Lp kids) (hP : g_MP u N Z T B Nm z q Lp kids) {tp r f n n1 n2 : Nat} {S : List Int32} {Wk Nx : Nat → Int32} (hr : r < z) (hR : g_mR u N T B Nm L kids r) (hf : 0 < g_sz kids → B 2 r = nI f) (hF : g_mF u N T B Nm z q kids f) (hv0 : (L % 8 = 0 → g_fR L ≤ n ∧ n1 = max n (g_fR L + 1)) ∧ (L % 8 ≠ 0 → n1 = n)) (hvo : g_vo kids n1 n2) (hn2 : n2 ≤ 1000) (hW : Wk tp = nI r) (hX : Nx tp = 0) (htp : tp + 1 + g_sz kids < 9000) (hS : S.length + (g_S u L (g_sz kids) (g_P u kids 0) (g_P u kids 1)).length ≤ Z)
    (K : ∀ Wk' Nx', (∀ k, k < tp → Wk' k = Wk k ∧ Nx' k = Nx k) → Lp tp (S ++ g_S u L (g_sz kids) (g_P u kids 0) (g_P u kids 1)) n2 Wk' Nx') : Lp (tp + 1) S n Wk Nx := by
  by_cases hov : S.length ≤ 4096
  case neg => exact m13 _ _ _ _ _ (by omega) (by omega) (by omega)
  have h5 := g_lk5 hl
  have hvl := g_vo_le kids hw _ _ hvo
  have hK0 := K Wk Nx (fun k _ => ⟨rfl, rfl⟩)
  have hnil : L % 8 ≠ 3 → L % 8 ≠ 4 → n2 = n1 := fun a b => by
    have e := h5.2.1 a b
    subst e
    exact hvo
  rcases hR with ⟨k0, b0, b1, b3⟩ | ⟨k1, b0, b3, p, hp, hky, e1, e2, hNm⟩ | ⟨k2, b0, b3, p, hp, hky, e1, e2, hNm⟩ | ⟨k3, b0, b1, b3⟩ | ⟨k4, b0, b1, b3⟩ | ⟨k5, b0, b1, b3⟩
  · -- a variable
    have hn := hnil (by omega) (by omega)
    have hv := hv0.1 k0
    unfold g_S g_lF at hK0
    rw [if_neg (by omega), if_neg (by omega), if_pos k0, g_numD (by omega)] at hK0
    refine m4 tp S n Wk Nx r (g_fR L) (by omega) hov (by omega) (by omega) hv.1 hW b0 b1 ?_
    rw [← hv.2, ← hn]
    exact hK0
  · have hn := hnil (by omega) (by omega)
    have hv := hv0.2 (by omega)
    unfold g_S at hK0
    rw [if_neg (by omega), if_neg (by omega), g_lF1 hu hky k1 e1 e2] at hK0
    refine m5 tp S n Wk Nx r _ (by omega) hov (by omega) (g_ivT hu hky).1 hW b0 hNm ?_
    rw [← hv, ← hn]
    exact hK0
  · have hn := hnil (by omega) (by omega)
    have hv := hv0.2 (by omega)
    unfold g_S at hK0
    rw [if_neg (by omega), if_neg (by omega), g_lF2 hu hky k2 e1 e2] at hK0
    refine m5n tp S n Wk Nx r _ (by omega) hov (by omega) (g_ivT hu hky).1 hW b0 hNm ?_
    rw [← hv, ← hn]
    exact hK0
  · -- a name
    have hU := g_lkU hu hl k3
    have hv := hv0.2 (by omega)
    subst hv
    unfold g_S at hS K
    rw [if_neg (by omega), if_pos k3, hU.2.2] at hS K
    rcases g_wfc hw with rfl | ⟨L', kids', rest', rfl, -, -, -⟩
    · have e0 : g_sz Std.Format.nil = 0 := rfl
      have hvn : n2 = n1 := hvo
      rw [if_pos e0, List.append_nil] at K
      rw [← hvn]
      exact m2 tp S n2 Wk Nx r _ (by omega) hov (by omega) hW hX ⟨b0, b3, b1, fun q => absurd q.1 (by decide), by decide, g_utY hu _ _⟩ (K Wk Nx (fun k _ => ⟨rfl, rfl⟩))
    · have hz0 : 0 < g_sz (.append (.tag L' kids') rest') := by show 0 < 1 + g_sz kids' + g_sz rest'; omega
      have hl0 : 0 < g_ln (.append (.tag L' kids') rest') := by show 0 < 1 + g_ln rest'; omega
      rw [if_neg (by omega)] at hS K
      rw [List.length_append, List.length_cons] at hS
      have hF' := hF
      obtain ⟨x, a1, a2, a3, -⟩ := hF
      have hln : g_ln (.append (.tag L' kids') rest') ≤ g_sz (.append (.tag L' kids') rest') := g_lnS _ hw
      have hna : g_na T B r (g_ln (.append (.tag L' kids') rest')) (g_ut u (g_fR L) (g_tO L)) := ⟨b0, b3, b1, fun y => hU.1 y.1 y.2, by omega, g_utY hu _ _⟩
      refine m3 tp S n1 Wk Nx r _ f x _ (by omega) hov (by omega) (by omega) (by omega) hW hX hna hl0 (hf hz0) a2 ?_
      refine hA tp f x r (g_ln (.append (.tag L' kids') rest')) 1 f n1 n2 _ _ _ _ hz0 hF' hvo hn2 a2 (by omega) (by rw [g_updN (by omega)]; exact hW) (by omega) (by rw [g_updN (by omega)]; exact g_updY) (by decide) hna (by omega) (hf hz0) rfl g_updY g_updY htp (by rw [List.length_append, List.length_append]; show S.length + ((g_mnS (g_ut u (g_fR L) (g_tO L))).length + 1) + _ ≤ Z; omega) (fun Wk' Nx' hk => ?_)
      have hk0 := K Wk' Nx' (fun k hk1 => ⟨by rw [(hk k hk1).1, g_updN (by omega)], by rw [(hk k hk1).2, g_updN (by omega), g_updN (by omega)]⟩)
      rw [List.append_assoc, List.append_assoc]
      exact hk0
  · -- a pair
    have hln := h5.2.2 k4
    have hv := hv0.2 (by omega)
    subst hv
    unfold g_S at hS K
    rw [if_pos k4] at hS K
    rw [List.length_cons] at hS
    rcases g_wfc hw with rfl | ⟨L', kids', rest', rfl, -, -, -⟩
    · cases hln
    have hz0 : 0 < g_sz (.append (.tag L' kids') rest') := by show 0 < 1 + g_sz kids' + g_sz rest'; omega
    have hF' := hF
    obtain ⟨x, a1, a2, a3, -⟩ := hF
    refine m1 tp S n1 Wk Nx r f x (by omega) hov (by omega) (by omega) (by omega) hW hX ⟨b0, b3, b1⟩ (hf hz0) a2 ?_
    refine hP tp x r f n1 n2 (S ++ [91]) _ _ hln hF' hvo hn2 a2 (by omega) (by rw [g_updN (by omega)]; exact hW) (by omega) (Or.inl (by rw [g_updN (by omega)]; exact g_updY)) ⟨b0, b3, b1⟩ (hf hz0) g_updY g_updY htp (by rw [List.length_append]; show S.length + 1 + _ ≤ Z; omega) (fun Wk' Nx' hk => ?_)
    have hk0 := K Wk' Nx' (fun k hk1 => ⟨by rw [(hk k hk1).1, g_updN (by omega)], by rw [(hk k hk1).2, g_updN (by omega), g_updN (by omega)]⟩)
    rw [List.append_assoc]
    exact hk0
  · -- the empty list
    have hn := hnil (by omega) (by omega)
    have hv := hv0.2 (by omega)
    unfold g_S g_lF at hK0
    rw [if_neg (by omega), if_neg (by omega), if_neg (by omega), if_pos k5] at hK0
    refine m2 tp S n Wk Nx r [91, 93] (by omega) hov (by omega) hW hX ⟨b0, b3, b1, fun q => absurd q.1 (by decide), by decide, g_by0⟩ ?_
    rw [show g_mnS [91, 93] = [91, 93] from rfl, ← hv, ← hn]
    exact hK0
theorem g_MFor {u : Nat → Nat} {N Z : Nat} {T : List (List Int32)} {B : Nat → Nat → Int32} {Nm : Nat → Int64} {z q : Nat} {Lp : g_MpT} (hu : ∀ i, u i < 256) (hz : z ≤ 9000) (hq : q ≤ 9000) (m1 : g_M1 T B Lp) (m2 : g_M2 T B Lp) (m3 : g_M3 T B Lp) (m4 : g_M4 B Lp) (m5 : g_M5 B Nm Lp) (m5n : g_M5n B Nm Lp) (m6 : g_M6 T B Lp) (m7 : g_M7 T B Lp) (m8 : g_M8 T B Lp) (m9 : g_M9 T B Lp) (m10 : g_M10 T B Lp) (m11 : g_M11 T B Lp) (m12 : g_M12 Lp) (m13 : g_M13 Z Lp) : ∀ F, g_wf u N F → g_MA u N Z T B Nm z q Lp F ∧ g_MB u N Z T B Nm z q Lp F ∧ g_MP u N Z T B Nm z q Lp F ∧ g_MT u N Z T B Nm z q Lp F := by
  refine g_find ⟨?_, ?_, ?_, ?_⟩ (fun L kids rest hl w1 w2 ih1 ih2 => ?_)
  · intro tp j r x mm i f n n' w S Wk Nx h0; exact absurd h0 (Nat.lt_irrefl _)
  · intro tp x mm i f n n' w S Wk Nx hF hvo hn hW hx hX hi hna hmm hf htp hS K
    by_cases hov : S.length ≤ 4096
    case neg => exact m13 _ _ _ _ _ (by omega) (by omega) (by omega)
    have hvo : n' = n := hvo
    subst hvo
    have hmm : mm = i := hmm
    subst hmm
    exact m6 tp S n' Wk Nx x mm w (by omega) hov hx hW hX hi hna (K Wk Nx (fun _ _ => ⟨rfl, rfl⟩))
  · intro tp r x f n n' S Wk Nx h2; cases h2
  · intro tp x f n n' S Wk Nx h2; cases h2
  · have esz : g_sz (.append (.tag L kids) rest) = 1 + g_sz kids + g_sz rest := rfl
    have eln : g_ln (.append (.tag L kids) rest) = 1 + g_ln rest := rfl
    have hA : g_MA u N Z T B Nm z q Lp (.append (.tag L kids) rest) := by
      intro tp j r x mm i f n n' w S Wk Nx h0 hF hvo hn ha2 hr hW hx hX hi hna hmm hf hj hW1 hX1 htp hS K
      obtain ⟨r', a1, a2, a3, a4, ⟨f', a5, a6⟩, a7⟩ := hF
      have : r = r' := (g_nIne (by omega) (by omega)).mp (ha2.symm.trans a2)
      subst this
      obtain ⟨n1, n2, hv0, hv1, hv2⟩ := hvo
      have hvl := g_vo_le rest w2 _ _ hv2
      rw [eln] at hmm
      rw [esz] at htp
      have eP : g_P u (.append (.tag L kids) rest) 0 = g_S u L (g_sz kids) (g_P u kids 0) (g_P u kids 1) ++ g_P u rest 3 := by simp [g_P]
      rw [eP] at hS K
      rw [List.length_append] at hS
      refine g_MSy hu hz hq m1 m2 m3 m4 m5 m5n m13 hl w1 ih1.1 ih1.2.2.1 (tp := tp + 1) (n := n) (n1 := n1) (n2 := n2) a3 a4 a5 a6 hv0 hv1 (by omega) hW1 hX1 (by omega) (by omega) (fun Wk' Nx' hk => ?_)
      refine ih2.2.1 tp x mm i f n2 n' w _ Wk' Nx' (by rw [← hj]; exact a7) hv2 hn (by rw [(hk tp (by omega)).1]; exact hW) hx (by rw [(hk tp (by omega)).2]; exact hX) hi hna (by omega) hf (by omega) (by rw [List.length_append]; omega) (fun Wk2 Nx2 hk2 => ?_)
      rw [List.append_assoc]
      exact K Wk2 Nx2 (fun k h => ⟨by rw [(hk2 k h).1, (hk k (by omega)).1], by rw [(hk2 k h).2, (hk k (by omega)).2]⟩)
    have hP : g_MP u N Z T B Nm z q Lp (.append (.tag L kids) rest) := by
      intro tp r x f n n' S Wk Nx h2 hF hvo hn ha2 hr hW hx hX hpa hf hW1 hX1 htp hS K
      obtain ⟨r', a1, a2, a3, a4, ⟨f', a5, a6⟩, a7⟩ := hF
      have : r = r' := (g_nIne (by omega) (by omega)).mp (ha2.symm.trans a2)
      subst this
      obtain ⟨n1, n2, hv0, hv1, hv2⟩ := hvo
      have hvl := g_vo_le rest w2 _ _ hv2
      rw [eln] at h2
      rw [esz] at htp
      have eP : g_P u (.append (.tag L kids) rest) 1 = g_S u L (g_sz kids) (g_P u kids 0) (g_P u kids 1) ++ g_P u rest 2 := by simp [g_P]
      rw [eP] at hS K
      rw [List.length_append] at hS
      refine g_MSy hu hz hq m1 m2 m3 m4 m5 m5n m13 hl w1 ih1.1 ih1.2.2.1 (tp := tp + 1) (n := n) (n1 := n1) (n2 := n2) a3 a4 a5 a6 hv0 hv1 (by omega) hW1 hX1 (by omega) (by omega) (fun Wk' Nx' hk => ?_)
      refine ih2.2.2.2 tp x f n2 n' _ Wk' Nx' (by omega) a7 hv2 hn (by rw [(hk tp (by omega)).1]; exact hW) hx (by rw [(hk tp (by omega)).2]; exact hX) hpa hf (by omega) (by rw [List.length_append]; omega) (fun Wk2 Nx2 hk2 => ?_)
      rw [List.append_assoc]
      exact K Wk2 Nx2 (fun k h => ⟨by rw [(hk2 k h).1, (hk k (by omega)).1], by rw [(hk2 k h).2, (hk k (by omega)).2]⟩)
    refine ⟨hA, ?_, hP, ?_⟩
    · -- behind a term
      intro tp x mm i f n n' w S Wk Nx hF hvo hn hW hx hX hi hna hmm hf htp hS K
      by_cases hov : S.length ≤ 4096
      case neg => exact m13 _ _ _ _ _ (by omega) (by omega) (by omega)
      have hF' := hF
      obtain ⟨r, a1, a2, a3, -⟩ := hF
      have eP : g_P u (.append (.tag L kids) rest) 3 = 44 :: g_P u (.append (.tag L kids) rest) 0 := by simp [g_P]
      rw [eP] at hS K
      rw [List.length_cons] at hS
      rw [esz] at htp
      refine m7 tp S n Wk Nx x mm i f r w (by omega) hov hx (by omega) (by omega) hW hX hi (by omega) hna hf a2 ?_
      refine hA tp (f + i) r x mm (i + 1) f n n' w (S ++ [44]) _ _ (by omega) hF' hvo hn a2 (by omega) (by rw [g_updN (by omega)]; exact hW) hx (by rw [g_updN (by omega)]; exact g_updY) (by omega) hna (by omega) hf (by omega) g_updY g_updY (by omega) (by rw [List.length_append]; show S.length + 1 + _ ≤ Z; omega) (fun Wk' Nx' hk => ?_)
      rw [List.append_assoc]
      exact K Wk' Nx' (fun k h => ⟨by rw [(hk k h).1, g_updN (by omega)], by rw [(hk k h).2, g_updN (by omega), g_updN (by omega)]⟩)
    · -- behind an item
      intro tp x f n n' S Wk Nx h1 hF hvo hn hW hx hX hpa hf htp hS K
      by_cases hov : S.length ≤ 4096
      case neg => exact m13 _ _ _ _ _ (by omega) (by omega) (by omega)
      have hrest : rest = .nil := by
        rw [eln] at h1
        rcases g_wfc w2 with rfl | ⟨L', kids', rest', rfl, -⟩
        · rfl
        · have : g_ln (.append (.tag L' kids') rest') = 1 + g_ln rest' := rfl
          omega
      subst hrest
      have h5 := g_lk5 hl
      have e0 : g_sz Std.Format.nil = 0 := rfl
      rw [e0] at esz
      obtain ⟨r, a1, a2, a3, a4, ⟨f', a5, a6⟩, -⟩ := hF
      obtain ⟨n1, n2, hv0, hv1, hv2⟩ := hvo
      have hv2 : n' = n2 := hv2
      subst hv2
      rw [esz] at htp
      by_cases k5 : L % 8 = 5
      · have hkn := h5.2.1 (by omega) (by omega)
        subst hkn
        have hv1 : n' = n1 := hv1
        have hv := hv0.2 (by omega)
        have eP : g_P u (.append (.tag L .nil) .nil) 2 = [93] := by simp [g_P, k5]
        rw [eP] at K
        rcases a4 with ⟨q0, -⟩ | ⟨q0, -⟩ | ⟨q0, -⟩ | ⟨q0, -⟩ | ⟨q0, -⟩ | ⟨-, b0, b1, b3⟩
        · omega
        · omega
        · omega
        · omega
        · omega
        · rw [← hv, ← hv1]
          exact m10 tp S n' Wk Nx x f r (by omega) hov hx (by omega) (by omega) hW hX hpa hf a2 b0 b3 b1 (K Wk Nx (fun _ _ => ⟨rfl, rfl⟩))
      · by_cases k4 : L % 8 = 4
        · have hln2 := h5.2.2 k4
          have hv := hv0.2 (by omega)
          subst hv
          rcases a4 with ⟨q0, -⟩ | ⟨q0, -⟩ | ⟨q0, -⟩ | ⟨q0, -⟩ | ⟨-, b0, b1, b3⟩ | ⟨q0, -⟩
          · omega
          · omega
          · omega
          · omega
          · rcases g_wfc w1 with rfl | ⟨L', kids', rest', rfl, -, -, -⟩
            · cases hln2
            have hz0 : 0 < g_sz (.append (.tag L' kids') rest') := by show 0 < 1 + g_sz kids' + g_sz rest'; omega
            have a6' := a6
            obtain ⟨y, c1, c2, c3, -⟩ := a6
            have eP : g_P u (.append (.tag L (.append (.tag L' kids') rest')) .nil) 2 = 44 :: g_P u (.append (.tag L' kids') rest') 1 := by rw [g_P, if_neg (by omega), if_pos ⟨rfl, k4⟩]
            rw [eP] at hS K
            rw [List.length_cons] at hS
            refine m9 tp S n1 Wk Nx x f r (by omega) hov hx (by omega) (by omega) hW hX hpa hf a2 ⟨b0, b3, b1⟩ ?_
            by_cases hov2 : (S ++ [44]).length ≤ 4096
            case neg => exact m13 _ _ _ _ _ (by omega) (by omega) (by rw [List.length_append]; show S.length + 1 ≤ Z; omega)
            refine m8 tp (S ++ [44]) n1 _ _ r f' y (by omega) hov2 (by omega) (by omega) (by omega) g_updY g_updY ⟨b0, b3, b1⟩ (a5 hz0) c2 ?_
            refine ih1.2.2.1 tp y r f' n1 n' (S ++ [44]) _ _ hln2 a6' hv1 hn c2 (by omega) (by rw [g_updN (by omega)]; exact g_updY) (by omega) (Or.inr (by rw [g_updN (by omega)]; exact g_updY)) ⟨b0, b3, b1⟩ (a5 hz0) g_updY g_updY (by omega) (by rw [List.length_append]; show S.length + 1 + _ ≤ Z; omega) (fun Wk' Nx' hk => ?_)
            rw [List.append_assoc]
            exact K Wk' Nx' (fun k h => ⟨by rw [(hk k h).1, g_updN (by omega), g_updN (by omega)], by rw [(hk k h).2, g_updN (by omega), g_updN (by omega), g_updN (by omega)]⟩)
          · omega
        · have eP : g_P u (.append (.tag L kids) .nil) 2 = 124 :: (g_S u L (g_sz kids) (g_P u kids 0) (g_P u kids 1) ++ [93]) := by simp [g_P, k5, k4]
          rw [eP] at hS K
          rw [List.length_cons, List.length_append] at hS
          have hS : S.length + ((g_S u L (g_sz kids) (g_P u kids 0) (g_P u kids 1)).length + 1 + 1) ≤ Z := hS
          have hot : g_ot T B r := by
            rcases a4 with ⟨q0, b0, -⟩ | ⟨q0, b0, -⟩ | ⟨q0, b0, -⟩ | ⟨q0, b0, b1, b3⟩ | ⟨q0, -⟩ | ⟨q0, -⟩
            · exact Or.inl b0
            · exact Or.inr (Or.inl b0)
            · exact Or.inr (Or.inl b0)
            · have hU := g_lkU hu hl q0
              have := g_lnS kids w1
              refine Or.inr (Or.inr ⟨g_ln kids, _, ⟨b0, b3, b1, fun y => hU.1 y.1 y.2, by omega, g_utY hu _ _⟩, fun y => ?_⟩)
              rcases g_wfc w1 with e | ⟨L', kids', rest', e, -, -, -⟩
              · exact hU.2.1 e y.2
              · have y1 := y.1
                rw [e] at y1
                have y1 : 1 + g_ln rest' = 0 := y1
                omega
            · omega
            · omega
          refine m11 tp S n Wk Nx x f r (by omega) hov hx (by omega) (by omega) hW hX hpa hf a2 hot ?_
          refine g_MSy hu hz hq m1 m2 m3 m4 m5 m5n m13 hl w1 ih1.1 ih1.2.2.1 (tp := tp + 1) (n := n) (n1 := n1) (n2 := n') a3 a4 a5 a6 hv0 hv1 hn g_updY g_updY (by omega) (by rw [List.length_append]; show S.length + 1 + _ ≤ Z; omega) (fun Wk' Nx' hk => ?_)
          by_cases hov3 : (S ++ [124] ++ g_S u L (g_sz kids) (g_P u kids 0) (g_P u kids 1)).length ≤ 4096
          case neg => exact m13 _ _ _ _ _ (by omega) (by omega) (by rw [List.length_append, List.length_append]; show S.length + 1 + _ ≤ Z; omega)
          refine m12 tp _ n' Wk' Nx' (by omega) hov3 (by rw [(hk tp (by omega)).1, g_updN (by omega)]; exact g_updY) ?_
          rw [List.append_assoc, List.append_assoc]
          exact K Wk' Nx' (fun k h => ⟨by rw [(hk k (by omega)).1, g_updN (by omega), g_updN (by omega)], by rw [(hk k (by omega)).2, g_updN (by omega)]⟩)
/-! the reference's depth -/
abbrev g_DpT : Type := Nat → Nat → (Nat → Int32) → (Nat → Int32) → Prop
def g_D1 (B : Nat → Nat → Int32) (Lp : g_DpT) : Prop := ∀ (tp most : Nat) (Wk Lv : Nat → Int32) (r : Nat), tp < 9000 → r < 9000 → Wk tp = nI r → B 3 r = 0 → Lp tp most Wk Lv → Lp (tp + 1) most Wk Lv
def g_pus (B : Nat → Nat → Int32) (Wk : Nat → Int32) (tp f mm : Nat) : Nat → Int32 := fun k => if tp ≤ k ∧ k < tp + mm then B 4 (f + (k - tp)) else Wk k
def g_lus (Lv : Nat → Int32) (tp d mm : Nat) : Nat → Int32 := fun k => if tp ≤ k ∧ k < tp + mm then nI d else Lv k
def g_D2 (B : Nat → Nat → Int32) (Lp : g_DpT) : Prop := ∀ (tp most : Nat) (Wk Lv : Nat → Int32) (r d mm f : Nat), tp + mm < 9000 → r < 9000 → d < 9000 → most < 9000 → f + mm ≤ 9000 → 0 < mm → Wk tp = nI r → Lv tp = nI d → B 3 r = nI mm → B 2 r = nI f → Lp (tp + mm) (max most d) (g_pus B Wk tp f mm) (g_lus Lv tp (d + 1) mm) → Lp (tp + 1) most Wk Lv
def g_Df (u : Nat → Nat) (N : Nat) (T : List (List Int32)) (B : Nat → Nat → Int32) (Nm : Nat → Int64) (z q : Nat) (Lp : g_DpT) (F : Std.Format) : Prop := ∀ (tp d most j : Nat) (Wk Lv : Nat → Int32), g_mF u N T B Nm z q F j → 0 < d → (∀ i, i < g_ln F → Wk (tp + i) = B 4 (j + i) ∧ Lv (tp + i) = nI d) → tp + g_sz F < 8000 → d + g_sz F < 8000 → most < 8000 →
  (∀ Wk' Lv', (∀ k, k < tp → Wk' k = Wk k ∧ Lv' k = Lv k) → Lp tp (max most (if g_dp F = 0 then 0 else d - 1 + g_dp F)) Wk' Lv') → Lp (tp + g_ln F) most Wk Lv
theorem g_mFq {u : Nat → Nat} {N : Nat} {T : List (List Int32)} {B : Nat → Nat → Int32} {Nm : Nat → Int64} {z q : Nat} : ∀ F, g_wf u N F → ∀ j, g_mF u N T B Nm z q F j → 0 < g_ln F → j + g_ln F ≤ q := by
  refine g_find (fun j _ h => absurd h (Nat.lt_irrefl _)) (fun L kids rest _ _ w2 _ ih j h _ => ?_)
  obtain ⟨r, h1, -, -, -, -, h7⟩ := h
  show j + (1 + g_ln rest) ≤ q
  rcases Nat.eq_zero_or_pos (g_ln rest) with e | e
  · omega
  · have := ih (j + 1) h7 e; omega
theorem g_mRm {u : Nat → Nat} {N : Nat} {T : List (List Int32)} {B : Nat → Nat → Int32} {Nm : Nat → Int64} {L r : Nat} {kids : Std.Format} (hl : g_lk u N L kids) (h : g_mR u N T B Nm L kids r) : B 3 r = nI (g_ln kids) := by
  have h5 := g_lk5 hl
  have hn : L % 8 ≠ 3 → L % 8 ≠ 4 → g_ln kids = 0 := fun a b => by rw [h5.2.1 a b]; rfl
  rcases h with ⟨a, -, -, b⟩ | ⟨a, -, b, -⟩ | ⟨a, -, b, -⟩ | ⟨a, -, -, b⟩ | ⟨a, -, -, b⟩ | ⟨a, -, -, b⟩
  · rw [hn (by omega) (by omega)]; exact b
  · rw [hn (by omega) (by omega)]; exact b
  · rw [hn (by omega) (by omega)]; exact b
  · exact b
  · rw [h5.2.2 a]; exact b
  · rw [hn (by omega) (by omega)]; exact b
theorem g_ln0 {u : Nat → Nat} {N : Nat} {F : Std.Format} (h : g_wf u N F) : g_ln F = 0 ↔ g_sz F = 0 := by
  rcases g_wfc h with rfl | ⟨L, kids, rest, rfl, -⟩
  · exact ⟨fun _ => rfl, fun _ => rfl⟩
  · have e1 : g_ln (.append (.tag L kids) rest) = 1 + g_ln rest := rfl
    have e2 : g_sz (.append (.tag L kids) rest) = 1 + g_sz kids + g_sz rest := rfl
    omega
/-- a term on top of the waiting ones -/
theorem g_Dt {u : Nat → Nat} {N : Nat} {T : List (List Int32)} {B : Nat → Nat → Int32} {Nm : Nat → Int64} {z q : Nat} {Lp : g_DpT} (hz : z ≤ 9000) (hq : q ≤ 9000) (d1 : g_D1 B Lp) (d2 : g_D2 B Lp) {L : Nat} {kids : Std.Format} (hl : g_lk u N L kids) (hw : g_wf u N kids) (hD : g_Df u N T B Nm z q Lp kids) {tp d most r f : Nat} {Wk Lv : Nat → Int32} (hr : r < z) (hR : g_mR u N T B Nm L kids r) (hf : 0 < g_sz kids → B 2 r = nI f) (hF : g_mF u N T B Nm z q kids f) (hd : 0 < d) (hW : Wk tp = nI r) (hL : Lv tp = nI d) (htp : tp + 1 + g_sz kids < 8000) (hds : d + 1 + g_sz kids < 8000) (hm : most < 8000)
    (K : ∀ Wk' Lv', (∀ k, k < tp → Wk' k = Wk k ∧ Lv' k = Lv k) → Lp tp (max most (if g_sz kids = 0 then 0 else d + g_dp kids)) Wk' Lv') : Lp (tp + 1) most Wk Lv := by
  have hb := g_mRm hl hR
  have hls := g_lnS kids hw
  have hl0 := g_ln0 hw
  by_cases h0 : g_sz kids = 0
  · rw [if_pos h0] at K
    rw [hl0.mpr h0] at hb
    have := K Wk Lv (fun _ _ => ⟨rfl, rfl⟩)
    rw [Nat.max_zero] at this
    exact d1 tp most Wk Lv r (by omega) (by omega) hW hb this
  · rw [if_neg h0] at K
    have hln : 0 < g_ln kids := by omega
    have hfq := g_mFq kids hw f hF hln
    refine d2 tp most Wk Lv r d (g_ln kids) f (by omega) (by omega) (by omega) (by omega) (by omega) hln hW hL hb (hf (by omega)) ?_
    refine hD tp (d + 1) (max most d) f _ _ hF (by omega) (fun i hi => ⟨?_, ?_⟩) (by omega) (by omega) (by omega) (fun Wk' Lv' hk => ?_)
    · unfold g_pus; rw [if_pos ⟨by omega, by omega⟩, show f + (tp + i - tp) = f + i by omega]
    · unfold g_lus; rw [if_pos ⟨by omega, by omega⟩]
    · have := K Wk' Lv' (fun k h => ⟨by rw [(hk k h).1]; unfold g_pus; rw [if_neg (by omega)], by rw [(hk k h).2]; unfold g_lus; rw [if_neg (by omega)]⟩)
      have hdp := g_dpL kids hw
      rw [show max (max most d) (if g_dp kids = 0 then 0 else d + 1 - 1 + g_dp kids) = max most (d + g_dp kids) by split <;> omega]
      exact this
theorem g_DFor {u : Nat → Nat} {N : Nat} {T : List (List Int32)} {B : Nat → Nat → Int32} {Nm : Nat → Int64} {z q : Nat} {Lp : g_DpT} (hz : z ≤ 9000) (hq : q ≤ 9000) (d1 : g_D1 B Lp) (d2 : g_D2 B Lp) : ∀ F, g_wf u N F → g_Df u N T B Nm z q Lp F := by
  refine g_find ?_ (fun L kids rest hl w1 w2 ih1 ih2 => ?_)
  · intro tp d most j Wk Lv hF hd hW htp hds hm K
    have := K Wk Lv (fun _ _ => ⟨rfl, rfl⟩)
    rw [if_pos (show g_dp Std.Format.nil = 0 from rfl), Nat.max_zero] at this
    exact this
  · intro tp d most j Wk Lv hF hd hW htp hds hm K
    have esz : g_sz (.append (.tag L kids) rest) = 1 + g_sz kids + g_sz rest := rfl
    have eln : g_ln (.append (.tag L kids) rest) = 1 + g_ln rest := rfl
    have edp : g_dp (.append (.tag L kids) rest) = max (if g_sz kids = 0 then 0 else 1 + g_dp kids) (g_dp rest) := rfl
    rw [esz] at htp hds
    rw [eln] at hW
    rw [edp] at K
    obtain ⟨r, a1, a2, a3, a4, ⟨f, a5, a6⟩, a7⟩ := hF
    have hdk := g_dpL kids w1
    have hdr := g_dpL rest w2
    rw [eln, ← Nat.add_assoc]
    refine ih2 (tp + 1) d most (j + 1) Wk Lv a7 hd (fun i hi => ?_) (by omega) (by omega) hm (fun Wk' Lv' hk => ?_)
    · have := hW (1 + i) (by omega)
      rw [← Nat.add_assoc, ← Nat.add_assoc] at this
      exact this
    · have h0 := hW 0 (by omega)
      rw [Nat.add_zero, Nat.add_zero] at h0
      refine g_Dt hz hq d1 d2 hl w1 ih1 (d := d) a3 a4 a5 a6 hd (by rw [(hk tp (by omega)).1, h0.1]; exact a2) (by rw [(hk tp (by omega)).2]; exact h0.2) (by omega) (by omega) (by split <;> omega) (fun Wk2 Lv2 hk2 => ?_)
      have := K Wk2 Lv2 (fun k h => ⟨by rw [(hk2 k h).1, (hk k (by omega)).1], by rw [(hk2 k h).2, (hk k (by omega)).2]⟩)
      have e : max (max most (if g_dp rest = 0 then 0 else d - 1 + g_dp rest)) (if g_sz kids = 0 then 0 else d + g_dp kids) = max most (if max (if g_sz kids = 0 then 0 else 1 + g_dp kids) (g_dp rest) = 0 then 0 else d - 1 + max (if g_sz kids = 0 then 0 else 1 + g_dp kids) (g_dp rest)) := by
        by_cases q1 : g_sz kids = 0
        · simp only [if_pos q1]
          by_cases q2 : g_dp rest = 0
          · rw [if_pos q2, if_pos (by omega)]; omega
          · rw [if_neg q2, if_neg (by omega)]; omega
        · simp only [if_neg q1]
          by_cases q2 : g_dp rest = 0
          · rw [if_pos q2, if_neg (by omega)]; omega
          · rw [if_neg q2, if_neg (by omega)]; omega
      rw [e]
      exact this
