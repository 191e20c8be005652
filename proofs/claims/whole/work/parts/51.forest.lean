theorem g_updI (f : Nat → Int32) (k : Nat) (v : Int32) (x : Nat) (h : x ≠ k) : upd f k v x = f x := g_updN h
theorem g_dpL {u : Nat → Nat} {N : Nat} : ∀ F, g_wf u N F → g_dp F ≤ g_sz F := by
  refine g_find (Nat.le_refl _) (fun L kids rest _ _ _ h1 h2 => ?_)
  show max (if g_sz kids = 0 then 0 else 1 + g_dp kids) (g_dp rest) ≤ 1 + g_sz kids + g_sz rest
  split <;> omega
/-- the owner's level -/
def g_Ow (A : Nat → Nat → Int32) (Lv : Nat → Int32) (y lo : Nat) : Prop := (A 3 y = -1 ∧ lo = 0) ∨ ∃ o, o < 1001 ∧ A 3 y = nI o ∧ Lv o = nI lo
abbrev g_LpT : Type := Nat → Nat → List Int32 → Nat → (Nat → Int32) → (Nat → Int32) → Prop
def g_en (Wt : Nat → Int32) (wc z : Nat) : Nat → Int32 := upd (upd Wt wc (nI z ^^^ -1)) (wc + 1) (nI z)
/-- what the steps of the printing do -/
def g_R1 (A : Nat → Nat → Int32) (Lp : g_LpT) : Prop := ∀ (st wc : Nat) (S : List Int32) (ne : Nat) (Lv Wt : Nat → Int32) (y lo z : Nat), st < 4000 → wc + 1 < 2000 → S.length < 2 ^ 27 → ne < 4000 → y < 1001 → Wt wc = nI y → g_Ow A Lv y lo → lo < 4000 → A 0 y = 4 → A 4 y = nI z → z < 1001 → Lp (st + 1) (wc + 1 + 1) (S ++ [91]) (max ne (lo + 1)) (upd Lv y (nI (lo + 1))) (g_en Wt wc z) → Lp st (wc + 1) S ne Lv Wt
def g_R2 (u : Nat → Nat) (A : Nat → Nat → Int32) (Lp : g_LpT) : Prop := ∀ (st wc : Nat) (S : List Int32) (ne : Nat) (Lv Wt : Nat → Int32) (y lo f t : Nat), st < 4000 → wc + 1 < 2000 → S.length < 2 ^ 27 → ne < 4000 → y < 1001 → Wt wc = nI y → g_Ow A Lv y lo → lo < 4000 → A 0 y = 3 → A 1 y = nI f → A 2 y = nI t → f ≤ t → t ≤ 4096 → A 4 y = -1 → Lp (st + 1) wc (S ++ g_nmS u f t) (max ne (lo + 0)) (upd Lv y (nI (lo + 0))) Wt → Lp st (wc + 1) S ne Lv Wt
def g_R3 (u : Nat → Nat) (A : Nat → Nat → Int32) (Lp : g_LpT) : Prop := ∀ (st wc : Nat) (S : List Int32) (ne : Nat) (Lv Wt : Nat → Int32) (y lo f t z : Nat), st < 4000 → wc + 1 < 2000 → S.length < 2 ^ 27 → ne < 4000 → y < 1001 → Wt wc = nI y → g_Ow A Lv y lo → lo < 4000 → A 0 y = 3 → A 1 y = nI f → A 2 y = nI t → f ≤ t → t ≤ 4096 → A 4 y = nI z → z < 1001 → Lp (st + 1) (wc + 1 + 1) (S ++ (g_nmS u f t ++ [40])) (max ne (lo + 1)) (upd Lv y (nI (lo + 1))) (g_en Wt wc z) → Lp st (wc + 1) S ne Lv Wt
def g_R4 (u : Nat → Nat) (N : Nat) (A : Nat → Nat → Int32) (Lp : g_LpT) : Prop := ∀ (st wc : Nat) (S : List Int32) (ne : Nat) (Lv Wt : Nat → Int32) (y lo L : Nat) (kids : Std.Format), st < 4000 → wc + 1 < 2000 → S.length < 2 ^ 27 → ne < 4000 → y < 1001 → Wt wc = nI y → g_Ow A Lv y lo → lo < 4000 → g_row A y L → g_lk u N L kids → (L % 8 = 0 → g_fR L < 1000) → L % 8 ≠ 3 → L % 8 ≠ 4 → A 4 y = -1 → Lp (st + 1) wc (S ++ g_lF u L) (max ne (lo + 0)) (upd Lv y (nI (lo + 0))) Wt → Lp st (wc + 1) S ne Lv Wt
def g_R5 (A : Nat → Nat → Int32) (Lp : g_LpT) : Prop := ∀ (st wc : Nat) (S : List Int32) (ne : Nat) (Lv Wt : Nat → Int32) (y o k : Nat), st < 4000 → wc + 1 < 2000 → S.length < 2 ^ 27 → y < 1001 → Wt wc = nI y ^^^ -1 → o < 1001 → A 3 y = nI o → A 0 o = nI k → k < 8 → A 5 y = -1 → Lp (st + 1) wc (S ++ [if k = 4 then 93 else 41]) ne Lv Wt → Lp st (wc + 1) S ne Lv Wt
def g_R6 (A : Nat → Nat → Int32) (Lp : g_LpT) : Prop := ∀ (st wc : Nat) (S : List Int32) (ne : Nat) (Lv Wt : Nat → Int32) (y o k z : Nat), st < 4000 → wc + 1 < 2000 → S.length < 2 ^ 27 → y < 1001 → Wt wc = nI y ^^^ -1 → o < 1001 → A 3 y = nI o → A 0 o = nI k → k < 8 → k ≠ 4 → A 5 y = nI z → z < 1001 → Lp (st + 1) (wc + 1 + 1) (S ++ [44]) ne Lv (g_en Wt wc z) → Lp st (wc + 1) S ne Lv Wt
def g_R7 (A : Nat → Nat → Int32) (Lp : g_LpT) : Prop := ∀ (st wc : Nat) (S : List Int32) (ne : Nat) (Lv Wt : Nat → Int32) (y o z : Nat), st < 4000 → wc + 1 < 2000 → S.length < 2 ^ 27 → y < 1001 → Wt wc = nI y ^^^ -1 → o < 1001 → A 3 y = nI o → A 0 o = 4 → A 5 y = nI z → z < 1001 → A 0 z = 5 → Lp (st + 1) wc (S ++ [93]) ne Lv Wt → Lp st (wc + 1) S ne Lv Wt
def g_R8 (A : Nat → Nat → Int32) (Lp : g_LpT) : Prop := ∀ (st wc : Nat) (S : List Int32) (ne : Nat) (Lv Wt : Nat → Int32) (y o z z2 lo : Nat), st < 4000 → wc + 1 < 2000 → S.length < 2 ^ 27 → ne < 4000 → y < 1001 → Wt wc = nI y ^^^ -1 → o < 1001 → A 3 y = nI o → A 0 o = 4 → A 5 y = nI z → z < 1001 → A 0 z = 4 → g_Ow A Lv z lo → lo < 4000 → A 4 z = nI z2 → z2 < 1001 → Lp (st + 1) (wc + 1 + 1) (S ++ [44]) (max ne (lo + 1)) (upd Lv z (nI (lo + 1))) (g_en Wt wc z2) → Lp st (wc + 1) S ne Lv Wt
def g_R9 (A : Nat → Nat → Int32) (Lp : g_LpT) : Prop := ∀ (st wc : Nat) (S : List Int32) (ne : Nat) (Lv Wt : Nat → Int32) (y o z k : Nat), st < 4000 → wc + 1 < 2000 → S.length < 2 ^ 27 → y < 1001 → Wt wc = nI y ^^^ -1 → o < 1001 → A 3 y = nI o → A 0 o = 4 → A 5 y = nI z → z < 1001 → A 0 z = nI k → k < 8 → k ≠ 5 → k ≠ 4 → Lp (st + 1) (wc + 1 + 1) (S ++ [124]) ne Lv (g_en Wt wc z) → Lp st (wc + 1) S ne Lv Wt
/-- the forest's terms, entered: the first one's row is j -/
def g_En (u : Nat → Nat) (A : Nat → Nat → Int32) (P : Nat → Prop) (Lp : g_LpT) (F : Std.Format) : Prop := ∀ (j o k lo wc st ne n n' m : Nat) (S : List Int32) (Lv Wt : Nat → Int32), 0 < g_sz F → j < 1001 → g_cF A P F (nI j) o → g_vo F n n' → n' ≤ 1000 → o < 1001 → A 0 o = nI k → (m = 0 ∧ k = 3 ∨ m = 1 ∧ k = 4 ∧ g_ln F = 2) → Lv o = nI lo → ¬ g_in A F (nI j) o → lo ≤ ne → lo + g_sz F ≤ 1100 → ne ≤ 1100 → wc + g_sz F + 2 < 2000 → st + 2 * g_sz F < 4000 → S.length + (g_P u F m).length < 2 ^ 27 → Wt wc = nI j ^^^ -1 → Wt (wc + 1) = nI j →
  (∀ st' Lv' Wt', st' ≤ st + 2 * g_sz F → (∀ n, ¬ g_in A F (nI j) n → Lv' n = Lv n) → (∀ n, n < wc → Wt' n = Wt n) → Lp st' wc (S ++ g_P u F m) (max ne (lo + g_dp F)) Lv' Wt') → Lp st (wc + 1 + 1) S ne Lv Wt
/-- what is behind row i -/
def g_Bh (u : Nat → Nat) (A : Nat → Nat → Int32) (P : Nat → Prop) (Lp : g_LpT) (F : Std.Format) : Prop := ∀ (i o k lo wc st ne n n' m : Nat) (S : List Int32) (Lv Wt : Nat → Int32), i < 1001 → g_cF A P F (A 5 i) o → A 3 i = nI o → g_vo F n n' → n' ≤ 1000 → o < 1001 → A 0 o = nI k → (m = 3 ∧ k = 3 ∨ m = 2 ∧ k = 4 ∧ g_ln F ≤ 1) → Lv o = nI lo → ¬ g_in A F (A 5 i) o → lo ≤ ne → lo + g_sz F ≤ 1100 → ne ≤ 1100 → wc + g_sz F + 2 < 2000 → st + (2 * g_sz F + 1) < 4000 → S.length + (g_P u F m).length < 2 ^ 27 → Wt wc = nI i ^^^ -1 →
  (∀ st' Lv' Wt', st' ≤ st + (2 * g_sz F + 1) → (∀ n, ¬ g_in A F (A 5 i) n → Lv' n = Lv n) → (∀ n, n < wc → Wt' n = Wt n) → Lp st' wc (S ++ g_P u F m) (max ne (lo + g_dp F)) Lv' Wt') → Lp st (wc + 1) S ne Lv Wt
/-- one symbol with what is inside of it -/
theorem g_SyJ {u : Nat → Nat} {N : Nat} {A : Nat → Nat → Int32} {P : Nat → Prop} {Lp : g_LpT} (r1 : g_R1 A Lp) (r2 : g_R2 u A Lp) (r3 : g_R3 u A Lp) (r4 : g_R4 u N A Lp) {L : Nat} {kids : Std.Format} (hl : g_lk u N L kids) (hw : g_wf u N kids) (hN : N ≤ 4096) (hE : g_En u A P Lp kids) {j lo wc st ne n n1 n2 : Nat} {S : List Int32} {Lv Wt : Nat → Int32} (hj : j < 1001) (hr : g_row A j L) (hc : g_cF A P kids (A 4 j) j) (hO : g_Ow A Lv j lo) (hni : ¬ g_in A kids (A 4 j) j) (hv0 : (L % 8 = 0 → g_fR L ≤ n ∧ n1 = max n (g_fR L + 1)) ∧ (L % 8 ≠ 0 → n1 = n)) (hvo : g_vo kids n1 n2) (hn2 : n2 ≤ 1000) (hlo : lo ≤ ne) (hlb : lo + (1 + g_sz kids) ≤ 1100) (hne : ne ≤ 1100) (hwc : wc + (1 + g_sz kids) + 1 < 2000) (hst : st + (2 * g_sz kids + 1) + 1 < 4000) (hS : S.length + (g_S u L (g_sz kids) (g_P u kids 0) (g_P u kids 1)).length < 2 ^ 27) (hW : Wt wc = nI j)
    (K : ∀ st' Lv' Wt', st' ≤ st + (2 * g_sz kids + 1) → (∀ n, n ≠ j → ¬ g_in A kids (A 4 j) n → Lv' n = Lv n) → (∀ n, n < wc → Wt' n = Wt n) → Lp st' wc (S ++ g_S u L (g_sz kids) (g_P u kids 0) (g_P u kids 1)) (max ne (lo + (if g_sz kids = 0 then 0 else 1 + g_dp kids))) Lv' Wt') : Lp st (wc + 1) S ne Lv Wt := by
  have h5 := g_lk5 hl
  have hvl := g_vo_le kids hw _ _ hvo
  by_cases k4 : L % 8 = 4
  · -- a pair
    have hln := h5.2.2 k4
    rcases g_wfc hw with rfl | ⟨L', kids', rest', rfl, -, -, -⟩
    · cases hln
    obtain ⟨z, e1, e2, e3, e4, e5, e6, e7⟩ := g_cFn hc
    have hz : 0 < g_sz (.append (.tag L' kids') rest') := by show 0 < 1 + g_sz kids' + g_sz rest'; omega
    unfold g_S at hS K
    rw [if_pos k4] at hS K
    rw [List.length_cons] at hS
    rw [if_neg (by omega)] at K
    refine r1 st wc S ne Lv Wt j lo z (by omega) (by omega) (by omega) (by omega) hj hW hO (by omega) (by have := hr.1; rw [k4] at this; exact this) e1 e3 ?_
    rw [e1] at hc hni K
    refine hE z j 4 (lo + 1) wc (st + 1) (max ne (lo + 1)) n1 n2 1 (S ++ [91]) (upd Lv j (nI (lo + 1))) (g_en Wt wc z) hz e3 hc hvo hn2 hj (by have := hr.1; rw [k4] at this; exact this) (Or.inr ⟨rfl, rfl, hln⟩) g_updY hni (by omega) (by omega) (by omega) (by omega) (by omega) (by rw [List.length_append]; show S.length + 1 + _ < _; omega) (by unfold g_en; rw [g_updN (by omega)]; exact g_updY) (by unfold g_en; exact g_updY) (fun st' Lv' Wt' a1 a2 a3 => ?_)
    have := K st' Lv' Wt' (by omega) (fun n q1 q2 => by rw [a2 n q2]; exact g_updN q1) (fun n q => by rw [a3 n q]; unfold g_en; rw [g_updN (by omega), g_updN (by omega)])
    rw [List.append_assoc]
    rw [show max (max ne (lo + 1)) (lo + 1 + g_dp (.append (.tag L' kids') rest')) = max ne (lo + (1 + g_dp (.append (.tag L' kids') rest'))) by omega]
    exact this
  · by_cases k3 : L % 8 = 3
    · have hb := g_lkT hl (by omega)
      have hra := hr.2.2 (by omega)
      unfold g_S at hS K
      rw [if_neg k4, if_pos k3] at hS K
      have hk3 : A 0 j = 3 := by have := hr.1; rw [k3] at this; exact this
      rcases g_wfc hw with rfl | ⟨L', kids', rest', rfl, -, -, -⟩
      · have hc : A 4 j = -1 := hc
        have e0 : g_sz Std.Format.nil = 0 := rfl
        rw [if_pos e0] at hS K
        rw [if_pos e0] at K
        rw [List.append_nil] at hS K
        exact r2 st wc S ne Lv Wt j lo _ _ (by omega) (by omega) (by omega) (by omega) hj hW hO (by omega) hk3 hra.1 hra.2 hb.1 (by have := hb.2; show g_tO L ≤ 4096; omega) hc (K (st + 1) _ Wt (by omega) (fun n q1 _ => g_updN q1) (fun n _ => rfl))
      · obtain ⟨z, e1, e2, e3, e4, e5, e6, e7⟩ := g_cFn hc
        have hz : 0 < g_sz (.append (.tag L' kids') rest') := by show 0 < 1 + g_sz kids' + g_sz rest'; omega
        rw [if_neg (by omega)] at hS K
        rw [if_neg (by omega)] at K
        rw [List.length_append, List.length_cons] at hS
        refine r3 st wc S ne Lv Wt j lo _ _ z (by omega) (by omega) (by omega) (by omega) hj hW hO (by omega) hk3 hra.1 hra.2 hb.1 (by have := hb.2; show g_tO L ≤ 4096; omega) e1 e3 ?_
        rw [e1] at hc hni K
        refine hE z j 3 (lo + 1) wc (st + 1) (max ne (lo + 1)) n1 n2 0 _ (upd Lv j (nI (lo + 1))) (g_en Wt wc z) hz e3 hc hvo hn2 hj hk3 (Or.inl ⟨rfl, rfl⟩) g_updY hni (by omega) (by omega) (by omega) (by omega) (by omega) (by rw [List.length_append, List.length_append]; show S.length + ((g_nmS u (g_fR L) (g_tO L)).length + 1) + _ < _; omega) (by unfold g_en; rw [g_updN (by omega)]; exact g_updY) (by unfold g_en; exact g_updY) (fun st' Lv' Wt' a1 a2 a3 => ?_)
        have := K st' Lv' Wt' (by omega) (fun n q1 q2 => by rw [a2 n q2]; exact g_updN q1) (fun n q => by rw [a3 n q]; unfold g_en; rw [g_updN (by omega), g_updN (by omega)])
        rw [List.append_assoc]
        rw [show max (max ne (lo + 1)) (lo + 1 + g_dp (.append (.tag L' kids') rest')) = max ne (lo + (1 + g_dp (.append (.tag L' kids') rest'))) by omega]
        have e9 : (g_nmS u (L / 8 % 8192) (L / 65536) ++ [40]) ++ g_P u (.append (.tag L' kids') rest') 0 = g_nmS u (g_fR L) (g_tO L) ++ 40 :: g_P u (.append (.tag L' kids') rest') 0 := by
          rw [List.append_assoc]; rfl
        rw [e9]
        exact this
    · have hk := h5.2.1 k3 k4
      subst hk
      have hc : A 4 j = -1 := hc
      unfold g_S at hS K
      rw [if_neg k4, if_neg k3] at hS K
      have e0 : g_sz Std.Format.nil = 0 := rfl
      rw [if_pos e0] at K
      exact r4 st wc S ne Lv Wt j lo L .nil (by omega) (by omega) (by omega) (by omega) hj hW hO (by omega) hr hl (fun q => by have := hv0.1 q; omega) k3 k4 hc (K (st + 1) _ Wt (by omega) (fun n q1 _ => g_updN q1) (fun n _ => rfl))
theorem g_For {u : Nat → Nat} {N : Nat} {A : Nat → Nat → Int32} {P : Nat → Prop} {Lp : g_LpT} (hN : N ≤ 4096) (r1 : g_R1 A Lp) (r2 : g_R2 u A Lp) (r3 : g_R3 u A Lp) (r4 : g_R4 u N A Lp) (r5 : g_R5 A Lp) (r6 : g_R6 A Lp) (r7 : g_R7 A Lp) (r8 : g_R8 A Lp) (r9 : g_R9 A Lp) : ∀ F, g_wf u N F → g_En u A P Lp F ∧ g_Bh u A P Lp F := by
  refine g_find ⟨?_, ?_⟩ (fun L kids rest hl w1 w2 ih1 ih2 => ?_)
  · intro j o k lo wc st ne n n' m S Lv Wt h0
    exact absurd h0 (Nat.lt_irrefl _)
  · intro i o k lo wc st ne n n' m S Lv Wt hi hc h3 hvo hn ho hk hm hLo hni hlo hlb hne hwc hst hS hW K
    have hc : A 5 i = -1 := hc
    have e0 : g_sz Std.Format.nil = 0 := rfl
    have ed : g_dp Std.Format.nil = 0 := rfl
    have eP : g_P u .nil m = if m = 2 then [93] else if m = 3 then [41] else [] := rfl
    rw [e0] at hst
    have hS1 : S.length < 2 ^ 27 := by omega
    have e : max ne (lo + g_dp Std.Format.nil) = ne := by rw [ed]; omega
    rw [e, eP] at K
    refine r5 st wc S ne Lv Wt i o k (by omega) (by omega) hS1 hi hW ho h3 hk (by omega) hc ?_
    have K1 := K (st + 1) Lv Wt (by rw [e0]; omega) (fun _ _ => rfl) (fun _ _ => rfl)
    rcases hm with ⟨rfl, rfl⟩ | ⟨rfl, rfl, -⟩
    · exact K1
    · exact K1
  · -- a term, entered
    have hEn : g_En u A P Lp (.append (.tag L kids) rest) := by
      intro j o k lo wc st ne n n' m S Lv Wt h0 hj hc hvo hn ho hk hm hLo hni hlo hlb hne hwc hst hS hWa hWb K
      have esz : g_sz (.append (.tag L kids) rest) = 1 + g_sz kids + g_sz rest := rfl
      have edp : g_dp (.append (.tag L kids) rest) = max (if g_sz kids = 0 then 0 else 1 + g_dp kids) (g_dp rest) := rfl
      rw [esz] at hlb hwc hst K
      rw [edp] at K
      obtain ⟨j', e1, -, hj', e4, e5, e6, e7⟩ := g_cFn hc
      have : j = j' := (g_nIne (by omega) (by omega)).mp e1
      subst this
      have ej : (nI j).toNatClampNeg = j := nI_clamp (by omega)
      have hni2 : ¬ o = j := fun q => hni (Or.inl (by rw [q]))
      have hni3 : ¬ g_in A kids (A 4 j) o := fun q => hni (Or.inr (Or.inl (by rw [ej]; exact q)))
      have hni4 : ¬ g_in A rest (A 5 j) o := fun q => hni (Or.inr (Or.inr (by rw [ej]; exact q)))
      obtain ⟨n1, n2, hv0, hv1, hv2⟩ := hvo
      have hvl := g_vo_le rest w2 _ _ hv2
      have hdk := g_dpL kids w1
      have hdr := g_dpL rest w2
      have eP : g_P u (.append (.tag L kids) rest) m = g_S u L (g_sz kids) (g_P u kids 0) (g_P u kids 1) ++ g_P u rest (if m = 1 ∨ m = 2 then 2 else 3) := by
        rw [g_P, if_neg (by omega), if_neg (by omega), if_neg (by omega), if_neg (by omega)]; rfl
      rw [eP] at hS K
      rw [List.length_append] at hS
      have hmx : lo + (if g_sz kids = 0 then 0 else 1 + g_dp kids) ≤ 1100 := by split <;> omega
      refine g_SyJ r1 r2 r3 r4 hl w1 hN ih1.1 (lo := lo) (wc := wc + 1) (n := n) (n1 := n1) (n2 := n2) hj e4 e6 (Or.inr ⟨o, ho, e5, hLo⟩) (g_nin ⟨hl, w1, w2⟩ hc hj) hv0 hv1 (by omega) hlo (by omega) hne (by omega) (by omega) (by omega) hWb (fun st' Lv' Wt' a1 a2 a3 => ?_)
      refine ih2.2 j o k lo wc st' (max ne (lo + (if g_sz kids = 0 then 0 else 1 + g_dp kids))) n2 n' (if m = 1 ∨ m = 2 then 2 else 3) (S ++ g_S u L (g_sz kids) (g_P u kids 0) (g_P u kids 1)) Lv' Wt' hj e7 e5 hv2 hn ho hk ?_ ?_ hni4 (by omega) (by omega) (by omega) (by omega) (by omega) (by rw [List.length_append]; omega) (by rw [a3 wc (by omega)]; exact hWa) (fun st2 Lv2 Wt2 b1 b2 b3 => ?_)
      · rcases hm with ⟨rfl, rfl⟩ | ⟨rfl, rfl, hln⟩
        · exact Or.inl ⟨rfl, rfl⟩
        · refine Or.inr ⟨rfl, rfl, ?_⟩
          have hln : 1 + g_ln rest = 2 := hln
          omega
      · rw [a2 o hni2 hni3]; exact hLo
      · have K1 := K st2 Lv2 Wt2 (by omega) (fun n q => ?_) (fun n q => by rw [b3 n q]; exact a3 n (by omega))
        · rw [show max (max ne (lo + (if g_sz kids = 0 then 0 else 1 + g_dp kids))) (lo + g_dp rest) = max ne (lo + max (if g_sz kids = 0 then 0 else 1 + g_dp kids) (g_dp rest)) by omega, List.append_assoc]
          exact K1
        · rw [b2 n (fun z => q (Or.inr (Or.inr (by rw [ej]; exact z))))]
          exact a2 n (fun z => q (Or.inl (by rw [z]))) (fun z => q (Or.inr (Or.inl (by rw [ej]; exact z))))
    refine ⟨hEn, ?_⟩
    intro i o k lo wc st ne n n' m S Lv Wt hi hc h3 hvo hn ho hk hm hLo hni hlo hlb hne hwc hst hS hW K
    have esz : g_sz (.append (.tag L kids) rest) = 1 + g_sz kids + g_sz rest := rfl
    obtain ⟨j, e1, e2, hj, e4, e5, e6, e7⟩ := g_cFn hc
    have ej : (nI j).toNatClampNeg = j := nI_clamp (by omega)
    have hS1 : S.length < 2 ^ 27 := by omega
    have h5 := g_lk5 hl
    rcases hm with ⟨rfl, rfl⟩ | ⟨rfl, rfl, hln⟩
    · -- behind a term
      have eP : g_P u (.append (.tag L kids) rest) 3 = 44 :: g_P u (.append (.tag L kids) rest) 0 := by
        simp [g_P]
      rw [eP] at hS K
      rw [List.length_cons] at hS
      refine r6 st wc S ne Lv Wt i o 3 j (by omega) (by omega) hS1 hi hW ho h3 hk (by omega) (by decide) e1 hj ?_
      rw [e1] at hc hni K
      refine hEn j o 3 lo wc (st + 1) ne n n' 0 (S ++ [44]) Lv (g_en Wt wc j) (by omega) hj hc hvo hn ho hk (Or.inl ⟨rfl, rfl⟩) hLo hni hlo hlb hne hwc (by omega) (by rw [List.length_append]; show S.length + 1 + _ < _; omega) (by unfold g_en; rw [g_updN (by omega)]; exact g_updY) (by unfold g_en; exact g_updY) (fun st' Lv' Wt' a1 a2 a3 => ?_)
      rw [List.append_assoc]
      exact K st' Lv' Wt' (by omega) a2 (fun n q => by rw [a3 n q]; unfold g_en; rw [g_updN (by omega), g_updN (by omega)])
    · -- behind an item
      have hrest : rest = .nil := by
        have hln : 1 + g_ln rest ≤ 1 := hln
        rcases g_wfc w2 with rfl | ⟨L', kids', rest', rfl, -⟩
        · rfl
        · have : g_ln (.append (.tag L' kids') rest') = 1 + g_ln rest' := rfl
          omega
      subst hrest
      have edp : g_dp (.append (.tag L kids) .nil) = max (if g_sz kids = 0 then 0 else 1 + g_dp kids) 0 := rfl
      have e0 : g_sz Std.Format.nil = 0 := rfl
      rw [e0] at esz
      by_cases k5 : L % 8 = 5
      · have hkn := h5.2.1 (by omega) (by omega)
        subst hkn
        have eP : g_P u (.append (.tag L .nil) .nil) 2 = [93] := by rw [g_P, if_pos ⟨rfl, k5⟩]
        rw [eP] at K
        rw [edp, if_pos e0] at K
        rw [show max ne (lo + max 0 0) = ne by omega] at K
        exact r7 st wc S ne Lv Wt i o j (by omega) (by omega) hS1 hi hW ho h3 hk e1 hj (by have := e4.1; rw [k5] at this; exact this) (K (st + 1) Lv Wt (by omega) (fun _ _ => rfl) (fun _ _ => rfl))
      · by_cases k4 : L % 8 = 4
        · have hln2 := h5.2.2 k4
          have hdk := g_dpL kids w1
          rcases g_wfc w1 with rfl | ⟨L', kids', rest', rfl, -, -, -⟩
          · cases hln2
          obtain ⟨z, f1, f2, f3, f4, f5, f6, f7⟩ := g_cFn e6
          have hz : 0 < g_sz (.append (.tag L' kids') rest') := by show 0 < 1 + g_sz kids' + g_sz rest'; omega
          have eP : g_P u (.append (.tag L (.append (.tag L' kids') rest')) .nil) 2 = 44 :: g_P u (.append (.tag L' kids') rest') 1 := by rw [g_P, if_neg (by omega), if_pos ⟨rfl, k4⟩]
          rw [eP] at hS K
          rw [List.length_cons] at hS
          rw [edp, if_neg (by omega)] at K
          have hjO : ¬ o = j := fun q => hni (Or.inl (by rw [q]; exact e1))
          have hkj : A 0 j = 4 := by have := e4.1; rw [k4] at this; exact this
          refine r8 st wc S ne Lv Wt i o j z lo (by omega) (by omega) hS1 (by omega) hi hW ho h3 hk e1 hj hkj (Or.inr ⟨o, ho, e5, hLo⟩) (by omega) f1 f3 ?_
          have hnj := g_nin (o := o) ⟨hl, w1, w2⟩ (by rw [← e1]; exact hc) hj
          obtain ⟨n1, n2, hv0, hv1, hv2⟩ := hvo
          have hv2 : n' = n2 := hv2
          have e6' := e6
          rw [f1] at e6' hnj
          refine ih1.1 z j 4 (lo + 1) wc (st + 1) (max ne (lo + 1)) n1 n2 1 (S ++ [44]) (upd Lv j (nI (lo + 1))) (g_en Wt wc z) hz f3 e6' hv1 (by omega) hj hkj (Or.inr ⟨rfl, rfl, hln2⟩) g_updY hnj (by omega) (by omega) (by omega) (by omega) (by omega) (by rw [List.length_append]; show S.length + 1 + _ < _; omega) (by unfold g_en; rw [g_updN (by omega)]; exact g_updY) (by unfold g_en; exact g_updY) (fun st' Lv' Wt' a1 a2 a3 => ?_)
          have K1 := K st' Lv' Wt' (by omega) (fun n q => ?_) (fun n q => by rw [a3 n q]; unfold g_en; rw [g_updN (by omega), g_updN (by omega)])
          · rw [List.append_assoc]
            rw [show max (max ne (lo + 1)) (lo + 1 + g_dp (.append (.tag L' kids') rest')) = max ne (lo + max (1 + g_dp (.append (.tag L' kids') rest')) 0) by omega]
            exact K1
          · rw [a2 n (fun w => q (Or.inr (Or.inl (by rw [e1, ej, f1]; exact w))))]
            exact g_updN (fun w => q (Or.inl (by rw [w]; exact e1)))
        · have eP : g_P u (.append (.tag L kids) .nil) 2 = 124 :: g_P u (.append (.tag L kids) .nil) 1 := by
            simp [g_P, k5, k4]
          rw [eP] at hS K
          rw [List.length_cons] at hS
          refine r9 st wc S ne Lv Wt i o j (L % 8) (by omega) (by omega) hS1 hi hW ho h3 hk e1 hj e4.1 (by omega) k5 k4 ?_
          have hsz : 0 < g_sz (.append (.tag L kids) .nil) := by omega
          -- entered under a pair, its one term left: as an item
          obtain ⟨n1, n2, hv0, hv1, hv2⟩ := hvo
          have hv2 : n' = n2 := hv2
          have hdk := g_dpL kids w1
          have hni2 : ¬ o = j := fun q => hni (Or.inl (by rw [q]; exact e1))
          have hni3 : ¬ g_in A kids (A 4 j) o := fun q => hni (Or.inr (Or.inl (by rw [e1, ej]; exact q)))
          have eP1 : g_P u (.append (.tag L kids) .nil) 1 = g_S u L (g_sz kids) (g_P u kids 0) (g_P u kids 1) ++ [93] := by
            rw [g_P, if_neg (by omega), if_neg (by omega), if_neg (by omega), if_neg (by omega), if_pos (by omega)]; rfl
          rw [eP1] at hS K
          rw [List.length_append] at hS
          have hS' : S.length + ((g_S u L (g_sz kids) (g_P u kids 0) (g_P u kids 1)).length + 1 + 1) < 2 ^ 27 := hS
          have hmx : lo + (if g_sz kids = 0 then 0 else 1 + g_dp kids) ≤ 1100 := by split <;> omega
          refine g_SyJ r1 r2 r3 r4 hl w1 hN ih1.1 (lo := lo) (wc := wc + 1) (n := n) (n1 := n1) (n2 := n2) hj e4 e6 (Or.inr ⟨o, ho, e5, hLo⟩) (g_nin (o := o) ⟨hl, w1, w2⟩ (by rw [← e1]; exact hc) hj) hv0 hv1 (by omega) hlo (by omega) hne (by omega) (by omega) (by rw [List.length_append]; show S.length + 1 + _ < _; omega) (by unfold g_en; exact g_updY) (fun st' Lv' Wt' a1 a2 a3 => ?_)
          have e7 : A 5 j = -1 := e7
          refine r5 st' wc _ _ Lv' Wt' j o 4 (by omega) (by omega) (by rw [List.length_append, List.length_append]; show S.length + 1 + _ < _; omega) hj (by rw [a3 wc (by omega)]; unfold g_en; rw [g_updN (by omega)]; exact g_updY) ho e5 hk (by decide) e7 ?_
          have K1 := K (st' + 1) Lv' Wt' (by omega) (fun n q => ?_) (fun n q => by rw [a3 n (by omega)]; unfold g_en; rw [g_updN (by omega), g_updN (by omega)])
          · rw [edp] at K1
            rw [if_pos rfl, List.append_assoc, List.append_assoc]
            rw [show max ne (lo + (if g_sz kids = 0 then 0 else 1 + g_dp kids)) = max ne (lo + max (if g_sz kids = 0 then 0 else 1 + g_dp kids) 0) by omega]
            exact K1
          · exact a2 n (fun z => q (Or.inl (by rw [z]; exact e1))) (fun z => q (Or.inr (Or.inl (by rw [e1, ej]; exact z))))
