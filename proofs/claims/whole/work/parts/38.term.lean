theorem x_callV4Z {E : xR} {M : xM} {R : Room} {Q : xK} {h : xH} {pc : Nat} {lv : List (Nat × Value)} {rest : List Value} {u : Nat → Nat} {N p s w : Nat} {A A0 : Nat → Nat → Int32} {s0 : Nat} {r : g_Rs} {idx : Nat} {M' : xM} {d0 : Nat} {i ci N0 : Nat} {fs : List Value} {T : u_T} {a1 a2 a3 a4 : Value} (d : decode M.2.1 pc = .ok (.invokevirtual idx, 3)) (hk : x_CV M.1.cls idx M' 4) (hi : i < 52) (hlo1 : i < 1000000) (hc : (g_pw u N h p s w A) i = .inr (ci, fs)) (hcc : x_Cl[ci]? = some (M'.1.cls, T, N0)) (hM : x_Mt E M' d0 1 6 [.ref i, a1, a2, a3, a4] 52 (g_pw u N h p s w A) (g_Po u N h A0 s0 r)) (hfr : d0 + 1 ≤ R.frames) (hlo : 8 + (M'.2.2.1 + 11) + 64 * d0 ≤ R.locals) (hcl : 1 ≤ R.cells) (hsl : 6 ≤ R.slots) (hrs : (rest.map fun v => v.category).sum ≤ 8) (ho : M.2.2.2.2.all (fun t => !(decide (t.1 ≤ pc) && decide (pc < t.2.1))) = true) (hnt : ¬ x_tg E)
    (kr : ∀ p' s' V' t c A' w' jn, r = .inr (p', s', V', t, c) → ¬ g_ky (g_at u N) N p' = 12 → jn < 1001 → w' ≤ 1000 → g_okA A' → g_RL A0 A' s0 s' w' V' t jn → x_W E M R Q 52 (g_pw u N h p' s' w' A') (pc + 3) lv (.int (nI jn) :: rest) 0 0)
    (kt : ∀ q, g_dd u N r q → ∀ h', g_XF N h q (.inr 2) 52 h' 1 6 → Q (.inr 2) 52 h' 1 6) : x_W E M R Q 52 (g_pw u N h p s w A) pc lv (a4 :: a3 :: a2 :: a1 :: .ref i :: rest) 0 0 := by
  refine x_callV4 d hk hi hlo1 hc hcc hM hfr hlo (by omega) (by omega) hrs ho (fun z => absurd z hnt) (fun v n' h' k j hq => ?_) (fun q n' h' k j hq => ?_)
  · cases hr : r with
    | inl q => rw [hr] at hq; cases hq.1
    | inr y =>
      obtain ⟨p', s', V', t, c⟩ := y
      rw [hr] at hq
      change (if g_ky (g_at u N) N p' = 12 then g_XF N h p' else _) _ n' h' k j at hq
      by_cases hk12 : g_ky (g_at u N) N p' = 12
      · rw [if_pos hk12] at hq; cases hq.1
      · rw [if_neg hk12] at hq
        obtain ⟨A', w', jn, e1, e2, e3, e4, e5, e6, e7, e8, e9⟩ := hq
        cases e1
        subst e2 e3 e4
        exact x_same e9 (kr p' s' V' t c A' w' jn hr hk12 e5 e6 e7 e8)
  · cases hr : r with
    | inl q0 =>
      rw [hr] at hq
      have hx := hq
      obtain ⟨e1, e2, e3, e4, -⟩ := hq
      cases e1
      subst e2 e3 e4
      exact kt q0 (Or.inl hr) h' hx
    | inr y =>
      obtain ⟨p', s', V', t, c⟩ := y
      rw [hr] at hq
      change (if g_ky (g_at u N) N p' = 12 then g_XF N h p' else _) _ n' h' k j at hq
      by_cases hk12 : g_ky (g_at u N) N p' = 12
      · rw [if_pos hk12] at hq
        have hx := hq
        obtain ⟨e1, e2, e3, e4, -⟩ := hq
        cases e1
        subst e2 e3 e4
        exact kt p' (Or.inr ⟨s', V', t, c, hr, hk12⟩) h' hx
      · rw [if_neg hk12] at hq
        obtain ⟨A', w', jn, e1, -⟩ := hq
        cases e1
theorem g_fitT : ∀ i, i < 24 → g_fit true i = true → i = 4 ∨ i = 22 := by decide
theorem g_nmFt {a : Nat → Int32} {f t : Nat} : ∀ m i, i + m = 24 → g_nmF a f t true m i = 23 ∨ ((g_nmF a f t true m i = 4 ∨ g_nmF a f t true m i = 22) ∧ g_is a f t (g_tx (g_nmF a f t true m i)) = true)
  | 0, i, _ => Or.inl rfl
  | m + 1, i, h => by
    rw [g_nmF]
    cases hb : g_fit true i && g_is a f t (g_tx i) with
    | true =>
      obtain ⟨q1, q2⟩ := Bool.and_eq_true_iff.mp hb
      exact Or.inr ⟨g_fitT i (by omega) q1, q2⟩
    | false => exact g_nmFt m (i + 1) (by omega)
theorem g_px_nl {a : Nat → Int32} {k f t : Nat} (h : g_nm a k f t true ≠ 23) : g_is a f t [91, 93] = false := by
  unfold g_nm at h
  by_cases hk : k = 2
  · rw [if_pos hk] at h
    rcases g_nmFt (a := a) (f := f) (t := t) 24 0 rfl with q | ⟨q1, q2⟩
    · exact absurd q h
    · have e : ∀ l : List Int32, g_is a f t l = true → t - f = l.length ∧ g_mt a l f = true := fun l hl => by
        obtain ⟨z1, z2⟩ := Bool.and_eq_true_iff.mp hl
        exact ⟨of_decide_eq_true z1, z2⟩
      cases hb : g_is a f t [91, 93] with
      | false => rfl
      | true =>
        obtain ⟨b1, b2⟩ := e _ hb
        have b3 : a f = 91 := of_decide_eq_true (Bool.and_eq_true_iff.mp b2).1
        rcases q1 with q1 | q1
        · rw [q1] at q2
          obtain ⟨c1, c2⟩ := e _ q2
          have c3 : a f = 92 := of_decide_eq_true (Bool.and_eq_true_iff.mp c2).1
          exact absurd (b3.symm.trans c3) (by decide)
        · rw [q1] at q2
          obtain ⟨c1, c2⟩ := e _ q2
          have c4 : t - f = 1 := c1
          have b4 : t - f = 2 := b1
          omega
  · rw [if_neg hk] at h
    exact absurd rfl h
theorem g_preRL {A A1 A3 : Nat → Nat → Int32} {s s3 w1 w3 f t j z : Nat} {V V3 : List (Nat × Nat)} {x : Nat × Std.Format} (hs3 : s + 1 ≤ s3) (h1 : g_RL A A1 s (s + 1) w1 V (g_lb 3 f t, g_nil) j) (h3 : g_RL A1 A3 (s + 1) s3 w3 V3 x z) : g_RL A (g_gF A3 j z) s s3 w3 V3 (g_lb 3 f t, g_nd x g_nil) j := by
  intro hs
  obtain ⟨a1, a2, a3, a4, a5, a6⟩ := h1 (by omega)
  obtain ⟨b1, b2, b3, b4, b5, b6⟩ := h3 hs
  have ks : ∀ q, q ≤ 6 → q ≠ 4 → g_gF A3 j z q j = A1 q j := fun q hq h4 => by
    rw [g_gFN (Or.inl h4) (Or.inr (by omega))]; exact b1 j (by omega) q hq
  refine ⟨fun n hn q hq => ?_, a2, by omega, ⟨(ks 5 (by decide) (by decide)).trans a4.1, (ks 3 (by decide) (by decide)).trans a4.2⟩, ⟨?_, ?_⟩, ?_⟩
  · rw [g_gFN (Or.inr (by omega)) (Or.inr (by omega)), b1 n (by omega) q hq]
    exact a1 n hn q hq
  · have := a5.1
    unfold g_row at this ⊢
    rw [ks 0 (by decide) (by decide), ks 6 (by decide) (by decide), ks 1 (by decide) (by decide), ks 2 (by decide) (by decide)]
    exact this
  · show g_cF _ _ (g_nd x g_nil) (g_gF A3 j z 4 j) j
    rw [g_gF4]
    refine g_cF_nd.mpr ⟨z, rfl, ⟨by omega, b3, by omega⟩, by omega, ?_, g_gF3, ?_⟩
    · exact g_cT_mv (P := fun n => s + 1 ≤ n ∧ n < s3 ∧ n ≠ z) (fun n hn => ⟨⟨by omega, by omega, by omega⟩, fun q hq => g_gFN (Or.inr (by omega)) (Or.inr hn.2.2)⟩) (fun q hq h3 _ => g_gFN (Or.inr (by omega)) (Or.inl h3)) b5
    · show g_gF A3 j z 5 z = -1
      rw [g_gFN (Or.inl (by decide)) (Or.inl (by decide))]; exact b4.1
  · exact g_VImv (fun v => g_gFN (Or.inl (by decide)) (Or.inl (by decide))) (fun n _ => ⟨g_gFN (Or.inl (by decide)) (Or.inl (by decide)), g_gFN (Or.inl (by decide)) (Or.inl (by decide))⟩) (Nat.le_refl _) b6
theorem g_par0 {u : Nat → Nat} {N : Nat} {r : g_Rs} {p' s' c : Nat} {V' : List (Nat × Nat)} {t : Nat × Std.Format} (h : (g_bd r fun p2 s2 V2 x _ => if g_ky (g_at u N) N p2 = 5 then .inr (g_nx (g_at u N) N p2, s2, V2, x, 0) else .inl p2) = .inr (p', s', V', t, c)) : c = 0 := by
  obtain ⟨p2, s2, V2, x, c2, e1, e2⟩ := g_bdi h
  by_cases hk : g_ky (g_at u N) N p2 = 5
  · rw [if_pos hk] at e2; cases e2; rfl
  · rw [if_neg hk] at e2; cases e2
theorem g_liC0 {a : Nat → Int32} {N p s : Nat} {V : List (Nat × Nat)} {t : Nat × Std.Format} {p' s' c : Nat} {V' : List (Nat × Nat)} {t' : Nat × Std.Format} (h : g_liC a N p s V t = .inr (p', s', V', t', c)) : c = 0 := by
  unfold g_liC at h
  by_cases hk : g_ky a N p = 7
  · rw [if_pos hk] at h; cases h; rfl
  · rw [if_neg hk] at h; cases h
theorem g_liE0 {a : Nat → Int32} {N : Nat} {tt : Nat → Nat → Nat → List (Nat × Nat) → g_Rs} {p s : Nat} {V : List (Nat × Nat)} {acc : List (Nat × Std.Format)} {p' s' c : Nat} {V' : List (Nat × Nat)} {t' : Nat × Std.Format} (h : g_liE a N tt p s V acc = .inr (p', s', V', t', c)) : c = 0 := by
  unfold g_liE at h
  by_cases hk : g_ky a N p = 11
  · rw [if_pos hk] at h
    obtain ⟨p2, s2, V2, x, c2, e1, e2⟩ := g_bdi h
    exact g_liC0 e2
  · rw [if_neg hk] at h; exact g_liC0 h
theorem g_liL0 {a : Nat → Int32} {N : Nat} {tt : Nat → Nat → Nat → List (Nat × Nat) → g_Rs} : ∀ (m p s : Nat) (V : List (Nat × Nat)) (acc : List (Nat × Std.Format)) {p' s' c : Nat} {V' : List (Nat × Nat)} {t' : Nat × Std.Format}, g_liL a N tt m p s V acc = .inr (p', s', V', t', c) → c = 0
  | 0, _, _, _, _, _, _, _, _, _, h => g_liE0 h
  | m + 1, p, s, V, acc, _, _, _, _, _, h => by
    rw [g_liL] at h
    by_cases hk : g_ky a N p = 10
    · rw [if_pos hk] at h
      obtain ⟨p2, s2, V2, x, c2, e1, e2⟩ := g_bdi h
      exact g_liL0 m _ _ _ _ e2
    · rw [if_neg hk] at h; exact g_liE0 h
theorem g_li0 {a : Nat → Int32} {N : Nat} {tt : Nat → Nat → Nat → List (Nat × Nat) → g_Rs} {p s : Nat} {V : List (Nat × Nat)} {p' s' c : Nat} {V' : List (Nat × Nat)} {t' : Nat × Std.Format} (h : g_li a N tt p s V = .inr (p', s', V', t', c)) : c = 0 := by
  unfold g_li at h
  obtain ⟨p2, s2, V2, x, c2, e1, e2⟩ := g_bdi h
  exact g_liL0 _ _ _ _ _ e2
theorem g_ar0 {a : Nat → Int32} {N q : Nat} {tt : Nat → Nat → Nat → List (Nat × Nat) → g_Rs} : ∀ (m p s : Nat) (V : List (Nat × Nat)) (acc : List (Nat × Std.Format)) {p' s' c : Nat} {V' : List (Nat × Nat)} {t' : Nat × Std.Format}, g_arL a N tt q m p s V acc = .inr (p', s', V', t', c) → c = 0
  | 0, _, _, _, _, _, _, _, _, _, h => by rw [g_arL] at h; cases h
  | m + 1, p, s, V, acc, _, _, _, _, _, h => by
    rw [g_arL] at h
    obtain ⟨p2, s2, V2, x, c2, e1, e2⟩ := g_bdi h
    by_cases hk : g_ky a N p2 = 10
    · rw [if_pos hk] at e2
      exact g_ar0 m _ _ _ _ e2
    · rw [if_neg hk] at e2
      by_cases hk5 : g_ky a N p2 = 5
      · rw [if_pos hk5] at e2; cases e2; rfl
      · rw [if_neg hk5] at e2; cases e2
theorem d_PA_term_0 : decode M_PA_term.2.1 0 = .ok (.iload_n 2, 1) := by decide +kernel
theorem d_PA_term_1 : decode M_PA_term.2.1 1 = .ok (.bipush 100, 2) := by decide +kernel
theorem d_PA_term_3 : decode M_PA_term.2.1 3 = .ok (.if_icmp .le 10, 3) := by decide +kernel
theorem d_PA_term_6 : decode M_PA_term.2.1 6 = .ok (.aload_n 0, 1) := by decide +kernel
theorem d_PA_term_7 : decode M_PA_term.2.1 7 = .ok (.getfield 12, 3) := by decide +kernel
theorem d_PA_term_10 : decode M_PA_term.2.1 10 = .ok (.invokevirtual 69, 3) := by decide +kernel
theorem d_PA_term_13 : decode M_PA_term.2.1 13 = .ok (.aload_n 0, 1) := by decide +kernel
theorem d_PA_term_14 : decode M_PA_term.2.1 14 = .ok (.getfield 12, 3) := by decide +kernel
theorem d_PA_term_17 : decode M_PA_term.2.1 17 = .ok (.getfield 72, 3) := by decide +kernel
theorem d_PA_term_20 : decode M_PA_term.2.1 20 = .ok (.getstatic 75, 3) := by decide +kernel
theorem d_PA_term_23 : decode M_PA_term.2.1 23 = .ok (.if_acmp .ne 16, 3) := by decide +kernel
theorem d_PA_term_26 : decode M_PA_term.2.1 26 = .ok (.aload_n 0, 1) := by decide +kernel
theorem d_PA_term_27 : decode M_PA_term.2.1 27 = .ok (.aload_n 0, 1) := by decide +kernel
theorem d_PA_term_28 : decode M_PA_term.2.1 28 = .ok (.iload_n 2, 1) := by decide +kernel
theorem d_PA_term_29 : decode M_PA_term.2.1 29 = .ok (.invokevirtual 78, 3) := by decide +kernel
theorem d_PA_term_32 : decode M_PA_term.2.1 32 = .ok (.iconst 0, 1) := by decide +kernel
theorem d_PA_term_33 : decode M_PA_term.2.1 33 = .ok (.iload_n 1, 1) := by decide +kernel
theorem d_PA_term_34 : decode M_PA_term.2.1 34 = .ok (.iload_n 2, 1) := by decide +kernel
theorem d_PA_term_35 : decode M_PA_term.2.1 35 = .ok (.invokevirtual 82, 3) := by decide +kernel
theorem d_PA_term_38 : decode M_PA_term.2.1 38 = .ok (.ireturn, 1) := by decide +kernel
theorem d_PA_term_39 : decode M_PA_term.2.1 39 = .ok (.aload_n 0, 1) := by decide +kernel
theorem d_PA_term_40 : decode M_PA_term.2.1 40 = .ok (.getfield 12, 3) := by decide +kernel
theorem d_PA_term_43 : decode M_PA_term.2.1 43 = .ok (.getfield 72, 3) := by decide +kernel
theorem d_PA_term_46 : decode M_PA_term.2.1 46 = .ok (.getstatic 86, 3) := by decide +kernel
theorem d_PA_term_49 : decode M_PA_term.2.1 49 = .ok (.if_acmp .ne 16, 3) := by decide +kernel
theorem d_PA_term_52 : decode M_PA_term.2.1 52 = .ok (.aload_n 0, 1) := by decide +kernel
theorem d_PA_term_53 : decode M_PA_term.2.1 53 = .ok (.aload_n 0, 1) := by decide +kernel
theorem d_PA_term_54 : decode M_PA_term.2.1 54 = .ok (.iload_n 2, 1) := by decide +kernel
theorem d_PA_term_55 : decode M_PA_term.2.1 55 = .ok (.invokevirtual 89, 3) := by decide +kernel
theorem d_PA_term_58 : decode M_PA_term.2.1 58 = .ok (.iconst 0, 1) := by decide +kernel
theorem d_PA_term_59 : decode M_PA_term.2.1 59 = .ok (.iload_n 1, 1) := by decide +kernel
theorem d_PA_term_60 : decode M_PA_term.2.1 60 = .ok (.iload_n 2, 1) := by decide +kernel
theorem d_PA_term_61 : decode M_PA_term.2.1 61 = .ok (.invokevirtual 82, 3) := by decide +kernel
theorem d_PA_term_64 : decode M_PA_term.2.1 64 = .ok (.ireturn, 1) := by decide +kernel
theorem d_PA_term_65 : decode M_PA_term.2.1 65 = .ok (.aload_n 0, 1) := by decide +kernel
theorem d_PA_term_66 : decode M_PA_term.2.1 66 = .ok (.getfield 12, 3) := by decide +kernel
theorem d_PA_term_69 : decode M_PA_term.2.1 69 = .ok (.invokevirtual 92, 3) := by decide +kernel
theorem d_PA_term_72 : decode M_PA_term.2.1 72 = .ok (.ifCond .eq 16, 3) := by decide +kernel
theorem d_PA_term_75 : decode M_PA_term.2.1 75 = .ok (.aload_n 0, 1) := by decide +kernel
theorem d_PA_term_76 : decode M_PA_term.2.1 76 = .ok (.aload_n 0, 1) := by decide +kernel
theorem d_PA_term_77 : decode M_PA_term.2.1 77 = .ok (.iload_n 2, 1) := by decide +kernel
theorem d_PA_term_78 : decode M_PA_term.2.1 78 = .ok (.invokevirtual 96, 3) := by decide +kernel
theorem d_PA_term_81 : decode M_PA_term.2.1 81 = .ok (.iconst 0, 1) := by decide +kernel
theorem d_PA_term_82 : decode M_PA_term.2.1 82 = .ok (.iload_n 1, 1) := by decide +kernel
theorem d_PA_term_83 : decode M_PA_term.2.1 83 = .ok (.iload_n 2, 1) := by decide +kernel
theorem d_PA_term_84 : decode M_PA_term.2.1 84 = .ok (.invokevirtual 82, 3) := by decide +kernel
theorem d_PA_term_87 : decode M_PA_term.2.1 87 = .ok (.ireturn, 1) := by decide +kernel
theorem d_PA_term_88 : decode M_PA_term.2.1 88 = .ok (.aload_n 0, 1) := by decide +kernel
theorem d_PA_term_89 : decode M_PA_term.2.1 89 = .ok (.getfield 12, 3) := by decide +kernel
theorem d_PA_term_92 : decode M_PA_term.2.1 92 = .ok (.getfield 72, 3) := by decide +kernel
theorem d_PA_term_95 : decode M_PA_term.2.1 95 = .ok (.getstatic 99, 3) := by decide +kernel
theorem d_PA_term_98 : decode M_PA_term.2.1 98 = .ok (.if_acmp .ne 13, 3) := by decide +kernel
theorem d_PA_term_101 : decode M_PA_term.2.1 101 = .ok (.aload_n 0, 1) := by decide +kernel
theorem d_PA_term_102 : decode M_PA_term.2.1 102 = .ok (.getfield 12, 3) := by decide +kernel
theorem d_PA_term_105 : decode M_PA_term.2.1 105 = .ok (.invokevirtual 102, 3) := by decide +kernel
theorem d_PA_term_108 : decode M_PA_term.2.1 108 = .ok (.ifCond .eq 15, 3) := by decide +kernel
theorem d_PA_term_111 : decode M_PA_term.2.1 111 = .ok (.aload_n 0, 1) := by decide +kernel
theorem d_PA_term_112 : decode M_PA_term.2.1 112 = .ok (.aload_n 0, 1) := by decide +kernel
theorem d_PA_term_113 : decode M_PA_term.2.1 113 = .ok (.invokevirtual 105, 3) := by decide +kernel
theorem d_PA_term_116 : decode M_PA_term.2.1 116 = .ok (.iconst 0, 1) := by decide +kernel
theorem d_PA_term_117 : decode M_PA_term.2.1 117 = .ok (.iload_n 1, 1) := by decide +kernel
theorem d_PA_term_118 : decode M_PA_term.2.1 118 = .ok (.iload_n 2, 1) := by decide +kernel
theorem d_PA_term_119 : decode M_PA_term.2.1 119 = .ok (.invokevirtual 82, 3) := by decide +kernel
theorem d_PA_term_122 : decode M_PA_term.2.1 122 = .ok (.ireturn, 1) := by decide +kernel
theorem d_PA_term_123 : decode M_PA_term.2.1 123 = .ok (.aload_n 0, 1) := by decide +kernel
theorem d_PA_term_124 : decode M_PA_term.2.1 124 = .ok (.getfield 12, 3) := by decide +kernel
theorem d_PA_term_127 : decode M_PA_term.2.1 127 = .ok (.invokestatic 109, 3) := by decide +kernel
theorem d_PA_term_130 : decode M_PA_term.2.1 130 = .ok (.astore_n 3, 1) := by decide +kernel
theorem d_PA_term_131 : decode M_PA_term.2.1 131 = .ok (.aload_n 0, 1) := by decide +kernel
theorem d_PA_term_132 : decode M_PA_term.2.1 132 = .ok (.invokevirtual 115, 3) := by decide +kernel
theorem d_PA_term_135 : decode M_PA_term.2.1 135 = .ok (.istore 4, 2) := by decide +kernel
theorem d_PA_term_137 : decode M_PA_term.2.1 137 = .ok (.aload_n 3, 1) := by decide +kernel
theorem d_PA_term_138 : decode M_PA_term.2.1 138 = .ok (.getfield 118, 3) := by decide +kernel
theorem d_PA_term_141 : decode M_PA_term.2.1 141 = .ok (.iload_n 1, 1) := by decide +kernel
theorem d_PA_term_142 : decode M_PA_term.2.1 142 = .ok (.if_icmp .gt 13, 3) := by decide +kernel
theorem d_PA_term_145 : decode M_PA_term.2.1 145 = .ok (.aload_n 0, 1) := by decide +kernel
theorem d_PA_term_146 : decode M_PA_term.2.1 146 = .ok (.getfield 12, 3) := by decide +kernel
theorem d_PA_term_149 : decode M_PA_term.2.1 149 = .ok (.invokevirtual 121, 3) := by decide +kernel
theorem d_PA_term_152 : decode M_PA_term.2.1 152 = .ok (.ifCond .ne 13, 3) := by decide +kernel
theorem d_PA_term_155 : decode M_PA_term.2.1 155 = .ok (.aload_n 0, 1) := by decide +kernel
theorem d_PA_term_156 : decode M_PA_term.2.1 156 = .ok (.iload 4, 2) := by decide +kernel
theorem d_PA_term_158 : decode M_PA_term.2.1 158 = .ok (.iconst 0, 1) := by decide +kernel
theorem d_PA_term_159 : decode M_PA_term.2.1 159 = .ok (.iload_n 1, 1) := by decide +kernel
theorem d_PA_term_160 : decode M_PA_term.2.1 160 = .ok (.iload_n 2, 1) := by decide +kernel
theorem d_PA_term_161 : decode M_PA_term.2.1 161 = .ok (.invokevirtual 82, 3) := by decide +kernel
theorem d_PA_term_164 : decode M_PA_term.2.1 164 = .ok (.ireturn, 1) := by decide +kernel
theorem d_PA_term_165 : decode M_PA_term.2.1 165 = .ok (.aload_n 0, 1) := by decide +kernel
theorem d_PA_term_166 : decode M_PA_term.2.1 166 = .ok (.getfield 21, 3) := by decide +kernel
theorem d_PA_term_169 : decode M_PA_term.2.1 169 = .ok (.iload 4, 2) := by decide +kernel
theorem d_PA_term_171 : decode M_PA_term.2.1 171 = .ok (.aload_n 0, 1) := by decide +kernel
theorem d_PA_term_172 : decode M_PA_term.2.1 172 = .ok (.aload_n 3, 1) := by decide +kernel
theorem d_PA_term_173 : decode M_PA_term.2.1 173 = .ok (.getfield 124, 3) := by decide +kernel
theorem d_PA_term_176 : decode M_PA_term.2.1 176 = .ok (.iload_n 2, 1) := by decide +kernel
theorem d_PA_term_177 : decode M_PA_term.2.1 177 = .ok (.iconst 1, 1) := by decide +kernel
theorem d_PA_term_178 : decode M_PA_term.2.1 178 = .ok (.iadd, 1) := by decide +kernel
theorem d_PA_term_179 : decode M_PA_term.2.1 179 = .ok (.invokevirtual 39, 3) := by decide +kernel
theorem d_PA_term_182 : decode M_PA_term.2.1 182 = .ok (.invokevirtual 127, 3) := by decide +kernel
theorem d_PA_term_185 : decode M_PA_term.2.1 185 = .ok (.aload_n 0, 1) := by decide +kernel
theorem d_PA_term_186 : decode M_PA_term.2.1 186 = .ok (.iload 4, 2) := by decide +kernel
theorem d_PA_term_188 : decode M_PA_term.2.1 188 = .ok (.aload_n 3, 1) := by decide +kernel
theorem d_PA_term_189 : decode M_PA_term.2.1 189 = .ok (.getfield 118, 3) := by decide +kernel
theorem d_PA_term_192 : decode M_PA_term.2.1 192 = .ok (.iload_n 1, 1) := by decide +kernel
theorem d_PA_term_193 : decode M_PA_term.2.1 193 = .ok (.iload_n 2, 1) := by decide +kernel
theorem d_PA_term_194 : decode M_PA_term.2.1 194 = .ok (.invokevirtual 82, 3) := by decide +kernel
theorem d_PA_term_197 : decode M_PA_term.2.1 197 = .ok (.ireturn, 1) := by decide +kernel
set_option maxRecDepth 20000 in
theorem w_PA_term0 {E : xR} {h : xH} {u : Nat → Nat} {N : Nat} (h2 : h 2 = .inr (1, [.ref 3, .ref 5])) : g_CT E h u N 0 := by
  intro most p s w op A V hm ok hp hsp hw hV hk12 hop
  refine x_Mt.of (by decide) (Nat.le_of_ble_eq_true rfl) ?_
  show x_W E M_PA_term _ _ 52 (g_pw u N h p s w A) 0 [(0, .ref 2), (1, .int (nI most)), (2, .int (nI op))] [] 0 0
  refine x_iload_n d_PA_term_0 rfl rfl ?_
  refine x_bipush 100 d_PA_term_1 (by decide) ?_
  refine x_icmp_le 13 d_PA_term_3 (by decide) (fun z => absurd z (show ¬ nI op ≤ nI 100 from nI_ge (by omega) (by omega))) (fun _ => ?_)
  refine x_aload_n d_PA_term_6 rfl rfl ?_
  refine x_get d_PA_term_7 f_PA_12 (Nat.le_of_ble_eq_true rfl) (Nat.le_of_ble_eq_true rfl) (by first | rfl | assumption) (by rfl) ?_
  exact x_callV0X d_PA_term_10 k_PA_69 (Nat.le_of_ble_eq_true rfl) (Nat.le_of_ble_eq_true rfl) g_pw3 (by rfl) (w_SG_breakHere g_pw3) (Nat.le_of_ble_eq_true rfl) (Nat.le_of_ble_eq_true rfl) (Nat.le_of_ble_eq_true rfl) (Nat.le_of_ble_eq_true rfl) (Nat.le_of_ble_eq_true rfl) rfl (fun h' e => ⟨rfl, rfl, rfl, rfl, _, _, _, _, _, _, _, A, ok, fun i hi => (e i hi).trans (g_pw_up i hi)⟩)
set_option maxRecDepth 20000 in
theorem w_PA_termS {E : xR} {h : xH} {u : Nat → Nat} {N d : Nat} (h2 : h 2 = .inr (1, [.ref 3, .ref 5])) (h1 : h 1 = .inl (1, 4096, .inl (fun i => g_sb (u i)))) (hu : ∀ i, u i < 256) (hN : N ≤ 4096) (hnt : ¬ x_tg E) (hT : g_CT E h u N d) : g_CT E h u N (d + 1) := by
  intro most p s w op A V hm ok hp hsp hw hV hk12 hop
  have hop2 : op + 1 + d = 101 := by omega
  have hkk := g_sgk _ (g_kyL (u := u) hp)
  have hsg := hkk.2.2.1
  obtain ⟨hft, htN, hbN, -⟩ := (g_tkb (u := u) hp).2.1 (show (g_tk (g_at u N) N p).1 ≠ 12 from hk12)
  have hft : (g_fr (g_at u N) N p) ≤ (g_to (g_at u N) N p) := hft
  have htN : (g_to (g_at u N) N p) ≤ N := htN
  have hbN : (g_bh (g_at u N) N p) ≤ N := hbN
  have hGT : (g_T (g_at u N) u N (d + 1) most p s V) = g_bd (g_pr (g_at u N) u N (g_T (g_at u N) u N d) most p s V) (fun p2 s2 V2 l lr => g_inL (g_at u N) N (g_T (g_at u N) u N d) most 4096 p2 s2 V2 l lr) := rfl
  refine x_Mt.of (by decide) (Nat.le_of_ble_eq_true rfl) ?_
  have h111 : ∀ r1 : g_Rs, g_pr (g_at u N) u N (g_T (g_at u N) u N d) most p s V = r1 → x_Mt E M_PA_variableOrInteger 9 1 6 [.ref 2] 52 (g_pw u N h p s w A) (g_Po u N h A s r1) → (∀ p2 s2 V2 l2 c2, r1 = .inr (p2, s2, V2, l2, c2) → c2 = 0) → x_W E M_PA_term (x_room (2 * (d + 1) + 12) 1 6) (g_Po u N h A s (g_T (g_at u N) u N (d + 1) most p s V)) 52 (g_pw u N h p s w A) 111 [(0, .ref 2), (1, .int (nI most)), (2, .int (nI op))] [] 0 0 := by
    intro r1 hPR hv hc0
    refine x_aload_n d_PA_term_111 rfl rfl ?_
    refine x_aload_n d_PA_term_112 rfl rfl ?_
    refine x_callV0P d_PA_term_113 k_PA_105 (Nat.le_of_ble_eq_true rfl) (Nat.le_of_ble_eq_true rfl) (by first | rfl | assumption) (by rfl) hv (show 9 + 1 ≤ 2 * (d + 1) + 12 by omega) (show 8 + (2 + 11) + 64 * (9) ≤ 64 * (2 * (d + 1) + 12) by omega) (Nat.le_of_ble_eq_true rfl) (Nat.le_of_ble_eq_true rfl) (Nat.le_of_ble_eq_true rfl) rfl hnt (fun p2 s2 V2 l2 c2 A2 w2 j2 hr hk2 hj2 hw2 ok2 hRL2 => ?_) (fun q hd h' hx => g_Po_x (hGT ▸ g_dd_bd (hPR ▸ hd) (fun _ _ _ _ z => g_inL12 hm z)) hx)
    obtain rfl := hc0 _ _ _ _ _ hr
    have hb2 := g_prb (u := u) (fun m p s V => g_Tb (u := u) d m p s V) hm hp _ _ _ _ _ (hPR.trans hr)
    have hRT : (g_inL (g_at u N) N (g_T (g_at u N) u N d) most 4096 p2 s2 V2 l2 0) = (g_T (g_at u N) u N (d + 1) most p s V) := by rw [hGT, hPR, hr]; rfl
    refine x_iconst 0 d_PA_term_116 (by decide) ?_
    refine x_iload_n d_PA_term_117 rfl rfl ?_
    refine x_iload_n d_PA_term_118 rfl rfl ?_
    refine x_callV4Z d_PA_term_119 k_PA_82 (Nat.le_of_ble_eq_true rfl) (Nat.le_of_ble_eq_true rfl) (by first | rfl | assumption) (by rfl) (w_PA_withInfixes (lr := 0) h2 h1 hu hN hnt hT hop2 hm ok2 hb2.2.1 (by omega) hw2 hk2 (by decide) hj2 (by omega) hRL2) (show 2 * d + 13 + 1 ≤ 2 * (d + 1) + 12 by omega) (show 8 + (10 + 11) + 64 * (2 * d + 13) ≤ 64 * (2 * (d + 1) + 12) by omega) (Nat.le_of_ble_eq_true rfl) (Nat.le_of_ble_eq_true rfl) (Nat.le_of_ble_eq_true rfl) rfl hnt (fun p4 s4 V4 l4 c4 A4 w4 j4 hr4 hk4 hj4 hw4 ok4 hRL4 => ?_) (fun q hd h' hx => g_Po_x (hRT ▸ hd) hx)
    exact x_ireturn d_PA_term_122 rfl rfl (g_Po_y (hRT.symm.trans hr4) hk4 hj4 hw4 ok4 hRL4 (fun _ _ => rfl))
  have h123 : (g_ky (g_at u N) N p) = 3 → ¬ g_at u N (g_bh (g_at u N) N p) = 40 → ¬ (g_dig (g_at u N (g_bh (g_at u N) N p)) && g_is (g_at u N) (g_fr (g_at u N) N p) (g_to (g_at u N) N p) [45]) = true → x_W E M_PA_term (x_room (2 * (d + 1) + 12) 1 6) (g_Po u N h A s (g_T (g_at u N) u N (d + 1) most p s V)) 52 (g_pw u N h p s w A) 123 [(0, .ref 2), (1, .int (nI most)), (2, .int (nI op))] [] 0 0 := by
    intro hk3 hn40 hnm
    have hnb := g_nxb (u := u) hp hk12
    have hnb3 := hnb.2.2 (by omega)
    have hpx : g_nm (g_at u N) (g_sg (g_ky (g_at u N) N p)) (g_fr (g_at u N) N p) (g_to (g_at u N) N p) true < 24 := g_nmL
    have hrk : _ = nI (g_rk (g_px (g_at u N) N p)) ∧ g_rk (g_px (g_at u N) N p) < 10000 := g_rkI _ hpx
    have hPR0 : g_pr (g_at u N) u N (g_T (g_at u N) u N d) most p s V = g_nam (g_at u N) N (g_T (g_at u N) u N d) most p s V := by unfold g_pr; rw [if_neg (by omega), if_neg (by omega), if_neg (by omega), if_neg (by omega), if_pos hk3]
    have hNM : g_nam (g_at u N) N (g_T (g_at u N) u N d) most p s V = (if most < g_rk (g_px (g_at u N) N p) ∨ g_bg (g_at u N) N (g_nx (g_at u N) N p) = false then .inr ((g_nx (g_at u N) N p), s + 1, V, (bif g_is (g_at u N) (g_fr (g_at u N) N p) (g_to (g_at u N) N p) [91, 93] then g_lb 5 0 0 else g_lb 3 (g_fr (g_at u N) N p) (g_to (g_at u N) N p), g_nil), 0) else g_bd ((g_T (g_at u N) u N d) (g_rt (g_px (g_at u N) N p)) (g_nx (g_at u N) N p) (s + 1) V) fun p2 s2 V2 x _ => .inr (p2, s2, V2, (g_lb 3 (g_fr (g_at u N) N p) (g_to (g_at u N) N p), g_nd x g_nil), g_rk (g_px (g_at u N) N p))) := by unfold g_nam; rw [if_neg hn40, if_neg hnm]
    have h155 : ∀ (A2 : Nat → Nat → Int32) (w2 j2 : Nat), ¬ (g_ky (g_at u N) N (g_nx (g_at u N) N p)) = 12 → j2 < 1001 → w2 ≤ 1000 → g_okA A2 → g_RL A A2 s (s + 1) w2 V (bif g_is (g_at u N) (g_fr (g_at u N) N p) (g_to (g_at u N) N p) [91, 93] then g_lb 5 0 0 else g_lb 3 (g_fr (g_at u N) N p) (g_to (g_at u N) N p), g_nil) j2 → (most < g_rk (g_px (g_at u N) N p) ∨ g_bg (g_at u N) N (g_nx (g_at u N) N p) = false) → x_W E M_PA_term (x_room (2 * (d + 1) + 12) 1 6) (g_Po u N h A s (g_T (g_at u N) u N (d + 1) most p s V)) 52 (g_pw u N h (g_nx (g_at u N) N p) (s + 1) w2 A2) 155 [(0, .ref 2), (1, .int (nI most)), (2, .int (nI op)), (3, .ref (1100000 + g_px (g_at u N) N p)), (4, .int (nI j2))] [] 0 0 := by
      intro A2 w2 j2 hk2 hj2 hw2 ok2 hRL2 hcond
      have hRT : (g_inL (g_at u N) N (g_T (g_at u N) u N d) most 4096 (g_nx (g_at u N) N p) (s + 1) V (bif g_is (g_at u N) (g_fr (g_at u N) N p) (g_to (g_at u N) N p) [91, 93] then g_lb 5 0 0 else g_lb 3 (g_fr (g_at u N) N p) (g_to (g_at u N) N p), g_nil) 0) = (g_T (g_at u N) u N (d + 1) most p s V) := by rw [hGT, hPR0, hNM, if_pos hcond]; rfl
      refine x_aload_n d_PA_term_155 rfl rfl ?_
      refine x_iload d_PA_term_156 rfl ?_
      refine x_iconst 0 d_PA_term_158 (by decide) ?_
      refine x_iload_n d_PA_term_159 rfl rfl ?_
      refine x_iload_n d_PA_term_160 rfl rfl ?_
      refine x_callV4Z d_PA_term_161 k_PA_82 (Nat.le_of_ble_eq_true rfl) (Nat.le_of_ble_eq_true rfl) (by first | rfl | assumption) (by rfl) (w_PA_withInfixes (lr := 0) h2 h1 hu hN hnt hT hop2 hm ok2 hnb.2.1 (by omega) hw2 hk2 (by decide) hj2 (by omega) hRL2) (show 2 * d + 13 + 1 ≤ 2 * (d + 1) + 12 by omega) (show 8 + (10 + 11) + 64 * (2 * d + 13) ≤ 64 * (2 * (d + 1) + 12) by omega) (Nat.le_of_ble_eq_true rfl) (Nat.le_of_ble_eq_true rfl) (Nat.le_of_ble_eq_true rfl) rfl hnt (fun p4 s4 V4 l4 c4 A4 w4 j4 hr4 hk4 hj4 hw4 ok4 hRL4 => ?_) (fun q hd h' hx => g_Po_x (hRT ▸ hd) hx)
      exact x_ireturn d_PA_term_164 rfl rfl (g_Po_y (hRT.symm.trans hr4) hk4 hj4 hw4 ok4 hRL4 (fun _ _ => rfl))
    have hAt : (g_ky (g_at u N) N (g_nx (g_at u N) N p)) = 12 → g_dd u N (g_T (g_at u N) u N (d + 1) most p s V) (g_nx (g_at u N) N p) := by
      intro h12
      rw [hGT, hPR0, hNM]
      by_cases hcond : most < g_rk (g_px (g_at u N) N p) ∨ g_bg (g_at u N) N (g_nx (g_at u N) N p) = false
      · rw [if_pos hcond]
        exact g_inL12 hm h12
      · rw [if_neg hcond, g_T12 h12]
        exact Or.inl rfl
    refine x_aload_n d_PA_term_123 rfl rfl ?_
    refine x_get d_PA_term_124 f_PA_12 (Nat.le_of_ble_eq_true rfl) (Nat.le_of_ble_eq_true rfl) (by first | rfl | assumption) (by rfl) ?_
    refine x_callS1Y d_PA_term_127 k_PA_109 (w_OP_prefixAt hsg g_pw3 (g_pw1.trans h1) hu hN hft (by omega)) (show 6 + 1 ≤ 2 * (d + 1) + 12 by omega) (show 8 + (1 + 11) + 64 * (6) ≤ 64 * (2 * (d + 1) + 12) by omega) (Nat.le_of_ble_eq_true rfl) (Nat.le_of_ble_eq_true rfl) (Nat.le_of_ble_eq_true rfl) rfl ?_
    refine x_astore_n d_PA_term_130 rfl (Nat.le_of_ble_eq_true rfl) ?_
    refine x_aload_n d_PA_term_131 rfl rfl ?_
    refine x_callV0P d_PA_term_132 k_PA_115 (Nat.le_of_ble_eq_true rfl) (Nat.le_of_ble_eq_true rfl) (by first | rfl | assumption) (by rfl) (w_PA_atom h2 h1 hu hN hnt ok hp hsp hw hV hk3) (show 9 + 1 ≤ 2 * (d + 1) + 12 by omega) (show 8 + (2 + 11) + 64 * (9) ≤ 64 * (2 * (d + 1) + 12) by omega) (Nat.le_of_ble_eq_true rfl) (Nat.le_of_ble_eq_true rfl) (Nat.le_of_ble_eq_true rfl) rfl hnt (fun p2 s2 V2 l2 c2 A2 w2 j2 hr hk2 hj2 hw2 ok2 hRL2 => ?_) (fun q hd h' hx => by
        rcases hd with hd | ⟨s', V', t', c', hd, h12⟩
        · cases hd
        · cases hd
          exact g_Po_x (hAt h12) hx)
    cases hr
    refine x_istore d_PA_term_135 (Nat.le_of_ble_eq_true rfl) ?_
    refine x_aload_n d_PA_term_137 rfl rfl ?_
    refine x_gOPi (k := 1) d_PA_term_138 (by first | assumption | decide | omega) rfl s_PA_118 ?_
    refine x_topi (nI (g_rk (g_px (g_at u N) N p))) hrk.1 ?_
    refine x_iload_n d_PA_term_141 rfl rfl ?_
    refine x_icmp_gt 155 d_PA_term_142 (by decide) (fun c_142 => ?_) (fun c_142 => ?_)
    · exact h155 A2 w2 j2 hk2 hj2 hw2 ok2 hRL2 (Or.inl (Nat.not_le.mp fun q => absurd c_142 (nI_nlt q (by omega))))
    · have hle : g_rk (g_px (g_at u N) N p) ≤ most := Nat.not_lt.mp fun q => c_142 (nI_lt q (by omega))
      obtain ⟨hft1, htN1, -, -⟩ := (g_tkb (u := u) hnb.2.1).2.1 (show (g_tk (g_at u N) N (g_nx (g_at u N) N p)).1 ≠ 12 from hk2)
      have hft1 : (g_fr (g_at u N) N (g_nx (g_at u N) N p)) ≤ (g_to (g_at u N) N (g_nx (g_at u N) N p)) := hft1
      have htN1 : (g_to (g_at u N) N (g_nx (g_at u N) N p)) ≤ N := htN1
      have hsg1 := (g_sgk _ (g_kyL (u := u) hnb.2.1)).2.2.1
      refine x_aload_n d_PA_term_145 rfl rfl ?_
      refine x_get d_PA_term_146 f_PA_12 (Nat.le_of_ble_eq_true rfl) (Nat.le_of_ble_eq_true rfl) (by first | rfl | assumption) (by rfl) ?_
      refine x_callV0Y d_PA_term_149 k_PA_121 (Nat.le_of_ble_eq_true rfl) (Nat.le_of_ble_eq_true rfl) (by first | rfl | assumption) (by rfl) (w_SG_canBeginTerm hsg1 g_pw3 (g_pw1.trans h1) hu hN hft1 (by omega)) (show 7 + 1 ≤ 2 * (d + 1) + 12 by omega) (show 8 + (3 + 11) + 64 * (7) ≤ 64 * (2 * (d + 1) + 12) by omega) (Nat.le_of_ble_eq_true rfl) (Nat.le_of_ble_eq_true rfl) (Nat.le_of_ble_eq_true rfl) rfl ?_
      refine x_if_ne 165 d_PA_term_152 (by decide) (fun c_152 => ?_) (fun c_152 => ?_)
      · have hbg : g_bg (g_at u N) N (g_nx (g_at u N) N p) = true := by unfold g_bg; rw [g_b2n c_152, Bool.or_true]
        have hcond : ¬ (most < g_rk (g_px (g_at u N) N p) ∨ g_bg (g_at u N) N (g_nx (g_at u N) N p) = false) := fun q => q.elim (fun z => by omega) (fun z => by rw [hbg] at z; cases z)
        have hn23 : g_nm (g_at u N) (g_sg (g_ky (g_at u N) N p)) (g_fr (g_at u N) N p) (g_to (g_at u N) N p) true ≠ 23 := fun q => by
          have e : g_rk (g_px (g_at u N) N p) = 9999 := by unfold g_px; rw [q]; rfl
          omega
        rw [g_px_nl hn23] at hRL2
        refine x_aload_n d_PA_term_165 rfl rfl ?_
        refine x_get d_PA_term_166 f_PA_21 (Nat.le_of_ble_eq_true rfl) (Nat.le_of_ble_eq_true rfl) (by first | rfl | assumption) (by rfl) ?_
        refine x_iload d_PA_term_169 rfl ?_
        refine x_aload_n d_PA_term_171 rfl rfl ?_
        refine x_aload_n d_PA_term_172 rfl rfl ?_
        refine x_gOPi (k := 3) d_PA_term_173 (by first | assumption | decide | omega) rfl s_PA_124 ?_
        refine x_topi (nI (g_rt (g_px (g_at u N) N p))) (g_rtI _ hpx hn23) ?_
        refine x_iload_n d_PA_term_176 rfl rfl ?_
        refine x_iconst 1 d_PA_term_177 (by decide) ?_
        refine x_iadd d_PA_term_178 ?_
        refine x_topi (nI (op + 1)) (nI_succ op).symm ?_
        refine x_callV2P d_PA_term_179 k_PA_39 (Nat.le_of_ble_eq_true rfl) (Nat.le_of_ble_eq_true rfl) (by first | rfl | assumption) (by rfl) (hT (g_rt (g_px (g_at u N) N p)) (g_nx (g_at u N) N p) (s + 1) w2 (op + 1) A2 V (g_rtL _ hpx) ok2 hnb.2.1 (by omega) hw2 (fun q => (hRL2 q).2.2.2.2.2) hk2 hop2) (show 2 * d + 12 + 1 ≤ 2 * (d + 1) + 12 by omega) (show 8 + (5 + 11) + 64 * (2 * d + 12) ≤ 64 * (2 * (d + 1) + 12) by omega) (Nat.le_of_ble_eq_true rfl) (Nat.le_of_ble_eq_true rfl) (Nat.le_of_ble_eq_true rfl) rfl hnt (fun p3 s3 V3 x3 c3 A3 w3 j3 hr3 hk3' hj3 hw3 ok3 hRL3 => ?_) (fun q hd h' hx => g_Po_x (hGT ▸ hPR0 ▸ hNM ▸ if_neg hcond ▸ g_dd_bd (g_dd_bd hd (fun s V t c z => Or.inr ⟨_, _, _, _, rfl, z⟩)) (fun _ _ _ _ z => g_inL12 hm z)) hx)
        have b3 := g_Tb (u := u) d _ (g_nx (g_at u N) N p) (s + 1) V (g_rtL _ hpx) hnb.2.1 _ _ _ _ _ hr3
        have hRLp := g_preRL (by omega) hRL2 hRL3
        have hRT : (g_inL (g_at u N) N (g_T (g_at u N) u N d) most 4096 p3 s3 V3 (g_lb 3 (g_fr (g_at u N) N p) (g_to (g_at u N) N p), g_nd x3 g_nil) (g_rk (g_px (g_at u N) N p))) = (g_T (g_at u N) u N (d + 1) most p s V) := by rw [hGT, hPR0, hNM, if_neg hcond, hr3]; rfl
        refine x_callV2Y d_PA_term_182 k_PA_127 (Nat.le_of_ble_eq_true rfl) (Nat.le_of_ble_eq_true rfl) (by first | rfl | assumption) (by rfl) (w_TE_giveFirst hj2 hj3) (show 0 + 1 ≤ 2 * (d + 1) + 12 by omega) (show 8 + (3 + 11) + 64 * (0) ≤ 64 * (2 * (d + 1) + 12) by omega) (Nat.le_of_ble_eq_true rfl) (Nat.le_of_ble_eq_true rfl) (Nat.le_of_ble_eq_true rfl) rfl ?_
        refine x_hh (g_pw u N h p3 s3 w3 (g_gF A3 j2 j3)) rfl ?_
        refine x_aload_n d_PA_term_185 rfl rfl ?_
        refine x_iload d_PA_term_186 rfl ?_
        refine x_aload_n d_PA_term_188 rfl rfl ?_
        refine x_gOPi (k := 1) d_PA_term_189 (by first | assumption | decide | omega) rfl s_PA_118 ?_
        refine x_topi (nI (g_rk (g_px (g_at u N) N p))) hrk.1 ?_
        refine x_iload_n d_PA_term_192 rfl rfl ?_
        refine x_iload_n d_PA_term_193 rfl rfl ?_
        refine x_callV4Z d_PA_term_194 k_PA_82 (Nat.le_of_ble_eq_true rfl) (Nat.le_of_ble_eq_true rfl) (by first | rfl | assumption) (by rfl) (w_PA_withInfixes h2 h1 hu hN hnt hT hop2 hm (g_okgF ok3) b3.2.1 (by omega) hw3 hk3' hrk.2 hj2 (by omega) hRLp) (show 2 * d + 13 + 1 ≤ 2 * (d + 1) + 12 by omega) (show 8 + (10 + 11) + 64 * (2 * d + 13) ≤ 64 * (2 * (d + 1) + 12) by omega) (Nat.le_of_ble_eq_true rfl) (Nat.le_of_ble_eq_true rfl) (Nat.le_of_ble_eq_true rfl) rfl hnt (fun p4 s4 V4 l4 c4 A4 w4 j4 hr4 hk4 hj4 hw4 ok4 hRL4 => ?_) (fun q hd h' hx => g_Po_x (hRT ▸ hd) hx)
        exact x_ireturn d_PA_term_197 rfl rfl (g_Po_y (hRT.symm.trans hr4) hk4 hj4 hw4 ok4 hRL4 (fun _ _ => rfl))
      · exact h155 A2 w2 j2 hk2 hj2 hw2 ok2 hRL2 (Or.inr (by unfold g_bg; rw [decide_eq_false hk2, g_b2z c_152]; rfl))
  show x_W E M_PA_term _ _ 52 (g_pw u N h p s w A) 0 [(0, .ref 2), (1, .int (nI most)), (2, .int (nI op))] [] 0 0
  refine x_iload_n d_PA_term_0 rfl rfl ?_
  refine x_bipush 100 d_PA_term_1 (by decide) ?_
  refine x_icmp_le 13 d_PA_term_3 (by decide) (fun _ => ?_) (fun z => absurd (show nI op ≤ nI 100 from nI_le (by omega) (by decide)) z)
  refine x_aload_n d_PA_term_13 rfl rfl ?_
  refine x_get d_PA_term_14 f_PA_12 (Nat.le_of_ble_eq_true rfl) (Nat.le_of_ble_eq_true rfl) (by first | rfl | assumption) (by rfl) ?_
  refine x_get d_PA_term_17 f_PA_72 (Nat.le_of_ble_eq_true rfl) (Nat.le_of_ble_eq_true rfl) (by first | rfl | assumption) (by rfl) ?_
  refine x_gSN (i := 4) d_PA_term_20 (by decide) s_PA_75 ?_
  refine x_acmp_ne 39 d_PA_term_23 (by decide) (Or.inl ⟨rfl, rfl⟩) (by first | assumption | decide | omega) (by first | assumption | decide | omega) (fun c_23 => ?_) (fun c_23 => ?_)
  · refine x_aload_n d_PA_term_39 rfl rfl ?_
    refine x_get d_PA_term_40 f_PA_12 (Nat.le_of_ble_eq_true rfl) (Nat.le_of_ble_eq_true rfl) (by first | rfl | assumption) (by rfl) ?_
    refine x_get d_PA_term_43 f_PA_72 (Nat.le_of_ble_eq_true rfl) (Nat.le_of_ble_eq_true rfl) (by first | rfl | assumption) (by rfl) ?_
    refine x_gSN (i := 6) d_PA_term_46 (by decide) s_PA_86 ?_
    refine x_acmp_ne 65 d_PA_term_49 (by decide) (Or.inl ⟨rfl, rfl⟩) (by first | assumption | decide | omega) (by first | assumption | decide | omega) (fun c_49 => ?_) (fun c_49 => ?_)
    · refine x_aload_n d_PA_term_65 rfl rfl ?_
      refine x_get d_PA_term_66 f_PA_12 (Nat.le_of_ble_eq_true rfl) (Nat.le_of_ble_eq_true rfl) (by first | rfl | assumption) (by rfl) ?_
      refine x_callV0Y d_PA_term_69 k_PA_92 (Nat.le_of_ble_eq_true rfl) (Nat.le_of_ble_eq_true rfl) (by first | rfl | assumption) (by rfl) (w_SG_opensTerms hsg g_pw3 (g_pw1.trans h1) hu hN (by omega)) (show 1 + 1 ≤ 2 * (d + 1) + 12 by omega) (show 8 + (1 + 11) + 64 * (1) ≤ 64 * (2 * (d + 1) + 12) by omega) (Nat.le_of_ble_eq_true rfl) (Nat.le_of_ble_eq_true rfl) (Nat.le_of_ble_eq_true rfl) rfl ?_
      refine x_if_eq 88 d_PA_term_72 (by decide) (fun c_72 => ?_) (fun c_72 => ?_)
      · refine x_aload_n d_PA_term_88 rfl rfl ?_
        refine x_get d_PA_term_89 f_PA_12 (Nat.le_of_ble_eq_true rfl) (Nat.le_of_ble_eq_true rfl) (by first | rfl | assumption) (by rfl) ?_
        refine x_get d_PA_term_92 f_PA_72 (Nat.le_of_ble_eq_true rfl) (Nat.le_of_ble_eq_true rfl) (by first | rfl | assumption) (by rfl) ?_
        refine x_gSN (i := 2) d_PA_term_95 (by decide) s_PA_99 ?_
        refine x_acmp_ne 111 d_PA_term_98 (by decide) (Or.inl ⟨rfl, rfl⟩) (by first | assumption | decide | omega) (by first | assumption | decide | omega) (fun c_98 => ?_) (fun c_98 => ?_)
        · by_cases q2 : (g_ky (g_at u N) N p) = 2
          · exact h111 _ (by unfold g_pr; rw [if_pos q2]) (w_PA_voi2 h2 h1 hu hN hnt ok hp hsp hw hV q2) (fun _ _ _ _ _ z => by cases z; rfl)
          by_cases q1 : (g_ky (g_at u N) N p) = 1
          · exact h111 _ (by unfold g_pr; rw [if_neg q2, if_pos q1]) (w_PA_voi1 h2 h1 hu hN hnt ok hp hsp hw hV q1) (fun _ _ _ _ _ z => by cases z; rfl)
          exact h111 _ (by unfold g_pr; rw [if_neg q2, if_neg q1, if_neg (fun z => c_23 (hkk.2.2.2.1.mpr z)), if_neg (fun z => c_49 (hkk.2.2.2.2.2.1.mpr z)), if_neg (fun z => c_98 (hkk.2.1.mpr z))]) (w_PA_voi0 h2 h1 hu hN hnt ok hp hsp hw hV hk12 q1 q2 (fun z => c_98 (hkk.2.1.mpr z))) (fun _ _ _ _ _ z => by cases z)
        · refine x_aload_n d_PA_term_101 rfl rfl ?_
          refine x_get d_PA_term_102 f_PA_12 (Nat.le_of_ble_eq_true rfl) (Nat.le_of_ble_eq_true rfl) (by first | rfl | assumption) (by rfl) ?_
          refine x_callV0Y d_PA_term_105 k_PA_102 (Nat.le_of_ble_eq_true rfl) (Nat.le_of_ble_eq_true rfl) (by first | rfl | assumption) (by rfl) (w_SG_isMinusOfInteger hsg g_pw3 (g_pw1.trans h1) hu hN (by omega) hft (by omega)) (show 5 + 1 ≤ 2 * (d + 1) + 12 by omega) (show 8 + (1 + 11) + 64 * (5) ≤ 64 * (2 * (d + 1) + 12) by omega) (Nat.le_of_ble_eq_true rfl) (Nat.le_of_ble_eq_true rfl) (Nat.le_of_ble_eq_true rfl) rfl ?_
          refine x_if_eq 123 d_PA_term_108 (by decide) (fun c_108 => ?_) (fun c_108 => ?_)
          · have q3 : (g_ky (g_at u N) N p) = 3 := hkk.2.1.mp c_98
            have n40 : ¬ g_at u N (g_bh (g_at u N) N p) = 40 := fun z => by rw [decide_eq_true c_98, decide_eq_true z] at c_72; exact absurd c_72 (by decide)
            exact h123 q3 n40 (fun z => by rw [decide_eq_true c_98, z] at c_108; exact absurd c_108 (by decide))
          · have hb := Bool.and_eq_true_iff.mp (g_b2n c_108)
            have q3 : (g_ky (g_at u N) N p) = 3 := hkk.2.1.mp (of_decide_eq_true hb.1)
            have hb2 := Bool.and_eq_true_iff.mp hb.2
            have n40 : ¬ g_at u N (g_bh (g_at u N) N p) = 40 := fun z => by rw [decide_eq_true (hkk.2.1.mpr q3), decide_eq_true z] at c_72; exact absurd c_72 (by decide)
            exact h111 _ (by unfold g_pr g_nam; rw [if_neg (by omega), if_neg (by omega), if_neg (by omega), if_neg (by omega), if_pos q3, if_neg n40, if_pos hb.2]) (w_PA_voi3 h2 h1 hu hN hnt ok hp hsp hw hV q3 hb2.1) (fun _ _ _ _ _ z => by split at z <;> cases z; rfl)
      · have hb := Bool.and_eq_true_iff.mp (g_b2n c_72)
        have hq3 : (g_ky (g_at u N) N p) = 3 := hkk.2.1.mp (of_decide_eq_true hb.1)
        have h40 := of_decide_eq_true hb.2
        have hPR : g_pr (g_at u N) u N (g_T (g_at u N) u N d) most p s V = g_arL (g_at u N) N (g_T (g_at u N) u N d) p 8 (g_nx (g_at u N) N (g_nx (g_at u N) N p)) (s + 1) V [] := by unfold g_pr g_nam; rw [if_neg (by omega), if_neg (by omega), if_neg (by omega), if_neg (by omega), if_pos hq3, if_pos h40]
        refine x_aload_n d_PA_term_75 rfl rfl ?_
        refine x_aload_n d_PA_term_76 rfl rfl ?_
        refine x_iload_n d_PA_term_77 rfl rfl ?_
        refine x_callV1P d_PA_term_78 k_PA_96 (Nat.le_of_ble_eq_true rfl) (Nat.le_of_ble_eq_true rfl) (by first | rfl | assumption) (by rfl) (w_PA_compound h2 h1 hu hN hnt hT ok hp hsp hw hV hop2 hq3 h40) (show 2 * d + 13 + 1 ≤ 2 * (d + 1) + 12 by omega) (show 8 + (7 + 11) + 64 * (2 * d + 13) ≤ 64 * (2 * (d + 1) + 12) by omega) (Nat.le_of_ble_eq_true rfl) (Nat.le_of_ble_eq_true rfl) (Nat.le_of_ble_eq_true rfl) rfl hnt (fun p2 s2 V2 l2 c2 A2 w2 j2 hr hk2 hj2 hw2 ok2 hRL2 => ?_) (fun q hd h' hx => g_Po_x (hGT ▸ g_dd_bd (hPR ▸ hd) (fun _ _ _ _ z => g_inL12 hm z)) hx)
        have hc20 : c2 = 0 := g_ar0 _ _ _ _ _ hr
        subst hc20
        have hb2 := g_prb (u := u) (fun m p s V => g_Tb (u := u) d m p s V) hm hp _ _ _ _ _ (hPR.trans hr)
        have hRT : (g_inL (g_at u N) N (g_T (g_at u N) u N d) most 4096 p2 s2 V2 l2 0) = (g_T (g_at u N) u N (d + 1) most p s V) := by rw [hGT, hPR, hr]; rfl
        refine x_iconst 0 d_PA_term_81 (by decide) ?_
        refine x_iload_n d_PA_term_82 rfl rfl ?_
        refine x_iload_n d_PA_term_83 rfl rfl ?_
        refine x_callV4Z d_PA_term_84 k_PA_82 (Nat.le_of_ble_eq_true rfl) (Nat.le_of_ble_eq_true rfl) (by first | rfl | assumption) (by rfl) (w_PA_withInfixes (lr := 0) h2 h1 hu hN hnt hT hop2 hm ok2 hb2.2.1 (by omega) hw2 hk2 (by decide) hj2 (by omega) hRL2) (show 2 * d + 13 + 1 ≤ 2 * (d + 1) + 12 by omega) (show 8 + (10 + 11) + 64 * (2 * d + 13) ≤ 64 * (2 * (d + 1) + 12) by omega) (Nat.le_of_ble_eq_true rfl) (Nat.le_of_ble_eq_true rfl) (Nat.le_of_ble_eq_true rfl) rfl hnt (fun p4 s4 V4 l4 c4 A4 w4 j4 hr4 hk4 hj4 hw4 ok4 hRL4 => ?_) (fun q hd h' hx => g_Po_x (hRT ▸ hd) hx)
        exact x_ireturn d_PA_term_87 rfl rfl (g_Po_y (hRT.symm.trans hr4) hk4 hj4 hw4 ok4 hRL4 (fun _ _ => rfl))
    · have hq6 : (g_ky (g_at u N) N p) = 6 := hkk.2.2.2.2.2.1.mp c_49
      have hPR : g_pr (g_at u N) u N (g_T (g_at u N) u N d) most p s V = g_li (g_at u N) N (g_T (g_at u N) u N d) p s V := by unfold g_pr; rw [if_neg (by omega), if_neg (by omega), if_neg (by omega), if_pos hq6]
      refine x_aload_n d_PA_term_52 rfl rfl ?_
      refine x_aload_n d_PA_term_53 rfl rfl ?_
      refine x_iload_n d_PA_term_54 rfl rfl ?_
      refine x_callV1P d_PA_term_55 k_PA_89 (Nat.le_of_ble_eq_true rfl) (Nat.le_of_ble_eq_true rfl) (by first | rfl | assumption) (by rfl) (w_PA_list h2 h1 hu hN hnt hT ok hp hsp hw hV hop2 hq6) (show 2 * d + 13 + 1 ≤ 2 * (d + 1) + 12 by omega) (show 8 + (6 + 11) + 64 * (2 * d + 13) ≤ 64 * (2 * (d + 1) + 12) by omega) (Nat.le_of_ble_eq_true rfl) (Nat.le_of_ble_eq_true rfl) (Nat.le_of_ble_eq_true rfl) rfl hnt (fun p2 s2 V2 l2 c2 A2 w2 j2 hr hk2 hj2 hw2 ok2 hRL2 => ?_) (fun q hd h' hx => g_Po_x (hGT ▸ g_dd_bd (hPR ▸ hd) (fun _ _ _ _ z => g_inL12 hm z)) hx)
      have hc20 : c2 = 0 := g_li0 hr
      subst hc20
      have hb2 := g_prb (u := u) (fun m p s V => g_Tb (u := u) d m p s V) hm hp _ _ _ _ _ (hPR.trans hr)
      have hRT : (g_inL (g_at u N) N (g_T (g_at u N) u N d) most 4096 p2 s2 V2 l2 0) = (g_T (g_at u N) u N (d + 1) most p s V) := by rw [hGT, hPR, hr]; rfl
      refine x_iconst 0 d_PA_term_58 (by decide) ?_
      refine x_iload_n d_PA_term_59 rfl rfl ?_
      refine x_iload_n d_PA_term_60 rfl rfl ?_
      refine x_callV4Z d_PA_term_61 k_PA_82 (Nat.le_of_ble_eq_true rfl) (Nat.le_of_ble_eq_true rfl) (by first | rfl | assumption) (by rfl) (w_PA_withInfixes (lr := 0) h2 h1 hu hN hnt hT hop2 hm ok2 hb2.2.1 (by omega) hw2 hk2 (by decide) hj2 (by omega) hRL2) (show 2 * d + 13 + 1 ≤ 2 * (d + 1) + 12 by omega) (show 8 + (10 + 11) + 64 * (2 * d + 13) ≤ 64 * (2 * (d + 1) + 12) by omega) (Nat.le_of_ble_eq_true rfl) (Nat.le_of_ble_eq_true rfl) (Nat.le_of_ble_eq_true rfl) rfl hnt (fun p4 s4 V4 l4 c4 A4 w4 j4 hr4 hk4 hj4 hw4 ok4 hRL4 => ?_) (fun q hd h' hx => g_Po_x (hRT ▸ hd) hx)
      exact x_ireturn d_PA_term_64 rfl rfl (g_Po_y (hRT.symm.trans hr4) hk4 hj4 hw4 ok4 hRL4 (fun _ _ => rfl))
  · have hq4 : (g_ky (g_at u N) N p) = 4 := hkk.2.2.2.1.mp c_23
    have hPR : g_pr (g_at u N) u N (g_T (g_at u N) u N d) most p s V = (g_bd (g_T (g_at u N) u N d 1200 (g_nx (g_at u N) N p) s V) fun p2 s2 V2 x _ => if g_ky (g_at u N) N p2 = 5 then .inr (g_nx (g_at u N) N p2, s2, V2, x, 0) else .inl p2) := by unfold g_pr; rw [if_neg (by omega), if_neg (by omega), if_pos hq4]
    refine x_aload_n d_PA_term_26 rfl rfl ?_
    refine x_aload_n d_PA_term_27 rfl rfl ?_
    refine x_iload_n d_PA_term_28 rfl rfl ?_
    refine x_callV1P d_PA_term_29 k_PA_78 (Nat.le_of_ble_eq_true rfl) (Nat.le_of_ble_eq_true rfl) (by first | rfl | assumption) (by rfl) (w_PA_inParentheses h2 h1 hu hN hnt hT ok hp hsp hw hV hop2 hq4) (show 2 * d + 13 + 1 ≤ 2 * (d + 1) + 12 by omega) (show 8 + (3 + 11) + 64 * (2 * d + 13) ≤ 64 * (2 * (d + 1) + 12) by omega) (Nat.le_of_ble_eq_true rfl) (Nat.le_of_ble_eq_true rfl) (Nat.le_of_ble_eq_true rfl) rfl hnt (fun p2 s2 V2 l2 c2 A2 w2 j2 hr hk2 hj2 hw2 ok2 hRL2 => ?_) (fun q hd h' hx => g_Po_x (hGT ▸ g_dd_bd (hPR ▸ hd) (fun _ _ _ _ z => g_inL12 hm z)) hx)
    have hc20 : c2 = 0 := g_par0 hr
    subst hc20
    have hb2 := g_prb (u := u) (fun m p s V => g_Tb (u := u) d m p s V) hm hp _ _ _ _ _ (hPR.trans hr)
    have hRT : (g_inL (g_at u N) N (g_T (g_at u N) u N d) most 4096 p2 s2 V2 l2 0) = (g_T (g_at u N) u N (d + 1) most p s V) := by rw [hGT, hPR, hr]; rfl
    refine x_iconst 0 d_PA_term_32 (by decide) ?_
    refine x_iload_n d_PA_term_33 rfl rfl ?_
    refine x_iload_n d_PA_term_34 rfl rfl ?_
    refine x_callV4Z d_PA_term_35 k_PA_82 (Nat.le_of_ble_eq_true rfl) (Nat.le_of_ble_eq_true rfl) (by first | rfl | assumption) (by rfl) (w_PA_withInfixes (lr := 0) h2 h1 hu hN hnt hT hop2 hm ok2 hb2.2.1 (by omega) hw2 hk2 (by decide) hj2 (by omega) hRL2) (show 2 * d + 13 + 1 ≤ 2 * (d + 1) + 12 by omega) (show 8 + (10 + 11) + 64 * (2 * d + 13) ≤ 64 * (2 * (d + 1) + 12) by omega) (Nat.le_of_ble_eq_true rfl) (Nat.le_of_ble_eq_true rfl) (Nat.le_of_ble_eq_true rfl) rfl hnt (fun p4 s4 V4 l4 c4 A4 w4 j4 hr4 hk4 hj4 hw4 ok4 hRL4 => ?_) (fun q hd h' hx => g_Po_x (hRT ▸ hd) hx)
    exact x_ireturn d_PA_term_38 rfl rfl (g_Po_y (hRT.symm.trans hr4) hk4 hj4 hw4 ok4 hRL4 (fun _ _ => rfl))
theorem w_PA_term {E : xR} {h : xH} {u : Nat → Nat} {N : Nat} (h2 : h 2 = .inr (1, [.ref 3, .ref 5])) (h1 : h 1 = .inl (1, 4096, .inl (fun i => g_sb (u i)))) (hu : ∀ i, u i < 256) (hN : N ≤ 4096) (hnt : ¬ x_tg E) : ∀ d, g_CT E h u N d
  | 0 => w_PA_term0 h2
  | d + 1 => w_PA_termS h2 h1 hu hN hnt (w_PA_term h2 h1 hu hN hnt d)
