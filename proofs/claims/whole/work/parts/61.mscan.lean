theorem g_solo1 (c : Int32) : ¬ g_solo c = 1 ∧ ¬ g_solo c = 2 := by
  unfold g_solo
  repeat' split
  all_goals decide
theorem g_SQs {u : Nat → Nat} {N p l : Nat} {h : xH} {oo tp pl vd kn rk : Int32} {nm : Int64} {Wd : Nat → Int32} {h' : xH} (hu : ∀ i, u i < 256) (hp : p < N) (h1 : (g_small (g_at u N p) || g_gr (g_at u N p)) = false) (h2 : g_dig (g_at u N p) = false) (h3 : ¬ g_at u N p = 39) (h4 : g_symb (g_at u N p) = false) (hl : l ≤ 4096) (hw : ∀ x, (bif (decide (g_lo u N p = 91) && decide (g_at u N (p + 1) = 93)) then some [91, 93] else bif decide (g_solo (g_lo u N p) = 3) then some [g_lo u N p] else none) = some x → l = x.length ∧ g_wx Wd x) (e : ∀ i, i < 52 → h' i = g_rw h N (nI p) (nI (bif (decide (g_lo u N p = 91) && decide (g_at u N (p + 1) = 93)) then p + 2 else p + 1)) (nI (bif (decide (g_lo u N p = 91) && decide (g_at u N (p + 1) = 93)) then 3 else g_solo (g_lo u N p))) oo nm (nI l) tp pl vd kn rk Wd i) : x_YE (g_SQ u N p h oo tp pl vd kn rk) (.inl none) 52 h' 0 0 := by
  have hT := g_tkSo hu hp h1 h2 h3 h4
  have e91 : decide (g_lo u N p = 91) = decide (g_at u N p = 91) := decide_eq_decide.mpr (g_loE hu (by decide))
  have eso : g_solo (g_lo u N p) = g_solo (g_at u N p) := g_loP g_sbS hu
  rw [e91, eso] at hw
  rw [e91, eso] at e
  have h39 : ¬ g_sb (u p) = 39 := g_sb39 hp hu h3
  cases hE : decide (g_at u N p = 91) && decide (g_at u N (p + 1) = 93) with
  | true =>
    rw [hE] at hT hw e
    have q2 := of_decide_eq_true (Bool.and_eq_true_iff.mp hE).2
    have q1 := of_decide_eq_true (Bool.and_eq_true_iff.mp hE).1
    have hp1 : p + 1 < N := g_at_nn (u := u) (fun q => by rw [q2] at q; exact absurd q (by decide))
    have s1 : g_sb (u p) = 91 := by rw [← g_loI (u := u) hp]; exact (g_loE hu (by decide)).mpr q1
    have s2 : g_sb (u (p + 1)) = 93 := by rw [← g_loI (u := u) hp1]; exact (g_loE hu (by decide)).mpr q2
    have hU : g_ut u p (p + 2) = [91, 93] := by
      rw [g_utN (fun k hk => by
        rcases (show k = 0 ∨ k = 1 by omega) with rfl | rfl
        · exact h39
        · rw [s2]; decide), show p + 2 - p = 2 by omega, g_tp, g_tp, g_tp, s1, s2]
    exact g_SQi hT hl (fun _ => rfl) (fun _ => by show l = (g_ut u p (p + 2)).length ∧ g_wx Wd (g_ut u p (p + 2)); rw [hU]; exact hw _ rfl) (fun z => by cases z) e
  | false =>
    rw [hE] at hT hw e
    have hU : g_ut u p (p + 1) = [g_lo u N p] := by
      rw [g_utN (fun k hk => by
        rcases (show k = 0 by omega) with rfl
        exact h39), show p + 1 - p = 1 by omega, g_tp, g_tp, g_loI hp]
    refine g_SQi hT hl (fun _ => rfl) (fun z => ?_) (fun z => absurd z (g_solo1 _).2) e
    have z : g_solo (g_at u N p) = 3 := z.resolve_left (g_solo1 _).1
    show l = (g_ut u p (p + 1)).length ∧ g_wx Wd (g_ut u p (p + 1))
    rw [hU]
    exact hw _ (by rw [decide_eq_true z]; rfl)
theorem g_SQq {u : Nat → Nat} {N p q l : Nat} {y : List Int32} {h : xH} {oo tp pl vd kn rk : Int32} {nm : Int64} {Wd : Nat → Int32} {h' : xH} (hu : ∀ i, u i < 256) (hp : p < N) (h39 : g_at u N p = 39) (hq : g_qt (g_at u N) (N - p) (p + 1) = q) (hy : g_ql u N (N - p) (p + 1) = y) (hl : l ≤ 4096) (hw : ∀ x, (bif !decide (q = 0) then some y else none) = some x → l = x.length ∧ g_wx Wd x) (e : ∀ i, i < 52 → h' i = g_rw h N (nI p) (bif !decide (q = 0) then nI (q + 1) else nI (p + 1)) (nI (bif !decide (q = 0) then 3 else 12)) oo nm (nI l) tp pl vd kn rk Wd i) : x_YE (g_SQ u N p h oo tp pl vd kn rk) (.inl none) 52 h' 0 0 := by
  have hT := g_tkQu hu hp h39
  rw [hq] at hT
  by_cases hz : q = 0
  · rw [decide_eq_true hz] at hT e
    exact g_SQi hT hl (fun z => absurd rfl z) (fun z => by rcases z with z | z <;> cases z) (fun z => by cases z) e
  · rw [decide_eq_false hz] at hT e hw
    have hU : g_ut u (p + 1) q = y := by rw [← hq, g_qlU hu (by rw [hq]; exact hz)]; exact hy
    exact g_SQi hT hl (fun _ => rfl) (fun _ => by show l = (g_ut u (p + 1) q).length ∧ g_wx Wd (g_ut u (p + 1) q); rw [hU]; exact hw _ rfl) (fun z => by cases z) e
set_option maxRecDepth 20000 in
theorem w_RD_scanD {E : xR} {h : xH} {u : Nat → Nat} {N : Nat} {bh tk oo tp pl vd kn rk : Int32} {nm : Int64} {Wd : Nat → Int32} {p : Nat} (h22 : h 22 = .inl (1, 4096, .inl (fun i => g_sb (u i)))) (hu : ∀ i, u i < 256) (hN : N ≤ 4096) (hp : p < N) : x_W E M_RD_scan (x_room 6 0 0) (x_YE (g_SQ u N p h oo tp pl vd kn rk)) 52 (g_rw h N (nI p) bh tk oo nm (nI 0) tp pl vd kn rk Wd) 107 [(0, .ref 36), (1, .int (nI p)), (2, .int (g_lo u N p))] [] 0 0 := by
  have hS := g_loS (N := N) (i := p) hu
  have hG := g_loG (N := N) (i := p) hu
  have hD := g_loD (N := N) (i := p) hu
  have h9 : g_lo u N p = 39 ↔ g_at u N p = 39 := g_loE hu (by decide)
  obtain ⟨qq, hqq⟩ : ∃ q, g_qt (g_at u N) (N - p) (p + 1) = q := ⟨_, rfl⟩
  obtain ⟨yy, hyy⟩ : ∃ y, g_ql u N (N - p) (p + 1) = y := ⟨_, rfl⟩
  obtain ⟨⟨de, df, dv⟩, hdg⟩ : ∃ z, g_dg (g_at u N) (N - p) p p 0 = z := ⟨_, rfl⟩
  have hwr : (g_small (g_at u N p) || g_gr (g_at u N p)) = true → x_W E M_RD_scan (x_room 6 0 0) (x_YE (g_SQ u N p h oo tp pl vd kn rk)) 52 (g_rw h N (nI p) bh tk oo nm (nI 0) tp pl vd kn rk Wd) 146 [(0, .ref 36), (1, .int (nI p)), (2, .int (g_lo u N p))] [] 0 0 := fun z => by
    have hgo := w_RD_scanW (E := E) (h := h) (bh := bh) (tk := tk) (oo := oo) (nm := nm) (tp := tp) (pl := pl) (vd := vd) (kn := kn) (rk := rk) h22 hu hN hp z rfl (N - p) p Wd (by omega) (Nat.le_refl _) (by rw [Nat.sub_self]; exact g_wx0) rfl
    rw [Nat.sub_self] at hgo
    exact hgo
  have hsy : g_symb (g_at u N p) = true → x_W E M_RD_scan (x_room 6 0 0) (x_YE (g_SQ u N p h oo tp pl vd kn rk)) 52 (g_rw h N (nI p) bh tk oo nm (nI 0) tp pl vd kn rk Wd) 249 [(0, .ref 36), (1, .int (nI p)), (2, .int (g_lo u N p))] [] 0 0 := fun z => by
    have hgo := w_RD_scanY (E := E) (h := h) (bh := bh) (tk := tk) (oo := oo) (nm := nm) (tp := tp) (pl := pl) (vd := vd) (kn := kn) (rk := rk) h22 hu hN hp z rfl (N - p) p Wd (by omega) (Nat.le_refl _) (by rw [Nat.sub_self]; exact g_wx0) rfl
    rw [Nat.sub_self] at hgo
    exact hgo
  refine x_iload_n d_RD_scan_107 rfl rfl ?_
  refine x_aload_n d_RD_scan_108 rfl rfl ?_
  refine x_get d_RD_scan_109 f_RD_92 (Nat.le_of_ble_eq_true rfl) (Nat.le_of_ble_eq_true rfl) (by first | rfl | assumption) (by rfl) ?_
  refine x_icmp_ne 132 d_RD_scan_112 (by decide) (fun _ => ?_) (fun z => absurd z (show ¬ nI p = nI N from fun z => absurd ((g_nIne (by omega) (by omega)).mp z) (by omega)))
  refine x_iload_n d_RD_scan_132 rfl rfl ?_
  refine x_callS1Y d_RD_scan_133 k_RD_142 w_RD_small (Nat.le_of_ble_eq_true rfl) (Nat.le_of_ble_eq_true rfl) (Nat.le_of_ble_eq_true rfl) (Nat.le_of_ble_eq_true rfl) (Nat.le_of_ble_eq_true rfl) rfl ?_
  refine x_if_ne 146 d_RD_scan_136 (by decide) (fun c_136 => ?_) (fun c_136 => ?_)
  · exact hwr (by rw [← hS, g_b2n c_136]; rfl)
  · refine x_iload_n d_RD_scan_139 rfl rfl ?_
    refine x_callS1Y d_RD_scan_140 k_RD_145 w_RD_great (Nat.le_of_ble_eq_true rfl) (Nat.le_of_ble_eq_true rfl) (Nat.le_of_ble_eq_true rfl) (Nat.le_of_ble_eq_true rfl) (Nat.le_of_ble_eq_true rfl) rfl ?_
    refine x_if_eq 215 d_RD_scan_143 (by decide) (fun c_143 => ?_) (fun c_143 => ?_)
    · refine x_iload_n d_RD_scan_215 rfl rfl ?_
      refine x_callS1Y d_RD_scan_216 k_RD_151 w_RD_digit (Nat.le_of_ble_eq_true rfl) (Nat.le_of_ble_eq_true rfl) (Nat.le_of_ble_eq_true rfl) (Nat.le_of_ble_eq_true rfl) (Nat.le_of_ble_eq_true rfl) rfl ?_
      refine x_if_eq 229 d_RD_scan_219 (by decide) (fun c_219 => ?_) (fun c_219 => ?_)
      · refine x_iload_n d_RD_scan_229 rfl rfl ?_
        refine x_bipush 39 d_RD_scan_230 (by decide) ?_
        refine x_icmp_ne 242 d_RD_scan_232 (by decide) (fun c_232 => ?_) (fun c_232 => ?_)
        · refine x_iload_n d_RD_scan_242 rfl rfl ?_
          refine x_callS1Y d_RD_scan_243 k_RD_168 (w_RD_symbol_lo hu) (Nat.le_of_ble_eq_true rfl) (Nat.le_of_ble_eq_true rfl) (Nat.le_of_ble_eq_true rfl) (Nat.le_of_ble_eq_true rfl) (Nat.le_of_ble_eq_true rfl) rfl ?_
          refine x_if_eq 344 d_RD_scan_246 (by decide) (fun c_246 => ?_) (fun c_246 => ?_)
          · refine x_aload_n d_RD_scan_344 rfl rfl ?_
            refine x_iload_n d_RD_scan_345 rfl rfl ?_
            refine x_callV1E d_RD_scan_346 k_RD_171 (Nat.le_of_ble_eq_true rfl) (Nat.le_of_ble_eq_true rfl) (by first | rfl | assumption) (by rfl) (w_RD_sign h22 hu hN hp) (Nat.le_of_ble_eq_true rfl) (Nat.le_of_ble_eq_true rfl) (Nat.le_of_ble_eq_true rfl) (Nat.le_of_ble_eq_true rfl) (Nat.le_of_ble_eq_true rfl) rfl (fun v1 hh1 hp1 => ?_)
            obtain ⟨rfl, l1, Wd1, hl1, hw1, rfl⟩ := hp1
            exact x_return d_RD_scan_349 rfl (g_SQs hu hp (by rw [← hS, ← hG, g_b2z c_136, g_b2z c_143]; rfl) (by rw [← hD]; exact g_b2z c_219) (fun z => c_232 (h9.mpr z)) (g_b2z c_246) hl1 hw1 (fun _ _ => rfl))
          · exact hsy (g_b2n c_246)
        · refine x_aload_n d_RD_scan_235 rfl rfl ?_
          refine x_callV0E d_RD_scan_236 k_RD_165 (Nat.le_of_ble_eq_true rfl) (Nat.le_of_ble_eq_true rfl) (by first | rfl | assumption) (by rfl) (w_RD_quoted h22 hu hN hp hqq hyy) (Nat.le_of_ble_eq_true rfl) (Nat.le_of_ble_eq_true rfl) (Nat.le_of_ble_eq_true rfl) (Nat.le_of_ble_eq_true rfl) (Nat.le_of_ble_eq_true rfl) rfl (fun v1 hh1 hp1 => ?_)
          obtain ⟨rfl, l1, Wd1, hl1, hw1, rfl⟩ := hp1
          refine x_goto 349 d_RD_scan_239 (by decide) ?_
          exact x_return d_RD_scan_349 rfl (g_SQq hu hp (h9.mp c_232) hqq hyy hl1 hw1 (fun _ _ => rfl))
      · refine x_aload_n d_RD_scan_222 rfl rfl ?_
        refine x_callV0Y d_RD_scan_223 k_RD_162 (Nat.le_of_ble_eq_true rfl) (Nat.le_of_ble_eq_true rfl) (by first | rfl | assumption) (by rfl) (w_RD_digits h22 hu hN hp hdg) (Nat.le_of_ble_eq_true rfl) (Nat.le_of_ble_eq_true rfl) (Nat.le_of_ble_eq_true rfl) (Nat.le_of_ble_eq_true rfl) (Nat.le_of_ble_eq_true rfl) rfl ?_
        refine x_goto 349 d_RD_scan_226 (by decide) ?_
        exact x_return d_RD_scan_349 rfl (g_SQi (l := 0) (by rw [g_tkDg hu hp (by rw [← hD]; exact g_b2n c_219), hdg]) (by decide) (fun _ => rfl) (fun z => by (have z : (bif decide (dv < 9007199254740992) then 2 else 12) = 1 ∨ (bif decide (dv < 9007199254740992) then 2 else 12) = 3 := z); cases hz : decide (dv < 9007199254740992) <;> rw [hz] at z <;> simp at z) (fun _ => by unfold g_iv; rw [hdg]) (fun _ _ => rfl))
    · exact hwr (by rw [← hG, g_b2n c_143]; simp)
set_option maxRecDepth 20000 in
theorem w_RD_scanP {E : xR} {h : xH} {u : Nat → Nat} {N : Nat} {aa bh tk oo lt tp pl vd kn rk : Int32} {nm : Int64} {Wd : Nat → Int32} {p : Nat} (h22 : h 22 = .inl (1, 4096, .inl (fun i => g_sb (u i)))) (hu : ∀ i, u i < 256) (hN : N ≤ 4096) (hp : p ≤ N) : x_W E M_RD_scan (x_room 6 0 0) (x_YE (g_SQ u N p h oo tp pl vd kn rk)) 52 (g_rw h N aa bh tk oo nm lt tp pl vd kn rk Wd) 78 [(0, .ref 36), (1, .int (nI p))] [] 0 0 := by
  rcases Nat.lt_or_ge p N with hlt | hge
  · refine x_aload_n d_RD_scan_78 rfl rfl ?_
    refine x_iload_n d_RD_scan_79 rfl rfl ?_
    refine x_put d_RD_scan_80 f_RD_116 (Nat.le_of_ble_eq_true rfl) (Nat.le_of_ble_eq_true rfl) (by first | rfl | assumption) (by rfl) (by rfl) (by exact (Nat.le_of_ble_eq_true rfl)) ?_
    refine x_aload_n d_RD_scan_83 rfl rfl ?_
    refine x_iconst 0 d_RD_scan_84 (by decide) ?_
    refine x_put d_RD_scan_85 f_RD_139 (Nat.le_of_ble_eq_true rfl) (Nat.le_of_ble_eq_true rfl) (by first | rfl | assumption) (by rfl) (by rfl) (by exact (Nat.le_of_ble_eq_true rfl)) ?_
    refine x_same (h' := (g_rw h N (nI p) bh tk oo nm (nI 0) tp pl vd kn rk Wd)) (x_pt rfl rfl rfl rfl rfl rfl rfl rfl rfl rfl rfl rfl rfl rfl rfl rfl rfl rfl rfl rfl rfl rfl rfl rfl rfl rfl rfl rfl rfl rfl rfl rfl rfl rfl rfl rfl rfl rfl rfl rfl rfl rfl rfl rfl rfl rfl rfl rfl rfl rfl rfl rfl) ?_
    refine x_iload_n d_RD_scan_88 rfl rfl ?_
    refine x_aload_n d_RD_scan_89 rfl rfl ?_
    refine x_get d_RD_scan_90 f_RD_92 (Nat.le_of_ble_eq_true rfl) (Nat.le_of_ble_eq_true rfl) (by first | rfl | assumption) (by rfl) ?_
    refine x_icmp_ge 105 d_RD_scan_93 (by decide) (fun z => absurd z (nI_ge hlt (by omega))) (fun _ => ?_)
    refine x_aload_n d_RD_scan_96 rfl rfl ?_
    refine x_get d_RD_scan_97 f_RD_89 (Nat.le_of_ble_eq_true rfl) (Nat.le_of_ble_eq_true rfl) (by first | rfl | assumption) (by rfl) ?_
    refine x_iload_n d_RD_scan_100 rfl rfl ?_
    refine x_bald d_RD_scan_101 (Nat.le_of_ble_eq_true rfl) (Nat.le_of_ble_eq_true rfl) (by first | rfl | assumption) (vp_in_nI (show p < 4096 by omega) (by decide)) ?_
    refine x_topi (g_lo u N p) (by rw [nI_clamp (by omega), g_loI hlt]) ?_
    refine x_goto 106 d_RD_scan_102 (by decide) ?_
    refine x_istore_n d_RD_scan_106 rfl (Nat.le_of_ble_eq_true rfl) ?_
    exact w_RD_scanD h22 hu hN hlt
  · obtain rfl : p = N := by omega
    refine x_aload_n d_RD_scan_78 rfl rfl ?_
    refine x_iload_n d_RD_scan_79 rfl rfl ?_
    refine x_put d_RD_scan_80 f_RD_116 (Nat.le_of_ble_eq_true rfl) (Nat.le_of_ble_eq_true rfl) (by first | rfl | assumption) (by rfl) (by rfl) (by exact (Nat.le_of_ble_eq_true rfl)) ?_
    refine x_aload_n d_RD_scan_83 rfl rfl ?_
    refine x_iconst 0 d_RD_scan_84 (by decide) ?_
    refine x_put d_RD_scan_85 f_RD_139 (Nat.le_of_ble_eq_true rfl) (Nat.le_of_ble_eq_true rfl) (by first | rfl | assumption) (by rfl) (by rfl) (by exact (Nat.le_of_ble_eq_true rfl)) ?_
    refine x_same (h' := (g_rw h p (nI p) bh tk oo nm (nI 0) tp pl vd kn rk Wd)) (x_pt rfl rfl rfl rfl rfl rfl rfl rfl rfl rfl rfl rfl rfl rfl rfl rfl rfl rfl rfl rfl rfl rfl rfl rfl rfl rfl rfl rfl rfl rfl rfl rfl rfl rfl rfl rfl rfl rfl rfl rfl rfl rfl rfl rfl rfl rfl rfl rfl rfl rfl rfl rfl) ?_
    refine x_iload_n d_RD_scan_88 rfl rfl ?_
    refine x_aload_n d_RD_scan_89 rfl rfl ?_
    refine x_get d_RD_scan_90 f_RD_92 (Nat.le_of_ble_eq_true rfl) (Nat.le_of_ble_eq_true rfl) (by first | rfl | assumption) (by rfl) ?_
    refine x_icmp_ge 105 d_RD_scan_93 (by decide) (fun _ => ?_) (fun z => absurd (nI_le (Nat.le_refl _) (by omega)) z)
    refine x_iconst (-1) d_RD_scan_105 (by decide) ?_
    refine x_istore_n d_RD_scan_106 rfl (Nat.le_of_ble_eq_true rfl) ?_
    refine x_iload_n d_RD_scan_107 rfl rfl ?_
    refine x_aload_n d_RD_scan_108 rfl rfl ?_
    refine x_get d_RD_scan_109 f_RD_92 (Nat.le_of_ble_eq_true rfl) (Nat.le_of_ble_eq_true rfl) (by first | rfl | assumption) (by rfl) ?_
    refine x_icmp_ne 132 d_RD_scan_112 (by decide) (fun z => absurd rfl z) (fun _ => ?_)
    refine x_aload_n d_RD_scan_115 rfl rfl ?_
    refine x_bipush 13 d_RD_scan_116 (by decide) ?_
    refine x_put d_RD_scan_118 f_RD_123 (Nat.le_of_ble_eq_true rfl) (Nat.le_of_ble_eq_true rfl) (by first | rfl | assumption) (by rfl) (by rfl) (by exact (Nat.le_of_ble_eq_true rfl)) ?_
    refine x_aload_n d_RD_scan_121 rfl rfl ?_
    refine x_aload_n d_RD_scan_122 rfl rfl ?_
    refine x_get d_RD_scan_123 f_RD_92 (Nat.le_of_ble_eq_true rfl) (Nat.le_of_ble_eq_true rfl) (by first | rfl | assumption) (by rfl) ?_
    refine x_put d_RD_scan_126 f_RD_96 (Nat.le_of_ble_eq_true rfl) (Nat.le_of_ble_eq_true rfl) (by first | rfl | assumption) (by rfl) (by rfl) (by exact (Nat.le_of_ble_eq_true rfl)) ?_
    refine x_goto 349 d_RD_scan_129 (by decide) ?_
    exact x_return d_RD_scan_349 rfl (g_SQi (l := 0) (k := 13) (f := p) (t := p) (b := p) (nm := nm) (Wd := Wd) (bh := nI p) (by unfold g_tk; rw [if_pos (by rw [g_at_out (Nat.le_refl _)]; decide)]) (by decide) (fun _ => rfl) (fun z => by rcases z with z | z <;> cases z) (fun z => by cases z) (x_pt rfl rfl rfl rfl rfl rfl rfl rfl rfl rfl rfl rfl rfl rfl rfl rfl rfl rfl rfl rfl rfl rfl rfl rfl rfl rfl rfl rfl rfl rfl rfl rfl rfl rfl rfl rfl rfl rfl rfl rfl rfl rfl rfl rfl rfl rfl rfl rfl rfl rfl rfl rfl))
set_option maxRecDepth 20000 in
theorem w_RD_scanK {E : xR} {h : xH} {u : Nat → Nat} {N : Nat} {aa bh tk oo lt tp pl vd kn rk : Int32} {nm : Int64} {Wd : Nat → Int32} {p : Nat} (h22 : h 22 = .inl (1, 4096, .inl (fun i => g_sb (u i)))) (hu : ∀ i, u i < 256) (hN : N ≤ 4096) : ∀ m i, i + m = N → (g_sk (g_at u N) m false i = p → x_W E M_RD_scan (x_room 6 0 0) (x_YE (g_SQ u N p h oo tp pl vd kn rk)) 52 (g_rw h N aa bh tk oo nm lt tp pl vd kn rk Wd) 5 [(0, .ref 36), (1, .int (nI i))] [] 0 0) ∧ (g_sk (g_at u N) m true i = p → x_W E M_RD_scan (x_room 6 0 0) (x_YE (g_SQ u N p h oo tp pl vd kn rk)) 52 (g_rw h N aa bh tk oo nm lt tp pl vd kn rk Wd) 47 [(0, .ref 36), (1, .int (nI i))] [] 0 0) := by
  intro m
  induction m with
  | zero =>
    intro i hi
    obtain rfl : i = N := by omega
    have h5 : g_sk (g_at u i) 0 false i = p → x_W E M_RD_scan (x_room 6 0 0) (x_YE (g_SQ u i p h oo tp pl vd kn rk)) 52 (g_rw h i aa bh tk oo nm lt tp pl vd kn rk Wd) 5 [(0, .ref 36), (1, .int (nI i))] [] 0 0 := by
      intro e
      obtain rfl : i = p := e
      refine x_iload_n d_RD_scan_5 rfl rfl ?_
      refine x_aload_n d_RD_scan_6 rfl rfl ?_
      refine x_get d_RD_scan_7 f_RD_92 (Nat.le_of_ble_eq_true rfl) (Nat.le_of_ble_eq_true rfl) (by first | rfl | assumption) (by rfl) ?_
      refine x_icmp_ge 78 d_RD_scan_10 (by decide) (fun _ => ?_) (fun z => absurd (nI_le (Nat.le_refl _) (by omega)) z)
      exact w_RD_scanP h22 hu hN (Nat.le_refl _)
    refine ⟨h5, fun e => ?_⟩
    refine x_iload_n d_RD_scan_47 rfl rfl ?_
    refine x_aload_n d_RD_scan_48 rfl rfl ?_
    refine x_get d_RD_scan_49 f_RD_92 (Nat.le_of_ble_eq_true rfl) (Nat.le_of_ble_eq_true rfl) (by first | rfl | assumption) (by rfl) ?_
    refine x_icmp_ge 5 d_RD_scan_52 (by decide) (fun _ => ?_) (fun z => absurd (nI_le (Nat.le_refl _) (by omega)) z)
    exact h5 e
  | succ m ih =>
    intro i hi
    have hlt : i < N := by omega
    have hB : g_blank (g_sb (u i)) = g_blank (g_at u N i) := by rw [← g_loI (u := u) hlt]; exact g_loB hu
    have hE : ∀ b : Int32, 0 ≤ b ∧ b < 128 → (g_sb (u i) = b ↔ g_at u N i = b) := fun b hb => by rw [← g_loI (u := u) hlt]; exact g_loE hu hb
    have hF : g_sk (g_at u N) (m + 1) false i = p → x_W E M_RD_scan (x_room 6 0 0) (x_YE (g_SQ u N p h oo tp pl vd kn rk)) 52 (g_rw h N aa bh tk oo nm lt tp pl vd kn rk Wd) 5 [(0, .ref 36), (1, .int (nI i))] [] 0 0 := by
      intro e
      rw [g_sk] at e
      have h37 : g_at u N i = 37 → x_W E M_RD_scan (x_room 6 0 0) (x_YE (g_SQ u N p h oo tp pl vd kn rk)) 52 (g_rw h N aa bh tk oo nm lt tp pl vd kn rk Wd) 47 [(0, .ref 36), (1, .int (nI i))] [] 0 0 := by
        intro z37
        rw [decide_eq_true z37] at e
        refine x_iload_n d_RD_scan_47 rfl rfl ?_
        refine x_aload_n d_RD_scan_48 rfl rfl ?_
        refine x_get d_RD_scan_49 f_RD_92 (Nat.le_of_ble_eq_true rfl) (Nat.le_of_ble_eq_true rfl) (by first | rfl | assumption) (by rfl) ?_
        refine x_icmp_ge 5 d_RD_scan_52 (by decide) (fun z => absurd z (nI_ge hlt (by omega))) (fun _ => ?_)
        refine x_aload_n d_RD_scan_55 rfl rfl ?_
        refine x_get d_RD_scan_56 f_RD_89 (Nat.le_of_ble_eq_true rfl) (Nat.le_of_ble_eq_true rfl) (by first | rfl | assumption) (by rfl) ?_
        refine x_iload_n d_RD_scan_59 rfl rfl ?_
        refine x_bald d_RD_scan_60 (Nat.le_of_ble_eq_true rfl) (Nat.le_of_ble_eq_true rfl) (by first | rfl | assumption) (vp_in_nI (show i < 4096 by omega) (by decide)) ?_
        refine x_topi (g_sb (u i)) (by rw [nI_clamp (by omega)]) ?_
        refine x_bipush 10 d_RD_scan_61 (by decide) ?_
        refine x_icmp_eq 5 d_RD_scan_63 (by decide) (fun z => absurd z (show ¬ g_sb (u i) = 10 from fun y => by rw [(hE 10 (by decide)).mp y] at z37; exact absurd z37 (by decide))) (fun _ => ?_)
        refine x_iinc d_RD_scan_66 rfl 1 (by decide) (Nat.le_of_ble_eq_true rfl) ?_
        refine x_goto 47 d_RD_scan_69 (by decide) ?_
        refine x_lv [(0, .ref 36), (1, .int (nI (i + 1)))] (by rw [nI_succ i]; rfl) ?_
        exact (ih (i + 1) (by omega)).2 e
      have h36 : (g_blank (g_at u N i) = true ∨ g_at u N i = 37) → x_W E M_RD_scan (x_room 6 0 0) (x_YE (g_SQ u N p h oo tp pl vd kn rk)) 52 (g_rw h N aa bh tk oo nm lt tp pl vd kn rk Wd) 36 [(0, .ref 36), (1, .int (nI i))] [] 0 0 := by
        intro z
        refine x_aload_n d_RD_scan_36 rfl rfl ?_
        refine x_get d_RD_scan_37 f_RD_89 (Nat.le_of_ble_eq_true rfl) (Nat.le_of_ble_eq_true rfl) (by first | rfl | assumption) (by rfl) ?_
        refine x_iload_n d_RD_scan_40 rfl rfl ?_
        refine x_bald d_RD_scan_41 (Nat.le_of_ble_eq_true rfl) (Nat.le_of_ble_eq_true rfl) (by first | rfl | assumption) (vp_in_nI (show i < 4096 by omega) (by decide)) ?_
        refine x_topi (g_sb (u i)) (by rw [nI_clamp (by omega)]) ?_
        refine x_bipush 37 d_RD_scan_42 (by decide) ?_
        refine x_icmp_ne 72 d_RD_scan_44 (by decide) (fun c_44 => ?_) (fun c_44 => ?_)
        · refine x_iinc d_RD_scan_72 rfl 1 (by decide) (Nat.le_of_ble_eq_true rfl) ?_
          refine x_goto 5 d_RD_scan_75 (by decide) ?_
          refine x_lv [(0, .ref 36), (1, .int (nI (i + 1)))] (by rw [nI_succ i]; rfl) ?_
          exact (ih (i + 1) (by omega)).1 (by rw [decide_eq_false (fun y => c_44 ((hE 37 (by decide)).mpr y)), z.resolve_right (fun y => c_44 ((hE 37 (by decide)).mpr y))] at e; exact e)
        · exact h37 ((hE 37 (by decide)).mp c_44)
      refine x_iload_n d_RD_scan_5 rfl rfl ?_
      refine x_aload_n d_RD_scan_6 rfl rfl ?_
      refine x_get d_RD_scan_7 f_RD_92 (Nat.le_of_ble_eq_true rfl) (Nat.le_of_ble_eq_true rfl) (by first | rfl | assumption) (by rfl) ?_
      refine x_icmp_ge 78 d_RD_scan_10 (by decide) (fun z => absurd z (nI_ge hlt (by omega))) (fun _ => ?_)
      refine x_aload_n d_RD_scan_13 rfl rfl ?_
      refine x_get d_RD_scan_14 f_RD_89 (Nat.le_of_ble_eq_true rfl) (Nat.le_of_ble_eq_true rfl) (by first | rfl | assumption) (by rfl) ?_
      refine x_iload_n d_RD_scan_17 rfl rfl ?_
      refine x_bald d_RD_scan_18 (Nat.le_of_ble_eq_true rfl) (Nat.le_of_ble_eq_true rfl) (by first | rfl | assumption) (vp_in_nI (show i < 4096 by omega) (by decide)) ?_
      refine x_topi (g_sb (u i)) (by rw [nI_clamp (by omega)]) ?_
      refine x_callS1Y d_RD_scan_19 k_RD_135 w_RD_blank (Nat.le_of_ble_eq_true rfl) (Nat.le_of_ble_eq_true rfl) (Nat.le_of_ble_eq_true rfl) (Nat.le_of_ble_eq_true rfl) (Nat.le_of_ble_eq_true rfl) rfl ?_
      refine x_if_ne 36 d_RD_scan_22 (by decide) (fun c_22 => ?_) (fun c_22 => ?_)
      · exact h36 (Or.inl (by rw [← hB]; exact g_b2n c_22))
      · refine x_aload_n d_RD_scan_25 rfl rfl ?_
        refine x_get d_RD_scan_26 f_RD_89 (Nat.le_of_ble_eq_true rfl) (Nat.le_of_ble_eq_true rfl) (by first | rfl | assumption) (by rfl) ?_
        refine x_iload_n d_RD_scan_29 rfl rfl ?_
        refine x_bald d_RD_scan_30 (Nat.le_of_ble_eq_true rfl) (Nat.le_of_ble_eq_true rfl) (by first | rfl | assumption) (vp_in_nI (show i < 4096 by omega) (by decide)) ?_
        refine x_topi (g_sb (u i)) (by rw [nI_clamp (by omega)]) ?_
        refine x_bipush 37 d_RD_scan_31 (by decide) ?_
        refine x_icmp_ne 78 d_RD_scan_33 (by decide) (fun c_33 => ?_) (fun c_33 => ?_)
        · rw [decide_eq_false (fun z => c_33 ((hE 37 (by decide)).mpr z)), ← hB, g_b2z c_22] at e
          have e : i = p := e
          subst e
          exact w_RD_scanP h22 hu hN (by omega)
        · exact h36 (Or.inr ((hE 37 (by decide)).mp c_33))
    refine ⟨hF, fun e => ?_⟩
    have e0 := e
    rw [g_sk] at e
    refine x_iload_n d_RD_scan_47 rfl rfl ?_
    refine x_aload_n d_RD_scan_48 rfl rfl ?_
    refine x_get d_RD_scan_49 f_RD_92 (Nat.le_of_ble_eq_true rfl) (Nat.le_of_ble_eq_true rfl) (by first | rfl | assumption) (by rfl) ?_
    refine x_icmp_ge 5 d_RD_scan_52 (by decide) (fun z => absurd z (nI_ge hlt (by omega))) (fun _ => ?_)
    refine x_aload_n d_RD_scan_55 rfl rfl ?_
    refine x_get d_RD_scan_56 f_RD_89 (Nat.le_of_ble_eq_true rfl) (Nat.le_of_ble_eq_true rfl) (by first | rfl | assumption) (by rfl) ?_
    refine x_iload_n d_RD_scan_59 rfl rfl ?_
    refine x_bald d_RD_scan_60 (Nat.le_of_ble_eq_true rfl) (Nat.le_of_ble_eq_true rfl) (by first | rfl | assumption) (vp_in_nI (show i < 4096 by omega) (by decide)) ?_
    refine x_topi (g_sb (u i)) (by rw [nI_clamp (by omega)]) ?_
    refine x_bipush 10 d_RD_scan_61 (by decide) ?_
    refine x_icmp_eq 5 d_RD_scan_63 (by decide) (fun c_63 => ?_) (fun c_63 => ?_)
    · exact hF (by rw [← e0, g_sk, g_sk, (hE 10 (by decide)).mp c_63]; rfl)
    · refine x_iinc d_RD_scan_66 rfl 1 (by decide) (Nat.le_of_ble_eq_true rfl) ?_
      refine x_goto 47 d_RD_scan_69 (by decide) ?_
      refine x_lv [(0, .ref 36), (1, .int (nI (i + 1)))] (by rw [nI_succ i]; rfl) ?_
      exact (ih (i + 1) (by omega)).2 (by rw [decide_eq_false (fun z => c_63 ((hE 10 (by decide)).mpr z))] at e; exact e)
set_option maxRecDepth 20000 in
theorem w_RD_scan {E : xR} {h : xH} {u : Nat → Nat} {N : Nat} {aa tk oo lt tp pl vd kn rk : Int32} {nm : Int64} {Wd : Nat → Int32} {b p : Nat} (h22 : h 22 = .inl (1, 4096, .inl (fun i => g_sb (u i)))) (hu : ∀ i, u i < 256) (hN : N ≤ 4096) (hb : b ≤ N) (hp : g_pl (g_at u N) N b = p) : x_Mt E M_RD_scan 6 0 0 [.ref 36] 52 (g_rw h N aa (nI b) tk oo nm lt tp pl vd kn rk Wd) (x_YE (g_SQ u N p h oo tp pl vd kn rk)) := by
  refine x_Mt.of (by decide) (Nat.le_of_ble_eq_true rfl) ?_
  show x_W E M_RD_scan _ _ 52 (g_rw h N aa (nI b) tk oo nm lt tp pl vd kn rk Wd) 0 [(0, .ref 36)] [] 0 0
  refine x_aload_n d_RD_scan_0 rfl rfl ?_
  refine x_get d_RD_scan_1 f_RD_96 (Nat.le_of_ble_eq_true rfl) (Nat.le_of_ble_eq_true rfl) (by first | rfl | assumption) (by rfl) ?_
  refine x_istore_n d_RD_scan_4 rfl (Nat.le_of_ble_eq_true rfl) ?_
  exact (w_RD_scanK h22 hu hN (N - b) b (by omega)).1 hp
