/-- the names, at the sign at p -/
def g_NI (T : List (List Int32)) (Na : Nat → Nat → Int32) (p : Nat) : Prop := g_NB T Na ∧ g_wt T ≤ p ∧ g_ct T ≤ p
theorem g_NIb {T : List (List Int32)} {Na : Nat → Nat → Int32} {p : Nat} (h : g_NI T Na p) : g_tot T ≤ p + 3 ∧ T.length ≤ p + 2 := by
  have := g_wtC h.1.2
  have h1 := h.2.1
  have h2 := h.2.2
  omega
theorem g_NIn {T : List (List Int32)} {Na Na' : Nat → Nat → Int32} {p p' : Nat} {x : List Int32} (h : g_NI T Na p) (hA : g_NB (g_nT T x) Na') (h1 : x.length + p ≤ p') (h2 : p + 1 ≤ p') : g_NI (g_nT T x) Na' p' := by
  have := g_wtN (T := T) (w := x)
  have h3 := h.2.1
  have h4 := h.2.2
  exact ⟨hA, by omega, by omega⟩
theorem g_NIs {T : List (List Int32)} {Na Na' : Nat → Nat → Int32} {p p' : Nat} {x : List Int32} (h : g_NI T Na p) (hA : g_NB (g_nT T x) Na') (hx : g_sp x = true) (hp : p ≤ p') : g_NI (g_nT T x) Na' p' := by
  have := g_wtS (T := T) hx
  have h3 := h.2.1
  have h4 := h.2.2
  exact ⟨hA, by omega, by omega⟩
theorem g_NIm {T : List (List Int32)} {Na : Nat → Nat → Int32} {p p' : Nat} (h : g_NI T Na p) (hp : p ≤ p') : g_NI T Na p' := ⟨h.1, Nat.le_trans h.2.1 hp, Nat.le_trans h.2.2 hp⟩
theorem g_NIv {u : Nat → Nat} {T : List (List Int32)} {Na Na' : Nat → Nat → Int32} {p p' f t : Nat} (h : g_NI T Na p) (hA : g_NB (g_vT u T f t) Na') (h1 : t - f + p ≤ p') (h2 : p + 1 ≤ p') : g_NI (g_vT u T f t) Na' p' := by
  unfold g_vT at hA ⊢
  cases hn : g_nl u f t with
  | true => rw [hn] at hA; exact ⟨hA, by have := h.2.1; show g_wt T ≤ p'; omega, by have := h.2.2; show g_ct T ≤ p'; omega⟩
  | false => rw [hn] at hA; exact g_NIn h hA (by rw [g_tp_len]; exact h1) h2
theorem g_vTm {u : Nat → Nat} {T : List (List Int32)} {f t k : Nat} {w : List Int32} (h : g_nt T k = some w) : g_nt (g_vT u T f t) k = some w := by
  unfold g_vT
  cases g_nl u f t with
  | true => exact h
  | false => exact g_nTm h
/-- where a sign's text lies -/
theorem g_tkP {u : Nat → Nat} {N p : Nat} (hu : ∀ i, u i < 256) (hp : p ≤ N) (h : g_ky (g_at u N) N p = 1 ∨ g_ky (g_at u N) N p = 3 ∨ g_ky (g_at u N) N p = 10) : (g_ut u (g_fr (g_at u N) N p) (g_to (g_at u N) N p)).length + p ≤ g_bh (g_at u N) N p ∧ g_to (g_at u N) N p - g_fr (g_at u N) N p + p ≤ g_bh (g_at u N) N p ∧ p + 1 ≤ g_bh (g_at u N) N p ∧ g_bh (g_at u N) N p ≤ g_nx (g_at u N) N p := by
  have hR := g_utR hu h
  have hL := g_rqL (g_ut u (g_fr (g_at u N) N p) (g_to (g_at u N) N p))
  rw [hR, g_tp_len] at hL
  have hb := g_tkb (u := u) hp
  have hk : (g_tk (g_at u N) N p).1 ≠ 12 := by show g_ky (g_at u N) N p ≠ 12; omega
  have hk2 : (g_tk (g_at u N) N p).1 ≠ 13 := by show g_ky (g_at u N) N p ≠ 13; omega
  have h1 : p < g_bh (g_at u N) N p := hb.2.2 hk hk2
  have hbN : g_bh (g_at u N) N p ≤ N := (hb.2.1 hk).2.2.1
  have h2 := g_sk_le (g_at u N) (N - g_bh (g_at u N) N p) false (g_bh (g_at u N) N p)
  have e3 : g_nx (g_at u N) N p = g_sk (g_at u N) (N - g_bh (g_at u N) N p) false (g_bh (g_at u N) N p) := rfl
  have hmain : g_to (g_at u N) N p - g_fr (g_at u N) N p + p ≤ g_bh (g_at u N) N p := by
    have hpN : p < N := by omega
    unfold g_to g_fr g_bh
    cases hs : (g_small (g_at u N p) || g_gr (g_at u N p)) with
    | true =>
      have := g_run_le (P := g_word) (a := g_at u N) (N - p) p
      rw [g_tkWo hu hpN hs]
      show g_run g_word (g_at u N) (N - p) p - p + p ≤ g_run g_word (g_at u N) (N - p) p
      omega
    | false =>
      cases hd : g_dig (g_at u N p) with
      | true =>
        have := (g_tk2d (u := u) (N := N) (p := p))
        have hx := g_dg_b (a := g_at u N) (N - p) p p 0 (Nat.le_refl _)
        rw [g_tkDg hu hpN hd]
        exfalso
        unfold g_ky at h
        rw [g_tkDg hu hpN hd] at h
        have h : (bif decide ((g_dg (g_at u N) (N - p) p p 0).2.2 < 9007199254740992) then 2 else 12) = 1 ∨ (bif decide ((g_dg (g_at u N) (N - p) p p 0).2.2 < 9007199254740992) then 2 else 12) = 3 ∨ (bif decide ((g_dg (g_at u N) (N - p) p p 0).2.2 < 9007199254740992) then 2 else 12) = 10 := h
        cases hq : decide ((g_dg (g_at u N) (N - p) p p 0).2.2 < 9007199254740992) <;> rw [hq] at h <;> simp at h
      | false =>
        by_cases h39 : g_at u N p = 39
        · rw [g_tkQu hu hpN h39]
          show g_qt (g_at u N) (N - p) (p + 1) - (p + 1) + p ≤ g_qt (g_at u N) (N - p) (p + 1) + 1
          have hq0 : g_qt (g_at u N) (N - p) (p + 1) ≠ 0 := by
            intro z
            unfold g_ky at h
            rw [g_tkQu hu hpN h39, z] at h
            have h : 12 = 1 ∨ 12 = 3 ∨ 12 = 10 := h
            omega
          have := g_qt_b _ _ hq0
          omega
        · cases hy : g_symb (g_at u N p) with
          | true =>
            have := g_run_le (P := g_symb) (a := g_at u N) (N - p) p
            rw [g_tkSy hu hpN hy]
            show g_run g_symb (g_at u N) (N - p) p - p + p ≤ g_run g_symb (g_at u N) (N - p) p
            omega
          | false =>
            rw [g_tkSo hu hpN hs hd h39 hy]
            cases decide (g_at u N p = 91) && decide (g_at u N (p + 1) = 93) with
            | true => show p + 2 - p + p ≤ p + 2; omega
            | false => show p + 1 - p + p ≤ p + 1; omega
  omega
/-! what the reference's reading leaves -/
def g_Rt (u : Nat → Nat) (N : Nat) (h : xH) (o t0 : Nat) (pl kn : Int32) (T : List (List Int32)) (B : Nat → Nat → Int32) (Nm : Nat → Int64) (z q : Nat) (St : Nat → Int32) (s p' s' : Nat) (V : List (Nat × Nat)) (t : Nat × Std.Format) (c : Nat) (v : Option Value) (h1 : xH) : Prop := ∃ (r : Nat) (T' : List (List Int32)) (Na' B' : Nat → Nat → Int32) (Nm' : Nat → Int64) (z' q' : Nat) (St' Vr' Kp' : Nat → Int32) (bh' lt' : Int32) (nm' : Int64) (Wd' : Nat → Int32), v = some (.int (nI r)) ∧ g_NI T' Na' p' ∧ g_MV u T' Vr' V ∧ g_TO u N p' bh' lt' nm' Wd' ∧ g_mE T T' B B' Nm Nm' z q z' q' ∧ z' + s = z + s' ∧ q' + s + 1 = q + s' ∧ (∀ k, k < t0 → St' k = St k) ∧ g_mT u N T' B' Nm' z' q' t r ∧ h1 = (g_mw h N T' Na' B' Nm' z' q' St' Vr' Kp' (nI p') bh' (nI (g_ky (g_at u N) N p')) (nI o) nm' lt' (nI t0) pl (nI V.length) kn (nI c) Wd')
/-- broken at x -/
def g_Tw (h : xH) (N x : Nat) (h' : xH) : Prop := ∃ (T : List (List Int32)) (Na B : Nat → Nat → Int32) (Nm : Nat → Int64) (z q : Nat) (St Vr Kp : Nat → Int32) (aa bh tk oo : Int32) (nm : Int64) (lt tp vd kn rk : Int32) (Wd : Nat → Int32), ∀ i, i < 52 → h' i = (g_mw h N T Na B Nm z q St Vr Kp aa bh tk oo nm lt tp (nI x) vd kn rk Wd) i
def g_MK (u : Nat → Nat) (N : Nat) (h : xH) (o t0 : Nat) (pl kn : Int32) (T : List (List Int32)) (B : Nat → Nat → Int32) (Nm : Nat → Int64) (z q : Nat) (St : Nat → Int32) (s : Nat) (r : g_Rs) : xK := fun oc n' h' k j => n' = 52 ∧ k = 0 ∧ j = 0 ∧ ((∃ p' s' V t c v h1, r = .inr (p', s', V, t, c) ∧ oc = .inl v ∧ g_Rt u N h o t0 pl kn T B Nm z q St s p' s' V t c v h1 ∧ ∀ i, i < 52 → h' i = h1 i) ∨ (∃ x, g_de u N r x ∧ oc = .inr 3 ∧ g_Tw h N x h'))
theorem g_MKi {u : Nat → Nat} {N : Nat} {h : xH} {o t0 : Nat} {pl kn : Int32} {T : List (List Int32)} {B : Nat → Nat → Int32} {Nm : Nat → Int64} {z q : Nat} {St : Nat → Int32} {s : Nat} {r : g_Rs} {p' s' : Nat} {V : List (Nat × Nat)} {t : Nat × Std.Format} {c : Nat} {v : Option Value} {h' : xH} (hr : r = .inr (p', s', V, t, c)) (hR : g_Rt u N h o t0 pl kn T B Nm z q St s p' s' V t c v h') : g_MK u N h o t0 pl kn T B Nm z q St s r (.inl v) 52 h' 0 0 := ⟨rfl, rfl, rfl, Or.inl ⟨p', s', V, t, c, v, h', hr, rfl, hR, fun _ _ => rfl⟩⟩
theorem g_MKx {u : Nat → Nat} {N : Nat} {h : xH} {o t0 : Nat} {pl kn : Int32} {T : List (List Int32)} {B : Nat → Nat → Int32} {Nm : Nat → Int64} {z q : Nat} {St : Nat → Int32} {s : Nat} {r : g_Rs} {x : Nat} {h' : xH} (hd : g_de u N r x) (hT : g_Tw h N x h') : g_MK u N h o t0 pl kn T B Nm z q St s r (.inr 3) 52 h' 0 0 := ⟨rfl, rfl, rfl, Or.inr ⟨x, hd, rfl, hT⟩⟩
theorem x_callV0M {E : xR} {M : xM} {R : Room} {Q : xK} {hw : xH} {pc : Nat} {lv : List (Nat × Value)} {rest : List Value} {cells slots : Nat} {u : Nat → Nat} {N : Nat} {h : xH} {o t0 : Nat} {pl kn : Int32} {T : List (List Int32)} {B : Nat → Nat → Int32} {Nm : Nat → Int64} {z q : Nat} {St : Nat → Int32} {s : Nat} {r : g_Rs} {idx : Nat} {M' : xM} {d0 : Nat} {i ci N0 : Nat} {fs : List Value} {T0 : u_T} (d : decode M.2.1 pc = .ok (.invokevirtual idx, 3)) (hk : x_CV M.1.cls idx M' 0) (hi : i < 52) (hlo1 : i < 1000000) (hc : hw i = .inr (ci, fs)) (hcc : x_Cl[ci]? = some (M'.1.cls, T0, N0)) (hM : x_Mt E M' d0 0 0 [.ref i] 52 hw (g_MK u N h o t0 pl kn T B Nm z q St s r)) (hfr : d0 + 1 ≤ R.frames) (hlo : 8 + (M'.2.2.1 + 11) + 64 * d0 ≤ R.locals) (hcl : cells ≤ R.cells) (hsl : slots ≤ R.slots) (hrs : (rest.map fun v => v.category).sum ≤ 8) (ho : M.2.2.2.2.all (fun t => !(decide (t.1 ≤ pc) && decide (pc < t.2.1))) = true)
    (kr : ∀ p' s' V t c v h1, r = .inr (p', s', V, t, c) → g_Rt u N h o t0 pl kn T B Nm z q St s p' s' V t c v h1 → x_W E M R Q 52 h1 (pc + 3) lv (v.toList ++ rest) cells slots)
    (kt : ∀ x h', g_de u N r x → g_Tw h N x h' → Q (.inr 3) 52 h' cells slots) : x_W E M R Q 52 hw pc lv (.ref i :: rest) cells slots := by
  refine x_callV0 d hk hi hlo1 hc hcc hM hfr hlo hcl hsl hrs ho (fun _ v n' h' k j hq => ?_) (fun v n' h' k j hq => ?_) (fun q n' h' k j hq => ?_)
  · obtain ⟨e1, e2, e3, -⟩ := hq
    subst e1 e2; rfl
  · obtain ⟨e1, e2, e3, hq⟩ := hq
    subst e1 e2 e3
    rcases hq with ⟨p', s', V, t, c, v', h1, g1, g2, g3, g4⟩ | ⟨x, g1, g2, g3⟩
    · cases g2
      exact x_same g4 (kr p' s' V t c v h1 g1 g3)
    · cases g2
  · obtain ⟨e1, e2, e3, hq⟩ := hq
    subst e1 e2 e3
    rcases hq with ⟨p', s', V, t, c, v', h1, g1, g2, g3, g4⟩ | ⟨x, g1, g2, g3⟩
    · cases g2
    · cases g2
      exact kt x h' g1 g3
theorem x_callV1M {E : xR} {M : xM} {R : Room} {Q : xK} {hw : xH} {pc : Nat} {lv : List (Nat × Value)} {rest : List Value} {cells slots : Nat} {u : Nat → Nat} {N : Nat} {h : xH} {o t0 : Nat} {pl kn : Int32} {T : List (List Int32)} {B : Nat → Nat → Int32} {Nm : Nat → Int64} {z q : Nat} {St : Nat → Int32} {s : Nat} {r : g_Rs} {idx : Nat} {M' : xM} {d0 : Nat} {i ci N0 : Nat} {fs : List Value} {T0 : u_T} {a1 : Value} (d : decode M.2.1 pc = .ok (.invokevirtual idx, 3)) (hk : x_CV M.1.cls idx M' 1) (hi : i < 52) (hlo1 : i < 1000000) (hc : hw i = .inr (ci, fs)) (hcc : x_Cl[ci]? = some (M'.1.cls, T0, N0)) (hM : x_Mt E M' d0 0 0 [.ref i, a1] 52 hw (g_MK u N h o t0 pl kn T B Nm z q St s r)) (hfr : d0 + 1 ≤ R.frames) (hlo : 8 + (M'.2.2.1 + 11) + 64 * d0 ≤ R.locals) (hcl : cells ≤ R.cells) (hsl : slots ≤ R.slots) (hrs : (rest.map fun v => v.category).sum ≤ 8) (ho : M.2.2.2.2.all (fun t => !(decide (t.1 ≤ pc) && decide (pc < t.2.1))) = true)
    (kr : ∀ p' s' V t c v h1, r = .inr (p', s', V, t, c) → g_Rt u N h o t0 pl kn T B Nm z q St s p' s' V t c v h1 → x_W E M R Q 52 h1 (pc + 3) lv (v.toList ++ rest) cells slots)
    (kt : ∀ x h', g_de u N r x → g_Tw h N x h' → Q (.inr 3) 52 h' cells slots) : x_W E M R Q 52 hw pc lv (a1 :: .ref i :: rest) cells slots := by
  refine x_callV1 d hk hi hlo1 hc hcc hM hfr hlo hcl hsl hrs ho (fun _ v n' h' k j hq => ?_) (fun v n' h' k j hq => ?_) (fun q n' h' k j hq => ?_)
  · obtain ⟨e1, e2, e3, -⟩ := hq
    subst e1 e2; rfl
  · obtain ⟨e1, e2, e3, hq⟩ := hq
    subst e1 e2 e3
    rcases hq with ⟨p', s', V, t, c, v', h1, g1, g2, g3, g4⟩ | ⟨x, g1, g2, g3⟩
    · cases g2
      exact x_same g4 (kr p' s' V t c v h1 g1 g3)
    · cases g2
  · obtain ⟨e1, e2, e3, hq⟩ := hq
    subst e1 e2 e3
    rcases hq with ⟨p', s', V, t, c, v', h1, g1, g2, g3, g4⟩ | ⟨x, g1, g2, g3⟩
    · cases g2
    · cases g2
      exact kt x h' g1 g3
/-! rows made anew -/
theorem g_lNe {f : Nat → Int64} {k x : Nat} {v : Int64} (h : x ≠ k) : vp_updL f k v x = f x := by unfold vp_updL; rw [if_neg h]
theorem g_lEq {f : Nat → Int64} {k : Nat} {v : Int64} : vp_updL f k v k = v := by unfold vp_updL; rw [if_pos rfl]
theorem g_b3N {B : Nat → Nat → Int32} {z i r : Nat} {a b c : Int32} (h : r ≠ z ∨ i = 2 ∨ i = 4) : g_b3 B z a b c i r = B i r := by
  unfold g_b3
  rw [g_arN (by omega), g_arN (by omega), g_arN (by omega)]
theorem g_b3Y {B : Nat → Nat → Int32} {z : Nat} {a b c : Int32} : g_b3 B z a b c 0 z = a ∧ g_b3 B z a b c 1 z = b ∧ g_b3 B z a b c 3 z = c := by
  unfold g_b3
  exact ⟨by rw [g_arN (Or.inl (by decide)), g_arN (Or.inl (by decide))]; exact g_arY, by rw [g_arN (Or.inl (by decide))]; exact g_arY, g_arY⟩
theorem g_E1 {T T' : List (List Int32)} {B : Nat → Nat → Int32} {Nm : Nat → Int64} {z q : Nat} {a b c : Int32} (hT : ∀ k w, g_nt T k = some w → g_nt T' k = some w) : g_mE T T' B (g_b3 B z a b c) Nm Nm z q (z + 1) q :=
  ⟨by omega, Nat.le_refl _, hT, fun r hr => ⟨fun i _ => g_b3N (Or.inl (by omega)), rfl⟩, fun j _ => g_b3N (Or.inr (Or.inr rfl))⟩
theorem g_E2 {T : List (List Int32)} {B : Nat → Nat → Int32} {Nm : Nat → Int64} {z q : Nat} {v : Int64} : g_mE T T B (g_b2n3 B z) Nm (vp_updL Nm z v) z q (z + 1) q := by
  refine ⟨by omega, Nat.le_refl _, fun _ _ h => h, fun r hr => ⟨fun i _ => ?_, g_lNe (by omega)⟩, fun j _ => ?_⟩
  · unfold g_b2n3; rw [g_arN (Or.inr (by omega)), g_arN (Or.inr (by omega))]
  · unfold g_b2n3; rw [g_arN (Or.inl (by decide)), g_arN (Or.inl (by decide))]
theorem g_bcN {B : Nat → Nat → Int32} {z q mark m i r : Nat} {n : Int32} {St : Nat → Int32} (hi : i ≤ 3) (h : r ≠ z) : g_bc B z q n St mark m i r = B i r := by
  unfold g_bc
  have : Nat.beq i 4 = false := by
    cases hb : Nat.beq i 4 with
    | false => rfl
    | true => have := Nat.eq_of_beq_eq_true hb; omega
  rw [this]
  show g_ar (g_b3 B z 2 n (nI m)) 2 z (nI q) i r = _
  rw [g_arN (Or.inr h), g_b3N (Or.inl h)]
theorem g_bcY {B : Nat → Nat → Int32} {z q mark m : Nat} {n : Int32} {St : Nat → Int32} : g_bc B z q n St mark m 0 z = 2 ∧ g_bc B z q n St mark m 1 z = n ∧ g_bc B z q n St mark m 2 z = nI q ∧ g_bc B z q n St mark m 3 z = nI m := by
  have hb := g_b3Y (B := B) (z := z) (a := 2) (b := n) (c := nI m)
  refine ⟨?_, ?_, ?_, ?_⟩
  · show g_ar (g_b3 B z 2 n (nI m)) 2 z (nI q) 0 z = _; rw [g_arN (Or.inl (by decide))]; exact hb.1
  · show g_ar (g_b3 B z 2 n (nI m)) 2 z (nI q) 1 z = _; rw [g_arN (Or.inl (by decide))]; exact hb.2.1
  · show g_ar (g_b3 B z 2 n (nI m)) 2 z (nI q) 2 z = _; exact g_arY
  · show g_ar (g_b3 B z 2 n (nI m)) 2 z (nI q) 3 z = _; rw [g_arN (Or.inl (by decide))]; exact hb.2.2
theorem g_E3 {T T' : List (List Int32)} {B : Nat → Nat → Int32} {Nm : Nat → Int64} {z q mark m : Nat} {n : Int32} {St : Nat → Int32} (hT : ∀ k w, g_nt T k = some w → g_nt T' k = some w) : g_mE T T' B (g_bc B z q n St mark m) Nm Nm z q (z + 1) (q + m) := by
  refine ⟨by omega, by omega, hT, fun r hr => ⟨fun i hi => g_bcN hi (by omega), rfl⟩, fun j hj => ?_⟩
  show g_bp (B 4) St q mark m j = B 4 j
  unfold g_bp
  rw [if_neg (by omega)]
/-- a compound made of what is on the stack -/
theorem g_Tc {u : Nat → Nat} {N : Nat} {T T' : List (List Int32)} {B : Nat → Nat → Int32} {Nm : Nat → Int64} {z q mark k L : Nat} {St : Nat → Int32} {acc : List (Nat × Std.Format)} (hT : ∀ k w, g_nt T k = some w → g_nt T' k = some w) (hAS : g_AS u N T B Nm z q St mark acc) (hk : k < 9000) (hL : (L % 8 = 3 ∧ g_nt T' k = some (g_ut u (g_fR L) (g_tO L))) ∨ (L % 8 = 4 ∧ acc.length = 2 ∧ g_nt T' k = some [46])) : g_mT u N T' (g_bc B z q (nI k) St mark acc.length) Nm (z + 1) (q + acc.length) (L, g_arK acc) z := by
  obtain ⟨y0, y1, y2, y3⟩ := g_bcY (B := B) (z := z) (q := q) (mark := mark) (m := acc.length) (n := nI k) (St := St)
  have hE := g_E3 (T := T) (T' := T') (B := B) (Nm := Nm) (z := z) (q := q) (mark := mark) (m := acc.length) (n := nI k) (St := St) hT
  have hAS' := g_AS_mv hE acc (St' := St) (fun _ _ => rfl) hAS
  have hF : g_mF u N T' (g_bc B z q (nI k) St mark acc.length) Nm (z + 1) (q + acc.length) (g_arK acc) q := by
    refine g_ASF acc g_nil hAS' (fun i hi => ⟨by omega, ?_⟩) trivial
    show g_bp (B 4) St q mark acc.length (q + i) = _
    unfold g_bp
    rw [if_pos ⟨by omega, by omega⟩, show q + i - q = i by omega]
  have hln : g_ln (g_arK acc) = acc.length := by
    have := g_lnA acc g_nil
    rw [show g_ln g_nil = 0 from rfl] at this
    exact this
  refine ⟨by omega, ?_, q, fun _ => y2, hF⟩
  rcases hL with ⟨l1, l2⟩ | ⟨l1, l2, l3⟩
  · refine Or.inr (Or.inr (Or.inr (Or.inl ⟨l1, y0, ⟨k, hk, y1, l2⟩, ?_⟩)))
    rw [y3]; show nI acc.length = nI (g_ln (g_arK acc)); rw [hln]
  · exact Or.inr (Or.inr (Or.inr (Or.inr (Or.inl ⟨l1, y0, ⟨k, hk, y1, l3⟩, by rw [y3, l2]; rfl⟩))))
/-- an atom's row -/
theorem g_Ta {u : Nat → Nat} {N : Nat} {T : List (List Int32)} {B : Nat → Nat → Int32} {Nm : Nat → Int64} {z q k L : Nat} (hk : k < 9000) (hL : (L % 8 = 3 ∧ g_nt T k = some (g_ut u (g_fR L) (g_tO L))) ∨ (L % 8 = 5 ∧ g_nt T k = some [91, 93])) : g_mT u N T (g_b3 B z 2 (nI k) 0) Nm (z + 1) q (L, g_nil) z := by
  obtain ⟨y0, y1, y3⟩ := g_b3Y (B := B) (z := z) (a := 2) (b := nI k) (c := 0)
  refine ⟨by omega, ?_, 0, fun z => absurd z (Nat.lt_irrefl _), trivial⟩
  rcases hL with ⟨l1, l2⟩ | ⟨l1, l2⟩
  · exact Or.inr (Or.inr (Or.inr (Or.inl ⟨l1, y0, ⟨k, hk, y1, l2⟩, y3⟩)))
  · exact Or.inr (Or.inr (Or.inr (Or.inr (Or.inr ⟨l1, y0, ⟨k, hk, y1, l2⟩, y3⟩))))
theorem g_Tv {u : Nat → Nat} {N : Nat} {T : List (List Int32)} {B : Nat → Nat → Int32} {Nm : Nat → Int64} {z q v : Nat} (hv : v < 8192) : g_mT u N T (g_b3 B z 0 (nI v) 0) Nm (z + 1) q (g_lb 0 v 0, g_nil) z := by
  obtain ⟨y0, y1, y3⟩ := g_b3Y (B := B) (z := z) (a := 0) (b := nI v) (c := 0)
  refine ⟨by omega, Or.inl ⟨g_lb1 (by decide), y0, ?_, y3⟩, 0, fun z => absurd z (Nat.lt_irrefl _), trivial⟩
  rw [y1, show g_fR (g_lb 0 v 0) = v from g_lb2 (by decide) hv]
theorem g_b2Y {B : Nat → Nat → Int32} {z : Nat} : g_b2n3 B z 0 z = 1 ∧ g_b2n3 B z 3 z = 0 := by
  unfold g_b2n3
  exact ⟨by rw [g_arN (Or.inl (by decide))]; exact g_arY, g_arY⟩
theorem g_Ti {u : Nat → Nat} {N : Nat} {T : List (List Int32)} {B : Nat → Nat → Int32} {Nm : Nat → Int64} {z q p k : Nat} {v : Int64} (hN : N ≤ 4096) (hp : p ≤ N) (hky : g_ky (g_at u N) N p = 2) (hk : (k = 1 ∧ v = lN (g_iv u N p)) ∨ (k = 2 ∧ v = -lN (g_iv u N p))) : g_mT u N T (g_b2n3 B z) (vp_updL Nm z v) (z + 1) q (g_lb k (g_fr (g_at u N) N p) (g_to (g_at u N) N p), g_nil) z := by
  obtain ⟨y0, y3⟩ := g_b2Y (B := B) (z := z)
  obtain ⟨e1, e2, e3⟩ := g_lbT (k := k) hN (by omega) hp (Or.inl hky)
  refine ⟨by omega, ?_, 0, fun z => absurd z (Nat.lt_irrefl _), trivial⟩
  rcases hk with ⟨l1, l2⟩ | ⟨l1, l2⟩
  · exact Or.inr (Or.inl ⟨by rw [e1, l1], y0, y3, p, hp, hky, e2, e3, by rw [g_lEq, l2]⟩)
  · exact Or.inr (Or.inr (Or.inl ⟨by rw [e1, l1], y0, y3, p, hp, hky, e2, e3, by rw [g_lEq, l2]⟩))
/-- the contract of the reference's term, d levels left -/
def g_MC (E : xR) (h : xH) (u : Nat → Nat) (N d : Nat) : Prop := ∀ (most p s o t0 z q : Nat) (T : List (List Int32)) (Na B : Nat → Nat → Int32) (Nm : Nat → Int64) (St Vr Kp : Nat → Int32) (bh lt : Int32) (nm : Int64) (pl kn rk : Int32) (Wd : Nat → Int32) (V : List (Nat × Nat)), most ≤ 1200 → p ≤ N → s ≤ p → z ≤ s → t0 + q ≤ z → V.length ≤ s → o + d = 100 → g_NI T Na p → g_MV u T Vr V → g_TO u N p bh lt nm Wd → x_Mt E M_RD_term (4 * d + 12) 0 0 [.ref 36, .int (nI most)] 52 (g_mw h N T Na B Nm z q St Vr Kp (nI p) bh (nI (g_ky (g_at u N) N p)) (nI o) nm lt (nI t0) pl (nI V.length) kn rk Wd) (g_MK u N h o t0 pl kn T B Nm z q St s (g_T (g_at u N) u N d most p s V))
