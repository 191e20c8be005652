/-- the name is that of a constant -/
theorem x_rhi (E : xR) {i : Nat} (h : 1000000 ≤ i) : x_r E i = x_sg E i := by
  unfold x_r
  rw [Nat.ble_eq_true_of_le h]
  rfl
/-- the script -/
theorem x_sld {E : xR} {M : xM} {R : Room} {Q : xK} {n : Nat} {h : xH} {pc : Nat} {lv : List (Nat × Value)} {rest : List Value} {cells slots : Nat} {j : Int32} (d : decode M.2.1 pc = .ok (.iaload, 1)) (hin : vp_in j (x_sL E)) (kk : x_W E M R Q n h (pc + 1) lv (.int (x_sx E j.toNatClampNeg) :: rest) cells slots) : x_W E M R Q n h pc lv (.int j :: .ref 4000000 :: rest) cells slots := by
  intro p e s m args below meth c H locs ls C hP hS hl hz
  obtain ⟨hx, hb, hml, hown, hr, hlk, hnm, htb, hT, hK, hL⟩ := id C
  obtain ⟨-, -, -, -, -, -, -, -, -, -, -, h12, -⟩ := hT.2.2.2
  exact va_ti hx hb h12 hS hin (v := .int (x_sx E j.toNatClampNeg)) rfl d (kk p e s m args below meth c H locs ls C hP hS hl hz)
theorem x_slen {E : xR} {M : xM} {R : Room} {Q : xK} {n : Nat} {h : xH} {pc : Nat} {lv : List (Nat × Value)} {rest : List Value} {cells slots : Nat} (d : decode M.2.1 pc = .ok (.arraylength, 1)) (kk : x_W E M R Q n h (pc + 1) lv (.int (nI (x_sL E)) :: rest) cells slots) : x_W E M R Q n h pc lv (.ref 4000000 :: rest) cells slots := by
  intro p e s m args below meth c H locs ls C hP hS hl hz
  obtain ⟨hx, hb, hml, hown, hr, hlk, hnm, htb, hT, hK, hL⟩ := id C
  obtain ⟨-, -, -, -, -, -, -, -, -, -, -, h12, -⟩ := hT.2.2.2
  exact va_tlen hx hb h12 hS (v := nI (x_sL E)) rfl d (kk p e s m args below meth c H locs ls C hP hS hl hz)
/-- a call within a handler's range: the exception q is caught by the row t of the method's table, the rows ahead don't take it; the handler begins with a store -/
def x_Cc (E : xR) (M : xM) (pc q : Nat) (k : Nat → Prop) : Prop := ∃ (pre : List (Nat × Nat × Nat × Nat)) (t : Nat × Nat × Nat × Nat) (suf : List (Nat × Nat × Nat × Nat)), M.2.2.2.2 = pre ++ t :: suf ∧ (∀ z ∈ pre, z.2.2.2 ≠ 0 ∧ ∃ nm : String, Jvm.Cond.classLink M.1.cls z.2.2.2 nm ∈ x_Tw ∧ x_exc q = "java/lang/IndexOutOfBoundsException" ∧ nm = "java/lang/UnsupportedOperationException") ∧ t.1 ≤ pc ∧ pc < t.2.1 ∧ t.2.2.2 ≠ 0 ∧ (∃ nm : String, Jvm.Cond.classLink M.1.cls t.2.2.2 nm ∈ x_Tw ∧ Jvm.Cond.castable (x_exc q) nm ∈ x_Tw) ∧ k t.2.2.1
theorem x_mapsplit {α β : Type} {f : α → β} : ∀ {l : List α} {a : List β} {b : β} {c : List β}, l.map f = a ++ b :: c → ∃ (l1 : List α) (x : α) (l2 : List α), l = l1 ++ x :: l2 ∧ l1.map f = a ∧ f x = b ∧ l2.map f = c := by
  intro l a b c h
  obtain ⟨l1, l2, h1, h2, h3⟩ := List.map_eq_append_iff.mp h
  obtain ⟨x, l3, h4, h5, h6⟩ := List.map_eq_cons_iff.mp h3
  exact ⟨l1, x, l3, by rw [h1, h4], h2, h5, h6⟩
theorem x_callC {E : xR} {M : xM} {R : Room} {Q : xK} {n : Nat} {h : xH} {pc : Nat} {lv : List (Nat × Value)} {rest st0 av : List Value} {cells slots : Nat} {M' : xM} {d kc ks : Nat} {Q' : xK} {ig : Instr} (hdg : decode M.2.1 pc = .ok (ig, 3)) (hiv : x_Iv E M M' R n h pc av rest st0 cells slots) (hwd : x_wd M' ∈ x_Tw) (hini : Jvm.Cond.initialized M'.1.cls ∈ x_Tw) (hM : x_Mt E M' d kc ks av n h Q')
    (hfr : d + 1 ≤ R.frames) (hlo : 8 + (M'.2.2.1 + 11) + 64 * d ≤ R.locals) (hcl : cells + kc ≤ R.cells) (hsl : slots + ks ≤ R.slots) (hrs : (rest.map fun v => v.category).sum ≤ 8) (hnt : ¬ x_tg E) (ai : Nat) (hai : ai < M.2.2.1)
    (kr : ∀ v n' h' k j, Q' (.inl v) n' h' k j → x_W E M R Q n' h' (pc + 3) lv (v.toList ++ rest) (cells + k) (slots + j))
    (kt : ∀ q n' h' k j, Q' (.inr q) n' h' k j → x_Cc E M pc q (fun hp => (∃ z : Fin 4, decode M.2.1 hp = .ok (.astore_n z, 1) ∧ (z : Nat) = ai ∧ x_W E M R Q n' h' (hp + 1) (lv.filter fun q => !(q.1 == ai) && !(q.1 + 1 == ai && q.2.category == 2)) [] (cells + k) (slots + j)) ∨ (decode M.2.1 hp = .ok (.astore ai, 2) ∧ x_W E M R Q n' h' (hp + 2) (lv.filter fun q => !(q.1 == ai) && !(q.1 + 1 == ai && q.2.category == 2)) [] (cells + k) (slots + j)))) : x_W E M R Q n h pc lv st0 cells slots := by
  intro p e s m args below meth c H locs ls C hP hS hl hz T hT X
  subst hT
  obtain ⟨hx, hb, hml, hown, hr0, hlk, hnm, htb, hT0, hK, hL⟩ := id C
  obtain ⟨mk, vm₁, hn, X₁, st⟩ := hiv p e s m args below meth c T locs ls C hP hS X
  have hT1 : x_T E (T.setVm vm₁) := x_keep (U := T.setVm vm₁) (locs := locs) hT0 X₁.warmed hS
  have hK1 : va_K (x_D E) x_Cl (x_tys E) (T.setVm vm₁) := va_K.moved (U := T.setVm vm₁) X₁.warmed.alike hK
  have hrs' : ((rest.map (x_v E)).map fun v => v.category).sum ≤ 8 := by
    have : ((rest.map (x_v E)).map fun v => v.category) = rest.map fun v => v.category := by
      rw [List.map_map]
      exact List.map_congr_left fun v _ => x_cat E v
    rw [this]
    exact hrs
  obtain ⟨o', n', h', k, j, L, T', hQ, X', hL', hP', hWT, hsz, hkeep, hst⟩ := x_callee X₁ hM (g := F0 m pc ls (rest.map (x_v E))) rfl (hl.1.trans hml.symm) (ig := ig) (len := 3) (by rw [hb]; exact hdg) (lv_room hrs') (X₁.named hn) hT1 hK1 hP (Nat.le_trans hL hS.1) (fun z => absurd z hnt) (hT1.1 _ hwd) (hT1.1 _ hini) hfr hlo hcl hsl
  have hS' : va_S (x_A E) s.heap T'.heap (locs ++ L) := ⟨Nat.le_trans hS.1 hsz, fun q h1 h2 => (hkeep q (Nat.lt_of_lt_of_le h1 hS.1) h2).trans (hS.2.1 q h1 h2), fun q hq => by
    rcases List.mem_append.mp hq with z | z
    · exact hS.2.2 q z
    · exact hL' q z⟩
  cases o' with
  | inl v =>
    obtain ⟨t, a1, b1⟩ := kr v n' h' k j hQ p e s m args below meth c T'.heap (locs ++ L) ls C hP' hS' hl (fun z => absurd z hnt) T' rfl X'
    refine ⟨t, st t (fun acts => ?_), b1⟩
    rw [doInvoke_state]
    refine Steps.trans hst ?_
    have hst2 : (v.map (x_v E)).toList ++ rest.map (x_v E) = (v.toList ++ rest).map (x_v E) := by cases v <;> simp
    show Steps p.tables e below (T'.setTop (F0 m (pc + 3) ls ((v.map (x_v E)).toList ++ rest.map (x_v E)))) t
    rw [hst2]
    exact a1
  | inr q =>
    obtain ⟨a, cell, hc1, hc2, hc3, hst⟩ := hst
    obtain ⟨pre, t, suf, hsp, hpass, ht1, ht2, ht0, ⟨nm, hnm1, hnm2⟩, hk⟩ := kt q n' h' k j hQ
    obtain ⟨pe, xe, se, hsplit, e1, e2, -⟩ := x_mapsplit (htb.trans hsp)
    have hfc : s.vm.findClass (x_exc q) = some cell.cls := by
      rw [← X'.warmed.alike.findClass]
      exact hc3
    have hcov : covers xe pc = true := by
      rw [← e2] at ht1 ht2
      show (decide (xe.startPc ≤ pc) && decide (pc < xe.endPc)) = true
      rw [decide_eq_true ht1, decide_eq_true ht2]
      rfl
    have hk' : W p (x_l E) e R s m args below meth c T'.heap (locs ++ L) (cells + k) (slots + j) (x_Q E Q below s) (F0 m xe.handlerPc ls [.ref a]) := by
      have ehp : xe.handlerPc = t.2.2.1 := by rw [← e2]
      rw [ehp]
      rcases hk with ⟨z, dz, hzi, kk⟩ | ⟨dz, kk⟩
      · refine lv_astore_n hx hb dz hzi hl hai rfl fun ls' hl' => ?_
        refine kk p e s m args below meth c T'.heap (locs ++ L) ls' C hP' hS' ?_ (fun z => absurd z hnt)
        refine x_has_sub hl' fun q0 hq0 => List.mem_cons_of_mem _ ?_
        obtain ⟨q1, hq1, rfl⟩ := List.mem_map.mp hq0
        obtain ⟨g1, g2⟩ := List.mem_filter.mp hq1
        refine List.mem_filter.mpr ⟨List.mem_map.mpr ⟨q1, g1, rfl⟩, ?_⟩
        simp only [x_cat]
        exact g2
      · refine lv_astore hx hb dz hl hai rfl fun ls' hl' => ?_
        refine kk p e s m args below meth c T'.heap (locs ++ L) ls' C hP' hS' ?_ (fun z => absurd z hnt)
        refine x_has_sub hl' fun q0 hq0 => List.mem_cons_of_mem _ ?_
        obtain ⟨q1, hq1, rfl⟩ := List.mem_map.mp hq0
        obtain ⟨g1, g2⟩ := List.mem_filter.mp hq1
        refine List.mem_filter.mpr ⟨List.mem_map.mpr ⟨q1, g1, rfl⟩, ?_⟩
        simp only [x_cat]
        exact g2
    obtain ⟨t2, a1, b1⟩ := vx_catch (rest := rest.map (x_v E)) hown pe xe se hsplit (fun z hz9 => by
      have hz8 : (z.startPc, z.endPc, z.handlerPc, z.catchType) ∈ pre := by rw [← e1]; exact List.mem_map.mpr ⟨z, hz9, rfl⟩
      obtain ⟨g0, nm', g1, g2, g3⟩ := hpass _ hz8
      refine Or.inr ⟨g0, nm', x_hts hT0 _ g1, ?_⟩
      rw [g2, g3]
      exact hT0.2.2.2.2.2.1) hcov (by have : xe.catchType = t.2.2.2 := by rw [← e2]
                                      rw [this]; exact ht0) (by have : xe.catchType = t.2.2.2 := by rw [← e2]
                                                                rw [this]; exact x_hts hT0 _ hnm1) (x_hts hT0 _ hnm2) hc1 hc2 hfc hk' T' rfl X'
    refine ⟨t2, st t2 (fun acts => ?_), b1⟩
    rw [doInvoke_state]
    exact Steps.trans hst a1
/-- a method that comes back with v and leaves the world h, cell by cell; so many cells and slots are made -/
def x_YN (v : Option Value) (n : Nat) (h : xH) (kc ks : Nat) : xK := fun o n' h' k j => o = .inl v ∧ n' = n ∧ (∀ i, i < n → h' i = h i) ∧ k = kc ∧ j = ks
/-- a method that throws q and leaves the world h, cell by cell -/
def x_X (q n : Nat) (h : xH) : xK := fun o n' h' k j => o = .inr q ∧ n' = n ∧ (∀ i, i < n → h' i = h i) ∧ k = 1 ∧ j = 6
theorem x_callCV0Y {E : xR} {M : xM} {R : Room} {Q : xK} {n : Nat} {h : xH} {pc : Nat} {lv : List (Nat × Value)} {rest : List Value} {cells slots idx : Nat} {M' : xM} {d0 kc ks : Nat} {i ci N : Nat} {fs : List Value} {T : u_T}  {v : Option Value} {h1 : xH} (d : decode M.2.1 pc = .ok (.invokevirtual idx, 3)) (hk : x_CV M.1.cls idx M' 0) (hi : i < n) (hlo1 : i < 1000000) (hc : h i = .inr (ci, fs)) (hcc : x_Cl[ci]? = some (M'.1.cls, T, N)) (hM : x_Mt E M' d0 kc ks [.ref i] n h (x_Y v n h1)) (hfr : d0 + 1 ≤ R.frames) (hlo : 8 + (M'.2.2.1 + 11) + 64 * d0 ≤ R.locals) (hcl : cells + kc ≤ R.cells) (hsl : slots + ks ≤ R.slots) (hrs : (rest.map fun v => v.category).sum ≤ 8) (hnt : ¬ x_tg E) (ai : Nat) (hai : ai < M.2.2.1) (kr : x_W E M R Q n h1 (pc + 3) lv (v.toList ++ rest) cells slots) : x_W E M R Q n h pc lv (.ref i :: rest) cells slots :=
  x_callC (av := [.ref i]) (rest := rest) d (x_ivV (av := []) (C := M'.1.cls) d hk.1 hk.2.1 hk.2.2.2.1 hk.2.2.2.2.1 (fun s H locs _ hK hP _ => x_recv hK hP hi hlo1 hc hcc) hk.2.2.2.2.2) hk.2.1 hk.2.2.1 hM hfr hlo hcl hsl hrs hnt ai hai (x_Y_r kr) (fun q n' h' k j hq => by cases hq.1)
theorem x_callCV0X {E : xR} {M : xM} {R : Room} {Q : xK} {n : Nat} {h : xH} {pc : Nat} {lv : List (Nat × Value)} {rest : List Value} {cells slots idx : Nat} {M' : xM} {d0 kc ks : Nat} {i ci N q : Nat} {fs : List Value} {T : u_T}  {h1 : xH} (d : decode M.2.1 pc = .ok (.invokevirtual idx, 3)) (hk : x_CV M.1.cls idx M' 0) (hi : i < n) (hlo1 : i < 1000000) (hc : h i = .inr (ci, fs)) (hcc : x_Cl[ci]? = some (M'.1.cls, T, N)) (hM : x_Mt E M' d0 kc ks [.ref i] n h (x_X q n h1)) (hfr : d0 + 1 ≤ R.frames) (hlo : 8 + (M'.2.2.1 + 11) + 64 * d0 ≤ R.locals) (hcl : cells + kc ≤ R.cells) (hsl : slots + ks ≤ R.slots) (hrs : (rest.map fun v => v.category).sum ≤ 8) (hnt : ¬ x_tg E) (ai : Nat) (hai : ai < M.2.2.1) (kt : x_Cc E M pc q (fun hp => (∃ z : Fin 4, decode M.2.1 hp = .ok (.astore_n z, 1) ∧ (z : Nat) = ai ∧ x_W E M R Q n h1 (hp + 1) (lv.filter fun q => !(q.1 == ai) && !(q.1 + 1 == ai && q.2.category == 2)) [] (cells + 1) (slots + 6)) ∨ (decode M.2.1 hp = .ok (.astore ai, 2) ∧ x_W E M R Q n h1 (hp + 2) (lv.filter fun q => !(q.1 == ai) && !(q.1 + 1 == ai && q.2.category == 2)) [] (cells + 1) (slots + 6)))) : x_W E M R Q n h pc lv (.ref i :: rest) cells slots := by
  refine x_callC (av := [.ref i]) (rest := rest) d (x_ivV (av := []) (C := M'.1.cls) d hk.1 hk.2.1 hk.2.2.2.1 hk.2.2.2.2.1 (fun s H locs _ hK hP _ => x_recv hK hP hi hlo1 hc hcc) hk.2.2.2.2.2) hk.2.1 hk.2.2.1 hM hfr hlo hcl hsl hrs hnt ai hai (fun v n' h' k j hq => by cases hq.1) (fun q' n' h' k j hq => ?_)
  obtain ⟨e1, e2, e3, e4, e5⟩ := hq
  cases e1
  subst e2 e4 e5
  obtain ⟨pre, t, suf, g1, g2, g3, g4, g5, g6, g7⟩ := kt
  refine ⟨pre, t, suf, g1, g2, g3, g4, g5, g6, ?_⟩
  rcases g7 with ⟨z, g8, g9, g10⟩ | ⟨g8, g9⟩
  · exact Or.inl ⟨z, g8, g9, x_same e3 g10⟩
  · exact Or.inr ⟨g8, x_same e3 g9⟩
theorem x_callCV1Y {E : xR} {M : xM} {R : Room} {Q : xK} {n : Nat} {h : xH} {pc : Nat} {lv : List (Nat × Value)} {rest : List Value} {cells slots idx : Nat} {M' : xM} {d0 kc ks : Nat} {i ci N : Nat} {fs : List Value} {T : u_T} {a1 : Value} {v : Option Value} {h1 : xH} (d : decode M.2.1 pc = .ok (.invokevirtual idx, 3)) (hk : x_CV M.1.cls idx M' 1) (hi : i < n) (hlo1 : i < 1000000) (hc : h i = .inr (ci, fs)) (hcc : x_Cl[ci]? = some (M'.1.cls, T, N)) (hM : x_Mt E M' d0 kc ks [.ref i, a1] n h (x_Y v n h1)) (hfr : d0 + 1 ≤ R.frames) (hlo : 8 + (M'.2.2.1 + 11) + 64 * d0 ≤ R.locals) (hcl : cells + kc ≤ R.cells) (hsl : slots + ks ≤ R.slots) (hrs : (rest.map fun v => v.category).sum ≤ 8) (hnt : ¬ x_tg E) (ai : Nat) (hai : ai < M.2.2.1) (kr : x_W E M R Q n h1 (pc + 3) lv (v.toList ++ rest) cells slots) : x_W E M R Q n h pc lv (a1 :: .ref i :: rest) cells slots :=
  x_callC (av := [.ref i, a1]) (rest := rest) d (x_ivV (av := [a1]) (C := M'.1.cls) d hk.1 hk.2.1 hk.2.2.2.1 hk.2.2.2.2.1 (fun s H locs _ hK hP _ => x_recv hK hP hi hlo1 hc hcc) hk.2.2.2.2.2) hk.2.1 hk.2.2.1 hM hfr hlo hcl hsl hrs hnt ai hai (x_Y_r kr) (fun q n' h' k j hq => by cases hq.1)
theorem x_callCV1X {E : xR} {M : xM} {R : Room} {Q : xK} {n : Nat} {h : xH} {pc : Nat} {lv : List (Nat × Value)} {rest : List Value} {cells slots idx : Nat} {M' : xM} {d0 kc ks : Nat} {i ci N q : Nat} {fs : List Value} {T : u_T} {a1 : Value} {h1 : xH} (d : decode M.2.1 pc = .ok (.invokevirtual idx, 3)) (hk : x_CV M.1.cls idx M' 1) (hi : i < n) (hlo1 : i < 1000000) (hc : h i = .inr (ci, fs)) (hcc : x_Cl[ci]? = some (M'.1.cls, T, N)) (hM : x_Mt E M' d0 kc ks [.ref i, a1] n h (x_X q n h1)) (hfr : d0 + 1 ≤ R.frames) (hlo : 8 + (M'.2.2.1 + 11) + 64 * d0 ≤ R.locals) (hcl : cells + kc ≤ R.cells) (hsl : slots + ks ≤ R.slots) (hrs : (rest.map fun v => v.category).sum ≤ 8) (hnt : ¬ x_tg E) (ai : Nat) (hai : ai < M.2.2.1) (kt : x_Cc E M pc q (fun hp => (∃ z : Fin 4, decode M.2.1 hp = .ok (.astore_n z, 1) ∧ (z : Nat) = ai ∧ x_W E M R Q n h1 (hp + 1) (lv.filter fun q => !(q.1 == ai) && !(q.1 + 1 == ai && q.2.category == 2)) [] (cells + 1) (slots + 6)) ∨ (decode M.2.1 hp = .ok (.astore ai, 2) ∧ x_W E M R Q n h1 (hp + 2) (lv.filter fun q => !(q.1 == ai) && !(q.1 + 1 == ai && q.2.category == 2)) [] (cells + 1) (slots + 6)))) : x_W E M R Q n h pc lv (a1 :: .ref i :: rest) cells slots := by
  refine x_callC (av := [.ref i, a1]) (rest := rest) d (x_ivV (av := [a1]) (C := M'.1.cls) d hk.1 hk.2.1 hk.2.2.2.1 hk.2.2.2.2.1 (fun s H locs _ hK hP _ => x_recv hK hP hi hlo1 hc hcc) hk.2.2.2.2.2) hk.2.1 hk.2.2.1 hM hfr hlo hcl hsl hrs hnt ai hai (fun v n' h' k j hq => by cases hq.1) (fun q' n' h' k j hq => ?_)
  obtain ⟨e1, e2, e3, e4, e5⟩ := hq
  cases e1
  subst e2 e4 e5
  obtain ⟨pre, t, suf, g1, g2, g3, g4, g5, g6, g7⟩ := kt
  refine ⟨pre, t, suf, g1, g2, g3, g4, g5, g6, ?_⟩
  rcases g7 with ⟨z, g8, g9, g10⟩ | ⟨g8, g9⟩
  · exact Or.inl ⟨z, g8, g9, x_same e3 g10⟩
  · exact Or.inr ⟨g8, x_same e3 g9⟩
theorem x_callCV2Y {E : xR} {M : xM} {R : Room} {Q : xK} {n : Nat} {h : xH} {pc : Nat} {lv : List (Nat × Value)} {rest : List Value} {cells slots idx : Nat} {M' : xM} {d0 kc ks : Nat} {i ci N : Nat} {fs : List Value} {T : u_T} {a1 a2 : Value} {v : Option Value} {h1 : xH} (d : decode M.2.1 pc = .ok (.invokevirtual idx, 3)) (hk : x_CV M.1.cls idx M' 2) (hi : i < n) (hlo1 : i < 1000000) (hc : h i = .inr (ci, fs)) (hcc : x_Cl[ci]? = some (M'.1.cls, T, N)) (hM : x_Mt E M' d0 kc ks [.ref i, a1, a2] n h (x_Y v n h1)) (hfr : d0 + 1 ≤ R.frames) (hlo : 8 + (M'.2.2.1 + 11) + 64 * d0 ≤ R.locals) (hcl : cells + kc ≤ R.cells) (hsl : slots + ks ≤ R.slots) (hrs : (rest.map fun v => v.category).sum ≤ 8) (hnt : ¬ x_tg E) (ai : Nat) (hai : ai < M.2.2.1) (kr : x_W E M R Q n h1 (pc + 3) lv (v.toList ++ rest) cells slots) : x_W E M R Q n h pc lv (a2 :: a1 :: .ref i :: rest) cells slots :=
  x_callC (av := [.ref i, a1, a2]) (rest := rest) d (x_ivV (av := [a1, a2]) (C := M'.1.cls) d hk.1 hk.2.1 hk.2.2.2.1 hk.2.2.2.2.1 (fun s H locs _ hK hP _ => x_recv hK hP hi hlo1 hc hcc) hk.2.2.2.2.2) hk.2.1 hk.2.2.1 hM hfr hlo hcl hsl hrs hnt ai hai (x_Y_r kr) (fun q n' h' k j hq => by cases hq.1)
theorem x_callCV2X {E : xR} {M : xM} {R : Room} {Q : xK} {n : Nat} {h : xH} {pc : Nat} {lv : List (Nat × Value)} {rest : List Value} {cells slots idx : Nat} {M' : xM} {d0 kc ks : Nat} {i ci N q : Nat} {fs : List Value} {T : u_T} {a1 a2 : Value} {h1 : xH} (d : decode M.2.1 pc = .ok (.invokevirtual idx, 3)) (hk : x_CV M.1.cls idx M' 2) (hi : i < n) (hlo1 : i < 1000000) (hc : h i = .inr (ci, fs)) (hcc : x_Cl[ci]? = some (M'.1.cls, T, N)) (hM : x_Mt E M' d0 kc ks [.ref i, a1, a2] n h (x_X q n h1)) (hfr : d0 + 1 ≤ R.frames) (hlo : 8 + (M'.2.2.1 + 11) + 64 * d0 ≤ R.locals) (hcl : cells + kc ≤ R.cells) (hsl : slots + ks ≤ R.slots) (hrs : (rest.map fun v => v.category).sum ≤ 8) (hnt : ¬ x_tg E) (ai : Nat) (hai : ai < M.2.2.1) (kt : x_Cc E M pc q (fun hp => (∃ z : Fin 4, decode M.2.1 hp = .ok (.astore_n z, 1) ∧ (z : Nat) = ai ∧ x_W E M R Q n h1 (hp + 1) (lv.filter fun q => !(q.1 == ai) && !(q.1 + 1 == ai && q.2.category == 2)) [] (cells + 1) (slots + 6)) ∨ (decode M.2.1 hp = .ok (.astore ai, 2) ∧ x_W E M R Q n h1 (hp + 2) (lv.filter fun q => !(q.1 == ai) && !(q.1 + 1 == ai && q.2.category == 2)) [] (cells + 1) (slots + 6)))) : x_W E M R Q n h pc lv (a2 :: a1 :: .ref i :: rest) cells slots := by
  refine x_callC (av := [.ref i, a1, a2]) (rest := rest) d (x_ivV (av := [a1, a2]) (C := M'.1.cls) d hk.1 hk.2.1 hk.2.2.2.1 hk.2.2.2.2.1 (fun s H locs _ hK hP _ => x_recv hK hP hi hlo1 hc hcc) hk.2.2.2.2.2) hk.2.1 hk.2.2.1 hM hfr hlo hcl hsl hrs hnt ai hai (fun v n' h' k j hq => by cases hq.1) (fun q' n' h' k j hq => ?_)
  obtain ⟨e1, e2, e3, e4, e5⟩ := hq
  cases e1
  subst e2 e4 e5
  obtain ⟨pre, t, suf, g1, g2, g3, g4, g5, g6, g7⟩ := kt
  refine ⟨pre, t, suf, g1, g2, g3, g4, g5, g6, ?_⟩
  rcases g7 with ⟨z, g8, g9, g10⟩ | ⟨g8, g9⟩
  · exact Or.inl ⟨z, g8, g9, x_same e3 g10⟩
  · exact Or.inr ⟨g8, x_same e3 g9⟩
theorem x_callCV5Y {E : xR} {M : xM} {R : Room} {Q : xK} {n : Nat} {h : xH} {pc : Nat} {lv : List (Nat × Value)} {rest : List Value} {cells slots idx : Nat} {M' : xM} {d0 kc ks : Nat} {i ci N : Nat} {fs : List Value} {T : u_T} {a1 a2 a3 a4 a5 : Value} {v : Option Value} {h1 : xH} (d : decode M.2.1 pc = .ok (.invokevirtual idx, 3)) (hk : x_CV M.1.cls idx M' 5) (hi : i < n) (hlo1 : i < 1000000) (hc : h i = .inr (ci, fs)) (hcc : x_Cl[ci]? = some (M'.1.cls, T, N)) (hM : x_Mt E M' d0 kc ks [.ref i, a1, a2, a3, a4, a5] n h (x_Y v n h1)) (hfr : d0 + 1 ≤ R.frames) (hlo : 8 + (M'.2.2.1 + 11) + 64 * d0 ≤ R.locals) (hcl : cells + kc ≤ R.cells) (hsl : slots + ks ≤ R.slots) (hrs : (rest.map fun v => v.category).sum ≤ 8) (hnt : ¬ x_tg E) (ai : Nat) (hai : ai < M.2.2.1) (kr : x_W E M R Q n h1 (pc + 3) lv (v.toList ++ rest) cells slots) : x_W E M R Q n h pc lv (a5 :: a4 :: a3 :: a2 :: a1 :: .ref i :: rest) cells slots :=
  x_callC (av := [.ref i, a1, a2, a3, a4, a5]) (rest := rest) d (x_ivV (av := [a1, a2, a3, a4, a5]) (C := M'.1.cls) d hk.1 hk.2.1 hk.2.2.2.1 hk.2.2.2.2.1 (fun s H locs _ hK hP _ => x_recv hK hP hi hlo1 hc hcc) hk.2.2.2.2.2) hk.2.1 hk.2.2.1 hM hfr hlo hcl hsl hrs hnt ai hai (x_Y_r kr) (fun q n' h' k j hq => by cases hq.1)
theorem x_callCV5X {E : xR} {M : xM} {R : Room} {Q : xK} {n : Nat} {h : xH} {pc : Nat} {lv : List (Nat × Value)} {rest : List Value} {cells slots idx : Nat} {M' : xM} {d0 kc ks : Nat} {i ci N q : Nat} {fs : List Value} {T : u_T} {a1 a2 a3 a4 a5 : Value} {h1 : xH} (d : decode M.2.1 pc = .ok (.invokevirtual idx, 3)) (hk : x_CV M.1.cls idx M' 5) (hi : i < n) (hlo1 : i < 1000000) (hc : h i = .inr (ci, fs)) (hcc : x_Cl[ci]? = some (M'.1.cls, T, N)) (hM : x_Mt E M' d0 kc ks [.ref i, a1, a2, a3, a4, a5] n h (x_X q n h1)) (hfr : d0 + 1 ≤ R.frames) (hlo : 8 + (M'.2.2.1 + 11) + 64 * d0 ≤ R.locals) (hcl : cells + kc ≤ R.cells) (hsl : slots + ks ≤ R.slots) (hrs : (rest.map fun v => v.category).sum ≤ 8) (hnt : ¬ x_tg E) (ai : Nat) (hai : ai < M.2.2.1) (kt : x_Cc E M pc q (fun hp => (∃ z : Fin 4, decode M.2.1 hp = .ok (.astore_n z, 1) ∧ (z : Nat) = ai ∧ x_W E M R Q n h1 (hp + 1) (lv.filter fun q => !(q.1 == ai) && !(q.1 + 1 == ai && q.2.category == 2)) [] (cells + 1) (slots + 6)) ∨ (decode M.2.1 hp = .ok (.astore ai, 2) ∧ x_W E M R Q n h1 (hp + 2) (lv.filter fun q => !(q.1 == ai) && !(q.1 + 1 == ai && q.2.category == 2)) [] (cells + 1) (slots + 6)))) : x_W E M R Q n h pc lv (a5 :: a4 :: a3 :: a2 :: a1 :: .ref i :: rest) cells slots := by
  refine x_callC (av := [.ref i, a1, a2, a3, a4, a5]) (rest := rest) d (x_ivV (av := [a1, a2, a3, a4, a5]) (C := M'.1.cls) d hk.1 hk.2.1 hk.2.2.2.1 hk.2.2.2.2.1 (fun s H locs _ hK hP _ => x_recv hK hP hi hlo1 hc hcc) hk.2.2.2.2.2) hk.2.1 hk.2.2.1 hM hfr hlo hcl hsl hrs hnt ai hai (fun v n' h' k j hq => by cases hq.1) (fun q' n' h' k j hq => ?_)
  obtain ⟨e1, e2, e3, e4, e5⟩ := hq
  cases e1
  subst e2 e4 e5
  obtain ⟨pre, t, suf, g1, g2, g3, g4, g5, g6, g7⟩ := kt
  refine ⟨pre, t, suf, g1, g2, g3, g4, g5, g6, ?_⟩
  rcases g7 with ⟨z, g8, g9, g10⟩ | ⟨g8, g9⟩
  · exact Or.inl ⟨z, g8, g9, x_same e3 g10⟩
  · exact Or.inr ⟨g8, x_same e3 g9⟩
