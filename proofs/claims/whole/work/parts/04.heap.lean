/-- what the tables say of the class number ci -/
def x_Cls (ci : Nat) (C : String) (T : u_T) (N : Nat) (ty0 : Nat → FieldType) : Prop := x_Cl[ci]? = some (C, T, N) ∧ (∀ w ∈ u_ws C T N, w ∈ x_Tw) ∧ (∀ k, k < N → parseFieldDescriptor (T k).2.2.1 = some (ty0 k)) ∧ ∀ a, a < N → ∀ b, b < N → a ≠ b → (T a).2.1 ≠ (T b).2.1
/-- the pool's entry idx of the class own names field k of the class ci, of type ty, final or not -/
def x_Fl (own : String) (idx ci k : Nat) (ty : FieldType) (fin : Bool) : Prop := ∃ (C : String) (T : u_T) (N : Nat) (ty0 : Nat → FieldType), x_Cls ci C T N ty0 ∧ k < N ∧ ty0 k = ty ∧ (T k).2.2.2 = fin ∧ (T k).1 = C ∧ (Cond.fieldLink own idx (T k).1 (T k).2.1 (T k).2.2.1 ∈ x_Tw ∨ ∃ host : String, Cond.fieldLinkNest own idx (T k).1 (T k).2.1 (T k).2.2.1 host ∈ x_Nw)
theorem x_hts {E : xR} {s : State} {args : Array Value} (h : x_T E s) : ∀ w ∈ x_Tw, w.before args s = true := fun w hw => x_word (State.WarmedH.refl s) (x_Tw_ok hw) (h.1 w hw)
theorem x_ob {E : xR} {n i ci : Nat} {h : xH} {fs : List Value} (hi : i < n) (hc : h i = .inr (ci, fs)) : (x_ws E n h)[i]? = some (x_L E + i, .inr (ci, fs.map (x_v E))) := by
  rw [x_ws_at hi, hc]
  rfl
theorem x_ar {E : xR} {n i t : Nat} {h : xH} {a : vp_A} (hi : i < n) (hc : h i = .inl (t, a)) : (x_ws E n h)[i]? = some (x_L E + i, .inl (x_cT E t, x_a E a)) := by
  rw [x_ws_at hi, hc]
  rfl
theorem x_get {E : xR} {M : xM} {R : Room} {Q : xK} {n : Nat} {h : xH} {pc : Nat} {lv : List (Nat × Value)} {rest : List Value} {cells slots : Nat} {idx i ci k : Nat} {ty : FieldType} {fin : Bool} {fs : List Value} {v : Value} (d : decode M.2.1 pc = .ok (.getfield idx, 3)) (hf : x_Fl M.1.cls idx ci k ty fin) (hi : i < n) (hlo : i < 1000000) (hc : h i = .inr (ci, fs)) (hv : fs[k]? = some v) (kk : x_W E M R Q n h (pc + 3) lv (v :: rest) cells slots) : x_W E M R Q n h pc lv (.ref i :: rest) cells slots := by
  intro p e s m args below meth c H locs ls C hP hS hl hz
  obtain ⟨hx, hb, hml, hown, hr, hlk, hnm, htb, hT, hK, hL⟩ := id C
  obtain ⟨C0, T0, N0, ty0, ⟨h1, h2, h3, h4⟩, hk, rfl, rfl, rfl, hlink⟩ := hf
  have hv' : (fs.map (x_v E))[k]? = some (x_v E v) := by rw [List.getElem?_map, hv]; rfl
  show W p (x_l E) e R s m args below meth c H locs cells slots (x_Q E Q below s) (F0 m pc ls (.ref (x_r E i) :: rest.map (x_v E)))
  rw [x_rlo E hlo]
  rcases hlink with hlink | ⟨host, hlink⟩
  · exact va_get hx hb (x_hts hT) h2 hown hK hP i (x_ob hi hc) h1 k hk (x_hts hT _ hlink) (fun _ z => z) hv' d (kk p e s m args below meth c H locs ls C hP hS hl hz)
  · exact va_getN hx hb (x_hts hT) h2 hown hK hP i (x_ob hi hc) h1 k hk (va_Nw.use rfl (hT.2.1 _ hlink)) (fun _ z => z) hv' d (kk p e s m args below meth c H locs ls C hP hS hl hz)
theorem x_put {E : xR} {M : xM} {R : Room} {Q : xK} {n : Nat} {h : xH} {pc : Nat} {lv : List (Nat × Value)} {rest : List Value} {cells slots : Nat} {idx i ci k : Nat} {ty : FieldType} {fs : List Value} {v : Value} (d : decode M.2.1 pc = .ok (.putfield idx, 3)) (hf : x_Fl M.1.cls idx ci k ty false) (hi : i < n) (hlo : i < 1000000) (hc : h i = .inr (ci, fs)) (hn : narrow ty (x_v E v) = x_v E v) (hfit : fits ty (x_v E v) = true) (hl0 : k < fs.length) (kk : x_W E M R Q n (x_up h i (.inr (ci, fs.set k v))) (pc + 3) lv rest cells slots) : x_W E M R Q n h pc lv (v :: .ref i :: rest) cells slots := by
  intro p e s m args below meth c H locs ls C hP hS hl hz
  obtain ⟨hx, hb, hml, hown, hr, hlk, hnm, htb, hT, hK, hL⟩ := id C
  obtain ⟨C0, T0, N0, ty0, ⟨h1, h2, h3, h4⟩, hk, rfl, hfin, rfl, hlink⟩ := hf
  have he : (x_ws E n h).set i (x_L E + i, .inr (ci, (fs.map (x_v E)).set k (x_v E v))) = x_ws E n (x_up h i (.inr (ci, fs.set k v))) := by
    rw [← List.map_set]
    exact x_ws_set (c := .inr (ci, fs.set k v))
  show W p (x_l E) e R s m args below meth c H locs cells slots (x_Q E Q below s) (F0 m pc ls (x_v E v :: .ref (x_r E i) :: rest.map (x_v E)))
  rw [x_rlo E hlo]
  rcases hlink with hlink | ⟨host, hlink⟩
  · refine va_put hx hb (x_hts hT) h2 ty0 h3 h4 hown hK hP x_Dok hS i (x_ob hi hc) h1 k hk (x_hts hT _ hlink) (fun _ z => z) hfin (h3 k hk) hn hfit (by simpa using hl0) d (fun H1 locs1 hP1 hD1 hS1 => ?_)
    rw [he] at hP1
    exact kk p e s m args below meth c H1 locs1 ls C hP1 hS1 hl hz
  · refine va_putN hx hb (x_hts hT) h2 ty0 h3 h4 hown hK hP x_Dok hS i (x_ob hi hc) h1 k hk (va_Nw.use rfl (hT.2.1 _ hlink)) (fun _ z => z) hfin (h3 k hk) hn hfit (by simpa using hl0) d (fun H1 locs1 hP1 hD1 hS1 => ?_)
    rw [he] at hP1
    exact kk p e s m args below meth c H1 locs1 ls C hP1 hS1 hl hz
/-- a final field, in its class's constructor -/
theorem x_putF {E : xR} {M : xM} {R : Room} {Q : xK} {n : Nat} {h : xH} {pc : Nat} {lv : List (Nat × Value)} {rest : List Value} {cells slots : Nat} {idx i ci k : Nat} {ty : FieldType} {fs : List Value} {v : Value} (d : decode M.2.1 pc = .ok (.putfield idx, 3)) (hini : M.1.name = "<init>") (C0 : String) (T0 : u_T) (N0 : Nat) (ty0 : Nat → FieldType) (hcl : x_Cls ci C0 T0 N0 ty0) (hk : k < N0) (hty : ty0 k = ty) (hfin : (T0 k).2.2.2 = true) (hdec : (T0 k).1 = M.1.cls) (hlink : Cond.fieldLink M.1.cls idx (T0 k).1 (T0 k).2.1 (T0 k).2.2.1 ∈ x_Tw) (hi : i < n) (hlo : i < 1000000) (hc : h i = .inr (ci, fs)) (hn : narrow ty (x_v E v) = x_v E v) (hfit : fits ty (x_v E v) = true) (hl0 : k < fs.length) (kk : x_W E M R Q n (x_up h i (.inr (ci, fs.set k v))) (pc + 3) lv rest cells slots) : x_W E M R Q n h pc lv (v :: .ref i :: rest) cells slots := by
  intro p e s m args below meth c H locs ls C hP hS hl hz
  obtain ⟨hx, hb, hml, hown, hr, hlk, hnm, htb, hT, hK, hL⟩ := id C
  obtain ⟨h1, h2, h3, h4⟩ := hcl
  subst hty
  have he : (x_ws E n h).set i (x_L E + i, .inr (ci, (fs.map (x_v E)).set k (x_v E v))) = x_ws E n (x_up h i (.inr (ci, fs.set k v))) := by
    rw [← List.map_set]
    exact x_ws_set (c := .inr (ci, fs.set k v))
  show W p (x_l E) e R s m args below meth c H locs cells slots (x_Q E Q below s) (F0 m pc ls (x_v E v :: .ref (x_r E i) :: rest.map (x_v E)))
  rw [x_rlo E hlo]
  refine va_putF hx hb (x_hts hT) h2 ty0 h3 h4 hown hK hP x_Dok hS i (x_ob hi hc) h1 k hk (x_hts hT _ hlink) (fun _ z => z) hfin (hnm.trans hini) hdec (h3 k hk) hn hfit (by simpa using hl0) d (fun H1 locs1 hP1 hD1 hS1 => ?_)
  rw [he] at hP1
  exact kk p e s m args below meth c H1 locs1 ls C hP1 hS1 hl hz
theorem x_iald {E : xR} {M : xM} {R : Room} {Q : xK} {n : Nat} {h : xH} {pc : Nat} {lv : List (Nat × Value)} {rest : List Value} {cells slots : Nat} {i N : Nat} {f : Nat → Int32} {j : Int32} (d : decode M.2.1 pc = .ok (.iaload, 1)) (hi : i < n) (hlo : i < 1000000) (hc : h i = .inl (0, N, .inl f)) (hin : vp_in j N) (kk : x_W E M R Q n h (pc + 1) lv (.int (f j.toNatClampNeg) :: rest) cells slots) : x_W E M R Q n h pc lv (.int j :: .ref i :: rest) cells slots := by
  intro p e s m args below meth c H locs ls C hP hS hl hz
  obtain ⟨hx, hb, hml, hown, hr, hlk, hnm, htb, hT, hK, hL⟩ := id C
  show W p (x_l E) e R s m args below meth c H locs cells slots (x_Q E Q below s) (F0 m pc ls (.int j :: .ref (x_r E i) :: rest.map (x_v E)))
  rw [x_rlo E hlo]
  exact va_iald hx hb hK hP i 0 (x_ar hi hc) rfl hin d (kk p e s m args below meth c H locs ls C hP hS hl hz)
theorem x_bald {E : xR} {M : xM} {R : Room} {Q : xK} {n : Nat} {h : xH} {pc : Nat} {lv : List (Nat × Value)} {rest : List Value} {cells slots : Nat} {i N : Nat} {f : Nat → Int32} {j : Int32} (d : decode M.2.1 pc = .ok (.baload, 1)) (hi : i < n) (hlo : i < 1000000) (hc : h i = .inl (1, N, .inl f)) (hin : vp_in j N) (kk : x_W E M R Q n h (pc + 1) lv (.int (f j.toNatClampNeg) :: rest) cells slots) : x_W E M R Q n h pc lv (.int j :: .ref i :: rest) cells slots := by
  intro p e s m args below meth c H locs ls C hP hS hl hz
  obtain ⟨hx, hb, hml, hown, hr, hlk, hnm, htb, hT, hK, hL⟩ := id C
  show W p (x_l E) e R s m args below meth c H locs cells slots (x_Q E Q below s) (F0 m pc ls (.int j :: .ref (x_r E i) :: rest.map (x_v E)))
  rw [x_rlo E hlo]
  exact va_bald hx hb hK hP i 1 (x_ar hi hc) rfl hin d (kk p e s m args below meth c H locs ls C hP hS hl hz)
theorem x_lald {E : xR} {M : xM} {R : Room} {Q : xK} {n : Nat} {h : xH} {pc : Nat} {lv : List (Nat × Value)} {rest : List Value} {cells slots : Nat} {i N : Nat} {f : Nat → Int64} {j : Int32} (d : decode M.2.1 pc = .ok (.laload, 1)) (hi : i < n) (hlo : i < 1000000) (hc : h i = .inl (2, N, .inr (.inl f))) (hin : vp_in j N) (kk : x_W E M R Q n h (pc + 1) lv (.long (f j.toNatClampNeg) :: rest) cells slots) : x_W E M R Q n h pc lv (.int j :: .ref i :: rest) cells slots := by
  intro p e s m args below meth c H locs ls C hP hS hl hz
  obtain ⟨hx, hb, hml, hown, hr, hlk, hnm, htb, hT, hK, hL⟩ := id C
  show W p (x_l E) e R s m args below meth c H locs cells slots (x_Q E Q below s) (F0 m pc ls (.int j :: .ref (x_r E i) :: rest.map (x_v E)))
  rw [x_rlo E hlo]
  exact va_lald hx hb hK hP i 2 (x_ar hi hc) rfl hin d (kk p e s m args below meth c H locs ls C hP hS hl hz)
theorem x_iast {E : xR} {M : xM} {R : Room} {Q : xK} {n : Nat} {h : xH} {pc : Nat} {lv : List (Nat × Value)} {rest : List Value} {cells slots : Nat} {i N : Nat} {f : Nat → Int32} {j : Int32} {x : Int32} (d : decode M.2.1 pc = .ok (.iastore, 1)) (hi : i < n) (hlo : i < 1000000) (hc : h i = .inl (0, N, .inl f)) (hin : vp_in j N) (kk : x_W E M R Q n (x_up h i (.inl (0, N, .inl (upd f j.toNatClampNeg x)))) (pc + 1) lv rest cells slots) : x_W E M R Q n h pc lv (.int x :: .int j :: .ref i :: rest) cells slots := by
  intro p e s m args below meth c H locs ls C hP hS hl hz
  obtain ⟨hx, hb, hml, hown, hr, hlk, hnm, htb, hT, hK, hL⟩ := id C
  show W p (x_l E) e R s m args below meth c H locs cells slots (x_Q E Q below s) (F0 m pc ls (.int x :: .int j :: .ref (x_r E i) :: rest.map (x_v E)))
  rw [x_rlo E hlo]
  refine va_iast hx hb hK hP x_Dok hS i 0 (x_ar hi hc) rfl hin d (fun H1 locs1 hP1 hD1 hS1 => ?_)
  exact kk p e s m args below meth c H1 locs1 ls C (by
    have he := x_ws_set (E := E) (n := n) (k := i) (h := h) (c := .inl (0, N, .inl (upd f j.toNatClampNeg x)))
    show va_P _ _ _ _
    rw [← he]
    exact hP1) hS1 hl hz
theorem x_bast {E : xR} {M : xM} {R : Room} {Q : xK} {n : Nat} {h : xH} {pc : Nat} {lv : List (Nat × Value)} {rest : List Value} {cells slots : Nat} {i N : Nat} {f : Nat → Int32} {j : Int32} {x : Int32} (d : decode M.2.1 pc = .ok (.bastore, 1)) (hi : i < n) (hlo : i < 1000000) (hc : h i = .inl (1, N, .inl f)) (hin : vp_in j N) (kk : x_W E M R Q n (x_up h i (.inl (1, N, .inl (upd f j.toNatClampNeg (vp_nar .byte x))))) (pc + 1) lv rest cells slots) : x_W E M R Q n h pc lv (.int x :: .int j :: .ref i :: rest) cells slots := by
  intro p e s m args below meth c H locs ls C hP hS hl hz
  obtain ⟨hx, hb, hml, hown, hr, hlk, hnm, htb, hT, hK, hL⟩ := id C
  show W p (x_l E) e R s m args below meth c H locs cells slots (x_Q E Q below s) (F0 m pc ls (.int x :: .int j :: .ref (x_r E i) :: rest.map (x_v E)))
  rw [x_rlo E hlo]
  refine va_bast hx hb hK hP x_Dok hS i 1 (x_ar hi hc) rfl hin d (fun H1 locs1 hP1 hD1 hS1 => ?_)
  exact kk p e s m args below meth c H1 locs1 ls C (by
    have he := x_ws_set (E := E) (n := n) (k := i) (h := h) (c := .inl (1, N, .inl (upd f j.toNatClampNeg (vp_nar .byte x))))
    show va_P _ _ _ _
    rw [← he]
    exact hP1) hS1 hl hz
theorem x_last {E : xR} {M : xM} {R : Room} {Q : xK} {n : Nat} {h : xH} {pc : Nat} {lv : List (Nat × Value)} {rest : List Value} {cells slots : Nat} {i N : Nat} {f : Nat → Int64} {j : Int32} {x : Int64} (d : decode M.2.1 pc = .ok (.lastore, 1)) (hi : i < n) (hlo : i < 1000000) (hc : h i = .inl (2, N, .inr (.inl f))) (hin : vp_in j N) (kk : x_W E M R Q n (x_up h i (.inl (2, N, .inr (.inl (vp_updL f j.toNatClampNeg x))))) (pc + 1) lv rest cells slots) : x_W E M R Q n h pc lv (.long x :: .int j :: .ref i :: rest) cells slots := by
  intro p e s m args below meth c H locs ls C hP hS hl hz
  obtain ⟨hx, hb, hml, hown, hr, hlk, hnm, htb, hT, hK, hL⟩ := id C
  show W p (x_l E) e R s m args below meth c H locs cells slots (x_Q E Q below s) (F0 m pc ls (.long x :: .int j :: .ref (x_r E i) :: rest.map (x_v E)))
  rw [x_rlo E hlo]
  refine va_last hx hb hK hP x_Dok hS i 2 (x_ar hi hc) rfl hin d (fun H1 locs1 hP1 hD1 hS1 => ?_)
  exact kk p e s m args below meth c H1 locs1 ls C (by
    have he := x_ws_set (E := E) (n := n) (k := i) (h := h) (c := .inl (2, N, .inr (.inl (vp_updL f j.toNatClampNeg x))))
    show va_P _ _ _ _
    rw [← he]
    exact hP1) hS1 hl hz
theorem x_alen {E : xR} {M : xM} {R : Room} {Q : xK} {n : Nat} {h : xH} {pc : Nat} {lv : List (Nat × Value)} {rest : List Value} {cells slots : Nat} {i t : Nat} {a : vp_A} {ty : FieldType} (d : decode M.2.1 pc = .ok (.arraylength, 1)) (hi : i < n) (hlo : i < 1000000) (hc : h i = .inl (t, a)) (ht : (x_tys E)[t]? = some (x_cT E t, ty)) (kk : x_W E M R Q n h (pc + 1) lv (.int (Int32.ofNat a.1) :: rest) cells slots) : x_W E M R Q n h pc lv (.ref i :: rest) cells slots := by
  intro p e s m args below meth c H locs ls C hP hS hl hz
  obtain ⟨hx, hb, hml, hown, hr, hlk, hnm, htb, hT, hK, hL⟩ := id C
  show W p (x_l E) e R s m args below meth c H locs cells slots (x_Q E Q below s) (F0 m pc ls (.ref (x_r E i) :: rest.map (x_v E)))
  rw [x_rlo E hlo]
  exact va_alen hx hb hK hP i t (x_ar hi hc) ht rfl d (kk p e s m args below meth c H locs ls C hP hS hl hz)
theorem x_rv (E : xR) (r : Option Nat) : x_v E (va_rf r) = va_rf (r.map (x_r E)) := by cases r <;> rfl
theorem x_aald {E : xR} {M : xM} {R : Room} {Q : xK} {n : Nat} {h : xH} {pc : Nat} {lv : List (Nat × Value)} {rest : List Value} {cells slots : Nat} {i N : Nat} {f : Nat → Option Nat} {j : Int32} (d : decode M.2.1 pc = .ok (.aaload, 1)) (hi : i < n) (hlo : i < 1000000) (hc : h i = .inl (3, N, .inr (.inr (.inr (.inr f))))) (hin : vp_in j N) (kk : x_W E M R Q n h (pc + 1) lv (va_rf (f j.toNatClampNeg) :: rest) cells slots) : x_W E M R Q n h pc lv (.int j :: .ref i :: rest) cells slots := by
  intro p e s m args below meth c H locs ls C hP hS hl hz
  obtain ⟨hx, hb, hml, hown, hr, hlk, hnm, htb, hT, hK, hL⟩ := id C
  have kk' := kk p e s m args below meth c H locs ls C hP hS hl hz
  show W p (x_l E) e R s m args below meth c H locs cells slots (x_Q E Q below s) (F0 m pc ls (.int j :: .ref (x_r E i) :: rest.map (x_v E)))
  rw [x_rlo E hlo]
  rw [List.map_cons, x_rv] at kk'
  exact va_aldq hx hb hK hP i 3 (x_ar hi hc) rfl hin d kk'
/-! RETURNS -/
theorem x_ireturn {E : xR} {M : xM} {R : Room} {Q : xK} {n : Nat} {h : xH} {pc : Nat} {lv : List (Nat × Value)} {cells slots : Nat} {v : Int32} (d : decode M.2.1 pc = .ok (.ireturn, 1)) {ty : FieldType} (hr : M.2.2.2.1 = some ty) (hn : narrow ty (.int v) = .int v) (hq : Q (.inl (some (.int v))) n h cells slots) : x_W E M R Q n h pc lv [.int v] cells slots := by
  intro p e s m args below meth c H locs ls C hP hS hl hz T hT X
  obtain ⟨hx, hb, hml, hown, hr0, hlk, hnm, htb, hT0, hK, hL⟩ := C
  subst hT
  have hr1 : meth.sig.returnType = some ty := hr0.trans hr
  obtain ⟨fs, hret, hrun, hended, hW, hframe⟩ := X.leave (v := some (.int v)) (hlocks := hlk) (fun z => by rw [hr1] at z; cases z)
  have hmeth' : T.vm.method? m = some meth := X.method'
  refine ⟨T.setFrames fs, ?_, .returned (some (.int v)), hrun, hended, .inl (some (.int v)), n, h, cells, slots, locs, hq, rfl, hP, hS.F rfl, hW, hframe, hS.2.2⟩
  show Steps p.tables e below (T.setTop (F0 m pc ls [.int v])) (T.setFrames fs)
  jvm_step X.here [X.here.top, hx, hb, d, hmeth', hr1, hn]
  (try refine ⟨rfl, ?_⟩); (try refine ⟨rfl, ?_⟩)
  first | (intro acts; rw [hret _ acts rfl rfl rfl]) | rw [hret _ _ rfl rfl rfl]
  exact Steps.refl _
theorem x_lreturn {E : xR} {M : xM} {R : Room} {Q : xK} {n : Nat} {h : xH} {pc : Nat} {lv : List (Nat × Value)} {cells slots : Nat} {v : Int64} (d : decode M.2.1 pc = .ok (.lreturn, 1)) (hr : M.2.2.2.1 = some .long) (hq : Q (.inl (some (.long v))) n h cells slots) : x_W E M R Q n h pc lv [.long v] cells slots := by
  intro p e s m args below meth c H locs ls C hP hS hl hz T hT X
  obtain ⟨hx, hb, hml, hown, hr0, hlk, hnm, htb, hT0, hK, hL⟩ := C
  subst hT
  have hr1 : meth.sig.returnType = some .long := hr0.trans hr
  obtain ⟨fs, hret, hrun, hended, hW, hframe⟩ := X.leave (v := some (.long v)) (hlocks := hlk) (fun z => by rw [hr1] at z; cases z)
  have hmeth' : T.vm.method? m = some meth := X.method'
  refine ⟨T.setFrames fs, ?_, .returned (some (.long v)), hrun, hended, .inl (some (.long v)), n, h, cells, slots, locs, hq, rfl, hP, hS.F rfl, hW, hframe, hS.2.2⟩
  show Steps p.tables e below (T.setTop (F0 m pc ls [.long v])) (T.setFrames fs)
  jvm_step X.here [X.here.top, hx, hb, d, hmeth', hr1, narrow]
  (try refine ⟨rfl, ?_⟩); (try refine ⟨rfl, ?_⟩)
  first | (intro acts; rw [hret _ acts rfl rfl rfl]) | rw [hret _ _ rfl rfl rfl]
  exact Steps.refl _
theorem x_return {E : xR} {M : xM} {R : Room} {Q : xK} {n : Nat} {h : xH} {pc : Nat} {lv : List (Nat × Value)} {cells slots : Nat} (d : decode M.2.1 pc = .ok (.return_, 1)) (hr : M.2.2.2.1 = none) (hq : Q (.inl none) n h cells slots) : x_W E M R Q n h pc lv [] cells slots := by
  intro p e s m args below meth c H locs ls C hP hS hl hz T hT X
  obtain ⟨hx, hb, hml, hown, hr0, hlk, hnm, htb, hT0, hK, hL⟩ := C
  subst hT
  have hr1 : meth.sig.returnType = none := hr0.trans hr
  obtain ⟨fs, hret, hrun, hended, hW, hframe⟩ := X.leave (v := none) (hlocks := hlk) (fun _ => rfl)
  have hmeth' : T.vm.method? m = some meth := X.method'
  refine ⟨T.setFrames fs, ?_, .returned none, hrun, hended, .inl none, n, h, cells, slots, locs, hq, rfl, hP, hS.F rfl, hW, hframe, hS.2.2⟩
  show Steps p.tables e below (T.setTop (F0 m pc ls [])) (T.setFrames fs)
  jvm_step X.here [X.here.top, hx, hb, d, hmeth', hr1]
  (try refine ⟨rfl, ?_⟩); (try refine ⟨rfl, ?_⟩)
  first | (intro acts; rw [hret _ acts rfl rfl rfl]) | rw [hret _ _ rfl rfl rfl]
  exact Steps.refl _
theorem x_areturn {E : xR} {M : xM} {R : Room} {Q : xK} {n : Nat} {h : xH} {pc : Nat} {lv : List (Nat × Value)} {cells slots : Nat} {i : Nat} (d : decode M.2.1 pc = .ok (.areturn, 1)) {cn : String} (hr : M.2.2.2.1 = some (.object cn)) (hq : Q (.inl (some (.ref i))) n h cells slots) : x_W E M R Q n h pc lv [.ref i] cells slots := by
  intro p e s m args below meth c H locs ls C hP hS hl hz T hT X
  obtain ⟨hx, hb, hml, hown, hr0, hlk, hnm, htb, hT0, hK, hL⟩ := C
  subst hT
  have hr1 : meth.sig.returnType = some (.object cn) := hr0.trans hr
  obtain ⟨fs, hret, hrun, hended, hW, hframe⟩ := X.leave (v := some (.ref (x_r E i))) (hlocks := hlk) (fun z => by rw [hr1] at z; cases z)
  have hmeth' : T.vm.method? m = some meth := X.method'
  refine ⟨T.setFrames fs, ?_, .returned (some (.ref (x_r E i))), hrun, hended, .inl (some (.ref i)), n, h, cells, slots, locs, hq, rfl, hP, hS.F rfl, hW, hframe, hS.2.2⟩
  show Steps p.tables e below (T.setTop (F0 m pc ls [.ref (x_r E i)])) (T.setFrames fs)
  jvm_step X.here [X.here.top, hx, hb, d, hmeth', hr1]
  (try refine ⟨rfl, ?_⟩); (try refine ⟨rfl, ?_⟩)
  first | (intro acts; rw [hret _ acts rfl rfl rfl]) | rw [hret _ _ rfl rfl rfl]
  exact Steps.refl _
/-! CONTRACTS -/
/-- a method's own word -/
def x_wd (M : xM) : Jvm.Cond := match M.2.2.2.2 with
  | [] => .code M.1 M.2.1 M.2.2.1 M.2.2.2.1
  | a :: r => .codeWith M.1 M.2.1 M.2.2.1 M.2.2.2.1 (a :: r)
theorem x_wd_spec {M : xM} {args : Array Value} {U : State} (h : (x_wd M).before args U = true) : ∃ m meth c, U.methodNamed? M.1 = some m ∧ U.vm.method? m = some meth ∧ meth.code = some c ∧ c.code = M.2.1 ∧ c.maxLocals = M.2.2.1 ∧ c.exceptionTable.toList.map (fun h => (h.startPc, h.endPc, h.handlerPc, h.catchType)) = M.2.2.2.2 ∧ meth.sig.returnType = M.2.2.2.1 ∧ meth.locks = false ∧ parseMethodDescriptor M.1.desc = some meth.sig := by
  obtain ⟨y, cc, nL, ret, hh⟩ := M
  cases hh with
  | nil =>
    have h : (Jvm.Cond.code y cc nL ret).before args U = true := h
    obtain ⟨m, hm⟩ := Cond.code_named h
    obtain ⟨meth, c, h1, h2, h3, h4, h5, h6, h7, h8⟩ := Cond.code_spec hm h
    refine ⟨m, meth, c, hm, h1, h2, h3, h4, ?_, h5, h6, h8⟩
    have e : c.exceptionTable = #[] := by simpa using h7
    rw [e]
    rfl
  | cons a r => exact Cond.codeWith_spec h
theorem x_wd_on (M : xM) : (x_wd M).onTables = true := by
  obtain ⟨y, cc, nL, ret, hh⟩ := M
  cases hh <;> rfl
def x_room (d kc ks : Nat) : Room := { frames := d, cells := kc, slots := ks, locals := 64 * d }
/-- the world at a method's entry -/
def x_U (E : xR) (n : Nat) (h : xH) (U : State) : Prop := x_P E n h U.heap ∧ x_T E U ∧ va_K (x_D E) x_Cl (x_tys E) U ∧ x_L E ≤ U.heap.size
/-- A CONTRACT: called with these values in this world, within d frames, kc cells, ks slots, the method ends so that Q holds -/
def x_Mt (E : xR) (M : xM) (d kc ks : Nat) (av : List Value) (n : Nat) (h : xH) (Q : xK) : Prop :=
  MetFree (x_l E) M.1 (headSpec [x_wd M] (x_room d kc ks)) (fun a U => a = (av.map (x_v E)).toArray ∧ x_U E n h U ∧ (x_tg E → U.heap.size = x_L E + n)) (fun _ _ _ _ _ => True) (fun _ st o t => x_Z E Q st o t)
theorem x_Mt.of {E : xR} {M : xM} {d kc ks : Nat} {av : List Value} {n : Nat} {h : xH} {Q : xK} (hy : plainName M.1.cls = true) (hlen : (lg_sl av).length ≤ M.2.2.1) (k : x_W E M (x_room d kc ks) Q n h 0 (lv_args 0 av) [] 0 0) : x_Mt E M d kc ks av n h Q := by
  refine MetFree.of_bodyS (code := M.2.1) (maxLocals := M.2.2.1) (ret := M.2.2.2.1) hy ?_ ?_
  · intro args s m hpre hn
    obtain ⟨m9, meth, c, hn9, h1, h2, h3, h4, -, h5, h6, -⟩ := x_wd_spec (atoms_spec (ws := [x_wd M]) hpre _ List.mem_cons_self)
    cases hn.symm.trans hn9
    exact ⟨meth, c, h1, h2, h3, h4, h5, h6⟩
  · intro p e s m args below meth c s₁ B hml hP _
    obtain ⟨rfl, ⟨hPw, hT, hK, hL⟩, hz⟩ := hP
    have hh0 : s₁.heap = s.heap := by rw [B.state]; rfl
    obtain ⟨m9, meth9, c9, hn9, g1, g2, -, -, g3, -, -, -⟩ := x_wd_spec (atoms_spec (ws := [x_wd M]) B.pre _ List.mem_cons_self)
    cases B.named.symm.trans hn9
    cases B.method.symm.trans g1
    have hcode : meth.code = some c := (Stand.of_body B).code
    cases hcode.symm.trans g2
    have hsl : (lg_sl (av.map (x_v E))).length = (lg_sl av).length := by
      have key : ∀ l : List Value, (lg_sl (l.map (x_v E))).length = (lg_sl l).length := by
        intro l
        induction l with
        | nil => rfl
        | cons v r ih =>
          simp only [lg_sl, List.map_cons, List.flatMap_cons, List.length_append, x_cat] at ih ⊢
          rw [ih]
          by_cases hc : v.category = 2 <;> simp [hc]
      exact key av
    have hl := lv_entry (av.map (x_v E)) (n := M.2.2.1) (by rw [hsl]; exact hlen)
    rw [x_args] at hl
    have w := k p e s m (av.map (x_v E)).toArray below meth c s₁.heap [] _ ⟨B.exec, B.bytes, hml, findClass_of_methodNamed B.named, B.returns, B.notSynchronized, (name_of_methodNamed B.named B.method).1, g3, hT, hK, hL⟩ (by rw [hh0]; exact hPw) (by rw [hh0]; exact va_S.rf) hl (fun z => by rw [Nat.add_zero]; exact hz z)
    obtain ⟨t, a1, o, b1, b2, b3⟩ := w s₁ rfl (Stand.of_body B)
    refine ⟨t, o, ?_, b1, b2, b3⟩
    rw [lg_entry_eq]
    exact a1
theorem x_Mt.post {E : xR} {M : xM} {d kc ks : Nat} {av : List Value} {n : Nat} {h : xH} {Q Q' : xK} (hQ : ∀ o n h k j, Q' o n h k j → Q o n h k j) (hm : x_Mt E M d kc ks av n h Q') : x_Mt E M d kc ks av n h Q := by
  intro p e ha hc hk s m args below hf happ hP hK
  obtain ⟨i, o, h1, h2, h3, o', n', h', k', j', L, h4, h5⟩ := hm p e ha hc hk s m args below hf happ hP hK
  exact ⟨i, o, h1, h2, h3, o', n', h', k', j', L, hQ _ _ _ _ _ h4, h5⟩
/-! CALLS: what the callee's contract gives at a point of the caller's walk, behind the invoking instruction's own links -/
theorem x_keep {E : xR} {s U : State} {locs : List Loc} (hT : x_T E s) (hW : s.WarmedH U.vm) (hS : va_S (x_A E) s.heap U.heap locs) : x_T E U := x_T_warm hT hW hS.2.1
theorem x_callee {E : xR} {p : Program} {e : Env} {R : Room} {s : State} {m : MethodId} {args : Array Value} {below : List Frame} {meth : Method} {c : Code} {T : State} {locs : List Loc} {cells slots : Nat}
    (X : Stand p (x_l E) e R s m args below meth c T locs cells slots) {M' : xM} {d kc ks : Nat} {av : List Value} {n : Nat} {h : xH} {Q' : xK} (hM : x_Mt E M' d kc ks av n h Q')
    {g : JFrame} (hg : g.method = m) (hsize : g.locals.size = c.maxLocals) {ig : Instr} {len : Nat} (hdg : decode c.code g.pc = .ok (ig, len))
    (hW : 2 * g.monitorRoom + (g.stack.map fun v => v.category).sum ≤ 8) {mk : MethodId} (hn : T.methodNamed? M'.1 = some mk)
    (hT : x_T E T) (hK : va_K (x_D E) x_Cl (x_tys E) T) (hPw : x_P E n h T.heap) (hL : x_L E ≤ T.heap.size) (hz : x_tg E → T.heap.size = x_L E + n) (hwd : (x_wd M').before #[] T = true) (hini : (Cond.initialized M'.1.cls).before #[] T = true)
    (hfr : d + 1 ≤ R.frames) (hlo : 8 + (M'.2.2.1 + 11) + 64 * d ≤ R.locals) (hcl : cells + kc ≤ R.cells) (hsl : slots + ks ≤ R.slots) :
    ∃ (o' : xO) (n' : Nat) (h' : xH) (k j : Nat) (L : List Loc) (T' : State), Q' o' n' h' k j ∧ Stand p (x_l E) e R s m args below meth c T' (locs ++ L) (cells + k) (slots + j) ∧ (∀ q ∈ L, x_A E q.base) ∧ x_P E n' h' T'.heap ∧ T.WarmedH T'.vm ∧ T.heap.size ≤ T'.heap.size ∧ (∀ q : Nat, q < T.heap.size → ¬ x_A E q → T'.heap[q]? = T.heap[q]?) ∧
      match o' with
      | .inl v => Steps p.tables e below (doInvoke e (T.setTop g) [] mk (av.map (x_v E)).toArray).1 (T'.setTop { g with pc := g.pc + len, stack := (v.map (x_v E)).toList ++ g.stack })
      | .inr q => ∃ (a : Nat) (cell : Cell), T'.heap[a]? = some cell ∧ cell.vm = .none ∧ T'.vm.findClass (x_exc q) = some cell.cls ∧ Steps p.tables e below (doInvoke e (T.setTop g) [] mk (av.map (x_v E)).toArray).1 ((T'.setTop g).pushFrame (.throwing a)) := by
  obtain ⟨m9, methY, cY, hn9, hmY, hcY, -, hlY, -⟩ := x_wd_spec hwd
  cases hn.symm.trans hn9
  obtain ⟨kY, hkY, -⟩ := className_of_methodNamed hn
  have hinitY : kY.init = .initialized := Cond.initialized_spec (findClass_of_methodNamed hn) hkY hini
  have hAt : At T g.method c below := by rw [hg]; exact X.here
  have happ : (headSpec [x_wd M'] (x_room d kc ks)).appliesLoose M'.1 e.platform (T.calling g mk (av.map (x_v E)).toArray) = true :=
    Spec.appliesLoose_calling (g := g) hAt hdg hn hkY hinitY
      (X.room_calling (g := g) (R' := x_room d kc ks) hsize hmY hcY hfr (by rw [hlY]; show _ + (M'.2.2.1 + 11) + 64 * d ≤ _; omega) hcl hsl) (atoms_intro fun w hw => by
        rcases List.mem_singleton.mp hw with rfl
        exact va_any (x_wd_on M') hwd)
  obtain ⟨mid, hmid⟩ := hAt.above
  have hfrm : (T.setTop g).frames = (.java g :: mid) ++ below := by rw [State.frames_setTop' g hAt.top, hmid]; rfl
  have hU : x_U E n h (T.calling g mk (av.map (x_v E)).toArray) := ⟨hPw, x_T_same hT rfl rfl, va_K.moved (u := T) (U := T.calling g mk (av.map (x_v E)).toArray) (Vm.Alike.refl T.vm) hK, hL⟩
  obtain ⟨o, s₂, hsteps, -, hend, hq⟩ := Steps.callFree hM p X.admits X.cas X.clock (acts := []) hfrm happ ⟨rfl, hU, hz⟩ trivial
  rw [State.frames_setTop' g hAt.top, X.tail] at hend
  obtain ⟨o', n', h', k, j, L, hQ, ho, hP2, hF, hW2, hsame, hL2⟩ := hq
  cases o' with
  | inl v =>
    have ho : o = .returned (v.map (x_v E)) := ho
    subst ho
    obtain ⟨T', X', hW3, -, ht⟩ := X.outOf hg hdg (mk := mk) (a := (av.map (x_v E)).toArray) hend hW2 hsame
    have hheap : s₂.heap = T'.heap := by rw [ht]; rfl
    refine ⟨.inl v, n', h', k, j, L, T', hQ, X', hL2, by rw [← hheap]; exact hP2, hW3, by rw [← hheap]; exact hF.1, fun q h1 h2 => by rw [← hheap]; exact hF.2 q h1 h2, ?_⟩
    show Steps _ _ _ _ _
    rw [← ht]
    exact hsteps
  | inr q =>
    obtain ⟨a, cell, ho, hc1, hc2, hc3⟩ := ho
    subst ho
    obtain ⟨T', X', hW3, -, ht⟩ := X.outOfThrown hg (mk := mk) (a := (av.map (x_v E)).toArray) hend hW2 hsame
    have hheap : s₂.heap = T'.heap := by rw [ht]; exact Stand.throwing_heap T' g a
    have hvm : s₂.vm = T'.vm := by rw [ht]; exact Stand.throwing_vm T' g a
    refine ⟨.inr q, n', h', k, j, L, T', hQ, X', hL2, by rw [← hheap]; exact hP2, hW3, by rw [← hheap]; exact hF.1, fun q h1 h2 => by rw [← hheap]; exact hF.2 q h1 h2, a, cell, by rw [← hheap]; exact hc1, hc2, by rw [← hvm]; exact hc3, ?_⟩
    rw [← ht]
    exact hsteps
