/-! making a Throwable without throwing it; an array of Strings -/
section VMK
variable {p : Program} {l : Launch} {e : Env} {R : Room} {s : State} {m : MethodId} {args : Array Value} {below : List Frame} {meth : Method} {c : Code} {H : Heap} {locs : List Loc} {cells slots : Nat} {Q : State → Prop}
set_option maxHeartbeats 1000000 in
/-- 'new E()' kept: new; dup; invokespecial. It follows the library's law of 'throw new E()' (JvmDerived/BundleOwnThrow0.lean) up to the constructor's end. -/
theorem vx_make0 {cc : ByteArray} {pc : Nat} {ls : Array Slot} {rest : List Value} (hexec : p.tables.exec = Jvm.exec) (hb : c.code = cc) (hl : l.stackTraces = false) {own cls : String} {names : List String} {ik ic : Nat}
    (hown : s.vm.findClass own = some m.cls) (hcls : Bundle.fit cls = true) (hnames : ∀ n ∈ names, Bundle.fit n = true) (hk : (Cond.classLink own ik cls).before args s = true) (hini : (Cond.initialized cls).before args s = true)
    (h : ∀ a ∈ Bundle.ownAtoms0 own ic cls names, a.before args s = true) (hlocs : ∀ T : State, T.heap = H → Stand p l e R s m args below meth c T locs cells slots → ∀ x ∈ locs, ∀ cell : Cell, s.heap[x.base]? = some cell → cell.vm.isStatics = false) (hS : s.heap.size ≤ H.size) (hsize : ls.size = c.maxLocals)
    (d0 : decode cc pc = .ok (.new ik, 3)) (d3 : decode cc (pc + 3) = .ok (.dup, 1)) (d4 : decode cc (pc + 4) = .ok (.invokespecial ic, 3))
    (hRframes : names.length + 3 < R.frames) (hRlocals : (rest.map fun v => v.category).sum + (13 * (names.length + 1) + 42) ≤ R.locals) (hRcells : cells + 1 ≤ R.cells) (hRslots : slots + 6 ≤ R.slots)
    (kk : ∀ (H1 : Heap) (L : List Loc) (ce : Cell), H1[H.size]? = some ce → ce.vm = .none → s.vm.findClass cls = some ce.cls → H1.size = H.size + 1 → (∀ q : Nat, q < H.size → H1[q]? = H[q]?) → (∀ z ∈ L, z ∈ locs ∨ z.base = H.size) → W p l e R s m args below meth c H1 L (cells + 1) (slots + 6) Q (F0 m (pc + 7) ls (.ref H.size :: rest))) :
    W p l e R s m args below meth c H locs cells slots Q (F0 m pc ls rest) := by
  intro T hT X
  have hlocs2 := hlocs T hT X
  subst hT
  have htr : e.platform.stackTraces = false := (show e.platform.stackTraces = l.stackTraces by rw [X.admits.platform]).trans hl
  have hins : (Cond.instantiable cls 6).before args s = true := h _ (by simp [Bundle.ownAtoms0])
  obtain ⟨vm₁, cX, kX, hfX, hkX, -, -, X₁, st1⟩ := X.newCold hexec (own := own) (C := cls) (index := ik) (n := 6) hown hk hins hini
    (g := F0 m pc ls rest) rfl (by rw [hb]; exact d0) hRcells hRslots
  generalize hT1 : (T.setVm vm₁).pushCell { cls := cX, slots := kX.instanceTypes.map defaultValue, vm := .none } = T1 at X₁ st1
  have hcat : (Value.ref T.heap.size).category = 1 := rfl
  have hcell : T1.heap[T.heap.size]? = some (freshCell cX kX) := by rw [← hT1]; exact State.heap_pushCell_size _ _
  have hT1s : T1.heap.size = T.heap.size + 1 := by rw [← hT1]; exact Array.size_push _
  have hT1o : ∀ q : Nat, q < T.heap.size → T1.heap[q]? = T.heap[q]? := fun q hq => by
    rw [← hT1]
    show (T.heap.push _)[q]? = _
    rw [Array.getElem?_push, if_neg (Nat.ne_of_lt hq)]
  have d3' : decode c.code (pc + 3) = .ok (.dup, 1) := by rw [hb]; exact d3
  have d4' : decode c.code (pc + 4) = .ok (.invokespecial ic, 3) := by rw [hb]; exact d4
  obtain ⟨a, ha⟩ : ∃ z, z = T.heap.size := ⟨_, rfl⟩
  rw [← ha] at hcell
  have hnew : s.heap.size ≤ a := by rw [ha]; exact hS
  have howns : e.platform.frameOwnsMonitors = true := by rw [X₁.admits.platform]
  have hfin : e.platform.finalization = false := by rw [X₁.admits.platform]
  have hpl : e.platform.magicAccessors = ({} : Platform).magicAccessors := by rw [X₁.admits.platform]
  have a' : ∀ x, x ∈ Bundle.ownAtoms0 own ic cls names → x.holds args s none s [] = true := fun x hx => h x hx
  obtain ⟨Th, Z, L, LZ, Y⟩ := ThrowableC.of_atoms (args := args) howns hfin hpl (fun x hx => h x (by simp [Bundle.ownAtoms0, hx]))
  obtain ⟨P1, Ps, hlen, L1, hL, hP1m, hlink1, hlink⟩ := Bundle.chain0 (args := args) hpl Y.init0 names cls hcls hnames (fun x hx => h x (by simp [Bundle.ownAtoms0, hx]))
  have hfound : s.vm.findClass cls = some P1.m.cls := findClass_of_methodNamed hP1m
  cases Option.some.inj (hfX.symm.trans hfound)
  obtain ⟨c1, kX', hc1, hkk, hord, -, -, hn6⟩ := Cond.instantiable_spec (a' (.instantiable cls 6) (by simp [Bundle.ownAtoms0]))
  cases Option.some.inj (hc1.symm.trans hfound)
  cases Option.some.inj (hkX.symm.trans hkk)
  have hsel : ∀ {y : MethodName} {my : MethodId}, Cond.selects cls y y ∈ Bundle.ownAtoms0 own ic cls names → s.methodNamed? y = some my → (y.cls ≠ "java/lang/invoke/MethodHandle" ∧ y.cls ≠ "java/lang/invoke/VarHandle") → selectMethod e.platform s.vm P1.m.cls my = .method my := by
    intro y my hm hy hne
    obtain ⟨c2, r2, m2, q1, q2, q3, q4, -⟩ := Cond.selects_spec (a' _ hm)
    cases Option.some.inj (q1.symm.trans hfound)
    cases Option.some.inj (q2.symm.trans (State.methodFound?_of_named hy hne))
    cases Option.some.inj (q3.symm.trans hy)
    rw [Launch.admits_selectMethod X₁.admits]; exact q4
  obtain ⟨cellS0, hcS0, hiss⟩ := Y.statics
  obtain ⟨u0, hu0⟩ := Cond.staticRefV Y.unassigned L.unassignedStatic L.statics hcS0 hiss (a' (.isRef (.static Bundle.tN "UNASSIGNED_STACK" Bundle.steD)) (by simp [Bundle.ownAtoms0]))
  obtain ⟨sen, hsen⟩ := Cond.staticRefV Y.sentinel L.sentinelStatic L.statics hcS0 hiss (a' (.isRef (.static Bundle.tN "SUPPRESSED_SENTINEL" Bundle.listD)) (by simp [Bundle.ownAtoms0]))
  obtain ⟨ci198, i198, fB, hk198, hg198, ha198, hsB, -, hnB, htB, hffB⟩ := Cond.ownField (t := .object "java/lang/Object") Y.found L.cls (by decide +kernel) (a' (.fieldLink Bundle.tN 198 Bundle.tN "backtrace" "Ljava/lang/Object;") (by simp [Bundle.ownAtoms0])) (a' (.lays Bundle.tN Bundle.tN "backtrace" "Ljava/lang/Object;") (by simp [Bundle.ownAtoms0])) e.platform hpl
  obtain ⟨cellS, hcS', heS, -, hkeep⟩ := X₁.same.2.2.2.2.2 Th.aS cellS0 hcS0
  have hcellS : T1.heap[Th.aS]? = some cellS := hcS'
  have hout' : ∀ i, (⟨Th.aS, i⟩ : Loc) ∉ locs := fun i hmem => by
    have := hlocs2 _ hmem cellS0 hcS0
    rw [hiss] at this; cases this
  have hknownS : cellS.vm ≠ .unknown := by
    rw [heS]; intro hu
    rw [show cellS0.vm = .unknown from hu] at hiss
    cases hiss
  have hneS : Th.aS ≠ a := Nat.ne_of_lt (Nat.lt_of_lt_of_le (Array.getElem?_eq_some_iff.mp hcS0).1 hnew)
  obtain ⟨tyC, dC, hdC, hdnC⟩ := Cond.laysAt hfound hkk Y.cause (a' (.lays cls Bundle.tN "cause" "Ljava/lang/Throwable;") (by simp [Bundle.ownAtoms0]))
  obtain ⟨tyS, dS, hdS, hdnS⟩ := Cond.laysAt hfound hkk Y.stack (a' (.lays cls Bundle.tN "stackTrace" Bundle.steD) (by simp [Bundle.ownAtoms0]))
  obtain ⟨tyP, dP, hdP, hdnP⟩ := Cond.laysAt hfound hkk Y.supp (a' (.lays cls Bundle.tN "suppressedExceptions" Bundle.listD) (by simp [Bundle.ownAtoms0]))
  obtain ⟨tyB, dB, hdB, hdnB⟩ := Cond.laysAt hfound hkk hffB (a' (.lays cls Bundle.tN "backtrace" "Ljava/lang/Object;") (by simp [Bundle.ownAtoms0]))
  have bC := Cond.laysApart hdB hdC hdnB hdnC (by rw [hnB, Y.causeName]; decide)
  have bS := Cond.laysApart hdB hdS hdnB hdnS (by rw [hnB, Y.stackName]; decide)
  have bP := Cond.laysApart hdB hdP hdnB hdnP (by rw [hnB, Y.suppName]; decide)
  have hskip : SkipFacts Th e.platform s (fun u => u) u0 ((preparedCellV Th.toThrowableT (freshCell P1.m.cls kX) a u0 sen).withEntry T1.cur) :=
    ⟨{ ci198 := ci198, i198 := i198, fBack := fB }, ⟨hk198, hg198, ha198, hsB⟩, by
      have := fresh_default (c := P1.m.cls) tyB
      rw [htB] at this
      simpa [preparedCellV, Cell.setSlot, Cell.withEntry, Array.getElem?_setIfInBounds, bC, bS, bP, bC.symm, bS.symm, bP.symm, defaultValue] using this, fun _ _ => rfl⟩
  obtain ⟨tm, methC, cdC, kC, vm₂, hnC, -, -, -, -, -, -, -, hW₂, st2⟩ := Steps.initCold (tb := p.tables) (e := e) (below := below) (s := s) (U := T1) X₁.here hexec X₁.warmed hpl hown (t := Bundle.init0 cls) rfl rfl (Bundle.fit_spec hcls).2
    (a' (.methodLink own ic (Bundle.init0 cls)) (by simp [Bundle.ownAtoms0])) (h (.instanceMethod (Bundle.init0 cls)) (by cases names <;> simp [Bundle.ownAtoms0, Bundle.chain0Atoms, Bundle.passAtoms])) (bytes := Bundle.five) (maxL := 1) (h (.code (Bundle.init0 cls) Bundle.five 1 none) (by cases names <;> simp [Bundle.ownAtoms0, Bundle.chain0Atoms, Bundle.passAtoms]))
    (f := { method := m, pc := pc + 4, locals := ls, stack := .ref a :: .ref a :: rest, locked := none }) rfl (a := a) (rest := .ref a :: rest) rfl d4'
  cases Option.some.inj (hnC.symm.trans hP1m)
  have X₂ := X₁.noted hW₂
  obtain ⟨vm₃, X₃, st3⟩ := X₂.ctorPlainOffV hexec (g := { method := m, pc := pc + 4, locals := ls, stack := .ref a :: rest, locked := none }) rfl hsize Th L Z LZ (P1 :: Ps)
    (fun P hP => by rcases List.mem_cons.mp hP with rfl | hP; exact L1; exact hL P hP) ⟨hlink1, hlink⟩ (u0 := u0) (sen := sen) (self := a) (cell := freshCell P1.m.cls kX) (cellS := cellS)
    hcell (fun _ => by simp) (by simp) rfl rfl (hsel (by simp [Bundle.ownAtoms0]) Y.fill0 (by decide)) (hsel (by simp [Bundle.ownAtoms0]) Y.fill (by decide)) hcellS hneS hknownS (by rw [hkeep _ (hout' _)]; exact hu0) (by rw [hkeep _ (hout' _)]; exact hsen)
    (Takes.of_laid hkk hord tyC (by rw [Y.causeType]; rfl)) (Takes.of_laid hkk hord tyS (by rw [Y.stackType]; exact fits_refV_array _ u0)) (Takes.of_laid hkk hord tyP (by rw [Y.suppType]; exact fits_refV_object _ sen)) Y.objLocals hskip htr [] d4'
    (by simp only [List.length_cons, hlen]; omega) (by
      have : (Value.ref a).category = 1 := rfl
      simp only [List.length_cons, hlen, List.map_cons, List.sum_cons, this]
      show 2 * 0 + _ + _ ≤ _
      omega)
  have hlt : a < ((T1.setVm vm₂).setVm vm₃).heap.size := (Array.getElem?_eq_some_iff.mp hcell).1
  have hU := heapAt_setCell_self (s := (T1.setVm vm₂).setVm vm₃) ((preparedCellV Th.toThrowableT (freshCell P1.m.cls kX) a u0 sen).setSlot Th.fStack.slot u0.v) hlt
  obtain ⟨t, s1, q1⟩ := kk _ _ _ (by rw [← ha]; exact hU) rfl hfound (by rw [size_setCell]; exact hT1s) (fun q hq => by rw [heapAt_setCell_ne _ (show a ≠ q by rw [ha]; exact Nat.ne_of_gt hq)]; exact hT1o q hq) (fun z hz => by
    rcases List.mem_append.mp hz with h1 | h1
    · exact Or.inl h1
    · refine Or.inr ?_
      rw [← ha]
      simp only [List.mem_cons, List.not_mem_nil, or_false] at h1
      rcases h1 with rfl | rfl | rfl | rfl <;> rfl) _ rfl X₃
  refine ⟨t, st1 _ ?_, q1⟩
  rw [← ha]
  show Steps p.tables e below (T1.setTop { method := m, pc := pc + 3, locals := ls, stack := .ref a :: rest, locked := none }) _
  have hcat2 : (Value.ref a).category = 1 := rfl
  jvm_step X₁.here [X₁.here.top, hexec, d3', Value.category]
  refine st2 _ (fun acts => ?_)
  rw [doInvoke_state]
  refine st3 _ ?_
  rw [← ha] at s1
  exact s1
end VMK
theorem x_selfA (vm : Vm) (c : ClassId) : vm.assignable c c = true := by
  unfold Vm.assignable Vm.assignableAux
  simp
/-- 'new IllegalStateException()', kept -/
theorem x_newIS {E : xR} {M : xM} {R : Room} {Q : xK} {n : Nat} {h : xH} {pc : Nat} {lv : List (Nat × Value)} {rest : List Value} {cells slots : Nat} {idx ic : Nat} (d0 : decode M.2.1 pc = .ok (.new idx, 3)) (d3 : decode M.2.1 (pc + 3) = .ok (.dup, 1)) (d4 : decode M.2.1 (pc + 4) = .ok (.invokespecial ic, 3)) (htg : x_tg E) (hlk : Jvm.Cond.classLink M.1.cls idx "java/lang/IllegalStateException" ∈ x_Tw) (hini : Jvm.Cond.initialized "java/lang/IllegalStateException" ∈ x_Tw) (hat : ∀ w ∈ vx_at0 M.1.cls ic "java/lang/IllegalStateException" x_NM, w ∈ x_Tw) (hfr : 5 < R.frames) (hlo : 90 ≤ R.locals) (hrs : (rest.map fun v => v.category).sum ≤ 8) (hcl : cells + 1 ≤ R.cells) (hsl : slots + 6 ≤ R.slots) (hlo1 : n < 1000000)
    (kk : x_W E M R Q (n + 1) (x_up h n (.inr (10, []))) (pc + 7) lv (.ref n :: rest) (cells + 1) (slots + 6)) : x_W E M R Q n h pc lv rest cells slots := by
  intro p e s m args below meth c H locs ls C hP hS hl hz T hT X
  subst hT
  obtain ⟨hx, hb, hml, hown, hr0, hlk0, hnm, htb, hT0, hK, hL⟩ := id C
  obtain ⟨z1, z2, -, z4, -⟩ := hT0.2.2.2
  have hsz := x_tight (hz htg) X hP hS hL
  have hrs' : ((rest.map (x_v E)).map fun v => v.category).sum ≤ 8 := by
    have : ((rest.map (x_v E)).map fun v => v.category) = rest.map fun v => v.category := by
      rw [List.map_map]
      exact List.map_congr_left fun v _ => x_cat E v
    rw [this]
    exact hrs
  have hA : ∀ a ∈ Bundle.ownAtoms0 M.1.cls ic "java/lang/IllegalStateException" x_NM, a.before args s = true := vx_own (fun w hw => x_hts hT0 _ (hat w hw)) (vx_isRefq z1.1) (vx_isRefq z2.1) z1.2.word z2.2.word
  refine vx_make0 (rest := rest.map (x_v E)) hx hb z4 hown (by decide +kernel) (by decide +kernel) (x_hts hT0 _ hlk) (x_hts hT0 _ hini) hA (fun T' hT' X' x hx' cell hc => ?_) hS.1 (hl.1.trans hml.symm) d0 d3 d4 (by show 2 + 3 < _; omega) (by show _ + (13 * (2 + 1) + 42) ≤ _; omega) hcl hsl (fun H1 L ce e1 e2 e3 e4 e5 e6 => ?_) T rfl X
  · obtain ⟨c9, hc9, he, -⟩ := X'.same.2.2.2.2.2 x.base cell hc
    have hlt : x.base < s.heap.size := (Array.getElem?_eq_some_iff.mp hc).1
    obtain ⟨c8, hc8, hv⟩ := x_plain hP (q := x.base) (hS.2.2 x hx') (by rw [← hsz]; exact Nat.lt_of_lt_of_le hlt hS.1)
    have hc9 : T'.heap[x.base]? = some c9 := hc9
    rw [hT'] at hc9
    cases Option.some.inj (hc9.symm.trans hc8)
    rw [he] at hv
    have hv : cell.vm = .none := hv
    rw [hv]
    rfl
  · have hk : ∀ (k : Nat) (x : Nat × va_E), (x_ws E n h)[k]? = some x → H1[x.1]? = T.heap[x.1]? := fun k x hx => e5 x.1 ((hP k x hx).lt)
    have hP1 : x_P E (n + 1) (x_up h n (.inr (10, []))) H1 := by
      show va_P _ _ _ _
      rw [← x_ws_push]
      refine (hP.kept hk).app (fun k x hx => ?_)
      have hz1 : k < 1 := (List.getElem?_eq_some_iff.mp hx).1
      rw [show k = 0 by omega] at hx
      cases hx
      have h10 : x_Cl[10]? = some ("java/lang/IllegalStateException", F_IS, 0) := rfl
      refine ⟨_, h10, ce, ?_, ?_, e2, fun k hk => absurd hk (Nat.not_lt_zero _)⟩
      · show H1[x_L E + n]? = some ce
        rw [← hsz]; exact e1
      · exact Option.some.inj (e3.symm.trans (hK.1 10 _ h10).2.1)
    have w := kk p e s m args below meth c H1 L ls C hP1 ⟨Nat.le_trans hS.1 (by omega), fun x h1 h2 => (e5 x (Nat.lt_of_lt_of_le h1 hS.1)).trans (hS.2.1 x h1 h2), fun z hz => (e6 z hz).elim (hS.2.2 z) (fun e9 => by rw [e9, hsz]; exact Nat.le_add_right _ _)⟩ hl (fun _ => by have := hz htg; omega)
    rw [List.map_cons, show x_v E (.ref n) = .ref (x_r E n) from rfl, x_rlo E hlo1, ← hsz] at w
    exact w
/-- a new array of Strings -/
theorem x_anewS {E : xR} {M : xM} {R : Room} {Q : xK} {n : Nat} {h : xH} {pc : Nat} {lv : List (Nat × Value)} {rest : List Value} {cells slots : Nat} {idx : Nat} {z : Int32} (d : decode M.2.1 pc = .ok (.anewarray idx, 3)) (N : Nat) (htg : x_tg E) (hlk : Jvm.Cond.classLink M.1.cls idx "java/lang/String" ∈ x_Tw) (hw : Jvm.Cond.arrayOver (.object "java/lang/String") ∈ x_Nw) (hn : ¬ z < 0) (hN : z.toNatClampNeg = N) (hbytes : N * 4 ≤ 536870912) (hcells : cells + 1 ≤ R.cells) (hslots : slots + N ≤ R.slots) (hlo : n < 1000000)
    (kk : x_W E M R Q (n + 1) (x_up h n (.inl (3, N, .inr (.inr (.inr (.inr (fun _ => none))))))) (pc + 3) lv (.ref n :: rest) (cells + 1) (slots + N)) : x_W E M R Q n h pc lv (.int z :: rest) cells slots := by
  intro p e s m args below meth c H locs ls C hP hS hl hz T hT X
  subst hT
  obtain ⟨hx, hb, hml, hown, hr0, hlk0, hnm, htb, hT0, hK, hL⟩ := id C
  have hsz := x_tight (hz htg) X hP hS hL
  subst hN
  refine W.anew (g := F0 m pc ls ((Value.int z :: rest).map (x_v E))) hx hb hown (x_hts hT0 _ hlk) (va_AO.use (hT0.2.1 _ hw)) rfl d (rest := rest.map (x_v E)) rfl hn hbytes hcells hslots (fun cA kA comp f1 f2 f3 f4 => ?_) T rfl X
  obtain ⟨kA', comp', -, -, -, f1'⟩ := (hK.2 3 _ rfl).2
  have hcA : cA = x_cT E 3 := Option.some.inj (f1.symm.trans f1')
  subst hcA
  generalize hH1 : T.heap.push ({ cls := x_cT E 3, slots := Array.replicate z.toNatClampNeg .null, vm := .none } : Cell) = H1
  have z1 : H1.size = T.heap.size + 1 := by rw [← hH1, Array.size_push]
  have e1 : H1[T.heap.size]? = some (arrV (x_cT E 3) z.toNatClampNeg (fun _ => .null)) := by rw [← hH1, Array.getElem?_push_size, ← arrV_new]
  have o1 : ∀ q : Nat, q < T.heap.size → H1[q]? = T.heap[q]? := fun q hq => by rw [← hH1, Array.getElem?_push, if_neg (Nat.ne_of_lt hq)]
  have hk : ∀ (k : Nat) (x : Nat × va_E), (x_ws E n h)[k]? = some x → H1[x.1]? = T.heap[x.1]? := fun k x hx => o1 x.1 ((hP k x hx).lt)
  have hP1 : x_P E (n + 1) (x_up h n (.inl (3, z.toNatClampNeg, .inr (.inr (.inr (.inr (fun _ => none))))))) H1 := by
    show va_P _ _ _ _
    rw [← x_ws_push]
    refine (hP.kept hk).app (fun k x hx => ?_)
    have hz1 : k < 1 := (List.getElem?_eq_some_iff.mp hx).1
    rw [show k = 0 by omega] at hx
    cases hx
    show H1[x_L E + n]? = some (vp_cell _ _)
    rw [← hsz]
    exact e1
  have w := kk p e s m args below meth c H1 locs ls C hP1 ⟨Nat.le_trans hS.1 (by omega), fun x h1 h2 => (o1 x (Nat.lt_of_lt_of_le h1 hS.1)).trans (hS.2.1 x h1 h2), hS.2.2⟩ hl (fun _ => by have := hz htg; omega)
  rw [List.map_cons, show x_v E (.ref n) = .ref (x_r E n) from rfl, x_rlo E hlo, ← hsz] at w
  exact w
/-- a String constant laid into it -/
theorem x_aastS {E : xR} {M : xM} {R : Room} {Q : xK} {n : Nat} {h : xH} {pc : Nat} {lv : List (Nat × Value)} {rest : List Value} {cells slots : Nat} {i N k : Nat} {f : Nat → Option Nat} {j : Int32} (d : decode M.2.1 pc = .ok (.aastore, 1)) (hk : k < x_nS) (hi : i < n) (hlo : i < 1000000) (hc : h i = .inl (3, N, .inr (.inr (.inr (.inr f))))) (hin : vp_in j N) (kk : x_W E M R Q n (x_up h i (.inl (3, N, .inr (.inr (.inr (.inr (va_up f j.toNatClampNeg (some (2000000 + k)))))))))  (pc + 1) lv rest cells slots) : x_W E M R Q n h pc lv (.ref (2000000 + k) :: .int j :: .ref i :: rest) cells slots := by
  intro p e s m args below meth c H locs ls C hP hS hl hz
  obtain ⟨hx, hb, hml, hown, hr, hlk, hnm, htb, hT, hK, hL⟩ := id C
  obtain ⟨-, -, -, -, z5, -⟩ := hT.2.2.2
  show W p (x_l E) e R s m args below meth c H locs cells slots (x_Q E Q below s) (F0 m pc ls (.ref (x_r E (2000000 + k)) :: .int j :: .ref (x_r E i) :: rest.map (x_v E)))
  rw [x_rlo E hlo, x_rhi E (i := 2000000 + k) (by omega)]
  refine vb_astq hx hb hK hP x_Dok hS i 3 (x_ar hi hc) rfl (vk_recv z5 hk hS) (fun comp c0 g1 g2 => by rw [Option.some.inj (g1.symm.trans g2)]; exact x_selfA _ _) hin d (fun H1 locs1 hP1 hD1 hS1 => ?_)
  exact kk p e s m args below meth c H1 locs1 ls C (by
    have he := x_ws_set (E := E) (n := n) (k := i) (h := h) (c := .inl (3, N, .inr (.inr (.inr (.inr (va_up f j.toNatClampNeg (some (2000000 + k))))))))
    show va_P _ _ _ _
    rw [← he]
    have hf : (fun q => (va_up f j.toNatClampNeg (some (2000000 + k)) q).map (x_r E)) = va_up (fun q => (f q).map (x_r E)) j.toNatClampNeg (some (x_sg E (2000000 + k))) := by
      funext q
      unfold va_up
      by_cases hq : q = j.toNatClampNeg
      · rw [if_pos hq, if_pos hq, Option.map_some, x_rhi E (by omega)]
      · rw [if_neg hq, if_neg hq]
    show va_P _ _ ((x_ws E n h).set i (x_L E + i, .inl (x_cT E 3, N, .inr (.inr (.inr (.inr (fun q => (va_up f j.toNatClampNeg (some (2000000 + k)) q).map (x_r E)))))))) _
    rw [hf]
    exact hP1) hS1 hl hz
theorem x_atRD : ∀ w ∈ vx_at0 "TermReaderModel$Reader" 63 "java/lang/IllegalStateException" x_NM, w ∈ x_Tw := x_mems _ [76, 298, 307, 312, 315, 317, 299, 300, 97, 98, 301, 306, 313, 333, 288, 334, 290, 335, 292, 302, 304, 294, 922, 923, 924, 925, 279, 925, 926, 927, 928, 281, 928, 929, 930, 299, 283, 921, 913, 914, 915, 310, 916, 917, 918, 919, 297, 296, 920] (by decide +kernel) (by decide +kernel)
