/-! the tables' words that stay true as the tables warm -/
def x_ok (w : Jvm.Cond) : Bool := goodWord w || (w.onTables && w.keepsFace)
theorem x_word {args a' : Array Value} {s U : State} (hW : s.WarmedH U.vm) {w : Jvm.Cond} (hk : x_ok w = true) (h : w.before args s = true) : w.before a' U = true := by
  simp only [x_ok, Bool.or_eq_true, Bool.and_eq_true] at hk
  rcases hk with hk | ⟨h1, h2⟩
  · exact word_at hW (good_of_word hk) h
  · have h3 : w.before args (s.setVm U.vm) = true := Cond.before_shiftedFace (State.Shifted.of_warmed hW) _ h2 h
    exact va_tabs h1 (rfl : (s.setVm U.vm).vm = U.vm) h3
def x_Tw : List Jvm.Cond := lw_tbl.filter x_ok
theorem x_Tw_ok {w : Jvm.Cond} (h : w ∈ x_Tw) : x_ok w = true := (List.mem_filter.mp h).2
/-- a word by its place -/
theorem x_mem {w : Jvm.Cond} (i : Nat) (h : lw_tbl[i]? = some w) (g : x_ok w = true) : w ∈ x_Tw := List.mem_filter.mpr ⟨List.mem_of_getElem? h, g⟩
theorem x_mems (ws : List Jvm.Cond) (ps : List Nat) (hp : ws = ps.filterMap (fun i => lw_tbl[i]?)) (g : ws.all x_ok = true) : ∀ w ∈ ws, w ∈ x_Tw := by
  intro w hw
  have h1 := List.all_eq_true.mp g w hw
  rw [hp] at hw
  obtain ⟨i, -, hi⟩ := List.mem_filterMap.mp hw
  exact x_mem i hi h1
/-- the nest's links -/
def x_isN (w : Jvm.Cond) : Bool := match w with
  | .arrayOver (.object _) => true
  | .fieldLinkNest .. => true
  | .methodLinkNest .. => true
  | _ => false
def x_Nw : List Jvm.Cond := lw_tbl.filter x_isN
theorem x_memN {w : Jvm.Cond} (i : Nat) (h : lw_tbl[i]? = some w) (g : x_isN w = true) : w ∈ x_Nw := List.mem_filter.mpr ⟨List.mem_of_getElem? h, g⟩
theorem x_Nw_warm {s U : State} (hW : s.WarmedH U.vm) {w : Jvm.Cond} (hn : x_isN w = true) (h : va_Nw w s) : va_Nw w U := by
  cases w with
  | arrayOver t =>
    cases t with
    | object C => exact va_AO.moved hW.alike h
    | _ => cases hn
  | fieldLinkNest a i b n d q => exact va_Nw.warmF hW h
  | methodLinkNest a i x q => exact va_Nw.warmM hW h
  | _ => cases hn
theorem x_Nw_same {s U : State} (hv : s.vm = U.vm) {w : Jvm.Cond} (hn : x_isN w = true) (h : va_Nw w s) : va_Nw w U := by
  cases w with
  | arrayOver t =>
    cases t with
    | object C => exact va_AO.moved (by rw [← hv]; exact (State.WarmedH.refl s).alike) h
    | _ => cases hn
  | fieldLinkNest a i b n d q => exact va_Nw.same rfl hv h
  | methodLinkNest a i x q => exact va_Nw.same rfl hv h
  | _ => cases hn
/-- the exceptions' classes -/
def x_exc : Nat → String
  | 0 => "java/lang/IndexOutOfBoundsException"
  | 1 => "java/lang/IllegalArgumentException"
  | 2 => "java/lang/UnsupportedOperationException"
  | _ => "java/lang/IllegalStateException"
def F_TR : u_T := fun k => match k with
  | 0 => ("TermReader", "tape", "[B", true)
  | 1 => ("TermReader", "parser", "LTermReader$Parser;", true)
  | 2 => ("TermReader", "printer", "LTermReader$Printer;", true)
  | 3 => ("TermReader", "result", "[B", false)
  | 4 => ("TermReader", "spare", "[B", false)
  | 5 => ("TermReader", "tapeLength", "I", false)
  | 6 => ("TermReader", "resultLength", "I", false)
  | 7 => ("TermReader", "symbols", "I", false)
  | 8 => ("TermReader", "variables", "I", false)
  | _ => ("TermReader", "nesting", "I", false)
def t_TR : Nat → FieldType := fun k => match k with
  | 0 => .array .byte
  | 1 => .object "TermReader$Parser"
  | 2 => .object "TermReader$Printer"
  | 3 => .array .byte
  | 4 => .array .byte
  | 5 => .int
  | 6 => .int
  | 7 => .int
  | 8 => .int
  | _ => .int
def F_PA : u_T := fun k => match k with
  | 0 => ("TermReader$Parser", "signs", "LTermReader$Signs;", true)
  | _ => ("TermReader$Parser", "tree", "LTermReader$Tree;", true)
def t_PA : Nat → FieldType := fun k => match k with
  | 0 => .object "TermReader$Signs"
  | _ => .object "TermReader$Tree"
def F_SG : u_T := fun k => match k with
  | 0 => ("TermReader$Signs", "bytes", "[B", false)
  | 1 => ("TermReader$Signs", "length", "I", false)
  | 2 => ("TermReader$Signs", "after", "I", false)
  | 3 => ("TermReader$Signs", "sign", "LTermReader$Sign;", false)
  | 4 => ("TermReader$Signs", "place", "I", false)
  | 5 => ("TermReader$Signs", "textFrom", "I", false)
  | 6 => ("TermReader$Signs", "textTo", "I", false)
  | _ => ("TermReader$Signs", "broken", "I", false)
def t_SG : Nat → FieldType := fun k => match k with
  | 0 => .array .byte
  | 1 => .int
  | 2 => .int
  | 3 => .object "TermReader$Sign"
  | 4 => .int
  | 5 => .int
  | 6 => .int
  | _ => .int
def F_TE : u_T := fun k => match k with
  | 0 => ("TermReader$Tree", "kind", "[I", true)
  | 1 => ("TermReader$Tree", "from", "[I", true)
  | 2 => ("TermReader$Tree", "to", "[I", true)
  | 3 => ("TermReader$Tree", "owner", "[I", true)
  | 4 => ("TermReader$Tree", "child", "[I", true)
  | 5 => ("TermReader$Tree", "next", "[I", true)
  | 6 => ("TermReader$Tree", "number", "[I", true)
  | 7 => ("TermReader$Tree", "firstUse", "[I", true)
  | 8 => ("TermReader$Tree", "tape", "[B", false)
  | 9 => ("TermReader$Tree", "symbols", "I", false)
  | 10 => ("TermReader$Tree", "variables", "I", false)
  | _ => ("TermReader$Tree", "root", "I", false)
def t_TE : Nat → FieldType := fun k => match k with
  | 0 => .array .int
  | 1 => .array .int
  | 2 => .array .int
  | 3 => .array .int
  | 4 => .array .int
  | 5 => .array .int
  | 6 => .array .int
  | 7 => .array .int
  | 8 => .array .byte
  | 9 => .int
  | 10 => .int
  | _ => .int
def F_PR : u_T := fun k => match k with
  | 0 => ("TermReader$Printer", "level", "[I", true)
  | 1 => ("TermReader$Printer", "waiting", "[I", true)
  | 2 => ("TermReader$Printer", "waitingCount", "I", false)
  | 3 => ("TermReader$Printer", "paper", "[B", false)
  | 4 => ("TermReader$Printer", "length", "I", false)
  | _ => ("TermReader$Printer", "nesting", "I", false)
def t_PR : Nat → FieldType := fun k => match k with
  | 0 => .array .int
  | 1 => .array .int
  | 2 => .int
  | 3 => .array .byte
  | 4 => .int
  | _ => .int
def F_MO : u_T := fun k => match k with
  | 0 => ("TermReaderModel", "thrown", "I", false)
  | 1 => ("TermReaderModel", "taped", "I", false)
  | 2 => ("TermReaderModel", "place", "I", false)
  | 3 => ("TermReaderModel", "symbols", "I", false)
  | 4 => ("TermReaderModel", "variables", "I", false)
  | 5 => ("TermReaderModel", "deep", "I", false)
  | 6 => ("TermReaderModel", "resulted", "I", false)
  | 7 => ("TermReaderModel", "tape", "[B", true)
  | 8 => ("TermReaderModel", "result", "[B", true)
  | 9 => ("TermReaderModel", "terms", "LTermReaderModel$Terms;", true)
  | 10 => ("TermReaderModel", "names", "LTermReaderModel$Names;", true)
  | 11 => ("TermReaderModel", "reader", "LTermReaderModel$Reader;", true)
  | 12 => ("TermReaderModel", "paper", "LTermReaderModel$Paper;", true)
  | 13 => ("TermReaderModel", "walk", "[I", true)
  | _ => ("TermReaderModel", "level", "[I", true)
def t_MO : Nat → FieldType := fun k => match k with
  | 0 => .int
  | 1 => .int
  | 2 => .int
  | 3 => .int
  | 4 => .int
  | 5 => .int
  | 6 => .int
  | 7 => .array .byte
  | 8 => .array .byte
  | 9 => .object "TermReaderModel$Terms"
  | 10 => .object "TermReaderModel$Names"
  | 11 => .object "TermReaderModel$Reader"
  | 12 => .object "TermReaderModel$Paper"
  | 13 => .array .int
  | _ => .array .int
def F_TS : u_T := fun k => match k with
  | 0 => ("TermReaderModel$Terms", "kind", "[I", true)
  | 1 => ("TermReaderModel$Terms", "name", "[I", true)
  | 2 => ("TermReaderModel$Terms", "first", "[I", true)
  | 3 => ("TermReaderModel$Terms", "many", "[I", true)
  | 4 => ("TermReaderModel$Terms", "part", "[I", true)
  | 5 => ("TermReaderModel$Terms", "number", "[J", true)
  | 6 => ("TermReaderModel$Terms", "size", "I", false)
  | _ => ("TermReaderModel$Terms", "parts", "I", false)
def t_TS : Nat → FieldType := fun k => match k with
  | 0 => .array .int
  | 1 => .array .int
  | 2 => .array .int
  | 3 => .array .int
  | 4 => .array .int
  | 5 => .array .long
  | 6 => .int
  | _ => .int
def F_NA : u_T := fun k => match k with
  | 0 => ("TermReaderModel$Names", "text", "[B", true)
  | 1 => ("TermReaderModel$Names", "from", "[I", true)
  | 2 => ("TermReaderModel$Names", "next", "[I", true)
  | 3 => ("TermReaderModel$Names", "first", "[I", true)
  | 4 => ("TermReaderModel$Names", "size", "I", false)
  | _ => ("TermReaderModel$Names", "texted", "I", false)
def t_NA : Nat → FieldType := fun k => match k with
  | 0 => .array .byte
  | 1 => .array .int
  | 2 => .array .int
  | 3 => .array .int
  | 4 => .int
  | _ => .int
def F_RD : u_T := fun k => match k with
  | 0 => ("TermReaderModel$Reader", "sides", "[Ljava/lang/String;", true)
  | 1 => ("TermReaderModel$Reader", "ranks", "[I", true)
  | 2 => ("TermReaderModel$Reader", "stop", "Ljava/lang/IllegalStateException;", true)
  | 3 => ("TermReaderModel$Reader", "terms", "LTermReaderModel$Terms;", true)
  | 4 => ("TermReaderModel$Reader", "names", "LTermReaderModel$Names;", true)
  | 5 => ("TermReaderModel$Reader", "s", "[B", false)
  | 6 => ("TermReaderModel$Reader", "n", "I", false)
  | 7 => ("TermReaderModel$Reader", "at", "I", false)
  | 8 => ("TermReaderModel$Reader", "behind", "I", false)
  | 9 => ("TermReaderModel$Reader", "token", "I", false)
  | 10 => ("TermReaderModel$Reader", "open", "I", false)
  | 11 => ("TermReaderModel$Reader", "number", "J", false)
  | 12 => ("TermReaderModel$Reader", "word", "[B", true)
  | 13 => ("TermReaderModel$Reader", "letters", "I", false)
  | 14 => ("TermReaderModel$Reader", "stack", "[I", true)
  | 15 => ("TermReaderModel$Reader", "top", "I", false)
  | 16 => ("TermReaderModel$Reader", "place", "I", false)
  | 17 => ("TermReaderModel$Reader", "variables", "[I", true)
  | 18 => ("TermReaderModel$Reader", "variabled", "I", false)
  | 19 => ("TermReaderModel$Reader", "known", "I", false)
  | 20 => ("TermReaderModel$Reader", "rank", "I", false)
  | _ => ("TermReaderModel$Reader", "kept", "[B", true)
def t_RD : Nat → FieldType := fun k => match k with
  | 0 => .array (.object "java/lang/String")
  | 1 => .array .int
  | 2 => .object "java/lang/IllegalStateException"
  | 3 => .object "TermReaderModel$Terms"
  | 4 => .object "TermReaderModel$Names"
  | 5 => .array .byte
  | 6 => .int
  | 7 => .int
  | 8 => .int
  | 9 => .int
  | 10 => .int
  | 11 => .long
  | 12 => .array .byte
  | 13 => .int
  | 14 => .array .int
  | 15 => .int
  | 16 => .int
  | 17 => .array .int
  | 18 => .int
  | 19 => .int
  | 20 => .int
  | _ => .array .byte
def F_PP : u_T := fun k => match k with
  | 0 => ("TermReaderModel$Paper", "out", "[B", true)
  | 1 => ("TermReaderModel$Paper", "walk", "[I", true)
  | 2 => ("TermReaderModel$Paper", "next", "[I", true)
  | 3 => ("TermReaderModel$Paper", "seen", "[I", true)
  | 4 => ("TermReaderModel$Paper", "n", "I", false)
  | 5 => ("TermReaderModel$Paper", "over", "Z", false)
  | _ => ("TermReaderModel$Paper", "order", "I", false)
def t_PP : Nat → FieldType := fun k => match k with
  | 0 => .array .byte
  | 1 => .array .int
  | 2 => .array .int
  | 3 => .array .int
  | 4 => .int
  | 5 => .boolean
  | _ => .int
def F_IS : u_T := fun _ => ("", "", "", false)
/-- the classes whose objects the worlds hold -/
def x_Cl : List vw_C := [("TermReader", F_TR, 10), ("TermReader$Parser", F_PA, 2), ("TermReader$Signs", F_SG, 8), ("TermReader$Tree", F_TE, 12), ("TermReader$Printer", F_PR, 6), ("TermReaderModel", F_MO, 15), ("TermReaderModel$Terms", F_TS, 8), ("TermReaderModel$Names", F_NA, 6), ("TermReaderModel$Reader", F_RD, 22), ("TermReaderModel$Paper", F_PP, 7), ("java/lang/IllegalStateException", F_IS, 0)]
/-! THE ABSTRACT WALK. A world is a function from cell numbers to cells; a reference in it is a number: below 1000000 the cell of that number, made by the run itself (the k-th new cell of the law lies at x_L E + k); from 1000000 on a constant of the start (x_sg E tells where). -/
abbrev xE : Type := (Nat × vp_A) ⊕ (Nat × List Value)
abbrev xH : Type := Nat → xE
abbrev xO : Type := Option Value ⊕ Nat
abbrev xR : Type := Launch × (Nat → Nat) × (Nat → ClassId) × va_G × Nat × Bool × Nat × (Nat → Int32)
abbrev xM : Type := MethodName × ByteArray × Nat × Option FieldType × List (Nat × Nat × Nat × Nat)
abbrev xK : Type := xO → Nat → xH → Nat → Nat → Prop
abbrev x_l (E : xR) : Launch := E.1
abbrev x_sg (E : xR) : Nat → Nat := E.2.1
abbrev x_cT (E : xR) : Nat → ClassId := E.2.2.1
abbrev x_D (E : xR) : va_G := E.2.2.2.1
abbrev x_L (E : xR) : Nat := E.2.2.2.2.1
/-- in the time of making: nothing but the world's own cells has been made since the law's start -/
abbrev x_tg (E : xR) : Prop := E.2.2.2.2.2.1 = true
/-- the script: its length and its ints -/
abbrev x_sL (E : xR) : Nat := E.2.2.2.2.2.2.1
abbrev x_sx (E : xR) : Nat → Int32 := E.2.2.2.2.2.2.2
abbrev x_A (E : xR) : Nat → Prop := fun q => x_L E ≤ q
def x_r (E : xR) (i : Nat) : Nat := bif Nat.ble 1000000 i then x_sg E i else x_L E + i
def x_v (E : xR) (v : Value) : Value := match v with
  | .ref i => .ref (x_r E i)
  | .int x => .int x
  | .long x => .long x
  | .float x => .float x
  | .double x => .double x
  | .null => .null
  | .retAddr x => .retAddr x
def x_a (E : xR) (a : vp_A) : vp_A := (a.1, match a.2 with
  | .inl f => .inl f
  | .inr (.inl f) => .inr (.inl f)
  | .inr (.inr (.inl f)) => .inr (.inr (.inl f))
  | .inr (.inr (.inr (.inl f))) => .inr (.inr (.inr (.inl f)))
  | .inr (.inr (.inr (.inr f))) => .inr (.inr (.inr (.inr (fun j => (f j).map (x_r E))))))
def x_e (E : xR) (c : xE) : va_E := match c with
  | .inl a => .inl (x_cT E a.1, x_a E a.2)
  | .inr o => .inr (o.1, o.2.map (x_v E))
def x_ws (E : xR) (n : Nat) (h : xH) : va_W := (List.range n).map fun k => (x_L E + k, x_e E (h k))
def x_up (h : xH) (k : Nat) (c : xE) : xH := fun j => bif Nat.beq j k then c else h j
theorem x_cat (E : xR) (v : Value) : (x_v E v).category = v.category := by cases v <;> rfl
theorem x_rlo (E : xR) {i : Nat} (h : i < 1000000) : x_r E i = x_L E + i := by
  unfold x_r
  cases hb : Nat.ble 1000000 i with
  | false => rfl
  | true => exact absurd (Nat.le_of_ble_eq_true hb) (by omega)
theorem x_up_ne {h : xH} {k j : Nat} {c : xE} (hj : ¬ j = k) : x_up h k c j = h j := by
  unfold x_up
  cases hb : Nat.beq j k with
  | false => rfl
  | true => exact absurd (Nat.eq_of_beq_eq_true hb) hj
theorem x_up_eq {h : xH} {k : Nat} {c : xE} : x_up h k c k = c := by
  unfold x_up
  rw [Nat.beq_refl]
  rfl
theorem x_ws_at {E : xR} {n k : Nat} {h : xH} (hk : k < n) : (x_ws E n h)[k]? = some (x_L E + k, x_e E (h k)) := by
  simp [x_ws, hk]
theorem x_ws_inv {E : xR} {n i : Nat} {h : xH} {q : Nat × va_E} (hi : (x_ws E n h)[i]? = some q) : i < n ∧ q = (x_L E + i, x_e E (h i)) := by
  have hlt : i < n := by
    have := (List.getElem?_eq_some_iff.mp hi).1
    simpa [x_ws] using this
  rw [x_ws_at hlt] at hi
  exact ⟨hlt, (Option.some.inj hi).symm⟩
theorem x_ws_set {E : xR} {n k : Nat} {h : xH} {c : xE} : (x_ws E n h).set k (x_L E + k, x_e E c) = x_ws E n (x_up h k c) := by
  apply List.ext_getElem?
  intro j
  rw [List.getElem?_set]
  by_cases hjk : k = j
  · subst hjk
    rw [if_pos rfl]
    by_cases hk : k < n
    · rw [if_pos (by simpa [x_ws] using hk), x_ws_at hk, x_up_eq]
    · rw [if_neg (by simpa [x_ws] using hk)]
      simp [x_ws, hk]
  · rw [if_neg hjk]
    by_cases hj : j < n
    · rw [x_ws_at hj, x_ws_at hj, x_up_ne (fun q => hjk q.symm)]
    · simp [x_ws, hj]
theorem x_ws_push {E : xR} {n : Nat} {h : xH} {c : xE} : x_ws E n h ++ [(x_L E + n, x_e E c)] = x_ws E (n + 1) (x_up h n c) := by
  apply List.ext_getElem?
  intro j
  have hlen : (x_ws E n h).length = n := by simp [x_ws]
  by_cases hj : j < n
  · rw [List.getElem?_append_left (by rw [hlen]; exact hj), x_ws_at hj, x_ws_at (Nat.lt_succ_of_lt hj), x_up_ne (Nat.ne_of_lt hj)]
  · rw [List.getElem?_append_right (by rw [hlen]; omega), hlen]
    by_cases hjn : j = n
    · subst hjn
      rw [Nat.sub_self, x_ws_at (Nat.lt_succ_self _), x_up_eq]
      rfl
    · obtain ⟨d, hd⟩ : ∃ d, j - n = d + 1 := ⟨j - n - 1, by omega⟩
      have h2 : ¬ j < n + 1 := by omega
      rw [hd]
      simp [x_ws, h2]
theorem x_Dok {E : xR} {n : Nat} {h : xH} : va_D (x_A E) (x_ws E n h) := by
  refine ⟨fun i j p q hi hj e => ?_, fun k q hk => ?_⟩
  · obtain ⟨-, rfl⟩ := x_ws_inv hi
    obtain ⟨-, rfl⟩ := x_ws_inv hj
    have : x_L E + i = x_L E + j := e
    omega
  · obtain ⟨-, rfl⟩ := x_ws_inv hk
    exact Nat.le_add_right _ _
abbrev x_P (E : xR) (n : Nat) (h : xH) (H : Heap) : Prop := va_P (x_D E) x_Cl (x_ws E n h) H
/-- the array classes: of ints, bytes, longs, Strings -/
def x_tys (E : xR) : List (ClassId × FieldType) := [(x_cT E 0, .int), (x_cT E 1, .byte), (x_cT E 2, .long), (x_cT E 3, .object "java/lang/String")]
/-- the locals by their numbers, in order -/
def x_lk : List (Nat × Value) → Nat → Option Value
  | [], _ => none
  | q :: r, i => bif Nat.beq q.1 i then some q.2 else x_lk r i
theorem x_lk_mem : ∀ {lv : List (Nat × Value)} {i : Nat} {v : Value}, x_lk lv i = some v → (i, v) ∈ lv
  | q :: r, i, v, h => by
    unfold x_lk at h
    cases hb : Nat.beq q.1 i with
    | true =>
      rw [hb] at h
      have e1 : q.1 = i := Nat.eq_of_beq_eq_true hb
      have e2 : q.2 = v := Option.some.inj h
      rw [← e1, ← e2]
      exact List.mem_cons_self
    | false =>
      rw [hb] at h
      exact List.mem_cons_of_mem _ (x_lk_mem h)
def x_ins : List (Nat × Value) → Nat → Value → List (Nat × Value)
  | [], i, v => [(i, v)]
  | q :: r, i, v => bif Nat.ble i q.1 then (i, v) :: q :: r else q :: x_ins r i v
theorem x_ins_mem : ∀ {lv : List (Nat × Value)} {i : Nat} {v : Value} {q : Nat × Value}, q ∈ x_ins lv i v → q = (i, v) ∨ q ∈ lv
  | [], i, v, q, h => by
    simp [x_ins] at h
    exact Or.inl h
  | a :: r, i, v, q, h => by
    unfold x_ins at h
    cases hb : Nat.ble i a.1 with
    | true =>
      rw [hb] at h
      rcases List.mem_cons.mp h with h | h
      · exact Or.inl h
      · exact Or.inr h
    | false =>
      rw [hb] at h
      rcases List.mem_cons.mp h with h | h
      · exact Or.inr (by rw [h]; exact List.mem_cons_self)
      · rcases x_ins_mem h with h | h
        · exact Or.inl h
        · exact Or.inr (List.mem_cons_of_mem _ h)
def x_st1 (lv : List (Nat × Value)) (i : Nat) (v : Value) : List (Nat × Value) := x_ins (lv.filter (fun q => !(q.1 == i) && !(q.1 + 1 == i && q.2.category == 2))) i v
def x_st2 (lv : List (Nat × Value)) (i : Nat) (v : Value) : List (Nat × Value) := x_ins (lv.filter (fun q => !(q.1 == i) && (!(q.1 == i + 1) && !(q.1 + 1 == i && q.2.category == 2)))) i v
abbrev x_lm (E : xR) (lv : List (Nat × Value)) : List (Nat × Value) := lv.map fun q => (q.1, x_v E q.2)
theorem x_has_at {E : xR} {ls : Array Slot} {nL : Nat} {lv : List (Nat × Value)} (h : lv_has ls nL (x_lm E lv)) {i : Nat} {v : Value} (hv : x_lk lv i = some v) : ls[i]? = some (.val (x_v E v)) :=
  h.2.2 (i, x_v E v) (List.mem_map.mpr ⟨(i, v), x_lk_mem hv, rfl⟩)
theorem x_has_sub {ls : Array Slot} {nL : Nat} {l l' : List (Nat × Value)} (h : lv_has ls nL l) (hs : ∀ q ∈ l', q ∈ l) : lv_has ls nL l' := ⟨h.1, h.2.1, fun q hq => h.2.2 q (hs q hq)⟩
theorem x_st1_has {E : xR} {ls : Array Slot} {nL : Nat} {lv : List (Nat × Value)} {i : Nat} {v : Value} (h : lv_has ls nL ((i, x_v E v) :: (x_lm E lv).filter (fun q => !(q.1 == i) && !(q.1 + 1 == i && q.2.category == 2)))) : lv_has ls nL (x_lm E (x_st1 lv i v)) := by
  refine x_has_sub h fun q hq => ?_
  obtain ⟨q0, h0, rfl⟩ := List.mem_map.mp hq
  rcases x_ins_mem h0 with rfl | h1
  · exact List.mem_cons_self
  · refine List.mem_cons_of_mem _ ?_
    obtain ⟨h2, h3⟩ := List.mem_filter.mp h1
    refine List.mem_filter.mpr ⟨List.mem_map.mpr ⟨q0, h2, rfl⟩, ?_⟩
    simp only [x_cat]
    exact h3
theorem x_st2_has {E : xR} {ls : Array Slot} {nL : Nat} {lv : List (Nat × Value)} {i : Nat} {v : Value} (h : lv_has ls nL ((i, x_v E v) :: (x_lm E lv).filter (fun q => !(q.1 == i) && (!(q.1 == i + 1) && !(q.1 + 1 == i && q.2.category == 2))))) : lv_has ls nL (x_lm E (x_st2 lv i v)) := by
  refine x_has_sub h fun q hq => ?_
  obtain ⟨q0, h0, rfl⟩ := List.mem_map.mp hq
  rcases x_ins_mem h0 with rfl | h1
  · exact List.mem_cons_self
  · refine List.mem_cons_of_mem _ ?_
    obtain ⟨h2, h3⟩ := List.mem_filter.mp h1
    refine List.mem_filter.mpr ⟨List.mem_map.mpr ⟨q0, h2, rfl⟩, ?_⟩
    simp only [x_cat]
    exact h3
theorem x_args (E : xR) : ∀ (av : List Value) (i : Nat), lv_args i (av.map (x_v E)) = x_lm E (lv_args i av)
  | [], _ => rfl
  | v :: vs, i => by
    show (i, x_v E v) :: lv_args (if (x_v E v).category = 2 then i + 2 else i + 1) (vs.map (x_v E)) = _
    rw [x_cat, x_args E vs]
    rfl
