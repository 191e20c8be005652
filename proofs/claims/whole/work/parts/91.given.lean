/-! WHAT THE STATEMENT GIVES OF THE START -/
def fl2 : Jvm.Cond → List Jvm.Cond → List Jvm.Cond
  | .and a b, acc => fl2 a (fl2 b acc)
  | c, acc => c :: acc
theorem fl2_eq : ∀ (c : Jvm.Cond) (acc : List Jvm.Cond), fl2 c acc = flatC c ++ acc := by
  intro c
  induction c with
  | and a b iha ihb =>
    intro acc
    rw [fl2, flatC, iha, ihb, List.append_assoc]
  | _ => intro acc; rfl
def st_W : List Jvm.Cond := fl2 (Jvm.Cond.and given_1 narrow_1) []
theorem st_of {args : Array Value} {s : State} (h : (Jvm.Cond.and given_1 narrow_1).before args s = true) : ∀ w ∈ st_W, w.before args s = true := fun w hw => flat_of_before _ h w (by
  unfold st_W at hw
  rw [fl2_eq, List.append_nil] at hw
  exact hw)
theorem st_at {args : Array Value} {s : State} (h : ∀ w ∈ st_W, w.before args s = true) (k : Nat) {w : Jvm.Cond} (e : st_W[k]? = some w) : w.before args s = true := h w (List.mem_of_getElem? e)
theorem tb_at {args : Array Value} {s : State} (h : ∀ w ∈ lw_tbl, w.before args s = true) (k : Nat) {w : Jvm.Cond} (e : lw_tbl[k]? = some w) : w.before args s = true := h w (List.mem_of_getElem? e)
theorem st_ref {args : Array Value} {s : State} {t : Term} {o n d : String} {v : Value} (h : (Term.field t o n d).eval args s none [] s = some v) : ∃ a : Nat, t.eval args s none [] s = some (.ref a) := by
  cases ht : t.eval args s none [] s with
  | none => simp [Term.eval, ht] at h
  | some w =>
    cases w with
    | ref a => exact ⟨a, rfl⟩
    | _ => simp [Term.eval, ht] at h
theorem st_not {args : Array Value} {s : State} {t u : Term} {a b : Nat} (ht : t.eval args s none [] s = some (.ref a)) (hu : u.eval args s none [] s = some (.ref b)) (h : a ≠ b) : (Cond.not (.eq t u)).before args s = true := by
  simp [Cond.before, Cond.holds, Cond.value, ht, hu, h]
theorem st_neF {args : Array Value} {s : State} {t u : Term} {o n d : String} {x y : Int32} (hx : (Cond.eq (.field t o n d) (.int x)).before args s = true) (hy : (Cond.eq (.field u o n d) (.int y)).before args s = true) (h : x ≠ y) : (Cond.not (.eq t u)).before args s = true := by
  have ex := va_eqt hx
  have ey := va_eqt hy
  obtain ⟨a, ha⟩ := st_ref ex
  obtain ⟨b, hb⟩ := st_ref ey
  refine st_not ha hb (fun e => h ?_)
  subst e
  rw [va_fe ha] at ex
  rw [va_fe hb, ex] at ey
  cases ey
  rfl
theorem st_neL {args : Array Value} {s : State} {t u : Term} {o n d : String} {x y : Int32} {vt vu : Value} (ht : (Term.field t o n d).eval args s none [] s = some vt) (hu : (Term.field u o n d).eval args s none [] s = some vu) (hx : (Cond.eq (.length (.field t o n d)) (.int x)).before args s = true) (hy : (Cond.eq (.length (.field u o n d)) (.int y)).before args s = true) (h : x ≠ y) : (Cond.not (.eq t u)).before args s = true := by
  have ex := va_eqt hx
  have ey := va_eqt hy
  obtain ⟨a, ha⟩ := st_ref ht
  obtain ⟨b, hb⟩ := st_ref hu
  refine st_not ha hb (fun e => h ?_)
  subst e
  have e9 : (Term.field t o n d).eval args s none [] s = (Term.field u o n d).eval args s none [] s := by rw [va_fe ha, va_fe hb]
  have e8 : (Term.length (.field t o n d)).eval args s none [] s = (Term.length (.field u o n d)).eval args s none [] s := by
    unfold Term.eval
    rw [e9]
  rw [e8, ey] at ex
  cases ex
  rfl
theorem st_neE {args : Array Value} {s : State} {t u : Term} {o n d : String} {j x y : Int32} {vt vu : Value} (ht : (Term.field t o n d).eval args s none [] s = some vt) (hu : (Term.field u o n d).eval args s none [] s = some vu) (hx : (Cond.eq (.elem (.field t o n d) (.int j)) (.int x)).before args s = true) (hy : (Cond.eq (.elem (.field u o n d) (.int j)) (.int y)).before args s = true) (h : x ≠ y) : (Cond.not (.eq t u)).before args s = true := by
  have ex := va_eqt hx
  have ey := va_eqt hy
  obtain ⟨a, ha⟩ := st_ref ht
  obtain ⟨b, hb⟩ := st_ref hu
  refine st_not ha hb (fun e => h ?_)
  subst e
  have e9 : (Term.field t o n d).eval args s none [] s = (Term.field u o n d).eval args s none [] s := by rw [va_fe ha, va_fe hb]
  have e8 : (Term.elem (.field t o n d) (.int j)).eval args s none [] s = (Term.elem (.field u o n d) (.int j)).eval args s none [] s := by
    unfold Term.eval
    rw [e9]
  rw [e8, ey] at ex
  cases ex
  rfl
theorem st_len {args : Array Value} {s : State} {t : Term} {x : Value} (h : (Term.length t).eval args s none [] s = some x) : ∃ v, t.eval args s none [] s = some v := by
  cases ht : t.eval args s none [] s with
  | none => simp [Term.eval, ht] at h
  | some v => exact ⟨v, rfl⟩
def st_tm : List Term := [.string "TermReader" 39, .string "TermReader" 50, .string "TermReader$Signs" 98, .string "TermReader$Signs" 179, .string "TermReader$Parser" 146, .string "TermReader$Signs" 120, .string "TermReader$Parser" 165, .string "TermReader$Signs" 103, .string "TermReader" 64, .string "TermReader" 73, .string "TermReader" 84, .string "TermReaderModel$Reader" 11, .string "TermReaderModel$Reader" 13, .string "TermReaderModel$Reader" 15, .string "TermReaderModel$Reader" 17, .string "TermReaderModel$Reader" 19, .string "TermReaderModel$Reader" 21, .string "TermReaderModel$Reader" 23, .string "TermReaderModel$Reader" 25, .string "TermReaderModel$Reader" 27, .string "TermReaderModel$Reader" 29, .string "TermReaderModel$Reader" 31, .string "TermReaderModel$Reader" 33, .string "TermReaderModel$Reader" 35, .string "TermReaderModel$Reader" 37, .string "TermReaderModel$Reader" 39, .string "TermReaderModel$Reader" 43, .string "TermReaderModel$Reader" 45, .string "TermReaderModel$Reader" 47, .string "TermReaderModel$Reader" 49, .string "TermReaderModel$Reader" 196, .string "TermReader$Operator" 149, .string "TermReader$Operator" 207]
abbrev st_t (i : Nat) : Term := st_tm.getD i (.int 0)
def st_px : List Nat := [280, 322, 359, 397, 418, 423, 428, 434, 468, 500, 521, 546, 552, 557, 563, 568, 574, 580, 587, 593, 598, 603, 609, 615, 622, 629, 640, 645, 651, 658, 687, 706, 711]
def st_pc : List Nat := [281, 323, 360, 398, 419, 424, 429, 435, 469, 501, 522, 547, 553, 558, 564, 569, 575, 581, 588, 594, 599, 604, 610, 616, 623, 630, 641, 646, 652, 659, 688, 707, 712]
def st_pa : List Nat := [282, 324, 361, 399, 420, 425, 430, 436, 470, 502, 523, 548, 554, 559, 565, 570, 576, 582, 589, 595, 600, 605, 611, 617, 624, 631, 642, 647, 653, 660, 689, 708, 713]
def st_pl : List Nat := [283, 325, 362, 400, 421, 426, 431, 437, 471, 503, 524, 549, 555, 560, 566, 571, 577, 583, 590, 596, 601, 606, 612, 618, 625, 632, 643, 648, 654, 661, 690, 709, 714]
def st_pe : List (List Nat) := [[284, 285, 286, 287, 288, 289, 290, 291, 292, 293, 294, 295, 296, 297, 298, 299, 300, 301, 302, 303, 304, 305, 306, 307, 308, 309, 310, 311, 312, 313, 314, 315, 316, 317, 318, 319, 320, 321], [326, 327, 328, 329, 330, 331, 332, 333, 334, 335, 336, 337, 338, 339, 340, 341, 342, 343, 344, 345, 346, 347, 348, 349, 350, 351, 352, 353, 354, 355, 356, 357, 358], [363, 364, 365, 366, 367, 368, 369, 370, 371, 372, 373, 374, 375, 376, 377, 378, 379, 380, 381, 382, 383, 384, 385, 386, 387, 388, 389, 390, 391, 392, 393, 394, 395, 396], [401, 402, 403, 404, 405, 406, 407, 408, 409, 410, 411, 412, 413, 414, 415, 416, 417], [422], [427], [432, 433], [438, 439, 440, 441, 442, 443, 444, 445, 446, 447, 448, 449, 450, 451, 452, 453, 454, 455, 456, 457, 458, 459, 460, 461, 462, 463, 464, 465, 466, 467], [472, 473, 474, 475, 476, 477, 478, 479, 480, 481, 482, 483, 484, 485, 486, 487, 488, 489, 490, 491, 492, 493, 494, 495, 496, 497, 498, 499], [504, 505, 506, 507, 508, 509, 510, 511, 512, 513, 514, 515, 516, 517, 518, 519, 520], [525, 526, 527, 528, 529, 530, 531, 532, 533, 534, 535, 536, 537, 538, 539, 540, 541, 542, 543, 544, 545], [550, 551], [556], [561, 562], [567], [572, 573], [578, 579], [584, 585, 586], [591, 592], [597], [602], [607, 608], [613, 614], [619, 620, 621], [626, 627, 628], [633], [644], [649, 650], [655, 656, 657], [662, 663, 664], [691, 692], [710], []]
theorem st_ex_k : ∀ i, i < x_nS → st_W[st_px.getD i 0]? = some (Cond.exactly (st_t i) "java/lang/String") := by decide +kernel
theorem st_ex {args : Array Value} {s : State} (hs : ∀ w ∈ st_W, w.before args s = true) : ∀ i, i < x_nS → (Cond.exactly (st_t i) "java/lang/String").before args s = true := fun i hi => st_at hs _ (st_ex_k i hi)
theorem st_co_k : ∀ i, i < x_nS → st_W[st_pc.getD i 0]? = some (Cond.eq (.field (st_t i) "java/lang/String" "coder" "B") (.int 0)) := by decide +kernel
theorem st_co {args : Array Value} {s : State} (hs : ∀ w ∈ st_W, w.before args s = true) : ∀ i, i < x_nS → (Cond.eq (.field (st_t i) "java/lang/String" "coder" "B") (.int 0)).before args s = true := fun i hi => st_at hs _ (st_co_k i hi)
theorem st_ar_k : ∀ i, i < x_nS → st_W[st_pa.getD i 0]? = some (Cond.arrayOf (.field (st_t i) "java/lang/String" "value" "[B") .byte) := by decide +kernel
theorem st_ar {args : Array Value} {s : State} (hs : ∀ w ∈ st_W, w.before args s = true) : ∀ i, i < x_nS → (Cond.arrayOf (.field (st_t i) "java/lang/String" "value" "[B") .byte).before args s = true := fun i hi => st_at hs _ (st_ar_k i hi)
theorem st_le_k : ∀ i, i < x_nS → st_W[st_pl.getD i 0]? = some (Cond.eq (.length (.field (st_t i) "java/lang/String" "value" "[B")) (.int (Int32.ofNat (x_lenS.getD i 0)))) := by decide +kernel
theorem st_le {args : Array Value} {s : State} (hs : ∀ w ∈ st_W, w.before args s = true) : ∀ i, i < x_nS → (Cond.eq (.length (.field (st_t i) "java/lang/String" "value" "[B")) (.int (Int32.ofNat (x_lenS.getD i 0)))).before args s = true := fun i hi => st_at hs _ (st_le_k i hi)
theorem st_el_k : ∀ i, i < x_nS → ∀ j, j < x_lenS.getD i 0 → st_W[(st_pe.getD i []).getD j 0]? = some (Cond.eq (.elem (.field (st_t i) "java/lang/String" "value" "[B") (.int (Int32.ofNat j))) (.int ((x_bytS.getD i []).getD j 0))) := by decide +kernel
theorem st_el {args : Array Value} {s : State} (hs : ∀ w ∈ st_W, w.before args s = true) : ∀ i, i < x_nS → ∀ j, j < x_lenS.getD i 0 → (Cond.eq (.elem (.field (st_t i) "java/lang/String" "value" "[B") (.int (Int32.ofNat j))) (.int ((x_bytS.getD i []).getD j 0))).before args s = true := fun i hi j hj => st_at hs _ (st_el_k i hi j hj)
def st_dk (i j : Nat) : Nat := ((List.range (x_lenS.getD i 0)).find? (fun k => decide ((x_bytS.getD i []).getD k 0 ≠ (x_bytS.getD j []).getD k 0))).getD 0
theorem st_dkE : ∀ i, i < x_nS → ∀ j, j < x_nS → i ≠ j → Int32.ofNat (x_lenS.getD i 0) ≠ Int32.ofNat (x_lenS.getD j 0) ∨ (st_dk i j < x_lenS.getD i 0 ∧ st_dk i j < x_lenS.getD j 0 ∧ (x_bytS.getD i []).getD (st_dk i j) 0 ≠ (x_bytS.getD j []).getD (st_dk i j) 0) := by decide +kernel
theorem st_hne {args : Array Value} {s : State} (hs : ∀ w ∈ st_W, w.before args s = true) : ∀ i j, i < x_nS → j < x_nS → i ≠ j → (Cond.not (Cond.eq (st_t i) (st_t j))).before args s = true := by
  intro i j hi hj hij
  obtain ⟨vi, ei⟩ := st_len (va_eqt (st_le hs i hi))
  obtain ⟨vj, ej⟩ := st_len (va_eqt (st_le hs j hj))
  rcases st_dkE i hi j hj hij with h | ⟨h1, h2, h3⟩
  · exact st_neL ei ej (st_le hs i hi) (st_le hs j hj) h
  · exact st_neE ei ej (st_el hs i hi _ h1) (st_el hs j hj _ h2) h3
theorem st_str {args : Array Value} {s : State} (hs : ∀ w ∈ st_W, w.before args s = true) : ∃ adK adV : Nat → Nat, vk_S x_nS x_lenS x_bytS adK adV (fun q : Nat => s.heap.size ≤ q) s s.heap ∧ ∀ i : Nat, i < x_nS → (st_t i).eval args s none [] s = some (.ref (adK i)) :=
  vk_Sof (tm := st_t) (by decide +kernel) (st_ex hs) (st_co hs) (st_ar hs) (st_le hs) (st_el hs) (fun i j hi hj hij => Or.inl (st_hne hs i j hi hj hij)) (fun a h9 => Nat.not_le.mpr h9)
def st_xSN : List Nat := [12, 8, 10, 19, 21, 23, 25, 27, 29, 31, 33, 4]
theorem st_eSN_k : ∀ i, i < 12 → st_W[st_xSN.getD i 0]? = some (Cond.exactly (.static "TermReader$Sign" (x_nmSN.getD i "") "LTermReader$Sign;") "TermReader$Sign") := by decide +kernel
theorem st_eSN {args : Array Value} {s : State} (hs : ∀ w ∈ st_W, w.before args s = true) : ∀ i, i < 12 → (Cond.exactly (.static "TermReader$Sign" (x_nmSN.getD i "") "LTermReader$Sign;") "TermReader$Sign").before args s = true := fun i hi => st_at hs _ (st_eSN_k i hi)
def st_lSN : List Nat := [463, 445, 451, 557, 566, 568, 570, 572, 574, 576, 578, 112]
theorem st_ySN_k : ∀ i, i < 12 → lw_tbl[st_lSN.getD i 0]? = some (Cond.laysStatic "TermReader$Sign" (x_nmSN.getD i "") "LTermReader$Sign;") := by decide +kernel
def st_fSN0 : List Nat := [13, 9, 11, 20, 22, 24, 26, 28, 30, 32, 34, 5]
theorem st_gSN0_k : ∀ i, i < 12 → st_W[st_fSN0.getD i 0]? = some (Cond.eq (.field (.static "TermReader$Sign" (x_nmSN.getD i "") "LTermReader$Sign;") "java/lang/Enum" "ordinal" "I") (.int ([0, 1, 2, 3, 4, 5, 6, 7, 8, 9, 10, 11].getD i 0))) := by decide +kernel
theorem st_gSN0 {args : Array Value} {s : State} (hs : ∀ w ∈ st_W, w.before args s = true) : ∀ i, i < 12 → (Cond.eq (.field (.static "TermReader$Sign" (x_nmSN.getD i "") "LTermReader$Sign;") "java/lang/Enum" "ordinal" "I") (.int ([0, 1, 2, 3, 4, 5, 6, 7, 8, 9, 10, 11].getD i 0))).before args s = true := fun i hi => st_at hs _ (st_gSN0_k i hi)
theorem st_oSN : ∀ i, i < 12 → ∀ j, j < 12 → i ≠ j → ([0, 1, 2, 3, 4, 5, 6, 7, 8, 9, 10, 11] : List Int32).getD i 0 ≠ ([0, 1, 2, 3, 4, 5, 6, 7, 8, 9, 10, 11] : List Int32).getD j 0 := by decide +kernel
theorem st_SN {args : Array Value} {s : State} (hs : ∀ w ∈ st_W, w.before args s = true) (hts : ∀ w ∈ lw_tbl, w.before args s = true) : ∃ ad : Nat → Nat, va_En "TermReader$Sign" "LTermReader$Sign;" x_nmSN x_FSN ad (fun q : Nat => s.heap.size ≤ q) s s.heap ∧ ∀ i, i < 12 → (Term.static "TermReader$Sign" (x_nmSN.getD i "") "LTermReader$Sign;").eval args s none [] s = some (.ref (ad i)) :=
  va_Enof2 (fun i hi => tb_at hts _ (st_ySN_k i hi)) (tb_at hts 69 (by decide +kernel)) (st_eSN hs) (List.forall_mem_cons.mpr ⟨st_gSN0 hs, fun _ h => absurd h List.not_mem_nil⟩) (fun i j hi hj hij => Or.inl (st_neF (st_gSN0 hs i hi) (st_gSN0 hs j hj) (st_oSN i hi j hj hij))) (fun a h9 => Nat.not_le.mpr h9)
def st_xOP : List Nat := [77, 84, 91, 35, 98, 105, 112, 119, 126, 133, 140, 147, 154, 160, 166, 172, 178, 184, 190, 196, 202, 208, 214, 42]
theorem st_eOP_k : ∀ i, i < 24 → st_W[st_xOP.getD i 0]? = some (Cond.exactly (.static "TermReader$Operator" (x_nmOP.getD i "") "LTermReader$Operator;") "TermReader$Operator") := by decide +kernel
theorem st_eOP {args : Array Value} {s : State} (hs : ∀ w ∈ st_W, w.before args s = true) : ∀ i, i < 24 → (Cond.exactly (.static "TermReader$Operator" (x_nmOP.getD i "") "LTermReader$Operator;") "TermReader$Operator").before args s = true := fun i hi => st_at hs _ (st_eOP_k i hi)
def st_lOP : List Nat := [1322, 1323, 1324, 604, 1325, 1326, 1327, 1328, 1329, 1330, 1331, 1332, 1333, 1334, 1335, 1336, 1337, 1338, 1339, 1340, 1341, 1342, 1343, 610]
theorem st_yOP_k : ∀ i, i < 24 → lw_tbl[st_lOP.getD i 0]? = some (Cond.laysStatic "TermReader$Operator" (x_nmOP.getD i "") "LTermReader$Operator;") := by decide +kernel
def st_fOP0 : List Nat := [78, 85, 92, 36, 99, 106, 113, 120, 127, 134, 141, 148, 155, 161, 167, 173, 179, 185, 191, 197, 203, 209, 215, 43]
theorem st_gOP0_k : ∀ i, i < 24 → st_W[st_fOP0.getD i 0]? = some (Cond.eq (.field (.static "TermReader$Operator" (x_nmOP.getD i "") "LTermReader$Operator;") "java/lang/Enum" "ordinal" "I") (.int ([0, 1, 2, 3, 4, 5, 6, 7, 8, 9, 10, 11, 12, 13, 14, 15, 16, 17, 18, 19, 20, 21, 22, 23].getD i 0))) := by decide +kernel
theorem st_gOP0 {args : Array Value} {s : State} (hs : ∀ w ∈ st_W, w.before args s = true) : ∀ i, i < 24 → (Cond.eq (.field (.static "TermReader$Operator" (x_nmOP.getD i "") "LTermReader$Operator;") "java/lang/Enum" "ordinal" "I") (.int ([0, 1, 2, 3, 4, 5, 6, 7, 8, 9, 10, 11, 12, 13, 14, 15, 16, 17, 18, 19, 20, 21, 22, 23].getD i 0))).before args s = true := fun i hi => st_at hs _ (st_gOP0_k i hi)
def st_fOP1 : List Nat := [80, 87, 94, 38, 101, 108, 115, 122, 129, 136, 143, 150, 157, 163, 169, 175, 181, 187, 193, 199, 205, 211, 217, 45]
theorem st_gOP1_k : ∀ i, i < 24 → st_W[st_fOP1.getD i 0]? = some (Cond.eq (.field (.static "TermReader$Operator" (x_nmOP.getD i "") "LTermReader$Operator;") "TermReader$Operator" "rank" "I") (.int ([1200, 1100, 1050, 1000, 900, 700, 700, 700, 700, 700, 700, 700, 700, 700, 700, 700, 500, 500, 400, 400, 400, 400, 200, 9999].getD i 0))) := by decide +kernel
theorem st_gOP1 {args : Array Value} {s : State} (hs : ∀ w ∈ st_W, w.before args s = true) : ∀ i, i < 24 → (Cond.eq (.field (.static "TermReader$Operator" (x_nmOP.getD i "") "LTermReader$Operator;") "TermReader$Operator" "rank" "I") (.int ([1200, 1100, 1050, 1000, 900, 700, 700, 700, 700, 700, 700, 700, 700, 700, 700, 700, 500, 500, 400, 400, 400, 400, 200, 9999].getD i 0))).before args s = true := fun i hi => st_at hs _ (st_gOP1_k i hi)
def st_fOP2 : List Nat := [81, 88, 95, 39, 102, 109, 116, 123, 130, 137, 144, 151, 158, 164, 170, 176, 182, 188, 194, 200, 206, 212, 218, 46]
theorem st_gOP2_k : ∀ i, i < 24 → st_W[st_fOP2.getD i 0]? = some (Cond.eq (.field (.static "TermReader$Operator" (x_nmOP.getD i "") "LTermReader$Operator;") "TermReader$Operator" "left" "I") (.int ([1199, 1099, 1049, 999, -1, 699, 699, 699, 699, 699, 699, 699, 699, 699, 699, 699, 500, 500, 400, 400, 400, 400, -1, -1].getD i 0))) := by decide +kernel
theorem st_gOP2 {args : Array Value} {s : State} (hs : ∀ w ∈ st_W, w.before args s = true) : ∀ i, i < 24 → (Cond.eq (.field (.static "TermReader$Operator" (x_nmOP.getD i "") "LTermReader$Operator;") "TermReader$Operator" "left" "I") (.int ([1199, 1099, 1049, 999, -1, 699, 699, 699, 699, 699, 699, 699, 699, 699, 699, 699, 500, 500, 400, 400, 400, 400, -1, -1].getD i 0))).before args s = true := fun i hi => st_at hs _ (st_gOP2_k i hi)
def st_fOP3 : List Nat := [82, 89, 96, 40, 103, 110, 117, 124, 131, 138, 145, 152, 159, 165, 171, 177, 183, 189, 195, 201, 207, 213, 219, 47]
theorem st_gOP3_k : ∀ i, i < 24 → st_W[st_fOP3.getD i 0]? = some (Cond.eq (.field (.static "TermReader$Operator" (x_nmOP.getD i "") "LTermReader$Operator;") "TermReader$Operator" "right" "I") (.int ([1199, 1100, 1050, 1000, 900, 699, 699, 699, 699, 699, 699, 699, 699, 699, 699, 699, 499, 499, 399, 399, 399, 399, 200, -1].getD i 0))) := by decide +kernel
theorem st_gOP3 {args : Array Value} {s : State} (hs : ∀ w ∈ st_W, w.before args s = true) : ∀ i, i < 24 → (Cond.eq (.field (.static "TermReader$Operator" (x_nmOP.getD i "") "LTermReader$Operator;") "TermReader$Operator" "right" "I") (.int ([1199, 1100, 1050, 1000, 900, 699, 699, 699, 699, 699, 699, 699, 699, 699, 699, 699, 499, 499, 399, 399, 399, 399, 200, -1].getD i 0))).before args s = true := fun i hi => st_at hs _ (st_gOP3_k i hi)
theorem st_oOP : ∀ i, i < 24 → ∀ j, j < 24 → i ≠ j → ([0, 1, 2, 3, 4, 5, 6, 7, 8, 9, 10, 11, 12, 13, 14, 15, 16, 17, 18, 19, 20, 21, 22, 23] : List Int32).getD i 0 ≠ ([0, 1, 2, 3, 4, 5, 6, 7, 8, 9, 10, 11, 12, 13, 14, 15, 16, 17, 18, 19, 20, 21, 22, 23] : List Int32).getD j 0 := by decide +kernel
theorem st_OP {args : Array Value} {s : State} (hs : ∀ w ∈ st_W, w.before args s = true) (hts : ∀ w ∈ lw_tbl, w.before args s = true) : ∃ ad : Nat → Nat, va_En "TermReader$Operator" "LTermReader$Operator;" x_nmOP x_FOP ad (fun q : Nat => s.heap.size ≤ q) s s.heap ∧ ∀ i, i < 24 → (Term.static "TermReader$Operator" (x_nmOP.getD i "") "LTermReader$Operator;").eval args s none [] s = some (.ref (ad i)) :=
  va_Enof2 (fun i hi => tb_at hts _ (st_yOP_k i hi)) (tb_at hts 90 (by decide +kernel)) (st_eOP hs) (List.forall_mem_cons.mpr ⟨st_gOP0 hs, List.forall_mem_cons.mpr ⟨st_gOP1 hs, List.forall_mem_cons.mpr ⟨st_gOP2 hs, List.forall_mem_cons.mpr ⟨st_gOP3 hs, fun _ h => absurd h List.not_mem_nil⟩⟩⟩⟩) (fun i j hi hj hij => Or.inl (st_neF (st_gOP0 hs i hi) (st_gOP0 hs j hj) (st_oOP i hi j hj hij))) (fun a h9 => Nat.not_le.mpr h9)
