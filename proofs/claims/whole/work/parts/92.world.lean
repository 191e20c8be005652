/-! THE CLAIM: the world of the start, then the given heads -/
theorem st_Sx {N : Nat} {len : List Nat} {byt : List (List Int32)} {adK adV aK aV : Nat → Nat} {A : Nat → Prop} {U : State} {H : Heap} (h : vk_S N len byt adK adV A U H) (eK : ∀ i, i < N → aK i = adK i) (eV : ∀ i, i < N → aV i = adV i) : vk_S N len byt aK aV A U H := by
  refine ⟨fun i hi => ?_, fun i j hi hj e => h.2 i j hi hj ?_⟩
  · rw [eK i hi, eV i hi]
    exact h.1 i hi
  · rw [← eK i hi, ← eK j hj]
    exact e
theorem st_Ex {E d : String} {nm : List String} {F : List (String × String × String × List Int32)} {ad a' : Nat → Nat} {A : Nat → Prop} {U : State} {H : Heap} (h : va_En E d nm F ad A U H) (e : ∀ i, i < nm.length → a' i = ad i) : va_En E d nm F a' A U H := by
  refine ⟨fun i hi => ?_, fun i j hi hj e9 => h.2 i j hi hj ?_⟩
  · rw [e i hi]
    exact h.1 i hi
  · rw [← e i hi, ← e j hj]
    exact e9
theorem st_Tx {ty : FieldType} {t N : Nat} {f f' : Nat → Value} {A : Nat → Prop} {U : State} {H : Heap} (h : va_T ty t N f A U H) (e : ∀ j, j < N → f' j = f j) : va_T ty t N f' A U H := by
  obtain ⟨cell, h1, h2, h3, h4, h5, h6, h7⟩ := h
  exact ⟨cell, h1, h2, h3, h4, h5, fun j hj => by rw [e j hj]; exact h6 j hj, h7⟩
theorem st_Nw {args : Array Value} {s : State} {w : Jvm.Cond} (hn : x_isN w = true) (h : w.before args s = true) : va_Nw w s := by
  cases w with
  | arrayOver t =>
    cases t with
    | object C => exact h
    | _ => cases hn
  | fieldLinkNest a i b n d q => exact va_Nw.of rfl h
  | methodLinkNest a i x q => exact va_Nw.of rfl h
  | _ => cases hn
/-- where the constants of the start lie -/
def st_sg (adS adO adK adV : Nat → Nat) (tA b tF : Nat) (i : Nat) : Nat :=
  if i < 1100000 then adS (i - 1000000) else if i < 1200000 then adO (i - 1100000) else if i < 2000000 then tA else if i < 3000000 then adK (i - 2000000) else if i < 4000000 then adV (i - 3000000) else if i < 5000000 then b else tF
theorem st_sgS (adS adO adK adV : Nat → Nat) (tA b tF i : Nat) (hi : i < 12) : st_sg adS adO adK adV tA b tF (1000000 + i) = adS i := by
  have h1 : 1000000 + i < 1100000 := by omega
  have e : 1000000 + i - 1000000 = i := by omega
  unfold st_sg
  rw [if_pos h1, e]
theorem st_sgO (adS adO adK adV : Nat → Nat) (tA b tF i : Nat) (hi : i < 24) : st_sg adS adO adK adV tA b tF (1100000 + i) = adO i := by
  have h1 : ¬ 1100000 + i < 1100000 := by omega
  have h2 : 1100000 + i < 1200000 := by omega
  have e : 1100000 + i - 1100000 = i := by omega
  unfold st_sg
  rw [if_neg h1, if_pos h2, e]
theorem st_sgA (adS adO adK adV : Nat → Nat) (tA b tF : Nat) : st_sg adS adO adK adV tA b tF 1200000 = tA := by
  unfold st_sg
  rw [if_neg (by decide), if_neg (by decide), if_pos (by decide)]
theorem st_sgK (adS adO adK adV : Nat → Nat) (tA b tF i : Nat) (hi : i < 33) : st_sg adS adO adK adV tA b tF (2000000 + i) = adK i := by
  have h1 : ¬ 2000000 + i < 1100000 := by omega
  have h2 : ¬ 2000000 + i < 1200000 := by omega
  have h3 : ¬ 2000000 + i < 2000000 := by omega
  have h4 : 2000000 + i < 3000000 := by omega
  have e : 2000000 + i - 2000000 = i := by omega
  unfold st_sg
  rw [if_neg h1, if_neg h2, if_neg h3, if_pos h4, e]
theorem st_sgV (adS adO adK adV : Nat → Nat) (tA b tF i : Nat) (hi : i < 33) : st_sg adS adO adK adV tA b tF (3000000 + i) = adV i := by
  have h1 : ¬ 3000000 + i < 1100000 := by omega
  have h2 : ¬ 3000000 + i < 1200000 := by omega
  have h3 : ¬ 3000000 + i < 2000000 := by omega
  have h4 : ¬ 3000000 + i < 3000000 := by omega
  have h5 : 3000000 + i < 4000000 := by omega
  have e : 3000000 + i - 3000000 = i := by omega
  unfold st_sg
  rw [if_neg h1, if_neg h2, if_neg h3, if_neg h4, if_pos h5, e]
theorem st_sgB (adS adO adK adV : Nat → Nat) (tA b tF : Nat) : st_sg adS adO adK adV tA b tF 4000000 = b := by
  unfold st_sg
  rw [if_neg (by decide), if_neg (by decide), if_neg (by decide), if_neg (by decide), if_neg (by decide), if_pos (by decide)]
theorem st_sgF (adS adO adK adV : Nat → Nat) (tA b tF : Nat) : st_sg adS adO adK adV tA b tF 5000000 = tF := by
  unfold st_sg
  rw [if_neg (by decide), if_neg (by decide), if_neg (by decide), if_neg (by decide), if_neg (by decide), if_neg (by decide)]
theorem st_txlt : ∀ i, i < 24 → x_txOP.getD i 0 < 33 := by decide +kernel
theorem st_Srlt : ∀ q ∈ x_Sr, 2000000 ≤ q.2.2.2 ∧ q.2.2.2 < 2000033 := by decide +kernel
theorem st_Srid (adS adO adK adV : Nat → Nat) (tA b tF : Nat) {q : String × Nat × String × Nat} (hq : q ∈ x_Sr) : st_sg adS adO adK adV tA b tF q.2.2.2 = adK (q.2.2.2 - 2000000) := by
  obtain ⟨h1, h2⟩ := st_Srlt q hq
  have e := st_sgK adS adO adK adV tA b tF (q.2.2.2 - 2000000) (by omega)
  rw [← e, Nat.add_sub_cancel' h1]
/-- the classes -/
theorem st_K {args : Array Value} {s : State} (hts : ∀ w ∈ lw_tbl, w.before args s = true) : ∃ (cT : Nat → ClassId) (D : va_G), ∀ (l : Launch) (sg : Nat → Nat) (L : Nat) (b : Bool) (n : Nat) (xs : Nat → Int32), va_K D x_Cl (x_tys (l, sg, cT, D, L, b, n, xs)) s := by
  have hx : ∀ w ∈ x_Tw, w.before args s = true := fun w hw => hts w (List.mem_filter.mp hw).1
  obtain ⟨c0, i0, K0⟩ := u_known (n := 10) hx c_TR.2.1 (tb_at hts 92 (by decide +kernel))
  obtain ⟨c1, i1, K1⟩ := u_known (n := 2) hx c_PA.2.1 (tb_at hts 100 (by decide +kernel))
  obtain ⟨c2, i2, K2⟩ := u_known (n := 8) hx c_SG.2.1 (tb_at hts 106 (by decide +kernel))
  obtain ⟨c3, i3, K3⟩ := u_known (n := 12) hx c_TE.2.1 (tb_at hts 146 (by decide +kernel))
  obtain ⟨c4, i4, K4⟩ := u_known (n := 6) hx c_PR.2.1 (tb_at hts 211 (by decide +kernel))
  obtain ⟨c5, i5, K5⟩ := u_known (n := 15) hx c_MO.2.1 (tb_at hts 814 (by decide +kernel))
  obtain ⟨c6, i6, K6⟩ := u_known (n := 8) hx c_TS.2.1 (tb_at hts 820 (by decide +kernel))
  obtain ⟨c7, i7, K7⟩ := u_known (n := 6) hx c_NA.2.1 (tb_at hts 860 (by decide +kernel))
  obtain ⟨c8, i8, K8⟩ := u_known (n := 22) hx c_RD.2.1 (tb_at hts 885 (by decide +kernel))
  obtain ⟨c9, i9, K9⟩ := u_known (n := 7) hx c_PP.2.1 (tb_at hts 1002 (by decide +kernel))
  obtain ⟨c10, i10, K10⟩ := u_known (C := "java/lang/IllegalStateException") (T := F_IS) (N := 0) (n := 6) hx (fun w h => by simp [u_ws] at h) (tb_at hts 913 (by decide +kernel))
  obtain ⟨a0, kA0, comp0, f10, f20, f30⟩ := Cond.arrayClass_spec (args := args) (first := s) (o := none) (s := s) (idx := []) (type := .int) (tb_at hts 202 (by decide +kernel))
  obtain ⟨a1, kA1, comp1, f11, f21, f31⟩ := Cond.arrayClass_spec (args := args) (first := s) (o := none) (s := s) (idx := []) (type := .byte) (tb_at hts 144 (by decide +kernel))
  obtain ⟨a2, kA2, comp2, f12, f22, f32⟩ := Cond.arrayClass_spec (args := args) (first := s) (o := none) (s := s) (idx := []) (type := .long) (tb_at hts 858 (by decide +kernel))
  obtain ⟨comp3, a3, kA3, g1, -, g3, g4, g5⟩ := Cond.arrayOver_spec (args := args) (first := s) (o := none) (s := s) (idx := []) (n := "java/lang/String") (tb_at hts 891 (by decide +kernel))
  refine ⟨fun k => [a0, a1, a2, a3].getD k a0, (fun k => [c0, c1, c2, c3, c4, c5, c6, c7, c8, c9, c10].getD k c0, fun k => [i0, i1, i2, i3, i4, i5, i6, i7, i8, i9, i10].getD k i0), fun l sg L b n xs => ⟨fun k q hq => ?_, fun k q hq => ?_⟩⟩
  · match k, hq with
    | 0, hq => obtain rfl := Option.some.inj (c_TR.1.symm.trans hq); exact K0
    | 1, hq => obtain rfl := Option.some.inj (c_PA.1.symm.trans hq); exact K1
    | 2, hq => obtain rfl := Option.some.inj (c_SG.1.symm.trans hq); exact K2
    | 3, hq => obtain rfl := Option.some.inj (c_TE.1.symm.trans hq); exact K3
    | 4, hq => obtain rfl := Option.some.inj (c_PR.1.symm.trans hq); exact K4
    | 5, hq => obtain rfl := Option.some.inj (c_MO.1.symm.trans hq); exact K5
    | 6, hq => obtain rfl := Option.some.inj (c_TS.1.symm.trans hq); exact K6
    | 7, hq => obtain rfl := Option.some.inj (c_NA.1.symm.trans hq); exact K7
    | 8, hq => obtain rfl := Option.some.inj (c_RD.1.symm.trans hq); exact K8
    | 9, hq => obtain rfl := Option.some.inj (c_PP.1.symm.trans hq); exact K9
    | 10, hq => obtain rfl := Option.some.inj ((rfl : x_Cl[10]? = some ("java/lang/IllegalStateException", F_IS, 0)).symm.trans hq); exact K10
    | k + 11, hq => simp [x_Cl] at hq
  · match k, hq with
    | 0, hq => cases hq; exact ⟨fun N z => ⟨(fun k h => by cases h), kA0, f20, comp0, f30⟩, f10⟩
    | 1, hq => cases hq; exact ⟨fun N z => ⟨(fun k h => by cases h), kA1, f21, comp1, f31⟩, f11⟩
    | 2, hq => cases hq; exact ⟨fun N z => ⟨(fun k h => by cases h), kA2, f22, comp2, f32⟩, f12⟩
    | 3, hq => cases hq; exact ⟨fun N z => ⟨(fun k h => by cases h), kA3, g3, comp3, g4⟩, kA3, comp3, g3, g4, g1, g5⟩
    | k + 4, hq => simp [x_tys] at hq
theorem st_e1 {args : Array Value} {s : State} (hs : ∀ w ∈ st_W, w.before args s = true) (p : Nat) {t u : Term} {a : Nat} (ht : t.eval args s none [] s = some (.ref a)) (e : st_W[p]? = some (Cond.eq t u)) : u.eval args s none [] s = some (.ref a) := va_eqR (st_at hs p e) ht
/-- the Strings of the pools -/
theorem st_ev {args : Array Value} {s : State} (hs : ∀ w ∈ st_W, w.before args s = true) {adK : Nat → Nat} (hE : ∀ i : Nat, i < x_nS → (st_t i).eval args s none [] s = some (.ref (adK i))) : ∀ q ∈ x_Sr, (Term.string q.1 q.2.1).eval args s none [] s = some (.ref (adK (q.2.2.2 - 2000000))) := by
  exact List.forall_mem_cons.mpr ⟨hE 0 (by decide), List.forall_mem_cons.mpr ⟨hE 1 (by decide), List.forall_mem_cons.mpr ⟨hE 2 (by decide), List.forall_mem_cons.mpr ⟨hE 3 (by decide), List.forall_mem_cons.mpr ⟨hE 4 (by decide), List.forall_mem_cons.mpr ⟨hE 5 (by decide), List.forall_mem_cons.mpr ⟨hE 6 (by decide), List.forall_mem_cons.mpr ⟨hE 7 (by decide), List.forall_mem_cons.mpr ⟨hE 8 (by decide), List.forall_mem_cons.mpr ⟨hE 9 (by decide), List.forall_mem_cons.mpr ⟨hE 10 (by decide), List.forall_mem_cons.mpr ⟨hE 11 (by decide), List.forall_mem_cons.mpr ⟨hE 12 (by decide), List.forall_mem_cons.mpr ⟨hE 13 (by decide), List.forall_mem_cons.mpr ⟨hE 14 (by decide), List.forall_mem_cons.mpr ⟨hE 15 (by decide), List.forall_mem_cons.mpr ⟨hE 16 (by decide), List.forall_mem_cons.mpr ⟨hE 17 (by decide), List.forall_mem_cons.mpr ⟨hE 18 (by decide), List.forall_mem_cons.mpr ⟨hE 19 (by decide), List.forall_mem_cons.mpr ⟨hE 20 (by decide), List.forall_mem_cons.mpr ⟨hE 21 (by decide), List.forall_mem_cons.mpr ⟨hE 22 (by decide), List.forall_mem_cons.mpr ⟨hE 23 (by decide), List.forall_mem_cons.mpr ⟨hE 24 (by decide), List.forall_mem_cons.mpr ⟨hE 25 (by decide), List.forall_mem_cons.mpr ⟨st_e1 hs 639 (hE 5 (by decide)) (by decide +kernel), List.forall_mem_cons.mpr ⟨hE 26 (by decide), List.forall_mem_cons.mpr ⟨hE 27 (by decide), List.forall_mem_cons.mpr ⟨hE 28 (by decide), List.forall_mem_cons.mpr ⟨hE 29 (by decide), List.forall_mem_cons.mpr ⟨st_e1 hs 686 (hE 3 (by decide)) (by decide +kernel), List.forall_mem_cons.mpr ⟨hE 30 (by decide), List.forall_mem_cons.mpr ⟨st_e1 hs 698 (hE 4 (by decide)) (by decide +kernel), List.forall_mem_cons.mpr ⟨st_e1 hs 705 (hE 6 (by decide)) (by decide +kernel), List.forall_mem_cons.mpr ⟨hE 31 (by decide), List.forall_mem_cons.mpr ⟨hE 32 (by decide), List.forall_mem_cons.mpr ⟨st_e1 hs 721 (hE 11 (by decide)) (by decide +kernel), List.forall_mem_cons.mpr ⟨st_e1 hs 727 (hE 12 (by decide)) (by decide +kernel), List.forall_mem_cons.mpr ⟨st_e1 hs 734 (hE 13 (by decide)) (by decide +kernel), List.forall_mem_cons.mpr ⟨st_e1 hs 741 (hE 30 (by decide)) (by decide +kernel), List.forall_mem_cons.mpr ⟨st_e1 hs 747 (hE 14 (by decide)) (by decide +kernel), List.forall_mem_cons.mpr ⟨st_e1 hs 754 (hE 15 (by decide)) (by decide +kernel), List.forall_mem_cons.mpr ⟨st_e1 hs 761 (hE 16 (by decide)) (by decide +kernel), List.forall_mem_cons.mpr ⟨st_e1 hs 769 (hE 17 (by decide)) (by decide +kernel), List.forall_mem_cons.mpr ⟨st_e1 hs 776 (hE 18 (by decide)) (by decide +kernel), List.forall_mem_cons.mpr ⟨st_e1 hs 782 (hE 19 (by decide)) (by decide +kernel), List.forall_mem_cons.mpr ⟨st_e1 hs 788 (hE 20 (by decide)) (by decide +kernel), List.forall_mem_cons.mpr ⟨st_e1 hs 795 (hE 21 (by decide)) (by decide +kernel), List.forall_mem_cons.mpr ⟨st_e1 hs 802 (hE 22 (by decide)) (by decide +kernel), List.forall_mem_cons.mpr ⟨st_e1 hs 810 (hE 23 (by decide)) (by decide +kernel), List.forall_mem_cons.mpr ⟨st_e1 hs 818 (hE 24 (by decide)) (by decide +kernel), List.forall_mem_cons.mpr ⟨st_e1 hs 824 (hE 25 (by decide)) (by decide +kernel), List.forall_mem_cons.mpr ⟨st_e1 hs 830 (hE 5 (by decide)) (by decide +kernel), List.forall_mem_cons.mpr ⟨st_e1 hs 837 (hE 26 (by decide)) (by decide +kernel), List.forall_mem_cons.mpr ⟨st_e1 hs 844 (hE 27 (by decide)) (by decide +kernel), List.forall_mem_cons.mpr ⟨st_e1 hs 852 (hE 28 (by decide)) (by decide +kernel), List.forall_mem_cons.mpr ⟨st_e1 hs 860 (hE 29 (by decide)) (by decide +kernel), fun _ h => absurd h List.not_mem_nil⟩⟩⟩⟩⟩⟩⟩⟩⟩⟩⟩⟩⟩⟩⟩⟩⟩⟩⟩⟩⟩⟩⟩⟩⟩⟩⟩⟩⟩⟩⟩⟩⟩⟩⟩⟩⟩⟩⟩⟩⟩⟩⟩⟩⟩⟩⟩⟩⟩⟩⟩⟩⟩⟩⟩⟩⟩⟩
def st_rp : List Nat := [318, 365, 437, 467, 671, 678, 706, 720, 781, 793, 801, 892, 893, 894, 895, 896, 897, 898, 899, 900, 901, 902, 903, 904, 905, 906, 907, 908, 909, 910, 911, 1152, 1222, 1260, 1279, 1320, 1321, 1344, 1345, 1346, 1347, 1348, 1349, 1350, 1351, 1352, 1353, 1354, 1355, 1356, 1357, 1358, 1359, 1360, 1361, 1362, 1363, 1364]
def st_d : String × Nat × String × Nat := ("", 0, "", 0)
theorem st_rp_k : ∀ k, k < 58 → lw_tbl[st_rp.getD k 0]? = some (Cond.stringRef (x_Sr.getD k st_d).1 (x_Sr.getD k st_d).2.1 (x_Sr.getD k st_d).2.2.1) := by decide +kernel
theorem st_Sr {args : Array Value} {s : State} (hs : ∀ w ∈ st_W, w.before args s = true) (hts : ∀ w ∈ lw_tbl, w.before args s = true) {adK : Nat → Nat} (hE : ∀ i : Nat, i < x_nS → (st_t i).eval args s none [] s = some (.ref (adK i))) : ∀ q ∈ x_Sr, vk_R q.1 q.2.1 q.2.2.1 (adK (q.2.2.2 - 2000000)) s := by
  intro q hq
  obtain ⟨k, hk⟩ := List.getElem?_of_mem hq
  have hlt : k < x_Sr.length := (List.getElem?_eq_some_iff.mp hk).1
  have hn : x_Sr.length = 58 := by decide +kernel
  have h9 := st_rp_k k (by omega)
  have e : x_Sr.getD k st_d = q := by
    rw [List.getD_eq_getElem?_getD, hk]
    rfl
  rw [e] at h9
  exact vk_R.of (tb_at hts _ h9) (st_ev hs hE q hq)
/-- the operators' texts and their table -/
def st_oT : List Term := [.string "TermReader$Operator" 137, .string "TermReader$Operator" 143, .string "TermReader$Operator" 146, .string "TermReader$Operator" 149, .string "TermReader$Operator" 152, .string "TermReader$Operator" 155, .string "TermReader$Operator" 158, .string "TermReader$Operator" 161, .string "TermReader$Operator" 164, .string "TermReader$Operator" 167, .string "TermReader$Operator" 170, .string "TermReader$Operator" 173, .string "TermReader$Operator" 176, .string "TermReader$Operator" 179, .string "TermReader$Operator" 182, .string "TermReader$Operator" 185, .string "TermReader$Operator" 188, .string "TermReader$Operator" 191, .string "TermReader$Operator" 194, .string "TermReader$Operator" 197, .string "TermReader$Operator" 200, .string "TermReader$Operator" 203, .string "TermReader$Operator" 191, .string "TermReader$Operator" 207]
def st_oP : List Nat := [79, 86, 93, 37, 100, 107, 114, 121, 128, 135, 142, 149, 156, 162, 168, 174, 180, 186, 192, 198, 204, 210, 216, 44]
theorem st_oP_k : ∀ i, i < 24 → st_W[st_oP.getD i 0]? = some (Cond.eq (.field (.static "TermReader$Operator" (x_nmOP.getD i "") "LTermReader$Operator;") "TermReader$Operator" "text" "Ljava/lang/String;") (st_oT.getD i (.int 0))) := by decide +kernel
theorem st_oQ : ∀ i, i < 24 → ∃ q ∈ x_Sr, st_oT.getD i (.int 0) = Term.string q.1 q.2.1 ∧ q.2.2.2 - 2000000 = x_txOP.getD i 0 := by decide +kernel
theorem st_tx {args : Array Value} {s : State} (hs : ∀ w ∈ st_W, w.before args s = true) {adK adO : Nat → Nat} (hE : ∀ i : Nat, i < x_nS → (st_t i).eval args s none [] s = some (.ref (adK i))) (hO : ∀ i, i < 24 → (Term.static "TermReader$Operator" (x_nmOP.getD i "") "LTermReader$Operator;").eval args s none [] s = some (.ref (adO i))) : va_Ef 24 "TermReader$Operator" "text" "Ljava/lang/String;" (fun i => .ref (adK (x_txOP.getD i 0))) adO (fun q : Nat => s.heap.size ≤ q) s s.heap :=
  va_Efof (tm := fun i => st_oT.getD i (.int 0)) hO (fun i hi => st_at hs _ (st_oP_k i hi)) (fun i hi => by
    obtain ⟨q, hq, e1, e2⟩ := st_oQ i hi
    show (st_oT.getD i (.int 0)).eval args s none [] s = some (.ref (adK (x_txOP.getD i 0)))
    rw [e1, ← e2]
    exact st_ev hs hE q hq) (fun a h9 => Nat.not_le.mpr h9)
def st_aP : List Nat := [53, 54, 55, 56, 57, 58, 59, 60, 61, 62, 63, 64, 65, 66, 67, 68, 69, 70, 71, 72, 73, 74, 75, 76]
theorem st_aP_k : ∀ j, j < 24 → st_W[st_aP.getD j 0]? = some (Cond.eq (.elem (.static "TermReader$Operator" "ALL" "[LTermReader$Operator;") (.int (Int32.ofNat j))) (.static "TermReader$Operator" (x_nmOP.getD j "") "LTermReader$Operator;")) := by decide +kernel
theorem st_all {args : Array Value} {s : State} (hs : ∀ w ∈ st_W, w.before args s = true) {adO : Nat → Nat} (hO : ∀ i, i < 24 → (Term.static "TermReader$Operator" (x_nmOP.getD i "") "LTermReader$Operator;").eval args s none [] s = some (.ref (adO i))) : ∃ tA : Nat, (Term.static "TermReader$Operator" "ALL" "[LTermReader$Operator;").eval args s none [] s = some (.ref tA) ∧ va_T (.object "TermReader$Operator") tA 24 (fun j => .ref (adO j)) (fun q : Nat => s.heap.size ≤ q) s s.heap :=
  va_Tof (by decide) (st_at hs 50 (by decide +kernel)) (va_eqt (st_at hs 51 (by decide +kernel))) (fun j hj => va_eqv (st_at hs _ (st_aP_k j hj)) (hO j hj)) (fun a h9 => Nat.not_le.mpr h9)
theorem st_fm {args : Array Value} {s : State} (hs : ∀ w ∈ st_W, w.before args s = true) (hts : ∀ w ∈ lw_tbl, w.before args s = true) : ∃ tF : Nat, va_Z "jdk/internal/util/Preconditions" "SIOOBE_FORMATTER" "Ljava/util/function/BiFunction;" .null (fun q : Nat => s.heap.size ≤ q) s s.heap ∨ va_Z "jdk/internal/util/Preconditions" "SIOOBE_FORMATTER" "Ljava/util/function/BiFunction;" (.ref tF) (fun q : Nat => s.heap.size ≤ q) s s.heap := by
  have h : va_Zq "jdk/internal/util/Preconditions" "SIOOBE_FORMATTER" "Ljava/util/function/BiFunction;" (fun q : Nat => s.heap.size ≤ q) s s.heap := va_Zqof (tb_at hts 522 (by decide +kernel)) (tb_at hts 88 (by decide +kernel)) (st_at hs 15 (by decide +kernel)) (fun a h9 => Nat.not_le.mpr h9)
  rcases h with h | ⟨t, h⟩
  · exact ⟨0, Or.inl h⟩
  · exact ⟨t, Or.inr h⟩
theorem st_start {l : Launch} {s : State} {args : Array Value} {b L : Nat} {xs : Nat → Int32} (hl : l.stackTraces = false) (hs : ∀ w ∈ st_W, w.before args s = true) (hts : ∀ w ∈ lw_tbl, w.before args s = true) (hX : va_X b L xs s s.heap) (hbl : b < s.heap.size) :
    ∃ (sg : Nat → Nat) (cT : Nat → ClassId) (D : va_G), sg 4000000 = b ∧ x_T (l, sg, cT, D, s.heap.size, true, L, xs) s ∧ va_K D x_Cl (x_tys (l, sg, cT, D, s.heap.size, true, L, xs)) s := by
  have hA : ∀ a : Nat, a < s.heap.size → ¬ (fun q : Nat => s.heap.size ≤ q) a := fun a h9 => Nat.not_le.mpr h9
  obtain ⟨adK, adV, hZs, hE⟩ := st_str hs
  obtain ⟨adS, hZS, hS⟩ := st_SN hs hts
  obtain ⟨adO, hZO, hO⟩ := st_OP hs hts
  obtain ⟨tA, eA, hTA⟩ := st_all hs hO
  obtain ⟨tF, hF⟩ := st_fm hs hts
  obtain ⟨cT, D, hK⟩ := st_K hts
  have hsr := st_Sr hs hts hE
  have htx := st_tx hs hE hO
  have hZA : va_Z "TermReader$Operator" "ALL" "[LTermReader$Operator;" (.ref tA) (fun q : Nat => s.heap.size ≤ q) s s.heap := va_Zof (tb_at hts 612 (by decide +kernel)) (tb_at hts 90 (by decide +kernel)) eA hA
  have hZC : va_Z "java/lang/String" "COMPACT_STRINGS" "Z" (.int 1) (fun q : Nat => s.heap.size ≤ q) s s.heap := va_Zof (tb_at hts 481 (by decide +kernel)) (tb_at hts 85 (by decide +kernel)) (va_eqt (st_at hs 14 (by decide +kernel))) hA
  obtain ⟨scr, q1, q2, q3, q4, q5⟩ := hX
  have hTb : va_T .int b L (fun j => .int (xs j)) (fun q : Nat => s.heap.size ≤ q) s s.heap := ⟨scr, q1, q2, q3, Nat.le_of_eq q4.symm, by rw [q4], q5, Nat.not_le.mpr hbl⟩
  have hU1 : vx_Zq Bundle.tN "UNASSIGNED_STACK" Bundle.steD (fun q : Nat => s.heap.size ≤ q) s s.heap := vx_Zqof (tb_at hts 303 (by decide +kernel)) (tb_at hts 76 (by decide +kernel)) (st_at hs 6 (by decide +kernel)) hA
  have hU2 : vx_Zq Bundle.tN "SUPPRESSED_SENTINEL" Bundle.listD (fun q : Nat => s.heap.size ≤ q) s s.heap := vx_Zqof (tb_at hts 305 (by decide +kernel)) (tb_at hts 76 (by decide +kernel)) (st_at hs 7 (by decide +kernel)) hA
  have hNc : va_Nc "java/lang/IndexOutOfBoundsException" "java/lang/UnsupportedOperationException" s := va_Nc.of (st_at hs 262 (by decide +kernel))
  refine ⟨st_sg adS adO adK adV tA b tF, cT, D, st_sgB _ _ _ _ _ _ _, ⟨fun w hw => x_word (State.WarmedH.refl s) (x_Tw_ok hw) (hts w (List.mem_filter.mp hw).1), fun w hw => st_Nw (List.mem_filter.mp hw).2 (hts w (List.mem_filter.mp hw).1), fun q hq => ?_, ⟨hU1, hU2, hNc, hl, ?_, ?_, ?_, fun i hi => ?_, ?_, ?_, hZC, ?_, ?_⟩⟩, hK _ _ _ _ _ _⟩
  · show vk_R q.1 q.2.1 q.2.2.1 (st_sg adS adO adK adV tA b tF q.2.2.2) s
    rw [st_Srid _ _ _ _ _ _ _ hq]
    exact hsr q hq
  · exact st_Sx hZs (fun i hi => st_sgK _ _ _ _ _ _ _ i hi) (fun i hi => st_sgV _ _ _ _ _ _ _ i hi)
  · exact st_Ex hZS (fun i hi => st_sgS _ _ _ _ _ _ _ i hi)
  · exact st_Ex hZO (fun i hi => st_sgO _ _ _ _ _ _ _ i hi)
  · show va_OF "TermReader$Operator" "text" "Ljava/lang/String;" (.ref (st_sg adS adO adK adV tA b tF (2000000 + x_txOP.getD i 0))) (st_sg adS adO adK adV tA b tF (1100000 + i)) (fun q : Nat => s.heap.size ≤ q) s s.heap
    rw [st_sgK _ _ _ _ _ _ _ _ (st_txlt i hi), st_sgO _ _ _ _ _ _ _ i hi]
    exact htx i hi
  · show va_Z "TermReader$Operator" "ALL" "[LTermReader$Operator;" (.ref (st_sg adS adO adK adV tA b tF 1200000)) (fun q : Nat => s.heap.size ≤ q) s s.heap
    rw [st_sgA]
    exact hZA
  · show va_T (.object "TermReader$Operator") (st_sg adS adO adK adV tA b tF 1200000) 24 (fun j => .ref (st_sg adS adO adK adV tA b tF (1100000 + j))) (fun q : Nat => s.heap.size ≤ q) s s.heap
    rw [st_sgA]
    exact st_Tx hTA (fun j hj => by rw [st_sgO _ _ _ _ _ _ _ j hj])
  · show va_T .int (st_sg adS adO adK adV tA b tF 4000000) L (fun j => .int (xs j)) (fun q : Nat => s.heap.size ≤ q) s s.heap
    rw [st_sgB]
    exact hTb
  · show va_Z "jdk/internal/util/Preconditions" "SIOOBE_FORMATTER" "Ljava/util/function/BiFunction;" .null (fun q : Nat => s.heap.size ≤ q) s s.heap ∨ va_Z "jdk/internal/util/Preconditions" "SIOOBE_FORMATTER" "Ljava/util/function/BiFunction;" (.ref (st_sg adS adO adK adV tA b tF 5000000)) (fun q : Nat => s.heap.size ≤ q) s s.heap
    rw [st_sgF]
    exact hF
